def tz2 (a : Nat) : Bool := Nat.beq a 0 || ((List.range 12).any fun x => Nat.beq ((a ^^^ 4294967295) &&& (a - 1)) (2 ^ x - 1) && Nat.testBit a x)
theorem tz_a : ∀ i, i < 64 → ∀ j, j < 64 → tz2 (64 * i + j) = true := by decide +kernel
theorem tz_0 {a : Int} (h : 1 ≤ a) : Nat.beq a.toNat 0 = false := by
  cases z : Nat.beq a.toNat 0
  · rfl
  · have := Nat.eq_of_beq_eq_true z
    omega
theorem tz_x {a : Int} (h : 1 ≤ a ∧ a ≤ 4095) : an_ (xo_ a (-1)) (a - 1) = (((a.toNat ^^^ 4294967295) &&& (a.toNat - 1) : Nat) : Int) := by
  have m1 : (Int32.ofInt (-1)).toBitVec.toNat = 4294967295 := by decide +kernel
  have m2 : (a - 1).toNat = a.toNat - 1 := by omega
  have e : (((Int32.ofInt a).toBitVec ^^^ (Int32.ofInt (-1)).toBitVec) &&& (Int32.ofInt (a - 1)).toBitVec).toNat = (a.toNat ^^^ 4294967295) &&& (a.toNat - 1) := by
    rw [BitVec.toNat_and, BitVec.toNat_xor, i3_n (x := a) ⟨by omega, by omega⟩, i3_n (x := a - 1) ⟨by omega, by omega⟩, m1, m2]
  have l : (a.toNat ^^^ 4294967295) &&& (a.toNat - 1) ≤ a.toNat - 1 := Nat.and_le_right
  show (Int32.ofInt ((Int32.ofInt a ^^^ Int32.ofInt (-1)).toInt) &&& Int32.ofInt (a - 1)).toInt = _
  rw [Int32.ofInt_toInt]
  show (((Int32.ofInt a).toBitVec ^^^ (Int32.ofInt (-1)).toBitVec) &&& (Int32.ofInt (a - 1)).toBitVec).toInt = _
  rw [bv_i (by rw [e]; exact Nat.lt_of_le_of_lt l (by omega)), e]
theorem us_m9 {v k : Int} {m : Nat} (h : 0 ≤ v ∧ v ≤ 2047) (hk : ((Int32.ofInt k).toUInt32 &&& Int32.toUInt32 31).toNat % 32 = m) : us_ v k = ((v.toNat >>> m : Nat) : Int) := by
  have h0 : (Int32.ofInt v).toUInt32.toNat = v.toNat := i3_n ⟨h.1, by omega⟩
  have e : ((Int32.ofInt v).toUInt32 >>> ((Int32.ofInt k).toUInt32 &&& Int32.toUInt32 31)).toNat = v.toNat >>> m := by
    rw [UInt32.toNat_shiftRight, h0, hk]
  have l : v.toNat >>> m ≤ v.toNat := by rw [Nat.shiftRight_eq_div_pow]; exact Nat.div_le_self _ _
  have e2 : ((Int32.ofInt v).toUInt32 >>> ((Int32.ofInt k).toUInt32 &&& Int32.toUInt32 31)).toBitVec.toNat = v.toNat >>> m := e
  show ((Int32.ofInt v).toUInt32 >>> ((Int32.ofInt k).toUInt32 &&& Int32.toUInt32 31)).toBitVec.toInt = _
  rw [bv_i (by rw [e2]; exact Nat.lt_of_le_of_lt l (by omega)), e2]
def ne2 (d : Nat) : Bool := Nat.beq d 0 || !(Nat.beq ((4294967296 - d) &&& d) 0)
theorem ne_a : ∀ i, i < 64 → ∀ j, j < 64 → ne2 (64 * i + j) = true := by decide +kernel
theorem us_q {v : Int} (h : 0 ≤ v ∧ v ≤ 2047) : us_ v 8 = v / 256 ∧ us_ v 4 = v / 16 ∧ us_ v 2 = v / 4 ∧ us_ v 1 = v / 2 := by
  refine ⟨(us_m9 (m := 8) h (by decide +kernel)).trans ?_, (us_m9 (m := 4) h (by decide +kernel)).trans ?_, (us_m9 (m := 2) h (by decide +kernel)).trans ?_, (us_m9 (m := 1) h (by decide +kernel)).trans ?_⟩
  · rw [Nat.shiftRight_eq_div_pow]
    show ((v.toNat / 256 : Nat) : Int) = v / 256
    omega
  · rw [Nat.shiftRight_eq_div_pow]
    show ((v.toNat / 16 : Nat) : Int) = v / 16
    omega
  · rw [Nat.shiftRight_eq_div_pow]
    show ((v.toNat / 4 : Nat) : Int) = v / 4
    omega
  · rw [Nat.shiftRight_eq_div_pow]
    show ((v.toNat / 2 : Nat) : Int) = v / 2
    omega
/-- the zeros behind a number: its lowest bit -/
theorem tz_q {a : Int} (h : 1 ≤ a ∧ a ≤ 4095) : ∃ x : Nat, x < 12 ∧ an_ (xo_ a (-1)) (a - 1) = ((2 ^ x : Nat) : Int) - 1 ∧ an_ (sr_ a (x : Int)) 1 = 1 := by
  have h1 := tz_a (a.toNat / 64) (by omega) (a.toNat % 64) (by omega)
  rw [Nat.div_add_mod] at h1
  unfold tz2 at h1
  rw [tz_0 h.1, Bool.false_or, List.any_eq_true] at h1
  obtain ⟨x, a1, a2⟩ := h1
  simp only [Bool.and_eq_true] at a2
  have e1 := Nat.eq_of_beq_eq_true a2.1
  have a3 : x < 12 := List.mem_range.mp a1
  refine ⟨x, a3, ?_, ?_⟩
  · rw [tz_x h, e1]
    have q : ∀ y : Nat, 0 < y → ((y - 1 : Nat) : Int) = (y : Int) - 1 := fun y hy => by omega
    exact q _ (Nat.two_pow_pos x)
  · rw [bt_n (x := a) (k := (x : Int)) ⟨by omega, by omega⟩ ⟨by omega, by omega⟩]
    unfold bt_
    rw [show ((x : Nat) : Int).toNat = x by omega, if_pos a2.2]
theorem ne_q {d : Int} (h : 1 ≤ d ∧ d ≤ 4095) : an_ (-d) d ≠ 0 := by
  have h1 := ne_a (d.toNat / 64) (by omega) (d.toNat % 64) (by omega)
  rw [Nat.div_add_mod] at h1
  have m1 : (Int32.ofInt (-d)).toBitVec.toNat = 4294967296 - d.toNat := by
    show (BitVec.ofInt 32 (-d)).toNat = _
    rw [BitVec.toNat_ofInt]; omega
  have e : ((Int32.ofInt (-d)).toBitVec &&& (Int32.ofInt d).toBitVec).toNat = (4294967296 - d.toNat) &&& d.toNat := by
    rw [BitVec.toNat_and, m1, i3_n (x := d) ⟨by omega, by omega⟩]
  have l : (4294967296 - d.toNat) &&& d.toNat ≤ d.toNat := Nat.and_le_right
  have e2 : an_ (-d) d = (((4294967296 - d.toNat) &&& d.toNat : Nat) : Int) := by
    show ((Int32.ofInt (-d)).toBitVec &&& (Int32.ofInt d).toBitVec).toInt = _
    rw [bv_i (by rw [e]; exact Nat.lt_of_le_of_lt l (by omega)), e]
  rw [e2]
  intro z
  have q : ∀ y : Nat, (y : Int) = 0 → y = 0 := fun y hy => by omega
  have z1 := q _ z
  unfold ne2 at h1
  rw [tz_0 h.1, z1] at h1
  exact absurd h1 (by decide)
theorem pb_and (x y : Nat) : (x &&& y) % 2 = 1 ↔ x % 2 = 1 ∧ y % 2 = 1 := by
  have h := Nat.testBit_and x y 0
  simp only [Nat.testBit_zero] at h
  have e : decide ((x &&& y) % 2 = 1) = true ↔ (decide (x % 2 = 1) && decide (y % 2 = 1)) = true := by rw [h]
  rw [decide_eq_true_iff, Bool.and_eq_true, decide_eq_true_iff, decide_eq_true_iff] at e
  exact e
theorem nb_sub (o : Nat) : ∀ s, s &&& o = s → s ≤ o ∧ (o - s) &&& o = o - s := by
  induction o using Nat.strongRecOn with
  | _ o ih =>
    intro s h
    by_cases z : o = 0
    · subst z
      have : s = 0 := by rw [Nat.and_zero] at h; exact h.symm
      subst this
      exact ⟨Nat.le_refl _, rfl⟩
    · have hd : (s / 2) &&& (o / 2) = s / 2 := by rw [← Nat.and_div_two, h]
      have hp : s % 2 = 1 → o % 2 = 1 := fun q => ((pb_and s o).mp (by rw [h]; exact q)).2
      obtain ⟨h1, h2⟩ := ih (o / 2) (by omega) (s / 2) hd
      have e1 : (o - s) / 2 = o / 2 - s / 2 := by omega
      have a1 : ((o - s) &&& o) / 2 = (o - s) / 2 := by rw [Nat.and_div_two, e1]; exact h2
      have a2 : ((o - s) &&& o) % 2 = 1 ↔ (o - s) % 2 = 1 := by
        rw [pb_and]
        omega
      exact ⟨by omega, by omega⟩
theorem an_le {x o : Int} (ho : 0 ≤ o ∧ o ≤ 4095) : 0 ≤ an_ x o ∧ an_ x o ≤ 4095 := by
  have h0 : (Int32.ofInt o).toBitVec.toNat = o.toNat := i3_n (by omega)
  have h : ((Int32.ofInt x).toBitVec &&& (Int32.ofInt o).toBitVec).toNat ≤ o.toNat := by
    rw [BitVec.toNat_and, h0]; exact Nat.and_le_right
  show 0 ≤ ((Int32.ofInt x).toBitVec &&& (Int32.ofInt o).toBitVec).toInt ∧ ((Int32.ofInt x).toBitVec &&& (Int32.ofInt o).toBitVec).toInt ≤ 4095
  rw [BitVec.toInt_eq_toNat_cond]
  split <;> omega
theorem i3_b (v : Int32) : Int32.ofInt v.toInt = v := Int32.ofInt_toInt v
theorem an_id (x o : Int) : an_ (an_ x o) o = an_ x o := by
  unfold an_
  rw [i3_b, Int32.and_assoc, Int32.and_self]
/-- the next set below another: it is not empty -/
theorem nx_1 {s o : Int} (ho : 0 ≤ o ∧ o ≤ 4095) (hs : 0 ≤ s ∧ s < 4096) (h : an_ s o = s) (hne : s ≠ o) : 1 ≤ an_ (s - o) o ∧ an_ (s - o) o ≤ 4095 ∧ an_ (an_ (s - o) o) o = an_ (s - o) o := by
  have hb := an_le (x := s - o) ho
  refine ⟨?_, hb.2, an_id _ _⟩
  by_cases z : an_ (s - o) o = 0
  · exfalso
    obtain ⟨h1, h2⟩ := nb_sub o.toNat s.toNat ((an_z ho hs).mp h)
    have hd : an_ (o - s) o = o - s := by
      refine (an_z ho (by omega)).mpr ?_
      rw [show (o - s).toNat = o.toNat - s.toNat by omega]
      exact h2
    refine ne_q (d := o - s) (by omega) ?_
    have e1 : Int32.ofInt (o - s) = Int32.ofInt o &&& Int32.ofInt (o - s) := by
      have := congrArg Int32.ofInt hd
      unfold an_ at this
      rw [i3_b, Int32.and_comm] at this
      exact this.symm
    have e2 : Int32.ofInt (s - o) &&& Int32.ofInt o = 0 := by
      have := congrArg Int32.ofInt z
      unfold an_ at this
      rw [i3_b] at this
      exact this
    unfold an_
    rw [show -(o - s) = s - o by omega, e1, ← Int32.and_assoc, e2, Int32.zero_and]
    rfl
  · omega
theorem nx_b {s o x : Int} (ho : 0 ≤ o ∧ o ≤ 4095) (hs : 0 ≤ s ∧ s < 4096) (h : an_ s o = s) (hx : 0 ≤ x ∧ x < 32) (hb : an_ (sr_ s x) 1 = 1) : an_ (sr_ o x) 1 = 1 := by
  rw [bt_n (by omega) hx] at hb ⊢
  unfold bt_ at hb ⊢
  have h1 := (an_z ho hs).mp h
  by_cases z : s.toNat.testBit x.toNat = true
  · rw [← h1, Nat.testBit_and, Bool.and_eq_true] at z
    rw [if_pos z.2]
  · rw [if_neg z] at hb
    omega
theorem sl_q {w : Int} (h : 0 ≤ w ∧ w ≤ 11) : sl_ 1 w = ((2 ^ w.toNat : Nat) : Int) := by
  have : w = 0 ∨ w = 1 ∨ w = 2 ∨ w = 3 ∨ w = 4 ∨ w = 5 ∨ w = 6 ∨ w = 7 ∨ w = 8 ∨ w = 9 ∨ w = 10 ∨ w = 11 := by omega
  rcases this with rfl | rfl | rfl | rfl | rfl | rfl | rfl | rfl | rfl | rfl | rfl | rfl <;> decide
theorem or_bit {o q x : Int} (ho : 0 ≤ o ∧ o ≤ 4095) (hq : 0 ≤ q ∧ q ≤ 11) (hx : 0 ≤ x ∧ x ≤ 11) (h : an_ (sr_ (or_ o (sl_ 1 q)) x) 1 = 1) : an_ (sr_ o x) 1 = 1 ∨ x = q := by
  have hb := sl_b hq
  have ho2 := or_b ho hb
  rw [bt_n (by omega) (by omega)] at h
  rw [bt_n (by omega) (by omega)]
  unfold bt_ at h ⊢
  rw [or_n (by omega) (by omega), Int.toNat_natCast, Nat.testBit_or, sl_q hq, Int.toNat_natCast, Nat.testBit_two_pow] at h
  by_cases z : o.toNat.testBit x.toNat = true
  · exact Or.inl (by rw [if_pos z])
  · by_cases y : q.toNat = x.toNat
    · exact Or.inr (by omega)
    · simp [z, y] at h
/-- only clubs with a seat are in the set -/
def OB_ (T : Zt) (c o : Int) : Prop := ∀ x, 0 ≤ x → x ≤ 11 → an_ (sr_ o x) 1 = 1 → 0 ≤ T 404 c x
theorem ob_0 (T : Zt) (c : Int) : OB_ T c 0 := fun x a b h => by
  have : an_ (sr_ 0 x) 1 = 0 := by
    rw [bt_n (by omega) (by omega)]
    unfold bt_
    simp
  omega
theorem ob_s {T : Zt} {c o q : Int} (h : OB_ T c o) (ho : 0 ≤ o ∧ o ≤ 4095) (hq : 0 ≤ q ∧ q ≤ 11) (g : 0 ≤ T 404 c q) : OB_ T c (or_ o (sl_ 1 q)) := fun x a b e => by
  rcases or_bit ho hq ⟨a, b⟩ e with z | z
  · exact h x a b z
  · rw [z]; exact g
theorem or_0 {o : Int} (ho : 0 ≤ o ∧ o ≤ 4095) : or_ o 0 = o := by
  unfold or_
  rw [show Int32.ofInt 0 = 0 from rfl, Int32.or_zero]
  exact i3_t (by omega) (by omega)
abbrev cJ6_numberOfTrailingZeros_0f7a4 : ByteArray := prog_15_method_48_code
def yJ6_numberOfTrailingZeros_0f7a4 : MethodName := ⟨RJ6, "numberOfTrailingZeros", "(I)I"⟩
def zJ6_numberOfTrailingZeros_0f7a4 : Zm := (RJ6, cJ6_numberOfTrailingZeros_0f7a4, 2, (some .int), { frames := 0, cells := 0, slots := 0, locals := 0 })
theorem bk_J6_numberOfTrailingZeros_0f7a4_0 : ck_ fJ6 (some .int) cJ6_numberOfTrailingZeros_0f7a4 0 [.iload 0, .iconst (-1), .ixor, .iload 0, .iconst 1, .isub, .iand, .istore 0, .iload 0, .ifCond .gt 17, .iload 0, .iconst 32, .iand, .ireturn] 17 = true := qck_r (nn_ _) (by decide +kernel)
theorem bs_J6_numberOfTrailingZeros_0f7a4_0 {P : Zt → Option Zv → Prop} (K : Int → Zl → List Zv → Zt → Prop) : sx_ K P [.iload 0, .iconst (-1), .ixor, .iload 0, .iconst 1, .isub, .iand, .istore 0, .iload 0, .ifCond .gt 17, .iload 0, .iconst 32, .iand, .ireturn] 17 = x_iload 0 (x_iconst (-1) (x_ixor (x_iload 0 (x_iconst 1 (x_isub (x_iand (x_istore 0 (x_iload 0 (x_ifCond .gt 17 K (x_iload 0 (x_iconst 32 (x_iand (x_ireturn P))))))))))))) := ((xe_iload 0).trans (congrArg (x_iload 0) ((xe_iconst (-1)).trans (congrArg (x_iconst (-1)) ((xe_ixor).trans (congrArg (x_ixor) ((xe_iload 0).trans (congrArg (x_iload 0) ((xe_iconst 1).trans (congrArg (x_iconst 1) ((xe_isub).trans (congrArg (x_isub) ((xe_iand).trans (congrArg (x_iand) ((xe_istore 0).trans (congrArg (x_istore 0) ((xe_iload 0).trans (congrArg (x_iload 0) ((xe_ifCond .gt 17).trans (congrArg (x_ifCond .gt 17 K) ((xe_iload 0).trans (congrArg (x_iload 0) ((xe_iconst 32).trans (congrArg (x_iconst 32) ((xe_iand).trans (congrArg (x_iand) (xe_ireturn)))))))))))))))))))))))))))
theorem bk_J6_numberOfTrailingZeros_0f7a4_17 : ck_ fJ6 (some .int) cJ6_numberOfTrailingZeros_0f7a4 17 [.iconst 1, .istore 1, .iload 0, .iconst 65536, .if_icmp .le 34, .iinc 1 16, .iload 0, .iconst 16, .iushr, .istore 0, .iload 0, .iconst 256, .if_icmp .le 49, .iinc 1 8, .iload 0, .iconst 8, .iushr, .istore 0, .iload 0, .iconst 16, .if_icmp .le 62, .iinc 1 4, .iload 0, .iconst 4, .iushr, .istore 0, .iload 0, .iconst 4, .if_icmp .le 74, .iinc 1 2, .iload 0, .iconst 2, .iushr, .istore 0, .iload 1, .iload 0, .iconst 1, .iushr, .iadd, .ireturn] 80 = true := qck_r (nn_ _) (by decide +kernel)
theorem bs_J6_numberOfTrailingZeros_0f7a4_17 {P : Zt → Option Zv → Prop} (K : Int → Zl → List Zv → Zt → Prop) : sx_ K P [.iconst 1, .istore 1, .iload 0, .iconst 65536, .if_icmp .le 34, .iinc 1 16, .iload 0, .iconst 16, .iushr, .istore 0, .iload 0, .iconst 256, .if_icmp .le 49, .iinc 1 8, .iload 0, .iconst 8, .iushr, .istore 0, .iload 0, .iconst 16, .if_icmp .le 62, .iinc 1 4, .iload 0, .iconst 4, .iushr, .istore 0, .iload 0, .iconst 4, .if_icmp .le 74, .iinc 1 2, .iload 0, .iconst 2, .iushr, .istore 0, .iload 1, .iload 0, .iconst 1, .iushr, .iadd, .ireturn] 80 = x_iconst 1 (x_istore 1 (x_iload 0 (x_iconst 65536 (x_if_icmp .le 34 K (x_iinc 1 16 (x_iload 0 (x_iconst 16 (x_iushr (x_istore 0 (x_iload 0 (x_iconst 256 (x_if_icmp .le 49 K (x_iinc 1 8 (x_iload 0 (x_iconst 8 (x_iushr (x_istore 0 (x_iload 0 (x_iconst 16 (x_if_icmp .le 62 K (x_iinc 1 4 (x_iload 0 (x_iconst 4 (x_iushr (x_istore 0 (x_iload 0 (x_iconst 4 (x_if_icmp .le 74 K (x_iinc 1 2 (x_iload 0 (x_iconst 2 (x_iushr (x_istore 0 (x_iload 1 (x_iload 0 (x_iconst 1 (x_iushr (x_iadd (x_ireturn P))))))))))))))))))))))))))))))))))))))) := ((xe_iconst 1).trans (congrArg (x_iconst 1) ((xe_istore 1).trans (congrArg (x_istore 1) ((xe_iload 0).trans (congrArg (x_iload 0) ((xe_iconst 65536).trans (congrArg (x_iconst 65536) ((xe_if_icmp .le 34).trans (congrArg (x_if_icmp .le 34 K) ((xe_iinc 1 16).trans (congrArg (x_iinc 1 16) ((xe_iload 0).trans (congrArg (x_iload 0) ((xe_iconst 16).trans (congrArg (x_iconst 16) ((xe_iushr).trans (congrArg (x_iushr) ((xe_istore 0).trans (congrArg (x_istore 0) ((xe_iload 0).trans (congrArg (x_iload 0) ((xe_iconst 256).trans (congrArg (x_iconst 256) ((xe_if_icmp .le 49).trans (congrArg (x_if_icmp .le 49 K) ((xe_iinc 1 8).trans (congrArg (x_iinc 1 8) ((xe_iload 0).trans (congrArg (x_iload 0) ((xe_iconst 8).trans (congrArg (x_iconst 8) ((xe_iushr).trans (congrArg (x_iushr) ((xe_istore 0).trans (congrArg (x_istore 0) ((xe_iload 0).trans (congrArg (x_iload 0) ((xe_iconst 16).trans (congrArg (x_iconst 16) ((xe_if_icmp .le 62).trans (congrArg (x_if_icmp .le 62 K) ((xe_iinc 1 4).trans (congrArg (x_iinc 1 4) ((xe_iload 0).trans (congrArg (x_iload 0) ((xe_iconst 4).trans (congrArg (x_iconst 4) ((xe_iushr).trans (congrArg (x_iushr) ((xe_istore 0).trans (congrArg (x_istore 0) ((xe_iload 0).trans (congrArg (x_iload 0) ((xe_iconst 4).trans (congrArg (x_iconst 4) ((xe_if_icmp .le 74).trans (congrArg (x_if_icmp .le 74 K) ((xe_iinc 1 2).trans (congrArg (x_iinc 1 2) ((xe_iload 0).trans (congrArg (x_iload 0) ((xe_iconst 2).trans (congrArg (x_iconst 2) ((xe_iushr).trans (congrArg (x_iushr) ((xe_istore 0).trans (congrArg (x_istore 0) ((xe_iload 1).trans (congrArg (x_iload 1) ((xe_iload 0).trans (congrArg (x_iload 0) ((xe_iconst 1).trans (congrArg (x_iconst 1) ((xe_iushr).trans (congrArg (x_iushr) ((xe_iadd).trans (congrArg (x_iadd) (xe_ireturn)))))))))))))))))))))))))))))))))))))))))))))))))))))))))))))))))))))))))))))))
theorem bk_J6_numberOfTrailingZeros_0f7a4_34 : ck_ fJ6 (some .int) cJ6_numberOfTrailingZeros_0f7a4 34 [.iload 0, .iconst 256, .if_icmp .le 49, .iinc 1 8, .iload 0, .iconst 8, .iushr, .istore 0, .iload 0, .iconst 16, .if_icmp .le 62, .iinc 1 4, .iload 0, .iconst 4, .iushr, .istore 0, .iload 0, .iconst 4, .if_icmp .le 74, .iinc 1 2, .iload 0, .iconst 2, .iushr, .istore 0, .iload 1, .iload 0, .iconst 1, .iushr, .iadd, .ireturn] 80 = true := qck_r (nn_ _) (by decide +kernel)
theorem bs_J6_numberOfTrailingZeros_0f7a4_34 {P : Zt → Option Zv → Prop} (K : Int → Zl → List Zv → Zt → Prop) : sx_ K P [.iload 0, .iconst 256, .if_icmp .le 49, .iinc 1 8, .iload 0, .iconst 8, .iushr, .istore 0, .iload 0, .iconst 16, .if_icmp .le 62, .iinc 1 4, .iload 0, .iconst 4, .iushr, .istore 0, .iload 0, .iconst 4, .if_icmp .le 74, .iinc 1 2, .iload 0, .iconst 2, .iushr, .istore 0, .iload 1, .iload 0, .iconst 1, .iushr, .iadd, .ireturn] 80 = x_iload 0 (x_iconst 256 (x_if_icmp .le 49 K (x_iinc 1 8 (x_iload 0 (x_iconst 8 (x_iushr (x_istore 0 (x_iload 0 (x_iconst 16 (x_if_icmp .le 62 K (x_iinc 1 4 (x_iload 0 (x_iconst 4 (x_iushr (x_istore 0 (x_iload 0 (x_iconst 4 (x_if_icmp .le 74 K (x_iinc 1 2 (x_iload 0 (x_iconst 2 (x_iushr (x_istore 0 (x_iload 1 (x_iload 0 (x_iconst 1 (x_iushr (x_iadd (x_ireturn P))))))))))))))))))))))))))))) := ((xe_iload 0).trans (congrArg (x_iload 0) ((xe_iconst 256).trans (congrArg (x_iconst 256) ((xe_if_icmp .le 49).trans (congrArg (x_if_icmp .le 49 K) ((xe_iinc 1 8).trans (congrArg (x_iinc 1 8) ((xe_iload 0).trans (congrArg (x_iload 0) ((xe_iconst 8).trans (congrArg (x_iconst 8) ((xe_iushr).trans (congrArg (x_iushr) ((xe_istore 0).trans (congrArg (x_istore 0) ((xe_iload 0).trans (congrArg (x_iload 0) ((xe_iconst 16).trans (congrArg (x_iconst 16) ((xe_if_icmp .le 62).trans (congrArg (x_if_icmp .le 62 K) ((xe_iinc 1 4).trans (congrArg (x_iinc 1 4) ((xe_iload 0).trans (congrArg (x_iload 0) ((xe_iconst 4).trans (congrArg (x_iconst 4) ((xe_iushr).trans (congrArg (x_iushr) ((xe_istore 0).trans (congrArg (x_istore 0) ((xe_iload 0).trans (congrArg (x_iload 0) ((xe_iconst 4).trans (congrArg (x_iconst 4) ((xe_if_icmp .le 74).trans (congrArg (x_if_icmp .le 74 K) ((xe_iinc 1 2).trans (congrArg (x_iinc 1 2) ((xe_iload 0).trans (congrArg (x_iload 0) ((xe_iconst 2).trans (congrArg (x_iconst 2) ((xe_iushr).trans (congrArg (x_iushr) ((xe_istore 0).trans (congrArg (x_istore 0) ((xe_iload 1).trans (congrArg (x_iload 1) ((xe_iload 0).trans (congrArg (x_iload 0) ((xe_iconst 1).trans (congrArg (x_iconst 1) ((xe_iushr).trans (congrArg (x_iushr) ((xe_iadd).trans (congrArg (x_iadd) (xe_ireturn)))))))))))))))))))))))))))))))))))))))))))))))))))))))))))
theorem bk_J6_numberOfTrailingZeros_0f7a4_49 : ck_ fJ6 (some .int) cJ6_numberOfTrailingZeros_0f7a4 49 [.iload 0, .iconst 16, .if_icmp .le 62, .iinc 1 4, .iload 0, .iconst 4, .iushr, .istore 0, .iload 0, .iconst 4, .if_icmp .le 74, .iinc 1 2, .iload 0, .iconst 2, .iushr, .istore 0, .iload 1, .iload 0, .iconst 1, .iushr, .iadd, .ireturn] 80 = true := qck_r (nn_ _) (by decide +kernel)
theorem bs_J6_numberOfTrailingZeros_0f7a4_49 {P : Zt → Option Zv → Prop} (K : Int → Zl → List Zv → Zt → Prop) : sx_ K P [.iload 0, .iconst 16, .if_icmp .le 62, .iinc 1 4, .iload 0, .iconst 4, .iushr, .istore 0, .iload 0, .iconst 4, .if_icmp .le 74, .iinc 1 2, .iload 0, .iconst 2, .iushr, .istore 0, .iload 1, .iload 0, .iconst 1, .iushr, .iadd, .ireturn] 80 = x_iload 0 (x_iconst 16 (x_if_icmp .le 62 K (x_iinc 1 4 (x_iload 0 (x_iconst 4 (x_iushr (x_istore 0 (x_iload 0 (x_iconst 4 (x_if_icmp .le 74 K (x_iinc 1 2 (x_iload 0 (x_iconst 2 (x_iushr (x_istore 0 (x_iload 1 (x_iload 0 (x_iconst 1 (x_iushr (x_iadd (x_ireturn P))))))))))))))))))))) := ((xe_iload 0).trans (congrArg (x_iload 0) ((xe_iconst 16).trans (congrArg (x_iconst 16) ((xe_if_icmp .le 62).trans (congrArg (x_if_icmp .le 62 K) ((xe_iinc 1 4).trans (congrArg (x_iinc 1 4) ((xe_iload 0).trans (congrArg (x_iload 0) ((xe_iconst 4).trans (congrArg (x_iconst 4) ((xe_iushr).trans (congrArg (x_iushr) ((xe_istore 0).trans (congrArg (x_istore 0) ((xe_iload 0).trans (congrArg (x_iload 0) ((xe_iconst 4).trans (congrArg (x_iconst 4) ((xe_if_icmp .le 74).trans (congrArg (x_if_icmp .le 74 K) ((xe_iinc 1 2).trans (congrArg (x_iinc 1 2) ((xe_iload 0).trans (congrArg (x_iload 0) ((xe_iconst 2).trans (congrArg (x_iconst 2) ((xe_iushr).trans (congrArg (x_iushr) ((xe_istore 0).trans (congrArg (x_istore 0) ((xe_iload 1).trans (congrArg (x_iload 1) ((xe_iload 0).trans (congrArg (x_iload 0) ((xe_iconst 1).trans (congrArg (x_iconst 1) ((xe_iushr).trans (congrArg (x_iushr) ((xe_iadd).trans (congrArg (x_iadd) (xe_ireturn)))))))))))))))))))))))))))))))))))))))))))
theorem bk_J6_numberOfTrailingZeros_0f7a4_62 : ck_ fJ6 (some .int) cJ6_numberOfTrailingZeros_0f7a4 62 [.iload 0, .iconst 4, .if_icmp .le 74, .iinc 1 2, .iload 0, .iconst 2, .iushr, .istore 0, .iload 1, .iload 0, .iconst 1, .iushr, .iadd, .ireturn] 80 = true := qck_r (nn_ _) (by decide +kernel)
theorem bs_J6_numberOfTrailingZeros_0f7a4_62 {P : Zt → Option Zv → Prop} (K : Int → Zl → List Zv → Zt → Prop) : sx_ K P [.iload 0, .iconst 4, .if_icmp .le 74, .iinc 1 2, .iload 0, .iconst 2, .iushr, .istore 0, .iload 1, .iload 0, .iconst 1, .iushr, .iadd, .ireturn] 80 = x_iload 0 (x_iconst 4 (x_if_icmp .le 74 K (x_iinc 1 2 (x_iload 0 (x_iconst 2 (x_iushr (x_istore 0 (x_iload 1 (x_iload 0 (x_iconst 1 (x_iushr (x_iadd (x_ireturn P))))))))))))) := ((xe_iload 0).trans (congrArg (x_iload 0) ((xe_iconst 4).trans (congrArg (x_iconst 4) ((xe_if_icmp .le 74).trans (congrArg (x_if_icmp .le 74 K) ((xe_iinc 1 2).trans (congrArg (x_iinc 1 2) ((xe_iload 0).trans (congrArg (x_iload 0) ((xe_iconst 2).trans (congrArg (x_iconst 2) ((xe_iushr).trans (congrArg (x_iushr) ((xe_istore 0).trans (congrArg (x_istore 0) ((xe_iload 1).trans (congrArg (x_iload 1) ((xe_iload 0).trans (congrArg (x_iload 0) ((xe_iconst 1).trans (congrArg (x_iconst 1) ((xe_iushr).trans (congrArg (x_iushr) ((xe_iadd).trans (congrArg (x_iadd) (xe_ireturn)))))))))))))))))))))))))))
theorem bk_J6_numberOfTrailingZeros_0f7a4_74 : ck_ fJ6 (some .int) cJ6_numberOfTrailingZeros_0f7a4 74 [.iload 1, .iload 0, .iconst 1, .iushr, .iadd, .ireturn] 80 = true := qck_r (nn_ _) (by decide +kernel)
theorem bs_J6_numberOfTrailingZeros_0f7a4_74 {P : Zt → Option Zv → Prop} (K : Int → Zl → List Zv → Zt → Prop) : sx_ K P [.iload 1, .iload 0, .iconst 1, .iushr, .iadd, .ireturn] 80 = x_iload 1 (x_iload 0 (x_iconst 1 (x_iushr (x_iadd (x_ireturn P))))) := ((xe_iload 1).trans (congrArg (x_iload 1) ((xe_iload 0).trans (congrArg (x_iload 0) ((xe_iconst 1).trans (congrArg (x_iconst 1) ((xe_iushr).trans (congrArg (x_iushr) ((xe_iadd).trans (congrArg (x_iadd) (xe_ireturn)))))))))))
abbrev po_J6_numberOfTrailingZeros_0f7a4 (T : Zt) (a : Int) : Zt → Option Zv → Prop := fun T' r => T = T' ∧ ∃ x : Int, r = some (vI x) ∧ (0 ≤ x ∧ x ≤ 11 ∧ an_ (sr_ a x) 1 = 1)
set_option maxHeartbeats 4000000 in
theorem ct_J6_numberOfTrailingZeros_0f7a4 {T : Zt} {a : Int} (h1 : 1 ≤ a ∧ a ≤ 4095) : Ct_ yJ6_numberOfTrailingZeros_0f7a4 zJ6_numberOfTrailingZeros_0f7a4 T [vI a] (po_J6_numberOfTrailingZeros_0f7a4 T a) := by
  refine ct_of (by decide) rfl rfl (Nat.le_of_ble_eq_true rfl) (fun hT hav => ?_)
  have hr_a : -2147483648 ≤ a ∧ a ≤ 2147483647 := hav (vI a) List.mem_cons_self
  have hz : zJ6_numberOfTrailingZeros_0f7a4.2.2.2.1 = some .boolean → ∀ (T' : Zt) (x : Int), po_J6_numberOfTrailingZeros_0f7a4 T a T' (some (vI x)) → 0 ≤ x ∧ x ≤ 1 := fun h => by cases h
  have hv : 0 ≤ an_ (xo_ a (-1)) (a - 1) ∧ an_ (xo_ a (-1)) (a - 1) ≤ 2047 := by obtain ⟨x9, p1, p2, p3⟩ := tz_q h1; have p4 : (2 : Nat) ^ x9 ≤ 2 ^ 11 := Nat.pow_le_pow_right (by omega) (by omega); have p5 : 0 < (2 : Nat) ^ x9 := Nat.pow_pos (by omega); rw [p2]; omega
  show J_ zJ6_numberOfTrailingZeros_0f7a4 T (po_J6_numberOfTrailingZeros_0f7a4 T a) 0 0 0 [some (vI a), none] [] T
  refine j_blx (F := fJ6) tb_J6 (nn_ _) bk_J6_numberOfTrailingZeros_0f7a4_0 bs_J6_numberOfTrailingZeros_0f7a4_0 hz (fun K hK => ?_)
  intro w1 w1b
  refine rg_i (by omega) ?_
  intro w2 w2b
  refine And.intro (fun c3 => ?_) (fun c3 => ?_)
  · refine hK 17 [some (vI (an_ (xo_ a (-1)) (a - 1))), none] [] T ?_
    refine j_blx (F := fJ6) tb_J6 (nn_ _) bk_J6_numberOfTrailingZeros_0f7a4_17 bs_J6_numberOfTrailingZeros_0f7a4_17 hz (fun K hK => ?_)
    refine And.intro (fun c4 => ?_) (fun c4 => ?_)
    · refine hK 34 [some (vI (an_ (xo_ a (-1)) (a - 1))), some (vI 1)] [] T ?_
      refine j_blx (F := fJ6) tb_J6 (nn_ _) bk_J6_numberOfTrailingZeros_0f7a4_34 bs_J6_numberOfTrailingZeros_0f7a4_34 hz (fun K hK => ?_)
      refine And.intro (fun c5 => ?_) (fun c5 => ?_)
      · refine hK 49 _ [] T ?_
        refine j_blx (F := fJ6) tb_J6 (nn_ _) bk_J6_numberOfTrailingZeros_0f7a4_49 bs_J6_numberOfTrailingZeros_0f7a4_49 hz (fun K hK => ?_)
        refine And.intro (fun c6 => ?_) (fun c6 => ?_)
        · refine hK 62 _ [] T ?_
          refine j_blx (F := fJ6) tb_J6 (nn_ _) bk_J6_numberOfTrailingZeros_0f7a4_62 bs_J6_numberOfTrailingZeros_0f7a4_62 hz (fun K hK => ?_)
          refine And.intro (fun c7 => ?_) (fun c7 => ?_)
          · refine hK 74 _ [] T ?_
            refine j_blx (F := fJ6) tb_J6 (nn_ _) bk_J6_numberOfTrailingZeros_0f7a4_74 bs_J6_numberOfTrailingZeros_0f7a4_74 hz (fun K hK => ?_)
            intro w8 w8b
            have y9 := us_q (v := (an_ (xo_ a (-1)) (a - 1))) (by omega)
            refine rg_i (by omega) ?_
            refine (show po_J6_numberOfTrailingZeros_0f7a4 T a T (some (vI (1 + (us_ (an_ (xo_ a (-1)) (a - 1)) 1)))) from ?_)
            obtain ⟨x9, p1, p2, p3⟩ := tz_q h1
            refine ⟨rfl, _, rfl, ?_⟩
            have hxx : 1 + (us_ (an_ (xo_ a (-1)) (a - 1)) 1) = (x9 : Int) := by
              have : x9 = 0 ∨ x9 = 1 ∨ x9 = 2 ∨ x9 = 3 ∨ x9 = 4 ∨ x9 = 5 ∨ x9 = 6 ∨ x9 = 7 ∨ x9 = 8 ∨ x9 = 9 ∨ x9 = 10 ∨ x9 = 11 := by omega
              rcases this with rfl | rfl | rfl | rfl | rfl | rfl | rfl | rfl | rfl | rfl | rfl | rfl <;> simp only [Nat.reducePow] at p2 <;> (first | omega | (exfalso; omega))
            rw [hxx]; exact ⟨by omega, by omega, p3⟩
          · refine rg_i (by omega) ?_
            intro w10 w10b
            have y11 := us_q (v := (an_ (xo_ a (-1)) (a - 1))) (by omega)
            intro w12 w12b
            have y13 := us_q (v := (us_ (an_ (xo_ a (-1)) (a - 1)) 2)) (by omega)
            refine rg_i (by omega) ?_
            refine (show po_J6_numberOfTrailingZeros_0f7a4 T a T (some (vI ((1 + 2) + (us_ (us_ (an_ (xo_ a (-1)) (a - 1)) 2) 1)))) from ?_)
            obtain ⟨x9, p1, p2, p3⟩ := tz_q h1
            refine ⟨rfl, _, rfl, ?_⟩
            have hxx : (1 + 2) + (us_ (us_ (an_ (xo_ a (-1)) (a - 1)) 2) 1) = (x9 : Int) := by
              have : x9 = 0 ∨ x9 = 1 ∨ x9 = 2 ∨ x9 = 3 ∨ x9 = 4 ∨ x9 = 5 ∨ x9 = 6 ∨ x9 = 7 ∨ x9 = 8 ∨ x9 = 9 ∨ x9 = 10 ∨ x9 = 11 := by omega
              rcases this with rfl | rfl | rfl | rfl | rfl | rfl | rfl | rfl | rfl | rfl | rfl | rfl <;> simp only [Nat.reducePow] at p2 <;> (first | omega | (exfalso; omega))
            rw [hxx]; exact ⟨by omega, by omega, p3⟩
        · refine rg_i (by omega) ?_
          intro w14 w14b
          have y15 := us_q (v := (an_ (xo_ a (-1)) (a - 1))) (by omega)
          refine And.intro (fun c16 => ?_) (fun c16 => ?_)
          · refine hK 74 [some (vI (us_ (an_ (xo_ a (-1)) (a - 1)) 4)), some (vI (1 + 4))] [] T ?_
            refine j_blx (F := fJ6) tb_J6 (nn_ _) bk_J6_numberOfTrailingZeros_0f7a4_74 bs_J6_numberOfTrailingZeros_0f7a4_74 hz (fun K hK => ?_)
            intro w17 w17b
            have y18 := us_q (v := (us_ (an_ (xo_ a (-1)) (a - 1)) 4)) (by omega)
            refine rg_i (by omega) ?_
            refine (show po_J6_numberOfTrailingZeros_0f7a4 T a T (some (vI ((1 + 4) + (us_ (us_ (an_ (xo_ a (-1)) (a - 1)) 4) 1)))) from ?_)
            obtain ⟨x9, p1, p2, p3⟩ := tz_q h1
            refine ⟨rfl, _, rfl, ?_⟩
            have hxx : (1 + 4) + (us_ (us_ (an_ (xo_ a (-1)) (a - 1)) 4) 1) = (x9 : Int) := by
              have : x9 = 0 ∨ x9 = 1 ∨ x9 = 2 ∨ x9 = 3 ∨ x9 = 4 ∨ x9 = 5 ∨ x9 = 6 ∨ x9 = 7 ∨ x9 = 8 ∨ x9 = 9 ∨ x9 = 10 ∨ x9 = 11 := by omega
              rcases this with rfl | rfl | rfl | rfl | rfl | rfl | rfl | rfl | rfl | rfl | rfl | rfl <;> simp only [Nat.reducePow] at p2 <;> (first | omega | (exfalso; omega))
            rw [hxx]; exact ⟨by omega, by omega, p3⟩
          · refine rg_i (by omega) ?_
            intro w19 w19b
            have y20 := us_q (v := (us_ (an_ (xo_ a (-1)) (a - 1)) 4)) (by omega)
            intro w21 w21b
            have y22 := us_q (v := (us_ (us_ (an_ (xo_ a (-1)) (a - 1)) 4) 2)) (by omega)
            refine rg_i (by omega) ?_
            refine (show po_J6_numberOfTrailingZeros_0f7a4 T a T (some (vI (((1 + 4) + 2) + (us_ (us_ (us_ (an_ (xo_ a (-1)) (a - 1)) 4) 2) 1)))) from ?_)
            obtain ⟨x9, p1, p2, p3⟩ := tz_q h1
            refine ⟨rfl, _, rfl, ?_⟩
            have hxx : ((1 + 4) + 2) + (us_ (us_ (us_ (an_ (xo_ a (-1)) (a - 1)) 4) 2) 1) = (x9 : Int) := by
              have : x9 = 0 ∨ x9 = 1 ∨ x9 = 2 ∨ x9 = 3 ∨ x9 = 4 ∨ x9 = 5 ∨ x9 = 6 ∨ x9 = 7 ∨ x9 = 8 ∨ x9 = 9 ∨ x9 = 10 ∨ x9 = 11 := by omega
              rcases this with rfl | rfl | rfl | rfl | rfl | rfl | rfl | rfl | rfl | rfl | rfl | rfl <;> simp only [Nat.reducePow] at p2 <;> (first | omega | (exfalso; omega))
            rw [hxx]; exact ⟨by omega, by omega, p3⟩
      · refine rg_i (by omega) ?_
        intro w23 w23b
        have y24 := us_q (v := (an_ (xo_ a (-1)) (a - 1))) (by omega)
        refine And.intro (fun c25 => ?_) (fun c25 => ?_)
        · refine hK 62 [some (vI (us_ (an_ (xo_ a (-1)) (a - 1)) 8)), some (vI (1 + 8))] [] T ?_
          refine j_blx (F := fJ6) tb_J6 (nn_ _) bk_J6_numberOfTrailingZeros_0f7a4_62 bs_J6_numberOfTrailingZeros_0f7a4_62 hz (fun K hK => ?_)
          refine And.intro (fun c26 => ?_) (fun c26 => ?_)
          · refine hK 74 _ [] T ?_
            refine j_blx (F := fJ6) tb_J6 (nn_ _) bk_J6_numberOfTrailingZeros_0f7a4_74 bs_J6_numberOfTrailingZeros_0f7a4_74 hz (fun K hK => ?_)
            intro w27 w27b
            have y28 := us_q (v := (us_ (an_ (xo_ a (-1)) (a - 1)) 8)) (by omega)
            refine rg_i (by omega) ?_
            refine (show po_J6_numberOfTrailingZeros_0f7a4 T a T (some (vI ((1 + 8) + (us_ (us_ (an_ (xo_ a (-1)) (a - 1)) 8) 1)))) from ?_)
            obtain ⟨x9, p1, p2, p3⟩ := tz_q h1
            refine ⟨rfl, _, rfl, ?_⟩
            have hxx : (1 + 8) + (us_ (us_ (an_ (xo_ a (-1)) (a - 1)) 8) 1) = (x9 : Int) := by
              have : x9 = 0 ∨ x9 = 1 ∨ x9 = 2 ∨ x9 = 3 ∨ x9 = 4 ∨ x9 = 5 ∨ x9 = 6 ∨ x9 = 7 ∨ x9 = 8 ∨ x9 = 9 ∨ x9 = 10 ∨ x9 = 11 := by omega
              rcases this with rfl | rfl | rfl | rfl | rfl | rfl | rfl | rfl | rfl | rfl | rfl | rfl <;> simp only [Nat.reducePow] at p2 <;> (first | omega | (exfalso; omega))
            rw [hxx]; exact ⟨by omega, by omega, p3⟩
          · refine rg_i (by omega) ?_
            intro w29 w29b
            have y30 := us_q (v := (us_ (an_ (xo_ a (-1)) (a - 1)) 8)) (by omega)
            intro w31 w31b
            have y32 := us_q (v := (us_ (us_ (an_ (xo_ a (-1)) (a - 1)) 8) 2)) (by omega)
            refine rg_i (by omega) ?_
            refine (show po_J6_numberOfTrailingZeros_0f7a4 T a T (some (vI (((1 + 8) + 2) + (us_ (us_ (us_ (an_ (xo_ a (-1)) (a - 1)) 8) 2) 1)))) from ?_)
            obtain ⟨x9, p1, p2, p3⟩ := tz_q h1
            refine ⟨rfl, _, rfl, ?_⟩
            have hxx : ((1 + 8) + 2) + (us_ (us_ (us_ (an_ (xo_ a (-1)) (a - 1)) 8) 2) 1) = (x9 : Int) := by
              have : x9 = 0 ∨ x9 = 1 ∨ x9 = 2 ∨ x9 = 3 ∨ x9 = 4 ∨ x9 = 5 ∨ x9 = 6 ∨ x9 = 7 ∨ x9 = 8 ∨ x9 = 9 ∨ x9 = 10 ∨ x9 = 11 := by omega
              rcases this with rfl | rfl | rfl | rfl | rfl | rfl | rfl | rfl | rfl | rfl | rfl | rfl <;> simp only [Nat.reducePow] at p2 <;> (first | omega | (exfalso; omega))
            rw [hxx]; exact ⟨by omega, by omega, p3⟩
        · refine rg_i (by omega) ?_
          intro w33 w33b
          have y34 := us_q (v := (us_ (an_ (xo_ a (-1)) (a - 1)) 8)) (by omega)
          refine And.intro (fun c35 => ?_) (fun c35 => ?_)
          · refine hK 74 [some (vI (us_ (us_ (an_ (xo_ a (-1)) (a - 1)) 8) 4)), some (vI ((1 + 8) + 4))] [] T ?_
            refine j_blx (F := fJ6) tb_J6 (nn_ _) bk_J6_numberOfTrailingZeros_0f7a4_74 bs_J6_numberOfTrailingZeros_0f7a4_74 hz (fun K hK => ?_)
            intro w36 w36b
            have y37 := us_q (v := (us_ (us_ (an_ (xo_ a (-1)) (a - 1)) 8) 4)) (by omega)
            refine rg_i (by omega) ?_
            refine (show po_J6_numberOfTrailingZeros_0f7a4 T a T (some (vI (((1 + 8) + 4) + (us_ (us_ (us_ (an_ (xo_ a (-1)) (a - 1)) 8) 4) 1)))) from ?_)
            obtain ⟨x9, p1, p2, p3⟩ := tz_q h1
            refine ⟨rfl, _, rfl, ?_⟩
            have hxx : ((1 + 8) + 4) + (us_ (us_ (us_ (an_ (xo_ a (-1)) (a - 1)) 8) 4) 1) = (x9 : Int) := by
              have : x9 = 0 ∨ x9 = 1 ∨ x9 = 2 ∨ x9 = 3 ∨ x9 = 4 ∨ x9 = 5 ∨ x9 = 6 ∨ x9 = 7 ∨ x9 = 8 ∨ x9 = 9 ∨ x9 = 10 ∨ x9 = 11 := by omega
              rcases this with rfl | rfl | rfl | rfl | rfl | rfl | rfl | rfl | rfl | rfl | rfl | rfl <;> simp only [Nat.reducePow] at p2 <;> (first | omega | (exfalso; omega))
            rw [hxx]; exact ⟨by omega, by omega, p3⟩
          · refine rg_i (by omega) ?_
            intro w38 w38b
            have y39 := us_q (v := (us_ (us_ (an_ (xo_ a (-1)) (a - 1)) 8) 4)) (by omega)
            intro w40 w40b
            have y41 := us_q (v := (us_ (us_ (us_ (an_ (xo_ a (-1)) (a - 1)) 8) 4) 2)) (by omega)
            refine rg_i (by omega) ?_
            refine (show po_J6_numberOfTrailingZeros_0f7a4 T a T (some (vI ((((1 + 8) + 4) + 2) + (us_ (us_ (us_ (us_ (an_ (xo_ a (-1)) (a - 1)) 8) 4) 2) 1)))) from ?_)
            obtain ⟨x9, p1, p2, p3⟩ := tz_q h1
            refine ⟨rfl, _, rfl, ?_⟩
            have hxx : (((1 + 8) + 4) + 2) + (us_ (us_ (us_ (us_ (an_ (xo_ a (-1)) (a - 1)) 8) 4) 2) 1) = (x9 : Int) := by
              have : x9 = 0 ∨ x9 = 1 ∨ x9 = 2 ∨ x9 = 3 ∨ x9 = 4 ∨ x9 = 5 ∨ x9 = 6 ∨ x9 = 7 ∨ x9 = 8 ∨ x9 = 9 ∨ x9 = 10 ∨ x9 = 11 := by omega
              rcases this with rfl | rfl | rfl | rfl | rfl | rfl | rfl | rfl | rfl | rfl | rfl | rfl <;> simp only [Nat.reducePow] at p2 <;> (first | omega | (exfalso; omega))
            rw [hxx]; exact ⟨by omega, by omega, p3⟩
    · exact absurd c4 (by omega)
  · intro w42 w42b
    refine (show po_J6_numberOfTrailingZeros_0f7a4 T a T (some (vI (an_ (an_ (xo_ a (-1)) (a - 1)) 32))) from ?_)
    obtain ⟨x9, p1, p2, p3⟩ := tz_q h1
    refine ⟨rfl, _, rfl, ?_⟩
    have hxx : an_ (an_ (xo_ a (-1)) (a - 1)) 32 = (x9 : Int) := by
      have : x9 = 0 ∨ x9 = 1 ∨ x9 = 2 ∨ x9 = 3 ∨ x9 = 4 ∨ x9 = 5 ∨ x9 = 6 ∨ x9 = 7 ∨ x9 = 8 ∨ x9 = 9 ∨ x9 = 10 ∨ x9 = 11 := by omega
      rcases this with rfl | rfl | rfl | rfl | rfl | rfl | rfl | rfl | rfl | rfl | rfl | rfl <;> simp only [Nat.reducePow] at p2 <;> (first | (rw [p2]; decide) | (exfalso; omega))
    rw [hxx]; exact ⟨by omega, by omega, p3⟩
abbrev cX9_leastCut : ByteArray := prog_11_method_15_code
def yX9_leastCut : MethodName := ⟨RX9, "leastCut", "(I)I"⟩
def zX9_leastCut : Zm := (RX9, cX9_leastCut, 7, (some .int), { frames := 1, cells := 1, slots := 4096, locals := 25 })
set_option maxRecDepth 100000 in
theorem cl_X9_168 : cs_ RX9 168 yJ6_numberOfTrailingZeros_0f7a4 zJ6_numberOfTrailingZeros_0f7a4 1 := ⟨gi_S (lwq_6 (dqc_m (dqc_m (dqa_m (dqa_m (List.mem_of_getElem? (i := 3) rfl))))) rfl : Cond.methodLink RX9 168 yJ6_numberOfTrailingZeros_0f7a4 ∈ lw_g) (lwq_6 (dqc_m (dqc_m (dqa_m (dqa_m (List.mem_of_getElem? (i := 4) rfl))))) rfl : Cond.static yJ6_numberOfTrailingZeros_0f7a4 ∈ lw_g) (lwq_1 (dqa_m (dqa_m (List.mem_of_getElem? (i := 3) rfl))) rfl : Cond.initialized yJ6_numberOfTrailingZeros_0f7a4.cls ∈ lw_g) (lwq_6 (dqc_m (dqc_m (dqa_m (dqa_m (List.mem_of_getElem? (i := 5) rfl))))) rfl : Cond.code yJ6_numberOfTrailingZeros_0f7a4 cJ6_numberOfTrailingZeros_0f7a4 2 (some .int) ∈ lw_g), ⟨by decide, by decide, by decide +kernel⟩⟩
set_option maxRecDepth 100000 in
theorem cl_X9_173 : cv_ RX9 173 yX9_openBetween zX9_openBetween 9 2 := ⟨gi_V (lwq_6 (dqc_m (dqc_m (dqa_m (dqa_m (List.mem_of_getElem? (i := 7) rfl))))) rfl : Cond.methodLink RX9 173 yX9_openBetween ∈ lw_g) (lwq_6 (dqc_m (dqc_m (dqa_m (dqa_m (dqa_m (List.mem_of_getElem? (i := 1) rfl)))))) rfl : Cond.instanceMethod yX9_openBetween ∈ lw_g) (lw_sel 142 rfl : Cond.selects yX9_openBetween.cls yX9_openBetween yX9_openBetween ∈ lw_g) (lwq_1 (List.mem_of_getElem? (i := 6) rfl) rfl : Cond.initialized yX9_openBetween.cls ∈ lw_g) (lwq_6 (dqc_m (dqc_m (dqa_m (dqa_m (dqa_m (List.mem_of_getElem? (i := 2) rfl)))))) rfl : Cond.code yX9_openBetween cX9_openBetween 6 (some .int) ∈ lw_g), ⟨nmh_8.1, nmh_8.2, pdq_4⟩, ⟨_, _, rfl⟩⟩
theorem fr5_X9_165 : fr5_ RX9 165 9 15 := ⟨_, _, _, rfl, by decide, by decide, (lwq_2 (dqc_m (dqa_m (List.mem_of_getElem? (i := 6) rfl))) rfl : Cond.fieldLink RX9 165 _ _ _ ∈ lw_g), rfl, fun a => ⟨.array .int, by decide +kernel, rfl, rfl⟩⟩
abbrev po_J7_fill_584 (T : Zt) (p : Int) (v : Int) : Zt → Option Zv → Prop := fun T' r => r = none ∧ fr_ [(584, [])] T T' ∧ oi_ T T' p ∧ ∀ j, 0 ≤ j → j < 400 → T' 584 p j = v
set_option maxHeartbeats 4000000 in
theorem ct_J7_fill_584 {T : Zt} {p : Int} {v : Int} (h1 : (-2147483648) ≤ v ∧ v ≤ 2147483647) : Ct_ yJ7_fill_53178 zJ7_fill_53178 T [vR 584 p, vI v] (po_J7_fill_584 T p v) := by
  refine ct_of (by decide) rfl rfl (Nat.le_of_ble_eq_true rfl) (fun hT hav => ?_)
  have hr_v : -2147483648 ≤ v ∧ v ≤ 2147483647 := hav (vI v) (List.mem_cons_of_mem _ List.mem_cons_self)
  have hz : zJ7_fill_53178.2.2.2.1 = some .boolean → ∀ (T' : Zt) (x : Int), po_J7_fill_584 T p v T' (some (vI x)) → 0 ≤ x ∧ x ≤ 1 := fun h => by cases h
  show J_ zJ7_fill_53178 T (po_J7_fill_584 T p v) 0 0 0 [some (vR 584 p), some (vI v), none, none] [] T
  have c_5 : ∀ (nn : Nat) (j : Int) (T1 : Zt), ((400 - j).toNat) ≤ nn → (fr_ [(584, [])] T T1) → (0 ≤ j ∧ j ≤ 400) → (oi_ T T1 p) → (∀ q, 0 ≤ q → q < j → T1 584 p q = v) → J_ zJ7_fill_53178 T (po_J7_fill_584 T p v) 0 0 5 [some (vR 584 p), some (vI v), some (vI j), some (vI 400)] [] T1 := by
    intro nn
    induction nn using Nat.strongRecOn with
    | _ nn ih_5 =>
      intro j T1 hm_5 hf_5 i1 o1 f1
      replace hm_5 := fun (_ : Unit) => hm_5
      refine j_blx (F := fJ7) tb_J7 (nn_ _) bk_J7_fill_53178_5 bs_J7_fill_53178_5 hz (fun K hK => ?_)
      refine And.intro (fun c1 => ?_) (fun c1 => ?_)
      · refine hK 20 _ [] T1 ?_
        refine j_blx (F := fJ7) tb_J7 (nn_ _) bk_J7_fill_53178_20 bs_J7_fill_53178_20 hz (fun K hK => ?_)
        refine (show po_J7_fill_584 T p v T1 (none) from ?_)
        exact ⟨rfl, fr_t (fr_0 _ _) (fr_s hf_5 rfl), o1, fun q a b => f1 q a (by omega)⟩
      · refine iy_i (by omega) (by omega) ?_
        refine x_nm (fun U2 hU2 => ?_)
        have e3 := up_f hU2
        refine rg_i (by omega) ?_
        refine hK 5 [some (vR 584 p), some (vI v), some (vI (j + 1)), some (vI 400)] [] U2 ?_
        refine ih_5 _ ?_ (j + 1) U2 (Nat.le_refl _) ?_ ?_ ?_ ?_
        · have hm_5 := hm_5 (); omega
        · exact fr_u (fr_t (fr_0 _ _) (fr_s hf_5 rfl)) hU2 rfl
        · omega
        · exact oi_u o1 hU2
        · intro q a b
          by_cases z : q = j
          · rw [z]; exact up_f hU2
          · rw [up_g hU2 (fun y => z y.2.2)]; exact f1 q a (by omega)
  refine j_blx (F := fJ7) tb_J7 (nn_ _) bk_J7_fill_53178_0 bs_J7_fill_53178_0 hz (fun K hK => ?_)
  refine hK 5 [some (vR 584 p), some (vI v), some (vI 0), some (vI 400)] [] T ?_
  refine c_5 _ 0 T (Nat.le_refl _) ?_ ?_ ?_ ?_
  · exact fr_0 _ _
  · omega
  · exact oi_r
  · intro q a b; omega
def KW_ (T : Zt) : Prop := ∀ c : Int, 0 ≤ c → c < T 106 0 2 → T 401 c 2 ≤ T 401 c 1
theorem KW__f {ws : List (Nat × List Int)} {T T' : Zt} (h : KW_ T) (f : fr_ ws T T') (w : (∀ j, fw_ ws 401 j = false) ∧ fw_ ws 106 2 = false ∧ True) : KW_ T' := by
  have e0 : ∀ i j, T' 401 i j = T 401 i j := fun i j => f 401 i j (w.1 j)
  have e1 : ∀ i, T' 106 i 2 = T 106 i 2 := fun i => f 106 i 2 w.2.1
  simp only [KW_, e0, e1] at h ⊢
  exact h
theorem q9_of {T U : Zt} {c : Int} (hU : ok_T U) (hks : KS_ T) (hkc : KC_ T) (h0 : 0 ≤ c ∧ c < T 106 0 2) (hc : U 109 0 5 = c + 1) (hb : 0 ≤ T 100 c 7) (ol : ∀ j : Int, 0 ≤ j → j < U 109 0 9 → T 100 c 7 ≤ U 588 0 j ∧ U 588 0 j < T 100 c 7 + T 100 c 8) (e1 : ∀ i j, U 102 i j = T 102 i j) (e2 : ∀ i j, U 404 i j = T 404 i j) (e3 : U 106 0 4 = T 106 0 4) : Q9_ U := by
  refine ⟨by omega, fun k a b => ?_⟩
  have h1 := ol k a b
  have h2 := hks c h0.1 h0.2 (U 588 0 k) h1.1 h1.2
  have h3 := hkc c h0.1 h0.2
  have hb1 : ∀ i j : Int, 0 ≤ j → U 404 i j ≤ 11 := fun i j hj => (bd_a hU 404 (by decide +kernel : ta_ 404 = some (1, some 12, -1, 11)) i hj).2
  have hh : ∀ i, 0 ≤ U 102 i 3 := fun i => (bd_f hU 102 3 tl_2_3 i).1
  have ha : ∀ i, 0 ≤ U 102 i 4 := fun i => (bd_f hU 102 4 tl_2_4 i).1
  unfold hsx_ asx_
  rw [hc, show c + 1 - 1 = c by omega]
  refine ⟨⟨by omega, by omega⟩, ⟨?_, hb1 _ _ (hh _)⟩, ?_, hb1 _ _ (ha _)⟩
  · rw [e1, e2]; exact h2.2.1
  · rw [e1, e2]; exact h2.2.2
abbrev cX9_ask : ByteArray := prog_11_method_2_code
def yX9_ask : MethodName := ⟨RX9, "ask", "(LSportsHouse$Competition;I)I"⟩
def zX9_ask : Zm := (RX9, cX9_ask, 4, (some .int), { frames := 10, cells := 1, slots := 4096, locals := 280 })
set_option maxRecDepth 100000 in
theorem cl_X9_73 : cv_ RX9 73 yX9_takePoints zX9_takePoints 9 1 := ⟨gi_V (lwq_6 (dqc_m (dqa_m (List.mem_of_getElem? (i := 2) rfl))) rfl : Cond.methodLink RX9 73 yX9_takePoints ∈ lw_g) (lwq_6 (dqc_m (dqa_m (List.mem_of_getElem? (i := 4) rfl))) rfl : Cond.instanceMethod yX9_takePoints ∈ lw_g) (lw_sel 149 rfl : Cond.selects yX9_takePoints.cls yX9_takePoints yX9_takePoints ∈ lw_g) (lwq_1 (List.mem_of_getElem? (i := 6) rfl) rfl : Cond.initialized yX9_takePoints.cls ∈ lw_g) (lwq_6 (dqc_m (dqa_m (List.mem_of_getElem? (i := 5) rfl))) rfl : Cond.code yX9_takePoints cX9_takePoints 6 none ∈ lw_g), ⟨nmh_8.1, nmh_8.2, pdq_9⟩, ⟨_, _, rfl⟩⟩
set_option maxRecDepth 100000 in
theorem cl_X9_88 : cv_ RX9 88 yX9_noneAbove zX9_noneAbove 9 1 := ⟨gi_V (lwq_6 (dqc_m (dqc_m (dqa_m (dqa_m (dqa_m (List.mem_of_getElem? (i := 3) rfl)))))) rfl : Cond.methodLink RX9 88 yX9_noneAbove ∈ lw_g) (lwq_6 (dqc_m (dqc_m (dqa_m (dqa_m (dqa_m (List.mem_of_getElem? (i := 5) rfl)))))) rfl : Cond.instanceMethod yX9_noneAbove ∈ lw_g) (lw_sel 141 rfl : Cond.selects yX9_noneAbove.cls yX9_noneAbove yX9_noneAbove ∈ lw_g) (lwq_1 (List.mem_of_getElem? (i := 6) rfl) rfl : Cond.initialized yX9_noneAbove.cls ∈ lw_g) (lwq_6 (dqc_m (dqc_m (dqa_m (dqa_m (dqa_m (List.mem_of_getElem? (i := 6) rfl)))))) rfl : Cond.code yX9_noneAbove cX9_noneAbove 3 (some .boolean) ∈ lw_g), ⟨nmh_8.1, nmh_8.2, pdq_7⟩, ⟨_, _, rfl⟩⟩
set_option maxRecDepth 100000 in
theorem cl_X9_91_zX9_search_8 : cv_ RX9 91 yX9_search zX9_search_8 9 1 := ⟨gi_V (lwq_6 (dqc_m (dqc_m (dqa_m (dqa_m (dqa_m (List.mem_of_getElem? (i := 7) rfl)))))) rfl : Cond.methodLink RX9 91 yX9_search ∈ lw_g) (lwq_6 (dqc_m (dqc_m (dqc_m (List.mem_of_getElem? (i := 1) rfl)))) rfl : Cond.instanceMethod yX9_search ∈ lw_g) (lw_sel 144 rfl : Cond.selects yX9_search.cls yX9_search yX9_search ∈ lw_g) (lwq_1 (List.mem_of_getElem? (i := 6) rfl) rfl : Cond.initialized yX9_search.cls ∈ lw_g) (lwq_6 (dqc_m (dqc_m (dqc_m (List.mem_of_getElem? (i := 2) rfl)))) rfl : Cond.code yX9_search cX9_search 9 (some .boolean) ∈ lw_g), ⟨nmh_8.1, nmh_8.2, pdq_7⟩, ⟨_, _, rfl⟩⟩
set_option maxRecDepth 100000 in
theorem cl_X9_77 : cv_ RX9 77 yX9_setCaps zX9_setCaps 9 1 := ⟨gi_V (lwq_6 (dqc_m (dqa_m (List.mem_of_getElem? (i := 7) rfl))) rfl : Cond.methodLink RX9 77 yX9_setCaps ∈ lw_g) (lwq_6 (dqc_m (dqa_m (dqa_m (List.mem_of_getElem? (i := 1) rfl)))) rfl : Cond.instanceMethod yX9_setCaps ∈ lw_g) (lw_sel 145 rfl : Cond.selects yX9_setCaps.cls yX9_setCaps yX9_setCaps ∈ lw_g) (lwq_1 (List.mem_of_getElem? (i := 6) rfl) rfl : Cond.initialized yX9_setCaps.cls ∈ lw_g) (lwq_6 (dqc_m (dqa_m (dqa_m (List.mem_of_getElem? (i := 2) rfl)))) rfl : Cond.code yX9_setCaps cX9_setCaps 6 none ∈ lw_g), ⟨nmh_8.1, nmh_8.2, pdq_9⟩, ⟨_, _, rfl⟩⟩
set_option maxRecDepth 100000 in
theorem cl_X9_80 : cv_ RX9 80 yX9_spreadParts zX9_spreadParts 9 1 := ⟨gi_V (lwq_6 (dqc_m (dqa_m (dqa_m (List.mem_of_getElem? (i := 3) rfl)))) rfl : Cond.methodLink RX9 80 yX9_spreadParts ∈ lw_g) (lwq_6 (dqc_m (dqa_m (dqa_m (List.mem_of_getElem? (i := 5) rfl)))) rfl : Cond.instanceMethod yX9_spreadParts ∈ lw_g) (lw_sel 147 rfl : Cond.selects yX9_spreadParts.cls yX9_spreadParts yX9_spreadParts ∈ lw_g) (lwq_1 (List.mem_of_getElem? (i := 6) rfl) rfl : Cond.initialized yX9_spreadParts.cls ∈ lw_g) (lwq_6 (dqc_m (dqa_m (dqa_m (List.mem_of_getElem? (i := 6) rfl)))) rfl : Cond.code yX9_spreadParts cX9_spreadParts 5 (some .boolean) ∈ lw_g), ⟨nmh_8.1, nmh_8.2, pdq_7⟩, ⟨_, _, rfl⟩⟩
set_option maxRecDepth 100000 in
theorem cl_X9_84 : cv_ RX9 84 yX9_leastCut zX9_leastCut 9 1 := ⟨gi_V (lwq_6 (dqc_m (dqc_m (dqa_m (List.mem_of_getElem? (i := 7) rfl)))) rfl : Cond.methodLink RX9 84 yX9_leastCut ∈ lw_g) (lwq_6 (dqc_m (dqc_m (dqa_m (dqa_m (List.mem_of_getElem? (i := 1) rfl))))) rfl : Cond.instanceMethod yX9_leastCut ∈ lw_g) (lw_sel 139 rfl : Cond.selects yX9_leastCut.cls yX9_leastCut yX9_leastCut ∈ lw_g) (lwq_1 (List.mem_of_getElem? (i := 6) rfl) rfl : Cond.initialized yX9_leastCut.cls ∈ lw_g) (lwq_6 (dqc_m (dqc_m (dqa_m (dqa_m (List.mem_of_getElem? (i := 2) rfl))))) rfl : Cond.code yX9_leastCut cX9_leastCut 7 (some .int) ∈ lw_g), ⟨nmh_8.1, nmh_8.2, pdq_15⟩, ⟨_, _, rfl⟩⟩
set_option maxRecDepth 100000 in
theorem cl_X9_69 : cv_ RX9 69 yX9_listOpen zX9_listOpen 9 2 := ⟨gi_V (lwq_6 (dqc_m (List.mem_of_getElem? (i := 4) rfl)) rfl : Cond.methodLink RX9 69 yX9_listOpen ∈ lw_g) (lwq_6 (dqc_m (List.mem_of_getElem? (i := 6) rfl)) rfl : Cond.instanceMethod yX9_listOpen ∈ lw_g) (lw_sel 140 rfl : Cond.selects yX9_listOpen.cls yX9_listOpen yX9_listOpen ∈ lw_g) (lwq_1 (List.mem_of_getElem? (i := 6) rfl) rfl : Cond.initialized yX9_listOpen.cls ∈ lw_g) (lwq_6 (dqc_m (List.mem_of_getElem? (i := 7) rfl)) rfl : Cond.code yX9_listOpen cX9_listOpen 5 (some .boolean) ∈ lw_g), ⟨nmh_8.1, nmh_8.2, pdq_5⟩, ⟨_, _, rfl⟩⟩
abbrev cX10_can : ByteArray := prog_1_method_32_code
def yX10_can : MethodName := ⟨RX10, "can", "(II)I"⟩
def zX10_can : Zm := (RX10, cX10_can, 4, (some .int), { frames := 11, cells := 1, slots := 4096, locals := 303 })
set_option maxRecDepth 100000 in
theorem cl_X10_365 : cv_ RX10 365 yX9_ask zX9_ask 9 2 := ⟨gi_V (lwq_6 (dqc_m (List.mem_of_getElem? (i := 0) rfl)) rfl : Cond.methodLink RX10 365 yX9_ask ∈ lw_g) (lwq_6 (dqc_m (List.mem_of_getElem? (i := 1) rfl)) rfl : Cond.instanceMethod yX9_ask ∈ lw_g) (lwq_6 (dqc_m (List.mem_of_getElem? (i := 2) rfl)) rfl : Cond.selects yX9_ask.cls yX9_ask yX9_ask ∈ lw_g) (lwq_1 (List.mem_of_getElem? (i := 6) rfl) rfl : Cond.initialized yX9_ask.cls ∈ lw_g) (lwq_6 (dqc_m (List.mem_of_getElem? (i := 3) rfl)) rfl : Cond.code yX9_ask cX9_ask 4 (some .int) ∈ lw_g), ⟨nmh_8.1, nmh_8.2, pdq_24⟩, ⟨_, _, rfl⟩⟩
abbrev po_X10_can (T : Zt) (c b : Int) : Zt → Option Zv → Prop := fun T' r => ∃ x : Int, r = some (vI x) ∧ fr_ [(109, [5, 3, 9, 6, 2, 15]), (584, []), (588, []), (587, []), (591, []), (592, []), (590, []), (593, []), (594, []), (107, [1]), (542, []), (543, []), (544, []), (545, []), (546, []), (190, []), (191, [0])] T T' ∧ (T' 109 0 15 ≠ 0 → T' 190 (T' 109 0 15 - 1) (-2) = 4096 ∧ 1 ≤ T' 109 0 15) ∧ lh_ T T' ∧ T' 191 0 0 ≤ T 191 0 0 + 1
abbrev cX1_countFrom : ByteArray := prog_3_method_5_code
def yX1_countFrom : MethodName := ⟨RX1, "countFrom", "(I)I"⟩
abbrev cX1_refresh : ByteArray := prog_3_method_4_code
def yX1_refresh : MethodName := ⟨RX1, "refresh", "()V"⟩
def zX1_refresh : Zm := (RX1, cX1_refresh, 3, none, { frames := 14, cells := 0, slots := 0, locals := 378 })
abbrev cX10_ways : ByteArray := prog_1_method_38_code
def yX10_ways : MethodName := ⟨RX10, "ways", "()I"⟩
def zX10_ways : Zm := (RX10, cX10_ways, 1, (some .int), { frames := 15, cells := 0, slots := 0, locals := 400 })
set_option maxRecDepth 100000 in
theorem cl_X10_399 : cv_ RX10 399 yX1_refresh zX1_refresh 1 0 := ⟨gi_V (lwq_6 (dqc_m (dqc_m (dqc_m (dqc_m (dqa_m (List.mem_of_getElem? (i := 6) rfl)))))) rfl : Cond.methodLink RX10 399 yX1_refresh ∈ lw_g) (lwq_6 (dqc_m (dqc_m (dqc_m (dqc_m (dqa_m (List.mem_of_getElem? (i := 7) rfl)))))) rfl : Cond.instanceMethod yX1_refresh ∈ lw_g) (lwq_6 (dqc_m (dqc_m (dqc_m (dqc_m (dqa_m (dqa_m (List.mem_of_getElem? (i := 0) rfl))))))) rfl : Cond.selects yX1_refresh.cls yX1_refresh yX1_refresh ∈ lw_g) (lwq_1 (dqa_m (List.mem_of_getElem? (i := 0) rfl)) rfl : Cond.initialized yX1_refresh.cls ∈ lw_g) (lwq_6 (dqc_m (dqc_m (dqc_m (dqc_m (dqa_m (dqa_m (List.mem_of_getElem? (i := 1) rfl))))))) rfl : Cond.code yX1_refresh cX1_refresh 3 none ∈ lw_g), ⟨nmh_2.1, nmh_2.2, pdq_1⟩, ⟨_, _, rfl⟩⟩
abbrev po_X10_ways (T : Zt) : Zt → Option Zv → Prop := fun T' r => ∃ x : Int, r = some (vI x) ∧ fr_ [(101, [13, 6, 7]), (434, []), (435, []), (431, []), (432, [])] T T' ∧ (x = x)
abbrev cX10_chance : ByteArray := prog_1_method_39_code
def yX10_chance : MethodName := ⟨RX10, "chance", "(II)I"⟩
def zX10_chance : Zm := (RX10, cX10_chance, 3, (some .int), { frames := 15, cells := 0, slots := 0, locals := 400 })
set_option maxRecDepth 100000 in
theorem cl_X10_405 : cv_ RX10 405 yX1_waysWith zX1_waysWith 1 2 := ⟨gi_V (lwq_6 (dqc_m (dqc_m (dqc_m (dqc_m (dqa_m (dqa_m (dqa_m (List.mem_of_getElem? (i := 2) rfl)))))))) rfl : Cond.methodLink RX10 405 yX1_waysWith ∈ lw_g) (lwq_6 (dqc_m (dqc_m (dqc_m (dqc_m (dqa_m (dqa_m (dqa_m (List.mem_of_getElem? (i := 3) rfl)))))))) rfl : Cond.instanceMethod yX1_waysWith ∈ lw_g) (lwq_6 (dqc_m (dqc_m (dqc_m (dqc_m (dqa_m (dqa_m (dqa_m (List.mem_of_getElem? (i := 4) rfl)))))))) rfl : Cond.selects yX1_waysWith.cls yX1_waysWith yX1_waysWith ∈ lw_g) (lwq_1 (dqa_m (List.mem_of_getElem? (i := 0) rfl)) rfl : Cond.initialized yX1_waysWith.cls ∈ lw_g) (lwq_6 (dqc_m (dqc_m (dqc_m (dqc_m (dqa_m (dqa_m (dqa_m (List.mem_of_getElem? (i := 5) rfl)))))))) rfl : Cond.code yX1_waysWith cX1_waysWith 3 (some .int) ∈ lw_g), ⟨nmh_2.1, nmh_2.2, pdq_4⟩, ⟨_, _, rfl⟩⟩
abbrev po_X10_chance (T : Zt) (c g : Int) : Zt → Option Zv → Prop := fun T' r => ∃ x : Int, r = some (vI x) ∧ fr_ [(101, [13, 6, 7]), (434, []), (435, []), (431, []), (432, [])] T T' ∧ (x = x)
abbrev cX10_ball : ByteArray := prog_1_method_40_code
def yX10_ball : MethodName := ⟨RX10, "ball", "(IZ)I"⟩
def zX10_ball : Zm := (RX10, cX10_ball, 4, (some .int), { frames := 15, cells := 0, slots := 0, locals := 400 })
set_option maxRecDepth 100000 in
theorem cl_X10_414 : cv_ RX10 414 yX1_takeClub zX1_takeClub 1 0 := ⟨gi_V (lwq_6 (dqc_m (dqc_m (dqc_m (dqc_m (dqc_m (List.mem_of_getElem? (i := 2) rfl)))))) rfl : Cond.methodLink RX10 414 yX1_takeClub ∈ lw_g) (lwq_6 (dqc_m (dqc_m (dqc_m (dqc_m (dqc_m (List.mem_of_getElem? (i := 3) rfl)))))) rfl : Cond.instanceMethod yX1_takeClub ∈ lw_g) (lwq_6 (dqc_m (dqc_m (dqc_m (dqc_m (dqc_m (List.mem_of_getElem? (i := 4) rfl)))))) rfl : Cond.selects yX1_takeClub.cls yX1_takeClub yX1_takeClub ∈ lw_g) (lwq_1 (dqa_m (List.mem_of_getElem? (i := 0) rfl)) rfl : Cond.initialized yX1_takeClub.cls ∈ lw_g) (lwq_6 (dqc_m (dqc_m (dqc_m (dqc_m (dqc_m (List.mem_of_getElem? (i := 5) rfl)))))) rfl : Cond.code yX1_takeClub cX1_takeClub 4 (some .int) ∈ lw_g), ⟨nmh_2.1, nmh_2.2, pdq_17⟩, ⟨_, _, rfl⟩⟩
set_option maxRecDepth 100000 in
theorem cl_X10_417 : cv_ RX10 417 yX1_place zX1_place 1 1 := ⟨gi_V (lwq_6 (dqc_m (dqc_m (dqc_m (dqc_m (dqc_m (dqa_m (List.mem_of_getElem? (i := 6) rfl))))))) rfl : Cond.methodLink RX10 417 yX1_place ∈ lw_g) (lwq_6 (dqc_m (dqc_m (dqc_m (dqc_m (dqc_m (dqa_m (List.mem_of_getElem? (i := 7) rfl))))))) rfl : Cond.instanceMethod yX1_place ∈ lw_g) (lwq_6 (dqc_m (dqc_m (dqc_m (dqc_m (dqc_m (dqa_m (dqa_m (List.mem_of_getElem? (i := 0) rfl)))))))) rfl : Cond.selects yX1_place.cls yX1_place yX1_place ∈ lw_g) (lwq_1 (dqa_m (List.mem_of_getElem? (i := 0) rfl)) rfl : Cond.initialized yX1_place.cls ∈ lw_g) (lwq_6 (dqc_m (dqc_m (dqc_m (dqc_m (dqc_m (dqa_m (dqa_m (List.mem_of_getElem? (i := 1) rfl)))))))) rfl : Cond.code yX1_place cX1_place 5 none ∈ lw_g), ⟨nmh_2.1, nmh_2.2, pdq_9⟩, ⟨_, _, rfl⟩⟩
abbrev po_X10_ball (T : Zt) (s b : Int) : Zt → Option Zv → Prop := fun T' r => ∃ x : Int, r = some (vI x) ∧ fr_ [(101, [13, 6, 7, 5, 4]), (434, []), (435, []), (431, []), (432, []), (429, [])] T T' ∧ (x = x)
-- static rows and texts, which no method writes
section JS
variable {Y Yc : Zm} {T0 T : Zt} {P : Zt → Option Zv → Prop} {bc bs : Nat} {pc : Int} {ls : Zl} {st rest : List Zv} {y : MethodName} {Qp : Zt → Option Zv → Prop}
theorem sa_b : ∀ i, i < 3 → ∀ x, x < 16 → 0 ≤ (sa_ i).getD x 0 ∧ (sa_ i).getD x 0 ≤ 999 := by decide
theorem j_gs81 {idx i : Nat} (hp : 0 ≤ pc) (hi : i < 3) (hlk : Cond.fieldLink Y.1 idx "SportsHouse$RuleText" (sn_ i) "[I" ∈ lw_g) (hd : decode Y.2.1 pc.toNat = .ok (.getstatic idx, 3)) (kk : J_ Y T0 P bc bs (pc + 3) ls (vR 81 (i : Int) :: st) T) : J_ Y T0 P bc bs pc ls st T := by
  intro l p e s m args below meth c D cA ad0 A X ad H locs cells slots lsC hc hs hR hS hB hT hL hl hln
  have hz := (X.2.2.2.2.2.2.2.2.2.2.1.1 i hi).1
  have k2 := kk l p e s m args below meth c D cA ad0 A X ad H locs cells slots lsC hc hs hR hS hB hT (ok_push (Or.inl (by omega)) hL) hl hln
  rw [show (pc + 3).toNat = pc.toNat + 3 by omega] at k2
  have ea : ad 81 (i : Int) = ad0 81 (i : Int) := hB.2 81 _ (Or.inl (by omega))
  refine va_gets X.1 X.2.1 hz hS X.2.2.2.2.2.2.1 (X.2.2.2.2.2.1 _ hlk) (fun _ h => h) hd ?_
  rw [← ea]
  exact k2
theorem j_ld81 {i : Nat} {x : Int} (hp : 0 ≤ pc) (hi : i < 3) (h1 : 0 ≤ x) (h2 : x < 16) (hd : decode Y.2.1 pc.toNat = .ok (.iaload, 1)) (kk : J_ Y T0 P bc bs (pc + 1) ls (vI ((sa_ i).getD x.toNat 0) :: st) T) : J_ Y T0 P bc bs pc ls (vI x :: vR 81 (i : Int) :: st) T := by
  intro l p e s m args below meth c D cA ad0 A X ad H locs cells slots lsC hc hs hR hS hB hT hL hl hln
  have hz := (X.2.2.2.2.2.2.2.2.2.2.1.1 i hi).2
  have hb := sa_b i hi x.toNat (by omega)
  have k2 := kk l p e s m args below meth c D cA ad0 A X ad H locs cells slots lsC hc hs hR hS hB hT (ok_push (show ok_v T (vI _) from ⟨by omega, by omega⟩) (ok_tail (ok_tail hL))) hl hln
  rw [show (pc + 1).toNat = pc.toNat + 1 by omega] at k2
  have ea : ad 81 (i : Int) = ad0 81 (i : Int) := hB.2 81 _ (Or.inl (by omega))
  have hcl := i3_cl h1 (show x ≤ 2147483647 by omega)
  rw [← ea] at hz
  refine va_ti X.1 X.2.1 hz hS (i3_in h1 (show x < 16 by omega) (by omega)) (v := .int (Int32.ofInt ((sa_ i).getD x.toNat 0))) (by rw [show (Int32.ofInt x).toNatClampNeg = x.toNat by omega]) hd ?_
  exact k2
theorem j_ldcS {idx i : Nat} (hp : 0 ≤ pc) (hY : Y.1 = "SportsHouse$RuleText") (hi : i < 3) (hx : (stx_ i).1 = idx) (hd : decode Y.2.1 pc.toNat = .ok (.ldc idx, 2)) (kk : J_ Y T0 P bc bs (pc + 2) ls (vR 82 (i : Int) :: st) T) : J_ Y T0 P bc bs pc ls st T := by
  intro l p e s m args below meth c D cA ad0 A X ad H locs cells slots lsC hc hs hR hS hB hT hL hl hln
  have hz := X.2.2.2.2.2.2.2.2.2.2.1.2.2.1 i hi
  have k2 := kk l p e s m args below meth c D cA ad0 A X ad H locs cells slots lsC hc hs hR hS hB hT (ok_push (Or.inl (by omega)) hL) hl hln
  rw [show (pc + 2).toNat = pc.toNat + 2 by omega] at k2
  have ea : ad 82 (i : Int) = ad0 82 (i : Int) := hB.2 82 _ (Or.inl (by omega))
  rw [← ea, hx] at hz
  have ho := X.2.2.2.2.2.2.1
  rw [hY] at ho
  exact va_ldcS X.1 X.2.1 ho hz hd k2
theorem j_gsC {idx : Nat} (hp : 0 ≤ pc) (hlk : Cond.fieldLink Y.1 idx "java/lang/String" "COMPACT_STRINGS" "Z" ∈ lw_g) (hd : decode Y.2.1 pc.toNat = .ok (.getstatic idx, 3)) (kk : J_ Y T0 P bc bs (pc + 3) ls (vI 1 :: st) T) : J_ Y T0 P bc bs pc ls st T := by
  intro l p e s m args below meth c D cA ad0 A X ad H locs cells slots lsC hc hs hR hS hB hT hL hl hln
  have k2 := kk l p e s m args below meth c D cA ad0 A X ad H locs cells slots lsC hc hs hR hS hB hT (ok_push (show ok_v T (vI 1) from ⟨by omega, by omega⟩) hL) hl hln
  rw [show (pc + 3).toNat = pc.toNat + 3 by omega] at k2
  exact va_gets X.1 X.2.1 X.2.2.2.2.2.2.2.2.2.2.1.2.2.2.1 hS X.2.2.2.2.2.2.1 (X.2.2.2.2.2.1 _ hlk) (fun _ h => h) hd k2
theorem j_gsF {idx : Nat} (hp : 0 ≤ pc) (hlk : Cond.fieldLink Y.1 idx "jdk/internal/util/Preconditions" "SIOOBE_FORMATTER" "Ljava/util/function/BiFunction;" ∈ lw_g) (hd : decode Y.2.1 pc.toNat = .ok (.getstatic idx, 3)) (k0 : J_ Y T0 P bc bs (pc + 3) ls (vN :: st) T) (k1 : J_ Y T0 P bc bs (pc + 3) ls (vR 84 0 :: st) T) : J_ Y T0 P bc bs pc ls st T := by
  intro l p e s m args below meth c D cA ad0 A X ad H locs cells slots lsC hc hs hR hS hB hT hL hl hln
  rcases X.2.2.2.2.2.2.2.2.2.2.1.2.2.2.2 with hz | hz
  · have k2 := k0 l p e s m args below meth c D cA ad0 A X ad H locs cells slots lsC hc hs hR hS hB hT (ok_push trivial hL) hl hln
    rw [show (pc + 3).toNat = pc.toNat + 3 by omega] at k2
    exact va_gets X.1 X.2.1 hz hS X.2.2.2.2.2.2.1 (X.2.2.2.2.2.1 _ hlk) (fun _ h => h) hd k2
  · have k2 := k1 l p e s m args below meth c D cA ad0 A X ad H locs cells slots lsC hc hs hR hS hB hT (ok_push (Or.inl (by omega)) hL) hl hln
    rw [show (pc + 3).toNat = pc.toNat + 3 by omega] at k2
    have ea : ad 84 0 = ad0 84 0 := hB.2 84 _ (Or.inl (by omega))
    refine va_gets X.1 X.2.1 hz hS X.2.2.2.2.2.2.1 (X.2.2.2.2.2.1 _ hlk) (fun _ h => h) hd ?_
    rw [← ea]
    exact k2
theorem j_gfC {idx i : Nat} (hp : 0 ≤ pc) (hi : i < 3) (hlk : Cond.fieldLink Y.1 idx "java/lang/String" "coder" "B" ∈ lw_g) (hd : decode Y.2.1 pc.toNat = .ok (.getfield idx, 3)) (kk : J_ Y T0 P bc bs (pc + 3) ls (vI 0 :: st) T) : J_ Y T0 P bc bs pc ls (vR 82 (i : Int) :: st) T := by
  intro l p e s m args below meth c D cA ad0 A X ad H locs cells slots lsC hc hs hR hS hB hT hL hl hln
  have hz := (X.2.2.2.2.2.2.2.2.2.2.1.2.1.1 i hi).2.1
  have k2 := kk l p e s m args below meth c D cA ad0 A X ad H locs cells slots lsC hc hs hR hS hB hT (ok_push (show ok_v T (vI 0) from ⟨by omega, by omega⟩) (ok_tail hL)) hl hln
  rw [show (pc + 3).toNat = pc.toNat + 3 by omega] at k2
  have ea : ad 82 (i : Int) = ad0 82 (i : Int) := hB.2 82 _ (Or.inl (by omega))
  dsimp only at hz
  rw [show ad0 82 (i : Int) = ad 82 (i : Int) from ea.symm] at hz
  exact vk_getf X.1 X.2.1 hz hS X.2.2.2.2.2.2.1 (X.2.2.2.2.2.1 _ hlk) (fun _ h => h) hd k2
theorem j_gfV {idx i : Nat} (hp : 0 ≤ pc) (hi : i < 3) (hlk : Cond.fieldLink Y.1 idx "java/lang/String" "value" "[B" ∈ lw_g) (hd : decode Y.2.1 pc.toNat = .ok (.getfield idx, 3)) (kk : J_ Y T0 P bc bs (pc + 3) ls (vR 83 (i : Int) :: st) T) : J_ Y T0 P bc bs pc ls (vR 82 (i : Int) :: st) T := by
  intro l p e s m args below meth c D cA ad0 A X ad H locs cells slots lsC hc hs hR hS hB hT hL hl hln
  have hz := (X.2.2.2.2.2.2.2.2.2.2.1.2.1.1 i hi).2.2.1
  have k2 := kk l p e s m args below meth c D cA ad0 A X ad H locs cells slots lsC hc hs hR hS hB hT (ok_push (Or.inl (by omega)) (ok_tail hL)) hl hln
  rw [show (pc + 3).toNat = pc.toNat + 3 by omega] at k2
  have ea : ad 82 (i : Int) = ad0 82 (i : Int) := hB.2 82 _ (Or.inl (by omega))
  have eb : ad 83 (i : Int) = ad0 83 (i : Int) := hB.2 83 _ (Or.inl (by omega))
  dsimp only at hz
  rw [show ad0 82 (i : Int) = ad 82 (i : Int) from ea.symm, show ad0 83 (i : Int) = ad 83 (i : Int) from eb.symm] at hz
  exact vk_getf X.1 X.2.1 hz hS X.2.2.2.2.2.2.1 (X.2.2.2.2.2.1 _ hlk) (fun _ h => h) hd k2
theorem j_len83 {i : Nat} {n : Int} (hp : 0 ≤ pc) (hi : i < 3) (hn : ((sle_.getD i 0 : Nat) : Int) = n) (hb : n ≤ 1000) (hd : decode Y.2.1 pc.toNat = .ok (.arraylength, 1)) (kk : J_ Y T0 P bc bs (pc + 1) ls (vI n :: st) T) : J_ Y T0 P bc bs pc ls (vR 83 (i : Int) :: st) T := by
  intro l p e s m args below meth c D cA ad0 A X ad H locs cells slots lsC hc hs hR hS hB hT hL hl hln
  have hz := (X.2.2.2.2.2.2.2.2.2.2.1.2.1.1 i hi).2.2.2
  have k2 := kk l p e s m args below meth c D cA ad0 A X ad H locs cells slots lsC hc hs hR hS hB hT (ok_push (show ok_v T (vI n) from ⟨by omega, by omega⟩) (ok_tail hL)) hl hln
  rw [show (pc + 1).toNat = pc.toNat + 1 by omega] at k2
  have eb : ad 83 (i : Int) = ad0 83 (i : Int) := hB.2 83 _ (Or.inl (by omega))
  dsimp only at hz
  rw [show ad0 83 (i : Int) = ad 83 (i : Int) from eb.symm] at hz
  refine va_tlen X.1 X.2.1 hz hS (v := Int32.ofInt n) ?_ hd k2
  rw [← hn]
  rfl
theorem j_ba83 {i : Nat} {x n : Int} (hp : 0 ≤ pc) (hi : i < 3) (hn : ((sle_.getD i 0 : Nat) : Int) = n) (h1 : 0 ≤ x) (h2 : x < n) (hb : n ≤ 1000) (hv : ∀ k, k < 1000 → Int32.ofInt (((sby_.getD i []).getD k 0).toInt) = (sby_.getD i []).getD k 0 ∧ 0 ≤ ((sby_.getD i []).getD k 0).toInt ∧ ((sby_.getD i []).getD k 0).toInt ≤ 127) (hd : decode Y.2.1 pc.toNat = .ok (.baload, 1)) (kk : J_ Y T0 P bc bs (pc + 1) ls (vI ((sby_.getD i []).getD x.toNat 0).toInt :: st) T) : J_ Y T0 P bc bs pc ls (vI x :: vR 83 (i : Int) :: st) T := by
  intro l p e s m args below meth c D cA ad0 A X ad H locs cells slots lsC hc hs hR hS hB hT hL hl hln
  have hz := (X.2.2.2.2.2.2.2.2.2.2.1.2.1.1 i hi).2.2.2
  have hw := hv x.toNat (by omega)
  have k2 := kk l p e s m args below meth c D cA ad0 A X ad H locs cells slots lsC hc hs hR hS hB hT (ok_push (show ok_v T (vI _) from ⟨by omega, by omega⟩) (ok_tail (ok_tail hL))) hl hln
  rw [show (pc + 1).toNat = pc.toNat + 1 by omega] at k2
  have eb : ad 83 (i : Int) = ad0 83 (i : Int) := hB.2 83 _ (Or.inl (by omega))
  have hcl := i3_cl h1 (show x ≤ 2147483647 by omega)
  dsimp only at hz
  rw [show ad0 83 (i : Int) = ad 83 (i : Int) from eb.symm] at hz
  have hin := i3_in h1 (show x < ((sle_.getD i 0 : Nat) : Int) by omega) (by omega)
  rw [Int.toNat_natCast] at hin
  refine va_tb X.1 X.2.1 hz hS hin (v := .int (Int32.ofInt (((sby_.getD i []).getD x.toNat 0).toInt))) (by rw [show (Int32.ofInt x).toNatClampNeg = x.toNat by omega, hw.1]) hd k2
theorem i2c_b : ∀ n : Nat, n < 128 → ((Int32.ofInt (n : Int)).toUInt32 % 65536).toInt32 = Int32.ofInt (n : Int) := by decide +kernel
theorem nar_b : ∀ n : Nat, n < 128 → narrow .char (.int (Int32.ofInt (n : Int))) = .int (Int32.ofInt (n : Int)) ∧ narrow .byte (.int (Int32.ofInt (n : Int))) = .int (Int32.ofInt (n : Int)) := by decide +kernel
theorem j_i2c {x : Int} (hp : 0 ≤ pc) (h : 0 ≤ x ∧ x ≤ 127) (hd : decode Y.2.1 pc.toNat = .ok (.i2c, 1)) (kk : J_ Y T0 P bc bs (pc + 1) ls (vI x :: st) T) : J_ Y T0 P bc bs pc ls (vI x :: st) T := by
  intro l p e s m args below meth c D cA ad0 A X ad H locs cells slots lsC hc hs hR hS hB hT hL hl hln
  have k2 := kk l p e s m args below meth c D cA ad0 A X ad H locs cells slots lsC hc hs hR hS hB hT hL hl hln
  rw [show (pc + 1).toNat = pc.toNat + 1 by omega] at k2
  have h1 := i2c_b x.toNat (by omega)
  rw [show ((x.toNat : Nat) : Int) = x by omega] at h1
  exact lv_i2c X.1 X.2.1 hd h1 k2
theorem j_iretN {x : Int} (hr : Y.2.2.2.1 = some .char ∨ Y.2.2.2.1 = some .byte) (h : 0 ≤ x ∧ x ≤ 127) (hd : decode Y.2.1 pc.toNat = .ok (.ireturn, 1)) (k : P T (some (vI x))) : J_ Y T0 P bc bs pc ls [vI x] T := by
  intro l p e' s m args below meth c D cA ad0 A X ad H locs cells slots lsC hc hs hR hS hB hT hL hl hn
  refine W.widen (k := Y.2.2.2.2.cells) (n := Y.2.2.2.2.slots) (by omega) (by omega) ?_
  have hq : ∀ t : State, t.heap = H → s.WarmedH t.vm → Qc_ D cA ad0 T0 A P args s (.returned (some (.int (Int32.ofInt x)))) t := fun t ht _ => ⟨⟨T, ad, some (vI x), rfl, k, hT, fun v hv => by cases hv; exact ok_head hL, by rw [ht]; exact hR, hB⟩, hS.F ht⟩
  have h1 := nar_b x.toNat (by omega)
  rw [show ((x.toNat : Nat) : Int) = x by omega] at h1
  rcases hr with hr | hr
  · exact W.zret (ty := .char) X.1 X.2.1 (X.2.2.2.1.trans hr) h1.1 hq hS.2.2 hd X.2.2.2.2.1
  · exact W.zret (ty := .byte) X.1 X.2.1 (X.2.2.2.1.trans hr) h1.2 hq hS.2.2 hd X.2.2.2.2.1
/-- a call of a text's method -/
def ck82_ (own : String) (idx : Nat) (y : MethodName) (Yc : Zm) (n : Nat) : Prop := GoodIn lw_g (wsV own idx y.cls y (.code y Yc.2.1 Yc.2.2.1 Yc.2.2.2.1 :: lw_g)) ∧ (y.cls ≠ "java/lang/invoke/MethodHandle" ∧ y.cls ≠ "java/lang/invoke/VarHandle" ∧ (parseMethodDescriptor y.desc).map (fun d => d.parameters.length) = some n) ∧ y.cls = "java/lang/String"
theorem j_callK {idx n i : Nat} (as : List Zv) (hi : i < 3) (hC : Ct_ y Yc T (vR 82 (i : Int) :: as) Qp) (hcv : ck82_ Y.1 idx y Yc n) (hd : decode Y.2.1 pc.toNat = .ok (.invokevirtual idx, 3)) (hp : 0 ≤ pc) (hn : as.length = n) (hrm : rf_ Yc Y = true) (hrest : rest.length ≤ 4) (hmc : Yc.2.2.2.2.cells ≤ bc) (hms : Yc.2.2.2.2.slots ≤ bs) {st0 : List Zv} (hst : st0 = as.reverse ++ vR 82 (i : Int) :: rest) (kk : ∀ (T' : Zt) (r : Option Zv), Qp T' r → J_ Y T0 P (bc - Yc.2.2.2.2.cells) (bs - Yc.2.2.2.2.slots) (pc + 3) ls (r.toList ++ rest) T') : J_ Y T0 P bc bs pc ls st0 T := by
  subst hst
  intro l p e s m args below meth c D cA ad0 A X ad H locs cells slots lsC hc hs hR hS hB hT hL hl hln
  obtain ⟨hG, hdd, hcs⟩ := hcv
  simp only [rf_, Bool.and_eq_true, decide_eq_true_eq] at hrm
  have hLr : ok_l T ls rest := ⟨hL.1, fun v hv => hL.2 v (by simp [hv])⟩
  have hAA : ∀ q, A_ ad T H.size q → A q := by
    rintro q (⟨k, i, ha, rfl⟩ | h)
    · exact Rp_in hR ha
    · exact X.2.2.2.2.2.2.2.2.2.1 q (Nat.le_trans hS.1 h)
  have hrc := vk_recv X.2.2.2.2.2.2.2.2.2.2.1.2.1 hi hS
  have ea : ad 82 (i : Int) = ad0 82 (i : Int) := hB.2 82 _ (Or.inl (by omega))
  rw [show ad0 82 (i : Int) = ad 82 (i : Int) from ea.symm, ← hcs] at hrc
  refine j_back X hc hs hR hS hB hLr hl hln hp hmc hms (va_runV (As := as.map (en_v ad)) (rest := rest.map (en_v ad)) (b := ad 82 (i : Int)) ⟨X.1, X.2.1, X.2.2.1, X.2.2.2.2.2.2.1, X.2.2.2.2.2.1⟩ (hC l D cA ad H.size) (cwV n X.2.2.2.2.2.1 hG rfl rfl rfl ⟨rfl, hdd⟩ hrm) ⟨pc_blind, hrc, fun U hU hW => ⟨rfl, by rw [hU], by rw [hU]; exact Rp_A hR (fun _ _ _ _ => trivial), va_K.moved hW.alike X.2.2.2.2.2.2.2.1, ex_warm hW X.2.2.2.2.2.2.2.2.1, se_call X.2.2.2.2.2.2.2.2.2.2.1 hS hAA hU hW (fun k i hk => hB.2 k i (Or.inl hk)), hT, fun v hv => hL.2 v ?_⟩⟩ rfl (by rw [List.length_map]; exact hn) (hl.1) ?_ (lv_room ?_) hd ⟨by omega, by omega⟩) (fun T' r h => kk T' r h)
  · rcases List.mem_cons.mp hv with rfl | h
    · simp
    · simp [h]
  · show List.map (en_v ad) (as.reverse ++ vR 82 (i : Int) :: rest) = _
    rw [List.map_append, List.map_reverse, List.map_cons]
    rfl
  · have := en_sum (ad := ad) rest
    omega
end JS
theorem bv_all : ∀ i, i < 3 → ∀ v ∈ sby_.getD i [], 0 ≤ v.toInt ∧ v.toInt ≤ 127 := by decide +kernel
/-- a byte of a text -/
def cb8_ (i : Nat) (x : Int) : Int := ((sby_.getD i []).getD x.toNat 0).toInt
theorem bv_k {i : Nat} (hi : i < 3) (k : Nat) : 0 ≤ ((sby_.getD i []).getD k 0).toInt ∧ ((sby_.getD i []).getD k 0).toInt ≤ 127 := by
  rw [List.getD_eq_getElem?_getD (l := sby_.getD i [])]
  cases h : (sby_.getD i [])[k]? with
  | none => exact ⟨by decide, by decide⟩
  | some v => exact bv_all i hi v (List.mem_of_getElem? h)
theorem cb8_b {i : Nat} (hi : i < 3) (x : Int) : 0 ≤ cb8_ i x ∧ cb8_ i x ≤ 127 := bv_k hi _
theorem an_255 : ∀ n : Nat, n < 128 → an_ (n : Int) 255 = (n : Int) := by decide +kernel
theorem an_25 {x : Int} (h : 0 ≤ x ∧ x ≤ 127) : an_ x 255 = x := by
  have h1 := an_255 x.toNat (by omega)
  rw [show ((x.toNat : Nat) : Int) = x by omega] at h1
  exact h1
abbrev RJ0 : String := "java/lang/String"
def fJ0 : Zf := ([], [], [], [])
theorem tb_J0 : tb_ RJ0 fJ0 := ⟨fun _ h => absurd h List.not_mem_nil, fun _ h => absurd h List.not_mem_nil, fun _ h => absurd h List.not_mem_nil, fun _ h => absurd h List.not_mem_nil⟩
abbrev RJ1 : String := "java/lang/StringLatin1"
def fJ1 : Zf := ([], [], [], [])
theorem tb_J1 : tb_ RJ1 fJ1 := ⟨fun _ h => absurd h List.not_mem_nil, fun _ h => absurd h List.not_mem_nil, fun _ h => absurd h List.not_mem_nil, fun _ h => absurd h List.not_mem_nil⟩
abbrev RJ3 : String := "jdk/internal/util/Preconditions"
def fJ3 : Zf := ([], [], [], [])
theorem tb_J3 : tb_ RJ3 fJ3 := ⟨fun _ h => absurd h List.not_mem_nil, fun _ h => absurd h List.not_mem_nil, fun _ h => absurd h List.not_mem_nil, fun _ h => absurd h List.not_mem_nil⟩
abbrev cJ3_checkIndex_8e157 : ByteArray := prog_22_method_11_code
def yJ3_checkIndex_8e157 : MethodName := ⟨RJ3, "checkIndex", "(IILjava/util/function/BiFunction;)I"⟩
def zJ3_checkIndex_8e157 : Zm := (RJ3, cJ3_checkIndex_8e157, 3, (some .int), { frames := 0, cells := 0, slots := 0, locals := 0 })
theorem bk_J3_checkIndex_8e157_0 : ck_ fJ3 (some .int) cJ3_checkIndex_8e157 0 [.iload 0, .ifCond .lt 9, .iload 0, .iload 1, .if_icmp .lt 16, .aload 2, .iload 0, .iload 1] 12 = true := qck_r (nn_ _) (by decide +kernel)
theorem bs_J3_checkIndex_8e157_0 {P : Zt → Option Zv → Prop} (K : Int → Zl → List Zv → Zt → Prop) : sx_ K P [.iload 0, .ifCond .lt 9, .iload 0, .iload 1, .if_icmp .lt 16, .aload 2, .iload 0, .iload 1] 12 = x_iload 0 (x_ifCond .lt 9 K (x_iload 0 (x_iload 1 (x_if_icmp .lt 16 K (x_aload 2 (x_iload 0 (x_iload 1 (K 12)))))))) := ((xe_iload 0).trans (congrArg (x_iload 0) ((xe_ifCond .lt 9).trans (congrArg (x_ifCond .lt 9 K) ((xe_iload 0).trans (congrArg (x_iload 0) ((xe_iload 1).trans (congrArg (x_iload 1) ((xe_if_icmp .lt 16).trans (congrArg (x_if_icmp .lt 16 K) ((xe_aload 2).trans (congrArg (x_aload 2) ((xe_iload 0).trans (congrArg (x_iload 0) ((xe_iload 1).trans (congrArg (x_iload 1) xe_nil))))))))))))))))
theorem bk_J3_checkIndex_8e157_16 : ck_ fJ3 (some .int) cJ3_checkIndex_8e157 16 [.iload 0, .ireturn] 18 = true := qck_r (nn_ _) (by decide +kernel)
theorem bs_J3_checkIndex_8e157_16 {P : Zt → Option Zv → Prop} (K : Int → Zl → List Zv → Zt → Prop) : sx_ K P [.iload 0, .ireturn] 18 = x_iload 0 (x_ireturn P) := ((xe_iload 0).trans (congrArg (x_iload 0) (xe_ireturn)))
abbrev po_J3_checkIndex_n (T : Zt) (a n : Int) : Zt → Option Zv → Prop := fun T' r => T = T' ∧ r = some (vI (a))
set_option maxHeartbeats 4000000 in
theorem ct_J3_checkIndex_n {T : Zt} {a n : Int} (h1 : 0 ≤ a ∧ a < n) : Ct_ yJ3_checkIndex_8e157 zJ3_checkIndex_8e157 T [vI a, vI n, vN] (po_J3_checkIndex_n T a n) := by
  refine ct_of (by decide) rfl rfl (Nat.le_of_ble_eq_true rfl) (fun hT hav => ?_)
  have hr_a : -2147483648 ≤ a ∧ a ≤ 2147483647 := hav (vI a) List.mem_cons_self
  have hr_n : -2147483648 ≤ n ∧ n ≤ 2147483647 := hav (vI n) (List.mem_cons_of_mem _ List.mem_cons_self)
  have hz : zJ3_checkIndex_8e157.2.2.2.1 = some .boolean → ∀ (T' : Zt) (x : Int), po_J3_checkIndex_n T a n T' (some (vI x)) → 0 ≤ x ∧ x ≤ 1 := fun h => by cases h
  show J_ zJ3_checkIndex_8e157 T (po_J3_checkIndex_n T a n) 0 0 0 [some (vI a), some (vI n), some (vN)] [] T
  refine j_blx (F := fJ3) tb_J3 (nn_ _) bk_J3_checkIndex_8e157_0 bs_J3_checkIndex_8e157_0 hz (fun K hK => ?_)
  refine And.intro (fun c1 => ?_) (fun c1 => ?_)
  · exact absurd c1 (by omega)
  · refine And.intro (fun c2 => ?_) (fun c2 => ?_)
    · refine hK 16 _ [] T ?_
      refine j_blx (F := fJ3) tb_J3 (nn_ _) bk_J3_checkIndex_8e157_16 bs_J3_checkIndex_8e157_16 hz (fun K hK => ?_)
      refine (show po_J3_checkIndex_n T a n T (some (vI a)) from ?_)
      exact ⟨rfl, rfl⟩
    · exact absurd c2 (by omega)
abbrev po_J3_checkIndex_r (T : Zt) (a n : Int) : Zt → Option Zv → Prop := fun T' r => T = T' ∧ r = some (vI (a))
set_option maxHeartbeats 4000000 in
theorem ct_J3_checkIndex_r {T : Zt} {a n : Int} (h1 : 0 ≤ a ∧ a < n) : Ct_ yJ3_checkIndex_8e157 zJ3_checkIndex_8e157 T [vI a, vI n, vR 84 0] (po_J3_checkIndex_r T a n) := by
  refine ct_of (by decide) rfl rfl (Nat.le_of_ble_eq_true rfl) (fun hT hav => ?_)
  have hr_a : -2147483648 ≤ a ∧ a ≤ 2147483647 := hav (vI a) List.mem_cons_self
  have hr_n : -2147483648 ≤ n ∧ n ≤ 2147483647 := hav (vI n) (List.mem_cons_of_mem _ List.mem_cons_self)
  have hz : zJ3_checkIndex_8e157.2.2.2.1 = some .boolean → ∀ (T' : Zt) (x : Int), po_J3_checkIndex_r T a n T' (some (vI x)) → 0 ≤ x ∧ x ≤ 1 := fun h => by cases h
  show J_ zJ3_checkIndex_8e157 T (po_J3_checkIndex_r T a n) 0 0 0 [some (vI a), some (vI n), some (vR 84 0)] [] T
  refine j_blx (F := fJ3) tb_J3 (nn_ _) bk_J3_checkIndex_8e157_0 bs_J3_checkIndex_8e157_0 hz (fun K hK => ?_)
  refine And.intro (fun c1 => ?_) (fun c1 => ?_)
  · exact absurd c1 (by omega)
  · refine And.intro (fun c2 => ?_) (fun c2 => ?_)
    · refine hK 16 _ [] T ?_
      refine j_blx (F := fJ3) tb_J3 (nn_ _) bk_J3_checkIndex_8e157_16 bs_J3_checkIndex_8e157_16 hz (fun K hK => ?_)
      refine (show po_J3_checkIndex_r T a n T (some (vI a)) from ?_)
      exact ⟨rfl, rfl⟩
    · exact absurd c2 (by omega)
abbrev cJ0_checkIndex_df160 : ByteArray := prog_17_method_155_code
def yJ0_checkIndex_df160 : MethodName := ⟨RJ0, "checkIndex", "(II)V"⟩
def zJ0_checkIndex_df160 : Zm := (RJ0, cJ0_checkIndex_df160, 2, none, { frames := 1, cells := 0, slots := 0, locals := 22 })
theorem bk_J0_checkIndex_df160_0 : ck_ fJ0 none cJ0_checkIndex_df160 0 [.iload 0, .iload 1] 2 = true := qck_r (nn_ _) (by decide +kernel)
theorem bs_J0_checkIndex_df160_0 {P : Zt → Option Zv → Prop} (K : Int → Zl → List Zv → Zt → Prop) : sx_ K P [.iload 0, .iload 1] 2 = x_iload 0 (x_iload 1 (K 2)) := ((xe_iload 0).trans (congrArg (x_iload 0) ((xe_iload 1).trans (congrArg (x_iload 1) xe_nil))))
set_option maxRecDepth 100000 in
theorem cl_J0_1059 : cs_ RJ0 1059 yJ3_checkIndex_8e157 zJ3_checkIndex_8e157 3 := ⟨gi_S (lwq_3 (dqa_m (dqa_m (List.mem_of_getElem? (i := 5) rfl))) rfl : Cond.methodLink RJ0 1059 yJ3_checkIndex_8e157 ∈ lw_g) (lwq_3 (dqa_m (dqa_m (List.mem_of_getElem? (i := 6) rfl))) rfl : Cond.static yJ3_checkIndex_8e157 ∈ lw_g) (lwq_1 (dqa_m (List.mem_of_getElem? (i := 5) rfl)) rfl : Cond.initialized yJ3_checkIndex_8e157.cls ∈ lw_g) (lwq_3 (dqa_m (dqa_m (List.mem_of_getElem? (i := 7) rfl))) rfl : Cond.code yJ3_checkIndex_8e157 cJ3_checkIndex_8e157 3 (some .int) ∈ lw_g), ⟨by decide, by decide, by decide +kernel⟩⟩
theorem bk_J0_checkIndex_df160_8 : ck_ fJ0 none cJ0_checkIndex_df160 8 [.pop, .return_] 10 = true := qck_r (nn_ _) (by decide +kernel)
theorem bs_J0_checkIndex_df160_8 {P : Zt → Option Zv → Prop} (K : Int → Zl → List Zv → Zt → Prop) : sx_ K P [.pop, .return_] 10 = x_pop (x_return_ P) := ((xe_pop).trans (congrArg (x_pop) (xe_return_)))
abbrev po_J0_checkIndex_df160 (T : Zt) (a n : Int) : Zt → Option Zv → Prop := fun T' r => T = T' ∧ r = none
set_option maxHeartbeats 4000000 in
theorem ct_J0_checkIndex_df160 {T : Zt} {a n : Int} (h1 : 0 ≤ a ∧ a < n) : Ct_ yJ0_checkIndex_df160 zJ0_checkIndex_df160 T [vI a, vI n] (po_J0_checkIndex_df160 T a n) := by
  refine ct_of (by decide) rfl rfl (Nat.le_of_ble_eq_true rfl) (fun hT hav => ?_)
  have hr_a : -2147483648 ≤ a ∧ a ≤ 2147483647 := hav (vI a) List.mem_cons_self
  have hr_n : -2147483648 ≤ n ∧ n ≤ 2147483647 := hav (vI n) (List.mem_cons_of_mem _ List.mem_cons_self)
  have hz : zJ0_checkIndex_df160.2.2.2.1 = some .boolean → ∀ (T' : Zt) (x : Int), po_J0_checkIndex_df160 T a n T' (some (vI x)) → 0 ≤ x ∧ x ≤ 1 := fun h => by cases h
  show J_ zJ0_checkIndex_df160 T (po_J0_checkIndex_df160 T a n) 0 0 0 [some (vI a), some (vI n)] [] T
  refine j_blx (F := fJ0) tb_J0 (nn_ _) bk_J0_checkIndex_df160_0 bs_J0_checkIndex_df160_0 hz (fun K hK => ?_)
  refine hK 2 _ [vI n, vI a] T ?_
  refine j_gsF (pc := 2) (by decide) (lwq_3 (dqa_m (dqa_m (List.mem_of_getElem? (i := 3) rfl))) rfl : Cond.fieldLink RJ0 1053 "jdk/internal/util/Preconditions" "SIOOBE_FORMATTER" "Ljava/util/function/BiFunction;" ∈ lw_g) (by decide +kernel) ?_ ?_
  · show J_ zJ0_checkIndex_df160 T (po_J0_checkIndex_df160 T a n) 0 0 5 _ [vN, vI n, vI a] T
    refine j_callS (y := yJ3_checkIndex_8e157) (Yc := zJ3_checkIndex_8e157) (rest := []) [vI a, vI n, vN] (ct_J3_checkIndex_n (T := T) (by omega)) cl_J0_1059 (qd_c (by decide +kernel)) (nn_ _) rfl (rf_of rfl) (Nat.le_of_ble_eq_true rfl) (Nat.le_of_ble_eq_true rfl) (Nat.le_of_ble_eq_true rfl) rfl ?_
    rintro _ _ ⟨rfl, rfl⟩
    show J_ zJ0_checkIndex_df160 T (po_J0_checkIndex_df160 T a n) 0 0 8 _ [vI a] T
    refine j_blx (F := fJ0) tb_J0 (nn_ _) bk_J0_checkIndex_df160_8 bs_J0_checkIndex_df160_8 hz (fun K hK => ?_)
    refine (show po_J0_checkIndex_df160 T a n T (none) from ?_)
    exact ⟨rfl, rfl⟩
  · show J_ zJ0_checkIndex_df160 T (po_J0_checkIndex_df160 T a n) 0 0 5 _ [vR 84 0, vI n, vI a] T
    refine j_callS (y := yJ3_checkIndex_8e157) (Yc := zJ3_checkIndex_8e157) (rest := []) [vI a, vI n, vR 84 0] (ct_J3_checkIndex_r (T := T) (by omega)) cl_J0_1059 (qd_c (by decide +kernel)) (nn_ _) rfl (rf_of rfl) (Nat.le_of_ble_eq_true rfl) (Nat.le_of_ble_eq_true rfl) (Nat.le_of_ble_eq_true rfl) rfl ?_
    rintro _ _ ⟨rfl, rfl⟩
    show J_ zJ0_checkIndex_df160 T (po_J0_checkIndex_df160 T a n) 0 0 8 _ [vI a] T
    refine j_blx (F := fJ0) tb_J0 (nn_ _) bk_J0_checkIndex_df160_8 bs_J0_checkIndex_df160_8 hz (fun K hK => ?_)
    refine (show po_J0_checkIndex_df160 T a n T (none) from ?_)
    exact ⟨rfl, rfl⟩
abbrev cJ0_coder_7d493 : ByteArray := prog_17_method_152_code
def yJ0_coder_7d493 : MethodName := ⟨RJ0, "coder", "()B"⟩
def zJ0_coder_7d493 : Zm := (RJ0, cJ0_coder_7d493, 1, (some .byte), { frames := 0, cells := 0, slots := 0, locals := 0 })
theorem bk_J0_coder_7d493_3 : ck_ fJ0 (some .byte) cJ0_coder_7d493 3 [.ifCond .eq 13, .aload 0] 7 = true := qck_r (nn_ _) (by decide +kernel)
theorem bs_J0_coder_7d493_3 {P : Zt → Option Zv → Prop} (K : Int → Zl → List Zv → Zt → Prop) : sx_ K P [.ifCond .eq 13, .aload 0] 7 = x_ifCond .eq 13 K (x_aload 0 (K 7)) := ((xe_ifCond .eq 13).trans (congrArg (x_ifCond .eq 13 K) ((xe_aload 0).trans (congrArg (x_aload 0) xe_nil))))
theorem bk_J0_coder_7d493_10 : ck_ fJ0 (some .byte) cJ0_coder_7d493 10 [.goto 14] 13 = true := qck_r (nn_ _) (by decide +kernel)
theorem bs_J0_coder_7d493_10 {P : Zt → Option Zv → Prop} (K : Int → Zl → List Zv → Zt → Prop) : sx_ K P [.goto 14] 13 = x_goto 14 K := (xe_goto 14)
abbrev po_J0_coder_0 (T : Zt) : Zt → Option Zv → Prop := fun T' r => T = T' ∧ r = some (vI (0))
set_option maxHeartbeats 4000000 in
theorem ct_J0_coder_0 {T : Zt} : Ct_ yJ0_coder_7d493 zJ0_coder_7d493 T [vR 82 0] (po_J0_coder_0 T) := by
  refine ct_of (by decide) rfl rfl (Nat.le_of_ble_eq_true rfl) (fun hT hav => ?_)
  have hz : zJ0_coder_7d493.2.2.2.1 = some .boolean → ∀ (T' : Zt) (x : Int), po_J0_coder_0 T T' (some (vI x)) → 0 ≤ x ∧ x ≤ 1 := fun h => by cases h
  show J_ zJ0_coder_7d493 T (po_J0_coder_0 T) 0 0 0 [some (vR 82 0)] [] T
  refine j_gsC (pc := 0) (by decide) (lwq_3 (List.mem_of_getElem? (i := 3) rfl) rfl : Cond.fieldLink RJ0 38 "java/lang/String" "COMPACT_STRINGS" "Z" ∈ lw_g) (by decide +kernel) ?_
  show J_ zJ0_coder_7d493 T (po_J0_coder_0 T) 0 0 3 _ [vI 1] T
  refine j_blx (F := fJ0) tb_J0 (nn_ _) bk_J0_coder_7d493_3 bs_J0_coder_7d493_3 hz (fun K hK => ?_)
  refine And.intro (fun c1 => ?_) (fun c1 => ?_)
  · exact absurd c1 (by decide)
  · refine hK 7 _ [vR 82 0] T ?_
    refine j_gfC (pc := 7) (i := 0) (by decide) (by decide) (lwq_10 (dqc_m (dqc_m (dqc_m (dqa_m (dqa_m (List.mem_of_getElem? (i := 7) rfl)))))) rfl : Cond.fieldLink RJ0 15 "java/lang/String" "coder" "B" ∈ lw_g) (by decide +kernel) ?_
    show J_ zJ0_coder_7d493 T (po_J0_coder_0 T) 0 0 10 _ [vI 0] T
    refine j_blx (F := fJ0) tb_J0 (nn_ _) bk_J0_coder_7d493_10 bs_J0_coder_7d493_10 hz (fun K hK => ?_)
    refine hK 14 _ [vI 0] T ?_
    refine j_iretN (pc := 14) (Or.inr rfl) ⟨by decide, by decide⟩ (by decide +kernel) ?_
    refine (show po_J0_coder_0 T T (some (vI 0)) from ?_)
    exact ⟨rfl, rfl⟩
abbrev cJ0_isLatin1_aae02 : ByteArray := prog_17_method_154_code
def yJ0_isLatin1_aae02 : MethodName := ⟨RJ0, "isLatin1", "()Z"⟩
def zJ0_isLatin1_aae02 : Zm := (RJ0, cJ0_isLatin1_aae02, 1, (some .boolean), { frames := 0, cells := 0, slots := 0, locals := 0 })
theorem bk_J0_isLatin1_aae02_3 : ck_ fJ0 (some .boolean) cJ0_isLatin1_aae02 3 [.ifCond .eq 17, .aload 0] 7 = true := qck_r (nn_ _) (by decide +kernel)
theorem bs_J0_isLatin1_aae02_3 {P : Zt → Option Zv → Prop} (K : Int → Zl → List Zv → Zt → Prop) : sx_ K P [.ifCond .eq 17, .aload 0] 7 = x_ifCond .eq 17 K (x_aload 0 (K 7)) := ((xe_ifCond .eq 17).trans (congrArg (x_ifCond .eq 17 K) ((xe_aload 0).trans (congrArg (x_aload 0) xe_nil))))
theorem bk_J0_isLatin1_aae02_10 : ck_ fJ0 (some .boolean) cJ0_isLatin1_aae02 10 [.ifCond .ne 17, .iconst 1, .goto 18] 17 = true := qck_r (nn_ _) (by decide +kernel)
theorem bs_J0_isLatin1_aae02_10 {P : Zt → Option Zv → Prop} (K : Int → Zl → List Zv → Zt → Prop) : sx_ K P [.ifCond .ne 17, .iconst 1, .goto 18] 17 = x_ifCond .ne 17 K (x_iconst 1 (x_goto 18 K)) := ((xe_ifCond .ne 17).trans (congrArg (x_ifCond .ne 17 K) ((xe_iconst 1).trans (congrArg (x_iconst 1) (xe_goto 18)))))
theorem bk_J0_isLatin1_aae02_18 : ck_ fJ0 (some .boolean) cJ0_isLatin1_aae02 18 [.ireturn] 19 = true := qck_r (nn_ _) (by decide +kernel)
theorem bs_J0_isLatin1_aae02_18 {P : Zt → Option Zv → Prop} (K : Int → Zl → List Zv → Zt → Prop) : sx_ K P [.ireturn] 19 = x_ireturn P := (xe_ireturn)
abbrev po_J0_isLatin1_0 (T : Zt) : Zt → Option Zv → Prop := fun T' r => T = T' ∧ r = some (vI (1))
set_option maxHeartbeats 4000000 in
theorem ct_J0_isLatin1_0 {T : Zt} : Ct_ yJ0_isLatin1_aae02 zJ0_isLatin1_aae02 T [vR 82 0] (po_J0_isLatin1_0 T) := by
  refine ct_of (by decide) rfl rfl (Nat.le_of_ble_eq_true rfl) (fun hT hav => ?_)
  have hz : zJ0_isLatin1_aae02.2.2.2.1 = some .boolean → ∀ (T' : Zt) (x : Int), po_J0_isLatin1_0 T T' (some (vI x)) → 0 ≤ x ∧ x ≤ 1 := fun _ T' x h => by obtain ⟨-, e⟩ := h; cases e; omega
  show J_ zJ0_isLatin1_aae02 T (po_J0_isLatin1_0 T) 0 0 0 [some (vR 82 0)] [] T
  refine j_gsC (pc := 0) (by decide) (lwq_3 (List.mem_of_getElem? (i := 3) rfl) rfl : Cond.fieldLink RJ0 38 "java/lang/String" "COMPACT_STRINGS" "Z" ∈ lw_g) (by decide +kernel) ?_
  show J_ zJ0_isLatin1_aae02 T (po_J0_isLatin1_0 T) 0 0 3 _ [vI 1] T
  refine j_blx (F := fJ0) tb_J0 (nn_ _) bk_J0_isLatin1_aae02_3 bs_J0_isLatin1_aae02_3 hz (fun K hK => ?_)
  refine And.intro (fun c1 => ?_) (fun c1 => ?_)
  · exact absurd c1 (by decide)
  · refine hK 7 _ [vR 82 0] T ?_
    refine j_gfC (pc := 7) (i := 0) (by decide) (by decide) (lwq_10 (dqc_m (dqc_m (dqc_m (dqa_m (dqa_m (List.mem_of_getElem? (i := 7) rfl)))))) rfl : Cond.fieldLink RJ0 15 "java/lang/String" "coder" "B" ∈ lw_g) (by decide +kernel) ?_
    show J_ zJ0_isLatin1_aae02 T (po_J0_isLatin1_0 T) 0 0 10 _ [vI 0] T
    refine j_blx (F := fJ0) tb_J0 (nn_ _) bk_J0_isLatin1_aae02_10 bs_J0_isLatin1_aae02_10 hz (fun K hK => ?_)
    refine And.intro (fun c2 => ?_) (fun c2 => ?_)
    · exact absurd c2 (by decide)
    · refine hK 18 _ [vI 1] T ?_
      refine j_blx (F := fJ0) tb_J0 (nn_ _) bk_J0_isLatin1_aae02_18 bs_J0_isLatin1_aae02_18 hz (fun K hK => ?_)
      refine (show po_J0_isLatin1_0 T T (some (vI 1)) from ?_)
      exact ⟨rfl, rfl⟩
abbrev cJ0_length_8abf5 : ByteArray := prog_17_method_54_code
def yJ0_length_8abf5 : MethodName := ⟨RJ0, "length", "()I"⟩
def zJ0_length_8abf5 : Zm := (RJ0, cJ0_length_8abf5, 1, (some .int), { frames := 1, cells := 0, slots := 0, locals := 20 })
theorem bk_J0_length_8abf5_0 : ck_ fJ0 (some .int) cJ0_length_8abf5 0 [.aload 0] 1 = true := qck_r (nn_ _) (by decide +kernel)
theorem bs_J0_length_8abf5_0 {P : Zt → Option Zv → Prop} (K : Int → Zl → List Zv → Zt → Prop) : sx_ K P [.aload 0] 1 = x_aload 0 (K 1) := ((xe_aload 0).trans (congrArg (x_aload 0) xe_nil))
theorem bk_J0_length_8abf5_5 : ck_ fJ0 (some .int) cJ0_length_8abf5 5 [.aload 0] 6 = true := qck_r (nn_ _) (by decide +kernel)
theorem bs_J0_length_8abf5_5 {P : Zt → Option Zv → Prop} (K : Int → Zl → List Zv → Zt → Prop) : sx_ K P [.aload 0] 6 = x_aload 0 (K 6) := ((xe_aload 0).trans (congrArg (x_aload 0) xe_nil))
set_option maxRecDepth 100000 in
theorem ck82_J0_335 : ck82_ RJ0 335 yJ0_coder_7d493 zJ0_coder_7d493 0 := ⟨gi_V (lwq_2 (dqc_m (dqc_m (dqc_m (dqc_m (dqc_m (dqc_m (dqc_m (dqa_m (List.mem_of_getElem? (i := 7) rfl))))))))) rfl : Cond.methodLink RJ0 335 yJ0_coder_7d493 ∈ lw_g) (lwq_3 (List.mem_of_getElem? (i := 0) rfl) rfl : Cond.instanceMethod yJ0_coder_7d493 ∈ lw_g) (lwq_3 (List.mem_of_getElem? (i := 1) rfl) rfl : Cond.selects yJ0_coder_7d493.cls yJ0_coder_7d493 yJ0_coder_7d493 ∈ lw_g) (lwq_1 (dqa_m (List.mem_of_getElem? (i := 3) rfl)) rfl : Cond.initialized yJ0_coder_7d493.cls ∈ lw_g) (lwq_3 (List.mem_of_getElem? (i := 2) rfl) rfl : Cond.code yJ0_coder_7d493 cJ0_coder_7d493 1 (some .byte) ∈ lw_g), ⟨by decide, by decide, by decide +kernel⟩, rfl⟩
theorem bk_J0_length_8abf5_9 : ck_ fJ0 (some .int) cJ0_length_8abf5 9 [.ishr, .ireturn] 11 = true := qck_r (nn_ _) (by decide +kernel)
theorem bs_J0_length_8abf5_9 {P : Zt → Option Zv → Prop} (K : Int → Zl → List Zv → Zt → Prop) : sx_ K P [.ishr, .ireturn] 11 = x_ishr (x_ireturn P) := ((xe_ishr).trans (congrArg (x_ishr) (xe_ireturn)))
abbrev po_J0_length_0 (T : Zt) : Zt → Option Zv → Prop := fun T' r => T = T' ∧ r = some (vI (82))
set_option maxHeartbeats 4000000 in
theorem ct_J0_length_0 {T : Zt} : Ct_ yJ0_length_8abf5 zJ0_length_8abf5 T [vR 82 0] (po_J0_length_0 T) := by
  refine ct_of (by decide) rfl rfl (Nat.le_of_ble_eq_true rfl) (fun hT hav => ?_)
  have hz : zJ0_length_8abf5.2.2.2.1 = some .boolean → ∀ (T' : Zt) (x : Int), po_J0_length_0 T T' (some (vI x)) → 0 ≤ x ∧ x ≤ 1 := fun h => by cases h
  show J_ zJ0_length_8abf5 T (po_J0_length_0 T) 0 0 0 [some (vR 82 0)] [] T
  refine j_blx (F := fJ0) tb_J0 (nn_ _) bk_J0_length_8abf5_0 bs_J0_length_8abf5_0 hz (fun K hK => ?_)
  refine hK 1 _ [vR 82 0] T ?_
  refine j_gfV (pc := 1) (i := 0) (by decide) (by decide) (lwq_10 (dqc_m (dqc_m (dqc_m (dqa_m (dqa_m (List.mem_of_getElem? (i := 6) rfl)))))) rfl : Cond.fieldLink RJ0 9 "java/lang/String" "value" "[B" ∈ lw_g) (by decide +kernel) ?_
  show J_ zJ0_length_8abf5 T (po_J0_length_0 T) 0 0 4 _ [vR 83 0] T
  refine j_len83 (pc := 4) (i := 0) (n := 82) (by decide) (by decide) (by decide) (by decide) (by decide +kernel) ?_
  show J_ zJ0_length_8abf5 T (po_J0_length_0 T) 0 0 5 _ [vI 82] T
  refine j_blx (F := fJ0) tb_J0 (nn_ _) bk_J0_length_8abf5_5 bs_J0_length_8abf5_5 hz (fun K hK => ?_)
  refine hK 6 _ [vR 82 0, vI 82] T ?_
  refine j_callK (i := 0) (y := yJ0_coder_7d493) (Yc := zJ0_coder_7d493) (rest := [vI 82]) [] (by decide) (ct_J0_coder_0 (T := T)) ck82_J0_335 (by decide +kernel) (by decide) rfl (by decide +kernel) (Nat.le_of_ble_eq_true rfl) (by decide) (by decide) rfl ?_
  rintro _ _ ⟨rfl, rfl⟩
  show J_ zJ0_length_8abf5 T (po_J0_length_0 T) 0 0 9 _ [vI 0, vI 82] T
  refine j_blx (F := fJ0) tb_J0 (nn_ _) bk_J0_length_8abf5_9 bs_J0_length_8abf5_9 hz (fun K hK => ?_)
  intro w1 w1b
  refine (show po_J0_length_0 T T (some (vI (sr_ 82 0))) from ?_)
  exact ⟨rfl, by rw [show sr_ 82 0 = 82 by decide]⟩
abbrev cJ1_charAt_3b067 : ByteArray := prog_18_method_2_code
def yJ1_charAt_3b067 : MethodName := ⟨RJ1, "charAt", "([BI)C"⟩
def zJ1_charAt_3b067 : Zm := (RJ1, cJ1_charAt_3b067, 2, (some .char), { frames := 2, cells := 0, slots := 0, locals := 43 })
theorem bk_J1_charAt_3b067_0 : ck_ fJ1 (some .char) cJ1_charAt_3b067 0 [.iload 1, .aload 0] 2 = true := qck_r (nn_ _) (by decide +kernel)
theorem bs_J1_charAt_3b067_0 {P : Zt → Option Zv → Prop} (K : Int → Zl → List Zv → Zt → Prop) : sx_ K P [.iload 1, .aload 0] 2 = x_iload 1 (x_aload 0 (K 2)) := ((xe_iload 1).trans (congrArg (x_iload 1) ((xe_aload 0).trans (congrArg (x_aload 0) xe_nil))))
set_option maxRecDepth 100000 in
theorem cl_J1_9 : cs_ RJ1 9 yJ0_checkIndex_df160 zJ0_checkIndex_df160 2 := ⟨gi_S (lwq_3 (dqa_m (dqa_m (List.mem_of_getElem? (i := 0) rfl))) rfl : Cond.methodLink RJ1 9 yJ0_checkIndex_df160 ∈ lw_g) (lwq_3 (dqa_m (dqa_m (List.mem_of_getElem? (i := 1) rfl))) rfl : Cond.static yJ0_checkIndex_df160 ∈ lw_g) (lwq_1 (dqa_m (List.mem_of_getElem? (i := 3) rfl)) rfl : Cond.initialized yJ0_checkIndex_df160.cls ∈ lw_g) (lwq_3 (dqa_m (dqa_m (List.mem_of_getElem? (i := 2) rfl))) rfl : Cond.code yJ0_checkIndex_df160 cJ0_checkIndex_df160 2 none ∈ lw_g), ⟨by decide, by decide, by decide +kernel⟩⟩
theorem bk_J1_charAt_3b067_6 : ck_ fJ1 (some .char) cJ1_charAt_3b067 6 [.aload 0, .iload 1] 8 = true := qck_r (nn_ _) (by decide +kernel)
theorem bs_J1_charAt_3b067_6 {P : Zt → Option Zv → Prop} (K : Int → Zl → List Zv → Zt → Prop) : sx_ K P [.aload 0, .iload 1] 8 = x_aload 0 (x_iload 1 (K 8)) := ((xe_aload 0).trans (congrArg (x_aload 0) ((xe_iload 1).trans (congrArg (x_iload 1) xe_nil))))
theorem bk_J1_charAt_3b067_9 : ck_ fJ1 (some .char) cJ1_charAt_3b067 9 [.iconst 255, .iand] 13 = true := qck_r (nn_ _) (by decide +kernel)
theorem bs_J1_charAt_3b067_9 {P : Zt → Option Zv → Prop} (K : Int → Zl → List Zv → Zt → Prop) : sx_ K P [.iconst 255, .iand] 13 = x_iconst 255 (x_iand (K 13)) := ((xe_iconst 255).trans (congrArg (x_iconst 255) ((xe_iand).trans (congrArg (x_iand) xe_nil))))
abbrev po_J1_charAt_0 (T : Zt) (a : Int) : Zt → Option Zv → Prop := fun T' r => T = T' ∧ r = some (vI (cb8_ 0 a))
set_option maxHeartbeats 4000000 in
theorem ct_J1_charAt_0 {T : Zt} {a : Int} (h1 : 0 ≤ a ∧ a < 82) : Ct_ yJ1_charAt_3b067 zJ1_charAt_3b067 T [vR 83 0, vI a] (po_J1_charAt_0 T a) := by
  refine ct_of (by decide) rfl rfl (Nat.le_of_ble_eq_true rfl) (fun hT hav => ?_)
  have hr_a : -2147483648 ≤ a ∧ a ≤ 2147483647 := hav (vI a) (List.mem_cons_of_mem _ List.mem_cons_self)
  have hz : zJ1_charAt_3b067.2.2.2.1 = some .boolean → ∀ (T' : Zt) (x : Int), po_J1_charAt_0 T a T' (some (vI x)) → 0 ≤ x ∧ x ≤ 1 := fun h => by cases h
  show J_ zJ1_charAt_3b067 T (po_J1_charAt_0 T a) 0 0 0 [some (vR 83 0), some (vI a)] [] T
  refine j_blx (F := fJ1) tb_J1 (nn_ _) bk_J1_charAt_3b067_0 bs_J1_charAt_3b067_0 hz (fun K hK => ?_)
  refine hK 2 _ [vR 83 0, vI a] T ?_
  refine j_len83 (pc := 2) (i := 0) (n := 82) (by decide) (by decide) (by decide) (by decide) (by decide +kernel) ?_
  show J_ zJ1_charAt_3b067 T (po_J1_charAt_0 T a) 0 0 3 _ [vI 82, vI a] T
  refine j_callS (y := yJ0_checkIndex_df160) (Yc := zJ0_checkIndex_df160) (rest := []) [vI a, vI 82] (ct_J0_checkIndex_df160 (T := T) (by omega)) cl_J1_9 (qd_c (by decide +kernel)) (nn_ _) rfl (rf_of rfl) (Nat.le_of_ble_eq_true rfl) (Nat.le_of_ble_eq_true rfl) (Nat.le_of_ble_eq_true rfl) rfl ?_
  rintro _ _ ⟨rfl, rfl⟩
  show J_ zJ1_charAt_3b067 T (po_J1_charAt_0 T a) 0 0 6 _ [] T
  refine j_blx (F := fJ1) tb_J1 (nn_ _) bk_J1_charAt_3b067_6 bs_J1_charAt_3b067_6 hz (fun K hK => ?_)
  refine hK 8 _ [vI a, vR 83 0] T ?_
  refine j_ba83 (pc := 8) (i := 0) (n := 82) (by decide) (by decide) (by decide) (by omega) (by omega) (by decide) (fun k _ => ⟨i3_b _, bv_k (by decide) k⟩) (by decide +kernel) ?_
  have hcb := cb8_b (i := 0) (by decide) a
  show J_ zJ1_charAt_3b067 T (po_J1_charAt_0 T a) 0 0 9 _ [vI (cb8_ 0 a)] T
  refine j_blx (F := fJ1) tb_J1 (nn_ _) bk_J1_charAt_3b067_9 bs_J1_charAt_3b067_9 hz (fun K hK => ?_)
  intro w1 w1b
  refine hK 13 _ [vI (an_ (cb8_ 0 a) 255)] T ?_
  rw [an_25 hcb]
  refine j_i2c (pc := 13) (by decide) hcb (by decide +kernel) ?_
  show J_ zJ1_charAt_3b067 T (po_J1_charAt_0 T a) 0 0 14 _ [vI (cb8_ 0 a)] T
  refine j_iretN (pc := 14) (Or.inl rfl) hcb (by decide +kernel) ?_
  refine (show po_J1_charAt_0 T a T (some (vI (cb8_ 0 a))) from ?_)
  exact ⟨rfl, rfl⟩
abbrev cJ0_charAt_5068e : ByteArray := prog_17_method_56_code
def yJ0_charAt_5068e : MethodName := ⟨RJ0, "charAt", "(I)C"⟩
def zJ0_charAt_5068e : Zm := (RJ0, cJ0_charAt_5068e, 2, (some .char), { frames := 3, cells := 0, slots := 0, locals := 64 })
theorem bk_J0_charAt_5068e_0 : ck_ fJ0 (some .char) cJ0_charAt_5068e 0 [.aload 0] 1 = true := qck_r (nn_ _) (by decide +kernel)
theorem bs_J0_charAt_5068e_0 {P : Zt → Option Zv → Prop} (K : Int → Zl → List Zv → Zt → Prop) : sx_ K P [.aload 0] 1 = x_aload 0 (K 1) := ((xe_aload 0).trans (congrArg (x_aload 0) xe_nil))
set_option maxRecDepth 100000 in
theorem ck82_J0_492 : ck82_ RJ0 492 yJ0_isLatin1_aae02 zJ0_isLatin1_aae02 0 := ⟨gi_V (lwq_3 (dqa_m (List.mem_of_getElem? (i := 1) rfl)) rfl : Cond.methodLink RJ0 492 yJ0_isLatin1_aae02 ∈ lw_g) (lwq_3 (dqa_m (List.mem_of_getElem? (i := 2) rfl)) rfl : Cond.instanceMethod yJ0_isLatin1_aae02 ∈ lw_g) (lwq_3 (dqa_m (List.mem_of_getElem? (i := 3) rfl)) rfl : Cond.selects yJ0_isLatin1_aae02.cls yJ0_isLatin1_aae02 yJ0_isLatin1_aae02 ∈ lw_g) (lwq_1 (dqa_m (List.mem_of_getElem? (i := 3) rfl)) rfl : Cond.initialized yJ0_isLatin1_aae02.cls ∈ lw_g) (lwq_3 (dqa_m (List.mem_of_getElem? (i := 4) rfl)) rfl : Cond.code yJ0_isLatin1_aae02 cJ0_isLatin1_aae02 1 (some .boolean) ∈ lw_g), ⟨by decide, by decide, by decide +kernel⟩, rfl⟩
theorem bk_J0_charAt_5068e_4 : ck_ fJ0 (some .char) cJ0_charAt_5068e 4 [.ifCond .eq 16, .aload 0] 8 = true := qck_r (nn_ _) (by decide +kernel)
theorem bs_J0_charAt_5068e_4 {P : Zt → Option Zv → Prop} (K : Int → Zl → List Zv → Zt → Prop) : sx_ K P [.ifCond .eq 16, .aload 0] 8 = x_ifCond .eq 16 K (x_aload 0 (K 8)) := ((xe_ifCond .eq 16).trans (congrArg (x_ifCond .eq 16 K) ((xe_aload 0).trans (congrArg (x_aload 0) xe_nil))))
theorem bk_J0_charAt_5068e_11 : ck_ fJ0 (some .char) cJ0_charAt_5068e 11 [.iload 1] 12 = true := qck_r (nn_ _) (by decide +kernel)
theorem bs_J0_charAt_5068e_11 {P : Zt → Option Zv → Prop} (K : Int → Zl → List Zv → Zt → Prop) : sx_ K P [.iload 1] 12 = x_iload 1 (K 12) := ((xe_iload 1).trans (congrArg (x_iload 1) xe_nil))
set_option maxRecDepth 100000 in
theorem cl_J0_495 : cs_ RJ0 495 yJ1_charAt_3b067 zJ1_charAt_3b067 2 := ⟨gi_S (lwq_3 (dqa_m (List.mem_of_getElem? (i := 5) rfl)) rfl : Cond.methodLink RJ0 495 yJ1_charAt_3b067 ∈ lw_g) (lwq_3 (dqa_m (List.mem_of_getElem? (i := 6) rfl)) rfl : Cond.static yJ1_charAt_3b067 ∈ lw_g) (lwq_1 (dqa_m (List.mem_of_getElem? (i := 4) rfl)) rfl : Cond.initialized yJ1_charAt_3b067.cls ∈ lw_g) (lwq_3 (dqa_m (List.mem_of_getElem? (i := 7) rfl)) rfl : Cond.code yJ1_charAt_3b067 cJ1_charAt_3b067 2 (some .char) ∈ lw_g), ⟨by decide, by decide, by decide +kernel⟩⟩
abbrev po_J0_charAt_0 (T : Zt) (a : Int) : Zt → Option Zv → Prop := fun T' r => T = T' ∧ r = some (vI (cb8_ 0 a))
set_option maxHeartbeats 4000000 in
theorem ct_J0_charAt_0 {T : Zt} {a : Int} (h1 : 0 ≤ a ∧ a < 82) : Ct_ yJ0_charAt_5068e zJ0_charAt_5068e T [vR 82 0, vI a] (po_J0_charAt_0 T a) := by
  refine ct_of (by decide) rfl rfl (Nat.le_of_ble_eq_true rfl) (fun hT hav => ?_)
  have hr_a : -2147483648 ≤ a ∧ a ≤ 2147483647 := hav (vI a) (List.mem_cons_of_mem _ List.mem_cons_self)
  have hz : zJ0_charAt_5068e.2.2.2.1 = some .boolean → ∀ (T' : Zt) (x : Int), po_J0_charAt_0 T a T' (some (vI x)) → 0 ≤ x ∧ x ≤ 1 := fun h => by cases h
  show J_ zJ0_charAt_5068e T (po_J0_charAt_0 T a) 0 0 0 [some (vR 82 0), some (vI a)] [] T
  refine j_blx (F := fJ0) tb_J0 (nn_ _) bk_J0_charAt_5068e_0 bs_J0_charAt_5068e_0 hz (fun K hK => ?_)
  refine hK 1 _ [vR 82 0] T ?_
  refine j_callK (i := 0) (y := yJ0_isLatin1_aae02) (Yc := zJ0_isLatin1_aae02) (rest := []) [] (by decide) (ct_J0_isLatin1_0 (T := T)) ck82_J0_492 (by decide +kernel) (by decide) rfl (by decide +kernel) (Nat.le_of_ble_eq_true rfl) (by decide) (by decide) rfl ?_
  rintro _ _ ⟨rfl, rfl⟩
  show J_ zJ0_charAt_5068e T (po_J0_charAt_0 T a) 0 0 4 _ [vI 1] T
  refine j_blx (F := fJ0) tb_J0 (nn_ _) bk_J0_charAt_5068e_4 bs_J0_charAt_5068e_4 hz (fun K hK => ?_)
  refine And.intro (fun c1 => ?_) (fun c1 => ?_)
  · exact absurd c1 (by decide)
  · refine hK 8 _ [vR 82 0] T ?_
    refine j_gfV (pc := 8) (i := 0) (by decide) (by decide) (lwq_10 (dqc_m (dqc_m (dqc_m (dqa_m (dqa_m (List.mem_of_getElem? (i := 6) rfl)))))) rfl : Cond.fieldLink RJ0 9 "java/lang/String" "value" "[B" ∈ lw_g) (by decide +kernel) ?_
    show J_ zJ0_charAt_5068e T (po_J0_charAt_0 T a) 0 0 11 _ [vR 83 0] T
    refine j_blx (F := fJ0) tb_J0 (nn_ _) bk_J0_charAt_5068e_11 bs_J0_charAt_5068e_11 hz (fun K hK => ?_)
    refine hK 12 _ [vI a, vR 83 0] T ?_
    refine j_callS (y := yJ1_charAt_3b067) (Yc := zJ1_charAt_3b067) (rest := []) [vR 83 0, vI a] (ct_J1_charAt_0 (T := T) (by omega)) cl_J0_495 (qd_c (by decide +kernel)) (nn_ _) rfl (rf_of rfl) (Nat.le_of_ble_eq_true rfl) (Nat.le_of_ble_eq_true rfl) (Nat.le_of_ble_eq_true rfl) rfl ?_
    rintro _ _ ⟨rfl, rfl⟩
    show J_ zJ0_charAt_5068e T (po_J0_charAt_0 T a) 0 0 15 _ [vI (cb8_ 0 a)] T
    refine j_iretN (pc := 15) (Or.inl rfl) (cb8_b (by decide) a) (by decide +kernel) ?_
    refine (show po_J0_charAt_0 T a T (some (vI (cb8_ 0 a))) from ?_)
    exact ⟨rfl, rfl⟩
abbrev po_J0_coder_1 (T : Zt) : Zt → Option Zv → Prop := fun T' r => T = T' ∧ r = some (vI (0))
set_option maxHeartbeats 4000000 in
theorem ct_J0_coder_1 {T : Zt} : Ct_ yJ0_coder_7d493 zJ0_coder_7d493 T [vR 82 1] (po_J0_coder_1 T) := by
  refine ct_of (by decide) rfl rfl (Nat.le_of_ble_eq_true rfl) (fun hT hav => ?_)
  have hz : zJ0_coder_7d493.2.2.2.1 = some .boolean → ∀ (T' : Zt) (x : Int), po_J0_coder_1 T T' (some (vI x)) → 0 ≤ x ∧ x ≤ 1 := fun h => by cases h
  show J_ zJ0_coder_7d493 T (po_J0_coder_1 T) 0 0 0 [some (vR 82 1)] [] T
  refine j_gsC (pc := 0) (by decide) (lwq_3 (List.mem_of_getElem? (i := 3) rfl) rfl : Cond.fieldLink RJ0 38 "java/lang/String" "COMPACT_STRINGS" "Z" ∈ lw_g) (by decide +kernel) ?_
  show J_ zJ0_coder_7d493 T (po_J0_coder_1 T) 0 0 3 _ [vI 1] T
  refine j_blx (F := fJ0) tb_J0 (nn_ _) bk_J0_coder_7d493_3 bs_J0_coder_7d493_3 hz (fun K hK => ?_)
  refine And.intro (fun c1 => ?_) (fun c1 => ?_)
  · exact absurd c1 (by decide)
  · refine hK 7 _ [vR 82 1] T ?_
    refine j_gfC (pc := 7) (i := 1) (by decide) (by decide) (lwq_10 (dqc_m (dqc_m (dqc_m (dqa_m (dqa_m (List.mem_of_getElem? (i := 7) rfl)))))) rfl : Cond.fieldLink RJ0 15 "java/lang/String" "coder" "B" ∈ lw_g) (by decide +kernel) ?_
    show J_ zJ0_coder_7d493 T (po_J0_coder_1 T) 0 0 10 _ [vI 0] T
    refine j_blx (F := fJ0) tb_J0 (nn_ _) bk_J0_coder_7d493_10 bs_J0_coder_7d493_10 hz (fun K hK => ?_)
    refine hK 14 _ [vI 0] T ?_
    refine j_iretN (pc := 14) (Or.inr rfl) ⟨by decide, by decide⟩ (by decide +kernel) ?_
    refine (show po_J0_coder_1 T T (some (vI 0)) from ?_)
    exact ⟨rfl, rfl⟩
abbrev po_J0_isLatin1_1 (T : Zt) : Zt → Option Zv → Prop := fun T' r => T = T' ∧ r = some (vI (1))
set_option maxHeartbeats 4000000 in
theorem ct_J0_isLatin1_1 {T : Zt} : Ct_ yJ0_isLatin1_aae02 zJ0_isLatin1_aae02 T [vR 82 1] (po_J0_isLatin1_1 T) := by
  refine ct_of (by decide) rfl rfl (Nat.le_of_ble_eq_true rfl) (fun hT hav => ?_)
  have hz : zJ0_isLatin1_aae02.2.2.2.1 = some .boolean → ∀ (T' : Zt) (x : Int), po_J0_isLatin1_1 T T' (some (vI x)) → 0 ≤ x ∧ x ≤ 1 := fun _ T' x h => by obtain ⟨-, e⟩ := h; cases e; omega
  show J_ zJ0_isLatin1_aae02 T (po_J0_isLatin1_1 T) 0 0 0 [some (vR 82 1)] [] T
  refine j_gsC (pc := 0) (by decide) (lwq_3 (List.mem_of_getElem? (i := 3) rfl) rfl : Cond.fieldLink RJ0 38 "java/lang/String" "COMPACT_STRINGS" "Z" ∈ lw_g) (by decide +kernel) ?_
  show J_ zJ0_isLatin1_aae02 T (po_J0_isLatin1_1 T) 0 0 3 _ [vI 1] T
  refine j_blx (F := fJ0) tb_J0 (nn_ _) bk_J0_isLatin1_aae02_3 bs_J0_isLatin1_aae02_3 hz (fun K hK => ?_)
  refine And.intro (fun c1 => ?_) (fun c1 => ?_)
  · exact absurd c1 (by decide)
  · refine hK 7 _ [vR 82 1] T ?_
    refine j_gfC (pc := 7) (i := 1) (by decide) (by decide) (lwq_10 (dqc_m (dqc_m (dqc_m (dqa_m (dqa_m (List.mem_of_getElem? (i := 7) rfl)))))) rfl : Cond.fieldLink RJ0 15 "java/lang/String" "coder" "B" ∈ lw_g) (by decide +kernel) ?_
    show J_ zJ0_isLatin1_aae02 T (po_J0_isLatin1_1 T) 0 0 10 _ [vI 0] T
    refine j_blx (F := fJ0) tb_J0 (nn_ _) bk_J0_isLatin1_aae02_10 bs_J0_isLatin1_aae02_10 hz (fun K hK => ?_)
    refine And.intro (fun c2 => ?_) (fun c2 => ?_)
    · exact absurd c2 (by decide)
    · refine hK 18 _ [vI 1] T ?_
      refine j_blx (F := fJ0) tb_J0 (nn_ _) bk_J0_isLatin1_aae02_18 bs_J0_isLatin1_aae02_18 hz (fun K hK => ?_)
      refine (show po_J0_isLatin1_1 T T (some (vI 1)) from ?_)
      exact ⟨rfl, rfl⟩
abbrev po_J0_length_1 (T : Zt) : Zt → Option Zv → Prop := fun T' r => T = T' ∧ r = some (vI (36))
set_option maxHeartbeats 4000000 in
theorem ct_J0_length_1 {T : Zt} : Ct_ yJ0_length_8abf5 zJ0_length_8abf5 T [vR 82 1] (po_J0_length_1 T) := by
  refine ct_of (by decide) rfl rfl (Nat.le_of_ble_eq_true rfl) (fun hT hav => ?_)
  have hz : zJ0_length_8abf5.2.2.2.1 = some .boolean → ∀ (T' : Zt) (x : Int), po_J0_length_1 T T' (some (vI x)) → 0 ≤ x ∧ x ≤ 1 := fun h => by cases h
  show J_ zJ0_length_8abf5 T (po_J0_length_1 T) 0 0 0 [some (vR 82 1)] [] T
  refine j_blx (F := fJ0) tb_J0 (nn_ _) bk_J0_length_8abf5_0 bs_J0_length_8abf5_0 hz (fun K hK => ?_)
  refine hK 1 _ [vR 82 1] T ?_
  refine j_gfV (pc := 1) (i := 1) (by decide) (by decide) (lwq_10 (dqc_m (dqc_m (dqc_m (dqa_m (dqa_m (List.mem_of_getElem? (i := 6) rfl)))))) rfl : Cond.fieldLink RJ0 9 "java/lang/String" "value" "[B" ∈ lw_g) (by decide +kernel) ?_
  show J_ zJ0_length_8abf5 T (po_J0_length_1 T) 0 0 4 _ [vR 83 1] T
  refine j_len83 (pc := 4) (i := 1) (n := 36) (by decide) (by decide) (by decide) (by decide) (by decide +kernel) ?_
  show J_ zJ0_length_8abf5 T (po_J0_length_1 T) 0 0 5 _ [vI 36] T
  refine j_blx (F := fJ0) tb_J0 (nn_ _) bk_J0_length_8abf5_5 bs_J0_length_8abf5_5 hz (fun K hK => ?_)
  refine hK 6 _ [vR 82 1, vI 36] T ?_
  refine j_callK (i := 1) (y := yJ0_coder_7d493) (Yc := zJ0_coder_7d493) (rest := [vI 36]) [] (by decide) (ct_J0_coder_1 (T := T)) ck82_J0_335 (by decide +kernel) (by decide) rfl (by decide +kernel) (Nat.le_of_ble_eq_true rfl) (by decide) (by decide) rfl ?_
  rintro _ _ ⟨rfl, rfl⟩
  show J_ zJ0_length_8abf5 T (po_J0_length_1 T) 0 0 9 _ [vI 0, vI 36] T
  refine j_blx (F := fJ0) tb_J0 (nn_ _) bk_J0_length_8abf5_9 bs_J0_length_8abf5_9 hz (fun K hK => ?_)
  intro w1 w1b
  refine (show po_J0_length_1 T T (some (vI (sr_ 36 0))) from ?_)
  exact ⟨rfl, by rw [show sr_ 36 0 = 36 by decide]⟩
abbrev po_J1_charAt_1 (T : Zt) (a : Int) : Zt → Option Zv → Prop := fun T' r => T = T' ∧ r = some (vI (cb8_ 1 a))
set_option maxHeartbeats 4000000 in
theorem ct_J1_charAt_1 {T : Zt} {a : Int} (h1 : 0 ≤ a ∧ a < 36) : Ct_ yJ1_charAt_3b067 zJ1_charAt_3b067 T [vR 83 1, vI a] (po_J1_charAt_1 T a) := by
  refine ct_of (by decide) rfl rfl (Nat.le_of_ble_eq_true rfl) (fun hT hav => ?_)
  have hr_a : -2147483648 ≤ a ∧ a ≤ 2147483647 := hav (vI a) (List.mem_cons_of_mem _ List.mem_cons_self)
  have hz : zJ1_charAt_3b067.2.2.2.1 = some .boolean → ∀ (T' : Zt) (x : Int), po_J1_charAt_1 T a T' (some (vI x)) → 0 ≤ x ∧ x ≤ 1 := fun h => by cases h
  show J_ zJ1_charAt_3b067 T (po_J1_charAt_1 T a) 0 0 0 [some (vR 83 1), some (vI a)] [] T
  refine j_blx (F := fJ1) tb_J1 (nn_ _) bk_J1_charAt_3b067_0 bs_J1_charAt_3b067_0 hz (fun K hK => ?_)
  refine hK 2 _ [vR 83 1, vI a] T ?_
  refine j_len83 (pc := 2) (i := 1) (n := 36) (by decide) (by decide) (by decide) (by decide) (by decide +kernel) ?_
  show J_ zJ1_charAt_3b067 T (po_J1_charAt_1 T a) 0 0 3 _ [vI 36, vI a] T
  refine j_callS (y := yJ0_checkIndex_df160) (Yc := zJ0_checkIndex_df160) (rest := []) [vI a, vI 36] (ct_J0_checkIndex_df160 (T := T) (by omega)) cl_J1_9 (qd_c (by decide +kernel)) (nn_ _) rfl (rf_of rfl) (Nat.le_of_ble_eq_true rfl) (Nat.le_of_ble_eq_true rfl) (Nat.le_of_ble_eq_true rfl) rfl ?_
  rintro _ _ ⟨rfl, rfl⟩
  show J_ zJ1_charAt_3b067 T (po_J1_charAt_1 T a) 0 0 6 _ [] T
  refine j_blx (F := fJ1) tb_J1 (nn_ _) bk_J1_charAt_3b067_6 bs_J1_charAt_3b067_6 hz (fun K hK => ?_)
  refine hK 8 _ [vI a, vR 83 1] T ?_
  refine j_ba83 (pc := 8) (i := 1) (n := 36) (by decide) (by decide) (by decide) (by omega) (by omega) (by decide) (fun k _ => ⟨i3_b _, bv_k (by decide) k⟩) (by decide +kernel) ?_
  have hcb := cb8_b (i := 1) (by decide) a
  show J_ zJ1_charAt_3b067 T (po_J1_charAt_1 T a) 0 0 9 _ [vI (cb8_ 1 a)] T
  refine j_blx (F := fJ1) tb_J1 (nn_ _) bk_J1_charAt_3b067_9 bs_J1_charAt_3b067_9 hz (fun K hK => ?_)
  intro w1 w1b
  refine hK 13 _ [vI (an_ (cb8_ 1 a) 255)] T ?_
  rw [an_25 hcb]
  refine j_i2c (pc := 13) (by decide) hcb (by decide +kernel) ?_
  show J_ zJ1_charAt_3b067 T (po_J1_charAt_1 T a) 0 0 14 _ [vI (cb8_ 1 a)] T
  refine j_iretN (pc := 14) (Or.inl rfl) hcb (by decide +kernel) ?_
  refine (show po_J1_charAt_1 T a T (some (vI (cb8_ 1 a))) from ?_)
  exact ⟨rfl, rfl⟩
abbrev po_J0_charAt_1 (T : Zt) (a : Int) : Zt → Option Zv → Prop := fun T' r => T = T' ∧ r = some (vI (cb8_ 1 a))
set_option maxHeartbeats 4000000 in
theorem ct_J0_charAt_1 {T : Zt} {a : Int} (h1 : 0 ≤ a ∧ a < 36) : Ct_ yJ0_charAt_5068e zJ0_charAt_5068e T [vR 82 1, vI a] (po_J0_charAt_1 T a) := by
  refine ct_of (by decide) rfl rfl (Nat.le_of_ble_eq_true rfl) (fun hT hav => ?_)
  have hr_a : -2147483648 ≤ a ∧ a ≤ 2147483647 := hav (vI a) (List.mem_cons_of_mem _ List.mem_cons_self)
  have hz : zJ0_charAt_5068e.2.2.2.1 = some .boolean → ∀ (T' : Zt) (x : Int), po_J0_charAt_1 T a T' (some (vI x)) → 0 ≤ x ∧ x ≤ 1 := fun h => by cases h
  show J_ zJ0_charAt_5068e T (po_J0_charAt_1 T a) 0 0 0 [some (vR 82 1), some (vI a)] [] T
  refine j_blx (F := fJ0) tb_J0 (nn_ _) bk_J0_charAt_5068e_0 bs_J0_charAt_5068e_0 hz (fun K hK => ?_)
  refine hK 1 _ [vR 82 1] T ?_
  refine j_callK (i := 1) (y := yJ0_isLatin1_aae02) (Yc := zJ0_isLatin1_aae02) (rest := []) [] (by decide) (ct_J0_isLatin1_1 (T := T)) ck82_J0_492 (by decide +kernel) (by decide) rfl (by decide +kernel) (Nat.le_of_ble_eq_true rfl) (by decide) (by decide) rfl ?_
  rintro _ _ ⟨rfl, rfl⟩
  show J_ zJ0_charAt_5068e T (po_J0_charAt_1 T a) 0 0 4 _ [vI 1] T
  refine j_blx (F := fJ0) tb_J0 (nn_ _) bk_J0_charAt_5068e_4 bs_J0_charAt_5068e_4 hz (fun K hK => ?_)
  refine And.intro (fun c1 => ?_) (fun c1 => ?_)
  · exact absurd c1 (by decide)
  · refine hK 8 _ [vR 82 1] T ?_
    refine j_gfV (pc := 8) (i := 1) (by decide) (by decide) (lwq_10 (dqc_m (dqc_m (dqc_m (dqa_m (dqa_m (List.mem_of_getElem? (i := 6) rfl)))))) rfl : Cond.fieldLink RJ0 9 "java/lang/String" "value" "[B" ∈ lw_g) (by decide +kernel) ?_
    show J_ zJ0_charAt_5068e T (po_J0_charAt_1 T a) 0 0 11 _ [vR 83 1] T
    refine j_blx (F := fJ0) tb_J0 (nn_ _) bk_J0_charAt_5068e_11 bs_J0_charAt_5068e_11 hz (fun K hK => ?_)
    refine hK 12 _ [vI a, vR 83 1] T ?_
    refine j_callS (y := yJ1_charAt_3b067) (Yc := zJ1_charAt_3b067) (rest := []) [vR 83 1, vI a] (ct_J1_charAt_1 (T := T) (by omega)) cl_J0_495 (qd_c (by decide +kernel)) (nn_ _) rfl (rf_of rfl) (Nat.le_of_ble_eq_true rfl) (Nat.le_of_ble_eq_true rfl) (Nat.le_of_ble_eq_true rfl) rfl ?_
    rintro _ _ ⟨rfl, rfl⟩
    show J_ zJ0_charAt_5068e T (po_J0_charAt_1 T a) 0 0 15 _ [vI (cb8_ 1 a)] T
    refine j_iretN (pc := 15) (Or.inl rfl) (cb8_b (by decide) a) (by decide +kernel) ?_
    refine (show po_J0_charAt_1 T a T (some (vI (cb8_ 1 a))) from ?_)
    exact ⟨rfl, rfl⟩
abbrev po_J0_coder_2 (T : Zt) : Zt → Option Zv → Prop := fun T' r => T = T' ∧ r = some (vI (0))
set_option maxHeartbeats 4000000 in
theorem ct_J0_coder_2 {T : Zt} : Ct_ yJ0_coder_7d493 zJ0_coder_7d493 T [vR 82 2] (po_J0_coder_2 T) := by
  refine ct_of (by decide) rfl rfl (Nat.le_of_ble_eq_true rfl) (fun hT hav => ?_)
  have hz : zJ0_coder_7d493.2.2.2.1 = some .boolean → ∀ (T' : Zt) (x : Int), po_J0_coder_2 T T' (some (vI x)) → 0 ≤ x ∧ x ≤ 1 := fun h => by cases h
  show J_ zJ0_coder_7d493 T (po_J0_coder_2 T) 0 0 0 [some (vR 82 2)] [] T
  refine j_gsC (pc := 0) (by decide) (lwq_3 (List.mem_of_getElem? (i := 3) rfl) rfl : Cond.fieldLink RJ0 38 "java/lang/String" "COMPACT_STRINGS" "Z" ∈ lw_g) (by decide +kernel) ?_
  show J_ zJ0_coder_7d493 T (po_J0_coder_2 T) 0 0 3 _ [vI 1] T
  refine j_blx (F := fJ0) tb_J0 (nn_ _) bk_J0_coder_7d493_3 bs_J0_coder_7d493_3 hz (fun K hK => ?_)
  refine And.intro (fun c1 => ?_) (fun c1 => ?_)
  · exact absurd c1 (by decide)
  · refine hK 7 _ [vR 82 2] T ?_
    refine j_gfC (pc := 7) (i := 2) (by decide) (by decide) (lwq_10 (dqc_m (dqc_m (dqc_m (dqa_m (dqa_m (List.mem_of_getElem? (i := 7) rfl)))))) rfl : Cond.fieldLink RJ0 15 "java/lang/String" "coder" "B" ∈ lw_g) (by decide +kernel) ?_
    show J_ zJ0_coder_7d493 T (po_J0_coder_2 T) 0 0 10 _ [vI 0] T
    refine j_blx (F := fJ0) tb_J0 (nn_ _) bk_J0_coder_7d493_10 bs_J0_coder_7d493_10 hz (fun K hK => ?_)
    refine hK 14 _ [vI 0] T ?_
    refine j_iretN (pc := 14) (Or.inr rfl) ⟨by decide, by decide⟩ (by decide +kernel) ?_
    refine (show po_J0_coder_2 T T (some (vI 0)) from ?_)
    exact ⟨rfl, rfl⟩
abbrev po_J0_isLatin1_2 (T : Zt) : Zt → Option Zv → Prop := fun T' r => T = T' ∧ r = some (vI (1))
set_option maxHeartbeats 4000000 in
theorem ct_J0_isLatin1_2 {T : Zt} : Ct_ yJ0_isLatin1_aae02 zJ0_isLatin1_aae02 T [vR 82 2] (po_J0_isLatin1_2 T) := by
  refine ct_of (by decide) rfl rfl (Nat.le_of_ble_eq_true rfl) (fun hT hav => ?_)
  have hz : zJ0_isLatin1_aae02.2.2.2.1 = some .boolean → ∀ (T' : Zt) (x : Int), po_J0_isLatin1_2 T T' (some (vI x)) → 0 ≤ x ∧ x ≤ 1 := fun _ T' x h => by obtain ⟨-, e⟩ := h; cases e; omega
  show J_ zJ0_isLatin1_aae02 T (po_J0_isLatin1_2 T) 0 0 0 [some (vR 82 2)] [] T
  refine j_gsC (pc := 0) (by decide) (lwq_3 (List.mem_of_getElem? (i := 3) rfl) rfl : Cond.fieldLink RJ0 38 "java/lang/String" "COMPACT_STRINGS" "Z" ∈ lw_g) (by decide +kernel) ?_
  show J_ zJ0_isLatin1_aae02 T (po_J0_isLatin1_2 T) 0 0 3 _ [vI 1] T
  refine j_blx (F := fJ0) tb_J0 (nn_ _) bk_J0_isLatin1_aae02_3 bs_J0_isLatin1_aae02_3 hz (fun K hK => ?_)
  refine And.intro (fun c1 => ?_) (fun c1 => ?_)
  · exact absurd c1 (by decide)
  · refine hK 7 _ [vR 82 2] T ?_
    refine j_gfC (pc := 7) (i := 2) (by decide) (by decide) (lwq_10 (dqc_m (dqc_m (dqc_m (dqa_m (dqa_m (List.mem_of_getElem? (i := 7) rfl)))))) rfl : Cond.fieldLink RJ0 15 "java/lang/String" "coder" "B" ∈ lw_g) (by decide +kernel) ?_
    show J_ zJ0_isLatin1_aae02 T (po_J0_isLatin1_2 T) 0 0 10 _ [vI 0] T
    refine j_blx (F := fJ0) tb_J0 (nn_ _) bk_J0_isLatin1_aae02_10 bs_J0_isLatin1_aae02_10 hz (fun K hK => ?_)
    refine And.intro (fun c2 => ?_) (fun c2 => ?_)
    · exact absurd c2 (by decide)
    · refine hK 18 _ [vI 1] T ?_
      refine j_blx (F := fJ0) tb_J0 (nn_ _) bk_J0_isLatin1_aae02_18 bs_J0_isLatin1_aae02_18 hz (fun K hK => ?_)
      refine (show po_J0_isLatin1_2 T T (some (vI 1)) from ?_)
      exact ⟨rfl, rfl⟩
abbrev po_J0_length_2 (T : Zt) : Zt → Option Zv → Prop := fun T' r => T = T' ∧ r = some (vI (37))
set_option maxHeartbeats 4000000 in
theorem ct_J0_length_2 {T : Zt} : Ct_ yJ0_length_8abf5 zJ0_length_8abf5 T [vR 82 2] (po_J0_length_2 T) := by
  refine ct_of (by decide) rfl rfl (Nat.le_of_ble_eq_true rfl) (fun hT hav => ?_)
  have hz : zJ0_length_8abf5.2.2.2.1 = some .boolean → ∀ (T' : Zt) (x : Int), po_J0_length_2 T T' (some (vI x)) → 0 ≤ x ∧ x ≤ 1 := fun h => by cases h
  show J_ zJ0_length_8abf5 T (po_J0_length_2 T) 0 0 0 [some (vR 82 2)] [] T
  refine j_blx (F := fJ0) tb_J0 (nn_ _) bk_J0_length_8abf5_0 bs_J0_length_8abf5_0 hz (fun K hK => ?_)
  refine hK 1 _ [vR 82 2] T ?_
  refine j_gfV (pc := 1) (i := 2) (by decide) (by decide) (lwq_10 (dqc_m (dqc_m (dqc_m (dqa_m (dqa_m (List.mem_of_getElem? (i := 6) rfl)))))) rfl : Cond.fieldLink RJ0 9 "java/lang/String" "value" "[B" ∈ lw_g) (by decide +kernel) ?_
  show J_ zJ0_length_8abf5 T (po_J0_length_2 T) 0 0 4 _ [vR 83 2] T
  refine j_len83 (pc := 4) (i := 2) (n := 37) (by decide) (by decide) (by decide) (by decide) (by decide +kernel) ?_
  show J_ zJ0_length_8abf5 T (po_J0_length_2 T) 0 0 5 _ [vI 37] T
  refine j_blx (F := fJ0) tb_J0 (nn_ _) bk_J0_length_8abf5_5 bs_J0_length_8abf5_5 hz (fun K hK => ?_)
  refine hK 6 _ [vR 82 2, vI 37] T ?_
  refine j_callK (i := 2) (y := yJ0_coder_7d493) (Yc := zJ0_coder_7d493) (rest := [vI 37]) [] (by decide) (ct_J0_coder_2 (T := T)) ck82_J0_335 (by decide +kernel) (by decide) rfl (by decide +kernel) (Nat.le_of_ble_eq_true rfl) (by decide) (by decide) rfl ?_
  rintro _ _ ⟨rfl, rfl⟩
  show J_ zJ0_length_8abf5 T (po_J0_length_2 T) 0 0 9 _ [vI 0, vI 37] T
  refine j_blx (F := fJ0) tb_J0 (nn_ _) bk_J0_length_8abf5_9 bs_J0_length_8abf5_9 hz (fun K hK => ?_)
  intro w1 w1b
  refine (show po_J0_length_2 T T (some (vI (sr_ 37 0))) from ?_)
  exact ⟨rfl, by rw [show sr_ 37 0 = 37 by decide]⟩
abbrev po_J1_charAt_2 (T : Zt) (a : Int) : Zt → Option Zv → Prop := fun T' r => T = T' ∧ r = some (vI (cb8_ 2 a))
set_option maxHeartbeats 4000000 in
theorem ct_J1_charAt_2 {T : Zt} {a : Int} (h1 : 0 ≤ a ∧ a < 37) : Ct_ yJ1_charAt_3b067 zJ1_charAt_3b067 T [vR 83 2, vI a] (po_J1_charAt_2 T a) := by
  refine ct_of (by decide) rfl rfl (Nat.le_of_ble_eq_true rfl) (fun hT hav => ?_)
  have hr_a : -2147483648 ≤ a ∧ a ≤ 2147483647 := hav (vI a) (List.mem_cons_of_mem _ List.mem_cons_self)
  have hz : zJ1_charAt_3b067.2.2.2.1 = some .boolean → ∀ (T' : Zt) (x : Int), po_J1_charAt_2 T a T' (some (vI x)) → 0 ≤ x ∧ x ≤ 1 := fun h => by cases h
  show J_ zJ1_charAt_3b067 T (po_J1_charAt_2 T a) 0 0 0 [some (vR 83 2), some (vI a)] [] T
  refine j_blx (F := fJ1) tb_J1 (nn_ _) bk_J1_charAt_3b067_0 bs_J1_charAt_3b067_0 hz (fun K hK => ?_)
  refine hK 2 _ [vR 83 2, vI a] T ?_
  refine j_len83 (pc := 2) (i := 2) (n := 37) (by decide) (by decide) (by decide) (by decide) (by decide +kernel) ?_
  show J_ zJ1_charAt_3b067 T (po_J1_charAt_2 T a) 0 0 3 _ [vI 37, vI a] T
  refine j_callS (y := yJ0_checkIndex_df160) (Yc := zJ0_checkIndex_df160) (rest := []) [vI a, vI 37] (ct_J0_checkIndex_df160 (T := T) (by omega)) cl_J1_9 (qd_c (by decide +kernel)) (nn_ _) rfl (rf_of rfl) (Nat.le_of_ble_eq_true rfl) (Nat.le_of_ble_eq_true rfl) (Nat.le_of_ble_eq_true rfl) rfl ?_
  rintro _ _ ⟨rfl, rfl⟩
  show J_ zJ1_charAt_3b067 T (po_J1_charAt_2 T a) 0 0 6 _ [] T
  refine j_blx (F := fJ1) tb_J1 (nn_ _) bk_J1_charAt_3b067_6 bs_J1_charAt_3b067_6 hz (fun K hK => ?_)
  refine hK 8 _ [vI a, vR 83 2] T ?_
  refine j_ba83 (pc := 8) (i := 2) (n := 37) (by decide) (by decide) (by decide) (by omega) (by omega) (by decide) (fun k _ => ⟨i3_b _, bv_k (by decide) k⟩) (by decide +kernel) ?_
  have hcb := cb8_b (i := 2) (by decide) a
  show J_ zJ1_charAt_3b067 T (po_J1_charAt_2 T a) 0 0 9 _ [vI (cb8_ 2 a)] T
  refine j_blx (F := fJ1) tb_J1 (nn_ _) bk_J1_charAt_3b067_9 bs_J1_charAt_3b067_9 hz (fun K hK => ?_)
  intro w1 w1b
  refine hK 13 _ [vI (an_ (cb8_ 2 a) 255)] T ?_
  rw [an_25 hcb]
  refine j_i2c (pc := 13) (by decide) hcb (by decide +kernel) ?_
  show J_ zJ1_charAt_3b067 T (po_J1_charAt_2 T a) 0 0 14 _ [vI (cb8_ 2 a)] T
  refine j_iretN (pc := 14) (Or.inl rfl) hcb (by decide +kernel) ?_
  refine (show po_J1_charAt_2 T a T (some (vI (cb8_ 2 a))) from ?_)
  exact ⟨rfl, rfl⟩
abbrev po_J0_charAt_2 (T : Zt) (a : Int) : Zt → Option Zv → Prop := fun T' r => T = T' ∧ r = some (vI (cb8_ 2 a))
set_option maxHeartbeats 4000000 in
theorem ct_J0_charAt_2 {T : Zt} {a : Int} (h1 : 0 ≤ a ∧ a < 37) : Ct_ yJ0_charAt_5068e zJ0_charAt_5068e T [vR 82 2, vI a] (po_J0_charAt_2 T a) := by
  refine ct_of (by decide) rfl rfl (Nat.le_of_ble_eq_true rfl) (fun hT hav => ?_)
  have hr_a : -2147483648 ≤ a ∧ a ≤ 2147483647 := hav (vI a) (List.mem_cons_of_mem _ List.mem_cons_self)
  have hz : zJ0_charAt_5068e.2.2.2.1 = some .boolean → ∀ (T' : Zt) (x : Int), po_J0_charAt_2 T a T' (some (vI x)) → 0 ≤ x ∧ x ≤ 1 := fun h => by cases h
  show J_ zJ0_charAt_5068e T (po_J0_charAt_2 T a) 0 0 0 [some (vR 82 2), some (vI a)] [] T
  refine j_blx (F := fJ0) tb_J0 (nn_ _) bk_J0_charAt_5068e_0 bs_J0_charAt_5068e_0 hz (fun K hK => ?_)
  refine hK 1 _ [vR 82 2] T ?_
  refine j_callK (i := 2) (y := yJ0_isLatin1_aae02) (Yc := zJ0_isLatin1_aae02) (rest := []) [] (by decide) (ct_J0_isLatin1_2 (T := T)) ck82_J0_492 (by decide +kernel) (by decide) rfl (by decide +kernel) (Nat.le_of_ble_eq_true rfl) (by decide) (by decide) rfl ?_
  rintro _ _ ⟨rfl, rfl⟩
  show J_ zJ0_charAt_5068e T (po_J0_charAt_2 T a) 0 0 4 _ [vI 1] T
  refine j_blx (F := fJ0) tb_J0 (nn_ _) bk_J0_charAt_5068e_4 bs_J0_charAt_5068e_4 hz (fun K hK => ?_)
  refine And.intro (fun c1 => ?_) (fun c1 => ?_)
  · exact absurd c1 (by decide)
  · refine hK 8 _ [vR 82 2] T ?_
    refine j_gfV (pc := 8) (i := 2) (by decide) (by decide) (lwq_10 (dqc_m (dqc_m (dqc_m (dqa_m (dqa_m (List.mem_of_getElem? (i := 6) rfl)))))) rfl : Cond.fieldLink RJ0 9 "java/lang/String" "value" "[B" ∈ lw_g) (by decide +kernel) ?_
    show J_ zJ0_charAt_5068e T (po_J0_charAt_2 T a) 0 0 11 _ [vR 83 2] T
    refine j_blx (F := fJ0) tb_J0 (nn_ _) bk_J0_charAt_5068e_11 bs_J0_charAt_5068e_11 hz (fun K hK => ?_)
    refine hK 12 _ [vI a, vR 83 2] T ?_
    refine j_callS (y := yJ1_charAt_3b067) (Yc := zJ1_charAt_3b067) (rest := []) [vR 83 2, vI a] (ct_J1_charAt_2 (T := T) (by omega)) cl_J0_495 (qd_c (by decide +kernel)) (nn_ _) rfl (rf_of rfl) (Nat.le_of_ble_eq_true rfl) (Nat.le_of_ble_eq_true rfl) (Nat.le_of_ble_eq_true rfl) rfl ?_
    rintro _ _ ⟨rfl, rfl⟩
    show J_ zJ0_charAt_5068e T (po_J0_charAt_2 T a) 0 0 15 _ [vI (cb8_ 2 a)] T
    refine j_iretN (pc := 15) (Or.inl rfl) (cb8_b (by decide) a) (by decide +kernel) ?_
    refine (show po_J0_charAt_2 T a T (some (vI (cb8_ 2 a))) from ?_)
    exact ⟨rfl, rfl⟩
abbrev cX5_isBetween : ByteArray := prog_7_method_13_code
def yX5_isBetween : MethodName := ⟨RX5, "isBetween", "(III)Z"⟩
def zX5_isBetween : Zm := (RX5, cX5_isBetween, 4, (some .boolean), { frames := 0, cells := 0, slots := 0, locals := 0 })
theorem bk_X5_isBetween_0 : ck_ fX5 (some .boolean) cX5_isBetween 0 [.aload 0, .tableswitch 0 5 0 #[], .iload 1, .iaload, .iload 2, .if_icmp .lt 24, .aload 0, .tableswitch 0 5 0 #[], .iload 1, .iaload, .iload 3, .if_icmp .gt 24, .iconst 1, .goto 25] 24 = true := qck_r (nn_ _) (by decide +kernel)
theorem bs_X5_isBetween_0 {P : Zt → Option Zv → Prop} (K : Int → Zl → List Zv → Zt → Prop) : sx_ K P [.aload 0, .tableswitch 0 5 0 #[], .iload 1, .iaload, .iload 2, .if_icmp .lt 24, .aload 0, .tableswitch 0 5 0 #[], .iload 1, .iaload, .iload 3, .if_icmp .gt 24, .iconst 1, .goto 25] 24 = x_aload 0 (x_g1 105 500 (x_iload 1 (x_iaload (x_iload 2 (x_if_icmp .lt 24 K (x_aload 0 (x_g1 105 500 (x_iload 1 (x_iaload (x_iload 3 (x_if_icmp .gt 24 K (x_iconst 1 (x_goto 25 K))))))))))))) := ((xe_aload 0).trans (congrArg (x_aload 0) ((xe_g1 (kk := 105) rfl tl_5_0).trans (congrArg (x_g1 105 500) ((xe_iload 1).trans (congrArg (x_iload 1) ((xe_iaload).trans (congrArg (x_iaload) ((xe_iload 2).trans (congrArg (x_iload 2) ((xe_if_icmp .lt 24).trans (congrArg (x_if_icmp .lt 24 K) ((xe_aload 0).trans (congrArg (x_aload 0) ((xe_g1 (kk := 105) rfl tl_5_0).trans (congrArg (x_g1 105 500) ((xe_iload 1).trans (congrArg (x_iload 1) ((xe_iaload).trans (congrArg (x_iaload) ((xe_iload 3).trans (congrArg (x_iload 3) ((xe_if_icmp .gt 24).trans (congrArg (x_if_icmp .gt 24 K) ((xe_iconst 1).trans (congrArg (x_iconst 1) (xe_goto 25)))))))))))))))))))))))))))
theorem bk_X5_isBetween_24 : ck_ fX5 (some .boolean) cX5_isBetween 24 [.iconst 0, .ireturn] 26 = true := qck_r (nn_ _) (by decide +kernel)
theorem bs_X5_isBetween_24 {P : Zt → Option Zv → Prop} (K : Int → Zl → List Zv → Zt → Prop) : sx_ K P [.iconst 0, .ireturn] 26 = x_iconst 0 (x_ireturn P) := ((xe_iconst 0).trans (congrArg (x_iconst 0) (xe_ireturn)))
theorem bk_X5_isBetween_25 : ck_ fX5 (some .boolean) cX5_isBetween 25 [.ireturn] 26 = true := qck_r (nn_ _) (by decide +kernel)
theorem bs_X5_isBetween_25 {P : Zt → Option Zv → Prop} (K : Int → Zl → List Zv → Zt → Prop) : sx_ K P [.ireturn] 26 = x_ireturn P := (xe_ireturn)
abbrev cX5_takeRun : ByteArray := prog_7_method_12_code
def yX5_takeRun : MethodName := ⟨RX5, "takeRun", "(IIII)V"⟩
def zX5_takeRun : Zm := (RX5, cX5_takeRun, 5, none, { frames := 1, cells := 0, slots := 0, locals := 23 })
theorem bk_X5_takeRun_0 : ck_ fX5 none cX5_takeRun 0 [.aload 0, .tableswitch 0 5 9 #[], .aload 0, .tableswitch 0 5 1 #[], .if_icmp .ge 37, .aload 0, .aload 0, .tableswitch 0 5 9 #[], .iload 1, .iload 2] 18 = true := qck_r (nn_ _) (by decide +kernel)
theorem bs_X5_takeRun_0 {P : Zt → Option Zv → Prop} (K : Int → Zl → List Zv → Zt → Prop) : sx_ K P [.aload 0, .tableswitch 0 5 9 #[], .aload 0, .tableswitch 0 5 1 #[], .if_icmp .ge 37, .aload 0, .aload 0, .tableswitch 0 5 9 #[], .iload 1, .iload 2] 18 = x_aload 0 (x_g0 105 9 0 400 (x_aload 0 (x_g0 105 1 0 400 (x_if_icmp .ge 37 K (x_aload 0 (x_aload 0 (x_g0 105 9 0 400 (x_iload 1 (x_iload 2 (K 18)))))))))) := ((xe_aload 0).trans (congrArg (x_aload 0) ((xe_g0 (kk := 105) rfl tl_5_9).trans (congrArg (x_g0 105 9 0 400) ((xe_aload 0).trans (congrArg (x_aload 0) ((xe_g0 (kk := 105) rfl tl_5_1).trans (congrArg (x_g0 105 1 0 400) ((xe_if_icmp .ge 37).trans (congrArg (x_if_icmp .ge 37 K) ((xe_aload 0).trans (congrArg (x_aload 0) ((xe_aload 0).trans (congrArg (x_aload 0) ((xe_g0 (kk := 105) rfl tl_5_9).trans (congrArg (x_g0 105 9 0 400) ((xe_iload 1).trans (congrArg (x_iload 1) ((xe_iload 2).trans (congrArg (x_iload 2) xe_nil))))))))))))))))))))
theorem bk_X5_takeRun_37 : ck_ fX5 none cX5_takeRun 37 [.aload 0, .aload 0, .tableswitch 0 5 9 #[], .aload 0, .tableswitch 0 5 8 #[], .isub, .iload 4, .if_icmp .le 56, .iconst 5, .goto 57] 56 = true := qck_r (nn_ _) (by decide +kernel)
theorem bs_X5_takeRun_37 {P : Zt → Option Zv → Prop} (K : Int → Zl → List Zv → Zt → Prop) : sx_ K P [.aload 0, .aload 0, .tableswitch 0 5 9 #[], .aload 0, .tableswitch 0 5 8 #[], .isub, .iload 4, .if_icmp .le 56, .iconst 5, .goto 57] 56 = x_aload 0 (x_aload 0 (x_g0 105 9 0 400 (x_aload 0 (x_g0 105 8 0 400 (x_isub (x_iload 4 (x_if_icmp .le 56 K (x_iconst 5 (x_goto 57 K))))))))) := ((xe_aload 0).trans (congrArg (x_aload 0) ((xe_aload 0).trans (congrArg (x_aload 0) ((xe_g0 (kk := 105) rfl tl_5_9).trans (congrArg (x_g0 105 9 0 400) ((xe_aload 0).trans (congrArg (x_aload 0) ((xe_g0 (kk := 105) rfl tl_5_8).trans (congrArg (x_g0 105 8 0 400) ((xe_isub).trans (congrArg (x_isub) ((xe_iload 4).trans (congrArg (x_iload 4) ((xe_if_icmp .le 56).trans (congrArg (x_if_icmp .le 56 K) ((xe_iconst 5).trans (congrArg (x_iconst 5) (xe_goto 57)))))))))))))))))))
theorem bk_X5_takeRun_56 : ck_ fX5 none cX5_takeRun 56 [.iload 3, .tableswitch 1 5 7 #[], .return_] 61 = true := qck_r (nn_ _) (by decide +kernel)
theorem bs_X5_takeRun_56 {P : Zt → Option Zv → Prop} (K : Int → Zl → List Zv → Zt → Prop) : sx_ K P [.iload 3, .tableswitch 1 5 7 #[], .return_] 61 = x_iload 3 (x_p 105 7 0 5 (x_return_ P)) := ((xe_iload 3).trans (congrArg (x_iload 3) ((xe_p (kk := 105) rfl tl_5_7).trans (congrArg (x_p 105 7 0 5) (xe_return_)))))
theorem bk_X5_takeRun_57 : ck_ fX5 none cX5_takeRun 57 [.tableswitch 1 5 7 #[], .return_] 61 = true := qck_r (nn_ _) (by decide +kernel)
theorem bs_X5_takeRun_57 {P : Zt → Option Zv → Prop} (K : Int → Zl → List Zv → Zt → Prop) : sx_ K P [.tableswitch 1 5 7 #[], .return_] 61 = x_p 105 7 0 5 (x_return_ P) := ((xe_p (kk := 105) rfl tl_5_7).trans (congrArg (x_p 105 7 0 5) (xe_return_)))
set_option maxRecDepth 100000 in
theorem cl_X5_104 : cv_ RX5 104 yX5_isBetween zX5_isBetween 5 3 := ⟨gi_V (lwq_2 (dqc_m (dqc_m (dqc_m (dqc_m (dqc_m (dqc_m (dqa_m (dqa_m (List.mem_of_getElem? (i := 2) rfl))))))))) rfl : Cond.methodLink RX5 104 yX5_isBetween ∈ lw_g) (lwq_2 (dqc_m (dqc_m (dqc_m (dqc_m (dqc_m (dqc_m (dqa_m (dqa_m (List.mem_of_getElem? (i := 4) rfl))))))))) rfl : Cond.instanceMethod yX5_isBetween ∈ lw_g) (lw_sel 109 rfl : Cond.selects yX5_isBetween.cls yX5_isBetween yX5_isBetween ∈ lw_g) (lwq_1 (List.mem_of_getElem? (i := 2) rfl) rfl : Cond.initialized yX5_isBetween.cls ∈ lw_g) (lwq_2 (dqc_m (dqc_m (dqc_m (dqc_m (dqc_m (dqc_m (dqa_m (dqa_m (List.mem_of_getElem? (i := 5) rfl))))))))) rfl : Cond.code yX5_isBetween cX5_isBetween 4 (some .boolean) ∈ lw_g), ⟨nmh_5.1, nmh_5.2, pdq_11⟩, ⟨_, _, rfl⟩⟩
theorem bk_X5_takeRun_21 : ck_ fX5 none cX5_takeRun 21 [.ifCond .eq 37, .aload 0, .dup, .tableswitch 0 5 9 #[], .iconst 1, .iadd, .tableswitch 1 5 9 #[], .goto 0] 37 = true := qck_r (nn_ _) (by decide +kernel)
theorem bs_X5_takeRun_21 {P : Zt → Option Zv → Prop} (K : Int → Zl → List Zv → Zt → Prop) : sx_ K P [.ifCond .eq 37, .aload 0, .dup, .tableswitch 0 5 9 #[], .iconst 1, .iadd, .tableswitch 1 5 9 #[], .goto 0] 37 = x_ifCond .eq 37 K (x_aload 0 (x_dup (x_g0 105 9 0 400 (x_iconst 1 (x_iadd (x_p 105 9 0 400 (x_goto 0 K))))))) := ((xe_ifCond .eq 37).trans (congrArg (x_ifCond .eq 37 K) ((xe_aload 0).trans (congrArg (x_aload 0) ((xe_dup).trans (congrArg (x_dup) ((xe_g0 (kk := 105) rfl tl_5_9).trans (congrArg (x_g0 105 9 0 400) ((xe_iconst 1).trans (congrArg (x_iconst 1) ((xe_iadd).trans (congrArg (x_iadd) ((xe_p (kk := 105) rfl tl_5_9).trans (congrArg (x_p 105 9 0 400) (xe_goto 0)))))))))))))))
abbrev cX5_nextToken : ByteArray := prog_7_method_11_code
def yX5_nextToken : MethodName := ⟨RX5, "nextToken", "()V"⟩
def zX5_nextToken : Zm := (RX5, cX5_nextToken, 2, none, { frames := 2, cells := 0, slots := 0, locals := 47 })
theorem bk_X5_nextToken_5 : ck_ fX5 none cX5_nextToken 5 [.iload 1, .aload 0, .tableswitch 0 5 1 #[], .if_icmp .ge 41, .aload 0, .tableswitch 0 5 0 #[], .iload 1, .iaload, .iconst 10, .if_icmp .eq 35, .aload 0, .tableswitch 0 5 0 #[], .iload 1, .iaload, .iconst 32, .if_icmp .ne 41, .iinc 1 1, .goto 5] 41 = true := qck_r (nn_ _) (by decide +kernel)
theorem bs_X5_nextToken_5 {P : Zt → Option Zv → Prop} (K : Int → Zl → List Zv → Zt → Prop) : sx_ K P [.iload 1, .aload 0, .tableswitch 0 5 1 #[], .if_icmp .ge 41, .aload 0, .tableswitch 0 5 0 #[], .iload 1, .iaload, .iconst 10, .if_icmp .eq 35, .aload 0, .tableswitch 0 5 0 #[], .iload 1, .iaload, .iconst 32, .if_icmp .ne 41, .iinc 1 1, .goto 5] 41 = x_iload 1 (x_aload 0 (x_g0 105 1 0 400 (x_if_icmp .ge 41 K (x_aload 0 (x_g1 105 500 (x_iload 1 (x_iaload (x_iconst 10 (x_if_icmp .eq 35 K (x_aload 0 (x_g1 105 500 (x_iload 1 (x_iaload (x_iconst 32 (x_if_icmp .ne 41 K (x_iinc 1 1 (x_goto 5 K))))))))))))))))) := ((xe_iload 1).trans (congrArg (x_iload 1) ((xe_aload 0).trans (congrArg (x_aload 0) ((xe_g0 (kk := 105) rfl tl_5_1).trans (congrArg (x_g0 105 1 0 400) ((xe_if_icmp .ge 41).trans (congrArg (x_if_icmp .ge 41 K) ((xe_aload 0).trans (congrArg (x_aload 0) ((xe_g1 (kk := 105) rfl tl_5_0).trans (congrArg (x_g1 105 500) ((xe_iload 1).trans (congrArg (x_iload 1) ((xe_iaload).trans (congrArg (x_iaload) ((xe_iconst 10).trans (congrArg (x_iconst 10) ((xe_if_icmp .eq 35).trans (congrArg (x_if_icmp .eq 35 K) ((xe_aload 0).trans (congrArg (x_aload 0) ((xe_g1 (kk := 105) rfl tl_5_0).trans (congrArg (x_g1 105 500) ((xe_iload 1).trans (congrArg (x_iload 1) ((xe_iaload).trans (congrArg (x_iaload) ((xe_iconst 32).trans (congrArg (x_iconst 32) ((xe_if_icmp .ne 41).trans (congrArg (x_if_icmp .ne 41 K) ((xe_iinc 1 1).trans (congrArg (x_iinc 1 1) (xe_goto 5)))))))))))))))))))))))))))))))))))
theorem bk_X5_nextToken_41 : ck_ fX5 none cX5_nextToken 41 [.aload 0, .iload 1, .tableswitch 1 5 8 #[], .aload 0, .iload 1, .tableswitch 1 5 9 #[], .iload 1, .aload 0, .tableswitch 0 5 1 #[], .if_icmp .lt 67, .aload 0, .iconst 0, .tableswitch 1 5 7 #[], .goto 160] 67 = true := qck_r (nn_ _) (by decide +kernel)
theorem bs_X5_nextToken_41 {P : Zt → Option Zv → Prop} (K : Int → Zl → List Zv → Zt → Prop) : sx_ K P [.aload 0, .iload 1, .tableswitch 1 5 8 #[], .aload 0, .iload 1, .tableswitch 1 5 9 #[], .iload 1, .aload 0, .tableswitch 0 5 1 #[], .if_icmp .lt 67, .aload 0, .iconst 0, .tableswitch 1 5 7 #[], .goto 160] 67 = x_aload 0 (x_iload 1 (x_p 105 8 0 400 (x_aload 0 (x_iload 1 (x_p 105 9 0 400 (x_iload 1 (x_aload 0 (x_g0 105 1 0 400 (x_if_icmp .lt 67 K (x_aload 0 (x_iconst 0 (x_p 105 7 0 5 (x_goto 160 K))))))))))))) := ((xe_aload 0).trans (congrArg (x_aload 0) ((xe_iload 1).trans (congrArg (x_iload 1) ((xe_p (kk := 105) rfl tl_5_8).trans (congrArg (x_p 105 8 0 400) ((xe_aload 0).trans (congrArg (x_aload 0) ((xe_iload 1).trans (congrArg (x_iload 1) ((xe_p (kk := 105) rfl tl_5_9).trans (congrArg (x_p 105 9 0 400) ((xe_iload 1).trans (congrArg (x_iload 1) ((xe_aload 0).trans (congrArg (x_aload 0) ((xe_g0 (kk := 105) rfl tl_5_1).trans (congrArg (x_g0 105 1 0 400) ((xe_if_icmp .lt 67).trans (congrArg (x_if_icmp .lt 67 K) ((xe_aload 0).trans (congrArg (x_aload 0) ((xe_iconst 0).trans (congrArg (x_iconst 0) ((xe_p (kk := 105) rfl tl_5_7).trans (congrArg (x_p 105 7 0 5) (xe_goto 160)))))))))))))))))))))))))))
theorem bk_X5_nextToken_67 : ck_ fX5 none cX5_nextToken 67 [.aload 0, .iload 1, .iconst 97, .iconst 122] 73 = true := qck_r (nn_ _) (by decide +kernel)
theorem bs_X5_nextToken_67 {P : Zt → Option Zv → Prop} (K : Int → Zl → List Zv → Zt → Prop) : sx_ K P [.aload 0, .iload 1, .iconst 97, .iconst 122] 73 = x_aload 0 (x_iload 1 (x_iconst 97 (x_iconst 122 (K 73)))) := ((xe_aload 0).trans (congrArg (x_aload 0) ((xe_iload 1).trans (congrArg (x_iload 1) ((xe_iconst 97).trans (congrArg (x_iconst 97) ((xe_iconst 122).trans (congrArg (x_iconst 122) xe_nil))))))))
theorem bk_X5_nextToken_76 : ck_ fX5 none cX5_nextToken 76 [.ifCond .eq 93, .aload 0, .iconst 97, .iconst 122, .iconst 1, .iconst 12] 87 = true := qck_r (nn_ _) (by decide +kernel)
theorem bs_X5_nextToken_76 {P : Zt → Option Zv → Prop} (K : Int → Zl → List Zv → Zt → Prop) : sx_ K P [.ifCond .eq 93, .aload 0, .iconst 97, .iconst 122, .iconst 1, .iconst 12] 87 = x_ifCond .eq 93 K (x_aload 0 (x_iconst 97 (x_iconst 122 (x_iconst 1 (x_iconst 12 (K 87)))))) := ((xe_ifCond .eq 93).trans (congrArg (x_ifCond .eq 93 K) ((xe_aload 0).trans (congrArg (x_aload 0) ((xe_iconst 97).trans (congrArg (x_iconst 97) ((xe_iconst 122).trans (congrArg (x_iconst 122) ((xe_iconst 1).trans (congrArg (x_iconst 1) ((xe_iconst 12).trans (congrArg (x_iconst 12) xe_nil))))))))))))
theorem bk_X5_nextToken_93 : ck_ fX5 none cX5_nextToken 93 [.aload 0, .iload 1, .iconst 48, .iconst 57] 99 = true := qck_r (nn_ _) (by decide +kernel)
theorem bs_X5_nextToken_93 {P : Zt → Option Zv → Prop} (K : Int → Zl → List Zv → Zt → Prop) : sx_ K P [.aload 0, .iload 1, .iconst 48, .iconst 57] 99 = x_aload 0 (x_iload 1 (x_iconst 48 (x_iconst 57 (K 99)))) := ((xe_aload 0).trans (congrArg (x_aload 0) ((xe_iload 1).trans (congrArg (x_iload 1) ((xe_iconst 48).trans (congrArg (x_iconst 48) ((xe_iconst 57).trans (congrArg (x_iconst 57) xe_nil))))))))
theorem bk_X5_nextToken_102 : ck_ fX5 none cX5_nextToken 102 [.ifCond .eq 118, .aload 0, .iconst 48, .iconst 57, .iconst 2, .iconst 3] 112 = true := qck_r (nn_ _) (by decide +kernel)
theorem bs_X5_nextToken_102 {P : Zt → Option Zv → Prop} (K : Int → Zl → List Zv → Zt → Prop) : sx_ K P [.ifCond .eq 118, .aload 0, .iconst 48, .iconst 57, .iconst 2, .iconst 3] 112 = x_ifCond .eq 118 K (x_aload 0 (x_iconst 48 (x_iconst 57 (x_iconst 2 (x_iconst 3 (K 112)))))) := ((xe_ifCond .eq 118).trans (congrArg (x_ifCond .eq 118 K) ((xe_aload 0).trans (congrArg (x_aload 0) ((xe_iconst 48).trans (congrArg (x_iconst 48) ((xe_iconst 57).trans (congrArg (x_iconst 57) ((xe_iconst 2).trans (congrArg (x_iconst 2) ((xe_iconst 3).trans (congrArg (x_iconst 3) xe_nil))))))))))))
theorem bk_X5_nextToken_118 : ck_ fX5 none cX5_nextToken 118 [.aload 0, .iload 1, .iconst 1, .iadd, .tableswitch 1 5 9 #[], .aload 0, .aload 0, .tableswitch 0 5 0 #[], .iload 1, .iaload, .iconst 59, .if_icmp .ne 141, .iconst 3, .goto 157] 141 = true := qck_r (nn_ _) (by decide +kernel)
theorem bs_X5_nextToken_118 {P : Zt → Option Zv → Prop} (K : Int → Zl → List Zv → Zt → Prop) : sx_ K P [.aload 0, .iload 1, .iconst 1, .iadd, .tableswitch 1 5 9 #[], .aload 0, .aload 0, .tableswitch 0 5 0 #[], .iload 1, .iaload, .iconst 59, .if_icmp .ne 141, .iconst 3, .goto 157] 141 = x_aload 0 (x_iload 1 (x_iconst 1 (x_iadd (x_p 105 9 0 400 (x_aload 0 (x_aload 0 (x_g1 105 500 (x_iload 1 (x_iaload (x_iconst 59 (x_if_icmp .ne 141 K (x_iconst 3 (x_goto 157 K))))))))))))) := ((xe_aload 0).trans (congrArg (x_aload 0) ((xe_iload 1).trans (congrArg (x_iload 1) ((xe_iconst 1).trans (congrArg (x_iconst 1) ((xe_iadd).trans (congrArg (x_iadd) ((xe_p (kk := 105) rfl tl_5_9).trans (congrArg (x_p 105 9 0 400) ((xe_aload 0).trans (congrArg (x_aload 0) ((xe_aload 0).trans (congrArg (x_aload 0) ((xe_g1 (kk := 105) rfl tl_5_0).trans (congrArg (x_g1 105 500) ((xe_iload 1).trans (congrArg (x_iload 1) ((xe_iaload).trans (congrArg (x_iaload) ((xe_iconst 59).trans (congrArg (x_iconst 59) ((xe_if_icmp .ne 141).trans (congrArg (x_if_icmp .ne 141 K) ((xe_iconst 3).trans (congrArg (x_iconst 3) (xe_goto 157)))))))))))))))))))))))))))
theorem bk_X5_nextToken_141 : ck_ fX5 none cX5_nextToken 141 [.aload 0, .tableswitch 0 5 0 #[], .iload 1, .iaload, .iconst 44, .if_icmp .ne 156, .iconst 4, .goto 157] 156 = true := qck_r (nn_ _) (by decide +kernel)
theorem bs_X5_nextToken_141 {P : Zt → Option Zv → Prop} (K : Int → Zl → List Zv → Zt → Prop) : sx_ K P [.aload 0, .tableswitch 0 5 0 #[], .iload 1, .iaload, .iconst 44, .if_icmp .ne 156, .iconst 4, .goto 157] 156 = x_aload 0 (x_g1 105 500 (x_iload 1 (x_iaload (x_iconst 44 (x_if_icmp .ne 156 K (x_iconst 4 (x_goto 157 K))))))) := ((xe_aload 0).trans (congrArg (x_aload 0) ((xe_g1 (kk := 105) rfl tl_5_0).trans (congrArg (x_g1 105 500) ((xe_iload 1).trans (congrArg (x_iload 1) ((xe_iaload).trans (congrArg (x_iaload) ((xe_iconst 44).trans (congrArg (x_iconst 44) ((xe_if_icmp .ne 156).trans (congrArg (x_if_icmp .ne 156 K) ((xe_iconst 4).trans (congrArg (x_iconst 4) (xe_goto 157)))))))))))))))
theorem bk_X5_nextToken_156 : ck_ fX5 none cX5_nextToken 156 [.iconst 5, .tableswitch 1 5 7 #[], .return_] 161 = true := qck_r (nn_ _) (by decide +kernel)
theorem bs_X5_nextToken_156 {P : Zt → Option Zv → Prop} (K : Int → Zl → List Zv → Zt → Prop) : sx_ K P [.iconst 5, .tableswitch 1 5 7 #[], .return_] 161 = x_iconst 5 (x_p 105 7 0 5 (x_return_ P)) := ((xe_iconst 5).trans (congrArg (x_iconst 5) ((xe_p (kk := 105) rfl tl_5_7).trans (congrArg (x_p 105 7 0 5) (xe_return_)))))
theorem bk_X5_nextToken_157 : ck_ fX5 none cX5_nextToken 157 [.tableswitch 1 5 7 #[], .return_] 161 = true := qck_r (nn_ _) (by decide +kernel)
theorem bs_X5_nextToken_157 {P : Zt → Option Zv → Prop} (K : Int → Zl → List Zv → Zt → Prop) : sx_ K P [.tableswitch 1 5 7 #[], .return_] 161 = x_p 105 7 0 5 (x_return_ P) := ((xe_p (kk := 105) rfl tl_5_7).trans (congrArg (x_p 105 7 0 5) (xe_return_)))
set_option maxRecDepth 100000 in
theorem cl_X5_108 : cv_ RX5 108 yX5_takeRun zX5_takeRun 5 4 := ⟨gi_V (lwq_2 (dqc_m (dqc_m (dqc_m (dqc_m (dqc_m (dqc_m (dqa_m (dqa_m (List.mem_of_getElem? (i := 6) rfl))))))))) rfl : Cond.methodLink RX5 108 yX5_takeRun ∈ lw_g) (lwq_2 (dqc_m (dqc_m (dqc_m (dqc_m (dqc_m (dqc_m (dqa_m (dqa_m (dqa_m (List.mem_of_getElem? (i := 0) rfl)))))))))) rfl : Cond.instanceMethod yX5_takeRun ∈ lw_g) (lw_sel 117 rfl : Cond.selects yX5_takeRun.cls yX5_takeRun yX5_takeRun ∈ lw_g) (lwq_1 (List.mem_of_getElem? (i := 2) rfl) rfl : Cond.initialized yX5_takeRun.cls ∈ lw_g) (lwq_2 (dqc_m (dqc_m (dqc_m (dqc_m (dqc_m (dqc_m (dqa_m (dqa_m (dqa_m (List.mem_of_getElem? (i := 1) rfl)))))))))) rfl : Cond.code yX5_takeRun cX5_takeRun 5 none ∈ lw_g), ⟨nmh_5.1, nmh_5.2, pdq_12⟩, ⟨_, _, rfl⟩⟩
theorem bk_X5_nextToken_115 : ck_ fX5 none cX5_nextToken 115 [.goto 160] 118 = true := qck_r (nn_ _) (by decide +kernel)
theorem bs_X5_nextToken_115 {P : Zt → Option Zv → Prop} (K : Int → Zl → List Zv → Zt → Prop) : sx_ K P [.goto 160] 118 = x_goto 160 K := (xe_goto 160)
theorem bk_X5_nextToken_160 : ck_ fX5 none cX5_nextToken 160 [.return_] 161 = true := qck_r (nn_ _) (by decide +kernel)
theorem bs_X5_nextToken_160 {P : Zt → Option Zv → Prop} (K : Int → Zl → List Zv → Zt → Prop) : sx_ K P [.return_] 161 = x_return_ P := (xe_return_)
theorem bk_X5_nextToken_90 : ck_ fX5 none cX5_nextToken 90 [.goto 160] 93 = true := qck_r (nn_ _) (by decide +kernel)
theorem bs_X5_nextToken_90 {P : Zt → Option Zv → Prop} (K : Int → Zl → List Zv → Zt → Prop) : sx_ K P [.goto 160] 93 = x_goto 160 K := (xe_goto 160)
theorem bk_X5_nextToken_35 : ck_ fX5 none cX5_nextToken 35 [.iinc 1 1, .goto 5] 41 = true := qck_r (nn_ _) (by decide +kernel)
theorem bs_X5_nextToken_35 {P : Zt → Option Zv → Prop} (K : Int → Zl → List Zv → Zt → Prop) : sx_ K P [.iinc 1 1, .goto 5] 41 = x_iinc 1 1 (x_goto 5 K) := ((xe_iinc 1 1).trans (congrArg (x_iinc 1 1) (xe_goto 5)))
theorem bk_X5_nextToken_0 : ck_ fX5 none cX5_nextToken 0 [.aload 0, .tableswitch 0 5 9 #[], .istore 1] 5 = true := qck_r (nn_ _) (by decide +kernel)
theorem bs_X5_nextToken_0 {P : Zt → Option Zv → Prop} (K : Int → Zl → List Zv → Zt → Prop) : sx_ K P [.aload 0, .tableswitch 0 5 9 #[], .istore 1] 5 = x_aload 0 (x_g0 105 9 0 400 (x_istore 1 (K 5))) := ((xe_aload 0).trans (congrArg (x_aload 0) ((xe_g0 (kk := 105) rfl tl_5_9).trans (congrArg (x_g0 105 9 0 400) ((xe_istore 1).trans (congrArg (x_istore 1) xe_nil))))))
abbrev cX5_fail : ByteArray := prog_7_method_8_code
def yX5_fail : MethodName := ⟨RX5, "fail", "(I)Z"⟩
def zX5_fail : Zm := (RX5, cX5_fail, 2, (some .boolean), { frames := 0, cells := 0, slots := 0, locals := 0 })
theorem bk_X5_fail_0 : ck_ fX5 (some .boolean) cX5_fail 0 [.aload 0, .iload 1, .tableswitch 1 5 2 #[], .aload 0, .aload 0, .tableswitch 0 5 8 #[], .tableswitch 1 5 3 #[], .iconst 0, .ireturn] 15 = true := qck_r (nn_ _) (by decide +kernel)
theorem bs_X5_fail_0 {P : Zt → Option Zv → Prop} (K : Int → Zl → List Zv → Zt → Prop) : sx_ K P [.aload 0, .iload 1, .tableswitch 1 5 2 #[], .aload 0, .aload 0, .tableswitch 0 5 8 #[], .tableswitch 1 5 3 #[], .iconst 0, .ireturn] 15 = x_aload 0 (x_iload 1 (x_p 105 2 0 5 (x_aload 0 (x_aload 0 (x_g0 105 8 0 400 (x_p 105 3 (-1) 400 (x_iconst 0 (x_ireturn P)))))))) := ((xe_aload 0).trans (congrArg (x_aload 0) ((xe_iload 1).trans (congrArg (x_iload 1) ((xe_p (kk := 105) rfl tl_5_2).trans (congrArg (x_p 105 2 0 5) ((xe_aload 0).trans (congrArg (x_aload 0) ((xe_aload 0).trans (congrArg (x_aload 0) ((xe_g0 (kk := 105) rfl tl_5_8).trans (congrArg (x_g0 105 8 0 400) ((xe_p (kk := 105) rfl tl_5_3).trans (congrArg (x_p 105 3 (-1) 400) ((xe_iconst 0).trans (congrArg (x_iconst 0) (xe_ireturn)))))))))))))))))
abbrev cX5_isOfKind : ByteArray := prog_7_method_9_code
def yX5_isOfKind : MethodName := ⟨RX5, "isOfKind", "(I)Z"⟩
def zX5_isOfKind : Zm := (RX5, cX5_isOfKind, 2, (some .boolean), { frames := 1, cells := 0, slots := 0, locals := 21 })
theorem bk_X5_isOfKind_0 : ck_ fX5 (some .boolean) cX5_isOfKind 0 [.aload 0, .tableswitch 0 5 7 #[], .iconst 5, .if_icmp .ne 14, .aload 0, .iconst 1] 10 = true := qck_r (nn_ _) (by decide +kernel)
theorem bs_X5_isOfKind_0 {P : Zt → Option Zv → Prop} (K : Int → Zl → List Zv → Zt → Prop) : sx_ K P [.aload 0, .tableswitch 0 5 7 #[], .iconst 5, .if_icmp .ne 14, .aload 0, .iconst 1] 10 = x_aload 0 (x_g0 105 7 0 5 (x_iconst 5 (x_if_icmp .ne 14 K (x_aload 0 (x_iconst 1 (K 10)))))) := ((xe_aload 0).trans (congrArg (x_aload 0) ((xe_g0 (kk := 105) rfl tl_5_7).trans (congrArg (x_g0 105 7 0 5) ((xe_iconst 5).trans (congrArg (x_iconst 5) ((xe_if_icmp .ne 14).trans (congrArg (x_if_icmp .ne 14 K) ((xe_aload 0).trans (congrArg (x_aload 0) ((xe_iconst 1).trans (congrArg (x_iconst 1) xe_nil))))))))))))
theorem bk_X5_isOfKind_14 : ck_ fX5 (some .boolean) cX5_isOfKind 14 [.aload 0, .tableswitch 0 5 7 #[], .iload 1, .if_icmp .eq 30, .aload 0, .iconst 2] 24 = true := qck_r (nn_ _) (by decide +kernel)
theorem bs_X5_isOfKind_14 {P : Zt → Option Zv → Prop} (K : Int → Zl → List Zv → Zt → Prop) : sx_ K P [.aload 0, .tableswitch 0 5 7 #[], .iload 1, .if_icmp .eq 30, .aload 0, .iconst 2] 24 = x_aload 0 (x_g0 105 7 0 5 (x_iload 1 (x_if_icmp .eq 30 K (x_aload 0 (x_iconst 2 (K 24)))))) := ((xe_aload 0).trans (congrArg (x_aload 0) ((xe_g0 (kk := 105) rfl tl_5_7).trans (congrArg (x_g0 105 7 0 5) ((xe_iload 1).trans (congrArg (x_iload 1) ((xe_if_icmp .eq 30).trans (congrArg (x_if_icmp .eq 30 K) ((xe_aload 0).trans (congrArg (x_aload 0) ((xe_iconst 2).trans (congrArg (x_iconst 2) xe_nil))))))))))))
theorem bk_X5_isOfKind_30 : ck_ fX5 (some .boolean) cX5_isOfKind 30 [.iconst 1, .goto 35] 34 = true := qck_r (nn_ _) (by decide +kernel)
theorem bs_X5_isOfKind_30 {P : Zt → Option Zv → Prop} (K : Int → Zl → List Zv → Zt → Prop) : sx_ K P [.iconst 1, .goto 35] 34 = x_iconst 1 (x_goto 35 K) := ((xe_iconst 1).trans (congrArg (x_iconst 1) (xe_goto 35)))
theorem bk_X5_isOfKind_35 : ck_ fX5 (some .boolean) cX5_isOfKind 35 [.ireturn] 36 = true := qck_r (nn_ _) (by decide +kernel)
theorem bs_X5_isOfKind_35 {P : Zt → Option Zv → Prop} (K : Int → Zl → List Zv → Zt → Prop) : sx_ K P [.ireturn] 36 = x_ireturn P := (xe_ireturn)
set_option maxRecDepth 100000 in
theorem cl_X5_59 : cv_ RX5 59 yX5_fail zX5_fail 5 1 := ⟨gi_V (lwq_2 (dqc_m (dqc_m (dqc_m (dqc_m (dqc_m (dqc_m (dqc_m (List.mem_of_getElem? (i := 7) rfl)))))))) rfl : Cond.methodLink RX5 59 yX5_fail ∈ lw_g) (lwq_2 (dqc_m (dqc_m (dqc_m (dqc_m (dqc_m (dqc_m (dqc_m (dqa_m (List.mem_of_getElem? (i := 1) rfl))))))))) rfl : Cond.instanceMethod yX5_fail ∈ lw_g) (lw_sel 108 rfl : Cond.selects yX5_fail.cls yX5_fail yX5_fail ∈ lw_g) (lwq_1 (List.mem_of_getElem? (i := 2) rfl) rfl : Cond.initialized yX5_fail.cls ∈ lw_g) (lwq_2 (dqc_m (dqc_m (dqc_m (dqc_m (dqc_m (dqc_m (dqc_m (dqa_m (List.mem_of_getElem? (i := 2) rfl))))))))) rfl : Cond.code yX5_fail cX5_fail 2 (some .boolean) ∈ lw_g), ⟨nmh_5.1, nmh_5.2, pdq_7⟩, ⟨_, _, rfl⟩⟩
theorem bk_X5_isOfKind_27 : ck_ fX5 (some .boolean) cX5_isOfKind 27 [.ifCond .eq 34, .iconst 1, .goto 35] 34 = true := qck_r (nn_ _) (by decide +kernel)
theorem bs_X5_isOfKind_27 {P : Zt → Option Zv → Prop} (K : Int → Zl → List Zv → Zt → Prop) : sx_ K P [.ifCond .eq 34, .iconst 1, .goto 35] 34 = x_ifCond .eq 34 K (x_iconst 1 (x_goto 35 K)) := ((xe_ifCond .eq 34).trans (congrArg (x_ifCond .eq 34 K) ((xe_iconst 1).trans (congrArg (x_iconst 1) (xe_goto 35)))))
theorem bk_X5_isOfKind_34 : ck_ fX5 (some .boolean) cX5_isOfKind 34 [.iconst 0, .ireturn] 36 = true := qck_r (nn_ _) (by decide +kernel)
theorem bs_X5_isOfKind_34 {P : Zt → Option Zv → Prop} (K : Int → Zl → List Zv → Zt → Prop) : sx_ K P [.iconst 0, .ireturn] 36 = x_iconst 0 (x_ireturn P) := ((xe_iconst 0).trans (congrArg (x_iconst 0) (xe_ireturn)))
theorem bk_X5_isOfKind_13 : ck_ fX5 (some .boolean) cX5_isOfKind 13 [.ireturn] 14 = true := qck_r (nn_ _) (by decide +kernel)
theorem bs_X5_isOfKind_13 {P : Zt → Option Zv → Prop} (K : Int → Zl → List Zv → Zt → Prop) : sx_ K P [.ireturn] 14 = x_ireturn P := (xe_ireturn)
abbrev cX5_wordOf : ByteArray := prog_7_method_10_code
def yX5_wordOf : MethodName := ⟨RX5, "wordOf", "(Ljava/lang/String;)I"⟩
def zX5_wordOf : Zm := (RX5, cX5_wordOf, 6, (some .int), { frames := 4, cells := 0, slots := 0, locals := 85 })
theorem bk_X5_wordOf_17 : ck_ fX5 (some .int) cX5_wordOf 17 [.iload 4, .aload 1] 20 = true := qck_r (nn_ _) (by decide +kernel)
theorem bs_X5_wordOf_17 {P : Zt → Option Zv → Prop} (K : Int → Zl → List Zv → Zt → Prop) : sx_ K P [.iload 4, .aload 1] 20 = x_iload 4 (x_aload 1 (K 20)) := ((xe_iload 4).trans (congrArg (x_iload 4) ((xe_aload 1).trans (congrArg (x_aload 1) xe_nil))))
set_option maxRecDepth 100000 in
theorem ck82_X5_92 : ck82_ RX5 92 yJ0_length_8abf5 zJ0_length_8abf5 0 := ⟨gi_V (lwq_2 (dqc_m (dqc_m (dqc_m (dqc_m (dqc_m (dqc_m (dqc_m (dqa_m (List.mem_of_getElem? (i := 3) rfl))))))))) rfl : Cond.methodLink RX5 92 yJ0_length_8abf5 ∈ lw_g) (lwq_2 (dqc_m (dqc_m (dqc_m (dqc_m (dqc_m (dqc_m (dqc_m (dqa_m (List.mem_of_getElem? (i := 4) rfl))))))))) rfl : Cond.instanceMethod yJ0_length_8abf5 ∈ lw_g) (lwq_2 (dqc_m (dqc_m (dqc_m (dqc_m (dqc_m (dqc_m (dqc_m (dqa_m (List.mem_of_getElem? (i := 5) rfl))))))))) rfl : Cond.selects yJ0_length_8abf5.cls yJ0_length_8abf5 yJ0_length_8abf5 ∈ lw_g) (lwq_1 (dqa_m (List.mem_of_getElem? (i := 3) rfl)) rfl : Cond.initialized yJ0_length_8abf5.cls ∈ lw_g) (lwq_2 (dqc_m (dqc_m (dqc_m (dqc_m (dqc_m (dqc_m (dqc_m (dqa_m (List.mem_of_getElem? (i := 6) rfl))))))))) rfl : Cond.code yJ0_length_8abf5 cJ0_length_8abf5 1 (some .int) ∈ lw_g), ⟨by decide, by decide, by decide +kernel⟩, rfl⟩
theorem bk_X5_wordOf_23 : ck_ fX5 (some .int) cX5_wordOf 23 [.if_icmp .ge 111, .aload 1, .iload 4] 29 = true := qck_r (nn_ _) (by decide +kernel)
theorem bs_X5_wordOf_23 {P : Zt → Option Zv → Prop} (K : Int → Zl → List Zv → Zt → Prop) : sx_ K P [.if_icmp .ge 111, .aload 1, .iload 4] 29 = x_if_icmp .ge 111 K (x_aload 1 (x_iload 4 (K 29))) := ((xe_if_icmp .ge 111).trans (congrArg (x_if_icmp .ge 111 K) ((xe_aload 1).trans (congrArg (x_aload 1) ((xe_iload 4).trans (congrArg (x_iload 4) xe_nil))))))
theorem bk_X5_wordOf_111 : ck_ fX5 (some .int) cX5_wordOf 111 [.aload 0, .iconst 3] 113 = true := qck_r (nn_ _) (by decide +kernel)
theorem bs_X5_wordOf_111 {P : Zt → Option Zv → Prop} (K : Int → Zl → List Zv → Zt → Prop) : sx_ K P [.aload 0, .iconst 3] 113 = x_aload 0 (x_iconst 3 (K 113)) := ((xe_aload 0).trans (congrArg (x_aload 0) ((xe_iconst 3).trans (congrArg (x_iconst 3) xe_nil))))
theorem bk_X5_wordOf_116 : ck_ fX5 (some .int) cX5_wordOf 116 [.pop, .iconst (-1), .ireturn] 119 = true := qck_r (nn_ _) (by decide +kernel)
theorem bs_X5_wordOf_116 {P : Zt → Option Zv → Prop} (K : Int → Zl → List Zv → Zt → Prop) : sx_ K P [.pop, .iconst (-1), .ireturn] 119 = x_pop (x_iconst (-1) (x_ireturn P)) := ((xe_pop).trans (congrArg (x_pop) ((xe_iconst (-1)).trans (congrArg (x_iconst (-1)) (xe_ireturn)))))
set_option maxRecDepth 100000 in
theorem ck82_X5_98 : ck82_ RX5 98 yJ0_charAt_5068e zJ0_charAt_5068e 1 := ⟨gi_V (lwq_3 (List.mem_of_getElem? (i := 5) rfl) rfl : Cond.methodLink RX5 98 yJ0_charAt_5068e ∈ lw_g) (lwq_3 (List.mem_of_getElem? (i := 6) rfl) rfl : Cond.instanceMethod yJ0_charAt_5068e ∈ lw_g) (lwq_3 (List.mem_of_getElem? (i := 7) rfl) rfl : Cond.selects yJ0_charAt_5068e.cls yJ0_charAt_5068e yJ0_charAt_5068e ∈ lw_g) (lwq_1 (dqa_m (List.mem_of_getElem? (i := 3) rfl)) rfl : Cond.initialized yJ0_charAt_5068e.cls ∈ lw_g) (lwq_3 (dqa_m (List.mem_of_getElem? (i := 0) rfl)) rfl : Cond.code yJ0_charAt_5068e cJ0_charAt_5068e 2 (some .char) ∈ lw_g), ⟨by decide, by decide, by decide +kernel⟩, rfl⟩
theorem bk_X5_wordOf_32 : ck_ fX5 (some .int) cX5_wordOf 32 [.istore 5, .iload 5, .iconst 59, .if_icmp .ne 64, .iload 3, .aload 0, .tableswitch 0 5 9 #[], .aload 0, .tableswitch 0 5 8 #[], .isub, .if_icmp .ne 56, .iload 2, .ireturn] 56 = true := qck_r (nn_ _) (by decide +kernel)
theorem bs_X5_wordOf_32 {P : Zt → Option Zv → Prop} (K : Int → Zl → List Zv → Zt → Prop) : sx_ K P [.istore 5, .iload 5, .iconst 59, .if_icmp .ne 64, .iload 3, .aload 0, .tableswitch 0 5 9 #[], .aload 0, .tableswitch 0 5 8 #[], .isub, .if_icmp .ne 56, .iload 2, .ireturn] 56 = x_istore 5 (x_iload 5 (x_iconst 59 (x_if_icmp .ne 64 K (x_iload 3 (x_aload 0 (x_g0 105 9 0 400 (x_aload 0 (x_g0 105 8 0 400 (x_isub (x_if_icmp .ne 56 K (x_iload 2 (x_ireturn P)))))))))))) := ((xe_istore 5).trans (congrArg (x_istore 5) ((xe_iload 5).trans (congrArg (x_iload 5) ((xe_iconst 59).trans (congrArg (x_iconst 59) ((xe_if_icmp .ne 64).trans (congrArg (x_if_icmp .ne 64 K) ((xe_iload 3).trans (congrArg (x_iload 3) ((xe_aload 0).trans (congrArg (x_aload 0) ((xe_g0 (kk := 105) rfl tl_5_9).trans (congrArg (x_g0 105 9 0 400) ((xe_aload 0).trans (congrArg (x_aload 0) ((xe_g0 (kk := 105) rfl tl_5_8).trans (congrArg (x_g0 105 8 0 400) ((xe_isub).trans (congrArg (x_isub) ((xe_if_icmp .ne 56).trans (congrArg (x_if_icmp .ne 56 K) ((xe_iload 2).trans (congrArg (x_iload 2) (xe_ireturn)))))))))))))))))))))))))
theorem bk_X5_wordOf_64 : ck_ fX5 (some .int) cX5_wordOf 64 [.iload 3, .ifCond .lt 103, .aload 0, .tableswitch 0 5 8 #[], .iload 3, .iadd, .aload 0, .tableswitch 0 5 9 #[], .if_icmp .ge 103, .aload 0, .tableswitch 0 5 0 #[], .aload 0, .tableswitch 0 5 8 #[], .iload 3, .iadd, .iaload, .iload 5, .if_icmp .ne 103, .iinc 3 1, .goto 105] 103 = true := qck_r (nn_ _) (by decide +kernel)
theorem bs_X5_wordOf_64 {P : Zt → Option Zv → Prop} (K : Int → Zl → List Zv → Zt → Prop) : sx_ K P [.iload 3, .ifCond .lt 103, .aload 0, .tableswitch 0 5 8 #[], .iload 3, .iadd, .aload 0, .tableswitch 0 5 9 #[], .if_icmp .ge 103, .aload 0, .tableswitch 0 5 0 #[], .aload 0, .tableswitch 0 5 8 #[], .iload 3, .iadd, .iaload, .iload 5, .if_icmp .ne 103, .iinc 3 1, .goto 105] 103 = x_iload 3 (x_ifCond .lt 103 K (x_aload 0 (x_g0 105 8 0 400 (x_iload 3 (x_iadd (x_aload 0 (x_g0 105 9 0 400 (x_if_icmp .ge 103 K (x_aload 0 (x_g1 105 500 (x_aload 0 (x_g0 105 8 0 400 (x_iload 3 (x_iadd (x_iaload (x_iload 5 (x_if_icmp .ne 103 K (x_iinc 3 1 (x_goto 105 K))))))))))))))))))) := ((xe_iload 3).trans (congrArg (x_iload 3) ((xe_ifCond .lt 103).trans (congrArg (x_ifCond .lt 103 K) ((xe_aload 0).trans (congrArg (x_aload 0) ((xe_g0 (kk := 105) rfl tl_5_8).trans (congrArg (x_g0 105 8 0 400) ((xe_iload 3).trans (congrArg (x_iload 3) ((xe_iadd).trans (congrArg (x_iadd) ((xe_aload 0).trans (congrArg (x_aload 0) ((xe_g0 (kk := 105) rfl tl_5_9).trans (congrArg (x_g0 105 9 0 400) ((xe_if_icmp .ge 103).trans (congrArg (x_if_icmp .ge 103 K) ((xe_aload 0).trans (congrArg (x_aload 0) ((xe_g1 (kk := 105) rfl tl_5_0).trans (congrArg (x_g1 105 500) ((xe_aload 0).trans (congrArg (x_aload 0) ((xe_g0 (kk := 105) rfl tl_5_8).trans (congrArg (x_g0 105 8 0 400) ((xe_iload 3).trans (congrArg (x_iload 3) ((xe_iadd).trans (congrArg (x_iadd) ((xe_iaload).trans (congrArg (x_iaload) ((xe_iload 5).trans (congrArg (x_iload 5) ((xe_if_icmp .ne 103).trans (congrArg (x_if_icmp .ne 103 K) ((xe_iinc 3 1).trans (congrArg (x_iinc 3 1) (xe_goto 105)))))))))))))))))))))))))))))))))))))))
theorem bk_X5_wordOf_103 : ck_ fX5 (some .int) cX5_wordOf 103 [.iconst (-1), .istore 3, .iinc 4 1, .goto 17] 111 = true := qck_r (nn_ _) (by decide +kernel)
theorem bs_X5_wordOf_103 {P : Zt → Option Zv → Prop} (K : Int → Zl → List Zv → Zt → Prop) : sx_ K P [.iconst (-1), .istore 3, .iinc 4 1, .goto 17] 111 = x_iconst (-1) (x_istore 3 (x_iinc 4 1 (x_goto 17 K))) := ((xe_iconst (-1)).trans (congrArg (x_iconst (-1)) ((xe_istore 3).trans (congrArg (x_istore 3) ((xe_iinc 4 1).trans (congrArg (x_iinc 4 1) (xe_goto 17)))))))
theorem bk_X5_wordOf_105 : ck_ fX5 (some .int) cX5_wordOf 105 [.iinc 4 1, .goto 17] 111 = true := qck_r (nn_ _) (by decide +kernel)
theorem bs_X5_wordOf_105 {P : Zt → Option Zv → Prop} (K : Int → Zl → List Zv → Zt → Prop) : sx_ K P [.iinc 4 1, .goto 17] 111 = x_iinc 4 1 (x_goto 17 K) := ((xe_iinc 4 1).trans (congrArg (x_iinc 4 1) (xe_goto 17)))
theorem bk_X5_wordOf_56 : ck_ fX5 (some .int) cX5_wordOf 56 [.iinc 2 1, .iconst 0, .istore 3, .goto 105] 64 = true := qck_r (nn_ _) (by decide +kernel)
theorem bs_X5_wordOf_56 {P : Zt → Option Zv → Prop} (K : Int → Zl → List Zv → Zt → Prop) : sx_ K P [.iinc 2 1, .iconst 0, .istore 3, .goto 105] 64 = x_iinc 2 1 (x_iconst 0 (x_istore 3 (x_goto 105 K))) := ((xe_iinc 2 1).trans (congrArg (x_iinc 2 1) ((xe_iconst 0).trans (congrArg (x_iconst 0) ((xe_istore 3).trans (congrArg (x_istore 3) (xe_goto 105)))))))
theorem bk_X5_wordOf_0 : ck_ fX5 (some .int) cX5_wordOf 0 [.aload 0, .iconst 1] 2 = true := qck_r (nn_ _) (by decide +kernel)
theorem bs_X5_wordOf_0 {P : Zt → Option Zv → Prop} (K : Int → Zl → List Zv → Zt → Prop) : sx_ K P [.aload 0, .iconst 1] 2 = x_aload 0 (x_iconst 1 (K 2)) := ((xe_aload 0).trans (congrArg (x_aload 0) ((xe_iconst 1).trans (congrArg (x_iconst 1) xe_nil))))
set_option maxRecDepth 100000 in
theorem cl_X5_79 : cv_ RX5 79 yX5_isOfKind zX5_isOfKind 5 1 := ⟨gi_V (lwq_2 (dqc_m (dqc_m (dqc_m (dqc_m (dqc_m (dqc_m (dqc_m (List.mem_of_getElem? (i := 3) rfl)))))))) rfl : Cond.methodLink RX5 79 yX5_isOfKind ∈ lw_g) (lwq_2 (dqc_m (dqc_m (dqc_m (dqc_m (dqc_m (dqc_m (dqc_m (List.mem_of_getElem? (i := 5) rfl)))))))) rfl : Cond.instanceMethod yX5_isOfKind ∈ lw_g) (lw_sel 110 rfl : Cond.selects yX5_isOfKind.cls yX5_isOfKind yX5_isOfKind ∈ lw_g) (lwq_1 (List.mem_of_getElem? (i := 2) rfl) rfl : Cond.initialized yX5_isOfKind.cls ∈ lw_g) (lwq_2 (dqc_m (dqc_m (dqc_m (dqc_m (dqc_m (dqc_m (dqc_m (List.mem_of_getElem? (i := 6) rfl)))))))) rfl : Cond.code yX5_isOfKind cX5_isOfKind 2 (some .boolean) ∈ lw_g), ⟨nmh_5.1, nmh_5.2, pdq_7⟩, ⟨_, _, rfl⟩⟩
theorem bk_X5_wordOf_5 : ck_ fX5 (some .int) cX5_wordOf 5 [.ifCond .ne 10, .iconst (-1), .ireturn] 10 = true := qck_r (nn_ _) (by decide +kernel)
theorem bs_X5_wordOf_5 {P : Zt → Option Zv → Prop} (K : Int → Zl → List Zv → Zt → Prop) : sx_ K P [.ifCond .ne 10, .iconst (-1), .ireturn] 10 = x_ifCond .ne 10 K (x_iconst (-1) (x_ireturn P)) := ((xe_ifCond .ne 10).trans (congrArg (x_ifCond .ne 10 K) ((xe_iconst (-1)).trans (congrArg (x_iconst (-1)) (xe_ireturn)))))
theorem bk_X5_wordOf_10 : ck_ fX5 (some .int) cX5_wordOf 10 [.iconst 0, .istore 2, .iconst 0, .istore 3, .iconst 0, .istore 4] 17 = true := qck_r (nn_ _) (by decide +kernel)
theorem bs_X5_wordOf_10 {P : Zt → Option Zv → Prop} (K : Int → Zl → List Zv → Zt → Prop) : sx_ K P [.iconst 0, .istore 2, .iconst 0, .istore 3, .iconst 0, .istore 4] 17 = x_iconst 0 (x_istore 2 (x_iconst 0 (x_istore 3 (x_iconst 0 (x_istore 4 (K 17)))))) := ((xe_iconst 0).trans (congrArg (x_iconst 0) ((xe_istore 2).trans (congrArg (x_istore 2) ((xe_iconst 0).trans (congrArg (x_iconst 0) ((xe_istore 3).trans (congrArg (x_istore 3) ((xe_iconst 0).trans (congrArg (x_iconst 0) ((xe_istore 4).trans (congrArg (x_istore 4) xe_nil))))))))))))
/-- the values that were told are within their bounds -/
def VB8_ (T : Zt) : Prop := ∀ k : Int, 0 ≤ k → k < 16 → (sa_ 1).getD k.toNat 0 ≤ T 504 0 k ∧ T 504 0 k ≤ (sa_ 2).getD k.toNat 0
def VC8_ (T : Zt) : Prop := VB8_ T ∧ T 504 0 2 ≤ T 504 0 1
abbrev cX5_readRule : ByteArray := prog_7_method_6_code
def yX5_readRule : MethodName := ⟨RX5, "readRule", "(II)Z"⟩
def zX5_readRule : Zm := (RX5, cX5_readRule, 5, (some .boolean), { frames := 3, cells := 0, slots := 0, locals := 68 })
set_option maxRecDepth 100000 in
theorem cl_X5_43 : cv_ RX5 43 yX5_nextToken zX5_nextToken 5 0 := ⟨gi_V (lwq_2 (dqc_m (dqc_m (dqc_m (dqc_m (dqc_m (dqc_m (dqa_m (List.mem_of_getElem? (i := 6) rfl)))))))) rfl : Cond.methodLink RX5 43 yX5_nextToken ∈ lw_g) (lwq_2 (dqc_m (dqc_m (dqc_m (dqc_m (dqc_m (dqc_m (dqa_m (dqa_m (List.mem_of_getElem? (i := 0) rfl))))))))) rfl : Cond.instanceMethod yX5_nextToken ∈ lw_g) (lw_sel 111 rfl : Cond.selects yX5_nextToken.cls yX5_nextToken yX5_nextToken ∈ lw_g) (lwq_1 (List.mem_of_getElem? (i := 2) rfl) rfl : Cond.initialized yX5_nextToken.cls ∈ lw_g) (lwq_2 (dqc_m (dqc_m (dqc_m (dqc_m (dqc_m (dqc_m (dqa_m (dqa_m (List.mem_of_getElem? (i := 1) rfl))))))))) rfl : Cond.code yX5_nextToken cX5_nextToken 2 none ∈ lw_g), ⟨nmh_5.1, nmh_5.2, pdq_1⟩, ⟨_, _, rfl⟩⟩
abbrev cX5_readPoints : ByteArray := prog_7_method_5_code
def yX5_readPoints : MethodName := ⟨RX5, "readPoints", "()Z"⟩
def zX5_readPoints : Zm := (RX5, cX5_readPoints, 1, (some .boolean), { frames := 4, cells := 0, slots := 0, locals := 92 })
set_option maxRecDepth 100000 in
theorem cl_X5_75 : cv_ RX5 75 yX5_readRule zX5_readRule 5 2 := ⟨gi_V (lwq_3 (dqc_m (dqa_m (dqa_m (List.mem_of_getElem? (i := 6) rfl)))) rfl : Cond.methodLink RX5 75 yX5_readRule ∈ lw_g) (lwq_3 (dqc_m (dqa_m (dqa_m (dqa_m (List.mem_of_getElem? (i := 0) rfl))))) rfl : Cond.instanceMethod yX5_readRule ∈ lw_g) (lw_sel 114 rfl : Cond.selects yX5_readRule.cls yX5_readRule yX5_readRule ∈ lw_g) (lwq_1 (List.mem_of_getElem? (i := 2) rfl) rfl : Cond.initialized yX5_readRule.cls ∈ lw_g) (lwq_3 (dqc_m (dqa_m (dqa_m (dqa_m (List.mem_of_getElem? (i := 1) rfl))))) rfl : Cond.code yX5_readRule cX5_readRule 5 (some .boolean) ∈ lw_g), ⟨nmh_5.1, nmh_5.2, pdq_5⟩, ⟨_, _, rfl⟩⟩
abbrev cX5_readSport : ByteArray := prog_7_method_4_code
def yX5_readSport : MethodName := ⟨RX5, "readSport", "()Z"⟩
def zX5_readSport : Zm := (RX5, cX5_readSport, 2, (some .boolean), { frames := 5, cells := 0, slots := 0, locals := 110 })
set_option maxRecDepth 100000 in
theorem cl_X5_55 : cv_ RX5 55 yX5_wordOf zX5_wordOf 5 1 := ⟨gi_V (lwq_2 (dqc_m (dqc_m (dqc_m (dqc_m (dqc_m (dqc_m (dqa_m (dqa_m (dqa_m (List.mem_of_getElem? (i := 7) rfl)))))))))) rfl : Cond.methodLink RX5 55 yX5_wordOf ∈ lw_g) (lwq_2 (dqc_m (dqc_m (dqc_m (dqc_m (dqc_m (dqc_m (dqc_m (List.mem_of_getElem? (i := 1) rfl)))))))) rfl : Cond.instanceMethod yX5_wordOf ∈ lw_g) (lw_sel 118 rfl : Cond.selects yX5_wordOf.cls yX5_wordOf yX5_wordOf ∈ lw_g) (lwq_1 (List.mem_of_getElem? (i := 2) rfl) rfl : Cond.initialized yX5_wordOf.cls ∈ lw_g) (lwq_2 (dqc_m (dqc_m (dqc_m (dqc_m (dqc_m (dqc_m (dqc_m (List.mem_of_getElem? (i := 2) rfl)))))))) rfl : Cond.code yX5_wordOf cX5_wordOf 6 (some .int) ∈ lw_g), ⟨nmh_5.1, nmh_5.2, pdq_38⟩, ⟨_, _, rfl⟩⟩
abbrev cX5_readOrder : ByteArray := prog_7_method_7_code
def yX5_readOrder : MethodName := ⟨RX5, "readOrder", "()Z"⟩
def zX5_readOrder : Zm := (RX5, cX5_readOrder, 4, (some .boolean), { frames := 5, cells := 0, slots := 0, locals := 110 })
abbrev cX5_readStatement : ByteArray := prog_7_method_3_code
def yX5_readStatement : MethodName := ⟨RX5, "readStatement", "()Z"⟩
def zX5_readStatement : Zm := (RX5, cX5_readStatement, 3, (some .boolean), { frames := 6, cells := 0, slots := 0, locals := 133 })
theorem ds_X5_readStatement_44 : decode cX5_readStatement 44 = .ok (.tableswitch 65 0 3 #[32, 40, 48, 53], 32) := by decide +kernel
set_option maxRecDepth 100000 in
theorem cl_X5_63 : cv_ RX5 63 yX5_readSport zX5_readSport 5 0 := ⟨gi_V (lwq_3 (dqc_m (dqa_m (List.mem_of_getElem? (i := 3) rfl))) rfl : Cond.methodLink RX5 63 yX5_readSport ∈ lw_g) (lwq_3 (dqc_m (dqa_m (List.mem_of_getElem? (i := 5) rfl))) rfl : Cond.instanceMethod yX5_readSport ∈ lw_g) (lw_sel 115 rfl : Cond.selects yX5_readSport.cls yX5_readSport yX5_readSport ∈ lw_g) (lwq_1 (List.mem_of_getElem? (i := 2) rfl) rfl : Cond.initialized yX5_readSport.cls ∈ lw_g) (lwq_3 (dqc_m (dqa_m (List.mem_of_getElem? (i := 6) rfl))) rfl : Cond.code yX5_readSport cX5_readSport 2 (some .boolean) ∈ lw_g), ⟨nmh_5.1, nmh_5.2, pdq_18⟩, ⟨_, _, rfl⟩⟩
set_option maxRecDepth 100000 in
theorem cl_X5_66 : cv_ RX5 66 yX5_readPoints zX5_readPoints 5 0 := ⟨gi_V (lwq_3 (dqc_m (dqa_m (dqa_m (List.mem_of_getElem? (i := 0) rfl)))) rfl : Cond.methodLink RX5 66 yX5_readPoints ∈ lw_g) (lwq_3 (dqc_m (dqa_m (dqa_m (List.mem_of_getElem? (i := 2) rfl)))) rfl : Cond.instanceMethod yX5_readPoints ∈ lw_g) (lw_sel 113 rfl : Cond.selects yX5_readPoints.cls yX5_readPoints yX5_readPoints ∈ lw_g) (lwq_1 (List.mem_of_getElem? (i := 2) rfl) rfl : Cond.initialized yX5_readPoints.cls ∈ lw_g) (lwq_3 (dqc_m (dqa_m (dqa_m (List.mem_of_getElem? (i := 3) rfl)))) rfl : Cond.code yX5_readPoints cX5_readPoints 1 (some .boolean) ∈ lw_g), ⟨nmh_5.1, nmh_5.2, pdq_18⟩, ⟨_, _, rfl⟩⟩
set_option maxRecDepth 100000 in
theorem cl_X5_69 : cv_ RX5 69 yX5_readOrder zX5_readOrder 5 0 := ⟨gi_V (lwq_3 (dqc_m (dqa_m (dqa_m (dqa_m (List.mem_of_getElem? (i := 4) rfl))))) rfl : Cond.methodLink RX5 69 yX5_readOrder ∈ lw_g) (lwq_3 (dqc_m (dqa_m (dqa_m (dqa_m (List.mem_of_getElem? (i := 6) rfl))))) rfl : Cond.instanceMethod yX5_readOrder ∈ lw_g) (lw_sel 112 rfl : Cond.selects yX5_readOrder.cls yX5_readOrder yX5_readOrder ∈ lw_g) (lwq_1 (List.mem_of_getElem? (i := 2) rfl) rfl : Cond.initialized yX5_readOrder.cls ∈ lw_g) (lwq_3 (dqc_m (dqa_m (dqa_m (dqa_m (List.mem_of_getElem? (i := 7) rfl))))) rfl : Cond.code yX5_readOrder cX5_readOrder 4 (some .boolean) ∈ lw_g), ⟨nmh_5.1, nmh_5.2, pdq_18⟩, ⟨_, _, rfl⟩⟩
abbrev po_J7_fill_505 (T : Zt) (p : Int) (v : Int) : Zt → Option Zv → Prop := fun T' r => r = none ∧ fr_ [(505, [])] T T' ∧ oi_ T T' p ∧ ∀ j, 0 ≤ j → j < 7 → T' 505 p j = v
set_option maxHeartbeats 4000000 in
theorem ct_J7_fill_505 {T : Zt} {p : Int} {v : Int} (h1 : (-1) ≤ v ∧ v ≤ 6) : Ct_ yJ7_fill_53178 zJ7_fill_53178 T [vR 505 p, vI v] (po_J7_fill_505 T p v) := by
  refine ct_of (by decide) rfl rfl (Nat.le_of_ble_eq_true rfl) (fun hT hav => ?_)
  have hr_v : -2147483648 ≤ v ∧ v ≤ 2147483647 := hav (vI v) (List.mem_cons_of_mem _ List.mem_cons_self)
  have hz : zJ7_fill_53178.2.2.2.1 = some .boolean → ∀ (T' : Zt) (x : Int), po_J7_fill_505 T p v T' (some (vI x)) → 0 ≤ x ∧ x ≤ 1 := fun h => by cases h
  show J_ zJ7_fill_53178 T (po_J7_fill_505 T p v) 0 0 0 [some (vR 505 p), some (vI v), none, none] [] T
  have c_5 : ∀ (nn : Nat) (j : Int) (T1 : Zt), ((7 - j).toNat) ≤ nn → (fr_ [(505, [])] T T1) → (0 ≤ j ∧ j ≤ 7) → (oi_ T T1 p) → (∀ q, 0 ≤ q → q < j → T1 505 p q = v) → J_ zJ7_fill_53178 T (po_J7_fill_505 T p v) 0 0 5 [some (vR 505 p), some (vI v), some (vI j), some (vI 7)] [] T1 := by
    intro nn
    induction nn using Nat.strongRecOn with
    | _ nn ih_5 =>
      intro j T1 hm_5 hf_5 i1 o1 f1
      replace hm_5 := fun (_ : Unit) => hm_5
      refine j_blx (F := fJ7) tb_J7 (nn_ _) bk_J7_fill_53178_5 bs_J7_fill_53178_5 hz (fun K hK => ?_)
      refine And.intro (fun c1 => ?_) (fun c1 => ?_)
      · refine hK 20 _ [] T1 ?_
        refine j_blx (F := fJ7) tb_J7 (nn_ _) bk_J7_fill_53178_20 bs_J7_fill_53178_20 hz (fun K hK => ?_)
        refine (show po_J7_fill_505 T p v T1 (none) from ?_)
        exact ⟨rfl, fr_t (fr_0 _ _) (fr_s hf_5 rfl), o1, fun q a b => f1 q a (by omega)⟩
      · refine iy_i (by omega) (by omega) ?_
        refine x_nm (fun U2 hU2 => ?_)
        have e3 := up_f hU2
        refine rg_i (by omega) ?_
        refine hK 5 [some (vR 505 p), some (vI v), some (vI (j + 1)), some (vI 7)] [] U2 ?_
        refine ih_5 _ ?_ (j + 1) U2 (Nat.le_refl _) ?_ ?_ ?_ ?_
        · have hm_5 := hm_5 (); omega
        · exact fr_u (fr_t (fr_0 _ _) (fr_s hf_5 rfl)) hU2 rfl
        · omega
        · exact oi_u o1 hU2
        · intro q a b
          by_cases z : q = j
          · rw [z]; exact up_f hU2
          · rw [up_g hU2 (fun y => z y.2.2)]; exact f1 q a (by omega)
  refine j_blx (F := fJ7) tb_J7 (nn_ _) bk_J7_fill_53178_0 bs_J7_fill_53178_0 hz (fun K hK => ?_)
  refine hK 5 [some (vR 505 p), some (vI v), some (vI 0), some (vI 7)] [] T ?_
  refine c_5 _ 0 T (Nat.le_refl _) ?_ ?_ ?_ ?_
  · exact fr_0 _ _
  · omega
  · exact oi_r
  · intro q a b; omega
abbrev cX5_read : ByteArray := prog_7_method_2_code
def yX5_read : MethodName := ⟨RX5, "read", "()Z"⟩
def zX5_read : Zm := (RX5, cX5_read, 2, (some .boolean), { frames := 7, cells := 0, slots := 0, locals := 155 })
set_option maxRecDepth 100000 in
theorem cl_X5_49 : cv_ RX5 49 yX5_readStatement zX5_readStatement 5 0 := ⟨gi_V (lwq_2 (dqc_m (dqc_m (dqc_m (dqc_m (dqc_m (dqc_m (dqa_m (dqa_m (dqa_m (List.mem_of_getElem? (i := 2) rfl)))))))))) rfl : Cond.methodLink RX5 49 yX5_readStatement ∈ lw_g) (lwq_2 (dqc_m (dqc_m (dqc_m (dqc_m (dqc_m (dqc_m (dqa_m (dqa_m (dqa_m (List.mem_of_getElem? (i := 4) rfl)))))))))) rfl : Cond.instanceMethod yX5_readStatement ∈ lw_g) (lw_sel 116 rfl : Cond.selects yX5_readStatement.cls yX5_readStatement yX5_readStatement ∈ lw_g) (lwq_1 (List.mem_of_getElem? (i := 2) rfl) rfl : Cond.initialized yX5_readStatement.cls ∈ lw_g) (lwq_2 (dqc_m (dqc_m (dqc_m (dqc_m (dqc_m (dqc_m (dqa_m (dqa_m (dqa_m (List.mem_of_getElem? (i := 5) rfl)))))))))) rfl : Cond.code yX5_readStatement cX5_readStatement 3 (some .boolean) ∈ lw_g), ⟨nmh_5.1, nmh_5.2, pdq_18⟩, ⟨_, _, rfl⟩⟩
set_option maxRecDepth 100000 in
theorem cl_X5_37 : cs_ RX5 37 yJ7_fill_53178 zJ7_fill_53178 2 := ⟨gi_S (lwq_2 (dqc_m (dqc_m (dqc_m (dqc_m (dqc_m (dqc_m (dqa_m (List.mem_of_getElem? (i := 5) rfl)))))))) rfl : Cond.methodLink RX5 37 yJ7_fill_53178 ∈ lw_g) (lwq_2 (dqa_m (dqa_m (dqa_m (List.mem_of_getElem? (i := 2) rfl)))) rfl : Cond.static yJ7_fill_53178 ∈ lw_g) (lwq_1 (List.mem_of_getElem? (i := 7) rfl) rfl : Cond.initialized yJ7_fill_53178.cls ∈ lw_g) (lwq_2 (dqa_m (dqa_m (dqa_m (List.mem_of_getElem? (i := 3) rfl)))) rfl : Cond.code yJ7_fill_53178 cJ7_fill_53178 4 none ∈ lw_g), ⟨by decide, by decide, by decide +kernel⟩⟩
section JQ2
variable {Y Yc : Zm} {T0 T : Zt} {P : Zt → Option Zv → Prop} {bc bs bc' bs' : Nat} {pc : Int} {ls : Zl} {st rest : List Zv}
/-- a clone of an int row of the tables -/
theorem j_clone2 {idx k k0 : Nat} {lo hi lo0 hi0 i i0 n : Int} (hp : 0 ≤ pc) (ha0 : ta_ k0 = some (1, some n, lo0, hi0)) (ha : ta_ k = some (1, some n, lo, hi)) (hlo : lo ≤ lo0 ∧ hi0 ≤ hi) (hn : 0 ≤ n ∧ n ≤ 100000000) (hfr : ¬ al_ T k i) (how : ∀ o, ow_ k = some o → al_ T o i ∨ al_ T (o + 50) i) (hml : Cond.methodLink Y.1 idx ⟨"[I", "clone", "()Ljava/lang/Object;"⟩ ∈ lw_g) (hsm : Cond.sameMethod "[I" "java/lang/Object" "clone" "()Ljava/lang/Object;" ∈ lw_g) (hna : Cond.native ⟨"java/lang/Object", "clone", "()Ljava/lang/Object;"⟩ ∈ lw_g) (hin : Cond.instanceMethod ⟨"java/lang/Object", "clone", "()Ljava/lang/Object;"⟩ ∈ lw_g) (hse : Cond.selects "[I" ⟨"[I", "clone", "()Ljava/lang/Object;"⟩ ⟨"java/lang/Object", "clone", "()Ljava/lang/Object;"⟩ ∈ lw_g) (hf : 1 ≤ Y.2.2.2.2.frames) (hlo2 : 30 ≤ Y.2.2.2.2.locals) (hrest : st.length ≤ 8) (hb : bc' + 1 ≤ bc) (hbs : bs' + n.toNat ≤ bs) (hd : decode Y.2.1 pc.toNat = .ok (.invokevirtual idx, 3)) (kk : J_ Y T0 P bc' bs' (pc + 3) ls (vR k i :: st) (nu_ T k i n (T k0 i0))) : J_ Y T0 P bc bs pc ls (vR k0 i0 :: st) T := by
  intro l p e s m args below meth c D cA ad0 A X ad H locs cells slots lsC hc hs hR hS hB hT hL hl hln
  have hal : al_ T k0 i0 := ok_al (v := none) (by have := ta_ge ha0; omega) (ok_head hL)
  obtain ⟨ids, q0, hq, hids, hP, hD⟩ := rp_at hR hal
  have hw := wd_get (cA := cA) (ad := ad) (T := T) hq
  rw [ce_i ha0 (Or.inr rfl)] at hw
  have sm := en_sum (ad := ad) st
  have w := X.2.2.2.2.2.1
  have hk := ta_ge ha
  have hok : ok_T (nu_ T k i n (T k0 i0)) := ok_nu hT ⟨fun z => (by rw [z, ta_190] at ha; cases ha), fun z => (by rw [z, ta_191] at ha; cases ha)⟩ (by omega) ⟨hn.1, by omega⟩ (fun t m' lo' hi' h => by
    rw [ha] at h; cases h
    exact ⟨by omega, fun x hx => by have := hT.1 _ _ _ _ _ ha0 i0 x hx; omega⟩) (fun j c k' lo' hi' h => by rw [ta_tf ha] at h; simp at h) how
  have he : ∀ q : Nat, ce_ cA (aq_ ad k i q) (nu_ T k i n (T k0 i0)) k i = .inl (cA 0, n.toNat, .inl fun x => Int32.ofInt (T k0 i0 (x : Int))) := fun q => by
    rw [ce_i ha (Or.inr rfl)]
    have e1 : (fun x : Nat => Int32.ofInt (nu_ T k i n (T k0 i0) k i (x : Int))) = fun x : Nat => Int32.ofInt (T k0 i0 (x : Int)) := by
      funext x
      rw [nu_p (by omega)]
    rw [e1]
  refine va_clone (ad := "[I") (ty := .int) X.1 X.2.1 (X.2.2.1.trans hl.1.symm) X.2.2.2.2.2.2.1 (w _ hml) (w _ hsm) (w _ hna) (w _ hin) (w _ hse) X.2.2.2.2.2.2.2.2.1.2.2.1 X.2.2.2.2.2.2.2.1 hP hD hS X.2.2.2.2.2.2.2.2.2.1 q0 0 hw rfl (va_nm_int (X.2.2.2.2.2.2.2.1.2 0 (cA 0, .int) rfl).2) (va_fit (fun _ _ => rfl)) hf (by omega) (by omega) (by show slots + n.toNat ≤ _; omega) hd (fun q H1 _ hP1 hD1 hS1 => ?_)
  have k2 := j_nu (l := l) (e := e) (below := below) (pc' := pc + 3) X kk (cells := cells + 1) (slots := slots + n.toNat) (by omega) (by omega) (by omega) hfr (nu_a hfr) al_nu hok hids (he q) hP1 hD1 hS1 hB hT (ok_tail hL) hl hln
  rw [show (pc + 3).toNat = pc.toNat + 3 by omega] at k2
  exact k2
end JQ2
theorem nu_tc {T U : Zt} {k : Nat} {i n : Int} {f : Int → Int} (h : U = nu_ T k i n f) (j : Int) (hj : 0 ≤ j) : U k i j = f j := by rw [h, nu_p hj]

/-- a competition is new -/
def nc_ (T T' : Zt) : Prop := fr_ [(105, [7, 8, 9, 2, 3, 6, 1]), (504, []), (505, []), (106, [2]), (521, []), (150, []), (100, []), (401, []), (402, []), (403, []), (404, [])] T T' ∧ (T' 106 0 2 = T 106 0 2 + 1 ∧ T 106 0 2 < 4) ∧ (∀ (k : Nat) (i j : Int), k = 100 ∨ k = 150 ∨ k = 401 ∨ k = 403 ∨ k = 404 → i ≠ T 106 0 2 → T' k i j = T k i j) ∧ (∀ j, j ≠ T 106 0 2 → T' 521 0 j = T 521 0 j) ∧ T' 521 0 (T 106 0 2) = 1 ∧ (T' 100 (T 106 0 2) 5 = 0 ∧ T' 100 (T 106 0 2) 6 = 0 ∧ T' 100 (T 106 0 2) 7 = 0 ∧ T' 100 (T 106 0 2) 8 = 0) ∧ (∀ j, 0 ≤ j → j < 16 → (sa_ 1).getD j.toNat 0 ≤ T' 401 (T 106 0 2) j ∧ T' 401 (T 106 0 2) j ≤ (sa_ 2).getD j.toNat 0) ∧ T' 401 (T 106 0 2) 2 ≤ T' 401 (T 106 0 2) 1 ∧ NA_ T'
abbrev cX10_competition : ByteArray := prog_1_method_4_code
def yX10_competition : MethodName := ⟨RX10, "competition", "()I"⟩
def zX10_competition : Zm := (RX10, cX10_competition, 3, (some .int), { frames := 8, cells := 5, slots := 57, locals := 176 })
set_option maxRecDepth 100000 in
theorem cl_X10_80 : cv_ RX10 80 yX5_read zX5_read 5 0 := ⟨gi_V (lwq_2 (dqc_m (dqc_m (dqc_m (dqc_m (dqc_m (dqc_m (List.mem_of_getElem? (i := 7) rfl))))))) rfl : Cond.methodLink RX10 80 yX5_read ∈ lw_g) (lwq_2 (dqc_m (dqc_m (dqc_m (dqc_m (dqc_m (dqc_m (dqa_m (List.mem_of_getElem? (i := 0) rfl)))))))) rfl : Cond.instanceMethod yX5_read ∈ lw_g) (lwq_2 (dqc_m (dqc_m (dqc_m (dqc_m (dqc_m (dqc_m (dqa_m (List.mem_of_getElem? (i := 1) rfl)))))))) rfl : Cond.selects yX5_read.cls yX5_read yX5_read ∈ lw_g) (lwq_1 (List.mem_of_getElem? (i := 2) rfl) rfl : Cond.initialized yX5_read.cls ∈ lw_g) (lwq_2 (dqc_m (dqc_m (dqc_m (dqc_m (dqc_m (dqc_m (dqa_m (List.mem_of_getElem? (i := 2) rfl)))))))) rfl : Cond.code yX5_read cX5_read 2 (some .boolean) ∈ lw_g), ⟨nmh_5.1, nmh_5.2, pdq_18⟩, ⟨_, _, rfl⟩⟩
set_option maxRecDepth 100000 in
theorem ci_X10_104 : ci_ RX10 104 yX0_init zX0_init 3 := ⟨gi_c (lwq_3 (dqc_m (dqc_m (dqa_m (List.mem_of_getElem? (i := 4) rfl)))) rfl : Cond.code yX0_init cX0_init 4 none ∈ lw_g), (lwq_1 (dqa_m (List.mem_of_getElem? (i := 7) rfl)) rfl : Cond.initialized yX0_init.cls ∈ lw_g), (lwq_3 (dqc_m (dqc_m (dqa_m (List.mem_of_getElem? (i := 2) rfl)))) rfl : Cond.methodLink RX10 104 yX0_init ∈ lw_g), (lwq_3 (dqc_m (dqc_m (dqa_m (List.mem_of_getElem? (i := 3) rfl)))) rfl : Cond.instanceMethod yX0_init ∈ lw_g), rfl, rfl, ⟨by decide, by decide, by decide +kernel⟩⟩
abbrev po_X10_competition (T : Zt) : Zt → Option Zv → Prop := fun T' r => ∃ x : Int, r = some (vI x) ∧ (fr_ [(105, [7, 8, 9, 2, 3, 6, 1]), (504, []), (505, [])] T T' ∨ nc_ T T')
abbrev po_X10_enter_k (T : Zt) (c b : Int) : Zt → Option Zv → Prop := fun T' r => ∃ x : Int, r = some (vI x) ∧ fr_ [(404, []), (403, []), (100, [5])] T T' ∧ (KE_ T' ∧ ∀ d z, 0 ≤ T 404 d z → 0 ≤ T' 404 d z)
abbrev po_X10_walkOver_k (T : Zt) (m d : Int) : Zt → Option Zv → Prop := fun T' r => ∃ x : Int, r = some (vI x) ∧ fr_ [(102, [6])] T T' ∧ (∀ i, T' 102 i 6 = T 102 i 6 ∨ T' 102 i 6 ≠ -1)
/-- what holds of the house between the calls; N: how many there were -/
def IC_ (N : Int) (T : Zt) : Prop := (KA_ T ∧ KM_ T ∧ KC_ T ∧ KR_ T ∧ KS_ T ∧ KO_ T ∧ KE_ T ∧ KB_ T ∧ KP_ T ∧ KW_ T) ∧ DD_ T ∧ NA_ T ∧ LP_ N T ∧ (T 109 0 15 ≠ 0 → T 190 (T 109 0 15 - 1) (-2) = 4096 ∧ 1 ≤ T 109 0 15) ∧ 0 ≤ T 191 0 0 ∧ T 191 0 0 ≤ 1 + 600 * N
abbrev wt8_ (ws : List (Nat × List Int)) : Prop := ((∀ j, fw_ ws 521 j = false) ∧ (∀ j, fw_ ws 523 j = false) ∧ (∀ j, fw_ ws 401 j = false) ∧ (∀ j, fw_ ws 403 j = false) ∧ (∀ j, fw_ ws 404 j = false)) ∧ (fw_ ws 106 2 = false ∧ fw_ ws 106 4 = false) ∧ (fw_ ws 102 0 = false ∧ fw_ ws 102 1 = false ∧ fw_ ws 102 3 = false ∧ fw_ ws 102 4 = false) ∧ fw_ ws 100 5 = false ∧ fw_ ws 100 6 = false ∧ fw_ ws 100 7 = false ∧ fw_ ws 100 8 = false
theorem ic_t {ws : List (Nat × List Int)} {T T' : Zt} (h : KA_ T ∧ KM_ T ∧ KC_ T ∧ KR_ T ∧ KS_ T ∧ KO_ T ∧ KE_ T ∧ KB_ T ∧ KP_ T ∧ KW_ T) (f : fr_ ws T T') (w : wt8_ ws) : KA_ T' ∧ KM_ T' ∧ KC_ T' ∧ KR_ T' ∧ KS_ T' ∧ KO_ T' ∧ KE_ T' ∧ KB_ T' ∧ KP_ T' ∧ KW_ T' := by
  obtain ⟨k1, k2, k3, k4, k5, k6, k7, k8, k9, k10⟩ := h
  obtain ⟨⟨a1, a2, a3, a4, a5⟩, ⟨b1, b2⟩, ⟨c0, c1, c3, c4⟩, d5, d6, d7, d8⟩ := w
  exact ⟨KA__f k1 f ⟨a1, a2, b1, b2, trivial⟩, KM__f k2 f ⟨c1, c0, b2, b1, trivial⟩, KC__f k3 f ⟨d7, d8, b2, b1, trivial⟩, KR__f k4 f ⟨a3, b1, trivial⟩, KS__f k5 f ⟨a5, d7, d8, c0, c3, c4, b1, trivial⟩, KO__f k6 f ⟨a3, b1, trivial⟩, KE__f k7 f ⟨a4, a5, d5, b1, trivial⟩, KB__f k8 f ⟨a3, b1, trivial⟩, KP__f k9 f ⟨c0, d6, b2, trivial⟩, KW__f k10 f ⟨a3, b1, trivial⟩⟩
abbrev wn_ (ws : List (Nat × List Int)) : Prop := fw_ ws 150 (-1) = false ∧ fw_ ws 152 (-1) = false ∧ fw_ ws 153 (-1) = false ∧ fw_ ws 100 (-1) = false ∧ fw_ ws 102 (-1) = false ∧ fw_ ws 103 (-1) = false ∧ fw_ ws 102 10 = false ∧ fw_ ws 106 4 = false ∧ fw_ ws 106 2 = false
abbrev wl_ (ws : List (Nat × List Int)) : Prop := fw_ ws 106 4 = false ∧ fw_ ws 106 2 = false ∧ fw_ ws 102 10 = false ∧ fw_ ws 103 0 = false ∧ fw_ ws 103 3 = false ∧ fw_ ws 103 14 = false ∧ fw_ ws 103 15 = false ∧ fw_ ws 103 16 = false ∧ fw_ ws 103 17 = false ∧ fw_ ws 470 0 = false ∧ fw_ ws 470 1 = false
/-- a slack row that is there was counted -/
theorem sx_9 {T : Zt} (hT : ok_T T) (ha : al_ T 109 0) (h : T 109 0 15 ≠ 0) : T 109 0 15 - 1 < T 191 0 0 := by
  have h1 := hT.2.2.2.1 109 0 ha 15 5 190 (-2147483648) 2147483647 (by decide +kernel)
  have e : fv_ 5 190 (T 109 0 ((15 : Nat) : Int)) 0 = vR 190 (T 109 0 15 - 1) := by
    show (if T 109 0 15 = 0 then vN else vR 190 (T 109 0 15 - 1)) = _
    rw [if_neg h]
  rw [e] at h1
  have h2 : al_ T 190 (T 109 0 15 - 1) := ok_al (v := none) (by decide) h1
  by_cases z : T 191 0 0 ≤ T 109 0 15 - 1
  · exact absurd h2 (hT.2.2.2.2.2.2.2.2 _ z)
  · omega
theorem sk_l {T T' : Zt} (hT : ok_T T) (ha : al_ T 109 0) (h : T 109 0 15 ≠ 0 → T 190 (T 109 0 15 - 1) (-2) = 4096 ∧ 1 ≤ T 109 0 15) (l : lh_ T T') (e : T' 109 0 15 = T 109 0 15) : T' 109 0 15 ≠ 0 → T' 190 (T' 109 0 15 - 1) (-2) = 4096 ∧ 1 ≤ T' 109 0 15 := by
  rw [e]
  intro z
  rw [l.1 _ (sx_9 hT ha z)]
  exact h z
/-- a call that keeps away from all of it -/
theorem ic_f {N : Int} {ws : List (Nat × List Int)} {T T' : Zt} (h : IC_ N T) (f : fr_ ws T T') (w : wt8_ ws) (w2 : fw_ ws 102 5 = false ∧ fw_ ws 102 6 = false) (wn : wn_ ws) (wl : wl_ ws) (w9 : fw_ ws 109 15 = false ∧ fw_ ws 190 (-2) = false ∧ fw_ ws 191 0 = false) : IC_ (N + 1) T' := by
  obtain ⟨k, d, n, l, s, b1, b2⟩ := h
  have e9 := f 191 0 0 w9.2.2
  refine ⟨ic_t k f w, DD__f d f ⟨w.2.2.1.1, w.2.2.1.2.2.1, w2.1, w2.2, w.2.1.2, trivial⟩, NA_f n f wn, LP_f l (by omega) (lh_f lh_r f w9.2.1 w9.2.2) f wl, ?_, by omega, by omega⟩
  rw [f 109 0 15 w9.1, f 190 _ _ w9.2.1]
  exact s
theorem ic_e {N : Int} {T : Zt} (h : IC_ N T) : IC_ (N + 1) T := ic_f (ws := []) h (fr_0 _ _) ⟨⟨fun _ => rfl, fun _ => rfl, fun _ => rfl, fun _ => rfl, fun _ => rfl⟩, ⟨rfl, rfl⟩, ⟨rfl, rfl, rfl, rfl⟩, rfl, rfl, rfl, rfl⟩ ⟨rfl, rfl⟩ ⟨rfl, rfl, rfl, rfl, rfl, rfl, rfl, rfl, rfl⟩ ⟨rfl, rfl, rfl, rfl, rfl, rfl, rfl, rfl, rfl, rfl, rfl⟩ ⟨rfl, rfl, rfl⟩
theorem ic_person {N : Int} {T T' : Zt} {r : Option Zv} (h : IC_ N T) (q : po_X10_person T T' r) : IC_ (N + 1) T' := by
  obtain ⟨_, -, f, -⟩ := q
  exact ic_f h f ⟨⟨fun _ => rfl, fun _ => rfl, fun _ => rfl, fun _ => rfl, fun _ => rfl⟩, ⟨rfl, rfl⟩, ⟨rfl, rfl, rfl, rfl⟩, rfl, rfl, rfl, rfl⟩ ⟨rfl, rfl⟩ ⟨rfl, rfl, rfl, rfl, rfl, rfl, rfl, rfl, rfl⟩ ⟨rfl, rfl, rfl, rfl, rfl, rfl, rfl, rfl, rfl, rfl, rfl⟩ ⟨rfl, rfl, rfl⟩
theorem ic_club {N : Int} {T T' : Zt} {r : Option Zv} {s c : Int} (h : IC_ N T) (q : po_X10_club T s c T' r) : IC_ (N + 1) T' := by
  obtain ⟨_, -, f, -⟩ := q
  exact ic_f h f ⟨⟨fun _ => rfl, fun _ => rfl, fun _ => rfl, fun _ => rfl, fun _ => rfl⟩, ⟨rfl, rfl⟩, ⟨rfl, rfl, rfl, rfl⟩, rfl, rfl, rfl, rfl⟩ ⟨rfl, rfl⟩ ⟨rfl, rfl, rfl, rfl, rfl, rfl, rfl, rfl, rfl⟩ ⟨rfl, rfl, rfl, rfl, rfl, rfl, rfl, rfl, rfl, rfl, rfl⟩ ⟨rfl, rfl, rfl⟩
theorem ic_official {N : Int} {T T' : Zt} {r : Option Zv} {s c : Int} (h : IC_ N T) (q : po_X10_official T s c T' r) : IC_ (N + 1) T' := by
  obtain ⟨_, -, f, -⟩ := q
  exact ic_f h f ⟨⟨fun _ => rfl, fun _ => rfl, fun _ => rfl, fun _ => rfl, fun _ => rfl⟩, ⟨rfl, rfl⟩, ⟨rfl, rfl, rfl, rfl⟩, rfl, rfl, rfl, rfl⟩ ⟨rfl, rfl⟩ ⟨rfl, rfl, rfl, rfl, rfl, rfl, rfl, rfl, rfl⟩ ⟨rfl, rfl, rfl, rfl, rfl, rfl, rfl, rfl, rfl, rfl, rfl⟩ ⟨rfl, rfl, rfl⟩
theorem ic_day {N : Int} {T T' : Zt} {r : Option Zv} {d : Int} (h : IC_ N T) (q : po_X10_day T d T' r) : IC_ (N + 1) T' := by
  obtain ⟨_, -, f, -⟩ := q
  exact ic_f h f ⟨⟨fun _ => rfl, fun _ => rfl, fun _ => rfl, fun _ => rfl, fun _ => rfl⟩, ⟨rfl, rfl⟩, ⟨rfl, rfl, rfl, rfl⟩, rfl, rfl, rfl, rfl⟩ ⟨rfl, rfl⟩ ⟨rfl, rfl, rfl, rfl, rfl, rfl, rfl, rfl, rfl⟩ ⟨rfl, rfl, rfl, rfl, rfl, rfl, rfl, rfl, rfl, rfl, rfl⟩ ⟨rfl, rfl, rfl⟩
theorem ic_sign {N : Int} {T T' : Zt} {r : Option Zv} {c : Int} (h : IC_ N T) (q : po_X10_sign T c T' r) : IC_ (N + 1) T' := by
  obtain ⟨_, -, f, -⟩ := q
  exact ic_f h f ⟨⟨fun _ => rfl, fun _ => rfl, fun _ => rfl, fun _ => rfl, fun _ => rfl⟩, ⟨rfl, rfl⟩, ⟨rfl, rfl, rfl, rfl⟩, rfl, rfl, rfl, rfl⟩ ⟨rfl, rfl⟩ ⟨rfl, rfl, rfl, rfl, rfl, rfl, rfl, rfl, rfl⟩ ⟨rfl, rfl, rfl, rfl, rfl, rfl, rfl, rfl, rfl, rfl, rfl⟩ ⟨rfl, rfl, rfl⟩
theorem ic_wipe {N : Int} {T T' : Zt} {r : Option Zv} (h : IC_ N T) (q : po_X10_wipe T T' r) : IC_ (N + 1) T' := by
  obtain ⟨_, -, f, -⟩ := q
  exact ic_f h f ⟨⟨fun _ => rfl, fun _ => rfl, fun _ => rfl, fun _ => rfl, fun _ => rfl⟩, ⟨rfl, rfl⟩, ⟨rfl, rfl, rfl, rfl⟩, rfl, rfl, rfl, rfl⟩ ⟨rfl, rfl⟩ ⟨rfl, rfl, rfl, rfl, rfl, rfl, rfl, rfl, rfl⟩ ⟨rfl, rfl, rfl, rfl, rfl, rfl, rfl, rfl, rfl, rfl, rfl⟩ ⟨rfl, rfl, rfl⟩
theorem ic_register {N : Int} {T T' : Zt} {r : Option Zv} {p cl a b : Int} (h : IC_ N T) (q : po_X10_register T p cl a b T' r) : IC_ (N + 1) T' := by
  obtain ⟨_, -, f, -⟩ := q
  exact ic_f h f ⟨⟨fun _ => rfl, fun _ => rfl, fun _ => rfl, fun _ => rfl, fun _ => rfl⟩, ⟨rfl, rfl⟩, ⟨rfl, rfl, rfl, rfl⟩, rfl, rfl, rfl, rfl⟩ ⟨rfl, rfl⟩ ⟨rfl, rfl, rfl, rfl, rfl, rfl, rfl, rfl, rfl⟩ ⟨rfl, rfl, rfl, rfl, rfl, rfl, rfl, rfl, rfl, rfl, rfl⟩ ⟨rfl, rfl, rfl⟩
theorem ic_deduct {N : Int} {T T' : Zt} {r : Option Zv} {c cl p : Int} (h : IC_ N T) (q : po_X10_deduct T c cl p T' r) : IC_ (N + 1) T' := by
  obtain ⟨_, -, f, -⟩ := q
  exact ic_f h f ⟨⟨fun _ => rfl, fun _ => rfl, fun _ => rfl, fun _ => rfl, fun _ => rfl⟩, ⟨rfl, rfl⟩, ⟨rfl, rfl, rfl, rfl⟩, rfl, rfl, rfl, rfl⟩ ⟨rfl, rfl⟩ ⟨rfl, rfl, rfl, rfl, rfl, rfl, rfl, rfl, rfl⟩ ⟨rfl, rfl, rfl, rfl, rfl, rfl, rfl, rfl, rfl, rfl, rfl⟩ ⟨rfl, rfl, rfl⟩
theorem ic_eligible {N : Int} {T T' : Zt} {r : Option Zv} {q m d : Int} (h : IC_ N T) (q : po_X10_eligible T q m d T' r) : IC_ (N + 1) T' := by
  obtain ⟨_, -, f, -⟩ := q
  exact ic_f h f ⟨⟨fun _ => rfl, fun _ => rfl, fun _ => rfl, fun _ => rfl, fun _ => rfl⟩, ⟨rfl, rfl⟩, ⟨rfl, rfl, rfl, rfl⟩, rfl, rfl, rfl, rfl⟩ ⟨rfl, rfl⟩ ⟨rfl, rfl, rfl, rfl, rfl, rfl, rfl, rfl, rfl⟩ ⟨rfl, rfl, rfl, rfl, rfl, rfl, rfl, rfl, rfl, rfl, rfl⟩ ⟨rfl, rfl, rfl⟩
theorem ic_drawing {N : Int} {T T' : Zt} {r : Option Zv} {g l : Int} (h : IC_ N T) (q : po_X10_drawing T g l T' r) : IC_ (N + 1) T' := by
  obtain ⟨_, -, f, -⟩ := q
  exact ic_f h f ⟨⟨fun _ => rfl, fun _ => rfl, fun _ => rfl, fun _ => rfl, fun _ => rfl⟩, ⟨rfl, rfl⟩, ⟨rfl, rfl, rfl, rfl⟩, rfl, rfl, rfl, rfl⟩ ⟨rfl, rfl⟩ ⟨rfl, rfl, rfl, rfl, rfl, rfl, rfl, rfl, rfl⟩ ⟨rfl, rfl, rfl, rfl, rfl, rfl, rfl, rfl, rfl, rfl, rfl⟩ ⟨rfl, rfl, rfl⟩
theorem ic_pot {N : Int} {T T' : Zt} {r : Option Zv} {c k : Int} (h : IC_ N T) (q : po_X10_pot T c k T' r) : IC_ (N + 1) T' := by
  obtain ⟨_, -, f, -⟩ := q
  exact ic_f h f ⟨⟨fun _ => rfl, fun _ => rfl, fun _ => rfl, fun _ => rfl, fun _ => rfl⟩, ⟨rfl, rfl⟩, ⟨rfl, rfl, rfl, rfl⟩, rfl, rfl, rfl, rfl⟩ ⟨rfl, rfl⟩ ⟨rfl, rfl, rfl, rfl, rfl, rfl, rfl, rfl, rfl⟩ ⟨rfl, rfl, rfl, rfl, rfl, rfl, rfl, rfl, rfl, rfl, rfl⟩ ⟨rfl, rfl, rfl⟩
theorem ic_firsts {N : Int} {T T' : Zt} {r : Option Zv} {c b : Int} (h : IC_ N T) (q : po_X10_firsts T c b T' r) : IC_ (N + 1) T' := by
  obtain ⟨_, -, f, -⟩ := q
  exact ic_f h f ⟨⟨fun _ => rfl, fun _ => rfl, fun _ => rfl, fun _ => rfl, fun _ => rfl⟩, ⟨rfl, rfl⟩, ⟨rfl, rfl, rfl, rfl⟩, rfl, rfl, rfl, rfl⟩ ⟨rfl, rfl⟩ ⟨rfl, rfl, rfl, rfl, rfl, rfl, rfl, rfl, rfl⟩ ⟨rfl, rfl, rfl, rfl, rfl, rfl, rfl, rfl, rfl, rfl, rfl⟩ ⟨rfl, rfl, rfl⟩
theorem ic_table {N : Int} {T T' : Zt} {r : Option Zv} {c d b w : Int} (h : IC_ N T) (q : po_X10_table T c d b w T' r) : IC_ (N + 1) T' := by
  obtain ⟨_, -, f, -⟩ := q
  exact ic_f h f ⟨⟨fun _ => rfl, fun _ => rfl, fun _ => rfl, fun _ => rfl, fun _ => rfl⟩, ⟨rfl, rfl⟩, ⟨rfl, rfl, rfl, rfl⟩, rfl, rfl, rfl, rfl⟩ ⟨rfl, rfl⟩ ⟨rfl, rfl, rfl, rfl, rfl, rfl, rfl, rfl, rfl⟩ ⟨rfl, rfl, rfl, rfl, rfl, rfl, rfl, rfl, rfl, rfl, rfl⟩ ⟨rfl, rfl, rfl⟩
theorem ic_parted {N : Int} {T T' : Zt} {r : Option Zv} {c d k : Int} (h : IC_ N T) (q : po_X10_parted T c d k T' r) : IC_ (N + 1) T' := by
  obtain ⟨_, -, f, -⟩ := q
  exact ic_f h f ⟨⟨fun _ => rfl, fun _ => rfl, fun _ => rfl, fun _ => rfl, fun _ => rfl⟩, ⟨rfl, rfl⟩, ⟨rfl, rfl, rfl, rfl⟩, rfl, rfl, rfl, rfl⟩ ⟨rfl, rfl⟩ ⟨rfl, rfl, rfl, rfl, rfl, rfl, rfl, rfl, rfl⟩ ⟨rfl, rfl, rfl, rfl, rfl, rfl, rfl, rfl, rfl, rfl, rfl⟩ ⟨rfl, rfl, rfl⟩
theorem ic_standing {N : Int} {T T' : Zt} {r : Option Zv} {c d k : Int} (h : IC_ N T) (q : po_X10_standing T c d k T' r) : IC_ (N + 1) T' := by
  obtain ⟨_, -, f, -⟩ := q
  exact ic_f h f ⟨⟨fun _ => rfl, fun _ => rfl, fun _ => rfl, fun _ => rfl, fun _ => rfl⟩, ⟨rfl, rfl⟩, ⟨rfl, rfl, rfl, rfl⟩, rfl, rfl, rfl, rfl⟩ ⟨rfl, rfl⟩ ⟨rfl, rfl, rfl, rfl, rfl, rfl, rfl, rfl, rfl⟩ ⟨rfl, rfl, rfl, rfl, rfl, rfl, rfl, rfl, rfl, rfl, rfl⟩ ⟨rfl, rfl, rfl⟩
theorem ic_lineUp {N : Int} {T T' : Zt} {r : Option Zv} {q b s : Int} (h : IC_ N T) (q : po_X10_lineUp T q b s T' r) : IC_ (N + 1) T' := by
  obtain ⟨_, -, f, -⟩ := q
  exact ic_f h f ⟨⟨fun _ => rfl, fun _ => rfl, fun _ => rfl, fun _ => rfl, fun _ => rfl⟩, ⟨rfl, rfl⟩, ⟨rfl, rfl, rfl, rfl⟩, rfl, rfl, rfl, rfl⟩ ⟨rfl, rfl⟩ ⟨rfl, rfl, rfl, rfl, rfl, rfl, rfl, rfl, rfl⟩ ⟨rfl, rfl, rfl, rfl, rfl, rfl, rfl, rfl, rfl, rfl, rfl⟩ ⟨rfl, rfl, rfl⟩
theorem ic_ways {N : Int} {T T' : Zt} {r : Option Zv} (h : IC_ N T) (q : po_X10_ways T T' r) : IC_ (N + 1) T' := by
  obtain ⟨_, -, f, -⟩ := q
  exact ic_f h f ⟨⟨fun _ => rfl, fun _ => rfl, fun _ => rfl, fun _ => rfl, fun _ => rfl⟩, ⟨rfl, rfl⟩, ⟨rfl, rfl, rfl, rfl⟩, rfl, rfl, rfl, rfl⟩ ⟨rfl, rfl⟩ ⟨rfl, rfl, rfl, rfl, rfl, rfl, rfl, rfl, rfl⟩ ⟨rfl, rfl, rfl, rfl, rfl, rfl, rfl, rfl, rfl, rfl, rfl⟩ ⟨rfl, rfl, rfl⟩
theorem ic_chance {N : Int} {T T' : Zt} {r : Option Zv} {c g : Int} (h : IC_ N T) (q : po_X10_chance T c g T' r) : IC_ (N + 1) T' := by
  obtain ⟨_, -, f, -⟩ := q
  exact ic_f h f ⟨⟨fun _ => rfl, fun _ => rfl, fun _ => rfl, fun _ => rfl, fun _ => rfl⟩, ⟨rfl, rfl⟩, ⟨rfl, rfl, rfl, rfl⟩, rfl, rfl, rfl, rfl⟩ ⟨rfl, rfl⟩ ⟨rfl, rfl, rfl, rfl, rfl, rfl, rfl, rfl, rfl⟩ ⟨rfl, rfl, rfl, rfl, rfl, rfl, rfl, rfl, rfl, rfl, rfl⟩ ⟨rfl, rfl, rfl⟩
theorem ic_ball {N : Int} {T T' : Zt} {r : Option Zv} {s b : Int} (h : IC_ N T) (q : po_X10_ball T s b T' r) : IC_ (N + 1) T' := by
  obtain ⟨_, -, f, -⟩ := q
  exact ic_f h f ⟨⟨fun _ => rfl, fun _ => rfl, fun _ => rfl, fun _ => rfl, fun _ => rfl⟩, ⟨rfl, rfl⟩, ⟨rfl, rfl, rfl, rfl⟩, rfl, rfl, rfl, rfl⟩ ⟨rfl, rfl⟩ ⟨rfl, rfl, rfl, rfl, rfl, rfl, rfl, rfl, rfl⟩ ⟨rfl, rfl, rfl, rfl, rfl, rfl, rfl, rfl, rfl, rfl, rfl⟩ ⟨rfl, rfl, rfl⟩
theorem ic_event {N : Int} {T T' : Zt} {r : Option Zv} {m k s a b : Int} (hT : ok_T T) (ha : al_ T 109 0) (h : IC_ N T) (q : po_X10_event T N m k s a b T' r) : IC_ (N + 1) T' := by
  obtain ⟨k, d, n, l, s, b1, b2⟩ := h
  obtain ⟨_, -, f, q1, q2, q3⟩ := q
  have q4 := q2.2
  exact ⟨ic_t k f ⟨⟨fun _ => rfl, fun _ => rfl, fun _ => rfl, fun _ => rfl, fun _ => rfl⟩, ⟨rfl, rfl⟩, ⟨rfl, rfl, rfl, rfl⟩, rfl, rfl, rfl, rfl⟩, DD__f d f ⟨rfl, rfl, rfl, rfl, rfl, trivial⟩, NA_f n f ⟨rfl, rfl, rfl, rfl, rfl, rfl, rfl, rfl, rfl⟩, q1, sk_l hT ha s q2 (f 109 0 15 rfl), by omega, by omega⟩
theorem ic_review {N : Int} {T T' : Zt} {r : Option Zv} {m i k s a b : Int} (hT : ok_T T) (ha : al_ T 109 0) (h : IC_ N T) (q : po_X10_review T N m i k s a b T' r) : IC_ (N + 1) T' := by
  obtain ⟨k, d, n, l, s, b1, b2⟩ := h
  obtain ⟨_, -, f, q1, q2, q3⟩ := q
  have q4 := q2.2
  exact ⟨ic_t k f ⟨⟨fun _ => rfl, fun _ => rfl, fun _ => rfl, fun _ => rfl, fun _ => rfl⟩, ⟨rfl, rfl⟩, ⟨rfl, rfl, rfl, rfl⟩, rfl, rfl, rfl, rfl⟩, DD__f d f ⟨rfl, rfl, rfl, rfl, rfl, trivial⟩, NA_f n f ⟨rfl, rfl, rfl, rfl, rfl, rfl, rfl, rfl, rfl⟩, q1, sk_l hT ha s q2 (f 109 0 15 rfl), by omega, by omega⟩
theorem LP_m {N N2 : Int} {T : Zt} (h : LP_ N T) (g : N ≤ N2) : LP_ N2 T := LP_f (ws := []) h g lh_r (fr_0 _ _) ⟨rfl, rfl, rfl, rfl, rfl, rfl, rfl, rfl, rfl, rfl, rfl⟩
theorem ic_start {N : Int} {T T' : Zt} {r : Option Zv} {m : Int} (hT : ok_T T) (ha : al_ T 109 0) (h : IC_ N T) (q : po_X10_start T N m T' r) : IC_ (N + 1) T' := by
  obtain ⟨k, d, n, l, s, b1, b2⟩ := h
  obtain ⟨_, -, f, q1, q2, q3, q5, -⟩ := q
  have q4 := q2.2
  exact ⟨ic_t k f ⟨⟨fun _ => rfl, fun _ => rfl, fun _ => rfl, fun _ => rfl, fun _ => rfl⟩, ⟨rfl, rfl⟩, ⟨rfl, rfl, rfl, rfl⟩, rfl, rfl, rfl, rfl⟩, DD__f d f ⟨rfl, rfl, rfl, rfl, rfl, trivial⟩, q5, LP_m q1 (by omega), sk_l hT ha s q2 (f 109 0 15 rfl), by omega, by omega⟩
theorem ic_assign {N : Int} {T T' : Zt} {r : Option Zv} {d9 : Int} (hT : ok_T T) (ha : al_ T 109 0) (h : IC_ N T) (q : po_X10_assign T d9 T' r) : IC_ (N + 1) T' := by
  obtain ⟨k, d, n, l, s, b1, b2⟩ := h
  obtain ⟨_, -, f, q2, q3⟩ := q
  have q4 := q2.2
  exact ⟨ic_t k f ⟨⟨fun _ => rfl, fun _ => rfl, fun _ => rfl, fun _ => rfl, fun _ => rfl⟩, ⟨rfl, rfl⟩, ⟨rfl, rfl, rfl, rfl⟩, rfl, rfl, rfl, rfl⟩, DD__f d f ⟨rfl, rfl, rfl, rfl, rfl, trivial⟩, NA_f n f ⟨rfl, rfl, rfl, rfl, rfl, rfl, rfl, rfl, rfl⟩, LP_f l (by omega) q2 f ⟨rfl, rfl, rfl, rfl, rfl, rfl, rfl, rfl, rfl, rfl, rfl⟩, sk_l hT ha s q2 (f 109 0 15 rfl), by omega, by omega⟩
theorem ic_can {N : Int} {T T' : Zt} {r : Option Zv} {c b : Int} (hT : ok_T T) (ha : al_ T 109 0) (h : IC_ N T) (q : po_X10_can T c b T' r) : IC_ (N + 1) T' := by
  obtain ⟨k, d, n, l, s, b1, b2⟩ := h
  obtain ⟨_, -, f, q1, q2, q3⟩ := q
  have q4 := q2.2
  exact ⟨ic_t k f ⟨⟨fun _ => rfl, fun _ => rfl, fun _ => rfl, fun _ => rfl, fun _ => rfl⟩, ⟨rfl, rfl⟩, ⟨rfl, rfl, rfl, rfl⟩, rfl, rfl, rfl, rfl⟩, DD__f d f ⟨rfl, rfl, rfl, rfl, rfl, trivial⟩, NA_f n f ⟨rfl, rfl, rfl, rfl, rfl, rfl, rfl, rfl, rfl⟩, LP_f l (by omega) q2 f ⟨rfl, rfl, rfl, rfl, rfl, rfl, rfl, rfl, rfl, rfl, rfl⟩, q1, by omega, by omega⟩
theorem ic_postpone {N : Int} {T T' : Zt} {r : Option Zv} {m d9 : Int} (h : IC_ N T) (q : po_X10_postpone_k T m d9 T' r) : IC_ (N + 1) T' := by
  obtain ⟨k, d, n, l, s, b1, b2⟩ := h
  obtain ⟨_, -, f, q1⟩ := q
  have e9 := f 191 0 0 rfl
  refine ⟨ic_t k f ⟨⟨fun _ => rfl, fun _ => rfl, fun _ => rfl, fun _ => rfl, fun _ => rfl⟩, ⟨rfl, rfl⟩, ⟨rfl, rfl, rfl, rfl⟩, rfl, rfl, rfl, rfl⟩, q1, NA_f n f ⟨rfl, rfl, rfl, rfl, rfl, rfl, rfl, rfl, rfl⟩, LP_f l (by omega) (lh_f lh_r f rfl rfl) f ⟨rfl, rfl, rfl, rfl, rfl, rfl, rfl, rfl, rfl, rfl, rfl⟩, ?_, by omega, by omega⟩
  rw [f 109 0 15 rfl, f 190 _ _ rfl]
  exact s
theorem ic_walkOver {N : Int} {T T' : Zt} {r : Option Zv} {m d9 : Int} (h : IC_ N T) (q : po_X10_walkOver_k T m d9 T' r) : IC_ (N + 1) T' := by
  obtain ⟨k, d, n, l, s, b1, b2⟩ := h
  obtain ⟨_, -, f, q1⟩ := q
  have e9 := f 191 0 0 rfl
  refine ⟨ic_t k f ⟨⟨fun _ => rfl, fun _ => rfl, fun _ => rfl, fun _ => rfl, fun _ => rfl⟩, ⟨rfl, rfl⟩, ⟨rfl, rfl, rfl, rfl⟩, rfl, rfl, rfl, rfl⟩, fun i j a b c e1 e2 => ?_, NA_f n f ⟨rfl, rfl, rfl, rfl, rfl, rfl, rfl, rfl, rfl⟩, LP_f l (by omega) (lh_f lh_r f rfl rfl) f ⟨rfl, rfl, rfl, rfl, rfl, rfl, rfl, rfl, rfl, rfl, rfl⟩, ?_, by omega, by omega⟩
  · rw [f 106 0 4 rfl] at c
    rw [f 102 i 0 rfl, f 102 j 0 rfl, f 102 i 3 rfl, f 102 j 3 rfl, f 102 i 5 rfl, f 102 j 5 rfl]
    exact d i j a b c (by rcases q1 i with z | z <;> omega) (by rcases q1 j with z | z <;> omega)
  · rw [f 109 0 15 rfl, f 190 _ _ rfl]
    exact s
theorem ic_enter {N : Int} {T T' : Zt} {r : Option Zv} {c9 b9 : Int} (h : IC_ N T) (q : po_X10_enter_k T c9 b9 T' r) : IC_ (N + 1) T' := by
  obtain ⟨⟨k1, k2, k3, k4, k5, k6, k7, k8, k9, k10⟩, d, n, l, s, b1, b2⟩ := h
  obtain ⟨_, -, f, q1, q2⟩ := q
  have e9 := f 191 0 0 rfl
  refine ⟨⟨KA__f k1 f ⟨fun _ => rfl, fun _ => rfl, rfl, rfl, trivial⟩, KM__f k2 f ⟨rfl, rfl, rfl, rfl, trivial⟩, KC__f k3 f ⟨rfl, rfl, rfl, rfl, trivial⟩, KR__f k4 f ⟨fun _ => rfl, rfl, trivial⟩, fun c a b m p q => ?_, KO__f k6 f ⟨fun _ => rfl, rfl, trivial⟩, q1, KB__f k8 f ⟨fun _ => rfl, rfl, trivial⟩, KP__f k9 f ⟨rfl, rfl, rfl, trivial⟩, KW__f k10 f ⟨fun _ => rfl, rfl, trivial⟩⟩, DD__f d f ⟨rfl, rfl, rfl, rfl, rfl, trivial⟩, NA_f n f ⟨rfl, rfl, rfl, rfl, rfl, rfl, rfl, rfl, rfl⟩, LP_f l (by omega) (lh_f lh_r f rfl rfl) f ⟨rfl, rfl, rfl, rfl, rfl, rfl, rfl, rfl, rfl, rfl, rfl⟩, ?_, by omega, by omega⟩
  · rw [f 106 0 2 rfl] at b
    rw [f 100 c 7 rfl] at p
    rw [f 100 c 7 rfl, f 100 c 8 rfl] at q
    rw [f 102 m 0 rfl, f 102 m 3 rfl, f 102 m 4 rfl]
    have y := k5 c a b m p q
    exact ⟨y.1, q2 _ _ y.2.1, q2 _ _ y.2.2⟩
  · rw [f 109 0 15 rfl, f 190 _ _ rfl]
    exact s
theorem ic_plan {N : Int} {T T' : Zt} {r : Option Zv} {c b : Int} (hT : ok_T T) (h : IC_ N T) (q : po_X10_plan T c b T' r) : IC_ (N + 1) T' := by
  obtain ⟨_, -, q⟩ := q
  rcases q with q | q
  · rw [q]; exact ic_e h
  · obtain ⟨⟨k1, k2, k3, k4, k5, k6, k7, k8, k9, k10⟩, d, n, l, s, b1, b2⟩ := h
    have f := q.2.1
    obtain ⟨g1, g2, g3, g4, g5, g6, g7, g8⟩ := sc_ic q k1 k2 k3 k5 k9 d (LP_m l (show N ≤ N + 1 by omega)) (fun i => (bd_f hT 100 7 tl_0_7 i).1) (bd_f hT 106 4 tl_6_4 0).1
    have e9 := f 191 0 0 rfl
    refine ⟨⟨g1, g2, g3, KR__f k4 f ⟨fun _ => rfl, rfl, trivial⟩, g4, KO__f k6 f ⟨fun _ => rfl, rfl, trivial⟩, KE__f k7 f ⟨fun _ => rfl, fun _ => rfl, rfl, rfl, trivial⟩, KB__f k8 f ⟨fun _ => rfl, rfl, trivial⟩, g5, KW__f k10 f ⟨fun _ => rfl, rfl, trivial⟩⟩, g6, g7, g8, ?_, by omega, by omega⟩
    rw [f 109 0 15 rfl, f 190 _ _ rfl]
    exact s
theorem ic_competition {N : Int} {T T' : Zt} {r : Option Zv} (hT : ok_T T) (h : IC_ N T) (q : po_X10_competition T T' r) : IC_ (N + 1) T' := by
  obtain ⟨_, -, q⟩ := q
  rcases q with f | ⟨f, ⟨e2, e4⟩, q1, q2, q3, ⟨z5, z6, z7, z8⟩, q4, q5, q6⟩
  · exact ic_f h f ⟨⟨fun _ => rfl, fun _ => rfl, fun _ => rfl, fun _ => rfl, fun _ => rfl⟩, ⟨rfl, rfl⟩, ⟨rfl, rfl, rfl, rfl⟩, rfl, rfl, rfl, rfl⟩ ⟨rfl, rfl⟩ ⟨rfl, rfl, rfl, rfl, rfl, rfl, rfl, rfl, rfl⟩ ⟨rfl, rfl, rfl, rfl, rfl, rfl, rfl, rfl, rfl, rfl, rfl⟩ ⟨rfl, rfl, rfl⟩
  · obtain ⟨⟨k1, k2, k3, k4, k5, k6, k7, k8, k9, k10⟩, d, n, l, s, b1, b2⟩ := h
    have e9 := f 191 0 0 rfl
    have em := f 106 0 4 rfl
    have hm : 0 ≤ T 106 0 4 := (bd_f hT 106 4 tl_6_4 0).1
    have hc : 0 ≤ T 106 0 2 := (bd_f hT 106 2 tl_6_2 0).1
    have o401 : ∀ c j, c ≠ T 106 0 2 → T' 401 c j = T 401 c j := fun c j h => q1 401 c j (Or.inr (Or.inr (Or.inl rfl))) h
    have o100 : ∀ c j, c ≠ T 106 0 2 → T' 100 c j = T 100 c j := fun c j h => q1 100 c j (Or.inl rfl) h
    have o403 : ∀ c j, c ≠ T 106 0 2 → T' 403 c j = T 403 c j := fun c j h => q1 403 c j (Or.inr (Or.inr (Or.inr (Or.inl rfl)))) h
    have o404 : ∀ c j, c ≠ T 106 0 2 → T' 404 c j = T 404 c j := fun c j h => q1 404 c j (Or.inr (Or.inr (Or.inr (Or.inr rfl)))) h
    have e02 : ∀ i j, T' 102 i j = T 102 i j := fun i j => f 102 i j rfl
    refine ⟨⟨⟨fun i a b => ?_, fun i a b => ?_⟩, fun m a b => ?_, fun c a b => ?_, fun c a b => ?_, fun c a b m p q => ?_, fun c a b => ?_, fun c a b j p q => ?_, fun c a b => ?_, fun m a b => ?_, fun c a b => ?_⟩, DD__f d f ⟨rfl, rfl, rfl, rfl, rfl, trivial⟩, q6, fun p a b g => ?_, ?_, by omega, by omega⟩
    · by_cases z : i = T 106 0 2
      · rw [z, q3]; decide
      · rw [q2 i z]; exact k1.1 i a (by omega)
    · rw [f 523 0 i rfl]; exact k1.2 i a (by omega)
    · have y := k2 m a (by omega)
      rw [e02, e02]
      omega
    · by_cases z : c = T 106 0 2
      · rw [z, z7, z8]; omega
      · rw [o100 c 7 z, o100 c 8 z, em]; exact k3 c a (by omega)
    · by_cases z : c = T 106 0 2
      · rw [z]; exact q4 9 (by omega) (by omega)
      · rw [o401 c 9 z]; exact k4 c a (by omega)
    · by_cases z : c = T 106 0 2
      · rw [z, z7] at p; rw [z, z7, z8] at q; omega
      · rw [o100 c 7 z] at p
        rw [o100 c 7 z, o100 c 8 z] at q
        rw [e02, e02, e02, o404 c _ z, o404 c _ z]
        exact k5 c a (by omega) m p q
    · by_cases z : c = T 106 0 2
      · rw [z]; exact (q4 4 (by omega) (by omega)).2
      · rw [o401 c 4 z]; exact k6 c a (by omega)
    · by_cases z : c = T 106 0 2
      · rw [z, z5] at q; omega
      · rw [o100 c 5 z] at q
        rw [o403 c j z, o404 c _ z]
        exact k7 c a (by omega) j p q
    · by_cases z : c = T 106 0 2
      · rw [z]
        have y6 := q4 6 (by omega) (by omega)
        have y7 := q4 7 (by omega) (by omega)
        have w1 : (sa_ 1).getD (Int.toNat 6) 0 = 1 := by decide
        have w2 : (sa_ 2).getD (Int.toNat 6) 0 = 4 := by decide
        have w3 : (sa_ 1).getD (Int.toNat 7) 0 = 1 := by decide
        have w4 : (sa_ 2).getD (Int.toNat 7) 0 = 30 := by decide
        omega
      · rw [o401 c 6 z, o401 c 7 z]; exact k8 c a (by omega)
    · have y := k2 m a (by omega)
      rw [e02, o100 _ 6 (by omega)]
      exact k9 m a (by omega)
    · by_cases z : c = T 106 0 2
      · rw [z]; exact q5
      · rw [o401 c 2 z, o401 c 1 z]; exact k10 c a (by omega)
    · rw [e02] at g
      exact Lp_o (l p a (by omega) g) (by omega) ⟨fun x _ => f 190 x _ rfl, by omega⟩ (by omega) ⟨f _ _ _ rfl, f _ _ _ rfl, f _ _ _ rfl, f _ _ _ rfl, f _ _ _ rfl, f _ _ _ rfl, f _ _ _ rfl, f _ _ _ rfl⟩
    · rw [f 109 0 15 rfl, f 190 _ _ rfl]
      exact s
-- spans, told exactly
/-- v is the last below m of those that are p's, or -1 -/
def lpz_ (T : Zt) (p m v : Int) : Prop := (v = -1 ∧ ∀ j, 0 ≤ j → j < m → T 217 0 j ≠ p) ∨ (0 ≤ v ∧ v < m ∧ T 217 0 v = p ∧ ∀ j, v < j → j < m → T 217 0 j ≠ p)
/-- both sides keep the same spans; the house's are chained by person -/
def SPR_ (T : Zt) : Prop := T 108 0 5 = T 111 0 16 ∧ (∀ s, 0 ≤ s → s < T 108 0 5 → T 566 0 s = T 218 0 s ∧ T 567 0 s = T 219 0 s ∧ T 568 0 s = T 220 0 s) ∧ (∀ p, 0 ≤ p → p < T 108 0 3 → lpz_ T p (T 108 0 5) (T 564 0 p)) ∧ (∀ s, 0 ≤ s → s < T 108 0 5 → lpz_ T (T 217 0 s) s (T 569 0 s)) ∧ (∀ s, 0 ≤ s → s < T 108 0 5 → 0 ≤ T 217 0 s ∧ T 217 0 s < T 108 0 3)
/-- from m on no span of p meets a to b -/
def FSP_ (T : Zt) (p a b m : Int) : Prop := ∀ j, m ≤ j → j < T 108 0 5 → T 217 0 j = p → ¬ (T 567 0 j ≤ b ∧ a ≤ T 568 0 j)
theorem lpz_lt {T : Zt} {p m v : Int} (h : lpz_ T p m v) (hv : v ≠ -1) : 0 ≤ v ∧ v < m ∧ T 217 0 v = p := by
  rcases h with h | h
  · exact absurd h.1 hv
  · exact ⟨h.1, h.2.1, h.2.2.1⟩
theorem lpz_n {T : Zt} {p m v : Int} (hs : SPR_ T) (h : lpz_ T p m v) (hv : v ≠ -1) (hm : m ≤ T 108 0 5) : lpz_ T p v (T 569 0 v) := by
  obtain ⟨h1, h2, h3⟩ := lpz_lt h hv
  have h4 := hs.2.2.2.1 v h1 (by omega)
  rw [h3] at h4
  exact h4
theorem fsp_z {T : Zt} {p a b : Int} : FSP_ T p a b (T 108 0 5) := fun j h1 h2 => by omega
theorem fsp_s {T : Zt} {p a b m v : Int} (h : lpz_ T p m v) (hf : FSP_ T p a b m) (hv : v ≠ -1) (hn : ¬ (T 567 0 v ≤ b ∧ a ≤ T 568 0 v)) : FSP_ T p a b v := fun j h1 h2 h3 => by
  rcases h with h | ⟨_, _, _, h4⟩
  · exact absurd h.1 hv
  · by_cases e : j = v
    · rw [e]
      exact hn
    · by_cases g : j < m
      · exact absurd h3 (h4 j (by omega) g)
      · exact hf j (by omega) h2 h3
theorem fsp_0 {T : Zt} {p a b m v : Int} (h : lpz_ T p m v) (hf : FSP_ T p a b m) (hv : v = -1 ∨ m ≤ 0) : FSP_ T p a b 0 := fun j h1 h2 h3 => by
  by_cases g : m ≤ j
  · exact hf j g h2 h3
  · rcases h with ⟨_, h4⟩ | ⟨h5, h6, _⟩
    · exact absurd h3 (h4 j h1 (by omega))
    · exfalso
      omega
theorem fsp_1 {T : Zt} {p a b m v : Int} (h : lpz_ T p m v) (hv : v ≠ -1) (hm : m ≤ T 108 0 5) (h1 : T 567 0 v ≤ b) (h2 : a ≤ T 568 0 v) : ¬ FSP_ T p a b 0 := fun hf => by
  obtain ⟨g1, g2, g3⟩ := lpz_lt h hv
  exact hf v g1 (by omega) g3 ⟨h1, h2⟩
/-- a span more, the house's -/
def AS_ (T T' : Zt) (p cl a b : Int) : Prop := T' 108 0 5 = T 108 0 5 + 1 ∧ (T' 566 0 (T 108 0 5) = cl ∧ T' 567 0 (T 108 0 5) = a ∧ T' 568 0 (T 108 0 5) = b ∧ T' 569 0 (T 108 0 5) = T 564 0 p ∧ T' 564 0 p = T 108 0 5) ∧ (∀ j, j ≠ T 108 0 5 → T' 566 0 j = T 566 0 j ∧ T' 567 0 j = T 567 0 j ∧ T' 568 0 j = T 568 0 j ∧ T' 569 0 j = T 569 0 j) ∧ (∀ j, j ≠ p → T' 564 0 j = T 564 0 j)
theorem as_e {T : Zt} {p cl a b : Int} : AS_ T (up_ (up_ (up_ (up_ (up_ (up_ T 566 0 (T 108 0 5) cl) 567 0 (T 108 0 5) a) 568 0 (T 108 0 5) b) 569 0 (T 108 0 5) (T 564 0 p)) 564 0 p (T 108 0 5)) 108 0 5 (T 108 0 5 + 1)) p cl a b := by
  refine ⟨?_, ⟨?_, ?_, ?_, ?_, ?_⟩, fun j hj => ⟨?_, ?_, ?_, ?_⟩, fun j hj => ?_⟩ <;> simp [up_] <;> (intro e; exact absurd e hj)
/-- a span more, the reference's -/
def AM_ (T T' : Zt) (p cl a b : Int) : Prop := T' 111 0 16 = T 111 0 16 + 1 ∧ (T' 217 0 (T 111 0 16) = p ∧ T' 218 0 (T 111 0 16) = cl ∧ T' 219 0 (T 111 0 16) = a ∧ T' 220 0 (T 111 0 16) = b) ∧ (∀ j, j ≠ T 111 0 16 → T' 217 0 j = T 217 0 j ∧ T' 218 0 j = T 218 0 j ∧ T' 219 0 j = T 219 0 j ∧ T' 220 0 j = T 220 0 j)
theorem am_e {T : Zt} {p cl a b : Int} : AM_ T (up_ (up_ (up_ (up_ (up_ T 217 0 (T 111 0 16) p) 218 0 (T 111 0 16) cl) 219 0 (T 111 0 16) a) 220 0 (T 111 0 16) b) 111 0 16 (T 111 0 16 + 1)) p cl a b := by
  refine ⟨?_, ⟨?_, ?_, ?_, ?_⟩, fun j hj => ⟨?_, ?_, ?_, ?_⟩⟩ <;> simp [up_] <;> (intro e; exact absurd e hj)
/-- below m no span of p meets a to b, the reference's -/
def FSR_ (T : Zt) (p a b m : Int) : Prop := ∀ j, 0 ≤ j → j < m → T 217 0 j = p → ¬ (T 219 0 j ≤ b ∧ a ≤ T 220 0 j)
theorem fsr_s {T : Zt} {p a b s : Int} (h : FSR_ T p a b s) (hn : ¬ (T 217 0 s = p ∧ T 219 0 s ≤ b ∧ a ≤ T 220 0 s)) : FSR_ T p a b (s + 1) := fun j h1 h2 h3 h4 => by
  by_cases e : j = s
  · rw [e] at h3 h4
    exact hn ⟨h3, h4⟩
  · exact h j h1 (by omega) h3 h4
theorem fsr_m {T : Zt} {p a b s n : Int} (h : FSR_ T p a b s) (e : n ≤ s) : FSR_ T p a b n := fun j h1 h2 => h j h1 (by omega)
theorem fsr_w {T : Zt} {p a b s n : Int} (h0 : 0 ≤ s) (h1 : s < n) (h2 : T 217 0 s = p) (h3 : T 219 0 s ≤ b) (h4 : a ≤ T 220 0 s) : ¬ FSR_ T p a b n := fun h => h s h0 h1 h2 ⟨h3, h4⟩
theorem fs_eq {T : Zt} {p a b : Int} (h : SPR_ T) : FSP_ T p a b 0 ↔ FSR_ T p a b (T 111 0 16) := by
  obtain ⟨e, h1, -⟩ := h
  constructor
  · intro g j a1 a2 a3
    obtain ⟨-, e2, e3⟩ := h1 j a1 (by omega)
    rw [← e2, ← e3]
    exact g j a1 (by omega) a3
  · intro g j a1 a2 a3
    obtain ⟨-, e2, e3⟩ := h1 j a1 a2
    rw [e2, e3]
    exact g j a1 (by omega) a3
abbrev OKP_ (p cl np nc : Int) : Prop := 0 ≤ p ∧ p < np ∧ 0 ≤ cl ∧ cl < nc
abbrev OKD_ (a b : Int) : Prop := 0 ≤ a ∧ a ≤ 999 ∧ 0 ≤ b ∧ b ≤ 999 ∧ a ≤ b
def QR_ (T T' : Zt) (p cl a b x : Int) : Prop := (x = -2 ∧ ¬ OKP_ p cl (T 108 0 3) (T 108 0 2) ∧ T' = T) ∨ (x = -3 ∧ OKP_ p cl (T 108 0 3) (T 108 0 2) ∧ ¬ OKD_ a b ∧ T' = T) ∨ (x = -4 ∧ OKP_ p cl (T 108 0 3) (T 108 0 2) ∧ OKD_ a b ∧ ¬ FSP_ T p a b 0 ∧ T' = T) ∨ (x = -5 ∧ OKP_ p cl (T 108 0 3) (T 108 0 2) ∧ OKD_ a b ∧ FSP_ T p a b 0 ∧ T 108 0 5 = 300 ∧ T' = T) ∨ (x = T 108 0 5 + 1 ∧ OKP_ p cl (T 108 0 3) (T 108 0 2) ∧ OKD_ a b ∧ FSP_ T p a b 0 ∧ T 108 0 5 < 300 ∧ AS_ T T' p cl a b)
def QM_ (T T' : Zt) (p cl a b x : Int) : Prop := (x = -2 ∧ ¬ OKP_ p cl (T 111 0 15) (T 111 0 12) ∧ T' = T) ∨ (x = -3 ∧ OKP_ p cl (T 111 0 15) (T 111 0 12) ∧ ¬ OKD_ a b ∧ T' = T) ∨ (x = -4 ∧ OKP_ p cl (T 111 0 15) (T 111 0 12) ∧ OKD_ a b ∧ ¬ FSR_ T p a b (T 111 0 16) ∧ T' = T) ∨ (x = -5 ∧ OKP_ p cl (T 111 0 15) (T 111 0 12) ∧ OKD_ a b ∧ FSR_ T p a b (T 111 0 16) ∧ T 111 0 16 = 300 ∧ T' = T) ∨ (x = T 111 0 16 + 1 ∧ OKP_ p cl (T 111 0 15) (T 111 0 12) ∧ OKD_ a b ∧ FSR_ T p a b (T 111 0 16) ∧ T 111 0 16 < 300 ∧ AM_ T T' p cl a b)
/-- a person more: the house's chain of it is empty -/
def QP_ (T T' : Zt) (x : Int) : Prop := (T 108 0 3 = 200 ∧ x = -5 ∧ T' = T) ∨ (T 108 0 3 < 200 ∧ x = T 108 0 3 ∧ T' 108 0 3 = T 108 0 3 + 1 ∧ T' 564 0 (T 108 0 3) = -1 ∧ ∀ j, j ≠ T 108 0 3 → T' 564 0 j = T 564 0 j)
theorem qp_e {T : Zt} (h : T 108 0 3 < 200) : QP_ T (up_ (up_ T 564 0 (T 108 0 3) (-1)) 108 0 3 (T 108 0 3 + 1)) (T 108 0 3) := by
  refine Or.inr ⟨h, rfl, ?_, ?_, fun j hj => ?_⟩ <;> simp [up_] <;> (intro e; exact absurd e hj)
abbrev po_X8_isRegisteredWithin_e (T : Zt) (p a b : Int) : Zt → Option Zv → Prop := fun T' r => T = T' ∧ ∃ x : Int, r = some (vI x) ∧ ((x = 1 ∧ ¬ FSP_ T p a b 0) ∨ (x = 0 ∧ FSP_ T p a b 0))
set_option maxHeartbeats 4000000 in
theorem ct_X8_isRegisteredWithin_e {T : Zt} {p a b : Int} (h1 : 0 ≤ p ∧ p < 200) (h2 : p < T 108 0 3) (hsp : SPR_ T) : Ct_ yX8_isRegisteredWithin zX8_isRegisteredWithin T [vR 108 0, vI p, vI a, vI b] (po_X8_isRegisteredWithin_e T p a b) := by
  refine ct_of pn_8 rfl rfl (Nat.le_of_ble_eq_true rfl) (fun hT hav => ?_)
  have hr_p : -2147483648 ≤ p ∧ p ≤ 2147483647 := hav (vI p) (List.mem_cons_of_mem _ List.mem_cons_self)
  have hr_a : -2147483648 ≤ a ∧ a ≤ 2147483647 := hav (vI a) (List.mem_cons_of_mem _ (List.mem_cons_of_mem _ List.mem_cons_self))
  have hr_b : -2147483648 ≤ b ∧ b ≤ 2147483647 := hav (vI b) (List.mem_cons_of_mem _ (List.mem_cons_of_mem _ (List.mem_cons_of_mem _ List.mem_cons_self)))
  have hz : zX8_isRegisteredWithin.2.2.2.1 = some .boolean → ∀ (T' : Zt) (x : Int), po_X8_isRegisteredWithin_e T p a b T' (some (vI x)) → 0 ≤ x ∧ x ≤ 1 := fun _ T' x h => by obtain ⟨-, y, e, hy⟩ := h; cases e; omega
  have hb_spans : 0 ≤ T 108 0 5 ∧ T 108 0 5 ≤ 300 := bd_f hT 108 5 tl_8_5 0
  show J_ zX8_isRegisteredWithin T (po_X8_isRegisteredWithin_e T p a b) 0 0 0 [some (vR 108 0), some (vI p), some (vI a), some (vI b), none, none] [] T
  have c_11 : ∀ (nn : Nat) (s : Int) (n : Int) (g : Int), ((300 - n).toNat) ≤ nn → (-1 ≤ s ∧ s ≤ 299 ∧ 0 ≤ n ∧ 0 ≤ g ∧ g + n ≤ T 108 0 5) → (lpz_ T p g s) → (FSP_ T p a b g) → J_ zX8_isRegisteredWithin T (po_X8_isRegisteredWithin_e T p a b) 0 0 11 [some (vR 108 0), some (vI p), some (vI a), some (vI b), some (vI s), some (vI n)] [] T := by
    intro nn
    induction nn using Nat.strongRecOn with
    | _ nn ih_11 =>
      intro s n g hm_11 i1 i2 i3
      replace hm_11 := fun (_ : Unit) => hm_11
      refine j_blx (F := fX8) tb_X8 (nn_ _) bk_X8_isRegisteredWithin_11 bs_X8_isRegisteredWithin_11 hz (fun K hK => ?_)
      refine And.intro (fun c1 => ?_) (fun c1 => ?_)
      · refine hK 64 _ [] T ?_
        refine j_blx (F := fX8) tb_X8 (nn_ _) bk_X8_isRegisteredWithin_64 bs_X8_isRegisteredWithin_64 hz (fun K hK => ?_)
        refine (show po_X8_isRegisteredWithin_e T p a b T (some (vI 0)) from ?_)
        exact ⟨rfl, _, rfl, by exact Or.inr ⟨rfl, fsp_0 i2 i3 (by omega)⟩⟩
      · have hlt := lpz_lt i2 (by omega)
        refine And.intro (fun c2 => ?_) (fun c2 => ?_)
        · refine hK 64 _ [] T ?_
          refine j_blx (F := fX8) tb_X8 (nn_ _) bk_X8_isRegisteredWithin_64 bs_X8_isRegisteredWithin_64 hz (fun K hK => ?_)
          refine (show po_X8_isRegisteredWithin_e T p a b T (some (vI 0)) from ?_)
          exact ⟨rfl, _, rfl, by exact Or.inr ⟨rfl, fsp_0 i2 i3 (by omega)⟩⟩
        · refine ix_i (by omega) ?_
          intro b3 b3b
          refine And.intro (fun c4 => ?_) (fun c4 => ?_)
          · refine hK 49 _ [] T ?_
            refine j_blx (F := fX8) tb_X8 (nn_ _) bk_X8_isRegisteredWithin_49 bs_X8_isRegisteredWithin_49 hz (fun K hK => ?_)
            refine ix_i (by omega) ?_
            intro b5 b5b
            refine rg_i (by omega) ?_
            refine hK 11 [some (vR 108 0), some (vI p), some (vI a), some (vI b), some (vI (T 569 0 s)), some (vI (n + 1))] [] T ?_
            refine ih_11 _ ?_ (T 569 0 s) (n + 1) s (Nat.le_refl _) ?_ ?_ ?_
            · have hm_11 := hm_11 (); omega
            · omega
            · exact lpz_n hsp i2 (by omega) (by omega)
            · exact fsp_s i2 i3 (by omega) (by omega)
          · refine ix_i (by omega) ?_
            intro b6 b6b
            refine And.intro (fun c7 => ?_) (fun c7 => ?_)
            · refine hK 49 [some (vR 108 0), some (vI p), some (vI a), some (vI b), some (vI s), some (vI n)] [] T ?_
              refine j_blx (F := fX8) tb_X8 (nn_ _) bk_X8_isRegisteredWithin_49 bs_X8_isRegisteredWithin_49 hz (fun K hK => ?_)
              refine ix_i (by omega) ?_
              intro b8 b8b
              refine rg_i (by omega) ?_
              refine hK 11 [some (vR 108 0), some (vI p), some (vI a), some (vI b), some (vI (T 569 0 s)), some (vI (n + 1))] [] T ?_
              refine ih_11 _ ?_ (T 569 0 s) (n + 1) s (Nat.le_refl _) ?_ ?_ ?_
              · have hm_11 := hm_11 (); omega
              · omega
              · exact lpz_n hsp i2 (by omega) (by omega)
              · exact fsp_s i2 i3 (by omega) (by omega)
            · refine (show po_X8_isRegisteredWithin_e T p a b T (some (vI 1)) from ?_)
              exact ⟨rfl, _, rfl, by exact Or.inl ⟨rfl, fsp_1 i2 (by omega) (by omega) (by omega) (by omega)⟩⟩
  refine j_blx (F := fX8) tb_X8 (nn_ _) bk_X8_isRegisteredWithin_0 bs_X8_isRegisteredWithin_0 hz (fun K hK => ?_)
  refine ix_i (by omega) ?_
  intro b9 b9b
  refine hK 11 [some (vR 108 0), some (vI p), some (vI a), some (vI b), some (vI (T 564 0 p)), some (vI 0)] [] T ?_
  refine c_11 _ (T 564 0 p) 0 (T 108 0 5) (Nat.le_refl _) ?_ ?_ ?_
  · omega
  · exact hsp.2.2.1 p (by omega) (by omega)
  · exact fsp_z
abbrev po_X8_addSpan_e (T : Zt) (p cl a b : Int) : Zt → Option Zv → Prop := fun T' r => r = none ∧ fr_ [(108, [5]), (566, []), (567, []), (568, []), (569, []), (564, [])] T T' ∧ (AS_ T T' p cl a b)
set_option maxHeartbeats 4000000 in
theorem ct_X8_addSpan_e {T : Zt} {p cl a b : Int} (h1 : 0 ≤ p ∧ p < 200) (h2 : 0 ≤ cl ∧ cl < 12) (h3 : 0 ≤ a ∧ a ≤ 999) (h4 : 0 ≤ b ∧ b ≤ 999) (h5 : T 108 0 5 < 300) : Ct_ yX8_addSpan zX8_addSpan T [vR 108 0, vI p, vI cl, vI a, vI b] (po_X8_addSpan_e T p cl a b) := by
  refine ct_of pn_8 rfl rfl (Nat.le_of_ble_eq_true rfl) (fun hT hav => ?_)
  have hr_p : -2147483648 ≤ p ∧ p ≤ 2147483647 := hav (vI p) (List.mem_cons_of_mem _ List.mem_cons_self)
  have hr_cl : -2147483648 ≤ cl ∧ cl ≤ 2147483647 := hav (vI cl) (List.mem_cons_of_mem _ (List.mem_cons_of_mem _ List.mem_cons_self))
  have hr_a : -2147483648 ≤ a ∧ a ≤ 2147483647 := hav (vI a) (List.mem_cons_of_mem _ (List.mem_cons_of_mem _ (List.mem_cons_of_mem _ List.mem_cons_self)))
  have hr_b : -2147483648 ≤ b ∧ b ≤ 2147483647 := hav (vI b) (List.mem_cons_of_mem _ (List.mem_cons_of_mem _ (List.mem_cons_of_mem _ (List.mem_cons_of_mem _ List.mem_cons_self))))
  have hz : zX8_addSpan.2.2.2.1 = some .boolean → ∀ (T' : Zt) (x : Int), po_X8_addSpan_e T p cl a b T' (some (vI x)) → 0 ≤ x ∧ x ≤ 1 := fun h => by cases h
  have hb_spans : 0 ≤ T 108 0 5 ∧ T 108 0 5 ≤ 300 := bd_f hT 108 5 tl_8_5 0
  show J_ zX8_addSpan T (po_X8_addSpan_e T p cl a b) 0 0 0 [some (vR 108 0), some (vI p), some (vI cl), some (vI a), some (vI b)] [] T
  refine j_blx (F := fX8) tb_X8 (nn_ _) bk_X8_addSpan_0 bs_X8_addSpan_0 hz (fun K hK => ?_)
  intro b1 b1b
  refine iy_i (by omega) (by omega) ?_
  refine x_nm (fun U2 hU2 => ?_)
  have e3 := up_f hU2
  intro b4 b4b
  have e5 : U2 108 0 5 = T 108 0 5 := up_k hU2 (by exact Nat.ne_of_beq_eq_false rfl) 0 5
  rw [e5] at b4 b4b ⊢
  refine iy_i (by omega) (by omega) ?_
  refine x_nm (fun U6 hU6 => ?_)
  have e7 := up_f hU6
  intro b8 b8b
  have e9 : U6 108 0 5 = T 108 0 5 := (up_k hU6 (by exact Nat.ne_of_beq_eq_false rfl) 0 5).trans (up_k hU2 (by exact Nat.ne_of_beq_eq_false rfl) 0 5)
  rw [e9] at b8 b8b ⊢
  refine iy_i (by omega) (by omega) ?_
  refine x_nm (fun U10 hU10 => ?_)
  have e11 := up_f hU10
  intro b12 b12b
  have e13 : U10 108 0 5 = T 108 0 5 := (up_k hU10 (by exact Nat.ne_of_beq_eq_false rfl) 0 5).trans ((up_k hU6 (by exact Nat.ne_of_beq_eq_false rfl) 0 5).trans (up_k hU2 (by exact Nat.ne_of_beq_eq_false rfl) 0 5))
  rw [e13] at b12 b12b ⊢
  refine ix_i (by omega) ?_
  intro b14 b14b
  have e15 : U10 564 0 p = T 564 0 p := (up_k hU10 (by exact Nat.ne_of_beq_eq_false rfl) 0 p).trans ((up_k hU6 (by exact Nat.ne_of_beq_eq_false rfl) 0 p).trans (up_k hU2 (by exact Nat.ne_of_beq_eq_false rfl) 0 p))
  rw [e15] at b14 b14b ⊢
  refine iy_i (by omega) (by omega) ?_
  refine x_nm (fun U16 hU16 => ?_)
  have e17 := up_f hU16
  intro b18 b18b
  have e19 : U16 108 0 5 = T 108 0 5 := (up_k hU16 (by exact Nat.ne_of_beq_eq_false rfl) 0 5).trans ((up_k hU10 (by exact Nat.ne_of_beq_eq_false rfl) 0 5).trans ((up_k hU6 (by exact Nat.ne_of_beq_eq_false rfl) 0 5).trans (up_k hU2 (by exact Nat.ne_of_beq_eq_false rfl) 0 5)))
  rw [e19] at b18 b18b ⊢
  refine iy_i (by omega) (by omega) ?_
  refine x_nm (fun U20 hU20 => ?_)
  have e21 := up_f hU20
  intro b22 b22b
  have e23 : U20 108 0 5 = T 108 0 5 := (up_k hU20 (by exact Nat.ne_of_beq_eq_false rfl) 0 5).trans ((up_k hU16 (by exact Nat.ne_of_beq_eq_false rfl) 0 5).trans ((up_k hU10 (by exact Nat.ne_of_beq_eq_false rfl) 0 5).trans ((up_k hU6 (by exact Nat.ne_of_beq_eq_false rfl) 0 5).trans (up_k hU2 (by exact Nat.ne_of_beq_eq_false rfl) 0 5))))
  rw [e23] at b22 b22b ⊢
  refine rg_i (by omega) ?_
  refine bd_i (by omega) ?_
  refine x_nm (fun U24 hU24 => ?_)
  have e25 := up_f hU24
  refine (show po_X8_addSpan_e T p cl a b U24 (none) from ?_)
  exact ⟨rfl, fr_u (fr_u (fr_u (fr_u (fr_u (fr_u (fr_0 _ _) hU2 rfl) hU6 rfl) hU10 rfl) hU16 rfl) hU20 rfl) hU24 rfl, by rw [hU24, hU20, hU16, hU10, hU6, hU2]; exact as_e⟩
abbrev po_X10_register_e (T : Zt) (p cl a b : Int) : Zt → Option Zv → Prop := fun T' r => ∃ x : Int, r = some (vI x) ∧ fr_ [(108, [5]), (566, []), (567, []), (568, []), (569, []), (564, [])] T T' ∧ (QR_ T T' p cl a b x)
set_option maxHeartbeats 4000000 in
theorem ct_X10_register_e {T : Zt} {p cl a b : Int} (hsp : SPR_ T) : Ct_ yX10_register zX10_register T [vR 110 0, vI p, vI cl, vI a, vI b] (po_X10_register_e T p cl a b) := by
  refine ct_of pn_10 rfl rfl (Nat.le_of_ble_eq_true rfl) (fun hT hav => ?_)
  have hr_p : -2147483648 ≤ p ∧ p ≤ 2147483647 := hav (vI p) (List.mem_cons_of_mem _ List.mem_cons_self)
  have hr_cl : -2147483648 ≤ cl ∧ cl ≤ 2147483647 := hav (vI cl) (List.mem_cons_of_mem _ (List.mem_cons_of_mem _ List.mem_cons_self))
  have hr_a : -2147483648 ≤ a ∧ a ≤ 2147483647 := hav (vI a) (List.mem_cons_of_mem _ (List.mem_cons_of_mem _ (List.mem_cons_of_mem _ List.mem_cons_self)))
  have hr_b : -2147483648 ≤ b ∧ b ≤ 2147483647 := hav (vI b) (List.mem_cons_of_mem _ (List.mem_cons_of_mem _ (List.mem_cons_of_mem _ (List.mem_cons_of_mem _ List.mem_cons_self))))
  have hz : zX10_register.2.2.2.1 = some .boolean → ∀ (T' : Zt) (x : Int), po_X10_register_e T p cl a b T' (some (vI x)) → 0 ≤ x ∧ x ≤ 1 := fun h => by cases h
  have hb_spans : 0 ≤ T 108 0 5 ∧ T 108 0 5 ≤ 300 := bd_f hT 108 5 tl_8_5 0
  have hb_persons : 0 ≤ T 108 0 3 ∧ T 108 0 3 ≤ 200 := bd_f hT 108 3 tl_8_3 0
  have hb_clubs : 0 ≤ T 108 0 2 ∧ T 108 0 2 ≤ 12 := bd_f hT 108 2 tl_8_2 0
  show J_ zX10_register T (po_X10_register_e T p cl a b) 0 0 0 [some (vR 110 0), some (vI p), some (vI cl), some (vI a), some (vI b)] [] T
  refine j_blx (F := fX10) tb_X10 (nn_ _) bk_X10_register_0 bs_X10_register_0 hz (fun K hK => ?_)
  refine hK 2 _ [vI p, vR 110 0] T ?_
  refine j_callV (y := yX10_isPerson) (Yc := zX10_isPerson) (rest := []) [vI p] (ct_X10_isPerson (T := T)) cl_X10_134 (qd_c (by decide +kernel)) (nn_ _) rfl (rf_of rfl) (Nat.le_of_ble_eq_true rfl) (Nat.le_of_ble_eq_true rfl) (Nat.le_of_ble_eq_true rfl) rfl ?_
  rintro _ _ ⟨rfl, x1, rfl, hx1⟩
  show J_ zX10_register T (po_X10_register_e T p cl a b) 0 0 5 _ [vI x1] T
  refine j_blx (F := fX10) tb_X10 (nn_ _) bk_X10_register_5 bs_X10_register_5 hz (fun K hK => ?_)
  refine And.intro (fun c2 => ?_) (fun c2 => ?_)
  · replace hx1 := hx1.resolve_left (fun z => absurd (c2.symm.trans z.1) (by decide))
    clear c2
    refine hK 16 _ [] T ?_
    refine j_blx (F := fX10) tb_X10 (nn_ _) bk_X10_register_16 bs_X10_register_16 hz (fun K hK => ?_)
    refine (show po_X10_register_e T p cl a b T (some (vI (-2))) from ?_)
    exact ⟨_, rfl, fr_0 _ _, Or.inl ⟨rfl, by omega, rfl⟩⟩
  · replace hx1 := hx1.resolve_right (fun z => c2 z.1)
    clear c2
    refine hK 10 _ [vI cl, vR 110 0] T ?_
    refine j_callV (y := yX10_isClub) (Yc := zX10_isClub) (rest := []) [vI cl] (ct_X10_isClub (T := T)) cl_X10_137 (qd_c (by decide +kernel)) (nn_ _) rfl (rf_of rfl) (Nat.le_of_ble_eq_true rfl) (Nat.le_of_ble_eq_true rfl) (Nat.le_of_ble_eq_true rfl) rfl ?_
    rintro _ _ ⟨rfl, x3, rfl, hx3⟩
    show J_ zX10_register T (po_X10_register_e T p cl a b) 0 0 13 _ [vI x3] T
    refine j_blx (F := fX10) tb_X10 (nn_ _) bk_X10_register_13 bs_X10_register_13 hz (fun K hK => ?_)
    refine And.intro (fun c4 => ?_) (fun c4 => ?_)
    · replace hx3 := hx3.resolve_right (fun z => c4 z.1)
      clear c4
      refine hK 19 _ [] T ?_
      refine j_blx (F := fX10) tb_X10 (nn_ _) bk_X10_register_19 bs_X10_register_19 hz (fun K hK => ?_)
      refine hK 20 _ [vI a] T ?_
      refine j_callS (y := yX10_isDay) (Yc := zX10_isDay) (rest := []) [vI a] (ct_X10_isDay (T := T)) cl_X10_140 (qd_c (by decide +kernel)) (nn_ _) rfl (rf_of rfl) (Nat.le_of_ble_eq_true rfl) (Nat.le_of_ble_eq_true rfl) (Nat.le_of_ble_eq_true rfl) rfl ?_
      rintro _ _ ⟨rfl, x5, rfl, hx5⟩
      show J_ zX10_register T (po_X10_register_e T p cl a b) 0 0 23 _ [vI x5] T
      refine j_blx (F := fX10) tb_X10 (nn_ _) bk_X10_register_23 bs_X10_register_23 hz (fun K hK => ?_)
      refine And.intro (fun c6 => ?_) (fun c6 => ?_)
      · replace hx5 := hx5.resolve_left (fun z => absurd (c6.symm.trans z.1) (by decide))
        clear c6
        refine hK 40 _ [] T ?_
        refine j_blx (F := fX10) tb_X10 (nn_ _) bk_X10_register_40 bs_X10_register_40 hz (fun K hK => ?_)
        refine (show po_X10_register_e T p cl a b T (some (vI (-3))) from ?_)
        exact ⟨_, rfl, fr_0 _ _, Or.inr (Or.inl ⟨rfl, by omega, by omega, rfl⟩)⟩
      · replace hx5 := hx5.resolve_right (fun z => c6 z.1)
        clear c6
        refine hK 28 _ [vI b] T ?_
        refine j_callS (y := yX10_isDay) (Yc := zX10_isDay) (rest := []) [vI b] (ct_X10_isDay (T := T)) cl_X10_140 (qd_c (by decide +kernel)) (nn_ _) rfl (rf_of rfl) (Nat.le_of_ble_eq_true rfl) (Nat.le_of_ble_eq_true rfl) (Nat.le_of_ble_eq_true rfl) rfl ?_
        rintro _ _ ⟨rfl, x7, rfl, hx7⟩
        show J_ zX10_register T (po_X10_register_e T p cl a b) 0 0 31 _ [vI x7] T
        refine j_blx (F := fX10) tb_X10 (nn_ _) bk_X10_register_31 bs_X10_register_31 hz (fun K hK => ?_)
        refine And.intro (fun c8 => ?_) (fun c8 => ?_)
        · replace hx7 := hx7.resolve_left (fun z => absurd (c8.symm.trans z.1) (by decide))
          clear c8
          refine hK 40 _ [] T ?_
          refine j_blx (F := fX10) tb_X10 (nn_ _) bk_X10_register_40 bs_X10_register_40 hz (fun K hK => ?_)
          refine (show po_X10_register_e T p cl a b T (some (vI (-3))) from ?_)
          exact ⟨_, rfl, fr_0 _ _, Or.inr (Or.inl ⟨rfl, by omega, by omega, rfl⟩)⟩
        · replace hx7 := hx7.resolve_right (fun z => c8 z.1)
          clear c8
          refine And.intro (fun c9 => ?_) (fun c9 => ?_)
          · refine hK 43 _ [] T ?_
            refine j_blx (F := fX10) tb_X10 (nn_ _) bk_X10_register_43 bs_X10_register_43 hz (fun K hK => ?_)
            refine hK 51 _ [vI b, vI a, vI p, vR 108 0] T ?_
            refine j_callV (y := yX8_isRegisteredWithin) (Yc := zX8_isRegisteredWithin) (rest := []) [vI p, vI a, vI b] (ct_X8_isRegisteredWithin_e (T := T) (by omega) (by omega) (hsp)) cl_X10_143 (qd_c (by decide +kernel)) (nn_ _) rfl (rf_of rfl) (Nat.le_of_ble_eq_true rfl) (Nat.le_of_ble_eq_true rfl) (Nat.le_of_ble_eq_true rfl) rfl ?_
            rintro _ _ ⟨rfl, x10, rfl, hx10⟩
            show J_ zX10_register T (po_X10_register_e T p cl a b) 0 0 54 _ [vI x10] T
            have hreg := hx10
            refine j_blx (F := fX10) tb_X10 (nn_ _) bk_X10_register_54 bs_X10_register_54 hz (fun K hK => ?_)
            refine And.intro (fun c11 => ?_) (fun c11 => ?_)
            · refine hK 60 _ [] T ?_
              refine j_blx (F := fX10) tb_X10 (nn_ _) bk_X10_register_60 bs_X10_register_60 hz (fun K hK => ?_)
              intro b12 b12b
              refine And.intro (fun c13 => ?_) (fun c13 => ?_)
              · refine hK 76 _ [] T ?_
                refine j_blx (F := fX10) tb_X10 (nn_ _) bk_X10_register_76 bs_X10_register_76 hz (fun K hK => ?_)
                refine hK 85 _ [vI b, vI a, vI cl, vI p, vR 108 0] T ?_
                refine j_callV (y := yX8_addSpan) (Yc := zX8_addSpan) (rest := []) [vI p, vI cl, vI a, vI b] (ct_X8_addSpan_e (T := T) (by omega) (by omega) (by omega) (by omega) (by omega)) cl_X10_150 (qd_c (by decide +kernel)) (nn_ _) rfl (rf_of rfl) (Nat.le_of_ble_eq_true rfl) (Nat.le_of_ble_eq_true rfl) (Nat.le_of_ble_eq_true rfl) rfl ?_
                rintro U14 _ ⟨rfl, fU14, qU14⟩
                show J_ zX10_register T (po_X10_register_e T p cl a b) 0 0 88 _ [] U14
                refine j_blx (F := fX10) tb_X10 (nn_ _) bk_X10_register_88 bs_X10_register_88 hz (fun K hK => ?_)
                intro b15 b15b
                refine (show po_X10_register_e T p cl a b U14 (some (vI (U14 108 0 5))) from ?_)
                exact ⟨_, rfl, fr_t (fr_0 _ _) (fr_s fU14 rfl), Or.inr (Or.inr (Or.inr (Or.inr ⟨qU14.1, by omega, by omega, (hreg.elim (fun h => absurd h.1 (by omega)) (fun h => h.2)), by omega, qU14⟩)))⟩
              · refine (show po_X10_register_e T p cl a b T (some (vI (-5))) from ?_)
                exact ⟨_, rfl, fr_0 _ _, Or.inr (Or.inr (Or.inr (Or.inl ⟨rfl, by omega, by omega, (hreg.elim (fun h => absurd h.1 (by omega)) (fun h => h.2)), by omega, rfl⟩)))⟩
            · refine (show po_X10_register_e T p cl a b T (some (vI (-4))) from ?_)
              exact ⟨_, rfl, fr_0 _ _, Or.inr (Or.inr (Or.inl ⟨rfl, by omega, by omega, (hreg.elim (fun h => h.2) (fun h => absurd h.1 (by omega))), rfl⟩))⟩
          · refine (show po_X10_register_e T p cl a b T (some (vI (-3))) from ?_)
            exact ⟨_, rfl, fr_0 _ _, Or.inr (Or.inl ⟨rfl, by omega, by omega, rfl⟩)⟩
    · replace hx3 := hx3.resolve_left (fun z => absurd (c4.symm.trans z.1) (by decide))
      clear c4
      refine (show po_X10_register_e T p cl a b T (some (vI (-2))) from ?_)
      exact ⟨_, rfl, fr_0 _ _, Or.inl ⟨rfl, by omega, rfl⟩⟩
abbrev po_X10_person_e (T : Zt) : Zt → Option Zv → Prop := fun T' r => ∃ x : Int, r = some (vI x) ∧ fr_ [(108, [3]), (564, [])] T T' ∧ (QP_ T T' x)
set_option maxHeartbeats 4000000 in
theorem ct_X10_person_e {T : Zt} : Ct_ yX10_person zX10_person T [vR 110 0] (po_X10_person_e T) := by
  refine ct_of pn_10 rfl rfl (Nat.le_of_ble_eq_true rfl) (fun hT hav => ?_)
  have hz : zX10_person.2.2.2.1 = some .boolean → ∀ (T' : Zt) (x : Int), po_X10_person_e T T' (some (vI x)) → 0 ≤ x ∧ x ≤ 1 := fun h => by cases h
  have hb_persons : 0 ≤ T 108 0 3 ∧ T 108 0 3 ≤ 200 := bd_f hT 108 3 tl_8_3 0
  show J_ zX10_person T (po_X10_person_e T) 0 0 0 [some (vR 110 0), none] [] T
  refine j_blx (F := fX10) tb_X10 (nn_ _) bk_X10_person_0 bs_X10_person_0 hz (fun K hK => ?_)
  intro b1 b1b
  refine And.intro (fun c2 => ?_) (fun c2 => ?_)
  · refine hK 16 _ [] T ?_
    refine j_blx (F := fX10) tb_X10 (nn_ _) bk_X10_person_16 bs_X10_person_16 hz (fun K hK => ?_)
    intro b3 b3b
    refine iy_i (by omega) (by omega) ?_
    refine x_nm (fun U4 hU4 => ?_)
    have e5 := up_f hU4
    intro b6 b6b
    have e7 : U4 108 0 3 = T 108 0 3 := up_k hU4 (by exact Nat.ne_of_beq_eq_false rfl) 0 3
    rw [e7] at b6 b6b ⊢
    refine rg_i (by omega) ?_
    refine bd_i (by omega) ?_
    refine x_nm (fun U8 hU8 => ?_)
    have e9 := up_f hU8
    refine (show po_X10_person_e T U8 (some (vI (T 108 0 3))) from ?_)
    exact ⟨_, rfl, fr_u (fr_u (fr_0 _ _) hU4 rfl) hU8 rfl, by rw [hU8, hU4]; exact qp_e (by omega)⟩
  · refine (show po_X10_person_e T T (some (vI (-5))) from ?_)
    exact ⟨_, rfl, fr_0 _ _, Or.inl ⟨by omega, rfl, rfl⟩⟩
abbrev po_X11_register_e (T : Zt) (p c f t : Int) : Zt → Option Zv → Prop := fun T' r => ∃ x : Int, r = some (vI x) ∧ fr_ [(111, [16]), (217, []), (218, []), (219, []), (220, [])] T T' ∧ (QM_ T T' p c f t x)
set_option maxHeartbeats 4000000 in
theorem ct_X11_register_e {T : Zt} {p c f t : Int} : Ct_ yX11_register zX11_register T [vR 111 0, vI p, vI c, vI f, vI t] (po_X11_register_e T p c f t) := by
  refine ct_of pn_11 rfl rfl (Nat.le_of_ble_eq_true rfl) (fun hT hav => ?_)
  have hr_p : -2147483648 ≤ p ∧ p ≤ 2147483647 := hav (vI p) (List.mem_cons_of_mem _ List.mem_cons_self)
  have hr_c : -2147483648 ≤ c ∧ c ≤ 2147483647 := hav (vI c) (List.mem_cons_of_mem _ (List.mem_cons_of_mem _ List.mem_cons_self))
  have hr_f : -2147483648 ≤ f ∧ f ≤ 2147483647 := hav (vI f) (List.mem_cons_of_mem _ (List.mem_cons_of_mem _ (List.mem_cons_of_mem _ List.mem_cons_self)))
  have hr_t : -2147483648 ≤ t ∧ t ≤ 2147483647 := hav (vI t) (List.mem_cons_of_mem _ (List.mem_cons_of_mem _ (List.mem_cons_of_mem _ (List.mem_cons_of_mem _ List.mem_cons_self))))
  have hz : zX11_register.2.2.2.1 = some .boolean → ∀ (T' : Zt) (x : Int), po_X11_register_e T p c f t T' (some (vI x)) → 0 ≤ x ∧ x ≤ 1 := fun h => by cases h
  have hb_16 : 0 ≤ T 111 0 16 ∧ T 111 0 16 ≤ 300 := bd_f hT 111 16 tl_11_16 0
  have hb_15 : 0 ≤ T 111 0 15 ∧ T 111 0 15 ≤ 200 := bd_f hT 111 15 tl_11_15 0
  have hb_12 : 0 ≤ T 111 0 12 ∧ T 111 0 12 ≤ 12 := bd_f hT 111 12 tl_11_12 0
  show J_ zX11_register T (po_X11_register_e T p c f t) 0 0 0 [some (vR 111 0), some (vI p), some (vI c), some (vI f), some (vI t), none] [] T
  have c_60 : ∀ (nn : Nat) (s : Int), ((300 - s).toNat) ≤ nn → (0 ≤ s) → (OKP_ p c (T 111 0 15) (T 111 0 12) ∧ OKD_ f t) → (FSR_ T p f t s) → J_ zX11_register T (po_X11_register_e T p c f t) 0 0 60 [some (vR 111 0), some (vI p), some (vI c), some (vI f), some (vI t), some (vI s)] [] T := by
    intro nn
    induction nn using Nat.strongRecOn with
    | _ nn ih_60 =>
      intro s hm_60 i1 i2 i3
      replace hm_60 := fun (_ : Unit) => hm_60
      refine j_blx (F := fX11) tb_X11 (nn_ _) bk_X11_register_60 bs_X11_register_60 hz (fun K hK => ?_)
      intro b1 b1b
      refine And.intro (fun c2 => ?_) (fun c2 => ?_)
      · refine hK 112 _ [] T ?_
        refine j_blx (F := fX11) tb_X11 (nn_ _) bk_X11_register_112 bs_X11_register_112 hz (fun K hK => ?_)
        intro b3 b3b
        refine And.intro (fun c4 => ?_) (fun c4 => ?_)
        · refine hK 125 _ [] T ?_
          refine j_blx (F := fX11) tb_X11 (nn_ _) bk_X11_register_125 bs_X11_register_125 hz (fun K hK => ?_)
          intro b5 b5b
          refine iy_i (by omega) (by omega) ?_
          refine x_nm (fun U6 hU6 => ?_)
          have e7 := up_f hU6
          intro b8 b8b
          have e9 : U6 111 0 16 = T 111 0 16 := up_k hU6 (by exact Nat.ne_of_beq_eq_false rfl) 0 16
          rw [e9] at b8 b8b ⊢
          refine iy_i (by omega) (by omega) ?_
          refine x_nm (fun U10 hU10 => ?_)
          have e11 := up_f hU10
          intro b12 b12b
          have e13 : U10 111 0 16 = T 111 0 16 := (up_k hU10 (by exact Nat.ne_of_beq_eq_false rfl) 0 16).trans (up_k hU6 (by exact Nat.ne_of_beq_eq_false rfl) 0 16)
          rw [e13] at b12 b12b ⊢
          refine iy_i (by omega) (by omega) ?_
          refine x_nm (fun U14 hU14 => ?_)
          have e15 := up_f hU14
          intro b16 b16b
          have e17 : U14 111 0 16 = T 111 0 16 := (up_k hU14 (by exact Nat.ne_of_beq_eq_false rfl) 0 16).trans ((up_k hU10 (by exact Nat.ne_of_beq_eq_false rfl) 0 16).trans (up_k hU6 (by exact Nat.ne_of_beq_eq_false rfl) 0 16))
          rw [e17] at b16 b16b ⊢
          refine iy_i (by omega) (by omega) ?_
          refine x_nm (fun U18 hU18 => ?_)
          have e19 := up_f hU18
          intro b20 b20b
          have e21 : U18 111 0 16 = T 111 0 16 := (up_k hU18 (by exact Nat.ne_of_beq_eq_false rfl) 0 16).trans ((up_k hU14 (by exact Nat.ne_of_beq_eq_false rfl) 0 16).trans ((up_k hU10 (by exact Nat.ne_of_beq_eq_false rfl) 0 16).trans (up_k hU6 (by exact Nat.ne_of_beq_eq_false rfl) 0 16)))
          rw [e21] at b20 b20b ⊢
          refine rg_i (by omega) ?_
          refine bd_i (by omega) ?_
          refine x_nm (fun U22 hU22 => ?_)
          have e23 := up_f hU22
          intro b24 b24b
          have e25 : U22 111 0 16 = (T 111 0 16) + 1 := up_f hU22
          rw [e25] at b24 b24b ⊢
          refine (show po_X11_register_e T p c f t U22 (some (vI ((T 111 0 16) + 1))) from ?_)
          exact ⟨_, rfl, fr_u (fr_u (fr_u (fr_u (fr_u (fr_0 _ _) hU6 rfl) hU10 rfl) hU14 rfl) hU18 rfl) hU22 rfl, Or.inr (Or.inr (Or.inr (Or.inr ⟨by omega, by omega, by omega, fsr_m i3 (by omega), by omega, by rw [hU22, hU18, hU14, hU10, hU6]; exact am_e⟩)))⟩
        · refine (show po_X11_register_e T p c f t T (some (vI (-5))) from ?_)
          exact ⟨_, rfl, fr_0 _ _, Or.inr (Or.inr (Or.inr (Or.inl ⟨rfl, by omega, by omega, fsr_m i3 (by omega), by omega, rfl⟩)))⟩
      · refine ix_i (by omega) ?_
        intro b26 b26b
        refine And.intro (fun c27 => ?_) (fun c27 => ?_)
        · refine hK 106 _ [] T ?_
          refine j_blx (F := fX11) tb_X11 (nn_ _) bk_X11_register_106 bs_X11_register_106 hz (fun K hK => ?_)
          refine rg_i (by omega) ?_
          refine hK 60 [some (vR 111 0), some (vI p), some (vI c), some (vI f), some (vI t), some (vI (s + 1))] [] T ?_
          refine ih_60 _ ?_ (s + 1) (Nat.le_refl _) ?_ ?_ ?_
          · have hm_60 := hm_60 (); omega
          · omega
          · omega
          · exact fsr_s i3 (by omega)
        · refine ix_i (by omega) ?_
          intro b28 b28b
          refine And.intro (fun c29 => ?_) (fun c29 => ?_)
          · refine hK 106 [some (vR 111 0), some (vI p), some (vI c), some (vI f), some (vI t), some (vI s)] [] T ?_
            refine j_blx (F := fX11) tb_X11 (nn_ _) bk_X11_register_106 bs_X11_register_106 hz (fun K hK => ?_)
            refine rg_i (by omega) ?_
            refine hK 60 [some (vR 111 0), some (vI p), some (vI c), some (vI f), some (vI t), some (vI (s + 1))] [] T ?_
            refine ih_60 _ ?_ (s + 1) (Nat.le_refl _) ?_ ?_ ?_
            · have hm_60 := hm_60 (); omega
            · omega
            · omega
            · exact fsr_s i3 (by omega)
          · refine ix_i (by omega) ?_
            intro b30 b30b
            refine And.intro (fun c31 => ?_) (fun c31 => ?_)
            · refine hK 106 [some (vR 111 0), some (vI p), some (vI c), some (vI f), some (vI t), some (vI s)] [] T ?_
              refine j_blx (F := fX11) tb_X11 (nn_ _) bk_X11_register_106 bs_X11_register_106 hz (fun K hK => ?_)
              refine rg_i (by omega) ?_
              refine hK 60 [some (vR 111 0), some (vI p), some (vI c), some (vI f), some (vI t), some (vI (s + 1))] [] T ?_
              refine ih_60 _ ?_ (s + 1) (Nat.le_refl _) ?_ ?_ ?_
              · have hm_60 := hm_60 (); omega
              · omega
              · omega
              · exact fsr_s i3 (by omega)
            · refine (show po_X11_register_e T p c f t T (some (vI (-4))) from ?_)
              exact ⟨_, rfl, fr_0 _ _, Or.inr (Or.inr (Or.inl ⟨rfl, by omega, by omega, fsr_w (s := s) (by omega) (by omega) (by omega) (by omega) (by omega), rfl⟩))⟩
  refine j_blx (F := fX11) tb_X11 (nn_ _) bk_X11_register_0 bs_X11_register_0 hz (fun K hK => ?_)
  intro b32 b32b
  refine hK 5 _ [vI (T 111 0 15), vI p] T ?_
  refine j_callS (y := yX11_isOf) (Yc := zX11_isOf) (rest := []) [vI p, vI (T 111 0 15)] (ct_X11_isOf (T := T) (by omega)) cl_X11_317 (qd_c (by decide +kernel)) (nn_ _) rfl (rf_of rfl) (Nat.le_of_ble_eq_true rfl) (Nat.le_of_ble_eq_true rfl) (Nat.le_of_ble_eq_true rfl) rfl ?_
  rintro _ _ ⟨rfl, x33, rfl, hx33⟩
  show J_ zX11_register T (po_X11_register_e T p c f t) 0 0 8 _ [vI x33] T
  refine j_blx (F := fX11) tb_X11 (nn_ _) bk_X11_register_8 bs_X11_register_8 hz (fun K hK => ?_)
  refine And.intro (fun c34 => ?_) (fun c34 => ?_)
  · replace hx33 := hx33.resolve_left (fun z => absurd (c34.symm.trans z.1) (by decide))
    clear c34
    refine hK 22 _ [] T ?_
    refine j_blx (F := fX11) tb_X11 (nn_ _) bk_X11_register_22 bs_X11_register_22 hz (fun K hK => ?_)
    refine (show po_X11_register_e T p c f t T (some (vI (-2))) from ?_)
    exact ⟨_, rfl, fr_0 _ _, Or.inl ⟨rfl, by omega, rfl⟩⟩
  · replace hx33 := hx33.resolve_right (fun z => c34 z.1)
    clear c34
    intro b35 b35b
    refine hK 16 _ [vI (T 111 0 12), vI c] T ?_
    refine j_callS (y := yX11_isOf) (Yc := zX11_isOf) (rest := []) [vI c, vI (T 111 0 12)] (ct_X11_isOf (T := T) (by omega)) cl_X11_317 (qd_c (by decide +kernel)) (nn_ _) rfl (rf_of rfl) (Nat.le_of_ble_eq_true rfl) (Nat.le_of_ble_eq_true rfl) (Nat.le_of_ble_eq_true rfl) rfl ?_
    rintro _ _ ⟨rfl, x36, rfl, hx36⟩
    show J_ zX11_register T (po_X11_register_e T p c f t) 0 0 19 _ [vI x36] T
    refine j_blx (F := fX11) tb_X11 (nn_ _) bk_X11_register_19 bs_X11_register_19 hz (fun K hK => ?_)
    refine And.intro (fun c37 => ?_) (fun c37 => ?_)
    · replace hx36 := hx36.resolve_right (fun z => c37 z.1)
      clear c37
      refine hK 25 _ [] T ?_
      refine j_blx (F := fX11) tb_X11 (nn_ _) bk_X11_register_25 bs_X11_register_25 hz (fun K hK => ?_)
      refine hK 30 _ [vI 999, vI 0, vI f] T ?_
      refine j_callS (y := yX11_in) (Yc := zX11_in) (rest := []) [vI f, vI 0, vI 999] (ct_X11_in (T := T)) cl_X11_255 (qd_c (by decide +kernel)) (nn_ _) rfl (rf_of rfl) (Nat.le_of_ble_eq_true rfl) (Nat.le_of_ble_eq_true rfl) (Nat.le_of_ble_eq_true rfl) rfl ?_
      rintro _ _ ⟨rfl, x38, rfl, hx38⟩
      show J_ zX11_register T (po_X11_register_e T p c f t) 0 0 33 _ [vI x38] T
      refine j_blx (F := fX11) tb_X11 (nn_ _) bk_X11_register_33 bs_X11_register_33 hz (fun K hK => ?_)
      refine And.intro (fun c39 => ?_) (fun c39 => ?_)
      · replace hx38 := hx38.resolve_left (fun z => absurd (c39.symm.trans z.1) (by decide))
        clear c39
        refine hK 54 _ [] T ?_
        refine j_blx (F := fX11) tb_X11 (nn_ _) bk_X11_register_54 bs_X11_register_54 hz (fun K hK => ?_)
        refine (show po_X11_register_e T p c f t T (some (vI (-3))) from ?_)
        exact ⟨_, rfl, fr_0 _ _, Or.inr (Or.inl ⟨rfl, by omega, by omega, rfl⟩)⟩
      · replace hx38 := hx38.resolve_right (fun z => c39 z.1)
        clear c39
        refine hK 42 _ [vI 999, vI 0, vI t] T ?_
        refine j_callS (y := yX11_in) (Yc := zX11_in) (rest := []) [vI t, vI 0, vI 999] (ct_X11_in (T := T)) cl_X11_255 (qd_c (by decide +kernel)) (nn_ _) rfl (rf_of rfl) (Nat.le_of_ble_eq_true rfl) (Nat.le_of_ble_eq_true rfl) (Nat.le_of_ble_eq_true rfl) rfl ?_
        rintro _ _ ⟨rfl, x40, rfl, hx40⟩
        show J_ zX11_register T (po_X11_register_e T p c f t) 0 0 45 _ [vI x40] T
        refine j_blx (F := fX11) tb_X11 (nn_ _) bk_X11_register_45 bs_X11_register_45 hz (fun K hK => ?_)
        refine And.intro (fun c41 => ?_) (fun c41 => ?_)
        · replace hx40 := hx40.resolve_left (fun z => absurd (c41.symm.trans z.1) (by decide))
          clear c41
          refine hK 54 _ [] T ?_
          refine j_blx (F := fX11) tb_X11 (nn_ _) bk_X11_register_54 bs_X11_register_54 hz (fun K hK => ?_)
          refine (show po_X11_register_e T p c f t T (some (vI (-3))) from ?_)
          exact ⟨_, rfl, fr_0 _ _, Or.inr (Or.inl ⟨rfl, by omega, by omega, rfl⟩)⟩
        · replace hx40 := hx40.resolve_right (fun z => c41 z.1)
          clear c41
          refine And.intro (fun c42 => ?_) (fun c42 => ?_)
          · refine hK 57 _ [] T ?_
            refine j_blx (F := fX11) tb_X11 (nn_ _) bk_X11_register_57 bs_X11_register_57 hz (fun K hK => ?_)
            refine hK 60 [some (vR 111 0), some (vI p), some (vI c), some (vI f), some (vI t), some (vI 0)] [] T ?_
            refine c_60 _ 0 (Nat.le_refl _) ?_ ?_ ?_
            · omega
            · omega
            · exact fun j a b => by omega
          · refine (show po_X11_register_e T p c f t T (some (vI (-3))) from ?_)
            exact ⟨_, rfl, fr_0 _ _, Or.inr (Or.inl ⟨rfl, by omega, by omega, rfl⟩)⟩
    · replace hx36 := hx36.resolve_left (fun z => absurd (c37.symm.trans z.1) (by decide))
      clear c37
      refine (show po_X11_register_e T p c f t T (some (vI (-2))) from ?_)
      exact ⟨_, rfl, fr_0 _ _, Or.inl ⟨rfl, by omega, rfl⟩⟩
-- spans: what keeps them alike
def krc_ (T T' : Zt) : Prop := T' 108 0 5 = T 108 0 5 ∧ (∀ j, T' 566 0 j = T 566 0 j) ∧ (∀ j, T' 567 0 j = T 567 0 j) ∧ (∀ j, T' 568 0 j = T 568 0 j) ∧ (∀ j, T' 569 0 j = T 569 0 j)
def kfs_ (T T' : Zt) : Prop := ∀ j, T' 564 0 j = T 564 0 j
def krm_ (T T' : Zt) : Prop := T' 111 0 16 = T 111 0 16 ∧ (∀ j, T' 217 0 j = T 217 0 j) ∧ (∀ j, T' 218 0 j = T 218 0 j) ∧ (∀ j, T' 219 0 j = T 219 0 j) ∧ (∀ j, T' 220 0 j = T 220 0 j)
theorem lpz_c {T T' : Zt} {p m v : Int} (h : lpz_ T p m v) (e : ∀ j, 0 ≤ j → j < m → T' 217 0 j = T 217 0 j) : lpz_ T' p m v := by
  rcases h with ⟨h1, h2⟩ | ⟨h1, h2, h3, h4⟩
  · exact Or.inl ⟨h1, fun j a b => by rw [e j a b]; exact h2 j a b⟩
  · exact Or.inr ⟨h1, h2, by rw [e v h1 h2]; exact h3, fun j a b => by rw [e j (by omega) b]; exact h4 j a b⟩
theorem spr_k {T T' : Zt} (h : SPR_ T) (e : T' 108 0 3 = T 108 0 3) (k : krc_ T T') (f : kfs_ T T') (m : krm_ T T') : SPR_ T' := by
  obtain ⟨h1, h2, h3, h4, h5⟩ := h
  obtain ⟨c0, c1, c2, c3, c4⟩ := k
  obtain ⟨m0, m1, m2, m3, m4⟩ := m
  refine ⟨by omega, fun s a b => ?_, fun p a b => ?_, fun s a b => ?_, fun s a b => ?_⟩
  · rw [c1, c2, c3, m2, m3, m4]
    exact h2 s a (by omega)
  · rw [c0, f p]
    exact lpz_c (h3 p a (by omega)) (fun j _ _ => m1 j)
  · rw [m1 s, c4 s]
    exact lpz_c (h4 s a (by omega)) (fun j _ _ => m1 j)
  · rw [m1 s, e]
    exact h5 s a (by omega)
/-- a person more on the house's side, then on the reference's -/
theorem spr_p {T T1 T2 : Zt} {x : Int} (h : SPR_ T) (q : QP_ T T1 x) (k : krc_ T T1) (m : krm_ T T1) (e2 : T2 108 0 3 = T1 108 0 3) (k2 : krc_ T1 T2) (f2 : kfs_ T1 T2) (m2 : krm_ T1 T2) : SPR_ T2 := by
  refine spr_k (T := T1) ?_ e2 k2 f2 m2
  rcases q with ⟨-, -, rfl⟩ | ⟨q1, q2, q3, q4, q5⟩
  · exact h
  · obtain ⟨h1, h2, h3, h4, h5⟩ := h
    obtain ⟨c0, c1, c2, c3, c4⟩ := k
    obtain ⟨n0, n1, n2, n3, n4⟩ := m
    refine ⟨by omega, fun s a b => ?_, fun p a b => ?_, fun s a b => ?_, fun s a b => ?_⟩
    · rw [c1, c2, c3, n2, n3, n4]
      exact h2 s a (by omega)
    · by_cases ep : p = T 108 0 3
      · subst ep
        rw [q4]
        refine Or.inl ⟨rfl, fun j u v => ?_⟩
        rw [n1 j]
        have := (h5 j u (by omega)).2
        omega
      · rw [c0, q5 p ep]
        exact lpz_c (h3 p a (by omega)) (fun j _ _ => n1 j)
    · rw [n1 s, c4 s]
      exact lpz_c (h4 s a (by omega)) (fun j _ _ => n1 j)
    · rw [n1 s, q3]
      have := h5 s a (by omega)
      omega
/-- a span more on both sides -/
theorem spr_a {T T1 T2 : Zt} {p cl a b : Int} (h : SPR_ T) (hp : 0 ≤ p ∧ p < T 108 0 3) (hn : 0 ≤ T 108 0 5) (A : AS_ T T1 p cl a b) (m : krm_ T T1) (e1 : T1 108 0 3 = T 108 0 3) (B : AM_ T1 T2 p cl a b) (k : krc_ T1 T2) (f : kfs_ T1 T2) (e2 : T2 108 0 3 = T1 108 0 3) : SPR_ T2 := by
  obtain ⟨h1, h2, h3, h4, h5⟩ := h
  obtain ⟨a0, ⟨a1, a2, a3, a4, a5⟩, a6, a7⟩ := A
  obtain ⟨m0, m1, m2, m3, m4⟩ := m
  obtain ⟨c0, c1, c2, c3, c4⟩ := k
  obtain ⟨b0, ⟨b1, b2, b3, b4⟩, b5⟩ := B
  have en : T1 111 0 16 = T 108 0 5 := by omega
  rw [en] at b0 b1 b2 b3 b4 b5
  have r1 : ∀ j, j ≠ T 108 0 5 → T2 217 0 j = T 217 0 j := fun j hj => ((b5 j hj).1).trans (m1 j)
  have lo : ∀ s, s < T 108 0 5 → s ≠ T 108 0 5 := fun s hs => by omega
  refine ⟨by omega, fun s u v => ?_, fun q u v => ?_, fun s u v => ?_, fun s u v => ?_⟩
  · by_cases es : s = T 108 0 5
    · subst es
      rw [c1, c2, c3, a1, a2, a3, b2, b3, b4]
      exact ⟨rfl, rfl, rfl⟩
    · obtain ⟨g1, g2, g3, -⟩ := a6 s es
      obtain ⟨-, g5, g6, g7⟩ := b5 s es
      rw [c1, c2, c3, g1, g2, g3, g5, g6, g7, m2, m3, m4]
      exact h2 s u (by omega)
  · rw [c0, a0, f q]
    by_cases eq : q = p
    · subst eq
      rw [a5]
      exact Or.inr ⟨hn, by omega, b1, fun j x y => by omega⟩
    · rw [a7 q eq]
      rcases h3 q u (by omega) with ⟨g1, g2⟩ | ⟨g1, g2, g3, g4⟩
      · refine Or.inl ⟨g1, fun j x y => ?_⟩
        by_cases ej : j = T 108 0 5
        · rw [ej, b1]
          exact fun z => eq z.symm
        · rw [r1 j ej]
          exact g2 j x (by omega)
      · refine Or.inr ⟨g1, by omega, by rw [r1 _ (lo _ g2)]; exact g3, fun j x y => ?_⟩
        by_cases ej : j = T 108 0 5
        · rw [ej, b1]
          exact fun z => eq z.symm
        · rw [r1 j ej]
          exact g4 j x (by omega)
  · by_cases es : s = T 108 0 5
    · subst es
      rw [b1, c4, a4]
      exact lpz_c (h3 p hp.1 hp.2) (fun j _ y => r1 j (lo j y))
    · rw [r1 s es, c4 s, (a6 s es).2.2.2]
      exact lpz_c (h4 s u (by omega)) (fun j _ y => r1 j (by omega))
  · by_cases es : s = T 108 0 5
    · subst es
      rw [b1]
      omega
    · rw [r1 s es]
      have := h5 s u (by omega)
      omega
/-- register on both sides: the same answer, and the spans stay alike -/
theorem spr_r {T T1 T2 : Zt} {p cl a b x1 x2 : Int} (h : SPR_ T) (hn : 0 ≤ T 108 0 5) (ep : T 108 0 3 = T 111 0 15) (ec : T 108 0 2 = T 111 0 12) (A : QR_ T T1 p cl a b x1) (m : krm_ T T1) (e1 : T1 108 0 3 = T 108 0 3) (e3 : T1 111 0 15 = T 111 0 15) (e4 : T1 111 0 12 = T 111 0 12) (B : QM_ T1 T2 p cl a b x2) (k : krc_ T1 T2) (f : kfs_ T1 T2) (e2 : T2 108 0 3 = T1 108 0 3) : x1 = x2 ∧ SPR_ T2 := by
  have hf := fs_eq (p := p) (a := a) (b := b) h
  have hm : FSR_ T1 p a b (T1 111 0 16) ↔ FSR_ T p a b (T 111 0 16) := by
    obtain ⟨m0, m1, m2, m3, m4⟩ := m
    unfold FSR_
    rw [m0]
    simp only [m1, m3, m4]
  have es := h.1
  have em := m.1
  have keepB : T1 = T → (x2 = -2 ∨ x2 = -3 ∨ x2 = -4 ∨ x2 = -5) → T2 = T1 → SPR_ T2 := fun z _ y => by
    rw [y, z]
    exact h
  rcases A with ⟨A1, A2, rfl⟩ | ⟨A1, A2, A3, rfl⟩ | ⟨A1, A2, A3, A4, rfl⟩ | ⟨A1, A2, A3, A4, A5, rfl⟩ | ⟨A1, A2, A3, A4, A5, A6⟩
  · rcases B with ⟨B1, B2, B3⟩ | ⟨B1, B2, B3⟩ | ⟨B1, B2, B3⟩ | ⟨B1, B2, B3⟩ | ⟨B1, B2, B3⟩
    · exact ⟨by omega, by rw [B3]; exact h⟩
    all_goals exact absurd (show OKP_ p cl (T1 108 0 3) (T1 108 0 2) by rw [ep, ec]; exact B2) A2
  · rcases B with ⟨B1, B2, B3⟩ | ⟨B1, B2, B3, B4⟩ | ⟨B1, B2, B3, B4⟩ | ⟨B1, B2, B3, B4⟩ | ⟨B1, B2, B3, B4⟩
    · exact absurd (show OKP_ p cl (T1 111 0 15) (T1 111 0 12) by rw [← ep, ← ec]; exact A2) B2
    · exact ⟨by omega, by rw [B4]; exact h⟩
    all_goals exact absurd B3 A3
  · rcases B with ⟨B1, B2, B3⟩ | ⟨B1, B2, B3, B4⟩ | ⟨B1, B2, B3, B4, B5⟩ | ⟨B1, B2, B3, B4, B5⟩ | ⟨B1, B2, B3, B4, B5⟩
    · exact absurd (show OKP_ p cl (T1 111 0 15) (T1 111 0 12) by rw [← ep, ← ec]; exact A2) B2
    · exact absurd A3 B3
    · exact ⟨by omega, by rw [B5]; exact h⟩
    all_goals exact absurd (hf.mpr B4) A4
  · rcases B with ⟨B1, B2, B3⟩ | ⟨B1, B2, B3, B4⟩ | ⟨B1, B2, B3, B4, B5⟩ | ⟨B1, B2, B3, B4, B5, B6⟩ | ⟨B1, B2, B3, B4, B5, B6⟩
    · exact absurd (show OKP_ p cl (T1 111 0 15) (T1 111 0 12) by rw [← ep, ← ec]; exact A2) B2
    · exact absurd A3 B3
    · exact absurd (hf.mp A4) B4
    · exact ⟨by omega, by rw [B6]; exact h⟩
    · omega
  · have q1 : OKP_ p cl (T1 111 0 15) (T1 111 0 12) := by
      rw [e3, e4, ← ep, ← ec]
      exact A2
    rcases B with ⟨B1, B2, B3⟩ | ⟨B1, B2, B3, B4⟩ | ⟨B1, B2, B3, B4, B5⟩ | ⟨B1, B2, B3, B4, B5, B6⟩ | ⟨B1, B2, B3, B4, B5, B6⟩
    · exact absurd q1 B2
    · exact absurd A3 B3
    · exact absurd (hm.mpr (hf.mp A4)) B4
    · omega
    · exact ⟨by omega, spr_a h ⟨A2.1, A2.2.1⟩ hn A6 m e1 B6 k f e2⟩
