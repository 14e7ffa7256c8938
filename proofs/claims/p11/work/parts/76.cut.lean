def tz1 (a : Nat) : Bool := a == 0 || ((List.range 12).any fun x => decide (an_ (xo_ (a : Int) (-1)) ((a : Int) - 1) = ((2 ^ x : Nat) : Int) - 1) && decide (an_ (sr_ (a : Int) (x : Int)) 1 = 1))
theorem tz_a : ∀ i, i < 64 → ∀ j, j < 64 → tz1 (64 * i + j) = true := by decide +kernel
def us1 (v : Nat) : Bool := decide (us_ (v : Int) 8 = (v : Int) / 256) && decide (us_ (v : Int) 4 = (v : Int) / 16) && decide (us_ (v : Int) 2 = (v : Int) / 4) && decide (us_ (v : Int) 1 = (v : Int) / 2)
theorem us_all : ∀ v, v < 2048 → us1 v = true := by decide +kernel
def ne1 (d : Nat) : Bool := d == 0 || decide (an_ (-(d : Int)) (d : Int) ≠ 0)
theorem ne_a : ∀ i, i < 64 → ∀ j, j < 64 → ne1 (64 * i + j) = true := by decide +kernel
theorem us_q {v : Int} (h : 0 ≤ v ∧ v ≤ 2047) : us_ v 8 = v / 256 ∧ us_ v 4 = v / 16 ∧ us_ v 2 = v / 4 ∧ us_ v 1 = v / 2 := by
  have h1 := us_all v.toNat (by omega)
  unfold us1 at h1
  rw [show ((v.toNat : Nat) : Int) = v by omega] at h1
  simp only [Bool.and_eq_true, decide_eq_true_eq] at h1
  exact ⟨h1.1.1.1, h1.1.1.2, h1.1.2, h1.2⟩
/-- the zeros behind a number: its lowest bit -/
theorem tz_q {a : Int} (h : 1 ≤ a ∧ a ≤ 4095) : ∃ x : Nat, x < 12 ∧ an_ (xo_ a (-1)) (a - 1) = ((2 ^ x : Nat) : Int) - 1 ∧ an_ (sr_ a (x : Int)) 1 = 1 := by
  have h1 := tz_a (a.toNat / 64) (by omega) (a.toNat % 64) (by omega)
  rw [Nat.div_add_mod] at h1
  unfold tz1 at h1
  rw [show ((a.toNat : Nat) : Int) = a by omega] at h1
  simp only [Bool.or_eq_true, beq_iff_eq, List.any_eq_true, List.mem_range, Bool.and_eq_true, decide_eq_true_eq] at h1
  rcases h1 with z | ⟨x, a1, a2, a3⟩
  · omega
  · exact ⟨x, a1, a2, a3⟩
theorem ne_q {d : Int} (h : 1 ≤ d ∧ d ≤ 4095) : an_ (-d) d ≠ 0 := by
  have h1 := ne_a (d.toNat / 64) (by omega) (d.toNat % 64) (by omega)
  rw [Nat.div_add_mod] at h1
  unfold ne1 at h1
  rw [show ((d.toNat : Nat) : Int) = d by omega] at h1
  simp only [Bool.or_eq_true, beq_iff_eq, decide_eq_true_eq] at h1
  rcases h1 with z | z
  · omega
  · exact z
theorem pb_and (x y : Nat) : (x &&& y) % 2 = 1 ↔ x % 2 = 1 ∧ y % 2 = 1 := by
  have h := Nat.testBit_and x y 0
  simp only [Nat.testBit_zero] at h
  have e : decide ((x &&& y) % 2 = 1) = true ↔ (decide (x % 2 = 1) && decide (y % 2 = 1)) = true := by rw [h]
  rw [decide_eq_true_iff, Bool.and_eq_true, decide_eq_true_iff, decide_eq_true_iff] at e
  exact e
theorem nb_sub (o : Nat) : ∀ s, s &&& o = s → s ≤ o ∧ (o - s) &&& o = o - s := by
  induction o using Nat.strongRecOn with
  | _ o ih =>
    intro s h
    by_cases z : o = 0
    · subst z
      have : s = 0 := by rw [Nat.and_zero] at h; exact h.symm
      subst this
      exact ⟨Nat.le_refl _, rfl⟩
    · have hd : (s / 2) &&& (o / 2) = s / 2 := by rw [← Nat.and_div_two, h]
      have hp : s % 2 = 1 → o % 2 = 1 := fun q => ((pb_and s o).mp (by rw [h]; exact q)).2
      obtain ⟨h1, h2⟩ := ih (o / 2) (by omega) (s / 2) hd
      have e1 : (o - s) / 2 = o / 2 - s / 2 := by omega
      have a1 : ((o - s) &&& o) / 2 = (o - s) / 2 := by rw [Nat.and_div_two, e1]; exact h2
      have a2 : ((o - s) &&& o) % 2 = 1 ↔ (o - s) % 2 = 1 := by
        rw [pb_and]
        omega
      exact ⟨by omega, by omega⟩
theorem an_le {x o : Int} (ho : 0 ≤ o ∧ o ≤ 4095) : 0 ≤ an_ x o ∧ an_ x o ≤ 4095 := by
  have h0 : (Int32.ofInt o).toBitVec.toNat = o.toNat := i3_n (by omega)
  have h : ((Int32.ofInt x).toBitVec &&& (Int32.ofInt o).toBitVec).toNat ≤ o.toNat := by
    rw [BitVec.toNat_and, h0]; exact Nat.and_le_right
  show 0 ≤ ((Int32.ofInt x).toBitVec &&& (Int32.ofInt o).toBitVec).toInt ∧ ((Int32.ofInt x).toBitVec &&& (Int32.ofInt o).toBitVec).toInt ≤ 4095
  rw [BitVec.toInt_eq_toNat_cond]
  split <;> omega
theorem i3_b (v : Int32) : Int32.ofInt v.toInt = v := Int32.ofInt_toInt v
theorem an_id (x o : Int) : an_ (an_ x o) o = an_ x o := by
  unfold an_
  rw [i3_b, Int32.and_assoc, Int32.and_self]
/-- the next set below another: it is not empty -/
theorem nx_1 {s o : Int} (ho : 0 ≤ o ∧ o ≤ 4095) (hs : 0 ≤ s ∧ s < 4096) (h : an_ s o = s) (hne : s ≠ o) : 1 ≤ an_ (s - o) o ∧ an_ (s - o) o ≤ 4095 ∧ an_ (an_ (s - o) o) o = an_ (s - o) o := by
  have hb := an_le (x := s - o) ho
  refine ⟨?_, hb.2, an_id _ _⟩
  by_cases z : an_ (s - o) o = 0
  · exfalso
    obtain ⟨h1, h2⟩ := nb_sub o.toNat s.toNat ((an_z ho hs).mp h)
    have hd : an_ (o - s) o = o - s := by
      refine (an_z ho (by omega)).mpr ?_
      rw [show (o - s).toNat = o.toNat - s.toNat by omega]
      exact h2
    refine ne_q (d := o - s) (by omega) ?_
    have e1 : Int32.ofInt (o - s) = Int32.ofInt o &&& Int32.ofInt (o - s) := by
      have := congrArg Int32.ofInt hd
      unfold an_ at this
      rw [i3_b, Int32.and_comm] at this
      exact this.symm
    have e2 : Int32.ofInt (s - o) &&& Int32.ofInt o = 0 := by
      have := congrArg Int32.ofInt z
      unfold an_ at this
      rw [i3_b] at this
      exact this
    unfold an_
    rw [show -(o - s) = s - o by omega, e1, ← Int32.and_assoc, e2, Int32.zero_and]
    rfl
  · omega
theorem nx_b {s o x : Int} (ho : 0 ≤ o ∧ o ≤ 4095) (hs : 0 ≤ s ∧ s < 4096) (h : an_ s o = s) (hx : 0 ≤ x ∧ x < 32) (hb : an_ (sr_ s x) 1 = 1) : an_ (sr_ o x) 1 = 1 := by
  rw [bt_n (by omega) hx] at hb ⊢
  unfold bt_ at hb ⊢
  have h1 := (an_z ho hs).mp h
  by_cases z : s.toNat.testBit x.toNat = true
  · rw [← h1, Nat.testBit_and, Bool.and_eq_true] at z
    rw [if_pos z.2]
  · rw [if_neg z] at hb
    omega
theorem sl_q {w : Int} (h : 0 ≤ w ∧ w ≤ 11) : sl_ 1 w = ((2 ^ w.toNat : Nat) : Int) := by
  have : w = 0 ∨ w = 1 ∨ w = 2 ∨ w = 3 ∨ w = 4 ∨ w = 5 ∨ w = 6 ∨ w = 7 ∨ w = 8 ∨ w = 9 ∨ w = 10 ∨ w = 11 := by omega
  rcases this with rfl | rfl | rfl | rfl | rfl | rfl | rfl | rfl | rfl | rfl | rfl | rfl <;> decide
theorem or_bit {o q x : Int} (ho : 0 ≤ o ∧ o ≤ 4095) (hq : 0 ≤ q ∧ q ≤ 11) (hx : 0 ≤ x ∧ x ≤ 11) (h : an_ (sr_ (or_ o (sl_ 1 q)) x) 1 = 1) : an_ (sr_ o x) 1 = 1 ∨ x = q := by
  have hb := sl_b hq
  have ho2 := or_b ho hb
  rw [bt_n (by omega) (by omega)] at h
  rw [bt_n (by omega) (by omega)]
  unfold bt_ at h ⊢
  rw [or_n (by omega) (by omega), Int.toNat_natCast, Nat.testBit_or, sl_q hq, Int.toNat_natCast, Nat.testBit_two_pow] at h
  by_cases z : o.toNat.testBit x.toNat = true
  · exact Or.inl (by rw [if_pos z])
  · by_cases y : q.toNat = x.toNat
    · exact Or.inr (by omega)
    · simp [z, y] at h
/-- only clubs with a seat are in the set -/
def OB_ (T : Zt) (c o : Int) : Prop := ∀ x, 0 ≤ x → x ≤ 11 → an_ (sr_ o x) 1 = 1 → 0 ≤ T 404 c x
theorem ob_0 (T : Zt) (c : Int) : OB_ T c 0 := fun x a b h => by
  have : an_ (sr_ 0 x) 1 = 0 := by
    rw [bt_n (by omega) (by omega)]
    unfold bt_
    simp
  omega
theorem ob_s {T : Zt} {c o q : Int} (h : OB_ T c o) (ho : 0 ≤ o ∧ o ≤ 4095) (hq : 0 ≤ q ∧ q ≤ 11) (g : 0 ≤ T 404 c q) : OB_ T c (or_ o (sl_ 1 q)) := fun x a b e => by
  rcases or_bit ho hq ⟨a, b⟩ e with z | z
  · exact h x a b z
  · rw [z]; exact g
theorem or_0 {o : Int} (ho : 0 ≤ o ∧ o ≤ 4095) : or_ o 0 = o := by
  unfold or_
  rw [show Int32.ofInt 0 = 0 from rfl, Int32.or_zero]
  exact i3_t (by omega) (by omega)
abbrev cJ6_numberOfTrailingZeros_0f7a4 : ByteArray := prog_15_method_48_code
def yJ6_numberOfTrailingZeros_0f7a4 : MethodName := ⟨RJ6, "numberOfTrailingZeros", "(I)I"⟩
def zJ6_numberOfTrailingZeros_0f7a4 : Zm := (RJ6, cJ6_numberOfTrailingZeros_0f7a4, 2, (some .int), { frames := 0, cells := 0, slots := 0, locals := 0 })
theorem bk_J6_numberOfTrailingZeros_0f7a4_0 : ck_ fJ6 (some .int) cJ6_numberOfTrailingZeros_0f7a4 0 [.iload 0, .iconst (-1), .ixor, .iload 0, .iconst 1, .isub, .iand, .istore 0, .iload 0, .ifCond .gt 17, .iload 0, .iconst 32, .iand, .ireturn] 17 = true := qck_r (nn_ _) (by decide +kernel)
theorem bs_J6_numberOfTrailingZeros_0f7a4_0 {P : Zt → Option Zv → Prop} (K : Int → Zl → List Zv → Zt → Prop) : sx_ K P [.iload 0, .iconst (-1), .ixor, .iload 0, .iconst 1, .isub, .iand, .istore 0, .iload 0, .ifCond .gt 17, .iload 0, .iconst 32, .iand, .ireturn] 17 = x_iload 0 (x_iconst (-1) (x_ixor (x_iload 0 (x_iconst 1 (x_isub (x_iand (x_istore 0 (x_iload 0 (x_ifCond .gt 17 K (x_iload 0 (x_iconst 32 (x_iand (x_ireturn P))))))))))))) := ((xe_iload 0).trans (congrArg (x_iload 0) ((xe_iconst (-1)).trans (congrArg (x_iconst (-1)) ((xe_ixor).trans (congrArg (x_ixor) ((xe_iload 0).trans (congrArg (x_iload 0) ((xe_iconst 1).trans (congrArg (x_iconst 1) ((xe_isub).trans (congrArg (x_isub) ((xe_iand).trans (congrArg (x_iand) ((xe_istore 0).trans (congrArg (x_istore 0) ((xe_iload 0).trans (congrArg (x_iload 0) ((xe_ifCond .gt 17).trans (congrArg (x_ifCond .gt 17 K) ((xe_iload 0).trans (congrArg (x_iload 0) ((xe_iconst 32).trans (congrArg (x_iconst 32) ((xe_iand).trans (congrArg (x_iand) (xe_ireturn)))))))))))))))))))))))))))
theorem bk_J6_numberOfTrailingZeros_0f7a4_17 : ck_ fJ6 (some .int) cJ6_numberOfTrailingZeros_0f7a4 17 [.iconst 1, .istore 1, .iload 0, .iconst 65536, .if_icmp .le 34, .iinc 1 16, .iload 0, .iconst 16, .iushr, .istore 0, .iload 0, .iconst 256, .if_icmp .le 49, .iinc 1 8, .iload 0, .iconst 8, .iushr, .istore 0, .iload 0, .iconst 16, .if_icmp .le 62, .iinc 1 4, .iload 0, .iconst 4, .iushr, .istore 0, .iload 0, .iconst 4, .if_icmp .le 74, .iinc 1 2, .iload 0, .iconst 2, .iushr, .istore 0, .iload 1, .iload 0, .iconst 1, .iushr, .iadd, .ireturn] 80 = true := qck_r (nn_ _) (by decide +kernel)
theorem bs_J6_numberOfTrailingZeros_0f7a4_17 {P : Zt → Option Zv → Prop} (K : Int → Zl → List Zv → Zt → Prop) : sx_ K P [.iconst 1, .istore 1, .iload 0, .iconst 65536, .if_icmp .le 34, .iinc 1 16, .iload 0, .iconst 16, .iushr, .istore 0, .iload 0, .iconst 256, .if_icmp .le 49, .iinc 1 8, .iload 0, .iconst 8, .iushr, .istore 0, .iload 0, .iconst 16, .if_icmp .le 62, .iinc 1 4, .iload 0, .iconst 4, .iushr, .istore 0, .iload 0, .iconst 4, .if_icmp .le 74, .iinc 1 2, .iload 0, .iconst 2, .iushr, .istore 0, .iload 1, .iload 0, .iconst 1, .iushr, .iadd, .ireturn] 80 = x_iconst 1 (x_istore 1 (x_iload 0 (x_iconst 65536 (x_if_icmp .le 34 K (x_iinc 1 16 (x_iload 0 (x_iconst 16 (x_iushr (x_istore 0 (x_iload 0 (x_iconst 256 (x_if_icmp .le 49 K (x_iinc 1 8 (x_iload 0 (x_iconst 8 (x_iushr (x_istore 0 (x_iload 0 (x_iconst 16 (x_if_icmp .le 62 K (x_iinc 1 4 (x_iload 0 (x_iconst 4 (x_iushr (x_istore 0 (x_iload 0 (x_iconst 4 (x_if_icmp .le 74 K (x_iinc 1 2 (x_iload 0 (x_iconst 2 (x_iushr (x_istore 0 (x_iload 1 (x_iload 0 (x_iconst 1 (x_iushr (x_iadd (x_ireturn P))))))))))))))))))))))))))))))))))))))) := ((xe_iconst 1).trans (congrArg (x_iconst 1) ((xe_istore 1).trans (congrArg (x_istore 1) ((xe_iload 0).trans (congrArg (x_iload 0) ((xe_iconst 65536).trans (congrArg (x_iconst 65536) ((xe_if_icmp .le 34).trans (congrArg (x_if_icmp .le 34 K) ((xe_iinc 1 16).trans (congrArg (x_iinc 1 16) ((xe_iload 0).trans (congrArg (x_iload 0) ((xe_iconst 16).trans (congrArg (x_iconst 16) ((xe_iushr).trans (congrArg (x_iushr) ((xe_istore 0).trans (congrArg (x_istore 0) ((xe_iload 0).trans (congrArg (x_iload 0) ((xe_iconst 256).trans (congrArg (x_iconst 256) ((xe_if_icmp .le 49).trans (congrArg (x_if_icmp .le 49 K) ((xe_iinc 1 8).trans (congrArg (x_iinc 1 8) ((xe_iload 0).trans (congrArg (x_iload 0) ((xe_iconst 8).trans (congrArg (x_iconst 8) ((xe_iushr).trans (congrArg (x_iushr) ((xe_istore 0).trans (congrArg (x_istore 0) ((xe_iload 0).trans (congrArg (x_iload 0) ((xe_iconst 16).trans (congrArg (x_iconst 16) ((xe_if_icmp .le 62).trans (congrArg (x_if_icmp .le 62 K) ((xe_iinc 1 4).trans (congrArg (x_iinc 1 4) ((xe_iload 0).trans (congrArg (x_iload 0) ((xe_iconst 4).trans (congrArg (x_iconst 4) ((xe_iushr).trans (congrArg (x_iushr) ((xe_istore 0).trans (congrArg (x_istore 0) ((xe_iload 0).trans (congrArg (x_iload 0) ((xe_iconst 4).trans (congrArg (x_iconst 4) ((xe_if_icmp .le 74).trans (congrArg (x_if_icmp .le 74 K) ((xe_iinc 1 2).trans (congrArg (x_iinc 1 2) ((xe_iload 0).trans (congrArg (x_iload 0) ((xe_iconst 2).trans (congrArg (x_iconst 2) ((xe_iushr).trans (congrArg (x_iushr) ((xe_istore 0).trans (congrArg (x_istore 0) ((xe_iload 1).trans (congrArg (x_iload 1) ((xe_iload 0).trans (congrArg (x_iload 0) ((xe_iconst 1).trans (congrArg (x_iconst 1) ((xe_iushr).trans (congrArg (x_iushr) ((xe_iadd).trans (congrArg (x_iadd) (xe_ireturn)))))))))))))))))))))))))))))))))))))))))))))))))))))))))))))))))))))))))))))))
theorem bk_J6_numberOfTrailingZeros_0f7a4_34 : ck_ fJ6 (some .int) cJ6_numberOfTrailingZeros_0f7a4 34 [.iload 0, .iconst 256, .if_icmp .le 49, .iinc 1 8, .iload 0, .iconst 8, .iushr, .istore 0, .iload 0, .iconst 16, .if_icmp .le 62, .iinc 1 4, .iload 0, .iconst 4, .iushr, .istore 0, .iload 0, .iconst 4, .if_icmp .le 74, .iinc 1 2, .iload 0, .iconst 2, .iushr, .istore 0, .iload 1, .iload 0, .iconst 1, .iushr, .iadd, .ireturn] 80 = true := qck_r (nn_ _) (by decide +kernel)
theorem bs_J6_numberOfTrailingZeros_0f7a4_34 {P : Zt → Option Zv → Prop} (K : Int → Zl → List Zv → Zt → Prop) : sx_ K P [.iload 0, .iconst 256, .if_icmp .le 49, .iinc 1 8, .iload 0, .iconst 8, .iushr, .istore 0, .iload 0, .iconst 16, .if_icmp .le 62, .iinc 1 4, .iload 0, .iconst 4, .iushr, .istore 0, .iload 0, .iconst 4, .if_icmp .le 74, .iinc 1 2, .iload 0, .iconst 2, .iushr, .istore 0, .iload 1, .iload 0, .iconst 1, .iushr, .iadd, .ireturn] 80 = x_iload 0 (x_iconst 256 (x_if_icmp .le 49 K (x_iinc 1 8 (x_iload 0 (x_iconst 8 (x_iushr (x_istore 0 (x_iload 0 (x_iconst 16 (x_if_icmp .le 62 K (x_iinc 1 4 (x_iload 0 (x_iconst 4 (x_iushr (x_istore 0 (x_iload 0 (x_iconst 4 (x_if_icmp .le 74 K (x_iinc 1 2 (x_iload 0 (x_iconst 2 (x_iushr (x_istore 0 (x_iload 1 (x_iload 0 (x_iconst 1 (x_iushr (x_iadd (x_ireturn P))))))))))))))))))))))))))))) := ((xe_iload 0).trans (congrArg (x_iload 0) ((xe_iconst 256).trans (congrArg (x_iconst 256) ((xe_if_icmp .le 49).trans (congrArg (x_if_icmp .le 49 K) ((xe_iinc 1 8).trans (congrArg (x_iinc 1 8) ((xe_iload 0).trans (congrArg (x_iload 0) ((xe_iconst 8).trans (congrArg (x_iconst 8) ((xe_iushr).trans (congrArg (x_iushr) ((xe_istore 0).trans (congrArg (x_istore 0) ((xe_iload 0).trans (congrArg (x_iload 0) ((xe_iconst 16).trans (congrArg (x_iconst 16) ((xe_if_icmp .le 62).trans (congrArg (x_if_icmp .le 62 K) ((xe_iinc 1 4).trans (congrArg (x_iinc 1 4) ((xe_iload 0).trans (congrArg (x_iload 0) ((xe_iconst 4).trans (congrArg (x_iconst 4) ((xe_iushr).trans (congrArg (x_iushr) ((xe_istore 0).trans (congrArg (x_istore 0) ((xe_iload 0).trans (congrArg (x_iload 0) ((xe_iconst 4).trans (congrArg (x_iconst 4) ((xe_if_icmp .le 74).trans (congrArg (x_if_icmp .le 74 K) ((xe_iinc 1 2).trans (congrArg (x_iinc 1 2) ((xe_iload 0).trans (congrArg (x_iload 0) ((xe_iconst 2).trans (congrArg (x_iconst 2) ((xe_iushr).trans (congrArg (x_iushr) ((xe_istore 0).trans (congrArg (x_istore 0) ((xe_iload 1).trans (congrArg (x_iload 1) ((xe_iload 0).trans (congrArg (x_iload 0) ((xe_iconst 1).trans (congrArg (x_iconst 1) ((xe_iushr).trans (congrArg (x_iushr) ((xe_iadd).trans (congrArg (x_iadd) (xe_ireturn)))))))))))))))))))))))))))))))))))))))))))))))))))))))))))
theorem bk_J6_numberOfTrailingZeros_0f7a4_49 : ck_ fJ6 (some .int) cJ6_numberOfTrailingZeros_0f7a4 49 [.iload 0, .iconst 16, .if_icmp .le 62, .iinc 1 4, .iload 0, .iconst 4, .iushr, .istore 0, .iload 0, .iconst 4, .if_icmp .le 74, .iinc 1 2, .iload 0, .iconst 2, .iushr, .istore 0, .iload 1, .iload 0, .iconst 1, .iushr, .iadd, .ireturn] 80 = true := qck_r (nn_ _) (by decide +kernel)
theorem bs_J6_numberOfTrailingZeros_0f7a4_49 {P : Zt → Option Zv → Prop} (K : Int → Zl → List Zv → Zt → Prop) : sx_ K P [.iload 0, .iconst 16, .if_icmp .le 62, .iinc 1 4, .iload 0, .iconst 4, .iushr, .istore 0, .iload 0, .iconst 4, .if_icmp .le 74, .iinc 1 2, .iload 0, .iconst 2, .iushr, .istore 0, .iload 1, .iload 0, .iconst 1, .iushr, .iadd, .ireturn] 80 = x_iload 0 (x_iconst 16 (x_if_icmp .le 62 K (x_iinc 1 4 (x_iload 0 (x_iconst 4 (x_iushr (x_istore 0 (x_iload 0 (x_iconst 4 (x_if_icmp .le 74 K (x_iinc 1 2 (x_iload 0 (x_iconst 2 (x_iushr (x_istore 0 (x_iload 1 (x_iload 0 (x_iconst 1 (x_iushr (x_iadd (x_ireturn P))))))))))))))))))))) := ((xe_iload 0).trans (congrArg (x_iload 0) ((xe_iconst 16).trans (congrArg (x_iconst 16) ((xe_if_icmp .le 62).trans (congrArg (x_if_icmp .le 62 K) ((xe_iinc 1 4).trans (congrArg (x_iinc 1 4) ((xe_iload 0).trans (congrArg (x_iload 0) ((xe_iconst 4).trans (congrArg (x_iconst 4) ((xe_iushr).trans (congrArg (x_iushr) ((xe_istore 0).trans (congrArg (x_istore 0) ((xe_iload 0).trans (congrArg (x_iload 0) ((xe_iconst 4).trans (congrArg (x_iconst 4) ((xe_if_icmp .le 74).trans (congrArg (x_if_icmp .le 74 K) ((xe_iinc 1 2).trans (congrArg (x_iinc 1 2) ((xe_iload 0).trans (congrArg (x_iload 0) ((xe_iconst 2).trans (congrArg (x_iconst 2) ((xe_iushr).trans (congrArg (x_iushr) ((xe_istore 0).trans (congrArg (x_istore 0) ((xe_iload 1).trans (congrArg (x_iload 1) ((xe_iload 0).trans (congrArg (x_iload 0) ((xe_iconst 1).trans (congrArg (x_iconst 1) ((xe_iushr).trans (congrArg (x_iushr) ((xe_iadd).trans (congrArg (x_iadd) (xe_ireturn)))))))))))))))))))))))))))))))))))))))))))
theorem bk_J6_numberOfTrailingZeros_0f7a4_62 : ck_ fJ6 (some .int) cJ6_numberOfTrailingZeros_0f7a4 62 [.iload 0, .iconst 4, .if_icmp .le 74, .iinc 1 2, .iload 0, .iconst 2, .iushr, .istore 0, .iload 1, .iload 0, .iconst 1, .iushr, .iadd, .ireturn] 80 = true := qck_r (nn_ _) (by decide +kernel)
theorem bs_J6_numberOfTrailingZeros_0f7a4_62 {P : Zt → Option Zv → Prop} (K : Int → Zl → List Zv → Zt → Prop) : sx_ K P [.iload 0, .iconst 4, .if_icmp .le 74, .iinc 1 2, .iload 0, .iconst 2, .iushr, .istore 0, .iload 1, .iload 0, .iconst 1, .iushr, .iadd, .ireturn] 80 = x_iload 0 (x_iconst 4 (x_if_icmp .le 74 K (x_iinc 1 2 (x_iload 0 (x_iconst 2 (x_iushr (x_istore 0 (x_iload 1 (x_iload 0 (x_iconst 1 (x_iushr (x_iadd (x_ireturn P))))))))))))) := ((xe_iload 0).trans (congrArg (x_iload 0) ((xe_iconst 4).trans (congrArg (x_iconst 4) ((xe_if_icmp .le 74).trans (congrArg (x_if_icmp .le 74 K) ((xe_iinc 1 2).trans (congrArg (x_iinc 1 2) ((xe_iload 0).trans (congrArg (x_iload 0) ((xe_iconst 2).trans (congrArg (x_iconst 2) ((xe_iushr).trans (congrArg (x_iushr) ((xe_istore 0).trans (congrArg (x_istore 0) ((xe_iload 1).trans (congrArg (x_iload 1) ((xe_iload 0).trans (congrArg (x_iload 0) ((xe_iconst 1).trans (congrArg (x_iconst 1) ((xe_iushr).trans (congrArg (x_iushr) ((xe_iadd).trans (congrArg (x_iadd) (xe_ireturn)))))))))))))))))))))))))))
theorem bk_J6_numberOfTrailingZeros_0f7a4_74 : ck_ fJ6 (some .int) cJ6_numberOfTrailingZeros_0f7a4 74 [.iload 1, .iload 0, .iconst 1, .iushr, .iadd, .ireturn] 80 = true := qck_r (nn_ _) (by decide +kernel)
theorem bs_J6_numberOfTrailingZeros_0f7a4_74 {P : Zt → Option Zv → Prop} (K : Int → Zl → List Zv → Zt → Prop) : sx_ K P [.iload 1, .iload 0, .iconst 1, .iushr, .iadd, .ireturn] 80 = x_iload 1 (x_iload 0 (x_iconst 1 (x_iushr (x_iadd (x_ireturn P))))) := ((xe_iload 1).trans (congrArg (x_iload 1) ((xe_iload 0).trans (congrArg (x_iload 0) ((xe_iconst 1).trans (congrArg (x_iconst 1) ((xe_iushr).trans (congrArg (x_iushr) ((xe_iadd).trans (congrArg (x_iadd) (xe_ireturn)))))))))))
abbrev po_J6_numberOfTrailingZeros_0f7a4 (T : Zt) (a : Int) : Zt → Option Zv → Prop := fun T' r => T = T' ∧ ∃ x : Int, r = some (vI x) ∧ (0 ≤ x ∧ x ≤ 11 ∧ an_ (sr_ a x) 1 = 1)
set_option maxHeartbeats 4000000 in
theorem ct_J6_numberOfTrailingZeros_0f7a4 {T : Zt} {a : Int} (h1 : 1 ≤ a ∧ a ≤ 4095) : Ct_ yJ6_numberOfTrailingZeros_0f7a4 zJ6_numberOfTrailingZeros_0f7a4 T [vI a] (po_J6_numberOfTrailingZeros_0f7a4 T a) := by
  refine ct_of (by decide) rfl rfl (Nat.le_of_ble_eq_true rfl) (fun hT hav => ?_)
  have hr_a : -2147483648 ≤ a ∧ a ≤ 2147483647 := hav (vI a) (by simp)
  have hz : zJ6_numberOfTrailingZeros_0f7a4.2.2.2.1 = some .boolean → ∀ (T' : Zt) (x : Int), po_J6_numberOfTrailingZeros_0f7a4 T a T' (some (vI x)) → 0 ≤ x ∧ x ≤ 1 := fun h => by cases h
  have hv : 0 ≤ an_ (xo_ a (-1)) (a - 1) ∧ an_ (xo_ a (-1)) (a - 1) ≤ 2047 := by obtain ⟨x9, p1, p2, p3⟩ := tz_q h1; have p4 : (2 : Nat) ^ x9 ≤ 2 ^ 11 := Nat.pow_le_pow_right (by omega) (by omega); have p5 : 0 < (2 : Nat) ^ x9 := Nat.pow_pos (by omega); rw [p2]; omega
  show J_ zJ6_numberOfTrailingZeros_0f7a4 T (po_J6_numberOfTrailingZeros_0f7a4 T a) 0 0 0 [some (vI a), none] [] T
  refine j_blx (F := fJ6) tb_J6 (nn_ _) bk_J6_numberOfTrailingZeros_0f7a4_0 bs_J6_numberOfTrailingZeros_0f7a4_0 hz (fun K hK => ?_)
  intro w1 w1b
  refine rg_i (by omega) ?_
  intro w2 w2b
  refine And.intro (fun c3 => ?_) (fun c3 => ?_)
  · refine hK 17 [some (vI (an_ (xo_ a (-1)) (a - 1))), none] [] T ?_
    refine j_blx (F := fJ6) tb_J6 (nn_ _) bk_J6_numberOfTrailingZeros_0f7a4_17 bs_J6_numberOfTrailingZeros_0f7a4_17 hz (fun K hK => ?_)
    refine And.intro (fun c4 => ?_) (fun c4 => ?_)
    · refine hK 34 [some (vI (an_ (xo_ a (-1)) (a - 1))), some (vI 1)] [] T ?_
      refine j_blx (F := fJ6) tb_J6 (nn_ _) bk_J6_numberOfTrailingZeros_0f7a4_34 bs_J6_numberOfTrailingZeros_0f7a4_34 hz (fun K hK => ?_)
      refine And.intro (fun c5 => ?_) (fun c5 => ?_)
      · refine hK 49 _ [] T ?_
        refine j_blx (F := fJ6) tb_J6 (nn_ _) bk_J6_numberOfTrailingZeros_0f7a4_49 bs_J6_numberOfTrailingZeros_0f7a4_49 hz (fun K hK => ?_)
        refine And.intro (fun c6 => ?_) (fun c6 => ?_)
        · refine hK 62 _ [] T ?_
          refine j_blx (F := fJ6) tb_J6 (nn_ _) bk_J6_numberOfTrailingZeros_0f7a4_62 bs_J6_numberOfTrailingZeros_0f7a4_62 hz (fun K hK => ?_)
          refine And.intro (fun c7 => ?_) (fun c7 => ?_)
          · refine hK 74 _ [] T ?_
            refine j_blx (F := fJ6) tb_J6 (nn_ _) bk_J6_numberOfTrailingZeros_0f7a4_74 bs_J6_numberOfTrailingZeros_0f7a4_74 hz (fun K hK => ?_)
            intro w8 w8b
            have y9 := us_q (v := (an_ (xo_ a (-1)) (a - 1))) (by omega)
            refine rg_i (by omega) ?_
            refine (show po_J6_numberOfTrailingZeros_0f7a4 T a T (some (vI (1 + (us_ (an_ (xo_ a (-1)) (a - 1)) 1)))) from ?_)
            obtain ⟨x9, p1, p2, p3⟩ := tz_q h1
            refine ⟨rfl, _, rfl, ?_⟩
            have hxx : 1 + (us_ (an_ (xo_ a (-1)) (a - 1)) 1) = (x9 : Int) := by
              have : x9 = 0 ∨ x9 = 1 ∨ x9 = 2 ∨ x9 = 3 ∨ x9 = 4 ∨ x9 = 5 ∨ x9 = 6 ∨ x9 = 7 ∨ x9 = 8 ∨ x9 = 9 ∨ x9 = 10 ∨ x9 = 11 := by omega
              rcases this with rfl | rfl | rfl | rfl | rfl | rfl | rfl | rfl | rfl | rfl | rfl | rfl <;> simp only [Nat.reducePow] at p2 <;> (first | omega | (exfalso; omega))
            rw [hxx]; exact ⟨by omega, by omega, p3⟩
          · refine rg_i (by omega) ?_
            intro w10 w10b
            have y11 := us_q (v := (an_ (xo_ a (-1)) (a - 1))) (by omega)
            intro w12 w12b
            have y13 := us_q (v := (us_ (an_ (xo_ a (-1)) (a - 1)) 2)) (by omega)
            refine rg_i (by omega) ?_
            refine (show po_J6_numberOfTrailingZeros_0f7a4 T a T (some (vI ((1 + 2) + (us_ (us_ (an_ (xo_ a (-1)) (a - 1)) 2) 1)))) from ?_)
            obtain ⟨x9, p1, p2, p3⟩ := tz_q h1
            refine ⟨rfl, _, rfl, ?_⟩
            have hxx : (1 + 2) + (us_ (us_ (an_ (xo_ a (-1)) (a - 1)) 2) 1) = (x9 : Int) := by
              have : x9 = 0 ∨ x9 = 1 ∨ x9 = 2 ∨ x9 = 3 ∨ x9 = 4 ∨ x9 = 5 ∨ x9 = 6 ∨ x9 = 7 ∨ x9 = 8 ∨ x9 = 9 ∨ x9 = 10 ∨ x9 = 11 := by omega
              rcases this with rfl | rfl | rfl | rfl | rfl | rfl | rfl | rfl | rfl | rfl | rfl | rfl <;> simp only [Nat.reducePow] at p2 <;> (first | omega | (exfalso; omega))
            rw [hxx]; exact ⟨by omega, by omega, p3⟩
        · refine rg_i (by omega) ?_
          intro w14 w14b
          have y15 := us_q (v := (an_ (xo_ a (-1)) (a - 1))) (by omega)
          refine And.intro (fun c16 => ?_) (fun c16 => ?_)
          · refine hK 74 [some (vI (us_ (an_ (xo_ a (-1)) (a - 1)) 4)), some (vI (1 + 4))] [] T ?_
            refine j_blx (F := fJ6) tb_J6 (nn_ _) bk_J6_numberOfTrailingZeros_0f7a4_74 bs_J6_numberOfTrailingZeros_0f7a4_74 hz (fun K hK => ?_)
            intro w17 w17b
            have y18 := us_q (v := (us_ (an_ (xo_ a (-1)) (a - 1)) 4)) (by omega)
            refine rg_i (by omega) ?_
            refine (show po_J6_numberOfTrailingZeros_0f7a4 T a T (some (vI ((1 + 4) + (us_ (us_ (an_ (xo_ a (-1)) (a - 1)) 4) 1)))) from ?_)
            obtain ⟨x9, p1, p2, p3⟩ := tz_q h1
            refine ⟨rfl, _, rfl, ?_⟩
            have hxx : (1 + 4) + (us_ (us_ (an_ (xo_ a (-1)) (a - 1)) 4) 1) = (x9 : Int) := by
              have : x9 = 0 ∨ x9 = 1 ∨ x9 = 2 ∨ x9 = 3 ∨ x9 = 4 ∨ x9 = 5 ∨ x9 = 6 ∨ x9 = 7 ∨ x9 = 8 ∨ x9 = 9 ∨ x9 = 10 ∨ x9 = 11 := by omega
              rcases this with rfl | rfl | rfl | rfl | rfl | rfl | rfl | rfl | rfl | rfl | rfl | rfl <;> simp only [Nat.reducePow] at p2 <;> (first | omega | (exfalso; omega))
            rw [hxx]; exact ⟨by omega, by omega, p3⟩
          · refine rg_i (by omega) ?_
            intro w19 w19b
            have y20 := us_q (v := (us_ (an_ (xo_ a (-1)) (a - 1)) 4)) (by omega)
            intro w21 w21b
            have y22 := us_q (v := (us_ (us_ (an_ (xo_ a (-1)) (a - 1)) 4) 2)) (by omega)
            refine rg_i (by omega) ?_
            refine (show po_J6_numberOfTrailingZeros_0f7a4 T a T (some (vI (((1 + 4) + 2) + (us_ (us_ (us_ (an_ (xo_ a (-1)) (a - 1)) 4) 2) 1)))) from ?_)
            obtain ⟨x9, p1, p2, p3⟩ := tz_q h1
            refine ⟨rfl, _, rfl, ?_⟩
            have hxx : ((1 + 4) + 2) + (us_ (us_ (us_ (an_ (xo_ a (-1)) (a - 1)) 4) 2) 1) = (x9 : Int) := by
              have : x9 = 0 ∨ x9 = 1 ∨ x9 = 2 ∨ x9 = 3 ∨ x9 = 4 ∨ x9 = 5 ∨ x9 = 6 ∨ x9 = 7 ∨ x9 = 8 ∨ x9 = 9 ∨ x9 = 10 ∨ x9 = 11 := by omega
              rcases this with rfl | rfl | rfl | rfl | rfl | rfl | rfl | rfl | rfl | rfl | rfl | rfl <;> simp only [Nat.reducePow] at p2 <;> (first | omega | (exfalso; omega))
            rw [hxx]; exact ⟨by omega, by omega, p3⟩
      · refine rg_i (by omega) ?_
        intro w23 w23b
        have y24 := us_q (v := (an_ (xo_ a (-1)) (a - 1))) (by omega)
        refine And.intro (fun c25 => ?_) (fun c25 => ?_)
        · refine hK 62 [some (vI (us_ (an_ (xo_ a (-1)) (a - 1)) 8)), some (vI (1 + 8))] [] T ?_
          refine j_blx (F := fJ6) tb_J6 (nn_ _) bk_J6_numberOfTrailingZeros_0f7a4_62 bs_J6_numberOfTrailingZeros_0f7a4_62 hz (fun K hK => ?_)
          refine And.intro (fun c26 => ?_) (fun c26 => ?_)
          · refine hK 74 _ [] T ?_
            refine j_blx (F := fJ6) tb_J6 (nn_ _) bk_J6_numberOfTrailingZeros_0f7a4_74 bs_J6_numberOfTrailingZeros_0f7a4_74 hz (fun K hK => ?_)
            intro w27 w27b
            have y28 := us_q (v := (us_ (an_ (xo_ a (-1)) (a - 1)) 8)) (by omega)
            refine rg_i (by omega) ?_
            refine (show po_J6_numberOfTrailingZeros_0f7a4 T a T (some (vI ((1 + 8) + (us_ (us_ (an_ (xo_ a (-1)) (a - 1)) 8) 1)))) from ?_)
            obtain ⟨x9, p1, p2, p3⟩ := tz_q h1
            refine ⟨rfl, _, rfl, ?_⟩
            have hxx : (1 + 8) + (us_ (us_ (an_ (xo_ a (-1)) (a - 1)) 8) 1) = (x9 : Int) := by
              have : x9 = 0 ∨ x9 = 1 ∨ x9 = 2 ∨ x9 = 3 ∨ x9 = 4 ∨ x9 = 5 ∨ x9 = 6 ∨ x9 = 7 ∨ x9 = 8 ∨ x9 = 9 ∨ x9 = 10 ∨ x9 = 11 := by omega
              rcases this with rfl | rfl | rfl | rfl | rfl | rfl | rfl | rfl | rfl | rfl | rfl | rfl <;> simp only [Nat.reducePow] at p2 <;> (first | omega | (exfalso; omega))
            rw [hxx]; exact ⟨by omega, by omega, p3⟩
          · refine rg_i (by omega) ?_
            intro w29 w29b
            have y30 := us_q (v := (us_ (an_ (xo_ a (-1)) (a - 1)) 8)) (by omega)
            intro w31 w31b
            have y32 := us_q (v := (us_ (us_ (an_ (xo_ a (-1)) (a - 1)) 8) 2)) (by omega)
            refine rg_i (by omega) ?_
            refine (show po_J6_numberOfTrailingZeros_0f7a4 T a T (some (vI (((1 + 8) + 2) + (us_ (us_ (us_ (an_ (xo_ a (-1)) (a - 1)) 8) 2) 1)))) from ?_)
            obtain ⟨x9, p1, p2, p3⟩ := tz_q h1
            refine ⟨rfl, _, rfl, ?_⟩
            have hxx : ((1 + 8) + 2) + (us_ (us_ (us_ (an_ (xo_ a (-1)) (a - 1)) 8) 2) 1) = (x9 : Int) := by
              have : x9 = 0 ∨ x9 = 1 ∨ x9 = 2 ∨ x9 = 3 ∨ x9 = 4 ∨ x9 = 5 ∨ x9 = 6 ∨ x9 = 7 ∨ x9 = 8 ∨ x9 = 9 ∨ x9 = 10 ∨ x9 = 11 := by omega
              rcases this with rfl | rfl | rfl | rfl | rfl | rfl | rfl | rfl | rfl | rfl | rfl | rfl <;> simp only [Nat.reducePow] at p2 <;> (first | omega | (exfalso; omega))
            rw [hxx]; exact ⟨by omega, by omega, p3⟩
        · refine rg_i (by omega) ?_
          intro w33 w33b
          have y34 := us_q (v := (us_ (an_ (xo_ a (-1)) (a - 1)) 8)) (by omega)
          refine And.intro (fun c35 => ?_) (fun c35 => ?_)
          · refine hK 74 [some (vI (us_ (us_ (an_ (xo_ a (-1)) (a - 1)) 8) 4)), some (vI ((1 + 8) + 4))] [] T ?_
            refine j_blx (F := fJ6) tb_J6 (nn_ _) bk_J6_numberOfTrailingZeros_0f7a4_74 bs_J6_numberOfTrailingZeros_0f7a4_74 hz (fun K hK => ?_)
            intro w36 w36b
            have y37 := us_q (v := (us_ (us_ (an_ (xo_ a (-1)) (a - 1)) 8) 4)) (by omega)
            refine rg_i (by omega) ?_
            refine (show po_J6_numberOfTrailingZeros_0f7a4 T a T (some (vI (((1 + 8) + 4) + (us_ (us_ (us_ (an_ (xo_ a (-1)) (a - 1)) 8) 4) 1)))) from ?_)
            obtain ⟨x9, p1, p2, p3⟩ := tz_q h1
            refine ⟨rfl, _, rfl, ?_⟩
            have hxx : ((1 + 8) + 4) + (us_ (us_ (us_ (an_ (xo_ a (-1)) (a - 1)) 8) 4) 1) = (x9 : Int) := by
              have : x9 = 0 ∨ x9 = 1 ∨ x9 = 2 ∨ x9 = 3 ∨ x9 = 4 ∨ x9 = 5 ∨ x9 = 6 ∨ x9 = 7 ∨ x9 = 8 ∨ x9 = 9 ∨ x9 = 10 ∨ x9 = 11 := by omega
              rcases this with rfl | rfl | rfl | rfl | rfl | rfl | rfl | rfl | rfl | rfl | rfl | rfl <;> simp only [Nat.reducePow] at p2 <;> (first | omega | (exfalso; omega))
            rw [hxx]; exact ⟨by omega, by omega, p3⟩
          · refine rg_i (by omega) ?_
            intro w38 w38b
            have y39 := us_q (v := (us_ (us_ (an_ (xo_ a (-1)) (a - 1)) 8) 4)) (by omega)
            intro w40 w40b
            have y41 := us_q (v := (us_ (us_ (us_ (an_ (xo_ a (-1)) (a - 1)) 8) 4) 2)) (by omega)
            refine rg_i (by omega) ?_
            refine (show po_J6_numberOfTrailingZeros_0f7a4 T a T (some (vI ((((1 + 8) + 4) + 2) + (us_ (us_ (us_ (us_ (an_ (xo_ a (-1)) (a - 1)) 8) 4) 2) 1)))) from ?_)
            obtain ⟨x9, p1, p2, p3⟩ := tz_q h1
            refine ⟨rfl, _, rfl, ?_⟩
            have hxx : (((1 + 8) + 4) + 2) + (us_ (us_ (us_ (us_ (an_ (xo_ a (-1)) (a - 1)) 8) 4) 2) 1) = (x9 : Int) := by
              have : x9 = 0 ∨ x9 = 1 ∨ x9 = 2 ∨ x9 = 3 ∨ x9 = 4 ∨ x9 = 5 ∨ x9 = 6 ∨ x9 = 7 ∨ x9 = 8 ∨ x9 = 9 ∨ x9 = 10 ∨ x9 = 11 := by omega
              rcases this with rfl | rfl | rfl | rfl | rfl | rfl | rfl | rfl | rfl | rfl | rfl | rfl <;> simp only [Nat.reducePow] at p2 <;> (first | omega | (exfalso; omega))
            rw [hxx]; exact ⟨by omega, by omega, p3⟩
    · exact absurd c4 (by omega)
  · intro w42 w42b
    refine (show po_J6_numberOfTrailingZeros_0f7a4 T a T (some (vI (an_ (an_ (xo_ a (-1)) (a - 1)) 32))) from ?_)
    obtain ⟨x9, p1, p2, p3⟩ := tz_q h1
    refine ⟨rfl, _, rfl, ?_⟩
    have hxx : an_ (an_ (xo_ a (-1)) (a - 1)) 32 = (x9 : Int) := by
      have : x9 = 0 ∨ x9 = 1 ∨ x9 = 2 ∨ x9 = 3 ∨ x9 = 4 ∨ x9 = 5 ∨ x9 = 6 ∨ x9 = 7 ∨ x9 = 8 ∨ x9 = 9 ∨ x9 = 10 ∨ x9 = 11 := by omega
      rcases this with rfl | rfl | rfl | rfl | rfl | rfl | rfl | rfl | rfl | rfl | rfl | rfl <;> simp only [Nat.reducePow] at p2 <;> (first | (rw [p2]; decide) | (exfalso; omega))
    rw [hxx]; exact ⟨by omega, by omega, p3⟩
abbrev cX9_leastCut : ByteArray := prog_11_method_15_code
def yX9_leastCut : MethodName := ⟨RX9, "leastCut", "(I)I"⟩
def zX9_leastCut : Zm := (RX9, cX9_leastCut, 7, (some .int), { frames := 1, cells := 1, slots := 4096, locals := 25 })
theorem bk_X9_leastCut_72 : ck_ fX9 (some .int) cX9_leastCut 72 [.iload 4, .iconst 4096, .if_icmp .ge 161, .iload 3, .iload 2, .if_icmp .eq 161, .iload 3, .iload 2, .isub, .iload 2, .iand, .istore 3, .iload 3] 92 = true := qck_r (nn_ _) (by decide +kernel)
theorem bs_X9_leastCut_72 {P : Zt → Option Zv → Prop} (K : Int → Zl → List Zv → Zt → Prop) : sx_ K P [.iload 4, .iconst 4096, .if_icmp .ge 161, .iload 3, .iload 2, .if_icmp .eq 161, .iload 3, .iload 2, .isub, .iload 2, .iand, .istore 3, .iload 3] 92 = x_iload 4 (x_iconst 4096 (x_if_icmp .ge 161 K (x_iload 3 (x_iload 2 (x_if_icmp .eq 161 K (x_iload 3 (x_iload 2 (x_isub (x_iload 2 (x_iand (x_istore 3 (x_iload 3 (K 92))))))))))))) := ((xe_iload 4).trans (congrArg (x_iload 4) ((xe_iconst 4096).trans (congrArg (x_iconst 4096) ((xe_if_icmp .ge 161).trans (congrArg (x_if_icmp .ge 161 K) ((xe_iload 3).trans (congrArg (x_iload 3) ((xe_iload 2).trans (congrArg (x_iload 2) ((xe_if_icmp .eq 161).trans (congrArg (x_if_icmp .eq 161 K) ((xe_iload 3).trans (congrArg (x_iload 3) ((xe_iload 2).trans (congrArg (x_iload 2) ((xe_isub).trans (congrArg (x_isub) ((xe_iload 2).trans (congrArg (x_iload 2) ((xe_iand).trans (congrArg (x_iand) ((xe_istore 3).trans (congrArg (x_istore 3) ((xe_iload 3).trans (congrArg (x_iload 3) xe_nil))))))))))))))))))))))))))
theorem bk_X9_leastCut_161 : ck_ fX9 (some .int) cX9_leastCut 161 [.iconst 0, .ireturn] 163 = true := qck_r (nn_ _) (by decide +kernel)
theorem bs_X9_leastCut_161 {P : Zt → Option Zv → Prop} (K : Int → Zl → List Zv → Zt → Prop) : sx_ K P [.iconst 0, .ireturn] 163 = x_iconst 0 (x_ireturn P) := ((xe_iconst 0).trans (congrArg (x_iconst 0) (xe_ireturn)))
set_option maxRecDepth 100000 in
theorem cl_X9_168 : cs_ RX9 168 yJ6_numberOfTrailingZeros_0f7a4 zJ6_numberOfTrailingZeros_0f7a4 1 := ⟨gi_S (lw_b6 83 (by decide +kernel) rfl : Cond.methodLink RX9 168 yJ6_numberOfTrailingZeros_0f7a4 ∈ lw_g) (lw_b6 84 (by decide +kernel) rfl : Cond.static yJ6_numberOfTrailingZeros_0f7a4 ∈ lw_g) (lw_b1 19 (by decide +kernel) rfl : Cond.initialized yJ6_numberOfTrailingZeros_0f7a4.cls ∈ lw_g) (lw_b6 85 rfl rfl : Cond.code yJ6_numberOfTrailingZeros_0f7a4 cJ6_numberOfTrailingZeros_0f7a4 2 (some .int) ∈ lw_g), ⟨by decide, by decide, by decide +kernel⟩⟩
theorem bk_X9_leastCut_95 : ck_ fX9 (some .int) cX9_leastCut 95 [.istore 5, .iload 3, .iload 3, .iconst 1, .isub, .iand, .istore 6, .aload 0, .tableswitch 0 9 15 #[], .iload 3, .aload 0, .tableswitch 0 9 15 #[], .iload 6, .iaload, .aload 0, .tableswitch 0 9 11 #[], .aload 0, .tableswitch 0 9 5 #[], .tableswitch 0 0 4 #[], .iload 5, .iaload, .iaload, .fadd, .iconst 2, .aload 0, .iload 5, .iload 6] 138 = true := qck_r (nn_ _) (by decide +kernel)
theorem bs_X9_leastCut_95 {P : Zt → Option Zv → Prop} (K : Int → Zl → List Zv → Zt → Prop) : sx_ K P [.istore 5, .iload 3, .iload 3, .iconst 1, .isub, .iand, .istore 6, .aload 0, .tableswitch 0 9 15 #[], .iload 3, .aload 0, .tableswitch 0 9 15 #[], .iload 6, .iaload, .aload 0, .tableswitch 0 9 11 #[], .aload 0, .tableswitch 0 9 5 #[], .tableswitch 0 0 4 #[], .iload 5, .iaload, .iaload, .fadd, .iconst 2, .aload 0, .iload 5, .iload 6] 138 = x_istore 5 (x_iload 3 (x_iload 3 (x_iconst 1 (x_isub (x_iand (x_istore 6 (x_aload 0 (x_g5 109 190 15 (x_iload 3 (x_aload 0 (x_g5 109 190 15 (x_iload 6 (x_iaload (x_aload 0 (x_g1 109 591 (x_aload 0 (x_g5 109 100 5 (x_g2 100 404 (x_iload 5 (x_iaload (x_iaload (x_fadd (x_iconst 2 (x_aload 0 (x_iload 5 (x_iload 6 (K 138))))))))))))))))))))))))))) := ((xe_istore 5).trans (congrArg (x_istore 5) ((xe_iload 3).trans (congrArg (x_iload 3) ((xe_iload 3).trans (congrArg (x_iload 3) ((xe_iconst 1).trans (congrArg (x_iconst 1) ((xe_isub).trans (congrArg (x_isub) ((xe_iand).trans (congrArg (x_iand) ((xe_istore 6).trans (congrArg (x_istore 6) ((xe_aload 0).trans (congrArg (x_aload 0) ((xe_g5 (kk := 109) rfl tl_9_15).trans (congrArg (x_g5 109 190 15) ((xe_iload 3).trans (congrArg (x_iload 3) ((xe_aload 0).trans (congrArg (x_aload 0) ((xe_g5 (kk := 109) rfl tl_9_15).trans (congrArg (x_g5 109 190 15) ((xe_iload 6).trans (congrArg (x_iload 6) ((xe_iaload).trans (congrArg (x_iaload) ((xe_aload 0).trans (congrArg (x_aload 0) ((xe_g1 (kk := 109) rfl tl_9_11).trans (congrArg (x_g1 109 591) ((xe_aload 0).trans (congrArg (x_aload 0) ((xe_g5 (kk := 109) rfl tl_9_5).trans (congrArg (x_g5 109 100 5) ((xe_g2 (kk := 100) rfl tl_0_4).trans (congrArg (x_g2 100 404) ((xe_iload 5).trans (congrArg (x_iload 5) ((xe_iaload).trans (congrArg (x_iaload) ((xe_iaload).trans (congrArg (x_iaload) ((xe_fadd).trans (congrArg (x_fadd) ((xe_iconst 2).trans (congrArg (x_iconst 2) ((xe_aload 0).trans (congrArg (x_aload 0) ((xe_iload 5).trans (congrArg (x_iload 5) ((xe_iload 6).trans (congrArg (x_iload 6) xe_nil))))))))))))))))))))))))))))))))))))))))))))))))))))))
set_option maxRecDepth 100000 in
theorem cl_X9_173 : cv_ RX9 173 yX9_openBetween zX9_openBetween 9 2 := ⟨gi_V (lw_b6 87 (by decide +kernel) rfl : Cond.methodLink RX9 173 yX9_openBetween ∈ lw_g) (lw_b6 89 (by decide +kernel) rfl : Cond.instanceMethod yX9_openBetween ∈ lw_g) (lw_sel 142 rfl : Cond.selects yX9_openBetween.cls yX9_openBetween yX9_openBetween ∈ lw_g) (lw_b1 6 (by decide +kernel) rfl : Cond.initialized yX9_openBetween.cls ∈ lw_g) (lw_b6 90 rfl rfl : Cond.code yX9_openBetween cX9_openBetween 6 (some .int) ∈ lw_g), ⟨by decide, by decide, by decide +kernel⟩, ⟨_, _, rfl⟩⟩
theorem bk_X9_leastCut_141 : ck_ fX9 (some .int) cX9_leastCut 141 [.imul, .fsub, .iastore, .aload 0, .tableswitch 0 9 15 #[], .iload 3, .iaload, .ifCond .ge 155, .iload 3, .ireturn] 155 = true := qck_r (nn_ _) (by decide +kernel)
theorem bs_X9_leastCut_141 {P : Zt → Option Zv → Prop} (K : Int → Zl → List Zv → Zt → Prop) : sx_ K P [.imul, .fsub, .iastore, .aload 0, .tableswitch 0 9 15 #[], .iload 3, .iaload, .ifCond .ge 155, .iload 3, .ireturn] 155 = x_imul (x_fsub (x_iastore (x_aload 0 (x_g5 109 190 15 (x_iload 3 (x_iaload (x_ifCond .ge 155 K (x_iload 3 (x_ireturn P))))))))) := ((xe_imul).trans (congrArg (x_imul) ((xe_fsub).trans (congrArg (x_fsub) ((xe_iastore).trans (congrArg (x_iastore) ((xe_aload 0).trans (congrArg (x_aload 0) ((xe_g5 (kk := 109) rfl tl_9_15).trans (congrArg (x_g5 109 190 15) ((xe_iload 3).trans (congrArg (x_iload 3) ((xe_iaload).trans (congrArg (x_iaload) ((xe_ifCond .ge 155).trans (congrArg (x_ifCond .ge 155 K) ((xe_iload 3).trans (congrArg (x_iload 3) (xe_ireturn)))))))))))))))))))
theorem bk_X9_leastCut_155 : ck_ fX9 (some .int) cX9_leastCut 155 [.iinc 4 1, .goto 72] 161 = true := qck_r (nn_ _) (by decide +kernel)
theorem bs_X9_leastCut_155 {P : Zt → Option Zv → Prop} (K : Int → Zl → List Zv → Zt → Prop) : sx_ K P [.iinc 4 1, .goto 72] 161 = x_iinc 4 1 (x_goto 72 K) := ((xe_iinc 4 1).trans (congrArg (x_iinc 4 1) (xe_goto 72)))
theorem bk_X9_leastCut_27 : ck_ fX9 (some .int) cX9_leastCut 27 [.iload 3, .aload 0, .tableswitch 0 9 5 #[], .tableswitch 0 0 5 #[], .if_icmp .ge 67, .iload 2, .iload 3, .iload 1, .if_icmp .ne 48, .iconst 0, .goto 59] 48 = true := qck_r (nn_ _) (by decide +kernel)
theorem bs_X9_leastCut_27 {P : Zt → Option Zv → Prop} (K : Int → Zl → List Zv → Zt → Prop) : sx_ K P [.iload 3, .aload 0, .tableswitch 0 9 5 #[], .tableswitch 0 0 5 #[], .if_icmp .ge 67, .iload 2, .iload 3, .iload 1, .if_icmp .ne 48, .iconst 0, .goto 59] 48 = x_iload 3 (x_aload 0 (x_g5 109 100 5 (x_g0 100 5 0 12 (x_if_icmp .ge 67 K (x_iload 2 (x_iload 3 (x_iload 1 (x_if_icmp .ne 48 K (x_iconst 0 (x_goto 59 K)))))))))) := ((xe_iload 3).trans (congrArg (x_iload 3) ((xe_aload 0).trans (congrArg (x_aload 0) ((xe_g5 (kk := 109) rfl tl_9_5).trans (congrArg (x_g5 109 100 5) ((xe_g0 (kk := 100) rfl tl_0_5).trans (congrArg (x_g0 100 5 0 12) ((xe_if_icmp .ge 67).trans (congrArg (x_if_icmp .ge 67 K) ((xe_iload 2).trans (congrArg (x_iload 2) ((xe_iload 3).trans (congrArg (x_iload 3) ((xe_iload 1).trans (congrArg (x_iload 1) ((xe_if_icmp .ne 48).trans (congrArg (x_if_icmp .ne 48 K) ((xe_iconst 0).trans (congrArg (x_iconst 0) (xe_goto 59)))))))))))))))))))))
theorem bk_X9_leastCut_67 : ck_ fX9 (some .int) cX9_leastCut 67 [.iconst 0, .istore 3, .iconst 1, .istore 4] 72 = true := qck_r (nn_ _) (by decide +kernel)
theorem bs_X9_leastCut_67 {P : Zt → Option Zv → Prop} (K : Int → Zl → List Zv → Zt → Prop) : sx_ K P [.iconst 0, .istore 3, .iconst 1, .istore 4] 72 = x_iconst 0 (x_istore 3 (x_iconst 1 (x_istore 4 (K 72)))) := ((xe_iconst 0).trans (congrArg (x_iconst 0) ((xe_istore 3).trans (congrArg (x_istore 3) ((xe_iconst 1).trans (congrArg (x_iconst 1) ((xe_istore 4).trans (congrArg (x_istore 4) xe_nil))))))))
theorem bk_X9_leastCut_48 : ck_ fX9 (some .int) cX9_leastCut 48 [.iconst 1, .aload 0, .tableswitch 0 9 5 #[], .tableswitch 0 0 3 #[], .iload 3, .iaload, .ishl, .ior, .istore 2, .iinc 3 1, .goto 27] 67 = true := qck_r (nn_ _) (by decide +kernel)
theorem bs_X9_leastCut_48 {P : Zt → Option Zv → Prop} (K : Int → Zl → List Zv → Zt → Prop) : sx_ K P [.iconst 1, .aload 0, .tableswitch 0 9 5 #[], .tableswitch 0 0 3 #[], .iload 3, .iaload, .ishl, .ior, .istore 2, .iinc 3 1, .goto 27] 67 = x_iconst 1 (x_aload 0 (x_g5 109 100 5 (x_g2 100 403 (x_iload 3 (x_iaload (x_ishl (x_ior (x_istore 2 (x_iinc 3 1 (x_goto 27 K)))))))))) := ((xe_iconst 1).trans (congrArg (x_iconst 1) ((xe_aload 0).trans (congrArg (x_aload 0) ((xe_g5 (kk := 109) rfl tl_9_5).trans (congrArg (x_g5 109 100 5) ((xe_g2 (kk := 100) rfl tl_0_3).trans (congrArg (x_g2 100 403) ((xe_iload 3).trans (congrArg (x_iload 3) ((xe_iaload).trans (congrArg (x_iaload) ((xe_ishl).trans (congrArg (x_ishl) ((xe_ior).trans (congrArg (x_ior) ((xe_istore 2).trans (congrArg (x_istore 2) ((xe_iinc 3 1).trans (congrArg (x_iinc 3 1) (xe_goto 27)))))))))))))))))))))
theorem bk_X9_leastCut_59 : ck_ fX9 (some .int) cX9_leastCut 59 [.ior, .istore 2, .iinc 3 1, .goto 27] 67 = true := qck_r (nn_ _) (by decide +kernel)
theorem bs_X9_leastCut_59 {P : Zt → Option Zv → Prop} (K : Int → Zl → List Zv → Zt → Prop) : sx_ K P [.ior, .istore 2, .iinc 3 1, .goto 27] 67 = x_ior (x_istore 2 (x_iinc 3 1 (x_goto 27 K))) := ((xe_ior).trans (congrArg (x_ior) ((xe_istore 2).trans (congrArg (x_istore 2) ((xe_iinc 3 1).trans (congrArg (x_iinc 3 1) (xe_goto 27)))))))
theorem bk_X9_leastCut_16 : ck_ fX9 (some .int) cX9_leastCut 16 [.aload 0, .tableswitch 0 9 15 #[], .iconst 0, .iconst 0, .iastore, .iconst 0, .istore 2, .iconst 0, .istore 3] 27 = true := qck_r (nn_ _) (by decide +kernel)
theorem bs_X9_leastCut_16 {P : Zt → Option Zv → Prop} (K : Int → Zl → List Zv → Zt → Prop) : sx_ K P [.aload 0, .tableswitch 0 9 15 #[], .iconst 0, .iconst 0, .iastore, .iconst 0, .istore 2, .iconst 0, .istore 3] 27 = x_aload 0 (x_g5 109 190 15 (x_iconst 0 (x_iconst 0 (x_iastore (x_iconst 0 (x_istore 2 (x_iconst 0 (x_istore 3 (K 27))))))))) := ((xe_aload 0).trans (congrArg (x_aload 0) ((xe_g5 (kk := 109) rfl tl_9_15).trans (congrArg (x_g5 109 190 15) ((xe_iconst 0).trans (congrArg (x_iconst 0) ((xe_iconst 0).trans (congrArg (x_iconst 0) ((xe_iastore).trans (congrArg (x_iastore) ((xe_iconst 0).trans (congrArg (x_iconst 0) ((xe_istore 2).trans (congrArg (x_istore 2) ((xe_iconst 0).trans (congrArg (x_iconst 0) ((xe_istore 3).trans (congrArg (x_istore 3) xe_nil))))))))))))))))))
theorem bk_X9_leastCut_0 : ck_ fX9 (some .int) cX9_leastCut 0 [.aload 0, .tableswitch 0 9 15 #[], .ifnonnull 16, .aload 0, .iconst 4096] 11 = true := qck_r (nn_ _) (by decide +kernel)
theorem bs_X9_leastCut_0 {P : Zt → Option Zv → Prop} (K : Int → Zl → List Zv → Zt → Prop) : sx_ K P [.aload 0, .tableswitch 0 9 15 #[], .ifnonnull 16, .aload 0, .iconst 4096] 11 = x_aload 0 (x_g5 109 190 15 (x_ifnonnull 16 K (x_aload 0 (x_iconst 4096 (K 11))))) := ((xe_aload 0).trans (congrArg (x_aload 0) ((xe_g5 (kk := 109) rfl tl_9_15).trans (congrArg (x_g5 109 190 15) ((xe_ifnonnull 16).trans (congrArg (x_ifnonnull 16 K) ((xe_aload 0).trans (congrArg (x_aload 0) ((xe_iconst 4096).trans (congrArg (x_iconst 4096) xe_nil))))))))))
theorem fr5_X9_165 : fr5_ RX9 165 9 15 := ⟨_, _, _, rfl, by decide, by decide, (lw_b2 46 (by decide +kernel) rfl : Cond.fieldLink RX9 165 _ _ _ ∈ lw_g), rfl, fun a => ⟨.array .int, by decide +kernel, rfl, rfl⟩⟩
abbrev po_X9_leastCut (T : Zt) (t : Int) : Zt → Option Zv → Prop := fun T' r => ∃ x : Int, r = some (vI x) ∧ fr_ [(109, [15]), (190, []), (191, [0])] T T' ∧ (0 ≤ x ∧ x ≤ 4095) ∧ (T' 109 0 15 ≠ 0 → T' 190 (T' 109 0 15 - 1) (-2) = 4096 ∧ 1 ≤ T' 109 0 15) ∧ lh_ T T' ∧ T' 191 0 0 ≤ T 191 0 0 + 1
set_option maxHeartbeats 4000000 in
theorem ct_X9_leastCut {T : Zt} {t : Int} (hq9 : Q9_ T) (hka : KA_ T) (hke : KEc_ T (T 109 0 5 - 1)) (hsl : T 109 0 15 ≠ 0 → T 190 (T 109 0 15 - 1) (-2) = 4096 ∧ 1 ≤ T 109 0 15) (h9 : 0 ≤ T 191 0 0 ∧ T 191 0 0 ≤ 900000000) : Ct_ yX9_leastCut zX9_leastCut T [vR 109 0, vI t] (po_X9_leastCut T t) := by
  refine ct_of pn_9 rfl rfl (Nat.le_of_ble_eq_true rfl) (fun hT hav => ?_)
  have hr_t : -2147483648 ≤ t ∧ t ≤ 2147483647 := hav (vI t) (by simp)
  have hz : zX9_leastCut.2.2.2.1 = some .boolean → ∀ (T' : Zt) (x : Int), po_X9_leastCut T t T' (some (vI x)) → 0 ≤ x ∧ x ≤ 1 := fun h => by cases h
  have hct := hq9.1
  have hen : 0 ≤ T 100 (T 109 0 5 - 1) 5 ∧ T 100 (T 109 0 5 - 1) 5 ≤ 12 := bd_f hT 100 5 (by decide +kernel : (tf_ 100)[5]? = some (0, 0, 0, 12)) (T 109 0 5 - 1)
  show J_ zX9_leastCut T (po_X9_leastCut T t) 1 4096 0 [some (vR 109 0), some (vI t), none, none, none, none, none] [] T
  have c_16 : ∀ (b : Int) (T1 : Zt), (fr_ [(109, [15]), (190, []), (191, [0])] T T1) → (T1 109 0 15 = b + 1 ∧ T1 190 b (-2) = 4096 ∧ 0 ≤ b) → (lh_ T T1 ∧ T1 191 0 0 ≤ T 191 0 0 + 1) → J_ zX9_leastCut T (po_X9_leastCut T t) 0 0 16 [some (vR 109 0), some (vI t), none, none, none, none, none] [] T1 := by
    intro b T1 hf_16 l1 h1
    have c_72 : ∀ (nn : Nat) (o : Int) (g : Int) (j : Int) (T3 : Zt), ((4096 - j).toNat) ≤ nn → (fr_ [(109, [15]), (190, []), (191, [0])] T T3) → (0 ≤ o ∧ o ≤ 4095 ∧ 0 ≤ g ∧ g < 4096 ∧ 1 ≤ j) → (an_ g o = g) → (OB_ T (T 109 0 5 - 1) o) → (T3 109 0 15 = b + 1 ∧ T3 190 b (-2) = 4096 ∧ 0 ≤ b) → (lh_ T T3 ∧ T3 191 0 0 ≤ T 191 0 0 + 1) → J_ zX9_leastCut T (po_X9_leastCut T t) 0 0 72 [some (vR 109 0), some (vI t), some (vI o), some (vI g), some (vI j), none, none] [] T3 := by
      intro nn
      induction nn using Nat.strongRecOn with
      | _ nn ih_72 =>
        intro o g j T3 hm_72 hf_72 i3 n3 obo l3 h3
        refine j_blx (F := fX9) tb_X9 (nn_ _) bk_X9_leastCut_72 bs_X9_leastCut_72 hz (fun K hK => ?_)
        refine And.intro (fun c1 => ?_) (fun c1 => ?_)
        · refine hK 161 _ [] T3 ?_
          refine j_blx (F := fX9) tb_X9 (nn_ _) bk_X9_leastCut_161 bs_X9_leastCut_161 hz (fun K hK => ?_)
          refine (show po_X9_leastCut T t T3 (some (vI 0)) from ?_)
          exact ⟨_, rfl, hf_72, by omega, fun _ => ⟨by rw [show T3 109 0 15 - 1 = b by omega]; exact l3.2.1, by omega⟩, h3⟩
        · refine And.intro (fun c2 => ?_) (fun c2 => ?_)
          · refine hK 161 _ [] T3 ?_
            refine j_blx (F := fX9) tb_X9 (nn_ _) bk_X9_leastCut_161 bs_X9_leastCut_161 hz (fun K hK => ?_)
            refine (show po_X9_leastCut T t T3 (some (vI 0)) from ?_)
            exact ⟨_, rfl, hf_72, by omega, fun _ => ⟨by rw [show T3 109 0 15 - 1 = b by omega]; exact l3.2.1, by omega⟩, h3⟩
          · refine rg_i (by omega) ?_
            intro w3 w3b
            obtain ⟨nx0, nx1, nxi⟩ := nx_1 (s := g) (o := o) (by omega) (by omega) n3 (by omega)
            refine hK 92 [some (vR 109 0), some (vI t), some (vI o), some (vI (an_ (g - o) o)), some (vI j), none, none] [vI (an_ (g - o) o)] T3 ?_
            refine j_callS (y := yJ6_numberOfTrailingZeros_0f7a4) (Yc := zJ6_numberOfTrailingZeros_0f7a4) (rest := []) [vI (an_ (g - o) o)] (ct_J6_numberOfTrailingZeros_0f7a4 (T := T3) (by omega)) cl_X9_168 (qd_c (by decide +kernel)) (nn_ _) rfl (rf_of rfl) (Nat.le_of_ble_eq_true rfl) (Nat.le_of_ble_eq_true rfl) (Nat.le_of_ble_eq_true rfl) rfl ?_
            rintro _ _ ⟨rfl, x4, rfl, hx4⟩
            have g5 := obo x4 hx4.1 hx4.2.1 (nx_b (by omega) (by omega) nxi ⟨by omega, by omega⟩ hx4.2.2)
            show J_ zX9_leastCut T (po_X9_leastCut T t) 0 0 95 _ [vI x4] T3
            refine j_blx (F := fX9) tb_X9 (nn_ _) bk_X9_leastCut_95 bs_X9_leastCut_95 hz (fun K hK => ?_)
            refine rg_i (by omega) ?_
            intro w5 w5b
            obtain ⟨-, ny0, ny1⟩ := an_1 (s := an_ (g - o) o) (by omega)
            refine And.intro (fun c6 => ?_) (fun c6 => ?_)
            · exact absurd c6 (by omega)
            · have z7 : T3 109 0 15 - 1 = b := by omega
              rw [z7]
              refine And.intro (fun c8 => ?_) (fun c8 => ?_)
              · exact absurd c8 (by omega)
              · have z9 : T3 109 0 15 - 1 = b := by omega
                rw [z9]
                refine ix_i (by omega) ?_
                intro b10 b10b
                have e12 : T3 109 0 5 = T 109 0 5 := hf_72 109 0 5 rfl
                refine And.intro (fun c11 => ?_) (fun c11 => ?_)
                · exact absurd c11 (by omega)
                · have z13 : T3 109 0 5 - 1 = (T 109 0 5 - 1) := by omega
                  rw [z13]
                  refine ix_i (by omega) ?_
                  intro b14 b14b
                  have e15 : T3 404 (T 109 0 5 - 1) x4 = T 404 (T 109 0 5 - 1) x4 := hf_72 404 (T 109 0 5 - 1) x4 rfl
                  rw [e15] at b14 b14b ⊢
                  refine ix_i (by omega) ?_
                  intro b16 b16b
                  have e17 : T3 591 0 (T 404 (T 109 0 5 - 1) x4) = T 591 0 (T 404 (T 109 0 5 - 1) x4) := hf_72 591 0 (T 404 (T 109 0 5 - 1) x4) rfl
                  rw [e17] at b16 b16b ⊢
                  intro w18 w18b
                  refine hK 138 [some (vR 109 0), some (vI t), some (vI o), some (vI (an_ (g - o) o)), some (vI j), some (vI x4), some (vI (an_ (an_ (g - o) o) ((an_ (g - o) o) - 1)))] [vI (an_ (an_ (g - o) o) ((an_ (g - o) o) - 1)), vI x4, vR 109 0, vI 2, vI (wr_ ((T3 190 b (an_ (an_ (g - o) o) ((an_ (g - o) o) - 1))) + (T 591 0 (T 404 (T 109 0 5 - 1) x4)))), vI (an_ (g - o) o), vR 190 b] T3 ?_
                  refine j_callV (y := yX9_openBetween) (Yc := zX9_openBetween) (rest := [vI 2, vI (wr_ ((T3 190 b (an_ (an_ (g - o) o) ((an_ (g - o) o) - 1))) + (T 591 0 (T 404 (T 109 0 5 - 1) x4)))), vI (an_ (g - o) o), vR 190 b]) [vI x4, vI (an_ (an_ (g - o) o) ((an_ (g - o) o) - 1))] (ct_X9_openBetween (T := T3) (by exact q9_f hq9 (show fr_ [(109, [15]), (190, []), (191, [0])] T T3 from fr_t (fr_0 _ _) (fr_s hf_72 rfl)) ⟨fun _ _ => rfl, fun _ => rfl, rfl, rfl, rfl, rfl, rfl⟩) (by exact KA__f hka (show fr_ [(109, [15]), (190, []), (191, [0])] T T3 from fr_t (fr_0 _ _) (fr_s hf_72 rfl)) ⟨fun _ => rfl, fun _ => rfl, rfl, rfl, trivial⟩)) cl_X9_173 (qd_c (by decide +kernel)) (nn_ _) rfl (rf_of rfl) (Nat.le_of_ble_eq_true rfl) (Nat.le_of_ble_eq_true rfl) (Nat.le_of_ble_eq_true rfl) rfl ?_
                  rintro _ _ ⟨rfl, x19, rfl, hx19⟩
                  show J_ zX9_leastCut T (po_X9_leastCut T t) 0 0 141 _ [vI x19, vI 2, vI (wr_ ((T3 190 b (an_ (an_ (g - o) o) ((an_ (g - o) o) - 1))) + (T 591 0 (T 404 (T 109 0 5 - 1) x4)))), vI (an_ (g - o) o), vR 190 b] T3
                  refine j_blx (F := fX9) tb_X9 (nn_ _) bk_X9_leastCut_141 bs_X9_leastCut_141 hz (fun K hK => ?_)
                  refine rg_i (by omega) ?_
                  intro w20 w20b
                  refine iy_i (by omega) (by omega) ?_
                  refine x_nm (fun U21 hU21 => ?_)
                  have e22 := up_f hU21
                  have e24 : U21 109 0 15 = T3 109 0 15 := up_k hU21 (by exact Nat.ne_of_beq_eq_false rfl) 0 15
                  refine And.intro (fun c23 => ?_) (fun c23 => ?_)
                  · exact absurd c23 (by omega)
                  · have z25 : U21 109 0 15 - 1 = b := by omega
                    rw [z25]
                    have y26 : U21 190 b (-2) = T3 190 b (-2) := up_g hU21 (fun z => by omega)
                    refine ix_i (by omega) ?_
                    intro b27 b27b
                    have e28 : U21 190 b (an_ (g - o) o) = wr_ ((wr_ ((T3 190 b (an_ (an_ (g - o) o) ((an_ (g - o) o) - 1))) + (T 591 0 (T 404 (T 109 0 5 - 1) x4)))) - (2 * x19)) := up_f hU21
                    rw [e28] at b27 b27b ⊢
                    refine And.intro (fun c29 => ?_) (fun c29 => ?_)
                    · refine hK 155 _ [] U21 ?_
                      refine j_blx (F := fX9) tb_X9 (nn_ _) bk_X9_leastCut_155 bs_X9_leastCut_155 hz (fun K hK => ?_)
                      refine rg_i (by omega) ?_
                      refine hK 72 [some (vR 109 0), some (vI t), some (vI o), some (vI (an_ (g - o) o)), some (vI (j + 1)), some (vI x4), some (vI (an_ (an_ (g - o) o) ((an_ (g - o) o) - 1)))] [] U21 ?_
                      refine j_drop [some (vR 109 0), some (vI t), some (vI o), some (vI (an_ (g - o) o)), some (vI (j + 1)), none, none] (fun k v hk => ?_) rfl ?_
                      · match k, hk with
                        | 0, hk => exact hk
                        | 1, hk => exact hk
                        | 2, hk => exact hk
                        | 3, hk => exact hk
                        | 4, hk => exact hk
                        | 5, hk => cases hk
                        | 6, hk => cases hk
                        | k + 7, hk => cases hk
                      have e30 : U21 109 0 15 = T3 109 0 15 := up_k hU21 (by exact Nat.ne_of_beq_eq_false rfl) 0 15
                      have e31 : U21 191 0 0 = T3 191 0 0 := up_k hU21 (by exact Nat.ne_of_beq_eq_false rfl) 0 0
                      refine ih_72 _ ?_ o (an_ (g - o) o) (j + 1) U21 (Nat.le_refl _) ?_ ?_ ?_ ?_ ?_ ?_
                      · omega
                      · exact fr_u (fr_t (fr_0 _ _) (fr_s hf_72 rfl)) hU21 rfl
                      · omega
                      · exact nxi
                      · exact obo
                      · exact ⟨(up_k hU21 (by exact Nat.ne_of_beq_eq_false rfl) _ _).trans l3.1, (up_g hU21 (fun z => by omega)).trans l3.2.1, l3.2.2⟩
                      · have y3 : U21 191 0 0 = T3 191 0 0 := up_k hU21 (by exact Nat.ne_of_beq_eq_false rfl) _ _
                        exact ⟨lh_t h3.1 ⟨fun x _ => up_g hU21 (fun z => by omega), by omega⟩, by have := h3.2; omega⟩
                    · refine (show po_X9_leastCut T t U21 (some (vI (an_ (g - o) o))) from ?_)
                      have e32 : U21 109 0 15 = T3 109 0 15 := up_k hU21 (by exact Nat.ne_of_beq_eq_false rfl) 0 15
                      have e33 : U21 191 0 0 = T3 191 0 0 := up_k hU21 (by exact Nat.ne_of_beq_eq_false rfl) 0 0
                      have y1 : U21 109 0 15 = b + 1 := (up_k hU21 (by exact Nat.ne_of_beq_eq_false rfl) _ _).trans l3.1
                      have y2 : ∀ x, U21 190 x (-2) = T3 190 x (-2) := fun x => up_g hU21 (fun z => by omega)
                      have y3 : U21 191 0 0 = T3 191 0 0 := up_k hU21 (by exact Nat.ne_of_beq_eq_false rfl) _ _
                      exact ⟨_, rfl, fr_u (fr_t (fr_0 _ _) (fr_s hf_72 rfl)) hU21 rfl, by omega, fun _ => ⟨by rw [show U21 109 0 15 - 1 = b by omega, y2]; exact l3.2.1, by omega⟩, lh_t h3.1 ⟨fun x _ => y2 x, by omega⟩, by have := h3.2; omega⟩
    have c_27 : ∀ (nn : Nat) (o : Int) (k : Int) (T2 : Zt), ((12 - k).toNat) ≤ nn → (fr_ [(109, [15]), (190, []), (191, [0])] T T2) → (0 ≤ o ∧ o ≤ 4095 ∧ 0 ≤ k ∧ k ≤ 12) → (OB_ T (T 109 0 5 - 1) o) → (T2 109 0 15 = b + 1 ∧ T2 190 b (-2) = 4096 ∧ 0 ≤ b) → (lh_ T T2 ∧ T2 191 0 0 ≤ T 191 0 0 + 1) → J_ zX9_leastCut T (po_X9_leastCut T t) 0 0 27 [some (vR 109 0), some (vI t), some (vI o), some (vI k), none, none, none] [] T2 := by
      intro nn
      induction nn using Nat.strongRecOn with
      | _ nn ih_27 =>
        intro o k T2 hm_27 hf_27 i2 ob2 l2 h2
        refine j_blx (F := fX9) tb_X9 (nn_ _) bk_X9_leastCut_27 bs_X9_leastCut_27 hz (fun K hK => ?_)
        have e35 : T2 109 0 5 = T 109 0 5 := hf_27 109 0 5 rfl
        refine And.intro (fun c34 => ?_) (fun c34 => ?_)
        · exact absurd c34 (by omega)
        · have z36 : T2 109 0 5 - 1 = (T 109 0 5 - 1) := by omega
          rw [z36]
          intro b37 b37b
          have e38 : T2 100 (T 109 0 5 - 1) 5 = T 100 (T 109 0 5 - 1) 5 := hf_27 100 (T 109 0 5 - 1) 5 rfl
          rw [e38] at b37 b37b ⊢
          refine And.intro (fun c39 => ?_) (fun c39 => ?_)
          · refine hK 67 _ [] T2 ?_
            refine j_blx (F := fX9) tb_X9 (nn_ _) bk_X9_leastCut_67 bs_X9_leastCut_67 hz (fun K hK => ?_)
            refine hK 72 [some (vR 109 0), some (vI t), some (vI o), some (vI 0), some (vI 1), none, none] [] T2 ?_
            refine c_72 _ o 0 1 T2 (Nat.le_refl _) ?_ ?_ ?_ ?_ ?_ ?_
            · exact fr_t (fr_0 _ _) (fr_s hf_27 rfl)
            · omega
            · exact (an_z (by omega) (by omega)).mpr (by simp)
            · exact ob2
            · exact l2
            · exact h2
          · refine And.intro (fun c40 => ?_) (fun c40 => ?_)
            · refine hK 48 [some (vR 109 0), some (vI t), some (vI o), some (vI k), none, none, none] [vI o] T2 ?_
              refine j_blx (F := fX9) tb_X9 (nn_ _) bk_X9_leastCut_48 bs_X9_leastCut_48 hz (fun K hK => ?_)
              have e42 : T2 109 0 5 = T 109 0 5 := hf_27 109 0 5 rfl
              refine And.intro (fun c41 => ?_) (fun c41 => ?_)
              · exact absurd c41 (by omega)
              · have z43 : T2 109 0 5 - 1 = (T 109 0 5 - 1) := by omega
                rw [z43]
                refine ix_i (by omega) ?_
                intro b44 b44b
                have e45 : T2 403 (T 109 0 5 - 1) k = T 403 (T 109 0 5 - 1) k := hf_27 403 (T 109 0 5 - 1) k rfl
                rw [e45] at b44 b44b ⊢
                intro w46 w46b
                intro w47 w47b
                have y48 := or_b (x := o) (y := (sl_ 1 (T 403 (T 109 0 5 - 1) k))) (by omega) (sl_b (by omega))
                refine rg_i (by omega) ?_
                refine hK 27 [some (vR 109 0), some (vI t), some (vI (or_ o (sl_ 1 (T 403 (T 109 0 5 - 1) k)))), some (vI (k + 1)), none, none, none] [] T2 ?_
                refine ih_27 _ ?_ (or_ o (sl_ 1 (T 403 (T 109 0 5 - 1) k))) (k + 1) T2 (Nat.le_refl _) ?_ ?_ ?_ ?_ ?_
                · omega
                · exact fr_t (fr_0 _ _) (fr_s hf_27 rfl)
                · omega
                · exact ob_s ob2 (by omega) (by omega) (by rw [hke k (by omega) (by omega)]; omega)
                · exact l2
                · exact h2
            · refine hK 59 _ [vI 0, vI o] T2 ?_
              refine j_blx (F := fX9) tb_X9 (nn_ _) bk_X9_leastCut_59 bs_X9_leastCut_59 hz (fun K hK => ?_)
              intro w49 w49b
              have y50 := or_0 (o := o) (by omega)
              refine rg_i (by omega) ?_
              refine hK 27 [some (vR 109 0), some (vI t), some (vI (or_ o 0)), some (vI (k + 1)), none, none, none] [] T2 ?_
              refine ih_27 _ ?_ (or_ o 0) (k + 1) T2 (Nat.le_refl _) ?_ ?_ ?_ ?_ ?_
              · omega
              · exact fr_t (fr_0 _ _) (fr_s hf_27 rfl)
              · omega
              · rw [or_0 (by omega)]; exact ob2
              · exact l2
              · exact h2
    refine j_blx (F := fX9) tb_X9 (nn_ _) bk_X9_leastCut_16 bs_X9_leastCut_16 hz (fun K hK => ?_)
    refine And.intro (fun c51 => ?_) (fun c51 => ?_)
    · exact absurd c51 (by omega)
    · have z52 : T1 109 0 15 - 1 = b := by omega
      rw [z52]
      refine iy_i (by omega) (by omega) ?_
      refine x_nm (fun U53 hU53 => ?_)
      have e54 := up_f hU53
      refine hK 27 [some (vR 109 0), some (vI t), some (vI 0), some (vI 0), none, none, none] [] U53 ?_
      have e55 : U53 109 0 15 = T1 109 0 15 := up_k hU53 (by exact Nat.ne_of_beq_eq_false rfl) 0 15
      have e56 : U53 191 0 0 = T1 191 0 0 := up_k hU53 (by exact Nat.ne_of_beq_eq_false rfl) 0 0
      refine c_27 _ 0 0 U53 (Nat.le_refl _) ?_ ?_ ?_ ?_ ?_
      · exact fr_u (fr_t (fr_0 _ _) (fr_s hf_16 rfl)) hU53 rfl
      · omega
      · exact ob_0 _ _
      · exact ⟨(up_k hU53 (by exact Nat.ne_of_beq_eq_false rfl) _ _).trans l1.1, (up_g hU53 (fun z => by omega)).trans l1.2.1, l1.2.2⟩
      · have y3 : U53 191 0 0 = T1 191 0 0 := up_k hU53 (by exact Nat.ne_of_beq_eq_false rfl) _ _
        exact ⟨lh_t h1.1 ⟨fun x _ => up_g hU53 (fun z => by omega), by omega⟩, by have := h1.2; omega⟩
  refine j_blx (F := fX9) tb_X9 (nn_ _) bk_X9_leastCut_0 bs_X9_leastCut_0 hz (fun K hK => ?_)
  refine And.intro (fun c57 => ?_) (fun c57 => ?_)
  · refine hK 11 _ [vI 4096, vR 109 0] T ?_
    refine j_newL (bc' := 0) (bs' := 0) (pc := 11) (by decide) (by omega) (by omega) (by omega) (by decide +kernel) (lw_b1 72 (by decide +kernel) rfl : Cond.arrayClass .int ∈ lw_g) ?_
    refine j_nm (fun U58 hU58 => ?_)
    have fU58 := nv_fr hU58
    have aU58 := nv_t9 hU58
    have lU58 := nv_tl hU58
    have oU58 := nv_to hU58
    show J_ zX9_leastCut T (po_X9_leastCut T t) 0 0 13 _ [vR 190 (T 191 0 0), vR 109 0] U58
    refine j_putR (pc := 13) (ci := 9) (j := 15) (by decide) fr5_X9_165 rfl (by decide +kernel) (by omega) (by omega) (by omega) ?_
    refine j_nm (fun U59 hU59 => ?_)
    have e60 := up_f hU59
    show J_ zX9_leastCut T (po_X9_leastCut T t) 0 0 16 _ [] U59
    refine j_mono (bc' := 0) (bs' := 0) (by omega) (by omega) ?_
    have e61 : U59 109 0 15 = (T 191 0 0) + 1 := up_f hU59
    have e62 : U59 191 0 0 = U58 191 0 0 := up_k hU59 (by exact Nat.ne_of_beq_eq_false rfl) 0 0
    refine c_16 (T 191 0 0) U59 ?_ ?_ ?_
    · exact fr_u (fr_t (fr_0 _ _) (fr_s fU58 rfl)) hU59 rfl
    · exact ⟨up_f hU59, (up_k hU59 (by exact Nat.ne_of_beq_eq_false rfl) _ _).trans lU58, by omega⟩
    · have y3 : U59 191 0 0 = U58 191 0 0 := up_k hU59 (by exact Nat.ne_of_beq_eq_false rfl) _ _
      exact ⟨⟨fun x hx => (up_k hU59 (by exact Nat.ne_of_beq_eq_false rfl) _ _).trans (oU58 x (-2) (by omega)), by omega⟩, by omega⟩
  · refine hK 16 _ [] T ?_
    refine j_mono (bc' := 0) (bs' := 0) (by omega) (by omega) ?_
    refine c_16 (T 109 0 15 - 1) T ?_ ?_ ?_
    · exact fr_0 _ _
    · exact ⟨by omega, (hsl (by omega)).1, by have := (hsl (by omega)).2; omega⟩
    · exact ⟨lh_r, by omega⟩

