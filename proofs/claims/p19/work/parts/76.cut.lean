def tz1 (a : Nat) : Bool := a == 0 || ((List.range 12).any fun x => decide (an_ (xo_ (a : Int) (-1)) ((a : Int) - 1) = ((2 ^ x : Nat) : Int) - 1) && decide (an_ (sr_ (a : Int) (x : Int)) 1 = 1))
theorem tz_a : ∀ i, i < 64 → ∀ j, j < 64 → tz1 (64 * i + j) = true := by decide +kernel
def us1 (v : Nat) : Bool := decide (us_ (v : Int) 8 = (v : Int) / 256) && decide (us_ (v : Int) 4 = (v : Int) / 16) && decide (us_ (v : Int) 2 = (v : Int) / 4) && decide (us_ (v : Int) 1 = (v : Int) / 2)
theorem us_all : ∀ v, v < 2048 → us1 v = true := by decide +kernel
def ne1 (d : Nat) : Bool := d == 0 || decide (an_ (-(d : Int)) (d : Int) ≠ 0)
theorem ne_a : ∀ i, i < 64 → ∀ j, j < 64 → ne1 (64 * i + j) = true := by decide +kernel
theorem us_q {v : Int} (h : 0 ≤ v ∧ v ≤ 2047) : us_ v 8 = v / 256 ∧ us_ v 4 = v / 16 ∧ us_ v 2 = v / 4 ∧ us_ v 1 = v / 2 := by
  have h1 := us_all v.toNat (by omega)
  unfold us1 at h1
  rw [show ((v.toNat : Nat) : Int) = v by omega] at h1
  simp only [Bool.and_eq_true, decide_eq_true_eq] at h1
  exact ⟨h1.1.1.1, h1.1.1.2, h1.1.2, h1.2⟩
/-- the zeros behind a number: its lowest bit -/
theorem tz_q {a : Int} (h : 1 ≤ a ∧ a ≤ 4095) : ∃ x : Nat, x < 12 ∧ an_ (xo_ a (-1)) (a - 1) = ((2 ^ x : Nat) : Int) - 1 ∧ an_ (sr_ a (x : Int)) 1 = 1 := by
  have h1 := tz_a (a.toNat / 64) (by omega) (a.toNat % 64) (by omega)
  rw [Nat.div_add_mod] at h1
  unfold tz1 at h1
  rw [show ((a.toNat : Nat) : Int) = a by omega] at h1
  simp only [Bool.or_eq_true, beq_iff_eq, List.any_eq_true, List.mem_range, Bool.and_eq_true, decide_eq_true_eq] at h1
  rcases h1 with z | ⟨x, a1, a2, a3⟩
  · omega
  · exact ⟨x, a1, a2, a3⟩
theorem ne_q {d : Int} (h : 1 ≤ d ∧ d ≤ 4095) : an_ (-d) d ≠ 0 := by
  have h1 := ne_a (d.toNat / 64) (by omega) (d.toNat % 64) (by omega)
  rw [Nat.div_add_mod] at h1
  unfold ne1 at h1
  rw [show ((d.toNat : Nat) : Int) = d by omega] at h1
  simp only [Bool.or_eq_true, beq_iff_eq, decide_eq_true_eq] at h1
  rcases h1 with z | z
  · omega
  · exact z
theorem pb_and (x y : Nat) : (x &&& y) % 2 = 1 ↔ x % 2 = 1 ∧ y % 2 = 1 := by
  have h := Nat.testBit_and x y 0
  simp only [Nat.testBit_zero] at h
  have e : decide ((x &&& y) % 2 = 1) = true ↔ (decide (x % 2 = 1) && decide (y % 2 = 1)) = true := by rw [h]
  rw [decide_eq_true_iff, Bool.and_eq_true, decide_eq_true_iff, decide_eq_true_iff] at e
  exact e
theorem nb_sub (o : Nat) : ∀ s, s &&& o = s → s ≤ o ∧ (o - s) &&& o = o - s := by
  induction o using Nat.strongRecOn with
  | _ o ih =>
    intro s h
    by_cases z : o = 0
    · subst z
      have : s = 0 := by rw [Nat.and_zero] at h; exact h.symm
      subst this
      exact ⟨Nat.le_refl _, rfl⟩
    · have hd : (s / 2) &&& (o / 2) = s / 2 := by rw [← Nat.and_div_two, h]
      have hp : s % 2 = 1 → o % 2 = 1 := fun q => ((pb_and s o).mp (by rw [h]; exact q)).2
      obtain ⟨h1, h2⟩ := ih (o / 2) (by omega) (s / 2) hd
      have e1 : (o - s) / 2 = o / 2 - s / 2 := by omega
      have a1 : ((o - s) &&& o) / 2 = (o - s) / 2 := by rw [Nat.and_div_two, e1]; exact h2
      have a2 : ((o - s) &&& o) % 2 = 1 ↔ (o - s) % 2 = 1 := by
        rw [pb_and]
        omega
      exact ⟨by omega, by omega⟩
theorem an_le {x o : Int} (ho : 0 ≤ o ∧ o ≤ 4095) : 0 ≤ an_ x o ∧ an_ x o ≤ 4095 := by
  have h0 : (Int32.ofInt o).toBitVec.toNat = o.toNat := i3_n (by omega)
  have h : ((Int32.ofInt x).toBitVec &&& (Int32.ofInt o).toBitVec).toNat ≤ o.toNat := by
    rw [BitVec.toNat_and, h0]; exact Nat.and_le_right
  show 0 ≤ ((Int32.ofInt x).toBitVec &&& (Int32.ofInt o).toBitVec).toInt ∧ ((Int32.ofInt x).toBitVec &&& (Int32.ofInt o).toBitVec).toInt ≤ 4095
  rw [BitVec.toInt_eq_toNat_cond]
  split <;> omega
theorem i3_b (v : Int32) : Int32.ofInt v.toInt = v := Int32.ofInt_toInt v
theorem an_id (x o : Int) : an_ (an_ x o) o = an_ x o := by
  unfold an_
  rw [i3_b, Int32.and_assoc, Int32.and_self]
/-- the next set below another: it is not empty -/
theorem nx_1 {s o : Int} (ho : 0 ≤ o ∧ o ≤ 4095) (hs : 0 ≤ s ∧ s < 4096) (h : an_ s o = s) (hne : s ≠ o) : 1 ≤ an_ (s - o) o ∧ an_ (s - o) o ≤ 4095 ∧ an_ (an_ (s - o) o) o = an_ (s - o) o := by
  have hb := an_le (x := s - o) ho
  refine ⟨?_, hb.2, an_id _ _⟩
  by_cases z : an_ (s - o) o = 0
  · exfalso
    obtain ⟨h1, h2⟩ := nb_sub o.toNat s.toNat ((an_z ho hs).mp h)
    have hd : an_ (o - s) o = o - s := by
      refine (an_z ho (by omega)).mpr ?_
      rw [show (o - s).toNat = o.toNat - s.toNat by omega]
      exact h2
    refine ne_q (d := o - s) (by omega) ?_
    have e1 : Int32.ofInt (o - s) = Int32.ofInt o &&& Int32.ofInt (o - s) := by
      have := congrArg Int32.ofInt hd
      unfold an_ at this
      rw [i3_b, Int32.and_comm] at this
      exact this.symm
    have e2 : Int32.ofInt (s - o) &&& Int32.ofInt o = 0 := by
      have := congrArg Int32.ofInt z
      unfold an_ at this
      rw [i3_b] at this
      exact this
    unfold an_
    rw [show -(o - s) = s - o by omega, e1, ← Int32.and_assoc, e2, Int32.zero_and]
    rfl
  · omega
theorem nx_b {s o x : Int} (ho : 0 ≤ o ∧ o ≤ 4095) (hs : 0 ≤ s ∧ s < 4096) (h : an_ s o = s) (hx : 0 ≤ x ∧ x < 32) (hb : an_ (sr_ s x) 1 = 1) : an_ (sr_ o x) 1 = 1 := by
  rw [bt_n (by omega) hx] at hb ⊢
  unfold bt_ at hb ⊢
  have h1 := (an_z ho hs).mp h
  by_cases z : s.toNat.testBit x.toNat = true
  · rw [← h1, Nat.testBit_and, Bool.and_eq_true] at z
    rw [if_pos z.2]
  · rw [if_neg z] at hb
    omega
theorem sl_q {w : Int} (h : 0 ≤ w ∧ w ≤ 11) : sl_ 1 w = ((2 ^ w.toNat : Nat) : Int) := by
  have : w = 0 ∨ w = 1 ∨ w = 2 ∨ w = 3 ∨ w = 4 ∨ w = 5 ∨ w = 6 ∨ w = 7 ∨ w = 8 ∨ w = 9 ∨ w = 10 ∨ w = 11 := by omega
  rcases this with rfl | rfl | rfl | rfl | rfl | rfl | rfl | rfl | rfl | rfl | rfl | rfl <;> decide
theorem or_bit {o q x : Int} (ho : 0 ≤ o ∧ o ≤ 4095) (hq : 0 ≤ q ∧ q ≤ 11) (hx : 0 ≤ x ∧ x ≤ 11) (h : an_ (sr_ (or_ o (sl_ 1 q)) x) 1 = 1) : an_ (sr_ o x) 1 = 1 ∨ x = q := by
  have hb := sl_b hq
  have ho2 := or_b ho hb
  rw [bt_n (by omega) (by omega)] at h
  rw [bt_n (by omega) (by omega)]
  unfold bt_ at h ⊢
  rw [or_n (by omega) (by omega), Int.toNat_natCast, Nat.testBit_or, sl_q hq, Int.toNat_natCast, Nat.testBit_two_pow] at h
  by_cases z : o.toNat.testBit x.toNat = true
  · exact Or.inl (by rw [if_pos z])
  · by_cases y : q.toNat = x.toNat
    · exact Or.inr (by omega)
    · simp [z, y] at h
/-- only clubs with a seat are in the set -/
def OB_ (T : Zt) (c o : Int) : Prop := ∀ x, 0 ≤ x → x ≤ 11 → an_ (sr_ o x) 1 = 1 → 0 ≤ T 404 c x
theorem ob_0 (T : Zt) (c : Int) : OB_ T c 0 := fun x a b h => by
  have : an_ (sr_ 0 x) 1 = 0 := by
    rw [bt_n (by omega) (by omega)]
    unfold bt_
    simp
  omega
theorem ob_s {T : Zt} {c o q : Int} (h : OB_ T c o) (ho : 0 ≤ o ∧ o ≤ 4095) (hq : 0 ≤ q ∧ q ≤ 11) (g : 0 ≤ T 404 c q) : OB_ T c (or_ o (sl_ 1 q)) := fun x a b e => by
  rcases or_bit ho hq ⟨a, b⟩ e with z | z
  · exact h x a b z
  · rw [z]; exact g
theorem or_0 {o : Int} (ho : 0 ≤ o ∧ o ≤ 4095) : or_ o 0 = o := by
  unfold or_
  rw [show Int32.ofInt 0 = 0 from rfl, Int32.or_zero]
  exact i3_t (by omega) (by omega)
abbrev cJ6_numberOfTrailingZeros_0f7a4 : ByteArray := prog_15_method_48_code
def yJ6_numberOfTrailingZeros_0f7a4 : MethodName := ⟨RJ6, "numberOfTrailingZeros", "(I)I"⟩
def zJ6_numberOfTrailingZeros_0f7a4 : Zm := (RJ6, cJ6_numberOfTrailingZeros_0f7a4, 2, (some .int), { frames := 0, cells := 0, slots := 0, locals := 0 })
theorem bk_J6_numberOfTrailingZeros_0f7a4_0 : ck_ fJ6 (some .int) cJ6_numberOfTrailingZeros_0f7a4 0 [.iload 0, .iconst (-1), .ixor, .iload 0, .iconst 1, .isub, .iand, .istore 0, .iload 0, .ifCond .gt 17, .iload 0, .iconst 32, .iand, .ireturn] 17 = true := qck_r (nn_ _) (by decide +kernel)
theorem bs_J6_numberOfTrailingZeros_0f7a4_0 {P : Zt → Option Zv → Prop} (K : Int → Zl → List Zv → Zt → Prop) : sx_ K P [.iload 0, .iconst (-1), .ixor, .iload 0, .iconst 1, .isub, .iand, .istore 0, .iload 0, .ifCond .gt 17, .iload 0, .iconst 32, .iand, .ireturn] 17 = x_iload 0 (x_iconst (-1) (x_ixor (x_iload 0 (x_iconst 1 (x_isub (x_iand (x_istore 0 (x_iload 0 (x_ifCond .gt 17 K (x_iload 0 (x_iconst 32 (x_iand (x_ireturn P))))))))))))) := ((xe_iload 0).trans (congrArg (x_iload 0) ((xe_iconst (-1)).trans (congrArg (x_iconst (-1)) ((xe_ixor).trans (congrArg (x_ixor) ((xe_iload 0).trans (congrArg (x_iload 0) ((xe_iconst 1).trans (congrArg (x_iconst 1) ((xe_isub).trans (congrArg (x_isub) ((xe_iand).trans (congrArg (x_iand) ((xe_istore 0).trans (congrArg (x_istore 0) ((xe_iload 0).trans (congrArg (x_iload 0) ((xe_ifCond .gt 17).trans (congrArg (x_ifCond .gt 17 K) ((xe_iload 0).trans (congrArg (x_iload 0) ((xe_iconst 32).trans (congrArg (x_iconst 32) ((xe_iand).trans (congrArg (x_iand) (xe_ireturn)))))))))))))))))))))))))))
theorem bk_J6_numberOfTrailingZeros_0f7a4_17 : ck_ fJ6 (some .int) cJ6_numberOfTrailingZeros_0f7a4 17 [.iconst 1, .istore 1, .iload 0, .iconst 65536, .if_icmp .le 34, .iinc 1 16, .iload 0, .iconst 16, .iushr, .istore 0, .iload 0, .iconst 256, .if_icmp .le 49, .iinc 1 8, .iload 0, .iconst 8, .iushr, .istore 0, .iload 0, .iconst 16, .if_icmp .le 62, .iinc 1 4, .iload 0, .iconst 4, .iushr, .istore 0, .iload 0, .iconst 4, .if_icmp .le 74, .iinc 1 2, .iload 0, .iconst 2, .iushr, .istore 0, .iload 1, .iload 0, .iconst 1, .iushr, .iadd, .ireturn] 80 = true := qck_r (nn_ _) (by decide +kernel)
theorem bs_J6_numberOfTrailingZeros_0f7a4_17 {P : Zt → Option Zv → Prop} (K : Int → Zl → List Zv → Zt → Prop) : sx_ K P [.iconst 1, .istore 1, .iload 0, .iconst 65536, .if_icmp .le 34, .iinc 1 16, .iload 0, .iconst 16, .iushr, .istore 0, .iload 0, .iconst 256, .if_icmp .le 49, .iinc 1 8, .iload 0, .iconst 8, .iushr, .istore 0, .iload 0, .iconst 16, .if_icmp .le 62, .iinc 1 4, .iload 0, .iconst 4, .iushr, .istore 0, .iload 0, .iconst 4, .if_icmp .le 74, .iinc 1 2, .iload 0, .iconst 2, .iushr, .istore 0, .iload 1, .iload 0, .iconst 1, .iushr, .iadd, .ireturn] 80 = x_iconst 1 (x_istore 1 (x_iload 0 (x_iconst 65536 (x_if_icmp .le 34 K (x_iinc 1 16 (x_iload 0 (x_iconst 16 (x_iushr (x_istore 0 (x_iload 0 (x_iconst 256 (x_if_icmp .le 49 K (x_iinc 1 8 (x_iload 0 (x_iconst 8 (x_iushr (x_istore 0 (x_iload 0 (x_iconst 16 (x_if_icmp .le 62 K (x_iinc 1 4 (x_iload 0 (x_iconst 4 (x_iushr (x_istore 0 (x_iload 0 (x_iconst 4 (x_if_icmp .le 74 K (x_iinc 1 2 (x_iload 0 (x_iconst 2 (x_iushr (x_istore 0 (x_iload 1 (x_iload 0 (x_iconst 1 (x_iushr (x_iadd (x_ireturn P))))))))))))))))))))))))))))))))))))))) := ((xe_iconst 1).trans (congrArg (x_iconst 1) ((xe_istore 1).trans (congrArg (x_istore 1) ((xe_iload 0).trans (congrArg (x_iload 0) ((xe_iconst 65536).trans (congrArg (x_iconst 65536) ((xe_if_icmp .le 34).trans (congrArg (x_if_icmp .le 34 K) ((xe_iinc 1 16).trans (congrArg (x_iinc 1 16) ((xe_iload 0).trans (congrArg (x_iload 0) ((xe_iconst 16).trans (congrArg (x_iconst 16) ((xe_iushr).trans (congrArg (x_iushr) ((xe_istore 0).trans (congrArg (x_istore 0) ((xe_iload 0).trans (congrArg (x_iload 0) ((xe_iconst 256).trans (congrArg (x_iconst 256) ((xe_if_icmp .le 49).trans (congrArg (x_if_icmp .le 49 K) ((xe_iinc 1 8).trans (congrArg (x_iinc 1 8) ((xe_iload 0).trans (congrArg (x_iload 0) ((xe_iconst 8).trans (congrArg (x_iconst 8) ((xe_iushr).trans (congrArg (x_iushr) ((xe_istore 0).trans (congrArg (x_istore 0) ((xe_iload 0).trans (congrArg (x_iload 0) ((xe_iconst 16).trans (congrArg (x_iconst 16) ((xe_if_icmp .le 62).trans (congrArg (x_if_icmp .le 62 K) ((xe_iinc 1 4).trans (congrArg (x_iinc 1 4) ((xe_iload 0).trans (congrArg (x_iload 0) ((xe_iconst 4).trans (congrArg (x_iconst 4) ((xe_iushr).trans (congrArg (x_iushr) ((xe_istore 0).trans (congrArg (x_istore 0) ((xe_iload 0).trans (congrArg (x_iload 0) ((xe_iconst 4).trans (congrArg (x_iconst 4) ((xe_if_icmp .le 74).trans (congrArg (x_if_icmp .le 74 K) ((xe_iinc 1 2).trans (congrArg (x_iinc 1 2) ((xe_iload 0).trans (congrArg (x_iload 0) ((xe_iconst 2).trans (congrArg (x_iconst 2) ((xe_iushr).trans (congrArg (x_iushr) ((xe_istore 0).trans (congrArg (x_istore 0) ((xe_iload 1).trans (congrArg (x_iload 1) ((xe_iload 0).trans (congrArg (x_iload 0) ((xe_iconst 1).trans (congrArg (x_iconst 1) ((xe_iushr).trans (congrArg (x_iushr) ((xe_iadd).trans (congrArg (x_iadd) (xe_ireturn)))))))))))))))))))))))))))))))))))))))))))))))))))))))))))))))))))))))))))))))
theorem bk_J6_numberOfTrailingZeros_0f7a4_34 : ck_ fJ6 (some .int) cJ6_numberOfTrailingZeros_0f7a4 34 [.iload 0, .iconst 256, .if_icmp .le 49, .iinc 1 8, .iload 0, .iconst 8, .iushr, .istore 0, .iload 0, .iconst 16, .if_icmp .le 62, .iinc 1 4, .iload 0, .iconst 4, .iushr, .istore 0, .iload 0, .iconst 4, .if_icmp .le 74, .iinc 1 2, .iload 0, .iconst 2, .iushr, .istore 0, .iload 1, .iload 0, .iconst 1, .iushr, .iadd, .ireturn] 80 = true := qck_r (nn_ _) (by decide +kernel)
theorem bs_J6_numberOfTrailingZeros_0f7a4_34 {P : Zt → Option Zv → Prop} (K : Int → Zl → List Zv → Zt → Prop) : sx_ K P [.iload 0, .iconst 256, .if_icmp .le 49, .iinc 1 8, .iload 0, .iconst 8, .iushr, .istore 0, .iload 0, .iconst 16, .if_icmp .le 62, .iinc 1 4, .iload 0, .iconst 4, .iushr, .istore 0, .iload 0, .iconst 4, .if_icmp .le 74, .iinc 1 2, .iload 0, .iconst 2, .iushr, .istore 0, .iload 1, .iload 0, .iconst 1, .iushr, .iadd, .ireturn] 80 = x_iload 0 (x_iconst 256 (x_if_icmp .le 49 K (x_iinc 1 8 (x_iload 0 (x_iconst 8 (x_iushr (x_istore 0 (x_iload 0 (x_iconst 16 (x_if_icmp .le 62 K (x_iinc 1 4 (x_iload 0 (x_iconst 4 (x_iushr (x_istore 0 (x_iload 0 (x_iconst 4 (x_if_icmp .le 74 K (x_iinc 1 2 (x_iload 0 (x_iconst 2 (x_iushr (x_istore 0 (x_iload 1 (x_iload 0 (x_iconst 1 (x_iushr (x_iadd (x_ireturn P))))))))))))))))))))))))))))) := ((xe_iload 0).trans (congrArg (x_iload 0) ((xe_iconst 256).trans (congrArg (x_iconst 256) ((xe_if_icmp .le 49).trans (congrArg (x_if_icmp .le 49 K) ((xe_iinc 1 8).trans (congrArg (x_iinc 1 8) ((xe_iload 0).trans (congrArg (x_iload 0) ((xe_iconst 8).trans (congrArg (x_iconst 8) ((xe_iushr).trans (congrArg (x_iushr) ((xe_istore 0).trans (congrArg (x_istore 0) ((xe_iload 0).trans (congrArg (x_iload 0) ((xe_iconst 16).trans (congrArg (x_iconst 16) ((xe_if_icmp .le 62).trans (congrArg (x_if_icmp .le 62 K) ((xe_iinc 1 4).trans (congrArg (x_iinc 1 4) ((xe_iload 0).trans (congrArg (x_iload 0) ((xe_iconst 4).trans (congrArg (x_iconst 4) ((xe_iushr).trans (congrArg (x_iushr) ((xe_istore 0).trans (congrArg (x_istore 0) ((xe_iload 0).trans (congrArg (x_iload 0) ((xe_iconst 4).trans (congrArg (x_iconst 4) ((xe_if_icmp .le 74).trans (congrArg (x_if_icmp .le 74 K) ((xe_iinc 1 2).trans (congrArg (x_iinc 1 2) ((xe_iload 0).trans (congrArg (x_iload 0) ((xe_iconst 2).trans (congrArg (x_iconst 2) ((xe_iushr).trans (congrArg (x_iushr) ((xe_istore 0).trans (congrArg (x_istore 0) ((xe_iload 1).trans (congrArg (x_iload 1) ((xe_iload 0).trans (congrArg (x_iload 0) ((xe_iconst 1).trans (congrArg (x_iconst 1) ((xe_iushr).trans (congrArg (x_iushr) ((xe_iadd).trans (congrArg (x_iadd) (xe_ireturn)))))))))))))))))))))))))))))))))))))))))))))))))))))))))))
theorem bk_J6_numberOfTrailingZeros_0f7a4_49 : ck_ fJ6 (some .int) cJ6_numberOfTrailingZeros_0f7a4 49 [.iload 0, .iconst 16, .if_icmp .le 62, .iinc 1 4, .iload 0, .iconst 4, .iushr, .istore 0, .iload 0, .iconst 4, .if_icmp .le 74, .iinc 1 2, .iload 0, .iconst 2, .iushr, .istore 0, .iload 1, .iload 0, .iconst 1, .iushr, .iadd, .ireturn] 80 = true := qck_r (nn_ _) (by decide +kernel)
theorem bs_J6_numberOfTrailingZeros_0f7a4_49 {P : Zt → Option Zv → Prop} (K : Int → Zl → List Zv → Zt → Prop) : sx_ K P [.iload 0, .iconst 16, .if_icmp .le 62, .iinc 1 4, .iload 0, .iconst 4, .iushr, .istore 0, .iload 0, .iconst 4, .if_icmp .le 74, .iinc 1 2, .iload 0, .iconst 2, .iushr, .istore 0, .iload 1, .iload 0, .iconst 1, .iushr, .iadd, .ireturn] 80 = x_iload 0 (x_iconst 16 (x_if_icmp .le 62 K (x_iinc 1 4 (x_iload 0 (x_iconst 4 (x_iushr (x_istore 0 (x_iload 0 (x_iconst 4 (x_if_icmp .le 74 K (x_iinc 1 2 (x_iload 0 (x_iconst 2 (x_iushr (x_istore 0 (x_iload 1 (x_iload 0 (x_iconst 1 (x_iushr (x_iadd (x_ireturn P))))))))))))))))))))) := ((xe_iload 0).trans (congrArg (x_iload 0) ((xe_iconst 16).trans (congrArg (x_iconst 16) ((xe_if_icmp .le 62).trans (congrArg (x_if_icmp .le 62 K) ((xe_iinc 1 4).trans (congrArg (x_iinc 1 4) ((xe_iload 0).trans (congrArg (x_iload 0) ((xe_iconst 4).trans (congrArg (x_iconst 4) ((xe_iushr).trans (congrArg (x_iushr) ((xe_istore 0).trans (congrArg (x_istore 0) ((xe_iload 0).trans (congrArg (x_iload 0) ((xe_iconst 4).trans (congrArg (x_iconst 4) ((xe_if_icmp .le 74).trans (congrArg (x_if_icmp .le 74 K) ((xe_iinc 1 2).trans (congrArg (x_iinc 1 2) ((xe_iload 0).trans (congrArg (x_iload 0) ((xe_iconst 2).trans (congrArg (x_iconst 2) ((xe_iushr).trans (congrArg (x_iushr) ((xe_istore 0).trans (congrArg (x_istore 0) ((xe_iload 1).trans (congrArg (x_iload 1) ((xe_iload 0).trans (congrArg (x_iload 0) ((xe_iconst 1).trans (congrArg (x_iconst 1) ((xe_iushr).trans (congrArg (x_iushr) ((xe_iadd).trans (congrArg (x_iadd) (xe_ireturn)))))))))))))))))))))))))))))))))))))))))))
theorem bk_J6_numberOfTrailingZeros_0f7a4_62 : ck_ fJ6 (some .int) cJ6_numberOfTrailingZeros_0f7a4 62 [.iload 0, .iconst 4, .if_icmp .le 74, .iinc 1 2, .iload 0, .iconst 2, .iushr, .istore 0, .iload 1, .iload 0, .iconst 1, .iushr, .iadd, .ireturn] 80 = true := qck_r (nn_ _) (by decide +kernel)
theorem bs_J6_numberOfTrailingZeros_0f7a4_62 {P : Zt → Option Zv → Prop} (K : Int → Zl → List Zv → Zt → Prop) : sx_ K P [.iload 0, .iconst 4, .if_icmp .le 74, .iinc 1 2, .iload 0, .iconst 2, .iushr, .istore 0, .iload 1, .iload 0, .iconst 1, .iushr, .iadd, .ireturn] 80 = x_iload 0 (x_iconst 4 (x_if_icmp .le 74 K (x_iinc 1 2 (x_iload 0 (x_iconst 2 (x_iushr (x_istore 0 (x_iload 1 (x_iload 0 (x_iconst 1 (x_iushr (x_iadd (x_ireturn P))))))))))))) := ((xe_iload 0).trans (congrArg (x_iload 0) ((xe_iconst 4).trans (congrArg (x_iconst 4) ((xe_if_icmp .le 74).trans (congrArg (x_if_icmp .le 74 K) ((xe_iinc 1 2).trans (congrArg (x_iinc 1 2) ((xe_iload 0).trans (congrArg (x_iload 0) ((xe_iconst 2).trans (congrArg (x_iconst 2) ((xe_iushr).trans (congrArg (x_iushr) ((xe_istore 0).trans (congrArg (x_istore 0) ((xe_iload 1).trans (congrArg (x_iload 1) ((xe_iload 0).trans (congrArg (x_iload 0) ((xe_iconst 1).trans (congrArg (x_iconst 1) ((xe_iushr).trans (congrArg (x_iushr) ((xe_iadd).trans (congrArg (x_iadd) (xe_ireturn)))))))))))))))))))))))))))
theorem bk_J6_numberOfTrailingZeros_0f7a4_74 : ck_ fJ6 (some .int) cJ6_numberOfTrailingZeros_0f7a4 74 [.iload 1, .iload 0, .iconst 1, .iushr, .iadd, .ireturn] 80 = true := qck_r (nn_ _) (by decide +kernel)
theorem bs_J6_numberOfTrailingZeros_0f7a4_74 {P : Zt → Option Zv → Prop} (K : Int → Zl → List Zv → Zt → Prop) : sx_ K P [.iload 1, .iload 0, .iconst 1, .iushr, .iadd, .ireturn] 80 = x_iload 1 (x_iload 0 (x_iconst 1 (x_iushr (x_iadd (x_ireturn P))))) := ((xe_iload 1).trans (congrArg (x_iload 1) ((xe_iload 0).trans (congrArg (x_iload 0) ((xe_iconst 1).trans (congrArg (x_iconst 1) ((xe_iushr).trans (congrArg (x_iushr) ((xe_iadd).trans (congrArg (x_iadd) (xe_ireturn)))))))))))
abbrev po_J6_numberOfTrailingZeros_0f7a4 (T : Zt) (a : Int) : Zt → Option Zv → Prop := fun T' r => T = T' ∧ ∃ x : Int, r = some (vI x) ∧ (0 ≤ x ∧ x ≤ 11 ∧ an_ (sr_ a x) 1 = 1)
set_option maxHeartbeats 4000000 in
theorem ct_J6_numberOfTrailingZeros_0f7a4 {T : Zt} {a : Int} (h1 : 1 ≤ a ∧ a ≤ 4095) : Ct_ yJ6_numberOfTrailingZeros_0f7a4 zJ6_numberOfTrailingZeros_0f7a4 T [vI a] (po_J6_numberOfTrailingZeros_0f7a4 T a) := by
  refine ct_of (by decide) rfl rfl (Nat.le_of_ble_eq_true rfl) (fun hT hav => ?_)
  have hr_a : -2147483648 ≤ a ∧ a ≤ 2147483647 := hav (vI a) List.mem_cons_self
  have hz : zJ6_numberOfTrailingZeros_0f7a4.2.2.2.1 = some .boolean → ∀ (T' : Zt) (x : Int), po_J6_numberOfTrailingZeros_0f7a4 T a T' (some (vI x)) → 0 ≤ x ∧ x ≤ 1 := fun h => by cases h
  have hv : 0 ≤ an_ (xo_ a (-1)) (a - 1) ∧ an_ (xo_ a (-1)) (a - 1) ≤ 2047 := by obtain ⟨x9, p1, p2, p3⟩ := tz_q h1; have p4 : (2 : Nat) ^ x9 ≤ 2 ^ 11 := Nat.pow_le_pow_right (by omega) (by omega); have p5 : 0 < (2 : Nat) ^ x9 := Nat.pow_pos (by omega); rw [p2]; omega
  show J_ zJ6_numberOfTrailingZeros_0f7a4 T (po_J6_numberOfTrailingZeros_0f7a4 T a) 0 0 0 [some (vI a), none] [] T
  refine j_blx (F := fJ6) tb_J6 (nn_ _) bk_J6_numberOfTrailingZeros_0f7a4_0 bs_J6_numberOfTrailingZeros_0f7a4_0 hz (fun K hK => ?_)
  intro w1 w1b
  refine rg_i (by omega) ?_
  intro w2 w2b
  refine And.intro (fun c3 => ?_) (fun c3 => ?_)
  · refine hK 17 [some (vI (an_ (xo_ a (-1)) (a - 1))), none] [] T ?_
    refine j_blx (F := fJ6) tb_J6 (nn_ _) bk_J6_numberOfTrailingZeros_0f7a4_17 bs_J6_numberOfTrailingZeros_0f7a4_17 hz (fun K hK => ?_)
    refine And.intro (fun c4 => ?_) (fun c4 => ?_)
    · refine hK 34 [some (vI (an_ (xo_ a (-1)) (a - 1))), some (vI 1)] [] T ?_
      refine j_blx (F := fJ6) tb_J6 (nn_ _) bk_J6_numberOfTrailingZeros_0f7a4_34 bs_J6_numberOfTrailingZeros_0f7a4_34 hz (fun K hK => ?_)
      refine And.intro (fun c5 => ?_) (fun c5 => ?_)
      · refine hK 49 _ [] T ?_
        refine j_blx (F := fJ6) tb_J6 (nn_ _) bk_J6_numberOfTrailingZeros_0f7a4_49 bs_J6_numberOfTrailingZeros_0f7a4_49 hz (fun K hK => ?_)
        refine And.intro (fun c6 => ?_) (fun c6 => ?_)
        · refine hK 62 _ [] T ?_
          refine j_blx (F := fJ6) tb_J6 (nn_ _) bk_J6_numberOfTrailingZeros_0f7a4_62 bs_J6_numberOfTrailingZeros_0f7a4_62 hz (fun K hK => ?_)
          refine And.intro (fun c7 => ?_) (fun c7 => ?_)
          · refine hK 74 _ [] T ?_
            refine j_blx (F := fJ6) tb_J6 (nn_ _) bk_J6_numberOfTrailingZeros_0f7a4_74 bs_J6_numberOfTrailingZeros_0f7a4_74 hz (fun K hK => ?_)
            intro w8 w8b
            have y9 := us_q (v := (an_ (xo_ a (-1)) (a - 1))) (by omega)
            refine rg_i (by omega) ?_
            refine (show po_J6_numberOfTrailingZeros_0f7a4 T a T (some (vI (1 + (us_ (an_ (xo_ a (-1)) (a - 1)) 1)))) from ?_)
            obtain ⟨x9, p1, p2, p3⟩ := tz_q h1
            refine ⟨rfl, _, rfl, ?_⟩
            have hxx : 1 + (us_ (an_ (xo_ a (-1)) (a - 1)) 1) = (x9 : Int) := by
              have : x9 = 0 ∨ x9 = 1 ∨ x9 = 2 ∨ x9 = 3 ∨ x9 = 4 ∨ x9 = 5 ∨ x9 = 6 ∨ x9 = 7 ∨ x9 = 8 ∨ x9 = 9 ∨ x9 = 10 ∨ x9 = 11 := by omega
              rcases this with rfl | rfl | rfl | rfl | rfl | rfl | rfl | rfl | rfl | rfl | rfl | rfl <;> simp only [Nat.reducePow] at p2 <;> (first | omega | (exfalso; omega))
            rw [hxx]; exact ⟨by omega, by omega, p3⟩
          · refine rg_i (by omega) ?_
            intro w10 w10b
            have y11 := us_q (v := (an_ (xo_ a (-1)) (a - 1))) (by omega)
            intro w12 w12b
            have y13 := us_q (v := (us_ (an_ (xo_ a (-1)) (a - 1)) 2)) (by omega)
            refine rg_i (by omega) ?_
            refine (show po_J6_numberOfTrailingZeros_0f7a4 T a T (some (vI ((1 + 2) + (us_ (us_ (an_ (xo_ a (-1)) (a - 1)) 2) 1)))) from ?_)
            obtain ⟨x9, p1, p2, p3⟩ := tz_q h1
            refine ⟨rfl, _, rfl, ?_⟩
            have hxx : (1 + 2) + (us_ (us_ (an_ (xo_ a (-1)) (a - 1)) 2) 1) = (x9 : Int) := by
              have : x9 = 0 ∨ x9 = 1 ∨ x9 = 2 ∨ x9 = 3 ∨ x9 = 4 ∨ x9 = 5 ∨ x9 = 6 ∨ x9 = 7 ∨ x9 = 8 ∨ x9 = 9 ∨ x9 = 10 ∨ x9 = 11 := by omega
              rcases this with rfl | rfl | rfl | rfl | rfl | rfl | rfl | rfl | rfl | rfl | rfl | rfl <;> simp only [Nat.reducePow] at p2 <;> (first | omega | (exfalso; omega))
            rw [hxx]; exact ⟨by omega, by omega, p3⟩
        · refine rg_i (by omega) ?_
          intro w14 w14b
          have y15 := us_q (v := (an_ (xo_ a (-1)) (a - 1))) (by omega)
          refine And.intro (fun c16 => ?_) (fun c16 => ?_)
          · refine hK 74 [some (vI (us_ (an_ (xo_ a (-1)) (a - 1)) 4)), some (vI (1 + 4))] [] T ?_
            refine j_blx (F := fJ6) tb_J6 (nn_ _) bk_J6_numberOfTrailingZeros_0f7a4_74 bs_J6_numberOfTrailingZeros_0f7a4_74 hz (fun K hK => ?_)
            intro w17 w17b
            have y18 := us_q (v := (us_ (an_ (xo_ a (-1)) (a - 1)) 4)) (by omega)
            refine rg_i (by omega) ?_
            refine (show po_J6_numberOfTrailingZeros_0f7a4 T a T (some (vI ((1 + 4) + (us_ (us_ (an_ (xo_ a (-1)) (a - 1)) 4) 1)))) from ?_)
            obtain ⟨x9, p1, p2, p3⟩ := tz_q h1
            refine ⟨rfl, _, rfl, ?_⟩
            have hxx : (1 + 4) + (us_ (us_ (an_ (xo_ a (-1)) (a - 1)) 4) 1) = (x9 : Int) := by
              have : x9 = 0 ∨ x9 = 1 ∨ x9 = 2 ∨ x9 = 3 ∨ x9 = 4 ∨ x9 = 5 ∨ x9 = 6 ∨ x9 = 7 ∨ x9 = 8 ∨ x9 = 9 ∨ x9 = 10 ∨ x9 = 11 := by omega
              rcases this with rfl | rfl | rfl | rfl | rfl | rfl | rfl | rfl | rfl | rfl | rfl | rfl <;> simp only [Nat.reducePow] at p2 <;> (first | omega | (exfalso; omega))
            rw [hxx]; exact ⟨by omega, by omega, p3⟩
          · refine rg_i (by omega) ?_
            intro w19 w19b
            have y20 := us_q (v := (us_ (an_ (xo_ a (-1)) (a - 1)) 4)) (by omega)
            intro w21 w21b
            have y22 := us_q (v := (us_ (us_ (an_ (xo_ a (-1)) (a - 1)) 4) 2)) (by omega)
            refine rg_i (by omega) ?_
            refine (show po_J6_numberOfTrailingZeros_0f7a4 T a T (some (vI (((1 + 4) + 2) + (us_ (us_ (us_ (an_ (xo_ a (-1)) (a - 1)) 4) 2) 1)))) from ?_)
            obtain ⟨x9, p1, p2, p3⟩ := tz_q h1
            refine ⟨rfl, _, rfl, ?_⟩
            have hxx : ((1 + 4) + 2) + (us_ (us_ (us_ (an_ (xo_ a (-1)) (a - 1)) 4) 2) 1) = (x9 : Int) := by
              have : x9 = 0 ∨ x9 = 1 ∨ x9 = 2 ∨ x9 = 3 ∨ x9 = 4 ∨ x9 = 5 ∨ x9 = 6 ∨ x9 = 7 ∨ x9 = 8 ∨ x9 = 9 ∨ x9 = 10 ∨ x9 = 11 := by omega
              rcases this with rfl | rfl | rfl | rfl | rfl | rfl | rfl | rfl | rfl | rfl | rfl | rfl <;> simp only [Nat.reducePow] at p2 <;> (first | omega | (exfalso; omega))
            rw [hxx]; exact ⟨by omega, by omega, p3⟩
      · refine rg_i (by omega) ?_
        intro w23 w23b
        have y24 := us_q (v := (an_ (xo_ a (-1)) (a - 1))) (by omega)
        refine And.intro (fun c25 => ?_) (fun c25 => ?_)
        · refine hK 62 [some (vI (us_ (an_ (xo_ a (-1)) (a - 1)) 8)), some (vI (1 + 8))] [] T ?_
          refine j_blx (F := fJ6) tb_J6 (nn_ _) bk_J6_numberOfTrailingZeros_0f7a4_62 bs_J6_numberOfTrailingZeros_0f7a4_62 hz (fun K hK => ?_)
          refine And.intro (fun c26 => ?_) (fun c26 => ?_)
          · refine hK 74 _ [] T ?_
            refine j_blx (F := fJ6) tb_J6 (nn_ _) bk_J6_numberOfTrailingZeros_0f7a4_74 bs_J6_numberOfTrailingZeros_0f7a4_74 hz (fun K hK => ?_)
            intro w27 w27b
            have y28 := us_q (v := (us_ (an_ (xo_ a (-1)) (a - 1)) 8)) (by omega)
            refine rg_i (by omega) ?_
            refine (show po_J6_numberOfTrailingZeros_0f7a4 T a T (some (vI ((1 + 8) + (us_ (us_ (an_ (xo_ a (-1)) (a - 1)) 8) 1)))) from ?_)
            obtain ⟨x9, p1, p2, p3⟩ := tz_q h1
            refine ⟨rfl, _, rfl, ?_⟩
            have hxx : (1 + 8) + (us_ (us_ (an_ (xo_ a (-1)) (a - 1)) 8) 1) = (x9 : Int) := by
              have : x9 = 0 ∨ x9 = 1 ∨ x9 = 2 ∨ x9 = 3 ∨ x9 = 4 ∨ x9 = 5 ∨ x9 = 6 ∨ x9 = 7 ∨ x9 = 8 ∨ x9 = 9 ∨ x9 = 10 ∨ x9 = 11 := by omega
              rcases this with rfl | rfl | rfl | rfl | rfl | rfl | rfl | rfl | rfl | rfl | rfl | rfl <;> simp only [Nat.reducePow] at p2 <;> (first | omega | (exfalso; omega))
            rw [hxx]; exact ⟨by omega, by omega, p3⟩
          · refine rg_i (by omega) ?_
            intro w29 w29b
            have y30 := us_q (v := (us_ (an_ (xo_ a (-1)) (a - 1)) 8)) (by omega)
            intro w31 w31b
            have y32 := us_q (v := (us_ (us_ (an_ (xo_ a (-1)) (a - 1)) 8) 2)) (by omega)
            refine rg_i (by omega) ?_
            refine (show po_J6_numberOfTrailingZeros_0f7a4 T a T (some (vI (((1 + 8) + 2) + (us_ (us_ (us_ (an_ (xo_ a (-1)) (a - 1)) 8) 2) 1)))) from ?_)
            obtain ⟨x9, p1, p2, p3⟩ := tz_q h1
            refine ⟨rfl, _, rfl, ?_⟩
            have hxx : ((1 + 8) + 2) + (us_ (us_ (us_ (an_ (xo_ a (-1)) (a - 1)) 8) 2) 1) = (x9 : Int) := by
              have : x9 = 0 ∨ x9 = 1 ∨ x9 = 2 ∨ x9 = 3 ∨ x9 = 4 ∨ x9 = 5 ∨ x9 = 6 ∨ x9 = 7 ∨ x9 = 8 ∨ x9 = 9 ∨ x9 = 10 ∨ x9 = 11 := by omega
              rcases this with rfl | rfl | rfl | rfl | rfl | rfl | rfl | rfl | rfl | rfl | rfl | rfl <;> simp only [Nat.reducePow] at p2 <;> (first | omega | (exfalso; omega))
            rw [hxx]; exact ⟨by omega, by omega, p3⟩
        · refine rg_i (by omega) ?_
          intro w33 w33b
          have y34 := us_q (v := (us_ (an_ (xo_ a (-1)) (a - 1)) 8)) (by omega)
          refine And.intro (fun c35 => ?_) (fun c35 => ?_)
          · refine hK 74 [some (vI (us_ (us_ (an_ (xo_ a (-1)) (a - 1)) 8) 4)), some (vI ((1 + 8) + 4))] [] T ?_
            refine j_blx (F := fJ6) tb_J6 (nn_ _) bk_J6_numberOfTrailingZeros_0f7a4_74 bs_J6_numberOfTrailingZeros_0f7a4_74 hz (fun K hK => ?_)
            intro w36 w36b
            have y37 := us_q (v := (us_ (us_ (an_ (xo_ a (-1)) (a - 1)) 8) 4)) (by omega)
            refine rg_i (by omega) ?_
            refine (show po_J6_numberOfTrailingZeros_0f7a4 T a T (some (vI (((1 + 8) + 4) + (us_ (us_ (us_ (an_ (xo_ a (-1)) (a - 1)) 8) 4) 1)))) from ?_)
            obtain ⟨x9, p1, p2, p3⟩ := tz_q h1
            refine ⟨rfl, _, rfl, ?_⟩
            have hxx : ((1 + 8) + 4) + (us_ (us_ (us_ (an_ (xo_ a (-1)) (a - 1)) 8) 4) 1) = (x9 : Int) := by
              have : x9 = 0 ∨ x9 = 1 ∨ x9 = 2 ∨ x9 = 3 ∨ x9 = 4 ∨ x9 = 5 ∨ x9 = 6 ∨ x9 = 7 ∨ x9 = 8 ∨ x9 = 9 ∨ x9 = 10 ∨ x9 = 11 := by omega
              rcases this with rfl | rfl | rfl | rfl | rfl | rfl | rfl | rfl | rfl | rfl | rfl | rfl <;> simp only [Nat.reducePow] at p2 <;> (first | omega | (exfalso; omega))
            rw [hxx]; exact ⟨by omega, by omega, p3⟩
          · refine rg_i (by omega) ?_
            intro w38 w38b
            have y39 := us_q (v := (us_ (us_ (an_ (xo_ a (-1)) (a - 1)) 8) 4)) (by omega)
            intro w40 w40b
            have y41 := us_q (v := (us_ (us_ (us_ (an_ (xo_ a (-1)) (a - 1)) 8) 4) 2)) (by omega)
            refine rg_i (by omega) ?_
            refine (show po_J6_numberOfTrailingZeros_0f7a4 T a T (some (vI ((((1 + 8) + 4) + 2) + (us_ (us_ (us_ (us_ (an_ (xo_ a (-1)) (a - 1)) 8) 4) 2) 1)))) from ?_)
            obtain ⟨x9, p1, p2, p3⟩ := tz_q h1
            refine ⟨rfl, _, rfl, ?_⟩
            have hxx : (((1 + 8) + 4) + 2) + (us_ (us_ (us_ (us_ (an_ (xo_ a (-1)) (a - 1)) 8) 4) 2) 1) = (x9 : Int) := by
              have : x9 = 0 ∨ x9 = 1 ∨ x9 = 2 ∨ x9 = 3 ∨ x9 = 4 ∨ x9 = 5 ∨ x9 = 6 ∨ x9 = 7 ∨ x9 = 8 ∨ x9 = 9 ∨ x9 = 10 ∨ x9 = 11 := by omega
              rcases this with rfl | rfl | rfl | rfl | rfl | rfl | rfl | rfl | rfl | rfl | rfl | rfl <;> simp only [Nat.reducePow] at p2 <;> (first | omega | (exfalso; omega))
            rw [hxx]; exact ⟨by omega, by omega, p3⟩
    · exact absurd c4 (by omega)
  · intro w42 w42b
    refine (show po_J6_numberOfTrailingZeros_0f7a4 T a T (some (vI (an_ (an_ (xo_ a (-1)) (a - 1)) 32))) from ?_)
    obtain ⟨x9, p1, p2, p3⟩ := tz_q h1
    refine ⟨rfl, _, rfl, ?_⟩
    have hxx : an_ (an_ (xo_ a (-1)) (a - 1)) 32 = (x9 : Int) := by
      have : x9 = 0 ∨ x9 = 1 ∨ x9 = 2 ∨ x9 = 3 ∨ x9 = 4 ∨ x9 = 5 ∨ x9 = 6 ∨ x9 = 7 ∨ x9 = 8 ∨ x9 = 9 ∨ x9 = 10 ∨ x9 = 11 := by omega
      rcases this with rfl | rfl | rfl | rfl | rfl | rfl | rfl | rfl | rfl | rfl | rfl | rfl <;> simp only [Nat.reducePow] at p2 <;> (first | (rw [p2]; decide) | (exfalso; omega))
    rw [hxx]; exact ⟨by omega, by omega, p3⟩
abbrev cX9_leastCut : ByteArray := prog_11_method_15_code
def yX9_leastCut : MethodName := ⟨RX9, "leastCut", "(I)I"⟩
def zX9_leastCut : Zm := (RX9, cX9_leastCut, 7, (some .int), { frames := 1, cells := 1, slots := 4096, locals := 25 })
set_option maxRecDepth 100000 in
theorem cl_X9_168 : cs_ RX9 168 yJ6_numberOfTrailingZeros_0f7a4 zJ6_numberOfTrailingZeros_0f7a4 1 := ⟨gi_S (lwq_6 (dqc_m (dqc_m (dqa_m (dqa_m (List.mem_of_getElem? (i := 3) rfl))))) rfl : Cond.methodLink RX9 168 yJ6_numberOfTrailingZeros_0f7a4 ∈ lw_g) (lwq_6 (dqc_m (dqc_m (dqa_m (dqa_m (List.mem_of_getElem? (i := 4) rfl))))) rfl : Cond.static yJ6_numberOfTrailingZeros_0f7a4 ∈ lw_g) (lwq_1 (dqa_m (dqa_m (List.mem_of_getElem? (i := 3) rfl))) rfl : Cond.initialized yJ6_numberOfTrailingZeros_0f7a4.cls ∈ lw_g) (lwq_6 (dqc_m (dqc_m (dqa_m (dqa_m (List.mem_of_getElem? (i := 5) rfl))))) rfl : Cond.code yJ6_numberOfTrailingZeros_0f7a4 cJ6_numberOfTrailingZeros_0f7a4 2 (some .int) ∈ lw_g), ⟨by decide, by decide, by decide +kernel⟩⟩
set_option maxRecDepth 100000 in
theorem cl_X9_173 : cv_ RX9 173 yX9_openBetween zX9_openBetween 9 2 := ⟨gi_V (lwq_6 (dqc_m (dqc_m (dqa_m (dqa_m (List.mem_of_getElem? (i := 7) rfl))))) rfl : Cond.methodLink RX9 173 yX9_openBetween ∈ lw_g) (lwq_6 (dqc_m (dqc_m (dqa_m (dqa_m (dqa_m (List.mem_of_getElem? (i := 1) rfl)))))) rfl : Cond.instanceMethod yX9_openBetween ∈ lw_g) (lw_sel 142 rfl : Cond.selects yX9_openBetween.cls yX9_openBetween yX9_openBetween ∈ lw_g) (lwq_1 (List.mem_of_getElem? (i := 6) rfl) rfl : Cond.initialized yX9_openBetween.cls ∈ lw_g) (lwq_6 (dqc_m (dqc_m (dqa_m (dqa_m (dqa_m (List.mem_of_getElem? (i := 2) rfl)))))) rfl : Cond.code yX9_openBetween cX9_openBetween 6 (some .int) ∈ lw_g), ⟨nmh_8.1, nmh_8.2, pdq_4⟩, ⟨_, _, rfl⟩⟩
theorem fr5_X9_165 : fr5_ RX9 165 9 15 := ⟨_, _, _, rfl, by decide, by decide, (lwq_2 (dqc_m (dqa_m (List.mem_of_getElem? (i := 6) rfl))) rfl : Cond.fieldLink RX9 165 _ _ _ ∈ lw_g), rfl, fun a => ⟨.array .int, by decide +kernel, rfl, rfl⟩⟩
abbrev po_J7_fill_584 (T : Zt) (p : Int) (v : Int) : Zt → Option Zv → Prop := fun T' r => r = none ∧ fr_ [(584, [])] T T' ∧ oi_ T T' p ∧ ∀ j, 0 ≤ j → j < 400 → T' 584 p j = v
set_option maxHeartbeats 4000000 in
theorem ct_J7_fill_584 {T : Zt} {p : Int} {v : Int} (h1 : (-2147483648) ≤ v ∧ v ≤ 2147483647) : Ct_ yJ7_fill_53178 zJ7_fill_53178 T [vR 584 p, vI v] (po_J7_fill_584 T p v) := by
  refine ct_of (by decide) rfl rfl (Nat.le_of_ble_eq_true rfl) (fun hT hav => ?_)
  have hr_v : -2147483648 ≤ v ∧ v ≤ 2147483647 := hav (vI v) (List.mem_cons_of_mem _ List.mem_cons_self)
  have hz : zJ7_fill_53178.2.2.2.1 = some .boolean → ∀ (T' : Zt) (x : Int), po_J7_fill_584 T p v T' (some (vI x)) → 0 ≤ x ∧ x ≤ 1 := fun h => by cases h
  show J_ zJ7_fill_53178 T (po_J7_fill_584 T p v) 0 0 0 [some (vR 584 p), some (vI v), none, none] [] T
  have c_5 : ∀ (nn : Nat) (j : Int) (T1 : Zt), ((400 - j).toNat) ≤ nn → (fr_ [(584, [])] T T1) → (0 ≤ j ∧ j ≤ 400) → (oi_ T T1 p) → (∀ q, 0 ≤ q → q < j → T1 584 p q = v) → J_ zJ7_fill_53178 T (po_J7_fill_584 T p v) 0 0 5 [some (vR 584 p), some (vI v), some (vI j), some (vI 400)] [] T1 := by
    intro nn
    induction nn using Nat.strongRecOn with
    | _ nn ih_5 =>
      intro j T1 hm_5 hf_5 i1 o1 f1
      replace hm_5 := fun (_ : Unit) => hm_5
      refine j_blx (F := fJ7) tb_J7 (nn_ _) bk_J7_fill_53178_5 bs_J7_fill_53178_5 hz (fun K hK => ?_)
      refine And.intro (fun c1 => ?_) (fun c1 => ?_)
      · refine hK 20 _ [] T1 ?_
        refine j_blx (F := fJ7) tb_J7 (nn_ _) bk_J7_fill_53178_20 bs_J7_fill_53178_20 hz (fun K hK => ?_)
        refine (show po_J7_fill_584 T p v T1 (none) from ?_)
        exact ⟨rfl, fr_t (fr_0 _ _) (fr_s hf_5 rfl), o1, fun q a b => f1 q a (by omega)⟩
      · refine iy_i (by omega) (by omega) ?_
        refine x_nm (fun U2 hU2 => ?_)
        have e3 := up_f hU2
        refine rg_i (by omega) ?_
        refine hK 5 [some (vR 584 p), some (vI v), some (vI (j + 1)), some (vI 400)] [] U2 ?_
        refine ih_5 _ ?_ (j + 1) U2 (Nat.le_refl _) ?_ ?_ ?_ ?_
        · have hm_5 := hm_5 (); omega
        · exact fr_u (fr_t (fr_0 _ _) (fr_s hf_5 rfl)) hU2 rfl
        · omega
        · exact oi_u o1 hU2
        · intro q a b
          by_cases z : q = j
          · rw [z]; exact up_f hU2
          · rw [up_g hU2 (fun y => z y.2.2)]; exact f1 q a (by omega)
  refine j_blx (F := fJ7) tb_J7 (nn_ _) bk_J7_fill_53178_0 bs_J7_fill_53178_0 hz (fun K hK => ?_)
  refine hK 5 [some (vR 584 p), some (vI v), some (vI 0), some (vI 400)] [] T ?_
  refine c_5 _ 0 T (Nat.le_refl _) ?_ ?_ ?_ ?_
  · exact fr_0 _ _
  · omega
  · exact oi_r
  · intro q a b; omega
def KW_ (T : Zt) : Prop := ∀ c : Int, 0 ≤ c → c < T 106 0 2 → T 401 c 2 ≤ T 401 c 1
theorem KW__f {ws : List (Nat × List Int)} {T T' : Zt} (h : KW_ T) (f : fr_ ws T T') (w : (∀ j, fw_ ws 401 j = false) ∧ fw_ ws 106 2 = false ∧ True) : KW_ T' := by
  have e0 : ∀ i j, T' 401 i j = T 401 i j := fun i j => f 401 i j (w.1 j)
  have e1 : ∀ i, T' 106 i 2 = T 106 i 2 := fun i => f 106 i 2 w.2.1
  simp only [KW_, e0, e1] at h ⊢
  exact h
theorem q9_of {T U : Zt} {c : Int} (hU : ok_T U) (hks : KS_ T) (hkc : KC_ T) (h0 : 0 ≤ c ∧ c < T 106 0 2) (hc : U 109 0 5 = c + 1) (hb : 0 ≤ T 100 c 7) (ol : ∀ j : Int, 0 ≤ j → j < U 109 0 9 → T 100 c 7 ≤ U 588 0 j ∧ U 588 0 j < T 100 c 7 + T 100 c 8) (e1 : ∀ i j, U 102 i j = T 102 i j) (e2 : ∀ i j, U 404 i j = T 404 i j) (e3 : U 106 0 4 = T 106 0 4) : Q9_ U := by
  refine ⟨by omega, fun k a b => ?_⟩
  have h1 := ol k a b
  have h2 := hks c h0.1 h0.2 (U 588 0 k) h1.1 h1.2
  have h3 := hkc c h0.1 h0.2
  have hb1 : ∀ i j : Int, 0 ≤ j → U 404 i j ≤ 11 := fun i j hj => (bd_a hU 404 (by decide +kernel : ta_ 404 = some (1, some 12, -1, 11)) i hj).2
  have hh : ∀ i, 0 ≤ U 102 i 3 := fun i => (bd_f hU 102 3 tl_2_3 i).1
  have ha : ∀ i, 0 ≤ U 102 i 4 := fun i => (bd_f hU 102 4 tl_2_4 i).1
  unfold hsx_ asx_
  rw [hc, show c + 1 - 1 = c by omega]
  refine ⟨⟨by omega, by omega⟩, ⟨?_, hb1 _ _ (hh _)⟩, ?_, hb1 _ _ (ha _)⟩
  · rw [e1, e2]; exact h2.2.1
  · rw [e1, e2]; exact h2.2.2
abbrev cX9_ask : ByteArray := prog_11_method_2_code
def yX9_ask : MethodName := ⟨RX9, "ask", "(LSportsHouse$Competition;I)I"⟩
def zX9_ask : Zm := (RX9, cX9_ask, 4, (some .int), { frames := 10, cells := 1, slots := 4096, locals := 280 })
set_option maxRecDepth 100000 in
theorem cl_X9_73 : cv_ RX9 73 yX9_takePoints zX9_takePoints 9 1 := ⟨gi_V (lwq_6 (dqc_m (dqa_m (List.mem_of_getElem? (i := 2) rfl))) rfl : Cond.methodLink RX9 73 yX9_takePoints ∈ lw_g) (lwq_6 (dqc_m (dqa_m (List.mem_of_getElem? (i := 4) rfl))) rfl : Cond.instanceMethod yX9_takePoints ∈ lw_g) (lw_sel 149 rfl : Cond.selects yX9_takePoints.cls yX9_takePoints yX9_takePoints ∈ lw_g) (lwq_1 (List.mem_of_getElem? (i := 6) rfl) rfl : Cond.initialized yX9_takePoints.cls ∈ lw_g) (lwq_6 (dqc_m (dqa_m (List.mem_of_getElem? (i := 5) rfl))) rfl : Cond.code yX9_takePoints cX9_takePoints 6 none ∈ lw_g), ⟨nmh_8.1, nmh_8.2, pdq_9⟩, ⟨_, _, rfl⟩⟩
set_option maxRecDepth 100000 in
theorem cl_X9_88 : cv_ RX9 88 yX9_noneAbove zX9_noneAbove 9 1 := ⟨gi_V (lwq_6 (dqc_m (dqc_m (dqa_m (dqa_m (dqa_m (List.mem_of_getElem? (i := 3) rfl)))))) rfl : Cond.methodLink RX9 88 yX9_noneAbove ∈ lw_g) (lwq_6 (dqc_m (dqc_m (dqa_m (dqa_m (dqa_m (List.mem_of_getElem? (i := 5) rfl)))))) rfl : Cond.instanceMethod yX9_noneAbove ∈ lw_g) (lw_sel 141 rfl : Cond.selects yX9_noneAbove.cls yX9_noneAbove yX9_noneAbove ∈ lw_g) (lwq_1 (List.mem_of_getElem? (i := 6) rfl) rfl : Cond.initialized yX9_noneAbove.cls ∈ lw_g) (lwq_6 (dqc_m (dqc_m (dqa_m (dqa_m (dqa_m (List.mem_of_getElem? (i := 6) rfl)))))) rfl : Cond.code yX9_noneAbove cX9_noneAbove 3 (some .boolean) ∈ lw_g), ⟨nmh_8.1, nmh_8.2, pdq_7⟩, ⟨_, _, rfl⟩⟩
set_option maxRecDepth 100000 in
theorem cl_X9_91_zX9_search_8 : cv_ RX9 91 yX9_search zX9_search_8 9 1 := ⟨gi_V (lwq_6 (dqc_m (dqc_m (dqa_m (dqa_m (dqa_m (List.mem_of_getElem? (i := 7) rfl)))))) rfl : Cond.methodLink RX9 91 yX9_search ∈ lw_g) (lwq_6 (dqc_m (dqc_m (dqc_m (List.mem_of_getElem? (i := 1) rfl)))) rfl : Cond.instanceMethod yX9_search ∈ lw_g) (lw_sel 144 rfl : Cond.selects yX9_search.cls yX9_search yX9_search ∈ lw_g) (lwq_1 (List.mem_of_getElem? (i := 6) rfl) rfl : Cond.initialized yX9_search.cls ∈ lw_g) (lwq_6 (dqc_m (dqc_m (dqc_m (List.mem_of_getElem? (i := 2) rfl)))) rfl : Cond.code yX9_search cX9_search 9 (some .boolean) ∈ lw_g), ⟨nmh_8.1, nmh_8.2, pdq_7⟩, ⟨_, _, rfl⟩⟩
set_option maxRecDepth 100000 in
theorem cl_X9_77 : cv_ RX9 77 yX9_setCaps zX9_setCaps 9 1 := ⟨gi_V (lwq_6 (dqc_m (dqa_m (List.mem_of_getElem? (i := 7) rfl))) rfl : Cond.methodLink RX9 77 yX9_setCaps ∈ lw_g) (lwq_6 (dqc_m (dqa_m (dqa_m (List.mem_of_getElem? (i := 1) rfl)))) rfl : Cond.instanceMethod yX9_setCaps ∈ lw_g) (lw_sel 145 rfl : Cond.selects yX9_setCaps.cls yX9_setCaps yX9_setCaps ∈ lw_g) (lwq_1 (List.mem_of_getElem? (i := 6) rfl) rfl : Cond.initialized yX9_setCaps.cls ∈ lw_g) (lwq_6 (dqc_m (dqa_m (dqa_m (List.mem_of_getElem? (i := 2) rfl)))) rfl : Cond.code yX9_setCaps cX9_setCaps 6 none ∈ lw_g), ⟨nmh_8.1, nmh_8.2, pdq_9⟩, ⟨_, _, rfl⟩⟩
set_option maxRecDepth 100000 in
theorem cl_X9_80 : cv_ RX9 80 yX9_spreadParts zX9_spreadParts 9 1 := ⟨gi_V (lwq_6 (dqc_m (dqa_m (dqa_m (List.mem_of_getElem? (i := 3) rfl)))) rfl : Cond.methodLink RX9 80 yX9_spreadParts ∈ lw_g) (lwq_6 (dqc_m (dqa_m (dqa_m (List.mem_of_getElem? (i := 5) rfl)))) rfl : Cond.instanceMethod yX9_spreadParts ∈ lw_g) (lw_sel 147 rfl : Cond.selects yX9_spreadParts.cls yX9_spreadParts yX9_spreadParts ∈ lw_g) (lwq_1 (List.mem_of_getElem? (i := 6) rfl) rfl : Cond.initialized yX9_spreadParts.cls ∈ lw_g) (lwq_6 (dqc_m (dqa_m (dqa_m (List.mem_of_getElem? (i := 6) rfl)))) rfl : Cond.code yX9_spreadParts cX9_spreadParts 5 (some .boolean) ∈ lw_g), ⟨nmh_8.1, nmh_8.2, pdq_7⟩, ⟨_, _, rfl⟩⟩
set_option maxRecDepth 100000 in
theorem cl_X9_84 : cv_ RX9 84 yX9_leastCut zX9_leastCut 9 1 := ⟨gi_V (lwq_6 (dqc_m (dqc_m (dqa_m (List.mem_of_getElem? (i := 7) rfl)))) rfl : Cond.methodLink RX9 84 yX9_leastCut ∈ lw_g) (lwq_6 (dqc_m (dqc_m (dqa_m (dqa_m (List.mem_of_getElem? (i := 1) rfl))))) rfl : Cond.instanceMethod yX9_leastCut ∈ lw_g) (lw_sel 139 rfl : Cond.selects yX9_leastCut.cls yX9_leastCut yX9_leastCut ∈ lw_g) (lwq_1 (List.mem_of_getElem? (i := 6) rfl) rfl : Cond.initialized yX9_leastCut.cls ∈ lw_g) (lwq_6 (dqc_m (dqc_m (dqa_m (dqa_m (List.mem_of_getElem? (i := 2) rfl))))) rfl : Cond.code yX9_leastCut cX9_leastCut 7 (some .int) ∈ lw_g), ⟨nmh_8.1, nmh_8.2, pdq_15⟩, ⟨_, _, rfl⟩⟩
set_option maxRecDepth 100000 in
theorem cl_X9_69 : cv_ RX9 69 yX9_listOpen zX9_listOpen 9 2 := ⟨gi_V (lwq_6 (dqc_m (List.mem_of_getElem? (i := 4) rfl)) rfl : Cond.methodLink RX9 69 yX9_listOpen ∈ lw_g) (lwq_6 (dqc_m (List.mem_of_getElem? (i := 6) rfl)) rfl : Cond.instanceMethod yX9_listOpen ∈ lw_g) (lw_sel 140 rfl : Cond.selects yX9_listOpen.cls yX9_listOpen yX9_listOpen ∈ lw_g) (lwq_1 (List.mem_of_getElem? (i := 6) rfl) rfl : Cond.initialized yX9_listOpen.cls ∈ lw_g) (lwq_6 (dqc_m (List.mem_of_getElem? (i := 7) rfl)) rfl : Cond.code yX9_listOpen cX9_listOpen 5 (some .boolean) ∈ lw_g), ⟨nmh_8.1, nmh_8.2, pdq_5⟩, ⟨_, _, rfl⟩⟩
abbrev cX10_can : ByteArray := prog_1_method_32_code
def yX10_can : MethodName := ⟨RX10, "can", "(II)I"⟩
def zX10_can : Zm := (RX10, cX10_can, 4, (some .int), { frames := 11, cells := 1, slots := 4096, locals := 303 })
set_option maxRecDepth 100000 in
theorem cl_X10_365 : cv_ RX10 365 yX9_ask zX9_ask 9 2 := ⟨gi_V (lwq_6 (dqc_m (List.mem_of_getElem? (i := 0) rfl)) rfl : Cond.methodLink RX10 365 yX9_ask ∈ lw_g) (lwq_6 (dqc_m (List.mem_of_getElem? (i := 1) rfl)) rfl : Cond.instanceMethod yX9_ask ∈ lw_g) (lwq_6 (dqc_m (List.mem_of_getElem? (i := 2) rfl)) rfl : Cond.selects yX9_ask.cls yX9_ask yX9_ask ∈ lw_g) (lwq_1 (List.mem_of_getElem? (i := 6) rfl) rfl : Cond.initialized yX9_ask.cls ∈ lw_g) (lwq_6 (dqc_m (List.mem_of_getElem? (i := 3) rfl)) rfl : Cond.code yX9_ask cX9_ask 4 (some .int) ∈ lw_g), ⟨nmh_8.1, nmh_8.2, pdq_24⟩, ⟨_, _, rfl⟩⟩
abbrev po_X10_can (T : Zt) (c b : Int) : Zt → Option Zv → Prop := fun T' r => ∃ x : Int, r = some (vI x) ∧ fr_ [(109, [5, 3, 9, 6, 2, 15]), (584, []), (588, []), (587, []), (591, []), (592, []), (590, []), (593, []), (594, []), (107, [1]), (542, []), (543, []), (544, []), (545, []), (546, []), (190, []), (191, [0])] T T' ∧ (T' 109 0 15 ≠ 0 → T' 190 (T' 109 0 15 - 1) (-2) = 4096 ∧ 1 ≤ T' 109 0 15) ∧ lh_ T T' ∧ T' 191 0 0 ≤ T 191 0 0 + 1
abbrev cX1_countFrom : ByteArray := prog_3_method_5_code
def yX1_countFrom : MethodName := ⟨RX1, "countFrom", "(I)I"⟩
abbrev cX1_refresh : ByteArray := prog_3_method_4_code
def yX1_refresh : MethodName := ⟨RX1, "refresh", "()V"⟩
def zX1_refresh : Zm := (RX1, cX1_refresh, 3, none, { frames := 14, cells := 0, slots := 0, locals := 378 })
abbrev cX10_ways : ByteArray := prog_1_method_38_code
def yX10_ways : MethodName := ⟨RX10, "ways", "()I"⟩
def zX10_ways : Zm := (RX10, cX10_ways, 1, (some .int), { frames := 15, cells := 0, slots := 0, locals := 400 })
set_option maxRecDepth 100000 in
theorem cl_X10_399 : cv_ RX10 399 yX1_refresh zX1_refresh 1 0 := ⟨gi_V (lwq_6 (dqc_m (dqc_m (dqc_m (dqc_m (dqa_m (List.mem_of_getElem? (i := 6) rfl)))))) rfl : Cond.methodLink RX10 399 yX1_refresh ∈ lw_g) (lwq_6 (dqc_m (dqc_m (dqc_m (dqc_m (dqa_m (List.mem_of_getElem? (i := 7) rfl)))))) rfl : Cond.instanceMethod yX1_refresh ∈ lw_g) (lwq_6 (dqc_m (dqc_m (dqc_m (dqc_m (dqa_m (dqa_m (List.mem_of_getElem? (i := 0) rfl))))))) rfl : Cond.selects yX1_refresh.cls yX1_refresh yX1_refresh ∈ lw_g) (lwq_1 (dqa_m (List.mem_of_getElem? (i := 0) rfl)) rfl : Cond.initialized yX1_refresh.cls ∈ lw_g) (lwq_6 (dqc_m (dqc_m (dqc_m (dqc_m (dqa_m (dqa_m (List.mem_of_getElem? (i := 1) rfl))))))) rfl : Cond.code yX1_refresh cX1_refresh 3 none ∈ lw_g), ⟨nmh_2.1, nmh_2.2, pdq_1⟩, ⟨_, _, rfl⟩⟩
abbrev po_X10_ways (T : Zt) : Zt → Option Zv → Prop := fun T' r => ∃ x : Int, r = some (vI x) ∧ fr_ [(101, [13, 6, 7]), (434, []), (435, []), (431, []), (432, [])] T T' ∧ (x = x)
abbrev cX10_chance : ByteArray := prog_1_method_39_code
def yX10_chance : MethodName := ⟨RX10, "chance", "(II)I"⟩
def zX10_chance : Zm := (RX10, cX10_chance, 3, (some .int), { frames := 15, cells := 0, slots := 0, locals := 400 })
set_option maxRecDepth 100000 in
theorem cl_X10_405 : cv_ RX10 405 yX1_waysWith zX1_waysWith 1 2 := ⟨gi_V (lwq_6 (dqc_m (dqc_m (dqc_m (dqc_m (dqa_m (dqa_m (dqa_m (List.mem_of_getElem? (i := 2) rfl)))))))) rfl : Cond.methodLink RX10 405 yX1_waysWith ∈ lw_g) (lwq_6 (dqc_m (dqc_m (dqc_m (dqc_m (dqa_m (dqa_m (dqa_m (List.mem_of_getElem? (i := 3) rfl)))))))) rfl : Cond.instanceMethod yX1_waysWith ∈ lw_g) (lwq_6 (dqc_m (dqc_m (dqc_m (dqc_m (dqa_m (dqa_m (dqa_m (List.mem_of_getElem? (i := 4) rfl)))))))) rfl : Cond.selects yX1_waysWith.cls yX1_waysWith yX1_waysWith ∈ lw_g) (lwq_1 (dqa_m (List.mem_of_getElem? (i := 0) rfl)) rfl : Cond.initialized yX1_waysWith.cls ∈ lw_g) (lwq_6 (dqc_m (dqc_m (dqc_m (dqc_m (dqa_m (dqa_m (dqa_m (List.mem_of_getElem? (i := 5) rfl)))))))) rfl : Cond.code yX1_waysWith cX1_waysWith 3 (some .int) ∈ lw_g), ⟨nmh_2.1, nmh_2.2, pdq_4⟩, ⟨_, _, rfl⟩⟩
abbrev po_X10_chance (T : Zt) (c g : Int) : Zt → Option Zv → Prop := fun T' r => ∃ x : Int, r = some (vI x) ∧ fr_ [(101, [13, 6, 7]), (434, []), (435, []), (431, []), (432, [])] T T' ∧ (x = x)
abbrev cX10_ball : ByteArray := prog_1_method_40_code
def yX10_ball : MethodName := ⟨RX10, "ball", "(IZ)I"⟩
def zX10_ball : Zm := (RX10, cX10_ball, 4, (some .int), { frames := 15, cells := 0, slots := 0, locals := 400 })
set_option maxRecDepth 100000 in
theorem cl_X10_414 : cv_ RX10 414 yX1_takeClub zX1_takeClub 1 0 := ⟨gi_V (lwq_6 (dqc_m (dqc_m (dqc_m (dqc_m (dqc_m (List.mem_of_getElem? (i := 2) rfl)))))) rfl : Cond.methodLink RX10 414 yX1_takeClub ∈ lw_g) (lwq_6 (dqc_m (dqc_m (dqc_m (dqc_m (dqc_m (List.mem_of_getElem? (i := 3) rfl)))))) rfl : Cond.instanceMethod yX1_takeClub ∈ lw_g) (lwq_6 (dqc_m (dqc_m (dqc_m (dqc_m (dqc_m (List.mem_of_getElem? (i := 4) rfl)))))) rfl : Cond.selects yX1_takeClub.cls yX1_takeClub yX1_takeClub ∈ lw_g) (lwq_1 (dqa_m (List.mem_of_getElem? (i := 0) rfl)) rfl : Cond.initialized yX1_takeClub.cls ∈ lw_g) (lwq_6 (dqc_m (dqc_m (dqc_m (dqc_m (dqc_m (List.mem_of_getElem? (i := 5) rfl)))))) rfl : Cond.code yX1_takeClub cX1_takeClub 4 (some .int) ∈ lw_g), ⟨nmh_2.1, nmh_2.2, pdq_17⟩, ⟨_, _, rfl⟩⟩
set_option maxRecDepth 100000 in
theorem cl_X10_417 : cv_ RX10 417 yX1_place zX1_place 1 1 := ⟨gi_V (lwq_6 (dqc_m (dqc_m (dqc_m (dqc_m (dqc_m (dqa_m (List.mem_of_getElem? (i := 6) rfl))))))) rfl : Cond.methodLink RX10 417 yX1_place ∈ lw_g) (lwq_6 (dqc_m (dqc_m (dqc_m (dqc_m (dqc_m (dqa_m (List.mem_of_getElem? (i := 7) rfl))))))) rfl : Cond.instanceMethod yX1_place ∈ lw_g) (lwq_6 (dqc_m (dqc_m (dqc_m (dqc_m (dqc_m (dqa_m (dqa_m (List.mem_of_getElem? (i := 0) rfl)))))))) rfl : Cond.selects yX1_place.cls yX1_place yX1_place ∈ lw_g) (lwq_1 (dqa_m (List.mem_of_getElem? (i := 0) rfl)) rfl : Cond.initialized yX1_place.cls ∈ lw_g) (lwq_6 (dqc_m (dqc_m (dqc_m (dqc_m (dqc_m (dqa_m (dqa_m (List.mem_of_getElem? (i := 1) rfl)))))))) rfl : Cond.code yX1_place cX1_place 5 none ∈ lw_g), ⟨nmh_2.1, nmh_2.2, pdq_9⟩, ⟨_, _, rfl⟩⟩
abbrev po_X10_ball (T : Zt) (s b : Int) : Zt → Option Zv → Prop := fun T' r => ∃ x : Int, r = some (vI x) ∧ fr_ [(101, [13, 6, 7, 5, 4]), (434, []), (435, []), (431, []), (432, []), (429, [])] T T' ∧ (x = x)
-- static rows and texts, which no method writes
section JS
variable {Y Yc : Zm} {T0 T : Zt} {P : Zt → Option Zv → Prop} {bc bs : Nat} {pc : Int} {ls : Zl} {st rest : List Zv} {y : MethodName} {Qp : Zt → Option Zv → Prop}
theorem sa_b : ∀ i, i < 3 → ∀ x, x < 16 → 0 ≤ (sa_ i).getD x 0 ∧ (sa_ i).getD x 0 ≤ 999 := by decide
theorem j_gs81 {idx i : Nat} (hp : 0 ≤ pc) (hi : i < 3) (hlk : Cond.fieldLink Y.1 idx "SportsHouse$RuleText" (sn_ i) "[I" ∈ lw_g) (hd : decode Y.2.1 pc.toNat = .ok (.getstatic idx, 3)) (kk : J_ Y T0 P bc bs (pc + 3) ls (vR 81 (i : Int) :: st) T) : J_ Y T0 P bc bs pc ls st T := by
  intro l p e s m args below meth c D cA ad0 A X ad H locs cells slots lsC hc hs hR hS hB hT hL hl hln
  have hz := (X.2.2.2.2.2.2.2.2.2.2.1.1 i hi).1
  have k2 := kk l p e s m args below meth c D cA ad0 A X ad H locs cells slots lsC hc hs hR hS hB hT (ok_push (Or.inl (by omega)) hL) hl hln
  rw [show (pc + 3).toNat = pc.toNat + 3 by omega] at k2
  have ea : ad 81 (i : Int) = ad0 81 (i : Int) := hB.2 81 _ (Or.inl (by omega))
  refine va_gets X.1 X.2.1 hz hS X.2.2.2.2.2.2.1 (X.2.2.2.2.2.1 _ hlk) (fun _ h => h) hd ?_
  rw [← ea]
  exact k2
theorem j_ld81 {i : Nat} {x : Int} (hp : 0 ≤ pc) (hi : i < 3) (h1 : 0 ≤ x) (h2 : x < 16) (hd : decode Y.2.1 pc.toNat = .ok (.iaload, 1)) (kk : J_ Y T0 P bc bs (pc + 1) ls (vI ((sa_ i).getD x.toNat 0) :: st) T) : J_ Y T0 P bc bs pc ls (vI x :: vR 81 (i : Int) :: st) T := by
  intro l p e s m args below meth c D cA ad0 A X ad H locs cells slots lsC hc hs hR hS hB hT hL hl hln
  have hz := (X.2.2.2.2.2.2.2.2.2.2.1.1 i hi).2
  have hb := sa_b i hi x.toNat (by omega)
  have k2 := kk l p e s m args below meth c D cA ad0 A X ad H locs cells slots lsC hc hs hR hS hB hT (ok_push (show ok_v T (vI _) from ⟨by omega, by omega⟩) (ok_tail (ok_tail hL))) hl hln
  rw [show (pc + 1).toNat = pc.toNat + 1 by omega] at k2
  have ea : ad 81 (i : Int) = ad0 81 (i : Int) := hB.2 81 _ (Or.inl (by omega))
  have hcl := i3_cl h1 (show x ≤ 2147483647 by omega)
  rw [← ea] at hz
  refine va_ti X.1 X.2.1 hz hS (i3_in h1 (show x < 16 by omega) (by omega)) (v := .int (Int32.ofInt ((sa_ i).getD x.toNat 0))) (by rw [show (Int32.ofInt x).toNatClampNeg = x.toNat by omega]) hd ?_
  exact k2
theorem j_ldcS {idx i : Nat} (hp : 0 ≤ pc) (hY : Y.1 = "SportsHouse$RuleText") (hi : i < 3) (hx : (stx_ i).1 = idx) (hd : decode Y.2.1 pc.toNat = .ok (.ldc idx, 2)) (kk : J_ Y T0 P bc bs (pc + 2) ls (vR 82 (i : Int) :: st) T) : J_ Y T0 P bc bs pc ls st T := by
  intro l p e s m args below meth c D cA ad0 A X ad H locs cells slots lsC hc hs hR hS hB hT hL hl hln
  have hz := X.2.2.2.2.2.2.2.2.2.2.1.2.2.1 i hi
  have k2 := kk l p e s m args below meth c D cA ad0 A X ad H locs cells slots lsC hc hs hR hS hB hT (ok_push (Or.inl (by omega)) hL) hl hln
  rw [show (pc + 2).toNat = pc.toNat + 2 by omega] at k2
  have ea : ad 82 (i : Int) = ad0 82 (i : Int) := hB.2 82 _ (Or.inl (by omega))
  rw [← ea, hx] at hz
  have ho := X.2.2.2.2.2.2.1
  rw [hY] at ho
  exact va_ldcS X.1 X.2.1 ho hz hd k2
theorem j_gsC {idx : Nat} (hp : 0 ≤ pc) (hlk : Cond.fieldLink Y.1 idx "java/lang/String" "COMPACT_STRINGS" "Z" ∈ lw_g) (hd : decode Y.2.1 pc.toNat = .ok (.getstatic idx, 3)) (kk : J_ Y T0 P bc bs (pc + 3) ls (vI 1 :: st) T) : J_ Y T0 P bc bs pc ls st T := by
  intro l p e s m args below meth c D cA ad0 A X ad H locs cells slots lsC hc hs hR hS hB hT hL hl hln
  have k2 := kk l p e s m args below meth c D cA ad0 A X ad H locs cells slots lsC hc hs hR hS hB hT (ok_push (show ok_v T (vI 1) from ⟨by omega, by omega⟩) hL) hl hln
  rw [show (pc + 3).toNat = pc.toNat + 3 by omega] at k2
  exact va_gets X.1 X.2.1 X.2.2.2.2.2.2.2.2.2.2.1.2.2.2.1 hS X.2.2.2.2.2.2.1 (X.2.2.2.2.2.1 _ hlk) (fun _ h => h) hd k2
theorem j_gsF {idx : Nat} (hp : 0 ≤ pc) (hlk : Cond.fieldLink Y.1 idx "jdk/internal/util/Preconditions" "SIOOBE_FORMATTER" "Ljava/util/function/BiFunction;" ∈ lw_g) (hd : decode Y.2.1 pc.toNat = .ok (.getstatic idx, 3)) (k0 : J_ Y T0 P bc bs (pc + 3) ls (vN :: st) T) (k1 : J_ Y T0 P bc bs (pc + 3) ls (vR 84 0 :: st) T) : J_ Y T0 P bc bs pc ls st T := by
  intro l p e s m args below meth c D cA ad0 A X ad H locs cells slots lsC hc hs hR hS hB hT hL hl hln
  rcases X.2.2.2.2.2.2.2.2.2.2.1.2.2.2.2 with hz | hz
  · have k2 := k0 l p e s m args below meth c D cA ad0 A X ad H locs cells slots lsC hc hs hR hS hB hT (ok_push trivial hL) hl hln
    rw [show (pc + 3).toNat = pc.toNat + 3 by omega] at k2
    exact va_gets X.1 X.2.1 hz hS X.2.2.2.2.2.2.1 (X.2.2.2.2.2.1 _ hlk) (fun _ h => h) hd k2
  · have k2 := k1 l p e s m args below meth c D cA ad0 A X ad H locs cells slots lsC hc hs hR hS hB hT (ok_push (Or.inl (by omega)) hL) hl hln
    rw [show (pc + 3).toNat = pc.toNat + 3 by omega] at k2
    have ea : ad 84 0 = ad0 84 0 := hB.2 84 _ (Or.inl (by omega))
    refine va_gets X.1 X.2.1 hz hS X.2.2.2.2.2.2.1 (X.2.2.2.2.2.1 _ hlk) (fun _ h => h) hd ?_
    rw [← ea]
    exact k2
theorem j_gfC {idx i : Nat} (hp : 0 ≤ pc) (hi : i < 3) (hlk : Cond.fieldLink Y.1 idx "java/lang/String" "coder" "B" ∈ lw_g) (hd : decode Y.2.1 pc.toNat = .ok (.getfield idx, 3)) (kk : J_ Y T0 P bc bs (pc + 3) ls (vI 0 :: st) T) : J_ Y T0 P bc bs pc ls (vR 82 (i : Int) :: st) T := by
  intro l p e s m args below meth c D cA ad0 A X ad H locs cells slots lsC hc hs hR hS hB hT hL hl hln
  have hz := (X.2.2.2.2.2.2.2.2.2.2.1.2.1.1 i hi).2.1
  have k2 := kk l p e s m args below meth c D cA ad0 A X ad H locs cells slots lsC hc hs hR hS hB hT (ok_push (show ok_v T (vI 0) from ⟨by omega, by omega⟩) (ok_tail hL)) hl hln
  rw [show (pc + 3).toNat = pc.toNat + 3 by omega] at k2
  have ea : ad 82 (i : Int) = ad0 82 (i : Int) := hB.2 82 _ (Or.inl (by omega))
  dsimp only at hz
  rw [show ad0 82 (i : Int) = ad 82 (i : Int) from ea.symm] at hz
  exact vk_getf X.1 X.2.1 hz hS X.2.2.2.2.2.2.1 (X.2.2.2.2.2.1 _ hlk) (fun _ h => h) hd k2
theorem j_gfV {idx i : Nat} (hp : 0 ≤ pc) (hi : i < 3) (hlk : Cond.fieldLink Y.1 idx "java/lang/String" "value" "[B" ∈ lw_g) (hd : decode Y.2.1 pc.toNat = .ok (.getfield idx, 3)) (kk : J_ Y T0 P bc bs (pc + 3) ls (vR 83 (i : Int) :: st) T) : J_ Y T0 P bc bs pc ls (vR 82 (i : Int) :: st) T := by
  intro l p e s m args below meth c D cA ad0 A X ad H locs cells slots lsC hc hs hR hS hB hT hL hl hln
  have hz := (X.2.2.2.2.2.2.2.2.2.2.1.2.1.1 i hi).2.2.1
  have k2 := kk l p e s m args below meth c D cA ad0 A X ad H locs cells slots lsC hc hs hR hS hB hT (ok_push (Or.inl (by omega)) (ok_tail hL)) hl hln
  rw [show (pc + 3).toNat = pc.toNat + 3 by omega] at k2
  have ea : ad 82 (i : Int) = ad0 82 (i : Int) := hB.2 82 _ (Or.inl (by omega))
  have eb : ad 83 (i : Int) = ad0 83 (i : Int) := hB.2 83 _ (Or.inl (by omega))
  dsimp only at hz
  rw [show ad0 82 (i : Int) = ad 82 (i : Int) from ea.symm, show ad0 83 (i : Int) = ad 83 (i : Int) from eb.symm] at hz
  exact vk_getf X.1 X.2.1 hz hS X.2.2.2.2.2.2.1 (X.2.2.2.2.2.1 _ hlk) (fun _ h => h) hd k2
theorem j_len83 {i : Nat} {n : Int} (hp : 0 ≤ pc) (hi : i < 3) (hn : ((sle_.getD i 0 : Nat) : Int) = n) (hb : n ≤ 1000) (hd : decode Y.2.1 pc.toNat = .ok (.arraylength, 1)) (kk : J_ Y T0 P bc bs (pc + 1) ls (vI n :: st) T) : J_ Y T0 P bc bs pc ls (vR 83 (i : Int) :: st) T := by
  intro l p e s m args below meth c D cA ad0 A X ad H locs cells slots lsC hc hs hR hS hB hT hL hl hln
  have hz := (X.2.2.2.2.2.2.2.2.2.2.1.2.1.1 i hi).2.2.2
  have k2 := kk l p e s m args below meth c D cA ad0 A X ad H locs cells slots lsC hc hs hR hS hB hT (ok_push (show ok_v T (vI n) from ⟨by omega, by omega⟩) (ok_tail hL)) hl hln
  rw [show (pc + 1).toNat = pc.toNat + 1 by omega] at k2
  have eb : ad 83 (i : Int) = ad0 83 (i : Int) := hB.2 83 _ (Or.inl (by omega))
  dsimp only at hz
  rw [show ad0 83 (i : Int) = ad 83 (i : Int) from eb.symm] at hz
  refine va_tlen X.1 X.2.1 hz hS (v := Int32.ofInt n) ?_ hd k2
  rw [← hn]
  rfl
theorem j_ba83 {i : Nat} {x n : Int} (hp : 0 ≤ pc) (hi : i < 3) (hn : ((sle_.getD i 0 : Nat) : Int) = n) (h1 : 0 ≤ x) (h2 : x < n) (hb : n ≤ 1000) (hv : ∀ k, k < 1000 → Int32.ofInt (((sby_.getD i []).getD k 0).toInt) = (sby_.getD i []).getD k 0 ∧ 0 ≤ ((sby_.getD i []).getD k 0).toInt ∧ ((sby_.getD i []).getD k 0).toInt ≤ 127) (hd : decode Y.2.1 pc.toNat = .ok (.baload, 1)) (kk : J_ Y T0 P bc bs (pc + 1) ls (vI ((sby_.getD i []).getD x.toNat 0).toInt :: st) T) : J_ Y T0 P bc bs pc ls (vI x :: vR 83 (i : Int) :: st) T := by
  intro l p e s m args below meth c D cA ad0 A X ad H locs cells slots lsC hc hs hR hS hB hT hL hl hln
  have hz := (X.2.2.2.2.2.2.2.2.2.2.1.2.1.1 i hi).2.2.2
  have hw := hv x.toNat (by omega)
  have k2 := kk l p e s m args below meth c D cA ad0 A X ad H locs cells slots lsC hc hs hR hS hB hT (ok_push (show ok_v T (vI _) from ⟨by omega, by omega⟩) (ok_tail (ok_tail hL))) hl hln
  rw [show (pc + 1).toNat = pc.toNat + 1 by omega] at k2
  have eb : ad 83 (i : Int) = ad0 83 (i : Int) := hB.2 83 _ (Or.inl (by omega))
  have hcl := i3_cl h1 (show x ≤ 2147483647 by omega)
  dsimp only at hz
  rw [show ad0 83 (i : Int) = ad 83 (i : Int) from eb.symm] at hz
  have hin := i3_in h1 (show x < ((sle_.getD i 0 : Nat) : Int) by omega) (by omega)
  rw [Int.toNat_natCast] at hin
  refine va_tb X.1 X.2.1 hz hS hin (v := .int (Int32.ofInt (((sby_.getD i []).getD x.toNat 0).toInt))) (by rw [show (Int32.ofInt x).toNatClampNeg = x.toNat by omega, hw.1]) hd k2
theorem i2c_b : ∀ n : Nat, n < 128 → ((Int32.ofInt (n : Int)).toUInt32 % 65536).toInt32 = Int32.ofInt (n : Int) := by decide +kernel
theorem nar_b : ∀ n : Nat, n < 128 → narrow .char (.int (Int32.ofInt (n : Int))) = .int (Int32.ofInt (n : Int)) ∧ narrow .byte (.int (Int32.ofInt (n : Int))) = .int (Int32.ofInt (n : Int)) := by decide +kernel
theorem j_i2c {x : Int} (hp : 0 ≤ pc) (h : 0 ≤ x ∧ x ≤ 127) (hd : decode Y.2.1 pc.toNat = .ok (.i2c, 1)) (kk : J_ Y T0 P bc bs (pc + 1) ls (vI x :: st) T) : J_ Y T0 P bc bs pc ls (vI x :: st) T := by
  intro l p e s m args below meth c D cA ad0 A X ad H locs cells slots lsC hc hs hR hS hB hT hL hl hln
  have k2 := kk l p e s m args below meth c D cA ad0 A X ad H locs cells slots lsC hc hs hR hS hB hT hL hl hln
  rw [show (pc + 1).toNat = pc.toNat + 1 by omega] at k2
  have h1 := i2c_b x.toNat (by omega)
  rw [show ((x.toNat : Nat) : Int) = x by omega] at h1
  exact lv_i2c X.1 X.2.1 hd h1 k2
theorem j_iretN {x : Int} (hr : Y.2.2.2.1 = some .char ∨ Y.2.2.2.1 = some .byte) (h : 0 ≤ x ∧ x ≤ 127) (hd : decode Y.2.1 pc.toNat = .ok (.ireturn, 1)) (k : P T (some (vI x))) : J_ Y T0 P bc bs pc ls [vI x] T := by
  intro l p e' s m args below meth c D cA ad0 A X ad H locs cells slots lsC hc hs hR hS hB hT hL hl hn
  refine W.widen (k := Y.2.2.2.2.cells) (n := Y.2.2.2.2.slots) (by omega) (by omega) ?_
  have hq : ∀ t : State, t.heap = H → s.WarmedH t.vm → Qc_ D cA ad0 T0 A P args s (.returned (some (.int (Int32.ofInt x)))) t := fun t ht _ => ⟨⟨T, ad, some (vI x), rfl, k, hT, fun v hv => by cases hv; exact ok_head hL, by rw [ht]; exact hR, hB⟩, hS.F ht⟩
  have h1 := nar_b x.toNat (by omega)
  rw [show ((x.toNat : Nat) : Int) = x by omega] at h1
  rcases hr with hr | hr
  · exact W.zret (ty := .char) X.1 X.2.1 (X.2.2.2.1.trans hr) h1.1 hq hS.2.2 hd X.2.2.2.2.1
  · exact W.zret (ty := .byte) X.1 X.2.1 (X.2.2.2.1.trans hr) h1.2 hq hS.2.2 hd X.2.2.2.2.1
/-- a call of a text's method -/
def ck82_ (own : String) (idx : Nat) (y : MethodName) (Yc : Zm) (n : Nat) : Prop := GoodIn lw_g (wsV own idx y.cls y (.code y Yc.2.1 Yc.2.2.1 Yc.2.2.2.1 :: lw_g)) ∧ (y.cls ≠ "java/lang/invoke/MethodHandle" ∧ y.cls ≠ "java/lang/invoke/VarHandle" ∧ (parseMethodDescriptor y.desc).map (fun d => d.parameters.length) = some n) ∧ y.cls = "java/lang/String"
theorem j_callK {idx n i : Nat} (as : List Zv) (hi : i < 3) (hC : Ct_ y Yc T (vR 82 (i : Int) :: as) Qp) (hcv : ck82_ Y.1 idx y Yc n) (hd : decode Y.2.1 pc.toNat = .ok (.invokevirtual idx, 3)) (hp : 0 ≤ pc) (hn : as.length = n) (hrm : rf_ Yc Y = true) (hrest : rest.length ≤ 4) (hmc : Yc.2.2.2.2.cells ≤ bc) (hms : Yc.2.2.2.2.slots ≤ bs) {st0 : List Zv} (hst : st0 = as.reverse ++ vR 82 (i : Int) :: rest) (kk : ∀ (T' : Zt) (r : Option Zv), Qp T' r → J_ Y T0 P (bc - Yc.2.2.2.2.cells) (bs - Yc.2.2.2.2.slots) (pc + 3) ls (r.toList ++ rest) T') : J_ Y T0 P bc bs pc ls st0 T := by
  subst hst
  intro l p e s m args below meth c D cA ad0 A X ad H locs cells slots lsC hc hs hR hS hB hT hL hl hln
  obtain ⟨hG, hdd, hcs⟩ := hcv
  simp only [rf_, Bool.and_eq_true, decide_eq_true_eq] at hrm
  have hLr : ok_l T ls rest := ⟨hL.1, fun v hv => hL.2 v (by simp [hv])⟩
  have hAA : ∀ q, A_ ad T H.size q → A q := by
    rintro q (⟨k, i, ha, rfl⟩ | h)
    · exact Rp_in hR ha
    · exact X.2.2.2.2.2.2.2.2.2.1 q (Nat.le_trans hS.1 h)
  have hrc := vk_recv X.2.2.2.2.2.2.2.2.2.2.1.2.1 hi hS
  have ea : ad 82 (i : Int) = ad0 82 (i : Int) := hB.2 82 _ (Or.inl (by omega))
  rw [show ad0 82 (i : Int) = ad 82 (i : Int) from ea.symm, ← hcs] at hrc
  refine j_back X hc hs hR hS hB hLr hl hln hp hmc hms (va_runV (As := as.map (en_v ad)) (rest := rest.map (en_v ad)) (b := ad 82 (i : Int)) ⟨X.1, X.2.1, X.2.2.1, X.2.2.2.2.2.2.1, X.2.2.2.2.2.1⟩ (hC l D cA ad H.size) (cwV n X.2.2.2.2.2.1 hG rfl rfl rfl ⟨rfl, hdd⟩ hrm) ⟨pc_blind, hrc, fun U hU hW => ⟨rfl, by rw [hU], by rw [hU]; exact Rp_A hR (fun _ _ _ _ => trivial), va_K.moved hW.alike X.2.2.2.2.2.2.2.1, ex_warm hW X.2.2.2.2.2.2.2.2.1, se_call X.2.2.2.2.2.2.2.2.2.2.1 hS hAA hU hW (fun k i hk => hB.2 k i (Or.inl hk)), hT, fun v hv => hL.2 v ?_⟩⟩ rfl (by rw [List.length_map]; exact hn) (hl.1) ?_ (lv_room ?_) hd ⟨by omega, by omega⟩) (fun T' r h => kk T' r h)
  · rcases List.mem_cons.mp hv with rfl | h
    · simp
    · simp [h]
  · show List.map (en_v ad) (as.reverse ++ vR 82 (i : Int) :: rest) = _
    rw [List.map_append, List.map_reverse, List.map_cons]
    rfl
  · have := en_sum (ad := ad) rest
    omega
end JS
theorem bv_all : ∀ i, i < 3 → ∀ v ∈ sby_.getD i [], 0 ≤ v.toInt ∧ v.toInt ≤ 127 := by decide +kernel
/-- a byte of a text -/
def cb8_ (i : Nat) (x : Int) : Int := ((sby_.getD i []).getD x.toNat 0).toInt
theorem bv_k {i : Nat} (hi : i < 3) (k : Nat) : 0 ≤ ((sby_.getD i []).getD k 0).toInt ∧ ((sby_.getD i []).getD k 0).toInt ≤ 127 := by
  rw [List.getD_eq_getElem?_getD (l := sby_.getD i [])]
  cases h : (sby_.getD i [])[k]? with
  | none => exact ⟨by decide, by decide⟩
  | some v => exact bv_all i hi v (List.mem_of_getElem? h)
theorem cb8_b {i : Nat} (hi : i < 3) (x : Int) : 0 ≤ cb8_ i x ∧ cb8_ i x ≤ 127 := bv_k hi _
theorem an_255 : ∀ n : Nat, n < 128 → an_ (n : Int) 255 = (n : Int) := by decide +kernel
theorem an_25 {x : Int} (h : 0 ≤ x ∧ x ≤ 127) : an_ x 255 = x := by
  have h1 := an_255 x.toNat (by omega)
  rw [show ((x.toNat : Nat) : Int) = x by omega] at h1
  exact h1
abbrev RJ0 : String := "java/lang/String"
def fJ0 : Zf := ([], [], [], [])
theorem tb_J0 : tb_ RJ0 fJ0 := ⟨fun _ h => absurd h List.not_mem_nil, fun _ h => absurd h List.not_mem_nil, fun _ h => absurd h List.not_mem_nil, fun _ h => absurd h List.not_mem_nil⟩
abbrev RJ1 : String := "java/lang/StringLatin1"
def fJ1 : Zf := ([], [], [], [])
theorem tb_J1 : tb_ RJ1 fJ1 := ⟨fun _ h => absurd h List.not_mem_nil, fun _ h => absurd h List.not_mem_nil, fun _ h => absurd h List.not_mem_nil, fun _ h => absurd h List.not_mem_nil⟩
abbrev RJ3 : String := "jdk/internal/util/Preconditions"
def fJ3 : Zf := ([], [], [], [])
theorem tb_J3 : tb_ RJ3 fJ3 := ⟨fun _ h => absurd h List.not_mem_nil, fun _ h => absurd h List.not_mem_nil, fun _ h => absurd h List.not_mem_nil, fun _ h => absurd h List.not_mem_nil⟩
abbrev cJ3_checkIndex_8e157 : ByteArray := prog_22_method_11_code
def yJ3_checkIndex_8e157 : MethodName := ⟨RJ3, "checkIndex", "(IILjava/util/function/BiFunction;)I"⟩
def zJ3_checkIndex_8e157 : Zm := (RJ3, cJ3_checkIndex_8e157, 3, (some .int), { frames := 0, cells := 0, slots := 0, locals := 0 })
theorem bk_J3_checkIndex_8e157_0 : ck_ fJ3 (some .int) cJ3_checkIndex_8e157 0 [.iload 0, .ifCond .lt 9, .iload 0, .iload 1, .if_icmp .lt 16, .aload 2, .iload 0, .iload 1] 12 = true := qck_r (nn_ _) (by decide +kernel)
theorem bs_J3_checkIndex_8e157_0 {P : Zt → Option Zv → Prop} (K : Int → Zl → List Zv → Zt → Prop) : sx_ K P [.iload 0, .ifCond .lt 9, .iload 0, .iload 1, .if_icmp .lt 16, .aload 2, .iload 0, .iload 1] 12 = x_iload 0 (x_ifCond .lt 9 K (x_iload 0 (x_iload 1 (x_if_icmp .lt 16 K (x_aload 2 (x_iload 0 (x_iload 1 (K 12)))))))) := ((xe_iload 0).trans (congrArg (x_iload 0) ((xe_ifCond .lt 9).trans (congrArg (x_ifCond .lt 9 K) ((xe_iload 0).trans (congrArg (x_iload 0) ((xe_iload 1).trans (congrArg (x_iload 1) ((xe_if_icmp .lt 16).trans (congrArg (x_if_icmp .lt 16 K) ((xe_aload 2).trans (congrArg (x_aload 2) ((xe_iload 0).trans (congrArg (x_iload 0) ((xe_iload 1).trans (congrArg (x_iload 1) xe_nil))))))))))))))))
theorem bk_J3_checkIndex_8e157_16 : ck_ fJ3 (some .int) cJ3_checkIndex_8e157 16 [.iload 0, .ireturn] 18 = true := qck_r (nn_ _) (by decide +kernel)
theorem bs_J3_checkIndex_8e157_16 {P : Zt → Option Zv → Prop} (K : Int → Zl → List Zv → Zt → Prop) : sx_ K P [.iload 0, .ireturn] 18 = x_iload 0 (x_ireturn P) := ((xe_iload 0).trans (congrArg (x_iload 0) (xe_ireturn)))
abbrev po_J3_checkIndex_n (T : Zt) (a n : Int) : Zt → Option Zv → Prop := fun T' r => T = T' ∧ r = some (vI (a))
set_option maxHeartbeats 4000000 in
theorem ct_J3_checkIndex_n {T : Zt} {a n : Int} (h1 : 0 ≤ a ∧ a < n) : Ct_ yJ3_checkIndex_8e157 zJ3_checkIndex_8e157 T [vI a, vI n, vN] (po_J3_checkIndex_n T a n) := by
  refine ct_of (by decide) rfl rfl (Nat.le_of_ble_eq_true rfl) (fun hT hav => ?_)
  have hr_a : -2147483648 ≤ a ∧ a ≤ 2147483647 := hav (vI a) List.mem_cons_self
  have hr_n : -2147483648 ≤ n ∧ n ≤ 2147483647 := hav (vI n) (List.mem_cons_of_mem _ List.mem_cons_self)
  have hz : zJ3_checkIndex_8e157.2.2.2.1 = some .boolean → ∀ (T' : Zt) (x : Int), po_J3_checkIndex_n T a n T' (some (vI x)) → 0 ≤ x ∧ x ≤ 1 := fun h => by cases h
  show J_ zJ3_checkIndex_8e157 T (po_J3_checkIndex_n T a n) 0 0 0 [some (vI a), some (vI n), some (vN)] [] T
  refine j_blx (F := fJ3) tb_J3 (nn_ _) bk_J3_checkIndex_8e157_0 bs_J3_checkIndex_8e157_0 hz (fun K hK => ?_)
  refine And.intro (fun c1 => ?_) (fun c1 => ?_)
  · exact absurd c1 (by omega)
  · refine And.intro (fun c2 => ?_) (fun c2 => ?_)
    · refine hK 16 _ [] T ?_
      refine j_blx (F := fJ3) tb_J3 (nn_ _) bk_J3_checkIndex_8e157_16 bs_J3_checkIndex_8e157_16 hz (fun K hK => ?_)
      refine (show po_J3_checkIndex_n T a n T (some (vI a)) from ?_)
      exact ⟨rfl, rfl⟩
    · exact absurd c2 (by omega)
abbrev po_J3_checkIndex_r (T : Zt) (a n : Int) : Zt → Option Zv → Prop := fun T' r => T = T' ∧ r = some (vI (a))
set_option maxHeartbeats 4000000 in
theorem ct_J3_checkIndex_r {T : Zt} {a n : Int} (h1 : 0 ≤ a ∧ a < n) : Ct_ yJ3_checkIndex_8e157 zJ3_checkIndex_8e157 T [vI a, vI n, vR 84 0] (po_J3_checkIndex_r T a n) := by
  refine ct_of (by decide) rfl rfl (Nat.le_of_ble_eq_true rfl) (fun hT hav => ?_)
  have hr_a : -2147483648 ≤ a ∧ a ≤ 2147483647 := hav (vI a) List.mem_cons_self
  have hr_n : -2147483648 ≤ n ∧ n ≤ 2147483647 := hav (vI n) (List.mem_cons_of_mem _ List.mem_cons_self)
  have hz : zJ3_checkIndex_8e157.2.2.2.1 = some .boolean → ∀ (T' : Zt) (x : Int), po_J3_checkIndex_r T a n T' (some (vI x)) → 0 ≤ x ∧ x ≤ 1 := fun h => by cases h
  show J_ zJ3_checkIndex_8e157 T (po_J3_checkIndex_r T a n) 0 0 0 [some (vI a), some (vI n), some (vR 84 0)] [] T
  refine j_blx (F := fJ3) tb_J3 (nn_ _) bk_J3_checkIndex_8e157_0 bs_J3_checkIndex_8e157_0 hz (fun K hK => ?_)
  refine And.intro (fun c1 => ?_) (fun c1 => ?_)
  · exact absurd c1 (by omega)
  · refine And.intro (fun c2 => ?_) (fun c2 => ?_)
    · refine hK 16 _ [] T ?_
      refine j_blx (F := fJ3) tb_J3 (nn_ _) bk_J3_checkIndex_8e157_16 bs_J3_checkIndex_8e157_16 hz (fun K hK => ?_)
      refine (show po_J3_checkIndex_r T a n T (some (vI a)) from ?_)
      exact ⟨rfl, rfl⟩
    · exact absurd c2 (by omega)
abbrev cJ0_checkIndex_df160 : ByteArray := prog_17_method_155_code
def yJ0_checkIndex_df160 : MethodName := ⟨RJ0, "checkIndex", "(II)V"⟩
def zJ0_checkIndex_df160 : Zm := (RJ0, cJ0_checkIndex_df160, 2, none, { frames := 1, cells := 0, slots := 0, locals := 22 })
theorem bk_J0_checkIndex_df160_0 : ck_ fJ0 none cJ0_checkIndex_df160 0 [.iload 0, .iload 1] 2 = true := qck_r (nn_ _) (by decide +kernel)
theorem bs_J0_checkIndex_df160_0 {P : Zt → Option Zv → Prop} (K : Int → Zl → List Zv → Zt → Prop) : sx_ K P [.iload 0, .iload 1] 2 = x_iload 0 (x_iload 1 (K 2)) := ((xe_iload 0).trans (congrArg (x_iload 0) ((xe_iload 1).trans (congrArg (x_iload 1) xe_nil))))
set_option maxRecDepth 100000 in
theorem cl_J0_1059 : cs_ RJ0 1059 yJ3_checkIndex_8e157 zJ3_checkIndex_8e157 3 := ⟨gi_S (lwq_3 (dqa_m (dqa_m (List.mem_of_getElem? (i := 5) rfl))) rfl : Cond.methodLink RJ0 1059 yJ3_checkIndex_8e157 ∈ lw_g) (lwq_3 (dqa_m (dqa_m (List.mem_of_getElem? (i := 6) rfl))) rfl : Cond.static yJ3_checkIndex_8e157 ∈ lw_g) (lwq_1 (dqa_m (List.mem_of_getElem? (i := 5) rfl)) rfl : Cond.initialized yJ3_checkIndex_8e157.cls ∈ lw_g) (lwq_3 (dqa_m (dqa_m (List.mem_of_getElem? (i := 7) rfl))) rfl : Cond.code yJ3_checkIndex_8e157 cJ3_checkIndex_8e157 3 (some .int) ∈ lw_g), ⟨by decide, by decide, by decide +kernel⟩⟩
theorem bk_J0_checkIndex_df160_8 : ck_ fJ0 none cJ0_checkIndex_df160 8 [.pop, .return_] 10 = true := qck_r (nn_ _) (by decide +kernel)
theorem bs_J0_checkIndex_df160_8 {P : Zt → Option Zv → Prop} (K : Int → Zl → List Zv → Zt → Prop) : sx_ K P [.pop, .return_] 10 = x_pop (x_return_ P) := ((xe_pop).trans (congrArg (x_pop) (xe_return_)))
abbrev po_J0_checkIndex_df160 (T : Zt) (a n : Int) : Zt → Option Zv → Prop := fun T' r => T = T' ∧ r = none
set_option maxHeartbeats 4000000 in
theorem ct_J0_checkIndex_df160 {T : Zt} {a n : Int} (h1 : 0 ≤ a ∧ a < n) : Ct_ yJ0_checkIndex_df160 zJ0_checkIndex_df160 T [vI a, vI n] (po_J0_checkIndex_df160 T a n) := by
  refine ct_of (by decide) rfl rfl (Nat.le_of_ble_eq_true rfl) (fun hT hav => ?_)
  have hr_a : -2147483648 ≤ a ∧ a ≤ 2147483647 := hav (vI a) List.mem_cons_self
  have hr_n : -2147483648 ≤ n ∧ n ≤ 2147483647 := hav (vI n) (List.mem_cons_of_mem _ List.mem_cons_self)
  have hz : zJ0_checkIndex_df160.2.2.2.1 = some .boolean → ∀ (T' : Zt) (x : Int), po_J0_checkIndex_df160 T a n T' (some (vI x)) → 0 ≤ x ∧ x ≤ 1 := fun h => by cases h
  show J_ zJ0_checkIndex_df160 T (po_J0_checkIndex_df160 T a n) 0 0 0 [some (vI a), some (vI n)] [] T
  refine j_blx (F := fJ0) tb_J0 (nn_ _) bk_J0_checkIndex_df160_0 bs_J0_checkIndex_df160_0 hz (fun K hK => ?_)
  refine hK 2 _ [vI n, vI a] T ?_
  refine j_gsF (pc := 2) (by decide) (lwq_3 (dqa_m (dqa_m (List.mem_of_getElem? (i := 3) rfl))) rfl : Cond.fieldLink RJ0 1053 "jdk/internal/util/Preconditions" "SIOOBE_FORMATTER" "Ljava/util/function/BiFunction;" ∈ lw_g) (by decide +kernel) ?_ ?_
  · show J_ zJ0_checkIndex_df160 T (po_J0_checkIndex_df160 T a n) 0 0 5 _ [vN, vI n, vI a] T
    refine j_callS (y := yJ3_checkIndex_8e157) (Yc := zJ3_checkIndex_8e157) (rest := []) [vI a, vI n, vN] (ct_J3_checkIndex_n (T := T) (by omega)) cl_J0_1059 (qd_c (by decide +kernel)) (nn_ _) rfl (rf_of rfl) (Nat.le_of_ble_eq_true rfl) (Nat.le_of_ble_eq_true rfl) (Nat.le_of_ble_eq_true rfl) rfl ?_
    rintro _ _ ⟨rfl, rfl⟩
    show J_ zJ0_checkIndex_df160 T (po_J0_checkIndex_df160 T a n) 0 0 8 _ [vI a] T
    refine j_blx (F := fJ0) tb_J0 (nn_ _) bk_J0_checkIndex_df160_8 bs_J0_checkIndex_df160_8 hz (fun K hK => ?_)
    refine (show po_J0_checkIndex_df160 T a n T (none) from ?_)
    exact ⟨rfl, rfl⟩
  · show J_ zJ0_checkIndex_df160 T (po_J0_checkIndex_df160 T a n) 0 0 5 _ [vR 84 0, vI n, vI a] T
    refine j_callS (y := yJ3_checkIndex_8e157) (Yc := zJ3_checkIndex_8e157) (rest := []) [vI a, vI n, vR 84 0] (ct_J3_checkIndex_r (T := T) (by omega)) cl_J0_1059 (qd_c (by decide +kernel)) (nn_ _) rfl (rf_of rfl) (Nat.le_of_ble_eq_true rfl) (Nat.le_of_ble_eq_true rfl) (Nat.le_of_ble_eq_true rfl) rfl ?_
    rintro _ _ ⟨rfl, rfl⟩
    show J_ zJ0_checkIndex_df160 T (po_J0_checkIndex_df160 T a n) 0 0 8 _ [vI a] T
    refine j_blx (F := fJ0) tb_J0 (nn_ _) bk_J0_checkIndex_df160_8 bs_J0_checkIndex_df160_8 hz (fun K hK => ?_)
    refine (show po_J0_checkIndex_df160 T a n T (none) from ?_)
    exact ⟨rfl, rfl⟩
abbrev cJ0_coder_7d493 : ByteArray := prog_17_method_152_code
def yJ0_coder_7d493 : MethodName := ⟨RJ0, "coder", "()B"⟩
def zJ0_coder_7d493 : Zm := (RJ0, cJ0_coder_7d493, 1, (some .byte), { frames := 0, cells := 0, slots := 0, locals := 0 })
theorem bk_J0_coder_7d493_3 : ck_ fJ0 (some .byte) cJ0_coder_7d493 3 [.ifCond .eq 13, .aload 0] 7 = true := qck_r (nn_ _) (by decide +kernel)
theorem bs_J0_coder_7d493_3 {P : Zt → Option Zv → Prop} (K : Int → Zl → List Zv → Zt → Prop) : sx_ K P [.ifCond .eq 13, .aload 0] 7 = x_ifCond .eq 13 K (x_aload 0 (K 7)) := ((xe_ifCond .eq 13).trans (congrArg (x_ifCond .eq 13 K) ((xe_aload 0).trans (congrArg (x_aload 0) xe_nil))))
theorem bk_J0_coder_7d493_10 : ck_ fJ0 (some .byte) cJ0_coder_7d493 10 [.goto 14] 13 = true := qck_r (nn_ _) (by decide +kernel)
theorem bs_J0_coder_7d493_10 {P : Zt → Option Zv → Prop} (K : Int → Zl → List Zv → Zt → Prop) : sx_ K P [.goto 14] 13 = x_goto 14 K := (xe_goto 14)
abbrev po_J0_coder_0 (T : Zt) : Zt → Option Zv → Prop := fun T' r => T = T' ∧ r = some (vI (0))
set_option maxHeartbeats 4000000 in
theorem ct_J0_coder_0 {T : Zt} : Ct_ yJ0_coder_7d493 zJ0_coder_7d493 T [vR 82 0] (po_J0_coder_0 T) := by
  refine ct_of (by decide) rfl rfl (Nat.le_of_ble_eq_true rfl) (fun hT hav => ?_)
  have hz : zJ0_coder_7d493.2.2.2.1 = some .boolean → ∀ (T' : Zt) (x : Int), po_J0_coder_0 T T' (some (vI x)) → 0 ≤ x ∧ x ≤ 1 := fun h => by cases h
  show J_ zJ0_coder_7d493 T (po_J0_coder_0 T) 0 0 0 [some (vR 82 0)] [] T
  refine j_gsC (pc := 0) (by decide) (lwq_3 (List.mem_of_getElem? (i := 3) rfl) rfl : Cond.fieldLink RJ0 38 "java/lang/String" "COMPACT_STRINGS" "Z" ∈ lw_g) (by decide +kernel) ?_
  show J_ zJ0_coder_7d493 T (po_J0_coder_0 T) 0 0 3 _ [vI 1] T
  refine j_blx (F := fJ0) tb_J0 (nn_ _) bk_J0_coder_7d493_3 bs_J0_coder_7d493_3 hz (fun K hK => ?_)
  refine And.intro (fun c1 => ?_) (fun c1 => ?_)
  · exact absurd c1 (by decide)
  · refine hK 7 _ [vR 82 0] T ?_
    refine j_gfC (pc := 7) (i := 0) (by decide) (by decide) (lwq_10 (dqc_m (dqc_m (dqc_m (dqa_m (dqa_m (List.mem_of_getElem? (i := 7) rfl)))))) rfl : Cond.fieldLink RJ0 15 "java/lang/String" "coder" "B" ∈ lw_g) (by decide +kernel) ?_
    show J_ zJ0_coder_7d493 T (po_J0_coder_0 T) 0 0 10 _ [vI 0] T
    refine j_blx (F := fJ0) tb_J0 (nn_ _) bk_J0_coder_7d493_10 bs_J0_coder_7d493_10 hz (fun K hK => ?_)
    refine hK 14 _ [vI 0] T ?_
    refine j_iretN (pc := 14) (Or.inr rfl) ⟨by decide, by decide⟩ (by decide +kernel) ?_
    refine (show po_J0_coder_0 T T (some (vI 0)) from ?_)
    exact ⟨rfl, rfl⟩
abbrev cJ0_isLatin1_aae02 : ByteArray := prog_17_method_154_code
def yJ0_isLatin1_aae02 : MethodName := ⟨RJ0, "isLatin1", "()Z"⟩
def zJ0_isLatin1_aae02 : Zm := (RJ0, cJ0_isLatin1_aae02, 1, (some .boolean), { frames := 0, cells := 0, slots := 0, locals := 0 })
theorem bk_J0_isLatin1_aae02_3 : ck_ fJ0 (some .boolean) cJ0_isLatin1_aae02 3 [.ifCond .eq 17, .aload 0] 7 = true := qck_r (nn_ _) (by decide +kernel)
theorem bs_J0_isLatin1_aae02_3 {P : Zt → Option Zv → Prop} (K : Int → Zl → List Zv → Zt → Prop) : sx_ K P [.ifCond .eq 17, .aload 0] 7 = x_ifCond .eq 17 K (x_aload 0 (K 7)) := ((xe_ifCond .eq 17).trans (congrArg (x_ifCond .eq 17 K) ((xe_aload 0).trans (congrArg (x_aload 0) xe_nil))))
theorem bk_J0_isLatin1_aae02_10 : ck_ fJ0 (some .boolean) cJ0_isLatin1_aae02 10 [.ifCond .ne 17, .iconst 1, .goto 18] 17 = true := qck_r (nn_ _) (by decide +kernel)
theorem bs_J0_isLatin1_aae02_10 {P : Zt → Option Zv → Prop} (K : Int → Zl → List Zv → Zt → Prop) : sx_ K P [.ifCond .ne 17, .iconst 1, .goto 18] 17 = x_ifCond .ne 17 K (x_iconst 1 (x_goto 18 K)) := ((xe_ifCond .ne 17).trans (congrArg (x_ifCond .ne 17 K) ((xe_iconst 1).trans (congrArg (x_iconst 1) (xe_goto 18)))))
theorem bk_J0_isLatin1_aae02_18 : ck_ fJ0 (some .boolean) cJ0_isLatin1_aae02 18 [.ireturn] 19 = true := qck_r (nn_ _) (by decide +kernel)
theorem bs_J0_isLatin1_aae02_18 {P : Zt → Option Zv → Prop} (K : Int → Zl → List Zv → Zt → Prop) : sx_ K P [.ireturn] 19 = x_ireturn P := (xe_ireturn)
abbrev po_J0_isLatin1_0 (T : Zt) : Zt → Option Zv → Prop := fun T' r => T = T' ∧ r = some (vI (1))
set_option maxHeartbeats 4000000 in
theorem ct_J0_isLatin1_0 {T : Zt} : Ct_ yJ0_isLatin1_aae02 zJ0_isLatin1_aae02 T [vR 82 0] (po_J0_isLatin1_0 T) := by
  refine ct_of (by decide) rfl rfl (Nat.le_of_ble_eq_true rfl) (fun hT hav => ?_)
  have hz : zJ0_isLatin1_aae02.2.2.2.1 = some .boolean → ∀ (T' : Zt) (x : Int), po_J0_isLatin1_0 T T' (some (vI x)) → 0 ≤ x ∧ x ≤ 1 := fun _ T' x h => by obtain ⟨-, e⟩ := h; cases e; omega
  show J_ zJ0_isLatin1_aae02 T (po_J0_isLatin1_0 T) 0 0 0 [some (vR 82 0)] [] T
  refine j_gsC (pc := 0) (by decide) (lwq_3 (List.mem_of_getElem? (i := 3) rfl) rfl : Cond.fieldLink RJ0 38 "java/lang/String" "COMPACT_STRINGS" "Z" ∈ lw_g) (by decide +kernel) ?_
  show J_ zJ0_isLatin1_aae02 T (po_J0_isLatin1_0 T) 0 0 3 _ [vI 1] T
  refine j_blx (F := fJ0) tb_J0 (nn_ _) bk_J0_isLatin1_aae02_3 bs_J0_isLatin1_aae02_3 hz (fun K hK => ?_)
  refine And.intro (fun c1 => ?_) (fun c1 => ?_)
  · exact absurd c1 (by decide)
  · refine hK 7 _ [vR 82 0] T ?_
    refine j_gfC (pc := 7) (i := 0) (by decide) (by decide) (lwq_10 (dqc_m (dqc_m (dqc_m (dqa_m (dqa_m (List.mem_of_getElem? (i := 7) rfl)))))) rfl : Cond.fieldLink RJ0 15 "java/lang/String" "coder" "B" ∈ lw_g) (by decide +kernel) ?_
    show J_ zJ0_isLatin1_aae02 T (po_J0_isLatin1_0 T) 0 0 10 _ [vI 0] T
    refine j_blx (F := fJ0) tb_J0 (nn_ _) bk_J0_isLatin1_aae02_10 bs_J0_isLatin1_aae02_10 hz (fun K hK => ?_)
    refine And.intro (fun c2 => ?_) (fun c2 => ?_)
    · exact absurd c2 (by decide)
    · refine hK 18 _ [vI 1] T ?_
      refine j_blx (F := fJ0) tb_J0 (nn_ _) bk_J0_isLatin1_aae02_18 bs_J0_isLatin1_aae02_18 hz (fun K hK => ?_)
      refine (show po_J0_isLatin1_0 T T (some (vI 1)) from ?_)
      exact ⟨rfl, rfl⟩
abbrev cJ0_length_8abf5 : ByteArray := prog_17_method_54_code
def yJ0_length_8abf5 : MethodName := ⟨RJ0, "length", "()I"⟩
def zJ0_length_8abf5 : Zm := (RJ0, cJ0_length_8abf5, 1, (some .int), { frames := 1, cells := 0, slots := 0, locals := 20 })
theorem bk_J0_length_8abf5_0 : ck_ fJ0 (some .int) cJ0_length_8abf5 0 [.aload 0] 1 = true := qck_r (nn_ _) (by decide +kernel)
theorem bs_J0_length_8abf5_0 {P : Zt → Option Zv → Prop} (K : Int → Zl → List Zv → Zt → Prop) : sx_ K P [.aload 0] 1 = x_aload 0 (K 1) := ((xe_aload 0).trans (congrArg (x_aload 0) xe_nil))
theorem bk_J0_length_8abf5_5 : ck_ fJ0 (some .int) cJ0_length_8abf5 5 [.aload 0] 6 = true := qck_r (nn_ _) (by decide +kernel)
theorem bs_J0_length_8abf5_5 {P : Zt → Option Zv → Prop} (K : Int → Zl → List Zv → Zt → Prop) : sx_ K P [.aload 0] 6 = x_aload 0 (K 6) := ((xe_aload 0).trans (congrArg (x_aload 0) xe_nil))
set_option maxRecDepth 100000 in
theorem ck82_J0_335 : ck82_ RJ0 335 yJ0_coder_7d493 zJ0_coder_7d493 0 := ⟨gi_V (lwq_2 (dqc_m (dqc_m (dqc_m (dqc_m (dqc_m (dqc_m (dqc_m (dqa_m (List.mem_of_getElem? (i := 7) rfl))))))))) rfl : Cond.methodLink RJ0 335 yJ0_coder_7d493 ∈ lw_g) (lwq_3 (List.mem_of_getElem? (i := 0) rfl) rfl : Cond.instanceMethod yJ0_coder_7d493 ∈ lw_g) (lwq_3 (List.mem_of_getElem? (i := 1) rfl) rfl : Cond.selects yJ0_coder_7d493.cls yJ0_coder_7d493 yJ0_coder_7d493 ∈ lw_g) (lwq_1 (dqa_m (List.mem_of_getElem? (i := 3) rfl)) rfl : Cond.initialized yJ0_coder_7d493.cls ∈ lw_g) (lwq_3 (List.mem_of_getElem? (i := 2) rfl) rfl : Cond.code yJ0_coder_7d493 cJ0_coder_7d493 1 (some .byte) ∈ lw_g), ⟨by decide, by decide, by decide +kernel⟩, rfl⟩
theorem bk_J0_length_8abf5_9 : ck_ fJ0 (some .int) cJ0_length_8abf5 9 [.ishr, .ireturn] 11 = true := qck_r (nn_ _) (by decide +kernel)
theorem bs_J0_length_8abf5_9 {P : Zt → Option Zv → Prop} (K : Int → Zl → List Zv → Zt → Prop) : sx_ K P [.ishr, .ireturn] 11 = x_ishr (x_ireturn P) := ((xe_ishr).trans (congrArg (x_ishr) (xe_ireturn)))
abbrev po_J0_length_0 (T : Zt) : Zt → Option Zv → Prop := fun T' r => T = T' ∧ r = some (vI (82))
set_option maxHeartbeats 4000000 in
theorem ct_J0_length_0 {T : Zt} : Ct_ yJ0_length_8abf5 zJ0_length_8abf5 T [vR 82 0] (po_J0_length_0 T) := by
  refine ct_of (by decide) rfl rfl (Nat.le_of_ble_eq_true rfl) (fun hT hav => ?_)
  have hz : zJ0_length_8abf5.2.2.2.1 = some .boolean → ∀ (T' : Zt) (x : Int), po_J0_length_0 T T' (some (vI x)) → 0 ≤ x ∧ x ≤ 1 := fun h => by cases h
  show J_ zJ0_length_8abf5 T (po_J0_length_0 T) 0 0 0 [some (vR 82 0)] [] T
  refine j_blx (F := fJ0) tb_J0 (nn_ _) bk_J0_length_8abf5_0 bs_J0_length_8abf5_0 hz (fun K hK => ?_)
  refine hK 1 _ [vR 82 0] T ?_
  refine j_gfV (pc := 1) (i := 0) (by decide) (by decide) (lwq_10 (dqc_m (dqc_m (dqc_m (dqa_m (dqa_m (List.mem_of_getElem? (i := 6) rfl)))))) rfl : Cond.fieldLink RJ0 9 "java/lang/String" "value" "[B" ∈ lw_g) (by decide +kernel) ?_
  show J_ zJ0_length_8abf5 T (po_J0_length_0 T) 0 0 4 _ [vR 83 0] T
  refine j_len83 (pc := 4) (i := 0) (n := 82) (by decide) (by decide) (by decide) (by decide) (by decide +kernel) ?_
  show J_ zJ0_length_8abf5 T (po_J0_length_0 T) 0 0 5 _ [vI 82] T
  refine j_blx (F := fJ0) tb_J0 (nn_ _) bk_J0_length_8abf5_5 bs_J0_length_8abf5_5 hz (fun K hK => ?_)
  refine hK 6 _ [vR 82 0, vI 82] T ?_
  refine j_callK (i := 0) (y := yJ0_coder_7d493) (Yc := zJ0_coder_7d493) (rest := [vI 82]) [] (by decide) (ct_J0_coder_0 (T := T)) ck82_J0_335 (by decide +kernel) (by decide) rfl (by decide +kernel) (Nat.le_of_ble_eq_true rfl) (by decide) (by decide) rfl ?_
  rintro _ _ ⟨rfl, rfl⟩
  show J_ zJ0_length_8abf5 T (po_J0_length_0 T) 0 0 9 _ [vI 0, vI 82] T
  refine j_blx (F := fJ0) tb_J0 (nn_ _) bk_J0_length_8abf5_9 bs_J0_length_8abf5_9 hz (fun K hK => ?_)
  intro w1 w1b
  refine (show po_J0_length_0 T T (some (vI (sr_ 82 0))) from ?_)
  exact ⟨rfl, by rw [show sr_ 82 0 = 82 by decide]⟩
abbrev cJ1_charAt_3b067 : ByteArray := prog_18_method_2_code
def yJ1_charAt_3b067 : MethodName := ⟨RJ1, "charAt", "([BI)C"⟩
def zJ1_charAt_3b067 : Zm := (RJ1, cJ1_charAt_3b067, 2, (some .char), { frames := 2, cells := 0, slots := 0, locals := 43 })
theorem bk_J1_charAt_3b067_0 : ck_ fJ1 (some .char) cJ1_charAt_3b067 0 [.iload 1, .aload 0] 2 = true := qck_r (nn_ _) (by decide +kernel)
theorem bs_J1_charAt_3b067_0 {P : Zt → Option Zv → Prop} (K : Int → Zl → List Zv → Zt → Prop) : sx_ K P [.iload 1, .aload 0] 2 = x_iload 1 (x_aload 0 (K 2)) := ((xe_iload 1).trans (congrArg (x_iload 1) ((xe_aload 0).trans (congrArg (x_aload 0) xe_nil))))
set_option maxRecDepth 100000 in
theorem cl_J1_9 : cs_ RJ1 9 yJ0_checkIndex_df160 zJ0_checkIndex_df160 2 := ⟨gi_S (lwq_3 (dqa_m (dqa_m (List.mem_of_getElem? (i := 0) rfl))) rfl : Cond.methodLink RJ1 9 yJ0_checkIndex_df160 ∈ lw_g) (lwq_3 (dqa_m (dqa_m (List.mem_of_getElem? (i := 1) rfl))) rfl : Cond.static yJ0_checkIndex_df160 ∈ lw_g) (lwq_1 (dqa_m (List.mem_of_getElem? (i := 3) rfl)) rfl : Cond.initialized yJ0_checkIndex_df160.cls ∈ lw_g) (lwq_3 (dqa_m (dqa_m (List.mem_of_getElem? (i := 2) rfl))) rfl : Cond.code yJ0_checkIndex_df160 cJ0_checkIndex_df160 2 none ∈ lw_g), ⟨by decide, by decide, by decide +kernel⟩⟩
theorem bk_J1_charAt_3b067_6 : ck_ fJ1 (some .char) cJ1_charAt_3b067 6 [.aload 0, .iload 1] 8 = true := qck_r (nn_ _) (by decide +kernel)
theorem bs_J1_charAt_3b067_6 {P : Zt → Option Zv → Prop} (K : Int → Zl → List Zv → Zt → Prop) : sx_ K P [.aload 0, .iload 1] 8 = x_aload 0 (x_iload 1 (K 8)) := ((xe_aload 0).trans (congrArg (x_aload 0) ((xe_iload 1).trans (congrArg (x_iload 1) xe_nil))))
theorem bk_J1_charAt_3b067_9 : ck_ fJ1 (some .char) cJ1_charAt_3b067 9 [.iconst 255, .iand] 13 = true := qck_r (nn_ _) (by decide +kernel)
theorem bs_J1_charAt_3b067_9 {P : Zt → Option Zv → Prop} (K : Int → Zl → List Zv → Zt → Prop) : sx_ K P [.iconst 255, .iand] 13 = x_iconst 255 (x_iand (K 13)) := ((xe_iconst 255).trans (congrArg (x_iconst 255) ((xe_iand).trans (congrArg (x_iand) xe_nil))))
abbrev po_J1_charAt_0 (T : Zt) (a : Int) : Zt → Option Zv → Prop := fun T' r => T = T' ∧ r = some (vI (cb8_ 0 a))
set_option maxHeartbeats 4000000 in
theorem ct_J1_charAt_0 {T : Zt} {a : Int} (h1 : 0 ≤ a ∧ a < 82) : Ct_ yJ1_charAt_3b067 zJ1_charAt_3b067 T [vR 83 0, vI a] (po_J1_charAt_0 T a) := by
  refine ct_of (by decide) rfl rfl (Nat.le_of_ble_eq_true rfl) (fun hT hav => ?_)
  have hr_a : -2147483648 ≤ a ∧ a ≤ 2147483647 := hav (vI a) (List.mem_cons_of_mem _ List.mem_cons_self)
  have hz : zJ1_charAt_3b067.2.2.2.1 = some .boolean → ∀ (T' : Zt) (x : Int), po_J1_charAt_0 T a T' (some (vI x)) → 0 ≤ x ∧ x ≤ 1 := fun h => by cases h
  show J_ zJ1_charAt_3b067 T (po_J1_charAt_0 T a) 0 0 0 [some (vR 83 0), some (vI a)] [] T
  refine j_blx (F := fJ1) tb_J1 (nn_ _) bk_J1_charAt_3b067_0 bs_J1_charAt_3b067_0 hz (fun K hK => ?_)
  refine hK 2 _ [vR 83 0, vI a] T ?_
  refine j_len83 (pc := 2) (i := 0) (n := 82) (by decide) (by decide) (by decide) (by decide) (by decide +kernel) ?_
  show J_ zJ1_charAt_3b067 T (po_J1_charAt_0 T a) 0 0 3 _ [vI 82, vI a] T
  refine j_callS (y := yJ0_checkIndex_df160) (Yc := zJ0_checkIndex_df160) (rest := []) [vI a, vI 82] (ct_J0_checkIndex_df160 (T := T) (by omega)) cl_J1_9 (qd_c (by decide +kernel)) (nn_ _) rfl (rf_of rfl) (Nat.le_of_ble_eq_true rfl) (Nat.le_of_ble_eq_true rfl) (Nat.le_of_ble_eq_true rfl) rfl ?_
  rintro _ _ ⟨rfl, rfl⟩
  show J_ zJ1_charAt_3b067 T (po_J1_charAt_0 T a) 0 0 6 _ [] T
  refine j_blx (F := fJ1) tb_J1 (nn_ _) bk_J1_charAt_3b067_6 bs_J1_charAt_3b067_6 hz (fun K hK => ?_)
  refine hK 8 _ [vI a, vR 83 0] T ?_
  refine j_ba83 (pc := 8) (i := 0) (n := 82) (by decide) (by decide) (by decide) (by omega) (by omega) (by decide) (fun k _ => ⟨i3_b _, bv_k (by decide) k⟩) (by decide +kernel) ?_
  have hcb := cb8_b (i := 0) (by decide) a
  show J_ zJ1_charAt_3b067 T (po_J1_charAt_0 T a) 0 0 9 _ [vI (cb8_ 0 a)] T
  refine j_blx (F := fJ1) tb_J1 (nn_ _) bk_J1_charAt_3b067_9 bs_J1_charAt_3b067_9 hz (fun K hK => ?_)
  intro w1 w1b
  refine hK 13 _ [vI (an_ (cb8_ 0 a) 255)] T ?_
  rw [an_25 hcb]
  refine j_i2c (pc := 13) (by decide) hcb (by decide +kernel) ?_
  show J_ zJ1_charAt_3b067 T (po_J1_charAt_0 T a) 0 0 14 _ [vI (cb8_ 0 a)] T
  refine j_iretN (pc := 14) (Or.inl rfl) hcb (by decide +kernel) ?_
  refine (show po_J1_charAt_0 T a T (some (vI (cb8_ 0 a))) from ?_)
  exact ⟨rfl, rfl⟩
abbrev cJ0_charAt_5068e : ByteArray := prog_17_method_56_code
def yJ0_charAt_5068e : MethodName := ⟨RJ0, "charAt", "(I)C"⟩
def zJ0_charAt_5068e : Zm := (RJ0, cJ0_charAt_5068e, 2, (some .char), { frames := 3, cells := 0, slots := 0, locals := 64 })
theorem bk_J0_charAt_5068e_0 : ck_ fJ0 (some .char) cJ0_charAt_5068e 0 [.aload 0] 1 = true := qck_r (nn_ _) (by decide +kernel)
theorem bs_J0_charAt_5068e_0 {P : Zt → Option Zv → Prop} (K : Int → Zl → List Zv → Zt → Prop) : sx_ K P [.aload 0] 1 = x_aload 0 (K 1) := ((xe_aload 0).trans (congrArg (x_aload 0) xe_nil))
set_option maxRecDepth 100000 in
theorem ck82_J0_492 : ck82_ RJ0 492 yJ0_isLatin1_aae02 zJ0_isLatin1_aae02 0 := ⟨gi_V (lwq_3 (dqa_m (List.mem_of_getElem? (i := 1) rfl)) rfl : Cond.methodLink RJ0 492 yJ0_isLatin1_aae02 ∈ lw_g) (lwq_3 (dqa_m (List.mem_of_getElem? (i := 2) rfl)) rfl : Cond.instanceMethod yJ0_isLatin1_aae02 ∈ lw_g) (lwq_3 (dqa_m (List.mem_of_getElem? (i := 3) rfl)) rfl : Cond.selects yJ0_isLatin1_aae02.cls yJ0_isLatin1_aae02 yJ0_isLatin1_aae02 ∈ lw_g) (lwq_1 (dqa_m (List.mem_of_getElem? (i := 3) rfl)) rfl : Cond.initialized yJ0_isLatin1_aae02.cls ∈ lw_g) (lwq_3 (dqa_m (List.mem_of_getElem? (i := 4) rfl)) rfl : Cond.code yJ0_isLatin1_aae02 cJ0_isLatin1_aae02 1 (some .boolean) ∈ lw_g), ⟨by decide, by decide, by decide +kernel⟩, rfl⟩
theorem bk_J0_charAt_5068e_4 : ck_ fJ0 (some .char) cJ0_charAt_5068e 4 [.ifCond .eq 16, .aload 0] 8 = true := qck_r (nn_ _) (by decide +kernel)
theorem bs_J0_charAt_5068e_4 {P : Zt → Option Zv → Prop} (K : Int → Zl → List Zv → Zt → Prop) : sx_ K P [.ifCond .eq 16, .aload 0] 8 = x_ifCond .eq 16 K (x_aload 0 (K 8)) := ((xe_ifCond .eq 16).trans (congrArg (x_ifCond .eq 16 K) ((xe_aload 0).trans (congrArg (x_aload 0) xe_nil))))
theorem bk_J0_charAt_5068e_11 : ck_ fJ0 (some .char) cJ0_charAt_5068e 11 [.iload 1] 12 = true := qck_r (nn_ _) (by decide +kernel)
theorem bs_J0_charAt_5068e_11 {P : Zt → Option Zv → Prop} (K : Int → Zl → List Zv → Zt → Prop) : sx_ K P [.iload 1] 12 = x_iload 1 (K 12) := ((xe_iload 1).trans (congrArg (x_iload 1) xe_nil))
set_option maxRecDepth 100000 in
theorem cl_J0_495 : cs_ RJ0 495 yJ1_charAt_3b067 zJ1_charAt_3b067 2 := ⟨gi_S (lwq_3 (dqa_m (List.mem_of_getElem? (i := 5) rfl)) rfl : Cond.methodLink RJ0 495 yJ1_charAt_3b067 ∈ lw_g) (lwq_3 (dqa_m (List.mem_of_getElem? (i := 6) rfl)) rfl : Cond.static yJ1_charAt_3b067 ∈ lw_g) (lwq_1 (dqa_m (List.mem_of_getElem? (i := 4) rfl)) rfl : Cond.initialized yJ1_charAt_3b067.cls ∈ lw_g) (lwq_3 (dqa_m (List.mem_of_getElem? (i := 7) rfl)) rfl : Cond.code yJ1_charAt_3b067 cJ1_charAt_3b067 2 (some .char) ∈ lw_g), ⟨by decide, by decide, by decide +kernel⟩⟩
abbrev po_J0_charAt_0 (T : Zt) (a : Int) : Zt → Option Zv → Prop := fun T' r => T = T' ∧ r = some (vI (cb8_ 0 a))
set_option maxHeartbeats 4000000 in
theorem ct_J0_charAt_0 {T : Zt} {a : Int} (h1 : 0 ≤ a ∧ a < 82) : Ct_ yJ0_charAt_5068e zJ0_charAt_5068e T [vR 82 0, vI a] (po_J0_charAt_0 T a) := by
  refine ct_of (by decide) rfl rfl (Nat.le_of_ble_eq_true rfl) (fun hT hav => ?_)
  have hr_a : -2147483648 ≤ a ∧ a ≤ 2147483647 := hav (vI a) (List.mem_cons_of_mem _ List.mem_cons_self)
  have hz : zJ0_charAt_5068e.2.2.2.1 = some .boolean → ∀ (T' : Zt) (x : Int), po_J0_charAt_0 T a T' (some (vI x)) → 0 ≤ x ∧ x ≤ 1 := fun h => by cases h
  show J_ zJ0_charAt_5068e T (po_J0_charAt_0 T a) 0 0 0 [some (vR 82 0), some (vI a)] [] T
  refine j_blx (F := fJ0) tb_J0 (nn_ _) bk_J0_charAt_5068e_0 bs_J0_charAt_5068e_0 hz (fun K hK => ?_)
  refine hK 1 _ [vR 82 0] T ?_
  refine j_callK (i := 0) (y := yJ0_isLatin1_aae02) (Yc := zJ0_isLatin1_aae02) (rest := []) [] (by decide) (ct_J0_isLatin1_0 (T := T)) ck82_J0_492 (by decide +kernel) (by decide) rfl (by decide +kernel) (Nat.le_of_ble_eq_true rfl) (by decide) (by decide) rfl ?_
  rintro _ _ ⟨rfl, rfl⟩
  show J_ zJ0_charAt_5068e T (po_J0_charAt_0 T a) 0 0 4 _ [vI 1] T
  refine j_blx (F := fJ0) tb_J0 (nn_ _) bk_J0_charAt_5068e_4 bs_J0_charAt_5068e_4 hz (fun K hK => ?_)
  refine And.intro (fun c1 => ?_) (fun c1 => ?_)
  · exact absurd c1 (by decide)
  · refine hK 8 _ [vR 82 0] T ?_
    refine j_gfV (pc := 8) (i := 0) (by decide) (by decide) (lwq_10 (dqc_m (dqc_m (dqc_m (dqa_m (dqa_m (List.mem_of_getElem? (i := 6) rfl)))))) rfl : Cond.fieldLink RJ0 9 "java/lang/String" "value" "[B" ∈ lw_g) (by decide +kernel) ?_
    show J_ zJ0_charAt_5068e T (po_J0_charAt_0 T a) 0 0 11 _ [vR 83 0] T
    refine j_blx (F := fJ0) tb_J0 (nn_ _) bk_J0_charAt_5068e_11 bs_J0_charAt_5068e_11 hz (fun K hK => ?_)
    refine hK 12 _ [vI a, vR 83 0] T ?_
    refine j_callS (y := yJ1_charAt_3b067) (Yc := zJ1_charAt_3b067) (rest := []) [vR 83 0, vI a] (ct_J1_charAt_0 (T := T) (by omega)) cl_J0_495 (qd_c (by decide +kernel)) (nn_ _) rfl (rf_of rfl) (Nat.le_of_ble_eq_true rfl) (Nat.le_of_ble_eq_true rfl) (Nat.le_of_ble_eq_true rfl) rfl ?_
    rintro _ _ ⟨rfl, rfl⟩
    show J_ zJ0_charAt_5068e T (po_J0_charAt_0 T a) 0 0 15 _ [vI (cb8_ 0 a)] T
    refine j_iretN (pc := 15) (Or.inl rfl) (cb8_b (by decide) a) (by decide +kernel) ?_
    refine (show po_J0_charAt_0 T a T (some (vI (cb8_ 0 a))) from ?_)
    exact ⟨rfl, rfl⟩
abbrev po_J0_coder_1 (T : Zt) : Zt → Option Zv → Prop := fun T' r => T = T' ∧ r = some (vI (0))
set_option maxHeartbeats 4000000 in
theorem ct_J0_coder_1 {T : Zt} : Ct_ yJ0_coder_7d493 zJ0_coder_7d493 T [vR 82 1] (po_J0_coder_1 T) := by
  refine ct_of (by decide) rfl rfl (Nat.le_of_ble_eq_true rfl) (fun hT hav => ?_)
  have hz : zJ0_coder_7d493.2.2.2.1 = some .boolean → ∀ (T' : Zt) (x : Int), po_J0_coder_1 T T' (some (vI x)) → 0 ≤ x ∧ x ≤ 1 := fun h => by cases h
  show J_ zJ0_coder_7d493 T (po_J0_coder_1 T) 0 0 0 [some (vR 82 1)] [] T
  refine j_gsC (pc := 0) (by decide) (lwq_3 (List.mem_of_getElem? (i := 3) rfl) rfl : Cond.fieldLink RJ0 38 "java/lang/String" "COMPACT_STRINGS" "Z" ∈ lw_g) (by decide +kernel) ?_
  show J_ zJ0_coder_7d493 T (po_J0_coder_1 T) 0 0 3 _ [vI 1] T
  refine j_blx (F := fJ0) tb_J0 (nn_ _) bk_J0_coder_7d493_3 bs_J0_coder_7d493_3 hz (fun K hK => ?_)
  refine And.intro (fun c1 => ?_) (fun c1 => ?_)
  · exact absurd c1 (by decide)
  · refine hK 7 _ [vR 82 1] T ?_
    refine j_gfC (pc := 7) (i := 1) (by decide) (by decide) (lwq_10 (dqc_m (dqc_m (dqc_m (dqa_m (dqa_m (List.mem_of_getElem? (i := 7) rfl)))))) rfl : Cond.fieldLink RJ0 15 "java/lang/String" "coder" "B" ∈ lw_g) (by decide +kernel) ?_
    show J_ zJ0_coder_7d493 T (po_J0_coder_1 T) 0 0 10 _ [vI 0] T
    refine j_blx (F := fJ0) tb_J0 (nn_ _) bk_J0_coder_7d493_10 bs_J0_coder_7d493_10 hz (fun K hK => ?_)
    refine hK 14 _ [vI 0] T ?_
    refine j_iretN (pc := 14) (Or.inr rfl) ⟨by decide, by decide⟩ (by decide +kernel) ?_
    refine (show po_J0_coder_1 T T (some (vI 0)) from ?_)
    exact ⟨rfl, rfl⟩
abbrev po_J0_isLatin1_1 (T : Zt) : Zt → Option Zv → Prop := fun T' r => T = T' ∧ r = some (vI (1))
set_option maxHeartbeats 4000000 in
theorem ct_J0_isLatin1_1 {T : Zt} : Ct_ yJ0_isLatin1_aae02 zJ0_isLatin1_aae02 T [vR 82 1] (po_J0_isLatin1_1 T) := by
  refine ct_of (by decide) rfl rfl (Nat.le_of_ble_eq_true rfl) (fun hT hav => ?_)
  have hz : zJ0_isLatin1_aae02.2.2.2.1 = some .boolean → ∀ (T' : Zt) (x : Int), po_J0_isLatin1_1 T T' (some (vI x)) → 0 ≤ x ∧ x ≤ 1 := fun _ T' x h => by obtain ⟨-, e⟩ := h; cases e; omega
  show J_ zJ0_isLatin1_aae02 T (po_J0_isLatin1_1 T) 0 0 0 [some (vR 82 1)] [] T
  refine j_gsC (pc := 0) (by decide) (lwq_3 (List.mem_of_getElem? (i := 3) rfl) rfl : Cond.fieldLink RJ0 38 "java/lang/String" "COMPACT_STRINGS" "Z" ∈ lw_g) (by decide +kernel) ?_
  show J_ zJ0_isLatin1_aae02 T (po_J0_isLatin1_1 T) 0 0 3 _ [vI 1] T
  refine j_blx (F := fJ0) tb_J0 (nn_ _) bk_J0_isLatin1_aae02_3 bs_J0_isLatin1_aae02_3 hz (fun K hK => ?_)
  refine And.intro (fun c1 => ?_) (fun c1 => ?_)
  · exact absurd c1 (by decide)
  · refine hK 7 _ [vR 82 1] T ?_
    refine j_gfC (pc := 7) (i := 1) (by decide) (by decide) (lwq_10 (dqc_m (dqc_m (dqc_m (dqa_m (dqa_m (List.mem_of_getElem? (i := 7) rfl)))))) rfl : Cond.fieldLink RJ0 15 "java/lang/String" "coder" "B" ∈ lw_g) (by decide +kernel) ?_
    show J_ zJ0_isLatin1_aae02 T (po_J0_isLatin1_1 T) 0 0 10 _ [vI 0] T
    refine j_blx (F := fJ0) tb_J0 (nn_ _) bk_J0_isLatin1_aae02_10 bs_J0_isLatin1_aae02_10 hz (fun K hK => ?_)
    refine And.intro (fun c2 => ?_) (fun c2 => ?_)
    · exact absurd c2 (by decide)
    · refine hK 18 _ [vI 1] T ?_
      refine j_blx (F := fJ0) tb_J0 (nn_ _) bk_J0_isLatin1_aae02_18 bs_J0_isLatin1_aae02_18 hz (fun K hK => ?_)
      refine (show po_J0_isLatin1_1 T T (some (vI 1)) from ?_)
      exact ⟨rfl, rfl⟩
abbrev po_J0_length_1 (T : Zt) : Zt → Option Zv → Prop := fun T' r => T = T' ∧ r = some (vI (36))
set_option maxHeartbeats 4000000 in
theorem ct_J0_length_1 {T : Zt} : Ct_ yJ0_length_8abf5 zJ0_length_8abf5 T [vR 82 1] (po_J0_length_1 T) := by
  refine ct_of (by decide) rfl rfl (Nat.le_of_ble_eq_true rfl) (fun hT hav => ?_)
  have hz : zJ0_length_8abf5.2.2.2.1 = some .boolean → ∀ (T' : Zt) (x : Int), po_J0_length_1 T T' (some (vI x)) → 0 ≤ x ∧ x ≤ 1 := fun h => by cases h
  show J_ zJ0_length_8abf5 T (po_J0_length_1 T) 0 0 0 [some (vR 82 1)] [] T
  refine j_blx (F := fJ0) tb_J0 (nn_ _) bk_J0_length_8abf5_0 bs_J0_length_8abf5_0 hz (fun K hK => ?_)
  refine hK 1 _ [vR 82 1] T ?_
  refine j_gfV (pc := 1) (i := 1) (by decide) (by decide) (lwq_10 (dqc_m (dqc_m (dqc_m (dqa_m (dqa_m (List.mem_of_getElem? (i := 6) rfl)))))) rfl : Cond.fieldLink RJ0 9 "java/lang/String" "value" "[B" ∈ lw_g) (by decide +kernel) ?_
  show J_ zJ0_length_8abf5 T (po_J0_length_1 T) 0 0 4 _ [vR 83 1] T
  refine j_len83 (pc := 4) (i := 1) (n := 36) (by decide) (by decide) (by decide) (by decide) (by decide +kernel) ?_
  show J_ zJ0_length_8abf5 T (po_J0_length_1 T) 0 0 5 _ [vI 36] T
  refine j_blx (F := fJ0) tb_J0 (nn_ _) bk_J0_length_8abf5_5 bs_J0_length_8abf5_5 hz (fun K hK => ?_)
  refine hK 6 _ [vR 82 1, vI 36] T ?_
  refine j_callK (i := 1) (y := yJ0_coder_7d493) (Yc := zJ0_coder_7d493) (rest := [vI 36]) [] (by decide) (ct_J0_coder_1 (T := T)) ck82_J0_335 (by decide +kernel) (by decide) rfl (by decide +kernel) (Nat.le_of_ble_eq_true rfl) (by decide) (by decide) rfl ?_
  rintro _ _ ⟨rfl, rfl⟩
  show J_ zJ0_length_8abf5 T (po_J0_length_1 T) 0 0 9 _ [vI 0, vI 36] T
  refine j_blx (F := fJ0) tb_J0 (nn_ _) bk_J0_length_8abf5_9 bs_J0_length_8abf5_9 hz (fun K hK => ?_)
  intro w1 w1b
  refine (show po_J0_length_1 T T (some (vI (sr_ 36 0))) from ?_)
  exact ⟨rfl, by rw [show sr_ 36 0 = 36 by decide]⟩
abbrev po_J1_charAt_1 (T : Zt) (a : Int) : Zt → Option Zv → Prop := fun T' r => T = T' ∧ r = some (vI (cb8_ 1 a))
set_option maxHeartbeats 4000000 in
theorem ct_J1_charAt_1 {T : Zt} {a : Int} (h1 : 0 ≤ a ∧ a < 36) : Ct_ yJ1_charAt_3b067 zJ1_charAt_3b067 T [vR 83 1, vI a] (po_J1_charAt_1 T a) := by
  refine ct_of (by decide) rfl rfl (Nat.le_of_ble_eq_true rfl) (fun hT hav => ?_)
  have hr_a : -2147483648 ≤ a ∧ a ≤ 2147483647 := hav (vI a) (List.mem_cons_of_mem _ List.mem_cons_self)
  have hz : zJ1_charAt_3b067.2.2.2.1 = some .boolean → ∀ (T' : Zt) (x : Int), po_J1_charAt_1 T a T' (some (vI x)) → 0 ≤ x ∧ x ≤ 1 := fun h => by cases h
  show J_ zJ1_charAt_3b067 T (po_J1_charAt_1 T a) 0 0 0 [some (vR 83 1), some (vI a)] [] T
  refine j_blx (F := fJ1) tb_J1 (nn_ _) bk_J1_charAt_3b067_0 bs_J1_charAt_3b067_0 hz (fun K hK => ?_)
  refine hK 2 _ [vR 83 1, vI a] T ?_
  refine j_len83 (pc := 2) (i := 1) (n := 36) (by decide) (by decide) (by decide) (by decide) (by decide +kernel) ?_
  show J_ zJ1_charAt_3b067 T (po_J1_charAt_1 T a) 0 0 3 _ [vI 36, vI a] T
  refine j_callS (y := yJ0_checkIndex_df160) (Yc := zJ0_checkIndex_df160) (rest := []) [vI a, vI 36] (ct_J0_checkIndex_df160 (T := T) (by omega)) cl_J1_9 (qd_c (by decide +kernel)) (nn_ _) rfl (rf_of rfl) (Nat.le_of_ble_eq_true rfl) (Nat.le_of_ble_eq_true rfl) (Nat.le_of_ble_eq_true rfl) rfl ?_
  rintro _ _ ⟨rfl, rfl⟩
  show J_ zJ1_charAt_3b067 T (po_J1_charAt_1 T a) 0 0 6 _ [] T
  refine j_blx (F := fJ1) tb_J1 (nn_ _) bk_J1_charAt_3b067_6 bs_J1_charAt_3b067_6 hz (fun K hK => ?_)
  refine hK 8 _ [vI a, vR 83 1] T ?_
  refine j_ba83 (pc := 8) (i := 1) (n := 36) (by decide) (by decide) (by decide) (by omega) (by omega) (by decide) (fun k _ => ⟨i3_b _, bv_k (by decide) k⟩) (by decide +kernel) ?_
  have hcb := cb8_b (i := 1) (by decide) a
  show J_ zJ1_charAt_3b067 T (po_J1_charAt_1 T a) 0 0 9 _ [vI (cb8_ 1 a)] T
  refine j_blx (F := fJ1) tb_J1 (nn_ _) bk_J1_charAt_3b067_9 bs_J1_charAt_3b067_9 hz (fun K hK => ?_)
  intro w1 w1b
  refine hK 13 _ [vI (an_ (cb8_ 1 a) 255)] T ?_
  rw [an_25 hcb]
  refine j_i2c (pc := 13) (by decide) hcb (by decide +kernel) ?_
  show J_ zJ1_charAt_3b067 T (po_J1_charAt_1 T a) 0 0 14 _ [vI (cb8_ 1 a)] T
  refine j_iretN (pc := 14) (Or.inl rfl) hcb (by decide +kernel) ?_
  refine (show po_J1_charAt_1 T a T (some (vI (cb8_ 1 a))) from ?_)
  exact ⟨rfl, rfl⟩
abbrev po_J0_charAt_1 (T : Zt) (a : Int) : Zt → Option Zv → Prop := fun T' r => T = T' ∧ r = some (vI (cb8_ 1 a))
set_option maxHeartbeats 4000000 in
theorem ct_J0_charAt_1 {T : Zt} {a : Int} (h1 : 0 ≤ a ∧ a < 36) : Ct_ yJ0_charAt_5068e zJ0_charAt_5068e T [vR 82 1, vI a] (po_J0_charAt_1 T a) := by
  refine ct_of (by decide) rfl rfl (Nat.le_of_ble_eq_true rfl) (fun hT hav => ?_)
  have hr_a : -2147483648 ≤ a ∧ a ≤ 2147483647 := hav (vI a) (List.mem_cons_of_mem _ List.mem_cons_self)
  have hz : zJ0_charAt_5068e.2.2.2.1 = some .boolean → ∀ (T' : Zt) (x : Int), po_J0_charAt_1 T a T' (some (vI x)) → 0 ≤ x ∧ x ≤ 1 := fun h => by cases h
  show J_ zJ0_charAt_5068e T (po_J0_charAt_1 T a) 0 0 0 [some (vR 82 1), some (vI a)] [] T
  refine j_blx (F := fJ0) tb_J0 (nn_ _) bk_J0_charAt_5068e_0 bs_J0_charAt_5068e_0 hz (fun K hK => ?_)
  refine hK 1 _ [vR 82 1] T ?_
  refine j_callK (i := 1) (y := yJ0_isLatin1_aae02) (Yc := zJ0_isLatin1_aae02) (rest := []) [] (by decide) (ct_J0_isLatin1_1 (T := T)) ck82_J0_492 (by decide +kernel) (by decide) rfl (by decide +kernel) (Nat.le_of_ble_eq_true rfl) (by decide) (by decide) rfl ?_
  rintro _ _ ⟨rfl, rfl⟩
  show J_ zJ0_charAt_5068e T (po_J0_charAt_1 T a) 0 0 4 _ [vI 1] T
  refine j_blx (F := fJ0) tb_J0 (nn_ _) bk_J0_charAt_5068e_4 bs_J0_charAt_5068e_4 hz (fun K hK => ?_)
  refine And.intro (fun c1 => ?_) (fun c1 => ?_)
  · exact absurd c1 (by decide)
  · refine hK 8 _ [vR 82 1] T ?_
    refine j_gfV (pc := 8) (i := 1) (by decide) (by decide) (lwq_10 (dqc_m (dqc_m (dqc_m (dqa_m (dqa_m (List.mem_of_getElem? (i := 6) rfl)))))) rfl : Cond.fieldLink RJ0 9 "java/lang/String" "value" "[B" ∈ lw_g) (by decide +kernel) ?_
    show J_ zJ0_charAt_5068e T (po_J0_charAt_1 T a) 0 0 11 _ [vR 83 1] T
    refine j_blx (F := fJ0) tb_J0 (nn_ _) bk_J0_charAt_5068e_11 bs_J0_charAt_5068e_11 hz (fun K hK => ?_)
    refine hK 12 _ [vI a, vR 83 1] T ?_
    refine j_callS (y := yJ1_charAt_3b067) (Yc := zJ1_charAt_3b067) (rest := []) [vR 83 1, vI a] (ct_J1_charAt_1 (T := T) (by omega)) cl_J0_495 (qd_c (by decide +kernel)) (nn_ _) rfl (rf_of rfl) (Nat.le_of_ble_eq_true rfl) (Nat.le_of_ble_eq_true rfl) (Nat.le_of_ble_eq_true rfl) rfl ?_
    rintro _ _ ⟨rfl, rfl⟩
    show J_ zJ0_charAt_5068e T (po_J0_charAt_1 T a) 0 0 15 _ [vI (cb8_ 1 a)] T
    refine j_iretN (pc := 15) (Or.inl rfl) (cb8_b (by decide) a) (by decide +kernel) ?_
    refine (show po_J0_charAt_1 T a T (some (vI (cb8_ 1 a))) from ?_)
    exact ⟨rfl, rfl⟩
abbrev po_J0_coder_2 (T : Zt) : Zt → Option Zv → Prop := fun T' r => T = T' ∧ r = some (vI (0))
set_option maxHeartbeats 4000000 in
theorem ct_J0_coder_2 {T : Zt} : Ct_ yJ0_coder_7d493 zJ0_coder_7d493 T [vR 82 2] (po_J0_coder_2 T) := by
  refine ct_of (by decide) rfl rfl (Nat.le_of_ble_eq_true rfl) (fun hT hav => ?_)
  have hz : zJ0_coder_7d493.2.2.2.1 = some .boolean → ∀ (T' : Zt) (x : Int), po_J0_coder_2 T T' (some (vI x)) → 0 ≤ x ∧ x ≤ 1 := fun h => by cases h
  show J_ zJ0_coder_7d493 T (po_J0_coder_2 T) 0 0 0 [some (vR 82 2)] [] T
  refine j_gsC (pc := 0) (by decide) (lwq_3 (List.mem_of_getElem? (i := 3) rfl) rfl : Cond.fieldLink RJ0 38 "java/lang/String" "COMPACT_STRINGS" "Z" ∈ lw_g) (by decide +kernel) ?_
  show J_ zJ0_coder_7d493 T (po_J0_coder_2 T) 0 0 3 _ [vI 1] T
  refine j_blx (F := fJ0) tb_J0 (nn_ _) bk_J0_coder_7d493_3 bs_J0_coder_7d493_3 hz (fun K hK => ?_)
  refine And.intro (fun c1 => ?_) (fun c1 => ?_)
  · exact absurd c1 (by decide)
  · refine hK 7 _ [vR 82 2] T ?_
    refine j_gfC (pc := 7) (i := 2) (by decide) (by decide) (lwq_10 (dqc_m (dqc_m (dqc_m (dqa_m (dqa_m (List.mem_of_getElem? (i := 7) rfl)))))) rfl : Cond.fieldLink RJ0 15 "java/lang/String" "coder" "B" ∈ lw_g) (by decide +kernel) ?_
    show J_ zJ0_coder_7d493 T (po_J0_coder_2 T) 0 0 10 _ [vI 0] T
    refine j_blx (F := fJ0) tb_J0 (nn_ _) bk_J0_coder_7d493_10 bs_J0_coder_7d493_10 hz (fun K hK => ?_)
    refine hK 14 _ [vI 0] T ?_
    refine j_iretN (pc := 14) (Or.inr rfl) ⟨by decide, by decide⟩ (by decide +kernel) ?_
    refine (show po_J0_coder_2 T T (some (vI 0)) from ?_)
    exact ⟨rfl, rfl⟩
abbrev po_J0_isLatin1_2 (T : Zt) : Zt → Option Zv → Prop := fun T' r => T = T' ∧ r = some (vI (1))
set_option maxHeartbeats 4000000 in
theorem ct_J0_isLatin1_2 {T : Zt} : Ct_ yJ0_isLatin1_aae02 zJ0_isLatin1_aae02 T [vR 82 2] (po_J0_isLatin1_2 T) := by
  refine ct_of (by decide) rfl rfl (Nat.le_of_ble_eq_true rfl) (fun hT hav => ?_)
  have hz : zJ0_isLatin1_aae02.2.2.2.1 = some .boolean → ∀ (T' : Zt) (x : Int), po_J0_isLatin1_2 T T' (some (vI x)) → 0 ≤ x ∧ x ≤ 1 := fun _ T' x h => by obtain ⟨-, e⟩ := h; cases e; omega
  show J_ zJ0_isLatin1_aae02 T (po_J0_isLatin1_2 T) 0 0 0 [some (vR 82 2)] [] T
  refine j_gsC (pc := 0) (by decide) (lwq_3 (List.mem_of_getElem? (i := 3) rfl) rfl : Cond.fieldLink RJ0 38 "java/lang/String" "COMPACT_STRINGS" "Z" ∈ lw_g) (by decide +kernel) ?_
  show J_ zJ0_isLatin1_aae02 T (po_J0_isLatin1_2 T) 0 0 3 _ [vI 1] T
  refine j_blx (F := fJ0) tb_J0 (nn_ _) bk_J0_isLatin1_aae02_3 bs_J0_isLatin1_aae02_3 hz (fun K hK => ?_)
  refine And.intro (fun c1 => ?_) (fun c1 => ?_)
  · exact absurd c1 (by decide)
  · refine hK 7 _ [vR 82 2] T ?_
    refine j_gfC (pc := 7) (i := 2) (by decide) (by decide) (lwq_10 (dqc_m (dqc_m (dqc_m (dqa_m (dqa_m (List.mem_of_getElem? (i := 7) rfl)))))) rfl : Cond.fieldLink RJ0 15 "java/lang/String" "coder" "B" ∈ lw_g) (by decide +kernel) ?_
    show J_ zJ0_isLatin1_aae02 T (po_J0_isLatin1_2 T) 0 0 10 _ [vI 0] T
    refine j_blx (F := fJ0) tb_J0 (nn_ _) bk_J0_isLatin1_aae02_10 bs_J0_isLatin1_aae02_10 hz (fun K hK => ?_)
    refine And.intro (fun c2 => ?_) (fun c2 => ?_)
    · exact absurd c2 (by decide)
    · refine hK 18 _ [vI 1] T ?_
      refine j_blx (F := fJ0) tb_J0 (nn_ _) bk_J0_isLatin1_aae02_18 bs_J0_isLatin1_aae02_18 hz (fun K hK => ?_)
      refine (show po_J0_isLatin1_2 T T (some (vI 1)) from ?_)
      exact ⟨rfl, rfl⟩
abbrev po_J0_length_2 (T : Zt) : Zt → Option Zv → Prop := fun T' r => T = T' ∧ r = some (vI (37))
set_option maxHeartbeats 4000000 in
theorem ct_J0_length_2 {T : Zt} : Ct_ yJ0_length_8abf5 zJ0_length_8abf5 T [vR 82 2] (po_J0_length_2 T) := by
  refine ct_of (by decide) rfl rfl (Nat.le_of_ble_eq_true rfl) (fun hT hav => ?_)
  have hz : zJ0_length_8abf5.2.2.2.1 = some .boolean → ∀ (T' : Zt) (x : Int), po_J0_length_2 T T' (some (vI x)) → 0 ≤ x ∧ x ≤ 1 := fun h => by cases h
  show J_ zJ0_length_8abf5 T (po_J0_length_2 T) 0 0 0 [some (vR 82 2)] [] T
  refine j_blx (F := fJ0) tb_J0 (nn_ _) bk_J0_length_8abf5_0 bs_J0_length_8abf5_0 hz (fun K hK => ?_)
  refine hK 1 _ [vR 82 2] T ?_
  refine j_gfV (pc := 1) (i := 2) (by decide) (by decide) (lwq_10 (dqc_m (dqc_m (dqc_m (dqa_m (dqa_m (List.mem_of_getElem? (i := 6) rfl)))))) rfl : Cond.fieldLink RJ0 9 "java/lang/String" "value" "[B" ∈ lw_g) (by decide +kernel) ?_
  show J_ zJ0_length_8abf5 T (po_J0_length_2 T) 0 0 4 _ [vR 83 2] T
  refine j_len83 (pc := 4) (i := 2) (n := 37) (by decide) (by decide) (by decide) (by decide) (by decide +kernel) ?_
  show J_ zJ0_length_8abf5 T (po_J0_length_2 T) 0 0 5 _ [vI 37] T
  refine j_blx (F := fJ0) tb_J0 (nn_ _) bk_J0_length_8abf5_5 bs_J0_length_8abf5_5 hz (fun K hK => ?_)
  refine hK 6 _ [vR 82 2, vI 37] T ?_
  refine j_callK (i := 2) (y := yJ0_coder_7d493) (Yc := zJ0_coder_7d493) (rest := [vI 37]) [] (by decide) (ct_J0_coder_2 (T := T)) ck82_J0_335 (by decide +kernel) (by decide) rfl (by decide +kernel) (Nat.le_of_ble_eq_true rfl) (by decide) (by decide) rfl ?_
  rintro _ _ ⟨rfl, rfl⟩
  show J_ zJ0_length_8abf5 T (po_J0_length_2 T) 0 0 9 _ [vI 0, vI 37] T
  refine j_blx (F := fJ0) tb_J0 (nn_ _) bk_J0_length_8abf5_9 bs_J0_length_8abf5_9 hz (fun K hK => ?_)
  intro w1 w1b
  refine (show po_J0_length_2 T T (some (vI (sr_ 37 0))) from ?_)
  exact ⟨rfl, by rw [show sr_ 37 0 = 37 by decide]⟩
abbrev po_J1_charAt_2 (T : Zt) (a : Int) : Zt → Option Zv → Prop := fun T' r => T = T' ∧ r = some (vI (cb8_ 2 a))
set_option maxHeartbeats 4000000 in
theorem ct_J1_charAt_2 {T : Zt} {a : Int} (h1 : 0 ≤ a ∧ a < 37) : Ct_ yJ1_charAt_3b067 zJ1_charAt_3b067 T [vR 83 2, vI a] (po_J1_charAt_2 T a) := by
  refine ct_of (by decide) rfl rfl (Nat.le_of_ble_eq_true rfl) (fun hT hav => ?_)
  have hr_a : -2147483648 ≤ a ∧ a ≤ 2147483647 := hav (vI a) (List.mem_cons_of_mem _ List.mem_cons_self)
  have hz : zJ1_charAt_3b067.2.2.2.1 = some .boolean → ∀ (T' : Zt) (x : Int), po_J1_charAt_2 T a T' (some (vI x)) → 0 ≤ x ∧ x ≤ 1 := fun h => by cases h
  show J_ zJ1_charAt_3b067 T (po_J1_charAt_2 T a) 0 0 0 [some (vR 83 2), some (vI a)] [] T
  refine j_blx (F := fJ1) tb_J1 (nn_ _) bk_J1_charAt_3b067_0 bs_J1_charAt_3b067_0 hz (fun K hK => ?_)
  refine hK 2 _ [vR 83 2, vI a] T ?_
  refine j_len83 (pc := 2) (i := 2) (n := 37) (by decide) (by decide) (by decide) (by decide) (by decide +kernel) ?_
  show J_ zJ1_charAt_3b067 T (po_J1_charAt_2 T a) 0 0 3 _ [vI 37, vI a] T
  refine j_callS (y := yJ0_checkIndex_df160) (Yc := zJ0_checkIndex_df160) (rest := []) [vI a, vI 37] (ct_J0_checkIndex_df160 (T := T) (by omega)) cl_J1_9 (qd_c (by decide +kernel)) (nn_ _) rfl (rf_of rfl) (Nat.le_of_ble_eq_true rfl) (Nat.le_of_ble_eq_true rfl) (Nat.le_of_ble_eq_true rfl) rfl ?_
  rintro _ _ ⟨rfl, rfl⟩
  show J_ zJ1_charAt_3b067 T (po_J1_charAt_2 T a) 0 0 6 _ [] T
  refine j_blx (F := fJ1) tb_J1 (nn_ _) bk_J1_charAt_3b067_6 bs_J1_charAt_3b067_6 hz (fun K hK => ?_)
  refine hK 8 _ [vI a, vR 83 2] T ?_
  refine j_ba83 (pc := 8) (i := 2) (n := 37) (by decide) (by decide) (by decide) (by omega) (by omega) (by decide) (fun k _ => ⟨i3_b _, bv_k (by decide) k⟩) (by decide +kernel) ?_
  have hcb := cb8_b (i := 2) (by decide) a
  show J_ zJ1_charAt_3b067 T (po_J1_charAt_2 T a) 0 0 9 _ [vI (cb8_ 2 a)] T
  refine j_blx (F := fJ1) tb_J1 (nn_ _) bk_J1_charAt_3b067_9 bs_J1_charAt_3b067_9 hz (fun K hK => ?_)
  intro w1 w1b
  refine hK 13 _ [vI (an_ (cb8_ 2 a) 255)] T ?_
  rw [an_25 hcb]
  refine j_i2c (pc := 13) (by decide) hcb (by decide +kernel) ?_
  show J_ zJ1_charAt_3b067 T (po_J1_charAt_2 T a) 0 0 14 _ [vI (cb8_ 2 a)] T
  refine j_iretN (pc := 14) (Or.inl rfl) hcb (by decide +kernel) ?_
  refine (show po_J1_charAt_2 T a T (some (vI (cb8_ 2 a))) from ?_)
  exact ⟨rfl, rfl⟩
abbrev po_J0_charAt_2 (T : Zt) (a : Int) : Zt → Option Zv → Prop := fun T' r => T = T' ∧ r = some (vI (cb8_ 2 a))
set_option maxHeartbeats 4000000 in
theorem ct_J0_charAt_2 {T : Zt} {a : Int} (h1 : 0 ≤ a ∧ a < 37) : Ct_ yJ0_charAt_5068e zJ0_charAt_5068e T [vR 82 2, vI a] (po_J0_charAt_2 T a) := by
  refine ct_of (by decide) rfl rfl (Nat.le_of_ble_eq_true rfl) (fun hT hav => ?_)
  have hr_a : -2147483648 ≤ a ∧ a ≤ 2147483647 := hav (vI a) (List.mem_cons_of_mem _ List.mem_cons_self)
  have hz : zJ0_charAt_5068e.2.2.2.1 = some .boolean → ∀ (T' : Zt) (x : Int), po_J0_charAt_2 T a T' (some (vI x)) → 0 ≤ x ∧ x ≤ 1 := fun h => by cases h
  show J_ zJ0_charAt_5068e T (po_J0_charAt_2 T a) 0 0 0 [some (vR 82 2), some (vI a)] [] T
  refine j_blx (F := fJ0) tb_J0 (nn_ _) bk_J0_charAt_5068e_0 bs_J0_charAt_5068e_0 hz (fun K hK => ?_)
  refine hK 1 _ [vR 82 2] T ?_
  refine j_callK (i := 2) (y := yJ0_isLatin1_aae02) (Yc := zJ0_isLatin1_aae02) (rest := []) [] (by decide) (ct_J0_isLatin1_2 (T := T)) ck82_J0_492 (by decide +kernel) (by decide) rfl (by decide +kernel) (Nat.le_of_ble_eq_true rfl) (by decide) (by decide) rfl ?_
  rintro _ _ ⟨rfl, rfl⟩
  show J_ zJ0_charAt_5068e T (po_J0_charAt_2 T a) 0 0 4 _ [vI 1] T
  refine j_blx (F := fJ0) tb_J0 (nn_ _) bk_J0_charAt_5068e_4 bs_J0_charAt_5068e_4 hz (fun K hK => ?_)
  refine And.intro (fun c1 => ?_) (fun c1 => ?_)
  · exact absurd c1 (by decide)
  · refine hK 8 _ [vR 82 2] T ?_
    refine j_gfV (pc := 8) (i := 2) (by decide) (by decide) (lwq_10 (dqc_m (dqc_m (dqc_m (dqa_m (dqa_m (List.mem_of_getElem? (i := 6) rfl)))))) rfl : Cond.fieldLink RJ0 9 "java/lang/String" "value" "[B" ∈ lw_g) (by decide +kernel) ?_
    show J_ zJ0_charAt_5068e T (po_J0_charAt_2 T a) 0 0 11 _ [vR 83 2] T
    refine j_blx (F := fJ0) tb_J0 (nn_ _) bk_J0_charAt_5068e_11 bs_J0_charAt_5068e_11 hz (fun K hK => ?_)
    refine hK 12 _ [vI a, vR 83 2] T ?_
    refine j_callS (y := yJ1_charAt_3b067) (Yc := zJ1_charAt_3b067) (rest := []) [vR 83 2, vI a] (ct_J1_charAt_2 (T := T) (by omega)) cl_J0_495 (qd_c (by decide +kernel)) (nn_ _) rfl (rf_of rfl) (Nat.le_of_ble_eq_true rfl) (Nat.le_of_ble_eq_true rfl) (Nat.le_of_ble_eq_true rfl) rfl ?_
    rintro _ _ ⟨rfl, rfl⟩
    show J_ zJ0_charAt_5068e T (po_J0_charAt_2 T a) 0 0 15 _ [vI (cb8_ 2 a)] T
    refine j_iretN (pc := 15) (Or.inl rfl) (cb8_b (by decide) a) (by decide +kernel) ?_
    refine (show po_J0_charAt_2 T a T (some (vI (cb8_ 2 a))) from ?_)
    exact ⟨rfl, rfl⟩
