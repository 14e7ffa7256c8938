theorem nx_b {s o x : Int} (ho : 0 ≤ o ∧ o ≤ 4095) (hs : 0 ≤ s ∧ s < 4096) (h : an_ s o = s) (hx : 0 ≤ x ∧ x < 32) (hb : an_ (sr_ s x) 1 = 1) : an_ (sr_ o x) 1 = 1 := by
  rw [bt_n (by omega) hx] at hb ⊢
  unfold bt_ at hb ⊢
  have h1 := (an_z ho hs).mp h
  by_cases z : s.toNat.testBit x.toNat = true
  · rw [← h1, Nat.testBit_and, Bool.and_eq_true] at z
    rw [if_pos z.2]
  · rw [if_neg z] at hb
    omega
theorem sl_q {w : Int} (h : 0 ≤ w ∧ w ≤ 11) : sl_ 1 w = ((2 ^ w.toNat : Nat) : Int) := by
  have : w = 0 ∨ w = 1 ∨ w = 2 ∨ w = 3 ∨ w = 4 ∨ w = 5 ∨ w = 6 ∨ w = 7 ∨ w = 8 ∨ w = 9 ∨ w = 10 ∨ w = 11 := by omega
  rcases this with rfl | rfl | rfl | rfl | rfl | rfl | rfl | rfl | rfl | rfl | rfl | rfl <;> decide
theorem or_bit {o q x : Int} (ho : 0 ≤ o ∧ o ≤ 4095) (hq : 0 ≤ q ∧ q ≤ 11) (hx : 0 ≤ x ∧ x ≤ 11) (h : an_ (sr_ (or_ o (sl_ 1 q)) x) 1 = 1) : an_ (sr_ o x) 1 = 1 ∨ x = q := by
  have hb := sl_b hq
  have ho2 := or_b ho hb
  rw [bt_n (by omega) (by omega)] at h
  rw [bt_n (by omega) (by omega)]
  unfold bt_ at h ⊢
  rw [or_n (by omega) (by omega), Int.toNat_natCast, Nat.testBit_or, sl_q hq, Int.toNat_natCast, Nat.testBit_two_pow] at h
  by_cases z : o.toNat.testBit x.toNat = true
  · exact Or.inl (by rw [if_pos z])
  · by_cases y : q.toNat = x.toNat
    · exact Or.inr (by omega)
    · simp [z, y] at h
/-- only clubs with a seat are in the set -/
def OB_ (T : Zt) (c o : Int) : Prop := ∀ x, 0 ≤ x → x ≤ 11 → an_ (sr_ o x) 1 = 1 → 0 ≤ T 404 c x
theorem ob_0 (T : Zt) (c : Int) : OB_ T c 0 := fun x a b h => by
  have : an_ (sr_ 0 x) 1 = 0 := by
    rw [bt_n (by omega) (by omega)]
    unfold bt_
    simp
  omega
theorem ob_s {T : Zt} {c o q : Int} (h : OB_ T c o) (ho : 0 ≤ o ∧ o ≤ 4095) (hq : 0 ≤ q ∧ q ≤ 11) (g : 0 ≤ T 404 c q) : OB_ T c (or_ o (sl_ 1 q)) := fun x a b e => by
  rcases or_bit ho hq ⟨a, b⟩ e with z | z
  · exact h x a b z
  · rw [z]; exact g
theorem or_0 {o : Int} (ho : 0 ≤ o ∧ o ≤ 4095) : or_ o 0 = o := by
  unfold or_
  rw [show Int32.ofInt 0 = 0 from rfl, Int32.or_zero]
  exact i3_t (by omega) (by omega)
abbrev cJ6_numberOfTrailingZeros_0f7a4 : ByteArray := prog_15_method_48_code
def yJ6_numberOfTrailingZeros_0f7a4 : MethodName := ⟨RJ6, "numberOfTrailingZeros", "(I)I"⟩
def zJ6_numberOfTrailingZeros_0f7a4 : Zm := (RJ6, cJ6_numberOfTrailingZeros_0f7a4, 2, (some .int), { frames := 0, cells := 0, slots := 0, locals := 0 })
theorem bk_J6_numberOfTrailingZeros_0f7a4_0 : ck_ fJ6 (some .int) cJ6_numberOfTrailingZeros_0f7a4 0 [.iload 0, .iconst (-1), .ixor, .iload 0, .iconst 1, .isub, .iand, .istore 0, .iload 0, .ifCond .gt 17, .iload 0, .iconst 32, .iand, .ireturn] 17 = true := qck_r (nn_ _) (by decide +kernel)
theorem bs_J6_numberOfTrailingZeros_0f7a4_0 {P : Zt → Option Zv → Prop} (K : Int → Zl → List Zv → Zt → Prop) : sx_ K P [.iload 0, .iconst (-1), .ixor, .iload 0, .iconst 1, .isub, .iand, .istore 0, .iload 0, .ifCond .gt 17, .iload 0, .iconst 32, .iand, .ireturn] 17 = x_iload 0 (x_iconst (-1) (x_ixor (x_iload 0 (x_iconst 1 (x_isub (x_iand (x_istore 0 (x_iload 0 (x_ifCond .gt 17 K (x_iload 0 (x_iconst 32 (x_iand (x_ireturn P))))))))))))) := ((xe_iload 0).trans (congrArg (x_iload 0) ((xe_iconst (-1)).trans (congrArg (x_iconst (-1)) ((xe_ixor).trans (congrArg (x_ixor) ((xe_iload 0).trans (congrArg (x_iload 0) ((xe_iconst 1).trans (congrArg (x_iconst 1) ((xe_isub).trans (congrArg (x_isub) ((xe_iand).trans (congrArg (x_iand) ((xe_istore 0).trans (congrArg (x_istore 0) ((xe_iload 0).trans (congrArg (x_iload 0) ((xe_ifCond .gt 17).trans (congrArg (x_ifCond .gt 17 K) ((xe_iload 0).trans (congrArg (x_iload 0) ((xe_iconst 32).trans (congrArg (x_iconst 32) ((xe_iand).trans (congrArg (x_iand) (xe_ireturn)))))))))))))))))))))))))))
theorem bk_J6_numberOfTrailingZeros_0f7a4_17 : ck_ fJ6 (some .int) cJ6_numberOfTrailingZeros_0f7a4 17 [.iconst 1, .istore 1, .iload 0, .iconst 65536, .if_icmp .le 34, .iinc 1 16, .iload 0, .iconst 16, .iushr, .istore 0, .iload 0, .iconst 256, .if_icmp .le 49, .iinc 1 8, .iload 0, .iconst 8, .iushr, .istore 0, .iload 0, .iconst 16, .if_icmp .le 62, .iinc 1 4, .iload 0, .iconst 4, .iushr, .istore 0, .iload 0, .iconst 4, .if_icmp .le 74, .iinc 1 2, .iload 0, .iconst 2, .iushr, .istore 0, .iload 1, .iload 0, .iconst 1, .iushr, .iadd, .ireturn] 80 = true := qck_r (nn_ _) (by decide +kernel)
theorem bs_J6_numberOfTrailingZeros_0f7a4_17 {P : Zt → Option Zv → Prop} (K : Int → Zl → List Zv → Zt → Prop) : sx_ K P [.iconst 1, .istore 1, .iload 0, .iconst 65536, .if_icmp .le 34, .iinc 1 16, .iload 0, .iconst 16, .iushr, .istore 0, .iload 0, .iconst 256, .if_icmp .le 49, .iinc 1 8, .iload 0, .iconst 8, .iushr, .istore 0, .iload 0, .iconst 16, .if_icmp .le 62, .iinc 1 4, .iload 0, .iconst 4, .iushr, .istore 0, .iload 0, .iconst 4, .if_icmp .le 74, .iinc 1 2, .iload 0, .iconst 2, .iushr, .istore 0, .iload 1, .iload 0, .iconst 1, .iushr, .iadd, .ireturn] 80 = x_iconst 1 (x_istore 1 (x_iload 0 (x_iconst 65536 (x_if_icmp .le 34 K (x_iinc 1 16 (x_iload 0 (x_iconst 16 (x_iushr (x_istore 0 (x_iload 0 (x_iconst 256 (x_if_icmp .le 49 K (x_iinc 1 8 (x_iload 0 (x_iconst 8 (x_iushr (x_istore 0 (x_iload 0 (x_iconst 16 (x_if_icmp .le 62 K (x_iinc 1 4 (x_iload 0 (x_iconst 4 (x_iushr (x_istore 0 (x_iload 0 (x_iconst 4 (x_if_icmp .le 74 K (x_iinc 1 2 (x_iload 0 (x_iconst 2 (x_iushr (x_istore 0 (x_iload 1 (x_iload 0 (x_iconst 1 (x_iushr (x_iadd (x_ireturn P))))))))))))))))))))))))))))))))))))))) := ((xe_iconst 1).trans (congrArg (x_iconst 1) ((xe_istore 1).trans (congrArg (x_istore 1) ((xe_iload 0).trans (congrArg (x_iload 0) ((xe_iconst 65536).trans (congrArg (x_iconst 65536) ((xe_if_icmp .le 34).trans (congrArg (x_if_icmp .le 34 K) ((xe_iinc 1 16).trans (congrArg (x_iinc 1 16) ((xe_iload 0).trans (congrArg (x_iload 0) ((xe_iconst 16).trans (congrArg (x_iconst 16) ((xe_iushr).trans (congrArg (x_iushr) ((xe_istore 0).trans (congrArg (x_istore 0) ((xe_iload 0).trans (congrArg (x_iload 0) ((xe_iconst 256).trans (congrArg (x_iconst 256) ((xe_if_icmp .le 49).trans (congrArg (x_if_icmp .le 49 K) ((xe_iinc 1 8).trans (congrArg (x_iinc 1 8) ((xe_iload 0).trans (congrArg (x_iload 0) ((xe_iconst 8).trans (congrArg (x_iconst 8) ((xe_iushr).trans (congrArg (x_iushr) ((xe_istore 0).trans (congrArg (x_istore 0) ((xe_iload 0).trans (congrArg (x_iload 0) ((xe_iconst 16).trans (congrArg (x_iconst 16) ((xe_if_icmp .le 62).trans (congrArg (x_if_icmp .le 62 K) ((xe_iinc 1 4).trans (congrArg (x_iinc 1 4) ((xe_iload 0).trans (congrArg (x_iload 0) ((xe_iconst 4).trans (congrArg (x_iconst 4) ((xe_iushr).trans (congrArg (x_iushr) ((xe_istore 0).trans (congrArg (x_istore 0) ((xe_iload 0).trans (congrArg (x_iload 0) ((xe_iconst 4).trans (congrArg (x_iconst 4) ((xe_if_icmp .le 74).trans (congrArg (x_if_icmp .le 74 K) ((xe_iinc 1 2).trans (congrArg (x_iinc 1 2) ((xe_iload 0).trans (congrArg (x_iload 0) ((xe_iconst 2).trans (congrArg (x_iconst 2) ((xe_iushr).trans (congrArg (x_iushr) ((xe_istore 0).trans (congrArg (x_istore 0) ((xe_iload 1).trans (congrArg (x_iload 1) ((xe_iload 0).trans (congrArg (x_iload 0) ((xe_iconst 1).trans (congrArg (x_iconst 1) ((xe_iushr).trans (congrArg (x_iushr) ((xe_iadd).trans (congrArg (x_iadd) (xe_ireturn)))))))))))))))))))))))))))))))))))))))))))))))))))))))))))))))))))))))))))))))
theorem bk_J6_numberOfTrailingZeros_0f7a4_34 : ck_ fJ6 (some .int) cJ6_numberOfTrailingZeros_0f7a4 34 [.iload 0, .iconst 256, .if_icmp .le 49, .iinc 1 8, .iload 0, .iconst 8, .iushr, .istore 0, .iload 0, .iconst 16, .if_icmp .le 62, .iinc 1 4, .iload 0, .iconst 4, .iushr, .istore 0, .iload 0, .iconst 4, .if_icmp .le 74, .iinc 1 2, .iload 0, .iconst 2, .iushr, .istore 0, .iload 1, .iload 0, .iconst 1, .iushr, .iadd, .ireturn] 80 = true := qck_r (nn_ _) (by decide +kernel)
theorem bs_J6_numberOfTrailingZeros_0f7a4_34 {P : Zt → Option Zv → Prop} (K : Int → Zl → List Zv → Zt → Prop) : sx_ K P [.iload 0, .iconst 256, .if_icmp .le 49, .iinc 1 8, .iload 0, .iconst 8, .iushr, .istore 0, .iload 0, .iconst 16, .if_icmp .le 62, .iinc 1 4, .iload 0, .iconst 4, .iushr, .istore 0, .iload 0, .iconst 4, .if_icmp .le 74, .iinc 1 2, .iload 0, .iconst 2, .iushr, .istore 0, .iload 1, .iload 0, .iconst 1, .iushr, .iadd, .ireturn] 80 = x_iload 0 (x_iconst 256 (x_if_icmp .le 49 K (x_iinc 1 8 (x_iload 0 (x_iconst 8 (x_iushr (x_istore 0 (x_iload 0 (x_iconst 16 (x_if_icmp .le 62 K (x_iinc 1 4 (x_iload 0 (x_iconst 4 (x_iushr (x_istore 0 (x_iload 0 (x_iconst 4 (x_if_icmp .le 74 K (x_iinc 1 2 (x_iload 0 (x_iconst 2 (x_iushr (x_istore 0 (x_iload 1 (x_iload 0 (x_iconst 1 (x_iushr (x_iadd (x_ireturn P))))))))))))))))))))))))))))) := ((xe_iload 0).trans (congrArg (x_iload 0) ((xe_iconst 256).trans (congrArg (x_iconst 256) ((xe_if_icmp .le 49).trans (congrArg (x_if_icmp .le 49 K) ((xe_iinc 1 8).trans (congrArg (x_iinc 1 8) ((xe_iload 0).trans (congrArg (x_iload 0) ((xe_iconst 8).trans (congrArg (x_iconst 8) ((xe_iushr).trans (congrArg (x_iushr) ((xe_istore 0).trans (congrArg (x_istore 0) ((xe_iload 0).trans (congrArg (x_iload 0) ((xe_iconst 16).trans (congrArg (x_iconst 16) ((xe_if_icmp .le 62).trans (congrArg (x_if_icmp .le 62 K) ((xe_iinc 1 4).trans (congrArg (x_iinc 1 4) ((xe_iload 0).trans (congrArg (x_iload 0) ((xe_iconst 4).trans (congrArg (x_iconst 4) ((xe_iushr).trans (congrArg (x_iushr) ((xe_istore 0).trans (congrArg (x_istore 0) ((xe_iload 0).trans (congrArg (x_iload 0) ((xe_iconst 4).trans (congrArg (x_iconst 4) ((xe_if_icmp .le 74).trans (congrArg (x_if_icmp .le 74 K) ((xe_iinc 1 2).trans (congrArg (x_iinc 1 2) ((xe_iload 0).trans (congrArg (x_iload 0) ((xe_iconst 2).trans (congrArg (x_iconst 2) ((xe_iushr).trans (congrArg (x_iushr) ((xe_istore 0).trans (congrArg (x_istore 0) ((xe_iload 1).trans (congrArg (x_iload 1) ((xe_iload 0).trans (congrArg (x_iload 0) ((xe_iconst 1).trans (congrArg (x_iconst 1) ((xe_iushr).trans (congrArg (x_iushr) ((xe_iadd).trans (congrArg (x_iadd) (xe_ireturn)))))))))))))))))))))))))))))))))))))))))))))))))))))))))))
theorem bk_J6_numberOfTrailingZeros_0f7a4_49 : ck_ fJ6 (some .int) cJ6_numberOfTrailingZeros_0f7a4 49 [.iload 0, .iconst 16, .if_icmp .le 62, .iinc 1 4, .iload 0, .iconst 4, .iushr, .istore 0, .iload 0, .iconst 4, .if_icmp .le 74, .iinc 1 2, .iload 0, .iconst 2, .iushr, .istore 0, .iload 1, .iload 0, .iconst 1, .iushr, .iadd, .ireturn] 80 = true := qck_r (nn_ _) (by decide +kernel)
theorem bs_J6_numberOfTrailingZeros_0f7a4_49 {P : Zt → Option Zv → Prop} (K : Int → Zl → List Zv → Zt → Prop) : sx_ K P [.iload 0, .iconst 16, .if_icmp .le 62, .iinc 1 4, .iload 0, .iconst 4, .iushr, .istore 0, .iload 0, .iconst 4, .if_icmp .le 74, .iinc 1 2, .iload 0, .iconst 2, .iushr, .istore 0, .iload 1, .iload 0, .iconst 1, .iushr, .iadd, .ireturn] 80 = x_iload 0 (x_iconst 16 (x_if_icmp .le 62 K (x_iinc 1 4 (x_iload 0 (x_iconst 4 (x_iushr (x_istore 0 (x_iload 0 (x_iconst 4 (x_if_icmp .le 74 K (x_iinc 1 2 (x_iload 0 (x_iconst 2 (x_iushr (x_istore 0 (x_iload 1 (x_iload 0 (x_iconst 1 (x_iushr (x_iadd (x_ireturn P))))))))))))))))))))) := ((xe_iload 0).trans (congrArg (x_iload 0) ((xe_iconst 16).trans (congrArg (x_iconst 16) ((xe_if_icmp .le 62).trans (congrArg (x_if_icmp .le 62 K) ((xe_iinc 1 4).trans (congrArg (x_iinc 1 4) ((xe_iload 0).trans (congrArg (x_iload 0) ((xe_iconst 4).trans (congrArg (x_iconst 4) ((xe_iushr).trans (congrArg (x_iushr) ((xe_istore 0).trans (congrArg (x_istore 0) ((xe_iload 0).trans (congrArg (x_iload 0) ((xe_iconst 4).trans (congrArg (x_iconst 4) ((xe_if_icmp .le 74).trans (congrArg (x_if_icmp .le 74 K) ((xe_iinc 1 2).trans (congrArg (x_iinc 1 2) ((xe_iload 0).trans (congrArg (x_iload 0) ((xe_iconst 2).trans (congrArg (x_iconst 2) ((xe_iushr).trans (congrArg (x_iushr) ((xe_istore 0).trans (congrArg (x_istore 0) ((xe_iload 1).trans (congrArg (x_iload 1) ((xe_iload 0).trans (congrArg (x_iload 0) ((xe_iconst 1).trans (congrArg (x_iconst 1) ((xe_iushr).trans (congrArg (x_iushr) ((xe_iadd).trans (congrArg (x_iadd) (xe_ireturn)))))))))))))))))))))))))))))))))))))))))))
theorem bk_J6_numberOfTrailingZeros_0f7a4_62 : ck_ fJ6 (some .int) cJ6_numberOfTrailingZeros_0f7a4 62 [.iload 0, .iconst 4, .if_icmp .le 74, .iinc 1 2, .iload 0, .iconst 2, .iushr, .istore 0, .iload 1, .iload 0, .iconst 1, .iushr, .iadd, .ireturn] 80 = true := qck_r (nn_ _) (by decide +kernel)
theorem bs_J6_numberOfTrailingZeros_0f7a4_62 {P : Zt → Option Zv → Prop} (K : Int → Zl → List Zv → Zt → Prop) : sx_ K P [.iload 0, .iconst 4, .if_icmp .le 74, .iinc 1 2, .iload 0, .iconst 2, .iushr, .istore 0, .iload 1, .iload 0, .iconst 1, .iushr, .iadd, .ireturn] 80 = x_iload 0 (x_iconst 4 (x_if_icmp .le 74 K (x_iinc 1 2 (x_iload 0 (x_iconst 2 (x_iushr (x_istore 0 (x_iload 1 (x_iload 0 (x_iconst 1 (x_iushr (x_iadd (x_ireturn P))))))))))))) := ((xe_iload 0).trans (congrArg (x_iload 0) ((xe_iconst 4).trans (congrArg (x_iconst 4) ((xe_if_icmp .le 74).trans (congrArg (x_if_icmp .le 74 K) ((xe_iinc 1 2).trans (congrArg (x_iinc 1 2) ((xe_iload 0).trans (congrArg (x_iload 0) ((xe_iconst 2).trans (congrArg (x_iconst 2) ((xe_iushr).trans (congrArg (x_iushr) ((xe_istore 0).trans (congrArg (x_istore 0) ((xe_iload 1).trans (congrArg (x_iload 1) ((xe_iload 0).trans (congrArg (x_iload 0) ((xe_iconst 1).trans (congrArg (x_iconst 1) ((xe_iushr).trans (congrArg (x_iushr) ((xe_iadd).trans (congrArg (x_iadd) (xe_ireturn)))))))))))))))))))))))))))
theorem bk_J6_numberOfTrailingZeros_0f7a4_74 : ck_ fJ6 (some .int) cJ6_numberOfTrailingZeros_0f7a4 74 [.iload 1, .iload 0, .iconst 1, .iushr, .iadd, .ireturn] 80 = true := qck_r (nn_ _) (by decide +kernel)
theorem bs_J6_numberOfTrailingZeros_0f7a4_74 {P : Zt → Option Zv → Prop} (K : Int → Zl → List Zv → Zt → Prop) : sx_ K P [.iload 1, .iload 0, .iconst 1, .iushr, .iadd, .ireturn] 80 = x_iload 1 (x_iload 0 (x_iconst 1 (x_iushr (x_iadd (x_ireturn P))))) := ((xe_iload 1).trans (congrArg (x_iload 1) ((xe_iload 0).trans (congrArg (x_iload 0) ((xe_iconst 1).trans (congrArg (x_iconst 1) ((xe_iushr).trans (congrArg (x_iushr) ((xe_iadd).trans (congrArg (x_iadd) (xe_ireturn)))))))))))
abbrev po_J6_numberOfTrailingZeros_0f7a4 (T : Zt) (a : Int) : Zt → Option Zv → Prop := fun T' r => T = T' ∧ ∃ x : Int, r = some (vI x) ∧ (0 ≤ x ∧ x ≤ 11 ∧ an_ (sr_ a x) 1 = 1)
set_option maxHeartbeats 4000000 in
theorem ct_J6_numberOfTrailingZeros_0f7a4 {T : Zt} {a : Int} (h1 : 1 ≤ a ∧ a ≤ 4095) : Ct_ yJ6_numberOfTrailingZeros_0f7a4 zJ6_numberOfTrailingZeros_0f7a4 T [vI a] (po_J6_numberOfTrailingZeros_0f7a4 T a) := by
  refine ct_of (by decide) rfl rfl (Nat.le_of_ble_eq_true rfl) (fun hT hav => ?_)
  have hr_a : -2147483648 ≤ a ∧ a ≤ 2147483647 := hav (vI a) List.mem_cons_self
  have hz : zJ6_numberOfTrailingZeros_0f7a4.2.2.2.1 = some .boolean → ∀ (T' : Zt) (x : Int), po_J6_numberOfTrailingZeros_0f7a4 T a T' (some (vI x)) → 0 ≤ x ∧ x ≤ 1 := fun h => by cases h
  have hv : 0 ≤ an_ (xo_ a (-1)) (a - 1) ∧ an_ (xo_ a (-1)) (a - 1) ≤ 2047 := by obtain ⟨x9, p1, p2, p3⟩ := tz_q h1; have p4 : (2 : Nat) ^ x9 ≤ 2 ^ 11 := Nat.pow_le_pow_right (by omega) (by omega); have p5 : 0 < (2 : Nat) ^ x9 := Nat.pow_pos (by omega); rw [p2]; omega
  show J_ zJ6_numberOfTrailingZeros_0f7a4 T (po_J6_numberOfTrailingZeros_0f7a4 T a) 0 0 0 [some (vI a), none] [] T
  refine j_blx (F := fJ6) tb_J6 (nn_ _) bk_J6_numberOfTrailingZeros_0f7a4_0 bs_J6_numberOfTrailingZeros_0f7a4_0 hz (fun K hK => ?_)
  intro w1 w1b
  refine rg_i (by omega) ?_
  intro w2 w2b
  refine And.intro (fun c3 => ?_) (fun c3 => ?_)
  · refine hK 17 [some (vI (an_ (xo_ a (-1)) (a - 1))), none] [] T ?_
    refine j_blx (F := fJ6) tb_J6 (nn_ _) bk_J6_numberOfTrailingZeros_0f7a4_17 bs_J6_numberOfTrailingZeros_0f7a4_17 hz (fun K hK => ?_)
    refine And.intro (fun c4 => ?_) (fun c4 => ?_)
    · refine hK 34 [some (vI (an_ (xo_ a (-1)) (a - 1))), some (vI 1)] [] T ?_
      refine j_blx (F := fJ6) tb_J6 (nn_ _) bk_J6_numberOfTrailingZeros_0f7a4_34 bs_J6_numberOfTrailingZeros_0f7a4_34 hz (fun K hK => ?_)
      refine And.intro (fun c5 => ?_) (fun c5 => ?_)
      · refine hK 49 _ [] T ?_
        refine j_blx (F := fJ6) tb_J6 (nn_ _) bk_J6_numberOfTrailingZeros_0f7a4_49 bs_J6_numberOfTrailingZeros_0f7a4_49 hz (fun K hK => ?_)
        refine And.intro (fun c6 => ?_) (fun c6 => ?_)
        · refine hK 62 _ [] T ?_
          refine j_blx (F := fJ6) tb_J6 (nn_ _) bk_J6_numberOfTrailingZeros_0f7a4_62 bs_J6_numberOfTrailingZeros_0f7a4_62 hz (fun K hK => ?_)
          refine And.intro (fun c7 => ?_) (fun c7 => ?_)
          · refine hK 74 _ [] T ?_
            refine j_blx (F := fJ6) tb_J6 (nn_ _) bk_J6_numberOfTrailingZeros_0f7a4_74 bs_J6_numberOfTrailingZeros_0f7a4_74 hz (fun K hK => ?_)
            intro w8 w8b
            have y9 := us_q (v := (an_ (xo_ a (-1)) (a - 1))) (by omega)
            refine rg_i (by omega) ?_
            refine (show po_J6_numberOfTrailingZeros_0f7a4 T a T (some (vI (1 + (us_ (an_ (xo_ a (-1)) (a - 1)) 1)))) from ?_)
            obtain ⟨x9, p1, p2, p3⟩ := tz_q h1
            refine ⟨rfl, _, rfl, ?_⟩
            have hxx : 1 + (us_ (an_ (xo_ a (-1)) (a - 1)) 1) = (x9 : Int) := by
              have : x9 = 0 ∨ x9 = 1 ∨ x9 = 2 ∨ x9 = 3 ∨ x9 = 4 ∨ x9 = 5 ∨ x9 = 6 ∨ x9 = 7 ∨ x9 = 8 ∨ x9 = 9 ∨ x9 = 10 ∨ x9 = 11 := by omega
              rcases this with rfl | rfl | rfl | rfl | rfl | rfl | rfl | rfl | rfl | rfl | rfl | rfl <;> simp only [Nat.reducePow] at p2 <;> (first | omega | (exfalso; omega))
            rw [hxx]; exact ⟨by omega, by omega, p3⟩
          · refine rg_i (by omega) ?_
            intro w10 w10b
            have y11 := us_q (v := (an_ (xo_ a (-1)) (a - 1))) (by omega)
            intro w12 w12b
            have y13 := us_q (v := (us_ (an_ (xo_ a (-1)) (a - 1)) 2)) (by omega)
            refine rg_i (by omega) ?_
            refine (show po_J6_numberOfTrailingZeros_0f7a4 T a T (some (vI ((1 + 2) + (us_ (us_ (an_ (xo_ a (-1)) (a - 1)) 2) 1)))) from ?_)
            obtain ⟨x9, p1, p2, p3⟩ := tz_q h1
            refine ⟨rfl, _, rfl, ?_⟩
            have hxx : (1 + 2) + (us_ (us_ (an_ (xo_ a (-1)) (a - 1)) 2) 1) = (x9 : Int) := by
              have : x9 = 0 ∨ x9 = 1 ∨ x9 = 2 ∨ x9 = 3 ∨ x9 = 4 ∨ x9 = 5 ∨ x9 = 6 ∨ x9 = 7 ∨ x9 = 8 ∨ x9 = 9 ∨ x9 = 10 ∨ x9 = 11 := by omega
              rcases this with rfl | rfl | rfl | rfl | rfl | rfl | rfl | rfl | rfl | rfl | rfl | rfl <;> simp only [Nat.reducePow] at p2 <;> (first | omega | (exfalso; omega))
            rw [hxx]; exact ⟨by omega, by omega, p3⟩
        · refine rg_i (by omega) ?_
          intro w14 w14b
          have y15 := us_q (v := (an_ (xo_ a (-1)) (a - 1))) (by omega)
          refine And.intro (fun c16 => ?_) (fun c16 => ?_)
          · refine hK 74 [some (vI (us_ (an_ (xo_ a (-1)) (a - 1)) 4)), some (vI (1 + 4))] [] T ?_
            refine j_blx (F := fJ6) tb_J6 (nn_ _) bk_J6_numberOfTrailingZeros_0f7a4_74 bs_J6_numberOfTrailingZeros_0f7a4_74 hz (fun K hK => ?_)
            intro w17 w17b
            have y18 := us_q (v := (us_ (an_ (xo_ a (-1)) (a - 1)) 4)) (by omega)
            refine rg_i (by omega) ?_
            refine (show po_J6_numberOfTrailingZeros_0f7a4 T a T (some (vI ((1 + 4) + (us_ (us_ (an_ (xo_ a (-1)) (a - 1)) 4) 1)))) from ?_)
            obtain ⟨x9, p1, p2, p3⟩ := tz_q h1
            refine ⟨rfl, _, rfl, ?_⟩
            have hxx : (1 + 4) + (us_ (us_ (an_ (xo_ a (-1)) (a - 1)) 4) 1) = (x9 : Int) := by
              have : x9 = 0 ∨ x9 = 1 ∨ x9 = 2 ∨ x9 = 3 ∨ x9 = 4 ∨ x9 = 5 ∨ x9 = 6 ∨ x9 = 7 ∨ x9 = 8 ∨ x9 = 9 ∨ x9 = 10 ∨ x9 = 11 := by omega
              rcases this with rfl | rfl | rfl | rfl | rfl | rfl | rfl | rfl | rfl | rfl | rfl | rfl <;> simp only [Nat.reducePow] at p2 <;> (first | omega | (exfalso; omega))
            rw [hxx]; exact ⟨by omega, by omega, p3⟩
          · refine rg_i (by omega) ?_
            intro w19 w19b
            have y20 := us_q (v := (us_ (an_ (xo_ a (-1)) (a - 1)) 4)) (by omega)
            intro w21 w21b
            have y22 := us_q (v := (us_ (us_ (an_ (xo_ a (-1)) (a - 1)) 4) 2)) (by omega)
            refine rg_i (by omega) ?_
            refine (show po_J6_numberOfTrailingZeros_0f7a4 T a T (some (vI (((1 + 4) + 2) + (us_ (us_ (us_ (an_ (xo_ a (-1)) (a - 1)) 4) 2) 1)))) from ?_)
            obtain ⟨x9, p1, p2, p3⟩ := tz_q h1
            refine ⟨rfl, _, rfl, ?_⟩
            have hxx : ((1 + 4) + 2) + (us_ (us_ (us_ (an_ (xo_ a (-1)) (a - 1)) 4) 2) 1) = (x9 : Int) := by
              have : x9 = 0 ∨ x9 = 1 ∨ x9 = 2 ∨ x9 = 3 ∨ x9 = 4 ∨ x9 = 5 ∨ x9 = 6 ∨ x9 = 7 ∨ x9 = 8 ∨ x9 = 9 ∨ x9 = 10 ∨ x9 = 11 := by omega
              rcases this with rfl | rfl | rfl | rfl | rfl | rfl | rfl | rfl | rfl | rfl | rfl | rfl <;> simp only [Nat.reducePow] at p2 <;> (first | omega | (exfalso; omega))
            rw [hxx]; exact ⟨by omega, by omega, p3⟩
      · refine rg_i (by omega) ?_
        intro w23 w23b
        have y24 := us_q (v := (an_ (xo_ a (-1)) (a - 1))) (by omega)
        refine And.intro (fun c25 => ?_) (fun c25 => ?_)
        · refine hK 62 [some (vI (us_ (an_ (xo_ a (-1)) (a - 1)) 8)), some (vI (1 + 8))] [] T ?_
          refine j_blx (F := fJ6) tb_J6 (nn_ _) bk_J6_numberOfTrailingZeros_0f7a4_62 bs_J6_numberOfTrailingZeros_0f7a4_62 hz (fun K hK => ?_)
          refine And.intro (fun c26 => ?_) (fun c26 => ?_)
          · refine hK 74 _ [] T ?_
            refine j_blx (F := fJ6) tb_J6 (nn_ _) bk_J6_numberOfTrailingZeros_0f7a4_74 bs_J6_numberOfTrailingZeros_0f7a4_74 hz (fun K hK => ?_)
            intro w27 w27b
            have y28 := us_q (v := (us_ (an_ (xo_ a (-1)) (a - 1)) 8)) (by omega)
            refine rg_i (by omega) ?_
            refine (show po_J6_numberOfTrailingZeros_0f7a4 T a T (some (vI ((1 + 8) + (us_ (us_ (an_ (xo_ a (-1)) (a - 1)) 8) 1)))) from ?_)
            obtain ⟨x9, p1, p2, p3⟩ := tz_q h1
            refine ⟨rfl, _, rfl, ?_⟩
            have hxx : (1 + 8) + (us_ (us_ (an_ (xo_ a (-1)) (a - 1)) 8) 1) = (x9 : Int) := by
              have : x9 = 0 ∨ x9 = 1 ∨ x9 = 2 ∨ x9 = 3 ∨ x9 = 4 ∨ x9 = 5 ∨ x9 = 6 ∨ x9 = 7 ∨ x9 = 8 ∨ x9 = 9 ∨ x9 = 10 ∨ x9 = 11 := by omega
              rcases this with rfl | rfl | rfl | rfl | rfl | rfl | rfl | rfl | rfl | rfl | rfl | rfl <;> simp only [Nat.reducePow] at p2 <;> (first | omega | (exfalso; omega))
            rw [hxx]; exact ⟨by omega, by omega, p3⟩
          · refine rg_i (by omega) ?_
            intro w29 w29b
            have y30 := us_q (v := (us_ (an_ (xo_ a (-1)) (a - 1)) 8)) (by omega)
            intro w31 w31b
            have y32 := us_q (v := (us_ (us_ (an_ (xo_ a (-1)) (a - 1)) 8) 2)) (by omega)
            refine rg_i (by omega) ?_
            refine (show po_J6_numberOfTrailingZeros_0f7a4 T a T (some (vI (((1 + 8) + 2) + (us_ (us_ (us_ (an_ (xo_ a (-1)) (a - 1)) 8) 2) 1)))) from ?_)
            obtain ⟨x9, p1, p2, p3⟩ := tz_q h1
            refine ⟨rfl, _, rfl, ?_⟩
            have hxx : ((1 + 8) + 2) + (us_ (us_ (us_ (an_ (xo_ a (-1)) (a - 1)) 8) 2) 1) = (x9 : Int) := by
              have : x9 = 0 ∨ x9 = 1 ∨ x9 = 2 ∨ x9 = 3 ∨ x9 = 4 ∨ x9 = 5 ∨ x9 = 6 ∨ x9 = 7 ∨ x9 = 8 ∨ x9 = 9 ∨ x9 = 10 ∨ x9 = 11 := by omega
              rcases this with rfl | rfl | rfl | rfl | rfl | rfl | rfl | rfl | rfl | rfl | rfl | rfl <;> simp only [Nat.reducePow] at p2 <;> (first | omega | (exfalso; omega))
            rw [hxx]; exact ⟨by omega, by omega, p3⟩
        · refine rg_i (by omega) ?_
          intro w33 w33b
          have y34 := us_q (v := (us_ (an_ (xo_ a (-1)) (a - 1)) 8)) (by omega)
          refine And.intro (fun c35 => ?_) (fun c35 => ?_)
          · refine hK 74 [some (vI (us_ (us_ (an_ (xo_ a (-1)) (a - 1)) 8) 4)), some (vI ((1 + 8) + 4))] [] T ?_
            refine j_blx (F := fJ6) tb_J6 (nn_ _) bk_J6_numberOfTrailingZeros_0f7a4_74 bs_J6_numberOfTrailingZeros_0f7a4_74 hz (fun K hK => ?_)
            intro w36 w36b
            have y37 := us_q (v := (us_ (us_ (an_ (xo_ a (-1)) (a - 1)) 8) 4)) (by omega)
            refine rg_i (by omega) ?_
            refine (show po_J6_numberOfTrailingZeros_0f7a4 T a T (some (vI (((1 + 8) + 4) + (us_ (us_ (us_ (an_ (xo_ a (-1)) (a - 1)) 8) 4) 1)))) from ?_)
            obtain ⟨x9, p1, p2, p3⟩ := tz_q h1
            refine ⟨rfl, _, rfl, ?_⟩
            have hxx : ((1 + 8) + 4) + (us_ (us_ (us_ (an_ (xo_ a (-1)) (a - 1)) 8) 4) 1) = (x9 : Int) := by
              have : x9 = 0 ∨ x9 = 1 ∨ x9 = 2 ∨ x9 = 3 ∨ x9 = 4 ∨ x9 = 5 ∨ x9 = 6 ∨ x9 = 7 ∨ x9 = 8 ∨ x9 = 9 ∨ x9 = 10 ∨ x9 = 11 := by omega
              rcases this with rfl | rfl | rfl | rfl | rfl | rfl | rfl | rfl | rfl | rfl | rfl | rfl <;> simp only [Nat.reducePow] at p2 <;> (first | omega | (exfalso; omega))
            rw [hxx]; exact ⟨by omega, by omega, p3⟩
          · refine rg_i (by omega) ?_
            intro w38 w38b
            have y39 := us_q (v := (us_ (us_ (an_ (xo_ a (-1)) (a - 1)) 8) 4)) (by omega)
            intro w40 w40b
            have y41 := us_q (v := (us_ (us_ (us_ (an_ (xo_ a (-1)) (a - 1)) 8) 4) 2)) (by omega)
            refine rg_i (by omega) ?_
            refine (show po_J6_numberOfTrailingZeros_0f7a4 T a T (some (vI ((((1 + 8) + 4) + 2) + (us_ (us_ (us_ (us_ (an_ (xo_ a (-1)) (a - 1)) 8) 4) 2) 1)))) from ?_)
            obtain ⟨x9, p1, p2, p3⟩ := tz_q h1
            refine ⟨rfl, _, rfl, ?_⟩
            have hxx : (((1 + 8) + 4) + 2) + (us_ (us_ (us_ (us_ (an_ (xo_ a (-1)) (a - 1)) 8) 4) 2) 1) = (x9 : Int) := by
              have : x9 = 0 ∨ x9 = 1 ∨ x9 = 2 ∨ x9 = 3 ∨ x9 = 4 ∨ x9 = 5 ∨ x9 = 6 ∨ x9 = 7 ∨ x9 = 8 ∨ x9 = 9 ∨ x9 = 10 ∨ x9 = 11 := by omega
              rcases this with rfl | rfl | rfl | rfl | rfl | rfl | rfl | rfl | rfl | rfl | rfl | rfl <;> simp only [Nat.reducePow] at p2 <;> (first | omega | (exfalso; omega))
            rw [hxx]; exact ⟨by omega, by omega, p3⟩
    · exact absurd c4 (by omega)
  · intro w42 w42b
    refine (show po_J6_numberOfTrailingZeros_0f7a4 T a T (some (vI (an_ (an_ (xo_ a (-1)) (a - 1)) 32))) from ?_)
    obtain ⟨x9, p1, p2, p3⟩ := tz_q h1
    refine ⟨rfl, _, rfl, ?_⟩
    have hxx : an_ (an_ (xo_ a (-1)) (a - 1)) 32 = (x9 : Int) := by
      have : x9 = 0 ∨ x9 = 1 ∨ x9 = 2 ∨ x9 = 3 ∨ x9 = 4 ∨ x9 = 5 ∨ x9 = 6 ∨ x9 = 7 ∨ x9 = 8 ∨ x9 = 9 ∨ x9 = 10 ∨ x9 = 11 := by omega
      rcases this with rfl | rfl | rfl | rfl | rfl | rfl | rfl | rfl | rfl | rfl | rfl | rfl <;> simp only [Nat.reducePow] at p2 <;> (first | (rw [p2]; decide) | (exfalso; omega))
    rw [hxx]; exact ⟨by omega, by omega, p3⟩
