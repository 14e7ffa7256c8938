theorem php : ∀ (m n : Nat) (f : Nat → Nat), (∀ i, i < n → f i < m) → (∀ i j, i < j → j < n → f i ≠ f j) → n ≤ m
  | 0, n, f, h, _ => by
    by_cases z : n = 0
    · omega
    · exact absurd (h 0 (by omega)) (by omega)
  | m + 1, 0, f, _, _ => by omega
  | m + 1, k + 1, f, h, g => by
    have ih := php m k (fun i => if f i = m then f k else f i) (fun i hi => ?_) (fun i j hij hj => ?_)
    · omega
    · show (if f i = m then f k else f i) < m
      have h1 := h i (by omega)
      have h2 := h k (by omega)
      have h3 := g i k hi (by omega)
      split <;> omega
    · show (if f i = m then f k else f i) ≠ (if f j = m then f k else f j)
      have h1 := g i j hij (by omega)
      have h2 := g i k (by omega) (by omega)
      have h3 := g j k (by omega) (by omega)
      split <;> split <;> omega
/-- matches of one day that are not walked over: at most one for each competition and home -/
def LS_ (T : Zt) (L : Int → Int) (d n k : Int) : Prop := (∀ j, 0 ≤ j → j < n → 0 ≤ L j ∧ L j < k ∧ T 102 (L j) 5 = d ∧ T 102 (L j) 6 = -1) ∧ ∀ a b, 0 ≤ a → a < b → b < n → L a < L b
theorem LS_u {T : Zt} {L L1 : Int → Int} {d n k : Int} (h : LS_ T L d n k) (e1 : L1 n = k) (e2 : ∀ j, j < n → L1 j = L j) (hk : 0 ≤ k ∧ T 102 k 5 = d ∧ T 102 k 6 = -1) : LS_ T L1 d (n + 1) (k + 1) := by
  refine ⟨fun j a b => ?_, fun a b x y z => ?_⟩
  · by_cases w : j = n
    · rw [w, e1]; omega
    · rw [e2 j (by omega)]
      have := h.1 j a (by omega)
      omega
  · by_cases w : b = n
    · rw [w, e1, e2 a (by omega)]
      exact (h.1 a x (by omega)).2.1
    · rw [e2 a (by omega), e2 b (by omega)]
      exact h.2 a b x y (by omega)
theorem LS_m {T : Zt} {L : Int → Int} {d n k k2 : Int} (h : LS_ T L d n k) (g : k ≤ k2) : LS_ T L d n k2 := ⟨fun j a b => by have := h.1 j a b; omega, h.2⟩
theorem LS_48 {T : Zt} {L : Int → Int} {d n : Int} (hT : ok_T T) (h : LS_ T L d n (T 106 0 4)) (hkm : KM_ T) (hdd : DD_ T) : n ≤ 48 := by
  have hcc : 0 ≤ T 106 0 2 ∧ T 106 0 2 ≤ 4 := bd_f hT 106 2 (by decide +kernel : (tf_ 106)[2]? = some (0, 0, 0, 4)) 0
  have hb : ∀ i, 0 ≤ T 102 i 3 ∧ T 102 i 3 ≤ 11 := fun i => bd_f hT 102 3 (by decide +kernel : (tf_ 102)[3]? = some (0, 0, 0, 11)) i
  have key := php 48 n.toNat (fun i => (12 * T 102 (L i) 0 + T 102 (L i) 3).toNat) (fun i hi => ?_) (fun i j hij hj => ?_)
  · omega
  · have h1 := h.1 i (by omega) (by omega)
    have h2 := hkm (L i) h1.1 h1.2.1
    have h3 := hb (L i)
    show (12 * T 102 (L i) 0 + T 102 (L i) 3).toNat < 48
    omega
  · have h1 := h.1 i (by omega) (by omega)
    have h2 := hkm (L i) h1.1 h1.2.1
    have h3 := hb (L i)
    have g1 := h.1 j (by omega) (by omega)
    have g2 := hkm (L j) g1.1 g1.2.1
    have g3 := hb (L j)
    have hlt := h.2 i j (by omega) (by omega) (by omega)
    show (12 * T 102 (L i) 0 + T 102 (L i) 3).toNat ≠ (12 * T 102 (L j) 0 + T 102 (L j) 3).toNat
    intro e
    exact hdd (L i) (L j) h1.1 hlt g1.2.1 h1.2.2.2 g1.2.2.2 (by omega) (by omega) (by omega)
/-- sets of o officials as numbers below e -/
def OS_ (o e : Int) : Prop := (1 ≤ e ∧ e ≤ 256) ∧ ∀ a w, 0 ≤ a → a < e → 0 ≤ w → w < o → 0 ≤ or_ a (sl_ 1 w) ∧ or_ a (sl_ 1 w) < e
theorem sl_p {w : Int} (h : 0 ≤ w ∧ w ≤ 8) : sl_ 1 w = ((2 ^ w.toNat : Nat) : Int) := by
  have : w = 0 ∨ w = 1 ∨ w = 2 ∨ w = 3 ∨ w = 4 ∨ w = 5 ∨ w = 6 ∨ w = 7 ∨ w = 8 := by omega
  rcases this with rfl | rfl | rfl | rfl | rfl | rfl | rfl | rfl | rfl <;> decide
theorem os_1 {o : Int} (h : 0 ≤ o ∧ o ≤ 8) : OS_ o (sl_ 1 o) := by
  have h2 : (2 : Nat) ^ o.toNat ≤ 2 ^ 8 := Nat.pow_le_pow_right (by omega) (by omega)
  have h3 : 0 < (2 : Nat) ^ o.toNat := Nat.pow_pos (by omega)
  have e1 := sl_p h
  refine ⟨by rw [e1]; omega, fun a w a0 a1 w0 w1 => ?_⟩
  have e2 := sl_p (w := w) (by omega)
  have h4 : (2 : Nat) ^ w.toNat < 2 ^ o.toNat := Nat.pow_lt_pow_right (by omega) (by omega)
  rw [e1] at a1 ⊢
  have a2 : a.toNat < 2 ^ o.toNat := (Int.toNat_lt a0).mpr a1
  have h5 := Nat.or_lt_two_pow (x := a.toNat) (y := 2 ^ w.toNat) (n := o.toNat) a2 h4
  have h6 : (0 : Int) ≤ ((2 ^ w.toNat : Nat) : Int) := Int.natCast_nonneg _
  have h7n : 2 ^ w.toNat ≤ 256 := by
    have : (2 : Nat) ^ 8 = 256 := by decide
    omega
  have h7 : ((2 ^ w.toNat : Nat) : Int) ≤ ((256 : Nat) : Int) := Int.ofNat_le.mpr h7n
  have h8 : a ≤ 256 := by
    have : a.toNat ≤ 256 := by omega
    omega
  rw [or_n ⟨a0, by omega⟩ (by rw [e2]; exact ⟨h6, Int.le_trans h7 (by decide)⟩), e2, Int.toNat_natCast]
  exact ⟨Int.natCast_nonneg _, Int.ofNat_lt.mpr h5⟩
theorem bx_4 {T : Zt} (hT : ok_T T) (ha : al_ T 104 0) : T 104 0 4 < T 191 0 0 := by
  have h1 := hT.2.2.2.1 104 0 ha 4 3 190 (-2147483648) 2147483647 (by decide +kernel)
  have h2 : al_ T 190 (T 104 0 4) := ok_al (v := none) (by decide) h1
  by_cases z : T 191 0 0 ≤ T 104 0 4
  · exact absurd h2 (hT.2.2.2.2.2.2.2.2 _ z)
  · omega
theorem k1e (k e : Int) : (k + 1) * e = k * e + e := by rw [Int.add_mul, Int.one_mul]
theorem k2e (k e : Int) : (k + 2) * e = k * e + e + e := by rw [show k + 2 = k + 1 + 1 by omega, k1e, k1e]
theorem kse {k s e : Int} (h : k + 2 ≤ s + 1) (he : 0 ≤ e) : (k + 2) * e ≤ (s + 1) * e := Int.mul_le_mul_of_nonneg_right h he
abbrev po_X2_isDecided_k (T : Zt) (p : Int) : Zt → Option Zv → Prop := fun T' r => T = T' ∧ ∃ x : Int, r = some (vI x) ∧ (0 ≤ x ∧ x ≤ 1 ∧ (x = 0 → T 102 p 6 = -1))
set_option maxHeartbeats 4000000 in
theorem ct_X2_isDecided_k {T : Zt} {p : Int} : Ct_ yX2_isDecided zX2_isDecided T [vR 102 p] (po_X2_isDecided_k T p) := by
  refine ct_of pn_2 rfl rfl (Nat.le_of_ble_eq_true rfl) (fun hT hav => ?_)
  have hz : zX2_isDecided.2.2.2.1 = some .boolean → ∀ (T' : Zt) (x : Int), po_X2_isDecided_k T p T' (some (vI x)) → 0 ≤ x ∧ x ≤ 1 := fun _ T' x h => by obtain ⟨-, y, e, hy⟩ := h; cases e; omega
  show J_ zX2_isDecided T (po_X2_isDecided_k T p) 0 0 0 [some (vR 102 p)] [] T
  refine j_blx (F := fX2) tb_X2 (nn_ _) bk_X2_isDecided_0 bs_X2_isDecided_0 hz (fun K hK => ?_)
  refine hK 1 _ [vR 102 p] T ?_
  refine j_callV (y := yX2_phaseOfLife) (Yc := zX2_phaseOfLife) (rest := []) [] (ct_X2_phaseOfLife (T := T)) cl_X2_54 (qd_c (by decide +kernel)) (nn_ _) rfl (rf_of rfl) (Nat.le_of_ble_eq_true rfl) (Nat.le_of_ble_eq_true rfl) (Nat.le_of_ble_eq_true rfl) rfl ?_
  rintro _ _ ⟨rfl, x1, rfl, hx1⟩
  show J_ zX2_isDecided T (po_X2_isDecided_k T p) 0 0 4 _ [vI x1] T
  refine j_blx (F := fX2) tb_X2 (nn_ _) bk_X2_isDecided_4 bs_X2_isDecided_4 hz (fun K hK => ?_)
  refine And.intro (fun c2 => ?_) (fun c2 => ?_)
  · refine hK 12 _ [] T ?_
    refine j_blx (F := fX2) tb_X2 (nn_ _) bk_X2_isDecided_12 bs_X2_isDecided_12 hz (fun K hK => ?_)
    refine (show po_X2_isDecided_k T p T (some (vI 0)) from ?_)
    exact ⟨rfl, _, rfl, by omega⟩
  · refine hK 13 _ [vI 1] T ?_
    refine j_blx (F := fX2) tb_X2 (nn_ _) bk_X2_isDecided_13 bs_X2_isDecided_13 hz (fun K hK => ?_)
    refine (show po_X2_isDecided_k T p T (some (vI 1)) from ?_)
    exact ⟨rfl, _, rfl, by omega⟩
abbrev cX4_gainOf : ByteArray := prog_6_method_7_code
def yX4_gainOf : MethodName := ⟨RX4, "gainOf", "(LSportsHouse$Match;II)I"⟩
def zX4_gainOf : Zm := (RX4, cX4_gainOf, 5, (some .int), { frames := 1, cells := 0, slots := 0, locals := 21 })
theorem bk_X4_gainOf_0 : ck_ fX4 (some .int) cX4_gainOf 0 [.aload 0, .tableswitch 0 4 1 #[], .tableswitch 0 8 11 #[], .iload 2, .iaload, .istore 4, .iload 3, .iload 2, .ishr, .iconst 1, .iand, .ifCond .ne 53, .aload 0, .tableswitch 0 4 1 #[], .tableswitch 0 8 1 #[], .aload 1, .tableswitch 0 2 3 #[], .iaload, .iload 4, .if_icmp .eq 53, .aload 0, .tableswitch 0 4 1 #[], .tableswitch 0 8 1 #[], .aload 1, .tableswitch 0 2 4 #[], .iaload, .iload 4, .if_icmp .ne 55, .iconst (-1), .ireturn] 55 = true := qck_r (nn_ _) (by decide +kernel)
theorem bs_X4_gainOf_0 {P : Zt → Option Zv → Prop} (K : Int → Zl → List Zv → Zt → Prop) : sx_ K P [.aload 0, .tableswitch 0 4 1 #[], .tableswitch 0 8 11 #[], .iload 2, .iaload, .istore 4, .iload 3, .iload 2, .ishr, .iconst 1, .iand, .ifCond .ne 53, .aload 0, .tableswitch 0 4 1 #[], .tableswitch 0 8 1 #[], .aload 1, .tableswitch 0 2 3 #[], .iaload, .iload 4, .if_icmp .eq 53, .aload 0, .tableswitch 0 4 1 #[], .tableswitch 0 8 1 #[], .aload 1, .tableswitch 0 2 4 #[], .iaload, .iload 4, .if_icmp .ne 55, .iconst (-1), .ireturn] 55 = x_aload 0 (x_g1 104 108 (x_g1 108 571 (x_iload 2 (x_iaload (x_istore 4 (x_iload 3 (x_iload 2 (x_ishr (x_iconst 1 (x_iand (x_ifCond .ne 53 K (x_aload 0 (x_g1 104 108 (x_g1 108 561 (x_aload 1 (x_g0 102 3 0 11 (x_iaload (x_iload 4 (x_if_icmp .eq 53 K (x_aload 0 (x_g1 104 108 (x_g1 108 561 (x_aload 1 (x_g0 102 4 0 11 (x_iaload (x_iload 4 (x_if_icmp .ne 55 K (x_iconst (-1) (x_ireturn P))))))))))))))))))))))))))))) := ((xe_aload 0).trans (congrArg (x_aload 0) ((xe_g1 (kk := 104) rfl tl_4_1).trans (congrArg (x_g1 104 108) ((xe_g1 (kk := 108) rfl tl_8_11).trans (congrArg (x_g1 108 571) ((xe_iload 2).trans (congrArg (x_iload 2) ((xe_iaload).trans (congrArg (x_iaload) ((xe_istore 4).trans (congrArg (x_istore 4) ((xe_iload 3).trans (congrArg (x_iload 3) ((xe_iload 2).trans (congrArg (x_iload 2) ((xe_ishr).trans (congrArg (x_ishr) ((xe_iconst 1).trans (congrArg (x_iconst 1) ((xe_iand).trans (congrArg (x_iand) ((xe_ifCond .ne 53).trans (congrArg (x_ifCond .ne 53 K) ((xe_aload 0).trans (congrArg (x_aload 0) ((xe_g1 (kk := 104) rfl tl_4_1).trans (congrArg (x_g1 104 108) ((xe_g1 (kk := 108) rfl tl_8_1).trans (congrArg (x_g1 108 561) ((xe_aload 1).trans (congrArg (x_aload 1) ((xe_g0 (kk := 102) rfl tl_2_3).trans (congrArg (x_g0 102 3 0 11) ((xe_iaload).trans (congrArg (x_iaload) ((xe_iload 4).trans (congrArg (x_iload 4) ((xe_if_icmp .eq 53).trans (congrArg (x_if_icmp .eq 53 K) ((xe_aload 0).trans (congrArg (x_aload 0) ((xe_g1 (kk := 104) rfl tl_4_1).trans (congrArg (x_g1 104 108) ((xe_g1 (kk := 108) rfl tl_8_1).trans (congrArg (x_g1 108 561) ((xe_aload 1).trans (congrArg (x_aload 1) ((xe_g0 (kk := 102) rfl tl_2_4).trans (congrArg (x_g0 102 4 0 11) ((xe_iaload).trans (congrArg (x_iaload) ((xe_iload 4).trans (congrArg (x_iload 4) ((xe_if_icmp .ne 55).trans (congrArg (x_if_icmp .ne 55 K) ((xe_iconst (-1)).trans (congrArg (x_iconst (-1)) (xe_ireturn)))))))))))))))))))))))))))))))))))))))))))))))))))))))))))
theorem bk_X4_gainOf_53 : ck_ fX4 (some .int) cX4_gainOf 53 [.iconst (-1), .ireturn] 55 = true := qck_r (nn_ _) (by decide +kernel)
theorem bs_X4_gainOf_53 {P : Zt → Option Zv → Prop} (K : Int → Zl → List Zv → Zt → Prop) : sx_ K P [.iconst (-1), .ireturn] 55 = x_iconst (-1) (x_ireturn P) := ((xe_iconst (-1)).trans (congrArg (x_iconst (-1)) (xe_ireturn)))
theorem bk_X4_gainOf_55 : ck_ fX4 (some .int) cX4_gainOf 55 [.iconst 1000, .aload 0, .tableswitch 0 4 1 #[], .tableswitch 0 8 10 #[], .iload 2, .iaload, .aload 0, .tableswitch 0 4 1 #[], .tableswitch 0 8 0 #[], .aload 1, .tableswitch 0 2 3 #[], .iaload, .isub] 80 = true := qck_r (nn_ _) (by decide +kernel)
theorem bs_X4_gainOf_55 {P : Zt → Option Zv → Prop} (K : Int → Zl → List Zv → Zt → Prop) : sx_ K P [.iconst 1000, .aload 0, .tableswitch 0 4 1 #[], .tableswitch 0 8 10 #[], .iload 2, .iaload, .aload 0, .tableswitch 0 4 1 #[], .tableswitch 0 8 0 #[], .aload 1, .tableswitch 0 2 3 #[], .iaload, .isub] 80 = x_iconst 1000 (x_aload 0 (x_g1 104 108 (x_g1 108 570 (x_iload 2 (x_iaload (x_aload 0 (x_g1 104 108 (x_g1 108 560 (x_aload 1 (x_g0 102 3 0 11 (x_iaload (x_isub (K 80))))))))))))) := ((xe_iconst 1000).trans (congrArg (x_iconst 1000) ((xe_aload 0).trans (congrArg (x_aload 0) ((xe_g1 (kk := 104) rfl tl_4_1).trans (congrArg (x_g1 104 108) ((xe_g1 (kk := 108) rfl tl_8_10).trans (congrArg (x_g1 108 570) ((xe_iload 2).trans (congrArg (x_iload 2) ((xe_iaload).trans (congrArg (x_iaload) ((xe_aload 0).trans (congrArg (x_aload 0) ((xe_g1 (kk := 104) rfl tl_4_1).trans (congrArg (x_g1 104 108) ((xe_g1 (kk := 108) rfl tl_8_0).trans (congrArg (x_g1 108 560) ((xe_aload 1).trans (congrArg (x_aload 1) ((xe_g0 (kk := 102) rfl tl_2_3).trans (congrArg (x_g0 102 3 0 11) ((xe_iaload).trans (congrArg (x_iaload) ((xe_isub).trans (congrArg (x_isub) xe_nil))))))))))))))))))))))))))
theorem bk_X4_gainOf_83 : ck_ fX4 (some .int) cX4_gainOf 83 [.isub, .ireturn] 85 = true := qck_r (nn_ _) (by decide +kernel)
theorem bs_X4_gainOf_83 {P : Zt → Option Zv → Prop} (K : Int → Zl → List Zv → Zt → Prop) : sx_ K P [.isub, .ireturn] 85 = x_isub (x_ireturn P) := ((xe_isub).trans (congrArg (x_isub) (xe_ireturn)))
abbrev po_X4_gainOf (T : Zt) (p : Int) (w a : Int) : Zt → Option Zv → Prop := fun T' r => T = T' ∧ ∃ x : Int, r = some (vI x) ∧ (-1 ≤ x ∧ x ≤ 1000)
set_option maxHeartbeats 4000000 in
theorem ct_X4_gainOf {T : Zt} {p : Int} {w a : Int} (hw : 0 ≤ w ∧ w ≤ 7) : Ct_ yX4_gainOf zX4_gainOf T [vR 104 0, vR 102 p, vI w, vI a] (po_X4_gainOf T p w a) := by
  refine ct_of pn_4 rfl rfl (Nat.le_of_ble_eq_true rfl) (fun hT hav => ?_)
  have hr_w : -2147483648 ≤ w ∧ w ≤ 2147483647 := hav (vI w) (by simp)
  have hr_a : -2147483648 ≤ a ∧ a ≤ 2147483647 := hav (vI a) (by simp)
  have hz : zX4_gainOf.2.2.2.1 = some .boolean → ∀ (T' : Zt) (x : Int), po_X4_gainOf T p w a T' (some (vI x)) → 0 ≤ x ∧ x ≤ 1 := fun h => by cases h
  show J_ zX4_gainOf T (po_X4_gainOf T p w a) 0 0 0 [some (vR 104 0), some (vR 102 p), some (vI w), some (vI a), none] [] T
  refine j_blx (F := fX4) tb_X4 (nn_ _) bk_X4_gainOf_0 bs_X4_gainOf_0 hz (fun K hK => ?_)
  refine ix_i (by omega) ?_
  intro b1 b1b
  intro w2 w2b
  intro w3 w3b
  refine And.intro (fun c4 => ?_) (fun c4 => ?_)
  · refine hK 53 [some (vR 104 0), some (vR 102 p), some (vI w), some (vI a), some (vI (T 571 0 w))] [] T ?_
    refine j_blx (F := fX4) tb_X4 (nn_ _) bk_X4_gainOf_53 bs_X4_gainOf_53 hz (fun K hK => ?_)
    refine (show po_X4_gainOf T p w a T (some (vI (-1))) from ?_)
    exact ⟨rfl, _, rfl, by omega⟩
  · intro b5 b5b
    refine ix_i (by omega) ?_
    intro b6 b6b
    refine And.intro (fun c7 => ?_) (fun c7 => ?_)
    · refine hK 53 _ [] T ?_
      refine j_blx (F := fX4) tb_X4 (nn_ _) bk_X4_gainOf_53 bs_X4_gainOf_53 hz (fun K hK => ?_)
      refine (show po_X4_gainOf T p w a T (some (vI (-1))) from ?_)
      exact ⟨rfl, _, rfl, by omega⟩
    · intro b8 b8b
      refine ix_i (by omega) ?_
      intro b9 b9b
      refine And.intro (fun c10 => ?_) (fun c10 => ?_)
      · refine hK 55 _ [] T ?_
        refine j_blx (F := fX4) tb_X4 (nn_ _) bk_X4_gainOf_55 bs_X4_gainOf_55 hz (fun K hK => ?_)
        refine ix_i (by omega) ?_
        intro b11 b11b
        intro b12 b12b
        refine ix_i (by omega) ?_
        intro b13 b13b
        refine rg_i (by omega) ?_
        refine hK 80 _ [vI ((T 570 0 w) - (T 560 0 (T 102 p 3))), vI 1000] T ?_
        obtain ⟨x14, e15, hx14⟩ : ∃ x14 : Int, (if 0 ≤ ((T 570 0 w) - (T 560 0 (T 102 p 3))) then ((T 570 0 w) - (T 560 0 (T 102 p 3))) else -((T 570 0 w) - (T 560 0 (T 102 p 3)))) = x14 ∧ (0 ≤ x14 ∧ (x14 = (T 570 0 w) - (T 560 0 (T 102 p 3)) ∨ x14 = -((T 570 0 w) - (T 560 0 (T 102 p 3))))) := ⟨_, rfl, by split <;> omega⟩
        refine j_ab (pc := 80) (by omega) (lw_b6 207 (by decide +kernel) rfl : Cond.methodLink RX4 98 Lib.Math.abs.name ∈ lw_g) (lw_b4 94 (by decide +kernel) rfl : Cond.static Lib.Math.abs.name ∈ lw_g) (lw_b1 17 (by decide +kernel) rfl : Cond.initialized "java/lang/Math" ∈ lw_g) (lw_b4 95 (by decide +kernel) rfl : Cond.code Lib.Math.abs.name Lib.Math.abs.code 1 (some .int) ∈ lw_g) (by decide +kernel) (by decide) (by decide) (by decide) (Nat.le_of_ble_eq_true rfl) ?_
        rw [e15]
        show J_ zX4_gainOf T (po_X4_gainOf T p w a) 0 0 83 _ [vI x14, vI 1000] T
        refine j_blx (F := fX4) tb_X4 (nn_ _) bk_X4_gainOf_83 bs_X4_gainOf_83 hz (fun K hK => ?_)
        refine rg_i (by omega) ?_
        refine (show po_X4_gainOf T p w a T (some (vI (1000 - x14))) from ?_)
        exact ⟨rfl, _, rfl, by omega⟩
      · refine (show po_X4_gainOf T p w a T (some (vI (-1))) from ?_)
        exact ⟨rfl, _, rfl, by omega⟩
abbrev cX4_weigh : ByteArray := prog_6_method_5_code
def yX4_weigh : MethodName := ⟨RX4, "weigh", "(LSportsHouse$Match;III)I"⟩
def zX4_weigh : Zm := (RX4, cX4_weigh, 9, (some .int), { frames := 2, cells := 0, slots := 0, locals := 45 })
theorem bk_X4_weigh_22 : ck_ fX4 (some .int) cX4_weigh 22 [.iload 7, .aload 0, .tableswitch 0 4 1 #[], .tableswitch 0 8 12 #[], .if_icmp .ge 80, .aload 0, .aload 1, .iload 7, .iload 3] 39 = true := qck_r (nn_ _) (by decide +kernel)
theorem bs_X4_weigh_22 {P : Zt → Option Zv → Prop} (K : Int → Zl → List Zv → Zt → Prop) : sx_ K P [.iload 7, .aload 0, .tableswitch 0 4 1 #[], .tableswitch 0 8 12 #[], .if_icmp .ge 80, .aload 0, .aload 1, .iload 7, .iload 3] 39 = x_iload 7 (x_aload 0 (x_g1 104 108 (x_g0 108 12 0 8 (x_if_icmp .ge 80 K (x_aload 0 (x_aload 1 (x_iload 7 (x_iload 3 (K 39))))))))) := ((xe_iload 7).trans (congrArg (x_iload 7) ((xe_aload 0).trans (congrArg (x_aload 0) ((xe_g1 (kk := 104) rfl tl_4_1).trans (congrArg (x_g1 104 108) ((xe_g0 (kk := 108) rfl tl_8_12).trans (congrArg (x_g0 108 12 0 8) ((xe_if_icmp .ge 80).trans (congrArg (x_if_icmp .ge 80 K) ((xe_aload 0).trans (congrArg (x_aload 0) ((xe_aload 1).trans (congrArg (x_aload 1) ((xe_iload 7).trans (congrArg (x_iload 7) ((xe_iload 3).trans (congrArg (x_iload 3) xe_nil))))))))))))))))))
theorem bk_X4_weigh_80 : ck_ fX4 (some .int) cX4_weigh 80 [.iload 6, .ireturn] 83 = true := qck_r (nn_ _) (by decide +kernel)
theorem bs_X4_weigh_80 {P : Zt → Option Zv → Prop} (K : Int → Zl → List Zv → Zt → Prop) : sx_ K P [.iload 6, .ireturn] 83 = x_iload 6 (x_ireturn P) := ((xe_iload 6).trans (congrArg (x_iload 6) (xe_ireturn)))
set_option maxRecDepth 100000 in
theorem cl_X4_70 : cv_ RX4 70 yX4_gainOf zX4_gainOf 4 3 := ⟨gi_V (lw_b6 203 (by decide +kernel) rfl : Cond.methodLink RX4 70 yX4_gainOf ∈ lw_g) (lw_b6 205 (by decide +kernel) rfl : Cond.instanceMethod yX4_gainOf ∈ lw_g) (lw_sel 104 rfl : Cond.selects yX4_gainOf.cls yX4_gainOf yX4_gainOf ∈ lw_g) (lw_b1 9 (by decide +kernel) rfl : Cond.initialized yX4_gainOf.cls ∈ lw_g) (lw_b6 206 rfl rfl : Cond.code yX4_gainOf cX4_gainOf 5 (some .int) ∈ lw_g), ⟨by decide, by decide, by decide +kernel⟩, ⟨_, _, rfl⟩⟩
theorem bk_X4_weigh_42 : ck_ fX4 (some .int) cX4_weigh 42 [.istore 8, .iload 8, .iconst (-1), .if_icmp .eq 74, .iload 6, .iload 8, .aload 0, .tableswitch 0 4 4 #[], .iload 5, .iload 3, .iconst 1, .iload 7, .ishl, .ior, .iadd, .iaload, .fadd] 69 = true := qck_r (nn_ _) (by decide +kernel)
theorem bs_X4_weigh_42 {P : Zt → Option Zv → Prop} (K : Int → Zl → List Zv → Zt → Prop) : sx_ K P [.istore 8, .iload 8, .iconst (-1), .if_icmp .eq 74, .iload 6, .iload 8, .aload 0, .tableswitch 0 4 4 #[], .iload 5, .iload 3, .iconst 1, .iload 7, .ishl, .ior, .iadd, .iaload, .fadd] 69 = x_istore 8 (x_iload 8 (x_iconst (-1) (x_if_icmp .eq 74 K (x_iload 6 (x_iload 8 (x_aload 0 (x_g3 104 190 4 (x_iload 5 (x_iload 3 (x_iconst 1 (x_iload 7 (x_ishl (x_ior (x_iadd (x_iaload (x_fadd (K 69))))))))))))))))) := ((xe_istore 8).trans (congrArg (x_istore 8) ((xe_iload 8).trans (congrArg (x_iload 8) ((xe_iconst (-1)).trans (congrArg (x_iconst (-1)) ((xe_if_icmp .eq 74).trans (congrArg (x_if_icmp .eq 74 K) ((xe_iload 6).trans (congrArg (x_iload 6) ((xe_iload 8).trans (congrArg (x_iload 8) ((xe_aload 0).trans (congrArg (x_aload 0) ((xe_g3 (kk := 104) rfl tl_4_4).trans (congrArg (x_g3 104 190 4) ((xe_iload 5).trans (congrArg (x_iload 5) ((xe_iload 3).trans (congrArg (x_iload 3) ((xe_iconst 1).trans (congrArg (x_iconst 1) ((xe_iload 7).trans (congrArg (x_iload 7) ((xe_ishl).trans (congrArg (x_ishl) ((xe_ior).trans (congrArg (x_ior) ((xe_iadd).trans (congrArg (x_iadd) ((xe_iaload).trans (congrArg (x_iaload) ((xe_fadd).trans (congrArg (x_fadd) xe_nil))))))))))))))))))))))))))))))))))
theorem bk_X4_weigh_74 : ck_ fX4 (some .int) cX4_weigh 74 [.iinc 7 1, .goto 22] 80 = true := qck_r (nn_ _) (by decide +kernel)
theorem bs_X4_weigh_74 {P : Zt → Option Zv → Prop} (K : Int → Zl → List Zv → Zt → Prop) : sx_ K P [.iinc 7 1, .goto 22] 80 = x_iinc 7 1 (x_goto 22 K) := ((xe_iinc 7 1).trans (congrArg (x_iinc 7 1) (xe_goto 22)))
theorem bk_X4_weigh_72 : ck_ fX4 (some .int) cX4_weigh 72 [.istore 6, .iinc 7 1, .goto 22] 80 = true := qck_r (nn_ _) (by decide +kernel)
theorem bs_X4_weigh_72 {P : Zt → Option Zv → Prop} (K : Int → Zl → List Zv → Zt → Prop) : sx_ K P [.istore 6, .iinc 7 1, .goto 22] 80 = x_istore 6 (x_iinc 7 1 (x_goto 22 K)) := ((xe_istore 6).trans (congrArg (x_istore 6) ((xe_iinc 7 1).trans (congrArg (x_iinc 7 1) (xe_goto 22)))))
theorem bk_X4_weigh_0 : ck_ fX4 (some .int) cX4_weigh 0 [.iload 2, .iconst 1, .iadd, .iload 4, .imul, .istore 5, .aload 0, .tableswitch 0 4 4 #[], .iload 5, .iload 3, .iadd, .iaload, .istore 6, .iconst 0, .istore 7] 22 = true := qck_r (nn_ _) (by decide +kernel)
theorem bs_X4_weigh_0 {P : Zt → Option Zv → Prop} (K : Int → Zl → List Zv → Zt → Prop) : sx_ K P [.iload 2, .iconst 1, .iadd, .iload 4, .imul, .istore 5, .aload 0, .tableswitch 0 4 4 #[], .iload 5, .iload 3, .iadd, .iaload, .istore 6, .iconst 0, .istore 7] 22 = x_iload 2 (x_iconst 1 (x_iadd (x_iload 4 (x_imul (x_istore 5 (x_aload 0 (x_g3 104 190 4 (x_iload 5 (x_iload 3 (x_iadd (x_iaload (x_istore 6 (x_iconst 0 (x_istore 7 (K 22))))))))))))))) := ((xe_iload 2).trans (congrArg (x_iload 2) ((xe_iconst 1).trans (congrArg (x_iconst 1) ((xe_iadd).trans (congrArg (x_iadd) ((xe_iload 4).trans (congrArg (x_iload 4) ((xe_imul).trans (congrArg (x_imul) ((xe_istore 5).trans (congrArg (x_istore 5) ((xe_aload 0).trans (congrArg (x_aload 0) ((xe_g3 (kk := 104) rfl tl_4_4).trans (congrArg (x_g3 104 190 4) ((xe_iload 5).trans (congrArg (x_iload 5) ((xe_iload 3).trans (congrArg (x_iload 3) ((xe_iadd).trans (congrArg (x_iadd) ((xe_iaload).trans (congrArg (x_iaload) ((xe_istore 6).trans (congrArg (x_istore 6) ((xe_iconst 0).trans (congrArg (x_iconst 0) ((xe_istore 7).trans (congrArg (x_istore 7) xe_nil))))))))))))))))))))))))))))))
abbrev po_X4_weigh (T : Zt) (p : Int) (k a e : Int) : Zt → Option Zv → Prop := fun T' r => T = T' ∧ ∃ x : Int, r = some (vI x) ∧ (-2147483648 ≤ x ∧ x ≤ 2147483647)
set_option maxHeartbeats 4000000 in
theorem ct_X4_weigh {T : Zt} {p : Int} {k a e : Int} (hk : 0 ≤ k ∧ k < 48) (ha : 0 ≤ a ∧ a < e) (hO : OS_ (T 108 0 12) e) (hL : (k + 2) * e ≤ T 190 (T 104 0 4) (-2)) : Ct_ yX4_weigh zX4_weigh T [vR 104 0, vR 102 p, vI k, vI a, vI e] (po_X4_weigh T p k a e) := by
  refine ct_of pn_4 rfl rfl (Nat.le_of_ble_eq_true rfl) (fun hT hav => ?_)
  have hr_k : -2147483648 ≤ k ∧ k ≤ 2147483647 := hav (vI k) (by simp)
  have hr_a : -2147483648 ≤ a ∧ a ≤ 2147483647 := hav (vI a) (by simp)
  have hr_e : -2147483648 ≤ e ∧ e ≤ 2147483647 := hav (vI e) (by simp)
  have hz : zX4_weigh.2.2.2.1 = some .boolean → ∀ (T' : Zt) (x : Int), po_X4_weigh T p k a e T' (some (vI x)) → 0 ≤ x ∧ x ≤ 1 := fun h => by cases h
  have hb_officials : 0 ≤ T 108 0 12 ∧ T 108 0 12 ≤ 8 := bd_f hT 108 12 (by decide +kernel : (tf_ 108)[12]? = some (0, 0, 0, 8)) 0
  have hE := hO.1
  have hm := mlb (a := k + 2) (b := e) (A := 50) (B := 256) (by omega) (by omega)
  have x1 := k1e k e
  have x2 := k2e k e
  have hm0 := mlb (a := k) (b := e) (A := 48) (B := 256) (by omega) (by omega)
  show J_ zX4_weigh T (po_X4_weigh T p k a e) 0 0 0 [some (vR 104 0), some (vR 102 p), some (vI k), some (vI a), some (vI e), none, none, none, none] [] T
  have c_22 : ∀ (nn : Nat) (v : Int) (j : Int), ((T 108 0 12 - j).toNat) ≤ nn → (0 ≤ j ∧ -2147483648 ≤ v ∧ v ≤ 2147483647) → J_ zX4_weigh T (po_X4_weigh T p k a e) 0 0 22 [some (vR 104 0), some (vR 102 p), some (vI k), some (vI a), some (vI e), some (vI ((k + 1) * e)), some (vI v), some (vI j), none] [] T := by
    intro nn
    induction nn using Nat.strongRecOn with
    | _ nn ih_22 =>
      intro v j hm_22 i1
      refine j_blx (F := fX4) tb_X4 (nn_ _) bk_X4_weigh_22 bs_X4_weigh_22 hz (fun K hK => ?_)
      intro b1 b1b
      refine And.intro (fun c2 => ?_) (fun c2 => ?_)
      · refine hK 80 _ [] T ?_
        refine j_blx (F := fX4) tb_X4 (nn_ _) bk_X4_weigh_80 bs_X4_weigh_80 hz (fun K hK => ?_)
        refine (show po_X4_weigh T p k a e T (some (vI v)) from ?_)
        exact ⟨rfl, _, rfl, by omega⟩
      · refine hK 39 _ [vI a, vI j, vR 102 p, vR 104 0] T ?_
        refine j_callV (y := yX4_gainOf) (Yc := zX4_gainOf) (rest := []) [vR 102 p, vI j, vI a] (ct_X4_gainOf (T := T) (by omega)) cl_X4_70 (qd_c (by decide +kernel)) (nn_ _) rfl (rf_of rfl) (Nat.le_of_ble_eq_true rfl) (Nat.le_of_ble_eq_true rfl) (Nat.le_of_ble_eq_true rfl) rfl ?_
        rintro _ _ ⟨rfl, x3, rfl, hx3⟩
        show J_ zX4_weigh T (po_X4_weigh T p k a e) 0 0 42 _ [vI x3] T
        refine j_blx (F := fX4) tb_X4 (nn_ _) bk_X4_weigh_42 bs_X4_weigh_42 hz (fun K hK => ?_)
        refine And.intro (fun c4 => ?_) (fun c4 => ?_)
        · refine hK 74 [some (vR 104 0), some (vR 102 p), some (vI k), some (vI a), some (vI e), some (vI ((k + 1) * e)), some (vI v), some (vI j), some (vI x3)] [] T ?_
          refine j_blx (F := fX4) tb_X4 (nn_ _) bk_X4_weigh_74 bs_X4_weigh_74 hz (fun K hK => ?_)
          refine rg_i (by omega) ?_
          refine hK 22 [some (vR 104 0), some (vR 102 p), some (vI k), some (vI a), some (vI e), some (vI ((k + 1) * e)), some (vI v), some (vI (j + 1)), some (vI x3)] [] T ?_
          refine j_drop [some (vR 104 0), some (vR 102 p), some (vI k), some (vI a), some (vI e), some (vI ((k + 1) * e)), some (vI v), some (vI (j + 1)), none] (fun k v hk => ?_) rfl ?_
          · match k, hk with
            | 0, hk => exact hk
            | 1, hk => exact hk
            | 2, hk => exact hk
            | 3, hk => exact hk
            | 4, hk => exact hk
            | 5, hk => exact hk
            | 6, hk => exact hk
            | 7, hk => exact hk
            | 8, hk => cases hk
            | k + 9, hk => cases hk
          refine ih_22 _ ?_ v (j + 1) (Nat.le_refl _) ?_
          · omega
          · omega
        · intro w6 w6b
          intro w7 w7b
          have y8 := hO.2 a j (by omega) (by omega) (by omega) (by omega)
          refine rg_i (by omega) ?_
          refine ix_i (by omega) ?_
          intro b9 b9b
          intro w10 w10b
          refine hK 69 [some (vR 104 0), some (vR 102 p), some (vI k), some (vI a), some (vI e), some (vI ((k + 1) * e)), some (vI v), some (vI j), some (vI x3)] [vI (wr_ (x3 + (T 190 (T 104 0 4) (((k + 1) * e) + (or_ a (sl_ 1 j)))))), vI v] T ?_
          obtain ⟨x11, e12, hx11⟩ : ∃ x11 : Int, (if v < (wr_ (x3 + (T 190 (T 104 0 4) (((k + 1) * e) + (or_ a (sl_ 1 j)))))) then (wr_ (x3 + (T 190 (T 104 0 4) (((k + 1) * e) + (or_ a (sl_ 1 j)))))) else v) = x11 ∧ ((x11 = v ∨ x11 = wr_ (x3 + (T 190 (T 104 0 4) (((k + 1) * e) + (or_ a (sl_ 1 j)))))) ∧ v ≤ x11 ∧ wr_ (x3 + (T 190 (T 104 0 4) (((k + 1) * e) + (or_ a (sl_ 1 j))))) ≤ x11) := ⟨_, rfl, by split <;> omega⟩
          refine j_mx (pc := 69) (lw_b6 208 (by decide +kernel) rfl : Cond.methodLink RX4 74 Lib.Math.max.name ∈ lw_g) (lw_b4 101 (by decide +kernel) rfl : Cond.static Lib.Math.max.name ∈ lw_g) (lw_b1 17 (by decide +kernel) rfl : Cond.initialized "java/lang/Math" ∈ lw_g) (lw_b4 102 (by decide +kernel) rfl : Cond.code Lib.Math.max.name Lib.Math.max.code 2 (some .int) ∈ lw_g) (by decide +kernel) (by decide) (by decide) (by decide) (Nat.le_of_ble_eq_true rfl) ?_
          rw [e12]
          show J_ zX4_weigh T (po_X4_weigh T p k a e) 0 0 72 _ [vI x11] T
          refine j_blx (F := fX4) tb_X4 (nn_ _) bk_X4_weigh_72 bs_X4_weigh_72 hz (fun K hK => ?_)
          refine rg_i (by omega) ?_
          refine hK 22 [some (vR 104 0), some (vR 102 p), some (vI k), some (vI a), some (vI e), some (vI ((k + 1) * e)), some (vI x11), some (vI (j + 1)), some (vI x3)] [] T ?_
          refine j_drop [some (vR 104 0), some (vR 102 p), some (vI k), some (vI a), some (vI e), some (vI ((k + 1) * e)), some (vI x11), some (vI (j + 1)), none] (fun k v hk => ?_) rfl ?_
          · match k, hk with
            | 0, hk => exact hk
            | 1, hk => exact hk
            | 2, hk => exact hk
            | 3, hk => exact hk
            | 4, hk => exact hk
            | 5, hk => exact hk
            | 6, hk => exact hk
            | 7, hk => exact hk
            | 8, hk => cases hk
            | k + 9, hk => cases hk
          refine ih_22 _ ?_ x11 (j + 1) (Nat.le_refl _) ?_
          · omega
          · omega
  refine j_blx (F := fX4) tb_X4 (nn_ _) bk_X4_weigh_0 bs_X4_weigh_0 hz (fun K hK => ?_)
  refine rg_i (by omega) ?_
  refine rg_i (by omega) ?_
  refine rg_i (by omega) ?_
  refine ix_i (by omega) ?_
  intro b14 b14b
  refine hK 22 [some (vR 104 0), some (vR 102 p), some (vI k), some (vI a), some (vI e), some (vI ((k + 1) * e)), some (vI (T 190 (T 104 0 4) (((k + 1) * e) + a))), some (vI 0), none] [] T ?_
  refine c_22 _ (T 190 (T 104 0 4) (((k + 1) * e) + a)) 0 (Nat.le_refl _) ?_
  · omega
abbrev cX4_firstBest : ByteArray := prog_6_method_6_code
def yX4_firstBest : MethodName := ⟨RX4, "firstBest", "(LSportsHouse$Match;III)I"⟩
def zX4_firstBest : Zm := (RX4, cX4_firstBest, 8, (some .int), { frames := 2, cells := 0, slots := 0, locals := 45 })
theorem bk_X4_firstBest_11 : ck_ fX4 (some .int) cX4_firstBest 11 [.iload 6, .aload 0, .tableswitch 0 4 1 #[], .tableswitch 0 8 12 #[], .if_icmp .ge 79, .aload 0, .aload 1, .iload 6, .iload 3] 28 = true := qck_r (nn_ _) (by decide +kernel)
theorem bs_X4_firstBest_11 {P : Zt → Option Zv → Prop} (K : Int → Zl → List Zv → Zt → Prop) : sx_ K P [.iload 6, .aload 0, .tableswitch 0 4 1 #[], .tableswitch 0 8 12 #[], .if_icmp .ge 79, .aload 0, .aload 1, .iload 6, .iload 3] 28 = x_iload 6 (x_aload 0 (x_g1 104 108 (x_g0 108 12 0 8 (x_if_icmp .ge 79 K (x_aload 0 (x_aload 1 (x_iload 6 (x_iload 3 (K 28))))))))) := ((xe_iload 6).trans (congrArg (x_iload 6) ((xe_aload 0).trans (congrArg (x_aload 0) ((xe_g1 (kk := 104) rfl tl_4_1).trans (congrArg (x_g1 104 108) ((xe_g0 (kk := 108) rfl tl_8_12).trans (congrArg (x_g0 108 12 0 8) ((xe_if_icmp .ge 79).trans (congrArg (x_if_icmp .ge 79 K) ((xe_aload 0).trans (congrArg (x_aload 0) ((xe_aload 1).trans (congrArg (x_aload 1) ((xe_iload 6).trans (congrArg (x_iload 6) ((xe_iload 3).trans (congrArg (x_iload 3) xe_nil))))))))))))))))))
theorem bk_X4_firstBest_79 : ck_ fX4 (some .int) cX4_firstBest 79 [.iconst (-1), .ireturn] 81 = true := qck_r (nn_ _) (by decide +kernel)
theorem bs_X4_firstBest_79 {P : Zt → Option Zv → Prop} (K : Int → Zl → List Zv → Zt → Prop) : sx_ K P [.iconst (-1), .ireturn] 81 = x_iconst (-1) (x_ireturn P) := ((xe_iconst (-1)).trans (congrArg (x_iconst (-1)) (xe_ireturn)))
theorem bk_X4_firstBest_31 : ck_ fX4 (some .int) cX4_firstBest 31 [.istore 7, .iload 7, .iconst (-1), .if_icmp .eq 73, .iload 7, .aload 0, .tableswitch 0 4 4 #[], .iload 5, .iload 3, .iconst 1, .iload 6, .ishl, .ior, .iadd, .iaload, .fadd, .aload 0, .tableswitch 0 4 4 #[], .iload 2, .iload 4, .imul, .iload 3, .iadd, .iaload, .if_icmp .ne 73, .iload 6, .ireturn] 73 = true := qck_r (nn_ _) (by decide +kernel)
theorem bs_X4_firstBest_31 {P : Zt → Option Zv → Prop} (K : Int → Zl → List Zv → Zt → Prop) : sx_ K P [.istore 7, .iload 7, .iconst (-1), .if_icmp .eq 73, .iload 7, .aload 0, .tableswitch 0 4 4 #[], .iload 5, .iload 3, .iconst 1, .iload 6, .ishl, .ior, .iadd, .iaload, .fadd, .aload 0, .tableswitch 0 4 4 #[], .iload 2, .iload 4, .imul, .iload 3, .iadd, .iaload, .if_icmp .ne 73, .iload 6, .ireturn] 73 = x_istore 7 (x_iload 7 (x_iconst (-1) (x_if_icmp .eq 73 K (x_iload 7 (x_aload 0 (x_g3 104 190 4 (x_iload 5 (x_iload 3 (x_iconst 1 (x_iload 6 (x_ishl (x_ior (x_iadd (x_iaload (x_fadd (x_aload 0 (x_g3 104 190 4 (x_iload 2 (x_iload 4 (x_imul (x_iload 3 (x_iadd (x_iaload (x_if_icmp .ne 73 K (x_iload 6 (x_ireturn P)))))))))))))))))))))))))) := ((xe_istore 7).trans (congrArg (x_istore 7) ((xe_iload 7).trans (congrArg (x_iload 7) ((xe_iconst (-1)).trans (congrArg (x_iconst (-1)) ((xe_if_icmp .eq 73).trans (congrArg (x_if_icmp .eq 73 K) ((xe_iload 7).trans (congrArg (x_iload 7) ((xe_aload 0).trans (congrArg (x_aload 0) ((xe_g3 (kk := 104) rfl tl_4_4).trans (congrArg (x_g3 104 190 4) ((xe_iload 5).trans (congrArg (x_iload 5) ((xe_iload 3).trans (congrArg (x_iload 3) ((xe_iconst 1).trans (congrArg (x_iconst 1) ((xe_iload 6).trans (congrArg (x_iload 6) ((xe_ishl).trans (congrArg (x_ishl) ((xe_ior).trans (congrArg (x_ior) ((xe_iadd).trans (congrArg (x_iadd) ((xe_iaload).trans (congrArg (x_iaload) ((xe_fadd).trans (congrArg (x_fadd) ((xe_aload 0).trans (congrArg (x_aload 0) ((xe_g3 (kk := 104) rfl tl_4_4).trans (congrArg (x_g3 104 190 4) ((xe_iload 2).trans (congrArg (x_iload 2) ((xe_iload 4).trans (congrArg (x_iload 4) ((xe_imul).trans (congrArg (x_imul) ((xe_iload 3).trans (congrArg (x_iload 3) ((xe_iadd).trans (congrArg (x_iadd) ((xe_iaload).trans (congrArg (x_iaload) ((xe_if_icmp .ne 73).trans (congrArg (x_if_icmp .ne 73 K) ((xe_iload 6).trans (congrArg (x_iload 6) (xe_ireturn)))))))))))))))))))))))))))))))))))))))))))))))))))))
theorem bk_X4_firstBest_73 : ck_ fX4 (some .int) cX4_firstBest 73 [.iinc 6 1, .goto 11] 79 = true := qck_r (nn_ _) (by decide +kernel)
theorem bs_X4_firstBest_73 {P : Zt → Option Zv → Prop} (K : Int → Zl → List Zv → Zt → Prop) : sx_ K P [.iinc 6 1, .goto 11] 79 = x_iinc 6 1 (x_goto 11 K) := ((xe_iinc 6 1).trans (congrArg (x_iinc 6 1) (xe_goto 11)))
theorem bk_X4_firstBest_0 : ck_ fX4 (some .int) cX4_firstBest 0 [.iload 2, .iconst 1, .iadd, .iload 4, .imul, .istore 5, .iconst 0, .istore 6] 11 = true := qck_r (nn_ _) (by decide +kernel)
theorem bs_X4_firstBest_0 {P : Zt → Option Zv → Prop} (K : Int → Zl → List Zv → Zt → Prop) : sx_ K P [.iload 2, .iconst 1, .iadd, .iload 4, .imul, .istore 5, .iconst 0, .istore 6] 11 = x_iload 2 (x_iconst 1 (x_iadd (x_iload 4 (x_imul (x_istore 5 (x_iconst 0 (x_istore 6 (K 11)))))))) := ((xe_iload 2).trans (congrArg (x_iload 2) ((xe_iconst 1).trans (congrArg (x_iconst 1) ((xe_iadd).trans (congrArg (x_iadd) ((xe_iload 4).trans (congrArg (x_iload 4) ((xe_imul).trans (congrArg (x_imul) ((xe_istore 5).trans (congrArg (x_istore 5) ((xe_iconst 0).trans (congrArg (x_iconst 0) ((xe_istore 6).trans (congrArg (x_istore 6) xe_nil))))))))))))))))
abbrev po_X4_firstBest (T : Zt) (p : Int) (k a e : Int) : Zt → Option Zv → Prop := fun T' r => T = T' ∧ ∃ x : Int, r = some (vI x) ∧ (x = -1 ∨ (0 ≤ x ∧ x < T 108 0 12))
set_option maxHeartbeats 4000000 in
theorem ct_X4_firstBest {T : Zt} {p : Int} {k a e : Int} (hk : 0 ≤ k ∧ k < 48) (ha : 0 ≤ a ∧ a < e) (hO : OS_ (T 108 0 12) e) (hL : (k + 2) * e ≤ T 190 (T 104 0 4) (-2)) : Ct_ yX4_firstBest zX4_firstBest T [vR 104 0, vR 102 p, vI k, vI a, vI e] (po_X4_firstBest T p k a e) := by
  refine ct_of pn_4 rfl rfl (Nat.le_of_ble_eq_true rfl) (fun hT hav => ?_)
  have hr_k : -2147483648 ≤ k ∧ k ≤ 2147483647 := hav (vI k) (by simp)
  have hr_a : -2147483648 ≤ a ∧ a ≤ 2147483647 := hav (vI a) (by simp)
  have hr_e : -2147483648 ≤ e ∧ e ≤ 2147483647 := hav (vI e) (by simp)
  have hz : zX4_firstBest.2.2.2.1 = some .boolean → ∀ (T' : Zt) (x : Int), po_X4_firstBest T p k a e T' (some (vI x)) → 0 ≤ x ∧ x ≤ 1 := fun h => by cases h
  have hb_officials : 0 ≤ T 108 0 12 ∧ T 108 0 12 ≤ 8 := bd_f hT 108 12 (by decide +kernel : (tf_ 108)[12]? = some (0, 0, 0, 8)) 0
  have hE := hO.1
  have hm := mlb (a := k + 2) (b := e) (A := 50) (B := 256) (by omega) (by omega)
  have x1 := k1e k e
  have x2 := k2e k e
  have hm0 := mlb (a := k) (b := e) (A := 48) (B := 256) (by omega) (by omega)
  show J_ zX4_firstBest T (po_X4_firstBest T p k a e) 0 0 0 [some (vR 104 0), some (vR 102 p), some (vI k), some (vI a), some (vI e), none, none, none] [] T
  have c_11 : ∀ (nn : Nat) (j : Int), ((T 108 0 12 - j).toNat) ≤ nn → (0 ≤ j) → J_ zX4_firstBest T (po_X4_firstBest T p k a e) 0 0 11 [some (vR 104 0), some (vR 102 p), some (vI k), some (vI a), some (vI e), some (vI ((k + 1) * e)), some (vI j), none] [] T := by
    intro nn
    induction nn using Nat.strongRecOn with
    | _ nn ih_11 =>
      intro j hm_11 i1
      refine j_blx (F := fX4) tb_X4 (nn_ _) bk_X4_firstBest_11 bs_X4_firstBest_11 hz (fun K hK => ?_)
      intro b1 b1b
      refine And.intro (fun c2 => ?_) (fun c2 => ?_)
      · refine hK 79 _ [] T ?_
        refine j_blx (F := fX4) tb_X4 (nn_ _) bk_X4_firstBest_79 bs_X4_firstBest_79 hz (fun K hK => ?_)
        refine (show po_X4_firstBest T p k a e T (some (vI (-1))) from ?_)
        exact ⟨rfl, _, rfl, by omega⟩
      · refine hK 28 _ [vI a, vI j, vR 102 p, vR 104 0] T ?_
        refine j_callV (y := yX4_gainOf) (Yc := zX4_gainOf) (rest := []) [vR 102 p, vI j, vI a] (ct_X4_gainOf (T := T) (by omega)) cl_X4_70 (qd_c (by decide +kernel)) (nn_ _) rfl (rf_of rfl) (Nat.le_of_ble_eq_true rfl) (Nat.le_of_ble_eq_true rfl) (Nat.le_of_ble_eq_true rfl) rfl ?_
        rintro _ _ ⟨rfl, x3, rfl, hx3⟩
        show J_ zX4_firstBest T (po_X4_firstBest T p k a e) 0 0 31 _ [vI x3] T
        refine j_blx (F := fX4) tb_X4 (nn_ _) bk_X4_firstBest_31 bs_X4_firstBest_31 hz (fun K hK => ?_)
        refine And.intro (fun c4 => ?_) (fun c4 => ?_)
        · refine hK 73 [some (vR 104 0), some (vR 102 p), some (vI k), some (vI a), some (vI e), some (vI ((k + 1) * e)), some (vI j), some (vI x3)] [] T ?_
          refine j_blx (F := fX4) tb_X4 (nn_ _) bk_X4_firstBest_73 bs_X4_firstBest_73 hz (fun K hK => ?_)
          refine rg_i (by omega) ?_
          refine hK 11 [some (vR 104 0), some (vR 102 p), some (vI k), some (vI a), some (vI e), some (vI ((k + 1) * e)), some (vI (j + 1)), some (vI x3)] [] T ?_
          refine j_drop [some (vR 104 0), some (vR 102 p), some (vI k), some (vI a), some (vI e), some (vI ((k + 1) * e)), some (vI (j + 1)), none] (fun k v hk => ?_) rfl ?_
          · match k, hk with
            | 0, hk => exact hk
            | 1, hk => exact hk
            | 2, hk => exact hk
            | 3, hk => exact hk
            | 4, hk => exact hk
            | 5, hk => exact hk
            | 6, hk => exact hk
            | 7, hk => cases hk
            | k + 8, hk => cases hk
          refine ih_11 _ ?_ (j + 1) (Nat.le_refl _) ?_
          · omega
          · omega
        · intro w6 w6b
          intro w7 w7b
          have y8 := hO.2 a j (by omega) (by omega) (by omega) (by omega)
          refine rg_i (by omega) ?_
          refine ix_i (by omega) ?_
          intro b9 b9b
          intro w10 w10b
          refine rg_i (by omega) ?_
          refine rg_i (by omega) ?_
          refine ix_i (by omega) ?_
          intro b12 b12b
          refine And.intro (fun c13 => ?_) (fun c13 => ?_)
          · refine hK 73 [some (vR 104 0), some (vR 102 p), some (vI k), some (vI a), some (vI e), some (vI ((k + 1) * e)), some (vI j), some (vI x3)] [] T ?_
            refine j_blx (F := fX4) tb_X4 (nn_ _) bk_X4_firstBest_73 bs_X4_firstBest_73 hz (fun K hK => ?_)
            refine rg_i (by omega) ?_
            refine hK 11 [some (vR 104 0), some (vR 102 p), some (vI k), some (vI a), some (vI e), some (vI ((k + 1) * e)), some (vI (j + 1)), some (vI x3)] [] T ?_
            refine j_drop [some (vR 104 0), some (vR 102 p), some (vI k), some (vI a), some (vI e), some (vI ((k + 1) * e)), some (vI (j + 1)), none] (fun k v hk => ?_) rfl ?_
            · match k, hk with
              | 0, hk => exact hk
              | 1, hk => exact hk
              | 2, hk => exact hk
              | 3, hk => exact hk
              | 4, hk => exact hk
              | 5, hk => exact hk
              | 6, hk => exact hk
              | 7, hk => cases hk
              | k + 8, hk => cases hk
            refine ih_11 _ ?_ (j + 1) (Nat.le_refl _) ?_
            · omega
            · omega
          · refine (show po_X4_firstBest T p k a e T (some (vI j)) from ?_)
            exact ⟨rfl, _, rfl, by omega⟩
  refine j_blx (F := fX4) tb_X4 (nn_ _) bk_X4_firstBest_0 bs_X4_firstBest_0 hz (fun K hK => ?_)
  refine rg_i (by omega) ?_
  refine rg_i (by omega) ?_
  refine hK 11 [some (vR 104 0), some (vR 102 p), some (vI k), some (vI a), some (vI e), some (vI ((k + 1) * e)), some (vI 0), none] [] T ?_
  refine c_11 _ 0 (Nat.le_refl _) ?_
  · omega
abbrev cX4_listMatches : ByteArray := prog_6_method_3_code
def yX4_listMatches : MethodName := ⟨RX4, "listMatches", "(I)V"⟩
def zX4_listMatches : Zm := (RX4, cX4_listMatches, 4, none, { frames := 2, cells := 0, slots := 0, locals := 40 })
theorem bk_X4_listMatches_7 : ck_ fX4 none cX4_listMatches 7 [.iload 2, .aload 0, .tableswitch 0 4 0 #[], .tableswitch 0 6 4 #[], .if_icmp .ge 69, .aload 0, .tableswitch 0 4 0 #[], .tableswitch 0 6 3 #[], .iload 2, .aaload, .astore 3, .aload 3, .tableswitch 0 2 5 #[], .iload 1, .if_icmp .ne 63, .aload 3] 37 = true := qck_r (nn_ _) (by decide +kernel)
theorem bs_X4_listMatches_7 {P : Zt → Option Zv → Prop} (K : Int → Zl → List Zv → Zt → Prop) : sx_ K P [.iload 2, .aload 0, .tableswitch 0 4 0 #[], .tableswitch 0 6 4 #[], .if_icmp .ge 69, .aload 0, .tableswitch 0 4 0 #[], .tableswitch 0 6 3 #[], .iload 2, .aaload, .astore 3, .aload 3, .tableswitch 0 2 5 #[], .iload 1, .if_icmp .ne 63, .aload 3] 37 = x_iload 2 (x_aload 0 (x_g1 104 106 (x_g0 106 4 0 400 (x_if_icmp .ge 69 K (x_aload 0 (x_g1 104 106 (x_g1 106 523 (x_iload 2 (x_aaload (x_astore 3 (x_aload 3 (x_g0 102 5 0 999 (x_iload 1 (x_if_icmp .ne 63 K (x_aload 3 (K 37)))))))))))))))) := ((xe_iload 2).trans (congrArg (x_iload 2) ((xe_aload 0).trans (congrArg (x_aload 0) ((xe_g1 (kk := 104) rfl tl_4_0).trans (congrArg (x_g1 104 106) ((xe_g0 (kk := 106) rfl tl_6_4).trans (congrArg (x_g0 106 4 0 400) ((xe_if_icmp .ge 69).trans (congrArg (x_if_icmp .ge 69 K) ((xe_aload 0).trans (congrArg (x_aload 0) ((xe_g1 (kk := 104) rfl tl_4_0).trans (congrArg (x_g1 104 106) ((xe_g1 (kk := 106) rfl tl_6_3).trans (congrArg (x_g1 106 523) ((xe_iload 2).trans (congrArg (x_iload 2) ((xe_aaload).trans (congrArg (x_aaload) ((xe_astore 3).trans (congrArg (x_astore 3) ((xe_aload 3).trans (congrArg (x_aload 3) ((xe_g0 (kk := 102) rfl tl_2_5).trans (congrArg (x_g0 102 5 0 999) ((xe_iload 1).trans (congrArg (x_iload 1) ((xe_if_icmp .ne 63).trans (congrArg (x_if_icmp .ne 63 K) ((xe_aload 3).trans (congrArg (x_aload 3) xe_nil))))))))))))))))))))))))))))))))
theorem bk_X4_listMatches_69 : ck_ fX4 none cX4_listMatches 69 [.return_] 70 = true := qck_r (nn_ _) (by decide +kernel)
theorem bs_X4_listMatches_69 {P : Zt → Option Zv → Prop} (K : Int → Zl → List Zv → Zt → Prop) : sx_ K P [.return_] 70 = x_return_ P := (xe_return_)
theorem bk_X4_listMatches_63 : ck_ fX4 none cX4_listMatches 63 [.iinc 2 1, .goto 7] 69 = true := qck_r (nn_ _) (by decide +kernel)
theorem bs_X4_listMatches_63 {P : Zt → Option Zv → Prop} (K : Int → Zl → List Zv → Zt → Prop) : sx_ K P [.iinc 2 1, .goto 7] 69 = x_iinc 2 1 (x_goto 7 K) := ((xe_iinc 2 1).trans (congrArg (x_iinc 2 1) (xe_goto 7)))
set_option maxRecDepth 100000 in
theorem cl_X4_63 : cv_ RX4 63 yX2_isDecided zX2_isDecided 2 0 := ⟨gi_V (lw_b6 194 (by decide +kernel) rfl : Cond.methodLink RX4 63 yX2_isDecided ∈ lw_g) (lw_b4 155 (by decide +kernel) rfl : Cond.instanceMethod yX2_isDecided ∈ lw_g) (lw_b4 156 (by decide +kernel) rfl : Cond.selects yX2_isDecided.cls yX2_isDecided yX2_isDecided ∈ lw_g) (lw_b1 16 (by decide +kernel) rfl : Cond.initialized yX2_isDecided.cls ∈ lw_g) (lw_b4 157 rfl rfl : Cond.code yX2_isDecided cX2_isDecided 1 (some .boolean) ∈ lw_g), ⟨by decide, by decide, by decide +kernel⟩, ⟨_, _, rfl⟩⟩
theorem bk_X4_listMatches_40 : ck_ fX4 none cX4_listMatches 40 [.ifCond .ne 63, .aload 0, .tableswitch 0 4 2 #[], .aload 0, .tableswitch 0 4 3 #[], .iload 2, .iastore, .aload 0, .dup, .tableswitch 0 4 3 #[], .iconst 1, .iadd, .tableswitch 1 4 3 #[], .iinc 2 1, .goto 7] 69 = true := qck_r (nn_ _) (by decide +kernel)
theorem bs_X4_listMatches_40 {P : Zt → Option Zv → Prop} (K : Int → Zl → List Zv → Zt → Prop) : sx_ K P [.ifCond .ne 63, .aload 0, .tableswitch 0 4 2 #[], .aload 0, .tableswitch 0 4 3 #[], .iload 2, .iastore, .aload 0, .dup, .tableswitch 0 4 3 #[], .iconst 1, .iadd, .tableswitch 1 4 3 #[], .iinc 2 1, .goto 7] 69 = x_ifCond .ne 63 K (x_aload 0 (x_g1 104 482 (x_aload 0 (x_g0 104 3 0 400 (x_iload 2 (x_iastore (x_aload 0 (x_dup (x_g0 104 3 0 400 (x_iconst 1 (x_iadd (x_p 104 3 0 400 (x_iinc 2 1 (x_goto 7 K)))))))))))))) := ((xe_ifCond .ne 63).trans (congrArg (x_ifCond .ne 63 K) ((xe_aload 0).trans (congrArg (x_aload 0) ((xe_g1 (kk := 104) rfl tl_4_2).trans (congrArg (x_g1 104 482) ((xe_aload 0).trans (congrArg (x_aload 0) ((xe_g0 (kk := 104) rfl tl_4_3).trans (congrArg (x_g0 104 3 0 400) ((xe_iload 2).trans (congrArg (x_iload 2) ((xe_iastore).trans (congrArg (x_iastore) ((xe_aload 0).trans (congrArg (x_aload 0) ((xe_dup).trans (congrArg (x_dup) ((xe_g0 (kk := 104) rfl tl_4_3).trans (congrArg (x_g0 104 3 0 400) ((xe_iconst 1).trans (congrArg (x_iconst 1) ((xe_iadd).trans (congrArg (x_iadd) ((xe_p (kk := 104) rfl tl_4_3).trans (congrArg (x_p 104 3 0 400) ((xe_iinc 2 1).trans (congrArg (x_iinc 2 1) (xe_goto 7)))))))))))))))))))))))))))))
theorem bk_X4_listMatches_0 : ck_ fX4 none cX4_listMatches 0 [.aload 0, .iconst 0, .tableswitch 1 4 3 #[], .iconst 0, .istore 2] 7 = true := qck_r (nn_ _) (by decide +kernel)
theorem bs_X4_listMatches_0 {P : Zt → Option Zv → Prop} (K : Int → Zl → List Zv → Zt → Prop) : sx_ K P [.aload 0, .iconst 0, .tableswitch 1 4 3 #[], .iconst 0, .istore 2] 7 = x_aload 0 (x_iconst 0 (x_p 104 3 0 400 (x_iconst 0 (x_istore 2 (K 7))))) := ((xe_aload 0).trans (congrArg (x_aload 0) ((xe_iconst 0).trans (congrArg (x_iconst 0) ((xe_p (kk := 104) rfl tl_4_3).trans (congrArg (x_p 104 3 0 400) ((xe_iconst 0).trans (congrArg (x_iconst 0) ((xe_istore 2).trans (congrArg (x_istore 2) xe_nil))))))))))
abbrev po_X4_listMatches (T : Zt) (d : Int) : Zt → Option Zv → Prop := fun T' r => r = none ∧ fr_ [(104, [3]), (482, [])] T T' ∧ ((0 ≤ T' 104 0 3 ∧ T' 104 0 3 ≤ 48) ∧ LS_ T (T' 482 0) d (T' 104 0 3) (T 106 0 4))
set_option maxHeartbeats 4000000 in
theorem ct_X4_listMatches {T : Zt} {d : Int} (hka : KA_ T) (hkm : KM_ T) (hdd : DD_ T) : Ct_ yX4_listMatches zX4_listMatches T [vR 104 0, vI d] (po_X4_listMatches T d) := by
  refine ct_of pn_4 rfl rfl (Nat.le_of_ble_eq_true rfl) (fun hT hav => ?_)
  have hr_d : -2147483648 ≤ d ∧ d ≤ 2147483647 := hav (vI d) (by simp)
  have hz : zX4_listMatches.2.2.2.1 = some .boolean → ∀ (T' : Zt) (x : Int), po_X4_listMatches T d T' (some (vI x)) → 0 ≤ x ∧ x ≤ 1 := fun h => by cases h
  have hb_matchCount : 0 ≤ T 106 0 4 ∧ T 106 0 4 ≤ 400 := bd_f hT 106 4 (by decide +kernel : (tf_ 106)[4]? = some (0, 0, 0, 400)) 0
  show J_ zX4_listMatches T (po_X4_listMatches T d) 0 0 0 [some (vR 104 0), some (vI d), none, none] [] T
  have c_7 : ∀ (nn : Nat) (k : Int) (T1 : Zt), ((400 - k).toNat) ≤ nn → (fr_ [(104, [3]), (482, [])] T T1) → (0 ≤ k ∧ k ≤ T 106 0 4 ∧ 0 ≤ T1 104 0 3 ∧ T1 104 0 3 ≤ k) → (LS_ T (T1 482 0) d (T1 104 0 3) k) → J_ zX4_listMatches T (po_X4_listMatches T d) 0 0 7 [some (vR 104 0), some (vI d), some (vI k), none] [] T1 := by
    intro nn
    induction nn using Nat.strongRecOn with
    | _ nn ih_7 =>
      intro k T1 hm_7 hf_7 i1 ls1
      refine j_blx (F := fX4) tb_X4 (nn_ _) bk_X4_listMatches_7 bs_X4_listMatches_7 hz (fun K hK => ?_)
      intro b1 b1b
      have e2 : T1 106 0 4 = T 106 0 4 := hf_7 106 0 4 rfl
      rw [e2] at b1 b1b ⊢
      refine And.intro (fun c3 => ?_) (fun c3 => ?_)
      · refine hK 69 _ [] T1 ?_
        refine j_blx (F := fX4) tb_X4 (nn_ _) bk_X4_listMatches_69 bs_X4_listMatches_69 hz (fun K hK => ?_)
        refine (show po_X4_listMatches T d T1 (none) from ?_)
        have y0 := LS_48 (L := T1 482 0) (d := d) (n := T1 104 0 3) hT (LS_m ls1 (by omega)) hkm hdd
        exact ⟨rfl, hf_7, by omega, LS_m ls1 (by omega)⟩
      · refine ix_i (by omega) ?_
        have e5 : T1 523 0 k = T 523 0 k := hf_7 523 0 k rfl
        refine And.intro (fun c4 => ?_) (fun c4 => ?_)
        · exact absurd (show T 523 0 (k) = 0 by omega) (hka.2 _ (by omega) (by omega))
        · intro b6 b6b
          have e7 : T1 102 k 5 = T 102 k 5 := hf_7 102 k 5 rfl
          rw [e7] at b6 b6b ⊢
          refine And.intro (fun c8 => ?_) (fun c8 => ?_)
          · refine hK 63 [some (vR 104 0), some (vI d), some (vI k), some (vR 102 k)] [] T1 ?_
            refine j_blx (F := fX4) tb_X4 (nn_ _) bk_X4_listMatches_63 bs_X4_listMatches_63 hz (fun K hK => ?_)
            refine rg_i (by omega) ?_
            refine hK 7 [some (vR 104 0), some (vI d), some (vI (k + 1)), some (vR 102 k)] [] T1 ?_
            refine j_drop [some (vR 104 0), some (vI d), some (vI (k + 1)), none] (fun k v hk => ?_) rfl ?_
            · match k, hk with
              | 0, hk => exact hk
              | 1, hk => exact hk
              | 2, hk => exact hk
              | 3, hk => cases hk
              | k + 4, hk => cases hk
            refine ih_7 _ ?_ (k + 1) T1 (Nat.le_refl _) ?_ ?_ ?_
            · omega
            · exact fr_t (fr_0 _ _) (fr_s hf_7 rfl)
            · omega
            · exact LS_m ls1 (by omega)
          · refine hK 37 [some (vR 104 0), some (vI d), some (vI k), some (vR 102 k)] [vR 102 k] T1 ?_
            refine j_callV (y := yX2_isDecided) (Yc := zX2_isDecided) (rest := []) [] (ct_X2_isDecided_k (T := T1)) cl_X4_63 (qd_c (by decide +kernel)) (nn_ _) rfl (rf_of rfl) (Nat.le_of_ble_eq_true rfl) (Nat.le_of_ble_eq_true rfl) (Nat.le_of_ble_eq_true rfl) rfl ?_
            rintro _ _ ⟨rfl, x9, rfl, hx9⟩
            show J_ zX4_listMatches T (po_X4_listMatches T d) 0 0 40 _ [vI x9] T1
            refine j_blx (F := fX4) tb_X4 (nn_ _) bk_X4_listMatches_40 bs_X4_listMatches_40 hz (fun K hK => ?_)
            refine And.intro (fun c10 => ?_) (fun c10 => ?_)
            · refine hK 63 _ [] T1 ?_
              refine j_blx (F := fX4) tb_X4 (nn_ _) bk_X4_listMatches_63 bs_X4_listMatches_63 hz (fun K hK => ?_)
              refine rg_i (by omega) ?_
              refine hK 7 [some (vR 104 0), some (vI d), some (vI (k + 1)), some (vR 102 k)] [] T1 ?_
              refine j_drop [some (vR 104 0), some (vI d), some (vI (k + 1)), none] (fun k v hk => ?_) rfl ?_
              · match k, hk with
                | 0, hk => exact hk
                | 1, hk => exact hk
                | 2, hk => exact hk
                | 3, hk => cases hk
                | k + 4, hk => cases hk
              refine ih_7 _ ?_ (k + 1) T1 (Nat.le_refl _) ?_ ?_ ?_
              · omega
              · exact fr_t (fr_0 _ _) (fr_s hf_7 rfl)
              · omega
              · exact LS_m ls1 (by omega)
            · intro b11 b11b
              refine iy_i (by omega) (by omega) ?_
              refine x_nm (fun U12 hU12 => ?_)
              have e13 := up_f hU12
              intro b14 b14b
              have e15 : U12 104 0 3 = T1 104 0 3 := up_k hU12 (by exact Nat.ne_of_beq_eq_false rfl) 0 3
              rw [e15] at b14 b14b ⊢
              refine rg_i (by omega) ?_
              refine bd_i (by omega) ?_
              refine x_nm (fun U16 hU16 => ?_)
              have e17 := up_f hU16
              refine rg_i (by omega) ?_
              refine hK 7 [some (vR 104 0), some (vI d), some (vI (k + 1)), some (vR 102 k)] [] U16 ?_
              refine j_drop [some (vR 104 0), some (vI d), some (vI (k + 1)), none] (fun k v hk => ?_) rfl ?_
              · match k, hk with
                | 0, hk => exact hk
                | 1, hk => exact hk
                | 2, hk => exact hk
                | 3, hk => cases hk
                | k + 4, hk => cases hk
              have e18 : U16 104 0 3 = (T1 104 0 3) + 1 := up_f hU16
              refine ih_7 _ ?_ (k + 1) U16 (Nat.le_refl _) ?_ ?_ ?_
              · omega
              · exact fr_u (fr_u (fr_t (fr_0 _ _) (fr_s hf_7 rfl)) hU12 rfl) hU16 rfl
              · omega
              · have y1 : U16 104 0 3 = T1 104 0 3 + 1 := by have := up_f hU16; omega
                have y2 : ∀ j, U16 482 0 j = U12 482 0 j := fun j => up_k hU16 (by exact Nat.ne_of_beq_eq_false rfl) _ _
                rw [y1, show (U16 482 0) = (U12 482 0) from funext y2]
                have z1 : T1 102 k 6 = T 102 k 6 := hf_7 102 k 6 rfl
                have z2 : T1 102 k 5 = T 102 k 5 := hf_7 102 k 5 rfl
                exact LS_u ls1 (up_f hU12) (fun j hj => up_g hU12 (fun q => by omega)) (by omega)
  refine j_blx (F := fX4) tb_X4 (nn_ _) bk_X4_listMatches_0 bs_X4_listMatches_0 hz (fun K hK => ?_)
  refine bd_i (by omega) ?_
  refine x_nm (fun U19 hU19 => ?_)
  have e20 := up_f hU19
  refine hK 7 [some (vR 104 0), some (vI d), some (vI 0), none] [] U19 ?_
  have e21 : U19 104 0 3 = 0 := up_f hU19
  refine c_7 _ 0 U19 (Nat.le_refl _) ?_ ?_ ?_
  · exact fr_u (fr_0 _ _) hU19 rfl
  · omega
  · exact ⟨fun j a b => by have := up_f hU19; omega, fun a b x y z => by have := up_f hU19; omega⟩
abbrev cX4_weighAll : ByteArray := prog_6_method_4_code
def yX4_weighAll : MethodName := ⟨RX4, "weighAll", "(I)V"⟩
def zX4_weighAll : Zm := (RX4, cX4_weighAll, 6, none, { frames := 3, cells := 1, slots := 12544, locals := 73 })
set_option maxRecDepth 100000 in
theorem cl_X4_67 : cv_ RX4 67 yX4_weigh zX4_weigh 4 4 := ⟨gi_V (lw_b6 199 (by decide +kernel) rfl : Cond.methodLink RX4 67 yX4_weigh ∈ lw_g) (lw_b6 201 (by decide +kernel) rfl : Cond.instanceMethod yX4_weigh ∈ lw_g) (lw_sel 106 rfl : Cond.selects yX4_weigh.cls yX4_weigh yX4_weigh ∈ lw_g) (lw_b1 9 (by decide +kernel) rfl : Cond.initialized yX4_weigh.cls ∈ lw_g) (lw_b6 202 rfl rfl : Cond.code yX4_weigh cX4_weigh 9 (some .int) ∈ lw_g), ⟨by decide, by decide, by decide +kernel⟩, ⟨_, _, rfl⟩⟩
theorem fr5_X4_15 : fr5_ RX4 15 4 4 := ⟨_, _, _, rfl, by decide, by decide, (lw_b2 153 (by decide +kernel) rfl : Cond.fieldLink RX4 15 _ _ _ ∈ lw_g), rfl, fun a => ⟨.array .int, by decide +kernel, rfl, rfl⟩⟩
abbrev cX4_share : ByteArray := prog_6_method_2_code
def yX4_share : MethodName := ⟨RX4, "share", "(I)I"⟩
def zX4_share : Zm := (RX4, cX4_share, 8, (some .int), { frames := 4, cells := 1, slots := 12544, locals := 98 })
set_option maxRecDepth 100000 in
theorem cl_X4_48 : cv_ RX4 48 yX4_firstBest zX4_firstBest 4 4 := ⟨gi_V (lw_b6 209 (by decide +kernel) rfl : Cond.methodLink RX4 48 yX4_firstBest ∈ lw_g) (lw_b6 211 (by decide +kernel) rfl : Cond.instanceMethod yX4_firstBest ∈ lw_g) (lw_sel 103 rfl : Cond.selects yX4_firstBest.cls yX4_firstBest yX4_firstBest ∈ lw_g) (lw_b1 9 (by decide +kernel) rfl : Cond.initialized yX4_firstBest.cls ∈ lw_g) (lw_b6 212 rfl rfl : Cond.code yX4_firstBest cX4_firstBest 8 (some .int) ∈ lw_g), ⟨by decide, by decide, by decide +kernel⟩, ⟨_, _, rfl⟩⟩
set_option maxRecDepth 100000 in
theorem cl_X4_26 : cv_ RX4 26 yX4_listMatches zX4_listMatches 4 1 := ⟨gi_V (lw_b6 190 (by decide +kernel) rfl : Cond.methodLink RX4 26 yX4_listMatches ∈ lw_g) (lw_b6 192 (by decide +kernel) rfl : Cond.instanceMethod yX4_listMatches ∈ lw_g) (lw_sel 105 rfl : Cond.selects yX4_listMatches.cls yX4_listMatches yX4_listMatches ∈ lw_g) (lw_b1 9 (by decide +kernel) rfl : Cond.initialized yX4_listMatches.cls ∈ lw_g) (lw_b6 193 rfl rfl : Cond.code yX4_listMatches cX4_listMatches 4 none ∈ lw_g), ⟨by decide, by decide, by decide +kernel⟩, ⟨_, _, rfl⟩⟩
set_option maxRecDepth 100000 in
theorem cl_X4_36 : cv_ RX4 36 yX4_weighAll zX4_weighAll 4 1 := ⟨gi_V (lw_b6 195 (by decide +kernel) rfl : Cond.methodLink RX4 36 yX4_weighAll ∈ lw_g) (lw_b6 197 (by decide +kernel) rfl : Cond.instanceMethod yX4_weighAll ∈ lw_g) (lw_sel 107 rfl : Cond.selects yX4_weighAll.cls yX4_weighAll yX4_weighAll ∈ lw_g) (lw_b1 9 (by decide +kernel) rfl : Cond.initialized yX4_weighAll.cls ∈ lw_g) (lw_b6 198 rfl rfl : Cond.code yX4_weighAll cX4_weighAll 6 none ∈ lw_g), ⟨by decide, by decide, by decide +kernel⟩, ⟨_, _, rfl⟩⟩
abbrev cX10_assign : ByteArray := prog_1_method_42_code
def yX10_assign : MethodName := ⟨RX10, "assign", "(I)I"⟩
def zX10_assign : Zm := (RX10, cX10_assign, 2, (some .int), { frames := 5, cells := 1, slots := 12544, locals := 125 })
set_option maxRecDepth 100000 in
theorem cl_X10_423 : cv_ RX10 423 yX4_share zX4_share 4 1 := ⟨gi_V (lw_b6 186 (by decide +kernel) rfl : Cond.methodLink RX10 423 yX4_share ∈ lw_g) (lw_b6 187 (by decide +kernel) rfl : Cond.instanceMethod yX4_share ∈ lw_g) (lw_b6 188 (by decide +kernel) rfl : Cond.selects yX4_share.cls yX4_share yX4_share ∈ lw_g) (lw_b1 9 (by decide +kernel) rfl : Cond.initialized yX4_share.cls ∈ lw_g) (lw_b6 189 rfl rfl : Cond.code yX4_share cX4_share 8 (some .int) ∈ lw_g), ⟨by decide, by decide, by decide +kernel⟩, ⟨_, _, rfl⟩⟩
abbrev po_X10_assign (T : Zt) (d : Int) : Zt → Option Zv → Prop := fun T' r => ∃ x : Int, r = some (vI x) ∧ fr_ [(104, [3, 4]), (482, []), (102, [7]), (190, []), (191, [0])] T T' ∧ lh_ T T' ∧ T' 191 0 0 ≤ T 191 0 0 + 1
