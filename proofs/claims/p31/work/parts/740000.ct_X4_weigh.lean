theorem php : ∀ (m n : Nat) (f : Nat → Nat), (∀ i, i < n → f i < m) → (∀ i j, i < j → j < n → f i ≠ f j) → n ≤ m
  | 0, n, f, h, _ => by
    by_cases z : n = 0
    · omega
    · exact absurd (h 0 (by omega)) (by omega)
  | m + 1, 0, f, _, _ => by omega
  | m + 1, k + 1, f, h, g => by
    have ih := php m k (fun i => if f i = m then f k else f i) (fun i hi => ?_) (fun i j hij hj => ?_)
    · omega
    · show (if f i = m then f k else f i) < m
      have h1 := h i (by omega)
      have h2 := h k (by omega)
      have h3 := g i k hi (by omega)
      split <;> omega
    · show (if f i = m then f k else f i) ≠ (if f j = m then f k else f j)
      have h1 := g i j hij (by omega)
      have h2 := g i k (by omega) (by omega)
      have h3 := g j k (by omega) (by omega)
      split <;> split <;> omega
/-- matches of one day that are not walked over: at most one for each competition and home -/
def LS_ (T : Zt) (L : Int → Int) (d n k : Int) : Prop := (∀ j, 0 ≤ j → j < n → 0 ≤ L j ∧ L j < k ∧ T 102 (L j) 5 = d ∧ T 102 (L j) 6 = -1) ∧ ∀ a b, 0 ≤ a → a < b → b < n → L a < L b
theorem LS_u {T : Zt} {L L1 : Int → Int} {d n k : Int} (h : LS_ T L d n k) (e1 : L1 n = k) (e2 : ∀ j, j < n → L1 j = L j) (hk : 0 ≤ k ∧ T 102 k 5 = d ∧ T 102 k 6 = -1) : LS_ T L1 d (n + 1) (k + 1) := by
  refine ⟨fun j a b => ?_, fun a b x y z => ?_⟩
  · by_cases w : j = n
    · rw [w, e1]; omega
    · rw [e2 j (by omega)]
      have := h.1 j a (by omega)
      omega
  · by_cases w : b = n
    · rw [w, e1, e2 a (by omega)]
      exact (h.1 a x (by omega)).2.1
    · rw [e2 a (by omega), e2 b (by omega)]
      exact h.2 a b x y (by omega)
theorem LS_m {T : Zt} {L : Int → Int} {d n k k2 : Int} (h : LS_ T L d n k) (g : k ≤ k2) : LS_ T L d n k2 := ⟨fun j a b => by have := h.1 j a b; omega, h.2⟩
theorem LS_48 {T : Zt} {L : Int → Int} {d n : Int} (hT : ok_T T) (h : LS_ T L d n (T 106 0 4)) (hkm : KM_ T) (hdd : DD_ T) : n ≤ 48 := by
  have hcc : 0 ≤ T 106 0 2 ∧ T 106 0 2 ≤ 4 := bd_f hT 106 2 tl_6_2 0
  have hb : ∀ i, 0 ≤ T 102 i 3 ∧ T 102 i 3 ≤ 11 := fun i => bd_f hT 102 3 tl_2_3 i
  have key := php 48 n.toNat (fun i => (12 * T 102 (L i) 0 + T 102 (L i) 3).toNat) (fun i hi => ?_) (fun i j hij hj => ?_)
  · omega
  · have h1 := h.1 i (by omega) (by omega)
    have h2 := hkm (L i) h1.1 h1.2.1
    have h3 := hb (L i)
    show (12 * T 102 (L i) 0 + T 102 (L i) 3).toNat < 48
    omega
  · have h1 := h.1 i (by omega) (by omega)
    have h2 := hkm (L i) h1.1 h1.2.1
    have h3 := hb (L i)
    have g1 := h.1 j (by omega) (by omega)
    have g2 := hkm (L j) g1.1 g1.2.1
    have g3 := hb (L j)
    have hlt := h.2 i j (by omega) (by omega) (by omega)
    show (12 * T 102 (L i) 0 + T 102 (L i) 3).toNat ≠ (12 * T 102 (L j) 0 + T 102 (L j) 3).toNat
    intro e
    exact hdd (L i) (L j) h1.1 hlt g1.2.1 h1.2.2.2 g1.2.2.2 (by omega) (by omega) (by omega)
/-- sets of o officials as numbers below e -/
def OS_ (o e : Int) : Prop := (1 ≤ e ∧ e ≤ 256) ∧ ∀ a w, 0 ≤ a → a < e → 0 ≤ w → w < o → 0 ≤ or_ a (sl_ 1 w) ∧ or_ a (sl_ 1 w) < e
theorem sl_p {w : Int} (h : 0 ≤ w ∧ w ≤ 8) : sl_ 1 w = ((2 ^ w.toNat : Nat) : Int) := by
  have : w = 0 ∨ w = 1 ∨ w = 2 ∨ w = 3 ∨ w = 4 ∨ w = 5 ∨ w = 6 ∨ w = 7 ∨ w = 8 := by omega
  rcases this with rfl | rfl | rfl | rfl | rfl | rfl | rfl | rfl | rfl <;> decide
theorem os_1 {o : Int} (h : 0 ≤ o ∧ o ≤ 8) : OS_ o (sl_ 1 o) := by
  have h2 : (2 : Nat) ^ o.toNat ≤ 2 ^ 8 := Nat.pow_le_pow_right (by omega) (by omega)
  have h3 : 0 < (2 : Nat) ^ o.toNat := Nat.pow_pos (by omega)
  have e1 := sl_p h
  refine ⟨by rw [e1]; omega, fun a w a0 a1 w0 w1 => ?_⟩
  have e2 := sl_p (w := w) (by omega)
  have h4 : (2 : Nat) ^ w.toNat < 2 ^ o.toNat := Nat.pow_lt_pow_right (by omega) (by omega)
  rw [e1] at a1 ⊢
  have a2 : a.toNat < 2 ^ o.toNat := (Int.toNat_lt a0).mpr a1
  have h5 := Nat.or_lt_two_pow (x := a.toNat) (y := 2 ^ w.toNat) (n := o.toNat) a2 h4
  have h6 : (0 : Int) ≤ ((2 ^ w.toNat : Nat) : Int) := Int.natCast_nonneg _
  have h7n : 2 ^ w.toNat ≤ 256 := by
    have : (2 : Nat) ^ 8 = 256 := by decide
    omega
  have h7 : ((2 ^ w.toNat : Nat) : Int) ≤ ((256 : Nat) : Int) := Int.ofNat_le.mpr h7n
  have h8 : a ≤ 256 := by
    have : a.toNat ≤ 256 := by omega
    omega
  rw [or_n ⟨a0, by omega⟩ (by rw [e2]; exact ⟨h6, Int.le_trans h7 (by decide)⟩), e2, Int.toNat_natCast]
  exact ⟨Int.natCast_nonneg _, Int.ofNat_lt.mpr h5⟩
theorem bx_4 {T : Zt} (hT : ok_T T) (ha : al_ T 104 0) : T 104 0 4 < T 191 0 0 := by
  have h1 := hT.2.2.2.1 104 0 ha 4 3 190 (-2147483648) 2147483647 (by decide +kernel)
  have h2 : al_ T 190 (T 104 0 4) := ok_al (v := none) (by decide) h1
  by_cases z : T 191 0 0 ≤ T 104 0 4
  · exact absurd h2 (hT.2.2.2.2.2.2.2.2 _ z)
  · omega
theorem k1e (k e : Int) : (k + 1) * e = k * e + e := by rw [Int.add_mul, Int.one_mul]
theorem k2e (k e : Int) : (k + 2) * e = k * e + e + e := by rw [show k + 2 = k + 1 + 1 by omega, k1e, k1e]
theorem kse {k s e : Int} (h : k + 2 ≤ s + 1) (he : 0 ≤ e) : (k + 2) * e ≤ (s + 1) * e := Int.mul_le_mul_of_nonneg_right h he
abbrev po_X2_isDecided_k (T : Zt) (p : Int) : Zt → Option Zv → Prop := fun T' r => T = T' ∧ ∃ x : Int, r = some (vI x) ∧ (0 ≤ x ∧ x ≤ 1 ∧ (x = 0 → T 102 p 6 = -1))
set_option maxHeartbeats 4000000 in
theorem ct_X2_isDecided_k {T : Zt} {p : Int} : Ct_ yX2_isDecided zX2_isDecided T [vR 102 p] (po_X2_isDecided_k T p) := by
  refine ct_of pn_2 rfl rfl (Nat.le_of_ble_eq_true rfl) (fun hT hav => ?_)
  have hz : zX2_isDecided.2.2.2.1 = some .boolean → ∀ (T' : Zt) (x : Int), po_X2_isDecided_k T p T' (some (vI x)) → 0 ≤ x ∧ x ≤ 1 := fun _ T' x h => by obtain ⟨-, y, e, hy⟩ := h; cases e; omega
  show J_ zX2_isDecided T (po_X2_isDecided_k T p) 0 0 0 [some (vR 102 p)] [] T
  refine j_blx (F := fX2) tb_X2 (nn_ _) bk_X2_isDecided_0 bs_X2_isDecided_0 hz (fun K hK => ?_)
  refine hK 1 _ [vR 102 p] T ?_
  refine j_callV (y := yX2_phaseOfLife) (Yc := zX2_phaseOfLife) (rest := []) [] (ct_X2_phaseOfLife (T := T)) cl_X2_54 (qd_c (by decide +kernel)) (nn_ _) rfl (rf_of rfl) (Nat.le_of_ble_eq_true rfl) (Nat.le_of_ble_eq_true rfl) (Nat.le_of_ble_eq_true rfl) rfl ?_
  rintro _ _ ⟨rfl, x1, rfl, hx1⟩
  show J_ zX2_isDecided T (po_X2_isDecided_k T p) 0 0 4 _ [vI x1] T
  refine j_blx (F := fX2) tb_X2 (nn_ _) bk_X2_isDecided_4 bs_X2_isDecided_4 hz (fun K hK => ?_)
  refine And.intro (fun c2 => ?_) (fun c2 => ?_)
  · refine hK 12 _ [] T ?_
    refine j_blx (F := fX2) tb_X2 (nn_ _) bk_X2_isDecided_12 bs_X2_isDecided_12 hz (fun K hK => ?_)
    refine (show po_X2_isDecided_k T p T (some (vI 0)) from ?_)
    exact ⟨rfl, _, rfl, by omega⟩
  · refine hK 13 _ [vI 1] T ?_
    refine j_blx (F := fX2) tb_X2 (nn_ _) bk_X2_isDecided_13 bs_X2_isDecided_13 hz (fun K hK => ?_)
    refine (show po_X2_isDecided_k T p T (some (vI 1)) from ?_)
    exact ⟨rfl, _, rfl, by omega⟩
abbrev cX4_gainOf : ByteArray := prog_6_method_7_code
def yX4_gainOf : MethodName := ⟨RX4, "gainOf", "(LSportsHouse$Match;II)I"⟩
def zX4_gainOf : Zm := (RX4, cX4_gainOf, 5, (some .int), { frames := 1, cells := 0, slots := 0, locals := 21 })
theorem bk_X4_gainOf_0 : ck_ fX4 (some .int) cX4_gainOf 0 [.aload 0, .tableswitch 0 4 1 #[], .tableswitch 0 8 11 #[], .iload 2, .iaload, .istore 4, .iload 3, .iload 2, .ishr, .iconst 1, .iand, .ifCond .ne 53, .aload 0, .tableswitch 0 4 1 #[], .tableswitch 0 8 1 #[], .aload 1, .tableswitch 0 2 3 #[], .iaload, .iload 4, .if_icmp .eq 53, .aload 0, .tableswitch 0 4 1 #[], .tableswitch 0 8 1 #[], .aload 1, .tableswitch 0 2 4 #[], .iaload, .iload 4, .if_icmp .ne 55, .iconst (-1), .ireturn] 55 = true := qck_r (nn_ _) (by decide +kernel)
theorem bs_X4_gainOf_0 {P : Zt → Option Zv → Prop} (K : Int → Zl → List Zv → Zt → Prop) : sx_ K P [.aload 0, .tableswitch 0 4 1 #[], .tableswitch 0 8 11 #[], .iload 2, .iaload, .istore 4, .iload 3, .iload 2, .ishr, .iconst 1, .iand, .ifCond .ne 53, .aload 0, .tableswitch 0 4 1 #[], .tableswitch 0 8 1 #[], .aload 1, .tableswitch 0 2 3 #[], .iaload, .iload 4, .if_icmp .eq 53, .aload 0, .tableswitch 0 4 1 #[], .tableswitch 0 8 1 #[], .aload 1, .tableswitch 0 2 4 #[], .iaload, .iload 4, .if_icmp .ne 55, .iconst (-1), .ireturn] 55 = x_aload 0 (x_g1 104 108 (x_g1 108 571 (x_iload 2 (x_iaload (x_istore 4 (x_iload 3 (x_iload 2 (x_ishr (x_iconst 1 (x_iand (x_ifCond .ne 53 K (x_aload 0 (x_g1 104 108 (x_g1 108 561 (x_aload 1 (x_g0 102 3 0 11 (x_iaload (x_iload 4 (x_if_icmp .eq 53 K (x_aload 0 (x_g1 104 108 (x_g1 108 561 (x_aload 1 (x_g0 102 4 0 11 (x_iaload (x_iload 4 (x_if_icmp .ne 55 K (x_iconst (-1) (x_ireturn P))))))))))))))))))))))))))))) := ((xe_aload 0).trans (congrArg (x_aload 0) ((xe_g1 (kk := 104) rfl tl_4_1).trans (congrArg (x_g1 104 108) ((xe_g1 (kk := 108) rfl tl_8_11).trans (congrArg (x_g1 108 571) ((xe_iload 2).trans (congrArg (x_iload 2) ((xe_iaload).trans (congrArg (x_iaload) ((xe_istore 4).trans (congrArg (x_istore 4) ((xe_iload 3).trans (congrArg (x_iload 3) ((xe_iload 2).trans (congrArg (x_iload 2) ((xe_ishr).trans (congrArg (x_ishr) ((xe_iconst 1).trans (congrArg (x_iconst 1) ((xe_iand).trans (congrArg (x_iand) ((xe_ifCond .ne 53).trans (congrArg (x_ifCond .ne 53 K) ((xe_aload 0).trans (congrArg (x_aload 0) ((xe_g1 (kk := 104) rfl tl_4_1).trans (congrArg (x_g1 104 108) ((xe_g1 (kk := 108) rfl tl_8_1).trans (congrArg (x_g1 108 561) ((xe_aload 1).trans (congrArg (x_aload 1) ((xe_g0 (kk := 102) rfl tl_2_3).trans (congrArg (x_g0 102 3 0 11) ((xe_iaload).trans (congrArg (x_iaload) ((xe_iload 4).trans (congrArg (x_iload 4) ((xe_if_icmp .eq 53).trans (congrArg (x_if_icmp .eq 53 K) ((xe_aload 0).trans (congrArg (x_aload 0) ((xe_g1 (kk := 104) rfl tl_4_1).trans (congrArg (x_g1 104 108) ((xe_g1 (kk := 108) rfl tl_8_1).trans (congrArg (x_g1 108 561) ((xe_aload 1).trans (congrArg (x_aload 1) ((xe_g0 (kk := 102) rfl tl_2_4).trans (congrArg (x_g0 102 4 0 11) ((xe_iaload).trans (congrArg (x_iaload) ((xe_iload 4).trans (congrArg (x_iload 4) ((xe_if_icmp .ne 55).trans (congrArg (x_if_icmp .ne 55 K) ((xe_iconst (-1)).trans (congrArg (x_iconst (-1)) (xe_ireturn)))))))))))))))))))))))))))))))))))))))))))))))))))))))))))
theorem bk_X4_gainOf_53 : ck_ fX4 (some .int) cX4_gainOf 53 [.iconst (-1), .ireturn] 55 = true := qck_r (nn_ _) (by decide +kernel)
theorem bs_X4_gainOf_53 {P : Zt → Option Zv → Prop} (K : Int → Zl → List Zv → Zt → Prop) : sx_ K P [.iconst (-1), .ireturn] 55 = x_iconst (-1) (x_ireturn P) := ((xe_iconst (-1)).trans (congrArg (x_iconst (-1)) (xe_ireturn)))
theorem bk_X4_gainOf_55 : ck_ fX4 (some .int) cX4_gainOf 55 [.iconst 1000, .aload 0, .tableswitch 0 4 1 #[], .tableswitch 0 8 10 #[], .iload 2, .iaload, .aload 0, .tableswitch 0 4 1 #[], .tableswitch 0 8 0 #[], .aload 1, .tableswitch 0 2 3 #[], .iaload, .isub] 80 = true := qck_r (nn_ _) (by decide +kernel)
theorem bs_X4_gainOf_55 {P : Zt → Option Zv → Prop} (K : Int → Zl → List Zv → Zt → Prop) : sx_ K P [.iconst 1000, .aload 0, .tableswitch 0 4 1 #[], .tableswitch 0 8 10 #[], .iload 2, .iaload, .aload 0, .tableswitch 0 4 1 #[], .tableswitch 0 8 0 #[], .aload 1, .tableswitch 0 2 3 #[], .iaload, .isub] 80 = x_iconst 1000 (x_aload 0 (x_g1 104 108 (x_g1 108 570 (x_iload 2 (x_iaload (x_aload 0 (x_g1 104 108 (x_g1 108 560 (x_aload 1 (x_g0 102 3 0 11 (x_iaload (x_isub (K 80))))))))))))) := ((xe_iconst 1000).trans (congrArg (x_iconst 1000) ((xe_aload 0).trans (congrArg (x_aload 0) ((xe_g1 (kk := 104) rfl tl_4_1).trans (congrArg (x_g1 104 108) ((xe_g1 (kk := 108) rfl tl_8_10).trans (congrArg (x_g1 108 570) ((xe_iload 2).trans (congrArg (x_iload 2) ((xe_iaload).trans (congrArg (x_iaload) ((xe_aload 0).trans (congrArg (x_aload 0) ((xe_g1 (kk := 104) rfl tl_4_1).trans (congrArg (x_g1 104 108) ((xe_g1 (kk := 108) rfl tl_8_0).trans (congrArg (x_g1 108 560) ((xe_aload 1).trans (congrArg (x_aload 1) ((xe_g0 (kk := 102) rfl tl_2_3).trans (congrArg (x_g0 102 3 0 11) ((xe_iaload).trans (congrArg (x_iaload) ((xe_isub).trans (congrArg (x_isub) xe_nil))))))))))))))))))))))))))
theorem bk_X4_gainOf_83 : ck_ fX4 (some .int) cX4_gainOf 83 [.isub, .ireturn] 85 = true := qck_r (nn_ _) (by decide +kernel)
theorem bs_X4_gainOf_83 {P : Zt → Option Zv → Prop} (K : Int → Zl → List Zv → Zt → Prop) : sx_ K P [.isub, .ireturn] 85 = x_isub (x_ireturn P) := ((xe_isub).trans (congrArg (x_isub) (xe_ireturn)))
abbrev po_X4_gainOf (T : Zt) (p : Int) (w a : Int) : Zt → Option Zv → Prop := fun T' r => T = T' ∧ ∃ x : Int, r = some (vI x) ∧ (-1 ≤ x ∧ x ≤ 1000)
set_option maxHeartbeats 4000000 in
theorem ct_X4_gainOf {T : Zt} {p : Int} {w a : Int} (hw : 0 ≤ w ∧ w ≤ 7) : Ct_ yX4_gainOf zX4_gainOf T [vR 104 0, vR 102 p, vI w, vI a] (po_X4_gainOf T p w a) := by
  refine ct_of pn_4 rfl rfl (Nat.le_of_ble_eq_true rfl) (fun hT hav => ?_)
  have hr_w : -2147483648 ≤ w ∧ w ≤ 2147483647 := hav (vI w) (List.mem_cons_of_mem _ (List.mem_cons_of_mem _ List.mem_cons_self))
  have hr_a : -2147483648 ≤ a ∧ a ≤ 2147483647 := hav (vI a) (List.mem_cons_of_mem _ (List.mem_cons_of_mem _ (List.mem_cons_of_mem _ List.mem_cons_self)))
  have hz : zX4_gainOf.2.2.2.1 = some .boolean → ∀ (T' : Zt) (x : Int), po_X4_gainOf T p w a T' (some (vI x)) → 0 ≤ x ∧ x ≤ 1 := fun h => by cases h
  show J_ zX4_gainOf T (po_X4_gainOf T p w a) 0 0 0 [some (vR 104 0), some (vR 102 p), some (vI w), some (vI a), none] [] T
  refine j_blx (F := fX4) tb_X4 (nn_ _) bk_X4_gainOf_0 bs_X4_gainOf_0 hz (fun K hK => ?_)
  refine ix_i (by omega) ?_
  intro b1 b1b
  intro w2 w2b
  intro w3 w3b
  refine And.intro (fun c4 => ?_) (fun c4 => ?_)
  · refine hK 53 [some (vR 104 0), some (vR 102 p), some (vI w), some (vI a), some (vI (T 571 0 w))] [] T ?_
    refine j_blx (F := fX4) tb_X4 (nn_ _) bk_X4_gainOf_53 bs_X4_gainOf_53 hz (fun K hK => ?_)
    refine (show po_X4_gainOf T p w a T (some (vI (-1))) from ?_)
    exact ⟨rfl, _, rfl, by omega⟩
  · intro b5 b5b
    refine ix_i (by omega) ?_
    intro b6 b6b
    refine And.intro (fun c7 => ?_) (fun c7 => ?_)
    · refine hK 53 _ [] T ?_
      refine j_blx (F := fX4) tb_X4 (nn_ _) bk_X4_gainOf_53 bs_X4_gainOf_53 hz (fun K hK => ?_)
      refine (show po_X4_gainOf T p w a T (some (vI (-1))) from ?_)
      exact ⟨rfl, _, rfl, by omega⟩
    · intro b8 b8b
      refine ix_i (by omega) ?_
      intro b9 b9b
      refine And.intro (fun c10 => ?_) (fun c10 => ?_)
      · refine hK 55 _ [] T ?_
        refine j_blx (F := fX4) tb_X4 (nn_ _) bk_X4_gainOf_55 bs_X4_gainOf_55 hz (fun K hK => ?_)
        refine ix_i (by omega) ?_
        intro b11 b11b
        intro b12 b12b
        refine ix_i (by omega) ?_
        intro b13 b13b
        refine rg_i (by omega) ?_
        refine hK 80 _ [vI ((T 570 0 w) - (T 560 0 (T 102 p 3))), vI 1000] T ?_
        obtain ⟨x14, e15, hx14⟩ : ∃ x14 : Int, (if 0 ≤ ((T 570 0 w) - (T 560 0 (T 102 p 3))) then ((T 570 0 w) - (T 560 0 (T 102 p 3))) else -((T 570 0 w) - (T 560 0 (T 102 p 3)))) = x14 ∧ (0 ≤ x14 ∧ (x14 = (T 570 0 w) - (T 560 0 (T 102 p 3)) ∨ x14 = -((T 570 0 w) - (T 560 0 (T 102 p 3))))) := ⟨_, rfl, by split <;> omega⟩
        refine j_ab (pc := 80) (by omega) (lwq_6 (dqc_m (dqc_m (dqc_m (dqc_m (dqc_m (dqc_m (dqa_m (List.mem_of_getElem? (i := 7) rfl)))))))) rfl : Cond.methodLink RX4 98 Lib.Math.abs.name ∈ lw_g) (lwq_4 (dqc_m (dqc_m (dqa_m (dqa_m (dqa_m (List.mem_of_getElem? (i := 6) rfl)))))) rfl : Cond.static Lib.Math.abs.name ∈ lw_g) (lwq_1 (dqa_m (dqa_m (List.mem_of_getElem? (i := 1) rfl))) rfl : Cond.initialized "java/lang/Math" ∈ lw_g) (lwq_4 (dqc_m (dqc_m (dqa_m (dqa_m (dqa_m (List.mem_of_getElem? (i := 7) rfl)))))) rfl : Cond.code Lib.Math.abs.name Lib.Math.abs.code 1 (some .int) ∈ lw_g) (by decide +kernel) (by decide) (by decide) (by decide) (Nat.le_of_ble_eq_true rfl) ?_
        rw [e15]
        clear e15
        show J_ zX4_gainOf T (po_X4_gainOf T p w a) 0 0 83 _ [vI x14, vI 1000] T
        refine j_blx (F := fX4) tb_X4 (nn_ _) bk_X4_gainOf_83 bs_X4_gainOf_83 hz (fun K hK => ?_)
        refine rg_i (by omega) ?_
        refine (show po_X4_gainOf T p w a T (some (vI (1000 - x14))) from ?_)
        exact ⟨rfl, _, rfl, by omega⟩
      · refine (show po_X4_gainOf T p w a T (some (vI (-1))) from ?_)
        exact ⟨rfl, _, rfl, by omega⟩
abbrev cX4_weigh : ByteArray := prog_6_method_5_code
def yX4_weigh : MethodName := ⟨RX4, "weigh", "(LSportsHouse$Match;III)I"⟩
def zX4_weigh : Zm := (RX4, cX4_weigh, 9, (some .int), { frames := 2, cells := 0, slots := 0, locals := 45 })
theorem bk_X4_weigh_22 : ck_ fX4 (some .int) cX4_weigh 22 [.iload 7, .aload 0, .tableswitch 0 4 1 #[], .tableswitch 0 8 12 #[], .if_icmp .ge 80, .aload 0, .aload 1, .iload 7, .iload 3] 39 = true := qck_r (nn_ _) (by decide +kernel)
theorem bs_X4_weigh_22 {P : Zt → Option Zv → Prop} (K : Int → Zl → List Zv → Zt → Prop) : sx_ K P [.iload 7, .aload 0, .tableswitch 0 4 1 #[], .tableswitch 0 8 12 #[], .if_icmp .ge 80, .aload 0, .aload 1, .iload 7, .iload 3] 39 = x_iload 7 (x_aload 0 (x_g1 104 108 (x_g0 108 12 0 8 (x_if_icmp .ge 80 K (x_aload 0 (x_aload 1 (x_iload 7 (x_iload 3 (K 39))))))))) := ((xe_iload 7).trans (congrArg (x_iload 7) ((xe_aload 0).trans (congrArg (x_aload 0) ((xe_g1 (kk := 104) rfl tl_4_1).trans (congrArg (x_g1 104 108) ((xe_g0 (kk := 108) rfl tl_8_12).trans (congrArg (x_g0 108 12 0 8) ((xe_if_icmp .ge 80).trans (congrArg (x_if_icmp .ge 80 K) ((xe_aload 0).trans (congrArg (x_aload 0) ((xe_aload 1).trans (congrArg (x_aload 1) ((xe_iload 7).trans (congrArg (x_iload 7) ((xe_iload 3).trans (congrArg (x_iload 3) xe_nil))))))))))))))))))
theorem bk_X4_weigh_80 : ck_ fX4 (some .int) cX4_weigh 80 [.iload 6, .ireturn] 83 = true := qck_r (nn_ _) (by decide +kernel)
theorem bs_X4_weigh_80 {P : Zt → Option Zv → Prop} (K : Int → Zl → List Zv → Zt → Prop) : sx_ K P [.iload 6, .ireturn] 83 = x_iload 6 (x_ireturn P) := ((xe_iload 6).trans (congrArg (x_iload 6) (xe_ireturn)))
set_option maxRecDepth 100000 in
theorem cl_X4_70 : cv_ RX4 70 yX4_gainOf zX4_gainOf 4 3 := ⟨gi_V (lwq_6 (dqc_m (dqc_m (dqc_m (dqc_m (dqc_m (dqc_m (dqa_m (List.mem_of_getElem? (i := 3) rfl)))))))) rfl : Cond.methodLink RX4 70 yX4_gainOf ∈ lw_g) (lwq_6 (dqc_m (dqc_m (dqc_m (dqc_m (dqc_m (dqc_m (dqa_m (List.mem_of_getElem? (i := 5) rfl)))))))) rfl : Cond.instanceMethod yX4_gainOf ∈ lw_g) (lw_sel 104 rfl : Cond.selects yX4_gainOf.cls yX4_gainOf yX4_gainOf ∈ lw_g) (lwq_1 (dqa_m (List.mem_of_getElem? (i := 1) rfl)) rfl : Cond.initialized yX4_gainOf.cls ∈ lw_g) (lwq_6 (dqc_m (dqc_m (dqc_m (dqc_m (dqc_m (dqc_m (dqa_m (List.mem_of_getElem? (i := 6) rfl)))))))) rfl : Cond.code yX4_gainOf cX4_gainOf 5 (some .int) ∈ lw_g), ⟨nmh_4.1, nmh_4.2, pdq_36⟩, ⟨_, _, rfl⟩⟩
theorem bk_X4_weigh_42 : ck_ fX4 (some .int) cX4_weigh 42 [.istore 8, .iload 8, .iconst (-1), .if_icmp .eq 74, .iload 6, .iload 8, .aload 0, .tableswitch 0 4 4 #[], .iload 5, .iload 3, .iconst 1, .iload 7, .ishl, .ior, .iadd, .iaload, .fadd] 69 = true := qck_r (nn_ _) (by decide +kernel)
theorem bs_X4_weigh_42 {P : Zt → Option Zv → Prop} (K : Int → Zl → List Zv → Zt → Prop) : sx_ K P [.istore 8, .iload 8, .iconst (-1), .if_icmp .eq 74, .iload 6, .iload 8, .aload 0, .tableswitch 0 4 4 #[], .iload 5, .iload 3, .iconst 1, .iload 7, .ishl, .ior, .iadd, .iaload, .fadd] 69 = x_istore 8 (x_iload 8 (x_iconst (-1) (x_if_icmp .eq 74 K (x_iload 6 (x_iload 8 (x_aload 0 (x_g3 104 190 4 (x_iload 5 (x_iload 3 (x_iconst 1 (x_iload 7 (x_ishl (x_ior (x_iadd (x_iaload (x_fadd (K 69))))))))))))))))) := ((xe_istore 8).trans (congrArg (x_istore 8) ((xe_iload 8).trans (congrArg (x_iload 8) ((xe_iconst (-1)).trans (congrArg (x_iconst (-1)) ((xe_if_icmp .eq 74).trans (congrArg (x_if_icmp .eq 74 K) ((xe_iload 6).trans (congrArg (x_iload 6) ((xe_iload 8).trans (congrArg (x_iload 8) ((xe_aload 0).trans (congrArg (x_aload 0) ((xe_g3 (kk := 104) rfl tl_4_4).trans (congrArg (x_g3 104 190 4) ((xe_iload 5).trans (congrArg (x_iload 5) ((xe_iload 3).trans (congrArg (x_iload 3) ((xe_iconst 1).trans (congrArg (x_iconst 1) ((xe_iload 7).trans (congrArg (x_iload 7) ((xe_ishl).trans (congrArg (x_ishl) ((xe_ior).trans (congrArg (x_ior) ((xe_iadd).trans (congrArg (x_iadd) ((xe_iaload).trans (congrArg (x_iaload) ((xe_fadd).trans (congrArg (x_fadd) xe_nil))))))))))))))))))))))))))))))))))
theorem bk_X4_weigh_74 : ck_ fX4 (some .int) cX4_weigh 74 [.iinc 7 1, .goto 22] 80 = true := qck_r (nn_ _) (by decide +kernel)
theorem bs_X4_weigh_74 {P : Zt → Option Zv → Prop} (K : Int → Zl → List Zv → Zt → Prop) : sx_ K P [.iinc 7 1, .goto 22] 80 = x_iinc 7 1 (x_goto 22 K) := ((xe_iinc 7 1).trans (congrArg (x_iinc 7 1) (xe_goto 22)))
theorem bk_X4_weigh_72 : ck_ fX4 (some .int) cX4_weigh 72 [.istore 6, .iinc 7 1, .goto 22] 80 = true := qck_r (nn_ _) (by decide +kernel)
theorem bs_X4_weigh_72 {P : Zt → Option Zv → Prop} (K : Int → Zl → List Zv → Zt → Prop) : sx_ K P [.istore 6, .iinc 7 1, .goto 22] 80 = x_istore 6 (x_iinc 7 1 (x_goto 22 K)) := ((xe_istore 6).trans (congrArg (x_istore 6) ((xe_iinc 7 1).trans (congrArg (x_iinc 7 1) (xe_goto 22)))))
theorem bk_X4_weigh_0 : ck_ fX4 (some .int) cX4_weigh 0 [.iload 2, .iconst 1, .iadd, .iload 4, .imul, .istore 5, .aload 0, .tableswitch 0 4 4 #[], .iload 5, .iload 3, .iadd, .iaload, .istore 6, .iconst 0, .istore 7] 22 = true := qck_r (nn_ _) (by decide +kernel)
theorem bs_X4_weigh_0 {P : Zt → Option Zv → Prop} (K : Int → Zl → List Zv → Zt → Prop) : sx_ K P [.iload 2, .iconst 1, .iadd, .iload 4, .imul, .istore 5, .aload 0, .tableswitch 0 4 4 #[], .iload 5, .iload 3, .iadd, .iaload, .istore 6, .iconst 0, .istore 7] 22 = x_iload 2 (x_iconst 1 (x_iadd (x_iload 4 (x_imul (x_istore 5 (x_aload 0 (x_g3 104 190 4 (x_iload 5 (x_iload 3 (x_iadd (x_iaload (x_istore 6 (x_iconst 0 (x_istore 7 (K 22))))))))))))))) := ((xe_iload 2).trans (congrArg (x_iload 2) ((xe_iconst 1).trans (congrArg (x_iconst 1) ((xe_iadd).trans (congrArg (x_iadd) ((xe_iload 4).trans (congrArg (x_iload 4) ((xe_imul).trans (congrArg (x_imul) ((xe_istore 5).trans (congrArg (x_istore 5) ((xe_aload 0).trans (congrArg (x_aload 0) ((xe_g3 (kk := 104) rfl tl_4_4).trans (congrArg (x_g3 104 190 4) ((xe_iload 5).trans (congrArg (x_iload 5) ((xe_iload 3).trans (congrArg (x_iload 3) ((xe_iadd).trans (congrArg (x_iadd) ((xe_iaload).trans (congrArg (x_iaload) ((xe_istore 6).trans (congrArg (x_istore 6) ((xe_iconst 0).trans (congrArg (x_iconst 0) ((xe_istore 7).trans (congrArg (x_istore 7) xe_nil))))))))))))))))))))))))))))))
abbrev po_X4_weigh (T : Zt) (p : Int) (k a e : Int) : Zt → Option Zv → Prop := fun T' r => T = T' ∧ ∃ x : Int, r = some (vI x) ∧ (-2147483648 ≤ x ∧ x ≤ 2147483647)
set_option maxHeartbeats 4000000 in
theorem ct_X4_weigh {T : Zt} {p : Int} {k a e : Int} (hk : 0 ≤ k ∧ k < 48) (ha : 0 ≤ a ∧ a < e) (hO : OS_ (T 108 0 12) e) (hL : (k + 2) * e ≤ T 190 (T 104 0 4) (-2)) : Ct_ yX4_weigh zX4_weigh T [vR 104 0, vR 102 p, vI k, vI a, vI e] (po_X4_weigh T p k a e) := by
  refine ct_of pn_4 rfl rfl (Nat.le_of_ble_eq_true rfl) (fun hT hav => ?_)
  have hr_k : -2147483648 ≤ k ∧ k ≤ 2147483647 := hav (vI k) (List.mem_cons_of_mem _ (List.mem_cons_of_mem _ List.mem_cons_self))
  have hr_a : -2147483648 ≤ a ∧ a ≤ 2147483647 := hav (vI a) (List.mem_cons_of_mem _ (List.mem_cons_of_mem _ (List.mem_cons_of_mem _ List.mem_cons_self)))
  have hr_e : -2147483648 ≤ e ∧ e ≤ 2147483647 := hav (vI e) (List.mem_cons_of_mem _ (List.mem_cons_of_mem _ (List.mem_cons_of_mem _ (List.mem_cons_of_mem _ List.mem_cons_self))))
  have hz : zX4_weigh.2.2.2.1 = some .boolean → ∀ (T' : Zt) (x : Int), po_X4_weigh T p k a e T' (some (vI x)) → 0 ≤ x ∧ x ≤ 1 := fun h => by cases h
  have hb_officials : 0 ≤ T 108 0 12 ∧ T 108 0 12 ≤ 8 := bd_f hT 108 12 tl_8_12 0
  have hE := hO.1
  have hm := mlb (a := k + 2) (b := e) (A := 50) (B := 256) (by omega) (by omega)
  have x1 := k1e k e
  have x2 := k2e k e
  have hm0 := mlb (a := k) (b := e) (A := 48) (B := 256) (by omega) (by omega)
  show J_ zX4_weigh T (po_X4_weigh T p k a e) 0 0 0 [some (vR 104 0), some (vR 102 p), some (vI k), some (vI a), some (vI e), none, none, none, none] [] T
  have c_22 : ∀ (nn : Nat) (v : Int) (j : Int), ((T 108 0 12 - j).toNat) ≤ nn → (0 ≤ j ∧ -2147483648 ≤ v ∧ v ≤ 2147483647) → J_ zX4_weigh T (po_X4_weigh T p k a e) 0 0 22 [some (vR 104 0), some (vR 102 p), some (vI k), some (vI a), some (vI e), some (vI ((k + 1) * e)), some (vI v), some (vI j), none] [] T := by
    intro nn
    induction nn using Nat.strongRecOn with
    | _ nn ih_22 =>
      intro v j hm_22 i1
      replace hm_22 := fun (_ : Unit) => hm_22
      refine j_blx (F := fX4) tb_X4 (nn_ _) bk_X4_weigh_22 bs_X4_weigh_22 hz (fun K hK => ?_)
      intro b1 b1b
      refine And.intro (fun c2 => ?_) (fun c2 => ?_)
      · refine hK 80 _ [] T ?_
        refine j_blx (F := fX4) tb_X4 (nn_ _) bk_X4_weigh_80 bs_X4_weigh_80 hz (fun K hK => ?_)
        refine (show po_X4_weigh T p k a e T (some (vI v)) from ?_)
        exact ⟨rfl, _, rfl, by omega⟩
      · refine hK 39 _ [vI a, vI j, vR 102 p, vR 104 0] T ?_
        refine j_callV (y := yX4_gainOf) (Yc := zX4_gainOf) (rest := []) [vR 102 p, vI j, vI a] (ct_X4_gainOf (T := T) (by omega)) cl_X4_70 (qd_c (by decide +kernel)) (nn_ _) rfl (rf_of rfl) (Nat.le_of_ble_eq_true rfl) (Nat.le_of_ble_eq_true rfl) (Nat.le_of_ble_eq_true rfl) rfl ?_
        rintro _ _ ⟨rfl, x3, rfl, hx3⟩
        show J_ zX4_weigh T (po_X4_weigh T p k a e) 0 0 42 _ [vI x3] T
        refine j_blx (F := fX4) tb_X4 (nn_ _) bk_X4_weigh_42 bs_X4_weigh_42 hz (fun K hK => ?_)
        refine And.intro (fun c4 => ?_) (fun c4 => ?_)
        · refine hK 74 [some (vR 104 0), some (vR 102 p), some (vI k), some (vI a), some (vI e), some (vI ((k + 1) * e)), some (vI v), some (vI j), some (vI x3)] [] T ?_
          refine j_blx (F := fX4) tb_X4 (nn_ _) bk_X4_weigh_74 bs_X4_weigh_74 hz (fun K hK => ?_)
          refine rg_i (by omega) ?_
          refine hK 22 [some (vR 104 0), some (vR 102 p), some (vI k), some (vI a), some (vI e), some (vI ((k + 1) * e)), some (vI v), some (vI (j + 1)), some (vI x3)] [] T ?_
          refine j_drop [some (vR 104 0), some (vR 102 p), some (vI k), some (vI a), some (vI e), some (vI ((k + 1) * e)), some (vI v), some (vI (j + 1)), none] (fun k v hk => ?_) rfl ?_
          · match k, hk with
            | 0, hk => exact hk
            | 1, hk => exact hk
            | 2, hk => exact hk
            | 3, hk => exact hk
            | 4, hk => exact hk
            | 5, hk => exact hk
            | 6, hk => exact hk
            | 7, hk => exact hk
            | 8, hk => cases hk
            | k + 9, hk => cases hk
          refine ih_22 _ ?_ v (j + 1) (Nat.le_refl _) ?_
          · have hm_22 := hm_22 (); omega
          · omega
        · intro w6 w6b
          intro w7 w7b
          have y8 := hO.2 a j (by omega) (by omega) (by omega) (by omega)
          refine rg_i (by omega) ?_
          refine ix_i (by omega) ?_
          intro b9 b9b
          intro w10 w10b
          refine hK 69 [some (vR 104 0), some (vR 102 p), some (vI k), some (vI a), some (vI e), some (vI ((k + 1) * e)), some (vI v), some (vI j), some (vI x3)] [vI (wr_ (x3 + (T 190 (T 104 0 4) (((k + 1) * e) + (or_ a (sl_ 1 j)))))), vI v] T ?_
          obtain ⟨x11, e12, hx11⟩ : ∃ x11 : Int, (if v < (wr_ (x3 + (T 190 (T 104 0 4) (((k + 1) * e) + (or_ a (sl_ 1 j)))))) then (wr_ (x3 + (T 190 (T 104 0 4) (((k + 1) * e) + (or_ a (sl_ 1 j)))))) else v) = x11 ∧ ((x11 = v ∨ x11 = wr_ (x3 + (T 190 (T 104 0 4) (((k + 1) * e) + (or_ a (sl_ 1 j)))))) ∧ v ≤ x11 ∧ wr_ (x3 + (T 190 (T 104 0 4) (((k + 1) * e) + (or_ a (sl_ 1 j))))) ≤ x11) := ⟨_, rfl, by split <;> omega⟩
          refine j_mx (pc := 69) (lwq_6 (dqc_m (dqc_m (dqc_m (dqc_m (dqc_m (dqc_m (dqa_m (dqa_m (List.mem_of_getElem? (i := 0) rfl))))))))) rfl : Cond.methodLink RX4 74 Lib.Math.max.name ∈ lw_g) (lwq_4 (dqc_m (dqc_m (dqc_m (List.mem_of_getElem? (i := 5) rfl)))) rfl : Cond.static Lib.Math.max.name ∈ lw_g) (lwq_1 (dqa_m (dqa_m (List.mem_of_getElem? (i := 1) rfl))) rfl : Cond.initialized "java/lang/Math" ∈ lw_g) (lwq_4 (dqc_m (dqc_m (dqc_m (List.mem_of_getElem? (i := 6) rfl)))) rfl : Cond.code Lib.Math.max.name Lib.Math.max.code 2 (some .int) ∈ lw_g) (by decide +kernel) (by decide) (by decide) (by decide) (Nat.le_of_ble_eq_true rfl) ?_
          rw [e12]
          clear e12
          show J_ zX4_weigh T (po_X4_weigh T p k a e) 0 0 72 _ [vI x11] T
          refine j_blx (F := fX4) tb_X4 (nn_ _) bk_X4_weigh_72 bs_X4_weigh_72 hz (fun K hK => ?_)
          refine rg_i (by omega) ?_
          refine hK 22 [some (vR 104 0), some (vR 102 p), some (vI k), some (vI a), some (vI e), some (vI ((k + 1) * e)), some (vI x11), some (vI (j + 1)), some (vI x3)] [] T ?_
          refine j_drop [some (vR 104 0), some (vR 102 p), some (vI k), some (vI a), some (vI e), some (vI ((k + 1) * e)), some (vI x11), some (vI (j + 1)), none] (fun k v hk => ?_) rfl ?_
          · match k, hk with
            | 0, hk => exact hk
            | 1, hk => exact hk
            | 2, hk => exact hk
            | 3, hk => exact hk
            | 4, hk => exact hk
            | 5, hk => exact hk
            | 6, hk => exact hk
            | 7, hk => exact hk
            | 8, hk => cases hk
            | k + 9, hk => cases hk
          refine ih_22 _ ?_ x11 (j + 1) (Nat.le_refl _) ?_
          · have hm_22 := hm_22 (); omega
          · omega
  refine j_blx (F := fX4) tb_X4 (nn_ _) bk_X4_weigh_0 bs_X4_weigh_0 hz (fun K hK => ?_)
  refine rg_i (by omega) ?_
  refine rg_i (by omega) ?_
  refine rg_i (by omega) ?_
  refine ix_i (by omega) ?_
  intro b14 b14b
  refine hK 22 [some (vR 104 0), some (vR 102 p), some (vI k), some (vI a), some (vI e), some (vI ((k + 1) * e)), some (vI (T 190 (T 104 0 4) (((k + 1) * e) + a))), some (vI 0), none] [] T ?_
  refine c_22 _ (T 190 (T 104 0 4) (((k + 1) * e) + a)) 0 (Nat.le_refl _) ?_
  · omega
