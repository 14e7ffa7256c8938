theorem us_1 {x : Int} (h : -2147483648 ≤ x ∧ x ≤ 2147483647) : us_ x 1 = x % 4294967296 / 2 := by
  have a : ((Int32.ofInt x).toUInt32.toBitVec).toNat = (x % 4294967296).toNat := by
    show (BitVec.ofInt 32 x).toNat = _
    rw [BitVec.toNat_ofInt]; rfl
  have s : ((Int32.ofInt 1).toUInt32 &&& Int32.toUInt32 31) = 1 := by decide
  unfold us_
  rw [s]
  have b : (((Int32.ofInt x).toUInt32 >>> (1 : UInt32)).toBitVec).toNat = (x % 4294967296).toNat / 2 := by
    show ((Int32.ofInt x).toUInt32.toBitVec >>> (1 : BitVec 32)).toNat = _
    rw [BitVec.ushiftRight_eq', BitVec.toNat_ushiftRight, a]
    show (x % 4294967296).toNat >>> 1 = _
    rw [Nat.shiftRight_eq_div_pow]
  show (((Int32.ofInt x).toUInt32 >>> (1 : UInt32)).toBitVec).toInt = _
  rw [BitVec.toInt_eq_toNat_cond, b]
  split <;> omega
theorem tk_d : ∀ a : Fin 216, ∀ b : Fin 128, (4294967296 * 1664525 + 1013904223 - (128 * a.val + b.val + 1) * 1664525) % 4294967296 / 2 < 2147469824 := by decide +kernel
theorem tk_2 {s : Int} (h : -2147483648 ≤ s ∧ s ≤ 2147483647) (t : 2147469824 ≤ us_ s 1) : us_ (wr_ (wr_ (s * 1664525) + 1013904223)) 1 < 2147469824 := by
  rw [us_1 h] at t
  obtain ⟨n, hn, e⟩ : ∃ n : Nat, n < 27648 ∧ s = -((n : Int) + 1) := ⟨(-s - 1).toNat, by omega, by omega⟩
  have k := tk_d ⟨n / 128, by omega⟩ ⟨n % 128, by omega⟩
  have k' : (4294967296 * 1664525 + 1013904223 - (n + 1) * 1664525) % 4294967296 / 2 < 2147469824 := by
    have e2 : 128 * (n / 128) + n % 128 + 1 = n + 1 := by omega
    simp only [e2] at k
    exact k
  have w : wr_ (wr_ (s * 1664525) + 1013904223) = wr_ (s * 1664525 + 1013904223) := by unfold wr_; omega
  rw [w, us_1 (by unfold wr_; omega)]
  have m : wr_ (s * 1664525 + 1013904223) % 4294967296 = (s * 1664525 + 1013904223) % 4294967296 := by unfold wr_; omega
  rw [m, e]
  generalize hX : 4294967296 * 1664525 + 1013904223 - (n + 1) * 1664525 = X at k'
  have q : -((n : Int) + 1) * 1664525 + 1013904223 = (X : Int) + 4294967296 * (-1664525) := by omega
  rw [q, Int.add_mul_emod_self_left]
  omega
/-- there is a club of pot p, below k, without a group -/
def EL_ (T : Zt) (p k : Int) : Prop := (0 ≤ p ∧ p ≤ 2) ∧ ∃ j, 0 ≤ j ∧ j < k ∧ T 301 0 j = p ∧ T 302 0 j = -1
theorem el_m {T : Zt} {p k : Int} (h : EL_ T p k) : EL_ T p (k + 1) := by
  obtain ⟨a, j, b, c, d⟩ := h
  exact ⟨a, j, b, by omega, d⟩
theorem el_n {T : Zt} {p k : Int} (hk : 0 ≤ k) (hp : 0 ≤ p ∧ p ≤ 2) (h : T 301 0 k = p) (g : T 302 0 k = -1) : EL_ T p (k + 1) := ⟨hp, k, hk, by omega, h, g⟩
/-- how many clubs of pot p, below k, have no group -/
def cen_ (T : Zt) (p : Int) : Nat → Int
  | 0 => 0
  | k + 1 => cen_ T p k + (if T 301 0 (k : Int) = p ∧ T 302 0 (k : Int) = -1 then 1 else 0)
def cel_ (T : Zt) (p k : Int) : Int := cen_ T p k.toNat
theorem cel_t {T : Zt} {p k : Int} (hk : 0 ≤ k) (c : T 301 0 k = p ∧ T 302 0 k = -1) : cel_ T p (k + 1) = cel_ T p k + 1 := by
  unfold cel_
  rw [show (k + 1).toNat = k.toNat + 1 by omega]
  show _ + _ = _
  rw [show ((k.toNat : Nat) : Int) = k by omega, if_pos c]
theorem cel_f {T : Zt} {p k : Int} (hk : 0 ≤ k) (c : ¬ (T 301 0 k = p ∧ T 302 0 k = -1)) : cel_ T p (k + 1) = cel_ T p k := by
  unfold cel_
  rw [show (k + 1).toNat = k.toNat + 1 by omega]
  show _ + _ = _
  rw [show ((k.toNat : Nat) : Int) = k by omega, if_neg c, Int.add_zero]
theorem cen_b (T : Zt) (p : Int) : ∀ k : Nat, 0 ≤ cen_ T p k ∧ cen_ T p k ≤ k
  | 0 => by simp [cen_]
  | k + 1 => by
      have i := cen_b T p k
      unfold cen_
      split <;> omega
theorem cel_b {T : Zt} {p k : Int} (hk : 0 ≤ k) : 0 ≤ cel_ T p k ∧ cel_ T p k ≤ k := by
  have := cen_b T p k.toNat
  unfold cel_; omega
theorem cen_p {T : Zt} {p j : Int} (h0 : 0 ≤ j) (c : T 301 0 j = p ∧ T 302 0 j = -1) : ∀ k : Nat, j < k → 0 < cen_ T p k
  | 0, h => by omega
  | k + 1, h => by
      have b := cen_b T p k
      unfold cen_
      by_cases z : j = k
      · rw [← z, if_pos c]; omega
      · have := cen_p h0 c k (by omega)
        split <;> omega
theorem cel_p {T : Zt} {p k : Int} (h : EL_ T p k) : 0 < cel_ T p k := by
  obtain ⟨_, j, a, b, c⟩ := h
  exact cen_p a c _ (by omega)
/-- the ways with the club in one of the groups up to g -/
noncomputable def sgm_ (T : Zt) (c g : Int) : Int := (if 0 ≤ g then (nw_ (drw_ T) c 0 (ll_ T) (gf_ T) : Int) else 0) + (if 1 ≤ g then (nw_ (drw_ T) c 1 (ll_ T) (gf_ T) : Int) else 0) + (if 2 ≤ g then (nw_ (drw_ T) c 2 (ll_ T) (gf_ T) : Int) else 0) + (if 3 ≤ g then (nw_ (drw_ T) c 3 (ll_ T) (gf_ T) : Int) else 0)
theorem sgm_s {T : Zt} {c g : Int} (h : -1 ≤ g ∧ g < 3) : sgm_ T c (g + 1) = sgm_ T c g + (nw_ (drw_ T) c (g + 1) (ll_ T) (gf_ T) : Int) := by
  unfold sgm_
  rcases (by omega : g = -1 ∨ g = 0 ∨ g = 1 ∨ g = 2) with z | z | z | z <;> subst z <;> simp <;> omega
theorem sgm_3 {T : Zt} {c : Int} (h0 : 0 ≤ T 111 0 12) (hc : 0 ≤ c ∧ c < T 111 0 12) (hg : T 302 0 c = -1) (hp : 0 ≤ T 301 0 c ∧ T 301 0 c ≤ 2) : sgm_ T c 3 = (nw_ (drw_ T) (-1) (-1) (ll_ T) (gf_ T) : Int) := by
  have k := nw_s (d := drw_ T) (c := c) (by omega) (ll_ T) (gf_ T) (ll_i hc.1 hc.2 hg hp.1 hp.2) (ll_d T) (fun x hx => by have := ll_m h0 hx; omega)
  unfold sgm_
  simp
  omega
theorem sgm_0 {T : Zt} {c : Int} : sgm_ T c (-1) = 0 := by unfold sgm_; simp
abbrev cX11_ways : ByteArray := prog_13_method_116_code
def yX11_ways : MethodName := ⟨RX11, "ways", "()I"⟩
def zX11_ways : Zm := (RX11, cX11_ways, 1, (some .int), { frames := 2, cells := 0, slots := 0, locals := 52 })
theorem bk_X11_ways_0 : ck_ fX11 (some .int) cX11_ways 0 [.aload 0, .tableswitch 0 11 98 #[], .ifCond .eq 16, .aload 0, .iconst (-1), .iconst (-1)] 10 = true := qck_r (nn_ _) (by decide +kernel)
theorem bs_X11_ways_0 {P : Zt → Option Zv → Prop} (K : Int → Zl → List Zv → Zt → Prop) : sx_ K P [.aload 0, .tableswitch 0 11 98 #[], .ifCond .eq 16, .aload 0, .iconst (-1), .iconst (-1)] 10 = x_aload 0 (x_g0 111 98 0 1 (x_ifCond .eq 16 K (x_aload 0 (x_iconst (-1) (x_iconst (-1) (K 10)))))) := ((xe_aload 0).trans (congrArg (x_aload 0) ((xe_g0 (kk := 111) rfl tl_11_98).trans (congrArg (x_g0 111 98 0 1) ((xe_ifCond .eq 16).trans (congrArg (x_ifCond .eq 16 K) ((xe_aload 0).trans (congrArg (x_aload 0) ((xe_iconst (-1)).trans (congrArg (x_iconst (-1)) ((xe_iconst (-1)).trans (congrArg (x_iconst (-1)) xe_nil))))))))))))
theorem bk_X11_ways_16 : ck_ fX11 (some .int) cX11_ways 16 [.iconst (-4), .ireturn] 19 = true := qck_r (nn_ _) (by decide +kernel)
theorem bs_X11_ways_16 {P : Zt → Option Zv → Prop} (K : Int → Zl → List Zv → Zt → Prop) : sx_ K P [.iconst (-4), .ireturn] 19 = x_iconst (-4) (x_ireturn P) := ((xe_iconst (-4)).trans (congrArg (x_iconst (-4)) (xe_ireturn)))
set_option maxRecDepth 100000 in
theorem cl_X11_591 : cv_ RX11 591 yX11_countWays zX11_countWays 11 2 := ⟨gi_V (lw_b10 55 (by decide +kernel) rfl : Cond.methodLink RX11 591 yX11_countWays ∈ lw_g) (lw_b10 57 (by decide +kernel) rfl : Cond.instanceMethod yX11_countWays ∈ lw_g) (lw_sel 14 rfl : Cond.selects yX11_countWays.cls yX11_countWays yX11_countWays ∈ lw_g) (lw_b1 10 (by decide +kernel) rfl : Cond.initialized yX11_countWays.cls ∈ lw_g) (lw_b10 58 rfl rfl : Cond.code yX11_countWays cX11_countWays 8 (some .int) ∈ lw_g), ⟨by decide, by decide, by decide +kernel⟩, ⟨_, _, rfl⟩⟩
theorem bk_X11_ways_13 : ck_ fX11 (some .int) cX11_ways 13 [.goto 18] 16 = true := qck_r (nn_ _) (by decide +kernel)
theorem bs_X11_ways_13 {P : Zt → Option Zv → Prop} (K : Int → Zl → List Zv → Zt → Prop) : sx_ K P [.goto 18] 16 = x_goto 18 K := (xe_goto 18)
theorem bk_X11_ways_18 : ck_ fX11 (some .int) cX11_ways 18 [.ireturn] 19 = true := qck_r (nn_ _) (by decide +kernel)
theorem bs_X11_ways_18 {P : Zt → Option Zv → Prop} (K : Int → Zl → List Zv → Zt → Prop) : sx_ K P [.ireturn] 19 = x_ireturn P := (xe_ireturn)
abbrev po_X11_ways (T : Zt) : Zt → Option Zv → Prop := fun T' r => ∃ x : Int, r = some (vI x) ∧ fr_ [(304, []), (305, []), (302, [])] T T' ∧ (x = x)
set_option maxHeartbeats 4000000 in
theorem ct_X11_ways {T : Zt} : Ct_ yX11_ways zX11_ways T [vR 111 0] (po_X11_ways T) := by
  refine ct_of pn_11 rfl rfl (Nat.le_of_ble_eq_true rfl) (fun hT hav => ?_)
  have hz : zX11_ways.2.2.2.1 = some .boolean → ∀ (T' : Zt) (x : Int), po_X11_ways T T' (some (vI x)) → 0 ≤ x ∧ x ≤ 1 := fun h => by cases h
  show J_ zX11_ways T (po_X11_ways T) 0 0 0 [some (vR 111 0)] [] T
  refine j_blx (F := fX11) tb_X11 (nn_ _) bk_X11_ways_0 bs_X11_ways_0 hz (fun K hK => ?_)
  intro b1 b1b
  refine And.intro (fun c2 => ?_) (fun c2 => ?_)
  · refine hK 16 _ [] T ?_
    refine j_blx (F := fX11) tb_X11 (nn_ _) bk_X11_ways_16 bs_X11_ways_16 hz (fun K hK => ?_)
    refine (show po_X11_ways T T (some (vI (-4))) from ?_)
    exact ⟨_, rfl, fr_0 _ _, by rfl⟩
  · refine hK 10 _ [vI (-1), vI (-1), vR 111 0] T ?_
    refine j_callV (y := yX11_countWays) (Yc := zX11_countWays) (rest := []) [vI (-1), vI (-1)] (ct_X11_countWays (T := T)) cl_X11_591 (qd_c (by decide +kernel)) (nn_ _) rfl (rf_of rfl) (Nat.le_of_ble_eq_true rfl) (Nat.le_of_ble_eq_true rfl) (Nat.le_of_ble_eq_true rfl) rfl ?_
    rintro U3 _ ⟨x4, rfl, fU3, qU3⟩
    have bU3 := qU3.2.2
    show J_ zX11_ways T (po_X11_ways T) 0 0 13 _ [vI x4] U3
    refine j_blx (F := fX11) tb_X11 (nn_ _) bk_X11_ways_13 bs_X11_ways_13 hz (fun K hK => ?_)
    refine hK 18 _ [vI x4] U3 ?_
    refine j_blx (F := fX11) tb_X11 (nn_ _) bk_X11_ways_18 bs_X11_ways_18 hz (fun K hK => ?_)
    refine (show po_X11_ways T U3 (some (vI x4)) from ?_)
    exact ⟨_, rfl, fr_t (fr_0 _ _) (fr_s fU3 rfl), by rfl⟩
abbrev cX11_chanceOf : ByteArray := prog_13_method_117_code
def yX11_chanceOf : MethodName := ⟨RX11, "chanceOf", "(II)I"⟩
def zX11_chanceOf : Zm := (RX11, cX11_chanceOf, 3, (some .int), { frames := 2, cells := 0, slots := 0, locals := 52 })
theorem bk_X11_chanceOf_0 : ck_ fX11 (some .int) cX11_chanceOf 0 [.aload 0, .tableswitch 0 11 102 #[], .iload 1, .iaload, .iconst (-1), .if_icmp .eq 31, .aload 0, .tableswitch 0 11 102 #[], .iload 1, .iaload, .iload 2, .if_icmp .ne 29, .aload 0, .iconst (-1), .iconst (-1)] 23 = true := qck_r (nn_ _) (by decide +kernel)
theorem bs_X11_chanceOf_0 {P : Zt → Option Zv → Prop} (K : Int → Zl → List Zv → Zt → Prop) : sx_ K P [.aload 0, .tableswitch 0 11 102 #[], .iload 1, .iaload, .iconst (-1), .if_icmp .eq 31, .aload 0, .tableswitch 0 11 102 #[], .iload 1, .iaload, .iload 2, .if_icmp .ne 29, .aload 0, .iconst (-1), .iconst (-1)] 23 = x_aload 0 (x_g1 111 302 (x_iload 1 (x_iaload (x_iconst (-1) (x_if_icmp .eq 31 K (x_aload 0 (x_g1 111 302 (x_iload 1 (x_iaload (x_iload 2 (x_if_icmp .ne 29 K (x_aload 0 (x_iconst (-1) (x_iconst (-1) (K 23))))))))))))))) := ((xe_aload 0).trans (congrArg (x_aload 0) ((xe_g1 (kk := 111) rfl tl_11_102).trans (congrArg (x_g1 111 302) ((xe_iload 1).trans (congrArg (x_iload 1) ((xe_iaload).trans (congrArg (x_iaload) ((xe_iconst (-1)).trans (congrArg (x_iconst (-1)) ((xe_if_icmp .eq 31).trans (congrArg (x_if_icmp .eq 31 K) ((xe_aload 0).trans (congrArg (x_aload 0) ((xe_g1 (kk := 111) rfl tl_11_102).trans (congrArg (x_g1 111 302) ((xe_iload 1).trans (congrArg (x_iload 1) ((xe_iaload).trans (congrArg (x_iaload) ((xe_iload 2).trans (congrArg (x_iload 2) ((xe_if_icmp .ne 29).trans (congrArg (x_if_icmp .ne 29 K) ((xe_aload 0).trans (congrArg (x_aload 0) ((xe_iconst (-1)).trans (congrArg (x_iconst (-1)) ((xe_iconst (-1)).trans (congrArg (x_iconst (-1)) xe_nil))))))))))))))))))))))))))))))
theorem bk_X11_chanceOf_31 : ck_ fX11 (some .int) cX11_chanceOf 31 [.aload 0, .iload 1, .iload 2] 34 = true := qck_r (nn_ _) (by decide +kernel)
theorem bs_X11_chanceOf_31 {P : Zt → Option Zv → Prop} (K : Int → Zl → List Zv → Zt → Prop) : sx_ K P [.aload 0, .iload 1, .iload 2] 34 = x_aload 0 (x_iload 1 (x_iload 2 (K 34))) := ((xe_aload 0).trans (congrArg (x_aload 0) ((xe_iload 1).trans (congrArg (x_iload 1) ((xe_iload 2).trans (congrArg (x_iload 2) xe_nil))))))
theorem bk_X11_chanceOf_37 : ck_ fX11 (some .int) cX11_chanceOf 37 [.ireturn] 38 = true := qck_r (nn_ _) (by decide +kernel)
theorem bs_X11_chanceOf_37 {P : Zt → Option Zv → Prop} (K : Int → Zl → List Zv → Zt → Prop) : sx_ K P [.ireturn] 38 = x_ireturn P := (xe_ireturn)
theorem bk_X11_chanceOf_29 : ck_ fX11 (some .int) cX11_chanceOf 29 [.iconst 0, .ireturn] 31 = true := qck_r (nn_ _) (by decide +kernel)
theorem bs_X11_chanceOf_29 {P : Zt → Option Zv → Prop} (K : Int → Zl → List Zv → Zt → Prop) : sx_ K P [.iconst 0, .ireturn] 31 = x_iconst 0 (x_ireturn P) := ((xe_iconst 0).trans (congrArg (x_iconst 0) (xe_ireturn)))
theorem bk_X11_chanceOf_26 : ck_ fX11 (some .int) cX11_chanceOf 26 [.goto 30] 29 = true := qck_r (nn_ _) (by decide +kernel)
theorem bs_X11_chanceOf_26 {P : Zt → Option Zv → Prop} (K : Int → Zl → List Zv → Zt → Prop) : sx_ K P [.goto 30] 29 = x_goto 30 K := (xe_goto 30)
theorem bk_X11_chanceOf_30 : ck_ fX11 (some .int) cX11_chanceOf 30 [.ireturn] 31 = true := qck_r (nn_ _) (by decide +kernel)
theorem bs_X11_chanceOf_30 {P : Zt → Option Zv → Prop} (K : Int → Zl → List Zv → Zt → Prop) : sx_ K P [.ireturn] 31 = x_ireturn P := (xe_ireturn)
abbrev po_X11_chanceOf (T : Zt) (cl g : Int) : Zt → Option Zv → Prop := fun T' r => ∃ x : Int, r = some (vI x) ∧ fr_ [(304, []), (305, []), (302, [])] T T' ∧ (x = x)
set_option maxHeartbeats 4000000 in
theorem ct_X11_chanceOf {T : Zt} {cl g : Int} (h1 : 0 ≤ cl ∧ cl < 12) : Ct_ yX11_chanceOf zX11_chanceOf T [vR 111 0, vI cl, vI g] (po_X11_chanceOf T cl g) := by
  refine ct_of pn_11 rfl rfl (Nat.le_of_ble_eq_true rfl) (fun hT hav => ?_)
  have hr_cl : -2147483648 ≤ cl ∧ cl ≤ 2147483647 := hav (vI cl) (by simp)
  have hr_g : -2147483648 ≤ g ∧ g ≤ 2147483647 := hav (vI g) (by simp)
  have hz : zX11_chanceOf.2.2.2.1 = some .boolean → ∀ (T' : Zt) (x : Int), po_X11_chanceOf T cl g T' (some (vI x)) → 0 ≤ x ∧ x ≤ 1 := fun h => by cases h
  show J_ zX11_chanceOf T (po_X11_chanceOf T cl g) 0 0 0 [some (vR 111 0), some (vI cl), some (vI g)] [] T
  refine j_blx (F := fX11) tb_X11 (nn_ _) bk_X11_chanceOf_0 bs_X11_chanceOf_0 hz (fun K hK => ?_)
  refine ix_i (by omega) ?_
  intro b1 b1b
  refine And.intro (fun c2 => ?_) (fun c2 => ?_)
  · refine hK 31 _ [] T ?_
    refine j_blx (F := fX11) tb_X11 (nn_ _) bk_X11_chanceOf_31 bs_X11_chanceOf_31 hz (fun K hK => ?_)
    refine hK 34 _ [vI g, vI cl, vR 111 0] T ?_
    refine j_callV (y := yX11_countWays) (Yc := zX11_countWays) (rest := []) [vI cl, vI g] (ct_X11_countWays (T := T)) cl_X11_591 (qd_c (by decide +kernel)) (nn_ _) rfl (rf_of rfl) (Nat.le_of_ble_eq_true rfl) (Nat.le_of_ble_eq_true rfl) (Nat.le_of_ble_eq_true rfl) rfl ?_
    rintro U3 _ ⟨x4, rfl, fU3, qU3⟩
    have bU3 := qU3.2.2
    show J_ zX11_chanceOf T (po_X11_chanceOf T cl g) 0 0 37 _ [vI x4] U3
    refine j_blx (F := fX11) tb_X11 (nn_ _) bk_X11_chanceOf_37 bs_X11_chanceOf_37 hz (fun K hK => ?_)
    refine (show po_X11_chanceOf T cl g U3 (some (vI x4)) from ?_)
    exact ⟨_, rfl, fr_t (fr_0 _ _) (fr_s fU3 rfl), by rfl⟩
  · refine ix_i (by omega) ?_
    intro b5 b5b
    refine And.intro (fun c6 => ?_) (fun c6 => ?_)
    · refine hK 29 _ [] T ?_
      refine j_blx (F := fX11) tb_X11 (nn_ _) bk_X11_chanceOf_29 bs_X11_chanceOf_29 hz (fun K hK => ?_)
      refine (show po_X11_chanceOf T cl g T (some (vI 0)) from ?_)
      exact ⟨_, rfl, fr_0 _ _, by rfl⟩
    · refine hK 23 _ [vI (-1), vI (-1), vR 111 0] T ?_
      refine j_callV (y := yX11_countWays) (Yc := zX11_countWays) (rest := []) [vI (-1), vI (-1)] (ct_X11_countWays (T := T)) cl_X11_591 (qd_c (by decide +kernel)) (nn_ _) rfl (rf_of rfl) (Nat.le_of_ble_eq_true rfl) (Nat.le_of_ble_eq_true rfl) (Nat.le_of_ble_eq_true rfl) rfl ?_
      rintro U7 _ ⟨x8, rfl, fU7, qU7⟩
      have bU7 := qU7.2.2
      show J_ zX11_chanceOf T (po_X11_chanceOf T cl g) 0 0 26 _ [vI x8] U7
      refine j_blx (F := fX11) tb_X11 (nn_ _) bk_X11_chanceOf_26 bs_X11_chanceOf_26 hz (fun K hK => ?_)
      refine hK 30 _ [vI x8] U7 ?_
      refine j_blx (F := fX11) tb_X11 (nn_ _) bk_X11_chanceOf_30 bs_X11_chanceOf_30 hz (fun K hK => ?_)
      refine (show po_X11_chanceOf T cl g U7 (some (vI x8)) from ?_)
      exact ⟨_, rfl, fr_t (fr_0 _ _) (fr_s fU7 rfl), by rfl⟩
abbrev cX11_chance : ByteArray := prog_13_method_118_code
def yX11_chance : MethodName := ⟨RX11, "chance", "(II)I"⟩
def zX11_chance : Zm := (RX11, cX11_chance, 3, (some .int), { frames := 3, cells := 0, slots := 0, locals := 74 })
theorem bk_X11_chance_0 : ck_ fX11 (some .int) cX11_chance 0 [.iload 1, .aload 0, .tableswitch 0 11 12 #[]] 5 = true := qck_r (nn_ _) (by decide +kernel)
theorem bs_X11_chance_0 {P : Zt → Option Zv → Prop} (K : Int → Zl → List Zv → Zt → Prop) : sx_ K P [.iload 1, .aload 0, .tableswitch 0 11 12 #[]] 5 = x_iload 1 (x_aload 0 (x_g0 111 12 0 12 (K 5))) := ((xe_iload 1).trans (congrArg (x_iload 1) ((xe_aload 0).trans (congrArg (x_aload 0) ((xe_g0 (kk := 111) rfl tl_11_12).trans (congrArg (x_g0 111 12 0 12) xe_nil))))))
theorem bk_X11_chance_8 : ck_ fX11 (some .int) cX11_chance 8 [.ifCond .eq 19, .aload 0, .iload 1] 13 = true := qck_r (nn_ _) (by decide +kernel)
theorem bs_X11_chance_8 {P : Zt → Option Zv → Prop} (K : Int → Zl → List Zv → Zt → Prop) : sx_ K P [.ifCond .eq 19, .aload 0, .iload 1] 13 = x_ifCond .eq 19 K (x_aload 0 (x_iload 1 (K 13))) := ((xe_ifCond .eq 19).trans (congrArg (x_ifCond .eq 19 K) ((xe_aload 0).trans (congrArg (x_aload 0) ((xe_iload 1).trans (congrArg (x_iload 1) xe_nil))))))
theorem bk_X11_chance_19 : ck_ fX11 (some .int) cX11_chance 19 [.iconst (-2), .ireturn] 22 = true := qck_r (nn_ _) (by decide +kernel)
theorem bs_X11_chance_19 {P : Zt → Option Zv → Prop} (K : Int → Zl → List Zv → Zt → Prop) : sx_ K P [.iconst (-2), .ireturn] 22 = x_iconst (-2) (x_ireturn P) := ((xe_iconst (-2)).trans (congrArg (x_iconst (-2)) (xe_ireturn)))
theorem bk_X11_chance_16 : ck_ fX11 (some .int) cX11_chance 16 [.ifCond .ne 22, .iconst (-2), .ireturn] 22 = true := qck_r (nn_ _) (by decide +kernel)
theorem bs_X11_chance_16 {P : Zt → Option Zv → Prop} (K : Int → Zl → List Zv → Zt → Prop) : sx_ K P [.ifCond .ne 22, .iconst (-2), .ireturn] 22 = x_ifCond .ne 22 K (x_iconst (-2) (x_ireturn P)) := ((xe_ifCond .ne 22).trans (congrArg (x_ifCond .ne 22 K) ((xe_iconst (-2)).trans (congrArg (x_iconst (-2)) (xe_ireturn)))))
theorem bk_X11_chance_22 : ck_ fX11 (some .int) cX11_chance 22 [.iload 2, .aload 0, .tableswitch 0 11 99 #[]] 27 = true := qck_r (nn_ _) (by decide +kernel)
theorem bs_X11_chance_22 {P : Zt → Option Zv → Prop} (K : Int → Zl → List Zv → Zt → Prop) : sx_ K P [.iload 2, .aload 0, .tableswitch 0 11 99 #[]] 27 = x_iload 2 (x_aload 0 (x_g0 111 99 0 4 (K 27))) := ((xe_iload 2).trans (congrArg (x_iload 2) ((xe_aload 0).trans (congrArg (x_aload 0) ((xe_g0 (kk := 111) rfl tl_11_99).trans (congrArg (x_g0 111 99 0 4) xe_nil))))))
theorem bk_X11_chance_30 : ck_ fX11 (some .int) cX11_chance 30 [.ifCond .eq 42, .aload 0, .iload 1, .iload 2] 36 = true := qck_r (nn_ _) (by decide +kernel)
theorem bs_X11_chance_30 {P : Zt → Option Zv → Prop} (K : Int → Zl → List Zv → Zt → Prop) : sx_ K P [.ifCond .eq 42, .aload 0, .iload 1, .iload 2] 36 = x_ifCond .eq 42 K (x_aload 0 (x_iload 1 (x_iload 2 (K 36)))) := ((xe_ifCond .eq 42).trans (congrArg (x_ifCond .eq 42 K) ((xe_aload 0).trans (congrArg (x_aload 0) ((xe_iload 1).trans (congrArg (x_iload 1) ((xe_iload 2).trans (congrArg (x_iload 2) xe_nil))))))))
theorem bk_X11_chance_42 : ck_ fX11 (some .int) cX11_chance 42 [.iconst (-3), .ireturn] 45 = true := qck_r (nn_ _) (by decide +kernel)
theorem bs_X11_chance_42 {P : Zt → Option Zv → Prop} (K : Int → Zl → List Zv → Zt → Prop) : sx_ K P [.iconst (-3), .ireturn] 45 = x_iconst (-3) (x_ireturn P) := ((xe_iconst (-3)).trans (congrArg (x_iconst (-3)) (xe_ireturn)))
set_option maxRecDepth 100000 in
theorem cl_X11_594 : cv_ RX11 594 yX11_chanceOf zX11_chanceOf 11 2 := ⟨gi_V (lw_b10 67 (by decide +kernel) rfl : Cond.methodLink RX11 594 yX11_chanceOf ∈ lw_g) (lw_b10 69 (by decide +kernel) rfl : Cond.instanceMethod yX11_chanceOf ∈ lw_g) (lw_sel 10 rfl : Cond.selects yX11_chanceOf.cls yX11_chanceOf yX11_chanceOf ∈ lw_g) (lw_b1 10 (by decide +kernel) rfl : Cond.initialized yX11_chanceOf.cls ∈ lw_g) (lw_b10 70 rfl rfl : Cond.code yX11_chanceOf cX11_chanceOf 3 (some .int) ∈ lw_g), ⟨by decide, by decide, by decide +kernel⟩, ⟨_, _, rfl⟩⟩
theorem bk_X11_chance_39 : ck_ fX11 (some .int) cX11_chance 39 [.goto 44] 42 = true := qck_r (nn_ _) (by decide +kernel)
theorem bs_X11_chance_39 {P : Zt → Option Zv → Prop} (K : Int → Zl → List Zv → Zt → Prop) : sx_ K P [.goto 44] 42 = x_goto 44 K := (xe_goto 44)
theorem bk_X11_chance_44 : ck_ fX11 (some .int) cX11_chance 44 [.ireturn] 45 = true := qck_r (nn_ _) (by decide +kernel)
theorem bs_X11_chance_44 {P : Zt → Option Zv → Prop} (K : Int → Zl → List Zv → Zt → Prop) : sx_ K P [.ireturn] 45 = x_ireturn P := (xe_ireturn)
abbrev po_X11_chance (T : Zt) (cl g : Int) : Zt → Option Zv → Prop := fun T' r => ∃ x : Int, r = some (vI x) ∧ fr_ [(304, []), (305, []), (302, [])] T T' ∧ (x = x)
set_option maxHeartbeats 4000000 in
theorem ct_X11_chance {T : Zt} {cl g : Int} : Ct_ yX11_chance zX11_chance T [vR 111 0, vI cl, vI g] (po_X11_chance T cl g) := by
  refine ct_of pn_11 rfl rfl (Nat.le_of_ble_eq_true rfl) (fun hT hav => ?_)
  have hr_cl : -2147483648 ≤ cl ∧ cl ≤ 2147483647 := hav (vI cl) (by simp)
  have hr_g : -2147483648 ≤ g ∧ g ≤ 2147483647 := hav (vI g) (by simp)
  have hz : zX11_chance.2.2.2.1 = some .boolean → ∀ (T' : Zt) (x : Int), po_X11_chance T cl g T' (some (vI x)) → 0 ≤ x ∧ x ≤ 1 := fun h => by cases h
  have hb_12 : 0 ≤ T 111 0 12 ∧ T 111 0 12 ≤ 12 := bd_f hT 111 12 (by decide +kernel : (tf_ 111)[12]? = some (0, 0, 0, 12)) 0
  have hb_99 : 0 ≤ T 111 0 99 ∧ T 111 0 99 ≤ 4 := bd_f hT 111 99 (by decide +kernel : (tf_ 111)[99]? = some (0, 0, 0, 4)) 0
  show J_ zX11_chance T (po_X11_chance T cl g) 0 0 0 [some (vR 111 0), some (vI cl), some (vI g)] [] T
  refine j_blx (F := fX11) tb_X11 (nn_ _) bk_X11_chance_0 bs_X11_chance_0 hz (fun K hK => ?_)
  intro b1 b1b
  refine hK 5 _ [vI (T 111 0 12), vI cl] T ?_
  refine j_callS (y := yX11_isOf) (Yc := zX11_isOf) (rest := []) [vI cl, vI (T 111 0 12)] (ct_X11_isOf (T := T) (by omega)) cl_X11_317 (qd_c (by decide +kernel)) (nn_ _) rfl (rf_of rfl) (Nat.le_of_ble_eq_true rfl) (Nat.le_of_ble_eq_true rfl) (Nat.le_of_ble_eq_true rfl) rfl ?_
  rintro _ _ ⟨rfl, x2, rfl, hx2⟩
  show J_ zX11_chance T (po_X11_chance T cl g) 0 0 8 _ [vI x2] T
  refine j_blx (F := fX11) tb_X11 (nn_ _) bk_X11_chance_8 bs_X11_chance_8 hz (fun K hK => ?_)
  refine And.intro (fun c3 => ?_) (fun c3 => ?_)
  · refine hK 19 _ [] T ?_
    refine j_blx (F := fX11) tb_X11 (nn_ _) bk_X11_chance_19 bs_X11_chance_19 hz (fun K hK => ?_)
    refine (show po_X11_chance T cl g T (some (vI (-2))) from ?_)
    exact ⟨_, rfl, fr_0 _ _, by rfl⟩
  · refine hK 13 _ [vI cl, vR 111 0] T ?_
    refine j_callV (y := yX11_isInDraw) (Yc := zX11_isInDraw) (rest := []) [vI cl] (ct_X11_isInDraw (T := T) (by omega)) cl_X11_585 (qd_c (by decide +kernel)) (nn_ _) rfl (rf_of rfl) (Nat.le_of_ble_eq_true rfl) (Nat.le_of_ble_eq_true rfl) (Nat.le_of_ble_eq_true rfl) rfl ?_
    rintro _ _ ⟨rfl, x4, rfl, hx4⟩
    show J_ zX11_chance T (po_X11_chance T cl g) 0 0 16 _ [vI x4] T
    refine j_blx (F := fX11) tb_X11 (nn_ _) bk_X11_chance_16 bs_X11_chance_16 hz (fun K hK => ?_)
    refine And.intro (fun c5 => ?_) (fun c5 => ?_)
    · refine hK 22 _ [] T ?_
      refine j_blx (F := fX11) tb_X11 (nn_ _) bk_X11_chance_22 bs_X11_chance_22 hz (fun K hK => ?_)
      intro b6 b6b
      refine hK 27 _ [vI (T 111 0 99), vI g] T ?_
      refine j_callS (y := yX11_isOf) (Yc := zX11_isOf) (rest := []) [vI g, vI (T 111 0 99)] (ct_X11_isOf (T := T) (by omega)) cl_X11_317 (qd_c (by decide +kernel)) (nn_ _) rfl (rf_of rfl) (Nat.le_of_ble_eq_true rfl) (Nat.le_of_ble_eq_true rfl) (Nat.le_of_ble_eq_true rfl) rfl ?_
      rintro _ _ ⟨rfl, x7, rfl, hx7⟩
      show J_ zX11_chance T (po_X11_chance T cl g) 0 0 30 _ [vI x7] T
      refine j_blx (F := fX11) tb_X11 (nn_ _) bk_X11_chance_30 bs_X11_chance_30 hz (fun K hK => ?_)
      refine And.intro (fun c8 => ?_) (fun c8 => ?_)
      · refine hK 42 _ [] T ?_
        refine j_blx (F := fX11) tb_X11 (nn_ _) bk_X11_chance_42 bs_X11_chance_42 hz (fun K hK => ?_)
        refine (show po_X11_chance T cl g T (some (vI (-3))) from ?_)
        exact ⟨_, rfl, fr_0 _ _, by rfl⟩
      · refine hK 36 _ [vI g, vI cl, vR 111 0] T ?_
        refine j_callV (y := yX11_chanceOf) (Yc := zX11_chanceOf) (rest := []) [vI cl, vI g] (ct_X11_chanceOf (T := T) (by omega)) cl_X11_594 (qd_c (by decide +kernel)) (nn_ _) rfl (rf_of rfl) (Nat.le_of_ble_eq_true rfl) (Nat.le_of_ble_eq_true rfl) (Nat.le_of_ble_eq_true rfl) rfl ?_
        rintro U9 _ ⟨x10, rfl, fU9, qU9⟩
        show J_ zX11_chance T (po_X11_chance T cl g) 0 0 39 _ [vI x10] U9
        refine j_blx (F := fX11) tb_X11 (nn_ _) bk_X11_chance_39 bs_X11_chance_39 hz (fun K hK => ?_)
        refine hK 44 _ [vI x10] U9 ?_
        refine j_blx (F := fX11) tb_X11 (nn_ _) bk_X11_chance_44 bs_X11_chance_44 hz (fun K hK => ?_)
        refine (show po_X11_chance T cl g U9 (some (vI x10)) from ?_)
        exact ⟨_, rfl, fr_t (fr_0 _ _) (fr_s fU9 rfl), by rfl⟩
    · refine (show po_X11_chance T cl g T (some (vI (-2))) from ?_)
      exact ⟨_, rfl, fr_0 _ _, by rfl⟩
abbrev cX11_takenBelow : ByteArray := prog_13_method_119_code
def yX11_takenBelow : MethodName := ⟨RX11, "takenBelow", "(I)I"⟩
def zX11_takenBelow : Zm := (RX11, cX11_takenBelow, 5, (some .int), { frames := 0, cells := 0, slots := 0, locals := 0 })
theorem bk_X11_takenBelow_13 : ck_ fX11 (some .int) cX11_takenBelow 13 [.iload 4, .ifCond .eq 63, .aload 0, .aload 0, .tableswitch 0 11 103 #[], .iconst 1664525, .fmul, .iconst 1013904223, .fadd, .tableswitch 1 11 103 #[], .aload 0, .tableswitch 0 11 103 #[], .iconst 1, .iushr, .istore 3, .iload 3, .i2l, .sipush 2147483648, .iload 2, .i2l, .lsub, .lcmp, .ifCond .lt 57, .iconst 1, .goto 58] 57 = true := qck_r (nn_ _) (by decide +kernel)
theorem bs_X11_takenBelow_13 {P : Zt → Option Zv → Prop} (K : Int → Zl → List Zv → Zt → Prop) : sx_ K P [.iload 4, .ifCond .eq 63, .aload 0, .aload 0, .tableswitch 0 11 103 #[], .iconst 1664525, .fmul, .iconst 1013904223, .fadd, .tableswitch 1 11 103 #[], .aload 0, .tableswitch 0 11 103 #[], .iconst 1, .iushr, .istore 3, .iload 3, .i2l, .sipush 2147483648, .iload 2, .i2l, .lsub, .lcmp, .ifCond .lt 57, .iconst 1, .goto 58] 57 = x_iload 4 (x_ifCond .eq 63 K (x_aload 0 (x_aload 0 (x_g0 111 103 (-2147483648) 2147483647 (x_iconst 1664525 (x_fmul (x_iconst 1013904223 (x_fadd (x_p 111 103 (-2147483648) 2147483647 (x_aload 0 (x_g0 111 103 (-2147483648) 2147483647 (x_iconst 1 (x_iushr (x_istore 3 (x_iload 3 (x_i2l (x_sipush 2147483648 (x_iload 2 (x_i2l (x_lsub (x_lcmp (x_ifCond .lt 57 K (x_iconst 1 (x_goto 58 K)))))))))))))))))))))))) := ((xe_iload 4).trans (congrArg (x_iload 4) ((xe_ifCond .eq 63).trans (congrArg (x_ifCond .eq 63 K) ((xe_aload 0).trans (congrArg (x_aload 0) ((xe_aload 0).trans (congrArg (x_aload 0) ((xe_g0 (kk := 111) rfl tl_11_103).trans (congrArg (x_g0 111 103 (-2147483648) 2147483647) ((xe_iconst 1664525).trans (congrArg (x_iconst 1664525) ((xe_fmul).trans (congrArg (x_fmul) ((xe_iconst 1013904223).trans (congrArg (x_iconst 1013904223) ((xe_fadd).trans (congrArg (x_fadd) ((xe_p (kk := 111) rfl tl_11_103).trans (congrArg (x_p 111 103 (-2147483648) 2147483647) ((xe_aload 0).trans (congrArg (x_aload 0) ((xe_g0 (kk := 111) rfl tl_11_103).trans (congrArg (x_g0 111 103 (-2147483648) 2147483647) ((xe_iconst 1).trans (congrArg (x_iconst 1) ((xe_iushr).trans (congrArg (x_iushr) ((xe_istore 3).trans (congrArg (x_istore 3) ((xe_iload 3).trans (congrArg (x_iload 3) ((xe_i2l).trans (congrArg (x_i2l) ((xe_sipush 2147483648).trans (congrArg (x_sipush 2147483648) ((xe_iload 2).trans (congrArg (x_iload 2) ((xe_i2l).trans (congrArg (x_i2l) ((xe_lsub).trans (congrArg (x_lsub) ((xe_lcmp).trans (congrArg (x_lcmp) ((xe_ifCond .lt 57).trans (congrArg (x_ifCond .lt 57 K) ((xe_iconst 1).trans (congrArg (x_iconst 1) (xe_goto 58)))))))))))))))))))))))))))))))))))))))))))))))))
theorem bk_X11_takenBelow_63 : ck_ fX11 (some .int) cX11_takenBelow 63 [.iload 3, .iload 1, .irem, .ireturn] 67 = true := qck_r (nn_ _) (by decide +kernel)
theorem bs_X11_takenBelow_63 {P : Zt → Option Zv → Prop} (K : Int → Zl → List Zv → Zt → Prop) : sx_ K P [.iload 3, .iload 1, .irem, .ireturn] 67 = x_iload 3 (x_iload 1 (x_irem (x_ireturn P))) := ((xe_iload 3).trans (congrArg (x_iload 3) ((xe_iload 1).trans (congrArg (x_iload 1) ((xe_irem).trans (congrArg (x_irem) (xe_ireturn)))))))
theorem bk_X11_takenBelow_57 : ck_ fX11 (some .int) cX11_takenBelow 57 [.iconst 0, .istore 4, .goto 13] 63 = true := qck_r (nn_ _) (by decide +kernel)
theorem bs_X11_takenBelow_57 {P : Zt → Option Zv → Prop} (K : Int → Zl → List Zv → Zt → Prop) : sx_ K P [.iconst 0, .istore 4, .goto 13] 63 = x_iconst 0 (x_istore 4 (x_goto 13 K)) := ((xe_iconst 0).trans (congrArg (x_iconst 0) ((xe_istore 4).trans (congrArg (x_istore 4) (xe_goto 13)))))
theorem bk_X11_takenBelow_58 : ck_ fX11 (some .int) cX11_takenBelow 58 [.istore 4, .goto 13] 63 = true := qck_r (nn_ _) (by decide +kernel)
theorem bs_X11_takenBelow_58 {P : Zt → Option Zv → Prop} (K : Int → Zl → List Zv → Zt → Prop) : sx_ K P [.istore 4, .goto 13] 63 = x_istore 4 (x_goto 13 K) := ((xe_istore 4).trans (congrArg (x_istore 4) (xe_goto 13)))
theorem bk_X11_takenBelow_0 : ck_ fX11 (some .int) cX11_takenBelow 0 [.sipush 2147483648, .iload 1, .i2l, .lrem, .l2i, .istore 2, .iconst 0, .istore 3, .iconst 1, .istore 4] 13 = true := qck_r (nn_ _) (by decide +kernel)
theorem bs_X11_takenBelow_0 {P : Zt → Option Zv → Prop} (K : Int → Zl → List Zv → Zt → Prop) : sx_ K P [.sipush 2147483648, .iload 1, .i2l, .lrem, .l2i, .istore 2, .iconst 0, .istore 3, .iconst 1, .istore 4] 13 = x_sipush 2147483648 (x_iload 1 (x_i2l (x_lrem (x_l2i (x_istore 2 (x_iconst 0 (x_istore 3 (x_iconst 1 (x_istore 4 (K 13)))))))))) := ((xe_sipush 2147483648).trans (congrArg (x_sipush 2147483648) ((xe_iload 1).trans (congrArg (x_iload 1) ((xe_i2l).trans (congrArg (x_i2l) ((xe_lrem).trans (congrArg (x_lrem) ((xe_l2i).trans (congrArg (x_l2i) ((xe_istore 2).trans (congrArg (x_istore 2) ((xe_iconst 0).trans (congrArg (x_iconst 0) ((xe_istore 3).trans (congrArg (x_istore 3) ((xe_iconst 1).trans (congrArg (x_iconst 1) ((xe_istore 4).trans (congrArg (x_istore 4) xe_nil))))))))))))))))))))
abbrev po_X11_takenBelow (T : Zt) (m : Int) : Zt → Option Zv → Prop := fun T' r => ∃ x : Int, r = some (vI x) ∧ fr_ [(111, [103])] T T' ∧ (0 ≤ x ∧ x < m)
set_option maxHeartbeats 4000000 in
theorem ct_X11_takenBelow {T : Zt} {m : Int} (h1 : 1 ≤ m ∧ m ≤ 13824) : Ct_ yX11_takenBelow zX11_takenBelow T [vR 111 0, vI m] (po_X11_takenBelow T m) := by
  refine ct_of pn_11 rfl rfl (Nat.le_of_ble_eq_true rfl) (fun hT hav => ?_)
  have hr_m : -2147483648 ≤ m ∧ m ≤ 2147483647 := hav (vI m) (by simp)
  have hz : zX11_takenBelow.2.2.2.1 = some .boolean → ∀ (T' : Zt) (x : Int), po_X11_takenBelow T m T' (some (vI x)) → 0 ≤ x ∧ x ≤ 1 := fun h => by cases h
  have hr1 := Int.emod_nonneg 2147483648 (show m ≠ 0 by omega)
  have hr2 := Int.emod_lt_of_pos 2147483648 (show 0 < m by omega)
  show J_ zX11_takenBelow T (po_X11_takenBelow T m) 0 0 0 [some (vR 111 0), some (vI m), none, none, none] [] T
  have c_13 : ∀ (nn : Nat) (v : Int) (mr : Int) (ph : Nat) (T1 : Zt), ph ≤ nn → (fr_ [(111, [103])] T T1) → ((mr = 0 ∧ ph = 0 ∧ 0 ≤ v) ∨ (mr = 1 ∧ ph = 1 ∧ 2147469824 ≤ us_ (T1 111 0 103) 1) ∨ (mr = 1 ∧ ph = 2)) → J_ zX11_takenBelow T (po_X11_takenBelow T m) 0 0 13 [some (vR 111 0), some (vI m), some (vI (2147483648 % m)), some (vI v), some (vI mr)] [] T1 := by
    intro nn
    induction nn using Nat.strongRecOn with
    | _ nn ih_13 =>
      intro v mr ph T1 hm_13 hf_13 hp
      refine j_blx (F := fX11) tb_X11 (nn_ _) bk_X11_takenBelow_13 bs_X11_takenBelow_13 hz (fun K hK => ?_)
      refine And.intro (fun c1 => ?_) (fun c1 => ?_)
      · refine hK 63 _ [] T1 ?_
        refine j_blx (F := fX11) tb_X11 (nn_ _) bk_X11_takenBelow_63 bs_X11_takenBelow_63 hz (fun K hK => ?_)
        have hv1 := Int.emod_nonneg v (show m ≠ 0 by omega)
        have hv2 := Int.emod_lt_of_pos v (show 0 < m by omega)
        refine dv_i (by omega) ?_
        refine (show po_X11_takenBelow T m T1 (some (vI (v % m))) from ?_)
        exact ⟨_, rfl, fr_t (fr_0 _ _) (fr_s hf_13 rfl), by omega⟩
      · intro b2 b2b
        intro w3 w3b
        intro w4 w4b
        refine bd_i (by omega) ?_
        refine x_nm (fun U5 hU5 => ?_)
        have e6 := up_f hU5
        intro b7 b7b
        have e8 : U5 111 0 103 = wr_ ((wr_ ((T1 111 0 103) * 1664525)) + 1013904223) := up_f hU5
        rw [e8] at b7 b7b ⊢
        intro w9 w9b
        have hu := us_1 (x := (wr_ ((wr_ ((T1 111 0 103) * 1664525)) + 1013904223))) (by omega)
        have htk : ph = 1 → us_ (wr_ ((wr_ ((T1 111 0 103) * 1664525)) + 1013904223)) 1 < 2147469824 := fun z => by
          rcases hp with y | y | y
          · omega
          · exact tk_2 (by omega) y.2.2
          · omega
        refine rl_i (by omega) ?_
        refine And.intro (fun c10 => ?_) (And.intro (fun c10 => ?_) (fun c10 => ?_))
        · refine And.intro (fun c11 => ?_) (fun c11 => ?_)
          · refine hK 57 [some (vR 111 0), some (vI m), some (vI (2147483648 % m)), some (vI (us_ (wr_ ((wr_ ((T1 111 0 103) * 1664525)) + 1013904223)) 1)), some (vI mr)] [] U5 ?_
            refine j_blx (F := fX11) tb_X11 (nn_ _) bk_X11_takenBelow_57 bs_X11_takenBelow_57 hz (fun K hK => ?_)
            refine hK 13 [some (vR 111 0), some (vI m), some (vI (2147483648 % m)), some (vI (us_ (wr_ ((wr_ ((T1 111 0 103) * 1664525)) + 1013904223)) 1)), some (vI 0)] [] U5 ?_
            have e12 : U5 111 0 103 = wr_ ((wr_ ((T1 111 0 103) * 1664525)) + 1013904223) := up_f hU5
            refine ih_13 _ ?_ (us_ (wr_ ((wr_ ((T1 111 0 103) * 1664525)) + 1013904223)) 1) 0 0 U5 (Nat.le_refl _) ?_ ?_
            · omega
            · exact fr_u (fr_t (fr_0 _ _) (fr_s hf_13 rfl)) hU5 rfl
            · exact Or.inl ⟨rfl, rfl, by omega⟩
          · refine hK 58 [some (vR 111 0), some (vI m), some (vI (2147483648 % m)), some (vI (us_ (wr_ ((wr_ ((T1 111 0 103) * 1664525)) + 1013904223)) 1)), some (vI mr)] [vI 1] U5 ?_
            refine j_blx (F := fX11) tb_X11 (nn_ _) bk_X11_takenBelow_58 bs_X11_takenBelow_58 hz (fun K hK => ?_)
            refine hK 13 [some (vR 111 0), some (vI m), some (vI (2147483648 % m)), some (vI (us_ (wr_ ((wr_ ((T1 111 0 103) * 1664525)) + 1013904223)) 1)), some (vI 1)] [] U5 ?_
            have e13 : U5 111 0 103 = wr_ ((wr_ ((T1 111 0 103) * 1664525)) + 1013904223) := up_f hU5
            refine ih_13 _ ?_ (us_ (wr_ ((wr_ ((T1 111 0 103) * 1664525)) + 1013904223)) 1) 1 1 U5 (Nat.le_refl _) ?_ ?_
            · omega
            · exact fr_u (fr_t (fr_0 _ _) (fr_s hf_13 rfl)) hU5 rfl
            · exact Or.inr (Or.inl ⟨rfl, rfl, by rw [up_f hU5]; omega⟩)
        · refine And.intro (fun c14 => ?_) (fun c14 => ?_)
          · refine hK 57 [some (vR 111 0), some (vI m), some (vI (2147483648 % m)), some (vI (us_ (wr_ ((wr_ ((T1 111 0 103) * 1664525)) + 1013904223)) 1)), some (vI mr)] [] U5 ?_
            refine j_blx (F := fX11) tb_X11 (nn_ _) bk_X11_takenBelow_57 bs_X11_takenBelow_57 hz (fun K hK => ?_)
            refine hK 13 [some (vR 111 0), some (vI m), some (vI (2147483648 % m)), some (vI (us_ (wr_ ((wr_ ((T1 111 0 103) * 1664525)) + 1013904223)) 1)), some (vI 0)] [] U5 ?_
            have e15 : U5 111 0 103 = wr_ ((wr_ ((T1 111 0 103) * 1664525)) + 1013904223) := up_f hU5
            refine ih_13 _ ?_ (us_ (wr_ ((wr_ ((T1 111 0 103) * 1664525)) + 1013904223)) 1) 0 0 U5 (Nat.le_refl _) ?_ ?_
            · omega
            · exact fr_u (fr_t (fr_0 _ _) (fr_s hf_13 rfl)) hU5 rfl
            · exact Or.inl ⟨rfl, rfl, by omega⟩
          · refine hK 58 [some (vR 111 0), some (vI m), some (vI (2147483648 % m)), some (vI (us_ (wr_ ((wr_ ((T1 111 0 103) * 1664525)) + 1013904223)) 1)), some (vI mr)] [vI 1] U5 ?_
            refine j_blx (F := fX11) tb_X11 (nn_ _) bk_X11_takenBelow_58 bs_X11_takenBelow_58 hz (fun K hK => ?_)
            refine hK 13 [some (vR 111 0), some (vI m), some (vI (2147483648 % m)), some (vI (us_ (wr_ ((wr_ ((T1 111 0 103) * 1664525)) + 1013904223)) 1)), some (vI 1)] [] U5 ?_
            have e16 : U5 111 0 103 = wr_ ((wr_ ((T1 111 0 103) * 1664525)) + 1013904223) := up_f hU5
            refine ih_13 _ ?_ (us_ (wr_ ((wr_ ((T1 111 0 103) * 1664525)) + 1013904223)) 1) 1 1 U5 (Nat.le_refl _) ?_ ?_
            · omega
            · exact fr_u (fr_t (fr_0 _ _) (fr_s hf_13 rfl)) hU5 rfl
            · exact Or.inr (Or.inl ⟨rfl, rfl, by rw [up_f hU5]; omega⟩)
        · refine And.intro (fun c17 => ?_) (fun c17 => ?_)
          · refine hK 57 [some (vR 111 0), some (vI m), some (vI (2147483648 % m)), some (vI (us_ (wr_ ((wr_ ((T1 111 0 103) * 1664525)) + 1013904223)) 1)), some (vI mr)] [] U5 ?_
            refine j_blx (F := fX11) tb_X11 (nn_ _) bk_X11_takenBelow_57 bs_X11_takenBelow_57 hz (fun K hK => ?_)
            refine hK 13 [some (vR 111 0), some (vI m), some (vI (2147483648 % m)), some (vI (us_ (wr_ ((wr_ ((T1 111 0 103) * 1664525)) + 1013904223)) 1)), some (vI 0)] [] U5 ?_
            have e18 : U5 111 0 103 = wr_ ((wr_ ((T1 111 0 103) * 1664525)) + 1013904223) := up_f hU5
            refine ih_13 _ ?_ (us_ (wr_ ((wr_ ((T1 111 0 103) * 1664525)) + 1013904223)) 1) 0 0 U5 (Nat.le_refl _) ?_ ?_
            · omega
            · exact fr_u (fr_t (fr_0 _ _) (fr_s hf_13 rfl)) hU5 rfl
            · exact Or.inl ⟨rfl, rfl, by omega⟩
          · refine hK 58 [some (vR 111 0), some (vI m), some (vI (2147483648 % m)), some (vI (us_ (wr_ ((wr_ ((T1 111 0 103) * 1664525)) + 1013904223)) 1)), some (vI mr)] [vI 1] U5 ?_
            refine j_blx (F := fX11) tb_X11 (nn_ _) bk_X11_takenBelow_58 bs_X11_takenBelow_58 hz (fun K hK => ?_)
            refine hK 13 [some (vR 111 0), some (vI m), some (vI (2147483648 % m)), some (vI (us_ (wr_ ((wr_ ((T1 111 0 103) * 1664525)) + 1013904223)) 1)), some (vI 1)] [] U5 ?_
            have e19 : U5 111 0 103 = wr_ ((wr_ ((T1 111 0 103) * 1664525)) + 1013904223) := up_f hU5
            refine ih_13 _ ?_ (us_ (wr_ ((wr_ ((T1 111 0 103) * 1664525)) + 1013904223)) 1) 1 1 U5 (Nat.le_refl _) ?_ ?_
            · omega
            · exact fr_u (fr_t (fr_0 _ _) (fr_s hf_13 rfl)) hU5 rfl
            · exact Or.inr (Or.inl ⟨rfl, rfl, by rw [up_f hU5]; omega⟩)
  refine j_blx (F := fX11) tb_X11 (nn_ _) bk_X11_takenBelow_0 bs_X11_takenBelow_0 hz (fun K hK => ?_)
  refine dv_i (by omega) ?_
  refine rg_i (by omega) ?_
  refine hK 13 [some (vR 111 0), some (vI m), some (vI (2147483648 % m)), some (vI 0), some (vI 1)] [] T ?_
  refine c_13 _ 0 1 2 T (Nat.le_refl _) ?_ ?_
  · exact fr_0 _ _
  · exact Or.inr (Or.inr ⟨rfl, rfl⟩)
abbrev cX11_ball : ByteArray := prog_13_method_120_code
def yX11_ball : MethodName := ⟨RX11, "ball", "(IZ)I"⟩
def zX11_ball : Zm := (RX11, cX11_ball, 12, (some .int), { frames := 2, cells := 0, slots := 0, locals := 52 })
theorem bk_X11_ball_265 : ck_ fX11 (some .int) cX11_ball 265 [.iload 10, .iload 9, .if_icmp .gt 291, .iinc 11 1, .iload 10, .aload 0, .iload 8, .iload 11] 282 = true := qck_r (nn_ _) (by decide +kernel)
theorem bs_X11_ball_265 {P : Zt → Option Zv → Prop} (K : Int → Zl → List Zv → Zt → Prop) : sx_ K P [.iload 10, .iload 9, .if_icmp .gt 291, .iinc 11 1, .iload 10, .aload 0, .iload 8, .iload 11] 282 = x_iload 10 (x_iload 9 (x_if_icmp .gt 291 K (x_iinc 11 1 (x_iload 10 (x_aload 0 (x_iload 8 (x_iload 11 (K 282)))))))) := ((xe_iload 10).trans (congrArg (x_iload 10) ((xe_iload 9).trans (congrArg (x_iload 9) ((xe_if_icmp .gt 291).trans (congrArg (x_if_icmp .gt 291 K) ((xe_iinc 11 1).trans (congrArg (x_iinc 11 1) ((xe_iload 10).trans (congrArg (x_iload 10) ((xe_aload 0).trans (congrArg (x_aload 0) ((xe_iload 8).trans (congrArg (x_iload 8) ((xe_iload 11).trans (congrArg (x_iload 11) xe_nil))))))))))))))))
theorem bk_X11_ball_291 : ck_ fX11 (some .int) cX11_ball 291 [.aload 0, .tableswitch 0 11 102 #[], .iload 8, .iload 11, .iastore, .iconst 8, .iload 8, .imul, .iload 11, .iadd, .ireturn] 309 = true := qck_r (nn_ _) (by decide +kernel)
theorem bs_X11_ball_291 {P : Zt → Option Zv → Prop} (K : Int → Zl → List Zv → Zt → Prop) : sx_ K P [.aload 0, .tableswitch 0 11 102 #[], .iload 8, .iload 11, .iastore, .iconst 8, .iload 8, .imul, .iload 11, .iadd, .ireturn] 309 = x_aload 0 (x_g1 111 302 (x_iload 8 (x_iload 11 (x_iastore (x_iconst 8 (x_iload 8 (x_imul (x_iload 11 (x_iadd (x_ireturn P)))))))))) := ((xe_aload 0).trans (congrArg (x_aload 0) ((xe_g1 (kk := 111) rfl tl_11_102).trans (congrArg (x_g1 111 302) ((xe_iload 8).trans (congrArg (x_iload 8) ((xe_iload 11).trans (congrArg (x_iload 11) ((xe_iastore).trans (congrArg (x_iastore) ((xe_iconst 8).trans (congrArg (x_iconst 8) ((xe_iload 8).trans (congrArg (x_iload 8) ((xe_imul).trans (congrArg (x_imul) ((xe_iload 11).trans (congrArg (x_iload 11) ((xe_iadd).trans (congrArg (x_iadd) (xe_ireturn)))))))))))))))))))))
theorem bk_X11_ball_285 : ck_ fX11 (some .int) cX11_ball 285 [.iadd, .istore 10, .goto 265] 291 = true := qck_r (nn_ _) (by decide +kernel)
theorem bs_X11_ball_285 {P : Zt → Option Zv → Prop} (K : Int → Zl → List Zv → Zt → Prop) : sx_ K P [.iadd, .istore 10, .goto 265] 291 = x_iadd (x_istore 10 (x_goto 265 K)) := ((xe_iadd).trans (congrArg (x_iadd) ((xe_istore 10).trans (congrArg (x_istore 10) (xe_goto 265)))))
theorem bk_X11_ball_196 : ck_ fX11 (some .int) cX11_ball 196 [.iload 9, .aload 0, .tableswitch 0 11 12 #[], .if_icmp .ge 251, .aload 0, .tableswitch 0 11 101 #[], .iload 9, .iaload, .iload 4, .if_icmp .ne 245, .aload 0, .tableswitch 0 11 102 #[], .iload 9, .iaload, .iconst (-1), .if_icmp .ne 245, .iload 7, .ifCond .ne 238, .iload 9, .goto 240] 238 = true := qck_r (nn_ _) (by decide +kernel)
theorem bs_X11_ball_196 {P : Zt → Option Zv → Prop} (K : Int → Zl → List Zv → Zt → Prop) : sx_ K P [.iload 9, .aload 0, .tableswitch 0 11 12 #[], .if_icmp .ge 251, .aload 0, .tableswitch 0 11 101 #[], .iload 9, .iaload, .iload 4, .if_icmp .ne 245, .aload 0, .tableswitch 0 11 102 #[], .iload 9, .iaload, .iconst (-1), .if_icmp .ne 245, .iload 7, .ifCond .ne 238, .iload 9, .goto 240] 238 = x_iload 9 (x_aload 0 (x_g0 111 12 0 12 (x_if_icmp .ge 251 K (x_aload 0 (x_g1 111 301 (x_iload 9 (x_iaload (x_iload 4 (x_if_icmp .ne 245 K (x_aload 0 (x_g1 111 302 (x_iload 9 (x_iaload (x_iconst (-1) (x_if_icmp .ne 245 K (x_iload 7 (x_ifCond .ne 238 K (x_iload 9 (x_goto 240 K))))))))))))))))))) := ((xe_iload 9).trans (congrArg (x_iload 9) ((xe_aload 0).trans (congrArg (x_aload 0) ((xe_g0 (kk := 111) rfl tl_11_12).trans (congrArg (x_g0 111 12 0 12) ((xe_if_icmp .ge 251).trans (congrArg (x_if_icmp .ge 251 K) ((xe_aload 0).trans (congrArg (x_aload 0) ((xe_g1 (kk := 111) rfl tl_11_101).trans (congrArg (x_g1 111 301) ((xe_iload 9).trans (congrArg (x_iload 9) ((xe_iaload).trans (congrArg (x_iaload) ((xe_iload 4).trans (congrArg (x_iload 4) ((xe_if_icmp .ne 245).trans (congrArg (x_if_icmp .ne 245 K) ((xe_aload 0).trans (congrArg (x_aload 0) ((xe_g1 (kk := 111) rfl tl_11_102).trans (congrArg (x_g1 111 302) ((xe_iload 9).trans (congrArg (x_iload 9) ((xe_iaload).trans (congrArg (x_iaload) ((xe_iconst (-1)).trans (congrArg (x_iconst (-1)) ((xe_if_icmp .ne 245).trans (congrArg (x_if_icmp .ne 245 K) ((xe_iload 7).trans (congrArg (x_iload 7) ((xe_ifCond .ne 238).trans (congrArg (x_ifCond .ne 238 K) ((xe_iload 9).trans (congrArg (x_iload 9) (xe_goto 240)))))))))))))))))))))))))))))))))))))))
theorem bk_X11_ball_251 : ck_ fX11 (some .int) cX11_ball 251 [.aload 0, .iload 5] 254 = true := qck_r (nn_ _) (by decide +kernel)
theorem bs_X11_ball_251 {P : Zt → Option Zv → Prop} (K : Int → Zl → List Zv → Zt → Prop) : sx_ K P [.aload 0, .iload 5] 254 = x_aload 0 (x_iload 5 (K 254)) := ((xe_aload 0).trans (congrArg (x_aload 0) ((xe_iload 5).trans (congrArg (x_iload 5) xe_nil))))
set_option maxRecDepth 100000 in
theorem cl_X11_604 : cv_ RX11 604 yX11_takenBelow zX11_takenBelow 11 1 := ⟨gi_V (lw_b10 75 (by decide +kernel) rfl : Cond.methodLink RX11 604 yX11_takenBelow ∈ lw_g) (lw_b10 77 (by decide +kernel) rfl : Cond.instanceMethod yX11_takenBelow ∈ lw_g) (lw_sel 73 rfl : Cond.selects yX11_takenBelow.cls yX11_takenBelow yX11_takenBelow ∈ lw_g) (lw_b1 10 (by decide +kernel) rfl : Cond.initialized yX11_takenBelow.cls ∈ lw_g) (lw_b10 78 rfl rfl : Cond.code yX11_takenBelow cX11_takenBelow 5 (some .int) ∈ lw_g), ⟨by decide, by decide, by decide +kernel⟩, ⟨_, _, rfl⟩⟩
theorem bk_X11_ball_257 : ck_ fX11 (some .int) cX11_ball 257 [.istore 9, .iconst 0, .istore 10, .iconst (-1), .istore 11] 265 = true := qck_r (nn_ _) (by decide +kernel)
theorem bs_X11_ball_257 {P : Zt → Option Zv → Prop} (K : Int → Zl → List Zv → Zt → Prop) : sx_ K P [.istore 9, .iconst 0, .istore 10, .iconst (-1), .istore 11] 265 = x_istore 9 (x_iconst 0 (x_istore 10 (x_iconst (-1) (x_istore 11 (K 265))))) := ((xe_istore 9).trans (congrArg (x_istore 9) ((xe_iconst 0).trans (congrArg (x_iconst 0) ((xe_istore 10).trans (congrArg (x_istore 10) ((xe_iconst (-1)).trans (congrArg (x_iconst (-1)) ((xe_istore 11).trans (congrArg (x_istore 11) xe_nil))))))))))
theorem bk_X11_ball_245 : ck_ fX11 (some .int) cX11_ball 245 [.iinc 9 1, .goto 196] 251 = true := qck_r (nn_ _) (by decide +kernel)
theorem bs_X11_ball_245 {P : Zt → Option Zv → Prop} (K : Int → Zl → List Zv → Zt → Prop) : sx_ K P [.iinc 9 1, .goto 196] 251 = x_iinc 9 1 (x_goto 196 K) := ((xe_iinc 9 1).trans (congrArg (x_iinc 9 1) (xe_goto 196)))
theorem bk_X11_ball_238 : ck_ fX11 (some .int) cX11_ball 238 [.iload 8, .istore 8, .iinc 7 (-1), .iinc 9 1, .goto 196] 251 = true := qck_r (nn_ _) (by decide +kernel)
theorem bs_X11_ball_238 {P : Zt → Option Zv → Prop} (K : Int → Zl → List Zv → Zt → Prop) : sx_ K P [.iload 8, .istore 8, .iinc 7 (-1), .iinc 9 1, .goto 196] 251 = x_iload 8 (x_istore 8 (x_iinc 7 (-1) (x_iinc 9 1 (x_goto 196 K)))) := ((xe_iload 8).trans (congrArg (x_iload 8) ((xe_istore 8).trans (congrArg (x_istore 8) ((xe_iinc 7 (-1)).trans (congrArg (x_iinc 7 (-1)) ((xe_iinc 9 1).trans (congrArg (x_iinc 9 1) (xe_goto 196)))))))))
theorem bk_X11_ball_240 : ck_ fX11 (some .int) cX11_ball 240 [.istore 8, .iinc 7 (-1), .iinc 9 1, .goto 196] 251 = true := qck_r (nn_ _) (by decide +kernel)
theorem bs_X11_ball_240 {P : Zt → Option Zv → Prop} (K : Int → Zl → List Zv → Zt → Prop) : sx_ K P [.istore 8, .iinc 7 (-1), .iinc 9 1, .goto 196] 251 = x_istore 8 (x_iinc 7 (-1) (x_iinc 9 1 (x_goto 196 K))) := ((xe_istore 8).trans (congrArg (x_istore 8) ((xe_iinc 7 (-1)).trans (congrArg (x_iinc 7 (-1)) ((xe_iinc 9 1).trans (congrArg (x_iinc 9 1) (xe_goto 196)))))))
theorem bk_X11_ball_134 : ck_ fX11 (some .int) cX11_ball 134 [.iload 7, .aload 0, .tableswitch 0 11 12 #[], .if_icmp .ge 182, .iload 6, .aload 0, .tableswitch 0 11 101 #[], .iload 7, .iaload, .iload 4, .if_icmp .ne 172, .aload 0, .tableswitch 0 11 102 #[], .iload 7, .iaload, .iconst (-1), .if_icmp .ne 172, .iconst 1, .goto 173] 172 = true := qck_r (nn_ _) (by decide +kernel)
theorem bs_X11_ball_134 {P : Zt → Option Zv → Prop} (K : Int → Zl → List Zv → Zt → Prop) : sx_ K P [.iload 7, .aload 0, .tableswitch 0 11 12 #[], .if_icmp .ge 182, .iload 6, .aload 0, .tableswitch 0 11 101 #[], .iload 7, .iaload, .iload 4, .if_icmp .ne 172, .aload 0, .tableswitch 0 11 102 #[], .iload 7, .iaload, .iconst (-1), .if_icmp .ne 172, .iconst 1, .goto 173] 172 = x_iload 7 (x_aload 0 (x_g0 111 12 0 12 (x_if_icmp .ge 182 K (x_iload 6 (x_aload 0 (x_g1 111 301 (x_iload 7 (x_iaload (x_iload 4 (x_if_icmp .ne 172 K (x_aload 0 (x_g1 111 302 (x_iload 7 (x_iaload (x_iconst (-1) (x_if_icmp .ne 172 K (x_iconst 1 (x_goto 173 K)))))))))))))))))) := ((xe_iload 7).trans (congrArg (x_iload 7) ((xe_aload 0).trans (congrArg (x_aload 0) ((xe_g0 (kk := 111) rfl tl_11_12).trans (congrArg (x_g0 111 12 0 12) ((xe_if_icmp .ge 182).trans (congrArg (x_if_icmp .ge 182 K) ((xe_iload 6).trans (congrArg (x_iload 6) ((xe_aload 0).trans (congrArg (x_aload 0) ((xe_g1 (kk := 111) rfl tl_11_101).trans (congrArg (x_g1 111 301) ((xe_iload 7).trans (congrArg (x_iload 7) ((xe_iaload).trans (congrArg (x_iaload) ((xe_iload 4).trans (congrArg (x_iload 4) ((xe_if_icmp .ne 172).trans (congrArg (x_if_icmp .ne 172 K) ((xe_aload 0).trans (congrArg (x_aload 0) ((xe_g1 (kk := 111) rfl tl_11_102).trans (congrArg (x_g1 111 302) ((xe_iload 7).trans (congrArg (x_iload 7) ((xe_iaload).trans (congrArg (x_iaload) ((xe_iconst (-1)).trans (congrArg (x_iconst (-1)) ((xe_if_icmp .ne 172).trans (congrArg (x_if_icmp .ne 172 K) ((xe_iconst 1).trans (congrArg (x_iconst 1) (xe_goto 173)))))))))))))))))))))))))))))))))))))
theorem bk_X11_ball_182 : ck_ fX11 (some .int) cX11_ball 182 [.aload 0, .iload 6] 185 = true := qck_r (nn_ _) (by decide +kernel)
theorem bs_X11_ball_182 {P : Zt → Option Zv → Prop} (K : Int → Zl → List Zv → Zt → Prop) : sx_ K P [.aload 0, .iload 6] 185 = x_aload 0 (x_iload 6 (K 185)) := ((xe_aload 0).trans (congrArg (x_aload 0) ((xe_iload 6).trans (congrArg (x_iload 6) xe_nil))))
theorem bk_X11_ball_188 : ck_ fX11 (some .int) cX11_ball 188 [.istore 7, .iconst (-1), .istore 8, .iconst 0, .istore 9] 196 = true := qck_r (nn_ _) (by decide +kernel)
theorem bs_X11_ball_188 {P : Zt → Option Zv → Prop} (K : Int → Zl → List Zv → Zt → Prop) : sx_ K P [.istore 7, .iconst (-1), .istore 8, .iconst 0, .istore 9] 196 = x_istore 7 (x_iconst (-1) (x_istore 8 (x_iconst 0 (x_istore 9 (K 196))))) := ((xe_istore 7).trans (congrArg (x_istore 7) ((xe_iconst (-1)).trans (congrArg (x_iconst (-1)) ((xe_istore 8).trans (congrArg (x_istore 8) ((xe_iconst 0).trans (congrArg (x_iconst 0) ((xe_istore 9).trans (congrArg (x_istore 9) xe_nil))))))))))
theorem bk_X11_ball_172 : ck_ fX11 (some .int) cX11_ball 172 [.iconst 0, .iadd, .istore 6, .iinc 7 1, .goto 134] 182 = true := qck_r (nn_ _) (by decide +kernel)
theorem bs_X11_ball_172 {P : Zt → Option Zv → Prop} (K : Int → Zl → List Zv → Zt → Prop) : sx_ K P [.iconst 0, .iadd, .istore 6, .iinc 7 1, .goto 134] 182 = x_iconst 0 (x_iadd (x_istore 6 (x_iinc 7 1 (x_goto 134 K)))) := ((xe_iconst 0).trans (congrArg (x_iconst 0) ((xe_iadd).trans (congrArg (x_iadd) ((xe_istore 6).trans (congrArg (x_istore 6) ((xe_iinc 7 1).trans (congrArg (x_iinc 7 1) (xe_goto 134)))))))))
theorem bk_X11_ball_173 : ck_ fX11 (some .int) cX11_ball 173 [.iadd, .istore 6, .iinc 7 1, .goto 134] 182 = true := qck_r (nn_ _) (by decide +kernel)
theorem bs_X11_ball_173 {P : Zt → Option Zv → Prop} (K : Int → Zl → List Zv → Zt → Prop) : sx_ K P [.iadd, .istore 6, .iinc 7 1, .goto 134] 182 = x_iadd (x_istore 6 (x_iinc 7 1 (x_goto 134 K))) := ((xe_iadd).trans (congrArg (x_iadd) ((xe_istore 6).trans (congrArg (x_istore 6) ((xe_iinc 7 1).trans (congrArg (x_iinc 7 1) (xe_goto 134)))))))
theorem bk_X11_ball_8 : ck_ fX11 (some .int) cX11_ball 8 [.iload 5, .aload 0, .tableswitch 0 11 12 #[], .if_icmp .ge 81, .aload 0, .tableswitch 0 11 98 #[], .ifCond .eq 81, .aload 0, .tableswitch 0 11 101 #[], .iload 5, .iaload, .iconst (-1), .if_icmp .eq 75, .aload 0, .tableswitch 0 11 102 #[], .iload 5, .iaload, .iconst (-1), .if_icmp .ne 75, .aload 0, .tableswitch 0 11 101 #[], .iload 5, .iaload, .iload 4, .if_icmp .ge 68, .aload 0, .tableswitch 0 11 101 #[], .iload 5, .iaload, .goto 70] 68 = true := qck_r (nn_ _) (by decide +kernel)
theorem bs_X11_ball_8 {P : Zt → Option Zv → Prop} (K : Int → Zl → List Zv → Zt → Prop) : sx_ K P [.iload 5, .aload 0, .tableswitch 0 11 12 #[], .if_icmp .ge 81, .aload 0, .tableswitch 0 11 98 #[], .ifCond .eq 81, .aload 0, .tableswitch 0 11 101 #[], .iload 5, .iaload, .iconst (-1), .if_icmp .eq 75, .aload 0, .tableswitch 0 11 102 #[], .iload 5, .iaload, .iconst (-1), .if_icmp .ne 75, .aload 0, .tableswitch 0 11 101 #[], .iload 5, .iaload, .iload 4, .if_icmp .ge 68, .aload 0, .tableswitch 0 11 101 #[], .iload 5, .iaload, .goto 70] 68 = x_iload 5 (x_aload 0 (x_g0 111 12 0 12 (x_if_icmp .ge 81 K (x_aload 0 (x_g0 111 98 0 1 (x_ifCond .eq 81 K (x_aload 0 (x_g1 111 301 (x_iload 5 (x_iaload (x_iconst (-1) (x_if_icmp .eq 75 K (x_aload 0 (x_g1 111 302 (x_iload 5 (x_iaload (x_iconst (-1) (x_if_icmp .ne 75 K (x_aload 0 (x_g1 111 301 (x_iload 5 (x_iaload (x_iload 4 (x_if_icmp .ge 68 K (x_aload 0 (x_g1 111 301 (x_iload 5 (x_iaload (x_goto 70 K))))))))))))))))))))))))))))) := ((xe_iload 5).trans (congrArg (x_iload 5) ((xe_aload 0).trans (congrArg (x_aload 0) ((xe_g0 (kk := 111) rfl tl_11_12).trans (congrArg (x_g0 111 12 0 12) ((xe_if_icmp .ge 81).trans (congrArg (x_if_icmp .ge 81 K) ((xe_aload 0).trans (congrArg (x_aload 0) ((xe_g0 (kk := 111) rfl tl_11_98).trans (congrArg (x_g0 111 98 0 1) ((xe_ifCond .eq 81).trans (congrArg (x_ifCond .eq 81 K) ((xe_aload 0).trans (congrArg (x_aload 0) ((xe_g1 (kk := 111) rfl tl_11_101).trans (congrArg (x_g1 111 301) ((xe_iload 5).trans (congrArg (x_iload 5) ((xe_iaload).trans (congrArg (x_iaload) ((xe_iconst (-1)).trans (congrArg (x_iconst (-1)) ((xe_if_icmp .eq 75).trans (congrArg (x_if_icmp .eq 75 K) ((xe_aload 0).trans (congrArg (x_aload 0) ((xe_g1 (kk := 111) rfl tl_11_102).trans (congrArg (x_g1 111 302) ((xe_iload 5).trans (congrArg (x_iload 5) ((xe_iaload).trans (congrArg (x_iaload) ((xe_iconst (-1)).trans (congrArg (x_iconst (-1)) ((xe_if_icmp .ne 75).trans (congrArg (x_if_icmp .ne 75 K) ((xe_aload 0).trans (congrArg (x_aload 0) ((xe_g1 (kk := 111) rfl tl_11_101).trans (congrArg (x_g1 111 301) ((xe_iload 5).trans (congrArg (x_iload 5) ((xe_iaload).trans (congrArg (x_iaload) ((xe_iload 4).trans (congrArg (x_iload 4) ((xe_if_icmp .ge 68).trans (congrArg (x_if_icmp .ge 68 K) ((xe_aload 0).trans (congrArg (x_aload 0) ((xe_g1 (kk := 111) rfl tl_11_101).trans (congrArg (x_g1 111 301) ((xe_iload 5).trans (congrArg (x_iload 5) ((xe_iaload).trans (congrArg (x_iaload) (xe_goto 70)))))))))))))))))))))))))))))))))))))))))))))))))))))))))))
theorem bk_X11_ball_81 : ck_ fX11 (some .int) cX11_ball 81 [.aload 0, .tableswitch 0 11 98 #[], .ifCond .eq 101, .iload 3, .ifCond .le 101, .aload 0, .iconst (-1), .iconst (-1)] 95 = true := qck_r (nn_ _) (by decide +kernel)
theorem bs_X11_ball_81 {P : Zt → Option Zv → Prop} (K : Int → Zl → List Zv → Zt → Prop) : sx_ K P [.aload 0, .tableswitch 0 11 98 #[], .ifCond .eq 101, .iload 3, .ifCond .le 101, .aload 0, .iconst (-1), .iconst (-1)] 95 = x_aload 0 (x_g0 111 98 0 1 (x_ifCond .eq 101 K (x_iload 3 (x_ifCond .le 101 K (x_aload 0 (x_iconst (-1) (x_iconst (-1) (K 95)))))))) := ((xe_aload 0).trans (congrArg (x_aload 0) ((xe_g0 (kk := 111) rfl tl_11_98).trans (congrArg (x_g0 111 98 0 1) ((xe_ifCond .eq 101).trans (congrArg (x_ifCond .eq 101 K) ((xe_iload 3).trans (congrArg (x_iload 3) ((xe_ifCond .le 101).trans (congrArg (x_ifCond .le 101 K) ((xe_aload 0).trans (congrArg (x_aload 0) ((xe_iconst (-1)).trans (congrArg (x_iconst (-1)) ((xe_iconst (-1)).trans (congrArg (x_iconst (-1)) xe_nil))))))))))))))))
theorem bk_X11_ball_101 : ck_ fX11 (some .int) cX11_ball 101 [.iconst 0, .istore 5, .iload 5, .ifCond .ne 112, .iconst (-4), .ireturn] 112 = true := qck_r (nn_ _) (by decide +kernel)
theorem bs_X11_ball_101 {P : Zt → Option Zv → Prop} (K : Int → Zl → List Zv → Zt → Prop) : sx_ K P [.iconst 0, .istore 5, .iload 5, .ifCond .ne 112, .iconst (-4), .ireturn] 112 = x_iconst 0 (x_istore 5 (x_iload 5 (x_ifCond .ne 112 K (x_iconst (-4) (x_ireturn P))))) := ((xe_iconst 0).trans (congrArg (x_iconst 0) ((xe_istore 5).trans (congrArg (x_istore 5) ((xe_iload 5).trans (congrArg (x_iload 5) ((xe_ifCond .ne 112).trans (congrArg (x_ifCond .ne 112 K) ((xe_iconst (-4)).trans (congrArg (x_iconst (-4)) (xe_ireturn)))))))))))
theorem bk_X11_ball_98 : ck_ fX11 (some .int) cX11_ball 98 [.goto 102] 101 = true := qck_r (nn_ _) (by decide +kernel)
theorem bs_X11_ball_98 {P : Zt → Option Zv → Prop} (K : Int → Zl → List Zv → Zt → Prop) : sx_ K P [.goto 102] 101 = x_goto 102 K := (xe_goto 102)
theorem bk_X11_ball_102 : ck_ fX11 (some .int) cX11_ball 102 [.istore 5, .iload 5, .ifCond .ne 112, .iconst (-4), .ireturn] 112 = true := qck_r (nn_ _) (by decide +kernel)
theorem bs_X11_ball_102 {P : Zt → Option Zv → Prop} (K : Int → Zl → List Zv → Zt → Prop) : sx_ K P [.istore 5, .iload 5, .ifCond .ne 112, .iconst (-4), .ireturn] 112 = x_istore 5 (x_iload 5 (x_ifCond .ne 112 K (x_iconst (-4) (x_ireturn P)))) := ((xe_istore 5).trans (congrArg (x_istore 5) ((xe_iload 5).trans (congrArg (x_iload 5) ((xe_ifCond .ne 112).trans (congrArg (x_ifCond .ne 112 K) ((xe_iconst (-4)).trans (congrArg (x_iconst (-4)) (xe_ireturn)))))))))
theorem bk_X11_ball_112 : ck_ fX11 (some .int) cX11_ball 112 [.aload 0, .iload 2, .ifCond .eq 121, .iload 1, .goto 125] 121 = true := qck_r (nn_ _) (by decide +kernel)
theorem bs_X11_ball_112 {P : Zt → Option Zv → Prop} (K : Int → Zl → List Zv → Zt → Prop) : sx_ K P [.aload 0, .iload 2, .ifCond .eq 121, .iload 1, .goto 125] 121 = x_aload 0 (x_iload 2 (x_ifCond .eq 121 K (x_iload 1 (x_goto 125 K)))) := ((xe_aload 0).trans (congrArg (x_aload 0) ((xe_iload 2).trans (congrArg (x_iload 2) ((xe_ifCond .eq 121).trans (congrArg (x_ifCond .eq 121 K) ((xe_iload 1).trans (congrArg (x_iload 1) (xe_goto 125)))))))))
theorem bk_X11_ball_121 : ck_ fX11 (some .int) cX11_ball 121 [.aload 0, .tableswitch 0 11 103 #[], .tableswitch 1 11 103 #[], .iconst 0, .istore 6, .iconst 0, .istore 7] 134 = true := qck_r (nn_ _) (by decide +kernel)
theorem bs_X11_ball_121 {P : Zt → Option Zv → Prop} (K : Int → Zl → List Zv → Zt → Prop) : sx_ K P [.aload 0, .tableswitch 0 11 103 #[], .tableswitch 1 11 103 #[], .iconst 0, .istore 6, .iconst 0, .istore 7] 134 = x_aload 0 (x_g0 111 103 (-2147483648) 2147483647 (x_p 111 103 (-2147483648) 2147483647 (x_iconst 0 (x_istore 6 (x_iconst 0 (x_istore 7 (K 134))))))) := ((xe_aload 0).trans (congrArg (x_aload 0) ((xe_g0 (kk := 111) rfl tl_11_103).trans (congrArg (x_g0 111 103 (-2147483648) 2147483647) ((xe_p (kk := 111) rfl tl_11_103).trans (congrArg (x_p 111 103 (-2147483648) 2147483647) ((xe_iconst 0).trans (congrArg (x_iconst 0) ((xe_istore 6).trans (congrArg (x_istore 6) ((xe_iconst 0).trans (congrArg (x_iconst 0) ((xe_istore 7).trans (congrArg (x_istore 7) xe_nil))))))))))))))
theorem bk_X11_ball_125 : ck_ fX11 (some .int) cX11_ball 125 [.tableswitch 1 11 103 #[], .iconst 0, .istore 6, .iconst 0, .istore 7] 134 = true := qck_r (nn_ _) (by decide +kernel)
theorem bs_X11_ball_125 {P : Zt → Option Zv → Prop} (K : Int → Zl → List Zv → Zt → Prop) : sx_ K P [.tableswitch 1 11 103 #[], .iconst 0, .istore 6, .iconst 0, .istore 7] 134 = x_p 111 103 (-2147483648) 2147483647 (x_iconst 0 (x_istore 6 (x_iconst 0 (x_istore 7 (K 134))))) := ((xe_p (kk := 111) rfl tl_11_103).trans (congrArg (x_p 111 103 (-2147483648) 2147483647) ((xe_iconst 0).trans (congrArg (x_iconst 0) ((xe_istore 6).trans (congrArg (x_istore 6) ((xe_iconst 0).trans (congrArg (x_iconst 0) ((xe_istore 7).trans (congrArg (x_istore 7) xe_nil))))))))))
theorem bk_X11_ball_75 : ck_ fX11 (some .int) cX11_ball 75 [.iinc 5 1, .goto 8] 81 = true := qck_r (nn_ _) (by decide +kernel)
theorem bs_X11_ball_75 {P : Zt → Option Zv → Prop} (K : Int → Zl → List Zv → Zt → Prop) : sx_ K P [.iinc 5 1, .goto 8] 81 = x_iinc 5 1 (x_goto 8 K) := ((xe_iinc 5 1).trans (congrArg (x_iinc 5 1) (xe_goto 8)))
theorem bk_X11_ball_68 : ck_ fX11 (some .int) cX11_ball 68 [.iload 4, .istore 4, .iinc 3 1, .iinc 5 1, .goto 8] 81 = true := qck_r (nn_ _) (by decide +kernel)
theorem bs_X11_ball_68 {P : Zt → Option Zv → Prop} (K : Int → Zl → List Zv → Zt → Prop) : sx_ K P [.iload 4, .istore 4, .iinc 3 1, .iinc 5 1, .goto 8] 81 = x_iload 4 (x_istore 4 (x_iinc 3 1 (x_iinc 5 1 (x_goto 8 K)))) := ((xe_iload 4).trans (congrArg (x_iload 4) ((xe_istore 4).trans (congrArg (x_istore 4) ((xe_iinc 3 1).trans (congrArg (x_iinc 3 1) ((xe_iinc 5 1).trans (congrArg (x_iinc 5 1) (xe_goto 8)))))))))
theorem bk_X11_ball_70 : ck_ fX11 (some .int) cX11_ball 70 [.istore 4, .iinc 3 1, .iinc 5 1, .goto 8] 81 = true := qck_r (nn_ _) (by decide +kernel)
theorem bs_X11_ball_70 {P : Zt → Option Zv → Prop} (K : Int → Zl → List Zv → Zt → Prop) : sx_ K P [.istore 4, .iinc 3 1, .iinc 5 1, .goto 8] 81 = x_istore 4 (x_iinc 3 1 (x_iinc 5 1 (x_goto 8 K))) := ((xe_istore 4).trans (congrArg (x_istore 4) ((xe_iinc 3 1).trans (congrArg (x_iinc 3 1) ((xe_iinc 5 1).trans (congrArg (x_iinc 5 1) (xe_goto 8)))))))
theorem bk_X11_ball_0 : ck_ fX11 (some .int) cX11_ball 0 [.iconst 0, .istore 3, .iconst 3, .istore 4, .iconst 0, .istore 5] 8 = true := qck_r (nn_ _) (by decide +kernel)
theorem bs_X11_ball_0 {P : Zt → Option Zv → Prop} (K : Int → Zl → List Zv → Zt → Prop) : sx_ K P [.iconst 0, .istore 3, .iconst 3, .istore 4, .iconst 0, .istore 5] 8 = x_iconst 0 (x_istore 3 (x_iconst 3 (x_istore 4 (x_iconst 0 (x_istore 5 (K 8)))))) := ((xe_iconst 0).trans (congrArg (x_iconst 0) ((xe_istore 3).trans (congrArg (x_istore 3) ((xe_iconst 3).trans (congrArg (x_iconst 3) ((xe_istore 4).trans (congrArg (x_istore 4) ((xe_iconst 0).trans (congrArg (x_iconst 0) ((xe_istore 5).trans (congrArg (x_istore 5) xe_nil))))))))))))
abbrev po_X11_ball (T : Zt) (ta fi : Int) : Zt → Option Zv → Prop := fun T' r => ∃ x : Int, r = some (vI x) ∧ fr_ [(304, []), (305, []), (302, []), (111, [103])] T T' ∧ (x = x)
set_option maxHeartbeats 4000000 in
theorem ct_X11_ball {T : Zt} {ta fi : Int} : Ct_ yX11_ball zX11_ball T [vR 111 0, vI ta, vI fi] (po_X11_ball T ta fi) := by
  refine ct_of pn_11 rfl rfl (Nat.le_of_ble_eq_true rfl) (fun hT hav => ?_)
  have hr_ta : -2147483648 ≤ ta ∧ ta ≤ 2147483647 := hav (vI ta) (by simp)
  have hr_fi : -2147483648 ≤ fi ∧ fi ≤ 2147483647 := hav (vI fi) (by simp)
  have hz : zX11_ball.2.2.2.1 = some .boolean → ∀ (T' : Zt) (x : Int), po_X11_ball T ta fi T' (some (vI x)) → 0 ≤ x ∧ x ≤ 1 := fun h => by cases h
  have hb_12 : 0 ≤ T 111 0 12 ∧ T 111 0 12 ≤ 12 := bd_f hT 111 12 (by decide +kernel : (tf_ 111)[12]? = some (0, 0, 0, 12)) 0
  have hb_99 : 0 ≤ T 111 0 99 ∧ T 111 0 99 ≤ 4 := bd_f hT 111 99 (by decide +kernel : (tf_ 111)[99]? = some (0, 0, 0, 4)) 0
  show J_ zX11_ball T (po_X11_ball T ta fi) 0 0 0 [some (vR 111 0), some (vI ta), some (vI fi), none, none, none, none, none, none, none, none, none] [] T
  have c_265 : ∀ (nn : Nat) (pt : Int) (al : Int) (cl : Int) (tk : Int) (sm : Int) (g : Int) (T3 : Zt), ((3 - g).toNat) ≤ nn → (fr_ [(304, []), (305, []), (302, []), (111, [103])] T T3) → (al = (nw_ (drw_ T) (-1) (-1) (ll_ T) (gf_ T) : Nat) ∧ 1 ≤ al ∧ al ≤ 13824) → (∀ k, T3 302 0 k = T 302 0 k) → (-1 ≤ g ∧ g ≤ 3 ∧ 0 ≤ tk ∧ tk < al ∧ 0 ≤ cl ∧ cl < T 111 0 12 ∧ T 301 0 cl = pt ∧ T 302 0 cl = -1 ∧ 0 ≤ pt ∧ pt ≤ 2 ∧ 0 ≤ sm ∧ sm ≤ tk + 13824) → (sm = sgm_ T cl g) → J_ zX11_ball T (po_X11_ball T ta fi) 0 0 265 [some (vR 111 0), some (vI ta), some (vI fi), none, some (vI pt), some (vI al), none, none, some (vI cl), some (vI tk), some (vI sm), some (vI g)] [] T3 := by
    intro nn
    induction nn using Nat.strongRecOn with
    | _ nn ih_265 =>
      intro pt al cl tk sm g T3 hm_265 hf_265 al1 go3 i3 sg
      refine j_blx (F := fX11) tb_X11 (nn_ _) bk_X11_ball_265 bs_X11_ball_265 hz (fun K hK => ?_)
      refine And.intro (fun c1 => ?_) (fun c1 => ?_)
      · refine hK 291 _ [] T3 ?_
        refine j_blx (F := fX11) tb_X11 (nn_ _) bk_X11_ball_291 bs_X11_ball_291 hz (fun K hK => ?_)
        refine iy_i (by omega) (by omega) ?_
        refine x_nm (fun U2 hU2 => ?_)
        have e3 := up_f hU2
        refine rg_i (by omega) ?_
        refine rg_i (by omega) ?_
        refine (show po_X11_ball T ta fi U2 (some (vI ((8 * cl) + g))) from ?_)
        exact ⟨_, rfl, fr_u (fr_t (fr_0 _ _) (fr_s hf_265 rfl)) hU2 rfl, by rfl⟩
      · have hg3 : g < 3 := by
          apply Int.not_le.mp
          intro z
          have e9 := sgm_3 (T := T) (c := cl) (by omega) (by omega) (by omega) (by omega)
          rw [show (3 : Int) = g by omega] at e9
          omega
        refine rg_i (by omega) ?_
        refine hK 282 [some (vR 111 0), some (vI ta), some (vI fi), none, some (vI pt), some (vI al), none, none, some (vI cl), some (vI tk), some (vI sm), some (vI (g + 1))] [vI (g + 1), vI cl, vR 111 0, vI sm] T3 ?_
        refine j_callV (y := yX11_countWays) (Yc := zX11_countWays) (rest := [vI sm]) [vI cl, vI (g + 1)] (ct_X11_countWays (T := T3)) cl_X11_591 (qd_c (by decide +kernel)) (nn_ _) rfl (rf_of rfl) (Nat.le_of_ble_eq_true rfl) (Nat.le_of_ble_eq_true rfl) (Nat.le_of_ble_eq_true rfl) rfl ?_
        rintro U4 _ ⟨x5, rfl, fU4, qU4⟩
        have bU4 := qU4.2.2
        show J_ zX11_ball T (po_X11_ball T ta fi) 0 0 285 _ [vI x5, vI sm] U4
        have hnw : x5 = (nw_ (drw_ T) cl (g + 1) (ll_ T) (gf_ T) : Nat) := by
          rw [qU4.1, drw_e (T := T) (fun k => hf_265 301 0 k rfl) (fun k => hf_265 214 0 k rfl) (hf_265 111 0 12 rfl) (hf_265 111 0 99 rfl) (hf_265 111 0 100 rfl), ll_e (T := T) (fun k => hf_265 301 0 k rfl) go3 (hf_265 111 0 12 rfl), gf_e go3]
        refine j_blx (F := fX11) tb_X11 (nn_ _) bk_X11_ball_285 bs_X11_ball_285 hz (fun K hK => ?_)
        refine rg_i (by omega) ?_
        refine hK 265 [some (vR 111 0), some (vI ta), some (vI fi), none, some (vI pt), some (vI al), none, none, some (vI cl), some (vI tk), some (vI (sm + x5)), some (vI (g + 1))] [] U4 ?_
        refine ih_265 _ ?_ pt al cl tk (sm + x5) (g + 1) U4 (Nat.le_refl _) ?_ ?_ ?_ ?_ ?_
        · omega
        · exact fr_t (fr_t (fr_0 _ _) (fr_s hf_265 rfl)) (fr_s fU4 rfl)
        · exact al1
        · exact fun k => ((qU4.2.1 k).trans (go3 k))
        · omega
        · rw [sgm_s (by omega), ← sg, ← hnw]
  have c_196 : ∀ (nn : Nat) (pt : Int) (al : Int) (wh : Int) (cl : Int) (k : Int) (w0 : Int) (T2 : Zt), ((12 - k).toNat) ≤ nn → (fr_ [(304, []), (305, []), (302, []), (111, [103])] T T2) → (al = (nw_ (drw_ T) (-1) (-1) (ll_ T) (gf_ T) : Nat) ∧ 1 ≤ al ∧ al ≤ 13824) → (∀ k, T2 302 0 k = T 302 0 k) → (0 ≤ k ∧ k ≤ T 111 0 12 ∧ 0 ≤ w0 ∧ w0 < cel_ T pt (T 111 0 12) ∧ 0 ≤ pt ∧ pt ≤ 2) → (wh = w0 - cel_ T pt k) → ((w0 < cel_ T pt k ∧ 0 ≤ cl ∧ cl < T 111 0 12 ∧ T 301 0 cl = pt ∧ T 302 0 cl = -1) ∨ (cel_ T pt k ≤ w0 ∧ cl = -1)) → J_ zX11_ball T (po_X11_ball T ta fi) 0 0 196 [some (vR 111 0), some (vI ta), some (vI fi), none, some (vI pt), some (vI al), none, some (vI wh), some (vI cl), some (vI k), none, none] [] T2 := by
    intro nn
    induction nn using Nat.strongRecOn with
    | _ nn ih_196 =>
      intro pt al wh cl k w0 T2 hm_196 hf_196 al1 go2 i2 hw hcl
      have hb2 := cel_b (T := T) (p := pt) (k := k) (by omega)
      have hb3 := cel_b (T := T) (p := pt) (k := T 111 0 12) (by omega)
      refine j_blx (F := fX11) tb_X11 (nn_ _) bk_X11_ball_196 bs_X11_ball_196 hz (fun K hK => ?_)
      intro b6 b6b
      have e7 : T2 111 0 12 = T 111 0 12 := hf_196 111 0 12 rfl
      rw [e7] at b6 b6b ⊢
      refine And.intro (fun c8 => ?_) (fun c8 => ?_)
      · refine hK 251 _ [] T2 ?_
        rw [show k = T 111 0 12 by omega] at hcl
        refine j_blx (F := fX11) tb_X11 (nn_ _) bk_X11_ball_251 bs_X11_ball_251 hz (fun K hK => ?_)
        refine hK 254 _ [vI al, vR 111 0] T2 ?_
        refine j_callV (y := yX11_takenBelow) (Yc := zX11_takenBelow) (rest := []) [vI al] (ct_X11_takenBelow (T := T2) (by omega)) cl_X11_604 (qd_c (by decide +kernel)) (nn_ _) rfl (rf_of rfl) (Nat.le_of_ble_eq_true rfl) (Nat.le_of_ble_eq_true rfl) (Nat.le_of_ble_eq_true rfl) rfl ?_
        rintro U9 _ ⟨x10, rfl, fU9, qU9⟩
        show J_ zX11_ball T (po_X11_ball T ta fi) 0 0 257 _ [vI x10] U9
        refine j_blx (F := fX11) tb_X11 (nn_ _) bk_X11_ball_257 bs_X11_ball_257 hz (fun K hK => ?_)
        refine hK 265 [some (vR 111 0), some (vI ta), some (vI fi), none, some (vI pt), some (vI al), none, some (vI wh), some (vI cl), some (vI x10), some (vI 0), some (vI (-1))] [] U9 ?_
        refine j_drop [some (vR 111 0), some (vI ta), some (vI fi), none, some (vI pt), some (vI al), none, none, some (vI cl), some (vI x10), some (vI 0), some (vI (-1))] (fun k v hk => ?_) rfl ?_
        · match k, hk with
          | 0, hk => exact hk
          | 1, hk => exact hk
          | 2, hk => exact hk
          | 3, hk => cases hk
          | 4, hk => exact hk
          | 5, hk => exact hk
          | 6, hk => cases hk
          | 7, hk => cases hk
          | 8, hk => exact hk
          | 9, hk => exact hk
          | 10, hk => exact hk
          | 11, hk => exact hk
          | k + 12, hk => cases hk
        refine c_265 _ pt al cl x10 0 (-1) U9 (Nat.le_refl _) ?_ ?_ ?_ ?_ ?_
        · exact fr_t (fr_t (fr_0 _ _) (fr_s hf_196 rfl)) (fr_s fU9 rfl)
        · exact al1
        · exact fun k => (fU9 302 0 k rfl).trans (go2 k)
        · omega
        · exact sgm_0.symm
      · refine ix_i (by omega) ?_
        intro b11 b11b
        have e12 : T2 301 0 k = T 301 0 k := hf_196 301 0 k rfl
        rw [e12] at b11 b11b ⊢
        refine And.intro (fun c13 => ?_) (fun c13 => ?_)
        · refine hK 245 [some (vR 111 0), some (vI ta), some (vI fi), none, some (vI pt), some (vI al), none, some (vI wh), some (vI cl), some (vI k), none, none] [] T2 ?_
          refine j_blx (F := fX11) tb_X11 (nn_ _) bk_X11_ball_245 bs_X11_ball_245 hz (fun K hK => ?_)
          refine rg_i (by omega) ?_
          refine hK 196 [some (vR 111 0), some (vI ta), some (vI fi), none, some (vI pt), some (vI al), none, some (vI wh), some (vI cl), some (vI (k + 1)), none, none] [] T2 ?_
          refine ih_196 _ ?_ pt al wh cl (k + 1) w0 T2 (Nat.le_refl _) ?_ ?_ ?_ ?_ ?_ ?_
          · omega
          · exact fr_t (fr_0 _ _) (fr_s hf_196 rfl)
          · exact al1
          · exact fun k => go2 k
          · first
            | omega
            | (have z9 := el.1; omega)
          · first
            | (rw [cel_f (by omega) (by omega)]; omega)
            | (rw [cel_t (by omega) (by omega)]; omega)
          · first
            | (rw [cel_f (by omega) (by omega)]; exact hcl)
            | (rw [cel_t (by omega) (by omega)]; omega)
        · refine ix_i (by omega) ?_
          intro b14 b14b
          have g15 := go2 k
          refine And.intro (fun c16 => ?_) (fun c16 => ?_)
          · refine hK 245 [some (vR 111 0), some (vI ta), some (vI fi), none, some (vI pt), some (vI al), none, some (vI wh), some (vI cl), some (vI k), none, none] [] T2 ?_
            refine j_blx (F := fX11) tb_X11 (nn_ _) bk_X11_ball_245 bs_X11_ball_245 hz (fun K hK => ?_)
            refine rg_i (by omega) ?_
            refine hK 196 [some (vR 111 0), some (vI ta), some (vI fi), none, some (vI pt), some (vI al), none, some (vI wh), some (vI cl), some (vI (k + 1)), none, none] [] T2 ?_
            refine ih_196 _ ?_ pt al wh cl (k + 1) w0 T2 (Nat.le_refl _) ?_ ?_ ?_ ?_ ?_ ?_
            · omega
            · exact fr_t (fr_0 _ _) (fr_s hf_196 rfl)
            · exact al1
            · exact fun k => go2 k
            · first
              | omega
              | (have z9 := el.1; omega)
            · first
              | (rw [cel_f (by omega) (by omega)]; omega)
              | (rw [cel_t (by omega) (by omega)]; omega)
            · first
              | (rw [cel_f (by omega) (by omega)]; exact hcl)
              | (rw [cel_t (by omega) (by omega)]; omega)
          · refine And.intro (fun c17 => ?_) (fun c17 => ?_)
            · refine hK 238 [some (vR 111 0), some (vI ta), some (vI fi), none, some (vI pt), some (vI al), none, some (vI wh), some (vI cl), some (vI k), none, none] [] T2 ?_
              refine j_blx (F := fX11) tb_X11 (nn_ _) bk_X11_ball_238 bs_X11_ball_238 hz (fun K hK => ?_)
              refine rg_i (by omega) ?_
              refine rg_i (by omega) ?_
              refine hK 196 [some (vR 111 0), some (vI ta), some (vI fi), none, some (vI pt), some (vI al), none, some (vI (wh + (-1))), some (vI cl), some (vI (k + 1)), none, none] [] T2 ?_
              refine ih_196 _ ?_ pt al (wh + (-1)) cl (k + 1) w0 T2 (Nat.le_refl _) ?_ ?_ ?_ ?_ ?_ ?_
              · omega
              · exact fr_t (fr_0 _ _) (fr_s hf_196 rfl)
              · exact al1
              · exact fun k => go2 k
              · first
                | omega
                | (have z9 := el.1; omega)
              · first
                | (rw [cel_f (by omega) (by omega)]; omega)
                | (rw [cel_t (by omega) (by omega)]; omega)
              · first
                | (rw [cel_f (by omega) (by omega)]; exact hcl)
                | (rw [cel_t (by omega) (by omega)]; omega)
            · refine hK 240 [some (vR 111 0), some (vI ta), some (vI fi), none, some (vI pt), some (vI al), none, some (vI wh), some (vI cl), some (vI k), none, none] [vI k] T2 ?_
              refine j_blx (F := fX11) tb_X11 (nn_ _) bk_X11_ball_240 bs_X11_ball_240 hz (fun K hK => ?_)
              refine rg_i (by omega) ?_
              refine rg_i (by omega) ?_
              refine hK 196 [some (vR 111 0), some (vI ta), some (vI fi), none, some (vI pt), some (vI al), none, some (vI (wh + (-1))), some (vI k), some (vI (k + 1)), none, none] [] T2 ?_
              refine ih_196 _ ?_ pt al (wh + (-1)) k (k + 1) w0 T2 (Nat.le_refl _) ?_ ?_ ?_ ?_ ?_ ?_
              · omega
              · exact fr_t (fr_0 _ _) (fr_s hf_196 rfl)
              · exact al1
              · exact fun k => go2 k
              · first
                | omega
                | (have z9 := el.1; omega)
              · first
                | (rw [cel_f (by omega) (by omega)]; omega)
                | (rw [cel_t (by omega) (by omega)]; omega)
              · first
                | (rw [cel_f (by omega) (by omega)]; exact hcl)
                | (rw [cel_t (by omega) (by omega)]; omega)
  have c_134 : ∀ (nn : Nat) (pt : Int) (al : Int) (n : Int) (k : Int) (T1 : Zt), ((12 - k).toNat) ≤ nn → (fr_ [(304, []), (305, []), (302, []), (111, [103])] T T1) → (al = (nw_ (drw_ T) (-1) (-1) (ll_ T) (gf_ T) : Nat) ∧ 1 ≤ al ∧ al ≤ 13824) → (∀ k, T1 302 0 k = T 302 0 k) → (EL_ T pt (T 111 0 12)) → (0 ≤ k ∧ k ≤ T 111 0 12) → (n = cel_ T pt k) → J_ zX11_ball T (po_X11_ball T ta fi) 0 0 134 [some (vR 111 0), some (vI ta), some (vI fi), none, some (vI pt), some (vI al), some (vI n), some (vI k), none, none, none, none] [] T1 := by
    intro nn
    induction nn using Nat.strongRecOn with
    | _ nn ih_134 =>
      intro pt al n k T1 hm_134 hf_134 al1 go1 el i1 cn
      have hb1 := cel_b (T := T) (p := pt) (k := k) (by omega)
      refine j_blx (F := fX11) tb_X11 (nn_ _) bk_X11_ball_134 bs_X11_ball_134 hz (fun K hK => ?_)
      intro b18 b18b
      have e19 : T1 111 0 12 = T 111 0 12 := hf_134 111 0 12 rfl
      rw [e19] at b18 b18b ⊢
      refine And.intro (fun c20 => ?_) (fun c20 => ?_)
      · refine hK 182 _ [] T1 ?_
        have hcp := cel_p el
        have hpt := el.1
        rw [show T 111 0 12 = k by omega] at hcp
        have hce : cel_ T pt (T 111 0 12) = n := by rw [cn, show T 111 0 12 = k by omega]
        refine j_blx (F := fX11) tb_X11 (nn_ _) bk_X11_ball_182 bs_X11_ball_182 hz (fun K hK => ?_)
        refine hK 185 _ [vI n, vR 111 0] T1 ?_
        refine j_callV (y := yX11_takenBelow) (Yc := zX11_takenBelow) (rest := []) [vI n] (ct_X11_takenBelow (T := T1) (by omega)) cl_X11_604 (qd_c (by decide +kernel)) (nn_ _) rfl (rf_of rfl) (Nat.le_of_ble_eq_true rfl) (Nat.le_of_ble_eq_true rfl) (Nat.le_of_ble_eq_true rfl) rfl ?_
        rintro U21 _ ⟨x22, rfl, fU21, qU21⟩
        show J_ zX11_ball T (po_X11_ball T ta fi) 0 0 188 _ [vI x22] U21
        refine j_blx (F := fX11) tb_X11 (nn_ _) bk_X11_ball_188 bs_X11_ball_188 hz (fun K hK => ?_)
        refine hK 196 [some (vR 111 0), some (vI ta), some (vI fi), none, some (vI pt), some (vI al), some (vI n), some (vI x22), some (vI (-1)), some (vI 0), none, none] [] U21 ?_
        refine j_drop [some (vR 111 0), some (vI ta), some (vI fi), none, some (vI pt), some (vI al), none, some (vI x22), some (vI (-1)), some (vI 0), none, none] (fun k v hk => ?_) rfl ?_
        · match k, hk with
          | 0, hk => exact hk
          | 1, hk => exact hk
          | 2, hk => exact hk
          | 3, hk => cases hk
          | 4, hk => exact hk
          | 5, hk => exact hk
          | 6, hk => cases hk
          | 7, hk => exact hk
          | 8, hk => exact hk
          | 9, hk => exact hk
          | 10, hk => cases hk
          | 11, hk => cases hk
          | k + 12, hk => cases hk
        refine c_196 _ pt al x22 (-1) 0 x22 U21 (Nat.le_refl _) ?_ ?_ ?_ ?_ ?_ ?_
        · exact fr_t (fr_t (fr_0 _ _) (fr_s hf_134 rfl)) (fr_s fU21 rfl)
        · exact al1
        · exact fun k => (fU21 302 0 k rfl).trans (go1 k)
        · first
          | omega
          | (have z9 := el.1; omega)
        · show _ = _ - (0 : Int); omega
        · exact Or.inr ⟨by show (0 : Int) ≤ _; omega, rfl⟩
      · refine ix_i (by omega) ?_
        intro b23 b23b
        have e24 : T1 301 0 k = T 301 0 k := hf_134 301 0 k rfl
        rw [e24] at b23 b23b ⊢
        refine And.intro (fun c25 => ?_) (fun c25 => ?_)
        · refine hK 172 [some (vR 111 0), some (vI ta), some (vI fi), none, some (vI pt), some (vI al), some (vI n), some (vI k), none, none, none, none] [vI n] T1 ?_
          refine j_blx (F := fX11) tb_X11 (nn_ _) bk_X11_ball_172 bs_X11_ball_172 hz (fun K hK => ?_)
          refine rg_i (by omega) ?_
          refine rg_i (by omega) ?_
          refine hK 134 [some (vR 111 0), some (vI ta), some (vI fi), none, some (vI pt), some (vI al), some (vI (n + 0)), some (vI (k + 1)), none, none, none, none] [] T1 ?_
          refine ih_134 _ ?_ pt al (n + 0) (k + 1) T1 (Nat.le_refl _) ?_ ?_ ?_ ?_ ?_ ?_
          · omega
          · exact fr_t (fr_0 _ _) (fr_s hf_134 rfl)
          · exact al1
          · exact fun k => go1 k
          · first
            | exact el
            | (rw [show T 111 0 12 = k by omega]; exact (hq.resolve_left (by omega)).2)
          · omega
          · first
            | (rw [cel_f (by omega) (by omega)]; omega)
            | (rw [cel_t (by omega) (by omega)]; omega)
        · refine ix_i (by omega) ?_
          intro b26 b26b
          have g27 := go1 k
          refine And.intro (fun c28 => ?_) (fun c28 => ?_)
          · refine hK 172 [some (vR 111 0), some (vI ta), some (vI fi), none, some (vI pt), some (vI al), some (vI n), some (vI k), none, none, none, none] [vI n] T1 ?_
            refine j_blx (F := fX11) tb_X11 (nn_ _) bk_X11_ball_172 bs_X11_ball_172 hz (fun K hK => ?_)
            refine rg_i (by omega) ?_
            refine rg_i (by omega) ?_
            refine hK 134 [some (vR 111 0), some (vI ta), some (vI fi), none, some (vI pt), some (vI al), some (vI (n + 0)), some (vI (k + 1)), none, none, none, none] [] T1 ?_
            refine ih_134 _ ?_ pt al (n + 0) (k + 1) T1 (Nat.le_refl _) ?_ ?_ ?_ ?_ ?_ ?_
            · omega
            · exact fr_t (fr_0 _ _) (fr_s hf_134 rfl)
            · exact al1
            · exact fun k => go1 k
            · first
              | exact el
              | (rw [show T 111 0 12 = k by omega]; exact (hq.resolve_left (by omega)).2)
            · omega
            · first
              | (rw [cel_f (by omega) (by omega)]; omega)
              | (rw [cel_t (by omega) (by omega)]; omega)
          · refine hK 173 [some (vR 111 0), some (vI ta), some (vI fi), none, some (vI pt), some (vI al), some (vI n), some (vI k), none, none, none, none] [vI 1, vI n] T1 ?_
            refine j_blx (F := fX11) tb_X11 (nn_ _) bk_X11_ball_173 bs_X11_ball_173 hz (fun K hK => ?_)
            refine rg_i (by omega) ?_
            refine rg_i (by omega) ?_
            refine hK 134 [some (vR 111 0), some (vI ta), some (vI fi), none, some (vI pt), some (vI al), some (vI (n + 1)), some (vI (k + 1)), none, none, none, none] [] T1 ?_
            refine ih_134 _ ?_ pt al (n + 1) (k + 1) T1 (Nat.le_refl _) ?_ ?_ ?_ ?_ ?_ ?_
            · omega
            · exact fr_t (fr_0 _ _) (fr_s hf_134 rfl)
            · exact al1
            · exact fun k => go1 k
            · first
              | exact el
              | (rw [show T 111 0 12 = k by omega]; exact (hq.resolve_left (by omega)).2)
            · omega
            · first
              | (rw [cel_f (by omega) (by omega)]; omega)
              | (rw [cel_t (by omega) (by omega)]; omega)
  have c_8 : ∀ (nn : Nat) (lf : Int) (pt : Int) (k : Int), ((12 - k).toNat) ≤ nn → (0 ≤ k ∧ k ≤ T 111 0 12 ∧ 0 ≤ lf ∧ lf ≤ k) → ((lf = 0 ∧ pt = 3) ∨ (0 < lf ∧ EL_ T pt k)) → J_ zX11_ball T (po_X11_ball T ta fi) 0 0 8 [some (vR 111 0), some (vI ta), some (vI fi), some (vI lf), some (vI pt), some (vI k), none, none, none, none, none, none] [] T := by
    intro nn
    induction nn using Nat.strongRecOn with
    | _ nn ih_8 =>
      intro lf pt k hm_8 i0 hq
      refine j_blx (F := fX11) tb_X11 (nn_ _) bk_X11_ball_8 bs_X11_ball_8 hz (fun K hK => ?_)
      intro b29 b29b
      refine And.intro (fun c30 => ?_) (fun c30 => ?_)
      · refine hK 81 _ [] T ?_
        refine j_blx (F := fX11) tb_X11 (nn_ _) bk_X11_ball_81 bs_X11_ball_81 hz (fun K hK => ?_)
        intro b31 b31b
        refine And.intro (fun c32 => ?_) (fun c32 => ?_)
        · refine hK 101 _ [] T ?_
          refine j_blx (F := fX11) tb_X11 (nn_ _) bk_X11_ball_101 bs_X11_ball_101 hz (fun K hK => ?_)
          refine And.intro (fun c33 => ?_) (fun c33 => ?_)
          · exact absurd c33 (by decide)
          · refine (show po_X11_ball T ta fi T (some (vI (-4))) from ?_)
            exact ⟨_, rfl, fr_0 _ _, by rfl⟩
        · refine And.intro (fun c34 => ?_) (fun c34 => ?_)
          · refine hK 101 _ [] T ?_
            refine j_blx (F := fX11) tb_X11 (nn_ _) bk_X11_ball_101 bs_X11_ball_101 hz (fun K hK => ?_)
            refine And.intro (fun c35 => ?_) (fun c35 => ?_)
            · exact absurd c35 (by decide)
            · refine (show po_X11_ball T ta fi T (some (vI (-4))) from ?_)
              exact ⟨_, rfl, fr_0 _ _, by rfl⟩
          · refine hK 95 _ [vI (-1), vI (-1), vR 111 0] T ?_
            refine j_callV (y := yX11_countWays) (Yc := zX11_countWays) (rest := []) [vI (-1), vI (-1)] (ct_X11_countWays (T := T)) cl_X11_591 (qd_c (by decide +kernel)) (nn_ _) rfl (rf_of rfl) (Nat.le_of_ble_eq_true rfl) (Nat.le_of_ble_eq_true rfl) (Nat.le_of_ble_eq_true rfl) rfl ?_
            rintro U36 _ ⟨x37, rfl, fU36, qU36⟩
            have bU36 := qU36.2.2
            show J_ zX11_ball T (po_X11_ball T ta fi) 0 0 98 _ [vI x37] U36
            refine j_blx (F := fX11) tb_X11 (nn_ _) bk_X11_ball_98 bs_X11_ball_98 hz (fun K hK => ?_)
            refine hK 102 _ [vI x37] U36 ?_
            refine j_blx (F := fX11) tb_X11 (nn_ _) bk_X11_ball_102 bs_X11_ball_102 hz (fun K hK => ?_)
            refine And.intro (fun c38 => ?_) (fun c38 => ?_)
            · refine hK 112 [some (vR 111 0), some (vI ta), some (vI fi), some (vI lf), some (vI pt), some (vI x37), none, none, none, none, none, none] [] U36 ?_
              refine j_blx (F := fX11) tb_X11 (nn_ _) bk_X11_ball_112 bs_X11_ball_112 hz (fun K hK => ?_)
              refine And.intro (fun c39 => ?_) (fun c39 => ?_)
              · refine hK 121 _ [vR 111 0] U36 ?_
                refine j_blx (F := fX11) tb_X11 (nn_ _) bk_X11_ball_121 bs_X11_ball_121 hz (fun K hK => ?_)
                intro b40 b40b
                have e41 : U36 111 0 103 = T 111 0 103 := fU36 111 0 103 rfl
                rw [e41] at b40 b40b ⊢
                refine bd_i (by omega) ?_
                refine x_nm (fun U42 hU42 => ?_)
                have e43 := up_f hU42
                refine hK 134 [some (vR 111 0), some (vI ta), some (vI fi), some (vI lf), some (vI pt), some (vI x37), some (vI 0), some (vI 0), none, none, none, none] [] U42 ?_
                refine j_drop [some (vR 111 0), some (vI ta), some (vI fi), none, some (vI pt), some (vI x37), some (vI 0), some (vI 0), none, none, none, none] (fun k v hk => ?_) rfl ?_
                · match k, hk with
                  | 0, hk => exact hk
                  | 1, hk => exact hk
                  | 2, hk => exact hk
                  | 3, hk => cases hk
                  | 4, hk => exact hk
                  | 5, hk => exact hk
                  | 6, hk => exact hk
                  | 7, hk => exact hk
                  | 8, hk => cases hk
                  | 9, hk => cases hk
                  | 10, hk => cases hk
                  | 11, hk => cases hk
                  | k + 12, hk => cases hk
                refine c_134 _ pt x37 0 0 U42 (Nat.le_refl _) ?_ ?_ ?_ ?_ ?_ ?_
                · exact fr_u (fr_t (fr_0 _ _) (fr_s fU36 rfl)) hU42 rfl
                · exact ⟨qU36.1, by omega, by omega⟩
                · exact fun k => (up_k hU42 (by exact Nat.ne_of_beq_eq_false rfl) 0 k).trans ((qU36.2.1 k))
                · first
                  | exact el
                  | (rw [show T 111 0 12 = k by omega]; exact (hq.resolve_left (by omega)).2)
                · omega
                · rfl
              · refine hK 125 [some (vR 111 0), some (vI ta), some (vI fi), some (vI lf), some (vI pt), some (vI x37), none, none, none, none, none, none] [vI ta, vR 111 0] U36 ?_
                refine j_blx (F := fX11) tb_X11 (nn_ _) bk_X11_ball_125 bs_X11_ball_125 hz (fun K hK => ?_)
                refine bd_i (by omega) ?_
                refine x_nm (fun U44 hU44 => ?_)
                have e45 := up_f hU44
                refine hK 134 [some (vR 111 0), some (vI ta), some (vI fi), some (vI lf), some (vI pt), some (vI x37), some (vI 0), some (vI 0), none, none, none, none] [] U44 ?_
                refine j_drop [some (vR 111 0), some (vI ta), some (vI fi), none, some (vI pt), some (vI x37), some (vI 0), some (vI 0), none, none, none, none] (fun k v hk => ?_) rfl ?_
                · match k, hk with
                  | 0, hk => exact hk
                  | 1, hk => exact hk
                  | 2, hk => exact hk
                  | 3, hk => cases hk
                  | 4, hk => exact hk
                  | 5, hk => exact hk
                  | 6, hk => exact hk
                  | 7, hk => exact hk
                  | 8, hk => cases hk
                  | 9, hk => cases hk
                  | 10, hk => cases hk
                  | 11, hk => cases hk
                  | k + 12, hk => cases hk
                refine c_134 _ pt x37 0 0 U44 (Nat.le_refl _) ?_ ?_ ?_ ?_ ?_ ?_
                · exact fr_u (fr_t (fr_0 _ _) (fr_s fU36 rfl)) hU44 rfl
                · exact ⟨qU36.1, by omega, by omega⟩
                · exact fun k => (up_k hU44 (by exact Nat.ne_of_beq_eq_false rfl) 0 k).trans ((qU36.2.1 k))
                · first
                  | exact el
                  | (rw [show T 111 0 12 = k by omega]; exact (hq.resolve_left (by omega)).2)
                · omega
                · rfl
            · refine (show po_X11_ball T ta fi U36 (some (vI (-4))) from ?_)
              exact ⟨_, rfl, fr_t (fr_0 _ _) (fr_s fU36 rfl), by rfl⟩
      · intro b46 b46b
        refine And.intro (fun c47 => ?_) (fun c47 => ?_)
        · refine hK 81 _ [] T ?_
          refine j_blx (F := fX11) tb_X11 (nn_ _) bk_X11_ball_81 bs_X11_ball_81 hz (fun K hK => ?_)
          intro b48 b48b
          refine And.intro (fun c49 => ?_) (fun c49 => ?_)
          · refine hK 101 _ [] T ?_
            refine j_blx (F := fX11) tb_X11 (nn_ _) bk_X11_ball_101 bs_X11_ball_101 hz (fun K hK => ?_)
            refine And.intro (fun c50 => ?_) (fun c50 => ?_)
            · exact absurd c50 (by decide)
            · refine (show po_X11_ball T ta fi T (some (vI (-4))) from ?_)
              exact ⟨_, rfl, fr_0 _ _, by rfl⟩
          · refine And.intro (fun c51 => ?_) (fun c51 => ?_)
            · refine hK 101 _ [] T ?_
              refine j_blx (F := fX11) tb_X11 (nn_ _) bk_X11_ball_101 bs_X11_ball_101 hz (fun K hK => ?_)
              refine And.intro (fun c52 => ?_) (fun c52 => ?_)
              · exact absurd c52 (by decide)
              · refine (show po_X11_ball T ta fi T (some (vI (-4))) from ?_)
                exact ⟨_, rfl, fr_0 _ _, by rfl⟩
            · refine hK 95 _ [vI (-1), vI (-1), vR 111 0] T ?_
              refine j_callV (y := yX11_countWays) (Yc := zX11_countWays) (rest := []) [vI (-1), vI (-1)] (ct_X11_countWays (T := T)) cl_X11_591 (qd_c (by decide +kernel)) (nn_ _) rfl (rf_of rfl) (Nat.le_of_ble_eq_true rfl) (Nat.le_of_ble_eq_true rfl) (Nat.le_of_ble_eq_true rfl) rfl ?_
              rintro U53 _ ⟨x54, rfl, fU53, qU53⟩
              have bU53 := qU53.2.2
              show J_ zX11_ball T (po_X11_ball T ta fi) 0 0 98 _ [vI x54] U53
              refine j_blx (F := fX11) tb_X11 (nn_ _) bk_X11_ball_98 bs_X11_ball_98 hz (fun K hK => ?_)
              refine hK 102 _ [vI x54] U53 ?_
              refine j_blx (F := fX11) tb_X11 (nn_ _) bk_X11_ball_102 bs_X11_ball_102 hz (fun K hK => ?_)
              refine And.intro (fun c55 => ?_) (fun c55 => ?_)
              · refine hK 112 [some (vR 111 0), some (vI ta), some (vI fi), some (vI lf), some (vI pt), some (vI x54), none, none, none, none, none, none] [] U53 ?_
                refine j_blx (F := fX11) tb_X11 (nn_ _) bk_X11_ball_112 bs_X11_ball_112 hz (fun K hK => ?_)
                refine And.intro (fun c56 => ?_) (fun c56 => ?_)
                · refine hK 121 _ [vR 111 0] U53 ?_
                  refine j_blx (F := fX11) tb_X11 (nn_ _) bk_X11_ball_121 bs_X11_ball_121 hz (fun K hK => ?_)
                  intro b57 b57b
                  have e58 : U53 111 0 103 = T 111 0 103 := fU53 111 0 103 rfl
                  rw [e58] at b57 b57b ⊢
                  refine bd_i (by omega) ?_
                  refine x_nm (fun U59 hU59 => ?_)
                  have e60 := up_f hU59
                  refine hK 134 [some (vR 111 0), some (vI ta), some (vI fi), some (vI lf), some (vI pt), some (vI x54), some (vI 0), some (vI 0), none, none, none, none] [] U59 ?_
                  refine j_drop [some (vR 111 0), some (vI ta), some (vI fi), none, some (vI pt), some (vI x54), some (vI 0), some (vI 0), none, none, none, none] (fun k v hk => ?_) rfl ?_
                  · match k, hk with
                    | 0, hk => exact hk
                    | 1, hk => exact hk
                    | 2, hk => exact hk
                    | 3, hk => cases hk
                    | 4, hk => exact hk
                    | 5, hk => exact hk
                    | 6, hk => exact hk
                    | 7, hk => exact hk
                    | 8, hk => cases hk
                    | 9, hk => cases hk
                    | 10, hk => cases hk
                    | 11, hk => cases hk
                    | k + 12, hk => cases hk
                  refine c_134 _ pt x54 0 0 U59 (Nat.le_refl _) ?_ ?_ ?_ ?_ ?_ ?_
                  · exact fr_u (fr_t (fr_0 _ _) (fr_s fU53 rfl)) hU59 rfl
                  · exact ⟨qU53.1, by omega, by omega⟩
                  · exact fun k => (up_k hU59 (by exact Nat.ne_of_beq_eq_false rfl) 0 k).trans ((qU53.2.1 k))
                  · first
                    | exact el
                    | (rw [show T 111 0 12 = k by omega]; exact (hq.resolve_left (by omega)).2)
                  · omega
                  · rfl
                · refine hK 125 [some (vR 111 0), some (vI ta), some (vI fi), some (vI lf), some (vI pt), some (vI x54), none, none, none, none, none, none] [vI ta, vR 111 0] U53 ?_
                  refine j_blx (F := fX11) tb_X11 (nn_ _) bk_X11_ball_125 bs_X11_ball_125 hz (fun K hK => ?_)
                  refine bd_i (by omega) ?_
                  refine x_nm (fun U61 hU61 => ?_)
                  have e62 := up_f hU61
                  refine hK 134 [some (vR 111 0), some (vI ta), some (vI fi), some (vI lf), some (vI pt), some (vI x54), some (vI 0), some (vI 0), none, none, none, none] [] U61 ?_
                  refine j_drop [some (vR 111 0), some (vI ta), some (vI fi), none, some (vI pt), some (vI x54), some (vI 0), some (vI 0), none, none, none, none] (fun k v hk => ?_) rfl ?_
                  · match k, hk with
                    | 0, hk => exact hk
                    | 1, hk => exact hk
                    | 2, hk => exact hk
                    | 3, hk => cases hk
                    | 4, hk => exact hk
                    | 5, hk => exact hk
                    | 6, hk => exact hk
                    | 7, hk => exact hk
                    | 8, hk => cases hk
                    | 9, hk => cases hk
                    | 10, hk => cases hk
                    | 11, hk => cases hk
                    | k + 12, hk => cases hk
                  refine c_134 _ pt x54 0 0 U61 (Nat.le_refl _) ?_ ?_ ?_ ?_ ?_ ?_
                  · exact fr_u (fr_t (fr_0 _ _) (fr_s fU53 rfl)) hU61 rfl
                  · exact ⟨qU53.1, by omega, by omega⟩
                  · exact fun k => (up_k hU61 (by exact Nat.ne_of_beq_eq_false rfl) 0 k).trans ((qU53.2.1 k))
                  · first
                    | exact el
                    | (rw [show T 111 0 12 = k by omega]; exact (hq.resolve_left (by omega)).2)
                  · omega
                  · rfl
              · refine (show po_X11_ball T ta fi U53 (some (vI (-4))) from ?_)
                exact ⟨_, rfl, fr_t (fr_0 _ _) (fr_s fU53 rfl), by rfl⟩
        · refine ix_i (by omega) ?_
          intro b63 b63b
          refine And.intro (fun c64 => ?_) (fun c64 => ?_)
          · refine hK 75 _ [] T ?_
            refine j_blx (F := fX11) tb_X11 (nn_ _) bk_X11_ball_75 bs_X11_ball_75 hz (fun K hK => ?_)
            refine rg_i (by omega) ?_
            refine hK 8 [some (vR 111 0), some (vI ta), some (vI fi), some (vI lf), some (vI pt), some (vI (k + 1)), none, none, none, none, none, none] [] T ?_
            refine ih_8 _ ?_ lf pt (k + 1) (Nat.le_refl _) ?_ ?_
            · omega
            · omega
            · exact hq.imp id (fun z => ⟨z.1, el_m z.2⟩)
          · refine ix_i (by omega) ?_
            intro b65 b65b
            refine And.intro (fun c66 => ?_) (fun c66 => ?_)
            · refine hK 75 [some (vR 111 0), some (vI ta), some (vI fi), some (vI lf), some (vI pt), some (vI k), none, none, none, none, none, none] [] T ?_
              refine j_blx (F := fX11) tb_X11 (nn_ _) bk_X11_ball_75 bs_X11_ball_75 hz (fun K hK => ?_)
              refine rg_i (by omega) ?_
              refine hK 8 [some (vR 111 0), some (vI ta), some (vI fi), some (vI lf), some (vI pt), some (vI (k + 1)), none, none, none, none, none, none] [] T ?_
              refine ih_8 _ ?_ lf pt (k + 1) (Nat.le_refl _) ?_ ?_
              · omega
              · omega
              · exact hq.imp id (fun z => ⟨z.1, el_m z.2⟩)
            · refine ix_i (by omega) ?_
              intro b67 b67b
              refine And.intro (fun c68 => ?_) (fun c68 => ?_)
              · refine hK 68 [some (vR 111 0), some (vI ta), some (vI fi), some (vI lf), some (vI pt), some (vI k), none, none, none, none, none, none] [] T ?_
                refine j_blx (F := fX11) tb_X11 (nn_ _) bk_X11_ball_68 bs_X11_ball_68 hz (fun K hK => ?_)
                refine rg_i (by omega) ?_
                refine rg_i (by omega) ?_
                refine hK 8 [some (vR 111 0), some (vI ta), some (vI fi), some (vI (lf + 1)), some (vI pt), some (vI (k + 1)), none, none, none, none, none, none] [] T ?_
                refine ih_8 _ ?_ (lf + 1) pt (k + 1) (Nat.le_refl _) ?_ ?_
                · omega
                · omega
                · exact hq.elim (fun z => by omega) (fun z => Or.inr ⟨by omega, el_m z.2⟩)
              · refine ix_i (by omega) ?_
                intro b69 b69b
                refine hK 70 [some (vR 111 0), some (vI ta), some (vI fi), some (vI lf), some (vI pt), some (vI k), none, none, none, none, none, none] [vI (T 301 0 k)] T ?_
                refine j_blx (F := fX11) tb_X11 (nn_ _) bk_X11_ball_70 bs_X11_ball_70 hz (fun K hK => ?_)
                refine rg_i (by omega) ?_
                refine rg_i (by omega) ?_
                refine hK 8 [some (vR 111 0), some (vI ta), some (vI fi), some (vI (lf + 1)), some (vI (T 301 0 k)), some (vI (k + 1)), none, none, none, none, none, none] [] T ?_
                refine ih_8 _ ?_ (lf + 1) (T 301 0 k) (k + 1) (Nat.le_refl _) ?_ ?_
                · omega
                · omega
                · exact Or.inr ⟨by omega, el_n (by omega) (by omega) rfl (by omega)⟩
  refine j_blx (F := fX11) tb_X11 (nn_ _) bk_X11_ball_0 bs_X11_ball_0 hz (fun K hK => ?_)
  refine hK 8 [some (vR 111 0), some (vI ta), some (vI fi), some (vI 0), some (vI 3), some (vI 0), none, none, none, none, none, none] [] T ?_
  refine c_8 _ 0 3 0 (Nat.le_refl _) ?_ ?_
  · omega
  · exact Or.inl ⟨rfl, rfl⟩

