theorem us_1c {x : Int} : us_ x 1 = x % 4294967296 / 2 := by
  have a : ((Int32.ofInt x).toUInt32.toBitVec).toNat = (x % 4294967296).toNat := by
    show (BitVec.ofInt 32 x).toNat = _
    rw [BitVec.toNat_ofInt]; rfl
  have s : ((Int32.ofInt 1).toUInt32 &&& Int32.toUInt32 31) = 1 := by decide
  unfold us_
  rw [s]
  have b : (((Int32.ofInt x).toUInt32 >>> (1 : UInt32)).toBitVec).toNat = (x % 4294967296).toNat / 2 := by
    show ((Int32.ofInt x).toUInt32.toBitVec >>> (1 : BitVec 32)).toNat = _
    rw [BitVec.ushiftRight_eq', BitVec.toNat_ushiftRight, a]
    show (x % 4294967296).toNat >>> 1 = _
    rw [Nat.shiftRight_eq_div_pow]
  show (((Int32.ofInt x).toUInt32 >>> (1 : UInt32)).toBitVec).toInt = _
  rw [BitVec.toInt_eq_toNat_cond, b]
  split <;> omega
abbrev cX1_openNew : ByteArray := prog_3_method_2_code
def yX1_openNew : MethodName := ⟨RX1, "openNew", "(II)V"⟩
def zX1_openNew : Zm := (RX1, cX1_openNew, 3, none, { frames := 1, cells := 0, slots := 0, locals := 23 })
theorem bk_X1_openNew_0 : ck_ fX1 none cX1_openNew 0 [.aload 0, .iload 1, .tableswitch 1 1 1 #[], .aload 0, .iload 2, .tableswitch 1 1 2 #[], .aload 0, .iconst 0, .tableswitch 1 1 3 #[], .aload 0, .iconst 0, .tableswitch 1 1 4 #[], .aload 0, .iconst 0, .tableswitch 1 1 7 #[], .aload 0, .tableswitch 0 1 8 #[], .iconst (-1)] 30 = true := by decide +kernel
theorem cl_X1_54 : cs_ RX1 54 yJ7_fill_53178 zJ7_fill_53178 2 := ⟨gi_S (lw_at 1329 (by decide +kernel) rfl : Cond.methodLink RX1 54 yJ7_fill_53178 ∈ lw_g) (lw_at 266 (by decide +kernel) rfl : Cond.static yJ7_fill_53178 ∈ lw_g) (lw_at 7 (by decide +kernel) rfl : Cond.initialized yJ7_fill_53178.cls ∈ lw_g) (lw_at 267 (by decide +kernel) rfl : Cond.code yJ7_fill_53178 cJ7_fill_53178 4 none ∈ lw_g), ⟨by decide, by decide, by decide +kernel⟩⟩
theorem bk_X1_openNew_33 : ck_ fX1 none cX1_openNew 33 [.aload 0, .tableswitch 0 1 9 #[], .iconst (-1)] 38 = true := by decide +kernel
theorem bk_X1_openNew_41 : ck_ fX1 none cX1_openNew 41 [.aload 0, .tableswitch 0 1 10 #[], .iconst 0] 46 = true := by decide +kernel
theorem bk_X1_openNew_49 : ck_ fX1 none cX1_openNew 49 [.return_] 50 = true := by decide +kernel
abbrev po_X1_openNew (T : Zt) (g l : Int) : Zt → Option Zv → Prop := fun T' r => r = none ∧ fr_ [(101, [1, 2, 3, 4, 7]), (428, []), (429, []), (430, [])] T T' ∧ (T' 101 0 1 = g)
set_option maxHeartbeats 4000000 in
theorem ct_X1_openNew {T : Zt} {g l : Int} (h1 : 0 ≤ g ∧ g ≤ 4) (h2 : 0 ≤ l ∧ l ≤ 3) : Ct_ yX1_openNew zX1_openNew T [vR 101 0, vI g, vI l] (po_X1_openNew T g l) := by
  refine ct_of (by decide) rfl rfl (Nat.le_of_ble_eq_true rfl) (fun hT hav => ?_)
  have hr_g : -2147483648 ≤ g ∧ g ≤ 2147483647 := hav (vI g) (by simp)
  have hr_l : -2147483648 ≤ l ∧ l ≤ 2147483647 := hav (vI l) (by simp)
  have hz : zX1_openNew.2.2.2.1 = some .boolean → ∀ (T' : Zt) (x : Int), po_X1_openNew T g l T' (some (vI x)) → 0 ≤ x ∧ x ≤ 1 := fun h => by cases h
  show J_ zX1_openNew T (po_X1_openNew T g l) 0 0 0 [some (vR 101 0), some (vI g), some (vI l)] [] T
  refine j_blk (F := fX1) tb_X1 (by decide) bk_X1_openNew_0 hz (fun K hK => ?_)
  refine bd_i (by omega) ?_
  refine sx_nm (fun U1 hU1 => ?_)
  have e2 := up_f hU1
  refine bd_i (by omega) ?_
  refine sx_nm (fun U3 hU3 => ?_)
  have e4 := up_f hU3
  refine bd_i (by omega) ?_
  refine sx_nm (fun U5 hU5 => ?_)
  have e6 := up_f hU5
  refine bd_i (by omega) ?_
  refine sx_nm (fun U7 hU7 => ?_)
  have e8 := up_f hU7
  refine bd_i (by omega) ?_
  refine sx_nm (fun U9 hU9 => ?_)
  have e10 := up_f hU9
  refine hK 30 [some (vR 101 0), some (vI g), some (vI l)] [vI (-1), vR 428 0] U9 ?_
  refine j_callS (y := yJ7_fill_53178) (Yc := zJ7_fill_53178) (rest := []) [vR 428 0, vI (-1)] (ct_J7_fill_428 (T := U9) (by omega)) cl_X1_54 (by decide +kernel) (by decide) rfl (by decide +kernel) (Nat.le_of_ble_eq_true rfl) (by decide) (by decide) rfl ?_
  rintro U11 _ ⟨rfl, fU11, qU11o, qU11⟩
  show J_ zX1_openNew T (po_X1_openNew T g l) 0 0 33 [some (vR 101 0), some (vI g), some (vI l)] [] U11
  refine j_blk (F := fX1) tb_X1 (by decide) bk_X1_openNew_33 hz (fun K hK => ?_)
  refine hK 38 [some (vR 101 0), some (vI g), some (vI l)] [vI (-1), vR 429 0] U11 ?_
  refine j_callS (y := yJ7_fill_53178) (Yc := zJ7_fill_53178) (rest := []) [vR 429 0, vI (-1)] (ct_J7_fill_429 (T := U11) (by omega)) cl_X1_54 (by decide +kernel) (by decide) rfl (by decide +kernel) (Nat.le_of_ble_eq_true rfl) (by decide) (by decide) rfl ?_
  rintro U12 _ ⟨rfl, fU12, qU12o, qU12⟩
  show J_ zX1_openNew T (po_X1_openNew T g l) 0 0 41 [some (vR 101 0), some (vI g), some (vI l)] [] U12
  refine j_blk (F := fX1) tb_X1 (by decide) bk_X1_openNew_41 hz (fun K hK => ?_)
  refine hK 46 [some (vR 101 0), some (vI g), some (vI l)] [vI 0, vR 430 0] U12 ?_
  refine j_callS (y := yJ7_fill_53178) (Yc := zJ7_fill_53178) (rest := []) [vR 430 0, vI 0] (ct_J7_fill_430 (T := U12) (by omega)) cl_X1_54 (by decide +kernel) (by decide) rfl (by decide +kernel) (Nat.le_of_ble_eq_true rfl) (by decide) (by decide) rfl ?_
  rintro U13 _ ⟨rfl, fU13, qU13o, qU13⟩
  show J_ zX1_openNew T (po_X1_openNew T g l) 0 0 49 [some (vR 101 0), some (vI g), some (vI l)] [] U13
  refine j_blk (F := fX1) tb_X1 (by decide) bk_X1_openNew_49 hz (fun K hK => ?_)
  refine (show po_X1_openNew T g l U13 (none) from ?_)
  have e14 : U13 101 0 1 = g := (fU13 101 0 1 rfl).trans ((fU12 101 0 1 rfl).trans ((fU11 101 0 1 rfl).trans ((up_j hU9 (by decide) 101 0).trans ((up_j hU7 (by decide) 101 0).trans ((up_j hU5 (by decide) 101 0).trans ((up_j hU3 (by decide) 101 0).trans (up_f hU1)))))))
  exact ⟨rfl, fr_t (fr_t (fr_t (fr_u (fr_u (fr_u (fr_u (fr_u (fr_0 _ _) hU1 rfl) hU3 rfl) hU5 rfl) hU7 rfl) hU9 rfl) (fr_s fU11 rfl)) (fr_s fU12 rfl)) (fr_s fU13 rfl), by omega⟩
abbrev cX10_drawing : ByteArray := prog_1_method_36_code
def yX10_drawing : MethodName := ⟨RX10, "drawing", "(II)I"⟩
def zX10_drawing : Zm := (RX10, cX10_drawing, 3, (some .int), { frames := 2, cells := 0, slots := 0, locals := 45 })
theorem bk_X10_drawing_0 : ck_ fX10 (some .int) cX10_drawing 0 [.iload 1, .iconst 1, .if_icmp .lt 20, .iload 1, .iconst 4, .if_icmp .gt 20, .iload 2, .iconst 1, .if_icmp .lt 20, .iload 2, .iconst 3, .if_icmp .le 23, .iconst (-3), .ireturn] 23 = true := by decide +kernel
theorem bk_X10_drawing_20 : ck_ fX10 (some .int) cX10_drawing 20 [.iconst (-3), .ireturn] 23 = true := by decide +kernel
theorem bk_X10_drawing_23 : ck_ fX10 (some .int) cX10_drawing 23 [.aload 0, .tableswitch 0 10 5 #[], .iload 1, .iload 2] 29 = true := by decide +kernel
theorem cl_X10_380 : cv_ RX10 380 yX1_openNew zX1_openNew 1 2 := ⟨gi_V (lw_at 1325 (by decide +kernel) rfl : Cond.methodLink RX10 380 yX1_openNew ∈ lw_g) (lw_at 1326 (by decide +kernel) rfl : Cond.instanceMethod yX1_openNew ∈ lw_g) (lw_at 1327 (by decide +kernel) rfl : Cond.selects yX1_openNew.cls yX1_openNew yX1_openNew ∈ lw_g) (lw_at 8 (by decide +kernel) rfl : Cond.initialized yX1_openNew.cls ∈ lw_g) (lw_at 1328 (by decide +kernel) rfl : Cond.code yX1_openNew cX1_openNew 3 none ∈ lw_g), ⟨by decide, by decide, by decide +kernel⟩, ⟨_, _, rfl⟩⟩
theorem bk_X10_drawing_32 : ck_ fX10 (some .int) cX10_drawing 32 [.iconst 1, .ireturn] 34 = true := by decide +kernel
abbrev po_X10_drawing (T : Zt) (g l : Int) : Zt → Option Zv → Prop := fun T' r => ∃ x : Int, r = some (vI x) ∧ fr_ [(101, [1, 2, 3, 4, 7]), (428, []), (429, []), (430, [])] T T' ∧ ((x = -3 ∧ ¬ (1 ≤ g ∧ g ≤ 4 ∧ 1 ≤ l ∧ l ≤ 3)) ∨ (x = 1 ∧ 1 ≤ g ∧ g ≤ 4 ∧ 1 ≤ l ∧ l ≤ 3))
set_option maxHeartbeats 4000000 in
theorem ct_X10_drawing {T : Zt} {g l : Int} : Ct_ yX10_drawing zX10_drawing T [vR 110 0, vI g, vI l] (po_X10_drawing T g l) := by
  refine ct_of (by decide) rfl rfl (Nat.le_of_ble_eq_true rfl) (fun hT hav => ?_)
  have hr_g : -2147483648 ≤ g ∧ g ≤ 2147483647 := hav (vI g) (by simp)
  have hr_l : -2147483648 ≤ l ∧ l ≤ 2147483647 := hav (vI l) (by simp)
  have hz : zX10_drawing.2.2.2.1 = some .boolean → ∀ (T' : Zt) (x : Int), po_X10_drawing T g l T' (some (vI x)) → 0 ≤ x ∧ x ≤ 1 := fun h => by cases h
  show J_ zX10_drawing T (po_X10_drawing T g l) 0 0 0 [some (vR 110 0), some (vI g), some (vI l)] [] T
  refine j_blk (F := fX10) tb_X10 (by decide) bk_X10_drawing_0 hz (fun K hK => ?_)
  refine And.intro (fun c1 => ?_) (fun c1 => ?_)
  · refine hK 20 [some (vR 110 0), some (vI g), some (vI l)] [] T ?_
    refine j_blk (F := fX10) tb_X10 (by decide) bk_X10_drawing_20 hz (fun K hK => ?_)
    refine (show po_X10_drawing T g l T (some (vI (-3))) from ?_)
    exact ⟨_, rfl, fr_0 _ _, by omega⟩
  · refine And.intro (fun c2 => ?_) (fun c2 => ?_)
    · refine hK 20 [some (vR 110 0), some (vI g), some (vI l)] [] T ?_
      refine j_blk (F := fX10) tb_X10 (by decide) bk_X10_drawing_20 hz (fun K hK => ?_)
      refine (show po_X10_drawing T g l T (some (vI (-3))) from ?_)
      exact ⟨_, rfl, fr_0 _ _, by omega⟩
    · refine And.intro (fun c3 => ?_) (fun c3 => ?_)
      · refine hK 20 [some (vR 110 0), some (vI g), some (vI l)] [] T ?_
        refine j_blk (F := fX10) tb_X10 (by decide) bk_X10_drawing_20 hz (fun K hK => ?_)
        refine (show po_X10_drawing T g l T (some (vI (-3))) from ?_)
        exact ⟨_, rfl, fr_0 _ _, by omega⟩
      · refine And.intro (fun c4 => ?_) (fun c4 => ?_)
        · refine hK 23 [some (vR 110 0), some (vI g), some (vI l)] [] T ?_
          refine j_blk (F := fX10) tb_X10 (by decide) bk_X10_drawing_23 hz (fun K hK => ?_)
          refine hK 29 [some (vR 110 0), some (vI g), some (vI l)] [vI l, vI g, vR 101 0] T ?_
          refine j_callV (y := yX1_openNew) (Yc := zX1_openNew) (rest := []) [vI g, vI l] (ct_X1_openNew (T := T) (by omega) (by omega)) cl_X10_380 (by decide +kernel) (by decide) rfl (by decide +kernel) (Nat.le_of_ble_eq_true rfl) (by decide) (by decide) rfl ?_
          rintro U5 _ ⟨rfl, fU5, qU5⟩
          show J_ zX10_drawing T (po_X10_drawing T g l) 0 0 32 [some (vR 110 0), some (vI g), some (vI l)] [] U5
          refine j_blk (F := fX10) tb_X10 (by decide) bk_X10_drawing_32 hz (fun K hK => ?_)
          refine (show po_X10_drawing T g l U5 (some (vI 1)) from ?_)
          exact ⟨_, rfl, fr_t (fr_0 _ _) (fr_s fU5 rfl), by omega⟩
        · refine (show po_X10_drawing T g l T (some (vI (-3))) from ?_)
          exact ⟨_, rfl, fr_0 _ _, by omega⟩
abbrev cX1_putIn : ByteArray := prog_3_method_3_code
def yX1_putIn : MethodName := ⟨RX1, "putIn", "(II)V"⟩
def zX1_putIn : Zm := (RX1, cX1_putIn, 3, none, { frames := 0, cells := 0, slots := 0, locals := 0 })
theorem bk_X1_putIn_0 : ck_ fX1 none cX1_putIn 0 [.aload 0, .tableswitch 0 1 8 #[], .iload 1, .iload 2, .iastore, .aload 0, .tableswitch 0 1 10 #[], .iload 2, .dup2, .iaload, .iconst 1, .iadd, .iastore, .aload 0, .dup, .tableswitch 0 1 3 #[], .iconst 1, .fadd, .tableswitch 1 1 3 #[], .aload 0, .iconst 0, .tableswitch 1 1 7 #[], .return_] 33 = true := by decide +kernel
abbrev po_X1_putIn (T : Zt) (c k : Int) : Zt → Option Zv → Prop := fun T' r => r = none ∧ fr_ [(428, []), (430, []), (101, [3, 7])] T T' ∧ (0 = (0 : Int))
set_option maxHeartbeats 4000000 in
theorem ct_X1_putIn {T : Zt} {c k : Int} (h1 : 0 ≤ c ∧ c < 12) (h2 : 0 ≤ k ∧ k ≤ 2) (h3 : T 430 0 k < 4) : Ct_ yX1_putIn zX1_putIn T [vR 101 0, vI c, vI k] (po_X1_putIn T c k) := by
  refine ct_of (by decide) rfl rfl (Nat.le_of_ble_eq_true rfl) (fun hT hav => ?_)
  have hr_c : -2147483648 ≤ c ∧ c ≤ 2147483647 := hav (vI c) (by simp)
  have hr_k : -2147483648 ≤ k ∧ k ≤ 2147483647 := hav (vI k) (by simp)
  have hz : zX1_putIn.2.2.2.1 = some .boolean → ∀ (T' : Zt) (x : Int), po_X1_putIn T c k T' (some (vI x)) → 0 ≤ x ∧ x ≤ 1 := fun h => by cases h
  have hps : 0 ≤ T 430 0 k ∧ T 430 0 k ≤ 4 := bd_a hT 430 (by decide +kernel : ta_ 430 = some (1, some 3, 0, 4)) 0 (by omega)
  show J_ zX1_putIn T (po_X1_putIn T c k) 0 0 0 [some (vR 101 0), some (vI c), some (vI k)] [] T
  refine j_blk (F := fX1) tb_X1 (by decide) bk_X1_putIn_0 hz (fun K hK => ?_)
  refine iy_i (by omega) (by omega) ?_
  refine sx_nm (fun U1 hU1 => ?_)
  have e2 := up_f hU1
  refine ix_i (by omega) ?_
  intro b3 b3b
  have e4 : U1 430 0 k = T 430 0 k := up_k hU1 (by decide) 0 k
  rw [e4] at b3 b3b ⊢
  refine rg_i (by omega) ?_
  refine iy_i (by omega) (by omega) ?_
  refine sx_nm (fun U5 hU5 => ?_)
  have e6 := up_f hU5
  intro b7 b7b
  have e8 : U5 101 0 3 = T 101 0 3 := (up_k hU5 (by decide) 0 3).trans (up_k hU1 (by decide) 0 3)
  rw [e8] at b7 b7b ⊢
  intro w9 w9b
  refine bd_i (by omega) ?_
  refine sx_nm (fun U10 hU10 => ?_)
  have e11 := up_f hU10
  refine bd_i (by omega) ?_
  refine sx_nm (fun U12 hU12 => ?_)
  have e13 := up_f hU12
  refine (show po_X1_putIn T c k U12 (none) from ?_)
  exact ⟨rfl, fr_u (fr_u (fr_u (fr_u (fr_0 _ _) hU1 rfl) hU5 rfl) hU10 rfl) hU12 rfl, by rfl⟩
abbrev cX10_pot : ByteArray := prog_1_method_37_code
def yX10_pot : MethodName := ⟨RX10, "pot", "(II)I"⟩
def zX10_pot : Zm := (RX10, cX10_pot, 3, (some .int), { frames := 2, cells := 0, slots := 0, locals := 42 })
theorem bk_X10_pot_0 : ck_ fX10 (some .int) cX10_pot 0 [.aload 0, .iload 1] 2 = true := by decide +kernel
theorem bk_X10_pot_5 : ck_ fX10 (some .int) cX10_pot 5 [.ifCond .ne 11, .iconst (-2), .ireturn] 11 = true := by decide +kernel
theorem bk_X10_pot_11 : ck_ fX10 (some .int) cX10_pot 11 [.iload 2, .ifCond .lt 20, .iload 2, .iconst 3, .if_icmp .lt 23, .iconst (-3), .ireturn] 23 = true := by decide +kernel
theorem bk_X10_pot_20 : ck_ fX10 (some .int) cX10_pot 20 [.iconst (-3), .ireturn] 23 = true := by decide +kernel
theorem bk_X10_pot_23 : ck_ fX10 (some .int) cX10_pot 23 [.aload 0, .tableswitch 0 10 5 #[], .tableswitch 0 1 1 #[], .ifCond .eq 56, .aload 0, .tableswitch 0 10 5 #[], .tableswitch 0 1 8 #[], .iload 1, .iaload, .iconst (-1), .if_icmp .ne 56, .aload 0, .tableswitch 0 10 5 #[], .tableswitch 0 1 4 #[], .ifCond .le 59, .iconst (-4), .ireturn] 59 = true := by decide +kernel
theorem bk_X10_pot_56 : ck_ fX10 (some .int) cX10_pot 56 [.iconst (-4), .ireturn] 59 = true := by decide +kernel
theorem bk_X10_pot_59 : ck_ fX10 (some .int) cX10_pot 59 [.aload 0, .tableswitch 0 10 5 #[], .tableswitch 0 1 10 #[], .iload 2, .iaload, .aload 0, .tableswitch 0 10 5 #[], .tableswitch 0 1 1 #[], .if_icmp .lt 81, .iconst (-5), .ireturn] 81 = true := by decide +kernel
theorem bk_X10_pot_81 : ck_ fX10 (some .int) cX10_pot 81 [.aload 0, .tableswitch 0 10 5 #[], .iload 1, .iload 2] 87 = true := by decide +kernel
theorem cl_X10_396 : cv_ RX10 396 yX1_putIn zX1_putIn 1 2 := ⟨gi_V (lw_at 1334 (by decide +kernel) rfl : Cond.methodLink RX10 396 yX1_putIn ∈ lw_g) (lw_at 1335 (by decide +kernel) rfl : Cond.instanceMethod yX1_putIn ∈ lw_g) (lw_at 1336 (by decide +kernel) rfl : Cond.selects yX1_putIn.cls yX1_putIn yX1_putIn ∈ lw_g) (lw_at 8 (by decide +kernel) rfl : Cond.initialized yX1_putIn.cls ∈ lw_g) (lw_at 1337 (by decide +kernel) rfl : Cond.code yX1_putIn cX1_putIn 3 none ∈ lw_g), ⟨by decide, by decide, by decide +kernel⟩, ⟨_, _, rfl⟩⟩
theorem bk_X10_pot_90 : ck_ fX10 (some .int) cX10_pot 90 [.aload 0, .tableswitch 0 10 5 #[], .tableswitch 0 1 10 #[], .iload 2, .iaload, .ireturn] 100 = true := by decide +kernel
abbrev po_X10_pot (T : Zt) (c k : Int) : Zt → Option Zv → Prop := fun T' r => ∃ x : Int, r = some (vI x) ∧ fr_ [(428, []), (430, []), (101, [3, 7])] T T' ∧ (x = x)
set_option maxHeartbeats 4000000 in
theorem ct_X10_pot {T : Zt} {c k : Int} : Ct_ yX10_pot zX10_pot T [vR 110 0, vI c, vI k] (po_X10_pot T c k) := by
  refine ct_of (by decide) rfl rfl (Nat.le_of_ble_eq_true rfl) (fun hT hav => ?_)
  have hr_c : -2147483648 ≤ c ∧ c ≤ 2147483647 := hav (vI c) (by simp)
  have hr_k : -2147483648 ≤ k ∧ k ≤ 2147483647 := hav (vI k) (by simp)
  have hz : zX10_pot.2.2.2.1 = some .boolean → ∀ (T' : Zt) (x : Int), po_X10_pot T c k T' (some (vI x)) → 0 ≤ x ∧ x ≤ 1 := fun h => by cases h
  have hb_clubs : 0 ≤ T 108 0 2 ∧ T 108 0 2 ≤ 12 := bd_f hT 108 2 (by decide +kernel : (tf_ 108)[2]? = some (0, 0, 0, 12)) 0
  have hgr : 0 ≤ T 101 0 1 ∧ T 101 0 1 ≤ 4 := bd_f hT 101 1 (by decide +kernel : (tf_ 101)[1]? = some (0, 0, 0, 4)) 0
  show J_ zX10_pot T (po_X10_pot T c k) 0 0 0 [some (vR 110 0), some (vI c), some (vI k)] [] T
  refine j_blk (F := fX10) tb_X10 (by decide) bk_X10_pot_0 hz (fun K hK => ?_)
  refine hK 2 [some (vR 110 0), some (vI c), some (vI k)] [vI c, vR 110 0] T ?_
  refine j_callV (y := yX10_isClub) (Yc := zX10_isClub) (rest := []) [vI c] (ct_X10_isClub (T := T)) cl_X10_137 (by decide +kernel) (by decide) rfl (by decide +kernel) (Nat.le_of_ble_eq_true rfl) (by decide) (by decide) rfl ?_
  rintro _ _ ⟨rfl, x1, rfl, hx1⟩
  show J_ zX10_pot T (po_X10_pot T c k) 0 0 5 [some (vR 110 0), some (vI c), some (vI k)] [vI x1] T
  refine j_blk (F := fX10) tb_X10 (by decide) bk_X10_pot_5 hz (fun K hK => ?_)
  refine And.intro (fun c2 => ?_) (fun c2 => ?_)
  · refine hK 11 [some (vR 110 0), some (vI c), some (vI k)] [] T ?_
    refine j_blk (F := fX10) tb_X10 (by decide) bk_X10_pot_11 hz (fun K hK => ?_)
    refine And.intro (fun c3 => ?_) (fun c3 => ?_)
    · refine hK 20 [some (vR 110 0), some (vI c), some (vI k)] [] T ?_
      refine j_blk (F := fX10) tb_X10 (by decide) bk_X10_pot_20 hz (fun K hK => ?_)
      refine (show po_X10_pot T c k T (some (vI (-3))) from ?_)
      exact ⟨_, rfl, fr_0 _ _, by rfl⟩
    · refine And.intro (fun c4 => ?_) (fun c4 => ?_)
      · refine hK 23 [some (vR 110 0), some (vI c), some (vI k)] [] T ?_
        refine j_blk (F := fX10) tb_X10 (by decide) bk_X10_pot_23 hz (fun K hK => ?_)
        intro b5 b5b
        refine And.intro (fun c6 => ?_) (fun c6 => ?_)
        · refine hK 56 [some (vR 110 0), some (vI c), some (vI k)] [] T ?_
          refine j_blk (F := fX10) tb_X10 (by decide) bk_X10_pot_56 hz (fun K hK => ?_)
          refine (show po_X10_pot T c k T (some (vI (-4))) from ?_)
          exact ⟨_, rfl, fr_0 _ _, by rfl⟩
        · refine ix_i (by omega) ?_
          intro b7 b7b
          refine And.intro (fun c8 => ?_) (fun c8 => ?_)
          · refine hK 56 [some (vR 110 0), some (vI c), some (vI k)] [] T ?_
            refine j_blk (F := fX10) tb_X10 (by decide) bk_X10_pot_56 hz (fun K hK => ?_)
            refine (show po_X10_pot T c k T (some (vI (-4))) from ?_)
            exact ⟨_, rfl, fr_0 _ _, by rfl⟩
          · intro b9 b9b
            refine And.intro (fun c10 => ?_) (fun c10 => ?_)
            · refine hK 59 [some (vR 110 0), some (vI c), some (vI k)] [] T ?_
              refine j_blk (F := fX10) tb_X10 (by decide) bk_X10_pot_59 hz (fun K hK => ?_)
              refine ix_i (by omega) ?_
              intro b11 b11b
              intro b12 b12b
              refine And.intro (fun c13 => ?_) (fun c13 => ?_)
              · refine hK 81 [some (vR 110 0), some (vI c), some (vI k)] [] T ?_
                refine j_blk (F := fX10) tb_X10 (by decide) bk_X10_pot_81 hz (fun K hK => ?_)
                refine hK 87 [some (vR 110 0), some (vI c), some (vI k)] [vI k, vI c, vR 101 0] T ?_
                refine j_callV (y := yX1_putIn) (Yc := zX1_putIn) (rest := []) [vI c, vI k] (ct_X1_putIn (T := T) (by omega) (by omega) (by omega)) cl_X10_396 (by decide +kernel) (by decide) rfl (by decide +kernel) (Nat.le_of_ble_eq_true rfl) (by decide) (by decide) rfl ?_
                rintro U14 _ ⟨rfl, fU14, qU14⟩
                show J_ zX10_pot T (po_X10_pot T c k) 0 0 90 [some (vR 110 0), some (vI c), some (vI k)] [] U14
                refine j_blk (F := fX10) tb_X10 (by decide) bk_X10_pot_90 hz (fun K hK => ?_)
                refine ix_i (by omega) ?_
                intro b15 b15b
                refine (show po_X10_pot T c k U14 (some (vI (U14 430 0 k))) from ?_)
                exact ⟨_, rfl, fr_t (fr_0 _ _) (fr_s fU14 rfl), by rfl⟩
              · refine (show po_X10_pot T c k T (some (vI (-5))) from ?_)
                exact ⟨_, rfl, fr_0 _ _, by rfl⟩
            · refine (show po_X10_pot T c k T (some (vI (-4))) from ?_)
              exact ⟨_, rfl, fr_0 _ _, by rfl⟩
      · refine (show po_X10_pot T c k T (some (vI (-3))) from ?_)
        exact ⟨_, rfl, fr_0 _ _, by rfl⟩
  · refine (show po_X10_pot T c k T (some (vI (-2))) from ?_)
    exact ⟨_, rfl, fr_0 _ _, by rfl⟩
abbrev cX1_waysWith : ByteArray := prog_3_method_6_code
def yX1_waysWith : MethodName := ⟨RX1, "waysWith", "(II)I"⟩
def zX1_waysWith : Zm := (RX1, cX1_waysWith, 3, (some .int), { frames := 0, cells := 0, slots := 0, locals := 0 })
theorem bk_X1_waysWith_0 : ck_ fX1 (some .int) cX1_waysWith 0 [.aload 0, .tableswitch 0 1 9 #[], .iload 1, .iaload, .iconst (-1), .if_icmp .eq 29, .aload 0, .tableswitch 0 1 9 #[], .iload 1, .iaload, .iload 2, .if_icmp .ne 27, .aload 0, .tableswitch 0 1 6 #[], .goto 28] 27 = true := by decide +kernel
theorem bk_X1_waysWith_29 : ck_ fX1 (some .int) cX1_waysWith 29 [.aload 0, .tableswitch 0 1 11 #[], .iload 1, .iconst 4, .imul, .iload 2, .iadd, .iaload, .ireturn] 40 = true := by decide +kernel
theorem bk_X1_waysWith_27 : ck_ fX1 (some .int) cX1_waysWith 27 [.iconst 0, .ireturn] 29 = true := by decide +kernel
theorem bk_X1_waysWith_28 : ck_ fX1 (some .int) cX1_waysWith 28 [.ireturn] 29 = true := by decide +kernel
abbrev po_X1_waysWith (T : Zt) (c g : Int) : Zt → Option Zv → Prop := fun T' r => T = T' ∧ ∃ x : Int, r = some (vI x) ∧ (True)
set_option maxHeartbeats 4000000 in
theorem ct_X1_waysWith {T : Zt} {c g : Int} (h1 : 0 ≤ c ∧ c < 12) (h2 : 0 ≤ g ∧ g < 4) : Ct_ yX1_waysWith zX1_waysWith T [vR 101 0, vI c, vI g] (po_X1_waysWith T c g) := by
  refine ct_of (by decide) rfl rfl (Nat.le_of_ble_eq_true rfl) (fun hT hav => ?_)
  have hr_c : -2147483648 ≤ c ∧ c ≤ 2147483647 := hav (vI c) (by simp)
  have hr_g : -2147483648 ≤ g ∧ g ≤ 2147483647 := hav (vI g) (by simp)
  have hz : zX1_waysWith.2.2.2.1 = some .boolean → ∀ (T' : Zt) (x : Int), po_X1_waysWith T c g T' (some (vI x)) → 0 ≤ x ∧ x ≤ 1 := fun h => by cases h
  show J_ zX1_waysWith T (po_X1_waysWith T c g) 0 0 0 [some (vR 101 0), some (vI c), some (vI g)] [] T
  refine j_blk (F := fX1) tb_X1 (by decide) bk_X1_waysWith_0 hz (fun K hK => ?_)
  refine ix_i (by omega) ?_
  intro b1 b1b
  refine And.intro (fun c2 => ?_) (fun c2 => ?_)
  · refine hK 29 [some (vR 101 0), some (vI c), some (vI g)] [] T ?_
    refine j_blk (F := fX1) tb_X1 (by decide) bk_X1_waysWith_29 hz (fun K hK => ?_)
    refine rg_i (by omega) ?_
    refine rg_i (by omega) ?_
    refine ix_i (by omega) ?_
    intro b3 b3b
    refine (show po_X1_waysWith T c g T (some (vI (T 431 0 ((c * 4) + g)))) from ?_)
    exact ⟨rfl, _, rfl, by trivial⟩
  · refine ix_i (by omega) ?_
    intro b4 b4b
    refine And.intro (fun c5 => ?_) (fun c5 => ?_)
    · refine hK 27 [some (vR 101 0), some (vI c), some (vI g)] [] T ?_
      refine j_blk (F := fX1) tb_X1 (by decide) bk_X1_waysWith_27 hz (fun K hK => ?_)
      refine (show po_X1_waysWith T c g T (some (vI 0)) from ?_)
      exact ⟨rfl, _, rfl, by trivial⟩
    · intro b6 b6b
      refine hK 28 [some (vR 101 0), some (vI c), some (vI g)] [vI (T 101 0 6)] T ?_
      refine j_blk (F := fX1) tb_X1 (by decide) bk_X1_waysWith_28 hz (fun K hK => ?_)
      refine (show po_X1_waysWith T c g T (some (vI (T 101 0 6))) from ?_)
      exact ⟨rfl, _, rfl, by trivial⟩
abbrev cX1_takeBelow : ByteArray := prog_3_method_9_code
def yX1_takeBelow : MethodName := ⟨RX1, "takeBelow", "(I)I"⟩
def zX1_takeBelow : Zm := (RX1, cX1_takeBelow, 8, (some .int), { frames := 0, cells := 0, slots := 0, locals := 0 })
theorem bk_X1_takeBelow_71 : ck_ fX1 (some .int) cX1_takeBelow 71 [.iload 6, .iload 1, .irem, .ireturn] 76 = true := by decide +kernel
theorem bk_X1_takeBelow_24 : ck_ fX1 (some .int) cX1_takeBelow 24 [.iload 7, .iconst 1000000, .if_icmp .ge 71, .aload 0, .aload 0, .tableswitch 0 1 5 #[], .iconst 1664525, .fmul, .iconst 1013904223, .fadd, .tableswitch 1 1 5 #[], .aload 0, .tableswitch 0 1 5 #[], .iconst 1, .iushr, .istore 6, .iload 6, .i2l, .lload 4, .lcmp, .ifCond .ge 65, .goto 71] 65 = true := by decide +kernel
theorem bk_X1_takeBelow_65 : ck_ fX1 (some .int) cX1_takeBelow 65 [.iinc 7 1, .goto 24] 71 = true := by decide +kernel
theorem bk_X1_takeBelow_0 : ck_ fX1 (some .int) cX1_takeBelow 0 [.iload 1, .ifCond .gt 6, .iconst 0, .ireturn] 6 = true := by decide +kernel
theorem bk_X1_takeBelow_6 : ck_ fX1 (some .int) cX1_takeBelow 6 [.sipush 2147483648, .lstore 2, .lload 2, .lload 2, .iload 1, .i2l, .lrem, .lsub, .lstore 4, .iconst 0, .istore 6, .iconst 0, .istore 7] 24 = true := by decide +kernel
abbrev po_X1_takeBelow (T : Zt) (m : Int) : Zt → Option Zv → Prop := fun T' r => ∃ x : Int, r = some (vI x) ∧ fr_ [(101, [5])] T T' ∧ ((m ≤ 0 ∧ x = 0) ∨ (0 < m ∧ 0 ≤ x ∧ x < m))
set_option maxHeartbeats 4000000 in
theorem ct_X1_takeBelow {T : Zt} {m : Int} : Ct_ yX1_takeBelow zX1_takeBelow T [vR 101 0, vI m] (po_X1_takeBelow T m) := by
  refine ct_of (by decide) rfl rfl (Nat.le_of_ble_eq_true rfl) (fun hT hav => ?_)
  have hr_m : -2147483648 ≤ m ∧ m ≤ 2147483647 := hav (vI m) (by simp)
  have hz : zX1_takeBelow.2.2.2.1 = some .boolean → ∀ (T' : Zt) (x : Int), po_X1_takeBelow T m T' (some (vI x)) → 0 ≤ x ∧ x ≤ 1 := fun h => by cases h
  have hr1 := Int.emod_nonneg 2147483648 (b := m)
  have hr2 := Int.emod_lt_of_pos 2147483648 (b := m)
  show J_ zX1_takeBelow T (po_X1_takeBelow T m) 0 0 0 [some (vR 101 0), some (vI m), none, none, none, none, none, none] [] T
  have c_71 : ∀ (v : Int) (T2 : Zt), (fr_ [(101, [5])] T T2) → (0 ≤ v ∧ 0 < m) → J_ zX1_takeBelow T (po_X1_takeBelow T m) 0 0 71 [some (vR 101 0), some (vI m), none, none, none, none, some (vI v), none] [] T2 := by
    intro v T2 hf_71 i2
    refine j_blk (F := fX1) tb_X1 (by decide) bk_X1_takeBelow_71 hz (fun K hK => ?_)
    have hv1 := Int.emod_nonneg (v) (show m ≠ 0 by omega)
    have hv2 := Int.emod_lt_of_pos (v) (show 0 < m by omega)
    refine dv_i (by omega) ?_
    refine (show po_X1_takeBelow T m T2 (some (vI (v % m))) from ?_)
    exact ⟨_, rfl, fr_t (fr_0 _ _) (fr_s hf_71 rfl), by omega⟩
  have c_24 : ∀ (nn : Nat) (v : Int) (n : Int) (fa : Int) (T1 : Zt), ((1000000 - n).toNat) ≤ nn → (fr_ [(101, [5])] T T1) → (0 ≤ v ∧ 0 ≤ n ∧ 0 < m) → J_ zX1_takeBelow T (po_X1_takeBelow T m) 0 0 24 [some (vR 101 0), some (vI m), none, none, some (vL fa), none, some (vI v), some (vI n)] [] T1 := by
    intro nn
    induction nn using Nat.strongRecOn with
    | _ nn ih_24 =>
      intro v n fa T1 hm_24 hf_24 i1
      refine j_blk (F := fX1) tb_X1 (by decide) bk_X1_takeBelow_24 hz (fun K hK => ?_)
      refine And.intro (fun c1 => ?_) (fun c1 => ?_)
      · refine hK 71 [some (vR 101 0), some (vI m), none, none, some (vL fa), none, some (vI v), some (vI n)] [] T1 ?_
        refine j_drop [some (vR 101 0), some (vI m), none, none, none, none, some (vI v), none] (fun k v hk => ?_) rfl ?_
        · match k, hk with
          | 0, hk => exact hk
          | 1, hk => exact hk
          | 2, hk => cases hk
          | 3, hk => cases hk
          | 4, hk => cases hk
          | 5, hk => cases hk
          | 6, hk => exact hk
          | 7, hk => cases hk
          | k + 8, hk => cases hk
        refine c_71 v T1 ?_ ?_
        · exact fr_t (fr_0 _ _) (fr_s hf_24 rfl)
        · omega
      · intro b2 b2b
        intro w3 w3b
        intro w4 w4b
        refine bd_i (by omega) ?_
        refine sx_nm (fun U5 hU5 => ?_)
        have e6 := up_f hU5
        intro b7 b7b
        have e8 : U5 101 0 5 = wr_ ((wr_ ((T1 101 0 5) * 1664525)) + 1013904223) := up_f hU5
        rw [e8] at b7 b7b ⊢
        intro w9 w9b
        have u10 := us_1c (x := (wr_ ((wr_ ((T1 101 0 5) * 1664525)) + 1013904223)))
        refine And.intro (fun c11 => ?_) (And.intro (fun c11 => ?_) (fun c11 => ?_))
        · refine And.intro (fun c12 => ?_) (fun c12 => ?_)
          · exact absurd c12 (by decide)
          · refine hK 71 [some (vR 101 0), some (vI m), none, none, some (vL fa), none, some (vI (us_ (wr_ ((wr_ ((T1 101 0 5) * 1664525)) + 1013904223)) 1)), some (vI n)] [] U5 ?_
            refine j_drop [some (vR 101 0), some (vI m), none, none, none, none, some (vI (us_ (wr_ ((wr_ ((T1 101 0 5) * 1664525)) + 1013904223)) 1)), none] (fun k v hk => ?_) rfl ?_
            · match k, hk with
              | 0, hk => exact hk
              | 1, hk => exact hk
              | 2, hk => cases hk
              | 3, hk => cases hk
              | 4, hk => cases hk
              | 5, hk => cases hk
              | 6, hk => exact hk
              | 7, hk => cases hk
              | k + 8, hk => cases hk
            refine c_71 (us_ (wr_ ((wr_ ((T1 101 0 5) * 1664525)) + 1013904223)) 1) U5 ?_ ?_
            · exact fr_u (fr_t (fr_0 _ _) (fr_s hf_24 rfl)) hU5 rfl
            · omega
        · refine And.intro (fun c13 => ?_) (fun c13 => ?_)
          · refine hK 65 [some (vR 101 0), some (vI m), none, none, some (vL fa), none, some (vI (us_ (wr_ ((wr_ ((T1 101 0 5) * 1664525)) + 1013904223)) 1)), some (vI n)] [] U5 ?_
            refine j_blk (F := fX1) tb_X1 (by decide) bk_X1_takeBelow_65 hz (fun K hK => ?_)
            refine rg_i (by omega) ?_
            refine hK 24 [some (vR 101 0), some (vI m), none, none, some (vL fa), none, some (vI (us_ (wr_ ((wr_ ((T1 101 0 5) * 1664525)) + 1013904223)) 1)), some (vI (n + 1))] [] U5 ?_
            refine ih_24 _ ?_ (us_ (wr_ ((wr_ ((T1 101 0 5) * 1664525)) + 1013904223)) 1) (n + 1) fa U5 (Nat.le_refl _) ?_ ?_
            · omega
            · exact fr_u (fr_t (fr_0 _ _) (fr_s hf_24 rfl)) hU5 rfl
            · omega
          · exact absurd c13 (by decide)
        · refine And.intro (fun c14 => ?_) (fun c14 => ?_)
          · refine hK 65 [some (vR 101 0), some (vI m), none, none, some (vL fa), none, some (vI (us_ (wr_ ((wr_ ((T1 101 0 5) * 1664525)) + 1013904223)) 1)), some (vI n)] [] U5 ?_
            refine j_blk (F := fX1) tb_X1 (by decide) bk_X1_takeBelow_65 hz (fun K hK => ?_)
            refine rg_i (by omega) ?_
            refine hK 24 [some (vR 101 0), some (vI m), none, none, some (vL fa), none, some (vI (us_ (wr_ ((wr_ ((T1 101 0 5) * 1664525)) + 1013904223)) 1)), some (vI (n + 1))] [] U5 ?_
            refine ih_24 _ ?_ (us_ (wr_ ((wr_ ((T1 101 0 5) * 1664525)) + 1013904223)) 1) (n + 1) fa U5 (Nat.le_refl _) ?_ ?_
            · omega
            · exact fr_u (fr_t (fr_0 _ _) (fr_s hf_24 rfl)) hU5 rfl
            · omega
          · exact absurd c14 (by decide)
  refine j_blk (F := fX1) tb_X1 (by decide) bk_X1_takeBelow_0 hz (fun K hK => ?_)
  refine And.intro (fun c15 => ?_) (fun c15 => ?_)
  · refine hK 6 [some (vR 101 0), some (vI m), none, none, none, none, none, none] [] T ?_
    refine j_blk (F := fX1) tb_X1 (by decide) bk_X1_takeBelow_6 hz (fun K hK => ?_)
    refine dv_i (by omega) ?_
    refine rl_i (by omega) ?_
    refine hK 24 [some (vR 101 0), some (vI m), some (vL 2147483648), none, some (vL (2147483648 - (2147483648 % m))), none, some (vI 0), some (vI 0)] [] T ?_
    refine j_drop [some (vR 101 0), some (vI m), none, none, some (vL (2147483648 - (2147483648 % m))), none, some (vI 0), some (vI 0)] (fun k v hk => ?_) rfl ?_
    · match k, hk with
      | 0, hk => exact hk
      | 1, hk => exact hk
      | 2, hk => cases hk
      | 3, hk => cases hk
      | 4, hk => exact hk
      | 5, hk => cases hk
      | 6, hk => exact hk
      | 7, hk => exact hk
      | k + 8, hk => cases hk
    refine c_24 _ 0 0 (2147483648 - (2147483648 % m)) T (Nat.le_refl _) ?_ ?_
    · exact fr_0 _ _
    · omega
  · refine (show po_X1_takeBelow T m T (some (vI 0)) from ?_)
    exact ⟨_, rfl, fr_0 _ _, by omega⟩
abbrev cX1_takeClub : ByteArray := prog_3_method_7_code
def yX1_takeClub : MethodName := ⟨RX1, "takeClub", "()I"⟩
def zX1_takeClub : Zm := (RX1, cX1_takeClub, 4, (some .int), { frames := 1, cells := 0, slots := 0, locals := 27 })
theorem bk_X1_takeClub_16 : ck_ fX1 (some .int) cX1_takeClub 16 [.iload 3, .aload 0, .tableswitch 0 1 13 #[], .if_icmp .ge 48, .aload 0, .tableswitch 0 1 8 #[], .aload 0, .tableswitch 0 1 12 #[], .iload 3, .iaload, .iaload, .iload 1, .if_icmp .ne 42, .iinc 2 1, .iinc 3 1, .goto 16] 48 = true := by decide +kernel
theorem bk_X1_takeClub_48 : ck_ fX1 (some .int) cX1_takeClub 48 [.aload 0, .tableswitch 0 1 12 #[], .aload 0, .iload 2] 54 = true := by decide +kernel
theorem cl_X1_75 : cv_ RX1 75 yX1_takeBelow zX1_takeBelow 1 1 := ⟨gi_V (lw_at 1366 (by decide +kernel) rfl : Cond.methodLink RX1 75 yX1_takeBelow ∈ lw_g) (lw_at 1368 (by decide +kernel) rfl : Cond.instanceMethod yX1_takeBelow ∈ lw_g) (lw_sel 82 rfl : Cond.selects yX1_takeBelow.cls yX1_takeBelow yX1_takeBelow ∈ lw_g) (lw_at 8 (by decide +kernel) rfl : Cond.initialized yX1_takeBelow.cls ∈ lw_g) (lw_at 1369 (by decide +kernel) rfl : Cond.code yX1_takeBelow cX1_takeBelow 8 (some .int) ∈ lw_g), ⟨by decide, by decide, by decide +kernel⟩, ⟨_, _, rfl⟩⟩
theorem bk_X1_takeClub_57 : ck_ fX1 (some .int) cX1_takeClub 57 [.iaload, .ireturn] 59 = true := by decide +kernel
theorem bk_X1_takeClub_42 : ck_ fX1 (some .int) cX1_takeClub 42 [.iinc 3 1, .goto 16] 48 = true := by decide +kernel
theorem bk_X1_takeClub_0 : ck_ fX1 (some .int) cX1_takeClub 0 [.aload 0, .tableswitch 0 1 8 #[], .aload 0, .tableswitch 0 1 12 #[], .iconst 0, .iaload, .iaload, .istore 1, .iconst 0, .istore 2, .iconst 0, .istore 3] 16 = true := by decide +kernel
abbrev po_X1_takeClub (T : Zt) : Zt → Option Zv → Prop := fun T' r => ∃ x : Int, r = some (vI x) ∧ fr_ [(101, [5])] T T' ∧ (0 ≤ x ∧ x ≤ 11)
set_option maxHeartbeats 4000000 in
theorem ct_X1_takeClub {T : Zt} : Ct_ yX1_takeClub zX1_takeClub T [vR 101 0] (po_X1_takeClub T) := by
  refine ct_of (by decide) rfl rfl (Nat.le_of_ble_eq_true rfl) (fun hT hav => ?_)
  have hz : zX1_takeClub.2.2.2.1 = some .boolean → ∀ (T' : Zt) (x : Int), po_X1_takeClub T T' (some (vI x)) → 0 ≤ x ∧ x ≤ 1 := fun h => by cases h
  have hwc : 0 ≤ T 101 0 13 ∧ T 101 0 13 ≤ 12 := bd_f hT 101 13 (by decide +kernel : (tf_ 101)[13]? = some (0, 0, 0, 12)) 0
  show J_ zX1_takeClub T (po_X1_takeClub T) 0 0 0 [some (vR 101 0), none, none, none] [] T
  have c_16 : ∀ (nn : Nat) (n : Int) (k : Int) (q : Int), ((12 - k).toNat) ≤ nn → (0 ≤ n ∧ n ≤ k ∧ 0 ≤ k ∧ k ≤ 12) → J_ zX1_takeClub T (po_X1_takeClub T) 0 0 16 [some (vR 101 0), some (vI q), some (vI n), some (vI k)] [] T := by
    intro nn
    induction nn using Nat.strongRecOn with
    | _ nn ih_16 =>
      intro n k q hm_16 i1
      refine j_blk (F := fX1) tb_X1 (by decide) bk_X1_takeClub_16 hz (fun K hK => ?_)
      intro b1 b1b
      refine And.intro (fun c2 => ?_) (fun c2 => ?_)
      · refine hK 48 [some (vR 101 0), some (vI q), some (vI n), some (vI k)] [] T ?_
        refine j_blk (F := fX1) tb_X1 (by decide) bk_X1_takeClub_48 hz (fun K hK => ?_)
        refine hK 54 [some (vR 101 0), some (vI q), some (vI n), some (vI k)] [vI n, vR 101 0, vR 432 0] T ?_
        refine j_callV (y := yX1_takeBelow) (Yc := zX1_takeBelow) (rest := [vR 432 0]) [vI n] (ct_X1_takeBelow (T := T)) cl_X1_75 (by decide +kernel) (by decide) rfl (by decide +kernel) (Nat.le_of_ble_eq_true rfl) (by decide) (by decide) rfl ?_
        rintro U3 _ ⟨x4, rfl, fU3, qU3⟩
        show J_ zX1_takeClub T (po_X1_takeClub T) 0 0 57 [some (vR 101 0), some (vI q), some (vI n), some (vI k)] [vI x4, vR 432 0] U3
        refine j_blk (F := fX1) tb_X1 (by decide) bk_X1_takeClub_57 hz (fun K hK => ?_)
        refine ix_i (by omega) ?_
        intro b5 b5b
        have e6 : U3 432 0 x4 = T 432 0 x4 := fU3 432 0 x4 rfl
        rw [e6] at b5 b5b ⊢
        refine (show po_X1_takeClub T U3 (some (vI (T 432 0 x4))) from ?_)
        exact ⟨_, rfl, fr_t (fr_0 _ _) (fr_s fU3 rfl), by omega⟩
      · refine ix_i (by omega) ?_
        intro b7 b7b
        refine ix_i (by omega) ?_
        intro b8 b8b
        refine And.intro (fun c9 => ?_) (fun c9 => ?_)
        · refine hK 42 [some (vR 101 0), some (vI q), some (vI n), some (vI k)] [] T ?_
          refine j_blk (F := fX1) tb_X1 (by decide) bk_X1_takeClub_42 hz (fun K hK => ?_)
          refine rg_i (by omega) ?_
          refine hK 16 [some (vR 101 0), some (vI q), some (vI n), some (vI (k + 1))] [] T ?_
          refine ih_16 _ ?_ n (k + 1) q (Nat.le_refl _) ?_
          · omega
          · omega
        · refine rg_i (by omega) ?_
          refine rg_i (by omega) ?_
          refine hK 16 [some (vR 101 0), some (vI q), some (vI (n + 1)), some (vI (k + 1))] [] T ?_
          refine ih_16 _ ?_ (n + 1) (k + 1) q (Nat.le_refl _) ?_
          · omega
          · omega
  refine j_blk (F := fX1) tb_X1 (by decide) bk_X1_takeClub_0 hz (fun K hK => ?_)
  refine ix_i (by omega) ?_
  intro b10 b10b
  refine ix_i (by omega) ?_
  intro b11 b11b
  refine hK 16 [some (vR 101 0), some (vI (T 428 0 (T 432 0 0))), some (vI 0), some (vI 0)] [] T ?_
  refine c_16 _ 0 0 (T 428 0 (T 432 0 0)) (Nat.le_refl _) ?_
  · omega
abbrev cX1_place : ByteArray := prog_3_method_8_code
def yX1_place : MethodName := ⟨RX1, "place", "(I)V"⟩
def zX1_place : Zm := (RX1, cX1_place, 5, none, { frames := 1, cells := 0, slots := 0, locals := 27 })
theorem bk_X1_place_14 : ck_ fX1 none cX1_place 14 [.iload 4, .aload 0, .tableswitch 0 1 1 #[], .if_icmp .ge 72, .iload 3, .aload 0, .tableswitch 0 1 11 #[], .iload 1, .iconst 4, .imul, .iload 4, .iadd, .iaload, .fadd, .istore 3, .iload 3, .iload 2, .if_icmp .le 66, .aload 0, .tableswitch 0 1 9 #[], .iload 1, .iload 4, .iastore, .aload 0, .dup, .tableswitch 0 1 4 #[], .iconst 1, .fadd, .tableswitch 1 1 4 #[], .aload 0, .iconst 0, .tableswitch 1 1 7 #[], .return_] 66 = true := by decide +kernel
theorem bk_X1_place_72 : ck_ fX1 none cX1_place 72 [.return_] 73 = true := by decide +kernel
theorem bk_X1_place_66 : ck_ fX1 none cX1_place 66 [.iinc 4 1, .goto 14] 72 = true := by decide +kernel
theorem bk_X1_place_0 : ck_ fX1 none cX1_place 0 [.aload 0, .aload 0, .tableswitch 0 1 6 #[]] 5 = true := by decide +kernel
theorem bk_X1_place_8 : ck_ fX1 none cX1_place 8 [.istore 2, .iconst 0, .istore 3, .iconst 0, .istore 4] 14 = true := by decide +kernel
abbrev po_X1_place (T : Zt) (c : Int) : Zt → Option Zv → Prop := fun T' r => r = none ∧ fr_ [(101, [5, 4, 7]), (429, [])] T T' ∧ (0 = (0 : Int))
set_option maxHeartbeats 4000000 in
theorem ct_X1_place {T : Zt} {c : Int} (h1 : 0 ≤ c ∧ c < 12) : Ct_ yX1_place zX1_place T [vR 101 0, vI c] (po_X1_place T c) := by
  refine ct_of (by decide) rfl rfl (Nat.le_of_ble_eq_true rfl) (fun hT hav => ?_)
  have hr_c : -2147483648 ≤ c ∧ c ≤ 2147483647 := hav (vI c) (by simp)
  have hz : zX1_place.2.2.2.1 = some .boolean → ∀ (T' : Zt) (x : Int), po_X1_place T c T' (some (vI x)) → 0 ≤ x ∧ x ≤ 1 := fun h => by cases h
  have hgr : 0 ≤ T 101 0 1 ∧ T 101 0 1 ≤ 4 := bd_f hT 101 1 (by decide +kernel : (tf_ 101)[1]? = some (0, 0, 0, 4)) 0
  show J_ zX1_place T (po_X1_place T c) 0 0 0 [some (vR 101 0), some (vI c), none, none, none] [] T
  have c_14 : ∀ (nn : Nat) (t : Int) (u : Int) (g : Int) (T1 : Zt), ((4 - g).toNat) ≤ nn → (fr_ [(101, [5])] T T1) → (0 ≤ g) → J_ zX1_place T (po_X1_place T c) 0 0 14 [some (vR 101 0), some (vI c), some (vI t), some (vI u), some (vI g)] [] T1 := by
    intro nn
    induction nn using Nat.strongRecOn with
    | _ nn ih_14 =>
      intro t u g T1 hm_14 hf_14 i1
      refine j_blk (F := fX1) tb_X1 (by decide) bk_X1_place_14 hz (fun K hK => ?_)
      intro b1 b1b
      have e2 : T1 101 0 1 = T 101 0 1 := hf_14 101 0 1 rfl
      rw [e2] at b1 b1b ⊢
      refine And.intro (fun c3 => ?_) (fun c3 => ?_)
      · refine hK 72 [some (vR 101 0), some (vI c), some (vI t), some (vI u), some (vI g)] [] T1 ?_
        refine j_blk (F := fX1) tb_X1 (by decide) bk_X1_place_72 hz (fun K hK => ?_)
        refine (show po_X1_place T c T1 (none) from ?_)
        exact ⟨rfl, fr_t (fr_0 _ _) (fr_s hf_14 rfl), by rfl⟩
      · refine rg_i (by omega) ?_
        refine rg_i (by omega) ?_
        refine ix_i (by omega) ?_
        intro b4 b4b
        have e5 : T1 431 0 ((c * 4) + g) = T 431 0 ((c * 4) + g) := hf_14 431 0 ((c * 4) + g) rfl
        rw [e5] at b4 b4b ⊢
        intro w6 w6b
        refine And.intro (fun c7 => ?_) (fun c7 => ?_)
        · refine hK 66 [some (vR 101 0), some (vI c), some (vI t), some (vI (wr_ (u + (T 431 0 ((c * 4) + g))))), some (vI g)] [] T1 ?_
          refine j_blk (F := fX1) tb_X1 (by decide) bk_X1_place_66 hz (fun K hK => ?_)
          refine rg_i (by omega) ?_
          refine hK 14 [some (vR 101 0), some (vI c), some (vI t), some (vI (wr_ (u + (T 431 0 ((c * 4) + g))))), some (vI (g + 1))] [] T1 ?_
          refine ih_14 _ ?_ t (wr_ (u + (T 431 0 ((c * 4) + g)))) (g + 1) T1 (Nat.le_refl _) ?_ ?_
          · omega
          · exact fr_t (fr_0 _ _) (fr_s hf_14 rfl)
          · omega
        · refine iy_i (by omega) (by omega) ?_
          refine sx_nm (fun U8 hU8 => ?_)
          have e9 := up_f hU8
          intro b10 b10b
          have e11 : U8 101 0 4 = T 101 0 4 := (up_k hU8 (by decide) 0 4).trans (hf_14 101 0 4 rfl)
          rw [e11] at b10 b10b ⊢
          intro w12 w12b
          refine bd_i (by omega) ?_
          refine sx_nm (fun U13 hU13 => ?_)
          have e14 := up_f hU13
          refine bd_i (by omega) ?_
          refine sx_nm (fun U15 hU15 => ?_)
          have e16 := up_f hU15
          refine (show po_X1_place T c U15 (none) from ?_)
          exact ⟨rfl, fr_u (fr_u (fr_u (fr_t (fr_0 _ _) (fr_s hf_14 rfl)) hU8 rfl) hU13 rfl) hU15 rfl, by rfl⟩
  refine j_blk (F := fX1) tb_X1 (by decide) bk_X1_place_0 hz (fun K hK => ?_)
  intro b17 b17b
  refine hK 5 [some (vR 101 0), some (vI c), none, none, none] [vI (T 101 0 6), vR 101 0] T ?_
  refine j_callV (y := yX1_takeBelow) (Yc := zX1_takeBelow) (rest := []) [vI (T 101 0 6)] (ct_X1_takeBelow (T := T)) cl_X1_75 (by decide +kernel) (by decide) rfl (by decide +kernel) (Nat.le_of_ble_eq_true rfl) (by decide) (by decide) rfl ?_
  rintro U18 _ ⟨x19, rfl, fU18, qU18⟩
  show J_ zX1_place T (po_X1_place T c) 0 0 8 [some (vR 101 0), some (vI c), none, none, none] [vI x19] U18
  refine j_blk (F := fX1) tb_X1 (by decide) bk_X1_place_8 hz (fun K hK => ?_)
  refine hK 14 [some (vR 101 0), some (vI c), some (vI x19), some (vI 0), some (vI 0)] [] U18 ?_
  refine c_14 _ x19 0 0 U18 (Nat.le_refl _) ?_ ?_
  · exact fr_t (fr_0 _ _) (fr_s fU18 rfl)
  · omega
