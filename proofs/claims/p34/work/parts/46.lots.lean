theorem us_1c {x : Int} : us_ x 1 = x % 4294967296 / 2 := by
  have a : ((Int32.ofInt x).toUInt32.toBitVec).toNat = (x % 4294967296).toNat := by
    show (BitVec.ofInt 32 x).toNat = _
    rw [BitVec.toNat_ofInt]; rfl
  have s : ((Int32.ofInt 1).toUInt32 &&& Int32.toUInt32 31) = 1 := by decide
  unfold us_
  rw [s]
  have b : (((Int32.ofInt x).toUInt32 >>> (1 : UInt32)).toBitVec).toNat = (x % 4294967296).toNat / 2 := by
    show ((Int32.ofInt x).toUInt32.toBitVec >>> (1 : BitVec 32)).toNat = _
    rw [BitVec.ushiftRight_eq', BitVec.toNat_ushiftRight, a]
    show (x % 4294967296).toNat >>> 1 = _
    rw [Nat.shiftRight_eq_div_pow]
  show (((Int32.ofInt x).toUInt32 >>> (1 : UInt32)).toBitVec).toInt = _
  rw [BitVec.toInt_eq_toNat_cond, b]
  split <;> omega
abbrev cX1_openNew : ByteArray := prog_3_method_2_code
def yX1_openNew : MethodName := ⟨RX1, "openNew", "(II)V"⟩
def zX1_openNew : Zm := (RX1, cX1_openNew, 3, none, { frames := 1, cells := 0, slots := 0, locals := 23 })
theorem bk_X1_openNew_0 : ck_ fX1 none cX1_openNew 0 [.aload 0, .iload 1, .tableswitch 1 1 1 #[], .aload 0, .iload 2, .tableswitch 1 1 2 #[], .aload 0, .iconst 0, .tableswitch 1 1 3 #[], .aload 0, .iconst 0, .tableswitch 1 1 4 #[], .aload 0, .iconst 0, .tableswitch 1 1 7 #[], .aload 0, .tableswitch 0 1 8 #[], .iconst (-1)] 30 = true := qck_r (nn_ _) (by decide +kernel)
theorem bs_X1_openNew_0 {P : Zt → Option Zv → Prop} (K : Int → Zl → List Zv → Zt → Prop) : sx_ K P [.aload 0, .iload 1, .tableswitch 1 1 1 #[], .aload 0, .iload 2, .tableswitch 1 1 2 #[], .aload 0, .iconst 0, .tableswitch 1 1 3 #[], .aload 0, .iconst 0, .tableswitch 1 1 4 #[], .aload 0, .iconst 0, .tableswitch 1 1 7 #[], .aload 0, .tableswitch 0 1 8 #[], .iconst (-1)] 30 = x_aload 0 (x_iload 1 (x_p 101 1 0 4 (x_aload 0 (x_iload 2 (x_p 101 2 0 3 (x_aload 0 (x_iconst 0 (x_p 101 3 (-2147483648) 2147483647 (x_aload 0 (x_iconst 0 (x_p 101 4 (-2147483648) 2147483647 (x_aload 0 (x_iconst 0 (x_p 101 7 0 1 (x_aload 0 (x_g1 101 428 (x_iconst (-1) (K 30)))))))))))))))))) := ((xe_aload 0).trans (congrArg (x_aload 0) ((xe_iload 1).trans (congrArg (x_iload 1) ((xe_p (kk := 101) rfl tl_1_1).trans (congrArg (x_p 101 1 0 4) ((xe_aload 0).trans (congrArg (x_aload 0) ((xe_iload 2).trans (congrArg (x_iload 2) ((xe_p (kk := 101) rfl tl_1_2).trans (congrArg (x_p 101 2 0 3) ((xe_aload 0).trans (congrArg (x_aload 0) ((xe_iconst 0).trans (congrArg (x_iconst 0) ((xe_p (kk := 101) rfl tl_1_3).trans (congrArg (x_p 101 3 (-2147483648) 2147483647) ((xe_aload 0).trans (congrArg (x_aload 0) ((xe_iconst 0).trans (congrArg (x_iconst 0) ((xe_p (kk := 101) rfl tl_1_4).trans (congrArg (x_p 101 4 (-2147483648) 2147483647) ((xe_aload 0).trans (congrArg (x_aload 0) ((xe_iconst 0).trans (congrArg (x_iconst 0) ((xe_p (kk := 101) rfl tl_1_7).trans (congrArg (x_p 101 7 0 1) ((xe_aload 0).trans (congrArg (x_aload 0) ((xe_g1 (kk := 101) rfl tl_1_8).trans (congrArg (x_g1 101 428) ((xe_iconst (-1)).trans (congrArg (x_iconst (-1)) xe_nil))))))))))))))))))))))))))))))))))))
set_option maxRecDepth 100000 in
theorem cl_X1_54 : cs_ RX1 54 yJ7_fill_53178 zJ7_fill_53178 2 := ⟨gi_S (lwq_6 (dqc_m (dqc_m (dqc_m (dqc_m (List.mem_of_getElem? (i := 1) rfl))))) rfl : Cond.methodLink RX1 54 yJ7_fill_53178 ∈ lw_g) (lwq_2 (dqa_m (dqa_m (dqa_m (List.mem_of_getElem? (i := 2) rfl)))) rfl : Cond.static yJ7_fill_53178 ∈ lw_g) (lwq_1 (List.mem_of_getElem? (i := 7) rfl) rfl : Cond.initialized yJ7_fill_53178.cls ∈ lw_g) (lwq_2 (dqa_m (dqa_m (dqa_m (List.mem_of_getElem? (i := 3) rfl)))) rfl : Cond.code yJ7_fill_53178 cJ7_fill_53178 4 none ∈ lw_g), ⟨by decide, by decide, by decide +kernel⟩⟩
theorem bk_X1_openNew_33 : ck_ fX1 none cX1_openNew 33 [.aload 0, .tableswitch 0 1 9 #[], .iconst (-1)] 38 = true := qck_r (nn_ _) (by decide +kernel)
theorem bs_X1_openNew_33 {P : Zt → Option Zv → Prop} (K : Int → Zl → List Zv → Zt → Prop) : sx_ K P [.aload 0, .tableswitch 0 1 9 #[], .iconst (-1)] 38 = x_aload 0 (x_g1 101 429 (x_iconst (-1) (K 38))) := ((xe_aload 0).trans (congrArg (x_aload 0) ((xe_g1 (kk := 101) rfl tl_1_9).trans (congrArg (x_g1 101 429) ((xe_iconst (-1)).trans (congrArg (x_iconst (-1)) xe_nil))))))
theorem bk_X1_openNew_41 : ck_ fX1 none cX1_openNew 41 [.aload 0, .tableswitch 0 1 10 #[], .iconst 0] 46 = true := qck_r (nn_ _) (by decide +kernel)
theorem bs_X1_openNew_41 {P : Zt → Option Zv → Prop} (K : Int → Zl → List Zv → Zt → Prop) : sx_ K P [.aload 0, .tableswitch 0 1 10 #[], .iconst 0] 46 = x_aload 0 (x_g1 101 430 (x_iconst 0 (K 46))) := ((xe_aload 0).trans (congrArg (x_aload 0) ((xe_g1 (kk := 101) rfl tl_1_10).trans (congrArg (x_g1 101 430) ((xe_iconst 0).trans (congrArg (x_iconst 0) xe_nil))))))
theorem bk_X1_openNew_49 : ck_ fX1 none cX1_openNew 49 [.return_] 50 = true := qck_r (nn_ _) (by decide +kernel)
theorem bs_X1_openNew_49 {P : Zt → Option Zv → Prop} (K : Int → Zl → List Zv → Zt → Prop) : sx_ K P [.return_] 50 = x_return_ P := (xe_return_)
abbrev po_X1_openNew (T : Zt) (g l : Int) : Zt → Option Zv → Prop := fun T' r => r = none ∧ fr_ [(101, [1, 2, 3, 4, 7]), (428, []), (429, []), (430, [])] T T' ∧ (T' 101 0 1 = g)
set_option maxHeartbeats 4000000 in
theorem ct_X1_openNew {T : Zt} {g l : Int} (h1 : 0 ≤ g ∧ g ≤ 4) (h2 : 0 ≤ l ∧ l ≤ 3) : Ct_ yX1_openNew zX1_openNew T [vR 101 0, vI g, vI l] (po_X1_openNew T g l) := by
  refine ct_of pn_1 rfl rfl (Nat.le_of_ble_eq_true rfl) (fun hT hav => ?_)
  have hr_g : -2147483648 ≤ g ∧ g ≤ 2147483647 := hav (vI g) (List.mem_cons_of_mem _ List.mem_cons_self)
  have hr_l : -2147483648 ≤ l ∧ l ≤ 2147483647 := hav (vI l) (List.mem_cons_of_mem _ (List.mem_cons_of_mem _ List.mem_cons_self))
  have hz : zX1_openNew.2.2.2.1 = some .boolean → ∀ (T' : Zt) (x : Int), po_X1_openNew T g l T' (some (vI x)) → 0 ≤ x ∧ x ≤ 1 := fun h => by cases h
  show J_ zX1_openNew T (po_X1_openNew T g l) 0 0 0 [some (vR 101 0), some (vI g), some (vI l)] [] T
  refine j_blx (F := fX1) tb_X1 (nn_ _) bk_X1_openNew_0 bs_X1_openNew_0 hz (fun K hK => ?_)
  refine bd_i (by omega) ?_
  refine x_nm (fun U1 hU1 => ?_)
  have e2 := up_f hU1
  refine bd_i (by omega) ?_
  refine x_nm (fun U3 hU3 => ?_)
  have e4 := up_f hU3
  refine bd_i (by omega) ?_
  refine x_nm (fun U5 hU5 => ?_)
  have e6 := up_f hU5
  refine bd_i (by omega) ?_
  refine x_nm (fun U7 hU7 => ?_)
  have e8 := up_f hU7
  refine bd_i (by omega) ?_
  refine x_nm (fun U9 hU9 => ?_)
  have e10 := up_f hU9
  refine hK 30 _ [vI (-1), vR 428 0] U9 ?_
  refine j_callS (y := yJ7_fill_53178) (Yc := zJ7_fill_53178) (rest := []) [vR 428 0, vI (-1)] (ct_J7_fill_428 (T := U9) (by omega)) cl_X1_54 (qd_c (by decide +kernel)) (nn_ _) rfl (rf_of rfl) (Nat.le_of_ble_eq_true rfl) (Nat.le_of_ble_eq_true rfl) (Nat.le_of_ble_eq_true rfl) rfl ?_
  rintro U11 _ ⟨rfl, fU11, qU11o, qU11⟩
  show J_ zX1_openNew T (po_X1_openNew T g l) 0 0 33 _ [] U11
  refine j_blx (F := fX1) tb_X1 (nn_ _) bk_X1_openNew_33 bs_X1_openNew_33 hz (fun K hK => ?_)
  refine hK 38 _ [vI (-1), vR 429 0] U11 ?_
  refine j_callS (y := yJ7_fill_53178) (Yc := zJ7_fill_53178) (rest := []) [vR 429 0, vI (-1)] (ct_J7_fill_429 (T := U11) (by omega)) cl_X1_54 (qd_c (by decide +kernel)) (nn_ _) rfl (rf_of rfl) (Nat.le_of_ble_eq_true rfl) (Nat.le_of_ble_eq_true rfl) (Nat.le_of_ble_eq_true rfl) rfl ?_
  rintro U12 _ ⟨rfl, fU12, qU12o, qU12⟩
  show J_ zX1_openNew T (po_X1_openNew T g l) 0 0 41 _ [] U12
  refine j_blx (F := fX1) tb_X1 (nn_ _) bk_X1_openNew_41 bs_X1_openNew_41 hz (fun K hK => ?_)
  refine hK 46 _ [vI 0, vR 430 0] U12 ?_
  refine j_callS (y := yJ7_fill_53178) (Yc := zJ7_fill_53178) (rest := []) [vR 430 0, vI 0] (ct_J7_fill_430 (T := U12) (by omega)) cl_X1_54 (qd_c (by decide +kernel)) (nn_ _) rfl (rf_of rfl) (Nat.le_of_ble_eq_true rfl) (Nat.le_of_ble_eq_true rfl) (Nat.le_of_ble_eq_true rfl) rfl ?_
  rintro U13 _ ⟨rfl, fU13, qU13o, qU13⟩
  show J_ zX1_openNew T (po_X1_openNew T g l) 0 0 49 _ [] U13
  refine j_blx (F := fX1) tb_X1 (nn_ _) bk_X1_openNew_49 bs_X1_openNew_49 hz (fun K hK => ?_)
  refine (show po_X1_openNew T g l U13 (none) from ?_)
  have e14 : U13 101 0 1 = g := (fU13 101 0 1 rfl).trans ((fU12 101 0 1 rfl).trans ((fU11 101 0 1 rfl).trans ((up_j hU9 (by exact ni_ rfl) 101 0).trans ((up_j hU7 (by exact ni_ rfl) 101 0).trans ((up_j hU5 (by exact ni_ rfl) 101 0).trans ((up_j hU3 (by exact ni_ rfl) 101 0).trans (up_f hU1)))))))
  exact ⟨rfl, fr_t (fr_t (fr_t (fr_u (fr_u (fr_u (fr_u (fr_u (fr_0 _ _) hU1 rfl) hU3 rfl) hU5 rfl) hU7 rfl) hU9 rfl) (fr_s fU11 rfl)) (fr_s fU12 rfl)) (fr_s fU13 rfl), by omega⟩
abbrev cX10_drawing : ByteArray := prog_1_method_36_code
def yX10_drawing : MethodName := ⟨RX10, "drawing", "(II)I"⟩
def zX10_drawing : Zm := (RX10, cX10_drawing, 3, (some .int), { frames := 2, cells := 0, slots := 0, locals := 45 })
theorem bk_X10_drawing_0 : ck_ fX10 (some .int) cX10_drawing 0 [.iload 1, .iconst 1, .if_icmp .lt 20, .iload 1, .iconst 4, .if_icmp .gt 20, .iload 2, .iconst 1, .if_icmp .lt 20, .iload 2, .iconst 3, .if_icmp .le 23, .iconst (-3), .ireturn] 23 = true := qck_r (nn_ _) (by decide +kernel)
theorem bs_X10_drawing_0 {P : Zt → Option Zv → Prop} (K : Int → Zl → List Zv → Zt → Prop) : sx_ K P [.iload 1, .iconst 1, .if_icmp .lt 20, .iload 1, .iconst 4, .if_icmp .gt 20, .iload 2, .iconst 1, .if_icmp .lt 20, .iload 2, .iconst 3, .if_icmp .le 23, .iconst (-3), .ireturn] 23 = x_iload 1 (x_iconst 1 (x_if_icmp .lt 20 K (x_iload 1 (x_iconst 4 (x_if_icmp .gt 20 K (x_iload 2 (x_iconst 1 (x_if_icmp .lt 20 K (x_iload 2 (x_iconst 3 (x_if_icmp .le 23 K (x_iconst (-3) (x_ireturn P))))))))))))) := ((xe_iload 1).trans (congrArg (x_iload 1) ((xe_iconst 1).trans (congrArg (x_iconst 1) ((xe_if_icmp .lt 20).trans (congrArg (x_if_icmp .lt 20 K) ((xe_iload 1).trans (congrArg (x_iload 1) ((xe_iconst 4).trans (congrArg (x_iconst 4) ((xe_if_icmp .gt 20).trans (congrArg (x_if_icmp .gt 20 K) ((xe_iload 2).trans (congrArg (x_iload 2) ((xe_iconst 1).trans (congrArg (x_iconst 1) ((xe_if_icmp .lt 20).trans (congrArg (x_if_icmp .lt 20 K) ((xe_iload 2).trans (congrArg (x_iload 2) ((xe_iconst 3).trans (congrArg (x_iconst 3) ((xe_if_icmp .le 23).trans (congrArg (x_if_icmp .le 23 K) ((xe_iconst (-3)).trans (congrArg (x_iconst (-3)) (xe_ireturn)))))))))))))))))))))))))))
theorem bk_X10_drawing_20 : ck_ fX10 (some .int) cX10_drawing 20 [.iconst (-3), .ireturn] 23 = true := qck_r (nn_ _) (by decide +kernel)
theorem bs_X10_drawing_20 {P : Zt → Option Zv → Prop} (K : Int → Zl → List Zv → Zt → Prop) : sx_ K P [.iconst (-3), .ireturn] 23 = x_iconst (-3) (x_ireturn P) := ((xe_iconst (-3)).trans (congrArg (x_iconst (-3)) (xe_ireturn)))
theorem bk_X10_drawing_23 : ck_ fX10 (some .int) cX10_drawing 23 [.aload 0, .tableswitch 0 10 5 #[], .iload 1, .iload 2] 29 = true := qck_r (nn_ _) (by decide +kernel)
theorem bs_X10_drawing_23 {P : Zt → Option Zv → Prop} (K : Int → Zl → List Zv → Zt → Prop) : sx_ K P [.aload 0, .tableswitch 0 10 5 #[], .iload 1, .iload 2] 29 = x_aload 0 (x_g1 110 101 (x_iload 1 (x_iload 2 (K 29)))) := ((xe_aload 0).trans (congrArg (x_aload 0) ((xe_g1 (kk := 110) rfl tl_10_5).trans (congrArg (x_g1 110 101) ((xe_iload 1).trans (congrArg (x_iload 1) ((xe_iload 2).trans (congrArg (x_iload 2) xe_nil))))))))
set_option maxRecDepth 100000 in
theorem cl_X10_380 : cv_ RX10 380 yX1_openNew zX1_openNew 1 2 := ⟨gi_V (lwq_6 (dqc_m (dqc_m (dqc_m (dqa_m (dqa_m (dqa_m (List.mem_of_getElem? (i := 5) rfl))))))) rfl : Cond.methodLink RX10 380 yX1_openNew ∈ lw_g) (lwq_6 (dqc_m (dqc_m (dqc_m (dqa_m (dqa_m (dqa_m (List.mem_of_getElem? (i := 6) rfl))))))) rfl : Cond.instanceMethod yX1_openNew ∈ lw_g) (lwq_6 (dqc_m (dqc_m (dqc_m (dqa_m (dqa_m (dqa_m (List.mem_of_getElem? (i := 7) rfl))))))) rfl : Cond.selects yX1_openNew.cls yX1_openNew yX1_openNew ∈ lw_g) (lwq_1 (dqa_m (List.mem_of_getElem? (i := 0) rfl)) rfl : Cond.initialized yX1_openNew.cls ∈ lw_g) (lwq_6 (dqc_m (dqc_m (dqc_m (dqc_m (List.mem_of_getElem? (i := 0) rfl))))) rfl : Cond.code yX1_openNew cX1_openNew 3 none ∈ lw_g), ⟨nmh_2.1, nmh_2.2, pdq_0⟩, ⟨_, _, rfl⟩⟩
theorem bk_X10_drawing_32 : ck_ fX10 (some .int) cX10_drawing 32 [.iconst 1, .ireturn] 34 = true := qck_r (nn_ _) (by decide +kernel)
theorem bs_X10_drawing_32 {P : Zt → Option Zv → Prop} (K : Int → Zl → List Zv → Zt → Prop) : sx_ K P [.iconst 1, .ireturn] 34 = x_iconst 1 (x_ireturn P) := ((xe_iconst 1).trans (congrArg (x_iconst 1) (xe_ireturn)))
abbrev po_X10_drawing (T : Zt) (g l : Int) : Zt → Option Zv → Prop := fun T' r => ∃ x : Int, r = some (vI x) ∧ fr_ [(101, [1, 2, 3, 4, 7]), (428, []), (429, []), (430, [])] T T' ∧ ((x = -3 ∧ ¬ (1 ≤ g ∧ g ≤ 4 ∧ 1 ≤ l ∧ l ≤ 3)) ∨ (x = 1 ∧ 1 ≤ g ∧ g ≤ 4 ∧ 1 ≤ l ∧ l ≤ 3))
set_option maxHeartbeats 4000000 in
theorem ct_X10_drawing {T : Zt} {g l : Int} : Ct_ yX10_drawing zX10_drawing T [vR 110 0, vI g, vI l] (po_X10_drawing T g l) := by
  refine ct_of pn_10 rfl rfl (Nat.le_of_ble_eq_true rfl) (fun hT hav => ?_)
  have hr_g : -2147483648 ≤ g ∧ g ≤ 2147483647 := hav (vI g) (List.mem_cons_of_mem _ List.mem_cons_self)
  have hr_l : -2147483648 ≤ l ∧ l ≤ 2147483647 := hav (vI l) (List.mem_cons_of_mem _ (List.mem_cons_of_mem _ List.mem_cons_self))
  have hz : zX10_drawing.2.2.2.1 = some .boolean → ∀ (T' : Zt) (x : Int), po_X10_drawing T g l T' (some (vI x)) → 0 ≤ x ∧ x ≤ 1 := fun h => by cases h
  show J_ zX10_drawing T (po_X10_drawing T g l) 0 0 0 [some (vR 110 0), some (vI g), some (vI l)] [] T
  refine j_blx (F := fX10) tb_X10 (nn_ _) bk_X10_drawing_0 bs_X10_drawing_0 hz (fun K hK => ?_)
  refine And.intro (fun c1 => ?_) (fun c1 => ?_)
  · refine hK 20 _ [] T ?_
    refine j_blx (F := fX10) tb_X10 (nn_ _) bk_X10_drawing_20 bs_X10_drawing_20 hz (fun K hK => ?_)
    refine (show po_X10_drawing T g l T (some (vI (-3))) from ?_)
    exact ⟨_, rfl, fr_0 _ _, by omega⟩
  · refine And.intro (fun c2 => ?_) (fun c2 => ?_)
    · refine hK 20 _ [] T ?_
      refine j_blx (F := fX10) tb_X10 (nn_ _) bk_X10_drawing_20 bs_X10_drawing_20 hz (fun K hK => ?_)
      refine (show po_X10_drawing T g l T (some (vI (-3))) from ?_)
      exact ⟨_, rfl, fr_0 _ _, by omega⟩
    · refine And.intro (fun c3 => ?_) (fun c3 => ?_)
      · refine hK 20 _ [] T ?_
        refine j_blx (F := fX10) tb_X10 (nn_ _) bk_X10_drawing_20 bs_X10_drawing_20 hz (fun K hK => ?_)
        refine (show po_X10_drawing T g l T (some (vI (-3))) from ?_)
        exact ⟨_, rfl, fr_0 _ _, by omega⟩
      · refine And.intro (fun c4 => ?_) (fun c4 => ?_)
        · refine hK 23 _ [] T ?_
          refine j_blx (F := fX10) tb_X10 (nn_ _) bk_X10_drawing_23 bs_X10_drawing_23 hz (fun K hK => ?_)
          refine hK 29 _ [vI l, vI g, vR 101 0] T ?_
          refine j_callV (y := yX1_openNew) (Yc := zX1_openNew) (rest := []) [vI g, vI l] (ct_X1_openNew (T := T) (by omega) (by omega)) cl_X10_380 (qd_c (by decide +kernel)) (nn_ _) rfl (rf_of rfl) (Nat.le_of_ble_eq_true rfl) (Nat.le_of_ble_eq_true rfl) (Nat.le_of_ble_eq_true rfl) rfl ?_
          rintro U5 _ ⟨rfl, fU5, qU5⟩
          show J_ zX10_drawing T (po_X10_drawing T g l) 0 0 32 _ [] U5
          refine j_blx (F := fX10) tb_X10 (nn_ _) bk_X10_drawing_32 bs_X10_drawing_32 hz (fun K hK => ?_)
          refine (show po_X10_drawing T g l U5 (some (vI 1)) from ?_)
          exact ⟨_, rfl, fr_t (fr_0 _ _) (fr_s fU5 rfl), by omega⟩
        · refine (show po_X10_drawing T g l T (some (vI (-3))) from ?_)
          exact ⟨_, rfl, fr_0 _ _, by omega⟩
abbrev cX1_putIn : ByteArray := prog_3_method_3_code
def yX1_putIn : MethodName := ⟨RX1, "putIn", "(II)V"⟩
def zX1_putIn : Zm := (RX1, cX1_putIn, 3, none, { frames := 0, cells := 0, slots := 0, locals := 0 })
theorem bk_X1_putIn_0 : ck_ fX1 none cX1_putIn 0 [.aload 0, .tableswitch 0 1 8 #[], .iload 1, .iload 2, .iastore, .aload 0, .tableswitch 0 1 10 #[], .iload 2, .dup2, .iaload, .iconst 1, .iadd, .iastore, .aload 0, .dup, .tableswitch 0 1 3 #[], .iconst 1, .fadd, .tableswitch 1 1 3 #[], .aload 0, .iconst 0, .tableswitch 1 1 7 #[], .return_] 33 = true := qck_r (nn_ _) (by decide +kernel)
theorem bs_X1_putIn_0 {P : Zt → Option Zv → Prop} (K : Int → Zl → List Zv → Zt → Prop) : sx_ K P [.aload 0, .tableswitch 0 1 8 #[], .iload 1, .iload 2, .iastore, .aload 0, .tableswitch 0 1 10 #[], .iload 2, .dup2, .iaload, .iconst 1, .iadd, .iastore, .aload 0, .dup, .tableswitch 0 1 3 #[], .iconst 1, .fadd, .tableswitch 1 1 3 #[], .aload 0, .iconst 0, .tableswitch 1 1 7 #[], .return_] 33 = x_aload 0 (x_g1 101 428 (x_iload 1 (x_iload 2 (x_iastore (x_aload 0 (x_g1 101 430 (x_iload 2 (x_dup2 (x_iaload (x_iconst 1 (x_iadd (x_iastore (x_aload 0 (x_dup (x_g0 101 3 (-2147483648) 2147483647 (x_iconst 1 (x_fadd (x_p 101 3 (-2147483648) 2147483647 (x_aload 0 (x_iconst 0 (x_p 101 7 0 1 (x_return_ P)))))))))))))))))))))) := ((xe_aload 0).trans (congrArg (x_aload 0) ((xe_g1 (kk := 101) rfl tl_1_8).trans (congrArg (x_g1 101 428) ((xe_iload 1).trans (congrArg (x_iload 1) ((xe_iload 2).trans (congrArg (x_iload 2) ((xe_iastore).trans (congrArg (x_iastore) ((xe_aload 0).trans (congrArg (x_aload 0) ((xe_g1 (kk := 101) rfl tl_1_10).trans (congrArg (x_g1 101 430) ((xe_iload 2).trans (congrArg (x_iload 2) ((xe_dup2).trans (congrArg (x_dup2) ((xe_iaload).trans (congrArg (x_iaload) ((xe_iconst 1).trans (congrArg (x_iconst 1) ((xe_iadd).trans (congrArg (x_iadd) ((xe_iastore).trans (congrArg (x_iastore) ((xe_aload 0).trans (congrArg (x_aload 0) ((xe_dup).trans (congrArg (x_dup) ((xe_g0 (kk := 101) rfl tl_1_3).trans (congrArg (x_g0 101 3 (-2147483648) 2147483647) ((xe_iconst 1).trans (congrArg (x_iconst 1) ((xe_fadd).trans (congrArg (x_fadd) ((xe_p (kk := 101) rfl tl_1_3).trans (congrArg (x_p 101 3 (-2147483648) 2147483647) ((xe_aload 0).trans (congrArg (x_aload 0) ((xe_iconst 0).trans (congrArg (x_iconst 0) ((xe_p (kk := 101) rfl tl_1_7).trans (congrArg (x_p 101 7 0 1) (xe_return_)))))))))))))))))))))))))))))))))))))))))))))
abbrev po_X1_putIn (T : Zt) (c k : Int) : Zt → Option Zv → Prop := fun T' r => r = none ∧ fr_ [(428, []), (430, []), (101, [3, 7])] T T' ∧ (0 = (0 : Int))
set_option maxHeartbeats 4000000 in
theorem ct_X1_putIn {T : Zt} {c k : Int} (h1 : 0 ≤ c ∧ c < 12) (h2 : 0 ≤ k ∧ k ≤ 2) (h3 : T 430 0 k < 4) : Ct_ yX1_putIn zX1_putIn T [vR 101 0, vI c, vI k] (po_X1_putIn T c k) := by
  refine ct_of pn_1 rfl rfl (Nat.le_of_ble_eq_true rfl) (fun hT hav => ?_)
  have hr_c : -2147483648 ≤ c ∧ c ≤ 2147483647 := hav (vI c) (List.mem_cons_of_mem _ List.mem_cons_self)
  have hr_k : -2147483648 ≤ k ∧ k ≤ 2147483647 := hav (vI k) (List.mem_cons_of_mem _ (List.mem_cons_of_mem _ List.mem_cons_self))
  have hz : zX1_putIn.2.2.2.1 = some .boolean → ∀ (T' : Zt) (x : Int), po_X1_putIn T c k T' (some (vI x)) → 0 ≤ x ∧ x ≤ 1 := fun h => by cases h
  have hps : 0 ≤ T 430 0 k ∧ T 430 0 k ≤ 4 := bd_a hT 430 (by decide +kernel : ta_ 430 = some (1, some 3, 0, 4)) 0 (by omega)
  show J_ zX1_putIn T (po_X1_putIn T c k) 0 0 0 [some (vR 101 0), some (vI c), some (vI k)] [] T
  refine j_blx (F := fX1) tb_X1 (nn_ _) bk_X1_putIn_0 bs_X1_putIn_0 hz (fun K hK => ?_)
  refine iy_i (by omega) (by omega) ?_
  refine x_nm (fun U1 hU1 => ?_)
  have e2 := up_f hU1
  refine ix_i (by omega) ?_
  intro b3 b3b
  have e4 : U1 430 0 k = T 430 0 k := up_k hU1 (by exact Nat.ne_of_beq_eq_false rfl) 0 k
  rw [e4] at b3 b3b ⊢
  refine rg_i (by omega) ?_
  refine iy_i (by omega) (by omega) ?_
  refine x_nm (fun U5 hU5 => ?_)
  have e6 := up_f hU5
  intro b7 b7b
  have e8 : U5 101 0 3 = T 101 0 3 := (up_k hU5 (by exact Nat.ne_of_beq_eq_false rfl) 0 3).trans (up_k hU1 (by exact Nat.ne_of_beq_eq_false rfl) 0 3)
  rw [e8] at b7 b7b ⊢
  intro w9 w9b
  refine bd_i (by omega) ?_
  refine x_nm (fun U10 hU10 => ?_)
  have e11 := up_f hU10
  refine bd_i (by omega) ?_
  refine x_nm (fun U12 hU12 => ?_)
  have e13 := up_f hU12
  refine (show po_X1_putIn T c k U12 (none) from ?_)
  exact ⟨rfl, fr_u (fr_u (fr_u (fr_u (fr_0 _ _) hU1 rfl) hU5 rfl) hU10 rfl) hU12 rfl, by rfl⟩
abbrev cX10_pot : ByteArray := prog_1_method_37_code
def yX10_pot : MethodName := ⟨RX10, "pot", "(II)I"⟩
def zX10_pot : Zm := (RX10, cX10_pot, 3, (some .int), { frames := 2, cells := 0, slots := 0, locals := 42 })
theorem bk_X10_pot_0 : ck_ fX10 (some .int) cX10_pot 0 [.aload 0, .iload 1] 2 = true := qck_r (nn_ _) (by decide +kernel)
theorem bs_X10_pot_0 {P : Zt → Option Zv → Prop} (K : Int → Zl → List Zv → Zt → Prop) : sx_ K P [.aload 0, .iload 1] 2 = x_aload 0 (x_iload 1 (K 2)) := ((xe_aload 0).trans (congrArg (x_aload 0) ((xe_iload 1).trans (congrArg (x_iload 1) xe_nil))))
theorem bk_X10_pot_5 : ck_ fX10 (some .int) cX10_pot 5 [.ifCond .ne 11, .iconst (-2), .ireturn] 11 = true := qck_r (nn_ _) (by decide +kernel)
theorem bs_X10_pot_5 {P : Zt → Option Zv → Prop} (K : Int → Zl → List Zv → Zt → Prop) : sx_ K P [.ifCond .ne 11, .iconst (-2), .ireturn] 11 = x_ifCond .ne 11 K (x_iconst (-2) (x_ireturn P)) := ((xe_ifCond .ne 11).trans (congrArg (x_ifCond .ne 11 K) ((xe_iconst (-2)).trans (congrArg (x_iconst (-2)) (xe_ireturn)))))
theorem bk_X10_pot_11 : ck_ fX10 (some .int) cX10_pot 11 [.iload 2, .ifCond .lt 20, .iload 2, .iconst 3, .if_icmp .lt 23, .iconst (-3), .ireturn] 23 = true := qck_r (nn_ _) (by decide +kernel)
theorem bs_X10_pot_11 {P : Zt → Option Zv → Prop} (K : Int → Zl → List Zv → Zt → Prop) : sx_ K P [.iload 2, .ifCond .lt 20, .iload 2, .iconst 3, .if_icmp .lt 23, .iconst (-3), .ireturn] 23 = x_iload 2 (x_ifCond .lt 20 K (x_iload 2 (x_iconst 3 (x_if_icmp .lt 23 K (x_iconst (-3) (x_ireturn P)))))) := ((xe_iload 2).trans (congrArg (x_iload 2) ((xe_ifCond .lt 20).trans (congrArg (x_ifCond .lt 20 K) ((xe_iload 2).trans (congrArg (x_iload 2) ((xe_iconst 3).trans (congrArg (x_iconst 3) ((xe_if_icmp .lt 23).trans (congrArg (x_if_icmp .lt 23 K) ((xe_iconst (-3)).trans (congrArg (x_iconst (-3)) (xe_ireturn)))))))))))))
theorem bk_X10_pot_20 : ck_ fX10 (some .int) cX10_pot 20 [.iconst (-3), .ireturn] 23 = true := qck_r (nn_ _) (by decide +kernel)
theorem bs_X10_pot_20 {P : Zt → Option Zv → Prop} (K : Int → Zl → List Zv → Zt → Prop) : sx_ K P [.iconst (-3), .ireturn] 23 = x_iconst (-3) (x_ireturn P) := ((xe_iconst (-3)).trans (congrArg (x_iconst (-3)) (xe_ireturn)))
theorem bk_X10_pot_23 : ck_ fX10 (some .int) cX10_pot 23 [.aload 0, .tableswitch 0 10 5 #[], .tableswitch 0 1 1 #[], .ifCond .eq 56, .aload 0, .tableswitch 0 10 5 #[], .tableswitch 0 1 8 #[], .iload 1, .iaload, .iconst (-1), .if_icmp .ne 56, .aload 0, .tableswitch 0 10 5 #[], .tableswitch 0 1 4 #[], .ifCond .le 59, .iconst (-4), .ireturn] 59 = true := qck_r (nn_ _) (by decide +kernel)
theorem bs_X10_pot_23 {P : Zt → Option Zv → Prop} (K : Int → Zl → List Zv → Zt → Prop) : sx_ K P [.aload 0, .tableswitch 0 10 5 #[], .tableswitch 0 1 1 #[], .ifCond .eq 56, .aload 0, .tableswitch 0 10 5 #[], .tableswitch 0 1 8 #[], .iload 1, .iaload, .iconst (-1), .if_icmp .ne 56, .aload 0, .tableswitch 0 10 5 #[], .tableswitch 0 1 4 #[], .ifCond .le 59, .iconst (-4), .ireturn] 59 = x_aload 0 (x_g1 110 101 (x_g0 101 1 0 4 (x_ifCond .eq 56 K (x_aload 0 (x_g1 110 101 (x_g1 101 428 (x_iload 1 (x_iaload (x_iconst (-1) (x_if_icmp .ne 56 K (x_aload 0 (x_g1 110 101 (x_g0 101 4 (-2147483648) 2147483647 (x_ifCond .le 59 K (x_iconst (-4) (x_ireturn P)))))))))))))))) := ((xe_aload 0).trans (congrArg (x_aload 0) ((xe_g1 (kk := 110) rfl tl_10_5).trans (congrArg (x_g1 110 101) ((xe_g0 (kk := 101) rfl tl_1_1).trans (congrArg (x_g0 101 1 0 4) ((xe_ifCond .eq 56).trans (congrArg (x_ifCond .eq 56 K) ((xe_aload 0).trans (congrArg (x_aload 0) ((xe_g1 (kk := 110) rfl tl_10_5).trans (congrArg (x_g1 110 101) ((xe_g1 (kk := 101) rfl tl_1_8).trans (congrArg (x_g1 101 428) ((xe_iload 1).trans (congrArg (x_iload 1) ((xe_iaload).trans (congrArg (x_iaload) ((xe_iconst (-1)).trans (congrArg (x_iconst (-1)) ((xe_if_icmp .ne 56).trans (congrArg (x_if_icmp .ne 56 K) ((xe_aload 0).trans (congrArg (x_aload 0) ((xe_g1 (kk := 110) rfl tl_10_5).trans (congrArg (x_g1 110 101) ((xe_g0 (kk := 101) rfl tl_1_4).trans (congrArg (x_g0 101 4 (-2147483648) 2147483647) ((xe_ifCond .le 59).trans (congrArg (x_ifCond .le 59 K) ((xe_iconst (-4)).trans (congrArg (x_iconst (-4)) (xe_ireturn)))))))))))))))))))))))))))))))))
theorem bk_X10_pot_56 : ck_ fX10 (some .int) cX10_pot 56 [.iconst (-4), .ireturn] 59 = true := qck_r (nn_ _) (by decide +kernel)
theorem bs_X10_pot_56 {P : Zt → Option Zv → Prop} (K : Int → Zl → List Zv → Zt → Prop) : sx_ K P [.iconst (-4), .ireturn] 59 = x_iconst (-4) (x_ireturn P) := ((xe_iconst (-4)).trans (congrArg (x_iconst (-4)) (xe_ireturn)))
theorem bk_X10_pot_59 : ck_ fX10 (some .int) cX10_pot 59 [.aload 0, .tableswitch 0 10 5 #[], .tableswitch 0 1 10 #[], .iload 2, .iaload, .aload 0, .tableswitch 0 10 5 #[], .tableswitch 0 1 1 #[], .if_icmp .lt 81, .iconst (-5), .ireturn] 81 = true := qck_r (nn_ _) (by decide +kernel)
theorem bs_X10_pot_59 {P : Zt → Option Zv → Prop} (K : Int → Zl → List Zv → Zt → Prop) : sx_ K P [.aload 0, .tableswitch 0 10 5 #[], .tableswitch 0 1 10 #[], .iload 2, .iaload, .aload 0, .tableswitch 0 10 5 #[], .tableswitch 0 1 1 #[], .if_icmp .lt 81, .iconst (-5), .ireturn] 81 = x_aload 0 (x_g1 110 101 (x_g1 101 430 (x_iload 2 (x_iaload (x_aload 0 (x_g1 110 101 (x_g0 101 1 0 4 (x_if_icmp .lt 81 K (x_iconst (-5) (x_ireturn P)))))))))) := ((xe_aload 0).trans (congrArg (x_aload 0) ((xe_g1 (kk := 110) rfl tl_10_5).trans (congrArg (x_g1 110 101) ((xe_g1 (kk := 101) rfl tl_1_10).trans (congrArg (x_g1 101 430) ((xe_iload 2).trans (congrArg (x_iload 2) ((xe_iaload).trans (congrArg (x_iaload) ((xe_aload 0).trans (congrArg (x_aload 0) ((xe_g1 (kk := 110) rfl tl_10_5).trans (congrArg (x_g1 110 101) ((xe_g0 (kk := 101) rfl tl_1_1).trans (congrArg (x_g0 101 1 0 4) ((xe_if_icmp .lt 81).trans (congrArg (x_if_icmp .lt 81 K) ((xe_iconst (-5)).trans (congrArg (x_iconst (-5)) (xe_ireturn)))))))))))))))))))))
theorem bk_X10_pot_81 : ck_ fX10 (some .int) cX10_pot 81 [.aload 0, .tableswitch 0 10 5 #[], .iload 1, .iload 2] 87 = true := qck_r (nn_ _) (by decide +kernel)
theorem bs_X10_pot_81 {P : Zt → Option Zv → Prop} (K : Int → Zl → List Zv → Zt → Prop) : sx_ K P [.aload 0, .tableswitch 0 10 5 #[], .iload 1, .iload 2] 87 = x_aload 0 (x_g1 110 101 (x_iload 1 (x_iload 2 (K 87)))) := ((xe_aload 0).trans (congrArg (x_aload 0) ((xe_g1 (kk := 110) rfl tl_10_5).trans (congrArg (x_g1 110 101) ((xe_iload 1).trans (congrArg (x_iload 1) ((xe_iload 2).trans (congrArg (x_iload 2) xe_nil))))))))
set_option maxRecDepth 100000 in
theorem cl_X10_396 : cv_ RX10 396 yX1_putIn zX1_putIn 1 2 := ⟨gi_V (lwq_6 (dqc_m (dqc_m (dqc_m (dqc_m (List.mem_of_getElem? (i := 6) rfl))))) rfl : Cond.methodLink RX10 396 yX1_putIn ∈ lw_g) (lwq_6 (dqc_m (dqc_m (dqc_m (dqc_m (List.mem_of_getElem? (i := 7) rfl))))) rfl : Cond.instanceMethod yX1_putIn ∈ lw_g) (lwq_6 (dqc_m (dqc_m (dqc_m (dqc_m (dqa_m (List.mem_of_getElem? (i := 0) rfl)))))) rfl : Cond.selects yX1_putIn.cls yX1_putIn yX1_putIn ∈ lw_g) (lwq_1 (dqa_m (List.mem_of_getElem? (i := 0) rfl)) rfl : Cond.initialized yX1_putIn.cls ∈ lw_g) (lwq_6 (dqc_m (dqc_m (dqc_m (dqc_m (dqa_m (List.mem_of_getElem? (i := 1) rfl)))))) rfl : Cond.code yX1_putIn cX1_putIn 3 none ∈ lw_g), ⟨nmh_2.1, nmh_2.2, pdq_0⟩, ⟨_, _, rfl⟩⟩
theorem bk_X10_pot_90 : ck_ fX10 (some .int) cX10_pot 90 [.aload 0, .tableswitch 0 10 5 #[], .tableswitch 0 1 10 #[], .iload 2, .iaload, .ireturn] 100 = true := qck_r (nn_ _) (by decide +kernel)
theorem bs_X10_pot_90 {P : Zt → Option Zv → Prop} (K : Int → Zl → List Zv → Zt → Prop) : sx_ K P [.aload 0, .tableswitch 0 10 5 #[], .tableswitch 0 1 10 #[], .iload 2, .iaload, .ireturn] 100 = x_aload 0 (x_g1 110 101 (x_g1 101 430 (x_iload 2 (x_iaload (x_ireturn P))))) := ((xe_aload 0).trans (congrArg (x_aload 0) ((xe_g1 (kk := 110) rfl tl_10_5).trans (congrArg (x_g1 110 101) ((xe_g1 (kk := 101) rfl tl_1_10).trans (congrArg (x_g1 101 430) ((xe_iload 2).trans (congrArg (x_iload 2) ((xe_iaload).trans (congrArg (x_iaload) (xe_ireturn)))))))))))
abbrev po_X10_pot (T : Zt) (c k : Int) : Zt → Option Zv → Prop := fun T' r => ∃ x : Int, r = some (vI x) ∧ fr_ [(428, []), (430, []), (101, [3, 7])] T T' ∧ (x = x)
set_option maxHeartbeats 4000000 in
theorem ct_X10_pot {T : Zt} {c k : Int} : Ct_ yX10_pot zX10_pot T [vR 110 0, vI c, vI k] (po_X10_pot T c k) := by
  refine ct_of pn_10 rfl rfl (Nat.le_of_ble_eq_true rfl) (fun hT hav => ?_)
  have hr_c : -2147483648 ≤ c ∧ c ≤ 2147483647 := hav (vI c) (List.mem_cons_of_mem _ List.mem_cons_self)
  have hr_k : -2147483648 ≤ k ∧ k ≤ 2147483647 := hav (vI k) (List.mem_cons_of_mem _ (List.mem_cons_of_mem _ List.mem_cons_self))
  have hz : zX10_pot.2.2.2.1 = some .boolean → ∀ (T' : Zt) (x : Int), po_X10_pot T c k T' (some (vI x)) → 0 ≤ x ∧ x ≤ 1 := fun h => by cases h
  have hb_clubs : 0 ≤ T 108 0 2 ∧ T 108 0 2 ≤ 12 := bd_f hT 108 2 tl_8_2 0
  have hgr : 0 ≤ T 101 0 1 ∧ T 101 0 1 ≤ 4 := bd_f hT 101 1 tl_1_1 0
  show J_ zX10_pot T (po_X10_pot T c k) 0 0 0 [some (vR 110 0), some (vI c), some (vI k)] [] T
  refine j_blx (F := fX10) tb_X10 (nn_ _) bk_X10_pot_0 bs_X10_pot_0 hz (fun K hK => ?_)
  refine hK 2 _ [vI c, vR 110 0] T ?_
  refine j_callV (y := yX10_isClub) (Yc := zX10_isClub) (rest := []) [vI c] (ct_X10_isClub (T := T)) cl_X10_137 (qd_c (by decide +kernel)) (nn_ _) rfl (rf_of rfl) (Nat.le_of_ble_eq_true rfl) (Nat.le_of_ble_eq_true rfl) (Nat.le_of_ble_eq_true rfl) rfl ?_
  rintro _ _ ⟨rfl, x1, rfl, hx1⟩
  show J_ zX10_pot T (po_X10_pot T c k) 0 0 5 _ [vI x1] T
  refine j_blx (F := fX10) tb_X10 (nn_ _) bk_X10_pot_5 bs_X10_pot_5 hz (fun K hK => ?_)
  refine And.intro (fun c2 => ?_) (fun c2 => ?_)
  · replace hx1 := hx1.resolve_right (fun z => c2 z.1)
    clear c2
    refine hK 11 _ [] T ?_
    refine j_blx (F := fX10) tb_X10 (nn_ _) bk_X10_pot_11 bs_X10_pot_11 hz (fun K hK => ?_)
    refine And.intro (fun c3 => ?_) (fun c3 => ?_)
    · refine hK 20 _ [] T ?_
      refine j_blx (F := fX10) tb_X10 (nn_ _) bk_X10_pot_20 bs_X10_pot_20 hz (fun K hK => ?_)
      refine (show po_X10_pot T c k T (some (vI (-3))) from ?_)
      exact ⟨_, rfl, fr_0 _ _, by rfl⟩
    · refine And.intro (fun c4 => ?_) (fun c4 => ?_)
      · refine hK 23 _ [] T ?_
        refine j_blx (F := fX10) tb_X10 (nn_ _) bk_X10_pot_23 bs_X10_pot_23 hz (fun K hK => ?_)
        intro b5 b5b
        refine And.intro (fun c6 => ?_) (fun c6 => ?_)
        · refine hK 56 _ [] T ?_
          refine j_blx (F := fX10) tb_X10 (nn_ _) bk_X10_pot_56 bs_X10_pot_56 hz (fun K hK => ?_)
          refine (show po_X10_pot T c k T (some (vI (-4))) from ?_)
          exact ⟨_, rfl, fr_0 _ _, by rfl⟩
        · refine ix_i (by omega) ?_
          intro b7 b7b
          refine And.intro (fun c8 => ?_) (fun c8 => ?_)
          · refine hK 56 _ [] T ?_
            refine j_blx (F := fX10) tb_X10 (nn_ _) bk_X10_pot_56 bs_X10_pot_56 hz (fun K hK => ?_)
            refine (show po_X10_pot T c k T (some (vI (-4))) from ?_)
            exact ⟨_, rfl, fr_0 _ _, by rfl⟩
          · intro b9 b9b
            refine And.intro (fun c10 => ?_) (fun c10 => ?_)
            · refine hK 59 _ [] T ?_
              refine j_blx (F := fX10) tb_X10 (nn_ _) bk_X10_pot_59 bs_X10_pot_59 hz (fun K hK => ?_)
              refine ix_i (by omega) ?_
              intro b11 b11b
              intro b12 b12b
              refine And.intro (fun c13 => ?_) (fun c13 => ?_)
              · refine hK 81 _ [] T ?_
                refine j_blx (F := fX10) tb_X10 (nn_ _) bk_X10_pot_81 bs_X10_pot_81 hz (fun K hK => ?_)
                refine hK 87 _ [vI k, vI c, vR 101 0] T ?_
                refine j_callV (y := yX1_putIn) (Yc := zX1_putIn) (rest := []) [vI c, vI k] (ct_X1_putIn (T := T) (by omega) (by omega) (by omega)) cl_X10_396 (qd_c (by decide +kernel)) (nn_ _) rfl (rf_of rfl) (Nat.le_of_ble_eq_true rfl) (Nat.le_of_ble_eq_true rfl) (Nat.le_of_ble_eq_true rfl) rfl ?_
                rintro U14 _ ⟨rfl, fU14, qU14⟩
                show J_ zX10_pot T (po_X10_pot T c k) 0 0 90 _ [] U14
                refine j_blx (F := fX10) tb_X10 (nn_ _) bk_X10_pot_90 bs_X10_pot_90 hz (fun K hK => ?_)
                refine ix_i (by omega) ?_
                intro b15 b15b
                refine (show po_X10_pot T c k U14 (some (vI (U14 430 0 k))) from ?_)
                exact ⟨_, rfl, fr_t (fr_0 _ _) (fr_s fU14 rfl), by rfl⟩
              · refine (show po_X10_pot T c k T (some (vI (-5))) from ?_)
                exact ⟨_, rfl, fr_0 _ _, by rfl⟩
            · refine (show po_X10_pot T c k T (some (vI (-4))) from ?_)
              exact ⟨_, rfl, fr_0 _ _, by rfl⟩
      · refine (show po_X10_pot T c k T (some (vI (-3))) from ?_)
        exact ⟨_, rfl, fr_0 _ _, by rfl⟩
  · replace hx1 := hx1.resolve_left (fun z => absurd (c2.symm.trans z.1) (by decide))
    clear c2
    refine (show po_X10_pot T c k T (some (vI (-2))) from ?_)
    exact ⟨_, rfl, fr_0 _ _, by rfl⟩
abbrev cX1_waysWith : ByteArray := prog_3_method_6_code
def yX1_waysWith : MethodName := ⟨RX1, "waysWith", "(II)I"⟩
def zX1_waysWith : Zm := (RX1, cX1_waysWith, 3, (some .int), { frames := 0, cells := 0, slots := 0, locals := 0 })
theorem bk_X1_waysWith_0 : ck_ fX1 (some .int) cX1_waysWith 0 [.aload 0, .tableswitch 0 1 9 #[], .iload 1, .iaload, .iconst (-1), .if_icmp .eq 29, .aload 0, .tableswitch 0 1 9 #[], .iload 1, .iaload, .iload 2, .if_icmp .ne 27, .aload 0, .tableswitch 0 1 6 #[], .goto 28] 27 = true := qck_r (nn_ _) (by decide +kernel)
theorem bs_X1_waysWith_0 {P : Zt → Option Zv → Prop} (K : Int → Zl → List Zv → Zt → Prop) : sx_ K P [.aload 0, .tableswitch 0 1 9 #[], .iload 1, .iaload, .iconst (-1), .if_icmp .eq 29, .aload 0, .tableswitch 0 1 9 #[], .iload 1, .iaload, .iload 2, .if_icmp .ne 27, .aload 0, .tableswitch 0 1 6 #[], .goto 28] 27 = x_aload 0 (x_g1 101 429 (x_iload 1 (x_iaload (x_iconst (-1) (x_if_icmp .eq 29 K (x_aload 0 (x_g1 101 429 (x_iload 1 (x_iaload (x_iload 2 (x_if_icmp .ne 27 K (x_aload 0 (x_g0 101 6 (-2147483648) 2147483647 (x_goto 28 K)))))))))))))) := ((xe_aload 0).trans (congrArg (x_aload 0) ((xe_g1 (kk := 101) rfl tl_1_9).trans (congrArg (x_g1 101 429) ((xe_iload 1).trans (congrArg (x_iload 1) ((xe_iaload).trans (congrArg (x_iaload) ((xe_iconst (-1)).trans (congrArg (x_iconst (-1)) ((xe_if_icmp .eq 29).trans (congrArg (x_if_icmp .eq 29 K) ((xe_aload 0).trans (congrArg (x_aload 0) ((xe_g1 (kk := 101) rfl tl_1_9).trans (congrArg (x_g1 101 429) ((xe_iload 1).trans (congrArg (x_iload 1) ((xe_iaload).trans (congrArg (x_iaload) ((xe_iload 2).trans (congrArg (x_iload 2) ((xe_if_icmp .ne 27).trans (congrArg (x_if_icmp .ne 27 K) ((xe_aload 0).trans (congrArg (x_aload 0) ((xe_g0 (kk := 101) rfl tl_1_6).trans (congrArg (x_g0 101 6 (-2147483648) 2147483647) (xe_goto 28)))))))))))))))))))))))))))))
theorem bk_X1_waysWith_29 : ck_ fX1 (some .int) cX1_waysWith 29 [.aload 0, .tableswitch 0 1 11 #[], .iload 1, .iconst 4, .imul, .iload 2, .iadd, .iaload, .ireturn] 40 = true := qck_r (nn_ _) (by decide +kernel)
theorem bs_X1_waysWith_29 {P : Zt → Option Zv → Prop} (K : Int → Zl → List Zv → Zt → Prop) : sx_ K P [.aload 0, .tableswitch 0 1 11 #[], .iload 1, .iconst 4, .imul, .iload 2, .iadd, .iaload, .ireturn] 40 = x_aload 0 (x_g1 101 431 (x_iload 1 (x_iconst 4 (x_imul (x_iload 2 (x_iadd (x_iaload (x_ireturn P)))))))) := ((xe_aload 0).trans (congrArg (x_aload 0) ((xe_g1 (kk := 101) rfl tl_1_11).trans (congrArg (x_g1 101 431) ((xe_iload 1).trans (congrArg (x_iload 1) ((xe_iconst 4).trans (congrArg (x_iconst 4) ((xe_imul).trans (congrArg (x_imul) ((xe_iload 2).trans (congrArg (x_iload 2) ((xe_iadd).trans (congrArg (x_iadd) ((xe_iaload).trans (congrArg (x_iaload) (xe_ireturn)))))))))))))))))
theorem bk_X1_waysWith_27 : ck_ fX1 (some .int) cX1_waysWith 27 [.iconst 0, .ireturn] 29 = true := qck_r (nn_ _) (by decide +kernel)
theorem bs_X1_waysWith_27 {P : Zt → Option Zv → Prop} (K : Int → Zl → List Zv → Zt → Prop) : sx_ K P [.iconst 0, .ireturn] 29 = x_iconst 0 (x_ireturn P) := ((xe_iconst 0).trans (congrArg (x_iconst 0) (xe_ireturn)))
theorem bk_X1_waysWith_28 : ck_ fX1 (some .int) cX1_waysWith 28 [.ireturn] 29 = true := qck_r (nn_ _) (by decide +kernel)
theorem bs_X1_waysWith_28 {P : Zt → Option Zv → Prop} (K : Int → Zl → List Zv → Zt → Prop) : sx_ K P [.ireturn] 29 = x_ireturn P := (xe_ireturn)
abbrev po_X1_waysWith (T : Zt) (c g : Int) : Zt → Option Zv → Prop := fun T' r => T = T' ∧ ∃ x : Int, r = some (vI x) ∧ (True)
set_option maxHeartbeats 4000000 in
theorem ct_X1_waysWith {T : Zt} {c g : Int} (h1 : 0 ≤ c ∧ c < 12) (h2 : 0 ≤ g ∧ g < 4) : Ct_ yX1_waysWith zX1_waysWith T [vR 101 0, vI c, vI g] (po_X1_waysWith T c g) := by
  refine ct_of pn_1 rfl rfl (Nat.le_of_ble_eq_true rfl) (fun hT hav => ?_)
  have hr_c : -2147483648 ≤ c ∧ c ≤ 2147483647 := hav (vI c) (List.mem_cons_of_mem _ List.mem_cons_self)
  have hr_g : -2147483648 ≤ g ∧ g ≤ 2147483647 := hav (vI g) (List.mem_cons_of_mem _ (List.mem_cons_of_mem _ List.mem_cons_self))
  have hz : zX1_waysWith.2.2.2.1 = some .boolean → ∀ (T' : Zt) (x : Int), po_X1_waysWith T c g T' (some (vI x)) → 0 ≤ x ∧ x ≤ 1 := fun h => by cases h
  show J_ zX1_waysWith T (po_X1_waysWith T c g) 0 0 0 [some (vR 101 0), some (vI c), some (vI g)] [] T
  refine j_blx (F := fX1) tb_X1 (nn_ _) bk_X1_waysWith_0 bs_X1_waysWith_0 hz (fun K hK => ?_)
  refine ix_i (by omega) ?_
  intro b1 b1b
  refine And.intro (fun c2 => ?_) (fun c2 => ?_)
  · refine hK 29 _ [] T ?_
    refine j_blx (F := fX1) tb_X1 (nn_ _) bk_X1_waysWith_29 bs_X1_waysWith_29 hz (fun K hK => ?_)
    refine rg_i (by omega) ?_
    refine rg_i (by omega) ?_
    refine ix_i (by omega) ?_
    intro b3 b3b
    refine (show po_X1_waysWith T c g T (some (vI (T 431 0 ((c * 4) + g)))) from ?_)
    exact ⟨rfl, _, rfl, by trivial⟩
  · refine ix_i (by omega) ?_
    intro b4 b4b
    refine And.intro (fun c5 => ?_) (fun c5 => ?_)
    · refine hK 27 _ [] T ?_
      refine j_blx (F := fX1) tb_X1 (nn_ _) bk_X1_waysWith_27 bs_X1_waysWith_27 hz (fun K hK => ?_)
      refine (show po_X1_waysWith T c g T (some (vI 0)) from ?_)
      exact ⟨rfl, _, rfl, by trivial⟩
    · intro b6 b6b
      refine hK 28 _ [vI (T 101 0 6)] T ?_
      refine j_blx (F := fX1) tb_X1 (nn_ _) bk_X1_waysWith_28 bs_X1_waysWith_28 hz (fun K hK => ?_)
      refine (show po_X1_waysWith T c g T (some (vI (T 101 0 6))) from ?_)
      exact ⟨rfl, _, rfl, by trivial⟩
abbrev cX1_takeBelow : ByteArray := prog_3_method_9_code
def yX1_takeBelow : MethodName := ⟨RX1, "takeBelow", "(I)I"⟩
def zX1_takeBelow : Zm := (RX1, cX1_takeBelow, 8, (some .int), { frames := 0, cells := 0, slots := 0, locals := 0 })
theorem bk_X1_takeBelow_71 : ck_ fX1 (some .int) cX1_takeBelow 71 [.iload 6, .iload 1, .irem, .ireturn] 76 = true := qck_r (nn_ _) (by decide +kernel)
theorem bs_X1_takeBelow_71 {P : Zt → Option Zv → Prop} (K : Int → Zl → List Zv → Zt → Prop) : sx_ K P [.iload 6, .iload 1, .irem, .ireturn] 76 = x_iload 6 (x_iload 1 (x_irem (x_ireturn P))) := ((xe_iload 6).trans (congrArg (x_iload 6) ((xe_iload 1).trans (congrArg (x_iload 1) ((xe_irem).trans (congrArg (x_irem) (xe_ireturn)))))))
theorem bk_X1_takeBelow_24 : ck_ fX1 (some .int) cX1_takeBelow 24 [.iload 7, .iconst 1000000, .if_icmp .ge 71, .aload 0, .aload 0, .tableswitch 0 1 5 #[], .iconst 1664525, .fmul, .iconst 1013904223, .fadd, .tableswitch 1 1 5 #[], .aload 0, .tableswitch 0 1 5 #[], .iconst 1, .iushr, .istore 6, .iload 6, .i2l, .lload 4, .lcmp, .ifCond .ge 65, .goto 71] 65 = true := qck_r (nn_ _) (by decide +kernel)
theorem bs_X1_takeBelow_24 {P : Zt → Option Zv → Prop} (K : Int → Zl → List Zv → Zt → Prop) : sx_ K P [.iload 7, .iconst 1000000, .if_icmp .ge 71, .aload 0, .aload 0, .tableswitch 0 1 5 #[], .iconst 1664525, .fmul, .iconst 1013904223, .fadd, .tableswitch 1 1 5 #[], .aload 0, .tableswitch 0 1 5 #[], .iconst 1, .iushr, .istore 6, .iload 6, .i2l, .lload 4, .lcmp, .ifCond .ge 65, .goto 71] 65 = x_iload 7 (x_iconst 1000000 (x_if_icmp .ge 71 K (x_aload 0 (x_aload 0 (x_g0 101 5 (-2147483648) 2147483647 (x_iconst 1664525 (x_fmul (x_iconst 1013904223 (x_fadd (x_p 101 5 (-2147483648) 2147483647 (x_aload 0 (x_g0 101 5 (-2147483648) 2147483647 (x_iconst 1 (x_iushr (x_istore 6 (x_iload 6 (x_i2l (x_lload 4 (x_lcmp (x_ifCond .ge 65 K (x_goto 71 K))))))))))))))))))))) := ((xe_iload 7).trans (congrArg (x_iload 7) ((xe_iconst 1000000).trans (congrArg (x_iconst 1000000) ((xe_if_icmp .ge 71).trans (congrArg (x_if_icmp .ge 71 K) ((xe_aload 0).trans (congrArg (x_aload 0) ((xe_aload 0).trans (congrArg (x_aload 0) ((xe_g0 (kk := 101) rfl tl_1_5).trans (congrArg (x_g0 101 5 (-2147483648) 2147483647) ((xe_iconst 1664525).trans (congrArg (x_iconst 1664525) ((xe_fmul).trans (congrArg (x_fmul) ((xe_iconst 1013904223).trans (congrArg (x_iconst 1013904223) ((xe_fadd).trans (congrArg (x_fadd) ((xe_p (kk := 101) rfl tl_1_5).trans (congrArg (x_p 101 5 (-2147483648) 2147483647) ((xe_aload 0).trans (congrArg (x_aload 0) ((xe_g0 (kk := 101) rfl tl_1_5).trans (congrArg (x_g0 101 5 (-2147483648) 2147483647) ((xe_iconst 1).trans (congrArg (x_iconst 1) ((xe_iushr).trans (congrArg (x_iushr) ((xe_istore 6).trans (congrArg (x_istore 6) ((xe_iload 6).trans (congrArg (x_iload 6) ((xe_i2l).trans (congrArg (x_i2l) ((xe_lload 4).trans (congrArg (x_lload 4) ((xe_lcmp).trans (congrArg (x_lcmp) ((xe_ifCond .ge 65).trans (congrArg (x_ifCond .ge 65 K) (xe_goto 71)))))))))))))))))))))))))))))))))))))))))))
theorem bk_X1_takeBelow_65 : ck_ fX1 (some .int) cX1_takeBelow 65 [.iinc 7 1, .goto 24] 71 = true := qck_r (nn_ _) (by decide +kernel)
theorem bs_X1_takeBelow_65 {P : Zt → Option Zv → Prop} (K : Int → Zl → List Zv → Zt → Prop) : sx_ K P [.iinc 7 1, .goto 24] 71 = x_iinc 7 1 (x_goto 24 K) := ((xe_iinc 7 1).trans (congrArg (x_iinc 7 1) (xe_goto 24)))
theorem bk_X1_takeBelow_0 : ck_ fX1 (some .int) cX1_takeBelow 0 [.iload 1, .ifCond .gt 6, .iconst 0, .ireturn] 6 = true := qck_r (nn_ _) (by decide +kernel)
theorem bs_X1_takeBelow_0 {P : Zt → Option Zv → Prop} (K : Int → Zl → List Zv → Zt → Prop) : sx_ K P [.iload 1, .ifCond .gt 6, .iconst 0, .ireturn] 6 = x_iload 1 (x_ifCond .gt 6 K (x_iconst 0 (x_ireturn P))) := ((xe_iload 1).trans (congrArg (x_iload 1) ((xe_ifCond .gt 6).trans (congrArg (x_ifCond .gt 6 K) ((xe_iconst 0).trans (congrArg (x_iconst 0) (xe_ireturn)))))))
theorem bk_X1_takeBelow_6 : ck_ fX1 (some .int) cX1_takeBelow 6 [.sipush 2147483648, .lstore 2, .lload 2, .lload 2, .iload 1, .i2l, .lrem, .lsub, .lstore 4, .iconst 0, .istore 6, .iconst 0, .istore 7] 24 = true := qck_r (nn_ _) (by decide +kernel)
theorem bs_X1_takeBelow_6 {P : Zt → Option Zv → Prop} (K : Int → Zl → List Zv → Zt → Prop) : sx_ K P [.sipush 2147483648, .lstore 2, .lload 2, .lload 2, .iload 1, .i2l, .lrem, .lsub, .lstore 4, .iconst 0, .istore 6, .iconst 0, .istore 7] 24 = x_sipush 2147483648 (x_lstore 2 (x_lload 2 (x_lload 2 (x_iload 1 (x_i2l (x_lrem (x_lsub (x_lstore 4 (x_iconst 0 (x_istore 6 (x_iconst 0 (x_istore 7 (K 24))))))))))))) := ((xe_sipush 2147483648).trans (congrArg (x_sipush 2147483648) ((xe_lstore 2).trans (congrArg (x_lstore 2) ((xe_lload 2).trans (congrArg (x_lload 2) ((xe_lload 2).trans (congrArg (x_lload 2) ((xe_iload 1).trans (congrArg (x_iload 1) ((xe_i2l).trans (congrArg (x_i2l) ((xe_lrem).trans (congrArg (x_lrem) ((xe_lsub).trans (congrArg (x_lsub) ((xe_lstore 4).trans (congrArg (x_lstore 4) ((xe_iconst 0).trans (congrArg (x_iconst 0) ((xe_istore 6).trans (congrArg (x_istore 6) ((xe_iconst 0).trans (congrArg (x_iconst 0) ((xe_istore 7).trans (congrArg (x_istore 7) xe_nil))))))))))))))))))))))))))
abbrev po_X1_takeBelow (T : Zt) (m : Int) : Zt → Option Zv → Prop := fun T' r => ∃ x : Int, r = some (vI x) ∧ fr_ [(101, [5])] T T' ∧ ((m ≤ 0 ∧ x = 0) ∨ (0 < m ∧ 0 ≤ x ∧ x < m))
set_option maxHeartbeats 4000000 in
theorem ct_X1_takeBelow {T : Zt} {m : Int} : Ct_ yX1_takeBelow zX1_takeBelow T [vR 101 0, vI m] (po_X1_takeBelow T m) := by
  refine ct_of pn_1 rfl rfl (Nat.le_of_ble_eq_true rfl) (fun hT hav => ?_)
  have hr_m : -2147483648 ≤ m ∧ m ≤ 2147483647 := hav (vI m) (List.mem_cons_of_mem _ List.mem_cons_self)
  have hz : zX1_takeBelow.2.2.2.1 = some .boolean → ∀ (T' : Zt) (x : Int), po_X1_takeBelow T m T' (some (vI x)) → 0 ≤ x ∧ x ≤ 1 := fun h => by cases h
  have hr1 := Int.emod_nonneg 2147483648 (b := m)
  have hr2 := Int.emod_lt_of_pos 2147483648 (b := m)
  show J_ zX1_takeBelow T (po_X1_takeBelow T m) 0 0 0 [some (vR 101 0), some (vI m), none, none, none, none, none, none] [] T
  have c_71 : ∀ (v : Int) (T2 : Zt), (fr_ [(101, [5])] T T2) → (0 ≤ v ∧ 0 < m) → J_ zX1_takeBelow T (po_X1_takeBelow T m) 0 0 71 [some (vR 101 0), some (vI m), none, none, none, none, some (vI v), none] [] T2 := by
    intro v T2 hf_71 i2
    refine j_blx (F := fX1) tb_X1 (nn_ _) bk_X1_takeBelow_71 bs_X1_takeBelow_71 hz (fun K hK => ?_)
    have hv1 := Int.emod_nonneg (v) (show m ≠ 0 by omega)
    have hv2 := Int.emod_lt_of_pos (v) (show 0 < m by omega)
    refine dv_i (by omega) ?_
    refine (show po_X1_takeBelow T m T2 (some (vI (v % m))) from ?_)
    exact ⟨_, rfl, fr_t (fr_0 _ _) (fr_s hf_71 rfl), by omega⟩
  have c_24 : ∀ (nn : Nat) (v : Int) (n : Int) (fa : Int) (T1 : Zt), ((1000000 - n).toNat) ≤ nn → (fr_ [(101, [5])] T T1) → (0 ≤ v ∧ 0 ≤ n ∧ 0 < m) → J_ zX1_takeBelow T (po_X1_takeBelow T m) 0 0 24 [some (vR 101 0), some (vI m), none, none, some (vL fa), none, some (vI v), some (vI n)] [] T1 := by
    intro nn
    induction nn using Nat.strongRecOn with
    | _ nn ih_24 =>
      intro v n fa T1 hm_24 hf_24 i1
      replace hm_24 := fun (_ : Unit) => hm_24
      refine j_blx (F := fX1) tb_X1 (nn_ _) bk_X1_takeBelow_24 bs_X1_takeBelow_24 hz (fun K hK => ?_)
      refine And.intro (fun c1 => ?_) (fun c1 => ?_)
      · refine hK 71 _ [] T1 ?_
        refine j_drq [some (vR 101 0), some (vI m), none, none, none, none, some (vI v), none] (drq_s (drq_s (drq_n (drq_n (drq_n (drq_n (drq_s (drq_n drq_0)))))))) ?_
        refine c_71 v T1 ?_ ?_
        · exact fr_t (fr_0 _ _) (fr_s hf_24 rfl)
        · omega
      · intro b2 b2b
        intro w3 w3b
        intro w4 w4b
        refine bd_i (by omega) ?_
        refine x_nm (fun U5 hU5 => ?_)
        have e6 := up_f hU5
        intro b7 b7b
        have e8 : U5 101 0 5 = wr_ ((wr_ ((T1 101 0 5) * 1664525)) + 1013904223) := up_f hU5
        rw [e8] at b7 b7b ⊢
        intro w9 w9b
        have u10 := us_1c (x := (wr_ ((wr_ ((T1 101 0 5) * 1664525)) + 1013904223)))
        refine And.intro (fun c11 => ?_) (And.intro (fun c11 => ?_) (fun c11 => ?_))
        · refine And.intro (fun c12 => ?_) (fun c12 => ?_)
          · exact absurd c12 (by decide)
          · refine hK 71 [some (vR 101 0), some (vI m), none, none, some (vL fa), none, some (vI (us_ (wr_ ((wr_ ((T1 101 0 5) * 1664525)) + 1013904223)) 1)), some (vI n)] [] U5 ?_
            refine j_drq [some (vR 101 0), some (vI m), none, none, none, none, some (vI (us_ (wr_ ((wr_ ((T1 101 0 5) * 1664525)) + 1013904223)) 1)), none] (drq_s (drq_s (drq_n (drq_n (drq_n (drq_n (drq_s (drq_n drq_0)))))))) ?_
            refine c_71 (us_ (wr_ ((wr_ ((T1 101 0 5) * 1664525)) + 1013904223)) 1) U5 ?_ ?_
            · exact fr_u (fr_t (fr_0 _ _) (fr_s hf_24 rfl)) hU5 rfl
            · omega
        · refine And.intro (fun c13 => ?_) (fun c13 => ?_)
          · refine hK 65 [some (vR 101 0), some (vI m), none, none, some (vL fa), none, some (vI (us_ (wr_ ((wr_ ((T1 101 0 5) * 1664525)) + 1013904223)) 1)), some (vI n)] [] U5 ?_
            refine j_blx (F := fX1) tb_X1 (nn_ _) bk_X1_takeBelow_65 bs_X1_takeBelow_65 hz (fun K hK => ?_)
            refine rg_i (by omega) ?_
            refine hK 24 [some (vR 101 0), some (vI m), none, none, some (vL fa), none, some (vI (us_ (wr_ ((wr_ ((T1 101 0 5) * 1664525)) + 1013904223)) 1)), some (vI (n + 1))] [] U5 ?_
            refine ih_24 _ ?_ (us_ (wr_ ((wr_ ((T1 101 0 5) * 1664525)) + 1013904223)) 1) (n + 1) fa U5 (Nat.le_refl _) ?_ ?_
            · have hm_24 := hm_24 (); omega
            · exact fr_u (fr_t (fr_0 _ _) (fr_s hf_24 rfl)) hU5 rfl
            · omega
          · exact absurd c13 (by decide)
        · refine And.intro (fun c14 => ?_) (fun c14 => ?_)
          · refine hK 65 [some (vR 101 0), some (vI m), none, none, some (vL fa), none, some (vI (us_ (wr_ ((wr_ ((T1 101 0 5) * 1664525)) + 1013904223)) 1)), some (vI n)] [] U5 ?_
            refine j_blx (F := fX1) tb_X1 (nn_ _) bk_X1_takeBelow_65 bs_X1_takeBelow_65 hz (fun K hK => ?_)
            refine rg_i (by omega) ?_
            refine hK 24 [some (vR 101 0), some (vI m), none, none, some (vL fa), none, some (vI (us_ (wr_ ((wr_ ((T1 101 0 5) * 1664525)) + 1013904223)) 1)), some (vI (n + 1))] [] U5 ?_
            refine ih_24 _ ?_ (us_ (wr_ ((wr_ ((T1 101 0 5) * 1664525)) + 1013904223)) 1) (n + 1) fa U5 (Nat.le_refl _) ?_ ?_
            · have hm_24 := hm_24 (); omega
            · exact fr_u (fr_t (fr_0 _ _) (fr_s hf_24 rfl)) hU5 rfl
            · omega
          · exact absurd c14 (by decide)
  refine j_blx (F := fX1) tb_X1 (nn_ _) bk_X1_takeBelow_0 bs_X1_takeBelow_0 hz (fun K hK => ?_)
  refine And.intro (fun c15 => ?_) (fun c15 => ?_)
  · refine hK 6 _ [] T ?_
    refine j_blx (F := fX1) tb_X1 (nn_ _) bk_X1_takeBelow_6 bs_X1_takeBelow_6 hz (fun K hK => ?_)
    refine dv_i (by omega) ?_
    refine rl_i (by omega) ?_
    refine hK 24 [some (vR 101 0), some (vI m), some (vL 2147483648), none, some (vL (2147483648 - (2147483648 % m))), none, some (vI 0), some (vI 0)] [] T ?_
    refine j_drq [some (vR 101 0), some (vI m), none, none, some (vL (2147483648 - (2147483648 % m))), none, some (vI 0), some (vI 0)] (drq_s (drq_s (drq_n (drq_n (drq_s (drq_n (drq_s (drq_s drq_0)))))))) ?_
    refine c_24 _ 0 0 (2147483648 - (2147483648 % m)) T (Nat.le_refl _) ?_ ?_
    · exact fr_0 _ _
    · omega
  · refine (show po_X1_takeBelow T m T (some (vI 0)) from ?_)
    exact ⟨_, rfl, fr_0 _ _, by omega⟩
abbrev cX1_takeClub : ByteArray := prog_3_method_7_code
def yX1_takeClub : MethodName := ⟨RX1, "takeClub", "()I"⟩
def zX1_takeClub : Zm := (RX1, cX1_takeClub, 4, (some .int), { frames := 1, cells := 0, slots := 0, locals := 27 })
theorem bk_X1_takeClub_16 : ck_ fX1 (some .int) cX1_takeClub 16 [.iload 3, .aload 0, .tableswitch 0 1 13 #[], .if_icmp .ge 48, .aload 0, .tableswitch 0 1 8 #[], .aload 0, .tableswitch 0 1 12 #[], .iload 3, .iaload, .iaload, .iload 1, .if_icmp .ne 42, .iinc 2 1, .iinc 3 1, .goto 16] 48 = true := qck_r (nn_ _) (by decide +kernel)
theorem bs_X1_takeClub_16 {P : Zt → Option Zv → Prop} (K : Int → Zl → List Zv → Zt → Prop) : sx_ K P [.iload 3, .aload 0, .tableswitch 0 1 13 #[], .if_icmp .ge 48, .aload 0, .tableswitch 0 1 8 #[], .aload 0, .tableswitch 0 1 12 #[], .iload 3, .iaload, .iaload, .iload 1, .if_icmp .ne 42, .iinc 2 1, .iinc 3 1, .goto 16] 48 = x_iload 3 (x_aload 0 (x_g0 101 13 0 12 (x_if_icmp .ge 48 K (x_aload 0 (x_g1 101 428 (x_aload 0 (x_g1 101 432 (x_iload 3 (x_iaload (x_iaload (x_iload 1 (x_if_icmp .ne 42 K (x_iinc 2 1 (x_iinc 3 1 (x_goto 16 K))))))))))))))) := ((xe_iload 3).trans (congrArg (x_iload 3) ((xe_aload 0).trans (congrArg (x_aload 0) ((xe_g0 (kk := 101) rfl tl_1_13).trans (congrArg (x_g0 101 13 0 12) ((xe_if_icmp .ge 48).trans (congrArg (x_if_icmp .ge 48 K) ((xe_aload 0).trans (congrArg (x_aload 0) ((xe_g1 (kk := 101) rfl tl_1_8).trans (congrArg (x_g1 101 428) ((xe_aload 0).trans (congrArg (x_aload 0) ((xe_g1 (kk := 101) rfl tl_1_12).trans (congrArg (x_g1 101 432) ((xe_iload 3).trans (congrArg (x_iload 3) ((xe_iaload).trans (congrArg (x_iaload) ((xe_iaload).trans (congrArg (x_iaload) ((xe_iload 1).trans (congrArg (x_iload 1) ((xe_if_icmp .ne 42).trans (congrArg (x_if_icmp .ne 42 K) ((xe_iinc 2 1).trans (congrArg (x_iinc 2 1) ((xe_iinc 3 1).trans (congrArg (x_iinc 3 1) (xe_goto 16)))))))))))))))))))))))))))))))
theorem bk_X1_takeClub_48 : ck_ fX1 (some .int) cX1_takeClub 48 [.aload 0, .tableswitch 0 1 12 #[], .aload 0, .iload 2] 54 = true := qck_r (nn_ _) (by decide +kernel)
theorem bs_X1_takeClub_48 {P : Zt → Option Zv → Prop} (K : Int → Zl → List Zv → Zt → Prop) : sx_ K P [.aload 0, .tableswitch 0 1 12 #[], .aload 0, .iload 2] 54 = x_aload 0 (x_g1 101 432 (x_aload 0 (x_iload 2 (K 54)))) := ((xe_aload 0).trans (congrArg (x_aload 0) ((xe_g1 (kk := 101) rfl tl_1_12).trans (congrArg (x_g1 101 432) ((xe_aload 0).trans (congrArg (x_aload 0) ((xe_iload 2).trans (congrArg (x_iload 2) xe_nil))))))))
set_option maxRecDepth 100000 in
theorem cl_X1_75 : cv_ RX1 75 yX1_takeBelow zX1_takeBelow 1 1 := ⟨gi_V (lwq_6 (dqc_m (dqc_m (dqc_m (dqc_m (dqc_m (List.mem_of_getElem? (i := 6) rfl)))))) rfl : Cond.methodLink RX1 75 yX1_takeBelow ∈ lw_g) (lwq_6 (dqc_m (dqc_m (dqc_m (dqc_m (dqc_m (dqa_m (List.mem_of_getElem? (i := 0) rfl))))))) rfl : Cond.instanceMethod yX1_takeBelow ∈ lw_g) (lw_sel 82 rfl : Cond.selects yX1_takeBelow.cls yX1_takeBelow yX1_takeBelow ∈ lw_g) (lwq_1 (dqa_m (List.mem_of_getElem? (i := 0) rfl)) rfl : Cond.initialized yX1_takeBelow.cls ∈ lw_g) (lwq_6 (dqc_m (dqc_m (dqc_m (dqc_m (dqc_m (dqa_m (List.mem_of_getElem? (i := 1) rfl))))))) rfl : Cond.code yX1_takeBelow cX1_takeBelow 8 (some .int) ∈ lw_g), ⟨nmh_2.1, nmh_2.2, pdq_15⟩, ⟨_, _, rfl⟩⟩
theorem bk_X1_takeClub_57 : ck_ fX1 (some .int) cX1_takeClub 57 [.iaload, .ireturn] 59 = true := qck_r (nn_ _) (by decide +kernel)
theorem bs_X1_takeClub_57 {P : Zt → Option Zv → Prop} (K : Int → Zl → List Zv → Zt → Prop) : sx_ K P [.iaload, .ireturn] 59 = x_iaload (x_ireturn P) := ((xe_iaload).trans (congrArg (x_iaload) (xe_ireturn)))
theorem bk_X1_takeClub_42 : ck_ fX1 (some .int) cX1_takeClub 42 [.iinc 3 1, .goto 16] 48 = true := qck_r (nn_ _) (by decide +kernel)
theorem bs_X1_takeClub_42 {P : Zt → Option Zv → Prop} (K : Int → Zl → List Zv → Zt → Prop) : sx_ K P [.iinc 3 1, .goto 16] 48 = x_iinc 3 1 (x_goto 16 K) := ((xe_iinc 3 1).trans (congrArg (x_iinc 3 1) (xe_goto 16)))
theorem bk_X1_takeClub_0 : ck_ fX1 (some .int) cX1_takeClub 0 [.aload 0, .tableswitch 0 1 8 #[], .aload 0, .tableswitch 0 1 12 #[], .iconst 0, .iaload, .iaload, .istore 1, .iconst 0, .istore 2, .iconst 0, .istore 3] 16 = true := qck_r (nn_ _) (by decide +kernel)
theorem bs_X1_takeClub_0 {P : Zt → Option Zv → Prop} (K : Int → Zl → List Zv → Zt → Prop) : sx_ K P [.aload 0, .tableswitch 0 1 8 #[], .aload 0, .tableswitch 0 1 12 #[], .iconst 0, .iaload, .iaload, .istore 1, .iconst 0, .istore 2, .iconst 0, .istore 3] 16 = x_aload 0 (x_g1 101 428 (x_aload 0 (x_g1 101 432 (x_iconst 0 (x_iaload (x_iaload (x_istore 1 (x_iconst 0 (x_istore 2 (x_iconst 0 (x_istore 3 (K 16)))))))))))) := ((xe_aload 0).trans (congrArg (x_aload 0) ((xe_g1 (kk := 101) rfl tl_1_8).trans (congrArg (x_g1 101 428) ((xe_aload 0).trans (congrArg (x_aload 0) ((xe_g1 (kk := 101) rfl tl_1_12).trans (congrArg (x_g1 101 432) ((xe_iconst 0).trans (congrArg (x_iconst 0) ((xe_iaload).trans (congrArg (x_iaload) ((xe_iaload).trans (congrArg (x_iaload) ((xe_istore 1).trans (congrArg (x_istore 1) ((xe_iconst 0).trans (congrArg (x_iconst 0) ((xe_istore 2).trans (congrArg (x_istore 2) ((xe_iconst 0).trans (congrArg (x_iconst 0) ((xe_istore 3).trans (congrArg (x_istore 3) xe_nil))))))))))))))))))))))))
abbrev po_X1_takeClub (T : Zt) : Zt → Option Zv → Prop := fun T' r => ∃ x : Int, r = some (vI x) ∧ fr_ [(101, [5])] T T' ∧ (0 ≤ x ∧ x ≤ 11)
set_option maxHeartbeats 4000000 in
theorem ct_X1_takeClub {T : Zt} : Ct_ yX1_takeClub zX1_takeClub T [vR 101 0] (po_X1_takeClub T) := by
  refine ct_of pn_1 rfl rfl (Nat.le_of_ble_eq_true rfl) (fun hT hav => ?_)
  have hz : zX1_takeClub.2.2.2.1 = some .boolean → ∀ (T' : Zt) (x : Int), po_X1_takeClub T T' (some (vI x)) → 0 ≤ x ∧ x ≤ 1 := fun h => by cases h
  have hwc : 0 ≤ T 101 0 13 ∧ T 101 0 13 ≤ 12 := bd_f hT 101 13 tl_1_13 0
  show J_ zX1_takeClub T (po_X1_takeClub T) 0 0 0 [some (vR 101 0), none, none, none] [] T
  have c_16 : ∀ (nn : Nat) (n : Int) (k : Int) (q : Int), ((12 - k).toNat) ≤ nn → (0 ≤ n ∧ n ≤ k ∧ 0 ≤ k ∧ k ≤ 12) → J_ zX1_takeClub T (po_X1_takeClub T) 0 0 16 [some (vR 101 0), some (vI q), some (vI n), some (vI k)] [] T := by
    intro nn
    induction nn using Nat.strongRecOn with
    | _ nn ih_16 =>
      intro n k q hm_16 i1
      replace hm_16 := fun (_ : Unit) => hm_16
      refine j_blx (F := fX1) tb_X1 (nn_ _) bk_X1_takeClub_16 bs_X1_takeClub_16 hz (fun K hK => ?_)
      intro b1 b1b
      refine And.intro (fun c2 => ?_) (fun c2 => ?_)
      · refine hK 48 _ [] T ?_
        refine j_blx (F := fX1) tb_X1 (nn_ _) bk_X1_takeClub_48 bs_X1_takeClub_48 hz (fun K hK => ?_)
        refine hK 54 _ [vI n, vR 101 0, vR 432 0] T ?_
        refine j_callV (y := yX1_takeBelow) (Yc := zX1_takeBelow) (rest := [vR 432 0]) [vI n] (ct_X1_takeBelow (T := T)) cl_X1_75 (qd_c (by decide +kernel)) (nn_ _) rfl (rf_of rfl) (Nat.le_of_ble_eq_true rfl) (Nat.le_of_ble_eq_true rfl) (Nat.le_of_ble_eq_true rfl) rfl ?_
        rintro U3 _ ⟨x4, rfl, fU3, qU3⟩
        show J_ zX1_takeClub T (po_X1_takeClub T) 0 0 57 _ [vI x4, vR 432 0] U3
        refine j_blx (F := fX1) tb_X1 (nn_ _) bk_X1_takeClub_57 bs_X1_takeClub_57 hz (fun K hK => ?_)
        refine ix_i (by omega) ?_
        intro b5 b5b
        have e6 : U3 432 0 x4 = T 432 0 x4 := fU3 432 0 x4 rfl
        rw [e6] at b5 b5b ⊢
        refine (show po_X1_takeClub T U3 (some (vI (T 432 0 x4))) from ?_)
        exact ⟨_, rfl, fr_t (fr_0 _ _) (fr_s fU3 rfl), by omega⟩
      · refine ix_i (by omega) ?_
        intro b7 b7b
        refine ix_i (by omega) ?_
        intro b8 b8b
        refine And.intro (fun c9 => ?_) (fun c9 => ?_)
        · refine hK 42 _ [] T ?_
          refine j_blx (F := fX1) tb_X1 (nn_ _) bk_X1_takeClub_42 bs_X1_takeClub_42 hz (fun K hK => ?_)
          refine rg_i (by omega) ?_
          refine hK 16 [some (vR 101 0), some (vI q), some (vI n), some (vI (k + 1))] [] T ?_
          refine ih_16 _ ?_ n (k + 1) q (Nat.le_refl _) ?_
          · have hm_16 := hm_16 (); omega
          · omega
        · refine rg_i (by omega) ?_
          refine rg_i (by omega) ?_
          refine hK 16 [some (vR 101 0), some (vI q), some (vI (n + 1)), some (vI (k + 1))] [] T ?_
          refine ih_16 _ ?_ (n + 1) (k + 1) q (Nat.le_refl _) ?_
          · have hm_16 := hm_16 (); omega
          · omega
  refine j_blx (F := fX1) tb_X1 (nn_ _) bk_X1_takeClub_0 bs_X1_takeClub_0 hz (fun K hK => ?_)
  refine ix_i (by omega) ?_
  intro b10 b10b
  refine ix_i (by omega) ?_
  intro b11 b11b
  refine hK 16 [some (vR 101 0), some (vI (T 428 0 (T 432 0 0))), some (vI 0), some (vI 0)] [] T ?_
  refine c_16 _ 0 0 (T 428 0 (T 432 0 0)) (Nat.le_refl _) ?_
  · omega
abbrev cX1_place : ByteArray := prog_3_method_8_code
def yX1_place : MethodName := ⟨RX1, "place", "(I)V"⟩
def zX1_place : Zm := (RX1, cX1_place, 5, none, { frames := 1, cells := 0, slots := 0, locals := 27 })
theorem bk_X1_place_14 : ck_ fX1 none cX1_place 14 [.iload 4, .aload 0, .tableswitch 0 1 1 #[], .if_icmp .ge 72, .iload 3, .aload 0, .tableswitch 0 1 11 #[], .iload 1, .iconst 4, .imul, .iload 4, .iadd, .iaload, .fadd, .istore 3, .iload 3, .iload 2, .if_icmp .le 66, .aload 0, .tableswitch 0 1 9 #[], .iload 1, .iload 4, .iastore, .aload 0, .dup, .tableswitch 0 1 4 #[], .iconst 1, .fadd, .tableswitch 1 1 4 #[], .aload 0, .iconst 0, .tableswitch 1 1 7 #[], .return_] 66 = true := qck_r (nn_ _) (by decide +kernel)
theorem bs_X1_place_14 {P : Zt → Option Zv → Prop} (K : Int → Zl → List Zv → Zt → Prop) : sx_ K P [.iload 4, .aload 0, .tableswitch 0 1 1 #[], .if_icmp .ge 72, .iload 3, .aload 0, .tableswitch 0 1 11 #[], .iload 1, .iconst 4, .imul, .iload 4, .iadd, .iaload, .fadd, .istore 3, .iload 3, .iload 2, .if_icmp .le 66, .aload 0, .tableswitch 0 1 9 #[], .iload 1, .iload 4, .iastore, .aload 0, .dup, .tableswitch 0 1 4 #[], .iconst 1, .fadd, .tableswitch 1 1 4 #[], .aload 0, .iconst 0, .tableswitch 1 1 7 #[], .return_] 66 = x_iload 4 (x_aload 0 (x_g0 101 1 0 4 (x_if_icmp .ge 72 K (x_iload 3 (x_aload 0 (x_g1 101 431 (x_iload 1 (x_iconst 4 (x_imul (x_iload 4 (x_iadd (x_iaload (x_fadd (x_istore 3 (x_iload 3 (x_iload 2 (x_if_icmp .le 66 K (x_aload 0 (x_g1 101 429 (x_iload 1 (x_iload 4 (x_iastore (x_aload 0 (x_dup (x_g0 101 4 (-2147483648) 2147483647 (x_iconst 1 (x_fadd (x_p 101 4 (-2147483648) 2147483647 (x_aload 0 (x_iconst 0 (x_p 101 7 0 1 (x_return_ P)))))))))))))))))))))))))))))))) := ((xe_iload 4).trans (congrArg (x_iload 4) ((xe_aload 0).trans (congrArg (x_aload 0) ((xe_g0 (kk := 101) rfl tl_1_1).trans (congrArg (x_g0 101 1 0 4) ((xe_if_icmp .ge 72).trans (congrArg (x_if_icmp .ge 72 K) ((xe_iload 3).trans (congrArg (x_iload 3) ((xe_aload 0).trans (congrArg (x_aload 0) ((xe_g1 (kk := 101) rfl tl_1_11).trans (congrArg (x_g1 101 431) ((xe_iload 1).trans (congrArg (x_iload 1) ((xe_iconst 4).trans (congrArg (x_iconst 4) ((xe_imul).trans (congrArg (x_imul) ((xe_iload 4).trans (congrArg (x_iload 4) ((xe_iadd).trans (congrArg (x_iadd) ((xe_iaload).trans (congrArg (x_iaload) ((xe_fadd).trans (congrArg (x_fadd) ((xe_istore 3).trans (congrArg (x_istore 3) ((xe_iload 3).trans (congrArg (x_iload 3) ((xe_iload 2).trans (congrArg (x_iload 2) ((xe_if_icmp .le 66).trans (congrArg (x_if_icmp .le 66 K) ((xe_aload 0).trans (congrArg (x_aload 0) ((xe_g1 (kk := 101) rfl tl_1_9).trans (congrArg (x_g1 101 429) ((xe_iload 1).trans (congrArg (x_iload 1) ((xe_iload 4).trans (congrArg (x_iload 4) ((xe_iastore).trans (congrArg (x_iastore) ((xe_aload 0).trans (congrArg (x_aload 0) ((xe_dup).trans (congrArg (x_dup) ((xe_g0 (kk := 101) rfl tl_1_4).trans (congrArg (x_g0 101 4 (-2147483648) 2147483647) ((xe_iconst 1).trans (congrArg (x_iconst 1) ((xe_fadd).trans (congrArg (x_fadd) ((xe_p (kk := 101) rfl tl_1_4).trans (congrArg (x_p 101 4 (-2147483648) 2147483647) ((xe_aload 0).trans (congrArg (x_aload 0) ((xe_iconst 0).trans (congrArg (x_iconst 0) ((xe_p (kk := 101) rfl tl_1_7).trans (congrArg (x_p 101 7 0 1) (xe_return_)))))))))))))))))))))))))))))))))))))))))))))))))))))))))))))))))
theorem bk_X1_place_72 : ck_ fX1 none cX1_place 72 [.return_] 73 = true := qck_r (nn_ _) (by decide +kernel)
theorem bs_X1_place_72 {P : Zt → Option Zv → Prop} (K : Int → Zl → List Zv → Zt → Prop) : sx_ K P [.return_] 73 = x_return_ P := (xe_return_)
theorem bk_X1_place_66 : ck_ fX1 none cX1_place 66 [.iinc 4 1, .goto 14] 72 = true := qck_r (nn_ _) (by decide +kernel)
theorem bs_X1_place_66 {P : Zt → Option Zv → Prop} (K : Int → Zl → List Zv → Zt → Prop) : sx_ K P [.iinc 4 1, .goto 14] 72 = x_iinc 4 1 (x_goto 14 K) := ((xe_iinc 4 1).trans (congrArg (x_iinc 4 1) (xe_goto 14)))
theorem bk_X1_place_0 : ck_ fX1 none cX1_place 0 [.aload 0, .aload 0, .tableswitch 0 1 6 #[]] 5 = true := qck_r (nn_ _) (by decide +kernel)
theorem bs_X1_place_0 {P : Zt → Option Zv → Prop} (K : Int → Zl → List Zv → Zt → Prop) : sx_ K P [.aload 0, .aload 0, .tableswitch 0 1 6 #[]] 5 = x_aload 0 (x_aload 0 (x_g0 101 6 (-2147483648) 2147483647 (K 5))) := ((xe_aload 0).trans (congrArg (x_aload 0) ((xe_aload 0).trans (congrArg (x_aload 0) ((xe_g0 (kk := 101) rfl tl_1_6).trans (congrArg (x_g0 101 6 (-2147483648) 2147483647) xe_nil))))))
theorem bk_X1_place_8 : ck_ fX1 none cX1_place 8 [.istore 2, .iconst 0, .istore 3, .iconst 0, .istore 4] 14 = true := qck_r (nn_ _) (by decide +kernel)
theorem bs_X1_place_8 {P : Zt → Option Zv → Prop} (K : Int → Zl → List Zv → Zt → Prop) : sx_ K P [.istore 2, .iconst 0, .istore 3, .iconst 0, .istore 4] 14 = x_istore 2 (x_iconst 0 (x_istore 3 (x_iconst 0 (x_istore 4 (K 14))))) := ((xe_istore 2).trans (congrArg (x_istore 2) ((xe_iconst 0).trans (congrArg (x_iconst 0) ((xe_istore 3).trans (congrArg (x_istore 3) ((xe_iconst 0).trans (congrArg (x_iconst 0) ((xe_istore 4).trans (congrArg (x_istore 4) xe_nil))))))))))
abbrev po_X1_place (T : Zt) (c : Int) : Zt → Option Zv → Prop := fun T' r => r = none ∧ fr_ [(101, [5, 4, 7]), (429, [])] T T' ∧ (0 = (0 : Int))
set_option maxHeartbeats 4000000 in
theorem ct_X1_place {T : Zt} {c : Int} (h1 : 0 ≤ c ∧ c < 12) : Ct_ yX1_place zX1_place T [vR 101 0, vI c] (po_X1_place T c) := by
  refine ct_of pn_1 rfl rfl (Nat.le_of_ble_eq_true rfl) (fun hT hav => ?_)
  have hr_c : -2147483648 ≤ c ∧ c ≤ 2147483647 := hav (vI c) (List.mem_cons_of_mem _ List.mem_cons_self)
  have hz : zX1_place.2.2.2.1 = some .boolean → ∀ (T' : Zt) (x : Int), po_X1_place T c T' (some (vI x)) → 0 ≤ x ∧ x ≤ 1 := fun h => by cases h
  have hgr : 0 ≤ T 101 0 1 ∧ T 101 0 1 ≤ 4 := bd_f hT 101 1 tl_1_1 0
  show J_ zX1_place T (po_X1_place T c) 0 0 0 [some (vR 101 0), some (vI c), none, none, none] [] T
  have c_14 : ∀ (nn : Nat) (t : Int) (u : Int) (g : Int) (T1 : Zt), ((4 - g).toNat) ≤ nn → (fr_ [(101, [5])] T T1) → (0 ≤ g) → J_ zX1_place T (po_X1_place T c) 0 0 14 [some (vR 101 0), some (vI c), some (vI t), some (vI u), some (vI g)] [] T1 := by
    intro nn
    induction nn using Nat.strongRecOn with
    | _ nn ih_14 =>
      intro t u g T1 hm_14 hf_14 i1
      replace hm_14 := fun (_ : Unit) => hm_14
      refine j_blx (F := fX1) tb_X1 (nn_ _) bk_X1_place_14 bs_X1_place_14 hz (fun K hK => ?_)
      intro b1 b1b
      have e2 : T1 101 0 1 = T 101 0 1 := hf_14 101 0 1 rfl
      rw [e2] at b1 b1b ⊢
      refine And.intro (fun c3 => ?_) (fun c3 => ?_)
      · refine hK 72 _ [] T1 ?_
        refine j_blx (F := fX1) tb_X1 (nn_ _) bk_X1_place_72 bs_X1_place_72 hz (fun K hK => ?_)
        refine (show po_X1_place T c T1 (none) from ?_)
        exact ⟨rfl, fr_t (fr_0 _ _) (fr_s hf_14 rfl), by rfl⟩
      · refine rg_i (by omega) ?_
        refine rg_i (by omega) ?_
        refine ix_i (by omega) ?_
        intro b4 b4b
        have e5 : T1 431 0 ((c * 4) + g) = T 431 0 ((c * 4) + g) := hf_14 431 0 ((c * 4) + g) rfl
        rw [e5] at b4 b4b ⊢
        intro w6 w6b
        refine And.intro (fun c7 => ?_) (fun c7 => ?_)
        · refine hK 66 [some (vR 101 0), some (vI c), some (vI t), some (vI (wr_ (u + (T 431 0 ((c * 4) + g))))), some (vI g)] [] T1 ?_
          refine j_blx (F := fX1) tb_X1 (nn_ _) bk_X1_place_66 bs_X1_place_66 hz (fun K hK => ?_)
          refine rg_i (by omega) ?_
          refine hK 14 [some (vR 101 0), some (vI c), some (vI t), some (vI (wr_ (u + (T 431 0 ((c * 4) + g))))), some (vI (g + 1))] [] T1 ?_
          refine ih_14 _ ?_ t (wr_ (u + (T 431 0 ((c * 4) + g)))) (g + 1) T1 (Nat.le_refl _) ?_ ?_
          · have hm_14 := hm_14 (); omega
          · exact fr_t (fr_0 _ _) (fr_s hf_14 rfl)
          · omega
        · refine iy_i (by omega) (by omega) ?_
          refine x_nm (fun U8 hU8 => ?_)
          have e9 := up_f hU8
          intro b10 b10b
          have e11 : U8 101 0 4 = T 101 0 4 := (up_k hU8 (by exact Nat.ne_of_beq_eq_false rfl) 0 4).trans (hf_14 101 0 4 rfl)
          rw [e11] at b10 b10b ⊢
          intro w12 w12b
          refine bd_i (by omega) ?_
          refine x_nm (fun U13 hU13 => ?_)
          have e14 := up_f hU13
          refine bd_i (by omega) ?_
          refine x_nm (fun U15 hU15 => ?_)
          have e16 := up_f hU15
          refine (show po_X1_place T c U15 (none) from ?_)
          exact ⟨rfl, fr_u (fr_u (fr_u (fr_t (fr_0 _ _) (fr_s hf_14 rfl)) hU8 rfl) hU13 rfl) hU15 rfl, by rfl⟩
  refine j_blx (F := fX1) tb_X1 (nn_ _) bk_X1_place_0 bs_X1_place_0 hz (fun K hK => ?_)
  intro b17 b17b
  refine hK 5 _ [vI (T 101 0 6), vR 101 0] T ?_
  refine j_callV (y := yX1_takeBelow) (Yc := zX1_takeBelow) (rest := []) [vI (T 101 0 6)] (ct_X1_takeBelow (T := T)) cl_X1_75 (qd_c (by decide +kernel)) (nn_ _) rfl (rf_of rfl) (Nat.le_of_ble_eq_true rfl) (Nat.le_of_ble_eq_true rfl) (Nat.le_of_ble_eq_true rfl) rfl ?_
  rintro U18 _ ⟨x19, rfl, fU18, qU18⟩
  show J_ zX1_place T (po_X1_place T c) 0 0 8 _ [vI x19] U18
  refine j_blx (F := fX1) tb_X1 (nn_ _) bk_X1_place_8 bs_X1_place_8 hz (fun K hK => ?_)
  refine hK 14 [some (vR 101 0), some (vI c), some (vI x19), some (vI 0), some (vI 0)] [] U18 ?_
  refine c_14 _ x19 0 0 U18 (Nat.le_refl _) ?_ ?_
  · exact fr_t (fr_0 _ _) (fr_s fU18 rfl)
  · omega
abbrev cX3_isFormed : ByteArray := prog_5_method_6_code
def yX3_isFormed : MethodName := ⟨RX3, "isFormed", "(II)Z"⟩
def zX3_isFormed : Zm := (RX3, cX3_isFormed, 4, (some .boolean), { frames := 1, cells := 0, slots := 0, locals := 20 })
set_option maxRecDepth 100000 in
theorem cn_X3_89 : cn_ zX10_isSide 1 := ⟨gi_c (lwq_4 (dqc_m (dqc_m (dqc_m (dqc_m (dqa_m (List.mem_of_getElem? (i := 1) rfl)))))) rfl : Cond.code yX10_isSide cX10_isSide 1 (some .boolean) ∈ lw_g), (lwq_4 (dqc_m (dqc_m (dqc_m (dqc_m (dqa_m (List.mem_of_getElem? (i := 0) rfl)))))) rfl : Cond.static yX10_isSide ∈ lw_g), (lwq_1 (List.mem_of_getElem? (i := 1) rfl) rfl : Cond.initialized "SportsHouse" ∈ lw_g), ⟨by decide, by decide, by decide +kernel⟩⟩
theorem ds_X3_isFormed_6 : decode cX3_isFormed 6 = .ok (.tableswitch 83 0 2 #[26, 44, 63], 26) := by decide +kernel
abbrev cX3_brokenLaw : ByteArray := prog_5_method_5_code
def yX3_brokenLaw : MethodName := ⟨RX3, "brokenLaw", "(IIII)I"⟩
def zX3_brokenLaw : Zm := (RX3, cX3_brokenLaw, 5, (some .int), { frames := 2, cells := 0, slots := 0, locals := 45 })
set_option maxRecDepth 100000 in
theorem cl_X3_86 : cv_ RX3 86 yX3_isBounded zX3_isBounded 3 2 := ⟨gi_V (lwq_5 (dqc_m (dqa_m (dqa_m (dqa_m (List.mem_of_getElem? (i := 0) rfl))))) rfl : Cond.methodLink RX3 86 yX3_isBounded ∈ lw_g) (lwq_5 (dqc_m (dqa_m (dqa_m (dqa_m (List.mem_of_getElem? (i := 1) rfl))))) rfl : Cond.instanceMethod yX3_isBounded ∈ lw_g) (lwq_5 (dqc_m (dqa_m (dqa_m (dqa_m (List.mem_of_getElem? (i := 2) rfl))))) rfl : Cond.selects yX3_isBounded.cls yX3_isBounded yX3_isBounded ∈ lw_g) (lwq_1 (dqa_m (dqa_m (List.mem_of_getElem? (i := 2) rfl))) rfl : Cond.initialized yX3_isBounded.cls ∈ lw_g) (lwq_5 (dqc_m (dqa_m (dqa_m (dqa_m (List.mem_of_getElem? (i := 3) rfl))))) rfl : Cond.code yX3_isBounded cX3_isBounded 3 (some .boolean) ∈ lw_g), ⟨nmh_3.1, nmh_3.2, pdq_5⟩, ⟨_, _, rfl⟩⟩
set_option maxRecDepth 100000 in
theorem cl_X3_68 : cv_ RX3 68 yX3_isFormed zX3_isFormed 3 2 := ⟨gi_V (lwq_5 (dqa_m (dqa_m (dqa_m (List.mem_of_getElem? (i := 7) rfl)))) rfl : Cond.methodLink RX3 68 yX3_isFormed ∈ lw_g) (lwq_5 (dqc_m (List.mem_of_getElem? (i := 0) rfl)) rfl : Cond.instanceMethod yX3_isFormed ∈ lw_g) (lwq_5 (dqc_m (List.mem_of_getElem? (i := 1) rfl)) rfl : Cond.selects yX3_isFormed.cls yX3_isFormed yX3_isFormed ∈ lw_g) (lwq_1 (dqa_m (dqa_m (List.mem_of_getElem? (i := 2) rfl))) rfl : Cond.initialized yX3_isFormed.cls ∈ lw_g) (lwq_5 (dqc_m (List.mem_of_getElem? (i := 2) rfl)) rfl : Cond.code yX3_isFormed cX3_isFormed 4 (some .boolean) ∈ lw_g), ⟨nmh_3.1, nmh_3.2, pdq_5⟩, ⟨_, _, rfl⟩⟩
set_option maxRecDepth 100000 in
theorem cl_X3_72 : cv_ RX3 72 yX3_isAllowed zX3_isAllowed 3 2 := ⟨gi_V (lwq_5 (dqc_m (List.mem_of_getElem? (i := 4) rfl)) rfl : Cond.methodLink RX3 72 yX3_isAllowed ∈ lw_g) (lwq_5 (dqc_m (List.mem_of_getElem? (i := 6) rfl)) rfl : Cond.instanceMethod yX3_isAllowed ∈ lw_g) (lw_sel 90 rfl : Cond.selects yX3_isAllowed.cls yX3_isAllowed yX3_isAllowed ∈ lw_g) (lwq_1 (dqa_m (dqa_m (List.mem_of_getElem? (i := 2) rfl))) rfl : Cond.initialized yX3_isAllowed.cls ∈ lw_g) (lwq_5 (dqc_m (List.mem_of_getElem? (i := 7) rfl)) rfl : Cond.code yX3_isAllowed cX3_isAllowed 3 (some .boolean) ∈ lw_g), ⟨nmh_3.1, nmh_3.2, pdq_5⟩, ⟨_, _, rfl⟩⟩
set_option maxRecDepth 100000 in
theorem cl_X3_75 : cv_ RX3 75 yX3_needsPerson zX3_needsPerson 3 1 := ⟨gi_V (lwq_5 (dqc_m (dqa_m (List.mem_of_getElem? (i := 0) rfl))) rfl : Cond.methodLink RX3 75 yX3_needsPerson ∈ lw_g) (lwq_5 (dqc_m (dqa_m (List.mem_of_getElem? (i := 2) rfl))) rfl : Cond.instanceMethod yX3_needsPerson ∈ lw_g) (lw_sel 92 rfl : Cond.selects yX3_needsPerson.cls yX3_needsPerson yX3_needsPerson ∈ lw_g) (lwq_1 (dqa_m (dqa_m (List.mem_of_getElem? (i := 2) rfl))) rfl : Cond.initialized yX3_needsPerson.cls ∈ lw_g) (lwq_5 (dqc_m (dqa_m (List.mem_of_getElem? (i := 3) rfl))) rfl : Cond.code yX3_needsPerson cX3_needsPerson 2 (some .boolean) ∈ lw_g), ⟨nmh_3.1, nmh_3.2, pdq_7⟩, ⟨_, _, rfl⟩⟩
abbrev po_J7_fill_542 (T : Zt) (p : Int) (v : Int) : Zt → Option Zv → Prop := fun T' r => r = none ∧ fr_ [(542, [])] T T' ∧ oi_ T T' p ∧ ∀ j, 0 ≤ j → j < 96 → T' 542 p j = v
set_option maxHeartbeats 4000000 in
theorem ct_J7_fill_542 {T : Zt} {p : Int} {v : Int} (h1 : (-2147483648) ≤ v ∧ v ≤ 2147483647) : Ct_ yJ7_fill_53178 zJ7_fill_53178 T [vR 542 p, vI v] (po_J7_fill_542 T p v) := by
  refine ct_of (by decide) rfl rfl (Nat.le_of_ble_eq_true rfl) (fun hT hav => ?_)
  have hr_v : -2147483648 ≤ v ∧ v ≤ 2147483647 := hav (vI v) (List.mem_cons_of_mem _ List.mem_cons_self)
  have hz : zJ7_fill_53178.2.2.2.1 = some .boolean → ∀ (T' : Zt) (x : Int), po_J7_fill_542 T p v T' (some (vI x)) → 0 ≤ x ∧ x ≤ 1 := fun h => by cases h
  show J_ zJ7_fill_53178 T (po_J7_fill_542 T p v) 0 0 0 [some (vR 542 p), some (vI v), none, none] [] T
  have c_5 : ∀ (nn : Nat) (j : Int) (T1 : Zt), ((96 - j).toNat) ≤ nn → (fr_ [(542, [])] T T1) → (0 ≤ j ∧ j ≤ 96) → (oi_ T T1 p) → (∀ q, 0 ≤ q → q < j → T1 542 p q = v) → J_ zJ7_fill_53178 T (po_J7_fill_542 T p v) 0 0 5 [some (vR 542 p), some (vI v), some (vI j), some (vI 96)] [] T1 := by
    intro nn
    induction nn using Nat.strongRecOn with
    | _ nn ih_5 =>
      intro j T1 hm_5 hf_5 i1 o1 f1
      replace hm_5 := fun (_ : Unit) => hm_5
      refine j_blx (F := fJ7) tb_J7 (nn_ _) bk_J7_fill_53178_5 bs_J7_fill_53178_5 hz (fun K hK => ?_)
      refine And.intro (fun c1 => ?_) (fun c1 => ?_)
      · refine hK 20 _ [] T1 ?_
        refine j_blx (F := fJ7) tb_J7 (nn_ _) bk_J7_fill_53178_20 bs_J7_fill_53178_20 hz (fun K hK => ?_)
        refine (show po_J7_fill_542 T p v T1 (none) from ?_)
        exact ⟨rfl, fr_t (fr_0 _ _) (fr_s hf_5 rfl), o1, fun q a b => f1 q a (by omega)⟩
      · refine iy_i (by omega) (by omega) ?_
        refine x_nm (fun U2 hU2 => ?_)
        have e3 := up_f hU2
        refine rg_i (by omega) ?_
        refine hK 5 [some (vR 542 p), some (vI v), some (vI (j + 1)), some (vI 96)] [] U2 ?_
        refine ih_5 _ ?_ (j + 1) U2 (Nat.le_refl _) ?_ ?_ ?_ ?_
        · have hm_5 := hm_5 (); omega
        · exact fr_u (fr_t (fr_0 _ _) (fr_s hf_5 rfl)) hU2 rfl
        · omega
        · exact oi_u o1 hU2
        · intro q a b
          by_cases z : q = j
          · rw [z]; exact up_f hU2
          · rw [up_g hU2 (fun y => z y.2.2)]; exact f1 q a (by omega)
  refine j_blx (F := fJ7) tb_J7 (nn_ _) bk_J7_fill_53178_0 bs_J7_fill_53178_0 hz (fun K hK => ?_)
  refine hK 5 [some (vR 542 p), some (vI v), some (vI 0), some (vI 96)] [] T ?_
  refine c_5 _ 0 T (Nat.le_refl _) ?_ ?_ ?_ ?_
  · exact fr_0 _ _
  · omega
  · exact oi_r
  · intro q a b; omega
abbrev po_J7_fill_543 (T : Zt) (p : Int) (v : Int) : Zt → Option Zv → Prop := fun T' r => r = none ∧ fr_ [(543, [])] T T' ∧ oi_ T T' p ∧ ∀ j, 0 ≤ j → j < 12 → T' 543 p j = v
set_option maxHeartbeats 4000000 in
theorem ct_J7_fill_543 {T : Zt} {p : Int} {v : Int} (h1 : (-2147483648) ≤ v ∧ v ≤ 2147483647) : Ct_ yJ7_fill_53178 zJ7_fill_53178 T [vR 543 p, vI v] (po_J7_fill_543 T p v) := by
  refine ct_of (by decide) rfl rfl (Nat.le_of_ble_eq_true rfl) (fun hT hav => ?_)
  have hr_v : -2147483648 ≤ v ∧ v ≤ 2147483647 := hav (vI v) (List.mem_cons_of_mem _ List.mem_cons_self)
  have hz : zJ7_fill_53178.2.2.2.1 = some .boolean → ∀ (T' : Zt) (x : Int), po_J7_fill_543 T p v T' (some (vI x)) → 0 ≤ x ∧ x ≤ 1 := fun h => by cases h
  show J_ zJ7_fill_53178 T (po_J7_fill_543 T p v) 0 0 0 [some (vR 543 p), some (vI v), none, none] [] T
  have c_5 : ∀ (nn : Nat) (j : Int) (T1 : Zt), ((12 - j).toNat) ≤ nn → (fr_ [(543, [])] T T1) → (0 ≤ j ∧ j ≤ 12) → (oi_ T T1 p) → (∀ q, 0 ≤ q → q < j → T1 543 p q = v) → J_ zJ7_fill_53178 T (po_J7_fill_543 T p v) 0 0 5 [some (vR 543 p), some (vI v), some (vI j), some (vI 12)] [] T1 := by
    intro nn
    induction nn using Nat.strongRecOn with
    | _ nn ih_5 =>
      intro j T1 hm_5 hf_5 i1 o1 f1
      replace hm_5 := fun (_ : Unit) => hm_5
      refine j_blx (F := fJ7) tb_J7 (nn_ _) bk_J7_fill_53178_5 bs_J7_fill_53178_5 hz (fun K hK => ?_)
      refine And.intro (fun c1 => ?_) (fun c1 => ?_)
      · refine hK 20 _ [] T1 ?_
        refine j_blx (F := fJ7) tb_J7 (nn_ _) bk_J7_fill_53178_20 bs_J7_fill_53178_20 hz (fun K hK => ?_)
        refine (show po_J7_fill_543 T p v T1 (none) from ?_)
        exact ⟨rfl, fr_t (fr_0 _ _) (fr_s hf_5 rfl), o1, fun q a b => f1 q a (by omega)⟩
      · refine iy_i (by omega) (by omega) ?_
        refine x_nm (fun U2 hU2 => ?_)
        have e3 := up_f hU2
        refine rg_i (by omega) ?_
        refine hK 5 [some (vR 543 p), some (vI v), some (vI (j + 1)), some (vI 12)] [] U2 ?_
        refine ih_5 _ ?_ (j + 1) U2 (Nat.le_refl _) ?_ ?_ ?_ ?_
        · have hm_5 := hm_5 (); omega
        · exact fr_u (fr_t (fr_0 _ _) (fr_s hf_5 rfl)) hU2 rfl
        · omega
        · exact oi_u o1 hU2
        · intro q a b
          by_cases z : q = j
          · rw [z]; exact up_f hU2
          · rw [up_g hU2 (fun y => z y.2.2)]; exact f1 q a (by omega)
  refine j_blx (F := fJ7) tb_J7 (nn_ _) bk_J7_fill_53178_0 bs_J7_fill_53178_0 hz (fun K hK => ?_)
  refine hK 5 [some (vR 543 p), some (vI v), some (vI 0), some (vI 12)] [] T ?_
  refine c_5 _ 0 T (Nat.le_refl _) ?_ ?_ ?_ ?_
  · exact fr_0 _ _
  · omega
  · exact oi_r
  · intro q a b; omega
abbrev po_J7_fill_544 (T : Zt) (p : Int) (v : Int) : Zt → Option Zv → Prop := fun T' r => r = none ∧ fr_ [(544, [])] T T' ∧ oi_ T T' p ∧ ∀ j, 0 ≤ j → j < 12 → T' 544 p j = v
set_option maxHeartbeats 4000000 in
theorem ct_J7_fill_544 {T : Zt} {p : Int} {v : Int} (h1 : (-2147483648) ≤ v ∧ v ≤ 2147483647) : Ct_ yJ7_fill_53178 zJ7_fill_53178 T [vR 544 p, vI v] (po_J7_fill_544 T p v) := by
  refine ct_of (by decide) rfl rfl (Nat.le_of_ble_eq_true rfl) (fun hT hav => ?_)
  have hr_v : -2147483648 ≤ v ∧ v ≤ 2147483647 := hav (vI v) (List.mem_cons_of_mem _ List.mem_cons_self)
  have hz : zJ7_fill_53178.2.2.2.1 = some .boolean → ∀ (T' : Zt) (x : Int), po_J7_fill_544 T p v T' (some (vI x)) → 0 ≤ x ∧ x ≤ 1 := fun h => by cases h
  show J_ zJ7_fill_53178 T (po_J7_fill_544 T p v) 0 0 0 [some (vR 544 p), some (vI v), none, none] [] T
  have c_5 : ∀ (nn : Nat) (j : Int) (T1 : Zt), ((12 - j).toNat) ≤ nn → (fr_ [(544, [])] T T1) → (0 ≤ j ∧ j ≤ 12) → (oi_ T T1 p) → (∀ q, 0 ≤ q → q < j → T1 544 p q = v) → J_ zJ7_fill_53178 T (po_J7_fill_544 T p v) 0 0 5 [some (vR 544 p), some (vI v), some (vI j), some (vI 12)] [] T1 := by
    intro nn
    induction nn using Nat.strongRecOn with
    | _ nn ih_5 =>
      intro j T1 hm_5 hf_5 i1 o1 f1
      replace hm_5 := fun (_ : Unit) => hm_5
      refine j_blx (F := fJ7) tb_J7 (nn_ _) bk_J7_fill_53178_5 bs_J7_fill_53178_5 hz (fun K hK => ?_)
      refine And.intro (fun c1 => ?_) (fun c1 => ?_)
      · refine hK 20 _ [] T1 ?_
        refine j_blx (F := fJ7) tb_J7 (nn_ _) bk_J7_fill_53178_20 bs_J7_fill_53178_20 hz (fun K hK => ?_)
        refine (show po_J7_fill_544 T p v T1 (none) from ?_)
        exact ⟨rfl, fr_t (fr_0 _ _) (fr_s hf_5 rfl), o1, fun q a b => f1 q a (by omega)⟩
      · refine iy_i (by omega) (by omega) ?_
        refine x_nm (fun U2 hU2 => ?_)
        have e3 := up_f hU2
        refine rg_i (by omega) ?_
        refine hK 5 [some (vR 544 p), some (vI v), some (vI (j + 1)), some (vI 12)] [] U2 ?_
        refine ih_5 _ ?_ (j + 1) U2 (Nat.le_refl _) ?_ ?_ ?_ ?_
        · have hm_5 := hm_5 (); omega
        · exact fr_u (fr_t (fr_0 _ _) (fr_s hf_5 rfl)) hU2 rfl
        · omega
        · exact oi_u o1 hU2
        · intro q a b
          by_cases z : q = j
          · rw [z]; exact up_f hU2
          · rw [up_g hU2 (fun y => z y.2.2)]; exact f1 q a (by omega)
  refine j_blx (F := fJ7) tb_J7 (nn_ _) bk_J7_fill_53178_0 bs_J7_fill_53178_0 hz (fun K hK => ?_)
  refine hK 5 [some (vR 544 p), some (vI v), some (vI 0), some (vI 12)] [] T ?_
  refine c_5 _ 0 T (Nat.le_refl _) ?_ ?_ ?_ ?_
  · exact fr_0 _ _
  · omega
  · exact oi_r
  · intro q a b; omega
abbrev po_J7_fill_545 (T : Zt) (p : Int) (v : Int) : Zt → Option Zv → Prop := fun T' r => r = none ∧ fr_ [(545, [])] T T' ∧ oi_ T T' p ∧ ∀ j, 0 ≤ j → j < 144 → T' 545 p j = v
set_option maxHeartbeats 4000000 in
theorem ct_J7_fill_545 {T : Zt} {p : Int} {v : Int} (h1 : (-2147483648) ≤ v ∧ v ≤ 2147483647) : Ct_ yJ7_fill_53178 zJ7_fill_53178 T [vR 545 p, vI v] (po_J7_fill_545 T p v) := by
  refine ct_of (by decide) rfl rfl (Nat.le_of_ble_eq_true rfl) (fun hT hav => ?_)
  have hr_v : -2147483648 ≤ v ∧ v ≤ 2147483647 := hav (vI v) (List.mem_cons_of_mem _ List.mem_cons_self)
  have hz : zJ7_fill_53178.2.2.2.1 = some .boolean → ∀ (T' : Zt) (x : Int), po_J7_fill_545 T p v T' (some (vI x)) → 0 ≤ x ∧ x ≤ 1 := fun h => by cases h
  show J_ zJ7_fill_53178 T (po_J7_fill_545 T p v) 0 0 0 [some (vR 545 p), some (vI v), none, none] [] T
  have c_5 : ∀ (nn : Nat) (j : Int) (T1 : Zt), ((144 - j).toNat) ≤ nn → (fr_ [(545, [])] T T1) → (0 ≤ j ∧ j ≤ 144) → (oi_ T T1 p) → (∀ q, 0 ≤ q → q < j → T1 545 p q = v) → J_ zJ7_fill_53178 T (po_J7_fill_545 T p v) 0 0 5 [some (vR 545 p), some (vI v), some (vI j), some (vI 144)] [] T1 := by
    intro nn
    induction nn using Nat.strongRecOn with
    | _ nn ih_5 =>
      intro j T1 hm_5 hf_5 i1 o1 f1
      replace hm_5 := fun (_ : Unit) => hm_5
      refine j_blx (F := fJ7) tb_J7 (nn_ _) bk_J7_fill_53178_5 bs_J7_fill_53178_5 hz (fun K hK => ?_)
      refine And.intro (fun c1 => ?_) (fun c1 => ?_)
      · refine hK 20 _ [] T1 ?_
        refine j_blx (F := fJ7) tb_J7 (nn_ _) bk_J7_fill_53178_20 bs_J7_fill_53178_20 hz (fun K hK => ?_)
        refine (show po_J7_fill_545 T p v T1 (none) from ?_)
        exact ⟨rfl, fr_t (fr_0 _ _) (fr_s hf_5 rfl), o1, fun q a b => f1 q a (by omega)⟩
      · refine iy_i (by omega) (by omega) ?_
        refine x_nm (fun U2 hU2 => ?_)
        have e3 := up_f hU2
        refine rg_i (by omega) ?_
        refine hK 5 [some (vR 545 p), some (vI v), some (vI (j + 1)), some (vI 144)] [] U2 ?_
        refine ih_5 _ ?_ (j + 1) U2 (Nat.le_refl _) ?_ ?_ ?_ ?_
        · have hm_5 := hm_5 (); omega
        · exact fr_u (fr_t (fr_0 _ _) (fr_s hf_5 rfl)) hU2 rfl
        · omega
        · exact oi_u o1 hU2
        · intro q a b
          by_cases z : q = j
          · rw [z]; exact up_f hU2
          · rw [up_g hU2 (fun y => z y.2.2)]; exact f1 q a (by omega)
  refine j_blx (F := fJ7) tb_J7 (nn_ _) bk_J7_fill_53178_0 bs_J7_fill_53178_0 hz (fun K hK => ?_)
  refine hK 5 [some (vR 545 p), some (vI v), some (vI 0), some (vI 144)] [] T ?_
  refine c_5 _ 0 T (Nat.le_refl _) ?_ ?_ ?_ ?_
  · exact fr_0 _ _
  · omega
  · exact oi_r
  · intro q a b; omega
abbrev po_J7_fill_546 (T : Zt) (p : Int) (v : Int) : Zt → Option Zv → Prop := fun T' r => r = none ∧ fr_ [(546, [])] T T' ∧ oi_ T T' p ∧ ∀ j, 0 ≤ j → j < 144 → T' 546 p j = v
set_option maxHeartbeats 4000000 in
theorem ct_J7_fill_546 {T : Zt} {p : Int} {v : Int} (h1 : (-2147483648) ≤ v ∧ v ≤ 2147483647) : Ct_ yJ7_fill_53178 zJ7_fill_53178 T [vR 546 p, vI v] (po_J7_fill_546 T p v) := by
  refine ct_of (by decide) rfl rfl (Nat.le_of_ble_eq_true rfl) (fun hT hav => ?_)
  have hr_v : -2147483648 ≤ v ∧ v ≤ 2147483647 := hav (vI v) (List.mem_cons_of_mem _ List.mem_cons_self)
  have hz : zJ7_fill_53178.2.2.2.1 = some .boolean → ∀ (T' : Zt) (x : Int), po_J7_fill_546 T p v T' (some (vI x)) → 0 ≤ x ∧ x ≤ 1 := fun h => by cases h
  show J_ zJ7_fill_53178 T (po_J7_fill_546 T p v) 0 0 0 [some (vR 546 p), some (vI v), none, none] [] T
  have c_5 : ∀ (nn : Nat) (j : Int) (T1 : Zt), ((144 - j).toNat) ≤ nn → (fr_ [(546, [])] T T1) → (0 ≤ j ∧ j ≤ 144) → (oi_ T T1 p) → (∀ q, 0 ≤ q → q < j → T1 546 p q = v) → J_ zJ7_fill_53178 T (po_J7_fill_546 T p v) 0 0 5 [some (vR 546 p), some (vI v), some (vI j), some (vI 144)] [] T1 := by
    intro nn
    induction nn using Nat.strongRecOn with
    | _ nn ih_5 =>
      intro j T1 hm_5 hf_5 i1 o1 f1
      replace hm_5 := fun (_ : Unit) => hm_5
      refine j_blx (F := fJ7) tb_J7 (nn_ _) bk_J7_fill_53178_5 bs_J7_fill_53178_5 hz (fun K hK => ?_)
      refine And.intro (fun c1 => ?_) (fun c1 => ?_)
      · refine hK 20 _ [] T1 ?_
        refine j_blx (F := fJ7) tb_J7 (nn_ _) bk_J7_fill_53178_20 bs_J7_fill_53178_20 hz (fun K hK => ?_)
        refine (show po_J7_fill_546 T p v T1 (none) from ?_)
        exact ⟨rfl, fr_t (fr_0 _ _) (fr_s hf_5 rfl), o1, fun q a b => f1 q a (by omega)⟩
      · refine iy_i (by omega) (by omega) ?_
        refine x_nm (fun U2 hU2 => ?_)
        have e3 := up_f hU2
        refine rg_i (by omega) ?_
        refine hK 5 [some (vR 546 p), some (vI v), some (vI (j + 1)), some (vI 144)] [] U2 ?_
        refine ih_5 _ ?_ (j + 1) U2 (Nat.le_refl _) ?_ ?_ ?_ ?_
        · have hm_5 := hm_5 (); omega
        · exact fr_u (fr_t (fr_0 _ _) (fr_s hf_5 rfl)) hU2 rfl
        · omega
        · exact oi_u o1 hU2
        · intro q a b
          by_cases z : q = j
          · rw [z]; exact up_f hU2
          · rw [up_g hU2 (fun y => z y.2.2)]; exact f1 q a (by omega)
  refine j_blx (F := fJ7) tb_J7 (nn_ _) bk_J7_fill_53178_0 bs_J7_fill_53178_0 hz (fun K hK => ?_)
  refine hK 5 [some (vR 546 p), some (vI v), some (vI 0), some (vI 144)] [] T ?_
  refine c_5 _ 0 T (Nat.le_refl _) ?_ ?_ ?_ ?_
  · exact fr_0 _ _
  · omega
  · exact oi_r
  · intro q a b; omega
abbrev cX7_tally : ByteArray := prog_9_method_2_code
def yX7_tally : MethodName := ⟨RX7, "tally", "(LSportsHouse$Competition;I)V"⟩
def zX7_tally : Zm := (RX7, cX7_tally, 5, none, { frames := 2, cells := 0, slots := 0, locals := 52 })
theorem bk_X7_tally_126 : ck_ fX7 none cX7_tally 126 [.iload 3, .aload 0, .tableswitch 0 7 1 #[], .tableswitch 0 0 5 #[], .if_icmp .ge 182, .aload 0, .tableswitch 0 7 2 #[], .iload 3, .iconst 8, .imul, .iconst 6, .iadd, .dup2, .iaload, .aload 0, .tableswitch 0 7 0 #[], .iload 2, .aload 0, .tableswitch 0 7 1 #[], .tableswitch 0 0 0 #[], .aload 0, .tableswitch 0 7 1 #[], .tableswitch 0 0 3 #[], .iload 3, .iaload] 171 = true := qck_r (nn_ _) (by decide +kernel)
theorem bs_X7_tally_126 {P : Zt → Option Zv → Prop} (K : Int → Zl → List Zv → Zt → Prop) : sx_ K P [.iload 3, .aload 0, .tableswitch 0 7 1 #[], .tableswitch 0 0 5 #[], .if_icmp .ge 182, .aload 0, .tableswitch 0 7 2 #[], .iload 3, .iconst 8, .imul, .iconst 6, .iadd, .dup2, .iaload, .aload 0, .tableswitch 0 7 0 #[], .iload 2, .aload 0, .tableswitch 0 7 1 #[], .tableswitch 0 0 0 #[], .aload 0, .tableswitch 0 7 1 #[], .tableswitch 0 0 3 #[], .iload 3, .iaload] 171 = x_iload 3 (x_aload 0 (x_g5 107 100 1 (x_g0 100 5 0 12 (x_if_icmp .ge 182 K (x_aload 0 (x_g1 107 542 (x_iload 3 (x_iconst 8 (x_imul (x_iconst 6 (x_iadd (x_dup2 (x_iaload (x_aload 0 (x_g1 107 106 (x_iload 2 (x_aload 0 (x_g5 107 100 1 (x_g0 100 0 0 3 (x_aload 0 (x_g5 107 100 1 (x_g2 100 403 (x_iload 3 (x_iaload (K 171))))))))))))))))))))))))) := ((xe_iload 3).trans (congrArg (x_iload 3) ((xe_aload 0).trans (congrArg (x_aload 0) ((xe_g5 (kk := 107) rfl tl_7_1).trans (congrArg (x_g5 107 100 1) ((xe_g0 (kk := 100) rfl tl_0_5).trans (congrArg (x_g0 100 5 0 12) ((xe_if_icmp .ge 182).trans (congrArg (x_if_icmp .ge 182 K) ((xe_aload 0).trans (congrArg (x_aload 0) ((xe_g1 (kk := 107) rfl tl_7_2).trans (congrArg (x_g1 107 542) ((xe_iload 3).trans (congrArg (x_iload 3) ((xe_iconst 8).trans (congrArg (x_iconst 8) ((xe_imul).trans (congrArg (x_imul) ((xe_iconst 6).trans (congrArg (x_iconst 6) ((xe_iadd).trans (congrArg (x_iadd) ((xe_dup2).trans (congrArg (x_dup2) ((xe_iaload).trans (congrArg (x_iaload) ((xe_aload 0).trans (congrArg (x_aload 0) ((xe_g1 (kk := 107) rfl tl_7_0).trans (congrArg (x_g1 107 106) ((xe_iload 2).trans (congrArg (x_iload 2) ((xe_aload 0).trans (congrArg (x_aload 0) ((xe_g5 (kk := 107) rfl tl_7_1).trans (congrArg (x_g5 107 100 1) ((xe_g0 (kk := 100) rfl tl_0_0).trans (congrArg (x_g0 100 0 0 3) ((xe_aload 0).trans (congrArg (x_aload 0) ((xe_g5 (kk := 107) rfl tl_7_1).trans (congrArg (x_g5 107 100 1) ((xe_g2 (kk := 100) rfl tl_0_3).trans (congrArg (x_g2 100 403) ((xe_iload 3).trans (congrArg (x_iload 3) ((xe_iaload).trans (congrArg (x_iaload) xe_nil))))))))))))))))))))))))))))))))))))))))))))))))))
theorem bk_X7_tally_182 : ck_ fX7 none cX7_tally 182 [.return_] 183 = true := qck_r (nn_ _) (by decide +kernel)
theorem bs_X7_tally_182 {P : Zt → Option Zv → Prop} (K : Int → Zl → List Zv → Zt → Prop) : sx_ K P [.return_] 183 = x_return_ P := (xe_return_)
set_option maxRecDepth 100000 in
theorem cl_X7_105 : cv_ RX7 105 yX6_deductedUpTo zX6_deductedUpTo 6 3 := ⟨gi_V (lwq_5 (dqc_m (dqc_m (dqc_m (dqc_m (dqc_m (dqc_m (dqa_m (dqa_m (dqa_m (List.mem_of_getElem? (i := 4) rfl)))))))))) rfl : Cond.methodLink RX7 105 yX6_deductedUpTo ∈ lw_g) (lwq_5 (dqc_m (dqc_m (dqc_m (dqc_m (dqc_m (dqc_m (dqa_m (dqa_m (dqa_m (List.mem_of_getElem? (i := 5) rfl)))))))))) rfl : Cond.instanceMethod yX6_deductedUpTo ∈ lw_g) (lwq_5 (dqc_m (dqc_m (dqc_m (dqc_m (dqc_m (dqc_m (dqa_m (dqa_m (dqa_m (List.mem_of_getElem? (i := 6) rfl)))))))))) rfl : Cond.selects yX6_deductedUpTo.cls yX6_deductedUpTo yX6_deductedUpTo ∈ lw_g) (lwq_1 (List.mem_of_getElem? (i := 4) rfl) rfl : Cond.initialized yX6_deductedUpTo.cls ∈ lw_g) (lwq_5 (dqc_m (dqc_m (dqc_m (dqc_m (dqc_m (dqc_m (dqa_m (dqa_m (dqa_m (List.mem_of_getElem? (i := 7) rfl)))))))))) rfl : Cond.code yX6_deductedUpTo cX6_deductedUpTo 6 (some .int) ∈ lw_g), ⟨nmh_6.1, nmh_6.2, pdq_8⟩, ⟨_, _, rfl⟩⟩
theorem bk_X7_tally_174 : ck_ fX7 none cX7_tally 174 [.fsub, .iastore, .iinc 3 1, .goto 126] 182 = true := qck_r (nn_ _) (by decide +kernel)
theorem bs_X7_tally_174 {P : Zt → Option Zv → Prop} (K : Int → Zl → List Zv → Zt → Prop) : sx_ K P [.fsub, .iastore, .iinc 3 1, .goto 126] 182 = x_fsub (x_iastore (x_iinc 3 1 (x_goto 126 K))) := ((xe_fsub).trans (congrArg (x_fsub) ((xe_iastore).trans (congrArg (x_iastore) ((xe_iinc 3 1).trans (congrArg (x_iinc 3 1) (xe_goto 126)))))))
theorem bk_X7_tally_47 : ck_ fX7 none cX7_tally 47 [.iload 3, .aload 0, .tableswitch 0 7 1 #[], .tableswitch 0 0 8 #[], .if_icmp .ge 124, .aload 0, .tableswitch 0 7 0 #[], .tableswitch 0 6 3 #[], .aload 0, .tableswitch 0 7 1 #[], .tableswitch 0 0 7 #[], .iload 3, .iadd, .aaload, .astore 4, .aload 4, .tableswitch 0 2 5 #[], .iload 2, .if_icmp .gt 118, .aload 4] 88 = true := qck_r (nn_ _) (by decide +kernel)
theorem bs_X7_tally_47 {P : Zt → Option Zv → Prop} (K : Int → Zl → List Zv → Zt → Prop) : sx_ K P [.iload 3, .aload 0, .tableswitch 0 7 1 #[], .tableswitch 0 0 8 #[], .if_icmp .ge 124, .aload 0, .tableswitch 0 7 0 #[], .tableswitch 0 6 3 #[], .aload 0, .tableswitch 0 7 1 #[], .tableswitch 0 0 7 #[], .iload 3, .iadd, .aaload, .astore 4, .aload 4, .tableswitch 0 2 5 #[], .iload 2, .if_icmp .gt 118, .aload 4] 88 = x_iload 3 (x_aload 0 (x_g5 107 100 1 (x_g0 100 8 0 400 (x_if_icmp .ge 124 K (x_aload 0 (x_g1 107 106 (x_g1 106 523 (x_aload 0 (x_g5 107 100 1 (x_g0 100 7 0 400 (x_iload 3 (x_iadd (x_aaload (x_astore 4 (x_aload 4 (x_g0 102 5 0 999 (x_iload 2 (x_if_icmp .gt 118 K (x_aload 4 (K 88)))))))))))))))))))) := ((xe_iload 3).trans (congrArg (x_iload 3) ((xe_aload 0).trans (congrArg (x_aload 0) ((xe_g5 (kk := 107) rfl tl_7_1).trans (congrArg (x_g5 107 100 1) ((xe_g0 (kk := 100) rfl tl_0_8).trans (congrArg (x_g0 100 8 0 400) ((xe_if_icmp .ge 124).trans (congrArg (x_if_icmp .ge 124 K) ((xe_aload 0).trans (congrArg (x_aload 0) ((xe_g1 (kk := 107) rfl tl_7_0).trans (congrArg (x_g1 107 106) ((xe_g1 (kk := 106) rfl tl_6_3).trans (congrArg (x_g1 106 523) ((xe_aload 0).trans (congrArg (x_aload 0) ((xe_g5 (kk := 107) rfl tl_7_1).trans (congrArg (x_g5 107 100 1) ((xe_g0 (kk := 100) rfl tl_0_7).trans (congrArg (x_g0 100 7 0 400) ((xe_iload 3).trans (congrArg (x_iload 3) ((xe_iadd).trans (congrArg (x_iadd) ((xe_aaload).trans (congrArg (x_aaload) ((xe_astore 4).trans (congrArg (x_astore 4) ((xe_aload 4).trans (congrArg (x_aload 4) ((xe_g0 (kk := 102) rfl tl_2_5).trans (congrArg (x_g0 102 5 0 999) ((xe_iload 2).trans (congrArg (x_iload 2) ((xe_if_icmp .gt 118).trans (congrArg (x_if_icmp .gt 118 K) ((xe_aload 4).trans (congrArg (x_aload 4) xe_nil))))))))))))))))))))))))))))))))))))))))
theorem bk_X7_tally_124 : ck_ fX7 none cX7_tally 124 [.iconst 0, .istore 3] 126 = true := qck_r (nn_ _) (by decide +kernel)
theorem bs_X7_tally_124 {P : Zt → Option Zv → Prop} (K : Int → Zl → List Zv → Zt → Prop) : sx_ K P [.iconst 0, .istore 3] 126 = x_iconst 0 (x_istore 3 (K 126)) := ((xe_iconst 0).trans (congrArg (x_iconst 0) ((xe_istore 3).trans (congrArg (x_istore 3) xe_nil))))
theorem bk_X7_tally_118 : ck_ fX7 none cX7_tally 118 [.iinc 3 1, .goto 47] 124 = true := qck_r (nn_ _) (by decide +kernel)
theorem bs_X7_tally_118 {P : Zt → Option Zv → Prop} (K : Int → Zl → List Zv → Zt → Prop) : sx_ K P [.iinc 3 1, .goto 47] 124 = x_iinc 3 1 (x_goto 47 K) := ((xe_iinc 3 1).trans (congrArg (x_iinc 3 1) (xe_goto 47)))
set_option maxRecDepth 100000 in
theorem cl_X7_80 : cv_ RX7 80 yX2_isDecided zX2_isDecided 2 0 := ⟨gi_V (lwq_5 (dqc_m (dqc_m (dqc_m (dqc_m (dqc_m (dqc_m (dqa_m (List.mem_of_getElem? (i := 5) rfl)))))))) rfl : Cond.methodLink RX7 80 yX2_isDecided ∈ lw_g) (lwq_4 (dqc_m (dqc_m (dqc_m (dqc_m (dqa_m (dqa_m (dqa_m (List.mem_of_getElem? (i := 3) rfl)))))))) rfl : Cond.instanceMethod yX2_isDecided ∈ lw_g) (lwq_4 (dqc_m (dqc_m (dqc_m (dqc_m (dqa_m (dqa_m (dqa_m (List.mem_of_getElem? (i := 4) rfl)))))))) rfl : Cond.selects yX2_isDecided.cls yX2_isDecided yX2_isDecided ∈ lw_g) (lwq_1 (dqa_m (dqa_m (List.mem_of_getElem? (i := 0) rfl))) rfl : Cond.initialized yX2_isDecided.cls ∈ lw_g) (lwq_4 (dqc_m (dqc_m (dqc_m (dqc_m (dqa_m (dqa_m (dqa_m (List.mem_of_getElem? (i := 5) rfl)))))))) rfl : Cond.code yX2_isDecided cX2_isDecided 1 (some .boolean) ∈ lw_g), ⟨nmh_10.1, nmh_10.2, pdq_18⟩, ⟨_, _, rfl⟩⟩
theorem bk_X7_tally_91 : ck_ fX7 none cX7_tally 91 [.ifCond .eq 118, .aload 0, .aload 4, .aload 4, .iconst 0] 100 = true := qck_r (nn_ _) (by decide +kernel)
theorem bs_X7_tally_91 {P : Zt → Option Zv → Prop} (K : Int → Zl → List Zv → Zt → Prop) : sx_ K P [.ifCond .eq 118, .aload 0, .aload 4, .aload 4, .iconst 0] 100 = x_ifCond .eq 118 K (x_aload 0 (x_aload 4 (x_aload 4 (x_iconst 0 (K 100))))) := ((xe_ifCond .eq 118).trans (congrArg (x_ifCond .eq 118 K) ((xe_aload 0).trans (congrArg (x_aload 0) ((xe_aload 4).trans (congrArg (x_aload 4) ((xe_aload 4).trans (congrArg (x_aload 4) ((xe_iconst 0).trans (congrArg (x_iconst 0) xe_nil))))))))))
set_option maxRecDepth 100000 in
theorem cl_X7_84 : cv_ RX7 84 yX2_scoreOf zX2_scoreOf 2 1 := ⟨gi_V (lwq_5 (dqc_m (dqc_m (dqc_m (dqc_m (dqc_m (dqc_m (dqa_m (List.mem_of_getElem? (i := 6) rfl)))))))) rfl : Cond.methodLink RX7 84 yX2_scoreOf ∈ lw_g) (lwq_4 (dqc_m (dqa_m (dqa_m (dqa_m (List.mem_of_getElem? (i := 6) rfl))))) rfl : Cond.instanceMethod yX2_scoreOf ∈ lw_g) (lwq_4 (dqc_m (dqa_m (dqa_m (dqa_m (List.mem_of_getElem? (i := 7) rfl))))) rfl : Cond.selects yX2_scoreOf.cls yX2_scoreOf yX2_scoreOf ∈ lw_g) (lwq_1 (dqa_m (dqa_m (List.mem_of_getElem? (i := 0) rfl))) rfl : Cond.initialized yX2_scoreOf.cls ∈ lw_g) (lwq_4 (dqc_m (dqc_m (List.mem_of_getElem? (i := 0) rfl))) rfl : Cond.code yX2_scoreOf cX2_scoreOf 2 (some .int) ∈ lw_g), ⟨nmh_10.1, nmh_10.2, pdq_15⟩, ⟨_, _, rfl⟩⟩
theorem bk_X7_tally_103 : ck_ fX7 none cX7_tally 103 [.aload 4, .iconst 1] 106 = true := qck_r (nn_ _) (by decide +kernel)
theorem bs_X7_tally_103 {P : Zt → Option Zv → Prop} (K : Int → Zl → List Zv → Zt → Prop) : sx_ K P [.aload 4, .iconst 1] 106 = x_aload 4 (x_iconst 1 (K 106)) := ((xe_aload 4).trans (congrArg (x_aload 4) ((xe_iconst 1).trans (congrArg (x_iconst 1) xe_nil))))
set_option maxRecDepth 100000 in
theorem cl_X7_88 : cv_ RX7 88 yX7_addResult zX7_addResult 7 3 := ⟨gi_V (lwq_5 (dqc_m (dqc_m (dqc_m (dqc_m (dqc_m (dqc_m (dqa_m (List.mem_of_getElem? (i := 7) rfl)))))))) rfl : Cond.methodLink RX7 88 yX7_addResult ∈ lw_g) (lwq_5 (dqc_m (dqc_m (dqc_m (dqc_m (dqc_m (dqc_m (dqa_m (dqa_m (List.mem_of_getElem? (i := 0) rfl))))))))) rfl : Cond.instanceMethod yX7_addResult ∈ lw_g) (lwq_5 (dqc_m (dqc_m (dqc_m (dqc_m (dqc_m (dqc_m (dqa_m (dqa_m (List.mem_of_getElem? (i := 1) rfl))))))))) rfl : Cond.selects yX7_addResult.cls yX7_addResult yX7_addResult ∈ lw_g) (lwq_1 (List.mem_of_getElem? (i := 5) rfl) rfl : Cond.initialized yX7_addResult.cls ∈ lw_g) (lwq_5 (dqc_m (dqc_m (dqc_m (dqc_m (dqc_m (dqc_m (dqa_m (dqa_m (List.mem_of_getElem? (i := 2) rfl))))))))) rfl : Cond.code yX7_addResult cX7_addResult 6 none ∈ lw_g), ⟨nmh_7.1, nmh_7.2, pdq_30⟩, ⟨_, _, rfl⟩⟩
theorem bk_X7_tally_112 : ck_ fX7 none cX7_tally 112 [.aload 0, .aload 4] 115 = true := qck_r (nn_ _) (by decide +kernel)
theorem bs_X7_tally_112 {P : Zt → Option Zv → Prop} (K : Int → Zl → List Zv → Zt → Prop) : sx_ K P [.aload 0, .aload 4] 115 = x_aload 0 (x_aload 4 (K 115)) := ((xe_aload 0).trans (congrArg (x_aload 0) ((xe_aload 4).trans (congrArg (x_aload 4) xe_nil))))
set_option maxRecDepth 100000 in
theorem cl_X7_92 : cv_ RX7 92 yX7_addCards zX7_addCards 7 1 := ⟨gi_V (lwq_5 (dqc_m (dqc_m (dqc_m (dqc_m (dqc_m (dqc_m (dqa_m (dqa_m (List.mem_of_getElem? (i := 7) rfl))))))))) rfl : Cond.methodLink RX7 92 yX7_addCards ∈ lw_g) (lwq_5 (dqc_m (dqc_m (dqc_m (dqc_m (dqc_m (dqc_m (dqa_m (dqa_m (dqa_m (List.mem_of_getElem? (i := 1) rfl)))))))))) rfl : Cond.instanceMethod yX7_addCards ∈ lw_g) (lw_sel 127 rfl : Cond.selects yX7_addCards.cls yX7_addCards yX7_addCards ∈ lw_g) (lwq_1 (List.mem_of_getElem? (i := 5) rfl) rfl : Cond.initialized yX7_addCards.cls ∈ lw_g) (lwq_5 (dqc_m (dqc_m (dqc_m (dqc_m (dqc_m (dqc_m (dqa_m (dqa_m (dqa_m (List.mem_of_getElem? (i := 2) rfl)))))))))) rfl : Cond.code yX7_addCards cX7_addCards 6 none ∈ lw_g), ⟨nmh_7.1, nmh_7.2, pdq_26⟩, ⟨_, _, rfl⟩⟩
theorem bk_X7_tally_0 : ck_ fX7 none cX7_tally 0 [.aload 0, .aload 1] 2 = true := qck_r (nn_ _) (by decide +kernel)
theorem bs_X7_tally_0 {P : Zt → Option Zv → Prop} (K : Int → Zl → List Zv → Zt → Prop) : sx_ K P [.aload 0, .aload 1] 2 = x_aload 0 (x_aload 1 (K 2)) := ((xe_aload 0).trans (congrArg (x_aload 0) ((xe_aload 1).trans (congrArg (x_aload 1) xe_nil))))
theorem fr5_X7_50 : fr5_ RX7 50 7 1 := ⟨_, _, _, rfl, by decide, by decide, (lwq_1 (dqc_m (dqc_m (dqc_m (dqc_m (dqc_m (dqc_m (dqa_m (dqa_m (List.mem_of_getElem? (i := 4) rfl))))))))) rfl : Cond.fieldLink RX7 50 _ _ _ ∈ lw_g), rfl, fun a => ⟨.object "SportsHouse$Competition", by decide +kernel, rfl, rfl⟩⟩
theorem bk_X7_tally_5 : ck_ fX7 none cX7_tally 5 [.aload 0, .tableswitch 0 7 2 #[], .iconst 0] 10 = true := qck_r (nn_ _) (by decide +kernel)
theorem bs_X7_tally_5 {P : Zt → Option Zv → Prop} (K : Int → Zl → List Zv → Zt → Prop) : sx_ K P [.aload 0, .tableswitch 0 7 2 #[], .iconst 0] 10 = x_aload 0 (x_g1 107 542 (x_iconst 0 (K 10))) := ((xe_aload 0).trans (congrArg (x_aload 0) ((xe_g1 (kk := 107) rfl tl_7_2).trans (congrArg (x_g1 107 542) ((xe_iconst 0).trans (congrArg (x_iconst 0) xe_nil))))))
set_option maxRecDepth 100000 in
theorem cl_X7_54 : cs_ RX7 54 yJ7_fill_53178 zJ7_fill_53178 2 := ⟨gi_S (lwq_5 (dqc_m (dqc_m (dqc_m (dqc_m (dqc_m (dqc_m (dqa_m (List.mem_of_getElem? (i := 4) rfl)))))))) rfl : Cond.methodLink RX7 54 yJ7_fill_53178 ∈ lw_g) (lwq_2 (dqa_m (dqa_m (dqa_m (List.mem_of_getElem? (i := 2) rfl)))) rfl : Cond.static yJ7_fill_53178 ∈ lw_g) (lwq_1 (List.mem_of_getElem? (i := 7) rfl) rfl : Cond.initialized yJ7_fill_53178.cls ∈ lw_g) (lwq_2 (dqa_m (dqa_m (dqa_m (List.mem_of_getElem? (i := 3) rfl)))) rfl : Cond.code yJ7_fill_53178 cJ7_fill_53178 4 none ∈ lw_g), ⟨by decide, by decide, by decide +kernel⟩⟩
theorem bk_X7_tally_13 : ck_ fX7 none cX7_tally 13 [.aload 0, .tableswitch 0 7 3 #[], .iconst 0] 18 = true := qck_r (nn_ _) (by decide +kernel)
theorem bs_X7_tally_13 {P : Zt → Option Zv → Prop} (K : Int → Zl → List Zv → Zt → Prop) : sx_ K P [.aload 0, .tableswitch 0 7 3 #[], .iconst 0] 18 = x_aload 0 (x_g1 107 543 (x_iconst 0 (K 18))) := ((xe_aload 0).trans (congrArg (x_aload 0) ((xe_g1 (kk := 107) rfl tl_7_3).trans (congrArg (x_g1 107 543) ((xe_iconst 0).trans (congrArg (x_iconst 0) xe_nil))))))
theorem bk_X7_tally_21 : ck_ fX7 none cX7_tally 21 [.aload 0, .tableswitch 0 7 4 #[], .iconst 0] 26 = true := qck_r (nn_ _) (by decide +kernel)
theorem bs_X7_tally_21 {P : Zt → Option Zv → Prop} (K : Int → Zl → List Zv → Zt → Prop) : sx_ K P [.aload 0, .tableswitch 0 7 4 #[], .iconst 0] 26 = x_aload 0 (x_g1 107 544 (x_iconst 0 (K 26))) := ((xe_aload 0).trans (congrArg (x_aload 0) ((xe_g1 (kk := 107) rfl tl_7_4).trans (congrArg (x_g1 107 544) ((xe_iconst 0).trans (congrArg (x_iconst 0) xe_nil))))))
theorem bk_X7_tally_29 : ck_ fX7 none cX7_tally 29 [.aload 0, .tableswitch 0 7 5 #[], .iconst 0] 34 = true := qck_r (nn_ _) (by decide +kernel)
theorem bs_X7_tally_29 {P : Zt → Option Zv → Prop} (K : Int → Zl → List Zv → Zt → Prop) : sx_ K P [.aload 0, .tableswitch 0 7 5 #[], .iconst 0] 34 = x_aload 0 (x_g1 107 545 (x_iconst 0 (K 34))) := ((xe_aload 0).trans (congrArg (x_aload 0) ((xe_g1 (kk := 107) rfl tl_7_5).trans (congrArg (x_g1 107 545) ((xe_iconst 0).trans (congrArg (x_iconst 0) xe_nil))))))
theorem bk_X7_tally_37 : ck_ fX7 none cX7_tally 37 [.aload 0, .tableswitch 0 7 6 #[], .iconst 0] 42 = true := qck_r (nn_ _) (by decide +kernel)
theorem bs_X7_tally_37 {P : Zt → Option Zv → Prop} (K : Int → Zl → List Zv → Zt → Prop) : sx_ K P [.aload 0, .tableswitch 0 7 6 #[], .iconst 0] 42 = x_aload 0 (x_g1 107 546 (x_iconst 0 (K 42))) := ((xe_aload 0).trans (congrArg (x_aload 0) ((xe_g1 (kk := 107) rfl tl_7_6).trans (congrArg (x_g1 107 546) ((xe_iconst 0).trans (congrArg (x_iconst 0) xe_nil))))))
theorem bk_X7_tally_45 : ck_ fX7 none cX7_tally 45 [.iconst 0, .istore 3] 47 = true := qck_r (nn_ _) (by decide +kernel)
theorem bs_X7_tally_45 {P : Zt → Option Zv → Prop} (K : Int → Zl → List Zv → Zt → Prop) : sx_ K P [.iconst 0, .istore 3] 47 = x_iconst 0 (x_istore 3 (K 47)) := ((xe_iconst 0).trans (congrArg (x_iconst 0) ((xe_istore 3).trans (congrArg (x_istore 3) xe_nil))))
abbrev po_X7_tally (T : Zt) (c : Int) (d : Int) : Zt → Option Zv → Prop := fun T' r => r = none ∧ fr_ [(107, [1]), (542, []), (543, []), (544, []), (545, []), (546, [])] T T' ∧ (T' 107 0 1 = c + 1)
set_option maxHeartbeats 4000000 in
theorem ct_X7_tally {T : Zt} {c : Int} {d : Int} (hka : KA_ T) (hkc : KC_ T) (hc : 0 ≤ c ∧ c < T 106 0 2) : Ct_ yX7_tally zX7_tally T [vR 107 0, vR 100 c, vI d] (po_X7_tally T c d) := by
  refine ct_of pn_7 rfl rfl (Nat.le_of_ble_eq_true rfl) (fun hT hav => ?_)
  have hr_d : -2147483648 ≤ d ∧ d ≤ 2147483647 := hav (vI d) (List.mem_cons_of_mem _ (List.mem_cons_of_mem _ List.mem_cons_self))
  have hz : zX7_tally.2.2.2.1 = some .boolean → ∀ (T' : Zt) (x : Int), po_X7_tally T c d T' (some (vI x)) → 0 ≤ x ∧ x ≤ 1 := fun h => by cases h
  have hk2 := hkc c hc.1 hc.2
  have hb_matchCount : 0 ≤ T 106 0 4 ∧ T 106 0 4 ≤ 400 := bd_f hT 106 4 tl_6_4 0
  have hcc : 0 ≤ T 106 0 2 ∧ T 106 0 2 ≤ 4 := bd_f hT 106 2 tl_6_2 0
  have hfm : 0 ≤ T 100 c 7 ∧ T 100 c 7 ≤ 400 := bd_f hT 100 7 tl_0_7 c
  have hmc : 0 ≤ T 100 c 8 ∧ T 100 c 8 ≤ 400 := bd_f hT 100 8 tl_0_8 c
  have hen : 0 ≤ T 100 c 5 ∧ T 100 c 5 ≤ 12 := bd_f hT 100 5 tl_0_5 c
  show J_ zX7_tally T (po_X7_tally T c d) 0 0 0 [some (vR 107 0), some (vR 100 c), some (vI d), none, none] [] T
  have c_126 : ∀ (nn : Nat) (k : Int) (T2 : Zt), ((12 - k).toNat) ≤ nn → (fr_ [(107, [1]), (542, []), (543, []), (544, []), (545, []), (546, [])] T T2) → (0 ≤ k ∧ k ≤ 12) → (T2 107 0 1 = c + 1) → J_ zX7_tally T (po_X7_tally T c d) 0 0 126 [some (vR 107 0), some (vR 100 c), some (vI d), some (vI k), none] [] T2 := by
    intro nn
    induction nn using Nat.strongRecOn with
    | _ nn ih_126 =>
      intro k T2 hm_126 hf_126 i2 i3
      replace hm_126 := fun (_ : Unit) => hm_126
      refine j_blx (F := fX7) tb_X7 (nn_ _) bk_X7_tally_126 bs_X7_tally_126 hz (fun K hK => ?_)
      refine And.intro (fun c1 => ?_) (fun c1 => ?_)
      · exact absurd c1 (by omega)
      · have z2 : T2 107 0 1 - 1 = c := by omega
        rw [z2]
        intro b3 b3b
        have e4 : T2 100 c 5 = T 100 c 5 := hf_126 100 c 5 rfl
        rw [e4] at b3 b3b ⊢
        refine And.intro (fun c5 => ?_) (fun c5 => ?_)
        · refine hK 182 _ [] T2 ?_
          refine j_blx (F := fX7) tb_X7 (nn_ _) bk_X7_tally_182 bs_X7_tally_182 hz (fun K hK => ?_)
          refine (show po_X7_tally T c d T2 (none) from ?_)
          exact ⟨rfl, fr_t (fr_0 _ _) (fr_s hf_126 rfl), by omega⟩
        · refine rg_i (by omega) ?_
          refine rg_i (by omega) ?_
          refine ix_i (by omega) ?_
          intro b6 b6b
          refine And.intro (fun c7 => ?_) (fun c7 => ?_)
          · exact absurd c7 (by omega)
          · have z8 : T2 107 0 1 - 1 = c := by omega
            rw [z8]
            intro b9 b9b
            have e10 : T2 100 c 0 = T 100 c 0 := hf_126 100 c 0 rfl
            rw [e10] at b9 b9b ⊢
            refine And.intro (fun c11 => ?_) (fun c11 => ?_)
            · exact absurd c11 (by omega)
            · have z12 : T2 107 0 1 - 1 = c := by omega
              rw [z12]
              refine ix_i (by omega) ?_
              intro b13 b13b
              have e14 : T2 403 c k = T 403 c k := hf_126 403 c k rfl
              rw [e14] at b13 b13b ⊢
              refine hK 171 _ [vI (T 403 c k), vI (T 100 c 0), vI d, vR 106 0, vI (T2 542 0 ((k * 8) + 6)), vI ((k * 8) + 6), vR 542 0] T2 ?_
              refine j_callV (y := yX6_deductedUpTo) (Yc := zX6_deductedUpTo) (rest := [vI (T2 542 0 ((k * 8) + 6)), vI ((k * 8) + 6), vR 542 0]) [vI d, vI (T 100 c 0), vI (T 403 c k)] (ct_X6_deductedUpTo (T := T2)) cl_X7_105 (qd_c (by decide +kernel)) (nn_ _) rfl (rf_of rfl) (Nat.le_of_ble_eq_true rfl) (Nat.le_of_ble_eq_true rfl) (Nat.le_of_ble_eq_true rfl) rfl ?_
              rintro _ _ ⟨rfl, x15, rfl, hx15⟩
              show J_ zX7_tally T (po_X7_tally T c d) 0 0 174 _ [vI x15, vI (T2 542 0 ((k * 8) + 6)), vI ((k * 8) + 6), vR 542 0] T2
              refine j_blx (F := fX7) tb_X7 (nn_ _) bk_X7_tally_174 bs_X7_tally_174 hz (fun K hK => ?_)
              intro w16 w16b
              refine iy_i (by omega) (by omega) ?_
              refine x_nm (fun U17 hU17 => ?_)
              have e18 := up_f hU17
              refine rg_i (by omega) ?_
              refine hK 126 [some (vR 107 0), some (vR 100 c), some (vI d), some (vI (k + 1)), none] [] U17 ?_
              have e19 : U17 107 0 1 = T2 107 0 1 := up_k hU17 (by exact Nat.ne_of_beq_eq_false rfl) 0 1
              refine ih_126 _ ?_ (k + 1) U17 (Nat.le_refl _) ?_ ?_ ?_
              · have hm_126 := hm_126 (); omega
              · exact fr_u (fr_t (fr_0 _ _) (fr_s hf_126 rfl)) hU17 rfl
              · omega
              · omega
  have c_47 : ∀ (nn : Nat) (k : Int) (T1 : Zt), ((T 100 c 8 - k).toNat) ≤ nn → (fr_ [(107, [1]), (542, []), (543, []), (544, []), (545, []), (546, [])] T T1) → (0 ≤ k ∧ k ≤ T 100 c 8) → (T1 107 0 1 = c + 1) → J_ zX7_tally T (po_X7_tally T c d) 0 0 47 [some (vR 107 0), some (vR 100 c), some (vI d), some (vI k), none] [] T1 := by
    intro nn
    induction nn using Nat.strongRecOn with
    | _ nn ih_47 =>
      intro k T1 hm_47 hf_47 i1 i0
      replace hm_47 := fun (_ : Unit) => hm_47
      refine j_blx (F := fX7) tb_X7 (nn_ _) bk_X7_tally_47 bs_X7_tally_47 hz (fun K hK => ?_)
      refine And.intro (fun c20 => ?_) (fun c20 => ?_)
      · exact absurd c20 (by omega)
      · have z21 : T1 107 0 1 - 1 = c := by omega
        rw [z21]
        intro b22 b22b
        have e23 : T1 100 c 8 = T 100 c 8 := hf_47 100 c 8 rfl
        rw [e23] at b22 b22b ⊢
        refine And.intro (fun c24 => ?_) (fun c24 => ?_)
        · refine hK 124 _ [] T1 ?_
          refine j_blx (F := fX7) tb_X7 (nn_ _) bk_X7_tally_124 bs_X7_tally_124 hz (fun K hK => ?_)
          refine hK 126 [some (vR 107 0), some (vR 100 c), some (vI d), some (vI 0), none] [] T1 ?_
          refine c_126 _ 0 T1 (Nat.le_refl _) ?_ ?_ ?_
          · exact fr_t (fr_0 _ _) (fr_s hf_47 rfl)
          · omega
          · omega
        · refine And.intro (fun c25 => ?_) (fun c25 => ?_)
          · exact absurd c25 (by omega)
          · have z26 : T1 107 0 1 - 1 = c := by omega
            rw [z26]
            intro b27 b27b
            have e28 : T1 100 c 7 = T 100 c 7 := hf_47 100 c 7 rfl
            rw [e28] at b27 b27b ⊢
            refine rg_i (by omega) ?_
            refine ix_i (by omega) ?_
            have e30 : T1 523 0 ((T 100 c 7) + k) = T 523 0 ((T 100 c 7) + k) := hf_47 523 0 ((T 100 c 7) + k) rfl
            refine And.intro (fun c29 => ?_) (fun c29 => ?_)
            · exact absurd (show T 523 0 (T 100 c 7 + k) = 0 by omega) (hka.2 _ (by omega) (by omega))
            · intro b31 b31b
              have e32 : T1 102 ((T 100 c 7) + k) 5 = T 102 ((T 100 c 7) + k) 5 := hf_47 102 ((T 100 c 7) + k) 5 rfl
              rw [e32] at b31 b31b ⊢
              refine And.intro (fun c33 => ?_) (fun c33 => ?_)
              · refine hK 118 [some (vR 107 0), some (vR 100 c), some (vI d), some (vI k), some (vR 102 ((T 100 c 7) + k))] [] T1 ?_
                refine j_blx (F := fX7) tb_X7 (nn_ _) bk_X7_tally_118 bs_X7_tally_118 hz (fun K hK => ?_)
                refine rg_i (by omega) ?_
                refine hK 47 [some (vR 107 0), some (vR 100 c), some (vI d), some (vI (k + 1)), some (vR 102 ((T 100 c 7) + k))] [] T1 ?_
                refine j_drq [some (vR 107 0), some (vR 100 c), some (vI d), some (vI (k + 1)), none] (drq_s (drq_s (drq_s (drq_s (drq_n drq_0))))) ?_
                refine ih_47 _ ?_ (k + 1) T1 (Nat.le_refl _) ?_ ?_ ?_
                · have hm_47 := hm_47 (); omega
                · exact fr_t (fr_0 _ _) (fr_s hf_47 rfl)
                · omega
                · omega
              · refine hK 88 [some (vR 107 0), some (vR 100 c), some (vI d), some (vI k), some (vR 102 ((T 100 c 7) + k))] [vR 102 ((T 100 c 7) + k)] T1 ?_
                refine j_callV (y := yX2_isDecided) (Yc := zX2_isDecided) (rest := []) [] (ct_X2_isDecided (T := T1)) cl_X7_80 (qd_c (by decide +kernel)) (nn_ _) rfl (rf_of rfl) (Nat.le_of_ble_eq_true rfl) (Nat.le_of_ble_eq_true rfl) (Nat.le_of_ble_eq_true rfl) rfl ?_
                rintro _ _ ⟨rfl, x34, rfl, hx34⟩
                show J_ zX7_tally T (po_X7_tally T c d) 0 0 91 _ [vI x34] T1
                refine j_blx (F := fX7) tb_X7 (nn_ _) bk_X7_tally_91 bs_X7_tally_91 hz (fun K hK => ?_)
                refine And.intro (fun c35 => ?_) (fun c35 => ?_)
                · refine hK 118 _ [] T1 ?_
                  refine j_blx (F := fX7) tb_X7 (nn_ _) bk_X7_tally_118 bs_X7_tally_118 hz (fun K hK => ?_)
                  refine rg_i (by omega) ?_
                  refine hK 47 [some (vR 107 0), some (vR 100 c), some (vI d), some (vI (k + 1)), some (vR 102 ((T 100 c 7) + k))] [] T1 ?_
                  refine j_drq [some (vR 107 0), some (vR 100 c), some (vI d), some (vI (k + 1)), none] (drq_s (drq_s (drq_s (drq_s (drq_n drq_0))))) ?_
                  refine ih_47 _ ?_ (k + 1) T1 (Nat.le_refl _) ?_ ?_ ?_
                  · have hm_47 := hm_47 (); omega
                  · exact fr_t (fr_0 _ _) (fr_s hf_47 rfl)
                  · omega
                  · omega
                · refine hK 100 [some (vR 107 0), some (vR 100 c), some (vI d), some (vI k), some (vR 102 ((T 100 c 7) + k))] [vI 0, vR 102 ((T 100 c 7) + k), vR 102 ((T 100 c 7) + k), vR 107 0] T1 ?_
                  refine j_callV (y := yX2_scoreOf) (Yc := zX2_scoreOf) (rest := [vR 102 ((T 100 c 7) + k), vR 107 0]) [vI 0] (ct_X2_scoreOf (T := T1) (by omega)) cl_X7_84 (qd_c (by decide +kernel)) (nn_ _) rfl (rf_of rfl) (Nat.le_of_ble_eq_true rfl) (Nat.le_of_ble_eq_true rfl) (Nat.le_of_ble_eq_true rfl) rfl ?_
                  rintro _ _ ⟨rfl, x36, rfl, hx36⟩
                  show J_ zX7_tally T (po_X7_tally T c d) 0 0 103 _ [vI x36, vR 102 ((T 100 c 7) + k), vR 107 0] T1
                  refine j_blx (F := fX7) tb_X7 (nn_ _) bk_X7_tally_103 bs_X7_tally_103 hz (fun K hK => ?_)
                  refine hK 106 _ [vI 1, vR 102 ((T 100 c 7) + k), vI x36, vR 102 ((T 100 c 7) + k), vR 107 0] T1 ?_
                  refine j_callV (y := yX2_scoreOf) (Yc := zX2_scoreOf) (rest := [vI x36, vR 102 ((T 100 c 7) + k), vR 107 0]) [vI 1] (ct_X2_scoreOf (T := T1) (by omega)) cl_X7_84 (qd_c (by decide +kernel)) (nn_ _) rfl (rf_of rfl) (Nat.le_of_ble_eq_true rfl) (Nat.le_of_ble_eq_true rfl) (Nat.le_of_ble_eq_true rfl) rfl ?_
                  rintro _ _ ⟨rfl, x37, rfl, hx37⟩
                  show J_ zX7_tally T (po_X7_tally T c d) 0 0 109 _ [vI x37, vI x36, vR 102 ((T 100 c 7) + k), vR 107 0] T1
                  refine j_callV (y := yX7_addResult) (Yc := zX7_addResult) (rest := []) [vR 102 ((T 100 c 7) + k), vI x36, vI x37] (ct_X7_addResult (T := T1) (by omega)) cl_X7_88 (qd_c (by decide +kernel)) (nn_ _) rfl (rf_of rfl) (Nat.le_of_ble_eq_true rfl) (Nat.le_of_ble_eq_true rfl) (Nat.le_of_ble_eq_true rfl) rfl ?_
                  rintro U38 _ ⟨rfl, fU38, qU38⟩
                  show J_ zX7_tally T (po_X7_tally T c d) 0 0 112 _ [] U38
                  refine j_blx (F := fX7) tb_X7 (nn_ _) bk_X7_tally_112 bs_X7_tally_112 hz (fun K hK => ?_)
                  refine hK 115 _ [vR 102 ((T 100 c 7) + k), vR 107 0] U38 ?_
                  have e39 : U38 107 0 1 = T1 107 0 1 := fU38 107 0 1 rfl
                  refine j_callV (y := yX7_addCards) (Yc := zX7_addCards) (rest := []) [vR 102 ((T 100 c 7) + k)] (ct_X7_addCards (T := U38) (by omega)) cl_X7_92 (qd_c (by decide +kernel)) (nn_ _) rfl (rf_of rfl) (Nat.le_of_ble_eq_true rfl) (Nat.le_of_ble_eq_true rfl) (Nat.le_of_ble_eq_true rfl) rfl ?_
                  rintro U40 _ ⟨rfl, fU40, qU40⟩
                  show J_ zX7_tally T (po_X7_tally T c d) 0 0 118 _ [] U40
                  refine j_blx (F := fX7) tb_X7 (nn_ _) bk_X7_tally_118 bs_X7_tally_118 hz (fun K hK => ?_)
                  refine rg_i (by omega) ?_
                  refine hK 47 [some (vR 107 0), some (vR 100 c), some (vI d), some (vI (k + 1)), some (vR 102 ((T 100 c 7) + k))] [] U40 ?_
                  refine j_drq [some (vR 107 0), some (vR 100 c), some (vI d), some (vI (k + 1)), none] (drq_s (drq_s (drq_s (drq_s (drq_n drq_0))))) ?_
                  have e41 : U40 107 0 1 = T1 107 0 1 := (fU40 107 0 1 rfl).trans (fU38 107 0 1 rfl)
                  refine ih_47 _ ?_ (k + 1) U40 (Nat.le_refl _) ?_ ?_ ?_
                  · have hm_47 := hm_47 (); omega
                  · exact fr_t (fr_t (fr_t (fr_0 _ _) (fr_s hf_47 rfl)) (fr_s fU38 rfl)) (fr_s fU40 rfl)
                  · omega
                  · omega
  refine j_blx (F := fX7) tb_X7 (nn_ _) bk_X7_tally_0 bs_X7_tally_0 hz (fun K hK => ?_)
  refine hK 2 _ [vR 100 c, vR 107 0] T ?_
  refine j_putR (pc := 2) (ci := 7) (j := 1) (by decide) fr5_X7_50 rfl (by decide +kernel) (by omega) (by omega) (by omega) ?_
  refine j_nm (fun U42 hU42 => ?_)
  have e43 := up_f hU42
  show J_ zX7_tally T (po_X7_tally T c d) 0 0 5 _ [] U42
  refine j_blx (F := fX7) tb_X7 (nn_ _) bk_X7_tally_5 bs_X7_tally_5 hz (fun K hK => ?_)
  refine hK 10 _ [vI 0, vR 542 0] U42 ?_
  refine j_callS (y := yJ7_fill_53178) (Yc := zJ7_fill_53178) (rest := []) [vR 542 0, vI 0] (ct_J7_fill_542 (T := U42) (by omega)) cl_X7_54 (qd_c (by decide +kernel)) (nn_ _) rfl (rf_of rfl) (Nat.le_of_ble_eq_true rfl) (Nat.le_of_ble_eq_true rfl) (Nat.le_of_ble_eq_true rfl) rfl ?_
  rintro U44 _ ⟨rfl, fU44, qU44o, qU44⟩
  show J_ zX7_tally T (po_X7_tally T c d) 0 0 13 _ [] U44
  refine j_blx (F := fX7) tb_X7 (nn_ _) bk_X7_tally_13 bs_X7_tally_13 hz (fun K hK => ?_)
  refine hK 18 _ [vI 0, vR 543 0] U44 ?_
  refine j_callS (y := yJ7_fill_53178) (Yc := zJ7_fill_53178) (rest := []) [vR 543 0, vI 0] (ct_J7_fill_543 (T := U44) (by omega)) cl_X7_54 (qd_c (by decide +kernel)) (nn_ _) rfl (rf_of rfl) (Nat.le_of_ble_eq_true rfl) (Nat.le_of_ble_eq_true rfl) (Nat.le_of_ble_eq_true rfl) rfl ?_
  rintro U45 _ ⟨rfl, fU45, qU45o, qU45⟩
  show J_ zX7_tally T (po_X7_tally T c d) 0 0 21 _ [] U45
  refine j_blx (F := fX7) tb_X7 (nn_ _) bk_X7_tally_21 bs_X7_tally_21 hz (fun K hK => ?_)
  refine hK 26 _ [vI 0, vR 544 0] U45 ?_
  refine j_callS (y := yJ7_fill_53178) (Yc := zJ7_fill_53178) (rest := []) [vR 544 0, vI 0] (ct_J7_fill_544 (T := U45) (by omega)) cl_X7_54 (qd_c (by decide +kernel)) (nn_ _) rfl (rf_of rfl) (Nat.le_of_ble_eq_true rfl) (Nat.le_of_ble_eq_true rfl) (Nat.le_of_ble_eq_true rfl) rfl ?_
  rintro U46 _ ⟨rfl, fU46, qU46o, qU46⟩
  show J_ zX7_tally T (po_X7_tally T c d) 0 0 29 _ [] U46
  refine j_blx (F := fX7) tb_X7 (nn_ _) bk_X7_tally_29 bs_X7_tally_29 hz (fun K hK => ?_)
  refine hK 34 _ [vI 0, vR 545 0] U46 ?_
  refine j_callS (y := yJ7_fill_53178) (Yc := zJ7_fill_53178) (rest := []) [vR 545 0, vI 0] (ct_J7_fill_545 (T := U46) (by omega)) cl_X7_54 (qd_c (by decide +kernel)) (nn_ _) rfl (rf_of rfl) (Nat.le_of_ble_eq_true rfl) (Nat.le_of_ble_eq_true rfl) (Nat.le_of_ble_eq_true rfl) rfl ?_
  rintro U47 _ ⟨rfl, fU47, qU47o, qU47⟩
  show J_ zX7_tally T (po_X7_tally T c d) 0 0 37 _ [] U47
  refine j_blx (F := fX7) tb_X7 (nn_ _) bk_X7_tally_37 bs_X7_tally_37 hz (fun K hK => ?_)
  refine hK 42 _ [vI 0, vR 546 0] U47 ?_
  refine j_callS (y := yJ7_fill_53178) (Yc := zJ7_fill_53178) (rest := []) [vR 546 0, vI 0] (ct_J7_fill_546 (T := U47) (by omega)) cl_X7_54 (qd_c (by decide +kernel)) (nn_ _) rfl (rf_of rfl) (Nat.le_of_ble_eq_true rfl) (Nat.le_of_ble_eq_true rfl) (Nat.le_of_ble_eq_true rfl) rfl ?_
  rintro U48 _ ⟨rfl, fU48, qU48o, qU48⟩
  show J_ zX7_tally T (po_X7_tally T c d) 0 0 45 _ [] U48
  refine j_blx (F := fX7) tb_X7 (nn_ _) bk_X7_tally_45 bs_X7_tally_45 hz (fun K hK => ?_)
  refine hK 47 [some (vR 107 0), some (vR 100 c), some (vI d), some (vI 0), none] [] U48 ?_
  have e49 : U48 107 0 1 = c + 1 := (fU48 107 0 1 rfl).trans ((fU47 107 0 1 rfl).trans ((fU46 107 0 1 rfl).trans ((fU45 107 0 1 rfl).trans ((fU44 107 0 1 rfl).trans (up_f hU42)))))
  refine c_47 _ 0 U48 (Nat.le_refl _) ?_ ?_ ?_
  · exact fr_t (fr_t (fr_t (fr_t (fr_t (fr_u (fr_0 _ _) hU42 rfl) (fr_s fU44 rfl)) (fr_s fU45 rfl)) (fr_s fU46 rfl)) (fr_s fU47 rfl)) (fr_s fU48 rfl)
  · omega
  · omega
abbrev RJ6 : String := "java/lang/Integer"
def fJ6 : Zf := ([], [], [(265, 1431655765), (266, 858993459), (267, 252645135), (264, 65536)], [])
set_option maxRecDepth 100000 in
set_option maxHeartbeats 4000000 in
theorem tg_J6 : ∀ q ∈ fJ6.1, fl_ RJ6 q.1 q.2.1 q.2.2 := fun _ h => absurd h List.not_mem_nil
set_option maxRecDepth 100000 in
set_option maxHeartbeats 4000000 in
theorem tp_J6 : ∀ q ∈ fJ6.2.1, fp_ RJ6 q.1 q.2.1 q.2.2 := fun _ h => absurd h List.not_mem_nil
theorem tb_J6 : tb_ RJ6 fJ6 := ⟨tg_J6, tp_J6, List.forall_mem_cons.mpr ⟨⟨lwq_5 (dqc_m (dqc_m (dqc_m (dqa_m (List.mem_of_getElem? (i := 6) rfl))))) rfl, by decide, by decide⟩, List.forall_mem_cons.mpr ⟨⟨lwq_5 (dqc_m (dqc_m (dqc_m (dqa_m (List.mem_of_getElem? (i := 7) rfl))))) rfl, by decide, by decide⟩, List.forall_mem_cons.mpr ⟨⟨lwq_5 (dqc_m (dqc_m (dqc_m (dqa_m (dqa_m (List.mem_of_getElem? (i := 0) rfl)))))) rfl, by decide, by decide⟩, List.forall_mem_cons.mpr ⟨⟨lwq_6 (dqc_m (dqc_m (dqa_m (dqa_m (List.mem_of_getElem? (i := 6) rfl))))) rfl, by decide, by decide⟩, fun _ h => absurd h List.not_mem_nil⟩⟩⟩⟩, fun _ h => absurd h List.not_mem_nil⟩
abbrev cJ6_bitCount_0f7a4 : ByteArray := prog_15_method_49_code
def yJ6_bitCount_0f7a4 : MethodName := ⟨RJ6, "bitCount", "(I)I"⟩
def zJ6_bitCount_0f7a4 : Zm := (RJ6, cJ6_bitCount_0f7a4, 1, (some .int), { frames := 0, cells := 0, slots := 0, locals := 0 })
abbrev cX3_hit : ByteArray := prog_5_method_23_code
def yX3_hit : MethodName := ⟨RX3, "hit", "(II)V"⟩
def zX3_hit : Zm := (RX3, cX3_hit, 4, none, { frames := 2, cells := 0, slots := 0, locals := 45 })
set_option maxRecDepth 100000 in
theorem cl_X3_138 : cs_ RX3 138 yJ6_bitCount_0f7a4 zJ6_bitCount_0f7a4 1 := ⟨gi_S (lwq_5 (dqc_m (dqc_m (dqc_m (dqa_m (List.mem_of_getElem? (i := 3) rfl))))) rfl : Cond.methodLink RX3 138 yJ6_bitCount_0f7a4 ∈ lw_g) (lwq_5 (dqc_m (dqc_m (dqc_m (dqa_m (List.mem_of_getElem? (i := 4) rfl))))) rfl : Cond.static yJ6_bitCount_0f7a4 ∈ lw_g) (lwq_1 (dqa_m (dqa_m (List.mem_of_getElem? (i := 3) rfl))) rfl : Cond.initialized yJ6_bitCount_0f7a4.cls ∈ lw_g) (lwq_5 (dqc_m (dqc_m (dqc_m (dqa_m (List.mem_of_getElem? (i := 5) rfl))))) rfl : Cond.code yJ6_bitCount_0f7a4 cJ6_bitCount_0f7a4 1 (some .int) ∈ lw_g), ⟨by decide, by decide, by decide +kernel⟩⟩
abbrev cX3_playBaseball : ByteArray := prog_5_method_22_code
def yX3_playBaseball : MethodName := ⟨RX3, "playBaseball", "(III)V"⟩
def zX3_playBaseball : Zm := (RX3, cX3_playBaseball, 4, none, { frames := 3, cells := 0, slots := 0, locals := 68 })
theorem ds_X3_playBaseball_1 : decode cX3_playBaseball 1 = .ok (.tableswitch 91 1 3 #[27, 36, 64], 27) := by decide +kernel
set_option maxRecDepth 100000 in
theorem cl_X3_129 : cv_ RX3 129 yX3_hit zX3_hit 3 2 := ⟨gi_V (lwq_5 (dqc_m (dqc_m (dqc_m (List.mem_of_getElem? (i := 7) rfl)))) rfl : Cond.methodLink RX3 129 yX3_hit ∈ lw_g) (lwq_5 (dqc_m (dqc_m (dqc_m (dqa_m (List.mem_of_getElem? (i := 1) rfl))))) rfl : Cond.instanceMethod yX3_hit ∈ lw_g) (lw_sel 89 rfl : Cond.selects yX3_hit.cls yX3_hit yX3_hit ∈ lw_g) (lwq_1 (dqa_m (dqa_m (List.mem_of_getElem? (i := 2) rfl))) rfl : Cond.initialized yX3_hit.cls ∈ lw_g) (lwq_5 (dqc_m (dqc_m (dqc_m (dqa_m (List.mem_of_getElem? (i := 2) rfl))))) rfl : Cond.code yX3_hit cX3_hit 4 none ∈ lw_g), ⟨nmh_3.1, nmh_3.2, pdq_0⟩, ⟨_, _, rfl⟩⟩
set_option maxRecDepth 100000 in
theorem cl_X3_132 : cv_ RX3 132 yX3_walk zX3_walk 3 1 := ⟨gi_V (lwq_5 (dqc_m (dqc_m (dqc_m (dqa_m (dqa_m (dqa_m (List.mem_of_getElem? (i := 1) rfl))))))) rfl : Cond.methodLink RX3 132 yX3_walk ∈ lw_g) (lwq_5 (dqc_m (dqc_m (dqc_m (dqa_m (dqa_m (dqa_m (List.mem_of_getElem? (i := 3) rfl))))))) rfl : Cond.instanceMethod yX3_walk ∈ lw_g) (lw_sel 102 rfl : Cond.selects yX3_walk.cls yX3_walk yX3_walk ∈ lw_g) (lwq_1 (dqa_m (dqa_m (List.mem_of_getElem? (i := 2) rfl))) rfl : Cond.initialized yX3_walk.cls ∈ lw_g) (lwq_5 (dqc_m (dqc_m (dqc_m (dqa_m (dqa_m (dqa_m (List.mem_of_getElem? (i := 4) rfl))))))) rfl : Cond.code yX3_walk cX3_walk 3 none ∈ lw_g), ⟨nmh_3.1, nmh_3.2, pdq_9⟩, ⟨_, _, rfl⟩⟩
set_option maxRecDepth 100000 in
theorem cl_X3_135 : cv_ RX3 135 yX3_countOut zX3_countOut 3 0 := ⟨gi_V (lwq_5 (dqc_m (dqc_m (dqc_m (dqa_m (dqa_m (dqa_m (List.mem_of_getElem? (i := 5) rfl))))))) rfl : Cond.methodLink RX3 135 yX3_countOut ∈ lw_g) (lwq_5 (dqc_m (dqc_m (dqc_m (dqa_m (dqa_m (dqa_m (List.mem_of_getElem? (i := 7) rfl))))))) rfl : Cond.instanceMethod yX3_countOut ∈ lw_g) (lw_sel 85 rfl : Cond.selects yX3_countOut.cls yX3_countOut yX3_countOut ∈ lw_g) (lwq_1 (dqa_m (dqa_m (List.mem_of_getElem? (i := 2) rfl))) rfl : Cond.initialized yX3_countOut.cls ∈ lw_g) (lwq_5 (dqc_m (dqc_m (dqc_m (dqc_m (List.mem_of_getElem? (i := 0) rfl))))) rfl : Cond.code yX3_countOut cX3_countOut 1 none ∈ lw_g), ⟨nmh_3.1, nmh_3.2, pdq_1⟩, ⟨_, _, rfl⟩⟩
abbrev cX3_carryOut : ByteArray := prog_5_method_12_code
def yX3_carryOut : MethodName := ⟨RX3, "carryOut", "(IIII)V"⟩
def zX3_carryOut : Zm := (RX3, cX3_carryOut, 5, none, { frames := 4, cells := 0, slots := 0, locals := 91 })
theorem ds_X3_carryOut_20 : decode cX3_carryOut 20 = .ok (.tableswitch 55 0 2 #[28, 38, 46], 28) := by decide +kernel
set_option maxRecDepth 100000 in
theorem cl_X3_99 : cv_ RX3 99 yX3_playFootball zX3_playFootball 3 3 := ⟨gi_V (lwq_5 (dqc_m (dqc_m (List.mem_of_getElem? (i := 4) rfl))) rfl : Cond.methodLink RX3 99 yX3_playFootball ∈ lw_g) (lwq_5 (dqc_m (dqc_m (List.mem_of_getElem? (i := 6) rfl))) rfl : Cond.instanceMethod yX3_playFootball ∈ lw_g) (lw_sel 94 rfl : Cond.selects yX3_playFootball.cls yX3_playFootball yX3_playFootball ∈ lw_g) (lwq_1 (dqa_m (dqa_m (List.mem_of_getElem? (i := 2) rfl))) rfl : Cond.initialized yX3_playFootball.cls ∈ lw_g) (lwq_5 (dqc_m (dqc_m (List.mem_of_getElem? (i := 7) rfl))) rfl : Cond.code yX3_playFootball cX3_playFootball 4 none ∈ lw_g), ⟨nmh_3.1, nmh_3.2, pdq_3⟩, ⟨_, _, rfl⟩⟩
set_option maxRecDepth 100000 in
theorem cl_X3_102 : cv_ RX3 102 yX3_playVolleyball zX3_playVolleyball 3 1 := ⟨gi_V (lwq_5 (dqc_m (dqc_m (dqa_m (dqa_m (List.mem_of_getElem? (i := 4) rfl))))) rfl : Cond.methodLink RX3 102 yX3_playVolleyball ∈ lw_g) (lwq_5 (dqc_m (dqc_m (dqa_m (dqa_m (List.mem_of_getElem? (i := 6) rfl))))) rfl : Cond.instanceMethod yX3_playVolleyball ∈ lw_g) (lw_sel 96 rfl : Cond.selects yX3_playVolleyball.cls yX3_playVolleyball yX3_playVolleyball ∈ lw_g) (lwq_1 (dqa_m (dqa_m (List.mem_of_getElem? (i := 2) rfl))) rfl : Cond.initialized yX3_playVolleyball.cls ∈ lw_g) (lwq_5 (dqc_m (dqc_m (dqa_m (dqa_m (List.mem_of_getElem? (i := 7) rfl))))) rfl : Cond.code yX3_playVolleyball cX3_playVolleyball 3 none ∈ lw_g), ⟨nmh_3.1, nmh_3.2, pdq_9⟩, ⟨_, _, rfl⟩⟩
set_option maxRecDepth 100000 in
theorem cl_X3_106 : cv_ RX3 106 yX3_playTennis zX3_playTennis 3 2 := ⟨gi_V (lwq_5 (dqc_m (dqc_m (dqa_m (dqa_m (dqa_m (List.mem_of_getElem? (i := 7) rfl)))))) rfl : Cond.methodLink RX3 106 yX3_playTennis ∈ lw_g) (lwq_5 (dqc_m (dqc_m (dqc_m (List.mem_of_getElem? (i := 1) rfl)))) rfl : Cond.instanceMethod yX3_playTennis ∈ lw_g) (lw_sel 95 rfl : Cond.selects yX3_playTennis.cls yX3_playTennis yX3_playTennis ∈ lw_g) (lwq_1 (dqa_m (dqa_m (List.mem_of_getElem? (i := 2) rfl))) rfl : Cond.initialized yX3_playTennis.cls ∈ lw_g) (lwq_5 (dqc_m (dqc_m (dqc_m (List.mem_of_getElem? (i := 2) rfl)))) rfl : Cond.code yX3_playTennis cX3_playTennis 5 none ∈ lw_g), ⟨nmh_3.1, nmh_3.2, pdq_0⟩, ⟨_, _, rfl⟩⟩
set_option maxRecDepth 100000 in
theorem cl_X3_110 : cv_ RX3 110 yX3_playBaseball zX3_playBaseball 3 3 := ⟨gi_V (lwq_5 (dqc_m (dqc_m (dqc_m (List.mem_of_getElem? (i := 3) rfl)))) rfl : Cond.methodLink RX3 110 yX3_playBaseball ∈ lw_g) (lwq_5 (dqc_m (dqc_m (dqc_m (List.mem_of_getElem? (i := 5) rfl)))) rfl : Cond.instanceMethod yX3_playBaseball ∈ lw_g) (lw_sel 93 rfl : Cond.selects yX3_playBaseball.cls yX3_playBaseball yX3_playBaseball ∈ lw_g) (lwq_1 (dqa_m (dqa_m (List.mem_of_getElem? (i := 2) rfl))) rfl : Cond.initialized yX3_playBaseball.cls ∈ lw_g) (lwq_5 (dqc_m (dqc_m (dqc_m (List.mem_of_getElem? (i := 6) rfl)))) rfl : Cond.code yX3_playBaseball cX3_playBaseball 4 none ∈ lw_g), ⟨nmh_3.1, nmh_3.2, pdq_3⟩, ⟨_, _, rfl⟩⟩
set_option maxRecDepth 100000 in
theorem cl_X3_95 : cv_ RX3 95 yX3_substitute zX3_substitute 3 3 := ⟨gi_V (lwq_5 (dqc_m (dqc_m (List.mem_of_getElem? (i := 0) rfl))) rfl : Cond.methodLink RX3 95 yX3_substitute ∈ lw_g) (lwq_5 (dqc_m (dqc_m (List.mem_of_getElem? (i := 2) rfl))) rfl : Cond.instanceMethod yX3_substitute ∈ lw_g) (lw_sel 101 rfl : Cond.selects yX3_substitute.cls yX3_substitute yX3_substitute ∈ lw_g) (lwq_1 (dqa_m (dqa_m (List.mem_of_getElem? (i := 2) rfl))) rfl : Cond.initialized yX3_substitute.cls ∈ lw_g) (lwq_5 (dqc_m (dqc_m (List.mem_of_getElem? (i := 3) rfl))) rfl : Cond.code yX3_substitute cX3_substitute 6 none ∈ lw_g), ⟨nmh_3.1, nmh_3.2, pdq_3⟩, ⟨_, _, rfl⟩⟩
abbrev cX9_setCaps : ByteArray := prog_11_method_7_code
def yX9_setCaps : MethodName := ⟨RX9, "setCaps", "(I)V"⟩
def zX9_setCaps : Zm := (RX9, cX9_setCaps, 6, none, { frames := 1, cells := 0, slots := 0, locals := 21 })
set_option maxRecDepth 100000 in
theorem cl_X9_115 : cv_ RX9 115 yX2_has zX2_has 2 1 := ⟨gi_V (lwq_6 (dqc_m (dqa_m (List.mem_of_getElem? (i := 1) rfl))) rfl : Cond.methodLink RX9 115 yX2_has ∈ lw_g) (lwq_4 (dqc_m (dqc_m (dqa_m (List.mem_of_getElem? (i := 2) rfl)))) rfl : Cond.instanceMethod yX2_has ∈ lw_g) (lwq_4 (dqc_m (dqc_m (dqa_m (List.mem_of_getElem? (i := 3) rfl)))) rfl : Cond.selects yX2_has.cls yX2_has yX2_has ∈ lw_g) (lwq_1 (dqa_m (dqa_m (List.mem_of_getElem? (i := 0) rfl))) rfl : Cond.initialized yX2_has.cls ∈ lw_g) (lwq_4 (dqc_m (dqc_m (dqa_m (List.mem_of_getElem? (i := 4) rfl)))) rfl : Cond.code yX2_has cX2_has 2 (some .boolean) ∈ lw_g), ⟨nmh_10.1, nmh_10.2, pdq_7⟩, ⟨_, _, rfl⟩⟩
def KS_ (T : Zt) : Prop := ∀ c : Int, 0 ≤ c → c < T 106 0 2 → ∀ m : Int, T 100 c 7 ≤ m → m < T 100 c 7 + T 100 c 8 → T 102 m 0 = c ∧ 0 ≤ T 404 c (T 102 m 3) ∧ 0 ≤ T 404 c (T 102 m 4)
theorem KS__f {ws : List (Nat × List Int)} {T T' : Zt} (h : KS_ T) (f : fr_ ws T T') (w : (∀ j, fw_ ws 404 j = false) ∧ fw_ ws 100 7 = false ∧ fw_ ws 100 8 = false ∧ fw_ ws 102 0 = false ∧ fw_ ws 102 3 = false ∧ fw_ ws 102 4 = false ∧ fw_ ws 106 2 = false ∧ True) : KS_ T' := by
  have e0 : ∀ i j, T' 404 i j = T 404 i j := fun i j => f 404 i j (w.1 j)
  have e1 : ∀ i, T' 100 i 7 = T 100 i 7 := fun i => f 100 i 7 w.2.1
  have e2 : ∀ i, T' 100 i 8 = T 100 i 8 := fun i => f 100 i 8 w.2.2.1
  have e3 : ∀ i, T' 102 i 0 = T 102 i 0 := fun i => f 102 i 0 w.2.2.2.1
  have e4 : ∀ i, T' 102 i 3 = T 102 i 3 := fun i => f 102 i 3 w.2.2.2.2.1
  have e5 : ∀ i, T' 102 i 4 = T 102 i 4 := fun i => f 102 i 4 w.2.2.2.2.2.1
  have e6 : ∀ i, T' 106 i 2 = T 106 i 2 := fun i => f 106 i 2 w.2.2.2.2.2.2.1
  simp only [KS_, e0, e1, e2, e3, e4, e5, e6] at h ⊢
  exact h
abbrev cX9_takePoints : ByteArray := prog_11_method_4_code
def yX9_takePoints : MethodName := ⟨RX9, "takePoints", "(I)V"⟩
def zX9_takePoints : Zm := (RX9, cX9_takePoints, 6, none, { frames := 3, cells := 0, slots := 0, locals := 76 })
set_option maxRecDepth 100000 in
theorem cl_X9_124 : cv_ RX9 124 yX7_tally zX7_tally 7 2 := ⟨gi_V (lwq_6 (dqc_m (dqa_m (List.mem_of_getElem? (i := 6) rfl))) rfl : Cond.methodLink RX9 124 yX7_tally ∈ lw_g) (lwq_5 (dqc_m (dqc_m (dqc_m (dqc_m (dqc_m (dqc_m (dqa_m (List.mem_of_getElem? (i := 1) rfl)))))))) rfl : Cond.instanceMethod yX7_tally ∈ lw_g) (lwq_5 (dqc_m (dqc_m (dqc_m (dqc_m (dqc_m (dqc_m (dqa_m (List.mem_of_getElem? (i := 2) rfl)))))))) rfl : Cond.selects yX7_tally.cls yX7_tally yX7_tally ∈ lw_g) (lwq_1 (List.mem_of_getElem? (i := 5) rfl) rfl : Cond.initialized yX7_tally.cls ∈ lw_g) (lwq_5 (dqc_m (dqc_m (dqc_m (dqc_m (dqc_m (dqc_m (dqa_m (List.mem_of_getElem? (i := 3) rfl)))))))) rfl : Cond.code yX7_tally cX7_tally 5 none ∈ lw_g), ⟨nmh_7.1, nmh_7.2, pdq_31⟩, ⟨_, _, rfl⟩⟩
abbrev cX9_isFirstBy : ByteArray := prog_11_method_18_code
def yX9_isFirstBy : MethodName := ⟨RX9, "isFirstBy", "(III)Z"⟩
def zX9_isFirstBy : Zm := (RX9, cX9_isFirstBy, 7, (some .boolean), { frames := 5, cells := 0, slots := 0, locals := 127 })
theorem bk_X9_isFirstBy_20 : ck_ fX9 (some .boolean) cX9_isFirstBy 20 [.iload 5, .iload 2, .if_icmp .ge 87, .iload 4, .iconst 3, .frem, .istore 6, .iload 4, .iconst 3, .fdiv, .istore 4, .aload 0, .tableswitch 0 9 1 #[], .aload 0, .tableswitch 0 9 0 #[], .tableswitch 0 6 3 #[], .aload 0, .tableswitch 0 9 8 #[], .iload 5, .iaload, .aaload, .iload 6, .ifCond .ne 66, .iconst 1, .goto 67] 66 = true := qck_r (nn_ _) (by decide +kernel)
theorem bs_X9_isFirstBy_20 {P : Zt → Option Zv → Prop} (K : Int → Zl → List Zv → Zt → Prop) : sx_ K P [.iload 5, .iload 2, .if_icmp .ge 87, .iload 4, .iconst 3, .frem, .istore 6, .iload 4, .iconst 3, .fdiv, .istore 4, .aload 0, .tableswitch 0 9 1 #[], .aload 0, .tableswitch 0 9 0 #[], .tableswitch 0 6 3 #[], .aload 0, .tableswitch 0 9 8 #[], .iload 5, .iaload, .aaload, .iload 6, .ifCond .ne 66, .iconst 1, .goto 67] 66 = x_iload 5 (x_iload 2 (x_if_icmp .ge 87 K (x_iload 4 (x_iconst 3 (x_frem (x_istore 6 (x_iload 4 (x_iconst 3 (x_fdiv (x_istore 4 (x_aload 0 (x_g1 109 107 (x_aload 0 (x_g1 109 106 (x_g1 106 523 (x_aload 0 (x_g1 109 588 (x_iload 5 (x_iaload (x_aaload (x_iload 6 (x_ifCond .ne 66 K (x_iconst 1 (x_goto 67 K)))))))))))))))))))))))) := ((xe_iload 5).trans (congrArg (x_iload 5) ((xe_iload 2).trans (congrArg (x_iload 2) ((xe_if_icmp .ge 87).trans (congrArg (x_if_icmp .ge 87 K) ((xe_iload 4).trans (congrArg (x_iload 4) ((xe_iconst 3).trans (congrArg (x_iconst 3) ((xe_frem).trans (congrArg (x_frem) ((xe_istore 6).trans (congrArg (x_istore 6) ((xe_iload 4).trans (congrArg (x_iload 4) ((xe_iconst 3).trans (congrArg (x_iconst 3) ((xe_fdiv).trans (congrArg (x_fdiv) ((xe_istore 4).trans (congrArg (x_istore 4) ((xe_aload 0).trans (congrArg (x_aload 0) ((xe_g1 (kk := 109) rfl tl_9_1).trans (congrArg (x_g1 109 107) ((xe_aload 0).trans (congrArg (x_aload 0) ((xe_g1 (kk := 109) rfl tl_9_0).trans (congrArg (x_g1 109 106) ((xe_g1 (kk := 106) rfl tl_6_3).trans (congrArg (x_g1 106 523) ((xe_aload 0).trans (congrArg (x_aload 0) ((xe_g1 (kk := 109) rfl tl_9_8).trans (congrArg (x_g1 109 588) ((xe_iload 5).trans (congrArg (x_iload 5) ((xe_iaload).trans (congrArg (x_iaload) ((xe_aaload).trans (congrArg (x_aaload) ((xe_iload 6).trans (congrArg (x_iload 6) ((xe_ifCond .ne 66).trans (congrArg (x_ifCond .ne 66 K) ((xe_iconst 1).trans (congrArg (x_iconst 1) (xe_goto 67)))))))))))))))))))))))))))))))))))))))))))))))))
theorem bk_X9_isFirstBy_87 : ck_ fX9 (some .boolean) cX9_isFirstBy 87 [.aload 0, .tableswitch 0 9 1 #[]] 91 = true := qck_r (nn_ _) (by decide +kernel)
theorem bs_X9_isFirstBy_87 {P : Zt → Option Zv → Prop} (K : Int → Zl → List Zv → Zt → Prop) : sx_ K P [.aload 0, .tableswitch 0 9 1 #[]] 91 = x_aload 0 (x_g1 109 107 (K 91)) := ((xe_aload 0).trans (congrArg (x_aload 0) ((xe_g1 (kk := 109) rfl tl_9_1).trans (congrArg (x_g1 109 107) xe_nil))))
set_option maxRecDepth 100000 in
theorem cl_X9_184 : cv_ RX9 184 yX7_rank zX7_rank 7 0 := ⟨gi_V (lwq_6 (dqc_m (dqc_m (dqc_m (dqa_m (dqa_m (dqa_m (List.mem_of_getElem? (i := 0) rfl))))))) rfl : Cond.methodLink RX9 184 yX7_rank ∈ lw_g) (lwq_5 (dqc_m (dqc_m (dqc_m (dqc_m (dqc_m (dqc_m (dqc_m (List.mem_of_getElem? (i := 1) rfl)))))))) rfl : Cond.instanceMethod yX7_rank ∈ lw_g) (lwq_5 (dqc_m (dqc_m (dqc_m (dqc_m (dqc_m (dqc_m (dqc_m (List.mem_of_getElem? (i := 2) rfl)))))))) rfl : Cond.selects yX7_rank.cls yX7_rank yX7_rank ∈ lw_g) (lwq_1 (List.mem_of_getElem? (i := 5) rfl) rfl : Cond.initialized yX7_rank.cls ∈ lw_g) (lwq_5 (dqc_m (dqc_m (dqc_m (dqc_m (dqc_m (dqc_m (dqc_m (List.mem_of_getElem? (i := 3) rfl)))))))) rfl : Cond.code yX7_rank cX7_rank 3 none ∈ lw_g), ⟨nmh_7.1, nmh_7.2, pdq_1⟩, ⟨_, _, rfl⟩⟩
theorem bk_X9_isFirstBy_94 : ck_ fX9 (some .boolean) cX9_isFirstBy 94 [.aload 0, .tableswitch 0 9 1 #[], .tableswitch 0 7 2 #[], .iload 3, .iconst 8, .imul, .iconst 7, .iadd, .iaload, .iconst 1, .if_icmp .ne 117, .iconst 1, .goto 118] 117 = true := qck_r (nn_ _) (by decide +kernel)
theorem bs_X9_isFirstBy_94 {P : Zt → Option Zv → Prop} (K : Int → Zl → List Zv → Zt → Prop) : sx_ K P [.aload 0, .tableswitch 0 9 1 #[], .tableswitch 0 7 2 #[], .iload 3, .iconst 8, .imul, .iconst 7, .iadd, .iaload, .iconst 1, .if_icmp .ne 117, .iconst 1, .goto 118] 117 = x_aload 0 (x_g1 109 107 (x_g1 107 542 (x_iload 3 (x_iconst 8 (x_imul (x_iconst 7 (x_iadd (x_iaload (x_iconst 1 (x_if_icmp .ne 117 K (x_iconst 1 (x_goto 118 K)))))))))))) := ((xe_aload 0).trans (congrArg (x_aload 0) ((xe_g1 (kk := 109) rfl tl_9_1).trans (congrArg (x_g1 109 107) ((xe_g1 (kk := 107) rfl tl_7_2).trans (congrArg (x_g1 107 542) ((xe_iload 3).trans (congrArg (x_iload 3) ((xe_iconst 8).trans (congrArg (x_iconst 8) ((xe_imul).trans (congrArg (x_imul) ((xe_iconst 7).trans (congrArg (x_iconst 7) ((xe_iadd).trans (congrArg (x_iadd) ((xe_iaload).trans (congrArg (x_iaload) ((xe_iconst 1).trans (congrArg (x_iconst 1) ((xe_if_icmp .ne 117).trans (congrArg (x_if_icmp .ne 117 K) ((xe_iconst 1).trans (congrArg (x_iconst 1) (xe_goto 118)))))))))))))))))))))))))
theorem bk_X9_isFirstBy_117 : ck_ fX9 (some .boolean) cX9_isFirstBy 117 [.iconst 0, .ireturn] 119 = true := qck_r (nn_ _) (by decide +kernel)
theorem bs_X9_isFirstBy_117 {P : Zt → Option Zv → Prop} (K : Int → Zl → List Zv → Zt → Prop) : sx_ K P [.iconst 0, .ireturn] 119 = x_iconst 0 (x_ireturn P) := ((xe_iconst 0).trans (congrArg (x_iconst 0) (xe_ireturn)))
theorem bk_X9_isFirstBy_118 : ck_ fX9 (some .boolean) cX9_isFirstBy 118 [.ireturn] 119 = true := qck_r (nn_ _) (by decide +kernel)
theorem bs_X9_isFirstBy_118 {P : Zt → Option Zv → Prop} (K : Int → Zl → List Zv → Zt → Prop) : sx_ K P [.ireturn] 119 = x_ireturn P := (xe_ireturn)
theorem bk_X9_isFirstBy_66 : ck_ fX9 (some .boolean) cX9_isFirstBy 66 [.iconst 0, .iload 6, .iconst 2, .if_icmp .ne 77, .iconst 1, .goto 78] 77 = true := qck_r (nn_ _) (by decide +kernel)
theorem bs_X9_isFirstBy_66 {P : Zt → Option Zv → Prop} (K : Int → Zl → List Zv → Zt → Prop) : sx_ K P [.iconst 0, .iload 6, .iconst 2, .if_icmp .ne 77, .iconst 1, .goto 78] 77 = x_iconst 0 (x_iload 6 (x_iconst 2 (x_if_icmp .ne 77 K (x_iconst 1 (x_goto 78 K))))) := ((xe_iconst 0).trans (congrArg (x_iconst 0) ((xe_iload 6).trans (congrArg (x_iload 6) ((xe_iconst 2).trans (congrArg (x_iconst 2) ((xe_if_icmp .ne 77).trans (congrArg (x_if_icmp .ne 77 K) ((xe_iconst 1).trans (congrArg (x_iconst 1) (xe_goto 78)))))))))))
theorem bk_X9_isFirstBy_77 : ck_ fX9 (some .boolean) cX9_isFirstBy 77 [.iconst 0] 78 = true := qck_r (nn_ _) (by decide +kernel)
theorem bs_X9_isFirstBy_77 {P : Zt → Option Zv → Prop} (K : Int → Zl → List Zv → Zt → Prop) : sx_ K P [.iconst 0] 78 = x_iconst 0 (K 78) := ((xe_iconst 0).trans (congrArg (x_iconst 0) xe_nil))
set_option maxRecDepth 100000 in
theorem cl_X9_180 : cv_ RX9 180 yX7_addResult zX7_addResult 7 3 := ⟨gi_V (lwq_6 (dqc_m (dqc_m (dqc_m (dqa_m (dqa_m (List.mem_of_getElem? (i := 7) rfl)))))) rfl : Cond.methodLink RX9 180 yX7_addResult ∈ lw_g) (lwq_5 (dqc_m (dqc_m (dqc_m (dqc_m (dqc_m (dqc_m (dqa_m (dqa_m (List.mem_of_getElem? (i := 0) rfl))))))))) rfl : Cond.instanceMethod yX7_addResult ∈ lw_g) (lwq_5 (dqc_m (dqc_m (dqc_m (dqc_m (dqc_m (dqc_m (dqa_m (dqa_m (List.mem_of_getElem? (i := 1) rfl))))))))) rfl : Cond.selects yX7_addResult.cls yX7_addResult yX7_addResult ∈ lw_g) (lwq_1 (List.mem_of_getElem? (i := 5) rfl) rfl : Cond.initialized yX7_addResult.cls ∈ lw_g) (lwq_5 (dqc_m (dqc_m (dqc_m (dqc_m (dqc_m (dqc_m (dqa_m (dqa_m (List.mem_of_getElem? (i := 2) rfl))))))))) rfl : Cond.code yX7_addResult cX7_addResult 6 none ∈ lw_g), ⟨nmh_7.1, nmh_7.2, pdq_30⟩, ⟨_, _, rfl⟩⟩
theorem bk_X9_isFirstBy_81 : ck_ fX9 (some .boolean) cX9_isFirstBy 81 [.iinc 5 1, .goto 20] 87 = true := qck_r (nn_ _) (by decide +kernel)
theorem bs_X9_isFirstBy_81 {P : Zt → Option Zv → Prop} (K : Int → Zl → List Zv → Zt → Prop) : sx_ K P [.iinc 5 1, .goto 20] 87 = x_iinc 5 1 (x_goto 20 K) := ((xe_iinc 5 1).trans (congrArg (x_iinc 5 1) (xe_goto 20)))
theorem bk_X9_isFirstBy_67 : ck_ fX9 (some .boolean) cX9_isFirstBy 67 [.iload 6, .iconst 2, .if_icmp .ne 77, .iconst 1, .goto 78] 77 = true := qck_r (nn_ _) (by decide +kernel)
theorem bs_X9_isFirstBy_67 {P : Zt → Option Zv → Prop} (K : Int → Zl → List Zv → Zt → Prop) : sx_ K P [.iload 6, .iconst 2, .if_icmp .ne 77, .iconst 1, .goto 78] 77 = x_iload 6 (x_iconst 2 (x_if_icmp .ne 77 K (x_iconst 1 (x_goto 78 K)))) := ((xe_iload 6).trans (congrArg (x_iload 6) ((xe_iconst 2).trans (congrArg (x_iconst 2) ((xe_if_icmp .ne 77).trans (congrArg (x_if_icmp .ne 77 K) ((xe_iconst 1).trans (congrArg (x_iconst 1) (xe_goto 78)))))))))
theorem bk_X9_isFirstBy_0 : ck_ fX9 (some .boolean) cX9_isFirstBy 0 [.aload 0, .tableswitch 0 9 1 #[], .aload 0, .tableswitch 0 9 5 #[], .iconst 999] 11 = true := qck_r (nn_ _) (by decide +kernel)
theorem bs_X9_isFirstBy_0 {P : Zt → Option Zv → Prop} (K : Int → Zl → List Zv → Zt → Prop) : sx_ K P [.aload 0, .tableswitch 0 9 1 #[], .aload 0, .tableswitch 0 9 5 #[], .iconst 999] 11 = x_aload 0 (x_g1 109 107 (x_aload 0 (x_g5 109 100 5 (x_iconst 999 (K 11))))) := ((xe_aload 0).trans (congrArg (x_aload 0) ((xe_g1 (kk := 109) rfl tl_9_1).trans (congrArg (x_g1 109 107) ((xe_aload 0).trans (congrArg (x_aload 0) ((xe_g5 (kk := 109) rfl tl_9_5).trans (congrArg (x_g5 109 100 5) ((xe_iconst 999).trans (congrArg (x_iconst 999) xe_nil))))))))))
theorem bk_X9_isFirstBy_14 : ck_ fX9 (some .boolean) cX9_isFirstBy 14 [.iload 1, .istore 4, .iconst 0, .istore 5] 20 = true := qck_r (nn_ _) (by decide +kernel)
theorem bs_X9_isFirstBy_14 {P : Zt → Option Zv → Prop} (K : Int → Zl → List Zv → Zt → Prop) : sx_ K P [.iload 1, .istore 4, .iconst 0, .istore 5] 20 = x_iload 1 (x_istore 4 (x_iconst 0 (x_istore 5 (K 20)))) := ((xe_iload 1).trans (congrArg (x_iload 1) ((xe_istore 4).trans (congrArg (x_istore 4) ((xe_iconst 0).trans (congrArg (x_iconst 0) ((xe_istore 5).trans (congrArg (x_istore 5) xe_nil))))))))
abbrev po_X9_isFirstBy (T : Zt) (a n s : Int) : Zt → Option Zv → Prop := fun T' r => ∃ x : Int, r = some (vI x) ∧ fr_ [(107, [1, 13]), (542, []), (543, []), (544, []), (545, []), (546, []), (550, []), (551, []), (552, []), (549, []), (547, []), (548, [])] T T' ∧ (0 ≤ x ∧ x ≤ 1)
set_option maxHeartbeats 4000000 in
theorem ct_X9_isFirstBy {T : Zt} {a n s : Int} (hka : KA_ T) (hkc : KC_ T) (hc9 : 1 ≤ T 109 0 5 ∧ T 109 0 5 ≤ T 106 0 2) (hs : 0 ≤ s ∧ s ≤ 11) (hn : 0 ≤ n ∧ n ≤ 40) (hop : ∀ j : Int, 0 ≤ j → j < n → 0 ≤ T 588 0 j ∧ T 588 0 j < T 106 0 4) (hrk : T 401 (T 109 0 5 - 1) 4 ≤ 7) : Ct_ yX9_isFirstBy zX9_isFirstBy T [vR 109 0, vI a, vI n, vI s] (po_X9_isFirstBy T a n s) := by
  refine ct_of pn_9 rfl rfl (Nat.le_of_ble_eq_true rfl) (fun hT hav => ?_)
  have hr_a : -2147483648 ≤ a ∧ a ≤ 2147483647 := hav (vI a) (List.mem_cons_of_mem _ List.mem_cons_self)
  have hr_n : -2147483648 ≤ n ∧ n ≤ 2147483647 := hav (vI n) (List.mem_cons_of_mem _ (List.mem_cons_of_mem _ List.mem_cons_self))
  have hr_s : -2147483648 ≤ s ∧ s ≤ 2147483647 := hav (vI s) (List.mem_cons_of_mem _ (List.mem_cons_of_mem _ (List.mem_cons_of_mem _ List.mem_cons_self)))
  have hz : zX9_isFirstBy.2.2.2.1 = some .boolean → ∀ (T' : Zt) (x : Int), po_X9_isFirstBy T a n s T' (some (vI x)) → 0 ≤ x ∧ x ≤ 1 := fun _ T' x h => by obtain ⟨y, e, -, hy⟩ := h; cases e; omega
  show J_ zX9_isFirstBy T (po_X9_isFirstBy T a n s) 0 0 0 [some (vR 109 0), some (vI a), some (vI n), some (vI s), none, none, none] [] T
  have c_20 : ∀ (nn : Nat) (g : Int) (u : Int) (T1 : Zt), ((n - u).toNat) ≤ nn → (fr_ [(107, [1]), (542, []), (543, []), (544, []), (545, []), (546, [])] T T1) → (0 ≤ u) → (T1 107 0 1 = T 109 0 5) → J_ zX9_isFirstBy T (po_X9_isFirstBy T a n s) 0 0 20 [some (vR 109 0), some (vI a), some (vI n), some (vI s), some (vI g), some (vI u), none] [] T1 := by
    intro nn
    induction nn using Nat.strongRecOn with
    | _ nn ih_20 =>
      intro g u T1 hm_20 hf_20 i1 i0
      replace hm_20 := fun (_ : Unit) => hm_20
      refine j_blx (F := fX9) tb_X9 (nn_ _) bk_X9_isFirstBy_20 bs_X9_isFirstBy_20 hz (fun K hK => ?_)
      refine And.intro (fun c1 => ?_) (fun c1 => ?_)
      · refine hK 87 _ [] T1 ?_
        refine j_blx (F := fX9) tb_X9 (nn_ _) bk_X9_isFirstBy_87 bs_X9_isFirstBy_87 hz (fun K hK => ?_)
        refine hK 91 _ [vR 107 0] T1 ?_
        have e2 : T1 401 (T 109 0 5 - 1) 4 = T 401 (T 109 0 5 - 1) 4 := hf_20 401 (T 109 0 5 - 1) 4 rfl
        refine j_callV (y := yX7_rank) (Yc := zX7_rank) (rest := []) [] (ct_X7_rank (T := T1) (by omega) (by rw [show T1 107 0 1 - 1 = (T 109 0 5 - 1) by omega]; omega)) cl_X9_184 (qd_c (by decide +kernel)) (nn_ _) rfl (rf_of rfl) (Nat.le_of_ble_eq_true rfl) (Nat.le_of_ble_eq_true rfl) (Nat.le_of_ble_eq_true rfl) rfl ?_
        rintro U3 _ ⟨rfl, fU3, qU3⟩
        show J_ zX9_isFirstBy T (po_X9_isFirstBy T a n s) 0 0 94 _ [] U3
        refine j_blx (F := fX9) tb_X9 (nn_ _) bk_X9_isFirstBy_94 bs_X9_isFirstBy_94 hz (fun K hK => ?_)
        refine rg_i (by omega) ?_
        refine rg_i (by omega) ?_
        refine ix_i (by omega) ?_
        intro b4 b4b
        refine And.intro (fun c5 => ?_) (fun c5 => ?_)
        · refine hK 117 _ [] U3 ?_
          refine j_blx (F := fX9) tb_X9 (nn_ _) bk_X9_isFirstBy_117 bs_X9_isFirstBy_117 hz (fun K hK => ?_)
          refine (show po_X9_isFirstBy T a n s U3 (some (vI 0)) from ?_)
          exact ⟨_, rfl, fr_t (fr_t (fr_0 _ _) (fr_s hf_20 rfl)) (fr_s fU3 rfl), by omega⟩
        · refine hK 118 _ [vI 1] U3 ?_
          refine j_blx (F := fX9) tb_X9 (nn_ _) bk_X9_isFirstBy_118 bs_X9_isFirstBy_118 hz (fun K hK => ?_)
          refine (show po_X9_isFirstBy T a n s U3 (some (vI 1)) from ?_)
          exact ⟨_, rfl, fr_t (fr_t (fr_0 _ _) (fr_s hf_20 rfl)) (fr_s fU3 rfl), by omega⟩
      · refine And.intro (by omega) (fun w6 w6b => ?_)
        refine And.intro (by omega) (fun w7 w7b => ?_)
        refine ix_i (by omega) ?_
        intro b8 b8b
        have e9 : T1 588 0 u = T 588 0 u := hf_20 588 0 u rfl
        rw [e9] at b8 b8b ⊢
        refine ix_i (by omega) ?_
        have e11 : T1 523 0 (T 588 0 u) = T 523 0 (T 588 0 u) := hf_20 523 0 (T 588 0 u) rfl
        refine And.intro (fun c10 => ?_) (fun c10 => ?_)
        · exact absurd (show T 523 0 (T 588 0 u) = 0 by omega) (hka.2 _ (by have z := hop u (by omega) (by omega); omega) (by have z := hop u (by omega) (by omega); omega))
        · refine And.intro (fun c12 => ?_) (fun c12 => ?_)
          · refine hK 66 [some (vR 109 0), some (vI a), some (vI n), some (vI s), some (vI (dq_ g 3)), some (vI u), some (vI (dr_ g 3))] [vR 102 (T 588 0 u), vR 107 0] T1 ?_
            refine j_blx (F := fX9) tb_X9 (nn_ _) bk_X9_isFirstBy_66 bs_X9_isFirstBy_66 hz (fun K hK => ?_)
            refine And.intro (fun c13 => ?_) (fun c13 => ?_)
            · refine hK 77 _ [vI 0, vR 102 (T 588 0 u), vR 107 0] T1 ?_
              refine j_blx (F := fX9) tb_X9 (nn_ _) bk_X9_isFirstBy_77 bs_X9_isFirstBy_77 hz (fun K hK => ?_)
              refine hK 78 _ [vI 0, vI 0, vR 102 (T 588 0 u), vR 107 0] T1 ?_
              refine j_callV (y := yX7_addResult) (Yc := zX7_addResult) (rest := []) [vR 102 (T 588 0 u), vI 0, vI 0] (ct_X7_addResult (T := T1) (by omega)) cl_X9_180 (qd_c (by decide +kernel)) (nn_ _) rfl (rf_of rfl) (Nat.le_of_ble_eq_true rfl) (Nat.le_of_ble_eq_true rfl) (Nat.le_of_ble_eq_true rfl) rfl ?_
              rintro U14 _ ⟨rfl, fU14, qU14⟩
              show J_ zX9_isFirstBy T (po_X9_isFirstBy T a n s) 0 0 81 _ [] U14
              refine j_blx (F := fX9) tb_X9 (nn_ _) bk_X9_isFirstBy_81 bs_X9_isFirstBy_81 hz (fun K hK => ?_)
              refine rg_i (by omega) ?_
              refine hK 20 [some (vR 109 0), some (vI a), some (vI n), some (vI s), some (vI (dq_ g 3)), some (vI (u + 1)), some (vI (dr_ g 3))] [] U14 ?_
              refine j_drq [some (vR 109 0), some (vI a), some (vI n), some (vI s), some (vI (dq_ g 3)), some (vI (u + 1)), none] (drq_s (drq_s (drq_s (drq_s (drq_s (drq_s (drq_n drq_0))))))) ?_
              have e15 : U14 107 0 1 = T1 107 0 1 := fU14 107 0 1 rfl
              refine ih_20 _ ?_ (dq_ g 3) (u + 1) U14 (Nat.le_refl _) ?_ ?_ ?_
              · have hm_20 := hm_20 (); omega
              · exact fr_t (fr_t (fr_0 _ _) (fr_s hf_20 rfl)) (fr_s fU14 rfl)
              · omega
              · omega
            · refine hK 78 [some (vR 109 0), some (vI a), some (vI n), some (vI s), some (vI (dq_ g 3)), some (vI u), some (vI (dr_ g 3))] [vI 1, vI 0, vR 102 (T 588 0 u), vR 107 0] T1 ?_
              refine j_callV (y := yX7_addResult) (Yc := zX7_addResult) (rest := []) [vR 102 (T 588 0 u), vI 0, vI 1] (ct_X7_addResult (T := T1) (by omega)) cl_X9_180 (qd_c (by decide +kernel)) (nn_ _) rfl (rf_of rfl) (Nat.le_of_ble_eq_true rfl) (Nat.le_of_ble_eq_true rfl) (Nat.le_of_ble_eq_true rfl) rfl ?_
              rintro U16 _ ⟨rfl, fU16, qU16⟩
              show J_ zX9_isFirstBy T (po_X9_isFirstBy T a n s) 0 0 81 _ [] U16
              refine j_blx (F := fX9) tb_X9 (nn_ _) bk_X9_isFirstBy_81 bs_X9_isFirstBy_81 hz (fun K hK => ?_)
              refine rg_i (by omega) ?_
              refine hK 20 [some (vR 109 0), some (vI a), some (vI n), some (vI s), some (vI (dq_ g 3)), some (vI (u + 1)), some (vI (dr_ g 3))] [] U16 ?_
              refine j_drq [some (vR 109 0), some (vI a), some (vI n), some (vI s), some (vI (dq_ g 3)), some (vI (u + 1)), none] (drq_s (drq_s (drq_s (drq_s (drq_s (drq_s (drq_n drq_0))))))) ?_
              have e17 : U16 107 0 1 = T1 107 0 1 := fU16 107 0 1 rfl
              refine ih_20 _ ?_ (dq_ g 3) (u + 1) U16 (Nat.le_refl _) ?_ ?_ ?_
              · have hm_20 := hm_20 (); omega
              · exact fr_t (fr_t (fr_0 _ _) (fr_s hf_20 rfl)) (fr_s fU16 rfl)
              · omega
              · omega
          · refine hK 67 _ [vI 1, vR 102 (T 588 0 u), vR 107 0] T1 ?_
            refine j_blx (F := fX9) tb_X9 (nn_ _) bk_X9_isFirstBy_67 bs_X9_isFirstBy_67 hz (fun K hK => ?_)
            refine And.intro (fun c18 => ?_) (fun c18 => ?_)
            · refine hK 77 _ [vI 1, vR 102 (T 588 0 u), vR 107 0] T1 ?_
              refine j_blx (F := fX9) tb_X9 (nn_ _) bk_X9_isFirstBy_77 bs_X9_isFirstBy_77 hz (fun K hK => ?_)
              refine hK 78 _ [vI 0, vI 1, vR 102 (T 588 0 u), vR 107 0] T1 ?_
              refine j_callV (y := yX7_addResult) (Yc := zX7_addResult) (rest := []) [vR 102 (T 588 0 u), vI 1, vI 0] (ct_X7_addResult (T := T1) (by omega)) cl_X9_180 (qd_c (by decide +kernel)) (nn_ _) rfl (rf_of rfl) (Nat.le_of_ble_eq_true rfl) (Nat.le_of_ble_eq_true rfl) (Nat.le_of_ble_eq_true rfl) rfl ?_
              rintro U19 _ ⟨rfl, fU19, qU19⟩
              show J_ zX9_isFirstBy T (po_X9_isFirstBy T a n s) 0 0 81 _ [] U19
              refine j_blx (F := fX9) tb_X9 (nn_ _) bk_X9_isFirstBy_81 bs_X9_isFirstBy_81 hz (fun K hK => ?_)
              refine rg_i (by omega) ?_
              refine hK 20 [some (vR 109 0), some (vI a), some (vI n), some (vI s), some (vI (dq_ g 3)), some (vI (u + 1)), some (vI (dr_ g 3))] [] U19 ?_
              refine j_drq [some (vR 109 0), some (vI a), some (vI n), some (vI s), some (vI (dq_ g 3)), some (vI (u + 1)), none] (drq_s (drq_s (drq_s (drq_s (drq_s (drq_s (drq_n drq_0))))))) ?_
              have e20 : U19 107 0 1 = T1 107 0 1 := fU19 107 0 1 rfl
              refine ih_20 _ ?_ (dq_ g 3) (u + 1) U19 (Nat.le_refl _) ?_ ?_ ?_
              · have hm_20 := hm_20 (); omega
              · exact fr_t (fr_t (fr_0 _ _) (fr_s hf_20 rfl)) (fr_s fU19 rfl)
              · omega
              · omega
            · refine hK 78 [some (vR 109 0), some (vI a), some (vI n), some (vI s), some (vI (dq_ g 3)), some (vI u), some (vI (dr_ g 3))] [vI 1, vI 1, vR 102 (T 588 0 u), vR 107 0] T1 ?_
              refine j_callV (y := yX7_addResult) (Yc := zX7_addResult) (rest := []) [vR 102 (T 588 0 u), vI 1, vI 1] (ct_X7_addResult (T := T1) (by omega)) cl_X9_180 (qd_c (by decide +kernel)) (nn_ _) rfl (rf_of rfl) (Nat.le_of_ble_eq_true rfl) (Nat.le_of_ble_eq_true rfl) (Nat.le_of_ble_eq_true rfl) rfl ?_
              rintro U21 _ ⟨rfl, fU21, qU21⟩
              show J_ zX9_isFirstBy T (po_X9_isFirstBy T a n s) 0 0 81 _ [] U21
              refine j_blx (F := fX9) tb_X9 (nn_ _) bk_X9_isFirstBy_81 bs_X9_isFirstBy_81 hz (fun K hK => ?_)
              refine rg_i (by omega) ?_
              refine hK 20 [some (vR 109 0), some (vI a), some (vI n), some (vI s), some (vI (dq_ g 3)), some (vI (u + 1)), some (vI (dr_ g 3))] [] U21 ?_
              refine j_drq [some (vR 109 0), some (vI a), some (vI n), some (vI s), some (vI (dq_ g 3)), some (vI (u + 1)), none] (drq_s (drq_s (drq_s (drq_s (drq_s (drq_s (drq_n drq_0))))))) ?_
              have e22 : U21 107 0 1 = T1 107 0 1 := fU21 107 0 1 rfl
              refine ih_20 _ ?_ (dq_ g 3) (u + 1) U21 (Nat.le_refl _) ?_ ?_ ?_
              · have hm_20 := hm_20 (); omega
              · exact fr_t (fr_t (fr_0 _ _) (fr_s hf_20 rfl)) (fr_s fU21 rfl)
              · omega
              · omega
  refine j_blx (F := fX9) tb_X9 (nn_ _) bk_X9_isFirstBy_0 bs_X9_isFirstBy_0 hz (fun K hK => ?_)
  refine And.intro (fun c23 => ?_) (fun c23 => ?_)
  · exact absurd c23 (by omega)
  · refine hK 11 _ [vI 999, vR 100 (T 109 0 5 - 1), vR 107 0] T ?_
    refine j_callV (y := yX7_tally) (Yc := zX7_tally) (rest := []) [vR 100 (T 109 0 5 - 1), vI 999] (ct_X7_tally (T := T) (hka) (hkc) (by omega)) cl_X9_124 (qd_c (by decide +kernel)) (nn_ _) rfl (rf_of rfl) (Nat.le_of_ble_eq_true rfl) (Nat.le_of_ble_eq_true rfl) (Nat.le_of_ble_eq_true rfl) rfl ?_
    rintro U24 _ ⟨rfl, fU24, qU24⟩
    show J_ zX9_isFirstBy T (po_X9_isFirstBy T a n s) 0 0 14 _ [] U24
    refine j_blx (F := fX9) tb_X9 (nn_ _) bk_X9_isFirstBy_14 bs_X9_isFirstBy_14 hz (fun K hK => ?_)
    refine hK 20 [some (vR 109 0), some (vI a), some (vI n), some (vI s), some (vI a), some (vI 0), none] [] U24 ?_
    refine c_20 _ a 0 U24 (Nat.le_refl _) ?_ ?_ ?_
    · exact fr_t (fr_0 _ _) (fr_s fU24 rfl)
    · omega
    · omega
abbrev cX9_countFirsts : ByteArray := prog_11_method_17_code
def yX9_countFirsts : MethodName := ⟨RX9, "countFirsts", "(LSportsHouse$Competition;I)I"⟩
def zX9_countFirsts : Zm := (RX9, cX9_countFirsts, 7, (some .int), { frames := 6, cells := 0, slots := 0, locals := 153 })
theorem bk_X9_countFirsts_92 : ck_ fX9 (some .int) cX9_countFirsts 92 [.iload 6, .iload 4, .if_icmp .ge 119, .aload 0, .iload 6, .iload 3, .iload 2] 104 = true := qck_r (nn_ _) (by decide +kernel)
theorem bs_X9_countFirsts_92 {P : Zt → Option Zv → Prop} (K : Int → Zl → List Zv → Zt → Prop) : sx_ K P [.iload 6, .iload 4, .if_icmp .ge 119, .aload 0, .iload 6, .iload 3, .iload 2] 104 = x_iload 6 (x_iload 4 (x_if_icmp .ge 119 K (x_aload 0 (x_iload 6 (x_iload 3 (x_iload 2 (K 104))))))) := ((xe_iload 6).trans (congrArg (x_iload 6) ((xe_iload 4).trans (congrArg (x_iload 4) ((xe_if_icmp .ge 119).trans (congrArg (x_if_icmp .ge 119 K) ((xe_aload 0).trans (congrArg (x_aload 0) ((xe_iload 6).trans (congrArg (x_iload 6) ((xe_iload 3).trans (congrArg (x_iload 3) ((xe_iload 2).trans (congrArg (x_iload 2) xe_nil))))))))))))))
theorem bk_X9_countFirsts_119 : ck_ fX9 (some .int) cX9_countFirsts 119 [.iload 5, .ireturn] 122 = true := qck_r (nn_ _) (by decide +kernel)
theorem bs_X9_countFirsts_119 {P : Zt → Option Zv → Prop} (K : Int → Zl → List Zv → Zt → Prop) : sx_ K P [.iload 5, .ireturn] 122 = x_iload 5 (x_ireturn P) := ((xe_iload 5).trans (congrArg (x_iload 5) (xe_ireturn)))
set_option maxRecDepth 100000 in
theorem cl_X9_176 : cv_ RX9 176 yX9_isFirstBy zX9_isFirstBy 9 3 := ⟨gi_V (lwq_6 (dqc_m (dqc_m (dqc_m (dqa_m (dqa_m (List.mem_of_getElem? (i := 3) rfl)))))) rfl : Cond.methodLink RX9 176 yX9_isFirstBy ∈ lw_g) (lwq_6 (dqc_m (dqc_m (dqc_m (dqa_m (dqa_m (List.mem_of_getElem? (i := 5) rfl)))))) rfl : Cond.instanceMethod yX9_isFirstBy ∈ lw_g) (lw_sel 138 rfl : Cond.selects yX9_isFirstBy.cls yX9_isFirstBy yX9_isFirstBy ∈ lw_g) (lwq_1 (List.mem_of_getElem? (i := 6) rfl) rfl : Cond.initialized yX9_isFirstBy.cls ∈ lw_g) (lwq_6 (dqc_m (dqc_m (dqc_m (dqa_m (dqa_m (List.mem_of_getElem? (i := 6) rfl)))))) rfl : Cond.code yX9_isFirstBy cX9_isFirstBy 7 (some .boolean) ∈ lw_g), ⟨nmh_8.1, nmh_8.2, pdq_11⟩, ⟨_, _, rfl⟩⟩
theorem bk_X9_countFirsts_107 : ck_ fX9 (some .int) cX9_countFirsts 107 [.ifCond .eq 113, .iinc 5 1, .iinc 6 1, .goto 92] 119 = true := qck_r (nn_ _) (by decide +kernel)
theorem bs_X9_countFirsts_107 {P : Zt → Option Zv → Prop} (K : Int → Zl → List Zv → Zt → Prop) : sx_ K P [.ifCond .eq 113, .iinc 5 1, .iinc 6 1, .goto 92] 119 = x_ifCond .eq 113 K (x_iinc 5 1 (x_iinc 6 1 (x_goto 92 K))) := ((xe_ifCond .eq 113).trans (congrArg (x_ifCond .eq 113 K) ((xe_iinc 5 1).trans (congrArg (x_iinc 5 1) ((xe_iinc 6 1).trans (congrArg (x_iinc 6 1) (xe_goto 92)))))))
theorem bk_X9_countFirsts_113 : ck_ fX9 (some .int) cX9_countFirsts 113 [.iinc 6 1, .goto 92] 119 = true := qck_r (nn_ _) (by decide +kernel)
theorem bs_X9_countFirsts_113 {P : Zt → Option Zv → Prop} (K : Int → Zl → List Zv → Zt → Prop) : sx_ K P [.iinc 6 1, .goto 92] 119 = x_iinc 6 1 (x_goto 92 K) := ((xe_iinc 6 1).trans (congrArg (x_iinc 6 1) (xe_goto 92)))
theorem bk_X9_countFirsts_13 : ck_ fX9 (some .int) cX9_countFirsts 13 [.iload 5, .aload 0, .tableswitch 0 9 5 #[], .tableswitch 0 0 8 #[], .if_icmp .ge 86, .aload 0, .tableswitch 0 9 0 #[], .tableswitch 0 6 3 #[], .aload 0, .tableswitch 0 9 5 #[], .tableswitch 0 0 7 #[], .iload 5, .iadd, .aaload, .astore 6, .aload 6] 47 = true := qck_r (nn_ _) (by decide +kernel)
theorem bs_X9_countFirsts_13 {P : Zt → Option Zv → Prop} (K : Int → Zl → List Zv → Zt → Prop) : sx_ K P [.iload 5, .aload 0, .tableswitch 0 9 5 #[], .tableswitch 0 0 8 #[], .if_icmp .ge 86, .aload 0, .tableswitch 0 9 0 #[], .tableswitch 0 6 3 #[], .aload 0, .tableswitch 0 9 5 #[], .tableswitch 0 0 7 #[], .iload 5, .iadd, .aaload, .astore 6, .aload 6] 47 = x_iload 5 (x_aload 0 (x_g5 109 100 5 (x_g0 100 8 0 400 (x_if_icmp .ge 86 K (x_aload 0 (x_g1 109 106 (x_g1 106 523 (x_aload 0 (x_g5 109 100 5 (x_g0 100 7 0 400 (x_iload 5 (x_iadd (x_aaload (x_astore 6 (x_aload 6 (K 47)))))))))))))))) := ((xe_iload 5).trans (congrArg (x_iload 5) ((xe_aload 0).trans (congrArg (x_aload 0) ((xe_g5 (kk := 109) rfl tl_9_5).trans (congrArg (x_g5 109 100 5) ((xe_g0 (kk := 100) rfl tl_0_8).trans (congrArg (x_g0 100 8 0 400) ((xe_if_icmp .ge 86).trans (congrArg (x_if_icmp .ge 86 K) ((xe_aload 0).trans (congrArg (x_aload 0) ((xe_g1 (kk := 109) rfl tl_9_0).trans (congrArg (x_g1 109 106) ((xe_g1 (kk := 106) rfl tl_6_3).trans (congrArg (x_g1 106 523) ((xe_aload 0).trans (congrArg (x_aload 0) ((xe_g5 (kk := 109) rfl tl_9_5).trans (congrArg (x_g5 109 100 5) ((xe_g0 (kk := 100) rfl tl_0_7).trans (congrArg (x_g0 100 7 0 400) ((xe_iload 5).trans (congrArg (x_iload 5) ((xe_iadd).trans (congrArg (x_iadd) ((xe_aaload).trans (congrArg (x_aaload) ((xe_astore 6).trans (congrArg (x_astore 6) ((xe_aload 6).trans (congrArg (x_aload 6) xe_nil))))))))))))))))))))))))))))))))
theorem bk_X9_countFirsts_86 : ck_ fX9 (some .int) cX9_countFirsts 86 [.iconst 0, .istore 5, .iconst 0, .istore 6] 92 = true := qck_r (nn_ _) (by decide +kernel)
theorem bs_X9_countFirsts_86 {P : Zt → Option Zv → Prop} (K : Int → Zl → List Zv → Zt → Prop) : sx_ K P [.iconst 0, .istore 5, .iconst 0, .istore 6] 92 = x_iconst 0 (x_istore 5 (x_iconst 0 (x_istore 6 (K 92)))) := ((xe_iconst 0).trans (congrArg (x_iconst 0) ((xe_istore 5).trans (congrArg (x_istore 5) ((xe_iconst 0).trans (congrArg (x_iconst 0) ((xe_istore 6).trans (congrArg (x_istore 6) xe_nil))))))))
set_option maxRecDepth 100000 in
theorem cl_X9_109 : cv_ RX9 109 yX2_isDecided zX2_isDecided 2 0 := ⟨gi_V (lwq_6 (dqc_m (dqa_m (List.mem_of_getElem? (i := 0) rfl))) rfl : Cond.methodLink RX9 109 yX2_isDecided ∈ lw_g) (lwq_4 (dqc_m (dqc_m (dqc_m (dqc_m (dqa_m (dqa_m (dqa_m (List.mem_of_getElem? (i := 3) rfl)))))))) rfl : Cond.instanceMethod yX2_isDecided ∈ lw_g) (lwq_4 (dqc_m (dqc_m (dqc_m (dqc_m (dqa_m (dqa_m (dqa_m (List.mem_of_getElem? (i := 4) rfl)))))))) rfl : Cond.selects yX2_isDecided.cls yX2_isDecided yX2_isDecided ∈ lw_g) (lwq_1 (dqa_m (dqa_m (List.mem_of_getElem? (i := 0) rfl))) rfl : Cond.initialized yX2_isDecided.cls ∈ lw_g) (lwq_4 (dqc_m (dqc_m (dqc_m (dqc_m (dqa_m (dqa_m (dqa_m (List.mem_of_getElem? (i := 5) rfl)))))))) rfl : Cond.code yX2_isDecided cX2_isDecided 1 (some .boolean) ∈ lw_g), ⟨nmh_10.1, nmh_10.2, pdq_18⟩, ⟨_, _, rfl⟩⟩
theorem bk_X9_countFirsts_50 : ck_ fX9 (some .int) cX9_countFirsts 50 [.ifCond .ne 80, .iload 3, .iconst 3, .if_icmp .lt 60, .iconst (-1), .ireturn] 60 = true := qck_r (nn_ _) (by decide +kernel)
theorem bs_X9_countFirsts_50 {P : Zt → Option Zv → Prop} (K : Int → Zl → List Zv → Zt → Prop) : sx_ K P [.ifCond .ne 80, .iload 3, .iconst 3, .if_icmp .lt 60, .iconst (-1), .ireturn] 60 = x_ifCond .ne 80 K (x_iload 3 (x_iconst 3 (x_if_icmp .lt 60 K (x_iconst (-1) (x_ireturn P))))) := ((xe_ifCond .ne 80).trans (congrArg (x_ifCond .ne 80 K) ((xe_iload 3).trans (congrArg (x_iload 3) ((xe_iconst 3).trans (congrArg (x_iconst 3) ((xe_if_icmp .lt 60).trans (congrArg (x_if_icmp .lt 60 K) ((xe_iconst (-1)).trans (congrArg (x_iconst (-1)) (xe_ireturn)))))))))))
theorem bk_X9_countFirsts_80 : ck_ fX9 (some .int) cX9_countFirsts 80 [.iinc 5 1, .goto 13] 86 = true := qck_r (nn_ _) (by decide +kernel)
theorem bs_X9_countFirsts_80 {P : Zt → Option Zv → Prop} (K : Int → Zl → List Zv → Zt → Prop) : sx_ K P [.iinc 5 1, .goto 13] 86 = x_iinc 5 1 (x_goto 13 K) := ((xe_iinc 5 1).trans (congrArg (x_iinc 5 1) (xe_goto 13)))
theorem bk_X9_countFirsts_60 : ck_ fX9 (some .int) cX9_countFirsts 60 [.aload 0, .tableswitch 0 9 8 #[], .iload 3, .aload 6, .tableswitch 0 2 1 #[], .iastore, .iinc 3 1, .iload 4, .iconst 3, .imul, .istore 4, .iinc 5 1, .goto 13] 86 = true := qck_r (nn_ _) (by decide +kernel)
theorem bs_X9_countFirsts_60 {P : Zt → Option Zv → Prop} (K : Int → Zl → List Zv → Zt → Prop) : sx_ K P [.aload 0, .tableswitch 0 9 8 #[], .iload 3, .aload 6, .tableswitch 0 2 1 #[], .iastore, .iinc 3 1, .iload 4, .iconst 3, .imul, .istore 4, .iinc 5 1, .goto 13] 86 = x_aload 0 (x_g1 109 588 (x_iload 3 (x_aload 6 (x_g0 102 1 0 399 (x_iastore (x_iinc 3 1 (x_iload 4 (x_iconst 3 (x_imul (x_istore 4 (x_iinc 5 1 (x_goto 13 K)))))))))))) := ((xe_aload 0).trans (congrArg (x_aload 0) ((xe_g1 (kk := 109) rfl tl_9_8).trans (congrArg (x_g1 109 588) ((xe_iload 3).trans (congrArg (x_iload 3) ((xe_aload 6).trans (congrArg (x_aload 6) ((xe_g0 (kk := 102) rfl tl_2_1).trans (congrArg (x_g0 102 1 0 399) ((xe_iastore).trans (congrArg (x_iastore) ((xe_iinc 3 1).trans (congrArg (x_iinc 3 1) ((xe_iload 4).trans (congrArg (x_iload 4) ((xe_iconst 3).trans (congrArg (x_iconst 3) ((xe_imul).trans (congrArg (x_imul) ((xe_istore 4).trans (congrArg (x_istore 4) ((xe_iinc 5 1).trans (congrArg (x_iinc 5 1) (xe_goto 13)))))))))))))))))))))))))
theorem bk_X9_countFirsts_0 : ck_ fX9 (some .int) cX9_countFirsts 0 [.aload 0, .aload 1] 2 = true := qck_r (nn_ _) (by decide +kernel)
theorem bs_X9_countFirsts_0 {P : Zt → Option Zv → Prop} (K : Int → Zl → List Zv → Zt → Prop) : sx_ K P [.aload 0, .aload 1] 2 = x_aload 0 (x_aload 1 (K 2)) := ((xe_aload 0).trans (congrArg (x_aload 0) ((xe_aload 1).trans (congrArg (x_aload 1) xe_nil))))
theorem fr5_X9_54 : fr5_ RX9 54 9 5 := ⟨_, _, _, rfl, by decide, by decide, (lwq_2 (dqc_m (List.mem_of_getElem? (i := 4) rfl)) rfl : Cond.fieldLink RX9 54 _ _ _ ∈ lw_g), rfl, fun a => ⟨.object "SportsHouse$Competition", by decide +kernel, rfl, rfl⟩⟩
theorem bk_X9_countFirsts_5 : ck_ fX9 (some .int) cX9_countFirsts 5 [.iconst 0, .istore 3, .iconst 1, .istore 4, .iconst 0, .istore 5] 13 = true := qck_r (nn_ _) (by decide +kernel)
theorem bs_X9_countFirsts_5 {P : Zt → Option Zv → Prop} (K : Int → Zl → List Zv → Zt → Prop) : sx_ K P [.iconst 0, .istore 3, .iconst 1, .istore 4, .iconst 0, .istore 5] 13 = x_iconst 0 (x_istore 3 (x_iconst 1 (x_istore 4 (x_iconst 0 (x_istore 5 (K 13)))))) := ((xe_iconst 0).trans (congrArg (x_iconst 0) ((xe_istore 3).trans (congrArg (x_istore 3) ((xe_iconst 1).trans (congrArg (x_iconst 1) ((xe_istore 4).trans (congrArg (x_istore 4) ((xe_iconst 0).trans (congrArg (x_iconst 0) ((xe_istore 5).trans (congrArg (x_istore 5) xe_nil))))))))))))
abbrev po_X9_countFirsts (T : Zt) (c : Int) (s : Int) : Zt → Option Zv → Prop := fun T' r => ∃ x : Int, r = some (vI x) ∧ fr_ [(109, [5]), (588, []), (107, [1, 13]), (542, []), (543, []), (544, []), (545, []), (546, []), (550, []), (551, []), (552, []), (549, []), (547, []), (548, [])] T T' ∧ (-1 ≤ x ∧ x ≤ 27)
set_option maxHeartbeats 4000000 in
theorem ct_X9_countFirsts {T : Zt} {c : Int} {s : Int} (hka : KA_ T) (hkm : KM_ T) (hkc : KC_ T) (hc : 0 ≤ c ∧ c < T 106 0 2) (hs : 0 ≤ s ∧ s ≤ 11) (hrk : T 401 c 4 ≤ 7) : Ct_ yX9_countFirsts zX9_countFirsts T [vR 109 0, vR 100 c, vI s] (po_X9_countFirsts T c s) := by
  refine ct_of pn_9 rfl rfl (Nat.le_of_ble_eq_true rfl) (fun hT hav => ?_)
  have hr_s : -2147483648 ≤ s ∧ s ≤ 2147483647 := hav (vI s) (List.mem_cons_of_mem _ (List.mem_cons_of_mem _ List.mem_cons_self))
  have hz : zX9_countFirsts.2.2.2.1 = some .boolean → ∀ (T' : Zt) (x : Int), po_X9_countFirsts T c s T' (some (vI x)) → 0 ≤ x ∧ x ≤ 1 := fun h => by cases h
  have hk2 := hkc c hc.1 hc.2
  have hb_matchCount : 0 ≤ T 106 0 4 ∧ T 106 0 4 ≤ 400 := bd_f hT 106 4 tl_6_4 0
  have hcc : 0 ≤ T 106 0 2 ∧ T 106 0 2 ≤ 4 := bd_f hT 106 2 tl_6_2 0
  have hfm : 0 ≤ T 100 c 7 ∧ T 100 c 7 ≤ 400 := bd_f hT 100 7 tl_0_7 c
  have hmc : 0 ≤ T 100 c 8 ∧ T 100 c 8 ≤ 400 := bd_f hT 100 8 tl_0_8 c
  show J_ zX9_countFirsts T (po_X9_countFirsts T c s) 0 0 0 [some (vR 109 0), some (vR 100 c), some (vI s), none, none, none, none] [] T
  have c_92 : ∀ (nn : Nat) (f : Int) (q : Int) (u : Int) (g : Int) (T2 : Zt), ((27 - g).toNat) ≤ nn → (fr_ [(109, [5]), (588, []), (107, [1, 13]), (542, []), (543, []), (544, []), (545, []), (546, []), (550, []), (551, []), (552, []), (549, []), (547, []), (548, [])] T T2) → (0 ≤ u ∧ u ≤ g ∧ g ≤ q ∧ ((f = 0 ∧ q = 1) ∨ (f = 1 ∧ q = 3) ∨ (f = 2 ∧ q = 9) ∨ (f = 3 ∧ q = 27))) → (T2 109 0 5 = c + 1) → (∀ j : Int, 0 ≤ j → j < f → 0 ≤ T2 588 0 j ∧ T2 588 0 j < T 106 0 4) → J_ zX9_countFirsts T (po_X9_countFirsts T c s) 0 0 92 [some (vR 109 0), some (vR 100 c), some (vI s), some (vI f), some (vI q), some (vI u), some (vI g)] [] T2 := by
    intro nn
    induction nn using Nat.strongRecOn with
    | _ nn ih_92 =>
      intro f q u g T2 hm_92 hf_92 i2 i4 op2
      replace hm_92 := fun (_ : Unit) => hm_92
      refine j_blx (F := fX9) tb_X9 (nn_ _) bk_X9_countFirsts_92 bs_X9_countFirsts_92 hz (fun K hK => ?_)
      refine And.intro (fun c1 => ?_) (fun c1 => ?_)
      · refine hK 119 _ [] T2 ?_
        refine j_blx (F := fX9) tb_X9 (nn_ _) bk_X9_countFirsts_119 bs_X9_countFirsts_119 hz (fun K hK => ?_)
        refine (show po_X9_countFirsts T c s T2 (some (vI u)) from ?_)
        exact ⟨_, rfl, fr_t (fr_0 _ _) (fr_s hf_92 rfl), by omega⟩
      · refine hK 104 _ [vI s, vI f, vI g, vR 109 0] T2 ?_
        have e2 : T2 106 0 2 = T 106 0 2 := hf_92 106 0 2 rfl
        have e3 : T2 106 0 4 = T 106 0 4 := hf_92 106 0 4 rfl
        have e4 : T2 401 c 4 = T 401 c 4 := hf_92 401 c 4 rfl
        have e5 : T2 106 0 2 = T 106 0 2 := hf_92 106 0 2 rfl
        have e6 : T2 106 0 4 = T 106 0 4 := hf_92 106 0 4 rfl
        refine j_callV (y := yX9_isFirstBy) (Yc := zX9_isFirstBy) (rest := []) [vI g, vI f, vI s] (ct_X9_isFirstBy (T := T2) (by exact KA__f (ws := [(109, [5]), (588, []), (107, [1, 13]), (542, []), (543, []), (544, []), (545, []), (546, []), (550, []), (551, []), (552, []), (549, []), (547, []), (548, [])]) hka (fr_t (fr_0 _ _) (fr_s hf_92 rfl)) ⟨fun _ => rfl, fun _ => rfl, rfl, rfl, trivial⟩) (by exact KC__f (ws := [(109, [5]), (588, []), (107, [1, 13]), (542, []), (543, []), (544, []), (545, []), (546, []), (550, []), (551, []), (552, []), (549, []), (547, []), (548, [])]) hkc (fr_t (fr_0 _ _) (fr_s hf_92 rfl)) ⟨rfl, rfl, rfl, rfl, trivial⟩) (by omega) (by omega) (by omega) (by intro j a b; have y := op2 j a b; omega) (by rw [show T2 109 0 5 - 1 = c by omega]; omega)) cl_X9_176 (qd_c (by decide +kernel)) (nn_ _) rfl (rf_of rfl) (Nat.le_of_ble_eq_true rfl) (Nat.le_of_ble_eq_true rfl) (Nat.le_of_ble_eq_true rfl) rfl ?_
        rintro U7 _ ⟨x8, rfl, fU7, qU7⟩
        show J_ zX9_countFirsts T (po_X9_countFirsts T c s) 0 0 107 _ [vI x8] U7
        refine j_blx (F := fX9) tb_X9 (nn_ _) bk_X9_countFirsts_107 bs_X9_countFirsts_107 hz (fun K hK => ?_)
        refine And.intro (fun c9 => ?_) (fun c9 => ?_)
        · refine hK 113 _ [] U7 ?_
          refine j_blx (F := fX9) tb_X9 (nn_ _) bk_X9_countFirsts_113 bs_X9_countFirsts_113 hz (fun K hK => ?_)
          refine rg_i (by omega) ?_
          refine hK 92 [some (vR 109 0), some (vR 100 c), some (vI s), some (vI f), some (vI q), some (vI u), some (vI (g + 1))] [] U7 ?_
          have e10 : U7 109 0 5 = T2 109 0 5 := fU7 109 0 5 rfl
          refine ih_92 _ ?_ f q u (g + 1) U7 (Nat.le_refl _) ?_ ?_ ?_ ?_
          · have hm_92 := hm_92 (); omega
          · exact fr_t (fr_t (fr_0 _ _) (fr_s hf_92 rfl)) (fr_s fU7 rfl)
          · omega
          · omega
          · intro j a b
            rw [fU7 588 0 j rfl]
            exact op2 j a b
        · refine rg_i (by omega) ?_
          refine rg_i (by omega) ?_
          refine hK 92 [some (vR 109 0), some (vR 100 c), some (vI s), some (vI f), some (vI q), some (vI (u + 1)), some (vI (g + 1))] [] U7 ?_
          have e11 : U7 109 0 5 = T2 109 0 5 := fU7 109 0 5 rfl
          refine ih_92 _ ?_ f q (u + 1) (g + 1) U7 (Nat.le_refl _) ?_ ?_ ?_ ?_
          · have hm_92 := hm_92 (); omega
          · exact fr_t (fr_t (fr_0 _ _) (fr_s hf_92 rfl)) (fr_s fU7 rfl)
          · omega
          · omega
          · intro j a b
            rw [fU7 588 0 j rfl]
            exact op2 j a b
  have c_13 : ∀ (nn : Nat) (f : Int) (q : Int) (k : Int) (T1 : Zt), ((T 100 c 8 - k).toNat) ≤ nn → (fr_ [(109, [5]), (588, [])] T T1) → (0 ≤ k ∧ k ≤ T 100 c 8 ∧ ((f = 0 ∧ q = 1) ∨ (f = 1 ∧ q = 3) ∨ (f = 2 ∧ q = 9) ∨ (f = 3 ∧ q = 27))) → (T1 109 0 5 = c + 1) → (∀ j : Int, 0 ≤ j → j < f → 0 ≤ T1 588 0 j ∧ T1 588 0 j < T 106 0 4) → J_ zX9_countFirsts T (po_X9_countFirsts T c s) 0 0 13 [some (vR 109 0), some (vR 100 c), some (vI s), some (vI f), some (vI q), some (vI k), none] [] T1 := by
    intro nn
    induction nn using Nat.strongRecOn with
    | _ nn ih_13 =>
      intro f q k T1 hm_13 hf_13 i1 i3 op1
      replace hm_13 := fun (_ : Unit) => hm_13
      refine j_blx (F := fX9) tb_X9 (nn_ _) bk_X9_countFirsts_13 bs_X9_countFirsts_13 hz (fun K hK => ?_)
      refine And.intro (fun c12 => ?_) (fun c12 => ?_)
      · exact absurd c12 (by omega)
      · have z13 : T1 109 0 5 - 1 = c := by omega
        rw [z13]
        intro b14 b14b
        have e15 : T1 100 c 8 = T 100 c 8 := hf_13 100 c 8 rfl
        rw [e15] at b14 b14b ⊢
        refine And.intro (fun c16 => ?_) (fun c16 => ?_)
        · refine hK 86 _ [] T1 ?_
          refine j_blx (F := fX9) tb_X9 (nn_ _) bk_X9_countFirsts_86 bs_X9_countFirsts_86 hz (fun K hK => ?_)
          refine hK 92 [some (vR 109 0), some (vR 100 c), some (vI s), some (vI f), some (vI q), some (vI 0), some (vI 0)] [] T1 ?_
          refine c_92 _ f q 0 0 T1 (Nat.le_refl _) ?_ ?_ ?_ ?_
          · exact fr_t (fr_0 _ _) (fr_s hf_13 rfl)
          · omega
          · omega
          · exact op1
        · refine And.intro (fun c17 => ?_) (fun c17 => ?_)
          · exact absurd c17 (by omega)
          · have z18 : T1 109 0 5 - 1 = c := by omega
            rw [z18]
            intro b19 b19b
            have e20 : T1 100 c 7 = T 100 c 7 := hf_13 100 c 7 rfl
            rw [e20] at b19 b19b ⊢
            refine rg_i (by omega) ?_
            refine ix_i (by omega) ?_
            have e22 : T1 523 0 ((T 100 c 7) + k) = T 523 0 ((T 100 c 7) + k) := hf_13 523 0 ((T 100 c 7) + k) rfl
            refine And.intro (fun c21 => ?_) (fun c21 => ?_)
            · exact absurd (show T 523 0 (T 100 c 7 + k) = 0 by omega) (hka.2 _ (by omega) (by omega))
            · refine hK 47 [some (vR 109 0), some (vR 100 c), some (vI s), some (vI f), some (vI q), some (vI k), some (vR 102 ((T 100 c 7) + k))] [vR 102 ((T 100 c 7) + k)] T1 ?_
              refine j_callV (y := yX2_isDecided) (Yc := zX2_isDecided) (rest := []) [] (ct_X2_isDecided (T := T1)) cl_X9_109 (qd_c (by decide +kernel)) (nn_ _) rfl (rf_of rfl) (Nat.le_of_ble_eq_true rfl) (Nat.le_of_ble_eq_true rfl) (Nat.le_of_ble_eq_true rfl) rfl ?_
              rintro _ _ ⟨rfl, x23, rfl, hx23⟩
              show J_ zX9_countFirsts T (po_X9_countFirsts T c s) 0 0 50 _ [vI x23] T1
              refine j_blx (F := fX9) tb_X9 (nn_ _) bk_X9_countFirsts_50 bs_X9_countFirsts_50 hz (fun K hK => ?_)
              refine And.intro (fun c24 => ?_) (fun c24 => ?_)
              · refine hK 80 _ [] T1 ?_
                refine j_blx (F := fX9) tb_X9 (nn_ _) bk_X9_countFirsts_80 bs_X9_countFirsts_80 hz (fun K hK => ?_)
                refine rg_i (by omega) ?_
                refine hK 13 [some (vR 109 0), some (vR 100 c), some (vI s), some (vI f), some (vI q), some (vI (k + 1)), some (vR 102 ((T 100 c 7) + k))] [] T1 ?_
                refine j_drq [some (vR 109 0), some (vR 100 c), some (vI s), some (vI f), some (vI q), some (vI (k + 1)), none] (drq_s (drq_s (drq_s (drq_s (drq_s (drq_s (drq_n drq_0))))))) ?_
                refine ih_13 _ ?_ f q (k + 1) T1 (Nat.le_refl _) ?_ ?_ ?_ ?_
                · have hm_13 := hm_13 (); omega
                · exact fr_t (fr_0 _ _) (fr_s hf_13 rfl)
                · omega
                · omega
                · exact op1
              · refine And.intro (fun c25 => ?_) (fun c25 => ?_)
                · refine hK 60 [some (vR 109 0), some (vR 100 c), some (vI s), some (vI f), some (vI q), some (vI k), some (vR 102 ((T 100 c 7) + k))] [] T1 ?_
                  refine j_blx (F := fX9) tb_X9 (nn_ _) bk_X9_countFirsts_60 bs_X9_countFirsts_60 hz (fun K hK => ?_)
                  intro b26 b26b
                  have e27 : T1 102 ((T 100 c 7) + k) 1 = T 102 ((T 100 c 7) + k) 1 := hf_13 102 ((T 100 c 7) + k) 1 rfl
                  rw [e27] at b26 b26b ⊢
                  refine iy_i (by omega) (by omega) ?_
                  refine x_nm (fun U28 hU28 => ?_)
                  have e29 := up_f hU28
                  refine rg_i (by omega) ?_
                  refine rg_i (by omega) ?_
                  refine rg_i (by omega) ?_
                  refine hK 13 [some (vR 109 0), some (vR 100 c), some (vI s), some (vI (f + 1)), some (vI (q * 3)), some (vI (k + 1)), some (vR 102 ((T 100 c 7) + k))] [] U28 ?_
                  refine j_drq [some (vR 109 0), some (vR 100 c), some (vI s), some (vI (f + 1)), some (vI (q * 3)), some (vI (k + 1)), none] (drq_s (drq_s (drq_s (drq_s (drq_s (drq_s (drq_n drq_0))))))) ?_
                  have e30 : U28 109 0 5 = T1 109 0 5 := up_k hU28 (by exact Nat.ne_of_beq_eq_false rfl) 0 5
                  refine ih_13 _ ?_ (f + 1) (q * 3) (k + 1) U28 (Nat.le_refl _) ?_ ?_ ?_ ?_
                  · have hm_13 := hm_13 (); omega
                  · exact fr_u (fr_t (fr_0 _ _) (fr_s hf_13 rfl)) hU28 rfl
                  · omega
                  · omega
                  · intro j a b
                    by_cases z : j = f
                    · rw [z, up_f hU28]; have y := (hkm (T 100 c 7 + k) (by omega) (by omega)).1; omega
                    · rw [up_g hU28 (fun y => z y.2.2)]; exact op1 j a (by omega)
                · refine (show po_X9_countFirsts T c s T1 (some (vI (-1))) from ?_)
                  exact ⟨_, rfl, fr_t (fr_0 _ _) (fr_s hf_13 rfl), by omega⟩
  refine j_blx (F := fX9) tb_X9 (nn_ _) bk_X9_countFirsts_0 bs_X9_countFirsts_0 hz (fun K hK => ?_)
  refine hK 2 _ [vR 100 c, vR 109 0] T ?_
  refine j_putR (pc := 2) (ci := 9) (j := 5) (by decide) fr5_X9_54 rfl (by decide +kernel) (by omega) (by omega) (by omega) ?_
  refine j_nm (fun U31 hU31 => ?_)
  have e32 := up_f hU31
  show J_ zX9_countFirsts T (po_X9_countFirsts T c s) 0 0 5 _ [] U31
  refine j_blx (F := fX9) tb_X9 (nn_ _) bk_X9_countFirsts_5 bs_X9_countFirsts_5 hz (fun K hK => ?_)
  refine hK 13 [some (vR 109 0), some (vR 100 c), some (vI s), some (vI 0), some (vI 1), some (vI 0), none] [] U31 ?_
  have e33 : U31 109 0 5 = c + 1 := up_f hU31
  refine c_13 _ 0 1 0 U31 (Nat.le_refl _) ?_ ?_ ?_ ?_
  · exact fr_u (fr_0 _ _) hU31 rfl
  · omega
  · omega
  · intro j a b; omega
abbrev cX9_listOpen : ByteArray := prog_11_method_3_code
def yX9_listOpen : MethodName := ⟨RX9, "listOpen", "(II)Z"⟩
def zX9_listOpen : Zm := (RX9, cX9_listOpen, 5, (some .boolean), { frames := 2, cells := 0, slots := 0, locals := 40 })
def KO_ (T : Zt) : Prop := ∀ c : Int, 0 ≤ c → c < T 106 0 2 → T 401 c 4 ≤ 7
theorem KO__f {ws : List (Nat × List Int)} {T T' : Zt} (h : KO_ T) (f : fr_ ws T T') (w : (∀ j, fw_ ws 401 j = false) ∧ fw_ ws 106 2 = false ∧ True) : KO_ T' := by
  have e0 : ∀ i j, T' 401 i j = T 401 i j := fun i j => f 401 i j (w.1 j)
  have e1 : ∀ i, T' 106 i 2 = T 106 i 2 := fun i => f 106 i 2 w.2.1
  simp only [KO_, e0, e1] at h ⊢
  exact h
abbrev cX10_firsts : ByteArray := prog_1_method_35_code
def yX10_firsts : MethodName := ⟨RX10, "firsts", "(II)I"⟩
def zX10_firsts : Zm := (RX10, cX10_firsts, 4, (some .int), { frames := 7, cells := 0, slots := 0, locals := 179 })
theorem bk_X10_firsts_0 : ck_ fX10 (some .int) cX10_firsts 0 [.aload 0, .iload 1] 2 = true := qck_r (nn_ _) (by decide +kernel)
theorem bs_X10_firsts_0 {P : Zt → Option Zv → Prop} (K : Int → Zl → List Zv → Zt → Prop) : sx_ K P [.aload 0, .iload 1] 2 = x_aload 0 (x_iload 1 (K 2)) := ((xe_aload 0).trans (congrArg (x_aload 0) ((xe_iload 1).trans (congrArg (x_iload 1) xe_nil))))
theorem bk_X10_firsts_5 : ck_ fX10 (some .int) cX10_firsts 5 [.ifCond .eq 16, .aload 0, .iload 2] 10 = true := qck_r (nn_ _) (by decide +kernel)
theorem bs_X10_firsts_5 {P : Zt → Option Zv → Prop} (K : Int → Zl → List Zv → Zt → Prop) : sx_ K P [.ifCond .eq 16, .aload 0, .iload 2] 10 = x_ifCond .eq 16 K (x_aload 0 (x_iload 2 (K 10))) := ((xe_ifCond .eq 16).trans (congrArg (x_ifCond .eq 16 K) ((xe_aload 0).trans (congrArg (x_aload 0) ((xe_iload 2).trans (congrArg (x_iload 2) xe_nil))))))
theorem bk_X10_firsts_16 : ck_ fX10 (some .int) cX10_firsts 16 [.iconst (-2), .ireturn] 19 = true := qck_r (nn_ _) (by decide +kernel)
theorem bs_X10_firsts_16 {P : Zt → Option Zv → Prop} (K : Int → Zl → List Zv → Zt → Prop) : sx_ K P [.iconst (-2), .ireturn] 19 = x_iconst (-2) (x_ireturn P) := ((xe_iconst (-2)).trans (congrArg (x_iconst (-2)) (xe_ireturn)))
theorem bk_X10_firsts_13 : ck_ fX10 (some .int) cX10_firsts 13 [.ifCond .ne 19, .iconst (-2), .ireturn] 19 = true := qck_r (nn_ _) (by decide +kernel)
theorem bs_X10_firsts_13 {P : Zt → Option Zv → Prop} (K : Int → Zl → List Zv → Zt → Prop) : sx_ K P [.ifCond .ne 19, .iconst (-2), .ireturn] 19 = x_ifCond .ne 19 K (x_iconst (-2) (x_ireturn P)) := ((xe_ifCond .ne 19).trans (congrArg (x_ifCond .ne 19 K) ((xe_iconst (-2)).trans (congrArg (x_iconst (-2)) (xe_ireturn)))))
theorem bk_X10_firsts_19 : ck_ fX10 (some .int) cX10_firsts 19 [.aload 0, .tableswitch 0 10 2 #[], .tableswitch 0 6 1 #[], .iload 1, .aaload, .astore 3, .aload 3, .tableswitch 0 0 4 #[], .iload 2, .iaload, .iconst (-1), .if_icmp .eq 46, .aload 3, .tableswitch 0 0 6 #[], .ifCond .ne 49, .iconst (-4), .ireturn] 49 = true := qck_r (nn_ _) (by decide +kernel)
theorem bs_X10_firsts_19 {P : Zt → Option Zv → Prop} (K : Int → Zl → List Zv → Zt → Prop) : sx_ K P [.aload 0, .tableswitch 0 10 2 #[], .tableswitch 0 6 1 #[], .iload 1, .aaload, .astore 3, .aload 3, .tableswitch 0 0 4 #[], .iload 2, .iaload, .iconst (-1), .if_icmp .eq 46, .aload 3, .tableswitch 0 0 6 #[], .ifCond .ne 49, .iconst (-4), .ireturn] 49 = x_aload 0 (x_g1 110 106 (x_g1 106 521 (x_iload 1 (x_aaload (x_astore 3 (x_aload 3 (x_g2 100 404 (x_iload 2 (x_iaload (x_iconst (-1) (x_if_icmp .eq 46 K (x_aload 3 (x_g0 100 6 0 1 (x_ifCond .ne 49 K (x_iconst (-4) (x_ireturn P)))))))))))))))) := ((xe_aload 0).trans (congrArg (x_aload 0) ((xe_g1 (kk := 110) rfl tl_10_2).trans (congrArg (x_g1 110 106) ((xe_g1 (kk := 106) rfl tl_6_1).trans (congrArg (x_g1 106 521) ((xe_iload 1).trans (congrArg (x_iload 1) ((xe_aaload).trans (congrArg (x_aaload) ((xe_astore 3).trans (congrArg (x_astore 3) ((xe_aload 3).trans (congrArg (x_aload 3) ((xe_g2 (kk := 100) rfl tl_0_4).trans (congrArg (x_g2 100 404) ((xe_iload 2).trans (congrArg (x_iload 2) ((xe_iaload).trans (congrArg (x_iaload) ((xe_iconst (-1)).trans (congrArg (x_iconst (-1)) ((xe_if_icmp .eq 46).trans (congrArg (x_if_icmp .eq 46 K) ((xe_aload 3).trans (congrArg (x_aload 3) ((xe_g0 (kk := 100) rfl tl_0_6).trans (congrArg (x_g0 100 6 0 1) ((xe_ifCond .ne 49).trans (congrArg (x_ifCond .ne 49 K) ((xe_iconst (-4)).trans (congrArg (x_iconst (-4)) (xe_ireturn)))))))))))))))))))))))))))))))))
theorem bk_X10_firsts_46 : ck_ fX10 (some .int) cX10_firsts 46 [.iconst (-4), .ireturn] 49 = true := qck_r (nn_ _) (by decide +kernel)
theorem bs_X10_firsts_46 {P : Zt → Option Zv → Prop} (K : Int → Zl → List Zv → Zt → Prop) : sx_ K P [.iconst (-4), .ireturn] 49 = x_iconst (-4) (x_ireturn P) := ((xe_iconst (-4)).trans (congrArg (x_iconst (-4)) (xe_ireturn)))
theorem bk_X10_firsts_49 : ck_ fX10 (some .int) cX10_firsts 49 [.aload 0, .tableswitch 0 10 4 #[], .aload 3, .aload 3, .tableswitch 0 0 4 #[], .iload 2, .iaload] 60 = true := qck_r (nn_ _) (by decide +kernel)
theorem bs_X10_firsts_49 {P : Zt → Option Zv → Prop} (K : Int → Zl → List Zv → Zt → Prop) : sx_ K P [.aload 0, .tableswitch 0 10 4 #[], .aload 3, .aload 3, .tableswitch 0 0 4 #[], .iload 2, .iaload] 60 = x_aload 0 (x_g1 110 109 (x_aload 3 (x_aload 3 (x_g2 100 404 (x_iload 2 (x_iaload (K 60))))))) := ((xe_aload 0).trans (congrArg (x_aload 0) ((xe_g1 (kk := 110) rfl tl_10_4).trans (congrArg (x_g1 110 109) ((xe_aload 3).trans (congrArg (x_aload 3) ((xe_aload 3).trans (congrArg (x_aload 3) ((xe_g2 (kk := 100) rfl tl_0_4).trans (congrArg (x_g2 100 404) ((xe_iload 2).trans (congrArg (x_iload 2) ((xe_iaload).trans (congrArg (x_iaload) xe_nil))))))))))))))
set_option maxRecDepth 100000 in
theorem cl_X10_377 : cv_ RX10 377 yX9_countFirsts zX9_countFirsts 9 2 := ⟨gi_V (lwq_6 (dqc_m (dqc_m (dqc_m (dqa_m (List.mem_of_getElem? (i := 7) rfl))))) rfl : Cond.methodLink RX10 377 yX9_countFirsts ∈ lw_g) (lwq_6 (dqc_m (dqc_m (dqc_m (dqa_m (dqa_m (List.mem_of_getElem? (i := 0) rfl)))))) rfl : Cond.instanceMethod yX9_countFirsts ∈ lw_g) (lwq_6 (dqc_m (dqc_m (dqc_m (dqa_m (dqa_m (List.mem_of_getElem? (i := 1) rfl)))))) rfl : Cond.selects yX9_countFirsts.cls yX9_countFirsts yX9_countFirsts ∈ lw_g) (lwq_1 (List.mem_of_getElem? (i := 6) rfl) rfl : Cond.initialized yX9_countFirsts.cls ∈ lw_g) (lwq_6 (dqc_m (dqc_m (dqc_m (dqa_m (dqa_m (List.mem_of_getElem? (i := 2) rfl)))))) rfl : Cond.code yX9_countFirsts cX9_countFirsts 7 (some .int) ∈ lw_g), ⟨nmh_8.1, nmh_8.2, pdq_24⟩, ⟨_, _, rfl⟩⟩
theorem bk_X10_firsts_63 : ck_ fX10 (some .int) cX10_firsts 63 [.ireturn] 64 = true := qck_r (nn_ _) (by decide +kernel)
theorem bs_X10_firsts_63 {P : Zt → Option Zv → Prop} (K : Int → Zl → List Zv → Zt → Prop) : sx_ K P [.ireturn] 64 = x_ireturn P := (xe_ireturn)
abbrev po_X10_firsts (T : Zt) (c b : Int) : Zt → Option Zv → Prop := fun T' r => ∃ x : Int, r = some (vI x) ∧ fr_ [(109, [5]), (588, []), (107, [1, 13]), (542, []), (543, []), (544, []), (545, []), (546, []), (550, []), (551, []), (552, []), (549, []), (547, []), (548, [])] T T' ∧ (-4 ≤ x ∧ x ≤ 27)
set_option maxHeartbeats 4000000 in
theorem ct_X10_firsts {T : Zt} {c b : Int} (hka : KA_ T) (hkm : KM_ T) (hkc : KC_ T) (hko : KO_ T) : Ct_ yX10_firsts zX10_firsts T [vR 110 0, vI c, vI b] (po_X10_firsts T c b) := by
  refine ct_of pn_10 rfl rfl (Nat.le_of_ble_eq_true rfl) (fun hT hav => ?_)
  have hr_c : -2147483648 ≤ c ∧ c ≤ 2147483647 := hav (vI c) (List.mem_cons_of_mem _ List.mem_cons_self)
  have hr_b : -2147483648 ≤ b ∧ b ≤ 2147483647 := hav (vI b) (List.mem_cons_of_mem _ (List.mem_cons_of_mem _ List.mem_cons_self))
  have hz : zX10_firsts.2.2.2.1 = some .boolean → ∀ (T' : Zt) (x : Int), po_X10_firsts T c b T' (some (vI x)) → 0 ≤ x ∧ x ≤ 1 := fun h => by cases h
  have hcc : 0 ≤ T 106 0 2 ∧ T 106 0 2 ≤ 4 := bd_f hT 106 2 tl_6_2 0
  have hb_clubs : 0 ≤ T 108 0 2 ∧ T 108 0 2 ≤ 12 := bd_f hT 108 2 tl_8_2 0
  show J_ zX10_firsts T (po_X10_firsts T c b) 0 0 0 [some (vR 110 0), some (vI c), some (vI b), none] [] T
  refine j_blx (F := fX10) tb_X10 (nn_ _) bk_X10_firsts_0 bs_X10_firsts_0 hz (fun K hK => ?_)
  refine hK 2 _ [vI c, vR 110 0] T ?_
  refine j_callV (y := yX10_isCompetition) (Yc := zX10_isCompetition) (rest := []) [vI c] (ct_X10_isCompetition (T := T)) cl_X10_107 (qd_c (by decide +kernel)) (nn_ _) rfl (rf_of rfl) (Nat.le_of_ble_eq_true rfl) (Nat.le_of_ble_eq_true rfl) (Nat.le_of_ble_eq_true rfl) rfl ?_
  rintro _ _ ⟨rfl, x1, rfl, hx1⟩
  show J_ zX10_firsts T (po_X10_firsts T c b) 0 0 5 _ [vI x1] T
  refine j_blx (F := fX10) tb_X10 (nn_ _) bk_X10_firsts_5 bs_X10_firsts_5 hz (fun K hK => ?_)
  refine And.intro (fun c2 => ?_) (fun c2 => ?_)
  · replace hx1 := hx1.resolve_left (fun z => absurd (c2.symm.trans z.1) (by decide))
    clear c2
    refine hK 16 _ [] T ?_
    refine j_blx (F := fX10) tb_X10 (nn_ _) bk_X10_firsts_16 bs_X10_firsts_16 hz (fun K hK => ?_)
    refine (show po_X10_firsts T c b T (some (vI (-2))) from ?_)
    exact ⟨_, rfl, fr_0 _ _, by omega⟩
  · replace hx1 := hx1.resolve_right (fun z => c2 z.1)
    clear c2
    refine hK 10 _ [vI b, vR 110 0] T ?_
    refine j_callV (y := yX10_isClub) (Yc := zX10_isClub) (rest := []) [vI b] (ct_X10_isClub (T := T)) cl_X10_137 (qd_c (by decide +kernel)) (nn_ _) rfl (rf_of rfl) (Nat.le_of_ble_eq_true rfl) (Nat.le_of_ble_eq_true rfl) (Nat.le_of_ble_eq_true rfl) rfl ?_
    rintro _ _ ⟨rfl, x3, rfl, hx3⟩
    show J_ zX10_firsts T (po_X10_firsts T c b) 0 0 13 _ [vI x3] T
    refine j_blx (F := fX10) tb_X10 (nn_ _) bk_X10_firsts_13 bs_X10_firsts_13 hz (fun K hK => ?_)
    refine And.intro (fun c4 => ?_) (fun c4 => ?_)
    · replace hx3 := hx3.resolve_right (fun z => c4 z.1)
      clear c4
      refine hK 19 _ [] T ?_
      refine j_blx (F := fX10) tb_X10 (nn_ _) bk_X10_firsts_19 bs_X10_firsts_19 hz (fun K hK => ?_)
      refine ix_i (by omega) ?_
      refine And.intro (fun c5 => ?_) (fun c5 => ?_)
      · exact absurd (show T 521 0 c = 0 by omega) (hka.1 _ (by omega) (by omega))
      · refine ix_i (by omega) ?_
        intro b6 b6b
        refine And.intro (fun c7 => ?_) (fun c7 => ?_)
        · refine hK 46 [some (vR 110 0), some (vI c), some (vI b), some (vR 100 c)] [] T ?_
          refine j_blx (F := fX10) tb_X10 (nn_ _) bk_X10_firsts_46 bs_X10_firsts_46 hz (fun K hK => ?_)
          refine (show po_X10_firsts T c b T (some (vI (-4))) from ?_)
          exact ⟨_, rfl, fr_0 _ _, by omega⟩
        · intro b8 b8b
          refine And.intro (fun c9 => ?_) (fun c9 => ?_)
          · refine hK 49 _ [] T ?_
            refine j_blx (F := fX10) tb_X10 (nn_ _) bk_X10_firsts_49 bs_X10_firsts_49 hz (fun K hK => ?_)
            refine ix_i (by omega) ?_
            intro b10 b10b
            refine hK 60 _ [vI (T 404 c b), vR 100 c, vR 109 0] T ?_
            refine j_callV (y := yX9_countFirsts) (Yc := zX9_countFirsts) (rest := []) [vR 100 c, vI (T 404 c b)] (ct_X9_countFirsts (T := T) (by exact hka) (by exact hkm) (by exact hkc) (by omega) (by omega) (by exact hko c (by omega) (by omega))) cl_X10_377 (qd_c (by decide +kernel)) (nn_ _) rfl (rf_of rfl) (Nat.le_of_ble_eq_true rfl) (Nat.le_of_ble_eq_true rfl) (Nat.le_of_ble_eq_true rfl) rfl ?_
            rintro U11 _ ⟨x12, rfl, fU11, qU11⟩
            show J_ zX10_firsts T (po_X10_firsts T c b) 0 0 63 _ [vI x12] U11
            refine j_blx (F := fX10) tb_X10 (nn_ _) bk_X10_firsts_63 bs_X10_firsts_63 hz (fun K hK => ?_)
            refine (show po_X10_firsts T c b U11 (some (vI x12)) from ?_)
            exact ⟨_, rfl, fr_t (fr_0 _ _) (fr_s fU11 rfl), by omega⟩
          · refine (show po_X10_firsts T c b T (some (vI (-4))) from ?_)
            exact ⟨_, rfl, fr_0 _ _, by omega⟩
    · replace hx3 := hx3.resolve_left (fun z => absurd (c4.symm.trans z.1) (by decide))
      clear c4
      refine (show po_X10_firsts T c b T (some (vI (-2))) from ?_)
      exact ⟨_, rfl, fr_0 _ _, by omega⟩
abbrev cX10_table : ByteArray := prog_1_method_29_code
def yX10_table : MethodName := ⟨RX10, "table", "(IIII)I"⟩
def zX10_table : Zm := (RX10, cX10_table, 7, (some .int), { frames := 5, cells := 0, slots := 0, locals := 127 })
theorem bk_X10_table_0 : ck_ fX10 (some .int) cX10_table 0 [.aload 0, .iload 1] 2 = true := qck_r (nn_ _) (by decide +kernel)
theorem bs_X10_table_0 {P : Zt → Option Zv → Prop} (K : Int → Zl → List Zv → Zt → Prop) : sx_ K P [.aload 0, .iload 1] 2 = x_aload 0 (x_iload 1 (K 2)) := ((xe_aload 0).trans (congrArg (x_aload 0) ((xe_iload 1).trans (congrArg (x_iload 1) xe_nil))))
theorem bk_X10_table_5 : ck_ fX10 (some .int) cX10_table 5 [.ifCond .eq 16, .aload 0, .iload 3] 10 = true := qck_r (nn_ _) (by decide +kernel)
theorem bs_X10_table_5 {P : Zt → Option Zv → Prop} (K : Int → Zl → List Zv → Zt → Prop) : sx_ K P [.ifCond .eq 16, .aload 0, .iload 3] 10 = x_ifCond .eq 16 K (x_aload 0 (x_iload 3 (K 10))) := ((xe_ifCond .eq 16).trans (congrArg (x_ifCond .eq 16 K) ((xe_aload 0).trans (congrArg (x_aload 0) ((xe_iload 3).trans (congrArg (x_iload 3) xe_nil))))))
theorem bk_X10_table_16 : ck_ fX10 (some .int) cX10_table 16 [.iconst (-2), .ireturn] 19 = true := qck_r (nn_ _) (by decide +kernel)
theorem bs_X10_table_16 {P : Zt → Option Zv → Prop} (K : Int → Zl → List Zv → Zt → Prop) : sx_ K P [.iconst (-2), .ireturn] 19 = x_iconst (-2) (x_ireturn P) := ((xe_iconst (-2)).trans (congrArg (x_iconst (-2)) (xe_ireturn)))
theorem bk_X10_table_13 : ck_ fX10 (some .int) cX10_table 13 [.ifCond .ne 19, .iconst (-2), .ireturn] 19 = true := qck_r (nn_ _) (by decide +kernel)
theorem bs_X10_table_13 {P : Zt → Option Zv → Prop} (K : Int → Zl → List Zv → Zt → Prop) : sx_ K P [.ifCond .ne 19, .iconst (-2), .ireturn] 19 = x_ifCond .ne 19 K (x_iconst (-2) (x_ireturn P)) := ((xe_ifCond .ne 19).trans (congrArg (x_ifCond .ne 19 K) ((xe_iconst (-2)).trans (congrArg (x_iconst (-2)) (xe_ireturn)))))
theorem bk_X10_table_19 : ck_ fX10 (some .int) cX10_table 19 [.iload 2] 20 = true := qck_r (nn_ _) (by decide +kernel)
theorem bs_X10_table_19 {P : Zt → Option Zv → Prop} (K : Int → Zl → List Zv → Zt → Prop) : sx_ K P [.iload 2] 20 = x_iload 2 (K 20) := ((xe_iload 2).trans (congrArg (x_iload 2) xe_nil))
theorem bk_X10_table_23 : ck_ fX10 (some .int) cX10_table 23 [.ifCond .eq 38, .iload 4, .ifCond .lt 38, .iload 4, .iconst 7, .if_icmp .le 41, .iconst (-3), .ireturn] 41 = true := qck_r (nn_ _) (by decide +kernel)
theorem bs_X10_table_23 {P : Zt → Option Zv → Prop} (K : Int → Zl → List Zv → Zt → Prop) : sx_ K P [.ifCond .eq 38, .iload 4, .ifCond .lt 38, .iload 4, .iconst 7, .if_icmp .le 41, .iconst (-3), .ireturn] 41 = x_ifCond .eq 38 K (x_iload 4 (x_ifCond .lt 38 K (x_iload 4 (x_iconst 7 (x_if_icmp .le 41 K (x_iconst (-3) (x_ireturn P))))))) := ((xe_ifCond .eq 38).trans (congrArg (x_ifCond .eq 38 K) ((xe_iload 4).trans (congrArg (x_iload 4) ((xe_ifCond .lt 38).trans (congrArg (x_ifCond .lt 38 K) ((xe_iload 4).trans (congrArg (x_iload 4) ((xe_iconst 7).trans (congrArg (x_iconst 7) ((xe_if_icmp .le 41).trans (congrArg (x_if_icmp .le 41 K) ((xe_iconst (-3)).trans (congrArg (x_iconst (-3)) (xe_ireturn)))))))))))))))
theorem bk_X10_table_38 : ck_ fX10 (some .int) cX10_table 38 [.iconst (-3), .ireturn] 41 = true := qck_r (nn_ _) (by decide +kernel)
theorem bs_X10_table_38 {P : Zt → Option Zv → Prop} (K : Int → Zl → List Zv → Zt → Prop) : sx_ K P [.iconst (-3), .ireturn] 41 = x_iconst (-3) (x_ireturn P) := ((xe_iconst (-3)).trans (congrArg (x_iconst (-3)) (xe_ireturn)))
theorem bk_X10_table_41 : ck_ fX10 (some .int) cX10_table 41 [.aload 0, .tableswitch 0 10 2 #[], .tableswitch 0 6 1 #[], .iload 1, .aaload, .astore 5, .aload 5, .tableswitch 0 0 4 #[], .iload 3, .iaload, .istore 6, .iload 6, .iconst (-1), .if_icmp .ne 70, .iconst (-4), .ireturn] 70 = true := qck_r (nn_ _) (by decide +kernel)
theorem bs_X10_table_41 {P : Zt → Option Zv → Prop} (K : Int → Zl → List Zv → Zt → Prop) : sx_ K P [.aload 0, .tableswitch 0 10 2 #[], .tableswitch 0 6 1 #[], .iload 1, .aaload, .astore 5, .aload 5, .tableswitch 0 0 4 #[], .iload 3, .iaload, .istore 6, .iload 6, .iconst (-1), .if_icmp .ne 70, .iconst (-4), .ireturn] 70 = x_aload 0 (x_g1 110 106 (x_g1 106 521 (x_iload 1 (x_aaload (x_astore 5 (x_aload 5 (x_g2 100 404 (x_iload 3 (x_iaload (x_istore 6 (x_iload 6 (x_iconst (-1) (x_if_icmp .ne 70 K (x_iconst (-4) (x_ireturn P))))))))))))))) := ((xe_aload 0).trans (congrArg (x_aload 0) ((xe_g1 (kk := 110) rfl tl_10_2).trans (congrArg (x_g1 110 106) ((xe_g1 (kk := 106) rfl tl_6_1).trans (congrArg (x_g1 106 521) ((xe_iload 1).trans (congrArg (x_iload 1) ((xe_aaload).trans (congrArg (x_aaload) ((xe_astore 5).trans (congrArg (x_astore 5) ((xe_aload 5).trans (congrArg (x_aload 5) ((xe_g2 (kk := 100) rfl tl_0_4).trans (congrArg (x_g2 100 404) ((xe_iload 3).trans (congrArg (x_iload 3) ((xe_iaload).trans (congrArg (x_iaload) ((xe_istore 6).trans (congrArg (x_istore 6) ((xe_iload 6).trans (congrArg (x_iload 6) ((xe_iconst (-1)).trans (congrArg (x_iconst (-1)) ((xe_if_icmp .ne 70).trans (congrArg (x_if_icmp .ne 70 K) ((xe_iconst (-4)).trans (congrArg (x_iconst (-4)) (xe_ireturn)))))))))))))))))))))))))))))))
theorem bk_X10_table_70 : ck_ fX10 (some .int) cX10_table 70 [.aload 0, .tableswitch 0 10 3 #[], .aload 5, .iload 2] 77 = true := qck_r (nn_ _) (by decide +kernel)
theorem bs_X10_table_70 {P : Zt → Option Zv → Prop} (K : Int → Zl → List Zv → Zt → Prop) : sx_ K P [.aload 0, .tableswitch 0 10 3 #[], .aload 5, .iload 2] 77 = x_aload 0 (x_g1 110 107 (x_aload 5 (x_iload 2 (K 77)))) := ((xe_aload 0).trans (congrArg (x_aload 0) ((xe_g1 (kk := 110) rfl tl_10_3).trans (congrArg (x_g1 110 107) ((xe_aload 5).trans (congrArg (x_aload 5) ((xe_iload 2).trans (congrArg (x_iload 2) xe_nil))))))))
set_option maxRecDepth 100000 in
theorem cl_X10_350 : cv_ RX10 350 yX7_tally zX7_tally 7 2 := ⟨gi_V (lwq_5 (dqc_m (dqc_m (dqc_m (dqc_m (dqc_m (dqc_m (dqa_m (List.mem_of_getElem? (i := 0) rfl)))))))) rfl : Cond.methodLink RX10 350 yX7_tally ∈ lw_g) (lwq_5 (dqc_m (dqc_m (dqc_m (dqc_m (dqc_m (dqc_m (dqa_m (List.mem_of_getElem? (i := 1) rfl)))))))) rfl : Cond.instanceMethod yX7_tally ∈ lw_g) (lwq_5 (dqc_m (dqc_m (dqc_m (dqc_m (dqc_m (dqc_m (dqa_m (List.mem_of_getElem? (i := 2) rfl)))))))) rfl : Cond.selects yX7_tally.cls yX7_tally yX7_tally ∈ lw_g) (lwq_1 (List.mem_of_getElem? (i := 5) rfl) rfl : Cond.initialized yX7_tally.cls ∈ lw_g) (lwq_5 (dqc_m (dqc_m (dqc_m (dqc_m (dqc_m (dqc_m (dqa_m (List.mem_of_getElem? (i := 3) rfl)))))))) rfl : Cond.code yX7_tally cX7_tally 5 none ∈ lw_g), ⟨nmh_7.1, nmh_7.2, pdq_31⟩, ⟨_, _, rfl⟩⟩
theorem bk_X10_table_80 : ck_ fX10 (some .int) cX10_table 80 [.aload 0, .tableswitch 0 10 3 #[]] 84 = true := qck_r (nn_ _) (by decide +kernel)
theorem bs_X10_table_80 {P : Zt → Option Zv → Prop} (K : Int → Zl → List Zv → Zt → Prop) : sx_ K P [.aload 0, .tableswitch 0 10 3 #[]] 84 = x_aload 0 (x_g1 110 107 (K 84)) := ((xe_aload 0).trans (congrArg (x_aload 0) ((xe_g1 (kk := 110) rfl tl_10_3).trans (congrArg (x_g1 110 107) xe_nil))))
set_option maxRecDepth 100000 in
theorem cl_X10_353 : cv_ RX10 353 yX7_rank zX7_rank 7 0 := ⟨gi_V (lwq_5 (dqc_m (dqc_m (dqc_m (dqc_m (dqc_m (dqc_m (dqc_m (List.mem_of_getElem? (i := 0) rfl)))))))) rfl : Cond.methodLink RX10 353 yX7_rank ∈ lw_g) (lwq_5 (dqc_m (dqc_m (dqc_m (dqc_m (dqc_m (dqc_m (dqc_m (List.mem_of_getElem? (i := 1) rfl)))))))) rfl : Cond.instanceMethod yX7_rank ∈ lw_g) (lwq_5 (dqc_m (dqc_m (dqc_m (dqc_m (dqc_m (dqc_m (dqc_m (List.mem_of_getElem? (i := 2) rfl)))))))) rfl : Cond.selects yX7_rank.cls yX7_rank yX7_rank ∈ lw_g) (lwq_1 (List.mem_of_getElem? (i := 5) rfl) rfl : Cond.initialized yX7_rank.cls ∈ lw_g) (lwq_5 (dqc_m (dqc_m (dqc_m (dqc_m (dqc_m (dqc_m (dqc_m (List.mem_of_getElem? (i := 3) rfl)))))))) rfl : Cond.code yX7_rank cX7_rank 3 none ∈ lw_g), ⟨nmh_7.1, nmh_7.2, pdq_1⟩, ⟨_, _, rfl⟩⟩
theorem bk_X10_table_87 : ck_ fX10 (some .int) cX10_table 87 [.aload 0, .tableswitch 0 10 3 #[], .tableswitch 0 7 2 #[], .iload 6, .iconst 8, .imul, .iload 4, .iadd, .iaload, .ireturn] 104 = true := qck_r (nn_ _) (by decide +kernel)
theorem bs_X10_table_87 {P : Zt → Option Zv → Prop} (K : Int → Zl → List Zv → Zt → Prop) : sx_ K P [.aload 0, .tableswitch 0 10 3 #[], .tableswitch 0 7 2 #[], .iload 6, .iconst 8, .imul, .iload 4, .iadd, .iaload, .ireturn] 104 = x_aload 0 (x_g1 110 107 (x_g1 107 542 (x_iload 6 (x_iconst 8 (x_imul (x_iload 4 (x_iadd (x_iaload (x_ireturn P))))))))) := ((xe_aload 0).trans (congrArg (x_aload 0) ((xe_g1 (kk := 110) rfl tl_10_3).trans (congrArg (x_g1 110 107) ((xe_g1 (kk := 107) rfl tl_7_2).trans (congrArg (x_g1 107 542) ((xe_iload 6).trans (congrArg (x_iload 6) ((xe_iconst 8).trans (congrArg (x_iconst 8) ((xe_imul).trans (congrArg (x_imul) ((xe_iload 4).trans (congrArg (x_iload 4) ((xe_iadd).trans (congrArg (x_iadd) ((xe_iaload).trans (congrArg (x_iaload) (xe_ireturn)))))))))))))))))))
abbrev po_X10_table (T : Zt) (c d b w : Int) : Zt → Option Zv → Prop := fun T' r => ∃ x : Int, r = some (vI x) ∧ fr_ [(107, [1, 13]), (542, []), (543, []), (544, []), (545, []), (546, []), (550, []), (551, []), (552, []), (549, []), (547, []), (548, [])] T T' ∧ (0 = (0 : Int))
set_option maxHeartbeats 4000000 in
theorem ct_X10_table {T : Zt} {c d b w : Int} (hka : KA_ T) (hkm : KM_ T) (hkc : KC_ T) (hko : KO_ T) : Ct_ yX10_table zX10_table T [vR 110 0, vI c, vI d, vI b, vI w] (po_X10_table T c d b w) := by
  refine ct_of pn_10 rfl rfl (Nat.le_of_ble_eq_true rfl) (fun hT hav => ?_)
  have hr_c : -2147483648 ≤ c ∧ c ≤ 2147483647 := hav (vI c) (List.mem_cons_of_mem _ List.mem_cons_self)
  have hr_d : -2147483648 ≤ d ∧ d ≤ 2147483647 := hav (vI d) (List.mem_cons_of_mem _ (List.mem_cons_of_mem _ List.mem_cons_self))
  have hr_b : -2147483648 ≤ b ∧ b ≤ 2147483647 := hav (vI b) (List.mem_cons_of_mem _ (List.mem_cons_of_mem _ (List.mem_cons_of_mem _ List.mem_cons_self)))
  have hr_w : -2147483648 ≤ w ∧ w ≤ 2147483647 := hav (vI w) (List.mem_cons_of_mem _ (List.mem_cons_of_mem _ (List.mem_cons_of_mem _ (List.mem_cons_of_mem _ List.mem_cons_self))))
  have hz : zX10_table.2.2.2.1 = some .boolean → ∀ (T' : Zt) (x : Int), po_X10_table T c d b w T' (some (vI x)) → 0 ≤ x ∧ x ≤ 1 := fun h => by cases h
  have hcc : 0 ≤ T 106 0 2 ∧ T 106 0 2 ≤ 4 := bd_f hT 106 2 tl_6_2 0
  have hb_clubs : 0 ≤ T 108 0 2 ∧ T 108 0 2 ≤ 12 := bd_f hT 108 2 tl_8_2 0
  show J_ zX10_table T (po_X10_table T c d b w) 0 0 0 [some (vR 110 0), some (vI c), some (vI d), some (vI b), some (vI w), none, none] [] T
  refine j_blx (F := fX10) tb_X10 (nn_ _) bk_X10_table_0 bs_X10_table_0 hz (fun K hK => ?_)
  refine hK 2 _ [vI c, vR 110 0] T ?_
  refine j_callV (y := yX10_isCompetition) (Yc := zX10_isCompetition) (rest := []) [vI c] (ct_X10_isCompetition (T := T)) cl_X10_107 (qd_c (by decide +kernel)) (nn_ _) rfl (rf_of rfl) (Nat.le_of_ble_eq_true rfl) (Nat.le_of_ble_eq_true rfl) (Nat.le_of_ble_eq_true rfl) rfl ?_
  rintro _ _ ⟨rfl, x1, rfl, hx1⟩
  show J_ zX10_table T (po_X10_table T c d b w) 0 0 5 _ [vI x1] T
  refine j_blx (F := fX10) tb_X10 (nn_ _) bk_X10_table_5 bs_X10_table_5 hz (fun K hK => ?_)
  refine And.intro (fun c2 => ?_) (fun c2 => ?_)
  · replace hx1 := hx1.resolve_left (fun z => absurd (c2.symm.trans z.1) (by decide))
    clear c2
    refine hK 16 _ [] T ?_
    refine j_blx (F := fX10) tb_X10 (nn_ _) bk_X10_table_16 bs_X10_table_16 hz (fun K hK => ?_)
    refine (show po_X10_table T c d b w T (some (vI (-2))) from ?_)
    exact ⟨_, rfl, fr_0 _ _, by rfl⟩
  · replace hx1 := hx1.resolve_right (fun z => c2 z.1)
    clear c2
    refine hK 10 _ [vI b, vR 110 0] T ?_
    refine j_callV (y := yX10_isClub) (Yc := zX10_isClub) (rest := []) [vI b] (ct_X10_isClub (T := T)) cl_X10_137 (qd_c (by decide +kernel)) (nn_ _) rfl (rf_of rfl) (Nat.le_of_ble_eq_true rfl) (Nat.le_of_ble_eq_true rfl) (Nat.le_of_ble_eq_true rfl) rfl ?_
    rintro _ _ ⟨rfl, x3, rfl, hx3⟩
    show J_ zX10_table T (po_X10_table T c d b w) 0 0 13 _ [vI x3] T
    refine j_blx (F := fX10) tb_X10 (nn_ _) bk_X10_table_13 bs_X10_table_13 hz (fun K hK => ?_)
    refine And.intro (fun c4 => ?_) (fun c4 => ?_)
    · replace hx3 := hx3.resolve_right (fun z => c4 z.1)
      clear c4
      refine hK 19 _ [] T ?_
      refine j_blx (F := fX10) tb_X10 (nn_ _) bk_X10_table_19 bs_X10_table_19 hz (fun K hK => ?_)
      refine hK 20 _ [vI d] T ?_
      refine j_callS (y := yX10_isDay) (Yc := zX10_isDay) (rest := []) [vI d] (ct_X10_isDay (T := T)) cl_X10_140 (qd_c (by decide +kernel)) (nn_ _) rfl (rf_of rfl) (Nat.le_of_ble_eq_true rfl) (Nat.le_of_ble_eq_true rfl) (Nat.le_of_ble_eq_true rfl) rfl ?_
      rintro _ _ ⟨rfl, x5, rfl, hx5⟩
      show J_ zX10_table T (po_X10_table T c d b w) 0 0 23 _ [vI x5] T
      refine j_blx (F := fX10) tb_X10 (nn_ _) bk_X10_table_23 bs_X10_table_23 hz (fun K hK => ?_)
      refine And.intro (fun c6 => ?_) (fun c6 => ?_)
      · replace hx5 := hx5.resolve_left (fun z => absurd (c6.symm.trans z.1) (by decide))
        clear c6
        refine hK 38 _ [] T ?_
        refine j_blx (F := fX10) tb_X10 (nn_ _) bk_X10_table_38 bs_X10_table_38 hz (fun K hK => ?_)
        refine (show po_X10_table T c d b w T (some (vI (-3))) from ?_)
        exact ⟨_, rfl, fr_0 _ _, by rfl⟩
      · replace hx5 := hx5.resolve_right (fun z => c6 z.1)
        clear c6
        refine And.intro (fun c7 => ?_) (fun c7 => ?_)
        · refine hK 38 _ [] T ?_
          refine j_blx (F := fX10) tb_X10 (nn_ _) bk_X10_table_38 bs_X10_table_38 hz (fun K hK => ?_)
          refine (show po_X10_table T c d b w T (some (vI (-3))) from ?_)
          exact ⟨_, rfl, fr_0 _ _, by rfl⟩
        · refine And.intro (fun c8 => ?_) (fun c8 => ?_)
          · refine hK 41 _ [] T ?_
            refine j_blx (F := fX10) tb_X10 (nn_ _) bk_X10_table_41 bs_X10_table_41 hz (fun K hK => ?_)
            refine ix_i (by omega) ?_
            refine And.intro (fun c9 => ?_) (fun c9 => ?_)
            · exact absurd (show T 521 0 c = 0 by omega) (hka.1 _ (by omega) (by omega))
            · refine ix_i (by omega) ?_
              intro b10 b10b
              refine And.intro (fun c11 => ?_) (fun c11 => ?_)
              · refine hK 70 [some (vR 110 0), some (vI c), some (vI d), some (vI b), some (vI w), some (vR 100 c), some (vI (T 404 c b))] [] T ?_
                refine j_blx (F := fX10) tb_X10 (nn_ _) bk_X10_table_70 bs_X10_table_70 hz (fun K hK => ?_)
                refine hK 77 _ [vI d, vR 100 c, vR 107 0] T ?_
                refine j_callV (y := yX7_tally) (Yc := zX7_tally) (rest := []) [vR 100 c, vI d] (ct_X7_tally (T := T) (hka) (hkc) (by omega)) cl_X10_350 (qd_c (by decide +kernel)) (nn_ _) rfl (rf_of rfl) (Nat.le_of_ble_eq_true rfl) (Nat.le_of_ble_eq_true rfl) (Nat.le_of_ble_eq_true rfl) rfl ?_
                rintro U12 _ ⟨rfl, fU12, qU12⟩
                show J_ zX10_table T (po_X10_table T c d b w) 0 0 80 _ [] U12
                refine j_blx (F := fX10) tb_X10 (nn_ _) bk_X10_table_80 bs_X10_table_80 hz (fun K hK => ?_)
                refine hK 84 _ [vR 107 0] U12 ?_
                have e13 : U12 401 c 4 = T 401 c 4 := fU12 401 c 4 rfl
                have y14 := hko c (by omega) (by omega)
                refine j_callV (y := yX7_rank) (Yc := zX7_rank) (rest := []) [] (ct_X7_rank (T := U12) (by omega) (by rw [show U12 107 0 1 - 1 = c by omega]; omega)) cl_X10_353 (qd_c (by decide +kernel)) (nn_ _) rfl (rf_of rfl) (Nat.le_of_ble_eq_true rfl) (Nat.le_of_ble_eq_true rfl) (Nat.le_of_ble_eq_true rfl) rfl ?_
                rintro U15 _ ⟨rfl, fU15, qU15⟩
                show J_ zX10_table T (po_X10_table T c d b w) 0 0 87 _ [] U15
                refine j_blx (F := fX10) tb_X10 (nn_ _) bk_X10_table_87 bs_X10_table_87 hz (fun K hK => ?_)
                refine rg_i (by omega) ?_
                refine rg_i (by omega) ?_
                refine ix_i (by omega) ?_
                intro b16 b16b
                refine (show po_X10_table T c d b w U15 (some (vI (U15 542 0 (((T 404 c b) * 8) + w)))) from ?_)
                exact ⟨_, rfl, fr_t (fr_t (fr_0 _ _) (fr_s fU12 rfl)) (fr_s fU15 rfl), by rfl⟩
              · refine (show po_X10_table T c d b w T (some (vI (-4))) from ?_)
                exact ⟨_, rfl, fr_0 _ _, by rfl⟩
          · refine (show po_X10_table T c d b w T (some (vI (-3))) from ?_)
            exact ⟨_, rfl, fr_0 _ _, by rfl⟩
    · replace hx3 := hx3.resolve_left (fun z => absurd (c4.symm.trans z.1) (by decide))
      clear c4
      refine (show po_X10_table T c d b w T (some (vI (-2))) from ?_)
      exact ⟨_, rfl, fr_0 _ _, by rfl⟩
abbrev cX10_parted : ByteArray := prog_1_method_31_code
def yX10_parted : MethodName := ⟨RX10, "parted", "(III)I"⟩
def zX10_parted : Zm := (RX10, cX10_parted, 5, (some .int), { frames := 5, cells := 0, slots := 0, locals := 127 })
theorem bk_X10_parted_0 : ck_ fX10 (some .int) cX10_parted 0 [.aload 0, .iload 1] 2 = true := qck_r (nn_ _) (by decide +kernel)
theorem bs_X10_parted_0 {P : Zt → Option Zv → Prop} (K : Int → Zl → List Zv → Zt → Prop) : sx_ K P [.aload 0, .iload 1] 2 = x_aload 0 (x_iload 1 (K 2)) := ((xe_aload 0).trans (congrArg (x_aload 0) ((xe_iload 1).trans (congrArg (x_iload 1) xe_nil))))
theorem bk_X10_parted_5 : ck_ fX10 (some .int) cX10_parted 5 [.ifCond .ne 11, .iconst (-2), .ireturn] 11 = true := qck_r (nn_ _) (by decide +kernel)
theorem bs_X10_parted_5 {P : Zt → Option Zv → Prop} (K : Int → Zl → List Zv → Zt → Prop) : sx_ K P [.ifCond .ne 11, .iconst (-2), .ireturn] 11 = x_ifCond .ne 11 K (x_iconst (-2) (x_ireturn P)) := ((xe_ifCond .ne 11).trans (congrArg (x_ifCond .ne 11 K) ((xe_iconst (-2)).trans (congrArg (x_iconst (-2)) (xe_ireturn)))))
theorem bk_X10_parted_11 : ck_ fX10 (some .int) cX10_parted 11 [.iload 2] 12 = true := qck_r (nn_ _) (by decide +kernel)
theorem bs_X10_parted_11 {P : Zt → Option Zv → Prop} (K : Int → Zl → List Zv → Zt → Prop) : sx_ K P [.iload 2] 12 = x_iload 2 (K 12) := ((xe_iload 2).trans (congrArg (x_iload 2) xe_nil))
theorem bk_X10_parted_15 : ck_ fX10 (some .int) cX10_parted 15 [.ifCond .ne 21, .iconst (-3), .ireturn] 21 = true := qck_r (nn_ _) (by decide +kernel)
theorem bs_X10_parted_15 {P : Zt → Option Zv → Prop} (K : Int → Zl → List Zv → Zt → Prop) : sx_ K P [.ifCond .ne 21, .iconst (-3), .ireturn] 21 = x_ifCond .ne 21 K (x_iconst (-3) (x_ireturn P)) := ((xe_ifCond .ne 21).trans (congrArg (x_ifCond .ne 21 K) ((xe_iconst (-3)).trans (congrArg (x_iconst (-3)) (xe_ireturn)))))
theorem bk_X10_parted_21 : ck_ fX10 (some .int) cX10_parted 21 [.aload 0, .tableswitch 0 10 2 #[], .tableswitch 0 6 1 #[], .iload 1, .aaload, .astore 4, .iload 3, .aload 4, .tableswitch 0 0 5 #[], .iconst 1, .isub] 40 = true := qck_r (nn_ _) (by decide +kernel)
theorem bs_X10_parted_21 {P : Zt → Option Zv → Prop} (K : Int → Zl → List Zv → Zt → Prop) : sx_ K P [.aload 0, .tableswitch 0 10 2 #[], .tableswitch 0 6 1 #[], .iload 1, .aaload, .astore 4, .iload 3, .aload 4, .tableswitch 0 0 5 #[], .iconst 1, .isub] 40 = x_aload 0 (x_g1 110 106 (x_g1 106 521 (x_iload 1 (x_aaload (x_astore 4 (x_iload 3 (x_aload 4 (x_g0 100 5 0 12 (x_iconst 1 (x_isub (K 40))))))))))) := ((xe_aload 0).trans (congrArg (x_aload 0) ((xe_g1 (kk := 110) rfl tl_10_2).trans (congrArg (x_g1 110 106) ((xe_g1 (kk := 106) rfl tl_6_1).trans (congrArg (x_g1 106 521) ((xe_iload 1).trans (congrArg (x_iload 1) ((xe_aaload).trans (congrArg (x_aaload) ((xe_astore 4).trans (congrArg (x_astore 4) ((xe_iload 3).trans (congrArg (x_iload 3) ((xe_aload 4).trans (congrArg (x_aload 4) ((xe_g0 (kk := 100) rfl tl_0_5).trans (congrArg (x_g0 100 5 0 12) ((xe_iconst 1).trans (congrArg (x_iconst 1) ((xe_isub).trans (congrArg (x_isub) xe_nil))))))))))))))))))))))
theorem bk_X10_parted_43 : ck_ fX10 (some .int) cX10_parted 43 [.ifCond .ne 48, .iconst (-1), .ireturn] 48 = true := qck_r (nn_ _) (by decide +kernel)
theorem bs_X10_parted_43 {P : Zt → Option Zv → Prop} (K : Int → Zl → List Zv → Zt → Prop) : sx_ K P [.ifCond .ne 48, .iconst (-1), .ireturn] 48 = x_ifCond .ne 48 K (x_iconst (-1) (x_ireturn P)) := ((xe_ifCond .ne 48).trans (congrArg (x_ifCond .ne 48 K) ((xe_iconst (-1)).trans (congrArg (x_iconst (-1)) (xe_ireturn)))))
theorem bk_X10_parted_48 : ck_ fX10 (some .int) cX10_parted 48 [.aload 0, .tableswitch 0 10 3 #[], .aload 4, .iload 2] 55 = true := qck_r (nn_ _) (by decide +kernel)
theorem bs_X10_parted_48 {P : Zt → Option Zv → Prop} (K : Int → Zl → List Zv → Zt → Prop) : sx_ K P [.aload 0, .tableswitch 0 10 3 #[], .aload 4, .iload 2] 55 = x_aload 0 (x_g1 110 107 (x_aload 4 (x_iload 2 (K 55)))) := ((xe_aload 0).trans (congrArg (x_aload 0) ((xe_g1 (kk := 110) rfl tl_10_3).trans (congrArg (x_g1 110 107) ((xe_aload 4).trans (congrArg (x_aload 4) ((xe_iload 2).trans (congrArg (x_iload 2) xe_nil))))))))
theorem bk_X10_parted_58 : ck_ fX10 (some .int) cX10_parted 58 [.aload 0, .tableswitch 0 10 3 #[]] 62 = true := qck_r (nn_ _) (by decide +kernel)
theorem bs_X10_parted_58 {P : Zt → Option Zv → Prop} (K : Int → Zl → List Zv → Zt → Prop) : sx_ K P [.aload 0, .tableswitch 0 10 3 #[]] 62 = x_aload 0 (x_g1 110 107 (K 62)) := ((xe_aload 0).trans (congrArg (x_aload 0) ((xe_g1 (kk := 110) rfl tl_10_3).trans (congrArg (x_g1 110 107) xe_nil))))
theorem bk_X10_parted_65 : ck_ fX10 (some .int) cX10_parted 65 [.aload 0, .tableswitch 0 10 3 #[], .tableswitch 0 7 8 #[], .iload 3, .iaload, .ireturn] 75 = true := qck_r (nn_ _) (by decide +kernel)
theorem bs_X10_parted_65 {P : Zt → Option Zv → Prop} (K : Int → Zl → List Zv → Zt → Prop) : sx_ K P [.aload 0, .tableswitch 0 10 3 #[], .tableswitch 0 7 8 #[], .iload 3, .iaload, .ireturn] 75 = x_aload 0 (x_g1 110 107 (x_g1 107 548 (x_iload 3 (x_iaload (x_ireturn P))))) := ((xe_aload 0).trans (congrArg (x_aload 0) ((xe_g1 (kk := 110) rfl tl_10_3).trans (congrArg (x_g1 110 107) ((xe_g1 (kk := 107) rfl tl_7_8).trans (congrArg (x_g1 107 548) ((xe_iload 3).trans (congrArg (x_iload 3) ((xe_iaload).trans (congrArg (x_iaload) (xe_ireturn)))))))))))
abbrev po_X10_parted (T : Zt) (c d k : Int) : Zt → Option Zv → Prop := fun T' r => ∃ x : Int, r = some (vI x) ∧ fr_ [(107, [1, 13]), (542, []), (543, []), (544, []), (545, []), (546, []), (550, []), (551, []), (552, []), (549, []), (547, []), (548, [])] T T' ∧ (0 = (0 : Int))
set_option maxHeartbeats 4000000 in
theorem ct_X10_parted {T : Zt} {c d k : Int} (hka : KA_ T) (hkm : KM_ T) (hkc : KC_ T) (hko : KO_ T) : Ct_ yX10_parted zX10_parted T [vR 110 0, vI c, vI d, vI k] (po_X10_parted T c d k) := by
  refine ct_of pn_10 rfl rfl (Nat.le_of_ble_eq_true rfl) (fun hT hav => ?_)
  have hr_c : -2147483648 ≤ c ∧ c ≤ 2147483647 := hav (vI c) (List.mem_cons_of_mem _ List.mem_cons_self)
  have hr_d : -2147483648 ≤ d ∧ d ≤ 2147483647 := hav (vI d) (List.mem_cons_of_mem _ (List.mem_cons_of_mem _ List.mem_cons_self))
  have hr_k : -2147483648 ≤ k ∧ k ≤ 2147483647 := hav (vI k) (List.mem_cons_of_mem _ (List.mem_cons_of_mem _ (List.mem_cons_of_mem _ List.mem_cons_self)))
  have hz : zX10_parted.2.2.2.1 = some .boolean → ∀ (T' : Zt) (x : Int), po_X10_parted T c d k T' (some (vI x)) → 0 ≤ x ∧ x ≤ 1 := fun h => by cases h
  have hcc : 0 ≤ T 106 0 2 ∧ T 106 0 2 ≤ 4 := bd_f hT 106 2 tl_6_2 0
  have hb_clubs : 0 ≤ T 108 0 2 ∧ T 108 0 2 ≤ 12 := bd_f hT 108 2 tl_8_2 0
  show J_ zX10_parted T (po_X10_parted T c d k) 0 0 0 [some (vR 110 0), some (vI c), some (vI d), some (vI k), none] [] T
  refine j_blx (F := fX10) tb_X10 (nn_ _) bk_X10_parted_0 bs_X10_parted_0 hz (fun K hK => ?_)
  refine hK 2 _ [vI c, vR 110 0] T ?_
  refine j_callV (y := yX10_isCompetition) (Yc := zX10_isCompetition) (rest := []) [vI c] (ct_X10_isCompetition (T := T)) cl_X10_107 (qd_c (by decide +kernel)) (nn_ _) rfl (rf_of rfl) (Nat.le_of_ble_eq_true rfl) (Nat.le_of_ble_eq_true rfl) (Nat.le_of_ble_eq_true rfl) rfl ?_
  rintro _ _ ⟨rfl, x1, rfl, hx1⟩
  show J_ zX10_parted T (po_X10_parted T c d k) 0 0 5 _ [vI x1] T
  refine j_blx (F := fX10) tb_X10 (nn_ _) bk_X10_parted_5 bs_X10_parted_5 hz (fun K hK => ?_)
  refine And.intro (fun c2 => ?_) (fun c2 => ?_)
  · replace hx1 := hx1.resolve_right (fun z => c2 z.1)
    clear c2
    refine hK 11 _ [] T ?_
    refine j_blx (F := fX10) tb_X10 (nn_ _) bk_X10_parted_11 bs_X10_parted_11 hz (fun K hK => ?_)
    refine hK 12 _ [vI d] T ?_
    refine j_callS (y := yX10_isDay) (Yc := zX10_isDay) (rest := []) [vI d] (ct_X10_isDay (T := T)) cl_X10_140 (qd_c (by decide +kernel)) (nn_ _) rfl (rf_of rfl) (Nat.le_of_ble_eq_true rfl) (Nat.le_of_ble_eq_true rfl) (Nat.le_of_ble_eq_true rfl) rfl ?_
    rintro _ _ ⟨rfl, x3, rfl, hx3⟩
    show J_ zX10_parted T (po_X10_parted T c d k) 0 0 15 _ [vI x3] T
    refine j_blx (F := fX10) tb_X10 (nn_ _) bk_X10_parted_15 bs_X10_parted_15 hz (fun K hK => ?_)
    refine And.intro (fun c4 => ?_) (fun c4 => ?_)
    · replace hx3 := hx3.resolve_right (fun z => c4 z.1)
      clear c4
      refine hK 21 _ [] T ?_
      refine j_blx (F := fX10) tb_X10 (nn_ _) bk_X10_parted_21 bs_X10_parted_21 hz (fun K hK => ?_)
      refine ix_i (by omega) ?_
      refine And.intro (fun c5 => ?_) (fun c5 => ?_)
      · exact absurd (show T 521 0 c = 0 by omega) (hka.1 _ (by omega) (by omega))
      · intro b6 b6b
        refine rg_i (by omega) ?_
        refine hK 40 [some (vR 110 0), some (vI c), some (vI d), some (vI k), some (vR 100 c)] [vI ((T 100 c 5) - 1), vI k] T ?_
        refine j_callS (y := yX10_isBelow) (Yc := zX10_isBelow) (rest := []) [vI k, vI ((T 100 c 5) - 1)] (ct_X10_isBelow (T := T)) cl_X10_115 (qd_c (by decide +kernel)) (nn_ _) rfl (rf_of rfl) (Nat.le_of_ble_eq_true rfl) (Nat.le_of_ble_eq_true rfl) (Nat.le_of_ble_eq_true rfl) rfl ?_
        rintro _ _ ⟨rfl, x7, rfl, hx7⟩
        show J_ zX10_parted T (po_X10_parted T c d k) 0 0 43 _ [vI x7] T
        refine j_blx (F := fX10) tb_X10 (nn_ _) bk_X10_parted_43 bs_X10_parted_43 hz (fun K hK => ?_)
        refine And.intro (fun c8 => ?_) (fun c8 => ?_)
        · replace hx7 := hx7.resolve_right (fun z => c8 z.1)
          clear c8
          refine hK 48 _ [] T ?_
          refine j_blx (F := fX10) tb_X10 (nn_ _) bk_X10_parted_48 bs_X10_parted_48 hz (fun K hK => ?_)
          refine hK 55 _ [vI d, vR 100 c, vR 107 0] T ?_
          refine j_callV (y := yX7_tally) (Yc := zX7_tally) (rest := []) [vR 100 c, vI d] (ct_X7_tally (T := T) (hka) (hkc) (by omega)) cl_X10_350 (qd_c (by decide +kernel)) (nn_ _) rfl (rf_of rfl) (Nat.le_of_ble_eq_true rfl) (Nat.le_of_ble_eq_true rfl) (Nat.le_of_ble_eq_true rfl) rfl ?_
          rintro U9 _ ⟨rfl, fU9, qU9⟩
          show J_ zX10_parted T (po_X10_parted T c d k) 0 0 58 _ [] U9
          refine j_blx (F := fX10) tb_X10 (nn_ _) bk_X10_parted_58 bs_X10_parted_58 hz (fun K hK => ?_)
          refine hK 62 _ [vR 107 0] U9 ?_
          have e10 : U9 401 c 4 = T 401 c 4 := fU9 401 c 4 rfl
          have y11 := hko c (by omega) (by omega)
          refine j_callV (y := yX7_rank) (Yc := zX7_rank) (rest := []) [] (ct_X7_rank (T := U9) (by omega) (by rw [show U9 107 0 1 - 1 = c by omega]; omega)) cl_X10_353 (qd_c (by decide +kernel)) (nn_ _) rfl (rf_of rfl) (Nat.le_of_ble_eq_true rfl) (Nat.le_of_ble_eq_true rfl) (Nat.le_of_ble_eq_true rfl) rfl ?_
          rintro U12 _ ⟨rfl, fU12, qU12⟩
          show J_ zX10_parted T (po_X10_parted T c d k) 0 0 65 _ [] U12
          refine j_blx (F := fX10) tb_X10 (nn_ _) bk_X10_parted_65 bs_X10_parted_65 hz (fun K hK => ?_)
          refine ix_i (by omega) ?_
          intro b13 b13b
          refine (show po_X10_parted T c d k U12 (some (vI (U12 548 0 k))) from ?_)
          exact ⟨_, rfl, fr_t (fr_t (fr_0 _ _) (fr_s fU9 rfl)) (fr_s fU12 rfl), by rfl⟩
        · replace hx7 := hx7.resolve_left (fun z => absurd (c8.symm.trans z.1) (by decide))
          clear c8
          refine (show po_X10_parted T c d k T (some (vI (-1))) from ?_)
          exact ⟨_, rfl, fr_0 _ _, by rfl⟩
    · replace hx3 := hx3.resolve_left (fun z => absurd (c4.symm.trans z.1) (by decide))
      clear c4
      refine (show po_X10_parted T c d k T (some (vI (-3))) from ?_)
      exact ⟨_, rfl, fr_0 _ _, by rfl⟩
  · replace hx1 := hx1.resolve_left (fun z => absurd (c2.symm.trans z.1) (by decide))
    clear c2
    refine (show po_X10_parted T c d k T (some (vI (-2))) from ?_)
    exact ⟨_, rfl, fr_0 _ _, by rfl⟩
abbrev cX10_standing : ByteArray := prog_1_method_30_code
def yX10_standing : MethodName := ⟨RX10, "standing", "(III)I"⟩
def zX10_standing : Zm := (RX10, cX10_standing, 5, (some .int), { frames := 5, cells := 0, slots := 0, locals := 127 })
theorem bk_X10_standing_0 : ck_ fX10 (some .int) cX10_standing 0 [.aload 0, .iload 1] 2 = true := qck_r (nn_ _) (by decide +kernel)
theorem bs_X10_standing_0 {P : Zt → Option Zv → Prop} (K : Int → Zl → List Zv → Zt → Prop) : sx_ K P [.aload 0, .iload 1] 2 = x_aload 0 (x_iload 1 (K 2)) := ((xe_aload 0).trans (congrArg (x_aload 0) ((xe_iload 1).trans (congrArg (x_iload 1) xe_nil))))
theorem bk_X10_standing_5 : ck_ fX10 (some .int) cX10_standing 5 [.ifCond .ne 11, .iconst (-2), .ireturn] 11 = true := qck_r (nn_ _) (by decide +kernel)
theorem bs_X10_standing_5 {P : Zt → Option Zv → Prop} (K : Int → Zl → List Zv → Zt → Prop) : sx_ K P [.ifCond .ne 11, .iconst (-2), .ireturn] 11 = x_ifCond .ne 11 K (x_iconst (-2) (x_ireturn P)) := ((xe_ifCond .ne 11).trans (congrArg (x_ifCond .ne 11 K) ((xe_iconst (-2)).trans (congrArg (x_iconst (-2)) (xe_ireturn)))))
theorem bk_X10_standing_11 : ck_ fX10 (some .int) cX10_standing 11 [.iload 2] 12 = true := qck_r (nn_ _) (by decide +kernel)
theorem bs_X10_standing_11 {P : Zt → Option Zv → Prop} (K : Int → Zl → List Zv → Zt → Prop) : sx_ K P [.iload 2] 12 = x_iload 2 (K 12) := ((xe_iload 2).trans (congrArg (x_iload 2) xe_nil))
theorem bk_X10_standing_15 : ck_ fX10 (some .int) cX10_standing 15 [.ifCond .ne 21, .iconst (-3), .ireturn] 21 = true := qck_r (nn_ _) (by decide +kernel)
theorem bs_X10_standing_15 {P : Zt → Option Zv → Prop} (K : Int → Zl → List Zv → Zt → Prop) : sx_ K P [.ifCond .ne 21, .iconst (-3), .ireturn] 21 = x_ifCond .ne 21 K (x_iconst (-3) (x_ireturn P)) := ((xe_ifCond .ne 21).trans (congrArg (x_ifCond .ne 21 K) ((xe_iconst (-3)).trans (congrArg (x_iconst (-3)) (xe_ireturn)))))
theorem bk_X10_standing_21 : ck_ fX10 (some .int) cX10_standing 21 [.aload 0, .tableswitch 0 10 2 #[], .tableswitch 0 6 1 #[], .iload 1, .aaload, .astore 4, .iload 3, .aload 4, .tableswitch 0 0 5 #[]] 38 = true := qck_r (nn_ _) (by decide +kernel)
theorem bs_X10_standing_21 {P : Zt → Option Zv → Prop} (K : Int → Zl → List Zv → Zt → Prop) : sx_ K P [.aload 0, .tableswitch 0 10 2 #[], .tableswitch 0 6 1 #[], .iload 1, .aaload, .astore 4, .iload 3, .aload 4, .tableswitch 0 0 5 #[]] 38 = x_aload 0 (x_g1 110 106 (x_g1 106 521 (x_iload 1 (x_aaload (x_astore 4 (x_iload 3 (x_aload 4 (x_g0 100 5 0 12 (K 38))))))))) := ((xe_aload 0).trans (congrArg (x_aload 0) ((xe_g1 (kk := 110) rfl tl_10_2).trans (congrArg (x_g1 110 106) ((xe_g1 (kk := 106) rfl tl_6_1).trans (congrArg (x_g1 106 521) ((xe_iload 1).trans (congrArg (x_iload 1) ((xe_aaload).trans (congrArg (x_aaload) ((xe_astore 4).trans (congrArg (x_astore 4) ((xe_iload 3).trans (congrArg (x_iload 3) ((xe_aload 4).trans (congrArg (x_aload 4) ((xe_g0 (kk := 100) rfl tl_0_5).trans (congrArg (x_g0 100 5 0 12) xe_nil))))))))))))))))))
theorem bk_X10_standing_41 : ck_ fX10 (some .int) cX10_standing 41 [.ifCond .ne 46, .iconst (-1), .ireturn] 46 = true := qck_r (nn_ _) (by decide +kernel)
theorem bs_X10_standing_41 {P : Zt → Option Zv → Prop} (K : Int → Zl → List Zv → Zt → Prop) : sx_ K P [.ifCond .ne 46, .iconst (-1), .ireturn] 46 = x_ifCond .ne 46 K (x_iconst (-1) (x_ireturn P)) := ((xe_ifCond .ne 46).trans (congrArg (x_ifCond .ne 46 K) ((xe_iconst (-1)).trans (congrArg (x_iconst (-1)) (xe_ireturn)))))
theorem bk_X10_standing_46 : ck_ fX10 (some .int) cX10_standing 46 [.aload 0, .tableswitch 0 10 3 #[], .aload 4, .iload 2] 53 = true := qck_r (nn_ _) (by decide +kernel)
theorem bs_X10_standing_46 {P : Zt → Option Zv → Prop} (K : Int → Zl → List Zv → Zt → Prop) : sx_ K P [.aload 0, .tableswitch 0 10 3 #[], .aload 4, .iload 2] 53 = x_aload 0 (x_g1 110 107 (x_aload 4 (x_iload 2 (K 53)))) := ((xe_aload 0).trans (congrArg (x_aload 0) ((xe_g1 (kk := 110) rfl tl_10_3).trans (congrArg (x_g1 110 107) ((xe_aload 4).trans (congrArg (x_aload 4) ((xe_iload 2).trans (congrArg (x_iload 2) xe_nil))))))))
theorem bk_X10_standing_56 : ck_ fX10 (some .int) cX10_standing 56 [.aload 0, .tableswitch 0 10 3 #[]] 60 = true := qck_r (nn_ _) (by decide +kernel)
theorem bs_X10_standing_56 {P : Zt → Option Zv → Prop} (K : Int → Zl → List Zv → Zt → Prop) : sx_ K P [.aload 0, .tableswitch 0 10 3 #[]] 60 = x_aload 0 (x_g1 110 107 (K 60)) := ((xe_aload 0).trans (congrArg (x_aload 0) ((xe_g1 (kk := 110) rfl tl_10_3).trans (congrArg (x_g1 110 107) xe_nil))))
theorem bk_X10_standing_63 : ck_ fX10 (some .int) cX10_standing 63 [.aload 4, .tableswitch 0 0 3 #[], .aload 0, .tableswitch 0 10 3 #[], .tableswitch 0 7 7 #[], .iload 3, .iaload, .iaload, .ireturn] 79 = true := qck_r (nn_ _) (by decide +kernel)
theorem bs_X10_standing_63 {P : Zt → Option Zv → Prop} (K : Int → Zl → List Zv → Zt → Prop) : sx_ K P [.aload 4, .tableswitch 0 0 3 #[], .aload 0, .tableswitch 0 10 3 #[], .tableswitch 0 7 7 #[], .iload 3, .iaload, .iaload, .ireturn] 79 = x_aload 4 (x_g2 100 403 (x_aload 0 (x_g1 110 107 (x_g1 107 547 (x_iload 3 (x_iaload (x_iaload (x_ireturn P)))))))) := ((xe_aload 4).trans (congrArg (x_aload 4) ((xe_g2 (kk := 100) rfl tl_0_3).trans (congrArg (x_g2 100 403) ((xe_aload 0).trans (congrArg (x_aload 0) ((xe_g1 (kk := 110) rfl tl_10_3).trans (congrArg (x_g1 110 107) ((xe_g1 (kk := 107) rfl tl_7_7).trans (congrArg (x_g1 107 547) ((xe_iload 3).trans (congrArg (x_iload 3) ((xe_iaload).trans (congrArg (x_iaload) ((xe_iaload).trans (congrArg (x_iaload) (xe_ireturn)))))))))))))))))
abbrev po_X10_standing (T : Zt) (c d k : Int) : Zt → Option Zv → Prop := fun T' r => ∃ x : Int, r = some (vI x) ∧ fr_ [(107, [1, 13]), (542, []), (543, []), (544, []), (545, []), (546, []), (550, []), (551, []), (552, []), (549, []), (547, []), (548, [])] T T' ∧ (0 = (0 : Int))
set_option maxHeartbeats 4000000 in
theorem ct_X10_standing {T : Zt} {c d k : Int} (hka : KA_ T) (hkm : KM_ T) (hkc : KC_ T) (hko : KO_ T) : Ct_ yX10_standing zX10_standing T [vR 110 0, vI c, vI d, vI k] (po_X10_standing T c d k) := by
  refine ct_of pn_10 rfl rfl (Nat.le_of_ble_eq_true rfl) (fun hT hav => ?_)
  have hr_c : -2147483648 ≤ c ∧ c ≤ 2147483647 := hav (vI c) (List.mem_cons_of_mem _ List.mem_cons_self)
  have hr_d : -2147483648 ≤ d ∧ d ≤ 2147483647 := hav (vI d) (List.mem_cons_of_mem _ (List.mem_cons_of_mem _ List.mem_cons_self))
  have hr_k : -2147483648 ≤ k ∧ k ≤ 2147483647 := hav (vI k) (List.mem_cons_of_mem _ (List.mem_cons_of_mem _ (List.mem_cons_of_mem _ List.mem_cons_self)))
  have hz : zX10_standing.2.2.2.1 = some .boolean → ∀ (T' : Zt) (x : Int), po_X10_standing T c d k T' (some (vI x)) → 0 ≤ x ∧ x ≤ 1 := fun h => by cases h
  have hcc : 0 ≤ T 106 0 2 ∧ T 106 0 2 ≤ 4 := bd_f hT 106 2 tl_6_2 0
  have hb_clubs : 0 ≤ T 108 0 2 ∧ T 108 0 2 ≤ 12 := bd_f hT 108 2 tl_8_2 0
  show J_ zX10_standing T (po_X10_standing T c d k) 0 0 0 [some (vR 110 0), some (vI c), some (vI d), some (vI k), none] [] T
  refine j_blx (F := fX10) tb_X10 (nn_ _) bk_X10_standing_0 bs_X10_standing_0 hz (fun K hK => ?_)
  refine hK 2 _ [vI c, vR 110 0] T ?_
  refine j_callV (y := yX10_isCompetition) (Yc := zX10_isCompetition) (rest := []) [vI c] (ct_X10_isCompetition (T := T)) cl_X10_107 (qd_c (by decide +kernel)) (nn_ _) rfl (rf_of rfl) (Nat.le_of_ble_eq_true rfl) (Nat.le_of_ble_eq_true rfl) (Nat.le_of_ble_eq_true rfl) rfl ?_
  rintro _ _ ⟨rfl, x1, rfl, hx1⟩
  show J_ zX10_standing T (po_X10_standing T c d k) 0 0 5 _ [vI x1] T
  refine j_blx (F := fX10) tb_X10 (nn_ _) bk_X10_standing_5 bs_X10_standing_5 hz (fun K hK => ?_)
  refine And.intro (fun c2 => ?_) (fun c2 => ?_)
  · replace hx1 := hx1.resolve_right (fun z => c2 z.1)
    clear c2
    refine hK 11 _ [] T ?_
    refine j_blx (F := fX10) tb_X10 (nn_ _) bk_X10_standing_11 bs_X10_standing_11 hz (fun K hK => ?_)
    refine hK 12 _ [vI d] T ?_
    refine j_callS (y := yX10_isDay) (Yc := zX10_isDay) (rest := []) [vI d] (ct_X10_isDay (T := T)) cl_X10_140 (qd_c (by decide +kernel)) (nn_ _) rfl (rf_of rfl) (Nat.le_of_ble_eq_true rfl) (Nat.le_of_ble_eq_true rfl) (Nat.le_of_ble_eq_true rfl) rfl ?_
    rintro _ _ ⟨rfl, x3, rfl, hx3⟩
    show J_ zX10_standing T (po_X10_standing T c d k) 0 0 15 _ [vI x3] T
    refine j_blx (F := fX10) tb_X10 (nn_ _) bk_X10_standing_15 bs_X10_standing_15 hz (fun K hK => ?_)
    refine And.intro (fun c4 => ?_) (fun c4 => ?_)
    · replace hx3 := hx3.resolve_right (fun z => c4 z.1)
      clear c4
      refine hK 21 _ [] T ?_
      refine j_blx (F := fX10) tb_X10 (nn_ _) bk_X10_standing_21 bs_X10_standing_21 hz (fun K hK => ?_)
      refine ix_i (by omega) ?_
      refine And.intro (fun c5 => ?_) (fun c5 => ?_)
      · exact absurd (show T 521 0 c = 0 by omega) (hka.1 _ (by omega) (by omega))
      · intro b6 b6b
        refine hK 38 [some (vR 110 0), some (vI c), some (vI d), some (vI k), some (vR 100 c)] [vI (T 100 c 5), vI k] T ?_
        refine j_callS (y := yX10_isBelow) (Yc := zX10_isBelow) (rest := []) [vI k, vI (T 100 c 5)] (ct_X10_isBelow (T := T)) cl_X10_115 (qd_c (by decide +kernel)) (nn_ _) rfl (rf_of rfl) (Nat.le_of_ble_eq_true rfl) (Nat.le_of_ble_eq_true rfl) (Nat.le_of_ble_eq_true rfl) rfl ?_
        rintro _ _ ⟨rfl, x7, rfl, hx7⟩
        show J_ zX10_standing T (po_X10_standing T c d k) 0 0 41 _ [vI x7] T
        refine j_blx (F := fX10) tb_X10 (nn_ _) bk_X10_standing_41 bs_X10_standing_41 hz (fun K hK => ?_)
        refine And.intro (fun c8 => ?_) (fun c8 => ?_)
        · replace hx7 := hx7.resolve_right (fun z => c8 z.1)
          clear c8
          refine hK 46 _ [] T ?_
          refine j_blx (F := fX10) tb_X10 (nn_ _) bk_X10_standing_46 bs_X10_standing_46 hz (fun K hK => ?_)
          refine hK 53 _ [vI d, vR 100 c, vR 107 0] T ?_
          refine j_callV (y := yX7_tally) (Yc := zX7_tally) (rest := []) [vR 100 c, vI d] (ct_X7_tally (T := T) (hka) (hkc) (by omega)) cl_X10_350 (qd_c (by decide +kernel)) (nn_ _) rfl (rf_of rfl) (Nat.le_of_ble_eq_true rfl) (Nat.le_of_ble_eq_true rfl) (Nat.le_of_ble_eq_true rfl) rfl ?_
          rintro U9 _ ⟨rfl, fU9, qU9⟩
          show J_ zX10_standing T (po_X10_standing T c d k) 0 0 56 _ [] U9
          refine j_blx (F := fX10) tb_X10 (nn_ _) bk_X10_standing_56 bs_X10_standing_56 hz (fun K hK => ?_)
          refine hK 60 _ [vR 107 0] U9 ?_
          have e10 : U9 401 c 4 = T 401 c 4 := fU9 401 c 4 rfl
          have y11 := hko c (by omega) (by omega)
          refine j_callV (y := yX7_rank) (Yc := zX7_rank) (rest := []) [] (ct_X7_rank (T := U9) (by omega) (by rw [show U9 107 0 1 - 1 = c by omega]; omega)) cl_X10_353 (qd_c (by decide +kernel)) (nn_ _) rfl (rf_of rfl) (Nat.le_of_ble_eq_true rfl) (Nat.le_of_ble_eq_true rfl) (Nat.le_of_ble_eq_true rfl) rfl ?_
          rintro U12 _ ⟨rfl, fU12, qU12⟩
          show J_ zX10_standing T (po_X10_standing T c d k) 0 0 63 _ [] U12
          refine j_blx (F := fX10) tb_X10 (nn_ _) bk_X10_standing_63 bs_X10_standing_63 hz (fun K hK => ?_)
          refine ix_i (by omega) ?_
          intro b13 b13b
          refine ix_i (by omega) ?_
          intro b14 b14b
          have e15 : U12 403 c (U12 547 0 k) = T 403 c (U12 547 0 k) := (fU12 403 c (U12 547 0 k) rfl).trans (fU9 403 c (U12 547 0 k) rfl)
          rw [e15] at b14 b14b ⊢
          refine (show po_X10_standing T c d k U12 (some (vI (T 403 c (U12 547 0 k)))) from ?_)
          exact ⟨_, rfl, fr_t (fr_t (fr_0 _ _) (fr_s fU9 rfl)) (fr_s fU12 rfl), by rfl⟩
        · replace hx7 := hx7.resolve_left (fun z => absurd (c8.symm.trans z.1) (by decide))
          clear c8
          refine (show po_X10_standing T c d k T (some (vI (-1))) from ?_)
          exact ⟨_, rfl, fr_0 _ _, by rfl⟩
    · replace hx3 := hx3.resolve_left (fun z => absurd (c4.symm.trans z.1) (by decide))
      clear c4
      refine (show po_X10_standing T c d k T (some (vI (-3))) from ?_)
      exact ⟨_, rfl, fr_0 _ _, by rfl⟩
  · replace hx1 := hx1.resolve_left (fun z => absurd (c2.symm.trans z.1) (by decide))
    clear c2
    refine (show po_X10_standing T c d k T (some (vI (-2))) from ?_)
    exact ⟨_, rfl, fr_0 _ _, by rfl⟩
abbrev cX10_lineUp : ByteArray := prog_1_method_20_code
def yX10_lineUp : MethodName := ⟨RX10, "lineUp", "(III)I"⟩
def zX10_lineUp : Zm := (RX10, cX10_lineUp, 6, (some .int), { frames := 5, cells := 0, slots := 0, locals := 122 })
abbrev po_X10_lineUp (T : Zt) (q b s : Int) : Zt → Option Zv → Prop := fun T' r => ∃ x : Int, r = some (vI x) ∧ fr_ [(448, []), (449, []), (533, [])] T T' ∧ (0 = (0 : Int))
def KE_ (T : Zt) : Prop := ∀ c : Int, 0 ≤ c → c < T 106 0 2 → ∀ j : Int, 0 ≤ j → j < T 100 c 5 → T 404 c (T 403 c j) = j
theorem KE__f {ws : List (Nat × List Int)} {T T' : Zt} (h : KE_ T) (f : fr_ ws T T') (w : (∀ j, fw_ ws 403 j = false) ∧ (∀ j, fw_ ws 404 j = false) ∧ fw_ ws 100 5 = false ∧ fw_ ws 106 2 = false ∧ True) : KE_ T' := by
  have e0 : ∀ i j, T' 403 i j = T 403 i j := fun i j => f 403 i j (w.1 j)
  have e1 : ∀ i j, T' 404 i j = T 404 i j := fun i j => f 404 i j (w.2.1 j)
  have e2 : ∀ i, T' 100 i 5 = T 100 i 5 := fun i => f 100 i 5 w.2.2.1
  have e3 : ∀ i, T' 106 i 2 = T 106 i 2 := fun i => f 106 i 2 w.2.2.2.1
  simp only [KE_, e0, e1, e2, e3] at h ⊢
  exact h
abbrev cX10_enter : ByteArray := prog_1_method_12_code
def yX10_enter : MethodName := ⟨RX10, "enter", "(II)I"⟩
def zX10_enter : Zm := (RX10, cX10_enter, 4, (some .int), { frames := 2, cells := 0, slots := 0, locals := 42 })
-- things are made: rows, objects, copies
section JN
variable {Y : Zm} {T0 T : Zt} {P : Zt → Option Zv → Prop} {bc bs bc' bs' : Nat} {pc pc' : Int} {ls : Zl} {st : List Zv}
def nu_ (T : Zt) (k : Nat) (i n : Int) (f : Int → Int) : Zt := fun k' i' j' => if k' = k ∧ i' = i then (if j' = -1 then 1 else if j' = -2 then n else f j') else T k' i' j'
def aq_ (ad : Nat → Int → Nat) (k : Nat) (i : Int) (q : Nat) : Nat → Int → Nat := fun k' i' => if k' = k ∧ i' = i then q else ad k' i'
theorem nu_o {k k' : Nat} {i i' n : Int} {f : Int → Int} (h : ¬ (k' = k ∧ i' = i)) : nu_ T k i n f k' i' = T k' i' := by
  funext j
  unfold nu_
  rw [if_neg h]
theorem nu_s {k : Nat} {i n : Int} {f : Int → Int} (j : Int) : nu_ T k i n f k i j = if j = -1 then 1 else if j = -2 then n else f j := by
  unfold nu_
  rw [if_pos ⟨rfl, rfl⟩]
theorem nu_p {k : Nat} {i n : Int} {f : Int → Int} {j : Int} (h : 0 ≤ j) : nu_ T k i n f k i j = f j := by
  rw [nu_s, if_neg (by omega), if_neg (by omega)]
theorem nu_l {k : Nat} {i n : Int} {f : Int → Int} : nu_ T k i n f k i (-2) = n := by
  rw [nu_s, if_neg (by omega), if_pos rfl]
theorem al_nu {k : Nat} {i n : Int} {f : Int → Int} (k' : Nat) (i' : Int) : al_ (nu_ T k i n f) k' i' ↔ (k' = k ∧ i' = i) ∨ al_ T k' i' := by
  unfold al_
  by_cases h : k' = k ∧ i' = i
  · obtain ⟨rfl, rfl⟩ := h
    rw [nu_s, if_pos rfl]
    simp
  · rw [nu_o h]
    simp [h]
theorem aq_s {ad : Nat → Int → Nat} {k q : Nat} {i : Int} : aq_ ad k i q k i = q := by
  unfold aq_
  rw [if_pos ⟨rfl, rfl⟩]
theorem aq_n {ad : Nat → Int → Nat} {k q k' : Nat} {i i' : Int} (h : ¬ (k' = k ∧ i' = i)) : aq_ ad k i q k' i' = ad k' i' := by
  unfold aq_
  rw [if_neg h]
theorem aq_e {ad : Nat → Int → Nat} {k q : Nat} {i : Int} (hk : 100 ≤ k) (hfr : ¬ al_ T k i) (k' : Nat) (i' : Int) (h : k' < 100 ∨ al_ T k' i') : aq_ ad k i q k' i' = ad k' i' := by
  refine aq_n (fun z => ?_)
  obtain ⟨rfl, rfl⟩ := z
  rcases h with h | h
  · omega
  · exact hfr h
theorem tf_ky : ∀ k, k < 154 → ∀ q ∈ tf_ k, ¬ (150 ≤ q.2.1 ∧ q.2.1 < 154) := by decide +kernel
theorem zi_at {k : Nat} {q : (Nat × Nat × Int × Int) × Nat} (h : q ∈ (tf_ k).zipIdx) : (tf_ k)[q.2]? = some q.1 := by
  obtain ⟨n, hn⟩ := List.getElem?_of_mem h
  rw [List.getElem?_zipIdx] at hn
  cases hz : (tf_ k)[n]? with
  | none => rw [hz] at hn; cases hn
  | some z =>
    rw [hz] at hn
    simp only [Option.map_some, Nat.zero_add, Option.some.injEq] at hn
    rw [← hn]
    exact hz
theorem ce_ad {cA : Nat → ClassId} {ad ad' : Nat → Int → Nat} (hT : ok_T T) (h : ∀ k i, k < 100 ∨ al_ T k i → ad' k i = ad k i) {k : Nat} {i : Int} (ha : al_ T k i) : ce_ cA ad' T k i = ce_ cA ad T k i := by
  unfold ce_
  cases hk : ta_ k with
  | none =>
    have e : ((tf_ k).zipIdx.map fun q => en_v ad' (fv_ q.1.1 q.1.2.1 (T k i (q.2 : Int)) i)) = (tf_ k).zipIdx.map fun q => en_v ad (fv_ q.1.1 q.1.2.1 (T k i (q.2 : Int)) i) := by
      apply List.map_congr_left
      rintro ⟨⟨c, k', lo, hi⟩, j⟩ hq
      exact en_congr h (hT.2.2.2.1 k i ha j c k' lo hi (zi_at hq))
    simp only [e]
  | some q =>
    obtain ⟨t, n, lo, hi⟩ := q
    have hc := tc_of hk
    have hlt : k < 640 := by
      by_cases z : k < 640
      · exact z
      · rw [ta_no (by omega)] at hk; cases hk
    match t, hk, hc with
    | 0, hk, hc => simp [tc_] at hc
    | 1, hk, hc => rfl
    | 2, hk, hc => rfl
    | 3, hk, hc => rfl
    | 4, hk, hc =>
      obtain rfl := ta_4_k k hlt n lo hi hk
      have e : (fun x : Nat => if T 521 i (x : Int) = 0 then none else some (ad' 100 x)) = fun x : Nat => if T 521 i (x : Int) = 0 then none else some (ad 100 x) := by
        funext x
        by_cases z : T 521 i (x : Int) = 0
        · rw [if_pos z, if_pos z]
        · rw [if_neg z, if_neg z, h 100 x (Or.inr (hT.2.2.2.2.1 i x (by omega) z))]
      simp only [e]
    | 5, hk, hc =>
      obtain rfl := ta_5_k k hlt n lo hi hk
      have e : (fun x : Nat => if T 523 i (x : Int) = 0 then none else some (ad' 102 x)) = fun x : Nat => if T 523 i (x : Int) = 0 then none else some (ad 102 x) := by
        funext x
        by_cases z : T 523 i (x : Int) = 0
        · rw [if_pos z, if_pos z]
        · rw [if_neg z, if_neg z, h 102 x (Or.inr (hT.2.2.2.2.2.1 i x (by omega) z))]
      simp only [e]
    | t + 6, hk, hc => simp [tc_] at hc
theorem ok_nu (hT : ok_T T) {k : Nat} {i n : Int} {f : Int → Int} (hk9 : k ≠ 190 ∧ k ≠ 191) (hk : 100 ≤ k) (hn : 0 ≤ n ∧ n ≤ 2147483647) (h1 : ∀ t m lo hi, ta_ k = some (t, m, lo, hi) → t ≤ 3 ∧ ∀ x, 0 ≤ x → lo ≤ f x ∧ f x ≤ hi) (h2 : ∀ (j c k' : Nat) (lo hi : Int), (tf_ k)[j]? = some (c, k', lo, hi) → lo ≤ f j ∧ f j ≤ hi ∧ ok_v T (fv_ c k' (f j) i)) (h3 : ∀ o, ow_ k = some o → al_ T o i ∨ al_ T (o + 50) i) : ok_T (nu_ T k i n f) := by
  obtain ⟨a1, a2, a3, a4, a5, a6, a7, a8, a9⟩ := hT
  have mo : ∀ k' i', al_ T k' i' → al_ (nu_ T k i n f) k' i' := fun k' i' h => (al_nu k' i').mpr (Or.inr h)
  refine ⟨fun k' t' n' lo' hi' h i' x' hx => ?_, fun k' j' c k'' lo' hi' h i' => ?_, fun i' => ?_, fun k' i' hl j' c k'' lo' hi' h => ?_, fun i' x' hx h => ?_, fun i' x' hx h => ?_, fun k' i' h q => ?_, fun k' i' o h q => ?_, fun i' h q => ?_⟩
  · by_cases e : k' = k ∧ i' = i
    · obtain ⟨rfl, rfl⟩ := e
      rw [nu_p hx]
      exact (h1 _ _ _ _ h).2 x' hx
    · rw [nu_o e]
      exact a1 k' t' n' lo' hi' h i' x' hx
  · by_cases e : k' = k ∧ i' = i
    · obtain ⟨rfl, rfl⟩ := e
      rw [nu_p (by omega)]
      exact ⟨(h2 _ _ _ _ _ h).1, (h2 _ _ _ _ _ h).2.1⟩
    · rw [nu_o e]
      exact a2 k' j' c k'' lo' hi' h i'
  · by_cases e : 190 = k ∧ i' = i
    · obtain ⟨rfl, rfl⟩ := e
      rw [nu_l]
      exact hn
    · rw [nu_o e]
      exact a3 i'
  · by_cases e : k' = k ∧ i' = i
    · obtain ⟨rfl, rfl⟩ := e
      rw [nu_p (by omega)]
      exact okv_mono mo (h2 _ _ _ _ _ h).2.2
    · rw [nu_o e]
      exact okv_mono mo (a4 k' i' (((al_nu k' i').mp hl).resolve_left e) j' c k'' lo' hi' h)
  · by_cases e : 521 = k ∧ i' = i
    · obtain ⟨rfl, rfl⟩ := e
      exact absurd (h1 _ _ _ _ ta_521).1 (by omega)
    · rw [nu_o e] at h
      exact mo _ _ (a5 i' x' hx h)
  · by_cases e : 523 = k ∧ i' = i
    · obtain ⟨rfl, rfl⟩ := e
      exact absurd (h1 _ _ _ _ ta_523).1 (by omega)
    · rw [nu_o e] at h
      exact mo _ _ (a6 i' x' hx h)
  · rcases (al_nu k' i').mp q with e | e
    · omega
    · exact a7 k' i' h e
  · rcases (al_nu k' i').mp q with e | e
    · obtain ⟨rfl, rfl⟩ := e
      exact (h3 o h).imp (mo _ _) (mo _ _)
    · exact (a8 k' i' o h e).imp (mo _ _) (mo _ _)
  · rw [nu_o (fun e => hk9.2 e.1.symm)] at h
    rcases (al_nu 190 i').mp q with e | e
    · exact hk9.1 e.1.symm
    · exact a9 i' h e
/-- a row of kind 190 is made, and counted -/
def nv_ (T : Zt) (n : Int) : Zt := up_ (nu_ T 190 (T 191 0 0) n (fun _ => 0)) 191 0 0 (T 191 0 0 + 1)
theorem nv_o {k' : Nat} {i' n : Int} (h : ¬ (k' = 190 ∧ i' = T 191 0 0)) (h2 : k' ≠ 191) : nv_ T n k' i' = T k' i' := by
  unfold nv_
  rw [up_o (fun e => h2 (Prod.mk.inj e).1), nu_o h]
theorem nv_9 {n : Int} : nv_ T n 191 0 0 = T 191 0 0 + 1 := up_s _ _ _ _ _
theorem nv_s {n : Int} : nv_ T n 190 (T 191 0 0) = nu_ T 190 (T 191 0 0) n (fun _ => 0) 190 (T 191 0 0) := by
  unfold nv_
  rw [up_o (fun e => absurd (Prod.mk.inj e).1 (by decide))]
theorem al_nv {n : Int} (k' : Nat) (i' : Int) : al_ (nv_ T n) k' i' ↔ (k' = 190 ∧ i' = T 191 0 0) ∨ al_ T k' i' := by
  unfold nv_
  rw [al_up (by omega), al_nu]
theorem ta_191 : ta_ 191 = none := by decide +kernel
theorem ok_nv (hT : ok_T T) {n : Int} (hn : 0 ≤ n ∧ n ≤ 2147483647) : ok_T (nv_ T n) := by
  obtain ⟨a1, a2, a3, a4, a5, a6, a7, a8, a9⟩ := hT
  have mo : ∀ k' i', al_ T k' i' → al_ (nv_ T n) k' i' := fun k' i' h => (al_nv k' i').mpr (Or.inr h)
  have hf : ∀ {k j : Nat} {q : Nat × Nat × Int × Int}, (tf_ k)[j]? = some q → k < 154 := fun h => tf_lt h
  refine ⟨fun k' t' n' lo' hi' h i' x' hx => ?_, fun k' j' c k'' lo' hi' h i' => ?_, fun i' => ?_, fun k' i' hl j' c k'' lo' hi' h => ?_, fun i' x' hx h => ?_, fun i' x' hx h => ?_, fun k' i' h q => ?_, fun k' i' o h q => ?_, fun i' h q => ?_⟩
  · by_cases e : k' = 190 ∧ i' = T 191 0 0
    · obtain ⟨rfl, rfl⟩ := e
      rw [nv_s, nu_p hx]
      rw [ta_190] at h
      cases h
      omega
    · rw [nv_o e (fun z => by rw [z, ta_191] at h; cases h)]
      exact a1 k' t' n' lo' hi' h i' x' hx
  · have := hf h
    rw [nv_o (fun e => by omega) (by omega)]
    exact a2 k' j' c k'' lo' hi' h i'
  · by_cases e : i' = T 191 0 0
    · subst e
      rw [nv_s, nu_l]
      exact hn
    · rw [nv_o (fun z => e z.2) (by omega)]
      exact a3 i'
  · have := hf h
    rw [nv_o (fun e => by omega) (by omega)]
    exact okv_mono mo (a4 k' i' (((al_nv k' i').mp hl).resolve_left (fun e => by omega)) j' c k'' lo' hi' h)
  · rw [nv_o (fun e => by omega) (by omega)] at h
    exact mo _ _ (a5 i' x' hx h)
  · rw [nv_o (fun e => by omega) (by omega)] at h
    exact mo _ _ (a6 i' x' hx h)
  · rcases (al_nv k' i').mp q with e | e
    · omega
    · exact a7 k' i' h e
  · rcases (al_nv k' i').mp q with e | e
    · rw [e.1] at h
      rw [show ow_ 190 = none by decide] at h
      cases h
    · exact (a8 k' i' o h e).imp (mo _ _) (mo _ _)
  · rw [nv_9] at h
    rcases (al_nv 190 i').mp q with e | e
    · omega
    · exact a9 i' (by omega) e
theorem no_191 {D : va_G} {cA : Nat → ClassId} {ad : Nat → Int → Nat} {A : Nat → Prop} {H : Heap} (h : Rp_ D cA ad T A H) (i : Int) : ¬ al_ T 191 i := fun ha => by
  obtain ⟨ids, q0, hq, -, hP, -⟩ := rp_at h ha
  have h1 := hP q0 _ (wd_get hq)
  unfold ce_ at h1
  rw [ta_191] at h1
  obtain ⟨r, hr, -⟩ := h1
  have e : vwCl[kc_ 191]? = none := by decide +kernel
  rw [show (kc_ 191) = (kc_ 191) from rfl, e] at hr
  cases hr
theorem rp_nu {D : va_G} {cA : Nat → ClassId} {ad : Nat → Int → Nat} {A : Nat → Prop} {H1 : Heap} (hT : ok_T T) {ids : List (Nat × Int)} (hids : ∀ k i, al_ T k i ↔ (k, i) ∈ ids) {k q : Nat} {i : Int} {T1 : Zt} {e : va_E} (hk : 100 ≤ k) (hfr : ¬ al_ T k i) (hs1 : ∀ k' i', al_ T k' i' → T1 k' i' = T k' i') (hal : ∀ k' i', al_ T1 k' i' ↔ (k' = k ∧ i' = i) ∨ al_ T k' i') (he : ce_ cA (aq_ ad k i q) T1 k i = e) (hP : va_P D vwCl (wd_ cA ad T ids ++ [(q, e)]) H1) (hD : va_D A (wd_ cA ad T ids ++ [(q, e)])) : Rp_ D cA (aq_ ad k i q) T1 A H1 := by
  have hw : wd_ cA (aq_ ad k i q) T1 (ids ++ [(k, i)]) = wd_ cA ad T ids ++ [(q, e)] := by
    unfold wd_
    rw [List.map_append]
    congr 1
    · apply List.map_congr_left
      rintro ⟨k', i'⟩ hm
      have ha := (hids k' i').mpr hm
      have hne : ¬ (k' = k ∧ i' = i) := fun z => hfr (by rw [← z.1, ← z.2]; exact ha)
      show (aq_ ad k i q k' i', ce_ cA (aq_ ad k i q) T1 k' i') = (ad k' i', ce_ cA ad T k' i')
      rw [ce_congr (hs1 k' i' ha), ce_ad hT (aq_e hk hfr) ha, aq_n hne]
    · show [(aq_ ad k i q k i, ce_ cA (aq_ ad k i q) T1 k i)] = _
      rw [he, aq_s]
  refine ⟨ids ++ [(k, i)], fun k' i' => ?_, by rw [hw]; exact hP, by rw [hw]; exact hD⟩
  rw [hal, hids, List.mem_append, List.mem_singleton, Prod.mk.injEq]
  exact or_comm
theorem j_nu {l : Launch} {p : Program} {e : Env} {s : State} {m : MethodId} {args : Array Value} {below : List Frame} {meth : Method} {c : Code} {D : va_G} {cA : Nat → ClassId} {ad0 : Nat → Int → Nat} {A : Nat → Prop} (X : Cx_ Y p s m args meth c D cA ad0 A) {ad : Nat → Int → Nat} {H1 : Heap} {locs : List Loc} {cells slots : Nat} {lsC : Array Slot} {k q : Nat} {i : Int} {T1 : Zt} {ev : va_E} {ids : List (Nat × Int)} (kk : J_ Y T0 P bc' bs' pc' ls (vR k i :: st) T1) (hc : cells + bc' ≤ Y.2.2.2.2.cells) (hs : slots + bs' ≤ Y.2.2.2.2.slots) (hk : 100 ≤ k) (hfr : ¬ al_ T k i) (hs1 : ∀ k' i', al_ T k' i' → T1 k' i' = T k' i') (hal : ∀ k' i', al_ T1 k' i' ↔ (k' = k ∧ i' = i) ∨ al_ T k' i') (hok : ok_T T1) (hids : ∀ k i, al_ T k i ↔ (k, i) ∈ ids) (he : ce_ cA (aq_ ad k i q) T1 k i = ev) (hP : va_P D vwCl (wd_ cA ad T ids ++ [(q, ev)]) H1) (hD : va_D A (wd_ cA ad T ids ++ [(q, ev)])) (hS : va_S A s.heap H1 locs) (hB : Sb_ ad0 ad T0 T) (hT : ok_T T) (hL : ok_l T ls st) (hl : lv_has lsC Y.2.2.1 (lp_ ad 0 ls)) (hn : ls.length = Y.2.2.1) :
    W p l e Y.2.2.2.2 s m args below meth c H1 locs cells slots (MQ below (Qc_ D cA ad0 T0 A P) args s Y.2.2.2.2.cells Y.2.2.2.2.slots A) (F0 m pc'.toNat lsC (.ref q :: st.map (en_v ad))) := by
  have mo : ∀ k' i', al_ T k' i' → al_ T1 k' i' := fun k' i' h => (hal k' i').mpr (Or.inr h)
  have hee : ∀ v, ok_v T v → en_v (aq_ ad k i q) v = en_v ad v := fun v hv => en_congr (aq_e hk hfr) hv
  have el : lp_ (aq_ ad k i q) 0 ls = lp_ ad 0 ls := lp_congr (fun k v hk => hee v (hL.1 k v hk))
  have es : st.map (en_v (aq_ ad k i q)) = st.map (en_v ad) := List.map_congr_left (fun v hv => hee v (hL.2 v hv))
  have k2 := kk l p e s m args below meth c D cA ad0 A X (aq_ ad k i q) H1 locs cells slots lsC hc hs (rp_nu hT hids hk hfr hs1 hal he hP hD) hS ⟨fun k' i' h => mo _ _ (hB.1 k' i' h), fun k' i' h => by rw [aq_e hk hfr k' i' (h.imp id (hB.1 k' i'))]; exact hB.2 k' i' h⟩ hok (ok_push (Or.inr ((hal k i).mpr (Or.inl ⟨rfl, rfl⟩))) ⟨fun k v hk => okv_mono mo (hL.1 k v hk), fun v hv => okv_mono mo (hL.2 v hv)⟩) (by rw [el]; exact hl) hn
  have e2 : (vR k i :: st).map (en_v (aq_ ad k i q)) = Value.ref q :: st.map (en_v ad) := by
    rw [List.map_cons, es]
    show Value.ref (aq_ ad k i q k i) :: _ = _
    rw [aq_s]
  rw [e2] at k2
  exact k2
theorem rp_ids {D : va_G} {cA : Nat → ClassId} {ad : Nat → Int → Nat} {A : Nat → Prop} {H : Heap} (h : Rp_ D cA ad T A H) : ∃ ids : List (Nat × Int), (∀ k i, al_ T k i ↔ (k, i) ∈ ids) ∧ va_P D vwCl (wd_ cA ad T ids) H ∧ va_D A (wd_ cA ad T ids) := h
theorem nu_a {k : Nat} {i n : Int} {f : Int → Int} (hfr : ¬ al_ T k i) (k' : Nat) (i' : Int) (h : al_ T k' i') : nu_ T k i n f k' i' = T k' i' := nu_o (fun z => hfr (by rw [← z.1, ← z.2]; exact h))
theorem ce_i {cA : Nat → ClassId} {ad : Nat → Int → Nat} {T1 : Zt} {k : Nat} {mo : Option Int} {lo hi i n : Int} (ha : ta_ k = some (1, mo, lo, hi)) (hmo : mo = none ∧ T1 k i (-2) = n ∨ mo = some n) : ce_ cA ad T1 k i = .inl (cA 0, n.toNat, .inl fun x => Int32.ofInt (T1 k i (x : Int))) := by
  unfold ce_ ln_
  rw [ha]
  rcases hmo with ⟨rfl, h⟩ | rfl
  · simp only [h]
  · rfl
theorem j_newX {k : Nat} {mo : Option Int} {lo hi i n : Int} {T1 : Zt} (hp : 0 ≤ pc) (ha : ta_ k = some (1, mo, lo, hi)) (hmo : mo = none ∧ T1 k i (-2) = n ∨ mo = some n) (hz : ∀ x : Nat, T1 k i (x : Int) = 0) (h0 : 0 ≤ n) (h1 : n ≤ 100000000) (hfr : ok_T T → ¬ al_ T k i) (hok : ok_T T → ok_T T1) (hs1 : (∀ i, ¬ al_ T 191 i) → ¬ al_ T k i → ∀ k' i', al_ T k' i' → T1 k' i' = T k' i') (hal : ∀ k' i', al_ T1 k' i' ↔ (k' = k ∧ i' = i) ∨ al_ T k' i') (hb : bc' + 1 ≤ bc) (hbs : bs' + n.toNat ≤ bs) (hd : decode Y.2.1 pc.toNat = .ok (.newarray .int, 2)) (hac : Cond.arrayClass .int ∈ lw_g) (kk : J_ Y T0 P bc' bs' (pc + 2) ls (vR k i :: st) T1) : J_ Y T0 P bc bs pc ls (vI n :: st) T := by
  intro l p e s m args below meth c D cA ad0 A X ad H locs cells slots lsC hc hs hR hS hB hT hL hl hln
  have hfr := hfr hT
  have hok := hok hT
  have hs1 := hs1 (no_191 hR) hfr
  obtain ⟨ids, hids, hP, hD⟩ := rp_ids hR
  have hk := ta_ge ha
  have hcl := i3_cl h0 (show n ≤ 2147483647 by omega)
  have hin := i3_in h0 (show n < n + 1 by omega) (show n ≤ 2147483647 by omega)
  refine va_newa (atype := .int) (ty := .int) (N' := n.toNat) (a0 := (n.toNat, .inl fun _ => 0)) X.1 X.2.1 (X.2.2.2.2.2.1 _ hac) rfl X.2.2.2.2.2.2.2.1 hP hD hS X.2.2.2.2.2.2.2.2.2.1 (fun _ => rfl) (fun z => hin (Or.inl z)) (by omega) (by show n.toNat * 4 ≤ _; omega) (by omega) (by omega) hd (fun q cN H1 hK1 hP1 hD1 hS1 => ?_)
  have ec : cN = cA 0 := by
    have q1 := va_nm_int (hK1.2 5 (cN, .int) rfl).2
    have q2 := va_nm_int (hK1.2 0 (cA 0, .int) rfl).2
    exact Option.some.inj (q1.symm.trans q2)
  subst ec
  have he : ce_ cA (aq_ ad k i q) T1 k i = .inl (cA 0, n.toNat, .inl fun _ => 0) := by
    rw [ce_i ha hmo]
    have e1 : (fun x : Nat => Int32.ofInt (T1 k i (x : Int))) = fun _ => 0 := by
      funext x
      rw [hz x]
      rfl
    rw [e1]
  have k2 := j_nu (l := l) (e := e) (below := below) (pc' := pc + 2) X kk (cells := cells + 1) (slots := slots + n.toNat) (by omega) (by omega) (by omega) hfr hs1 hal hok hids he hP1 hD1 hS1 hB hT (ok_tail hL) hl hln
  rw [show (pc + 2).toNat = pc.toNat + 2 by omega] at k2
  exact k2
/-- an int row of the tables is made -/
theorem j_newI {k : Nat} {lo hi i n : Int} (hp : 0 ≤ pc) (ha : ta_ k = some (1, some n, lo, hi)) (hl0 : lo ≤ 0 ∧ 0 ≤ hi) (hn : 0 ≤ n ∧ n ≤ 100000000) (hfr : ¬ al_ T k i) (hb : bc' + 1 ≤ bc) (hbs : bs' + n.toNat ≤ bs) (hd : decode Y.2.1 pc.toNat = .ok (.newarray .int, 2)) (hac : Cond.arrayClass .int ∈ lw_g) (how : ∀ o, ow_ k = some o → al_ T o i ∨ al_ T (o + 50) i) (kk : J_ Y T0 P bc' bs' (pc + 2) ls (vR k i :: st) (nu_ T k i n (fun _ => 0))) : J_ Y T0 P bc bs pc ls (vI n :: st) T := by
  refine j_newX hp ha (Or.inr rfl) (fun x => nu_p (by omega)) hn.1 hn.2 (fun _ => hfr) (fun hT => ok_nu hT ⟨fun z => ?_, fun z => ?_⟩ (by have := ta_ge ha; omega) ⟨hn.1, by omega⟩ (fun t m' lo' hi' h => by rw [ha] at h; cases h; exact ⟨by omega, fun x _ => hl0⟩) (fun j c k' lo' hi' h => by rw [ta_tf ha] at h; simp at h) how) (fun _ hfr => nu_a hfr) al_nu hb hbs hd hac kk
  · rw [z, ta_190] at ha; cases ha
  · rw [z, ta_191] at ha; cases ha
/-- an int row of any length is made -/
theorem j_newL {n : Int} (hp : 0 ≤ pc) (hn : 0 ≤ n ∧ n ≤ 100000000) (hb : bc' + 1 ≤ bc) (hbs : bs' + n.toNat ≤ bs) (hd : decode Y.2.1 pc.toNat = .ok (.newarray .int, 2)) (hac : Cond.arrayClass .int ∈ lw_g) (kk : J_ Y T0 P bc' bs' (pc + 2) ls (vR 190 (T 191 0 0) :: st) (nv_ T n)) : J_ Y T0 P bc bs pc ls (vI n :: st) T := by
  refine j_newX hp ta_190 (Or.inl ⟨rfl, by rw [nv_s, nu_l]⟩) (fun x => by rw [nv_s]; exact nu_p (by omega)) hn.1 hn.2 (fun hT => hT.2.2.2.2.2.2.2.2 _ (by omega)) (fun hT => ok_nv hT ⟨hn.1, by omega⟩) (fun h9 hfr k' i' h => nv_o (fun z => hfr (by rw [← z.1, ← z.2]; exact h)) (fun z => h9 i' (by rw [← z]; exact h))) al_nv hb hbs hd hac kk
/-- raw objects: what new makes, until its constructor has run -/
theorem ce_rw {cA : Nat → ClassId} {ad : Nat → Int → Nat} {ci : Nat} {i : Int} (h : ci < 4) : ce_ cA ad T (150 + ci) i = .inr (ci, (tf_ (150 + ci)).zipIdx.map fun q => en_v ad (fv_ q.1.1 q.1.2.1 (T (150 + ci) i (q.2 : Int)) i)) := by
  unfold ce_
  rw [tk_no _ (by omega)]
  simp only [kc_]
  rw [if_neg (by omega), Nat.add_sub_cancel_left]
theorem rw_ok {ci : Nat} (h : ci < 4) : ∀ q ∈ tf_ (150 + ci), q.2.2.1 ≤ 0 ∧ 0 ≤ q.2.2.2 ∧ (q.1 = 0 ∨ q.1 = 5) := by
  match ci, h with
  | 0, _ => decide +kernel
  | 1, _ => decide +kernel
  | 2, _ => decide +kernel
  | 3, _ => decide +kernel
def rw_fs (ci : Nat) (ad : Nat → Int → Nat) (i : Int) : List Value := (tf_ (150 + ci)).zipIdx.map fun q => en_v ad (fv_ q.1.1 q.1.2.1 0 i)
/-- an object is made -/
theorem j_newO {ci idx N : Nat} {C : String} {Tb : u_T} {ty0 : Nat → FieldType} {i : Int} (hp : 0 ≤ pc) (h4 : ci < 4) (hC : vwCl[ci]? = some (C, Tb, N)) (hty : ∀ k, k < N → parseFieldDescriptor (Tb k).2.2.1 = some (ty0 k)) (hfs : ∀ (ad : Nat → Int → Nat) (j : Nat), j < N → defaultValue (ty0 j) = vp_V (rw_fs ci ad i) j) (hcl : Cond.classLink Y.1 idx C ∈ lw_g) (hinst : Cond.instantiable C N ∈ lw_g) (hini : Cond.initialized C ∈ lw_g) (hfr : ¬ al_ T (150 + ci) i) (hb : bc' + 1 ≤ bc) (hbs : bs' + N ≤ bs) (hd : decode Y.2.1 pc.toNat = .ok (.new idx, 3)) (kk : J_ Y T0 P bc' bs' (pc + 3) ls (vR (150 + ci) i :: st) (nu_ T (150 + ci) i 0 (fun _ => 0))) : J_ Y T0 P bc bs pc ls st T := by
  intro l p e s m args below meth c D cA ad0 A X ad H locs cells slots lsC hc hs hR hS hB hT hL hl hln
  obtain ⟨ids, hids, hP, hD⟩ := rp_ids hR
  obtain ⟨hin, -, -⟩ := cl_in hC
  refine va_new (D := D) (ci := ci) (C := C) (T := Tb) (N := N) (own := Y.1) (index := idx) (fs := rw_fs ci ad i) X.1 X.2.1 X.2.2.2.2.2.1 hin ty0 hty X.2.2.2.2.2.2.1 (X.2.2.2.2.2.1 _ hcl) (X.2.2.2.2.2.1 _ hinst) (X.2.2.2.2.2.1 _ hini) X.2.2.2.2.2.2.2.1 hP hD hS X.2.2.2.2.2.2.2.2.2.1 hC (hfs ad) (by omega) (by omega) hd (fun q H1 hP1 hD1 hS1 => ?_)
  have hr := rw_ok h4
  have hv : ∀ (j c k' : Nat) (lo hi : Int), (tf_ (150 + ci))[j]? = some (c, k', lo, hi) → lo ≤ 0 ∧ 0 ≤ hi ∧ ok_v T (fv_ c k' 0 i) ∧ ∀ ad2 : Nat → Int → Nat, en_v ad2 (fv_ c k' 0 i) = en_v ad (fv_ c k' 0 i) := fun j c k' lo hi h => by
    obtain ⟨q1, q2, q3⟩ := hr _ (List.mem_of_getElem? h)
    refine ⟨q1, q2, ?_⟩
    rcases q3 with q3 | q3
    · have q4 : c = 0 := q3
      subst q4
      exact ⟨⟨by omega, by omega⟩, fun _ => rfl⟩
    · have q4 : c = 5 := q3
      subst q4
      exact ⟨trivial, fun _ => rfl⟩
  have hok : ok_T (nu_ T (150 + ci) i 0 (fun _ => 0)) := ok_nu hT ⟨by omega, by omega⟩ (by omega) ⟨by omega, by omega⟩ (fun t m' lo' hi' h => by rw [tk_no _ (by omega)] at h; cases h) (fun j c k' lo' hi' h => ⟨(hv j c k' lo' hi' h).1, (hv j c k' lo' hi' h).2.1, (hv j c k' lo' hi' h).2.2.1⟩) (fun o h => by
    have : ow_ (150 + ci) = none := by
      unfold ow_
      rw [if_neg (by omega), if_neg (by omega), if_neg (by omega)]
    rw [this] at h
    cases h)
  have he : ce_ cA (aq_ ad (150 + ci) i q) (nu_ T (150 + ci) i 0 (fun _ => 0)) (150 + ci) i = .inr (ci, rw_fs ci ad i) := by
    rw [ce_rw h4]
    unfold rw_fs
    have e2 : ((tf_ (150 + ci)).zipIdx.map fun z => en_v (aq_ ad (150 + ci) i q) (fv_ z.1.1 z.1.2.1 (nu_ T (150 + ci) i 0 (fun _ => 0) (150 + ci) i (z.2 : Int)) i)) = (tf_ (150 + ci)).zipIdx.map fun z => en_v ad (fv_ z.1.1 z.1.2.1 0 i) := by
      apply List.map_congr_left
      rintro ⟨⟨c, k', lo, hi⟩, j⟩ hq
      rw [nu_p (by omega)]
      exact (hv j c k' lo hi (zi_at hq)).2.2.2 _
    rw [e2]
  have k2 := j_nu (l := l) (e := e) (below := below) (pc' := pc + 3) X kk (cells := cells + 1) (slots := slots + N) (by omega) (by omega) (by omega) hfr (nu_a hfr) al_nu hok hids he hP1 hD1 hS1 hB hT hL hl hln
  rw [show (pc + 3).toNat = pc.toNat + 3 by omega] at k2
  exact k2
end JN
