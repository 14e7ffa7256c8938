abbrev cX5_readStatement : ByteArray := prog_7_method_3_code
def yX5_readStatement : MethodName := ⟨RX5, "readStatement", "()Z"⟩
def zX5_readStatement : Zm := (RX5, cX5_readStatement, 3, (some .boolean), { frames := 6, cells := 0, slots := 0, locals := 133 })
theorem bk_X5_readStatement_124 : ck_ fX5 (some .boolean) cX5_readStatement 124 [.iload 2, .ifCond .ne 130, .iconst 0, .ireturn] 130 = true := qck_r (nn_ _) (by decide +kernel)
theorem bs_X5_readStatement_124 {P : Zt → Option Zv → Prop} (K : Int → Zl → List Zv → Zt → Prop) : sx_ K P [.iload 2, .ifCond .ne 130, .iconst 0, .ireturn] 130 = x_iload 2 (x_ifCond .ne 130 K (x_iconst 0 (x_ireturn P))) := ((xe_iload 2).trans (congrArg (x_iload 2) ((xe_ifCond .ne 130).trans (congrArg (x_ifCond .ne 130 K) ((xe_iconst 0).trans (congrArg (x_iconst 0) (xe_ireturn)))))))
theorem bk_X5_readStatement_130 : ck_ fX5 (some .boolean) cX5_readStatement 130 [.aload 0] 131 = true := qck_r (nn_ _) (by decide +kernel)
theorem bs_X5_readStatement_130 {P : Zt → Option Zv → Prop} (K : Int → Zl → List Zv → Zt → Prop) : sx_ K P [.aload 0] 131 = x_aload 0 (K 131) := ((xe_aload 0).trans (congrArg (x_aload 0) xe_nil))
theorem bk_X5_readStatement_134 : ck_ fX5 (some .boolean) cX5_readStatement 134 [.aload 0, .iconst 3] 136 = true := qck_r (nn_ _) (by decide +kernel)
theorem bs_X5_readStatement_134 {P : Zt → Option Zv → Prop} (K : Int → Zl → List Zv → Zt → Prop) : sx_ K P [.aload 0, .iconst 3] 136 = x_aload 0 (x_iconst 3 (K 136)) := ((xe_aload 0).trans (congrArg (x_aload 0) ((xe_iconst 3).trans (congrArg (x_iconst 3) xe_nil))))
theorem bk_X5_readStatement_139 : ck_ fX5 (some .boolean) cX5_readStatement 139 [.ireturn] 140 = true := qck_r (nn_ _) (by decide +kernel)
theorem bs_X5_readStatement_139 {P : Zt → Option Zv → Prop} (K : Int → Zl → List Zv → Zt → Prop) : sx_ K P [.ireturn] 140 = x_ireturn P := (xe_ireturn)
theorem bk_X5_readStatement_0 : ck_ fX5 (some .boolean) cX5_readStatement 0 [.aload 0] 1 = true := qck_r (nn_ _) (by decide +kernel)
theorem bs_X5_readStatement_0 {P : Zt → Option Zv → Prop} (K : Int → Zl → List Zv → Zt → Prop) : sx_ K P [.aload 0] 1 = x_aload 0 (K 1) := ((xe_aload 0).trans (congrArg (x_aload 0) xe_nil))
theorem bk_X5_readStatement_6 : ck_ fX5 (some .boolean) cX5_readStatement 6 [.istore 1, .iload 1, .iconst (-1), .if_icmp .ne 14, .iconst 0, .ireturn] 14 = true := qck_r (nn_ _) (by decide +kernel)
theorem bs_X5_readStatement_6 {P : Zt → Option Zv → Prop} (K : Int → Zl → List Zv → Zt → Prop) : sx_ K P [.istore 1, .iload 1, .iconst (-1), .if_icmp .ne 14, .iconst 0, .ireturn] 14 = x_istore 1 (x_iload 1 (x_iconst (-1) (x_if_icmp .ne 14 K (x_iconst 0 (x_ireturn P))))) := ((xe_istore 1).trans (congrArg (x_istore 1) ((xe_iload 1).trans (congrArg (x_iload 1) ((xe_iconst (-1)).trans (congrArg (x_iconst (-1)) ((xe_if_icmp .ne 14).trans (congrArg (x_if_icmp .ne 14 K) ((xe_iconst 0).trans (congrArg (x_iconst 0) (xe_ireturn)))))))))))
theorem bk_X5_readStatement_14 : ck_ fX5 (some .boolean) cX5_readStatement 14 [.aload 0, .tableswitch 0 5 6 #[], .iload 1, .ishr, .iconst 1, .iand, .ifCond .eq 31, .aload 0, .iconst 5] 27 = true := qck_r (nn_ _) (by decide +kernel)
theorem bs_X5_readStatement_14 {P : Zt → Option Zv → Prop} (K : Int → Zl → List Zv → Zt → Prop) : sx_ K P [.aload 0, .tableswitch 0 5 6 #[], .iload 1, .ishr, .iconst 1, .iand, .ifCond .eq 31, .aload 0, .iconst 5] 27 = x_aload 0 (x_g0 105 6 (-2147483648) 2147483647 (x_iload 1 (x_ishr (x_iconst 1 (x_iand (x_ifCond .eq 31 K (x_aload 0 (x_iconst 5 (K 27))))))))) := ((xe_aload 0).trans (congrArg (x_aload 0) ((xe_g0 (kk := 105) rfl tl_5_6).trans (congrArg (x_g0 105 6 (-2147483648) 2147483647) ((xe_iload 1).trans (congrArg (x_iload 1) ((xe_ishr).trans (congrArg (x_ishr) ((xe_iconst 1).trans (congrArg (x_iconst 1) ((xe_iand).trans (congrArg (x_iand) ((xe_ifCond .eq 31).trans (congrArg (x_ifCond .eq 31 K) ((xe_aload 0).trans (congrArg (x_aload 0) ((xe_iconst 5).trans (congrArg (x_iconst 5) xe_nil))))))))))))))))))
theorem bk_X5_readStatement_31 : ck_ fX5 (some .boolean) cX5_readStatement 31 [.aload 0, .dup, .tableswitch 0 5 6 #[], .iconst 1, .iload 1, .ishl, .ior, .tableswitch 1 5 6 #[], .iload 1] 44 = true := qck_r (nn_ _) (by decide +kernel)
theorem bs_X5_readStatement_31 {P : Zt → Option Zv → Prop} (K : Int → Zl → List Zv → Zt → Prop) : sx_ K P [.aload 0, .dup, .tableswitch 0 5 6 #[], .iconst 1, .iload 1, .ishl, .ior, .tableswitch 1 5 6 #[], .iload 1] 44 = x_aload 0 (x_dup (x_g0 105 6 (-2147483648) 2147483647 (x_iconst 1 (x_iload 1 (x_ishl (x_ior (x_p 105 6 (-2147483648) 2147483647 (x_iload 1 (K 44))))))))) := ((xe_aload 0).trans (congrArg (x_aload 0) ((xe_dup).trans (congrArg (x_dup) ((xe_g0 (kk := 105) rfl tl_5_6).trans (congrArg (x_g0 105 6 (-2147483648) 2147483647) ((xe_iconst 1).trans (congrArg (x_iconst 1) ((xe_iload 1).trans (congrArg (x_iload 1) ((xe_ishl).trans (congrArg (x_ishl) ((xe_ior).trans (congrArg (x_ior) ((xe_p (kk := 105) rfl tl_5_6).trans (congrArg (x_p 105 6 (-2147483648) 2147483647) ((xe_iload 1).trans (congrArg (x_iload 1) xe_nil))))))))))))))))))
theorem ds_X5_readStatement_44 : decode cX5_readStatement 44 = .ok (.tableswitch 65 0 3 #[32, 40, 48, 53], 32) := by decide +kernel
theorem bk_X5_readStatement_76 : ck_ fX5 (some .boolean) cX5_readStatement 76 [.aload 0] 77 = true := qck_r (nn_ _) (by decide +kernel)
theorem bs_X5_readStatement_76 {P : Zt → Option Zv → Prop} (K : Int → Zl → List Zv → Zt → Prop) : sx_ K P [.aload 0] 77 = x_aload 0 (K 77) := ((xe_aload 0).trans (congrArg (x_aload 0) xe_nil))
set_option maxRecDepth 100000 in
theorem cl_X5_63 : cv_ RX5 63 yX5_readSport zX5_readSport 5 0 := ⟨gi_V (lw_b3 43 (by decide +kernel) rfl : Cond.methodLink RX5 63 yX5_readSport ∈ lw_g) (lw_b3 45 (by decide +kernel) rfl : Cond.instanceMethod yX5_readSport ∈ lw_g) (lw_sel 115 rfl : Cond.selects yX5_readSport.cls yX5_readSport yX5_readSport ∈ lw_g) (lw_b1 2 (by decide +kernel) rfl : Cond.initialized yX5_readSport.cls ∈ lw_g) (lw_b3 46 rfl rfl : Cond.code yX5_readSport cX5_readSport 2 (some .boolean) ∈ lw_g), ⟨by decide, by decide, by decide +kernel⟩, ⟨_, _, rfl⟩⟩
theorem bk_X5_readStatement_80 : ck_ fX5 (some .boolean) cX5_readStatement 80 [.istore 2, .goto 124] 84 = true := qck_r (nn_ _) (by decide +kernel)
theorem bs_X5_readStatement_80 {P : Zt → Option Zv → Prop} (K : Int → Zl → List Zv → Zt → Prop) : sx_ K P [.istore 2, .goto 124] 84 = x_istore 2 (x_goto 124 K) := ((xe_istore 2).trans (congrArg (x_istore 2) (xe_goto 124)))
theorem bk_X5_readStatement_84 : ck_ fX5 (some .boolean) cX5_readStatement 84 [.aload 0] 85 = true := qck_r (nn_ _) (by decide +kernel)
theorem bs_X5_readStatement_84 {P : Zt → Option Zv → Prop} (K : Int → Zl → List Zv → Zt → Prop) : sx_ K P [.aload 0] 85 = x_aload 0 (K 85) := ((xe_aload 0).trans (congrArg (x_aload 0) xe_nil))
set_option maxRecDepth 100000 in
theorem cl_X5_66 : cv_ RX5 66 yX5_readPoints zX5_readPoints 5 0 := ⟨gi_V (lw_b3 48 (by decide +kernel) rfl : Cond.methodLink RX5 66 yX5_readPoints ∈ lw_g) (lw_b3 50 (by decide +kernel) rfl : Cond.instanceMethod yX5_readPoints ∈ lw_g) (lw_sel 113 rfl : Cond.selects yX5_readPoints.cls yX5_readPoints yX5_readPoints ∈ lw_g) (lw_b1 2 (by decide +kernel) rfl : Cond.initialized yX5_readPoints.cls ∈ lw_g) (lw_b3 51 rfl rfl : Cond.code yX5_readPoints cX5_readPoints 1 (some .boolean) ∈ lw_g), ⟨by decide, by decide, by decide +kernel⟩, ⟨_, _, rfl⟩⟩
theorem bk_X5_readStatement_88 : ck_ fX5 (some .boolean) cX5_readStatement 88 [.istore 2, .goto 124] 92 = true := qck_r (nn_ _) (by decide +kernel)
theorem bs_X5_readStatement_88 {P : Zt → Option Zv → Prop} (K : Int → Zl → List Zv → Zt → Prop) : sx_ K P [.istore 2, .goto 124] 92 = x_istore 2 (x_goto 124 K) := ((xe_istore 2).trans (congrArg (x_istore 2) (xe_goto 124)))
theorem bk_X5_readStatement_92 : ck_ fX5 (some .boolean) cX5_readStatement 92 [.aload 0] 93 = true := qck_r (nn_ _) (by decide +kernel)
theorem bs_X5_readStatement_92 {P : Zt → Option Zv → Prop} (K : Int → Zl → List Zv → Zt → Prop) : sx_ K P [.aload 0] 93 = x_aload 0 (K 93) := ((xe_aload 0).trans (congrArg (x_aload 0) xe_nil))
set_option maxRecDepth 100000 in
theorem cl_X5_69 : cv_ RX5 69 yX5_readOrder zX5_readOrder 5 0 := ⟨gi_V (lw_b3 60 (by decide +kernel) rfl : Cond.methodLink RX5 69 yX5_readOrder ∈ lw_g) (lw_b3 62 (by decide +kernel) rfl : Cond.instanceMethod yX5_readOrder ∈ lw_g) (lw_sel 112 rfl : Cond.selects yX5_readOrder.cls yX5_readOrder yX5_readOrder ∈ lw_g) (lw_b1 2 (by decide +kernel) rfl : Cond.initialized yX5_readOrder.cls ∈ lw_g) (lw_b3 63 rfl rfl : Cond.code yX5_readOrder cX5_readOrder 4 (some .boolean) ∈ lw_g), ⟨by decide, by decide, by decide +kernel⟩, ⟨_, _, rfl⟩⟩
theorem bk_X5_readStatement_96 : ck_ fX5 (some .boolean) cX5_readStatement 96 [.ireturn] 97 = true := qck_r (nn_ _) (by decide +kernel)
theorem bs_X5_readStatement_96 {P : Zt → Option Zv → Prop} (K : Int → Zl → List Zv → Zt → Prop) : sx_ K P [.ireturn] 97 = x_ireturn P := (xe_ireturn)
theorem bk_X5_readStatement_97 : ck_ fX5 (some .boolean) cX5_readStatement 97 [.aload 0, .tableswitch 0 5 4 #[], .iconst 5, .iconst 1, .iastore, .iconst 1, .istore 2, .goto 124] 109 = true := qck_r (nn_ _) (by decide +kernel)
theorem bs_X5_readStatement_97 {P : Zt → Option Zv → Prop} (K : Int → Zl → List Zv → Zt → Prop) : sx_ K P [.aload 0, .tableswitch 0 5 4 #[], .iconst 5, .iconst 1, .iastore, .iconst 1, .istore 2, .goto 124] 109 = x_aload 0 (x_g1 105 504 (x_iconst 5 (x_iconst 1 (x_iastore (x_iconst 1 (x_istore 2 (x_goto 124 K))))))) := ((xe_aload 0).trans (congrArg (x_aload 0) ((xe_g1 (kk := 105) rfl tl_5_4).trans (congrArg (x_g1 105 504) ((xe_iconst 5).trans (congrArg (x_iconst 5) ((xe_iconst 1).trans (congrArg (x_iconst 1) ((xe_iastore).trans (congrArg (x_iastore) ((xe_iconst 1).trans (congrArg (x_iconst 1) ((xe_istore 2).trans (congrArg (x_istore 2) (xe_goto 124)))))))))))))))
theorem bk_X5_readStatement_109 : ck_ fX5 (some .boolean) cX5_readStatement 109 [.aload 0, .iload 1, .iconst 2, .iadd] 113 = true := qck_r (nn_ _) (by decide +kernel)
theorem bs_X5_readStatement_109 {P : Zt → Option Zv → Prop} (K : Int → Zl → List Zv → Zt → Prop) : sx_ K P [.aload 0, .iload 1, .iconst 2, .iadd] 113 = x_aload 0 (x_iload 1 (x_iconst 2 (x_iadd (K 113)))) := ((xe_aload 0).trans (congrArg (x_aload 0) ((xe_iload 1).trans (congrArg (x_iload 1) ((xe_iconst 2).trans (congrArg (x_iconst 2) ((xe_iadd).trans (congrArg (x_iadd) xe_nil))))))))
theorem bk_X5_readStatement_116 : ck_ fX5 (some .boolean) cX5_readStatement 116 [.iload 1, .iconst 2, .iadd] 119 = true := qck_r (nn_ _) (by decide +kernel)
theorem bs_X5_readStatement_116 {P : Zt → Option Zv → Prop} (K : Int → Zl → List Zv → Zt → Prop) : sx_ K P [.iload 1, .iconst 2, .iadd] 119 = x_iload 1 (x_iconst 2 (x_iadd (K 119))) := ((xe_iload 1).trans (congrArg (x_iload 1) ((xe_iconst 2).trans (congrArg (x_iconst 2) ((xe_iadd).trans (congrArg (x_iadd) xe_nil))))))
theorem bk_X5_readStatement_123 : ck_ fX5 (some .boolean) cX5_readStatement 123 [.istore 2] 124 = true := qck_r (nn_ _) (by decide +kernel)
theorem bs_X5_readStatement_123 {P : Zt → Option Zv → Prop} (K : Int → Zl → List Zv → Zt → Prop) : sx_ K P [.istore 2] 124 = x_istore 2 (K 124) := ((xe_istore 2).trans (congrArg (x_istore 2) xe_nil))
theorem bk_X5_readStatement_30 : ck_ fX5 (some .boolean) cX5_readStatement 30 [.ireturn] 31 = true := qck_r (nn_ _) (by decide +kernel)
theorem bs_X5_readStatement_30 {P : Zt → Option Zv → Prop} (K : Int → Zl → List Zv → Zt → Prop) : sx_ K P [.ireturn] 31 = x_ireturn P := (xe_ireturn)
abbrev po_X5_readStatement (T : Zt) : Zt → Option Zv → Prop := fun T' r => ∃ x : Int, r = some (vI x) ∧ fr_ [(105, [7, 8, 9, 2, 3, 6]), (504, []), (505, [])] T T' ∧ ((0 ≤ x ∧ x ≤ 1) ∧ (x = 1 → VC8_ T'))
set_option maxHeartbeats 4000000 in
theorem ct_X5_readStatement {T : Zt} (hvc : VC8_ T) : Ct_ yX5_readStatement zX5_readStatement T [vR 105 0] (po_X5_readStatement T) := by
  refine ct_of pn_5 rfl rfl (Nat.le_of_ble_eq_true rfl) (fun hT hav => ?_)
  have hz : zX5_readStatement.2.2.2.1 = some .boolean → ∀ (T' : Zt) (x : Int), po_X5_readStatement T T' (some (vI x)) → 0 ≤ x ∧ x ≤ 1 := fun _ T' x h => by obtain ⟨y, e, -, hy, -⟩ := h; cases e; omega
  show J_ zX5_readStatement T (po_X5_readStatement T) 0 0 0 [some (vR 105 0), none, none] [] T
  have c_124 : ∀ (v : Int) (T2 : Zt), (fr_ [(105, [7, 8, 9, 2, 3, 6]), (504, []), (505, [])] T T2) → (0 ≤ v ∧ v ≤ 1) → (v = 1 → VC8_ T2) → J_ zX5_readStatement T (po_X5_readStatement T) 0 0 124 [some (vR 105 0), none, some (vI v)] [] T2 := by
    intro v T2 hf_124 i2 vc2
    refine j_blx (F := fX5) tb_X5 (nn_ _) bk_X5_readStatement_124 bs_X5_readStatement_124 hz (fun K hK => ?_)
    refine And.intro (fun c1 => ?_) (fun c1 => ?_)
    · refine hK 130 _ [] T2 ?_
      refine j_blx (F := fX5) tb_X5 (nn_ _) bk_X5_readStatement_130 bs_X5_readStatement_130 hz (fun K hK => ?_)
      refine hK 131 _ [vR 105 0] T2 ?_
      refine j_callV (y := yX5_nextToken) (Yc := zX5_nextToken) (rest := []) [] (ct_X5_nextToken (T := T2)) cl_X5_43 (qd_c (by decide +kernel)) (nn_ _) rfl (rf_of rfl) (Nat.le_of_ble_eq_true rfl) (Nat.le_of_ble_eq_true rfl) (Nat.le_of_ble_eq_true rfl) rfl ?_
      rintro U2 _ ⟨rfl, fU2, qU2⟩
      show J_ zX5_readStatement T (po_X5_readStatement T) 0 0 134 _ [] U2
      refine j_blx (F := fX5) tb_X5 (nn_ _) bk_X5_readStatement_134 bs_X5_readStatement_134 hz (fun K hK => ?_)
      refine hK 136 _ [vI 3, vR 105 0] U2 ?_
      refine j_callV (y := yX5_isOfKind) (Yc := zX5_isOfKind) (rest := []) [vI 3] (ct_X5_isOfKind (T := U2)) cl_X5_79 (qd_c (by decide +kernel)) (nn_ _) rfl (rf_of rfl) (Nat.le_of_ble_eq_true rfl) (Nat.le_of_ble_eq_true rfl) (Nat.le_of_ble_eq_true rfl) rfl ?_
      rintro U3 _ ⟨x4, rfl, fU3, qU3⟩
      show J_ zX5_readStatement T (po_X5_readStatement T) 0 0 139 _ [vI x4] U3
      refine j_blx (F := fX5) tb_X5 (nn_ _) bk_X5_readStatement_139 bs_X5_readStatement_139 hz (fun K hK => ?_)
      refine (show po_X5_readStatement T U3 (some (vI x4)) from ?_)
      exact ⟨_, rfl, fr_t (fr_t (fr_t (fr_0 _ _) (fr_s hf_124 rfl)) (fr_s fU2 rfl)) (fr_s fU3 rfl), by omega, fun _ => VC8_f (vc2 (by omega)) (show fr_ [(105, [7, 8, 9, 2, 3, 6])] T2 U3 from fr_t (fr_t (fr_0 _ _) (fr_s fU2 rfl)) (fr_s fU3 rfl)) (fun _ => rfl)⟩
    · refine (show po_X5_readStatement T T2 (some (vI 0)) from ?_)
      exact ⟨_, rfl, fr_t (fr_0 _ _) (fr_s hf_124 rfl), by omega, fun h => by omega⟩
  refine j_blx (F := fX5) tb_X5 (nn_ _) bk_X5_readStatement_0 bs_X5_readStatement_0 hz (fun K hK => ?_)
  refine hK 1 _ [vR 105 0] T ?_
  refine j_ldcS (pc := 1) (i := 0) (by decide) rfl (by decide) rfl (by decide +kernel) ?_
  show J_ zX5_readStatement T (po_X5_readStatement T) 0 0 3 _ [vR 82 0, vR 105 0] T
  refine j_callV (y := yX5_wordOf) (Yc := zX5_wordOf) (rest := []) [vR 82 0] (ct_X5_wordOf_0 (T := T)) cl_X5_55 (qd_c (by decide +kernel)) (nn_ _) rfl (rf_of rfl) (Nat.le_of_ble_eq_true rfl) (Nat.le_of_ble_eq_true rfl) (Nat.le_of_ble_eq_true rfl) rfl ?_
  rintro U5 _ ⟨x6, rfl, fU5, qU5⟩
  show J_ zX5_readStatement T (po_X5_readStatement T) 0 0 6 _ [vI x6] U5
  refine j_blx (F := fX5) tb_X5 (nn_ _) bk_X5_readStatement_6 bs_X5_readStatement_6 hz (fun K hK => ?_)
  refine And.intro (fun c7 => ?_) (fun c7 => ?_)
  · refine hK 14 [some (vR 105 0), some (vI x6), none] [] U5 ?_
    refine j_blx (F := fX5) tb_X5 (nn_ _) bk_X5_readStatement_14 bs_X5_readStatement_14 hz (fun K hK => ?_)
    intro b8 b8b
    have e9 : U5 105 0 6 = T 105 0 6 := fU5 105 0 6 rfl
    rw [e9] at b8 b8b ⊢
    intro w10 w10b
    intro w11 w11b
    refine And.intro (fun c12 => ?_) (fun c12 => ?_)
    · refine hK 31 _ [] U5 ?_
      refine j_blx (F := fX5) tb_X5 (nn_ _) bk_X5_readStatement_31 bs_X5_readStatement_31 hz (fun K hK => ?_)
      intro b13 b13b
      have e14 : U5 105 0 6 = T 105 0 6 := fU5 105 0 6 rfl
      rw [e14] at b13 b13b ⊢
      intro w15 w15b
      intro w16 w16b
      refine bd_i (by omega) ?_
      refine x_nm (fun U17 hU17 => ?_)
      have e18 := up_f hU17
      refine hK 44 _ [vI x6] U17 ?_
      by_cases z19_0 : x6 = 0
      · refine j_tsI (pc := 44) 0 (off := 32) (tgt := 76) (by decide) ds_X5_readStatement_44 (by omega) (by decide) rfl (by decide) (by decide) ?_
        refine j_blx (F := fX5) tb_X5 (nn_ _) bk_X5_readStatement_76 bs_X5_readStatement_76 hz (fun K hK => ?_)
        refine hK 77 _ [vR 105 0] U17 ?_
        refine j_callV (y := yX5_readSport) (Yc := zX5_readSport) (rest := []) [] (ct_X5_readSport (T := U17) (VC8_f hvc (show fr_ [(105, [7, 8, 9, 2, 3, 6])] T U17 from fr_u (fr_t (fr_0 _ _) (fr_s fU5 rfl)) hU17 rfl) (fun _ => rfl))) cl_X5_63 (qd_c (by decide +kernel)) (nn_ _) rfl (rf_of rfl) (Nat.le_of_ble_eq_true rfl) (Nat.le_of_ble_eq_true rfl) (Nat.le_of_ble_eq_true rfl) rfl ?_
        rintro U20 _ ⟨x21, rfl, fU20, hx21, qU20⟩
        show J_ zX5_readStatement T (po_X5_readStatement T) 0 0 80 _ [vI x21] U20
        refine j_blx (F := fX5) tb_X5 (nn_ _) bk_X5_readStatement_80 bs_X5_readStatement_80 hz (fun K hK => ?_)
        refine hK 124 [some (vR 105 0), some (vI x6), some (vI x21)] [] U20 ?_
        refine j_drop [some (vR 105 0), none, some (vI x21)] (fun k v hk => ?_) rfl ?_
        · match k, hk with
          | 0, hk => exact hk
          | 1, hk => cases hk
          | 2, hk => exact hk
          | k + 3, hk => cases hk
        refine c_124 x21 U20 ?_ ?_ ?_
        · exact fr_t (fr_u (fr_t (fr_0 _ _) (fr_s fU5 rfl)) hU17 rfl) (fr_s fU20 rfl)
        · omega
        · exact qU20
      by_cases z19_1 : x6 = 1
      · refine j_tsI (pc := 44) 1 (off := 40) (tgt := 84) (by decide) ds_X5_readStatement_44 (by omega) (by decide) rfl (by decide) (by decide) ?_
        refine j_blx (F := fX5) tb_X5 (nn_ _) bk_X5_readStatement_84 bs_X5_readStatement_84 hz (fun K hK => ?_)
        refine hK 85 _ [vR 105 0] U17 ?_
        refine j_callV (y := yX5_readPoints) (Yc := zX5_readPoints) (rest := []) [] (ct_X5_readPoints (T := U17) (VC8_f hvc (show fr_ [(105, [7, 8, 9, 2, 3, 6])] T U17 from fr_u (fr_t (fr_0 _ _) (fr_s fU5 rfl)) hU17 rfl) (fun _ => rfl))) cl_X5_66 (qd_c (by decide +kernel)) (nn_ _) rfl (rf_of rfl) (Nat.le_of_ble_eq_true rfl) (Nat.le_of_ble_eq_true rfl) (Nat.le_of_ble_eq_true rfl) rfl ?_
        rintro U22 _ ⟨x23, rfl, fU22, hx23, qU22⟩
        show J_ zX5_readStatement T (po_X5_readStatement T) 0 0 88 _ [vI x23] U22
        refine j_blx (F := fX5) tb_X5 (nn_ _) bk_X5_readStatement_88 bs_X5_readStatement_88 hz (fun K hK => ?_)
        refine hK 124 [some (vR 105 0), some (vI x6), some (vI x23)] [] U22 ?_
        refine j_drop [some (vR 105 0), none, some (vI x23)] (fun k v hk => ?_) rfl ?_
        · match k, hk with
          | 0, hk => exact hk
          | 1, hk => cases hk
          | 2, hk => exact hk
          | k + 3, hk => cases hk
        refine c_124 x23 U22 ?_ ?_ ?_
        · exact fr_t (fr_u (fr_t (fr_0 _ _) (fr_s fU5 rfl)) hU17 rfl) (fr_s fU22 rfl)
        · omega
        · exact qU22
      by_cases z19_2 : x6 = 2
      · refine j_tsI (pc := 44) 2 (off := 48) (tgt := 92) (by decide) ds_X5_readStatement_44 (by omega) (by decide) rfl (by decide) (by decide) ?_
        refine j_blx (F := fX5) tb_X5 (nn_ _) bk_X5_readStatement_92 bs_X5_readStatement_92 hz (fun K hK => ?_)
        refine hK 93 _ [vR 105 0] U17 ?_
        refine j_callV (y := yX5_readOrder) (Yc := zX5_readOrder) (rest := []) [] (ct_X5_readOrder (T := U17) (VC8_f hvc (show fr_ [(105, [7, 8, 9, 2, 3, 6])] T U17 from fr_u (fr_t (fr_0 _ _) (fr_s fU5 rfl)) hU17 rfl) (fun _ => rfl))) cl_X5_69 (qd_c (by decide +kernel)) (nn_ _) rfl (rf_of rfl) (Nat.le_of_ble_eq_true rfl) (Nat.le_of_ble_eq_true rfl) (Nat.le_of_ble_eq_true rfl) rfl ?_
        rintro U24 _ ⟨x25, rfl, fU24, hx25, qU24⟩
        show J_ zX5_readStatement T (po_X5_readStatement T) 0 0 96 _ [vI x25] U24
        refine j_blx (F := fX5) tb_X5 (nn_ _) bk_X5_readStatement_96 bs_X5_readStatement_96 hz (fun K hK => ?_)
        refine (show po_X5_readStatement T U24 (some (vI x25)) from ?_)
        exact ⟨_, rfl, fr_t (fr_u (fr_t (fr_0 _ _) (fr_s fU5 rfl)) hU17 rfl) (fr_s fU24 rfl), by omega, qU24⟩
      by_cases z19_3 : x6 = 3
      · refine j_tsI (pc := 44) 3 (off := 53) (tgt := 97) (by decide) ds_X5_readStatement_44 (by omega) (by decide) rfl (by decide) (by decide) ?_
        refine j_blx (F := fX5) tb_X5 (nn_ _) bk_X5_readStatement_97 bs_X5_readStatement_97 hz (fun K hK => ?_)
        refine iy_i (by omega) (by omega) ?_
        refine x_nm (fun U26 hU26 => ?_)
        have e27 := up_f hU26
        refine hK 124 [some (vR 105 0), some (vI x6), some (vI 1)] [] U26 ?_
        refine j_drop [some (vR 105 0), none, some (vI 1)] (fun k v hk => ?_) rfl ?_
        · match k, hk with
          | 0, hk => exact hk
          | 1, hk => cases hk
          | 2, hk => exact hk
          | k + 3, hk => cases hk
        refine c_124 1 U26 ?_ ?_ ?_
        · exact fr_u (fr_u (fr_t (fr_0 _ _) (fr_s fU5 rfl)) hU17 rfl) hU26 rfl
        · omega
        · intro _
          have g0 := VC8_f hvc (show fr_ [(105, [7, 8, 9, 2, 3, 6])] T U17 from fr_u (fr_t (fr_0 _ _) (fr_s fU5 rfl)) hU17 rfl) (fun _ => rfl)
          exact ⟨VB8_u g0.1 hU26 ⟨by decide, by decide⟩, by rw [up_g hU26 (fun z => by omega), up_g hU26 (fun z => by omega)]; exact g0.2⟩
      refine j_tsO (pc := 44) (tgt := 109) (by decide) ds_X5_readStatement_44 (by omega) (by decide) (by decide) ?_
      refine j_blx (F := fX5) tb_X5 (nn_ _) bk_X5_readStatement_109 bs_X5_readStatement_109 hz (fun K hK => ?_)
      refine rg_i (by omega) ?_
      refine hK 113 _ [vI (x6 + 2), vR 105 0] U17 ?_
      refine j_gs81 (pc := 113) (i := 2) (by decide) (by decide) (lw_b3 52 (by decide +kernel) rfl : Cond.fieldLink RX5 72 "SportsHouse$RuleText" (sn_ 2) "[I" ∈ lw_g) (by decide +kernel) ?_
      show J_ zX5_readStatement T (po_X5_readStatement T) 0 0 116 _ [vR 81 2, vI (x6 + 2), vR 105 0] U17
      refine j_blx (F := fX5) tb_X5 (nn_ _) bk_X5_readStatement_116 bs_X5_readStatement_116 hz (fun K hK => ?_)
      refine rg_i (by omega) ?_
      refine hK 119 _ [vI (x6 + 2), vR 81 2, vI (x6 + 2), vR 105 0] U17 ?_
      refine j_ld81 (pc := 119) (i := 2) (by decide) (by decide) (by omega) (by omega) (by decide +kernel) ?_
      have y28 := sa_b 2 (by decide) (x6 + 2).toNat (by omega)
      show J_ zX5_readStatement T (po_X5_readStatement T) 0 0 120 _ [vI ((sa_ 2).getD (x6 + 2).toNat 0), vI (x6 + 2), vR 105 0] U17
      refine j_callV (y := yX5_readRule) (Yc := zX5_readRule) (rest := []) [vI (x6 + 2), vI ((sa_ 2).getD (x6 + 2).toNat 0)] (ct_X5_readRule (T := U17) (by omega) (Int.le_refl _) (VC8_f hvc (show fr_ [(105, [7, 8, 9, 2, 3, 6])] T U17 from fr_u (fr_t (fr_0 _ _) (fr_s fU5 rfl)) hU17 rfl) (fun _ => rfl)).1) cl_X5_75 (qd_c (by decide +kernel)) (nn_ _) rfl (rf_of rfl) (Nat.le_of_ble_eq_true rfl) (Nat.le_of_ble_eq_true rfl) (Nat.le_of_ble_eq_true rfl) rfl ?_
      rintro U29 _ ⟨x30, rfl, fU29, hx30, qU29⟩
      show J_ zX5_readStatement T (po_X5_readStatement T) 0 0 123 _ [vI x30] U29
      refine j_blx (F := fX5) tb_X5 (nn_ _) bk_X5_readStatement_123 bs_X5_readStatement_123 hz (fun K hK => ?_)
      refine hK 124 [some (vR 105 0), some (vI x6), some (vI x30)] [] U29 ?_
      refine j_drop [some (vR 105 0), none, some (vI x30)] (fun k v hk => ?_) rfl ?_
      · match k, hk with
        | 0, hk => exact hk
        | 1, hk => cases hk
        | 2, hk => exact hk
        | k + 3, hk => cases hk
      refine c_124 x30 U29 ?_ ?_ ?_
      · exact fr_t (fr_u (fr_t (fr_0 _ _) (fr_s fU5 rfl)) hU17 rfl) (fr_s fU29 rfl)
      · omega
      · intro h
        obtain ⟨g1, g2, g3⟩ := qU29 h
        have g0 := VC8_f hvc (show fr_ [(105, [7, 8, 9, 2, 3, 6])] T U17 from fr_u (fr_t (fr_0 _ _) (fr_s fU5 rfl)) hU17 rfl) (fun _ => rfl)
        exact ⟨g1, by rw [g3 2 (by omega), g3 1 (by omega)]; exact g0.2⟩
    · refine hK 27 [some (vR 105 0), some (vI x6), none] [vI 5, vR 105 0] U5 ?_
      refine j_callV (y := yX5_fail) (Yc := zX5_fail) (rest := []) [vI 5] (ct_X5_fail (T := U5) (by omega)) cl_X5_59 (qd_c (by decide +kernel)) (nn_ _) rfl (rf_of rfl) (Nat.le_of_ble_eq_true rfl) (Nat.le_of_ble_eq_true rfl) (Nat.le_of_ble_eq_true rfl) rfl ?_
      rintro U31 _ ⟨x32, rfl, fU31, qU31⟩
      show J_ zX5_readStatement T (po_X5_readStatement T) 0 0 30 _ [vI x32] U31
      refine j_blx (F := fX5) tb_X5 (nn_ _) bk_X5_readStatement_30 bs_X5_readStatement_30 hz (fun K hK => ?_)
      refine (show po_X5_readStatement T U31 (some (vI x32)) from ?_)
      exact ⟨_, rfl, fr_t (fr_t (fr_0 _ _) (fr_s fU5 rfl)) (fr_s fU31 rfl), by omega, fun h => by omega⟩
  · refine (show po_X5_readStatement T U5 (some (vI 0)) from ?_)
    exact ⟨_, rfl, fr_t (fr_0 _ _) (fr_s fU5 rfl), by omega, fun h => by omega⟩
abbrev po_J7_fill_505 (T : Zt) (p : Int) (v : Int) : Zt → Option Zv → Prop := fun T' r => r = none ∧ fr_ [(505, [])] T T' ∧ oi_ T T' p ∧ ∀ j, 0 ≤ j → j < 7 → T' 505 p j = v
set_option maxHeartbeats 4000000 in
theorem ct_J7_fill_505 {T : Zt} {p : Int} {v : Int} (h1 : (-1) ≤ v ∧ v ≤ 6) : Ct_ yJ7_fill_53178 zJ7_fill_53178 T [vR 505 p, vI v] (po_J7_fill_505 T p v) := by
  refine ct_of (by decide) rfl rfl (Nat.le_of_ble_eq_true rfl) (fun hT hav => ?_)
  have hr_v : -2147483648 ≤ v ∧ v ≤ 2147483647 := hav (vI v) (by simp)
  have hz : zJ7_fill_53178.2.2.2.1 = some .boolean → ∀ (T' : Zt) (x : Int), po_J7_fill_505 T p v T' (some (vI x)) → 0 ≤ x ∧ x ≤ 1 := fun h => by cases h
  show J_ zJ7_fill_53178 T (po_J7_fill_505 T p v) 0 0 0 [some (vR 505 p), some (vI v), none, none] [] T
  have c_5 : ∀ (nn : Nat) (j : Int) (T1 : Zt), ((7 - j).toNat) ≤ nn → (fr_ [(505, [])] T T1) → (0 ≤ j ∧ j ≤ 7) → (oi_ T T1 p) → (∀ q, 0 ≤ q → q < j → T1 505 p q = v) → J_ zJ7_fill_53178 T (po_J7_fill_505 T p v) 0 0 5 [some (vR 505 p), some (vI v), some (vI j), some (vI 7)] [] T1 := by
    intro nn
    induction nn using Nat.strongRecOn with
    | _ nn ih_5 =>
      intro j T1 hm_5 hf_5 i1 o1 f1
      refine j_blx (F := fJ7) tb_J7 (nn_ _) bk_J7_fill_53178_5 bs_J7_fill_53178_5 hz (fun K hK => ?_)
      refine And.intro (fun c1 => ?_) (fun c1 => ?_)
      · refine hK 20 _ [] T1 ?_
        refine j_blx (F := fJ7) tb_J7 (nn_ _) bk_J7_fill_53178_20 bs_J7_fill_53178_20 hz (fun K hK => ?_)
        refine (show po_J7_fill_505 T p v T1 (none) from ?_)
        exact ⟨rfl, fr_t (fr_0 _ _) (fr_s hf_5 rfl), o1, fun q a b => f1 q a (by omega)⟩
      · refine iy_i (by omega) (by omega) ?_
        refine x_nm (fun U2 hU2 => ?_)
        have e3 := up_f hU2
        refine rg_i (by omega) ?_
        refine hK 5 [some (vR 505 p), some (vI v), some (vI (j + 1)), some (vI 7)] [] U2 ?_
        refine ih_5 _ ?_ (j + 1) U2 (Nat.le_refl _) ?_ ?_ ?_ ?_
        · omega
        · exact fr_u (fr_t (fr_0 _ _) (fr_s hf_5 rfl)) hU2 rfl
        · omega
        · exact oi_u o1 hU2
        · intro q a b
          by_cases z : q = j
          · rw [z]; exact up_f hU2
          · rw [up_g hU2 (fun y => z y.2.2)]; exact f1 q a (by omega)
  refine j_blx (F := fJ7) tb_J7 (nn_ _) bk_J7_fill_53178_0 bs_J7_fill_53178_0 hz (fun K hK => ?_)
  refine hK 5 [some (vR 505 p), some (vI v), some (vI 0), some (vI 7)] [] T ?_
  refine c_5 _ 0 T (Nat.le_refl _) ?_ ?_ ?_ ?_
  · exact fr_0 _ _
  · omega
  · exact oi_r
  · intro q a b; omega
abbrev cX5_read : ByteArray := prog_7_method_2_code
def yX5_read : MethodName := ⟨RX5, "read", "()Z"⟩
def zX5_read : Zm := (RX5, cX5_read, 2, (some .boolean), { frames := 7, cells := 0, slots := 0, locals := 155 })
theorem bk_X5_read_73 : ck_ fX5 (some .boolean) cX5_read 73 [.aload 0, .tableswitch 0 5 7 #[], .ifCond .eq 106, .iload 1, .iconst 400, .if_icmp .gt 106, .aload 0] 88 = true := qck_r (nn_ _) (by decide +kernel)
theorem bs_X5_read_73 {P : Zt → Option Zv → Prop} (K : Int → Zl → List Zv → Zt → Prop) : sx_ K P [.aload 0, .tableswitch 0 5 7 #[], .ifCond .eq 106, .iload 1, .iconst 400, .if_icmp .gt 106, .aload 0] 88 = x_aload 0 (x_g0 105 7 0 5 (x_ifCond .eq 106 K (x_iload 1 (x_iconst 400 (x_if_icmp .gt 106 K (x_aload 0 (K 88))))))) := ((xe_aload 0).trans (congrArg (x_aload 0) ((xe_g0 (kk := 105) rfl tl_5_7).trans (congrArg (x_g0 105 7 0 5) ((xe_ifCond .eq 106).trans (congrArg (x_ifCond .eq 106 K) ((xe_iload 1).trans (congrArg (x_iload 1) ((xe_iconst 400).trans (congrArg (x_iconst 400) ((xe_if_icmp .gt 106).trans (congrArg (x_if_icmp .gt 106 K) ((xe_aload 0).trans (congrArg (x_aload 0) xe_nil))))))))))))))
theorem bk_X5_read_106 : ck_ fX5 (some .boolean) cX5_read 106 [.iconst 1, .ireturn] 108 = true := qck_r (nn_ _) (by decide +kernel)
theorem bs_X5_read_106 {P : Zt → Option Zv → Prop} (K : Int → Zl → List Zv → Zt → Prop) : sx_ K P [.iconst 1, .ireturn] 108 = x_iconst 1 (x_ireturn P) := ((xe_iconst 1).trans (congrArg (x_iconst 1) (xe_ireturn)))
set_option maxRecDepth 100000 in
theorem cl_X5_49 : cv_ RX5 49 yX5_readStatement zX5_readStatement 5 0 := ⟨gi_V (lw_b2 218 (by decide +kernel) rfl : Cond.methodLink RX5 49 yX5_readStatement ∈ lw_g) (lw_b2 220 (by decide +kernel) rfl : Cond.instanceMethod yX5_readStatement ∈ lw_g) (lw_sel 116 rfl : Cond.selects yX5_readStatement.cls yX5_readStatement yX5_readStatement ∈ lw_g) (lw_b1 2 (by decide +kernel) rfl : Cond.initialized yX5_readStatement.cls ∈ lw_g) (lw_b2 221 rfl rfl : Cond.code yX5_readStatement cX5_readStatement 3 (some .boolean) ∈ lw_g), ⟨by decide, by decide, by decide +kernel⟩, ⟨_, _, rfl⟩⟩
theorem bk_X5_read_91 : ck_ fX5 (some .boolean) cX5_read 91 [.ifCond .ne 96, .iconst 0, .ireturn] 96 = true := qck_r (nn_ _) (by decide +kernel)
theorem bs_X5_read_91 {P : Zt → Option Zv → Prop} (K : Int → Zl → List Zv → Zt → Prop) : sx_ K P [.ifCond .ne 96, .iconst 0, .ireturn] 96 = x_ifCond .ne 96 K (x_iconst 0 (x_ireturn P)) := ((xe_ifCond .ne 96).trans (congrArg (x_ifCond .ne 96 K) ((xe_iconst 0).trans (congrArg (x_iconst 0) (xe_ireturn)))))
theorem bk_X5_read_96 : ck_ fX5 (some .boolean) cX5_read 96 [.aload 0] 97 = true := qck_r (nn_ _) (by decide +kernel)
theorem bs_X5_read_96 {P : Zt → Option Zv → Prop} (K : Int → Zl → List Zv → Zt → Prop) : sx_ K P [.aload 0] 97 = x_aload 0 (K 97) := ((xe_aload 0).trans (congrArg (x_aload 0) xe_nil))
theorem bk_X5_read_100 : ck_ fX5 (some .boolean) cX5_read 100 [.iinc 1 1, .goto 73] 106 = true := qck_r (nn_ _) (by decide +kernel)
theorem bs_X5_read_100 {P : Zt → Option Zv → Prop} (K : Int → Zl → List Zv → Zt → Prop) : sx_ K P [.iinc 1 1, .goto 73] 106 = x_iinc 1 1 (x_goto 73 K) := ((xe_iinc 1 1).trans (congrArg (x_iinc 1 1) (xe_goto 73)))
theorem bk_X5_read_22 : ck_ fX5 (some .boolean) cX5_read 22 [.iload 1, .iconst 16, .if_icmp .ge 45, .aload 0, .tableswitch 0 5 4 #[], .iload 1] 33 = true := qck_r (nn_ _) (by decide +kernel)
theorem bs_X5_read_22 {P : Zt → Option Zv → Prop} (K : Int → Zl → List Zv → Zt → Prop) : sx_ K P [.iload 1, .iconst 16, .if_icmp .ge 45, .aload 0, .tableswitch 0 5 4 #[], .iload 1] 33 = x_iload 1 (x_iconst 16 (x_if_icmp .ge 45 K (x_aload 0 (x_g1 105 504 (x_iload 1 (K 33)))))) := ((xe_iload 1).trans (congrArg (x_iload 1) ((xe_iconst 16).trans (congrArg (x_iconst 16) ((xe_if_icmp .ge 45).trans (congrArg (x_if_icmp .ge 45 K) ((xe_aload 0).trans (congrArg (x_aload 0) ((xe_g1 (kk := 105) rfl tl_5_4).trans (congrArg (x_g1 105 504) ((xe_iload 1).trans (congrArg (x_iload 1) xe_nil))))))))))))
theorem bk_X5_read_45 : ck_ fX5 (some .boolean) cX5_read 45 [.aload 0, .tableswitch 0 5 5 #[], .iconst (-1)] 50 = true := qck_r (nn_ _) (by decide +kernel)
theorem bs_X5_read_45 {P : Zt → Option Zv → Prop} (K : Int → Zl → List Zv → Zt → Prop) : sx_ K P [.aload 0, .tableswitch 0 5 5 #[], .iconst (-1)] 50 = x_aload 0 (x_g1 105 505 (x_iconst (-1) (K 50))) := ((xe_aload 0).trans (congrArg (x_aload 0) ((xe_g1 (kk := 105) rfl tl_5_5).trans (congrArg (x_g1 105 505) ((xe_iconst (-1)).trans (congrArg (x_iconst (-1)) xe_nil))))))
set_option maxRecDepth 100000 in
theorem cl_X5_37 : cs_ RX5 37 yJ7_fill_53178 zJ7_fill_53178 2 := ⟨gi_S (lw_b2 205 (by decide +kernel) rfl : Cond.methodLink RX5 37 yJ7_fill_53178 ∈ lw_g) (lw_b2 26 (by decide +kernel) rfl : Cond.static yJ7_fill_53178 ∈ lw_g) (lw_b1 7 (by decide +kernel) rfl : Cond.initialized yJ7_fill_53178.cls ∈ lw_g) (lw_b2 27 rfl rfl : Cond.code yJ7_fill_53178 cJ7_fill_53178 4 none ∈ lw_g), ⟨by decide, by decide, by decide +kernel⟩⟩
theorem bk_X5_read_53 : ck_ fX5 (some .boolean) cX5_read 53 [.aload 0, .tableswitch 0 5 5 #[], .iconst 0, .iconst 0, .iastore, .aload 0, .tableswitch 0 5 5 #[], .iconst 1, .iconst 1, .iastore, .aload 0] 68 = true := qck_r (nn_ _) (by decide +kernel)
theorem bs_X5_read_53 {P : Zt → Option Zv → Prop} (K : Int → Zl → List Zv → Zt → Prop) : sx_ K P [.aload 0, .tableswitch 0 5 5 #[], .iconst 0, .iconst 0, .iastore, .aload 0, .tableswitch 0 5 5 #[], .iconst 1, .iconst 1, .iastore, .aload 0] 68 = x_aload 0 (x_g1 105 505 (x_iconst 0 (x_iconst 0 (x_iastore (x_aload 0 (x_g1 105 505 (x_iconst 1 (x_iconst 1 (x_iastore (x_aload 0 (K 68))))))))))) := ((xe_aload 0).trans (congrArg (x_aload 0) ((xe_g1 (kk := 105) rfl tl_5_5).trans (congrArg (x_g1 105 505) ((xe_iconst 0).trans (congrArg (x_iconst 0) ((xe_iconst 0).trans (congrArg (x_iconst 0) ((xe_iastore).trans (congrArg (x_iastore) ((xe_aload 0).trans (congrArg (x_aload 0) ((xe_g1 (kk := 105) rfl tl_5_5).trans (congrArg (x_g1 105 505) ((xe_iconst 1).trans (congrArg (x_iconst 1) ((xe_iconst 1).trans (congrArg (x_iconst 1) ((xe_iastore).trans (congrArg (x_iastore) ((xe_aload 0).trans (congrArg (x_aload 0) xe_nil))))))))))))))))))))))
theorem bk_X5_read_71 : ck_ fX5 (some .boolean) cX5_read 71 [.iconst 0, .istore 1] 73 = true := qck_r (nn_ _) (by decide +kernel)
theorem bs_X5_read_71 {P : Zt → Option Zv → Prop} (K : Int → Zl → List Zv → Zt → Prop) : sx_ K P [.iconst 0, .istore 1] 73 = x_iconst 0 (x_istore 1 (K 73)) := ((xe_iconst 0).trans (congrArg (x_iconst 0) ((xe_istore 1).trans (congrArg (x_istore 1) xe_nil))))
theorem bk_X5_read_36 : ck_ fX5 (some .boolean) cX5_read 36 [.iload 1] 37 = true := qck_r (nn_ _) (by decide +kernel)
theorem bs_X5_read_36 {P : Zt → Option Zv → Prop} (K : Int → Zl → List Zv → Zt → Prop) : sx_ K P [.iload 1] 37 = x_iload 1 (K 37) := ((xe_iload 1).trans (congrArg (x_iload 1) xe_nil))
theorem bk_X5_read_38 : ck_ fX5 (some .boolean) cX5_read 38 [.iastore, .iinc 1 1, .goto 22] 45 = true := qck_r (nn_ _) (by decide +kernel)
theorem bs_X5_read_38 {P : Zt → Option Zv → Prop} (K : Int → Zl → List Zv → Zt → Prop) : sx_ K P [.iastore, .iinc 1 1, .goto 22] 45 = x_iastore (x_iinc 1 1 (x_goto 22 K)) := ((xe_iastore).trans (congrArg (x_iastore) ((xe_iinc 1 1).trans (congrArg (x_iinc 1 1) (xe_goto 22)))))
theorem bk_X5_read_0 : ck_ fX5 (some .boolean) cX5_read 0 [.aload 0, .iconst 0, .tableswitch 1 5 2 #[], .aload 0, .iconst (-1), .tableswitch 1 5 3 #[], .aload 0, .iconst 0, .tableswitch 1 5 6 #[], .aload 0, .iconst 0, .tableswitch 1 5 9 #[], .iconst 0, .istore 1] 22 = true := qck_r (nn_ _) (by decide +kernel)
theorem bs_X5_read_0 {P : Zt → Option Zv → Prop} (K : Int → Zl → List Zv → Zt → Prop) : sx_ K P [.aload 0, .iconst 0, .tableswitch 1 5 2 #[], .aload 0, .iconst (-1), .tableswitch 1 5 3 #[], .aload 0, .iconst 0, .tableswitch 1 5 6 #[], .aload 0, .iconst 0, .tableswitch 1 5 9 #[], .iconst 0, .istore 1] 22 = x_aload 0 (x_iconst 0 (x_p 105 2 0 5 (x_aload 0 (x_iconst (-1) (x_p 105 3 (-1) 400 (x_aload 0 (x_iconst 0 (x_p 105 6 (-2147483648) 2147483647 (x_aload 0 (x_iconst 0 (x_p 105 9 0 400 (x_iconst 0 (x_istore 1 (K 22)))))))))))))) := ((xe_aload 0).trans (congrArg (x_aload 0) ((xe_iconst 0).trans (congrArg (x_iconst 0) ((xe_p (kk := 105) rfl tl_5_2).trans (congrArg (x_p 105 2 0 5) ((xe_aload 0).trans (congrArg (x_aload 0) ((xe_iconst (-1)).trans (congrArg (x_iconst (-1)) ((xe_p (kk := 105) rfl tl_5_3).trans (congrArg (x_p 105 3 (-1) 400) ((xe_aload 0).trans (congrArg (x_aload 0) ((xe_iconst 0).trans (congrArg (x_iconst 0) ((xe_p (kk := 105) rfl tl_5_6).trans (congrArg (x_p 105 6 (-2147483648) 2147483647) ((xe_aload 0).trans (congrArg (x_aload 0) ((xe_iconst 0).trans (congrArg (x_iconst 0) ((xe_p (kk := 105) rfl tl_5_9).trans (congrArg (x_p 105 9 0 400) ((xe_iconst 0).trans (congrArg (x_iconst 0) ((xe_istore 1).trans (congrArg (x_istore 1) xe_nil))))))))))))))))))))))))))))
abbrev po_X5_read (T : Zt) : Zt → Option Zv → Prop := fun T' r => ∃ x : Int, r = some (vI x) ∧ fr_ [(105, [7, 8, 9, 2, 3, 6]), (504, []), (505, [])] T T' ∧ ((0 ≤ x ∧ x ≤ 1) ∧ (x = 1 → VC8_ T'))
set_option maxHeartbeats 4000000 in
theorem ct_X5_read {T : Zt} : Ct_ yX5_read zX5_read T [vR 105 0] (po_X5_read T) := by
  refine ct_of pn_5 rfl rfl (Nat.le_of_ble_eq_true rfl) (fun hT hav => ?_)
  have hz : zX5_read.2.2.2.1 = some .boolean → ∀ (T' : Zt) (x : Int), po_X5_read T T' (some (vI x)) → 0 ≤ x ∧ x ≤ 1 := fun _ T' x h => by obtain ⟨y, e, -, hy, -⟩ := h; cases e; omega
  show J_ zX5_read T (po_X5_read T) 0 0 0 [some (vR 105 0), none] [] T
  have c_73 : ∀ (nn : Nat) (n : Int) (T2 : Zt), ((401 - n).toNat) ≤ nn → (fr_ [(105, [7, 8, 9, 2, 3, 6]), (504, []), (505, [])] T T2) → (0 ≤ n) → (VC8_ T2) → J_ zX5_read T (po_X5_read T) 0 0 73 [some (vR 105 0), some (vI n)] [] T2 := by
    intro nn
    induction nn using Nat.strongRecOn with
    | _ nn ih_73 =>
      intro n T2 hm_73 hf_73 i2 vc2
      refine j_blx (F := fX5) tb_X5 (nn_ _) bk_X5_read_73 bs_X5_read_73 hz (fun K hK => ?_)
      intro b1 b1b
      refine And.intro (fun c2 => ?_) (fun c2 => ?_)
      · refine hK 106 _ [] T2 ?_
        refine j_blx (F := fX5) tb_X5 (nn_ _) bk_X5_read_106 bs_X5_read_106 hz (fun K hK => ?_)
        refine (show po_X5_read T T2 (some (vI 1)) from ?_)
        exact ⟨_, rfl, hf_73, by omega, fun _ => vc2⟩
      · refine And.intro (fun c3 => ?_) (fun c3 => ?_)
        · refine hK 106 _ [] T2 ?_
          refine j_blx (F := fX5) tb_X5 (nn_ _) bk_X5_read_106 bs_X5_read_106 hz (fun K hK => ?_)
          refine (show po_X5_read T T2 (some (vI 1)) from ?_)
          exact ⟨_, rfl, hf_73, by omega, fun _ => vc2⟩
        · refine hK 88 _ [vR 105 0] T2 ?_
          refine j_callV (y := yX5_readStatement) (Yc := zX5_readStatement) (rest := []) [] (ct_X5_readStatement (T := T2) vc2) cl_X5_49 (qd_c (by decide +kernel)) (nn_ _) rfl (rf_of rfl) (Nat.le_of_ble_eq_true rfl) (Nat.le_of_ble_eq_true rfl) (Nat.le_of_ble_eq_true rfl) rfl ?_
          rintro U4 _ ⟨x5, rfl, fU4, hx5, qU4⟩
          show J_ zX5_read T (po_X5_read T) 0 0 91 _ [vI x5] U4
          refine j_blx (F := fX5) tb_X5 (nn_ _) bk_X5_read_91 bs_X5_read_91 hz (fun K hK => ?_)
          refine And.intro (fun c6 => ?_) (fun c6 => ?_)
          · refine hK 96 _ [] U4 ?_
            refine j_blx (F := fX5) tb_X5 (nn_ _) bk_X5_read_96 bs_X5_read_96 hz (fun K hK => ?_)
            refine hK 97 _ [vR 105 0] U4 ?_
            refine j_callV (y := yX5_nextToken) (Yc := zX5_nextToken) (rest := []) [] (ct_X5_nextToken (T := U4)) cl_X5_43 (qd_c (by decide +kernel)) (nn_ _) rfl (rf_of rfl) (Nat.le_of_ble_eq_true rfl) (Nat.le_of_ble_eq_true rfl) (Nat.le_of_ble_eq_true rfl) rfl ?_
            rintro U7 _ ⟨rfl, fU7, qU7⟩
            show J_ zX5_read T (po_X5_read T) 0 0 100 _ [] U7
            refine j_blx (F := fX5) tb_X5 (nn_ _) bk_X5_read_100 bs_X5_read_100 hz (fun K hK => ?_)
            refine rg_i (by omega) ?_
            refine hK 73 [some (vR 105 0), some (vI (n + 1))] [] U7 ?_
            refine ih_73 _ ?_ (n + 1) U7 (Nat.le_refl _) ?_ ?_ ?_
            · omega
            · exact fr_t (fr_t (fr_t (fr_0 _ _) (fr_s hf_73 rfl)) (fr_s fU4 rfl)) (fr_s fU7 rfl)
            · omega
            · exact VC8_f (qU4 (by omega)) (show fr_ [(105, [7, 8, 9, 2, 3, 6])] U4 U7 from fr_t (fr_0 _ _) (fr_s fU7 rfl)) (fun _ => rfl)
          · refine (show po_X5_read T U4 (some (vI 0)) from ?_)
            exact ⟨_, rfl, fr_t (fr_t (fr_0 _ _) (fr_s hf_73 rfl)) (fr_s fU4 rfl), by omega, fun h => by omega⟩
  have c_22 : ∀ (nn : Nat) (k : Int) (T1 : Zt), ((16 - k).toNat) ≤ nn → (fr_ [(105, [7, 8, 9, 2, 3, 6]), (504, []), (505, [])] T T1) → (0 ≤ k ∧ k ≤ 16) → (∀ j, 0 ≤ j → j < k → T1 504 0 j = (sa_ 0).getD j.toNat 0) → J_ zX5_read T (po_X5_read T) 0 0 22 [some (vR 105 0), some (vI k)] [] T1 := by
    intro nn
    induction nn using Nat.strongRecOn with
    | _ nn ih_22 =>
      intro k T1 hm_22 hf_22 i1 d1
      refine j_blx (F := fX5) tb_X5 (nn_ _) bk_X5_read_22 bs_X5_read_22 hz (fun K hK => ?_)
      refine And.intro (fun c8 => ?_) (fun c8 => ?_)
      · refine hK 45 _ [] T1 ?_
        refine j_blx (F := fX5) tb_X5 (nn_ _) bk_X5_read_45 bs_X5_read_45 hz (fun K hK => ?_)
        refine hK 50 _ [vI (-1), vR 505 0] T1 ?_
        refine j_callS (y := yJ7_fill_53178) (Yc := zJ7_fill_53178) (rest := []) [vR 505 0, vI (-1)] (ct_J7_fill_505 (T := T1) (by omega)) cl_X5_37 (qd_c (by decide +kernel)) (nn_ _) rfl (rf_of rfl) (Nat.le_of_ble_eq_true rfl) (Nat.le_of_ble_eq_true rfl) (Nat.le_of_ble_eq_true rfl) rfl ?_
        rintro U9 _ ⟨rfl, fU9, qU9o, qU9⟩
        show J_ zX5_read T (po_X5_read T) 0 0 53 _ [] U9
        refine j_blx (F := fX5) tb_X5 (nn_ _) bk_X5_read_53 bs_X5_read_53 hz (fun K hK => ?_)
        refine iy_i (by omega) (by omega) ?_
        refine x_nm (fun U10 hU10 => ?_)
        have e11 := up_f hU10
        refine iy_i (by omega) (by omega) ?_
        refine x_nm (fun U12 hU12 => ?_)
        have e13 := up_f hU12
        refine hK 68 _ [vR 105 0] U12 ?_
        refine j_callV (y := yX5_nextToken) (Yc := zX5_nextToken) (rest := []) [] (ct_X5_nextToken (T := U12)) cl_X5_43 (qd_c (by decide +kernel)) (nn_ _) rfl (rf_of rfl) (Nat.le_of_ble_eq_true rfl) (Nat.le_of_ble_eq_true rfl) (Nat.le_of_ble_eq_true rfl) rfl ?_
        rintro U14 _ ⟨rfl, fU14, qU14⟩
        show J_ zX5_read T (po_X5_read T) 0 0 71 _ [] U14
        refine j_blx (F := fX5) tb_X5 (nn_ _) bk_X5_read_71 bs_X5_read_71 hz (fun K hK => ?_)
        refine hK 73 [some (vR 105 0), some (vI 0)] [] U14 ?_
        refine c_73 _ 0 U14 (Nat.le_refl _) ?_ ?_ ?_
        · exact fr_t (fr_u (fr_u (fr_t (fr_t (fr_0 _ _) (fr_s hf_22 rfl)) (fr_s fU9 rfl)) hU10 rfl) hU12 rfl) (fr_s fU14 rfl)
        · omega
        · have k0 : ∀ j, U14 504 0 j = T1 504 0 j := fun j => (show fr_ [(105, [7, 8, 9, 2, 3, 6]), (505, [])] T1 U14 from fr_t (fr_u (fr_u (fr_t (fr_0 _ _) (fr_s fU9 rfl)) hU10 rfl) hU12 rfl) (fr_s fU14 rfl)) 504 0 j rfl
          refine ⟨fun j a b => ?_, ?_⟩
          · rw [k0, d1 j a (by omega)]; exact at_q ⟨a, b⟩
          · rw [k0, k0, d1 2 (by omega) (by omega), d1 1 (by omega) (by omega)]; decide
      · refine hK 33 [some (vR 105 0), some (vI k)] [vI k, vR 504 0] T1 ?_
        refine j_gs81 (pc := 33) (i := 0) (by decide) (by decide) (lw_b2 203 (by decide +kernel) rfl : Cond.fieldLink RX5 34 "SportsHouse$RuleText" (sn_ 0) "[I" ∈ lw_g) (by decide +kernel) ?_
        show J_ zX5_read T (po_X5_read T) 0 0 36 _ [vR 81 0, vI k, vR 504 0] T1
        refine j_blx (F := fX5) tb_X5 (nn_ _) bk_X5_read_36 bs_X5_read_36 hz (fun K hK => ?_)
        refine hK 37 _ [vI k, vR 81 0, vI k, vR 504 0] T1 ?_
        refine j_ld81 (pc := 37) (i := 0) (by decide) (by decide) (by omega) (by omega) (by decide +kernel) ?_
        have y15 := sa_b 0 (by decide) k.toNat (by omega)
        show J_ zX5_read T (po_X5_read T) 0 0 38 _ [vI ((sa_ 0).getD k.toNat 0), vI k, vR 504 0] T1
        refine j_blx (F := fX5) tb_X5 (nn_ _) bk_X5_read_38 bs_X5_read_38 hz (fun K hK => ?_)
        refine iy_i (by omega) (by omega) ?_
        refine x_nm (fun U16 hU16 => ?_)
        have e17 := up_f hU16
        refine rg_i (by omega) ?_
        refine hK 22 [some (vR 105 0), some (vI (k + 1))] [] U16 ?_
        refine ih_22 _ ?_ (k + 1) U16 (Nat.le_refl _) ?_ ?_ ?_
        · omega
        · exact fr_u (fr_t (fr_0 _ _) (fr_s hf_22 rfl)) hU16 rfl
        · omega
        · intro j a b
          by_cases z : j = k
          · rw [z]; exact up_f hU16
          · rw [up_g hU16 (fun q => z q.2.2)]; exact d1 j a (by omega)
  refine j_blx (F := fX5) tb_X5 (nn_ _) bk_X5_read_0 bs_X5_read_0 hz (fun K hK => ?_)
  refine bd_i (by omega) ?_
  refine x_nm (fun U18 hU18 => ?_)
  have e19 := up_f hU18
  refine bd_i (by omega) ?_
  refine x_nm (fun U20 hU20 => ?_)
  have e21 := up_f hU20
  refine bd_i (by omega) ?_
  refine x_nm (fun U22 hU22 => ?_)
  have e23 := up_f hU22
  refine bd_i (by omega) ?_
  refine x_nm (fun U24 hU24 => ?_)
  have e25 := up_f hU24
  refine hK 22 [some (vR 105 0), some (vI 0)] [] U24 ?_
  refine c_22 _ 0 U24 (Nat.le_refl _) ?_ ?_ ?_
  · exact fr_u (fr_u (fr_u (fr_u (fr_0 _ _) hU18 rfl) hU20 rfl) hU22 rfl) hU24 rfl
  · omega
  · intro j a b; omega
section JQ2
variable {Y Yc : Zm} {T0 T : Zt} {P : Zt → Option Zv → Prop} {bc bs bc' bs' : Nat} {pc : Int} {ls : Zl} {st rest : List Zv}
/-- a clone of an int row of the tables -/
theorem j_clone2 {idx k k0 : Nat} {lo hi lo0 hi0 i i0 n : Int} (hp : 0 ≤ pc) (ha0 : ta_ k0 = some (1, some n, lo0, hi0)) (ha : ta_ k = some (1, some n, lo, hi)) (hlo : lo ≤ lo0 ∧ hi0 ≤ hi) (hn : 0 ≤ n ∧ n ≤ 100000000) (hfr : ¬ al_ T k i) (how : ∀ o, ow_ k = some o → al_ T o i ∨ al_ T (o + 50) i) (hml : Cond.methodLink Y.1 idx ⟨"[I", "clone", "()Ljava/lang/Object;"⟩ ∈ lw_g) (hsm : Cond.sameMethod "[I" "java/lang/Object" "clone" "()Ljava/lang/Object;" ∈ lw_g) (hna : Cond.native ⟨"java/lang/Object", "clone", "()Ljava/lang/Object;"⟩ ∈ lw_g) (hin : Cond.instanceMethod ⟨"java/lang/Object", "clone", "()Ljava/lang/Object;"⟩ ∈ lw_g) (hse : Cond.selects "[I" ⟨"[I", "clone", "()Ljava/lang/Object;"⟩ ⟨"java/lang/Object", "clone", "()Ljava/lang/Object;"⟩ ∈ lw_g) (hf : 1 ≤ Y.2.2.2.2.frames) (hlo2 : 30 ≤ Y.2.2.2.2.locals) (hrest : st.length ≤ 8) (hb : bc' + 1 ≤ bc) (hbs : bs' + n.toNat ≤ bs) (hd : decode Y.2.1 pc.toNat = .ok (.invokevirtual idx, 3)) (kk : J_ Y T0 P bc' bs' (pc + 3) ls (vR k i :: st) (nu_ T k i n (T k0 i0))) : J_ Y T0 P bc bs pc ls (vR k0 i0 :: st) T := by
  intro l p e s m args below meth c D cA ad0 A X ad H locs cells slots lsC hc hs hR hS hB hT hL hl hln
  have hal : al_ T k0 i0 := ok_al (v := none) (by have := ta_ge ha0; omega) (ok_head hL)
  obtain ⟨ids, q0, hq, hids, hP, hD⟩ := rp_at hR hal
  have hw := wd_get (cA := cA) (ad := ad) (T := T) hq
  rw [ce_i ha0 (Or.inr rfl)] at hw
  have sm := en_sum (ad := ad) st
  have w := X.2.2.2.2.2.1
  have hk := ta_ge ha
  have hok : ok_T (nu_ T k i n (T k0 i0)) := ok_nu hT ⟨fun z => (by rw [z, ta_190] at ha; cases ha), fun z => (by rw [z, ta_191] at ha; cases ha)⟩ (by omega) ⟨hn.1, by omega⟩ (fun t m' lo' hi' h => by
    rw [ha] at h; cases h
    exact ⟨by omega, fun x hx => by have := hT.1 _ _ _ _ _ ha0 i0 x hx; omega⟩) (fun j c k' lo' hi' h => by rw [ta_tf ha] at h; simp at h) how
  have he : ∀ q : Nat, ce_ cA (aq_ ad k i q) (nu_ T k i n (T k0 i0)) k i = .inl (cA 0, n.toNat, .inl fun x => Int32.ofInt (T k0 i0 (x : Int))) := fun q => by
    rw [ce_i ha (Or.inr rfl)]
    have e1 : (fun x : Nat => Int32.ofInt (nu_ T k i n (T k0 i0) k i (x : Int))) = fun x : Nat => Int32.ofInt (T k0 i0 (x : Int)) := by
      funext x
      rw [nu_p (by omega)]
    rw [e1]
  refine va_clone (ad := "[I") (ty := .int) X.1 X.2.1 (X.2.2.1.trans hl.1.symm) X.2.2.2.2.2.2.1 (w _ hml) (w _ hsm) (w _ hna) (w _ hin) (w _ hse) X.2.2.2.2.2.2.2.2.1.2.2.1 X.2.2.2.2.2.2.2.1 hP hD hS X.2.2.2.2.2.2.2.2.2.1 q0 0 hw rfl (va_nm_int (X.2.2.2.2.2.2.2.1.2 0 (cA 0, .int) rfl).2) (va_fit (fun _ _ => rfl)) hf (by omega) (by omega) (by show slots + n.toNat ≤ _; omega) hd (fun q H1 _ hP1 hD1 hS1 => ?_)
  have k2 := j_nu (l := l) (e := e) (below := below) (pc' := pc + 3) X kk (cells := cells + 1) (slots := slots + n.toNat) (by omega) (by omega) (by omega) hfr (nu_a hfr) al_nu hok hids (he q) hP1 hD1 hS1 hB hT (ok_tail hL) hl hln
  rw [show (pc + 3).toNat = pc.toNat + 3 by omega] at k2
  exact k2
end JQ2
theorem nu_tc {T U : Zt} {k : Nat} {i n : Int} {f : Int → Int} (h : U = nu_ T k i n f) (j : Int) (hj : 0 ≤ j) : U k i j = f j := by rw [h, nu_p hj]

/-- a competition is new -/
def nc_ (T T' : Zt) : Prop := fr_ [(105, [7, 8, 9, 2, 3, 6, 1]), (504, []), (505, []), (106, [2]), (521, []), (150, []), (100, []), (401, []), (402, []), (403, []), (404, [])] T T' ∧ (T' 106 0 2 = T 106 0 2 + 1 ∧ T 106 0 2 < 4) ∧ (∀ (k : Nat) (i j : Int), k = 100 ∨ k = 150 ∨ k = 401 ∨ k = 403 ∨ k = 404 → i ≠ T 106 0 2 → T' k i j = T k i j) ∧ (∀ j, j ≠ T 106 0 2 → T' 521 0 j = T 521 0 j) ∧ T' 521 0 (T 106 0 2) = 1 ∧ (T' 100 (T 106 0 2) 5 = 0 ∧ T' 100 (T 106 0 2) 6 = 0 ∧ T' 100 (T 106 0 2) 7 = 0 ∧ T' 100 (T 106 0 2) 8 = 0) ∧ (∀ j, 0 ≤ j → j < 16 → (sa_ 1).getD j.toNat 0 ≤ T' 401 (T 106 0 2) j ∧ T' 401 (T 106 0 2) j ≤ (sa_ 2).getD j.toNat 0) ∧ T' 401 (T 106 0 2) 2 ≤ T' 401 (T 106 0 2) 1 ∧ NA_ T'
abbrev cX10_competition : ByteArray := prog_1_method_4_code
def yX10_competition : MethodName := ⟨RX10, "competition", "()I"⟩
def zX10_competition : Zm := (RX10, cX10_competition, 3, (some .int), { frames := 8, cells := 5, slots := 57, locals := 176 })
theorem bk_X10_competition_0 : ck_ fX10 (some .int) cX10_competition 0 [.aload 0, .tableswitch 0 10 2 #[], .tableswitch 0 6 2 #[], .iconst 4, .if_icmp .lt 22, .aload 0, .tableswitch 0 10 0 #[], .iconst (-1), .tableswitch 1 5 3 #[], .iconst (-5), .ireturn] 22 = true := qck_r (nn_ _) (by decide +kernel)
theorem bs_X10_competition_0 {P : Zt → Option Zv → Prop} (K : Int → Zl → List Zv → Zt → Prop) : sx_ K P [.aload 0, .tableswitch 0 10 2 #[], .tableswitch 0 6 2 #[], .iconst 4, .if_icmp .lt 22, .aload 0, .tableswitch 0 10 0 #[], .iconst (-1), .tableswitch 1 5 3 #[], .iconst (-5), .ireturn] 22 = x_aload 0 (x_g1 110 106 (x_g0 106 2 0 4 (x_iconst 4 (x_if_icmp .lt 22 K (x_aload 0 (x_g1 110 105 (x_iconst (-1) (x_p 105 3 (-1) 400 (x_iconst (-5) (x_ireturn P)))))))))) := ((xe_aload 0).trans (congrArg (x_aload 0) ((xe_g1 (kk := 110) rfl tl_10_2).trans (congrArg (x_g1 110 106) ((xe_g0 (kk := 106) rfl tl_6_2).trans (congrArg (x_g0 106 2 0 4) ((xe_iconst 4).trans (congrArg (x_iconst 4) ((xe_if_icmp .lt 22).trans (congrArg (x_if_icmp .lt 22 K) ((xe_aload 0).trans (congrArg (x_aload 0) ((xe_g1 (kk := 110) rfl tl_10_0).trans (congrArg (x_g1 110 105) ((xe_iconst (-1)).trans (congrArg (x_iconst (-1)) ((xe_p (kk := 105) rfl tl_5_3).trans (congrArg (x_p 105 3 (-1) 400) ((xe_iconst (-5)).trans (congrArg (x_iconst (-5)) (xe_ireturn)))))))))))))))))))))
theorem bk_X10_competition_22 : ck_ fX10 (some .int) cX10_competition 22 [.aload 0, .tableswitch 0 10 0 #[]] 26 = true := qck_r (nn_ _) (by decide +kernel)
theorem bs_X10_competition_22 {P : Zt → Option Zv → Prop} (K : Int → Zl → List Zv → Zt → Prop) : sx_ K P [.aload 0, .tableswitch 0 10 0 #[]] 26 = x_aload 0 (x_g1 110 105 (K 26)) := ((xe_aload 0).trans (congrArg (x_aload 0) ((xe_g1 (kk := 110) rfl tl_10_0).trans (congrArg (x_g1 110 105) xe_nil))))
set_option maxRecDepth 100000 in
theorem cl_X10_80 : cv_ RX10 80 yX5_read zX5_read 5 0 := ⟨gi_V (lw_b2 199 (by decide +kernel) rfl : Cond.methodLink RX10 80 yX5_read ∈ lw_g) (lw_b2 200 (by decide +kernel) rfl : Cond.instanceMethod yX5_read ∈ lw_g) (lw_b2 201 (by decide +kernel) rfl : Cond.selects yX5_read.cls yX5_read yX5_read ∈ lw_g) (lw_b1 2 (by decide +kernel) rfl : Cond.initialized yX5_read.cls ∈ lw_g) (lw_b2 202 rfl rfl : Cond.code yX5_read cX5_read 2 (some .boolean) ∈ lw_g), ⟨by decide, by decide, by decide +kernel⟩, ⟨_, _, rfl⟩⟩
theorem bk_X10_competition_29 : ck_ fX10 (some .int) cX10_competition 29 [.istore 1, .aload 0, .tableswitch 0 10 0 #[], .iconst 0, .tableswitch 1 5 1 #[], .iload 1, .ifCond .ne 53, .iconst (-10), .aload 0, .tableswitch 0 10 0 #[], .tableswitch 0 5 2 #[], .isub, .ireturn] 53 = true := qck_r (nn_ _) (by decide +kernel)
theorem bs_X10_competition_29 {P : Zt → Option Zv → Prop} (K : Int → Zl → List Zv → Zt → Prop) : sx_ K P [.istore 1, .aload 0, .tableswitch 0 10 0 #[], .iconst 0, .tableswitch 1 5 1 #[], .iload 1, .ifCond .ne 53, .iconst (-10), .aload 0, .tableswitch 0 10 0 #[], .tableswitch 0 5 2 #[], .isub, .ireturn] 53 = x_istore 1 (x_aload 0 (x_g1 110 105 (x_iconst 0 (x_p 105 1 0 400 (x_iload 1 (x_ifCond .ne 53 K (x_iconst (-10) (x_aload 0 (x_g1 110 105 (x_g0 105 2 0 5 (x_isub (x_ireturn P)))))))))))) := ((xe_istore 1).trans (congrArg (x_istore 1) ((xe_aload 0).trans (congrArg (x_aload 0) ((xe_g1 (kk := 110) rfl tl_10_0).trans (congrArg (x_g1 110 105) ((xe_iconst 0).trans (congrArg (x_iconst 0) ((xe_p (kk := 105) rfl tl_5_1).trans (congrArg (x_p 105 1 0 400) ((xe_iload 1).trans (congrArg (x_iload 1) ((xe_ifCond .ne 53).trans (congrArg (x_ifCond .ne 53 K) ((xe_iconst (-10)).trans (congrArg (x_iconst (-10)) ((xe_aload 0).trans (congrArg (x_aload 0) ((xe_g1 (kk := 110) rfl tl_10_0).trans (congrArg (x_g1 110 105) ((xe_g0 (kk := 105) rfl tl_5_2).trans (congrArg (x_g0 105 2 0 5) ((xe_isub).trans (congrArg (x_isub) (xe_ireturn)))))))))))))))))))))))))
theorem bk_X10_competition_53 : ck_ fX10 (some .int) cX10_competition 53 [.aload 0, .tableswitch 0 10 2 #[], .tableswitch 0 6 2 #[], .istore 2, .aload 0, .tableswitch 0 10 2 #[], .tableswitch 0 6 1 #[], .iload 2] 69 = true := qck_r (nn_ _) (by decide +kernel)
theorem bs_X10_competition_53 {P : Zt → Option Zv → Prop} (K : Int → Zl → List Zv → Zt → Prop) : sx_ K P [.aload 0, .tableswitch 0 10 2 #[], .tableswitch 0 6 2 #[], .istore 2, .aload 0, .tableswitch 0 10 2 #[], .tableswitch 0 6 1 #[], .iload 2] 69 = x_aload 0 (x_g1 110 106 (x_g0 106 2 0 4 (x_istore 2 (x_aload 0 (x_g1 110 106 (x_g1 106 521 (x_iload 2 (K 69)))))))) := ((xe_aload 0).trans (congrArg (x_aload 0) ((xe_g1 (kk := 110) rfl tl_10_2).trans (congrArg (x_g1 110 106) ((xe_g0 (kk := 106) rfl tl_6_2).trans (congrArg (x_g0 106 2 0 4) ((xe_istore 2).trans (congrArg (x_istore 2) ((xe_aload 0).trans (congrArg (x_aload 0) ((xe_g1 (kk := 110) rfl tl_10_2).trans (congrArg (x_g1 110 106) ((xe_g1 (kk := 106) rfl tl_6_1).trans (congrArg (x_g1 106 521) ((xe_iload 2).trans (congrArg (x_iload 2) xe_nil))))))))))))))))
theorem bk_X10_competition_72 : ck_ fX10 (some .int) cX10_competition 72 [.dup, .iload 2, .aload 0, .tableswitch 0 10 0 #[], .tableswitch 0 5 4 #[]] 81 = true := qck_r (nn_ _) (by decide +kernel)
theorem bs_X10_competition_72 {P : Zt → Option Zv → Prop} (K : Int → Zl → List Zv → Zt → Prop) : sx_ K P [.dup, .iload 2, .aload 0, .tableswitch 0 10 0 #[], .tableswitch 0 5 4 #[]] 81 = x_dup (x_iload 2 (x_aload 0 (x_g1 110 105 (x_g1 105 504 (K 81))))) := ((xe_dup).trans (congrArg (x_dup) ((xe_iload 2).trans (congrArg (x_iload 2) ((xe_aload 0).trans (congrArg (x_aload 0) ((xe_g1 (kk := 110) rfl tl_10_0).trans (congrArg (x_g1 110 105) ((xe_g1 (kk := 105) rfl tl_5_4).trans (congrArg (x_g1 105 504) xe_nil))))))))))
theorem bk_X10_competition_87 : ck_ fX10 (some .int) cX10_competition 87 [.aload 0, .tableswitch 0 10 0 #[], .tableswitch 0 5 5 #[]] 94 = true := qck_r (nn_ _) (by decide +kernel)
theorem bs_X10_competition_87 {P : Zt → Option Zv → Prop} (K : Int → Zl → List Zv → Zt → Prop) : sx_ K P [.aload 0, .tableswitch 0 10 0 #[], .tableswitch 0 5 5 #[]] 94 = x_aload 0 (x_g1 110 105 (x_g1 105 505 (K 94))) := ((xe_aload 0).trans (congrArg (x_aload 0) ((xe_g1 (kk := 110) rfl tl_10_0).trans (congrArg (x_g1 110 105) ((xe_g1 (kk := 105) rfl tl_5_5).trans (congrArg (x_g1 105 505) xe_nil))))))
set_option maxRecDepth 100000 in
theorem ci_X10_104 : ci_ RX10 104 yX0_init zX0_init 3 := ⟨gi_c (lw_b3 76 rfl rfl : Cond.code yX0_init cX0_init 4 none ∈ lw_g), (lw_b1 15 (by decide +kernel) rfl : Cond.initialized yX0_init.cls ∈ lw_g), (lw_b3 74 (by decide +kernel) rfl : Cond.methodLink RX10 104 yX0_init ∈ lw_g), (lw_b3 75 (by decide +kernel) rfl : Cond.instanceMethod yX0_init ∈ lw_g), rfl, rfl, ⟨by decide, by decide, by decide +kernel⟩⟩
theorem bk_X10_competition_104 : ck_ fX10 (some .int) cX10_competition 104 [.aload 0, .tableswitch 0 10 2 #[], .dup, .tableswitch 0 6 2 #[], .iconst 1, .iadd, .tableswitch 1 6 2 #[], .iload 2, .ireturn] 119 = true := qck_r (nn_ _) (by decide +kernel)
theorem bs_X10_competition_104 {P : Zt → Option Zv → Prop} (K : Int → Zl → List Zv → Zt → Prop) : sx_ K P [.aload 0, .tableswitch 0 10 2 #[], .dup, .tableswitch 0 6 2 #[], .iconst 1, .iadd, .tableswitch 1 6 2 #[], .iload 2, .ireturn] 119 = x_aload 0 (x_g1 110 106 (x_dup (x_g0 106 2 0 4 (x_iconst 1 (x_iadd (x_p 106 2 0 4 (x_iload 2 (x_ireturn P)))))))) := ((xe_aload 0).trans (congrArg (x_aload 0) ((xe_g1 (kk := 110) rfl tl_10_2).trans (congrArg (x_g1 110 106) ((xe_dup).trans (congrArg (x_dup) ((xe_g0 (kk := 106) rfl tl_6_2).trans (congrArg (x_g0 106 2 0 4) ((xe_iconst 1).trans (congrArg (x_iconst 1) ((xe_iadd).trans (congrArg (x_iadd) ((xe_p (kk := 106) rfl tl_6_2).trans (congrArg (x_p 106 2 0 4) ((xe_iload 2).trans (congrArg (x_iload 2) (xe_ireturn)))))))))))))))))
abbrev po_X10_competition (T : Zt) : Zt → Option Zv → Prop := fun T' r => ∃ x : Int, r = some (vI x) ∧ (fr_ [(105, [7, 8, 9, 2, 3, 6, 1]), (504, []), (505, [])] T T' ∨ nc_ T T')
set_option maxHeartbeats 4000000 in
theorem ct_X10_competition {T : Zt} (hna : NA_ T) : Ct_ yX10_competition zX10_competition T [vR 110 0] (po_X10_competition T) := by
  refine ct_of pn_10 rfl rfl (Nat.le_of_ble_eq_true rfl) (fun hT hav => ?_)
  have hz : zX10_competition.2.2.2.1 = some .boolean → ∀ (T' : Zt) (x : Int), po_X10_competition T T' (some (vI x)) → 0 ≤ x ∧ x ≤ 1 := fun h => by cases h
  have hb_competitionCount : 0 ≤ T 106 0 2 ∧ T 106 0 2 ≤ 4 := bd_f hT 106 2 (by decide +kernel : (tf_ 106)[2]? = some (0, 0, 0, 4)) 0
  show J_ zX10_competition T (po_X10_competition T) 5 57 0 [some (vR 110 0), none, none] [] T
  refine j_blx (F := fX10) tb_X10 (nn_ _) bk_X10_competition_0 bs_X10_competition_0 hz (fun K hK => ?_)
  intro b1 b1b
  refine And.intro (fun c2 => ?_) (fun c2 => ?_)
  · refine hK 22 _ [] T ?_
    refine j_blx (F := fX10) tb_X10 (nn_ _) bk_X10_competition_22 bs_X10_competition_22 hz (fun K hK => ?_)
    refine hK 26 _ [vR 105 0] T ?_
    refine j_callV (y := yX5_read) (Yc := zX5_read) (rest := []) [] (ct_X5_read (T := T)) cl_X10_80 (qd_c (by decide +kernel)) (nn_ _) rfl (rf_of rfl) (Nat.le_of_ble_eq_true rfl) (Nat.le_of_ble_eq_true rfl) (Nat.le_of_ble_eq_true rfl) rfl ?_
    rintro U3 _ ⟨x4, rfl, fU3, hx4, qU3⟩
    show J_ zX10_competition T (po_X10_competition T) 5 57 29 _ [vI x4] U3
    refine j_blx (F := fX10) tb_X10 (nn_ _) bk_X10_competition_29 bs_X10_competition_29 hz (fun K hK => ?_)
    refine bd_i (by omega) ?_
    refine x_nm (fun U5 hU5 => ?_)
    have e6 := up_f hU5
    refine And.intro (fun c7 => ?_) (fun c7 => ?_)
    · refine hK 53 [some (vR 110 0), some (vI x4), none] [] U5 ?_
      refine j_blx (F := fX10) tb_X10 (nn_ _) bk_X10_competition_53 bs_X10_competition_53 hz (fun K hK => ?_)
      intro b8 b8b
      have e9 : U5 106 0 2 = T 106 0 2 := (up_k hU5 (by exact Nat.ne_of_beq_eq_false rfl) 0 2).trans (fU3 106 0 2 rfl)
      rw [e9] at b8 b8b ⊢
      refine hK 69 [some (vR 110 0), some (vI x4), some (vI (T 106 0 2))] [vI (T 106 0 2), vR 521 0] U5 ?_
      have e11 : U5 150 (T 106 0 2) (-1) = T 150 (T 106 0 2) (-1) := (up_k hU5 (by exact Nat.ne_of_beq_eq_false rfl) (T 106 0 2) (-1)).trans (fU3 150 (T 106 0 2) (-1) rfl)
      have hv1 : ∀ k : Nat, ow_ k = some 100 → ¬ T k (T 106 0 2) (-1) = 1 := fun k hk h => (hT.2.2.2.2.2.2.2.1 k _ 100 hk h).elim (hna.2.1 _ (by omega)) (hna.1.1 _)
      refine j_newO (bc' := 4) (bs' := 48) (pc := 69) (ci := 0) (i := T 106 0 2) (by decide) (by decide) vi_0 tyX0_ok (nf_0 _) (lw_b3 65 (by decide +kernel) rfl : Cond.classLink RX10 91 RX0 ∈ lw_g) (lw_b3 66 (by decide +kernel) rfl : Cond.instantiable RX0 9 ∈ lw_g) (lw_b1 15 (by decide +kernel) rfl : Cond.initialized RX0 ∈ lw_g) (by show ¬ U5 150 (T 106 0 2) (-1) = 1; rw [e11]; exact hna.1.1 _) (by omega) (by omega) (by decide +kernel) ?_
      refine j_nm (fun U10 hU10 => ?_)
      have fU10 := nu_fr hU10
      have zU10 := nu_tz hU10
      have oU10 := nu_to hU10
      have vU10 := nu_tv hU10
      show J_ zX10_competition T (po_X10_competition T) 4 48 72 _ [vR 150 (T 106 0 2), vI (T 106 0 2), vR 521 0] U10
      refine j_blx (F := fX10) tb_X10 (nn_ _) bk_X10_competition_72 bs_X10_competition_72 hz (fun K hK => ?_)
      refine hK 81 _ [vR 504 0, vI (T 106 0 2), vR 150 (T 106 0 2), vR 150 (T 106 0 2), vI (T 106 0 2), vR 521 0] U10 ?_
      have e12 : U10 401 (T 106 0 2) (-1) = T 401 (T 106 0 2) (-1) := (fU10 401 (T 106 0 2) (-1) rfl).trans ((up_k hU5 (by exact Nat.ne_of_beq_eq_false rfl) (T 106 0 2) (-1)).trans (fU3 401 (T 106 0 2) (-1) rfl))
      refine j_clone2 (bc' := 3) (bs' := 32) (pc := 81) (k := 401) (i := T 106 0 2) (by decide) (by decide +kernel : ta_ 504 = some (1, some 16, 0, 999)) (by decide +kernel : ta_ 401 = some (1, some 16, 0, 999)) (by decide) (by decide) (by show ¬ U10 401 (T 106 0 2) (-1) = 1; rw [e12]; exact hv1 401 (by decide)) (fun o ho => by rw [show ow_ 401 = some 100 by decide] at ho; cases ho; exact Or.inr (show U10 150 (T 106 0 2) (-1) = 1 from vU10)) (lw_b3 67 (by decide +kernel) rfl : Cond.methodLink RX10 96 ⟨"[I", "clone", "()Ljava/lang/Object;"⟩ ∈ lw_g) (lw_b3 68 (by decide +kernel) rfl : Cond.sameMethod "[I" "java/lang/Object" "clone" "()Ljava/lang/Object;" ∈ lw_g) (lw_b3 69 (by decide +kernel) rfl : Cond.native ⟨"java/lang/Object", "clone", "()Ljava/lang/Object;"⟩ ∈ lw_g) (lw_b3 70 (by decide +kernel) rfl : Cond.instanceMethod ⟨"java/lang/Object", "clone", "()Ljava/lang/Object;"⟩ ∈ lw_g) (lw_b3 71 (by decide +kernel) rfl : Cond.selects "[I" ⟨"[I", "clone", "()Ljava/lang/Object;"⟩ ⟨"java/lang/Object", "clone", "()Ljava/lang/Object;"⟩ ∈ lw_g) (by decide) (by decide) (Nat.le_of_ble_eq_true rfl) (by decide) (by decide) (by decide +kernel) ?_
      refine j_nm (fun U13 hU13 => ?_)
      have fU13 := nu_fr hU13
      have zU13 := nu_tc hU13
      have oU13 := nu_to hU13
      have vU13 := nu_tv hU13
      show J_ zX10_competition T (po_X10_competition T) 3 32 84 _ [vR 401 (T 106 0 2), vI (T 106 0 2), vR 150 (T 106 0 2), vR 150 (T 106 0 2), vI (T 106 0 2), vR 521 0] U13
      refine j_castA (pc := 84) (by decide) (by decide +kernel : ta_ 401 = some (1, some 16, 0, 999)) (lw_b3 73 (by decide +kernel) rfl : Cond.classLink RX10 97 "[I" ∈ lw_g) (by decide +kernel) ?_
      show J_ zX10_competition T (po_X10_competition T) 3 32 87 _ [vR 401 (T 106 0 2), vI (T 106 0 2), vR 150 (T 106 0 2), vR 150 (T 106 0 2), vI (T 106 0 2), vR 521 0] U13
      refine j_blx (F := fX10) tb_X10 (nn_ _) bk_X10_competition_87 bs_X10_competition_87 hz (fun K hK => ?_)
      refine hK 94 _ [vR 505 0, vR 401 (T 106 0 2), vI (T 106 0 2), vR 150 (T 106 0 2), vR 150 (T 106 0 2), vI (T 106 0 2), vR 521 0] U13 ?_
      have e14 : U13 402 (T 106 0 2) (-1) = T 402 (T 106 0 2) (-1) := (fU13 402 (T 106 0 2) (-1) rfl).trans ((fU10 402 (T 106 0 2) (-1) rfl).trans ((up_k hU5 (by exact Nat.ne_of_beq_eq_false rfl) (T 106 0 2) (-1)).trans (fU3 402 (T 106 0 2) (-1) rfl)))
      refine j_clone2 (bc' := 2) (bs' := 25) (pc := 94) (k := 402) (i := T 106 0 2) (by decide) (by decide +kernel : ta_ 505 = some (1, some 7, (-1), 6)) (by decide +kernel : ta_ 402 = some (1, some 7, (-1), 6)) (by decide) (by decide) (by show ¬ U13 402 (T 106 0 2) (-1) = 1; rw [e14]; exact hv1 402 (by decide)) (fun o ho => by rw [show ow_ 402 = some 100 by decide] at ho; cases ho; exact Or.inr (show U13 150 (T 106 0 2) (-1) = 1 from (fU13 150 _ _ rfl).trans vU10)) (lw_b3 67 (by decide +kernel) rfl : Cond.methodLink RX10 96 ⟨"[I", "clone", "()Ljava/lang/Object;"⟩ ∈ lw_g) (lw_b3 68 (by decide +kernel) rfl : Cond.sameMethod "[I" "java/lang/Object" "clone" "()Ljava/lang/Object;" ∈ lw_g) (lw_b3 69 (by decide +kernel) rfl : Cond.native ⟨"java/lang/Object", "clone", "()Ljava/lang/Object;"⟩ ∈ lw_g) (lw_b3 70 (by decide +kernel) rfl : Cond.instanceMethod ⟨"java/lang/Object", "clone", "()Ljava/lang/Object;"⟩ ∈ lw_g) (lw_b3 71 (by decide +kernel) rfl : Cond.selects "[I" ⟨"[I", "clone", "()Ljava/lang/Object;"⟩ ⟨"java/lang/Object", "clone", "()Ljava/lang/Object;"⟩ ∈ lw_g) (by decide) (by decide) (Nat.le_of_ble_eq_true rfl) (by decide) (by decide) (by decide +kernel) ?_
      refine j_nm (fun U15 hU15 => ?_)
      have fU15 := nu_fr hU15
      have zU15 := nu_tc hU15
      have oU15 := nu_to hU15
      have vU15 := nu_tv hU15
      show J_ zX10_competition T (po_X10_competition T) 2 25 97 _ [vR 402 (T 106 0 2), vR 401 (T 106 0 2), vI (T 106 0 2), vR 150 (T 106 0 2), vR 150 (T 106 0 2), vI (T 106 0 2), vR 521 0] U15
      refine j_castA (pc := 97) (by decide) (by decide +kernel : ta_ 402 = some (1, some 7, (-1), 6)) (lw_b3 73 (by decide +kernel) rfl : Cond.classLink RX10 97 "[I" ∈ lw_g) (by decide +kernel) ?_
      show J_ zX10_competition T (po_X10_competition T) 2 25 100 _ [vR 402 (T 106 0 2), vR 401 (T 106 0 2), vI (T 106 0 2), vR 150 (T 106 0 2), vR 150 (T 106 0 2), vI (T 106 0 2), vR 521 0] U15
      have e16 : U15 403 (T 106 0 2) (-1) = T 403 (T 106 0 2) (-1) := (fU15 403 (T 106 0 2) (-1) rfl).trans ((fU13 403 (T 106 0 2) (-1) rfl).trans ((fU10 403 (T 106 0 2) (-1) rfl).trans ((up_k hU5 (by exact Nat.ne_of_beq_eq_false rfl) (T 106 0 2) (-1)).trans (fU3 403 (T 106 0 2) (-1) rfl))))
      have e17 : U15 404 (T 106 0 2) (-1) = T 404 (T 106 0 2) (-1) := (fU15 404 (T 106 0 2) (-1) rfl).trans ((fU13 404 (T 106 0 2) (-1) rfl).trans ((fU10 404 (T 106 0 2) (-1) rfl).trans ((up_k hU5 (by exact Nat.ne_of_beq_eq_false rfl) (T 106 0 2) (-1)).trans (fU3 404 (T 106 0 2) (-1) rfl))))
      refine j_callI (y := yX0_init) (Yc := zX0_init) (rest := [vR 150 (T 106 0 2), vI (T 106 0 2), vR 521 0]) [vI (T 106 0 2), vR 401 (T 106 0 2), vR 402 (T 106 0 2)] (ct_X0_init (T := U15) (by omega) (by rw [e16]; exact hv1 403 (by decide)) (by rw [e17]; exact hv1 404 (by decide))) ci_X10_104 (qd_c (by decide +kernel)) (nn_ _) rfl (rf_of rfl) (Nat.le_of_ble_eq_true rfl) (Nat.le_of_ble_eq_true rfl) (Nat.le_of_ble_eq_true rfl) rfl ?_
      rintro U18 _ ⟨rfl, fU18, qU18o, ⟨t0U18, t1U18, t2U18, t3U18, t4U18⟩, ⟨t5U18, t6U18, t7U18, t8U18⟩, zU18⟩
      show J_ zX10_competition T (po_X10_competition T) 0 0 103 _ [vR 150 (T 106 0 2), vI (T 106 0 2), vR 521 0] U18
      refine j_ok (fun gt0 _ => ?_)
      have e20 : U18 100 (T 106 0 2) (-1) = T 100 (T 106 0 2) (-1) := (fU18 100 (T 106 0 2) (-1) rfl).trans ((fU15 100 (T 106 0 2) (-1) rfl).trans ((fU13 100 (T 106 0 2) (-1) rfl).trans ((fU10 100 (T 106 0 2) (-1) rfl).trans ((up_k hU5 (by exact Nat.ne_of_beq_eq_false rfl) (T 106 0 2) (-1)).trans (fU3 100 (T 106 0 2) (-1) rfl)))))
      refine j_conv (k := 100) (i := T 106 0 2) (g := g0_ U18 (T 106 0 2)) (by decide) (by show ¬ U18 100 (T 106 0 2) (-1) = 1; rw [e20]; exact hna.2.1 _ (by omega)) (hna.1.1 _) (cg_0 gt0 (by omega) t1U18 t2U18 t3U18 t4U18) rfl rfl ?_
      refine j_nm (fun U21 hU21 => ?_)
      have fU21 := cw_fr hU21
      have sU21 := cw_ts hU21
      have oU21 := cw_to hU21
      have rU21 := cw_r hU21
      show J_ zX10_competition T (po_X10_competition T) 0 0 103 _ [vR 100 (T 106 0 2), vI (T 106 0 2), vR 521 0] U21
      refine j_aast (pc := 103) (by decide) (by decide) (by decide +kernel : ta_ 521 = some (4, some 4, 0, 1)) (by decide +kernel) (by omega) (by show _ < (4 : Int); omega) (by decide) ?_
      refine j_nm (fun U22 hU22 => ?_)
      have e23 := up_f hU22
      show J_ zX10_competition T (po_X10_competition T) 0 0 104 _ [] U22
      refine j_blx (F := fX10) tb_X10 (nn_ _) bk_X10_competition_104 bs_X10_competition_104 hz (fun K hK => ?_)
      intro b24 b24b
      have e25 : U22 106 0 2 = T 106 0 2 := (up_k hU22 (by exact Nat.ne_of_beq_eq_false rfl) 0 2).trans ((fU21 106 0 2 rfl).trans ((fU18 106 0 2 rfl).trans ((fU15 106 0 2 rfl).trans ((fU13 106 0 2 rfl).trans ((fU10 106 0 2 rfl).trans ((up_k hU5 (by exact Nat.ne_of_beq_eq_false rfl) 0 2).trans (fU3 106 0 2 rfl)))))))
      rw [e25] at b24 b24b ⊢
      refine rg_i (by omega) ?_
      refine bd_i (by omega) ?_
      refine x_nm (fun U26 hU26 => ?_)
      have e27 := up_f hU26
      refine (show po_X10_competition T U26 (some (vI (T 106 0 2))) from ?_)
      have w5 : U21 100 (T 106 0 2) 5 = U18 150 (T 106 0 2) 5 := (sU21 5 (by decide)).trans (by unfold g0_; rw [if_neg (by decide)])
      have y5 : U15 150 (T 106 0 2) 5 = 0 := (fU15 150 _ _ rfl).trans ((fU13 150 _ _ rfl).trans (zU10 5 (by decide)))
      have u5 : U26 100 (T 106 0 2) 5 = U21 100 (T 106 0 2) 5 := (up_k hU26 (by exact Nat.ne_of_beq_eq_false rfl) _ _).trans (up_k hU22 (by exact Nat.ne_of_beq_eq_false rfl) _ _)
      have w6 : U21 100 (T 106 0 2) 6 = U18 150 (T 106 0 2) 6 := (sU21 6 (by decide)).trans (by unfold g0_; rw [if_neg (by decide)])
      have y6 : U15 150 (T 106 0 2) 6 = 0 := (fU15 150 _ _ rfl).trans ((fU13 150 _ _ rfl).trans (zU10 6 (by decide)))
      have u6 : U26 100 (T 106 0 2) 6 = U21 100 (T 106 0 2) 6 := (up_k hU26 (by exact Nat.ne_of_beq_eq_false rfl) _ _).trans (up_k hU22 (by exact Nat.ne_of_beq_eq_false rfl) _ _)
      have w7 : U21 100 (T 106 0 2) 7 = U18 150 (T 106 0 2) 7 := (sU21 7 (by decide)).trans (by unfold g0_; rw [if_neg (by decide)])
      have y7 : U15 150 (T 106 0 2) 7 = 0 := (fU15 150 _ _ rfl).trans ((fU13 150 _ _ rfl).trans (zU10 7 (by decide)))
      have u7 : U26 100 (T 106 0 2) 7 = U21 100 (T 106 0 2) 7 := (up_k hU26 (by exact Nat.ne_of_beq_eq_false rfl) _ _).trans (up_k hU22 (by exact Nat.ne_of_beq_eq_false rfl) _ _)
      have w8 : U21 100 (T 106 0 2) 8 = U18 150 (T 106 0 2) 8 := (sU21 8 (by decide)).trans (by unfold g0_; rw [if_neg (by decide)])
      have y8 : U15 150 (T 106 0 2) 8 = 0 := (fU15 150 _ _ rfl).trans ((fU13 150 _ _ rfl).trans (zU10 8 (by decide)))
      have u8 : U26 100 (T 106 0 2) 8 = U21 100 (T 106 0 2) 8 := (up_k hU26 (by exact Nat.ne_of_beq_eq_false rfl) _ _).trans (up_k hU22 (by exact Nat.ne_of_beq_eq_false rfl) _ _)
      have e28 : U26 106 0 2 = (T 106 0 2) + 1 := up_f hU26
      have d2 : ∀ (k : Nat) (i j : Int), k = 100 ∨ k = 150 ∨ k = 401 ∨ k = 403 ∨ k = 404 → i ≠ T 106 0 2 → U26 k i j = T k i j := by
        intro k i j hk hi
        have c1 : U26 k i j = U21 k i j := (up_g hU26 (fun z => by omega)).trans (up_g hU22 (fun z => by omega))
        have c2 : U21 k i j = U5 k i j := (oU21 k i j hi).trans ((qU18o k i j hi).trans ((oU15 k i j (fun z => hi z.2)).trans ((oU13 k i j (fun z => hi z.2)).trans (oU10 k i j (fun z => hi z.2)))))
        have c3 : U5 k i j = T k i j := by rcases hk with rfl | rfl | rfl | rfl | rfl <;> exact (up_k hU5 (by exact Nat.ne_of_beq_eq_false rfl) _ _).trans (fU3 _ _ _ rfl)
        exact c1.trans (c2.trans c3)
      have d3 : ∀ j, j ≠ T 106 0 2 → U26 521 0 j = T 521 0 j := fun j hj => (up_k hU26 (by exact Nat.ne_of_beq_eq_false rfl) _ _).trans ((up_g hU22 (fun z => hj z.2.2)).trans ((fU21 521 _ _ rfl).trans ((fU18 521 _ _ rfl).trans ((fU15 521 _ _ rfl).trans ((fU13 521 _ _ rfl).trans ((fU10 521 _ _ rfl).trans ((up_k hU5 (by exact Nat.ne_of_beq_eq_false rfl) _ _).trans (fU3 521 _ _ rfl))))))))
      have d4 : U26 521 0 (T 106 0 2) = 1 := (up_k hU26 (by exact Nat.ne_of_beq_eq_false rfl) _ _).trans (up_f hU22)
      have d5 : ∀ j, 0 ≤ j → U26 401 (T 106 0 2) j = U3 504 0 j := fun j hj => (up_k hU26 (by exact Nat.ne_of_beq_eq_false rfl) _ _).trans ((up_k hU22 (by exact Nat.ne_of_beq_eq_false rfl) _ _).trans ((fU21 401 _ _ rfl).trans ((fU18 401 _ _ rfl).trans ((fU15 401 _ _ rfl).trans ((zU13 j hj).trans ((fU10 504 _ _ rfl).trans (up_k hU5 (by exact Nat.ne_of_beq_eq_false rfl) _ _)))))))
      have vc := qU3 (by omega)
      have n2 : NA_ U26 := by
        refine ⟨⟨fun i => ?_, fun i => by rw [show U26 152 i (-1) = T 152 i (-1) from (up_k hU26 (by exact Nat.ne_of_beq_eq_false rfl) _ _).trans ((up_k hU22 (by exact Nat.ne_of_beq_eq_false rfl) _ _).trans ((fU21 152 _ _ rfl).trans ((fU18 152 _ _ rfl).trans ((fU15 152 _ _ rfl).trans ((fU13 152 _ _ rfl).trans ((fU10 152 _ _ rfl).trans ((up_k hU5 (by exact Nat.ne_of_beq_eq_false rfl) _ _).trans (fU3 152 _ _ rfl))))))))]; exact hna.1.2.1 i, fun i => by rw [show U26 153 i (-1) = T 153 i (-1) from (up_k hU26 (by exact Nat.ne_of_beq_eq_false rfl) _ _).trans ((up_k hU22 (by exact Nat.ne_of_beq_eq_false rfl) _ _).trans ((fU21 153 _ _ rfl).trans ((fU18 153 _ _ rfl).trans ((fU15 153 _ _ rfl).trans ((fU13 153 _ _ rfl).trans ((fU10 153 _ _ rfl).trans ((up_k hU5 (by exact Nat.ne_of_beq_eq_false rfl) _ _).trans (fU3 153 _ _ rfl))))))))]; exact hna.1.2.2 i⟩, fun i hi => ?_, fun i hi => ?_, fun i hi => ?_⟩
        · by_cases z : i = T 106 0 2
          · rw [z, show U26 150 (T 106 0 2) (-1) = U21 150 (T 106 0 2) (-1) from (up_k hU26 (by exact Nat.ne_of_beq_eq_false rfl) _ _).trans (up_k hU22 (by exact Nat.ne_of_beq_eq_false rfl) _ _)]; exact rU21
          · rw [d2 150 i (-1) (Or.inr (Or.inl rfl)) z]; exact hna.1.1 i
        · rw [d2 100 i (-1) (Or.inl rfl) (by omega)]; exact hna.2.1 i (by omega)
        · rw [show U26 106 0 4 = T 106 0 4 from (up_j hU26 (by decide) _ _).trans ((up_k hU22 (by exact Nat.ne_of_beq_eq_false rfl) _ _).trans ((fU21 106 _ _ rfl).trans ((fU18 106 _ _ rfl).trans ((fU15 106 _ _ rfl).trans ((fU13 106 _ _ rfl).trans ((fU10 106 _ _ rfl).trans ((up_k hU5 (by exact Nat.ne_of_beq_eq_false rfl) _ _).trans (fU3 106 _ _ rfl))))))))] at hi
          rw [show U26 102 i (-1) = T 102 i (-1) from (up_k hU26 (by exact Nat.ne_of_beq_eq_false rfl) _ _).trans ((up_k hU22 (by exact Nat.ne_of_beq_eq_false rfl) _ _).trans ((fU21 102 _ _ rfl).trans ((fU18 102 _ _ rfl).trans ((fU15 102 _ _ rfl).trans ((fU13 102 _ _ rfl).trans ((fU10 102 _ _ rfl).trans ((up_k hU5 (by exact Nat.ne_of_beq_eq_false rfl) _ _).trans (fU3 102 _ _ rfl))))))))]; exact hna.2.2.1 i hi
        · rw [show U26 106 0 4 = T 106 0 4 from (up_j hU26 (by decide) _ _).trans ((up_k hU22 (by exact Nat.ne_of_beq_eq_false rfl) _ _).trans ((fU21 106 _ _ rfl).trans ((fU18 106 _ _ rfl).trans ((fU15 106 _ _ rfl).trans ((fU13 106 _ _ rfl).trans ((fU10 106 _ _ rfl).trans ((up_k hU5 (by exact Nat.ne_of_beq_eq_false rfl) _ _).trans (fU3 106 _ _ rfl)))))))), show U26 102 i 10 = T 102 i 10 from (up_k hU26 (by exact Nat.ne_of_beq_eq_false rfl) _ _).trans ((up_k hU22 (by exact Nat.ne_of_beq_eq_false rfl) _ _).trans ((fU21 102 _ _ rfl).trans ((fU18 102 _ _ rfl).trans ((fU15 102 _ _ rfl).trans ((fU13 102 _ _ rfl).trans ((fU10 102 _ _ rfl).trans ((up_k hU5 (by exact Nat.ne_of_beq_eq_false rfl) _ _).trans (fU3 102 _ _ rfl))))))))] at hi
          rw [show U26 103 i (-1) = T 103 i (-1) from (up_k hU26 (by exact Nat.ne_of_beq_eq_false rfl) _ _).trans ((up_k hU22 (by exact Nat.ne_of_beq_eq_false rfl) _ _).trans ((fU21 103 _ _ rfl).trans ((fU18 103 _ _ rfl).trans ((fU15 103 _ _ rfl).trans ((fU13 103 _ _ rfl).trans ((fU10 103 _ _ rfl).trans ((up_k hU5 (by exact Nat.ne_of_beq_eq_false rfl) _ _).trans (fU3 103 _ _ rfl))))))))]; exact hna.2.2.2 i hi
      exact ⟨_, rfl, Or.inr ⟨fr_u (fr_u (fr_t (fr_t (fr_t (fr_t (fr_t (fr_u (fr_t (fr_0 _ _) (fr_s fU3 rfl)) hU5 rfl) (fr_s fU10 rfl)) (fr_s fU13 rfl)) (fr_s fU15 rfl)) (fr_s fU18 rfl)) (fr_s fU21 rfl)) hU22 rfl) hU26 rfl, by omega, d2, d3, d4, by omega, fun j a b => by rw [d5 j a]; exact vc.1 j a b, by rw [d5 2 (by omega), d5 1 (by omega)]; exact vc.2, n2⟩⟩
    · intro b29 b29b
      have e30 : U5 105 0 2 = U3 105 0 2 := up_j hU5 (by decide) 105 0
      rw [e30] at b29 b29b ⊢
      refine rg_i (by omega) ?_
      refine (show po_X10_competition T U5 (some (vI ((-10) - (U3 105 0 2)))) from ?_)
      exact ⟨_, rfl, Or.inl (fr_u (fr_t (fr_0 _ _) (fr_s fU3 rfl)) hU5 rfl)⟩
  · refine bd_i (by omega) ?_
    refine x_nm (fun U31 hU31 => ?_)
    have e32 := up_f hU31
    refine (show po_X10_competition T U31 (some (vI (-5))) from ?_)
    exact ⟨_, rfl, Or.inl (fr_u (fr_0 _ _) hU31 rfl)⟩
abbrev po_X10_enter_k (T : Zt) (c b : Int) : Zt → Option Zv → Prop := fun T' r => ∃ x : Int, r = some (vI x) ∧ fr_ [(404, []), (403, []), (100, [5])] T T' ∧ (KE_ T' ∧ ∀ d z, 0 ≤ T 404 d z → 0 ≤ T' 404 d z)
set_option maxHeartbeats 4000000 in
theorem ct_X10_enter_k {T : Zt} {c b : Int} (hka : KA_ T) (hke : KE_ T) : Ct_ yX10_enter zX10_enter T [vR 110 0, vI c, vI b] (po_X10_enter_k T c b) := by
  refine ct_of pn_10 rfl rfl (Nat.le_of_ble_eq_true rfl) (fun hT hav => ?_)
  have hr_c : -2147483648 ≤ c ∧ c ≤ 2147483647 := hav (vI c) (by simp)
  have hr_b : -2147483648 ≤ b ∧ b ≤ 2147483647 := hav (vI b) (by simp)
  have hz : zX10_enter.2.2.2.1 = some .boolean → ∀ (T' : Zt) (x : Int), po_X10_enter_k T c b T' (some (vI x)) → 0 ≤ x ∧ x ≤ 1 := fun h => by cases h
  have hcc : 0 ≤ T 106 0 2 ∧ T 106 0 2 ≤ 4 := bd_f hT 106 2 (by decide +kernel : (tf_ 106)[2]? = some (0, 0, 0, 4)) 0
  have hb_clubs : 0 ≤ T 108 0 2 ∧ T 108 0 2 ≤ 12 := bd_f hT 108 2 (by decide +kernel : (tf_ 108)[2]? = some (0, 0, 0, 12)) 0
  show J_ zX10_enter T (po_X10_enter_k T c b) 0 0 0 [some (vR 110 0), some (vI c), some (vI b), none] [] T
  refine j_blx (F := fX10) tb_X10 (nn_ _) bk_X10_enter_0 bs_X10_enter_0 hz (fun K hK => ?_)
  refine hK 2 _ [vI c, vR 110 0] T ?_
  refine j_callV (y := yX10_isCompetition) (Yc := zX10_isCompetition) (rest := []) [vI c] (ct_X10_isCompetition (T := T)) cl_X10_107 (qd_c (by decide +kernel)) (nn_ _) rfl (rf_of rfl) (Nat.le_of_ble_eq_true rfl) (Nat.le_of_ble_eq_true rfl) (Nat.le_of_ble_eq_true rfl) rfl ?_
  rintro _ _ ⟨rfl, x1, rfl, hx1⟩
  show J_ zX10_enter T (po_X10_enter_k T c b) 0 0 5 _ [vI x1] T
  refine j_blx (F := fX10) tb_X10 (nn_ _) bk_X10_enter_5 bs_X10_enter_5 hz (fun K hK => ?_)
  refine And.intro (fun c2 => ?_) (fun c2 => ?_)
  · refine hK 16 _ [] T ?_
    refine j_blx (F := fX10) tb_X10 (nn_ _) bk_X10_enter_16 bs_X10_enter_16 hz (fun K hK => ?_)
    refine (show po_X10_enter_k T c b T (some (vI (-2))) from ?_)
    exact ⟨_, rfl, fr_0 _ _, hke, fun _ _ h => h⟩
  · refine hK 10 _ [vI b, vR 110 0] T ?_
    refine j_callV (y := yX10_isClub) (Yc := zX10_isClub) (rest := []) [vI b] (ct_X10_isClub (T := T)) cl_X10_137 (qd_c (by decide +kernel)) (nn_ _) rfl (rf_of rfl) (Nat.le_of_ble_eq_true rfl) (Nat.le_of_ble_eq_true rfl) (Nat.le_of_ble_eq_true rfl) rfl ?_
    rintro _ _ ⟨rfl, x3, rfl, hx3⟩
    show J_ zX10_enter T (po_X10_enter_k T c b) 0 0 13 _ [vI x3] T
    refine j_blx (F := fX10) tb_X10 (nn_ _) bk_X10_enter_13 bs_X10_enter_13 hz (fun K hK => ?_)
    refine And.intro (fun c4 => ?_) (fun c4 => ?_)
    · refine hK 19 _ [] T ?_
      refine j_blx (F := fX10) tb_X10 (nn_ _) bk_X10_enter_19 bs_X10_enter_19 hz (fun K hK => ?_)
      refine ix_i (by omega) ?_
      refine And.intro (fun c5 => ?_) (fun c5 => ?_)
      · exact absurd (show T 521 0 c = 0 by omega) (hka.1 _ (by omega) (by omega))
      · intro b6 b6b
        refine And.intro (fun c7 => ?_) (fun c7 => ?_)
        · refine hK 46 [some (vR 110 0), some (vI c), some (vI b), some (vR 100 c)] [] T ?_
          refine j_blx (F := fX10) tb_X10 (nn_ _) bk_X10_enter_46 bs_X10_enter_46 hz (fun K hK => ?_)
          refine (show po_X10_enter_k T c b T (some (vI (-4))) from ?_)
          exact ⟨_, rfl, fr_0 _ _, hke, fun _ _ h => h⟩
        · refine ix_i (by omega) ?_
          intro b8 b8b
          refine And.intro (fun c9 => ?_) (fun c9 => ?_)
          · have hen : 0 ≤ T 100 c 5 ∧ T 100 c 5 ≤ 12 := bd_f hT 100 5 (by decide +kernel : (tf_ 100)[5]? = some (0, 0, 0, 12)) c
            have hlt : T 100 c 5 + 1 ≤ 12 := by
              refine ph_i (fun i => if i = T 100 c 5 then b else T 403 c i) (by omega) (by omega) (fun i p q => ?_) (fun i j p q d => ?_)
              · show 0 ≤ (if i = T 100 c 5 then b else T 403 c i) ∧ (if i = T 100 c 5 then b else T 403 c i) < 12
                by_cases z : i = T 100 c 5
                · rw [if_pos z]; omega
                · rw [if_neg z]
                  have y := bd_a hT 403 (by decide +kernel : ta_ 403 = some (1, some 12, 0, 11)) c p
                  omega
              · show (if i = T 100 c 5 then b else T 403 c i) ≠ (if j = T 100 c 5 then b else T 403 c j)
                rw [if_neg (by omega : ¬ i = T 100 c 5)]
                have y := hke c (by omega) (by omega) i p (by omega)
                by_cases z : j = T 100 c 5
                · rw [if_pos z]; intro e; rw [e] at y; omega
                · rw [if_neg z]
                  have y2 := hke c (by omega) (by omega) j (by omega) (by omega)
                  intro e; rw [e] at y; omega
            refine hK 49 _ [] T ?_
            refine j_blx (F := fX10) tb_X10 (nn_ _) bk_X10_enter_49 bs_X10_enter_49 hz (fun K hK => ?_)
            intro b10 b10b
            refine iy_i (by omega) (by omega) ?_
            refine x_nm (fun U11 hU11 => ?_)
            have e12 := up_f hU11
            intro b13 b13b
            have e14 : U11 100 c 5 = T 100 c 5 := up_k hU11 (by exact Nat.ne_of_beq_eq_false rfl) c 5
            rw [e14] at b13 b13b ⊢
            refine iy_i (by omega) (by omega) ?_
            refine x_nm (fun U15 hU15 => ?_)
            have e16 := up_f hU15
            intro b17 b17b
            have e18 : U15 100 c 5 = T 100 c 5 := (up_k hU15 (by exact Nat.ne_of_beq_eq_false rfl) c 5).trans (up_k hU11 (by exact Nat.ne_of_beq_eq_false rfl) c 5)
            rw [e18] at b17 b17b ⊢
            refine rg_i (by omega) ?_
            refine bd_i (by omega) ?_
            refine x_nm (fun U19 hU19 => ?_)
            have e20 := up_f hU19
            intro b21 b21b
            have e22 : U19 100 c 5 = (T 100 c 5) + 1 := up_f hU19
            rw [e22] at b21 b21b ⊢
            refine (show po_X10_enter_k T c b U19 (some (vI ((T 100 c 5) + 1))) from ?_)
            have g6 : U19 106 0 2 = T 106 0 2 := (up_k hU19 (by exact Nat.ne_of_beq_eq_false rfl) 0 _).trans ((up_k hU15 (by exact Nat.ne_of_beq_eq_false rfl) 0 _).trans (up_k hU11 (by exact Nat.ne_of_beq_eq_false rfl) 0 _))
            have g5 : ∀ d, d ≠ c → U19 100 d 5 = T 100 d 5 := fun d y => (up_g hU19 (fun w => y w.2.1)).trans ((up_k hU15 (by exact Nat.ne_of_beq_eq_false rfl) d _).trans (up_k hU11 (by exact Nat.ne_of_beq_eq_false rfl) d _))
            have g5c : U19 100 c 5 = T 100 c 5 + 1 := by omega
            have g3 : ∀ d z, ¬ (d = c ∧ z = T 100 c 5) → U19 403 d z = T 403 d z := fun d z y => (up_k hU19 (by exact Nat.ne_of_beq_eq_false rfl) d z).trans ((up_g hU15 (fun w => y ⟨w.2.1, w.2.2⟩)).trans (up_k hU11 (by exact Nat.ne_of_beq_eq_false rfl) d z))
            have g4 : ∀ d z, ¬ (d = c ∧ z = b) → U19 404 d z = T 404 d z := fun d z y => (up_k hU19 (by exact Nat.ne_of_beq_eq_false rfl) d z).trans ((up_k hU15 (by exact Nat.ne_of_beq_eq_false rfl) d z).trans (up_g hU11 (fun w => y ⟨w.2.1, w.2.2⟩)))
            have f3 : U19 403 c (T 100 c 5) = b := (up_k hU19 (by exact Nat.ne_of_beq_eq_false rfl) c _).trans (up_f hU15)
            have f4 : U19 404 c b = T 100 c 5 := (up_k hU19 (by exact Nat.ne_of_beq_eq_false rfl) c _).trans ((up_k hU15 (by exact Nat.ne_of_beq_eq_false rfl) c _).trans (up_f hU11))
            refine ⟨_, rfl, fr_u (fr_u (fr_u (fr_0 _ _) hU11 rfl) hU15 rfl) hU19 rfl, fun d a9 b9 j p9 q9 => ?_, fun d z hz0 => Classical.byCases (fun y : d = c ∧ z = b => by rw [y.1, y.2, f4]; omega) (fun y => by rw [g4 d z y]; exact hz0)⟩
            by_cases z : d = c
            · subst z
              by_cases y : j = T 100 d 5
              · rw [y, f3, f4]
              · have w := hke d a9 (by omega) j p9 (by omega)
                rw [g3 d j (fun t => y t.2), g4 d _ (fun t => by rw [t.2] at w; omega)]
                exact w
            · rw [g3 d j (fun t => z t.1), g4 d _ (fun t => z t.1)]
              exact hke d a9 (by omega) j p9 (by rw [← g5 d z]; exact q9)
          · refine (show po_X10_enter_k T c b T (some (vI (-4))) from ?_)
            exact ⟨_, rfl, fr_0 _ _, hke, fun _ _ h => h⟩
    · refine (show po_X10_enter_k T c b T (some (vI (-2))) from ?_)
      exact ⟨_, rfl, fr_0 _ _, hke, fun _ _ h => h⟩
abbrev po_X10_walkOver_k (T : Zt) (m d : Int) : Zt → Option Zv → Prop := fun T' r => ∃ x : Int, r = some (vI x) ∧ fr_ [(102, [6])] T T' ∧ (∀ i, T' 102 i 6 = T 102 i 6 ∨ T' 102 i 6 ≠ -1)
set_option maxHeartbeats 4000000 in
theorem ct_X10_walkOver_k {T : Zt} {m d : Int} (hka : KA_ T) : Ct_ yX10_walkOver zX10_walkOver T [vR 110 0, vI m, vI d] (po_X10_walkOver_k T m d) := by
  refine ct_of pn_10 rfl rfl (Nat.le_of_ble_eq_true rfl) (fun hT hav => ?_)
  have hr_m : -2147483648 ≤ m ∧ m ≤ 2147483647 := hav (vI m) (by simp)
  have hr_d : -2147483648 ≤ d ∧ d ≤ 2147483647 := hav (vI d) (by simp)
  have hz : zX10_walkOver.2.2.2.1 = some .boolean → ∀ (T' : Zt) (x : Int), po_X10_walkOver_k T m d T' (some (vI x)) → 0 ≤ x ∧ x ≤ 1 := fun h => by cases h
  have hb_matchCount : 0 ≤ T 106 0 4 ∧ T 106 0 4 ≤ 400 := bd_f hT 106 4 (by decide +kernel : (tf_ 106)[4]? = some (0, 0, 0, 400)) 0
  show J_ zX10_walkOver T (po_X10_walkOver_k T m d) 0 0 0 [some (vR 110 0), some (vI m), some (vI d), none] [] T
  refine j_blx (F := fX10) tb_X10 (nn_ _) bk_X10_walkOver_0 bs_X10_walkOver_0 hz (fun K hK => ?_)
  refine hK 2 _ [vI m, vR 110 0] T ?_
  refine j_callV (y := yX10_isMatch) (Yc := zX10_isMatch) (rest := []) [vI m] (ct_X10_isMatch (T := T)) cl_X10_195 (qd_c (by decide +kernel)) (nn_ _) rfl (rf_of rfl) (Nat.le_of_ble_eq_true rfl) (Nat.le_of_ble_eq_true rfl) (Nat.le_of_ble_eq_true rfl) rfl ?_
  rintro _ _ ⟨rfl, x1, rfl, hx1⟩
  show J_ zX10_walkOver T (po_X10_walkOver_k T m d) 0 0 5 _ [vI x1] T
  refine j_blx (F := fX10) tb_X10 (nn_ _) bk_X10_walkOver_5 bs_X10_walkOver_5 hz (fun K hK => ?_)
  refine And.intro (fun c2 => ?_) (fun c2 => ?_)
  · refine hK 11 _ [] T ?_
    refine j_blx (F := fX10) tb_X10 (nn_ _) bk_X10_walkOver_11 bs_X10_walkOver_11 hz (fun K hK => ?_)
    refine hK 12 _ [vI d] T ?_
    refine j_callS (y := yX10_isSide) (Yc := zX10_isSide) (rest := []) [vI d] (ct_X10_isSide (T := T)) cl_X10_251 (qd_c (by decide +kernel)) (nn_ _) rfl (rf_of rfl) (Nat.le_of_ble_eq_true rfl) (Nat.le_of_ble_eq_true rfl) (Nat.le_of_ble_eq_true rfl) rfl ?_
    rintro _ _ ⟨rfl, x3, rfl, hx3⟩
    show J_ zX10_walkOver T (po_X10_walkOver_k T m d) 0 0 15 _ [vI x3] T
    refine j_blx (F := fX10) tb_X10 (nn_ _) bk_X10_walkOver_15 bs_X10_walkOver_15 hz (fun K hK => ?_)
    refine And.intro (fun c4 => ?_) (fun c4 => ?_)
    · refine hK 21 _ [] T ?_
      refine j_blx (F := fX10) tb_X10 (nn_ _) bk_X10_walkOver_21 bs_X10_walkOver_21 hz (fun K hK => ?_)
      refine ix_i (by omega) ?_
      refine And.intro (fun c5 => ?_) (fun c5 => ?_)
      · exact absurd (show T 523 0 (m) = 0 by omega) (hka.2 _ (by omega) (by omega))
      · refine hK 32 [some (vR 110 0), some (vI m), some (vI d), some (vR 102 m)] [vR 102 m] T ?_
        refine j_callV (y := yX2_phaseOfLife) (Yc := zX2_phaseOfLife) (rest := []) [] (ct_X2_phaseOfLife (T := T)) cl_X10_223 (qd_c (by decide +kernel)) (nn_ _) rfl (rf_of rfl) (Nat.le_of_ble_eq_true rfl) (Nat.le_of_ble_eq_true rfl) (Nat.le_of_ble_eq_true rfl) rfl ?_
        rintro _ _ ⟨rfl, x6, rfl, hx6⟩
        show J_ zX10_walkOver T (po_X10_walkOver_k T m d) 0 0 35 _ [vI x6] T
        refine j_blx (F := fX10) tb_X10 (nn_ _) bk_X10_walkOver_35 bs_X10_walkOver_35 hz (fun K hK => ?_)
        refine And.intro (fun c7 => ?_) (fun c7 => ?_)
        · refine hK 52 _ [] T ?_
          refine j_blx (F := fX10) tb_X10 (nn_ _) bk_X10_walkOver_52 bs_X10_walkOver_52 hz (fun K hK => ?_)
          refine (show po_X10_walkOver_k T m d T (some (vI (-4))) from ?_)
          exact ⟨_, rfl, fr_0 _ _, fun _ => Or.inl rfl⟩
        · intro b8 b8b
          intro b9 b9b
          refine And.intro (fun c10 => ?_) (fun c10 => ?_)
          · refine hK 55 _ [] T ?_
            refine j_blx (F := fX10) tb_X10 (nn_ _) bk_X10_walkOver_55 bs_X10_walkOver_55 hz (fun K hK => ?_)
            refine bd_i (by omega) ?_
            refine x_nm (fun U11 hU11 => ?_)
            have e12 := up_f hU11
            refine (show po_X10_walkOver_k T m d U11 (some (vI 1)) from ?_)
            exact ⟨_, rfl, fr_u (fr_0 _ _) hU11 rfl, fun i => Classical.byCases (fun z : i = m => Or.inr (by rw [z, up_f hU11]; omega)) (fun z => Or.inl (up_g hU11 (fun q => z q.2.1)))⟩
          · refine (show po_X10_walkOver_k T m d T (some (vI (-4))) from ?_)
            exact ⟨_, rfl, fr_0 _ _, fun _ => Or.inl rfl⟩
    · refine (show po_X10_walkOver_k T m d T (some (vI (-3))) from ?_)
      exact ⟨_, rfl, fr_0 _ _, fun _ => Or.inl rfl⟩
  · refine (show po_X10_walkOver_k T m d T (some (vI (-2))) from ?_)
    exact ⟨_, rfl, fr_0 _ _, fun _ => Or.inl rfl⟩
/-- what holds of the house between the calls; N: how many there were -/
def IC_ (N : Int) (T : Zt) : Prop := (KA_ T ∧ KM_ T ∧ KC_ T ∧ KR_ T ∧ KS_ T ∧ KO_ T ∧ KE_ T ∧ KB_ T ∧ KP_ T ∧ KW_ T) ∧ DD_ T ∧ NA_ T ∧ LP_ N T ∧ (T 109 0 15 ≠ 0 → T 190 (T 109 0 15 - 1) (-2) = 4096 ∧ 1 ≤ T 109 0 15) ∧ 0 ≤ T 191 0 0 ∧ T 191 0 0 ≤ 1 + 600 * N
abbrev wt8_ (ws : List (Nat × List Int)) : Prop := ((∀ j, fw_ ws 521 j = false) ∧ (∀ j, fw_ ws 523 j = false) ∧ (∀ j, fw_ ws 401 j = false) ∧ (∀ j, fw_ ws 403 j = false) ∧ (∀ j, fw_ ws 404 j = false)) ∧ (fw_ ws 106 2 = false ∧ fw_ ws 106 4 = false) ∧ (fw_ ws 102 0 = false ∧ fw_ ws 102 1 = false ∧ fw_ ws 102 3 = false ∧ fw_ ws 102 4 = false) ∧ fw_ ws 100 5 = false ∧ fw_ ws 100 6 = false ∧ fw_ ws 100 7 = false ∧ fw_ ws 100 8 = false
theorem ic_t {ws : List (Nat × List Int)} {T T' : Zt} (h : KA_ T ∧ KM_ T ∧ KC_ T ∧ KR_ T ∧ KS_ T ∧ KO_ T ∧ KE_ T ∧ KB_ T ∧ KP_ T ∧ KW_ T) (f : fr_ ws T T') (w : wt8_ ws) : KA_ T' ∧ KM_ T' ∧ KC_ T' ∧ KR_ T' ∧ KS_ T' ∧ KO_ T' ∧ KE_ T' ∧ KB_ T' ∧ KP_ T' ∧ KW_ T' := by
  obtain ⟨k1, k2, k3, k4, k5, k6, k7, k8, k9, k10⟩ := h
  obtain ⟨⟨a1, a2, a3, a4, a5⟩, ⟨b1, b2⟩, ⟨c0, c1, c3, c4⟩, d5, d6, d7, d8⟩ := w
  exact ⟨KA__f k1 f ⟨a1, a2, b1, b2, trivial⟩, KM__f k2 f ⟨c1, c0, b2, b1, trivial⟩, KC__f k3 f ⟨d7, d8, b2, b1, trivial⟩, KR__f k4 f ⟨a3, b1, trivial⟩, KS__f k5 f ⟨a5, d7, d8, c0, c3, c4, b1, trivial⟩, KO__f k6 f ⟨a3, b1, trivial⟩, KE__f k7 f ⟨a4, a5, d5, b1, trivial⟩, KB__f k8 f ⟨a3, b1, trivial⟩, KP__f k9 f ⟨c0, d6, b2, trivial⟩, KW__f k10 f ⟨a3, b1, trivial⟩⟩
abbrev wn_ (ws : List (Nat × List Int)) : Prop := fw_ ws 150 (-1) = false ∧ fw_ ws 152 (-1) = false ∧ fw_ ws 153 (-1) = false ∧ fw_ ws 100 (-1) = false ∧ fw_ ws 102 (-1) = false ∧ fw_ ws 103 (-1) = false ∧ fw_ ws 102 10 = false ∧ fw_ ws 106 4 = false ∧ fw_ ws 106 2 = false
abbrev wl_ (ws : List (Nat × List Int)) : Prop := fw_ ws 106 4 = false ∧ fw_ ws 106 2 = false ∧ fw_ ws 102 10 = false ∧ fw_ ws 103 0 = false ∧ fw_ ws 103 3 = false ∧ fw_ ws 103 14 = false ∧ fw_ ws 103 15 = false ∧ fw_ ws 103 16 = false ∧ fw_ ws 103 17 = false ∧ fw_ ws 470 0 = false ∧ fw_ ws 470 1 = false
/-- a slack row that is there was counted -/
theorem sx_9 {T : Zt} (hT : ok_T T) (ha : al_ T 109 0) (h : T 109 0 15 ≠ 0) : T 109 0 15 - 1 < T 191 0 0 := by
  have h1 := hT.2.2.2.1 109 0 ha 15 5 190 (-2147483648) 2147483647 (by decide +kernel)
  have e : fv_ 5 190 (T 109 0 ((15 : Nat) : Int)) 0 = vR 190 (T 109 0 15 - 1) := by
    show (if T 109 0 15 = 0 then vN else vR 190 (T 109 0 15 - 1)) = _
    rw [if_neg h]
  rw [e] at h1
  have h2 : al_ T 190 (T 109 0 15 - 1) := ok_al (v := none) (by decide) h1
  by_cases z : T 191 0 0 ≤ T 109 0 15 - 1
  · exact absurd h2 (hT.2.2.2.2.2.2.2.2 _ z)
  · omega
theorem sk_l {T T' : Zt} (hT : ok_T T) (ha : al_ T 109 0) (h : T 109 0 15 ≠ 0 → T 190 (T 109 0 15 - 1) (-2) = 4096 ∧ 1 ≤ T 109 0 15) (l : lh_ T T') (e : T' 109 0 15 = T 109 0 15) : T' 109 0 15 ≠ 0 → T' 190 (T' 109 0 15 - 1) (-2) = 4096 ∧ 1 ≤ T' 109 0 15 := by
  rw [e]
  intro z
  rw [l.1 _ (sx_9 hT ha z)]
  exact h z
/-- a call that keeps away from all of it -/
theorem ic_f {N : Int} {ws : List (Nat × List Int)} {T T' : Zt} (h : IC_ N T) (f : fr_ ws T T') (w : wt8_ ws) (w2 : fw_ ws 102 5 = false ∧ fw_ ws 102 6 = false) (wn : wn_ ws) (wl : wl_ ws) (w9 : fw_ ws 109 15 = false ∧ fw_ ws 190 (-2) = false ∧ fw_ ws 191 0 = false) : IC_ (N + 1) T' := by
  obtain ⟨k, d, n, l, s, b1, b2⟩ := h
  have e9 := f 191 0 0 w9.2.2
  refine ⟨ic_t k f w, DD__f d f ⟨w.2.2.1.1, w.2.2.1.2.2.1, w2.1, w2.2, w.2.1.2, trivial⟩, NA_f n f wn, LP_f l (by omega) (lh_f lh_r f w9.2.1 w9.2.2) f wl, ?_, by omega, by omega⟩
  rw [f 109 0 15 w9.1, f 190 _ _ w9.2.1]
  exact s
theorem ic_e {N : Int} {T : Zt} (h : IC_ N T) : IC_ (N + 1) T := ic_f (ws := []) h (fr_0 _ _) ⟨⟨fun _ => rfl, fun _ => rfl, fun _ => rfl, fun _ => rfl, fun _ => rfl⟩, ⟨rfl, rfl⟩, ⟨rfl, rfl, rfl, rfl⟩, rfl, rfl, rfl, rfl⟩ ⟨rfl, rfl⟩ ⟨rfl, rfl, rfl, rfl, rfl, rfl, rfl, rfl, rfl⟩ ⟨rfl, rfl, rfl, rfl, rfl, rfl, rfl, rfl, rfl, rfl, rfl⟩ ⟨rfl, rfl, rfl⟩
theorem ic_person {N : Int} {T T' : Zt} {r : Option Zv} (h : IC_ N T) (q : po_X10_person T T' r) : IC_ (N + 1) T' := by
  obtain ⟨_, -, f, -⟩ := q
  exact ic_f h f ⟨⟨fun _ => rfl, fun _ => rfl, fun _ => rfl, fun _ => rfl, fun _ => rfl⟩, ⟨rfl, rfl⟩, ⟨rfl, rfl, rfl, rfl⟩, rfl, rfl, rfl, rfl⟩ ⟨rfl, rfl⟩ ⟨rfl, rfl, rfl, rfl, rfl, rfl, rfl, rfl, rfl⟩ ⟨rfl, rfl, rfl, rfl, rfl, rfl, rfl, rfl, rfl, rfl, rfl⟩ ⟨rfl, rfl, rfl⟩
theorem ic_club {N : Int} {T T' : Zt} {r : Option Zv} {s c : Int} (h : IC_ N T) (q : po_X10_club T s c T' r) : IC_ (N + 1) T' := by
  obtain ⟨_, -, f, -⟩ := q
  exact ic_f h f ⟨⟨fun _ => rfl, fun _ => rfl, fun _ => rfl, fun _ => rfl, fun _ => rfl⟩, ⟨rfl, rfl⟩, ⟨rfl, rfl, rfl, rfl⟩, rfl, rfl, rfl, rfl⟩ ⟨rfl, rfl⟩ ⟨rfl, rfl, rfl, rfl, rfl, rfl, rfl, rfl, rfl⟩ ⟨rfl, rfl, rfl, rfl, rfl, rfl, rfl, rfl, rfl, rfl, rfl⟩ ⟨rfl, rfl, rfl⟩
theorem ic_official {N : Int} {T T' : Zt} {r : Option Zv} {s c : Int} (h : IC_ N T) (q : po_X10_official T s c T' r) : IC_ (N + 1) T' := by
  obtain ⟨_, -, f, -⟩ := q
  exact ic_f h f ⟨⟨fun _ => rfl, fun _ => rfl, fun _ => rfl, fun _ => rfl, fun _ => rfl⟩, ⟨rfl, rfl⟩, ⟨rfl, rfl, rfl, rfl⟩, rfl, rfl, rfl, rfl⟩ ⟨rfl, rfl⟩ ⟨rfl, rfl, rfl, rfl, rfl, rfl, rfl, rfl, rfl⟩ ⟨rfl, rfl, rfl, rfl, rfl, rfl, rfl, rfl, rfl, rfl, rfl⟩ ⟨rfl, rfl, rfl⟩
theorem ic_day {N : Int} {T T' : Zt} {r : Option Zv} {d : Int} (h : IC_ N T) (q : po_X10_day T d T' r) : IC_ (N + 1) T' := by
  obtain ⟨_, -, f, -⟩ := q
  exact ic_f h f ⟨⟨fun _ => rfl, fun _ => rfl, fun _ => rfl, fun _ => rfl, fun _ => rfl⟩, ⟨rfl, rfl⟩, ⟨rfl, rfl, rfl, rfl⟩, rfl, rfl, rfl, rfl⟩ ⟨rfl, rfl⟩ ⟨rfl, rfl, rfl, rfl, rfl, rfl, rfl, rfl, rfl⟩ ⟨rfl, rfl, rfl, rfl, rfl, rfl, rfl, rfl, rfl, rfl, rfl⟩ ⟨rfl, rfl, rfl⟩
theorem ic_sign {N : Int} {T T' : Zt} {r : Option Zv} {c : Int} (h : IC_ N T) (q : po_X10_sign T c T' r) : IC_ (N + 1) T' := by
  obtain ⟨_, -, f, -⟩ := q
  exact ic_f h f ⟨⟨fun _ => rfl, fun _ => rfl, fun _ => rfl, fun _ => rfl, fun _ => rfl⟩, ⟨rfl, rfl⟩, ⟨rfl, rfl, rfl, rfl⟩, rfl, rfl, rfl, rfl⟩ ⟨rfl, rfl⟩ ⟨rfl, rfl, rfl, rfl, rfl, rfl, rfl, rfl, rfl⟩ ⟨rfl, rfl, rfl, rfl, rfl, rfl, rfl, rfl, rfl, rfl, rfl⟩ ⟨rfl, rfl, rfl⟩
theorem ic_wipe {N : Int} {T T' : Zt} {r : Option Zv} (h : IC_ N T) (q : po_X10_wipe T T' r) : IC_ (N + 1) T' := by
  obtain ⟨_, -, f, -⟩ := q
  exact ic_f h f ⟨⟨fun _ => rfl, fun _ => rfl, fun _ => rfl, fun _ => rfl, fun _ => rfl⟩, ⟨rfl, rfl⟩, ⟨rfl, rfl, rfl, rfl⟩, rfl, rfl, rfl, rfl⟩ ⟨rfl, rfl⟩ ⟨rfl, rfl, rfl, rfl, rfl, rfl, rfl, rfl, rfl⟩ ⟨rfl, rfl, rfl, rfl, rfl, rfl, rfl, rfl, rfl, rfl, rfl⟩ ⟨rfl, rfl, rfl⟩
theorem ic_register {N : Int} {T T' : Zt} {r : Option Zv} {p cl a b : Int} (h : IC_ N T) (q : po_X10_register T p cl a b T' r) : IC_ (N + 1) T' := by
  obtain ⟨_, -, f, -⟩ := q
  exact ic_f h f ⟨⟨fun _ => rfl, fun _ => rfl, fun _ => rfl, fun _ => rfl, fun _ => rfl⟩, ⟨rfl, rfl⟩, ⟨rfl, rfl, rfl, rfl⟩, rfl, rfl, rfl, rfl⟩ ⟨rfl, rfl⟩ ⟨rfl, rfl, rfl, rfl, rfl, rfl, rfl, rfl, rfl⟩ ⟨rfl, rfl, rfl, rfl, rfl, rfl, rfl, rfl, rfl, rfl, rfl⟩ ⟨rfl, rfl, rfl⟩
theorem ic_deduct {N : Int} {T T' : Zt} {r : Option Zv} {c cl p : Int} (h : IC_ N T) (q : po_X10_deduct T c cl p T' r) : IC_ (N + 1) T' := by
  obtain ⟨_, -, f, -⟩ := q
  exact ic_f h f ⟨⟨fun _ => rfl, fun _ => rfl, fun _ => rfl, fun _ => rfl, fun _ => rfl⟩, ⟨rfl, rfl⟩, ⟨rfl, rfl, rfl, rfl⟩, rfl, rfl, rfl, rfl⟩ ⟨rfl, rfl⟩ ⟨rfl, rfl, rfl, rfl, rfl, rfl, rfl, rfl, rfl⟩ ⟨rfl, rfl, rfl, rfl, rfl, rfl, rfl, rfl, rfl, rfl, rfl⟩ ⟨rfl, rfl, rfl⟩
theorem ic_eligible {N : Int} {T T' : Zt} {r : Option Zv} {q m d : Int} (h : IC_ N T) (q : po_X10_eligible T q m d T' r) : IC_ (N + 1) T' := by
  obtain ⟨_, -, f, -⟩ := q
  exact ic_f h f ⟨⟨fun _ => rfl, fun _ => rfl, fun _ => rfl, fun _ => rfl, fun _ => rfl⟩, ⟨rfl, rfl⟩, ⟨rfl, rfl, rfl, rfl⟩, rfl, rfl, rfl, rfl⟩ ⟨rfl, rfl⟩ ⟨rfl, rfl, rfl, rfl, rfl, rfl, rfl, rfl, rfl⟩ ⟨rfl, rfl, rfl, rfl, rfl, rfl, rfl, rfl, rfl, rfl, rfl⟩ ⟨rfl, rfl, rfl⟩
theorem ic_drawing {N : Int} {T T' : Zt} {r : Option Zv} {g l : Int} (h : IC_ N T) (q : po_X10_drawing T g l T' r) : IC_ (N + 1) T' := by
  obtain ⟨_, -, f, -⟩ := q
  exact ic_f h f ⟨⟨fun _ => rfl, fun _ => rfl, fun _ => rfl, fun _ => rfl, fun _ => rfl⟩, ⟨rfl, rfl⟩, ⟨rfl, rfl, rfl, rfl⟩, rfl, rfl, rfl, rfl⟩ ⟨rfl, rfl⟩ ⟨rfl, rfl, rfl, rfl, rfl, rfl, rfl, rfl, rfl⟩ ⟨rfl, rfl, rfl, rfl, rfl, rfl, rfl, rfl, rfl, rfl, rfl⟩ ⟨rfl, rfl, rfl⟩
theorem ic_pot {N : Int} {T T' : Zt} {r : Option Zv} {c k : Int} (h : IC_ N T) (q : po_X10_pot T c k T' r) : IC_ (N + 1) T' := by
  obtain ⟨_, -, f, -⟩ := q
  exact ic_f h f ⟨⟨fun _ => rfl, fun _ => rfl, fun _ => rfl, fun _ => rfl, fun _ => rfl⟩, ⟨rfl, rfl⟩, ⟨rfl, rfl, rfl, rfl⟩, rfl, rfl, rfl, rfl⟩ ⟨rfl, rfl⟩ ⟨rfl, rfl, rfl, rfl, rfl, rfl, rfl, rfl, rfl⟩ ⟨rfl, rfl, rfl, rfl, rfl, rfl, rfl, rfl, rfl, rfl, rfl⟩ ⟨rfl, rfl, rfl⟩
theorem ic_firsts {N : Int} {T T' : Zt} {r : Option Zv} {c b : Int} (h : IC_ N T) (q : po_X10_firsts T c b T' r) : IC_ (N + 1) T' := by
  obtain ⟨_, -, f, -⟩ := q
  exact ic_f h f ⟨⟨fun _ => rfl, fun _ => rfl, fun _ => rfl, fun _ => rfl, fun _ => rfl⟩, ⟨rfl, rfl⟩, ⟨rfl, rfl, rfl, rfl⟩, rfl, rfl, rfl, rfl⟩ ⟨rfl, rfl⟩ ⟨rfl, rfl, rfl, rfl, rfl, rfl, rfl, rfl, rfl⟩ ⟨rfl, rfl, rfl, rfl, rfl, rfl, rfl, rfl, rfl, rfl, rfl⟩ ⟨rfl, rfl, rfl⟩
theorem ic_table {N : Int} {T T' : Zt} {r : Option Zv} {c d b w : Int} (h : IC_ N T) (q : po_X10_table T c d b w T' r) : IC_ (N + 1) T' := by
  obtain ⟨_, -, f, -⟩ := q
  exact ic_f h f ⟨⟨fun _ => rfl, fun _ => rfl, fun _ => rfl, fun _ => rfl, fun _ => rfl⟩, ⟨rfl, rfl⟩, ⟨rfl, rfl, rfl, rfl⟩, rfl, rfl, rfl, rfl⟩ ⟨rfl, rfl⟩ ⟨rfl, rfl, rfl, rfl, rfl, rfl, rfl, rfl, rfl⟩ ⟨rfl, rfl, rfl, rfl, rfl, rfl, rfl, rfl, rfl, rfl, rfl⟩ ⟨rfl, rfl, rfl⟩
theorem ic_parted {N : Int} {T T' : Zt} {r : Option Zv} {c d k : Int} (h : IC_ N T) (q : po_X10_parted T c d k T' r) : IC_ (N + 1) T' := by
  obtain ⟨_, -, f, -⟩ := q
  exact ic_f h f ⟨⟨fun _ => rfl, fun _ => rfl, fun _ => rfl, fun _ => rfl, fun _ => rfl⟩, ⟨rfl, rfl⟩, ⟨rfl, rfl, rfl, rfl⟩, rfl, rfl, rfl, rfl⟩ ⟨rfl, rfl⟩ ⟨rfl, rfl, rfl, rfl, rfl, rfl, rfl, rfl, rfl⟩ ⟨rfl, rfl, rfl, rfl, rfl, rfl, rfl, rfl, rfl, rfl, rfl⟩ ⟨rfl, rfl, rfl⟩
theorem ic_standing {N : Int} {T T' : Zt} {r : Option Zv} {c d k : Int} (h : IC_ N T) (q : po_X10_standing T c d k T' r) : IC_ (N + 1) T' := by
  obtain ⟨_, -, f, -⟩ := q
  exact ic_f h f ⟨⟨fun _ => rfl, fun _ => rfl, fun _ => rfl, fun _ => rfl, fun _ => rfl⟩, ⟨rfl, rfl⟩, ⟨rfl, rfl, rfl, rfl⟩, rfl, rfl, rfl, rfl⟩ ⟨rfl, rfl⟩ ⟨rfl, rfl, rfl, rfl, rfl, rfl, rfl, rfl, rfl⟩ ⟨rfl, rfl, rfl, rfl, rfl, rfl, rfl, rfl, rfl, rfl, rfl⟩ ⟨rfl, rfl, rfl⟩
theorem ic_lineUp {N : Int} {T T' : Zt} {r : Option Zv} {q b s : Int} (h : IC_ N T) (q : po_X10_lineUp T q b s T' r) : IC_ (N + 1) T' := by
  obtain ⟨_, -, f, -⟩ := q
  exact ic_f h f ⟨⟨fun _ => rfl, fun _ => rfl, fun _ => rfl, fun _ => rfl, fun _ => rfl⟩, ⟨rfl, rfl⟩, ⟨rfl, rfl, rfl, rfl⟩, rfl, rfl, rfl, rfl⟩ ⟨rfl, rfl⟩ ⟨rfl, rfl, rfl, rfl, rfl, rfl, rfl, rfl, rfl⟩ ⟨rfl, rfl, rfl, rfl, rfl, rfl, rfl, rfl, rfl, rfl, rfl⟩ ⟨rfl, rfl, rfl⟩
theorem ic_ways {N : Int} {T T' : Zt} {r : Option Zv} (h : IC_ N T) (q : po_X10_ways T T' r) : IC_ (N + 1) T' := by
  obtain ⟨_, -, f, -⟩ := q
  exact ic_f h f ⟨⟨fun _ => rfl, fun _ => rfl, fun _ => rfl, fun _ => rfl, fun _ => rfl⟩, ⟨rfl, rfl⟩, ⟨rfl, rfl, rfl, rfl⟩, rfl, rfl, rfl, rfl⟩ ⟨rfl, rfl⟩ ⟨rfl, rfl, rfl, rfl, rfl, rfl, rfl, rfl, rfl⟩ ⟨rfl, rfl, rfl, rfl, rfl, rfl, rfl, rfl, rfl, rfl, rfl⟩ ⟨rfl, rfl, rfl⟩
theorem ic_chance {N : Int} {T T' : Zt} {r : Option Zv} {c g : Int} (h : IC_ N T) (q : po_X10_chance T c g T' r) : IC_ (N + 1) T' := by
  obtain ⟨_, -, f, -⟩ := q
  exact ic_f h f ⟨⟨fun _ => rfl, fun _ => rfl, fun _ => rfl, fun _ => rfl, fun _ => rfl⟩, ⟨rfl, rfl⟩, ⟨rfl, rfl, rfl, rfl⟩, rfl, rfl, rfl, rfl⟩ ⟨rfl, rfl⟩ ⟨rfl, rfl, rfl, rfl, rfl, rfl, rfl, rfl, rfl⟩ ⟨rfl, rfl, rfl, rfl, rfl, rfl, rfl, rfl, rfl, rfl, rfl⟩ ⟨rfl, rfl, rfl⟩
theorem ic_ball {N : Int} {T T' : Zt} {r : Option Zv} {s b : Int} (h : IC_ N T) (q : po_X10_ball T s b T' r) : IC_ (N + 1) T' := by
  obtain ⟨_, -, f, -⟩ := q
  exact ic_f h f ⟨⟨fun _ => rfl, fun _ => rfl, fun _ => rfl, fun _ => rfl, fun _ => rfl⟩, ⟨rfl, rfl⟩, ⟨rfl, rfl, rfl, rfl⟩, rfl, rfl, rfl, rfl⟩ ⟨rfl, rfl⟩ ⟨rfl, rfl, rfl, rfl, rfl, rfl, rfl, rfl, rfl⟩ ⟨rfl, rfl, rfl, rfl, rfl, rfl, rfl, rfl, rfl, rfl, rfl⟩ ⟨rfl, rfl, rfl⟩
theorem ic_event {N : Int} {T T' : Zt} {r : Option Zv} {m k s a b : Int} (hT : ok_T T) (ha : al_ T 109 0) (h : IC_ N T) (q : po_X10_event T N m k s a b T' r) : IC_ (N + 1) T' := by
  obtain ⟨k, d, n, l, s, b1, b2⟩ := h
  obtain ⟨_, -, f, q1, q2, q3⟩ := q
  have q4 := q2.2
  exact ⟨ic_t k f ⟨⟨fun _ => rfl, fun _ => rfl, fun _ => rfl, fun _ => rfl, fun _ => rfl⟩, ⟨rfl, rfl⟩, ⟨rfl, rfl, rfl, rfl⟩, rfl, rfl, rfl, rfl⟩, DD__f d f ⟨rfl, rfl, rfl, rfl, rfl, trivial⟩, NA_f n f ⟨rfl, rfl, rfl, rfl, rfl, rfl, rfl, rfl, rfl⟩, q1, sk_l hT ha s q2 (f 109 0 15 rfl), by omega, by omega⟩
theorem ic_review {N : Int} {T T' : Zt} {r : Option Zv} {m i k s a b : Int} (hT : ok_T T) (ha : al_ T 109 0) (h : IC_ N T) (q : po_X10_review T N m i k s a b T' r) : IC_ (N + 1) T' := by
  obtain ⟨k, d, n, l, s, b1, b2⟩ := h
  obtain ⟨_, -, f, q1, q2, q3⟩ := q
  have q4 := q2.2
  exact ⟨ic_t k f ⟨⟨fun _ => rfl, fun _ => rfl, fun _ => rfl, fun _ => rfl, fun _ => rfl⟩, ⟨rfl, rfl⟩, ⟨rfl, rfl, rfl, rfl⟩, rfl, rfl, rfl, rfl⟩, DD__f d f ⟨rfl, rfl, rfl, rfl, rfl, trivial⟩, NA_f n f ⟨rfl, rfl, rfl, rfl, rfl, rfl, rfl, rfl, rfl⟩, q1, sk_l hT ha s q2 (f 109 0 15 rfl), by omega, by omega⟩
theorem LP_m {N N2 : Int} {T : Zt} (h : LP_ N T) (g : N ≤ N2) : LP_ N2 T := LP_f (ws := []) h g lh_r (fr_0 _ _) ⟨rfl, rfl, rfl, rfl, rfl, rfl, rfl, rfl, rfl, rfl, rfl⟩
theorem ic_start {N : Int} {T T' : Zt} {r : Option Zv} {m : Int} (hT : ok_T T) (ha : al_ T 109 0) (h : IC_ N T) (q : po_X10_start T N m T' r) : IC_ (N + 1) T' := by
  obtain ⟨k, d, n, l, s, b1, b2⟩ := h
  obtain ⟨_, -, f, q1, q2, q3, q5, -⟩ := q
  have q4 := q2.2
  exact ⟨ic_t k f ⟨⟨fun _ => rfl, fun _ => rfl, fun _ => rfl, fun _ => rfl, fun _ => rfl⟩, ⟨rfl, rfl⟩, ⟨rfl, rfl, rfl, rfl⟩, rfl, rfl, rfl, rfl⟩, DD__f d f ⟨rfl, rfl, rfl, rfl, rfl, trivial⟩, q5, LP_m q1 (by omega), sk_l hT ha s q2 (f 109 0 15 rfl), by omega, by omega⟩
theorem ic_assign {N : Int} {T T' : Zt} {r : Option Zv} {d9 : Int} (hT : ok_T T) (ha : al_ T 109 0) (h : IC_ N T) (q : po_X10_assign T d9 T' r) : IC_ (N + 1) T' := by
  obtain ⟨k, d, n, l, s, b1, b2⟩ := h
  obtain ⟨_, -, f, q2, q3⟩ := q
  have q4 := q2.2
  exact ⟨ic_t k f ⟨⟨fun _ => rfl, fun _ => rfl, fun _ => rfl, fun _ => rfl, fun _ => rfl⟩, ⟨rfl, rfl⟩, ⟨rfl, rfl, rfl, rfl⟩, rfl, rfl, rfl, rfl⟩, DD__f d f ⟨rfl, rfl, rfl, rfl, rfl, trivial⟩, NA_f n f ⟨rfl, rfl, rfl, rfl, rfl, rfl, rfl, rfl, rfl⟩, LP_f l (by omega) q2 f ⟨rfl, rfl, rfl, rfl, rfl, rfl, rfl, rfl, rfl, rfl, rfl⟩, sk_l hT ha s q2 (f 109 0 15 rfl), by omega, by omega⟩
theorem ic_can {N : Int} {T T' : Zt} {r : Option Zv} {c b : Int} (hT : ok_T T) (ha : al_ T 109 0) (h : IC_ N T) (q : po_X10_can T c b T' r) : IC_ (N + 1) T' := by
  obtain ⟨k, d, n, l, s, b1, b2⟩ := h
  obtain ⟨_, -, f, q1, q2, q3⟩ := q
  have q4 := q2.2
  exact ⟨ic_t k f ⟨⟨fun _ => rfl, fun _ => rfl, fun _ => rfl, fun _ => rfl, fun _ => rfl⟩, ⟨rfl, rfl⟩, ⟨rfl, rfl, rfl, rfl⟩, rfl, rfl, rfl, rfl⟩, DD__f d f ⟨rfl, rfl, rfl, rfl, rfl, trivial⟩, NA_f n f ⟨rfl, rfl, rfl, rfl, rfl, rfl, rfl, rfl, rfl⟩, LP_f l (by omega) q2 f ⟨rfl, rfl, rfl, rfl, rfl, rfl, rfl, rfl, rfl, rfl, rfl⟩, q1, by omega, by omega⟩
theorem ic_postpone {N : Int} {T T' : Zt} {r : Option Zv} {m d9 : Int} (h : IC_ N T) (q : po_X10_postpone_k T m d9 T' r) : IC_ (N + 1) T' := by
  obtain ⟨k, d, n, l, s, b1, b2⟩ := h
  obtain ⟨_, -, f, q1⟩ := q
  have e9 := f 191 0 0 rfl
  refine ⟨ic_t k f ⟨⟨fun _ => rfl, fun _ => rfl, fun _ => rfl, fun _ => rfl, fun _ => rfl⟩, ⟨rfl, rfl⟩, ⟨rfl, rfl, rfl, rfl⟩, rfl, rfl, rfl, rfl⟩, q1, NA_f n f ⟨rfl, rfl, rfl, rfl, rfl, rfl, rfl, rfl, rfl⟩, LP_f l (by omega) (lh_f lh_r f rfl rfl) f ⟨rfl, rfl, rfl, rfl, rfl, rfl, rfl, rfl, rfl, rfl, rfl⟩, ?_, by omega, by omega⟩
  rw [f 109 0 15 rfl, f 190 _ _ rfl]
  exact s
theorem ic_walkOver {N : Int} {T T' : Zt} {r : Option Zv} {m d9 : Int} (h : IC_ N T) (q : po_X10_walkOver_k T m d9 T' r) : IC_ (N + 1) T' := by
  obtain ⟨k, d, n, l, s, b1, b2⟩ := h
  obtain ⟨_, -, f, q1⟩ := q
  have e9 := f 191 0 0 rfl
  refine ⟨ic_t k f ⟨⟨fun _ => rfl, fun _ => rfl, fun _ => rfl, fun _ => rfl, fun _ => rfl⟩, ⟨rfl, rfl⟩, ⟨rfl, rfl, rfl, rfl⟩, rfl, rfl, rfl, rfl⟩, fun i j a b c e1 e2 => ?_, NA_f n f ⟨rfl, rfl, rfl, rfl, rfl, rfl, rfl, rfl, rfl⟩, LP_f l (by omega) (lh_f lh_r f rfl rfl) f ⟨rfl, rfl, rfl, rfl, rfl, rfl, rfl, rfl, rfl, rfl, rfl⟩, ?_, by omega, by omega⟩
  · rw [f 106 0 4 rfl] at c
    rw [f 102 i 0 rfl, f 102 j 0 rfl, f 102 i 3 rfl, f 102 j 3 rfl, f 102 i 5 rfl, f 102 j 5 rfl]
    exact d i j a b c (by rcases q1 i with z | z <;> omega) (by rcases q1 j with z | z <;> omega)
  · rw [f 109 0 15 rfl, f 190 _ _ rfl]
    exact s
theorem ic_enter {N : Int} {T T' : Zt} {r : Option Zv} {c9 b9 : Int} (h : IC_ N T) (q : po_X10_enter_k T c9 b9 T' r) : IC_ (N + 1) T' := by
  obtain ⟨⟨k1, k2, k3, k4, k5, k6, k7, k8, k9, k10⟩, d, n, l, s, b1, b2⟩ := h
  obtain ⟨_, -, f, q1, q2⟩ := q
  have e9 := f 191 0 0 rfl
  refine ⟨⟨KA__f k1 f ⟨fun _ => rfl, fun _ => rfl, rfl, rfl, trivial⟩, KM__f k2 f ⟨rfl, rfl, rfl, rfl, trivial⟩, KC__f k3 f ⟨rfl, rfl, rfl, rfl, trivial⟩, KR__f k4 f ⟨fun _ => rfl, rfl, trivial⟩, fun c a b m p q => ?_, KO__f k6 f ⟨fun _ => rfl, rfl, trivial⟩, q1, KB__f k8 f ⟨fun _ => rfl, rfl, trivial⟩, KP__f k9 f ⟨rfl, rfl, rfl, trivial⟩, KW__f k10 f ⟨fun _ => rfl, rfl, trivial⟩⟩, DD__f d f ⟨rfl, rfl, rfl, rfl, rfl, trivial⟩, NA_f n f ⟨rfl, rfl, rfl, rfl, rfl, rfl, rfl, rfl, rfl⟩, LP_f l (by omega) (lh_f lh_r f rfl rfl) f ⟨rfl, rfl, rfl, rfl, rfl, rfl, rfl, rfl, rfl, rfl, rfl⟩, ?_, by omega, by omega⟩
  · rw [f 106 0 2 rfl] at b
    rw [f 100 c 7 rfl] at p
    rw [f 100 c 7 rfl, f 100 c 8 rfl] at q
    rw [f 102 m 0 rfl, f 102 m 3 rfl, f 102 m 4 rfl]
    have y := k5 c a b m p q
    exact ⟨y.1, q2 _ _ y.2.1, q2 _ _ y.2.2⟩
  · rw [f 109 0 15 rfl, f 190 _ _ rfl]
    exact s
theorem ic_plan {N : Int} {T T' : Zt} {r : Option Zv} {c b : Int} (hT : ok_T T) (h : IC_ N T) (q : po_X10_plan T c b T' r) : IC_ (N + 1) T' := by
  obtain ⟨_, -, q⟩ := q
  rcases q with q | q
  · rw [q]; exact ic_e h
  · obtain ⟨⟨k1, k2, k3, k4, k5, k6, k7, k8, k9, k10⟩, d, n, l, s, b1, b2⟩ := h
    have f := q.2.1
    obtain ⟨g1, g2, g3, g4, g5, g6, g7, g8⟩ := sc_ic q k1 k2 k3 k5 k9 d (LP_m l (show N ≤ N + 1 by omega)) (fun i => (bd_f hT 100 7 (by decide +kernel : (tf_ 100)[7]? = some (0, 0, 0, 400)) i).1) (bd_f hT 106 4 (by decide +kernel : (tf_ 106)[4]? = some (0, 0, 0, 400)) 0).1
    have e9 := f 191 0 0 rfl
    refine ⟨⟨g1, g2, g3, KR__f k4 f ⟨fun _ => rfl, rfl, trivial⟩, g4, KO__f k6 f ⟨fun _ => rfl, rfl, trivial⟩, KE__f k7 f ⟨fun _ => rfl, fun _ => rfl, rfl, rfl, trivial⟩, KB__f k8 f ⟨fun _ => rfl, rfl, trivial⟩, g5, KW__f k10 f ⟨fun _ => rfl, rfl, trivial⟩⟩, g6, g7, g8, ?_, by omega, by omega⟩
    rw [f 109 0 15 rfl, f 190 _ _ rfl]
    exact s
theorem ic_competition {N : Int} {T T' : Zt} {r : Option Zv} (hT : ok_T T) (h : IC_ N T) (q : po_X10_competition T T' r) : IC_ (N + 1) T' := by
  obtain ⟨_, -, q⟩ := q
  rcases q with f | ⟨f, ⟨e2, e4⟩, q1, q2, q3, ⟨z5, z6, z7, z8⟩, q4, q5, q6⟩
  · exact ic_f h f ⟨⟨fun _ => rfl, fun _ => rfl, fun _ => rfl, fun _ => rfl, fun _ => rfl⟩, ⟨rfl, rfl⟩, ⟨rfl, rfl, rfl, rfl⟩, rfl, rfl, rfl, rfl⟩ ⟨rfl, rfl⟩ ⟨rfl, rfl, rfl, rfl, rfl, rfl, rfl, rfl, rfl⟩ ⟨rfl, rfl, rfl, rfl, rfl, rfl, rfl, rfl, rfl, rfl, rfl⟩ ⟨rfl, rfl, rfl⟩
  · obtain ⟨⟨k1, k2, k3, k4, k5, k6, k7, k8, k9, k10⟩, d, n, l, s, b1, b2⟩ := h
    have e9 := f 191 0 0 rfl
    have em := f 106 0 4 rfl
    have hm : 0 ≤ T 106 0 4 := (bd_f hT 106 4 (by decide +kernel : (tf_ 106)[4]? = some (0, 0, 0, 400)) 0).1
    have hc : 0 ≤ T 106 0 2 := (bd_f hT 106 2 (by decide +kernel : (tf_ 106)[2]? = some (0, 0, 0, 4)) 0).1
    have o401 : ∀ c j, c ≠ T 106 0 2 → T' 401 c j = T 401 c j := fun c j h => q1 401 c j (Or.inr (Or.inr (Or.inl rfl))) h
    have o100 : ∀ c j, c ≠ T 106 0 2 → T' 100 c j = T 100 c j := fun c j h => q1 100 c j (Or.inl rfl) h
    have o403 : ∀ c j, c ≠ T 106 0 2 → T' 403 c j = T 403 c j := fun c j h => q1 403 c j (Or.inr (Or.inr (Or.inr (Or.inl rfl)))) h
    have o404 : ∀ c j, c ≠ T 106 0 2 → T' 404 c j = T 404 c j := fun c j h => q1 404 c j (Or.inr (Or.inr (Or.inr (Or.inr rfl)))) h
    have e02 : ∀ i j, T' 102 i j = T 102 i j := fun i j => f 102 i j rfl
    refine ⟨⟨⟨fun i a b => ?_, fun i a b => ?_⟩, fun m a b => ?_, fun c a b => ?_, fun c a b => ?_, fun c a b m p q => ?_, fun c a b => ?_, fun c a b j p q => ?_, fun c a b => ?_, fun m a b => ?_, fun c a b => ?_⟩, DD__f d f ⟨rfl, rfl, rfl, rfl, rfl, trivial⟩, q6, fun p a b g => ?_, ?_, by omega, by omega⟩
    · by_cases z : i = T 106 0 2
      · rw [z, q3]; decide
      · rw [q2 i z]; exact k1.1 i a (by omega)
    · rw [f 523 0 i rfl]; exact k1.2 i a (by omega)
    · have y := k2 m a (by omega)
      rw [e02, e02]
      omega
    · by_cases z : c = T 106 0 2
      · rw [z, z7, z8]; omega
      · rw [o100 c 7 z, o100 c 8 z, em]; exact k3 c a (by omega)
    · by_cases z : c = T 106 0 2
      · rw [z]; exact q4 9 (by omega) (by omega)
      · rw [o401 c 9 z]; exact k4 c a (by omega)
    · by_cases z : c = T 106 0 2
      · rw [z, z7] at p; rw [z, z7, z8] at q; omega
      · rw [o100 c 7 z] at p
        rw [o100 c 7 z, o100 c 8 z] at q
        rw [e02, e02, e02, o404 c _ z, o404 c _ z]
        exact k5 c a (by omega) m p q
    · by_cases z : c = T 106 0 2
      · rw [z]; exact (q4 4 (by omega) (by omega)).2
      · rw [o401 c 4 z]; exact k6 c a (by omega)
    · by_cases z : c = T 106 0 2
      · rw [z, z5] at q; omega
      · rw [o100 c 5 z] at q
        rw [o403 c j z, o404 c _ z]
        exact k7 c a (by omega) j p q
    · by_cases z : c = T 106 0 2
      · rw [z]
        have y6 := q4 6 (by omega) (by omega)
        have y7 := q4 7 (by omega) (by omega)
        have w1 : (sa_ 1).getD (Int.toNat 6) 0 = 1 := by decide
        have w2 : (sa_ 2).getD (Int.toNat 6) 0 = 4 := by decide
        have w3 : (sa_ 1).getD (Int.toNat 7) 0 = 1 := by decide
        have w4 : (sa_ 2).getD (Int.toNat 7) 0 = 30 := by decide
        omega
      · rw [o401 c 6 z, o401 c 7 z]; exact k8 c a (by omega)
    · have y := k2 m a (by omega)
      rw [e02, o100 _ 6 (by omega)]
      exact k9 m a (by omega)
    · by_cases z : c = T 106 0 2
      · rw [z]; exact q5
      · rw [o401 c 2 z, o401 c 1 z]; exact k10 c a (by omega)
    · rw [e02] at g
      exact Lp_o (l p a (by omega) g) (by omega) ⟨fun x _ => f 190 x _ rfl, by omega⟩ (by omega) ⟨f _ _ _ rfl, f _ _ _ rfl, f _ _ _ rfl, f _ _ _ rfl, f _ _ _ rfl, f _ _ _ rfl, f _ _ _ rfl, f _ _ _ rfl⟩
    · rw [f 109 0 15 rfl, f 190 _ _ rfl]
      exact s
