theorem bk_X10_eligible_f_0 : ck_ fX10 (some .int) cX10_eligible 0 [.aload 0, .iload 1] 2 = true := qck_r (nn_ _) (by decide +kernel)
theorem bs_X10_eligible_f_0 {P : Zt → Option Zv → Prop} (K : Int → Zl → List Zv → Zt → Prop) : sx_ K P [.aload 0, .iload 1] 2 = x_aload 0 (x_iload 1 (K 2)) := ((xe_aload 0).trans (congrArg (x_aload 0) ((xe_iload 1).trans (congrArg (x_iload 1) xe_nil))))
theorem bk_X10_eligible_f_5 : ck_ fX10 (some .int) cX10_eligible 5 [.ifCond .eq 16, .aload 0, .iload 2] 10 = true := qck_r (nn_ _) (by decide +kernel)
theorem bs_X10_eligible_f_5 {P : Zt → Option Zv → Prop} (K : Int → Zl → List Zv → Zt → Prop) : sx_ K P [.ifCond .eq 16, .aload 0, .iload 2] 10 = x_ifCond .eq 16 K (x_aload 0 (x_iload 2 (K 10))) := ((xe_ifCond .eq 16).trans (congrArg (x_ifCond .eq 16 K) ((xe_aload 0).trans (congrArg (x_aload 0) ((xe_iload 2).trans (congrArg (x_iload 2) xe_nil))))))
theorem bk_X10_eligible_f_16 : ck_ fX10 (some .int) cX10_eligible 16 [.iconst (-2), .ireturn] 19 = true := qck_r (nn_ _) (by decide +kernel)
theorem bs_X10_eligible_f_16 {P : Zt → Option Zv → Prop} (K : Int → Zl → List Zv → Zt → Prop) : sx_ K P [.iconst (-2), .ireturn] 19 = x_iconst (-2) (x_ireturn P) := ((xe_iconst (-2)).trans (congrArg (x_iconst (-2)) (xe_ireturn)))
theorem bk_X10_eligible_f_13 : ck_ fX10 (some .int) cX10_eligible 13 [.ifCond .ne 19, .iconst (-2), .ireturn] 19 = true := qck_r (nn_ _) (by decide +kernel)
theorem bs_X10_eligible_f_13 {P : Zt → Option Zv → Prop} (K : Int → Zl → List Zv → Zt → Prop) : sx_ K P [.ifCond .ne 19, .iconst (-2), .ireturn] 19 = x_ifCond .ne 19 K (x_iconst (-2) (x_ireturn P)) := ((xe_ifCond .ne 19).trans (congrArg (x_ifCond .ne 19 K) ((xe_iconst (-2)).trans (congrArg (x_iconst (-2)) (xe_ireturn)))))
theorem bk_X10_eligible_f_19 : ck_ fX10 (some .int) cX10_eligible 19 [.iload 3] 20 = true := qck_r (nn_ _) (by decide +kernel)
theorem bs_X10_eligible_f_19 {P : Zt → Option Zv → Prop} (K : Int → Zl → List Zv → Zt → Prop) : sx_ K P [.iload 3] 20 = x_iload 3 (K 20) := ((xe_iload 3).trans (congrArg (x_iload 3) xe_nil))
theorem bk_X10_eligible_f_23 : ck_ fX10 (some .int) cX10_eligible 23 [.ifCond .ne 29, .iconst (-3), .ireturn] 29 = true := qck_r (nn_ _) (by decide +kernel)
theorem bs_X10_eligible_f_23 {P : Zt → Option Zv → Prop} (K : Int → Zl → List Zv → Zt → Prop) : sx_ K P [.ifCond .ne 29, .iconst (-3), .ireturn] 29 = x_ifCond .ne 29 K (x_iconst (-3) (x_ireturn P)) := ((xe_ifCond .ne 29).trans (congrArg (x_ifCond .ne 29 K) ((xe_iconst (-3)).trans (congrArg (x_iconst (-3)) (xe_ireturn)))))
theorem bk_X10_eligible_f_29 : ck_ fX10 (some .int) cX10_eligible 29 [.aload 0, .tableswitch 0 10 2 #[], .iload 1, .aload 0, .tableswitch 0 10 2 #[], .tableswitch 0 6 3 #[], .iload 2, .aaload, .iload 3] 44 = true := qck_r (nn_ _) (by decide +kernel)
theorem bs_X10_eligible_f_29 {P : Zt → Option Zv → Prop} (K : Int → Zl → List Zv → Zt → Prop) : sx_ K P [.aload 0, .tableswitch 0 10 2 #[], .iload 1, .aload 0, .tableswitch 0 10 2 #[], .tableswitch 0 6 3 #[], .iload 2, .aaload, .iload 3] 44 = x_aload 0 (x_g1 110 106 (x_iload 1 (x_aload 0 (x_g1 110 106 (x_g1 106 523 (x_iload 2 (x_aaload (x_iload 3 (K 44))))))))) := ((xe_aload 0).trans (congrArg (x_aload 0) ((xe_g1 (kk := 110) rfl tl_10_2).trans (congrArg (x_g1 110 106) ((xe_iload 1).trans (congrArg (x_iload 1) ((xe_aload 0).trans (congrArg (x_aload 0) ((xe_g1 (kk := 110) rfl tl_10_2).trans (congrArg (x_g1 110 106) ((xe_g1 (kk := 106) rfl tl_6_3).trans (congrArg (x_g1 106 523) ((xe_iload 2).trans (congrArg (x_iload 2) ((xe_aaload).trans (congrArg (x_aaload) ((xe_iload 3).trans (congrArg (x_iload 3) xe_nil))))))))))))))))))
theorem bk_X10_eligible_f_47 : ck_ fX10 (some .int) cX10_eligible 47 [.ireturn] 48 = true := qck_r (nn_ _) (by decide +kernel)
theorem bs_X10_eligible_f_47 {P : Zt → Option Zv → Prop} (K : Int → Zl → List Zv → Zt → Prop) : sx_ K P [.ireturn] 48 = x_ireturn P := (xe_ireturn)
abbrev po_X10_eligible_f (T : Zt) (q m d : Int) : Zt → Option Zv → Prop := fun T' r => ∃ x : Int, r = some (vI x) ∧ fr_ [(533, [])] T T' ∧ ((x = -2 ∧ ¬ ((0 ≤ q ∧ q < T 108 0 3) ∧ 0 ≤ m ∧ m < T 106 0 4)) ∨ (((0 ≤ q ∧ q < T 108 0 3) ∧ 0 ≤ m ∧ m < T 106 0 4) ∧ ((x = -3 ∧ ¬ (0 ≤ d ∧ d ≤ 1)) ∨ ((0 ≤ d ∧ d ≤ 1) ∧ x = wyH_ T q m d))))
set_option maxHeartbeats 4000000 in
theorem ct_X10_eligible_f {T : Zt} {q m d : Int} (hka : KA_ T) (hkm : KM_ T) (hkc : KC_ T) (hsp : SPR_ T) : Ct_ yX10_eligible zX10_eligible T [vR 110 0, vI q, vI m, vI d] (po_X10_eligible_f T q m d) := by
  refine ct_of pn_10 rfl rfl (Nat.le_of_ble_eq_true rfl) (fun hT hav => ?_)
  have hr_q : -2147483648 ≤ q ∧ q ≤ 2147483647 := hav (vI q) (List.mem_cons_of_mem _ List.mem_cons_self)
  have hr_m : -2147483648 ≤ m ∧ m ≤ 2147483647 := hav (vI m) (List.mem_cons_of_mem _ (List.mem_cons_of_mem _ List.mem_cons_self))
  have hr_d : -2147483648 ≤ d ∧ d ≤ 2147483647 := hav (vI d) (List.mem_cons_of_mem _ (List.mem_cons_of_mem _ (List.mem_cons_of_mem _ List.mem_cons_self)))
  have hz : zX10_eligible.2.2.2.1 = some .boolean → ∀ (T' : Zt) (x : Int), po_X10_eligible_f T q m d T' (some (vI x)) → 0 ≤ x ∧ x ≤ 1 := fun h => by cases h
  have hb_matchCount : 0 ≤ T 106 0 4 ∧ T 106 0 4 ≤ 400 := bd_f hT 106 4 tl_6_4 0
  have hb_persons : 0 ≤ T 108 0 3 ∧ T 108 0 3 ≤ 200 := bd_f hT 108 3 tl_8_3 0
  show J_ zX10_eligible T (po_X10_eligible_f T q m d) 0 0 0 [some (vR 110 0), some (vI q), some (vI m), some (vI d)] [] T
  refine j_blx (F := fX10) tb_X10 (nn_ _) bk_X10_eligible_f_0 bs_X10_eligible_f_0 hz (fun K hK => ?_)
  refine hK 2 _ [vI q, vR 110 0] T ?_
  refine j_callV (y := yX10_isPerson) (Yc := zX10_isPerson) (rest := []) [vI q] (ct_X10_isPerson (T := T)) cl_X10_134 (qd_c (by decide +kernel)) (nn_ _) rfl (rf_of rfl) (Nat.le_of_ble_eq_true rfl) (Nat.le_of_ble_eq_true rfl) (Nat.le_of_ble_eq_true rfl) rfl ?_
  rintro _ _ ⟨rfl, x1, rfl, hx1⟩
  show J_ zX10_eligible T (po_X10_eligible_f T q m d) 0 0 5 _ [vI x1] T
  refine j_blx (F := fX10) tb_X10 (nn_ _) bk_X10_eligible_f_5 bs_X10_eligible_f_5 hz (fun K hK => ?_)
  refine And.intro (fun c2 => ?_) (fun c2 => ?_)
  · replace hx1 := hx1.resolve_left (fun z => absurd (c2.symm.trans z.1) (by decide))
    clear c2
    refine hK 16 _ [] T ?_
    refine j_blx (F := fX10) tb_X10 (nn_ _) bk_X10_eligible_f_16 bs_X10_eligible_f_16 hz (fun K hK => ?_)
    refine (show po_X10_eligible_f T q m d T (some (vI (-2))) from ?_)
    exact ⟨_, rfl, fr_0 _ _, by omega⟩
  · replace hx1 := hx1.resolve_right (fun z => c2 z.1)
    clear c2
    refine hK 10 _ [vI m, vR 110 0] T ?_
    refine j_callV (y := yX10_isMatch) (Yc := zX10_isMatch) (rest := []) [vI m] (ct_X10_isMatch (T := T)) cl_X10_195 (qd_c (by decide +kernel)) (nn_ _) rfl (rf_of rfl) (Nat.le_of_ble_eq_true rfl) (Nat.le_of_ble_eq_true rfl) (Nat.le_of_ble_eq_true rfl) rfl ?_
    rintro _ _ ⟨rfl, x3, rfl, hx3⟩
    show J_ zX10_eligible T (po_X10_eligible_f T q m d) 0 0 13 _ [vI x3] T
    refine j_blx (F := fX10) tb_X10 (nn_ _) bk_X10_eligible_f_13 bs_X10_eligible_f_13 hz (fun K hK => ?_)
    refine And.intro (fun c4 => ?_) (fun c4 => ?_)
    · replace hx3 := hx3.resolve_right (fun z => c4 z.1)
      clear c4
      refine hK 19 _ [] T ?_
      refine j_blx (F := fX10) tb_X10 (nn_ _) bk_X10_eligible_f_19 bs_X10_eligible_f_19 hz (fun K hK => ?_)
      refine hK 20 _ [vI d] T ?_
      refine j_callS (y := yX10_isSide) (Yc := zX10_isSide) (rest := []) [vI d] (ct_X10_isSide (T := T)) cl_X10_251 (qd_c (by decide +kernel)) (nn_ _) rfl (rf_of rfl) (Nat.le_of_ble_eq_true rfl) (Nat.le_of_ble_eq_true rfl) (Nat.le_of_ble_eq_true rfl) rfl ?_
      rintro _ _ ⟨rfl, x5, rfl, hx5⟩
      show J_ zX10_eligible T (po_X10_eligible_f T q m d) 0 0 23 _ [vI x5] T
      refine j_blx (F := fX10) tb_X10 (nn_ _) bk_X10_eligible_f_23 bs_X10_eligible_f_23 hz (fun K hK => ?_)
      refine And.intro (fun c6 => ?_) (fun c6 => ?_)
      · replace hx5 := hx5.resolve_right (fun z => c6 z.1)
        clear c6
        refine hK 29 _ [] T ?_
        refine j_blx (F := fX10) tb_X10 (nn_ _) bk_X10_eligible_f_29 bs_X10_eligible_f_29 hz (fun K hK => ?_)
        refine ix_i (by omega) ?_
        refine And.intro (fun c7 => ?_) (fun c7 => ?_)
        · exact absurd (show T 523 0 (m) = 0 from Int.le_antisymm (by omega) (by omega)) (hka.2 _ (by omega) (by omega))
        · refine hK 44 _ [vI d, vR 102 m, vI q, vR 106 0] T ?_
          refine j_callV (y := yX6_whyNot) (Yc := zX6_whyNot) (rest := []) [vI q, vR 102 m, vI d] (ct_X6_whyNot_f (T := T) (hka) (hkm) (hkc) (by omega) (by omega) (by omega) hsp) cl_X10_254 (qd_c (by decide +kernel)) (nn_ _) rfl (rf_of rfl) (Nat.le_of_ble_eq_true rfl) (Nat.le_of_ble_eq_true rfl) (Nat.le_of_ble_eq_true rfl) rfl ?_
          rintro U8 _ ⟨x9, rfl, fU8, qU8⟩
          show J_ zX10_eligible T (po_X10_eligible_f T q m d) 0 0 47 _ [vI x9] U8
          refine j_blx (F := fX10) tb_X10 (nn_ _) bk_X10_eligible_f_47 bs_X10_eligible_f_47 hz (fun K hK => ?_)
          refine (show po_X10_eligible_f T q m d U8 (some (vI x9)) from ?_)
          exact ⟨_, rfl, fr_t (fr_0 _ _) (fr_s fU8 rfl), by omega⟩
      · replace hx5 := hx5.resolve_left (fun z => absurd (c6.symm.trans z.1) (by decide))
        clear c6
        refine (show po_X10_eligible_f T q m d T (some (vI (-3))) from ?_)
        exact ⟨_, rfl, fr_0 _ _, by omega⟩
    · replace hx3 := hx3.resolve_left (fun z => absurd (c4.symm.trans z.1) (by decide))
      clear c4
      refine (show po_X10_eligible_f T q m d T (some (vI (-2))) from ?_)
      exact ⟨_, rfl, fr_0 _ _, by omega⟩
theorem bk_X10_lineUp_f_0 : ck_ fX10 (some .int) cX10_lineUp 0 [.aload 0, .iload 1] 2 = true := qck_r (nn_ _) (by decide +kernel)
theorem bs_X10_lineUp_f_0 {P : Zt → Option Zv → Prop} (K : Int → Zl → List Zv → Zt → Prop) : sx_ K P [.aload 0, .iload 1] 2 = x_aload 0 (x_iload 1 (K 2)) := ((xe_aload 0).trans (congrArg (x_aload 0) ((xe_iload 1).trans (congrArg (x_iload 1) xe_nil))))
theorem bk_X10_lineUp_f_5 : ck_ fX10 (some .int) cX10_lineUp 5 [.ifCond .eq 16, .aload 0, .iload 2] 10 = true := qck_r (nn_ _) (by decide +kernel)
theorem bs_X10_lineUp_f_5 {P : Zt → Option Zv → Prop} (K : Int → Zl → List Zv → Zt → Prop) : sx_ K P [.ifCond .eq 16, .aload 0, .iload 2] 10 = x_ifCond .eq 16 K (x_aload 0 (x_iload 2 (K 10))) := ((xe_ifCond .eq 16).trans (congrArg (x_ifCond .eq 16 K) ((xe_aload 0).trans (congrArg (x_aload 0) ((xe_iload 2).trans (congrArg (x_iload 2) xe_nil))))))
theorem bk_X10_lineUp_f_16 : ck_ fX10 (some .int) cX10_lineUp 16 [.iconst (-2), .ireturn] 19 = true := qck_r (nn_ _) (by decide +kernel)
theorem bs_X10_lineUp_f_16 {P : Zt → Option Zv → Prop} (K : Int → Zl → List Zv → Zt → Prop) : sx_ K P [.iconst (-2), .ireturn] 19 = x_iconst (-2) (x_ireturn P) := ((xe_iconst (-2)).trans (congrArg (x_iconst (-2)) (xe_ireturn)))
theorem bk_X10_lineUp_f_13 : ck_ fX10 (some .int) cX10_lineUp 13 [.ifCond .ne 19, .iconst (-2), .ireturn] 19 = true := qck_r (nn_ _) (by decide +kernel)
theorem bs_X10_lineUp_f_13 {P : Zt → Option Zv → Prop} (K : Int → Zl → List Zv → Zt → Prop) : sx_ K P [.ifCond .ne 19, .iconst (-2), .ireturn] 19 = x_ifCond .ne 19 K (x_iconst (-2) (x_ireturn P)) := ((xe_ifCond .ne 19).trans (congrArg (x_ifCond .ne 19 K) ((xe_iconst (-2)).trans (congrArg (x_iconst (-2)) (xe_ireturn)))))
theorem bk_X10_lineUp_f_19 : ck_ fX10 (some .int) cX10_lineUp 19 [.iload 3] 20 = true := qck_r (nn_ _) (by decide +kernel)
theorem bs_X10_lineUp_f_19 {P : Zt → Option Zv → Prop} (K : Int → Zl → List Zv → Zt → Prop) : sx_ K P [.iload 3] 20 = x_iload 3 (K 20) := ((xe_iload 3).trans (congrArg (x_iload 3) xe_nil))
theorem bk_X10_lineUp_f_23 : ck_ fX10 (some .int) cX10_lineUp 23 [.ifCond .ne 29, .iconst (-3), .ireturn] 29 = true := qck_r (nn_ _) (by decide +kernel)
theorem bs_X10_lineUp_f_23 {P : Zt → Option Zv → Prop} (K : Int → Zl → List Zv → Zt → Prop) : sx_ K P [.ifCond .ne 29, .iconst (-3), .ireturn] 29 = x_ifCond .ne 29 K (x_iconst (-3) (x_ireturn P)) := ((xe_ifCond .ne 29).trans (congrArg (x_ifCond .ne 29 K) ((xe_iconst (-3)).trans (congrArg (x_iconst (-3)) (xe_ireturn)))))
theorem bk_X10_lineUp_f_29 : ck_ fX10 (some .int) cX10_lineUp 29 [.aload 0, .tableswitch 0 10 2 #[], .tableswitch 0 6 3 #[], .iload 2, .aaload, .astore 4, .aload 4] 42 = true := qck_r (nn_ _) (by decide +kernel)
theorem bs_X10_lineUp_f_29 {P : Zt → Option Zv → Prop} (K : Int → Zl → List Zv → Zt → Prop) : sx_ K P [.aload 0, .tableswitch 0 10 2 #[], .tableswitch 0 6 3 #[], .iload 2, .aaload, .astore 4, .aload 4] 42 = x_aload 0 (x_g1 110 106 (x_g1 106 523 (x_iload 2 (x_aaload (x_astore 4 (x_aload 4 (K 42))))))) := ((xe_aload 0).trans (congrArg (x_aload 0) ((xe_g1 (kk := 110) rfl tl_10_2).trans (congrArg (x_g1 110 106) ((xe_g1 (kk := 106) rfl tl_6_3).trans (congrArg (x_g1 106 523) ((xe_iload 2).trans (congrArg (x_iload 2) ((xe_aaload).trans (congrArg (x_aaload) ((xe_astore 4).trans (congrArg (x_astore 4) ((xe_aload 4).trans (congrArg (x_aload 4) xe_nil))))))))))))))
theorem bk_X10_lineUp_f_45 : ck_ fX10 (some .int) cX10_lineUp 45 [.ifCond .eq 51, .iconst (-4), .ireturn] 51 = true := qck_r (nn_ _) (by decide +kernel)
theorem bs_X10_lineUp_f_45 {P : Zt → Option Zv → Prop} (K : Int → Zl → List Zv → Zt → Prop) : sx_ K P [.ifCond .eq 51, .iconst (-4), .ireturn] 51 = x_ifCond .eq 51 K (x_iconst (-4) (x_ireturn P)) := ((xe_ifCond .eq 51).trans (congrArg (x_ifCond .eq 51 K) ((xe_iconst (-4)).trans (congrArg (x_iconst (-4)) (xe_ireturn)))))
theorem bk_X10_lineUp_f_51 : ck_ fX10 (some .int) cX10_lineUp 51 [.aload 4, .tableswitch 0 2 9 #[], .iload 3, .iaload, .aload 4, .tableswitch 0 2 0 #[], .tableswitch 0 0 1 #[], .iconst 9, .iaload, .iconst 4, .iadd, .if_icmp .lt 77, .iconst (-5), .ireturn] 77 = true := qck_r (nn_ _) (by decide +kernel)
theorem bs_X10_lineUp_f_51 {P : Zt → Option Zv → Prop} (K : Int → Zl → List Zv → Zt → Prop) : sx_ K P [.aload 4, .tableswitch 0 2 9 #[], .iload 3, .iaload, .aload 4, .tableswitch 0 2 0 #[], .tableswitch 0 0 1 #[], .iconst 9, .iaload, .iconst 4, .iadd, .if_icmp .lt 77, .iconst (-5), .ireturn] 77 = x_aload 4 (x_g2 102 449 (x_iload 3 (x_iaload (x_aload 4 (x_g3 102 100 0 (x_g2 100 401 (x_iconst 9 (x_iaload (x_iconst 4 (x_iadd (x_if_icmp .lt 77 K (x_iconst (-5) (x_ireturn P))))))))))))) := ((xe_aload 4).trans (congrArg (x_aload 4) ((xe_g2 (kk := 102) rfl tl_2_9).trans (congrArg (x_g2 102 449) ((xe_iload 3).trans (congrArg (x_iload 3) ((xe_iaload).trans (congrArg (x_iaload) ((xe_aload 4).trans (congrArg (x_aload 4) ((xe_g3 (kk := 102) rfl tl_2_0).trans (congrArg (x_g3 102 100 0) ((xe_g2 (kk := 100) rfl tl_0_1).trans (congrArg (x_g2 100 401) ((xe_iconst 9).trans (congrArg (x_iconst 9) ((xe_iaload).trans (congrArg (x_iaload) ((xe_iconst 4).trans (congrArg (x_iconst 4) ((xe_iadd).trans (congrArg (x_iadd) ((xe_if_icmp .lt 77).trans (congrArg (x_if_icmp .lt 77 K) ((xe_iconst (-5)).trans (congrArg (x_iconst (-5)) (xe_ireturn)))))))))))))))))))))))))))
theorem bk_X10_lineUp_f_77 : ck_ fX10 (some .int) cX10_lineUp 77 [.aload 0, .tableswitch 0 10 2 #[], .iload 1, .aload 4, .iload 3] 85 = true := qck_r (nn_ _) (by decide +kernel)
theorem bs_X10_lineUp_f_77 {P : Zt → Option Zv → Prop} (K : Int → Zl → List Zv → Zt → Prop) : sx_ K P [.aload 0, .tableswitch 0 10 2 #[], .iload 1, .aload 4, .iload 3] 85 = x_aload 0 (x_g1 110 106 (x_iload 1 (x_aload 4 (x_iload 3 (K 85))))) := ((xe_aload 0).trans (congrArg (x_aload 0) ((xe_g1 (kk := 110) rfl tl_10_2).trans (congrArg (x_g1 110 106) ((xe_iload 1).trans (congrArg (x_iload 1) ((xe_aload 4).trans (congrArg (x_aload 4) ((xe_iload 3).trans (congrArg (x_iload 3) xe_nil))))))))))
theorem bk_X10_lineUp_f_88 : ck_ fX10 (some .int) cX10_lineUp 88 [.istore 5, .iload 5, .ifCond .eq 101, .iconst (-10), .iload 5, .isub, .ireturn] 101 = true := qck_r (nn_ _) (by decide +kernel)
theorem bs_X10_lineUp_f_88 {P : Zt → Option Zv → Prop} (K : Int → Zl → List Zv → Zt → Prop) : sx_ K P [.istore 5, .iload 5, .ifCond .eq 101, .iconst (-10), .iload 5, .isub, .ireturn] 101 = x_istore 5 (x_iload 5 (x_ifCond .eq 101 K (x_iconst (-10) (x_iload 5 (x_isub (x_ireturn P)))))) := ((xe_istore 5).trans (congrArg (x_istore 5) ((xe_iload 5).trans (congrArg (x_iload 5) ((xe_ifCond .eq 101).trans (congrArg (x_ifCond .eq 101 K) ((xe_iconst (-10)).trans (congrArg (x_iconst (-10)) ((xe_iload 5).trans (congrArg (x_iload 5) ((xe_isub).trans (congrArg (x_isub) (xe_ireturn)))))))))))))
theorem bk_X10_lineUp_f_101 : ck_ fX10 (some .int) cX10_lineUp 101 [.aload 4, .tableswitch 0 2 8 #[], .iload 3, .iconst 10, .imul, .aload 4, .tableswitch 0 2 9 #[], .iload 3, .iaload, .iadd, .iload 1, .iastore, .aload 4, .tableswitch 0 2 9 #[], .iload 3, .dup2, .iaload, .iconst 1, .iadd, .iastore, .aload 4, .tableswitch 0 2 9 #[], .iload 3, .iaload, .ireturn] 139 = true := qck_r (nn_ _) (by decide +kernel)
theorem bs_X10_lineUp_f_101 {P : Zt → Option Zv → Prop} (K : Int → Zl → List Zv → Zt → Prop) : sx_ K P [.aload 4, .tableswitch 0 2 8 #[], .iload 3, .iconst 10, .imul, .aload 4, .tableswitch 0 2 9 #[], .iload 3, .iaload, .iadd, .iload 1, .iastore, .aload 4, .tableswitch 0 2 9 #[], .iload 3, .dup2, .iaload, .iconst 1, .iadd, .iastore, .aload 4, .tableswitch 0 2 9 #[], .iload 3, .iaload, .ireturn] 139 = x_aload 4 (x_g2 102 448 (x_iload 3 (x_iconst 10 (x_imul (x_aload 4 (x_g2 102 449 (x_iload 3 (x_iaload (x_iadd (x_iload 1 (x_iastore (x_aload 4 (x_g2 102 449 (x_iload 3 (x_dup2 (x_iaload (x_iconst 1 (x_iadd (x_iastore (x_aload 4 (x_g2 102 449 (x_iload 3 (x_iaload (x_ireturn P)))))))))))))))))))))))) := ((xe_aload 4).trans (congrArg (x_aload 4) ((xe_g2 (kk := 102) rfl tl_2_8).trans (congrArg (x_g2 102 448) ((xe_iload 3).trans (congrArg (x_iload 3) ((xe_iconst 10).trans (congrArg (x_iconst 10) ((xe_imul).trans (congrArg (x_imul) ((xe_aload 4).trans (congrArg (x_aload 4) ((xe_g2 (kk := 102) rfl tl_2_9).trans (congrArg (x_g2 102 449) ((xe_iload 3).trans (congrArg (x_iload 3) ((xe_iaload).trans (congrArg (x_iaload) ((xe_iadd).trans (congrArg (x_iadd) ((xe_iload 1).trans (congrArg (x_iload 1) ((xe_iastore).trans (congrArg (x_iastore) ((xe_aload 4).trans (congrArg (x_aload 4) ((xe_g2 (kk := 102) rfl tl_2_9).trans (congrArg (x_g2 102 449) ((xe_iload 3).trans (congrArg (x_iload 3) ((xe_dup2).trans (congrArg (x_dup2) ((xe_iaload).trans (congrArg (x_iaload) ((xe_iconst 1).trans (congrArg (x_iconst 1) ((xe_iadd).trans (congrArg (x_iadd) ((xe_iastore).trans (congrArg (x_iastore) ((xe_aload 4).trans (congrArg (x_aload 4) ((xe_g2 (kk := 102) rfl tl_2_9).trans (congrArg (x_g2 102 449) ((xe_iload 3).trans (congrArg (x_iload 3) ((xe_iaload).trans (congrArg (x_iaload) (xe_ireturn)))))))))))))))))))))))))))))))))))))))))))))))))
abbrev po_X10_lineUp_f (T : Zt) (q b s : Int) : Zt → Option Zv → Prop := fun T' r => ∃ x : Int, r = some (vI x) ∧ fr_ [(448, []), (449, []), (533, [])] T T' ∧ ((x = -2 ∧ ¬ ((0 ≤ q ∧ q < T 108 0 3) ∧ 0 ≤ b ∧ b < T 106 0 4) ∧ SHN_ T T') ∨ (((0 ≤ q ∧ q < T 108 0 3) ∧ 0 ≤ b ∧ b < T 106 0 4) ∧ ((x = -3 ∧ ¬ (0 ≤ s ∧ s ≤ 1) ∧ SHN_ T T') ∨ ((0 ≤ s ∧ s ≤ 1) ∧ ((x = -4 ∧ ¬ (T 102 b 6 = -1 ∧ T 102 b 10 = 0) ∧ SHN_ T T') ∨ ((T 102 b 6 = -1 ∧ T 102 b 10 = 0) ∧ ((x = -5 ∧ T 401 (T 102 b 0) 9 + 4 ≤ T 449 b s ∧ SHN_ T T') ∨ (T 449 b s < T 401 (T 102 b 0) 9 + 4 ∧ ((wyH_ T q b s ≠ 0 ∧ x = -10 - wyH_ T q b s ∧ SHN_ T T') ∨ (wyH_ T q b s = 0 ∧ x = T 449 b s + 1 ∧ SHH_ T T' b s q))))))))))
set_option maxHeartbeats 4000000 in
theorem ct_X10_lineUp_f {T : Zt} {q b s : Int} (hka : KA_ T) (hkm : KM_ T) (hkc : KC_ T) (hkr : KR_ T) (hsp : SPR_ T) : Ct_ yX10_lineUp zX10_lineUp T [vR 110 0, vI q, vI b, vI s] (po_X10_lineUp_f T q b s) := by
  refine ct_of pn_10 rfl rfl (Nat.le_of_ble_eq_true rfl) (fun hT hav => ?_)
  have hr_q : -2147483648 ≤ q ∧ q ≤ 2147483647 := hav (vI q) (List.mem_cons_of_mem _ List.mem_cons_self)
  have hr_b : -2147483648 ≤ b ∧ b ≤ 2147483647 := hav (vI b) (List.mem_cons_of_mem _ (List.mem_cons_of_mem _ List.mem_cons_self))
  have hr_s : -2147483648 ≤ s ∧ s ≤ 2147483647 := hav (vI s) (List.mem_cons_of_mem _ (List.mem_cons_of_mem _ (List.mem_cons_of_mem _ List.mem_cons_self)))
  have hz : zX10_lineUp.2.2.2.1 = some .boolean → ∀ (T' : Zt) (x : Int), po_X10_lineUp_f T q b s T' (some (vI x)) → 0 ≤ x ∧ x ≤ 1 := fun h => by cases h
  have hb_matchCount : 0 ≤ T 106 0 4 ∧ T 106 0 4 ≤ 400 := bd_f hT 106 4 tl_6_4 0
  have hb_persons : 0 ≤ T 108 0 3 ∧ T 108 0 3 ≤ 200 := bd_f hT 108 3 tl_8_3 0
  have wb9 := wyH_b (T := T) (q := q) (p := b) (d := s)
  show J_ zX10_lineUp T (po_X10_lineUp_f T q b s) 0 0 0 [some (vR 110 0), some (vI q), some (vI b), some (vI s), none, none] [] T
  refine j_blx (F := fX10) tb_X10 (nn_ _) bk_X10_lineUp_f_0 bs_X10_lineUp_f_0 hz (fun K hK => ?_)
  refine hK 2 _ [vI q, vR 110 0] T ?_
  refine j_callV (y := yX10_isPerson) (Yc := zX10_isPerson) (rest := []) [vI q] (ct_X10_isPerson (T := T)) cl_X10_134 (qd_c (by decide +kernel)) (nn_ _) rfl (rf_of rfl) (Nat.le_of_ble_eq_true rfl) (Nat.le_of_ble_eq_true rfl) (Nat.le_of_ble_eq_true rfl) rfl ?_
  rintro _ _ ⟨rfl, x1, rfl, hx1⟩
  show J_ zX10_lineUp T (po_X10_lineUp_f T q b s) 0 0 5 _ [vI x1] T
  refine j_blx (F := fX10) tb_X10 (nn_ _) bk_X10_lineUp_f_5 bs_X10_lineUp_f_5 hz (fun K hK => ?_)
  refine And.intro (fun c2 => ?_) (fun c2 => ?_)
  · replace hx1 := hx1.resolve_left (fun z => absurd (c2.symm.trans z.1) (by decide))
    clear c2
    refine hK 16 _ [] T ?_
    refine j_blx (F := fX10) tb_X10 (nn_ _) bk_X10_lineUp_f_16 bs_X10_lineUp_f_16 hz (fun K hK => ?_)
    refine (show po_X10_lineUp_f T q b s T (some (vI (-2))) from ?_)
    exact ⟨_, rfl, fr_0 _ _, Or.inl ⟨rfl, by omega, ⟨fun _ _ => rfl, fun _ _ => rfl⟩⟩⟩
  · replace hx1 := hx1.resolve_right (fun z => c2 z.1)
    clear c2
    refine hK 10 _ [vI b, vR 110 0] T ?_
    refine j_callV (y := yX10_isMatch) (Yc := zX10_isMatch) (rest := []) [vI b] (ct_X10_isMatch (T := T)) cl_X10_195 (qd_c (by decide +kernel)) (nn_ _) rfl (rf_of rfl) (Nat.le_of_ble_eq_true rfl) (Nat.le_of_ble_eq_true rfl) (Nat.le_of_ble_eq_true rfl) rfl ?_
    rintro _ _ ⟨rfl, x3, rfl, hx3⟩
    show J_ zX10_lineUp T (po_X10_lineUp_f T q b s) 0 0 13 _ [vI x3] T
    refine j_blx (F := fX10) tb_X10 (nn_ _) bk_X10_lineUp_f_13 bs_X10_lineUp_f_13 hz (fun K hK => ?_)
    refine And.intro (fun c4 => ?_) (fun c4 => ?_)
    · replace hx3 := hx3.resolve_right (fun z => c4 z.1)
      clear c4
      refine hK 19 _ [] T ?_
      refine j_blx (F := fX10) tb_X10 (nn_ _) bk_X10_lineUp_f_19 bs_X10_lineUp_f_19 hz (fun K hK => ?_)
      refine hK 20 _ [vI s] T ?_
      refine j_callS (y := yX10_isSide) (Yc := zX10_isSide) (rest := []) [vI s] (ct_X10_isSide (T := T)) cl_X10_251 (qd_c (by decide +kernel)) (nn_ _) rfl (rf_of rfl) (Nat.le_of_ble_eq_true rfl) (Nat.le_of_ble_eq_true rfl) (Nat.le_of_ble_eq_true rfl) rfl ?_
      rintro _ _ ⟨rfl, x5, rfl, hx5⟩
      show J_ zX10_lineUp T (po_X10_lineUp_f T q b s) 0 0 23 _ [vI x5] T
      refine j_blx (F := fX10) tb_X10 (nn_ _) bk_X10_lineUp_f_23 bs_X10_lineUp_f_23 hz (fun K hK => ?_)
      refine And.intro (fun c6 => ?_) (fun c6 => ?_)
      · replace hx5 := hx5.resolve_right (fun z => c6 z.1)
        clear c6
        refine hK 29 _ [] T ?_
        refine j_blx (F := fX10) tb_X10 (nn_ _) bk_X10_lineUp_f_29 bs_X10_lineUp_f_29 hz (fun K hK => ?_)
        refine ix_i (by omega) ?_
        refine And.intro (fun c7 => ?_) (fun c7 => ?_)
        · exact absurd (show T 523 0 b = 0 from Int.le_antisymm (by omega) (by omega)) (hka.2 _ (by omega) (by omega))
        · refine hK 42 [some (vR 110 0), some (vI q), some (vI b), some (vI s), some (vR 102 b), none] [vR 102 b] T ?_
          refine j_callV (y := yX2_phaseOfLife) (Yc := zX2_phaseOfLife) (rest := []) [] (ct_X2_phaseOfLife_e (T := T)) cl_X10_223 (qd_c (by decide +kernel)) (nn_ _) rfl (rf_of rfl) (Nat.le_of_ble_eq_true rfl) (Nat.le_of_ble_eq_true rfl) (Nat.le_of_ble_eq_true rfl) rfl ?_
          rintro _ _ ⟨rfl, x8, rfl, hx8⟩
          show J_ zX10_lineUp T (po_X10_lineUp_f T q b s) 0 0 45 _ [vI x8] T
          refine j_blx (F := fX10) tb_X10 (nn_ _) bk_X10_lineUp_f_45 bs_X10_lineUp_f_45 hz (fun K hK => ?_)
          refine And.intro (fun c9 => ?_) (fun c9 => ?_)
          · refine hK 51 _ [] T ?_
            refine j_blx (F := fX10) tb_X10 (nn_ _) bk_X10_lineUp_f_51 bs_X10_lineUp_f_51 hz (fun K hK => ?_)
            have hy9 := hkm b (by omega) (by omega)
            have hr9 := hkr (T 102 b 0) (by omega) (by omega)
            have hl9 : 0 ≤ T 449 b s ∧ T 449 b s ≤ 10 := bd_a hT 449 (by decide +kernel : ta_ 449 = some (1, some 2, 0, 10)) b (by omega)
            refine ix_i (by omega) ?_
            intro b10 b10b
            refine ix_i (by omega) ?_
            intro b12 b12b
            refine rg_i (by omega) ?_
            refine And.intro (fun c13 => ?_) (fun c13 => ?_)
            · refine hK 77 _ [] T ?_
              refine j_blx (F := fX10) tb_X10 (nn_ _) bk_X10_lineUp_f_77 bs_X10_lineUp_f_77 hz (fun K hK => ?_)
              refine hK 85 _ [vI s, vR 102 b, vI q, vR 106 0] T ?_
              refine j_callV (y := yX6_whyNot) (Yc := zX6_whyNot) (rest := []) [vI q, vR 102 b, vI s] (ct_X6_whyNot_f (T := T) (hka) (hkm) (hkc) (by omega) (by omega) (by omega) hsp) cl_X10_254 (qd_c (by decide +kernel)) (nn_ _) rfl (rf_of rfl) (Nat.le_of_ble_eq_true rfl) (Nat.le_of_ble_eq_true rfl) (Nat.le_of_ble_eq_true rfl) rfl ?_
              rintro U14 _ ⟨x15, rfl, fU14, qU14⟩
              show J_ zX10_lineUp T (po_X10_lineUp_f T q b s) 0 0 88 _ [vI x15] U14
              refine j_blx (F := fX10) tb_X10 (nn_ _) bk_X10_lineUp_f_88 bs_X10_lineUp_f_88 hz (fun K hK => ?_)
              refine And.intro (fun c16 => ?_) (fun c16 => ?_)
              · refine hK 101 [some (vR 110 0), some (vI q), some (vI b), some (vI s), some (vR 102 b), some (vI x15)] [] U14 ?_
                refine j_blx (F := fX10) tb_X10 (nn_ _) bk_X10_lineUp_f_101 bs_X10_lineUp_f_101 hz (fun K hK => ?_)
                refine rg_i (by omega) ?_
                refine ix_i (by omega) ?_
                intro b17 b17b
                have e18 : U14 449 b s = T 449 b s := fU14 449 b s rfl
                rw [e18] at b17 b17b ⊢
                refine rg_i (by omega) ?_
                refine iy_i (by omega) (by omega) ?_
                refine x_nm (fun U19 hU19 => ?_)
                have e20 := up_f hU19
                refine ix_i (by omega) ?_
                intro b21 b21b
                have e22 : U19 449 b s = T 449 b s := (up_k hU19 (by exact Nat.ne_of_beq_eq_false rfl) b s).trans (fU14 449 b s rfl)
                rw [e22] at b21 b21b ⊢
                refine rg_i (by omega) ?_
                refine iy_i (by omega) (by omega) ?_
                refine x_nm (fun U23 hU23 => ?_)
                have e24 := up_f hU23
                refine ix_i (by omega) ?_
                intro b25 b25b
                have e26 : U23 449 b s = (T 449 b s) + 1 := up_f hU23
                rw [e26] at b25 b25b ⊢
                refine (show po_X10_lineUp_f T q b s U23 (some (vI ((T 449 b s) + 1))) from ?_)
                have y0 : ∀ i j, U14 448 i j = T 448 i j := fun i j => fU14 448 i j rfl
                have y1 : ∀ i j, U14 449 i j = T 449 i j := fun i j => fU14 449 i j rfl
                have sh9 : SHH_ T U23 b s q := ⟨(up_k hU23 (by exact Nat.ne_of_beq_eq_false rfl) _ _).trans ((up_x hU19 (by omega))), by omega, fun i j hn => (up_k hU23 (by exact Nat.ne_of_beq_eq_false rfl) _ _).trans ((up_g hU19 (fun z => hn ⟨z.2.1, by omega⟩)).trans (y0 i j)), fun i j hn => (up_g hU23 (fun z => hn ⟨z.2.1, z.2.2⟩)).trans ((up_k hU19 (by exact Nat.ne_of_beq_eq_false rfl) _ _).trans (y1 i j))⟩
                exact ⟨_, rfl, fr_u (fr_u (fr_t (fr_0 _ _) (fr_s fU14 rfl)) hU19 rfl) hU23 rfl, Or.inr ⟨by omega, Or.inr ⟨by omega, Or.inr ⟨by omega, Or.inr ⟨by omega, Or.inr ⟨by omega, by omega, sh9⟩⟩⟩⟩⟩⟩
              · refine rg_i (by omega) ?_
                refine (show po_X10_lineUp_f T q b s U14 (some (vI ((-10) - x15))) from ?_)
                have wb := wyH_b (T := T) (q := q) (p := b) (d := s)
                exact ⟨_, rfl, fr_t (fr_0 _ _) (fr_s fU14 rfl), Or.inr ⟨by omega, Or.inr ⟨by omega, Or.inr ⟨by omega, Or.inr ⟨by omega, Or.inl ⟨by omega, by omega, ⟨fun i j => fU14 448 i j rfl, fun i j => fU14 449 i j rfl⟩⟩⟩⟩⟩⟩⟩
            · refine (show po_X10_lineUp_f T q b s T (some (vI (-5))) from ?_)
              exact ⟨_, rfl, fr_0 _ _, Or.inr ⟨by omega, Or.inr ⟨by omega, Or.inr ⟨by omega, Or.inl ⟨rfl, by omega, ⟨fun _ _ => rfl, fun _ _ => rfl⟩⟩⟩⟩⟩⟩
          · refine (show po_X10_lineUp_f T q b s T (some (vI (-4))) from ?_)
            exact ⟨_, rfl, fr_0 _ _, Or.inr ⟨by omega, Or.inr ⟨by omega, Or.inl ⟨rfl, by omega, ⟨fun _ _ => rfl, fun _ _ => rfl⟩⟩⟩⟩⟩
      · replace hx5 := hx5.resolve_left (fun z => absurd (c6.symm.trans z.1) (by decide))
        clear c6
        refine (show po_X10_lineUp_f T q b s T (some (vI (-3))) from ?_)
        exact ⟨_, rfl, fr_0 _ _, Or.inr ⟨by omega, Or.inl ⟨rfl, by omega, ⟨fun _ _ => rfl, fun _ _ => rfl⟩⟩⟩⟩
    · replace hx3 := hx3.resolve_left (fun z => absurd (c4.symm.trans z.1) (by decide))
      clear c4
      refine (show po_X10_lineUp_f T q b s T (some (vI (-2))) from ?_)
      exact ⟨_, rfl, fr_0 _ _, Or.inl ⟨rfl, by omega, ⟨fun _ _ => rfl, fun _ _ => rfl⟩⟩⟩
theorem bk_X11_nextMatch_f_90 : ck_ fX11 (some .int) cX11_nextMatch 90 [.istore 4, .iinc 5 1, .goto 11] 98 = true := qck_r (nn_ _) (by decide +kernel)
theorem bs_X11_nextMatch_f_90 {P : Zt → Option Zv → Prop} (K : Int → Zl → List Zv → Zt → Prop) : sx_ K P [.istore 4, .iinc 5 1, .goto 11] 98 = x_istore 4 (x_iinc 5 1 (x_goto 11 K)) := ((xe_istore 4).trans (congrArg (x_istore 4) ((xe_iinc 5 1).trans (congrArg (x_iinc 5 1) (xe_goto 11)))))
theorem bk_X11_nextMatch_f_59 : ck_ fX11 (some .int) cX11_nextMatch 59 [.istore 6, .iload 6, .ifCond .eq 88, .iload 4, .iconst (-1), .if_icmp .eq 83, .aload 0, .iload 5, .iload 4] 77 = true := qck_r (nn_ _) (by decide +kernel)
theorem bs_X11_nextMatch_f_59 {P : Zt → Option Zv → Prop} (K : Int → Zl → List Zv → Zt → Prop) : sx_ K P [.istore 6, .iload 6, .ifCond .eq 88, .iload 4, .iconst (-1), .if_icmp .eq 83, .aload 0, .iload 5, .iload 4] 77 = x_istore 6 (x_iload 6 (x_ifCond .eq 88 K (x_iload 4 (x_iconst (-1) (x_if_icmp .eq 83 K (x_aload 0 (x_iload 5 (x_iload 4 (K 77))))))))) := ((xe_istore 6).trans (congrArg (x_istore 6) ((xe_iload 6).trans (congrArg (x_iload 6) ((xe_ifCond .eq 88).trans (congrArg (x_ifCond .eq 88 K) ((xe_iload 4).trans (congrArg (x_iload 4) ((xe_iconst (-1)).trans (congrArg (x_iconst (-1)) ((xe_if_icmp .eq 83).trans (congrArg (x_if_icmp .eq 83 K) ((xe_aload 0).trans (congrArg (x_aload 0) ((xe_iload 5).trans (congrArg (x_iload 5) ((xe_iload 4).trans (congrArg (x_iload 4) xe_nil))))))))))))))))))
