theorem bk_X10_ways_e_0 : ck_ fX10 (some .int) cX10_ways 0 [.aload 0, .tableswitch 0 10 5 #[], .tableswitch 0 1 1 #[], .ifCond .ne 13, .iconst (-4), .ireturn] 13 = true := qck_r (nn_ _) (by decide +kernel)
theorem bs_X10_ways_e_0 {P : Zt → Option Zv → Prop} (K : Int → Zl → List Zv → Zt → Prop) : sx_ K P [.aload 0, .tableswitch 0 10 5 #[], .tableswitch 0 1 1 #[], .ifCond .ne 13, .iconst (-4), .ireturn] 13 = x_aload 0 (x_g1 110 101 (x_g0 101 1 0 4 (x_ifCond .ne 13 K (x_iconst (-4) (x_ireturn P))))) := ((xe_aload 0).trans (congrArg (x_aload 0) ((xe_g1 (kk := 110) rfl tl_10_5).trans (congrArg (x_g1 110 101) ((xe_g0 (kk := 101) rfl tl_1_1).trans (congrArg (x_g0 101 1 0 4) ((xe_ifCond .ne 13).trans (congrArg (x_ifCond .ne 13 K) ((xe_iconst (-4)).trans (congrArg (x_iconst (-4)) (xe_ireturn)))))))))))
theorem bk_X10_ways_e_13 : ck_ fX10 (some .int) cX10_ways 13 [.aload 0, .tableswitch 0 10 5 #[]] 17 = true := qck_r (nn_ _) (by decide +kernel)
theorem bs_X10_ways_e_13 {P : Zt → Option Zv → Prop} (K : Int → Zl → List Zv → Zt → Prop) : sx_ K P [.aload 0, .tableswitch 0 10 5 #[]] 17 = x_aload 0 (x_g1 110 101 (K 17)) := ((xe_aload 0).trans (congrArg (x_aload 0) ((xe_g1 (kk := 110) rfl tl_10_5).trans (congrArg (x_g1 110 101) xe_nil))))
theorem bk_X10_ways_e_20 : ck_ fX10 (some .int) cX10_ways 20 [.aload 0, .tableswitch 0 10 5 #[], .tableswitch 0 1 6 #[], .ireturn] 28 = true := qck_r (nn_ _) (by decide +kernel)
theorem bs_X10_ways_e_20 {P : Zt → Option Zv → Prop} (K : Int → Zl → List Zv → Zt → Prop) : sx_ K P [.aload 0, .tableswitch 0 10 5 #[], .tableswitch 0 1 6 #[], .ireturn] 28 = x_aload 0 (x_g1 110 101 (x_g0 101 6 (-2147483648) 2147483647 (x_ireturn P))) := ((xe_aload 0).trans (congrArg (x_aload 0) ((xe_g1 (kk := 110) rfl tl_10_5).trans (congrArg (x_g1 110 101) ((xe_g0 (kk := 101) rfl tl_1_6).trans (congrArg (x_g0 101 6 (-2147483648) 2147483647) (xe_ireturn)))))))
abbrev po_X10_ways_e (T : Zt) : Zt → Option Zv → Prop := fun T' r => ∃ x : Int, r = some (vI x) ∧ fr_ [(101, [13, 6, 7]), (434, []), (435, []), (431, []), (432, [])] T T' ∧ (x = x ∧ WYH_ T T' x)
set_option maxHeartbeats 4000000 in
theorem ct_X10_ways_e {T : Zt} : Ct_ yX10_ways zX10_ways T [vR 110 0] (po_X10_ways_e T) := by
  refine ct_of pn_10 rfl rfl (Nat.le_of_ble_eq_true rfl) (fun hT hav => ?_)
  have hz : zX10_ways.2.2.2.1 = some .boolean → ∀ (T' : Zt) (x : Int), po_X10_ways_e T T' (some (vI x)) → 0 ≤ x ∧ x ≤ 1 := fun h => by cases h
  show J_ zX10_ways T (po_X10_ways_e T) 0 0 0 [some (vR 110 0)] [] T
  refine j_blx (F := fX10) tb_X10 (nn_ _) bk_X10_ways_e_0 bs_X10_ways_e_0 hz (fun K hK => ?_)
  intro b1 b1b
  refine And.intro (fun c2 => ?_) (fun c2 => ?_)
  · refine hK 13 _ [] T ?_
    refine j_blx (F := fX10) tb_X10 (nn_ _) bk_X10_ways_e_13 bs_X10_ways_e_13 hz (fun K hK => ?_)
    refine hK 17 _ [vR 101 0] T ?_
    refine j_callV (y := yX1_refresh) (Yc := zX1_refresh) (rest := []) [] (ct_X1_refresh_e (T := T)) cl_X10_399 (qd_c (by decide +kernel)) (nn_ _) rfl (rf_of rfl) (Nat.le_of_ble_eq_true rfl) (Nat.le_of_ble_eq_true rfl) (Nat.le_of_ble_eq_true rfl) rfl ?_
    rintro U3 _ ⟨rfl, fU3, qU3⟩
    show J_ zX10_ways T (po_X10_ways_e T) 0 0 20 _ [] U3
    refine j_blx (F := fX10) tb_X10 (nn_ _) bk_X10_ways_e_20 bs_X10_ways_e_20 hz (fun K hK => ?_)
    intro b4 b4b
    refine (show po_X10_ways_e T U3 (some (vI (U3 101 0 6))) from ?_)
    exact ⟨_, rfl, fr_t (fr_0 _ _) (fr_s fU3 rfl), rfl, Or.inr ⟨by omega, qU3, rfl⟩⟩
  · refine (show po_X10_ways_e T T (some (vI (-4))) from ?_)
    exact ⟨_, rfl, fr_0 _ _, rfl, Or.inl ⟨rfl, by omega, rfl⟩⟩
