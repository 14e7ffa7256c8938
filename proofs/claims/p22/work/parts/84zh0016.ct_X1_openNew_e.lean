theorem bk_X1_openNew_e_0 : ck_ fX1 none cX1_openNew 0 [.aload 0, .iload 1, .tableswitch 1 1 1 #[], .aload 0, .iload 2, .tableswitch 1 1 2 #[], .aload 0, .iconst 0, .tableswitch 1 1 3 #[], .aload 0, .iconst 0, .tableswitch 1 1 4 #[], .aload 0, .iconst 0, .tableswitch 1 1 7 #[], .aload 0, .tableswitch 0 1 8 #[], .iconst (-1)] 30 = true := qck_r (nn_ _) (by decide +kernel)
theorem bs_X1_openNew_e_0 {P : Zt → Option Zv → Prop} (K : Int → Zl → List Zv → Zt → Prop) : sx_ K P [.aload 0, .iload 1, .tableswitch 1 1 1 #[], .aload 0, .iload 2, .tableswitch 1 1 2 #[], .aload 0, .iconst 0, .tableswitch 1 1 3 #[], .aload 0, .iconst 0, .tableswitch 1 1 4 #[], .aload 0, .iconst 0, .tableswitch 1 1 7 #[], .aload 0, .tableswitch 0 1 8 #[], .iconst (-1)] 30 = x_aload 0 (x_iload 1 (x_p 101 1 0 4 (x_aload 0 (x_iload 2 (x_p 101 2 0 3 (x_aload 0 (x_iconst 0 (x_p 101 3 (-2147483648) 2147483647 (x_aload 0 (x_iconst 0 (x_p 101 4 (-2147483648) 2147483647 (x_aload 0 (x_iconst 0 (x_p 101 7 0 1 (x_aload 0 (x_g1 101 428 (x_iconst (-1) (K 30)))))))))))))))))) := ((xe_aload 0).trans (congrArg (x_aload 0) ((xe_iload 1).trans (congrArg (x_iload 1) ((xe_p (kk := 101) rfl tl_1_1).trans (congrArg (x_p 101 1 0 4) ((xe_aload 0).trans (congrArg (x_aload 0) ((xe_iload 2).trans (congrArg (x_iload 2) ((xe_p (kk := 101) rfl tl_1_2).trans (congrArg (x_p 101 2 0 3) ((xe_aload 0).trans (congrArg (x_aload 0) ((xe_iconst 0).trans (congrArg (x_iconst 0) ((xe_p (kk := 101) rfl tl_1_3).trans (congrArg (x_p 101 3 (-2147483648) 2147483647) ((xe_aload 0).trans (congrArg (x_aload 0) ((xe_iconst 0).trans (congrArg (x_iconst 0) ((xe_p (kk := 101) rfl tl_1_4).trans (congrArg (x_p 101 4 (-2147483648) 2147483647) ((xe_aload 0).trans (congrArg (x_aload 0) ((xe_iconst 0).trans (congrArg (x_iconst 0) ((xe_p (kk := 101) rfl tl_1_7).trans (congrArg (x_p 101 7 0 1) ((xe_aload 0).trans (congrArg (x_aload 0) ((xe_g1 (kk := 101) rfl tl_1_8).trans (congrArg (x_g1 101 428) ((xe_iconst (-1)).trans (congrArg (x_iconst (-1)) xe_nil))))))))))))))))))))))))))))))))))))
theorem bk_X1_openNew_e_33 : ck_ fX1 none cX1_openNew 33 [.aload 0, .tableswitch 0 1 9 #[], .iconst (-1)] 38 = true := qck_r (nn_ _) (by decide +kernel)
theorem bs_X1_openNew_e_33 {P : Zt → Option Zv → Prop} (K : Int → Zl → List Zv → Zt → Prop) : sx_ K P [.aload 0, .tableswitch 0 1 9 #[], .iconst (-1)] 38 = x_aload 0 (x_g1 101 429 (x_iconst (-1) (K 38))) := ((xe_aload 0).trans (congrArg (x_aload 0) ((xe_g1 (kk := 101) rfl tl_1_9).trans (congrArg (x_g1 101 429) ((xe_iconst (-1)).trans (congrArg (x_iconst (-1)) xe_nil))))))
theorem bk_X1_openNew_e_41 : ck_ fX1 none cX1_openNew 41 [.aload 0, .tableswitch 0 1 10 #[], .iconst 0] 46 = true := qck_r (nn_ _) (by decide +kernel)
theorem bs_X1_openNew_e_41 {P : Zt → Option Zv → Prop} (K : Int → Zl → List Zv → Zt → Prop) : sx_ K P [.aload 0, .tableswitch 0 1 10 #[], .iconst 0] 46 = x_aload 0 (x_g1 101 430 (x_iconst 0 (K 46))) := ((xe_aload 0).trans (congrArg (x_aload 0) ((xe_g1 (kk := 101) rfl tl_1_10).trans (congrArg (x_g1 101 430) ((xe_iconst 0).trans (congrArg (x_iconst 0) xe_nil))))))
theorem bk_X1_openNew_e_49 : ck_ fX1 none cX1_openNew 49 [.return_] 50 = true := qck_r (nn_ _) (by decide +kernel)
theorem bs_X1_openNew_e_49 {P : Zt → Option Zv → Prop} (K : Int → Zl → List Zv → Zt → Prop) : sx_ K P [.return_] 50 = x_return_ P := (xe_return_)
abbrev po_X1_openNew_e (T : Zt) (g l : Int) : Zt → Option Zv → Prop := fun T' r => r = none ∧ fr_ [(101, [1, 2, 3, 4, 7]), (428, []), (429, []), (430, [])] T T' ∧ (T' 101 0 1 = g ∧ T' 101 0 2 = l ∧ T' 101 0 3 = 0 ∧ T' 101 0 4 = 0 ∧ T' 101 0 7 = 0 ∧ (∀ j, 0 ≤ j → j < 12 → T' 428 0 j = -1 ∧ T' 429 0 j = -1) ∧ ∀ j, 0 ≤ j → j < 3 → T' 430 0 j = 0)
set_option maxHeartbeats 4000000 in
theorem ct_X1_openNew_e {T : Zt} {g l : Int} (h1 : 0 ≤ g ∧ g ≤ 4) (h2 : 0 ≤ l ∧ l ≤ 3) : Ct_ yX1_openNew zX1_openNew T [vR 101 0, vI g, vI l] (po_X1_openNew_e T g l) := by
  refine ct_of pn_1 rfl rfl (Nat.le_of_ble_eq_true rfl) (fun hT hav => ?_)
  have hr_g : -2147483648 ≤ g ∧ g ≤ 2147483647 := hav (vI g) (List.mem_cons_of_mem _ List.mem_cons_self)
  have hr_l : -2147483648 ≤ l ∧ l ≤ 2147483647 := hav (vI l) (List.mem_cons_of_mem _ (List.mem_cons_of_mem _ List.mem_cons_self))
  have hz : zX1_openNew.2.2.2.1 = some .boolean → ∀ (T' : Zt) (x : Int), po_X1_openNew_e T g l T' (some (vI x)) → 0 ≤ x ∧ x ≤ 1 := fun h => by cases h
  show J_ zX1_openNew T (po_X1_openNew_e T g l) 0 0 0 [some (vR 101 0), some (vI g), some (vI l)] [] T
  refine j_blx (F := fX1) tb_X1 (nn_ _) bk_X1_openNew_e_0 bs_X1_openNew_e_0 hz (fun K hK => ?_)
  refine bd_i (by omega) ?_
  refine x_nm (fun U1 hU1 => ?_)
  have e2 := up_f hU1
  refine bd_i (by omega) ?_
  refine x_nm (fun U3 hU3 => ?_)
  have e4 := up_f hU3
  refine bd_i (by omega) ?_
  refine x_nm (fun U5 hU5 => ?_)
  have e6 := up_f hU5
  refine bd_i (by omega) ?_
  refine x_nm (fun U7 hU7 => ?_)
  have e8 := up_f hU7
  refine bd_i (by omega) ?_
  refine x_nm (fun U9 hU9 => ?_)
  have e10 := up_f hU9
  refine hK 30 _ [vI (-1), vR 428 0] U9 ?_
  refine j_callS (y := yJ7_fill_53178) (Yc := zJ7_fill_53178) (rest := []) [vR 428 0, vI (-1)] (ct_J7_fill_428 (T := U9) (by omega)) cl_X1_54 (qd_c (by decide +kernel)) (nn_ _) rfl (rf_of rfl) (Nat.le_of_ble_eq_true rfl) (Nat.le_of_ble_eq_true rfl) (Nat.le_of_ble_eq_true rfl) rfl ?_
  rintro U11 _ ⟨rfl, fU11, qU11o, qU11⟩
  show J_ zX1_openNew T (po_X1_openNew_e T g l) 0 0 33 _ [] U11
  refine j_blx (F := fX1) tb_X1 (nn_ _) bk_X1_openNew_e_33 bs_X1_openNew_e_33 hz (fun K hK => ?_)
  refine hK 38 _ [vI (-1), vR 429 0] U11 ?_
  refine j_callS (y := yJ7_fill_53178) (Yc := zJ7_fill_53178) (rest := []) [vR 429 0, vI (-1)] (ct_J7_fill_429 (T := U11) (by omega)) cl_X1_54 (qd_c (by decide +kernel)) (nn_ _) rfl (rf_of rfl) (Nat.le_of_ble_eq_true rfl) (Nat.le_of_ble_eq_true rfl) (Nat.le_of_ble_eq_true rfl) rfl ?_
  rintro U12 _ ⟨rfl, fU12, qU12o, qU12⟩
  show J_ zX1_openNew T (po_X1_openNew_e T g l) 0 0 41 _ [] U12
  refine j_blx (F := fX1) tb_X1 (nn_ _) bk_X1_openNew_e_41 bs_X1_openNew_e_41 hz (fun K hK => ?_)
  refine hK 46 _ [vI 0, vR 430 0] U12 ?_
  refine j_callS (y := yJ7_fill_53178) (Yc := zJ7_fill_53178) (rest := []) [vR 430 0, vI 0] (ct_J7_fill_430 (T := U12) (by omega)) cl_X1_54 (qd_c (by decide +kernel)) (nn_ _) rfl (rf_of rfl) (Nat.le_of_ble_eq_true rfl) (Nat.le_of_ble_eq_true rfl) (Nat.le_of_ble_eq_true rfl) rfl ?_
  rintro U13 _ ⟨rfl, fU13, qU13o, qU13⟩
  show J_ zX1_openNew T (po_X1_openNew_e T g l) 0 0 49 _ [] U13
  refine j_blx (F := fX1) tb_X1 (nn_ _) bk_X1_openNew_e_49 bs_X1_openNew_e_49 hz (fun K hK => ?_)
  refine (show po_X1_openNew_e T g l U13 (none) from ?_)
  have e14 : U13 101 0 1 = g := (fU13 101 0 1 rfl).trans ((fU12 101 0 1 rfl).trans ((fU11 101 0 1 rfl).trans ((up_j hU9 (by decide) 101 0).trans ((up_j hU7 (by decide) 101 0).trans ((up_j hU5 (by decide) 101 0).trans ((up_j hU3 (by decide) 101 0).trans (up_f hU1)))))))
  have e15 : U13 101 0 2 = l := (fU13 101 0 2 rfl).trans ((fU12 101 0 2 rfl).trans ((fU11 101 0 2 rfl).trans ((up_j hU9 (by decide) 101 0).trans ((up_j hU7 (by decide) 101 0).trans ((up_j hU5 (by decide) 101 0).trans (up_f hU3))))))
  have e16 : U13 101 0 3 = 0 := (fU13 101 0 3 rfl).trans ((fU12 101 0 3 rfl).trans ((fU11 101 0 3 rfl).trans ((up_j hU9 (by decide) 101 0).trans ((up_j hU7 (by decide) 101 0).trans (up_f hU5)))))
  have e17 : U13 101 0 4 = 0 := (fU13 101 0 4 rfl).trans ((fU12 101 0 4 rfl).trans ((fU11 101 0 4 rfl).trans ((up_j hU9 (by decide) 101 0).trans (up_f hU7))))
  have e18 : U13 101 0 7 = 0 := (fU13 101 0 7 rfl).trans ((fU12 101 0 7 rfl).trans ((fU11 101 0 7 rfl).trans (up_f hU9)))
  exact ⟨rfl, fr_t (fr_t (fr_t (fr_u (fr_u (fr_u (fr_u (fr_u (fr_0 _ _) hU1 rfl) hU3 rfl) hU5 rfl) hU7 rfl) hU9 rfl) (fr_s fU11 rfl)) (fr_s fU12 rfl)) (fr_s fU13 rfl), (fU13 101 0 1 rfl).trans ((fU12 101 0 1 rfl).trans ((fU11 101 0 1 rfl).trans ((up_j hU9 (by decide) 101 0).trans ((up_j hU7 (by decide) 101 0).trans ((up_j hU5 (by decide) 101 0).trans ((up_j hU3 (by decide) 101 0).trans (up_f hU1))))))), (fU13 101 0 2 rfl).trans ((fU12 101 0 2 rfl).trans ((fU11 101 0 2 rfl).trans ((up_j hU9 (by decide) 101 0).trans ((up_j hU7 (by decide) 101 0).trans ((up_j hU5 (by decide) 101 0).trans (up_f hU3)))))), (fU13 101 0 3 rfl).trans ((fU12 101 0 3 rfl).trans ((fU11 101 0 3 rfl).trans ((up_j hU9 (by decide) 101 0).trans ((up_j hU7 (by decide) 101 0).trans (up_f hU5))))), (fU13 101 0 4 rfl).trans ((fU12 101 0 4 rfl).trans ((fU11 101 0 4 rfl).trans ((up_j hU9 (by decide) 101 0).trans (up_f hU7)))), (fU13 101 0 7 rfl).trans ((fU12 101 0 7 rfl).trans ((fU11 101 0 7 rfl).trans (up_f hU9))), fun j a b => ⟨(fU13 428 0 j rfl).trans ((fU12 428 0 j rfl).trans (qU11 j a b)), (fU13 429 0 j rfl).trans (qU12 j a b)⟩, fun j a b => qU13 j a b⟩
