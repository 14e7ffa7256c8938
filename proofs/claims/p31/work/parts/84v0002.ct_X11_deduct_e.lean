theorem bk_X6_addDeduction_e_0 : ck_ fX6 none cX6_addDeduction 0 [.aload 0, .tableswitch 0 6 7 #[], .aload 0, .tableswitch 0 6 6 #[], .iload 1, .iastore, .aload 0, .tableswitch 0 6 8 #[], .aload 0, .tableswitch 0 6 6 #[], .iload 2, .iastore, .aload 0, .tableswitch 0 6 9 #[], .aload 0, .tableswitch 0 6 6 #[], .iload 3, .iastore, .aload 0, .tableswitch 0 6 10 #[], .aload 0, .tableswitch 0 6 6 #[], .aload 0, .tableswitch 0 6 0 #[], .tableswitch 0 8 13 #[], .iastore, .aload 0, .dup, .tableswitch 0 6 6 #[], .iconst 1, .iadd, .tableswitch 1 6 6 #[], .return_] 57 = true := qck_r (nn_ _) (by decide +kernel)
theorem bs_X6_addDeduction_e_0 {P : Zt → Option Zv → Prop} (K : Int → Zl → List Zv → Zt → Prop) : sx_ K P [.aload 0, .tableswitch 0 6 7 #[], .aload 0, .tableswitch 0 6 6 #[], .iload 1, .iastore, .aload 0, .tableswitch 0 6 8 #[], .aload 0, .tableswitch 0 6 6 #[], .iload 2, .iastore, .aload 0, .tableswitch 0 6 9 #[], .aload 0, .tableswitch 0 6 6 #[], .iload 3, .iastore, .aload 0, .tableswitch 0 6 10 #[], .aload 0, .tableswitch 0 6 6 #[], .aload 0, .tableswitch 0 6 0 #[], .tableswitch 0 8 13 #[], .iastore, .aload 0, .dup, .tableswitch 0 6 6 #[], .iconst 1, .iadd, .tableswitch 1 6 6 #[], .return_] 57 = x_aload 0 (x_g1 106 527 (x_aload 0 (x_g0 106 6 0 50 (x_iload 1 (x_iastore (x_aload 0 (x_g1 106 528 (x_aload 0 (x_g0 106 6 0 50 (x_iload 2 (x_iastore (x_aload 0 (x_g1 106 529 (x_aload 0 (x_g0 106 6 0 50 (x_iload 3 (x_iastore (x_aload 0 (x_g1 106 530 (x_aload 0 (x_g0 106 6 0 50 (x_aload 0 (x_g1 106 108 (x_g0 108 13 0 999 (x_iastore (x_aload 0 (x_dup (x_g0 106 6 0 50 (x_iconst 1 (x_iadd (x_p 106 6 0 50 (x_return_ P)))))))))))))))))))))))))))))))) := ((xe_aload 0).trans (congrArg (x_aload 0) ((xe_g1 (kk := 106) rfl tl_6_7).trans (congrArg (x_g1 106 527) ((xe_aload 0).trans (congrArg (x_aload 0) ((xe_g0 (kk := 106) rfl tl_6_6).trans (congrArg (x_g0 106 6 0 50) ((xe_iload 1).trans (congrArg (x_iload 1) ((xe_iastore).trans (congrArg (x_iastore) ((xe_aload 0).trans (congrArg (x_aload 0) ((xe_g1 (kk := 106) rfl tl_6_8).trans (congrArg (x_g1 106 528) ((xe_aload 0).trans (congrArg (x_aload 0) ((xe_g0 (kk := 106) rfl tl_6_6).trans (congrArg (x_g0 106 6 0 50) ((xe_iload 2).trans (congrArg (x_iload 2) ((xe_iastore).trans (congrArg (x_iastore) ((xe_aload 0).trans (congrArg (x_aload 0) ((xe_g1 (kk := 106) rfl tl_6_9).trans (congrArg (x_g1 106 529) ((xe_aload 0).trans (congrArg (x_aload 0) ((xe_g0 (kk := 106) rfl tl_6_6).trans (congrArg (x_g0 106 6 0 50) ((xe_iload 3).trans (congrArg (x_iload 3) ((xe_iastore).trans (congrArg (x_iastore) ((xe_aload 0).trans (congrArg (x_aload 0) ((xe_g1 (kk := 106) rfl tl_6_10).trans (congrArg (x_g1 106 530) ((xe_aload 0).trans (congrArg (x_aload 0) ((xe_g0 (kk := 106) rfl tl_6_6).trans (congrArg (x_g0 106 6 0 50) ((xe_aload 0).trans (congrArg (x_aload 0) ((xe_g1 (kk := 106) rfl tl_6_0).trans (congrArg (x_g1 106 108) ((xe_g0 (kk := 108) rfl tl_8_13).trans (congrArg (x_g0 108 13 0 999) ((xe_iastore).trans (congrArg (x_iastore) ((xe_aload 0).trans (congrArg (x_aload 0) ((xe_dup).trans (congrArg (x_dup) ((xe_g0 (kk := 106) rfl tl_6_6).trans (congrArg (x_g0 106 6 0 50) ((xe_iconst 1).trans (congrArg (x_iconst 1) ((xe_iadd).trans (congrArg (x_iadd) ((xe_p (kk := 106) rfl tl_6_6).trans (congrArg (x_p 106 6 0 50) (xe_return_)))))))))))))))))))))))))))))))))))))))))))))))))))))))))))))))))
abbrev po_X6_addDeduction_e (T : Zt) (c cl p : Int) : Zt → Option Zv → Prop := fun T' r => r = none ∧ fr_ [(106, [6]), (527, []), (528, []), (529, []), (530, [])] T T' ∧ (T' 106 0 6 = T 106 0 6 + 1 ∧ DP9_ 527 528 529 530 T T' (T 106 0 6) c cl p (T 108 0 13))
set_option maxHeartbeats 4000000 in
theorem ct_X6_addDeduction_e {T : Zt} {c cl p : Int} (h1 : 0 ≤ c ∧ c < 4) (h2 : 0 ≤ cl ∧ cl < 12) (h3 : 0 ≤ p ∧ p ≤ 99) (h4 : T 106 0 6 < 50) : Ct_ yX6_addDeduction zX6_addDeduction T [vR 106 0, vI c, vI cl, vI p] (po_X6_addDeduction_e T c cl p) := by
  refine ct_of pn_6 rfl rfl (Nat.le_of_ble_eq_true rfl) (fun hT hav => ?_)
  have hr_c : -2147483648 ≤ c ∧ c ≤ 2147483647 := hav (vI c) (List.mem_cons_of_mem _ List.mem_cons_self)
  have hr_cl : -2147483648 ≤ cl ∧ cl ≤ 2147483647 := hav (vI cl) (List.mem_cons_of_mem _ (List.mem_cons_of_mem _ List.mem_cons_self))
  have hr_p : -2147483648 ≤ p ∧ p ≤ 2147483647 := hav (vI p) (List.mem_cons_of_mem _ (List.mem_cons_of_mem _ (List.mem_cons_of_mem _ List.mem_cons_self)))
  have hz : zX6_addDeduction.2.2.2.1 = some .boolean → ∀ (T' : Zt) (x : Int), po_X6_addDeduction_e T c cl p T' (some (vI x)) → 0 ≤ x ∧ x ≤ 1 := fun h => by cases h
  have hb_deductions : 0 ≤ T 106 0 6 ∧ T 106 0 6 ≤ 50 := bd_f hT 106 6 tl_6_6 0
  show J_ zX6_addDeduction T (po_X6_addDeduction_e T c cl p) 0 0 0 [some (vR 106 0), some (vI c), some (vI cl), some (vI p)] [] T
  refine j_blx (F := fX6) tb_X6 (nn_ _) bk_X6_addDeduction_e_0 bs_X6_addDeduction_e_0 hz (fun K hK => ?_)
  intro b1 b1b
  refine iy_i (by omega) (by omega) ?_
  refine x_nm (fun U2 hU2 => ?_)
  have e3 := up_f hU2
  intro b4 b4b
  have e5 : U2 106 0 6 = T 106 0 6 := up_k hU2 (by exact Nat.ne_of_beq_eq_false rfl) 0 6
  rw [e5] at b4 b4b ⊢
  refine iy_i (by omega) (by omega) ?_
  refine x_nm (fun U6 hU6 => ?_)
  have e7 := up_f hU6
  intro b8 b8b
  have e9 : U6 106 0 6 = T 106 0 6 := (up_k hU6 (by exact Nat.ne_of_beq_eq_false rfl) 0 6).trans (up_k hU2 (by exact Nat.ne_of_beq_eq_false rfl) 0 6)
  rw [e9] at b8 b8b ⊢
  refine iy_i (by omega) (by omega) ?_
  refine x_nm (fun U10 hU10 => ?_)
  have e11 := up_f hU10
  intro b12 b12b
  have e13 : U10 106 0 6 = T 106 0 6 := (up_k hU10 (by exact Nat.ne_of_beq_eq_false rfl) 0 6).trans ((up_k hU6 (by exact Nat.ne_of_beq_eq_false rfl) 0 6).trans (up_k hU2 (by exact Nat.ne_of_beq_eq_false rfl) 0 6))
  rw [e13] at b12 b12b ⊢
  intro b14 b14b
  have e15 : U10 108 0 13 = T 108 0 13 := (up_k hU10 (by exact Nat.ne_of_beq_eq_false rfl) 0 13).trans ((up_k hU6 (by exact Nat.ne_of_beq_eq_false rfl) 0 13).trans (up_k hU2 (by exact Nat.ne_of_beq_eq_false rfl) 0 13))
  rw [e15] at b14 b14b ⊢
  refine iy_i (by omega) (by omega) ?_
  refine x_nm (fun U16 hU16 => ?_)
  have e17 := up_f hU16
  intro b18 b18b
  have e19 : U16 106 0 6 = T 106 0 6 := (up_k hU16 (by exact Nat.ne_of_beq_eq_false rfl) 0 6).trans ((up_k hU10 (by exact Nat.ne_of_beq_eq_false rfl) 0 6).trans ((up_k hU6 (by exact Nat.ne_of_beq_eq_false rfl) 0 6).trans (up_k hU2 (by exact Nat.ne_of_beq_eq_false rfl) 0 6)))
  rw [e19] at b18 b18b ⊢
  refine rg_i (by omega) ?_
  refine bd_i (by omega) ?_
  refine x_nm (fun U20 hU20 => ?_)
  have e21 := up_f hU20
  refine (show po_X6_addDeduction_e T c cl p U20 (none) from ?_)
  have e22 : U20 106 0 6 = (T 106 0 6) + 1 := up_f hU20
  exact ⟨rfl, fr_u (fr_u (fr_u (fr_u (fr_u (fr_0 _ _) hU2 rfl) hU6 rfl) hU10 rfl) hU16 rfl) hU20 rfl, by omega, ⟨(up_k hU20 (by exact Nat.ne_of_beq_eq_false rfl) 0 _).trans ((up_k hU16 (by exact Nat.ne_of_beq_eq_false rfl) 0 _).trans ((up_k hU10 (by exact Nat.ne_of_beq_eq_false rfl) 0 _).trans ((up_k hU6 (by exact Nat.ne_of_beq_eq_false rfl) 0 _).trans (up_f hU2)))), fun j hj => (up_k hU20 (by exact Nat.ne_of_beq_eq_false rfl) 0 j).trans ((up_k hU16 (by exact Nat.ne_of_beq_eq_false rfl) 0 j).trans ((up_k hU10 (by exact Nat.ne_of_beq_eq_false rfl) 0 j).trans ((up_k hU6 (by exact Nat.ne_of_beq_eq_false rfl) 0 j).trans (up_g hU2 (fun z => hj z.2.2)))))⟩, ⟨(up_k hU20 (by exact Nat.ne_of_beq_eq_false rfl) 0 _).trans ((up_k hU16 (by exact Nat.ne_of_beq_eq_false rfl) 0 _).trans ((up_k hU10 (by exact Nat.ne_of_beq_eq_false rfl) 0 _).trans (up_f hU6))), fun j hj => (up_k hU20 (by exact Nat.ne_of_beq_eq_false rfl) 0 j).trans ((up_k hU16 (by exact Nat.ne_of_beq_eq_false rfl) 0 j).trans ((up_k hU10 (by exact Nat.ne_of_beq_eq_false rfl) 0 j).trans ((up_g hU6 (fun z => hj z.2.2)).trans (up_k hU2 (by exact Nat.ne_of_beq_eq_false rfl) 0 j))))⟩, ⟨(up_k hU20 (by exact Nat.ne_of_beq_eq_false rfl) 0 _).trans ((up_k hU16 (by exact Nat.ne_of_beq_eq_false rfl) 0 _).trans (up_f hU10)), fun j hj => (up_k hU20 (by exact Nat.ne_of_beq_eq_false rfl) 0 j).trans ((up_k hU16 (by exact Nat.ne_of_beq_eq_false rfl) 0 j).trans ((up_g hU10 (fun z => hj z.2.2)).trans ((up_k hU6 (by exact Nat.ne_of_beq_eq_false rfl) 0 j).trans (up_k hU2 (by exact Nat.ne_of_beq_eq_false rfl) 0 j))))⟩, ⟨(up_k hU20 (by exact Nat.ne_of_beq_eq_false rfl) 0 _).trans (up_f hU16), fun j hj => (up_k hU20 (by exact Nat.ne_of_beq_eq_false rfl) 0 j).trans ((up_g hU16 (fun z => hj z.2.2)).trans ((up_k hU10 (by exact Nat.ne_of_beq_eq_false rfl) 0 j).trans ((up_k hU6 (by exact Nat.ne_of_beq_eq_false rfl) 0 j).trans (up_k hU2 (by exact Nat.ne_of_beq_eq_false rfl) 0 j))))⟩⟩
theorem bk_X10_deduct_e_0 : ck_ fX10 (some .int) cX10_deduct 0 [.aload 0, .iload 1] 2 = true := qck_r (nn_ _) (by decide +kernel)
theorem bs_X10_deduct_e_0 {P : Zt → Option Zv → Prop} (K : Int → Zl → List Zv → Zt → Prop) : sx_ K P [.aload 0, .iload 1] 2 = x_aload 0 (x_iload 1 (K 2)) := ((xe_aload 0).trans (congrArg (x_aload 0) ((xe_iload 1).trans (congrArg (x_iload 1) xe_nil))))
theorem bk_X10_deduct_e_5 : ck_ fX10 (some .int) cX10_deduct 5 [.ifCond .eq 16, .aload 0, .iload 2] 10 = true := qck_r (nn_ _) (by decide +kernel)
theorem bs_X10_deduct_e_5 {P : Zt → Option Zv → Prop} (K : Int → Zl → List Zv → Zt → Prop) : sx_ K P [.ifCond .eq 16, .aload 0, .iload 2] 10 = x_ifCond .eq 16 K (x_aload 0 (x_iload 2 (K 10))) := ((xe_ifCond .eq 16).trans (congrArg (x_ifCond .eq 16 K) ((xe_aload 0).trans (congrArg (x_aload 0) ((xe_iload 2).trans (congrArg (x_iload 2) xe_nil))))))
theorem bk_X10_deduct_e_16 : ck_ fX10 (some .int) cX10_deduct 16 [.iconst (-2), .ireturn] 19 = true := qck_r (nn_ _) (by decide +kernel)
theorem bs_X10_deduct_e_16 {P : Zt → Option Zv → Prop} (K : Int → Zl → List Zv → Zt → Prop) : sx_ K P [.iconst (-2), .ireturn] 19 = x_iconst (-2) (x_ireturn P) := ((xe_iconst (-2)).trans (congrArg (x_iconst (-2)) (xe_ireturn)))
theorem bk_X10_deduct_e_13 : ck_ fX10 (some .int) cX10_deduct 13 [.ifCond .ne 19, .iconst (-2), .ireturn] 19 = true := qck_r (nn_ _) (by decide +kernel)
theorem bs_X10_deduct_e_13 {P : Zt → Option Zv → Prop} (K : Int → Zl → List Zv → Zt → Prop) : sx_ K P [.ifCond .ne 19, .iconst (-2), .ireturn] 19 = x_ifCond .ne 19 K (x_iconst (-2) (x_ireturn P)) := ((xe_ifCond .ne 19).trans (congrArg (x_ifCond .ne 19 K) ((xe_iconst (-2)).trans (congrArg (x_iconst (-2)) (xe_ireturn)))))
theorem bk_X10_deduct_e_19 : ck_ fX10 (some .int) cX10_deduct 19 [.iload 3, .iconst 1, .if_icmp .lt 30, .iload 3, .iconst 99, .if_icmp .le 33, .iconst (-3), .ireturn] 33 = true := qck_r (nn_ _) (by decide +kernel)
theorem bs_X10_deduct_e_19 {P : Zt → Option Zv → Prop} (K : Int → Zl → List Zv → Zt → Prop) : sx_ K P [.iload 3, .iconst 1, .if_icmp .lt 30, .iload 3, .iconst 99, .if_icmp .le 33, .iconst (-3), .ireturn] 33 = x_iload 3 (x_iconst 1 (x_if_icmp .lt 30 K (x_iload 3 (x_iconst 99 (x_if_icmp .le 33 K (x_iconst (-3) (x_ireturn P))))))) := ((xe_iload 3).trans (congrArg (x_iload 3) ((xe_iconst 1).trans (congrArg (x_iconst 1) ((xe_if_icmp .lt 30).trans (congrArg (x_if_icmp .lt 30 K) ((xe_iload 3).trans (congrArg (x_iload 3) ((xe_iconst 99).trans (congrArg (x_iconst 99) ((xe_if_icmp .le 33).trans (congrArg (x_if_icmp .le 33 K) ((xe_iconst (-3)).trans (congrArg (x_iconst (-3)) (xe_ireturn)))))))))))))))
theorem bk_X10_deduct_e_30 : ck_ fX10 (some .int) cX10_deduct 30 [.iconst (-3), .ireturn] 33 = true := qck_r (nn_ _) (by decide +kernel)
theorem bs_X10_deduct_e_30 {P : Zt → Option Zv → Prop} (K : Int → Zl → List Zv → Zt → Prop) : sx_ K P [.iconst (-3), .ireturn] 33 = x_iconst (-3) (x_ireturn P) := ((xe_iconst (-3)).trans (congrArg (x_iconst (-3)) (xe_ireturn)))
theorem bk_X10_deduct_e_33 : ck_ fX10 (some .int) cX10_deduct 33 [.aload 0, .tableswitch 0 10 2 #[], .tableswitch 0 6 1 #[], .iload 1, .aaload, .tableswitch 0 0 4 #[], .iload 2, .iaload, .iconst (-1), .if_icmp .ne 54, .iconst (-4), .ireturn] 54 = true := qck_r (nn_ _) (by decide +kernel)
theorem bs_X10_deduct_e_33 {P : Zt → Option Zv → Prop} (K : Int → Zl → List Zv → Zt → Prop) : sx_ K P [.aload 0, .tableswitch 0 10 2 #[], .tableswitch 0 6 1 #[], .iload 1, .aaload, .tableswitch 0 0 4 #[], .iload 2, .iaload, .iconst (-1), .if_icmp .ne 54, .iconst (-4), .ireturn] 54 = x_aload 0 (x_g1 110 106 (x_g1 106 521 (x_iload 1 (x_aaload (x_g2 100 404 (x_iload 2 (x_iaload (x_iconst (-1) (x_if_icmp .ne 54 K (x_iconst (-4) (x_ireturn P))))))))))) := ((xe_aload 0).trans (congrArg (x_aload 0) ((xe_g1 (kk := 110) rfl tl_10_2).trans (congrArg (x_g1 110 106) ((xe_g1 (kk := 106) rfl tl_6_1).trans (congrArg (x_g1 106 521) ((xe_iload 1).trans (congrArg (x_iload 1) ((xe_aaload).trans (congrArg (x_aaload) ((xe_g2 (kk := 100) rfl tl_0_4).trans (congrArg (x_g2 100 404) ((xe_iload 2).trans (congrArg (x_iload 2) ((xe_iaload).trans (congrArg (x_iaload) ((xe_iconst (-1)).trans (congrArg (x_iconst (-1)) ((xe_if_icmp .ne 54).trans (congrArg (x_if_icmp .ne 54 K) ((xe_iconst (-4)).trans (congrArg (x_iconst (-4)) (xe_ireturn)))))))))))))))))))))))
theorem bk_X10_deduct_e_54 : ck_ fX10 (some .int) cX10_deduct 54 [.aload 0, .tableswitch 0 10 2 #[], .tableswitch 0 6 6 #[], .iconst 50, .if_icmp .lt 69, .iconst (-5), .ireturn] 69 = true := qck_r (nn_ _) (by decide +kernel)
theorem bs_X10_deduct_e_54 {P : Zt → Option Zv → Prop} (K : Int → Zl → List Zv → Zt → Prop) : sx_ K P [.aload 0, .tableswitch 0 10 2 #[], .tableswitch 0 6 6 #[], .iconst 50, .if_icmp .lt 69, .iconst (-5), .ireturn] 69 = x_aload 0 (x_g1 110 106 (x_g0 106 6 0 50 (x_iconst 50 (x_if_icmp .lt 69 K (x_iconst (-5) (x_ireturn P)))))) := ((xe_aload 0).trans (congrArg (x_aload 0) ((xe_g1 (kk := 110) rfl tl_10_2).trans (congrArg (x_g1 110 106) ((xe_g0 (kk := 106) rfl tl_6_6).trans (congrArg (x_g0 106 6 0 50) ((xe_iconst 50).trans (congrArg (x_iconst 50) ((xe_if_icmp .lt 69).trans (congrArg (x_if_icmp .lt 69 K) ((xe_iconst (-5)).trans (congrArg (x_iconst (-5)) (xe_ireturn)))))))))))))
theorem bk_X10_deduct_e_69 : ck_ fX10 (some .int) cX10_deduct 69 [.aload 0, .tableswitch 0 10 2 #[], .iload 1, .iload 2, .iload 3] 76 = true := qck_r (nn_ _) (by decide +kernel)
theorem bs_X10_deduct_e_69 {P : Zt → Option Zv → Prop} (K : Int → Zl → List Zv → Zt → Prop) : sx_ K P [.aload 0, .tableswitch 0 10 2 #[], .iload 1, .iload 2, .iload 3] 76 = x_aload 0 (x_g1 110 106 (x_iload 1 (x_iload 2 (x_iload 3 (K 76))))) := ((xe_aload 0).trans (congrArg (x_aload 0) ((xe_g1 (kk := 110) rfl tl_10_2).trans (congrArg (x_g1 110 106) ((xe_iload 1).trans (congrArg (x_iload 1) ((xe_iload 2).trans (congrArg (x_iload 2) ((xe_iload 3).trans (congrArg (x_iload 3) xe_nil))))))))))
theorem bk_X10_deduct_e_79 : ck_ fX10 (some .int) cX10_deduct 79 [.aload 0, .tableswitch 0 10 2 #[], .tableswitch 0 6 6 #[], .ireturn] 87 = true := qck_r (nn_ _) (by decide +kernel)
theorem bs_X10_deduct_e_79 {P : Zt → Option Zv → Prop} (K : Int → Zl → List Zv → Zt → Prop) : sx_ K P [.aload 0, .tableswitch 0 10 2 #[], .tableswitch 0 6 6 #[], .ireturn] 87 = x_aload 0 (x_g1 110 106 (x_g0 106 6 0 50 (x_ireturn P))) := ((xe_aload 0).trans (congrArg (x_aload 0) ((xe_g1 (kk := 110) rfl tl_10_2).trans (congrArg (x_g1 110 106) ((xe_g0 (kk := 106) rfl tl_6_6).trans (congrArg (x_g0 106 6 0 50) (xe_ireturn)))))))
abbrev po_X10_deduct_e (T : Zt) (c cl p : Int) : Zt → Option Zv → Prop := fun T' r => ∃ x : Int, r = some (vI x) ∧ fr_ [(106, [6]), (527, []), (528, []), (529, []), (530, [])] T T' ∧ (DH9_ T T' c cl p x)
set_option maxHeartbeats 4000000 in
theorem ct_X10_deduct_e {T : Zt} {c cl p : Int} (hka : KA_ T) : Ct_ yX10_deduct zX10_deduct T [vR 110 0, vI c, vI cl, vI p] (po_X10_deduct_e T c cl p) := by
  refine ct_of pn_10 rfl rfl (Nat.le_of_ble_eq_true rfl) (fun hT hav => ?_)
  have hr_c : -2147483648 ≤ c ∧ c ≤ 2147483647 := hav (vI c) (List.mem_cons_of_mem _ List.mem_cons_self)
  have hr_cl : -2147483648 ≤ cl ∧ cl ≤ 2147483647 := hav (vI cl) (List.mem_cons_of_mem _ (List.mem_cons_of_mem _ List.mem_cons_self))
  have hr_p : -2147483648 ≤ p ∧ p ≤ 2147483647 := hav (vI p) (List.mem_cons_of_mem _ (List.mem_cons_of_mem _ (List.mem_cons_of_mem _ List.mem_cons_self)))
  have hz : zX10_deduct.2.2.2.1 = some .boolean → ∀ (T' : Zt) (x : Int), po_X10_deduct_e T c cl p T' (some (vI x)) → 0 ≤ x ∧ x ≤ 1 := fun h => by cases h
  have hb_competitionCount : 0 ≤ T 106 0 2 ∧ T 106 0 2 ≤ 4 := bd_f hT 106 2 tl_6_2 0
  have hb_clubs : 0 ≤ T 108 0 2 ∧ T 108 0 2 ≤ 12 := bd_f hT 108 2 tl_8_2 0
  have hb_deductions : 0 ≤ T 106 0 6 ∧ T 106 0 6 ≤ 50 := bd_f hT 106 6 tl_6_6 0
  show J_ zX10_deduct T (po_X10_deduct_e T c cl p) 0 0 0 [some (vR 110 0), some (vI c), some (vI cl), some (vI p)] [] T
  refine j_blx (F := fX10) tb_X10 (nn_ _) bk_X10_deduct_e_0 bs_X10_deduct_e_0 hz (fun K hK => ?_)
  refine hK 2 _ [vI c, vR 110 0] T ?_
  refine j_callV (y := yX10_isCompetition) (Yc := zX10_isCompetition) (rest := []) [vI c] (ct_X10_isCompetition (T := T)) cl_X10_107 (qd_c (by decide +kernel)) (nn_ _) rfl (rf_of rfl) (Nat.le_of_ble_eq_true rfl) (Nat.le_of_ble_eq_true rfl) (Nat.le_of_ble_eq_true rfl) rfl ?_
  rintro _ _ ⟨rfl, x1, rfl, hx1⟩
  show J_ zX10_deduct T (po_X10_deduct_e T c cl p) 0 0 5 _ [vI x1] T
  refine j_blx (F := fX10) tb_X10 (nn_ _) bk_X10_deduct_e_5 bs_X10_deduct_e_5 hz (fun K hK => ?_)
  refine And.intro (fun c2 => ?_) (fun c2 => ?_)
  · replace hx1 := hx1.resolve_left (fun z => absurd (c2.symm.trans z.1) (by decide))
    clear c2
    refine hK 16 _ [] T ?_
    refine j_blx (F := fX10) tb_X10 (nn_ _) bk_X10_deduct_e_16 bs_X10_deduct_e_16 hz (fun K hK => ?_)
    refine (show po_X10_deduct_e T c cl p T (some (vI (-2))) from ?_)
    exact ⟨_, rfl, fr_0 _ _, Or.inl ⟨rfl, Or.inl ⟨rfl, by omega⟩⟩⟩
  · replace hx1 := hx1.resolve_right (fun z => c2 z.1)
    clear c2
    refine hK 10 _ [vI cl, vR 110 0] T ?_
    refine j_callV (y := yX10_isClub) (Yc := zX10_isClub) (rest := []) [vI cl] (ct_X10_isClub (T := T)) cl_X10_137 (qd_c (by decide +kernel)) (nn_ _) rfl (rf_of rfl) (Nat.le_of_ble_eq_true rfl) (Nat.le_of_ble_eq_true rfl) (Nat.le_of_ble_eq_true rfl) rfl ?_
    rintro _ _ ⟨rfl, x3, rfl, hx3⟩
    show J_ zX10_deduct T (po_X10_deduct_e T c cl p) 0 0 13 _ [vI x3] T
    refine j_blx (F := fX10) tb_X10 (nn_ _) bk_X10_deduct_e_13 bs_X10_deduct_e_13 hz (fun K hK => ?_)
    refine And.intro (fun c4 => ?_) (fun c4 => ?_)
    · replace hx3 := hx3.resolve_right (fun z => c4 z.1)
      clear c4
      refine hK 19 _ [] T ?_
      refine j_blx (F := fX10) tb_X10 (nn_ _) bk_X10_deduct_e_19 bs_X10_deduct_e_19 hz (fun K hK => ?_)
      refine And.intro (fun c5 => ?_) (fun c5 => ?_)
      · refine hK 30 _ [] T ?_
        refine j_blx (F := fX10) tb_X10 (nn_ _) bk_X10_deduct_e_30 bs_X10_deduct_e_30 hz (fun K hK => ?_)
        refine (show po_X10_deduct_e T c cl p T (some (vI (-3))) from ?_)
        exact ⟨_, rfl, fr_0 _ _, Or.inl ⟨rfl, Or.inr ⟨by omega, Or.inl ⟨rfl, by omega⟩⟩⟩⟩
      · refine And.intro (fun c6 => ?_) (fun c6 => ?_)
        · refine hK 33 _ [] T ?_
          refine j_blx (F := fX10) tb_X10 (nn_ _) bk_X10_deduct_e_33 bs_X10_deduct_e_33 hz (fun K hK => ?_)
          refine ix_i (by omega) ?_
          refine And.intro (fun c7 => ?_) (fun c7 => ?_)
          · exact absurd c7 (hka.1 c (by omega) (by omega))
          · refine ix_i (by omega) ?_
            intro b8 b8b
            refine And.intro (fun c9 => ?_) (fun c9 => ?_)
            · refine hK 54 _ [] T ?_
              refine j_blx (F := fX10) tb_X10 (nn_ _) bk_X10_deduct_e_54 bs_X10_deduct_e_54 hz (fun K hK => ?_)
              intro b10 b10b
              refine And.intro (fun c11 => ?_) (fun c11 => ?_)
              · refine hK 69 _ [] T ?_
                refine j_blx (F := fX10) tb_X10 (nn_ _) bk_X10_deduct_e_69 bs_X10_deduct_e_69 hz (fun K hK => ?_)
                refine hK 76 _ [vI p, vI cl, vI c, vR 106 0] T ?_
                refine j_callV (y := yX6_addDeduction) (Yc := zX6_addDeduction) (rest := []) [vI c, vI cl, vI p] (ct_X6_addDeduction_e (T := T) (by omega) (by omega) (by omega) (by omega)) cl_X10_247 (qd_c (by decide +kernel)) (nn_ _) rfl (rf_of rfl) (Nat.le_of_ble_eq_true rfl) (Nat.le_of_ble_eq_true rfl) (Nat.le_of_ble_eq_true rfl) rfl ?_
                rintro U12 _ ⟨rfl, fU12, ⟨qU12n, qU12d⟩⟩
                show J_ zX10_deduct T (po_X10_deduct_e T c cl p) 0 0 79 _ [] U12
                refine j_blx (F := fX10) tb_X10 (nn_ _) bk_X10_deduct_e_79 bs_X10_deduct_e_79 hz (fun K hK => ?_)
                intro b13 b13b
                refine (show po_X10_deduct_e T c cl p U12 (some (vI (U12 106 0 6))) from ?_)
                exact ⟨_, rfl, fr_t (fr_0 _ _) (fr_s fU12 rfl), Or.inr ⟨by omega, by omega, by omega, by omega, by omega, by omega, qU12d⟩⟩
              · refine (show po_X10_deduct_e T c cl p T (some (vI (-5))) from ?_)
                exact ⟨_, rfl, fr_0 _ _, Or.inl ⟨rfl, Or.inr ⟨by omega, Or.inr ⟨by omega, Or.inr ⟨by omega, rfl, by omega⟩⟩⟩⟩⟩
            · refine (show po_X10_deduct_e T c cl p T (some (vI (-4))) from ?_)
              exact ⟨_, rfl, fr_0 _ _, Or.inl ⟨rfl, Or.inr ⟨by omega, Or.inr ⟨by omega, Or.inl ⟨rfl, by omega⟩⟩⟩⟩⟩
        · refine (show po_X10_deduct_e T c cl p T (some (vI (-3))) from ?_)
          exact ⟨_, rfl, fr_0 _ _, Or.inl ⟨rfl, Or.inr ⟨by omega, Or.inl ⟨rfl, by omega⟩⟩⟩⟩
    · replace hx3 := hx3.resolve_left (fun z => absurd (c4.symm.trans z.1) (by decide))
      clear c4
      refine (show po_X10_deduct_e T c cl p T (some (vI (-2))) from ?_)
      exact ⟨_, rfl, fr_0 _ _, Or.inl ⟨rfl, Or.inl ⟨rfl, by omega⟩⟩⟩
theorem bk_X11_deduct_e_0 : ck_ fX11 (some .int) cX11_deduct 0 [.iload 1, .aload 0, .tableswitch 0 11 6 #[]] 5 = true := qck_r (nn_ _) (by decide +kernel)
theorem bs_X11_deduct_e_0 {P : Zt → Option Zv → Prop} (K : Int → Zl → List Zv → Zt → Prop) : sx_ K P [.iload 1, .aload 0, .tableswitch 0 11 6 #[]] 5 = x_iload 1 (x_aload 0 (x_g0 111 6 0 4 (K 5))) := ((xe_iload 1).trans (congrArg (x_iload 1) ((xe_aload 0).trans (congrArg (x_aload 0) ((xe_g0 (kk := 111) rfl tl_11_6).trans (congrArg (x_g0 111 6 0 4) xe_nil))))))
theorem bk_X11_deduct_e_8 : ck_ fX11 (some .int) cX11_deduct 8 [.ifCond .eq 22, .iload 2, .aload 0, .tableswitch 0 11 12 #[]] 16 = true := qck_r (nn_ _) (by decide +kernel)
theorem bs_X11_deduct_e_8 {P : Zt → Option Zv → Prop} (K : Int → Zl → List Zv → Zt → Prop) : sx_ K P [.ifCond .eq 22, .iload 2, .aload 0, .tableswitch 0 11 12 #[]] 16 = x_ifCond .eq 22 K (x_iload 2 (x_aload 0 (x_g0 111 12 0 12 (K 16)))) := ((xe_ifCond .eq 22).trans (congrArg (x_ifCond .eq 22 K) ((xe_iload 2).trans (congrArg (x_iload 2) ((xe_aload 0).trans (congrArg (x_aload 0) ((xe_g0 (kk := 111) rfl tl_11_12).trans (congrArg (x_g0 111 12 0 12) xe_nil))))))))
theorem bk_X11_deduct_e_22 : ck_ fX11 (some .int) cX11_deduct 22 [.iconst (-2), .ireturn] 25 = true := qck_r (nn_ _) (by decide +kernel)
theorem bs_X11_deduct_e_22 {P : Zt → Option Zv → Prop} (K : Int → Zl → List Zv → Zt → Prop) : sx_ K P [.iconst (-2), .ireturn] 25 = x_iconst (-2) (x_ireturn P) := ((xe_iconst (-2)).trans (congrArg (x_iconst (-2)) (xe_ireturn)))
theorem bk_X11_deduct_e_19 : ck_ fX11 (some .int) cX11_deduct 19 [.ifCond .ne 25, .iconst (-2), .ireturn] 25 = true := qck_r (nn_ _) (by decide +kernel)
theorem bs_X11_deduct_e_19 {P : Zt → Option Zv → Prop} (K : Int → Zl → List Zv → Zt → Prop) : sx_ K P [.ifCond .ne 25, .iconst (-2), .ireturn] 25 = x_ifCond .ne 25 K (x_iconst (-2) (x_ireturn P)) := ((xe_ifCond .ne 25).trans (congrArg (x_ifCond .ne 25 K) ((xe_iconst (-2)).trans (congrArg (x_iconst (-2)) (xe_ireturn)))))
theorem bk_X11_deduct_e_25 : ck_ fX11 (some .int) cX11_deduct 25 [.iload 3, .iconst 1, .iconst 99] 29 = true := qck_r (nn_ _) (by decide +kernel)
theorem bs_X11_deduct_e_25 {P : Zt → Option Zv → Prop} (K : Int → Zl → List Zv → Zt → Prop) : sx_ K P [.iload 3, .iconst 1, .iconst 99] 29 = x_iload 3 (x_iconst 1 (x_iconst 99 (K 29))) := ((xe_iload 3).trans (congrArg (x_iload 3) ((xe_iconst 1).trans (congrArg (x_iconst 1) ((xe_iconst 99).trans (congrArg (x_iconst 99) xe_nil))))))
theorem bk_X11_deduct_e_32 : ck_ fX11 (some .int) cX11_deduct 32 [.ifCond .ne 38, .iconst (-3), .ireturn] 38 = true := qck_r (nn_ _) (by decide +kernel)
theorem bs_X11_deduct_e_32 {P : Zt → Option Zv → Prop} (K : Int → Zl → List Zv → Zt → Prop) : sx_ K P [.ifCond .ne 38, .iconst (-3), .ireturn] 38 = x_ifCond .ne 38 K (x_iconst (-3) (x_ireturn P)) := ((xe_ifCond .ne 38).trans (congrArg (x_ifCond .ne 38 K) ((xe_iconst (-3)).trans (congrArg (x_iconst (-3)) (xe_ireturn)))))
theorem bk_X11_deduct_e_38 : ck_ fX11 (some .int) cX11_deduct 38 [.aload 0, .iload 1, .iload 2] 41 = true := qck_r (nn_ _) (by decide +kernel)
theorem bs_X11_deduct_e_38 {P : Zt → Option Zv → Prop} (K : Int → Zl → List Zv → Zt → Prop) : sx_ K P [.aload 0, .iload 1, .iload 2] 41 = x_aload 0 (x_iload 1 (x_iload 2 (K 41))) := ((xe_aload 0).trans (congrArg (x_aload 0) ((xe_iload 1).trans (congrArg (x_iload 1) ((xe_iload 2).trans (congrArg (x_iload 2) xe_nil))))))
theorem bk_X11_deduct_e_44 : ck_ fX11 (some .int) cX11_deduct 44 [.ifCond .ne 50, .iconst (-4), .ireturn] 50 = true := qck_r (nn_ _) (by decide +kernel)
theorem bs_X11_deduct_e_44 {P : Zt → Option Zv → Prop} (K : Int → Zl → List Zv → Zt → Prop) : sx_ K P [.ifCond .ne 50, .iconst (-4), .ireturn] 50 = x_ifCond .ne 50 K (x_iconst (-4) (x_ireturn P)) := ((xe_ifCond .ne 50).trans (congrArg (x_ifCond .ne 50 K) ((xe_iconst (-4)).trans (congrArg (x_iconst (-4)) (xe_ireturn)))))
theorem bk_X11_deduct_e_50 : ck_ fX11 (some .int) cX11_deduct 50 [.aload 0, .tableswitch 0 11 24 #[], .iconst 50, .if_icmp .ne 62, .iconst (-5), .ireturn] 62 = true := qck_r (nn_ _) (by decide +kernel)
theorem bs_X11_deduct_e_50 {P : Zt → Option Zv → Prop} (K : Int → Zl → List Zv → Zt → Prop) : sx_ K P [.aload 0, .tableswitch 0 11 24 #[], .iconst 50, .if_icmp .ne 62, .iconst (-5), .ireturn] 62 = x_aload 0 (x_g0 111 24 0 50 (x_iconst 50 (x_if_icmp .ne 62 K (x_iconst (-5) (x_ireturn P))))) := ((xe_aload 0).trans (congrArg (x_aload 0) ((xe_g0 (kk := 111) rfl tl_11_24).trans (congrArg (x_g0 111 24 0 50) ((xe_iconst 50).trans (congrArg (x_iconst 50) ((xe_if_icmp .ne 62).trans (congrArg (x_if_icmp .ne 62 K) ((xe_iconst (-5)).trans (congrArg (x_iconst (-5)) (xe_ireturn)))))))))))
theorem bk_X11_deduct_e_62 : ck_ fX11 (some .int) cX11_deduct 62 [.aload 0, .tableswitch 0 11 25 #[], .aload 0, .tableswitch 0 11 24 #[], .iload 1, .iastore, .aload 0, .tableswitch 0 11 26 #[], .aload 0, .tableswitch 0 11 24 #[], .iload 2, .iastore, .aload 0, .tableswitch 0 11 27 #[], .aload 0, .tableswitch 0 11 24 #[], .iload 3, .iastore, .aload 0, .tableswitch 0 11 28 #[], .aload 0, .tableswitch 0 11 24 #[], .aload 0, .tableswitch 0 11 3 #[], .iastore, .aload 0, .dup, .tableswitch 0 11 24 #[], .iconst 1, .iadd, .tableswitch 1 11 24 #[], .aload 0, .tableswitch 0 11 24 #[], .ireturn] 120 = true := qck_r (nn_ _) (by decide +kernel)
theorem bs_X11_deduct_e_62 {P : Zt → Option Zv → Prop} (K : Int → Zl → List Zv → Zt → Prop) : sx_ K P [.aload 0, .tableswitch 0 11 25 #[], .aload 0, .tableswitch 0 11 24 #[], .iload 1, .iastore, .aload 0, .tableswitch 0 11 26 #[], .aload 0, .tableswitch 0 11 24 #[], .iload 2, .iastore, .aload 0, .tableswitch 0 11 27 #[], .aload 0, .tableswitch 0 11 24 #[], .iload 3, .iastore, .aload 0, .tableswitch 0 11 28 #[], .aload 0, .tableswitch 0 11 24 #[], .aload 0, .tableswitch 0 11 3 #[], .iastore, .aload 0, .dup, .tableswitch 0 11 24 #[], .iconst 1, .iadd, .tableswitch 1 11 24 #[], .aload 0, .tableswitch 0 11 24 #[], .ireturn] 120 = x_aload 0 (x_g1 111 225 (x_aload 0 (x_g0 111 24 0 50 (x_iload 1 (x_iastore (x_aload 0 (x_g1 111 226 (x_aload 0 (x_g0 111 24 0 50 (x_iload 2 (x_iastore (x_aload 0 (x_g1 111 227 (x_aload 0 (x_g0 111 24 0 50 (x_iload 3 (x_iastore (x_aload 0 (x_g1 111 228 (x_aload 0 (x_g0 111 24 0 50 (x_aload 0 (x_g0 111 3 0 999 (x_iastore (x_aload 0 (x_dup (x_g0 111 24 0 50 (x_iconst 1 (x_iadd (x_p 111 24 0 50 (x_aload 0 (x_g0 111 24 0 50 (x_ireturn P))))))))))))))))))))))))))))))))) := ((xe_aload 0).trans (congrArg (x_aload 0) ((xe_g1 (kk := 111) rfl tl_11_25).trans (congrArg (x_g1 111 225) ((xe_aload 0).trans (congrArg (x_aload 0) ((xe_g0 (kk := 111) rfl tl_11_24).trans (congrArg (x_g0 111 24 0 50) ((xe_iload 1).trans (congrArg (x_iload 1) ((xe_iastore).trans (congrArg (x_iastore) ((xe_aload 0).trans (congrArg (x_aload 0) ((xe_g1 (kk := 111) rfl tl_11_26).trans (congrArg (x_g1 111 226) ((xe_aload 0).trans (congrArg (x_aload 0) ((xe_g0 (kk := 111) rfl tl_11_24).trans (congrArg (x_g0 111 24 0 50) ((xe_iload 2).trans (congrArg (x_iload 2) ((xe_iastore).trans (congrArg (x_iastore) ((xe_aload 0).trans (congrArg (x_aload 0) ((xe_g1 (kk := 111) rfl tl_11_27).trans (congrArg (x_g1 111 227) ((xe_aload 0).trans (congrArg (x_aload 0) ((xe_g0 (kk := 111) rfl tl_11_24).trans (congrArg (x_g0 111 24 0 50) ((xe_iload 3).trans (congrArg (x_iload 3) ((xe_iastore).trans (congrArg (x_iastore) ((xe_aload 0).trans (congrArg (x_aload 0) ((xe_g1 (kk := 111) rfl tl_11_28).trans (congrArg (x_g1 111 228) ((xe_aload 0).trans (congrArg (x_aload 0) ((xe_g0 (kk := 111) rfl tl_11_24).trans (congrArg (x_g0 111 24 0 50) ((xe_aload 0).trans (congrArg (x_aload 0) ((xe_g0 (kk := 111) rfl tl_11_3).trans (congrArg (x_g0 111 3 0 999) ((xe_iastore).trans (congrArg (x_iastore) ((xe_aload 0).trans (congrArg (x_aload 0) ((xe_dup).trans (congrArg (x_dup) ((xe_g0 (kk := 111) rfl tl_11_24).trans (congrArg (x_g0 111 24 0 50) ((xe_iconst 1).trans (congrArg (x_iconst 1) ((xe_iadd).trans (congrArg (x_iadd) ((xe_p (kk := 111) rfl tl_11_24).trans (congrArg (x_p 111 24 0 50) ((xe_aload 0).trans (congrArg (x_aload 0) ((xe_g0 (kk := 111) rfl tl_11_24).trans (congrArg (x_g0 111 24 0 50) (xe_ireturn)))))))))))))))))))))))))))))))))))))))))))))))))))))))))))))))))))
abbrev po_X11_deduct_e (T : Zt) (c cl p : Int) : Zt → Option Zv → Prop := fun T' r => ∃ x : Int, r = some (vI x) ∧ fr_ [(225, []), (226, []), (227, []), (228, []), (111, [24])] T T' ∧ (DR9_ T T' c cl p x)
set_option maxHeartbeats 4000000 in
theorem ct_X11_deduct_e {T : Zt} {c cl p : Int} : Ct_ yX11_deduct zX11_deduct T [vR 111 0, vI c, vI cl, vI p] (po_X11_deduct_e T c cl p) := by
  refine ct_of pn_11 rfl rfl (Nat.le_of_ble_eq_true rfl) (fun hT hav => ?_)
  have hr_c : -2147483648 ≤ c ∧ c ≤ 2147483647 := hav (vI c) (List.mem_cons_of_mem _ List.mem_cons_self)
  have hr_cl : -2147483648 ≤ cl ∧ cl ≤ 2147483647 := hav (vI cl) (List.mem_cons_of_mem _ (List.mem_cons_of_mem _ List.mem_cons_self))
  have hr_p : -2147483648 ≤ p ∧ p ≤ 2147483647 := hav (vI p) (List.mem_cons_of_mem _ (List.mem_cons_of_mem _ (List.mem_cons_of_mem _ List.mem_cons_self)))
  have hz : zX11_deduct.2.2.2.1 = some .boolean → ∀ (T' : Zt) (x : Int), po_X11_deduct_e T c cl p T' (some (vI x)) → 0 ≤ x ∧ x ≤ 1 := fun h => by cases h
  have hb_6 : 0 ≤ T 111 0 6 ∧ T 111 0 6 ≤ 4 := bd_f hT 111 6 tl_11_6 0
  have hb_12 : 0 ≤ T 111 0 12 ∧ T 111 0 12 ≤ 12 := bd_f hT 111 12 tl_11_12 0
  have hb_24 : 0 ≤ T 111 0 24 ∧ T 111 0 24 ≤ 50 := bd_f hT 111 24 tl_11_24 0
  show J_ zX11_deduct T (po_X11_deduct_e T c cl p) 0 0 0 [some (vR 111 0), some (vI c), some (vI cl), some (vI p)] [] T
  refine j_blx (F := fX11) tb_X11 (nn_ _) bk_X11_deduct_e_0 bs_X11_deduct_e_0 hz (fun K hK => ?_)
  intro b1 b1b
  refine hK 5 _ [vI (T 111 0 6), vI c] T ?_
  refine j_callS (y := yX11_isOf) (Yc := zX11_isOf) (rest := []) [vI c, vI (T 111 0 6)] (ct_X11_isOf (T := T) (by omega)) cl_X11_317 (qd_c (by decide +kernel)) (nn_ _) rfl (rf_of rfl) (Nat.le_of_ble_eq_true rfl) (Nat.le_of_ble_eq_true rfl) (Nat.le_of_ble_eq_true rfl) rfl ?_
  rintro _ _ ⟨rfl, x2, rfl, hx2⟩
  show J_ zX11_deduct T (po_X11_deduct_e T c cl p) 0 0 8 _ [vI x2] T
  refine j_blx (F := fX11) tb_X11 (nn_ _) bk_X11_deduct_e_8 bs_X11_deduct_e_8 hz (fun K hK => ?_)
  refine And.intro (fun c3 => ?_) (fun c3 => ?_)
  · replace hx2 := hx2.resolve_left (fun z => absurd (c3.symm.trans z.1) (by decide))
    clear c3
    refine hK 22 _ [] T ?_
    refine j_blx (F := fX11) tb_X11 (nn_ _) bk_X11_deduct_e_22 bs_X11_deduct_e_22 hz (fun K hK => ?_)
    refine (show po_X11_deduct_e T c cl p T (some (vI (-2))) from ?_)
    exact ⟨_, rfl, fr_0 _ _, Or.inl ⟨rfl, Or.inl ⟨rfl, by omega⟩⟩⟩
  · replace hx2 := hx2.resolve_right (fun z => c3 z.1)
    clear c3
    intro b4 b4b
    refine hK 16 _ [vI (T 111 0 12), vI cl] T ?_
    refine j_callS (y := yX11_isOf) (Yc := zX11_isOf) (rest := []) [vI cl, vI (T 111 0 12)] (ct_X11_isOf (T := T) (by omega)) cl_X11_317 (qd_c (by decide +kernel)) (nn_ _) rfl (rf_of rfl) (Nat.le_of_ble_eq_true rfl) (Nat.le_of_ble_eq_true rfl) (Nat.le_of_ble_eq_true rfl) rfl ?_
    rintro _ _ ⟨rfl, x5, rfl, hx5⟩
    show J_ zX11_deduct T (po_X11_deduct_e T c cl p) 0 0 19 _ [vI x5] T
    refine j_blx (F := fX11) tb_X11 (nn_ _) bk_X11_deduct_e_19 bs_X11_deduct_e_19 hz (fun K hK => ?_)
    refine And.intro (fun c6 => ?_) (fun c6 => ?_)
    · replace hx5 := hx5.resolve_right (fun z => c6 z.1)
      clear c6
      refine hK 25 _ [] T ?_
      refine j_blx (F := fX11) tb_X11 (nn_ _) bk_X11_deduct_e_25 bs_X11_deduct_e_25 hz (fun K hK => ?_)
      refine hK 29 _ [vI 99, vI 1, vI p] T ?_
      refine j_callS (y := yX11_in) (Yc := zX11_in) (rest := []) [vI p, vI 1, vI 99] (ct_X11_in (T := T)) cl_X11_255 (qd_c (by decide +kernel)) (nn_ _) rfl (rf_of rfl) (Nat.le_of_ble_eq_true rfl) (Nat.le_of_ble_eq_true rfl) (Nat.le_of_ble_eq_true rfl) rfl ?_
      rintro _ _ ⟨rfl, x7, rfl, hx7⟩
      show J_ zX11_deduct T (po_X11_deduct_e T c cl p) 0 0 32 _ [vI x7] T
      refine j_blx (F := fX11) tb_X11 (nn_ _) bk_X11_deduct_e_32 bs_X11_deduct_e_32 hz (fun K hK => ?_)
      refine And.intro (fun c8 => ?_) (fun c8 => ?_)
      · replace hx7 := hx7.resolve_right (fun z => c8 z.1)
        clear c8
        refine hK 38 _ [] T ?_
        refine j_blx (F := fX11) tb_X11 (nn_ _) bk_X11_deduct_e_38 bs_X11_deduct_e_38 hz (fun K hK => ?_)
        refine hK 41 _ [vI cl, vI c, vR 111 0] T ?_
        refine j_callV (y := yX11_hasEntered) (Yc := zX11_hasEntered) (rest := []) [vI c, vI cl] (ct_X11_hasEntered (T := T) (by omega)) cl_X11_340 (qd_c (by decide +kernel)) (nn_ _) rfl (rf_of rfl) (Nat.le_of_ble_eq_true rfl) (Nat.le_of_ble_eq_true rfl) (Nat.le_of_ble_eq_true rfl) rfl ?_
        rintro _ _ ⟨rfl, x9, rfl, hx9⟩
        show J_ zX11_deduct T (po_X11_deduct_e T c cl p) 0 0 44 _ [vI x9] T
        refine j_blx (F := fX11) tb_X11 (nn_ _) bk_X11_deduct_e_44 bs_X11_deduct_e_44 hz (fun K hK => ?_)
        refine And.intro (fun c10 => ?_) (fun c10 => ?_)
        · refine hK 50 _ [] T ?_
          refine j_blx (F := fX11) tb_X11 (nn_ _) bk_X11_deduct_e_50 bs_X11_deduct_e_50 hz (fun K hK => ?_)
          intro b11 b11b
          refine And.intro (fun c12 => ?_) (fun c12 => ?_)
          · refine hK 62 _ [] T ?_
            refine j_blx (F := fX11) tb_X11 (nn_ _) bk_X11_deduct_e_62 bs_X11_deduct_e_62 hz (fun K hK => ?_)
            intro b13 b13b
            refine iy_i (by omega) (by omega) ?_
            refine x_nm (fun U14 hU14 => ?_)
            have e15 := up_f hU14
            intro b16 b16b
            have e17 : U14 111 0 24 = T 111 0 24 := up_k hU14 (by exact Nat.ne_of_beq_eq_false rfl) 0 24
            rw [e17] at b16 b16b ⊢
            refine iy_i (by omega) (by omega) ?_
            refine x_nm (fun U18 hU18 => ?_)
            have e19 := up_f hU18
            intro b20 b20b
            have e21 : U18 111 0 24 = T 111 0 24 := (up_k hU18 (by exact Nat.ne_of_beq_eq_false rfl) 0 24).trans (up_k hU14 (by exact Nat.ne_of_beq_eq_false rfl) 0 24)
            rw [e21] at b20 b20b ⊢
            refine iy_i (by omega) (by omega) ?_
            refine x_nm (fun U22 hU22 => ?_)
            have e23 := up_f hU22
            intro b24 b24b
            have e25 : U22 111 0 24 = T 111 0 24 := (up_k hU22 (by exact Nat.ne_of_beq_eq_false rfl) 0 24).trans ((up_k hU18 (by exact Nat.ne_of_beq_eq_false rfl) 0 24).trans (up_k hU14 (by exact Nat.ne_of_beq_eq_false rfl) 0 24))
            rw [e25] at b24 b24b ⊢
            intro b26 b26b
            have e27 : U22 111 0 3 = T 111 0 3 := (up_k hU22 (by exact Nat.ne_of_beq_eq_false rfl) 0 3).trans ((up_k hU18 (by exact Nat.ne_of_beq_eq_false rfl) 0 3).trans (up_k hU14 (by exact Nat.ne_of_beq_eq_false rfl) 0 3))
            rw [e27] at b26 b26b ⊢
            refine iy_i (by omega) (by omega) ?_
            refine x_nm (fun U28 hU28 => ?_)
            have e29 := up_f hU28
            intro b30 b30b
            have e31 : U28 111 0 24 = T 111 0 24 := (up_k hU28 (by exact Nat.ne_of_beq_eq_false rfl) 0 24).trans ((up_k hU22 (by exact Nat.ne_of_beq_eq_false rfl) 0 24).trans ((up_k hU18 (by exact Nat.ne_of_beq_eq_false rfl) 0 24).trans (up_k hU14 (by exact Nat.ne_of_beq_eq_false rfl) 0 24)))
            rw [e31] at b30 b30b ⊢
            refine rg_i (by omega) ?_
            refine bd_i (by omega) ?_
            refine x_nm (fun U32 hU32 => ?_)
            have e33 := up_f hU32
            intro b34 b34b
            have e35 : U32 111 0 24 = (T 111 0 24) + 1 := up_f hU32
            rw [e35] at b34 b34b ⊢
            refine (show po_X11_deduct_e T c cl p U32 (some (vI ((T 111 0 24) + 1))) from ?_)
            exact ⟨_, rfl, fr_u (fr_u (fr_u (fr_u (fr_u (fr_0 _ _) hU14 rfl) hU18 rfl) hU22 rfl) hU28 rfl) hU32 rfl, Or.inr ⟨by omega, by omega, (hx9.resolve_right (fun z => by omega)).2, by omega, by omega, by omega, ⟨(up_k hU32 (by exact Nat.ne_of_beq_eq_false rfl) 0 _).trans ((up_k hU28 (by exact Nat.ne_of_beq_eq_false rfl) 0 _).trans ((up_k hU22 (by exact Nat.ne_of_beq_eq_false rfl) 0 _).trans ((up_k hU18 (by exact Nat.ne_of_beq_eq_false rfl) 0 _).trans (up_f hU14)))), fun j hj => (up_k hU32 (by exact Nat.ne_of_beq_eq_false rfl) 0 j).trans ((up_k hU28 (by exact Nat.ne_of_beq_eq_false rfl) 0 j).trans ((up_k hU22 (by exact Nat.ne_of_beq_eq_false rfl) 0 j).trans ((up_k hU18 (by exact Nat.ne_of_beq_eq_false rfl) 0 j).trans (up_g hU14 (fun z => hj z.2.2)))))⟩, ⟨(up_k hU32 (by exact Nat.ne_of_beq_eq_false rfl) 0 _).trans ((up_k hU28 (by exact Nat.ne_of_beq_eq_false rfl) 0 _).trans ((up_k hU22 (by exact Nat.ne_of_beq_eq_false rfl) 0 _).trans (up_f hU18))), fun j hj => (up_k hU32 (by exact Nat.ne_of_beq_eq_false rfl) 0 j).trans ((up_k hU28 (by exact Nat.ne_of_beq_eq_false rfl) 0 j).trans ((up_k hU22 (by exact Nat.ne_of_beq_eq_false rfl) 0 j).trans ((up_g hU18 (fun z => hj z.2.2)).trans (up_k hU14 (by exact Nat.ne_of_beq_eq_false rfl) 0 j))))⟩, ⟨(up_k hU32 (by exact Nat.ne_of_beq_eq_false rfl) 0 _).trans ((up_k hU28 (by exact Nat.ne_of_beq_eq_false rfl) 0 _).trans (up_f hU22)), fun j hj => (up_k hU32 (by exact Nat.ne_of_beq_eq_false rfl) 0 j).trans ((up_k hU28 (by exact Nat.ne_of_beq_eq_false rfl) 0 j).trans ((up_g hU22 (fun z => hj z.2.2)).trans ((up_k hU18 (by exact Nat.ne_of_beq_eq_false rfl) 0 j).trans (up_k hU14 (by exact Nat.ne_of_beq_eq_false rfl) 0 j))))⟩, ⟨(up_k hU32 (by exact Nat.ne_of_beq_eq_false rfl) 0 _).trans (up_f hU28), fun j hj => (up_k hU32 (by exact Nat.ne_of_beq_eq_false rfl) 0 j).trans ((up_g hU28 (fun z => hj z.2.2)).trans ((up_k hU22 (by exact Nat.ne_of_beq_eq_false rfl) 0 j).trans ((up_k hU18 (by exact Nat.ne_of_beq_eq_false rfl) 0 j).trans (up_k hU14 (by exact Nat.ne_of_beq_eq_false rfl) 0 j))))⟩⟩⟩
          · refine (show po_X11_deduct_e T c cl p T (some (vI (-5))) from ?_)
            exact ⟨_, rfl, fr_0 _ _, Or.inl ⟨rfl, Or.inr ⟨by omega, Or.inr ⟨by omega, Or.inr ⟨(hx9.resolve_right (fun z => by omega)).2, rfl, by omega⟩⟩⟩⟩⟩
        · refine (show po_X11_deduct_e T c cl p T (some (vI (-4))) from ?_)
          exact ⟨_, rfl, fr_0 _ _, Or.inl ⟨rfl, Or.inr ⟨by omega, Or.inr ⟨by omega, Or.inl ⟨rfl, (hx9.resolve_left (fun z => by omega)).2⟩⟩⟩⟩⟩
      · replace hx7 := hx7.resolve_left (fun z => absurd (c8.symm.trans z.1) (by decide))
        clear c8
        refine (show po_X11_deduct_e T c cl p T (some (vI (-3))) from ?_)
        exact ⟨_, rfl, fr_0 _ _, Or.inl ⟨rfl, Or.inr ⟨by omega, Or.inl ⟨rfl, by omega⟩⟩⟩⟩
    · replace hx5 := hx5.resolve_left (fun z => absurd (c6.symm.trans z.1) (by decide))
      clear c6
      refine (show po_X11_deduct_e T c cl p T (some (vI (-2))) from ?_)
      exact ⟨_, rfl, fr_0 _ _, Or.inl ⟨rfl, Or.inl ⟨rfl, by omega⟩⟩⟩
