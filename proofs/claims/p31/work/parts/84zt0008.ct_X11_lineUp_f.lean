theorem bk_X11_eligible_f_0 : ck_ fX11 (some .int) cX11_eligible 0 [.iload 1, .aload 0, .tableswitch 0 11 15 #[]] 5 = true := qck_r (nn_ _) (by decide +kernel)
theorem bs_X11_eligible_f_0 {P : Zt → Option Zv → Prop} (K : Int → Zl → List Zv → Zt → Prop) : sx_ K P [.iload 1, .aload 0, .tableswitch 0 11 15 #[]] 5 = x_iload 1 (x_aload 0 (x_g0 111 15 0 200 (K 5))) := ((xe_iload 1).trans (congrArg (x_iload 1) ((xe_aload 0).trans (congrArg (x_aload 0) ((xe_g0 (kk := 111) rfl tl_11_15).trans (congrArg (x_g0 111 15 0 200) xe_nil))))))
theorem bk_X11_eligible_f_8 : ck_ fX11 (some .int) cX11_eligible 8 [.ifCond .eq 22, .iload 2, .aload 0, .tableswitch 0 11 29 #[]] 16 = true := qck_r (nn_ _) (by decide +kernel)
theorem bs_X11_eligible_f_8 {P : Zt → Option Zv → Prop} (K : Int → Zl → List Zv → Zt → Prop) : sx_ K P [.ifCond .eq 22, .iload 2, .aload 0, .tableswitch 0 11 29 #[]] 16 = x_ifCond .eq 22 K (x_iload 2 (x_aload 0 (x_g0 111 29 0 400 (K 16)))) := ((xe_ifCond .eq 22).trans (congrArg (x_ifCond .eq 22 K) ((xe_iload 2).trans (congrArg (x_iload 2) ((xe_aload 0).trans (congrArg (x_aload 0) ((xe_g0 (kk := 111) rfl tl_11_29).trans (congrArg (x_g0 111 29 0 400) xe_nil))))))))
theorem bk_X11_eligible_f_22 : ck_ fX11 (some .int) cX11_eligible 22 [.iconst (-2), .ireturn] 25 = true := qck_r (nn_ _) (by decide +kernel)
theorem bs_X11_eligible_f_22 {P : Zt → Option Zv → Prop} (K : Int → Zl → List Zv → Zt → Prop) : sx_ K P [.iconst (-2), .ireturn] 25 = x_iconst (-2) (x_ireturn P) := ((xe_iconst (-2)).trans (congrArg (x_iconst (-2)) (xe_ireturn)))
theorem bk_X11_eligible_f_19 : ck_ fX11 (some .int) cX11_eligible 19 [.ifCond .ne 25, .iconst (-2), .ireturn] 25 = true := qck_r (nn_ _) (by decide +kernel)
theorem bs_X11_eligible_f_19 {P : Zt → Option Zv → Prop} (K : Int → Zl → List Zv → Zt → Prop) : sx_ K P [.ifCond .ne 25, .iconst (-2), .ireturn] 25 = x_ifCond .ne 25 K (x_iconst (-2) (x_ireturn P)) := ((xe_ifCond .ne 25).trans (congrArg (x_ifCond .ne 25 K) ((xe_iconst (-2)).trans (congrArg (x_iconst (-2)) (xe_ireturn)))))
theorem bk_X11_eligible_f_25 : ck_ fX11 (some .int) cX11_eligible 25 [.iload 3, .iconst 0, .iconst 1] 28 = true := qck_r (nn_ _) (by decide +kernel)
theorem bs_X11_eligible_f_25 {P : Zt → Option Zv → Prop} (K : Int → Zl → List Zv → Zt → Prop) : sx_ K P [.iload 3, .iconst 0, .iconst 1] 28 = x_iload 3 (x_iconst 0 (x_iconst 1 (K 28))) := ((xe_iload 3).trans (congrArg (x_iload 3) ((xe_iconst 0).trans (congrArg (x_iconst 0) ((xe_iconst 1).trans (congrArg (x_iconst 1) xe_nil))))))
theorem bk_X11_eligible_f_31 : ck_ fX11 (some .int) cX11_eligible 31 [.ifCond .eq 44, .aload 0, .iload 1, .iload 2, .iload 3] 38 = true := qck_r (nn_ _) (by decide +kernel)
theorem bs_X11_eligible_f_31 {P : Zt → Option Zv → Prop} (K : Int → Zl → List Zv → Zt → Prop) : sx_ K P [.ifCond .eq 44, .aload 0, .iload 1, .iload 2, .iload 3] 38 = x_ifCond .eq 44 K (x_aload 0 (x_iload 1 (x_iload 2 (x_iload 3 (K 38))))) := ((xe_ifCond .eq 44).trans (congrArg (x_ifCond .eq 44 K) ((xe_aload 0).trans (congrArg (x_aload 0) ((xe_iload 1).trans (congrArg (x_iload 1) ((xe_iload 2).trans (congrArg (x_iload 2) ((xe_iload 3).trans (congrArg (x_iload 3) xe_nil))))))))))
theorem bk_X11_eligible_f_44 : ck_ fX11 (some .int) cX11_eligible 44 [.iconst (-3), .ireturn] 47 = true := qck_r (nn_ _) (by decide +kernel)
theorem bs_X11_eligible_f_44 {P : Zt → Option Zv → Prop} (K : Int → Zl → List Zv → Zt → Prop) : sx_ K P [.iconst (-3), .ireturn] 47 = x_iconst (-3) (x_ireturn P) := ((xe_iconst (-3)).trans (congrArg (x_iconst (-3)) (xe_ireturn)))
theorem bk_X11_eligible_f_41 : ck_ fX11 (some .int) cX11_eligible 41 [.goto 46] 44 = true := qck_r (nn_ _) (by decide +kernel)
theorem bs_X11_eligible_f_41 {P : Zt → Option Zv → Prop} (K : Int → Zl → List Zv → Zt → Prop) : sx_ K P [.goto 46] 44 = x_goto 46 K := (xe_goto 46)
theorem bk_X11_eligible_f_46 : ck_ fX11 (some .int) cX11_eligible 46 [.ireturn] 47 = true := qck_r (nn_ _) (by decide +kernel)
theorem bs_X11_eligible_f_46 {P : Zt → Option Zv → Prop} (K : Int → Zl → List Zv → Zt → Prop) : sx_ K P [.ireturn] 47 = x_ireturn P := (xe_ireturn)
abbrev po_X11_eligible_f (T : Zt) (p m sd : Int) : Zt → Option Zv → Prop := fun T' r => T = T' ∧ ∃ x : Int, r = some (vI x) ∧ ((x = -2 ∧ ¬ ((0 ≤ p ∧ p < T 111 0 15) ∧ 0 ≤ m ∧ m < T 111 0 29)) ∨ (((0 ≤ p ∧ p < T 111 0 15) ∧ 0 ≤ m ∧ m < T 111 0 29) ∧ ((x = -3 ∧ ¬ (0 ≤ sd ∧ sd ≤ 1)) ∨ ((0 ≤ sd ∧ sd ≤ 1) ∧ x = wyR_ T p m sd))))
set_option maxHeartbeats 4000000 in
theorem ct_X11_eligible_f {T : Zt} {p m sd : Int} (hml : ML_ T) (hmc : MC_ T) (hri : RI_ T) : Ct_ yX11_eligible zX11_eligible T [vR 111 0, vI p, vI m, vI sd] (po_X11_eligible_f T p m sd) := by
  refine ct_of pn_11 rfl rfl (Nat.le_of_ble_eq_true rfl) (fun hT hav => ?_)
  have hr_p : -2147483648 ≤ p ∧ p ≤ 2147483647 := hav (vI p) (List.mem_cons_of_mem _ List.mem_cons_self)
  have hr_m : -2147483648 ≤ m ∧ m ≤ 2147483647 := hav (vI m) (List.mem_cons_of_mem _ (List.mem_cons_of_mem _ List.mem_cons_self))
  have hr_sd : -2147483648 ≤ sd ∧ sd ≤ 2147483647 := hav (vI sd) (List.mem_cons_of_mem _ (List.mem_cons_of_mem _ (List.mem_cons_of_mem _ List.mem_cons_self)))
  have hz : zX11_eligible.2.2.2.1 = some .boolean → ∀ (T' : Zt) (x : Int), po_X11_eligible_f T p m sd T' (some (vI x)) → 0 ≤ x ∧ x ≤ 1 := fun h => by cases h
  have hb_29 : 0 ≤ T 111 0 29 ∧ T 111 0 29 ≤ 400 := bd_f hT 111 29 tl_11_29 0
  have hb_15 : 0 ≤ T 111 0 15 ∧ T 111 0 15 ≤ 200 := bd_f hT 111 15 tl_11_15 0
  show J_ zX11_eligible T (po_X11_eligible_f T p m sd) 0 0 0 [some (vR 111 0), some (vI p), some (vI m), some (vI sd)] [] T
  refine j_blx (F := fX11) tb_X11 (nn_ _) bk_X11_eligible_f_0 bs_X11_eligible_f_0 hz (fun K hK => ?_)
  intro b1 b1b
  refine hK 5 _ [vI (T 111 0 15), vI p] T ?_
  refine j_callS (y := yX11_isOf) (Yc := zX11_isOf) (rest := []) [vI p, vI (T 111 0 15)] (ct_X11_isOf (T := T) (by omega)) cl_X11_317 (qd_c (by decide +kernel)) (nn_ _) rfl (rf_of rfl) (Nat.le_of_ble_eq_true rfl) (Nat.le_of_ble_eq_true rfl) (Nat.le_of_ble_eq_true rfl) rfl ?_
  rintro _ _ ⟨rfl, x2, rfl, hx2⟩
  show J_ zX11_eligible T (po_X11_eligible_f T p m sd) 0 0 8 _ [vI x2] T
  refine j_blx (F := fX11) tb_X11 (nn_ _) bk_X11_eligible_f_8 bs_X11_eligible_f_8 hz (fun K hK => ?_)
  refine And.intro (fun c3 => ?_) (fun c3 => ?_)
  · replace hx2 := hx2.resolve_left (fun z => absurd (c3.symm.trans z.1) (by decide))
    clear c3
    refine hK 22 _ [] T ?_
    refine j_blx (F := fX11) tb_X11 (nn_ _) bk_X11_eligible_f_22 bs_X11_eligible_f_22 hz (fun K hK => ?_)
    refine (show po_X11_eligible_f T p m sd T (some (vI (-2))) from ?_)
    exact ⟨rfl, _, rfl, by omega⟩
  · replace hx2 := hx2.resolve_right (fun z => c3 z.1)
    clear c3
    intro b4 b4b
    refine hK 16 _ [vI (T 111 0 29), vI m] T ?_
    refine j_callS (y := yX11_isOf) (Yc := zX11_isOf) (rest := []) [vI m, vI (T 111 0 29)] (ct_X11_isOf (T := T) (by omega)) cl_X11_317 (qd_c (by decide +kernel)) (nn_ _) rfl (rf_of rfl) (Nat.le_of_ble_eq_true rfl) (Nat.le_of_ble_eq_true rfl) (Nat.le_of_ble_eq_true rfl) rfl ?_
    rintro _ _ ⟨rfl, x5, rfl, hx5⟩
    show J_ zX11_eligible T (po_X11_eligible_f T p m sd) 0 0 19 _ [vI x5] T
    refine j_blx (F := fX11) tb_X11 (nn_ _) bk_X11_eligible_f_19 bs_X11_eligible_f_19 hz (fun K hK => ?_)
    refine And.intro (fun c6 => ?_) (fun c6 => ?_)
    · replace hx5 := hx5.resolve_right (fun z => c6 z.1)
      clear c6
      refine hK 25 _ [] T ?_
      refine j_blx (F := fX11) tb_X11 (nn_ _) bk_X11_eligible_f_25 bs_X11_eligible_f_25 hz (fun K hK => ?_)
      refine hK 28 _ [vI 1, vI 0, vI sd] T ?_
      refine j_callS (y := yX11_in) (Yc := zX11_in) (rest := []) [vI sd, vI 0, vI 1] (ct_X11_in (T := T)) cl_X11_255 (qd_c (by decide +kernel)) (nn_ _) rfl (rf_of rfl) (Nat.le_of_ble_eq_true rfl) (Nat.le_of_ble_eq_true rfl) (Nat.le_of_ble_eq_true rfl) rfl ?_
      rintro _ _ ⟨rfl, x7, rfl, hx7⟩
      show J_ zX11_eligible T (po_X11_eligible_f T p m sd) 0 0 31 _ [vI x7] T
      refine j_blx (F := fX11) tb_X11 (nn_ _) bk_X11_eligible_f_31 bs_X11_eligible_f_31 hz (fun K hK => ?_)
      refine And.intro (fun c8 => ?_) (fun c8 => ?_)
      · replace hx7 := hx7.resolve_left (fun z => absurd (c8.symm.trans z.1) (by decide))
        clear c8
        refine hK 44 _ [] T ?_
        refine j_blx (F := fX11) tb_X11 (nn_ _) bk_X11_eligible_f_44 bs_X11_eligible_f_44 hz (fun K hK => ?_)
        refine (show po_X11_eligible_f T p m sd T (some (vI (-3))) from ?_)
        exact ⟨rfl, _, rfl, by omega⟩
      · replace hx7 := hx7.resolve_right (fun z => c8 z.1)
        clear c8
        refine hK 38 _ [vI sd, vI m, vI p, vR 111 0] T ?_
        refine j_callV (y := yX11_whyNot) (Yc := zX11_whyNot) (rest := []) [vI p, vI m, vI sd] (ct_X11_whyNot_f (T := T) (by omega) hml hmc hri) cl_X11_387 (qd_c (by decide +kernel)) (nn_ _) rfl (rf_of rfl) (Nat.le_of_ble_eq_true rfl) (Nat.le_of_ble_eq_true rfl) (Nat.le_of_ble_eq_true rfl) rfl ?_
        rintro _ _ ⟨rfl, x9, rfl, hx9⟩
        show J_ zX11_eligible T (po_X11_eligible_f T p m sd) 0 0 41 _ [vI x9] T
        refine j_blx (F := fX11) tb_X11 (nn_ _) bk_X11_eligible_f_41 bs_X11_eligible_f_41 hz (fun K hK => ?_)
        refine hK 46 _ [vI x9] T ?_
        refine j_blx (F := fX11) tb_X11 (nn_ _) bk_X11_eligible_f_46 bs_X11_eligible_f_46 hz (fun K hK => ?_)
        refine (show po_X11_eligible_f T p m sd T (some (vI x9)) from ?_)
        exact ⟨rfl, _, rfl, by omega⟩
    · replace hx5 := hx5.resolve_left (fun z => absurd (c6.symm.trans z.1) (by decide))
      clear c6
      refine (show po_X11_eligible_f T p m sd T (some (vI (-2))) from ?_)
      exact ⟨rfl, _, rfl, by omega⟩
theorem bk_X11_lineUp_f_0 : ck_ fX11 (some .int) cX11_lineUp 0 [.iload 1, .aload 0, .tableswitch 0 11 15 #[]] 5 = true := qck_r (nn_ _) (by decide +kernel)
theorem bs_X11_lineUp_f_0 {P : Zt → Option Zv → Prop} (K : Int → Zl → List Zv → Zt → Prop) : sx_ K P [.iload 1, .aload 0, .tableswitch 0 11 15 #[]] 5 = x_iload 1 (x_aload 0 (x_g0 111 15 0 200 (K 5))) := ((xe_iload 1).trans (congrArg (x_iload 1) ((xe_aload 0).trans (congrArg (x_aload 0) ((xe_g0 (kk := 111) rfl tl_11_15).trans (congrArg (x_g0 111 15 0 200) xe_nil))))))
theorem bk_X11_lineUp_f_8 : ck_ fX11 (some .int) cX11_lineUp 8 [.ifCond .eq 22, .iload 2, .aload 0, .tableswitch 0 11 29 #[]] 16 = true := qck_r (nn_ _) (by decide +kernel)
theorem bs_X11_lineUp_f_8 {P : Zt → Option Zv → Prop} (K : Int → Zl → List Zv → Zt → Prop) : sx_ K P [.ifCond .eq 22, .iload 2, .aload 0, .tableswitch 0 11 29 #[]] 16 = x_ifCond .eq 22 K (x_iload 2 (x_aload 0 (x_g0 111 29 0 400 (K 16)))) := ((xe_ifCond .eq 22).trans (congrArg (x_ifCond .eq 22 K) ((xe_iload 2).trans (congrArg (x_iload 2) ((xe_aload 0).trans (congrArg (x_aload 0) ((xe_g0 (kk := 111) rfl tl_11_29).trans (congrArg (x_g0 111 29 0 400) xe_nil))))))))
theorem bk_X11_lineUp_f_22 : ck_ fX11 (some .int) cX11_lineUp 22 [.iconst (-2), .ireturn] 25 = true := qck_r (nn_ _) (by decide +kernel)
theorem bs_X11_lineUp_f_22 {P : Zt → Option Zv → Prop} (K : Int → Zl → List Zv → Zt → Prop) : sx_ K P [.iconst (-2), .ireturn] 25 = x_iconst (-2) (x_ireturn P) := ((xe_iconst (-2)).trans (congrArg (x_iconst (-2)) (xe_ireturn)))
theorem bk_X11_lineUp_f_19 : ck_ fX11 (some .int) cX11_lineUp 19 [.ifCond .ne 25, .iconst (-2), .ireturn] 25 = true := qck_r (nn_ _) (by decide +kernel)
theorem bs_X11_lineUp_f_19 {P : Zt → Option Zv → Prop} (K : Int → Zl → List Zv → Zt → Prop) : sx_ K P [.ifCond .ne 25, .iconst (-2), .ireturn] 25 = x_ifCond .ne 25 K (x_iconst (-2) (x_ireturn P)) := ((xe_ifCond .ne 25).trans (congrArg (x_ifCond .ne 25 K) ((xe_iconst (-2)).trans (congrArg (x_iconst (-2)) (xe_ireturn)))))
theorem bk_X11_lineUp_f_25 : ck_ fX11 (some .int) cX11_lineUp 25 [.iload 3, .iconst 0, .iconst 1] 28 = true := qck_r (nn_ _) (by decide +kernel)
theorem bs_X11_lineUp_f_25 {P : Zt → Option Zv → Prop} (K : Int → Zl → List Zv → Zt → Prop) : sx_ K P [.iload 3, .iconst 0, .iconst 1] 28 = x_iload 3 (x_iconst 0 (x_iconst 1 (K 28))) := ((xe_iload 3).trans (congrArg (x_iload 3) ((xe_iconst 0).trans (congrArg (x_iconst 0) ((xe_iconst 1).trans (congrArg (x_iconst 1) xe_nil))))))
theorem bk_X11_lineUp_f_31 : ck_ fX11 (some .int) cX11_lineUp 31 [.ifCond .ne 37, .iconst (-3), .ireturn] 37 = true := qck_r (nn_ _) (by decide +kernel)
theorem bs_X11_lineUp_f_31 {P : Zt → Option Zv → Prop} (K : Int → Zl → List Zv → Zt → Prop) : sx_ K P [.ifCond .ne 37, .iconst (-3), .ireturn] 37 = x_ifCond .ne 37 K (x_iconst (-3) (x_ireturn P)) := ((xe_ifCond .ne 37).trans (congrArg (x_ifCond .ne 37 K) ((xe_iconst (-3)).trans (congrArg (x_iconst (-3)) (xe_ireturn)))))
theorem bk_X11_lineUp_f_37 : ck_ fX11 (some .int) cX11_lineUp 37 [.aload 0, .tableswitch 0 11 35 #[], .iload 2, .iaload, .ifCond .eq 49, .iconst (-4), .ireturn] 49 = true := qck_r (nn_ _) (by decide +kernel)
theorem bs_X11_lineUp_f_37 {P : Zt → Option Zv → Prop} (K : Int → Zl → List Zv → Zt → Prop) : sx_ K P [.aload 0, .tableswitch 0 11 35 #[], .iload 2, .iaload, .ifCond .eq 49, .iconst (-4), .ireturn] 49 = x_aload 0 (x_g1 111 235 (x_iload 2 (x_iaload (x_ifCond .eq 49 K (x_iconst (-4) (x_ireturn P)))))) := ((xe_aload 0).trans (congrArg (x_aload 0) ((xe_g1 (kk := 111) rfl tl_11_35).trans (congrArg (x_g1 111 235) ((xe_iload 2).trans (congrArg (x_iload 2) ((xe_iaload).trans (congrArg (x_iaload) ((xe_ifCond .eq 49).trans (congrArg (x_ifCond .eq 49 K) ((xe_iconst (-4)).trans (congrArg (x_iconst (-4)) (xe_ireturn)))))))))))))
theorem bk_X11_lineUp_f_49 : ck_ fX11 (some .int) cX11_lineUp 49 [.iconst 2, .iload 2, .imul, .iload 3, .iadd, .istore 4, .aload 0, .tableswitch 0 11 39 #[], .iload 4, .iaload, .aload 0, .aload 0, .tableswitch 0 11 30 #[], .iload 2, .iaload, .iconst 9] 72 = true := qck_r (nn_ _) (by decide +kernel)
theorem bs_X11_lineUp_f_49 {P : Zt → Option Zv → Prop} (K : Int → Zl → List Zv → Zt → Prop) : sx_ K P [.iconst 2, .iload 2, .imul, .iload 3, .iadd, .istore 4, .aload 0, .tableswitch 0 11 39 #[], .iload 4, .iaload, .aload 0, .aload 0, .tableswitch 0 11 30 #[], .iload 2, .iaload, .iconst 9] 72 = x_iconst 2 (x_iload 2 (x_imul (x_iload 3 (x_iadd (x_istore 4 (x_aload 0 (x_g1 111 239 (x_iload 4 (x_iaload (x_aload 0 (x_aload 0 (x_g1 111 230 (x_iload 2 (x_iaload (x_iconst 9 (K 72)))))))))))))))) := ((xe_iconst 2).trans (congrArg (x_iconst 2) ((xe_iload 2).trans (congrArg (x_iload 2) ((xe_imul).trans (congrArg (x_imul) ((xe_iload 3).trans (congrArg (x_iload 3) ((xe_iadd).trans (congrArg (x_iadd) ((xe_istore 4).trans (congrArg (x_istore 4) ((xe_aload 0).trans (congrArg (x_aload 0) ((xe_g1 (kk := 111) rfl tl_11_39).trans (congrArg (x_g1 111 239) ((xe_iload 4).trans (congrArg (x_iload 4) ((xe_iaload).trans (congrArg (x_iaload) ((xe_aload 0).trans (congrArg (x_aload 0) ((xe_aload 0).trans (congrArg (x_aload 0) ((xe_g1 (kk := 111) rfl tl_11_30).trans (congrArg (x_g1 111 230) ((xe_iload 2).trans (congrArg (x_iload 2) ((xe_iaload).trans (congrArg (x_iaload) ((xe_iconst 9).trans (congrArg (x_iconst 9) xe_nil))))))))))))))))))))))))))))))))
theorem bk_X11_lineUp_f_75 : ck_ fX11 (some .int) cX11_lineUp 75 [.iconst 4, .iadd, .if_icmp .ne 83, .iconst (-5), .ireturn] 83 = true := qck_r (nn_ _) (by decide +kernel)
theorem bs_X11_lineUp_f_75 {P : Zt → Option Zv → Prop} (K : Int → Zl → List Zv → Zt → Prop) : sx_ K P [.iconst 4, .iadd, .if_icmp .ne 83, .iconst (-5), .ireturn] 83 = x_iconst 4 (x_iadd (x_if_icmp .ne 83 K (x_iconst (-5) (x_ireturn P)))) := ((xe_iconst 4).trans (congrArg (x_iconst 4) ((xe_iadd).trans (congrArg (x_iadd) ((xe_if_icmp .ne 83).trans (congrArg (x_if_icmp .ne 83 K) ((xe_iconst (-5)).trans (congrArg (x_iconst (-5)) (xe_ireturn)))))))))
theorem bk_X11_lineUp_f_83 : ck_ fX11 (some .int) cX11_lineUp 83 [.aload 0, .iload 1, .iload 2, .iload 3] 87 = true := qck_r (nn_ _) (by decide +kernel)
theorem bs_X11_lineUp_f_83 {P : Zt → Option Zv → Prop} (K : Int → Zl → List Zv → Zt → Prop) : sx_ K P [.aload 0, .iload 1, .iload 2, .iload 3] 87 = x_aload 0 (x_iload 1 (x_iload 2 (x_iload 3 (K 87)))) := ((xe_aload 0).trans (congrArg (x_aload 0) ((xe_iload 1).trans (congrArg (x_iload 1) ((xe_iload 2).trans (congrArg (x_iload 2) ((xe_iload 3).trans (congrArg (x_iload 3) xe_nil))))))))
theorem bk_X11_lineUp_f_90 : ck_ fX11 (some .int) cX11_lineUp 90 [.istore 5, .iload 5, .ifCond .eq 103, .iconst (-10), .iload 5, .isub, .ireturn] 103 = true := qck_r (nn_ _) (by decide +kernel)
theorem bs_X11_lineUp_f_90 {P : Zt → Option Zv → Prop} (K : Int → Zl → List Zv → Zt → Prop) : sx_ K P [.istore 5, .iload 5, .ifCond .eq 103, .iconst (-10), .iload 5, .isub, .ireturn] 103 = x_istore 5 (x_iload 5 (x_ifCond .eq 103 K (x_iconst (-10) (x_iload 5 (x_isub (x_ireturn P)))))) := ((xe_istore 5).trans (congrArg (x_istore 5) ((xe_iload 5).trans (congrArg (x_iload 5) ((xe_ifCond .eq 103).trans (congrArg (x_ifCond .eq 103 K) ((xe_iconst (-10)).trans (congrArg (x_iconst (-10)) ((xe_iload 5).trans (congrArg (x_iload 5) ((xe_isub).trans (congrArg (x_isub) (xe_ireturn)))))))))))))
theorem bk_X11_lineUp_f_103 : ck_ fX11 (some .int) cX11_lineUp 103 [.aload 0, .tableswitch 0 11 40 #[], .iconst 10, .iload 4, .imul, .aload 0, .tableswitch 0 11 39 #[], .iload 4, .iaload, .iadd, .iload 1, .iastore, .aload 0, .tableswitch 0 11 39 #[], .iload 4, .dup2, .iaload, .iconst 1, .iadd, .iastore, .aload 0, .tableswitch 0 11 39 #[], .iload 4, .iaload, .ireturn] 141 = true := qck_r (nn_ _) (by decide +kernel)
theorem bs_X11_lineUp_f_103 {P : Zt → Option Zv → Prop} (K : Int → Zl → List Zv → Zt → Prop) : sx_ K P [.aload 0, .tableswitch 0 11 40 #[], .iconst 10, .iload 4, .imul, .aload 0, .tableswitch 0 11 39 #[], .iload 4, .iaload, .iadd, .iload 1, .iastore, .aload 0, .tableswitch 0 11 39 #[], .iload 4, .dup2, .iaload, .iconst 1, .iadd, .iastore, .aload 0, .tableswitch 0 11 39 #[], .iload 4, .iaload, .ireturn] 141 = x_aload 0 (x_g1 111 240 (x_iconst 10 (x_iload 4 (x_imul (x_aload 0 (x_g1 111 239 (x_iload 4 (x_iaload (x_iadd (x_iload 1 (x_iastore (x_aload 0 (x_g1 111 239 (x_iload 4 (x_dup2 (x_iaload (x_iconst 1 (x_iadd (x_iastore (x_aload 0 (x_g1 111 239 (x_iload 4 (x_iaload (x_ireturn P)))))))))))))))))))))))) := ((xe_aload 0).trans (congrArg (x_aload 0) ((xe_g1 (kk := 111) rfl tl_11_40).trans (congrArg (x_g1 111 240) ((xe_iconst 10).trans (congrArg (x_iconst 10) ((xe_iload 4).trans (congrArg (x_iload 4) ((xe_imul).trans (congrArg (x_imul) ((xe_aload 0).trans (congrArg (x_aload 0) ((xe_g1 (kk := 111) rfl tl_11_39).trans (congrArg (x_g1 111 239) ((xe_iload 4).trans (congrArg (x_iload 4) ((xe_iaload).trans (congrArg (x_iaload) ((xe_iadd).trans (congrArg (x_iadd) ((xe_iload 1).trans (congrArg (x_iload 1) ((xe_iastore).trans (congrArg (x_iastore) ((xe_aload 0).trans (congrArg (x_aload 0) ((xe_g1 (kk := 111) rfl tl_11_39).trans (congrArg (x_g1 111 239) ((xe_iload 4).trans (congrArg (x_iload 4) ((xe_dup2).trans (congrArg (x_dup2) ((xe_iaload).trans (congrArg (x_iaload) ((xe_iconst 1).trans (congrArg (x_iconst 1) ((xe_iadd).trans (congrArg (x_iadd) ((xe_iastore).trans (congrArg (x_iastore) ((xe_aload 0).trans (congrArg (x_aload 0) ((xe_g1 (kk := 111) rfl tl_11_39).trans (congrArg (x_g1 111 239) ((xe_iload 4).trans (congrArg (x_iload 4) ((xe_iaload).trans (congrArg (x_iaload) (xe_ireturn)))))))))))))))))))))))))))))))))))))))))))))))))
abbrev po_X11_lineUp_f (T : Zt) (p m sd : Int) : Zt → Option Zv → Prop := fun T' r => ∃ x : Int, r = some (vI x) ∧ fr_ [(239, []), (240, [])] T T' ∧ ((SH_ T' ∧ ∀ z, T 239 0 z ≤ T' 239 0 z) ∧ ((x = -2 ∧ ¬ ((0 ≤ p ∧ p < T 111 0 15) ∧ 0 ≤ m ∧ m < T 111 0 29) ∧ T = T') ∨ (((0 ≤ p ∧ p < T 111 0 15) ∧ 0 ≤ m ∧ m < T 111 0 29) ∧ ((x = -3 ∧ ¬ (0 ≤ sd ∧ sd ≤ 1) ∧ T = T') ∨ ((0 ≤ sd ∧ sd ≤ 1) ∧ ((x = -4 ∧ T 235 0 m ≠ 0 ∧ T = T') ∨ (T 235 0 m = 0 ∧ ((x = -5 ∧ T 239 0 (2 * m + sd) = T 205 0 (23 * T 230 0 m + 9) + 4 ∧ T = T') ∨ (T 239 0 (2 * m + sd) ≠ T 205 0 (23 * T 230 0 m + 9) + 4 ∧ ((wyR_ T p m sd ≠ 0 ∧ x = -10 - wyR_ T p m sd ∧ T = T') ∨ (wyR_ T p m sd = 0 ∧ x = T 239 0 (2 * m + sd) + 1 ∧ SRR_ T T' m sd p)))))))))))
set_option maxHeartbeats 4000000 in
theorem ct_X11_lineUp_f {T : Zt} {p m sd : Int} (hml : ML_ T) (hmc : MC_ T) (hri : RI_ T) (hsh : SH_ T) : Ct_ yX11_lineUp zX11_lineUp T [vR 111 0, vI p, vI m, vI sd] (po_X11_lineUp_f T p m sd) := by
  refine ct_of pn_11 rfl rfl (Nat.le_of_ble_eq_true rfl) (fun hT hav => ?_)
  have hr_p : -2147483648 ≤ p ∧ p ≤ 2147483647 := hav (vI p) (List.mem_cons_of_mem _ List.mem_cons_self)
  have hr_m : -2147483648 ≤ m ∧ m ≤ 2147483647 := hav (vI m) (List.mem_cons_of_mem _ (List.mem_cons_of_mem _ List.mem_cons_self))
  have hr_sd : -2147483648 ≤ sd ∧ sd ≤ 2147483647 := hav (vI sd) (List.mem_cons_of_mem _ (List.mem_cons_of_mem _ (List.mem_cons_of_mem _ List.mem_cons_self)))
  have hz : zX11_lineUp.2.2.2.1 = some .boolean → ∀ (T' : Zt) (x : Int), po_X11_lineUp_f T p m sd T' (some (vI x)) → 0 ≤ x ∧ x ≤ 1 := fun h => by cases h
  have hb_29 : 0 ≤ T 111 0 29 ∧ T 111 0 29 ≤ 400 := bd_f hT 111 29 tl_11_29 0
  have hb_15 : 0 ≤ T 111 0 15 ∧ T 111 0 15 ≤ 200 := bd_f hT 111 15 tl_11_15 0
  have hb_6 : 0 ≤ T 111 0 6 ∧ T 111 0 6 ≤ 4 := bd_f hT 111 6 tl_11_6 0
  have wb9 := wyR_b (T := T) (q := p) (p := m) (d := sd)
  show J_ zX11_lineUp T (po_X11_lineUp_f T p m sd) 0 0 0 [some (vR 111 0), some (vI p), some (vI m), some (vI sd), none, none] [] T
  refine j_blx (F := fX11) tb_X11 (nn_ _) bk_X11_lineUp_f_0 bs_X11_lineUp_f_0 hz (fun K hK => ?_)
  intro b1 b1b
  refine hK 5 _ [vI (T 111 0 15), vI p] T ?_
  refine j_callS (y := yX11_isOf) (Yc := zX11_isOf) (rest := []) [vI p, vI (T 111 0 15)] (ct_X11_isOf (T := T) (by omega)) cl_X11_317 (qd_c (by decide +kernel)) (nn_ _) rfl (rf_of rfl) (Nat.le_of_ble_eq_true rfl) (Nat.le_of_ble_eq_true rfl) (Nat.le_of_ble_eq_true rfl) rfl ?_
  rintro _ _ ⟨rfl, x2, rfl, hx2⟩
  show J_ zX11_lineUp T (po_X11_lineUp_f T p m sd) 0 0 8 _ [vI x2] T
  refine j_blx (F := fX11) tb_X11 (nn_ _) bk_X11_lineUp_f_8 bs_X11_lineUp_f_8 hz (fun K hK => ?_)
  refine And.intro (fun c3 => ?_) (fun c3 => ?_)
  · replace hx2 := hx2.resolve_left (fun z => absurd (c3.symm.trans z.1) (by decide))
    clear c3
    refine hK 22 _ [] T ?_
    refine j_blx (F := fX11) tb_X11 (nn_ _) bk_X11_lineUp_f_22 bs_X11_lineUp_f_22 hz (fun K hK => ?_)
    refine (show po_X11_lineUp_f T p m sd T (some (vI (-2))) from ?_)
    have wb := wyR_b (T := T) (q := p) (p := m) (d := sd)
    exact ⟨_, rfl, fr_0 _ _, ⟨hsh, fun _ => Int.le_refl _⟩, Or.inl ⟨rfl, by omega, rfl⟩⟩
  · replace hx2 := hx2.resolve_right (fun z => c3 z.1)
    clear c3
    intro b4 b4b
    refine hK 16 _ [vI (T 111 0 29), vI m] T ?_
    refine j_callS (y := yX11_isOf) (Yc := zX11_isOf) (rest := []) [vI m, vI (T 111 0 29)] (ct_X11_isOf (T := T) (by omega)) cl_X11_317 (qd_c (by decide +kernel)) (nn_ _) rfl (rf_of rfl) (Nat.le_of_ble_eq_true rfl) (Nat.le_of_ble_eq_true rfl) (Nat.le_of_ble_eq_true rfl) rfl ?_
    rintro _ _ ⟨rfl, x5, rfl, hx5⟩
    show J_ zX11_lineUp T (po_X11_lineUp_f T p m sd) 0 0 19 _ [vI x5] T
    refine j_blx (F := fX11) tb_X11 (nn_ _) bk_X11_lineUp_f_19 bs_X11_lineUp_f_19 hz (fun K hK => ?_)
    refine And.intro (fun c6 => ?_) (fun c6 => ?_)
    · replace hx5 := hx5.resolve_right (fun z => c6 z.1)
      clear c6
      refine hK 25 _ [] T ?_
      refine j_blx (F := fX11) tb_X11 (nn_ _) bk_X11_lineUp_f_25 bs_X11_lineUp_f_25 hz (fun K hK => ?_)
      refine hK 28 _ [vI 1, vI 0, vI sd] T ?_
      refine j_callS (y := yX11_in) (Yc := zX11_in) (rest := []) [vI sd, vI 0, vI 1] (ct_X11_in (T := T)) cl_X11_255 (qd_c (by decide +kernel)) (nn_ _) rfl (rf_of rfl) (Nat.le_of_ble_eq_true rfl) (Nat.le_of_ble_eq_true rfl) (Nat.le_of_ble_eq_true rfl) rfl ?_
      rintro _ _ ⟨rfl, x7, rfl, hx7⟩
      show J_ zX11_lineUp T (po_X11_lineUp_f T p m sd) 0 0 31 _ [vI x7] T
      refine j_blx (F := fX11) tb_X11 (nn_ _) bk_X11_lineUp_f_31 bs_X11_lineUp_f_31 hz (fun K hK => ?_)
      refine And.intro (fun c8 => ?_) (fun c8 => ?_)
      · replace hx7 := hx7.resolve_right (fun z => c8 z.1)
        clear c8
        refine hK 37 _ [] T ?_
        refine j_blx (F := fX11) tb_X11 (nn_ _) bk_X11_lineUp_f_37 bs_X11_lineUp_f_37 hz (fun K hK => ?_)
        refine ix_i (by omega) ?_
        intro b9 b9b
        refine And.intro (fun c10 => ?_) (fun c10 => ?_)
        · refine hK 49 _ [] T ?_
          refine j_blx (F := fX11) tb_X11 (nn_ _) bk_X11_lineUp_f_49 bs_X11_lineUp_f_49 hz (fun K hK => ?_)
          refine rg_i (by omega) ?_
          refine rg_i (by omega) ?_
          refine ix_i (by omega) ?_
          intro b11 b11b
          refine ix_i (by omega) ?_
          intro b12 b12b
          refine hK 72 [some (vR 111 0), some (vI p), some (vI m), some (vI sd), some (vI ((2 * m) + sd)), none] [vI 9, vI (T 230 0 m), vR 111 0, vI (T 239 0 ((2 * m) + sd))] T ?_
          refine j_callV (y := yX11_rule0) (Yc := zX11_rule0) (rest := [vI (T 239 0 ((2 * m) + sd))]) [vI (T 230 0 m), vI 9] (ct_X11_rule0 (T := T) (by omega) (by omega)) cl_X11_321 (qd_c (by decide +kernel)) (nn_ _) rfl (rf_of rfl) (Nat.le_of_ble_eq_true rfl) (Nat.le_of_ble_eq_true rfl) (Nat.le_of_ble_eq_true rfl) rfl ?_
          rintro _ _ ⟨rfl, rfl⟩
          show J_ zX11_lineUp T (po_X11_lineUp_f T p m sd) 0 0 75 _ [vI (T 205 0 (23 * (T 230 0 m) + 9)), vI (T 239 0 ((2 * m) + sd))] T
          have hcm := hmc m (by omega) (by omega)
          have hr9 : (1 : Int) ≤ T 205 0 (23 * T 230 0 m + 9) ∧ T 205 0 (23 * T 230 0 m + 9) ≤ (6 : Int) := hri (T 230 0 m) 9 (by omega) (by omega) (by omega) (by omega)
          have hsm := (hsh m sd (by omega) (by omega) (by omega) (by omega)).1 (by omega)
          refine j_blx (F := fX11) tb_X11 (nn_ _) bk_X11_lineUp_f_75 bs_X11_lineUp_f_75 hz (fun K hK => ?_)
          refine rg_i (by omega) ?_
          refine And.intro (fun c13 => ?_) (fun c13 => ?_)
          · refine hK 83 _ [] T ?_
            refine j_blx (F := fX11) tb_X11 (nn_ _) bk_X11_lineUp_f_83 bs_X11_lineUp_f_83 hz (fun K hK => ?_)
            refine hK 87 _ [vI sd, vI m, vI p, vR 111 0] T ?_
            refine j_callV (y := yX11_whyNot) (Yc := zX11_whyNot) (rest := []) [vI p, vI m, vI sd] (ct_X11_whyNot_f (T := T) (by omega) hml hmc hri) cl_X11_387 (qd_c (by decide +kernel)) (nn_ _) rfl (rf_of rfl) (Nat.le_of_ble_eq_true rfl) (Nat.le_of_ble_eq_true rfl) (Nat.le_of_ble_eq_true rfl) rfl ?_
            rintro _ _ ⟨rfl, x14, rfl, hx14⟩
            show J_ zX11_lineUp T (po_X11_lineUp_f T p m sd) 0 0 90 _ [vI x14] T
            refine j_blx (F := fX11) tb_X11 (nn_ _) bk_X11_lineUp_f_90 bs_X11_lineUp_f_90 hz (fun K hK => ?_)
            refine And.intro (fun c15 => ?_) (fun c15 => ?_)
            · refine hK 103 [some (vR 111 0), some (vI p), some (vI m), some (vI sd), some (vI ((2 * m) + sd)), some (vI x14)] [] T ?_
              refine j_blx (F := fX11) tb_X11 (nn_ _) bk_X11_lineUp_f_103 bs_X11_lineUp_f_103 hz (fun K hK => ?_)
              refine rg_i (by omega) ?_
              refine ix_i (by omega) ?_
              intro b16 b16b
              refine rg_i (by omega) ?_
              refine iy_i (by omega) (by omega) ?_
              refine x_nm (fun U17 hU17 => ?_)
              have e18 := up_f hU17
              refine ix_i (by omega) ?_
              intro b19 b19b
              have e20 : U17 239 0 ((2 * m) + sd) = T 239 0 ((2 * m) + sd) := up_k hU17 (by exact Nat.ne_of_beq_eq_false rfl) 0 ((2 * m) + sd)
              rw [e20] at b19 b19b ⊢
              refine rg_i (by omega) ?_
              refine iy_i (by omega) (by omega) ?_
              refine x_nm (fun U21 hU21 => ?_)
              have e22 := up_f hU21
              refine ix_i (by omega) ?_
              intro b23 b23b
              have e24 : U21 239 0 ((2 * m) + sd) = (T 239 0 ((2 * m) + sd)) + 1 := up_f hU21
              rw [e24] at b23 b23b ⊢
              refine (show po_X11_lineUp_f T p m sd U21 (some (vI ((T 239 0 ((2 * m) + sd)) + 1))) from ?_)
              have es : ∀ z, z ≠ 2 * m + sd → U21 239 0 z = T 239 0 z := fun z hz => (up_g hU21 (fun q => hz q.2.2)).trans (up_k hU17 (by exact Nat.ne_of_beq_eq_false rfl) 0 z)
              have er : ∀ z, U21 205 0 z = T 205 0 z := fun z => (up_k hU21 (by exact Nat.ne_of_beq_eq_false rfl) 0 z).trans (up_k hU17 (by exact Nat.ne_of_beq_eq_false rfl) 0 z)
              have ec : ∀ z, U21 230 0 z = T 230 0 z := fun z => (up_k hU21 (by exact Nat.ne_of_beq_eq_false rfl) 0 z).trans (up_k hU17 (by exact Nat.ne_of_beq_eq_false rfl) 0 z)
              have e29 : U21 111 0 29 = T 111 0 29 := (up_k hU21 (by exact Nat.ne_of_beq_eq_false rfl) 0 29).trans (up_k hU17 (by exact Nat.ne_of_beq_eq_false rfl) 0 29)
              have eg : ∀ z, T 239 0 z ≤ U21 239 0 z := fun z => by
                by_cases y : z = 2 * m + sd
                · rw [y]; omega
                · rw [es z y]; exact Int.le_refl _
              have sr9 : SRR_ T U21 m sd p := ⟨(up_k hU21 (by exact Nat.ne_of_beq_eq_false rfl) 0 _).trans (up_x hU17 (by omega)), by omega, fun j hj => (up_k hU21 (by exact Nat.ne_of_beq_eq_false rfl) 0 j).trans (up_g hU17 (fun z => hj (by omega))), es⟩
              refine ⟨_, rfl, fr_u (fr_u (fr_0 _ _) hU17 rfl) hU21 rfl, ⟨fun m9 s9 a b c d => ?_, eg⟩, Or.inr ⟨by omega, Or.inr ⟨by omega, Or.inr ⟨by omega, Or.inr ⟨by omega, Or.inr ⟨by omega, by omega, sr9⟩⟩⟩⟩⟩⟩
              have y := hsh m9 s9 a b c d
              rw [er, ec, e29]
              by_cases z9 : m9 = m ∧ s9 = sd
              · obtain ⟨rfl, rfl⟩ := z9
                have e8 : U21 239 0 (2 * m9 + s9) = T 239 0 (2 * m9 + s9) + 1 := Int.le_antisymm (by omega) (by omega)
                rw [e8]; omega
              · rw [es _ (by omega)]; exact y
            · refine rg_i (by omega) ?_
              refine (show po_X11_lineUp_f T p m sd T (some (vI ((-10) - x14))) from ?_)
              have wb := wyR_b (T := T) (q := p) (p := m) (d := sd)
              exact ⟨_, rfl, fr_0 _ _, ⟨hsh, fun _ => Int.le_refl _⟩, Or.inr ⟨by omega, Or.inr ⟨by omega, Or.inr ⟨by omega, Or.inr ⟨by omega, Or.inl ⟨by omega, by omega, rfl⟩⟩⟩⟩⟩⟩
          · refine (show po_X11_lineUp_f T p m sd T (some (vI (-5))) from ?_)
            have wb := wyR_b (T := T) (q := p) (p := m) (d := sd)
            exact ⟨_, rfl, fr_0 _ _, ⟨hsh, fun _ => Int.le_refl _⟩, Or.inr ⟨by omega, Or.inr ⟨by omega, Or.inr ⟨by omega, Or.inl ⟨rfl, by omega, rfl⟩⟩⟩⟩⟩
        · refine (show po_X11_lineUp_f T p m sd T (some (vI (-4))) from ?_)
          have wb := wyR_b (T := T) (q := p) (p := m) (d := sd)
          exact ⟨_, rfl, fr_0 _ _, ⟨hsh, fun _ => Int.le_refl _⟩, Or.inr ⟨by omega, Or.inr ⟨by omega, Or.inl ⟨rfl, by omega, rfl⟩⟩⟩⟩
      · replace hx7 := hx7.resolve_left (fun z => absurd (c8.symm.trans z.1) (by decide))
        clear c8
        refine (show po_X11_lineUp_f T p m sd T (some (vI (-3))) from ?_)
        have wb := wyR_b (T := T) (q := p) (p := m) (d := sd)
        exact ⟨_, rfl, fr_0 _ _, ⟨hsh, fun _ => Int.le_refl _⟩, Or.inr ⟨by omega, Or.inl ⟨rfl, by omega, rfl⟩⟩⟩
    · replace hx5 := hx5.resolve_left (fun z => absurd (c6.symm.trans z.1) (by decide))
      clear c6
      refine (show po_X11_lineUp_f T p m sd T (some (vI (-2))) from ?_)
      have wb := wyR_b (T := T) (q := p) (p := m) (d := sd)
      exact ⟨_, rfl, fr_0 _ _, ⟨hsh, fun _ => Int.le_refl _⟩, Or.inl ⟨rfl, by omega, rfl⟩⟩
