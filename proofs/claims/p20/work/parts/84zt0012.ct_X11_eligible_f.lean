theorem bk_X11_eligible_f_0 : ck_ fX11 (some .int) cX11_eligible 0 [.iload 1, .aload 0, .tableswitch 0 11 15 #[]] 5 = true := qck_r (nn_ _) (by decide +kernel)
theorem bs_X11_eligible_f_0 {P : Zt → Option Zv → Prop} (K : Int → Zl → List Zv → Zt → Prop) : sx_ K P [.iload 1, .aload 0, .tableswitch 0 11 15 #[]] 5 = x_iload 1 (x_aload 0 (x_g0 111 15 0 200 (K 5))) := ((xe_iload 1).trans (congrArg (x_iload 1) ((xe_aload 0).trans (congrArg (x_aload 0) ((xe_g0 (kk := 111) rfl tl_11_15).trans (congrArg (x_g0 111 15 0 200) xe_nil))))))
theorem bk_X11_eligible_f_8 : ck_ fX11 (some .int) cX11_eligible 8 [.ifCond .eq 22, .iload 2, .aload 0, .tableswitch 0 11 29 #[]] 16 = true := qck_r (nn_ _) (by decide +kernel)
theorem bs_X11_eligible_f_8 {P : Zt → Option Zv → Prop} (K : Int → Zl → List Zv → Zt → Prop) : sx_ K P [.ifCond .eq 22, .iload 2, .aload 0, .tableswitch 0 11 29 #[]] 16 = x_ifCond .eq 22 K (x_iload 2 (x_aload 0 (x_g0 111 29 0 400 (K 16)))) := ((xe_ifCond .eq 22).trans (congrArg (x_ifCond .eq 22 K) ((xe_iload 2).trans (congrArg (x_iload 2) ((xe_aload 0).trans (congrArg (x_aload 0) ((xe_g0 (kk := 111) rfl tl_11_29).trans (congrArg (x_g0 111 29 0 400) xe_nil))))))))
theorem bk_X11_eligible_f_22 : ck_ fX11 (some .int) cX11_eligible 22 [.iconst (-2), .ireturn] 25 = true := qck_r (nn_ _) (by decide +kernel)
theorem bs_X11_eligible_f_22 {P : Zt → Option Zv → Prop} (K : Int → Zl → List Zv → Zt → Prop) : sx_ K P [.iconst (-2), .ireturn] 25 = x_iconst (-2) (x_ireturn P) := ((xe_iconst (-2)).trans (congrArg (x_iconst (-2)) (xe_ireturn)))
theorem bk_X11_eligible_f_19 : ck_ fX11 (some .int) cX11_eligible 19 [.ifCond .ne 25, .iconst (-2), .ireturn] 25 = true := qck_r (nn_ _) (by decide +kernel)
theorem bs_X11_eligible_f_19 {P : Zt → Option Zv → Prop} (K : Int → Zl → List Zv → Zt → Prop) : sx_ K P [.ifCond .ne 25, .iconst (-2), .ireturn] 25 = x_ifCond .ne 25 K (x_iconst (-2) (x_ireturn P)) := ((xe_ifCond .ne 25).trans (congrArg (x_ifCond .ne 25 K) ((xe_iconst (-2)).trans (congrArg (x_iconst (-2)) (xe_ireturn)))))
theorem bk_X11_eligible_f_25 : ck_ fX11 (some .int) cX11_eligible 25 [.iload 3, .iconst 0, .iconst 1] 28 = true := qck_r (nn_ _) (by decide +kernel)
theorem bs_X11_eligible_f_25 {P : Zt → Option Zv → Prop} (K : Int → Zl → List Zv → Zt → Prop) : sx_ K P [.iload 3, .iconst 0, .iconst 1] 28 = x_iload 3 (x_iconst 0 (x_iconst 1 (K 28))) := ((xe_iload 3).trans (congrArg (x_iload 3) ((xe_iconst 0).trans (congrArg (x_iconst 0) ((xe_iconst 1).trans (congrArg (x_iconst 1) xe_nil))))))
theorem bk_X11_eligible_f_31 : ck_ fX11 (some .int) cX11_eligible 31 [.ifCond .eq 44, .aload 0, .iload 1, .iload 2, .iload 3] 38 = true := qck_r (nn_ _) (by decide +kernel)
theorem bs_X11_eligible_f_31 {P : Zt → Option Zv → Prop} (K : Int → Zl → List Zv → Zt → Prop) : sx_ K P [.ifCond .eq 44, .aload 0, .iload 1, .iload 2, .iload 3] 38 = x_ifCond .eq 44 K (x_aload 0 (x_iload 1 (x_iload 2 (x_iload 3 (K 38))))) := ((xe_ifCond .eq 44).trans (congrArg (x_ifCond .eq 44 K) ((xe_aload 0).trans (congrArg (x_aload 0) ((xe_iload 1).trans (congrArg (x_iload 1) ((xe_iload 2).trans (congrArg (x_iload 2) ((xe_iload 3).trans (congrArg (x_iload 3) xe_nil))))))))))
theorem bk_X11_eligible_f_44 : ck_ fX11 (some .int) cX11_eligible 44 [.iconst (-3), .ireturn] 47 = true := qck_r (nn_ _) (by decide +kernel)
theorem bs_X11_eligible_f_44 {P : Zt → Option Zv → Prop} (K : Int → Zl → List Zv → Zt → Prop) : sx_ K P [.iconst (-3), .ireturn] 47 = x_iconst (-3) (x_ireturn P) := ((xe_iconst (-3)).trans (congrArg (x_iconst (-3)) (xe_ireturn)))
theorem bk_X11_eligible_f_41 : ck_ fX11 (some .int) cX11_eligible 41 [.goto 46] 44 = true := qck_r (nn_ _) (by decide +kernel)
theorem bs_X11_eligible_f_41 {P : Zt → Option Zv → Prop} (K : Int → Zl → List Zv → Zt → Prop) : sx_ K P [.goto 46] 44 = x_goto 46 K := (xe_goto 46)
theorem bk_X11_eligible_f_46 : ck_ fX11 (some .int) cX11_eligible 46 [.ireturn] 47 = true := qck_r (nn_ _) (by decide +kernel)
theorem bs_X11_eligible_f_46 {P : Zt → Option Zv → Prop} (K : Int → Zl → List Zv → Zt → Prop) : sx_ K P [.ireturn] 47 = x_ireturn P := (xe_ireturn)
abbrev po_X11_eligible_f (T : Zt) (p m sd : Int) : Zt → Option Zv → Prop := fun T' r => T = T' ∧ ∃ x : Int, r = some (vI x) ∧ ((x = -2 ∧ ¬ ((0 ≤ p ∧ p < T 111 0 15) ∧ 0 ≤ m ∧ m < T 111 0 29)) ∨ (((0 ≤ p ∧ p < T 111 0 15) ∧ 0 ≤ m ∧ m < T 111 0 29) ∧ ((x = -3 ∧ ¬ (0 ≤ sd ∧ sd ≤ 1)) ∨ ((0 ≤ sd ∧ sd ≤ 1) ∧ x = wyR_ T p m sd))))
set_option maxHeartbeats 4000000 in
theorem ct_X11_eligible_f {T : Zt} {p m sd : Int} (hml : ML_ T) (hmc : MC_ T) (hri : RI_ T) : Ct_ yX11_eligible zX11_eligible T [vR 111 0, vI p, vI m, vI sd] (po_X11_eligible_f T p m sd) := by
  refine ct_of pn_11 rfl rfl (Nat.le_of_ble_eq_true rfl) (fun hT hav => ?_)
  have hr_p : -2147483648 ≤ p ∧ p ≤ 2147483647 := hav (vI p) (List.mem_cons_of_mem _ List.mem_cons_self)
  have hr_m : -2147483648 ≤ m ∧ m ≤ 2147483647 := hav (vI m) (List.mem_cons_of_mem _ (List.mem_cons_of_mem _ List.mem_cons_self))
  have hr_sd : -2147483648 ≤ sd ∧ sd ≤ 2147483647 := hav (vI sd) (List.mem_cons_of_mem _ (List.mem_cons_of_mem _ (List.mem_cons_of_mem _ List.mem_cons_self)))
  have hz : zX11_eligible.2.2.2.1 = some .boolean → ∀ (T' : Zt) (x : Int), po_X11_eligible_f T p m sd T' (some (vI x)) → 0 ≤ x ∧ x ≤ 1 := fun h => by cases h
  have hb_29 : 0 ≤ T 111 0 29 ∧ T 111 0 29 ≤ 400 := bd_f hT 111 29 tl_11_29 0
  have hb_15 : 0 ≤ T 111 0 15 ∧ T 111 0 15 ≤ 200 := bd_f hT 111 15 tl_11_15 0
  show J_ zX11_eligible T (po_X11_eligible_f T p m sd) 0 0 0 [some (vR 111 0), some (vI p), some (vI m), some (vI sd)] [] T
  refine j_blx (F := fX11) tb_X11 (nn_ _) bk_X11_eligible_f_0 bs_X11_eligible_f_0 hz (fun K hK => ?_)
  intro b1 b1b
  refine hK 5 _ [vI (T 111 0 15), vI p] T ?_
  refine j_callS (y := yX11_isOf) (Yc := zX11_isOf) (rest := []) [vI p, vI (T 111 0 15)] (ct_X11_isOf (T := T) (by omega)) cl_X11_317 (qd_c (by decide +kernel)) (nn_ _) rfl (rf_of rfl) (Nat.le_of_ble_eq_true rfl) (Nat.le_of_ble_eq_true rfl) (Nat.le_of_ble_eq_true rfl) rfl ?_
  rintro _ _ ⟨rfl, x2, rfl, hx2⟩
  show J_ zX11_eligible T (po_X11_eligible_f T p m sd) 0 0 8 _ [vI x2] T
  refine j_blx (F := fX11) tb_X11 (nn_ _) bk_X11_eligible_f_8 bs_X11_eligible_f_8 hz (fun K hK => ?_)
  refine And.intro (fun c3 => ?_) (fun c3 => ?_)
  · replace hx2 := hx2.resolve_left (fun z => absurd (c3.symm.trans z.1) (by decide))
    clear c3
    refine hK 22 _ [] T ?_
    refine j_blx (F := fX11) tb_X11 (nn_ _) bk_X11_eligible_f_22 bs_X11_eligible_f_22 hz (fun K hK => ?_)
    refine (show po_X11_eligible_f T p m sd T (some (vI (-2))) from ?_)
    exact ⟨rfl, _, rfl, by omega⟩
  · replace hx2 := hx2.resolve_right (fun z => c3 z.1)
    clear c3
    intro b4 b4b
    refine hK 16 _ [vI (T 111 0 29), vI m] T ?_
    refine j_callS (y := yX11_isOf) (Yc := zX11_isOf) (rest := []) [vI m, vI (T 111 0 29)] (ct_X11_isOf (T := T) (by omega)) cl_X11_317 (qd_c (by decide +kernel)) (nn_ _) rfl (rf_of rfl) (Nat.le_of_ble_eq_true rfl) (Nat.le_of_ble_eq_true rfl) (Nat.le_of_ble_eq_true rfl) rfl ?_
    rintro _ _ ⟨rfl, x5, rfl, hx5⟩
    show J_ zX11_eligible T (po_X11_eligible_f T p m sd) 0 0 19 _ [vI x5] T
    refine j_blx (F := fX11) tb_X11 (nn_ _) bk_X11_eligible_f_19 bs_X11_eligible_f_19 hz (fun K hK => ?_)
    refine And.intro (fun c6 => ?_) (fun c6 => ?_)
    · replace hx5 := hx5.resolve_right (fun z => c6 z.1)
      clear c6
      refine hK 25 _ [] T ?_
      refine j_blx (F := fX11) tb_X11 (nn_ _) bk_X11_eligible_f_25 bs_X11_eligible_f_25 hz (fun K hK => ?_)
      refine hK 28 _ [vI 1, vI 0, vI sd] T ?_
      refine j_callS (y := yX11_in) (Yc := zX11_in) (rest := []) [vI sd, vI 0, vI 1] (ct_X11_in (T := T)) cl_X11_255 (qd_c (by decide +kernel)) (nn_ _) rfl (rf_of rfl) (Nat.le_of_ble_eq_true rfl) (Nat.le_of_ble_eq_true rfl) (Nat.le_of_ble_eq_true rfl) rfl ?_
      rintro _ _ ⟨rfl, x7, rfl, hx7⟩
      show J_ zX11_eligible T (po_X11_eligible_f T p m sd) 0 0 31 _ [vI x7] T
      refine j_blx (F := fX11) tb_X11 (nn_ _) bk_X11_eligible_f_31 bs_X11_eligible_f_31 hz (fun K hK => ?_)
      refine And.intro (fun c8 => ?_) (fun c8 => ?_)
      · replace hx7 := hx7.resolve_left (fun z => absurd (c8.symm.trans z.1) (by decide))
        clear c8
        refine hK 44 _ [] T ?_
        refine j_blx (F := fX11) tb_X11 (nn_ _) bk_X11_eligible_f_44 bs_X11_eligible_f_44 hz (fun K hK => ?_)
        refine (show po_X11_eligible_f T p m sd T (some (vI (-3))) from ?_)
        exact ⟨rfl, _, rfl, by omega⟩
      · replace hx7 := hx7.resolve_right (fun z => c8 z.1)
        clear c8
        refine hK 38 _ [vI sd, vI m, vI p, vR 111 0] T ?_
        refine j_callV (y := yX11_whyNot) (Yc := zX11_whyNot) (rest := []) [vI p, vI m, vI sd] (ct_X11_whyNot_f (T := T) (by omega) hml hmc hri) cl_X11_387 (qd_c (by decide +kernel)) (nn_ _) rfl (rf_of rfl) (Nat.le_of_ble_eq_true rfl) (Nat.le_of_ble_eq_true rfl) (Nat.le_of_ble_eq_true rfl) rfl ?_
        rintro _ _ ⟨rfl, x9, rfl, hx9⟩
        show J_ zX11_eligible T (po_X11_eligible_f T p m sd) 0 0 41 _ [vI x9] T
        refine j_blx (F := fX11) tb_X11 (nn_ _) bk_X11_eligible_f_41 bs_X11_eligible_f_41 hz (fun K hK => ?_)
        refine hK 46 _ [vI x9] T ?_
        refine j_blx (F := fX11) tb_X11 (nn_ _) bk_X11_eligible_f_46 bs_X11_eligible_f_46 hz (fun K hK => ?_)
        refine (show po_X11_eligible_f T p m sd T (some (vI x9)) from ?_)
        exact ⟨rfl, _, rfl, by omega⟩
    · replace hx5 := hx5.resolve_left (fun z => absurd (c6.symm.trans z.1) (by decide))
      clear c6
      refine (show po_X11_eligible_f T p m sd T (some (vI (-2))) from ?_)
      exact ⟨rfl, _, rfl, by omega⟩
