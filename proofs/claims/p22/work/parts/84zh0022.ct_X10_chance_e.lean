theorem bk_X10_chance_e_0 : ck_ fX10 (some .int) cX10_chance 0 [.aload 0, .iload 1] 2 = true := qck_r (nn_ _) (by decide +kernel)
theorem bs_X10_chance_e_0 {P : Zt → Option Zv → Prop} (K : Int → Zl → List Zv → Zt → Prop) : sx_ K P [.aload 0, .iload 1] 2 = x_aload 0 (x_iload 1 (K 2)) := ((xe_aload 0).trans (congrArg (x_aload 0) ((xe_iload 1).trans (congrArg (x_iload 1) xe_nil))))
theorem bk_X10_chance_e_5 : ck_ fX10 (some .int) cX10_chance 5 [.ifCond .eq 31, .aload 0, .tableswitch 0 10 5 #[], .tableswitch 0 1 1 #[], .ifCond .eq 31, .aload 0, .tableswitch 0 10 5 #[], .tableswitch 0 1 8 #[], .iload 1, .iaload, .iconst (-1), .if_icmp .ne 34, .iconst (-2), .ireturn] 34 = true := qck_r (nn_ _) (by decide +kernel)
theorem bs_X10_chance_e_5 {P : Zt → Option Zv → Prop} (K : Int → Zl → List Zv → Zt → Prop) : sx_ K P [.ifCond .eq 31, .aload 0, .tableswitch 0 10 5 #[], .tableswitch 0 1 1 #[], .ifCond .eq 31, .aload 0, .tableswitch 0 10 5 #[], .tableswitch 0 1 8 #[], .iload 1, .iaload, .iconst (-1), .if_icmp .ne 34, .iconst (-2), .ireturn] 34 = x_ifCond .eq 31 K (x_aload 0 (x_g1 110 101 (x_g0 101 1 0 4 (x_ifCond .eq 31 K (x_aload 0 (x_g1 110 101 (x_g1 101 428 (x_iload 1 (x_iaload (x_iconst (-1) (x_if_icmp .ne 34 K (x_iconst (-2) (x_ireturn P))))))))))))) := ((xe_ifCond .eq 31).trans (congrArg (x_ifCond .eq 31 K) ((xe_aload 0).trans (congrArg (x_aload 0) ((xe_g1 (kk := 110) rfl tl_10_5).trans (congrArg (x_g1 110 101) ((xe_g0 (kk := 101) rfl tl_1_1).trans (congrArg (x_g0 101 1 0 4) ((xe_ifCond .eq 31).trans (congrArg (x_ifCond .eq 31 K) ((xe_aload 0).trans (congrArg (x_aload 0) ((xe_g1 (kk := 110) rfl tl_10_5).trans (congrArg (x_g1 110 101) ((xe_g1 (kk := 101) rfl tl_1_8).trans (congrArg (x_g1 101 428) ((xe_iload 1).trans (congrArg (x_iload 1) ((xe_iaload).trans (congrArg (x_iaload) ((xe_iconst (-1)).trans (congrArg (x_iconst (-1)) ((xe_if_icmp .ne 34).trans (congrArg (x_if_icmp .ne 34 K) ((xe_iconst (-2)).trans (congrArg (x_iconst (-2)) (xe_ireturn)))))))))))))))))))))))))))
theorem bk_X10_chance_e_31 : ck_ fX10 (some .int) cX10_chance 31 [.iconst (-2), .ireturn] 34 = true := qck_r (nn_ _) (by decide +kernel)
theorem bs_X10_chance_e_31 {P : Zt → Option Zv → Prop} (K : Int → Zl → List Zv → Zt → Prop) : sx_ K P [.iconst (-2), .ireturn] 34 = x_iconst (-2) (x_ireturn P) := ((xe_iconst (-2)).trans (congrArg (x_iconst (-2)) (xe_ireturn)))
theorem bk_X10_chance_e_34 : ck_ fX10 (some .int) cX10_chance 34 [.iload 2, .aload 0, .tableswitch 0 10 5 #[], .tableswitch 0 1 1 #[]] 42 = true := qck_r (nn_ _) (by decide +kernel)
theorem bs_X10_chance_e_34 {P : Zt → Option Zv → Prop} (K : Int → Zl → List Zv → Zt → Prop) : sx_ K P [.iload 2, .aload 0, .tableswitch 0 10 5 #[], .tableswitch 0 1 1 #[]] 42 = x_iload 2 (x_aload 0 (x_g1 110 101 (x_g0 101 1 0 4 (K 42)))) := ((xe_iload 2).trans (congrArg (x_iload 2) ((xe_aload 0).trans (congrArg (x_aload 0) ((xe_g1 (kk := 110) rfl tl_10_5).trans (congrArg (x_g1 110 101) ((xe_g0 (kk := 101) rfl tl_1_1).trans (congrArg (x_g0 101 1 0 4) xe_nil))))))))
theorem bk_X10_chance_e_45 : ck_ fX10 (some .int) cX10_chance 45 [.ifCond .ne 51, .iconst (-3), .ireturn] 51 = true := qck_r (nn_ _) (by decide +kernel)
theorem bs_X10_chance_e_45 {P : Zt → Option Zv → Prop} (K : Int → Zl → List Zv → Zt → Prop) : sx_ K P [.ifCond .ne 51, .iconst (-3), .ireturn] 51 = x_ifCond .ne 51 K (x_iconst (-3) (x_ireturn P)) := ((xe_ifCond .ne 51).trans (congrArg (x_ifCond .ne 51 K) ((xe_iconst (-3)).trans (congrArg (x_iconst (-3)) (xe_ireturn)))))
theorem bk_X10_chance_e_51 : ck_ fX10 (some .int) cX10_chance 51 [.aload 0, .tableswitch 0 10 5 #[]] 55 = true := qck_r (nn_ _) (by decide +kernel)
theorem bs_X10_chance_e_51 {P : Zt → Option Zv → Prop} (K : Int → Zl → List Zv → Zt → Prop) : sx_ K P [.aload 0, .tableswitch 0 10 5 #[]] 55 = x_aload 0 (x_g1 110 101 (K 55)) := ((xe_aload 0).trans (congrArg (x_aload 0) ((xe_g1 (kk := 110) rfl tl_10_5).trans (congrArg (x_g1 110 101) xe_nil))))
theorem bk_X10_chance_e_58 : ck_ fX10 (some .int) cX10_chance 58 [.aload 0, .tableswitch 0 10 5 #[], .iload 1, .iload 2] 64 = true := qck_r (nn_ _) (by decide +kernel)
theorem bs_X10_chance_e_58 {P : Zt → Option Zv → Prop} (K : Int → Zl → List Zv → Zt → Prop) : sx_ K P [.aload 0, .tableswitch 0 10 5 #[], .iload 1, .iload 2] 64 = x_aload 0 (x_g1 110 101 (x_iload 1 (x_iload 2 (K 64)))) := ((xe_aload 0).trans (congrArg (x_aload 0) ((xe_g1 (kk := 110) rfl tl_10_5).trans (congrArg (x_g1 110 101) ((xe_iload 1).trans (congrArg (x_iload 1) ((xe_iload 2).trans (congrArg (x_iload 2) xe_nil))))))))
theorem bk_X10_chance_e_67 : ck_ fX10 (some .int) cX10_chance 67 [.ireturn] 68 = true := qck_r (nn_ _) (by decide +kernel)
theorem bs_X10_chance_e_67 {P : Zt → Option Zv → Prop} (K : Int → Zl → List Zv → Zt → Prop) : sx_ K P [.ireturn] 68 = x_ireturn P := (xe_ireturn)
abbrev po_X10_chance_e (T : Zt) (c g : Int) : Zt → Option Zv → Prop := fun T' r => ∃ x : Int, r = some (vI x) ∧ fr_ [(101, [13, 6, 7]), (434, []), (435, []), (431, []), (432, [])] T T' ∧ (x = x ∧ CHH_ T T' c g x)
set_option maxHeartbeats 4000000 in
theorem ct_X10_chance_e {T : Zt} {c g : Int} : Ct_ yX10_chance zX10_chance T [vR 110 0, vI c, vI g] (po_X10_chance_e T c g) := by
  refine ct_of pn_10 rfl rfl (Nat.le_of_ble_eq_true rfl) (fun hT hav => ?_)
  have hr_c : -2147483648 ≤ c ∧ c ≤ 2147483647 := hav (vI c) (List.mem_cons_of_mem _ List.mem_cons_self)
  have hr_g : -2147483648 ≤ g ∧ g ≤ 2147483647 := hav (vI g) (List.mem_cons_of_mem _ (List.mem_cons_of_mem _ List.mem_cons_self))
  have hz : zX10_chance.2.2.2.1 = some .boolean → ∀ (T' : Zt) (x : Int), po_X10_chance_e T c g T' (some (vI x)) → 0 ≤ x ∧ x ≤ 1 := fun h => by cases h
  have hb_clubs : 0 ≤ T 108 0 2 ∧ T 108 0 2 ≤ 12 := bd_f hT 108 2 tl_8_2 0
  have hgr : 0 ≤ T 101 0 1 ∧ T 101 0 1 ≤ 4 := bd_f hT 101 1 tl_1_1 0
  show J_ zX10_chance T (po_X10_chance_e T c g) 0 0 0 [some (vR 110 0), some (vI c), some (vI g)] [] T
  refine j_blx (F := fX10) tb_X10 (nn_ _) bk_X10_chance_e_0 bs_X10_chance_e_0 hz (fun K hK => ?_)
  refine hK 2 _ [vI c, vR 110 0] T ?_
  refine j_callV (y := yX10_isClub) (Yc := zX10_isClub) (rest := []) [vI c] (ct_X10_isClub (T := T)) cl_X10_137 (qd_c (by decide +kernel)) (nn_ _) rfl (rf_of rfl) (Nat.le_of_ble_eq_true rfl) (Nat.le_of_ble_eq_true rfl) (Nat.le_of_ble_eq_true rfl) rfl ?_
  rintro _ _ ⟨rfl, x1, rfl, hx1⟩
  show J_ zX10_chance T (po_X10_chance_e T c g) 0 0 5 _ [vI x1] T
  refine j_blx (F := fX10) tb_X10 (nn_ _) bk_X10_chance_e_5 bs_X10_chance_e_5 hz (fun K hK => ?_)
  refine And.intro (fun c2 => ?_) (fun c2 => ?_)
  · replace hx1 := hx1.resolve_left (fun z => absurd (c2.symm.trans z.1) (by decide))
    clear c2
    refine hK 31 _ [] T ?_
    refine j_blx (F := fX10) tb_X10 (nn_ _) bk_X10_chance_e_31 bs_X10_chance_e_31 hz (fun K hK => ?_)
    refine (show po_X10_chance_e T c g T (some (vI (-2))) from ?_)
    exact ⟨_, rfl, fr_0 _ _, rfl, Or.inl ⟨rfl, Or.inl ⟨rfl, by omega⟩⟩⟩
  · replace hx1 := hx1.resolve_right (fun z => c2 z.1)
    clear c2
    intro b3 b3b
    refine And.intro (fun c4 => ?_) (fun c4 => ?_)
    · refine hK 31 _ [] T ?_
      refine j_blx (F := fX10) tb_X10 (nn_ _) bk_X10_chance_e_31 bs_X10_chance_e_31 hz (fun K hK => ?_)
      refine (show po_X10_chance_e T c g T (some (vI (-2))) from ?_)
      exact ⟨_, rfl, fr_0 _ _, rfl, Or.inl ⟨rfl, Or.inl ⟨rfl, by omega⟩⟩⟩
    · refine ix_i (by omega) ?_
      intro b5 b5b
      refine And.intro (fun c6 => ?_) (fun c6 => ?_)
      · refine hK 34 _ [] T ?_
        refine j_blx (F := fX10) tb_X10 (nn_ _) bk_X10_chance_e_34 bs_X10_chance_e_34 hz (fun K hK => ?_)
        intro b7 b7b
        refine hK 42 _ [vI (T 101 0 1), vI g] T ?_
        refine j_callS (y := yX10_isBelow) (Yc := zX10_isBelow) (rest := []) [vI g, vI (T 101 0 1)] (ct_X10_isBelow (T := T)) cl_X10_115 (qd_c (by decide +kernel)) (nn_ _) rfl (rf_of rfl) (Nat.le_of_ble_eq_true rfl) (Nat.le_of_ble_eq_true rfl) (Nat.le_of_ble_eq_true rfl) rfl ?_
        rintro _ _ ⟨rfl, x8, rfl, hx8⟩
        show J_ zX10_chance T (po_X10_chance_e T c g) 0 0 45 _ [vI x8] T
        refine j_blx (F := fX10) tb_X10 (nn_ _) bk_X10_chance_e_45 bs_X10_chance_e_45 hz (fun K hK => ?_)
        refine And.intro (fun c9 => ?_) (fun c9 => ?_)
        · replace hx8 := hx8.resolve_right (fun z => c9 z.1)
          clear c9
          refine hK 51 _ [] T ?_
          refine j_blx (F := fX10) tb_X10 (nn_ _) bk_X10_chance_e_51 bs_X10_chance_e_51 hz (fun K hK => ?_)
          refine hK 55 _ [vR 101 0] T ?_
          refine j_callV (y := yX1_refresh) (Yc := zX1_refresh) (rest := []) [] (ct_X1_refresh_e (T := T)) cl_X10_399 (qd_c (by decide +kernel)) (nn_ _) rfl (rf_of rfl) (Nat.le_of_ble_eq_true rfl) (Nat.le_of_ble_eq_true rfl) (Nat.le_of_ble_eq_true rfl) rfl ?_
          rintro U10 _ ⟨rfl, fU10, qU10⟩
          show J_ zX10_chance T (po_X10_chance_e T c g) 0 0 58 _ [] U10
          refine j_blx (F := fX10) tb_X10 (nn_ _) bk_X10_chance_e_58 bs_X10_chance_e_58 hz (fun K hK => ?_)
          refine hK 64 _ [vI g, vI c, vR 101 0] U10 ?_
          refine j_callV (y := yX1_waysWith) (Yc := zX1_waysWith) (rest := []) [vI c, vI g] (ct_X1_waysWith_e (T := U10) (by omega) (by omega)) cl_X10_405 (qd_c (by decide +kernel)) (nn_ _) rfl (rf_of rfl) (Nat.le_of_ble_eq_true rfl) (Nat.le_of_ble_eq_true rfl) (Nat.le_of_ble_eq_true rfl) rfl ?_
          rintro _ _ ⟨rfl, x11, rfl, hx11⟩
          show J_ zX10_chance T (po_X10_chance_e T c g) 0 0 67 _ [vI x11] U10
          refine j_blx (F := fX10) tb_X10 (nn_ _) bk_X10_chance_e_67 bs_X10_chance_e_67 hz (fun K hK => ?_)
          refine (show po_X10_chance_e T c g U10 (some (vI x11)) from ?_)
          exact ⟨_, rfl, fr_t (fr_0 _ _) (fr_s fU10 rfl), rfl, Or.inr ⟨by omega, by omega, qU10, hx11⟩⟩
        · replace hx8 := hx8.resolve_left (fun z => absurd (c9.symm.trans z.1) (by decide))
          clear c9
          refine (show po_X10_chance_e T c g T (some (vI (-3))) from ?_)
          exact ⟨_, rfl, fr_0 _ _, rfl, Or.inl ⟨rfl, Or.inr ⟨by omega, rfl, by omega⟩⟩⟩
      · refine (show po_X10_chance_e T c g T (some (vI (-2))) from ?_)
        exact ⟨_, rfl, fr_0 _ _, rfl, Or.inl ⟨rfl, Or.inl ⟨rfl, by omega⟩⟩⟩
