theorem bk_X10_pot_e_0 : ck_ fX10 (some .int) cX10_pot 0 [.aload 0, .iload 1] 2 = true := qck_r (nn_ _) (by decide +kernel)
theorem bs_X10_pot_e_0 {P : Zt → Option Zv → Prop} (K : Int → Zl → List Zv → Zt → Prop) : sx_ K P [.aload 0, .iload 1] 2 = x_aload 0 (x_iload 1 (K 2)) := ((xe_aload 0).trans (congrArg (x_aload 0) ((xe_iload 1).trans (congrArg (x_iload 1) xe_nil))))
theorem bk_X10_pot_e_5 : ck_ fX10 (some .int) cX10_pot 5 [.ifCond .ne 11, .iconst (-2), .ireturn] 11 = true := qck_r (nn_ _) (by decide +kernel)
theorem bs_X10_pot_e_5 {P : Zt → Option Zv → Prop} (K : Int → Zl → List Zv → Zt → Prop) : sx_ K P [.ifCond .ne 11, .iconst (-2), .ireturn] 11 = x_ifCond .ne 11 K (x_iconst (-2) (x_ireturn P)) := ((xe_ifCond .ne 11).trans (congrArg (x_ifCond .ne 11 K) ((xe_iconst (-2)).trans (congrArg (x_iconst (-2)) (xe_ireturn)))))
theorem bk_X10_pot_e_11 : ck_ fX10 (some .int) cX10_pot 11 [.iload 2, .ifCond .lt 20, .iload 2, .iconst 3, .if_icmp .lt 23, .iconst (-3), .ireturn] 23 = true := qck_r (nn_ _) (by decide +kernel)
theorem bs_X10_pot_e_11 {P : Zt → Option Zv → Prop} (K : Int → Zl → List Zv → Zt → Prop) : sx_ K P [.iload 2, .ifCond .lt 20, .iload 2, .iconst 3, .if_icmp .lt 23, .iconst (-3), .ireturn] 23 = x_iload 2 (x_ifCond .lt 20 K (x_iload 2 (x_iconst 3 (x_if_icmp .lt 23 K (x_iconst (-3) (x_ireturn P)))))) := ((xe_iload 2).trans (congrArg (x_iload 2) ((xe_ifCond .lt 20).trans (congrArg (x_ifCond .lt 20 K) ((xe_iload 2).trans (congrArg (x_iload 2) ((xe_iconst 3).trans (congrArg (x_iconst 3) ((xe_if_icmp .lt 23).trans (congrArg (x_if_icmp .lt 23 K) ((xe_iconst (-3)).trans (congrArg (x_iconst (-3)) (xe_ireturn)))))))))))))
theorem bk_X10_pot_e_20 : ck_ fX10 (some .int) cX10_pot 20 [.iconst (-3), .ireturn] 23 = true := qck_r (nn_ _) (by decide +kernel)
theorem bs_X10_pot_e_20 {P : Zt → Option Zv → Prop} (K : Int → Zl → List Zv → Zt → Prop) : sx_ K P [.iconst (-3), .ireturn] 23 = x_iconst (-3) (x_ireturn P) := ((xe_iconst (-3)).trans (congrArg (x_iconst (-3)) (xe_ireturn)))
theorem bk_X10_pot_e_23 : ck_ fX10 (some .int) cX10_pot 23 [.aload 0, .tableswitch 0 10 5 #[], .tableswitch 0 1 1 #[], .ifCond .eq 56, .aload 0, .tableswitch 0 10 5 #[], .tableswitch 0 1 8 #[], .iload 1, .iaload, .iconst (-1), .if_icmp .ne 56, .aload 0, .tableswitch 0 10 5 #[], .tableswitch 0 1 4 #[], .ifCond .le 59, .iconst (-4), .ireturn] 59 = true := qck_r (nn_ _) (by decide +kernel)
theorem bs_X10_pot_e_23 {P : Zt → Option Zv → Prop} (K : Int → Zl → List Zv → Zt → Prop) : sx_ K P [.aload 0, .tableswitch 0 10 5 #[], .tableswitch 0 1 1 #[], .ifCond .eq 56, .aload 0, .tableswitch 0 10 5 #[], .tableswitch 0 1 8 #[], .iload 1, .iaload, .iconst (-1), .if_icmp .ne 56, .aload 0, .tableswitch 0 10 5 #[], .tableswitch 0 1 4 #[], .ifCond .le 59, .iconst (-4), .ireturn] 59 = x_aload 0 (x_g1 110 101 (x_g0 101 1 0 4 (x_ifCond .eq 56 K (x_aload 0 (x_g1 110 101 (x_g1 101 428 (x_iload 1 (x_iaload (x_iconst (-1) (x_if_icmp .ne 56 K (x_aload 0 (x_g1 110 101 (x_g0 101 4 (-2147483648) 2147483647 (x_ifCond .le 59 K (x_iconst (-4) (x_ireturn P)))))))))))))))) := ((xe_aload 0).trans (congrArg (x_aload 0) ((xe_g1 (kk := 110) rfl tl_10_5).trans (congrArg (x_g1 110 101) ((xe_g0 (kk := 101) rfl tl_1_1).trans (congrArg (x_g0 101 1 0 4) ((xe_ifCond .eq 56).trans (congrArg (x_ifCond .eq 56 K) ((xe_aload 0).trans (congrArg (x_aload 0) ((xe_g1 (kk := 110) rfl tl_10_5).trans (congrArg (x_g1 110 101) ((xe_g1 (kk := 101) rfl tl_1_8).trans (congrArg (x_g1 101 428) ((xe_iload 1).trans (congrArg (x_iload 1) ((xe_iaload).trans (congrArg (x_iaload) ((xe_iconst (-1)).trans (congrArg (x_iconst (-1)) ((xe_if_icmp .ne 56).trans (congrArg (x_if_icmp .ne 56 K) ((xe_aload 0).trans (congrArg (x_aload 0) ((xe_g1 (kk := 110) rfl tl_10_5).trans (congrArg (x_g1 110 101) ((xe_g0 (kk := 101) rfl tl_1_4).trans (congrArg (x_g0 101 4 (-2147483648) 2147483647) ((xe_ifCond .le 59).trans (congrArg (x_ifCond .le 59 K) ((xe_iconst (-4)).trans (congrArg (x_iconst (-4)) (xe_ireturn)))))))))))))))))))))))))))))))))
theorem bk_X10_pot_e_56 : ck_ fX10 (some .int) cX10_pot 56 [.iconst (-4), .ireturn] 59 = true := qck_r (nn_ _) (by decide +kernel)
theorem bs_X10_pot_e_56 {P : Zt → Option Zv → Prop} (K : Int → Zl → List Zv → Zt → Prop) : sx_ K P [.iconst (-4), .ireturn] 59 = x_iconst (-4) (x_ireturn P) := ((xe_iconst (-4)).trans (congrArg (x_iconst (-4)) (xe_ireturn)))
theorem bk_X10_pot_e_59 : ck_ fX10 (some .int) cX10_pot 59 [.aload 0, .tableswitch 0 10 5 #[], .tableswitch 0 1 10 #[], .iload 2, .iaload, .aload 0, .tableswitch 0 10 5 #[], .tableswitch 0 1 1 #[], .if_icmp .lt 81, .iconst (-5), .ireturn] 81 = true := qck_r (nn_ _) (by decide +kernel)
theorem bs_X10_pot_e_59 {P : Zt → Option Zv → Prop} (K : Int → Zl → List Zv → Zt → Prop) : sx_ K P [.aload 0, .tableswitch 0 10 5 #[], .tableswitch 0 1 10 #[], .iload 2, .iaload, .aload 0, .tableswitch 0 10 5 #[], .tableswitch 0 1 1 #[], .if_icmp .lt 81, .iconst (-5), .ireturn] 81 = x_aload 0 (x_g1 110 101 (x_g1 101 430 (x_iload 2 (x_iaload (x_aload 0 (x_g1 110 101 (x_g0 101 1 0 4 (x_if_icmp .lt 81 K (x_iconst (-5) (x_ireturn P)))))))))) := ((xe_aload 0).trans (congrArg (x_aload 0) ((xe_g1 (kk := 110) rfl tl_10_5).trans (congrArg (x_g1 110 101) ((xe_g1 (kk := 101) rfl tl_1_10).trans (congrArg (x_g1 101 430) ((xe_iload 2).trans (congrArg (x_iload 2) ((xe_iaload).trans (congrArg (x_iaload) ((xe_aload 0).trans (congrArg (x_aload 0) ((xe_g1 (kk := 110) rfl tl_10_5).trans (congrArg (x_g1 110 101) ((xe_g0 (kk := 101) rfl tl_1_1).trans (congrArg (x_g0 101 1 0 4) ((xe_if_icmp .lt 81).trans (congrArg (x_if_icmp .lt 81 K) ((xe_iconst (-5)).trans (congrArg (x_iconst (-5)) (xe_ireturn)))))))))))))))))))))
theorem bk_X10_pot_e_81 : ck_ fX10 (some .int) cX10_pot 81 [.aload 0, .tableswitch 0 10 5 #[], .iload 1, .iload 2] 87 = true := qck_r (nn_ _) (by decide +kernel)
theorem bs_X10_pot_e_81 {P : Zt → Option Zv → Prop} (K : Int → Zl → List Zv → Zt → Prop) : sx_ K P [.aload 0, .tableswitch 0 10 5 #[], .iload 1, .iload 2] 87 = x_aload 0 (x_g1 110 101 (x_iload 1 (x_iload 2 (K 87)))) := ((xe_aload 0).trans (congrArg (x_aload 0) ((xe_g1 (kk := 110) rfl tl_10_5).trans (congrArg (x_g1 110 101) ((xe_iload 1).trans (congrArg (x_iload 1) ((xe_iload 2).trans (congrArg (x_iload 2) xe_nil))))))))
theorem bk_X10_pot_e_90 : ck_ fX10 (some .int) cX10_pot 90 [.aload 0, .tableswitch 0 10 5 #[], .tableswitch 0 1 10 #[], .iload 2, .iaload, .ireturn] 100 = true := qck_r (nn_ _) (by decide +kernel)
theorem bs_X10_pot_e_90 {P : Zt → Option Zv → Prop} (K : Int → Zl → List Zv → Zt → Prop) : sx_ K P [.aload 0, .tableswitch 0 10 5 #[], .tableswitch 0 1 10 #[], .iload 2, .iaload, .ireturn] 100 = x_aload 0 (x_g1 110 101 (x_g1 101 430 (x_iload 2 (x_iaload (x_ireturn P))))) := ((xe_aload 0).trans (congrArg (x_aload 0) ((xe_g1 (kk := 110) rfl tl_10_5).trans (congrArg (x_g1 110 101) ((xe_g1 (kk := 101) rfl tl_1_10).trans (congrArg (x_g1 101 430) ((xe_iload 2).trans (congrArg (x_iload 2) ((xe_iaload).trans (congrArg (x_iaload) (xe_ireturn)))))))))))
abbrev po_X10_pot_e (T : Zt) (c k : Int) : Zt → Option Zv → Prop := fun T' r => ∃ x : Int, r = some (vI x) ∧ fr_ [(428, []), (430, []), (101, [3, 7])] T T' ∧ (x = x ∧ PTH_ T T' c k x)
set_option maxHeartbeats 4000000 in
theorem ct_X10_pot_e {T : Zt} {c k : Int} (hlo : LOR_ T) : Ct_ yX10_pot zX10_pot T [vR 110 0, vI c, vI k] (po_X10_pot_e T c k) := by
  refine ct_of pn_10 rfl rfl (Nat.le_of_ble_eq_true rfl) (fun hT hav => ?_)
  have hr_c : -2147483648 ≤ c ∧ c ≤ 2147483647 := hav (vI c) (List.mem_cons_of_mem _ List.mem_cons_self)
  have hr_k : -2147483648 ≤ k ∧ k ≤ 2147483647 := hav (vI k) (List.mem_cons_of_mem _ (List.mem_cons_of_mem _ List.mem_cons_self))
  have hz : zX10_pot.2.2.2.1 = some .boolean → ∀ (T' : Zt) (x : Int), po_X10_pot_e T c k T' (some (vI x)) → 0 ≤ x ∧ x ≤ 1 := fun h => by cases h
  have hb_clubs : 0 ≤ T 108 0 2 ∧ T 108 0 2 ≤ 12 := bd_f hT 108 2 tl_8_2 0
  have hgr : 0 ≤ T 101 0 1 ∧ T 101 0 1 ≤ 4 := bd_f hT 101 1 tl_1_1 0
  show J_ zX10_pot T (po_X10_pot_e T c k) 0 0 0 [some (vR 110 0), some (vI c), some (vI k)] [] T
  refine j_blx (F := fX10) tb_X10 (nn_ _) bk_X10_pot_e_0 bs_X10_pot_e_0 hz (fun K hK => ?_)
  refine hK 2 _ [vI c, vR 110 0] T ?_
  refine j_callV (y := yX10_isClub) (Yc := zX10_isClub) (rest := []) [vI c] (ct_X10_isClub (T := T)) cl_X10_137 (qd_c (by decide +kernel)) (nn_ _) rfl (rf_of rfl) (Nat.le_of_ble_eq_true rfl) (Nat.le_of_ble_eq_true rfl) (Nat.le_of_ble_eq_true rfl) rfl ?_
  rintro _ _ ⟨rfl, x1, rfl, hx1⟩
  show J_ zX10_pot T (po_X10_pot_e T c k) 0 0 5 _ [vI x1] T
  refine j_blx (F := fX10) tb_X10 (nn_ _) bk_X10_pot_e_5 bs_X10_pot_e_5 hz (fun K hK => ?_)
  refine And.intro (fun c2 => ?_) (fun c2 => ?_)
  · replace hx1 := hx1.resolve_right (fun z => c2 z.1)
    clear c2
    refine hK 11 _ [] T ?_
    refine j_blx (F := fX10) tb_X10 (nn_ _) bk_X10_pot_e_11 bs_X10_pot_e_11 hz (fun K hK => ?_)
    refine And.intro (fun c3 => ?_) (fun c3 => ?_)
    · refine hK 20 _ [] T ?_
      refine j_blx (F := fX10) tb_X10 (nn_ _) bk_X10_pot_e_20 bs_X10_pot_e_20 hz (fun K hK => ?_)
      refine (show po_X10_pot_e T c k T (some (vI (-3))) from ?_)
      exact ⟨_, rfl, fr_0 _ _, rfl, Or.inl ⟨rfl, Or.inr (Or.inl ⟨by omega, rfl, by omega⟩)⟩⟩
    · refine And.intro (fun c4 => ?_) (fun c4 => ?_)
      · refine hK 23 _ [] T ?_
        refine j_blx (F := fX10) tb_X10 (nn_ _) bk_X10_pot_e_23 bs_X10_pot_e_23 hz (fun K hK => ?_)
        intro b5 b5b
        refine And.intro (fun c6 => ?_) (fun c6 => ?_)
        · refine hK 56 _ [] T ?_
          refine j_blx (F := fX10) tb_X10 (nn_ _) bk_X10_pot_e_56 bs_X10_pot_e_56 hz (fun K hK => ?_)
          refine (show po_X10_pot_e T c k T (some (vI (-4))) from ?_)
          exact ⟨_, rfl, fr_0 _ _, rfl, Or.inl ⟨rfl, Or.inr (Or.inr (Or.inl ⟨by omega, by omega, rfl, by omega⟩))⟩⟩
        · refine ix_i (by omega) ?_
          intro b7 b7b
          refine And.intro (fun c8 => ?_) (fun c8 => ?_)
          · refine hK 56 _ [] T ?_
            refine j_blx (F := fX10) tb_X10 (nn_ _) bk_X10_pot_e_56 bs_X10_pot_e_56 hz (fun K hK => ?_)
            refine (show po_X10_pot_e T c k T (some (vI (-4))) from ?_)
            exact ⟨_, rfl, fr_0 _ _, rfl, Or.inl ⟨rfl, Or.inr (Or.inr (Or.inl ⟨by omega, by omega, rfl, by omega⟩))⟩⟩
          · intro b9 b9b
            refine And.intro (fun c10 => ?_) (fun c10 => ?_)
            · refine hK 59 _ [] T ?_
              refine j_blx (F := fX10) tb_X10 (nn_ _) bk_X10_pot_e_59 bs_X10_pot_e_59 hz (fun K hK => ?_)
              refine ix_i (by omega) ?_
              intro b11 b11b
              intro b12 b12b
              refine And.intro (fun c13 => ?_) (fun c13 => ?_)
              · refine hK 81 _ [] T ?_
                have hlb := lhw_b ((hlo.2.2).resolve_left (by omega))
                refine j_blx (F := fX10) tb_X10 (nn_ _) bk_X10_pot_e_81 bs_X10_pot_e_81 hz (fun K hK => ?_)
                refine hK 87 _ [vI k, vI c, vR 101 0] T ?_
                refine j_callV (y := yX1_putIn) (Yc := zX1_putIn) (rest := []) [vI c, vI k] (ct_X1_putIn_e (T := T) (by omega) (by omega) (by omega) (by omega)) cl_X10_396 (qd_c (by decide +kernel)) (nn_ _) rfl (rf_of rfl) (Nat.le_of_ble_eq_true rfl) (Nat.le_of_ble_eq_true rfl) (Nat.le_of_ble_eq_true rfl) rfl ?_
                rintro U14 _ ⟨rfl, fU14, qU14⟩
                show J_ zX10_pot T (po_X10_pot_e T c k) 0 0 90 _ [] U14
                refine j_blx (F := fX10) tb_X10 (nn_ _) bk_X10_pot_e_90 bs_X10_pot_e_90 hz (fun K hK => ?_)
                refine ix_i (by omega) ?_
                intro b15 b15b
                refine (show po_X10_pot_e T c k U14 (some (vI (U14 430 0 k))) from ?_)
                have y9 := qU14.2.1.1
                exact ⟨_, rfl, fr_t (fr_0 _ _) (fr_s fU14 rfl), rfl, Or.inr ⟨by omega, by omega, by omega, by omega, by omega, qU14⟩⟩
              · refine (show po_X10_pot_e T c k T (some (vI (-5))) from ?_)
                exact ⟨_, rfl, fr_0 _ _, rfl, Or.inl ⟨rfl, Or.inr (Or.inr (Or.inr ⟨by omega, by omega, by omega, rfl, by omega⟩))⟩⟩
            · refine (show po_X10_pot_e T c k T (some (vI (-4))) from ?_)
              exact ⟨_, rfl, fr_0 _ _, rfl, Or.inl ⟨rfl, Or.inr (Or.inr (Or.inl ⟨by omega, by omega, rfl, by omega⟩))⟩⟩
      · refine (show po_X10_pot_e T c k T (some (vI (-3))) from ?_)
        exact ⟨_, rfl, fr_0 _ _, rfl, Or.inl ⟨rfl, Or.inr (Or.inl ⟨by omega, rfl, by omega⟩)⟩⟩
  · replace hx1 := hx1.resolve_left (fun z => absurd (c2.symm.trans z.1) (by decide))
    clear c2
    refine (show po_X10_pot_e T c k T (some (vI (-2))) from ?_)
    exact ⟨_, rfl, fr_0 _ _, rfl, Or.inl ⟨rfl, Or.inl ⟨rfl, by omega⟩⟩⟩
