theorem bk_X10_postpone_f_0 : ck_ fX10 (some .int) cX10_postpone 0 [.aload 0, .iload 1] 2 = true := qck_r (nn_ _) (by decide +kernel)
theorem bs_X10_postpone_f_0 {P : Zt → Option Zv → Prop} (K : Int → Zl → List Zv → Zt → Prop) : sx_ K P [.aload 0, .iload 1] 2 = x_aload 0 (x_iload 1 (K 2)) := ((xe_aload 0).trans (congrArg (x_aload 0) ((xe_iload 1).trans (congrArg (x_iload 1) xe_nil))))
theorem bk_X10_postpone_f_5 : ck_ fX10 (some .int) cX10_postpone 5 [.ifCond .ne 11, .iconst (-2), .ireturn] 11 = true := qck_r (nn_ _) (by decide +kernel)
theorem bs_X10_postpone_f_5 {P : Zt → Option Zv → Prop} (K : Int → Zl → List Zv → Zt → Prop) : sx_ K P [.ifCond .ne 11, .iconst (-2), .ireturn] 11 = x_ifCond .ne 11 K (x_iconst (-2) (x_ireturn P)) := ((xe_ifCond .ne 11).trans (congrArg (x_ifCond .ne 11 K) ((xe_iconst (-2)).trans (congrArg (x_iconst (-2)) (xe_ireturn)))))
theorem bk_X10_postpone_f_11 : ck_ fX10 (some .int) cX10_postpone 11 [.iload 2] 12 = true := qck_r (nn_ _) (by decide +kernel)
theorem bs_X10_postpone_f_11 {P : Zt → Option Zv → Prop} (K : Int → Zl → List Zv → Zt → Prop) : sx_ K P [.iload 2] 12 = x_iload 2 (K 12) := ((xe_iload 2).trans (congrArg (x_iload 2) xe_nil))
theorem bk_X10_postpone_f_15 : ck_ fX10 (some .int) cX10_postpone 15 [.ifCond .eq 29, .iload 2, .aload 0, .tableswitch 0 10 1 #[], .tableswitch 0 8 13 #[], .if_icmp .gt 32, .iconst (-3), .ireturn] 32 = true := qck_r (nn_ _) (by decide +kernel)
theorem bs_X10_postpone_f_15 {P : Zt → Option Zv → Prop} (K : Int → Zl → List Zv → Zt → Prop) : sx_ K P [.ifCond .eq 29, .iload 2, .aload 0, .tableswitch 0 10 1 #[], .tableswitch 0 8 13 #[], .if_icmp .gt 32, .iconst (-3), .ireturn] 32 = x_ifCond .eq 29 K (x_iload 2 (x_aload 0 (x_g1 110 108 (x_g0 108 13 0 999 (x_if_icmp .gt 32 K (x_iconst (-3) (x_ireturn P))))))) := ((xe_ifCond .eq 29).trans (congrArg (x_ifCond .eq 29 K) ((xe_iload 2).trans (congrArg (x_iload 2) ((xe_aload 0).trans (congrArg (x_aload 0) ((xe_g1 (kk := 110) rfl tl_10_1).trans (congrArg (x_g1 110 108) ((xe_g0 (kk := 108) rfl tl_8_13).trans (congrArg (x_g0 108 13 0 999) ((xe_if_icmp .gt 32).trans (congrArg (x_if_icmp .gt 32 K) ((xe_iconst (-3)).trans (congrArg (x_iconst (-3)) (xe_ireturn)))))))))))))))
theorem bk_X10_postpone_f_29 : ck_ fX10 (some .int) cX10_postpone 29 [.iconst (-3), .ireturn] 32 = true := qck_r (nn_ _) (by decide +kernel)
theorem bs_X10_postpone_f_29 {P : Zt → Option Zv → Prop} (K : Int → Zl → List Zv → Zt → Prop) : sx_ K P [.iconst (-3), .ireturn] 32 = x_iconst (-3) (x_ireturn P) := ((xe_iconst (-3)).trans (congrArg (x_iconst (-3)) (xe_ireturn)))
theorem bk_X10_postpone_f_32 : ck_ fX10 (some .int) cX10_postpone 32 [.aload 0, .tableswitch 0 10 2 #[], .tableswitch 0 6 3 #[], .iload 1, .aaload, .astore 3, .aload 3] 43 = true := qck_r (nn_ _) (by decide +kernel)
theorem bs_X10_postpone_f_32 {P : Zt → Option Zv → Prop} (K : Int → Zl → List Zv → Zt → Prop) : sx_ K P [.aload 0, .tableswitch 0 10 2 #[], .tableswitch 0 6 3 #[], .iload 1, .aaload, .astore 3, .aload 3] 43 = x_aload 0 (x_g1 110 106 (x_g1 106 523 (x_iload 1 (x_aaload (x_astore 3 (x_aload 3 (K 43))))))) := ((xe_aload 0).trans (congrArg (x_aload 0) ((xe_g1 (kk := 110) rfl tl_10_2).trans (congrArg (x_g1 110 106) ((xe_g1 (kk := 106) rfl tl_6_3).trans (congrArg (x_g1 106 523) ((xe_iload 1).trans (congrArg (x_iload 1) ((xe_aaload).trans (congrArg (x_aaload) ((xe_astore 3).trans (congrArg (x_astore 3) ((xe_aload 3).trans (congrArg (x_aload 3) xe_nil))))))))))))))
theorem bk_X10_postpone_f_46 : ck_ fX10 (some .int) cX10_postpone 46 [.ifCond .ne 57, .aload 3, .tableswitch 0 2 5 #[], .iload 2, .if_icmp .ne 60, .iconst (-4), .ireturn] 60 = true := qck_r (nn_ _) (by decide +kernel)
theorem bs_X10_postpone_f_46 {P : Zt → Option Zv → Prop} (K : Int → Zl → List Zv → Zt → Prop) : sx_ K P [.ifCond .ne 57, .aload 3, .tableswitch 0 2 5 #[], .iload 2, .if_icmp .ne 60, .iconst (-4), .ireturn] 60 = x_ifCond .ne 57 K (x_aload 3 (x_g0 102 5 0 999 (x_iload 2 (x_if_icmp .ne 60 K (x_iconst (-4) (x_ireturn P)))))) := ((xe_ifCond .ne 57).trans (congrArg (x_ifCond .ne 57 K) ((xe_aload 3).trans (congrArg (x_aload 3) ((xe_g0 (kk := 102) rfl tl_2_5).trans (congrArg (x_g0 102 5 0 999) ((xe_iload 2).trans (congrArg (x_iload 2) ((xe_if_icmp .ne 60).trans (congrArg (x_if_icmp .ne 60 K) ((xe_iconst (-4)).trans (congrArg (x_iconst (-4)) (xe_ireturn)))))))))))))
theorem bk_X10_postpone_f_57 : ck_ fX10 (some .int) cX10_postpone 57 [.iconst (-4), .ireturn] 60 = true := qck_r (nn_ _) (by decide +kernel)
theorem bs_X10_postpone_f_57 {P : Zt → Option Zv → Prop} (K : Int → Zl → List Zv → Zt → Prop) : sx_ K P [.iconst (-4), .ireturn] 60 = x_iconst (-4) (x_ireturn P) := ((xe_iconst (-4)).trans (congrArg (x_iconst (-4)) (xe_ireturn)))
theorem bk_X10_postpone_f_60 : ck_ fX10 (some .int) cX10_postpone 60 [.aload 0, .tableswitch 0 10 2 #[], .aload 3, .iload 2] 66 = true := qck_r (nn_ _) (by decide +kernel)
theorem bs_X10_postpone_f_60 {P : Zt → Option Zv → Prop} (K : Int → Zl → List Zv → Zt → Prop) : sx_ K P [.aload 0, .tableswitch 0 10 2 #[], .aload 3, .iload 2] 66 = x_aload 0 (x_g1 110 106 (x_aload 3 (x_iload 2 (K 66)))) := ((xe_aload 0).trans (congrArg (x_aload 0) ((xe_g1 (kk := 110) rfl tl_10_2).trans (congrArg (x_g1 110 106) ((xe_aload 3).trans (congrArg (x_aload 3) ((xe_iload 2).trans (congrArg (x_iload 2) xe_nil))))))))
theorem bk_X10_postpone_f_69 : ck_ fX10 (some .int) cX10_postpone 69 [.ireturn] 70 = true := qck_r (nn_ _) (by decide +kernel)
theorem bs_X10_postpone_f_69 {P : Zt → Option Zv → Prop} (K : Int → Zl → List Zv → Zt → Prop) : sx_ K P [.ireturn] 70 = x_ireturn P := (xe_ireturn)
abbrev po_X10_postpone_f (T : Zt) (m d : Int) : Zt → Option Zv → Prop := fun T' r => ∃ x : Int, r = some (vI x) ∧ fr_ [(535, []), (534, []), (102, [5]), (533, []), (531, []), (106, [12])] T T' ∧ ((x = -2 ∧ ¬ (0 ≤ m ∧ m < T 106 0 4) ∧ T = T') ∨ ((0 ≤ m ∧ m < T 106 0 4) ∧ ((x = -3 ∧ ¬ (T 108 0 13 < d ∧ d ≤ 999 ∧ 0 ≤ d) ∧ T = T') ∨ ((T 108 0 13 < d ∧ d ≤ 999 ∧ 0 ≤ d) ∧ ((x = -4 ∧ ¬ ((T 102 m 6 = -1 ∧ T 102 m 10 = 0) ∧ T 102 m 5 ≠ d) ∧ T = T') ∨ (((T 102 m 6 = -1 ∧ T 102 m 10 = 0) ∧ T 102 m 5 ≠ d) ∧ PTO_ T T' m d x))))))
set_option maxHeartbeats 4000000 in
theorem ct_X10_postpone_f {T : Zt} {m d : Int} (hka : KA_ T) (hkm : KM_ T) : Ct_ yX10_postpone zX10_postpone T [vR 110 0, vI m, vI d] (po_X10_postpone_f T m d) := by
  refine ct_of pn_10 rfl rfl (Nat.le_of_ble_eq_true rfl) (fun hT hav => ?_)
  have hr_m : -2147483648 ≤ m ∧ m ≤ 2147483647 := hav (vI m) (List.mem_cons_of_mem _ List.mem_cons_self)
  have hr_d : -2147483648 ≤ d ∧ d ≤ 2147483647 := hav (vI d) (List.mem_cons_of_mem _ (List.mem_cons_of_mem _ List.mem_cons_self))
  have hz : zX10_postpone.2.2.2.1 = some .boolean → ∀ (T' : Zt) (x : Int), po_X10_postpone_f T m d T' (some (vI x)) → 0 ≤ x ∧ x ≤ 1 := fun h => by cases h
  have hb_matchCount : 0 ≤ T 106 0 4 ∧ T 106 0 4 ≤ 400 := bd_f hT 106 4 tl_6_4 0
  show J_ zX10_postpone T (po_X10_postpone_f T m d) 0 0 0 [some (vR 110 0), some (vI m), some (vI d), none] [] T
  refine j_blx (F := fX10) tb_X10 (nn_ _) bk_X10_postpone_f_0 bs_X10_postpone_f_0 hz (fun K hK => ?_)
  refine hK 2 _ [vI m, vR 110 0] T ?_
  refine j_callV (y := yX10_isMatch) (Yc := zX10_isMatch) (rest := []) [vI m] (ct_X10_isMatch (T := T)) cl_X10_195 (qd_c (by decide +kernel)) (nn_ _) rfl (rf_of rfl) (Nat.le_of_ble_eq_true rfl) (Nat.le_of_ble_eq_true rfl) (Nat.le_of_ble_eq_true rfl) rfl ?_
  rintro _ _ ⟨rfl, x1, rfl, hx1⟩
  show J_ zX10_postpone T (po_X10_postpone_f T m d) 0 0 5 _ [vI x1] T
  refine j_blx (F := fX10) tb_X10 (nn_ _) bk_X10_postpone_f_5 bs_X10_postpone_f_5 hz (fun K hK => ?_)
  refine And.intro (fun c2 => ?_) (fun c2 => ?_)
  · replace hx1 := hx1.resolve_right (fun z => c2 z.1)
    clear c2
    refine hK 11 _ [] T ?_
    refine j_blx (F := fX10) tb_X10 (nn_ _) bk_X10_postpone_f_11 bs_X10_postpone_f_11 hz (fun K hK => ?_)
    refine hK 12 _ [vI d] T ?_
    refine j_callS (y := yX10_isDay) (Yc := zX10_isDay) (rest := []) [vI d] (ct_X10_isDay (T := T)) cl_X10_140 (qd_c (by decide +kernel)) (nn_ _) rfl (rf_of rfl) (Nat.le_of_ble_eq_true rfl) (Nat.le_of_ble_eq_true rfl) (Nat.le_of_ble_eq_true rfl) rfl ?_
    rintro _ _ ⟨rfl, x3, rfl, hx3⟩
    show J_ zX10_postpone T (po_X10_postpone_f T m d) 0 0 15 _ [vI x3] T
    refine j_blx (F := fX10) tb_X10 (nn_ _) bk_X10_postpone_f_15 bs_X10_postpone_f_15 hz (fun K hK => ?_)
    refine And.intro (fun c4 => ?_) (fun c4 => ?_)
    · replace hx3 := hx3.resolve_left (fun z => absurd (c4.symm.trans z.1) (by decide))
      clear c4
      refine hK 29 _ [] T ?_
      refine j_blx (F := fX10) tb_X10 (nn_ _) bk_X10_postpone_f_29 bs_X10_postpone_f_29 hz (fun K hK => ?_)
      refine (show po_X10_postpone_f T m d T (some (vI (-3))) from ?_)
      exact ⟨_, rfl, fr_0 _ _, Or.inr ⟨by omega, Or.inl ⟨rfl, by omega, rfl⟩⟩⟩
    · replace hx3 := hx3.resolve_right (fun z => c4 z.1)
      clear c4
      intro b5 b5b
      refine And.intro (fun c6 => ?_) (fun c6 => ?_)
      · refine hK 32 _ [] T ?_
        refine j_blx (F := fX10) tb_X10 (nn_ _) bk_X10_postpone_f_32 bs_X10_postpone_f_32 hz (fun K hK => ?_)
        refine ix_i (by omega) ?_
        refine And.intro (fun c7 => ?_) (fun c7 => ?_)
        · exact absurd (show T 523 0 (m) = 0 from Int.le_antisymm (by omega) (by omega)) (hka.2 _ (by omega) (by omega))
        · refine hK 43 [some (vR 110 0), some (vI m), some (vI d), some (vR 102 m)] [vR 102 m] T ?_
          refine j_callV (y := yX2_phaseOfLife) (Yc := zX2_phaseOfLife) (rest := []) [] (ct_X2_phaseOfLife_e (T := T)) cl_X10_223 (qd_c (by decide +kernel)) (nn_ _) rfl (rf_of rfl) (Nat.le_of_ble_eq_true rfl) (Nat.le_of_ble_eq_true rfl) (Nat.le_of_ble_eq_true rfl) rfl ?_
          rintro _ _ ⟨rfl, x8, rfl, hx8⟩
          show J_ zX10_postpone T (po_X10_postpone_f T m d) 0 0 46 _ [vI x8] T
          refine j_blx (F := fX10) tb_X10 (nn_ _) bk_X10_postpone_f_46 bs_X10_postpone_f_46 hz (fun K hK => ?_)
          refine And.intro (fun c9 => ?_) (fun c9 => ?_)
          · refine hK 57 _ [] T ?_
            refine j_blx (F := fX10) tb_X10 (nn_ _) bk_X10_postpone_f_57 bs_X10_postpone_f_57 hz (fun K hK => ?_)
            refine (show po_X10_postpone_f T m d T (some (vI (-4))) from ?_)
            exact ⟨_, rfl, fr_0 _ _, Or.inr ⟨by omega, Or.inr ⟨by omega, Or.inl ⟨rfl, by omega, rfl⟩⟩⟩⟩
          · intro b10 b10b
            refine And.intro (fun c11 => ?_) (fun c11 => ?_)
            · refine hK 60 _ [] T ?_
              refine j_blx (F := fX10) tb_X10 (nn_ _) bk_X10_postpone_f_60 bs_X10_postpone_f_60 hz (fun K hK => ?_)
              refine hK 66 _ [vI d, vR 102 m, vR 106 0] T ?_
              refine j_callV (y := yX6_putOff) (Yc := zX6_putOff) (rest := []) [vR 102 m, vI d] (ct_X6_putOff_f (T := T) hka hkm (by omega) (by omega) (by omega)) cl_X10_234 (qd_c (by decide +kernel)) (nn_ _) rfl (rf_of rfl) (Nat.le_of_ble_eq_true rfl) (Nat.le_of_ble_eq_true rfl) (Nat.le_of_ble_eq_true rfl) rfl ?_
              rintro U12 _ ⟨x13, rfl, fU12, gU12⟩
              show J_ zX10_postpone T (po_X10_postpone_f T m d) 0 0 69 _ [vI x13] U12
              refine j_blx (F := fX10) tb_X10 (nn_ _) bk_X10_postpone_f_69 bs_X10_postpone_f_69 hz (fun K hK => ?_)
              refine (show po_X10_postpone_f T m d U12 (some (vI x13)) from ?_)
              exact ⟨_, rfl, fr_t (fr_0 _ _) (fr_s fU12 rfl), Or.inr ⟨by omega, Or.inr ⟨by omega, Or.inr ⟨by omega, gU12⟩⟩⟩⟩
            · refine (show po_X10_postpone_f T m d T (some (vI (-4))) from ?_)
              exact ⟨_, rfl, fr_0 _ _, Or.inr ⟨by omega, Or.inr ⟨by omega, Or.inl ⟨rfl, by omega, rfl⟩⟩⟩⟩
      · refine (show po_X10_postpone_f T m d T (some (vI (-3))) from ?_)
        exact ⟨_, rfl, fr_0 _ _, Or.inr ⟨by omega, Or.inl ⟨rfl, by omega, rfl⟩⟩⟩
  · replace hx1 := hx1.resolve_left (fun z => absurd (c2.symm.trans z.1) (by decide))
    clear c2
    refine (show po_X10_postpone_f T m d T (some (vI (-2))) from ?_)
    exact ⟨_, rfl, fr_0 _ _, Or.inl ⟨rfl, by omega, rfl⟩⟩
