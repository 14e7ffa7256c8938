theorem bk_X10_postpone_f_0 : ck_ fX10 (some .int) cX10_postpone 0 [.aload 0, .iload 1] 2 = true := qck_r (nn_ _) (by decide +kernel)
theorem bs_X10_postpone_f_0 {P : Zt → Option Zv → Prop} (K : Int → Zl → List Zv → Zt → Prop) : sx_ K P [.aload 0, .iload 1] 2 = x_aload 0 (x_iload 1 (K 2)) := ((xe_aload 0).trans (congrArg (x_aload 0) ((xe_iload 1).trans (congrArg (x_iload 1) xe_nil))))
theorem bk_X10_postpone_f_5 : ck_ fX10 (some .int) cX10_postpone 5 [.ifCond .ne 11, .iconst (-2), .ireturn] 11 = true := qck_r (nn_ _) (by decide +kernel)
theorem bs_X10_postpone_f_5 {P : Zt → Option Zv → Prop} (K : Int → Zl → List Zv → Zt → Prop) : sx_ K P [.ifCond .ne 11, .iconst (-2), .ireturn] 11 = x_ifCond .ne 11 K (x_iconst (-2) (x_ireturn P)) := ((xe_ifCond .ne 11).trans (congrArg (x_ifCond .ne 11 K) ((xe_iconst (-2)).trans (congrArg (x_iconst (-2)) (xe_ireturn)))))
theorem bk_X10_postpone_f_11 : ck_ fX10 (some .int) cX10_postpone 11 [.iload 2] 12 = true := qck_r (nn_ _) (by decide +kernel)
theorem bs_X10_postpone_f_11 {P : Zt → Option Zv → Prop} (K : Int → Zl → List Zv → Zt → Prop) : sx_ K P [.iload 2] 12 = x_iload 2 (K 12) := ((xe_iload 2).trans (congrArg (x_iload 2) xe_nil))
theorem bk_X10_postpone_f_15 : ck_ fX10 (some .int) cX10_postpone 15 [.ifCond .eq 29, .iload 2, .aload 0, .tableswitch 0 10 1 #[], .tableswitch 0 8 13 #[], .if_icmp .gt 32, .iconst (-3), .ireturn] 32 = true := qck_r (nn_ _) (by decide +kernel)
theorem bs_X10_postpone_f_15 {P : Zt → Option Zv → Prop} (K : Int → Zl → List Zv → Zt → Prop) : sx_ K P [.ifCond .eq 29, .iload 2, .aload 0, .tableswitch 0 10 1 #[], .tableswitch 0 8 13 #[], .if_icmp .gt 32, .iconst (-3), .ireturn] 32 = x_ifCond .eq 29 K (x_iload 2 (x_aload 0 (x_g1 110 108 (x_g0 108 13 0 999 (x_if_icmp .gt 32 K (x_iconst (-3) (x_ireturn P))))))) := ((xe_ifCond .eq 29).trans (congrArg (x_ifCond .eq 29 K) ((xe_iload 2).trans (congrArg (x_iload 2) ((xe_aload 0).trans (congrArg (x_aload 0) ((xe_g1 (kk := 110) rfl tl_10_1).trans (congrArg (x_g1 110 108) ((xe_g0 (kk := 108) rfl tl_8_13).trans (congrArg (x_g0 108 13 0 999) ((xe_if_icmp .gt 32).trans (congrArg (x_if_icmp .gt 32 K) ((xe_iconst (-3)).trans (congrArg (x_iconst (-3)) (xe_ireturn)))))))))))))))
theorem bk_X10_postpone_f_29 : ck_ fX10 (some .int) cX10_postpone 29 [.iconst (-3), .ireturn] 32 = true := qck_r (nn_ _) (by decide +kernel)
theorem bs_X10_postpone_f_29 {P : Zt → Option Zv → Prop} (K : Int → Zl → List Zv → Zt → Prop) : sx_ K P [.iconst (-3), .ireturn] 32 = x_iconst (-3) (x_ireturn P) := ((xe_iconst (-3)).trans (congrArg (x_iconst (-3)) (xe_ireturn)))
theorem bk_X10_postpone_f_32 : ck_ fX10 (some .int) cX10_postpone 32 [.aload 0, .tableswitch 0 10 2 #[], .tableswitch 0 6 3 #[], .iload 1, .aaload, .astore 3, .aload 3] 43 = true := qck_r (nn_ _) (by decide +kernel)
theorem bs_X10_postpone_f_32 {P : Zt → Option Zv → Prop} (K : Int → Zl → List Zv → Zt → Prop) : sx_ K P [.aload 0, .tableswitch 0 10 2 #[], .tableswitch 0 6 3 #[], .iload 1, .aaload, .astore 3, .aload 3] 43 = x_aload 0 (x_g1 110 106 (x_g1 106 523 (x_iload 1 (x_aaload (x_astore 3 (x_aload 3 (K 43))))))) := ((xe_aload 0).trans (congrArg (x_aload 0) ((xe_g1 (kk := 110) rfl tl_10_2).trans (congrArg (x_g1 110 106) ((xe_g1 (kk := 106) rfl tl_6_3).trans (congrArg (x_g1 106 523) ((xe_iload 1).trans (congrArg (x_iload 1) ((xe_aaload).trans (congrArg (x_aaload) ((xe_astore 3).trans (congrArg (x_astore 3) ((xe_aload 3).trans (congrArg (x_aload 3) xe_nil))))))))))))))
theorem bk_X10_postpone_f_46 : ck_ fX10 (some .int) cX10_postpone 46 [.ifCond .ne 57, .aload 3, .tableswitch 0 2 5 #[], .iload 2, .if_icmp .ne 60, .iconst (-4), .ireturn] 60 = true := qck_r (nn_ _) (by decide +kernel)
theorem bs_X10_postpone_f_46 {P : Zt → Option Zv → Prop} (K : Int → Zl → List Zv → Zt → Prop) : sx_ K P [.ifCond .ne 57, .aload 3, .tableswitch 0 2 5 #[], .iload 2, .if_icmp .ne 60, .iconst (-4), .ireturn] 60 = x_ifCond .ne 57 K (x_aload 3 (x_g0 102 5 0 999 (x_iload 2 (x_if_icmp .ne 60 K (x_iconst (-4) (x_ireturn P)))))) := ((xe_ifCond .ne 57).trans (congrArg (x_ifCond .ne 57 K) ((xe_aload 3).trans (congrArg (x_aload 3) ((xe_g0 (kk := 102) rfl tl_2_5).trans (congrArg (x_g0 102 5 0 999) ((xe_iload 2).trans (congrArg (x_iload 2) ((xe_if_icmp .ne 60).trans (congrArg (x_if_icmp .ne 60 K) ((xe_iconst (-4)).trans (congrArg (x_iconst (-4)) (xe_ireturn)))))))))))))
theorem bk_X10_postpone_f_57 : ck_ fX10 (some .int) cX10_postpone 57 [.iconst (-4), .ireturn] 60 = true := qck_r (nn_ _) (by decide +kernel)
theorem bs_X10_postpone_f_57 {P : Zt → Option Zv → Prop} (K : Int → Zl → List Zv → Zt → Prop) : sx_ K P [.iconst (-4), .ireturn] 60 = x_iconst (-4) (x_ireturn P) := ((xe_iconst (-4)).trans (congrArg (x_iconst (-4)) (xe_ireturn)))
theorem bk_X10_postpone_f_60 : ck_ fX10 (some .int) cX10_postpone 60 [.aload 0, .tableswitch 0 10 2 #[], .aload 3, .iload 2] 66 = true := qck_r (nn_ _) (by decide +kernel)
theorem bs_X10_postpone_f_60 {P : Zt → Option Zv → Prop} (K : Int → Zl → List Zv → Zt → Prop) : sx_ K P [.aload 0, .tableswitch 0 10 2 #[], .aload 3, .iload 2] 66 = x_aload 0 (x_g1 110 106 (x_aload 3 (x_iload 2 (K 66)))) := ((xe_aload 0).trans (congrArg (x_aload 0) ((xe_g1 (kk := 110) rfl tl_10_2).trans (congrArg (x_g1 110 106) ((xe_aload 3).trans (congrArg (x_aload 3) ((xe_iload 2).trans (congrArg (x_iload 2) xe_nil))))))))
theorem bk_X10_postpone_f_69 : ck_ fX10 (some .int) cX10_postpone 69 [.ireturn] 70 = true := qck_r (nn_ _) (by decide +kernel)
theorem bs_X10_postpone_f_69 {P : Zt → Option Zv → Prop} (K : Int → Zl → List Zv → Zt → Prop) : sx_ K P [.ireturn] 70 = x_ireturn P := (xe_ireturn)
abbrev po_X10_postpone_f (T : Zt) (m d : Int) : Zt → Option Zv → Prop := fun T' r => ∃ x : Int, r = some (vI x) ∧ fr_ [(535, []), (534, []), (102, [5]), (533, []), (531, []), (106, [12])] T T' ∧ ((x = -2 ∧ ¬ (0 ≤ m ∧ m < T 106 0 4) ∧ T = T') ∨ ((0 ≤ m ∧ m < T 106 0 4) ∧ ((x = -3 ∧ ¬ (T 108 0 13 < d ∧ d ≤ 999 ∧ 0 ≤ d) ∧ T = T') ∨ ((T 108 0 13 < d ∧ d ≤ 999 ∧ 0 ≤ d) ∧ ((x = -4 ∧ ¬ ((T 102 m 6 = -1 ∧ T 102 m 10 = 0) ∧ T 102 m 5 ≠ d) ∧ T = T') ∨ (((T 102 m 6 = -1 ∧ T 102 m 10 = 0) ∧ T 102 m 5 ≠ d) ∧ PTO_ T T' m d x))))))
set_option maxHeartbeats 4000000 in
theorem ct_X10_postpone_f {T : Zt} {m d : Int} (hka : KA_ T) (hkm : KM_ T) : Ct_ yX10_postpone zX10_postpone T [vR 110 0, vI m, vI d] (po_X10_postpone_f T m d) := by
  refine ct_of pn_10 rfl rfl (Nat.le_of_ble_eq_true rfl) (fun hT hav => ?_)
  have hr_m : -2147483648 ≤ m ∧ m ≤ 2147483647 := hav (vI m) (List.mem_cons_of_mem _ List.mem_cons_self)
  have hr_d : -2147483648 ≤ d ∧ d ≤ 2147483647 := hav (vI d) (List.mem_cons_of_mem _ (List.mem_cons_of_mem _ List.mem_cons_self))
  have hz : zX10_postpone.2.2.2.1 = some .boolean → ∀ (T' : Zt) (x : Int), po_X10_postpone_f T m d T' (some (vI x)) → 0 ≤ x ∧ x ≤ 1 := fun h => by cases h
  have hb_matchCount : 0 ≤ T 106 0 4 ∧ T 106 0 4 ≤ 400 := bd_f hT 106 4 tl_6_4 0
  show J_ zX10_postpone T (po_X10_postpone_f T m d) 0 0 0 [some (vR 110 0), some (vI m), some (vI d), none] [] T
  refine j_blx (F := fX10) tb_X10 (nn_ _) bk_X10_postpone_f_0 bs_X10_postpone_f_0 hz (fun K hK => ?_)
  refine hK 2 _ [vI m, vR 110 0] T ?_
  refine j_callV (y := yX10_isMatch) (Yc := zX10_isMatch) (rest := []) [vI m] (ct_X10_isMatch (T := T)) cl_X10_195 (qd_c (by decide +kernel)) (nn_ _) rfl (rf_of rfl) (Nat.le_of_ble_eq_true rfl) (Nat.le_of_ble_eq_true rfl) (Nat.le_of_ble_eq_true rfl) rfl ?_
  rintro _ _ ⟨rfl, x1, rfl, hx1⟩
  show J_ zX10_postpone T (po_X10_postpone_f T m d) 0 0 5 _ [vI x1] T
  refine j_blx (F := fX10) tb_X10 (nn_ _) bk_X10_postpone_f_5 bs_X10_postpone_f_5 hz (fun K hK => ?_)
  refine And.intro (fun c2 => ?_) (fun c2 => ?_)
  · replace hx1 := hx1.resolve_right (fun z => c2 z.1)
    clear c2
    refine hK 11 _ [] T ?_
    refine j_blx (F := fX10) tb_X10 (nn_ _) bk_X10_postpone_f_11 bs_X10_postpone_f_11 hz (fun K hK => ?_)
    refine hK 12 _ [vI d] T ?_
    refine j_callS (y := yX10_isDay) (Yc := zX10_isDay) (rest := []) [vI d] (ct_X10_isDay (T := T)) cl_X10_140 (qd_c (by decide +kernel)) (nn_ _) rfl (rf_of rfl) (Nat.le_of_ble_eq_true rfl) (Nat.le_of_ble_eq_true rfl) (Nat.le_of_ble_eq_true rfl) rfl ?_
    rintro _ _ ⟨rfl, x3, rfl, hx3⟩
    show J_ zX10_postpone T (po_X10_postpone_f T m d) 0 0 15 _ [vI x3] T
    refine j_blx (F := fX10) tb_X10 (nn_ _) bk_X10_postpone_f_15 bs_X10_postpone_f_15 hz (fun K hK => ?_)
    refine And.intro (fun c4 => ?_) (fun c4 => ?_)
    · replace hx3 := hx3.resolve_left (fun z => absurd (c4.symm.trans z.1) (by decide))
      clear c4
      refine hK 29 _ [] T ?_
      refine j_blx (F := fX10) tb_X10 (nn_ _) bk_X10_postpone_f_29 bs_X10_postpone_f_29 hz (fun K hK => ?_)
      refine (show po_X10_postpone_f T m d T (some (vI (-3))) from ?_)
      exact ⟨_, rfl, fr_0 _ _, Or.inr ⟨by omega, Or.inl ⟨rfl, by omega, rfl⟩⟩⟩
    · replace hx3 := hx3.resolve_right (fun z => c4 z.1)
      clear c4
      intro b5 b5b
      refine And.intro (fun c6 => ?_) (fun c6 => ?_)
      · refine hK 32 _ [] T ?_
        refine j_blx (F := fX10) tb_X10 (nn_ _) bk_X10_postpone_f_32 bs_X10_postpone_f_32 hz (fun K hK => ?_)
        refine ix_i (by omega) ?_
        refine And.intro (fun c7 => ?_) (fun c7 => ?_)
        · exact absurd (show T 523 0 (m) = 0 from Int.le_antisymm (by omega) (by omega)) (hka.2 _ (by omega) (by omega))
        · refine hK 43 [some (vR 110 0), some (vI m), some (vI d), some (vR 102 m)] [vR 102 m] T ?_
          refine j_callV (y := yX2_phaseOfLife) (Yc := zX2_phaseOfLife) (rest := []) [] (ct_X2_phaseOfLife_e (T := T)) cl_X10_223 (qd_c (by decide +kernel)) (nn_ _) rfl (rf_of rfl) (Nat.le_of_ble_eq_true rfl) (Nat.le_of_ble_eq_true rfl) (Nat.le_of_ble_eq_true rfl) rfl ?_
          rintro _ _ ⟨rfl, x8, rfl, hx8⟩
          show J_ zX10_postpone T (po_X10_postpone_f T m d) 0 0 46 _ [vI x8] T
          refine j_blx (F := fX10) tb_X10 (nn_ _) bk_X10_postpone_f_46 bs_X10_postpone_f_46 hz (fun K hK => ?_)
          refine And.intro (fun c9 => ?_) (fun c9 => ?_)
          · refine hK 57 _ [] T ?_
            refine j_blx (F := fX10) tb_X10 (nn_ _) bk_X10_postpone_f_57 bs_X10_postpone_f_57 hz (fun K hK => ?_)
            refine (show po_X10_postpone_f T m d T (some (vI (-4))) from ?_)
            exact ⟨_, rfl, fr_0 _ _, Or.inr ⟨by omega, Or.inr ⟨by omega, Or.inl ⟨rfl, by omega, rfl⟩⟩⟩⟩
          · intro b10 b10b
            refine And.intro (fun c11 => ?_) (fun c11 => ?_)
            · refine hK 60 _ [] T ?_
              refine j_blx (F := fX10) tb_X10 (nn_ _) bk_X10_postpone_f_60 bs_X10_postpone_f_60 hz (fun K hK => ?_)
              refine hK 66 _ [vI d, vR 102 m, vR 106 0] T ?_
              refine j_callV (y := yX6_putOff) (Yc := zX6_putOff) (rest := []) [vR 102 m, vI d] (ct_X6_putOff_f (T := T) hka hkm (by omega) (by omega) (by omega)) cl_X10_234 (qd_c (by decide +kernel)) (nn_ _) rfl (rf_of rfl) (Nat.le_of_ble_eq_true rfl) (Nat.le_of_ble_eq_true rfl) (Nat.le_of_ble_eq_true rfl) rfl ?_
              rintro U12 _ ⟨x13, rfl, fU12, gU12⟩
              show J_ zX10_postpone T (po_X10_postpone_f T m d) 0 0 69 _ [vI x13] U12
              refine j_blx (F := fX10) tb_X10 (nn_ _) bk_X10_postpone_f_69 bs_X10_postpone_f_69 hz (fun K hK => ?_)
              refine (show po_X10_postpone_f T m d U12 (some (vI x13)) from ?_)
              exact ⟨_, rfl, fr_t (fr_0 _ _) (fr_s fU12 rfl), Or.inr ⟨by omega, Or.inr ⟨by omega, Or.inr ⟨by omega, gU12⟩⟩⟩⟩
            · refine (show po_X10_postpone_f T m d T (some (vI (-4))) from ?_)
              exact ⟨_, rfl, fr_0 _ _, Or.inr ⟨by omega, Or.inr ⟨by omega, Or.inl ⟨rfl, by omega, rfl⟩⟩⟩⟩
      · refine (show po_X10_postpone_f T m d T (some (vI (-3))) from ?_)
        exact ⟨_, rfl, fr_0 _ _, Or.inr ⟨by omega, Or.inl ⟨rfl, by omega, rfl⟩⟩⟩
  · replace hx1 := hx1.resolve_left (fun z => absurd (c2.symm.trans z.1) (by decide))
    clear c2
    refine (show po_X10_postpone_f T m d T (some (vI (-2))) from ?_)
    exact ⟨_, rfl, fr_0 _ _, Or.inl ⟨rfl, by omega, rfl⟩⟩
theorem bk_X11_shareClub_f_0 : ck_ fX11 (some .boolean) cX11_shareClub 0 [.aload 0, .tableswitch 0 11 32 #[], .iload 1, .iaload, .aload 0, .tableswitch 0 11 32 #[], .iload 2, .iaload, .if_icmp .eq 60, .aload 0, .tableswitch 0 11 32 #[], .iload 1, .iaload, .aload 0, .tableswitch 0 11 33 #[], .iload 2, .iaload, .if_icmp .eq 60, .aload 0, .tableswitch 0 11 33 #[], .iload 1, .iaload, .aload 0, .tableswitch 0 11 32 #[], .iload 2, .iaload, .if_icmp .eq 60, .aload 0, .tableswitch 0 11 33 #[], .iload 1, .iaload, .aload 0, .tableswitch 0 11 33 #[], .iload 2, .iaload, .if_icmp .ne 64, .iconst 1, .goto 65] 64 = true := qck_r (nn_ _) (by decide +kernel)
theorem bs_X11_shareClub_f_0 {P : Zt → Option Zv → Prop} (K : Int → Zl → List Zv → Zt → Prop) : sx_ K P [.aload 0, .tableswitch 0 11 32 #[], .iload 1, .iaload, .aload 0, .tableswitch 0 11 32 #[], .iload 2, .iaload, .if_icmp .eq 60, .aload 0, .tableswitch 0 11 32 #[], .iload 1, .iaload, .aload 0, .tableswitch 0 11 33 #[], .iload 2, .iaload, .if_icmp .eq 60, .aload 0, .tableswitch 0 11 33 #[], .iload 1, .iaload, .aload 0, .tableswitch 0 11 32 #[], .iload 2, .iaload, .if_icmp .eq 60, .aload 0, .tableswitch 0 11 33 #[], .iload 1, .iaload, .aload 0, .tableswitch 0 11 33 #[], .iload 2, .iaload, .if_icmp .ne 64, .iconst 1, .goto 65] 64 = x_aload 0 (x_g1 111 232 (x_iload 1 (x_iaload (x_aload 0 (x_g1 111 232 (x_iload 2 (x_iaload (x_if_icmp .eq 60 K (x_aload 0 (x_g1 111 232 (x_iload 1 (x_iaload (x_aload 0 (x_g1 111 233 (x_iload 2 (x_iaload (x_if_icmp .eq 60 K (x_aload 0 (x_g1 111 233 (x_iload 1 (x_iaload (x_aload 0 (x_g1 111 232 (x_iload 2 (x_iaload (x_if_icmp .eq 60 K (x_aload 0 (x_g1 111 233 (x_iload 1 (x_iaload (x_aload 0 (x_g1 111 233 (x_iload 2 (x_iaload (x_if_icmp .ne 64 K (x_iconst 1 (x_goto 65 K))))))))))))))))))))))))))))))))))))) := ((xe_aload 0).trans (congrArg (x_aload 0) ((xe_g1 (kk := 111) rfl tl_11_32).trans (congrArg (x_g1 111 232) ((xe_iload 1).trans (congrArg (x_iload 1) ((xe_iaload).trans (congrArg (x_iaload) ((xe_aload 0).trans (congrArg (x_aload 0) ((xe_g1 (kk := 111) rfl tl_11_32).trans (congrArg (x_g1 111 232) ((xe_iload 2).trans (congrArg (x_iload 2) ((xe_iaload).trans (congrArg (x_iaload) ((xe_if_icmp .eq 60).trans (congrArg (x_if_icmp .eq 60 K) ((xe_aload 0).trans (congrArg (x_aload 0) ((xe_g1 (kk := 111) rfl tl_11_32).trans (congrArg (x_g1 111 232) ((xe_iload 1).trans (congrArg (x_iload 1) ((xe_iaload).trans (congrArg (x_iaload) ((xe_aload 0).trans (congrArg (x_aload 0) ((xe_g1 (kk := 111) rfl tl_11_33).trans (congrArg (x_g1 111 233) ((xe_iload 2).trans (congrArg (x_iload 2) ((xe_iaload).trans (congrArg (x_iaload) ((xe_if_icmp .eq 60).trans (congrArg (x_if_icmp .eq 60 K) ((xe_aload 0).trans (congrArg (x_aload 0) ((xe_g1 (kk := 111) rfl tl_11_33).trans (congrArg (x_g1 111 233) ((xe_iload 1).trans (congrArg (x_iload 1) ((xe_iaload).trans (congrArg (x_iaload) ((xe_aload 0).trans (congrArg (x_aload 0) ((xe_g1 (kk := 111) rfl tl_11_32).trans (congrArg (x_g1 111 232) ((xe_iload 2).trans (congrArg (x_iload 2) ((xe_iaload).trans (congrArg (x_iaload) ((xe_if_icmp .eq 60).trans (congrArg (x_if_icmp .eq 60 K) ((xe_aload 0).trans (congrArg (x_aload 0) ((xe_g1 (kk := 111) rfl tl_11_33).trans (congrArg (x_g1 111 233) ((xe_iload 1).trans (congrArg (x_iload 1) ((xe_iaload).trans (congrArg (x_iaload) ((xe_aload 0).trans (congrArg (x_aload 0) ((xe_g1 (kk := 111) rfl tl_11_33).trans (congrArg (x_g1 111 233) ((xe_iload 2).trans (congrArg (x_iload 2) ((xe_iaload).trans (congrArg (x_iaload) ((xe_if_icmp .ne 64).trans (congrArg (x_if_icmp .ne 64 K) ((xe_iconst 1).trans (congrArg (x_iconst 1) (xe_goto 65)))))))))))))))))))))))))))))))))))))))))))))))))))))))))))))))))))))))))))
theorem bk_X11_shareClub_f_60 : ck_ fX11 (some .boolean) cX11_shareClub 60 [.iconst 1, .goto 65] 64 = true := qck_r (nn_ _) (by decide +kernel)
theorem bs_X11_shareClub_f_60 {P : Zt → Option Zv → Prop} (K : Int → Zl → List Zv → Zt → Prop) : sx_ K P [.iconst 1, .goto 65] 64 = x_iconst 1 (x_goto 65 K) := ((xe_iconst 1).trans (congrArg (x_iconst 1) (xe_goto 65)))
theorem bk_X11_shareClub_f_65 : ck_ fX11 (some .boolean) cX11_shareClub 65 [.ireturn] 66 = true := qck_r (nn_ _) (by decide +kernel)
theorem bs_X11_shareClub_f_65 {P : Zt → Option Zv → Prop} (K : Int → Zl → List Zv → Zt → Prop) : sx_ K P [.ireturn] 66 = x_ireturn P := (xe_ireturn)
theorem bk_X11_shareClub_f_64 : ck_ fX11 (some .boolean) cX11_shareClub 64 [.iconst 0, .ireturn] 66 = true := qck_r (nn_ _) (by decide +kernel)
theorem bs_X11_shareClub_f_64 {P : Zt → Option Zv → Prop} (K : Int → Zl → List Zv → Zt → Prop) : sx_ K P [.iconst 0, .ireturn] 66 = x_iconst 0 (x_ireturn P) := ((xe_iconst 0).trans (congrArg (x_iconst 0) (xe_ireturn)))
abbrev po_X11_shareClub_f (T : Zt) (a b : Int) : Zt → Option Zv → Prop := fun T' r => T = T' ∧ ∃ x : Int, r = some (vI x) ∧ ((x = 1 ∧ (T 232 0 a = T 232 0 b ∨ T 232 0 a = T 233 0 b ∨ T 233 0 a = T 232 0 b ∨ T 233 0 a = T 233 0 b)) ∨ (x = 0 ∧ ¬ (T 232 0 a = T 232 0 b ∨ T 232 0 a = T 233 0 b ∨ T 233 0 a = T 232 0 b ∨ T 233 0 a = T 233 0 b)))
set_option maxHeartbeats 4000000 in
theorem ct_X11_shareClub_f {T : Zt} {a b : Int} (h1 : 0 ≤ a ∧ a < 400) (h2 : 0 ≤ b ∧ b < 400) : Ct_ yX11_shareClub zX11_shareClub T [vR 111 0, vI a, vI b] (po_X11_shareClub_f T a b) := by
  refine ct_of pn_11 rfl rfl (Nat.le_of_ble_eq_true rfl) (fun hT hav => ?_)
  have hr_a : -2147483648 ≤ a ∧ a ≤ 2147483647 := hav (vI a) (List.mem_cons_of_mem _ List.mem_cons_self)
  have hr_b : -2147483648 ≤ b ∧ b ≤ 2147483647 := hav (vI b) (List.mem_cons_of_mem _ (List.mem_cons_of_mem _ List.mem_cons_self))
  have hz : zX11_shareClub.2.2.2.1 = some .boolean → ∀ (T' : Zt) (x : Int), po_X11_shareClub_f T a b T' (some (vI x)) → 0 ≤ x ∧ x ≤ 1 := fun _ T' x h => by obtain ⟨-, y, e, hy⟩ := h; cases e; omega
  show J_ zX11_shareClub T (po_X11_shareClub_f T a b) 0 0 0 [some (vR 111 0), some (vI a), some (vI b)] [] T
  refine j_blx (F := fX11) tb_X11 (nn_ _) bk_X11_shareClub_f_0 bs_X11_shareClub_f_0 hz (fun K hK => ?_)
  refine ix_i (by omega) ?_
  intro b1 b1b
  refine ix_i (by omega) ?_
  intro b2 b2b
  refine And.intro (fun c3 => ?_) (fun c3 => ?_)
  · refine hK 60 _ [] T ?_
    refine j_blx (F := fX11) tb_X11 (nn_ _) bk_X11_shareClub_f_60 bs_X11_shareClub_f_60 hz (fun K hK => ?_)
    refine hK 65 _ [vI 1] T ?_
    refine j_blx (F := fX11) tb_X11 (nn_ _) bk_X11_shareClub_f_65 bs_X11_shareClub_f_65 hz (fun K hK => ?_)
    refine (show po_X11_shareClub_f T a b T (some (vI 1)) from ?_)
    exact ⟨rfl, _, rfl, Or.inl ⟨rfl, by omega⟩⟩
  · refine ix_i (by omega) ?_
    intro b4 b4b
    refine ix_i (by omega) ?_
    intro b5 b5b
    refine And.intro (fun c6 => ?_) (fun c6 => ?_)
    · refine hK 60 _ [] T ?_
      refine j_blx (F := fX11) tb_X11 (nn_ _) bk_X11_shareClub_f_60 bs_X11_shareClub_f_60 hz (fun K hK => ?_)
      refine hK 65 _ [vI 1] T ?_
      refine j_blx (F := fX11) tb_X11 (nn_ _) bk_X11_shareClub_f_65 bs_X11_shareClub_f_65 hz (fun K hK => ?_)
      refine (show po_X11_shareClub_f T a b T (some (vI 1)) from ?_)
      exact ⟨rfl, _, rfl, Or.inl ⟨rfl, by omega⟩⟩
    · refine ix_i (by omega) ?_
      intro b7 b7b
      refine ix_i (by omega) ?_
      intro b8 b8b
      refine And.intro (fun c9 => ?_) (fun c9 => ?_)
      · refine hK 60 _ [] T ?_
        refine j_blx (F := fX11) tb_X11 (nn_ _) bk_X11_shareClub_f_60 bs_X11_shareClub_f_60 hz (fun K hK => ?_)
        refine hK 65 _ [vI 1] T ?_
        refine j_blx (F := fX11) tb_X11 (nn_ _) bk_X11_shareClub_f_65 bs_X11_shareClub_f_65 hz (fun K hK => ?_)
        refine (show po_X11_shareClub_f T a b T (some (vI 1)) from ?_)
        exact ⟨rfl, _, rfl, Or.inl ⟨rfl, by omega⟩⟩
      · refine ix_i (by omega) ?_
        intro b10 b10b
        refine ix_i (by omega) ?_
        intro b11 b11b
        refine And.intro (fun c12 => ?_) (fun c12 => ?_)
        · refine hK 64 _ [] T ?_
          refine j_blx (F := fX11) tb_X11 (nn_ _) bk_X11_shareClub_f_64 bs_X11_shareClub_f_64 hz (fun K hK => ?_)
          refine (show po_X11_shareClub_f T a b T (some (vI 0)) from ?_)
          exact ⟨rfl, _, rfl, Or.inr ⟨rfl, by omega⟩⟩
        · refine hK 65 _ [vI 1] T ?_
          refine j_blx (F := fX11) tb_X11 (nn_ _) bk_X11_shareClub_f_65 bs_X11_shareClub_f_65 hz (fun K hK => ?_)
          refine (show po_X11_shareClub_f T a b T (some (vI 1)) from ?_)
          exact ⟨rfl, _, rfl, Or.inl ⟨rfl, by omega⟩⟩
theorem bk_X11_standAgainst_f_126 : ck_ fX11 (some .boolean) cX11_standAgainst 126 [.istore 4, .iload 4, .iload 3, .if_icmp .ge 143, .aload 0, .iload 1, .iload 2] 137 = true := qck_r (nn_ _) (by decide +kernel)
theorem bs_X11_standAgainst_f_126 {P : Zt → Option Zv → Prop} (K : Int → Zl → List Zv → Zt → Prop) : sx_ K P [.istore 4, .iload 4, .iload 3, .if_icmp .ge 143, .aload 0, .iload 1, .iload 2] 137 = x_istore 4 (x_iload 4 (x_iload 3 (x_if_icmp .ge 143 K (x_aload 0 (x_iload 1 (x_iload 2 (K 137))))))) := ((xe_istore 4).trans (congrArg (x_istore 4) ((xe_iload 4).trans (congrArg (x_iload 4) ((xe_iload 3).trans (congrArg (x_iload 3) ((xe_if_icmp .ge 143).trans (congrArg (x_if_icmp .ge 143 K) ((xe_aload 0).trans (congrArg (x_aload 0) ((xe_iload 1).trans (congrArg (x_iload 1) ((xe_iload 2).trans (congrArg (x_iload 2) xe_nil))))))))))))))
theorem bk_X11_standAgainst_f_143 : ck_ fX11 (some .boolean) cX11_standAgainst 143 [.iload 4, .ifCond .ne 177, .aload 0, .tableswitch 0 11 13 #[], .aload 0, .tableswitch 0 11 32 #[], .iload 1, .iaload, .iaload, .aload 0, .tableswitch 0 11 13 #[], .aload 0, .tableswitch 0 11 32 #[], .iload 2, .iaload, .iaload, .if_icmp .ne 177, .iconst 1, .goto 178] 177 = true := qck_r (nn_ _) (by decide +kernel)
theorem bs_X11_standAgainst_f_143 {P : Zt → Option Zv → Prop} (K : Int → Zl → List Zv → Zt → Prop) : sx_ K P [.iload 4, .ifCond .ne 177, .aload 0, .tableswitch 0 11 13 #[], .aload 0, .tableswitch 0 11 32 #[], .iload 1, .iaload, .iaload, .aload 0, .tableswitch 0 11 13 #[], .aload 0, .tableswitch 0 11 32 #[], .iload 2, .iaload, .iaload, .if_icmp .ne 177, .iconst 1, .goto 178] 177 = x_iload 4 (x_ifCond .ne 177 K (x_aload 0 (x_g1 111 213 (x_aload 0 (x_g1 111 232 (x_iload 1 (x_iaload (x_iaload (x_aload 0 (x_g1 111 213 (x_aload 0 (x_g1 111 232 (x_iload 2 (x_iaload (x_iaload (x_if_icmp .ne 177 K (x_iconst 1 (x_goto 178 K)))))))))))))))))) := ((xe_iload 4).trans (congrArg (x_iload 4) ((xe_ifCond .ne 177).trans (congrArg (x_ifCond .ne 177 K) ((xe_aload 0).trans (congrArg (x_aload 0) ((xe_g1 (kk := 111) rfl tl_11_13).trans (congrArg (x_g1 111 213) ((xe_aload 0).trans (congrArg (x_aload 0) ((xe_g1 (kk := 111) rfl tl_11_32).trans (congrArg (x_g1 111 232) ((xe_iload 1).trans (congrArg (x_iload 1) ((xe_iaload).trans (congrArg (x_iaload) ((xe_iaload).trans (congrArg (x_iaload) ((xe_aload 0).trans (congrArg (x_aload 0) ((xe_g1 (kk := 111) rfl tl_11_13).trans (congrArg (x_g1 111 213) ((xe_aload 0).trans (congrArg (x_aload 0) ((xe_g1 (kk := 111) rfl tl_11_32).trans (congrArg (x_g1 111 232) ((xe_iload 2).trans (congrArg (x_iload 2) ((xe_iaload).trans (congrArg (x_iaload) ((xe_iaload).trans (congrArg (x_iaload) ((xe_if_icmp .ne 177).trans (congrArg (x_if_icmp .ne 177 K) ((xe_iconst 1).trans (congrArg (x_iconst 1) (xe_goto 178)))))))))))))))))))))))))))))))))))))
theorem bk_X11_standAgainst_f_177 : ck_ fX11 (some .boolean) cX11_standAgainst 177 [.iconst 0, .ireturn] 179 = true := qck_r (nn_ _) (by decide +kernel)
theorem bs_X11_standAgainst_f_177 {P : Zt → Option Zv → Prop} (K : Int → Zl → List Zv → Zt → Prop) : sx_ K P [.iconst 0, .ireturn] 179 = x_iconst 0 (x_ireturn P) := ((xe_iconst 0).trans (congrArg (x_iconst 0) (xe_ireturn)))
theorem bk_X11_standAgainst_f_178 : ck_ fX11 (some .boolean) cX11_standAgainst 178 [.ireturn] 179 = true := qck_r (nn_ _) (by decide +kernel)
theorem bs_X11_standAgainst_f_178 {P : Zt → Option Zv → Prop} (K : Int → Zl → List Zv → Zt → Prop) : sx_ K P [.ireturn] 179 = x_ireturn P := (xe_ireturn)
theorem bk_X11_standAgainst_f_140 : ck_ fX11 (some .boolean) cX11_standAgainst 140 [.ifCond .ne 173, .iload 4, .ifCond .ne 177, .aload 0, .tableswitch 0 11 13 #[], .aload 0, .tableswitch 0 11 32 #[], .iload 1, .iaload, .iaload, .aload 0, .tableswitch 0 11 13 #[], .aload 0, .tableswitch 0 11 32 #[], .iload 2, .iaload, .iaload, .if_icmp .ne 177, .iconst 1, .goto 178] 177 = true := qck_r (nn_ _) (by decide +kernel)
theorem bs_X11_standAgainst_f_140 {P : Zt → Option Zv → Prop} (K : Int → Zl → List Zv → Zt → Prop) : sx_ K P [.ifCond .ne 173, .iload 4, .ifCond .ne 177, .aload 0, .tableswitch 0 11 13 #[], .aload 0, .tableswitch 0 11 32 #[], .iload 1, .iaload, .iaload, .aload 0, .tableswitch 0 11 13 #[], .aload 0, .tableswitch 0 11 32 #[], .iload 2, .iaload, .iaload, .if_icmp .ne 177, .iconst 1, .goto 178] 177 = x_ifCond .ne 173 K (x_iload 4 (x_ifCond .ne 177 K (x_aload 0 (x_g1 111 213 (x_aload 0 (x_g1 111 232 (x_iload 1 (x_iaload (x_iaload (x_aload 0 (x_g1 111 213 (x_aload 0 (x_g1 111 232 (x_iload 2 (x_iaload (x_iaload (x_if_icmp .ne 177 K (x_iconst 1 (x_goto 178 K))))))))))))))))))) := ((xe_ifCond .ne 173).trans (congrArg (x_ifCond .ne 173 K) ((xe_iload 4).trans (congrArg (x_iload 4) ((xe_ifCond .ne 177).trans (congrArg (x_ifCond .ne 177 K) ((xe_aload 0).trans (congrArg (x_aload 0) ((xe_g1 (kk := 111) rfl tl_11_13).trans (congrArg (x_g1 111 213) ((xe_aload 0).trans (congrArg (x_aload 0) ((xe_g1 (kk := 111) rfl tl_11_32).trans (congrArg (x_g1 111 232) ((xe_iload 1).trans (congrArg (x_iload 1) ((xe_iaload).trans (congrArg (x_iaload) ((xe_iaload).trans (congrArg (x_iaload) ((xe_aload 0).trans (congrArg (x_aload 0) ((xe_g1 (kk := 111) rfl tl_11_13).trans (congrArg (x_g1 111 213) ((xe_aload 0).trans (congrArg (x_aload 0) ((xe_g1 (kk := 111) rfl tl_11_32).trans (congrArg (x_g1 111 232) ((xe_iload 2).trans (congrArg (x_iload 2) ((xe_iaload).trans (congrArg (x_iaload) ((xe_iaload).trans (congrArg (x_iaload) ((xe_if_icmp .ne 177).trans (congrArg (x_if_icmp .ne 177 K) ((xe_iconst 1).trans (congrArg (x_iconst 1) (xe_goto 178)))))))))))))))))))))))))))))))))))))))
theorem bk_X11_standAgainst_f_173 : ck_ fX11 (some .boolean) cX11_standAgainst 173 [.iconst 1, .goto 178] 177 = true := qck_r (nn_ _) (by decide +kernel)
theorem bs_X11_standAgainst_f_173 {P : Zt → Option Zv → Prop} (K : Int → Zl → List Zv → Zt → Prop) : sx_ K P [.iconst 1, .goto 178] 177 = x_iconst 1 (x_goto 178 K) := ((xe_iconst 1).trans (congrArg (x_iconst 1) (xe_goto 178)))
theorem bk_X11_standAgainst_f_81 : ck_ fX11 (some .boolean) cX11_standAgainst 81 [.istore 3, .aload 0, .tableswitch 0 11 34 #[], .iload 1, .iaload, .aload 0, .tableswitch 0 11 34 #[], .iload 2, .iaload, .if_icmp .le 113, .aload 0, .tableswitch 0 11 34 #[], .iload 1, .iaload, .aload 0, .tableswitch 0 11 34 #[], .iload 2, .iaload, .isub, .goto 126] 113 = true := qck_r (nn_ _) (by decide +kernel)
theorem bs_X11_standAgainst_f_81 {P : Zt → Option Zv → Prop} (K : Int → Zl → List Zv → Zt → Prop) : sx_ K P [.istore 3, .aload 0, .tableswitch 0 11 34 #[], .iload 1, .iaload, .aload 0, .tableswitch 0 11 34 #[], .iload 2, .iaload, .if_icmp .le 113, .aload 0, .tableswitch 0 11 34 #[], .iload 1, .iaload, .aload 0, .tableswitch 0 11 34 #[], .iload 2, .iaload, .isub, .goto 126] 113 = x_istore 3 (x_aload 0 (x_g1 111 234 (x_iload 1 (x_iaload (x_aload 0 (x_g1 111 234 (x_iload 2 (x_iaload (x_if_icmp .le 113 K (x_aload 0 (x_g1 111 234 (x_iload 1 (x_iaload (x_aload 0 (x_g1 111 234 (x_iload 2 (x_iaload (x_isub (x_goto 126 K))))))))))))))))))) := ((xe_istore 3).trans (congrArg (x_istore 3) ((xe_aload 0).trans (congrArg (x_aload 0) ((xe_g1 (kk := 111) rfl tl_11_34).trans (congrArg (x_g1 111 234) ((xe_iload 1).trans (congrArg (x_iload 1) ((xe_iaload).trans (congrArg (x_iaload) ((xe_aload 0).trans (congrArg (x_aload 0) ((xe_g1 (kk := 111) rfl tl_11_34).trans (congrArg (x_g1 111 234) ((xe_iload 2).trans (congrArg (x_iload 2) ((xe_iaload).trans (congrArg (x_iaload) ((xe_if_icmp .le 113).trans (congrArg (x_if_icmp .le 113 K) ((xe_aload 0).trans (congrArg (x_aload 0) ((xe_g1 (kk := 111) rfl tl_11_34).trans (congrArg (x_g1 111 234) ((xe_iload 1).trans (congrArg (x_iload 1) ((xe_iaload).trans (congrArg (x_iaload) ((xe_aload 0).trans (congrArg (x_aload 0) ((xe_g1 (kk := 111) rfl tl_11_34).trans (congrArg (x_g1 111 234) ((xe_iload 2).trans (congrArg (x_iload 2) ((xe_iaload).trans (congrArg (x_iaload) ((xe_isub).trans (congrArg (x_isub) (xe_goto 126)))))))))))))))))))))))))))))))))))))))
theorem bk_X11_standAgainst_f_113 : ck_ fX11 (some .boolean) cX11_standAgainst 113 [.aload 0, .tableswitch 0 11 34 #[], .iload 2, .iaload, .aload 0, .tableswitch 0 11 34 #[], .iload 1, .iaload, .isub] 126 = true := qck_r (nn_ _) (by decide +kernel)
theorem bs_X11_standAgainst_f_113 {P : Zt → Option Zv → Prop} (K : Int → Zl → List Zv → Zt → Prop) : sx_ K P [.aload 0, .tableswitch 0 11 34 #[], .iload 2, .iaload, .aload 0, .tableswitch 0 11 34 #[], .iload 1, .iaload, .isub] 126 = x_aload 0 (x_g1 111 234 (x_iload 2 (x_iaload (x_aload 0 (x_g1 111 234 (x_iload 1 (x_iaload (x_isub (K 126))))))))) := ((xe_aload 0).trans (congrArg (x_aload 0) ((xe_g1 (kk := 111) rfl tl_11_34).trans (congrArg (x_g1 111 234) ((xe_iload 2).trans (congrArg (x_iload 2) ((xe_iaload).trans (congrArg (x_iaload) ((xe_aload 0).trans (congrArg (x_aload 0) ((xe_g1 (kk := 111) rfl tl_11_34).trans (congrArg (x_g1 111 234) ((xe_iload 1).trans (congrArg (x_iload 1) ((xe_iaload).trans (congrArg (x_iaload) ((xe_isub).trans (congrArg (x_isub) xe_nil))))))))))))))))))
theorem bk_X11_standAgainst_f_0 : ck_ fX11 (some .boolean) cX11_standAgainst 0 [.iload 1, .iload 2, .if_icmp .eq 25, .aload 0, .tableswitch 0 11 35 #[], .iload 1, .iaload, .iconst 3, .if_icmp .eq 25, .aload 0, .tableswitch 0 11 35 #[], .iload 2, .iaload, .iconst 3, .if_icmp .ne 27, .iconst 0, .ireturn] 27 = true := qck_r (nn_ _) (by decide +kernel)
theorem bs_X11_standAgainst_f_0 {P : Zt → Option Zv → Prop} (K : Int → Zl → List Zv → Zt → Prop) : sx_ K P [.iload 1, .iload 2, .if_icmp .eq 25, .aload 0, .tableswitch 0 11 35 #[], .iload 1, .iaload, .iconst 3, .if_icmp .eq 25, .aload 0, .tableswitch 0 11 35 #[], .iload 2, .iaload, .iconst 3, .if_icmp .ne 27, .iconst 0, .ireturn] 27 = x_iload 1 (x_iload 2 (x_if_icmp .eq 25 K (x_aload 0 (x_g1 111 235 (x_iload 1 (x_iaload (x_iconst 3 (x_if_icmp .eq 25 K (x_aload 0 (x_g1 111 235 (x_iload 2 (x_iaload (x_iconst 3 (x_if_icmp .ne 27 K (x_iconst 0 (x_ireturn P)))))))))))))))) := ((xe_iload 1).trans (congrArg (x_iload 1) ((xe_iload 2).trans (congrArg (x_iload 2) ((xe_if_icmp .eq 25).trans (congrArg (x_if_icmp .eq 25 K) ((xe_aload 0).trans (congrArg (x_aload 0) ((xe_g1 (kk := 111) rfl tl_11_35).trans (congrArg (x_g1 111 235) ((xe_iload 1).trans (congrArg (x_iload 1) ((xe_iaload).trans (congrArg (x_iaload) ((xe_iconst 3).trans (congrArg (x_iconst 3) ((xe_if_icmp .eq 25).trans (congrArg (x_if_icmp .eq 25 K) ((xe_aload 0).trans (congrArg (x_aload 0) ((xe_g1 (kk := 111) rfl tl_11_35).trans (congrArg (x_g1 111 235) ((xe_iload 2).trans (congrArg (x_iload 2) ((xe_iaload).trans (congrArg (x_iaload) ((xe_iconst 3).trans (congrArg (x_iconst 3) ((xe_if_icmp .ne 27).trans (congrArg (x_if_icmp .ne 27 K) ((xe_iconst 0).trans (congrArg (x_iconst 0) (xe_ireturn)))))))))))))))))))))))))))))))))
