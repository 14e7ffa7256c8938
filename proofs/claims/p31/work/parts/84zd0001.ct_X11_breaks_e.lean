theorem bk_X10_breaks_e_0 : ck_ fX10 (some .int) cX10_breaks 0 [.aload 0, .iload 1] 2 = true := qck_r (nn_ _) (by decide +kernel)
theorem bs_X10_breaks_e_0 {P : Zt → Option Zv → Prop} (K : Int → Zl → List Zv → Zt → Prop) : sx_ K P [.aload 0, .iload 1] 2 = x_aload 0 (x_iload 1 (K 2)) := ((xe_aload 0).trans (congrArg (x_aload 0) ((xe_iload 1).trans (congrArg (x_iload 1) xe_nil))))
theorem bk_X10_breaks_e_5 : ck_ fX10 (some .int) cX10_breaks 5 [.ifCond .eq 16, .aload 0, .iload 2] 10 = true := qck_r (nn_ _) (by decide +kernel)
theorem bs_X10_breaks_e_5 {P : Zt → Option Zv → Prop} (K : Int → Zl → List Zv → Zt → Prop) : sx_ K P [.ifCond .eq 16, .aload 0, .iload 2] 10 = x_ifCond .eq 16 K (x_aload 0 (x_iload 2 (K 10))) := ((xe_ifCond .eq 16).trans (congrArg (x_ifCond .eq 16 K) ((xe_aload 0).trans (congrArg (x_aload 0) ((xe_iload 2).trans (congrArg (x_iload 2) xe_nil))))))
theorem bk_X10_breaks_e_16 : ck_ fX10 (some .int) cX10_breaks 16 [.iconst (-2), .ireturn] 19 = true := qck_r (nn_ _) (by decide +kernel)
theorem bs_X10_breaks_e_16 {P : Zt → Option Zv → Prop} (K : Int → Zl → List Zv → Zt → Prop) : sx_ K P [.iconst (-2), .ireturn] 19 = x_iconst (-2) (x_ireturn P) := ((xe_iconst (-2)).trans (congrArg (x_iconst (-2)) (xe_ireturn)))
theorem bk_X10_breaks_e_13 : ck_ fX10 (some .int) cX10_breaks 13 [.ifCond .ne 19, .iconst (-2), .ireturn] 19 = true := qck_r (nn_ _) (by decide +kernel)
theorem bs_X10_breaks_e_13 {P : Zt → Option Zv → Prop} (K : Int → Zl → List Zv → Zt → Prop) : sx_ K P [.ifCond .ne 19, .iconst (-2), .ireturn] 19 = x_ifCond .ne 19 K (x_iconst (-2) (x_ireturn P)) := ((xe_ifCond .ne 19).trans (congrArg (x_ifCond .ne 19 K) ((xe_iconst (-2)).trans (congrArg (x_iconst (-2)) (xe_ireturn)))))
theorem bk_X10_breaks_e_19 : ck_ fX10 (some .int) cX10_breaks 19 [.aload 0, .tableswitch 0 10 2 #[], .tableswitch 0 6 1 #[], .iload 1, .aaload, .astore 3, .aload 3, .tableswitch 0 0 4 #[], .iload 2, .iaload, .iconst (-1), .if_icmp .eq 46, .aload 3, .tableswitch 0 0 6 #[], .ifCond .ne 49, .iconst (-4), .ireturn] 49 = true := qck_r (nn_ _) (by decide +kernel)
theorem bs_X10_breaks_e_19 {P : Zt → Option Zv → Prop} (K : Int → Zl → List Zv → Zt → Prop) : sx_ K P [.aload 0, .tableswitch 0 10 2 #[], .tableswitch 0 6 1 #[], .iload 1, .aaload, .astore 3, .aload 3, .tableswitch 0 0 4 #[], .iload 2, .iaload, .iconst (-1), .if_icmp .eq 46, .aload 3, .tableswitch 0 0 6 #[], .ifCond .ne 49, .iconst (-4), .ireturn] 49 = x_aload 0 (x_g1 110 106 (x_g1 106 521 (x_iload 1 (x_aaload (x_astore 3 (x_aload 3 (x_g2 100 404 (x_iload 2 (x_iaload (x_iconst (-1) (x_if_icmp .eq 46 K (x_aload 3 (x_g0 100 6 0 1 (x_ifCond .ne 49 K (x_iconst (-4) (x_ireturn P)))))))))))))))) := ((xe_aload 0).trans (congrArg (x_aload 0) ((xe_g1 (kk := 110) rfl tl_10_2).trans (congrArg (x_g1 110 106) ((xe_g1 (kk := 106) rfl tl_6_1).trans (congrArg (x_g1 106 521) ((xe_iload 1).trans (congrArg (x_iload 1) ((xe_aaload).trans (congrArg (x_aaload) ((xe_astore 3).trans (congrArg (x_astore 3) ((xe_aload 3).trans (congrArg (x_aload 3) ((xe_g2 (kk := 100) rfl tl_0_4).trans (congrArg (x_g2 100 404) ((xe_iload 2).trans (congrArg (x_iload 2) ((xe_iaload).trans (congrArg (x_iaload) ((xe_iconst (-1)).trans (congrArg (x_iconst (-1)) ((xe_if_icmp .eq 46).trans (congrArg (x_if_icmp .eq 46 K) ((xe_aload 3).trans (congrArg (x_aload 3) ((xe_g0 (kk := 100) rfl tl_0_6).trans (congrArg (x_g0 100 6 0 1) ((xe_ifCond .ne 49).trans (congrArg (x_ifCond .ne 49 K) ((xe_iconst (-4)).trans (congrArg (x_iconst (-4)) (xe_ireturn)))))))))))))))))))))))))))))))))
theorem bk_X10_breaks_e_46 : ck_ fX10 (some .int) cX10_breaks 46 [.iconst (-4), .ireturn] 49 = true := qck_r (nn_ _) (by decide +kernel)
theorem bs_X10_breaks_e_46 {P : Zt → Option Zv → Prop} (K : Int → Zl → List Zv → Zt → Prop) : sx_ K P [.iconst (-4), .ireturn] 49 = x_iconst (-4) (x_ireturn P) := ((xe_iconst (-4)).trans (congrArg (x_iconst (-4)) (xe_ireturn)))
theorem bk_X10_breaks_e_49 : ck_ fX10 (some .int) cX10_breaks 49 [.aload 0, .tableswitch 0 10 2 #[], .aload 3, .iload 2] 55 = true := qck_r (nn_ _) (by decide +kernel)
theorem bs_X10_breaks_e_49 {P : Zt → Option Zv → Prop} (K : Int → Zl → List Zv → Zt → Prop) : sx_ K P [.aload 0, .tableswitch 0 10 2 #[], .aload 3, .iload 2] 55 = x_aload 0 (x_g1 110 106 (x_aload 3 (x_iload 2 (K 55)))) := ((xe_aload 0).trans (congrArg (x_aload 0) ((xe_g1 (kk := 110) rfl tl_10_2).trans (congrArg (x_g1 110 106) ((xe_aload 3).trans (congrArg (x_aload 3) ((xe_iload 2).trans (congrArg (x_iload 2) xe_nil))))))))
theorem bk_X10_breaks_e_58 : ck_ fX10 (some .int) cX10_breaks 58 [.ireturn] 59 = true := qck_r (nn_ _) (by decide +kernel)
theorem bs_X10_breaks_e_58 {P : Zt → Option Zv → Prop} (K : Int → Zl → List Zv → Zt → Prop) : sx_ K P [.ireturn] 59 = x_ireturn P := (xe_ireturn)
abbrev po_X10_breaks_e (T : Zt) (c cl : Int) : Zt → Option Zv → Prop := fun T' r => T = T' ∧ ∃ x : Int, r = some (vI x) ∧ (BH9_ T c cl x)
set_option maxHeartbeats 4000000 in
theorem ct_X10_breaks_e {T : Zt} {c cl : Int} (hka : KA_ T) (hkc : KC_ T) : Ct_ yX10_breaks zX10_breaks T [vR 110 0, vI c, vI cl] (po_X10_breaks_e T c cl) := by
  refine ct_of pn_10 rfl rfl (Nat.le_of_ble_eq_true rfl) (fun hT hav => ?_)
  have hr_c : -2147483648 ≤ c ∧ c ≤ 2147483647 := hav (vI c) (List.mem_cons_of_mem _ List.mem_cons_self)
  have hr_cl : -2147483648 ≤ cl ∧ cl ≤ 2147483647 := hav (vI cl) (List.mem_cons_of_mem _ (List.mem_cons_of_mem _ List.mem_cons_self))
  have hz : zX10_breaks.2.2.2.1 = some .boolean → ∀ (T' : Zt) (x : Int), po_X10_breaks_e T c cl T' (some (vI x)) → 0 ≤ x ∧ x ≤ 1 := fun h => by cases h
  have hb_competitionCount : 0 ≤ T 106 0 2 ∧ T 106 0 2 ≤ 4 := bd_f hT 106 2 tl_6_2 0
  have hb_clubs : 0 ≤ T 108 0 2 ∧ T 108 0 2 ≤ 12 := bd_f hT 108 2 tl_8_2 0
  have hb_matchCount : 0 ≤ T 106 0 4 ∧ T 106 0 4 ≤ 400 := bd_f hT 106 4 tl_6_4 0
  show J_ zX10_breaks T (po_X10_breaks_e T c cl) 0 0 0 [some (vR 110 0), some (vI c), some (vI cl), none] [] T
  refine j_blx (F := fX10) tb_X10 (nn_ _) bk_X10_breaks_e_0 bs_X10_breaks_e_0 hz (fun K hK => ?_)
  refine hK 2 _ [vI c, vR 110 0] T ?_
  refine j_callV (y := yX10_isCompetition) (Yc := zX10_isCompetition) (rest := []) [vI c] (ct_X10_isCompetition (T := T)) cl_X10_107 (qd_c (by decide +kernel)) (nn_ _) rfl (rf_of rfl) (Nat.le_of_ble_eq_true rfl) (Nat.le_of_ble_eq_true rfl) (Nat.le_of_ble_eq_true rfl) rfl ?_
  rintro _ _ ⟨rfl, x1, rfl, hx1⟩
  show J_ zX10_breaks T (po_X10_breaks_e T c cl) 0 0 5 _ [vI x1] T
  refine j_blx (F := fX10) tb_X10 (nn_ _) bk_X10_breaks_e_5 bs_X10_breaks_e_5 hz (fun K hK => ?_)
  refine And.intro (fun c2 => ?_) (fun c2 => ?_)
  · replace hx1 := hx1.resolve_left (fun z => absurd (c2.symm.trans z.1) (by decide))
    clear c2
    refine hK 16 _ [] T ?_
    refine j_blx (F := fX10) tb_X10 (nn_ _) bk_X10_breaks_e_16 bs_X10_breaks_e_16 hz (fun K hK => ?_)
    refine (show po_X10_breaks_e T c cl T (some (vI (-2))) from ?_)
    exact ⟨rfl, _, rfl, Or.inl ⟨rfl, by omega⟩⟩
  · replace hx1 := hx1.resolve_right (fun z => c2 z.1)
    clear c2
    refine hK 10 _ [vI cl, vR 110 0] T ?_
    refine j_callV (y := yX10_isClub) (Yc := zX10_isClub) (rest := []) [vI cl] (ct_X10_isClub (T := T)) cl_X10_137 (qd_c (by decide +kernel)) (nn_ _) rfl (rf_of rfl) (Nat.le_of_ble_eq_true rfl) (Nat.le_of_ble_eq_true rfl) (Nat.le_of_ble_eq_true rfl) rfl ?_
    rintro _ _ ⟨rfl, x3, rfl, hx3⟩
    show J_ zX10_breaks T (po_X10_breaks_e T c cl) 0 0 13 _ [vI x3] T
    refine j_blx (F := fX10) tb_X10 (nn_ _) bk_X10_breaks_e_13 bs_X10_breaks_e_13 hz (fun K hK => ?_)
    refine And.intro (fun c4 => ?_) (fun c4 => ?_)
    · replace hx3 := hx3.resolve_right (fun z => c4 z.1)
      clear c4
      refine hK 19 _ [] T ?_
      refine j_blx (F := fX10) tb_X10 (nn_ _) bk_X10_breaks_e_19 bs_X10_breaks_e_19 hz (fun K hK => ?_)
      refine ix_i (by omega) ?_
      refine And.intro (fun c5 => ?_) (fun c5 => ?_)
      · exact absurd (show T 521 0 c = 0 by omega) (hka.1 _ (by omega) (by omega))
      · refine ix_i (by omega) ?_
        intro b6 b6b
        refine And.intro (fun c7 => ?_) (fun c7 => ?_)
        · refine hK 46 [some (vR 110 0), some (vI c), some (vI cl), some (vR 100 c)] [] T ?_
          refine j_blx (F := fX10) tb_X10 (nn_ _) bk_X10_breaks_e_46 bs_X10_breaks_e_46 hz (fun K hK => ?_)
          refine (show po_X10_breaks_e T c cl T (some (vI (-4))) from ?_)
          exact ⟨rfl, _, rfl, Or.inr ⟨by omega, Or.inl ⟨rfl, by omega⟩⟩⟩
        · intro b8 b8b
          refine And.intro (fun c9 => ?_) (fun c9 => ?_)
          · refine hK 49 _ [] T ?_
            refine j_blx (F := fX10) tb_X10 (nn_ _) bk_X10_breaks_e_49 bs_X10_breaks_e_49 hz (fun K hK => ?_)
            refine hK 55 _ [vI cl, vR 100 c, vR 106 0] T ?_
            refine j_callV (y := yX6_countBreaks) (Yc := zX6_countBreaks) (rest := []) [vR 100 c, vI cl] (ct_X6_countBreaks_e (T := T) (by exact hka) (by exact hkc c (by omega) (by omega))) cl_X10_230 (qd_c (by decide +kernel)) (nn_ _) rfl (rf_of rfl) (Nat.le_of_ble_eq_true rfl) (Nat.le_of_ble_eq_true rfl) (Nat.le_of_ble_eq_true rfl) rfl ?_
            rintro _ _ ⟨rfl, x10, rfl, hx10⟩
            show J_ zX10_breaks T (po_X10_breaks_e T c cl) 0 0 58 _ [vI x10] T
            refine j_blx (F := fX10) tb_X10 (nn_ _) bk_X10_breaks_e_58 bs_X10_breaks_e_58 hz (fun K hK => ?_)
            refine (show po_X10_breaks_e T c cl T (some (vI x10)) from ?_)
            exact ⟨rfl, _, rfl, Or.inr ⟨by omega, Or.inr ⟨by omega, by omega, hx10⟩⟩⟩
          · refine (show po_X10_breaks_e T c cl T (some (vI (-4))) from ?_)
            exact ⟨rfl, _, rfl, Or.inr ⟨by omega, Or.inl ⟨rfl, by omega⟩⟩⟩
    · replace hx3 := hx3.resolve_left (fun z => absurd (c4.symm.trans z.1) (by decide))
      clear c4
      refine (show po_X10_breaks_e T c cl T (some (vI (-2))) from ?_)
      exact ⟨rfl, _, rfl, Or.inl ⟨rfl, by omega⟩⟩
theorem bk_X11_breaks_e_59 : ck_ fX11 (some .int) cX11_breaks 59 [.iload 5, .aload 0, .tableswitch 0 11 10 #[], .iload 1, .iaload, .aload 0, .tableswitch 0 11 11 #[], .iload 1, .iaload, .iadd, .if_icmp .ge 142, .aload 0, .tableswitch 0 11 32 #[], .iload 5, .iaload, .iload 2, .if_icmp .eq 99, .aload 0, .tableswitch 0 11 33 #[], .iload 5, .iaload, .iload 2, .if_icmp .ne 136, .aload 0, .tableswitch 0 11 32 #[], .iload 5, .iaload, .iload 2, .if_icmp .ne 114, .iconst 0, .goto 115] 114 = true := qck_r (nn_ _) (by decide +kernel)
theorem bs_X11_breaks_e_59 {P : Zt → Option Zv → Prop} (K : Int → Zl → List Zv → Zt → Prop) : sx_ K P [.iload 5, .aload 0, .tableswitch 0 11 10 #[], .iload 1, .iaload, .aload 0, .tableswitch 0 11 11 #[], .iload 1, .iaload, .iadd, .if_icmp .ge 142, .aload 0, .tableswitch 0 11 32 #[], .iload 5, .iaload, .iload 2, .if_icmp .eq 99, .aload 0, .tableswitch 0 11 33 #[], .iload 5, .iaload, .iload 2, .if_icmp .ne 136, .aload 0, .tableswitch 0 11 32 #[], .iload 5, .iaload, .iload 2, .if_icmp .ne 114, .iconst 0, .goto 115] 114 = x_iload 5 (x_aload 0 (x_g1 111 210 (x_iload 1 (x_iaload (x_aload 0 (x_g1 111 211 (x_iload 1 (x_iaload (x_iadd (x_if_icmp .ge 142 K (x_aload 0 (x_g1 111 232 (x_iload 5 (x_iaload (x_iload 2 (x_if_icmp .eq 99 K (x_aload 0 (x_g1 111 233 (x_iload 5 (x_iaload (x_iload 2 (x_if_icmp .ne 136 K (x_aload 0 (x_g1 111 232 (x_iload 5 (x_iaload (x_iload 2 (x_if_icmp .ne 114 K (x_iconst 0 (x_goto 115 K)))))))))))))))))))))))))))))) := ((xe_iload 5).trans (congrArg (x_iload 5) ((xe_aload 0).trans (congrArg (x_aload 0) ((xe_g1 (kk := 111) rfl tl_11_10).trans (congrArg (x_g1 111 210) ((xe_iload 1).trans (congrArg (x_iload 1) ((xe_iaload).trans (congrArg (x_iaload) ((xe_aload 0).trans (congrArg (x_aload 0) ((xe_g1 (kk := 111) rfl tl_11_11).trans (congrArg (x_g1 111 211) ((xe_iload 1).trans (congrArg (x_iload 1) ((xe_iaload).trans (congrArg (x_iaload) ((xe_iadd).trans (congrArg (x_iadd) ((xe_if_icmp .ge 142).trans (congrArg (x_if_icmp .ge 142 K) ((xe_aload 0).trans (congrArg (x_aload 0) ((xe_g1 (kk := 111) rfl tl_11_32).trans (congrArg (x_g1 111 232) ((xe_iload 5).trans (congrArg (x_iload 5) ((xe_iaload).trans (congrArg (x_iaload) ((xe_iload 2).trans (congrArg (x_iload 2) ((xe_if_icmp .eq 99).trans (congrArg (x_if_icmp .eq 99 K) ((xe_aload 0).trans (congrArg (x_aload 0) ((xe_g1 (kk := 111) rfl tl_11_33).trans (congrArg (x_g1 111 233) ((xe_iload 5).trans (congrArg (x_iload 5) ((xe_iaload).trans (congrArg (x_iaload) ((xe_iload 2).trans (congrArg (x_iload 2) ((xe_if_icmp .ne 136).trans (congrArg (x_if_icmp .ne 136 K) ((xe_aload 0).trans (congrArg (x_aload 0) ((xe_g1 (kk := 111) rfl tl_11_32).trans (congrArg (x_g1 111 232) ((xe_iload 5).trans (congrArg (x_iload 5) ((xe_iaload).trans (congrArg (x_iaload) ((xe_iload 2).trans (congrArg (x_iload 2) ((xe_if_icmp .ne 114).trans (congrArg (x_if_icmp .ne 114 K) ((xe_iconst 0).trans (congrArg (x_iconst 0) (xe_goto 115)))))))))))))))))))))))))))))))))))))))))))))))))))))))))))))
theorem bk_X11_breaks_e_142 : ck_ fX11 (some .int) cX11_breaks 142 [.iload 4, .ireturn] 145 = true := qck_r (nn_ _) (by decide +kernel)
theorem bs_X11_breaks_e_142 {P : Zt → Option Zv → Prop} (K : Int → Zl → List Zv → Zt → Prop) : sx_ K P [.iload 4, .ireturn] 145 = x_iload 4 (x_ireturn P) := ((xe_iload 4).trans (congrArg (x_iload 4) (xe_ireturn)))
theorem bk_X11_breaks_e_99 : ck_ fX11 (some .int) cX11_breaks 99 [.aload 0, .tableswitch 0 11 32 #[], .iload 5, .iaload, .iload 2, .if_icmp .ne 114, .iconst 0, .goto 115] 114 = true := qck_r (nn_ _) (by decide +kernel)
theorem bs_X11_breaks_e_99 {P : Zt → Option Zv → Prop} (K : Int → Zl → List Zv → Zt → Prop) : sx_ K P [.aload 0, .tableswitch 0 11 32 #[], .iload 5, .iaload, .iload 2, .if_icmp .ne 114, .iconst 0, .goto 115] 114 = x_aload 0 (x_g1 111 232 (x_iload 5 (x_iaload (x_iload 2 (x_if_icmp .ne 114 K (x_iconst 0 (x_goto 115 K))))))) := ((xe_aload 0).trans (congrArg (x_aload 0) ((xe_g1 (kk := 111) rfl tl_11_32).trans (congrArg (x_g1 111 232) ((xe_iload 5).trans (congrArg (x_iload 5) ((xe_iaload).trans (congrArg (x_iaload) ((xe_iload 2).trans (congrArg (x_iload 2) ((xe_if_icmp .ne 114).trans (congrArg (x_if_icmp .ne 114 K) ((xe_iconst 0).trans (congrArg (x_iconst 0) (xe_goto 115)))))))))))))))
theorem bk_X11_breaks_e_114 : ck_ fX11 (some .int) cX11_breaks 114 [.iconst 1, .istore 6, .iload 4, .iload 6, .iload 3, .if_icmp .ne 129, .iconst 1, .goto 130] 129 = true := qck_r (nn_ _) (by decide +kernel)
theorem bs_X11_breaks_e_114 {P : Zt → Option Zv → Prop} (K : Int → Zl → List Zv → Zt → Prop) : sx_ K P [.iconst 1, .istore 6, .iload 4, .iload 6, .iload 3, .if_icmp .ne 129, .iconst 1, .goto 130] 129 = x_iconst 1 (x_istore 6 (x_iload 4 (x_iload 6 (x_iload 3 (x_if_icmp .ne 129 K (x_iconst 1 (x_goto 130 K))))))) := ((xe_iconst 1).trans (congrArg (x_iconst 1) ((xe_istore 6).trans (congrArg (x_istore 6) ((xe_iload 4).trans (congrArg (x_iload 4) ((xe_iload 6).trans (congrArg (x_iload 6) ((xe_iload 3).trans (congrArg (x_iload 3) ((xe_if_icmp .ne 129).trans (congrArg (x_if_icmp .ne 129 K) ((xe_iconst 1).trans (congrArg (x_iconst 1) (xe_goto 130)))))))))))))))
theorem bk_X11_breaks_e_129 : ck_ fX11 (some .int) cX11_breaks 129 [.iconst 0, .iadd, .istore 4, .iload 6, .istore 3, .iinc 5 1, .goto 59] 142 = true := qck_r (nn_ _) (by decide +kernel)
theorem bs_X11_breaks_e_129 {P : Zt → Option Zv → Prop} (K : Int → Zl → List Zv → Zt → Prop) : sx_ K P [.iconst 0, .iadd, .istore 4, .iload 6, .istore 3, .iinc 5 1, .goto 59] 142 = x_iconst 0 (x_iadd (x_istore 4 (x_iload 6 (x_istore 3 (x_iinc 5 1 (x_goto 59 K)))))) := ((xe_iconst 0).trans (congrArg (x_iconst 0) ((xe_iadd).trans (congrArg (x_iadd) ((xe_istore 4).trans (congrArg (x_istore 4) ((xe_iload 6).trans (congrArg (x_iload 6) ((xe_istore 3).trans (congrArg (x_istore 3) ((xe_iinc 5 1).trans (congrArg (x_iinc 5 1) (xe_goto 59)))))))))))))
theorem bk_X11_breaks_e_130 : ck_ fX11 (some .int) cX11_breaks 130 [.iadd, .istore 4, .iload 6, .istore 3, .iinc 5 1, .goto 59] 142 = true := qck_r (nn_ _) (by decide +kernel)
theorem bs_X11_breaks_e_130 {P : Zt → Option Zv → Prop} (K : Int → Zl → List Zv → Zt → Prop) : sx_ K P [.iadd, .istore 4, .iload 6, .istore 3, .iinc 5 1, .goto 59] 142 = x_iadd (x_istore 4 (x_iload 6 (x_istore 3 (x_iinc 5 1 (x_goto 59 K))))) := ((xe_iadd).trans (congrArg (x_iadd) ((xe_istore 4).trans (congrArg (x_istore 4) ((xe_iload 6).trans (congrArg (x_iload 6) ((xe_istore 3).trans (congrArg (x_istore 3) ((xe_iinc 5 1).trans (congrArg (x_iinc 5 1) (xe_goto 59)))))))))))
theorem bk_X11_breaks_e_115 : ck_ fX11 (some .int) cX11_breaks 115 [.istore 6, .iload 4, .iload 6, .iload 3, .if_icmp .ne 129, .iconst 1, .goto 130] 129 = true := qck_r (nn_ _) (by decide +kernel)
theorem bs_X11_breaks_e_115 {P : Zt → Option Zv → Prop} (K : Int → Zl → List Zv → Zt → Prop) : sx_ K P [.istore 6, .iload 4, .iload 6, .iload 3, .if_icmp .ne 129, .iconst 1, .goto 130] 129 = x_istore 6 (x_iload 4 (x_iload 6 (x_iload 3 (x_if_icmp .ne 129 K (x_iconst 1 (x_goto 130 K)))))) := ((xe_istore 6).trans (congrArg (x_istore 6) ((xe_iload 4).trans (congrArg (x_iload 4) ((xe_iload 6).trans (congrArg (x_iload 6) ((xe_iload 3).trans (congrArg (x_iload 3) ((xe_if_icmp .ne 129).trans (congrArg (x_if_icmp .ne 129 K) ((xe_iconst 1).trans (congrArg (x_iconst 1) (xe_goto 130)))))))))))))
theorem bk_X11_breaks_e_136 : ck_ fX11 (some .int) cX11_breaks 136 [.iinc 5 1, .goto 59] 142 = true := qck_r (nn_ _) (by decide +kernel)
theorem bs_X11_breaks_e_136 {P : Zt → Option Zv → Prop} (K : Int → Zl → List Zv → Zt → Prop) : sx_ K P [.iinc 5 1, .goto 59] 142 = x_iinc 5 1 (x_goto 59 K) := ((xe_iinc 5 1).trans (congrArg (x_iinc 5 1) (xe_goto 59)))
theorem bk_X11_breaks_e_0 : ck_ fX11 (some .int) cX11_breaks 0 [.iload 1, .aload 0, .tableswitch 0 11 6 #[]] 5 = true := qck_r (nn_ _) (by decide +kernel)
theorem bs_X11_breaks_e_0 {P : Zt → Option Zv → Prop} (K : Int → Zl → List Zv → Zt → Prop) : sx_ K P [.iload 1, .aload 0, .tableswitch 0 11 6 #[]] 5 = x_iload 1 (x_aload 0 (x_g0 111 6 0 4 (K 5))) := ((xe_iload 1).trans (congrArg (x_iload 1) ((xe_aload 0).trans (congrArg (x_aload 0) ((xe_g0 (kk := 111) rfl tl_11_6).trans (congrArg (x_g0 111 6 0 4) xe_nil))))))
theorem bk_X11_breaks_e_8 : ck_ fX11 (some .int) cX11_breaks 8 [.ifCond .eq 22, .iload 2, .aload 0, .tableswitch 0 11 12 #[]] 16 = true := qck_r (nn_ _) (by decide +kernel)
theorem bs_X11_breaks_e_8 {P : Zt → Option Zv → Prop} (K : Int → Zl → List Zv → Zt → Prop) : sx_ K P [.ifCond .eq 22, .iload 2, .aload 0, .tableswitch 0 11 12 #[]] 16 = x_ifCond .eq 22 K (x_iload 2 (x_aload 0 (x_g0 111 12 0 12 (K 16)))) := ((xe_ifCond .eq 22).trans (congrArg (x_ifCond .eq 22 K) ((xe_iload 2).trans (congrArg (x_iload 2) ((xe_aload 0).trans (congrArg (x_aload 0) ((xe_g0 (kk := 111) rfl tl_11_12).trans (congrArg (x_g0 111 12 0 12) xe_nil))))))))
theorem bk_X11_breaks_e_22 : ck_ fX11 (some .int) cX11_breaks 22 [.iconst (-2), .ireturn] 25 = true := qck_r (nn_ _) (by decide +kernel)
theorem bs_X11_breaks_e_22 {P : Zt → Option Zv → Prop} (K : Int → Zl → List Zv → Zt → Prop) : sx_ K P [.iconst (-2), .ireturn] 25 = x_iconst (-2) (x_ireturn P) := ((xe_iconst (-2)).trans (congrArg (x_iconst (-2)) (xe_ireturn)))
theorem bk_X11_breaks_e_19 : ck_ fX11 (some .int) cX11_breaks 19 [.ifCond .ne 25, .iconst (-2), .ireturn] 25 = true := qck_r (nn_ _) (by decide +kernel)
theorem bs_X11_breaks_e_19 {P : Zt → Option Zv → Prop} (K : Int → Zl → List Zv → Zt → Prop) : sx_ K P [.ifCond .ne 25, .iconst (-2), .ireturn] 25 = x_ifCond .ne 25 K (x_iconst (-2) (x_ireturn P)) := ((xe_ifCond .ne 25).trans (congrArg (x_ifCond .ne 25 K) ((xe_iconst (-2)).trans (congrArg (x_iconst (-2)) (xe_ireturn)))))
theorem bk_X11_breaks_e_25 : ck_ fX11 (some .int) cX11_breaks 25 [.aload 0, .tableswitch 0 11 9 #[], .iload 1, .baload, .ifCond .eq 43, .aload 0, .iload 1, .iload 2] 37 = true := qck_r (nn_ _) (by decide +kernel)
theorem bs_X11_breaks_e_25 {P : Zt → Option Zv → Prop} (K : Int → Zl → List Zv → Zt → Prop) : sx_ K P [.aload 0, .tableswitch 0 11 9 #[], .iload 1, .baload, .ifCond .eq 43, .aload 0, .iload 1, .iload 2] 37 = x_aload 0 (x_g1 111 209 (x_iload 1 (x_baload (x_ifCond .eq 43 K (x_aload 0 (x_iload 1 (x_iload 2 (K 37)))))))) := ((xe_aload 0).trans (congrArg (x_aload 0) ((xe_g1 (kk := 111) rfl tl_11_9).trans (congrArg (x_g1 111 209) ((xe_iload 1).trans (congrArg (x_iload 1) ((xe_baload).trans (congrArg (x_baload) ((xe_ifCond .eq 43).trans (congrArg (x_ifCond .eq 43 K) ((xe_aload 0).trans (congrArg (x_aload 0) ((xe_iload 1).trans (congrArg (x_iload 1) ((xe_iload 2).trans (congrArg (x_iload 2) xe_nil))))))))))))))))
theorem bk_X11_breaks_e_43 : ck_ fX11 (some .int) cX11_breaks 43 [.iconst (-4), .ireturn] 46 = true := qck_r (nn_ _) (by decide +kernel)
theorem bs_X11_breaks_e_43 {P : Zt → Option Zv → Prop} (K : Int → Zl → List Zv → Zt → Prop) : sx_ K P [.iconst (-4), .ireturn] 46 = x_iconst (-4) (x_ireturn P) := ((xe_iconst (-4)).trans (congrArg (x_iconst (-4)) (xe_ireturn)))
theorem bk_X11_breaks_e_40 : ck_ fX11 (some .int) cX11_breaks 40 [.ifCond .ne 46, .iconst (-4), .ireturn] 46 = true := qck_r (nn_ _) (by decide +kernel)
theorem bs_X11_breaks_e_40 {P : Zt → Option Zv → Prop} (K : Int → Zl → List Zv → Zt → Prop) : sx_ K P [.ifCond .ne 46, .iconst (-4), .ireturn] 46 = x_ifCond .ne 46 K (x_iconst (-4) (x_ireturn P)) := ((xe_ifCond .ne 46).trans (congrArg (x_ifCond .ne 46 K) ((xe_iconst (-4)).trans (congrArg (x_iconst (-4)) (xe_ireturn)))))
theorem bk_X11_breaks_e_46 : ck_ fX11 (some .int) cX11_breaks 46 [.iconst (-1), .istore 3, .iconst 0, .istore 4, .aload 0, .tableswitch 0 11 10 #[], .iload 1, .iaload, .istore 5] 59 = true := qck_r (nn_ _) (by decide +kernel)
theorem bs_X11_breaks_e_46 {P : Zt → Option Zv → Prop} (K : Int → Zl → List Zv → Zt → Prop) : sx_ K P [.iconst (-1), .istore 3, .iconst 0, .istore 4, .aload 0, .tableswitch 0 11 10 #[], .iload 1, .iaload, .istore 5] 59 = x_iconst (-1) (x_istore 3 (x_iconst 0 (x_istore 4 (x_aload 0 (x_g1 111 210 (x_iload 1 (x_iaload (x_istore 5 (K 59))))))))) := ((xe_iconst (-1)).trans (congrArg (x_iconst (-1)) ((xe_istore 3).trans (congrArg (x_istore 3) ((xe_iconst 0).trans (congrArg (x_iconst 0) ((xe_istore 4).trans (congrArg (x_istore 4) ((xe_aload 0).trans (congrArg (x_aload 0) ((xe_g1 (kk := 111) rfl tl_11_10).trans (congrArg (x_g1 111 210) ((xe_iload 1).trans (congrArg (x_iload 1) ((xe_iaload).trans (congrArg (x_iaload) ((xe_istore 5).trans (congrArg (x_istore 5) xe_nil))))))))))))))))))
abbrev po_X11_breaks_e (T : Zt) (c cl : Int) : Zt → Option Zv → Prop := fun T' r => T = T' ∧ ∃ x : Int, r = some (vI x) ∧ (BR9_ T c cl x)
set_option maxHeartbeats 4000000 in
theorem ct_X11_breaks_e {T : Zt} {c cl : Int} (hML : ML_ T) : Ct_ yX11_breaks zX11_breaks T [vR 111 0, vI c, vI cl] (po_X11_breaks_e T c cl) := by
  refine ct_of pn_11 rfl rfl (Nat.le_of_ble_eq_true rfl) (fun hT hav => ?_)
  have hr_c : -2147483648 ≤ c ∧ c ≤ 2147483647 := hav (vI c) (List.mem_cons_of_mem _ List.mem_cons_self)
  have hr_cl : -2147483648 ≤ cl ∧ cl ≤ 2147483647 := hav (vI cl) (List.mem_cons_of_mem _ (List.mem_cons_of_mem _ List.mem_cons_self))
  have hz : zX11_breaks.2.2.2.1 = some .boolean → ∀ (T' : Zt) (x : Int), po_X11_breaks_e T c cl T' (some (vI x)) → 0 ≤ x ∧ x ≤ 1 := fun h => by cases h
  have hb_29 : 0 ≤ T 111 0 29 ∧ T 111 0 29 ≤ 400 := bd_f hT 111 29 tl_11_29 0
  have hb_6 : 0 ≤ T 111 0 6 ∧ T 111 0 6 ≤ 4 := bd_f hT 111 6 tl_11_6 0
  have hb_12 : 0 ≤ T 111 0 12 ∧ T 111 0 12 ≤ 12 := bd_f hT 111 12 tl_11_12 0
  show J_ zX11_breaks T (po_X11_breaks_e T c cl) 0 0 0 [some (vR 111 0), some (vI c), some (vI cl), none, none, none, none] [] T
  have c_59 : ∀ (nn : Nat) (la : Int) (mn : Int) (m : Int), ((400 - m).toNat) ≤ nn → ((0 ≤ c ∧ c < T 111 0 6) ∧ 0 ≤ cl ∧ cl < T 111 0 12) → (T 209 0 c ≠ 0) → (HE_ T c cl) → (T 210 0 c ≤ m ∧ m ≤ T 210 0 c + T 211 0 c ∧ 0 ≤ mn ∧ mn ≤ m - T 210 0 c ∧ 0 ≤ T 210 0 c ∧ 0 ≤ T 211 0 c ∧ T 210 0 c + T 211 0 c ≤ 400) → (mn = (bk9_ (fun m => T 232 0 m) (fun m => T 233 0 m) cl (T 210 0 c) (m - T 210 0 c).toNat).1 ∧ la = (bk9_ (fun m => T 232 0 m) (fun m => T 233 0 m) cl (T 210 0 c) (m - T 210 0 c).toNat).2) → J_ zX11_breaks T (po_X11_breaks_e T c cl) 0 0 59 [some (vR 111 0), some (vI c), some (vI cl), some (vI la), some (vI mn), some (vI m), none] [] T := by
    intro nn
    induction nn using Nat.strongRecOn with
    | _ nn ih_59 =>
      intro la mn m hm_59 c0 hpl hhe i1 ib
      replace hm_59 := fun (_ : Unit) => hm_59
      refine j_blx (F := fX11) tb_X11 (nn_ _) bk_X11_breaks_e_59 bs_X11_breaks_e_59 hz (fun K hK => ?_)
      refine ix_i (by omega) ?_
      intro b1 b1b
      refine ix_i (by omega) ?_
      intro b2 b2b
      refine rg_i (by omega) ?_
      refine And.intro (fun c3 => ?_) (fun c3 => ?_)
      · refine hK 142 _ [] T ?_
        refine j_blx (F := fX11) tb_X11 (nn_ _) bk_X11_breaks_e_142 bs_X11_breaks_e_142 hz (fun K hK => ?_)
        refine (show po_X11_breaks_e T c cl T (some (vI mn)) from ?_)
        exact ⟨rfl, _, rfl, Or.inr ⟨by omega, Or.inr ⟨hpl, hhe, by rw [show T 211 0 c = m - T 210 0 c by omega]; exact ib.1⟩⟩⟩
      · refine ix_i (by omega) ?_
        intro b4 b4b
        refine And.intro (fun c5 => ?_) (fun c5 => ?_)
        · refine hK 99 _ [] T ?_
          refine j_blx (F := fX11) tb_X11 (nn_ _) bk_X11_breaks_e_99 bs_X11_breaks_e_99 hz (fun K hK => ?_)
          refine ix_i (by omega) ?_
          intro b6 b6b
          refine And.intro (fun c7 => ?_) (fun c7 => ?_)
          · refine hK 114 _ [] T ?_
            refine j_blx (F := fX11) tb_X11 (nn_ _) bk_X11_breaks_e_114 bs_X11_breaks_e_114 hz (fun K hK => ?_)
            refine And.intro (fun c8 => ?_) (fun c8 => ?_)
            · refine hK 129 [some (vR 111 0), some (vI c), some (vI cl), some (vI la), some (vI mn), some (vI m), some (vI 1)] [vI mn] T ?_
              refine j_blx (F := fX11) tb_X11 (nn_ _) bk_X11_breaks_e_129 bs_X11_breaks_e_129 hz (fun K hK => ?_)
              refine rg_i (by omega) ?_
              refine rg_i (by omega) ?_
              refine hK 59 [some (vR 111 0), some (vI c), some (vI cl), some (vI 1), some (vI (mn + 0)), some (vI (m + 1)), some (vI 1)] [] T ?_
              refine j_drop [some (vR 111 0), some (vI c), some (vI cl), some (vI 1), some (vI (mn + 0)), some (vI (m + 1)), none] (fun k v hk => ?_) rfl ?_
              · match k, hk with
                | 0, hk => exact hk
                | 1, hk => exact hk
                | 2, hk => exact hk
                | 3, hk => exact hk
                | 4, hk => exact hk
                | 5, hk => exact hk
                | 6, hk => cases hk
                | k + 7, hk => cases hk
              refine ih_59 _ ?_ 1 (mn + 0) (m + 1) (Nat.le_refl _) ?_ ?_ ?_ ?_ ?_
              · have hm_59 := hm_59 (); omega
              · omega
              · omega
              · exact hhe
              · first
                | omega
                | (have hml9 := hML c (by omega) (by omega); omega)
              · have em : (m + 1 - T 210 0 c).toNat = ((m - T 210 0 c) + 1).toNat := by omega
                rw [em]
                have y9 := bk9_u (H := fun m => T 232 0 m) (A := fun m => T 233 0 m) (b := cl) (f := T 210 0 c) (k := m - T 210 0 c) (by omega) (show T 232 0 (T 210 0 c + (m - T 210 0 c)) = cl ∨ T 233 0 (T 210 0 c + (m - T 210 0 c)) = cl by rw [show T 210 0 c + (m - T 210 0 c) = m by omega]; omega) (bs9_n (H := fun m => T 232 0 m) (show T 232 0 (T 210 0 c + (m - T 210 0 c)) ≠ cl by rw [show T 210 0 c + (m - T 210 0 c) = m by omega]; omega))
                omega
            · refine hK 130 [some (vR 111 0), some (vI c), some (vI cl), some (vI la), some (vI mn), some (vI m), some (vI 1)] [vI 1, vI mn] T ?_
              refine j_blx (F := fX11) tb_X11 (nn_ _) bk_X11_breaks_e_130 bs_X11_breaks_e_130 hz (fun K hK => ?_)
              refine rg_i (by omega) ?_
              refine rg_i (by omega) ?_
              refine hK 59 [some (vR 111 0), some (vI c), some (vI cl), some (vI 1), some (vI (mn + 1)), some (vI (m + 1)), some (vI 1)] [] T ?_
              refine j_drop [some (vR 111 0), some (vI c), some (vI cl), some (vI 1), some (vI (mn + 1)), some (vI (m + 1)), none] (fun k v hk => ?_) rfl ?_
              · match k, hk with
                | 0, hk => exact hk
                | 1, hk => exact hk
                | 2, hk => exact hk
                | 3, hk => exact hk
                | 4, hk => exact hk
                | 5, hk => exact hk
                | 6, hk => cases hk
                | k + 7, hk => cases hk
              refine ih_59 _ ?_ 1 (mn + 1) (m + 1) (Nat.le_refl _) ?_ ?_ ?_ ?_ ?_
              · have hm_59 := hm_59 (); omega
              · omega
              · omega
              · exact hhe
              · first
                | omega
                | (have hml9 := hML c (by omega) (by omega); omega)
              · have em : (m + 1 - T 210 0 c).toNat = ((m - T 210 0 c) + 1).toNat := by omega
                rw [em]
                have y9 := bk9_u (H := fun m => T 232 0 m) (A := fun m => T 233 0 m) (b := cl) (f := T 210 0 c) (k := m - T 210 0 c) (by omega) (show T 232 0 (T 210 0 c + (m - T 210 0 c)) = cl ∨ T 233 0 (T 210 0 c + (m - T 210 0 c)) = cl by rw [show T 210 0 c + (m - T 210 0 c) = m by omega]; omega) (bs9_n (H := fun m => T 232 0 m) (show T 232 0 (T 210 0 c + (m - T 210 0 c)) ≠ cl by rw [show T 210 0 c + (m - T 210 0 c) = m by omega]; omega))
                omega
          · refine hK 115 _ [vI 0] T ?_
            refine j_blx (F := fX11) tb_X11 (nn_ _) bk_X11_breaks_e_115 bs_X11_breaks_e_115 hz (fun K hK => ?_)
            refine And.intro (fun c9 => ?_) (fun c9 => ?_)
            · refine hK 129 [some (vR 111 0), some (vI c), some (vI cl), some (vI la), some (vI mn), some (vI m), some (vI 0)] [vI mn] T ?_
              refine j_blx (F := fX11) tb_X11 (nn_ _) bk_X11_breaks_e_129 bs_X11_breaks_e_129 hz (fun K hK => ?_)
              refine rg_i (by omega) ?_
              refine rg_i (by omega) ?_
              refine hK 59 [some (vR 111 0), some (vI c), some (vI cl), some (vI 0), some (vI (mn + 0)), some (vI (m + 1)), some (vI 0)] [] T ?_
              refine j_drop [some (vR 111 0), some (vI c), some (vI cl), some (vI 0), some (vI (mn + 0)), some (vI (m + 1)), none] (fun k v hk => ?_) rfl ?_
              · match k, hk with
                | 0, hk => exact hk
                | 1, hk => exact hk
                | 2, hk => exact hk
                | 3, hk => exact hk
                | 4, hk => exact hk
                | 5, hk => exact hk
                | 6, hk => cases hk
                | k + 7, hk => cases hk
              refine ih_59 _ ?_ 0 (mn + 0) (m + 1) (Nat.le_refl _) ?_ ?_ ?_ ?_ ?_
              · have hm_59 := hm_59 (); omega
              · omega
              · omega
              · exact hhe
              · first
                | omega
                | (have hml9 := hML c (by omega) (by omega); omega)
              · have em : (m + 1 - T 210 0 c).toNat = ((m - T 210 0 c) + 1).toNat := by omega
                rw [em]
                have y9 := bk9_u (H := fun m => T 232 0 m) (A := fun m => T 233 0 m) (b := cl) (f := T 210 0 c) (k := m - T 210 0 c) (by omega) (show T 232 0 (T 210 0 c + (m - T 210 0 c)) = cl ∨ T 233 0 (T 210 0 c + (m - T 210 0 c)) = cl by rw [show T 210 0 c + (m - T 210 0 c) = m by omega]; omega) (bs9_y (H := fun m => T 232 0 m) (show T 232 0 (T 210 0 c + (m - T 210 0 c)) = cl by rw [show T 210 0 c + (m - T 210 0 c) = m by omega]; omega))
                omega
            · refine hK 130 [some (vR 111 0), some (vI c), some (vI cl), some (vI la), some (vI mn), some (vI m), some (vI 0)] [vI 1, vI mn] T ?_
              refine j_blx (F := fX11) tb_X11 (nn_ _) bk_X11_breaks_e_130 bs_X11_breaks_e_130 hz (fun K hK => ?_)
              refine rg_i (by omega) ?_
              refine rg_i (by omega) ?_
              refine hK 59 [some (vR 111 0), some (vI c), some (vI cl), some (vI 0), some (vI (mn + 1)), some (vI (m + 1)), some (vI 0)] [] T ?_
              refine j_drop [some (vR 111 0), some (vI c), some (vI cl), some (vI 0), some (vI (mn + 1)), some (vI (m + 1)), none] (fun k v hk => ?_) rfl ?_
              · match k, hk with
                | 0, hk => exact hk
                | 1, hk => exact hk
                | 2, hk => exact hk
                | 3, hk => exact hk
                | 4, hk => exact hk
                | 5, hk => exact hk
                | 6, hk => cases hk
                | k + 7, hk => cases hk
              refine ih_59 _ ?_ 0 (mn + 1) (m + 1) (Nat.le_refl _) ?_ ?_ ?_ ?_ ?_
              · have hm_59 := hm_59 (); omega
              · omega
              · omega
              · exact hhe
              · first
                | omega
                | (have hml9 := hML c (by omega) (by omega); omega)
              · have em : (m + 1 - T 210 0 c).toNat = ((m - T 210 0 c) + 1).toNat := by omega
                rw [em]
                have y9 := bk9_u (H := fun m => T 232 0 m) (A := fun m => T 233 0 m) (b := cl) (f := T 210 0 c) (k := m - T 210 0 c) (by omega) (show T 232 0 (T 210 0 c + (m - T 210 0 c)) = cl ∨ T 233 0 (T 210 0 c + (m - T 210 0 c)) = cl by rw [show T 210 0 c + (m - T 210 0 c) = m by omega]; omega) (bs9_y (H := fun m => T 232 0 m) (show T 232 0 (T 210 0 c + (m - T 210 0 c)) = cl by rw [show T 210 0 c + (m - T 210 0 c) = m by omega]; omega))
                omega
        · refine ix_i (by omega) ?_
          intro b10 b10b
          refine And.intro (fun c11 => ?_) (fun c11 => ?_)
          · refine hK 136 _ [] T ?_
            refine j_blx (F := fX11) tb_X11 (nn_ _) bk_X11_breaks_e_136 bs_X11_breaks_e_136 hz (fun K hK => ?_)
            refine rg_i (by omega) ?_
            refine hK 59 [some (vR 111 0), some (vI c), some (vI cl), some (vI la), some (vI mn), some (vI (m + 1)), none] [] T ?_
            refine ih_59 _ ?_ la mn (m + 1) (Nat.le_refl _) ?_ ?_ ?_ ?_ ?_
            · have hm_59 := hm_59 (); omega
            · omega
            · omega
            · exact hhe
            · first
              | omega
              | (have hml9 := hML c (by omega) (by omega); omega)
            · have em : (m + 1 - T 210 0 c).toNat = ((m - T 210 0 c) + 1).toNat := by omega
              rw [em]
              rw [bk9_f (H := fun m => T 232 0 m) (A := fun m => T 233 0 m) (b := cl) (f := T 210 0 c) (k := m - T 210 0 c) (by omega) (show ¬ (T 232 0 (T 210 0 c + (m - T 210 0 c)) = cl ∨ T 233 0 (T 210 0 c + (m - T 210 0 c)) = cl) by rw [show T 210 0 c + (m - T 210 0 c) = m by omega]; omega)]
              exact ib
          · refine ix_i (by omega) ?_
            intro b12 b12b
            refine And.intro (fun c13 => ?_) (fun c13 => ?_)
            · refine hK 114 [some (vR 111 0), some (vI c), some (vI cl), some (vI la), some (vI mn), some (vI m), none] [] T ?_
              refine j_blx (F := fX11) tb_X11 (nn_ _) bk_X11_breaks_e_114 bs_X11_breaks_e_114 hz (fun K hK => ?_)
              refine And.intro (fun c14 => ?_) (fun c14 => ?_)
              · refine hK 129 [some (vR 111 0), some (vI c), some (vI cl), some (vI la), some (vI mn), some (vI m), some (vI 1)] [vI mn] T ?_
                refine j_blx (F := fX11) tb_X11 (nn_ _) bk_X11_breaks_e_129 bs_X11_breaks_e_129 hz (fun K hK => ?_)
                refine rg_i (by omega) ?_
                refine rg_i (by omega) ?_
                refine hK 59 [some (vR 111 0), some (vI c), some (vI cl), some (vI 1), some (vI (mn + 0)), some (vI (m + 1)), some (vI 1)] [] T ?_
                refine j_drop [some (vR 111 0), some (vI c), some (vI cl), some (vI 1), some (vI (mn + 0)), some (vI (m + 1)), none] (fun k v hk => ?_) rfl ?_
                · match k, hk with
                  | 0, hk => exact hk
                  | 1, hk => exact hk
                  | 2, hk => exact hk
                  | 3, hk => exact hk
                  | 4, hk => exact hk
                  | 5, hk => exact hk
                  | 6, hk => cases hk
                  | k + 7, hk => cases hk
                refine ih_59 _ ?_ 1 (mn + 0) (m + 1) (Nat.le_refl _) ?_ ?_ ?_ ?_ ?_
                · have hm_59 := hm_59 (); omega
                · omega
                · omega
                · exact hhe
                · first
                  | omega
                  | (have hml9 := hML c (by omega) (by omega); omega)
                · have em : (m + 1 - T 210 0 c).toNat = ((m - T 210 0 c) + 1).toNat := by omega
                  rw [em]
                  have y9 := bk9_u (H := fun m => T 232 0 m) (A := fun m => T 233 0 m) (b := cl) (f := T 210 0 c) (k := m - T 210 0 c) (by omega) (show T 232 0 (T 210 0 c + (m - T 210 0 c)) = cl ∨ T 233 0 (T 210 0 c + (m - T 210 0 c)) = cl by rw [show T 210 0 c + (m - T 210 0 c) = m by omega]; omega) (bs9_n (H := fun m => T 232 0 m) (show T 232 0 (T 210 0 c + (m - T 210 0 c)) ≠ cl by rw [show T 210 0 c + (m - T 210 0 c) = m by omega]; omega))
                  omega
              · refine hK 130 [some (vR 111 0), some (vI c), some (vI cl), some (vI la), some (vI mn), some (vI m), some (vI 1)] [vI 1, vI mn] T ?_
                refine j_blx (F := fX11) tb_X11 (nn_ _) bk_X11_breaks_e_130 bs_X11_breaks_e_130 hz (fun K hK => ?_)
                refine rg_i (by omega) ?_
                refine rg_i (by omega) ?_
                refine hK 59 [some (vR 111 0), some (vI c), some (vI cl), some (vI 1), some (vI (mn + 1)), some (vI (m + 1)), some (vI 1)] [] T ?_
                refine j_drop [some (vR 111 0), some (vI c), some (vI cl), some (vI 1), some (vI (mn + 1)), some (vI (m + 1)), none] (fun k v hk => ?_) rfl ?_
                · match k, hk with
                  | 0, hk => exact hk
                  | 1, hk => exact hk
                  | 2, hk => exact hk
                  | 3, hk => exact hk
                  | 4, hk => exact hk
                  | 5, hk => exact hk
                  | 6, hk => cases hk
                  | k + 7, hk => cases hk
                refine ih_59 _ ?_ 1 (mn + 1) (m + 1) (Nat.le_refl _) ?_ ?_ ?_ ?_ ?_
                · have hm_59 := hm_59 (); omega
                · omega
                · omega
                · exact hhe
                · first
                  | omega
                  | (have hml9 := hML c (by omega) (by omega); omega)
                · have em : (m + 1 - T 210 0 c).toNat = ((m - T 210 0 c) + 1).toNat := by omega
                  rw [em]
                  have y9 := bk9_u (H := fun m => T 232 0 m) (A := fun m => T 233 0 m) (b := cl) (f := T 210 0 c) (k := m - T 210 0 c) (by omega) (show T 232 0 (T 210 0 c + (m - T 210 0 c)) = cl ∨ T 233 0 (T 210 0 c + (m - T 210 0 c)) = cl by rw [show T 210 0 c + (m - T 210 0 c) = m by omega]; omega) (bs9_n (H := fun m => T 232 0 m) (show T 232 0 (T 210 0 c + (m - T 210 0 c)) ≠ cl by rw [show T 210 0 c + (m - T 210 0 c) = m by omega]; omega))
                  omega
            · refine hK 115 _ [vI 0] T ?_
              refine j_blx (F := fX11) tb_X11 (nn_ _) bk_X11_breaks_e_115 bs_X11_breaks_e_115 hz (fun K hK => ?_)
              refine And.intro (fun c15 => ?_) (fun c15 => ?_)
              · refine hK 129 [some (vR 111 0), some (vI c), some (vI cl), some (vI la), some (vI mn), some (vI m), some (vI 0)] [vI mn] T ?_
                refine j_blx (F := fX11) tb_X11 (nn_ _) bk_X11_breaks_e_129 bs_X11_breaks_e_129 hz (fun K hK => ?_)
                refine rg_i (by omega) ?_
                refine rg_i (by omega) ?_
                refine hK 59 [some (vR 111 0), some (vI c), some (vI cl), some (vI 0), some (vI (mn + 0)), some (vI (m + 1)), some (vI 0)] [] T ?_
                refine j_drop [some (vR 111 0), some (vI c), some (vI cl), some (vI 0), some (vI (mn + 0)), some (vI (m + 1)), none] (fun k v hk => ?_) rfl ?_
                · match k, hk with
                  | 0, hk => exact hk
                  | 1, hk => exact hk
                  | 2, hk => exact hk
                  | 3, hk => exact hk
                  | 4, hk => exact hk
                  | 5, hk => exact hk
                  | 6, hk => cases hk
                  | k + 7, hk => cases hk
                refine ih_59 _ ?_ 0 (mn + 0) (m + 1) (Nat.le_refl _) ?_ ?_ ?_ ?_ ?_
                · have hm_59 := hm_59 (); omega
                · omega
                · omega
                · exact hhe
                · first
                  | omega
                  | (have hml9 := hML c (by omega) (by omega); omega)
                · have em : (m + 1 - T 210 0 c).toNat = ((m - T 210 0 c) + 1).toNat := by omega
                  rw [em]
                  have y9 := bk9_u (H := fun m => T 232 0 m) (A := fun m => T 233 0 m) (b := cl) (f := T 210 0 c) (k := m - T 210 0 c) (by omega) (show T 232 0 (T 210 0 c + (m - T 210 0 c)) = cl ∨ T 233 0 (T 210 0 c + (m - T 210 0 c)) = cl by rw [show T 210 0 c + (m - T 210 0 c) = m by omega]; omega) (bs9_y (H := fun m => T 232 0 m) (show T 232 0 (T 210 0 c + (m - T 210 0 c)) = cl by rw [show T 210 0 c + (m - T 210 0 c) = m by omega]; omega))
                  omega
              · refine hK 130 [some (vR 111 0), some (vI c), some (vI cl), some (vI la), some (vI mn), some (vI m), some (vI 0)] [vI 1, vI mn] T ?_
                refine j_blx (F := fX11) tb_X11 (nn_ _) bk_X11_breaks_e_130 bs_X11_breaks_e_130 hz (fun K hK => ?_)
                refine rg_i (by omega) ?_
                refine rg_i (by omega) ?_
                refine hK 59 [some (vR 111 0), some (vI c), some (vI cl), some (vI 0), some (vI (mn + 1)), some (vI (m + 1)), some (vI 0)] [] T ?_
                refine j_drop [some (vR 111 0), some (vI c), some (vI cl), some (vI 0), some (vI (mn + 1)), some (vI (m + 1)), none] (fun k v hk => ?_) rfl ?_
                · match k, hk with
                  | 0, hk => exact hk
                  | 1, hk => exact hk
                  | 2, hk => exact hk
                  | 3, hk => exact hk
                  | 4, hk => exact hk
                  | 5, hk => exact hk
                  | 6, hk => cases hk
                  | k + 7, hk => cases hk
                refine ih_59 _ ?_ 0 (mn + 1) (m + 1) (Nat.le_refl _) ?_ ?_ ?_ ?_ ?_
                · have hm_59 := hm_59 (); omega
                · omega
                · omega
                · exact hhe
                · first
                  | omega
                  | (have hml9 := hML c (by omega) (by omega); omega)
                · have em : (m + 1 - T 210 0 c).toNat = ((m - T 210 0 c) + 1).toNat := by omega
                  rw [em]
                  have y9 := bk9_u (H := fun m => T 232 0 m) (A := fun m => T 233 0 m) (b := cl) (f := T 210 0 c) (k := m - T 210 0 c) (by omega) (show T 232 0 (T 210 0 c + (m - T 210 0 c)) = cl ∨ T 233 0 (T 210 0 c + (m - T 210 0 c)) = cl by rw [show T 210 0 c + (m - T 210 0 c) = m by omega]; omega) (bs9_y (H := fun m => T 232 0 m) (show T 232 0 (T 210 0 c + (m - T 210 0 c)) = cl by rw [show T 210 0 c + (m - T 210 0 c) = m by omega]; omega))
                  omega
  refine j_blx (F := fX11) tb_X11 (nn_ _) bk_X11_breaks_e_0 bs_X11_breaks_e_0 hz (fun K hK => ?_)
  intro b16 b16b
  refine hK 5 _ [vI (T 111 0 6), vI c] T ?_
  refine j_callS (y := yX11_isOf) (Yc := zX11_isOf) (rest := []) [vI c, vI (T 111 0 6)] (ct_X11_isOf (T := T) (by omega)) cl_X11_317 (qd_c (by decide +kernel)) (nn_ _) rfl (rf_of rfl) (Nat.le_of_ble_eq_true rfl) (Nat.le_of_ble_eq_true rfl) (Nat.le_of_ble_eq_true rfl) rfl ?_
  rintro _ _ ⟨rfl, x17, rfl, hx17⟩
  show J_ zX11_breaks T (po_X11_breaks_e T c cl) 0 0 8 _ [vI x17] T
  refine j_blx (F := fX11) tb_X11 (nn_ _) bk_X11_breaks_e_8 bs_X11_breaks_e_8 hz (fun K hK => ?_)
  refine And.intro (fun c18 => ?_) (fun c18 => ?_)
  · replace hx17 := hx17.resolve_left (fun z => absurd (c18.symm.trans z.1) (by decide))
    clear c18
    refine hK 22 _ [] T ?_
    refine j_blx (F := fX11) tb_X11 (nn_ _) bk_X11_breaks_e_22 bs_X11_breaks_e_22 hz (fun K hK => ?_)
    refine (show po_X11_breaks_e T c cl T (some (vI (-2))) from ?_)
    exact ⟨rfl, _, rfl, Or.inl ⟨rfl, by omega⟩⟩
  · replace hx17 := hx17.resolve_right (fun z => c18 z.1)
    clear c18
    intro b19 b19b
    refine hK 16 _ [vI (T 111 0 12), vI cl] T ?_
    refine j_callS (y := yX11_isOf) (Yc := zX11_isOf) (rest := []) [vI cl, vI (T 111 0 12)] (ct_X11_isOf (T := T) (by omega)) cl_X11_317 (qd_c (by decide +kernel)) (nn_ _) rfl (rf_of rfl) (Nat.le_of_ble_eq_true rfl) (Nat.le_of_ble_eq_true rfl) (Nat.le_of_ble_eq_true rfl) rfl ?_
    rintro _ _ ⟨rfl, x20, rfl, hx20⟩
    show J_ zX11_breaks T (po_X11_breaks_e T c cl) 0 0 19 _ [vI x20] T
    refine j_blx (F := fX11) tb_X11 (nn_ _) bk_X11_breaks_e_19 bs_X11_breaks_e_19 hz (fun K hK => ?_)
    refine And.intro (fun c21 => ?_) (fun c21 => ?_)
    · replace hx20 := hx20.resolve_right (fun z => c21 z.1)
      clear c21
      refine hK 25 _ [] T ?_
      refine j_blx (F := fX11) tb_X11 (nn_ _) bk_X11_breaks_e_25 bs_X11_breaks_e_25 hz (fun K hK => ?_)
      refine ix_i (by omega) ?_
      intro b22 b22b
      refine And.intro (fun c23 => ?_) (fun c23 => ?_)
      · refine hK 43 _ [] T ?_
        refine j_blx (F := fX11) tb_X11 (nn_ _) bk_X11_breaks_e_43 bs_X11_breaks_e_43 hz (fun K hK => ?_)
        refine (show po_X11_breaks_e T c cl T (some (vI (-4))) from ?_)
        exact ⟨rfl, _, rfl, Or.inr ⟨by omega, Or.inl ⟨rfl, Or.inl (by omega)⟩⟩⟩
      · refine hK 37 _ [vI cl, vI c, vR 111 0] T ?_
        refine j_callV (y := yX11_hasEntered) (Yc := zX11_hasEntered) (rest := []) [vI c, vI cl] (ct_X11_hasEntered (T := T) (by omega)) cl_X11_340 (qd_c (by decide +kernel)) (nn_ _) rfl (rf_of rfl) (Nat.le_of_ble_eq_true rfl) (Nat.le_of_ble_eq_true rfl) (Nat.le_of_ble_eq_true rfl) rfl ?_
        rintro _ _ ⟨rfl, x24, rfl, hx24⟩
        show J_ zX11_breaks T (po_X11_breaks_e T c cl) 0 0 40 _ [vI x24] T
        refine j_blx (F := fX11) tb_X11 (nn_ _) bk_X11_breaks_e_40 bs_X11_breaks_e_40 hz (fun K hK => ?_)
        refine And.intro (fun c25 => ?_) (fun c25 => ?_)
        · refine hK 46 _ [] T ?_
          have hb211 : 0 ≤ T 211 0 c ∧ T 211 0 c ≤ 400 := bd_a hT 211 (by decide +kernel : ta_ 211 = some (1, some 4, 0, 400)) 0 (by omega)
          have hb210 : 0 ≤ T 210 0 c ∧ T 210 0 c ≤ 400 := bd_a hT 210 (by decide +kernel : ta_ 210 = some (1, some 4, 0, 400)) 0 (by omega)
          refine j_blx (F := fX11) tb_X11 (nn_ _) bk_X11_breaks_e_46 bs_X11_breaks_e_46 hz (fun K hK => ?_)
          refine ix_i (by omega) ?_
          intro b26 b26b
          refine hK 59 [some (vR 111 0), some (vI c), some (vI cl), some (vI (-1)), some (vI 0), some (vI (T 210 0 c)), none] [] T ?_
          refine c_59 _ (-1) 0 (T 210 0 c) (Nat.le_refl _) ?_ ?_ ?_ ?_ ?_
          · omega
          · omega
          · exact (hx24.resolve_right (fun z => by omega)).2
          · first
            | omega
            | (have hml9 := hML c (by omega) (by omega); omega)
          · rw [show (T 210 0 c - T 210 0 c).toNat = 0 by omega]
            exact ⟨rfl, rfl⟩
        · refine (show po_X11_breaks_e T c cl T (some (vI (-4))) from ?_)
          exact ⟨rfl, _, rfl, Or.inr ⟨by omega, Or.inl ⟨rfl, by first | exact Or.inl (by omega) | exact Or.inr (hx24.resolve_left (fun z => by omega)).2⟩⟩⟩
    · replace hx20 := hx20.resolve_left (fun z => absurd (c21.symm.trans z.1) (by decide))
      clear c21
      refine (show po_X11_breaks_e T c cl T (some (vI (-2))) from ?_)
      exact ⟨rfl, _, rfl, Or.inl ⟨rfl, by omega⟩⟩
