theorem bk_X10_plan_s_0 : ck_ fX10 (some .int) cX10_plan 0 [.aload 0, .iload 1] 2 = true := qck_r (nn_ _) (by decide +kernel)
theorem bs_X10_plan_s_0 {P : Zt → Option Zv → Prop} (K : Int → Zl → List Zv → Zt → Prop) : sx_ K P [.aload 0, .iload 1] 2 = x_aload 0 (x_iload 1 (K 2)) := ((xe_aload 0).trans (congrArg (x_aload 0) ((xe_iload 1).trans (congrArg (x_iload 1) xe_nil))))
theorem bk_X10_plan_s_5 : ck_ fX10 (some .int) cX10_plan 5 [.ifCond .ne 11, .iconst (-2), .ireturn] 11 = true := qck_r (nn_ _) (by decide +kernel)
theorem bs_X10_plan_s_5 {P : Zt → Option Zv → Prop} (K : Int → Zl → List Zv → Zt → Prop) : sx_ K P [.ifCond .ne 11, .iconst (-2), .ireturn] 11 = x_ifCond .ne 11 K (x_iconst (-2) (x_ireturn P)) := ((xe_ifCond .ne 11).trans (congrArg (x_ifCond .ne 11 K) ((xe_iconst (-2)).trans (congrArg (x_iconst (-2)) (xe_ireturn)))))
theorem bk_X10_plan_s_11 : ck_ fX10 (some .int) cX10_plan 11 [.iload 2] 12 = true := qck_r (nn_ _) (by decide +kernel)
theorem bs_X10_plan_s_11 {P : Zt → Option Zv → Prop} (K : Int → Zl → List Zv → Zt → Prop) : sx_ K P [.iload 2] 12 = x_iload 2 (K 12) := ((xe_iload 2).trans (congrArg (x_iload 2) xe_nil))
theorem bk_X10_plan_s_15 : ck_ fX10 (some .int) cX10_plan 15 [.ifCond .eq 29, .iload 2, .aload 0, .tableswitch 0 10 1 #[], .tableswitch 0 8 13 #[], .if_icmp .ge 32, .iconst (-3), .ireturn] 32 = true := qck_r (nn_ _) (by decide +kernel)
theorem bs_X10_plan_s_15 {P : Zt → Option Zv → Prop} (K : Int → Zl → List Zv → Zt → Prop) : sx_ K P [.ifCond .eq 29, .iload 2, .aload 0, .tableswitch 0 10 1 #[], .tableswitch 0 8 13 #[], .if_icmp .ge 32, .iconst (-3), .ireturn] 32 = x_ifCond .eq 29 K (x_iload 2 (x_aload 0 (x_g1 110 108 (x_g0 108 13 0 999 (x_if_icmp .ge 32 K (x_iconst (-3) (x_ireturn P))))))) := ((xe_ifCond .eq 29).trans (congrArg (x_ifCond .eq 29 K) ((xe_iload 2).trans (congrArg (x_iload 2) ((xe_aload 0).trans (congrArg (x_aload 0) ((xe_g1 (kk := 110) rfl tl_10_1).trans (congrArg (x_g1 110 108) ((xe_g0 (kk := 108) rfl tl_8_13).trans (congrArg (x_g0 108 13 0 999) ((xe_if_icmp .ge 32).trans (congrArg (x_if_icmp .ge 32 K) ((xe_iconst (-3)).trans (congrArg (x_iconst (-3)) (xe_ireturn)))))))))))))))
theorem bk_X10_plan_s_29 : ck_ fX10 (some .int) cX10_plan 29 [.iconst (-3), .ireturn] 32 = true := qck_r (nn_ _) (by decide +kernel)
theorem bs_X10_plan_s_29 {P : Zt → Option Zv → Prop} (K : Int → Zl → List Zv → Zt → Prop) : sx_ K P [.iconst (-3), .ireturn] 32 = x_iconst (-3) (x_ireturn P) := ((xe_iconst (-3)).trans (congrArg (x_iconst (-3)) (xe_ireturn)))
theorem bk_X10_plan_s_32 : ck_ fX10 (some .int) cX10_plan 32 [.aload 0, .tableswitch 0 10 2 #[], .tableswitch 0 6 1 #[], .iload 1, .aaload, .astore 3, .aload 3, .tableswitch 0 0 6 #[], .ifCond .ne 69, .aload 3, .tableswitch 0 0 5 #[], .iconst 2, .if_icmp .lt 69, .iload 2, .aload 3] 59 = true := qck_r (nn_ _) (by decide +kernel)
theorem bs_X10_plan_s_32 {P : Zt → Option Zv → Prop} (K : Int → Zl → List Zv → Zt → Prop) : sx_ K P [.aload 0, .tableswitch 0 10 2 #[], .tableswitch 0 6 1 #[], .iload 1, .aaload, .astore 3, .aload 3, .tableswitch 0 0 6 #[], .ifCond .ne 69, .aload 3, .tableswitch 0 0 5 #[], .iconst 2, .if_icmp .lt 69, .iload 2, .aload 3] 59 = x_aload 0 (x_g1 110 106 (x_g1 106 521 (x_iload 1 (x_aaload (x_astore 3 (x_aload 3 (x_g0 100 6 0 1 (x_ifCond .ne 69 K (x_aload 3 (x_g0 100 5 0 12 (x_iconst 2 (x_if_icmp .lt 69 K (x_iload 2 (x_aload 3 (K 59))))))))))))))) := ((xe_aload 0).trans (congrArg (x_aload 0) ((xe_g1 (kk := 110) rfl tl_10_2).trans (congrArg (x_g1 110 106) ((xe_g1 (kk := 106) rfl tl_6_1).trans (congrArg (x_g1 106 521) ((xe_iload 1).trans (congrArg (x_iload 1) ((xe_aaload).trans (congrArg (x_aaload) ((xe_astore 3).trans (congrArg (x_astore 3) ((xe_aload 3).trans (congrArg (x_aload 3) ((xe_g0 (kk := 100) rfl tl_0_6).trans (congrArg (x_g0 100 6 0 1) ((xe_ifCond .ne 69).trans (congrArg (x_ifCond .ne 69 K) ((xe_aload 3).trans (congrArg (x_aload 3) ((xe_g0 (kk := 100) rfl tl_0_5).trans (congrArg (x_g0 100 5 0 12) ((xe_iconst 2).trans (congrArg (x_iconst 2) ((xe_if_icmp .lt 69).trans (congrArg (x_if_icmp .lt 69 K) ((xe_iload 2).trans (congrArg (x_iload 2) ((xe_aload 3).trans (congrArg (x_aload 3) xe_nil))))))))))))))))))))))))))))))
theorem bk_X10_plan_s_69 : ck_ fX10 (some .int) cX10_plan 69 [.iconst (-4), .ireturn] 72 = true := qck_r (nn_ _) (by decide +kernel)
theorem bs_X10_plan_s_69 {P : Zt → Option Zv → Prop} (K : Int → Zl → List Zv → Zt → Prop) : sx_ K P [.iconst (-4), .ireturn] 72 = x_iconst (-4) (x_ireturn P) := ((xe_iconst (-4)).trans (congrArg (x_iconst (-4)) (xe_ireturn)))
theorem bk_X10_plan_s_62 : ck_ fX10 (some .int) cX10_plan 62 [.iadd, .iconst 999, .if_icmp .le 72, .iconst (-4), .ireturn] 72 = true := qck_r (nn_ _) (by decide +kernel)
theorem bs_X10_plan_s_62 {P : Zt → Option Zv → Prop} (K : Int → Zl → List Zv → Zt → Prop) : sx_ K P [.iadd, .iconst 999, .if_icmp .le 72, .iconst (-4), .ireturn] 72 = x_iadd (x_iconst 999 (x_if_icmp .le 72 K (x_iconst (-4) (x_ireturn P)))) := ((xe_iadd).trans (congrArg (x_iadd) ((xe_iconst 999).trans (congrArg (x_iconst 999) ((xe_if_icmp .le 72).trans (congrArg (x_if_icmp .le 72 K) ((xe_iconst (-4)).trans (congrArg (x_iconst (-4)) (xe_ireturn)))))))))
theorem bk_X10_plan_s_72 : ck_ fX10 (some .int) cX10_plan 72 [.aload 0, .tableswitch 0 10 2 #[], .tableswitch 0 6 4 #[], .aload 3] 80 = true := qck_r (nn_ _) (by decide +kernel)
theorem bs_X10_plan_s_72 {P : Zt → Option Zv → Prop} (K : Int → Zl → List Zv → Zt → Prop) : sx_ K P [.aload 0, .tableswitch 0 10 2 #[], .tableswitch 0 6 4 #[], .aload 3] 80 = x_aload 0 (x_g1 110 106 (x_g0 106 4 0 400 (x_aload 3 (K 80)))) := ((xe_aload 0).trans (congrArg (x_aload 0) ((xe_g1 (kk := 110) rfl tl_10_2).trans (congrArg (x_g1 110 106) ((xe_g0 (kk := 106) rfl tl_6_4).trans (congrArg (x_g0 106 4 0 400) ((xe_aload 3).trans (congrArg (x_aload 3) xe_nil))))))))
theorem bk_X10_plan_s_83 : ck_ fX10 (some .int) cX10_plan 83 [.iadd, .iconst 400, .if_icmp .le 93, .iconst (-5), .ireturn] 93 = true := qck_r (nn_ _) (by decide +kernel)
theorem bs_X10_plan_s_83 {P : Zt → Option Zv → Prop} (K : Int → Zl → List Zv → Zt → Prop) : sx_ K P [.iadd, .iconst 400, .if_icmp .le 93, .iconst (-5), .ireturn] 93 = x_iadd (x_iconst 400 (x_if_icmp .le 93 K (x_iconst (-5) (x_ireturn P)))) := ((xe_iadd).trans (congrArg (x_iadd) ((xe_iconst 400).trans (congrArg (x_iconst 400) ((xe_if_icmp .le 93).trans (congrArg (x_if_icmp .le 93 K) ((xe_iconst (-5)).trans (congrArg (x_iconst (-5)) (xe_ireturn)))))))))
theorem bk_X10_plan_s_93 : ck_ fX10 (some .int) cX10_plan 93 [.aload 0, .tableswitch 0 10 2 #[], .aload 3, .iload 2] 99 = true := qck_r (nn_ _) (by decide +kernel)
theorem bs_X10_plan_s_93 {P : Zt → Option Zv → Prop} (K : Int → Zl → List Zv → Zt → Prop) : sx_ K P [.aload 0, .tableswitch 0 10 2 #[], .aload 3, .iload 2] 99 = x_aload 0 (x_g1 110 106 (x_aload 3 (x_iload 2 (K 99)))) := ((xe_aload 0).trans (congrArg (x_aload 0) ((xe_g1 (kk := 110) rfl tl_10_2).trans (congrArg (x_g1 110 106) ((xe_aload 3).trans (congrArg (x_aload 3) ((xe_iload 2).trans (congrArg (x_iload 2) xe_nil))))))))
theorem bk_X10_plan_s_102 : ck_ fX10 (some .int) cX10_plan 102 [.aload 3, .tableswitch 0 0 7 #[], .ireturn] 107 = true := qck_r (nn_ _) (by decide +kernel)
theorem bs_X10_plan_s_102 {P : Zt → Option Zv → Prop} (K : Int → Zl → List Zv → Zt → Prop) : sx_ K P [.aload 3, .tableswitch 0 0 7 #[], .ireturn] 107 = x_aload 3 (x_g0 100 7 0 400 (x_ireturn P)) := ((xe_aload 3).trans (congrArg (x_aload 3) ((xe_g0 (kk := 100) rfl tl_0_7).trans (congrArg (x_g0 100 7 0 400) (xe_ireturn)))))
abbrev po_X10_plan_s (T : Zt) (c b : Int) : Zt → Option Zv → Prop := fun T' r => ∃ x : Int, r = some (vI x) ∧ (T' = T ∨ SJ_ T T' c) ∧ PH9_ T T' c b x ∧ SQ8_ T T'
set_option maxHeartbeats 4000000 in
theorem ct_X10_plan_s {T : Zt} {c b : Int} (hka : KA_ T) (hke : KE_ T) (hkb : KB_ T) (hna : NA_ T) : Ct_ yX10_plan zX10_plan T [vR 110 0, vI c, vI b] (po_X10_plan_s T c b) := by
  refine ct_of pn_10 rfl rfl (Nat.le_of_ble_eq_true rfl) (fun hT hav => ?_)
  have hr_c : -2147483648 ≤ c ∧ c ≤ 2147483647 := hav (vI c) (List.mem_cons_of_mem _ List.mem_cons_self)
  have hr_b : -2147483648 ≤ b ∧ b ≤ 2147483647 := hav (vI b) (List.mem_cons_of_mem _ (List.mem_cons_of_mem _ List.mem_cons_self))
  have hz : zX10_plan.2.2.2.1 = some .boolean → ∀ (T' : Zt) (x : Int), po_X10_plan_s T c b T' (some (vI x)) → 0 ≤ x ∧ x ≤ 1 := fun h => by cases h
  have hb_matchCount : 0 ≤ T 106 0 4 ∧ T 106 0 4 ≤ 400 := bd_f hT 106 4 tl_6_4 0
  have hb_competitionCount : 0 ≤ T 106 0 2 ∧ T 106 0 2 ≤ 4 := bd_f hT 106 2 tl_6_2 0
  have hb5 : 0 ≤ T 100 c 5 ∧ T 100 c 5 ≤ 12 := bd_f hT 100 5 tl_0_5 c
  show J_ zX10_plan T (po_X10_plan_s T c b) 792 8976 0 [some (vR 110 0), some (vI c), some (vI b), none] [] T
  refine j_blx (F := fX10) tb_X10 (nn_ _) bk_X10_plan_s_0 bs_X10_plan_s_0 hz (fun K hK => ?_)
  refine hK 2 _ [vI c, vR 110 0] T ?_
  refine j_callV (y := yX10_isCompetition) (Yc := zX10_isCompetition) (rest := []) [vI c] (ct_X10_isCompetition (T := T)) cl_X10_107 (qd_c (by decide +kernel)) (nn_ _) rfl (rf_of rfl) (Nat.le_of_ble_eq_true rfl) (Nat.le_of_ble_eq_true rfl) (Nat.le_of_ble_eq_true rfl) rfl ?_
  rintro _ _ ⟨rfl, x1, rfl, hx1⟩
  show J_ zX10_plan T (po_X10_plan_s T c b) 792 8976 5 _ [vI x1] T
  refine j_blx (F := fX10) tb_X10 (nn_ _) bk_X10_plan_s_5 bs_X10_plan_s_5 hz (fun K hK => ?_)
  refine And.intro (fun c2 => ?_) (fun c2 => ?_)
  · replace hx1 := hx1.resolve_right (fun z => c2 z.1)
    clear c2
    refine hK 11 _ [] T ?_
    refine j_blx (F := fX10) tb_X10 (nn_ _) bk_X10_plan_s_11 bs_X10_plan_s_11 hz (fun K hK => ?_)
    refine hK 12 _ [vI b] T ?_
    refine j_callS (y := yX10_isDay) (Yc := zX10_isDay) (rest := []) [vI b] (ct_X10_isDay (T := T)) cl_X10_140 (qd_c (by decide +kernel)) (nn_ _) rfl (rf_of rfl) (Nat.le_of_ble_eq_true rfl) (Nat.le_of_ble_eq_true rfl) (Nat.le_of_ble_eq_true rfl) rfl ?_
    rintro _ _ ⟨rfl, x3, rfl, hx3⟩
    show J_ zX10_plan T (po_X10_plan_s T c b) 792 8976 15 _ [vI x3] T
    refine j_blx (F := fX10) tb_X10 (nn_ _) bk_X10_plan_s_15 bs_X10_plan_s_15 hz (fun K hK => ?_)
    refine And.intro (fun c4 => ?_) (fun c4 => ?_)
    · replace hx3 := hx3.resolve_left (fun z => absurd (c4.symm.trans z.1) (by decide))
      clear c4
      refine hK 29 _ [] T ?_
      refine j_blx (F := fX10) tb_X10 (nn_ _) bk_X10_plan_s_29 bs_X10_plan_s_29 hz (fun K hK => ?_)
      refine (show po_X10_plan_s T c b T (some (vI (-3))) from ?_)
      exact ⟨_, rfl, Or.inl rfl, Or.inl ⟨rfl, Or.inr (Or.inl ⟨by omega, rfl, by omega⟩)⟩, sq8_r⟩
    · replace hx3 := hx3.resolve_right (fun z => c4 z.1)
      clear c4
      intro b5 b5b
      refine And.intro (fun c6 => ?_) (fun c6 => ?_)
      · refine hK 32 _ [] T ?_
        refine j_blx (F := fX10) tb_X10 (nn_ _) bk_X10_plan_s_32 bs_X10_plan_s_32 hz (fun K hK => ?_)
        refine ix_i (by omega) ?_
        refine And.intro (fun c7 => ?_) (fun c7 => ?_)
        · exact absurd (show T 521 0 c = 0 by omega) (hka.1 _ (by omega) (by omega))
        · have hB := hkb c (by omega) (by omega)
          intro b8 b8b
          refine And.intro (fun c9 => ?_) (fun c9 => ?_)
          · refine hK 69 [some (vR 110 0), some (vI c), some (vI b), some (vR 100 c)] [] T ?_
            refine j_blx (F := fX10) tb_X10 (nn_ _) bk_X10_plan_s_69 bs_X10_plan_s_69 hz (fun K hK => ?_)
            refine (show po_X10_plan_s T c b T (some (vI (-4))) from ?_)
            exact ⟨_, rfl, Or.inl rfl, Or.inl ⟨rfl, Or.inr (Or.inr (Or.inl ⟨by omega, by omega, rfl, by omega⟩))⟩, sq8_r⟩
          · intro b10 b10b
            refine And.intro (fun c11 => ?_) (fun c11 => ?_)
            · refine hK 69 _ [] T ?_
              refine j_blx (F := fX10) tb_X10 (nn_ _) bk_X10_plan_s_69 bs_X10_plan_s_69 hz (fun K hK => ?_)
              refine (show po_X10_plan_s T c b T (some (vI (-4))) from ?_)
              exact ⟨_, rfl, Or.inl rfl, Or.inl ⟨rfl, Or.inr (Or.inr (Or.inl ⟨by omega, by omega, rfl, by omega⟩))⟩, sq8_r⟩
            · refine hK 59 _ [vR 100 c, vI b] T ?_
              refine j_callV (y := yX0_daysFromFirstToLast) (Yc := zX0_daysFromFirstToLast) (rest := [vI b]) [] (ct_X0_daysFromFirstToLast (T := T) (by exact hB.1) (by exact hB.2) (by omega)) cl_X10_178 (qd_c (by decide +kernel)) (nn_ _) rfl (rf_of rfl) (Nat.le_of_ble_eq_true rfl) (Nat.le_of_ble_eq_true rfl) (Nat.le_of_ble_eq_true rfl) rfl ?_
              rintro _ _ ⟨rfl, x12, rfl, hx12⟩
              show J_ zX10_plan T (po_X10_plan_s T c b) 792 8976 62 _ [vI x12, vI b] T
              refine j_blx (F := fX10) tb_X10 (nn_ _) bk_X10_plan_s_62 bs_X10_plan_s_62 hz (fun K hK => ?_)
              have hp1 := an_1b (T 100 c 5)
              have y9 := dy_b (R := T 100 c 5 + an_ (T 100 c 5) 1 - 1) (x := x12) hB ⟨by omega, by omega, hx12⟩
              refine rg_i (by omega) ?_
              refine And.intro (fun c13 => ?_) (fun c13 => ?_)
              · refine hK 72 _ [] T ?_
                refine j_blx (F := fX10) tb_X10 (nn_ _) bk_X10_plan_s_72 bs_X10_plan_s_72 hz (fun K hK => ?_)
                intro b14 b14b
                refine hK 80 _ [vR 100 c, vI (T 106 0 4)] T ?_
                refine j_callV (y := yX0_fixtureCount) (Yc := zX0_fixtureCount) (rest := [vI (T 106 0 4)]) [] (ct_X0_fixtureCount_e (T := T) (by exact hB.1) (by omega)) cl_X10_185 (qd_c (by decide +kernel)) (nn_ _) rfl (rf_of rfl) (Nat.le_of_ble_eq_true rfl) (Nat.le_of_ble_eq_true rfl) (Nat.le_of_ble_eq_true rfl) rfl ?_
                rintro _ _ ⟨rfl, x15, rfl, hx15⟩
                show J_ zX10_plan T (po_X10_plan_s T c b) 792 8976 83 _ [vI x15, vI (T 106 0 4)] T
                refine j_blx (F := fX10) tb_X10 (nn_ _) bk_X10_plan_s_83 bs_X10_plan_s_83 hz (fun K hK => ?_)
                refine rg_i (by omega) ?_
                refine And.intro (fun c16 => ?_) (fun c16 => ?_)
                · refine hK 93 _ [] T ?_
                  refine j_blx (F := fX10) tb_X10 (nn_ _) bk_X10_plan_s_93 bs_X10_plan_s_93 hz (fun K hK => ?_)
                  refine hK 99 _ [vI b, vR 100 c, vR 106 0] T ?_
                  refine j_callV (y := yX6_schedule) (Yc := zX6_schedule) (rest := []) [vR 100 c, vI b] (ct_X6_schedule_s (T := T) (by omega) hB.1 hB.2 (by omega) (by omega) (hke c (by omega) (by omega)) hka hna (by omega)) cl_X10_188 (qd_c (by decide +kernel)) (nn_ _) rfl (rf_of rfl) (Nat.le_of_ble_eq_true rfl) (Nat.le_of_ble_eq_true rfl) (Nat.le_of_ble_eq_true rfl) rfl ?_
                  rintro U17 _ ⟨rfl, fU17, odU17, qU17, tU17, ocU17, skU17, apU17⟩
                  show J_ zX10_plan T (po_X10_plan_s T c b) 0 0 102 _ [] U17
                  refine j_blx (F := fX10) tb_X10 (nn_ _) bk_X10_plan_s_102 bs_X10_plan_s_102 hz (fun K hK => ?_)
                  intro b19 b19b
                  refine (show po_X10_plan_s T c b U17 (some (vI (U17 100 c 7))) from ?_)
                  have sj : SJ_ T U17 c := ⟨⟨by omega, by omega, by omega⟩, fU17, odU17, qU17, tU17, ocU17⟩
                  exact ⟨_, rfl, Or.inr sj, Or.inr ⟨by omega, by omega, by omega, by omega, by omega, by omega, by omega, sj, apU17⟩, skU17⟩
                · refine (show po_X10_plan_s T c b T (some (vI (-5))) from ?_)
                  exact ⟨_, rfl, Or.inl rfl, Or.inl ⟨rfl, Or.inr (Or.inr (Or.inr ⟨by omega, by omega, by omega, by omega, by omega, rfl, by omega⟩))⟩, sq8_r⟩
              · refine (show po_X10_plan_s T c b T (some (vI (-4))) from ?_)
                exact ⟨_, rfl, Or.inl rfl, Or.inl ⟨rfl, Or.inr (Or.inr (Or.inl ⟨by omega, by omega, rfl, by omega⟩))⟩, sq8_r⟩
      · refine (show po_X10_plan_s T c b T (some (vI (-3))) from ?_)
        exact ⟨_, rfl, Or.inl rfl, Or.inl ⟨rfl, Or.inr (Or.inl ⟨by omega, rfl, by omega⟩)⟩, sq8_r⟩
  · replace hx1 := hx1.resolve_left (fun z => absurd (c2.symm.trans z.1) (by decide))
    clear c2
    refine (show po_X10_plan_s T c b T (some (vI (-2))) from ?_)
    exact ⟨_, rfl, Or.inl rfl, Or.inl ⟨rfl, Or.inl ⟨rfl, by omega⟩⟩, sq8_r⟩
