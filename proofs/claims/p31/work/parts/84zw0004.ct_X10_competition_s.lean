theorem bk_X10_competition_s_0 : ck_ fX10 (some .int) cX10_competition 0 [.aload 0, .tableswitch 0 10 2 #[], .tableswitch 0 6 2 #[], .iconst 4, .if_icmp .lt 22, .aload 0, .tableswitch 0 10 0 #[], .iconst (-1), .tableswitch 1 5 3 #[], .iconst (-5), .ireturn] 22 = true := qck_r (nn_ _) (by decide +kernel)
theorem bs_X10_competition_s_0 {P : Zt → Option Zv → Prop} (K : Int → Zl → List Zv → Zt → Prop) : sx_ K P [.aload 0, .tableswitch 0 10 2 #[], .tableswitch 0 6 2 #[], .iconst 4, .if_icmp .lt 22, .aload 0, .tableswitch 0 10 0 #[], .iconst (-1), .tableswitch 1 5 3 #[], .iconst (-5), .ireturn] 22 = x_aload 0 (x_g1 110 106 (x_g0 106 2 0 4 (x_iconst 4 (x_if_icmp .lt 22 K (x_aload 0 (x_g1 110 105 (x_iconst (-1) (x_p 105 3 (-1) 400 (x_iconst (-5) (x_ireturn P)))))))))) := ((xe_aload 0).trans (congrArg (x_aload 0) ((xe_g1 (kk := 110) rfl tl_10_2).trans (congrArg (x_g1 110 106) ((xe_g0 (kk := 106) rfl tl_6_2).trans (congrArg (x_g0 106 2 0 4) ((xe_iconst 4).trans (congrArg (x_iconst 4) ((xe_if_icmp .lt 22).trans (congrArg (x_if_icmp .lt 22 K) ((xe_aload 0).trans (congrArg (x_aload 0) ((xe_g1 (kk := 110) rfl tl_10_0).trans (congrArg (x_g1 110 105) ((xe_iconst (-1)).trans (congrArg (x_iconst (-1)) ((xe_p (kk := 105) rfl tl_5_3).trans (congrArg (x_p 105 3 (-1) 400) ((xe_iconst (-5)).trans (congrArg (x_iconst (-5)) (xe_ireturn)))))))))))))))))))))
theorem bk_X10_competition_s_22 : ck_ fX10 (some .int) cX10_competition 22 [.aload 0, .tableswitch 0 10 0 #[]] 26 = true := qck_r (nn_ _) (by decide +kernel)
theorem bs_X10_competition_s_22 {P : Zt → Option Zv → Prop} (K : Int → Zl → List Zv → Zt → Prop) : sx_ K P [.aload 0, .tableswitch 0 10 0 #[]] 26 = x_aload 0 (x_g1 110 105 (K 26)) := ((xe_aload 0).trans (congrArg (x_aload 0) ((xe_g1 (kk := 110) rfl tl_10_0).trans (congrArg (x_g1 110 105) xe_nil))))
theorem bk_X10_competition_s_29 : ck_ fX10 (some .int) cX10_competition 29 [.istore 1, .aload 0, .tableswitch 0 10 0 #[], .iconst 0, .tableswitch 1 5 1 #[], .iload 1, .ifCond .ne 53, .iconst (-10), .aload 0, .tableswitch 0 10 0 #[], .tableswitch 0 5 2 #[], .isub, .ireturn] 53 = true := qck_r (nn_ _) (by decide +kernel)
theorem bs_X10_competition_s_29 {P : Zt → Option Zv → Prop} (K : Int → Zl → List Zv → Zt → Prop) : sx_ K P [.istore 1, .aload 0, .tableswitch 0 10 0 #[], .iconst 0, .tableswitch 1 5 1 #[], .iload 1, .ifCond .ne 53, .iconst (-10), .aload 0, .tableswitch 0 10 0 #[], .tableswitch 0 5 2 #[], .isub, .ireturn] 53 = x_istore 1 (x_aload 0 (x_g1 110 105 (x_iconst 0 (x_p 105 1 0 400 (x_iload 1 (x_ifCond .ne 53 K (x_iconst (-10) (x_aload 0 (x_g1 110 105 (x_g0 105 2 0 5 (x_isub (x_ireturn P)))))))))))) := ((xe_istore 1).trans (congrArg (x_istore 1) ((xe_aload 0).trans (congrArg (x_aload 0) ((xe_g1 (kk := 110) rfl tl_10_0).trans (congrArg (x_g1 110 105) ((xe_iconst 0).trans (congrArg (x_iconst 0) ((xe_p (kk := 105) rfl tl_5_1).trans (congrArg (x_p 105 1 0 400) ((xe_iload 1).trans (congrArg (x_iload 1) ((xe_ifCond .ne 53).trans (congrArg (x_ifCond .ne 53 K) ((xe_iconst (-10)).trans (congrArg (x_iconst (-10)) ((xe_aload 0).trans (congrArg (x_aload 0) ((xe_g1 (kk := 110) rfl tl_10_0).trans (congrArg (x_g1 110 105) ((xe_g0 (kk := 105) rfl tl_5_2).trans (congrArg (x_g0 105 2 0 5) ((xe_isub).trans (congrArg (x_isub) (xe_ireturn)))))))))))))))))))))))))
theorem bk_X10_competition_s_53 : ck_ fX10 (some .int) cX10_competition 53 [.aload 0, .tableswitch 0 10 2 #[], .tableswitch 0 6 2 #[], .istore 2, .aload 0, .tableswitch 0 10 2 #[], .tableswitch 0 6 1 #[], .iload 2] 69 = true := qck_r (nn_ _) (by decide +kernel)
theorem bs_X10_competition_s_53 {P : Zt → Option Zv → Prop} (K : Int → Zl → List Zv → Zt → Prop) : sx_ K P [.aload 0, .tableswitch 0 10 2 #[], .tableswitch 0 6 2 #[], .istore 2, .aload 0, .tableswitch 0 10 2 #[], .tableswitch 0 6 1 #[], .iload 2] 69 = x_aload 0 (x_g1 110 106 (x_g0 106 2 0 4 (x_istore 2 (x_aload 0 (x_g1 110 106 (x_g1 106 521 (x_iload 2 (K 69)))))))) := ((xe_aload 0).trans (congrArg (x_aload 0) ((xe_g1 (kk := 110) rfl tl_10_2).trans (congrArg (x_g1 110 106) ((xe_g0 (kk := 106) rfl tl_6_2).trans (congrArg (x_g0 106 2 0 4) ((xe_istore 2).trans (congrArg (x_istore 2) ((xe_aload 0).trans (congrArg (x_aload 0) ((xe_g1 (kk := 110) rfl tl_10_2).trans (congrArg (x_g1 110 106) ((xe_g1 (kk := 106) rfl tl_6_1).trans (congrArg (x_g1 106 521) ((xe_iload 2).trans (congrArg (x_iload 2) xe_nil))))))))))))))))
theorem bk_X10_competition_s_72 : ck_ fX10 (some .int) cX10_competition 72 [.dup, .iload 2, .aload 0, .tableswitch 0 10 0 #[], .tableswitch 0 5 4 #[]] 81 = true := qck_r (nn_ _) (by decide +kernel)
theorem bs_X10_competition_s_72 {P : Zt → Option Zv → Prop} (K : Int → Zl → List Zv → Zt → Prop) : sx_ K P [.dup, .iload 2, .aload 0, .tableswitch 0 10 0 #[], .tableswitch 0 5 4 #[]] 81 = x_dup (x_iload 2 (x_aload 0 (x_g1 110 105 (x_g1 105 504 (K 81))))) := ((xe_dup).trans (congrArg (x_dup) ((xe_iload 2).trans (congrArg (x_iload 2) ((xe_aload 0).trans (congrArg (x_aload 0) ((xe_g1 (kk := 110) rfl tl_10_0).trans (congrArg (x_g1 110 105) ((xe_g1 (kk := 105) rfl tl_5_4).trans (congrArg (x_g1 105 504) xe_nil))))))))))
theorem bk_X10_competition_s_87 : ck_ fX10 (some .int) cX10_competition 87 [.aload 0, .tableswitch 0 10 0 #[], .tableswitch 0 5 5 #[]] 94 = true := qck_r (nn_ _) (by decide +kernel)
theorem bs_X10_competition_s_87 {P : Zt → Option Zv → Prop} (K : Int → Zl → List Zv → Zt → Prop) : sx_ K P [.aload 0, .tableswitch 0 10 0 #[], .tableswitch 0 5 5 #[]] 94 = x_aload 0 (x_g1 110 105 (x_g1 105 505 (K 94))) := ((xe_aload 0).trans (congrArg (x_aload 0) ((xe_g1 (kk := 110) rfl tl_10_0).trans (congrArg (x_g1 110 105) ((xe_g1 (kk := 105) rfl tl_5_5).trans (congrArg (x_g1 105 505) xe_nil))))))
theorem bk_X10_competition_s_104 : ck_ fX10 (some .int) cX10_competition 104 [.aload 0, .tableswitch 0 10 2 #[], .dup, .tableswitch 0 6 2 #[], .iconst 1, .iadd, .tableswitch 1 6 2 #[], .iload 2, .ireturn] 119 = true := qck_r (nn_ _) (by decide +kernel)
theorem bs_X10_competition_s_104 {P : Zt → Option Zv → Prop} (K : Int → Zl → List Zv → Zt → Prop) : sx_ K P [.aload 0, .tableswitch 0 10 2 #[], .dup, .tableswitch 0 6 2 #[], .iconst 1, .iadd, .tableswitch 1 6 2 #[], .iload 2, .ireturn] 119 = x_aload 0 (x_g1 110 106 (x_dup (x_g0 106 2 0 4 (x_iconst 1 (x_iadd (x_p 106 2 0 4 (x_iload 2 (x_ireturn P)))))))) := ((xe_aload 0).trans (congrArg (x_aload 0) ((xe_g1 (kk := 110) rfl tl_10_2).trans (congrArg (x_g1 110 106) ((xe_dup).trans (congrArg (x_dup) ((xe_g0 (kk := 106) rfl tl_6_2).trans (congrArg (x_g0 106 2 0 4) ((xe_iconst 1).trans (congrArg (x_iconst 1) ((xe_iadd).trans (congrArg (x_iadd) ((xe_p (kk := 106) rfl tl_6_2).trans (congrArg (x_p 106 2 0 4) ((xe_iload 2).trans (congrArg (x_iload 2) (xe_ireturn)))))))))))))))))
abbrev po_X10_competition_s (T : Zt) : Zt → Option Zv → Prop := fun T' r => ∃ x : Int, r = some (vI x) ∧ (fr_ [(105, [7, 8, 9, 2, 3, 6, 1]), (504, []), (505, [])] T T' ∨ nc_ T T') ∧ CH9_ T T' x ∧ CNN_ T T'
set_option maxHeartbeats 4000000 in
theorem ct_X10_competition_s {T : Zt} (hna : NA_ T) : Ct_ yX10_competition zX10_competition T [vR 110 0] (po_X10_competition_s T) := by
  refine ct_of pn_10 rfl rfl (Nat.le_of_ble_eq_true rfl) (fun hT hav => ?_)
  have hz : zX10_competition.2.2.2.1 = some .boolean → ∀ (T' : Zt) (x : Int), po_X10_competition_s T T' (some (vI x)) → 0 ≤ x ∧ x ≤ 1 := fun h => by cases h
  have hb_competitionCount : 0 ≤ T 106 0 2 ∧ T 106 0 2 ≤ 4 := bd_f hT 106 2 tl_6_2 0
  show J_ zX10_competition T (po_X10_competition_s T) 5 57 0 [some (vR 110 0), none, none] [] T
  refine j_blx (F := fX10) tb_X10 (nn_ _) bk_X10_competition_s_0 bs_X10_competition_s_0 hz (fun K hK => ?_)
  intro b1 b1b
  refine And.intro (fun c2 => ?_) (fun c2 => ?_)
  · refine hK 22 _ [] T ?_
    refine j_blx (F := fX10) tb_X10 (nn_ _) bk_X10_competition_s_22 bs_X10_competition_s_22 hz (fun K hK => ?_)
    refine hK 26 _ [vR 105 0] T ?_
    refine j_callV (y := yX5_read) (Yc := zX5_read) (rest := []) [] (ct_X5_read_e (T := T)) cl_X10_80 (qd_c (by decide +kernel)) (nn_ _) rfl (rf_of rfl) (Nat.le_of_ble_eq_true rfl) (Nat.le_of_ble_eq_true rfl) (Nat.le_of_ble_eq_true rfl) rfl ?_
    rintro U3 _ ⟨x4, rfl, fU3, qU3⟩
    show J_ zX10_competition T (po_X10_competition_s T) 5 57 29 _ [vI x4] U3
    refine j_blx (F := fX10) tb_X10 (nn_ _) bk_X10_competition_s_29 bs_X10_competition_s_29 hz (fun K hK => ?_)
    refine bd_i (by omega) ?_
    refine x_nm (fun U5 hU5 => ?_)
    have e6 := up_f hU5
    refine And.intro (fun c7 => ?_) (fun c7 => ?_)
    · refine hK 53 [some (vR 110 0), some (vI x4), none] [] U5 ?_
      refine j_blx (F := fX10) tb_X10 (nn_ _) bk_X10_competition_s_53 bs_X10_competition_s_53 hz (fun K hK => ?_)
      intro b8 b8b
      have e9 : U5 106 0 2 = T 106 0 2 := (up_k hU5 (by exact Nat.ne_of_beq_eq_false rfl) 0 2).trans (fU3 106 0 2 rfl)
      rw [e9] at b8 b8b ⊢
      refine hK 69 [some (vR 110 0), some (vI x4), some (vI (T 106 0 2))] [vI (T 106 0 2), vR 521 0] U5 ?_
      have e11 : U5 150 (T 106 0 2) (-1) = T 150 (T 106 0 2) (-1) := (up_k hU5 (by exact Nat.ne_of_beq_eq_false rfl) (T 106 0 2) (-1)).trans (fU3 150 (T 106 0 2) (-1) rfl)
      have hv1 : ∀ k : Nat, ow_ k = some 100 → ¬ T k (T 106 0 2) (-1) = 1 := fun k hk h => (hT.2.2.2.2.2.2.2.1 k _ 100 hk h).elim (hna.2.1 _ (by omega)) (hna.1.1 _)
      refine j_newO (bc' := 4) (bs' := 48) (pc := 69) (ci := 0) (i := T 106 0 2) (by decide) (by decide) vi_0 tyX0_ok (nf_0 _) (lwq_3 (dqc_m (dqc_m (List.mem_of_getElem? (i := 1) rfl))) rfl : Cond.classLink RX10 91 RX0 ∈ lw_g) (lwq_3 (dqc_m (dqc_m (List.mem_of_getElem? (i := 2) rfl))) rfl : Cond.instantiable RX0 9 ∈ lw_g) (lwq_1 (dqa_m (List.mem_of_getElem? (i := 7) rfl)) rfl : Cond.initialized RX0 ∈ lw_g) (by show ¬ U5 150 (T 106 0 2) (-1) = 1; rw [e11]; exact hna.1.1 _) (by omega) (by omega) (by decide +kernel) ?_
      refine j_nm (fun U10 hU10 => ?_)
      have fU10 := nu_fr hU10
      have zU10 := nu_tz hU10
      have oU10 := nu_to hU10
      have vU10 := nu_tv hU10
      show J_ zX10_competition T (po_X10_competition_s T) 4 48 72 _ [vR 150 (T 106 0 2), vI (T 106 0 2), vR 521 0] U10
      refine j_blx (F := fX10) tb_X10 (nn_ _) bk_X10_competition_s_72 bs_X10_competition_s_72 hz (fun K hK => ?_)
      refine hK 81 _ [vR 504 0, vI (T 106 0 2), vR 150 (T 106 0 2), vR 150 (T 106 0 2), vI (T 106 0 2), vR 521 0] U10 ?_
      have e12 : U10 401 (T 106 0 2) (-1) = T 401 (T 106 0 2) (-1) := (fU10 401 (T 106 0 2) (-1) rfl).trans ((up_k hU5 (by exact Nat.ne_of_beq_eq_false rfl) (T 106 0 2) (-1)).trans (fU3 401 (T 106 0 2) (-1) rfl))
      refine j_clone2 (bc' := 3) (bs' := 32) (pc := 81) (k := 401) (i := T 106 0 2) (by decide) (by decide +kernel : ta_ 504 = some (1, some 16, 0, 999)) (by decide +kernel : ta_ 401 = some (1, some 16, 0, 999)) (by decide) (by decide) (by show ¬ U10 401 (T 106 0 2) (-1) = 1; rw [e12]; exact hv1 401 (by decide)) (fun o ho => by rw [show ow_ 401 = some 100 by decide] at ho; cases ho; exact Or.inr (show U10 150 (T 106 0 2) (-1) = 1 from vU10)) (lwq_3 (dqc_m (dqc_m (List.mem_of_getElem? (i := 3) rfl))) rfl : Cond.methodLink RX10 96 ⟨"[I", "clone", "()Ljava/lang/Object;"⟩ ∈ lw_g) (lwq_3 (dqc_m (dqc_m (List.mem_of_getElem? (i := 4) rfl))) rfl : Cond.sameMethod "[I" "java/lang/Object" "clone" "()Ljava/lang/Object;" ∈ lw_g) (lwq_3 (dqc_m (dqc_m (List.mem_of_getElem? (i := 5) rfl))) rfl : Cond.native ⟨"java/lang/Object", "clone", "()Ljava/lang/Object;"⟩ ∈ lw_g) (lwq_3 (dqc_m (dqc_m (List.mem_of_getElem? (i := 6) rfl))) rfl : Cond.instanceMethod ⟨"java/lang/Object", "clone", "()Ljava/lang/Object;"⟩ ∈ lw_g) (lwq_3 (dqc_m (dqc_m (List.mem_of_getElem? (i := 7) rfl))) rfl : Cond.selects "[I" ⟨"[I", "clone", "()Ljava/lang/Object;"⟩ ⟨"java/lang/Object", "clone", "()Ljava/lang/Object;"⟩ ∈ lw_g) (by decide) (by decide) (Nat.le_of_ble_eq_true rfl) (by decide) (by decide) (by decide +kernel) ?_
      refine j_nm (fun U13 hU13 => ?_)
      have fU13 := nu_fr hU13
      have zU13 := nu_tc hU13
      have oU13 := nu_to hU13
      have vU13 := nu_tv hU13
      show J_ zX10_competition T (po_X10_competition_s T) 3 32 84 _ [vR 401 (T 106 0 2), vI (T 106 0 2), vR 150 (T 106 0 2), vR 150 (T 106 0 2), vI (T 106 0 2), vR 521 0] U13
      refine j_castA (pc := 84) (by decide) (by decide +kernel : ta_ 401 = some (1, some 16, 0, 999)) (lwq_3 (dqc_m (dqc_m (dqa_m (List.mem_of_getElem? (i := 1) rfl)))) rfl : Cond.classLink RX10 97 "[I" ∈ lw_g) (by decide +kernel) ?_
      show J_ zX10_competition T (po_X10_competition_s T) 3 32 87 _ [vR 401 (T 106 0 2), vI (T 106 0 2), vR 150 (T 106 0 2), vR 150 (T 106 0 2), vI (T 106 0 2), vR 521 0] U13
      refine j_blx (F := fX10) tb_X10 (nn_ _) bk_X10_competition_s_87 bs_X10_competition_s_87 hz (fun K hK => ?_)
      refine hK 94 _ [vR 505 0, vR 401 (T 106 0 2), vI (T 106 0 2), vR 150 (T 106 0 2), vR 150 (T 106 0 2), vI (T 106 0 2), vR 521 0] U13 ?_
      have e14 : U13 402 (T 106 0 2) (-1) = T 402 (T 106 0 2) (-1) := (fU13 402 (T 106 0 2) (-1) rfl).trans ((fU10 402 (T 106 0 2) (-1) rfl).trans ((up_k hU5 (by exact Nat.ne_of_beq_eq_false rfl) (T 106 0 2) (-1)).trans (fU3 402 (T 106 0 2) (-1) rfl)))
      refine j_clone2 (bc' := 2) (bs' := 25) (pc := 94) (k := 402) (i := T 106 0 2) (by decide) (by decide +kernel : ta_ 505 = some (1, some 7, (-1), 6)) (by decide +kernel : ta_ 402 = some (1, some 7, (-1), 6)) (by decide) (by decide) (by show ¬ U13 402 (T 106 0 2) (-1) = 1; rw [e14]; exact hv1 402 (by decide)) (fun o ho => by rw [show ow_ 402 = some 100 by decide] at ho; cases ho; exact Or.inr (show U13 150 (T 106 0 2) (-1) = 1 from (fU13 150 _ _ rfl).trans vU10)) (lwq_3 (dqc_m (dqc_m (List.mem_of_getElem? (i := 3) rfl))) rfl : Cond.methodLink RX10 96 ⟨"[I", "clone", "()Ljava/lang/Object;"⟩ ∈ lw_g) (lwq_3 (dqc_m (dqc_m (List.mem_of_getElem? (i := 4) rfl))) rfl : Cond.sameMethod "[I" "java/lang/Object" "clone" "()Ljava/lang/Object;" ∈ lw_g) (lwq_3 (dqc_m (dqc_m (List.mem_of_getElem? (i := 5) rfl))) rfl : Cond.native ⟨"java/lang/Object", "clone", "()Ljava/lang/Object;"⟩ ∈ lw_g) (lwq_3 (dqc_m (dqc_m (List.mem_of_getElem? (i := 6) rfl))) rfl : Cond.instanceMethod ⟨"java/lang/Object", "clone", "()Ljava/lang/Object;"⟩ ∈ lw_g) (lwq_3 (dqc_m (dqc_m (List.mem_of_getElem? (i := 7) rfl))) rfl : Cond.selects "[I" ⟨"[I", "clone", "()Ljava/lang/Object;"⟩ ⟨"java/lang/Object", "clone", "()Ljava/lang/Object;"⟩ ∈ lw_g) (by decide) (by decide) (Nat.le_of_ble_eq_true rfl) (by decide) (by decide) (by decide +kernel) ?_
      refine j_nm (fun U15 hU15 => ?_)
      have fU15 := nu_fr hU15
      have zU15 := nu_tc hU15
      have oU15 := nu_to hU15
      have vU15 := nu_tv hU15
      show J_ zX10_competition T (po_X10_competition_s T) 2 25 97 _ [vR 402 (T 106 0 2), vR 401 (T 106 0 2), vI (T 106 0 2), vR 150 (T 106 0 2), vR 150 (T 106 0 2), vI (T 106 0 2), vR 521 0] U15
      refine j_castA (pc := 97) (by decide) (by decide +kernel : ta_ 402 = some (1, some 7, (-1), 6)) (lwq_3 (dqc_m (dqc_m (dqa_m (List.mem_of_getElem? (i := 1) rfl)))) rfl : Cond.classLink RX10 97 "[I" ∈ lw_g) (by decide +kernel) ?_
      show J_ zX10_competition T (po_X10_competition_s T) 2 25 100 _ [vR 402 (T 106 0 2), vR 401 (T 106 0 2), vI (T 106 0 2), vR 150 (T 106 0 2), vR 150 (T 106 0 2), vI (T 106 0 2), vR 521 0] U15
      have e16 : U15 403 (T 106 0 2) (-1) = T 403 (T 106 0 2) (-1) := (fU15 403 (T 106 0 2) (-1) rfl).trans ((fU13 403 (T 106 0 2) (-1) rfl).trans ((fU10 403 (T 106 0 2) (-1) rfl).trans ((up_k hU5 (by exact Nat.ne_of_beq_eq_false rfl) (T 106 0 2) (-1)).trans (fU3 403 (T 106 0 2) (-1) rfl))))
      have e17 : U15 404 (T 106 0 2) (-1) = T 404 (T 106 0 2) (-1) := (fU15 404 (T 106 0 2) (-1) rfl).trans ((fU13 404 (T 106 0 2) (-1) rfl).trans ((fU10 404 (T 106 0 2) (-1) rfl).trans ((up_k hU5 (by exact Nat.ne_of_beq_eq_false rfl) (T 106 0 2) (-1)).trans (fU3 404 (T 106 0 2) (-1) rfl))))
      refine j_callI (y := yX0_init) (Yc := zX0_init) (rest := [vR 150 (T 106 0 2), vI (T 106 0 2), vR 521 0]) [vI (T 106 0 2), vR 401 (T 106 0 2), vR 402 (T 106 0 2)] (ct_X0_init (T := U15) (by omega) (by rw [e16]; exact hv1 403 (by decide)) (by rw [e17]; exact hv1 404 (by decide))) ci_X10_104 (qd_c (by decide +kernel)) (nn_ _) rfl (rf_of rfl) (Nat.le_of_ble_eq_true rfl) (Nat.le_of_ble_eq_true rfl) (Nat.le_of_ble_eq_true rfl) rfl ?_
      rintro U18 _ ⟨rfl, fU18, qU18o, ⟨t0U18, t1U18, t2U18, t3U18, t4U18⟩, ⟨t5U18, t6U18, t7U18, t8U18⟩, zU18⟩
      show J_ zX10_competition T (po_X10_competition_s T) 0 0 103 _ [vR 150 (T 106 0 2), vI (T 106 0 2), vR 521 0] U18
      refine j_ok (fun gt0 _ => ?_)
      have e20 : U18 100 (T 106 0 2) (-1) = T 100 (T 106 0 2) (-1) := (fU18 100 (T 106 0 2) (-1) rfl).trans ((fU15 100 (T 106 0 2) (-1) rfl).trans ((fU13 100 (T 106 0 2) (-1) rfl).trans ((fU10 100 (T 106 0 2) (-1) rfl).trans ((up_k hU5 (by exact Nat.ne_of_beq_eq_false rfl) (T 106 0 2) (-1)).trans (fU3 100 (T 106 0 2) (-1) rfl)))))
      refine j_conv (k := 100) (i := T 106 0 2) (g := g0_ U18 (T 106 0 2)) (by decide) (by show ¬ U18 100 (T 106 0 2) (-1) = 1; rw [e20]; exact hna.2.1 _ (by omega)) (hna.1.1 _) (cg_0 gt0 (by omega) t1U18 t2U18 t3U18 t4U18) rfl rfl ?_
      refine j_nm (fun U21 hU21 => ?_)
      have fU21 := cw_fr hU21
      have sU21 := cw_ts hU21
      have oU21 := cw_to hU21
      have rU21 := cw_r hU21
      show J_ zX10_competition T (po_X10_competition_s T) 0 0 103 _ [vR 100 (T 106 0 2), vI (T 106 0 2), vR 521 0] U21
      refine j_aast (pc := 103) (by decide) (by decide) (by decide +kernel : ta_ 521 = some (4, some 4, 0, 1)) (by decide +kernel) (by omega) (by show _ < (4 : Int); omega) (by decide) ?_
      refine j_nm (fun U22 hU22 => ?_)
      have e23 := up_f hU22
      show J_ zX10_competition T (po_X10_competition_s T) 0 0 104 _ [] U22
      refine j_blx (F := fX10) tb_X10 (nn_ _) bk_X10_competition_s_104 bs_X10_competition_s_104 hz (fun K hK => ?_)
      intro b24 b24b
      have e25 : U22 106 0 2 = T 106 0 2 := (up_k hU22 (by exact Nat.ne_of_beq_eq_false rfl) 0 2).trans ((fU21 106 0 2 rfl).trans ((fU18 106 0 2 rfl).trans ((fU15 106 0 2 rfl).trans ((fU13 106 0 2 rfl).trans ((fU10 106 0 2 rfl).trans ((up_k hU5 (by exact Nat.ne_of_beq_eq_false rfl) 0 2).trans (fU3 106 0 2 rfl)))))))
      rw [e25] at b24 b24b ⊢
      refine rg_i (by omega) ?_
      refine bd_i (by omega) ?_
      refine x_nm (fun U26 hU26 => ?_)
      have e27 := up_f hU26
      refine (show po_X10_competition_s T U26 (some (vI (T 106 0 2))) from ?_)
      have w5 : U21 100 (T 106 0 2) 5 = U18 150 (T 106 0 2) 5 := (sU21 5 (by decide)).trans (by unfold g0_; rw [if_neg (by decide)])
      have y5 : U15 150 (T 106 0 2) 5 = 0 := (fU15 150 _ _ rfl).trans ((fU13 150 _ _ rfl).trans (zU10 5 (by decide)))
      have u5 : U26 100 (T 106 0 2) 5 = U21 100 (T 106 0 2) 5 := (up_k hU26 (by exact Nat.ne_of_beq_eq_false rfl) _ _).trans (up_k hU22 (by exact Nat.ne_of_beq_eq_false rfl) _ _)
      have w6 : U21 100 (T 106 0 2) 6 = U18 150 (T 106 0 2) 6 := (sU21 6 (by decide)).trans (by unfold g0_; rw [if_neg (by decide)])
      have y6 : U15 150 (T 106 0 2) 6 = 0 := (fU15 150 _ _ rfl).trans ((fU13 150 _ _ rfl).trans (zU10 6 (by decide)))
      have u6 : U26 100 (T 106 0 2) 6 = U21 100 (T 106 0 2) 6 := (up_k hU26 (by exact Nat.ne_of_beq_eq_false rfl) _ _).trans (up_k hU22 (by exact Nat.ne_of_beq_eq_false rfl) _ _)
      have w7 : U21 100 (T 106 0 2) 7 = U18 150 (T 106 0 2) 7 := (sU21 7 (by decide)).trans (by unfold g0_; rw [if_neg (by decide)])
      have y7 : U15 150 (T 106 0 2) 7 = 0 := (fU15 150 _ _ rfl).trans ((fU13 150 _ _ rfl).trans (zU10 7 (by decide)))
      have u7 : U26 100 (T 106 0 2) 7 = U21 100 (T 106 0 2) 7 := (up_k hU26 (by exact Nat.ne_of_beq_eq_false rfl) _ _).trans (up_k hU22 (by exact Nat.ne_of_beq_eq_false rfl) _ _)
      have w8 : U21 100 (T 106 0 2) 8 = U18 150 (T 106 0 2) 8 := (sU21 8 (by decide)).trans (by unfold g0_; rw [if_neg (by decide)])
      have y8 : U15 150 (T 106 0 2) 8 = 0 := (fU15 150 _ _ rfl).trans ((fU13 150 _ _ rfl).trans (zU10 8 (by decide)))
      have u8 : U26 100 (T 106 0 2) 8 = U21 100 (T 106 0 2) 8 := (up_k hU26 (by exact Nat.ne_of_beq_eq_false rfl) _ _).trans (up_k hU22 (by exact Nat.ne_of_beq_eq_false rfl) _ _)
      have w0 : U26 100 (T 106 0 2) 0 = T 106 0 2 := by
        have y1 : U26 100 (T 106 0 2) 0 = U21 100 (T 106 0 2) 0 := (up_k hU26 (by exact Nat.ne_of_beq_eq_false rfl) _ _).trans (up_k hU22 (by exact Nat.ne_of_beq_eq_false rfl) _ _)
        have y2 : U21 100 (T 106 0 2) 0 = U18 150 (T 106 0 2) 0 := (sU21 0 (by decide)).trans (by unfold g0_; rw [if_neg (by decide)])
        have y3 := t0U18
        omega
      have e28 : U26 106 0 2 = (T 106 0 2) + 1 := up_f hU26
      have d2 : ∀ (k : Nat) (i j : Int), k = 100 ∨ k = 150 ∨ k = 401 ∨ k = 403 ∨ k = 404 → i ≠ T 106 0 2 → U26 k i j = T k i j := by
        intro k i j hk hi
        have c1 : U26 k i j = U21 k i j := (up_g hU26 (fun z => by omega)).trans (up_g hU22 (fun z => by omega))
        have c2 : U21 k i j = U5 k i j := (oU21 k i j hi).trans ((qU18o k i j hi).trans ((oU15 k i j (fun z => hi z.2)).trans ((oU13 k i j (fun z => hi z.2)).trans (oU10 k i j (fun z => hi z.2)))))
        have c3 : U5 k i j = T k i j := by rcases hk with rfl | rfl | rfl | rfl | rfl <;> exact (up_k hU5 (by exact Nat.ne_of_beq_eq_false rfl) _ _).trans (fU3 _ _ _ rfl)
        exact c1.trans (c2.trans c3)
      have d3 : ∀ j, j ≠ T 106 0 2 → U26 521 0 j = T 521 0 j := fun j hj => (up_k hU26 (by exact Nat.ne_of_beq_eq_false rfl) _ _).trans ((up_g hU22 (fun z => hj z.2.2)).trans ((fU21 521 _ _ rfl).trans ((fU18 521 _ _ rfl).trans ((fU15 521 _ _ rfl).trans ((fU13 521 _ _ rfl).trans ((fU10 521 _ _ rfl).trans ((up_k hU5 (by exact Nat.ne_of_beq_eq_false rfl) _ _).trans (fU3 521 _ _ rfl))))))))
      have d4 : U26 521 0 (T 106 0 2) = 1 := (up_k hU26 (by exact Nat.ne_of_beq_eq_false rfl) _ _).trans (up_f hU22)
      have d5 : ∀ j, 0 ≤ j → U26 401 (T 106 0 2) j = U3 504 0 j := fun j hj => (up_k hU26 (by exact Nat.ne_of_beq_eq_false rfl) _ _).trans ((up_k hU22 (by exact Nat.ne_of_beq_eq_false rfl) _ _).trans ((fU21 401 _ _ rfl).trans ((fU18 401 _ _ rfl).trans ((fU15 401 _ _ rfl).trans ((zU13 j hj).trans ((fU10 504 _ _ rfl).trans (up_k hU5 (by exact Nat.ne_of_beq_eq_false rfl) _ _)))))))
      obtain ⟨qx, ⟨v, qr, qv⟩, q3⟩ := qU3.resolve_left (fun z => by omega)
      have hw := rdf9_g 402 gb9_d qr
      have vc : VC8_ U3 := ⟨fun j a b => by rw [qv.1 j a b, ← (rb9_i a b).1, ← (rb9_i a b).2]; exact hw.1 j a (by omega), by rw [qv.1 2 (by omega) (by omega), qv.1 1 (by omega) (by omega)]; exact hw.2.1⟩
      have d6 : ∀ j, 0 ≤ j → U26 402 (T 106 0 2) j = U3 505 0 j := fun j hj => (up_k hU26 (by exact Nat.ne_of_beq_eq_false rfl) _ _).trans ((up_k hU22 (by exact Nat.ne_of_beq_eq_false rfl) _ _).trans ((fU21 402 _ _ rfl).trans ((fU18 402 _ _ rfl).trans ((zU15 j hj).trans ((fU13 505 _ _ rfl).trans ((fU10 505 _ _ rfl).trans (up_k hU5 (by exact Nat.ne_of_beq_eq_false rfl) _ _)))))))
      have d7 : ∀ i j, i ≠ T 106 0 2 → U26 402 i j = T 402 i j := fun i j hi => (up_k hU26 (by exact Nat.ne_of_beq_eq_false rfl) _ _).trans ((up_k hU22 (by exact Nat.ne_of_beq_eq_false rfl) _ _).trans ((fU21 402 _ _ rfl).trans ((fU18 402 _ _ rfl).trans ((oU15 402 i j (fun z => hi z.2)).trans ((fU13 402 _ _ rfl).trans ((fU10 402 _ _ rfl).trans ((up_k hU5 (by exact Nat.ne_of_beq_eq_false rfl) _ _).trans (fU3 402 _ _ rfl))))))))
      have d8 : ∀ j, 0 ≤ j → j < 12 → U26 404 (T 106 0 2) j = -1 := fun j a b => (up_k hU26 (by exact Nat.ne_of_beq_eq_false rfl) _ _).trans ((up_k hU22 (by exact Nat.ne_of_beq_eq_false rfl) _ _).trans ((fU21 404 _ _ rfl).trans (zU18 j a b)))
      have e29 : U26 105 0 1 = 0 := (up_k hU26 (by exact Nat.ne_of_beq_eq_false rfl) 0 1).trans ((up_k hU22 (by exact Nat.ne_of_beq_eq_false rfl) 0 1).trans ((fU21 105 0 1 rfl).trans ((fU18 105 0 1 rfl).trans ((fU15 105 0 1 rfl).trans ((fU13 105 0 1 rfl).trans ((fU10 105 0 1 rfl).trans (up_f hU5)))))))
      have e30 : U26 105 0 3 = U3 105 0 3 := (up_k hU26 (by exact Nat.ne_of_beq_eq_false rfl) 0 3).trans ((up_k hU22 (by exact Nat.ne_of_beq_eq_false rfl) 0 3).trans ((fU21 105 0 3 rfl).trans ((fU18 105 0 3 rfl).trans ((fU15 105 0 3 rfl).trans ((fU13 105 0 3 rfl).trans ((fU10 105 0 3 rfl).trans (up_j hU5 (by decide) 105 0)))))))
      have n2 : NA_ U26 := by
        refine ⟨⟨fun i => ?_, fun i => by rw [show U26 152 i (-1) = T 152 i (-1) from (up_k hU26 (by exact Nat.ne_of_beq_eq_false rfl) _ _).trans ((up_k hU22 (by exact Nat.ne_of_beq_eq_false rfl) _ _).trans ((fU21 152 _ _ rfl).trans ((fU18 152 _ _ rfl).trans ((fU15 152 _ _ rfl).trans ((fU13 152 _ _ rfl).trans ((fU10 152 _ _ rfl).trans ((up_k hU5 (by exact Nat.ne_of_beq_eq_false rfl) _ _).trans (fU3 152 _ _ rfl))))))))]; exact hna.1.2.1 i, fun i => by rw [show U26 153 i (-1) = T 153 i (-1) from (up_k hU26 (by exact Nat.ne_of_beq_eq_false rfl) _ _).trans ((up_k hU22 (by exact Nat.ne_of_beq_eq_false rfl) _ _).trans ((fU21 153 _ _ rfl).trans ((fU18 153 _ _ rfl).trans ((fU15 153 _ _ rfl).trans ((fU13 153 _ _ rfl).trans ((fU10 153 _ _ rfl).trans ((up_k hU5 (by exact Nat.ne_of_beq_eq_false rfl) _ _).trans (fU3 153 _ _ rfl))))))))]; exact hna.1.2.2 i⟩, fun i hi => ?_, fun i hi => ?_, fun i hi => ?_⟩
        · by_cases z : i = T 106 0 2
          · rw [z, show U26 150 (T 106 0 2) (-1) = U21 150 (T 106 0 2) (-1) from (up_k hU26 (by exact Nat.ne_of_beq_eq_false rfl) _ _).trans (up_k hU22 (by exact Nat.ne_of_beq_eq_false rfl) _ _)]; exact rU21
          · rw [d2 150 i (-1) (Or.inr (Or.inl rfl)) z]; exact hna.1.1 i
        · rw [d2 100 i (-1) (Or.inl rfl) (by omega)]; exact hna.2.1 i (by omega)
        · rw [show U26 106 0 4 = T 106 0 4 from (up_j hU26 (by decide) _ _).trans ((up_k hU22 (by exact Nat.ne_of_beq_eq_false rfl) _ _).trans ((fU21 106 _ _ rfl).trans ((fU18 106 _ _ rfl).trans ((fU15 106 _ _ rfl).trans ((fU13 106 _ _ rfl).trans ((fU10 106 _ _ rfl).trans ((up_k hU5 (by exact Nat.ne_of_beq_eq_false rfl) _ _).trans (fU3 106 _ _ rfl))))))))] at hi
          rw [show U26 102 i (-1) = T 102 i (-1) from (up_k hU26 (by exact Nat.ne_of_beq_eq_false rfl) _ _).trans ((up_k hU22 (by exact Nat.ne_of_beq_eq_false rfl) _ _).trans ((fU21 102 _ _ rfl).trans ((fU18 102 _ _ rfl).trans ((fU15 102 _ _ rfl).trans ((fU13 102 _ _ rfl).trans ((fU10 102 _ _ rfl).trans ((up_k hU5 (by exact Nat.ne_of_beq_eq_false rfl) _ _).trans (fU3 102 _ _ rfl))))))))]; exact hna.2.2.1 i hi
        · rw [show U26 106 0 4 = T 106 0 4 from (up_j hU26 (by decide) _ _).trans ((up_k hU22 (by exact Nat.ne_of_beq_eq_false rfl) _ _).trans ((fU21 106 _ _ rfl).trans ((fU18 106 _ _ rfl).trans ((fU15 106 _ _ rfl).trans ((fU13 106 _ _ rfl).trans ((fU10 106 _ _ rfl).trans ((up_k hU5 (by exact Nat.ne_of_beq_eq_false rfl) _ _).trans (fU3 106 _ _ rfl)))))))), show U26 102 i 10 = T 102 i 10 from (up_k hU26 (by exact Nat.ne_of_beq_eq_false rfl) _ _).trans ((up_k hU22 (by exact Nat.ne_of_beq_eq_false rfl) _ _).trans ((fU21 102 _ _ rfl).trans ((fU18 102 _ _ rfl).trans ((fU15 102 _ _ rfl).trans ((fU13 102 _ _ rfl).trans ((fU10 102 _ _ rfl).trans ((up_k hU5 (by exact Nat.ne_of_beq_eq_false rfl) _ _).trans (fU3 102 _ _ rfl))))))))] at hi
          rw [show U26 103 i (-1) = T 103 i (-1) from (up_k hU26 (by exact Nat.ne_of_beq_eq_false rfl) _ _).trans ((up_k hU22 (by exact Nat.ne_of_beq_eq_false rfl) _ _).trans ((fU21 103 _ _ rfl).trans ((fU18 103 _ _ rfl).trans ((fU15 103 _ _ rfl).trans ((fU13 103 _ _ rfl).trans ((fU10 103 _ _ rfl).trans ((up_k hU5 (by exact Nat.ne_of_beq_eq_false rfl) _ _).trans (fU3 103 _ _ rfl))))))))]; exact hna.2.2.2 i hi
      exact ⟨_, rfl, Or.inr ⟨fr_u (fr_u (fr_t (fr_t (fr_t (fr_t (fr_t (fr_u (fr_t (fr_0 _ _) (fr_s fU3 rfl)) hU5 rfl) (fr_s fU10 rfl)) (fr_s fU13 rfl)) (fr_s fU15 rfl)) (fr_s fU18 rfl)) (fr_s fU21 rfl)) hU22 rfl) hU26 rfl, by omega, d2, d3, d4, by omega, fun j a b => by rw [d5 j a]; exact vc.1 j a b, by rw [d5 2 (by omega), d5 1 (by omega)]; exact vc.2, n2⟩, Or.inr ⟨by omega, by omega, Or.inr ⟨by omega, by omega, by omega, d7, d8, v, qr, fun j a b => (d5 j a).trans (qv.1 j a b), fun k a b => (d6 k a).trans (qv.2 k a b)⟩⟩, Or.inr w0⟩
    · intro b31 b31b
      have e32 : U5 105 0 2 = U3 105 0 2 := up_j hU5 (by decide) 105 0
      rw [e32] at b31 b31b ⊢
      refine rg_i (by omega) ?_
      refine (show po_X10_competition_s T U5 (some (vI ((-10) - (U3 105 0 2)))) from ?_)
      have e33 : U5 105 0 1 = 0 := up_f hU5
      have e34 : U5 105 0 3 = U3 105 0 3 := up_j hU5 (by decide) 105 0
      have e35 : U5 106 0 2 = T 106 0 2 := (up_k hU5 (by exact Nat.ne_of_beq_eq_false rfl) 0 2).trans (fU3 106 0 2 rfl)
      have e36 : U5 105 0 2 = U3 105 0 2 := up_j hU5 (by decide) 105 0
      refine ⟨_, rfl, Or.inl (fr_u (fr_t (fr_0 _ _) (fr_s fU3 rfl)) hU5 rfl), Or.inr ⟨by omega, by omega, Or.inl ⟨by omega, U3 105 0 2, by omega, ?_⟩⟩, Or.inl (by omega)⟩
      rw [show U5 105 0 3 = U3 105 0 3 by omega]
      exact (qU3.resolve_right (fun z => by omega)).2
  · refine bd_i (by omega) ?_
    refine x_nm (fun U37 hU37 => ?_)
    have e38 := up_f hU37
    refine (show po_X10_competition_s T U37 (some (vI (-5))) from ?_)
    have e39 : U37 105 0 1 = T 105 0 1 := up_j hU37 (by decide) 105 0
    have e40 : U37 105 0 3 = (-1) := up_f hU37
    have e41 : U37 106 0 2 = T 106 0 2 := up_k hU37 (by exact Nat.ne_of_beq_eq_false rfl) 0 2
    exact ⟨_, rfl, Or.inl (fr_u (fr_0 _ _) hU37 rfl), Or.inl ⟨by omega, rfl, by omega, by omega, by omega⟩, Or.inl (by omega)⟩
