theorem bk_X10_start_e_0 : ck_ fX10 (some .int) cX10_start 0 [.aload 0, .iload 1] 2 = true := qck_r (nn_ _) (by decide +kernel)
theorem bs_X10_start_e_0 {P : Zt → Option Zv → Prop} (K : Int → Zl → List Zv → Zt → Prop) : sx_ K P [.aload 0, .iload 1] 2 = x_aload 0 (x_iload 1 (K 2)) := ((xe_aload 0).trans (congrArg (x_aload 0) ((xe_iload 1).trans (congrArg (x_iload 1) xe_nil))))
theorem bk_X10_start_e_5 : ck_ fX10 (some .int) cX10_start 5 [.ifCond .ne 11, .iconst (-2), .ireturn] 11 = true := qck_r (nn_ _) (by decide +kernel)
theorem bs_X10_start_e_5 {P : Zt → Option Zv → Prop} (K : Int → Zl → List Zv → Zt → Prop) : sx_ K P [.ifCond .ne 11, .iconst (-2), .ireturn] 11 = x_ifCond .ne 11 K (x_iconst (-2) (x_ireturn P)) := ((xe_ifCond .ne 11).trans (congrArg (x_ifCond .ne 11 K) ((xe_iconst (-2)).trans (congrArg (x_iconst (-2)) (xe_ireturn)))))
theorem bk_X10_start_e_11 : ck_ fX10 (some .int) cX10_start 11 [.aload 0, .tableswitch 0 10 2 #[], .tableswitch 0 6 3 #[], .iload 1, .aaload, .astore 2, .aload 2] 22 = true := qck_r (nn_ _) (by decide +kernel)
theorem bs_X10_start_e_11 {P : Zt → Option Zv → Prop} (K : Int → Zl → List Zv → Zt → Prop) : sx_ K P [.aload 0, .tableswitch 0 10 2 #[], .tableswitch 0 6 3 #[], .iload 1, .aaload, .astore 2, .aload 2] 22 = x_aload 0 (x_g1 110 106 (x_g1 106 523 (x_iload 1 (x_aaload (x_astore 2 (x_aload 2 (K 22))))))) := ((xe_aload 0).trans (congrArg (x_aload 0) ((xe_g1 (kk := 110) rfl tl_10_2).trans (congrArg (x_g1 110 106) ((xe_g1 (kk := 106) rfl tl_6_3).trans (congrArg (x_g1 106 523) ((xe_iload 1).trans (congrArg (x_iload 1) ((xe_aaload).trans (congrArg (x_aaload) ((xe_astore 2).trans (congrArg (x_astore 2) ((xe_aload 2).trans (congrArg (x_aload 2) xe_nil))))))))))))))
theorem bk_X10_start_e_25 : ck_ fX10 (some .int) cX10_start 25 [.ifCond .ne 49, .aload 2, .tableswitch 0 2 5 #[], .aload 0, .tableswitch 0 10 1 #[], .tableswitch 0 8 13 #[], .if_icmp .ne 49, .aload 2] 43 = true := qck_r (nn_ _) (by decide +kernel)
theorem bs_X10_start_e_25 {P : Zt → Option Zv → Prop} (K : Int → Zl → List Zv → Zt → Prop) : sx_ K P [.ifCond .ne 49, .aload 2, .tableswitch 0 2 5 #[], .aload 0, .tableswitch 0 10 1 #[], .tableswitch 0 8 13 #[], .if_icmp .ne 49, .aload 2] 43 = x_ifCond .ne 49 K (x_aload 2 (x_g0 102 5 0 999 (x_aload 0 (x_g1 110 108 (x_g0 108 13 0 999 (x_if_icmp .ne 49 K (x_aload 2 (K 43)))))))) := ((xe_ifCond .ne 49).trans (congrArg (x_ifCond .ne 49 K) ((xe_aload 2).trans (congrArg (x_aload 2) ((xe_g0 (kk := 102) rfl tl_2_5).trans (congrArg (x_g0 102 5 0 999) ((xe_aload 0).trans (congrArg (x_aload 0) ((xe_g1 (kk := 110) rfl tl_10_1).trans (congrArg (x_g1 110 108) ((xe_g0 (kk := 108) rfl tl_8_13).trans (congrArg (x_g0 108 13 0 999) ((xe_if_icmp .ne 49).trans (congrArg (x_if_icmp .ne 49 K) ((xe_aload 2).trans (congrArg (x_aload 2) xe_nil))))))))))))))))
theorem bk_X10_start_e_49 : ck_ fX10 (some .int) cX10_start 49 [.iconst (-4), .ireturn] 52 = true := qck_r (nn_ _) (by decide +kernel)
theorem bs_X10_start_e_49 {P : Zt → Option Zv → Prop} (K : Int → Zl → List Zv → Zt → Prop) : sx_ K P [.iconst (-4), .ireturn] 52 = x_iconst (-4) (x_ireturn P) := ((xe_iconst (-4)).trans (congrArg (x_iconst (-4)) (xe_ireturn)))
theorem bk_X10_start_e_46 : ck_ fX10 (some .int) cX10_start 46 [.ifCond .ne 52, .iconst (-4), .ireturn] 52 = true := qck_r (nn_ _) (by decide +kernel)
theorem bs_X10_start_e_46 {P : Zt → Option Zv → Prop} (K : Int → Zl → List Zv → Zt → Prop) : sx_ K P [.ifCond .ne 52, .iconst (-4), .ireturn] 52 = x_ifCond .ne 52 K (x_iconst (-4) (x_ireturn P)) := ((xe_ifCond .ne 52).trans (congrArg (x_ifCond .ne 52 K) ((xe_iconst (-4)).trans (congrArg (x_iconst (-4)) (xe_ireturn)))))
theorem bk_X10_start_e_52 : ck_ fX10 (some .int) cX10_start 52 [.aload 2] 53 = true := qck_r (nn_ _) (by decide +kernel)
theorem bs_X10_start_e_52 {P : Zt → Option Zv → Prop} (K : Int → Zl → List Zv → Zt → Prop) : sx_ K P [.aload 2] 53 = x_aload 2 (K 53) := ((xe_aload 2).trans (congrArg (x_aload 2) xe_nil))
theorem bk_X10_start_e_56 : ck_ fX10 (some .int) cX10_start 56 [.dup, .aload 2, .tableswitch 0 2 0 #[], .tableswitch 0 0 1 #[], .aload 2, .tableswitch 0 2 8 #[], .aload 2, .tableswitch 0 2 9 #[]] 72 = true := qck_r (nn_ _) (by decide +kernel)
theorem bs_X10_start_e_56 {P : Zt → Option Zv → Prop} (K : Int → Zl → List Zv → Zt → Prop) : sx_ K P [.dup, .aload 2, .tableswitch 0 2 0 #[], .tableswitch 0 0 1 #[], .aload 2, .tableswitch 0 2 8 #[], .aload 2, .tableswitch 0 2 9 #[]] 72 = x_dup (x_aload 2 (x_g3 102 100 0 (x_g2 100 401 (x_aload 2 (x_g2 102 448 (x_aload 2 (x_g2 102 449 (K 72)))))))) := ((xe_dup).trans (congrArg (x_dup) ((xe_aload 2).trans (congrArg (x_aload 2) ((xe_g3 (kk := 102) rfl tl_2_0).trans (congrArg (x_g3 102 100 0) ((xe_g2 (kk := 100) rfl tl_0_1).trans (congrArg (x_g2 100 401) ((xe_aload 2).trans (congrArg (x_aload 2) ((xe_g2 (kk := 102) rfl tl_2_8).trans (congrArg (x_g2 102 448) ((xe_aload 2).trans (congrArg (x_aload 2) ((xe_g2 (kk := 102) rfl tl_2_9).trans (congrArg (x_g2 102 449) xe_nil))))))))))))))))
theorem bk_X10_start_e_78 : ck_ fX10 (some .int) cX10_start 78 [.aload 2, .tableswitch 0 2 10 #[]] 82 = true := qck_r (nn_ _) (by decide +kernel)
theorem bs_X10_start_e_78 {P : Zt → Option Zv → Prop} (K : Int → Zl → List Zv → Zt → Prop) : sx_ K P [.aload 2, .tableswitch 0 2 10 #[]] 82 = x_aload 2 (x_g4 102 103 10 (K 82)) := ((xe_aload 2).trans (congrArg (x_aload 2) ((xe_g4 (kk := 102) rfl tl_2_10).trans (congrArg (x_g4 102 103 10) xe_nil))))
theorem bk_X10_start_e_85 : ck_ fX10 (some .int) cX10_start 85 [.iconst 1, .ireturn] 87 = true := qck_r (nn_ _) (by decide +kernel)
theorem bs_X10_start_e_85 {P : Zt → Option Zv → Prop} (K : Int → Zl → List Zv → Zt → Prop) : sx_ K P [.iconst 1, .ireturn] 87 = x_iconst 1 (x_ireturn P) := ((xe_iconst 1).trans (congrArg (x_iconst 1) (xe_ireturn)))
abbrev po_X10_start_e (T : Zt) (N : Int) (ru : Int → Int) (m : Int) : Zt → Option Zv → Prop := fun T' r => ∃ x : Int, r = some (vI x) ∧ fr_ [(153, []), (103, []), (102, [10]), (466, []), (467, []), (468, []), (469, []), (470, []), (471, []), (472, []), (473, []), (190, []), (191, [0])] T T' ∧ (LP_ N T' ∧ lh_ T T' ∧ T' 191 0 0 ≤ T 191 0 0 + 600 ∧ NA_ T' ∧ ∀ k i j, i ≠ m → k ≠ 190 → k ≠ 191 → T' k i j = T k i j) ∧ ((x = -2 ∧ ¬ (0 ≤ m ∧ m < T 106 0 4) ∧ T = T') ∨ ((0 ≤ m ∧ m < T 106 0 4) ∧ ((x = -4 ∧ ¬ ((T 102 m 6 = -1 ∧ T 102 m 10 = 0) ∧ T 102 m 5 = T 108 0 13 ∧ T 401 (T 102 m 0) 9 ≤ T 449 m 0 ∧ T 401 (T 102 m 0) 9 ≤ T 449 m 1) ∧ T = T') ∨ (x = 1 ∧ ((T 102 m 6 = -1 ∧ T 102 m 10 = 0) ∧ T 102 m 5 = T 108 0 13 ∧ T 401 (T 102 m 0) 9 ≤ T 449 m 0 ∧ T 401 (T 102 m 0) 9 ≤ T 449 m 1) ∧ T' 102 m 10 ≠ 0 ∧ T' 103 m 0 = T 102 m 0 ∧ (∃ z : Sg_, (∀ (k : Nat) (j : Int), k = 448 ∨ k = 449 → z k j = rs9_ T m k j) ∧ rs9_ T' m = bb9_ ru z) ∧ T' 103 m 14 = T 191 0 0 ∧ T' 103 m 16 = T 191 0 0 + 1 ∧ T' 103 m 15 = 0 ∧ T' 103 m 17 = 0 ∧ (∀ x j, x < T 191 0 0 → T' 190 x j = T 190 x j) ∧ ∀ k i j, i ≠ m → k ≠ 190 → k ≠ 191 → T' k i j = T k i j))))
set_option maxHeartbeats 4000000 in
theorem ct_X10_start_e {T : Zt} {N : Int} {ru : Int → Int} {m : Int} (hka : KA_ T) (hkm : KM_ T) (hkr : KR_ T) (hlp : LP_ N T) (hN : 0 ≤ N ∧ N ≤ 511) (h9 : 0 ≤ T 191 0 0 ∧ T 191 0 0 ≤ 900000000) (hna : NA_ T) (hrc : ∀ w, 0 ≤ w → w < 16 → T 401 (T 102 m 0) w = ru w) : Ct_ yX10_start zX10_start T [vR 110 0, vI m] (po_X10_start_e T N ru m) := by
  refine ct_of pn_10 rfl rfl (Nat.le_of_ble_eq_true rfl) (fun hT hav => ?_)
  have hr_m : -2147483648 ≤ m ∧ m ≤ 2147483647 := hav (vI m) (List.mem_cons_of_mem _ List.mem_cons_self)
  have hz : zX10_start.2.2.2.1 = some .boolean → ∀ (T' : Zt) (x : Int), po_X10_start_e T N ru m T' (some (vI x)) → 0 ≤ x ∧ x ≤ 1 := fun h => by cases h
  have hb_matchCount : 0 ≤ T 106 0 4 ∧ T 106 0 4 ≤ 400 := bd_f hT 106 4 tl_6_4 0
  have hb_competitionCount : 0 ≤ T 106 0 2 ∧ T 106 0 2 ≤ 4 := bd_f hT 106 2 tl_6_2 0
  show J_ zX10_start T (po_X10_start_e T N ru m) 11 130 0 [some (vR 110 0), some (vI m), none] [] T
  refine j_blx (F := fX10) tb_X10 (nn_ _) bk_X10_start_e_0 bs_X10_start_e_0 hz (fun K hK => ?_)
  refine hK 2 _ [vI m, vR 110 0] T ?_
  refine j_callV (y := yX10_isMatch) (Yc := zX10_isMatch) (rest := []) [vI m] (ct_X10_isMatch (T := T)) cl_X10_195 (qd_c (by decide +kernel)) (nn_ _) rfl (rf_of rfl) (Nat.le_of_ble_eq_true rfl) (Nat.le_of_ble_eq_true rfl) (Nat.le_of_ble_eq_true rfl) rfl ?_
  rintro _ _ ⟨rfl, x1, rfl, hx1⟩
  show J_ zX10_start T (po_X10_start_e T N ru m) 11 130 5 _ [vI x1] T
  refine j_blx (F := fX10) tb_X10 (nn_ _) bk_X10_start_e_5 bs_X10_start_e_5 hz (fun K hK => ?_)
  refine And.intro (fun c2 => ?_) (fun c2 => ?_)
  · refine hK 11 _ [] T ?_
    refine j_blx (F := fX10) tb_X10 (nn_ _) bk_X10_start_e_11 bs_X10_start_e_11 hz (fun K hK => ?_)
    refine ix_i (by omega) ?_
    refine And.intro (fun c3 => ?_) (fun c3 => ?_)
    · exact absurd (show T 523 0 (m) = 0 from Int.le_antisymm (by omega) (by omega)) (hka.2 _ (by omega) (by omega))
    · refine hK 22 [some (vR 110 0), some (vI m), some (vR 102 m)] [vR 102 m] T ?_
      refine j_callV (y := yX2_phaseOfLife) (Yc := zX2_phaseOfLife) (rest := []) [] (ct_X2_phaseOfLife_e (T := T)) cl_X10_223 (qd_c (by decide +kernel)) (nn_ _) rfl (rf_of rfl) (Nat.le_of_ble_eq_true rfl) (Nat.le_of_ble_eq_true rfl) (Nat.le_of_ble_eq_true rfl) rfl ?_
      rintro _ _ ⟨rfl, x4, rfl, hx4⟩
      show J_ zX10_start T (po_X10_start_e T N ru m) 11 130 25 _ [vI x4] T
      refine j_blx (F := fX10) tb_X10 (nn_ _) bk_X10_start_e_25 bs_X10_start_e_25 hz (fun K hK => ?_)
      refine And.intro (fun c5 => ?_) (fun c5 => ?_)
      · refine hK 49 _ [] T ?_
        refine j_blx (F := fX10) tb_X10 (nn_ _) bk_X10_start_e_49 bs_X10_start_e_49 hz (fun K hK => ?_)
        refine (show po_X10_start_e T N ru m T (some (vI (-4))) from ?_)
        exact ⟨_, rfl, fr_0 _ _, ⟨LP_f (ws := []) hlp (by omega) lh_r (fr_0 _ _) ⟨rfl, rfl, rfl, rfl, rfl, rfl, rfl, rfl, rfl, rfl, rfl⟩, lh_r, by omega, hna, fun _ _ _ _ _ _ => rfl⟩, Or.inr ⟨by omega, Or.inl ⟨rfl, by omega, rfl⟩⟩⟩
      · intro b6 b6b
        intro b7 b7b
        refine And.intro (fun c8 => ?_) (fun c8 => ?_)
        · refine hK 49 _ [] T ?_
          refine j_blx (F := fX10) tb_X10 (nn_ _) bk_X10_start_e_49 bs_X10_start_e_49 hz (fun K hK => ?_)
          refine (show po_X10_start_e T N ru m T (some (vI (-4))) from ?_)
          exact ⟨_, rfl, fr_0 _ _, ⟨LP_f (ws := []) hlp (by omega) lh_r (fr_0 _ _) ⟨rfl, rfl, rfl, rfl, rfl, rfl, rfl, rfl, rfl, rfl, rfl⟩, lh_r, by omega, hna, fun _ _ _ _ _ _ => rfl⟩, Or.inr ⟨by omega, Or.inl ⟨rfl, by omega, rfl⟩⟩⟩
        · refine hK 43 _ [vR 102 m] T ?_
          refine j_callV (y := yX2_hasEnoughListed) (Yc := zX2_hasEnoughListed) (rest := []) [] (ct_X2_hasEnoughListed_e (T := T)) cl_X10_264 (qd_c (by decide +kernel)) (nn_ _) rfl (rf_of rfl) (Nat.le_of_ble_eq_true rfl) (Nat.le_of_ble_eq_true rfl) (Nat.le_of_ble_eq_true rfl) rfl ?_
          rintro _ _ ⟨rfl, x9, rfl, hx9⟩
          show J_ zX10_start T (po_X10_start_e T N ru m) 11 130 46 _ [vI x9] T
          refine j_blx (F := fX10) tb_X10 (nn_ _) bk_X10_start_e_46 bs_X10_start_e_46 hz (fun K hK => ?_)
          refine And.intro (fun c10 => ?_) (fun c10 => ?_)
          · refine hK 52 _ [] T ?_
            refine j_blx (F := fX10) tb_X10 (nn_ _) bk_X10_start_e_52 bs_X10_start_e_52 hz (fun K hK => ?_)
            refine hK 53 _ [vR 102 m] T ?_
            have hpl : T 102 m 10 = 0 := Int.le_antisymm (by omega) (by omega)
            have hm0 := hkm m (by omega) (by omega)
            have hr9k := hkr (T 102 m 0) (by omega) (by omega)
            have ok9 : (T 102 m 6 = -1 ∧ T 102 m 10 = 0) ∧ T 102 m 5 = T 108 0 13 ∧ T 401 (T 102 m 0) 9 ≤ T 449 m 0 ∧ T 401 (T 102 m 0) 9 ≤ T 449 m 1 := by omega
            have hm9 : 0 ≤ m ∧ m < T 106 0 4 := by omega
            clear hx1 hx4 hx9
            refine j_newO (bc' := 10) (bs' := 112) (pc := 53) (ci := 3) (i := m) (by decide) (by decide) vi_3 tyX3_ok (nf_3 _) (lwq_4 (dqc_m (dqc_m (dqc_m (dqc_m (dqc_m (dqa_m (dqa_m (List.mem_of_getElem? (i := 3) rfl)))))))) rfl : Cond.classLink RX10 267 RX3 ∈ lw_g) (lwq_4 (dqc_m (dqc_m (dqc_m (dqc_m (dqc_m (dqa_m (dqa_m (List.mem_of_getElem? (i := 4) rfl)))))))) rfl : Cond.instantiable RX3 18 ∈ lw_g) (lwq_1 (dqa_m (dqa_m (List.mem_of_getElem? (i := 2) rfl))) rfl : Cond.initialized RX3 ∈ lw_g) (hna.1.2.2 m) (by omega) (by omega) (by decide +kernel) ?_
            refine j_nm (fun U11 hU11 => ?_)
            have fU11 := nu_fr hU11
            have zU11 := nu_tz hU11
            have oU11 := nu_to hU11
            have vU11 := nu_tv hU11
            show J_ zX10_start T (po_X10_start_e T N ru m) 10 112 56 _ [vR 153 m, vR 102 m] U11
            refine j_blx (F := fX10) tb_X10 (nn_ _) bk_X10_start_e_56 bs_X10_start_e_56 hz (fun K hK => ?_)
            have e13 : U11 102 m 0 = T 102 m 0 := fU11 102 m 0 rfl
            refine hK 72 _ [vR 449 m, vR 448 m, vR 401 (U11 102 m 0), vR 153 m, vR 153 m, vR 102 m] U11 ?_
            have e14 : U11 102 m 0 = T 102 m 0 := fU11 102 m 0 rfl
            have e15 : U11 191 0 0 = T 191 0 0 := fU11 191 0 0 rfl
            refine j_callI (y := yX3_init) (Yc := zX3_init) (rest := [vR 153 m, vR 102 m]) [vR 401 (U11 102 m 0), vR 448 m, vR 449 m] (ct_X3_init_e (T := U11) (by omega) (fun k a b => by show ¬ U11 k m (-1) = 1; rw [oU11 k m (-1) (fun z => by omega)]; intro h; exact (hT.2.2.2.2.2.2.2.1 k m 103 (ow_3 a b) h).elim (hna.2.2.2 m (Or.inr hpl)) (hna.1.2.2 m))) ci_X10_269 (qd_c (by decide +kernel)) (nn_ _) rfl (rf_of rfl) (Nat.le_of_ble_eq_true rfl) (Nat.le_of_ble_eq_true rfl) (Nat.le_of_ble_eq_true rfl) rfl ?_
            rintro U16 _ ⟨rfl, fU16, qU16o, ⟨t0U16, t1U16, t2U16, t14U16, t16U16⟩, ⟨t6U16, t7U16, t8U16, t9U16, t10U16, t11U16, t12U16, t13U16⟩, ⟨t3U16, t4U16, t5U16, t15U16, t17U16⟩, lgU16, laU16, a9U16, lU16⟩
            show J_ zX10_start T (po_X10_start_e T N ru m) 0 1 75 _ [vR 153 m, vR 102 m] U16
            refine j_ok (fun gt3 _ => ?_)
            have e18 : U16 103 m (-1) = T 103 m (-1) := (fU16 103 m (-1) rfl).trans (fU11 103 m (-1) rfl)
            have e19 : U11 102 m 0 = T 102 m 0 := fU11 102 m 0 rfl
            refine j_conv (k := 103) (i := m) (g := g3_ U16 m) (by decide) (by show ¬ U16 103 m (-1) = 1; rw [e18]; exact hna.2.2.2 m (Or.inr hpl)) (hna.1.2.2 m) (cg_3 gt3 (by omega) (by omega) t1U16 t2U16 t6U16 t7U16 t8U16 t9U16 t10U16 t11U16 t12U16 t13U16 (by omega) (by omega)) rfl rfl ?_
            refine j_nm (fun U20 hU20 => ?_)
            have fU20 := cw_fr hU20
            have sU20 := cw_ts hU20
            have oU20 := cw_to hU20
            have rU20 := cw_r hU20
            show J_ zX10_start T (po_X10_start_e T N ru m) 0 1 75 _ [vR 103 m, vR 102 m] U20
            refine j_putV (pc := 75) (ci := 2) (j := 10) (z := 1) (by decide) fr5_X10_272 tl_2_10 (by decide +kernel) rfl (by omega) (by omega) ?_
            refine j_nm (fun U21 hU21 => ?_)
            have e22 := up_f hU21
            show J_ zX10_start T (po_X10_start_e T N ru m) 0 1 78 _ [] U21
            refine j_blx (F := fX10) tb_X10 (nn_ _) bk_X10_start_e_78 bs_X10_start_e_78 hz (fun K hK => ?_)
            have e24 : U21 102 m 10 = 1 := up_f hU21
            refine And.intro (fun c23 => ?_) (fun c23 => ?_)
            · exact absurd c23 (by omega)
            · refine hK 82 _ [vR 103 m] U21 ?_
              have w0 : U20 103 m 0 = U16 153 m 0 - 1 := (sU20 0 (by decide)).trans (by unfold g3_; rw [if_pos (by decide)])
              have w14 : U20 103 m 14 = U16 153 m 14 - 1 := (sU20 14 (by decide)).trans (by unfold g3_; rw [if_pos (by decide)])
              have w16 : U20 103 m 16 = U16 153 m 16 - 1 := (sU20 16 (by decide)).trans (by unfold g3_; rw [if_pos (by decide)])
              have w3 : U20 103 m 3 = U16 153 m 3 := (sU20 3 (by decide)).trans (by unfold g3_; rw [if_neg (by decide)])
              have w15 : U20 103 m 15 = U16 153 m 15 := (sU20 15 (by decide)).trans (by unfold g3_; rw [if_neg (by decide)])
              have w17 : U20 103 m 17 = U16 153 m 17 := (sU20 17 (by decide)).trans (by unfold g3_; rw [if_neg (by decide)])
              have v15 : U11 153 m 15 = 0 := zU11 15 (by decide)
              have v17 : U11 153 m 17 = 0 := zU11 17 (by decide)
              have e25 : U11 191 0 0 = T 191 0 0 := fU11 191 0 0 rfl
              have e26 : U11 102 m 0 = T 102 m 0 := fU11 102 m 0 rfl
              have e27 : U21 103 m 0 = U20 103 m 0 := up_k hU21 (by exact Nat.ne_of_beq_eq_false rfl) m 0
              have k0 : U21 103 m 0 = T 102 m 0 := Int.le_antisymm (by omega) (by omega)
              have e28 : U21 401 (T 102 m 0) 9 = T 401 (T 102 m 0) 9 := (up_k hU21 (by exact Nat.ne_of_beq_eq_false rfl) (T 102 m 0) 9).trans ((fU20 401 (T 102 m 0) 9 rfl).trans ((fU16 401 (T 102 m 0) 9 rfl).trans (fU11 401 (T 102 m 0) 9 rfl)))
              have k9 : U21 401 (U21 103 m 0) 9 = T 401 (T 102 m 0) 9 := by rw [k0]; exact e28
              have hrT : RLP_ U21 m ru := fun w a b => by rw [k0]; exact ((up_k hU21 (by exact Nat.ne_of_beq_eq_false rfl) (T 102 m 0) w).trans ((fU20 401 (T 102 m 0) w rfl).trans ((fU16 401 (T 102 m 0) w rfl).trans (fU11 401 (T 102 m 0) w rfl)))).trans (hrc w a b)
              refine j_callV (y := yX3_backToBeginning) (Yc := zX3_backToBeginning) (rest := []) [] (ct_X3_backToBeginning_e (T := U21) (ru := ru) hrT (by omega)) cl_X10_276 (qd_c (by decide +kernel)) (nn_ _) rfl (rf_of rfl) (Nat.le_of_ble_eq_true rfl) (Nat.le_of_ble_eq_true rfl) (Nat.le_of_ble_eq_true rfl) rfl ?_
              rintro U30 _ ⟨rfl, fU30, qU30o, ⟨qU30, tU30⟩, qU30e⟩
              show J_ zX10_start T (po_X10_start_e T N ru m) 0 1 85 _ [] U30
              refine j_blx (F := fX10) tb_X10 (nn_ _) bk_X10_start_e_85 bs_X10_start_e_85 hz (fun K hK => ?_)
              refine (show po_X10_start_e T N ru m U30 (some (vI 1)) from ?_)
              have e32 : U30 191 0 0 = U16 191 0 0 := (fU30 191 0 0 rfl).trans ((up_k hU21 (by exact Nat.ne_of_beq_eq_false rfl) 0 0).trans (fU20 191 0 0 rfl))
              have e33 : U30 103 m 0 = U20 103 m 0 := (fU30 103 m 0 rfl).trans (up_k hU21 (by exact Nat.ne_of_beq_eq_false rfl) m 0)
              have e34 : U30 103 m 14 = U20 103 m 14 := (fU30 103 m 14 rfl).trans (up_k hU21 (by exact Nat.ne_of_beq_eq_false rfl) m 14)
              have e35 : U30 103 m 15 = U20 103 m 15 := (fU30 103 m 15 rfl).trans (up_k hU21 (by exact Nat.ne_of_beq_eq_false rfl) m 15)
              have e36 : U30 103 m 16 = U20 103 m 16 := (fU30 103 m 16 rfl).trans (up_k hU21 (by exact Nat.ne_of_beq_eq_false rfl) m 16)
              have e37 : U30 103 m 17 = U20 103 m 17 := (fU30 103 m 17 rfl).trans (up_k hU21 (by exact Nat.ne_of_beq_eq_false rfl) m 17)
              have e38 : U30 191 0 0 = U16 191 0 0 := (fU30 191 0 0 rfl).trans ((up_k hU21 (by exact Nat.ne_of_beq_eq_false rfl) 0 0).trans (fU20 191 0 0 rfl))
              have e39 : U30 106 0 4 = T 106 0 4 := (fU30 106 0 4 rfl).trans ((up_k hU21 (by exact Nat.ne_of_beq_eq_false rfl) 0 4).trans ((fU20 106 0 4 rfl).trans ((fU16 106 0 4 rfl).trans (fU11 106 0 4 rfl))))
              have e40 : U30 106 0 2 = T 106 0 2 := (fU30 106 0 2 rfl).trans ((up_k hU21 (by exact Nat.ne_of_beq_eq_false rfl) 0 2).trans ((fU20 106 0 2 rfl).trans ((fU16 106 0 2 rfl).trans (fU11 106 0 2 rfl))))
              have e41 : U30 102 m 10 = 1 := (fU30 102 m 10 rfl).trans (up_f hU21)
              have x14 : U30 103 m 14 = U11 191 0 0 := Int.le_antisymm (by omega) (by omega)
              have x16 : U30 103 m 16 = U11 191 0 0 + 1 := Int.le_antisymm (by omega) (by omega)
              have d1 : U30 190 (U30 103 m 14) (-2) = 32 := by rw [x14]; exact ((fU30 190 _ _ rfl).trans ((up_k hU21 (by exact Nat.ne_of_beq_eq_false rfl) _ _).trans (fU20 190 _ _ rfl))).trans lgU16
              have d2 : U30 190 (U30 103 m 16) (-2) = 16 := by rw [x16]; exact ((fU30 190 _ _ rfl).trans ((up_k hU21 (by exact Nat.ne_of_beq_eq_false rfl) _ _).trans (fU20 190 _ _ rfl))).trans laU16
              have d6 : ∀ x j, x < T 191 0 0 → U30 190 x j = T 190 x j := fun x j hx => ((fU30 190 _ _ rfl).trans ((up_k hU21 (by exact Nat.ne_of_beq_eq_false rfl) _ _).trans (fU20 190 _ _ rfl))).trans ((lU16 x j (by omega)).trans (fU11 190 _ _ rfl))
              have d3 : lh_ T U30 := ⟨fun x hx => d6 x (-2) hx, by omega⟩
              have d4 : ∀ k i j, i ≠ m → k ≠ 190 → k ≠ 191 → U30 k i j = T k i j := fun k i j a b c => (qU30o k i j a).trans ((up_g hU21 (fun z => a z.2.1)).trans ((oU20 k i j a).trans ((qU16o k i j a b c).trans (oU11 k i j (fun z => a z.2)))))
              have d5 : Lp_ N U30 m := ⟨⟨by omega, by omega, by omega, by omega, by omega, by omega, by omega, by omega, by omega⟩, by rw [d1]; exact Or.inr (Or.inl rfl), by rw [d2]; exact Or.inl rfl, fun _ => qU30⟩
              have e42 : U30 153 m (-1) = U20 153 m (-1) := (fU30 153 m (-1) rfl).trans (up_k hU21 (by exact Nat.ne_of_beq_eq_false rfl) m (-1))
              have n1 : NR_ U30 := by
                refine ⟨fun i => by rw [show U30 150 i (-1) = T 150 i (-1) from (fU30 150 _ _ rfl).trans ((up_k hU21 (by exact Nat.ne_of_beq_eq_false rfl) _ _).trans ((fU20 150 _ _ rfl).trans ((fU16 150 _ _ rfl).trans (fU11 150 _ _ rfl))))]; exact hna.1.1 i, fun i => by rw [show U30 152 i (-1) = T 152 i (-1) from (fU30 152 _ _ rfl).trans ((up_k hU21 (by exact Nat.ne_of_beq_eq_false rfl) _ _).trans ((fU20 152 _ _ rfl).trans ((fU16 152 _ _ rfl).trans (fU11 152 _ _ rfl))))]; exact hna.1.2.1 i, fun i => ?_⟩
                · by_cases z : i = m
                  · rw [z, e42]; exact rU20
                  · rw [d4 153 i (-1) z (by decide) (by decide)]; exact hna.1.2.2 i
              have n2 : NA_ U30 := by
                refine ⟨n1, fun i hi => by rw [show U30 100 i (-1) = T 100 i (-1) from (fU30 100 _ _ rfl).trans ((up_k hU21 (by exact Nat.ne_of_beq_eq_false rfl) _ _).trans ((fU20 100 _ _ rfl).trans ((fU16 100 _ _ rfl).trans (fU11 100 _ _ rfl))))]; exact hna.2.1 i (by omega), fun i hi => by rw [show U30 102 i (-1) = T 102 i (-1) from (fU30 102 _ _ rfl).trans ((up_j hU21 (by decide) _ _).trans ((fU20 102 _ _ rfl).trans ((fU16 102 _ _ rfl).trans (fU11 102 _ _ rfl))))]; exact hna.2.2.1 i (by omega), fun i hi => ?_⟩
                · by_cases z : i = m
                  · rw [z] at hi; exact absurd hi (by omega)
                  · rw [d4 103 i (-1) z (by decide) (by decide)]; rw [d4 102 i 10 z (by decide) (by decide)] at hi; exact hna.2.2.2 i (by omega)
              have u1 : ∃ z : Sg_, (∀ (k : Nat) (j : Int), k = 448 ∨ k = 449 → z k j = rs9_ T m k j) ∧ rs9_ U30 m = bb9_ ru z := ⟨rs9_ U21 m, fun k j h => by
                rcases h with rfl | rfl
                · rw [rs_d rfl, rs_d rfl]; exact (up_k hU21 (by exact Nat.ne_of_beq_eq_false rfl) _ _).trans ((fU20 448 _ _ rfl).trans ((fU16 448 _ _ rfl).trans (fU11 448 _ _ rfl)))
                · rw [rs_d rfl, rs_d rfl]; exact (up_k hU21 (by exact Nat.ne_of_beq_eq_false rfl) _ _).trans ((fU20 449 _ _ rfl).trans ((fU16 449 _ _ rfl).trans (fU11 449 _ _ rfl))), qU30e⟩
              exact ⟨_, rfl, fr_t (fr_u (fr_t (fr_t (fr_t (fr_0 _ _) (fr_s fU11 rfl)) (fr_s fU16 rfl)) (fr_s fU20 rfl)) hU21 rfl) (fr_s fU30 rfl), ⟨LP_q hlp (by omega) d3 (fun k i j a b c _ => d4 k i j a b c) (by omega) (by omega) (fun _ => d5), d3, by omega, n2, d4⟩, Or.inr ⟨by omega, Or.inr ⟨rfl, by omega, by omega, by omega, u1, by omega, by omega, by omega, by omega, d6, d4⟩⟩⟩
          · replace hx9 := hx9.resolve_left (fun z => absurd (c10.symm.trans z.1) (by decide))
            clear c10
            refine (show po_X10_start_e T N ru m T (some (vI (-4))) from ?_)
            exact ⟨_, rfl, fr_0 _ _, ⟨LP_f (ws := []) hlp (by omega) lh_r (fr_0 _ _) ⟨rfl, rfl, rfl, rfl, rfl, rfl, rfl, rfl, rfl, rfl, rfl⟩, lh_r, by omega, hna, fun _ _ _ _ _ _ => rfl⟩, Or.inr ⟨by omega, Or.inl ⟨rfl, by omega, rfl⟩⟩⟩
  · replace hx1 := hx1.resolve_left (fun z => absurd (c2.symm.trans z.1) (by decide))
    clear c2
    refine (show po_X10_start_e T N ru m T (some (vI (-2))) from ?_)
    exact ⟨_, rfl, fr_0 _ _, ⟨LP_f (ws := []) hlp (by omega) lh_r (fr_0 _ _) ⟨rfl, rfl, rfl, rfl, rfl, rfl, rfl, rfl, rfl, rfl, rfl⟩, lh_r, by omega, hna, fun _ _ _ _ _ _ => rfl⟩, Or.inl ⟨rfl, by omega, rfl⟩⟩
