theorem bk_X10_review_e_0 : ck_ fX10 (some .int) cX10_review 0 [.aload 0, .iload 1] 2 = true := qck_r (nn_ _) (by decide +kernel)
theorem bs_X10_review_e_0 {P : Zt → Option Zv → Prop} (K : Int → Zl → List Zv → Zt → Prop) : sx_ K P [.aload 0, .iload 1] 2 = x_aload 0 (x_iload 1 (K 2)) := ((xe_aload 0).trans (congrArg (x_aload 0) ((xe_iload 1).trans (congrArg (x_iload 1) xe_nil))))
theorem bk_X10_review_e_5 : ck_ fX10 (some .int) cX10_review 5 [.ifCond .ne 11, .iconst (-2), .ireturn] 11 = true := qck_r (nn_ _) (by decide +kernel)
theorem bs_X10_review_e_5 {P : Zt → Option Zv → Prop} (K : Int → Zl → List Zv → Zt → Prop) : sx_ K P [.ifCond .ne 11, .iconst (-2), .ireturn] 11 = x_ifCond .ne 11 K (x_iconst (-2) (x_ireturn P)) := ((xe_ifCond .ne 11).trans (congrArg (x_ifCond .ne 11 K) ((xe_iconst (-2)).trans (congrArg (x_iconst (-2)) (xe_ireturn)))))
theorem bk_X10_review_e_11 : ck_ fX10 (some .int) cX10_review 11 [.aload 0, .tableswitch 0 10 2 #[], .tableswitch 0 6 3 #[], .iload 1, .aaload, .tableswitch 0 2 10 #[], .astore 7, .aload 7, .ifnull 42, .iload 2, .aload 7, .tableswitch 0 3 15 #[]] 36 = true := qck_r (nn_ _) (by decide +kernel)
theorem bs_X10_review_e_11 {P : Zt → Option Zv → Prop} (K : Int → Zl → List Zv → Zt → Prop) : sx_ K P [.aload 0, .tableswitch 0 10 2 #[], .tableswitch 0 6 3 #[], .iload 1, .aaload, .tableswitch 0 2 10 #[], .astore 7, .aload 7, .ifnull 42, .iload 2, .aload 7, .tableswitch 0 3 15 #[]] 36 = x_aload 0 (x_g1 110 106 (x_g1 106 523 (x_iload 1 (x_aaload (x_g4 102 103 10 (x_astore 7 (x_aload 7 (x_ifnull 42 K (x_iload 2 (x_aload 7 (x_g0 103 15 0 3000 (K 36)))))))))))) := ((xe_aload 0).trans (congrArg (x_aload 0) ((xe_g1 (kk := 110) rfl tl_10_2).trans (congrArg (x_g1 110 106) ((xe_g1 (kk := 106) rfl tl_6_3).trans (congrArg (x_g1 106 523) ((xe_iload 1).trans (congrArg (x_iload 1) ((xe_aaload).trans (congrArg (x_aaload) ((xe_g4 (kk := 102) rfl tl_2_10).trans (congrArg (x_g4 102 103 10) ((xe_astore 7).trans (congrArg (x_astore 7) ((xe_aload 7).trans (congrArg (x_aload 7) ((xe_ifnull 42).trans (congrArg (x_ifnull 42 K) ((xe_iload 2).trans (congrArg (x_iload 2) ((xe_aload 7).trans (congrArg (x_aload 7) ((xe_g0 (kk := 103) rfl tl_3_15).trans (congrArg (x_g0 103 15 0 3000) xe_nil))))))))))))))))))))))))
theorem bk_X10_review_e_42 : ck_ fX10 (some .int) cX10_review 42 [.iconst (-2), .ireturn] 45 = true := qck_r (nn_ _) (by decide +kernel)
theorem bs_X10_review_e_42 {P : Zt → Option Zv → Prop} (K : Int → Zl → List Zv → Zt → Prop) : sx_ K P [.iconst (-2), .ireturn] 45 = x_iconst (-2) (x_ireturn P) := ((xe_iconst (-2)).trans (congrArg (x_iconst (-2)) (xe_ireturn)))
theorem bk_X10_review_e_39 : ck_ fX10 (some .int) cX10_review 39 [.ifCond .ne 45, .iconst (-2), .ireturn] 45 = true := qck_r (nn_ _) (by decide +kernel)
theorem bs_X10_review_e_39 {P : Zt → Option Zv → Prop} (K : Int → Zl → List Zv → Zt → Prop) : sx_ K P [.ifCond .ne 45, .iconst (-2), .ireturn] 45 = x_ifCond .ne 45 K (x_iconst (-2) (x_ireturn P)) := ((xe_ifCond .ne 45).trans (congrArg (x_ifCond .ne 45 K) ((xe_iconst (-2)).trans (congrArg (x_iconst (-2)) (xe_ireturn)))))
theorem bk_X10_review_e_45 : ck_ fX10 (some .int) cX10_review 45 [.iload 3, .iconst (-1), .if_icmp .ne 62, .aload 7, .iload 2] 53 = true := qck_r (nn_ _) (by decide +kernel)
theorem bs_X10_review_e_45 {P : Zt → Option Zv → Prop} (K : Int → Zl → List Zv → Zt → Prop) : sx_ K P [.iload 3, .iconst (-1), .if_icmp .ne 62, .aload 7, .iload 2] 53 = x_iload 3 (x_iconst (-1) (x_if_icmp .ne 62 K (x_aload 7 (x_iload 2 (K 53))))) := ((xe_iload 3).trans (congrArg (x_iload 3) ((xe_iconst (-1)).trans (congrArg (x_iconst (-1)) ((xe_if_icmp .ne 62).trans (congrArg (x_if_icmp .ne 62 K) ((xe_aload 7).trans (congrArg (x_aload 7) ((xe_iload 2).trans (congrArg (x_iload 2) xe_nil))))))))))
theorem bk_X10_review_e_62 : ck_ fX10 (some .int) cX10_review 62 [.aload 7, .iload 3, .iload 4] 67 = true := qck_r (nn_ _) (by decide +kernel)
theorem bs_X10_review_e_62 {P : Zt → Option Zv → Prop} (K : Int → Zl → List Zv → Zt → Prop) : sx_ K P [.aload 7, .iload 3, .iload 4] 67 = x_aload 7 (x_iload 3 (x_iload 4 (K 67))) := ((xe_aload 7).trans (congrArg (x_aload 7) ((xe_iload 3).trans (congrArg (x_iload 3) ((xe_iload 4).trans (congrArg (x_iload 4) xe_nil))))))
theorem bk_X10_review_e_70 : ck_ fX10 (some .int) cX10_review 70 [.ifCond .ne 76, .iconst (-12), .ireturn] 76 = true := qck_r (nn_ _) (by decide +kernel)
theorem bs_X10_review_e_70 {P : Zt → Option Zv → Prop} (K : Int → Zl → List Zv → Zt → Prop) : sx_ K P [.ifCond .ne 76, .iconst (-12), .ireturn] 76 = x_ifCond .ne 76 K (x_iconst (-12) (x_ireturn P)) := ((xe_ifCond .ne 76).trans (congrArg (x_ifCond .ne 76 K) ((xe_iconst (-12)).trans (congrArg (x_iconst (-12)) (xe_ireturn)))))
theorem bk_X10_review_e_76 : ck_ fX10 (some .int) cX10_review 76 [.aload 7, .iload 3, .iload 6] 81 = true := qck_r (nn_ _) (by decide +kernel)
theorem bs_X10_review_e_76 {P : Zt → Option Zv → Prop} (K : Int → Zl → List Zv → Zt → Prop) : sx_ K P [.aload 7, .iload 3, .iload 6] 81 = x_aload 7 (x_iload 3 (x_iload 6 (K 81))) := ((xe_aload 7).trans (congrArg (x_aload 7) ((xe_iload 3).trans (congrArg (x_iload 3) ((xe_iload 6).trans (congrArg (x_iload 6) xe_nil))))))
theorem bk_X10_review_e_84 : ck_ fX10 (some .int) cX10_review 84 [.ifCond .ne 90, .iconst (-17), .ireturn] 90 = true := qck_r (nn_ _) (by decide +kernel)
theorem bs_X10_review_e_84 {P : Zt → Option Zv → Prop} (K : Int → Zl → List Zv → Zt → Prop) : sx_ K P [.ifCond .ne 90, .iconst (-17), .ireturn] 90 = x_ifCond .ne 90 K (x_iconst (-17) (x_ireturn P)) := ((xe_ifCond .ne 90).trans (congrArg (x_ifCond .ne 90 K) ((xe_iconst (-17)).trans (congrArg (x_iconst (-17)) (xe_ireturn)))))
theorem bk_X10_review_e_90 : ck_ fX10 (some .int) cX10_review 90 [.aload 7, .iload 2, .iload 3, .iload 4, .iload 5, .iload 6] 100 = true := qck_r (nn_ _) (by decide +kernel)
theorem bs_X10_review_e_90 {P : Zt → Option Zv → Prop} (K : Int → Zl → List Zv → Zt → Prop) : sx_ K P [.aload 7, .iload 2, .iload 3, .iload 4, .iload 5, .iload 6] 100 = x_aload 7 (x_iload 2 (x_iload 3 (x_iload 4 (x_iload 5 (x_iload 6 (K 100)))))) := ((xe_aload 7).trans (congrArg (x_aload 7) ((xe_iload 2).trans (congrArg (x_iload 2) ((xe_iload 3).trans (congrArg (x_iload 3) ((xe_iload 4).trans (congrArg (x_iload 4) ((xe_iload 5).trans (congrArg (x_iload 5) ((xe_iload 6).trans (congrArg (x_iload 6) xe_nil))))))))))))
theorem bk_X10_review_e_103 : ck_ fX10 (some .int) cX10_review 103 [.ifCond .eq 109, .iconst (-20), .ireturn] 109 = true := qck_r (nn_ _) (by decide +kernel)
theorem bs_X10_review_e_103 {P : Zt → Option Zv → Prop} (K : Int → Zl → List Zv → Zt → Prop) : sx_ K P [.ifCond .eq 109, .iconst (-20), .ireturn] 109 = x_ifCond .eq 109 K (x_iconst (-20) (x_ireturn P)) := ((xe_ifCond .eq 109).trans (congrArg (x_ifCond .eq 109 K) ((xe_iconst (-20)).trans (congrArg (x_iconst (-20)) (xe_ireturn)))))
theorem bk_X10_review_e_109 : ck_ fX10 (some .int) cX10_review 109 [.aload 7, .iload 2, .iload 3, .iload 4, .iload 5, .iload 6] 119 = true := qck_r (nn_ _) (by decide +kernel)
theorem bs_X10_review_e_109 {P : Zt → Option Zv → Prop} (K : Int → Zl → List Zv → Zt → Prop) : sx_ K P [.aload 7, .iload 2, .iload 3, .iload 4, .iload 5, .iload 6] 119 = x_aload 7 (x_iload 2 (x_iload 3 (x_iload 4 (x_iload 5 (x_iload 6 (K 119)))))) := ((xe_aload 7).trans (congrArg (x_aload 7) ((xe_iload 2).trans (congrArg (x_iload 2) ((xe_iload 3).trans (congrArg (x_iload 3) ((xe_iload 4).trans (congrArg (x_iload 4) ((xe_iload 5).trans (congrArg (x_iload 5) ((xe_iload 6).trans (congrArg (x_iload 6) xe_nil))))))))))))
theorem bk_X10_review_e_122 : ck_ fX10 (some .int) cX10_review 122 [.aload 7] 124 = true := qck_r (nn_ _) (by decide +kernel)
theorem bs_X10_review_e_122 {P : Zt → Option Zv → Prop} (K : Int → Zl → List Zv → Zt → Prop) : sx_ K P [.aload 7] 124 = x_aload 7 (K 124) := ((xe_aload 7).trans (congrArg (x_aload 7) xe_nil))
theorem bk_X10_review_e_127 : ck_ fX10 (some .int) cX10_review 127 [.ireturn] 128 = true := qck_r (nn_ _) (by decide +kernel)
theorem bs_X10_review_e_127 {P : Zt → Option Zv → Prop} (K : Int → Zl → List Zv → Zt → Prop) : sx_ K P [.ireturn] 128 = x_ireturn P := (xe_ireturn)
theorem bk_X10_review_e_56 : ck_ fX10 (some .int) cX10_review 56 [.aload 7] 58 = true := qck_r (nn_ _) (by decide +kernel)
theorem bs_X10_review_e_56 {P : Zt → Option Zv → Prop} (K : Int → Zl → List Zv → Zt → Prop) : sx_ K P [.aload 7] 58 = x_aload 7 (K 58) := ((xe_aload 7).trans (congrArg (x_aload 7) xe_nil))
theorem bk_X10_review_e_61 : ck_ fX10 (some .int) cX10_review 61 [.ireturn] 62 = true := qck_r (nn_ _) (by decide +kernel)
theorem bs_X10_review_e_61 {P : Zt → Option Zv → Prop} (K : Int → Zl → List Zv → Zt → Prop) : sx_ K P [.ireturn] 62 = x_ireturn P := (xe_ireturn)
abbrev po_X10_review_e (T : Zt) (N : Int) (ru : Int → Int) (m i k s a b : Int) : Zt → Option Zv → Prop := fun T' r => ∃ x : Int, r = some (vI x) ∧ fr_ [(103, [3, 4, 5, 15, 16, 17]), (466, []), (467, []), (468, []), (469, []), (472, []), (473, []), (470, []), (471, []), (190, []), (191, [0])] T T' ∧ (LP_ (N + 1) T' ∧ lh_ T T' ∧ T' 191 0 0 ≤ T 191 0 0 + 600) ∧ ((x = -2 ∧ ¬ ((0 ≤ m ∧ m < T 106 0 4) ∧ ¬ (T 102 m 10 = 0) ∧ 0 ≤ i ∧ i < T 103 m 15) ∧ T = T') ∨ (((0 ≤ m ∧ m < T 106 0 4) ∧ ¬ (T 102 m 10 = 0) ∧ 0 ≤ i ∧ i < T 103 m 15) ∧ OMH_ T T' m ∧ ((k = -1 ∧ RNH_ ru m x T T' ((hr9_ T (T 103 m 14) (T 103 m 15).toNat).eraseIdx i.toNat)) ∨ (k ≠ -1 ∧ ((¬ ((k = 0 ∨ (0 ≤ s ∧ s ≤ 1)) ∧ ((ru 0 = 0 ∧ 0 ≤ k ∧ k ≤ 5) ∨ (ru 0 = 1 ∧ (k = 1 ∨ k = 5)) ∨ (ru 0 = 2 ∧ (k = 1 ∨ k = 6)) ∨ (¬ ru 0 = 0 ∧ ¬ ru 0 = 1 ∧ ¬ ru 0 = 2 ∧ 1 ≤ k ∧ k ≤ 4))) ∧ x = -12 ∧ T = T') ∨ (((k = 0 ∨ (0 ≤ s ∧ s ≤ 1)) ∧ ((ru 0 = 0 ∧ 0 ≤ k ∧ k ≤ 5) ∨ (ru 0 = 1 ∧ (k = 1 ∨ k = 5)) ∨ (ru 0 = 2 ∧ (k = 1 ∨ k = 6)) ∨ (¬ ru 0 = 0 ∧ ¬ ru 0 = 1 ∧ ¬ ru 0 = 2 ∧ 1 ≤ k ∧ k ≤ 4))) ∧ ¬ (ru 0 ≠ 3 ∨ k ≠ 1 ∨ (1 ≤ b ∧ b ≤ 4)) ∧ x = -17 ∧ T = T') ∨ (((k = 0 ∨ (0 ≤ s ∧ s ≤ 1)) ∧ ((ru 0 = 0 ∧ 0 ≤ k ∧ k ≤ 5) ∨ (ru 0 = 1 ∧ (k = 1 ∨ k = 5)) ∨ (ru 0 = 2 ∧ (k = 1 ∨ k = 6)) ∨ (¬ ru 0 = 0 ∧ ¬ ru 0 = 1 ∧ ¬ ru 0 = 2 ∧ 1 ≤ k ∧ k ≤ 4))) ∧ (ru 0 ≠ 3 ∨ k ≠ 1 ∨ (1 ≤ b ∧ b ≤ 4)) ∧ (hr9_ T (T 103 m 14) (T 103 m 15).toNat)[i.toNat]? = some (k, s, a, b) ∧ x = -20 ∧ T = T') ∨ (((k = 0 ∨ (0 ≤ s ∧ s ≤ 1)) ∧ ((ru 0 = 0 ∧ 0 ≤ k ∧ k ≤ 5) ∨ (ru 0 = 1 ∧ (k = 1 ∨ k = 5)) ∨ (ru 0 = 2 ∧ (k = 1 ∨ k = 6)) ∨ (¬ ru 0 = 0 ∧ ¬ ru 0 = 1 ∧ ¬ ru 0 = 2 ∧ 1 ≤ k ∧ k ≤ 4))) ∧ (ru 0 ≠ 3 ∨ k ≠ 1 ∨ (1 ≤ b ∧ b ≤ 4)) ∧ ¬ ((hr9_ T (T 103 m 14) (T 103 m 15).toNat)[i.toNat]? = some (k, s, a, b)) ∧ RNH_ ru m x T T' ((hr9_ T (T 103 m 14) (T 103 m 15).toNat).set i.toNat (k, s, a, b))))))))
set_option maxHeartbeats 4000000 in
theorem ct_X10_review_e {T : Zt} {N : Int} {ru : Int → Int} {m i k s a b : Int} (hka : KA_ T) (hkm : KM_ T) (hkr : KR_ T) (hlp : LP_ N T) (hN : 0 ≤ N ∧ N ≤ 511) (h9 : 0 ≤ T 191 0 0 ∧ T 191 0 0 ≤ 900000000) (hr : RLP_ T m ru) (hld : 0 ≤ m → m < T 106 0 4 → T 102 m 10 ≠ 0 → T 103 m 14 ≠ T 103 m 16) : Ct_ yX10_review zX10_review T [vR 110 0, vI m, vI i, vI k, vI s, vI a, vI b] (po_X10_review_e T N ru m i k s a b) := by
  refine ct_of pn_10 rfl rfl (Nat.le_of_ble_eq_true rfl) (fun hT hav => ?_)
  have hr_m : -2147483648 ≤ m ∧ m ≤ 2147483647 := hav (vI m) (List.mem_cons_of_mem _ List.mem_cons_self)
  have hr_i : -2147483648 ≤ i ∧ i ≤ 2147483647 := hav (vI i) (List.mem_cons_of_mem _ (List.mem_cons_of_mem _ List.mem_cons_self))
  have hr_k : -2147483648 ≤ k ∧ k ≤ 2147483647 := hav (vI k) (List.mem_cons_of_mem _ (List.mem_cons_of_mem _ (List.mem_cons_of_mem _ List.mem_cons_self)))
  have hr_s : -2147483648 ≤ s ∧ s ≤ 2147483647 := hav (vI s) (List.mem_cons_of_mem _ (List.mem_cons_of_mem _ (List.mem_cons_of_mem _ (List.mem_cons_of_mem _ List.mem_cons_self))))
  have hr_a : -2147483648 ≤ a ∧ a ≤ 2147483647 := hav (vI a) (List.mem_cons_of_mem _ (List.mem_cons_of_mem _ (List.mem_cons_of_mem _ (List.mem_cons_of_mem _ (List.mem_cons_of_mem _ List.mem_cons_self)))))
  have hr_b : -2147483648 ≤ b ∧ b ≤ 2147483647 := hav (vI b) (List.mem_cons_of_mem _ (List.mem_cons_of_mem _ (List.mem_cons_of_mem _ (List.mem_cons_of_mem _ (List.mem_cons_of_mem _ (List.mem_cons_of_mem _ List.mem_cons_self))))))
  have hz : zX10_review.2.2.2.1 = some .boolean → ∀ (T' : Zt) (x : Int), po_X10_review_e T N ru m i k s a b T' (some (vI x)) → 0 ≤ x ∧ x ≤ 1 := fun h => by cases h
  have hb_matchCount : 0 ≤ T 106 0 4 ∧ T 106 0 4 ≤ 400 := bd_f hT 106 4 tl_6_4 0
  have hr0 := hr 0 (by decide) (by decide)
  have hr9 := hr 9 (by decide) (by decide)
  have hr10 := hr 10 (by decide) (by decide)
  have hr11 := hr 11 (by decide) (by decide)
  have hr12 := hr 12 (by decide) (by decide)
  show J_ zX10_review T (po_X10_review_e T N ru m i k s a b) 127 4064 0 [some (vR 110 0), some (vI m), some (vI i), some (vI k), some (vI s), some (vI a), some (vI b), none] [] T
  refine j_blx (F := fX10) tb_X10 (nn_ _) bk_X10_review_e_0 bs_X10_review_e_0 hz (fun K hK => ?_)
  refine hK 2 _ [vI m, vR 110 0] T ?_
  refine j_callV (y := yX10_isMatch) (Yc := zX10_isMatch) (rest := []) [vI m] (ct_X10_isMatch (T := T)) cl_X10_195 (qd_c (by decide +kernel)) (nn_ _) rfl (rf_of rfl) (Nat.le_of_ble_eq_true rfl) (Nat.le_of_ble_eq_true rfl) (Nat.le_of_ble_eq_true rfl) rfl ?_
  rintro _ _ ⟨rfl, x1, rfl, hx1⟩
  show J_ zX10_review T (po_X10_review_e T N ru m i k s a b) 127 4064 5 _ [vI x1] T
  refine j_blx (F := fX10) tb_X10 (nn_ _) bk_X10_review_e_5 bs_X10_review_e_5 hz (fun K hK => ?_)
  refine And.intro (fun c2 => ?_) (fun c2 => ?_)
  · have im9 := (hx1.resolve_right (fun z => c2 z.1)).2
    clear hx1 c2
    refine hK 11 _ [] T ?_
    refine j_blx (F := fX10) tb_X10 (nn_ _) bk_X10_review_e_11 bs_X10_review_e_11 hz (fun K hK => ?_)
    refine ix_i (by omega) ?_
    refine And.intro (fun c3 => ?_) (fun c3 => ?_)
    · exact absurd (show T 523 0 (m) = 0 from Int.le_antisymm (by omega) (by omega)) (hka.2 _ (by omega) (by omega))
    · refine And.intro (fun c4 => ?_) (fun c4 => ?_)
      · refine hK 42 [some (vR 110 0), some (vI m), some (vI i), some (vI k), some (vI s), some (vI a), some (vI b), some (vN)] [] T ?_
        refine j_blx (F := fX10) tb_X10 (nn_ _) bk_X10_review_e_42 bs_X10_review_e_42 hz (fun K hK => ?_)
        refine (show po_X10_review_e T N ru m i k s a b T (some (vI (-2))) from ?_)
        exact ⟨_, rfl, fr_0 _ _, ⟨LP_f (ws := []) hlp (by omega) lh_r (fr_0 _ _) ⟨rfl, rfl, rfl, rfl, rfl, rfl, rfl, rfl, rfl, rfl, rfl⟩, lh_r, by omega⟩, Or.inl ⟨rfl, by omega, rfl⟩⟩
      · have hl := hlp m (by omega) (by omega) (by omega)
        obtain ⟨⟨a1, a2, a3, a4, a5, a6, a7, a8, a9⟩, b1, b2, b3⟩ := hl
        have hkr9 := hkr _ a8 a9
        have z1 := lz_b b1
        have z2 := lz_b b2
        have g14 : (-2147483648) ≤ T 103 m 14 ∧ T 103 m 14 ≤ 2147483647 := bd_f hT 103 14 tl_3_14 m
        have g16 : (-2147483648) ≤ T 103 m 16 ∧ T 103 m 16 ≤ 2147483647 := bd_f hT 103 16 tl_3_16 m
        have hld9 := hld (by omega) (by omega) (by omega)
        intro b5 b5b
        refine hK 36 [some (vR 110 0), some (vI m), some (vI i), some (vI k), some (vI s), some (vI a), some (vI b), some (vR 103 m)] [vI (T 103 m 15), vI i] T ?_
        refine j_callS (y := yX10_isBelow) (Yc := zX10_isBelow) (rest := []) [vI i, vI (T 103 m 15)] (ct_X10_isBelow (T := T)) cl_X10_115 (qd_c (by decide +kernel)) (nn_ _) rfl (rf_of rfl) (Nat.le_of_ble_eq_true rfl) (Nat.le_of_ble_eq_true rfl) (Nat.le_of_ble_eq_true rfl) rfl ?_
        rintro _ _ ⟨rfl, x6, rfl, hx6⟩
        show J_ zX10_review T (po_X10_review_e T N ru m i k s a b) 127 4064 39 _ [vI x6] T
        refine j_blx (F := fX10) tb_X10 (nn_ _) bk_X10_review_e_39 bs_X10_review_e_39 hz (fun K hK => ?_)
        refine And.intro (fun c7 => ?_) (fun c7 => ?_)
        · have ib9 := (hx6.resolve_right (fun z => c7 z.1)).2
          clear hx6 c7
          refine hK 45 _ [] T ?_
          refine j_blx (F := fX10) tb_X10 (nn_ _) bk_X10_review_e_45 bs_X10_review_e_45 hz (fun K hK => ?_)
          refine And.intro (fun c8 => ?_) (fun c8 => ?_)
          · refine hK 62 _ [] T ?_
            refine j_blx (F := fX10) tb_X10 (nn_ _) bk_X10_review_e_62 bs_X10_review_e_62 hz (fun K hK => ?_)
            refine hK 67 _ [vI s, vI k, vR 103 m] T ?_
            refine j_callV (y := yX3_isFormed) (Yc := zX3_isFormed) (rest := []) [vI k, vI s] (ct_X3_isFormed_e (T := T)) cl_X10_305 (qd_c (by decide +kernel)) (nn_ _) rfl (rf_of rfl) (Nat.le_of_ble_eq_true rfl) (Nat.le_of_ble_eq_true rfl) (Nat.le_of_ble_eq_true rfl) rfl ?_
            rintro _ _ ⟨rfl, x9, rfl, hx9⟩
            show J_ zX10_review T (po_X10_review_e T N ru m i k s a b) 127 4064 70 _ [vI x9] T
            refine j_blx (F := fX10) tb_X10 (nn_ _) bk_X10_review_e_70 bs_X10_review_e_70 hz (fun K hK => ?_)
            refine And.intro (fun c10 => ?_) (fun c10 => ?_)
            · have fm9 := fun (_ : Unit) => (hx9.resolve_right (fun z => c10 z.1)).2
              rw [hr0] at fm9
              clear hx9
              refine hK 76 _ [] T ?_
              refine j_blx (F := fX10) tb_X10 (nn_ _) bk_X10_review_e_76 bs_X10_review_e_76 hz (fun K hK => ?_)
              refine hK 81 _ [vI b, vI k, vR 103 m] T ?_
              refine j_callV (y := yX3_isBounded) (Yc := zX3_isBounded) (rest := []) [vI k, vI b] (ct_X3_isBounded_e (T := T)) cl_X10_308 (qd_c (by decide +kernel)) (nn_ _) rfl (rf_of rfl) (Nat.le_of_ble_eq_true rfl) (Nat.le_of_ble_eq_true rfl) (Nat.le_of_ble_eq_true rfl) rfl ?_
              rintro _ _ ⟨rfl, x11, rfl, hx11⟩
              show J_ zX10_review T (po_X10_review_e T N ru m i k s a b) 127 4064 84 _ [vI x11] T
              refine j_blx (F := fX10) tb_X10 (nn_ _) bk_X10_review_e_84 bs_X10_review_e_84 hz (fun K hK => ?_)
              refine And.intro (fun c12 => ?_) (fun c12 => ?_)
              · have bd9 := fun (_ : Unit) => (hx11.resolve_right (fun z => c12 z.1)).2
                rw [hr0] at bd9
                clear hx11
                refine hK 90 _ [] T ?_
                refine j_blx (F := fX10) tb_X10 (nn_ _) bk_X10_review_e_90 bs_X10_review_e_90 hz (fun K hK => ?_)
                refine hK 100 _ [vI b, vI a, vI s, vI k, vI i, vR 103 m] T ?_
                refine j_callV (y := yX3_isSameRow) (Yc := zX3_isSameRow) (rest := []) [vI i, vI k, vI s, vI a, vI b] (ct_X3_isSameRow_e (T := T) (by omega)) cl_X10_311 (qd_c (by decide +kernel)) (nn_ _) rfl (rf_of rfl) (Nat.le_of_ble_eq_true rfl) (Nat.le_of_ble_eq_true rfl) (Nat.le_of_ble_eq_true rfl) rfl ?_
                rintro _ _ ⟨rfl, x13, rfl, hx13⟩
                show J_ zX10_review T (po_X10_review_e T N ru m i k s a b) 127 4064 103 _ [vI x13] T
                refine j_blx (F := fX10) tb_X10 (nn_ _) bk_X10_review_e_103 bs_X10_review_e_103 hz (fun K hK => ?_)
                refine And.intro (fun c14 => ?_) (fun c14 => ?_)
                · have sm9 := fun (_ : Unit) => (hx13.resolve_left (fun z => absurd (c14.symm.trans z.1) (by decide))).2
                  clear hx13
                  refine hK 109 _ [] T ?_
                  refine j_blx (F := fX10) tb_X10 (nn_ _) bk_X10_review_e_109 bs_X10_review_e_109 hz (fun K hK => ?_)
                  refine hK 119 _ [vI b, vI a, vI s, vI k, vI i, vR 103 m] T ?_
                  refine j_callV (y := yX3_putInPlace) (Yc := zX3_putInPlace) (rest := []) [vI i, vI k, vI s, vI a, vI b] (ct_X3_putInPlace_e (T := T) (by omega)) cl_X10_315 (qd_c (by decide +kernel)) (nn_ _) rfl (rf_of rfl) (Nat.le_of_ble_eq_true rfl) (Nat.le_of_ble_eq_true rfl) (Nat.le_of_ble_eq_true rfl) rfl ?_
                  rintro U15 _ ⟨rfl, fU15, lU15, xU15, bU15⟩
                  show J_ zX10_review T (po_X10_review_e T N ru m i k s a b) 127 4064 122 _ [] U15
                  refine j_blx (F := fX10) tb_X10 (nn_ _) bk_X10_review_e_122 bs_X10_review_e_122 hz (fun K hK => ?_)
                  refine hK 124 _ [vR 103 m] U15 ?_
                  have e17 : U15 103 m 0 = T 103 m 0 := fU15 103 m 0 rfl
                  have e18 : U15 401 (T 103 m 0) 9 = T 401 (T 103 m 0) 9 := fU15 401 (T 103 m 0) 9 rfl
                  have r19 : U15 401 (U15 103 m 0) 9 = T 401 (T 103 m 0) 9 := by rw [e17]; exact e18
                  have e20 : U15 103 m 15 = T 103 m 15 := fU15 103 m 15 rfl
                  have e21 : U15 103 m 17 = T 103 m 17 := fU15 103 m 17 rfl
                  have e22 : U15 103 m 14 = T 103 m 14 := fU15 103 m 14 rfl
                  have e23 : U15 103 m 16 = T 103 m 16 := fU15 103 m 16 rfl
                  have e24 : U15 191 0 0 = T 191 0 0 := fU15 191 0 0 rfl
                  have e25 : U15 103 m 14 = T 103 m 14 := fU15 103 m 14 rfl
                  have w1 : U15 190 (U15 103 m 14) (-2) = T 190 (T 103 m 14) (-2) := by rw [e25]; exact lU15 _
                  have e26 : U15 103 m 16 = T 103 m 16 := fU15 103 m 16 rfl
                  have w2 : U15 190 (U15 103 m 16) (-2) = T 190 (T 103 m 16) (-2) := by rw [e26]; exact lU15 _
                  refine j_callV (y := yX3_runAnew) (Yc := zX3_runAnew) (rest := []) [] (ct_X3_runAnew_e (T := U15) (ru := ru) (rl_f (ws := [(190, [])]) hr (fr_t (fr_0 _ _) (fr_s fU15 rfl)) rfl (fun _ => rfl)) (by omega) (by omega) (by omega) (by rw [w2]; exact b2) (by omega)) cl_X10_302 (qd_c (by decide +kernel)) (nn_ _) rfl (rf_of rfl) (Nat.le_of_ble_eq_true rfl) (Nat.le_of_ble_eq_true rfl) (Nat.le_of_ble_eq_true rfl) rfl ?_
                  rintro U27 _ ⟨x28, rfl, fU27, qU27o, lU27, nU27, mU27, zU27, kU27, qU27, xU27, gU27, faU27, fbU27, fcU27, fdU27⟩
                  show J_ zX10_review T (po_X10_review_e T N ru m i k s a b) 0 0 127 _ [vI x28] U27
                  refine j_blx (F := fX10) tb_X10 (nn_ _) bk_X10_review_e_127 bs_X10_review_e_127 hz (fun K hK => ?_)
                  refine (show po_X10_review_e T N ru m i k s a b U27 (some (vI x28)) from ?_)
                  have e29 : U27 103 m 0 = T 103 m 0 := (fU27 103 m 0 rfl).trans (fU15 103 m 0 rfl)
                  have e30 : U27 103 m 14 = T 103 m 14 := (fU27 103 m 14 rfl).trans (fU15 103 m 14 rfl)
                  have e31 : U15 103 m 15 = T 103 m 15 := fU15 103 m 15 rfl
                  have e32 : U15 103 m 17 = T 103 m 17 := fU15 103 m 17 rfl
                  have e33 : U15 103 m 14 = T 103 m 14 := fU15 103 m 14 rfl
                  have e34 : U15 103 m 16 = T 103 m 16 := fU15 103 m 16 rfl
                  have e35 : U27 106 0 4 = T 106 0 4 := (fU27 106 0 4 rfl).trans (fU15 106 0 4 rfl)
                  have e36 : U27 106 0 2 = T 106 0 2 := (fU27 106 0 2 rfl).trans (fU15 106 0 2 rfl)
                  have e37 : U15 191 0 0 = T 191 0 0 := fU15 191 0 0 rfl
                  have e38 : U27 103 m 14 = T 103 m 14 := (fU27 103 m 14 rfl).trans (fU15 103 m 14 rfl)
                  have d0 : U27 103 m 14 = U15 103 m 14 := fU27 103 m 14 rfl
                  have d1 : U27 190 (U27 103 m 14) (-2) = T 190 (T 103 m 14) (-2) := by rw [e38]; exact (lU27 _ (by omega)).trans (lU15 _)
                  have d5 : U27 190 (U15 103 m 14) (-2) = T 190 (T 103 m 14) (-2) := by rw [show U15 103 m 14 = T 103 m 14 from Int.le_antisymm (by omega) (by omega)]; exact (lU27 _ (by omega)).trans (lU15 _)
                  have d2 : lh_ T U27 := ⟨fun x hx => (lU27 x (by omega)).trans (lU15 _), by omega⟩
                  have d3 : ∀ k i j, i ≠ m → k ≠ 190 → k ≠ 191 → k ≠ 106 → U27 k i j = T k i j := fun k i j a b c d => (qU27o k i j a b c).trans (fU15 k i j (by simp [fw_, b]))
                  have d4 : Lp_ (N + 1) U27 m := ⟨⟨by omega, by omega, by omega, by omega, by omega, by omega, by omega, by omega, by omega⟩, by rw [d1]; exact b1, zU27, qU27⟩
                  have u14 : U15 103 m 14 = T 103 m 14 := Int.le_antisymm (by omega) (by omega)
                  have v14 : U27 103 m 14 = T 103 m 14 := Int.le_antisymm (by omega) (by omega)
                  have u16 : U15 103 m 16 = T 103 m 16 := Int.le_antisymm (by omega) (by omega)
                  have u17 : U15 103 m 17 = T 103 m 17 := Int.le_antisymm (by omega) (by omega)
                  have u1 : rs9_ U15 m = rs9_ T m := rs_w fU15 (fun k j d => by rcases dk_c d with rfl | rfl | rfl | rfl | rfl | rfl | rfl | rfl | rfl | rfl | ⟨rfl, rfl | rfl | rfl⟩ <;> rfl)
                  have u2 : hr9_ U15 (U15 103 m 14) (U15 103 m 15).toNat = ((hr9_ T (T 103 m 14) (T 103 m 15).toNat).set i.toNat (k, s, a, b)) := by
                    rw [u14, show U15 103 m 15 = T 103 m 15 from Int.le_antisymm (by omega) (by omega)]
                    exact bU15
                  have fA := faU27
                  have fB := fbU27
                  have fC := fcU27
                  have fD := fdU27
                  rw [u1, u2] at fA fB fC
                  rw [u14.trans v14.symm] at fB
                  rw [u17] at fD
                  have rnz : RNH_ ru m _ T U27 ((hr9_ T (T 103 m 14) (T 103 m 15).toNat).set i.toNat (k, s, a, b)) := ⟨fA, fB, fC, fD⟩
                  have u3 : OMH_ T U27 m := ⟨d3, fun x j h1 h2 h3 => (xU27 x j (by omega) (by omega) (by omega)).trans (xU15 x j (by omega)), by omega, by rcases gU27 with z | z <;> omega⟩
                  have nsm : ¬ ((hr9_ T (T 103 m 14) (T 103 m 15).toNat)[i.toNat]? = some (k, s, a, b)) := fun z => by
                    rw [hrw_g _ (by omega)] at z
                    have z1 := Option.some.inj z
                    unfold ra9_ at z1
                    rw [show ((i.toNat : Nat) : Int) = i by omega] at z1
                    have y0 : T 190 (T 103 m 14) (i * 4) = k := congrArg Prod.fst z1
                    have y1 : T 190 (T 103 m 14) (i * 4 + 1) = s := congrArg (fun t => t.2.1) z1
                    have y2 : T 190 (T 103 m 14) (i * 4 + 2) = a := congrArg (fun t => t.2.2.1) z1
                    have y3 : T 190 (T 103 m 14) (i * 4 + 3) = b := congrArg (fun t => t.2.2.2) z1
                    exact sm9 () ⟨y0, y1, y2, y3⟩
                  exact ⟨_, rfl, fr_t (fr_t (fr_0 _ _) (fr_s fU15 rfl)) (fr_s fU27 rfl), ⟨LP_q hlp (by omega) d2 d3 (by omega) (by omega) (fun _ => d4), d2, by omega⟩, Or.inr ⟨by omega, u3, Or.inr ⟨by omega, Or.inr (Or.inr (Or.inr ⟨fm9 (), bd9 (), nsm, rnz⟩))⟩⟩⟩
                · have sm9 := fun (_ : Unit) => (hx13.resolve_right (fun z => c14 z.1)).2
                  clear hx13
                  refine (show po_X10_review_e T N ru m i k s a b T (some (vI (-20))) from ?_)
                  have sme : (hr9_ T (T 103 m 14) (T 103 m 15).toNat)[i.toNat]? = some (k, s, a, b) := by
                    rw [hrw_g _ (by omega)]
                    refine congrArg some ?_
                    unfold ra9_
                    rw [show ((i.toNat : Nat) : Int) = i by omega]
                    have y9 : T 190 (T 103 m 14) (i * 4) = k ∧ T 190 (T 103 m 14) (i * 4 + 1) = s ∧ T 190 (T 103 m 14) (i * 4 + 2) = a ∧ T 190 (T 103 m 14) (i * 4 + 3) = b := sm9 ()
                    rw [y9.1, y9.2.1, y9.2.2.1, y9.2.2.2]
                  exact ⟨_, rfl, fr_0 _ _, ⟨LP_f (ws := []) hlp (by omega) lh_r (fr_0 _ _) ⟨rfl, rfl, rfl, rfl, rfl, rfl, rfl, rfl, rfl, rfl, rfl⟩, lh_r, by omega⟩, Or.inr ⟨by omega, oh_r, Or.inr ⟨by omega, Or.inr (Or.inr (Or.inl ⟨fm9 (), bd9 (), sme, rfl, rfl⟩))⟩⟩⟩
              · have bd9 := fun (_ : Unit) => (hx11.resolve_left (fun z => absurd (c12.symm.trans z.1) (by decide))).2
                rw [hr0] at bd9
                clear hx11
                refine (show po_X10_review_e T N ru m i k s a b T (some (vI (-17))) from ?_)
                exact ⟨_, rfl, fr_0 _ _, ⟨LP_f (ws := []) hlp (by omega) lh_r (fr_0 _ _) ⟨rfl, rfl, rfl, rfl, rfl, rfl, rfl, rfl, rfl, rfl, rfl⟩, lh_r, by omega⟩, Or.inr ⟨by omega, oh_r, Or.inr ⟨by omega, Or.inr (Or.inl ⟨fm9 (), bd9 (), rfl, rfl⟩)⟩⟩⟩
            · have fm9 := fun (_ : Unit) => (hx9.resolve_left (fun z => absurd (c10.symm.trans z.1) (by decide))).2
              rw [hr0] at fm9
              clear hx9
              refine (show po_X10_review_e T N ru m i k s a b T (some (vI (-12))) from ?_)
              exact ⟨_, rfl, fr_0 _ _, ⟨LP_f (ws := []) hlp (by omega) lh_r (fr_0 _ _) ⟨rfl, rfl, rfl, rfl, rfl, rfl, rfl, rfl, rfl, rfl, rfl⟩, lh_r, by omega⟩, Or.inr ⟨by omega, oh_r, Or.inr ⟨by omega, Or.inl ⟨fm9 (), rfl, rfl⟩⟩⟩⟩
          · refine hK 53 _ [vI i, vR 103 m] T ?_
            refine j_callV (y := yX3_takeOut) (Yc := zX3_takeOut) (rest := []) [vI i] (ct_X3_takeOut_e (T := T) (by omega)) cl_X10_298 (qd_c (by decide +kernel)) (nn_ _) rfl (rf_of rfl) (Nat.le_of_ble_eq_true rfl) (Nat.le_of_ble_eq_true rfl) (Nat.le_of_ble_eq_true rfl) rfl ?_
            rintro U39 _ ⟨rfl, fU39, qU39o, nU39, lU39, xU39, bU39⟩
            show J_ zX10_review T (po_X10_review_e T N ru m i k s a b) 127 4064 56 _ [] U39
            refine j_blx (F := fX10) tb_X10 (nn_ _) bk_X10_review_e_56 bs_X10_review_e_56 hz (fun K hK => ?_)
            refine hK 58 _ [vR 103 m] U39 ?_
            have e41 : U39 103 m 0 = T 103 m 0 := fU39 103 m 0 rfl
            have e42 : U39 401 (T 103 m 0) 9 = T 401 (T 103 m 0) 9 := fU39 401 (T 103 m 0) 9 rfl
            have r43 : U39 401 (U39 103 m 0) 9 = T 401 (T 103 m 0) 9 := by rw [e41]; exact e42
            have e44 : U39 103 m 17 = T 103 m 17 := fU39 103 m 17 rfl
            have e45 : U39 103 m 14 = T 103 m 14 := fU39 103 m 14 rfl
            have e46 : U39 103 m 16 = T 103 m 16 := fU39 103 m 16 rfl
            have e47 : U39 191 0 0 = T 191 0 0 := fU39 191 0 0 rfl
            have e48 : U39 103 m 14 = T 103 m 14 := fU39 103 m 14 rfl
            have w1 : U39 190 (U39 103 m 14) (-2) = T 190 (T 103 m 14) (-2) := by rw [e48]; exact lU39 _
            have e49 : U39 103 m 16 = T 103 m 16 := fU39 103 m 16 rfl
            have w2 : U39 190 (U39 103 m 16) (-2) = T 190 (T 103 m 16) (-2) := by rw [e49]; exact lU39 _
            refine j_callV (y := yX3_runAnew) (Yc := zX3_runAnew) (rest := []) [] (ct_X3_runAnew_e (T := U39) (ru := ru) (rl_f (ws := [(103, [15]), (190, [])]) hr (fr_t (fr_0 _ _) (fr_s fU39 rfl)) rfl (fun _ => rfl)) (by omega) (by omega) (by omega) (by rw [w2]; exact b2) (by omega)) cl_X10_302 (qd_c (by decide +kernel)) (nn_ _) rfl (rf_of rfl) (Nat.le_of_ble_eq_true rfl) (Nat.le_of_ble_eq_true rfl) (Nat.le_of_ble_eq_true rfl) rfl ?_
            rintro U50 _ ⟨x51, rfl, fU50, qU50o, lU50, nU50, mU50, zU50, kU50, qU50, xU50, gU50, faU50, fbU50, fcU50, fdU50⟩
            show J_ zX10_review T (po_X10_review_e T N ru m i k s a b) 0 0 61 _ [vI x51] U50
            refine j_blx (F := fX10) tb_X10 (nn_ _) bk_X10_review_e_61 bs_X10_review_e_61 hz (fun K hK => ?_)
            refine (show po_X10_review_e T N ru m i k s a b U50 (some (vI x51)) from ?_)
            have e52 : U50 103 m 0 = T 103 m 0 := (fU50 103 m 0 rfl).trans (fU39 103 m 0 rfl)
            have e53 : U50 103 m 14 = T 103 m 14 := (fU50 103 m 14 rfl).trans (fU39 103 m 14 rfl)
            have e54 : U39 103 m 17 = T 103 m 17 := fU39 103 m 17 rfl
            have e55 : U39 103 m 14 = T 103 m 14 := fU39 103 m 14 rfl
            have e56 : U39 103 m 16 = T 103 m 16 := fU39 103 m 16 rfl
            have e57 : U50 106 0 4 = T 106 0 4 := (fU50 106 0 4 rfl).trans (fU39 106 0 4 rfl)
            have e58 : U50 106 0 2 = T 106 0 2 := (fU50 106 0 2 rfl).trans (fU39 106 0 2 rfl)
            have e59 : U39 191 0 0 = T 191 0 0 := fU39 191 0 0 rfl
            have e60 : U50 103 m 14 = T 103 m 14 := (fU50 103 m 14 rfl).trans (fU39 103 m 14 rfl)
            have d0 : U50 103 m 14 = U39 103 m 14 := fU50 103 m 14 rfl
            have d1 : U50 190 (U50 103 m 14) (-2) = T 190 (T 103 m 14) (-2) := by rw [e60]; exact (lU50 _ (by omega)).trans (lU39 _)
            have d5 : U50 190 (U39 103 m 14) (-2) = T 190 (T 103 m 14) (-2) := by rw [show U39 103 m 14 = T 103 m 14 from Int.le_antisymm (by omega) (by omega)]; exact (lU50 _ (by omega)).trans (lU39 _)
            have d2 : lh_ T U50 := ⟨fun x hx => (lU50 x (by omega)).trans (lU39 _), by omega⟩
            have d3 : ∀ k i j, i ≠ m → k ≠ 190 → k ≠ 191 → k ≠ 106 → U50 k i j = T k i j := fun k i j a b c d => (qU50o k i j a b c).trans (qU39o k i j a b c)
            have d4 : Lp_ (N + 1) U50 m := ⟨⟨by omega, by omega, by omega, by omega, by omega, by omega, by omega, by omega, by omega⟩, by rw [d1]; exact b1, zU50, qU50⟩
            have u14 : U39 103 m 14 = T 103 m 14 := Int.le_antisymm (by omega) (by omega)
            have v14 : U50 103 m 14 = T 103 m 14 := Int.le_antisymm (by omega) (by omega)
            have u16 : U39 103 m 16 = T 103 m 16 := Int.le_antisymm (by omega) (by omega)
            have u17 : U39 103 m 17 = T 103 m 17 := Int.le_antisymm (by omega) (by omega)
            have u1 : rs9_ U39 m = rs9_ T m := rs_w fU39 (fun k j d => by rcases dk_c d with rfl | rfl | rfl | rfl | rfl | rfl | rfl | rfl | rfl | rfl | ⟨rfl, rfl | rfl | rfl⟩ <;> rfl)
            have u2 : hr9_ U39 (U39 103 m 14) (U39 103 m 15).toNat = ((hr9_ T (T 103 m 14) (T 103 m 15).toNat).eraseIdx i.toNat) := by
              rw [u14]
              exact bU39
            have fA := faU50
            have fB := fbU50
            have fC := fcU50
            have fD := fdU50
            rw [u1, u2] at fA fB fC
            rw [u14.trans v14.symm] at fB
            rw [u17] at fD
            have rnz : RNH_ ru m _ T U50 ((hr9_ T (T 103 m 14) (T 103 m 15).toNat).eraseIdx i.toNat) := ⟨fA, fB, fC, fD⟩
            have u3 : OMH_ T U50 m := ⟨d3, fun x j h1 h2 h3 => (xU50 x j (by omega) (by omega) (by omega)).trans (xU39 x j (by omega)), by omega, by rcases gU50 with z | z <;> omega⟩
            exact ⟨_, rfl, fr_t (fr_t (fr_0 _ _) (fr_s fU39 rfl)) (fr_s fU50 rfl), ⟨LP_q hlp (by omega) d2 d3 (by omega) (by omega) (fun _ => d4), d2, by omega⟩, Or.inr ⟨by omega, u3, Or.inl ⟨by omega, rnz⟩⟩⟩
        · replace hx6 := hx6.resolve_left (fun z => absurd (c7.symm.trans z.1) (by decide))
          clear c7
          refine (show po_X10_review_e T N ru m i k s a b T (some (vI (-2))) from ?_)
          exact ⟨_, rfl, fr_0 _ _, ⟨LP_f (ws := []) hlp (by omega) lh_r (fr_0 _ _) ⟨rfl, rfl, rfl, rfl, rfl, rfl, rfl, rfl, rfl, rfl, rfl⟩, lh_r, by omega⟩, Or.inl ⟨rfl, by omega, rfl⟩⟩
  · replace hx1 := hx1.resolve_left (fun z => absurd (c2.symm.trans z.1) (by decide))
    clear c2
    refine (show po_X10_review_e T N ru m i k s a b T (some (vI (-2))) from ?_)
    exact ⟨_, rfl, fr_0 _ _, ⟨LP_f (ws := []) hlp (by omega) lh_r (fr_0 _ _) ⟨rfl, rfl, rfl, rfl, rfl, rfl, rfl, rfl, rfl, rfl, rfl⟩, lh_r, by omega⟩, Or.inl ⟨rfl, by omega, rfl⟩⟩
