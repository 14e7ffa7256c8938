abbrev cX9_setCaps : ByteArray := prog_11_method_7_code
def yX9_setCaps : MethodName := ⟨RX9, "setCaps", "(I)V"⟩
def zX9_setCaps : Zm := (RX9, cX9_setCaps, 6, none, { frames := 1, cells := 0, slots := 0, locals := 21 })
theorem bk_X9_setCaps_49 : ck_ fX9 none cX9_setCaps 49 [.iload 5, .aload 0, .tableswitch 0 9 9 #[], .if_icmp .ge 108, .aload 0, .tableswitch 0 9 0 #[], .tableswitch 0 6 3 #[], .aload 0, .tableswitch 0 9 8 #[], .iload 5, .iaload, .aaload, .aload 0, .tableswitch 0 9 5 #[], .tableswitch 0 0 3 #[], .iload 3, .iaload] 82 = true := qck_r (by decide) (by decide +kernel)
theorem bs_X9_setCaps_49 {P : Zt → Option Zv → Prop} (K : Int → Zl → List Zv → Zt → Prop) : sx_ K P [.iload 5, .aload 0, .tableswitch 0 9 9 #[], .if_icmp .ge 108, .aload 0, .tableswitch 0 9 0 #[], .tableswitch 0 6 3 #[], .aload 0, .tableswitch 0 9 8 #[], .iload 5, .iaload, .aaload, .aload 0, .tableswitch 0 9 5 #[], .tableswitch 0 0 3 #[], .iload 3, .iaload] 82 = x_iload 5 (x_aload 0 (x_g0 109 9 0 40 (x_if_icmp .ge 108 K (x_aload 0 (x_g1 109 106 (x_g1 106 523 (x_aload 0 (x_g1 109 588 (x_iload 5 (x_iaload (x_aaload (x_aload 0 (x_g5 109 100 5 (x_g2 100 403 (x_iload 3 (x_iaload (K 82))))))))))))))))) := ((xe_iload 5).trans (congrArg (x_iload 5) ((xe_aload 0).trans (congrArg (x_aload 0) ((xe_g0 (kk := 109) rfl tl_9_9).trans (congrArg (x_g0 109 9 0 40) ((xe_if_icmp .ge 108).trans (congrArg (x_if_icmp .ge 108 K) ((xe_aload 0).trans (congrArg (x_aload 0) ((xe_g1 (kk := 109) rfl tl_9_0).trans (congrArg (x_g1 109 106) ((xe_g1 (kk := 106) rfl tl_6_3).trans (congrArg (x_g1 106 523) ((xe_aload 0).trans (congrArg (x_aload 0) ((xe_g1 (kk := 109) rfl tl_9_8).trans (congrArg (x_g1 109 588) ((xe_iload 5).trans (congrArg (x_iload 5) ((xe_iaload).trans (congrArg (x_iaload) ((xe_aaload).trans (congrArg (x_aaload) ((xe_aload 0).trans (congrArg (x_aload 0) ((xe_g5 (kk := 109) rfl tl_9_5).trans (congrArg (x_g5 109 100 5) ((xe_g2 (kk := 100) rfl tl_0_3).trans (congrArg (x_g2 100 403) ((xe_iload 3).trans (congrArg (x_iload 3) ((xe_iaload).trans (congrArg (x_iaload) xe_nil))))))))))))))))))))))))))))))))))
theorem bk_X9_setCaps_108 : ck_ fX9 none cX9_setCaps 108 [.aload 0, .tableswitch 0 9 11 #[], .iload 3, .iload 4, .ifCond .ge 122, .iconst (-1), .goto 136] 122 = true := qck_r (by decide) (by decide +kernel)
theorem bs_X9_setCaps_108 {P : Zt → Option Zv → Prop} (K : Int → Zl → List Zv → Zt → Prop) : sx_ K P [.aload 0, .tableswitch 0 9 11 #[], .iload 3, .iload 4, .ifCond .ge 122, .iconst (-1), .goto 136] 122 = x_aload 0 (x_g1 109 591 (x_iload 3 (x_iload 4 (x_ifCond .ge 122 K (x_iconst (-1) (x_goto 136 K)))))) := ((xe_aload 0).trans (congrArg (x_aload 0) ((xe_g1 (kk := 109) rfl tl_9_11).trans (congrArg (x_g1 109 591) ((xe_iload 3).trans (congrArg (x_iload 3) ((xe_iload 4).trans (congrArg (x_iload 4) ((xe_ifCond .ge 122).trans (congrArg (x_ifCond .ge 122 K) ((xe_iconst (-1)).trans (congrArg (x_iconst (-1)) (xe_goto 136)))))))))))))
theorem bk_X9_setCaps_122 : ck_ fX9 none cX9_setCaps 122 [.iload 2, .ifCond .ne 132, .iconst 1000, .goto 136] 132 = true := qck_r (by decide) (by decide +kernel)
theorem bs_X9_setCaps_122 {P : Zt → Option Zv → Prop} (K : Int → Zl → List Zv → Zt → Prop) : sx_ K P [.iload 2, .ifCond .ne 132, .iconst 1000, .goto 136] 132 = x_iload 2 (x_ifCond .ne 132 K (x_iconst 1000 (x_goto 136 K))) := ((xe_iload 2).trans (congrArg (x_iload 2) ((xe_ifCond .ne 132).trans (congrArg (x_ifCond .ne 132 K) ((xe_iconst 1000).trans (congrArg (x_iconst 1000) (xe_goto 136)))))))
theorem bk_X9_setCaps_132 : ck_ fX9 none cX9_setCaps 132 [.iload 4, .iload 2, .fdiv, .iastore, .aload 0, .tableswitch 0 9 12 #[], .iload 3, .iconst 0, .iastore, .iinc 3 1, .goto 22] 150 = true := qck_r (by decide) (by decide +kernel)
theorem bs_X9_setCaps_132 {P : Zt → Option Zv → Prop} (K : Int → Zl → List Zv → Zt → Prop) : sx_ K P [.iload 4, .iload 2, .fdiv, .iastore, .aload 0, .tableswitch 0 9 12 #[], .iload 3, .iconst 0, .iastore, .iinc 3 1, .goto 22] 150 = x_iload 4 (x_iload 2 (x_fdiv (x_iastore (x_aload 0 (x_g1 109 592 (x_iload 3 (x_iconst 0 (x_iastore (x_iinc 3 1 (x_goto 22 K)))))))))) := ((xe_iload 4).trans (congrArg (x_iload 4) ((xe_iload 2).trans (congrArg (x_iload 2) ((xe_fdiv).trans (congrArg (x_fdiv) ((xe_iastore).trans (congrArg (x_iastore) ((xe_aload 0).trans (congrArg (x_aload 0) ((xe_g1 (kk := 109) rfl tl_9_12).trans (congrArg (x_g1 109 592) ((xe_iload 3).trans (congrArg (x_iload 3) ((xe_iconst 0).trans (congrArg (x_iconst 0) ((xe_iastore).trans (congrArg (x_iastore) ((xe_iinc 3 1).trans (congrArg (x_iinc 3 1) (xe_goto 22)))))))))))))))))))))
theorem bk_X9_setCaps_136 : ck_ fX9 none cX9_setCaps 136 [.iastore, .aload 0, .tableswitch 0 9 12 #[], .iload 3, .iconst 0, .iastore, .iinc 3 1, .goto 22] 150 = true := qck_r (by decide) (by decide +kernel)
theorem bs_X9_setCaps_136 {P : Zt → Option Zv → Prop} (K : Int → Zl → List Zv → Zt → Prop) : sx_ K P [.iastore, .aload 0, .tableswitch 0 9 12 #[], .iload 3, .iconst 0, .iastore, .iinc 3 1, .goto 22] 150 = x_iastore (x_aload 0 (x_g1 109 592 (x_iload 3 (x_iconst 0 (x_iastore (x_iinc 3 1 (x_goto 22 K))))))) := ((xe_iastore).trans (congrArg (x_iastore) ((xe_aload 0).trans (congrArg (x_aload 0) ((xe_g1 (kk := 109) rfl tl_9_12).trans (congrArg (x_g1 109 592) ((xe_iload 3).trans (congrArg (x_iload 3) ((xe_iconst 0).trans (congrArg (x_iconst 0) ((xe_iastore).trans (congrArg (x_iastore) ((xe_iinc 3 1).trans (congrArg (x_iinc 3 1) (xe_goto 22)))))))))))))))
set_option maxRecDepth 100000 in
theorem cl_X9_115 : cv_ RX9 115 yX2_has zX2_has 2 1 := ⟨gi_V (lw_b6 41 (by decide +kernel) rfl : Cond.methodLink RX9 115 yX2_has ∈ lw_g) (lw_b4 74 (by decide +kernel) rfl : Cond.instanceMethod yX2_has ∈ lw_g) (lw_b4 75 (by decide +kernel) rfl : Cond.selects yX2_has.cls yX2_has yX2_has ∈ lw_g) (lw_b1 16 (by decide +kernel) rfl : Cond.initialized yX2_has.cls ∈ lw_g) (lw_b4 76 rfl rfl : Cond.code yX2_has cX2_has 2 (some .boolean) ∈ lw_g), ⟨by decide, by decide, by decide +kernel⟩, ⟨_, _, rfl⟩⟩
theorem bk_X9_setCaps_85 : ck_ fX9 none cX9_setCaps 85 [.ifCond .eq 102, .iload 4, .aload 0, .tableswitch 0 9 5 #[], .tableswitch 0 0 1 #[], .iconst 3, .iaload, .fsub, .istore 4, .iinc 5 1, .goto 49] 108 = true := qck_r (by decide) (by decide +kernel)
theorem bs_X9_setCaps_85 {P : Zt → Option Zv → Prop} (K : Int → Zl → List Zv → Zt → Prop) : sx_ K P [.ifCond .eq 102, .iload 4, .aload 0, .tableswitch 0 9 5 #[], .tableswitch 0 0 1 #[], .iconst 3, .iaload, .fsub, .istore 4, .iinc 5 1, .goto 49] 108 = x_ifCond .eq 102 K (x_iload 4 (x_aload 0 (x_g5 109 100 5 (x_g2 100 401 (x_iconst 3 (x_iaload (x_fsub (x_istore 4 (x_iinc 5 1 (x_goto 49 K)))))))))) := ((xe_ifCond .eq 102).trans (congrArg (x_ifCond .eq 102 K) ((xe_iload 4).trans (congrArg (x_iload 4) ((xe_aload 0).trans (congrArg (x_aload 0) ((xe_g5 (kk := 109) rfl tl_9_5).trans (congrArg (x_g5 109 100 5) ((xe_g2 (kk := 100) rfl tl_0_1).trans (congrArg (x_g2 100 401) ((xe_iconst 3).trans (congrArg (x_iconst 3) ((xe_iaload).trans (congrArg (x_iaload) ((xe_fsub).trans (congrArg (x_fsub) ((xe_istore 4).trans (congrArg (x_istore 4) ((xe_iinc 5 1).trans (congrArg (x_iinc 5 1) (xe_goto 49)))))))))))))))))))))
theorem bk_X9_setCaps_102 : ck_ fX9 none cX9_setCaps 102 [.iinc 5 1, .goto 49] 108 = true := qck_r (by decide) (by decide +kernel)
theorem bs_X9_setCaps_102 {P : Zt → Option Zv → Prop} (K : Int → Zl → List Zv → Zt → Prop) : sx_ K P [.iinc 5 1, .goto 49] 108 = x_iinc 5 1 (x_goto 49 K) := ((xe_iinc 5 1).trans (congrArg (x_iinc 5 1) (xe_goto 49)))
theorem bk_X9_setCaps_22 : ck_ fX9 none cX9_setCaps 22 [.iload 3, .aload 0, .tableswitch 0 9 5 #[], .tableswitch 0 0 5 #[], .if_icmp .ge 150, .aload 0, .tableswitch 0 9 6 #[], .aload 0, .tableswitch 0 9 7 #[], .iload 3, .iaload, .fsub, .istore 4, .iconst 0, .istore 5] 49 = true := qck_r (by decide) (by decide +kernel)
theorem bs_X9_setCaps_22 {P : Zt → Option Zv → Prop} (K : Int → Zl → List Zv → Zt → Prop) : sx_ K P [.iload 3, .aload 0, .tableswitch 0 9 5 #[], .tableswitch 0 0 5 #[], .if_icmp .ge 150, .aload 0, .tableswitch 0 9 6 #[], .aload 0, .tableswitch 0 9 7 #[], .iload 3, .iaload, .fsub, .istore 4, .iconst 0, .istore 5] 49 = x_iload 3 (x_aload 0 (x_g5 109 100 5 (x_g0 100 5 0 12 (x_if_icmp .ge 150 K (x_aload 0 (x_g0 109 6 (-2147483648) 2147483647 (x_aload 0 (x_g1 109 587 (x_iload 3 (x_iaload (x_fsub (x_istore 4 (x_iconst 0 (x_istore 5 (K 49))))))))))))))) := ((xe_iload 3).trans (congrArg (x_iload 3) ((xe_aload 0).trans (congrArg (x_aload 0) ((xe_g5 (kk := 109) rfl tl_9_5).trans (congrArg (x_g5 109 100 5) ((xe_g0 (kk := 100) rfl tl_0_5).trans (congrArg (x_g0 100 5 0 12) ((xe_if_icmp .ge 150).trans (congrArg (x_if_icmp .ge 150 K) ((xe_aload 0).trans (congrArg (x_aload 0) ((xe_g0 (kk := 109) rfl tl_9_6).trans (congrArg (x_g0 109 6 (-2147483648) 2147483647) ((xe_aload 0).trans (congrArg (x_aload 0) ((xe_g1 (kk := 109) rfl tl_9_7).trans (congrArg (x_g1 109 587) ((xe_iload 3).trans (congrArg (x_iload 3) ((xe_iaload).trans (congrArg (x_iaload) ((xe_fsub).trans (congrArg (x_fsub) ((xe_istore 4).trans (congrArg (x_istore 4) ((xe_iconst 0).trans (congrArg (x_iconst 0) ((xe_istore 5).trans (congrArg (x_istore 5) xe_nil))))))))))))))))))))))))))))))
theorem bk_X9_setCaps_150 : ck_ fX9 none cX9_setCaps 150 [.aload 0, .tableswitch 0 9 11 #[], .iload 1, .iconst 0, .iastore, .return_] 158 = true := qck_r (by decide) (by decide +kernel)
theorem bs_X9_setCaps_150 {P : Zt → Option Zv → Prop} (K : Int → Zl → List Zv → Zt → Prop) : sx_ K P [.aload 0, .tableswitch 0 9 11 #[], .iload 1, .iconst 0, .iastore, .return_] 158 = x_aload 0 (x_g1 109 591 (x_iload 1 (x_iconst 0 (x_iastore (x_return_ P))))) := ((xe_aload 0).trans (congrArg (x_aload 0) ((xe_g1 (kk := 109) rfl tl_9_11).trans (congrArg (x_g1 109 591) ((xe_iload 1).trans (congrArg (x_iload 1) ((xe_iconst 0).trans (congrArg (x_iconst 0) ((xe_iastore).trans (congrArg (x_iastore) (xe_return_)))))))))))
theorem bk_X9_setCaps_0 : ck_ fX9 none cX9_setCaps 0 [.aload 0, .tableswitch 0 9 5 #[], .tableswitch 0 0 1 #[], .iconst 1, .iaload, .aload 0, .tableswitch 0 9 5 #[], .tableswitch 0 0 1 #[], .iconst 2, .iaload, .isub, .istore 2, .iconst 0, .istore 3] 22 = true := qck_r (by decide) (by decide +kernel)
theorem bs_X9_setCaps_0 {P : Zt → Option Zv → Prop} (K : Int → Zl → List Zv → Zt → Prop) : sx_ K P [.aload 0, .tableswitch 0 9 5 #[], .tableswitch 0 0 1 #[], .iconst 1, .iaload, .aload 0, .tableswitch 0 9 5 #[], .tableswitch 0 0 1 #[], .iconst 2, .iaload, .isub, .istore 2, .iconst 0, .istore 3] 22 = x_aload 0 (x_g5 109 100 5 (x_g2 100 401 (x_iconst 1 (x_iaload (x_aload 0 (x_g5 109 100 5 (x_g2 100 401 (x_iconst 2 (x_iaload (x_isub (x_istore 2 (x_iconst 0 (x_istore 3 (K 22)))))))))))))) := ((xe_aload 0).trans (congrArg (x_aload 0) ((xe_g5 (kk := 109) rfl tl_9_5).trans (congrArg (x_g5 109 100 5) ((xe_g2 (kk := 100) rfl tl_0_1).trans (congrArg (x_g2 100 401) ((xe_iconst 1).trans (congrArg (x_iconst 1) ((xe_iaload).trans (congrArg (x_iaload) ((xe_aload 0).trans (congrArg (x_aload 0) ((xe_g5 (kk := 109) rfl tl_9_5).trans (congrArg (x_g5 109 100 5) ((xe_g2 (kk := 100) rfl tl_0_1).trans (congrArg (x_g2 100 401) ((xe_iconst 2).trans (congrArg (x_iconst 2) ((xe_iaload).trans (congrArg (x_iaload) ((xe_isub).trans (congrArg (x_isub) ((xe_istore 2).trans (congrArg (x_istore 2) ((xe_iconst 0).trans (congrArg (x_iconst 0) ((xe_istore 3).trans (congrArg (x_istore 3) xe_nil))))))))))))))))))))))))))))
abbrev po_X9_setCaps (T : Zt) (t : Int) : Zt → Option Zv → Prop := fun T' r => r = none ∧ fr_ [(591, []), (592, [])] T T' ∧ (0 = (0 : Int))
set_option maxHeartbeats 4000000 in
theorem ct_X9_setCaps {T : Zt} {t : Int} (hq9 : Q9_ T) (hka : KA_ T) (hw : T 401 (T 109 0 5 - 1) 2 ≤ T 401 (T 109 0 5 - 1) 1) (ht : 0 ≤ t ∧ t ≤ 11) : Ct_ yX9_setCaps zX9_setCaps T [vR 109 0, vI t] (po_X9_setCaps T t) := by
  refine ct_of (by decide) rfl rfl (Nat.le_of_ble_eq_true rfl) (fun hT hav => ?_)
  have hr_t : -2147483648 ≤ t ∧ t ≤ 2147483647 := hav (vI t) (by simp)
  have hz : zX9_setCaps.2.2.2.1 = some .boolean → ∀ (T' : Zt) (x : Int), po_X9_setCaps T t T' (some (vI x)) → 0 ≤ x ∧ x ≤ 1 := fun h => by cases h
  have hq1 := hq9.1
  have hb_openCount : 0 ≤ T 109 0 9 ∧ T 109 0 9 ≤ 40 := bd_f hT 109 9 (by decide +kernel : (tf_ 109)[9]? = some (0, 0, 0, 40)) 0
  have hen : 0 ≤ T 100 (T 109 0 5 - 1) 5 ∧ T 100 (T 109 0 5 - 1) 5 ≤ 12 := bd_f hT 100 5 (by decide +kernel : (tf_ 100)[5]? = some (0, 0, 0, 12)) (T 109 0 5 - 1)
  show J_ zX9_setCaps T (po_X9_setCaps T t) 0 0 0 [some (vR 109 0), some (vI t), none, none, none, none] [] T
  have c_22 : ∀ (nn : Nat) (v : Int) (k : Int) (T1 : Zt), ((12 - k).toNat) ≤ nn → (fr_ [(591, []), (592, [])] T T1) → (0 ≤ k ∧ k ≤ 12 ∧ 0 ≤ v) → J_ zX9_setCaps T (po_X9_setCaps T t) 0 0 22 [some (vR 109 0), some (vI t), some (vI v), some (vI k), none, none] [] T1 := by
    intro nn
    induction nn using Nat.strongRecOn with
    | _ nn ih_22 =>
      intro v k T1 hm_22 hf_22 i1
      have c_49 : ∀ (nn : Nat) (g : Int) (u : Int), ((40 - u).toNat) ≤ nn → (0 ≤ u ∧ k < 12) → J_ zX9_setCaps T (po_X9_setCaps T t) 0 0 49 [some (vR 109 0), some (vI t), some (vI v), some (vI k), some (vI g), some (vI u)] [] T1 := by
        intro nn
        induction nn using Nat.strongRecOn with
        | _ nn ih_49 =>
          intro g u hm_49 i2
          refine j_blx (F := fX9) tb_X9 (by decide) bk_X9_setCaps_49 bs_X9_setCaps_49 hz (fun K hK => ?_)
          intro b1 b1b
          have e2 : T1 109 0 9 = T 109 0 9 := hf_22 109 0 9 rfl
          rw [e2] at b1 b1b ⊢
          refine And.intro (fun c3 => ?_) (fun c3 => ?_)
          · refine hK 108 [some (vR 109 0), some (vI t), some (vI v), some (vI k), some (vI g), some (vI u)] [] T1 ?_
            refine j_blx (F := fX9) tb_X9 (by decide) bk_X9_setCaps_108 bs_X9_setCaps_108 hz (fun K hK => ?_)
            refine And.intro (fun c4 => ?_) (fun c4 => ?_)
            · refine hK 122 [some (vR 109 0), some (vI t), some (vI v), some (vI k), some (vI g), some (vI u)] [vI k, vR 591 0] T1 ?_
              refine j_blx (F := fX9) tb_X9 (by decide) bk_X9_setCaps_122 bs_X9_setCaps_122 hz (fun K hK => ?_)
              refine And.intro (fun c5 => ?_) (fun c5 => ?_)
              · refine hK 132 [some (vR 109 0), some (vI t), some (vI v), some (vI k), some (vI g), some (vI u)] [vI k, vR 591 0] T1 ?_
                refine j_blx (F := fX9) tb_X9 (by decide) bk_X9_setCaps_132 bs_X9_setCaps_132 hz (fun K hK => ?_)
                refine And.intro (by omega) (fun w6 w6b => ?_)
                refine iy_i (by omega) (by omega) ?_
                refine x_nm (fun U7 hU7 => ?_)
                have e8 := up_f hU7
                refine iy_i (by omega) (by omega) ?_
                refine x_nm (fun U9 hU9 => ?_)
                have e10 := up_f hU9
                refine rg_i (by omega) ?_
                refine hK 22 [some (vR 109 0), some (vI t), some (vI v), some (vI (k + 1)), some (vI g), some (vI u)] [] U9 ?_
                refine j_drop [some (vR 109 0), some (vI t), some (vI v), some (vI (k + 1)), none, none] (fun k v hk => ?_) rfl ?_
                · match k, hk with
                  | 0, hk => exact hk
                  | 1, hk => exact hk
                  | 2, hk => exact hk
                  | 3, hk => exact hk
                  | 4, hk => cases hk
                  | 5, hk => cases hk
                  | k + 6, hk => cases hk
                refine ih_22 _ ?_ v (k + 1) U9 (Nat.le_refl _) ?_ ?_
                · omega
                · exact fr_u (fr_u (fr_t (fr_0 _ _) (fr_s hf_22 rfl)) hU7 rfl) hU9 rfl
                · omega
              · refine hK 136 [some (vR 109 0), some (vI t), some (vI v), some (vI k), some (vI g), some (vI u)] [vI 1000, vI k, vR 591 0] T1 ?_
                refine j_blx (F := fX9) tb_X9 (by decide) bk_X9_setCaps_136 bs_X9_setCaps_136 hz (fun K hK => ?_)
                refine iy_i (by omega) (by omega) ?_
                refine x_nm (fun U11 hU11 => ?_)
                have e12 := up_f hU11
                refine iy_i (by omega) (by omega) ?_
                refine x_nm (fun U13 hU13 => ?_)
                have e14 := up_f hU13
                refine rg_i (by omega) ?_
                refine hK 22 [some (vR 109 0), some (vI t), some (vI v), some (vI (k + 1)), some (vI g), some (vI u)] [] U13 ?_
                refine j_drop [some (vR 109 0), some (vI t), some (vI v), some (vI (k + 1)), none, none] (fun k v hk => ?_) rfl ?_
                · match k, hk with
                  | 0, hk => exact hk
                  | 1, hk => exact hk
                  | 2, hk => exact hk
                  | 3, hk => exact hk
                  | 4, hk => cases hk
                  | 5, hk => cases hk
                  | k + 6, hk => cases hk
                refine ih_22 _ ?_ v (k + 1) U13 (Nat.le_refl _) ?_ ?_
                · omega
                · exact fr_u (fr_u (fr_t (fr_0 _ _) (fr_s hf_22 rfl)) hU11 rfl) hU13 rfl
                · omega
            · refine hK 136 [some (vR 109 0), some (vI t), some (vI v), some (vI k), some (vI g), some (vI u)] [vI (-1), vI k, vR 591 0] T1 ?_
              refine j_blx (F := fX9) tb_X9 (by decide) bk_X9_setCaps_136 bs_X9_setCaps_136 hz (fun K hK => ?_)
              refine iy_i (by omega) (by omega) ?_
              refine x_nm (fun U15 hU15 => ?_)
              have e16 := up_f hU15
              refine iy_i (by omega) (by omega) ?_
              refine x_nm (fun U17 hU17 => ?_)
              have e18 := up_f hU17
              refine rg_i (by omega) ?_
              refine hK 22 [some (vR 109 0), some (vI t), some (vI v), some (vI (k + 1)), some (vI g), some (vI u)] [] U17 ?_
              refine j_drop [some (vR 109 0), some (vI t), some (vI v), some (vI (k + 1)), none, none] (fun k v hk => ?_) rfl ?_
              · match k, hk with
                | 0, hk => exact hk
                | 1, hk => exact hk
                | 2, hk => exact hk
                | 3, hk => exact hk
                | 4, hk => cases hk
                | 5, hk => cases hk
                | k + 6, hk => cases hk
              refine ih_22 _ ?_ v (k + 1) U17 (Nat.le_refl _) ?_ ?_
              · omega
              · exact fr_u (fr_u (fr_t (fr_0 _ _) (fr_s hf_22 rfl)) hU15 rfl) hU17 rfl
              · omega
          · refine ix_i (by omega) ?_
            intro b19 b19b
            have e20 : T1 588 0 u = T 588 0 u := hf_22 588 0 u rfl
            rw [e20] at b19 b19b ⊢
            refine ix_i (by omega) ?_
            have e22 : T1 523 0 (T 588 0 u) = T 523 0 (T 588 0 u) := hf_22 523 0 (T 588 0 u) rfl
            refine And.intro (fun c21 => ?_) (fun c21 => ?_)
            · exact absurd (show T 523 0 (T 588 0 u) = 0 by omega) (hka.2 _ (by have z := (hq9.2 u (by omega) (by omega)).1; omega) (by have z := (hq9.2 u (by omega) (by omega)).1; omega))
            · have e24 : T1 109 0 5 = T 109 0 5 := hf_22 109 0 5 rfl
              refine And.intro (fun c23 => ?_) (fun c23 => ?_)
              · exact absurd c23 (by omega)
              · refine ix_i (by omega) ?_
                intro b25 b25b
                have e26 : T1 403 (T 109 0 5 - 1) k = T 403 (T 109 0 5 - 1) k := hf_22 403 (T 109 0 5 - 1) k rfl
                have e27 : T1 403 (T1 109 0 5 - 1) k = T 403 (T 109 0 5 - 1) k := by rw [e24]; exact e26
                rw [e27] at b25 b25b ⊢
                refine hK 82 [some (vR 109 0), some (vI t), some (vI v), some (vI k), some (vI g), some (vI u)] [vI (T 403 (T 109 0 5 - 1) k), vR 102 (T 588 0 u)] T1 ?_
                refine j_callV (y := yX2_has) (Yc := zX2_has) (rest := []) [vI (T 403 (T 109 0 5 - 1) k)] (ct_X2_has (T := T1)) cl_X9_115 (qd_c (by decide +kernel)) (by decide) rfl (by decide +kernel) (Nat.le_of_ble_eq_true rfl) (by decide) (by decide) rfl ?_
                rintro _ _ ⟨rfl, x28, rfl, hx28⟩
                show J_ zX9_setCaps T (po_X9_setCaps T t) 0 0 85 [some (vR 109 0), some (vI t), some (vI v), some (vI k), some (vI g), some (vI u)] [vI x28] T1
                refine j_blx (F := fX9) tb_X9 (by decide) bk_X9_setCaps_85 bs_X9_setCaps_85 hz (fun K hK => ?_)
                refine And.intro (fun c29 => ?_) (fun c29 => ?_)
                · refine hK 102 [some (vR 109 0), some (vI t), some (vI v), some (vI k), some (vI g), some (vI u)] [] T1 ?_
                  refine j_blx (F := fX9) tb_X9 (by decide) bk_X9_setCaps_102 bs_X9_setCaps_102 hz (fun K hK => ?_)
                  refine rg_i (by omega) ?_
                  refine hK 49 [some (vR 109 0), some (vI t), some (vI v), some (vI k), some (vI g), some (vI (u + 1))] [] T1 ?_
                  refine ih_49 _ ?_ g (u + 1) (Nat.le_refl _) ?_
                  · omega
                  · omega
                · have e31 : T1 109 0 5 = T 109 0 5 := hf_22 109 0 5 rfl
                  refine And.intro (fun c30 => ?_) (fun c30 => ?_)
                  · exact absurd c30 (by omega)
                  · refine ix_i (by omega) ?_
                    intro b32 b32b
                    have e33 : T1 401 (T 109 0 5 - 1) 3 = T 401 (T 109 0 5 - 1) 3 := hf_22 401 (T 109 0 5 - 1) 3 rfl
                    have e34 : T1 401 (T1 109 0 5 - 1) 3 = T 401 (T 109 0 5 - 1) 3 := by rw [e31]; exact e33
                    rw [e34] at b32 b32b ⊢
                    intro w35 w35b
                    refine rg_i (by omega) ?_
                    refine hK 49 [some (vR 109 0), some (vI t), some (vI v), some (vI k), some (vI (wr_ (g - (T 401 (T 109 0 5 - 1) 3)))), some (vI (u + 1))] [] T1 ?_
                    refine ih_49 _ ?_ (wr_ (g - (T 401 (T 109 0 5 - 1) 3))) (u + 1) (Nat.le_refl _) ?_
                    · omega
                    · omega
      refine j_blx (F := fX9) tb_X9 (by decide) bk_X9_setCaps_22 bs_X9_setCaps_22 hz (fun K hK => ?_)
      have e37 : T1 109 0 5 = T 109 0 5 := hf_22 109 0 5 rfl
      refine And.intro (fun c36 => ?_) (fun c36 => ?_)
      · exact absurd c36 (by omega)
      · intro b38 b38b
        have e39 : T1 100 (T 109 0 5 - 1) 5 = T 100 (T 109 0 5 - 1) 5 := hf_22 100 (T 109 0 5 - 1) 5 rfl
        have e40 : T1 100 (T1 109 0 5 - 1) 5 = T 100 (T 109 0 5 - 1) 5 := by rw [e37]; exact e39
        rw [e40] at b38 b38b ⊢
        refine And.intro (fun c41 => ?_) (fun c41 => ?_)
        · refine hK 150 [some (vR 109 0), some (vI t), some (vI v), some (vI k), none, none] [] T1 ?_
          refine j_blx (F := fX9) tb_X9 (by decide) bk_X9_setCaps_150 bs_X9_setCaps_150 hz (fun K hK => ?_)
          refine iy_i (by omega) (by omega) ?_
          refine x_nm (fun U42 hU42 => ?_)
          have e43 := up_f hU42
          refine (show po_X9_setCaps T t U42 (none) from ?_)
          exact ⟨rfl, fr_u (fr_t (fr_0 _ _) (fr_s hf_22 rfl)) hU42 rfl, by rfl⟩
        · intro b44 b44b
          have e45 : T1 109 0 6 = T 109 0 6 := hf_22 109 0 6 rfl
          rw [e45] at b44 b44b ⊢
          refine ix_i (by omega) ?_
          intro b46 b46b
          have e47 : T1 587 0 k = T 587 0 k := hf_22 587 0 k rfl
          rw [e47] at b46 b46b ⊢
          intro w48 w48b
          refine hK 49 [some (vR 109 0), some (vI t), some (vI v), some (vI k), some (vI (wr_ ((T 109 0 6) - (T 587 0 k)))), some (vI 0)] [] T1 ?_
          refine c_49 _ (wr_ ((T 109 0 6) - (T 587 0 k))) 0 (Nat.le_refl _) ?_
          · omega
  refine j_blx (F := fX9) tb_X9 (by decide) bk_X9_setCaps_0 bs_X9_setCaps_0 hz (fun K hK => ?_)
  refine And.intro (fun c49 => ?_) (fun c49 => ?_)
  · exact absurd c49 (by omega)
  · refine ix_i (by omega) ?_
    intro b50 b50b
    refine And.intro (fun c51 => ?_) (fun c51 => ?_)
    · exact absurd c51 (by omega)
    · refine ix_i (by omega) ?_
      intro b52 b52b
      refine rg_i (by omega) ?_
      refine hK 22 [some (vR 109 0), some (vI t), some (vI ((T 401 (T 109 0 5 - 1) 1) - (T 401 (T 109 0 5 - 1) 2))), some (vI 0), none, none] [] T ?_
      refine c_22 _ ((T 401 (T 109 0 5 - 1) 1) - (T 401 (T 109 0 5 - 1) 2)) 0 T (Nat.le_refl _) ?_ ?_
      · exact fr_0 _ _
      · omega

