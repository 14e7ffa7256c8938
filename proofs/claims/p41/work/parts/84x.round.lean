-- addFixture and addRound of the house
theorem bk_X6_addFixture_e_0 : ck_ fX6 none cX6_addFixture 0 [.iload 3, .aload 1, .tableswitch 0 0 5 #[], .if_icmp .ge 27, .iload 4, .aload 1, .tableswitch 0 0 5 #[], .if_icmp .ge 27, .aload 0, .tableswitch 0 6 4 #[], .iconst 400, .if_icmp .lt 28, .return_] 28 = true := qck_r (by decide) (by decide +kernel)
theorem bs_X6_addFixture_e_0 {P : Zt → Option Zv → Prop} (K : Int → Zl → List Zv → Zt → Prop) : sx_ K P [.iload 3, .aload 1, .tableswitch 0 0 5 #[], .if_icmp .ge 27, .iload 4, .aload 1, .tableswitch 0 0 5 #[], .if_icmp .ge 27, .aload 0, .tableswitch 0 6 4 #[], .iconst 400, .if_icmp .lt 28, .return_] 28 = x_iload 3 (x_aload 1 (x_g0 100 5 0 12 (x_if_icmp .ge 27 K (x_iload 4 (x_aload 1 (x_g0 100 5 0 12 (x_if_icmp .ge 27 K (x_aload 0 (x_g0 106 4 0 400 (x_iconst 400 (x_if_icmp .lt 28 K (x_return_ P)))))))))))) := ((xe_iload 3).trans (congrArg (x_iload 3) ((xe_aload 1).trans (congrArg (x_aload 1) ((xe_g0 (kk := 100) rfl tl_0_5).trans (congrArg (x_g0 100 5 0 12) ((xe_if_icmp .ge 27).trans (congrArg (x_if_icmp .ge 27 K) ((xe_iload 4).trans (congrArg (x_iload 4) ((xe_aload 1).trans (congrArg (x_aload 1) ((xe_g0 (kk := 100) rfl tl_0_5).trans (congrArg (x_g0 100 5 0 12) ((xe_if_icmp .ge 27).trans (congrArg (x_if_icmp .ge 27 K) ((xe_aload 0).trans (congrArg (x_aload 0) ((xe_g0 (kk := 106) rfl tl_6_4).trans (congrArg (x_g0 106 4 0 400) ((xe_iconst 400).trans (congrArg (x_iconst 400) ((xe_if_icmp .lt 28).trans (congrArg (x_if_icmp .lt 28 K) (xe_return_)))))))))))))))))))))))))
theorem bk_X6_addFixture_e_27 : ck_ fX6 none cX6_addFixture 27 [.return_] 28 = true := qck_r (by decide) (by decide +kernel)
theorem bs_X6_addFixture_e_27 {P : Zt → Option Zv → Prop} (K : Int → Zl → List Zv → Zt → Prop) : sx_ K P [.return_] 28 = x_return_ P := (xe_return_)
theorem bk_X6_addFixture_e_28 : ck_ fX6 none cX6_addFixture 28 [.aload 0, .tableswitch 0 6 3 #[], .aload 0, .tableswitch 0 6 4 #[]] 36 = true := qck_r (by decide) (by decide +kernel)
theorem bs_X6_addFixture_e_28 {P : Zt → Option Zv → Prop} (K : Int → Zl → List Zv → Zt → Prop) : sx_ K P [.aload 0, .tableswitch 0 6 3 #[], .aload 0, .tableswitch 0 6 4 #[]] 36 = x_aload 0 (x_g1 106 523 (x_aload 0 (x_g0 106 4 0 400 (K 36)))) := ((xe_aload 0).trans (congrArg (x_aload 0) ((xe_g1 (kk := 106) rfl tl_6_3).trans (congrArg (x_g1 106 523) ((xe_aload 0).trans (congrArg (x_aload 0) ((xe_g0 (kk := 106) rfl tl_6_4).trans (congrArg (x_g0 106 4 0 400) xe_nil))))))))
theorem bk_X6_addFixture_e_39 : ck_ fX6 none cX6_addFixture 39 [.dup, .aload 1, .aload 0, .tableswitch 0 6 4 #[], .iload 2, .aload 1, .tableswitch 0 0 3 #[], .iload 3, .iaload, .aload 1, .tableswitch 0 0 3 #[], .iload 4, .iaload, .iload 5] 61 = true := qck_r (by decide) (by decide +kernel)
theorem bs_X6_addFixture_e_39 {P : Zt → Option Zv → Prop} (K : Int → Zl → List Zv → Zt → Prop) : sx_ K P [.dup, .aload 1, .aload 0, .tableswitch 0 6 4 #[], .iload 2, .aload 1, .tableswitch 0 0 3 #[], .iload 3, .iaload, .aload 1, .tableswitch 0 0 3 #[], .iload 4, .iaload, .iload 5] 61 = x_dup (x_aload 1 (x_aload 0 (x_g0 106 4 0 400 (x_iload 2 (x_aload 1 (x_g2 100 403 (x_iload 3 (x_iaload (x_aload 1 (x_g2 100 403 (x_iload 4 (x_iaload (x_iload 5 (K 61)))))))))))))) := ((xe_dup).trans (congrArg (x_dup) ((xe_aload 1).trans (congrArg (x_aload 1) ((xe_aload 0).trans (congrArg (x_aload 0) ((xe_g0 (kk := 106) rfl tl_6_4).trans (congrArg (x_g0 106 4 0 400) ((xe_iload 2).trans (congrArg (x_iload 2) ((xe_aload 1).trans (congrArg (x_aload 1) ((xe_g2 (kk := 100) rfl tl_0_3).trans (congrArg (x_g2 100 403) ((xe_iload 3).trans (congrArg (x_iload 3) ((xe_iaload).trans (congrArg (x_iaload) ((xe_aload 1).trans (congrArg (x_aload 1) ((xe_g2 (kk := 100) rfl tl_0_3).trans (congrArg (x_g2 100 403) ((xe_iload 4).trans (congrArg (x_iload 4) ((xe_iaload).trans (congrArg (x_iaload) ((xe_iload 5).trans (congrArg (x_iload 5) xe_nil))))))))))))))))))))))))))))
theorem bk_X6_addFixture_e_65 : ck_ fX6 none cX6_addFixture 65 [.aload 0, .dup, .tableswitch 0 6 4 #[], .iconst 1, .iadd, .tableswitch 1 6 4 #[], .return_] 76 = true := qck_r (by decide) (by decide +kernel)
theorem bs_X6_addFixture_e_65 {P : Zt → Option Zv → Prop} (K : Int → Zl → List Zv → Zt → Prop) : sx_ K P [.aload 0, .dup, .tableswitch 0 6 4 #[], .iconst 1, .iadd, .tableswitch 1 6 4 #[], .return_] 76 = x_aload 0 (x_dup (x_g0 106 4 0 400 (x_iconst 1 (x_iadd (x_p 106 4 0 400 (x_return_ P)))))) := ((xe_aload 0).trans (congrArg (x_aload 0) ((xe_dup).trans (congrArg (x_dup) ((xe_g0 (kk := 106) rfl tl_6_4).trans (congrArg (x_g0 106 4 0 400) ((xe_iconst 1).trans (congrArg (x_iconst 1) ((xe_iadd).trans (congrArg (x_iadd) ((xe_p (kk := 106) rfl tl_6_4).trans (congrArg (x_p 106 4 0 400) (xe_return_)))))))))))))
abbrev po_X6_addFixture_e (T : Zt) (c : Int) (u h a d : Int) : Zt → Option Zv → Prop := fun T' r => r = none ∧ fr_ [(106, [4]), (523, []), (152, []), (102, []), (448, []), (449, [])] T T' ∧ ((T' = T ∧ (T 100 c 5 ≤ h ∨ T 100 c 5 ≤ a ∨ 400 ≤ T 106 0 4)) ∨ (nm_ T T' c h a d ∧ T' 102 (T 106 0 4) 2 = u ∧ T' 102 (T 106 0 4) 6 = -1 ∧ T' 102 (T 106 0 4) 7 = -1))
set_option maxHeartbeats 4000000 in
theorem ct_X6_addFixture_e {T : Zt} {c : Int} {u h a d : Int} (hc : 0 ≤ c ∧ c ≤ 3) (hh : 0 ≤ h ∧ 0 ≤ a ∧ 0 ≤ d ∧ d ≤ 999) (hna : NA_ T) : Ct_ yX6_addFixture zX6_addFixture T [vR 106 0, vR 100 c, vI u, vI h, vI a, vI d] (po_X6_addFixture_e T c u h a d) := by
  refine ct_of (by decide) rfl rfl (Nat.le_of_ble_eq_true rfl) (fun hT hav => ?_)
  have hr_u : -2147483648 ≤ u ∧ u ≤ 2147483647 := hav (vI u) (by simp)
  have hr_h : -2147483648 ≤ h ∧ h ≤ 2147483647 := hav (vI h) (by simp)
  have hr_a : -2147483648 ≤ a ∧ a ≤ 2147483647 := hav (vI a) (by simp)
  have hr_d : -2147483648 ≤ d ∧ d ≤ 2147483647 := hav (vI d) (by simp)
  have hz : zX6_addFixture.2.2.2.1 = some .boolean → ∀ (T' : Zt) (x : Int), po_X6_addFixture_e T c u h a d T' (some (vI x)) → 0 ≤ x ∧ x ≤ 1 := fun h => by cases h
  have hb_matchCount : 0 ≤ T 106 0 4 ∧ T 106 0 4 ≤ 400 := bd_f hT 106 4 (by decide +kernel : (tf_ 106)[4]? = some (0, 0, 0, 400)) 0
  have hb5 : 0 ≤ T 100 c 5 ∧ T 100 c 5 ≤ 12 := bd_f hT 100 5 (by decide +kernel : (tf_ 100)[5]? = some (0, 0, 0, 12)) c
  show J_ zX6_addFixture T (po_X6_addFixture_e T c u h a d) 3 34 0 [some (vR 106 0), some (vR 100 c), some (vI u), some (vI h), some (vI a), some (vI d)] [] T
  refine j_blx (F := fX6) tb_X6 (by decide) bk_X6_addFixture_e_0 bs_X6_addFixture_e_0 hz (fun K hK => ?_)
  intro b1 b1b
  refine And.intro (fun c2 => ?_) (fun c2 => ?_)
  · refine hK 27 [some (vR 106 0), some (vR 100 c), some (vI u), some (vI h), some (vI a), some (vI d)] [] T ?_
    refine j_blx (F := fX6) tb_X6 (by decide) bk_X6_addFixture_e_27 bs_X6_addFixture_e_27 hz (fun K hK => ?_)
    refine (show po_X6_addFixture_e T c u h a d T (none) from ?_)
    exact ⟨rfl, fr_0 _ _, Or.inl ⟨rfl, by omega⟩⟩
  · intro b3 b3b
    refine And.intro (fun c4 => ?_) (fun c4 => ?_)
    · refine hK 27 [some (vR 106 0), some (vR 100 c), some (vI u), some (vI h), some (vI a), some (vI d)] [] T ?_
      refine j_blx (F := fX6) tb_X6 (by decide) bk_X6_addFixture_e_27 bs_X6_addFixture_e_27 hz (fun K hK => ?_)
      refine (show po_X6_addFixture_e T c u h a d T (none) from ?_)
      exact ⟨rfl, fr_0 _ _, Or.inl ⟨rfl, by omega⟩⟩
    · intro b5 b5b
      refine And.intro (fun c6 => ?_) (fun c6 => ?_)
      · refine hK 28 [some (vR 106 0), some (vR 100 c), some (vI u), some (vI h), some (vI a), some (vI d)] [] T ?_
        refine j_blx (F := fX6) tb_X6 (by decide) bk_X6_addFixture_e_28 bs_X6_addFixture_e_28 hz (fun K hK => ?_)
        intro b7 b7b
        refine hK 36 [some (vR 106 0), some (vR 100 c), some (vI u), some (vI h), some (vI a), some (vI d)] [vI (T 106 0 4), vR 523 0] T ?_
        refine j_newO (bc' := 2) (bs' := 23) (pc := 36) (ci := 2) (i := T 106 0 4) (by decide) (by decide) vi_2 tyX2_ok (nf_2 _) (lw_b1 144 (by decide +kernel) rfl : Cond.classLink RX6 17 RX2 ∈ lw_g) (lw_b3 221 (by decide +kernel) rfl : Cond.instantiable RX2 11 ∈ lw_g) (lw_b1 16 (by decide +kernel) rfl : Cond.initialized RX2 ∈ lw_g) (hna.1.2.1 _) (by omega) (by omega) (by decide +kernel) ?_
        refine j_nm (fun U8 hU8 => ?_)
        have fU8 := nu_fr hU8
        have zU8 := nu_tz hU8
        have oU8 := nu_to hU8
        have vU8 := nu_tv hU8
        show J_ zX6_addFixture T (po_X6_addFixture_e T c u h a d) 2 23 39 [some (vR 106 0), some (vR 100 c), some (vI u), some (vI h), some (vI a), some (vI d)] [vR 152 (T 106 0 4), vI (T 106 0 4), vR 523 0] U8
        refine j_blx (F := fX6) tb_X6 (by decide) bk_X6_addFixture_e_39 bs_X6_addFixture_e_39 hz (fun K hK => ?_)
        intro b9 b9b
        have e10 : U8 106 0 4 = T 106 0 4 := fU8 106 0 4 rfl
        rw [e10] at b9 b9b ⊢
        refine ix_i (by omega) ?_
        intro b11 b11b
        have e12 : U8 403 c h = T 403 c h := fU8 403 c h rfl
        rw [e12] at b11 b11b ⊢
        refine ix_i (by omega) ?_
        intro b13 b13b
        have e14 : U8 403 c a = T 403 c a := fU8 403 c a rfl
        rw [e14] at b13 b13b ⊢
        refine hK 61 [some (vR 106 0), some (vR 100 c), some (vI u), some (vI h), some (vI a), some (vI d)] [vI d, vI (T 403 c a), vI (T 403 c h), vI u, vI (T 106 0 4), vR 100 c, vR 152 (T 106 0 4), vR 152 (T 106 0 4), vI (T 106 0 4), vR 523 0] U8 ?_
        have hv1 : ∀ k : Nat, ow_ k = some 102 → ¬ T k (T 106 0 4) (-1) = 1 := fun k hk h => (hT.2.2.2.2.2.2.2.1 k _ 102 hk h).elim (hna.2.2.1 _ (by omega)) (hna.1.2.1 _)
        have e15 : U8 448 (T 106 0 4) (-1) = T 448 (T 106 0 4) (-1) := fU8 448 (T 106 0 4) (-1) rfl
        have e16 : U8 449 (T 106 0 4) (-1) = T 449 (T 106 0 4) (-1) := fU8 449 (T 106 0 4) (-1) rfl
        refine j_callI (y := yX2_init) (Yc := zX2_init) (rest := [vR 152 (T 106 0 4), vI (T 106 0 4), vR 523 0]) [vR 100 c, vI (T 106 0 4), vI u, vI (T 403 c h), vI (T 403 c a), vI d] (ct_X2_init (T := U8) (by omega) (by rw [e15]; exact hv1 448 (by decide)) (by rw [e16]; exact hv1 449 (by decide))) ci_X6_85 (qd_c (by decide +kernel)) (by decide) rfl (by decide +kernel) (Nat.le_of_ble_eq_true rfl) (by decide) (by decide) rfl ?_
        rintro U17 _ ⟨rfl, fU17, qU17o, ⟨t0U17, t1U17, t2U17, t3U17, t4U17, t5U17⟩, ⟨t6U17, t7U17, t8U17, t9U17, t10U17⟩, z8U17, z9U17⟩
        show J_ zX6_addFixture T (po_X6_addFixture_e T c u h a d) 0 0 64 [some (vR 106 0), some (vR 100 c), some (vI u), some (vI h), some (vI a), some (vI d)] [vR 152 (T 106 0 4), vI (T 106 0 4), vR 523 0] U17
        refine j_ok (fun gt2 _ => ?_)
        have e19 : U17 102 (T 106 0 4) (-1) = T 102 (T 106 0 4) (-1) := (fU17 102 (T 106 0 4) (-1) rfl).trans (fU8 102 (T 106 0 4) (-1) rfl)
        refine j_conv (k := 102) (i := T 106 0 4) (g := g2_ U17 (T 106 0 4)) (by decide) (by show ¬ U17 102 (T 106 0 4) (-1) = 1; rw [e19]; exact hna.2.2.1 _ (by omega)) (hna.1.2.1 _) (cg_2 gt2 (by omega) (by omega) t8U17 t9U17 (t10U17.trans (zU8 10 (by decide)))) rfl rfl ?_
        refine j_nm (fun U20 hU20 => ?_)
        have fU20 := cw_fr hU20
        have sU20 := cw_ts hU20
        have oU20 := cw_to hU20
        have rU20 := cw_r hU20
        show J_ zX6_addFixture T (po_X6_addFixture_e T c u h a d) 0 0 64 [some (vR 106 0), some (vR 100 c), some (vI u), some (vI h), some (vI a), some (vI d)] [vR 102 (T 106 0 4), vI (T 106 0 4), vR 523 0] U20
        refine j_aast (pc := 64) (by decide) (by decide) (by decide +kernel : ta_ 523 = some (5, some 400, 0, 1)) (by decide +kernel) (by omega) (by show _ < (400 : Int); omega) (by decide) ?_
        refine j_nm (fun U21 hU21 => ?_)
        have e22 := up_f hU21
        show J_ zX6_addFixture T (po_X6_addFixture_e T c u h a d) 0 0 65 [some (vR 106 0), some (vR 100 c), some (vI u), some (vI h), some (vI a), some (vI d)] [] U21
        refine j_blx (F := fX6) tb_X6 (by decide) bk_X6_addFixture_e_65 bs_X6_addFixture_e_65 hz (fun K hK => ?_)
        intro b23 b23b
        have e24 : U21 106 0 4 = T 106 0 4 := (up_k hU21 (by decide) 0 4).trans ((fU20 106 0 4 rfl).trans ((fU17 106 0 4 rfl).trans (fU8 106 0 4 rfl)))
        rw [e24] at b23 b23b ⊢
        refine rg_i (by omega) ?_
        refine bd_i (by omega) ?_
        refine x_nm (fun U25 hU25 => ?_)
        have e26 := up_f hU25
        refine (show po_X6_addFixture_e T c u h a d U25 (none) from ?_)
        have w0 : U20 102 (T 106 0 4) 0 = U17 152 (T 106 0 4) 0 - 1 := (sU20 0 (by decide)).trans (by unfold g2_; rw [if_pos (by decide)])
        have w1 : U20 102 (T 106 0 4) 1 = U17 152 (T 106 0 4) 1 := (sU20 1 (by decide)).trans (by unfold g2_; rw [if_neg (by decide)])
        have w2 : U20 102 (T 106 0 4) 2 = U17 152 (T 106 0 4) 2 := (sU20 2 (by decide)).trans (by unfold g2_; rw [if_neg (by decide)])
        have w3 : U20 102 (T 106 0 4) 3 = U17 152 (T 106 0 4) 3 := (sU20 3 (by decide)).trans (by unfold g2_; rw [if_neg (by decide)])
        have w4 : U20 102 (T 106 0 4) 4 = U17 152 (T 106 0 4) 4 := (sU20 4 (by decide)).trans (by unfold g2_; rw [if_neg (by decide)])
        have w5 : U20 102 (T 106 0 4) 5 = U17 152 (T 106 0 4) 5 := (sU20 5 (by decide)).trans (by unfold g2_; rw [if_neg (by decide)])
        have w6 : U20 102 (T 106 0 4) 6 = U17 152 (T 106 0 4) 6 := (sU20 6 (by decide)).trans (by unfold g2_; rw [if_neg (by decide)])
        have w7 : U20 102 (T 106 0 4) 7 = U17 152 (T 106 0 4) 7 := (sU20 7 (by decide)).trans (by unfold g2_; rw [if_neg (by decide)])
        have w10 : U20 102 (T 106 0 4) 10 = U17 152 (T 106 0 4) 10 := (sU20 10 (by decide)).trans (by unfold g2_; rw [if_neg (by decide)])
        have y10 : U8 152 (T 106 0 4) 10 = 0 := zU8 10 (by decide)
        have u0 : U25 102 (T 106 0 4) 0 = U20 102 (T 106 0 4) 0 := (up_k hU25 (by decide) _ _).trans (up_k hU21 (by decide) _ _)
        have u1 : U25 102 (T 106 0 4) 1 = U20 102 (T 106 0 4) 1 := (up_k hU25 (by decide) _ _).trans (up_k hU21 (by decide) _ _)
        have u2 : U25 102 (T 106 0 4) 2 = U20 102 (T 106 0 4) 2 := (up_k hU25 (by decide) _ _).trans (up_k hU21 (by decide) _ _)
        have u3 : U25 102 (T 106 0 4) 3 = U20 102 (T 106 0 4) 3 := (up_k hU25 (by decide) _ _).trans (up_k hU21 (by decide) _ _)
        have u4 : U25 102 (T 106 0 4) 4 = U20 102 (T 106 0 4) 4 := (up_k hU25 (by decide) _ _).trans (up_k hU21 (by decide) _ _)
        have u5 : U25 102 (T 106 0 4) 5 = U20 102 (T 106 0 4) 5 := (up_k hU25 (by decide) _ _).trans (up_k hU21 (by decide) _ _)
        have u6 : U25 102 (T 106 0 4) 6 = U20 102 (T 106 0 4) 6 := (up_k hU25 (by decide) _ _).trans (up_k hU21 (by decide) _ _)
        have u7 : U25 102 (T 106 0 4) 7 = U20 102 (T 106 0 4) 7 := (up_k hU25 (by decide) _ _).trans (up_k hU21 (by decide) _ _)
        have u10 : U25 102 (T 106 0 4) 10 = U20 102 (T 106 0 4) 10 := (up_k hU25 (by decide) _ _).trans (up_k hU21 (by decide) _ _)
        have d1 : U25 106 0 4 = T 106 0 4 + 1 := by omega
        have d2 : ∀ (k : Nat) (i j : Int), k = 102 ∨ k = 152 → i ≠ T 106 0 4 → U25 k i j = T k i j := fun k i j hk hi => (up_g hU25 (fun z => by omega)).trans ((up_g hU21 (fun z => by omega)).trans ((oU20 k i j hi).trans ((qU17o k i j hi).trans (oU8 k i j (fun z => hi z.2)))))
        have d3 : ∀ j, j ≠ T 106 0 4 → U25 523 0 j = T 523 0 j := fun j hj => (up_k hU25 (by decide) _ _).trans ((up_g hU21 (fun z => hj z.2.2)).trans ((fU20 523 _ _ rfl).trans ((fU17 523 _ _ rfl).trans (fU8 523 _ _ rfl))))
        have d4 : U25 523 0 (T 106 0 4) = 1 := (up_k hU25 (by decide) _ _).trans (up_f hU21)
        have d5 : ∀ i, U25 150 i (-1) = T 150 i (-1) := fun i => (up_k hU25 (by decide) _ _).trans ((up_k hU21 (by decide) _ _).trans ((fU20 150 _ _ rfl).trans ((fU17 150 _ _ rfl).trans (fU8 150 _ _ rfl))))
        have d6 : ∀ i, U25 153 i (-1) = T 153 i (-1) := fun i => (up_k hU25 (by decide) _ _).trans ((up_k hU21 (by decide) _ _).trans ((fU20 153 _ _ rfl).trans ((fU17 153 _ _ rfl).trans (fU8 153 _ _ rfl))))
        have d7 : ∀ i, U25 100 i (-1) = T 100 i (-1) := fun i => (up_k hU25 (by decide) _ _).trans ((up_k hU21 (by decide) _ _).trans ((fU20 100 _ _ rfl).trans ((fU17 100 _ _ rfl).trans (fU8 100 _ _ rfl))))
        have d8 : ∀ i, U25 103 i (-1) = T 103 i (-1) := fun i => (up_k hU25 (by decide) _ _).trans ((up_k hU21 (by decide) _ _).trans ((fU20 103 _ _ rfl).trans ((fU17 103 _ _ rfl).trans (fU8 103 _ _ rfl))))
        have d9 : U25 152 (T 106 0 4) (-1) = U20 152 (T 106 0 4) (-1) := (up_k hU25 (by decide) _ _).trans (up_k hU21 (by decide) _ _)
        have e27 : U25 106 0 2 = T 106 0 2 := (up_j hU25 (by decide) 106 0).trans ((up_k hU21 (by decide) 0 2).trans ((fU20 106 0 2 rfl).trans ((fU17 106 0 2 rfl).trans (fU8 106 0 2 rfl))))
        have n2 : NA_ U25 := by
          refine ⟨⟨fun i => by rw [d5]; exact hna.1.1 i, fun i => ?_, fun i => by rw [d6]; exact hna.1.2.2 i⟩, fun i hi => by rw [d7]; exact hna.2.1 i (by omega), fun i hi => ?_, fun i hi => ?_⟩
          · by_cases z : i = T 106 0 4
            · rw [z, d9]; exact rU20
            · rw [d2 152 i (-1) (Or.inr rfl) z]; exact hna.1.2.1 i
          · rw [d2 102 i (-1) (Or.inl rfl) (by omega)]; exact hna.2.2.1 i (by omega)
          · rw [d8]
            by_cases z : i = T 106 0 4
            · exact hna.2.2.2 i (by omega)
            · rw [d2 102 i 10 (Or.inl rfl) z] at hi; exact hna.2.2.2 i (by omega)
        exact ⟨rfl, fr_u (fr_u (fr_t (fr_t (fr_t (fr_0 _ _) (fr_s fU8 rfl)) (fr_s fU17 rfl)) (fr_s fU20 rfl)) hU21 rfl) hU25 rfl, Or.inr ⟨⟨⟨d1, by omega, by omega, by omega⟩, d2, d3, d4, ⟨by omega, by omega, by omega, by omega, by omega, by omega⟩, n2⟩, by omega, by omega, by omega⟩⟩
      · refine (show po_X6_addFixture_e T c u h a d T (none) from ?_)
        exact ⟨rfl, fr_0 _ _, Or.inl ⟨rfl, by omega⟩⟩
theorem bk_X6_addRound_e_111 : ck_ fX6 none cX6_addRound 111 [.istore 11, .aload 0, .aload 1, .iload 2, .iload 11, .ifCond .eq 126, .iload 9, .goto 128] 126 = true := qck_r (by decide) (by decide +kernel)
theorem bs_X6_addRound_e_111 {P : Zt → Option Zv → Prop} (K : Int → Zl → List Zv → Zt → Prop) : sx_ K P [.istore 11, .aload 0, .aload 1, .iload 2, .iload 11, .ifCond .eq 126, .iload 9, .goto 128] 126 = x_istore 11 (x_aload 0 (x_aload 1 (x_iload 2 (x_iload 11 (x_ifCond .eq 126 K (x_iload 9 (x_goto 128 K))))))) := ((xe_istore 11).trans (congrArg (x_istore 11) ((xe_aload 0).trans (congrArg (x_aload 0) ((xe_aload 1).trans (congrArg (x_aload 1) ((xe_iload 2).trans (congrArg (x_iload 2) ((xe_iload 11).trans (congrArg (x_iload 11) ((xe_ifCond .eq 126).trans (congrArg (x_ifCond .eq 126 K) ((xe_iload 9).trans (congrArg (x_iload 9) (xe_goto 128)))))))))))))))
theorem bk_X6_addRound_e_126 : ck_ fX6 none cX6_addRound 126 [.iload 10, .iload 11, .ifCond .eq 138, .iload 10, .goto 140] 138 = true := qck_r (by decide) (by decide +kernel)
theorem bs_X6_addRound_e_126 {P : Zt → Option Zv → Prop} (K : Int → Zl → List Zv → Zt → Prop) : sx_ K P [.iload 10, .iload 11, .ifCond .eq 138, .iload 10, .goto 140] 138 = x_iload 10 (x_iload 11 (x_ifCond .eq 138 K (x_iload 10 (x_goto 140 K)))) := ((xe_iload 10).trans (congrArg (x_iload 10) ((xe_iload 11).trans (congrArg (x_iload 11) ((xe_ifCond .eq 138).trans (congrArg (x_ifCond .eq 138 K) ((xe_iload 10).trans (congrArg (x_iload 10) (xe_goto 140)))))))))
theorem bk_X6_addRound_e_138 : ck_ fX6 none cX6_addRound 138 [.iload 9, .iload 5] 142 = true := qck_r (by decide) (by decide +kernel)
theorem bs_X6_addRound_e_138 {P : Zt → Option Zv → Prop} (K : Int → Zl → List Zv → Zt → Prop) : sx_ K P [.iload 9, .iload 5] 142 = x_iload 9 (x_iload 5 (K 142)) := ((xe_iload 9).trans (congrArg (x_iload 9) ((xe_iload 5).trans (congrArg (x_iload 5) xe_nil))))
theorem bk_X6_addRound_e_145 : ck_ fX6 none cX6_addRound 145 [.iinc 8 1, .goto 58] 151 = true := qck_r (by decide) (by decide +kernel)
theorem bs_X6_addRound_e_145 {P : Zt → Option Zv → Prop} (K : Int → Zl → List Zv → Zt → Prop) : sx_ K P [.iinc 8 1, .goto 58] 151 = x_iinc 8 1 (x_goto 58 K) := ((xe_iinc 8 1).trans (congrArg (x_iinc 8 1) (xe_goto 58)))
theorem bk_X6_addRound_e_128 : ck_ fX6 none cX6_addRound 128 [.iload 11, .ifCond .eq 138, .iload 10, .goto 140] 138 = true := qck_r (by decide) (by decide +kernel)
theorem bs_X6_addRound_e_128 {P : Zt → Option Zv → Prop} (K : Int → Zl → List Zv → Zt → Prop) : sx_ K P [.iload 11, .ifCond .eq 138, .iload 10, .goto 140] 138 = x_iload 11 (x_ifCond .eq 138 K (x_iload 10 (x_goto 140 K))) := ((xe_iload 11).trans (congrArg (x_iload 11) ((xe_ifCond .eq 138).trans (congrArg (x_ifCond .eq 138 K) ((xe_iload 10).trans (congrArg (x_iload 10) (xe_goto 140)))))))
theorem bk_X6_addRound_e_140 : ck_ fX6 none cX6_addRound 140 [.iload 5] 142 = true := qck_r (by decide) (by decide +kernel)
theorem bs_X6_addRound_e_140 {P : Zt → Option Zv → Prop} (K : Int → Zl → List Zv → Zt → Prop) : sx_ K P [.iload 5] 142 = x_iload 5 (K 142) := ((xe_iload 5).trans (congrArg (x_iload 5) xe_nil))
theorem bk_X6_addRound_e_58 : ck_ fX6 none cX6_addRound 58 [.iload 8, .iload 6, .iconst 2, .idiv, .if_icmp .gt 151, .iload 3, .iload 8, .iadd, .iload 6, .irem, .istore 9, .iload 3, .iload 8, .isub, .iload 6, .iadd, .iload 6, .irem, .istore 10, .iload 8, .iconst 1, .iand, .iconst 1, .if_icmp .ne 100, .iconst 1, .goto 101] 100 = true := qck_r (by decide) (by decide +kernel)
theorem bs_X6_addRound_e_58 {P : Zt → Option Zv → Prop} (K : Int → Zl → List Zv → Zt → Prop) : sx_ K P [.iload 8, .iload 6, .iconst 2, .idiv, .if_icmp .gt 151, .iload 3, .iload 8, .iadd, .iload 6, .irem, .istore 9, .iload 3, .iload 8, .isub, .iload 6, .iadd, .iload 6, .irem, .istore 10, .iload 8, .iconst 1, .iand, .iconst 1, .if_icmp .ne 100, .iconst 1, .goto 101] 100 = x_iload 8 (x_iload 6 (x_iconst 2 (x_idiv (x_if_icmp .gt 151 K (x_iload 3 (x_iload 8 (x_iadd (x_iload 6 (x_irem (x_istore 9 (x_iload 3 (x_iload 8 (x_isub (x_iload 6 (x_iadd (x_iload 6 (x_irem (x_istore 10 (x_iload 8 (x_iconst 1 (x_iand (x_iconst 1 (x_if_icmp .ne 100 K (x_iconst 1 (x_goto 101 K))))))))))))))))))))))))) := ((xe_iload 8).trans (congrArg (x_iload 8) ((xe_iload 6).trans (congrArg (x_iload 6) ((xe_iconst 2).trans (congrArg (x_iconst 2) ((xe_idiv).trans (congrArg (x_idiv) ((xe_if_icmp .gt 151).trans (congrArg (x_if_icmp .gt 151 K) ((xe_iload 3).trans (congrArg (x_iload 3) ((xe_iload 8).trans (congrArg (x_iload 8) ((xe_iadd).trans (congrArg (x_iadd) ((xe_iload 6).trans (congrArg (x_iload 6) ((xe_irem).trans (congrArg (x_irem) ((xe_istore 9).trans (congrArg (x_istore 9) ((xe_iload 3).trans (congrArg (x_iload 3) ((xe_iload 8).trans (congrArg (x_iload 8) ((xe_isub).trans (congrArg (x_isub) ((xe_iload 6).trans (congrArg (x_iload 6) ((xe_iadd).trans (congrArg (x_iadd) ((xe_iload 6).trans (congrArg (x_iload 6) ((xe_irem).trans (congrArg (x_irem) ((xe_istore 10).trans (congrArg (x_istore 10) ((xe_iload 8).trans (congrArg (x_iload 8) ((xe_iconst 1).trans (congrArg (x_iconst 1) ((xe_iand).trans (congrArg (x_iand) ((xe_iconst 1).trans (congrArg (x_iconst 1) ((xe_if_icmp .ne 100).trans (congrArg (x_if_icmp .ne 100 K) ((xe_iconst 1).trans (congrArg (x_iconst 1) (xe_goto 101)))))))))))))))))))))))))))))))))))))))))))))))))))
theorem bk_X6_addRound_e_151 : ck_ fX6 none cX6_addRound 151 [.return_] 152 = true := qck_r (by decide) (by decide +kernel)
theorem bs_X6_addRound_e_151 {P : Zt → Option Zv → Prop} (K : Int → Zl → List Zv → Zt → Prop) : sx_ K P [.return_] 152 = x_return_ P := (xe_return_)
theorem bk_X6_addRound_e_100 : ck_ fX6 none cX6_addRound 100 [.iconst 0, .iload 4, .if_icmp .eq 110, .iconst 1, .goto 111] 110 = true := qck_r (by decide) (by decide +kernel)
theorem bs_X6_addRound_e_100 {P : Zt → Option Zv → Prop} (K : Int → Zl → List Zv → Zt → Prop) : sx_ K P [.iconst 0, .iload 4, .if_icmp .eq 110, .iconst 1, .goto 111] 110 = x_iconst 0 (x_iload 4 (x_if_icmp .eq 110 K (x_iconst 1 (x_goto 111 K)))) := ((xe_iconst 0).trans (congrArg (x_iconst 0) ((xe_iload 4).trans (congrArg (x_iload 4) ((xe_if_icmp .eq 110).trans (congrArg (x_if_icmp .eq 110 K) ((xe_iconst 1).trans (congrArg (x_iconst 1) (xe_goto 111)))))))))
theorem bk_X6_addRound_e_110 : ck_ fX6 none cX6_addRound 110 [.iconst 0] 111 = true := qck_r (by decide) (by decide +kernel)
theorem bs_X6_addRound_e_110 {P : Zt → Option Zv → Prop} (K : Int → Zl → List Zv → Zt → Prop) : sx_ K P [.iconst 0] 111 = x_iconst 0 (K 111) := ((xe_iconst 0).trans (congrArg (x_iconst 0) xe_nil))
theorem bk_X6_addRound_e_101 : ck_ fX6 none cX6_addRound 101 [.iload 4, .if_icmp .eq 110, .iconst 1, .goto 111] 110 = true := qck_r (by decide) (by decide +kernel)
theorem bs_X6_addRound_e_101 {P : Zt → Option Zv → Prop} (K : Int → Zl → List Zv → Zt → Prop) : sx_ K P [.iload 4, .if_icmp .eq 110, .iconst 1, .goto 111] 110 = x_iload 4 (x_if_icmp .eq 110 K (x_iconst 1 (x_goto 111 K))) := ((xe_iload 4).trans (congrArg (x_iload 4) ((xe_if_icmp .eq 110).trans (congrArg (x_if_icmp .eq 110 K) ((xe_iconst 1).trans (congrArg (x_iconst 1) (xe_goto 111)))))))
theorem bk_X6_addRound_e_0 : ck_ fX6 none cX6_addRound 0 [.aload 1] 1 = true := qck_r (by decide) (by decide +kernel)
theorem bs_X6_addRound_e_0 {P : Zt → Option Zv → Prop} (K : Int → Zl → List Zv → Zt → Prop) : sx_ K P [.aload 1] 1 = x_aload 1 (K 1) := ((xe_aload 1).trans (congrArg (x_aload 1) xe_nil))
theorem bk_X6_addRound_e_4 : ck_ fX6 none cX6_addRound 4 [.iconst 1, .isub, .istore 6, .iload 3, .iconst 1, .iand, .ifCond .ne 18, .iconst 1, .goto 19] 18 = true := qck_r (by decide) (by decide +kernel)
theorem bs_X6_addRound_e_4 {P : Zt → Option Zv → Prop} (K : Int → Zl → List Zv → Zt → Prop) : sx_ K P [.iconst 1, .isub, .istore 6, .iload 3, .iconst 1, .iand, .ifCond .ne 18, .iconst 1, .goto 19] 18 = x_iconst 1 (x_isub (x_istore 6 (x_iload 3 (x_iconst 1 (x_iand (x_ifCond .ne 18 K (x_iconst 1 (x_goto 19 K)))))))) := ((xe_iconst 1).trans (congrArg (x_iconst 1) ((xe_isub).trans (congrArg (x_isub) ((xe_istore 6).trans (congrArg (x_istore 6) ((xe_iload 3).trans (congrArg (x_iload 3) ((xe_iconst 1).trans (congrArg (x_iconst 1) ((xe_iand).trans (congrArg (x_iand) ((xe_ifCond .ne 18).trans (congrArg (x_ifCond .ne 18 K) ((xe_iconst 1).trans (congrArg (x_iconst 1) (xe_goto 19)))))))))))))))))
theorem bk_X6_addRound_e_18 : ck_ fX6 none cX6_addRound 18 [.iconst 0, .istore 7, .aload 0, .aload 1, .iload 2, .iload 7, .iload 4, .if_icmp .eq 35, .iload 3, .goto 37] 35 = true := qck_r (by decide) (by decide +kernel)
theorem bs_X6_addRound_e_18 {P : Zt → Option Zv → Prop} (K : Int → Zl → List Zv → Zt → Prop) : sx_ K P [.iconst 0, .istore 7, .aload 0, .aload 1, .iload 2, .iload 7, .iload 4, .if_icmp .eq 35, .iload 3, .goto 37] 35 = x_iconst 0 (x_istore 7 (x_aload 0 (x_aload 1 (x_iload 2 (x_iload 7 (x_iload 4 (x_if_icmp .eq 35 K (x_iload 3 (x_goto 37 K))))))))) := ((xe_iconst 0).trans (congrArg (x_iconst 0) ((xe_istore 7).trans (congrArg (x_istore 7) ((xe_aload 0).trans (congrArg (x_aload 0) ((xe_aload 1).trans (congrArg (x_aload 1) ((xe_iload 2).trans (congrArg (x_iload 2) ((xe_iload 7).trans (congrArg (x_iload 7) ((xe_iload 4).trans (congrArg (x_iload 4) ((xe_if_icmp .eq 35).trans (congrArg (x_if_icmp .eq 35 K) ((xe_iload 3).trans (congrArg (x_iload 3) (xe_goto 37)))))))))))))))))))
theorem bk_X6_addRound_e_35 : ck_ fX6 none cX6_addRound 35 [.iload 6, .iload 7, .iload 4, .if_icmp .eq 49, .iload 6, .goto 50] 49 = true := qck_r (by decide) (by decide +kernel)
theorem bs_X6_addRound_e_35 {P : Zt → Option Zv → Prop} (K : Int → Zl → List Zv → Zt → Prop) : sx_ K P [.iload 6, .iload 7, .iload 4, .if_icmp .eq 49, .iload 6, .goto 50] 49 = x_iload 6 (x_iload 7 (x_iload 4 (x_if_icmp .eq 49 K (x_iload 6 (x_goto 50 K))))) := ((xe_iload 6).trans (congrArg (x_iload 6) ((xe_iload 7).trans (congrArg (x_iload 7) ((xe_iload 4).trans (congrArg (x_iload 4) ((xe_if_icmp .eq 49).trans (congrArg (x_if_icmp .eq 49 K) ((xe_iload 6).trans (congrArg (x_iload 6) (xe_goto 50)))))))))))
theorem bk_X6_addRound_e_49 : ck_ fX6 none cX6_addRound 49 [.iload 3, .iload 5] 52 = true := qck_r (by decide) (by decide +kernel)
theorem bs_X6_addRound_e_49 {P : Zt → Option Zv → Prop} (K : Int → Zl → List Zv → Zt → Prop) : sx_ K P [.iload 3, .iload 5] 52 = x_iload 3 (x_iload 5 (K 52)) := ((xe_iload 3).trans (congrArg (x_iload 3) ((xe_iload 5).trans (congrArg (x_iload 5) xe_nil))))
theorem bk_X6_addRound_e_55 : ck_ fX6 none cX6_addRound 55 [.iconst 1, .istore 8] 58 = true := qck_r (by decide) (by decide +kernel)
theorem bs_X6_addRound_e_55 {P : Zt → Option Zv → Prop} (K : Int → Zl → List Zv → Zt → Prop) : sx_ K P [.iconst 1, .istore 8] 58 = x_iconst 1 (x_istore 8 (K 58)) := ((xe_iconst 1).trans (congrArg (x_iconst 1) ((xe_istore 8).trans (congrArg (x_istore 8) xe_nil))))
theorem bk_X6_addRound_e_37 : ck_ fX6 none cX6_addRound 37 [.iload 7, .iload 4, .if_icmp .eq 49, .iload 6, .goto 50] 49 = true := qck_r (by decide) (by decide +kernel)
theorem bs_X6_addRound_e_37 {P : Zt → Option Zv → Prop} (K : Int → Zl → List Zv → Zt → Prop) : sx_ K P [.iload 7, .iload 4, .if_icmp .eq 49, .iload 6, .goto 50] 49 = x_iload 7 (x_iload 4 (x_if_icmp .eq 49 K (x_iload 6 (x_goto 50 K)))) := ((xe_iload 7).trans (congrArg (x_iload 7) ((xe_iload 4).trans (congrArg (x_iload 4) ((xe_if_icmp .eq 49).trans (congrArg (x_if_icmp .eq 49 K) ((xe_iload 6).trans (congrArg (x_iload 6) (xe_goto 50)))))))))
theorem bk_X6_addRound_e_50 : ck_ fX6 none cX6_addRound 50 [.iload 5] 52 = true := qck_r (by decide) (by decide +kernel)
theorem bs_X6_addRound_e_50 {P : Zt → Option Zv → Prop} (K : Int → Zl → List Zv → Zt → Prop) : sx_ K P [.iload 5] 52 = x_iload 5 (K 52) := ((xe_iload 5).trans (congrArg (x_iload 5) xe_nil))
theorem bk_X6_addRound_e_19 : ck_ fX6 none cX6_addRound 19 [.istore 7, .aload 0, .aload 1, .iload 2, .iload 7, .iload 4, .if_icmp .eq 35, .iload 3, .goto 37] 35 = true := qck_r (by decide) (by decide +kernel)
theorem bs_X6_addRound_e_19 {P : Zt → Option Zv → Prop} (K : Int → Zl → List Zv → Zt → Prop) : sx_ K P [.istore 7, .aload 0, .aload 1, .iload 2, .iload 7, .iload 4, .if_icmp .eq 35, .iload 3, .goto 37] 35 = x_istore 7 (x_aload 0 (x_aload 1 (x_iload 2 (x_iload 7 (x_iload 4 (x_if_icmp .eq 35 K (x_iload 3 (x_goto 37 K)))))))) := ((xe_istore 7).trans (congrArg (x_istore 7) ((xe_aload 0).trans (congrArg (x_aload 0) ((xe_aload 1).trans (congrArg (x_aload 1) ((xe_iload 2).trans (congrArg (x_iload 2) ((xe_iload 7).trans (congrArg (x_iload 7) ((xe_iload 4).trans (congrArg (x_iload 4) ((xe_if_icmp .eq 35).trans (congrArg (x_if_icmp .eq 35 K) ((xe_iload 3).trans (congrArg (x_iload 3) (xe_goto 37)))))))))))))))))
abbrev po_X6_addRound_e (T : Zt) (c : Int) (f : Int) (u q w d : Int) : Zt → Option Zv → Prop := fun T' r => r = none ∧ fr_ [(106, [4]), (523, []), (152, []), (102, []), (448, []), (449, [])] T T' ∧ (RK_ T' c f (T 100 c 5 + an_ (T 100 c 5) 1 - 1) q 13 d ∧ (∀ i j, i < f → T' 102 i j = T 102 i j) ∧ T 106 0 4 ≤ T' 106 0 4 ∧ (∀ i j, i < T 106 0 4 → T' 102 i j = T 102 i j) ∧ AP9_ T T' c (rl9_ (T 100 c 5) (T 100 c 5 + an_ (T 100 c 5) 1 - 1) q w u d ((T 100 c 5 + an_ (T 100 c 5) 1 - 1) / 2 + 1).toNat []))
set_option maxHeartbeats 4000000 in
theorem ct_X6_addRound_e {T : Zt} {c : Int} {f : Int} {u q w d : Int} (hc : 0 ≤ c ∧ c ≤ 3) (he : 2 ≤ T 100 c 5) (hr : 0 ≤ q ∧ q < T 100 c 5 + an_ (T 100 c 5) 1 - 1) (hd : 0 ≤ d ∧ d ≤ 999) (hke : KEc_ T c) (hrb : RK_ T c f (T 100 c 5 + an_ (T 100 c 5) 1 - 1) q 0 d) (hw : w = 0 ∨ w = 1) (hro : T 106 0 4 + (T 100 c 5 + an_ (T 100 c 5) 1 - 1) / 2 + 1 - T 100 c 5 % 2 ≤ 400) : Ct_ yX6_addRound zX6_addRound T [vR 106 0, vR 100 c, vI u, vI q, vI w, vI d] (po_X6_addRound_e T c f u q w d) := by
  refine ct_of (by decide) rfl rfl (Nat.le_of_ble_eq_true rfl) (fun hT hav => ?_)
  have hr_u : -2147483648 ≤ u ∧ u ≤ 2147483647 := hav (vI u) (by simp)
  have hr_q : -2147483648 ≤ q ∧ q ≤ 2147483647 := hav (vI q) (by simp)
  have hr_w : -2147483648 ≤ w ∧ w ≤ 2147483647 := hav (vI w) (by simp)
  have hr_d : -2147483648 ≤ d ∧ d ≤ 2147483647 := hav (vI d) (by simp)
  have hz : zX6_addRound.2.2.2.1 = some .boolean → ∀ (T' : Zt) (x : Int), po_X6_addRound_e T c f u q w d T' (some (vI x)) → 0 ≤ x ∧ x ≤ 1 := fun h => by cases h
  have hb_matchCount : 0 ≤ T 106 0 4 ∧ T 106 0 4 ≤ 400 := bd_f hT 106 4 (by decide +kernel : (tf_ 106)[4]? = some (0, 0, 0, 400)) 0
  have hb5 : 0 ≤ T 100 c 5 ∧ T 100 c 5 ≤ 12 := bd_f hT 100 5 (by decide +kernel : (tf_ 100)[5]? = some (0, 0, 0, 12)) c
  have hp1 := an_1b (T 100 c 5)
  have hpm := an9_m (x := T 100 c 5) (by omega)
  have hpq := an9_m (x := q) (by omega)
  have hp2 : T 100 c 5 = 12 → an_ (T 100 c 5) 1 = 0 := fun h => by rw [h]; decide
  show J_ zX6_addRound T (po_X6_addRound_e T c f u q w d) 18 204 0 [some (vR 106 0), some (vR 100 c), some (vI u), some (vI q), some (vI w), some (vI d), none, none, none, none, none, none] [] T
  have c_58 : ∀ (nn : Nat) (k : Int) (T1 : Zt), ((13 - k).toNat) ≤ nn → (fr_ [(106, [4]), (523, []), (152, []), (102, []), (448, []), (449, [])] T T1) → (RK_ T1 c f (T 100 c 5 + an_ (T 100 c 5) 1 - 1) q k d) → ((∀ i j, i < f → T1 102 i j = T 102 i j) ∧ T 106 0 4 ≤ T1 106 0 4) → (1 ≤ k ∧ k ≤ (T 100 c 5 + an_ (T 100 c 5) 1 - 1) / 2 + 1) → (∀ i j, i < T 106 0 4 → T1 102 i j = T 102 i j) → (AP9_ T T1 c (rl9_ (T 100 c 5) (T 100 c 5 + an_ (T 100 c 5) 1 - 1) q w u d k.toNat [])) → J_ zX6_addRound T (po_X6_addRound_e T c f u q w d) ((3 * ((T 100 c 5 + an_ (T 100 c 5) 1 - 1) / 2 + 1 - k)).toNat) ((34 * ((T 100 c 5 + an_ (T 100 c 5) 1 - 1) / 2 + 1 - k)).toNat) 58 [some (vR 106 0), some (vR 100 c), some (vI u), some (vI q), some (vI w), some (vI d), some (vI (T 100 c 5 + an_ (T 100 c 5) 1 - 1)), none, some (vI k), none, none, none] [] T1 := by
    intro nn
    induction nn using Nat.strongRecOn with
    | _ nn ih_58 =>
      intro k T1 hm_58 hf_58 hrb1 od1 i1 oe1 ap1
      have lq := rl9_l (e := T 100 c 5) (L := T 100 c 5 + an_ (T 100 c 5) 1 - 1) (r := q) (u := w) (rd := u) (dt := d) (q := (T 100 c 5 % 2).toNat) (l := []) (by omega) (k - 1).toNat
      rw [show (k - 1).toNat + 1 = k.toNat by omega] at lq
      have lq2 : (rl9_ (T 100 c 5) (T 100 c 5 + an_ (T 100 c 5) 1 - 1) q w u d k.toNat []).length + (T 100 c 5 % 2).toNat ≤ k.toNat := by have z : ([] : List Fx9_).length = 0 := rfl; omega
      have lq3 := ap1.1
      have hpk := an9_m (x := k) (by omega)
      have c_111 : ∀ (v : Int), (2 * k ≤ T 100 c 5 + an_ (T 100 c 5) 1 - 1) → ((v = 1 ∧ k % 2 ≠ w) ∨ (v = 0 ∧ k % 2 = w)) → J_ zX6_addRound T (po_X6_addRound_e T c f u q w d) ((3 * ((T 100 c 5 + an_ (T 100 c 5) 1 - 1) / 2 + 1 - k)).toNat) ((34 * ((T 100 c 5 + an_ (T 100 c 5) 1 - 1) / 2 + 1 - k)).toNat) 111 [some (vR 106 0), some (vR 100 c), some (vI u), some (vI q), some (vI w), some (vI d), some (vI (T 100 c 5 + an_ (T 100 c 5) 1 - 1)), none, some (vI k), some (vI ((q + k) % (T 100 c 5 + an_ (T 100 c 5) 1 - 1))), some (vI (((q - k) + (T 100 c 5 + an_ (T 100 c 5) 1 - 1)) % (T 100 c 5 + an_ (T 100 c 5) 1 - 1))), none] [vI v] T1 := by
        intro v i2 i3
        have y1 := em_2 (x := q + k) (R := T 100 c 5 + an_ (T 100 c 5) 1 - 1) (by omega) (by omega)
        have y2 := em_2 (x := q - k + (T 100 c 5 + an_ (T 100 c 5) 1 - 1)) (R := T 100 c 5 + an_ (T 100 c 5) 1 - 1) (by omega) (by omega)
        refine j_blx (F := fX6) tb_X6 (by decide) bk_X6_addRound_e_111 bs_X6_addRound_e_111 hz (fun K hK => ?_)
        refine And.intro (fun c1 => ?_) (fun c1 => ?_)
        · refine hK 126 [some (vR 106 0), some (vR 100 c), some (vI u), some (vI q), some (vI w), some (vI d), some (vI (T 100 c 5 + an_ (T 100 c 5) 1 - 1)), none, some (vI k), some (vI ((q + k) % (T 100 c 5 + an_ (T 100 c 5) 1 - 1))), some (vI (((q - k) + (T 100 c 5 + an_ (T 100 c 5) 1 - 1)) % (T 100 c 5 + an_ (T 100 c 5) 1 - 1))), some (vI v)] [vI u, vR 100 c, vR 106 0] T1 ?_
          refine j_blx (F := fX6) tb_X6 (by decide) bk_X6_addRound_e_126 bs_X6_addRound_e_126 hz (fun K hK => ?_)
          refine And.intro (fun c2 => ?_) (fun c2 => ?_)
          · refine hK 138 [some (vR 106 0), some (vR 100 c), some (vI u), some (vI q), some (vI w), some (vI d), some (vI (T 100 c 5 + an_ (T 100 c 5) 1 - 1)), none, some (vI k), some (vI ((q + k) % (T 100 c 5 + an_ (T 100 c 5) 1 - 1))), some (vI (((q - k) + (T 100 c 5 + an_ (T 100 c 5) 1 - 1)) % (T 100 c 5 + an_ (T 100 c 5) 1 - 1))), some (vI v)] [vI (((q - k) + (T 100 c 5 + an_ (T 100 c 5) 1 - 1)) % (T 100 c 5 + an_ (T 100 c 5) 1 - 1)), vI u, vR 100 c, vR 106 0] T1 ?_
            refine j_blx (F := fX6) tb_X6 (by decide) bk_X6_addRound_e_138 bs_X6_addRound_e_138 hz (fun K hK => ?_)
            refine hK 142 [some (vR 106 0), some (vR 100 c), some (vI u), some (vI q), some (vI w), some (vI d), some (vI (T 100 c 5 + an_ (T 100 c 5) 1 - 1)), none, some (vI k), some (vI ((q + k) % (T 100 c 5 + an_ (T 100 c 5) 1 - 1))), some (vI (((q - k) + (T 100 c 5 + an_ (T 100 c 5) 1 - 1)) % (T 100 c 5 + an_ (T 100 c 5) 1 - 1))), some (vI v)] [vI d, vI ((q + k) % (T 100 c 5 + an_ (T 100 c 5) 1 - 1)), vI (((q - k) + (T 100 c 5 + an_ (T 100 c 5) 1 - 1)) % (T 100 c 5 + an_ (T 100 c 5) 1 - 1)), vI u, vR 100 c, vR 106 0] T1 ?_
            refine j_callV (y := yX6_addFixture) (Yc := zX6_addFixture) (rest := []) [vR 100 c, vI u, vI (((q - k) + (T 100 c 5 + an_ (T 100 c 5) 1 - 1)) % (T 100 c 5 + an_ (T 100 c 5) 1 - 1)), vI ((q + k) % (T 100 c 5 + an_ (T 100 c 5) 1 - 1)), vI d] (ct_X6_addFixture_e (T := T1) hc (by omega) (hrb1.2.2.2.2)) cl_X6_75 (qd_c (by decide +kernel)) (by decide) rfl (by decide +kernel) (Nat.le_of_ble_eq_true rfl) (by show 3 ≤ (3 * ((T 100 c 5 + an_ (T 100 c 5) 1 - 1) / 2 + 1 - k)).toNat; omega) (by show 34 ≤ (34 * ((T 100 c 5 + an_ (T 100 c 5) 1 - 1) / 2 + 1 - k)).toNat; omega) rfl ?_
            rintro U3 _ ⟨rfl, fU3, qU3⟩
            show J_ zX6_addRound T (po_X6_addRound_e T c f u q w d) (((3 * ((T 100 c 5 + an_ (T 100 c 5) 1 - 1) / 2 + 1 - k)).toNat) - 3) (((34 * ((T 100 c 5 + an_ (T 100 c 5) 1 - 1) / 2 + 1 - k)).toNat) - 34) 145 [some (vR 106 0), some (vR 100 c), some (vI u), some (vI q), some (vI w), some (vI d), some (vI (T 100 c 5 + an_ (T 100 c 5) 1 - 1)), none, some (vI k), some (vI ((q + k) % (T 100 c 5 + an_ (T 100 c 5) 1 - 1))), some (vI (((q - k) + (T 100 c 5 + an_ (T 100 c 5) 1 - 1)) % (T 100 c 5 + an_ (T 100 c 5) 1 - 1))), some (vI v)] [] U3
            refine j_blx (F := fX6) tb_X6 (by decide) bk_X6_addRound_e_145 bs_X6_addRound_e_145 hz (fun K hK => ?_)
            refine rg_i (by omega) ?_
            refine hK 58 [some (vR 106 0), some (vR 100 c), some (vI u), some (vI q), some (vI w), some (vI d), some (vI (T 100 c 5 + an_ (T 100 c 5) 1 - 1)), none, some (vI (k + 1)), some (vI ((q + k) % (T 100 c 5 + an_ (T 100 c 5) 1 - 1))), some (vI (((q - k) + (T 100 c 5 + an_ (T 100 c 5) 1 - 1)) % (T 100 c 5 + an_ (T 100 c 5) 1 - 1))), some (vI v)] [] U3 ?_
            refine j_drop [some (vR 106 0), some (vR 100 c), some (vI u), some (vI q), some (vI w), some (vI d), some (vI (T 100 c 5 + an_ (T 100 c 5) 1 - 1)), none, some (vI (k + 1)), none, none, none] (fun k v hk => ?_) rfl ?_
            · match k, hk with
              | 0, hk => exact hk
              | 1, hk => exact hk
              | 2, hk => exact hk
              | 3, hk => exact hk
              | 4, hk => exact hk
              | 5, hk => exact hk
              | 6, hk => exact hk
              | 7, hk => cases hk
              | 8, hk => exact hk
              | 9, hk => cases hk
              | 10, hk => cases hk
              | 11, hk => cases hk
              | k + 12, hk => cases hk
            refine j_mono (bc' := ((3 * ((T 100 c 5 + an_ (T 100 c 5) 1 - 1) / 2 + 1 - (k + 1))).toNat)) (bs' := ((34 * ((T 100 c 5 + an_ (T 100 c 5) 1 - 1) / 2 + 1 - (k + 1))).toNat)) (by omega) (by omega) ?_
            refine ih_58 _ ?_ (k + 1) U3 (Nat.le_refl _) ?_ ?_ ?_ ?_ ?_ ?_
            · omega
            · exact fr_t (fr_t (fr_0 _ _) (fr_s hf_58 rfl)) (fr_s fU3 rfl)
            · exact (rb_add hrb1 (KEc_f hke hf_58 ⟨rfl, fun _ => rfl, fun _ => rfl⟩) (by omega) (lv_b hr (by omega)) fU3 (qU3.imp id And.left)).1
            · have y9 := rb_add hrb1 (KEc_f hke hf_58 ⟨rfl, fun _ => rfl, fun _ => rfl⟩) (by omega) (lv_b hr (by omega)) fU3 (qU3.imp id And.left)
              exact ⟨fun i j hi => (y9.2.1 i j hi).trans (od1.1 i j hi), by have := y9.2.2; have := od1.2; omega⟩
            · omega
            · exact fun i j hi => (fx9_o qU3 i j (by have := od1.2; omega)).trans (oe1 i j hi)
            · have eh := hm9_b (L := (T 100 c 5 + an_ (T 100 c 5) 1 - 1)) (r := q) (u := w) (i := k) (by rw [pq9_i (by omega)]; omega)
              rw [pa9_i (by omega), pb9_i (by omega)] at eh
              rw [show (k + 1).toNat = k.toNat + 1 by omega]
              show AP9_ T U3 c (fa9_ (T 100 c 5) u d (hm9_ (T 100 c 5 + an_ (T 100 c 5) 1 - 1) q w (k.toNat : Int)) (aw9_ (T 100 c 5 + an_ (T 100 c 5) 1 - 1) q w (k.toNat : Int)) (rl9_ (T 100 c 5) (T 100 c 5 + an_ (T 100 c 5) 1 - 1) q w u d k.toNat []))
              rw [show ((k.toNat : Nat) : Int) = k by omega, eh.1, eh.2]
              exact ap9_f (T1 := T1) ap1 (by omega) (by omega) (hf_58 100 c 5 rfl) (fun j => hf_58 403 c j rfl) qU3
          · exfalso; omega
        · refine hK 128 [some (vR 106 0), some (vR 100 c), some (vI u), some (vI q), some (vI w), some (vI d), some (vI (T 100 c 5 + an_ (T 100 c 5) 1 - 1)), none, some (vI k), some (vI ((q + k) % (T 100 c 5 + an_ (T 100 c 5) 1 - 1))), some (vI (((q - k) + (T 100 c 5 + an_ (T 100 c 5) 1 - 1)) % (T 100 c 5 + an_ (T 100 c 5) 1 - 1))), some (vI v)] [vI ((q + k) % (T 100 c 5 + an_ (T 100 c 5) 1 - 1)), vI u, vR 100 c, vR 106 0] T1 ?_
          refine j_blx (F := fX6) tb_X6 (by decide) bk_X6_addRound_e_128 bs_X6_addRound_e_128 hz (fun K hK => ?_)
          refine And.intro (fun c5 => ?_) (fun c5 => ?_)
          · exfalso; omega
          · refine hK 140 [some (vR 106 0), some (vR 100 c), some (vI u), some (vI q), some (vI w), some (vI d), some (vI (T 100 c 5 + an_ (T 100 c 5) 1 - 1)), none, some (vI k), some (vI ((q + k) % (T 100 c 5 + an_ (T 100 c 5) 1 - 1))), some (vI (((q - k) + (T 100 c 5 + an_ (T 100 c 5) 1 - 1)) % (T 100 c 5 + an_ (T 100 c 5) 1 - 1))), some (vI v)] [vI (((q - k) + (T 100 c 5 + an_ (T 100 c 5) 1 - 1)) % (T 100 c 5 + an_ (T 100 c 5) 1 - 1)), vI ((q + k) % (T 100 c 5 + an_ (T 100 c 5) 1 - 1)), vI u, vR 100 c, vR 106 0] T1 ?_
            refine j_blx (F := fX6) tb_X6 (by decide) bk_X6_addRound_e_140 bs_X6_addRound_e_140 hz (fun K hK => ?_)
            refine hK 142 [some (vR 106 0), some (vR 100 c), some (vI u), some (vI q), some (vI w), some (vI d), some (vI (T 100 c 5 + an_ (T 100 c 5) 1 - 1)), none, some (vI k), some (vI ((q + k) % (T 100 c 5 + an_ (T 100 c 5) 1 - 1))), some (vI (((q - k) + (T 100 c 5 + an_ (T 100 c 5) 1 - 1)) % (T 100 c 5 + an_ (T 100 c 5) 1 - 1))), some (vI v)] [vI d, vI (((q - k) + (T 100 c 5 + an_ (T 100 c 5) 1 - 1)) % (T 100 c 5 + an_ (T 100 c 5) 1 - 1)), vI ((q + k) % (T 100 c 5 + an_ (T 100 c 5) 1 - 1)), vI u, vR 100 c, vR 106 0] T1 ?_
            refine j_callV (y := yX6_addFixture) (Yc := zX6_addFixture) (rest := []) [vR 100 c, vI u, vI ((q + k) % (T 100 c 5 + an_ (T 100 c 5) 1 - 1)), vI (((q - k) + (T 100 c 5 + an_ (T 100 c 5) 1 - 1)) % (T 100 c 5 + an_ (T 100 c 5) 1 - 1)), vI d] (ct_X6_addFixture_e (T := T1) hc (by omega) (hrb1.2.2.2.2)) cl_X6_75 (qd_c (by decide +kernel)) (by decide) rfl (by decide +kernel) (Nat.le_of_ble_eq_true rfl) (by show 3 ≤ (3 * ((T 100 c 5 + an_ (T 100 c 5) 1 - 1) / 2 + 1 - k)).toNat; omega) (by show 34 ≤ (34 * ((T 100 c 5 + an_ (T 100 c 5) 1 - 1) / 2 + 1 - k)).toNat; omega) rfl ?_
            rintro U6 _ ⟨rfl, fU6, qU6⟩
            show J_ zX6_addRound T (po_X6_addRound_e T c f u q w d) (((3 * ((T 100 c 5 + an_ (T 100 c 5) 1 - 1) / 2 + 1 - k)).toNat) - 3) (((34 * ((T 100 c 5 + an_ (T 100 c 5) 1 - 1) / 2 + 1 - k)).toNat) - 34) 145 [some (vR 106 0), some (vR 100 c), some (vI u), some (vI q), some (vI w), some (vI d), some (vI (T 100 c 5 + an_ (T 100 c 5) 1 - 1)), none, some (vI k), some (vI ((q + k) % (T 100 c 5 + an_ (T 100 c 5) 1 - 1))), some (vI (((q - k) + (T 100 c 5 + an_ (T 100 c 5) 1 - 1)) % (T 100 c 5 + an_ (T 100 c 5) 1 - 1))), some (vI v)] [] U6
            refine j_blx (F := fX6) tb_X6 (by decide) bk_X6_addRound_e_145 bs_X6_addRound_e_145 hz (fun K hK => ?_)
            refine rg_i (by omega) ?_
            refine hK 58 [some (vR 106 0), some (vR 100 c), some (vI u), some (vI q), some (vI w), some (vI d), some (vI (T 100 c 5 + an_ (T 100 c 5) 1 - 1)), none, some (vI (k + 1)), some (vI ((q + k) % (T 100 c 5 + an_ (T 100 c 5) 1 - 1))), some (vI (((q - k) + (T 100 c 5 + an_ (T 100 c 5) 1 - 1)) % (T 100 c 5 + an_ (T 100 c 5) 1 - 1))), some (vI v)] [] U6 ?_
            refine j_drop [some (vR 106 0), some (vR 100 c), some (vI u), some (vI q), some (vI w), some (vI d), some (vI (T 100 c 5 + an_ (T 100 c 5) 1 - 1)), none, some (vI (k + 1)), none, none, none] (fun k v hk => ?_) rfl ?_
            · match k, hk with
              | 0, hk => exact hk
              | 1, hk => exact hk
              | 2, hk => exact hk
              | 3, hk => exact hk
              | 4, hk => exact hk
              | 5, hk => exact hk
              | 6, hk => exact hk
              | 7, hk => cases hk
              | 8, hk => exact hk
              | 9, hk => cases hk
              | 10, hk => cases hk
              | 11, hk => cases hk
              | k + 12, hk => cases hk
            refine j_mono (bc' := ((3 * ((T 100 c 5 + an_ (T 100 c 5) 1 - 1) / 2 + 1 - (k + 1))).toNat)) (bs' := ((34 * ((T 100 c 5 + an_ (T 100 c 5) 1 - 1) / 2 + 1 - (k + 1))).toNat)) (by omega) (by omega) ?_
            refine ih_58 _ ?_ (k + 1) U6 (Nat.le_refl _) ?_ ?_ ?_ ?_ ?_ ?_
            · omega
            · exact fr_t (fr_t (fr_0 _ _) (fr_s hf_58 rfl)) (fr_s fU6 rfl)
            · exact (rb_add hrb1 (KEc_f hke hf_58 ⟨rfl, fun _ => rfl, fun _ => rfl⟩) (by omega) (lv_a hr (by omega)) fU6 (qU6.imp id And.left)).1
            · have y9 := rb_add hrb1 (KEc_f hke hf_58 ⟨rfl, fun _ => rfl, fun _ => rfl⟩) (by omega) (lv_a hr (by omega)) fU6 (qU6.imp id And.left)
              exact ⟨fun i j hi => (y9.2.1 i j hi).trans (od1.1 i j hi), by have := y9.2.2; have := od1.2; omega⟩
            · omega
            · exact fun i j hi => (fx9_o qU6 i j (by have := od1.2; omega)).trans (oe1 i j hi)
            · have eh := hm9_a (L := (T 100 c 5 + an_ (T 100 c 5) 1 - 1)) (r := q) (u := w) (i := k) (by rw [pq9_i (by omega)]; omega)
              rw [pa9_i (by omega), pb9_i (by omega)] at eh
              rw [show (k + 1).toNat = k.toNat + 1 by omega]
              show AP9_ T U6 c (fa9_ (T 100 c 5) u d (hm9_ (T 100 c 5 + an_ (T 100 c 5) 1 - 1) q w (k.toNat : Int)) (aw9_ (T 100 c 5 + an_ (T 100 c 5) 1 - 1) q w (k.toNat : Int)) (rl9_ (T 100 c 5) (T 100 c 5 + an_ (T 100 c 5) 1 - 1) q w u d k.toNat []))
              rw [show ((k.toNat : Nat) : Int) = k by omega, eh.1, eh.2]
              exact ap9_f (T1 := T1) ap1 (by omega) (by omega) (hf_58 100 c 5 rfl) (fun j => hf_58 403 c j rfl) qU6
      refine j_blx (F := fX6) tb_X6 (by decide) bk_X6_addRound_e_58 bs_X6_addRound_e_58 hz (fun K hK => ?_)
      refine dv_i (by omega) ?_
      refine And.intro (fun c8 => ?_) (fun c8 => ?_)
      · refine hK 151 [some (vR 106 0), some (vR 100 c), some (vI u), some (vI q), some (vI w), some (vI d), some (vI (T 100 c 5 + an_ (T 100 c 5) 1 - 1)), none, some (vI k), none, none, none] [] T1 ?_
        refine j_blx (F := fX6) tb_X6 (by decide) bk_X6_addRound_e_151 bs_X6_addRound_e_151 hz (fun K hK => ?_)
        refine (show po_X6_addRound_e T c f u q w d T1 (none) from ?_)
        have ek : k = (T 100 c 5 + an_ (T 100 c 5) 1 - 1) / 2 + 1 := by omega
        rw [ek] at ap1
        exact ⟨rfl, hf_58, rb_mono hrb1 (by omega), od1.1, od1.2, oe1, ap1⟩
      · refine rg_i (by omega) ?_
        refine dv_i (by omega) ?_
        refine rg_i (by omega) ?_
        refine rg_i (by omega) ?_
        refine dv_i (by omega) ?_
        intro w9 w9b
        refine And.intro (fun c10 => ?_) (fun c10 => ?_)
        · refine hK 100 [some (vR 106 0), some (vR 100 c), some (vI u), some (vI q), some (vI w), some (vI d), some (vI (T 100 c 5 + an_ (T 100 c 5) 1 - 1)), none, some (vI k), some (vI ((q + k) % (T 100 c 5 + an_ (T 100 c 5) 1 - 1))), some (vI (((q - k) + (T 100 c 5 + an_ (T 100 c 5) 1 - 1)) % (T 100 c 5 + an_ (T 100 c 5) 1 - 1))), none] [] T1 ?_
          refine j_blx (F := fX6) tb_X6 (by decide) bk_X6_addRound_e_100 bs_X6_addRound_e_100 hz (fun K hK => ?_)
          refine And.intro (fun c11 => ?_) (fun c11 => ?_)
          · refine hK 110 [some (vR 106 0), some (vR 100 c), some (vI u), some (vI q), some (vI w), some (vI d), some (vI (T 100 c 5 + an_ (T 100 c 5) 1 - 1)), none, some (vI k), some (vI ((q + k) % (T 100 c 5 + an_ (T 100 c 5) 1 - 1))), some (vI (((q - k) + (T 100 c 5 + an_ (T 100 c 5) 1 - 1)) % (T 100 c 5 + an_ (T 100 c 5) 1 - 1))), none] [] T1 ?_
            refine j_blx (F := fX6) tb_X6 (by decide) bk_X6_addRound_e_110 bs_X6_addRound_e_110 hz (fun K hK => ?_)
            refine hK 111 [some (vR 106 0), some (vR 100 c), some (vI u), some (vI q), some (vI w), some (vI d), some (vI (T 100 c 5 + an_ (T 100 c 5) 1 - 1)), none, some (vI k), some (vI ((q + k) % (T 100 c 5 + an_ (T 100 c 5) 1 - 1))), some (vI (((q - k) + (T 100 c 5 + an_ (T 100 c 5) 1 - 1)) % (T 100 c 5 + an_ (T 100 c 5) 1 - 1))), none] [vI 0] T1 ?_
            refine c_111 0 ?_ ?_
            · omega
            · omega
          · refine hK 111 [some (vR 106 0), some (vR 100 c), some (vI u), some (vI q), some (vI w), some (vI d), some (vI (T 100 c 5 + an_ (T 100 c 5) 1 - 1)), none, some (vI k), some (vI ((q + k) % (T 100 c 5 + an_ (T 100 c 5) 1 - 1))), some (vI (((q - k) + (T 100 c 5 + an_ (T 100 c 5) 1 - 1)) % (T 100 c 5 + an_ (T 100 c 5) 1 - 1))), none] [vI 1] T1 ?_
            refine c_111 1 ?_ ?_
            · omega
            · omega
        · refine hK 101 [some (vR 106 0), some (vR 100 c), some (vI u), some (vI q), some (vI w), some (vI d), some (vI (T 100 c 5 + an_ (T 100 c 5) 1 - 1)), none, some (vI k), some (vI ((q + k) % (T 100 c 5 + an_ (T 100 c 5) 1 - 1))), some (vI (((q - k) + (T 100 c 5 + an_ (T 100 c 5) 1 - 1)) % (T 100 c 5 + an_ (T 100 c 5) 1 - 1))), none] [vI 1] T1 ?_
          refine j_blx (F := fX6) tb_X6 (by decide) bk_X6_addRound_e_101 bs_X6_addRound_e_101 hz (fun K hK => ?_)
          refine And.intro (fun c12 => ?_) (fun c12 => ?_)
          · refine hK 110 [some (vR 106 0), some (vR 100 c), some (vI u), some (vI q), some (vI w), some (vI d), some (vI (T 100 c 5 + an_ (T 100 c 5) 1 - 1)), none, some (vI k), some (vI ((q + k) % (T 100 c 5 + an_ (T 100 c 5) 1 - 1))), some (vI (((q - k) + (T 100 c 5 + an_ (T 100 c 5) 1 - 1)) % (T 100 c 5 + an_ (T 100 c 5) 1 - 1))), none] [] T1 ?_
            refine j_blx (F := fX6) tb_X6 (by decide) bk_X6_addRound_e_110 bs_X6_addRound_e_110 hz (fun K hK => ?_)
            refine hK 111 [some (vR 106 0), some (vR 100 c), some (vI u), some (vI q), some (vI w), some (vI d), some (vI (T 100 c 5 + an_ (T 100 c 5) 1 - 1)), none, some (vI k), some (vI ((q + k) % (T 100 c 5 + an_ (T 100 c 5) 1 - 1))), some (vI (((q - k) + (T 100 c 5 + an_ (T 100 c 5) 1 - 1)) % (T 100 c 5 + an_ (T 100 c 5) 1 - 1))), none] [vI 0] T1 ?_
            refine c_111 0 ?_ ?_
            · omega
            · omega
          · refine hK 111 [some (vR 106 0), some (vR 100 c), some (vI u), some (vI q), some (vI w), some (vI d), some (vI (T 100 c 5 + an_ (T 100 c 5) 1 - 1)), none, some (vI k), some (vI ((q + k) % (T 100 c 5 + an_ (T 100 c 5) 1 - 1))), some (vI (((q - k) + (T 100 c 5 + an_ (T 100 c 5) 1 - 1)) % (T 100 c 5 + an_ (T 100 c 5) 1 - 1))), none] [vI 1] T1 ?_
            refine c_111 1 ?_ ?_
            · omega
            · omega
  refine j_blx (F := fX6) tb_X6 (by decide) bk_X6_addRound_e_0 bs_X6_addRound_e_0 hz (fun K hK => ?_)
  refine hK 1 [some (vR 106 0), some (vR 100 c), some (vI u), some (vI q), some (vI w), some (vI d), none, none, none, none, none, none] [vR 100 c] T ?_
  refine j_callV (y := yX0_placeCount) (Yc := zX0_placeCount) (rest := []) [] (ct_X0_placeCount (T := T)) cl_X6_63 (qd_c (by decide +kernel)) (by decide) rfl (by decide +kernel) (Nat.le_of_ble_eq_true rfl) (by decide) (by decide) rfl ?_
  rintro _ _ ⟨rfl, rfl⟩
  show J_ zX6_addRound T (po_X6_addRound_e T c f u q w d) 18 204 4 [some (vR 106 0), some (vR 100 c), some (vI u), some (vI q), some (vI w), some (vI d), none, none, none, none, none, none] [vI (T 100 c 5 + an_ (T 100 c 5) 1)] T
  refine j_blx (F := fX6) tb_X6 (by decide) bk_X6_addRound_e_4 bs_X6_addRound_e_4 hz (fun K hK => ?_)
  refine rg_i (by omega) ?_
  intro w13 w13b
  refine And.intro (fun c14 => ?_) (fun c14 => ?_)
  · refine hK 18 [some (vR 106 0), some (vR 100 c), some (vI u), some (vI q), some (vI w), some (vI d), some (vI ((T 100 c 5 + an_ (T 100 c 5) 1) - 1)), none, none, none, none, none] [] T ?_
    refine j_blx (F := fX6) tb_X6 (by decide) bk_X6_addRound_e_18 bs_X6_addRound_e_18 hz (fun K hK => ?_)
    refine And.intro (fun c15 => ?_) (fun c15 => ?_)
    · refine hK 35 [some (vR 106 0), some (vR 100 c), some (vI u), some (vI q), some (vI w), some (vI d), some (vI ((T 100 c 5 + an_ (T 100 c 5) 1) - 1)), some (vI 0), none, none, none, none] [vI u, vR 100 c, vR 106 0] T ?_
      refine j_blx (F := fX6) tb_X6 (by decide) bk_X6_addRound_e_35 bs_X6_addRound_e_35 hz (fun K hK => ?_)
      refine And.intro (fun c16 => ?_) (fun c16 => ?_)
      · refine hK 49 [some (vR 106 0), some (vR 100 c), some (vI u), some (vI q), some (vI w), some (vI d), some (vI ((T 100 c 5 + an_ (T 100 c 5) 1) - 1)), some (vI 0), none, none, none, none] [vI ((T 100 c 5 + an_ (T 100 c 5) 1) - 1), vI u, vR 100 c, vR 106 0] T ?_
        refine j_blx (F := fX6) tb_X6 (by decide) bk_X6_addRound_e_49 bs_X6_addRound_e_49 hz (fun K hK => ?_)
        refine hK 52 [some (vR 106 0), some (vR 100 c), some (vI u), some (vI q), some (vI w), some (vI d), some (vI ((T 100 c 5 + an_ (T 100 c 5) 1) - 1)), some (vI 0), none, none, none, none] [vI d, vI q, vI ((T 100 c 5 + an_ (T 100 c 5) 1) - 1), vI u, vR 100 c, vR 106 0] T ?_
        refine j_callV (y := yX6_addFixture) (Yc := zX6_addFixture) (rest := []) [vR 100 c, vI u, vI ((T 100 c 5 + an_ (T 100 c 5) 1) - 1), vI q, vI d] (ct_X6_addFixture_e (T := T) hc (by omega) (hrb.2.2.2.2)) cl_X6_75 (qd_c (by decide +kernel)) (by decide) rfl (by decide +kernel) (Nat.le_of_ble_eq_true rfl) (by decide) (by decide) rfl ?_
        rintro U17 _ ⟨rfl, fU17, qU17⟩
        show J_ zX6_addRound T (po_X6_addRound_e T c f u q w d) 15 170 55 [some (vR 106 0), some (vR 100 c), some (vI u), some (vI q), some (vI w), some (vI d), some (vI ((T 100 c 5 + an_ (T 100 c 5) 1) - 1)), some (vI 0), none, none, none, none] [] U17
        refine j_blx (F := fX6) tb_X6 (by decide) bk_X6_addRound_e_55 bs_X6_addRound_e_55 hz (fun K hK => ?_)
        refine hK 58 [some (vR 106 0), some (vR 100 c), some (vI u), some (vI q), some (vI w), some (vI d), some (vI ((T 100 c 5 + an_ (T 100 c 5) 1) - 1)), some (vI 0), some (vI 1), none, none, none] [] U17 ?_
        refine j_drop [some (vR 106 0), some (vR 100 c), some (vI u), some (vI q), some (vI w), some (vI d), some (vI ((T 100 c 5 + an_ (T 100 c 5) 1) - 1)), none, some (vI 1), none, none, none] (fun k v hk => ?_) rfl ?_
        · match k, hk with
          | 0, hk => exact hk
          | 1, hk => exact hk
          | 2, hk => exact hk
          | 3, hk => exact hk
          | 4, hk => exact hk
          | 5, hk => exact hk
          | 6, hk => exact hk
          | 7, hk => cases hk
          | 8, hk => exact hk
          | 9, hk => cases hk
          | 10, hk => cases hk
          | 11, hk => cases hk
          | k + 12, hk => cases hk
        refine j_mono (bc' := ((3 * ((T 100 c 5 + an_ (T 100 c 5) 1 - 1) / 2 + 1 - 1)).toNat)) (bs' := ((34 * ((T 100 c 5 + an_ (T 100 c 5) 1 - 1) / 2 + 1 - 1)).toNat)) (by omega) (by omega) ?_
        refine c_58 _ 1 U17 (Nat.le_refl _) ?_ ?_ ?_ ?_ ?_ ?_
        · exact fr_t (fr_0 _ _) (fr_s fU17 rfl)
        · exact (rb_add hrb hke (by omega) (lv_R _ _) fU17 (qU17.imp id And.left)).1
        · exact (rb_add hrb hke (by omega) (lv_R _ _) fU17 (qU17.imp id And.left)).2
        · omega
        · exact fun i j hi => fx9_o qU17 i j hi
        · have eh := hm9_a (L := (T 100 c 5 + an_ (T 100 c 5) 1 - 1)) (r := q) (u := w) (i := 0) (by rw [pq9_0]; omega)
          rw [pa9_0, pb9_0] at eh
          show AP9_ T U17 c (fa9_ (T 100 c 5) u d (hm9_ (T 100 c 5 + an_ (T 100 c 5) 1 - 1) q w 0) (aw9_ (T 100 c 5 + an_ (T 100 c 5) 1 - 1) q w 0) [])
          rw [eh.1, eh.2]
          exact ap9_f (T1 := T) (ap9_0 rfl) (by omega) (by omega) rfl (fun j => rfl) qU17
      · exfalso; omega
    · refine hK 37 [some (vR 106 0), some (vR 100 c), some (vI u), some (vI q), some (vI w), some (vI d), some (vI ((T 100 c 5 + an_ (T 100 c 5) 1) - 1)), some (vI 0), none, none, none, none] [vI q, vI u, vR 100 c, vR 106 0] T ?_
      refine j_blx (F := fX6) tb_X6 (by decide) bk_X6_addRound_e_37 bs_X6_addRound_e_37 hz (fun K hK => ?_)
      refine And.intro (fun c19 => ?_) (fun c19 => ?_)
      · exfalso; omega
      · refine hK 50 [some (vR 106 0), some (vR 100 c), some (vI u), some (vI q), some (vI w), some (vI d), some (vI ((T 100 c 5 + an_ (T 100 c 5) 1) - 1)), some (vI 0), none, none, none, none] [vI ((T 100 c 5 + an_ (T 100 c 5) 1) - 1), vI q, vI u, vR 100 c, vR 106 0] T ?_
        refine j_blx (F := fX6) tb_X6 (by decide) bk_X6_addRound_e_50 bs_X6_addRound_e_50 hz (fun K hK => ?_)
        refine hK 52 [some (vR 106 0), some (vR 100 c), some (vI u), some (vI q), some (vI w), some (vI d), some (vI ((T 100 c 5 + an_ (T 100 c 5) 1) - 1)), some (vI 0), none, none, none, none] [vI d, vI ((T 100 c 5 + an_ (T 100 c 5) 1) - 1), vI q, vI u, vR 100 c, vR 106 0] T ?_
        refine j_callV (y := yX6_addFixture) (Yc := zX6_addFixture) (rest := []) [vR 100 c, vI u, vI q, vI ((T 100 c 5 + an_ (T 100 c 5) 1) - 1), vI d] (ct_X6_addFixture_e (T := T) hc (by omega) (hrb.2.2.2.2)) cl_X6_75 (qd_c (by decide +kernel)) (by decide) rfl (by decide +kernel) (Nat.le_of_ble_eq_true rfl) (by decide) (by decide) rfl ?_
        rintro U20 _ ⟨rfl, fU20, qU20⟩
        show J_ zX6_addRound T (po_X6_addRound_e T c f u q w d) 15 170 55 [some (vR 106 0), some (vR 100 c), some (vI u), some (vI q), some (vI w), some (vI d), some (vI ((T 100 c 5 + an_ (T 100 c 5) 1) - 1)), some (vI 0), none, none, none, none] [] U20
        refine j_blx (F := fX6) tb_X6 (by decide) bk_X6_addRound_e_55 bs_X6_addRound_e_55 hz (fun K hK => ?_)
        refine hK 58 [some (vR 106 0), some (vR 100 c), some (vI u), some (vI q), some (vI w), some (vI d), some (vI ((T 100 c 5 + an_ (T 100 c 5) 1) - 1)), some (vI 0), some (vI 1), none, none, none] [] U20 ?_
        refine j_drop [some (vR 106 0), some (vR 100 c), some (vI u), some (vI q), some (vI w), some (vI d), some (vI ((T 100 c 5 + an_ (T 100 c 5) 1) - 1)), none, some (vI 1), none, none, none] (fun k v hk => ?_) rfl ?_
        · match k, hk with
          | 0, hk => exact hk
          | 1, hk => exact hk
          | 2, hk => exact hk
          | 3, hk => exact hk
          | 4, hk => exact hk
          | 5, hk => exact hk
          | 6, hk => exact hk
          | 7, hk => cases hk
          | 8, hk => exact hk
          | 9, hk => cases hk
          | 10, hk => cases hk
          | 11, hk => cases hk
          | k + 12, hk => cases hk
        refine j_mono (bc' := ((3 * ((T 100 c 5 + an_ (T 100 c 5) 1 - 1) / 2 + 1 - 1)).toNat)) (bs' := ((34 * ((T 100 c 5 + an_ (T 100 c 5) 1 - 1) / 2 + 1 - 1)).toNat)) (by omega) (by omega) ?_
        refine c_58 _ 1 U20 (Nat.le_refl _) ?_ ?_ ?_ ?_ ?_ ?_
        · exact fr_t (fr_0 _ _) (fr_s fU20 rfl)
        · exact (rb_add hrb hke (by omega) (lv_r hr) fU20 (qU20.imp id And.left)).1
        · exact (rb_add hrb hke (by omega) (lv_r hr) fU20 (qU20.imp id And.left)).2
        · omega
        · exact fun i j hi => fx9_o qU20 i j hi
        · have eh := hm9_b (L := (T 100 c 5 + an_ (T 100 c 5) 1 - 1)) (r := q) (u := w) (i := 0) (by rw [pq9_0]; omega)
          rw [pa9_0, pb9_0] at eh
          show AP9_ T U20 c (fa9_ (T 100 c 5) u d (hm9_ (T 100 c 5 + an_ (T 100 c 5) 1 - 1) q w 0) (aw9_ (T 100 c 5 + an_ (T 100 c 5) 1 - 1) q w 0) [])
          rw [eh.1, eh.2]
          exact ap9_f (T1 := T) (ap9_0 rfl) (by omega) (by omega) rfl (fun j => rfl) qU20
  · refine hK 19 [some (vR 106 0), some (vR 100 c), some (vI u), some (vI q), some (vI w), some (vI d), some (vI ((T 100 c 5 + an_ (T 100 c 5) 1) - 1)), none, none, none, none, none] [vI 1] T ?_
    refine j_blx (F := fX6) tb_X6 (by decide) bk_X6_addRound_e_19 bs_X6_addRound_e_19 hz (fun K hK => ?_)
    refine And.intro (fun c22 => ?_) (fun c22 => ?_)
    · refine hK 35 [some (vR 106 0), some (vR 100 c), some (vI u), some (vI q), some (vI w), some (vI d), some (vI ((T 100 c 5 + an_ (T 100 c 5) 1) - 1)), some (vI 1), none, none, none, none] [vI u, vR 100 c, vR 106 0] T ?_
      refine j_blx (F := fX6) tb_X6 (by decide) bk_X6_addRound_e_35 bs_X6_addRound_e_35 hz (fun K hK => ?_)
      refine And.intro (fun c23 => ?_) (fun c23 => ?_)
      · refine hK 49 [some (vR 106 0), some (vR 100 c), some (vI u), some (vI q), some (vI w), some (vI d), some (vI ((T 100 c 5 + an_ (T 100 c 5) 1) - 1)), some (vI 1), none, none, none, none] [vI ((T 100 c 5 + an_ (T 100 c 5) 1) - 1), vI u, vR 100 c, vR 106 0] T ?_
        refine j_blx (F := fX6) tb_X6 (by decide) bk_X6_addRound_e_49 bs_X6_addRound_e_49 hz (fun K hK => ?_)
        refine hK 52 [some (vR 106 0), some (vR 100 c), some (vI u), some (vI q), some (vI w), some (vI d), some (vI ((T 100 c 5 + an_ (T 100 c 5) 1) - 1)), some (vI 1), none, none, none, none] [vI d, vI q, vI ((T 100 c 5 + an_ (T 100 c 5) 1) - 1), vI u, vR 100 c, vR 106 0] T ?_
        refine j_callV (y := yX6_addFixture) (Yc := zX6_addFixture) (rest := []) [vR 100 c, vI u, vI ((T 100 c 5 + an_ (T 100 c 5) 1) - 1), vI q, vI d] (ct_X6_addFixture_e (T := T) hc (by omega) (hrb.2.2.2.2)) cl_X6_75 (qd_c (by decide +kernel)) (by decide) rfl (by decide +kernel) (Nat.le_of_ble_eq_true rfl) (by decide) (by decide) rfl ?_
        rintro U24 _ ⟨rfl, fU24, qU24⟩
        show J_ zX6_addRound T (po_X6_addRound_e T c f u q w d) 15 170 55 [some (vR 106 0), some (vR 100 c), some (vI u), some (vI q), some (vI w), some (vI d), some (vI ((T 100 c 5 + an_ (T 100 c 5) 1) - 1)), some (vI 1), none, none, none, none] [] U24
        refine j_blx (F := fX6) tb_X6 (by decide) bk_X6_addRound_e_55 bs_X6_addRound_e_55 hz (fun K hK => ?_)
        refine hK 58 [some (vR 106 0), some (vR 100 c), some (vI u), some (vI q), some (vI w), some (vI d), some (vI ((T 100 c 5 + an_ (T 100 c 5) 1) - 1)), some (vI 1), some (vI 1), none, none, none] [] U24 ?_
        refine j_drop [some (vR 106 0), some (vR 100 c), some (vI u), some (vI q), some (vI w), some (vI d), some (vI ((T 100 c 5 + an_ (T 100 c 5) 1) - 1)), none, some (vI 1), none, none, none] (fun k v hk => ?_) rfl ?_
        · match k, hk with
          | 0, hk => exact hk
          | 1, hk => exact hk
          | 2, hk => exact hk
          | 3, hk => exact hk
          | 4, hk => exact hk
          | 5, hk => exact hk
          | 6, hk => exact hk
          | 7, hk => cases hk
          | 8, hk => exact hk
          | 9, hk => cases hk
          | 10, hk => cases hk
          | 11, hk => cases hk
          | k + 12, hk => cases hk
        refine j_mono (bc' := ((3 * ((T 100 c 5 + an_ (T 100 c 5) 1 - 1) / 2 + 1 - 1)).toNat)) (bs' := ((34 * ((T 100 c 5 + an_ (T 100 c 5) 1 - 1) / 2 + 1 - 1)).toNat)) (by omega) (by omega) ?_
        refine c_58 _ 1 U24 (Nat.le_refl _) ?_ ?_ ?_ ?_ ?_ ?_
        · exact fr_t (fr_0 _ _) (fr_s fU24 rfl)
        · exact (rb_add hrb hke (by omega) (lv_R _ _) fU24 (qU24.imp id And.left)).1
        · exact (rb_add hrb hke (by omega) (lv_R _ _) fU24 (qU24.imp id And.left)).2
        · omega
        · exact fun i j hi => fx9_o qU24 i j hi
        · have eh := hm9_a (L := (T 100 c 5 + an_ (T 100 c 5) 1 - 1)) (r := q) (u := w) (i := 0) (by rw [pq9_0]; omega)
          rw [pa9_0, pb9_0] at eh
          show AP9_ T U24 c (fa9_ (T 100 c 5) u d (hm9_ (T 100 c 5 + an_ (T 100 c 5) 1 - 1) q w 0) (aw9_ (T 100 c 5 + an_ (T 100 c 5) 1 - 1) q w 0) [])
          rw [eh.1, eh.2]
          exact ap9_f (T1 := T) (ap9_0 rfl) (by omega) (by omega) rfl (fun j => rfl) qU24
      · exfalso; omega
    · refine hK 37 [some (vR 106 0), some (vR 100 c), some (vI u), some (vI q), some (vI w), some (vI d), some (vI ((T 100 c 5 + an_ (T 100 c 5) 1) - 1)), some (vI 1), none, none, none, none] [vI q, vI u, vR 100 c, vR 106 0] T ?_
      refine j_blx (F := fX6) tb_X6 (by decide) bk_X6_addRound_e_37 bs_X6_addRound_e_37 hz (fun K hK => ?_)
      refine And.intro (fun c26 => ?_) (fun c26 => ?_)
      · exfalso; omega
      · refine hK 50 [some (vR 106 0), some (vR 100 c), some (vI u), some (vI q), some (vI w), some (vI d), some (vI ((T 100 c 5 + an_ (T 100 c 5) 1) - 1)), some (vI 1), none, none, none, none] [vI ((T 100 c 5 + an_ (T 100 c 5) 1) - 1), vI q, vI u, vR 100 c, vR 106 0] T ?_
        refine j_blx (F := fX6) tb_X6 (by decide) bk_X6_addRound_e_50 bs_X6_addRound_e_50 hz (fun K hK => ?_)
        refine hK 52 [some (vR 106 0), some (vR 100 c), some (vI u), some (vI q), some (vI w), some (vI d), some (vI ((T 100 c 5 + an_ (T 100 c 5) 1) - 1)), some (vI 1), none, none, none, none] [vI d, vI ((T 100 c 5 + an_ (T 100 c 5) 1) - 1), vI q, vI u, vR 100 c, vR 106 0] T ?_
        refine j_callV (y := yX6_addFixture) (Yc := zX6_addFixture) (rest := []) [vR 100 c, vI u, vI q, vI ((T 100 c 5 + an_ (T 100 c 5) 1) - 1), vI d] (ct_X6_addFixture_e (T := T) hc (by omega) (hrb.2.2.2.2)) cl_X6_75 (qd_c (by decide +kernel)) (by decide) rfl (by decide +kernel) (Nat.le_of_ble_eq_true rfl) (by decide) (by decide) rfl ?_
        rintro U27 _ ⟨rfl, fU27, qU27⟩
        show J_ zX6_addRound T (po_X6_addRound_e T c f u q w d) 15 170 55 [some (vR 106 0), some (vR 100 c), some (vI u), some (vI q), some (vI w), some (vI d), some (vI ((T 100 c 5 + an_ (T 100 c 5) 1) - 1)), some (vI 1), none, none, none, none] [] U27
        refine j_blx (F := fX6) tb_X6 (by decide) bk_X6_addRound_e_55 bs_X6_addRound_e_55 hz (fun K hK => ?_)
        refine hK 58 [some (vR 106 0), some (vR 100 c), some (vI u), some (vI q), some (vI w), some (vI d), some (vI ((T 100 c 5 + an_ (T 100 c 5) 1) - 1)), some (vI 1), some (vI 1), none, none, none] [] U27 ?_
        refine j_drop [some (vR 106 0), some (vR 100 c), some (vI u), some (vI q), some (vI w), some (vI d), some (vI ((T 100 c 5 + an_ (T 100 c 5) 1) - 1)), none, some (vI 1), none, none, none] (fun k v hk => ?_) rfl ?_
        · match k, hk with
          | 0, hk => exact hk
          | 1, hk => exact hk
          | 2, hk => exact hk
          | 3, hk => exact hk
          | 4, hk => exact hk
          | 5, hk => exact hk
          | 6, hk => exact hk
          | 7, hk => cases hk
          | 8, hk => exact hk
          | 9, hk => cases hk
          | 10, hk => cases hk
          | 11, hk => cases hk
          | k + 12, hk => cases hk
        refine j_mono (bc' := ((3 * ((T 100 c 5 + an_ (T 100 c 5) 1 - 1) / 2 + 1 - 1)).toNat)) (bs' := ((34 * ((T 100 c 5 + an_ (T 100 c 5) 1 - 1) / 2 + 1 - 1)).toNat)) (by omega) (by omega) ?_
        refine c_58 _ 1 U27 (Nat.le_refl _) ?_ ?_ ?_ ?_ ?_ ?_
        · exact fr_t (fr_0 _ _) (fr_s fU27 rfl)
        · exact (rb_add hrb hke (by omega) (lv_r hr) fU27 (qU27.imp id And.left)).1
        · exact (rb_add hrb hke (by omega) (lv_r hr) fU27 (qU27.imp id And.left)).2
        · omega
        · exact fun i j hi => fx9_o qU27 i j hi
        · have eh := hm9_b (L := (T 100 c 5 + an_ (T 100 c 5) 1 - 1)) (r := q) (u := w) (i := 0) (by rw [pq9_0]; omega)
          rw [pa9_0, pb9_0] at eh
          show AP9_ T U27 c (fa9_ (T 100 c 5) u d (hm9_ (T 100 c 5 + an_ (T 100 c 5) 1 - 1) q w 0) (aw9_ (T 100 c 5 + an_ (T 100 c 5) 1 - 1) q w 0) [])
          rw [eh.1, eh.2]
          exact ap9_f (T1 := T) (ap9_0 rfl) (by omega) (by omega) rfl (fun j => rfl) qU27

