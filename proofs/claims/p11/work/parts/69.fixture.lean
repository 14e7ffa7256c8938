def nm_ (T T' : Zt) (c h a d : Int) : Prop := (T' 106 0 4 = T 106 0 4 + 1 ∧ T 106 0 4 < 400 ∧ h < T 100 c 5 ∧ a < T 100 c 5) ∧ (∀ k i j, k = 102 ∨ k = 152 → i ≠ T 106 0 4 → T' k i j = T k i j) ∧ (∀ j, j ≠ T 106 0 4 → T' 523 0 j = T 523 0 j) ∧ T' 523 0 (T 106 0 4) = 1 ∧ (T' 102 (T 106 0 4) 0 = c ∧ T' 102 (T 106 0 4) 1 = T 106 0 4 ∧ T' 102 (T 106 0 4) 3 = T 403 c h ∧ T' 102 (T 106 0 4) 4 = T 403 c a ∧ T' 102 (T 106 0 4) 5 = d ∧ T' 102 (T 106 0 4) 10 = 0) ∧ NA_ T'
abbrev cX6_addFixture : ByteArray := prog_8_method_4_code
def yX6_addFixture : MethodName := ⟨RX6, "addFixture", "(LSportsHouse$Competition;IIII)V"⟩
def zX6_addFixture : Zm := (RX6, cX6_addFixture, 6, none, { frames := 2, cells := 3, slots := 34, locals := 56 })
theorem bk_X6_addFixture_0 : ck_ fX6 none cX6_addFixture 0 [.iload 3, .aload 1, .tableswitch 0 0 5 #[], .if_icmp .ge 27, .iload 4, .aload 1, .tableswitch 0 0 5 #[], .if_icmp .ge 27, .aload 0, .tableswitch 0 6 4 #[], .iconst 400, .if_icmp .lt 28, .return_] 28 = true := qck_r (nn_ _) (by decide +kernel)
theorem bs_X6_addFixture_0 {P : Zt → Option Zv → Prop} (K : Int → Zl → List Zv → Zt → Prop) : sx_ K P [.iload 3, .aload 1, .tableswitch 0 0 5 #[], .if_icmp .ge 27, .iload 4, .aload 1, .tableswitch 0 0 5 #[], .if_icmp .ge 27, .aload 0, .tableswitch 0 6 4 #[], .iconst 400, .if_icmp .lt 28, .return_] 28 = x_iload 3 (x_aload 1 (x_g0 100 5 0 12 (x_if_icmp .ge 27 K (x_iload 4 (x_aload 1 (x_g0 100 5 0 12 (x_if_icmp .ge 27 K (x_aload 0 (x_g0 106 4 0 400 (x_iconst 400 (x_if_icmp .lt 28 K (x_return_ P)))))))))))) := ((xe_iload 3).trans (congrArg (x_iload 3) ((xe_aload 1).trans (congrArg (x_aload 1) ((xe_g0 (kk := 100) rfl tl_0_5).trans (congrArg (x_g0 100 5 0 12) ((xe_if_icmp .ge 27).trans (congrArg (x_if_icmp .ge 27 K) ((xe_iload 4).trans (congrArg (x_iload 4) ((xe_aload 1).trans (congrArg (x_aload 1) ((xe_g0 (kk := 100) rfl tl_0_5).trans (congrArg (x_g0 100 5 0 12) ((xe_if_icmp .ge 27).trans (congrArg (x_if_icmp .ge 27 K) ((xe_aload 0).trans (congrArg (x_aload 0) ((xe_g0 (kk := 106) rfl tl_6_4).trans (congrArg (x_g0 106 4 0 400) ((xe_iconst 400).trans (congrArg (x_iconst 400) ((xe_if_icmp .lt 28).trans (congrArg (x_if_icmp .lt 28 K) (xe_return_)))))))))))))))))))))))))
theorem bk_X6_addFixture_27 : ck_ fX6 none cX6_addFixture 27 [.return_] 28 = true := qck_r (nn_ _) (by decide +kernel)
theorem bs_X6_addFixture_27 {P : Zt → Option Zv → Prop} (K : Int → Zl → List Zv → Zt → Prop) : sx_ K P [.return_] 28 = x_return_ P := (xe_return_)
theorem bk_X6_addFixture_28 : ck_ fX6 none cX6_addFixture 28 [.aload 0, .tableswitch 0 6 3 #[], .aload 0, .tableswitch 0 6 4 #[]] 36 = true := qck_r (nn_ _) (by decide +kernel)
theorem bs_X6_addFixture_28 {P : Zt → Option Zv → Prop} (K : Int → Zl → List Zv → Zt → Prop) : sx_ K P [.aload 0, .tableswitch 0 6 3 #[], .aload 0, .tableswitch 0 6 4 #[]] 36 = x_aload 0 (x_g1 106 523 (x_aload 0 (x_g0 106 4 0 400 (K 36)))) := ((xe_aload 0).trans (congrArg (x_aload 0) ((xe_g1 (kk := 106) rfl tl_6_3).trans (congrArg (x_g1 106 523) ((xe_aload 0).trans (congrArg (x_aload 0) ((xe_g0 (kk := 106) rfl tl_6_4).trans (congrArg (x_g0 106 4 0 400) xe_nil))))))))
theorem bk_X6_addFixture_39 : ck_ fX6 none cX6_addFixture 39 [.dup, .aload 1, .aload 0, .tableswitch 0 6 4 #[], .iload 2, .aload 1, .tableswitch 0 0 3 #[], .iload 3, .iaload, .aload 1, .tableswitch 0 0 3 #[], .iload 4, .iaload, .iload 5] 61 = true := qck_r (nn_ _) (by decide +kernel)
theorem bs_X6_addFixture_39 {P : Zt → Option Zv → Prop} (K : Int → Zl → List Zv → Zt → Prop) : sx_ K P [.dup, .aload 1, .aload 0, .tableswitch 0 6 4 #[], .iload 2, .aload 1, .tableswitch 0 0 3 #[], .iload 3, .iaload, .aload 1, .tableswitch 0 0 3 #[], .iload 4, .iaload, .iload 5] 61 = x_dup (x_aload 1 (x_aload 0 (x_g0 106 4 0 400 (x_iload 2 (x_aload 1 (x_g2 100 403 (x_iload 3 (x_iaload (x_aload 1 (x_g2 100 403 (x_iload 4 (x_iaload (x_iload 5 (K 61)))))))))))))) := ((xe_dup).trans (congrArg (x_dup) ((xe_aload 1).trans (congrArg (x_aload 1) ((xe_aload 0).trans (congrArg (x_aload 0) ((xe_g0 (kk := 106) rfl tl_6_4).trans (congrArg (x_g0 106 4 0 400) ((xe_iload 2).trans (congrArg (x_iload 2) ((xe_aload 1).trans (congrArg (x_aload 1) ((xe_g2 (kk := 100) rfl tl_0_3).trans (congrArg (x_g2 100 403) ((xe_iload 3).trans (congrArg (x_iload 3) ((xe_iaload).trans (congrArg (x_iaload) ((xe_aload 1).trans (congrArg (x_aload 1) ((xe_g2 (kk := 100) rfl tl_0_3).trans (congrArg (x_g2 100 403) ((xe_iload 4).trans (congrArg (x_iload 4) ((xe_iaload).trans (congrArg (x_iaload) ((xe_iload 5).trans (congrArg (x_iload 5) xe_nil))))))))))))))))))))))))))))
set_option maxRecDepth 100000 in
theorem ci_X6_85 : ci_ RX6 85 yX2_init zX2_init 6 := ⟨gi_c (lw_b3 224 rfl rfl : Cond.code yX2_init cX2_init 7 none ∈ lw_g), (lw_b1 16 (by decide +kernel) rfl : Cond.initialized yX2_init.cls ∈ lw_g), (lw_b3 222 (by decide +kernel) rfl : Cond.methodLink RX6 85 yX2_init ∈ lw_g), (lw_b3 223 (by decide +kernel) rfl : Cond.instanceMethod yX2_init ∈ lw_g), rfl, rfl, ⟨by decide, by decide, by decide +kernel⟩⟩
theorem bk_X6_addFixture_65 : ck_ fX6 none cX6_addFixture 65 [.aload 0, .dup, .tableswitch 0 6 4 #[], .iconst 1, .iadd, .tableswitch 1 6 4 #[], .return_] 76 = true := qck_r (nn_ _) (by decide +kernel)
theorem bs_X6_addFixture_65 {P : Zt → Option Zv → Prop} (K : Int → Zl → List Zv → Zt → Prop) : sx_ K P [.aload 0, .dup, .tableswitch 0 6 4 #[], .iconst 1, .iadd, .tableswitch 1 6 4 #[], .return_] 76 = x_aload 0 (x_dup (x_g0 106 4 0 400 (x_iconst 1 (x_iadd (x_p 106 4 0 400 (x_return_ P)))))) := ((xe_aload 0).trans (congrArg (x_aload 0) ((xe_dup).trans (congrArg (x_dup) ((xe_g0 (kk := 106) rfl tl_6_4).trans (congrArg (x_g0 106 4 0 400) ((xe_iconst 1).trans (congrArg (x_iconst 1) ((xe_iadd).trans (congrArg (x_iadd) ((xe_p (kk := 106) rfl tl_6_4).trans (congrArg (x_p 106 4 0 400) (xe_return_)))))))))))))
abbrev po_X6_addFixture (T : Zt) (c : Int) (u h a d : Int) : Zt → Option Zv → Prop := fun T' r => r = none ∧ fr_ [(106, [4]), (523, []), (152, []), (102, []), (448, []), (449, [])] T T' ∧ ((T' = T ∧ (T 100 c 5 ≤ h ∨ T 100 c 5 ≤ a ∨ 400 ≤ T 106 0 4)) ∨ nm_ T T' c h a d)
set_option maxHeartbeats 4000000 in
theorem ct_X6_addFixture {T : Zt} {c : Int} {u h a d : Int} (hc : 0 ≤ c ∧ c ≤ 3) (hh : 0 ≤ h ∧ 0 ≤ a ∧ 0 ≤ d ∧ d ≤ 999) (hna : NA_ T) : Ct_ yX6_addFixture zX6_addFixture T [vR 106 0, vR 100 c, vI u, vI h, vI a, vI d] (po_X6_addFixture T c u h a d) := by
  refine ct_of pn_6 rfl rfl (Nat.le_of_ble_eq_true rfl) (fun hT hav => ?_)
  have hr_u : -2147483648 ≤ u ∧ u ≤ 2147483647 := hav (vI u) (by simp)
  have hr_h : -2147483648 ≤ h ∧ h ≤ 2147483647 := hav (vI h) (by simp)
  have hr_a : -2147483648 ≤ a ∧ a ≤ 2147483647 := hav (vI a) (by simp)
  have hr_d : -2147483648 ≤ d ∧ d ≤ 2147483647 := hav (vI d) (by simp)
  have hz : zX6_addFixture.2.2.2.1 = some .boolean → ∀ (T' : Zt) (x : Int), po_X6_addFixture T c u h a d T' (some (vI x)) → 0 ≤ x ∧ x ≤ 1 := fun h => by cases h
  have hb_matchCount : 0 ≤ T 106 0 4 ∧ T 106 0 4 ≤ 400 := bd_f hT 106 4 (by decide +kernel : (tf_ 106)[4]? = some (0, 0, 0, 400)) 0
  have hb5 : 0 ≤ T 100 c 5 ∧ T 100 c 5 ≤ 12 := bd_f hT 100 5 (by decide +kernel : (tf_ 100)[5]? = some (0, 0, 0, 12)) c
  show J_ zX6_addFixture T (po_X6_addFixture T c u h a d) 3 34 0 [some (vR 106 0), some (vR 100 c), some (vI u), some (vI h), some (vI a), some (vI d)] [] T
  refine j_blx (F := fX6) tb_X6 (nn_ _) bk_X6_addFixture_0 bs_X6_addFixture_0 hz (fun K hK => ?_)
  intro b1 b1b
  refine And.intro (fun c2 => ?_) (fun c2 => ?_)
  · refine hK 27 _ [] T ?_
    refine j_blx (F := fX6) tb_X6 (nn_ _) bk_X6_addFixture_27 bs_X6_addFixture_27 hz (fun K hK => ?_)
    refine (show po_X6_addFixture T c u h a d T (none) from ?_)
    exact ⟨rfl, fr_0 _ _, Or.inl ⟨rfl, by omega⟩⟩
  · intro b3 b3b
    refine And.intro (fun c4 => ?_) (fun c4 => ?_)
    · refine hK 27 _ [] T ?_
      refine j_blx (F := fX6) tb_X6 (nn_ _) bk_X6_addFixture_27 bs_X6_addFixture_27 hz (fun K hK => ?_)
      refine (show po_X6_addFixture T c u h a d T (none) from ?_)
      exact ⟨rfl, fr_0 _ _, Or.inl ⟨rfl, by omega⟩⟩
    · intro b5 b5b
      refine And.intro (fun c6 => ?_) (fun c6 => ?_)
      · refine hK 28 _ [] T ?_
        refine j_blx (F := fX6) tb_X6 (nn_ _) bk_X6_addFixture_28 bs_X6_addFixture_28 hz (fun K hK => ?_)
        intro b7 b7b
        refine hK 36 _ [vI (T 106 0 4), vR 523 0] T ?_
        refine j_newO (bc' := 2) (bs' := 23) (pc := 36) (ci := 2) (i := T 106 0 4) (by decide) (by decide) vi_2 tyX2_ok (nf_2 _) (lw_b1 144 (by decide +kernel) rfl : Cond.classLink RX6 17 RX2 ∈ lw_g) (lw_b3 221 (by decide +kernel) rfl : Cond.instantiable RX2 11 ∈ lw_g) (lw_b1 16 (by decide +kernel) rfl : Cond.initialized RX2 ∈ lw_g) (hna.1.2.1 _) (by omega) (by omega) (by decide +kernel) ?_
        refine j_nm (fun U8 hU8 => ?_)
        have fU8 := nu_fr hU8
        have zU8 := nu_tz hU8
        have oU8 := nu_to hU8
        have vU8 := nu_tv hU8
        show J_ zX6_addFixture T (po_X6_addFixture T c u h a d) 2 23 39 _ [vR 152 (T 106 0 4), vI (T 106 0 4), vR 523 0] U8
        refine j_blx (F := fX6) tb_X6 (nn_ _) bk_X6_addFixture_39 bs_X6_addFixture_39 hz (fun K hK => ?_)
        intro b9 b9b
        have e10 : U8 106 0 4 = T 106 0 4 := fU8 106 0 4 rfl
        rw [e10] at b9 b9b ⊢
        refine ix_i (by omega) ?_
        intro b11 b11b
        have e12 : U8 403 c h = T 403 c h := fU8 403 c h rfl
        rw [e12] at b11 b11b ⊢
        refine ix_i (by omega) ?_
        intro b13 b13b
        have e14 : U8 403 c a = T 403 c a := fU8 403 c a rfl
        rw [e14] at b13 b13b ⊢
        refine hK 61 _ [vI d, vI (T 403 c a), vI (T 403 c h), vI u, vI (T 106 0 4), vR 100 c, vR 152 (T 106 0 4), vR 152 (T 106 0 4), vI (T 106 0 4), vR 523 0] U8 ?_
        have hv1 : ∀ k : Nat, ow_ k = some 102 → ¬ T k (T 106 0 4) (-1) = 1 := fun k hk h => (hT.2.2.2.2.2.2.2.1 k _ 102 hk h).elim (hna.2.2.1 _ (by omega)) (hna.1.2.1 _)
        have e15 : U8 448 (T 106 0 4) (-1) = T 448 (T 106 0 4) (-1) := fU8 448 (T 106 0 4) (-1) rfl
        have e16 : U8 449 (T 106 0 4) (-1) = T 449 (T 106 0 4) (-1) := fU8 449 (T 106 0 4) (-1) rfl
        refine j_callI (y := yX2_init) (Yc := zX2_init) (rest := [vR 152 (T 106 0 4), vI (T 106 0 4), vR 523 0]) [vR 100 c, vI (T 106 0 4), vI u, vI (T 403 c h), vI (T 403 c a), vI d] (ct_X2_init (T := U8) (by omega) (by rw [e15]; exact hv1 448 (by decide)) (by rw [e16]; exact hv1 449 (by decide))) ci_X6_85 (qd_c (by decide +kernel)) (nn_ _) rfl (rf_of rfl) (Nat.le_of_ble_eq_true rfl) (Nat.le_of_ble_eq_true rfl) (Nat.le_of_ble_eq_true rfl) rfl ?_
        rintro U17 _ ⟨rfl, fU17, qU17o, ⟨t0U17, t1U17, t2U17, t3U17, t4U17, t5U17⟩, ⟨t6U17, t7U17, t8U17, t9U17, t10U17⟩, z8U17, z9U17⟩
        show J_ zX6_addFixture T (po_X6_addFixture T c u h a d) 0 0 64 _ [vR 152 (T 106 0 4), vI (T 106 0 4), vR 523 0] U17
        refine j_ok (fun gt2 _ => ?_)
        have e19 : U17 102 (T 106 0 4) (-1) = T 102 (T 106 0 4) (-1) := (fU17 102 (T 106 0 4) (-1) rfl).trans (fU8 102 (T 106 0 4) (-1) rfl)
        refine j_conv (k := 102) (i := T 106 0 4) (g := g2_ U17 (T 106 0 4)) (by decide) (by show ¬ U17 102 (T 106 0 4) (-1) = 1; rw [e19]; exact hna.2.2.1 _ (by omega)) (hna.1.2.1 _) (cg_2 gt2 (by omega) (by omega) t8U17 t9U17 (t10U17.trans (zU8 10 (by decide)))) rfl rfl ?_
        refine j_nm (fun U20 hU20 => ?_)
        have fU20 := cw_fr hU20
        have sU20 := cw_ts hU20
        have oU20 := cw_to hU20
        have rU20 := cw_r hU20
        show J_ zX6_addFixture T (po_X6_addFixture T c u h a d) 0 0 64 _ [vR 102 (T 106 0 4), vI (T 106 0 4), vR 523 0] U20
        refine j_aast (pc := 64) (by decide) (by decide) (by decide +kernel : ta_ 523 = some (5, some 400, 0, 1)) (by decide +kernel) (by omega) (by show _ < (400 : Int); omega) (by decide) ?_
        refine j_nm (fun U21 hU21 => ?_)
        have e22 := up_f hU21
        show J_ zX6_addFixture T (po_X6_addFixture T c u h a d) 0 0 65 _ [] U21
        refine j_blx (F := fX6) tb_X6 (nn_ _) bk_X6_addFixture_65 bs_X6_addFixture_65 hz (fun K hK => ?_)
        intro b23 b23b
        have e24 : U21 106 0 4 = T 106 0 4 := (up_k hU21 (by exact Nat.ne_of_beq_eq_false rfl) 0 4).trans ((fU20 106 0 4 rfl).trans ((fU17 106 0 4 rfl).trans (fU8 106 0 4 rfl)))
        rw [e24] at b23 b23b ⊢
        refine rg_i (by omega) ?_
        refine bd_i (by omega) ?_
        refine x_nm (fun U25 hU25 => ?_)
        have e26 := up_f hU25
        refine (show po_X6_addFixture T c u h a d U25 (none) from ?_)
        have w0 : U20 102 (T 106 0 4) 0 = U17 152 (T 106 0 4) 0 - 1 := (sU20 0 (by decide)).trans (by unfold g2_; rw [if_pos (by decide)])
        have w1 : U20 102 (T 106 0 4) 1 = U17 152 (T 106 0 4) 1 := (sU20 1 (by decide)).trans (by unfold g2_; rw [if_neg (by decide)])
        have w3 : U20 102 (T 106 0 4) 3 = U17 152 (T 106 0 4) 3 := (sU20 3 (by decide)).trans (by unfold g2_; rw [if_neg (by decide)])
        have w4 : U20 102 (T 106 0 4) 4 = U17 152 (T 106 0 4) 4 := (sU20 4 (by decide)).trans (by unfold g2_; rw [if_neg (by decide)])
        have w5 : U20 102 (T 106 0 4) 5 = U17 152 (T 106 0 4) 5 := (sU20 5 (by decide)).trans (by unfold g2_; rw [if_neg (by decide)])
        have w10 : U20 102 (T 106 0 4) 10 = U17 152 (T 106 0 4) 10 := (sU20 10 (by decide)).trans (by unfold g2_; rw [if_neg (by decide)])
        have y10 : U8 152 (T 106 0 4) 10 = 0 := zU8 10 (by decide)
        have u0 : U25 102 (T 106 0 4) 0 = U20 102 (T 106 0 4) 0 := (up_k hU25 (by exact Nat.ne_of_beq_eq_false rfl) _ _).trans (up_k hU21 (by exact Nat.ne_of_beq_eq_false rfl) _ _)
        have u1 : U25 102 (T 106 0 4) 1 = U20 102 (T 106 0 4) 1 := (up_k hU25 (by exact Nat.ne_of_beq_eq_false rfl) _ _).trans (up_k hU21 (by exact Nat.ne_of_beq_eq_false rfl) _ _)
        have u3 : U25 102 (T 106 0 4) 3 = U20 102 (T 106 0 4) 3 := (up_k hU25 (by exact Nat.ne_of_beq_eq_false rfl) _ _).trans (up_k hU21 (by exact Nat.ne_of_beq_eq_false rfl) _ _)
        have u4 : U25 102 (T 106 0 4) 4 = U20 102 (T 106 0 4) 4 := (up_k hU25 (by exact Nat.ne_of_beq_eq_false rfl) _ _).trans (up_k hU21 (by exact Nat.ne_of_beq_eq_false rfl) _ _)
        have u5 : U25 102 (T 106 0 4) 5 = U20 102 (T 106 0 4) 5 := (up_k hU25 (by exact Nat.ne_of_beq_eq_false rfl) _ _).trans (up_k hU21 (by exact Nat.ne_of_beq_eq_false rfl) _ _)
        have u10 : U25 102 (T 106 0 4) 10 = U20 102 (T 106 0 4) 10 := (up_k hU25 (by exact Nat.ne_of_beq_eq_false rfl) _ _).trans (up_k hU21 (by exact Nat.ne_of_beq_eq_false rfl) _ _)
        have d1 : U25 106 0 4 = T 106 0 4 + 1 := by omega
        have d2 : ∀ (k : Nat) (i j : Int), k = 102 ∨ k = 152 → i ≠ T 106 0 4 → U25 k i j = T k i j := fun k i j hk hi => (up_g hU25 (fun z => by omega)).trans ((up_g hU21 (fun z => by omega)).trans ((oU20 k i j hi).trans ((qU17o k i j hi).trans (oU8 k i j (fun z => hi z.2)))))
        have d3 : ∀ j, j ≠ T 106 0 4 → U25 523 0 j = T 523 0 j := fun j hj => (up_k hU25 (by exact Nat.ne_of_beq_eq_false rfl) _ _).trans ((up_g hU21 (fun z => hj z.2.2)).trans ((fU20 523 _ _ rfl).trans ((fU17 523 _ _ rfl).trans (fU8 523 _ _ rfl))))
        have d4 : U25 523 0 (T 106 0 4) = 1 := (up_k hU25 (by exact Nat.ne_of_beq_eq_false rfl) _ _).trans (up_f hU21)
        have d5 : ∀ i, U25 150 i (-1) = T 150 i (-1) := fun i => (up_k hU25 (by exact Nat.ne_of_beq_eq_false rfl) _ _).trans ((up_k hU21 (by exact Nat.ne_of_beq_eq_false rfl) _ _).trans ((fU20 150 _ _ rfl).trans ((fU17 150 _ _ rfl).trans (fU8 150 _ _ rfl))))
        have d6 : ∀ i, U25 153 i (-1) = T 153 i (-1) := fun i => (up_k hU25 (by exact Nat.ne_of_beq_eq_false rfl) _ _).trans ((up_k hU21 (by exact Nat.ne_of_beq_eq_false rfl) _ _).trans ((fU20 153 _ _ rfl).trans ((fU17 153 _ _ rfl).trans (fU8 153 _ _ rfl))))
        have d7 : ∀ i, U25 100 i (-1) = T 100 i (-1) := fun i => (up_k hU25 (by exact Nat.ne_of_beq_eq_false rfl) _ _).trans ((up_k hU21 (by exact Nat.ne_of_beq_eq_false rfl) _ _).trans ((fU20 100 _ _ rfl).trans ((fU17 100 _ _ rfl).trans (fU8 100 _ _ rfl))))
        have d8 : ∀ i, U25 103 i (-1) = T 103 i (-1) := fun i => (up_k hU25 (by exact Nat.ne_of_beq_eq_false rfl) _ _).trans ((up_k hU21 (by exact Nat.ne_of_beq_eq_false rfl) _ _).trans ((fU20 103 _ _ rfl).trans ((fU17 103 _ _ rfl).trans (fU8 103 _ _ rfl))))
        have d9 : U25 152 (T 106 0 4) (-1) = U20 152 (T 106 0 4) (-1) := (up_k hU25 (by exact Nat.ne_of_beq_eq_false rfl) _ _).trans (up_k hU21 (by exact Nat.ne_of_beq_eq_false rfl) _ _)
        have e27 : U25 106 0 2 = T 106 0 2 := (up_j hU25 (by decide) 106 0).trans ((up_k hU21 (by exact Nat.ne_of_beq_eq_false rfl) 0 2).trans ((fU20 106 0 2 rfl).trans ((fU17 106 0 2 rfl).trans (fU8 106 0 2 rfl))))
        have n2 : NA_ U25 := by
          refine ⟨⟨fun i => by rw [d5]; exact hna.1.1 i, fun i => ?_, fun i => by rw [d6]; exact hna.1.2.2 i⟩, fun i hi => by rw [d7]; exact hna.2.1 i (by omega), fun i hi => ?_, fun i hi => ?_⟩
          · by_cases z : i = T 106 0 4
            · rw [z, d9]; exact rU20
            · rw [d2 152 i (-1) (Or.inr rfl) z]; exact hna.1.2.1 i
          · rw [d2 102 i (-1) (Or.inl rfl) (by omega)]; exact hna.2.2.1 i (by omega)
          · rw [d8]
            by_cases z : i = T 106 0 4
            · exact hna.2.2.2 i (by omega)
            · rw [d2 102 i 10 (Or.inl rfl) z] at hi; exact hna.2.2.2 i (by omega)
        exact ⟨rfl, fr_u (fr_u (fr_t (fr_t (fr_t (fr_0 _ _) (fr_s fU8 rfl)) (fr_s fU17 rfl)) (fr_s fU20 rfl)) hU21 rfl) hU25 rfl, Or.inr ⟨⟨d1, by omega, by omega, by omega⟩, d2, d3, d4, ⟨by omega, by omega, by omega, by omega, by omega, by omega⟩, n2⟩⟩
      · refine (show po_X6_addFixture T c u h a d T (none) from ?_)
        exact ⟨rfl, fr_0 _ _, Or.inl ⟨rfl, by omega⟩⟩
/-- how far a place is from the round's own, in the circle -/
def lv_ (R r q : Int) : Int := if q = R then 0 else min (max (q - r) (r - q)) (R - max (q - r) (r - q))
theorem lv_R (R r : Int) : lv_ R r R = 0 := by unfold lv_; rw [if_pos rfl]
theorem lv_r {R r : Int} (h : 0 ≤ r ∧ r < R) : lv_ R r r = 0 := by unfold lv_; rw [if_neg (by omega)]; omega
theorem em_2 {x R : Int} (h : 0 ≤ x) (g : x < 2 * R) : (x < R ∧ x % R = x) ∨ (R ≤ x ∧ x % R = x - R) := by
  by_cases z : x < R
  · exact Or.inl ⟨z, Int.emod_eq_of_lt h z⟩
  · refine Or.inr ⟨by omega, ?_⟩
    rw [← Int.sub_emod_right, Int.emod_eq_of_lt (by omega) (by omega)]
theorem lv_a {R r k : Int} (hr : 0 ≤ r ∧ r < R) (hk : 1 ≤ k ∧ 2 * k ≤ R) : lv_ R r ((r + k) % R) = k := by
  have h := em_2 (x := r + k) (R := R) (by omega) (by omega)
  unfold lv_
  rw [if_neg (by omega)]
  omega
theorem lv_b {R r k : Int} (hr : 0 ≤ r ∧ r < R) (hk : 1 ≤ k ∧ 2 * k ≤ R) : lv_ R r ((r - k + R) % R) = k := by
  have h := em_2 (x := r - k + R) (R := R) (by omega) (by omega)
  unfold lv_
  rw [if_neg (by omega)]
  omega
def KEc_ (T : Zt) (c : Int) : Prop := ∀ j : Int, 0 ≤ j → j < T 100 c 5 → T 404 c (T 403 c j) = j
theorem KEc_f {ws : List (Nat × List Int)} {T T' : Zt} {c : Int} (h : KEc_ T c) (f : fr_ ws T T') (w : fw_ ws 100 5 = false ∧ (∀ j, fw_ ws 404 j = false) ∧ (∀ j, fw_ ws 403 j = false)) : KEc_ T' c := fun j a b => by
  rw [f 100 c 5 w.1] at b
  rw [f 403 c j (w.2.2 j), f 404 c _ (w.2.1 _)]
  exact h j a b
/-- the matches that a plan has laid so far, from number f on -/
def RK_ (T : Zt) (c f R r k d : Int) : Prop := (0 ≤ f ∧ f ≤ T 106 0 4 ∧ T 106 0 4 ≤ 400) ∧ (∀ i, f ≤ i → i < T 106 0 4 → T 102 i 0 = c ∧ T 102 i 1 = i ∧ T 102 i 10 = 0 ∧ 0 ≤ T 404 c (T 102 i 3) ∧ 0 ≤ T 404 c (T 102 i 4) ∧ (T 102 i 5 < d ∨ (T 102 i 5 = d ∧ lv_ R r (T 404 c (T 102 i 3)) < k))) ∧ (∀ i j, f ≤ i → i < j → j < T 106 0 4 → T 102 i 3 = T 102 j 3 → T 102 i 5 ≠ T 102 j 5) ∧ (∀ i, 0 ≤ i → i < T 106 0 4 → T 523 0 i ≠ 0) ∧ NA_ T
theorem rb_next {T : Zt} {c f R r k d r' d' : Int} (h : RK_ T c f R r k d) (hd : d < d') : RK_ T c f R r' 0 d' := by
  obtain ⟨h1, h2, h3, h4, h5⟩ := h
  refine ⟨h1, fun i a b => ?_, h3, h4, h5⟩
  obtain ⟨a1, a2, a3, a4, a5, a6⟩ := h2 i a b
  exact ⟨a1, a2, a3, a4, a5, Or.inl (by omega)⟩
theorem rb_add {T T' : Zt} {c f R r k d h a : Int} (hrb : RK_ T c f R r k d) (hke : KEc_ T c) (hh : 0 ≤ h ∧ 0 ≤ a) (hl : lv_ R r h = k) (fr : fr_ [(106, [4]), (523, []), (152, []), (102, []), (448, []), (449, [])] T T') (hx : (T' = T ∧ (T 100 c 5 ≤ h ∨ T 100 c 5 ≤ a ∨ 400 ≤ T 106 0 4)) ∨ nm_ T T' c h a d) : RK_ T' c f R r (k + 1) d ∧ (∀ i j, i < f → T' 102 i j = T 102 i j) ∧ T 106 0 4 ≤ T' 106 0 4 := by
  obtain ⟨h1, h2, h3, h4, h5⟩ := hrb
  rcases hx with ⟨rfl, -⟩ | ⟨⟨n1, n2, n3, n4⟩, n5, n6, n7, ⟨m0, m1, m3, m4, m5, m10⟩, n8⟩
  · refine ⟨⟨h1, fun i a b => ?_, h3, h4, h5⟩, fun _ _ _ => rfl, by omega⟩
    obtain ⟨a1, a2, a3, a4, a5, a6⟩ := h2 i a b
    exact ⟨a1, a2, a3, a4, a5, a6.imp id (fun z => ⟨z.1, by omega⟩)⟩
  · have e4 : ∀ x, T' 404 c x = T 404 c x := fun x => fr 404 c x rfl
    have eo : ∀ i j, i ≠ T 106 0 4 → T' 102 i j = T 102 i j := fun i j hi => n5 102 i j (Or.inl rfl) hi
    have hs : T' 404 c (T' 102 (T 106 0 4) 3) = h := by rw [e4, m3]; exact hke h hh.1 n3
    have hs2 : T' 404 c (T' 102 (T 106 0 4) 4) = a := by rw [e4, m4]; exact hke a hh.2 n4
    refine ⟨⟨⟨by omega, by omega, by omega⟩, fun i p q => ?_, fun i j p q w => ?_, fun i p q => ?_, n8⟩, fun i j hi => eo i j (by omega), by omega⟩
    · by_cases z : i = T 106 0 4
      · rw [z]
        exact ⟨m0, m1, m10, by rw [hs]; omega, by rw [hs2]; omega, Or.inr ⟨m5, by rw [hs]; omega⟩⟩
      · obtain ⟨a1, a2, a3, a4, a5, a6⟩ := h2 i p (by omega)
        rw [eo i 0 z, eo i 1 z, eo i 10 z, eo i 3 z, eo i 4 z, eo i 5 z, e4, e4]
        exact ⟨a1, a2, a3, a4, a5, a6.imp id (fun z => ⟨z.1, by omega⟩)⟩
    · by_cases z : j = T 106 0 4
      · rw [z, m5, eo i 3 (by omega), eo i 5 (by omega)]
        intro e5 e6
        obtain ⟨a1, a2, a3, a4, a5, a6⟩ := h2 i p (by omega)
        rcases a6 with a6 | ⟨-, a6⟩
        · omega
        · rw [e5, ← e4, hs] at a6
          omega
      · rw [eo i 3 (by omega), eo i 5 (by omega), eo j 3 z, eo j 5 z]
        exact h3 i j p q (by omega)
    · by_cases z : i = T 106 0 4
      · rw [z, n7]; decide
      · rw [n6 i z]
        exact h4 i p (by omega)
abbrev cX0_placeCount : ByteArray := prog_2_method_2_code
def yX0_placeCount : MethodName := ⟨RX0, "placeCount", "()I"⟩
def zX0_placeCount : Zm := (RX0, cX0_placeCount, 1, (some .int), { frames := 0, cells := 0, slots := 0, locals := 0 })
theorem bk_X0_placeCount_0 : ck_ fX0 (some .int) cX0_placeCount 0 [.aload 0, .tableswitch 0 0 5 #[], .aload 0, .tableswitch 0 0 5 #[], .iconst 1, .iand, .iadd, .ireturn] 12 = true := qck_r (nn_ _) (by decide +kernel)
theorem bs_X0_placeCount_0 {P : Zt → Option Zv → Prop} (K : Int → Zl → List Zv → Zt → Prop) : sx_ K P [.aload 0, .tableswitch 0 0 5 #[], .aload 0, .tableswitch 0 0 5 #[], .iconst 1, .iand, .iadd, .ireturn] 12 = x_aload 0 (x_g0 100 5 0 12 (x_aload 0 (x_g0 100 5 0 12 (x_iconst 1 (x_iand (x_iadd (x_ireturn P))))))) := ((xe_aload 0).trans (congrArg (x_aload 0) ((xe_g0 (kk := 100) rfl tl_0_5).trans (congrArg (x_g0 100 5 0 12) ((xe_aload 0).trans (congrArg (x_aload 0) ((xe_g0 (kk := 100) rfl tl_0_5).trans (congrArg (x_g0 100 5 0 12) ((xe_iconst 1).trans (congrArg (x_iconst 1) ((xe_iand).trans (congrArg (x_iand) ((xe_iadd).trans (congrArg (x_iadd) (xe_ireturn)))))))))))))))
abbrev po_X0_placeCount (T : Zt) (c : Int) : Zt → Option Zv → Prop := fun T' r => T = T' ∧ r = some (vI (T 100 c 5 + an_ (T 100 c 5) 1))
set_option maxHeartbeats 4000000 in
theorem ct_X0_placeCount {T : Zt} {c : Int} : Ct_ yX0_placeCount zX0_placeCount T [vR 100 c] (po_X0_placeCount T c) := by
  refine ct_of pn_0 rfl rfl (Nat.le_of_ble_eq_true rfl) (fun hT hav => ?_)
  have hz : zX0_placeCount.2.2.2.1 = some .boolean → ∀ (T' : Zt) (x : Int), po_X0_placeCount T c T' (some (vI x)) → 0 ≤ x ∧ x ≤ 1 := fun h => by cases h
  have hb5 : 0 ≤ T 100 c 5 ∧ T 100 c 5 ≤ 12 := bd_f hT 100 5 (by decide +kernel : (tf_ 100)[5]? = some (0, 0, 0, 12)) c
  have hp1 := an_1b (T 100 c 5)
  show J_ zX0_placeCount T (po_X0_placeCount T c) 0 0 0 [some (vR 100 c)] [] T
  refine j_blx (F := fX0) tb_X0 (nn_ _) bk_X0_placeCount_0 bs_X0_placeCount_0 hz (fun K hK => ?_)
  intro b1 b1b
  intro b2 b2b
  intro w3 w3b
  refine rg_i (by omega) ?_
  refine (show po_X0_placeCount T c T (some (vI ((T 100 c 5) + (an_ (T 100 c 5) 1)))) from ?_)
  exact ⟨rfl, rfl⟩
theorem rb_mono {T : Zt} {c f R r k k2 d : Int} (h : RK_ T c f R r k d) (g : k ≤ k2) : RK_ T c f R r k2 d := by
  obtain ⟨h1, h2, h3, h4, h5⟩ := h
  refine ⟨h1, fun i a b => ?_, h3, h4, h5⟩
  obtain ⟨a1, a2, a3, a4, a5, a6⟩ := h2 i a b
  exact ⟨a1, a2, a3, a4, a5, a6.imp id (fun z => ⟨z.1, by omega⟩)⟩
abbrev cX6_addRound : ByteArray := prog_8_method_3_code
def yX6_addRound : MethodName := ⟨RX6, "addRound", "(LSportsHouse$Competition;IIZI)V"⟩
def zX6_addRound : Zm := (RX6, cX6_addRound, 12, none, { frames := 3, cells := 18, slots := 204, locals := 81 })
theorem bk_X6_addRound_111 : ck_ fX6 none cX6_addRound 111 [.istore 11, .aload 0, .aload 1, .iload 2, .iload 11, .ifCond .eq 126, .iload 9, .goto 128] 126 = true := qck_r (nn_ _) (by decide +kernel)
theorem bs_X6_addRound_111 {P : Zt → Option Zv → Prop} (K : Int → Zl → List Zv → Zt → Prop) : sx_ K P [.istore 11, .aload 0, .aload 1, .iload 2, .iload 11, .ifCond .eq 126, .iload 9, .goto 128] 126 = x_istore 11 (x_aload 0 (x_aload 1 (x_iload 2 (x_iload 11 (x_ifCond .eq 126 K (x_iload 9 (x_goto 128 K))))))) := ((xe_istore 11).trans (congrArg (x_istore 11) ((xe_aload 0).trans (congrArg (x_aload 0) ((xe_aload 1).trans (congrArg (x_aload 1) ((xe_iload 2).trans (congrArg (x_iload 2) ((xe_iload 11).trans (congrArg (x_iload 11) ((xe_ifCond .eq 126).trans (congrArg (x_ifCond .eq 126 K) ((xe_iload 9).trans (congrArg (x_iload 9) (xe_goto 128)))))))))))))))
theorem bk_X6_addRound_126 : ck_ fX6 none cX6_addRound 126 [.iload 10, .iload 11, .ifCond .eq 138, .iload 10, .goto 140] 138 = true := qck_r (nn_ _) (by decide +kernel)
theorem bs_X6_addRound_126 {P : Zt → Option Zv → Prop} (K : Int → Zl → List Zv → Zt → Prop) : sx_ K P [.iload 10, .iload 11, .ifCond .eq 138, .iload 10, .goto 140] 138 = x_iload 10 (x_iload 11 (x_ifCond .eq 138 K (x_iload 10 (x_goto 140 K)))) := ((xe_iload 10).trans (congrArg (x_iload 10) ((xe_iload 11).trans (congrArg (x_iload 11) ((xe_ifCond .eq 138).trans (congrArg (x_ifCond .eq 138 K) ((xe_iload 10).trans (congrArg (x_iload 10) (xe_goto 140)))))))))
theorem bk_X6_addRound_138 : ck_ fX6 none cX6_addRound 138 [.iload 9, .iload 5] 142 = true := qck_r (nn_ _) (by decide +kernel)
theorem bs_X6_addRound_138 {P : Zt → Option Zv → Prop} (K : Int → Zl → List Zv → Zt → Prop) : sx_ K P [.iload 9, .iload 5] 142 = x_iload 9 (x_iload 5 (K 142)) := ((xe_iload 9).trans (congrArg (x_iload 9) ((xe_iload 5).trans (congrArg (x_iload 5) xe_nil))))
set_option maxRecDepth 100000 in
theorem cl_X6_75 : cv_ RX6 75 yX6_addFixture zX6_addFixture 6 5 := ⟨gi_V (lw_b3 217 (by decide +kernel) rfl : Cond.methodLink RX6 75 yX6_addFixture ∈ lw_g) (lw_b3 219 (by decide +kernel) rfl : Cond.instanceMethod yX6_addFixture ∈ lw_g) (lw_sel 119 rfl : Cond.selects yX6_addFixture.cls yX6_addFixture yX6_addFixture ∈ lw_g) (lw_b1 4 (by decide +kernel) rfl : Cond.initialized yX6_addFixture.cls ∈ lw_g) (lw_b3 220 rfl rfl : Cond.code yX6_addFixture cX6_addFixture 6 none ∈ lw_g), ⟨by decide, by decide, by decide +kernel⟩, ⟨_, _, rfl⟩⟩
theorem bk_X6_addRound_145 : ck_ fX6 none cX6_addRound 145 [.iinc 8 1, .goto 58] 151 = true := qck_r (nn_ _) (by decide +kernel)
theorem bs_X6_addRound_145 {P : Zt → Option Zv → Prop} (K : Int → Zl → List Zv → Zt → Prop) : sx_ K P [.iinc 8 1, .goto 58] 151 = x_iinc 8 1 (x_goto 58 K) := ((xe_iinc 8 1).trans (congrArg (x_iinc 8 1) (xe_goto 58)))
theorem bk_X6_addRound_140 : ck_ fX6 none cX6_addRound 140 [.iload 5] 142 = true := qck_r (nn_ _) (by decide +kernel)
theorem bs_X6_addRound_140 {P : Zt → Option Zv → Prop} (K : Int → Zl → List Zv → Zt → Prop) : sx_ K P [.iload 5] 142 = x_iload 5 (K 142) := ((xe_iload 5).trans (congrArg (x_iload 5) xe_nil))
theorem bk_X6_addRound_128 : ck_ fX6 none cX6_addRound 128 [.iload 11, .ifCond .eq 138, .iload 10, .goto 140] 138 = true := qck_r (nn_ _) (by decide +kernel)
theorem bs_X6_addRound_128 {P : Zt → Option Zv → Prop} (K : Int → Zl → List Zv → Zt → Prop) : sx_ K P [.iload 11, .ifCond .eq 138, .iload 10, .goto 140] 138 = x_iload 11 (x_ifCond .eq 138 K (x_iload 10 (x_goto 140 K))) := ((xe_iload 11).trans (congrArg (x_iload 11) ((xe_ifCond .eq 138).trans (congrArg (x_ifCond .eq 138 K) ((xe_iload 10).trans (congrArg (x_iload 10) (xe_goto 140)))))))
theorem bk_X6_addRound_58 : ck_ fX6 none cX6_addRound 58 [.iload 8, .iload 6, .iconst 2, .idiv, .if_icmp .gt 151, .iload 3, .iload 8, .iadd, .iload 6, .irem, .istore 9, .iload 3, .iload 8, .isub, .iload 6, .iadd, .iload 6, .irem, .istore 10, .iload 8, .iconst 1, .iand, .iconst 1, .if_icmp .ne 100, .iconst 1, .goto 101] 100 = true := qck_r (nn_ _) (by decide +kernel)
theorem bs_X6_addRound_58 {P : Zt → Option Zv → Prop} (K : Int → Zl → List Zv → Zt → Prop) : sx_ K P [.iload 8, .iload 6, .iconst 2, .idiv, .if_icmp .gt 151, .iload 3, .iload 8, .iadd, .iload 6, .irem, .istore 9, .iload 3, .iload 8, .isub, .iload 6, .iadd, .iload 6, .irem, .istore 10, .iload 8, .iconst 1, .iand, .iconst 1, .if_icmp .ne 100, .iconst 1, .goto 101] 100 = x_iload 8 (x_iload 6 (x_iconst 2 (x_idiv (x_if_icmp .gt 151 K (x_iload 3 (x_iload 8 (x_iadd (x_iload 6 (x_irem (x_istore 9 (x_iload 3 (x_iload 8 (x_isub (x_iload 6 (x_iadd (x_iload 6 (x_irem (x_istore 10 (x_iload 8 (x_iconst 1 (x_iand (x_iconst 1 (x_if_icmp .ne 100 K (x_iconst 1 (x_goto 101 K))))))))))))))))))))))))) := ((xe_iload 8).trans (congrArg (x_iload 8) ((xe_iload 6).trans (congrArg (x_iload 6) ((xe_iconst 2).trans (congrArg (x_iconst 2) ((xe_idiv).trans (congrArg (x_idiv) ((xe_if_icmp .gt 151).trans (congrArg (x_if_icmp .gt 151 K) ((xe_iload 3).trans (congrArg (x_iload 3) ((xe_iload 8).trans (congrArg (x_iload 8) ((xe_iadd).trans (congrArg (x_iadd) ((xe_iload 6).trans (congrArg (x_iload 6) ((xe_irem).trans (congrArg (x_irem) ((xe_istore 9).trans (congrArg (x_istore 9) ((xe_iload 3).trans (congrArg (x_iload 3) ((xe_iload 8).trans (congrArg (x_iload 8) ((xe_isub).trans (congrArg (x_isub) ((xe_iload 6).trans (congrArg (x_iload 6) ((xe_iadd).trans (congrArg (x_iadd) ((xe_iload 6).trans (congrArg (x_iload 6) ((xe_irem).trans (congrArg (x_irem) ((xe_istore 10).trans (congrArg (x_istore 10) ((xe_iload 8).trans (congrArg (x_iload 8) ((xe_iconst 1).trans (congrArg (x_iconst 1) ((xe_iand).trans (congrArg (x_iand) ((xe_iconst 1).trans (congrArg (x_iconst 1) ((xe_if_icmp .ne 100).trans (congrArg (x_if_icmp .ne 100 K) ((xe_iconst 1).trans (congrArg (x_iconst 1) (xe_goto 101)))))))))))))))))))))))))))))))))))))))))))))))))))
theorem bk_X6_addRound_151 : ck_ fX6 none cX6_addRound 151 [.return_] 152 = true := qck_r (nn_ _) (by decide +kernel)
theorem bs_X6_addRound_151 {P : Zt → Option Zv → Prop} (K : Int → Zl → List Zv → Zt → Prop) : sx_ K P [.return_] 152 = x_return_ P := (xe_return_)
theorem bk_X6_addRound_100 : ck_ fX6 none cX6_addRound 100 [.iconst 0, .iload 4, .if_icmp .eq 110, .iconst 1, .goto 111] 110 = true := qck_r (nn_ _) (by decide +kernel)
theorem bs_X6_addRound_100 {P : Zt → Option Zv → Prop} (K : Int → Zl → List Zv → Zt → Prop) : sx_ K P [.iconst 0, .iload 4, .if_icmp .eq 110, .iconst 1, .goto 111] 110 = x_iconst 0 (x_iload 4 (x_if_icmp .eq 110 K (x_iconst 1 (x_goto 111 K)))) := ((xe_iconst 0).trans (congrArg (x_iconst 0) ((xe_iload 4).trans (congrArg (x_iload 4) ((xe_if_icmp .eq 110).trans (congrArg (x_if_icmp .eq 110 K) ((xe_iconst 1).trans (congrArg (x_iconst 1) (xe_goto 111)))))))))
theorem bk_X6_addRound_110 : ck_ fX6 none cX6_addRound 110 [.iconst 0] 111 = true := qck_r (nn_ _) (by decide +kernel)
theorem bs_X6_addRound_110 {P : Zt → Option Zv → Prop} (K : Int → Zl → List Zv → Zt → Prop) : sx_ K P [.iconst 0] 111 = x_iconst 0 (K 111) := ((xe_iconst 0).trans (congrArg (x_iconst 0) xe_nil))
theorem bk_X6_addRound_101 : ck_ fX6 none cX6_addRound 101 [.iload 4, .if_icmp .eq 110, .iconst 1, .goto 111] 110 = true := qck_r (nn_ _) (by decide +kernel)
theorem bs_X6_addRound_101 {P : Zt → Option Zv → Prop} (K : Int → Zl → List Zv → Zt → Prop) : sx_ K P [.iload 4, .if_icmp .eq 110, .iconst 1, .goto 111] 110 = x_iload 4 (x_if_icmp .eq 110 K (x_iconst 1 (x_goto 111 K))) := ((xe_iload 4).trans (congrArg (x_iload 4) ((xe_if_icmp .eq 110).trans (congrArg (x_if_icmp .eq 110 K) ((xe_iconst 1).trans (congrArg (x_iconst 1) (xe_goto 111)))))))
theorem bk_X6_addRound_0 : ck_ fX6 none cX6_addRound 0 [.aload 1] 1 = true := qck_r (nn_ _) (by decide +kernel)
theorem bs_X6_addRound_0 {P : Zt → Option Zv → Prop} (K : Int → Zl → List Zv → Zt → Prop) : sx_ K P [.aload 1] 1 = x_aload 1 (K 1) := ((xe_aload 1).trans (congrArg (x_aload 1) xe_nil))
set_option maxRecDepth 100000 in
theorem cl_X6_63 : cv_ RX6 63 yX0_placeCount zX0_placeCount 0 0 := ⟨gi_V (lw_b3 212 (by decide +kernel) rfl : Cond.methodLink RX6 63 yX0_placeCount ∈ lw_g) (lw_b3 201 (by decide +kernel) rfl : Cond.instanceMethod yX0_placeCount ∈ lw_g) (lw_b3 202 (by decide +kernel) rfl : Cond.selects yX0_placeCount.cls yX0_placeCount yX0_placeCount ∈ lw_g) (lw_b1 15 (by decide +kernel) rfl : Cond.initialized yX0_placeCount.cls ∈ lw_g) (lw_b3 203 rfl rfl : Cond.code yX0_placeCount cX0_placeCount 1 (some .int) ∈ lw_g), ⟨by decide, by decide, by decide +kernel⟩, ⟨_, _, rfl⟩⟩
theorem bk_X6_addRound_4 : ck_ fX6 none cX6_addRound 4 [.iconst 1, .isub, .istore 6, .iload 3, .iconst 1, .iand, .ifCond .ne 18, .iconst 1, .goto 19] 18 = true := qck_r (nn_ _) (by decide +kernel)
theorem bs_X6_addRound_4 {P : Zt → Option Zv → Prop} (K : Int → Zl → List Zv → Zt → Prop) : sx_ K P [.iconst 1, .isub, .istore 6, .iload 3, .iconst 1, .iand, .ifCond .ne 18, .iconst 1, .goto 19] 18 = x_iconst 1 (x_isub (x_istore 6 (x_iload 3 (x_iconst 1 (x_iand (x_ifCond .ne 18 K (x_iconst 1 (x_goto 19 K)))))))) := ((xe_iconst 1).trans (congrArg (x_iconst 1) ((xe_isub).trans (congrArg (x_isub) ((xe_istore 6).trans (congrArg (x_istore 6) ((xe_iload 3).trans (congrArg (x_iload 3) ((xe_iconst 1).trans (congrArg (x_iconst 1) ((xe_iand).trans (congrArg (x_iand) ((xe_ifCond .ne 18).trans (congrArg (x_ifCond .ne 18 K) ((xe_iconst 1).trans (congrArg (x_iconst 1) (xe_goto 19)))))))))))))))))
theorem bk_X6_addRound_18 : ck_ fX6 none cX6_addRound 18 [.iconst 0, .istore 7, .aload 0, .aload 1, .iload 2, .iload 7, .iload 4, .if_icmp .eq 35, .iload 3, .goto 37] 35 = true := qck_r (nn_ _) (by decide +kernel)
theorem bs_X6_addRound_18 {P : Zt → Option Zv → Prop} (K : Int → Zl → List Zv → Zt → Prop) : sx_ K P [.iconst 0, .istore 7, .aload 0, .aload 1, .iload 2, .iload 7, .iload 4, .if_icmp .eq 35, .iload 3, .goto 37] 35 = x_iconst 0 (x_istore 7 (x_aload 0 (x_aload 1 (x_iload 2 (x_iload 7 (x_iload 4 (x_if_icmp .eq 35 K (x_iload 3 (x_goto 37 K))))))))) := ((xe_iconst 0).trans (congrArg (x_iconst 0) ((xe_istore 7).trans (congrArg (x_istore 7) ((xe_aload 0).trans (congrArg (x_aload 0) ((xe_aload 1).trans (congrArg (x_aload 1) ((xe_iload 2).trans (congrArg (x_iload 2) ((xe_iload 7).trans (congrArg (x_iload 7) ((xe_iload 4).trans (congrArg (x_iload 4) ((xe_if_icmp .eq 35).trans (congrArg (x_if_icmp .eq 35 K) ((xe_iload 3).trans (congrArg (x_iload 3) (xe_goto 37)))))))))))))))))))
theorem bk_X6_addRound_35 : ck_ fX6 none cX6_addRound 35 [.iload 6, .iload 7, .iload 4, .if_icmp .eq 49, .iload 6, .goto 50] 49 = true := qck_r (nn_ _) (by decide +kernel)
theorem bs_X6_addRound_35 {P : Zt → Option Zv → Prop} (K : Int → Zl → List Zv → Zt → Prop) : sx_ K P [.iload 6, .iload 7, .iload 4, .if_icmp .eq 49, .iload 6, .goto 50] 49 = x_iload 6 (x_iload 7 (x_iload 4 (x_if_icmp .eq 49 K (x_iload 6 (x_goto 50 K))))) := ((xe_iload 6).trans (congrArg (x_iload 6) ((xe_iload 7).trans (congrArg (x_iload 7) ((xe_iload 4).trans (congrArg (x_iload 4) ((xe_if_icmp .eq 49).trans (congrArg (x_if_icmp .eq 49 K) ((xe_iload 6).trans (congrArg (x_iload 6) (xe_goto 50)))))))))))
theorem bk_X6_addRound_49 : ck_ fX6 none cX6_addRound 49 [.iload 3, .iload 5] 52 = true := qck_r (nn_ _) (by decide +kernel)
theorem bs_X6_addRound_49 {P : Zt → Option Zv → Prop} (K : Int → Zl → List Zv → Zt → Prop) : sx_ K P [.iload 3, .iload 5] 52 = x_iload 3 (x_iload 5 (K 52)) := ((xe_iload 3).trans (congrArg (x_iload 3) ((xe_iload 5).trans (congrArg (x_iload 5) xe_nil))))
theorem bk_X6_addRound_55 : ck_ fX6 none cX6_addRound 55 [.iconst 1, .istore 8] 58 = true := qck_r (nn_ _) (by decide +kernel)
theorem bs_X6_addRound_55 {P : Zt → Option Zv → Prop} (K : Int → Zl → List Zv → Zt → Prop) : sx_ K P [.iconst 1, .istore 8] 58 = x_iconst 1 (x_istore 8 (K 58)) := ((xe_iconst 1).trans (congrArg (x_iconst 1) ((xe_istore 8).trans (congrArg (x_istore 8) xe_nil))))
theorem bk_X6_addRound_50 : ck_ fX6 none cX6_addRound 50 [.iload 5] 52 = true := qck_r (nn_ _) (by decide +kernel)
theorem bs_X6_addRound_50 {P : Zt → Option Zv → Prop} (K : Int → Zl → List Zv → Zt → Prop) : sx_ K P [.iload 5] 52 = x_iload 5 (K 52) := ((xe_iload 5).trans (congrArg (x_iload 5) xe_nil))
theorem bk_X6_addRound_37 : ck_ fX6 none cX6_addRound 37 [.iload 7, .iload 4, .if_icmp .eq 49, .iload 6, .goto 50] 49 = true := qck_r (nn_ _) (by decide +kernel)
theorem bs_X6_addRound_37 {P : Zt → Option Zv → Prop} (K : Int → Zl → List Zv → Zt → Prop) : sx_ K P [.iload 7, .iload 4, .if_icmp .eq 49, .iload 6, .goto 50] 49 = x_iload 7 (x_iload 4 (x_if_icmp .eq 49 K (x_iload 6 (x_goto 50 K)))) := ((xe_iload 7).trans (congrArg (x_iload 7) ((xe_iload 4).trans (congrArg (x_iload 4) ((xe_if_icmp .eq 49).trans (congrArg (x_if_icmp .eq 49 K) ((xe_iload 6).trans (congrArg (x_iload 6) (xe_goto 50)))))))))
theorem bk_X6_addRound_19 : ck_ fX6 none cX6_addRound 19 [.istore 7, .aload 0, .aload 1, .iload 2, .iload 7, .iload 4, .if_icmp .eq 35, .iload 3, .goto 37] 35 = true := qck_r (nn_ _) (by decide +kernel)
theorem bs_X6_addRound_19 {P : Zt → Option Zv → Prop} (K : Int → Zl → List Zv → Zt → Prop) : sx_ K P [.istore 7, .aload 0, .aload 1, .iload 2, .iload 7, .iload 4, .if_icmp .eq 35, .iload 3, .goto 37] 35 = x_istore 7 (x_aload 0 (x_aload 1 (x_iload 2 (x_iload 7 (x_iload 4 (x_if_icmp .eq 35 K (x_iload 3 (x_goto 37 K)))))))) := ((xe_istore 7).trans (congrArg (x_istore 7) ((xe_aload 0).trans (congrArg (x_aload 0) ((xe_aload 1).trans (congrArg (x_aload 1) ((xe_iload 2).trans (congrArg (x_iload 2) ((xe_iload 7).trans (congrArg (x_iload 7) ((xe_iload 4).trans (congrArg (x_iload 4) ((xe_if_icmp .eq 35).trans (congrArg (x_if_icmp .eq 35 K) ((xe_iload 3).trans (congrArg (x_iload 3) (xe_goto 37)))))))))))))))))
abbrev po_X6_addRound (T : Zt) (c : Int) (f : Int) (u q w d : Int) : Zt → Option Zv → Prop := fun T' r => r = none ∧ fr_ [(106, [4]), (523, []), (152, []), (102, []), (448, []), (449, [])] T T' ∧ (RK_ T' c f (T 100 c 5 + an_ (T 100 c 5) 1 - 1) q 13 d ∧ (∀ i j, i < f → T' 102 i j = T 102 i j) ∧ T 106 0 4 ≤ T' 106 0 4)
set_option maxHeartbeats 4000000 in
theorem ct_X6_addRound {T : Zt} {c : Int} {f : Int} {u q w d : Int} (hc : 0 ≤ c ∧ c ≤ 3) (he : 2 ≤ T 100 c 5) (hr : 0 ≤ q ∧ q < T 100 c 5 + an_ (T 100 c 5) 1 - 1) (hd : 0 ≤ d ∧ d ≤ 999) (hke : KEc_ T c) (hrb : RK_ T c f (T 100 c 5 + an_ (T 100 c 5) 1 - 1) q 0 d) : Ct_ yX6_addRound zX6_addRound T [vR 106 0, vR 100 c, vI u, vI q, vI w, vI d] (po_X6_addRound T c f u q w d) := by
  refine ct_of pn_6 rfl rfl (Nat.le_of_ble_eq_true rfl) (fun hT hav => ?_)
  have hr_u : -2147483648 ≤ u ∧ u ≤ 2147483647 := hav (vI u) (by simp)
  have hr_q : -2147483648 ≤ q ∧ q ≤ 2147483647 := hav (vI q) (by simp)
  have hr_w : -2147483648 ≤ w ∧ w ≤ 2147483647 := hav (vI w) (by simp)
  have hr_d : -2147483648 ≤ d ∧ d ≤ 2147483647 := hav (vI d) (by simp)
  have hz : zX6_addRound.2.2.2.1 = some .boolean → ∀ (T' : Zt) (x : Int), po_X6_addRound T c f u q w d T' (some (vI x)) → 0 ≤ x ∧ x ≤ 1 := fun h => by cases h
  have hb_matchCount : 0 ≤ T 106 0 4 ∧ T 106 0 4 ≤ 400 := bd_f hT 106 4 (by decide +kernel : (tf_ 106)[4]? = some (0, 0, 0, 400)) 0
  have hb5 : 0 ≤ T 100 c 5 ∧ T 100 c 5 ≤ 12 := bd_f hT 100 5 (by decide +kernel : (tf_ 100)[5]? = some (0, 0, 0, 12)) c
  have hp1 := an_1b (T 100 c 5)
  have hp2 : T 100 c 5 = 12 → an_ (T 100 c 5) 1 = 0 := fun h => by rw [h]; decide
  show J_ zX6_addRound T (po_X6_addRound T c f u q w d) 18 204 0 [some (vR 106 0), some (vR 100 c), some (vI u), some (vI q), some (vI w), some (vI d), none, none, none, none, none, none] [] T
  have c_58 : ∀ (nn : Nat) (k : Int) (T1 : Zt), ((13 - k).toNat) ≤ nn → (fr_ [(106, [4]), (523, []), (152, []), (102, []), (448, []), (449, [])] T T1) → (RK_ T1 c f (T 100 c 5 + an_ (T 100 c 5) 1 - 1) q k d) → ((∀ i j, i < f → T1 102 i j = T 102 i j) ∧ T 106 0 4 ≤ T1 106 0 4) → (1 ≤ k ∧ k ≤ (T 100 c 5 + an_ (T 100 c 5) 1 - 1) / 2 + 1) → J_ zX6_addRound T (po_X6_addRound T c f u q w d) ((3 * ((T 100 c 5 + an_ (T 100 c 5) 1 - 1) / 2 + 1 - k)).toNat) ((34 * ((T 100 c 5 + an_ (T 100 c 5) 1 - 1) / 2 + 1 - k)).toNat) 58 [some (vR 106 0), some (vR 100 c), some (vI u), some (vI q), some (vI w), some (vI d), some (vI (T 100 c 5 + an_ (T 100 c 5) 1 - 1)), none, some (vI k), none, none, none] [] T1 := by
    intro nn
    induction nn using Nat.strongRecOn with
    | _ nn ih_58 =>
      intro k T1 hm_58 hf_58 hrb1 od1 i1
      have c_111 : ∀ (v : Int), (2 * k ≤ T 100 c 5 + an_ (T 100 c 5) 1 - 1) → J_ zX6_addRound T (po_X6_addRound T c f u q w d) ((3 * ((T 100 c 5 + an_ (T 100 c 5) 1 - 1) / 2 + 1 - k)).toNat) ((34 * ((T 100 c 5 + an_ (T 100 c 5) 1 - 1) / 2 + 1 - k)).toNat) 111 [some (vR 106 0), some (vR 100 c), some (vI u), some (vI q), some (vI w), some (vI d), some (vI (T 100 c 5 + an_ (T 100 c 5) 1 - 1)), none, some (vI k), some (vI ((q + k) % (T 100 c 5 + an_ (T 100 c 5) 1 - 1))), some (vI (((q - k) + (T 100 c 5 + an_ (T 100 c 5) 1 - 1)) % (T 100 c 5 + an_ (T 100 c 5) 1 - 1))), none] [vI v] T1 := by
        intro v i2
        have y1 := em_2 (x := q + k) (R := T 100 c 5 + an_ (T 100 c 5) 1 - 1) (by omega) (by omega)
        have y2 := em_2 (x := q - k + (T 100 c 5 + an_ (T 100 c 5) 1 - 1)) (R := T 100 c 5 + an_ (T 100 c 5) 1 - 1) (by omega) (by omega)
        refine j_blx (F := fX6) tb_X6 (nn_ _) bk_X6_addRound_111 bs_X6_addRound_111 hz (fun K hK => ?_)
        refine And.intro (fun c1 => ?_) (fun c1 => ?_)
        · refine hK 126 [some (vR 106 0), some (vR 100 c), some (vI u), some (vI q), some (vI w), some (vI d), some (vI (T 100 c 5 + an_ (T 100 c 5) 1 - 1)), none, some (vI k), some (vI ((q + k) % (T 100 c 5 + an_ (T 100 c 5) 1 - 1))), some (vI (((q - k) + (T 100 c 5 + an_ (T 100 c 5) 1 - 1)) % (T 100 c 5 + an_ (T 100 c 5) 1 - 1))), some (vI v)] [vI u, vR 100 c, vR 106 0] T1 ?_
          refine j_blx (F := fX6) tb_X6 (nn_ _) bk_X6_addRound_126 bs_X6_addRound_126 hz (fun K hK => ?_)
          refine And.intro (fun c2 => ?_) (fun c2 => ?_)
          · refine hK 138 _ [vI (((q - k) + (T 100 c 5 + an_ (T 100 c 5) 1 - 1)) % (T 100 c 5 + an_ (T 100 c 5) 1 - 1)), vI u, vR 100 c, vR 106 0] T1 ?_
            refine j_blx (F := fX6) tb_X6 (nn_ _) bk_X6_addRound_138 bs_X6_addRound_138 hz (fun K hK => ?_)
            refine hK 142 _ [vI d, vI ((q + k) % (T 100 c 5 + an_ (T 100 c 5) 1 - 1)), vI (((q - k) + (T 100 c 5 + an_ (T 100 c 5) 1 - 1)) % (T 100 c 5 + an_ (T 100 c 5) 1 - 1)), vI u, vR 100 c, vR 106 0] T1 ?_
            refine j_callV (y := yX6_addFixture) (Yc := zX6_addFixture) (rest := []) [vR 100 c, vI u, vI (((q - k) + (T 100 c 5 + an_ (T 100 c 5) 1 - 1)) % (T 100 c 5 + an_ (T 100 c 5) 1 - 1)), vI ((q + k) % (T 100 c 5 + an_ (T 100 c 5) 1 - 1)), vI d] (ct_X6_addFixture (T := T1) hc (by omega) (hrb1.2.2.2.2)) cl_X6_75 (qd_c (by decide +kernel)) (by decide) rfl (by decide +kernel) (Nat.le_of_ble_eq_true rfl) (by show 3 ≤ (3 * ((T 100 c 5 + an_ (T 100 c 5) 1 - 1) / 2 + 1 - k)).toNat; omega) (by show 34 ≤ (34 * ((T 100 c 5 + an_ (T 100 c 5) 1 - 1) / 2 + 1 - k)).toNat; omega) rfl ?_
            rintro U3 _ ⟨rfl, fU3, qU3⟩
            show J_ zX6_addRound T (po_X6_addRound T c f u q w d) (((3 * ((T 100 c 5 + an_ (T 100 c 5) 1 - 1) / 2 + 1 - k)).toNat) - 3) (((34 * ((T 100 c 5 + an_ (T 100 c 5) 1 - 1) / 2 + 1 - k)).toNat) - 34) 145 _ [] U3
            refine j_blx (F := fX6) tb_X6 (nn_ _) bk_X6_addRound_145 bs_X6_addRound_145 hz (fun K hK => ?_)
            refine rg_i (by omega) ?_
            refine hK 58 [some (vR 106 0), some (vR 100 c), some (vI u), some (vI q), some (vI w), some (vI d), some (vI (T 100 c 5 + an_ (T 100 c 5) 1 - 1)), none, some (vI (k + 1)), some (vI ((q + k) % (T 100 c 5 + an_ (T 100 c 5) 1 - 1))), some (vI (((q - k) + (T 100 c 5 + an_ (T 100 c 5) 1 - 1)) % (T 100 c 5 + an_ (T 100 c 5) 1 - 1))), some (vI v)] [] U3 ?_
            refine j_drop [some (vR 106 0), some (vR 100 c), some (vI u), some (vI q), some (vI w), some (vI d), some (vI (T 100 c 5 + an_ (T 100 c 5) 1 - 1)), none, some (vI (k + 1)), none, none, none] (fun k v hk => ?_) rfl ?_
            · match k, hk with
              | 0, hk => exact hk
              | 1, hk => exact hk
              | 2, hk => exact hk
              | 3, hk => exact hk
              | 4, hk => exact hk
              | 5, hk => exact hk
              | 6, hk => exact hk
              | 7, hk => cases hk
              | 8, hk => exact hk
              | 9, hk => cases hk
              | 10, hk => cases hk
              | 11, hk => cases hk
              | k + 12, hk => cases hk
            refine j_mono (bc' := ((3 * ((T 100 c 5 + an_ (T 100 c 5) 1 - 1) / 2 + 1 - (k + 1))).toNat)) (bs' := ((34 * ((T 100 c 5 + an_ (T 100 c 5) 1 - 1) / 2 + 1 - (k + 1))).toNat)) (by omega) (by omega) ?_
            refine ih_58 _ ?_ (k + 1) U3 (Nat.le_refl _) ?_ ?_ ?_ ?_
            · omega
            · exact fr_t (fr_t (fr_0 _ _) (fr_s hf_58 rfl)) (fr_s fU3 rfl)
            · exact (rb_add hrb1 (KEc_f hke hf_58 ⟨rfl, fun _ => rfl, fun _ => rfl⟩) (by omega) (lv_b hr (by omega)) fU3 qU3).1
            · have y9 := rb_add hrb1 (KEc_f hke hf_58 ⟨rfl, fun _ => rfl, fun _ => rfl⟩) (by omega) (lv_b hr (by omega)) fU3 qU3
              exact ⟨fun i j hi => (y9.2.1 i j hi).trans (od1.1 i j hi), by have := y9.2.2; have := od1.2; omega⟩
            · omega
          · refine hK 140 [some (vR 106 0), some (vR 100 c), some (vI u), some (vI q), some (vI w), some (vI d), some (vI (T 100 c 5 + an_ (T 100 c 5) 1 - 1)), none, some (vI k), some (vI ((q + k) % (T 100 c 5 + an_ (T 100 c 5) 1 - 1))), some (vI (((q - k) + (T 100 c 5 + an_ (T 100 c 5) 1 - 1)) % (T 100 c 5 + an_ (T 100 c 5) 1 - 1))), some (vI v)] [vI (((q - k) + (T 100 c 5 + an_ (T 100 c 5) 1 - 1)) % (T 100 c 5 + an_ (T 100 c 5) 1 - 1)), vI (((q - k) + (T 100 c 5 + an_ (T 100 c 5) 1 - 1)) % (T 100 c 5 + an_ (T 100 c 5) 1 - 1)), vI u, vR 100 c, vR 106 0] T1 ?_
            refine j_blx (F := fX6) tb_X6 (nn_ _) bk_X6_addRound_140 bs_X6_addRound_140 hz (fun K hK => ?_)
            refine hK 142 _ [vI d, vI (((q - k) + (T 100 c 5 + an_ (T 100 c 5) 1 - 1)) % (T 100 c 5 + an_ (T 100 c 5) 1 - 1)), vI (((q - k) + (T 100 c 5 + an_ (T 100 c 5) 1 - 1)) % (T 100 c 5 + an_ (T 100 c 5) 1 - 1)), vI u, vR 100 c, vR 106 0] T1 ?_
            refine j_callV (y := yX6_addFixture) (Yc := zX6_addFixture) (rest := []) [vR 100 c, vI u, vI (((q - k) + (T 100 c 5 + an_ (T 100 c 5) 1 - 1)) % (T 100 c 5 + an_ (T 100 c 5) 1 - 1)), vI (((q - k) + (T 100 c 5 + an_ (T 100 c 5) 1 - 1)) % (T 100 c 5 + an_ (T 100 c 5) 1 - 1)), vI d] (ct_X6_addFixture (T := T1) hc (by omega) (hrb1.2.2.2.2)) cl_X6_75 (qd_c (by decide +kernel)) (by decide) rfl (by decide +kernel) (Nat.le_of_ble_eq_true rfl) (by show 3 ≤ (3 * ((T 100 c 5 + an_ (T 100 c 5) 1 - 1) / 2 + 1 - k)).toNat; omega) (by show 34 ≤ (34 * ((T 100 c 5 + an_ (T 100 c 5) 1 - 1) / 2 + 1 - k)).toNat; omega) rfl ?_
            rintro U5 _ ⟨rfl, fU5, qU5⟩
            show J_ zX6_addRound T (po_X6_addRound T c f u q w d) (((3 * ((T 100 c 5 + an_ (T 100 c 5) 1 - 1) / 2 + 1 - k)).toNat) - 3) (((34 * ((T 100 c 5 + an_ (T 100 c 5) 1 - 1) / 2 + 1 - k)).toNat) - 34) 145 _ [] U5
            refine j_blx (F := fX6) tb_X6 (nn_ _) bk_X6_addRound_145 bs_X6_addRound_145 hz (fun K hK => ?_)
            refine rg_i (by omega) ?_
            refine hK 58 [some (vR 106 0), some (vR 100 c), some (vI u), some (vI q), some (vI w), some (vI d), some (vI (T 100 c 5 + an_ (T 100 c 5) 1 - 1)), none, some (vI (k + 1)), some (vI ((q + k) % (T 100 c 5 + an_ (T 100 c 5) 1 - 1))), some (vI (((q - k) + (T 100 c 5 + an_ (T 100 c 5) 1 - 1)) % (T 100 c 5 + an_ (T 100 c 5) 1 - 1))), some (vI v)] [] U5 ?_
            refine j_drop [some (vR 106 0), some (vR 100 c), some (vI u), some (vI q), some (vI w), some (vI d), some (vI (T 100 c 5 + an_ (T 100 c 5) 1 - 1)), none, some (vI (k + 1)), none, none, none] (fun k v hk => ?_) rfl ?_
            · match k, hk with
              | 0, hk => exact hk
              | 1, hk => exact hk
              | 2, hk => exact hk
              | 3, hk => exact hk
              | 4, hk => exact hk
              | 5, hk => exact hk
              | 6, hk => exact hk
              | 7, hk => cases hk
              | 8, hk => exact hk
              | 9, hk => cases hk
              | 10, hk => cases hk
              | 11, hk => cases hk
              | k + 12, hk => cases hk
            refine j_mono (bc' := ((3 * ((T 100 c 5 + an_ (T 100 c 5) 1 - 1) / 2 + 1 - (k + 1))).toNat)) (bs' := ((34 * ((T 100 c 5 + an_ (T 100 c 5) 1 - 1) / 2 + 1 - (k + 1))).toNat)) (by omega) (by omega) ?_
            refine ih_58 _ ?_ (k + 1) U5 (Nat.le_refl _) ?_ ?_ ?_ ?_
            · omega
            · exact fr_t (fr_t (fr_0 _ _) (fr_s hf_58 rfl)) (fr_s fU5 rfl)
            · exact (rb_add hrb1 (KEc_f hke hf_58 ⟨rfl, fun _ => rfl, fun _ => rfl⟩) (by omega) (lv_b hr (by omega)) fU5 qU5).1
            · have y9 := rb_add hrb1 (KEc_f hke hf_58 ⟨rfl, fun _ => rfl, fun _ => rfl⟩) (by omega) (lv_b hr (by omega)) fU5 qU5
              exact ⟨fun i j hi => (y9.2.1 i j hi).trans (od1.1 i j hi), by have := y9.2.2; have := od1.2; omega⟩
            · omega
        · refine hK 128 _ [vI ((q + k) % (T 100 c 5 + an_ (T 100 c 5) 1 - 1)), vI u, vR 100 c, vR 106 0] T1 ?_
          refine j_blx (F := fX6) tb_X6 (nn_ _) bk_X6_addRound_128 bs_X6_addRound_128 hz (fun K hK => ?_)
          refine And.intro (fun c7 => ?_) (fun c7 => ?_)
          · refine hK 138 _ [vI ((q + k) % (T 100 c 5 + an_ (T 100 c 5) 1 - 1)), vI u, vR 100 c, vR 106 0] T1 ?_
            refine j_blx (F := fX6) tb_X6 (nn_ _) bk_X6_addRound_138 bs_X6_addRound_138 hz (fun K hK => ?_)
            refine hK 142 _ [vI d, vI ((q + k) % (T 100 c 5 + an_ (T 100 c 5) 1 - 1)), vI ((q + k) % (T 100 c 5 + an_ (T 100 c 5) 1 - 1)), vI u, vR 100 c, vR 106 0] T1 ?_
            refine j_callV (y := yX6_addFixture) (Yc := zX6_addFixture) (rest := []) [vR 100 c, vI u, vI ((q + k) % (T 100 c 5 + an_ (T 100 c 5) 1 - 1)), vI ((q + k) % (T 100 c 5 + an_ (T 100 c 5) 1 - 1)), vI d] (ct_X6_addFixture (T := T1) hc (by omega) (hrb1.2.2.2.2)) cl_X6_75 (qd_c (by decide +kernel)) (by decide) rfl (by decide +kernel) (Nat.le_of_ble_eq_true rfl) (by show 3 ≤ (3 * ((T 100 c 5 + an_ (T 100 c 5) 1 - 1) / 2 + 1 - k)).toNat; omega) (by show 34 ≤ (34 * ((T 100 c 5 + an_ (T 100 c 5) 1 - 1) / 2 + 1 - k)).toNat; omega) rfl ?_
            rintro U8 _ ⟨rfl, fU8, qU8⟩
            show J_ zX6_addRound T (po_X6_addRound T c f u q w d) (((3 * ((T 100 c 5 + an_ (T 100 c 5) 1 - 1) / 2 + 1 - k)).toNat) - 3) (((34 * ((T 100 c 5 + an_ (T 100 c 5) 1 - 1) / 2 + 1 - k)).toNat) - 34) 145 _ [] U8
            refine j_blx (F := fX6) tb_X6 (nn_ _) bk_X6_addRound_145 bs_X6_addRound_145 hz (fun K hK => ?_)
            refine rg_i (by omega) ?_
            refine hK 58 [some (vR 106 0), some (vR 100 c), some (vI u), some (vI q), some (vI w), some (vI d), some (vI (T 100 c 5 + an_ (T 100 c 5) 1 - 1)), none, some (vI (k + 1)), some (vI ((q + k) % (T 100 c 5 + an_ (T 100 c 5) 1 - 1))), some (vI (((q - k) + (T 100 c 5 + an_ (T 100 c 5) 1 - 1)) % (T 100 c 5 + an_ (T 100 c 5) 1 - 1))), some (vI v)] [] U8 ?_
            refine j_drop [some (vR 106 0), some (vR 100 c), some (vI u), some (vI q), some (vI w), some (vI d), some (vI (T 100 c 5 + an_ (T 100 c 5) 1 - 1)), none, some (vI (k + 1)), none, none, none] (fun k v hk => ?_) rfl ?_
            · match k, hk with
              | 0, hk => exact hk
              | 1, hk => exact hk
              | 2, hk => exact hk
              | 3, hk => exact hk
              | 4, hk => exact hk
              | 5, hk => exact hk
              | 6, hk => exact hk
              | 7, hk => cases hk
              | 8, hk => exact hk
              | 9, hk => cases hk
              | 10, hk => cases hk
              | 11, hk => cases hk
              | k + 12, hk => cases hk
            refine j_mono (bc' := ((3 * ((T 100 c 5 + an_ (T 100 c 5) 1 - 1) / 2 + 1 - (k + 1))).toNat)) (bs' := ((34 * ((T 100 c 5 + an_ (T 100 c 5) 1 - 1) / 2 + 1 - (k + 1))).toNat)) (by omega) (by omega) ?_
            refine ih_58 _ ?_ (k + 1) U8 (Nat.le_refl _) ?_ ?_ ?_ ?_
            · omega
            · exact fr_t (fr_t (fr_0 _ _) (fr_s hf_58 rfl)) (fr_s fU8 rfl)
            · exact (rb_add hrb1 (KEc_f hke hf_58 ⟨rfl, fun _ => rfl, fun _ => rfl⟩) (by omega) (lv_a hr (by omega)) fU8 qU8).1
            · have y9 := rb_add hrb1 (KEc_f hke hf_58 ⟨rfl, fun _ => rfl, fun _ => rfl⟩) (by omega) (lv_a hr (by omega)) fU8 qU8
              exact ⟨fun i j hi => (y9.2.1 i j hi).trans (od1.1 i j hi), by have := y9.2.2; have := od1.2; omega⟩
            · omega
          · refine hK 140 [some (vR 106 0), some (vR 100 c), some (vI u), some (vI q), some (vI w), some (vI d), some (vI (T 100 c 5 + an_ (T 100 c 5) 1 - 1)), none, some (vI k), some (vI ((q + k) % (T 100 c 5 + an_ (T 100 c 5) 1 - 1))), some (vI (((q - k) + (T 100 c 5 + an_ (T 100 c 5) 1 - 1)) % (T 100 c 5 + an_ (T 100 c 5) 1 - 1))), some (vI v)] [vI (((q - k) + (T 100 c 5 + an_ (T 100 c 5) 1 - 1)) % (T 100 c 5 + an_ (T 100 c 5) 1 - 1)), vI ((q + k) % (T 100 c 5 + an_ (T 100 c 5) 1 - 1)), vI u, vR 100 c, vR 106 0] T1 ?_
            refine j_blx (F := fX6) tb_X6 (nn_ _) bk_X6_addRound_140 bs_X6_addRound_140 hz (fun K hK => ?_)
            refine hK 142 _ [vI d, vI (((q - k) + (T 100 c 5 + an_ (T 100 c 5) 1 - 1)) % (T 100 c 5 + an_ (T 100 c 5) 1 - 1)), vI ((q + k) % (T 100 c 5 + an_ (T 100 c 5) 1 - 1)), vI u, vR 100 c, vR 106 0] T1 ?_
            refine j_callV (y := yX6_addFixture) (Yc := zX6_addFixture) (rest := []) [vR 100 c, vI u, vI ((q + k) % (T 100 c 5 + an_ (T 100 c 5) 1 - 1)), vI (((q - k) + (T 100 c 5 + an_ (T 100 c 5) 1 - 1)) % (T 100 c 5 + an_ (T 100 c 5) 1 - 1)), vI d] (ct_X6_addFixture (T := T1) hc (by omega) (hrb1.2.2.2.2)) cl_X6_75 (qd_c (by decide +kernel)) (by decide) rfl (by decide +kernel) (Nat.le_of_ble_eq_true rfl) (by show 3 ≤ (3 * ((T 100 c 5 + an_ (T 100 c 5) 1 - 1) / 2 + 1 - k)).toNat; omega) (by show 34 ≤ (34 * ((T 100 c 5 + an_ (T 100 c 5) 1 - 1) / 2 + 1 - k)).toNat; omega) rfl ?_
            rintro U10 _ ⟨rfl, fU10, qU10⟩
            show J_ zX6_addRound T (po_X6_addRound T c f u q w d) (((3 * ((T 100 c 5 + an_ (T 100 c 5) 1 - 1) / 2 + 1 - k)).toNat) - 3) (((34 * ((T 100 c 5 + an_ (T 100 c 5) 1 - 1) / 2 + 1 - k)).toNat) - 34) 145 _ [] U10
            refine j_blx (F := fX6) tb_X6 (nn_ _) bk_X6_addRound_145 bs_X6_addRound_145 hz (fun K hK => ?_)
            refine rg_i (by omega) ?_
            refine hK 58 [some (vR 106 0), some (vR 100 c), some (vI u), some (vI q), some (vI w), some (vI d), some (vI (T 100 c 5 + an_ (T 100 c 5) 1 - 1)), none, some (vI (k + 1)), some (vI ((q + k) % (T 100 c 5 + an_ (T 100 c 5) 1 - 1))), some (vI (((q - k) + (T 100 c 5 + an_ (T 100 c 5) 1 - 1)) % (T 100 c 5 + an_ (T 100 c 5) 1 - 1))), some (vI v)] [] U10 ?_
            refine j_drop [some (vR 106 0), some (vR 100 c), some (vI u), some (vI q), some (vI w), some (vI d), some (vI (T 100 c 5 + an_ (T 100 c 5) 1 - 1)), none, some (vI (k + 1)), none, none, none] (fun k v hk => ?_) rfl ?_
            · match k, hk with
              | 0, hk => exact hk
              | 1, hk => exact hk
              | 2, hk => exact hk
              | 3, hk => exact hk
              | 4, hk => exact hk
              | 5, hk => exact hk
              | 6, hk => exact hk
              | 7, hk => cases hk
              | 8, hk => exact hk
              | 9, hk => cases hk
              | 10, hk => cases hk
              | 11, hk => cases hk
              | k + 12, hk => cases hk
            refine j_mono (bc' := ((3 * ((T 100 c 5 + an_ (T 100 c 5) 1 - 1) / 2 + 1 - (k + 1))).toNat)) (bs' := ((34 * ((T 100 c 5 + an_ (T 100 c 5) 1 - 1) / 2 + 1 - (k + 1))).toNat)) (by omega) (by omega) ?_
            refine ih_58 _ ?_ (k + 1) U10 (Nat.le_refl _) ?_ ?_ ?_ ?_
            · omega
            · exact fr_t (fr_t (fr_0 _ _) (fr_s hf_58 rfl)) (fr_s fU10 rfl)
            · exact (rb_add hrb1 (KEc_f hke hf_58 ⟨rfl, fun _ => rfl, fun _ => rfl⟩) (by omega) (lv_a hr (by omega)) fU10 qU10).1
            · have y9 := rb_add hrb1 (KEc_f hke hf_58 ⟨rfl, fun _ => rfl, fun _ => rfl⟩) (by omega) (lv_a hr (by omega)) fU10 qU10
              exact ⟨fun i j hi => (y9.2.1 i j hi).trans (od1.1 i j hi), by have := y9.2.2; have := od1.2; omega⟩
            · omega
      refine j_blx (F := fX6) tb_X6 (nn_ _) bk_X6_addRound_58 bs_X6_addRound_58 hz (fun K hK => ?_)
      refine dv_i (by omega) ?_
      refine And.intro (fun c12 => ?_) (fun c12 => ?_)
      · refine hK 151 _ [] T1 ?_
        refine j_blx (F := fX6) tb_X6 (nn_ _) bk_X6_addRound_151 bs_X6_addRound_151 hz (fun K hK => ?_)
        refine (show po_X6_addRound T c f u q w d T1 (none) from ?_)
        exact ⟨rfl, hf_58, rb_mono hrb1 (by omega), od1⟩
      · refine rg_i (by omega) ?_
        refine dv_i (by omega) ?_
        refine rg_i (by omega) ?_
        refine rg_i (by omega) ?_
        refine dv_i (by omega) ?_
        intro w13 w13b
        refine And.intro (fun c14 => ?_) (fun c14 => ?_)
        · refine hK 100 [some (vR 106 0), some (vR 100 c), some (vI u), some (vI q), some (vI w), some (vI d), some (vI (T 100 c 5 + an_ (T 100 c 5) 1 - 1)), none, some (vI k), some (vI ((q + k) % (T 100 c 5 + an_ (T 100 c 5) 1 - 1))), some (vI (((q - k) + (T 100 c 5 + an_ (T 100 c 5) 1 - 1)) % (T 100 c 5 + an_ (T 100 c 5) 1 - 1))), none] [] T1 ?_
          refine j_blx (F := fX6) tb_X6 (nn_ _) bk_X6_addRound_100 bs_X6_addRound_100 hz (fun K hK => ?_)
          refine And.intro (fun c15 => ?_) (fun c15 => ?_)
          · refine hK 110 _ [] T1 ?_
            refine j_blx (F := fX6) tb_X6 (nn_ _) bk_X6_addRound_110 bs_X6_addRound_110 hz (fun K hK => ?_)
            refine hK 111 _ [vI 0] T1 ?_
            refine c_111 0 ?_
            · omega
          · refine hK 111 _ [vI 1] T1 ?_
            refine c_111 1 ?_
            · omega
        · refine hK 101 _ [vI 1] T1 ?_
          refine j_blx (F := fX6) tb_X6 (nn_ _) bk_X6_addRound_101 bs_X6_addRound_101 hz (fun K hK => ?_)
          refine And.intro (fun c16 => ?_) (fun c16 => ?_)
          · refine hK 110 _ [] T1 ?_
            refine j_blx (F := fX6) tb_X6 (nn_ _) bk_X6_addRound_110 bs_X6_addRound_110 hz (fun K hK => ?_)
            refine hK 111 _ [vI 0] T1 ?_
            refine c_111 0 ?_
            · omega
          · refine hK 111 _ [vI 1] T1 ?_
            refine c_111 1 ?_
            · omega
  refine j_blx (F := fX6) tb_X6 (nn_ _) bk_X6_addRound_0 bs_X6_addRound_0 hz (fun K hK => ?_)
  refine hK 1 _ [vR 100 c] T ?_
  refine j_callV (y := yX0_placeCount) (Yc := zX0_placeCount) (rest := []) [] (ct_X0_placeCount (T := T)) cl_X6_63 (qd_c (by decide +kernel)) (nn_ _) rfl (rf_of rfl) (Nat.le_of_ble_eq_true rfl) (Nat.le_of_ble_eq_true rfl) (Nat.le_of_ble_eq_true rfl) rfl ?_
  rintro _ _ ⟨rfl, rfl⟩
  show J_ zX6_addRound T (po_X6_addRound T c f u q w d) 18 204 4 _ [vI (T 100 c 5 + an_ (T 100 c 5) 1)] T
  refine j_blx (F := fX6) tb_X6 (nn_ _) bk_X6_addRound_4 bs_X6_addRound_4 hz (fun K hK => ?_)
  refine rg_i (by omega) ?_
  intro w17 w17b
  refine And.intro (fun c18 => ?_) (fun c18 => ?_)
  · refine hK 18 [some (vR 106 0), some (vR 100 c), some (vI u), some (vI q), some (vI w), some (vI d), some (vI ((T 100 c 5 + an_ (T 100 c 5) 1) - 1)), none, none, none, none, none] [] T ?_
    refine j_blx (F := fX6) tb_X6 (nn_ _) bk_X6_addRound_18 bs_X6_addRound_18 hz (fun K hK => ?_)
    refine And.intro (fun c19 => ?_) (fun c19 => ?_)
    · refine hK 35 [some (vR 106 0), some (vR 100 c), some (vI u), some (vI q), some (vI w), some (vI d), some (vI ((T 100 c 5 + an_ (T 100 c 5) 1) - 1)), some (vI 0), none, none, none, none] [vI u, vR 100 c, vR 106 0] T ?_
      refine j_blx (F := fX6) tb_X6 (nn_ _) bk_X6_addRound_35 bs_X6_addRound_35 hz (fun K hK => ?_)
      refine And.intro (fun c20 => ?_) (fun c20 => ?_)
      · refine hK 49 _ [vI ((T 100 c 5 + an_ (T 100 c 5) 1) - 1), vI u, vR 100 c, vR 106 0] T ?_
        refine j_blx (F := fX6) tb_X6 (nn_ _) bk_X6_addRound_49 bs_X6_addRound_49 hz (fun K hK => ?_)
        refine hK 52 _ [vI d, vI q, vI ((T 100 c 5 + an_ (T 100 c 5) 1) - 1), vI u, vR 100 c, vR 106 0] T ?_
        refine j_callV (y := yX6_addFixture) (Yc := zX6_addFixture) (rest := []) [vR 100 c, vI u, vI ((T 100 c 5 + an_ (T 100 c 5) 1) - 1), vI q, vI d] (ct_X6_addFixture (T := T) hc (by omega) (hrb.2.2.2.2)) cl_X6_75 (qd_c (by decide +kernel)) (nn_ _) rfl (rf_of rfl) (Nat.le_of_ble_eq_true rfl) (Nat.le_of_ble_eq_true rfl) (Nat.le_of_ble_eq_true rfl) rfl ?_
        rintro U21 _ ⟨rfl, fU21, qU21⟩
        show J_ zX6_addRound T (po_X6_addRound T c f u q w d) 15 170 55 _ [] U21
        refine j_blx (F := fX6) tb_X6 (nn_ _) bk_X6_addRound_55 bs_X6_addRound_55 hz (fun K hK => ?_)
        refine hK 58 [some (vR 106 0), some (vR 100 c), some (vI u), some (vI q), some (vI w), some (vI d), some (vI ((T 100 c 5 + an_ (T 100 c 5) 1) - 1)), some (vI 0), some (vI 1), none, none, none] [] U21 ?_
        refine j_drop [some (vR 106 0), some (vR 100 c), some (vI u), some (vI q), some (vI w), some (vI d), some (vI ((T 100 c 5 + an_ (T 100 c 5) 1) - 1)), none, some (vI 1), none, none, none] (fun k v hk => ?_) rfl ?_
        · match k, hk with
          | 0, hk => exact hk
          | 1, hk => exact hk
          | 2, hk => exact hk
          | 3, hk => exact hk
          | 4, hk => exact hk
          | 5, hk => exact hk
          | 6, hk => exact hk
          | 7, hk => cases hk
          | 8, hk => exact hk
          | 9, hk => cases hk
          | 10, hk => cases hk
          | 11, hk => cases hk
          | k + 12, hk => cases hk
        refine j_mono (bc' := ((3 * ((T 100 c 5 + an_ (T 100 c 5) 1 - 1) / 2 + 1 - 1)).toNat)) (bs' := ((34 * ((T 100 c 5 + an_ (T 100 c 5) 1 - 1) / 2 + 1 - 1)).toNat)) (by omega) (by omega) ?_
        refine c_58 _ 1 U21 (Nat.le_refl _) ?_ ?_ ?_ ?_
        · exact fr_t (fr_0 _ _) (fr_s fU21 rfl)
        · exact (rb_add hrb hke (by omega) (lv_R _ _) fU21 qU21).1
        · exact (rb_add hrb hke (by omega) (lv_R _ _) fU21 qU21).2
        · omega
      · refine hK 50 [some (vR 106 0), some (vR 100 c), some (vI u), some (vI q), some (vI w), some (vI d), some (vI ((T 100 c 5 + an_ (T 100 c 5) 1) - 1)), some (vI 0), none, none, none, none] [vI ((T 100 c 5 + an_ (T 100 c 5) 1) - 1), vI ((T 100 c 5 + an_ (T 100 c 5) 1) - 1), vI u, vR 100 c, vR 106 0] T ?_
        refine j_blx (F := fX6) tb_X6 (nn_ _) bk_X6_addRound_50 bs_X6_addRound_50 hz (fun K hK => ?_)
        refine hK 52 _ [vI d, vI ((T 100 c 5 + an_ (T 100 c 5) 1) - 1), vI ((T 100 c 5 + an_ (T 100 c 5) 1) - 1), vI u, vR 100 c, vR 106 0] T ?_
        refine j_callV (y := yX6_addFixture) (Yc := zX6_addFixture) (rest := []) [vR 100 c, vI u, vI ((T 100 c 5 + an_ (T 100 c 5) 1) - 1), vI ((T 100 c 5 + an_ (T 100 c 5) 1) - 1), vI d] (ct_X6_addFixture (T := T) hc (by omega) (hrb.2.2.2.2)) cl_X6_75 (qd_c (by decide +kernel)) (nn_ _) rfl (rf_of rfl) (Nat.le_of_ble_eq_true rfl) (Nat.le_of_ble_eq_true rfl) (Nat.le_of_ble_eq_true rfl) rfl ?_
        rintro U23 _ ⟨rfl, fU23, qU23⟩
        show J_ zX6_addRound T (po_X6_addRound T c f u q w d) 15 170 55 _ [] U23
        refine j_blx (F := fX6) tb_X6 (nn_ _) bk_X6_addRound_55 bs_X6_addRound_55 hz (fun K hK => ?_)
        refine hK 58 [some (vR 106 0), some (vR 100 c), some (vI u), some (vI q), some (vI w), some (vI d), some (vI ((T 100 c 5 + an_ (T 100 c 5) 1) - 1)), some (vI 0), some (vI 1), none, none, none] [] U23 ?_
        refine j_drop [some (vR 106 0), some (vR 100 c), some (vI u), some (vI q), some (vI w), some (vI d), some (vI ((T 100 c 5 + an_ (T 100 c 5) 1) - 1)), none, some (vI 1), none, none, none] (fun k v hk => ?_) rfl ?_
        · match k, hk with
          | 0, hk => exact hk
          | 1, hk => exact hk
          | 2, hk => exact hk
          | 3, hk => exact hk
          | 4, hk => exact hk
          | 5, hk => exact hk
          | 6, hk => exact hk
          | 7, hk => cases hk
          | 8, hk => exact hk
          | 9, hk => cases hk
          | 10, hk => cases hk
          | 11, hk => cases hk
          | k + 12, hk => cases hk
        refine j_mono (bc' := ((3 * ((T 100 c 5 + an_ (T 100 c 5) 1 - 1) / 2 + 1 - 1)).toNat)) (bs' := ((34 * ((T 100 c 5 + an_ (T 100 c 5) 1 - 1) / 2 + 1 - 1)).toNat)) (by omega) (by omega) ?_
        refine c_58 _ 1 U23 (Nat.le_refl _) ?_ ?_ ?_ ?_
        · exact fr_t (fr_0 _ _) (fr_s fU23 rfl)
        · exact (rb_add hrb hke (by omega) (lv_R _ _) fU23 qU23).1
        · exact (rb_add hrb hke (by omega) (lv_R _ _) fU23 qU23).2
        · omega
    · refine hK 37 _ [vI q, vI u, vR 100 c, vR 106 0] T ?_
      refine j_blx (F := fX6) tb_X6 (nn_ _) bk_X6_addRound_37 bs_X6_addRound_37 hz (fun K hK => ?_)
      refine And.intro (fun c25 => ?_) (fun c25 => ?_)
      · refine hK 49 _ [vI q, vI u, vR 100 c, vR 106 0] T ?_
        refine j_blx (F := fX6) tb_X6 (nn_ _) bk_X6_addRound_49 bs_X6_addRound_49 hz (fun K hK => ?_)
        refine hK 52 _ [vI d, vI q, vI q, vI u, vR 100 c, vR 106 0] T ?_
        refine j_callV (y := yX6_addFixture) (Yc := zX6_addFixture) (rest := []) [vR 100 c, vI u, vI q, vI q, vI d] (ct_X6_addFixture (T := T) hc (by omega) (hrb.2.2.2.2)) cl_X6_75 (qd_c (by decide +kernel)) (nn_ _) rfl (rf_of rfl) (Nat.le_of_ble_eq_true rfl) (Nat.le_of_ble_eq_true rfl) (Nat.le_of_ble_eq_true rfl) rfl ?_
        rintro U26 _ ⟨rfl, fU26, qU26⟩
        show J_ zX6_addRound T (po_X6_addRound T c f u q w d) 15 170 55 _ [] U26
        refine j_blx (F := fX6) tb_X6 (nn_ _) bk_X6_addRound_55 bs_X6_addRound_55 hz (fun K hK => ?_)
        refine hK 58 [some (vR 106 0), some (vR 100 c), some (vI u), some (vI q), some (vI w), some (vI d), some (vI ((T 100 c 5 + an_ (T 100 c 5) 1) - 1)), some (vI 0), some (vI 1), none, none, none] [] U26 ?_
        refine j_drop [some (vR 106 0), some (vR 100 c), some (vI u), some (vI q), some (vI w), some (vI d), some (vI ((T 100 c 5 + an_ (T 100 c 5) 1) - 1)), none, some (vI 1), none, none, none] (fun k v hk => ?_) rfl ?_
        · match k, hk with
          | 0, hk => exact hk
          | 1, hk => exact hk
          | 2, hk => exact hk
          | 3, hk => exact hk
          | 4, hk => exact hk
          | 5, hk => exact hk
          | 6, hk => exact hk
          | 7, hk => cases hk
          | 8, hk => exact hk
          | 9, hk => cases hk
          | 10, hk => cases hk
          | 11, hk => cases hk
          | k + 12, hk => cases hk
        refine j_mono (bc' := ((3 * ((T 100 c 5 + an_ (T 100 c 5) 1 - 1) / 2 + 1 - 1)).toNat)) (bs' := ((34 * ((T 100 c 5 + an_ (T 100 c 5) 1 - 1) / 2 + 1 - 1)).toNat)) (by omega) (by omega) ?_
        refine c_58 _ 1 U26 (Nat.le_refl _) ?_ ?_ ?_ ?_
        · exact fr_t (fr_0 _ _) (fr_s fU26 rfl)
        · exact (rb_add hrb hke (by omega) (lv_r hr) fU26 qU26).1
        · exact (rb_add hrb hke (by omega) (lv_r hr) fU26 qU26).2
        · omega
      · refine hK 50 [some (vR 106 0), some (vR 100 c), some (vI u), some (vI q), some (vI w), some (vI d), some (vI ((T 100 c 5 + an_ (T 100 c 5) 1) - 1)), some (vI 0), none, none, none, none] [vI ((T 100 c 5 + an_ (T 100 c 5) 1) - 1), vI q, vI u, vR 100 c, vR 106 0] T ?_
        refine j_blx (F := fX6) tb_X6 (nn_ _) bk_X6_addRound_50 bs_X6_addRound_50 hz (fun K hK => ?_)
        refine hK 52 _ [vI d, vI ((T 100 c 5 + an_ (T 100 c 5) 1) - 1), vI q, vI u, vR 100 c, vR 106 0] T ?_
        refine j_callV (y := yX6_addFixture) (Yc := zX6_addFixture) (rest := []) [vR 100 c, vI u, vI q, vI ((T 100 c 5 + an_ (T 100 c 5) 1) - 1), vI d] (ct_X6_addFixture (T := T) hc (by omega) (hrb.2.2.2.2)) cl_X6_75 (qd_c (by decide +kernel)) (nn_ _) rfl (rf_of rfl) (Nat.le_of_ble_eq_true rfl) (Nat.le_of_ble_eq_true rfl) (Nat.le_of_ble_eq_true rfl) rfl ?_
        rintro U28 _ ⟨rfl, fU28, qU28⟩
        show J_ zX6_addRound T (po_X6_addRound T c f u q w d) 15 170 55 _ [] U28
        refine j_blx (F := fX6) tb_X6 (nn_ _) bk_X6_addRound_55 bs_X6_addRound_55 hz (fun K hK => ?_)
        refine hK 58 [some (vR 106 0), some (vR 100 c), some (vI u), some (vI q), some (vI w), some (vI d), some (vI ((T 100 c 5 + an_ (T 100 c 5) 1) - 1)), some (vI 0), some (vI 1), none, none, none] [] U28 ?_
        refine j_drop [some (vR 106 0), some (vR 100 c), some (vI u), some (vI q), some (vI w), some (vI d), some (vI ((T 100 c 5 + an_ (T 100 c 5) 1) - 1)), none, some (vI 1), none, none, none] (fun k v hk => ?_) rfl ?_
        · match k, hk with
          | 0, hk => exact hk
          | 1, hk => exact hk
          | 2, hk => exact hk
          | 3, hk => exact hk
          | 4, hk => exact hk
          | 5, hk => exact hk
          | 6, hk => exact hk
          | 7, hk => cases hk
          | 8, hk => exact hk
          | 9, hk => cases hk
          | 10, hk => cases hk
          | 11, hk => cases hk
          | k + 12, hk => cases hk
        refine j_mono (bc' := ((3 * ((T 100 c 5 + an_ (T 100 c 5) 1 - 1) / 2 + 1 - 1)).toNat)) (bs' := ((34 * ((T 100 c 5 + an_ (T 100 c 5) 1 - 1) / 2 + 1 - 1)).toNat)) (by omega) (by omega) ?_
        refine c_58 _ 1 U28 (Nat.le_refl _) ?_ ?_ ?_ ?_
        · exact fr_t (fr_0 _ _) (fr_s fU28 rfl)
        · exact (rb_add hrb hke (by omega) (lv_r hr) fU28 qU28).1
        · exact (rb_add hrb hke (by omega) (lv_r hr) fU28 qU28).2
        · omega
  · refine hK 19 _ [vI 1] T ?_
    refine j_blx (F := fX6) tb_X6 (nn_ _) bk_X6_addRound_19 bs_X6_addRound_19 hz (fun K hK => ?_)
    refine And.intro (fun c30 => ?_) (fun c30 => ?_)
    · refine hK 35 [some (vR 106 0), some (vR 100 c), some (vI u), some (vI q), some (vI w), some (vI d), some (vI ((T 100 c 5 + an_ (T 100 c 5) 1) - 1)), some (vI 1), none, none, none, none] [vI u, vR 100 c, vR 106 0] T ?_
      refine j_blx (F := fX6) tb_X6 (nn_ _) bk_X6_addRound_35 bs_X6_addRound_35 hz (fun K hK => ?_)
      refine And.intro (fun c31 => ?_) (fun c31 => ?_)
      · refine hK 49 _ [vI ((T 100 c 5 + an_ (T 100 c 5) 1) - 1), vI u, vR 100 c, vR 106 0] T ?_
        refine j_blx (F := fX6) tb_X6 (nn_ _) bk_X6_addRound_49 bs_X6_addRound_49 hz (fun K hK => ?_)
        refine hK 52 _ [vI d, vI q, vI ((T 100 c 5 + an_ (T 100 c 5) 1) - 1), vI u, vR 100 c, vR 106 0] T ?_
        refine j_callV (y := yX6_addFixture) (Yc := zX6_addFixture) (rest := []) [vR 100 c, vI u, vI ((T 100 c 5 + an_ (T 100 c 5) 1) - 1), vI q, vI d] (ct_X6_addFixture (T := T) hc (by omega) (hrb.2.2.2.2)) cl_X6_75 (qd_c (by decide +kernel)) (nn_ _) rfl (rf_of rfl) (Nat.le_of_ble_eq_true rfl) (Nat.le_of_ble_eq_true rfl) (Nat.le_of_ble_eq_true rfl) rfl ?_
        rintro U32 _ ⟨rfl, fU32, qU32⟩
        show J_ zX6_addRound T (po_X6_addRound T c f u q w d) 15 170 55 _ [] U32
        refine j_blx (F := fX6) tb_X6 (nn_ _) bk_X6_addRound_55 bs_X6_addRound_55 hz (fun K hK => ?_)
        refine hK 58 [some (vR 106 0), some (vR 100 c), some (vI u), some (vI q), some (vI w), some (vI d), some (vI ((T 100 c 5 + an_ (T 100 c 5) 1) - 1)), some (vI 1), some (vI 1), none, none, none] [] U32 ?_
        refine j_drop [some (vR 106 0), some (vR 100 c), some (vI u), some (vI q), some (vI w), some (vI d), some (vI ((T 100 c 5 + an_ (T 100 c 5) 1) - 1)), none, some (vI 1), none, none, none] (fun k v hk => ?_) rfl ?_
        · match k, hk with
          | 0, hk => exact hk
          | 1, hk => exact hk
          | 2, hk => exact hk
          | 3, hk => exact hk
          | 4, hk => exact hk
          | 5, hk => exact hk
          | 6, hk => exact hk
          | 7, hk => cases hk
          | 8, hk => exact hk
          | 9, hk => cases hk
          | 10, hk => cases hk
          | 11, hk => cases hk
          | k + 12, hk => cases hk
        refine j_mono (bc' := ((3 * ((T 100 c 5 + an_ (T 100 c 5) 1 - 1) / 2 + 1 - 1)).toNat)) (bs' := ((34 * ((T 100 c 5 + an_ (T 100 c 5) 1 - 1) / 2 + 1 - 1)).toNat)) (by omega) (by omega) ?_
        refine c_58 _ 1 U32 (Nat.le_refl _) ?_ ?_ ?_ ?_
        · exact fr_t (fr_0 _ _) (fr_s fU32 rfl)
        · exact (rb_add hrb hke (by omega) (lv_R _ _) fU32 qU32).1
        · exact (rb_add hrb hke (by omega) (lv_R _ _) fU32 qU32).2
        · omega
      · refine hK 50 [some (vR 106 0), some (vR 100 c), some (vI u), some (vI q), some (vI w), some (vI d), some (vI ((T 100 c 5 + an_ (T 100 c 5) 1) - 1)), some (vI 1), none, none, none, none] [vI ((T 100 c 5 + an_ (T 100 c 5) 1) - 1), vI ((T 100 c 5 + an_ (T 100 c 5) 1) - 1), vI u, vR 100 c, vR 106 0] T ?_
        refine j_blx (F := fX6) tb_X6 (nn_ _) bk_X6_addRound_50 bs_X6_addRound_50 hz (fun K hK => ?_)
        refine hK 52 _ [vI d, vI ((T 100 c 5 + an_ (T 100 c 5) 1) - 1), vI ((T 100 c 5 + an_ (T 100 c 5) 1) - 1), vI u, vR 100 c, vR 106 0] T ?_
        refine j_callV (y := yX6_addFixture) (Yc := zX6_addFixture) (rest := []) [vR 100 c, vI u, vI ((T 100 c 5 + an_ (T 100 c 5) 1) - 1), vI ((T 100 c 5 + an_ (T 100 c 5) 1) - 1), vI d] (ct_X6_addFixture (T := T) hc (by omega) (hrb.2.2.2.2)) cl_X6_75 (qd_c (by decide +kernel)) (nn_ _) rfl (rf_of rfl) (Nat.le_of_ble_eq_true rfl) (Nat.le_of_ble_eq_true rfl) (Nat.le_of_ble_eq_true rfl) rfl ?_
        rintro U34 _ ⟨rfl, fU34, qU34⟩
        show J_ zX6_addRound T (po_X6_addRound T c f u q w d) 15 170 55 _ [] U34
        refine j_blx (F := fX6) tb_X6 (nn_ _) bk_X6_addRound_55 bs_X6_addRound_55 hz (fun K hK => ?_)
        refine hK 58 [some (vR 106 0), some (vR 100 c), some (vI u), some (vI q), some (vI w), some (vI d), some (vI ((T 100 c 5 + an_ (T 100 c 5) 1) - 1)), some (vI 1), some (vI 1), none, none, none] [] U34 ?_
        refine j_drop [some (vR 106 0), some (vR 100 c), some (vI u), some (vI q), some (vI w), some (vI d), some (vI ((T 100 c 5 + an_ (T 100 c 5) 1) - 1)), none, some (vI 1), none, none, none] (fun k v hk => ?_) rfl ?_
        · match k, hk with
          | 0, hk => exact hk
          | 1, hk => exact hk
          | 2, hk => exact hk
          | 3, hk => exact hk
          | 4, hk => exact hk
          | 5, hk => exact hk
          | 6, hk => exact hk
          | 7, hk => cases hk
          | 8, hk => exact hk
          | 9, hk => cases hk
          | 10, hk => cases hk
          | 11, hk => cases hk
          | k + 12, hk => cases hk
        refine j_mono (bc' := ((3 * ((T 100 c 5 + an_ (T 100 c 5) 1 - 1) / 2 + 1 - 1)).toNat)) (bs' := ((34 * ((T 100 c 5 + an_ (T 100 c 5) 1 - 1) / 2 + 1 - 1)).toNat)) (by omega) (by omega) ?_
        refine c_58 _ 1 U34 (Nat.le_refl _) ?_ ?_ ?_ ?_
        · exact fr_t (fr_0 _ _) (fr_s fU34 rfl)
        · exact (rb_add hrb hke (by omega) (lv_R _ _) fU34 qU34).1
        · exact (rb_add hrb hke (by omega) (lv_R _ _) fU34 qU34).2
        · omega
    · refine hK 37 _ [vI q, vI u, vR 100 c, vR 106 0] T ?_
      refine j_blx (F := fX6) tb_X6 (nn_ _) bk_X6_addRound_37 bs_X6_addRound_37 hz (fun K hK => ?_)
      refine And.intro (fun c36 => ?_) (fun c36 => ?_)
      · refine hK 49 _ [vI q, vI u, vR 100 c, vR 106 0] T ?_
        refine j_blx (F := fX6) tb_X6 (nn_ _) bk_X6_addRound_49 bs_X6_addRound_49 hz (fun K hK => ?_)
        refine hK 52 _ [vI d, vI q, vI q, vI u, vR 100 c, vR 106 0] T ?_
        refine j_callV (y := yX6_addFixture) (Yc := zX6_addFixture) (rest := []) [vR 100 c, vI u, vI q, vI q, vI d] (ct_X6_addFixture (T := T) hc (by omega) (hrb.2.2.2.2)) cl_X6_75 (qd_c (by decide +kernel)) (nn_ _) rfl (rf_of rfl) (Nat.le_of_ble_eq_true rfl) (Nat.le_of_ble_eq_true rfl) (Nat.le_of_ble_eq_true rfl) rfl ?_
        rintro U37 _ ⟨rfl, fU37, qU37⟩
        show J_ zX6_addRound T (po_X6_addRound T c f u q w d) 15 170 55 _ [] U37
        refine j_blx (F := fX6) tb_X6 (nn_ _) bk_X6_addRound_55 bs_X6_addRound_55 hz (fun K hK => ?_)
        refine hK 58 [some (vR 106 0), some (vR 100 c), some (vI u), some (vI q), some (vI w), some (vI d), some (vI ((T 100 c 5 + an_ (T 100 c 5) 1) - 1)), some (vI 1), some (vI 1), none, none, none] [] U37 ?_
        refine j_drop [some (vR 106 0), some (vR 100 c), some (vI u), some (vI q), some (vI w), some (vI d), some (vI ((T 100 c 5 + an_ (T 100 c 5) 1) - 1)), none, some (vI 1), none, none, none] (fun k v hk => ?_) rfl ?_
        · match k, hk with
          | 0, hk => exact hk
          | 1, hk => exact hk
          | 2, hk => exact hk
          | 3, hk => exact hk
          | 4, hk => exact hk
          | 5, hk => exact hk
          | 6, hk => exact hk
          | 7, hk => cases hk
          | 8, hk => exact hk
          | 9, hk => cases hk
          | 10, hk => cases hk
          | 11, hk => cases hk
          | k + 12, hk => cases hk
        refine j_mono (bc' := ((3 * ((T 100 c 5 + an_ (T 100 c 5) 1 - 1) / 2 + 1 - 1)).toNat)) (bs' := ((34 * ((T 100 c 5 + an_ (T 100 c 5) 1 - 1) / 2 + 1 - 1)).toNat)) (by omega) (by omega) ?_
        refine c_58 _ 1 U37 (Nat.le_refl _) ?_ ?_ ?_ ?_
        · exact fr_t (fr_0 _ _) (fr_s fU37 rfl)
        · exact (rb_add hrb hke (by omega) (lv_r hr) fU37 qU37).1
        · exact (rb_add hrb hke (by omega) (lv_r hr) fU37 qU37).2
        · omega
      · refine hK 50 [some (vR 106 0), some (vR 100 c), some (vI u), some (vI q), some (vI w), some (vI d), some (vI ((T 100 c 5 + an_ (T 100 c 5) 1) - 1)), some (vI 1), none, none, none, none] [vI ((T 100 c 5 + an_ (T 100 c 5) 1) - 1), vI q, vI u, vR 100 c, vR 106 0] T ?_
        refine j_blx (F := fX6) tb_X6 (nn_ _) bk_X6_addRound_50 bs_X6_addRound_50 hz (fun K hK => ?_)
        refine hK 52 _ [vI d, vI ((T 100 c 5 + an_ (T 100 c 5) 1) - 1), vI q, vI u, vR 100 c, vR 106 0] T ?_
        refine j_callV (y := yX6_addFixture) (Yc := zX6_addFixture) (rest := []) [vR 100 c, vI u, vI q, vI ((T 100 c 5 + an_ (T 100 c 5) 1) - 1), vI d] (ct_X6_addFixture (T := T) hc (by omega) (hrb.2.2.2.2)) cl_X6_75 (qd_c (by decide +kernel)) (nn_ _) rfl (rf_of rfl) (Nat.le_of_ble_eq_true rfl) (Nat.le_of_ble_eq_true rfl) (Nat.le_of_ble_eq_true rfl) rfl ?_
        rintro U39 _ ⟨rfl, fU39, qU39⟩
        show J_ zX6_addRound T (po_X6_addRound T c f u q w d) 15 170 55 _ [] U39
        refine j_blx (F := fX6) tb_X6 (nn_ _) bk_X6_addRound_55 bs_X6_addRound_55 hz (fun K hK => ?_)
        refine hK 58 [some (vR 106 0), some (vR 100 c), some (vI u), some (vI q), some (vI w), some (vI d), some (vI ((T 100 c 5 + an_ (T 100 c 5) 1) - 1)), some (vI 1), some (vI 1), none, none, none] [] U39 ?_
        refine j_drop [some (vR 106 0), some (vR 100 c), some (vI u), some (vI q), some (vI w), some (vI d), some (vI ((T 100 c 5 + an_ (T 100 c 5) 1) - 1)), none, some (vI 1), none, none, none] (fun k v hk => ?_) rfl ?_
        · match k, hk with
          | 0, hk => exact hk
          | 1, hk => exact hk
          | 2, hk => exact hk
          | 3, hk => exact hk
          | 4, hk => exact hk
          | 5, hk => exact hk
          | 6, hk => exact hk
          | 7, hk => cases hk
          | 8, hk => exact hk
          | 9, hk => cases hk
          | 10, hk => cases hk
          | 11, hk => cases hk
          | k + 12, hk => cases hk
        refine j_mono (bc' := ((3 * ((T 100 c 5 + an_ (T 100 c 5) 1 - 1) / 2 + 1 - 1)).toNat)) (bs' := ((34 * ((T 100 c 5 + an_ (T 100 c 5) 1 - 1) / 2 + 1 - 1)).toNat)) (by omega) (by omega) ?_
        refine c_58 _ 1 U39 (Nat.le_refl _) ?_ ?_ ?_ ?_
        · exact fr_t (fr_0 _ _) (fr_s fU39 rfl)
        · exact (rb_add hrb hke (by omega) (lv_r hr) fU39 qU39).1
        · exact (rb_add hrb hke (by omega) (lv_r hr) fU39 qU39).2
        · omega
theorem mlb {a b A B : Int} (h : 0 ≤ a ∧ a ≤ A) (g : 0 ≤ b ∧ b ≤ B) : 0 ≤ a * b ∧ a * b ≤ A * B := ⟨Int.mul_nonneg h.1 g.1, Int.mul_le_mul h.2 g.2 g.1 (by omega)⟩
theorem sc_b {l q R L E b : Int} (hl : 0 ≤ l ∧ l < L) (hq : 0 ≤ q ∧ q < R) (hE : 1 ≤ E) (hb : 0 ≤ b) (h : b + (R * L - 1) * E ≤ 999) : 0 ≤ b + (l * R + q) * E ∧ b + (l * R + q) * E ≤ 999 := by
  have h1 : l * R + R ≤ R * L := by
    have : (l + 1) * R ≤ L * R := Int.mul_le_mul_of_nonneg_right (by omega) (by omega)
    rw [Int.add_mul, Int.one_mul] at this
    rw [Int.mul_comm R L]
    exact this
  have h2 : (l * R + q) * E ≤ (R * L - 1) * E := Int.mul_le_mul_of_nonneg_right (by omega) (by omega)
  have h3 : 0 ≤ (l * R + q) * E := Int.mul_nonneg (by have := Int.mul_nonneg hl.1 (show 0 ≤ R by omega); omega) (by omega)
  omega
theorem sc_n (l q R E b : Int) : b + (l * R + (q + 1)) * E = b + (l * R + q) * E + E := by
  rw [← Int.add_assoc, Int.add_mul, Int.one_mul, ← Int.add_assoc]
theorem sc_l (l q R E b : Int) (h : q = R) : b + ((l + 1) * R + 0) * E = b + (l * R + q) * E := by
  rw [h, Int.add_mul l 1 R, Int.one_mul, Int.add_zero]
abbrev cX0_daysFromFirstToLast : ByteArray := prog_2_method_3_code
def yX0_daysFromFirstToLast : MethodName := ⟨RX0, "daysFromFirstToLast", "()I"⟩
def zX0_daysFromFirstToLast : Zm := (RX0, cX0_daysFromFirstToLast, 2, (some .int), { frames := 1, cells := 0, slots := 0, locals := 20 })
theorem bk_X0_daysFromFirstToLast_0 : ck_ fX0 (some .int) cX0_daysFromFirstToLast 0 [.aload 0] 1 = true := qck_r (nn_ _) (by decide +kernel)
theorem bs_X0_daysFromFirstToLast_0 {P : Zt → Option Zv → Prop} (K : Int → Zl → List Zv → Zt → Prop) : sx_ K P [.aload 0] 1 = x_aload 0 (K 1) := ((xe_aload 0).trans (congrArg (x_aload 0) xe_nil))
set_option maxRecDepth 100000 in
theorem cl_X0_37 : cv_ RX0 37 yX0_placeCount zX0_placeCount 0 0 := ⟨gi_V (lw_b3 200 (by decide +kernel) rfl : Cond.methodLink RX0 37 yX0_placeCount ∈ lw_g) (lw_b3 201 (by decide +kernel) rfl : Cond.instanceMethod yX0_placeCount ∈ lw_g) (lw_b3 202 (by decide +kernel) rfl : Cond.selects yX0_placeCount.cls yX0_placeCount yX0_placeCount ∈ lw_g) (lw_b1 15 (by decide +kernel) rfl : Cond.initialized yX0_placeCount.cls ∈ lw_g) (lw_b3 203 rfl rfl : Cond.code yX0_placeCount cX0_placeCount 1 (some .int) ∈ lw_g), ⟨by decide, by decide, by decide +kernel⟩, ⟨_, _, rfl⟩⟩
theorem bk_X0_daysFromFirstToLast_4 : ck_ fX0 (some .int) cX0_daysFromFirstToLast 4 [.iconst 1, .isub, .aload 0, .tableswitch 0 0 1 #[], .iconst 6, .iaload, .imul, .istore 1, .iload 1, .iconst 1, .isub, .aload 0, .tableswitch 0 0 1 #[], .iconst 7, .iaload, .imul, .ireturn] 27 = true := qck_r (nn_ _) (by decide +kernel)
theorem bs_X0_daysFromFirstToLast_4 {P : Zt → Option Zv → Prop} (K : Int → Zl → List Zv → Zt → Prop) : sx_ K P [.iconst 1, .isub, .aload 0, .tableswitch 0 0 1 #[], .iconst 6, .iaload, .imul, .istore 1, .iload 1, .iconst 1, .isub, .aload 0, .tableswitch 0 0 1 #[], .iconst 7, .iaload, .imul, .ireturn] 27 = x_iconst 1 (x_isub (x_aload 0 (x_g2 100 401 (x_iconst 6 (x_iaload (x_imul (x_istore 1 (x_iload 1 (x_iconst 1 (x_isub (x_aload 0 (x_g2 100 401 (x_iconst 7 (x_iaload (x_imul (x_ireturn P)))))))))))))))) := ((xe_iconst 1).trans (congrArg (x_iconst 1) ((xe_isub).trans (congrArg (x_isub) ((xe_aload 0).trans (congrArg (x_aload 0) ((xe_g2 (kk := 100) rfl tl_0_1).trans (congrArg (x_g2 100 401) ((xe_iconst 6).trans (congrArg (x_iconst 6) ((xe_iaload).trans (congrArg (x_iaload) ((xe_imul).trans (congrArg (x_imul) ((xe_istore 1).trans (congrArg (x_istore 1) ((xe_iload 1).trans (congrArg (x_iload 1) ((xe_iconst 1).trans (congrArg (x_iconst 1) ((xe_isub).trans (congrArg (x_isub) ((xe_aload 0).trans (congrArg (x_aload 0) ((xe_g2 (kk := 100) rfl tl_0_1).trans (congrArg (x_g2 100 401) ((xe_iconst 7).trans (congrArg (x_iconst 7) ((xe_iaload).trans (congrArg (x_iaload) ((xe_imul).trans (congrArg (x_imul) (xe_ireturn)))))))))))))))))))))))))))))))))
abbrev po_X0_daysFromFirstToLast (T : Zt) (c : Int) : Zt → Option Zv → Prop := fun T' r => T = T' ∧ ∃ x : Int, r = some (vI x) ∧ (x = ((T 100 c 5 + an_ (T 100 c 5) 1 - 1) * T 401 c 6 - 1) * T 401 c 7)
set_option maxHeartbeats 4000000 in
theorem ct_X0_daysFromFirstToLast {T : Zt} {c : Int} (hl : 0 ≤ T 401 c 6 ∧ T 401 c 6 ≤ 4) (hE : 1 ≤ T 401 c 7 ∧ T 401 c 7 ≤ 30) (he : 2 ≤ T 100 c 5) : Ct_ yX0_daysFromFirstToLast zX0_daysFromFirstToLast T [vR 100 c] (po_X0_daysFromFirstToLast T c) := by
  refine ct_of pn_0 rfl rfl (Nat.le_of_ble_eq_true rfl) (fun hT hav => ?_)
  have hz : zX0_daysFromFirstToLast.2.2.2.1 = some .boolean → ∀ (T' : Zt) (x : Int), po_X0_daysFromFirstToLast T c T' (some (vI x)) → 0 ≤ x ∧ x ≤ 1 := fun h => by cases h
  have hb5 : 0 ≤ T 100 c 5 ∧ T 100 c 5 ≤ 12 := bd_f hT 100 5 (by decide +kernel : (tf_ 100)[5]? = some (0, 0, 0, 12)) c
  have hp1 := an_1b (T 100 c 5)
  have hp2 : T 100 c 5 = 12 → an_ (T 100 c 5) 1 = 0 := fun h => by rw [h]; decide
  have hm1 := mlb (a := T 100 c 5 + an_ (T 100 c 5) 1 - 1) (b := T 401 c 6) (A := 12) (B := 4) (by omega) (by omega)
  show J_ zX0_daysFromFirstToLast T (po_X0_daysFromFirstToLast T c) 0 0 0 [some (vR 100 c), none] [] T
  refine j_blx (F := fX0) tb_X0 (nn_ _) bk_X0_daysFromFirstToLast_0 bs_X0_daysFromFirstToLast_0 hz (fun K hK => ?_)
  refine hK 1 _ [vR 100 c] T ?_
  refine j_callV (y := yX0_placeCount) (Yc := zX0_placeCount) (rest := []) [] (ct_X0_placeCount (T := T)) cl_X0_37 (qd_c (by decide +kernel)) (nn_ _) rfl (rf_of rfl) (Nat.le_of_ble_eq_true rfl) (Nat.le_of_ble_eq_true rfl) (Nat.le_of_ble_eq_true rfl) rfl ?_
  rintro _ _ ⟨rfl, rfl⟩
  show J_ zX0_daysFromFirstToLast T (po_X0_daysFromFirstToLast T c) 0 0 4 _ [vI (T 100 c 5 + an_ (T 100 c 5) 1)] T
  refine j_blx (F := fX0) tb_X0 (nn_ _) bk_X0_daysFromFirstToLast_4 bs_X0_daysFromFirstToLast_4 hz (fun K hK => ?_)
  refine rg_i (by omega) ?_
  refine ix_i (by omega) ?_
  intro b1 b1b
  refine rg_i (by first | omega | (have y9 := mlb (a := (T 100 c 5 + an_ (T 100 c 5) 1 - 1) * T 401 c 6 - 1 + 1) (b := T 401 c 7) (A := 49) (B := 30) (by omega) (by omega); rw [Int.add_mul, Int.one_mul] at y9; omega)) ?_
  refine rg_i (by omega) ?_
  refine ix_i (by omega) ?_
  intro b2 b2b
  refine rg_i (by first | omega | (have y9 := mlb (a := (T 100 c 5 + an_ (T 100 c 5) 1 - 1) * T 401 c 6 - 1 + 1) (b := T 401 c 7) (A := 49) (B := 30) (by omega) (by omega); rw [Int.add_mul, Int.one_mul] at y9; omega)) ?_
  refine (show po_X0_daysFromFirstToLast T c T (some (vI (((((T 100 c 5 + an_ (T 100 c 5) 1) - 1) * (T 401 c 6)) - 1) * (T 401 c 7)))) from ?_)
  exact ⟨rfl, _, rfl, by rfl⟩
abbrev cX0_fixtureCount : ByteArray := prog_2_method_4_code
def yX0_fixtureCount : MethodName := ⟨RX0, "fixtureCount", "()I"⟩
def zX0_fixtureCount : Zm := (RX0, cX0_fixtureCount, 1, (some .int), { frames := 0, cells := 0, slots := 0, locals := 0 })
theorem bk_X0_fixtureCount_0 : ck_ fX0 (some .int) cX0_fixtureCount 0 [.aload 0, .tableswitch 0 0 5 #[], .aload 0, .tableswitch 0 0 5 #[], .iconst 1, .isub, .imul, .iconst 2, .idiv, .aload 0, .tableswitch 0 0 1 #[], .iconst 6, .iaload, .imul, .ireturn] 22 = true := qck_r (nn_ _) (by decide +kernel)
theorem bs_X0_fixtureCount_0 {P : Zt → Option Zv → Prop} (K : Int → Zl → List Zv → Zt → Prop) : sx_ K P [.aload 0, .tableswitch 0 0 5 #[], .aload 0, .tableswitch 0 0 5 #[], .iconst 1, .isub, .imul, .iconst 2, .idiv, .aload 0, .tableswitch 0 0 1 #[], .iconst 6, .iaload, .imul, .ireturn] 22 = x_aload 0 (x_g0 100 5 0 12 (x_aload 0 (x_g0 100 5 0 12 (x_iconst 1 (x_isub (x_imul (x_iconst 2 (x_idiv (x_aload 0 (x_g2 100 401 (x_iconst 6 (x_iaload (x_imul (x_ireturn P)))))))))))))) := ((xe_aload 0).trans (congrArg (x_aload 0) ((xe_g0 (kk := 100) rfl tl_0_5).trans (congrArg (x_g0 100 5 0 12) ((xe_aload 0).trans (congrArg (x_aload 0) ((xe_g0 (kk := 100) rfl tl_0_5).trans (congrArg (x_g0 100 5 0 12) ((xe_iconst 1).trans (congrArg (x_iconst 1) ((xe_isub).trans (congrArg (x_isub) ((xe_imul).trans (congrArg (x_imul) ((xe_iconst 2).trans (congrArg (x_iconst 2) ((xe_idiv).trans (congrArg (x_idiv) ((xe_aload 0).trans (congrArg (x_aload 0) ((xe_g2 (kk := 100) rfl tl_0_1).trans (congrArg (x_g2 100 401) ((xe_iconst 6).trans (congrArg (x_iconst 6) ((xe_iaload).trans (congrArg (x_iaload) ((xe_imul).trans (congrArg (x_imul) (xe_ireturn)))))))))))))))))))))))))))))
abbrev po_X0_fixtureCount (T : Zt) (c : Int) : Zt → Option Zv → Prop := fun T' r => T = T' ∧ ∃ x : Int, r = some (vI x) ∧ (0 ≤ x ∧ x ≤ 264)
set_option maxHeartbeats 4000000 in
theorem ct_X0_fixtureCount {T : Zt} {c : Int} (hl : 0 ≤ T 401 c 6 ∧ T 401 c 6 ≤ 4) (he : 2 ≤ T 100 c 5) : Ct_ yX0_fixtureCount zX0_fixtureCount T [vR 100 c] (po_X0_fixtureCount T c) := by
  refine ct_of pn_0 rfl rfl (Nat.le_of_ble_eq_true rfl) (fun hT hav => ?_)
  have hz : zX0_fixtureCount.2.2.2.1 = some .boolean → ∀ (T' : Zt) (x : Int), po_X0_fixtureCount T c T' (some (vI x)) → 0 ≤ x ∧ x ≤ 1 := fun h => by cases h
  have hb5 : 0 ≤ T 100 c 5 ∧ T 100 c 5 ≤ 12 := bd_f hT 100 5 (by decide +kernel : (tf_ 100)[5]? = some (0, 0, 0, 12)) c
  have hm1 := mlb (a := T 100 c 5) (b := T 100 c 5 - 1) (A := 12) (B := 11) (by omega) (by omega)
  have hm2 := mlb (a := T 100 c 5 * (T 100 c 5 - 1) / 2) (b := T 401 c 6) (A := 66) (B := 4) (by omega) (by omega)
  show J_ zX0_fixtureCount T (po_X0_fixtureCount T c) 0 0 0 [some (vR 100 c)] [] T
  refine j_blx (F := fX0) tb_X0 (nn_ _) bk_X0_fixtureCount_0 bs_X0_fixtureCount_0 hz (fun K hK => ?_)
  intro b1 b1b
  intro b2 b2b
  refine rg_i (by omega) ?_
  refine rg_i (by omega) ?_
  refine dv_i (by omega) ?_
  refine ix_i (by omega) ?_
  intro b3 b3b
  refine rg_i (by omega) ?_
  refine (show po_X0_fixtureCount T c T (some (vI ((((T 100 c 5) * ((T 100 c 5) - 1)) / 2) * (T 401 c 6)))) from ?_)
  exact ⟨rfl, _, rfl, by omega⟩
abbrev cX6_schedule : ByteArray := prog_8_method_2_code
def yX6_schedule : MethodName := ⟨RX6, "schedule", "(LSportsHouse$Competition;I)V"⟩
def zX6_schedule : Zm := (RX6, cX6_schedule, 7, none, { frames := 4, cells := 792, slots := 8976, locals := 112 })
theorem bk_X6_schedule_38 : ck_ fX6 none cX6_schedule 38 [.iload 5, .iload 3, .if_icmp .ge 93, .iload 4, .iload 3, .imul, .iload 5, .iadd, .istore 6, .aload 0, .aload 1, .iload 6, .iload 5, .iload 4, .iconst 1, .iand, .iconst 1, .if_icmp .ne 71, .iconst 1, .goto 72] 71 = true := qck_r (nn_ _) (by decide +kernel)
theorem bs_X6_schedule_38 {P : Zt → Option Zv → Prop} (K : Int → Zl → List Zv → Zt → Prop) : sx_ K P [.iload 5, .iload 3, .if_icmp .ge 93, .iload 4, .iload 3, .imul, .iload 5, .iadd, .istore 6, .aload 0, .aload 1, .iload 6, .iload 5, .iload 4, .iconst 1, .iand, .iconst 1, .if_icmp .ne 71, .iconst 1, .goto 72] 71 = x_iload 5 (x_iload 3 (x_if_icmp .ge 93 K (x_iload 4 (x_iload 3 (x_imul (x_iload 5 (x_iadd (x_istore 6 (x_aload 0 (x_aload 1 (x_iload 6 (x_iload 5 (x_iload 4 (x_iconst 1 (x_iand (x_iconst 1 (x_if_icmp .ne 71 K (x_iconst 1 (x_goto 72 K))))))))))))))))))) := ((xe_iload 5).trans (congrArg (x_iload 5) ((xe_iload 3).trans (congrArg (x_iload 3) ((xe_if_icmp .ge 93).trans (congrArg (x_if_icmp .ge 93 K) ((xe_iload 4).trans (congrArg (x_iload 4) ((xe_iload 3).trans (congrArg (x_iload 3) ((xe_imul).trans (congrArg (x_imul) ((xe_iload 5).trans (congrArg (x_iload 5) ((xe_iadd).trans (congrArg (x_iadd) ((xe_istore 6).trans (congrArg (x_istore 6) ((xe_aload 0).trans (congrArg (x_aload 0) ((xe_aload 1).trans (congrArg (x_aload 1) ((xe_iload 6).trans (congrArg (x_iload 6) ((xe_iload 5).trans (congrArg (x_iload 5) ((xe_iload 4).trans (congrArg (x_iload 4) ((xe_iconst 1).trans (congrArg (x_iconst 1) ((xe_iand).trans (congrArg (x_iand) ((xe_iconst 1).trans (congrArg (x_iconst 1) ((xe_if_icmp .ne 71).trans (congrArg (x_if_icmp .ne 71 K) ((xe_iconst 1).trans (congrArg (x_iconst 1) (xe_goto 72)))))))))))))))))))))))))))))))))))))))
theorem bk_X6_schedule_93 : ck_ fX6 none cX6_schedule 93 [.iinc 4 1, .goto 23] 99 = true := qck_r (nn_ _) (by decide +kernel)
theorem bs_X6_schedule_93 {P : Zt → Option Zv → Prop} (K : Int → Zl → List Zv → Zt → Prop) : sx_ K P [.iinc 4 1, .goto 23] 99 = x_iinc 4 1 (x_goto 23 K) := ((xe_iinc 4 1).trans (congrArg (x_iinc 4 1) (xe_goto 23)))
theorem bk_X6_schedule_71 : ck_ fX6 none cX6_schedule 71 [.iconst 0, .iload 2, .iload 6, .aload 1, .tableswitch 0 0 1 #[], .iconst 7, .iaload, .imul, .iadd] 84 = true := qck_r (nn_ _) (by decide +kernel)
theorem bs_X6_schedule_71 {P : Zt → Option Zv → Prop} (K : Int → Zl → List Zv → Zt → Prop) : sx_ K P [.iconst 0, .iload 2, .iload 6, .aload 1, .tableswitch 0 0 1 #[], .iconst 7, .iaload, .imul, .iadd] 84 = x_iconst 0 (x_iload 2 (x_iload 6 (x_aload 1 (x_g2 100 401 (x_iconst 7 (x_iaload (x_imul (x_iadd (K 84))))))))) := ((xe_iconst 0).trans (congrArg (x_iconst 0) ((xe_iload 2).trans (congrArg (x_iload 2) ((xe_iload 6).trans (congrArg (x_iload 6) ((xe_aload 1).trans (congrArg (x_aload 1) ((xe_g2 (kk := 100) rfl tl_0_1).trans (congrArg (x_g2 100 401) ((xe_iconst 7).trans (congrArg (x_iconst 7) ((xe_iaload).trans (congrArg (x_iaload) ((xe_imul).trans (congrArg (x_imul) ((xe_iadd).trans (congrArg (x_iadd) xe_nil))))))))))))))))))
set_option maxRecDepth 100000 in
theorem cl_X6_70 : cv_ RX6 70 yX6_addRound zX6_addRound 6 5 := ⟨gi_V (lw_b3 213 (by decide +kernel) rfl : Cond.methodLink RX6 70 yX6_addRound ∈ lw_g) (lw_b3 215 (by decide +kernel) rfl : Cond.instanceMethod yX6_addRound ∈ lw_g) (lw_sel 120 rfl : Cond.selects yX6_addRound.cls yX6_addRound yX6_addRound ∈ lw_g) (lw_b1 4 (by decide +kernel) rfl : Cond.initialized yX6_addRound.cls ∈ lw_g) (lw_b3 216 rfl rfl : Cond.code yX6_addRound cX6_addRound 12 none ∈ lw_g), ⟨by decide, by decide, by decide +kernel⟩, ⟨_, _, rfl⟩⟩
theorem bk_X6_schedule_87 : ck_ fX6 none cX6_schedule 87 [.iinc 5 1, .goto 38] 93 = true := qck_r (nn_ _) (by decide +kernel)
theorem bs_X6_schedule_87 {P : Zt → Option Zv → Prop} (K : Int → Zl → List Zv → Zt → Prop) : sx_ K P [.iinc 5 1, .goto 38] 93 = x_iinc 5 1 (x_goto 38 K) := ((xe_iinc 5 1).trans (congrArg (x_iinc 5 1) (xe_goto 38)))
theorem bk_X6_schedule_72 : ck_ fX6 none cX6_schedule 72 [.iload 2, .iload 6, .aload 1, .tableswitch 0 0 1 #[], .iconst 7, .iaload, .imul, .iadd] 84 = true := qck_r (nn_ _) (by decide +kernel)
theorem bs_X6_schedule_72 {P : Zt → Option Zv → Prop} (K : Int → Zl → List Zv → Zt → Prop) : sx_ K P [.iload 2, .iload 6, .aload 1, .tableswitch 0 0 1 #[], .iconst 7, .iaload, .imul, .iadd] 84 = x_iload 2 (x_iload 6 (x_aload 1 (x_g2 100 401 (x_iconst 7 (x_iaload (x_imul (x_iadd (K 84)))))))) := ((xe_iload 2).trans (congrArg (x_iload 2) ((xe_iload 6).trans (congrArg (x_iload 6) ((xe_aload 1).trans (congrArg (x_aload 1) ((xe_g2 (kk := 100) rfl tl_0_1).trans (congrArg (x_g2 100 401) ((xe_iconst 7).trans (congrArg (x_iconst 7) ((xe_iaload).trans (congrArg (x_iaload) ((xe_imul).trans (congrArg (x_imul) ((xe_iadd).trans (congrArg (x_iadd) xe_nil))))))))))))))))
theorem bk_X6_schedule_23 : ck_ fX6 none cX6_schedule 23 [.iload 4, .aload 1, .tableswitch 0 0 1 #[], .iconst 6, .iaload, .if_icmp .ge 99, .iconst 0, .istore 5] 38 = true := qck_r (nn_ _) (by decide +kernel)
theorem bs_X6_schedule_23 {P : Zt → Option Zv → Prop} (K : Int → Zl → List Zv → Zt → Prop) : sx_ K P [.iload 4, .aload 1, .tableswitch 0 0 1 #[], .iconst 6, .iaload, .if_icmp .ge 99, .iconst 0, .istore 5] 38 = x_iload 4 (x_aload 1 (x_g2 100 401 (x_iconst 6 (x_iaload (x_if_icmp .ge 99 K (x_iconst 0 (x_istore 5 (K 38)))))))) := ((xe_iload 4).trans (congrArg (x_iload 4) ((xe_aload 1).trans (congrArg (x_aload 1) ((xe_g2 (kk := 100) rfl tl_0_1).trans (congrArg (x_g2 100 401) ((xe_iconst 6).trans (congrArg (x_iconst 6) ((xe_iaload).trans (congrArg (x_iaload) ((xe_if_icmp .ge 99).trans (congrArg (x_if_icmp .ge 99 K) ((xe_iconst 0).trans (congrArg (x_iconst 0) ((xe_istore 5).trans (congrArg (x_istore 5) xe_nil))))))))))))))))
theorem bk_X6_schedule_99 : ck_ fX6 none cX6_schedule 99 [.aload 1, .aload 0, .tableswitch 0 6 4 #[], .aload 1, .tableswitch 0 0 7 #[], .isub, .tableswitch 1 0 8 #[], .return_] 113 = true := qck_r (nn_ _) (by decide +kernel)
theorem bs_X6_schedule_99 {P : Zt → Option Zv → Prop} (K : Int → Zl → List Zv → Zt → Prop) : sx_ K P [.aload 1, .aload 0, .tableswitch 0 6 4 #[], .aload 1, .tableswitch 0 0 7 #[], .isub, .tableswitch 1 0 8 #[], .return_] 113 = x_aload 1 (x_aload 0 (x_g0 106 4 0 400 (x_aload 1 (x_g0 100 7 0 400 (x_isub (x_p 100 8 0 400 (x_return_ P))))))) := ((xe_aload 1).trans (congrArg (x_aload 1) ((xe_aload 0).trans (congrArg (x_aload 0) ((xe_g0 (kk := 106) rfl tl_6_4).trans (congrArg (x_g0 106 4 0 400) ((xe_aload 1).trans (congrArg (x_aload 1) ((xe_g0 (kk := 100) rfl tl_0_7).trans (congrArg (x_g0 100 7 0 400) ((xe_isub).trans (congrArg (x_isub) ((xe_p (kk := 100) rfl tl_0_8).trans (congrArg (x_p 100 8 0 400) (xe_return_)))))))))))))))
theorem bk_X6_schedule_0 : ck_ fX6 none cX6_schedule 0 [.aload 1, .iconst 1, .tableswitch 1 0 6 #[], .aload 1, .aload 0, .tableswitch 0 6 4 #[], .tableswitch 1 0 7 #[], .aload 1] 14 = true := qck_r (nn_ _) (by decide +kernel)
theorem bs_X6_schedule_0 {P : Zt → Option Zv → Prop} (K : Int → Zl → List Zv → Zt → Prop) : sx_ K P [.aload 1, .iconst 1, .tableswitch 1 0 6 #[], .aload 1, .aload 0, .tableswitch 0 6 4 #[], .tableswitch 1 0 7 #[], .aload 1] 14 = x_aload 1 (x_iconst 1 (x_p 100 6 0 1 (x_aload 1 (x_aload 0 (x_g0 106 4 0 400 (x_p 100 7 0 400 (x_aload 1 (K 14)))))))) := ((xe_aload 1).trans (congrArg (x_aload 1) ((xe_iconst 1).trans (congrArg (x_iconst 1) ((xe_p (kk := 100) rfl tl_0_6).trans (congrArg (x_p 100 6 0 1) ((xe_aload 1).trans (congrArg (x_aload 1) ((xe_aload 0).trans (congrArg (x_aload 0) ((xe_g0 (kk := 106) rfl tl_6_4).trans (congrArg (x_g0 106 4 0 400) ((xe_p (kk := 100) rfl tl_0_7).trans (congrArg (x_p 100 7 0 400) ((xe_aload 1).trans (congrArg (x_aload 1) xe_nil))))))))))))))))
theorem bk_X6_schedule_17 : ck_ fX6 none cX6_schedule 17 [.iconst 1, .isub, .istore 3, .iconst 0, .istore 4] 23 = true := qck_r (nn_ _) (by decide +kernel)
theorem bs_X6_schedule_17 {P : Zt → Option Zv → Prop} (K : Int → Zl → List Zv → Zt → Prop) : sx_ K P [.iconst 1, .isub, .istore 3, .iconst 0, .istore 4] 23 = x_iconst 1 (x_isub (x_istore 3 (x_iconst 0 (x_istore 4 (K 23))))) := ((xe_iconst 1).trans (congrArg (x_iconst 1) ((xe_isub).trans (congrArg (x_isub) ((xe_istore 3).trans (congrArg (x_istore 3) ((xe_iconst 0).trans (congrArg (x_iconst 0) ((xe_istore 4).trans (congrArg (x_istore 4) xe_nil))))))))))
abbrev po_X6_schedule (T : Zt) (c : Int) (b : Int) : Zt → Option Zv → Prop := fun T' r => r = none ∧ fr_ [(106, [4]), (523, []), (152, []), (102, []), (448, []), (449, []), (100, [6, 7, 8])] T T' ∧ ((∀ i j, i < T 106 0 4 → T' 102 i j = T 102 i j) ∧ RK_ T' c (T 106 0 4) (T 100 c 5 + an_ (T 100 c 5) 1 - 1) 0 0 2000000 ∧ (T' 100 c 6 = 1 ∧ T' 100 c 7 = T 106 0 4 ∧ T' 100 c 8 = T' 106 0 4 - T 106 0 4) ∧ ∀ i j, i ≠ c → T' 100 i j = T 100 i j)
set_option maxHeartbeats 4000000 in
theorem ct_X6_schedule {T : Zt} {c : Int} {b : Int} (hc : 0 ≤ c ∧ c ≤ 3) (hl : 0 ≤ T 401 c 6 ∧ T 401 c 6 ≤ 4) (hE : 1 ≤ T 401 c 7 ∧ T 401 c 7 ≤ 30) (he : 2 ≤ T 100 c 5) (hb : 0 ≤ b ∧ b + ((T 100 c 5 + an_ (T 100 c 5) 1 - 1) * T 401 c 6 - 1) * T 401 c 7 ≤ 999) (hke : KEc_ T c) (hka : KA_ T) (hna : NA_ T) : Ct_ yX6_schedule zX6_schedule T [vR 106 0, vR 100 c, vI b] (po_X6_schedule T c b) := by
  refine ct_of pn_6 rfl rfl (Nat.le_of_ble_eq_true rfl) (fun hT hav => ?_)
  have hr_b : -2147483648 ≤ b ∧ b ≤ 2147483647 := hav (vI b) (by simp)
  have hz : zX6_schedule.2.2.2.1 = some .boolean → ∀ (T' : Zt) (x : Int), po_X6_schedule T c b T' (some (vI x)) → 0 ≤ x ∧ x ≤ 1 := fun h => by cases h
  have hb_matchCount : 0 ≤ T 106 0 4 ∧ T 106 0 4 ≤ 400 := bd_f hT 106 4 (by decide +kernel : (tf_ 106)[4]? = some (0, 0, 0, 400)) 0
  have hb5 : 0 ≤ T 100 c 5 ∧ T 100 c 5 ≤ 12 := bd_f hT 100 5 (by decide +kernel : (tf_ 100)[5]? = some (0, 0, 0, 12)) c
  have hp1 := an_1b (T 100 c 5)
  have hp2 : T 100 c 5 = 12 → an_ (T 100 c 5) 1 = 0 := fun h => by rw [h]; decide
  have hbb : b ≤ 2000 := by have y := mlb (a := (T 100 c 5 + an_ (T 100 c 5) 1 - 1) * T 401 c 6) (b := T 401 c 7) (A := 48) (B := 30) (mlb (A := 12) (B := 4) (by omega) (by omega)) (by omega); have y2 := hb.2; rw [Int.sub_mul, Int.one_mul] at y2; omega
  show J_ zX6_schedule T (po_X6_schedule T c b) 792 8976 0 [some (vR 106 0), some (vR 100 c), some (vI b), none, none, none, none] [] T
  have c_23 : ∀ (nn : Nat) (l : Int) (T1 : Zt), ((4 - l).toNat) ≤ nn → (fr_ [(106, [4]), (523, []), (152, []), (102, []), (448, []), (449, []), (100, [6, 7, 8])] T T1) → (∀ z, RK_ T1 c (T 106 0 4) (T 100 c 5 + an_ (T 100 c 5) 1 - 1) z 0 (b + (l * (T 100 c 5 + an_ (T 100 c 5) 1 - 1) + 0) * T 401 c 7)) → (∀ i j, i < T 106 0 4 → T1 102 i j = T 102 i j) → (∀ i j, i ≠ c → T1 100 i j = T 100 i j) → (T1 100 c 7 = T 106 0 4 ∧ T1 100 c 6 = 1) → (0 ≤ l ∧ l ≤ 4) → J_ zX6_schedule T (po_X6_schedule T c b) ((18 * (((4 : Int) - l) * 11)).toNat) ((204 * (((4 : Int) - l) * 11)).toNat) 23 [some (vR 106 0), some (vR 100 c), some (vI b), some (vI (T 100 c 5 + an_ (T 100 c 5) 1 - 1)), some (vI l), none, none] [] T1 := by
    intro nn
    induction nn using Nat.strongRecOn with
    | _ nn ih_23 =>
      intro l T1 hm_23 hf_23 hrb1 od1 oc1 s1 i1
      have hq1 := (hrb1 0).1
      have hm1 := mlb (a := l) (b := T 100 c 5 + an_ (T 100 c 5) 1 - 1) (A := 4) (B := 12) (by omega) (by omega)
      have hm2 := mlb (a := l * (T 100 c 5 + an_ (T 100 c 5) 1 - 1) + 0) (b := T 401 c 7) (A := 48) (B := 30) (by omega) (by omega)
      have hmx : (b + (l * (T 100 c 5 + an_ (T 100 c 5) 1 - 1) + 0) * T 401 c 7) ≤ 1000000 := by have := hb.1; have := hbb; omega
      have c_38 : ∀ (nn : Nat) (q : Int) (T2 : Zt), ((13 - q).toNat) ≤ nn → (fr_ [(106, [4]), (523, []), (152, []), (102, []), (448, []), (449, []), (100, [6, 7, 8])] T T2) → (∀ z, RK_ T2 c (T 106 0 4) (T 100 c 5 + an_ (T 100 c 5) 1 - 1) z 0 (b + (l * (T 100 c 5 + an_ (T 100 c 5) 1 - 1) + q) * T 401 c 7)) → (∀ i j, i < T 106 0 4 → T2 102 i j = T 102 i j) → (∀ i j, i ≠ c → T2 100 i j = T 100 i j) → (T2 100 c 7 = T 106 0 4 ∧ T2 100 c 6 = 1) → (0 ≤ q ∧ q ≤ T 100 c 5 + an_ (T 100 c 5) 1 - 1 ∧ l < T 401 c 6) → J_ zX6_schedule T (po_X6_schedule T c b) ((18 * (((4 : Int) - l) * 11 - q)).toNat) ((204 * (((4 : Int) - l) * 11 - q)).toNat) 38 [some (vR 106 0), some (vR 100 c), some (vI b), some (vI (T 100 c 5 + an_ (T 100 c 5) 1 - 1)), some (vI l), some (vI q), none] [] T2 := by
        intro nn
        induction nn using Nat.strongRecOn with
        | _ nn ih_38 =>
          intro q T2 hm_38 hf_38 hrb2 od2 oc2 s2 i2
          have hm3 := mlb (a := l * (T 100 c 5 + an_ (T 100 c 5) 1 - 1) + q) (b := T 401 c 7) (A := 60) (B := 30) (by omega) (by omega)
          refine j_blx (F := fX6) tb_X6 (nn_ _) bk_X6_schedule_38 bs_X6_schedule_38 hz (fun K hK => ?_)
          refine And.intro (fun c1 => ?_) (fun c1 => ?_)
          · refine hK 93 _ [] T2 ?_
            refine j_blx (F := fX6) tb_X6 (nn_ _) bk_X6_schedule_93 bs_X6_schedule_93 hz (fun K hK => ?_)
            refine rg_i (by omega) ?_
            refine hK 23 [some (vR 106 0), some (vR 100 c), some (vI b), some (vI (T 100 c 5 + an_ (T 100 c 5) 1 - 1)), some (vI (l + 1)), some (vI q), none] [] T2 ?_
            refine j_drop [some (vR 106 0), some (vR 100 c), some (vI b), some (vI (T 100 c 5 + an_ (T 100 c 5) 1 - 1)), some (vI (l + 1)), none, none] (fun k v hk => ?_) rfl ?_
            · match k, hk with
              | 0, hk => exact hk
              | 1, hk => exact hk
              | 2, hk => exact hk
              | 3, hk => exact hk
              | 4, hk => exact hk
              | 5, hk => cases hk
              | 6, hk => cases hk
              | k + 7, hk => cases hk
            refine j_mono (bc' := ((18 * (((4 : Int) - (l + 1)) * 11)).toNat)) (bs' := ((204 * (((4 : Int) - (l + 1)) * 11)).toNat)) (by omega) (by omega) ?_
            refine ih_23 _ ?_ (l + 1) T2 (Nat.le_refl _) ?_ ?_ ?_ ?_ ?_ ?_
            · omega
            · exact fr_t (fr_0 _ _) (fr_s hf_38 rfl)
            · intro z; rw [sc_l l q (T 100 c 5 + an_ (T 100 c 5) 1 - 1) (T 401 c 7) b (by omega)]; exact hrb2 z
            · exact od2
            · exact oc2
            · exact s2
            · omega
          · refine rg_i (by omega) ?_
            refine rg_i (by omega) ?_
            intro w2 w2b
            refine And.intro (fun c3 => ?_) (fun c3 => ?_)
            · refine hK 71 [some (vR 106 0), some (vR 100 c), some (vI b), some (vI (T 100 c 5 + an_ (T 100 c 5) 1 - 1)), some (vI l), some (vI q), some (vI ((l * (T 100 c 5 + an_ (T 100 c 5) 1 - 1)) + q))] [vI q, vI ((l * (T 100 c 5 + an_ (T 100 c 5) 1 - 1)) + q), vR 100 c, vR 106 0] T2 ?_
              refine j_blx (F := fX6) tb_X6 (nn_ _) bk_X6_schedule_71 bs_X6_schedule_71 hz (fun K hK => ?_)
              refine ix_i (by omega) ?_
              intro b4 b4b
              have e5 : T2 401 c 7 = T 401 c 7 := hf_38 401 c 7 rfl
              rw [e5] at b4 b4b ⊢
              refine rg_i (by omega) ?_
              refine rg_i (by have y8 := sc_b (l := l) (q := q) (R := T 100 c 5 + an_ (T 100 c 5) 1 - 1) (L := T 401 c 6) (E := T 401 c 7) (b := b) (by omega) (by omega) (by omega) (by omega) hb.2; omega) ?_
              refine hK 84 _ [vI (b + (((l * (T 100 c 5 + an_ (T 100 c 5) 1 - 1)) + q) * (T 401 c 7))), vI 0, vI q, vI ((l * (T 100 c 5 + an_ (T 100 c 5) 1 - 1)) + q), vR 100 c, vR 106 0] T2 ?_
              have e6 : T2 100 c 5 = T 100 c 5 := hf_38 100 c 5 rfl
              have eR : T2 100 c 5 + an_ (T2 100 c 5) 1 - 1 = T 100 c 5 + an_ (T 100 c 5) 1 - 1 := by rw [e6]
              have y8 := sc_b (l := l) (q := q) (R := T 100 c 5 + an_ (T 100 c 5) 1 - 1) (L := T 401 c 6) (E := T 401 c 7) (b := b) (by omega) (by omega) (by omega) (by omega) hb.2
              refine j_callV (y := yX6_addRound) (Yc := zX6_addRound) (rest := []) [vR 100 c, vI ((l * (T 100 c 5 + an_ (T 100 c 5) 1 - 1)) + q), vI q, vI 0, vI (b + (((l * (T 100 c 5 + an_ (T 100 c 5) 1 - 1)) + q) * (T 401 c 7)))] (ct_X6_addRound (T := T2) (f := T 106 0 4) hc (by omega) (by omega) (by omega) (KEc_f hke hf_38 ⟨rfl, fun _ => rfl, fun _ => rfl⟩) (by rw [eR]; exact hrb2 q)) cl_X6_70 (qd_c (by decide +kernel)) (by decide) rfl (by decide +kernel) (Nat.le_of_ble_eq_true rfl) (by show 18 ≤ (18 * ((4 - l) * 11 - q)).toNat; omega) (by show 204 ≤ (204 * ((4 - l) * 11 - q)).toNat; omega) rfl ?_
              rintro U7 _ ⟨rfl, fU7, qU7, odU7⟩
              show J_ zX6_schedule T (po_X6_schedule T c b) (((18 * (((4 : Int) - l) * 11 - q)).toNat) - 18) (((204 * (((4 : Int) - l) * 11 - q)).toNat) - 204) 87 _ [] U7
              refine j_blx (F := fX6) tb_X6 (nn_ _) bk_X6_schedule_87 bs_X6_schedule_87 hz (fun K hK => ?_)
              refine rg_i (by omega) ?_
              refine hK 38 [some (vR 106 0), some (vR 100 c), some (vI b), some (vI (T 100 c 5 + an_ (T 100 c 5) 1 - 1)), some (vI l), some (vI (q + 1)), some (vI ((l * (T 100 c 5 + an_ (T 100 c 5) 1 - 1)) + q))] [] U7 ?_
              refine j_drop [some (vR 106 0), some (vR 100 c), some (vI b), some (vI (T 100 c 5 + an_ (T 100 c 5) 1 - 1)), some (vI l), some (vI (q + 1)), none] (fun k v hk => ?_) rfl ?_
              · match k, hk with
                | 0, hk => exact hk
                | 1, hk => exact hk
                | 2, hk => exact hk
                | 3, hk => exact hk
                | 4, hk => exact hk
                | 5, hk => exact hk
                | 6, hk => cases hk
                | k + 7, hk => cases hk
              refine j_mono (bc' := ((18 * (((4 : Int) - l) * 11 - (q + 1))).toNat)) (bs' := ((204 * (((4 : Int) - l) * 11 - (q + 1))).toNat)) (by omega) (by omega) ?_
              refine ih_38 _ ?_ (q + 1) U7 (Nat.le_refl _) ?_ ?_ ?_ ?_ ?_ ?_
              · omega
              · exact fr_t (fr_t (fr_0 _ _) (fr_s hf_38 rfl)) (fr_s fU7 rfl)
              · intro z; rw [sc_n]; exact rb_next (r' := z) (by rw [eR] at qU7; exact qU7) (by omega)
              · exact fun i j hi => (odU7.1 i j hi).trans (od2 i j hi)
              · exact fun i j hi => (fU7 100 i j rfl).trans (oc2 i j hi)
              · exact ⟨(fU7 100 _ _ rfl).trans s2.1, (fU7 100 _ _ rfl).trans s2.2⟩
              · omega
            · refine hK 72 [some (vR 106 0), some (vR 100 c), some (vI b), some (vI (T 100 c 5 + an_ (T 100 c 5) 1 - 1)), some (vI l), some (vI q), some (vI ((l * (T 100 c 5 + an_ (T 100 c 5) 1 - 1)) + q))] [vI 1, vI q, vI ((l * (T 100 c 5 + an_ (T 100 c 5) 1 - 1)) + q), vR 100 c, vR 106 0] T2 ?_
              refine j_blx (F := fX6) tb_X6 (nn_ _) bk_X6_schedule_72 bs_X6_schedule_72 hz (fun K hK => ?_)
              refine ix_i (by omega) ?_
              intro b9 b9b
              have e10 : T2 401 c 7 = T 401 c 7 := hf_38 401 c 7 rfl
              rw [e10] at b9 b9b ⊢
              refine rg_i (by omega) ?_
              refine rg_i (by have y8 := sc_b (l := l) (q := q) (R := T 100 c 5 + an_ (T 100 c 5) 1 - 1) (L := T 401 c 6) (E := T 401 c 7) (b := b) (by omega) (by omega) (by omega) (by omega) hb.2; omega) ?_
              refine hK 84 _ [vI (b + (((l * (T 100 c 5 + an_ (T 100 c 5) 1 - 1)) + q) * (T 401 c 7))), vI 1, vI q, vI ((l * (T 100 c 5 + an_ (T 100 c 5) 1 - 1)) + q), vR 100 c, vR 106 0] T2 ?_
              have e11 : T2 100 c 5 = T 100 c 5 := hf_38 100 c 5 rfl
              have eR : T2 100 c 5 + an_ (T2 100 c 5) 1 - 1 = T 100 c 5 + an_ (T 100 c 5) 1 - 1 := by rw [e11]
              have y8 := sc_b (l := l) (q := q) (R := T 100 c 5 + an_ (T 100 c 5) 1 - 1) (L := T 401 c 6) (E := T 401 c 7) (b := b) (by omega) (by omega) (by omega) (by omega) hb.2
              refine j_callV (y := yX6_addRound) (Yc := zX6_addRound) (rest := []) [vR 100 c, vI ((l * (T 100 c 5 + an_ (T 100 c 5) 1 - 1)) + q), vI q, vI 1, vI (b + (((l * (T 100 c 5 + an_ (T 100 c 5) 1 - 1)) + q) * (T 401 c 7)))] (ct_X6_addRound (T := T2) (f := T 106 0 4) hc (by omega) (by omega) (by omega) (KEc_f hke hf_38 ⟨rfl, fun _ => rfl, fun _ => rfl⟩) (by rw [eR]; exact hrb2 q)) cl_X6_70 (qd_c (by decide +kernel)) (by decide) rfl (by decide +kernel) (Nat.le_of_ble_eq_true rfl) (by show 18 ≤ (18 * ((4 - l) * 11 - q)).toNat; omega) (by show 204 ≤ (204 * ((4 - l) * 11 - q)).toNat; omega) rfl ?_
              rintro U12 _ ⟨rfl, fU12, qU12, odU12⟩
              show J_ zX6_schedule T (po_X6_schedule T c b) (((18 * (((4 : Int) - l) * 11 - q)).toNat) - 18) (((204 * (((4 : Int) - l) * 11 - q)).toNat) - 204) 87 _ [] U12
              refine j_blx (F := fX6) tb_X6 (nn_ _) bk_X6_schedule_87 bs_X6_schedule_87 hz (fun K hK => ?_)
              refine rg_i (by omega) ?_
              refine hK 38 [some (vR 106 0), some (vR 100 c), some (vI b), some (vI (T 100 c 5 + an_ (T 100 c 5) 1 - 1)), some (vI l), some (vI (q + 1)), some (vI ((l * (T 100 c 5 + an_ (T 100 c 5) 1 - 1)) + q))] [] U12 ?_
              refine j_drop [some (vR 106 0), some (vR 100 c), some (vI b), some (vI (T 100 c 5 + an_ (T 100 c 5) 1 - 1)), some (vI l), some (vI (q + 1)), none] (fun k v hk => ?_) rfl ?_
              · match k, hk with
                | 0, hk => exact hk
                | 1, hk => exact hk
                | 2, hk => exact hk
                | 3, hk => exact hk
                | 4, hk => exact hk
                | 5, hk => exact hk
                | 6, hk => cases hk
                | k + 7, hk => cases hk
              refine j_mono (bc' := ((18 * (((4 : Int) - l) * 11 - (q + 1))).toNat)) (bs' := ((204 * (((4 : Int) - l) * 11 - (q + 1))).toNat)) (by omega) (by omega) ?_
              refine ih_38 _ ?_ (q + 1) U12 (Nat.le_refl _) ?_ ?_ ?_ ?_ ?_ ?_
              · omega
              · exact fr_t (fr_t (fr_0 _ _) (fr_s hf_38 rfl)) (fr_s fU12 rfl)
              · intro z; rw [sc_n]; exact rb_next (r' := z) (by rw [eR] at qU12; exact qU12) (by omega)
              · exact fun i j hi => (odU12.1 i j hi).trans (od2 i j hi)
              · exact fun i j hi => (fU12 100 i j rfl).trans (oc2 i j hi)
              · exact ⟨(fU12 100 _ _ rfl).trans s2.1, (fU12 100 _ _ rfl).trans s2.2⟩
              · omega
      refine j_blx (F := fX6) tb_X6 (nn_ _) bk_X6_schedule_23 bs_X6_schedule_23 hz (fun K hK => ?_)
      refine ix_i (by omega) ?_
      intro b14 b14b
      have e15 : T1 401 c 6 = T 401 c 6 := hf_23 401 c 6 rfl
      rw [e15] at b14 b14b ⊢
      refine And.intro (fun c16 => ?_) (fun c16 => ?_)
      · refine hK 99 _ [] T1 ?_
        refine j_blx (F := fX6) tb_X6 (nn_ _) bk_X6_schedule_99 bs_X6_schedule_99 hz (fun K hK => ?_)
        intro b17 b17b
        intro b18 b18b
        refine rg_i (by omega) ?_
        refine bd_i (by omega) ?_
        refine x_nm (fun U19 hU19 => ?_)
        have e20 := up_f hU19
        refine (show po_X6_schedule T c b U19 (none) from ?_)
        have e21 : U19 106 0 4 = T1 106 0 4 := up_k hU19 (by exact Nat.ne_of_beq_eq_false rfl) 0 4
        have e22 : U19 106 0 4 = T1 106 0 4 := up_k hU19 (by exact Nat.ne_of_beq_eq_false rfl) 0 4
        have e23 : U19 100 c 7 = T1 100 c 7 := up_j hU19 (by decide) 100 c
        have e24 : U19 100 c 6 = T1 100 c 6 := up_j hU19 (by decide) 100 c
        have r1 := hrb1 0
        obtain ⟨r2, r3, r4, r5, r6⟩ := r1
        have k1 : ∀ k i j, k ≠ 100 → U19 k i j = T1 k i j := fun k i j hk => up_k hU19 hk _ _
        have r7 : RK_ U19 c (T 106 0 4) (T 100 c 5 + an_ (T 100 c 5) 1 - 1) 0 0 2000000 := by
          refine ⟨by rw [k1 106 0 4 (by decide)]; exact r2, fun i p q => ?_, fun i j p q w => ?_, fun i p q => ?_, NA_f r6 (show fr_ [(100, [6, 7, 8])] T1 U19 from fr_u (fr_0 _ _) hU19 rfl) ⟨rfl, rfl, rfl, rfl, rfl, rfl, rfl, rfl, rfl⟩⟩
          · rw [k1 106 0 4 (by decide)] at q
            obtain ⟨a1, a2, a3, a4, a5, a6⟩ := r3 i p q
            rw [k1 102 i 0 (by decide), k1 102 i 1 (by decide), k1 102 i 10 (by decide), k1 102 i 3 (by decide), k1 102 i 4 (by decide), k1 102 i 5 (by decide), k1 404 c _ (by decide), k1 404 c _ (by decide)]
            refine ⟨a1, a2, a3, a4, a5, Or.inl ?_⟩
            have y1 := a6
            have y2 : (b + (l * (T 100 c 5 + an_ (T 100 c 5) 1 - 1) + 0) * T 401 c 7) ≤ 1000000 := hmx
            omega
          · rw [k1 106 0 4 (by decide)] at w
            rw [k1 102 i 3 (by decide), k1 102 i 5 (by decide), k1 102 j 3 (by decide), k1 102 j 5 (by decide)]
            exact r4 i j p q w
          · rw [k1 106 0 4 (by decide)] at q
            rw [k1 523 0 i (by decide)]
            exact r5 i p q
        exact ⟨rfl, fr_u (fr_t (fr_0 _ _) (fr_s hf_23 rfl)) hU19 rfl, fun i j hi => (k1 102 i j (by decide)).trans (od1 i j hi), r7, by omega, fun i j hi => (up_g hU19 (fun z => hi z.2.1)).trans (oc1 i j hi)⟩
      · refine hK 38 [some (vR 106 0), some (vR 100 c), some (vI b), some (vI (T 100 c 5 + an_ (T 100 c 5) 1 - 1)), some (vI l), some (vI 0), none] [] T1 ?_
        refine j_mono (bc' := ((18 * (((4 : Int) - l) * 11 - 0)).toNat)) (bs' := ((204 * (((4 : Int) - l) * 11 - 0)).toNat)) (by omega) (by omega) ?_
        refine c_38 _ 0 T1 (Nat.le_refl _) ?_ ?_ ?_ ?_ ?_ ?_
        · exact fr_t (fr_0 _ _) (fr_s hf_23 rfl)
        · exact hrb1
        · exact od1
        · exact oc1
        · exact s1
        · omega
  refine j_blx (F := fX6) tb_X6 (nn_ _) bk_X6_schedule_0 bs_X6_schedule_0 hz (fun K hK => ?_)
  refine bd_i (by omega) ?_
  refine x_nm (fun U25 hU25 => ?_)
  have e26 := up_f hU25
  intro b27 b27b
  have e28 : U25 106 0 4 = T 106 0 4 := up_k hU25 (by exact Nat.ne_of_beq_eq_false rfl) 0 4
  rw [e28] at b27 b27b ⊢
  refine bd_i (by omega) ?_
  refine x_nm (fun U29 hU29 => ?_)
  have e30 := up_f hU29
  refine hK 14 _ [vR 100 c] U29 ?_
  refine j_callV (y := yX0_placeCount) (Yc := zX0_placeCount) (rest := []) [] (ct_X0_placeCount (T := U29)) cl_X6_63 (qd_c (by decide +kernel)) (nn_ _) rfl (rf_of rfl) (Nat.le_of_ble_eq_true rfl) (Nat.le_of_ble_eq_true rfl) (Nat.le_of_ble_eq_true rfl) rfl ?_
  rintro _ _ ⟨rfl, rfl⟩
  have e31 : U29 100 c 5 + an_ (U29 100 c 5) 1 = T 100 c 5 + an_ (T 100 c 5) 1 := by rw [show _ = T 100 c 5 from (up_j hU29 (by decide) _ _).trans (up_j hU25 (by decide) _ _)]
  rw [e31]
  show J_ zX6_schedule T (po_X6_schedule T c b) 792 8976 17 _ [vI (T 100 c 5 + an_ (T 100 c 5) 1)] U29
  refine j_blx (F := fX6) tb_X6 (nn_ _) bk_X6_schedule_17 bs_X6_schedule_17 hz (fun K hK => ?_)
  refine rg_i (by omega) ?_
  refine hK 23 [some (vR 106 0), some (vR 100 c), some (vI b), some (vI ((T 100 c 5 + an_ (T 100 c 5) 1) - 1)), some (vI 0), none, none] [] U29 ?_
  refine j_mono (bc' := ((18 * (((4 : Int) - 0) * 11)).toNat)) (bs' := ((204 * (((4 : Int) - 0) * 11)).toNat)) (by omega) (by omega) ?_
  refine c_23 _ 0 U29 (Nat.le_refl _) ?_ ?_ ?_ ?_ ?_ ?_
  · exact fr_u (fr_u (fr_0 _ _) hU25 rfl) hU29 rfl
  · intro z; have y7 : U29 106 0 4 = T 106 0 4 := (up_k hU29 (by exact Nat.ne_of_beq_eq_false rfl) _ _).trans (up_k hU25 (by exact Nat.ne_of_beq_eq_false rfl) _ _); exact ⟨⟨by omega, by omega, by omega⟩, fun i p q => absurd q (by omega), fun i j p q w => absurd w (by omega), fun i p q => by rw [show _ = T 523 0 i from (up_k hU29 (by exact Nat.ne_of_beq_eq_false rfl) _ _).trans (up_k hU25 (by exact Nat.ne_of_beq_eq_false rfl) _ _)]; exact hka.2 i p (by omega), NA_f hna (show fr_ [(100, [6, 7, 8])] T U29 from fr_u (fr_u (fr_0 _ _) hU25 rfl) hU29 rfl) ⟨rfl, rfl, rfl, rfl, rfl, rfl, rfl, rfl, rfl⟩⟩
  · exact fun i j hi => (up_k hU29 (by exact Nat.ne_of_beq_eq_false rfl) _ _).trans (up_k hU25 (by exact Nat.ne_of_beq_eq_false rfl) _ _)
  · exact fun i j hi => (up_g hU29 (fun z => hi z.2.1)).trans (up_g hU25 (fun z => hi z.2.1))
  · exact ⟨up_f hU29, (up_j hU29 (by decide) _ _).trans (up_f hU25)⟩
  · omega
