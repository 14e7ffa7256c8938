def nm_ (T T' : Zt) (c h a d : Int) : Prop := (T' 106 0 4 = T 106 0 4 + 1 ∧ T 106 0 4 < 400 ∧ h < T 100 c 5 ∧ a < T 100 c 5) ∧ (∀ k i j, k = 102 ∨ k = 152 → i ≠ T 106 0 4 → T' k i j = T k i j) ∧ (∀ j, j ≠ T 106 0 4 → T' 523 0 j = T 523 0 j) ∧ T' 523 0 (T 106 0 4) = 1 ∧ (T' 102 (T 106 0 4) 0 = c ∧ T' 102 (T 106 0 4) 1 = T 106 0 4 ∧ T' 102 (T 106 0 4) 3 = T 403 c h ∧ T' 102 (T 106 0 4) 4 = T 403 c a ∧ T' 102 (T 106 0 4) 5 = d ∧ T' 102 (T 106 0 4) 10 = 0) ∧ NA_ T'
abbrev cX6_addFixture : ByteArray := prog_8_method_4_code
def yX6_addFixture : MethodName := ⟨RX6, "addFixture", "(LSportsHouse$Competition;IIII)V"⟩
def zX6_addFixture : Zm := (RX6, cX6_addFixture, 6, none, { frames := 2, cells := 3, slots := 34, locals := 56 })
theorem bk_X6_addFixture_0 : ck_ fX6 none cX6_addFixture 0 [.iload 3, .aload 1, .tableswitch 0 0 5 #[], .if_icmp .ge 27, .iload 4, .aload 1, .tableswitch 0 0 5 #[], .if_icmp .ge 27, .aload 0, .tableswitch 0 6 4 #[], .iconst 400, .if_icmp .lt 28, .return_] 28 = true := by decide +kernel
theorem bk_X6_addFixture_27 : ck_ fX6 none cX6_addFixture 27 [.return_] 28 = true := by decide +kernel
theorem bk_X6_addFixture_28 : ck_ fX6 none cX6_addFixture 28 [.aload 0, .tableswitch 0 6 3 #[], .aload 0, .tableswitch 0 6 4 #[]] 36 = true := by decide +kernel
theorem bk_X6_addFixture_39 : ck_ fX6 none cX6_addFixture 39 [.dup, .aload 1, .aload 0, .tableswitch 0 6 4 #[], .iload 2, .aload 1, .tableswitch 0 0 3 #[], .iload 3, .iaload, .aload 1, .tableswitch 0 0 3 #[], .iload 4, .iaload, .iload 5] 61 = true := by decide +kernel
theorem ci_X6_85 : ci_ RX6 85 yX2_init zX2_init 6 := ⟨gi_c (lw_at 704 (by decide +kernel) rfl : Cond.code yX2_init cX2_init 7 none ∈ lw_g), (lw_at 16 (by decide +kernel) rfl : Cond.initialized yX2_init.cls ∈ lw_g), (lw_at 702 (by decide +kernel) rfl : Cond.methodLink RX6 85 yX2_init ∈ lw_g), (lw_at 703 (by decide +kernel) rfl : Cond.instanceMethod yX2_init ∈ lw_g), rfl, rfl, ⟨by decide, by decide, by decide +kernel⟩⟩
theorem bk_X6_addFixture_65 : ck_ fX6 none cX6_addFixture 65 [.aload 0, .dup, .tableswitch 0 6 4 #[], .iconst 1, .iadd, .tableswitch 1 6 4 #[], .return_] 76 = true := by decide +kernel
abbrev po_X6_addFixture (T : Zt) (c : Int) (u h a d : Int) : Zt → Option Zv → Prop := fun T' r => r = none ∧ fr_ [(106, [4]), (523, []), (152, []), (102, []), (448, []), (449, [])] T T' ∧ ((T' = T ∧ (T 100 c 5 ≤ h ∨ T 100 c 5 ≤ a ∨ 400 ≤ T 106 0 4)) ∨ nm_ T T' c h a d)
set_option maxHeartbeats 4000000 in
theorem ct_X6_addFixture {T : Zt} {c : Int} {u h a d : Int} (hc : 0 ≤ c ∧ c ≤ 3) (hh : 0 ≤ h ∧ 0 ≤ a ∧ 0 ≤ d ∧ d ≤ 999) (hna : NA_ T) : Ct_ yX6_addFixture zX6_addFixture T [vR 106 0, vR 100 c, vI u, vI h, vI a, vI d] (po_X6_addFixture T c u h a d) := by
  refine ct_of (by decide) rfl rfl (Nat.le_of_ble_eq_true rfl) (fun hT hav => ?_)
  have hr_u : -2147483648 ≤ u ∧ u ≤ 2147483647 := hav (vI u) (by simp)
  have hr_h : -2147483648 ≤ h ∧ h ≤ 2147483647 := hav (vI h) (by simp)
  have hr_a : -2147483648 ≤ a ∧ a ≤ 2147483647 := hav (vI a) (by simp)
  have hr_d : -2147483648 ≤ d ∧ d ≤ 2147483647 := hav (vI d) (by simp)
  have hz : zX6_addFixture.2.2.2.1 = some .boolean → ∀ (T' : Zt) (x : Int), po_X6_addFixture T c u h a d T' (some (vI x)) → 0 ≤ x ∧ x ≤ 1 := fun h => by cases h
  have hb_matchCount : 0 ≤ T 106 0 4 ∧ T 106 0 4 ≤ 400 := bd_f hT 106 4 (by decide +kernel : (tf_ 106)[4]? = some (0, 0, 0, 400)) 0
  have hb5 : 0 ≤ T 100 c 5 ∧ T 100 c 5 ≤ 12 := bd_f hT 100 5 (by decide +kernel : (tf_ 100)[5]? = some (0, 0, 0, 12)) c
  show J_ zX6_addFixture T (po_X6_addFixture T c u h a d) 3 34 0 [some (vR 106 0), some (vR 100 c), some (vI u), some (vI h), some (vI a), some (vI d)] [] T
  refine j_blk (F := fX6) tb_X6 (by decide) bk_X6_addFixture_0 hz (fun K hK => ?_)
  intro b1 b1b
  refine And.intro (fun c2 => ?_) (fun c2 => ?_)
  · refine hK 27 [some (vR 106 0), some (vR 100 c), some (vI u), some (vI h), some (vI a), some (vI d)] [] T ?_
    refine j_blk (F := fX6) tb_X6 (by decide) bk_X6_addFixture_27 hz (fun K hK => ?_)
    refine (show po_X6_addFixture T c u h a d T (none) from ?_)
    exact ⟨rfl, fr_0 _ _, Or.inl ⟨rfl, by omega⟩⟩
  · intro b3 b3b
    refine And.intro (fun c4 => ?_) (fun c4 => ?_)
    · refine hK 27 [some (vR 106 0), some (vR 100 c), some (vI u), some (vI h), some (vI a), some (vI d)] [] T ?_
      refine j_blk (F := fX6) tb_X6 (by decide) bk_X6_addFixture_27 hz (fun K hK => ?_)
      refine (show po_X6_addFixture T c u h a d T (none) from ?_)
      exact ⟨rfl, fr_0 _ _, Or.inl ⟨rfl, by omega⟩⟩
    · intro b5 b5b
      refine And.intro (fun c6 => ?_) (fun c6 => ?_)
      · refine hK 28 [some (vR 106 0), some (vR 100 c), some (vI u), some (vI h), some (vI a), some (vI d)] [] T ?_
        refine j_blk (F := fX6) tb_X6 (by decide) bk_X6_addFixture_28 hz (fun K hK => ?_)
        intro b7 b7b
        refine hK 36 [some (vR 106 0), some (vR 100 c), some (vI u), some (vI h), some (vI a), some (vI d)] [vI (T 106 0 4), vR 523 0] T ?_
        refine j_newO (bc' := 2) (bs' := 23) (pc := 36) (ci := 2) (i := T 106 0 4) (by decide) (by decide) vi_2 tyX2_ok (nf_2 _) (lw_at 144 (by decide +kernel) rfl : Cond.classLink RX6 17 RX2 ∈ lw_g) (lw_at 701 (by decide +kernel) rfl : Cond.instantiable RX2 11 ∈ lw_g) (lw_at 16 (by decide +kernel) rfl : Cond.initialized RX2 ∈ lw_g) (hna.1.2.1 _) (by omega) (by omega) (by decide +kernel) ?_
        refine j_nm (fun U8 hU8 => ?_)
        have fU8 := nu_fr hU8
        have zU8 := nu_tz hU8
        have oU8 := nu_to hU8
        have vU8 := nu_tv hU8
        show J_ zX6_addFixture T (po_X6_addFixture T c u h a d) 2 23 39 [some (vR 106 0), some (vR 100 c), some (vI u), some (vI h), some (vI a), some (vI d)] [vR 152 (T 106 0 4), vI (T 106 0 4), vR 523 0] U8
        refine j_blk (F := fX6) tb_X6 (by decide) bk_X6_addFixture_39 hz (fun K hK => ?_)
        intro b9 b9b
        have e10 : U8 106 0 4 = T 106 0 4 := fU8 106 0 4 rfl
        rw [e10] at b9 b9b ⊢
        refine ix_i (by omega) ?_
        intro b11 b11b
        have e12 : U8 403 c h = T 403 c h := fU8 403 c h rfl
        rw [e12] at b11 b11b ⊢
        refine ix_i (by omega) ?_
        intro b13 b13b
        have e14 : U8 403 c a = T 403 c a := fU8 403 c a rfl
        rw [e14] at b13 b13b ⊢
        refine hK 61 [some (vR 106 0), some (vR 100 c), some (vI u), some (vI h), some (vI a), some (vI d)] [vI d, vI (T 403 c a), vI (T 403 c h), vI u, vI (T 106 0 4), vR 100 c, vR 152 (T 106 0 4), vR 152 (T 106 0 4), vI (T 106 0 4), vR 523 0] U8 ?_
        have hv1 : ∀ k : Nat, ow_ k = some 102 → ¬ T k (T 106 0 4) (-1) = 1 := fun k hk h => (hT.2.2.2.2.2.2.2.1 k _ 102 hk h).elim (hna.2.2.1 _ (by omega)) (hna.1.2.1 _)
        have e15 : U8 448 (T 106 0 4) (-1) = T 448 (T 106 0 4) (-1) := fU8 448 (T 106 0 4) (-1) rfl
        have e16 : U8 449 (T 106 0 4) (-1) = T 449 (T 106 0 4) (-1) := fU8 449 (T 106 0 4) (-1) rfl
        refine j_callI (y := yX2_init) (Yc := zX2_init) (rest := [vR 152 (T 106 0 4), vI (T 106 0 4), vR 523 0]) [vR 100 c, vI (T 106 0 4), vI u, vI (T 403 c h), vI (T 403 c a), vI d] (ct_X2_init (T := U8) (by omega) (by rw [e15]; exact hv1 448 (by decide)) (by rw [e16]; exact hv1 449 (by decide))) ci_X6_85 (by decide +kernel) (by decide) rfl (by decide +kernel) (Nat.le_of_ble_eq_true rfl) (by decide) (by decide) rfl ?_
        rintro U17 _ ⟨rfl, fU17, qU17o, ⟨t0U17, t1U17, t2U17, t3U17, t4U17, t5U17⟩, ⟨t6U17, t7U17, t8U17, t9U17, t10U17⟩, z8U17, z9U17⟩
        show J_ zX6_addFixture T (po_X6_addFixture T c u h a d) 0 0 64 [some (vR 106 0), some (vR 100 c), some (vI u), some (vI h), some (vI a), some (vI d)] [vR 152 (T 106 0 4), vI (T 106 0 4), vR 523 0] U17
        refine j_ok (fun gt2 _ => ?_)
        have e19 : U17 102 (T 106 0 4) (-1) = T 102 (T 106 0 4) (-1) := (fU17 102 (T 106 0 4) (-1) rfl).trans (fU8 102 (T 106 0 4) (-1) rfl)
        refine j_conv (k := 102) (i := T 106 0 4) (g := g2_ U17 (T 106 0 4)) (by decide) (by show ¬ U17 102 (T 106 0 4) (-1) = 1; rw [e19]; exact hna.2.2.1 _ (by omega)) (hna.1.2.1 _) (cg_2 gt2 (by omega) (by omega) t8U17 t9U17 (t10U17.trans (zU8 10 (by decide)))) rfl rfl ?_
        refine j_nm (fun U20 hU20 => ?_)
        have fU20 := cw_fr hU20
        have sU20 := cw_ts hU20
        have oU20 := cw_to hU20
        have rU20 := cw_r hU20
        show J_ zX6_addFixture T (po_X6_addFixture T c u h a d) 0 0 64 [some (vR 106 0), some (vR 100 c), some (vI u), some (vI h), some (vI a), some (vI d)] [vR 102 (T 106 0 4), vI (T 106 0 4), vR 523 0] U20
        refine j_aast (pc := 64) (by decide) (by decide) (by decide +kernel : ta_ 523 = some (5, some 400, 0, 1)) (by decide +kernel) (by omega) (by show _ < (400 : Int); omega) (by decide) ?_
        refine j_nm (fun U21 hU21 => ?_)
        have e22 := up_f hU21
        show J_ zX6_addFixture T (po_X6_addFixture T c u h a d) 0 0 65 [some (vR 106 0), some (vR 100 c), some (vI u), some (vI h), some (vI a), some (vI d)] [] U21
        refine j_blk (F := fX6) tb_X6 (by decide) bk_X6_addFixture_65 hz (fun K hK => ?_)
        intro b23 b23b
        have e24 : U21 106 0 4 = T 106 0 4 := (up_k hU21 (by decide) 0 4).trans ((fU20 106 0 4 rfl).trans ((fU17 106 0 4 rfl).trans (fU8 106 0 4 rfl)))
        rw [e24] at b23 b23b ⊢
        refine rg_i (by omega) ?_
        refine bd_i (by omega) ?_
        refine sx_nm (fun U25 hU25 => ?_)
        have e26 := up_f hU25
        refine (show po_X6_addFixture T c u h a d U25 (none) from ?_)
        have w0 : U20 102 (T 106 0 4) 0 = U17 152 (T 106 0 4) 0 - 1 := (sU20 0 (by decide)).trans (by unfold g2_; rw [if_pos (by decide)])
        have w1 : U20 102 (T 106 0 4) 1 = U17 152 (T 106 0 4) 1 := (sU20 1 (by decide)).trans (by unfold g2_; rw [if_neg (by decide)])
        have w3 : U20 102 (T 106 0 4) 3 = U17 152 (T 106 0 4) 3 := (sU20 3 (by decide)).trans (by unfold g2_; rw [if_neg (by decide)])
        have w4 : U20 102 (T 106 0 4) 4 = U17 152 (T 106 0 4) 4 := (sU20 4 (by decide)).trans (by unfold g2_; rw [if_neg (by decide)])
        have w5 : U20 102 (T 106 0 4) 5 = U17 152 (T 106 0 4) 5 := (sU20 5 (by decide)).trans (by unfold g2_; rw [if_neg (by decide)])
        have w10 : U20 102 (T 106 0 4) 10 = U17 152 (T 106 0 4) 10 := (sU20 10 (by decide)).trans (by unfold g2_; rw [if_neg (by decide)])
        have y10 : U8 152 (T 106 0 4) 10 = 0 := zU8 10 (by decide)
        have u0 : U25 102 (T 106 0 4) 0 = U20 102 (T 106 0 4) 0 := (up_k hU25 (by decide) _ _).trans (up_k hU21 (by decide) _ _)
        have u1 : U25 102 (T 106 0 4) 1 = U20 102 (T 106 0 4) 1 := (up_k hU25 (by decide) _ _).trans (up_k hU21 (by decide) _ _)
        have u3 : U25 102 (T 106 0 4) 3 = U20 102 (T 106 0 4) 3 := (up_k hU25 (by decide) _ _).trans (up_k hU21 (by decide) _ _)
        have u4 : U25 102 (T 106 0 4) 4 = U20 102 (T 106 0 4) 4 := (up_k hU25 (by decide) _ _).trans (up_k hU21 (by decide) _ _)
        have u5 : U25 102 (T 106 0 4) 5 = U20 102 (T 106 0 4) 5 := (up_k hU25 (by decide) _ _).trans (up_k hU21 (by decide) _ _)
        have u10 : U25 102 (T 106 0 4) 10 = U20 102 (T 106 0 4) 10 := (up_k hU25 (by decide) _ _).trans (up_k hU21 (by decide) _ _)
        have d1 : U25 106 0 4 = T 106 0 4 + 1 := by omega
        have d2 : ∀ (k : Nat) (i j : Int), k = 102 ∨ k = 152 → i ≠ T 106 0 4 → U25 k i j = T k i j := fun k i j hk hi => (up_g hU25 (fun z => by omega)).trans ((up_g hU21 (fun z => by omega)).trans ((oU20 k i j hi).trans ((qU17o k i j hi).trans (oU8 k i j (fun z => hi z.2)))))
        have d3 : ∀ j, j ≠ T 106 0 4 → U25 523 0 j = T 523 0 j := fun j hj => (up_k hU25 (by decide) _ _).trans ((up_g hU21 (fun z => hj z.2.2)).trans ((fU20 523 _ _ rfl).trans ((fU17 523 _ _ rfl).trans (fU8 523 _ _ rfl))))
        have d4 : U25 523 0 (T 106 0 4) = 1 := (up_k hU25 (by decide) _ _).trans (up_f hU21)
        have d5 : ∀ i, U25 150 i (-1) = T 150 i (-1) := fun i => (up_k hU25 (by decide) _ _).trans ((up_k hU21 (by decide) _ _).trans ((fU20 150 _ _ rfl).trans ((fU17 150 _ _ rfl).trans (fU8 150 _ _ rfl))))
        have d6 : ∀ i, U25 153 i (-1) = T 153 i (-1) := fun i => (up_k hU25 (by decide) _ _).trans ((up_k hU21 (by decide) _ _).trans ((fU20 153 _ _ rfl).trans ((fU17 153 _ _ rfl).trans (fU8 153 _ _ rfl))))
        have d7 : ∀ i, U25 100 i (-1) = T 100 i (-1) := fun i => (up_k hU25 (by decide) _ _).trans ((up_k hU21 (by decide) _ _).trans ((fU20 100 _ _ rfl).trans ((fU17 100 _ _ rfl).trans (fU8 100 _ _ rfl))))
        have d8 : ∀ i, U25 103 i (-1) = T 103 i (-1) := fun i => (up_k hU25 (by decide) _ _).trans ((up_k hU21 (by decide) _ _).trans ((fU20 103 _ _ rfl).trans ((fU17 103 _ _ rfl).trans (fU8 103 _ _ rfl))))
        have d9 : U25 152 (T 106 0 4) (-1) = U20 152 (T 106 0 4) (-1) := (up_k hU25 (by decide) _ _).trans (up_k hU21 (by decide) _ _)
        have e27 : U25 106 0 2 = T 106 0 2 := (up_j hU25 (by decide) 106 0).trans ((up_k hU21 (by decide) 0 2).trans ((fU20 106 0 2 rfl).trans ((fU17 106 0 2 rfl).trans (fU8 106 0 2 rfl))))
        have n2 : NA_ U25 := by
          refine ⟨⟨fun i => by rw [d5]; exact hna.1.1 i, fun i => ?_, fun i => by rw [d6]; exact hna.1.2.2 i⟩, fun i hi => by rw [d7]; exact hna.2.1 i (by omega), fun i hi => ?_, fun i hi => ?_⟩
          · by_cases z : i = T 106 0 4
            · rw [z, d9]; exact rU20
            · rw [d2 152 i (-1) (Or.inr rfl) z]; exact hna.1.2.1 i
          · rw [d2 102 i (-1) (Or.inl rfl) (by omega)]; exact hna.2.2.1 i (by omega)
          · rw [d8]
            by_cases z : i = T 106 0 4
            · exact hna.2.2.2 i (by omega)
            · rw [d2 102 i 10 (Or.inl rfl) z] at hi; exact hna.2.2.2 i (by omega)
        exact ⟨rfl, fr_u (fr_u (fr_t (fr_t (fr_t (fr_0 _ _) (fr_s fU8 rfl)) (fr_s fU17 rfl)) (fr_s fU20 rfl)) hU21 rfl) hU25 rfl, Or.inr ⟨⟨d1, by omega, by omega, by omega⟩, d2, d3, d4, ⟨by omega, by omega, by omega, by omega, by omega, by omega⟩, n2⟩⟩
      · refine (show po_X6_addFixture T c u h a d T (none) from ?_)
        exact ⟨rfl, fr_0 _ _, Or.inl ⟨rfl, by omega⟩⟩
