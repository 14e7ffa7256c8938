-- the sheets under a plan, the number of a competition
/-- a new match comes with empty sheets -/
def SN8_ (T T' : Zt) : Prop := (∀ (k : Nat) (i j : Int), k = 448 ∨ k = 449 → i ≠ T 106 0 4 → T' k i j = T k i j) ∧ ∀ j, 0 ≤ j → T' 449 (T 106 0 4) j = 0
/-- the sheets: the old stay, the new are empty -/
def SQ8_ (T T' : Zt) : Prop := (∀ (k : Nat) (i j : Int), k = 448 ∨ k = 449 → i < T 106 0 4 → T' k i j = T k i j) ∧ ∀ i j, T 106 0 4 ≤ i → i < T' 106 0 4 → 0 ≤ j → T' 449 i j = 0
theorem sq8_r {T : Zt} : SQ8_ T T := ⟨fun _ _ _ _ _ => rfl, fun i j a b => by omega⟩
theorem sq8_t {T T1 T2 : Zt} (h : SQ8_ T T1) (g : SQ8_ T1 T2) (h4 : T 106 0 4 ≤ T1 106 0 4) (g4 : T1 106 0 4 ≤ T2 106 0 4) : SQ8_ T T2 := by
  refine ⟨fun k i j hk hi => (g.1 k i j hk (by omega)).trans (h.1 k i j hk hi), fun i j a b c => ?_⟩
  by_cases z : i < T1 106 0 4
  · rw [g.1 449 i j (Or.inr rfl) z]
    exact h.2 i j a z c
  · exact g.2 i j (by omega) b c
theorem sq8_f {T T1 T2 : Zt} {c hh a d : Int} {A B C D : Prop} (h : SQ8_ T T1) (h4 : T 106 0 4 ≤ T1 106 0 4) (q : (T2 = T1 ∧ A) ∨ (nm_ T1 T2 c hh a d ∧ B ∧ C ∧ D ∧ SN8_ T1 T2)) : SQ8_ T T2 := by
  rcases q with ⟨rfl, -⟩ | ⟨n, -, -, -, s⟩
  · exact h
  · have e := n.1.1
    refine ⟨fun k i j hk hi => (s.1 k i j hk (by omega)).trans (h.1 k i j hk hi), fun i j u v g => ?_⟩
    by_cases z : i = T1 106 0 4
    · rw [z]; exact s.2 j g
    · rw [s.1 449 i j (Or.inr rfl) z]
      exact h.2 i j u (by omega) g
theorem sq8_u {T T1 : Zt} {k : Nat} {i j v : Int} (u : T1 = up_ T k i j v) (c : k ≠ 448 ∧ k ≠ 449 ∧ k ≠ 106) : SQ8_ T T1 := by
  refine ⟨fun k' i' j' hk _ => up_g u (fun z => by omega), fun i' j' a b _ => ?_⟩
  have e : T1 106 0 4 = T 106 0 4 := up_g u (fun z => by omega)
  omega
/-- a new competition knows its number -/
def CNN_ (T T' : Zt) : Prop := T' 106 0 2 = T 106 0 2 ∨ T' 100 (T 106 0 2) 0 = T 106 0 2
theorem fw9_ {A N B C D E : Prop} (h : A ∨ (N ∧ B ∧ C ∧ D ∧ E)) : A ∨ (N ∧ B ∧ C ∧ D) := h.imp id (fun z => ⟨z.1, z.2.1, z.2.2.1, z.2.2.2.1⟩)
theorem bk_X6_addFixture_s_0 : ck_ fX6 none cX6_addFixture 0 [.iload 3, .aload 1, .tableswitch 0 0 5 #[], .if_icmp .ge 27, .iload 4, .aload 1, .tableswitch 0 0 5 #[], .if_icmp .ge 27, .aload 0, .tableswitch 0 6 4 #[], .iconst 400, .if_icmp .lt 28, .return_] 28 = true := qck_r (nn_ _) (by decide +kernel)
theorem bs_X6_addFixture_s_0 {P : Zt → Option Zv → Prop} (K : Int → Zl → List Zv → Zt → Prop) : sx_ K P [.iload 3, .aload 1, .tableswitch 0 0 5 #[], .if_icmp .ge 27, .iload 4, .aload 1, .tableswitch 0 0 5 #[], .if_icmp .ge 27, .aload 0, .tableswitch 0 6 4 #[], .iconst 400, .if_icmp .lt 28, .return_] 28 = x_iload 3 (x_aload 1 (x_g0 100 5 0 12 (x_if_icmp .ge 27 K (x_iload 4 (x_aload 1 (x_g0 100 5 0 12 (x_if_icmp .ge 27 K (x_aload 0 (x_g0 106 4 0 400 (x_iconst 400 (x_if_icmp .lt 28 K (x_return_ P)))))))))))) := ((xe_iload 3).trans (congrArg (x_iload 3) ((xe_aload 1).trans (congrArg (x_aload 1) ((xe_g0 (kk := 100) rfl tl_0_5).trans (congrArg (x_g0 100 5 0 12) ((xe_if_icmp .ge 27).trans (congrArg (x_if_icmp .ge 27 K) ((xe_iload 4).trans (congrArg (x_iload 4) ((xe_aload 1).trans (congrArg (x_aload 1) ((xe_g0 (kk := 100) rfl tl_0_5).trans (congrArg (x_g0 100 5 0 12) ((xe_if_icmp .ge 27).trans (congrArg (x_if_icmp .ge 27 K) ((xe_aload 0).trans (congrArg (x_aload 0) ((xe_g0 (kk := 106) rfl tl_6_4).trans (congrArg (x_g0 106 4 0 400) ((xe_iconst 400).trans (congrArg (x_iconst 400) ((xe_if_icmp .lt 28).trans (congrArg (x_if_icmp .lt 28 K) (xe_return_)))))))))))))))))))))))))
theorem bk_X6_addFixture_s_27 : ck_ fX6 none cX6_addFixture 27 [.return_] 28 = true := qck_r (nn_ _) (by decide +kernel)
theorem bs_X6_addFixture_s_27 {P : Zt → Option Zv → Prop} (K : Int → Zl → List Zv → Zt → Prop) : sx_ K P [.return_] 28 = x_return_ P := (xe_return_)
theorem bk_X6_addFixture_s_28 : ck_ fX6 none cX6_addFixture 28 [.aload 0, .tableswitch 0 6 3 #[], .aload 0, .tableswitch 0 6 4 #[]] 36 = true := qck_r (nn_ _) (by decide +kernel)
theorem bs_X6_addFixture_s_28 {P : Zt → Option Zv → Prop} (K : Int → Zl → List Zv → Zt → Prop) : sx_ K P [.aload 0, .tableswitch 0 6 3 #[], .aload 0, .tableswitch 0 6 4 #[]] 36 = x_aload 0 (x_g1 106 523 (x_aload 0 (x_g0 106 4 0 400 (K 36)))) := ((xe_aload 0).trans (congrArg (x_aload 0) ((xe_g1 (kk := 106) rfl tl_6_3).trans (congrArg (x_g1 106 523) ((xe_aload 0).trans (congrArg (x_aload 0) ((xe_g0 (kk := 106) rfl tl_6_4).trans (congrArg (x_g0 106 4 0 400) xe_nil))))))))
theorem bk_X6_addFixture_s_39 : ck_ fX6 none cX6_addFixture 39 [.dup, .aload 1, .aload 0, .tableswitch 0 6 4 #[], .iload 2, .aload 1, .tableswitch 0 0 3 #[], .iload 3, .iaload, .aload 1, .tableswitch 0 0 3 #[], .iload 4, .iaload, .iload 5] 61 = true := qck_r (nn_ _) (by decide +kernel)
theorem bs_X6_addFixture_s_39 {P : Zt → Option Zv → Prop} (K : Int → Zl → List Zv → Zt → Prop) : sx_ K P [.dup, .aload 1, .aload 0, .tableswitch 0 6 4 #[], .iload 2, .aload 1, .tableswitch 0 0 3 #[], .iload 3, .iaload, .aload 1, .tableswitch 0 0 3 #[], .iload 4, .iaload, .iload 5] 61 = x_dup (x_aload 1 (x_aload 0 (x_g0 106 4 0 400 (x_iload 2 (x_aload 1 (x_g2 100 403 (x_iload 3 (x_iaload (x_aload 1 (x_g2 100 403 (x_iload 4 (x_iaload (x_iload 5 (K 61)))))))))))))) := ((xe_dup).trans (congrArg (x_dup) ((xe_aload 1).trans (congrArg (x_aload 1) ((xe_aload 0).trans (congrArg (x_aload 0) ((xe_g0 (kk := 106) rfl tl_6_4).trans (congrArg (x_g0 106 4 0 400) ((xe_iload 2).trans (congrArg (x_iload 2) ((xe_aload 1).trans (congrArg (x_aload 1) ((xe_g2 (kk := 100) rfl tl_0_3).trans (congrArg (x_g2 100 403) ((xe_iload 3).trans (congrArg (x_iload 3) ((xe_iaload).trans (congrArg (x_iaload) ((xe_aload 1).trans (congrArg (x_aload 1) ((xe_g2 (kk := 100) rfl tl_0_3).trans (congrArg (x_g2 100 403) ((xe_iload 4).trans (congrArg (x_iload 4) ((xe_iaload).trans (congrArg (x_iaload) ((xe_iload 5).trans (congrArg (x_iload 5) xe_nil))))))))))))))))))))))))))))
theorem bk_X6_addFixture_s_65 : ck_ fX6 none cX6_addFixture 65 [.aload 0, .dup, .tableswitch 0 6 4 #[], .iconst 1, .iadd, .tableswitch 1 6 4 #[], .return_] 76 = true := qck_r (nn_ _) (by decide +kernel)
theorem bs_X6_addFixture_s_65 {P : Zt → Option Zv → Prop} (K : Int → Zl → List Zv → Zt → Prop) : sx_ K P [.aload 0, .dup, .tableswitch 0 6 4 #[], .iconst 1, .iadd, .tableswitch 1 6 4 #[], .return_] 76 = x_aload 0 (x_dup (x_g0 106 4 0 400 (x_iconst 1 (x_iadd (x_p 106 4 0 400 (x_return_ P)))))) := ((xe_aload 0).trans (congrArg (x_aload 0) ((xe_dup).trans (congrArg (x_dup) ((xe_g0 (kk := 106) rfl tl_6_4).trans (congrArg (x_g0 106 4 0 400) ((xe_iconst 1).trans (congrArg (x_iconst 1) ((xe_iadd).trans (congrArg (x_iadd) ((xe_p (kk := 106) rfl tl_6_4).trans (congrArg (x_p 106 4 0 400) (xe_return_)))))))))))))
abbrev po_X6_addFixture_s (T : Zt) (c : Int) (u h a d : Int) : Zt → Option Zv → Prop := fun T' r => r = none ∧ fr_ [(106, [4]), (523, []), (152, []), (102, []), (448, []), (449, [])] T T' ∧ ((T' = T ∧ (T 100 c 5 ≤ h ∨ T 100 c 5 ≤ a ∨ 400 ≤ T 106 0 4)) ∨ (nm_ T T' c h a d ∧ T' 102 (T 106 0 4) 2 = u ∧ T' 102 (T 106 0 4) 6 = -1 ∧ T' 102 (T 106 0 4) 7 = -1 ∧ SN8_ T T'))
set_option maxHeartbeats 4000000 in
theorem ct_X6_addFixture_s {T : Zt} {c : Int} {u h a d : Int} (hc : 0 ≤ c ∧ c ≤ 3) (hh : 0 ≤ h ∧ 0 ≤ a ∧ 0 ≤ d ∧ d ≤ 999) (hna : NA_ T) : Ct_ yX6_addFixture zX6_addFixture T [vR 106 0, vR 100 c, vI u, vI h, vI a, vI d] (po_X6_addFixture_s T c u h a d) := by
  refine ct_of pn_6 rfl rfl (Nat.le_of_ble_eq_true rfl) (fun hT hav => ?_)
  have hr_u : -2147483648 ≤ u ∧ u ≤ 2147483647 := hav (vI u) (List.mem_cons_of_mem _ (List.mem_cons_of_mem _ List.mem_cons_self))
  have hr_h : -2147483648 ≤ h ∧ h ≤ 2147483647 := hav (vI h) (List.mem_cons_of_mem _ (List.mem_cons_of_mem _ (List.mem_cons_of_mem _ List.mem_cons_self)))
  have hr_a : -2147483648 ≤ a ∧ a ≤ 2147483647 := hav (vI a) (List.mem_cons_of_mem _ (List.mem_cons_of_mem _ (List.mem_cons_of_mem _ (List.mem_cons_of_mem _ List.mem_cons_self))))
  have hr_d : -2147483648 ≤ d ∧ d ≤ 2147483647 := hav (vI d) (List.mem_cons_of_mem _ (List.mem_cons_of_mem _ (List.mem_cons_of_mem _ (List.mem_cons_of_mem _ (List.mem_cons_of_mem _ List.mem_cons_self)))))
  have hz : zX6_addFixture.2.2.2.1 = some .boolean → ∀ (T' : Zt) (x : Int), po_X6_addFixture_s T c u h a d T' (some (vI x)) → 0 ≤ x ∧ x ≤ 1 := fun h => by cases h
  have hb_matchCount : 0 ≤ T 106 0 4 ∧ T 106 0 4 ≤ 400 := bd_f hT 106 4 tl_6_4 0
  have hb5 : 0 ≤ T 100 c 5 ∧ T 100 c 5 ≤ 12 := bd_f hT 100 5 tl_0_5 c
  show J_ zX6_addFixture T (po_X6_addFixture_s T c u h a d) 3 34 0 [some (vR 106 0), some (vR 100 c), some (vI u), some (vI h), some (vI a), some (vI d)] [] T
  refine j_blx (F := fX6) tb_X6 (nn_ _) bk_X6_addFixture_s_0 bs_X6_addFixture_s_0 hz (fun K hK => ?_)
  intro b1 b1b
  refine And.intro (fun c2 => ?_) (fun c2 => ?_)
  · refine hK 27 _ [] T ?_
    refine j_blx (F := fX6) tb_X6 (nn_ _) bk_X6_addFixture_s_27 bs_X6_addFixture_s_27 hz (fun K hK => ?_)
    refine (show po_X6_addFixture_s T c u h a d T (none) from ?_)
    exact ⟨rfl, fr_0 _ _, Or.inl ⟨rfl, by omega⟩⟩
  · intro b3 b3b
    refine And.intro (fun c4 => ?_) (fun c4 => ?_)
    · refine hK 27 _ [] T ?_
      refine j_blx (F := fX6) tb_X6 (nn_ _) bk_X6_addFixture_s_27 bs_X6_addFixture_s_27 hz (fun K hK => ?_)
      refine (show po_X6_addFixture_s T c u h a d T (none) from ?_)
      exact ⟨rfl, fr_0 _ _, Or.inl ⟨rfl, by omega⟩⟩
    · intro b5 b5b
      refine And.intro (fun c6 => ?_) (fun c6 => ?_)
      · refine hK 28 _ [] T ?_
        refine j_blx (F := fX6) tb_X6 (nn_ _) bk_X6_addFixture_s_28 bs_X6_addFixture_s_28 hz (fun K hK => ?_)
        intro b7 b7b
        refine hK 36 _ [vI (T 106 0 4), vR 523 0] T ?_
        refine j_newO (bc' := 2) (bs' := 23) (pc := 36) (ci := 2) (i := T 106 0 4) (by decide) (by decide) vi_2 tyX2_ok (nf_2 _) (lwq_1 (dqc_m (dqc_m (dqc_m (dqc_m (dqa_m (dqa_m (List.mem_of_getElem? (i := 0) rfl))))))) rfl : Cond.classLink RX6 17 RX2 ∈ lw_g) (lwq_3 (dqc_m (dqc_m (dqc_m (dqc_m (dqc_m (dqc_m (dqa_m (dqa_m (dqa_m (List.mem_of_getElem? (i := 5) rfl)))))))))) rfl : Cond.instantiable RX2 11 ∈ lw_g) (lwq_1 (dqa_m (dqa_m (List.mem_of_getElem? (i := 0) rfl))) rfl : Cond.initialized RX2 ∈ lw_g) (hna.1.2.1 _) (by omega) (by omega) (by decide +kernel) ?_
        refine j_nm (fun U8 hU8 => ?_)
        have fU8 := nu_fr hU8
        have zU8 := nu_tz hU8
        have oU8 := nu_to hU8
        have vU8 := nu_tv hU8
        show J_ zX6_addFixture T (po_X6_addFixture_s T c u h a d) 2 23 39 _ [vR 152 (T 106 0 4), vI (T 106 0 4), vR 523 0] U8
        refine j_blx (F := fX6) tb_X6 (nn_ _) bk_X6_addFixture_s_39 bs_X6_addFixture_s_39 hz (fun K hK => ?_)
        intro b9 b9b
        have e10 : U8 106 0 4 = T 106 0 4 := fU8 106 0 4 rfl
        rw [e10] at b9 b9b ⊢
        refine ix_i (by omega) ?_
        intro b11 b11b
        have e12 : U8 403 c h = T 403 c h := fU8 403 c h rfl
        rw [e12] at b11 b11b ⊢
        refine ix_i (by omega) ?_
        intro b13 b13b
        have e14 : U8 403 c a = T 403 c a := fU8 403 c a rfl
        rw [e14] at b13 b13b ⊢
        refine hK 61 _ [vI d, vI (T 403 c a), vI (T 403 c h), vI u, vI (T 106 0 4), vR 100 c, vR 152 (T 106 0 4), vR 152 (T 106 0 4), vI (T 106 0 4), vR 523 0] U8 ?_
        have hv1 : ∀ k : Nat, ow_ k = some 102 → ¬ T k (T 106 0 4) (-1) = 1 := fun k hk h => (hT.2.2.2.2.2.2.2.1 k _ 102 hk h).elim (hna.2.2.1 _ (by omega)) (hna.1.2.1 _)
        have e15 : U8 448 (T 106 0 4) (-1) = T 448 (T 106 0 4) (-1) := fU8 448 (T 106 0 4) (-1) rfl
        have e16 : U8 449 (T 106 0 4) (-1) = T 449 (T 106 0 4) (-1) := fU8 449 (T 106 0 4) (-1) rfl
        refine j_callI (y := yX2_init) (Yc := zX2_init) (rest := [vR 152 (T 106 0 4), vI (T 106 0 4), vR 523 0]) [vR 100 c, vI (T 106 0 4), vI u, vI (T 403 c h), vI (T 403 c a), vI d] (ct_X2_init (T := U8) (by omega) (by rw [e15]; exact hv1 448 (by decide)) (by rw [e16]; exact hv1 449 (by decide))) ci_X6_85 (qd_c (by decide +kernel)) (nn_ _) rfl (rf_of rfl) (Nat.le_of_ble_eq_true rfl) (Nat.le_of_ble_eq_true rfl) (Nat.le_of_ble_eq_true rfl) rfl ?_
        rintro U17 _ ⟨rfl, fU17, qU17o, ⟨t0U17, t1U17, t2U17, t3U17, t4U17, t5U17⟩, ⟨t6U17, t7U17, t8U17, t9U17, t10U17⟩, z8U17, z9U17⟩
        show J_ zX6_addFixture T (po_X6_addFixture_s T c u h a d) 0 0 64 _ [vR 152 (T 106 0 4), vI (T 106 0 4), vR 523 0] U17
        refine j_ok (fun gt2 _ => ?_)
        have e19 : U17 102 (T 106 0 4) (-1) = T 102 (T 106 0 4) (-1) := (fU17 102 (T 106 0 4) (-1) rfl).trans (fU8 102 (T 106 0 4) (-1) rfl)
        refine j_conv (k := 102) (i := T 106 0 4) (g := g2_ U17 (T 106 0 4)) (by decide) (by show ¬ U17 102 (T 106 0 4) (-1) = 1; rw [e19]; exact hna.2.2.1 _ (by omega)) (hna.1.2.1 _) (cg_2 gt2 (by omega) (by omega) t8U17 t9U17 (t10U17.trans (zU8 10 (by decide)))) rfl rfl ?_
        refine j_nm (fun U20 hU20 => ?_)
        have fU20 := cw_fr hU20
        have sU20 := cw_ts hU20
        have oU20 := cw_to hU20
        have rU20 := cw_r hU20
        show J_ zX6_addFixture T (po_X6_addFixture_s T c u h a d) 0 0 64 _ [vR 102 (T 106 0 4), vI (T 106 0 4), vR 523 0] U20
        refine j_aast (pc := 64) (by decide) (by decide) (by decide +kernel : ta_ 523 = some (5, some 400, 0, 1)) (by decide +kernel) (by omega) (by show _ < (400 : Int); omega) (by decide) ?_
        refine j_nm (fun U21 hU21 => ?_)
        have e22 := up_f hU21
        show J_ zX6_addFixture T (po_X6_addFixture_s T c u h a d) 0 0 65 _ [] U21
        refine j_blx (F := fX6) tb_X6 (nn_ _) bk_X6_addFixture_s_65 bs_X6_addFixture_s_65 hz (fun K hK => ?_)
        intro b23 b23b
        have e24 : U21 106 0 4 = T 106 0 4 := (up_k hU21 (by exact Nat.ne_of_beq_eq_false rfl) 0 4).trans ((fU20 106 0 4 rfl).trans ((fU17 106 0 4 rfl).trans (fU8 106 0 4 rfl)))
        rw [e24] at b23 b23b ⊢
        refine rg_i (by omega) ?_
        refine bd_i (by omega) ?_
        refine x_nm (fun U25 hU25 => ?_)
        have e26 := up_f hU25
        refine (show po_X6_addFixture_s T c u h a d U25 (none) from ?_)
        have w0 : U20 102 (T 106 0 4) 0 = U17 152 (T 106 0 4) 0 - 1 := (sU20 0 (by decide)).trans (by unfold g2_; rw [if_pos (by decide)])
        have w1 : U20 102 (T 106 0 4) 1 = U17 152 (T 106 0 4) 1 := (sU20 1 (by decide)).trans (by unfold g2_; rw [if_neg (by decide)])
        have w2 : U20 102 (T 106 0 4) 2 = U17 152 (T 106 0 4) 2 := (sU20 2 (by decide)).trans (by unfold g2_; rw [if_neg (by decide)])
        have w3 : U20 102 (T 106 0 4) 3 = U17 152 (T 106 0 4) 3 := (sU20 3 (by decide)).trans (by unfold g2_; rw [if_neg (by decide)])
        have w4 : U20 102 (T 106 0 4) 4 = U17 152 (T 106 0 4) 4 := (sU20 4 (by decide)).trans (by unfold g2_; rw [if_neg (by decide)])
        have w5 : U20 102 (T 106 0 4) 5 = U17 152 (T 106 0 4) 5 := (sU20 5 (by decide)).trans (by unfold g2_; rw [if_neg (by decide)])
        have w6 : U20 102 (T 106 0 4) 6 = U17 152 (T 106 0 4) 6 := (sU20 6 (by decide)).trans (by unfold g2_; rw [if_neg (by decide)])
        have w7 : U20 102 (T 106 0 4) 7 = U17 152 (T 106 0 4) 7 := (sU20 7 (by decide)).trans (by unfold g2_; rw [if_neg (by decide)])
        have w10 : U20 102 (T 106 0 4) 10 = U17 152 (T 106 0 4) 10 := (sU20 10 (by decide)).trans (by unfold g2_; rw [if_neg (by decide)])
        have y10 : U8 152 (T 106 0 4) 10 = 0 := zU8 10 (by decide)
        have u0 : U25 102 (T 106 0 4) 0 = U20 102 (T 106 0 4) 0 := (up_k hU25 (by exact Nat.ne_of_beq_eq_false rfl) _ _).trans (up_k hU21 (by exact Nat.ne_of_beq_eq_false rfl) _ _)
        have u1 : U25 102 (T 106 0 4) 1 = U20 102 (T 106 0 4) 1 := (up_k hU25 (by exact Nat.ne_of_beq_eq_false rfl) _ _).trans (up_k hU21 (by exact Nat.ne_of_beq_eq_false rfl) _ _)
        have u2 : U25 102 (T 106 0 4) 2 = U20 102 (T 106 0 4) 2 := (up_k hU25 (by exact Nat.ne_of_beq_eq_false rfl) _ _).trans (up_k hU21 (by exact Nat.ne_of_beq_eq_false rfl) _ _)
        have u3 : U25 102 (T 106 0 4) 3 = U20 102 (T 106 0 4) 3 := (up_k hU25 (by exact Nat.ne_of_beq_eq_false rfl) _ _).trans (up_k hU21 (by exact Nat.ne_of_beq_eq_false rfl) _ _)
        have u4 : U25 102 (T 106 0 4) 4 = U20 102 (T 106 0 4) 4 := (up_k hU25 (by exact Nat.ne_of_beq_eq_false rfl) _ _).trans (up_k hU21 (by exact Nat.ne_of_beq_eq_false rfl) _ _)
        have u5 : U25 102 (T 106 0 4) 5 = U20 102 (T 106 0 4) 5 := (up_k hU25 (by exact Nat.ne_of_beq_eq_false rfl) _ _).trans (up_k hU21 (by exact Nat.ne_of_beq_eq_false rfl) _ _)
        have u6 : U25 102 (T 106 0 4) 6 = U20 102 (T 106 0 4) 6 := (up_k hU25 (by exact Nat.ne_of_beq_eq_false rfl) _ _).trans (up_k hU21 (by exact Nat.ne_of_beq_eq_false rfl) _ _)
        have u7 : U25 102 (T 106 0 4) 7 = U20 102 (T 106 0 4) 7 := (up_k hU25 (by exact Nat.ne_of_beq_eq_false rfl) _ _).trans (up_k hU21 (by exact Nat.ne_of_beq_eq_false rfl) _ _)
        have u10 : U25 102 (T 106 0 4) 10 = U20 102 (T 106 0 4) 10 := (up_k hU25 (by exact Nat.ne_of_beq_eq_false rfl) _ _).trans (up_k hU21 (by exact Nat.ne_of_beq_eq_false rfl) _ _)
        have d1 : U25 106 0 4 = T 106 0 4 + 1 := by omega
        have d2 : ∀ (k : Nat) (i j : Int), k = 102 ∨ k = 152 → i ≠ T 106 0 4 → U25 k i j = T k i j := fun k i j hk hi => (up_g hU25 (fun z => by omega)).trans ((up_g hU21 (fun z => by omega)).trans ((oU20 k i j hi).trans ((qU17o k i j hi).trans (oU8 k i j (fun z => hi z.2)))))
        have d3 : ∀ j, j ≠ T 106 0 4 → U25 523 0 j = T 523 0 j := fun j hj => (up_k hU25 (by exact Nat.ne_of_beq_eq_false rfl) _ _).trans ((up_g hU21 (fun z => hj z.2.2)).trans ((fU20 523 _ _ rfl).trans ((fU17 523 _ _ rfl).trans (fU8 523 _ _ rfl))))
        have d4 : U25 523 0 (T 106 0 4) = 1 := (up_k hU25 (by exact Nat.ne_of_beq_eq_false rfl) _ _).trans (up_f hU21)
        have d5 : ∀ i, U25 150 i (-1) = T 150 i (-1) := fun i => (up_k hU25 (by exact Nat.ne_of_beq_eq_false rfl) _ _).trans ((up_k hU21 (by exact Nat.ne_of_beq_eq_false rfl) _ _).trans ((fU20 150 _ _ rfl).trans ((fU17 150 _ _ rfl).trans (fU8 150 _ _ rfl))))
        have d6 : ∀ i, U25 153 i (-1) = T 153 i (-1) := fun i => (up_k hU25 (by exact Nat.ne_of_beq_eq_false rfl) _ _).trans ((up_k hU21 (by exact Nat.ne_of_beq_eq_false rfl) _ _).trans ((fU20 153 _ _ rfl).trans ((fU17 153 _ _ rfl).trans (fU8 153 _ _ rfl))))
        have d7 : ∀ i, U25 100 i (-1) = T 100 i (-1) := fun i => (up_k hU25 (by exact Nat.ne_of_beq_eq_false rfl) _ _).trans ((up_k hU21 (by exact Nat.ne_of_beq_eq_false rfl) _ _).trans ((fU20 100 _ _ rfl).trans ((fU17 100 _ _ rfl).trans (fU8 100 _ _ rfl))))
        have d8 : ∀ i, U25 103 i (-1) = T 103 i (-1) := fun i => (up_k hU25 (by exact Nat.ne_of_beq_eq_false rfl) _ _).trans ((up_k hU21 (by exact Nat.ne_of_beq_eq_false rfl) _ _).trans ((fU20 103 _ _ rfl).trans ((fU17 103 _ _ rfl).trans (fU8 103 _ _ rfl))))
        have d9 : U25 152 (T 106 0 4) (-1) = U20 152 (T 106 0 4) (-1) := (up_k hU25 (by exact Nat.ne_of_beq_eq_false rfl) _ _).trans (up_k hU21 (by exact Nat.ne_of_beq_eq_false rfl) _ _)
        have sn9 : SN8_ T U25 := ⟨fun k i j hk hi => (up_g hU25 (fun z => by omega)).trans ((up_g hU21 (fun z => by omega)).trans ((oU20 k i j hi).trans ((qU17o k i j hi).trans (oU8 k i j (fun z => hi z.2))))), fun j hj => (up_k hU25 (by exact Nat.ne_of_beq_eq_false rfl) _ _).trans ((up_k hU21 (by exact Nat.ne_of_beq_eq_false rfl) _ _).trans ((fU20 449 _ _ rfl).trans (z9U17 j hj)))⟩
        have e27 : U25 106 0 2 = T 106 0 2 := (up_j hU25 (by decide) 106 0).trans ((up_k hU21 (by exact Nat.ne_of_beq_eq_false rfl) 0 2).trans ((fU20 106 0 2 rfl).trans ((fU17 106 0 2 rfl).trans (fU8 106 0 2 rfl))))
        have n2 : NA_ U25 := by
          refine ⟨⟨fun i => by rw [d5]; exact hna.1.1 i, fun i => ?_, fun i => by rw [d6]; exact hna.1.2.2 i⟩, fun i hi => by rw [d7]; exact hna.2.1 i (by omega), fun i hi => ?_, fun i hi => ?_⟩
          · by_cases z : i = T 106 0 4
            · rw [z, d9]; exact rU20
            · rw [d2 152 i (-1) (Or.inr rfl) z]; exact hna.1.2.1 i
          · rw [d2 102 i (-1) (Or.inl rfl) (by omega)]; exact hna.2.2.1 i (by omega)
          · rw [d8]
            by_cases z : i = T 106 0 4
            · exact hna.2.2.2 i (by omega)
            · rw [d2 102 i 10 (Or.inl rfl) z] at hi; exact hna.2.2.2 i (by omega)
        exact ⟨rfl, fr_u (fr_u (fr_t (fr_t (fr_t (fr_0 _ _) (fr_s fU8 rfl)) (fr_s fU17 rfl)) (fr_s fU20 rfl)) hU21 rfl) hU25 rfl, Or.inr ⟨⟨⟨d1, by omega, by omega, by omega⟩, d2, d3, d4, ⟨by omega, by omega, by omega, by omega, by omega, by omega⟩, n2⟩, by omega, by omega, by omega, sn9⟩⟩
      · refine (show po_X6_addFixture_s T c u h a d T (none) from ?_)
        exact ⟨rfl, fr_0 _ _, Or.inl ⟨rfl, by omega⟩⟩
