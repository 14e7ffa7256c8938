-- the sheets under a plan, the number of a competition
/-- a new match comes with empty sheets -/
def SN8_ (T T' : Zt) : Prop := (∀ (k : Nat) (i j : Int), k = 448 ∨ k = 449 → i ≠ T 106 0 4 → T' k i j = T k i j) ∧ ∀ j, 0 ≤ j → T' 449 (T 106 0 4) j = 0
/-- the sheets: the old stay, the new are empty -/
def SQ8_ (T T' : Zt) : Prop := (∀ (k : Nat) (i j : Int), k = 448 ∨ k = 449 → i < T 106 0 4 → T' k i j = T k i j) ∧ ∀ i j, T 106 0 4 ≤ i → i < T' 106 0 4 → 0 ≤ j → T' 449 i j = 0
theorem sq8_r {T : Zt} : SQ8_ T T := ⟨fun _ _ _ _ _ => rfl, fun i j a b => by omega⟩
theorem sq8_t {T T1 T2 : Zt} (h : SQ8_ T T1) (g : SQ8_ T1 T2) (h4 : T 106 0 4 ≤ T1 106 0 4) (g4 : T1 106 0 4 ≤ T2 106 0 4) : SQ8_ T T2 := by
  refine ⟨fun k i j hk hi => (g.1 k i j hk (by omega)).trans (h.1 k i j hk hi), fun i j a b c => ?_⟩
  by_cases z : i < T1 106 0 4
  · rw [g.1 449 i j (Or.inr rfl) z]
    exact h.2 i j a z c
  · exact g.2 i j (by omega) b c
theorem sq8_f {T T1 T2 : Zt} {c hh a d : Int} {A B C D : Prop} (h : SQ8_ T T1) (h4 : T 106 0 4 ≤ T1 106 0 4) (q : (T2 = T1 ∧ A) ∨ (nm_ T1 T2 c hh a d ∧ B ∧ C ∧ D ∧ SN8_ T1 T2)) : SQ8_ T T2 := by
  rcases q with ⟨rfl, -⟩ | ⟨n, -, -, -, s⟩
  · exact h
  · have e := n.1.1
    refine ⟨fun k i j hk hi => (s.1 k i j hk (by omega)).trans (h.1 k i j hk hi), fun i j u v g => ?_⟩
    by_cases z : i = T1 106 0 4
    · rw [z]; exact s.2 j g
    · rw [s.1 449 i j (Or.inr rfl) z]
      exact h.2 i j u (by omega) g
theorem sq8_u {T T1 : Zt} {k : Nat} {i j v : Int} (u : T1 = up_ T k i j v) (c : k ≠ 448 ∧ k ≠ 449 ∧ k ≠ 106) : SQ8_ T T1 := by
  refine ⟨fun k' i' j' hk _ => up_g u (fun z => by omega), fun i' j' a b _ => ?_⟩
  have e : T1 106 0 4 = T 106 0 4 := up_g u (fun z => by omega)
  omega
/-- a new competition knows its number -/
def CNN_ (T T' : Zt) : Prop := T' 106 0 2 = T 106 0 2 ∨ T' 100 (T 106 0 2) 0 = T 106 0 2
theorem fw9_ {A N B C D E : Prop} (h : A ∨ (N ∧ B ∧ C ∧ D ∧ E)) : A ∨ (N ∧ B ∧ C ∧ D) := h.imp id (fun z => ⟨z.1, z.2.1, z.2.2.1, z.2.2.2.1⟩)
theorem bk_X6_addFixture_s_0 : ck_ fX6 none cX6_addFixture 0 [.iload 3, .aload 1, .tableswitch 0 0 5 #[], .if_icmp .ge 27, .iload 4, .aload 1, .tableswitch 0 0 5 #[], .if_icmp .ge 27, .aload 0, .tableswitch 0 6 4 #[], .iconst 400, .if_icmp .lt 28, .return_] 28 = true := qck_r (nn_ _) (by decide +kernel)
theorem bs_X6_addFixture_s_0 {P : Zt → Option Zv → Prop} (K : Int → Zl → List Zv → Zt → Prop) : sx_ K P [.iload 3, .aload 1, .tableswitch 0 0 5 #[], .if_icmp .ge 27, .iload 4, .aload 1, .tableswitch 0 0 5 #[], .if_icmp .ge 27, .aload 0, .tableswitch 0 6 4 #[], .iconst 400, .if_icmp .lt 28, .return_] 28 = x_iload 3 (x_aload 1 (x_g0 100 5 0 12 (x_if_icmp .ge 27 K (x_iload 4 (x_aload 1 (x_g0 100 5 0 12 (x_if_icmp .ge 27 K (x_aload 0 (x_g0 106 4 0 400 (x_iconst 400 (x_if_icmp .lt 28 K (x_return_ P)))))))))))) := ((xe_iload 3).trans (congrArg (x_iload 3) ((xe_aload 1).trans (congrArg (x_aload 1) ((xe_g0 (kk := 100) rfl tl_0_5).trans (congrArg (x_g0 100 5 0 12) ((xe_if_icmp .ge 27).trans (congrArg (x_if_icmp .ge 27 K) ((xe_iload 4).trans (congrArg (x_iload 4) ((xe_aload 1).trans (congrArg (x_aload 1) ((xe_g0 (kk := 100) rfl tl_0_5).trans (congrArg (x_g0 100 5 0 12) ((xe_if_icmp .ge 27).trans (congrArg (x_if_icmp .ge 27 K) ((xe_aload 0).trans (congrArg (x_aload 0) ((xe_g0 (kk := 106) rfl tl_6_4).trans (congrArg (x_g0 106 4 0 400) ((xe_iconst 400).trans (congrArg (x_iconst 400) ((xe_if_icmp .lt 28).trans (congrArg (x_if_icmp .lt 28 K) (xe_return_)))))))))))))))))))))))))
theorem bk_X6_addFixture_s_27 : ck_ fX6 none cX6_addFixture 27 [.return_] 28 = true := qck_r (nn_ _) (by decide +kernel)
theorem bs_X6_addFixture_s_27 {P : Zt → Option Zv → Prop} (K : Int → Zl → List Zv → Zt → Prop) : sx_ K P [.return_] 28 = x_return_ P := (xe_return_)
theorem bk_X6_addFixture_s_28 : ck_ fX6 none cX6_addFixture 28 [.aload 0, .tableswitch 0 6 3 #[], .aload 0, .tableswitch 0 6 4 #[]] 36 = true := qck_r (nn_ _) (by decide +kernel)
theorem bs_X6_addFixture_s_28 {P : Zt → Option Zv → Prop} (K : Int → Zl → List Zv → Zt → Prop) : sx_ K P [.aload 0, .tableswitch 0 6 3 #[], .aload 0, .tableswitch 0 6 4 #[]] 36 = x_aload 0 (x_g1 106 523 (x_aload 0 (x_g0 106 4 0 400 (K 36)))) := ((xe_aload 0).trans (congrArg (x_aload 0) ((xe_g1 (kk := 106) rfl tl_6_3).trans (congrArg (x_g1 106 523) ((xe_aload 0).trans (congrArg (x_aload 0) ((xe_g0 (kk := 106) rfl tl_6_4).trans (congrArg (x_g0 106 4 0 400) xe_nil))))))))
theorem bk_X6_addFixture_s_39 : ck_ fX6 none cX6_addFixture 39 [.dup, .aload 1, .aload 0, .tableswitch 0 6 4 #[], .iload 2, .aload 1, .tableswitch 0 0 3 #[], .iload 3, .iaload, .aload 1, .tableswitch 0 0 3 #[], .iload 4, .iaload, .iload 5] 61 = true := qck_r (nn_ _) (by decide +kernel)
theorem bs_X6_addFixture_s_39 {P : Zt → Option Zv → Prop} (K : Int → Zl → List Zv → Zt → Prop) : sx_ K P [.dup, .aload 1, .aload 0, .tableswitch 0 6 4 #[], .iload 2, .aload 1, .tableswitch 0 0 3 #[], .iload 3, .iaload, .aload 1, .tableswitch 0 0 3 #[], .iload 4, .iaload, .iload 5] 61 = x_dup (x_aload 1 (x_aload 0 (x_g0 106 4 0 400 (x_iload 2 (x_aload 1 (x_g2 100 403 (x_iload 3 (x_iaload (x_aload 1 (x_g2 100 403 (x_iload 4 (x_iaload (x_iload 5 (K 61)))))))))))))) := ((xe_dup).trans (congrArg (x_dup) ((xe_aload 1).trans (congrArg (x_aload 1) ((xe_aload 0).trans (congrArg (x_aload 0) ((xe_g0 (kk := 106) rfl tl_6_4).trans (congrArg (x_g0 106 4 0 400) ((xe_iload 2).trans (congrArg (x_iload 2) ((xe_aload 1).trans (congrArg (x_aload 1) ((xe_g2 (kk := 100) rfl tl_0_3).trans (congrArg (x_g2 100 403) ((xe_iload 3).trans (congrArg (x_iload 3) ((xe_iaload).trans (congrArg (x_iaload) ((xe_aload 1).trans (congrArg (x_aload 1) ((xe_g2 (kk := 100) rfl tl_0_3).trans (congrArg (x_g2 100 403) ((xe_iload 4).trans (congrArg (x_iload 4) ((xe_iaload).trans (congrArg (x_iaload) ((xe_iload 5).trans (congrArg (x_iload 5) xe_nil))))))))))))))))))))))))))))
theorem bk_X6_addFixture_s_65 : ck_ fX6 none cX6_addFixture 65 [.aload 0, .dup, .tableswitch 0 6 4 #[], .iconst 1, .iadd, .tableswitch 1 6 4 #[], .return_] 76 = true := qck_r (nn_ _) (by decide +kernel)
theorem bs_X6_addFixture_s_65 {P : Zt → Option Zv → Prop} (K : Int → Zl → List Zv → Zt → Prop) : sx_ K P [.aload 0, .dup, .tableswitch 0 6 4 #[], .iconst 1, .iadd, .tableswitch 1 6 4 #[], .return_] 76 = x_aload 0 (x_dup (x_g0 106 4 0 400 (x_iconst 1 (x_iadd (x_p 106 4 0 400 (x_return_ P)))))) := ((xe_aload 0).trans (congrArg (x_aload 0) ((xe_dup).trans (congrArg (x_dup) ((xe_g0 (kk := 106) rfl tl_6_4).trans (congrArg (x_g0 106 4 0 400) ((xe_iconst 1).trans (congrArg (x_iconst 1) ((xe_iadd).trans (congrArg (x_iadd) ((xe_p (kk := 106) rfl tl_6_4).trans (congrArg (x_p 106 4 0 400) (xe_return_)))))))))))))
abbrev po_X6_addFixture_s (T : Zt) (c : Int) (u h a d : Int) : Zt → Option Zv → Prop := fun T' r => r = none ∧ fr_ [(106, [4]), (523, []), (152, []), (102, []), (448, []), (449, [])] T T' ∧ ((T' = T ∧ (T 100 c 5 ≤ h ∨ T 100 c 5 ≤ a ∨ 400 ≤ T 106 0 4)) ∨ (nm_ T T' c h a d ∧ T' 102 (T 106 0 4) 2 = u ∧ T' 102 (T 106 0 4) 6 = -1 ∧ T' 102 (T 106 0 4) 7 = -1 ∧ SN8_ T T'))
set_option maxHeartbeats 4000000 in
theorem ct_X6_addFixture_s {T : Zt} {c : Int} {u h a d : Int} (hc : 0 ≤ c ∧ c ≤ 3) (hh : 0 ≤ h ∧ 0 ≤ a ∧ 0 ≤ d ∧ d ≤ 999) (hna : NA_ T) : Ct_ yX6_addFixture zX6_addFixture T [vR 106 0, vR 100 c, vI u, vI h, vI a, vI d] (po_X6_addFixture_s T c u h a d) := by
  refine ct_of pn_6 rfl rfl (Nat.le_of_ble_eq_true rfl) (fun hT hav => ?_)
  have hr_u : -2147483648 ≤ u ∧ u ≤ 2147483647 := hav (vI u) (List.mem_cons_of_mem _ (List.mem_cons_of_mem _ List.mem_cons_self))
  have hr_h : -2147483648 ≤ h ∧ h ≤ 2147483647 := hav (vI h) (List.mem_cons_of_mem _ (List.mem_cons_of_mem _ (List.mem_cons_of_mem _ List.mem_cons_self)))
  have hr_a : -2147483648 ≤ a ∧ a ≤ 2147483647 := hav (vI a) (List.mem_cons_of_mem _ (List.mem_cons_of_mem _ (List.mem_cons_of_mem _ (List.mem_cons_of_mem _ List.mem_cons_self))))
  have hr_d : -2147483648 ≤ d ∧ d ≤ 2147483647 := hav (vI d) (List.mem_cons_of_mem _ (List.mem_cons_of_mem _ (List.mem_cons_of_mem _ (List.mem_cons_of_mem _ (List.mem_cons_of_mem _ List.mem_cons_self)))))
  have hz : zX6_addFixture.2.2.2.1 = some .boolean → ∀ (T' : Zt) (x : Int), po_X6_addFixture_s T c u h a d T' (some (vI x)) → 0 ≤ x ∧ x ≤ 1 := fun h => by cases h
  have hb_matchCount : 0 ≤ T 106 0 4 ∧ T 106 0 4 ≤ 400 := bd_f hT 106 4 tl_6_4 0
  have hb5 : 0 ≤ T 100 c 5 ∧ T 100 c 5 ≤ 12 := bd_f hT 100 5 tl_0_5 c
  show J_ zX6_addFixture T (po_X6_addFixture_s T c u h a d) 3 34 0 [some (vR 106 0), some (vR 100 c), some (vI u), some (vI h), some (vI a), some (vI d)] [] T
  refine j_blx (F := fX6) tb_X6 (nn_ _) bk_X6_addFixture_s_0 bs_X6_addFixture_s_0 hz (fun K hK => ?_)
  intro b1 b1b
  refine And.intro (fun c2 => ?_) (fun c2 => ?_)
  · refine hK 27 _ [] T ?_
    refine j_blx (F := fX6) tb_X6 (nn_ _) bk_X6_addFixture_s_27 bs_X6_addFixture_s_27 hz (fun K hK => ?_)
    refine (show po_X6_addFixture_s T c u h a d T (none) from ?_)
    exact ⟨rfl, fr_0 _ _, Or.inl ⟨rfl, by omega⟩⟩
  · intro b3 b3b
    refine And.intro (fun c4 => ?_) (fun c4 => ?_)
    · refine hK 27 _ [] T ?_
      refine j_blx (F := fX6) tb_X6 (nn_ _) bk_X6_addFixture_s_27 bs_X6_addFixture_s_27 hz (fun K hK => ?_)
      refine (show po_X6_addFixture_s T c u h a d T (none) from ?_)
      exact ⟨rfl, fr_0 _ _, Or.inl ⟨rfl, by omega⟩⟩
    · intro b5 b5b
      refine And.intro (fun c6 => ?_) (fun c6 => ?_)
      · refine hK 28 _ [] T ?_
        refine j_blx (F := fX6) tb_X6 (nn_ _) bk_X6_addFixture_s_28 bs_X6_addFixture_s_28 hz (fun K hK => ?_)
        intro b7 b7b
        refine hK 36 _ [vI (T 106 0 4), vR 523 0] T ?_
        refine j_newO (bc' := 2) (bs' := 23) (pc := 36) (ci := 2) (i := T 106 0 4) (by decide) (by decide) vi_2 tyX2_ok (nf_2 _) (lwq_1 (dqc_m (dqc_m (dqc_m (dqc_m (dqa_m (dqa_m (List.mem_of_getElem? (i := 0) rfl))))))) rfl : Cond.classLink RX6 17 RX2 ∈ lw_g) (lwq_3 (dqc_m (dqc_m (dqc_m (dqc_m (dqc_m (dqc_m (dqa_m (dqa_m (dqa_m (List.mem_of_getElem? (i := 5) rfl)))))))))) rfl : Cond.instantiable RX2 11 ∈ lw_g) (lwq_1 (dqa_m (dqa_m (List.mem_of_getElem? (i := 0) rfl))) rfl : Cond.initialized RX2 ∈ lw_g) (hna.1.2.1 _) (by omega) (by omega) (by decide +kernel) ?_
        refine j_nm (fun U8 hU8 => ?_)
        have fU8 := nu_fr hU8
        have zU8 := nu_tz hU8
        have oU8 := nu_to hU8
        have vU8 := nu_tv hU8
        show J_ zX6_addFixture T (po_X6_addFixture_s T c u h a d) 2 23 39 _ [vR 152 (T 106 0 4), vI (T 106 0 4), vR 523 0] U8
        refine j_blx (F := fX6) tb_X6 (nn_ _) bk_X6_addFixture_s_39 bs_X6_addFixture_s_39 hz (fun K hK => ?_)
        intro b9 b9b
        have e10 : U8 106 0 4 = T 106 0 4 := fU8 106 0 4 rfl
        rw [e10] at b9 b9b ⊢
        refine ix_i (by omega) ?_
        intro b11 b11b
        have e12 : U8 403 c h = T 403 c h := fU8 403 c h rfl
        rw [e12] at b11 b11b ⊢
        refine ix_i (by omega) ?_
        intro b13 b13b
        have e14 : U8 403 c a = T 403 c a := fU8 403 c a rfl
        rw [e14] at b13 b13b ⊢
        refine hK 61 _ [vI d, vI (T 403 c a), vI (T 403 c h), vI u, vI (T 106 0 4), vR 100 c, vR 152 (T 106 0 4), vR 152 (T 106 0 4), vI (T 106 0 4), vR 523 0] U8 ?_
        have hv1 : ∀ k : Nat, ow_ k = some 102 → ¬ T k (T 106 0 4) (-1) = 1 := fun k hk h => (hT.2.2.2.2.2.2.2.1 k _ 102 hk h).elim (hna.2.2.1 _ (by omega)) (hna.1.2.1 _)
        have e15 : U8 448 (T 106 0 4) (-1) = T 448 (T 106 0 4) (-1) := fU8 448 (T 106 0 4) (-1) rfl
        have e16 : U8 449 (T 106 0 4) (-1) = T 449 (T 106 0 4) (-1) := fU8 449 (T 106 0 4) (-1) rfl
        refine j_callI (y := yX2_init) (Yc := zX2_init) (rest := [vR 152 (T 106 0 4), vI (T 106 0 4), vR 523 0]) [vR 100 c, vI (T 106 0 4), vI u, vI (T 403 c h), vI (T 403 c a), vI d] (ct_X2_init (T := U8) (by omega) (by rw [e15]; exact hv1 448 (by decide)) (by rw [e16]; exact hv1 449 (by decide))) ci_X6_85 (qd_c (by decide +kernel)) (nn_ _) rfl (rf_of rfl) (Nat.le_of_ble_eq_true rfl) (Nat.le_of_ble_eq_true rfl) (Nat.le_of_ble_eq_true rfl) rfl ?_
        rintro U17 _ ⟨rfl, fU17, qU17o, ⟨t0U17, t1U17, t2U17, t3U17, t4U17, t5U17⟩, ⟨t6U17, t7U17, t8U17, t9U17, t10U17⟩, z8U17, z9U17⟩
        show J_ zX6_addFixture T (po_X6_addFixture_s T c u h a d) 0 0 64 _ [vR 152 (T 106 0 4), vI (T 106 0 4), vR 523 0] U17
        refine j_ok (fun gt2 _ => ?_)
        have e19 : U17 102 (T 106 0 4) (-1) = T 102 (T 106 0 4) (-1) := (fU17 102 (T 106 0 4) (-1) rfl).trans (fU8 102 (T 106 0 4) (-1) rfl)
        refine j_conv (k := 102) (i := T 106 0 4) (g := g2_ U17 (T 106 0 4)) (by decide) (by show ¬ U17 102 (T 106 0 4) (-1) = 1; rw [e19]; exact hna.2.2.1 _ (by omega)) (hna.1.2.1 _) (cg_2 gt2 (by omega) (by omega) t8U17 t9U17 (t10U17.trans (zU8 10 (by decide)))) rfl rfl ?_
        refine j_nm (fun U20 hU20 => ?_)
        have fU20 := cw_fr hU20
        have sU20 := cw_ts hU20
        have oU20 := cw_to hU20
        have rU20 := cw_r hU20
        show J_ zX6_addFixture T (po_X6_addFixture_s T c u h a d) 0 0 64 _ [vR 102 (T 106 0 4), vI (T 106 0 4), vR 523 0] U20
        refine j_aast (pc := 64) (by decide) (by decide) (by decide +kernel : ta_ 523 = some (5, some 400, 0, 1)) (by decide +kernel) (by omega) (by show _ < (400 : Int); omega) (by decide) ?_
        refine j_nm (fun U21 hU21 => ?_)
        have e22 := up_f hU21
        show J_ zX6_addFixture T (po_X6_addFixture_s T c u h a d) 0 0 65 _ [] U21
        refine j_blx (F := fX6) tb_X6 (nn_ _) bk_X6_addFixture_s_65 bs_X6_addFixture_s_65 hz (fun K hK => ?_)
        intro b23 b23b
        have e24 : U21 106 0 4 = T 106 0 4 := (up_k hU21 (by exact Nat.ne_of_beq_eq_false rfl) 0 4).trans ((fU20 106 0 4 rfl).trans ((fU17 106 0 4 rfl).trans (fU8 106 0 4 rfl)))
        rw [e24] at b23 b23b ⊢
        refine rg_i (by omega) ?_
        refine bd_i (by omega) ?_
        refine x_nm (fun U25 hU25 => ?_)
        have e26 := up_f hU25
        refine (show po_X6_addFixture_s T c u h a d U25 (none) from ?_)
        have w0 : U20 102 (T 106 0 4) 0 = U17 152 (T 106 0 4) 0 - 1 := (sU20 0 (by decide)).trans (by unfold g2_; rw [if_pos (by decide)])
        have w1 : U20 102 (T 106 0 4) 1 = U17 152 (T 106 0 4) 1 := (sU20 1 (by decide)).trans (by unfold g2_; rw [if_neg (by decide)])
        have w2 : U20 102 (T 106 0 4) 2 = U17 152 (T 106 0 4) 2 := (sU20 2 (by decide)).trans (by unfold g2_; rw [if_neg (by decide)])
        have w3 : U20 102 (T 106 0 4) 3 = U17 152 (T 106 0 4) 3 := (sU20 3 (by decide)).trans (by unfold g2_; rw [if_neg (by decide)])
        have w4 : U20 102 (T 106 0 4) 4 = U17 152 (T 106 0 4) 4 := (sU20 4 (by decide)).trans (by unfold g2_; rw [if_neg (by decide)])
        have w5 : U20 102 (T 106 0 4) 5 = U17 152 (T 106 0 4) 5 := (sU20 5 (by decide)).trans (by unfold g2_; rw [if_neg (by decide)])
        have w6 : U20 102 (T 106 0 4) 6 = U17 152 (T 106 0 4) 6 := (sU20 6 (by decide)).trans (by unfold g2_; rw [if_neg (by decide)])
        have w7 : U20 102 (T 106 0 4) 7 = U17 152 (T 106 0 4) 7 := (sU20 7 (by decide)).trans (by unfold g2_; rw [if_neg (by decide)])
        have w10 : U20 102 (T 106 0 4) 10 = U17 152 (T 106 0 4) 10 := (sU20 10 (by decide)).trans (by unfold g2_; rw [if_neg (by decide)])
        have y10 : U8 152 (T 106 0 4) 10 = 0 := zU8 10 (by decide)
        have u0 : U25 102 (T 106 0 4) 0 = U20 102 (T 106 0 4) 0 := (up_k hU25 (by exact Nat.ne_of_beq_eq_false rfl) _ _).trans (up_k hU21 (by exact Nat.ne_of_beq_eq_false rfl) _ _)
        have u1 : U25 102 (T 106 0 4) 1 = U20 102 (T 106 0 4) 1 := (up_k hU25 (by exact Nat.ne_of_beq_eq_false rfl) _ _).trans (up_k hU21 (by exact Nat.ne_of_beq_eq_false rfl) _ _)
        have u2 : U25 102 (T 106 0 4) 2 = U20 102 (T 106 0 4) 2 := (up_k hU25 (by exact Nat.ne_of_beq_eq_false rfl) _ _).trans (up_k hU21 (by exact Nat.ne_of_beq_eq_false rfl) _ _)
        have u3 : U25 102 (T 106 0 4) 3 = U20 102 (T 106 0 4) 3 := (up_k hU25 (by exact Nat.ne_of_beq_eq_false rfl) _ _).trans (up_k hU21 (by exact Nat.ne_of_beq_eq_false rfl) _ _)
        have u4 : U25 102 (T 106 0 4) 4 = U20 102 (T 106 0 4) 4 := (up_k hU25 (by exact Nat.ne_of_beq_eq_false rfl) _ _).trans (up_k hU21 (by exact Nat.ne_of_beq_eq_false rfl) _ _)
        have u5 : U25 102 (T 106 0 4) 5 = U20 102 (T 106 0 4) 5 := (up_k hU25 (by exact Nat.ne_of_beq_eq_false rfl) _ _).trans (up_k hU21 (by exact Nat.ne_of_beq_eq_false rfl) _ _)
        have u6 : U25 102 (T 106 0 4) 6 = U20 102 (T 106 0 4) 6 := (up_k hU25 (by exact Nat.ne_of_beq_eq_false rfl) _ _).trans (up_k hU21 (by exact Nat.ne_of_beq_eq_false rfl) _ _)
        have u7 : U25 102 (T 106 0 4) 7 = U20 102 (T 106 0 4) 7 := (up_k hU25 (by exact Nat.ne_of_beq_eq_false rfl) _ _).trans (up_k hU21 (by exact Nat.ne_of_beq_eq_false rfl) _ _)
        have u10 : U25 102 (T 106 0 4) 10 = U20 102 (T 106 0 4) 10 := (up_k hU25 (by exact Nat.ne_of_beq_eq_false rfl) _ _).trans (up_k hU21 (by exact Nat.ne_of_beq_eq_false rfl) _ _)
        have d1 : U25 106 0 4 = T 106 0 4 + 1 := by omega
        have d2 : ∀ (k : Nat) (i j : Int), k = 102 ∨ k = 152 → i ≠ T 106 0 4 → U25 k i j = T k i j := fun k i j hk hi => (up_g hU25 (fun z => by omega)).trans ((up_g hU21 (fun z => by omega)).trans ((oU20 k i j hi).trans ((qU17o k i j hi).trans (oU8 k i j (fun z => hi z.2)))))
        have d3 : ∀ j, j ≠ T 106 0 4 → U25 523 0 j = T 523 0 j := fun j hj => (up_k hU25 (by exact Nat.ne_of_beq_eq_false rfl) _ _).trans ((up_g hU21 (fun z => hj z.2.2)).trans ((fU20 523 _ _ rfl).trans ((fU17 523 _ _ rfl).trans (fU8 523 _ _ rfl))))
        have d4 : U25 523 0 (T 106 0 4) = 1 := (up_k hU25 (by exact Nat.ne_of_beq_eq_false rfl) _ _).trans (up_f hU21)
        have d5 : ∀ i, U25 150 i (-1) = T 150 i (-1) := fun i => (up_k hU25 (by exact Nat.ne_of_beq_eq_false rfl) _ _).trans ((up_k hU21 (by exact Nat.ne_of_beq_eq_false rfl) _ _).trans ((fU20 150 _ _ rfl).trans ((fU17 150 _ _ rfl).trans (fU8 150 _ _ rfl))))
        have d6 : ∀ i, U25 153 i (-1) = T 153 i (-1) := fun i => (up_k hU25 (by exact Nat.ne_of_beq_eq_false rfl) _ _).trans ((up_k hU21 (by exact Nat.ne_of_beq_eq_false rfl) _ _).trans ((fU20 153 _ _ rfl).trans ((fU17 153 _ _ rfl).trans (fU8 153 _ _ rfl))))
        have d7 : ∀ i, U25 100 i (-1) = T 100 i (-1) := fun i => (up_k hU25 (by exact Nat.ne_of_beq_eq_false rfl) _ _).trans ((up_k hU21 (by exact Nat.ne_of_beq_eq_false rfl) _ _).trans ((fU20 100 _ _ rfl).trans ((fU17 100 _ _ rfl).trans (fU8 100 _ _ rfl))))
        have d8 : ∀ i, U25 103 i (-1) = T 103 i (-1) := fun i => (up_k hU25 (by exact Nat.ne_of_beq_eq_false rfl) _ _).trans ((up_k hU21 (by exact Nat.ne_of_beq_eq_false rfl) _ _).trans ((fU20 103 _ _ rfl).trans ((fU17 103 _ _ rfl).trans (fU8 103 _ _ rfl))))
        have d9 : U25 152 (T 106 0 4) (-1) = U20 152 (T 106 0 4) (-1) := (up_k hU25 (by exact Nat.ne_of_beq_eq_false rfl) _ _).trans (up_k hU21 (by exact Nat.ne_of_beq_eq_false rfl) _ _)
        have sn9 : SN8_ T U25 := ⟨fun k i j hk hi => (up_g hU25 (fun z => by omega)).trans ((up_g hU21 (fun z => by omega)).trans ((oU20 k i j hi).trans ((qU17o k i j hi).trans (oU8 k i j (fun z => hi z.2))))), fun j hj => (up_k hU25 (by exact Nat.ne_of_beq_eq_false rfl) _ _).trans ((up_k hU21 (by exact Nat.ne_of_beq_eq_false rfl) _ _).trans ((fU20 449 _ _ rfl).trans (z9U17 j hj)))⟩
        have e27 : U25 106 0 2 = T 106 0 2 := (up_j hU25 (by decide) 106 0).trans ((up_k hU21 (by exact Nat.ne_of_beq_eq_false rfl) 0 2).trans ((fU20 106 0 2 rfl).trans ((fU17 106 0 2 rfl).trans (fU8 106 0 2 rfl))))
        have n2 : NA_ U25 := by
          refine ⟨⟨fun i => by rw [d5]; exact hna.1.1 i, fun i => ?_, fun i => by rw [d6]; exact hna.1.2.2 i⟩, fun i hi => by rw [d7]; exact hna.2.1 i (by omega), fun i hi => ?_, fun i hi => ?_⟩
          · by_cases z : i = T 106 0 4
            · rw [z, d9]; exact rU20
            · rw [d2 152 i (-1) (Or.inr rfl) z]; exact hna.1.2.1 i
          · rw [d2 102 i (-1) (Or.inl rfl) (by omega)]; exact hna.2.2.1 i (by omega)
          · rw [d8]
            by_cases z : i = T 106 0 4
            · exact hna.2.2.2 i (by omega)
            · rw [d2 102 i 10 (Or.inl rfl) z] at hi; exact hna.2.2.2 i (by omega)
        exact ⟨rfl, fr_u (fr_u (fr_t (fr_t (fr_t (fr_0 _ _) (fr_s fU8 rfl)) (fr_s fU17 rfl)) (fr_s fU20 rfl)) hU21 rfl) hU25 rfl, Or.inr ⟨⟨⟨d1, by omega, by omega, by omega⟩, d2, d3, d4, ⟨by omega, by omega, by omega, by omega, by omega, by omega⟩, n2⟩, by omega, by omega, by omega, sn9⟩⟩
      · refine (show po_X6_addFixture_s T c u h a d T (none) from ?_)
        exact ⟨rfl, fr_0 _ _, Or.inl ⟨rfl, by omega⟩⟩
theorem bk_X6_addRound_s_111 : ck_ fX6 none cX6_addRound 111 [.istore 11, .aload 0, .aload 1, .iload 2, .iload 11, .ifCond .eq 126, .iload 9, .goto 128] 126 = true := qck_r (nn_ _) (by decide +kernel)
theorem bs_X6_addRound_s_111 {P : Zt → Option Zv → Prop} (K : Int → Zl → List Zv → Zt → Prop) : sx_ K P [.istore 11, .aload 0, .aload 1, .iload 2, .iload 11, .ifCond .eq 126, .iload 9, .goto 128] 126 = x_istore 11 (x_aload 0 (x_aload 1 (x_iload 2 (x_iload 11 (x_ifCond .eq 126 K (x_iload 9 (x_goto 128 K))))))) := ((xe_istore 11).trans (congrArg (x_istore 11) ((xe_aload 0).trans (congrArg (x_aload 0) ((xe_aload 1).trans (congrArg (x_aload 1) ((xe_iload 2).trans (congrArg (x_iload 2) ((xe_iload 11).trans (congrArg (x_iload 11) ((xe_ifCond .eq 126).trans (congrArg (x_ifCond .eq 126 K) ((xe_iload 9).trans (congrArg (x_iload 9) (xe_goto 128)))))))))))))))
theorem bk_X6_addRound_s_126 : ck_ fX6 none cX6_addRound 126 [.iload 10, .iload 11, .ifCond .eq 138, .iload 10, .goto 140] 138 = true := qck_r (nn_ _) (by decide +kernel)
theorem bs_X6_addRound_s_126 {P : Zt → Option Zv → Prop} (K : Int → Zl → List Zv → Zt → Prop) : sx_ K P [.iload 10, .iload 11, .ifCond .eq 138, .iload 10, .goto 140] 138 = x_iload 10 (x_iload 11 (x_ifCond .eq 138 K (x_iload 10 (x_goto 140 K)))) := ((xe_iload 10).trans (congrArg (x_iload 10) ((xe_iload 11).trans (congrArg (x_iload 11) ((xe_ifCond .eq 138).trans (congrArg (x_ifCond .eq 138 K) ((xe_iload 10).trans (congrArg (x_iload 10) (xe_goto 140)))))))))
theorem bk_X6_addRound_s_138 : ck_ fX6 none cX6_addRound 138 [.iload 9, .iload 5] 142 = true := qck_r (nn_ _) (by decide +kernel)
theorem bs_X6_addRound_s_138 {P : Zt → Option Zv → Prop} (K : Int → Zl → List Zv → Zt → Prop) : sx_ K P [.iload 9, .iload 5] 142 = x_iload 9 (x_iload 5 (K 142)) := ((xe_iload 9).trans (congrArg (x_iload 9) ((xe_iload 5).trans (congrArg (x_iload 5) xe_nil))))
theorem bk_X6_addRound_s_145 : ck_ fX6 none cX6_addRound 145 [.iinc 8 1, .goto 58] 151 = true := qck_r (nn_ _) (by decide +kernel)
theorem bs_X6_addRound_s_145 {P : Zt → Option Zv → Prop} (K : Int → Zl → List Zv → Zt → Prop) : sx_ K P [.iinc 8 1, .goto 58] 151 = x_iinc 8 1 (x_goto 58 K) := ((xe_iinc 8 1).trans (congrArg (x_iinc 8 1) (xe_goto 58)))
theorem bk_X6_addRound_s_128 : ck_ fX6 none cX6_addRound 128 [.iload 11, .ifCond .eq 138, .iload 10, .goto 140] 138 = true := qck_r (nn_ _) (by decide +kernel)
theorem bs_X6_addRound_s_128 {P : Zt → Option Zv → Prop} (K : Int → Zl → List Zv → Zt → Prop) : sx_ K P [.iload 11, .ifCond .eq 138, .iload 10, .goto 140] 138 = x_iload 11 (x_ifCond .eq 138 K (x_iload 10 (x_goto 140 K))) := ((xe_iload 11).trans (congrArg (x_iload 11) ((xe_ifCond .eq 138).trans (congrArg (x_ifCond .eq 138 K) ((xe_iload 10).trans (congrArg (x_iload 10) (xe_goto 140)))))))
theorem bk_X6_addRound_s_140 : ck_ fX6 none cX6_addRound 140 [.iload 5] 142 = true := qck_r (nn_ _) (by decide +kernel)
theorem bs_X6_addRound_s_140 {P : Zt → Option Zv → Prop} (K : Int → Zl → List Zv → Zt → Prop) : sx_ K P [.iload 5] 142 = x_iload 5 (K 142) := ((xe_iload 5).trans (congrArg (x_iload 5) xe_nil))
theorem bk_X6_addRound_s_58 : ck_ fX6 none cX6_addRound 58 [.iload 8, .iload 6, .iconst 2, .idiv, .if_icmp .gt 151, .iload 3, .iload 8, .iadd, .iload 6, .irem, .istore 9, .iload 3, .iload 8, .isub, .iload 6, .iadd, .iload 6, .irem, .istore 10, .iload 8, .iconst 1, .iand, .iconst 1, .if_icmp .ne 100, .iconst 1, .goto 101] 100 = true := qck_r (nn_ _) (by decide +kernel)
theorem bs_X6_addRound_s_58 {P : Zt → Option Zv → Prop} (K : Int → Zl → List Zv → Zt → Prop) : sx_ K P [.iload 8, .iload 6, .iconst 2, .idiv, .if_icmp .gt 151, .iload 3, .iload 8, .iadd, .iload 6, .irem, .istore 9, .iload 3, .iload 8, .isub, .iload 6, .iadd, .iload 6, .irem, .istore 10, .iload 8, .iconst 1, .iand, .iconst 1, .if_icmp .ne 100, .iconst 1, .goto 101] 100 = x_iload 8 (x_iload 6 (x_iconst 2 (x_idiv (x_if_icmp .gt 151 K (x_iload 3 (x_iload 8 (x_iadd (x_iload 6 (x_irem (x_istore 9 (x_iload 3 (x_iload 8 (x_isub (x_iload 6 (x_iadd (x_iload 6 (x_irem (x_istore 10 (x_iload 8 (x_iconst 1 (x_iand (x_iconst 1 (x_if_icmp .ne 100 K (x_iconst 1 (x_goto 101 K))))))))))))))))))))))))) := ((xe_iload 8).trans (congrArg (x_iload 8) ((xe_iload 6).trans (congrArg (x_iload 6) ((xe_iconst 2).trans (congrArg (x_iconst 2) ((xe_idiv).trans (congrArg (x_idiv) ((xe_if_icmp .gt 151).trans (congrArg (x_if_icmp .gt 151 K) ((xe_iload 3).trans (congrArg (x_iload 3) ((xe_iload 8).trans (congrArg (x_iload 8) ((xe_iadd).trans (congrArg (x_iadd) ((xe_iload 6).trans (congrArg (x_iload 6) ((xe_irem).trans (congrArg (x_irem) ((xe_istore 9).trans (congrArg (x_istore 9) ((xe_iload 3).trans (congrArg (x_iload 3) ((xe_iload 8).trans (congrArg (x_iload 8) ((xe_isub).trans (congrArg (x_isub) ((xe_iload 6).trans (congrArg (x_iload 6) ((xe_iadd).trans (congrArg (x_iadd) ((xe_iload 6).trans (congrArg (x_iload 6) ((xe_irem).trans (congrArg (x_irem) ((xe_istore 10).trans (congrArg (x_istore 10) ((xe_iload 8).trans (congrArg (x_iload 8) ((xe_iconst 1).trans (congrArg (x_iconst 1) ((xe_iand).trans (congrArg (x_iand) ((xe_iconst 1).trans (congrArg (x_iconst 1) ((xe_if_icmp .ne 100).trans (congrArg (x_if_icmp .ne 100 K) ((xe_iconst 1).trans (congrArg (x_iconst 1) (xe_goto 101)))))))))))))))))))))))))))))))))))))))))))))))))))
theorem bk_X6_addRound_s_151 : ck_ fX6 none cX6_addRound 151 [.return_] 152 = true := qck_r (nn_ _) (by decide +kernel)
theorem bs_X6_addRound_s_151 {P : Zt → Option Zv → Prop} (K : Int → Zl → List Zv → Zt → Prop) : sx_ K P [.return_] 152 = x_return_ P := (xe_return_)
theorem bk_X6_addRound_s_100 : ck_ fX6 none cX6_addRound 100 [.iconst 0, .iload 4, .if_icmp .eq 110, .iconst 1, .goto 111] 110 = true := qck_r (nn_ _) (by decide +kernel)
theorem bs_X6_addRound_s_100 {P : Zt → Option Zv → Prop} (K : Int → Zl → List Zv → Zt → Prop) : sx_ K P [.iconst 0, .iload 4, .if_icmp .eq 110, .iconst 1, .goto 111] 110 = x_iconst 0 (x_iload 4 (x_if_icmp .eq 110 K (x_iconst 1 (x_goto 111 K)))) := ((xe_iconst 0).trans (congrArg (x_iconst 0) ((xe_iload 4).trans (congrArg (x_iload 4) ((xe_if_icmp .eq 110).trans (congrArg (x_if_icmp .eq 110 K) ((xe_iconst 1).trans (congrArg (x_iconst 1) (xe_goto 111)))))))))
theorem bk_X6_addRound_s_110 : ck_ fX6 none cX6_addRound 110 [.iconst 0] 111 = true := qck_r (nn_ _) (by decide +kernel)
theorem bs_X6_addRound_s_110 {P : Zt → Option Zv → Prop} (K : Int → Zl → List Zv → Zt → Prop) : sx_ K P [.iconst 0] 111 = x_iconst 0 (K 111) := ((xe_iconst 0).trans (congrArg (x_iconst 0) xe_nil))
theorem bk_X6_addRound_s_101 : ck_ fX6 none cX6_addRound 101 [.iload 4, .if_icmp .eq 110, .iconst 1, .goto 111] 110 = true := qck_r (nn_ _) (by decide +kernel)
theorem bs_X6_addRound_s_101 {P : Zt → Option Zv → Prop} (K : Int → Zl → List Zv → Zt → Prop) : sx_ K P [.iload 4, .if_icmp .eq 110, .iconst 1, .goto 111] 110 = x_iload 4 (x_if_icmp .eq 110 K (x_iconst 1 (x_goto 111 K))) := ((xe_iload 4).trans (congrArg (x_iload 4) ((xe_if_icmp .eq 110).trans (congrArg (x_if_icmp .eq 110 K) ((xe_iconst 1).trans (congrArg (x_iconst 1) (xe_goto 111)))))))
theorem bk_X6_addRound_s_0 : ck_ fX6 none cX6_addRound 0 [.aload 1] 1 = true := qck_r (nn_ _) (by decide +kernel)
theorem bs_X6_addRound_s_0 {P : Zt → Option Zv → Prop} (K : Int → Zl → List Zv → Zt → Prop) : sx_ K P [.aload 1] 1 = x_aload 1 (K 1) := ((xe_aload 1).trans (congrArg (x_aload 1) xe_nil))
theorem bk_X6_addRound_s_4 : ck_ fX6 none cX6_addRound 4 [.iconst 1, .isub, .istore 6, .iload 3, .iconst 1, .iand, .ifCond .ne 18, .iconst 1, .goto 19] 18 = true := qck_r (nn_ _) (by decide +kernel)
theorem bs_X6_addRound_s_4 {P : Zt → Option Zv → Prop} (K : Int → Zl → List Zv → Zt → Prop) : sx_ K P [.iconst 1, .isub, .istore 6, .iload 3, .iconst 1, .iand, .ifCond .ne 18, .iconst 1, .goto 19] 18 = x_iconst 1 (x_isub (x_istore 6 (x_iload 3 (x_iconst 1 (x_iand (x_ifCond .ne 18 K (x_iconst 1 (x_goto 19 K)))))))) := ((xe_iconst 1).trans (congrArg (x_iconst 1) ((xe_isub).trans (congrArg (x_isub) ((xe_istore 6).trans (congrArg (x_istore 6) ((xe_iload 3).trans (congrArg (x_iload 3) ((xe_iconst 1).trans (congrArg (x_iconst 1) ((xe_iand).trans (congrArg (x_iand) ((xe_ifCond .ne 18).trans (congrArg (x_ifCond .ne 18 K) ((xe_iconst 1).trans (congrArg (x_iconst 1) (xe_goto 19)))))))))))))))))
theorem bk_X6_addRound_s_18 : ck_ fX6 none cX6_addRound 18 [.iconst 0, .istore 7, .aload 0, .aload 1, .iload 2, .iload 7, .iload 4, .if_icmp .eq 35, .iload 3, .goto 37] 35 = true := qck_r (nn_ _) (by decide +kernel)
theorem bs_X6_addRound_s_18 {P : Zt → Option Zv → Prop} (K : Int → Zl → List Zv → Zt → Prop) : sx_ K P [.iconst 0, .istore 7, .aload 0, .aload 1, .iload 2, .iload 7, .iload 4, .if_icmp .eq 35, .iload 3, .goto 37] 35 = x_iconst 0 (x_istore 7 (x_aload 0 (x_aload 1 (x_iload 2 (x_iload 7 (x_iload 4 (x_if_icmp .eq 35 K (x_iload 3 (x_goto 37 K))))))))) := ((xe_iconst 0).trans (congrArg (x_iconst 0) ((xe_istore 7).trans (congrArg (x_istore 7) ((xe_aload 0).trans (congrArg (x_aload 0) ((xe_aload 1).trans (congrArg (x_aload 1) ((xe_iload 2).trans (congrArg (x_iload 2) ((xe_iload 7).trans (congrArg (x_iload 7) ((xe_iload 4).trans (congrArg (x_iload 4) ((xe_if_icmp .eq 35).trans (congrArg (x_if_icmp .eq 35 K) ((xe_iload 3).trans (congrArg (x_iload 3) (xe_goto 37)))))))))))))))))))
theorem bk_X6_addRound_s_35 : ck_ fX6 none cX6_addRound 35 [.iload 6, .iload 7, .iload 4, .if_icmp .eq 49, .iload 6, .goto 50] 49 = true := qck_r (nn_ _) (by decide +kernel)
theorem bs_X6_addRound_s_35 {P : Zt → Option Zv → Prop} (K : Int → Zl → List Zv → Zt → Prop) : sx_ K P [.iload 6, .iload 7, .iload 4, .if_icmp .eq 49, .iload 6, .goto 50] 49 = x_iload 6 (x_iload 7 (x_iload 4 (x_if_icmp .eq 49 K (x_iload 6 (x_goto 50 K))))) := ((xe_iload 6).trans (congrArg (x_iload 6) ((xe_iload 7).trans (congrArg (x_iload 7) ((xe_iload 4).trans (congrArg (x_iload 4) ((xe_if_icmp .eq 49).trans (congrArg (x_if_icmp .eq 49 K) ((xe_iload 6).trans (congrArg (x_iload 6) (xe_goto 50)))))))))))
theorem bk_X6_addRound_s_49 : ck_ fX6 none cX6_addRound 49 [.iload 3, .iload 5] 52 = true := qck_r (nn_ _) (by decide +kernel)
theorem bs_X6_addRound_s_49 {P : Zt → Option Zv → Prop} (K : Int → Zl → List Zv → Zt → Prop) : sx_ K P [.iload 3, .iload 5] 52 = x_iload 3 (x_iload 5 (K 52)) := ((xe_iload 3).trans (congrArg (x_iload 3) ((xe_iload 5).trans (congrArg (x_iload 5) xe_nil))))
theorem bk_X6_addRound_s_55 : ck_ fX6 none cX6_addRound 55 [.iconst 1, .istore 8] 58 = true := qck_r (nn_ _) (by decide +kernel)
theorem bs_X6_addRound_s_55 {P : Zt → Option Zv → Prop} (K : Int → Zl → List Zv → Zt → Prop) : sx_ K P [.iconst 1, .istore 8] 58 = x_iconst 1 (x_istore 8 (K 58)) := ((xe_iconst 1).trans (congrArg (x_iconst 1) ((xe_istore 8).trans (congrArg (x_istore 8) xe_nil))))
theorem bk_X6_addRound_s_37 : ck_ fX6 none cX6_addRound 37 [.iload 7, .iload 4, .if_icmp .eq 49, .iload 6, .goto 50] 49 = true := qck_r (nn_ _) (by decide +kernel)
theorem bs_X6_addRound_s_37 {P : Zt → Option Zv → Prop} (K : Int → Zl → List Zv → Zt → Prop) : sx_ K P [.iload 7, .iload 4, .if_icmp .eq 49, .iload 6, .goto 50] 49 = x_iload 7 (x_iload 4 (x_if_icmp .eq 49 K (x_iload 6 (x_goto 50 K)))) := ((xe_iload 7).trans (congrArg (x_iload 7) ((xe_iload 4).trans (congrArg (x_iload 4) ((xe_if_icmp .eq 49).trans (congrArg (x_if_icmp .eq 49 K) ((xe_iload 6).trans (congrArg (x_iload 6) (xe_goto 50)))))))))
theorem bk_X6_addRound_s_50 : ck_ fX6 none cX6_addRound 50 [.iload 5] 52 = true := qck_r (nn_ _) (by decide +kernel)
theorem bs_X6_addRound_s_50 {P : Zt → Option Zv → Prop} (K : Int → Zl → List Zv → Zt → Prop) : sx_ K P [.iload 5] 52 = x_iload 5 (K 52) := ((xe_iload 5).trans (congrArg (x_iload 5) xe_nil))
theorem bk_X6_addRound_s_19 : ck_ fX6 none cX6_addRound 19 [.istore 7, .aload 0, .aload 1, .iload 2, .iload 7, .iload 4, .if_icmp .eq 35, .iload 3, .goto 37] 35 = true := qck_r (nn_ _) (by decide +kernel)
theorem bs_X6_addRound_s_19 {P : Zt → Option Zv → Prop} (K : Int → Zl → List Zv → Zt → Prop) : sx_ K P [.istore 7, .aload 0, .aload 1, .iload 2, .iload 7, .iload 4, .if_icmp .eq 35, .iload 3, .goto 37] 35 = x_istore 7 (x_aload 0 (x_aload 1 (x_iload 2 (x_iload 7 (x_iload 4 (x_if_icmp .eq 35 K (x_iload 3 (x_goto 37 K)))))))) := ((xe_istore 7).trans (congrArg (x_istore 7) ((xe_aload 0).trans (congrArg (x_aload 0) ((xe_aload 1).trans (congrArg (x_aload 1) ((xe_iload 2).trans (congrArg (x_iload 2) ((xe_iload 7).trans (congrArg (x_iload 7) ((xe_iload 4).trans (congrArg (x_iload 4) ((xe_if_icmp .eq 35).trans (congrArg (x_if_icmp .eq 35 K) ((xe_iload 3).trans (congrArg (x_iload 3) (xe_goto 37)))))))))))))))))
abbrev po_X6_addRound_s (T : Zt) (c : Int) (f : Int) (u q w d : Int) : Zt → Option Zv → Prop := fun T' r => r = none ∧ fr_ [(106, [4]), (523, []), (152, []), (102, []), (448, []), (449, [])] T T' ∧ (RK_ T' c f (T 100 c 5 + an_ (T 100 c 5) 1 - 1) q 13 d ∧ (∀ i j, i < f → T' 102 i j = T 102 i j) ∧ T 106 0 4 ≤ T' 106 0 4 ∧ (∀ i j, i < T 106 0 4 → T' 102 i j = T 102 i j) ∧ SQ8_ T T' ∧ AP9_ T T' c (rl9_ (T 100 c 5) (T 100 c 5 + an_ (T 100 c 5) 1 - 1) q w u d ((T 100 c 5 + an_ (T 100 c 5) 1 - 1) / 2 + 1).toNat []))
set_option maxHeartbeats 4000000 in
theorem ct_X6_addRound_s {T : Zt} {c : Int} {f : Int} {u q w d : Int} (hc : 0 ≤ c ∧ c ≤ 3) (he : 2 ≤ T 100 c 5) (hr : 0 ≤ q ∧ q < T 100 c 5 + an_ (T 100 c 5) 1 - 1) (hd : 0 ≤ d ∧ d ≤ 999) (hke : KEc_ T c) (hrb : RK_ T c f (T 100 c 5 + an_ (T 100 c 5) 1 - 1) q 0 d) (hw : w = 0 ∨ w = 1) (hro : T 106 0 4 + (T 100 c 5 + an_ (T 100 c 5) 1 - 1) / 2 + 1 - T 100 c 5 % 2 ≤ 400) : Ct_ yX6_addRound zX6_addRound T [vR 106 0, vR 100 c, vI u, vI q, vI w, vI d] (po_X6_addRound_s T c f u q w d) := by
  refine ct_of pn_6 rfl rfl (Nat.le_of_ble_eq_true rfl) (fun hT hav => ?_)
  have hr_u : -2147483648 ≤ u ∧ u ≤ 2147483647 := hav (vI u) (List.mem_cons_of_mem _ (List.mem_cons_of_mem _ List.mem_cons_self))
  have hr_q : -2147483648 ≤ q ∧ q ≤ 2147483647 := hav (vI q) (List.mem_cons_of_mem _ (List.mem_cons_of_mem _ (List.mem_cons_of_mem _ List.mem_cons_self)))
  have hr_w : -2147483648 ≤ w ∧ w ≤ 2147483647 := hav (vI w) (List.mem_cons_of_mem _ (List.mem_cons_of_mem _ (List.mem_cons_of_mem _ (List.mem_cons_of_mem _ List.mem_cons_self))))
  have hr_d : -2147483648 ≤ d ∧ d ≤ 2147483647 := hav (vI d) (List.mem_cons_of_mem _ (List.mem_cons_of_mem _ (List.mem_cons_of_mem _ (List.mem_cons_of_mem _ (List.mem_cons_of_mem _ List.mem_cons_self)))))
  have hz : zX6_addRound.2.2.2.1 = some .boolean → ∀ (T' : Zt) (x : Int), po_X6_addRound_s T c f u q w d T' (some (vI x)) → 0 ≤ x ∧ x ≤ 1 := fun h => by cases h
  have hb_matchCount : 0 ≤ T 106 0 4 ∧ T 106 0 4 ≤ 400 := bd_f hT 106 4 tl_6_4 0
  have hb5 : 0 ≤ T 100 c 5 ∧ T 100 c 5 ≤ 12 := bd_f hT 100 5 tl_0_5 c
  have hp1 := an_1b (T 100 c 5)
  have hpm := an9_m (x := T 100 c 5) (by omega)
  have hpq := an9_m (x := q) (by omega)
  have hp2 : T 100 c 5 = 12 → an_ (T 100 c 5) 1 = 0 := fun h => by rw [h]; decide
  show J_ zX6_addRound T (po_X6_addRound_s T c f u q w d) 18 204 0 [some (vR 106 0), some (vR 100 c), some (vI u), some (vI q), some (vI w), some (vI d), none, none, none, none, none, none] [] T
  have c_58 : ∀ (nn : Nat) (k : Int) (T1 : Zt), ((13 - k).toNat) ≤ nn → (fr_ [(106, [4]), (523, []), (152, []), (102, []), (448, []), (449, [])] T T1) → (RK_ T1 c f (T 100 c 5 + an_ (T 100 c 5) 1 - 1) q k d) → ((∀ i j, i < f → T1 102 i j = T 102 i j) ∧ T 106 0 4 ≤ T1 106 0 4) → (1 ≤ k ∧ k ≤ (T 100 c 5 + an_ (T 100 c 5) 1 - 1) / 2 + 1) → (∀ i j, i < T 106 0 4 → T1 102 i j = T 102 i j) → (SQ8_ T T1) → (AP9_ T T1 c (rl9_ (T 100 c 5) (T 100 c 5 + an_ (T 100 c 5) 1 - 1) q w u d k.toNat [])) → J_ zX6_addRound T (po_X6_addRound_s T c f u q w d) ((3 * ((T 100 c 5 + an_ (T 100 c 5) 1 - 1) / 2 + 1 - k)).toNat) ((34 * ((T 100 c 5 + an_ (T 100 c 5) 1 - 1) / 2 + 1 - k)).toNat) 58 [some (vR 106 0), some (vR 100 c), some (vI u), some (vI q), some (vI w), some (vI d), some (vI (T 100 c 5 + an_ (T 100 c 5) 1 - 1)), none, some (vI k), none, none, none] [] T1 := by
    intro nn
    induction nn using Nat.strongRecOn with
    | _ nn ih_58 =>
      intro k T1 hm_58 hf_58 hrb1 od1 i1 oe1 sk1 ap1
      replace hm_58 := fun (_ : Unit) => hm_58
      have lq := rl9_l (e := T 100 c 5) (L := T 100 c 5 + an_ (T 100 c 5) 1 - 1) (r := q) (u := w) (rd := u) (dt := d) (q := (T 100 c 5 % 2).toNat) (l := []) (by omega) (k - 1).toNat
      rw [show (k - 1).toNat + 1 = k.toNat by omega] at lq
      have lq2 : (rl9_ (T 100 c 5) (T 100 c 5 + an_ (T 100 c 5) 1 - 1) q w u d k.toNat []).length + (T 100 c 5 % 2).toNat ≤ k.toNat := by have z : ([] : List Fx9_).length = 0 := rfl; omega
      have lq3 := ap1.1
      have hpk := an9_m (x := k) (by omega)
      have c_111 : ∀ (v : Int), (2 * k ≤ T 100 c 5 + an_ (T 100 c 5) 1 - 1) → ((v = 1 ∧ k % 2 ≠ w) ∨ (v = 0 ∧ k % 2 = w)) → J_ zX6_addRound T (po_X6_addRound_s T c f u q w d) ((3 * ((T 100 c 5 + an_ (T 100 c 5) 1 - 1) / 2 + 1 - k)).toNat) ((34 * ((T 100 c 5 + an_ (T 100 c 5) 1 - 1) / 2 + 1 - k)).toNat) 111 [some (vR 106 0), some (vR 100 c), some (vI u), some (vI q), some (vI w), some (vI d), some (vI (T 100 c 5 + an_ (T 100 c 5) 1 - 1)), none, some (vI k), some (vI ((q + k) % (T 100 c 5 + an_ (T 100 c 5) 1 - 1))), some (vI (((q - k) + (T 100 c 5 + an_ (T 100 c 5) 1 - 1)) % (T 100 c 5 + an_ (T 100 c 5) 1 - 1))), none] [vI v] T1 := by
        intro v i2 i3
        have y1 := em_2 (x := q + k) (R := T 100 c 5 + an_ (T 100 c 5) 1 - 1) (by omega) (by omega)
        have y2 := em_2 (x := q - k + (T 100 c 5 + an_ (T 100 c 5) 1 - 1)) (R := T 100 c 5 + an_ (T 100 c 5) 1 - 1) (by omega) (by omega)
        refine j_blx (F := fX6) tb_X6 (nn_ _) bk_X6_addRound_s_111 bs_X6_addRound_s_111 hz (fun K hK => ?_)
        refine And.intro (fun c1 => ?_) (fun c1 => ?_)
        · refine hK 126 [some (vR 106 0), some (vR 100 c), some (vI u), some (vI q), some (vI w), some (vI d), some (vI (T 100 c 5 + an_ (T 100 c 5) 1 - 1)), none, some (vI k), some (vI ((q + k) % (T 100 c 5 + an_ (T 100 c 5) 1 - 1))), some (vI (((q - k) + (T 100 c 5 + an_ (T 100 c 5) 1 - 1)) % (T 100 c 5 + an_ (T 100 c 5) 1 - 1))), some (vI v)] [vI u, vR 100 c, vR 106 0] T1 ?_
          refine j_blx (F := fX6) tb_X6 (nn_ _) bk_X6_addRound_s_126 bs_X6_addRound_s_126 hz (fun K hK => ?_)
          refine And.intro (fun c2 => ?_) (fun c2 => ?_)
          · refine hK 138 _ [vI (((q - k) + (T 100 c 5 + an_ (T 100 c 5) 1 - 1)) % (T 100 c 5 + an_ (T 100 c 5) 1 - 1)), vI u, vR 100 c, vR 106 0] T1 ?_
            refine j_blx (F := fX6) tb_X6 (nn_ _) bk_X6_addRound_s_138 bs_X6_addRound_s_138 hz (fun K hK => ?_)
            refine hK 142 _ [vI d, vI ((q + k) % (T 100 c 5 + an_ (T 100 c 5) 1 - 1)), vI (((q - k) + (T 100 c 5 + an_ (T 100 c 5) 1 - 1)) % (T 100 c 5 + an_ (T 100 c 5) 1 - 1)), vI u, vR 100 c, vR 106 0] T1 ?_
            refine j_callV (y := yX6_addFixture) (Yc := zX6_addFixture) (rest := []) [vR 100 c, vI u, vI (((q - k) + (T 100 c 5 + an_ (T 100 c 5) 1 - 1)) % (T 100 c 5 + an_ (T 100 c 5) 1 - 1)), vI ((q + k) % (T 100 c 5 + an_ (T 100 c 5) 1 - 1)), vI d] (ct_X6_addFixture_s (T := T1) hc (by omega) (hrb1.2.2.2.2)) cl_X6_75 (qd_c (by decide +kernel)) (by decide) rfl (by decide +kernel) (Nat.le_of_ble_eq_true rfl) (by show 3 ≤ (3 * ((T 100 c 5 + an_ (T 100 c 5) 1 - 1) / 2 + 1 - k)).toNat; omega) (by show 34 ≤ (34 * ((T 100 c 5 + an_ (T 100 c 5) 1 - 1) / 2 + 1 - k)).toNat; omega) rfl ?_
            rintro U3 _ ⟨rfl, fU3, qU3⟩
            show J_ zX6_addRound T (po_X6_addRound_s T c f u q w d) (((3 * ((T 100 c 5 + an_ (T 100 c 5) 1 - 1) / 2 + 1 - k)).toNat) - 3) (((34 * ((T 100 c 5 + an_ (T 100 c 5) 1 - 1) / 2 + 1 - k)).toNat) - 34) 145 _ [] U3
            refine j_blx (F := fX6) tb_X6 (nn_ _) bk_X6_addRound_s_145 bs_X6_addRound_s_145 hz (fun K hK => ?_)
            refine rg_i (by omega) ?_
            refine hK 58 [some (vR 106 0), some (vR 100 c), some (vI u), some (vI q), some (vI w), some (vI d), some (vI (T 100 c 5 + an_ (T 100 c 5) 1 - 1)), none, some (vI (k + 1)), some (vI ((q + k) % (T 100 c 5 + an_ (T 100 c 5) 1 - 1))), some (vI (((q - k) + (T 100 c 5 + an_ (T 100 c 5) 1 - 1)) % (T 100 c 5 + an_ (T 100 c 5) 1 - 1))), some (vI v)] [] U3 ?_
            refine j_drop [some (vR 106 0), some (vR 100 c), some (vI u), some (vI q), some (vI w), some (vI d), some (vI (T 100 c 5 + an_ (T 100 c 5) 1 - 1)), none, some (vI (k + 1)), none, none, none] (fun k v hk => ?_) rfl ?_
            · match k, hk with
              | 0, hk => exact hk
              | 1, hk => exact hk
              | 2, hk => exact hk
              | 3, hk => exact hk
              | 4, hk => exact hk
              | 5, hk => exact hk
              | 6, hk => exact hk
              | 7, hk => cases hk
              | 8, hk => exact hk
              | 9, hk => cases hk
              | 10, hk => cases hk
              | 11, hk => cases hk
              | k + 12, hk => cases hk
            refine j_mono (bc' := ((3 * ((T 100 c 5 + an_ (T 100 c 5) 1 - 1) / 2 + 1 - (k + 1))).toNat)) (bs' := ((34 * ((T 100 c 5 + an_ (T 100 c 5) 1 - 1) / 2 + 1 - (k + 1))).toNat)) (by omega) (by omega) ?_
            refine ih_58 _ ?_ (k + 1) U3 (Nat.le_refl _) ?_ ?_ ?_ ?_ ?_ ?_ ?_
            · have hm_58 := hm_58 (); omega
            · exact fr_t (fr_t (fr_0 _ _) (fr_s hf_58 rfl)) (fr_s fU3 rfl)
            · exact (rb_add hrb1 (KEc_f hke hf_58 ⟨rfl, fun _ => rfl, fun _ => rfl⟩) (by omega) (lv_b hr (by omega)) fU3 (qU3.imp id And.left)).1
            · have y9 := rb_add hrb1 (KEc_f hke hf_58 ⟨rfl, fun _ => rfl, fun _ => rfl⟩) (by omega) (lv_b hr (by omega)) fU3 (qU3.imp id And.left)
              exact ⟨fun i j hi => (y9.2.1 i j hi).trans (od1.1 i j hi), by have := y9.2.2; have := od1.2; omega⟩
            · omega
            · exact fun i j hi => (fx9_o (fw9_ qU3) i j (by have := od1.2; omega)).trans (oe1 i j hi)
            · exact sq8_f sk1 od1.2 qU3
            · have eh := hm9_b (L := (T 100 c 5 + an_ (T 100 c 5) 1 - 1)) (r := q) (u := w) (i := k) (by rw [pq9_i (by omega)]; omega)
              rw [pa9_i (by omega), pb9_i (by omega)] at eh
              rw [show (k + 1).toNat = k.toNat + 1 by omega]
              show AP9_ T U3 c (fa9_ (T 100 c 5) u d (hm9_ (T 100 c 5 + an_ (T 100 c 5) 1 - 1) q w (k.toNat : Int)) (aw9_ (T 100 c 5 + an_ (T 100 c 5) 1 - 1) q w (k.toNat : Int)) (rl9_ (T 100 c 5) (T 100 c 5 + an_ (T 100 c 5) 1 - 1) q w u d k.toNat []))
              rw [show ((k.toNat : Nat) : Int) = k by omega, eh.1, eh.2]
              exact ap9_f (T1 := T1) ap1 (by omega) (by omega) (hf_58 100 c 5 rfl) (fun j => hf_58 403 c j rfl) (fw9_ qU3)
          · exfalso; omega
        · refine hK 128 _ [vI ((q + k) % (T 100 c 5 + an_ (T 100 c 5) 1 - 1)), vI u, vR 100 c, vR 106 0] T1 ?_
          refine j_blx (F := fX6) tb_X6 (nn_ _) bk_X6_addRound_s_128 bs_X6_addRound_s_128 hz (fun K hK => ?_)
          refine And.intro (fun c5 => ?_) (fun c5 => ?_)
          · exfalso; omega
          · refine hK 140 _ [vI (((q - k) + (T 100 c 5 + an_ (T 100 c 5) 1 - 1)) % (T 100 c 5 + an_ (T 100 c 5) 1 - 1)), vI ((q + k) % (T 100 c 5 + an_ (T 100 c 5) 1 - 1)), vI u, vR 100 c, vR 106 0] T1 ?_
            refine j_blx (F := fX6) tb_X6 (nn_ _) bk_X6_addRound_s_140 bs_X6_addRound_s_140 hz (fun K hK => ?_)
            refine hK 142 _ [vI d, vI (((q - k) + (T 100 c 5 + an_ (T 100 c 5) 1 - 1)) % (T 100 c 5 + an_ (T 100 c 5) 1 - 1)), vI ((q + k) % (T 100 c 5 + an_ (T 100 c 5) 1 - 1)), vI u, vR 100 c, vR 106 0] T1 ?_
            refine j_callV (y := yX6_addFixture) (Yc := zX6_addFixture) (rest := []) [vR 100 c, vI u, vI ((q + k) % (T 100 c 5 + an_ (T 100 c 5) 1 - 1)), vI (((q - k) + (T 100 c 5 + an_ (T 100 c 5) 1 - 1)) % (T 100 c 5 + an_ (T 100 c 5) 1 - 1)), vI d] (ct_X6_addFixture_s (T := T1) hc (by omega) (hrb1.2.2.2.2)) cl_X6_75 (qd_c (by decide +kernel)) (by decide) rfl (by decide +kernel) (Nat.le_of_ble_eq_true rfl) (by show 3 ≤ (3 * ((T 100 c 5 + an_ (T 100 c 5) 1 - 1) / 2 + 1 - k)).toNat; omega) (by show 34 ≤ (34 * ((T 100 c 5 + an_ (T 100 c 5) 1 - 1) / 2 + 1 - k)).toNat; omega) rfl ?_
            rintro U6 _ ⟨rfl, fU6, qU6⟩
            show J_ zX6_addRound T (po_X6_addRound_s T c f u q w d) (((3 * ((T 100 c 5 + an_ (T 100 c 5) 1 - 1) / 2 + 1 - k)).toNat) - 3) (((34 * ((T 100 c 5 + an_ (T 100 c 5) 1 - 1) / 2 + 1 - k)).toNat) - 34) 145 _ [] U6
            refine j_blx (F := fX6) tb_X6 (nn_ _) bk_X6_addRound_s_145 bs_X6_addRound_s_145 hz (fun K hK => ?_)
            refine rg_i (by omega) ?_
            refine hK 58 [some (vR 106 0), some (vR 100 c), some (vI u), some (vI q), some (vI w), some (vI d), some (vI (T 100 c 5 + an_ (T 100 c 5) 1 - 1)), none, some (vI (k + 1)), some (vI ((q + k) % (T 100 c 5 + an_ (T 100 c 5) 1 - 1))), some (vI (((q - k) + (T 100 c 5 + an_ (T 100 c 5) 1 - 1)) % (T 100 c 5 + an_ (T 100 c 5) 1 - 1))), some (vI v)] [] U6 ?_
            refine j_drop [some (vR 106 0), some (vR 100 c), some (vI u), some (vI q), some (vI w), some (vI d), some (vI (T 100 c 5 + an_ (T 100 c 5) 1 - 1)), none, some (vI (k + 1)), none, none, none] (fun k v hk => ?_) rfl ?_
            · match k, hk with
              | 0, hk => exact hk
              | 1, hk => exact hk
              | 2, hk => exact hk
              | 3, hk => exact hk
              | 4, hk => exact hk
              | 5, hk => exact hk
              | 6, hk => exact hk
              | 7, hk => cases hk
              | 8, hk => exact hk
              | 9, hk => cases hk
              | 10, hk => cases hk
              | 11, hk => cases hk
              | k + 12, hk => cases hk
            refine j_mono (bc' := ((3 * ((T 100 c 5 + an_ (T 100 c 5) 1 - 1) / 2 + 1 - (k + 1))).toNat)) (bs' := ((34 * ((T 100 c 5 + an_ (T 100 c 5) 1 - 1) / 2 + 1 - (k + 1))).toNat)) (by omega) (by omega) ?_
            refine ih_58 _ ?_ (k + 1) U6 (Nat.le_refl _) ?_ ?_ ?_ ?_ ?_ ?_ ?_
            · have hm_58 := hm_58 (); omega
            · exact fr_t (fr_t (fr_0 _ _) (fr_s hf_58 rfl)) (fr_s fU6 rfl)
            · exact (rb_add hrb1 (KEc_f hke hf_58 ⟨rfl, fun _ => rfl, fun _ => rfl⟩) (by omega) (lv_a hr (by omega)) fU6 (qU6.imp id And.left)).1
            · have y9 := rb_add hrb1 (KEc_f hke hf_58 ⟨rfl, fun _ => rfl, fun _ => rfl⟩) (by omega) (lv_a hr (by omega)) fU6 (qU6.imp id And.left)
              exact ⟨fun i j hi => (y9.2.1 i j hi).trans (od1.1 i j hi), by have := y9.2.2; have := od1.2; omega⟩
            · omega
            · exact fun i j hi => (fx9_o (fw9_ qU6) i j (by have := od1.2; omega)).trans (oe1 i j hi)
            · exact sq8_f sk1 od1.2 qU6
            · have eh := hm9_a (L := (T 100 c 5 + an_ (T 100 c 5) 1 - 1)) (r := q) (u := w) (i := k) (by rw [pq9_i (by omega)]; omega)
              rw [pa9_i (by omega), pb9_i (by omega)] at eh
              rw [show (k + 1).toNat = k.toNat + 1 by omega]
              show AP9_ T U6 c (fa9_ (T 100 c 5) u d (hm9_ (T 100 c 5 + an_ (T 100 c 5) 1 - 1) q w (k.toNat : Int)) (aw9_ (T 100 c 5 + an_ (T 100 c 5) 1 - 1) q w (k.toNat : Int)) (rl9_ (T 100 c 5) (T 100 c 5 + an_ (T 100 c 5) 1 - 1) q w u d k.toNat []))
              rw [show ((k.toNat : Nat) : Int) = k by omega, eh.1, eh.2]
              exact ap9_f (T1 := T1) ap1 (by omega) (by omega) (hf_58 100 c 5 rfl) (fun j => hf_58 403 c j rfl) (fw9_ qU6)
      refine j_blx (F := fX6) tb_X6 (nn_ _) bk_X6_addRound_s_58 bs_X6_addRound_s_58 hz (fun K hK => ?_)
      refine dv_i (by omega) ?_
      refine And.intro (fun c8 => ?_) (fun c8 => ?_)
      · refine hK 151 _ [] T1 ?_
        refine j_blx (F := fX6) tb_X6 (nn_ _) bk_X6_addRound_s_151 bs_X6_addRound_s_151 hz (fun K hK => ?_)
        refine (show po_X6_addRound_s T c f u q w d T1 (none) from ?_)
        have ek : k = (T 100 c 5 + an_ (T 100 c 5) 1 - 1) / 2 + 1 := by omega
        rw [ek] at ap1
        exact ⟨rfl, hf_58, rb_mono hrb1 (by omega), od1.1, od1.2, oe1, sk1, ap1⟩
      · refine rg_i (by omega) ?_
        refine dv_i (by omega) ?_
        refine rg_i (by omega) ?_
        refine rg_i (by omega) ?_
        refine dv_i (by omega) ?_
        intro w9 w9b
        refine And.intro (fun c10 => ?_) (fun c10 => ?_)
        · refine hK 100 [some (vR 106 0), some (vR 100 c), some (vI u), some (vI q), some (vI w), some (vI d), some (vI (T 100 c 5 + an_ (T 100 c 5) 1 - 1)), none, some (vI k), some (vI ((q + k) % (T 100 c 5 + an_ (T 100 c 5) 1 - 1))), some (vI (((q - k) + (T 100 c 5 + an_ (T 100 c 5) 1 - 1)) % (T 100 c 5 + an_ (T 100 c 5) 1 - 1))), none] [] T1 ?_
          refine j_blx (F := fX6) tb_X6 (nn_ _) bk_X6_addRound_s_100 bs_X6_addRound_s_100 hz (fun K hK => ?_)
          refine And.intro (fun c11 => ?_) (fun c11 => ?_)
          · refine hK 110 _ [] T1 ?_
            refine j_blx (F := fX6) tb_X6 (nn_ _) bk_X6_addRound_s_110 bs_X6_addRound_s_110 hz (fun K hK => ?_)
            refine hK 111 _ [vI 0] T1 ?_
            refine c_111 0 ?_ ?_
            · omega
            · omega
          · refine hK 111 _ [vI 1] T1 ?_
            refine c_111 1 ?_ ?_
            · omega
            · omega
        · refine hK 101 _ [vI 1] T1 ?_
          refine j_blx (F := fX6) tb_X6 (nn_ _) bk_X6_addRound_s_101 bs_X6_addRound_s_101 hz (fun K hK => ?_)
          refine And.intro (fun c12 => ?_) (fun c12 => ?_)
          · refine hK 110 _ [] T1 ?_
            refine j_blx (F := fX6) tb_X6 (nn_ _) bk_X6_addRound_s_110 bs_X6_addRound_s_110 hz (fun K hK => ?_)
            refine hK 111 _ [vI 0] T1 ?_
            refine c_111 0 ?_ ?_
            · omega
            · omega
          · refine hK 111 _ [vI 1] T1 ?_
            refine c_111 1 ?_ ?_
            · omega
            · omega
  refine j_blx (F := fX6) tb_X6 (nn_ _) bk_X6_addRound_s_0 bs_X6_addRound_s_0 hz (fun K hK => ?_)
  refine hK 1 _ [vR 100 c] T ?_
  refine j_callV (y := yX0_placeCount) (Yc := zX0_placeCount) (rest := []) [] (ct_X0_placeCount (T := T)) cl_X6_63 (qd_c (by decide +kernel)) (nn_ _) rfl (rf_of rfl) (Nat.le_of_ble_eq_true rfl) (Nat.le_of_ble_eq_true rfl) (Nat.le_of_ble_eq_true rfl) rfl ?_
  rintro _ _ ⟨rfl, rfl⟩
  show J_ zX6_addRound T (po_X6_addRound_s T c f u q w d) 18 204 4 _ [vI (T 100 c 5 + an_ (T 100 c 5) 1)] T
  refine j_blx (F := fX6) tb_X6 (nn_ _) bk_X6_addRound_s_4 bs_X6_addRound_s_4 hz (fun K hK => ?_)
  refine rg_i (by omega) ?_
  intro w13 w13b
  refine And.intro (fun c14 => ?_) (fun c14 => ?_)
  · refine hK 18 [some (vR 106 0), some (vR 100 c), some (vI u), some (vI q), some (vI w), some (vI d), some (vI ((T 100 c 5 + an_ (T 100 c 5) 1) - 1)), none, none, none, none, none] [] T ?_
    refine j_blx (F := fX6) tb_X6 (nn_ _) bk_X6_addRound_s_18 bs_X6_addRound_s_18 hz (fun K hK => ?_)
    refine And.intro (fun c15 => ?_) (fun c15 => ?_)
    · refine hK 35 [some (vR 106 0), some (vR 100 c), some (vI u), some (vI q), some (vI w), some (vI d), some (vI ((T 100 c 5 + an_ (T 100 c 5) 1) - 1)), some (vI 0), none, none, none, none] [vI u, vR 100 c, vR 106 0] T ?_
      refine j_blx (F := fX6) tb_X6 (nn_ _) bk_X6_addRound_s_35 bs_X6_addRound_s_35 hz (fun K hK => ?_)
      refine And.intro (fun c16 => ?_) (fun c16 => ?_)
      · refine hK 49 _ [vI ((T 100 c 5 + an_ (T 100 c 5) 1) - 1), vI u, vR 100 c, vR 106 0] T ?_
        refine j_blx (F := fX6) tb_X6 (nn_ _) bk_X6_addRound_s_49 bs_X6_addRound_s_49 hz (fun K hK => ?_)
        refine hK 52 _ [vI d, vI q, vI ((T 100 c 5 + an_ (T 100 c 5) 1) - 1), vI u, vR 100 c, vR 106 0] T ?_
        refine j_callV (y := yX6_addFixture) (Yc := zX6_addFixture) (rest := []) [vR 100 c, vI u, vI ((T 100 c 5 + an_ (T 100 c 5) 1) - 1), vI q, vI d] (ct_X6_addFixture_s (T := T) hc (by omega) (hrb.2.2.2.2)) cl_X6_75 (qd_c (by decide +kernel)) (nn_ _) rfl (rf_of rfl) (Nat.le_of_ble_eq_true rfl) (Nat.le_of_ble_eq_true rfl) (Nat.le_of_ble_eq_true rfl) rfl ?_
        rintro U17 _ ⟨rfl, fU17, qU17⟩
        show J_ zX6_addRound T (po_X6_addRound_s T c f u q w d) 15 170 55 _ [] U17
        refine j_blx (F := fX6) tb_X6 (nn_ _) bk_X6_addRound_s_55 bs_X6_addRound_s_55 hz (fun K hK => ?_)
        refine hK 58 [some (vR 106 0), some (vR 100 c), some (vI u), some (vI q), some (vI w), some (vI d), some (vI ((T 100 c 5 + an_ (T 100 c 5) 1) - 1)), some (vI 0), some (vI 1), none, none, none] [] U17 ?_
        refine j_drop [some (vR 106 0), some (vR 100 c), some (vI u), some (vI q), some (vI w), some (vI d), some (vI ((T 100 c 5 + an_ (T 100 c 5) 1) - 1)), none, some (vI 1), none, none, none] (fun k v hk => ?_) rfl ?_
        · match k, hk with
          | 0, hk => exact hk
          | 1, hk => exact hk
          | 2, hk => exact hk
          | 3, hk => exact hk
          | 4, hk => exact hk
          | 5, hk => exact hk
          | 6, hk => exact hk
          | 7, hk => cases hk
          | 8, hk => exact hk
          | 9, hk => cases hk
          | 10, hk => cases hk
          | 11, hk => cases hk
          | k + 12, hk => cases hk
        refine j_mono (bc' := ((3 * ((T 100 c 5 + an_ (T 100 c 5) 1 - 1) / 2 + 1 - 1)).toNat)) (bs' := ((34 * ((T 100 c 5 + an_ (T 100 c 5) 1 - 1) / 2 + 1 - 1)).toNat)) (by omega) (by omega) ?_
        refine c_58 _ 1 U17 (Nat.le_refl _) ?_ ?_ ?_ ?_ ?_ ?_ ?_
        · exact fr_t (fr_0 _ _) (fr_s fU17 rfl)
        · exact (rb_add hrb hke (by omega) (lv_R _ _) fU17 (qU17.imp id And.left)).1
        · exact (rb_add hrb hke (by omega) (lv_R _ _) fU17 (qU17.imp id And.left)).2
        · omega
        · exact fun i j hi => fx9_o (fw9_ qU17) i j hi
        · exact sq8_f sq8_r (Int.le_refl _) qU17
        · have eh := hm9_a (L := (T 100 c 5 + an_ (T 100 c 5) 1 - 1)) (r := q) (u := w) (i := 0) (by rw [pq9_0]; omega)
          rw [pa9_0, pb9_0] at eh
          show AP9_ T U17 c (fa9_ (T 100 c 5) u d (hm9_ (T 100 c 5 + an_ (T 100 c 5) 1 - 1) q w 0) (aw9_ (T 100 c 5 + an_ (T 100 c 5) 1 - 1) q w 0) [])
          rw [eh.1, eh.2]
          exact ap9_f (T1 := T) (ap9_0 rfl) (by omega) (by omega) rfl (fun j => rfl) (fw9_ qU17)
      · exfalso; omega
    · refine hK 37 _ [vI q, vI u, vR 100 c, vR 106 0] T ?_
      refine j_blx (F := fX6) tb_X6 (nn_ _) bk_X6_addRound_s_37 bs_X6_addRound_s_37 hz (fun K hK => ?_)
      refine And.intro (fun c19 => ?_) (fun c19 => ?_)
      · exfalso; omega
      · refine hK 50 _ [vI ((T 100 c 5 + an_ (T 100 c 5) 1) - 1), vI q, vI u, vR 100 c, vR 106 0] T ?_
        refine j_blx (F := fX6) tb_X6 (nn_ _) bk_X6_addRound_s_50 bs_X6_addRound_s_50 hz (fun K hK => ?_)
        refine hK 52 _ [vI d, vI ((T 100 c 5 + an_ (T 100 c 5) 1) - 1), vI q, vI u, vR 100 c, vR 106 0] T ?_
        refine j_callV (y := yX6_addFixture) (Yc := zX6_addFixture) (rest := []) [vR 100 c, vI u, vI q, vI ((T 100 c 5 + an_ (T 100 c 5) 1) - 1), vI d] (ct_X6_addFixture_s (T := T) hc (by omega) (hrb.2.2.2.2)) cl_X6_75 (qd_c (by decide +kernel)) (nn_ _) rfl (rf_of rfl) (Nat.le_of_ble_eq_true rfl) (Nat.le_of_ble_eq_true rfl) (Nat.le_of_ble_eq_true rfl) rfl ?_
        rintro U20 _ ⟨rfl, fU20, qU20⟩
        show J_ zX6_addRound T (po_X6_addRound_s T c f u q w d) 15 170 55 _ [] U20
        refine j_blx (F := fX6) tb_X6 (nn_ _) bk_X6_addRound_s_55 bs_X6_addRound_s_55 hz (fun K hK => ?_)
        refine hK 58 [some (vR 106 0), some (vR 100 c), some (vI u), some (vI q), some (vI w), some (vI d), some (vI ((T 100 c 5 + an_ (T 100 c 5) 1) - 1)), some (vI 0), some (vI 1), none, none, none] [] U20 ?_
        refine j_drop [some (vR 106 0), some (vR 100 c), some (vI u), some (vI q), some (vI w), some (vI d), some (vI ((T 100 c 5 + an_ (T 100 c 5) 1) - 1)), none, some (vI 1), none, none, none] (fun k v hk => ?_) rfl ?_
        · match k, hk with
          | 0, hk => exact hk
          | 1, hk => exact hk
          | 2, hk => exact hk
          | 3, hk => exact hk
          | 4, hk => exact hk
          | 5, hk => exact hk
          | 6, hk => exact hk
          | 7, hk => cases hk
          | 8, hk => exact hk
          | 9, hk => cases hk
          | 10, hk => cases hk
          | 11, hk => cases hk
          | k + 12, hk => cases hk
        refine j_mono (bc' := ((3 * ((T 100 c 5 + an_ (T 100 c 5) 1 - 1) / 2 + 1 - 1)).toNat)) (bs' := ((34 * ((T 100 c 5 + an_ (T 100 c 5) 1 - 1) / 2 + 1 - 1)).toNat)) (by omega) (by omega) ?_
        refine c_58 _ 1 U20 (Nat.le_refl _) ?_ ?_ ?_ ?_ ?_ ?_ ?_
        · exact fr_t (fr_0 _ _) (fr_s fU20 rfl)
        · exact (rb_add hrb hke (by omega) (lv_r hr) fU20 (qU20.imp id And.left)).1
        · exact (rb_add hrb hke (by omega) (lv_r hr) fU20 (qU20.imp id And.left)).2
        · omega
        · exact fun i j hi => fx9_o (fw9_ qU20) i j hi
        · exact sq8_f sq8_r (Int.le_refl _) qU20
        · have eh := hm9_b (L := (T 100 c 5 + an_ (T 100 c 5) 1 - 1)) (r := q) (u := w) (i := 0) (by rw [pq9_0]; omega)
          rw [pa9_0, pb9_0] at eh
          show AP9_ T U20 c (fa9_ (T 100 c 5) u d (hm9_ (T 100 c 5 + an_ (T 100 c 5) 1 - 1) q w 0) (aw9_ (T 100 c 5 + an_ (T 100 c 5) 1 - 1) q w 0) [])
          rw [eh.1, eh.2]
          exact ap9_f (T1 := T) (ap9_0 rfl) (by omega) (by omega) rfl (fun j => rfl) (fw9_ qU20)
  · refine hK 19 _ [vI 1] T ?_
    refine j_blx (F := fX6) tb_X6 (nn_ _) bk_X6_addRound_s_19 bs_X6_addRound_s_19 hz (fun K hK => ?_)
    refine And.intro (fun c22 => ?_) (fun c22 => ?_)
    · refine hK 35 [some (vR 106 0), some (vR 100 c), some (vI u), some (vI q), some (vI w), some (vI d), some (vI ((T 100 c 5 + an_ (T 100 c 5) 1) - 1)), some (vI 1), none, none, none, none] [vI u, vR 100 c, vR 106 0] T ?_
      refine j_blx (F := fX6) tb_X6 (nn_ _) bk_X6_addRound_s_35 bs_X6_addRound_s_35 hz (fun K hK => ?_)
      refine And.intro (fun c23 => ?_) (fun c23 => ?_)
      · refine hK 49 _ [vI ((T 100 c 5 + an_ (T 100 c 5) 1) - 1), vI u, vR 100 c, vR 106 0] T ?_
        refine j_blx (F := fX6) tb_X6 (nn_ _) bk_X6_addRound_s_49 bs_X6_addRound_s_49 hz (fun K hK => ?_)
        refine hK 52 _ [vI d, vI q, vI ((T 100 c 5 + an_ (T 100 c 5) 1) - 1), vI u, vR 100 c, vR 106 0] T ?_
        refine j_callV (y := yX6_addFixture) (Yc := zX6_addFixture) (rest := []) [vR 100 c, vI u, vI ((T 100 c 5 + an_ (T 100 c 5) 1) - 1), vI q, vI d] (ct_X6_addFixture_s (T := T) hc (by omega) (hrb.2.2.2.2)) cl_X6_75 (qd_c (by decide +kernel)) (nn_ _) rfl (rf_of rfl) (Nat.le_of_ble_eq_true rfl) (Nat.le_of_ble_eq_true rfl) (Nat.le_of_ble_eq_true rfl) rfl ?_
        rintro U24 _ ⟨rfl, fU24, qU24⟩
        show J_ zX6_addRound T (po_X6_addRound_s T c f u q w d) 15 170 55 _ [] U24
        refine j_blx (F := fX6) tb_X6 (nn_ _) bk_X6_addRound_s_55 bs_X6_addRound_s_55 hz (fun K hK => ?_)
        refine hK 58 [some (vR 106 0), some (vR 100 c), some (vI u), some (vI q), some (vI w), some (vI d), some (vI ((T 100 c 5 + an_ (T 100 c 5) 1) - 1)), some (vI 1), some (vI 1), none, none, none] [] U24 ?_
        refine j_drop [some (vR 106 0), some (vR 100 c), some (vI u), some (vI q), some (vI w), some (vI d), some (vI ((T 100 c 5 + an_ (T 100 c 5) 1) - 1)), none, some (vI 1), none, none, none] (fun k v hk => ?_) rfl ?_
        · match k, hk with
          | 0, hk => exact hk
          | 1, hk => exact hk
          | 2, hk => exact hk
          | 3, hk => exact hk
          | 4, hk => exact hk
          | 5, hk => exact hk
          | 6, hk => exact hk
          | 7, hk => cases hk
          | 8, hk => exact hk
          | 9, hk => cases hk
          | 10, hk => cases hk
          | 11, hk => cases hk
          | k + 12, hk => cases hk
        refine j_mono (bc' := ((3 * ((T 100 c 5 + an_ (T 100 c 5) 1 - 1) / 2 + 1 - 1)).toNat)) (bs' := ((34 * ((T 100 c 5 + an_ (T 100 c 5) 1 - 1) / 2 + 1 - 1)).toNat)) (by omega) (by omega) ?_
        refine c_58 _ 1 U24 (Nat.le_refl _) ?_ ?_ ?_ ?_ ?_ ?_ ?_
        · exact fr_t (fr_0 _ _) (fr_s fU24 rfl)
        · exact (rb_add hrb hke (by omega) (lv_R _ _) fU24 (qU24.imp id And.left)).1
        · exact (rb_add hrb hke (by omega) (lv_R _ _) fU24 (qU24.imp id And.left)).2
        · omega
        · exact fun i j hi => fx9_o (fw9_ qU24) i j hi
        · exact sq8_f sq8_r (Int.le_refl _) qU24
        · have eh := hm9_a (L := (T 100 c 5 + an_ (T 100 c 5) 1 - 1)) (r := q) (u := w) (i := 0) (by rw [pq9_0]; omega)
          rw [pa9_0, pb9_0] at eh
          show AP9_ T U24 c (fa9_ (T 100 c 5) u d (hm9_ (T 100 c 5 + an_ (T 100 c 5) 1 - 1) q w 0) (aw9_ (T 100 c 5 + an_ (T 100 c 5) 1 - 1) q w 0) [])
          rw [eh.1, eh.2]
          exact ap9_f (T1 := T) (ap9_0 rfl) (by omega) (by omega) rfl (fun j => rfl) (fw9_ qU24)
      · exfalso; omega
    · refine hK 37 _ [vI q, vI u, vR 100 c, vR 106 0] T ?_
      refine j_blx (F := fX6) tb_X6 (nn_ _) bk_X6_addRound_s_37 bs_X6_addRound_s_37 hz (fun K hK => ?_)
      refine And.intro (fun c26 => ?_) (fun c26 => ?_)
      · exfalso; omega
      · refine hK 50 _ [vI ((T 100 c 5 + an_ (T 100 c 5) 1) - 1), vI q, vI u, vR 100 c, vR 106 0] T ?_
        refine j_blx (F := fX6) tb_X6 (nn_ _) bk_X6_addRound_s_50 bs_X6_addRound_s_50 hz (fun K hK => ?_)
        refine hK 52 _ [vI d, vI ((T 100 c 5 + an_ (T 100 c 5) 1) - 1), vI q, vI u, vR 100 c, vR 106 0] T ?_
        refine j_callV (y := yX6_addFixture) (Yc := zX6_addFixture) (rest := []) [vR 100 c, vI u, vI q, vI ((T 100 c 5 + an_ (T 100 c 5) 1) - 1), vI d] (ct_X6_addFixture_s (T := T) hc (by omega) (hrb.2.2.2.2)) cl_X6_75 (qd_c (by decide +kernel)) (nn_ _) rfl (rf_of rfl) (Nat.le_of_ble_eq_true rfl) (Nat.le_of_ble_eq_true rfl) (Nat.le_of_ble_eq_true rfl) rfl ?_
        rintro U27 _ ⟨rfl, fU27, qU27⟩
        show J_ zX6_addRound T (po_X6_addRound_s T c f u q w d) 15 170 55 _ [] U27
        refine j_blx (F := fX6) tb_X6 (nn_ _) bk_X6_addRound_s_55 bs_X6_addRound_s_55 hz (fun K hK => ?_)
        refine hK 58 [some (vR 106 0), some (vR 100 c), some (vI u), some (vI q), some (vI w), some (vI d), some (vI ((T 100 c 5 + an_ (T 100 c 5) 1) - 1)), some (vI 1), some (vI 1), none, none, none] [] U27 ?_
        refine j_drop [some (vR 106 0), some (vR 100 c), some (vI u), some (vI q), some (vI w), some (vI d), some (vI ((T 100 c 5 + an_ (T 100 c 5) 1) - 1)), none, some (vI 1), none, none, none] (fun k v hk => ?_) rfl ?_
        · match k, hk with
          | 0, hk => exact hk
          | 1, hk => exact hk
          | 2, hk => exact hk
          | 3, hk => exact hk
          | 4, hk => exact hk
          | 5, hk => exact hk
          | 6, hk => exact hk
          | 7, hk => cases hk
          | 8, hk => exact hk
          | 9, hk => cases hk
          | 10, hk => cases hk
          | 11, hk => cases hk
          | k + 12, hk => cases hk
        refine j_mono (bc' := ((3 * ((T 100 c 5 + an_ (T 100 c 5) 1 - 1) / 2 + 1 - 1)).toNat)) (bs' := ((34 * ((T 100 c 5 + an_ (T 100 c 5) 1 - 1) / 2 + 1 - 1)).toNat)) (by omega) (by omega) ?_
        refine c_58 _ 1 U27 (Nat.le_refl _) ?_ ?_ ?_ ?_ ?_ ?_ ?_
        · exact fr_t (fr_0 _ _) (fr_s fU27 rfl)
        · exact (rb_add hrb hke (by omega) (lv_r hr) fU27 (qU27.imp id And.left)).1
        · exact (rb_add hrb hke (by omega) (lv_r hr) fU27 (qU27.imp id And.left)).2
        · omega
        · exact fun i j hi => fx9_o (fw9_ qU27) i j hi
        · exact sq8_f sq8_r (Int.le_refl _) qU27
        · have eh := hm9_b (L := (T 100 c 5 + an_ (T 100 c 5) 1 - 1)) (r := q) (u := w) (i := 0) (by rw [pq9_0]; omega)
          rw [pa9_0, pb9_0] at eh
          show AP9_ T U27 c (fa9_ (T 100 c 5) u d (hm9_ (T 100 c 5 + an_ (T 100 c 5) 1 - 1) q w 0) (aw9_ (T 100 c 5 + an_ (T 100 c 5) 1 - 1) q w 0) [])
          rw [eh.1, eh.2]
          exact ap9_f (T1 := T) (ap9_0 rfl) (by omega) (by omega) rfl (fun j => rfl) (fw9_ qU27)
theorem bk_X6_schedule_s_38 : ck_ fX6 none cX6_schedule 38 [.iload 5, .iload 3, .if_icmp .ge 93, .iload 4, .iload 3, .imul, .iload 5, .iadd, .istore 6, .aload 0, .aload 1, .iload 6, .iload 5, .iload 4, .iconst 1, .iand, .iconst 1, .if_icmp .ne 71, .iconst 1, .goto 72] 71 = true := qck_r (nn_ _) (by decide +kernel)
theorem bs_X6_schedule_s_38 {P : Zt → Option Zv → Prop} (K : Int → Zl → List Zv → Zt → Prop) : sx_ K P [.iload 5, .iload 3, .if_icmp .ge 93, .iload 4, .iload 3, .imul, .iload 5, .iadd, .istore 6, .aload 0, .aload 1, .iload 6, .iload 5, .iload 4, .iconst 1, .iand, .iconst 1, .if_icmp .ne 71, .iconst 1, .goto 72] 71 = x_iload 5 (x_iload 3 (x_if_icmp .ge 93 K (x_iload 4 (x_iload 3 (x_imul (x_iload 5 (x_iadd (x_istore 6 (x_aload 0 (x_aload 1 (x_iload 6 (x_iload 5 (x_iload 4 (x_iconst 1 (x_iand (x_iconst 1 (x_if_icmp .ne 71 K (x_iconst 1 (x_goto 72 K))))))))))))))))))) := ((xe_iload 5).trans (congrArg (x_iload 5) ((xe_iload 3).trans (congrArg (x_iload 3) ((xe_if_icmp .ge 93).trans (congrArg (x_if_icmp .ge 93 K) ((xe_iload 4).trans (congrArg (x_iload 4) ((xe_iload 3).trans (congrArg (x_iload 3) ((xe_imul).trans (congrArg (x_imul) ((xe_iload 5).trans (congrArg (x_iload 5) ((xe_iadd).trans (congrArg (x_iadd) ((xe_istore 6).trans (congrArg (x_istore 6) ((xe_aload 0).trans (congrArg (x_aload 0) ((xe_aload 1).trans (congrArg (x_aload 1) ((xe_iload 6).trans (congrArg (x_iload 6) ((xe_iload 5).trans (congrArg (x_iload 5) ((xe_iload 4).trans (congrArg (x_iload 4) ((xe_iconst 1).trans (congrArg (x_iconst 1) ((xe_iand).trans (congrArg (x_iand) ((xe_iconst 1).trans (congrArg (x_iconst 1) ((xe_if_icmp .ne 71).trans (congrArg (x_if_icmp .ne 71 K) ((xe_iconst 1).trans (congrArg (x_iconst 1) (xe_goto 72)))))))))))))))))))))))))))))))))))))))
theorem bk_X6_schedule_s_93 : ck_ fX6 none cX6_schedule 93 [.iinc 4 1, .goto 23] 99 = true := qck_r (nn_ _) (by decide +kernel)
theorem bs_X6_schedule_s_93 {P : Zt → Option Zv → Prop} (K : Int → Zl → List Zv → Zt → Prop) : sx_ K P [.iinc 4 1, .goto 23] 99 = x_iinc 4 1 (x_goto 23 K) := ((xe_iinc 4 1).trans (congrArg (x_iinc 4 1) (xe_goto 23)))
theorem bk_X6_schedule_s_71 : ck_ fX6 none cX6_schedule 71 [.iconst 0, .iload 2, .iload 6, .aload 1, .tableswitch 0 0 1 #[], .iconst 7, .iaload, .imul, .iadd] 84 = true := qck_r (nn_ _) (by decide +kernel)
theorem bs_X6_schedule_s_71 {P : Zt → Option Zv → Prop} (K : Int → Zl → List Zv → Zt → Prop) : sx_ K P [.iconst 0, .iload 2, .iload 6, .aload 1, .tableswitch 0 0 1 #[], .iconst 7, .iaload, .imul, .iadd] 84 = x_iconst 0 (x_iload 2 (x_iload 6 (x_aload 1 (x_g2 100 401 (x_iconst 7 (x_iaload (x_imul (x_iadd (K 84))))))))) := ((xe_iconst 0).trans (congrArg (x_iconst 0) ((xe_iload 2).trans (congrArg (x_iload 2) ((xe_iload 6).trans (congrArg (x_iload 6) ((xe_aload 1).trans (congrArg (x_aload 1) ((xe_g2 (kk := 100) rfl tl_0_1).trans (congrArg (x_g2 100 401) ((xe_iconst 7).trans (congrArg (x_iconst 7) ((xe_iaload).trans (congrArg (x_iaload) ((xe_imul).trans (congrArg (x_imul) ((xe_iadd).trans (congrArg (x_iadd) xe_nil))))))))))))))))))
theorem bk_X6_schedule_s_87 : ck_ fX6 none cX6_schedule 87 [.iinc 5 1, .goto 38] 93 = true := qck_r (nn_ _) (by decide +kernel)
theorem bs_X6_schedule_s_87 {P : Zt → Option Zv → Prop} (K : Int → Zl → List Zv → Zt → Prop) : sx_ K P [.iinc 5 1, .goto 38] 93 = x_iinc 5 1 (x_goto 38 K) := ((xe_iinc 5 1).trans (congrArg (x_iinc 5 1) (xe_goto 38)))
theorem bk_X6_schedule_s_72 : ck_ fX6 none cX6_schedule 72 [.iload 2, .iload 6, .aload 1, .tableswitch 0 0 1 #[], .iconst 7, .iaload, .imul, .iadd] 84 = true := qck_r (nn_ _) (by decide +kernel)
theorem bs_X6_schedule_s_72 {P : Zt → Option Zv → Prop} (K : Int → Zl → List Zv → Zt → Prop) : sx_ K P [.iload 2, .iload 6, .aload 1, .tableswitch 0 0 1 #[], .iconst 7, .iaload, .imul, .iadd] 84 = x_iload 2 (x_iload 6 (x_aload 1 (x_g2 100 401 (x_iconst 7 (x_iaload (x_imul (x_iadd (K 84)))))))) := ((xe_iload 2).trans (congrArg (x_iload 2) ((xe_iload 6).trans (congrArg (x_iload 6) ((xe_aload 1).trans (congrArg (x_aload 1) ((xe_g2 (kk := 100) rfl tl_0_1).trans (congrArg (x_g2 100 401) ((xe_iconst 7).trans (congrArg (x_iconst 7) ((xe_iaload).trans (congrArg (x_iaload) ((xe_imul).trans (congrArg (x_imul) ((xe_iadd).trans (congrArg (x_iadd) xe_nil))))))))))))))))
theorem bk_X6_schedule_s_23 : ck_ fX6 none cX6_schedule 23 [.iload 4, .aload 1, .tableswitch 0 0 1 #[], .iconst 6, .iaload, .if_icmp .ge 99, .iconst 0, .istore 5] 38 = true := qck_r (nn_ _) (by decide +kernel)
theorem bs_X6_schedule_s_23 {P : Zt → Option Zv → Prop} (K : Int → Zl → List Zv → Zt → Prop) : sx_ K P [.iload 4, .aload 1, .tableswitch 0 0 1 #[], .iconst 6, .iaload, .if_icmp .ge 99, .iconst 0, .istore 5] 38 = x_iload 4 (x_aload 1 (x_g2 100 401 (x_iconst 6 (x_iaload (x_if_icmp .ge 99 K (x_iconst 0 (x_istore 5 (K 38)))))))) := ((xe_iload 4).trans (congrArg (x_iload 4) ((xe_aload 1).trans (congrArg (x_aload 1) ((xe_g2 (kk := 100) rfl tl_0_1).trans (congrArg (x_g2 100 401) ((xe_iconst 6).trans (congrArg (x_iconst 6) ((xe_iaload).trans (congrArg (x_iaload) ((xe_if_icmp .ge 99).trans (congrArg (x_if_icmp .ge 99 K) ((xe_iconst 0).trans (congrArg (x_iconst 0) ((xe_istore 5).trans (congrArg (x_istore 5) xe_nil))))))))))))))))
theorem bk_X6_schedule_s_99 : ck_ fX6 none cX6_schedule 99 [.aload 1, .aload 0, .tableswitch 0 6 4 #[], .aload 1, .tableswitch 0 0 7 #[], .isub, .tableswitch 1 0 8 #[], .return_] 113 = true := qck_r (nn_ _) (by decide +kernel)
theorem bs_X6_schedule_s_99 {P : Zt → Option Zv → Prop} (K : Int → Zl → List Zv → Zt → Prop) : sx_ K P [.aload 1, .aload 0, .tableswitch 0 6 4 #[], .aload 1, .tableswitch 0 0 7 #[], .isub, .tableswitch 1 0 8 #[], .return_] 113 = x_aload 1 (x_aload 0 (x_g0 106 4 0 400 (x_aload 1 (x_g0 100 7 0 400 (x_isub (x_p 100 8 0 400 (x_return_ P))))))) := ((xe_aload 1).trans (congrArg (x_aload 1) ((xe_aload 0).trans (congrArg (x_aload 0) ((xe_g0 (kk := 106) rfl tl_6_4).trans (congrArg (x_g0 106 4 0 400) ((xe_aload 1).trans (congrArg (x_aload 1) ((xe_g0 (kk := 100) rfl tl_0_7).trans (congrArg (x_g0 100 7 0 400) ((xe_isub).trans (congrArg (x_isub) ((xe_p (kk := 100) rfl tl_0_8).trans (congrArg (x_p 100 8 0 400) (xe_return_)))))))))))))))
theorem bk_X6_schedule_s_0 : ck_ fX6 none cX6_schedule 0 [.aload 1, .iconst 1, .tableswitch 1 0 6 #[], .aload 1, .aload 0, .tableswitch 0 6 4 #[], .tableswitch 1 0 7 #[], .aload 1] 14 = true := qck_r (nn_ _) (by decide +kernel)
theorem bs_X6_schedule_s_0 {P : Zt → Option Zv → Prop} (K : Int → Zl → List Zv → Zt → Prop) : sx_ K P [.aload 1, .iconst 1, .tableswitch 1 0 6 #[], .aload 1, .aload 0, .tableswitch 0 6 4 #[], .tableswitch 1 0 7 #[], .aload 1] 14 = x_aload 1 (x_iconst 1 (x_p 100 6 0 1 (x_aload 1 (x_aload 0 (x_g0 106 4 0 400 (x_p 100 7 0 400 (x_aload 1 (K 14)))))))) := ((xe_aload 1).trans (congrArg (x_aload 1) ((xe_iconst 1).trans (congrArg (x_iconst 1) ((xe_p (kk := 100) rfl tl_0_6).trans (congrArg (x_p 100 6 0 1) ((xe_aload 1).trans (congrArg (x_aload 1) ((xe_aload 0).trans (congrArg (x_aload 0) ((xe_g0 (kk := 106) rfl tl_6_4).trans (congrArg (x_g0 106 4 0 400) ((xe_p (kk := 100) rfl tl_0_7).trans (congrArg (x_p 100 7 0 400) ((xe_aload 1).trans (congrArg (x_aload 1) xe_nil))))))))))))))))
theorem bk_X6_schedule_s_17 : ck_ fX6 none cX6_schedule 17 [.iconst 1, .isub, .istore 3, .iconst 0, .istore 4] 23 = true := qck_r (nn_ _) (by decide +kernel)
theorem bs_X6_schedule_s_17 {P : Zt → Option Zv → Prop} (K : Int → Zl → List Zv → Zt → Prop) : sx_ K P [.iconst 1, .isub, .istore 3, .iconst 0, .istore 4] 23 = x_iconst 1 (x_isub (x_istore 3 (x_iconst 0 (x_istore 4 (K 23))))) := ((xe_iconst 1).trans (congrArg (x_iconst 1) ((xe_isub).trans (congrArg (x_isub) ((xe_istore 3).trans (congrArg (x_istore 3) ((xe_iconst 0).trans (congrArg (x_iconst 0) ((xe_istore 4).trans (congrArg (x_istore 4) xe_nil))))))))))
abbrev po_X6_schedule_s (T : Zt) (c : Int) (b : Int) : Zt → Option Zv → Prop := fun T' r => r = none ∧ fr_ [(106, [4]), (523, []), (152, []), (102, []), (448, []), (449, []), (100, [6, 7, 8])] T T' ∧ ((∀ i j, i < T 106 0 4 → T' 102 i j = T 102 i j) ∧ RK_ T' c (T 106 0 4) (T 100 c 5 + an_ (T 100 c 5) 1 - 1) 0 0 2000000 ∧ (T' 100 c 6 = 1 ∧ T' 100 c 7 = T 106 0 4 ∧ T' 100 c 8 = T' 106 0 4 - T 106 0 4) ∧ (∀ i j, i ≠ c → T' 100 i j = T 100 i j) ∧ SQ8_ T T' ∧ AP9_ T T' c (pl9_ (T 100 c 5) (T 100 c 5 + an_ (T 100 c 5) 1 - 1) b (T 401 c 7) (T 401 c 6).toNat))
set_option maxHeartbeats 4000000 in
theorem ct_X6_schedule_s {T : Zt} {c : Int} {b : Int} (hc : 0 ≤ c ∧ c ≤ 3) (hl : 0 ≤ T 401 c 6 ∧ T 401 c 6 ≤ 4) (hE : 1 ≤ T 401 c 7 ∧ T 401 c 7 ≤ 30) (he : 2 ≤ T 100 c 5) (hb : 0 ≤ b ∧ b + ((T 100 c 5 + an_ (T 100 c 5) 1 - 1) * T 401 c 6 - 1) * T 401 c 7 ≤ 999) (hke : KEc_ T c) (hka : KA_ T) (hna : NA_ T) (hfx : T 106 0 4 + T 100 c 5 * (T 100 c 5 - 1) / 2 * T 401 c 6 ≤ 400) : Ct_ yX6_schedule zX6_schedule T [vR 106 0, vR 100 c, vI b] (po_X6_schedule_s T c b) := by
  refine ct_of pn_6 rfl rfl (Nat.le_of_ble_eq_true rfl) (fun hT hav => ?_)
  have hr_b : -2147483648 ≤ b ∧ b ≤ 2147483647 := hav (vI b) (List.mem_cons_of_mem _ (List.mem_cons_of_mem _ List.mem_cons_self))
  have hz : zX6_schedule.2.2.2.1 = some .boolean → ∀ (T' : Zt) (x : Int), po_X6_schedule_s T c b T' (some (vI x)) → 0 ≤ x ∧ x ≤ 1 := fun h => by cases h
  have hb_matchCount : 0 ≤ T 106 0 4 ∧ T 106 0 4 ≤ 400 := bd_f hT 106 4 tl_6_4 0
  have hb5 : 0 ≤ T 100 c 5 ∧ T 100 c 5 ≤ 12 := bd_f hT 100 5 tl_0_5 c
  have hp1 := an_1b (T 100 c 5)
  have hpm := an9_m (x := T 100 c 5) (by omega)
  have hp2 : T 100 c 5 = 12 → an_ (T 100 c 5) 1 = 0 := fun h => by rw [h]; decide
  have hbb : b ≤ 2000 := by have y := mlb (a := (T 100 c 5 + an_ (T 100 c 5) 1 - 1) * T 401 c 6) (b := T 401 c 7) (A := 48) (B := 30) (mlb (A := 12) (B := 4) (by omega) (by omega)) (by omega); have y2 := hb.2; rw [Int.sub_mul, Int.one_mul] at y2; omega
  show J_ zX6_schedule T (po_X6_schedule_s T c b) 792 8976 0 [some (vR 106 0), some (vR 100 c), some (vI b), none, none, none, none] [] T
  have c_23 : ∀ (nn : Nat) (l : Int) (T1 : Zt), ((4 - l).toNat) ≤ nn → (fr_ [(106, [4]), (523, []), (152, []), (102, []), (448, []), (449, []), (100, [6, 7, 8])] T T1) → (∀ z, RK_ T1 c (T 106 0 4) (T 100 c 5 + an_ (T 100 c 5) 1 - 1) z 0 (b + (l * (T 100 c 5 + an_ (T 100 c 5) 1 - 1) + 0) * T 401 c 7)) → (∀ i j, i < T 106 0 4 → T1 102 i j = T 102 i j) → (∀ i j, i ≠ c → T1 100 i j = T 100 i j) → (T1 100 c 7 = T 106 0 4 ∧ T1 100 c 6 = 1) → (0 ≤ l ∧ l ≤ 4 ∧ (l ≤ T 401 c 6 ∨ l = 0)) → (AP9_ T T1 c (pl9_ (T 100 c 5) (T 100 c 5 + an_ (T 100 c 5) 1 - 1) b (T 401 c 7) l.toNat)) → (SQ8_ T T1) → J_ zX6_schedule T (po_X6_schedule_s T c b) ((18 * (((4 : Int) - l) * 11)).toNat) ((204 * (((4 : Int) - l) * 11)).toNat) 23 [some (vR 106 0), some (vR 100 c), some (vI b), some (vI (T 100 c 5 + an_ (T 100 c 5) 1 - 1)), some (vI l), none, none] [] T1 := by
    intro nn
    induction nn using Nat.strongRecOn with
    | _ nn ih_23 =>
      intro l T1 hm_23 hf_23 hrb1 od1 oc1 s1 i1 ap1 sk1
      replace hm_23 := fun (_ : Unit) => hm_23
      have hpl := an9_m (x := l) (by omega)
      have hq1 := (hrb1 0).1
      have hm1 := mlb (a := l) (b := T 100 c 5 + an_ (T 100 c 5) 1 - 1) (A := 4) (B := 12) (by omega) (by omega)
      have hm2 := mlb (a := l * (T 100 c 5 + an_ (T 100 c 5) 1 - 1) + 0) (b := T 401 c 7) (A := 48) (B := 30) (by omega) (by omega)
      have hmx : (b + (l * (T 100 c 5 + an_ (T 100 c 5) 1 - 1) + 0) * T 401 c 7) ≤ 1000000 := by have := hb.1; have := hbb; omega
      have c_38 : ∀ (nn : Nat) (q : Int) (T2 : Zt), ((13 - q).toNat) ≤ nn → (fr_ [(106, [4]), (523, []), (152, []), (102, []), (448, []), (449, []), (100, [6, 7, 8])] T T2) → (∀ z, RK_ T2 c (T 106 0 4) (T 100 c 5 + an_ (T 100 c 5) 1 - 1) z 0 (b + (l * (T 100 c 5 + an_ (T 100 c 5) 1 - 1) + q) * T 401 c 7)) → (∀ i j, i < T 106 0 4 → T2 102 i j = T 102 i j) → (∀ i j, i ≠ c → T2 100 i j = T 100 i j) → (T2 100 c 7 = T 106 0 4 ∧ T2 100 c 6 = 1) → (0 ≤ q ∧ q ≤ T 100 c 5 + an_ (T 100 c 5) 1 - 1 ∧ l < T 401 c 6) → (AP9_ T T2 c (ll9_ (T 100 c 5) (T 100 c 5 + an_ (T 100 c 5) 1 - 1) l b (T 401 c 7) q.toNat (pl9_ (T 100 c 5) (T 100 c 5 + an_ (T 100 c 5) 1 - 1) b (T 401 c 7) l.toNat))) → (SQ8_ T T2) → J_ zX6_schedule T (po_X6_schedule_s T c b) ((18 * (((4 : Int) - l) * 11 - q)).toNat) ((204 * (((4 : Int) - l) * 11 - q)).toNat) 38 [some (vR 106 0), some (vR 100 c), some (vI b), some (vI (T 100 c 5 + an_ (T 100 c 5) 1 - 1)), some (vI l), some (vI q), none] [] T2 := by
        intro nn
        induction nn using Nat.strongRecOn with
        | _ nn ih_38 =>
          intro q T2 hm_38 hf_38 hrb2 od2 oc2 s2 i2 ap2 sk2
          replace hm_38 := fun (_ : Unit) => hm_38
          have hm3 := mlb (a := l * (T 100 c 5 + an_ (T 100 c 5) 1 - 1) + q) (b := T 401 c 7) (A := 60) (B := 30) (by omega) (by omega)
          refine j_blx (F := fX6) tb_X6 (nn_ _) bk_X6_schedule_s_38 bs_X6_schedule_s_38 hz (fun K hK => ?_)
          refine And.intro (fun c1 => ?_) (fun c1 => ?_)
          · refine hK 93 _ [] T2 ?_
            refine j_blx (F := fX6) tb_X6 (nn_ _) bk_X6_schedule_s_93 bs_X6_schedule_s_93 hz (fun K hK => ?_)
            refine rg_i (by omega) ?_
            refine hK 23 [some (vR 106 0), some (vR 100 c), some (vI b), some (vI (T 100 c 5 + an_ (T 100 c 5) 1 - 1)), some (vI (l + 1)), some (vI q), none] [] T2 ?_
            refine j_drop [some (vR 106 0), some (vR 100 c), some (vI b), some (vI (T 100 c 5 + an_ (T 100 c 5) 1 - 1)), some (vI (l + 1)), none, none] (fun k v hk => ?_) rfl ?_
            · match k, hk with
              | 0, hk => exact hk
              | 1, hk => exact hk
              | 2, hk => exact hk
              | 3, hk => exact hk
              | 4, hk => exact hk
              | 5, hk => cases hk
              | 6, hk => cases hk
              | k + 7, hk => cases hk
            refine j_mono (bc' := ((18 * (((4 : Int) - (l + 1)) * 11)).toNat)) (bs' := ((204 * (((4 : Int) - (l + 1)) * 11)).toNat)) (by omega) (by omega) ?_
            refine ih_23 _ ?_ (l + 1) T2 (Nat.le_refl _) ?_ ?_ ?_ ?_ ?_ ?_ ?_ ?_
            · have hm_23 := hm_23 (); omega
            · exact fr_t (fr_0 _ _) (fr_s hf_38 rfl)
            · intro z; rw [sc_l l q (T 100 c 5 + an_ (T 100 c 5) 1 - 1) (T 401 c 7) b (by omega)]; exact hrb2 z
            · exact od2
            · exact oc2
            · exact s2
            · omega
            · rw [show q = (T 100 c 5 + an_ (T 100 c 5) 1 - 1) by omega] at ap2
              rw [show (l + 1).toNat = l.toNat + 1 by omega]
              show AP9_ T T2 c (ll9_ (T 100 c 5) (T 100 c 5 + an_ (T 100 c 5) 1 - 1) (l.toNat : Int) b (T 401 c 7) ((T 100 c 5 + an_ (T 100 c 5) 1 - 1)).toNat (pl9_ (T 100 c 5) (T 100 c 5 + an_ (T 100 c 5) 1 - 1) b (T 401 c 7) l.toNat))
              rw [show ((l.toNat : Nat) : Int) = l by omega]
              exact ap2
            · exact sk2
          · refine rg_i (by omega) ?_
            refine rg_i (by omega) ?_
            intro w2 w2b
            refine And.intro (fun c3 => ?_) (fun c3 => ?_)
            · refine hK 71 [some (vR 106 0), some (vR 100 c), some (vI b), some (vI (T 100 c 5 + an_ (T 100 c 5) 1 - 1)), some (vI l), some (vI q), some (vI ((l * (T 100 c 5 + an_ (T 100 c 5) 1 - 1)) + q))] [vI q, vI ((l * (T 100 c 5 + an_ (T 100 c 5) 1 - 1)) + q), vR 100 c, vR 106 0] T2 ?_
              refine j_blx (F := fX6) tb_X6 (nn_ _) bk_X6_schedule_s_71 bs_X6_schedule_s_71 hz (fun K hK => ?_)
              refine ix_i (by omega) ?_
              intro b4 b4b
              have e5 : T2 401 c 7 = T 401 c 7 := hf_38 401 c 7 rfl
              rw [e5] at b4 b4b ⊢
              refine rg_i (by omega) ?_
              refine rg_i (by have y8 := sc_b (l := l) (q := q) (R := T 100 c 5 + an_ (T 100 c 5) 1 - 1) (L := T 401 c 6) (E := T 401 c 7) (b := b) (by omega) (by omega) (by omega) (by omega) hb.2; omega) ?_
              refine hK 84 _ [vI (b + (((l * (T 100 c 5 + an_ (T 100 c 5) 1 - 1)) + q) * (T 401 c 7))), vI 0, vI q, vI ((l * (T 100 c 5 + an_ (T 100 c 5) 1 - 1)) + q), vR 100 c, vR 106 0] T2 ?_
              have e6 : T2 100 c 5 = T 100 c 5 := hf_38 100 c 5 rfl
              have rb9 := rm9_b (e := T 100 c 5) (L := T 100 c 5 + an_ (T 100 c 5) 1 - 1) (f := b) (E := T 401 c 7) (M := T 106 0 4) (lg := T 401 c 6) (l := l) (q := q) (by omega) (by omega) hfx (by omega) (by omega)
              have ap3 := ap2.1
              have eR : T2 100 c 5 + an_ (T2 100 c 5) 1 - 1 = T 100 c 5 + an_ (T 100 c 5) 1 - 1 := by rw [e6]
              have y8 := sc_b (l := l) (q := q) (R := T 100 c 5 + an_ (T 100 c 5) 1 - 1) (L := T 401 c 6) (E := T 401 c 7) (b := b) (by omega) (by omega) (by omega) (by omega) hb.2
              refine j_callV (y := yX6_addRound) (Yc := zX6_addRound) (rest := []) [vR 100 c, vI ((l * (T 100 c 5 + an_ (T 100 c 5) 1 - 1)) + q), vI q, vI 0, vI (b + (((l * (T 100 c 5 + an_ (T 100 c 5) 1 - 1)) + q) * (T 401 c 7)))] (ct_X6_addRound_s (T := T2) (f := T 106 0 4) hc (by omega) (by omega) (by omega) (KEc_f hke hf_38 ⟨rfl, fun _ => rfl, fun _ => rfl⟩) (by rw [eR]; exact hrb2 q) (by omega) (by rw [e6]; omega)) cl_X6_70 (qd_c (by decide +kernel)) (by decide) rfl (by decide +kernel) (Nat.le_of_ble_eq_true rfl) (by show 18 ≤ (18 * ((4 - l) * 11 - q)).toNat; omega) (by show 204 ≤ (204 * ((4 - l) * 11 - q)).toNat; omega) rfl ?_
              rintro U7 _ ⟨rfl, fU7, qU7, odU7⟩
              show J_ zX6_schedule T (po_X6_schedule_s T c b) (((18 * (((4 : Int) - l) * 11 - q)).toNat) - 18) (((204 * (((4 : Int) - l) * 11 - q)).toNat) - 204) 87 _ [] U7
              refine j_blx (F := fX6) tb_X6 (nn_ _) bk_X6_schedule_s_87 bs_X6_schedule_s_87 hz (fun K hK => ?_)
              refine rg_i (by omega) ?_
              refine hK 38 [some (vR 106 0), some (vR 100 c), some (vI b), some (vI (T 100 c 5 + an_ (T 100 c 5) 1 - 1)), some (vI l), some (vI (q + 1)), some (vI ((l * (T 100 c 5 + an_ (T 100 c 5) 1 - 1)) + q))] [] U7 ?_
              refine j_drop [some (vR 106 0), some (vR 100 c), some (vI b), some (vI (T 100 c 5 + an_ (T 100 c 5) 1 - 1)), some (vI l), some (vI (q + 1)), none] (fun k v hk => ?_) rfl ?_
              · match k, hk with
                | 0, hk => exact hk
                | 1, hk => exact hk
                | 2, hk => exact hk
                | 3, hk => exact hk
                | 4, hk => exact hk
                | 5, hk => exact hk
                | 6, hk => cases hk
                | k + 7, hk => cases hk
              refine j_mono (bc' := ((18 * (((4 : Int) - l) * 11 - (q + 1))).toNat)) (bs' := ((204 * (((4 : Int) - l) * 11 - (q + 1))).toNat)) (by omega) (by omega) ?_
              refine ih_38 _ ?_ (q + 1) U7 (Nat.le_refl _) ?_ ?_ ?_ ?_ ?_ ?_ ?_ ?_
              · have hm_38 := hm_38 (); omega
              · exact fr_t (fr_t (fr_0 _ _) (fr_s hf_38 rfl)) (fr_s fU7 rfl)
              · intro z; rw [sc_n]; exact rb_next (r' := z) (by rw [eR] at qU7; exact qU7) (by omega)
              · exact fun i j hi => (odU7.1 i j hi).trans (od2 i j hi)
              · exact fun i j hi => (fU7 100 i j rfl).trans (oc2 i j hi)
              · exact ⟨(fU7 100 _ _ rfl).trans s2.1, (fU7 100 _ _ rfl).trans s2.2⟩
              · omega
              · have ap := odU7.2.2.2.2
                rw [e6] at ap
                rw [show (q + 1).toNat = q.toNat + 1 by omega]
                show AP9_ T U7 c (rl9_ (T 100 c 5) (T 100 c 5 + an_ (T 100 c 5) 1 - 1) (q.toNat : Int) (l % 2) (l * (T 100 c 5 + an_ (T 100 c 5) 1 - 1) + (q.toNat : Int)) (b + (l * (T 100 c 5 + an_ (T 100 c 5) 1 - 1) + (q.toNat : Int)) * (T 401 c 7)) (((T 100 c 5 + an_ (T 100 c 5) 1 - 1) + 1) / 2).toNat (ll9_ (T 100 c 5) (T 100 c 5 + an_ (T 100 c 5) 1 - 1) l b (T 401 c 7) q.toNat (pl9_ (T 100 c 5) (T 100 c 5 + an_ (T 100 c 5) 1 - 1) b (T 401 c 7) l.toNat)))
                rw [show ((q.toNat : Nat) : Int) = q by omega, rl9_a, show (((T 100 c 5 + an_ (T 100 c 5) 1 - 1) + 1) / 2).toNat = ((T 100 c 5 + an_ (T 100 c 5) 1 - 1) / 2 + 1).toNat by omega, show l % 2 = 0 by omega]
                exact ap9_t ap2 ap (by omega) odU7.2.2.1 (fun j => hf_38 403 c j rfl)
              · exact sq8_t sk2 odU7.2.2.2.1 (by have z := ap2.1; omega) odU7.2.1
            · refine hK 72 [some (vR 106 0), some (vR 100 c), some (vI b), some (vI (T 100 c 5 + an_ (T 100 c 5) 1 - 1)), some (vI l), some (vI q), some (vI ((l * (T 100 c 5 + an_ (T 100 c 5) 1 - 1)) + q))] [vI 1, vI q, vI ((l * (T 100 c 5 + an_ (T 100 c 5) 1 - 1)) + q), vR 100 c, vR 106 0] T2 ?_
              refine j_blx (F := fX6) tb_X6 (nn_ _) bk_X6_schedule_s_72 bs_X6_schedule_s_72 hz (fun K hK => ?_)
              refine ix_i (by omega) ?_
              intro b9 b9b
              have e10 : T2 401 c 7 = T 401 c 7 := hf_38 401 c 7 rfl
              rw [e10] at b9 b9b ⊢
              refine rg_i (by omega) ?_
              refine rg_i (by have y8 := sc_b (l := l) (q := q) (R := T 100 c 5 + an_ (T 100 c 5) 1 - 1) (L := T 401 c 6) (E := T 401 c 7) (b := b) (by omega) (by omega) (by omega) (by omega) hb.2; omega) ?_
              refine hK 84 _ [vI (b + (((l * (T 100 c 5 + an_ (T 100 c 5) 1 - 1)) + q) * (T 401 c 7))), vI 1, vI q, vI ((l * (T 100 c 5 + an_ (T 100 c 5) 1 - 1)) + q), vR 100 c, vR 106 0] T2 ?_
              have e11 : T2 100 c 5 = T 100 c 5 := hf_38 100 c 5 rfl
              have rb9 := rm9_b (e := T 100 c 5) (L := T 100 c 5 + an_ (T 100 c 5) 1 - 1) (f := b) (E := T 401 c 7) (M := T 106 0 4) (lg := T 401 c 6) (l := l) (q := q) (by omega) (by omega) hfx (by omega) (by omega)
              have ap3 := ap2.1
              have eR : T2 100 c 5 + an_ (T2 100 c 5) 1 - 1 = T 100 c 5 + an_ (T 100 c 5) 1 - 1 := by rw [e11]
              have y8 := sc_b (l := l) (q := q) (R := T 100 c 5 + an_ (T 100 c 5) 1 - 1) (L := T 401 c 6) (E := T 401 c 7) (b := b) (by omega) (by omega) (by omega) (by omega) hb.2
              refine j_callV (y := yX6_addRound) (Yc := zX6_addRound) (rest := []) [vR 100 c, vI ((l * (T 100 c 5 + an_ (T 100 c 5) 1 - 1)) + q), vI q, vI 1, vI (b + (((l * (T 100 c 5 + an_ (T 100 c 5) 1 - 1)) + q) * (T 401 c 7)))] (ct_X6_addRound_s (T := T2) (f := T 106 0 4) hc (by omega) (by omega) (by omega) (KEc_f hke hf_38 ⟨rfl, fun _ => rfl, fun _ => rfl⟩) (by rw [eR]; exact hrb2 q) (by omega) (by rw [e11]; omega)) cl_X6_70 (qd_c (by decide +kernel)) (by decide) rfl (by decide +kernel) (Nat.le_of_ble_eq_true rfl) (by show 18 ≤ (18 * ((4 - l) * 11 - q)).toNat; omega) (by show 204 ≤ (204 * ((4 - l) * 11 - q)).toNat; omega) rfl ?_
              rintro U12 _ ⟨rfl, fU12, qU12, odU12⟩
              show J_ zX6_schedule T (po_X6_schedule_s T c b) (((18 * (((4 : Int) - l) * 11 - q)).toNat) - 18) (((204 * (((4 : Int) - l) * 11 - q)).toNat) - 204) 87 _ [] U12
              refine j_blx (F := fX6) tb_X6 (nn_ _) bk_X6_schedule_s_87 bs_X6_schedule_s_87 hz (fun K hK => ?_)
              refine rg_i (by omega) ?_
              refine hK 38 [some (vR 106 0), some (vR 100 c), some (vI b), some (vI (T 100 c 5 + an_ (T 100 c 5) 1 - 1)), some (vI l), some (vI (q + 1)), some (vI ((l * (T 100 c 5 + an_ (T 100 c 5) 1 - 1)) + q))] [] U12 ?_
              refine j_drop [some (vR 106 0), some (vR 100 c), some (vI b), some (vI (T 100 c 5 + an_ (T 100 c 5) 1 - 1)), some (vI l), some (vI (q + 1)), none] (fun k v hk => ?_) rfl ?_
              · match k, hk with
                | 0, hk => exact hk
                | 1, hk => exact hk
                | 2, hk => exact hk
                | 3, hk => exact hk
                | 4, hk => exact hk
                | 5, hk => exact hk
                | 6, hk => cases hk
                | k + 7, hk => cases hk
              refine j_mono (bc' := ((18 * (((4 : Int) - l) * 11 - (q + 1))).toNat)) (bs' := ((204 * (((4 : Int) - l) * 11 - (q + 1))).toNat)) (by omega) (by omega) ?_
              refine ih_38 _ ?_ (q + 1) U12 (Nat.le_refl _) ?_ ?_ ?_ ?_ ?_ ?_ ?_ ?_
              · have hm_38 := hm_38 (); omega
              · exact fr_t (fr_t (fr_0 _ _) (fr_s hf_38 rfl)) (fr_s fU12 rfl)
              · intro z; rw [sc_n]; exact rb_next (r' := z) (by rw [eR] at qU12; exact qU12) (by omega)
              · exact fun i j hi => (odU12.1 i j hi).trans (od2 i j hi)
              · exact fun i j hi => (fU12 100 i j rfl).trans (oc2 i j hi)
              · exact ⟨(fU12 100 _ _ rfl).trans s2.1, (fU12 100 _ _ rfl).trans s2.2⟩
              · omega
              · have ap := odU12.2.2.2.2
                rw [e11] at ap
                rw [show (q + 1).toNat = q.toNat + 1 by omega]
                show AP9_ T U12 c (rl9_ (T 100 c 5) (T 100 c 5 + an_ (T 100 c 5) 1 - 1) (q.toNat : Int) (l % 2) (l * (T 100 c 5 + an_ (T 100 c 5) 1 - 1) + (q.toNat : Int)) (b + (l * (T 100 c 5 + an_ (T 100 c 5) 1 - 1) + (q.toNat : Int)) * (T 401 c 7)) (((T 100 c 5 + an_ (T 100 c 5) 1 - 1) + 1) / 2).toNat (ll9_ (T 100 c 5) (T 100 c 5 + an_ (T 100 c 5) 1 - 1) l b (T 401 c 7) q.toNat (pl9_ (T 100 c 5) (T 100 c 5 + an_ (T 100 c 5) 1 - 1) b (T 401 c 7) l.toNat)))
                rw [show ((q.toNat : Nat) : Int) = q by omega, rl9_a, show (((T 100 c 5 + an_ (T 100 c 5) 1 - 1) + 1) / 2).toNat = ((T 100 c 5 + an_ (T 100 c 5) 1 - 1) / 2 + 1).toNat by omega, show l % 2 = 1 by omega]
                exact ap9_t ap2 ap (by omega) odU12.2.2.1 (fun j => hf_38 403 c j rfl)
              · exact sq8_t sk2 odU12.2.2.2.1 (by have z := ap2.1; omega) odU12.2.1
      refine j_blx (F := fX6) tb_X6 (nn_ _) bk_X6_schedule_s_23 bs_X6_schedule_s_23 hz (fun K hK => ?_)
      refine ix_i (by omega) ?_
      intro b14 b14b
      have e15 : T1 401 c 6 = T 401 c 6 := hf_23 401 c 6 rfl
      rw [e15] at b14 b14b ⊢
      refine And.intro (fun c16 => ?_) (fun c16 => ?_)
      · refine hK 99 _ [] T1 ?_
        refine j_blx (F := fX6) tb_X6 (nn_ _) bk_X6_schedule_s_99 bs_X6_schedule_s_99 hz (fun K hK => ?_)
        intro b17 b17b
        intro b18 b18b
        refine rg_i (by omega) ?_
        refine bd_i (by omega) ?_
        refine x_nm (fun U19 hU19 => ?_)
        have e20 := up_f hU19
        refine (show po_X6_schedule_s T c b U19 (none) from ?_)
        have e21 : U19 106 0 4 = T1 106 0 4 := up_k hU19 (by exact Nat.ne_of_beq_eq_false rfl) 0 4
        have e22 : U19 106 0 4 = T1 106 0 4 := up_k hU19 (by exact Nat.ne_of_beq_eq_false rfl) 0 4
        have e23 : U19 100 c 7 = T1 100 c 7 := up_j hU19 (by decide) 100 c
        have e24 : U19 100 c 6 = T1 100 c 6 := up_j hU19 (by decide) 100 c
        have el : l = T 401 c 6 := by omega
        have ap7 := ap1
        rw [el] at ap7
        have ap8 : AP9_ T U19 c (pl9_ (T 100 c 5) (T 100 c 5 + an_ (T 100 c 5) 1 - 1) b (T 401 c 7) (T 401 c 6).toNat) := ⟨(up_k hU19 (by exact Nat.ne_of_beq_eq_false rfl) 0 4).trans ap7.1, fun k q hq => by have z := ap7.2 k q hq; have o : ∀ j, U19 102 (T 106 0 4 + k) j = T1 102 (T 106 0 4 + k) j := fun j => up_k hU19 (by exact Nat.ne_of_beq_eq_false rfl) _ _; rw [o 0, o 2, o 3, o 4, o 5, o 6, o 7, o 10]; exact z⟩
        have sk8 : SQ8_ T U19 := sq8_t sk1 (sq8_u hU19 (by decide)) (by have z := ap7.1; omega) (by have z : U19 106 0 4 = T1 106 0 4 := up_k hU19 (by exact Nat.ne_of_beq_eq_false rfl) 0 4; omega)
        have r1 := hrb1 0
        obtain ⟨r2, r3, r4, r5, r6⟩ := r1
        have k1 : ∀ k i j, k ≠ 100 → U19 k i j = T1 k i j := fun k i j hk => up_k hU19 hk _ _
        have r7 : RK_ U19 c (T 106 0 4) (T 100 c 5 + an_ (T 100 c 5) 1 - 1) 0 0 2000000 := by
          refine ⟨by rw [k1 106 0 4 (by decide)]; exact r2, fun i p q => ?_, fun i j p q w => ?_, fun i p q => ?_, NA_f r6 (show fr_ [(100, [6, 7, 8])] T1 U19 from fr_u (fr_0 _ _) hU19 rfl) ⟨rfl, rfl, rfl, rfl, rfl, rfl, rfl, rfl, rfl⟩⟩
          · rw [k1 106 0 4 (by decide)] at q
            obtain ⟨a1, a2, a3, a4, a5, a6⟩ := r3 i p q
            rw [k1 102 i 0 (by decide), k1 102 i 1 (by decide), k1 102 i 10 (by decide), k1 102 i 3 (by decide), k1 102 i 4 (by decide), k1 102 i 5 (by decide), k1 404 c _ (by decide), k1 404 c _ (by decide)]
            refine ⟨a1, a2, a3, a4, a5, Or.inl ?_⟩
            have y1 := a6
            have y2 : (b + (l * (T 100 c 5 + an_ (T 100 c 5) 1 - 1) + 0) * T 401 c 7) ≤ 1000000 := hmx
            omega
          · rw [k1 106 0 4 (by decide)] at w
            rw [k1 102 i 3 (by decide), k1 102 i 5 (by decide), k1 102 j 3 (by decide), k1 102 j 5 (by decide)]
            exact r4 i j p q w
          · rw [k1 106 0 4 (by decide)] at q
            rw [k1 523 0 i (by decide)]
            exact r5 i p q
        exact ⟨rfl, fr_u (fr_t (fr_0 _ _) (fr_s hf_23 rfl)) hU19 rfl, fun i j hi => (k1 102 i j (by decide)).trans (od1 i j hi), r7, by omega, fun i j hi => (up_g hU19 (fun z => hi z.2.1)).trans (oc1 i j hi), sk8, ap8⟩
      · refine hK 38 [some (vR 106 0), some (vR 100 c), some (vI b), some (vI (T 100 c 5 + an_ (T 100 c 5) 1 - 1)), some (vI l), some (vI 0), none] [] T1 ?_
        refine j_mono (bc' := ((18 * (((4 : Int) - l) * 11 - 0)).toNat)) (bs' := ((204 * (((4 : Int) - l) * 11 - 0)).toNat)) (by omega) (by omega) ?_
        refine c_38 _ 0 T1 (Nat.le_refl _) ?_ ?_ ?_ ?_ ?_ ?_ ?_ ?_
        · exact fr_t (fr_0 _ _) (fr_s hf_23 rfl)
        · exact hrb1
        · exact od1
        · exact oc1
        · exact s1
        · omega
        · exact ap1
        · exact sk1
  refine j_blx (F := fX6) tb_X6 (nn_ _) bk_X6_schedule_s_0 bs_X6_schedule_s_0 hz (fun K hK => ?_)
  refine bd_i (by omega) ?_
  refine x_nm (fun U25 hU25 => ?_)
  have e26 := up_f hU25
  intro b27 b27b
  have e28 : U25 106 0 4 = T 106 0 4 := up_k hU25 (by exact Nat.ne_of_beq_eq_false rfl) 0 4
  rw [e28] at b27 b27b ⊢
  refine bd_i (by omega) ?_
  refine x_nm (fun U29 hU29 => ?_)
  have e30 := up_f hU29
  refine hK 14 _ [vR 100 c] U29 ?_
  refine j_callV (y := yX0_placeCount) (Yc := zX0_placeCount) (rest := []) [] (ct_X0_placeCount (T := U29)) cl_X6_63 (qd_c (by decide +kernel)) (nn_ _) rfl (rf_of rfl) (Nat.le_of_ble_eq_true rfl) (Nat.le_of_ble_eq_true rfl) (Nat.le_of_ble_eq_true rfl) rfl ?_
  rintro _ _ ⟨rfl, rfl⟩
  have e31 : U29 100 c 5 + an_ (U29 100 c 5) 1 = T 100 c 5 + an_ (T 100 c 5) 1 := by rw [show _ = T 100 c 5 from (up_j hU29 (by decide) _ _).trans (up_j hU25 (by decide) _ _)]
  rw [e31]
  show J_ zX6_schedule T (po_X6_schedule_s T c b) 792 8976 17 _ [vI (T 100 c 5 + an_ (T 100 c 5) 1)] U29
  refine j_blx (F := fX6) tb_X6 (nn_ _) bk_X6_schedule_s_17 bs_X6_schedule_s_17 hz (fun K hK => ?_)
  refine rg_i (by omega) ?_
  refine hK 23 [some (vR 106 0), some (vR 100 c), some (vI b), some (vI ((T 100 c 5 + an_ (T 100 c 5) 1) - 1)), some (vI 0), none, none] [] U29 ?_
  refine j_mono (bc' := ((18 * (((4 : Int) - 0) * 11)).toNat)) (bs' := ((204 * (((4 : Int) - 0) * 11)).toNat)) (by omega) (by omega) ?_
  refine c_23 _ 0 U29 (Nat.le_refl _) ?_ ?_ ?_ ?_ ?_ ?_ ?_ ?_
  · exact fr_u (fr_u (fr_0 _ _) hU25 rfl) hU29 rfl
  · intro z; have y7 : U29 106 0 4 = T 106 0 4 := (up_k hU29 (by exact Nat.ne_of_beq_eq_false rfl) _ _).trans (up_k hU25 (by exact Nat.ne_of_beq_eq_false rfl) _ _); exact ⟨⟨by omega, by omega, by omega⟩, fun i p q => absurd q (by omega), fun i j p q w => absurd w (by omega), fun i p q => by rw [show _ = T 523 0 i from (up_k hU29 (by exact Nat.ne_of_beq_eq_false rfl) _ _).trans (up_k hU25 (by exact Nat.ne_of_beq_eq_false rfl) _ _)]; exact hka.2 i p (by omega), NA_f hna (show fr_ [(100, [6, 7, 8])] T U29 from fr_u (fr_u (fr_0 _ _) hU25 rfl) hU29 rfl) ⟨rfl, rfl, rfl, rfl, rfl, rfl, rfl, rfl, rfl⟩⟩
  · exact fun i j hi => (up_k hU29 (by exact Nat.ne_of_beq_eq_false rfl) _ _).trans (up_k hU25 (by exact Nat.ne_of_beq_eq_false rfl) _ _)
  · exact fun i j hi => (up_g hU29 (fun z => hi z.2.1)).trans (up_g hU25 (fun z => hi z.2.1))
  · exact ⟨up_f hU29, (up_j hU29 (by decide) _ _).trans (up_f hU25)⟩
  · omega
  · exact ap9_0 ((up_k hU29 (by exact Nat.ne_of_beq_eq_false rfl) _ _).trans (up_k hU25 (by exact Nat.ne_of_beq_eq_false rfl) _ _))
  · exact sq8_t (sq8_u hU25 (by decide)) (sq8_u hU29 (by decide)) (by have z : U25 106 0 4 = T 106 0 4 := up_k hU25 (by exact Nat.ne_of_beq_eq_false rfl) 0 4; omega) (by have z : U29 106 0 4 = U25 106 0 4 := up_k hU29 (by exact Nat.ne_of_beq_eq_false rfl) 0 4; omega)
theorem bk_X10_plan_s_0 : ck_ fX10 (some .int) cX10_plan 0 [.aload 0, .iload 1] 2 = true := qck_r (nn_ _) (by decide +kernel)
theorem bs_X10_plan_s_0 {P : Zt → Option Zv → Prop} (K : Int → Zl → List Zv → Zt → Prop) : sx_ K P [.aload 0, .iload 1] 2 = x_aload 0 (x_iload 1 (K 2)) := ((xe_aload 0).trans (congrArg (x_aload 0) ((xe_iload 1).trans (congrArg (x_iload 1) xe_nil))))
theorem bk_X10_plan_s_5 : ck_ fX10 (some .int) cX10_plan 5 [.ifCond .ne 11, .iconst (-2), .ireturn] 11 = true := qck_r (nn_ _) (by decide +kernel)
theorem bs_X10_plan_s_5 {P : Zt → Option Zv → Prop} (K : Int → Zl → List Zv → Zt → Prop) : sx_ K P [.ifCond .ne 11, .iconst (-2), .ireturn] 11 = x_ifCond .ne 11 K (x_iconst (-2) (x_ireturn P)) := ((xe_ifCond .ne 11).trans (congrArg (x_ifCond .ne 11 K) ((xe_iconst (-2)).trans (congrArg (x_iconst (-2)) (xe_ireturn)))))
theorem bk_X10_plan_s_11 : ck_ fX10 (some .int) cX10_plan 11 [.iload 2] 12 = true := qck_r (nn_ _) (by decide +kernel)
theorem bs_X10_plan_s_11 {P : Zt → Option Zv → Prop} (K : Int → Zl → List Zv → Zt → Prop) : sx_ K P [.iload 2] 12 = x_iload 2 (K 12) := ((xe_iload 2).trans (congrArg (x_iload 2) xe_nil))
theorem bk_X10_plan_s_15 : ck_ fX10 (some .int) cX10_plan 15 [.ifCond .eq 29, .iload 2, .aload 0, .tableswitch 0 10 1 #[], .tableswitch 0 8 13 #[], .if_icmp .ge 32, .iconst (-3), .ireturn] 32 = true := qck_r (nn_ _) (by decide +kernel)
theorem bs_X10_plan_s_15 {P : Zt → Option Zv → Prop} (K : Int → Zl → List Zv → Zt → Prop) : sx_ K P [.ifCond .eq 29, .iload 2, .aload 0, .tableswitch 0 10 1 #[], .tableswitch 0 8 13 #[], .if_icmp .ge 32, .iconst (-3), .ireturn] 32 = x_ifCond .eq 29 K (x_iload 2 (x_aload 0 (x_g1 110 108 (x_g0 108 13 0 999 (x_if_icmp .ge 32 K (x_iconst (-3) (x_ireturn P))))))) := ((xe_ifCond .eq 29).trans (congrArg (x_ifCond .eq 29 K) ((xe_iload 2).trans (congrArg (x_iload 2) ((xe_aload 0).trans (congrArg (x_aload 0) ((xe_g1 (kk := 110) rfl tl_10_1).trans (congrArg (x_g1 110 108) ((xe_g0 (kk := 108) rfl tl_8_13).trans (congrArg (x_g0 108 13 0 999) ((xe_if_icmp .ge 32).trans (congrArg (x_if_icmp .ge 32 K) ((xe_iconst (-3)).trans (congrArg (x_iconst (-3)) (xe_ireturn)))))))))))))))
theorem bk_X10_plan_s_29 : ck_ fX10 (some .int) cX10_plan 29 [.iconst (-3), .ireturn] 32 = true := qck_r (nn_ _) (by decide +kernel)
theorem bs_X10_plan_s_29 {P : Zt → Option Zv → Prop} (K : Int → Zl → List Zv → Zt → Prop) : sx_ K P [.iconst (-3), .ireturn] 32 = x_iconst (-3) (x_ireturn P) := ((xe_iconst (-3)).trans (congrArg (x_iconst (-3)) (xe_ireturn)))
theorem bk_X10_plan_s_32 : ck_ fX10 (some .int) cX10_plan 32 [.aload 0, .tableswitch 0 10 2 #[], .tableswitch 0 6 1 #[], .iload 1, .aaload, .astore 3, .aload 3, .tableswitch 0 0 6 #[], .ifCond .ne 69, .aload 3, .tableswitch 0 0 5 #[], .iconst 2, .if_icmp .lt 69, .iload 2, .aload 3] 59 = true := qck_r (nn_ _) (by decide +kernel)
theorem bs_X10_plan_s_32 {P : Zt → Option Zv → Prop} (K : Int → Zl → List Zv → Zt → Prop) : sx_ K P [.aload 0, .tableswitch 0 10 2 #[], .tableswitch 0 6 1 #[], .iload 1, .aaload, .astore 3, .aload 3, .tableswitch 0 0 6 #[], .ifCond .ne 69, .aload 3, .tableswitch 0 0 5 #[], .iconst 2, .if_icmp .lt 69, .iload 2, .aload 3] 59 = x_aload 0 (x_g1 110 106 (x_g1 106 521 (x_iload 1 (x_aaload (x_astore 3 (x_aload 3 (x_g0 100 6 0 1 (x_ifCond .ne 69 K (x_aload 3 (x_g0 100 5 0 12 (x_iconst 2 (x_if_icmp .lt 69 K (x_iload 2 (x_aload 3 (K 59))))))))))))))) := ((xe_aload 0).trans (congrArg (x_aload 0) ((xe_g1 (kk := 110) rfl tl_10_2).trans (congrArg (x_g1 110 106) ((xe_g1 (kk := 106) rfl tl_6_1).trans (congrArg (x_g1 106 521) ((xe_iload 1).trans (congrArg (x_iload 1) ((xe_aaload).trans (congrArg (x_aaload) ((xe_astore 3).trans (congrArg (x_astore 3) ((xe_aload 3).trans (congrArg (x_aload 3) ((xe_g0 (kk := 100) rfl tl_0_6).trans (congrArg (x_g0 100 6 0 1) ((xe_ifCond .ne 69).trans (congrArg (x_ifCond .ne 69 K) ((xe_aload 3).trans (congrArg (x_aload 3) ((xe_g0 (kk := 100) rfl tl_0_5).trans (congrArg (x_g0 100 5 0 12) ((xe_iconst 2).trans (congrArg (x_iconst 2) ((xe_if_icmp .lt 69).trans (congrArg (x_if_icmp .lt 69 K) ((xe_iload 2).trans (congrArg (x_iload 2) ((xe_aload 3).trans (congrArg (x_aload 3) xe_nil))))))))))))))))))))))))))))))
theorem bk_X10_plan_s_69 : ck_ fX10 (some .int) cX10_plan 69 [.iconst (-4), .ireturn] 72 = true := qck_r (nn_ _) (by decide +kernel)
theorem bs_X10_plan_s_69 {P : Zt → Option Zv → Prop} (K : Int → Zl → List Zv → Zt → Prop) : sx_ K P [.iconst (-4), .ireturn] 72 = x_iconst (-4) (x_ireturn P) := ((xe_iconst (-4)).trans (congrArg (x_iconst (-4)) (xe_ireturn)))
theorem bk_X10_plan_s_62 : ck_ fX10 (some .int) cX10_plan 62 [.iadd, .iconst 999, .if_icmp .le 72, .iconst (-4), .ireturn] 72 = true := qck_r (nn_ _) (by decide +kernel)
theorem bs_X10_plan_s_62 {P : Zt → Option Zv → Prop} (K : Int → Zl → List Zv → Zt → Prop) : sx_ K P [.iadd, .iconst 999, .if_icmp .le 72, .iconst (-4), .ireturn] 72 = x_iadd (x_iconst 999 (x_if_icmp .le 72 K (x_iconst (-4) (x_ireturn P)))) := ((xe_iadd).trans (congrArg (x_iadd) ((xe_iconst 999).trans (congrArg (x_iconst 999) ((xe_if_icmp .le 72).trans (congrArg (x_if_icmp .le 72 K) ((xe_iconst (-4)).trans (congrArg (x_iconst (-4)) (xe_ireturn)))))))))
theorem bk_X10_plan_s_72 : ck_ fX10 (some .int) cX10_plan 72 [.aload 0, .tableswitch 0 10 2 #[], .tableswitch 0 6 4 #[], .aload 3] 80 = true := qck_r (nn_ _) (by decide +kernel)
theorem bs_X10_plan_s_72 {P : Zt → Option Zv → Prop} (K : Int → Zl → List Zv → Zt → Prop) : sx_ K P [.aload 0, .tableswitch 0 10 2 #[], .tableswitch 0 6 4 #[], .aload 3] 80 = x_aload 0 (x_g1 110 106 (x_g0 106 4 0 400 (x_aload 3 (K 80)))) := ((xe_aload 0).trans (congrArg (x_aload 0) ((xe_g1 (kk := 110) rfl tl_10_2).trans (congrArg (x_g1 110 106) ((xe_g0 (kk := 106) rfl tl_6_4).trans (congrArg (x_g0 106 4 0 400) ((xe_aload 3).trans (congrArg (x_aload 3) xe_nil))))))))
theorem bk_X10_plan_s_83 : ck_ fX10 (some .int) cX10_plan 83 [.iadd, .iconst 400, .if_icmp .le 93, .iconst (-5), .ireturn] 93 = true := qck_r (nn_ _) (by decide +kernel)
theorem bs_X10_plan_s_83 {P : Zt → Option Zv → Prop} (K : Int → Zl → List Zv → Zt → Prop) : sx_ K P [.iadd, .iconst 400, .if_icmp .le 93, .iconst (-5), .ireturn] 93 = x_iadd (x_iconst 400 (x_if_icmp .le 93 K (x_iconst (-5) (x_ireturn P)))) := ((xe_iadd).trans (congrArg (x_iadd) ((xe_iconst 400).trans (congrArg (x_iconst 400) ((xe_if_icmp .le 93).trans (congrArg (x_if_icmp .le 93 K) ((xe_iconst (-5)).trans (congrArg (x_iconst (-5)) (xe_ireturn)))))))))
theorem bk_X10_plan_s_93 : ck_ fX10 (some .int) cX10_plan 93 [.aload 0, .tableswitch 0 10 2 #[], .aload 3, .iload 2] 99 = true := qck_r (nn_ _) (by decide +kernel)
theorem bs_X10_plan_s_93 {P : Zt → Option Zv → Prop} (K : Int → Zl → List Zv → Zt → Prop) : sx_ K P [.aload 0, .tableswitch 0 10 2 #[], .aload 3, .iload 2] 99 = x_aload 0 (x_g1 110 106 (x_aload 3 (x_iload 2 (K 99)))) := ((xe_aload 0).trans (congrArg (x_aload 0) ((xe_g1 (kk := 110) rfl tl_10_2).trans (congrArg (x_g1 110 106) ((xe_aload 3).trans (congrArg (x_aload 3) ((xe_iload 2).trans (congrArg (x_iload 2) xe_nil))))))))
theorem bk_X10_plan_s_102 : ck_ fX10 (some .int) cX10_plan 102 [.aload 3, .tableswitch 0 0 7 #[], .ireturn] 107 = true := qck_r (nn_ _) (by decide +kernel)
theorem bs_X10_plan_s_102 {P : Zt → Option Zv → Prop} (K : Int → Zl → List Zv → Zt → Prop) : sx_ K P [.aload 3, .tableswitch 0 0 7 #[], .ireturn] 107 = x_aload 3 (x_g0 100 7 0 400 (x_ireturn P)) := ((xe_aload 3).trans (congrArg (x_aload 3) ((xe_g0 (kk := 100) rfl tl_0_7).trans (congrArg (x_g0 100 7 0 400) (xe_ireturn)))))
abbrev po_X10_plan_s (T : Zt) (c b : Int) : Zt → Option Zv → Prop := fun T' r => ∃ x : Int, r = some (vI x) ∧ (T' = T ∨ SJ_ T T' c) ∧ PH9_ T T' c b x ∧ SQ8_ T T'
set_option maxHeartbeats 4000000 in
theorem ct_X10_plan_s {T : Zt} {c b : Int} (hka : KA_ T) (hke : KE_ T) (hkb : KB_ T) (hna : NA_ T) : Ct_ yX10_plan zX10_plan T [vR 110 0, vI c, vI b] (po_X10_plan_s T c b) := by
  refine ct_of pn_10 rfl rfl (Nat.le_of_ble_eq_true rfl) (fun hT hav => ?_)
  have hr_c : -2147483648 ≤ c ∧ c ≤ 2147483647 := hav (vI c) (List.mem_cons_of_mem _ List.mem_cons_self)
  have hr_b : -2147483648 ≤ b ∧ b ≤ 2147483647 := hav (vI b) (List.mem_cons_of_mem _ (List.mem_cons_of_mem _ List.mem_cons_self))
  have hz : zX10_plan.2.2.2.1 = some .boolean → ∀ (T' : Zt) (x : Int), po_X10_plan_s T c b T' (some (vI x)) → 0 ≤ x ∧ x ≤ 1 := fun h => by cases h
  have hb_matchCount : 0 ≤ T 106 0 4 ∧ T 106 0 4 ≤ 400 := bd_f hT 106 4 tl_6_4 0
  have hb_competitionCount : 0 ≤ T 106 0 2 ∧ T 106 0 2 ≤ 4 := bd_f hT 106 2 tl_6_2 0
  have hb5 : 0 ≤ T 100 c 5 ∧ T 100 c 5 ≤ 12 := bd_f hT 100 5 tl_0_5 c
  show J_ zX10_plan T (po_X10_plan_s T c b) 792 8976 0 [some (vR 110 0), some (vI c), some (vI b), none] [] T
  refine j_blx (F := fX10) tb_X10 (nn_ _) bk_X10_plan_s_0 bs_X10_plan_s_0 hz (fun K hK => ?_)
  refine hK 2 _ [vI c, vR 110 0] T ?_
  refine j_callV (y := yX10_isCompetition) (Yc := zX10_isCompetition) (rest := []) [vI c] (ct_X10_isCompetition (T := T)) cl_X10_107 (qd_c (by decide +kernel)) (nn_ _) rfl (rf_of rfl) (Nat.le_of_ble_eq_true rfl) (Nat.le_of_ble_eq_true rfl) (Nat.le_of_ble_eq_true rfl) rfl ?_
  rintro _ _ ⟨rfl, x1, rfl, hx1⟩
  show J_ zX10_plan T (po_X10_plan_s T c b) 792 8976 5 _ [vI x1] T
  refine j_blx (F := fX10) tb_X10 (nn_ _) bk_X10_plan_s_5 bs_X10_plan_s_5 hz (fun K hK => ?_)
  refine And.intro (fun c2 => ?_) (fun c2 => ?_)
  · replace hx1 := hx1.resolve_right (fun z => c2 z.1)
    clear c2
    refine hK 11 _ [] T ?_
    refine j_blx (F := fX10) tb_X10 (nn_ _) bk_X10_plan_s_11 bs_X10_plan_s_11 hz (fun K hK => ?_)
    refine hK 12 _ [vI b] T ?_
    refine j_callS (y := yX10_isDay) (Yc := zX10_isDay) (rest := []) [vI b] (ct_X10_isDay (T := T)) cl_X10_140 (qd_c (by decide +kernel)) (nn_ _) rfl (rf_of rfl) (Nat.le_of_ble_eq_true rfl) (Nat.le_of_ble_eq_true rfl) (Nat.le_of_ble_eq_true rfl) rfl ?_
    rintro _ _ ⟨rfl, x3, rfl, hx3⟩
    show J_ zX10_plan T (po_X10_plan_s T c b) 792 8976 15 _ [vI x3] T
    refine j_blx (F := fX10) tb_X10 (nn_ _) bk_X10_plan_s_15 bs_X10_plan_s_15 hz (fun K hK => ?_)
    refine And.intro (fun c4 => ?_) (fun c4 => ?_)
    · replace hx3 := hx3.resolve_left (fun z => absurd (c4.symm.trans z.1) (by decide))
      clear c4
      refine hK 29 _ [] T ?_
      refine j_blx (F := fX10) tb_X10 (nn_ _) bk_X10_plan_s_29 bs_X10_plan_s_29 hz (fun K hK => ?_)
      refine (show po_X10_plan_s T c b T (some (vI (-3))) from ?_)
      exact ⟨_, rfl, Or.inl rfl, Or.inl ⟨rfl, Or.inr (Or.inl ⟨by omega, rfl, by omega⟩)⟩, sq8_r⟩
    · replace hx3 := hx3.resolve_right (fun z => c4 z.1)
      clear c4
      intro b5 b5b
      refine And.intro (fun c6 => ?_) (fun c6 => ?_)
      · refine hK 32 _ [] T ?_
        refine j_blx (F := fX10) tb_X10 (nn_ _) bk_X10_plan_s_32 bs_X10_plan_s_32 hz (fun K hK => ?_)
        refine ix_i (by omega) ?_
        refine And.intro (fun c7 => ?_) (fun c7 => ?_)
        · exact absurd (show T 521 0 c = 0 by omega) (hka.1 _ (by omega) (by omega))
        · have hB := hkb c (by omega) (by omega)
          intro b8 b8b
          refine And.intro (fun c9 => ?_) (fun c9 => ?_)
          · refine hK 69 [some (vR 110 0), some (vI c), some (vI b), some (vR 100 c)] [] T ?_
            refine j_blx (F := fX10) tb_X10 (nn_ _) bk_X10_plan_s_69 bs_X10_plan_s_69 hz (fun K hK => ?_)
            refine (show po_X10_plan_s T c b T (some (vI (-4))) from ?_)
            exact ⟨_, rfl, Or.inl rfl, Or.inl ⟨rfl, Or.inr (Or.inr (Or.inl ⟨by omega, by omega, rfl, by omega⟩))⟩, sq8_r⟩
          · intro b10 b10b
            refine And.intro (fun c11 => ?_) (fun c11 => ?_)
            · refine hK 69 _ [] T ?_
              refine j_blx (F := fX10) tb_X10 (nn_ _) bk_X10_plan_s_69 bs_X10_plan_s_69 hz (fun K hK => ?_)
              refine (show po_X10_plan_s T c b T (some (vI (-4))) from ?_)
              exact ⟨_, rfl, Or.inl rfl, Or.inl ⟨rfl, Or.inr (Or.inr (Or.inl ⟨by omega, by omega, rfl, by omega⟩))⟩, sq8_r⟩
            · refine hK 59 _ [vR 100 c, vI b] T ?_
              refine j_callV (y := yX0_daysFromFirstToLast) (Yc := zX0_daysFromFirstToLast) (rest := [vI b]) [] (ct_X0_daysFromFirstToLast (T := T) (by exact hB.1) (by exact hB.2) (by omega)) cl_X10_178 (qd_c (by decide +kernel)) (nn_ _) rfl (rf_of rfl) (Nat.le_of_ble_eq_true rfl) (Nat.le_of_ble_eq_true rfl) (Nat.le_of_ble_eq_true rfl) rfl ?_
              rintro _ _ ⟨rfl, x12, rfl, hx12⟩
              show J_ zX10_plan T (po_X10_plan_s T c b) 792 8976 62 _ [vI x12, vI b] T
              refine j_blx (F := fX10) tb_X10 (nn_ _) bk_X10_plan_s_62 bs_X10_plan_s_62 hz (fun K hK => ?_)
              have hp1 := an_1b (T 100 c 5)
              have y9 := dy_b (R := T 100 c 5 + an_ (T 100 c 5) 1 - 1) (x := x12) hB ⟨by omega, by omega, hx12⟩
              refine rg_i (by omega) ?_
              refine And.intro (fun c13 => ?_) (fun c13 => ?_)
              · refine hK 72 _ [] T ?_
                refine j_blx (F := fX10) tb_X10 (nn_ _) bk_X10_plan_s_72 bs_X10_plan_s_72 hz (fun K hK => ?_)
                intro b14 b14b
                refine hK 80 _ [vR 100 c, vI (T 106 0 4)] T ?_
                refine j_callV (y := yX0_fixtureCount) (Yc := zX0_fixtureCount) (rest := [vI (T 106 0 4)]) [] (ct_X0_fixtureCount_e (T := T) (by exact hB.1) (by omega)) cl_X10_185 (qd_c (by decide +kernel)) (nn_ _) rfl (rf_of rfl) (Nat.le_of_ble_eq_true rfl) (Nat.le_of_ble_eq_true rfl) (Nat.le_of_ble_eq_true rfl) rfl ?_
                rintro _ _ ⟨rfl, x15, rfl, hx15⟩
                show J_ zX10_plan T (po_X10_plan_s T c b) 792 8976 83 _ [vI x15, vI (T 106 0 4)] T
                refine j_blx (F := fX10) tb_X10 (nn_ _) bk_X10_plan_s_83 bs_X10_plan_s_83 hz (fun K hK => ?_)
                refine rg_i (by omega) ?_
                refine And.intro (fun c16 => ?_) (fun c16 => ?_)
                · refine hK 93 _ [] T ?_
                  refine j_blx (F := fX10) tb_X10 (nn_ _) bk_X10_plan_s_93 bs_X10_plan_s_93 hz (fun K hK => ?_)
                  refine hK 99 _ [vI b, vR 100 c, vR 106 0] T ?_
                  refine j_callV (y := yX6_schedule) (Yc := zX6_schedule) (rest := []) [vR 100 c, vI b] (ct_X6_schedule_s (T := T) (by omega) hB.1 hB.2 (by omega) (by omega) (hke c (by omega) (by omega)) hka hna (by omega)) cl_X10_188 (qd_c (by decide +kernel)) (nn_ _) rfl (rf_of rfl) (Nat.le_of_ble_eq_true rfl) (Nat.le_of_ble_eq_true rfl) (Nat.le_of_ble_eq_true rfl) rfl ?_
                  rintro U17 _ ⟨rfl, fU17, odU17, qU17, tU17, ocU17, skU17, apU17⟩
                  show J_ zX10_plan T (po_X10_plan_s T c b) 0 0 102 _ [] U17
                  refine j_blx (F := fX10) tb_X10 (nn_ _) bk_X10_plan_s_102 bs_X10_plan_s_102 hz (fun K hK => ?_)
                  intro b19 b19b
                  refine (show po_X10_plan_s T c b U17 (some (vI (U17 100 c 7))) from ?_)
                  have sj : SJ_ T U17 c := ⟨⟨by omega, by omega, by omega⟩, fU17, odU17, qU17, tU17, ocU17⟩
                  exact ⟨_, rfl, Or.inr sj, Or.inr ⟨by omega, by omega, by omega, by omega, by omega, by omega, by omega, sj, apU17⟩, skU17⟩
                · refine (show po_X10_plan_s T c b T (some (vI (-5))) from ?_)
                  exact ⟨_, rfl, Or.inl rfl, Or.inl ⟨rfl, Or.inr (Or.inr (Or.inr ⟨by omega, by omega, by omega, by omega, by omega, rfl, by omega⟩))⟩, sq8_r⟩
              · refine (show po_X10_plan_s T c b T (some (vI (-4))) from ?_)
                exact ⟨_, rfl, Or.inl rfl, Or.inl ⟨rfl, Or.inr (Or.inr (Or.inl ⟨by omega, by omega, rfl, by omega⟩))⟩, sq8_r⟩
      · refine (show po_X10_plan_s T c b T (some (vI (-3))) from ?_)
        exact ⟨_, rfl, Or.inl rfl, Or.inl ⟨rfl, Or.inr (Or.inl ⟨by omega, rfl, by omega⟩)⟩, sq8_r⟩
  · replace hx1 := hx1.resolve_left (fun z => absurd (c2.symm.trans z.1) (by decide))
    clear c2
    refine (show po_X10_plan_s T c b T (some (vI (-2))) from ?_)
    exact ⟨_, rfl, Or.inl rfl, Or.inl ⟨rfl, Or.inl ⟨rfl, by omega⟩⟩, sq8_r⟩
theorem bk_X10_competition_s_0 : ck_ fX10 (some .int) cX10_competition 0 [.aload 0, .tableswitch 0 10 2 #[], .tableswitch 0 6 2 #[], .iconst 4, .if_icmp .lt 22, .aload 0, .tableswitch 0 10 0 #[], .iconst (-1), .tableswitch 1 5 3 #[], .iconst (-5), .ireturn] 22 = true := qck_r (nn_ _) (by decide +kernel)
theorem bs_X10_competition_s_0 {P : Zt → Option Zv → Prop} (K : Int → Zl → List Zv → Zt → Prop) : sx_ K P [.aload 0, .tableswitch 0 10 2 #[], .tableswitch 0 6 2 #[], .iconst 4, .if_icmp .lt 22, .aload 0, .tableswitch 0 10 0 #[], .iconst (-1), .tableswitch 1 5 3 #[], .iconst (-5), .ireturn] 22 = x_aload 0 (x_g1 110 106 (x_g0 106 2 0 4 (x_iconst 4 (x_if_icmp .lt 22 K (x_aload 0 (x_g1 110 105 (x_iconst (-1) (x_p 105 3 (-1) 400 (x_iconst (-5) (x_ireturn P)))))))))) := ((xe_aload 0).trans (congrArg (x_aload 0) ((xe_g1 (kk := 110) rfl tl_10_2).trans (congrArg (x_g1 110 106) ((xe_g0 (kk := 106) rfl tl_6_2).trans (congrArg (x_g0 106 2 0 4) ((xe_iconst 4).trans (congrArg (x_iconst 4) ((xe_if_icmp .lt 22).trans (congrArg (x_if_icmp .lt 22 K) ((xe_aload 0).trans (congrArg (x_aload 0) ((xe_g1 (kk := 110) rfl tl_10_0).trans (congrArg (x_g1 110 105) ((xe_iconst (-1)).trans (congrArg (x_iconst (-1)) ((xe_p (kk := 105) rfl tl_5_3).trans (congrArg (x_p 105 3 (-1) 400) ((xe_iconst (-5)).trans (congrArg (x_iconst (-5)) (xe_ireturn)))))))))))))))))))))
theorem bk_X10_competition_s_22 : ck_ fX10 (some .int) cX10_competition 22 [.aload 0, .tableswitch 0 10 0 #[]] 26 = true := qck_r (nn_ _) (by decide +kernel)
theorem bs_X10_competition_s_22 {P : Zt → Option Zv → Prop} (K : Int → Zl → List Zv → Zt → Prop) : sx_ K P [.aload 0, .tableswitch 0 10 0 #[]] 26 = x_aload 0 (x_g1 110 105 (K 26)) := ((xe_aload 0).trans (congrArg (x_aload 0) ((xe_g1 (kk := 110) rfl tl_10_0).trans (congrArg (x_g1 110 105) xe_nil))))
theorem bk_X10_competition_s_29 : ck_ fX10 (some .int) cX10_competition 29 [.istore 1, .aload 0, .tableswitch 0 10 0 #[], .iconst 0, .tableswitch 1 5 1 #[], .iload 1, .ifCond .ne 53, .iconst (-10), .aload 0, .tableswitch 0 10 0 #[], .tableswitch 0 5 2 #[], .isub, .ireturn] 53 = true := qck_r (nn_ _) (by decide +kernel)
theorem bs_X10_competition_s_29 {P : Zt → Option Zv → Prop} (K : Int → Zl → List Zv → Zt → Prop) : sx_ K P [.istore 1, .aload 0, .tableswitch 0 10 0 #[], .iconst 0, .tableswitch 1 5 1 #[], .iload 1, .ifCond .ne 53, .iconst (-10), .aload 0, .tableswitch 0 10 0 #[], .tableswitch 0 5 2 #[], .isub, .ireturn] 53 = x_istore 1 (x_aload 0 (x_g1 110 105 (x_iconst 0 (x_p 105 1 0 400 (x_iload 1 (x_ifCond .ne 53 K (x_iconst (-10) (x_aload 0 (x_g1 110 105 (x_g0 105 2 0 5 (x_isub (x_ireturn P)))))))))))) := ((xe_istore 1).trans (congrArg (x_istore 1) ((xe_aload 0).trans (congrArg (x_aload 0) ((xe_g1 (kk := 110) rfl tl_10_0).trans (congrArg (x_g1 110 105) ((xe_iconst 0).trans (congrArg (x_iconst 0) ((xe_p (kk := 105) rfl tl_5_1).trans (congrArg (x_p 105 1 0 400) ((xe_iload 1).trans (congrArg (x_iload 1) ((xe_ifCond .ne 53).trans (congrArg (x_ifCond .ne 53 K) ((xe_iconst (-10)).trans (congrArg (x_iconst (-10)) ((xe_aload 0).trans (congrArg (x_aload 0) ((xe_g1 (kk := 110) rfl tl_10_0).trans (congrArg (x_g1 110 105) ((xe_g0 (kk := 105) rfl tl_5_2).trans (congrArg (x_g0 105 2 0 5) ((xe_isub).trans (congrArg (x_isub) (xe_ireturn)))))))))))))))))))))))))
theorem bk_X10_competition_s_53 : ck_ fX10 (some .int) cX10_competition 53 [.aload 0, .tableswitch 0 10 2 #[], .tableswitch 0 6 2 #[], .istore 2, .aload 0, .tableswitch 0 10 2 #[], .tableswitch 0 6 1 #[], .iload 2] 69 = true := qck_r (nn_ _) (by decide +kernel)
theorem bs_X10_competition_s_53 {P : Zt → Option Zv → Prop} (K : Int → Zl → List Zv → Zt → Prop) : sx_ K P [.aload 0, .tableswitch 0 10 2 #[], .tableswitch 0 6 2 #[], .istore 2, .aload 0, .tableswitch 0 10 2 #[], .tableswitch 0 6 1 #[], .iload 2] 69 = x_aload 0 (x_g1 110 106 (x_g0 106 2 0 4 (x_istore 2 (x_aload 0 (x_g1 110 106 (x_g1 106 521 (x_iload 2 (K 69)))))))) := ((xe_aload 0).trans (congrArg (x_aload 0) ((xe_g1 (kk := 110) rfl tl_10_2).trans (congrArg (x_g1 110 106) ((xe_g0 (kk := 106) rfl tl_6_2).trans (congrArg (x_g0 106 2 0 4) ((xe_istore 2).trans (congrArg (x_istore 2) ((xe_aload 0).trans (congrArg (x_aload 0) ((xe_g1 (kk := 110) rfl tl_10_2).trans (congrArg (x_g1 110 106) ((xe_g1 (kk := 106) rfl tl_6_1).trans (congrArg (x_g1 106 521) ((xe_iload 2).trans (congrArg (x_iload 2) xe_nil))))))))))))))))
theorem bk_X10_competition_s_72 : ck_ fX10 (some .int) cX10_competition 72 [.dup, .iload 2, .aload 0, .tableswitch 0 10 0 #[], .tableswitch 0 5 4 #[]] 81 = true := qck_r (nn_ _) (by decide +kernel)
theorem bs_X10_competition_s_72 {P : Zt → Option Zv → Prop} (K : Int → Zl → List Zv → Zt → Prop) : sx_ K P [.dup, .iload 2, .aload 0, .tableswitch 0 10 0 #[], .tableswitch 0 5 4 #[]] 81 = x_dup (x_iload 2 (x_aload 0 (x_g1 110 105 (x_g1 105 504 (K 81))))) := ((xe_dup).trans (congrArg (x_dup) ((xe_iload 2).trans (congrArg (x_iload 2) ((xe_aload 0).trans (congrArg (x_aload 0) ((xe_g1 (kk := 110) rfl tl_10_0).trans (congrArg (x_g1 110 105) ((xe_g1 (kk := 105) rfl tl_5_4).trans (congrArg (x_g1 105 504) xe_nil))))))))))
theorem bk_X10_competition_s_87 : ck_ fX10 (some .int) cX10_competition 87 [.aload 0, .tableswitch 0 10 0 #[], .tableswitch 0 5 5 #[]] 94 = true := qck_r (nn_ _) (by decide +kernel)
theorem bs_X10_competition_s_87 {P : Zt → Option Zv → Prop} (K : Int → Zl → List Zv → Zt → Prop) : sx_ K P [.aload 0, .tableswitch 0 10 0 #[], .tableswitch 0 5 5 #[]] 94 = x_aload 0 (x_g1 110 105 (x_g1 105 505 (K 94))) := ((xe_aload 0).trans (congrArg (x_aload 0) ((xe_g1 (kk := 110) rfl tl_10_0).trans (congrArg (x_g1 110 105) ((xe_g1 (kk := 105) rfl tl_5_5).trans (congrArg (x_g1 105 505) xe_nil))))))
theorem bk_X10_competition_s_104 : ck_ fX10 (some .int) cX10_competition 104 [.aload 0, .tableswitch 0 10 2 #[], .dup, .tableswitch 0 6 2 #[], .iconst 1, .iadd, .tableswitch 1 6 2 #[], .iload 2, .ireturn] 119 = true := qck_r (nn_ _) (by decide +kernel)
theorem bs_X10_competition_s_104 {P : Zt → Option Zv → Prop} (K : Int → Zl → List Zv → Zt → Prop) : sx_ K P [.aload 0, .tableswitch 0 10 2 #[], .dup, .tableswitch 0 6 2 #[], .iconst 1, .iadd, .tableswitch 1 6 2 #[], .iload 2, .ireturn] 119 = x_aload 0 (x_g1 110 106 (x_dup (x_g0 106 2 0 4 (x_iconst 1 (x_iadd (x_p 106 2 0 4 (x_iload 2 (x_ireturn P)))))))) := ((xe_aload 0).trans (congrArg (x_aload 0) ((xe_g1 (kk := 110) rfl tl_10_2).trans (congrArg (x_g1 110 106) ((xe_dup).trans (congrArg (x_dup) ((xe_g0 (kk := 106) rfl tl_6_2).trans (congrArg (x_g0 106 2 0 4) ((xe_iconst 1).trans (congrArg (x_iconst 1) ((xe_iadd).trans (congrArg (x_iadd) ((xe_p (kk := 106) rfl tl_6_2).trans (congrArg (x_p 106 2 0 4) ((xe_iload 2).trans (congrArg (x_iload 2) (xe_ireturn)))))))))))))))))
abbrev po_X10_competition_s (T : Zt) : Zt → Option Zv → Prop := fun T' r => ∃ x : Int, r = some (vI x) ∧ (fr_ [(105, [7, 8, 9, 2, 3, 6, 1]), (504, []), (505, [])] T T' ∨ nc_ T T') ∧ CH9_ T T' x ∧ CNN_ T T'
set_option maxHeartbeats 4000000 in
theorem ct_X10_competition_s {T : Zt} (hna : NA_ T) : Ct_ yX10_competition zX10_competition T [vR 110 0] (po_X10_competition_s T) := by
  refine ct_of pn_10 rfl rfl (Nat.le_of_ble_eq_true rfl) (fun hT hav => ?_)
  have hz : zX10_competition.2.2.2.1 = some .boolean → ∀ (T' : Zt) (x : Int), po_X10_competition_s T T' (some (vI x)) → 0 ≤ x ∧ x ≤ 1 := fun h => by cases h
  have hb_competitionCount : 0 ≤ T 106 0 2 ∧ T 106 0 2 ≤ 4 := bd_f hT 106 2 tl_6_2 0
  show J_ zX10_competition T (po_X10_competition_s T) 5 57 0 [some (vR 110 0), none, none] [] T
  refine j_blx (F := fX10) tb_X10 (nn_ _) bk_X10_competition_s_0 bs_X10_competition_s_0 hz (fun K hK => ?_)
  intro b1 b1b
  refine And.intro (fun c2 => ?_) (fun c2 => ?_)
  · refine hK 22 _ [] T ?_
    refine j_blx (F := fX10) tb_X10 (nn_ _) bk_X10_competition_s_22 bs_X10_competition_s_22 hz (fun K hK => ?_)
    refine hK 26 _ [vR 105 0] T ?_
    refine j_callV (y := yX5_read) (Yc := zX5_read) (rest := []) [] (ct_X5_read_e (T := T)) cl_X10_80 (qd_c (by decide +kernel)) (nn_ _) rfl (rf_of rfl) (Nat.le_of_ble_eq_true rfl) (Nat.le_of_ble_eq_true rfl) (Nat.le_of_ble_eq_true rfl) rfl ?_
    rintro U3 _ ⟨x4, rfl, fU3, qU3⟩
    show J_ zX10_competition T (po_X10_competition_s T) 5 57 29 _ [vI x4] U3
    refine j_blx (F := fX10) tb_X10 (nn_ _) bk_X10_competition_s_29 bs_X10_competition_s_29 hz (fun K hK => ?_)
    refine bd_i (by omega) ?_
    refine x_nm (fun U5 hU5 => ?_)
    have e6 := up_f hU5
    refine And.intro (fun c7 => ?_) (fun c7 => ?_)
    · refine hK 53 [some (vR 110 0), some (vI x4), none] [] U5 ?_
      refine j_blx (F := fX10) tb_X10 (nn_ _) bk_X10_competition_s_53 bs_X10_competition_s_53 hz (fun K hK => ?_)
      intro b8 b8b
      have e9 : U5 106 0 2 = T 106 0 2 := (up_k hU5 (by exact Nat.ne_of_beq_eq_false rfl) 0 2).trans (fU3 106 0 2 rfl)
      rw [e9] at b8 b8b ⊢
      refine hK 69 [some (vR 110 0), some (vI x4), some (vI (T 106 0 2))] [vI (T 106 0 2), vR 521 0] U5 ?_
      have e11 : U5 150 (T 106 0 2) (-1) = T 150 (T 106 0 2) (-1) := (up_k hU5 (by exact Nat.ne_of_beq_eq_false rfl) (T 106 0 2) (-1)).trans (fU3 150 (T 106 0 2) (-1) rfl)
      have hv1 : ∀ k : Nat, ow_ k = some 100 → ¬ T k (T 106 0 2) (-1) = 1 := fun k hk h => (hT.2.2.2.2.2.2.2.1 k _ 100 hk h).elim (hna.2.1 _ (by omega)) (hna.1.1 _)
      refine j_newO (bc' := 4) (bs' := 48) (pc := 69) (ci := 0) (i := T 106 0 2) (by decide) (by decide) vi_0 tyX0_ok (nf_0 _) (lwq_3 (dqc_m (dqc_m (List.mem_of_getElem? (i := 1) rfl))) rfl : Cond.classLink RX10 91 RX0 ∈ lw_g) (lwq_3 (dqc_m (dqc_m (List.mem_of_getElem? (i := 2) rfl))) rfl : Cond.instantiable RX0 9 ∈ lw_g) (lwq_1 (dqa_m (List.mem_of_getElem? (i := 7) rfl)) rfl : Cond.initialized RX0 ∈ lw_g) (by show ¬ U5 150 (T 106 0 2) (-1) = 1; rw [e11]; exact hna.1.1 _) (by omega) (by omega) (by decide +kernel) ?_
      refine j_nm (fun U10 hU10 => ?_)
      have fU10 := nu_fr hU10
      have zU10 := nu_tz hU10
      have oU10 := nu_to hU10
      have vU10 := nu_tv hU10
      show J_ zX10_competition T (po_X10_competition_s T) 4 48 72 _ [vR 150 (T 106 0 2), vI (T 106 0 2), vR 521 0] U10
      refine j_blx (F := fX10) tb_X10 (nn_ _) bk_X10_competition_s_72 bs_X10_competition_s_72 hz (fun K hK => ?_)
      refine hK 81 _ [vR 504 0, vI (T 106 0 2), vR 150 (T 106 0 2), vR 150 (T 106 0 2), vI (T 106 0 2), vR 521 0] U10 ?_
      have e12 : U10 401 (T 106 0 2) (-1) = T 401 (T 106 0 2) (-1) := (fU10 401 (T 106 0 2) (-1) rfl).trans ((up_k hU5 (by exact Nat.ne_of_beq_eq_false rfl) (T 106 0 2) (-1)).trans (fU3 401 (T 106 0 2) (-1) rfl))
      refine j_clone2 (bc' := 3) (bs' := 32) (pc := 81) (k := 401) (i := T 106 0 2) (by decide) (by decide +kernel : ta_ 504 = some (1, some 16, 0, 999)) (by decide +kernel : ta_ 401 = some (1, some 16, 0, 999)) (by decide) (by decide) (by show ¬ U10 401 (T 106 0 2) (-1) = 1; rw [e12]; exact hv1 401 (by decide)) (fun o ho => by rw [show ow_ 401 = some 100 by decide] at ho; cases ho; exact Or.inr (show U10 150 (T 106 0 2) (-1) = 1 from vU10)) (lwq_3 (dqc_m (dqc_m (List.mem_of_getElem? (i := 3) rfl))) rfl : Cond.methodLink RX10 96 ⟨"[I", "clone", "()Ljava/lang/Object;"⟩ ∈ lw_g) (lwq_3 (dqc_m (dqc_m (List.mem_of_getElem? (i := 4) rfl))) rfl : Cond.sameMethod "[I" "java/lang/Object" "clone" "()Ljava/lang/Object;" ∈ lw_g) (lwq_3 (dqc_m (dqc_m (List.mem_of_getElem? (i := 5) rfl))) rfl : Cond.native ⟨"java/lang/Object", "clone", "()Ljava/lang/Object;"⟩ ∈ lw_g) (lwq_3 (dqc_m (dqc_m (List.mem_of_getElem? (i := 6) rfl))) rfl : Cond.instanceMethod ⟨"java/lang/Object", "clone", "()Ljava/lang/Object;"⟩ ∈ lw_g) (lwq_3 (dqc_m (dqc_m (List.mem_of_getElem? (i := 7) rfl))) rfl : Cond.selects "[I" ⟨"[I", "clone", "()Ljava/lang/Object;"⟩ ⟨"java/lang/Object", "clone", "()Ljava/lang/Object;"⟩ ∈ lw_g) (by decide) (by decide) (Nat.le_of_ble_eq_true rfl) (by decide) (by decide) (by decide +kernel) ?_
      refine j_nm (fun U13 hU13 => ?_)
      have fU13 := nu_fr hU13
      have zU13 := nu_tc hU13
      have oU13 := nu_to hU13
      have vU13 := nu_tv hU13
      show J_ zX10_competition T (po_X10_competition_s T) 3 32 84 _ [vR 401 (T 106 0 2), vI (T 106 0 2), vR 150 (T 106 0 2), vR 150 (T 106 0 2), vI (T 106 0 2), vR 521 0] U13
      refine j_castA (pc := 84) (by decide) (by decide +kernel : ta_ 401 = some (1, some 16, 0, 999)) (lwq_3 (dqc_m (dqc_m (dqa_m (List.mem_of_getElem? (i := 1) rfl)))) rfl : Cond.classLink RX10 97 "[I" ∈ lw_g) (by decide +kernel) ?_
      show J_ zX10_competition T (po_X10_competition_s T) 3 32 87 _ [vR 401 (T 106 0 2), vI (T 106 0 2), vR 150 (T 106 0 2), vR 150 (T 106 0 2), vI (T 106 0 2), vR 521 0] U13
      refine j_blx (F := fX10) tb_X10 (nn_ _) bk_X10_competition_s_87 bs_X10_competition_s_87 hz (fun K hK => ?_)
      refine hK 94 _ [vR 505 0, vR 401 (T 106 0 2), vI (T 106 0 2), vR 150 (T 106 0 2), vR 150 (T 106 0 2), vI (T 106 0 2), vR 521 0] U13 ?_
      have e14 : U13 402 (T 106 0 2) (-1) = T 402 (T 106 0 2) (-1) := (fU13 402 (T 106 0 2) (-1) rfl).trans ((fU10 402 (T 106 0 2) (-1) rfl).trans ((up_k hU5 (by exact Nat.ne_of_beq_eq_false rfl) (T 106 0 2) (-1)).trans (fU3 402 (T 106 0 2) (-1) rfl)))
      refine j_clone2 (bc' := 2) (bs' := 25) (pc := 94) (k := 402) (i := T 106 0 2) (by decide) (by decide +kernel : ta_ 505 = some (1, some 7, (-1), 6)) (by decide +kernel : ta_ 402 = some (1, some 7, (-1), 6)) (by decide) (by decide) (by show ¬ U13 402 (T 106 0 2) (-1) = 1; rw [e14]; exact hv1 402 (by decide)) (fun o ho => by rw [show ow_ 402 = some 100 by decide] at ho; cases ho; exact Or.inr (show U13 150 (T 106 0 2) (-1) = 1 from (fU13 150 _ _ rfl).trans vU10)) (lwq_3 (dqc_m (dqc_m (List.mem_of_getElem? (i := 3) rfl))) rfl : Cond.methodLink RX10 96 ⟨"[I", "clone", "()Ljava/lang/Object;"⟩ ∈ lw_g) (lwq_3 (dqc_m (dqc_m (List.mem_of_getElem? (i := 4) rfl))) rfl : Cond.sameMethod "[I" "java/lang/Object" "clone" "()Ljava/lang/Object;" ∈ lw_g) (lwq_3 (dqc_m (dqc_m (List.mem_of_getElem? (i := 5) rfl))) rfl : Cond.native ⟨"java/lang/Object", "clone", "()Ljava/lang/Object;"⟩ ∈ lw_g) (lwq_3 (dqc_m (dqc_m (List.mem_of_getElem? (i := 6) rfl))) rfl : Cond.instanceMethod ⟨"java/lang/Object", "clone", "()Ljava/lang/Object;"⟩ ∈ lw_g) (lwq_3 (dqc_m (dqc_m (List.mem_of_getElem? (i := 7) rfl))) rfl : Cond.selects "[I" ⟨"[I", "clone", "()Ljava/lang/Object;"⟩ ⟨"java/lang/Object", "clone", "()Ljava/lang/Object;"⟩ ∈ lw_g) (by decide) (by decide) (Nat.le_of_ble_eq_true rfl) (by decide) (by decide) (by decide +kernel) ?_
      refine j_nm (fun U15 hU15 => ?_)
      have fU15 := nu_fr hU15
      have zU15 := nu_tc hU15
      have oU15 := nu_to hU15
      have vU15 := nu_tv hU15
      show J_ zX10_competition T (po_X10_competition_s T) 2 25 97 _ [vR 402 (T 106 0 2), vR 401 (T 106 0 2), vI (T 106 0 2), vR 150 (T 106 0 2), vR 150 (T 106 0 2), vI (T 106 0 2), vR 521 0] U15
      refine j_castA (pc := 97) (by decide) (by decide +kernel : ta_ 402 = some (1, some 7, (-1), 6)) (lwq_3 (dqc_m (dqc_m (dqa_m (List.mem_of_getElem? (i := 1) rfl)))) rfl : Cond.classLink RX10 97 "[I" ∈ lw_g) (by decide +kernel) ?_
      show J_ zX10_competition T (po_X10_competition_s T) 2 25 100 _ [vR 402 (T 106 0 2), vR 401 (T 106 0 2), vI (T 106 0 2), vR 150 (T 106 0 2), vR 150 (T 106 0 2), vI (T 106 0 2), vR 521 0] U15
      have e16 : U15 403 (T 106 0 2) (-1) = T 403 (T 106 0 2) (-1) := (fU15 403 (T 106 0 2) (-1) rfl).trans ((fU13 403 (T 106 0 2) (-1) rfl).trans ((fU10 403 (T 106 0 2) (-1) rfl).trans ((up_k hU5 (by exact Nat.ne_of_beq_eq_false rfl) (T 106 0 2) (-1)).trans (fU3 403 (T 106 0 2) (-1) rfl))))
      have e17 : U15 404 (T 106 0 2) (-1) = T 404 (T 106 0 2) (-1) := (fU15 404 (T 106 0 2) (-1) rfl).trans ((fU13 404 (T 106 0 2) (-1) rfl).trans ((fU10 404 (T 106 0 2) (-1) rfl).trans ((up_k hU5 (by exact Nat.ne_of_beq_eq_false rfl) (T 106 0 2) (-1)).trans (fU3 404 (T 106 0 2) (-1) rfl))))
      refine j_callI (y := yX0_init) (Yc := zX0_init) (rest := [vR 150 (T 106 0 2), vI (T 106 0 2), vR 521 0]) [vI (T 106 0 2), vR 401 (T 106 0 2), vR 402 (T 106 0 2)] (ct_X0_init (T := U15) (by omega) (by rw [e16]; exact hv1 403 (by decide)) (by rw [e17]; exact hv1 404 (by decide))) ci_X10_104 (qd_c (by decide +kernel)) (nn_ _) rfl (rf_of rfl) (Nat.le_of_ble_eq_true rfl) (Nat.le_of_ble_eq_true rfl) (Nat.le_of_ble_eq_true rfl) rfl ?_
      rintro U18 _ ⟨rfl, fU18, qU18o, ⟨t0U18, t1U18, t2U18, t3U18, t4U18⟩, ⟨t5U18, t6U18, t7U18, t8U18⟩, zU18⟩
      show J_ zX10_competition T (po_X10_competition_s T) 0 0 103 _ [vR 150 (T 106 0 2), vI (T 106 0 2), vR 521 0] U18
      refine j_ok (fun gt0 _ => ?_)
      have e20 : U18 100 (T 106 0 2) (-1) = T 100 (T 106 0 2) (-1) := (fU18 100 (T 106 0 2) (-1) rfl).trans ((fU15 100 (T 106 0 2) (-1) rfl).trans ((fU13 100 (T 106 0 2) (-1) rfl).trans ((fU10 100 (T 106 0 2) (-1) rfl).trans ((up_k hU5 (by exact Nat.ne_of_beq_eq_false rfl) (T 106 0 2) (-1)).trans (fU3 100 (T 106 0 2) (-1) rfl)))))
      refine j_conv (k := 100) (i := T 106 0 2) (g := g0_ U18 (T 106 0 2)) (by decide) (by show ¬ U18 100 (T 106 0 2) (-1) = 1; rw [e20]; exact hna.2.1 _ (by omega)) (hna.1.1 _) (cg_0 gt0 (by omega) t1U18 t2U18 t3U18 t4U18) rfl rfl ?_
      refine j_nm (fun U21 hU21 => ?_)
      have fU21 := cw_fr hU21
      have sU21 := cw_ts hU21
      have oU21 := cw_to hU21
      have rU21 := cw_r hU21
      show J_ zX10_competition T (po_X10_competition_s T) 0 0 103 _ [vR 100 (T 106 0 2), vI (T 106 0 2), vR 521 0] U21
      refine j_aast (pc := 103) (by decide) (by decide) (by decide +kernel : ta_ 521 = some (4, some 4, 0, 1)) (by decide +kernel) (by omega) (by show _ < (4 : Int); omega) (by decide) ?_
      refine j_nm (fun U22 hU22 => ?_)
      have e23 := up_f hU22
      show J_ zX10_competition T (po_X10_competition_s T) 0 0 104 _ [] U22
      refine j_blx (F := fX10) tb_X10 (nn_ _) bk_X10_competition_s_104 bs_X10_competition_s_104 hz (fun K hK => ?_)
      intro b24 b24b
      have e25 : U22 106 0 2 = T 106 0 2 := (up_k hU22 (by exact Nat.ne_of_beq_eq_false rfl) 0 2).trans ((fU21 106 0 2 rfl).trans ((fU18 106 0 2 rfl).trans ((fU15 106 0 2 rfl).trans ((fU13 106 0 2 rfl).trans ((fU10 106 0 2 rfl).trans ((up_k hU5 (by exact Nat.ne_of_beq_eq_false rfl) 0 2).trans (fU3 106 0 2 rfl)))))))
      rw [e25] at b24 b24b ⊢
      refine rg_i (by omega) ?_
      refine bd_i (by omega) ?_
      refine x_nm (fun U26 hU26 => ?_)
      have e27 := up_f hU26
      refine (show po_X10_competition_s T U26 (some (vI (T 106 0 2))) from ?_)
      have w5 : U21 100 (T 106 0 2) 5 = U18 150 (T 106 0 2) 5 := (sU21 5 (by decide)).trans (by unfold g0_; rw [if_neg (by decide)])
      have y5 : U15 150 (T 106 0 2) 5 = 0 := (fU15 150 _ _ rfl).trans ((fU13 150 _ _ rfl).trans (zU10 5 (by decide)))
      have u5 : U26 100 (T 106 0 2) 5 = U21 100 (T 106 0 2) 5 := (up_k hU26 (by exact Nat.ne_of_beq_eq_false rfl) _ _).trans (up_k hU22 (by exact Nat.ne_of_beq_eq_false rfl) _ _)
      have w6 : U21 100 (T 106 0 2) 6 = U18 150 (T 106 0 2) 6 := (sU21 6 (by decide)).trans (by unfold g0_; rw [if_neg (by decide)])
      have y6 : U15 150 (T 106 0 2) 6 = 0 := (fU15 150 _ _ rfl).trans ((fU13 150 _ _ rfl).trans (zU10 6 (by decide)))
      have u6 : U26 100 (T 106 0 2) 6 = U21 100 (T 106 0 2) 6 := (up_k hU26 (by exact Nat.ne_of_beq_eq_false rfl) _ _).trans (up_k hU22 (by exact Nat.ne_of_beq_eq_false rfl) _ _)
      have w7 : U21 100 (T 106 0 2) 7 = U18 150 (T 106 0 2) 7 := (sU21 7 (by decide)).trans (by unfold g0_; rw [if_neg (by decide)])
      have y7 : U15 150 (T 106 0 2) 7 = 0 := (fU15 150 _ _ rfl).trans ((fU13 150 _ _ rfl).trans (zU10 7 (by decide)))
      have u7 : U26 100 (T 106 0 2) 7 = U21 100 (T 106 0 2) 7 := (up_k hU26 (by exact Nat.ne_of_beq_eq_false rfl) _ _).trans (up_k hU22 (by exact Nat.ne_of_beq_eq_false rfl) _ _)
      have w8 : U21 100 (T 106 0 2) 8 = U18 150 (T 106 0 2) 8 := (sU21 8 (by decide)).trans (by unfold g0_; rw [if_neg (by decide)])
      have y8 : U15 150 (T 106 0 2) 8 = 0 := (fU15 150 _ _ rfl).trans ((fU13 150 _ _ rfl).trans (zU10 8 (by decide)))
      have u8 : U26 100 (T 106 0 2) 8 = U21 100 (T 106 0 2) 8 := (up_k hU26 (by exact Nat.ne_of_beq_eq_false rfl) _ _).trans (up_k hU22 (by exact Nat.ne_of_beq_eq_false rfl) _ _)
      have w0 : U26 100 (T 106 0 2) 0 = T 106 0 2 := by
        have y1 : U26 100 (T 106 0 2) 0 = U21 100 (T 106 0 2) 0 := (up_k hU26 (by exact Nat.ne_of_beq_eq_false rfl) _ _).trans (up_k hU22 (by exact Nat.ne_of_beq_eq_false rfl) _ _)
        have y2 : U21 100 (T 106 0 2) 0 = U18 150 (T 106 0 2) 0 := (sU21 0 (by decide)).trans (by unfold g0_; rw [if_neg (by decide)])
        have y3 := t0U18
        omega
      have e28 : U26 106 0 2 = (T 106 0 2) + 1 := up_f hU26
      have d2 : ∀ (k : Nat) (i j : Int), k = 100 ∨ k = 150 ∨ k = 401 ∨ k = 403 ∨ k = 404 → i ≠ T 106 0 2 → U26 k i j = T k i j := by
        intro k i j hk hi
        have c1 : U26 k i j = U21 k i j := (up_g hU26 (fun z => by omega)).trans (up_g hU22 (fun z => by omega))
        have c2 : U21 k i j = U5 k i j := (oU21 k i j hi).trans ((qU18o k i j hi).trans ((oU15 k i j (fun z => hi z.2)).trans ((oU13 k i j (fun z => hi z.2)).trans (oU10 k i j (fun z => hi z.2)))))
        have c3 : U5 k i j = T k i j := by rcases hk with rfl | rfl | rfl | rfl | rfl <;> exact (up_k hU5 (by exact Nat.ne_of_beq_eq_false rfl) _ _).trans (fU3 _ _ _ rfl)
        exact c1.trans (c2.trans c3)
      have d3 : ∀ j, j ≠ T 106 0 2 → U26 521 0 j = T 521 0 j := fun j hj => (up_k hU26 (by exact Nat.ne_of_beq_eq_false rfl) _ _).trans ((up_g hU22 (fun z => hj z.2.2)).trans ((fU21 521 _ _ rfl).trans ((fU18 521 _ _ rfl).trans ((fU15 521 _ _ rfl).trans ((fU13 521 _ _ rfl).trans ((fU10 521 _ _ rfl).trans ((up_k hU5 (by exact Nat.ne_of_beq_eq_false rfl) _ _).trans (fU3 521 _ _ rfl))))))))
      have d4 : U26 521 0 (T 106 0 2) = 1 := (up_k hU26 (by exact Nat.ne_of_beq_eq_false rfl) _ _).trans (up_f hU22)
      have d5 : ∀ j, 0 ≤ j → U26 401 (T 106 0 2) j = U3 504 0 j := fun j hj => (up_k hU26 (by exact Nat.ne_of_beq_eq_false rfl) _ _).trans ((up_k hU22 (by exact Nat.ne_of_beq_eq_false rfl) _ _).trans ((fU21 401 _ _ rfl).trans ((fU18 401 _ _ rfl).trans ((fU15 401 _ _ rfl).trans ((zU13 j hj).trans ((fU10 504 _ _ rfl).trans (up_k hU5 (by exact Nat.ne_of_beq_eq_false rfl) _ _)))))))
      obtain ⟨qx, ⟨v, qr, qv⟩, q3⟩ := qU3.resolve_left (fun z => by omega)
      have hw := rdf9_g 402 gb9_d qr
      have vc : VC8_ U3 := ⟨fun j a b => by rw [qv.1 j a b, ← (rb9_i a b).1, ← (rb9_i a b).2]; exact hw.1 j a (by omega), by rw [qv.1 2 (by omega) (by omega), qv.1 1 (by omega) (by omega)]; exact hw.2.1⟩
      have d6 : ∀ j, 0 ≤ j → U26 402 (T 106 0 2) j = U3 505 0 j := fun j hj => (up_k hU26 (by exact Nat.ne_of_beq_eq_false rfl) _ _).trans ((up_k hU22 (by exact Nat.ne_of_beq_eq_false rfl) _ _).trans ((fU21 402 _ _ rfl).trans ((fU18 402 _ _ rfl).trans ((zU15 j hj).trans ((fU13 505 _ _ rfl).trans ((fU10 505 _ _ rfl).trans (up_k hU5 (by exact Nat.ne_of_beq_eq_false rfl) _ _)))))))
      have d7 : ∀ i j, i ≠ T 106 0 2 → U26 402 i j = T 402 i j := fun i j hi => (up_k hU26 (by exact Nat.ne_of_beq_eq_false rfl) _ _).trans ((up_k hU22 (by exact Nat.ne_of_beq_eq_false rfl) _ _).trans ((fU21 402 _ _ rfl).trans ((fU18 402 _ _ rfl).trans ((oU15 402 i j (fun z => hi z.2)).trans ((fU13 402 _ _ rfl).trans ((fU10 402 _ _ rfl).trans ((up_k hU5 (by exact Nat.ne_of_beq_eq_false rfl) _ _).trans (fU3 402 _ _ rfl))))))))
      have d8 : ∀ j, 0 ≤ j → j < 12 → U26 404 (T 106 0 2) j = -1 := fun j a b => (up_k hU26 (by exact Nat.ne_of_beq_eq_false rfl) _ _).trans ((up_k hU22 (by exact Nat.ne_of_beq_eq_false rfl) _ _).trans ((fU21 404 _ _ rfl).trans (zU18 j a b)))
      have e29 : U26 105 0 1 = 0 := (up_k hU26 (by exact Nat.ne_of_beq_eq_false rfl) 0 1).trans ((up_k hU22 (by exact Nat.ne_of_beq_eq_false rfl) 0 1).trans ((fU21 105 0 1 rfl).trans ((fU18 105 0 1 rfl).trans ((fU15 105 0 1 rfl).trans ((fU13 105 0 1 rfl).trans ((fU10 105 0 1 rfl).trans (up_f hU5)))))))
      have e30 : U26 105 0 3 = U3 105 0 3 := (up_k hU26 (by exact Nat.ne_of_beq_eq_false rfl) 0 3).trans ((up_k hU22 (by exact Nat.ne_of_beq_eq_false rfl) 0 3).trans ((fU21 105 0 3 rfl).trans ((fU18 105 0 3 rfl).trans ((fU15 105 0 3 rfl).trans ((fU13 105 0 3 rfl).trans ((fU10 105 0 3 rfl).trans (up_j hU5 (by decide) 105 0)))))))
      have n2 : NA_ U26 := by
        refine ⟨⟨fun i => ?_, fun i => by rw [show U26 152 i (-1) = T 152 i (-1) from (up_k hU26 (by exact Nat.ne_of_beq_eq_false rfl) _ _).trans ((up_k hU22 (by exact Nat.ne_of_beq_eq_false rfl) _ _).trans ((fU21 152 _ _ rfl).trans ((fU18 152 _ _ rfl).trans ((fU15 152 _ _ rfl).trans ((fU13 152 _ _ rfl).trans ((fU10 152 _ _ rfl).trans ((up_k hU5 (by exact Nat.ne_of_beq_eq_false rfl) _ _).trans (fU3 152 _ _ rfl))))))))]; exact hna.1.2.1 i, fun i => by rw [show U26 153 i (-1) = T 153 i (-1) from (up_k hU26 (by exact Nat.ne_of_beq_eq_false rfl) _ _).trans ((up_k hU22 (by exact Nat.ne_of_beq_eq_false rfl) _ _).trans ((fU21 153 _ _ rfl).trans ((fU18 153 _ _ rfl).trans ((fU15 153 _ _ rfl).trans ((fU13 153 _ _ rfl).trans ((fU10 153 _ _ rfl).trans ((up_k hU5 (by exact Nat.ne_of_beq_eq_false rfl) _ _).trans (fU3 153 _ _ rfl))))))))]; exact hna.1.2.2 i⟩, fun i hi => ?_, fun i hi => ?_, fun i hi => ?_⟩
        · by_cases z : i = T 106 0 2
          · rw [z, show U26 150 (T 106 0 2) (-1) = U21 150 (T 106 0 2) (-1) from (up_k hU26 (by exact Nat.ne_of_beq_eq_false rfl) _ _).trans (up_k hU22 (by exact Nat.ne_of_beq_eq_false rfl) _ _)]; exact rU21
          · rw [d2 150 i (-1) (Or.inr (Or.inl rfl)) z]; exact hna.1.1 i
        · rw [d2 100 i (-1) (Or.inl rfl) (by omega)]; exact hna.2.1 i (by omega)
        · rw [show U26 106 0 4 = T 106 0 4 from (up_j hU26 (by decide) _ _).trans ((up_k hU22 (by exact Nat.ne_of_beq_eq_false rfl) _ _).trans ((fU21 106 _ _ rfl).trans ((fU18 106 _ _ rfl).trans ((fU15 106 _ _ rfl).trans ((fU13 106 _ _ rfl).trans ((fU10 106 _ _ rfl).trans ((up_k hU5 (by exact Nat.ne_of_beq_eq_false rfl) _ _).trans (fU3 106 _ _ rfl))))))))] at hi
          rw [show U26 102 i (-1) = T 102 i (-1) from (up_k hU26 (by exact Nat.ne_of_beq_eq_false rfl) _ _).trans ((up_k hU22 (by exact Nat.ne_of_beq_eq_false rfl) _ _).trans ((fU21 102 _ _ rfl).trans ((fU18 102 _ _ rfl).trans ((fU15 102 _ _ rfl).trans ((fU13 102 _ _ rfl).trans ((fU10 102 _ _ rfl).trans ((up_k hU5 (by exact Nat.ne_of_beq_eq_false rfl) _ _).trans (fU3 102 _ _ rfl))))))))]; exact hna.2.2.1 i hi
        · rw [show U26 106 0 4 = T 106 0 4 from (up_j hU26 (by decide) _ _).trans ((up_k hU22 (by exact Nat.ne_of_beq_eq_false rfl) _ _).trans ((fU21 106 _ _ rfl).trans ((fU18 106 _ _ rfl).trans ((fU15 106 _ _ rfl).trans ((fU13 106 _ _ rfl).trans ((fU10 106 _ _ rfl).trans ((up_k hU5 (by exact Nat.ne_of_beq_eq_false rfl) _ _).trans (fU3 106 _ _ rfl)))))))), show U26 102 i 10 = T 102 i 10 from (up_k hU26 (by exact Nat.ne_of_beq_eq_false rfl) _ _).trans ((up_k hU22 (by exact Nat.ne_of_beq_eq_false rfl) _ _).trans ((fU21 102 _ _ rfl).trans ((fU18 102 _ _ rfl).trans ((fU15 102 _ _ rfl).trans ((fU13 102 _ _ rfl).trans ((fU10 102 _ _ rfl).trans ((up_k hU5 (by exact Nat.ne_of_beq_eq_false rfl) _ _).trans (fU3 102 _ _ rfl))))))))] at hi
          rw [show U26 103 i (-1) = T 103 i (-1) from (up_k hU26 (by exact Nat.ne_of_beq_eq_false rfl) _ _).trans ((up_k hU22 (by exact Nat.ne_of_beq_eq_false rfl) _ _).trans ((fU21 103 _ _ rfl).trans ((fU18 103 _ _ rfl).trans ((fU15 103 _ _ rfl).trans ((fU13 103 _ _ rfl).trans ((fU10 103 _ _ rfl).trans ((up_k hU5 (by exact Nat.ne_of_beq_eq_false rfl) _ _).trans (fU3 103 _ _ rfl))))))))]; exact hna.2.2.2 i hi
      exact ⟨_, rfl, Or.inr ⟨fr_u (fr_u (fr_t (fr_t (fr_t (fr_t (fr_t (fr_u (fr_t (fr_0 _ _) (fr_s fU3 rfl)) hU5 rfl) (fr_s fU10 rfl)) (fr_s fU13 rfl)) (fr_s fU15 rfl)) (fr_s fU18 rfl)) (fr_s fU21 rfl)) hU22 rfl) hU26 rfl, by omega, d2, d3, d4, by omega, fun j a b => by rw [d5 j a]; exact vc.1 j a b, by rw [d5 2 (by omega), d5 1 (by omega)]; exact vc.2, n2⟩, Or.inr ⟨by omega, by omega, Or.inr ⟨by omega, by omega, by omega, d7, d8, v, qr, fun j a b => (d5 j a).trans (qv.1 j a b), fun k a b => (d6 k a).trans (qv.2 k a b)⟩⟩, Or.inr w0⟩
    · intro b31 b31b
      have e32 : U5 105 0 2 = U3 105 0 2 := up_j hU5 (by decide) 105 0
      rw [e32] at b31 b31b ⊢
      refine rg_i (by omega) ?_
      refine (show po_X10_competition_s T U5 (some (vI ((-10) - (U3 105 0 2)))) from ?_)
      have e33 : U5 105 0 1 = 0 := up_f hU5
      have e34 : U5 105 0 3 = U3 105 0 3 := up_j hU5 (by decide) 105 0
      have e35 : U5 106 0 2 = T 106 0 2 := (up_k hU5 (by exact Nat.ne_of_beq_eq_false rfl) 0 2).trans (fU3 106 0 2 rfl)
      have e36 : U5 105 0 2 = U3 105 0 2 := up_j hU5 (by decide) 105 0
      refine ⟨_, rfl, Or.inl (fr_u (fr_t (fr_0 _ _) (fr_s fU3 rfl)) hU5 rfl), Or.inr ⟨by omega, by omega, Or.inl ⟨by omega, U3 105 0 2, by omega, ?_⟩⟩, Or.inl (by omega)⟩
      rw [show U5 105 0 3 = U3 105 0 3 by omega]
      exact (qU3.resolve_right (fun z => by omega)).2
  · refine bd_i (by omega) ?_
    refine x_nm (fun U37 hU37 => ?_)
    have e38 := up_f hU37
    refine (show po_X10_competition_s T U37 (some (vI (-5))) from ?_)
    have e39 : U37 105 0 1 = T 105 0 1 := up_j hU37 (by decide) 105 0
    have e40 : U37 105 0 3 = (-1) := up_f hU37
    have e41 : U37 106 0 2 = T 106 0 2 := up_k hU37 (by exact Nat.ne_of_beq_eq_false rfl) 0 2
    exact ⟨_, rfl, Or.inl (fr_u (fr_0 _ _) hU37 rfl), Or.inl ⟨by omega, rfl, by omega, by omega, by omega⟩, Or.inl (by omega)⟩
-- the plays of both sides alike: what holds between the calls
def rlm_ (f : Int → Int) : Int → Int := fun w => if 0 ≤ w ∧ w < 16 then f w else 0
theorem rlm_e {f g : Int → Int} (h : ∀ w, 0 ≤ w → w < 16 → f w = g w) : rlm_ f = rlm_ g := by
  funext w
  unfold rlm_
  by_cases z : 0 ≤ w ∧ w < 16
  · rw [if_pos z, if_pos z]
    exact h w z.1 z.2
  · rw [if_neg z, if_neg z]
theorem rlm_v {f : Int → Int} {w : Int} (h0 : 0 ≤ w) (h1 : w < 16) : rlm_ f w = f w := if_pos ⟨h0, h1⟩
theorem rlm_p {T : Zt} {m : Int} : RLP_ T m (rlm_ (fun w => T 401 (T 103 m 0) w)) := fun w a b => (rlm_v (f := fun w => T 401 (T 103 m 0) w) a b).symm
theorem rlm_r {T : Zt} {m : Int} : RLR_ T m (rlm_ (fun w => T 205 0 (23 * T 230 0 m + w))) := fun w a b => (rlm_v (f := fun w => T 205 0 (23 * T 230 0 m + w)) a b).symm
theorem rlm_s {T : Zt} {m : Int} : ∀ w, 0 ≤ w → w < 16 → T 401 (T 102 m 0) w = rlm_ (fun w => T 401 (T 102 m 0) w) w := fun w a b => (rlm_v (f := fun w => T 401 (T 102 m 0) w) a b).symm
abbrev ruH_ (T : Zt) (m : Int) : Int → Int := rlm_ (fun w => T 401 (T 102 m 0) w)
theorem rb_m {T : Zt} {m : Int} (hri : RI_ T) (hx : TXR_ T) (hc : 0 ≤ T 102 m 0 ∧ T 102 m 0 < T 106 0 2) : RB9_ (ruH_ T m) := by
  have e := hx.2.2.1
  have v : ∀ w, 0 ≤ w → w < 16 → (rb_ w).1 ≤ ruH_ T m w ∧ ruH_ T m w ≤ (rb_ w).2 := fun w a b => by
    rw [show ruH_ T m w = T 401 (T 102 m 0) w from rlm_v (f := fun w => T 401 (T 102 m 0) w) a b, (hx.2.2.2.2 _ hc.1 hc.2).1 w a b]
    exact hri (T 102 m 0) w hc.1 (by omega) a (by omega)
  have v0 : 0 ≤ ruH_ T m 0 ∧ ruH_ T m 0 ≤ 3 := v 0 (by decide) (by decide)
  have v9 : 1 ≤ ruH_ T m 9 ∧ ruH_ T m 9 ≤ 6 := v 9 (by decide) (by decide)
  have v10 : 0 ≤ ruH_ T m 10 ∧ ruH_ T m 10 ≤ 5 := v 10 (by decide) (by decide)
  have v11 : 2 ≤ ruH_ T m 11 ∧ ruH_ T m 11 ≤ 25 := v 11 (by decide) (by decide)
  have v12 : 1 ≤ ruH_ T m 12 ∧ ruH_ T m 12 ≤ 9 := v 12 (by decide) (by decide)
  exact ⟨v0, v9, v10, v11, v12⟩
theorem ru_q {T : Zt} {m : Int} (hx : TXR_ T) (he : T 102 m 0 = T 230 0 m) (hc : 0 ≤ T 102 m 0 ∧ T 102 m 0 < T 106 0 2) : rlm_ (fun w => T 205 0 (23 * T 230 0 m + w)) = ruH_ T m := rlm_e (fun w a b => by
  show T 205 0 (23 * T 230 0 m + w) = T 401 (T 102 m 0) w
  rw [← he]
  exact ((hx.2.2.2.2 _ hc.1 hc.2).1 w a b).symm)
/-- the sheets of a match -/
def SHM_ (T : Zt) (m : Int) : Prop :=
  (∀ t, 0 ≤ t → t ≤ 1 → T 239 0 (2 * m + t) = T 449 m t ∧ 0 ≤ T 449 m t ∧ T 449 m t ≤ 10) ∧
  (∀ t x, 0 ≤ t → t ≤ 1 → t * 10 ≤ x → x < t * 10 + T 449 m t → T 240 0 (20 * m + x) = T 448 m x) ∧
  ∀ t x y, 0 ≤ t → t ≤ 1 → t * 10 ≤ x → x < t * 10 + T 449 m t → t * 10 ≤ y → y < t * 10 + T 449 m t → T 448 m x = T 448 m y → x = y
/-- a match that is told -/
def PAA_ (T : Zt) (m : Int) : Prop := T 102 m 6 = -1 ∧ T 102 m 10 = 0 ∧ T 235 0 m = 0 ∧ T 236 0 m = 0 ∧ T 237 0 m = 0 ∧ T 254 0 m = 0 ∧ T 256 0 m = 0
/-- a match that was walked over -/
def PBB_ (T : Zt) (m : Int) : Prop := T 102 m 10 = 0 ∧ T 235 0 m = 3 ∧ ((T 102 m 6 = 0 ∧ T 236 0 m = 0 ∧ T 237 0 m = T 401 (T 102 m 0) 12) ∨ (T 102 m 6 = 1 ∧ T 236 0 m = T 401 (T 102 m 0) 12 ∧ T 237 0 m = 0)) ∧ T 254 0 m = 0 ∧ T 256 0 m = 0
/-- a match that is played -/
def PCC_ (T : Zt) (m : Int) : Prop := T 102 m 6 = -1 ∧ T 102 m 10 ≠ 0 ∧ T 103 m 0 = T 102 m 0 ∧ (∃ n, n ≤ 3 * (T 103 m 15 + T 103 m 17) ∧ SI_ m n (ruH_ T m) (rp9_ T m) (rs9_ T m)) ∧ FN_ (rs9_ T m) ∧ (∀ t, 0 ≤ t → t ≤ 1 → T 401 (T 102 m 0) 9 ≤ T 449 m t) ∧ hr9_ T (T 103 m 14) (T 103 m 15).toNat = rw9_ T m ∧ T 103 m 17 = T 256 0 m
def PM_ (T : Zt) (m : Int) : Prop := PAA_ T m ∨ PBB_ T m ∨ PCC_ T m
/-- every match alike on both sides -/
def PLR_ (T : Zt) : Prop := (∀ m, 0 ≤ m → m < T 106 0 4 → SHM_ T m ∧ PM_ T m) ∧ ∀ m, T 111 0 29 ≤ m → m < 400 → T 236 0 m = 0 ∧ T 237 0 m = 0
/-- the logs of the plays are rows of their own -/
def LDR_ (T : Zt) : Prop := (T 104 0 4 < T 191 0 0 ∧ T 109 0 15 ≤ T 191 0 0) ∧ ∀ m, 0 ≤ m → m < T 106 0 4 → T 102 m 10 ≠ 0 → (T 103 m 14 ≠ T 103 m 16 ∧ T 103 m 14 ≠ T 104 0 4 ∧ T 103 m 14 + 1 ≠ T 109 0 15) ∧ ∀ j, 0 ≤ j → j < T 106 0 4 → T 102 j 10 ≠ 0 → j ≠ m → T 103 m 14 ≠ T 103 j 14 ∧ T 103 m 14 ≠ T 103 j 16
def RCR_ (T : Zt) : Prop := T 106 0 5 = T 111 0 47
def DAR_ (T : Zt) : Prop := ∀ m, 0 ≤ m → m < T 106 0 4 → T 102 m 5 = T 234 0 m
def MVR_ (T : Zt) : Prop := T 106 0 12 = T 111 0 75 ∧ ∀ k, 0 ≤ k → k < T 106 0 12 → T 531 0 k = T 274 0 k
def CNO_ (T : Zt) : Prop := ∀ c, 0 ≤ c → c < T 106 0 2 → T 100 c 0 = c
-- cells of the reference's match
theorem rp_35 {T : Zt} {m : Int} : rp9_ T m 103 3 = T 235 0 m := rp_v rfl rfl rfl
theorem rp_36 {T : Zt} {m : Int} : rp9_ T m 468 0 = T 236 0 m := rp_v rfl rfl rfl
theorem rp_37 {T : Zt} {m : Int} : rp9_ T m 468 1 = T 237 0 m := rp_v rfl rfl rfl
theorem rp_39 {T : Zt} {m t : Int} (h0 : 0 ≤ t) (h1 : t ≤ 1) : rp9_ T m 449 t = T 239 0 (2 * m + t) := rp_v (dm_449 ⟨h0, h1⟩) rfl rfl
theorem rp_40 {T : Zt} {m x : Int} (h0 : 0 ≤ x) (h1 : x ≤ 19) : rp9_ T m 448 x = T 240 0 (20 * m + x) := rp_v (dm_448 ⟨h0, h1⟩) rfl rfl
theorem rpe_ {T T' : Zt} {m : Int} (h : rp9_ T' m = rp9_ T m) : T' 235 0 m = T 235 0 m ∧ T' 236 0 m = T 236 0 m ∧ T' 237 0 m = T 237 0 m := by
  rw [← rp_35 (T := T'), ← rp_36 (T := T'), ← rp_37 (T := T'), h, rp_35, rp_36, rp_37]
  exact ⟨rfl, rfl, rfl⟩
-- what a match's state hangs on
def KHM_ (T T' : Zt) (m : Int) : Prop := (∀ (k : Nat) (j : Int), dk_ k j = true → T' k m j = T k m j) ∧ (T' 102 m 0 = T 102 m 0 ∧ T' 102 m 6 = T 102 m 6 ∧ T' 102 m 10 = T 102 m 10) ∧ (T' 103 m 0 = T 103 m 0 ∧ T' 103 m 14 = T 103 m 14 ∧ T' 103 m 15 = T 103 m 15 ∧ T' 103 m 17 = T 103 m 17) ∧ (∀ w, T' 401 (T 102 m 0) w = T 401 (T 102 m 0) w) ∧ (T 102 m 10 ≠ 0 → ∀ j, 0 ≤ j → j < 4 * T 103 m 15 → T' 190 (T 103 m 14) j = T 190 (T 103 m 14) j)
def KRM_ (T T' : Zt) (m : Int) : Prop := rp9_ T' m = rp9_ T m ∧ rw9_ T' m = rw9_ T m ∧ T' 254 0 m = T 254 0 m ∧ T' 256 0 m = T 256 0 m
theorem khm_t {T T1 T2 : Zt} {m : Int} (a : KHM_ T T1 m) (b : KHM_ T1 T2 m) : KHM_ T T2 m := by
  obtain ⟨a1, ⟨a2, a3, a4⟩, ⟨a5, a6, a7, a8⟩, a9, a0⟩ := a
  obtain ⟨b1, ⟨b2, b3, b4⟩, ⟨b5, b6, b7, b8⟩, b9, b0⟩ := b
  refine ⟨fun k j d => (b1 k j d).trans (a1 k j d), ⟨by omega, by omega, by omega⟩, ⟨by omega, by omega, by omega, by omega⟩, fun w => ?_, fun h j j0 j1 => ?_⟩
  · rw [a2] at b9
    exact (b9 w).trans (a9 w)
  · rw [a6] at b0
    exact (b0 (by omega) j j0 (by omega)).trans (a0 h j j0 j1)
theorem kqm_t {T T1 T2 : Zt} {m : Int} (a : KRM_ T T1 m) (b : KRM_ T1 T2 m) : KRM_ T T2 m := ⟨b.1.trans a.1, b.2.1.trans a.2.1, b.2.2.1.trans a.2.2.1, b.2.2.2.trans a.2.2.2⟩
def FRF_ : List (Nat × List Int) := [(235, []), (236, []), (237, []), (239, []), (240, []), (241, []), (242, []), (243, []), (244, []), (245, []), (246, []), (248, []), (249, []), (250, []), (251, []), (252, []), (253, []), (254, []), (256, [])]
def FHS_ : List (Nat × List Int) := [(102, [0, 6, 10]), (103, []), (448, []), (449, []), (466, []), (467, []), (468, []), (469, []), (470, []), (471, []), (472, []), (473, []), (401, []), (190, [])]
theorem kqm_s {T T' : Zt} {m : Int} (k : ks_ FRF_ T T') : KRM_ T T' m := by
  refine ⟨rp_x (fun K j c => ?_), rw_k (fun K x c => ?_) (fun x => k 252 0 x rfl) (k 253 0 m rfl) (k 254 0 m rfl), k 254 0 m rfl, k 256 0 m rfl⟩
  · rcases c with rfl | rfl | rfl | rfl | rfl | rfl | rfl | rfl | rfl | rfl | rfl <;> exact k _ 0 j rfl
  · rcases c with rfl | rfl | rfl | rfl <;> exact k _ 0 x rfl
theorem khm_s {T T' : Zt} {m : Int} (k : ks_ FHS_ T T') : KHM_ T T' m := by
  refine ⟨fun K j d => ?_, ⟨k 102 m 0 rfl, k 102 m 6 rfl, k 102 m 10 rfl⟩, ⟨k 103 m 0 rfl, k 103 m 14 rfl, k 103 m 15 rfl, k 103 m 17 rfl⟩, fun w => k 401 _ w rfl, fun _ j _ _ => k 190 _ j rfl⟩
  rcases dk_c d with rfl | rfl | rfl | rfl | rfl | rfl | rfl | rfl | rfl | rfl | ⟨rfl, _⟩ <;> exact k _ m j rfl
theorem shm_c {T T' : Zt} {m : Int} (h : SHM_ T m) (e49 : ∀ t, T' 449 m t = T 449 m t) (e48 : ∀ t, T' 448 m t = T 448 m t) (e39 : ∀ t, 0 ≤ t → t ≤ 1 → T' 239 0 (2 * m + t) = T 239 0 (2 * m + t)) (e40 : ∀ x, 0 ≤ x → x ≤ 19 → T' 240 0 (20 * m + x) = T 240 0 (20 * m + x)) : SHM_ T' m := by
  obtain ⟨h1, h2, h3⟩ := h
  refine ⟨fun t t0 t1 => ?_, fun t x t0 t1 x0 x1 => ?_, fun t x y t0 t1 x0 x1 y0 y1 e => ?_⟩
  · rw [e49, e39 t t0 t1]
    exact h1 t t0 t1
  · rw [e49] at x1
    have g := h1 t t0 t1
    rw [e48, e40 x (by omega) (by omega)]
    exact h2 t x t0 t1 x0 x1
  · rw [e49] at x1 y1
    rw [e48, e48] at e
    exact h3 t x y t0 t1 x0 x1 y0 y1 e
theorem shm_k {T T' : Zt} {m : Int} (h : SHM_ T m) (a : KHM_ T T' m) (b : KRM_ T T' m) : SHM_ T' m :=
  shm_c h (fun t => a.1 449 t rfl) (fun t => a.1 448 t rfl) (fun t t0 t1 => by rw [← rp_39 (T := T') (m := m) t0 t1, b.1, rp_39 t0 t1]) (fun x x0 x1 => by rw [← rp_40 (T := T') (m := m) x0 x1, b.1, rp_40 x0 x1])
theorem pm_k {T T' : Zt} {m : Int} (h : PM_ T m) (a : KHM_ T T' m) (b : KRM_ T T' m) : PM_ T' m := by
  obtain ⟨a1, ⟨a2, a3, a4⟩, ⟨a5, a6, a7, a8⟩, a9, a0⟩ := a
  obtain ⟨b1, b2, b3, b4⟩ := b
  obtain ⟨c35, c36, c37⟩ := rpe_ b1
  have es : rs9_ T' m = rs9_ T m := rs_n a1
  have er : ruH_ T' m = ruH_ T m := rlm_e (fun w _ _ => by
    show T' 401 (T' 102 m 0) w = T 401 (T 102 m 0) w
    rw [a2, a9])
  rcases h with h | h | h
  · refine Or.inl ?_
    unfold PAA_ at h ⊢
    omega
  · refine Or.inr (Or.inl ?_)
    unfold PBB_ at h ⊢
    rw [a2, a9]
    omega
  · obtain ⟨h1, h2, h3, ⟨n, hn, hs⟩, h5, h6, h7, h8⟩ := h
    refine Or.inr (Or.inr ⟨by omega, by omega, by omega, ⟨n, by omega, ?_⟩, ?_, fun t t0 t1 => ?_, ?_, by omega⟩)
    · rw [er, b1, es]
      exact hs
    · rw [es]
      exact h5
    · rw [a2, a9, show T' 449 m t = T 449 m t from a1 449 t rfl]
      exact h6 t t0 t1
    · rw [a6, a7, b2, ← h7]
      exact hrw_e (fun j j0 j1 => a0 h2 j j0 (by omega))
/-- one match changes -/
theorem plr_s {T T2 : Zt} {m : Int} (h : PLR_ T) (c1 : T2 106 0 4 = T 106 0 4) (c2 : T2 111 0 29 = T 111 0 29) (hm : 0 ≤ m → m < T 106 0 4 → SHM_ T2 m ∧ PM_ T2 m) (ho : ∀ j, 0 ≤ j → j < T 106 0 4 → j ≠ m → KHM_ T T2 j ∧ KRM_ T T2 j) (hz : ∀ j, T 111 0 29 ≤ j → j < 400 → T2 236 0 j = T 236 0 j ∧ T2 237 0 j = T 237 0 j) : PLR_ T2 := by
  refine ⟨fun j j0 j1 => ?_, fun j j0 j1 => ?_⟩
  · rw [c1] at j1
    by_cases z : j = m
    · rw [z]
      exact hm (by omega) (by omega)
    · have g := h.1 j j0 j1
      have k := ho j j0 j1 z
      exact ⟨shm_k g.1 k.1 k.2, pm_k g.2 k.1 k.2⟩
  · rw [c2] at j0
    have g := h.2 j j0 j1
    have k := hz j j0 j1
    omega
theorem plr_k {T T' : Zt} (h : PLR_ T) (a : ks_ FHS_ T T') (b : ks_ FRF_ T T') (c1 : T' 106 0 4 = T 106 0 4) (c2 : T' 111 0 29 = T 111 0 29) : PLR_ T' :=
  plr_s (m := -1) h c1 c2 (fun z => absurd z (by decide)) (fun _ _ _ _ => ⟨khm_s a, kqm_s b⟩) (fun j _ _ => ⟨b 236 0 j rfl, b 237 0 j rfl⟩)
theorem ldr_k {T T' : Zt} (h : LDR_ T) (e : T' 104 0 4 = T 104 0 4 ∧ T' 109 0 15 = T 109 0 15 ∧ T' 191 0 0 = T 191 0 0 ∧ T' 106 0 4 = T 106 0 4) (g : ∀ m, T' 102 m 10 = T 102 m 10 ∧ T' 103 m 14 = T 103 m 14 ∧ T' 103 m 16 = T 103 m 16) : LDR_ T' := by
  obtain ⟨e1, e2, e3, e4⟩ := e
  refine ⟨by have := h.1; omega, fun m m0 m1 mp => ?_⟩
  have gm := g m
  have y := h.2 m m0 (by omega) (by omega)
  refine ⟨by have := y.1; omega, fun j j0 j1 jp n => ?_⟩
  have gj := g j
  have w := y.2 j j0 (by omega) (by omega) n
  omega
theorem dk_n {k : Nat} {j : Int} (d : dk_ k j = true) : k ≠ 190 ∧ k ≠ 191 ∧ k ≠ 106 := by
  rcases dk_c d with y | y | y | y | y | y | y | y | y | y | ⟨y, _⟩ <;> omega
/-- the others' plays under an event or a review -/
theorem khm_o {T T1 : Zt} {N m j : Int} (hL : LDR_ T) (hl : LP_ N T) (hm : 0 ≤ m ∧ m < T 106 0 4) (hp : T 102 m 10 ≠ 0) (o : OMH_ T T1 m) (j0 : 0 ≤ j) (j1 : j < T 106 0 4) (n : j ≠ m) (e401 : ∀ i w, T1 401 i w = T 401 i w) : KHM_ T T1 j :=
  ⟨fun k i d => o.1 k j i n (dk_n d).1 (dk_n d).2.1 (dk_n d).2.2, ⟨o.1 102 j 0 n (by decide) (by decide) (by decide), o.1 102 j 6 n (by decide) (by decide) (by decide), o.1 102 j 10 n (by decide) (by decide) (by decide)⟩, ⟨o.1 103 j 0 n (by decide) (by decide) (by decide), o.1 103 j 14 n (by decide) (by decide) (by decide), o.1 103 j 15 n (by decide) (by decide) (by decide), o.1 103 j 17 n (by decide) (by decide) (by decide)⟩, fun w => e401 _ w, fun q i _ _ => o.2.1 _ i (hl j j0 j1 q).1.2.2.2.2.2.1 ((hL.2 j j0 j1 q).2 m hm.1 hm.2 hp (Ne.symm n)).1 ((hL.2 j j0 j1 q).2 m hm.1 hm.2 hp (Ne.symm n)).2⟩
theorem ldr_o {T T1 : Zt} {N m : Int} (h : LDR_ T) (hl : LP_ N T) (hm : 0 ≤ m ∧ m < T 106 0 4) (hp : T 102 m 10 ≠ 0) (o : OMH_ T T1 m) (e4 : T1 106 0 4 = T 106 0 4) (e10 : T1 102 m 10 = T 102 m 10) (e44 : T1 104 0 4 = T 104 0 4) (e15 : T1 109 0 15 = T 109 0 15) (e91 : T 191 0 0 ≤ T1 191 0 0) (one : T1 103 m 14 = T 103 m 14 ∨ T1 103 m 16 = T 103 m 16) : LDR_ T1 := by
  obtain ⟨⟨h1, h2⟩, h3⟩ := h
  obtain ⟨o1, o2, o3, o4⟩ := o
  have lo : ∀ j, 0 ≤ j → j < T 106 0 4 → T 102 j 10 ≠ 0 → T 103 j 14 < T 191 0 0 ∧ T 103 j 16 < T 191 0 0 := fun j a b c => ⟨(hl j a b c).1.2.2.2.2.2.1, (hl j a b c).1.2.2.2.2.2.2.1⟩
  have lm := lo m hm.1 hm.2 hp
  have hmm := h3 m hm.1 hm.2 hp
  have oth : ∀ j, j ≠ m → T1 102 j 10 = T 102 j 10 ∧ T1 103 j 14 = T 103 j 14 ∧ T1 103 j 16 = T 103 j 16 := fun j n => ⟨o1 102 j 10 n (by decide) (by decide) (by decide), o1 103 j 14 n (by decide) (by decide) (by decide), o1 103 j 16 n (by decide) (by decide) (by decide)⟩
  refine ⟨⟨by omega, by omega⟩, fun i i0 i1 ip => ?_⟩
  rw [e4] at i1
  by_cases z : i = m
  · rw [z]
    have g := hmm.1
    refine ⟨?_, fun j j0 j1 jp n => ?_⟩
    · rcases o3 with a | a
      · rcases o4 with b | b
        · exact ⟨fun x => g.1 (by omega), fun x => g.2.1 (by omega), fun x => g.2.2 (by omega)⟩
        · exact ⟨fun x => g.1 (by omega), fun x => g.2.1 (by omega), fun x => g.2.2 (by omega)⟩
      · rcases one with c | c
        · exact ⟨fun x => g.1 (by omega), fun x => g.2.1 (by omega), fun x => g.2.2 (by omega)⟩
        · exact ⟨fun x => g.1 (by omega), fun x => g.2.1 (by omega), fun x => g.2.2 (by omega)⟩
    · rw [e4] at j1
      have y := oth j n
      rw [y.1] at jp
      have w := lo j j0 j1 jp
      have v := hmm.2 j j0 j1 jp n
      rcases o3 with a | a
      · exact ⟨fun x => v.1 (by omega), fun x => v.2 (by omega)⟩
      · exact ⟨fun x => v.1 (by omega), fun x => v.2 (by omega)⟩
  · have y := oth i z
    rw [y.1] at ip
    have w := lo i i0 i1 ip
    have v := h3 i i0 i1 ip
    have g := v.1
    refine ⟨⟨fun x => g.1 (by omega), fun x => g.2.1 (by omega), fun x => g.2.2 (by omega)⟩, fun j j0 j1 jp n => ?_⟩
    rw [e4] at j1
    by_cases q : j = m
    · rw [q] at n ⊢
      have u := v.2 m hm.1 hm.2 hp n
      rcases o3 with a | a
      · rcases o4 with b | b
        · exact ⟨fun x => u.1 (by omega), fun x => u.2 (by omega)⟩
        · exact ⟨fun x => u.1 (by omega), fun x => u.2 (by omega)⟩
      · rcases o4 with b | b
        · exact ⟨fun x => u.1 (by omega), fun x => u.2 (by omega)⟩
        · exact ⟨fun x => u.1 (by omega), fun x => u.2 (by omega)⟩
    · have y2 := oth j q
      rw [y2.1] at jp
      have u := v.2 j j0 j1 jp n
      exact ⟨fun x => u.1 (by omega), fun x => u.2 (by omega)⟩
theorem rx_n {T : Zt} (h : RX_ T []) {m : Int} (h0 : 0 ≤ m) (h1 : m < T 111 0 29) : 0 ≤ T 254 0 m := by
  obtain ⟨L, hB, -⟩ := h
  have y : lk_ T (T 253 0 m) (L m 0) ∧ T 254 0 m = ((L m 0).length : Int) := hB.1 m 0 h0 h1 (by decide) (by decide)
  omega
theorem pcc_n {T : Zt} {m : Int} (h : PCC_ T m) (i : 0 ≤ T 103 m 15) (j : 0 ≤ T 254 0 m) : T 103 m 15 = T 254 0 m := by
  have e := congrArg List.length h.2.2.2.2.2.2.1
  rw [hrw_l, rw_n] at e
  omega
/-- one who stands on each field -/
theorem fn_t {a : Sg_} (h : FN_ a) (h3 : a 103 3 = 0) : ∀ t, 0 ≤ t → t ≤ 1 → 1 ≤ a 470 t := fun t t0 t1 => by
  have y := h h3
  rcases (by omega : t = 0 ∨ t = 1) with c | c
  · rw [c]; exact y.1
  · rw [c]; exact y.2
/-- the reference's rows and matches under an event or a review of another -/
theorem kqm_o {T1 T2 : Zt} {m j : Int} (o : OMR_ T1 T2 m) (n : j ≠ m) (j0 : 0 ≤ j) (j1 : j < T1 111 0 29) : KRM_ T1 T2 j := ⟨o.1 j n, (o.2 j n j0 j1).1, (o.2 j n j0 j1).2.1, (o.2 j n j0 j1).2.2⟩
theorem lwR_1 {r : Int → Int} {b : Sg_} {k s q o : Int} (h : b 103 3 ≠ 1) : lwR_ r b k s q o = 1 := by
  unfold lwR_
  exact cz_t h
-- the plays of both sides alike: events and reviews
/-- an event -/
theorem pl_event {T T1 T2 : Zt} {N m k s p q x1 x2 : Int} (hI : IC_ N T) (hR : IR_ T) (hb5 : T 106 0 5 ≤ 3000) (hP : PLR_ T) (hL : LDR_ T) (hC : RCR_ T) (hX : TXR_ T) (hM : MAR_ T) (i2 : IC_ (N + 1) T2) (j2 : IR_ T2) (f1 : fr_ [(106, [5]), (103, [3, 4, 5, 14, 15]), (466, []), (467, []), (468, []), (472, []), (471, []), (469, []), (470, []), (473, []), (190, []), (191, [0])] T T1) (d1 : (LP_ (N + 1) T1 ∧ lh_ T T1 ∧ T1 191 0 0 ≤ T 191 0 0 + 600) ∧ ((x1 = -2 ∧ ¬ (0 ≤ m ∧ m < T 106 0 4) ∧ T = T1) ∨ ((0 ≤ m ∧ m < T 106 0 4) ∧ ((T 102 m 10 = 0 ∧ x1 = -11 ∧ T = T1) ∨ (¬ (T 102 m 10 = 0) ∧ ((lw9_ (rlm_ (fun w => T 401 (T 103 m 0) w)) (rs9_ T m) k s p q ≠ 0 ∧ x1 = -10 - lw9_ (rlm_ (fun w => T 401 (T 103 m 0) w)) (rs9_ T m) k s p q ∧ T = T1) ∨ (lw9_ (rlm_ (fun w => T 401 (T 103 m 0) w)) (rs9_ T m) k s p q = 0 ∧ 3000 ≤ T 106 0 5 ∧ x1 = -5 ∧ T = T1) ∨ (lw9_ (rlm_ (fun w => T 401 (T 103 m 0) w)) (rs9_ T m) k s p q = 0 ∧ T 106 0 5 < 3000 ∧ T1 106 0 5 = T 106 0 5 + 1 ∧ rs9_ T1 m = ca9_ (rlm_ (fun w => T 401 (T 103 m 0) w)) (rs9_ T m) k s p q ∧ hr9_ T1 (T1 103 m 14) (T1 103 m 15).toNat = hr9_ T (T 103 m 14) (T 103 m 15).toNat ++ [(k, s, p, q)] ∧ x1 = T1 103 m 15 ∧ T1 103 m 15 = T 103 m 15 + 1 ∧ T1 103 m 17 = T 103 m 17 ∧ OMH_ T T1 m))))))) (f2 : fr_ [(111, [47]), (248, []), (249, []), (250, []), (251, []), (252, []), (253, []), (254, []), (256, []), (244, []), (241, []), (242, []), (243, []), (245, []), (246, []), (236, []), (237, []), (235, [])] T1 T2) (d2 : (FM_ T2 ∧ RX_ T2 [] ∧ ZS_ T2 ∧ GX_ T2 (-1) ∧ (∀ j, j ≠ m ∨ T1 111 0 29 ≤ j → T2 254 0 j = T1 254 0 j ∧ T2 256 0 j = T1 256 0 j) ∧ ((x2 = -2 ∧ ¬ (0 ≤ m ∧ m < T1 111 0 29) ∧ T1 = T2) ∨ ((0 ≤ m ∧ m < T1 111 0 29) ∧ ((lwR_ (rlm_ (fun w => T1 205 0 (23 * T1 230 0 m + w))) (rp9_ T1 m) k s p q ≠ 0 ∧ x2 = -10 - lwR_ (rlm_ (fun w => T1 205 0 (23 * T1 230 0 m + w))) (rp9_ T1 m) k s p q ∧ T1 = T2) ∨ (lwR_ (rlm_ (fun w => T1 205 0 (23 * T1 230 0 m + w))) (rp9_ T1 m) k s p q = 0 ∧ T1 111 0 47 = 3000 ∧ x2 = -5 ∧ T1 = T2) ∨ (lwR_ (rlm_ (fun w => T1 205 0 (23 * T1 230 0 m + w))) (rp9_ T1 m) k s p q = 0 ∧ T1 111 0 47 ≠ 3000 ∧ T2 111 0 47 = T1 111 0 47 + 1 ∧ rp9_ T2 m = plR_ (rlm_ (fun w => T1 205 0 (23 * T1 230 0 m + w))) (rp9_ T1 m) m k s p q ∧ rw9_ T2 m = rw9_ T1 m ++ [(k, s, p, q)] ∧ x2 = T2 254 0 m ∧ T2 256 0 m = T1 256 0 m ∧ OMR_ T1 T2 m)))))) : x1 = x2 ∧ PLR_ T2 ∧ LDR_ T2 ∧ RCR_ T2 := by
  have c4 : T1 106 0 4 = T 106 0 4 := f1 106 0 4 rfl
  have c29 : T1 111 0 29 = T 111 0 29 := f1 111 0 29 rfl
  have c47 : T1 111 0 47 = T 111 0 47 := f1 111 0 47 rfl
  have v4 : T2 106 0 4 = T1 106 0 4 := f2 106 0 4 rfl
  have v5 : T2 106 0 5 = T1 106 0 5 := f2 106 0 5 rfl
  have v29 : T2 111 0 29 = T1 111 0 29 := f2 111 0 29 rfl
  have mm := hM.1
  have h5 : T 106 0 5 = T 111 0 47 := hC
  have kR : ∀ j, KRM_ T T1 j := fun j => kqm_s (ks_f f1 (by decide +kernel))
  have kH : ∀ j, KHM_ T1 T2 j := fun j => khm_s (ks_f f2 (by decide +kernel))
  obtain ⟨⟨-, lh, -⟩, d1⟩ := d1
  obtain ⟨-, -, -, -, -, d2⟩ := d2
  rcases d1 with ⟨rfl, hn, rfl⟩ | ⟨hm, d1⟩
  · rcases d2 with ⟨rfl, -, rfl⟩ | ⟨hm2, -⟩
    · exact ⟨rfl, hP, hL, hC⟩
    · exfalso; omega
  · have g := hP.1 m hm.1 hm.2
    obtain ⟨-, d2⟩ := d2.resolve_left (fun z => z.2.1 (by omega))
    have hc : 0 ≤ T 102 m 0 ∧ T 102 m 0 < T 106 0 2 := (hI.1.2.1 m hm.1 hm.2).2
    have r2 : rlm_ (fun w => T1 205 0 (23 * T1 230 0 m + w)) = ruH_ T m := Eq.trans (rlm_e (fun w _ _ => by
      show T1 205 0 (23 * T1 230 0 m + w) = T 205 0 (23 * T 230 0 m + w)
      rw [f1 230 0 m rfl, f1 205 0 (23 * T 230 0 m + w) rfl])) (ru_q hX (hM.2 m hm.1 hm.2).1 hc)
    rw [r2, (kR m).1] at d2
    rcases d1 with ⟨h0, rfl, rfl⟩ | ⟨h0, d1⟩
    · have l1 : lwR_ (ruH_ T m) (rp9_ T m) k s p q = 1 := lwR_1 (by
        rw [rp_35]
        rcases g.2 with z | z | z
        · have := z.2.2.1; omega
        · have := z.2.1; omega
        · exact absurd h0 z.2.1)
      rw [l1] at d2
      rcases d2 with ⟨-, e, rfl⟩ | ⟨z, -⟩ | ⟨z, -⟩
      · exact ⟨by omega, hP, hL, hC⟩
      · exact absurd z (by decide)
      · exact absurd z (by decide)
    · have gc : PCC_ T m := by
        rcases g.2 with z | z | z
        · exact absurd z.2.1 h0
        · exact absurd z.1 h0
        · exact z
      obtain ⟨p1, p2, p3, ⟨n, pn, ps⟩, p5, p6, p7, p8⟩ := gc
      have lp := hI.2.2.2.1 m hm.1 hm.2 h0
      have l1 := lz_b lp.2.1
      have l2 := lz_b lp.2.2.1
      have l3 := lp.1
      have rb := rb_m hR.2.1 hX hc
      have r1 : rlm_ (fun w => T 401 (T 103 m 0) w) = ruH_ T m := by rw [p3]
      have el : lwR_ (ruH_ T m) (rp9_ T m) k s p q = lw9_ (ruH_ T m) (rs9_ T m) k s p q := lw_q ps.1 ps.2.1 (fun t a b => ps.2.2.2.2.2.2.2.2.2 t a b)
      rw [r1] at d1
      rw [el] at d2
      rcases d1 with ⟨a1, e1, rfl⟩ | ⟨a1, a2, e1, rfl⟩ | ⟨a1, a2, a3, a4, a5, e1, a6, a7, a8⟩
      · rcases d2 with ⟨-, e2, rfl⟩ | ⟨z, -⟩ | ⟨z, -⟩
        · exact ⟨by omega, hP, hL, hC⟩
        · exact absurd z a1
        · exact absurd z a1
      · rcases d2 with ⟨z, -⟩ | ⟨-, z, e2, rfl⟩ | ⟨-, z, -⟩
        · exact absurd a1 z
        · exact ⟨by omega, hP, hL, hC⟩
        · exfalso; omega
      · rcases d2 with ⟨z, -⟩ | ⟨-, z, -⟩ | ⟨-, b1, b2, b3, b4, e2, b5, b6⟩
        · exact absurd a1 z
        · exfalso; omega
        · have h3 := (lw_0 a1).1
          have es : rs9_ T2 m = ca9_ (ruH_ T m) (rs9_ T m) k s p q := (rs_n (kH m).1).trans a4
          have e0 : T2 102 m 0 = T 102 m 0 := (f2 102 m 0 rfl).trans (f1 102 m 0 rfl)
          have e401 : ∀ i w, T2 401 i w = T 401 i w := fun i w => (f2 401 i w rfl).trans (f1 401 i w rfl)
          have er : ruH_ T2 m = ruH_ T m := rlm_e (fun w _ _ => by
            show T2 401 (T2 102 m 0) w = T 401 (T 102 m 0) w
            rw [e0, e401])
          have q15 : T2 103 m 15 = T1 103 m 15 := f2 103 m 15 rfl
          have q17 : T2 103 m 17 = T1 103 m 17 := f2 103 m 17 rfl
          have hpc : PCC_ T2 m := by
            refine ⟨(f2 102 m 6 rfl).trans ((f1 102 m 6 rfl).trans p1), ?_, ?_, ⟨n + 3, by omega, ?_⟩, ?_, fun t t0 t1 => ?_, ?_, ?_⟩
            · rw [f2 102 m 10 rfl, f1 102 m 10 rfl]; exact p2
            · rw [f2 103 m 0 rfl, f1 103 m 0 rfl, e0]; exact p3
            · rw [er, b3, es]
              exact si_ca ps rb a1 (fn_t p5 h3) (by omega)
            · rw [es]
              exact fn_ca rb p5 a1
            · rw [e0, e401, f2 449 m t rfl, f1 449 m t rfl]
              exact p6 t t0 t1
            · rw [b4, (kR m).2.1, ← p7, ← a5, f2 103 m 14 rfl, f2 103 m 15 rfl]
              exact hrw_e (fun j _ _ => f2 190 _ j rfl)
            · rw [q17, a7, p8, b5, (kR m).2.2.2]
          have lq := (i2.2.2.2.1 m hm.1 (by omega) hpc.2.1).1
          have ln := pcc_n hpc lq.1 (rx_n j2.2.2.2.2.2.2.2.2.1 hm.1 (by omega))
          have hL1 : LDR_ T1 := ldr_o hL hI.2.2.2.1 hm h0 a8 c4 (f1 102 m 10 rfl) (f1 104 0 4 rfl) (f1 109 0 15 rfl) lh.2 (Or.inr (f1 103 m 16 rfl))
          refine ⟨by omega, plr_s (m := m) hP (by omega) (by omega) (fun _ _ => ⟨shm_c g.1 (fun t => (f2 449 m t rfl).trans (f1 449 m t rfl)) (fun t => (f2 448 m t rfl).trans (f1 448 m t rfl)) (fun t _ _ => (f2 239 0 _ rfl).trans (f1 239 0 _ rfl)) (fun x _ _ => (f2 240 0 _ rfl).trans (f1 240 0 _ rfl)), Or.inr (Or.inr hpc)⟩) (fun j j0 j1 nj => ⟨khm_t (khm_o hL hI.2.2.2.1 hm h0 a8 j0 j1 nj (fun i w => f1 401 i w rfl)) (kH j), kqm_t (kR j) (kqm_o b6 nj j0 (by omega))⟩) (fun j j0 j1 => ?_), ldr_k hL1 ⟨f2 104 0 4 rfl, f2 109 0 15 rfl, f2 191 0 0 rfl, v4⟩ (fun i => ⟨f2 102 i 10 rfl, f2 103 i 14 rfl, f2 103 i 16 rfl⟩), ?_⟩
          · have y := rpe_ (b6.1 j (by omega))
            have y1 : T1 236 0 j = T 236 0 j := f1 236 0 j rfl
            have y2 : T1 237 0 j = T 237 0 j := f1 237 0 j rfl
            omega
          · show T2 106 0 5 = T2 111 0 47
            omega
/-- each row of a run is kept or put aside -/
theorem rn_len {r : Int → Int} : ∀ (l : List Rw_) (x : Rz_), ((l.foldl (stH_ r) x).2.1.length : Int) + (l.foldl (stH_ r) x).2.2 = (x.2.1.length : Int) + x.2.2 + (l.length : Int)
  | [], x => by
    show (x.2.1.length : Int) + x.2.2 = (x.2.1.length : Int) + x.2.2 + ((0 : Nat) : Int)
    omega
  | (k, s, q, o) :: l, x => by
    have h := rn_len (r := r) l (stH_ r x (k, s, q, o))
    show ((l.foldl (stH_ r) (stH_ r x (k, s, q, o))).2.1.length : Int) + (l.foldl (stH_ r) (stH_ r x (k, s, q, o))).2.2 = (x.2.1.length : Int) + x.2.2 + ((l.length + 1 : Nat) : Int)
    have e : ((stH_ r x (k, s, q, o)).2.1.length : Int) + (stH_ r x (k, s, q, o)).2.2 = (x.2.1.length : Int) + x.2.2 + 1 := by
      by_cases z : lw9_ r x.1 k s q o = 0
      · rw [stH_t z]
        show ((x.2.1 ++ [(k, s, q, o)]).length : Int) + x.2.2 = (x.2.1.length : Int) + x.2.2 + 1
        rw [List.length_append]
        show ((x.2.1.length + 1 : Nat) : Int) + x.2.2 = _
        omega
      · rw [stH_f z]
        show (x.2.1.length : Int) + (x.2.2 + 1) = _
        omega
    omega
theorem rn_lh {r : Int → Int} {a : Sg_} {l : List Rw_} : ((rnH_ r a l).2.1.length : Int) + (rnH_ r a l).2.2 = (l.length : Int) := by
  have h := rn_len (r := r) l (a, [], 0)
  have e : ((a, ([] : List Rw_), (0 : Int)) : Rz_).2.1.length = 0 := rfl
  have e2 : ((a, ([] : List Rw_), (0 : Int)) : Rz_).2.2 = 0 := rfl
  rw [e, e2] at h
  unfold rnH_
  omega
/-- a play run anew -/
theorem pl_run {T T1 T2 : Zt} {N m x1 x2 : Int} {l : List Rw_} (hpc : PCC_ T m) (rb : RB9_ (ruH_ T m)) (hl : l.length ≤ 3000) (h17 : 0 ≤ T 103 m 17) (kR : KRM_ T T1 m) (kH : KHM_ T1 T2 m) (e16 : T1 102 m 6 = T 102 m 6 ∧ T1 102 m 10 = T 102 m 10 ∧ T1 102 m 0 = T 102 m 0 ∧ T1 103 m 0 = T 103 m 0) (e401 : ∀ i w, T1 401 i w = T 401 i w) (e449 : ∀ t, T1 449 m t = T 449 m t) (f190 : ∀ i j, T2 190 i j = T1 190 i j) (h15 : 0 ≤ T2 103 m 15) (a : RNH_ (ruH_ T m) m x1 T T1 l) (b : RNR_ (ruH_ T m) m x2 T1 T2 l) : x1 = x2 ∧ PCC_ T2 m := by
  obtain ⟨p1, p2, p3, ⟨n, pn, ps⟩, p5, p6, p7, p8⟩ := hpc
  obtain ⟨a1, a2, a3, a4⟩ := a
  obtain ⟨bb, b0, b1, b2, b3, b4⟩ := b
  obtain ⟨k1, ⟨k2, k3, k4⟩, ⟨k5, k6, k7, k8⟩, k9, k0⟩ := kH
  obtain ⟨e1, e2, e3, e4⟩ := e16
  rw [kR.1] at b0
  have ws := ps.2.1
  have eq := ps.1
  have g9 : ruH_ T m 9 = T 401 (T 102 m 0) 9 := rlm_v (f := fun w => T 401 (T 102 m 0) w) (by decide) (by decide)
  have r49 : ∀ t, rs9_ T m 449 t = T 449 m t := fun t => rs_d rfl
  have sb := si_bg (m := m) (r := ruH_ T m) (a0 := rp9_ T m) (b := bb) (a := rs9_ T m) rb (fun t t0 t1 => by
      have y := ws.1 t t0 t1
      have z := p6 t t0 t1
      rw [g9]
      rw [r49] at y ⊢
      omega) ws.2.2.2.2 (fun t t0 t1 => (eq_j eq t0 t1).1) (fun t x t0 t1 x0 x1 => (eq.2.2.2.2 t x t0 t1 x0 x1).1) b0
  have rn := rn_q (m := m) (l := l) rb sb.1 sb.2 (by omega)
  have es : rs9_ T2 m = (rnH_ (ruH_ T m) (bb9_ (ruH_ T m) (rs9_ T m)) l).1 := (rs_n k1).trans a1
  have e5 : x1 = x2 := by rw [a3, b3, rn.2.2]
  have e0 : T2 102 m 0 = T 102 m 0 := by omega
  have e41 : ∀ w, T2 401 (T 102 m 0) w = T 401 (T 102 m 0) w := fun w => by
    rw [e3] at k9
    exact (k9 w).trans (e401 _ w)
  have er : ruH_ T2 m = ruH_ T m := rlm_e (fun w _ _ => by
    show T2 401 (T2 102 m 0) w = T 401 (T 102 m 0) w
    rw [e0, e41])
  have ll := congrArg List.length a2
  rw [hrw_l] at ll
  have lr := rn_lh (r := ruH_ T m) (a := bb9_ (ruH_ T m) (rs9_ T m)) (l := l)
  refine ⟨e5, by omega, by omega, by omega, ⟨3 * (l.length : Int), by omega, ?_⟩, ?_, fun t t0 t1 => ?_, ?_, ?_⟩
  · rw [er, b1, es]
    exact rn.1
  · rw [es]
    exact rn.2.1
  · rw [e0, e41, show T2 449 m t = T 449 m t from (k1 449 t rfl).trans (e449 t)]
    exact p6 t t0 t1
  · rw [b2, rn.2.2, ← a2, k6, k7]
    exact hrw_e (fun j _ _ => f190 _ j)
  · rw [k8, a4, b4, kR.2.2.2, p8, e5]
/-- kinds and sides, told by both -/
theorem ev_kk {r k s : Int} : ((k = 0 ∨ (0 ≤ s ∧ s ≤ 1)) ∧ ((r = 0 ∧ 0 ≤ k ∧ k ≤ 5) ∨ (r = 1 ∧ (k = 1 ∨ k = 5)) ∨ (r = 2 ∧ (k = 1 ∨ k = 6)) ∨ (¬ r = 0 ∧ ¬ r = 1 ∧ ¬ r = 2 ∧ 1 ≤ k ∧ k ≤ 4))) ↔ (((r = 0 ∧ 0 ≤ k ∧ k ≤ 5) ∨ (r = 1 ∧ (k = 1 ∨ k = 5)) ∨ (r = 2 ∧ (k = 1 ∨ k = 6)) ∨ (¬ r = 0 ∧ ¬ r = 1 ∧ ¬ r = 2 ∧ 1 ≤ k ∧ k ≤ 4)) ∧ ((r = 0 ∧ k = 0) ∨ (0 ≤ s ∧ s ≤ 1))) := by
  constructor
  · rintro ⟨a, b⟩
    refine ⟨b, ?_⟩
    rcases a with a | a
    · refine Or.inl ⟨?_, a⟩
      rcases b with b | b | b | b
      · exact b.1
      · omega
      · omega
      · omega
    · exact Or.inr a
  · rintro ⟨b, a⟩
    refine ⟨?_, b⟩
    rcases a with a | a
    · exact Or.inl a.2
    · exact Or.inr a
/-- a review -/
theorem pl_review {T T1 T2 : Zt} {N m i k s p q x1 x2 : Int} (hI : IC_ N T) (hR : IR_ T) (hP : PLR_ T) (hL : LDR_ T) (hC : RCR_ T) (hX : TXR_ T) (hM : MAR_ T) (i2 : IC_ (N + 1) T2) (j2 : IR_ T2) (f1 : fr_ [(103, [3, 4, 5, 15, 16, 17]), (466, []), (467, []), (468, []), (469, []), (472, []), (473, []), (470, []), (471, []), (190, []), (191, [0])] T T1) (d1 : (LP_ (N + 1) T1 ∧ lh_ T T1 ∧ T1 191 0 0 ≤ T 191 0 0 + 600) ∧ ((x1 = -2 ∧ ¬ ((0 ≤ m ∧ m < T 106 0 4) ∧ ¬ (T 102 m 10 = 0) ∧ 0 ≤ i ∧ i < T 103 m 15) ∧ T = T1) ∨ (((0 ≤ m ∧ m < T 106 0 4) ∧ ¬ (T 102 m 10 = 0) ∧ 0 ≤ i ∧ i < T 103 m 15) ∧ OMH_ T T1 m ∧ ((k = -1 ∧ RNH_ (rlm_ (fun w => T 401 (T 103 m 0) w)) m x1 T T1 ((hr9_ T (T 103 m 14) (T 103 m 15).toNat).eraseIdx i.toNat)) ∨ (k ≠ -1 ∧ ((¬ ((k = 0 ∨ (0 ≤ s ∧ s ≤ 1)) ∧ (((rlm_ (fun w => T 401 (T 103 m 0) w)) 0 = 0 ∧ 0 ≤ k ∧ k ≤ 5) ∨ ((rlm_ (fun w => T 401 (T 103 m 0) w)) 0 = 1 ∧ (k = 1 ∨ k = 5)) ∨ ((rlm_ (fun w => T 401 (T 103 m 0) w)) 0 = 2 ∧ (k = 1 ∨ k = 6)) ∨ (¬ (rlm_ (fun w => T 401 (T 103 m 0) w)) 0 = 0 ∧ ¬ (rlm_ (fun w => T 401 (T 103 m 0) w)) 0 = 1 ∧ ¬ (rlm_ (fun w => T 401 (T 103 m 0) w)) 0 = 2 ∧ 1 ≤ k ∧ k ≤ 4))) ∧ x1 = -12 ∧ T = T1) ∨ (((k = 0 ∨ (0 ≤ s ∧ s ≤ 1)) ∧ (((rlm_ (fun w => T 401 (T 103 m 0) w)) 0 = 0 ∧ 0 ≤ k ∧ k ≤ 5) ∨ ((rlm_ (fun w => T 401 (T 103 m 0) w)) 0 = 1 ∧ (k = 1 ∨ k = 5)) ∨ ((rlm_ (fun w => T 401 (T 103 m 0) w)) 0 = 2 ∧ (k = 1 ∨ k = 6)) ∨ (¬ (rlm_ (fun w => T 401 (T 103 m 0) w)) 0 = 0 ∧ ¬ (rlm_ (fun w => T 401 (T 103 m 0) w)) 0 = 1 ∧ ¬ (rlm_ (fun w => T 401 (T 103 m 0) w)) 0 = 2 ∧ 1 ≤ k ∧ k ≤ 4))) ∧ ¬ ((rlm_ (fun w => T 401 (T 103 m 0) w)) 0 ≠ 3 ∨ k ≠ 1 ∨ (1 ≤ q ∧ q ≤ 4)) ∧ x1 = -17 ∧ T = T1) ∨ (((k = 0 ∨ (0 ≤ s ∧ s ≤ 1)) ∧ (((rlm_ (fun w => T 401 (T 103 m 0) w)) 0 = 0 ∧ 0 ≤ k ∧ k ≤ 5) ∨ ((rlm_ (fun w => T 401 (T 103 m 0) w)) 0 = 1 ∧ (k = 1 ∨ k = 5)) ∨ ((rlm_ (fun w => T 401 (T 103 m 0) w)) 0 = 2 ∧ (k = 1 ∨ k = 6)) ∨ (¬ (rlm_ (fun w => T 401 (T 103 m 0) w)) 0 = 0 ∧ ¬ (rlm_ (fun w => T 401 (T 103 m 0) w)) 0 = 1 ∧ ¬ (rlm_ (fun w => T 401 (T 103 m 0) w)) 0 = 2 ∧ 1 ≤ k ∧ k ≤ 4))) ∧ ((rlm_ (fun w => T 401 (T 103 m 0) w)) 0 ≠ 3 ∨ k ≠ 1 ∨ (1 ≤ q ∧ q ≤ 4)) ∧ (hr9_ T (T 103 m 14) (T 103 m 15).toNat)[i.toNat]? = some (k, s, p, q) ∧ x1 = -20 ∧ T = T1) ∨ (((k = 0 ∨ (0 ≤ s ∧ s ≤ 1)) ∧ (((rlm_ (fun w => T 401 (T 103 m 0) w)) 0 = 0 ∧ 0 ≤ k ∧ k ≤ 5) ∨ ((rlm_ (fun w => T 401 (T 103 m 0) w)) 0 = 1 ∧ (k = 1 ∨ k = 5)) ∨ ((rlm_ (fun w => T 401 (T 103 m 0) w)) 0 = 2 ∧ (k = 1 ∨ k = 6)) ∨ (¬ (rlm_ (fun w => T 401 (T 103 m 0) w)) 0 = 0 ∧ ¬ (rlm_ (fun w => T 401 (T 103 m 0) w)) 0 = 1 ∧ ¬ (rlm_ (fun w => T 401 (T 103 m 0) w)) 0 = 2 ∧ 1 ≤ k ∧ k ≤ 4))) ∧ ((rlm_ (fun w => T 401 (T 103 m 0) w)) 0 ≠ 3 ∨ k ≠ 1 ∨ (1 ≤ q ∧ q ≤ 4)) ∧ ¬ ((hr9_ T (T 103 m 14) (T 103 m 15).toNat)[i.toNat]? = some (k, s, p, q)) ∧ RNH_ (rlm_ (fun w => T 401 (T 103 m 0) w)) m x1 T T1 ((hr9_ T (T 103 m 14) (T 103 m 15).toNat).set i.toNat (k, s, p, q))))))))) (f2 : fr_ [(252, []), (253, []), (255, []), (254, []), (256, []), (244, []), (241, []), (242, []), (243, []), (245, []), (246, []), (236, []), (237, []), (235, []), (248, []), (249, []), (250, []), (251, [])] T1 T2) (d2 : (FM_ T2 ∧ RX_ T2 [] ∧ ZS_ T2 ∧ GX_ T2 (-1) ∧ (∀ j, j ≠ m ∨ T1 111 0 29 ≤ j → T2 254 0 j = T1 254 0 j ∧ T2 256 0 j = T1 256 0 j) ∧ ((x2 = -2 ∧ ¬ ((0 ≤ m ∧ m < T1 111 0 29) ∧ 0 ≤ i ∧ i < T1 254 0 m) ∧ T1 = T2) ∨ (((0 ≤ m ∧ m < T1 111 0 29) ∧ 0 ≤ i ∧ i < T1 254 0 m) ∧ OMR_ T1 T2 m ∧ ((k = -1 ∧ RNR_ (rlm_ (fun w => T1 205 0 (23 * T1 230 0 m + w))) m x2 T1 T2 ((rw9_ T1 m).eraseIdx i.toNat)) ∨ (k ≠ -1 ∧ ((¬ ((((rlm_ (fun w => T1 205 0 (23 * T1 230 0 m + w))) 0 = 0 ∧ 0 ≤ k ∧ k ≤ 5) ∨ ((rlm_ (fun w => T1 205 0 (23 * T1 230 0 m + w))) 0 = 1 ∧ (k = 1 ∨ k = 5)) ∨ ((rlm_ (fun w => T1 205 0 (23 * T1 230 0 m + w))) 0 = 2 ∧ (k = 1 ∨ k = 6)) ∨ (¬ (rlm_ (fun w => T1 205 0 (23 * T1 230 0 m + w))) 0 = 0 ∧ ¬ (rlm_ (fun w => T1 205 0 (23 * T1 230 0 m + w))) 0 = 1 ∧ ¬ (rlm_ (fun w => T1 205 0 (23 * T1 230 0 m + w))) 0 = 2 ∧ 1 ≤ k ∧ k ≤ 4)) ∧ (((rlm_ (fun w => T1 205 0 (23 * T1 230 0 m + w))) 0 = 0 ∧ k = 0) ∨ (0 ≤ s ∧ s ≤ 1))) ∧ x2 = -12 ∧ T1 = T2) ∨ (((((rlm_ (fun w => T1 205 0 (23 * T1 230 0 m + w))) 0 = 0 ∧ 0 ≤ k ∧ k ≤ 5) ∨ ((rlm_ (fun w => T1 205 0 (23 * T1 230 0 m + w))) 0 = 1 ∧ (k = 1 ∨ k = 5)) ∨ ((rlm_ (fun w => T1 205 0 (23 * T1 230 0 m + w))) 0 = 2 ∧ (k = 1 ∨ k = 6)) ∨ (¬ (rlm_ (fun w => T1 205 0 (23 * T1 230 0 m + w))) 0 = 0 ∧ ¬ (rlm_ (fun w => T1 205 0 (23 * T1 230 0 m + w))) 0 = 1 ∧ ¬ (rlm_ (fun w => T1 205 0 (23 * T1 230 0 m + w))) 0 = 2 ∧ 1 ≤ k ∧ k ≤ 4)) ∧ (((rlm_ (fun w => T1 205 0 (23 * T1 230 0 m + w))) 0 = 0 ∧ k = 0) ∨ (0 ≤ s ∧ s ≤ 1))) ∧ ¬ ((rlm_ (fun w => T1 205 0 (23 * T1 230 0 m + w))) 0 ≠ 3 ∨ k ≠ 1 ∨ (1 ≤ q ∧ q ≤ 4)) ∧ x2 = -17 ∧ T1 = T2) ∨ (((((rlm_ (fun w => T1 205 0 (23 * T1 230 0 m + w))) 0 = 0 ∧ 0 ≤ k ∧ k ≤ 5) ∨ ((rlm_ (fun w => T1 205 0 (23 * T1 230 0 m + w))) 0 = 1 ∧ (k = 1 ∨ k = 5)) ∨ ((rlm_ (fun w => T1 205 0 (23 * T1 230 0 m + w))) 0 = 2 ∧ (k = 1 ∨ k = 6)) ∨ (¬ (rlm_ (fun w => T1 205 0 (23 * T1 230 0 m + w))) 0 = 0 ∧ ¬ (rlm_ (fun w => T1 205 0 (23 * T1 230 0 m + w))) 0 = 1 ∧ ¬ (rlm_ (fun w => T1 205 0 (23 * T1 230 0 m + w))) 0 = 2 ∧ 1 ≤ k ∧ k ≤ 4)) ∧ (((rlm_ (fun w => T1 205 0 (23 * T1 230 0 m + w))) 0 = 0 ∧ k = 0) ∨ (0 ≤ s ∧ s ≤ 1))) ∧ ((rlm_ (fun w => T1 205 0 (23 * T1 230 0 m + w))) 0 ≠ 3 ∨ k ≠ 1 ∨ (1 ≤ q ∧ q ≤ 4)) ∧ (rw9_ T1 m)[i.toNat]? = some (k, s, p, q) ∧ x2 = -20 ∧ T1 = T2) ∨ (((((rlm_ (fun w => T1 205 0 (23 * T1 230 0 m + w))) 0 = 0 ∧ 0 ≤ k ∧ k ≤ 5) ∨ ((rlm_ (fun w => T1 205 0 (23 * T1 230 0 m + w))) 0 = 1 ∧ (k = 1 ∨ k = 5)) ∨ ((rlm_ (fun w => T1 205 0 (23 * T1 230 0 m + w))) 0 = 2 ∧ (k = 1 ∨ k = 6)) ∨ (¬ (rlm_ (fun w => T1 205 0 (23 * T1 230 0 m + w))) 0 = 0 ∧ ¬ (rlm_ (fun w => T1 205 0 (23 * T1 230 0 m + w))) 0 = 1 ∧ ¬ (rlm_ (fun w => T1 205 0 (23 * T1 230 0 m + w))) 0 = 2 ∧ 1 ≤ k ∧ k ≤ 4)) ∧ (((rlm_ (fun w => T1 205 0 (23 * T1 230 0 m + w))) 0 = 0 ∧ k = 0) ∨ (0 ≤ s ∧ s ≤ 1))) ∧ ((rlm_ (fun w => T1 205 0 (23 * T1 230 0 m + w))) 0 ≠ 3 ∨ k ≠ 1 ∨ (1 ≤ q ∧ q ≤ 4)) ∧ ¬ ((rw9_ T1 m)[i.toNat]? = some (k, s, p, q)) ∧ RNR_ (rlm_ (fun w => T1 205 0 (23 * T1 230 0 m + w))) m x2 T1 T2 ((rw9_ T1 m).set i.toNat (k, s, p, q)))))))))) : x1 = x2 ∧ PLR_ T2 ∧ LDR_ T2 ∧ RCR_ T2 := by
  have c4 : T1 106 0 4 = T 106 0 4 := f1 106 0 4 rfl
  have c29 : T1 111 0 29 = T 111 0 29 := f1 111 0 29 rfl
  have v4 : T2 106 0 4 = T1 106 0 4 := f2 106 0 4 rfl
  have v29 : T2 111 0 29 = T1 111 0 29 := f2 111 0 29 rfl
  have mm := hM.1
  have kR : ∀ j, KRM_ T T1 j := fun j => kqm_s (ks_f f1 (by decide +kernel))
  have kH : ∀ j, KHM_ T1 T2 j := fun j => khm_s (ks_f f2 (by decide +kernel))
  have hC2 : RCR_ T2 := by
    show T2 106 0 5 = T2 111 0 47
    rw [f2 106 0 5 rfl, f1 106 0 5 rfl, f2 111 0 47 rfl, f1 111 0 47 rfl]
    exact hC
  obtain ⟨⟨-, lh, -⟩, d1⟩ := d1
  obtain ⟨-, -, -, -, -, d2⟩ := d2
  have n54 : ∀ j, 0 ≤ j → j < T 106 0 4 → (T 102 j 10 = 0 → T 254 0 j = 0) ∧ (T 102 j 10 ≠ 0 → T 103 j 15 = T 254 0 j ∧ PCC_ T j) := fun j j0 j1 => by
    rcases (hP.1 j j0 j1).2 with z | z | z
    · exact ⟨fun _ => z.2.2.2.2.2.1, fun y => absurd z.2.1 y⟩
    · exact ⟨fun _ => z.2.2.2.1, fun y => absurd z.1 y⟩
    · exact ⟨fun y => absurd y z.2.1, fun y => ⟨pcc_n z (hI.2.2.2.1 j j0 j1 y).1.1 (rx_n hR.2.2.2.2.2.2.2.2.1 j0 (by omega)), z⟩⟩
  have q54 : T1 254 0 m = T 254 0 m := (kR m).2.2.1
  rcases d1 with ⟨rfl, hn, rfl⟩ | ⟨⟨hm, h0, hi0, hi1⟩, oh, d1⟩
  · rcases d2 with ⟨rfl, -, rfl⟩ | ⟨⟨hm2, hj0, hj1⟩, -⟩
    · exact ⟨rfl, hP, hL, hC⟩
    · exfalso
      have y := n54 m hm2.1 (by omega)
      by_cases z : T 102 m 10 = 0
      · have := y.1 z; omega
      · have := (y.2 z).1; exact hn ⟨by omega, z, hj0, by omega⟩
  · have y := (n54 m hm.1 hm.2).2 h0
    have hpc := y.2
    have hm2 : 0 ≤ m ∧ m < T1 111 0 29 := by clear d1 d2; omega
    obtain ⟨-, orr, d2⟩ := d2.resolve_left (fun z => z.2.1 ⟨hm2, hi0, by have := y.1; clear d1 d2 z; omega⟩)
    have hc : 0 ≤ T 102 m 0 ∧ T 102 m 0 < T 106 0 2 := (hI.1.2.1 m hm.1 hm.2).2
    have rb := rb_m hR.2.1 hX hc
    have r2 : rlm_ (fun w => T1 205 0 (23 * T1 230 0 m + w)) = ruH_ T m := Eq.trans (rlm_e (fun w _ _ => by
      show T1 205 0 (23 * T1 230 0 m + w) = T 205 0 (23 * T 230 0 m + w)
      rw [f1 230 0 m rfl, f1 205 0 (23 * T 230 0 m + w) rfl])) (ru_q hX (hM.2 m hm.1 hm.2).1 hc)
    have r1 : rlm_ (fun w => T 401 (T 103 m 0) w) = ruH_ T m := by rw [hpc.2.2.1]
    rw [r1, hpc.2.2.2.2.2.2.1] at d1
    rw [r2, (kR m).2.1] at d2
    have lp := hI.2.2.2.1 m hm.1 hm.2 h0
    have l1 := lz_b lp.2.1
    have l3 := lp.1
    have lw : (rw9_ T m).length ≤ 2000 := by
      clear d1 d2
      rw [rw_n]
      omega
    have go : ∀ l : List Rw_, l.length ≤ 3000 → RNH_ (ruH_ T m) m x1 T T1 l → RNR_ (ruH_ T m) m x2 T1 T2 l → x1 = x2 ∧ PLR_ T2 ∧ LDR_ T2 ∧ RCR_ T2 := fun l hl a b => by
      clear d1 d2
      have e10 : T2 102 m 10 ≠ 0 := by
        rw [f2 102 m 10 rfl, f1 102 m 10 rfl]
        exact h0
      have lq := (i2.2.2.2.1 m hm.1 (by omega) e10).1
      have pr := pl_run (N := N) hpc rb hl l3.2.1 (kR m) (kH m) ⟨f1 102 m 6 rfl, f1 102 m 10 rfl, f1 102 m 0 rfl, f1 103 m 0 rfl⟩ (fun i w => f1 401 i w rfl) (fun t => f1 449 m t rfl) (fun i j => f2 190 i j rfl) lq.1 a b
      have hL1 : LDR_ T1 := ldr_o hL hI.2.2.2.1 hm h0 oh c4 (f1 102 m 10 rfl) (f1 104 0 4 rfl) (f1 109 0 15 rfl) lh.2 (Or.inl (f1 103 m 14 rfl))
      refine ⟨pr.1, plr_s (m := m) hP (by omega) (by omega) (fun _ _ => ⟨shm_c (hP.1 m hm.1 hm.2).1 (fun t => (f2 449 m t rfl).trans (f1 449 m t rfl)) (fun t => (f2 448 m t rfl).trans (f1 448 m t rfl)) (fun t _ _ => (f2 239 0 _ rfl).trans (f1 239 0 _ rfl)) (fun x _ _ => (f2 240 0 _ rfl).trans (f1 240 0 _ rfl)), Or.inr (Or.inr pr.2)⟩) (fun j j0 j1 nj => ⟨khm_t (khm_o hL hI.2.2.2.1 hm h0 oh j0 j1 nj (fun i w => f1 401 i w rfl)) (kH j), kqm_t (kR j) (kqm_o orr nj j0 (by omega))⟩) (fun j j0 j1 => ?_), ldr_k hL1 ⟨f2 104 0 4 rfl, f2 109 0 15 rfl, f2 191 0 0 rfl, v4⟩ (fun i => ⟨f2 102 i 10 rfl, f2 103 i 14 rfl, f2 103 i 16 rfl⟩), hC2⟩
      have w := rpe_ (orr.1 j (by omega))
      have y1 : T1 236 0 j = T 236 0 j := f1 236 0 j rfl
      have y2 : T1 237 0 j = T 237 0 j := f1 237 0 j rfl
      omega
    rcases d1 with ⟨a0, a1⟩ | ⟨a0, d1⟩
    · rcases d2 with ⟨-, b1⟩ | ⟨b0, -⟩
      · exact go _ (by have := List.length_eraseIdx_le (rw9_ T m) i.toNat; clear d2; omega) a1 b1
      · exact absurd a0 b0
    · obtain ⟨-, d2⟩ := d2.resolve_left (fun z => a0 z.1)
      rcases d1 with ⟨a1, e1, rfl⟩ | ⟨a1, a2, e1, rfl⟩ | ⟨a1, a2, a3, e1, rfl⟩ | ⟨a1, a2, a3, a4⟩
      · rcases d2 with ⟨-, e2, rfl⟩ | ⟨z, -⟩ | ⟨z, -⟩ | ⟨z, -⟩
        · exact ⟨e1.trans e2.symm, hP, hL, hC⟩
        · exact absurd (ev_kk.mpr z) a1
        · exact absurd (ev_kk.mpr z) a1
        · exact absurd (ev_kk.mpr z) a1
      · rcases d2 with ⟨z, -⟩ | ⟨-, -, e2, rfl⟩ | ⟨-, z, -⟩ | ⟨-, z, -⟩
        · exact absurd (ev_kk.mp a1) z
        · exact ⟨e1.trans e2.symm, hP, hL, hC⟩
        · exact absurd z a2
        · exact absurd z a2
      · rcases d2 with ⟨z, -⟩ | ⟨-, z, -⟩ | ⟨-, -, -, e2, rfl⟩ | ⟨-, -, z, -⟩
        · exact absurd (ev_kk.mp a1) z
        · exact absurd a2 z
        · exact ⟨e1.trans e2.symm, hP, hL, hC⟩
        · exact absurd a3 z
      · rcases d2 with ⟨z, -⟩ | ⟨-, z, -⟩ | ⟨-, -, z, -⟩ | ⟨-, -, -, b4⟩
        · exact absurd (ev_kk.mp a1) z
        · exact absurd a2 z
        · exact absurd z a3
        · exact go _ (by rw [List.length_set]; exact Nat.le_trans lw (by decide)) a4 b4
theorem rw_0 {T : Zt} {m : Int} (h : T 254 0 m = 0) : rw9_ T m = [] := List.eq_nil_of_length_eq_zero (by rw [rw_n, h]; rfl)
/-- whether a match is told only -/
theorem pm_0 {T : Zt} {m : Int} (h : PM_ T m) : (T 102 m 6 = -1 ∧ T 102 m 10 = 0) ↔ T 235 0 m = 0 := by
  rcases h with z | z | z
  · exact ⟨fun _ => z.2.2.1, fun _ => ⟨z.1, z.2.1⟩⟩
  · have y := z.2.2.1
    have w := z.2.1
    constructor
    · intro u; omega
    · intro u; omega
  · have y := z.2.2.2.1
    obtain ⟨n, -, ps⟩ := y
    have e := ps.1.2.2.1.2.2
    rw [rp_35] at e
    have u := z.2.1
    constructor
    · intro v; omega
    · intro v; omega
theorem pm_3 {T : Zt} {m : Int} (h : PM_ T m) : T 102 m 6 = -1 ↔ T 235 0 m ≠ 3 := by
  rcases h with z | z | z
  · have y := z.2.2.1
    have w := z.1
    constructor
    · intro u; omega
    · intro u; omega
  · have y := z.2.2.1
    have w := z.2.1
    constructor
    · intro u; omega
    · intro u; omega
  · obtain ⟨n, -, ps⟩ := z.2.2.2.1
    have e := ps.1.2.2.1.2.2
    rw [rp_35] at e
    have u := z.1
    constructor
    · intro v; omega
    · intro v; omega
/-- a start -/
theorem pl_start {T T1 T2 : Zt} {N m x1 x2 : Int} (hI : IC_ N T) (hR : IR_ T) (hP : PLR_ T) (hL : LDR_ T) (hX : TXR_ T) (hM : MAR_ T) (hD : DAR_ T) (hN : CNR_ T) (f1 : fr_ [(153, []), (103, []), (102, [10]), (466, []), (467, []), (468, []), (469, []), (470, []), (471, []), (472, []), (473, []), (190, []), (191, [0])] T T1) (d1 : (LP_ N T1 ∧ lh_ T T1 ∧ T1 191 0 0 ≤ T 191 0 0 + 600 ∧ NA_ T1 ∧ ∀ k i j, i ≠ m → k ≠ 190 → k ≠ 191 → T1 k i j = T k i j) ∧ ((x1 = -2 ∧ ¬ (0 ≤ m ∧ m < T 106 0 4) ∧ T = T1) ∨ ((0 ≤ m ∧ m < T 106 0 4) ∧ ((x1 = -4 ∧ ¬ ((T 102 m 6 = -1 ∧ T 102 m 10 = 0) ∧ T 102 m 5 = T 108 0 13 ∧ T 401 (T 102 m 0) 9 ≤ T 449 m 0 ∧ T 401 (T 102 m 0) 9 ≤ T 449 m 1) ∧ T = T1) ∨ (x1 = 1 ∧ ((T 102 m 6 = -1 ∧ T 102 m 10 = 0) ∧ T 102 m 5 = T 108 0 13 ∧ T 401 (T 102 m 0) 9 ≤ T 449 m 0 ∧ T 401 (T 102 m 0) 9 ≤ T 449 m 1) ∧ T1 102 m 10 ≠ 0 ∧ T1 103 m 0 = T 102 m 0 ∧ (∃ z : Sg_, (∀ (k : Nat) (j : Int), k = 448 ∨ k = 449 → z k j = rs9_ T m k j) ∧ rs9_ T1 m = bb9_ (rlm_ (fun w => T 401 (T 102 m 0) w)) z) ∧ T1 103 m 14 = T 191 0 0 ∧ T1 103 m 16 = T 191 0 0 + 1 ∧ T1 103 m 15 = 0 ∧ T1 103 m 17 = 0 ∧ (∀ x1 j, x1 < T 191 0 0 → T1 190 x1 j = T 190 x1 j) ∧ ∀ k i j, i ≠ m → k ≠ 190 → k ≠ 191 → T1 k i j = T k i j))))) (f2 : fr_ [(244, []), (241, []), (242, []), (243, []), (245, []), (246, []), (236, []), (237, []), (235, [])] T1 T2) (d2 : ((FM_ T2 ∧ ZS_ T2 ∧ GX_ T2 (-1)) ∧ ((x2 = -2 ∧ ¬ (0 ≤ m ∧ m < T1 111 0 29) ∧ T1 = T2) ∨ ((0 ≤ m ∧ m < T1 111 0 29) ∧ ((x2 = -4 ∧ ¬ (T1 235 0 m = 0 ∧ T1 234 0 m = T1 111 0 3 ∧ T1 205 0 (23 * T1 230 0 m + 9) ≤ T1 239 0 (2 * m) ∧ T1 205 0 (23 * T1 230 0 m + 9) ≤ T1 239 0 (2 * m + 1)) ∧ T1 = T2) ∨ (x2 = 1 ∧ (T1 235 0 m = 0 ∧ T1 234 0 m = T1 111 0 3 ∧ T1 205 0 (23 * T1 230 0 m + 9) ≤ T1 239 0 (2 * m) ∧ T1 205 0 (23 * T1 230 0 m + 9) ≤ T1 239 0 (2 * m + 1)) ∧ BGR_ m (rlm_ (fun w => T1 205 0 (23 * T1 230 0 m + w))) (rp9_ T1 m) (rp9_ T2 m) ∧ ro9_ T1 T2 m)))))) : x1 = x2 ∧ PLR_ T2 ∧ LDR_ T2 := by
  have c4 : T1 106 0 4 = T 106 0 4 := f1 106 0 4 rfl
  have c29 : T1 111 0 29 = T 111 0 29 := f1 111 0 29 rfl
  have v4 : T2 106 0 4 = T1 106 0 4 := f2 106 0 4 rfl
  have v29 : T2 111 0 29 = T1 111 0 29 := f2 111 0 29 rfl
  have mm := hM.1
  have kR : ∀ j, KRM_ T T1 j := fun j => kqm_s (ks_f f1 (by decide +kernel))
  have kH : ∀ j, KHM_ T1 T2 j := fun j => khm_s (ks_f f2 (by decide +kernel))
  obtain ⟨⟨-, lh, -, -, -⟩, d1⟩ := d1
  obtain ⟨-, d2⟩ := d2
  rcases d1 with ⟨rfl, hn, rfl⟩ | ⟨hm, d1⟩
  · rcases d2 with ⟨rfl, -, rfl⟩ | ⟨hm2, -⟩
    · exact ⟨rfl, hP, hL⟩
    · exfalso; omega
  · have g := hP.1 m hm.1 hm.2
    obtain ⟨-, d2⟩ := d2.resolve_left (fun z => z.2.1 (by omega))
    have hc : 0 ≤ T 102 m 0 ∧ T 102 m 0 < T 106 0 2 := (hI.1.2.1 m hm.1 hm.2).2
    have e230 : T1 230 0 m = T 102 m 0 := (f1 230 0 m rfl).trans (hM.2 m hm.1 hm.2).1.symm
    have r2 : rlm_ (fun w => T1 205 0 (23 * T1 230 0 m + w)) = ruH_ T m := Eq.trans (rlm_e (fun w _ _ => by
      show T1 205 0 (23 * T1 230 0 m + w) = T 205 0 (23 * T 230 0 m + w)
      rw [f1 230 0 m rfl, f1 205 0 (23 * T 230 0 m + w) rfl])) (ru_q hX (hM.2 m hm.1 hm.2).1 hc)
    have e9 : T1 205 0 (23 * T1 230 0 m + 9) = T 401 (T 102 m 0) 9 := by
      rw [e230, f1 205 0 (23 * T 102 m 0 + 9) rfl]
      exact ((hX.2.2.2.2 _ hc.1 hc.2).1 9 (by decide) (by decide)).symm
    have s0 := g.1.1 0 (by decide) (by decide)
    have s1 := g.1.1 1 (by decide) (by decide)
    rw [Int.add_zero] at s0
    have t0 : T1 239 0 (2 * m) = T 239 0 (2 * m) := f1 239 0 _ rfl
    have t1 : T1 239 0 (2 * m + 1) = T 239 0 (2 * m + 1) := f1 239 0 _ rfl
    have t2 : T1 235 0 m = T 235 0 m := f1 235 0 m rfl
    have t3 : T1 234 0 m = T 234 0 m := f1 234 0 m rfl
    have t4 : T1 111 0 3 = T 111 0 3 := f1 111 0 3 rfl
    have t5 := hD m hm.1 hm.2
    have t6 := hN.2.2.2
    have t7 := pm_0 g.2
    rw [r2, (kR m).1, e9] at d2
    rcases d1 with ⟨rfl, a1, rfl⟩ | ⟨rfl, a1, a2, a3, ⟨z, z1, z2⟩, a4, a5, a6, a7, a8, a9⟩
    · rcases d2 with ⟨rfl, -, rfl⟩ | ⟨-, y, -⟩
      · exact ⟨rfl, hP, hL⟩
      · exfalso; omega
    · rcases d2 with ⟨-, y, -⟩ | ⟨rfl, -, b1, b2⟩
      · exfalso; omega
      · have pa : PAA_ T m := by
          rcases g.2 with y | y | y
          · exact y
          · exfalso; have := y.2.1; omega
          · exact absurd a1.1.2 y.2.1
        have rb := rb_m hR.2.1 hX hc
        have g9 : ruH_ T m 9 = T 401 (T 102 m 0) 9 := rlm_v (f := fun w => T 401 (T 102 m 0) w) (by decide) (by decide)
        have z49 : ∀ t, z 449 t = T 449 m t := fun t => (z1 449 t (Or.inr rfl)).trans (rs_d rfl)
        have z48 : ∀ t, z 448 t = T 448 m t := fun t => (z1 448 t (Or.inl rfl)).trans (rs_d rfl)
        have sb := si_bg (m := m) (r := ruH_ T m) (a0 := rp9_ T m) (b := rp9_ T2 m) (a := z) rb (fun t u0 u1 => by
            have y := g.1.1 t u0 u1
            rw [g9, z49]
            rcases (by omega : t = 0 ∨ t = 1) with c | c
            · rw [c] at y ⊢; omega
            · rw [c] at y ⊢; omega) (fun t x y u0 u1 x0 x1 y0 y1 e => by
            rw [z49] at x1 y1
            rw [z48, z48] at e
            exact g.1.2.2 t x y u0 u1 x0 x1 y0 y1 e) (fun t u0 u1 => by
            rw [rp_39 u0 u1, z49]
            exact (g.1.1 t u0 u1).1) (fun t x u0 u1 x0 x1 => by
            have y := g.1.1 t u0 u1
            rw [z49] at x1
            rw [rp_40 (by omega) (by omega), z48]
            exact g.1.2.1 t x u0 u1 x0 x1) b1
        have es : rs9_ T2 m = bb9_ (ruH_ T m) z := (rs_n (kH m).1).trans z2
        have e0 : T2 102 m 0 = T 102 m 0 := (f2 102 m 0 rfl).trans (f1 102 m 0 rfl)
        have e401 : ∀ i w, T2 401 i w = T 401 i w := fun i w => (f2 401 i w rfl).trans (f1 401 i w rfl)
        have er : ruH_ T2 m = ruH_ T m := rlm_e (fun w _ _ => by
          show T2 401 (T2 102 m 0) w = T 401 (T 102 m 0) w
          rw [e0, e401])
        have q15 : T2 103 m 15 = T1 103 m 15 := f2 103 m 15 rfl
        have q17 : T2 103 m 17 = T1 103 m 17 := f2 103 m 17 rfl
        have q54 : T2 254 0 m = 0 := (f2 254 0 m rfl).trans ((f1 254 0 m rfl).trans pa.2.2.2.2.2.1)
        have q56 : T2 256 0 m = 0 := (f2 256 0 m rfl).trans ((f1 256 0 m rfl).trans pa.2.2.2.2.2.2)
        have hpc : PCC_ T2 m := by
          refine ⟨(f2 102 m 6 rfl).trans ((f1 102 m 6 rfl).trans pa.1), ?_, ?_, ⟨0, by omega, ?_⟩, ?_, fun t u0 u1 => ?_, ?_, by omega⟩
          · rw [f2 102 m 10 rfl]; exact a2
          · rw [f2 103 m 0 rfl, a3, e0]
          · rw [er, es]
            exact sb.1
          · rw [es]
            exact sb.2
          · rw [e0, e401, f2 449 m t rfl, f1 449 m t rfl]
            rcases (by omega : t = 0 ∨ t = 1) with c | c
            · rw [c]; omega
            · rw [c]; omega
          · rw [rw_0 q54, q15, a6]
            rfl
        have oth : ∀ j, j ≠ m → T1 102 j 10 = T 102 j 10 ∧ T1 103 j 14 = T 103 j 14 ∧ T1 103 j 16 = T 103 j 16 := fun j n => ⟨a9 102 j 10 n (by decide) (by decide), a9 103 j 14 n (by decide) (by decide), a9 103 j 16 n (by decide) (by decide)⟩
        have lo : ∀ j, 0 ≤ j → j < T 106 0 4 → T 102 j 10 ≠ 0 → T 103 j 14 < T 191 0 0 ∧ T 103 j 16 < T 191 0 0 := fun j a b c => ⟨(hI.2.2.2.1 j a b c).1.2.2.2.2.2.1, (hI.2.2.2.1 j a b c).1.2.2.2.2.2.2.1⟩
        have e44 : T1 104 0 4 = T 104 0 4 := f1 104 0 4 rfl
        have e15 : T1 109 0 15 = T 109 0 15 := f1 109 0 15 rfl
        have hL1 : LDR_ T1 := by
          obtain ⟨⟨h1, h2⟩, h3⟩ := hL
          have l2 := lh.2
          refine ⟨⟨by omega, by omega⟩, fun i i0 i1 ip => ?_⟩
          rw [c4] at i1
          by_cases w : i = m
          · rw [w]
            refine ⟨by omega, fun j j0 j1 jp n => ?_⟩
            rw [c4] at j1
            have y := oth j n
            rw [y.1] at jp
            have v := lo j j0 j1 jp
            omega
          · have y := oth i w
            rw [y.1] at ip
            have v := lo i i0 i1 ip
            have u := h3 i i0 i1 ip
            refine ⟨by have := u.1; omega, fun j j0 j1 jp n => ?_⟩
            rw [c4] at j1
            by_cases o : j = m
            · rw [o]
              omega
            · have y2 := oth j o
              rw [y2.1] at jp
              have u2 := u.2 j j0 j1 jp n
              omega
        refine ⟨rfl, plr_s (m := m) hP (by omega) (by omega) (fun _ _ => ⟨shm_c g.1 (fun t => (f2 449 m t rfl).trans (f1 449 m t rfl)) (fun t => (f2 448 m t rfl).trans (f1 448 m t rfl)) (fun t _ _ => (f2 239 0 _ rfl).trans (f1 239 0 _ rfl)) (fun x _ _ => (f2 240 0 _ rfl).trans (f1 240 0 _ rfl)), Or.inr (Or.inr hpc)⟩) (fun j j0 j1 nj => ⟨khm_t ⟨fun k i d => a9 k j i nj (dk_n d).1 (dk_n d).2.1, ⟨f1 102 j 0 rfl, f1 102 j 6 rfl, (oth j nj).1⟩, ⟨a9 103 j 0 nj (by decide) (by decide), (oth j nj).2.1, a9 103 j 15 nj (by decide) (by decide), a9 103 j 17 nj (by decide) (by decide)⟩, fun w => f1 401 _ w rfl, fun q i _ _ => a8 _ i (lo j j0 j1 q).1⟩ (kH j), kqm_t (kR j) ⟨b2 j nj, rw_k (fun k x c => by rcases c with rfl | rfl | rfl | rfl <;> exact f2 _ 0 x rfl) (fun x => f2 252 0 x rfl) (f2 253 0 j rfl) (f2 254 0 j rfl), f2 254 0 j rfl, f2 256 0 j rfl⟩⟩) (fun j j0 j1 => ?_), ldr_k hL1 ⟨f2 104 0 4 rfl, f2 109 0 15 rfl, f2 191 0 0 rfl, v4⟩ (fun i => ⟨f2 102 i 10 rfl, f2 103 i 14 rfl, f2 103 i 16 rfl⟩)⟩
        have w := rpe_ (b2 j (by omega))
        have y1 : T1 236 0 j = T 236 0 j := f1 236 0 j rfl
        have y2 : T1 237 0 j = T 237 0 j := f1 237 0 j rfl
        omega
/-- a walkover -/
theorem pl_walk {T T1 T2 : Zt} {N m s x1 x2 : Int} (hI : IC_ N T) (hP : PLR_ T) (hL : LDR_ T) (hX : TXR_ T) (hM : MAR_ T) (hD : DAR_ T) (hN : CNR_ T) (f1 : fr_ [(102, [6])] T T1) (d1 : ((x1 = -2 ∧ ¬ (0 ≤ m ∧ m < T 106 0 4) ∧ T = T1) ∨ ((0 ≤ m ∧ m < T 106 0 4) ∧ ((x1 = -3 ∧ ¬ (0 ≤ s ∧ s ≤ 1) ∧ T = T1) ∨ ((0 ≤ s ∧ s ≤ 1) ∧ ((x1 = -4 ∧ ¬ ((T 102 m 6 = -1 ∧ T 102 m 10 = 0) ∧ T 102 m 5 ≤ T 108 0 13) ∧ T = T1) ∨ (x1 = 1 ∧ ((T 102 m 6 = -1 ∧ T 102 m 10 = 0) ∧ T 102 m 5 ≤ T 108 0 13) ∧ T1 = up_ T 102 m 6 s))))))) (f2 : fr_ [(235, []), (236, []), (237, [])] T1 T2) (d2 : ((FM_ T2 ∧ ZS_ T2 ∧ GX_ T2 (-1)) ∧ ((x2 = -2 ∧ ¬ (0 ≤ m ∧ m < T1 111 0 29) ∧ T1 = T2) ∨ ((0 ≤ m ∧ m < T1 111 0 29) ∧ ((x2 = -3 ∧ ¬ (0 ≤ s ∧ s ≤ 1) ∧ T1 = T2) ∨ ((0 ≤ s ∧ s ≤ 1) ∧ ((x2 = -4 ∧ ¬ (T1 235 0 m = 0 ∧ T1 234 0 m ≤ T1 111 0 3) ∧ T1 = T2) ∨ (x2 = 1 ∧ (T1 235 0 m = 0 ∧ T1 234 0 m ≤ T1 111 0 3) ∧ T2 235 0 m = 3 ∧ (s = 0 → T2 236 0 m = 0 ∧ T2 237 0 m = T1 205 0 (23 * T1 230 0 m + 12)) ∧ (s = 1 → T2 236 0 m = T1 205 0 (23 * T1 230 0 m + 12) ∧ T2 237 0 m = 0) ∧ ro9_ T1 T2 m)))))))) : x1 = x2 ∧ PLR_ T2 ∧ LDR_ T2 := by
  have c4 : T1 106 0 4 = T 106 0 4 := f1 106 0 4 rfl
  have c29 : T1 111 0 29 = T 111 0 29 := f1 111 0 29 rfl
  have v4 : T2 106 0 4 = T1 106 0 4 := f2 106 0 4 rfl
  have v29 : T2 111 0 29 = T1 111 0 29 := f2 111 0 29 rfl
  have mm := hM.1
  have kR : ∀ j, KRM_ T T1 j := fun j => kqm_s (ks_f f1 (by decide +kernel))
  have kH : ∀ j, KHM_ T1 T2 j := fun j => khm_s (ks_f f2 (by decide +kernel))
  have hL2 : LDR_ T2 := ldr_k hL ⟨(f2 104 0 4 rfl).trans (f1 104 0 4 rfl), (f2 109 0 15 rfl).trans (f1 109 0 15 rfl), (f2 191 0 0 rfl).trans (f1 191 0 0 rfl), v4.trans c4⟩ (fun i => ⟨(f2 102 i 10 rfl).trans (f1 102 i 10 rfl), (f2 103 i 14 rfl).trans (f1 103 i 14 rfl), (f2 103 i 16 rfl).trans (f1 103 i 16 rfl)⟩)
  obtain ⟨-, d2⟩ := d2
  rcases d1 with ⟨rfl, hn, rfl⟩ | ⟨hm, d1⟩
  · rcases d2 with ⟨rfl, -, rfl⟩ | ⟨hm2, -⟩
    · exact ⟨rfl, hP, hL⟩
    · exfalso; omega
  · have g := hP.1 m hm.1 hm.2
    obtain ⟨-, d2⟩ := d2.resolve_left (fun z => z.2.1 (by omega))
    rcases d1 with ⟨rfl, hn, rfl⟩ | ⟨hs, d1⟩
    · rcases d2 with ⟨rfl, -, rfl⟩ | ⟨y, -⟩
      · exact ⟨rfl, hP, hL⟩
      · exact absurd y hn
    · obtain ⟨-, d2⟩ := d2.resolve_left (fun z => z.2.1 hs)
      have hc : 0 ≤ T 102 m 0 ∧ T 102 m 0 < T 106 0 2 := (hI.1.2.1 m hm.1 hm.2).2
      have e230 : T1 230 0 m = T 102 m 0 := (f1 230 0 m rfl).trans (hM.2 m hm.1 hm.2).1.symm
      have e12 : T1 205 0 (23 * T1 230 0 m + 12) = T 401 (T 102 m 0) 12 := by
        rw [e230, f1 205 0 (23 * T 102 m 0 + 12) rfl]
        exact ((hX.2.2.2.2 _ hc.1 hc.2).1 12 (by decide) (by decide)).symm
      have t2 : T1 235 0 m = T 235 0 m := f1 235 0 m rfl
      have t3 : T1 234 0 m = T 234 0 m := f1 234 0 m rfl
      have t4 : T1 111 0 3 = T 111 0 3 := f1 111 0 3 rfl
      have t5 := hD m hm.1 hm.2
      have t6 := hN.2.2.2
      have t7 := pm_0 g.2
      rw [e12] at d2
      rcases d1 with ⟨rfl, a1, rfl⟩ | ⟨rfl, a1, a2⟩
      · rcases d2 with ⟨rfl, -, rfl⟩ | ⟨-, y, -⟩
        · exact ⟨rfl, hP, hL⟩
        · exfalso; omega
      · rcases d2 with ⟨-, y, -⟩ | ⟨rfl, -, b1, b2, b3, b4⟩
        · exfalso; omega
        · have pa : PAA_ T m := by
            rcases g.2 with y | y | y
            · exact y
            · exfalso; have := y.2.1; omega
            · exact absurd a1.1.2 y.2.1
          have e6 : T2 102 m 6 = s := (f2 102 m 6 rfl).trans (up_f a2)
          have q10 : T2 102 m 10 = 0 := (f2 102 m 10 rfl).trans ((f1 102 m 10 rfl).trans pa.2.1)
          have q54 : T2 254 0 m = 0 := (f2 254 0 m rfl).trans ((f1 254 0 m rfl).trans pa.2.2.2.2.2.1)
          have q56 : T2 256 0 m = 0 := (f2 256 0 m rfl).trans ((f1 256 0 m rfl).trans pa.2.2.2.2.2.2)
          have e0 : T2 102 m 0 = T 102 m 0 := (f2 102 m 0 rfl).trans (f1 102 m 0 rfl)
          have e401 : ∀ i w, T2 401 i w = T 401 i w := fun i w => (f2 401 i w rfl).trans (f1 401 i w rfl)
          have hpb : PBB_ T2 m := by
            refine ⟨q10, b1, ?_, q54, q56⟩
            rw [e0, e401, e6]
            rcases (by omega : s = 0 ∨ s = 1) with c | c
            · exact Or.inl ⟨c, b2 c⟩
            · exact Or.inr ⟨c, b3 c⟩
          refine ⟨rfl, plr_s (m := m) hP (by omega) (by omega) (fun _ _ => ⟨shm_c g.1 (fun t => (f2 449 m t rfl).trans (f1 449 m t rfl)) (fun t => (f2 448 m t rfl).trans (f1 448 m t rfl)) (fun t _ _ => (f2 239 0 _ rfl).trans (f1 239 0 _ rfl)) (fun x _ _ => (f2 240 0 _ rfl).trans (f1 240 0 _ rfl)), Or.inr (Or.inl hpb)⟩) (fun j j0 j1 nj => ⟨khm_t ⟨fun k i d => up_g a2 (fun z => nj z.2.1), ⟨f1 102 j 0 rfl, up_g a2 (fun z => nj z.2.1), f1 102 j 10 rfl⟩, ⟨f1 103 j 0 rfl, f1 103 j 14 rfl, f1 103 j 15 rfl, f1 103 j 17 rfl⟩, fun w => f1 401 _ w rfl, fun q i _ _ => f1 190 _ i rfl⟩ (kH j), kqm_t (kR j) ⟨b4 j nj, rw_k (fun k x c => by rcases c with rfl | rfl | rfl | rfl <;> exact f2 _ 0 x rfl) (fun x => f2 252 0 x rfl) (f2 253 0 j rfl) (f2 254 0 j rfl), f2 254 0 j rfl, f2 256 0 j rfl⟩⟩) (fun j j0 j1 => ?_), hL2⟩
          have w := rpe_ (b4 j (by omega))
          have y1 : T1 236 0 j = T 236 0 j := f1 236 0 j rfl
          have y2 : T1 237 0 j = T 237 0 j := f1 237 0 j rfl
          omega
-- bans and line-ups of both sides alike
theorem coc_k {T T' : Zt} {p d : Int} (e : ∀ (k : Nat) (j : Int), k = 217 ∨ k = 218 ∨ k = 219 ∨ k = 220 → T' k 0 j = T k 0 j) (e16 : T' 111 0 16 = T 111 0 16) : co9_c T' p d = co9_c T p d := by
  unfold co9_c
  rw [e16]
  exact cnn_k e _
theorem plN_n {T : Zt} {m q s : Int} : ∀ (n : Nat) (i : Int), 0 ≤ s → 0 ≤ i → plN_ T m q s n i = -1 → ∀ k, i ≤ k → k < i + (n : Int) → T 448 m (s * 10 + k) ≠ q
  | 0, i, _, _, _, k, a, b => by omega
  | n + 1, i, s0, i0, h, k, a, b => by
    by_cases z : T 448 m (s * 10 + i) = q
    · rw [plN_t z] at h
      omega
    · rw [plN_f z] at h
      by_cases y : k = i
      · rw [y]; exact z
      · exact plN_n n (i + 1) s0 (by omega) h k (by omega) (by omega)
/-- the place on one sheet -/
theorem pl_sl1 {T : Zt} {m q s : Int} (h : SHM_ T m) (s0 : 0 ≤ s) (s1 : s ≤ 1) : (plN_ T m q s (T 449 m s).toNat 0 = -1 ∧ slR_ (rp9_ T m) s q = -1) ∨ (s * 10 ≤ plN_ T m q s (T 449 m s).toNat 0 ∧ plN_ T m q s (T 449 m s).toNat 0 < s * 10 + T 449 m s ∧ slR_ (rp9_ T m) s q = plN_ T m q s (T 449 m s).toNat 0) := by
  have g := h.1 s s0 s1
  have e48 : ∀ x, s * 10 ≤ x → x < s * 10 + T 449 m s → rp9_ T m 448 x = T 448 m x := fun x x0 x1 => by
    rw [rp_40 (by omega) (by omega)]
    exact h.2.1 s x s0 s1 x0 x1
  unfold slR_
  rw [rp_39 s0 s1, g.1]
  rcases plN_b (T := T) (m := m) (q := q) (s := s) (T 449 m s).toNat 0 with y | y
  · refine Or.inl ⟨y, ?_⟩
    rcases sln_b (a := rp9_ T m) (s := s) (q := q) (T 449 m s).toNat with w | w
    · exact w
    · exfalso
      have n := plN_n (T 449 m s).toNat 0 s0 (by decide) y (sln_ (rp9_ T m) s q (T 449 m s).toNat - s * 10) (by omega) (by omega)
      rw [show s * 10 + (sln_ (rp9_ T m) s q (T 449 m s).toNat - s * 10) = sln_ (rp9_ T m) s q (T 449 m s).toNat by omega, ← e48 _ (by omega) (by omega)] at n
      exact n w.2.2
  · have y1 : plN_ T m q s (T 449 m s).toNat 0 < s * 10 + T 449 m s := by omega
    refine Or.inr ⟨by omega, y1, ?_⟩
    refine sl_u _ (by omega) (by omega) ((e48 _ (by omega) y1).trans y.2.2) (fun x x0 x1 e => ?_)
    rw [e48 x x0 (by omega)] at e
    exact h.2.2 s x _ s0 s1 x0 (by omega) (by omega) y1 (e.trans y.2.2.symm)
/-- the place on the sheets -/
theorem pl_sl {T : Zt} {m q : Int} (m0 : 0 ≤ m) (h : SHM_ T m) : (plc_ T m q = -1 ∧ slc_ T m q = -1) ∨ (∃ t, (0 ≤ t ∧ t ≤ 1) ∧ t * 10 ≤ plc_ T m q ∧ plc_ T m q < t * 10 + T 449 m t ∧ slc_ T m q = 20 * m + plc_ T m q) := by
  have g0 := h.1 0 (by decide) (by decide)
  have g1 := h.1 1 (by decide) (by decide)
  rcases pl_sl1 (q := q) h (s := 0) (by decide) (by decide) with ⟨a, b⟩ | ⟨a, b, c⟩
  · have e0 : ab9_ m (slR_ (rp9_ T m) 0 q) = -1 := ab_1 b
    rw [plc_1 a, slc_1 rfl e0 rfl]
    rcases pl_sl1 (q := q) h (s := 1) (by decide) (by decide) with ⟨u, v⟩ | ⟨u, v, w⟩
    · exact Or.inl ⟨u, ab_1 v⟩
    · refine Or.inr ⟨1, by decide, u, v, ?_⟩
      rw [ab_2 (by omega), w]
  · have e0 : ab9_ m (slR_ (rp9_ T m) 0 q) = 20 * m + plN_ T m q 0 (T 449 m 0).toNat 0 := by rw [ab_2 (by omega), c]
    rw [plc_0 (by omega), slc_0 rfl (by omega), e0]
    exact Or.inr ⟨0, by decide, a, b, rfl⟩
/-- whether a match is decided -/
theorem pm_d {T : Zt} {m : Int} (h : PM_ T m) : (T 102 m 6 ≠ -1 ∨ (T 102 m 10 ≠ 0 ∧ T 103 m 3 ≠ 0)) ↔ (T 235 0 m = 2 ∨ T 235 0 m = 3) := by
  rcases h with z | z | z
  · have a := z.1
    have b := z.2.1
    have c := z.2.2.1
    constructor
    · intro u; omega
    · intro u; omega
  · have a := z.2.2.1
    have c := z.2.1
    constructor
    · intro u; omega
    · intro u; omega
  · obtain ⟨n, -, ps⟩ := z.2.2.2.1
    have e := ps.1.2.2.1.2.2
    rw [rp_35, show rs9_ T m 103 3 = T 103 m 3 from rs_d rfl] at e
    have a := z.1
    have b := z.2.1
    constructor
    · intro u; omega
    · intro u; omega
theorem kd_q {T : Zt} {m q : Int} (m0 : 0 ≤ m) (h : SHM_ T m) (g : PM_ T m) (d : T 235 0 m = 2 ∨ T 235 0 m = 3) : kdH_ T q m = kdR_ T q m ∧ (kdH_ T q m = 2 → yvH_ T q m = yvR_ T q m) := by
  rcases g with z | z | z
  · have c := z.2.2.1
    exfalso; omega
  · have c := z.2.1
    rw [kdH_0 (Or.inl z.1), kdR_0 (fun y => by omega)]
    exact ⟨rfl, fun y => absurd y (by decide)⟩
  · obtain ⟨n, -, ps⟩ := z.2.2.2.1
    have e3 := ps.1.2.2.1.2.2
    rw [rp_35] at e3
    have e2 : T 235 0 m = 2 := by omega
    rcases pl_sl (q := q) m0 h with ⟨a, b⟩ | ⟨t, ht, a, b, c⟩
    · rw [kdH_0 (Or.inr a), kdR_0 (fun y => y.2 b)]
      exact ⟨rfl, fun y => absurd y (by decide)⟩
    · have g49 := h.1 t ht.1 ht.2
      have r49 : rs9_ T m 449 t = T 449 m t := rs_d rfl
      have eq := ps.1.2.2.2.2 t (plc_ T m q) ht.1 ht.2 a (by rw [r49]; exact b)
      have d0 : 0 ≤ plc_ T m q ∧ plc_ T m q ≤ 19 := by omega
      rw [show rs9_ T m 472 (plc_ T m q) = T 472 m (plc_ T m q) from rs_d rfl, show rs9_ T m 473 (plc_ T m q) = T 473 m (plc_ T m q) from rs_d rfl, rp_v (m := m) (K := 242) (x := 20 * m + plc_ T m q) (dm_473 d0) rfl rfl, rp_v (m := m) (K := 243) (x := 20 * m + plc_ T m q) (dm_474 d0) rfl rfl, ← c] at eq
      have n1 : ¬ (T 102 m 10 = 0 ∨ plc_ T m q = -1) := fun y => by
        rcases y with y | y
        · exact z.2.1 y
        · omega
      have n2 : T 235 0 m = 2 ∧ slc_ T m q ≠ -1 := ⟨e2, by omega⟩
      rcases eq.2.2 with ⟨y1, -, y3⟩ | ⟨y1, -, y3⟩
      · rw [kdH_1 n1 y1, kdR_1 n2 y3]
        exact ⟨rfl, fun y => absurd y (by decide)⟩
      · rw [kdH_2 n1 y1, kdR_2 n2 (by omega)]
        exact ⟨rfl, fun _ => eq.2.1.symm⟩
theorem sbn_e {red cards : Int} {kd yv kd' yv' : Int → Int} {m : Int} (h : kd' m = kd m) (g : kd m = 2 → yv' m = yv m) : sbn_ red cards kd' yv' m = sbn_ red cards kd yv m := by
  funext x
  by_cases z : kd m = 1
  · rw [sbn_1 z, sbn_1 (h.trans z)]
  · by_cases y : kd m = 2
    · rw [sbn_2 y, sbn_2 (h.trans y), g y]
    · rw [sbn_0 z y, sbn_0 (by rw [h]; exact z) (by rw [h]; exact y)]
/-- the bans are the same -/
theorem bn_q {T : Zt} {N q p : Int} (hT : ok_T T) (hI : IC_ N T) (hP : PLR_ T) (hX : TXR_ T) (hM : MAR_ T) (hE : ENR_ T) (hD : DAR_ T) (hp : 0 ≤ p ∧ p < T 106 0 4) : bnH_ T q p = bnR_ T q p := by
  have hc : 0 ≤ T 102 p 0 ∧ T 102 p 0 < T 106 0 2 := (hI.1.2.1 p hp.1 hp.2).2
  have ec := (hM.2 p hp.1 hp.2).1
  have en := hE.1 _ hc.1 hc.2
  have kc := hI.1.2.2.1 _ hc.1 hc.2
  have rl := (hX.2.2.2.2 _ hc.1 hc.2).1
  have b7 : 0 ≤ T 100 (T 102 p 0) 7 := (bd_f hT 100 7 tl_0_7 _).1
  have ed := hD p hp.1 hp.2
  unfold bnH_ bnR_
  rw [← ec, ← rl 13 (by decide) (by decide), ← rl 14 (by decide) (by decide), ← en.2.2.1, ← en.2.2.2.1, ← ed]
  have hin : ∀ m, T 100 (T 102 p 0) 7 ≤ m → m < T 100 (T 102 p 0) 7 + T 100 (T 102 p 0) 8 → 0 ≤ m ∧ m < T 106 0 4 := fun m a b => by omega
  have hr : ∀ m, T 100 (T 102 p 0) 7 ≤ m → m < T 100 (T 102 p 0) 7 + T 100 (T 102 p 0) 8 → (rlH_ T q m ↔ rlR_ T q m) := fun m a b => by
    have i := hin m a b
    have mm := hM.2 m i.1 i.2
    have dd := hD m i.1 i.2
    have pd := pm_d (hP.1 m i.1 i.2).2
    have h3 : 0 ≤ T 102 m 3 := (bd_f hT 102 3 tl_2_3 m).1
    have h4 : 0 ≤ T 102 m 4 := (bd_f hT 102 4 tl_2_4 m).1
    unfold rlH_ rlR_
    rw [← dd, pd, ← mm.2.2.1, ← mm.2.2.2]
    constructor
    · rintro ⟨u, v⟩
      exact ⟨u, by omega, by omega⟩
    · rintro ⟨u, v, w⟩
      exact ⟨u, by omega⟩
  refine congrArg Prod.fst (bf_c (fun m a b => ?_) hr (fun m a b r => ?_) _)
  · exact hD m (hin m a b).1 (hin m a b).2
  · have i := hin m a b
    have g := hP.1 m i.1 i.2
    have k := kd_q (q := q) i.1 g.1 g.2 r.1
    exact sbn_e k.1 (fun y => k.2 (k.1.trans y))
theorem els_q {T : Zt} {q p : Int} (hP : PLR_ T) (hM : MAR_ T) (hD : DAR_ T) (hp : 0 ≤ p ∧ p < T 106 0 4) : elsH_ T q p ↔ elsR_ T q p := by
  have ed := hD p hp.1 hp.2
  constructor
  · rintro ⟨k, k0, k1, k2, k3, k4, k5⟩
    have g := hP.1 k k0 k1
    refine ⟨k, k0, by have := hM.1; omega, k2, by have := hD k k0 k1; omega, (pm_3 g.2).mp k4, ?_⟩
    rcases pl_sl (q := q) k0 g.1 with y | ⟨t, y⟩
    · exact absurd y.1 k5
    · omega
  · rintro ⟨k, k0, k1, k2, k3, k4, k5⟩
    have k1' : k < T 106 0 4 := by have := hM.1; omega
    have g := hP.1 k k0 k1'
    refine ⟨k, k0, k1', k2, by have := hD k k0 k1'; omega, (pm_3 g.2).mpr k4, ?_⟩
    rcases pl_sl (q := q) k0 g.1 with y | ⟨t, y⟩
    · exact absurd y.2 k5
    · omega
theorem cz_e {A : Type} {P Q : Prop} {x y : A} (h : P ↔ Q) : cz_ P x y = cz_ Q x y := by rw [propext h]
/-- the reason is the same -/
theorem wy_q {T : Zt} {N q p d : Int} (hT : ok_T T) (hI : IC_ N T) (hP : PLR_ T) (hX : TXR_ T) (hM : MAR_ T) (hE : ENR_ T) (hD : DAR_ T) (hp : 0 ≤ p ∧ p < T 106 0 4) : wyH_ T q p d = wyR_ T q p d := by
  have ed := hD p hp.1 hp.2
  have mm := hM.2 p hp.1 hp.2
  have g := hP.1 p hp.1 hp.2
  have sl : plc_ T p q ≠ -1 ↔ slc_ T p q ≠ -1 := by
    rcases pl_sl (q := q) hp.1 g.1 with y | ⟨t, y⟩
    · omega
    · omega
  unfold wyH_ wyR_
  rw [ed, mm.2.2.1, mm.2.2.2, bn_q hT hI hP hX hM hE hD hp, cz_e (els_q hP hM hD hp), cz_e sl]
/-- what the reason of the reference hangs on -/
theorem wyR_k {T T' : Zt} {q p d : Int} (e : ∀ (k : Nat) (j : Int), 200 ≤ k → k ≤ 256 → T' k 0 j = T k 0 j) (e16 : T' 111 0 16 = T 111 0 16) (e29 : T' 111 0 29 = T 111 0 29) : wyR_ T' q p d = wyR_ T q p d := by
  have c : ∀ q d, co9_c T' q d = co9_c T q d := fun q d => coc_k (fun k j h => e k j (by omega) (by omega)) e16
  have rp : ∀ m, rp9_ T' m = rp9_ T m := fun m => rp_x (fun K j h => e K j (by omega) (by omega))
  have s : ∀ m q, slc_ T' m q = slc_ T m q := fun m q => by
    unfold slc_
    rw [rp]
  have e34 : ∀ m, T' 234 0 m = T 234 0 m := fun m => e 234 m (by decide) (by decide)
  have e35 : ∀ m, T' 235 0 m = T 235 0 m := fun m => e 235 m (by decide) (by decide)
  have e32 : ∀ m, T' 232 0 m = T 232 0 m := fun m => e 232 m (by decide) (by decide)
  have e33 : ∀ m, T' 233 0 m = T 233 0 m := fun m => e 233 m (by decide) (by decide)
  have kd : kdR_ T' q = kdR_ T q := by
    funext m
    unfold kdR_
    rw [s, e35, e 243 _ (by decide) (by decide)]
  have yv : yvR_ T' q = yvR_ T q := by
    funext m
    unfold yvR_
    rw [s, e 242 _ (by decide) (by decide)]
  have rl : rlR_ T' q = rlR_ T q := by
    funext m
    unfold rlR_
    rw [c, e34, e35, e32, e33]
  have dy : (fun m => T' 234 0 m) = fun m => T 234 0 m := funext e34
  have bn : bnR_ T' q p = bnR_ T q p := by
    unfold bnR_
    rw [kd, yv, rl, dy, e34, e 230 p (by decide) (by decide), e 205 _ (by decide) (by decide), e 205 _ (by decide) (by decide), e 210 _ (by decide) (by decide), e 211 _ (by decide) (by decide)]
  have el : elsR_ T' q p ↔ elsR_ T q p := by
    unfold elsR_
    rw [e29, e34 p]
    constructor
    · rintro ⟨k, k0, k1, k2, k3, k4, k5⟩
      rw [e34] at k3
      rw [e35] at k4
      rw [s] at k5
      exact ⟨k, k0, k1, k2, k3, k4, k5⟩
    · rintro ⟨k, k0, k1, k2, k3, k4, k5⟩
      rw [← e34] at k3
      rw [← e35] at k4
      rw [← s] at k5
      exact ⟨k, k0, k1, k2, k3, k4, k5⟩
  unfold wyR_
  rw [c, e34, e32, e33, bn, s, cz_e el]
theorem kn9_ (k : Nat) (j : Int) (h : k < 400) : fw_ [(448, []), (449, []), (533, [])] k j = false ∧ fw_ [(533, [])] k j = false := by
  have a : ∀ n : Nat, 400 ≤ n → (k == n) = false := fun n b => by
    rw [beq_eq_false_iff_ne]
    omega
  constructor <;> simp [fw_, a 448 (by decide), a 449 (by decide), a 533 (by decide)]
/-- whether a person may play -/
theorem pl_elig {T T1 : Zt} {N q m t x1 x2 : Int} (hT : ok_T T) (hI : IC_ N T) (hP : PLR_ T) (hX : TXR_ T) (hM : MAR_ T) (hE : ENR_ T) (hD : DAR_ T) (hN : CNR_ T) (f1 : fr_ [(533, [])] T T1) (d1 : ((x1 = -2 ∧ ¬ ((0 ≤ q ∧ q < T 108 0 3) ∧ 0 ≤ m ∧ m < T 106 0 4)) ∨ (((0 ≤ q ∧ q < T 108 0 3) ∧ 0 ≤ m ∧ m < T 106 0 4) ∧ ((x1 = -3 ∧ ¬ (0 ≤ t ∧ t ≤ 1)) ∨ ((0 ≤ t ∧ t ≤ 1) ∧ x1 = wyH_ T q m t))))) (d2 : ((x2 = -2 ∧ ¬ ((0 ≤ q ∧ q < T1 111 0 15) ∧ 0 ≤ m ∧ m < T1 111 0 29)) ∨ (((0 ≤ q ∧ q < T1 111 0 15) ∧ 0 ≤ m ∧ m < T1 111 0 29) ∧ ((x2 = -3 ∧ ¬ (0 ≤ t ∧ t ≤ 1)) ∨ ((0 ≤ t ∧ t ≤ 1) ∧ x2 = wyR_ T1 q m t))))) : x1 = x2 := by
  have mm := hM.1
  have c29 : T1 111 0 29 = T 111 0 29 := f1 111 0 29 rfl
  have c15 : T1 111 0 15 = T 111 0 15 := f1 111 0 15 rfl
  have n2 := hN.2.1
  rcases d1 with ⟨rfl, a⟩ | ⟨a, d1⟩
  · rcases d2 with ⟨rfl, -⟩ | ⟨b, -⟩
    · rfl
    · exfalso; omega
  · obtain ⟨-, d2⟩ := d2.resolve_left (fun z => z.2 (by omega))
    have k : wyR_ T1 q m t = wyR_ T q m t := wyR_k (fun k j a b => f1 k 0 j (kn9_ k j (by omega)).2) (f1 111 0 16 rfl) c29
    rw [k, ← wy_q hT hI hP hX hM hE hD a.2] at d2
    omega
/-- a line-up -/
theorem pl_line {T T1 T2 : Zt} {N q m t x1 x2 : Int} (hT : ok_T T) (hI : IC_ N T) (hR : IR_ T) (hP : PLR_ T) (hL : LDR_ T) (hX : TXR_ T) (hM : MAR_ T) (hE : ENR_ T) (hD : DAR_ T) (hN : CNR_ T) (f1 : fr_ [(448, []), (449, []), (533, [])] T T1) (d1 : ((x1 = -2 ∧ ¬ ((0 ≤ q ∧ q < T 108 0 3) ∧ 0 ≤ m ∧ m < T 106 0 4) ∧ SHN_ T T1) ∨ (((0 ≤ q ∧ q < T 108 0 3) ∧ 0 ≤ m ∧ m < T 106 0 4) ∧ ((x1 = -3 ∧ ¬ (0 ≤ t ∧ t ≤ 1) ∧ SHN_ T T1) ∨ ((0 ≤ t ∧ t ≤ 1) ∧ ((x1 = -4 ∧ ¬ (T 102 m 6 = -1 ∧ T 102 m 10 = 0) ∧ SHN_ T T1) ∨ ((T 102 m 6 = -1 ∧ T 102 m 10 = 0) ∧ ((x1 = -5 ∧ T 401 (T 102 m 0) 9 + 4 ≤ T 449 m t ∧ SHN_ T T1) ∨ (T 449 m t < T 401 (T 102 m 0) 9 + 4 ∧ ((wyH_ T q m t ≠ 0 ∧ x1 = -10 - wyH_ T q m t ∧ SHN_ T T1) ∨ (wyH_ T q m t = 0 ∧ x1 = T 449 m t + 1 ∧ SHH_ T T1 m t q))))))))))) (f2 : fr_ [(239, []), (240, [])] T1 T2) (d2 : ((SH_ T2 ∧ ∀ z, T1 239 0 z ≤ T2 239 0 z) ∧ ((x2 = -2 ∧ ¬ ((0 ≤ q ∧ q < T1 111 0 15) ∧ 0 ≤ m ∧ m < T1 111 0 29) ∧ T1 = T2) ∨ (((0 ≤ q ∧ q < T1 111 0 15) ∧ 0 ≤ m ∧ m < T1 111 0 29) ∧ ((x2 = -3 ∧ ¬ (0 ≤ t ∧ t ≤ 1) ∧ T1 = T2) ∨ ((0 ≤ t ∧ t ≤ 1) ∧ ((x2 = -4 ∧ T1 235 0 m ≠ 0 ∧ T1 = T2) ∨ (T1 235 0 m = 0 ∧ ((x2 = -5 ∧ T1 239 0 (2 * m + t) = T1 205 0 (23 * T1 230 0 m + 9) + 4 ∧ T1 = T2) ∨ (T1 239 0 (2 * m + t) ≠ T1 205 0 (23 * T1 230 0 m + 9) + 4 ∧ ((wyR_ T1 q m t ≠ 0 ∧ x2 = -10 - wyR_ T1 q m t ∧ T1 = T2) ∨ (wyR_ T1 q m t = 0 ∧ x2 = T1 239 0 (2 * m + t) + 1 ∧ SRR_ T1 T2 m t q)))))))))))) : x1 = x2 ∧ PLR_ T2 := by
  have mm := hM.1
  have c4 : T1 106 0 4 = T 106 0 4 := f1 106 0 4 rfl
  have c29 : T1 111 0 29 = T 111 0 29 := f1 111 0 29 rfl
  have c15 : T1 111 0 15 = T 111 0 15 := f1 111 0 15 rfl
  have v4 : T2 106 0 4 = T1 106 0 4 := f2 106 0 4 rfl
  have v29 : T2 111 0 29 = T1 111 0 29 := f2 111 0 29 rfl
  have n2 := hN.2.1
  have kR : ∀ j, KRM_ T T1 j := fun j => kqm_s (ks_f f1 (by decide +kernel))
  have kH : ∀ j, KHM_ T1 T2 j := fun j => khm_s (ks_f f2 (by decide +kernel))
  obtain ⟨-, d2⟩ := d2
  have stay : SHN_ T T1 → T1 = T2 → PLR_ T2 := fun s e => by
    subst e
    refine plr_s (m := -1) hP c4 c29 (fun z => absurd z (by decide)) (fun j _ _ _ => ⟨?_, kR j⟩) (fun j _ _ => ⟨f1 236 0 j rfl, f1 237 0 j rfl⟩)
    refine ⟨fun K i d => ?_, ⟨f1 102 j 0 rfl, f1 102 j 6 rfl, f1 102 j 10 rfl⟩, ⟨f1 103 j 0 rfl, f1 103 j 14 rfl, f1 103 j 15 rfl, f1 103 j 17 rfl⟩, fun w => f1 401 _ w rfl, fun _ i _ _ => f1 190 _ i rfl⟩
    rcases dk_c d with rfl | rfl | rfl | rfl | rfl | rfl | rfl | rfl | rfl | rfl | ⟨rfl, _⟩
    · exact s.1 j i
    · exact s.2 j i
    all_goals exact f1 _ j i rfl
  rcases d1 with ⟨rfl, a, s⟩ | ⟨a, d1⟩
  · rcases d2 with ⟨rfl, -, e⟩ | ⟨b, -⟩
    · exact ⟨rfl, stay s e⟩
    · exfalso; omega
  · obtain ⟨-, d2⟩ := d2.resolve_left (fun z => z.2.1 (by omega))
    have hm := a.2
    have g := hP.1 m hm.1 hm.2
    rcases d1 with ⟨rfl, b, s⟩ | ⟨b, d1⟩
    · rcases d2 with ⟨rfl, -, e⟩ | ⟨y, -⟩
      · exact ⟨rfl, stay s e⟩
      · exact absurd y b
    · obtain ⟨-, d2⟩ := d2.resolve_left (fun z => z.2.1 b)
      have t7 := pm_0 g.2
      have t2 : T1 235 0 m = T 235 0 m := f1 235 0 m rfl
      rcases d1 with ⟨rfl, c, s⟩ | ⟨c, d1⟩
      · rcases d2 with ⟨rfl, -, e⟩ | ⟨y, -⟩
        · exact ⟨rfl, stay s e⟩
        · exfalso; omega
      · obtain ⟨-, d2⟩ := d2.resolve_left (fun z => z.2.1 (by omega))
        have hc : 0 ≤ T 102 m 0 ∧ T 102 m 0 < T 106 0 2 := (hI.1.2.1 m hm.1 hm.2).2
        have e230 : T1 230 0 m = T 102 m 0 := (f1 230 0 m rfl).trans (hM.2 m hm.1 hm.2).1.symm
        have e9 : T1 205 0 (23 * T1 230 0 m + 9) = T 401 (T 102 m 0) 9 := by
          rw [e230, f1 205 0 (23 * T 102 m 0 + 9) rfl]
          exact ((hX.2.2.2.2 _ hc.1 hc.2).1 9 (by decide) (by decide)).symm
        have sm := g.1.1 t b.1 b.2
        have e39 : T1 239 0 (2 * m + t) = T 239 0 (2 * m + t) := f1 239 0 _ rfl
        have sh := (hR.2.2.2.2.2.2.1 m t hm.1 (by have n4 : T 106 0 4 ≤ 400 := (bd_f hT 106 4 tl_6_4 0).2; omega) b.1 b.2).1 (by omega)
        have e9b : T 205 0 (23 * T 230 0 m + 9) = T 401 (T 102 m 0) 9 := by
          rw [← (hM.2 m hm.1 hm.2).1]
          exact ((hX.2.2.2.2 _ hc.1 hc.2).1 9 (by decide) (by decide)).symm
        have kr := hI.1.2.2.2.1 _ hc.1 hc.2
        have k : wyR_ T1 q m t = wyH_ T q m t := (wyR_k (fun k j a b => f1 k 0 j (kn9_ k j (by omega)).1) (f1 111 0 16 rfl) c29).trans (wy_q hT hI hP hX hM hE hD hm).symm
        rw [e9, k] at d2
        rcases d1 with ⟨rfl, u, s⟩ | ⟨u, d1⟩
        · rcases d2 with ⟨rfl, -, e⟩ | ⟨y, -⟩
          · exact ⟨rfl, stay s e⟩
          · exfalso; omega
        · obtain ⟨-, d2⟩ := d2.resolve_left (fun z => by have := z.2.1; omega)
          rcases d1 with ⟨w, e1, s⟩ | ⟨w, e1, s⟩
          · rcases d2 with ⟨-, e2, e⟩ | ⟨y, -⟩
            · exact ⟨by omega, stay s e⟩
            · exact absurd y w
          · rcases d2 with ⟨y, -⟩ | ⟨-, e2, s2⟩
            · exact absurd w y
            · have pn : plc_ T m q = -1 := by
                refine Classical.byContradiction (fun z => ?_)
                by_cases o1 : co9_c T q (T 102 m 5) ≠ cz_ (t = 0) (T 102 m 3) (T 102 m 4)
                · rw [wyH_1 o1] at w; exact absurd w (by decide)
                · by_cases o2 : 0 < bnH_ T q m
                  · rw [wyH_2 o1 o2] at w; exact absurd w (by decide)
                  · rw [wyH_3 o1 o2 z] at w; exact absurd w (by decide)
              have pa : PAA_ T m := by
                rcases g.2 with y | y | y
                · exact y
                · exfalso; have := y.2.1; omega
                · exact absurd c.2 y.2.1
              obtain ⟨s1, s3, s4, s5⟩ := s
              obtain ⟨r1, r3, r4, r5⟩ := s2
              have e49 : ∀ i j, T2 449 i j = T1 449 i j := fun i j => f2 449 i j rfl
              have e48 : ∀ i j, T2 448 i j = T1 448 i j := fun i j => f2 448 i j rfl
              have k39 : ∀ j, T1 239 0 j = T 239 0 j := fun j => f1 239 0 j rfl
              have k40 : ∀ j, T1 240 0 j = T 240 0 j := fun j => f1 240 0 j rfl
              have nq : ∀ y, t * 10 ≤ y → y < t * 10 + T 449 m t → T 448 m y ≠ q := fun y y0 y1 e => by
                have p0 := pl_sl1 (q := q) g.1 (s := 0) (by decide) (by decide)
                by_cases o1 : plN_ T m q 0 (T 449 m 0).toNat 0 = -1
                · rw [plc_1 o1] at pn
                  rcases (by omega : t = 0 ∨ t = 1) with tc | tc
                  · rw [tc] at y0 y1
                    have n := plN_n (T 449 m 0).toNat 0 (by decide) (by decide) o1 y (by omega) (by omega)
                    rw [show (0 : Int) * 10 + y = y by omega] at n
                    exact n e
                  · rw [tc] at y0 y1
                    have n := plN_n (T 449 m 1).toNat 0 (by decide) (by decide) pn (y - 10) (by omega) (by omega)
                    rw [show (1 : Int) * 10 + (y - 10) = y by omega] at n
                    exact n e
                · rw [plc_0 o1] at pn
                  exact o1 pn
              refine ⟨by omega, plr_s (m := m) hP (by omega) (by omega) (fun _ _ => ⟨⟨fun t' u0 u1 => ?_, fun t' x u0 u1 x0 x1 => ?_, fun t' x y u0 u1 x0 x1 y0 y1 e => ?_⟩, Or.inl ?_⟩) (fun j j0 j1 nj => ⟨?_, ?_⟩) (fun j _ _ => ⟨(f2 236 0 j rfl).trans (f1 236 0 j rfl), (f2 237 0 j rfl).trans (f1 237 0 j rfl)⟩)⟩
              · have y := g.1.1 t' u0 u1
                rw [e49]
                by_cases o1 : t' = t
                · rw [o1] at y ⊢
                  omega
                · rw [r5 _ (by omega), k39, s5 m t' (fun z => o1 z.2)]
                  exact y
              · have y := g.1.1 t' u0 u1
                rw [e49] at x1
                rw [e48]
                by_cases o1 : t' = t
                · rw [o1] at x0 x1 y
                  rw [s3] at x1
                  by_cases o2 : x = t * 10 + T 449 m t
                  · rw [o2, s1, show 20 * m + (t * 10 + T 449 m t) = 10 * (2 * m + t) + T1 239 0 (2 * m + t) by omega]
                    exact r1
                  · rw [r4 _ (by omega), k40, s4 m x (fun z => o2 z.2)]
                    exact g.1.2.1 t x b.1 b.2 x0 (by omega)
                · rw [s5 m t' (fun z => o1 z.2)] at x1
                  rw [r4 _ (by omega), k40, s4 m x (fun z => by have := z.2; omega)]
                  exact g.1.2.1 t' x u0 u1 x0 x1
              · have y9 := g.1.1 t' u0 u1
                rw [e49] at x1 y1
                rw [e48, e48] at e
                by_cases o1 : t' = t
                · rw [o1] at x0 x1 y0 y1
                  rw [s3] at x1 y1
                  by_cases o2 : x = t * 10 + T 449 m t
                  · by_cases o3 : y = t * 10 + T 449 m t
                    · omega
                    · rw [o2, s1, s4 m y (fun z => o3 z.2)] at e
                      exact absurd e.symm (nq y y0 (by omega))
                  · by_cases o3 : y = t * 10 + T 449 m t
                    · rw [o3, s1, s4 m x (fun z => o2 z.2)] at e
                      exact absurd e (nq x x0 (by omega))
                    · rw [s4 m x (fun z => o2 z.2), s4 m y (fun z => o3 z.2)] at e
                      exact g.1.2.2 t x y b.1 b.2 x0 (by omega) y0 (by omega) e
                · rw [s5 m t' (fun z => o1 z.2)] at x1 y1
                  rw [s4 m x (fun z => by have := z.2; omega), s4 m y (fun z => by have := z.2; omega)] at e
                  exact g.1.2.2 t' x y u0 u1 x0 x1 y0 y1 e
              · unfold PAA_ at pa ⊢
                rw [f2 102 m 6 rfl, f1 102 m 6 rfl, f2 102 m 10 rfl, f1 102 m 10 rfl, f2 235 0 m rfl, f1 235 0 m rfl, f2 236 0 m rfl, f1 236 0 m rfl, f2 237 0 m rfl, f1 237 0 m rfl, f2 254 0 m rfl, f1 254 0 m rfl, f2 256 0 m rfl, f1 256 0 m rfl]
                exact pa
              · refine khm_t ⟨fun K i d => ?_, ⟨f1 102 j 0 rfl, f1 102 j 6 rfl, f1 102 j 10 rfl⟩, ⟨f1 103 j 0 rfl, f1 103 j 14 rfl, f1 103 j 15 rfl, f1 103 j 17 rfl⟩, fun w => f1 401 _ w rfl, fun _ i _ _ => f1 190 _ i rfl⟩ (kH j)
                rcases dk_c d with rfl | rfl | rfl | rfl | rfl | rfl | rfl | rfl | rfl | rfl | ⟨rfl, _⟩
                · exact s4 j i (fun z => nj z.1)
                · exact s5 j i (fun z => nj z.1)
                all_goals exact f1 _ j i rfl
              · refine kqm_t (kR j) ⟨?_, rw_k (fun k x c => by rcases c with rfl | rfl | rfl | rfl <;> exact f2 _ 0 x rfl) (fun x => f2 252 0 x rfl) (f2 253 0 j rfl) (f2 254 0 j rfl), f2 254 0 j rfl, f2 256 0 j rfl⟩
                funext K i
                by_cases y : dm_ K i = true
                · rw [rp_d y, rp_d y]
                  rcases dm_c y with ⟨z1, z2, z3, z4, z5⟩ | ⟨z1, z2, z3, z4, z5⟩ | ⟨z1, z2, z3, z4, z5⟩ | ⟨z1, z2, z3, z4, z5⟩ | ⟨z1, z2, z3, z4, z5⟩ | ⟨z1, z2, z3, z4, z5⟩ | ⟨z1, z2, z3, z4, z5⟩ | ⟨z1, z2, z3, z4, z5⟩ | ⟨z1, z2, z3, z4, z5⟩ | ⟨z1, z2, z3, z4, z5⟩ | ⟨z1, z2, z4, z5⟩ | ⟨z1, z2, z4, z5⟩ | ⟨z1, z2, z4, z5⟩ | ⟨z1, z2, z4, z5⟩ | ⟨z1, z2, z4, z5⟩ <;> rw [z4, z5] <;> first | exact f2 _ 0 _ rfl | exact r5 _ (by omega) | exact r4 _ (by omega)
                · rw [rp_z y, rp_z y]
-- postponements, plans, competitions, referees and title: the plays stay alike
/-- each match is of clubs that are there -/
def CLM_ (T : Zt) : Prop := ∀ m, 0 ≤ m → m < T 106 0 4 → T 102 m 3 < T 108 0 2 ∧ T 102 m 4 < T 108 0 2
theorem sa_q {T T1 : Zt} {N : Int} {f f' : Int → Int} {a b x : Int} (hT : ok_T T) (hI : IC_ N T) (hP : PLR_ T) (hX : TXR_ T) (hM : MAR_ T) (hH : THR_ T) (hC : CLM_ T) (e : ∀ (k : Nat) (j : Int), k = 205 ∨ k = 213 ∨ k = 230 ∨ k = 232 ∨ k = 233 ∨ k = 235 → T1 k 0 j = T k 0 j) (a0 : 0 ≤ a) (a1 : a < T 106 0 4) (b0 : 0 ≤ b) (b1 : b < T 106 0 4) (hf : f' b = f b) : SAR_ T1 f' a b x ↔ SAH_ T f a b x := by
  have ma := hM.2 a a0 a1
  have mb := hM.2 b b0 b1
  have ca := (hI.1.2.1 a a0 a1).2
  have cb := (hI.1.2.1 b b0 b1).2
  have na : 0 ≤ T 102 a 3 := (bd_f hT 102 3 tl_2_3 a).1
  have nb : 0 ≤ T 102 b 3 := (bd_f hT 102 3 tl_2_3 b).1
  have ta := (hH.1 _ na (hC a a0 a1).1).1
  have tb := (hH.1 _ nb (hC b b0 b1).1).1
  unfold SAR_ SAH_
  refine sa_e ?_ ?_ ⟨?_, ?_⟩ ?_ ?_ hf
  · unfold sqR_ sqH_
    rw [e 213 _ (by decide), e 213 _ (by decide), e 232 _ (by decide), e 232 _ (by decide), ← ma.2.2.1, ← mb.2.2.1, ta, tb]
  · unfold hqR_ hqH_
    rw [e 232 a (by decide), e 232 b (by decide), e 233 a (by decide), e 233 b (by decide), ← ma.2.2.1, ← mb.2.2.1, ← ma.2.2.2, ← mb.2.2.2]
    constructor
    · intro u; omega
    · intro u; omega
  · unfold rsR_ rsH_
    rw [e 205 _ (by decide), e 230 _ (by decide), ← ma.1]
    exact ((hX.2.2.2.2 _ ca.1 ca.2).1 8 (by decide) (by decide)).symm
  · unfold rsR_ rsH_
    rw [e 205 _ (by decide), e 230 _ (by decide), ← mb.1]
    exact ((hX.2.2.2.2 _ cb.1 cb.2).1 8 (by decide) (by decide)).symm
  · unfold abR_ abH_
    rw [e 235 _ (by decide)]
    exact (pm_3 (hP.1 a a0 a1).2).symm
  · unfold abR_ abH_
    rw [e 235 _ (by decide)]
    exact (pm_3 (hP.1 b b0 b1).2).symm
/-- a match put off -/
theorem pl_post {T T1 T2 : Zt} {N m d x1 x2 : Int} (hT : ok_T T) (hI : IC_ N T) (hP : PLR_ T) (hX : TXR_ T) (hM : MAR_ T) (hH : THR_ T) (hC : CLM_ T) (hD : DAR_ T) (hV : MVR_ T) (hN : CNR_ T) (f1 : fr_ [(535, []), (534, []), (102, [5]), (533, []), (531, []), (106, [12])] T T1) (d1 : ((x1 = -2 ∧ ¬ (0 ≤ m ∧ m < T 106 0 4) ∧ T = T1) ∨ ((0 ≤ m ∧ m < T 106 0 4) ∧ ((x1 = -3 ∧ ¬ (T 108 0 13 < d ∧ d ≤ 999 ∧ 0 ≤ d) ∧ T = T1) ∨ ((T 108 0 13 < d ∧ d ≤ 999 ∧ 0 ≤ d) ∧ ((x1 = -4 ∧ ¬ ((T 102 m 6 = -1 ∧ T 102 m 10 = 0) ∧ T 102 m 5 ≠ d) ∧ T = T1) ∨ (((T 102 m 6 = -1 ∧ T 102 m 10 = 0) ∧ T 102 m 5 ≠ d) ∧ PTO_ T T1 m d x1))))))) (f2 : fr_ [(234, []), (271, []), (272, []), (111, [73, 75]), (274, [])] T1 T2) (d2 : ((x2 = -2 ∧ ¬ (0 ≤ m ∧ m < T1 111 0 29) ∧ T1 = T2) ∨ ((0 ≤ m ∧ m < T1 111 0 29) ∧ ((x2 = -3 ∧ ¬ (T1 111 0 3 < d ∧ d ≤ 999 ∧ 0 ≤ d) ∧ T1 = T2) ∨ ((T1 111 0 3 < d ∧ d ≤ 999 ∧ 0 ≤ d) ∧ ((x2 = -4 ∧ ¬ (T1 235 0 m = 0 ∧ T1 234 0 m ≠ d) ∧ T1 = T2) ∨ ((T1 235 0 m = 0 ∧ T1 234 0 m ≠ d) ∧ PTQ_ T1 T2 m d x2))))))) : x1 = x2 ∧ DAR_ T2 ∧ MVR_ T2 := by
  have c4 : T1 106 0 4 = T 106 0 4 := f1 106 0 4 rfl
  have c29 : T1 111 0 29 = T 111 0 29 := f1 111 0 29 rfl
  have c3 : T1 111 0 3 = T 111 0 3 := f1 111 0 3 rfl
  have v4 : T2 106 0 4 = T1 106 0 4 := f2 106 0 4 rfl
  have v5 : ∀ i, T2 102 i 5 = T1 102 i 5 := fun i => f2 102 i 5 rfl
  have v12 : T2 106 0 12 = T1 106 0 12 := f2 106 0 12 rfl
  have v31 : ∀ j, T2 531 0 j = T1 531 0 j := fun j => f2 531 0 j rfl
  have c34 : ∀ j, T1 234 0 j = T 234 0 j := fun j => f1 234 0 j rfl
  have c74 : ∀ j, T1 274 0 j = T 274 0 j := fun j => f1 274 0 j rfl
  have c75 : T1 111 0 75 = T 111 0 75 := f1 111 0 75 rfl
  have c35 : ∀ j, T1 235 0 j = T 235 0 j := fun j => f1 235 0 j rfl
  have mm := hM.1
  have t6 := hN.2.2.2
  have m4 : 0 ≤ T 106 0 4 ∧ T 106 0 4 ≤ 400 := bd_f hT 106 4 tl_6_4 0
  rcases d1 with ⟨rfl, hn, rfl⟩ | ⟨hm, d1⟩
  · rcases d2 with ⟨rfl, -, rfl⟩ | ⟨hm2, -⟩
    · exact ⟨rfl, hD, hV⟩
    · exfalso; omega
  · obtain ⟨-, d2⟩ := d2.resolve_left (fun z => z.2.1 (by omega))
    rcases d1 with ⟨rfl, a, rfl⟩ | ⟨a, d1⟩
    · rcases d2 with ⟨rfl, -, rfl⟩ | ⟨y, -⟩
      · exact ⟨rfl, hD, hV⟩
      · exfalso; omega
    · obtain ⟨-, d2⟩ := d2.resolve_left (fun z => z.2.1 (by omega))
      have t7 := pm_0 (hP.1 m hm.1 hm.2).2
      have t5 := hD m hm.1 hm.2
      have u5 := c34 m
      have u6 := c35 m
      rcases d1 with ⟨rfl, b, rfl⟩ | ⟨b, d1⟩
      · rcases d2 with ⟨rfl, -, rfl⟩ | ⟨y, -⟩
        · exact ⟨rfl, hD, hV⟩
        · exfalso; omega
      · obtain ⟨-, d2⟩ := d2.resolve_left (fun z => z.2.1 (by omega))
        have ee : ∀ (k : Nat) (j : Int), k = 205 ∨ k = 213 ∨ k = 230 ∨ k = 232 ∨ k = 233 ∨ k = 235 → T1 k 0 j = T k 0 j := fun k j h => by
          rcases h with rfl | rfl | rfl | rfl | rfl | rfl <;> exact f1 _ 0 j rfl
        have dq : ∀ j, 0 ≤ j → j < T 106 0 4 → T1 234 0 j = T 102 j 5 := fun j j0 j1 => (c34 j).trans (hD j j0 j1).symm
        have ag : ∀ k, 0 ≤ k → k < T 106 0 4 → (AGR_ T1 m d k ↔ AGH_ T m d k) := fun k k0 k1 => sa_q hT hI hP hX hM hH hC ee hm.1 hm.2 k0 k1 (dq k k0 k1)
        have bk : ∀ (f f' : Int → Int) (k x : Int), (∀ j, 0 ≤ j → j < T 106 0 4 → f' j = f j) → 0 ≤ k → k < T 106 0 4 → (BKR_ T1 f' k x ↔ BKH_ T f k x) := fun f f' k x h k0 k1 => by
          unfold BKR_ BKH_ BK_
          constructor
          · rintro ⟨z, z0, z1, z2⟩
            exact ⟨z, z0, by omega, (sa_q hT hI hP hX hM hH hC ee k0 k1 z0 (by omega) (h z z0 (by omega))).mp z2⟩
          · rintro ⟨z, z0, z1, z2⟩
            exact ⟨z, z0, by omega, (sa_q hT hI hP hX hM hH hC ee k0 k1 z0 z1 (h z z0 z1)).mpr z2⟩
        have mv := mv_e (bk := BKH_ T) (bk' := BKR_ T1) (ag := AGH_ T m d) (ag' := AGR_ T1 m d) (d := d) (day := u1_ (fun m => T 102 m 5) m d) (day' := u1_ (fun m => T1 234 0 m) m d) (n := T 106 0 4) (fun j j0 j1 => by
          by_cases z : j = m
          · rw [z, u1_s, u1_s]
          · rw [u1_n z, u1_n z]
            exact dq j j0 j1) ag bk (T 106 0 4).toNat (by omega)
        have tl : (∀ k, 0 ≤ k → k < T1 111 0 29 → AGR_ T1 m d k → TLR_ T1 k) ↔ (∀ k, 0 ≤ k → k < T 106 0 4 → AGH_ T m d k → TLD_ T k) := by
          constructor
          · intro h k k0 k1 k2
            have y : T1 235 0 k = 0 := h k k0 (by omega) ((ag k k0 k1).mpr k2)
            exact (pm_0 (hP.1 k k0 k1).2).mpr ((c35 k).symm.trans y)
          · intro h k k0 k1 k2
            have k1' : k < T 106 0 4 := by omega
            show T1 235 0 k = 0
            rw [c35]
            exact (pm_0 (hP.1 k k0 k1').2).mp (h k k0 k1' ((ag k k0 k1').mp k2))
        have e2 : (mvR_ T1 m d (T1 111 0 29)).2 = (mvH_ T m d (T 106 0 4)).2 := by
          unfold mvR_ mvH_
          rw [show T1 111 0 29 = T 106 0 4 by omega]
          exact mv.1
        have e3 : ∀ j, 0 ≤ j → j < T 106 0 4 → (mvR_ T1 m d (T1 111 0 29)).1 j = (mvH_ T m d (T 106 0 4)).1 j := fun j j0 j1 => by
          unfold mvR_ mvH_
          rw [show T1 111 0 29 = T 106 0 4 by omega]
          exact mv.2 j j0 j1
        unfold PTO_ at d1
        unfold PTQ_ at d2
        rw [tl, e2] at d2
        rcases d1 with ⟨x, y, z1, z2, z3⟩ | ⟨x, y1, y2, z1, z2, z3, z4⟩
        · rcases d2 with ⟨u, -, w1, w2, w3⟩ | ⟨-, u1, u2, -⟩
          · refine ⟨by omega, fun j j0 j1 => ?_, ?_, fun k k0 k1 => ?_⟩
            · rw [v5, z1, w1, c34]
              exact hD j j0 (by omega)
            · have := hV.1; omega
            · rw [v31, z2, w2, c74]
              exact hV.2 k k0 (by omega)
          · exact absurd ⟨u1, u2⟩ y
        · rcases d2 with ⟨-, u, -⟩ | ⟨u, -, -, w1, w2, w3⟩
          · exact absurd ⟨y1, y2⟩ u
          · rw [show T1 111 0 29 = T 106 0 4 by omega] at w2
            have lq := lhd_q z3 w2 (fun j j0 j1 => (ag j (by omega) (by omega)).symm) x u
            refine ⟨lq.1, fun j j0 j1 => ?_, by omega, fun k k0 k1 => ?_⟩
            · rw [v5, z1, w1]
              exact (e3 j j0 (by omega)).symm
            · rw [v31]
              exact lq.2 k k0 (by omega)
/-- what both plans do -/
theorem enr_b {T T1 T2 : Zt} {c f x1 x2 : Int} (h : ENR_ T) (hm : MAR_ T) (ht : TXR_ T) (hd : T 108 0 13 = T 111 0 3) (hd0 : 0 ≤ T 108 0 13) (h0 : 0 ≤ T 106 0 4) (hb5 : ∀ d, 0 ≤ T 100 d 5 ∧ T 100 d 5 ≤ 12) (d1 : PH9_ T T1 c f x1) (r : krn_ T T1) (rp : krp_ T T1) (rt : ktr_ T T1) (r3 : T1 111 0 3 = T 111 0 3) (d2 : PR9_ T1 T2 c f x2) (s2 : (x2 < 0 ∧ T2 = T1) ∨ PQ9_ T1 T2 c) : (T1 = T ∧ T2 = T1) ∨ ((0 ≤ c ∧ c < T 106 0 2) ∧ SJ_ T T1 c ∧ PQ9_ T1 T2 c ∧ ∃ l, AP9_ T T1 c l ∧ AR9_ T1 T2 c l) := by
  obtain ⟨t1, t2, t3, t4, t5⟩ := ht
  by_cases hc : 0 ≤ c ∧ c < T 106 0 2
  · obtain ⟨z1, z2, z3, z4, z5, z6⟩ := h.1 c hc.1 hc.2
    have tc := (t5 c hc.1 hc.2).1
    have q6 := tc 6 (by omega) (by omega)
    have q7 := tc 7 (by omega) (by omega)
    have rc := r.2 c
    have e8 : T1 208 0 c = T 100 c 5 := by omega
    have e9 : T1 209 0 c = T 100 c 6 := by omega
    have e6 : T1 205 0 (23 * c + 6) = T 401 c 6 := by rw [rt.2.2.2.2]; omega
    have e7 : T1 205 0 (23 * c + 7) = T 401 c 7 := by rw [rt.2.2.2.2]; omega
    have am := an9_m (x := T 100 c 5) (by have := hb5 c; omega)
    have e29 : T1 111 0 29 = T 106 0 4 := by have := rp.1; have := hm.1; omega
    unfold PR9_ at d2
    rw [e8, e9, e6, e7, e29, r3, ← hd, Int.mul_comm (T 401 c 6) (T 100 c 5 + T 100 c 5 % 2 - 1), Int.mul_comm (T 401 c 6) (T 100 c 5 * (T 100 c 5 - 1) / 2)] at d2
    unfold PH9_ at d1
    rw [am] at d1
    have hc2 : 0 ≤ c ∧ c < T1 111 0 6 := by have := rt.2.2.1; omega
    rcases d1 with ⟨a0, a⟩ | ⟨a1, a2, a3, a4, a5, a6, a7, a8, a9⟩
    · rcases d2 with ⟨b0, b⟩ | ⟨b1, b2, b3, b4, b5, b6, b7, b8, b9⟩
      · exact Or.inl ⟨a0, b0⟩
      · exfalso
        omega
    · rcases d2 with ⟨b0, b⟩ | ⟨b1, b2, b3, b4, b5, b6, b7, b8, b9⟩
      · exfalso
        omega
      · exact Or.inr ⟨hc, a8, s2.resolve_left (fun z => by omega), _, a9, b9⟩
  · have hc2 : ¬ (0 ≤ c ∧ c < T1 111 0 6) := by have := rt.2.2.1; omega
    unfold PR9_ at d2
    unfold PH9_ at d1
    rcases d1 with ⟨a0, -⟩ | ⟨a1, -⟩
    · rcases d2 with ⟨b0, -⟩ | ⟨b1, -⟩
      · exact Or.inl ⟨a0, b0⟩
      · exact absurd b1 hc2
    · exact absurd a1 hc
/-- a plan -/
theorem pl_plan {T T1 T2 : Zt} {N c : Int} (hI : IC_ N T) (hR : IR_ T) (hP : PLR_ T) (hL : LDR_ T) (hM : MAR_ T) (hD : DAR_ T) (hC : CLM_ T) (i2 : IC_ (N + 1) T2) (j2 : IR_ T2) (hE2 : ENR_ T2) (hN2 : CNR_ T2) (c4 : T 106 0 2 ≤ 4) (cl3_ : ∀ i, 0 ≤ T2 102 i 3 ∧ T2 102 i 3 < 12) (cl4_ : ∀ i, 0 ≤ T2 102 i 4 ∧ T2 102 i 4 < 12) (h40 : T2 111 0 29 ≤ 400) (sk : SQ8_ T T1) (g : (T1 = T ∧ T2 = T1) ∨ ((0 ≤ c ∧ c < T 106 0 2) ∧ SJ_ T T1 c ∧ PQ9_ T1 T2 c ∧ ∃ l, AP9_ T T1 c l ∧ AR9_ T1 T2 c l)) (f2 : fr_ [(230, []), (231, []), (232, []), (233, []), (234, []), (235, []), (238, []), (253, []), (255, []), (111, [29]), (209, []), (210, []), (211, [])] T1 T2) : PLR_ T2 ∧ LDR_ T2 ∧ DAR_ T2 ∧ CLM_ T2 := by
  rcases g with ⟨rfl, rfl⟩ | ⟨hc, ⟨-, f1, od, -, ⟨s6, s7, s8⟩, oc⟩, ⟨⟨am1, am2, am3, am4⟩, -, -, -, -, -⟩, l, ⟨p1, p2⟩, q1, q2⟩
  · exact ⟨hP, hL, hD, hC⟩
  · have c29 : T1 111 0 29 = T 111 0 29 := f1 111 0 29 rfl
    have v4 : T2 106 0 4 = T1 106 0 4 := f2 106 0 4 rfl
    have mm := hM.1
    have kH : ∀ j, KHM_ T1 T2 j := fun j => khm_s (ks_f f2 (by decide +kernel))
    have new : ∀ m, T 106 0 4 ≤ m → m < T1 106 0 4 → ∃ (k : Nat) (q : Fx9_), m = T 106 0 4 + (k : Int) ∧ l[k]? = some q := fun m a b => by
      have hk : (m - T 106 0 4).toNat < l.length := by omega
      exact ⟨(m - T 106 0 4).toNat, l[(m - T 106 0 4).toNat], by omega, List.getElem?_eq_getElem hk⟩
    have old : ∀ j, 0 ≤ j → j < T 106 0 4 → KHM_ T T2 j ∧ KRM_ T T2 j := fun j j0 j1 => by
      refine ⟨khm_t ⟨fun K i d => ?_, ⟨od j 0 j1, od j 6 j1, od j 10 j1⟩, ⟨f1 103 j 0 rfl, f1 103 j 14 rfl, f1 103 j 15 rfl, f1 103 j 17 rfl⟩, fun w => f1 401 _ w rfl, fun _ i _ _ => f1 190 _ i rfl⟩ (kH j), kqm_t (kqm_s (ks_f f1 (by decide +kernel))) ⟨?_, rw_k (fun k x c => by rcases c with rfl | rfl | rfl | rfl <;> exact f2 _ 0 x rfl) (fun x => f2 252 0 x rfl) (am2 j (by omega)).2.2.2.2.2.2.2.1 (f2 254 0 j rfl), f2 254 0 j rfl, f2 256 0 j rfl⟩⟩
      · rcases dk_c d with rfl | rfl | rfl | rfl | rfl | rfl | rfl | rfl | rfl | rfl | ⟨rfl, _⟩
        · exact sk.1 448 j i (Or.inl rfl) j1
        · exact sk.1 449 j i (Or.inr rfl) j1
        all_goals exact f1 _ j i rfl
      · funext K i
        by_cases y : dm_ K i = true
        · rw [rp_d y, rp_d y]
          rcases dm_c y with ⟨z1, z2, z3, z4, z5⟩ | ⟨z1, z2, z3, z4, z5⟩ | ⟨z1, z2, z3, z4, z5⟩ | ⟨z1, z2, z3, z4, z5⟩ | ⟨z1, z2, z3, z4, z5⟩ | ⟨z1, z2, z3, z4, z5⟩ | ⟨z1, z2, z3, z4, z5⟩ | ⟨z1, z2, z3, z4, z5⟩ | ⟨z1, z2, z3, z4, z5⟩ | ⟨z1, z2, z3, z4, z5⟩ | ⟨z1, z2, z4, z5⟩ | ⟨z1, z2, z4, z5⟩ | ⟨z1, z2, z4, z5⟩ | ⟨z1, z2, z4, z5⟩ | ⟨z1, z2, z4, z5⟩ <;> rw [z4, z5] <;> first | exact f2 _ 0 _ rfl | exact (am2 j (by omega)).2.2.2.2.2.1
        · rw [rp_z y, rp_z y]
    refine ⟨⟨fun j j0 j1 => ?_, fun j j0 j1 => ?_⟩, ?_, fun j j0 j1 => ?_, fun j j0 j1 => ?_⟩
    · by_cases z : j < T 106 0 4
      · have g := hP.1 j j0 z
        have k := old j j0 z
        exact ⟨shm_k g.1 k.1 k.2, pm_k g.2 k.1 k.2⟩
      · obtain ⟨k, q, e, hq⟩ := new j (by omega) (by omega)
        have y := p2 k q hq
        have w := q2 k q hq
        rw [show T1 111 0 29 + (k : Int) = j by omega] at w
        rw [← e] at y
        have s9 := hR.2.2.2.2.2.2.1 j
        have e49 : ∀ t, 0 ≤ t → T2 449 j t = 0 := fun t t0 => (f2 449 j t rfl).trans (sk.2 j t (by omega) (by omega) t0)
        have e39 : ∀ t, 0 ≤ t → t ≤ 1 → T2 239 0 (2 * j + t) = 0 := fun t t0 t1 => (f2 239 0 _ rfl).trans ((f1 239 0 _ rfl).trans ((s9 t (by omega) (by omega) t0 t1).2 (by omega)))
        have rz := hR.2.2.2.2.2.2.2.2.2.1 j (by omega) (by omega)
        have hz := hP.2 j (by omega) (by omega)
        refine ⟨⟨fun t t0 t1 => ?_, fun t x t0 t1 x0 x1 => ?_, fun t x y t0 t1 x0 x1 y0 y1 e => ?_⟩, Or.inl ⟨?_, ?_, w.2.2.2.2.2.1, ?_, ?_, ?_, ?_⟩⟩
        · rw [e39 t t0 t1, e49 t t0]
          exact ⟨rfl, by decide, by decide⟩
        · rw [e49 t t0] at x1
          exfalso; omega
        · rw [e49 t t0] at x1
          exfalso; omega
        · rw [f2 102 j 6 rfl]; exact y.2.2.2.2.2.1
        · rw [f2 102 j 10 rfl]; exact y.2.2.2.2.2.2.2
        · exact (f2 236 0 j rfl).trans ((f1 236 0 j rfl).trans hz.1)
        · exact (f2 237 0 j rfl).trans ((f1 237 0 j rfl).trans hz.2)
        · exact (f2 254 0 j rfl).trans ((f1 254 0 j rfl).trans rz.1)
        · exact (f2 256 0 j rfl).trans ((f1 256 0 j rfl).trans rz.2)
    · have hz := hP.2 j (by omega) j1
      have y1 : T2 236 0 j = T 236 0 j := (f2 236 0 j rfl).trans (f1 236 0 j rfl)
      have y2 : T2 237 0 j = T 237 0 j := (f2 237 0 j rfl).trans (f1 237 0 j rfl)
      omega
    · have e10 : ∀ j, 0 ≤ j → j < T2 106 0 4 → T2 102 j 10 ≠ 0 → j < T 106 0 4 ∧ T 102 j 10 ≠ 0 := fun j j0 j1 jp => by
        by_cases z : j < T 106 0 4
        · rw [f2 102 j 10 rfl, od j 10 z] at jp
          exact ⟨z, jp⟩
        · exfalso
          obtain ⟨k, q, e, hq⟩ := new j (by omega) (by omega)
          have y := p2 k q hq
          rw [← e] at y
          rw [f2 102 j 10 rfl] at jp
          exact jp y.2.2.2.2.2.2.2
      have e14 : ∀ j, T2 103 j 14 = T 103 j 14 := fun j => (f2 103 j 14 rfl).trans (f1 103 j 14 rfl)
      have e16 : ∀ j, T2 103 j 16 = T 103 j 16 := fun j => (f2 103 j 16 rfl).trans (f1 103 j 16 rfl)
      have e44 : T2 104 0 4 = T 104 0 4 := (f2 104 0 4 rfl).trans (f1 104 0 4 rfl)
      have e15 : T2 109 0 15 = T 109 0 15 := (f2 109 0 15 rfl).trans (f1 109 0 15 rfl)
      have e91 : T2 191 0 0 = T 191 0 0 := (f2 191 0 0 rfl).trans (f1 191 0 0 rfl)
      refine ⟨by have := hL.1; omega, fun i i0 i1 ip => ?_⟩
      have y := e10 i i0 i1 ip
      have u := hL.2 i i0 y.1 y.2
      rw [e14, e16, e44, e15]
      refine ⟨u.1, fun j j0 j1 jp n => ?_⟩
      have y2 := e10 j j0 j1 jp
      rw [e14, e16]
      exact u.2 j j0 y2.1 y2.2 n
    · by_cases z : j < T 106 0 4
      · rw [f2 102 j 5 rfl, od j 5 z, (am2 j (by omega)).2.2.2.2.1, f1 234 0 j rfl]
        exact hD j j0 z
      · obtain ⟨k, q, e, hq⟩ := new j (by omega) (by omega)
        have y := p2 k q hq
        have w := q2 k q hq
        rw [show T1 111 0 29 + (k : Int) = j by omega] at w
        rw [← e] at y
        rw [f2 102 j 5 rfl, y.2.2.2.2.1, w.2.2.2.2.1]
    · have e108 : T2 108 0 2 = T 108 0 2 := (f2 108 0 2 rfl).trans (f1 108 0 2 rfl)
      by_cases z : j < T 106 0 4
      · rw [f2 102 j 3 rfl, f2 102 j 4 rfl, od j 3 z, od j 4 z, e108]
        exact hC j j0 z
      · have b2 : T2 106 0 2 = T 106 0 2 := (f2 106 0 2 rfl).trans (f1 106 0 2 rfl)
        have h7 : T2 100 c 7 = T1 100 c 7 := f2 100 c 7 rfl
        have h8 : T2 100 c 8 = T1 100 c 8 := f2 100 c 8 rfl
        have ks := i2.1.2.2.2.2.1 c hc.1 (by omega) j (by omega) (by omega)
        have en := hE2.1 c hc.1 (by omega)
        have ee := (j2.2.2.2.1 c hc.1 (by omega)).1
        have n2 := hN2.1
        have key : ∀ b, 0 ≤ b → b < 12 → 0 ≤ T2 404 c b → b < T2 108 0 2 := fun b b0 b1 s => by
          rcases en.2.2.2.2.2 b b0 b1 with y | ⟨y1, y2, y3⟩
          · omega
          · have u := en.2.2.2.2.1 _ y1 y2
            have v := ee _ y1 (by have := en.1; omega)
            rw [← u, y3] at v
            omega
        exact ⟨key _ (cl3_ j).1 (cl3_ j).2 ks.2.1, key _ (cl4_ j).1 (cl4_ j).2 ks.2.2⟩
/-- the plays under what leaves all rows but one -/
theorem plr_a {T T1 : Zt} {N w : Int} (hl : LP_ N T) (hP : PLR_ T) (k : ks_ [(102, [0, 6, 10]), (103, []), (448, []), (449, []), (466, []), (467, []), (468, []), (469, []), (470, []), (471, []), (472, []), (473, []), (401, [])] T T1) (kr : ks_ FRF_ T T1) (c1 : T1 106 0 4 = T 106 0 4) (c2 : T1 111 0 29 = T 111 0 29) (h : ∀ x j, x < T 191 0 0 → x ≠ w → T1 190 x j = T 190 x j) (g : ∀ m, 0 ≤ m → m < T 106 0 4 → T 102 m 10 ≠ 0 → T 103 m 14 ≠ w) : PLR_ T1 := by
  refine plr_s (m := -1) hP c1 c2 (fun z => absurd z (by decide)) (fun j j0 j1 _ => ⟨⟨fun K i d => ?_, ⟨k 102 j 0 rfl, k 102 j 6 rfl, k 102 j 10 rfl⟩, ⟨k 103 j 0 rfl, k 103 j 14 rfl, k 103 j 15 rfl, k 103 j 17 rfl⟩, fun w => k 401 _ w rfl, fun q i _ _ => h _ i (hl j j0 j1 q).1.2.2.2.2.2.1 (g j j0 j1 q)⟩, kqm_s kr⟩) (fun j _ _ => ⟨kr 236 0 j rfl, kr 237 0 j rfl⟩)
  rcases dk_c d with rfl | rfl | rfl | rfl | rfl | rfl | rfl | rfl | rfl | rfl | ⟨rfl, _⟩ <;> exact k _ j i rfl
theorem ldr_a {T T1 : Zt} {N : Int} (hl : LP_ N T) (h : LDR_ T) (e : T1 106 0 4 = T 106 0 4) (e15 : T1 109 0 15 = T 109 0 15) (g : ∀ m, T1 102 m 10 = T 102 m 10 ∧ T1 103 m 14 = T 103 m 14 ∧ T1 103 m 16 = T 103 m 16) (l : T 191 0 0 ≤ T1 191 0 0) (k : T1 104 0 4 = T 104 0 4 ∨ (T1 104 0 4 = T 191 0 0 ∧ T 191 0 0 < T1 191 0 0)) : LDR_ T1 := by
  refine ⟨by have := h.1; omega, fun m m0 m1 mp => ?_⟩
  have gm := g m
  have y := h.2 m m0 (by omega) (by omega)
  have lm := (hl m m0 (by omega) (by omega)).1.2.2.2.2.2.1
  refine ⟨by have := y.1; omega, fun j j0 j1 jp n => ?_⟩
  have gj := g j
  have w := y.2 j j0 (by omega) (by omega) n
  omega
theorem ldr_c {T T1 : Zt} {N : Int} (hl : LP_ N T) (h : LDR_ T) (e : T1 106 0 4 = T 106 0 4) (e44 : T1 104 0 4 = T 104 0 4) (g : ∀ m, T1 102 m 10 = T 102 m 10 ∧ T1 103 m 14 = T 103 m 14 ∧ T1 103 m 16 = T 103 m 16) (l : T 191 0 0 ≤ T1 191 0 0) (k : T1 109 0 15 = T 109 0 15 ∨ (T1 109 0 15 = T 191 0 0 + 1 ∧ T 191 0 0 < T1 191 0 0)) : LDR_ T1 := by
  refine ⟨by have := h.1; omega, fun m m0 m1 mp => ?_⟩
  have gm := g m
  have y := h.2 m m0 (by omega) (by omega)
  have lm := (hl m m0 (by omega) (by omega)).1.2.2.2.2.2.1
  refine ⟨by have := y.1; omega, fun j j0 j1 jp n => ?_⟩
  have gj := g j
  have w := y.2 j j0 (by omega) (by omega) n
  omega
/-- referees shared out -/
theorem pl_assign {T T1 : Zt} {N : Int} (hI : IC_ N T) (hP : PLR_ T) (hL : LDR_ T) (f1 : fr_ [(104, [3, 4]), (482, []), (102, [7]), (190, []), (191, [0])] T T1) (k : KPA_ T T1) (lh : lh_ T T1) : PLR_ T1 ∧ LDR_ T1 :=
  ⟨plr_a hI.2.2.2.1 hP (ks_f f1 (by decide +kernel)) (ks_f f1 (by decide +kernel)) (f1 106 0 4 rfl) (f1 111 0 29 rfl) k.1 (fun m a b c => (hL.2 m a b c).1.2.1), ldr_a hI.2.2.2.1 hL (f1 106 0 4 rfl) (f1 109 0 15 rfl) (fun m => ⟨f1 102 m 10 rfl, f1 103 m 14 rfl, f1 103 m 16 rfl⟩) lh.2 k.2⟩
/-- the title asked for -/
theorem pl_can {T T1 : Zt} {N : Int} (hI : IC_ N T) (hP : PLR_ T) (hL : LDR_ T) (f1 : fr_ [(109, [5, 3, 9, 6, 2, 15]), (584, []), (588, []), (587, []), (591, []), (592, []), (590, []), (593, []), (594, []), (107, [1]), (542, []), (543, []), (544, []), (545, []), (546, []), (190, []), (191, [0])] T T1) (k : KPT_ T T1) (lh : lh_ T T1) : PLR_ T1 ∧ LDR_ T1 :=
  ⟨plr_a (w := T 109 0 15 - 1) hI.2.2.2.1 hP (ks_f f1 (by decide +kernel)) (ks_f f1 (by decide +kernel)) (f1 106 0 4 rfl) (f1 111 0 29 rfl) (fun x j a b => k.1 x j a (by omega)) (fun m a b c => by have := (hL.2 m a b c).1.2.2; omega), ldr_c hI.2.2.2.1 hL (f1 106 0 4 rfl) (f1 104 0 4 rfl) (fun m => ⟨f1 102 m 10 rfl, f1 103 m 14 rfl, f1 103 m 16 rfl⟩) lh.2 k.2⟩
/-- a new competition -/
theorem pl_comp {T T1 : Zt} {N : Int} (hI : IC_ N T) (hP : PLR_ T) (k : ks_ [(102, [0, 6, 10]), (103, []), (448, []), (449, []), (466, []), (467, []), (468, []), (469, []), (470, []), (471, []), (472, []), (473, []), (190, [])] T T1) (kr : ks_ FRF_ T T1) (c1 : T1 106 0 4 = T 106 0 4) (c2 : T1 111 0 29 = T 111 0 29) (h : ∀ i j, i ≠ T 106 0 2 → T1 401 i j = T 401 i j) : PLR_ T1 := by
  refine plr_s (m := -1) hP c1 c2 (fun z => absurd z (by decide)) (fun j j0 j1 _ => ⟨⟨fun K i d => ?_, ⟨k 102 j 0 rfl, k 102 j 6 rfl, k 102 j 10 rfl⟩, ⟨k 103 j 0 rfl, k 103 j 14 rfl, k 103 j 15 rfl, k 103 j 17 rfl⟩, fun w => h _ w (by have := (hI.1.2.1 j j0 j1).2; omega), fun _ i _ _ => k 190 _ i rfl⟩, kqm_s kr⟩) (fun j _ _ => ⟨kr 236 0 j rfl, kr 237 0 j rfl⟩)
  rcases dk_c d with rfl | rfl | rfl | rfl | rfl | rfl | rfl | rfl | rfl | rfl | ⟨rfl, _⟩ <;> exact k _ j i rfl
/-- a home has its matches of a competition on different days still -/
theorem dd_p {T T1 : Zt} {p d x : Int} (hd : DD_ T) (e4 : T1 106 0 4 = T 106 0 4) (m4 : 0 ≤ T 106 0 4) (h : PTO_ T T1 p d x) : DD_ T1 := by
  rcases h with ⟨-, -, o, -, -⟩ | ⟨-, -, y2, z1, z2, -, -⟩
  · intro i j i0 i1 j1 a b c e q
    rw [o i 6] at a
    rw [o j 6] at b
    rw [o i 0, o j 0] at c
    rw [o i 3, o j 3] at e
    rw [o i 5, o j 5] at q
    rw [e4] at j1
    exact hd i j i0 i1 j1 a b c e q
  · intro i j i0 i1 j1 a b c e q
    rw [z2 i 6 (by decide)] at a
    rw [z2 j 6 (by decide)] at b
    rw [z2 i 0 (by decide), z2 j 0 (by decide)] at c
    rw [z2 i 3 (by decide), z2 j 3 (by decide)] at e
    rw [z1, z1] at q
    rw [e4] at j1
    have g := mv_dd (sq := sqH_ T) (hq := hqH_ T) (R := fun a b => T 102 a 0 = T 102 b 0 ∧ T 102 a 3 = T 102 b 3) (rs := rsH_ T) (ab := abH_ T) (n := T 106 0 4) (p := p) (d := d) (ag := AGH_ T p d) (day := u1_ (fun m => T 102 m 5) p d) (fun a b r => by
        show T 560 0 (T 102 a 3) = T 560 0 (T 102 b 3)
        rw [r.2]) (fun a b r => ⟨r.1.symm, r.2.symm⟩) (fun a b a0 a1 b0 b1 ne ha hb r eq => by
        by_cases wa : a = p
        · refine Or.inl ⟨wa, fun w => ne (wa.trans w), wa ▸ ha, hb, Or.inl ⟨?_, ?_⟩⟩
          · rw [wa, u1_s, u1_n (fun w => ne (wa.trans w.symm))] at eq
            exact eq
          · show T 560 0 (T 102 p 3) = T 560 0 (T 102 b 3)
            rw [← wa, r.2]
        · by_cases wb : b = p
          · refine Or.inr ⟨wb, fun w => wa w.symm, wb ▸ hb, ha, Or.inl ⟨?_, ?_⟩⟩
            · rw [wb, u1_s, u1_n wa] at eq
              exact eq.symm
            · show T 560 0 (T 102 p 3) = T 560 0 (T 102 a 3)
              rw [← wb, r.2]
          · rw [u1_n wa, u1_n wb] at eq
            exfalso
            rcases Int.lt_or_gt_of_ne ne with u | u
            · exact hd a b a0 u b1 ha hb r.1 r.2 eq
            · exact hd b a b0 u a1 hb ha r.1.symm r.2.symm eq.symm) (T 106 0 4).toNat (by omega) y2 i j i0 (by omega) (by omega) j1 (by omega) a b ⟨c, e⟩ q
    omega
theorem dd_q {T T1 : Zt} {m d x : Int} (hd : DD_ T) (e4 : T1 106 0 4 = T 106 0 4) (m4 : 0 ≤ T 106 0 4) (h : ((x = -2 ∧ ¬ (0 ≤ m ∧ m < T 106 0 4) ∧ T = T1) ∨ ((0 ≤ m ∧ m < T 106 0 4) ∧ ((x = -3 ∧ ¬ (T 108 0 13 < d ∧ d ≤ 999 ∧ 0 ≤ d) ∧ T = T1) ∨ ((T 108 0 13 < d ∧ d ≤ 999 ∧ 0 ≤ d) ∧ ((x = -4 ∧ ¬ ((T 102 m 6 = -1 ∧ T 102 m 10 = 0) ∧ T 102 m 5 ≠ d) ∧ T = T1) ∨ (((T 102 m 6 = -1 ∧ T 102 m 10 = 0) ∧ T 102 m 5 ≠ d) ∧ PTO_ T T1 m d x))))))) : DD_ T1 := by
  rcases h with ⟨-, -, rfl⟩ | ⟨-, h⟩
  · exact hd
  · rcases h with ⟨-, -, rfl⟩ | ⟨-, h⟩
    · exact hd
    · rcases h with ⟨-, -, rfl⟩ | ⟨-, h⟩
      · exact hd
      · exact dd_p hd e4 m4 h
