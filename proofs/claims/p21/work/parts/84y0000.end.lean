-- schedule and plan of the house
/-- what plan does to the house -/
def PH9_ (T T' : Zt) (c b x : Int) : Prop := (T' = T ∧ ((x = -2 ∧ ¬ (0 ≤ c ∧ c < T 106 0 2)) ∨ ((0 ≤ c ∧ c < T 106 0 2) ∧ x = -3 ∧ ¬ ((0 ≤ b ∧ b ≤ 999) ∧ T 108 0 13 ≤ b)) ∨ ((0 ≤ c ∧ c < T 106 0 2) ∧ ((0 ≤ b ∧ b ≤ 999) ∧ T 108 0 13 ≤ b) ∧ x = -4 ∧ (T 100 c 6 ≠ 0 ∨ T 100 c 5 < 2 ∨ 999 < b + (((T 100 c 5 + an_ (T 100 c 5) 1 - 1) * T 401 c 6 - 1) * T 401 c 7))) ∨ ((0 ≤ c ∧ c < T 106 0 2) ∧ ((0 ≤ b ∧ b ≤ 999) ∧ T 108 0 13 ≤ b) ∧ T 100 c 6 = 0 ∧ 2 ≤ T 100 c 5 ∧ b + (((T 100 c 5 + an_ (T 100 c 5) 1 - 1) * T 401 c 6 - 1) * T 401 c 7) ≤ 999 ∧ x = -5 ∧ 400 < T 106 0 4 + T 100 c 5 * (T 100 c 5 - 1) / 2 * T 401 c 6))) ∨ ((0 ≤ c ∧ c < T 106 0 2) ∧ ((0 ≤ b ∧ b ≤ 999) ∧ T 108 0 13 ≤ b) ∧ T 100 c 6 = 0 ∧ 2 ≤ T 100 c 5 ∧ b + (((T 100 c 5 + an_ (T 100 c 5) 1 - 1) * T 401 c 6 - 1) * T 401 c 7) ≤ 999 ∧ T 106 0 4 + T 100 c 5 * (T 100 c 5 - 1) / 2 * T 401 c 6 ≤ 400 ∧ x = T 106 0 4 ∧ SJ_ T T' c ∧ AP9_ T T' c (pl9_ (T 100 c 5) (T 100 c 5 + an_ (T 100 c 5) 1 - 1) b (T 401 c 7) (T 401 c 6).toNat))
theorem bk_X0_fixtureCount_e_0 : ck_ fX0 (some .int) cX0_fixtureCount 0 [.aload 0, .tableswitch 0 0 5 #[], .aload 0, .tableswitch 0 0 5 #[], .iconst 1, .isub, .imul, .iconst 2, .idiv, .aload 0, .tableswitch 0 0 1 #[], .iconst 6, .iaload, .imul, .ireturn] 22 = true := qck_r (nn_ _) (by decide +kernel)
theorem bs_X0_fixtureCount_e_0 {P : Zt → Option Zv → Prop} (K : Int → Zl → List Zv → Zt → Prop) : sx_ K P [.aload 0, .tableswitch 0 0 5 #[], .aload 0, .tableswitch 0 0 5 #[], .iconst 1, .isub, .imul, .iconst 2, .idiv, .aload 0, .tableswitch 0 0 1 #[], .iconst 6, .iaload, .imul, .ireturn] 22 = x_aload 0 (x_g0 100 5 0 12 (x_aload 0 (x_g0 100 5 0 12 (x_iconst 1 (x_isub (x_imul (x_iconst 2 (x_idiv (x_aload 0 (x_g2 100 401 (x_iconst 6 (x_iaload (x_imul (x_ireturn P)))))))))))))) := ((xe_aload 0).trans (congrArg (x_aload 0) ((xe_g0 (kk := 100) rfl tl_0_5).trans (congrArg (x_g0 100 5 0 12) ((xe_aload 0).trans (congrArg (x_aload 0) ((xe_g0 (kk := 100) rfl tl_0_5).trans (congrArg (x_g0 100 5 0 12) ((xe_iconst 1).trans (congrArg (x_iconst 1) ((xe_isub).trans (congrArg (x_isub) ((xe_imul).trans (congrArg (x_imul) ((xe_iconst 2).trans (congrArg (x_iconst 2) ((xe_idiv).trans (congrArg (x_idiv) ((xe_aload 0).trans (congrArg (x_aload 0) ((xe_g2 (kk := 100) rfl tl_0_1).trans (congrArg (x_g2 100 401) ((xe_iconst 6).trans (congrArg (x_iconst 6) ((xe_iaload).trans (congrArg (x_iaload) ((xe_imul).trans (congrArg (x_imul) (xe_ireturn)))))))))))))))))))))))))))))
abbrev po_X0_fixtureCount_e (T : Zt) (c : Int) : Zt → Option Zv → Prop := fun T' r => T = T' ∧ ∃ x : Int, r = some (vI x) ∧ (x = T 100 c 5 * (T 100 c 5 - 1) / 2 * T 401 c 6 ∧ 0 ≤ x ∧ x ≤ 264)
set_option maxHeartbeats 4000000 in
theorem ct_X0_fixtureCount_e {T : Zt} {c : Int} (hl : 0 ≤ T 401 c 6 ∧ T 401 c 6 ≤ 4) (he : 2 ≤ T 100 c 5) : Ct_ yX0_fixtureCount zX0_fixtureCount T [vR 100 c] (po_X0_fixtureCount_e T c) := by
  refine ct_of pn_0 rfl rfl (Nat.le_of_ble_eq_true rfl) (fun hT hav => ?_)
  have hz : zX0_fixtureCount.2.2.2.1 = some .boolean → ∀ (T' : Zt) (x : Int), po_X0_fixtureCount_e T c T' (some (vI x)) → 0 ≤ x ∧ x ≤ 1 := fun h => by cases h
  have hb5 : 0 ≤ T 100 c 5 ∧ T 100 c 5 ≤ 12 := bd_f hT 100 5 tl_0_5 c
  have hm1 := mlb (a := T 100 c 5) (b := T 100 c 5 - 1) (A := 12) (B := 11) (by omega) (by omega)
  have hm2 := mlb (a := T 100 c 5 * (T 100 c 5 - 1) / 2) (b := T 401 c 6) (A := 66) (B := 4) (by omega) (by omega)
  show J_ zX0_fixtureCount T (po_X0_fixtureCount_e T c) 0 0 0 [some (vR 100 c)] [] T
  refine j_blx (F := fX0) tb_X0 (nn_ _) bk_X0_fixtureCount_e_0 bs_X0_fixtureCount_e_0 hz (fun K hK => ?_)
  intro b1 b1b
  intro b2 b2b
  refine rg_i (by omega) ?_
  refine rg_i (by omega) ?_
  refine dv_i (by omega) ?_
  refine ix_i (by omega) ?_
  intro b3 b3b
  refine rg_i (by omega) ?_
  refine (show po_X0_fixtureCount_e T c T (some (vI ((((T 100 c 5) * ((T 100 c 5) - 1)) / 2) * (T 401 c 6)))) from ?_)
  exact ⟨rfl, _, rfl, by omega⟩
