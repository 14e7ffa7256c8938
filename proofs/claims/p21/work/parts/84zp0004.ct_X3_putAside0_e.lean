theorem bk_X3_putAside_e_0 : ck_ fX3 none cX3_putAside 0 [.aload 0, .tableswitch 0 3 17 #[], .iconst 4, .imul, .iconst 4, .iadd, .aload 0, .tableswitch 0 3 16 #[], .arraylength, .if_icmp .le 34, .aload 0, .aload 0, .tableswitch 0 3 16 #[], .aload 0, .tableswitch 0 3 16 #[], .arraylength, .iconst 2, .imul] 28 = true := qck_r (nn_ _) (by decide +kernel)
theorem bs_X3_putAside_e_0 {P : Zt → Option Zv → Prop} (K : Int → Zl → List Zv → Zt → Prop) : sx_ K P [.aload 0, .tableswitch 0 3 17 #[], .iconst 4, .imul, .iconst 4, .iadd, .aload 0, .tableswitch 0 3 16 #[], .arraylength, .if_icmp .le 34, .aload 0, .aload 0, .tableswitch 0 3 16 #[], .aload 0, .tableswitch 0 3 16 #[], .arraylength, .iconst 2, .imul] 28 = x_aload 0 (x_g0 103 17 0 3000 (x_iconst 4 (x_imul (x_iconst 4 (x_iadd (x_aload 0 (x_g3 103 190 16 (x_arraylength (x_if_icmp .le 34 K (x_aload 0 (x_aload 0 (x_g3 103 190 16 (x_aload 0 (x_g3 103 190 16 (x_arraylength (x_iconst 2 (x_imul (K 28)))))))))))))))))) := ((xe_aload 0).trans (congrArg (x_aload 0) ((xe_g0 (kk := 103) rfl tl_3_17).trans (congrArg (x_g0 103 17 0 3000) ((xe_iconst 4).trans (congrArg (x_iconst 4) ((xe_imul).trans (congrArg (x_imul) ((xe_iconst 4).trans (congrArg (x_iconst 4) ((xe_iadd).trans (congrArg (x_iadd) ((xe_aload 0).trans (congrArg (x_aload 0) ((xe_g3 (kk := 103) rfl tl_3_16).trans (congrArg (x_g3 103 190 16) ((xe_arraylength).trans (congrArg (x_arraylength) ((xe_if_icmp .le 34).trans (congrArg (x_if_icmp .le 34 K) ((xe_aload 0).trans (congrArg (x_aload 0) ((xe_aload 0).trans (congrArg (x_aload 0) ((xe_g3 (kk := 103) rfl tl_3_16).trans (congrArg (x_g3 103 190 16) ((xe_aload 0).trans (congrArg (x_aload 0) ((xe_g3 (kk := 103) rfl tl_3_16).trans (congrArg (x_g3 103 190 16) ((xe_arraylength).trans (congrArg (x_arraylength) ((xe_iconst 2).trans (congrArg (x_iconst 2) ((xe_imul).trans (congrArg (x_imul) xe_nil))))))))))))))))))))))))))))))))))))
theorem bk_X3_putAside_e_34 : ck_ fX3 none cX3_putAside 34 [.aload 0, .tableswitch 0 3 16 #[], .aload 0, .tableswitch 0 3 17 #[], .iload 1, .iload 2, .iload 3, .iload 4] 47 = true := qck_r (nn_ _) (by decide +kernel)
theorem bs_X3_putAside_e_34 {P : Zt → Option Zv → Prop} (K : Int → Zl → List Zv → Zt → Prop) : sx_ K P [.aload 0, .tableswitch 0 3 16 #[], .aload 0, .tableswitch 0 3 17 #[], .iload 1, .iload 2, .iload 3, .iload 4] 47 = x_aload 0 (x_g3 103 190 16 (x_aload 0 (x_g0 103 17 0 3000 (x_iload 1 (x_iload 2 (x_iload 3 (x_iload 4 (K 47)))))))) := ((xe_aload 0).trans (congrArg (x_aload 0) ((xe_g3 (kk := 103) rfl tl_3_16).trans (congrArg (x_g3 103 190 16) ((xe_aload 0).trans (congrArg (x_aload 0) ((xe_g0 (kk := 103) rfl tl_3_17).trans (congrArg (x_g0 103 17 0 3000) ((xe_iload 1).trans (congrArg (x_iload 1) ((xe_iload 2).trans (congrArg (x_iload 2) ((xe_iload 3).trans (congrArg (x_iload 3) ((xe_iload 4).trans (congrArg (x_iload 4) xe_nil))))))))))))))))
theorem bk_X3_putAside_e_50 : ck_ fX3 none cX3_putAside 50 [.aload 0, .dup, .tableswitch 0 3 17 #[], .iconst 1, .iadd, .tableswitch 1 3 17 #[], .return_] 61 = true := qck_r (nn_ _) (by decide +kernel)
theorem bs_X3_putAside_e_50 {P : Zt → Option Zv → Prop} (K : Int → Zl → List Zv → Zt → Prop) : sx_ K P [.aload 0, .dup, .tableswitch 0 3 17 #[], .iconst 1, .iadd, .tableswitch 1 3 17 #[], .return_] 61 = x_aload 0 (x_dup (x_g0 103 17 0 3000 (x_iconst 1 (x_iadd (x_p 103 17 0 3000 (x_return_ P)))))) := ((xe_aload 0).trans (congrArg (x_aload 0) ((xe_dup).trans (congrArg (x_dup) ((xe_g0 (kk := 103) rfl tl_3_17).trans (congrArg (x_g0 103 17 0 3000) ((xe_iconst 1).trans (congrArg (x_iconst 1) ((xe_iadd).trans (congrArg (x_iadd) ((xe_p (kk := 103) rfl tl_3_17).trans (congrArg (x_p 103 17 0 3000) (xe_return_)))))))))))))
abbrev po_X3_putAside0_e (T : Zt) (p : Int) (k s v w : Int) : Zt → Option Zv → Prop := fun T' r => r = none ∧ fr_ [(103, [17]), (190, [])] T T' ∧ (oq_ T T' p ∧ T' 103 p 17 = T 103 p 17 + 1 ∧ (∀ x, x < T 191 0 0 → T' 190 x (-2) = T 190 x (-2)) ∧ (∀ x j, ¬ (x = T 103 p 16 ∧ T 103 p 17 * 4 ≤ j ∧ j < T 103 p 17 * 4 + 4) → T' 190 x j = T 190 x j))
set_option maxHeartbeats 4000000 in
theorem ct_X3_putAside0_e {T : Zt} {p : Int} {k s v w : Int} (h1 : 0 ≤ T 103 p 17 ∧ T 103 p 17 < 512 ∧ 4 * T 103 p 17 ≤ T 190 (T 103 p 16) (-2)) (h2 : T 103 p 16 < T 191 0 0 ∧ T 191 0 0 ≤ 2000000000 ∧ -2147483648 ≤ T 103 p 16) (h3 : 4 * T 103 p 17 + 4 ≤ T 190 (T 103 p 16) (-2)) : Ct_ yX3_putAside zX3_putAside0 T [vR 103 p, vI k, vI s, vI v, vI w] (po_X3_putAside0_e T p k s v w) := by
  refine ct_of pn_3 rfl rfl (Nat.le_of_ble_eq_true rfl) (fun hT hav => ?_)
  have hr_k : -2147483648 ≤ k ∧ k ≤ 2147483647 := hav (vI k) (List.mem_cons_of_mem _ List.mem_cons_self)
  have hr_s : -2147483648 ≤ s ∧ s ≤ 2147483647 := hav (vI s) (List.mem_cons_of_mem _ (List.mem_cons_of_mem _ List.mem_cons_self))
  have hr_v : -2147483648 ≤ v ∧ v ≤ 2147483647 := hav (vI v) (List.mem_cons_of_mem _ (List.mem_cons_of_mem _ (List.mem_cons_of_mem _ List.mem_cons_self)))
  have hr_w : -2147483648 ≤ w ∧ w ≤ 2147483647 := hav (vI w) (List.mem_cons_of_mem _ (List.mem_cons_of_mem _ (List.mem_cons_of_mem _ (List.mem_cons_of_mem _ List.mem_cons_self))))
  have hz : zX3_putAside0.2.2.2.1 = some .boolean → ∀ (T' : Zt) (x : Int), po_X3_putAside0_e T p k s v w T' (some (vI x)) → 0 ≤ x ∧ x ≤ 1 := fun h => by cases h
  show J_ zX3_putAside0 T (po_X3_putAside0_e T p k s v w) 0 0 0 [some (vR 103 p), some (vI k), some (vI s), some (vI v), some (vI w)] [] T
  refine j_blx (F := fX3) tb_X3 (nn_ _) bk_X3_putAside_e_0 bs_X3_putAside_e_0 hz (fun K hK => ?_)
  intro b1 b1b
  refine rg_i (by omega) ?_
  refine rg_i (by omega) ?_
  intro b3 b3b
  refine And.intro (fun c4 => ?_) (fun c4 => ?_)
  · refine hK 34 _ [] T ?_
    refine j_blx (F := fX3) tb_X3 (nn_ _) bk_X3_putAside_e_34 bs_X3_putAside_e_34 hz (fun K hK => ?_)
    intro b6 b6b
    refine hK 47 _ [vI w, vI v, vI s, vI k, vI (T 103 p 17), vR 190 (T 103 p 16)] T ?_
    refine j_callS (y := yX3_writeRow) (Yc := zX3_writeRow) (rest := []) [vR 190 (T 103 p 16), vI (T 103 p 17), vI k, vI s, vI v, vI w] (ct_X3_writeRow_e (T := T) (by omega)) cl_X3_161 (qd_c (by decide +kernel)) (nn_ _) rfl (rf_of rfl) (Nat.le_of_ble_eq_true rfl) (Nat.le_of_ble_eq_true rfl) (Nat.le_of_ble_eq_true rfl) rfl ?_
    rintro U7 _ ⟨rfl, fU7, lU7, wU7, rU7⟩
    show J_ zX3_putAside0 T (po_X3_putAside0_e T p k s v w) 0 0 50 _ [] U7
    refine j_blx (F := fX3) tb_X3 (nn_ _) bk_X3_putAside_e_50 bs_X3_putAside_e_50 hz (fun K hK => ?_)
    intro b8 b8b
    have e9 : U7 103 p 17 = T 103 p 17 := fU7 103 p 17 rfl
    rw [e9] at b8 b8b ⊢
    refine rg_i (by omega) ?_
    refine bd_i (by omega) ?_
    refine x_nm (fun U10 hU10 => ?_)
    have e11 := up_f hU10
    refine (show po_X3_putAside0_e T p k s v w U10 (none) from ?_)
    have e12 : U10 103 p 17 = (T 103 p 17) + 1 := up_f hU10
    have e13 : U10 103 p 16 = T 103 p 16 := (up_j hU10 (by decide) 103 p).trans (fU7 103 p 16 rfl)
    have e14 : U10 103 p 17 = (T 103 p 17) + 1 := up_f hU10
    have d1 : U10 103 p 16 = T 103 p 16 := by omega
    exact ⟨rfl, fr_u (fr_t (fr_0 _ _) (fr_s fU7 rfl)) hU10 rfl, oq_u (oq_1 (oq_r) fU7) hU10, by omega, fun x hx => (up_k hU10 (by exact Nat.ne_of_beq_eq_false rfl) _ (-2)).trans (lU7 _), fun x j hx => (up_k hU10 (by exact Nat.ne_of_beq_eq_false rfl) _ _).trans (wU7 _ _ (fun z => hx (by omega)))⟩
  · exact absurd c4 (by omega)
