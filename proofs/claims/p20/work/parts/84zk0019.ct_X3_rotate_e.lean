theorem bk_X3_rotate_e_0 : ck_ fX3 none cX3_rotate 0 [.aload 0, .tableswitch 0 3 11 #[], .iload 1, .iconst 6, .imul, .iaload, .istore 2, .aload 0, .iload 1, .iconst 0] 13 = true := qck_r (nn_ _) (by decide +kernel)
theorem bs_X3_rotate_e_0 {P : Zt → Option Zv → Prop} (K : Int → Zl → List Zv → Zt → Prop) : sx_ K P [.aload 0, .tableswitch 0 3 11 #[], .iload 1, .iconst 6, .imul, .iaload, .istore 2, .aload 0, .iload 1, .iconst 0] 13 = x_aload 0 (x_g2 103 471 (x_iload 1 (x_iconst 6 (x_imul (x_iaload (x_istore 2 (x_aload 0 (x_iload 1 (x_iconst 0 (K 13)))))))))) := ((xe_aload 0).trans (congrArg (x_aload 0) ((xe_g2 (kk := 103) rfl tl_3_11).trans (congrArg (x_g2 103 471) ((xe_iload 1).trans (congrArg (x_iload 1) ((xe_iconst 6).trans (congrArg (x_iconst 6) ((xe_imul).trans (congrArg (x_imul) ((xe_iaload).trans (congrArg (x_iaload) ((xe_istore 2).trans (congrArg (x_istore 2) ((xe_aload 0).trans (congrArg (x_aload 0) ((xe_iload 1).trans (congrArg (x_iload 1) ((xe_iconst 0).trans (congrArg (x_iconst 0) xe_nil))))))))))))))))))))
theorem bk_X3_rotate_e_16 : ck_ fX3 none cX3_rotate 16 [.aload 0, .tableswitch 0 3 11 #[], .iload 1, .iconst 6, .imul, .aload 0, .tableswitch 0 3 10 #[], .iload 1, .iaload, .iadd, .iconst 1, .isub, .iload 2, .iastore, .return_] 36 = true := qck_r (nn_ _) (by decide +kernel)
theorem bs_X3_rotate_e_16 {P : Zt → Option Zv → Prop} (K : Int → Zl → List Zv → Zt → Prop) : sx_ K P [.aload 0, .tableswitch 0 3 11 #[], .iload 1, .iconst 6, .imul, .aload 0, .tableswitch 0 3 10 #[], .iload 1, .iaload, .iadd, .iconst 1, .isub, .iload 2, .iastore, .return_] 36 = x_aload 0 (x_g2 103 471 (x_iload 1 (x_iconst 6 (x_imul (x_aload 0 (x_g2 103 470 (x_iload 1 (x_iaload (x_iadd (x_iconst 1 (x_isub (x_iload 2 (x_iastore (x_return_ P)))))))))))))) := ((xe_aload 0).trans (congrArg (x_aload 0) ((xe_g2 (kk := 103) rfl tl_3_11).trans (congrArg (x_g2 103 471) ((xe_iload 1).trans (congrArg (x_iload 1) ((xe_iconst 6).trans (congrArg (x_iconst 6) ((xe_imul).trans (congrArg (x_imul) ((xe_aload 0).trans (congrArg (x_aload 0) ((xe_g2 (kk := 103) rfl tl_3_10).trans (congrArg (x_g2 103 470) ((xe_iload 1).trans (congrArg (x_iload 1) ((xe_iaload).trans (congrArg (x_iaload) ((xe_iadd).trans (congrArg (x_iadd) ((xe_iconst 1).trans (congrArg (x_iconst 1) ((xe_isub).trans (congrArg (x_isub) ((xe_iload 2).trans (congrArg (x_iload 2) ((xe_iastore).trans (congrArg (x_iastore) (xe_return_)))))))))))))))))))))))))))))
abbrev po_X3_rotate_e (T : Zt) (p : Int) (ru : Int → Int) (s : Int) : Zt → Option Zv → Prop := fun T' r => r = none ∧ fr_ [(471, [])] T T' ∧ (oi_ T T' p ∧ (0 = (0 : Int)) ∧ rs9_ T' p = rt9_ (rs9_ T p) s)
set_option maxHeartbeats 4000000 in
theorem ct_X3_rotate_e {T : Zt} {p : Int} {ru : Int → Int} {s : Int} (hr : RLP_ T p ru) (hs : 0 ≤ s ∧ s ≤ 1) (h1 : 1 ≤ T 470 p s) : Ct_ yX3_rotate zX3_rotate T [vR 103 p, vI s] (po_X3_rotate_e T p ru s) := by
  refine ct_of pn_3 rfl rfl (Nat.le_of_ble_eq_true rfl) (fun hT hav => ?_)
  have hr_s : -2147483648 ≤ s ∧ s ≤ 2147483647 := hav (vI s) (List.mem_cons_of_mem _ List.mem_cons_self)
  have hz : zX3_rotate.2.2.2.1 = some .boolean → ∀ (T' : Zt) (x : Int), po_X3_rotate_e T p ru s T' (some (vI x)) → 0 ≤ x ∧ x ≤ 1 := fun h => by cases h
  have hfd : 0 ≤ T 470 p s ∧ T 470 p s ≤ 6 := bd_a hT 470 (by decide +kernel : ta_ 470 = some (1, some 2, 0, 6)) p (by omega)
  show J_ zX3_rotate T (po_X3_rotate_e T p ru s) 0 0 0 [some (vR 103 p), some (vI s), none] [] T
  refine j_blx (F := fX3) tb_X3 (nn_ _) bk_X3_rotate_e_0 bs_X3_rotate_e_0 hz (fun K hK => ?_)
  refine rg_i (by omega) ?_
  refine ix_i (by omega) ?_
  intro b1 b1b
  refine hK 13 [some (vR 103 p), some (vI s), some (vI (T 471 p (s * 6)))] [vI 0, vI s, vR 103 p] T ?_
  refine j_callV (y := yX3_closeGap) (Yc := zX3_closeGap) (rest := []) [vI s, vI 0] (ct_X3_closeGap_e (T := T) (ru := ru) (by exact hr) (by omega) (by omega)) cl_X3_119 (qd_c (by decide +kernel)) (nn_ _) rfl (rf_of rfl) (Nat.le_of_ble_eq_true rfl) (Nat.le_of_ble_eq_true rfl) (Nat.le_of_ble_eq_true rfl) rfl ?_
  rintro U2 _ ⟨rfl, fU2, qU2o, qU2, qU2e⟩
  show J_ zX3_rotate T (po_X3_rotate_e T p ru s) 0 0 16 _ [] U2
  refine j_blx (F := fX3) tb_X3 (nn_ _) bk_X3_rotate_e_16 bs_X3_rotate_e_16 hz (fun K hK => ?_)
  refine rg_i (by omega) ?_
  refine ix_i (by omega) ?_
  intro b3 b3b
  have e4 : U2 470 p s = T 470 p s := fU2 470 p s rfl
  rw [e4] at b3 b3b ⊢
  refine rg_i (by omega) ?_
  refine rg_i (by omega) ?_
  refine iy_i (by omega) (by omega) ?_
  refine x_nm (fun U5 hU5 => ?_)
  have e6 := up_f hU5
  refine (show po_X3_rotate_e T p ru s U5 (none) from ?_)
  have rU2 : rs9_ U2 p = cg9_ (rs9_ T p) s 0 := qU2e
  have rU5 : rs9_ U5 p = u2_ (cg9_ (rs9_ T p) s 0) 471 (((s * 6) + (T 470 p s)) - 1) (T 471 p (s * 6)) := by rw [rs_u hU5 rfl, rU2]
  exact ⟨rfl, fr_u (fr_t (fr_0 _ _) (fr_s fU2 rfl)) hU5 rfl, oi_u (oi_t (oi_r) qU2o) hU5, by rfl, rU5⟩
