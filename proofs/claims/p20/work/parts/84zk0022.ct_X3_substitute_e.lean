theorem bk_X3_substitute_e_0 : ck_ fX3 none cX3_substitute 0 [.aload 0, .iload 1, .iload 2] 3 = true := qck_r (nn_ _) (by decide +kernel)
theorem bs_X3_substitute_e_0 {P : Zt → Option Zv → Prop} (K : Int → Zl → List Zv → Zt → Prop) : sx_ K P [.aload 0, .iload 1, .iload 2] 3 = x_aload 0 (x_iload 1 (x_iload 2 (K 3))) := ((xe_aload 0).trans (congrArg (x_aload 0) ((xe_iload 1).trans (congrArg (x_iload 1) ((xe_iload 2).trans (congrArg (x_iload 2) xe_nil))))))
theorem bk_X3_substitute_e_6 : ck_ fX3 none cX3_substitute 6 [.istore 4, .aload 0, .iload 1, .iload 3] 11 = true := qck_r (nn_ _) (by decide +kernel)
theorem bs_X3_substitute_e_6 {P : Zt → Option Zv → Prop} (K : Int → Zl → List Zv → Zt → Prop) : sx_ K P [.istore 4, .aload 0, .iload 1, .iload 3] 11 = x_istore 4 (x_aload 0 (x_iload 1 (x_iload 3 (K 11)))) := ((xe_istore 4).trans (congrArg (x_istore 4) ((xe_aload 0).trans (congrArg (x_aload 0) ((xe_iload 1).trans (congrArg (x_iload 1) ((xe_iload 3).trans (congrArg (x_iload 3) xe_nil))))))))
theorem bk_X3_substitute_e_14 : ck_ fX3 none cX3_substitute 14 [.istore 5, .iload 4, .iconst (-1), .if_icmp .eq 28, .iload 5, .iconst (-1), .if_icmp .ne 29, .return_] 29 = true := qck_r (nn_ _) (by decide +kernel)
theorem bs_X3_substitute_e_14 {P : Zt → Option Zv → Prop} (K : Int → Zl → List Zv → Zt → Prop) : sx_ K P [.istore 5, .iload 4, .iconst (-1), .if_icmp .eq 28, .iload 5, .iconst (-1), .if_icmp .ne 29, .return_] 29 = x_istore 5 (x_iload 4 (x_iconst (-1) (x_if_icmp .eq 28 K (x_iload 5 (x_iconst (-1) (x_if_icmp .ne 29 K (x_return_ P))))))) := ((xe_istore 5).trans (congrArg (x_istore 5) ((xe_iload 4).trans (congrArg (x_iload 4) ((xe_iconst (-1)).trans (congrArg (x_iconst (-1)) ((xe_if_icmp .eq 28).trans (congrArg (x_if_icmp .eq 28 K) ((xe_iload 5).trans (congrArg (x_iload 5) ((xe_iconst (-1)).trans (congrArg (x_iconst (-1)) ((xe_if_icmp .ne 29).trans (congrArg (x_if_icmp .ne 29 K) (xe_return_)))))))))))))))
theorem bk_X3_substitute_e_28 : ck_ fX3 none cX3_substitute 28 [.return_] 29 = true := qck_r (nn_ _) (by decide +kernel)
theorem bs_X3_substitute_e_28 {P : Zt → Option Zv → Prop} (K : Int → Zl → List Zv → Zt → Prop) : sx_ K P [.return_] 29 = x_return_ P := (xe_return_)
theorem bk_X3_substitute_e_29 : ck_ fX3 none cX3_substitute 29 [.aload 0, .tableswitch 0 3 12 #[], .aload 0, .tableswitch 0 3 11 #[], .iload 1, .iconst 6, .imul, .iload 4, .iadd, .iaload, .iconst 2, .iastore, .aload 0, .tableswitch 0 3 12 #[], .iload 5, .iconst 1, .iastore, .aload 0, .tableswitch 0 3 11 #[], .iload 1, .iconst 6, .imul, .iload 4, .iadd, .iload 5, .iastore, .aload 0, .tableswitch 0 3 9 #[], .iload 1, .dup2, .iaload, .iconst 1, .fadd, .iastore, .return_] 80 = true := qck_r (nn_ _) (by decide +kernel)
theorem bs_X3_substitute_e_29 {P : Zt → Option Zv → Prop} (K : Int → Zl → List Zv → Zt → Prop) : sx_ K P [.aload 0, .tableswitch 0 3 12 #[], .aload 0, .tableswitch 0 3 11 #[], .iload 1, .iconst 6, .imul, .iload 4, .iadd, .iaload, .iconst 2, .iastore, .aload 0, .tableswitch 0 3 12 #[], .iload 5, .iconst 1, .iastore, .aload 0, .tableswitch 0 3 11 #[], .iload 1, .iconst 6, .imul, .iload 4, .iadd, .iload 5, .iastore, .aload 0, .tableswitch 0 3 9 #[], .iload 1, .dup2, .iaload, .iconst 1, .fadd, .iastore, .return_] 80 = x_aload 0 (x_g2 103 472 (x_aload 0 (x_g2 103 471 (x_iload 1 (x_iconst 6 (x_imul (x_iload 4 (x_iadd (x_iaload (x_iconst 2 (x_iastore (x_aload 0 (x_g2 103 472 (x_iload 5 (x_iconst 1 (x_iastore (x_aload 0 (x_g2 103 471 (x_iload 1 (x_iconst 6 (x_imul (x_iload 4 (x_iadd (x_iload 5 (x_iastore (x_aload 0 (x_g2 103 469 (x_iload 1 (x_dup2 (x_iaload (x_iconst 1 (x_fadd (x_iastore (x_return_ P)))))))))))))))))))))))))))))))))) := ((xe_aload 0).trans (congrArg (x_aload 0) ((xe_g2 (kk := 103) rfl tl_3_12).trans (congrArg (x_g2 103 472) ((xe_aload 0).trans (congrArg (x_aload 0) ((xe_g2 (kk := 103) rfl tl_3_11).trans (congrArg (x_g2 103 471) ((xe_iload 1).trans (congrArg (x_iload 1) ((xe_iconst 6).trans (congrArg (x_iconst 6) ((xe_imul).trans (congrArg (x_imul) ((xe_iload 4).trans (congrArg (x_iload 4) ((xe_iadd).trans (congrArg (x_iadd) ((xe_iaload).trans (congrArg (x_iaload) ((xe_iconst 2).trans (congrArg (x_iconst 2) ((xe_iastore).trans (congrArg (x_iastore) ((xe_aload 0).trans (congrArg (x_aload 0) ((xe_g2 (kk := 103) rfl tl_3_12).trans (congrArg (x_g2 103 472) ((xe_iload 5).trans (congrArg (x_iload 5) ((xe_iconst 1).trans (congrArg (x_iconst 1) ((xe_iastore).trans (congrArg (x_iastore) ((xe_aload 0).trans (congrArg (x_aload 0) ((xe_g2 (kk := 103) rfl tl_3_11).trans (congrArg (x_g2 103 471) ((xe_iload 1).trans (congrArg (x_iload 1) ((xe_iconst 6).trans (congrArg (x_iconst 6) ((xe_imul).trans (congrArg (x_imul) ((xe_iload 4).trans (congrArg (x_iload 4) ((xe_iadd).trans (congrArg (x_iadd) ((xe_iload 5).trans (congrArg (x_iload 5) ((xe_iastore).trans (congrArg (x_iastore) ((xe_aload 0).trans (congrArg (x_aload 0) ((xe_g2 (kk := 103) rfl tl_3_9).trans (congrArg (x_g2 103 469) ((xe_iload 1).trans (congrArg (x_iload 1) ((xe_dup2).trans (congrArg (x_dup2) ((xe_iaload).trans (congrArg (x_iaload) ((xe_iconst 1).trans (congrArg (x_iconst 1) ((xe_fadd).trans (congrArg (x_fadd) ((xe_iastore).trans (congrArg (x_iastore) (xe_return_)))))))))))))))))))))))))))))))))))))))))))))))))))))))))))))))))))))
abbrev po_X3_substitute_e (T : Zt) (p : Int) (ru : Int → Int) (s q o : Int) : Zt → Option Zv → Prop := fun T' r => r = none ∧ fr_ [(472, []), (471, []), (469, [])] T T' ∧ (oi_ T T' p ∧ (0 = (0 : Int)) ∧ rs9_ T' p = su9_ ru (rs9_ T p) s q o)
set_option maxHeartbeats 4000000 in
theorem ct_X3_substitute_e {T : Zt} {p : Int} {ru : Int → Int} {s q o : Int} (hr : RLP_ T p ru) (hs : 0 ≤ s ∧ s ≤ 1) : Ct_ yX3_substitute zX3_substitute T [vR 103 p, vI s, vI q, vI o] (po_X3_substitute_e T p ru s q o) := by
  refine ct_of pn_3 rfl rfl (Nat.le_of_ble_eq_true rfl) (fun hT hav => ?_)
  have hr_s : -2147483648 ≤ s ∧ s ≤ 2147483647 := hav (vI s) (List.mem_cons_of_mem _ List.mem_cons_self)
  have hr_q : -2147483648 ≤ q ∧ q ≤ 2147483647 := hav (vI q) (List.mem_cons_of_mem _ (List.mem_cons_of_mem _ List.mem_cons_self))
  have hr_o : -2147483648 ≤ o ∧ o ≤ 2147483647 := hav (vI o) (List.mem_cons_of_mem _ (List.mem_cons_of_mem _ (List.mem_cons_of_mem _ List.mem_cons_self)))
  have hz : zX3_substitute.2.2.2.1 = some .boolean → ∀ (T' : Zt) (x : Int), po_X3_substitute_e T p ru s q o T' (some (vI x)) → 0 ≤ x ∧ x ≤ 1 := fun h => by cases h
  have hfs : 0 ≤ T 470 p s ∧ T 470 p s ≤ 6 := bd_a hT 470 (by decide +kernel : ta_ 470 = some (1, some 2, 0, 6)) p (by omega)
  have hls : 0 ≤ T 449 p s ∧ T 449 p s ≤ 10 := bd_a hT 449 (by decide +kernel : ta_ 449 = some (1, some 2, 0, 10)) p (by omega)
  show J_ zX3_substitute T (po_X3_substitute_e T p ru s q o) 0 0 0 [some (vR 103 p), some (vI s), some (vI q), some (vI o), none, none] [] T
  refine j_blx (F := fX3) tb_X3 (nn_ _) bk_X3_substitute_e_0 bs_X3_substitute_e_0 hz (fun K hK => ?_)
  refine hK 3 _ [vI q, vI s, vR 103 p] T ?_
  refine j_callV (y := yX3_fieldPlace) (Yc := zX3_fieldPlace) (rest := []) [vI s, vI q] (ct_X3_fieldPlace_e (T := T) (by omega)) cl_X3_79 (qd_c (by decide +kernel)) (nn_ _) rfl (rf_of rfl) (Nat.le_of_ble_eq_true rfl) (Nat.le_of_ble_eq_true rfl) (Nat.le_of_ble_eq_true rfl) rfl ?_
  rintro _ _ ⟨rfl, rfl⟩
  have n1 : fp9_ (rs9_ T p) s q = -1 ∨ (0 ≤ fp9_ (rs9_ T p) s q ∧ fp9_ (rs9_ T p) s q < T 470 p s ∧ T 448 p (T 471 p (s * 6 + fp9_ (rs9_ T p) s q)) = q) := fp9_b
  show J_ zX3_substitute T (po_X3_substitute_e T p ru s q o) 0 0 6 _ [vI (fp9_ (rs9_ T p) s q)] T
  refine j_blx (F := fX3) tb_X3 (nn_ _) bk_X3_substitute_e_6 bs_X3_substitute_e_6 hz (fun K hK => ?_)
  refine hK 11 [some (vR 103 p), some (vI s), some (vI q), some (vI o), some (vI (fp9_ (rs9_ T p) s q)), none] [vI o, vI s, vR 103 p] T ?_
  refine j_callV (y := yX3_benchPlace) (Yc := zX3_benchPlace) (rest := []) [vI s, vI o] (ct_X3_benchPlace_e (T := T) (by omega)) cl_X3_83 (qd_c (by decide +kernel)) (nn_ _) rfl (rf_of rfl) (Nat.le_of_ble_eq_true rfl) (Nat.le_of_ble_eq_true rfl) (Nat.le_of_ble_eq_true rfl) rfl ?_
  rintro _ _ ⟨rfl, rfl⟩
  have n2 : bq9_ (rs9_ T p) s o = -1 ∨ (s * 10 ≤ bq9_ (rs9_ T p) s o ∧ bq9_ (rs9_ T p) s o < s * 10 + T 449 p s ∧ T 448 p (bq9_ (rs9_ T p) s o) = o ∧ T 472 p (bq9_ (rs9_ T p) s o) = 0) := bq9_b
  show J_ zX3_substitute T (po_X3_substitute_e T p ru s q o) 0 0 14 _ [vI (bq9_ (rs9_ T p) s o)] T
  refine j_blx (F := fX3) tb_X3 (nn_ _) bk_X3_substitute_e_14 bs_X3_substitute_e_14 hz (fun K hK => ?_)
  refine And.intro (fun c3 => ?_) (fun c3 => ?_)
  · refine hK 28 [some (vR 103 p), some (vI s), some (vI q), some (vI o), some (vI (fp9_ (rs9_ T p) s q)), some (vI (bq9_ (rs9_ T p) s o))] [] T ?_
    refine j_blx (F := fX3) tb_X3 (nn_ _) bk_X3_substitute_e_28 bs_X3_substitute_e_28 hz (fun K hK => ?_)
    refine (show po_X3_substitute_e T p ru s q o T (none) from ?_)
    exact ⟨rfl, fr_0 _ _, oi_r, by rfl, Eq.trans rfl (su9__1 (r := ru) (a := (rs9_ T p)) (s := s) (q := q) (o := o) (show fp9_ (rs9_ T p) s q = -1 ∨ bq9_ (rs9_ T p) s o = -1 by omega)).symm⟩
  · refine And.intro (fun c4 => ?_) (fun c4 => ?_)
    · refine hK 29 _ [] T ?_
      refine j_blx (F := fX3) tb_X3 (nn_ _) bk_X3_substitute_e_29 bs_X3_substitute_e_29 hz (fun K hK => ?_)
      refine rg_i (by omega) ?_
      refine rg_i (by omega) ?_
      refine ix_i (by omega) ?_
      intro b5 b5b
      refine iy_i (by omega) (by omega) ?_
      refine x_nm (fun U6 hU6 => ?_)
      have e7 := up_f hU6
      refine iy_i (by omega) (by omega) ?_
      refine x_nm (fun U8 hU8 => ?_)
      have e9 := up_f hU8
      refine rg_i (by omega) ?_
      refine rg_i (by omega) ?_
      refine iy_i (by omega) (by omega) ?_
      refine x_nm (fun U10 hU10 => ?_)
      have e11 := up_f hU10
      refine ix_i (by omega) ?_
      intro b12 b12b
      have e13 : U10 469 p s = T 469 p s := (up_k hU10 (by exact Nat.ne_of_beq_eq_false rfl) p s).trans ((up_k hU8 (by exact Nat.ne_of_beq_eq_false rfl) p s).trans (up_k hU6 (by exact Nat.ne_of_beq_eq_false rfl) p s))
      rw [e13] at b12 b12b ⊢
      intro w14 w14b
      refine iy_i (by omega) (by omega) ?_
      refine x_nm (fun U15 hU15 => ?_)
      have e16 := up_f hU15
      refine (show po_X3_substitute_e T p ru s q o U15 (none) from ?_)
      have rU6 : rs9_ U6 p = u2_ (rs9_ T p) 472 (T 471 p ((s * 6) + (fp9_ (rs9_ T p) s q))) 2 := rs_u hU6 rfl
      have rU8 : rs9_ U8 p = u2_ (u2_ (rs9_ T p) 472 (T 471 p ((s * 6) + (fp9_ (rs9_ T p) s q))) 2) 472 (bq9_ (rs9_ T p) s o) 1 := by rw [rs_u hU8 rfl, rU6]
      have rU10 : rs9_ U10 p = u2_ (u2_ (u2_ (rs9_ T p) 472 (T 471 p ((s * 6) + (fp9_ (rs9_ T p) s q))) 2) 472 (bq9_ (rs9_ T p) s o) 1) 471 ((s * 6) + (fp9_ (rs9_ T p) s q)) (bq9_ (rs9_ T p) s o) := by rw [rs_u hU10 rfl, rU8]
      have rU15 : rs9_ U15 p = u2_ (u2_ (u2_ (u2_ (rs9_ T p) 472 (T 471 p ((s * 6) + (fp9_ (rs9_ T p) s q))) 2) 472 (bq9_ (rs9_ T p) s o) 1) 471 ((s * 6) + (fp9_ (rs9_ T p) s q)) (bq9_ (rs9_ T p) s o)) 469 s (wr_ ((T 469 p s) + 1)) := by rw [rs_u hU15 rfl, rU10]
      exact ⟨rfl, fr_u (fr_u (fr_u (fr_u (fr_0 _ _) hU6 rfl) hU8 rfl) hU10 rfl) hU15 rfl, oi_u (oi_u (oi_u (oi_u (oi_r) hU6) hU8) hU10) hU15, by rfl, Eq.trans rU15 (su9__2 (r := ru) (a := (rs9_ T p)) (s := s) (q := q) (o := o) (show ¬ (fp9_ (rs9_ T p) s q = -1 ∨ bq9_ (rs9_ T p) s o = -1) by omega)).symm⟩
    · refine (show po_X3_substitute_e T p ru s q o T (none) from ?_)
      exact ⟨rfl, fr_0 _ _, oi_r, by rfl, Eq.trans rfl (su9__1 (r := ru) (a := (rs9_ T p)) (s := s) (q := q) (o := o) (show fp9_ (rs9_ T p) s q = -1 ∨ bq9_ (rs9_ T p) s o = -1 by omega)).symm⟩
