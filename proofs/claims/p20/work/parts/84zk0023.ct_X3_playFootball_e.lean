theorem bk_X3_playFootball_e_0 : ck_ fX3 none cX3_playFootball 0 [.iload 1] 1 = true := qck_r (nn_ _) (by decide +kernel)
theorem bs_X3_playFootball_e_0 {P : Zt → Option Zv → Prop} (K : Int → Zl → List Zv → Zt → Prop) : sx_ K P [.iload 1] 1 = x_iload 1 (K 1) := ((xe_iload 1).trans (congrArg (x_iload 1) xe_nil))
theorem bk_X3_playFootball_e_32 : ck_ fX3 none cX3_playFootball 32 [.aload 0, .tableswitch 0 3 8 #[], .iload 2, .dup2, .iaload, .iconst 1, .fadd, .iastore, .goto 115] 45 = true := qck_r (nn_ _) (by decide +kernel)
theorem bs_X3_playFootball_e_32 {P : Zt → Option Zv → Prop} (K : Int → Zl → List Zv → Zt → Prop) : sx_ K P [.aload 0, .tableswitch 0 3 8 #[], .iload 2, .dup2, .iaload, .iconst 1, .fadd, .iastore, .goto 115] 45 = x_aload 0 (x_g2 103 468 (x_iload 2 (x_dup2 (x_iaload (x_iconst 1 (x_fadd (x_iastore (x_goto 115 K)))))))) := ((xe_aload 0).trans (congrArg (x_aload 0) ((xe_g2 (kk := 103) rfl tl_3_8).trans (congrArg (x_g2 103 468) ((xe_iload 2).trans (congrArg (x_iload 2) ((xe_dup2).trans (congrArg (x_dup2) ((xe_iaload).trans (congrArg (x_iaload) ((xe_iconst 1).trans (congrArg (x_iconst 1) ((xe_fadd).trans (congrArg (x_fadd) ((xe_iastore).trans (congrArg (x_iastore) (xe_goto 115)))))))))))))))))
theorem bk_X3_playFootball_e_115 : ck_ fX3 none cX3_playFootball 115 [.return_] 116 = true := qck_r (nn_ _) (by decide +kernel)
theorem bs_X3_playFootball_e_115 {P : Zt → Option Zv → Prop} (K : Int → Zl → List Zv → Zt → Prop) : sx_ K P [.return_] 116 = x_return_ P := (xe_return_)
theorem bk_X3_playFootball_e_45 : ck_ fX3 none cX3_playFootball 45 [.aload 0, .tableswitch 0 3 8 #[], .iconst 1, .iload 2, .isub, .dup2, .iaload, .iconst 1, .fadd, .iastore, .goto 115] 60 = true := qck_r (nn_ _) (by decide +kernel)
theorem bs_X3_playFootball_e_45 {P : Zt → Option Zv → Prop} (K : Int → Zl → List Zv → Zt → Prop) : sx_ K P [.aload 0, .tableswitch 0 3 8 #[], .iconst 1, .iload 2, .isub, .dup2, .iaload, .iconst 1, .fadd, .iastore, .goto 115] 60 = x_aload 0 (x_g2 103 468 (x_iconst 1 (x_iload 2 (x_isub (x_dup2 (x_iaload (x_iconst 1 (x_fadd (x_iastore (x_goto 115 K)))))))))) := ((xe_aload 0).trans (congrArg (x_aload 0) ((xe_g2 (kk := 103) rfl tl_3_8).trans (congrArg (x_g2 103 468) ((xe_iconst 1).trans (congrArg (x_iconst 1) ((xe_iload 2).trans (congrArg (x_iload 2) ((xe_isub).trans (congrArg (x_isub) ((xe_dup2).trans (congrArg (x_dup2) ((xe_iaload).trans (congrArg (x_iaload) ((xe_iconst 1).trans (congrArg (x_iconst 1) ((xe_fadd).trans (congrArg (x_fadd) ((xe_iastore).trans (congrArg (x_iastore) (xe_goto 115)))))))))))))))))))))
theorem bk_X3_playFootball_e_60 : ck_ fX3 none cX3_playFootball 60 [.aload 0, .iload 2, .aload 0, .iload 2, .iload 3] 65 = true := qck_r (nn_ _) (by decide +kernel)
theorem bs_X3_playFootball_e_60 {P : Zt → Option Zv → Prop} (K : Int → Zl → List Zv → Zt → Prop) : sx_ K P [.aload 0, .iload 2, .aload 0, .iload 2, .iload 3] 65 = x_aload 0 (x_iload 2 (x_aload 0 (x_iload 2 (x_iload 3 (K 65))))) := ((xe_aload 0).trans (congrArg (x_aload 0) ((xe_iload 2).trans (congrArg (x_iload 2) ((xe_aload 0).trans (congrArg (x_aload 0) ((xe_iload 2).trans (congrArg (x_iload 2) ((xe_iload 3).trans (congrArg (x_iload 3) xe_nil))))))))))
theorem bk_X3_playFootball_e_71 : ck_ fX3 none cX3_playFootball 71 [.goto 115] 74 = true := qck_r (nn_ _) (by decide +kernel)
theorem bs_X3_playFootball_e_71 {P : Zt → Option Zv → Prop} (K : Int → Zl → List Zv → Zt → Prop) : sx_ K P [.goto 115] 74 = x_goto 115 K := (xe_goto 115)
theorem bk_X3_playFootball_e_74 : ck_ fX3 none cX3_playFootball 74 [.aload 0, .iload 2, .aload 0, .iload 2, .iload 3] 79 = true := qck_r (nn_ _) (by decide +kernel)
theorem bs_X3_playFootball_e_74 {P : Zt → Option Zv → Prop} (K : Int → Zl → List Zv → Zt → Prop) : sx_ K P [.aload 0, .iload 2, .aload 0, .iload 2, .iload 3] 79 = x_aload 0 (x_iload 2 (x_aload 0 (x_iload 2 (x_iload 3 (K 79))))) := ((xe_aload 0).trans (congrArg (x_aload 0) ((xe_iload 2).trans (congrArg (x_iload 2) ((xe_aload 0).trans (congrArg (x_aload 0) ((xe_iload 2).trans (congrArg (x_iload 2) ((xe_iload 3).trans (congrArg (x_iload 3) xe_nil))))))))))
theorem bk_X3_playFootball_e_85 : ck_ fX3 none cX3_playFootball 85 [.goto 115] 88 = true := qck_r (nn_ _) (by decide +kernel)
theorem bs_X3_playFootball_e_85 {P : Zt → Option Zv → Prop} (K : Int → Zl → List Zv → Zt → Prop) : sx_ K P [.goto 115] 88 = x_goto 115 K := (xe_goto 115)
theorem bk_X3_playFootball_e_88 : ck_ fX3 none cX3_playFootball 88 [.aload 0, .dup, .tableswitch 0 3 4 #[], .iconst 1, .fadd, .tableswitch 1 3 4 #[], .aload 0, .aload 0, .tableswitch 0 3 4 #[], .iconst 3, .if_icmp .ne 111, .iconst 1, .goto 112] 111 = true := qck_r (nn_ _) (by decide +kernel)
theorem bs_X3_playFootball_e_88 {P : Zt → Option Zv → Prop} (K : Int → Zl → List Zv → Zt → Prop) : sx_ K P [.aload 0, .dup, .tableswitch 0 3 4 #[], .iconst 1, .fadd, .tableswitch 1 3 4 #[], .aload 0, .aload 0, .tableswitch 0 3 4 #[], .iconst 3, .if_icmp .ne 111, .iconst 1, .goto 112] 111 = x_aload 0 (x_dup (x_g0 103 4 (-2147483648) 2147483647 (x_iconst 1 (x_fadd (x_p 103 4 (-2147483648) 2147483647 (x_aload 0 (x_aload 0 (x_g0 103 4 (-2147483648) 2147483647 (x_iconst 3 (x_if_icmp .ne 111 K (x_iconst 1 (x_goto 112 K)))))))))))) := ((xe_aload 0).trans (congrArg (x_aload 0) ((xe_dup).trans (congrArg (x_dup) ((xe_g0 (kk := 103) rfl tl_3_4).trans (congrArg (x_g0 103 4 (-2147483648) 2147483647) ((xe_iconst 1).trans (congrArg (x_iconst 1) ((xe_fadd).trans (congrArg (x_fadd) ((xe_p (kk := 103) rfl tl_3_4).trans (congrArg (x_p 103 4 (-2147483648) 2147483647) ((xe_aload 0).trans (congrArg (x_aload 0) ((xe_aload 0).trans (congrArg (x_aload 0) ((xe_g0 (kk := 103) rfl tl_3_4).trans (congrArg (x_g0 103 4 (-2147483648) 2147483647) ((xe_iconst 3).trans (congrArg (x_iconst 3) ((xe_if_icmp .ne 111).trans (congrArg (x_if_icmp .ne 111 K) ((xe_iconst 1).trans (congrArg (x_iconst 1) (xe_goto 112)))))))))))))))))))))))))
theorem bk_X3_playFootball_e_111 : ck_ fX3 none cX3_playFootball 111 [.iconst 0, .tableswitch 1 3 3 #[], .return_] 116 = true := qck_r (nn_ _) (by decide +kernel)
theorem bs_X3_playFootball_e_111 {P : Zt → Option Zv → Prop} (K : Int → Zl → List Zv → Zt → Prop) : sx_ K P [.iconst 0, .tableswitch 1 3 3 #[], .return_] 116 = x_iconst 0 (x_p 103 3 0 1 (x_return_ P)) := ((xe_iconst 0).trans (congrArg (x_iconst 0) ((xe_p (kk := 103) rfl tl_3_3).trans (congrArg (x_p 103 3 0 1) (xe_return_)))))
theorem bk_X3_playFootball_e_112 : ck_ fX3 none cX3_playFootball 112 [.tableswitch 1 3 3 #[], .return_] 116 = true := qck_r (nn_ _) (by decide +kernel)
theorem bs_X3_playFootball_e_112 {P : Zt → Option Zv → Prop} (K : Int → Zl → List Zv → Zt → Prop) : sx_ K P [.tableswitch 1 3 3 #[], .return_] 116 = x_p 103 3 0 1 (x_return_ P) := ((xe_p (kk := 103) rfl tl_3_3).trans (congrArg (x_p 103 3 0 1) (xe_return_)))
abbrev po_X3_playFootball_e (T : Zt) (p : Int) (ru : Int → Int) (k s q : Int) : Zt → Option Zv → Prop := fun T' r => r = none ∧ fr_ [(472, []), (471, []), (470, []), (103, [3, 4]), (468, []), (473, [])] T T' ∧ (oi_ T T' p ∧ (T' 103 p 3 = 0 → 1 ≤ T' 470 p 0 ∧ 1 ≤ T' 470 p 1) ∧ rs9_ T' p = pf9_ ru (rs9_ T p) k s q)
set_option maxHeartbeats 4000000 in
theorem ct_X3_playFootball_e {T : Zt} {p : Int} {ru : Int → Int} {k s q : Int} (hr : RLP_ T p ru) (hs : k = 0 ∨ (0 ≤ s ∧ s ≤ 1)) (hk : 0 ≤ k ∧ k ≤ 4) (hf : 1 ≤ T 401 (T 103 p 0) 9 ∧ T 401 (T 103 p 0) 9 ≤ 6) (hfd : 1 ≤ T 470 p 0 ∧ 1 ≤ T 470 p 1) : Ct_ yX3_playFootball zX3_playFootball T [vR 103 p, vI k, vI s, vI q] (po_X3_playFootball_e T p ru k s q) := by
  refine ct_of pn_3 rfl rfl (Nat.le_of_ble_eq_true rfl) (fun hT hav => ?_)
  have hr_k : -2147483648 ≤ k ∧ k ≤ 2147483647 := hav (vI k) (List.mem_cons_of_mem _ List.mem_cons_self)
  have hr_s : -2147483648 ≤ s ∧ s ≤ 2147483647 := hav (vI s) (List.mem_cons_of_mem _ (List.mem_cons_of_mem _ List.mem_cons_self))
  have hr_q : -2147483648 ≤ q ∧ q ≤ 2147483647 := hav (vI q) (List.mem_cons_of_mem _ (List.mem_cons_of_mem _ (List.mem_cons_of_mem _ List.mem_cons_self)))
  have hz : zX3_playFootball.2.2.2.1 = some .boolean → ∀ (T' : Zt) (x : Int), po_X3_playFootball_e T p ru k s q T' (some (vI x)) → 0 ≤ x ∧ x ≤ 1 := fun h => by cases h
  have hr0 := hr 0 (by decide) (by decide)
  have hr9 := hr 9 (by decide) (by decide)
  have hr10 := hr 10 (by decide) (by decide)
  have hr11 := hr 11 (by decide) (by decide)
  have hr12 := hr 12 (by decide) (by decide)
  show J_ zX3_playFootball T (po_X3_playFootball_e T p ru k s q) 0 0 0 [some (vR 103 p), some (vI k), some (vI s), some (vI q)] [] T
  refine j_blx (F := fX3) tb_X3 (nn_ _) bk_X3_playFootball_e_0 bs_X3_playFootball_e_0 hz (fun K hK => ?_)
  refine hK 1 _ [vI k] T ?_
  by_cases z1_0 : k = 1
  · refine j_tsI (pc := 1) 0 (off := 31) (tgt := 32) (by decide) ds_X3_playFootball_1 (by omega) (by decide) rfl (by decide) (by decide) ?_
    refine j_blx (F := fX3) tb_X3 (nn_ _) bk_X3_playFootball_e_32 bs_X3_playFootball_e_32 hz (fun K hK => ?_)
    refine ix_i (by omega) ?_
    intro b2 b2b
    intro w3 w3b
    refine iy_i (by omega) (by omega) ?_
    refine x_nm (fun U4 hU4 => ?_)
    have e5 := up_f hU4
    refine hK 115 _ [] U4 ?_
    refine j_blx (F := fX3) tb_X3 (nn_ _) bk_X3_playFootball_e_115 bs_X3_playFootball_e_115 hz (fun K hK => ?_)
    refine (show po_X3_playFootball_e T p ru k s q U4 (none) from ?_)
    have e6 : U4 103 p 3 = T 103 p 3 := up_k hU4 (by exact Nat.ne_of_beq_eq_false rfl) p 3
    have e7 : U4 470 p 0 = T 470 p 0 := up_k hU4 (by exact Nat.ne_of_beq_eq_false rfl) p 0
    have e8 : U4 470 p 1 = T 470 p 1 := up_k hU4 (by exact Nat.ne_of_beq_eq_false rfl) p 1
    have g9 : U4 470 p 0 = T 470 p 0 := up_k hU4 (by exact Nat.ne_of_beq_eq_false rfl) p 0
    have g10 : U4 470 p 1 = T 470 p 1 := up_k hU4 (by exact Nat.ne_of_beq_eq_false rfl) p 1
    have e11 : U4 103 p 3 = T 103 p 3 := up_k hU4 (by exact Nat.ne_of_beq_eq_false rfl) p 3
    have rU4 : rs9_ U4 p = u2_ (rs9_ T p) 468 s (wr_ ((T 468 p s) + 1)) := rs_u hU4 rfl
    exact ⟨rfl, fr_u (fr_0 _ _) hU4 rfl, oi_u (oi_r) hU4, by exact fun _ => by omega, Eq.trans rU4 (pf9__1 (r := ru) (a := (rs9_ T p)) (k := k) (s := s) (q := q) (show k = 1 by omega)).symm⟩
  by_cases z1_1 : k = 2
  · refine j_tsI (pc := 1) 1 (off := 44) (tgt := 45) (by decide) ds_X3_playFootball_1 (by omega) (by decide) rfl (by decide) (by decide) ?_
    refine j_blx (F := fX3) tb_X3 (nn_ _) bk_X3_playFootball_e_45 bs_X3_playFootball_e_45 hz (fun K hK => ?_)
    refine rg_i (by omega) ?_
    refine ix_i (by omega) ?_
    intro b12 b12b
    intro w13 w13b
    refine iy_i (by omega) (by omega) ?_
    refine x_nm (fun U14 hU14 => ?_)
    have e15 := up_f hU14
    refine hK 115 _ [] U14 ?_
    refine j_blx (F := fX3) tb_X3 (nn_ _) bk_X3_playFootball_e_115 bs_X3_playFootball_e_115 hz (fun K hK => ?_)
    refine (show po_X3_playFootball_e T p ru k s q U14 (none) from ?_)
    have e16 : U14 103 p 3 = T 103 p 3 := up_k hU14 (by exact Nat.ne_of_beq_eq_false rfl) p 3
    have e17 : U14 470 p 0 = T 470 p 0 := up_k hU14 (by exact Nat.ne_of_beq_eq_false rfl) p 0
    have e18 : U14 470 p 1 = T 470 p 1 := up_k hU14 (by exact Nat.ne_of_beq_eq_false rfl) p 1
    have g19 : U14 470 p 0 = T 470 p 0 := up_k hU14 (by exact Nat.ne_of_beq_eq_false rfl) p 0
    have g20 : U14 470 p 1 = T 470 p 1 := up_k hU14 (by exact Nat.ne_of_beq_eq_false rfl) p 1
    have e21 : U14 103 p 3 = T 103 p 3 := up_k hU14 (by exact Nat.ne_of_beq_eq_false rfl) p 3
    have rU14 : rs9_ U14 p = u2_ (rs9_ T p) 468 (1 - s) (wr_ ((T 468 p (1 - s)) + 1)) := rs_u hU14 rfl
    exact ⟨rfl, fr_u (fr_0 _ _) hU14 rfl, oi_u (oi_r) hU14, by exact fun _ => by omega, Eq.trans rU14 (pf9__2 (r := ru) (a := (rs9_ T p)) (k := k) (s := s) (q := q) (show ¬ (k = 1) by omega) (show k = 2 by omega)).symm⟩
  by_cases z1_2 : k = 3
  · refine j_tsI (pc := 1) 2 (off := 59) (tgt := 60) (by decide) ds_X3_playFootball_1 (by omega) (by decide) rfl (by decide) (by decide) ?_
    refine j_blx (F := fX3) tb_X3 (nn_ _) bk_X3_playFootball_e_60 bs_X3_playFootball_e_60 hz (fun K hK => ?_)
    refine hK 65 _ [vI q, vI s, vR 103 p, vI s, vR 103 p] T ?_
    refine j_callV (y := yX3_fieldPlace) (Yc := zX3_fieldPlace) (rest := [vI s, vR 103 p]) [vI s, vI q] (ct_X3_fieldPlace_e (T := T) (by omega)) cl_X3_79 (qd_c (by decide +kernel)) (nn_ _) rfl (rf_of rfl) (Nat.le_of_ble_eq_true rfl) (Nat.le_of_ble_eq_true rfl) (Nat.le_of_ble_eq_true rfl) rfl ?_
    rintro _ _ ⟨rfl, rfl⟩
    have n22 : fp9_ (rs9_ T p) s q = -1 ∨ (0 ≤ fp9_ (rs9_ T p) s q ∧ fp9_ (rs9_ T p) s q < T 470 p s ∧ T 448 p (T 471 p (s * 6 + fp9_ (rs9_ T p) s q)) = q) := fp9_b
    show J_ zX3_playFootball T (po_X3_playFootball_e T p ru k s q) 0 0 68 _ [vI (fp9_ (rs9_ T p) s q), vI s, vR 103 p] T
    refine j_callV (y := yX3_showYellow) (Yc := zX3_showYellow) (rest := []) [vI s, vI (fp9_ (rs9_ T p) s q)] (ct_X3_showYellow_e (T := T) (ru := ru) (by exact hr) (by omega) (by omega) (by omega) (by omega)) cl_X3_113 (qd_c (by decide +kernel)) (nn_ _) rfl (rf_of rfl) (Nat.le_of_ble_eq_true rfl) (Nat.le_of_ble_eq_true rfl) (Nat.le_of_ble_eq_true rfl) rfl ?_
    rintro U23 _ ⟨rfl, fU23, qU23o, qU23, qU23e⟩
    show J_ zX3_playFootball T (po_X3_playFootball_e T p ru k s q) 0 0 71 _ [] U23
    refine j_blx (F := fX3) tb_X3 (nn_ _) bk_X3_playFootball_e_71 bs_X3_playFootball_e_71 hz (fun K hK => ?_)
    refine hK 115 _ [] U23 ?_
    refine j_blx (F := fX3) tb_X3 (nn_ _) bk_X3_playFootball_e_115 bs_X3_playFootball_e_115 hz (fun K hK => ?_)
    refine (show po_X3_playFootball_e T p ru k s q U23 (none) from ?_)
    have rU23 : rs9_ U23 p = yl9_ ru (rs9_ T p) s (fp9_ (rs9_ T p) s q) := qU23e
    exact ⟨rfl, fr_t (fr_0 _ _) (fr_s fU23 rfl), oi_t (oi_r) qU23o, by exact fun z9 => by have y9 := qU23; omega, Eq.trans rU23 (pf9__3 (r := ru) (a := (rs9_ T p)) (k := k) (s := s) (q := q) (show ¬ (k = 1) by omega) (show ¬ (k = 2) by omega) (show k = 3 by omega)).symm⟩
  by_cases z1_3 : k = 4
  · refine j_tsI (pc := 1) 3 (off := 73) (tgt := 74) (by decide) ds_X3_playFootball_1 (by omega) (by decide) rfl (by decide) (by decide) ?_
    refine j_blx (F := fX3) tb_X3 (nn_ _) bk_X3_playFootball_e_74 bs_X3_playFootball_e_74 hz (fun K hK => ?_)
    refine hK 79 _ [vI q, vI s, vR 103 p, vI s, vR 103 p] T ?_
    refine j_callV (y := yX3_fieldPlace) (Yc := zX3_fieldPlace) (rest := [vI s, vR 103 p]) [vI s, vI q] (ct_X3_fieldPlace_e (T := T) (by omega)) cl_X3_79 (qd_c (by decide +kernel)) (nn_ _) rfl (rf_of rfl) (Nat.le_of_ble_eq_true rfl) (Nat.le_of_ble_eq_true rfl) (Nat.le_of_ble_eq_true rfl) rfl ?_
    rintro _ _ ⟨rfl, rfl⟩
    have n24 : fp9_ (rs9_ T p) s q = -1 ∨ (0 ≤ fp9_ (rs9_ T p) s q ∧ fp9_ (rs9_ T p) s q < T 470 p s ∧ T 448 p (T 471 p (s * 6 + fp9_ (rs9_ T p) s q)) = q) := fp9_b
    show J_ zX3_playFootball T (po_X3_playFootball_e T p ru k s q) 0 0 82 _ [vI (fp9_ (rs9_ T p) s q), vI s, vR 103 p] T
    refine j_callV (y := yX3_sendOff) (Yc := zX3_sendOff) (rest := []) [vI s, vI (fp9_ (rs9_ T p) s q)] (ct_X3_sendOff_e (T := T) (ru := ru) (by exact hr) (by omega) (by omega) (by omega) (by omega)) cl_X3_116 (qd_c (by decide +kernel)) (nn_ _) rfl (rf_of rfl) (Nat.le_of_ble_eq_true rfl) (Nat.le_of_ble_eq_true rfl) (Nat.le_of_ble_eq_true rfl) rfl ?_
    rintro U25 _ ⟨rfl, fU25, qU25o, qU25, qU25e⟩
    show J_ zX3_playFootball T (po_X3_playFootball_e T p ru k s q) 0 0 85 _ [] U25
    refine j_blx (F := fX3) tb_X3 (nn_ _) bk_X3_playFootball_e_85 bs_X3_playFootball_e_85 hz (fun K hK => ?_)
    refine hK 115 _ [] U25 ?_
    refine j_blx (F := fX3) tb_X3 (nn_ _) bk_X3_playFootball_e_115 bs_X3_playFootball_e_115 hz (fun K hK => ?_)
    refine (show po_X3_playFootball_e T p ru k s q U25 (none) from ?_)
    have rU25 : rs9_ U25 p = so9_ ru (rs9_ T p) s (fp9_ (rs9_ T p) s q) := qU25e
    exact ⟨rfl, fr_t (fr_0 _ _) (fr_s fU25 rfl), oi_t (oi_r) qU25o, by exact fun z9 => by have y9 := qU25; omega, Eq.trans rU25 (pf9__4 (r := ru) (a := (rs9_ T p)) (k := k) (s := s) (q := q) (show ¬ (k = 1) by omega) (show ¬ (k = 2) by omega) (show ¬ (k = 3) by omega) (show k = 4 by omega)).symm⟩
  refine j_tsO (pc := 1) (tgt := 88) (by decide) ds_X3_playFootball_1 (by omega) (by decide) (by decide) ?_
  refine j_blx (F := fX3) tb_X3 (nn_ _) bk_X3_playFootball_e_88 bs_X3_playFootball_e_88 hz (fun K hK => ?_)
  intro b26 b26b
  intro w27 w27b
  refine bd_i (by omega) ?_
  refine x_nm (fun U28 hU28 => ?_)
  have e29 := up_f hU28
  intro b30 b30b
  have e31 : U28 103 p 4 = wr_ ((T 103 p 4) + 1) := up_f hU28
  rw [e31] at b30 b30b ⊢
  refine And.intro (fun c32 => ?_) (fun c32 => ?_)
  · refine hK 111 _ [vR 103 p] U28 ?_
    refine j_blx (F := fX3) tb_X3 (nn_ _) bk_X3_playFootball_e_111 bs_X3_playFootball_e_111 hz (fun K hK => ?_)
    refine bd_i (by omega) ?_
    refine x_nm (fun U33 hU33 => ?_)
    have e34 := up_f hU33
    refine (show po_X3_playFootball_e T p ru k s q U33 (none) from ?_)
    have e35 : U33 103 p 3 = 0 := up_f hU33
    have e36 : U33 470 p 0 = T 470 p 0 := (up_k hU33 (by exact Nat.ne_of_beq_eq_false rfl) p 0).trans (up_k hU28 (by exact Nat.ne_of_beq_eq_false rfl) p 0)
    have e37 : U33 470 p 1 = T 470 p 1 := (up_k hU33 (by exact Nat.ne_of_beq_eq_false rfl) p 1).trans (up_k hU28 (by exact Nat.ne_of_beq_eq_false rfl) p 1)
    have g38 : U33 470 p 0 = T 470 p 0 := (up_k hU33 (by exact Nat.ne_of_beq_eq_false rfl) p 0).trans (up_k hU28 (by exact Nat.ne_of_beq_eq_false rfl) p 0)
    have g39 : U33 470 p 1 = T 470 p 1 := (up_k hU33 (by exact Nat.ne_of_beq_eq_false rfl) p 1).trans (up_k hU28 (by exact Nat.ne_of_beq_eq_false rfl) p 1)
    have e40 : U33 103 p 3 = 0 := up_f hU33
    have rU28 : rs9_ U28 p = u2_ (rs9_ T p) 103 4 (wr_ ((T 103 p 4) + 1)) := rs_u hU28 rfl
    have rU33 : rs9_ U33 p = u2_ (u2_ (rs9_ T p) 103 4 (wr_ ((T 103 p 4) + 1))) 103 3 0 := by rw [rs_u hU33 rfl, rU28]
    exact ⟨rfl, fr_u (fr_u (fr_0 _ _) hU28 rfl) hU33 rfl, oi_u (oi_u (oi_r) hU28) hU33, by exact fun _ => by omega, Eq.trans rU33 (pf9__6 (r := ru) (a := (rs9_ T p)) (k := k) (s := s) (q := q) (show ¬ (k = 1) by omega) (show ¬ (k = 2) by omega) (show ¬ (k = 3) by omega) (show ¬ (k = 4) by omega) (show ¬ (wr_ (T 103 p 4 + 1) = 3) by omega)).symm⟩
  · refine hK 112 _ [vI 1, vR 103 p] U28 ?_
    refine j_blx (F := fX3) tb_X3 (nn_ _) bk_X3_playFootball_e_112 bs_X3_playFootball_e_112 hz (fun K hK => ?_)
    refine bd_i (by omega) ?_
    refine x_nm (fun U41 hU41 => ?_)
    have e42 := up_f hU41
    refine (show po_X3_playFootball_e T p ru k s q U41 (none) from ?_)
    have e43 : U41 103 p 3 = 1 := up_f hU41
    have e44 : U41 470 p 0 = T 470 p 0 := (up_k hU41 (by exact Nat.ne_of_beq_eq_false rfl) p 0).trans (up_k hU28 (by exact Nat.ne_of_beq_eq_false rfl) p 0)
    have e45 : U41 470 p 1 = T 470 p 1 := (up_k hU41 (by exact Nat.ne_of_beq_eq_false rfl) p 1).trans (up_k hU28 (by exact Nat.ne_of_beq_eq_false rfl) p 1)
    have g46 : U41 470 p 0 = T 470 p 0 := (up_k hU41 (by exact Nat.ne_of_beq_eq_false rfl) p 0).trans (up_k hU28 (by exact Nat.ne_of_beq_eq_false rfl) p 0)
    have g47 : U41 470 p 1 = T 470 p 1 := (up_k hU41 (by exact Nat.ne_of_beq_eq_false rfl) p 1).trans (up_k hU28 (by exact Nat.ne_of_beq_eq_false rfl) p 1)
    have e48 : U41 103 p 3 = 1 := up_f hU41
    have rU28 : rs9_ U28 p = u2_ (rs9_ T p) 103 4 (wr_ ((T 103 p 4) + 1)) := rs_u hU28 rfl
    have rU41 : rs9_ U41 p = u2_ (u2_ (rs9_ T p) 103 4 (wr_ ((T 103 p 4) + 1))) 103 3 1 := by rw [rs_u hU41 rfl, rU28]
    exact ⟨rfl, fr_u (fr_u (fr_0 _ _) hU28 rfl) hU41 rfl, oi_u (oi_u (oi_r) hU28) hU41, by exact fun _ => by omega, Eq.trans rU41 (pf9__5 (r := ru) (a := (rs9_ T p)) (k := k) (s := s) (q := q) (show ¬ (k = 1) by omega) (show ¬ (k = 2) by omega) (show ¬ (k = 3) by omega) (show ¬ (k = 4) by omega) (show wr_ (T 103 p 4 + 1) = 3 by omega)).symm⟩
