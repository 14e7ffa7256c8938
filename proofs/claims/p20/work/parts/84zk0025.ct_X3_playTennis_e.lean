theorem bk_X3_playTennis_e_0 : ck_ fX3 none cX3_playTennis 0 [.iload 1, .iconst 6, .if_icmp .ne 21, .aload 0, .tableswitch 0 3 8 #[], .iconst 1, .iload 2, .isub, .iconst 2, .iastore, .aload 0, .iconst 1, .tableswitch 1 3 3 #[], .return_] 21 = true := qck_r (nn_ _) (by decide +kernel)
theorem bs_X3_playTennis_e_0 {P : Zt → Option Zv → Prop} (K : Int → Zl → List Zv → Zt → Prop) : sx_ K P [.iload 1, .iconst 6, .if_icmp .ne 21, .aload 0, .tableswitch 0 3 8 #[], .iconst 1, .iload 2, .isub, .iconst 2, .iastore, .aload 0, .iconst 1, .tableswitch 1 3 3 #[], .return_] 21 = x_iload 1 (x_iconst 6 (x_if_icmp .ne 21 K (x_aload 0 (x_g2 103 468 (x_iconst 1 (x_iload 2 (x_isub (x_iconst 2 (x_iastore (x_aload 0 (x_iconst 1 (x_p 103 3 0 1 (x_return_ P))))))))))))) := ((xe_iload 1).trans (congrArg (x_iload 1) ((xe_iconst 6).trans (congrArg (x_iconst 6) ((xe_if_icmp .ne 21).trans (congrArg (x_if_icmp .ne 21 K) ((xe_aload 0).trans (congrArg (x_aload 0) ((xe_g2 (kk := 103) rfl tl_3_8).trans (congrArg (x_g2 103 468) ((xe_iconst 1).trans (congrArg (x_iconst 1) ((xe_iload 2).trans (congrArg (x_iload 2) ((xe_isub).trans (congrArg (x_isub) ((xe_iconst 2).trans (congrArg (x_iconst 2) ((xe_iastore).trans (congrArg (x_iastore) ((xe_aload 0).trans (congrArg (x_aload 0) ((xe_iconst 1).trans (congrArg (x_iconst 1) ((xe_p (kk := 103) rfl tl_3_3).trans (congrArg (x_p 103 3 0 1) (xe_return_)))))))))))))))))))))))))))
theorem bk_X3_playTennis_e_21 : ck_ fX3 none cX3_playTennis 21 [.aload 0, .tableswitch 0 3 0 #[], .iconst 11, .iaload, .istore 3, .aload 0, .tableswitch 0 3 6 #[], .iload 2, .dup2, .iaload, .iconst 1, .fadd, .iastore, .aload 0, .tableswitch 0 3 7 #[], .iconst 0, .iaload, .iload 3, .if_icmp .ne 64, .aload 0, .tableswitch 0 3 7 #[], .iconst 1, .iaload, .iload 3, .if_icmp .ne 64, .iconst 7, .goto 65] 64 = true := qck_r (nn_ _) (by decide +kernel)
theorem bs_X3_playTennis_e_21 {P : Zt → Option Zv → Prop} (K : Int → Zl → List Zv → Zt → Prop) : sx_ K P [.aload 0, .tableswitch 0 3 0 #[], .iconst 11, .iaload, .istore 3, .aload 0, .tableswitch 0 3 6 #[], .iload 2, .dup2, .iaload, .iconst 1, .fadd, .iastore, .aload 0, .tableswitch 0 3 7 #[], .iconst 0, .iaload, .iload 3, .if_icmp .ne 64, .aload 0, .tableswitch 0 3 7 #[], .iconst 1, .iaload, .iload 3, .if_icmp .ne 64, .iconst 7, .goto 65] 64 = x_aload 0 (x_g3 103 401 0 (x_iconst 11 (x_iaload (x_istore 3 (x_aload 0 (x_g2 103 466 (x_iload 2 (x_dup2 (x_iaload (x_iconst 1 (x_fadd (x_iastore (x_aload 0 (x_g2 103 467 (x_iconst 0 (x_iaload (x_iload 3 (x_if_icmp .ne 64 K (x_aload 0 (x_g2 103 467 (x_iconst 1 (x_iaload (x_iload 3 (x_if_icmp .ne 64 K (x_iconst 7 (x_goto 65 K)))))))))))))))))))))))))) := ((xe_aload 0).trans (congrArg (x_aload 0) ((xe_g3 (kk := 103) rfl tl_3_0).trans (congrArg (x_g3 103 401 0) ((xe_iconst 11).trans (congrArg (x_iconst 11) ((xe_iaload).trans (congrArg (x_iaload) ((xe_istore 3).trans (congrArg (x_istore 3) ((xe_aload 0).trans (congrArg (x_aload 0) ((xe_g2 (kk := 103) rfl tl_3_6).trans (congrArg (x_g2 103 466) ((xe_iload 2).trans (congrArg (x_iload 2) ((xe_dup2).trans (congrArg (x_dup2) ((xe_iaload).trans (congrArg (x_iaload) ((xe_iconst 1).trans (congrArg (x_iconst 1) ((xe_fadd).trans (congrArg (x_fadd) ((xe_iastore).trans (congrArg (x_iastore) ((xe_aload 0).trans (congrArg (x_aload 0) ((xe_g2 (kk := 103) rfl tl_3_7).trans (congrArg (x_g2 103 467) ((xe_iconst 0).trans (congrArg (x_iconst 0) ((xe_iaload).trans (congrArg (x_iaload) ((xe_iload 3).trans (congrArg (x_iload 3) ((xe_if_icmp .ne 64).trans (congrArg (x_if_icmp .ne 64 K) ((xe_aload 0).trans (congrArg (x_aload 0) ((xe_g2 (kk := 103) rfl tl_3_7).trans (congrArg (x_g2 103 467) ((xe_iconst 1).trans (congrArg (x_iconst 1) ((xe_iaload).trans (congrArg (x_iaload) ((xe_iload 3).trans (congrArg (x_iload 3) ((xe_if_icmp .ne 64).trans (congrArg (x_if_icmp .ne 64 K) ((xe_iconst 7).trans (congrArg (x_iconst 7) (xe_goto 65)))))))))))))))))))))))))))))))))))))))))))))))))))))
theorem bk_X3_playTennis_e_64 : ck_ fX3 none cX3_playTennis 64 [.iconst 4, .istore 4, .aload 0, .tableswitch 0 3 6 #[], .iload 2, .iload 4] 74 = true := qck_r (nn_ _) (by decide +kernel)
theorem bs_X3_playTennis_e_64 {P : Zt → Option Zv → Prop} (K : Int → Zl → List Zv → Zt → Prop) : sx_ K P [.iconst 4, .istore 4, .aload 0, .tableswitch 0 3 6 #[], .iload 2, .iload 4] 74 = x_iconst 4 (x_istore 4 (x_aload 0 (x_g2 103 466 (x_iload 2 (x_iload 4 (K 74)))))) := ((xe_iconst 4).trans (congrArg (x_iconst 4) ((xe_istore 4).trans (congrArg (x_istore 4) ((xe_aload 0).trans (congrArg (x_aload 0) ((xe_g2 (kk := 103) rfl tl_3_6).trans (congrArg (x_g2 103 466) ((xe_iload 2).trans (congrArg (x_iload 2) ((xe_iload 4).trans (congrArg (x_iload 4) xe_nil))))))))))))
theorem bk_X3_playTennis_e_77 : ck_ fX3 none cX3_playTennis 77 [.ifCond .ne 81, .return_] 81 = true := qck_r (nn_ _) (by decide +kernel)
theorem bs_X3_playTennis_e_77 {P : Zt → Option Zv → Prop} (K : Int → Zl → List Zv → Zt → Prop) : sx_ K P [.ifCond .ne 81, .return_] 81 = x_ifCond .ne 81 K (x_return_ P) := ((xe_ifCond .ne 81).trans (congrArg (x_ifCond .ne 81 K) (xe_return_)))
theorem bk_X3_playTennis_e_81 : ck_ fX3 none cX3_playTennis 81 [.aload 0, .tableswitch 0 3 6 #[], .iconst 0] 86 = true := qck_r (nn_ _) (by decide +kernel)
theorem bs_X3_playTennis_e_81 {P : Zt → Option Zv → Prop} (K : Int → Zl → List Zv → Zt → Prop) : sx_ K P [.aload 0, .tableswitch 0 3 6 #[], .iconst 0] 86 = x_aload 0 (x_g2 103 466 (x_iconst 0 (K 86))) := ((xe_aload 0).trans (congrArg (x_aload 0) ((xe_g2 (kk := 103) rfl tl_3_6).trans (congrArg (x_g2 103 466) ((xe_iconst 0).trans (congrArg (x_iconst 0) xe_nil))))))
theorem bk_X3_playTennis_e_89 : ck_ fX3 none cX3_playTennis 89 [.aload 0, .tableswitch 0 3 7 #[], .iload 2, .dup2, .iaload, .iconst 1, .fadd, .iastore, .aload 0, .tableswitch 0 3 7 #[], .iload 2, .iload 3] 105 = true := qck_r (nn_ _) (by decide +kernel)
theorem bs_X3_playTennis_e_89 {P : Zt → Option Zv → Prop} (K : Int → Zl → List Zv → Zt → Prop) : sx_ K P [.aload 0, .tableswitch 0 3 7 #[], .iload 2, .dup2, .iaload, .iconst 1, .fadd, .iastore, .aload 0, .tableswitch 0 3 7 #[], .iload 2, .iload 3] 105 = x_aload 0 (x_g2 103 467 (x_iload 2 (x_dup2 (x_iaload (x_iconst 1 (x_fadd (x_iastore (x_aload 0 (x_g2 103 467 (x_iload 2 (x_iload 3 (K 105)))))))))))) := ((xe_aload 0).trans (congrArg (x_aload 0) ((xe_g2 (kk := 103) rfl tl_3_7).trans (congrArg (x_g2 103 467) ((xe_iload 2).trans (congrArg (x_iload 2) ((xe_dup2).trans (congrArg (x_dup2) ((xe_iaload).trans (congrArg (x_iaload) ((xe_iconst 1).trans (congrArg (x_iconst 1) ((xe_fadd).trans (congrArg (x_fadd) ((xe_iastore).trans (congrArg (x_iastore) ((xe_aload 0).trans (congrArg (x_aload 0) ((xe_g2 (kk := 103) rfl tl_3_7).trans (congrArg (x_g2 103 467) ((xe_iload 2).trans (congrArg (x_iload 2) ((xe_iload 3).trans (congrArg (x_iload 3) xe_nil))))))))))))))))))))))))
theorem bk_X3_playTennis_e_108 : ck_ fX3 none cX3_playTennis 108 [.ifCond .ne 121, .aload 0, .tableswitch 0 3 7 #[], .iload 2, .iaload, .iload 3, .if_icmp .le 165, .aload 0, .tableswitch 0 3 7 #[], .iconst 0] 126 = true := qck_r (nn_ _) (by decide +kernel)
theorem bs_X3_playTennis_e_108 {P : Zt → Option Zv → Prop} (K : Int → Zl → List Zv → Zt → Prop) : sx_ K P [.ifCond .ne 121, .aload 0, .tableswitch 0 3 7 #[], .iload 2, .iaload, .iload 3, .if_icmp .le 165, .aload 0, .tableswitch 0 3 7 #[], .iconst 0] 126 = x_ifCond .ne 121 K (x_aload 0 (x_g2 103 467 (x_iload 2 (x_iaload (x_iload 3 (x_if_icmp .le 165 K (x_aload 0 (x_g2 103 467 (x_iconst 0 (K 126)))))))))) := ((xe_ifCond .ne 121).trans (congrArg (x_ifCond .ne 121 K) ((xe_aload 0).trans (congrArg (x_aload 0) ((xe_g2 (kk := 103) rfl tl_3_7).trans (congrArg (x_g2 103 467) ((xe_iload 2).trans (congrArg (x_iload 2) ((xe_iaload).trans (congrArg (x_iaload) ((xe_iload 3).trans (congrArg (x_iload 3) ((xe_if_icmp .le 165).trans (congrArg (x_if_icmp .le 165 K) ((xe_aload 0).trans (congrArg (x_aload 0) ((xe_g2 (kk := 103) rfl tl_3_7).trans (congrArg (x_g2 103 467) ((xe_iconst 0).trans (congrArg (x_iconst 0) xe_nil))))))))))))))))))))
theorem bk_X3_playTennis_e_121 : ck_ fX3 none cX3_playTennis 121 [.aload 0, .tableswitch 0 3 7 #[], .iconst 0] 126 = true := qck_r (nn_ _) (by decide +kernel)
theorem bs_X3_playTennis_e_121 {P : Zt → Option Zv → Prop} (K : Int → Zl → List Zv → Zt → Prop) : sx_ K P [.aload 0, .tableswitch 0 3 7 #[], .iconst 0] 126 = x_aload 0 (x_g2 103 467 (x_iconst 0 (K 126))) := ((xe_aload 0).trans (congrArg (x_aload 0) ((xe_g2 (kk := 103) rfl tl_3_7).trans (congrArg (x_g2 103 467) ((xe_iconst 0).trans (congrArg (x_iconst 0) xe_nil))))))
theorem bk_X3_playTennis_e_129 : ck_ fX3 none cX3_playTennis 129 [.aload 0, .tableswitch 0 3 8 #[], .iload 2, .dup2, .iaload, .iconst 1, .fadd, .iastore, .aload 0, .tableswitch 0 3 8 #[], .iload 2, .iaload, .iconst 2, .if_icmp .ne 155, .aload 0, .iconst 1, .tableswitch 1 3 3 #[], .return_] 155 = true := qck_r (nn_ _) (by decide +kernel)
theorem bs_X3_playTennis_e_129 {P : Zt → Option Zv → Prop} (K : Int → Zl → List Zv → Zt → Prop) : sx_ K P [.aload 0, .tableswitch 0 3 8 #[], .iload 2, .dup2, .iaload, .iconst 1, .fadd, .iastore, .aload 0, .tableswitch 0 3 8 #[], .iload 2, .iaload, .iconst 2, .if_icmp .ne 155, .aload 0, .iconst 1, .tableswitch 1 3 3 #[], .return_] 155 = x_aload 0 (x_g2 103 468 (x_iload 2 (x_dup2 (x_iaload (x_iconst 1 (x_fadd (x_iastore (x_aload 0 (x_g2 103 468 (x_iload 2 (x_iaload (x_iconst 2 (x_if_icmp .ne 155 K (x_aload 0 (x_iconst 1 (x_p 103 3 0 1 (x_return_ P))))))))))))))))) := ((xe_aload 0).trans (congrArg (x_aload 0) ((xe_g2 (kk := 103) rfl tl_3_8).trans (congrArg (x_g2 103 468) ((xe_iload 2).trans (congrArg (x_iload 2) ((xe_dup2).trans (congrArg (x_dup2) ((xe_iaload).trans (congrArg (x_iaload) ((xe_iconst 1).trans (congrArg (x_iconst 1) ((xe_fadd).trans (congrArg (x_fadd) ((xe_iastore).trans (congrArg (x_iastore) ((xe_aload 0).trans (congrArg (x_aload 0) ((xe_g2 (kk := 103) rfl tl_3_8).trans (congrArg (x_g2 103 468) ((xe_iload 2).trans (congrArg (x_iload 2) ((xe_iaload).trans (congrArg (x_iaload) ((xe_iconst 2).trans (congrArg (x_iconst 2) ((xe_if_icmp .ne 155).trans (congrArg (x_if_icmp .ne 155 K) ((xe_aload 0).trans (congrArg (x_aload 0) ((xe_iconst 1).trans (congrArg (x_iconst 1) ((xe_p (kk := 103) rfl tl_3_3).trans (congrArg (x_p 103 3 0 1) (xe_return_)))))))))))))))))))))))))))))))))))
theorem bk_X3_playTennis_e_155 : ck_ fX3 none cX3_playTennis 155 [.aload 0, .dup, .tableswitch 0 3 4 #[], .iconst 1, .fadd, .tableswitch 1 3 4 #[], .aload 0, .iconst 1, .aload 0, .tableswitch 0 3 5 #[], .isub, .tableswitch 1 3 5 #[], .return_] 176 = true := qck_r (nn_ _) (by decide +kernel)
theorem bs_X3_playTennis_e_155 {P : Zt → Option Zv → Prop} (K : Int → Zl → List Zv → Zt → Prop) : sx_ K P [.aload 0, .dup, .tableswitch 0 3 4 #[], .iconst 1, .fadd, .tableswitch 1 3 4 #[], .aload 0, .iconst 1, .aload 0, .tableswitch 0 3 5 #[], .isub, .tableswitch 1 3 5 #[], .return_] 176 = x_aload 0 (x_dup (x_g0 103 4 (-2147483648) 2147483647 (x_iconst 1 (x_fadd (x_p 103 4 (-2147483648) 2147483647 (x_aload 0 (x_iconst 1 (x_aload 0 (x_g0 103 5 0 1 (x_isub (x_p 103 5 0 1 (x_return_ P)))))))))))) := ((xe_aload 0).trans (congrArg (x_aload 0) ((xe_dup).trans (congrArg (x_dup) ((xe_g0 (kk := 103) rfl tl_3_4).trans (congrArg (x_g0 103 4 (-2147483648) 2147483647) ((xe_iconst 1).trans (congrArg (x_iconst 1) ((xe_fadd).trans (congrArg (x_fadd) ((xe_p (kk := 103) rfl tl_3_4).trans (congrArg (x_p 103 4 (-2147483648) 2147483647) ((xe_aload 0).trans (congrArg (x_aload 0) ((xe_iconst 1).trans (congrArg (x_iconst 1) ((xe_aload 0).trans (congrArg (x_aload 0) ((xe_g0 (kk := 103) rfl tl_3_5).trans (congrArg (x_g0 103 5 0 1) ((xe_isub).trans (congrArg (x_isub) ((xe_p (kk := 103) rfl tl_3_5).trans (congrArg (x_p 103 5 0 1) (xe_return_)))))))))))))))))))))))))
theorem bk_X3_playTennis_e_165 : ck_ fX3 none cX3_playTennis 165 [.aload 0, .iconst 1, .aload 0, .tableswitch 0 3 5 #[], .isub, .tableswitch 1 3 5 #[], .return_] 176 = true := qck_r (nn_ _) (by decide +kernel)
theorem bs_X3_playTennis_e_165 {P : Zt → Option Zv → Prop} (K : Int → Zl → List Zv → Zt → Prop) : sx_ K P [.aload 0, .iconst 1, .aload 0, .tableswitch 0 3 5 #[], .isub, .tableswitch 1 3 5 #[], .return_] 176 = x_aload 0 (x_iconst 1 (x_aload 0 (x_g0 103 5 0 1 (x_isub (x_p 103 5 0 1 (x_return_ P)))))) := ((xe_aload 0).trans (congrArg (x_aload 0) ((xe_iconst 1).trans (congrArg (x_iconst 1) ((xe_aload 0).trans (congrArg (x_aload 0) ((xe_g0 (kk := 103) rfl tl_3_5).trans (congrArg (x_g0 103 5 0 1) ((xe_isub).trans (congrArg (x_isub) ((xe_p (kk := 103) rfl tl_3_5).trans (congrArg (x_p 103 5 0 1) (xe_return_)))))))))))))
theorem bk_X3_playTennis_e_65 : ck_ fX3 none cX3_playTennis 65 [.istore 4, .aload 0, .tableswitch 0 3 6 #[], .iload 2, .iload 4] 74 = true := qck_r (nn_ _) (by decide +kernel)
theorem bs_X3_playTennis_e_65 {P : Zt → Option Zv → Prop} (K : Int → Zl → List Zv → Zt → Prop) : sx_ K P [.istore 4, .aload 0, .tableswitch 0 3 6 #[], .iload 2, .iload 4] 74 = x_istore 4 (x_aload 0 (x_g2 103 466 (x_iload 2 (x_iload 4 (K 74))))) := ((xe_istore 4).trans (congrArg (x_istore 4) ((xe_aload 0).trans (congrArg (x_aload 0) ((xe_g2 (kk := 103) rfl tl_3_6).trans (congrArg (x_g2 103 466) ((xe_iload 2).trans (congrArg (x_iload 2) ((xe_iload 4).trans (congrArg (x_iload 4) xe_nil))))))))))
abbrev po_X3_playTennis_e (T : Zt) (p : Int) (ru : Int → Int) (k s : Int) : Zt → Option Zv → Prop := fun T' r => r = none ∧ fr_ [(103, [3, 4, 5]), (466, []), (467, []), (468, [])] T T' ∧ (oi_ T T' p ∧ (T' 103 p 3 = 0 → 1 ≤ T' 470 p 0 ∧ 1 ≤ T' 470 p 1) ∧ rs9_ T' p = pt9_ ru (rs9_ T p) k s)
set_option maxHeartbeats 4000000 in
theorem ct_X3_playTennis_e {T : Zt} {p : Int} {ru : Int → Int} {k s : Int} (hr : RLP_ T p ru) (hs : 0 ≤ s ∧ s ≤ 1) (hfd : 1 ≤ T 470 p 0 ∧ 1 ≤ T 470 p 1) : Ct_ yX3_playTennis zX3_playTennis T [vR 103 p, vI k, vI s] (po_X3_playTennis_e T p ru k s) := by
  refine ct_of pn_3 rfl rfl (Nat.le_of_ble_eq_true rfl) (fun hT hav => ?_)
  have hr_k : -2147483648 ≤ k ∧ k ≤ 2147483647 := hav (vI k) (List.mem_cons_of_mem _ List.mem_cons_self)
  have hr_s : -2147483648 ≤ s ∧ s ≤ 2147483647 := hav (vI s) (List.mem_cons_of_mem _ (List.mem_cons_of_mem _ List.mem_cons_self))
  have hz : zX3_playTennis.2.2.2.1 = some .boolean → ∀ (T' : Zt) (x : Int), po_X3_playTennis_e T p ru k s T' (some (vI x)) → 0 ≤ x ∧ x ≤ 1 := fun h => by cases h
  have hr0 := hr 0 (by decide) (by decide)
  have hr9 := hr 9 (by decide) (by decide)
  have hr10 := hr 10 (by decide) (by decide)
  have hr11 := hr 11 (by decide) (by decide)
  have hr12 := hr 12 (by decide) (by decide)
  show J_ zX3_playTennis T (po_X3_playTennis_e T p ru k s) 0 0 0 [some (vR 103 p), some (vI k), some (vI s), none, none] [] T
  refine j_blx (F := fX3) tb_X3 (nn_ _) bk_X3_playTennis_e_0 bs_X3_playTennis_e_0 hz (fun K hK => ?_)
  refine And.intro (fun c1 => ?_) (fun c1 => ?_)
  · refine hK 21 _ [] T ?_
    refine j_blx (F := fX3) tb_X3 (nn_ _) bk_X3_playTennis_e_21 bs_X3_playTennis_e_21 hz (fun K hK => ?_)
    refine ix_i (by omega) ?_
    intro b3 b3b
    refine ix_i (by omega) ?_
    intro b4 b4b
    intro w5 w5b
    refine iy_i (by omega) (by omega) ?_
    refine x_nm (fun U6 hU6 => ?_)
    have e7 := up_f hU6
    refine ix_i (by omega) ?_
    intro b8 b8b
    have e9 : U6 467 p 0 = T 467 p 0 := up_k hU6 (by exact Nat.ne_of_beq_eq_false rfl) p 0
    rw [e9] at b8 b8b ⊢
    refine And.intro (fun c10 => ?_) (fun c10 => ?_)
    · refine hK 64 [some (vR 103 p), some (vI k), some (vI s), some (vI (T 401 (T 103 p 0) 11)), none] [] U6 ?_
      refine j_blx (F := fX3) tb_X3 (nn_ _) bk_X3_playTennis_e_64 bs_X3_playTennis_e_64 hz (fun K hK => ?_)
      refine hK 74 [some (vR 103 p), some (vI k), some (vI s), some (vI (T 401 (T 103 p 0) 11)), some (vI 4)] [vI 4, vI s, vR 466 p] U6 ?_
      have e11 : U6 466 p s = wr_ ((T 466 p s) + 1) := up_f hU6
      have e12 : U6 466 p (1 - s) = T 466 p (1 - s) := up_g hU6 (by omega)
      refine j_callS (y := yX3_isWon) (Yc := zX3_isWon) (rest := []) [vR 466 p, vI s, vI 4] (ct_X3_isWon_466_e (T := U6) (by omega)) cl_X3_125 (qd_c (by decide +kernel)) (nn_ _) rfl (rf_of rfl) (Nat.le_of_ble_eq_true rfl) (Nat.le_of_ble_eq_true rfl) (Nat.le_of_ble_eq_true rfl) rfl ?_
      rintro _ _ ⟨rfl, x13, rfl, hx13⟩
      rw [e11, e12] at hx13
      show J_ zX3_playTennis T (po_X3_playTennis_e T p ru k s) 0 0 77 _ [vI x13] U6
      refine j_blx (F := fX3) tb_X3 (nn_ _) bk_X3_playTennis_e_77 bs_X3_playTennis_e_77 hz (fun K hK => ?_)
      refine And.intro (fun c14 => ?_) (fun c14 => ?_)
      · replace hx13 := hx13.resolve_right (fun z => c14 z.1)
        clear c14
        refine hK 81 _ [] U6 ?_
        refine j_blx (F := fX3) tb_X3 (nn_ _) bk_X3_playTennis_e_81 bs_X3_playTennis_e_81 hz (fun K hK => ?_)
        refine hK 86 _ [vI 0, vR 466 p] U6 ?_
        refine j_callS (y := yJ7_fill_53178) (Yc := zJ7_fill_53178) (rest := []) [vR 466 p, vI 0] (ct_J7_fill_466_e (T := U6) (by omega)) cl_X3_62 (qd_c (by decide +kernel)) (nn_ _) rfl (rf_of rfl) (Nat.le_of_ble_eq_true rfl) (Nat.le_of_ble_eq_true rfl) (Nat.le_of_ble_eq_true rfl) rfl ?_
        rintro U15 _ ⟨rfl, fU15, qU15o, qU15, qU15e⟩
        show J_ zX3_playTennis T (po_X3_playTennis_e T p ru k s) 0 0 89 _ [] U15
        refine j_blx (F := fX3) tb_X3 (nn_ _) bk_X3_playTennis_e_89 bs_X3_playTennis_e_89 hz (fun K hK => ?_)
        refine ix_i (by omega) ?_
        intro b16 b16b
        have e17 : U15 467 p s = T 467 p s := (fU15 467 p s rfl).trans (up_k hU6 (by exact Nat.ne_of_beq_eq_false rfl) p s)
        rw [e17] at b16 b16b ⊢
        intro w18 w18b
        refine iy_i (by omega) (by omega) ?_
        refine x_nm (fun U19 hU19 => ?_)
        have e20 := up_f hU19
        refine hK 105 _ [vI (T 401 (T 103 p 0) 11), vI s, vR 467 p] U19 ?_
        have e21 : U19 467 p s = wr_ ((T 467 p s) + 1) := up_f hU19
        have e22 : U19 467 p (1 - s) = T 467 p (1 - s) := (up_g hU19 (by omega)).trans ((fU15 467 p (1 - s) rfl).trans (up_k hU6 (by exact Nat.ne_of_beq_eq_false rfl) p (1 - s)))
        refine j_callS (y := yX3_isWon) (Yc := zX3_isWon) (rest := []) [vR 467 p, vI s, vI (T 401 (T 103 p 0) 11)] (ct_X3_isWon_467_e (T := U19) (by omega)) cl_X3_125 (qd_c (by decide +kernel)) (nn_ _) rfl (rf_of rfl) (Nat.le_of_ble_eq_true rfl) (Nat.le_of_ble_eq_true rfl) (Nat.le_of_ble_eq_true rfl) rfl ?_
        rintro _ _ ⟨rfl, x23, rfl, hx23⟩
        rw [e21, e22] at hx23
        show J_ zX3_playTennis T (po_X3_playTennis_e T p ru k s) 0 0 108 _ [vI x23] U19
        refine j_blx (F := fX3) tb_X3 (nn_ _) bk_X3_playTennis_e_108 bs_X3_playTennis_e_108 hz (fun K hK => ?_)
        refine And.intro (fun c24 => ?_) (fun c24 => ?_)
        · replace hx23 := hx23.resolve_right (fun z => c24 z.1)
          clear c24
          refine hK 121 _ [] U19 ?_
          refine j_blx (F := fX3) tb_X3 (nn_ _) bk_X3_playTennis_e_121 bs_X3_playTennis_e_121 hz (fun K hK => ?_)
          refine hK 126 _ [vI 0, vR 467 p] U19 ?_
          refine j_callS (y := yJ7_fill_53178) (Yc := zJ7_fill_53178) (rest := []) [vR 467 p, vI 0] (ct_J7_fill_467_e (T := U19) (by omega)) cl_X3_62 (qd_c (by decide +kernel)) (nn_ _) rfl (rf_of rfl) (Nat.le_of_ble_eq_true rfl) (Nat.le_of_ble_eq_true rfl) (Nat.le_of_ble_eq_true rfl) rfl ?_
          rintro U25 _ ⟨rfl, fU25, qU25o, qU25, qU25e⟩
          show J_ zX3_playTennis T (po_X3_playTennis_e T p ru k s) 0 0 129 _ [] U25
          refine j_blx (F := fX3) tb_X3 (nn_ _) bk_X3_playTennis_e_129 bs_X3_playTennis_e_129 hz (fun K hK => ?_)
          refine ix_i (by omega) ?_
          intro b26 b26b
          have e27 : U25 468 p s = T 468 p s := (fU25 468 p s rfl).trans ((up_k hU19 (by exact Nat.ne_of_beq_eq_false rfl) p s).trans ((fU15 468 p s rfl).trans (up_k hU6 (by exact Nat.ne_of_beq_eq_false rfl) p s)))
          rw [e27] at b26 b26b ⊢
          intro w28 w28b
          refine iy_i (by omega) (by omega) ?_
          refine x_nm (fun U29 hU29 => ?_)
          have e30 := up_f hU29
          refine ix_i (by omega) ?_
          intro b31 b31b
          have e32 : U29 468 p s = wr_ ((T 468 p s) + 1) := up_f hU29
          rw [e32] at b31 b31b ⊢
          refine And.intro (fun c33 => ?_) (fun c33 => ?_)
          · refine hK 155 _ [] U29 ?_
            refine j_blx (F := fX3) tb_X3 (nn_ _) bk_X3_playTennis_e_155 bs_X3_playTennis_e_155 hz (fun K hK => ?_)
            intro b34 b34b
            have e35 : U29 103 p 4 = T 103 p 4 := (up_k hU29 (by exact Nat.ne_of_beq_eq_false rfl) p 4).trans ((fU25 103 p 4 rfl).trans ((up_k hU19 (by exact Nat.ne_of_beq_eq_false rfl) p 4).trans ((fU15 103 p 4 rfl).trans (up_k hU6 (by exact Nat.ne_of_beq_eq_false rfl) p 4))))
            rw [e35] at b34 b34b ⊢
            intro w36 w36b
            refine bd_i (by omega) ?_
            refine x_nm (fun U37 hU37 => ?_)
            have e38 := up_f hU37
            intro b39 b39b
            have e40 : U37 103 p 5 = T 103 p 5 := (up_j hU37 (by decide) 103 p).trans ((up_k hU29 (by exact Nat.ne_of_beq_eq_false rfl) p 5).trans ((fU25 103 p 5 rfl).trans ((up_k hU19 (by exact Nat.ne_of_beq_eq_false rfl) p 5).trans ((fU15 103 p 5 rfl).trans (up_k hU6 (by exact Nat.ne_of_beq_eq_false rfl) p 5)))))
            rw [e40] at b39 b39b ⊢
            refine rg_i (by omega) ?_
            refine bd_i (by omega) ?_
            refine x_nm (fun U41 hU41 => ?_)
            have e42 := up_f hU41
            refine (show po_X3_playTennis_e T p ru k s U41 (none) from ?_)
            have e43 : U41 103 p 3 = T 103 p 3 := (up_j hU41 (by decide) 103 p).trans ((up_j hU37 (by decide) 103 p).trans ((up_k hU29 (by exact Nat.ne_of_beq_eq_false rfl) p 3).trans ((fU25 103 p 3 rfl).trans ((up_k hU19 (by exact Nat.ne_of_beq_eq_false rfl) p 3).trans ((fU15 103 p 3 rfl).trans (up_k hU6 (by exact Nat.ne_of_beq_eq_false rfl) p 3))))))
            have e44 : U41 470 p 0 = T 470 p 0 := (up_k hU41 (by exact Nat.ne_of_beq_eq_false rfl) p 0).trans ((up_k hU37 (by exact Nat.ne_of_beq_eq_false rfl) p 0).trans ((up_k hU29 (by exact Nat.ne_of_beq_eq_false rfl) p 0).trans ((fU25 470 p 0 rfl).trans ((up_k hU19 (by exact Nat.ne_of_beq_eq_false rfl) p 0).trans ((fU15 470 p 0 rfl).trans (up_k hU6 (by exact Nat.ne_of_beq_eq_false rfl) p 0))))))
            have e45 : U41 470 p 1 = T 470 p 1 := (up_k hU41 (by exact Nat.ne_of_beq_eq_false rfl) p 1).trans ((up_k hU37 (by exact Nat.ne_of_beq_eq_false rfl) p 1).trans ((up_k hU29 (by exact Nat.ne_of_beq_eq_false rfl) p 1).trans ((fU25 470 p 1 rfl).trans ((up_k hU19 (by exact Nat.ne_of_beq_eq_false rfl) p 1).trans ((fU15 470 p 1 rfl).trans (up_k hU6 (by exact Nat.ne_of_beq_eq_false rfl) p 1))))))
            have g46 : U41 470 p 0 = T 470 p 0 := (up_k hU41 (by exact Nat.ne_of_beq_eq_false rfl) p 0).trans ((up_k hU37 (by exact Nat.ne_of_beq_eq_false rfl) p 0).trans ((up_k hU29 (by exact Nat.ne_of_beq_eq_false rfl) p 0).trans ((fU25 470 p 0 rfl).trans ((up_k hU19 (by exact Nat.ne_of_beq_eq_false rfl) p 0).trans ((fU15 470 p 0 rfl).trans (up_k hU6 (by exact Nat.ne_of_beq_eq_false rfl) p 0))))))
            have g47 : U41 470 p 1 = T 470 p 1 := (up_k hU41 (by exact Nat.ne_of_beq_eq_false rfl) p 1).trans ((up_k hU37 (by exact Nat.ne_of_beq_eq_false rfl) p 1).trans ((up_k hU29 (by exact Nat.ne_of_beq_eq_false rfl) p 1).trans ((fU25 470 p 1 rfl).trans ((up_k hU19 (by exact Nat.ne_of_beq_eq_false rfl) p 1).trans ((fU15 470 p 1 rfl).trans (up_k hU6 (by exact Nat.ne_of_beq_eq_false rfl) p 1))))))
            have e48 : U41 103 p 3 = T 103 p 3 := (up_j hU41 (by decide) 103 p).trans ((up_j hU37 (by decide) 103 p).trans ((up_k hU29 (by exact Nat.ne_of_beq_eq_false rfl) p 3).trans ((fU25 103 p 3 rfl).trans ((up_k hU19 (by exact Nat.ne_of_beq_eq_false rfl) p 3).trans ((fU15 103 p 3 rfl).trans (up_k hU6 (by exact Nat.ne_of_beq_eq_false rfl) p 3))))))
            have rU6 : rs9_ U6 p = u2_ (rs9_ T p) 466 s (wr_ ((T 466 p s) + 1)) := rs_u hU6 rfl
            have rU15 : rs9_ U15 p = fy2_ (u2_ (rs9_ T p) 466 s (wr_ ((T 466 p s) + 1))) 466 2 0 := by rw [qU15e, rU6]
            have rU19 : rs9_ U19 p = u2_ (fy2_ (u2_ (rs9_ T p) 466 s (wr_ ((T 466 p s) + 1))) 466 2 0) 467 s (wr_ ((T 467 p s) + 1)) := by rw [rs_u hU19 rfl, rU15]
            have rU25 : rs9_ U25 p = fy2_ (u2_ (fy2_ (u2_ (rs9_ T p) 466 s (wr_ ((T 466 p s) + 1))) 466 2 0) 467 s (wr_ ((T 467 p s) + 1))) 467 2 0 := by rw [qU25e, rU19]
            have rU29 : rs9_ U29 p = u2_ (fy2_ (u2_ (fy2_ (u2_ (rs9_ T p) 466 s (wr_ ((T 466 p s) + 1))) 466 2 0) 467 s (wr_ ((T 467 p s) + 1))) 467 2 0) 468 s (wr_ ((T 468 p s) + 1)) := by rw [rs_u hU29 rfl, rU25]
            have rU37 : rs9_ U37 p = u2_ (u2_ (fy2_ (u2_ (fy2_ (u2_ (rs9_ T p) 466 s (wr_ ((T 466 p s) + 1))) 466 2 0) 467 s (wr_ ((T 467 p s) + 1))) 467 2 0) 468 s (wr_ ((T 468 p s) + 1))) 103 4 (wr_ ((T 103 p 4) + 1)) := by rw [rs_u hU37 rfl, rU29]
            have rU41 : rs9_ U41 p = u2_ (u2_ (u2_ (fy2_ (u2_ (fy2_ (u2_ (rs9_ T p) 466 s (wr_ ((T 466 p s) + 1))) 466 2 0) 467 s (wr_ ((T 467 p s) + 1))) 467 2 0) 468 s (wr_ ((T 468 p s) + 1))) 103 4 (wr_ ((T 103 p 4) + 1))) 103 5 (1 - (T 103 p 5)) := by rw [rs_u hU41 rfl, rU37]
            exact ⟨rfl, fr_u (fr_u (fr_u (fr_t (fr_u (fr_t (fr_u (fr_0 _ _) hU6 rfl) (fr_s fU15 rfl)) hU19 rfl) (fr_s fU25 rfl)) hU29 rfl) hU37 rfl) hU41 rfl, oi_u (oi_u (oi_u (oi_t (oi_u (oi_t (oi_u (oi_r) hU6) qU15o) hU19) qU25o) hU29) hU37) hU41, by exact fun _ => by omega, Eq.trans rU41 (pt9__7 (r := ru) (a := (rs9_ T p)) (k := k) (s := s) (show ¬ (k = 6) by omega) (show ¬ (T 467 p 0 = ru 11 ∧ T 467 p 1 = ru 11) by omega) (show 4 ≤ wr_ (T 466 p s + 1) ∧ 2 ≤ wr_ (wr_ (T 466 p s + 1) - T 466 p (1 - s)) by omega) (show (ru 11 ≤ wr_ (T 467 p s + 1) ∧ 2 ≤ wr_ (wr_ (T 467 p s + 1) - T 467 p (1 - s))) ∨ ru 11 < wr_ (T 467 p s + 1) by omega) (show ¬ (wr_ (T 468 p s + 1) = 2) by omega)).symm⟩
          · refine bd_i (by omega) ?_
            refine x_nm (fun U49 hU49 => ?_)
            have e50 := up_f hU49
            refine (show po_X3_playTennis_e T p ru k s U49 (none) from ?_)
            have e51 : U49 103 p 3 = 1 := up_f hU49
            have e52 : U49 470 p 0 = T 470 p 0 := (up_k hU49 (by exact Nat.ne_of_beq_eq_false rfl) p 0).trans ((up_k hU29 (by exact Nat.ne_of_beq_eq_false rfl) p 0).trans ((fU25 470 p 0 rfl).trans ((up_k hU19 (by exact Nat.ne_of_beq_eq_false rfl) p 0).trans ((fU15 470 p 0 rfl).trans (up_k hU6 (by exact Nat.ne_of_beq_eq_false rfl) p 0)))))
            have e53 : U49 470 p 1 = T 470 p 1 := (up_k hU49 (by exact Nat.ne_of_beq_eq_false rfl) p 1).trans ((up_k hU29 (by exact Nat.ne_of_beq_eq_false rfl) p 1).trans ((fU25 470 p 1 rfl).trans ((up_k hU19 (by exact Nat.ne_of_beq_eq_false rfl) p 1).trans ((fU15 470 p 1 rfl).trans (up_k hU6 (by exact Nat.ne_of_beq_eq_false rfl) p 1)))))
            have g54 : U49 470 p 0 = T 470 p 0 := (up_k hU49 (by exact Nat.ne_of_beq_eq_false rfl) p 0).trans ((up_k hU29 (by exact Nat.ne_of_beq_eq_false rfl) p 0).trans ((fU25 470 p 0 rfl).trans ((up_k hU19 (by exact Nat.ne_of_beq_eq_false rfl) p 0).trans ((fU15 470 p 0 rfl).trans (up_k hU6 (by exact Nat.ne_of_beq_eq_false rfl) p 0)))))
            have g55 : U49 470 p 1 = T 470 p 1 := (up_k hU49 (by exact Nat.ne_of_beq_eq_false rfl) p 1).trans ((up_k hU29 (by exact Nat.ne_of_beq_eq_false rfl) p 1).trans ((fU25 470 p 1 rfl).trans ((up_k hU19 (by exact Nat.ne_of_beq_eq_false rfl) p 1).trans ((fU15 470 p 1 rfl).trans (up_k hU6 (by exact Nat.ne_of_beq_eq_false rfl) p 1)))))
            have e56 : U49 103 p 3 = 1 := up_f hU49
            have rU6 : rs9_ U6 p = u2_ (rs9_ T p) 466 s (wr_ ((T 466 p s) + 1)) := rs_u hU6 rfl
            have rU15 : rs9_ U15 p = fy2_ (u2_ (rs9_ T p) 466 s (wr_ ((T 466 p s) + 1))) 466 2 0 := by rw [qU15e, rU6]
            have rU19 : rs9_ U19 p = u2_ (fy2_ (u2_ (rs9_ T p) 466 s (wr_ ((T 466 p s) + 1))) 466 2 0) 467 s (wr_ ((T 467 p s) + 1)) := by rw [rs_u hU19 rfl, rU15]
            have rU25 : rs9_ U25 p = fy2_ (u2_ (fy2_ (u2_ (rs9_ T p) 466 s (wr_ ((T 466 p s) + 1))) 466 2 0) 467 s (wr_ ((T 467 p s) + 1))) 467 2 0 := by rw [qU25e, rU19]
            have rU29 : rs9_ U29 p = u2_ (fy2_ (u2_ (fy2_ (u2_ (rs9_ T p) 466 s (wr_ ((T 466 p s) + 1))) 466 2 0) 467 s (wr_ ((T 467 p s) + 1))) 467 2 0) 468 s (wr_ ((T 468 p s) + 1)) := by rw [rs_u hU29 rfl, rU25]
            have rU49 : rs9_ U49 p = u2_ (u2_ (fy2_ (u2_ (fy2_ (u2_ (rs9_ T p) 466 s (wr_ ((T 466 p s) + 1))) 466 2 0) 467 s (wr_ ((T 467 p s) + 1))) 467 2 0) 468 s (wr_ ((T 468 p s) + 1))) 103 3 1 := by rw [rs_u hU49 rfl, rU29]
            exact ⟨rfl, fr_u (fr_u (fr_t (fr_u (fr_t (fr_u (fr_0 _ _) hU6 rfl) (fr_s fU15 rfl)) hU19 rfl) (fr_s fU25 rfl)) hU29 rfl) hU49 rfl, oi_u (oi_u (oi_t (oi_u (oi_t (oi_u (oi_r) hU6) qU15o) hU19) qU25o) hU29) hU49, by exact fun _ => by omega, Eq.trans rU49 (pt9__6 (r := ru) (a := (rs9_ T p)) (k := k) (s := s) (show ¬ (k = 6) by omega) (show ¬ (T 467 p 0 = ru 11 ∧ T 467 p 1 = ru 11) by omega) (show 4 ≤ wr_ (T 466 p s + 1) ∧ 2 ≤ wr_ (wr_ (T 466 p s + 1) - T 466 p (1 - s)) by omega) (show (ru 11 ≤ wr_ (T 467 p s + 1) ∧ 2 ≤ wr_ (wr_ (T 467 p s + 1) - T 467 p (1 - s))) ∨ ru 11 < wr_ (T 467 p s + 1) by omega) (show wr_ (T 468 p s + 1) = 2 by omega)).symm⟩
        · replace hx23 := hx23.resolve_left (fun z => absurd (c24.symm.trans z.1) (by decide))
          clear c24
          refine ix_i (by omega) ?_
          intro b57 b57b
          have e58 : U19 467 p s = wr_ ((T 467 p s) + 1) := up_f hU19
          rw [e58] at b57 b57b ⊢
          refine And.intro (fun c59 => ?_) (fun c59 => ?_)
          · refine hK 165 _ [] U19 ?_
            refine j_blx (F := fX3) tb_X3 (nn_ _) bk_X3_playTennis_e_165 bs_X3_playTennis_e_165 hz (fun K hK => ?_)
            intro b60 b60b
            have e61 : U19 103 p 5 = T 103 p 5 := (up_k hU19 (by exact Nat.ne_of_beq_eq_false rfl) p 5).trans ((fU15 103 p 5 rfl).trans (up_k hU6 (by exact Nat.ne_of_beq_eq_false rfl) p 5))
            rw [e61] at b60 b60b ⊢
            refine rg_i (by omega) ?_
            refine bd_i (by omega) ?_
            refine x_nm (fun U62 hU62 => ?_)
            have e63 := up_f hU62
            refine (show po_X3_playTennis_e T p ru k s U62 (none) from ?_)
            have e64 : U62 103 p 3 = T 103 p 3 := (up_j hU62 (by decide) 103 p).trans ((up_k hU19 (by exact Nat.ne_of_beq_eq_false rfl) p 3).trans ((fU15 103 p 3 rfl).trans (up_k hU6 (by exact Nat.ne_of_beq_eq_false rfl) p 3)))
            have e65 : U62 470 p 0 = T 470 p 0 := (up_k hU62 (by exact Nat.ne_of_beq_eq_false rfl) p 0).trans ((up_k hU19 (by exact Nat.ne_of_beq_eq_false rfl) p 0).trans ((fU15 470 p 0 rfl).trans (up_k hU6 (by exact Nat.ne_of_beq_eq_false rfl) p 0)))
            have e66 : U62 470 p 1 = T 470 p 1 := (up_k hU62 (by exact Nat.ne_of_beq_eq_false rfl) p 1).trans ((up_k hU19 (by exact Nat.ne_of_beq_eq_false rfl) p 1).trans ((fU15 470 p 1 rfl).trans (up_k hU6 (by exact Nat.ne_of_beq_eq_false rfl) p 1)))
            have g67 : U62 470 p 0 = T 470 p 0 := (up_k hU62 (by exact Nat.ne_of_beq_eq_false rfl) p 0).trans ((up_k hU19 (by exact Nat.ne_of_beq_eq_false rfl) p 0).trans ((fU15 470 p 0 rfl).trans (up_k hU6 (by exact Nat.ne_of_beq_eq_false rfl) p 0)))
            have g68 : U62 470 p 1 = T 470 p 1 := (up_k hU62 (by exact Nat.ne_of_beq_eq_false rfl) p 1).trans ((up_k hU19 (by exact Nat.ne_of_beq_eq_false rfl) p 1).trans ((fU15 470 p 1 rfl).trans (up_k hU6 (by exact Nat.ne_of_beq_eq_false rfl) p 1)))
            have e69 : U62 103 p 3 = T 103 p 3 := (up_j hU62 (by decide) 103 p).trans ((up_k hU19 (by exact Nat.ne_of_beq_eq_false rfl) p 3).trans ((fU15 103 p 3 rfl).trans (up_k hU6 (by exact Nat.ne_of_beq_eq_false rfl) p 3)))
            have rU6 : rs9_ U6 p = u2_ (rs9_ T p) 466 s (wr_ ((T 466 p s) + 1)) := rs_u hU6 rfl
            have rU15 : rs9_ U15 p = fy2_ (u2_ (rs9_ T p) 466 s (wr_ ((T 466 p s) + 1))) 466 2 0 := by rw [qU15e, rU6]
            have rU19 : rs9_ U19 p = u2_ (fy2_ (u2_ (rs9_ T p) 466 s (wr_ ((T 466 p s) + 1))) 466 2 0) 467 s (wr_ ((T 467 p s) + 1)) := by rw [rs_u hU19 rfl, rU15]
            have rU62 : rs9_ U62 p = u2_ (u2_ (fy2_ (u2_ (rs9_ T p) 466 s (wr_ ((T 466 p s) + 1))) 466 2 0) 467 s (wr_ ((T 467 p s) + 1))) 103 5 (1 - (T 103 p 5)) := by rw [rs_u hU62 rfl, rU19]
            exact ⟨rfl, fr_u (fr_u (fr_t (fr_u (fr_0 _ _) hU6 rfl) (fr_s fU15 rfl)) hU19 rfl) hU62 rfl, oi_u (oi_u (oi_t (oi_u (oi_r) hU6) qU15o) hU19) hU62, by exact fun _ => by omega, Eq.trans rU62 (pt9__8 (r := ru) (a := (rs9_ T p)) (k := k) (s := s) (show ¬ (k = 6) by omega) (show ¬ (T 467 p 0 = ru 11 ∧ T 467 p 1 = ru 11) by omega) (show 4 ≤ wr_ (T 466 p s + 1) ∧ 2 ≤ wr_ (wr_ (T 466 p s + 1) - T 466 p (1 - s)) by omega) (show ¬ ((ru 11 ≤ wr_ (T 467 p s + 1) ∧ 2 ≤ wr_ (wr_ (T 467 p s + 1) - T 467 p (1 - s))) ∨ ru 11 < wr_ (T 467 p s + 1)) by omega)).symm⟩
          · refine hK 126 _ [vI 0, vR 467 p] U19 ?_
            refine j_callS (y := yJ7_fill_53178) (Yc := zJ7_fill_53178) (rest := []) [vR 467 p, vI 0] (ct_J7_fill_467_e (T := U19) (by omega)) cl_X3_62 (qd_c (by decide +kernel)) (nn_ _) rfl (rf_of rfl) (Nat.le_of_ble_eq_true rfl) (Nat.le_of_ble_eq_true rfl) (Nat.le_of_ble_eq_true rfl) rfl ?_
            rintro U70 _ ⟨rfl, fU70, qU70o, qU70, qU70e⟩
            show J_ zX3_playTennis T (po_X3_playTennis_e T p ru k s) 0 0 129 _ [] U70
            refine j_blx (F := fX3) tb_X3 (nn_ _) bk_X3_playTennis_e_129 bs_X3_playTennis_e_129 hz (fun K hK => ?_)
            refine ix_i (by omega) ?_
            intro b71 b71b
            have e72 : U70 468 p s = T 468 p s := (fU70 468 p s rfl).trans ((up_k hU19 (by exact Nat.ne_of_beq_eq_false rfl) p s).trans ((fU15 468 p s rfl).trans (up_k hU6 (by exact Nat.ne_of_beq_eq_false rfl) p s)))
            rw [e72] at b71 b71b ⊢
            intro w73 w73b
            refine iy_i (by omega) (by omega) ?_
            refine x_nm (fun U74 hU74 => ?_)
            have e75 := up_f hU74
            refine ix_i (by omega) ?_
            intro b76 b76b
            have e77 : U74 468 p s = wr_ ((T 468 p s) + 1) := up_f hU74
            rw [e77] at b76 b76b ⊢
            refine And.intro (fun c78 => ?_) (fun c78 => ?_)
            · refine hK 155 _ [] U74 ?_
              refine j_blx (F := fX3) tb_X3 (nn_ _) bk_X3_playTennis_e_155 bs_X3_playTennis_e_155 hz (fun K hK => ?_)
              intro b79 b79b
              have e80 : U74 103 p 4 = T 103 p 4 := (up_k hU74 (by exact Nat.ne_of_beq_eq_false rfl) p 4).trans ((fU70 103 p 4 rfl).trans ((up_k hU19 (by exact Nat.ne_of_beq_eq_false rfl) p 4).trans ((fU15 103 p 4 rfl).trans (up_k hU6 (by exact Nat.ne_of_beq_eq_false rfl) p 4))))
              rw [e80] at b79 b79b ⊢
              intro w81 w81b
              refine bd_i (by omega) ?_
              refine x_nm (fun U82 hU82 => ?_)
              have e83 := up_f hU82
              intro b84 b84b
              have e85 : U82 103 p 5 = T 103 p 5 := (up_j hU82 (by decide) 103 p).trans ((up_k hU74 (by exact Nat.ne_of_beq_eq_false rfl) p 5).trans ((fU70 103 p 5 rfl).trans ((up_k hU19 (by exact Nat.ne_of_beq_eq_false rfl) p 5).trans ((fU15 103 p 5 rfl).trans (up_k hU6 (by exact Nat.ne_of_beq_eq_false rfl) p 5)))))
              rw [e85] at b84 b84b ⊢
              refine rg_i (by omega) ?_
              refine bd_i (by omega) ?_
              refine x_nm (fun U86 hU86 => ?_)
              have e87 := up_f hU86
              refine (show po_X3_playTennis_e T p ru k s U86 (none) from ?_)
              have e88 : U86 103 p 3 = T 103 p 3 := (up_j hU86 (by decide) 103 p).trans ((up_j hU82 (by decide) 103 p).trans ((up_k hU74 (by exact Nat.ne_of_beq_eq_false rfl) p 3).trans ((fU70 103 p 3 rfl).trans ((up_k hU19 (by exact Nat.ne_of_beq_eq_false rfl) p 3).trans ((fU15 103 p 3 rfl).trans (up_k hU6 (by exact Nat.ne_of_beq_eq_false rfl) p 3))))))
              have e89 : U86 470 p 0 = T 470 p 0 := (up_k hU86 (by exact Nat.ne_of_beq_eq_false rfl) p 0).trans ((up_k hU82 (by exact Nat.ne_of_beq_eq_false rfl) p 0).trans ((up_k hU74 (by exact Nat.ne_of_beq_eq_false rfl) p 0).trans ((fU70 470 p 0 rfl).trans ((up_k hU19 (by exact Nat.ne_of_beq_eq_false rfl) p 0).trans ((fU15 470 p 0 rfl).trans (up_k hU6 (by exact Nat.ne_of_beq_eq_false rfl) p 0))))))
              have e90 : U86 470 p 1 = T 470 p 1 := (up_k hU86 (by exact Nat.ne_of_beq_eq_false rfl) p 1).trans ((up_k hU82 (by exact Nat.ne_of_beq_eq_false rfl) p 1).trans ((up_k hU74 (by exact Nat.ne_of_beq_eq_false rfl) p 1).trans ((fU70 470 p 1 rfl).trans ((up_k hU19 (by exact Nat.ne_of_beq_eq_false rfl) p 1).trans ((fU15 470 p 1 rfl).trans (up_k hU6 (by exact Nat.ne_of_beq_eq_false rfl) p 1))))))
              have g91 : U86 470 p 0 = T 470 p 0 := (up_k hU86 (by exact Nat.ne_of_beq_eq_false rfl) p 0).trans ((up_k hU82 (by exact Nat.ne_of_beq_eq_false rfl) p 0).trans ((up_k hU74 (by exact Nat.ne_of_beq_eq_false rfl) p 0).trans ((fU70 470 p 0 rfl).trans ((up_k hU19 (by exact Nat.ne_of_beq_eq_false rfl) p 0).trans ((fU15 470 p 0 rfl).trans (up_k hU6 (by exact Nat.ne_of_beq_eq_false rfl) p 0))))))
              have g92 : U86 470 p 1 = T 470 p 1 := (up_k hU86 (by exact Nat.ne_of_beq_eq_false rfl) p 1).trans ((up_k hU82 (by exact Nat.ne_of_beq_eq_false rfl) p 1).trans ((up_k hU74 (by exact Nat.ne_of_beq_eq_false rfl) p 1).trans ((fU70 470 p 1 rfl).trans ((up_k hU19 (by exact Nat.ne_of_beq_eq_false rfl) p 1).trans ((fU15 470 p 1 rfl).trans (up_k hU6 (by exact Nat.ne_of_beq_eq_false rfl) p 1))))))
              have e93 : U86 103 p 3 = T 103 p 3 := (up_j hU86 (by decide) 103 p).trans ((up_j hU82 (by decide) 103 p).trans ((up_k hU74 (by exact Nat.ne_of_beq_eq_false rfl) p 3).trans ((fU70 103 p 3 rfl).trans ((up_k hU19 (by exact Nat.ne_of_beq_eq_false rfl) p 3).trans ((fU15 103 p 3 rfl).trans (up_k hU6 (by exact Nat.ne_of_beq_eq_false rfl) p 3))))))
              have rU6 : rs9_ U6 p = u2_ (rs9_ T p) 466 s (wr_ ((T 466 p s) + 1)) := rs_u hU6 rfl
              have rU15 : rs9_ U15 p = fy2_ (u2_ (rs9_ T p) 466 s (wr_ ((T 466 p s) + 1))) 466 2 0 := by rw [qU15e, rU6]
              have rU19 : rs9_ U19 p = u2_ (fy2_ (u2_ (rs9_ T p) 466 s (wr_ ((T 466 p s) + 1))) 466 2 0) 467 s (wr_ ((T 467 p s) + 1)) := by rw [rs_u hU19 rfl, rU15]
              have rU70 : rs9_ U70 p = fy2_ (u2_ (fy2_ (u2_ (rs9_ T p) 466 s (wr_ ((T 466 p s) + 1))) 466 2 0) 467 s (wr_ ((T 467 p s) + 1))) 467 2 0 := by rw [qU70e, rU19]
              have rU74 : rs9_ U74 p = u2_ (fy2_ (u2_ (fy2_ (u2_ (rs9_ T p) 466 s (wr_ ((T 466 p s) + 1))) 466 2 0) 467 s (wr_ ((T 467 p s) + 1))) 467 2 0) 468 s (wr_ ((T 468 p s) + 1)) := by rw [rs_u hU74 rfl, rU70]
              have rU82 : rs9_ U82 p = u2_ (u2_ (fy2_ (u2_ (fy2_ (u2_ (rs9_ T p) 466 s (wr_ ((T 466 p s) + 1))) 466 2 0) 467 s (wr_ ((T 467 p s) + 1))) 467 2 0) 468 s (wr_ ((T 468 p s) + 1))) 103 4 (wr_ ((T 103 p 4) + 1)) := by rw [rs_u hU82 rfl, rU74]
              have rU86 : rs9_ U86 p = u2_ (u2_ (u2_ (fy2_ (u2_ (fy2_ (u2_ (rs9_ T p) 466 s (wr_ ((T 466 p s) + 1))) 466 2 0) 467 s (wr_ ((T 467 p s) + 1))) 467 2 0) 468 s (wr_ ((T 468 p s) + 1))) 103 4 (wr_ ((T 103 p 4) + 1))) 103 5 (1 - (T 103 p 5)) := by rw [rs_u hU86 rfl, rU82]
              exact ⟨rfl, fr_u (fr_u (fr_u (fr_t (fr_u (fr_t (fr_u (fr_0 _ _) hU6 rfl) (fr_s fU15 rfl)) hU19 rfl) (fr_s fU70 rfl)) hU74 rfl) hU82 rfl) hU86 rfl, oi_u (oi_u (oi_u (oi_t (oi_u (oi_t (oi_u (oi_r) hU6) qU15o) hU19) qU70o) hU74) hU82) hU86, by exact fun _ => by omega, Eq.trans rU86 (pt9__7 (r := ru) (a := (rs9_ T p)) (k := k) (s := s) (show ¬ (k = 6) by omega) (show ¬ (T 467 p 0 = ru 11 ∧ T 467 p 1 = ru 11) by omega) (show 4 ≤ wr_ (T 466 p s + 1) ∧ 2 ≤ wr_ (wr_ (T 466 p s + 1) - T 466 p (1 - s)) by omega) (show (ru 11 ≤ wr_ (T 467 p s + 1) ∧ 2 ≤ wr_ (wr_ (T 467 p s + 1) - T 467 p (1 - s))) ∨ ru 11 < wr_ (T 467 p s + 1) by omega) (show ¬ (wr_ (T 468 p s + 1) = 2) by omega)).symm⟩
            · refine bd_i (by omega) ?_
              refine x_nm (fun U94 hU94 => ?_)
              have e95 := up_f hU94
              refine (show po_X3_playTennis_e T p ru k s U94 (none) from ?_)
              have e96 : U94 103 p 3 = 1 := up_f hU94
              have e97 : U94 470 p 0 = T 470 p 0 := (up_k hU94 (by exact Nat.ne_of_beq_eq_false rfl) p 0).trans ((up_k hU74 (by exact Nat.ne_of_beq_eq_false rfl) p 0).trans ((fU70 470 p 0 rfl).trans ((up_k hU19 (by exact Nat.ne_of_beq_eq_false rfl) p 0).trans ((fU15 470 p 0 rfl).trans (up_k hU6 (by exact Nat.ne_of_beq_eq_false rfl) p 0)))))
              have e98 : U94 470 p 1 = T 470 p 1 := (up_k hU94 (by exact Nat.ne_of_beq_eq_false rfl) p 1).trans ((up_k hU74 (by exact Nat.ne_of_beq_eq_false rfl) p 1).trans ((fU70 470 p 1 rfl).trans ((up_k hU19 (by exact Nat.ne_of_beq_eq_false rfl) p 1).trans ((fU15 470 p 1 rfl).trans (up_k hU6 (by exact Nat.ne_of_beq_eq_false rfl) p 1)))))
              have g99 : U94 470 p 0 = T 470 p 0 := (up_k hU94 (by exact Nat.ne_of_beq_eq_false rfl) p 0).trans ((up_k hU74 (by exact Nat.ne_of_beq_eq_false rfl) p 0).trans ((fU70 470 p 0 rfl).trans ((up_k hU19 (by exact Nat.ne_of_beq_eq_false rfl) p 0).trans ((fU15 470 p 0 rfl).trans (up_k hU6 (by exact Nat.ne_of_beq_eq_false rfl) p 0)))))
              have g100 : U94 470 p 1 = T 470 p 1 := (up_k hU94 (by exact Nat.ne_of_beq_eq_false rfl) p 1).trans ((up_k hU74 (by exact Nat.ne_of_beq_eq_false rfl) p 1).trans ((fU70 470 p 1 rfl).trans ((up_k hU19 (by exact Nat.ne_of_beq_eq_false rfl) p 1).trans ((fU15 470 p 1 rfl).trans (up_k hU6 (by exact Nat.ne_of_beq_eq_false rfl) p 1)))))
              have e101 : U94 103 p 3 = 1 := up_f hU94
              have rU6 : rs9_ U6 p = u2_ (rs9_ T p) 466 s (wr_ ((T 466 p s) + 1)) := rs_u hU6 rfl
              have rU15 : rs9_ U15 p = fy2_ (u2_ (rs9_ T p) 466 s (wr_ ((T 466 p s) + 1))) 466 2 0 := by rw [qU15e, rU6]
              have rU19 : rs9_ U19 p = u2_ (fy2_ (u2_ (rs9_ T p) 466 s (wr_ ((T 466 p s) + 1))) 466 2 0) 467 s (wr_ ((T 467 p s) + 1)) := by rw [rs_u hU19 rfl, rU15]
              have rU70 : rs9_ U70 p = fy2_ (u2_ (fy2_ (u2_ (rs9_ T p) 466 s (wr_ ((T 466 p s) + 1))) 466 2 0) 467 s (wr_ ((T 467 p s) + 1))) 467 2 0 := by rw [qU70e, rU19]
              have rU74 : rs9_ U74 p = u2_ (fy2_ (u2_ (fy2_ (u2_ (rs9_ T p) 466 s (wr_ ((T 466 p s) + 1))) 466 2 0) 467 s (wr_ ((T 467 p s) + 1))) 467 2 0) 468 s (wr_ ((T 468 p s) + 1)) := by rw [rs_u hU74 rfl, rU70]
              have rU94 : rs9_ U94 p = u2_ (u2_ (fy2_ (u2_ (fy2_ (u2_ (rs9_ T p) 466 s (wr_ ((T 466 p s) + 1))) 466 2 0) 467 s (wr_ ((T 467 p s) + 1))) 467 2 0) 468 s (wr_ ((T 468 p s) + 1))) 103 3 1 := by rw [rs_u hU94 rfl, rU74]
              exact ⟨rfl, fr_u (fr_u (fr_t (fr_u (fr_t (fr_u (fr_0 _ _) hU6 rfl) (fr_s fU15 rfl)) hU19 rfl) (fr_s fU70 rfl)) hU74 rfl) hU94 rfl, oi_u (oi_u (oi_t (oi_u (oi_t (oi_u (oi_r) hU6) qU15o) hU19) qU70o) hU74) hU94, by exact fun _ => by omega, Eq.trans rU94 (pt9__6 (r := ru) (a := (rs9_ T p)) (k := k) (s := s) (show ¬ (k = 6) by omega) (show ¬ (T 467 p 0 = ru 11 ∧ T 467 p 1 = ru 11) by omega) (show 4 ≤ wr_ (T 466 p s + 1) ∧ 2 ≤ wr_ (wr_ (T 466 p s + 1) - T 466 p (1 - s)) by omega) (show (ru 11 ≤ wr_ (T 467 p s + 1) ∧ 2 ≤ wr_ (wr_ (T 467 p s + 1) - T 467 p (1 - s))) ∨ ru 11 < wr_ (T 467 p s + 1) by omega) (show wr_ (T 468 p s + 1) = 2 by omega)).symm⟩
      · replace hx13 := hx13.resolve_left (fun z => absurd (c14.symm.trans z.1) (by decide))
        clear c14
        refine (show po_X3_playTennis_e T p ru k s U6 (none) from ?_)
        have e102 : U6 103 p 3 = T 103 p 3 := up_k hU6 (by exact Nat.ne_of_beq_eq_false rfl) p 3
        have e103 : U6 470 p 0 = T 470 p 0 := up_k hU6 (by exact Nat.ne_of_beq_eq_false rfl) p 0
        have e104 : U6 470 p 1 = T 470 p 1 := up_k hU6 (by exact Nat.ne_of_beq_eq_false rfl) p 1
        have g105 : U6 470 p 0 = T 470 p 0 := up_k hU6 (by exact Nat.ne_of_beq_eq_false rfl) p 0
        have g106 : U6 470 p 1 = T 470 p 1 := up_k hU6 (by exact Nat.ne_of_beq_eq_false rfl) p 1
        have e107 : U6 103 p 3 = T 103 p 3 := up_k hU6 (by exact Nat.ne_of_beq_eq_false rfl) p 3
        have rU6 : rs9_ U6 p = u2_ (rs9_ T p) 466 s (wr_ ((T 466 p s) + 1)) := rs_u hU6 rfl
        exact ⟨rfl, fr_u (fr_0 _ _) hU6 rfl, oi_u (oi_r) hU6, by exact fun _ => by omega, Eq.trans rU6 (pt9__9 (r := ru) (a := (rs9_ T p)) (k := k) (s := s) (show ¬ (k = 6) by omega) (show ¬ (T 467 p 0 = ru 11 ∧ T 467 p 1 = ru 11) by omega) (show ¬ (4 ≤ wr_ (T 466 p s + 1) ∧ 2 ≤ wr_ (wr_ (T 466 p s + 1) - T 466 p (1 - s))) by omega)).symm⟩
    · refine ix_i (by omega) ?_
      intro b108 b108b
      have e109 : U6 467 p 1 = T 467 p 1 := up_k hU6 (by exact Nat.ne_of_beq_eq_false rfl) p 1
      rw [e109] at b108 b108b ⊢
      refine And.intro (fun c110 => ?_) (fun c110 => ?_)
      · refine hK 64 [some (vR 103 p), some (vI k), some (vI s), some (vI (T 401 (T 103 p 0) 11)), none] [] U6 ?_
        refine j_blx (F := fX3) tb_X3 (nn_ _) bk_X3_playTennis_e_64 bs_X3_playTennis_e_64 hz (fun K hK => ?_)
        refine hK 74 [some (vR 103 p), some (vI k), some (vI s), some (vI (T 401 (T 103 p 0) 11)), some (vI 4)] [vI 4, vI s, vR 466 p] U6 ?_
        have e111 : U6 466 p s = wr_ ((T 466 p s) + 1) := up_f hU6
        have e112 : U6 466 p (1 - s) = T 466 p (1 - s) := up_g hU6 (by omega)
        refine j_callS (y := yX3_isWon) (Yc := zX3_isWon) (rest := []) [vR 466 p, vI s, vI 4] (ct_X3_isWon_466_e (T := U6) (by omega)) cl_X3_125 (qd_c (by decide +kernel)) (nn_ _) rfl (rf_of rfl) (Nat.le_of_ble_eq_true rfl) (Nat.le_of_ble_eq_true rfl) (Nat.le_of_ble_eq_true rfl) rfl ?_
        rintro _ _ ⟨rfl, x113, rfl, hx113⟩
        rw [e111, e112] at hx113
        show J_ zX3_playTennis T (po_X3_playTennis_e T p ru k s) 0 0 77 _ [vI x113] U6
        refine j_blx (F := fX3) tb_X3 (nn_ _) bk_X3_playTennis_e_77 bs_X3_playTennis_e_77 hz (fun K hK => ?_)
        refine And.intro (fun c114 => ?_) (fun c114 => ?_)
        · replace hx113 := hx113.resolve_right (fun z => c114 z.1)
          clear c114
          refine hK 81 _ [] U6 ?_
          refine j_blx (F := fX3) tb_X3 (nn_ _) bk_X3_playTennis_e_81 bs_X3_playTennis_e_81 hz (fun K hK => ?_)
          refine hK 86 _ [vI 0, vR 466 p] U6 ?_
          refine j_callS (y := yJ7_fill_53178) (Yc := zJ7_fill_53178) (rest := []) [vR 466 p, vI 0] (ct_J7_fill_466_e (T := U6) (by omega)) cl_X3_62 (qd_c (by decide +kernel)) (nn_ _) rfl (rf_of rfl) (Nat.le_of_ble_eq_true rfl) (Nat.le_of_ble_eq_true rfl) (Nat.le_of_ble_eq_true rfl) rfl ?_
          rintro U115 _ ⟨rfl, fU115, qU115o, qU115, qU115e⟩
          show J_ zX3_playTennis T (po_X3_playTennis_e T p ru k s) 0 0 89 _ [] U115
          refine j_blx (F := fX3) tb_X3 (nn_ _) bk_X3_playTennis_e_89 bs_X3_playTennis_e_89 hz (fun K hK => ?_)
          refine ix_i (by omega) ?_
          intro b116 b116b
          have e117 : U115 467 p s = T 467 p s := (fU115 467 p s rfl).trans (up_k hU6 (by exact Nat.ne_of_beq_eq_false rfl) p s)
          rw [e117] at b116 b116b ⊢
          intro w118 w118b
          refine iy_i (by omega) (by omega) ?_
          refine x_nm (fun U119 hU119 => ?_)
          have e120 := up_f hU119
          refine hK 105 _ [vI (T 401 (T 103 p 0) 11), vI s, vR 467 p] U119 ?_
          have e121 : U119 467 p s = wr_ ((T 467 p s) + 1) := up_f hU119
          have e122 : U119 467 p (1 - s) = T 467 p (1 - s) := (up_g hU119 (by omega)).trans ((fU115 467 p (1 - s) rfl).trans (up_k hU6 (by exact Nat.ne_of_beq_eq_false rfl) p (1 - s)))
          refine j_callS (y := yX3_isWon) (Yc := zX3_isWon) (rest := []) [vR 467 p, vI s, vI (T 401 (T 103 p 0) 11)] (ct_X3_isWon_467_e (T := U119) (by omega)) cl_X3_125 (qd_c (by decide +kernel)) (nn_ _) rfl (rf_of rfl) (Nat.le_of_ble_eq_true rfl) (Nat.le_of_ble_eq_true rfl) (Nat.le_of_ble_eq_true rfl) rfl ?_
          rintro _ _ ⟨rfl, x123, rfl, hx123⟩
          rw [e121, e122] at hx123
          show J_ zX3_playTennis T (po_X3_playTennis_e T p ru k s) 0 0 108 _ [vI x123] U119
          refine j_blx (F := fX3) tb_X3 (nn_ _) bk_X3_playTennis_e_108 bs_X3_playTennis_e_108 hz (fun K hK => ?_)
          refine And.intro (fun c124 => ?_) (fun c124 => ?_)
          · replace hx123 := hx123.resolve_right (fun z => c124 z.1)
            clear c124
            refine hK 121 _ [] U119 ?_
            refine j_blx (F := fX3) tb_X3 (nn_ _) bk_X3_playTennis_e_121 bs_X3_playTennis_e_121 hz (fun K hK => ?_)
            refine hK 126 _ [vI 0, vR 467 p] U119 ?_
            refine j_callS (y := yJ7_fill_53178) (Yc := zJ7_fill_53178) (rest := []) [vR 467 p, vI 0] (ct_J7_fill_467_e (T := U119) (by omega)) cl_X3_62 (qd_c (by decide +kernel)) (nn_ _) rfl (rf_of rfl) (Nat.le_of_ble_eq_true rfl) (Nat.le_of_ble_eq_true rfl) (Nat.le_of_ble_eq_true rfl) rfl ?_
            rintro U125 _ ⟨rfl, fU125, qU125o, qU125, qU125e⟩
            show J_ zX3_playTennis T (po_X3_playTennis_e T p ru k s) 0 0 129 _ [] U125
            refine j_blx (F := fX3) tb_X3 (nn_ _) bk_X3_playTennis_e_129 bs_X3_playTennis_e_129 hz (fun K hK => ?_)
            refine ix_i (by omega) ?_
            intro b126 b126b
            have e127 : U125 468 p s = T 468 p s := (fU125 468 p s rfl).trans ((up_k hU119 (by exact Nat.ne_of_beq_eq_false rfl) p s).trans ((fU115 468 p s rfl).trans (up_k hU6 (by exact Nat.ne_of_beq_eq_false rfl) p s)))
            rw [e127] at b126 b126b ⊢
            intro w128 w128b
            refine iy_i (by omega) (by omega) ?_
            refine x_nm (fun U129 hU129 => ?_)
            have e130 := up_f hU129
            refine ix_i (by omega) ?_
            intro b131 b131b
            have e132 : U129 468 p s = wr_ ((T 468 p s) + 1) := up_f hU129
            rw [e132] at b131 b131b ⊢
            refine And.intro (fun c133 => ?_) (fun c133 => ?_)
            · refine hK 155 _ [] U129 ?_
              refine j_blx (F := fX3) tb_X3 (nn_ _) bk_X3_playTennis_e_155 bs_X3_playTennis_e_155 hz (fun K hK => ?_)
              intro b134 b134b
              have e135 : U129 103 p 4 = T 103 p 4 := (up_k hU129 (by exact Nat.ne_of_beq_eq_false rfl) p 4).trans ((fU125 103 p 4 rfl).trans ((up_k hU119 (by exact Nat.ne_of_beq_eq_false rfl) p 4).trans ((fU115 103 p 4 rfl).trans (up_k hU6 (by exact Nat.ne_of_beq_eq_false rfl) p 4))))
              rw [e135] at b134 b134b ⊢
              intro w136 w136b
              refine bd_i (by omega) ?_
              refine x_nm (fun U137 hU137 => ?_)
              have e138 := up_f hU137
              intro b139 b139b
              have e140 : U137 103 p 5 = T 103 p 5 := (up_j hU137 (by decide) 103 p).trans ((up_k hU129 (by exact Nat.ne_of_beq_eq_false rfl) p 5).trans ((fU125 103 p 5 rfl).trans ((up_k hU119 (by exact Nat.ne_of_beq_eq_false rfl) p 5).trans ((fU115 103 p 5 rfl).trans (up_k hU6 (by exact Nat.ne_of_beq_eq_false rfl) p 5)))))
              rw [e140] at b139 b139b ⊢
              refine rg_i (by omega) ?_
              refine bd_i (by omega) ?_
              refine x_nm (fun U141 hU141 => ?_)
              have e142 := up_f hU141
              refine (show po_X3_playTennis_e T p ru k s U141 (none) from ?_)
              have e143 : U141 103 p 3 = T 103 p 3 := (up_j hU141 (by decide) 103 p).trans ((up_j hU137 (by decide) 103 p).trans ((up_k hU129 (by exact Nat.ne_of_beq_eq_false rfl) p 3).trans ((fU125 103 p 3 rfl).trans ((up_k hU119 (by exact Nat.ne_of_beq_eq_false rfl) p 3).trans ((fU115 103 p 3 rfl).trans (up_k hU6 (by exact Nat.ne_of_beq_eq_false rfl) p 3))))))
              have e144 : U141 470 p 0 = T 470 p 0 := (up_k hU141 (by exact Nat.ne_of_beq_eq_false rfl) p 0).trans ((up_k hU137 (by exact Nat.ne_of_beq_eq_false rfl) p 0).trans ((up_k hU129 (by exact Nat.ne_of_beq_eq_false rfl) p 0).trans ((fU125 470 p 0 rfl).trans ((up_k hU119 (by exact Nat.ne_of_beq_eq_false rfl) p 0).trans ((fU115 470 p 0 rfl).trans (up_k hU6 (by exact Nat.ne_of_beq_eq_false rfl) p 0))))))
              have e145 : U141 470 p 1 = T 470 p 1 := (up_k hU141 (by exact Nat.ne_of_beq_eq_false rfl) p 1).trans ((up_k hU137 (by exact Nat.ne_of_beq_eq_false rfl) p 1).trans ((up_k hU129 (by exact Nat.ne_of_beq_eq_false rfl) p 1).trans ((fU125 470 p 1 rfl).trans ((up_k hU119 (by exact Nat.ne_of_beq_eq_false rfl) p 1).trans ((fU115 470 p 1 rfl).trans (up_k hU6 (by exact Nat.ne_of_beq_eq_false rfl) p 1))))))
              have g146 : U141 470 p 0 = T 470 p 0 := (up_k hU141 (by exact Nat.ne_of_beq_eq_false rfl) p 0).trans ((up_k hU137 (by exact Nat.ne_of_beq_eq_false rfl) p 0).trans ((up_k hU129 (by exact Nat.ne_of_beq_eq_false rfl) p 0).trans ((fU125 470 p 0 rfl).trans ((up_k hU119 (by exact Nat.ne_of_beq_eq_false rfl) p 0).trans ((fU115 470 p 0 rfl).trans (up_k hU6 (by exact Nat.ne_of_beq_eq_false rfl) p 0))))))
              have g147 : U141 470 p 1 = T 470 p 1 := (up_k hU141 (by exact Nat.ne_of_beq_eq_false rfl) p 1).trans ((up_k hU137 (by exact Nat.ne_of_beq_eq_false rfl) p 1).trans ((up_k hU129 (by exact Nat.ne_of_beq_eq_false rfl) p 1).trans ((fU125 470 p 1 rfl).trans ((up_k hU119 (by exact Nat.ne_of_beq_eq_false rfl) p 1).trans ((fU115 470 p 1 rfl).trans (up_k hU6 (by exact Nat.ne_of_beq_eq_false rfl) p 1))))))
              have e148 : U141 103 p 3 = T 103 p 3 := (up_j hU141 (by decide) 103 p).trans ((up_j hU137 (by decide) 103 p).trans ((up_k hU129 (by exact Nat.ne_of_beq_eq_false rfl) p 3).trans ((fU125 103 p 3 rfl).trans ((up_k hU119 (by exact Nat.ne_of_beq_eq_false rfl) p 3).trans ((fU115 103 p 3 rfl).trans (up_k hU6 (by exact Nat.ne_of_beq_eq_false rfl) p 3))))))
              have rU6 : rs9_ U6 p = u2_ (rs9_ T p) 466 s (wr_ ((T 466 p s) + 1)) := rs_u hU6 rfl
              have rU115 : rs9_ U115 p = fy2_ (u2_ (rs9_ T p) 466 s (wr_ ((T 466 p s) + 1))) 466 2 0 := by rw [qU115e, rU6]
              have rU119 : rs9_ U119 p = u2_ (fy2_ (u2_ (rs9_ T p) 466 s (wr_ ((T 466 p s) + 1))) 466 2 0) 467 s (wr_ ((T 467 p s) + 1)) := by rw [rs_u hU119 rfl, rU115]
              have rU125 : rs9_ U125 p = fy2_ (u2_ (fy2_ (u2_ (rs9_ T p) 466 s (wr_ ((T 466 p s) + 1))) 466 2 0) 467 s (wr_ ((T 467 p s) + 1))) 467 2 0 := by rw [qU125e, rU119]
              have rU129 : rs9_ U129 p = u2_ (fy2_ (u2_ (fy2_ (u2_ (rs9_ T p) 466 s (wr_ ((T 466 p s) + 1))) 466 2 0) 467 s (wr_ ((T 467 p s) + 1))) 467 2 0) 468 s (wr_ ((T 468 p s) + 1)) := by rw [rs_u hU129 rfl, rU125]
              have rU137 : rs9_ U137 p = u2_ (u2_ (fy2_ (u2_ (fy2_ (u2_ (rs9_ T p) 466 s (wr_ ((T 466 p s) + 1))) 466 2 0) 467 s (wr_ ((T 467 p s) + 1))) 467 2 0) 468 s (wr_ ((T 468 p s) + 1))) 103 4 (wr_ ((T 103 p 4) + 1)) := by rw [rs_u hU137 rfl, rU129]
              have rU141 : rs9_ U141 p = u2_ (u2_ (u2_ (fy2_ (u2_ (fy2_ (u2_ (rs9_ T p) 466 s (wr_ ((T 466 p s) + 1))) 466 2 0) 467 s (wr_ ((T 467 p s) + 1))) 467 2 0) 468 s (wr_ ((T 468 p s) + 1))) 103 4 (wr_ ((T 103 p 4) + 1))) 103 5 (1 - (T 103 p 5)) := by rw [rs_u hU141 rfl, rU137]
              exact ⟨rfl, fr_u (fr_u (fr_u (fr_t (fr_u (fr_t (fr_u (fr_0 _ _) hU6 rfl) (fr_s fU115 rfl)) hU119 rfl) (fr_s fU125 rfl)) hU129 rfl) hU137 rfl) hU141 rfl, oi_u (oi_u (oi_u (oi_t (oi_u (oi_t (oi_u (oi_r) hU6) qU115o) hU119) qU125o) hU129) hU137) hU141, by exact fun _ => by omega, Eq.trans rU141 (pt9__7 (r := ru) (a := (rs9_ T p)) (k := k) (s := s) (show ¬ (k = 6) by omega) (show ¬ (T 467 p 0 = ru 11 ∧ T 467 p 1 = ru 11) by omega) (show 4 ≤ wr_ (T 466 p s + 1) ∧ 2 ≤ wr_ (wr_ (T 466 p s + 1) - T 466 p (1 - s)) by omega) (show (ru 11 ≤ wr_ (T 467 p s + 1) ∧ 2 ≤ wr_ (wr_ (T 467 p s + 1) - T 467 p (1 - s))) ∨ ru 11 < wr_ (T 467 p s + 1) by omega) (show ¬ (wr_ (T 468 p s + 1) = 2) by omega)).symm⟩
            · refine bd_i (by omega) ?_
              refine x_nm (fun U149 hU149 => ?_)
              have e150 := up_f hU149
              refine (show po_X3_playTennis_e T p ru k s U149 (none) from ?_)
              have e151 : U149 103 p 3 = 1 := up_f hU149
              have e152 : U149 470 p 0 = T 470 p 0 := (up_k hU149 (by exact Nat.ne_of_beq_eq_false rfl) p 0).trans ((up_k hU129 (by exact Nat.ne_of_beq_eq_false rfl) p 0).trans ((fU125 470 p 0 rfl).trans ((up_k hU119 (by exact Nat.ne_of_beq_eq_false rfl) p 0).trans ((fU115 470 p 0 rfl).trans (up_k hU6 (by exact Nat.ne_of_beq_eq_false rfl) p 0)))))
              have e153 : U149 470 p 1 = T 470 p 1 := (up_k hU149 (by exact Nat.ne_of_beq_eq_false rfl) p 1).trans ((up_k hU129 (by exact Nat.ne_of_beq_eq_false rfl) p 1).trans ((fU125 470 p 1 rfl).trans ((up_k hU119 (by exact Nat.ne_of_beq_eq_false rfl) p 1).trans ((fU115 470 p 1 rfl).trans (up_k hU6 (by exact Nat.ne_of_beq_eq_false rfl) p 1)))))
              have g154 : U149 470 p 0 = T 470 p 0 := (up_k hU149 (by exact Nat.ne_of_beq_eq_false rfl) p 0).trans ((up_k hU129 (by exact Nat.ne_of_beq_eq_false rfl) p 0).trans ((fU125 470 p 0 rfl).trans ((up_k hU119 (by exact Nat.ne_of_beq_eq_false rfl) p 0).trans ((fU115 470 p 0 rfl).trans (up_k hU6 (by exact Nat.ne_of_beq_eq_false rfl) p 0)))))
              have g155 : U149 470 p 1 = T 470 p 1 := (up_k hU149 (by exact Nat.ne_of_beq_eq_false rfl) p 1).trans ((up_k hU129 (by exact Nat.ne_of_beq_eq_false rfl) p 1).trans ((fU125 470 p 1 rfl).trans ((up_k hU119 (by exact Nat.ne_of_beq_eq_false rfl) p 1).trans ((fU115 470 p 1 rfl).trans (up_k hU6 (by exact Nat.ne_of_beq_eq_false rfl) p 1)))))
              have e156 : U149 103 p 3 = 1 := up_f hU149
              have rU6 : rs9_ U6 p = u2_ (rs9_ T p) 466 s (wr_ ((T 466 p s) + 1)) := rs_u hU6 rfl
              have rU115 : rs9_ U115 p = fy2_ (u2_ (rs9_ T p) 466 s (wr_ ((T 466 p s) + 1))) 466 2 0 := by rw [qU115e, rU6]
              have rU119 : rs9_ U119 p = u2_ (fy2_ (u2_ (rs9_ T p) 466 s (wr_ ((T 466 p s) + 1))) 466 2 0) 467 s (wr_ ((T 467 p s) + 1)) := by rw [rs_u hU119 rfl, rU115]
              have rU125 : rs9_ U125 p = fy2_ (u2_ (fy2_ (u2_ (rs9_ T p) 466 s (wr_ ((T 466 p s) + 1))) 466 2 0) 467 s (wr_ ((T 467 p s) + 1))) 467 2 0 := by rw [qU125e, rU119]
              have rU129 : rs9_ U129 p = u2_ (fy2_ (u2_ (fy2_ (u2_ (rs9_ T p) 466 s (wr_ ((T 466 p s) + 1))) 466 2 0) 467 s (wr_ ((T 467 p s) + 1))) 467 2 0) 468 s (wr_ ((T 468 p s) + 1)) := by rw [rs_u hU129 rfl, rU125]
              have rU149 : rs9_ U149 p = u2_ (u2_ (fy2_ (u2_ (fy2_ (u2_ (rs9_ T p) 466 s (wr_ ((T 466 p s) + 1))) 466 2 0) 467 s (wr_ ((T 467 p s) + 1))) 467 2 0) 468 s (wr_ ((T 468 p s) + 1))) 103 3 1 := by rw [rs_u hU149 rfl, rU129]
              exact ⟨rfl, fr_u (fr_u (fr_t (fr_u (fr_t (fr_u (fr_0 _ _) hU6 rfl) (fr_s fU115 rfl)) hU119 rfl) (fr_s fU125 rfl)) hU129 rfl) hU149 rfl, oi_u (oi_u (oi_t (oi_u (oi_t (oi_u (oi_r) hU6) qU115o) hU119) qU125o) hU129) hU149, by exact fun _ => by omega, Eq.trans rU149 (pt9__6 (r := ru) (a := (rs9_ T p)) (k := k) (s := s) (show ¬ (k = 6) by omega) (show ¬ (T 467 p 0 = ru 11 ∧ T 467 p 1 = ru 11) by omega) (show 4 ≤ wr_ (T 466 p s + 1) ∧ 2 ≤ wr_ (wr_ (T 466 p s + 1) - T 466 p (1 - s)) by omega) (show (ru 11 ≤ wr_ (T 467 p s + 1) ∧ 2 ≤ wr_ (wr_ (T 467 p s + 1) - T 467 p (1 - s))) ∨ ru 11 < wr_ (T 467 p s + 1) by omega) (show wr_ (T 468 p s + 1) = 2 by omega)).symm⟩
          · replace hx123 := hx123.resolve_left (fun z => absurd (c124.symm.trans z.1) (by decide))
            clear c124
            refine ix_i (by omega) ?_
            intro b157 b157b
            have e158 : U119 467 p s = wr_ ((T 467 p s) + 1) := up_f hU119
            rw [e158] at b157 b157b ⊢
            refine And.intro (fun c159 => ?_) (fun c159 => ?_)
            · refine hK 165 _ [] U119 ?_
              refine j_blx (F := fX3) tb_X3 (nn_ _) bk_X3_playTennis_e_165 bs_X3_playTennis_e_165 hz (fun K hK => ?_)
              intro b160 b160b
              have e161 : U119 103 p 5 = T 103 p 5 := (up_k hU119 (by exact Nat.ne_of_beq_eq_false rfl) p 5).trans ((fU115 103 p 5 rfl).trans (up_k hU6 (by exact Nat.ne_of_beq_eq_false rfl) p 5))
              rw [e161] at b160 b160b ⊢
              refine rg_i (by omega) ?_
              refine bd_i (by omega) ?_
              refine x_nm (fun U162 hU162 => ?_)
              have e163 := up_f hU162
              refine (show po_X3_playTennis_e T p ru k s U162 (none) from ?_)
              have e164 : U162 103 p 3 = T 103 p 3 := (up_j hU162 (by decide) 103 p).trans ((up_k hU119 (by exact Nat.ne_of_beq_eq_false rfl) p 3).trans ((fU115 103 p 3 rfl).trans (up_k hU6 (by exact Nat.ne_of_beq_eq_false rfl) p 3)))
              have e165 : U162 470 p 0 = T 470 p 0 := (up_k hU162 (by exact Nat.ne_of_beq_eq_false rfl) p 0).trans ((up_k hU119 (by exact Nat.ne_of_beq_eq_false rfl) p 0).trans ((fU115 470 p 0 rfl).trans (up_k hU6 (by exact Nat.ne_of_beq_eq_false rfl) p 0)))
              have e166 : U162 470 p 1 = T 470 p 1 := (up_k hU162 (by exact Nat.ne_of_beq_eq_false rfl) p 1).trans ((up_k hU119 (by exact Nat.ne_of_beq_eq_false rfl) p 1).trans ((fU115 470 p 1 rfl).trans (up_k hU6 (by exact Nat.ne_of_beq_eq_false rfl) p 1)))
              have g167 : U162 470 p 0 = T 470 p 0 := (up_k hU162 (by exact Nat.ne_of_beq_eq_false rfl) p 0).trans ((up_k hU119 (by exact Nat.ne_of_beq_eq_false rfl) p 0).trans ((fU115 470 p 0 rfl).trans (up_k hU6 (by exact Nat.ne_of_beq_eq_false rfl) p 0)))
              have g168 : U162 470 p 1 = T 470 p 1 := (up_k hU162 (by exact Nat.ne_of_beq_eq_false rfl) p 1).trans ((up_k hU119 (by exact Nat.ne_of_beq_eq_false rfl) p 1).trans ((fU115 470 p 1 rfl).trans (up_k hU6 (by exact Nat.ne_of_beq_eq_false rfl) p 1)))
              have e169 : U162 103 p 3 = T 103 p 3 := (up_j hU162 (by decide) 103 p).trans ((up_k hU119 (by exact Nat.ne_of_beq_eq_false rfl) p 3).trans ((fU115 103 p 3 rfl).trans (up_k hU6 (by exact Nat.ne_of_beq_eq_false rfl) p 3)))
              have rU6 : rs9_ U6 p = u2_ (rs9_ T p) 466 s (wr_ ((T 466 p s) + 1)) := rs_u hU6 rfl
              have rU115 : rs9_ U115 p = fy2_ (u2_ (rs9_ T p) 466 s (wr_ ((T 466 p s) + 1))) 466 2 0 := by rw [qU115e, rU6]
              have rU119 : rs9_ U119 p = u2_ (fy2_ (u2_ (rs9_ T p) 466 s (wr_ ((T 466 p s) + 1))) 466 2 0) 467 s (wr_ ((T 467 p s) + 1)) := by rw [rs_u hU119 rfl, rU115]
              have rU162 : rs9_ U162 p = u2_ (u2_ (fy2_ (u2_ (rs9_ T p) 466 s (wr_ ((T 466 p s) + 1))) 466 2 0) 467 s (wr_ ((T 467 p s) + 1))) 103 5 (1 - (T 103 p 5)) := by rw [rs_u hU162 rfl, rU119]
              exact ⟨rfl, fr_u (fr_u (fr_t (fr_u (fr_0 _ _) hU6 rfl) (fr_s fU115 rfl)) hU119 rfl) hU162 rfl, oi_u (oi_u (oi_t (oi_u (oi_r) hU6) qU115o) hU119) hU162, by exact fun _ => by omega, Eq.trans rU162 (pt9__8 (r := ru) (a := (rs9_ T p)) (k := k) (s := s) (show ¬ (k = 6) by omega) (show ¬ (T 467 p 0 = ru 11 ∧ T 467 p 1 = ru 11) by omega) (show 4 ≤ wr_ (T 466 p s + 1) ∧ 2 ≤ wr_ (wr_ (T 466 p s + 1) - T 466 p (1 - s)) by omega) (show ¬ ((ru 11 ≤ wr_ (T 467 p s + 1) ∧ 2 ≤ wr_ (wr_ (T 467 p s + 1) - T 467 p (1 - s))) ∨ ru 11 < wr_ (T 467 p s + 1)) by omega)).symm⟩
            · refine hK 126 _ [vI 0, vR 467 p] U119 ?_
              refine j_callS (y := yJ7_fill_53178) (Yc := zJ7_fill_53178) (rest := []) [vR 467 p, vI 0] (ct_J7_fill_467_e (T := U119) (by omega)) cl_X3_62 (qd_c (by decide +kernel)) (nn_ _) rfl (rf_of rfl) (Nat.le_of_ble_eq_true rfl) (Nat.le_of_ble_eq_true rfl) (Nat.le_of_ble_eq_true rfl) rfl ?_
              rintro U170 _ ⟨rfl, fU170, qU170o, qU170, qU170e⟩
              show J_ zX3_playTennis T (po_X3_playTennis_e T p ru k s) 0 0 129 _ [] U170
              refine j_blx (F := fX3) tb_X3 (nn_ _) bk_X3_playTennis_e_129 bs_X3_playTennis_e_129 hz (fun K hK => ?_)
              refine ix_i (by omega) ?_
              intro b171 b171b
              have e172 : U170 468 p s = T 468 p s := (fU170 468 p s rfl).trans ((up_k hU119 (by exact Nat.ne_of_beq_eq_false rfl) p s).trans ((fU115 468 p s rfl).trans (up_k hU6 (by exact Nat.ne_of_beq_eq_false rfl) p s)))
              rw [e172] at b171 b171b ⊢
              intro w173 w173b
              refine iy_i (by omega) (by omega) ?_
              refine x_nm (fun U174 hU174 => ?_)
              have e175 := up_f hU174
              refine ix_i (by omega) ?_
              intro b176 b176b
              have e177 : U174 468 p s = wr_ ((T 468 p s) + 1) := up_f hU174
              rw [e177] at b176 b176b ⊢
              refine And.intro (fun c178 => ?_) (fun c178 => ?_)
              · refine hK 155 _ [] U174 ?_
                refine j_blx (F := fX3) tb_X3 (nn_ _) bk_X3_playTennis_e_155 bs_X3_playTennis_e_155 hz (fun K hK => ?_)
                intro b179 b179b
                have e180 : U174 103 p 4 = T 103 p 4 := (up_k hU174 (by exact Nat.ne_of_beq_eq_false rfl) p 4).trans ((fU170 103 p 4 rfl).trans ((up_k hU119 (by exact Nat.ne_of_beq_eq_false rfl) p 4).trans ((fU115 103 p 4 rfl).trans (up_k hU6 (by exact Nat.ne_of_beq_eq_false rfl) p 4))))
                rw [e180] at b179 b179b ⊢
                intro w181 w181b
                refine bd_i (by omega) ?_
                refine x_nm (fun U182 hU182 => ?_)
                have e183 := up_f hU182
                intro b184 b184b
                have e185 : U182 103 p 5 = T 103 p 5 := (up_j hU182 (by decide) 103 p).trans ((up_k hU174 (by exact Nat.ne_of_beq_eq_false rfl) p 5).trans ((fU170 103 p 5 rfl).trans ((up_k hU119 (by exact Nat.ne_of_beq_eq_false rfl) p 5).trans ((fU115 103 p 5 rfl).trans (up_k hU6 (by exact Nat.ne_of_beq_eq_false rfl) p 5)))))
                rw [e185] at b184 b184b ⊢
                refine rg_i (by omega) ?_
                refine bd_i (by omega) ?_
                refine x_nm (fun U186 hU186 => ?_)
                have e187 := up_f hU186
                refine (show po_X3_playTennis_e T p ru k s U186 (none) from ?_)
                have e188 : U186 103 p 3 = T 103 p 3 := (up_j hU186 (by decide) 103 p).trans ((up_j hU182 (by decide) 103 p).trans ((up_k hU174 (by exact Nat.ne_of_beq_eq_false rfl) p 3).trans ((fU170 103 p 3 rfl).trans ((up_k hU119 (by exact Nat.ne_of_beq_eq_false rfl) p 3).trans ((fU115 103 p 3 rfl).trans (up_k hU6 (by exact Nat.ne_of_beq_eq_false rfl) p 3))))))
                have e189 : U186 470 p 0 = T 470 p 0 := (up_k hU186 (by exact Nat.ne_of_beq_eq_false rfl) p 0).trans ((up_k hU182 (by exact Nat.ne_of_beq_eq_false rfl) p 0).trans ((up_k hU174 (by exact Nat.ne_of_beq_eq_false rfl) p 0).trans ((fU170 470 p 0 rfl).trans ((up_k hU119 (by exact Nat.ne_of_beq_eq_false rfl) p 0).trans ((fU115 470 p 0 rfl).trans (up_k hU6 (by exact Nat.ne_of_beq_eq_false rfl) p 0))))))
                have e190 : U186 470 p 1 = T 470 p 1 := (up_k hU186 (by exact Nat.ne_of_beq_eq_false rfl) p 1).trans ((up_k hU182 (by exact Nat.ne_of_beq_eq_false rfl) p 1).trans ((up_k hU174 (by exact Nat.ne_of_beq_eq_false rfl) p 1).trans ((fU170 470 p 1 rfl).trans ((up_k hU119 (by exact Nat.ne_of_beq_eq_false rfl) p 1).trans ((fU115 470 p 1 rfl).trans (up_k hU6 (by exact Nat.ne_of_beq_eq_false rfl) p 1))))))
                have g191 : U186 470 p 0 = T 470 p 0 := (up_k hU186 (by exact Nat.ne_of_beq_eq_false rfl) p 0).trans ((up_k hU182 (by exact Nat.ne_of_beq_eq_false rfl) p 0).trans ((up_k hU174 (by exact Nat.ne_of_beq_eq_false rfl) p 0).trans ((fU170 470 p 0 rfl).trans ((up_k hU119 (by exact Nat.ne_of_beq_eq_false rfl) p 0).trans ((fU115 470 p 0 rfl).trans (up_k hU6 (by exact Nat.ne_of_beq_eq_false rfl) p 0))))))
                have g192 : U186 470 p 1 = T 470 p 1 := (up_k hU186 (by exact Nat.ne_of_beq_eq_false rfl) p 1).trans ((up_k hU182 (by exact Nat.ne_of_beq_eq_false rfl) p 1).trans ((up_k hU174 (by exact Nat.ne_of_beq_eq_false rfl) p 1).trans ((fU170 470 p 1 rfl).trans ((up_k hU119 (by exact Nat.ne_of_beq_eq_false rfl) p 1).trans ((fU115 470 p 1 rfl).trans (up_k hU6 (by exact Nat.ne_of_beq_eq_false rfl) p 1))))))
                have e193 : U186 103 p 3 = T 103 p 3 := (up_j hU186 (by decide) 103 p).trans ((up_j hU182 (by decide) 103 p).trans ((up_k hU174 (by exact Nat.ne_of_beq_eq_false rfl) p 3).trans ((fU170 103 p 3 rfl).trans ((up_k hU119 (by exact Nat.ne_of_beq_eq_false rfl) p 3).trans ((fU115 103 p 3 rfl).trans (up_k hU6 (by exact Nat.ne_of_beq_eq_false rfl) p 3))))))
                have rU6 : rs9_ U6 p = u2_ (rs9_ T p) 466 s (wr_ ((T 466 p s) + 1)) := rs_u hU6 rfl
                have rU115 : rs9_ U115 p = fy2_ (u2_ (rs9_ T p) 466 s (wr_ ((T 466 p s) + 1))) 466 2 0 := by rw [qU115e, rU6]
                have rU119 : rs9_ U119 p = u2_ (fy2_ (u2_ (rs9_ T p) 466 s (wr_ ((T 466 p s) + 1))) 466 2 0) 467 s (wr_ ((T 467 p s) + 1)) := by rw [rs_u hU119 rfl, rU115]
                have rU170 : rs9_ U170 p = fy2_ (u2_ (fy2_ (u2_ (rs9_ T p) 466 s (wr_ ((T 466 p s) + 1))) 466 2 0) 467 s (wr_ ((T 467 p s) + 1))) 467 2 0 := by rw [qU170e, rU119]
                have rU174 : rs9_ U174 p = u2_ (fy2_ (u2_ (fy2_ (u2_ (rs9_ T p) 466 s (wr_ ((T 466 p s) + 1))) 466 2 0) 467 s (wr_ ((T 467 p s) + 1))) 467 2 0) 468 s (wr_ ((T 468 p s) + 1)) := by rw [rs_u hU174 rfl, rU170]
                have rU182 : rs9_ U182 p = u2_ (u2_ (fy2_ (u2_ (fy2_ (u2_ (rs9_ T p) 466 s (wr_ ((T 466 p s) + 1))) 466 2 0) 467 s (wr_ ((T 467 p s) + 1))) 467 2 0) 468 s (wr_ ((T 468 p s) + 1))) 103 4 (wr_ ((T 103 p 4) + 1)) := by rw [rs_u hU182 rfl, rU174]
                have rU186 : rs9_ U186 p = u2_ (u2_ (u2_ (fy2_ (u2_ (fy2_ (u2_ (rs9_ T p) 466 s (wr_ ((T 466 p s) + 1))) 466 2 0) 467 s (wr_ ((T 467 p s) + 1))) 467 2 0) 468 s (wr_ ((T 468 p s) + 1))) 103 4 (wr_ ((T 103 p 4) + 1))) 103 5 (1 - (T 103 p 5)) := by rw [rs_u hU186 rfl, rU182]
                exact ⟨rfl, fr_u (fr_u (fr_u (fr_t (fr_u (fr_t (fr_u (fr_0 _ _) hU6 rfl) (fr_s fU115 rfl)) hU119 rfl) (fr_s fU170 rfl)) hU174 rfl) hU182 rfl) hU186 rfl, oi_u (oi_u (oi_u (oi_t (oi_u (oi_t (oi_u (oi_r) hU6) qU115o) hU119) qU170o) hU174) hU182) hU186, by exact fun _ => by omega, Eq.trans rU186 (pt9__7 (r := ru) (a := (rs9_ T p)) (k := k) (s := s) (show ¬ (k = 6) by omega) (show ¬ (T 467 p 0 = ru 11 ∧ T 467 p 1 = ru 11) by omega) (show 4 ≤ wr_ (T 466 p s + 1) ∧ 2 ≤ wr_ (wr_ (T 466 p s + 1) - T 466 p (1 - s)) by omega) (show (ru 11 ≤ wr_ (T 467 p s + 1) ∧ 2 ≤ wr_ (wr_ (T 467 p s + 1) - T 467 p (1 - s))) ∨ ru 11 < wr_ (T 467 p s + 1) by omega) (show ¬ (wr_ (T 468 p s + 1) = 2) by omega)).symm⟩
              · refine bd_i (by omega) ?_
                refine x_nm (fun U194 hU194 => ?_)
                have e195 := up_f hU194
                refine (show po_X3_playTennis_e T p ru k s U194 (none) from ?_)
                have e196 : U194 103 p 3 = 1 := up_f hU194
                have e197 : U194 470 p 0 = T 470 p 0 := (up_k hU194 (by exact Nat.ne_of_beq_eq_false rfl) p 0).trans ((up_k hU174 (by exact Nat.ne_of_beq_eq_false rfl) p 0).trans ((fU170 470 p 0 rfl).trans ((up_k hU119 (by exact Nat.ne_of_beq_eq_false rfl) p 0).trans ((fU115 470 p 0 rfl).trans (up_k hU6 (by exact Nat.ne_of_beq_eq_false rfl) p 0)))))
                have e198 : U194 470 p 1 = T 470 p 1 := (up_k hU194 (by exact Nat.ne_of_beq_eq_false rfl) p 1).trans ((up_k hU174 (by exact Nat.ne_of_beq_eq_false rfl) p 1).trans ((fU170 470 p 1 rfl).trans ((up_k hU119 (by exact Nat.ne_of_beq_eq_false rfl) p 1).trans ((fU115 470 p 1 rfl).trans (up_k hU6 (by exact Nat.ne_of_beq_eq_false rfl) p 1)))))
                have g199 : U194 470 p 0 = T 470 p 0 := (up_k hU194 (by exact Nat.ne_of_beq_eq_false rfl) p 0).trans ((up_k hU174 (by exact Nat.ne_of_beq_eq_false rfl) p 0).trans ((fU170 470 p 0 rfl).trans ((up_k hU119 (by exact Nat.ne_of_beq_eq_false rfl) p 0).trans ((fU115 470 p 0 rfl).trans (up_k hU6 (by exact Nat.ne_of_beq_eq_false rfl) p 0)))))
                have g200 : U194 470 p 1 = T 470 p 1 := (up_k hU194 (by exact Nat.ne_of_beq_eq_false rfl) p 1).trans ((up_k hU174 (by exact Nat.ne_of_beq_eq_false rfl) p 1).trans ((fU170 470 p 1 rfl).trans ((up_k hU119 (by exact Nat.ne_of_beq_eq_false rfl) p 1).trans ((fU115 470 p 1 rfl).trans (up_k hU6 (by exact Nat.ne_of_beq_eq_false rfl) p 1)))))
                have e201 : U194 103 p 3 = 1 := up_f hU194
                have rU6 : rs9_ U6 p = u2_ (rs9_ T p) 466 s (wr_ ((T 466 p s) + 1)) := rs_u hU6 rfl
                have rU115 : rs9_ U115 p = fy2_ (u2_ (rs9_ T p) 466 s (wr_ ((T 466 p s) + 1))) 466 2 0 := by rw [qU115e, rU6]
                have rU119 : rs9_ U119 p = u2_ (fy2_ (u2_ (rs9_ T p) 466 s (wr_ ((T 466 p s) + 1))) 466 2 0) 467 s (wr_ ((T 467 p s) + 1)) := by rw [rs_u hU119 rfl, rU115]
                have rU170 : rs9_ U170 p = fy2_ (u2_ (fy2_ (u2_ (rs9_ T p) 466 s (wr_ ((T 466 p s) + 1))) 466 2 0) 467 s (wr_ ((T 467 p s) + 1))) 467 2 0 := by rw [qU170e, rU119]
                have rU174 : rs9_ U174 p = u2_ (fy2_ (u2_ (fy2_ (u2_ (rs9_ T p) 466 s (wr_ ((T 466 p s) + 1))) 466 2 0) 467 s (wr_ ((T 467 p s) + 1))) 467 2 0) 468 s (wr_ ((T 468 p s) + 1)) := by rw [rs_u hU174 rfl, rU170]
                have rU194 : rs9_ U194 p = u2_ (u2_ (fy2_ (u2_ (fy2_ (u2_ (rs9_ T p) 466 s (wr_ ((T 466 p s) + 1))) 466 2 0) 467 s (wr_ ((T 467 p s) + 1))) 467 2 0) 468 s (wr_ ((T 468 p s) + 1))) 103 3 1 := by rw [rs_u hU194 rfl, rU174]
                exact ⟨rfl, fr_u (fr_u (fr_t (fr_u (fr_t (fr_u (fr_0 _ _) hU6 rfl) (fr_s fU115 rfl)) hU119 rfl) (fr_s fU170 rfl)) hU174 rfl) hU194 rfl, oi_u (oi_u (oi_t (oi_u (oi_t (oi_u (oi_r) hU6) qU115o) hU119) qU170o) hU174) hU194, by exact fun _ => by omega, Eq.trans rU194 (pt9__6 (r := ru) (a := (rs9_ T p)) (k := k) (s := s) (show ¬ (k = 6) by omega) (show ¬ (T 467 p 0 = ru 11 ∧ T 467 p 1 = ru 11) by omega) (show 4 ≤ wr_ (T 466 p s + 1) ∧ 2 ≤ wr_ (wr_ (T 466 p s + 1) - T 466 p (1 - s)) by omega) (show (ru 11 ≤ wr_ (T 467 p s + 1) ∧ 2 ≤ wr_ (wr_ (T 467 p s + 1) - T 467 p (1 - s))) ∨ ru 11 < wr_ (T 467 p s + 1) by omega) (show wr_ (T 468 p s + 1) = 2 by omega)).symm⟩
        · replace hx113 := hx113.resolve_left (fun z => absurd (c114.symm.trans z.1) (by decide))
          clear c114
          refine (show po_X3_playTennis_e T p ru k s U6 (none) from ?_)
          have e202 : U6 103 p 3 = T 103 p 3 := up_k hU6 (by exact Nat.ne_of_beq_eq_false rfl) p 3
          have e203 : U6 470 p 0 = T 470 p 0 := up_k hU6 (by exact Nat.ne_of_beq_eq_false rfl) p 0
          have e204 : U6 470 p 1 = T 470 p 1 := up_k hU6 (by exact Nat.ne_of_beq_eq_false rfl) p 1
          have g205 : U6 470 p 0 = T 470 p 0 := up_k hU6 (by exact Nat.ne_of_beq_eq_false rfl) p 0
          have g206 : U6 470 p 1 = T 470 p 1 := up_k hU6 (by exact Nat.ne_of_beq_eq_false rfl) p 1
          have e207 : U6 103 p 3 = T 103 p 3 := up_k hU6 (by exact Nat.ne_of_beq_eq_false rfl) p 3
          have rU6 : rs9_ U6 p = u2_ (rs9_ T p) 466 s (wr_ ((T 466 p s) + 1)) := rs_u hU6 rfl
          exact ⟨rfl, fr_u (fr_0 _ _) hU6 rfl, oi_u (oi_r) hU6, by exact fun _ => by omega, Eq.trans rU6 (pt9__9 (r := ru) (a := (rs9_ T p)) (k := k) (s := s) (show ¬ (k = 6) by omega) (show ¬ (T 467 p 0 = ru 11 ∧ T 467 p 1 = ru 11) by omega) (show ¬ (4 ≤ wr_ (T 466 p s + 1) ∧ 2 ≤ wr_ (wr_ (T 466 p s + 1) - T 466 p (1 - s))) by omega)).symm⟩
      · refine hK 65 [some (vR 103 p), some (vI k), some (vI s), some (vI (T 401 (T 103 p 0) 11)), none] [vI 7] U6 ?_
        refine j_blx (F := fX3) tb_X3 (nn_ _) bk_X3_playTennis_e_65 bs_X3_playTennis_e_65 hz (fun K hK => ?_)
        refine hK 74 [some (vR 103 p), some (vI k), some (vI s), some (vI (T 401 (T 103 p 0) 11)), some (vI 7)] [vI 7, vI s, vR 466 p] U6 ?_
        have e208 : U6 466 p s = wr_ ((T 466 p s) + 1) := up_f hU6
        have e209 : U6 466 p (1 - s) = T 466 p (1 - s) := up_g hU6 (by omega)
        refine j_callS (y := yX3_isWon) (Yc := zX3_isWon) (rest := []) [vR 466 p, vI s, vI 7] (ct_X3_isWon_466_e (T := U6) (by omega)) cl_X3_125 (qd_c (by decide +kernel)) (nn_ _) rfl (rf_of rfl) (Nat.le_of_ble_eq_true rfl) (Nat.le_of_ble_eq_true rfl) (Nat.le_of_ble_eq_true rfl) rfl ?_
        rintro _ _ ⟨rfl, x210, rfl, hx210⟩
        rw [e208, e209] at hx210
        show J_ zX3_playTennis T (po_X3_playTennis_e T p ru k s) 0 0 77 _ [vI x210] U6
        refine j_blx (F := fX3) tb_X3 (nn_ _) bk_X3_playTennis_e_77 bs_X3_playTennis_e_77 hz (fun K hK => ?_)
        refine And.intro (fun c211 => ?_) (fun c211 => ?_)
        · replace hx210 := hx210.resolve_right (fun z => c211 z.1)
          clear c211
          refine hK 81 _ [] U6 ?_
          refine j_blx (F := fX3) tb_X3 (nn_ _) bk_X3_playTennis_e_81 bs_X3_playTennis_e_81 hz (fun K hK => ?_)
          refine hK 86 _ [vI 0, vR 466 p] U6 ?_
          refine j_callS (y := yJ7_fill_53178) (Yc := zJ7_fill_53178) (rest := []) [vR 466 p, vI 0] (ct_J7_fill_466_e (T := U6) (by omega)) cl_X3_62 (qd_c (by decide +kernel)) (nn_ _) rfl (rf_of rfl) (Nat.le_of_ble_eq_true rfl) (Nat.le_of_ble_eq_true rfl) (Nat.le_of_ble_eq_true rfl) rfl ?_
          rintro U212 _ ⟨rfl, fU212, qU212o, qU212, qU212e⟩
          show J_ zX3_playTennis T (po_X3_playTennis_e T p ru k s) 0 0 89 _ [] U212
          refine j_blx (F := fX3) tb_X3 (nn_ _) bk_X3_playTennis_e_89 bs_X3_playTennis_e_89 hz (fun K hK => ?_)
          refine ix_i (by omega) ?_
          intro b213 b213b
          have e214 : U212 467 p s = T 467 p s := (fU212 467 p s rfl).trans (up_k hU6 (by exact Nat.ne_of_beq_eq_false rfl) p s)
          rw [e214] at b213 b213b ⊢
          intro w215 w215b
          refine iy_i (by omega) (by omega) ?_
          refine x_nm (fun U216 hU216 => ?_)
          have e217 := up_f hU216
          refine hK 105 _ [vI (T 401 (T 103 p 0) 11), vI s, vR 467 p] U216 ?_
          have e218 : U216 467 p s = wr_ ((T 467 p s) + 1) := up_f hU216
          have e219 : U216 467 p (1 - s) = T 467 p (1 - s) := (up_g hU216 (by omega)).trans ((fU212 467 p (1 - s) rfl).trans (up_k hU6 (by exact Nat.ne_of_beq_eq_false rfl) p (1 - s)))
          refine j_callS (y := yX3_isWon) (Yc := zX3_isWon) (rest := []) [vR 467 p, vI s, vI (T 401 (T 103 p 0) 11)] (ct_X3_isWon_467_e (T := U216) (by omega)) cl_X3_125 (qd_c (by decide +kernel)) (nn_ _) rfl (rf_of rfl) (Nat.le_of_ble_eq_true rfl) (Nat.le_of_ble_eq_true rfl) (Nat.le_of_ble_eq_true rfl) rfl ?_
          rintro _ _ ⟨rfl, x220, rfl, hx220⟩
          rw [e218, e219] at hx220
          show J_ zX3_playTennis T (po_X3_playTennis_e T p ru k s) 0 0 108 _ [vI x220] U216
          refine j_blx (F := fX3) tb_X3 (nn_ _) bk_X3_playTennis_e_108 bs_X3_playTennis_e_108 hz (fun K hK => ?_)
          refine And.intro (fun c221 => ?_) (fun c221 => ?_)
          · replace hx220 := hx220.resolve_right (fun z => c221 z.1)
            clear c221
            refine hK 121 _ [] U216 ?_
            refine j_blx (F := fX3) tb_X3 (nn_ _) bk_X3_playTennis_e_121 bs_X3_playTennis_e_121 hz (fun K hK => ?_)
            refine hK 126 _ [vI 0, vR 467 p] U216 ?_
            refine j_callS (y := yJ7_fill_53178) (Yc := zJ7_fill_53178) (rest := []) [vR 467 p, vI 0] (ct_J7_fill_467_e (T := U216) (by omega)) cl_X3_62 (qd_c (by decide +kernel)) (nn_ _) rfl (rf_of rfl) (Nat.le_of_ble_eq_true rfl) (Nat.le_of_ble_eq_true rfl) (Nat.le_of_ble_eq_true rfl) rfl ?_
            rintro U222 _ ⟨rfl, fU222, qU222o, qU222, qU222e⟩
            show J_ zX3_playTennis T (po_X3_playTennis_e T p ru k s) 0 0 129 _ [] U222
            refine j_blx (F := fX3) tb_X3 (nn_ _) bk_X3_playTennis_e_129 bs_X3_playTennis_e_129 hz (fun K hK => ?_)
            refine ix_i (by omega) ?_
            intro b223 b223b
            have e224 : U222 468 p s = T 468 p s := (fU222 468 p s rfl).trans ((up_k hU216 (by exact Nat.ne_of_beq_eq_false rfl) p s).trans ((fU212 468 p s rfl).trans (up_k hU6 (by exact Nat.ne_of_beq_eq_false rfl) p s)))
            rw [e224] at b223 b223b ⊢
            intro w225 w225b
            refine iy_i (by omega) (by omega) ?_
            refine x_nm (fun U226 hU226 => ?_)
            have e227 := up_f hU226
            refine ix_i (by omega) ?_
            intro b228 b228b
            have e229 : U226 468 p s = wr_ ((T 468 p s) + 1) := up_f hU226
            rw [e229] at b228 b228b ⊢
            refine And.intro (fun c230 => ?_) (fun c230 => ?_)
            · refine hK 155 _ [] U226 ?_
              refine j_blx (F := fX3) tb_X3 (nn_ _) bk_X3_playTennis_e_155 bs_X3_playTennis_e_155 hz (fun K hK => ?_)
              intro b231 b231b
              have e232 : U226 103 p 4 = T 103 p 4 := (up_k hU226 (by exact Nat.ne_of_beq_eq_false rfl) p 4).trans ((fU222 103 p 4 rfl).trans ((up_k hU216 (by exact Nat.ne_of_beq_eq_false rfl) p 4).trans ((fU212 103 p 4 rfl).trans (up_k hU6 (by exact Nat.ne_of_beq_eq_false rfl) p 4))))
              rw [e232] at b231 b231b ⊢
              intro w233 w233b
              refine bd_i (by omega) ?_
              refine x_nm (fun U234 hU234 => ?_)
              have e235 := up_f hU234
              intro b236 b236b
              have e237 : U234 103 p 5 = T 103 p 5 := (up_j hU234 (by decide) 103 p).trans ((up_k hU226 (by exact Nat.ne_of_beq_eq_false rfl) p 5).trans ((fU222 103 p 5 rfl).trans ((up_k hU216 (by exact Nat.ne_of_beq_eq_false rfl) p 5).trans ((fU212 103 p 5 rfl).trans (up_k hU6 (by exact Nat.ne_of_beq_eq_false rfl) p 5)))))
              rw [e237] at b236 b236b ⊢
              refine rg_i (by omega) ?_
              refine bd_i (by omega) ?_
              refine x_nm (fun U238 hU238 => ?_)
              have e239 := up_f hU238
              refine (show po_X3_playTennis_e T p ru k s U238 (none) from ?_)
              have e240 : U238 103 p 3 = T 103 p 3 := (up_j hU238 (by decide) 103 p).trans ((up_j hU234 (by decide) 103 p).trans ((up_k hU226 (by exact Nat.ne_of_beq_eq_false rfl) p 3).trans ((fU222 103 p 3 rfl).trans ((up_k hU216 (by exact Nat.ne_of_beq_eq_false rfl) p 3).trans ((fU212 103 p 3 rfl).trans (up_k hU6 (by exact Nat.ne_of_beq_eq_false rfl) p 3))))))
              have e241 : U238 470 p 0 = T 470 p 0 := (up_k hU238 (by exact Nat.ne_of_beq_eq_false rfl) p 0).trans ((up_k hU234 (by exact Nat.ne_of_beq_eq_false rfl) p 0).trans ((up_k hU226 (by exact Nat.ne_of_beq_eq_false rfl) p 0).trans ((fU222 470 p 0 rfl).trans ((up_k hU216 (by exact Nat.ne_of_beq_eq_false rfl) p 0).trans ((fU212 470 p 0 rfl).trans (up_k hU6 (by exact Nat.ne_of_beq_eq_false rfl) p 0))))))
              have e242 : U238 470 p 1 = T 470 p 1 := (up_k hU238 (by exact Nat.ne_of_beq_eq_false rfl) p 1).trans ((up_k hU234 (by exact Nat.ne_of_beq_eq_false rfl) p 1).trans ((up_k hU226 (by exact Nat.ne_of_beq_eq_false rfl) p 1).trans ((fU222 470 p 1 rfl).trans ((up_k hU216 (by exact Nat.ne_of_beq_eq_false rfl) p 1).trans ((fU212 470 p 1 rfl).trans (up_k hU6 (by exact Nat.ne_of_beq_eq_false rfl) p 1))))))
              have g243 : U238 470 p 0 = T 470 p 0 := (up_k hU238 (by exact Nat.ne_of_beq_eq_false rfl) p 0).trans ((up_k hU234 (by exact Nat.ne_of_beq_eq_false rfl) p 0).trans ((up_k hU226 (by exact Nat.ne_of_beq_eq_false rfl) p 0).trans ((fU222 470 p 0 rfl).trans ((up_k hU216 (by exact Nat.ne_of_beq_eq_false rfl) p 0).trans ((fU212 470 p 0 rfl).trans (up_k hU6 (by exact Nat.ne_of_beq_eq_false rfl) p 0))))))
              have g244 : U238 470 p 1 = T 470 p 1 := (up_k hU238 (by exact Nat.ne_of_beq_eq_false rfl) p 1).trans ((up_k hU234 (by exact Nat.ne_of_beq_eq_false rfl) p 1).trans ((up_k hU226 (by exact Nat.ne_of_beq_eq_false rfl) p 1).trans ((fU222 470 p 1 rfl).trans ((up_k hU216 (by exact Nat.ne_of_beq_eq_false rfl) p 1).trans ((fU212 470 p 1 rfl).trans (up_k hU6 (by exact Nat.ne_of_beq_eq_false rfl) p 1))))))
              have e245 : U238 103 p 3 = T 103 p 3 := (up_j hU238 (by decide) 103 p).trans ((up_j hU234 (by decide) 103 p).trans ((up_k hU226 (by exact Nat.ne_of_beq_eq_false rfl) p 3).trans ((fU222 103 p 3 rfl).trans ((up_k hU216 (by exact Nat.ne_of_beq_eq_false rfl) p 3).trans ((fU212 103 p 3 rfl).trans (up_k hU6 (by exact Nat.ne_of_beq_eq_false rfl) p 3))))))
              have rU6 : rs9_ U6 p = u2_ (rs9_ T p) 466 s (wr_ ((T 466 p s) + 1)) := rs_u hU6 rfl
              have rU212 : rs9_ U212 p = fy2_ (u2_ (rs9_ T p) 466 s (wr_ ((T 466 p s) + 1))) 466 2 0 := by rw [qU212e, rU6]
              have rU216 : rs9_ U216 p = u2_ (fy2_ (u2_ (rs9_ T p) 466 s (wr_ ((T 466 p s) + 1))) 466 2 0) 467 s (wr_ ((T 467 p s) + 1)) := by rw [rs_u hU216 rfl, rU212]
              have rU222 : rs9_ U222 p = fy2_ (u2_ (fy2_ (u2_ (rs9_ T p) 466 s (wr_ ((T 466 p s) + 1))) 466 2 0) 467 s (wr_ ((T 467 p s) + 1))) 467 2 0 := by rw [qU222e, rU216]
              have rU226 : rs9_ U226 p = u2_ (fy2_ (u2_ (fy2_ (u2_ (rs9_ T p) 466 s (wr_ ((T 466 p s) + 1))) 466 2 0) 467 s (wr_ ((T 467 p s) + 1))) 467 2 0) 468 s (wr_ ((T 468 p s) + 1)) := by rw [rs_u hU226 rfl, rU222]
              have rU234 : rs9_ U234 p = u2_ (u2_ (fy2_ (u2_ (fy2_ (u2_ (rs9_ T p) 466 s (wr_ ((T 466 p s) + 1))) 466 2 0) 467 s (wr_ ((T 467 p s) + 1))) 467 2 0) 468 s (wr_ ((T 468 p s) + 1))) 103 4 (wr_ ((T 103 p 4) + 1)) := by rw [rs_u hU234 rfl, rU226]
              have rU238 : rs9_ U238 p = u2_ (u2_ (u2_ (fy2_ (u2_ (fy2_ (u2_ (rs9_ T p) 466 s (wr_ ((T 466 p s) + 1))) 466 2 0) 467 s (wr_ ((T 467 p s) + 1))) 467 2 0) 468 s (wr_ ((T 468 p s) + 1))) 103 4 (wr_ ((T 103 p 4) + 1))) 103 5 (1 - (T 103 p 5)) := by rw [rs_u hU238 rfl, rU234]
              exact ⟨rfl, fr_u (fr_u (fr_u (fr_t (fr_u (fr_t (fr_u (fr_0 _ _) hU6 rfl) (fr_s fU212 rfl)) hU216 rfl) (fr_s fU222 rfl)) hU226 rfl) hU234 rfl) hU238 rfl, oi_u (oi_u (oi_u (oi_t (oi_u (oi_t (oi_u (oi_r) hU6) qU212o) hU216) qU222o) hU226) hU234) hU238, by exact fun _ => by omega, Eq.trans rU238 (pt9__3 (r := ru) (a := (rs9_ T p)) (k := k) (s := s) (show ¬ (k = 6) by omega) (show T 467 p 0 = ru 11 ∧ T 467 p 1 = ru 11 by omega) (show 7 ≤ wr_ (T 466 p s + 1) ∧ 2 ≤ wr_ (wr_ (T 466 p s + 1) - T 466 p (1 - s)) by omega) (show (ru 11 ≤ wr_ (T 467 p s + 1) ∧ 2 ≤ wr_ (wr_ (T 467 p s + 1) - T 467 p (1 - s))) ∨ ru 11 < wr_ (T 467 p s + 1) by omega) (show ¬ (wr_ (T 468 p s + 1) = 2) by omega)).symm⟩
            · refine bd_i (by omega) ?_
              refine x_nm (fun U246 hU246 => ?_)
              have e247 := up_f hU246
              refine (show po_X3_playTennis_e T p ru k s U246 (none) from ?_)
              have e248 : U246 103 p 3 = 1 := up_f hU246
              have e249 : U246 470 p 0 = T 470 p 0 := (up_k hU246 (by exact Nat.ne_of_beq_eq_false rfl) p 0).trans ((up_k hU226 (by exact Nat.ne_of_beq_eq_false rfl) p 0).trans ((fU222 470 p 0 rfl).trans ((up_k hU216 (by exact Nat.ne_of_beq_eq_false rfl) p 0).trans ((fU212 470 p 0 rfl).trans (up_k hU6 (by exact Nat.ne_of_beq_eq_false rfl) p 0)))))
              have e250 : U246 470 p 1 = T 470 p 1 := (up_k hU246 (by exact Nat.ne_of_beq_eq_false rfl) p 1).trans ((up_k hU226 (by exact Nat.ne_of_beq_eq_false rfl) p 1).trans ((fU222 470 p 1 rfl).trans ((up_k hU216 (by exact Nat.ne_of_beq_eq_false rfl) p 1).trans ((fU212 470 p 1 rfl).trans (up_k hU6 (by exact Nat.ne_of_beq_eq_false rfl) p 1)))))
              have g251 : U246 470 p 0 = T 470 p 0 := (up_k hU246 (by exact Nat.ne_of_beq_eq_false rfl) p 0).trans ((up_k hU226 (by exact Nat.ne_of_beq_eq_false rfl) p 0).trans ((fU222 470 p 0 rfl).trans ((up_k hU216 (by exact Nat.ne_of_beq_eq_false rfl) p 0).trans ((fU212 470 p 0 rfl).trans (up_k hU6 (by exact Nat.ne_of_beq_eq_false rfl) p 0)))))
              have g252 : U246 470 p 1 = T 470 p 1 := (up_k hU246 (by exact Nat.ne_of_beq_eq_false rfl) p 1).trans ((up_k hU226 (by exact Nat.ne_of_beq_eq_false rfl) p 1).trans ((fU222 470 p 1 rfl).trans ((up_k hU216 (by exact Nat.ne_of_beq_eq_false rfl) p 1).trans ((fU212 470 p 1 rfl).trans (up_k hU6 (by exact Nat.ne_of_beq_eq_false rfl) p 1)))))
              have e253 : U246 103 p 3 = 1 := up_f hU246
              have rU6 : rs9_ U6 p = u2_ (rs9_ T p) 466 s (wr_ ((T 466 p s) + 1)) := rs_u hU6 rfl
              have rU212 : rs9_ U212 p = fy2_ (u2_ (rs9_ T p) 466 s (wr_ ((T 466 p s) + 1))) 466 2 0 := by rw [qU212e, rU6]
              have rU216 : rs9_ U216 p = u2_ (fy2_ (u2_ (rs9_ T p) 466 s (wr_ ((T 466 p s) + 1))) 466 2 0) 467 s (wr_ ((T 467 p s) + 1)) := by rw [rs_u hU216 rfl, rU212]
              have rU222 : rs9_ U222 p = fy2_ (u2_ (fy2_ (u2_ (rs9_ T p) 466 s (wr_ ((T 466 p s) + 1))) 466 2 0) 467 s (wr_ ((T 467 p s) + 1))) 467 2 0 := by rw [qU222e, rU216]
              have rU226 : rs9_ U226 p = u2_ (fy2_ (u2_ (fy2_ (u2_ (rs9_ T p) 466 s (wr_ ((T 466 p s) + 1))) 466 2 0) 467 s (wr_ ((T 467 p s) + 1))) 467 2 0) 468 s (wr_ ((T 468 p s) + 1)) := by rw [rs_u hU226 rfl, rU222]
              have rU246 : rs9_ U246 p = u2_ (u2_ (fy2_ (u2_ (fy2_ (u2_ (rs9_ T p) 466 s (wr_ ((T 466 p s) + 1))) 466 2 0) 467 s (wr_ ((T 467 p s) + 1))) 467 2 0) 468 s (wr_ ((T 468 p s) + 1))) 103 3 1 := by rw [rs_u hU246 rfl, rU226]
              exact ⟨rfl, fr_u (fr_u (fr_t (fr_u (fr_t (fr_u (fr_0 _ _) hU6 rfl) (fr_s fU212 rfl)) hU216 rfl) (fr_s fU222 rfl)) hU226 rfl) hU246 rfl, oi_u (oi_u (oi_t (oi_u (oi_t (oi_u (oi_r) hU6) qU212o) hU216) qU222o) hU226) hU246, by exact fun _ => by omega, Eq.trans rU246 (pt9__2 (r := ru) (a := (rs9_ T p)) (k := k) (s := s) (show ¬ (k = 6) by omega) (show T 467 p 0 = ru 11 ∧ T 467 p 1 = ru 11 by omega) (show 7 ≤ wr_ (T 466 p s + 1) ∧ 2 ≤ wr_ (wr_ (T 466 p s + 1) - T 466 p (1 - s)) by omega) (show (ru 11 ≤ wr_ (T 467 p s + 1) ∧ 2 ≤ wr_ (wr_ (T 467 p s + 1) - T 467 p (1 - s))) ∨ ru 11 < wr_ (T 467 p s + 1) by omega) (show wr_ (T 468 p s + 1) = 2 by omega)).symm⟩
          · replace hx220 := hx220.resolve_left (fun z => absurd (c221.symm.trans z.1) (by decide))
            clear c221
            refine ix_i (by omega) ?_
            intro b254 b254b
            have e255 : U216 467 p s = wr_ ((T 467 p s) + 1) := up_f hU216
            rw [e255] at b254 b254b ⊢
            refine And.intro (fun c256 => ?_) (fun c256 => ?_)
            · refine hK 165 _ [] U216 ?_
              refine j_blx (F := fX3) tb_X3 (nn_ _) bk_X3_playTennis_e_165 bs_X3_playTennis_e_165 hz (fun K hK => ?_)
              intro b257 b257b
              have e258 : U216 103 p 5 = T 103 p 5 := (up_k hU216 (by exact Nat.ne_of_beq_eq_false rfl) p 5).trans ((fU212 103 p 5 rfl).trans (up_k hU6 (by exact Nat.ne_of_beq_eq_false rfl) p 5))
              rw [e258] at b257 b257b ⊢
              refine rg_i (by omega) ?_
              refine bd_i (by omega) ?_
              refine x_nm (fun U259 hU259 => ?_)
              have e260 := up_f hU259
              refine (show po_X3_playTennis_e T p ru k s U259 (none) from ?_)
              have e261 : U259 103 p 3 = T 103 p 3 := (up_j hU259 (by decide) 103 p).trans ((up_k hU216 (by exact Nat.ne_of_beq_eq_false rfl) p 3).trans ((fU212 103 p 3 rfl).trans (up_k hU6 (by exact Nat.ne_of_beq_eq_false rfl) p 3)))
              have e262 : U259 470 p 0 = T 470 p 0 := (up_k hU259 (by exact Nat.ne_of_beq_eq_false rfl) p 0).trans ((up_k hU216 (by exact Nat.ne_of_beq_eq_false rfl) p 0).trans ((fU212 470 p 0 rfl).trans (up_k hU6 (by exact Nat.ne_of_beq_eq_false rfl) p 0)))
              have e263 : U259 470 p 1 = T 470 p 1 := (up_k hU259 (by exact Nat.ne_of_beq_eq_false rfl) p 1).trans ((up_k hU216 (by exact Nat.ne_of_beq_eq_false rfl) p 1).trans ((fU212 470 p 1 rfl).trans (up_k hU6 (by exact Nat.ne_of_beq_eq_false rfl) p 1)))
              have g264 : U259 470 p 0 = T 470 p 0 := (up_k hU259 (by exact Nat.ne_of_beq_eq_false rfl) p 0).trans ((up_k hU216 (by exact Nat.ne_of_beq_eq_false rfl) p 0).trans ((fU212 470 p 0 rfl).trans (up_k hU6 (by exact Nat.ne_of_beq_eq_false rfl) p 0)))
              have g265 : U259 470 p 1 = T 470 p 1 := (up_k hU259 (by exact Nat.ne_of_beq_eq_false rfl) p 1).trans ((up_k hU216 (by exact Nat.ne_of_beq_eq_false rfl) p 1).trans ((fU212 470 p 1 rfl).trans (up_k hU6 (by exact Nat.ne_of_beq_eq_false rfl) p 1)))
              have e266 : U259 103 p 3 = T 103 p 3 := (up_j hU259 (by decide) 103 p).trans ((up_k hU216 (by exact Nat.ne_of_beq_eq_false rfl) p 3).trans ((fU212 103 p 3 rfl).trans (up_k hU6 (by exact Nat.ne_of_beq_eq_false rfl) p 3)))
              have rU6 : rs9_ U6 p = u2_ (rs9_ T p) 466 s (wr_ ((T 466 p s) + 1)) := rs_u hU6 rfl
              have rU212 : rs9_ U212 p = fy2_ (u2_ (rs9_ T p) 466 s (wr_ ((T 466 p s) + 1))) 466 2 0 := by rw [qU212e, rU6]
              have rU216 : rs9_ U216 p = u2_ (fy2_ (u2_ (rs9_ T p) 466 s (wr_ ((T 466 p s) + 1))) 466 2 0) 467 s (wr_ ((T 467 p s) + 1)) := by rw [rs_u hU216 rfl, rU212]
              have rU259 : rs9_ U259 p = u2_ (u2_ (fy2_ (u2_ (rs9_ T p) 466 s (wr_ ((T 466 p s) + 1))) 466 2 0) 467 s (wr_ ((T 467 p s) + 1))) 103 5 (1 - (T 103 p 5)) := by rw [rs_u hU259 rfl, rU216]
              exact ⟨rfl, fr_u (fr_u (fr_t (fr_u (fr_0 _ _) hU6 rfl) (fr_s fU212 rfl)) hU216 rfl) hU259 rfl, oi_u (oi_u (oi_t (oi_u (oi_r) hU6) qU212o) hU216) hU259, by exact fun _ => by omega, Eq.trans rU259 (pt9__4 (r := ru) (a := (rs9_ T p)) (k := k) (s := s) (show ¬ (k = 6) by omega) (show T 467 p 0 = ru 11 ∧ T 467 p 1 = ru 11 by omega) (show 7 ≤ wr_ (T 466 p s + 1) ∧ 2 ≤ wr_ (wr_ (T 466 p s + 1) - T 466 p (1 - s)) by omega) (show ¬ ((ru 11 ≤ wr_ (T 467 p s + 1) ∧ 2 ≤ wr_ (wr_ (T 467 p s + 1) - T 467 p (1 - s))) ∨ ru 11 < wr_ (T 467 p s + 1)) by omega)).symm⟩
            · refine hK 126 _ [vI 0, vR 467 p] U216 ?_
              refine j_callS (y := yJ7_fill_53178) (Yc := zJ7_fill_53178) (rest := []) [vR 467 p, vI 0] (ct_J7_fill_467_e (T := U216) (by omega)) cl_X3_62 (qd_c (by decide +kernel)) (nn_ _) rfl (rf_of rfl) (Nat.le_of_ble_eq_true rfl) (Nat.le_of_ble_eq_true rfl) (Nat.le_of_ble_eq_true rfl) rfl ?_
              rintro U267 _ ⟨rfl, fU267, qU267o, qU267, qU267e⟩
              show J_ zX3_playTennis T (po_X3_playTennis_e T p ru k s) 0 0 129 _ [] U267
              refine j_blx (F := fX3) tb_X3 (nn_ _) bk_X3_playTennis_e_129 bs_X3_playTennis_e_129 hz (fun K hK => ?_)
              refine ix_i (by omega) ?_
              intro b268 b268b
              have e269 : U267 468 p s = T 468 p s := (fU267 468 p s rfl).trans ((up_k hU216 (by exact Nat.ne_of_beq_eq_false rfl) p s).trans ((fU212 468 p s rfl).trans (up_k hU6 (by exact Nat.ne_of_beq_eq_false rfl) p s)))
              rw [e269] at b268 b268b ⊢
              intro w270 w270b
              refine iy_i (by omega) (by omega) ?_
              refine x_nm (fun U271 hU271 => ?_)
              have e272 := up_f hU271
              refine ix_i (by omega) ?_
              intro b273 b273b
              have e274 : U271 468 p s = wr_ ((T 468 p s) + 1) := up_f hU271
              rw [e274] at b273 b273b ⊢
              refine And.intro (fun c275 => ?_) (fun c275 => ?_)
              · refine hK 155 _ [] U271 ?_
                refine j_blx (F := fX3) tb_X3 (nn_ _) bk_X3_playTennis_e_155 bs_X3_playTennis_e_155 hz (fun K hK => ?_)
                intro b276 b276b
                have e277 : U271 103 p 4 = T 103 p 4 := (up_k hU271 (by exact Nat.ne_of_beq_eq_false rfl) p 4).trans ((fU267 103 p 4 rfl).trans ((up_k hU216 (by exact Nat.ne_of_beq_eq_false rfl) p 4).trans ((fU212 103 p 4 rfl).trans (up_k hU6 (by exact Nat.ne_of_beq_eq_false rfl) p 4))))
                rw [e277] at b276 b276b ⊢
                intro w278 w278b
                refine bd_i (by omega) ?_
                refine x_nm (fun U279 hU279 => ?_)
                have e280 := up_f hU279
                intro b281 b281b
                have e282 : U279 103 p 5 = T 103 p 5 := (up_j hU279 (by decide) 103 p).trans ((up_k hU271 (by exact Nat.ne_of_beq_eq_false rfl) p 5).trans ((fU267 103 p 5 rfl).trans ((up_k hU216 (by exact Nat.ne_of_beq_eq_false rfl) p 5).trans ((fU212 103 p 5 rfl).trans (up_k hU6 (by exact Nat.ne_of_beq_eq_false rfl) p 5)))))
                rw [e282] at b281 b281b ⊢
                refine rg_i (by omega) ?_
                refine bd_i (by omega) ?_
                refine x_nm (fun U283 hU283 => ?_)
                have e284 := up_f hU283
                refine (show po_X3_playTennis_e T p ru k s U283 (none) from ?_)
                have e285 : U283 103 p 3 = T 103 p 3 := (up_j hU283 (by decide) 103 p).trans ((up_j hU279 (by decide) 103 p).trans ((up_k hU271 (by exact Nat.ne_of_beq_eq_false rfl) p 3).trans ((fU267 103 p 3 rfl).trans ((up_k hU216 (by exact Nat.ne_of_beq_eq_false rfl) p 3).trans ((fU212 103 p 3 rfl).trans (up_k hU6 (by exact Nat.ne_of_beq_eq_false rfl) p 3))))))
                have e286 : U283 470 p 0 = T 470 p 0 := (up_k hU283 (by exact Nat.ne_of_beq_eq_false rfl) p 0).trans ((up_k hU279 (by exact Nat.ne_of_beq_eq_false rfl) p 0).trans ((up_k hU271 (by exact Nat.ne_of_beq_eq_false rfl) p 0).trans ((fU267 470 p 0 rfl).trans ((up_k hU216 (by exact Nat.ne_of_beq_eq_false rfl) p 0).trans ((fU212 470 p 0 rfl).trans (up_k hU6 (by exact Nat.ne_of_beq_eq_false rfl) p 0))))))
                have e287 : U283 470 p 1 = T 470 p 1 := (up_k hU283 (by exact Nat.ne_of_beq_eq_false rfl) p 1).trans ((up_k hU279 (by exact Nat.ne_of_beq_eq_false rfl) p 1).trans ((up_k hU271 (by exact Nat.ne_of_beq_eq_false rfl) p 1).trans ((fU267 470 p 1 rfl).trans ((up_k hU216 (by exact Nat.ne_of_beq_eq_false rfl) p 1).trans ((fU212 470 p 1 rfl).trans (up_k hU6 (by exact Nat.ne_of_beq_eq_false rfl) p 1))))))
                have g288 : U283 470 p 0 = T 470 p 0 := (up_k hU283 (by exact Nat.ne_of_beq_eq_false rfl) p 0).trans ((up_k hU279 (by exact Nat.ne_of_beq_eq_false rfl) p 0).trans ((up_k hU271 (by exact Nat.ne_of_beq_eq_false rfl) p 0).trans ((fU267 470 p 0 rfl).trans ((up_k hU216 (by exact Nat.ne_of_beq_eq_false rfl) p 0).trans ((fU212 470 p 0 rfl).trans (up_k hU6 (by exact Nat.ne_of_beq_eq_false rfl) p 0))))))
                have g289 : U283 470 p 1 = T 470 p 1 := (up_k hU283 (by exact Nat.ne_of_beq_eq_false rfl) p 1).trans ((up_k hU279 (by exact Nat.ne_of_beq_eq_false rfl) p 1).trans ((up_k hU271 (by exact Nat.ne_of_beq_eq_false rfl) p 1).trans ((fU267 470 p 1 rfl).trans ((up_k hU216 (by exact Nat.ne_of_beq_eq_false rfl) p 1).trans ((fU212 470 p 1 rfl).trans (up_k hU6 (by exact Nat.ne_of_beq_eq_false rfl) p 1))))))
                have e290 : U283 103 p 3 = T 103 p 3 := (up_j hU283 (by decide) 103 p).trans ((up_j hU279 (by decide) 103 p).trans ((up_k hU271 (by exact Nat.ne_of_beq_eq_false rfl) p 3).trans ((fU267 103 p 3 rfl).trans ((up_k hU216 (by exact Nat.ne_of_beq_eq_false rfl) p 3).trans ((fU212 103 p 3 rfl).trans (up_k hU6 (by exact Nat.ne_of_beq_eq_false rfl) p 3))))))
                have rU6 : rs9_ U6 p = u2_ (rs9_ T p) 466 s (wr_ ((T 466 p s) + 1)) := rs_u hU6 rfl
                have rU212 : rs9_ U212 p = fy2_ (u2_ (rs9_ T p) 466 s (wr_ ((T 466 p s) + 1))) 466 2 0 := by rw [qU212e, rU6]
                have rU216 : rs9_ U216 p = u2_ (fy2_ (u2_ (rs9_ T p) 466 s (wr_ ((T 466 p s) + 1))) 466 2 0) 467 s (wr_ ((T 467 p s) + 1)) := by rw [rs_u hU216 rfl, rU212]
                have rU267 : rs9_ U267 p = fy2_ (u2_ (fy2_ (u2_ (rs9_ T p) 466 s (wr_ ((T 466 p s) + 1))) 466 2 0) 467 s (wr_ ((T 467 p s) + 1))) 467 2 0 := by rw [qU267e, rU216]
                have rU271 : rs9_ U271 p = u2_ (fy2_ (u2_ (fy2_ (u2_ (rs9_ T p) 466 s (wr_ ((T 466 p s) + 1))) 466 2 0) 467 s (wr_ ((T 467 p s) + 1))) 467 2 0) 468 s (wr_ ((T 468 p s) + 1)) := by rw [rs_u hU271 rfl, rU267]
                have rU279 : rs9_ U279 p = u2_ (u2_ (fy2_ (u2_ (fy2_ (u2_ (rs9_ T p) 466 s (wr_ ((T 466 p s) + 1))) 466 2 0) 467 s (wr_ ((T 467 p s) + 1))) 467 2 0) 468 s (wr_ ((T 468 p s) + 1))) 103 4 (wr_ ((T 103 p 4) + 1)) := by rw [rs_u hU279 rfl, rU271]
                have rU283 : rs9_ U283 p = u2_ (u2_ (u2_ (fy2_ (u2_ (fy2_ (u2_ (rs9_ T p) 466 s (wr_ ((T 466 p s) + 1))) 466 2 0) 467 s (wr_ ((T 467 p s) + 1))) 467 2 0) 468 s (wr_ ((T 468 p s) + 1))) 103 4 (wr_ ((T 103 p 4) + 1))) 103 5 (1 - (T 103 p 5)) := by rw [rs_u hU283 rfl, rU279]
                exact ⟨rfl, fr_u (fr_u (fr_u (fr_t (fr_u (fr_t (fr_u (fr_0 _ _) hU6 rfl) (fr_s fU212 rfl)) hU216 rfl) (fr_s fU267 rfl)) hU271 rfl) hU279 rfl) hU283 rfl, oi_u (oi_u (oi_u (oi_t (oi_u (oi_t (oi_u (oi_r) hU6) qU212o) hU216) qU267o) hU271) hU279) hU283, by exact fun _ => by omega, Eq.trans rU283 (pt9__3 (r := ru) (a := (rs9_ T p)) (k := k) (s := s) (show ¬ (k = 6) by omega) (show T 467 p 0 = ru 11 ∧ T 467 p 1 = ru 11 by omega) (show 7 ≤ wr_ (T 466 p s + 1) ∧ 2 ≤ wr_ (wr_ (T 466 p s + 1) - T 466 p (1 - s)) by omega) (show (ru 11 ≤ wr_ (T 467 p s + 1) ∧ 2 ≤ wr_ (wr_ (T 467 p s + 1) - T 467 p (1 - s))) ∨ ru 11 < wr_ (T 467 p s + 1) by omega) (show ¬ (wr_ (T 468 p s + 1) = 2) by omega)).symm⟩
              · refine bd_i (by omega) ?_
                refine x_nm (fun U291 hU291 => ?_)
                have e292 := up_f hU291
                refine (show po_X3_playTennis_e T p ru k s U291 (none) from ?_)
                have e293 : U291 103 p 3 = 1 := up_f hU291
                have e294 : U291 470 p 0 = T 470 p 0 := (up_k hU291 (by exact Nat.ne_of_beq_eq_false rfl) p 0).trans ((up_k hU271 (by exact Nat.ne_of_beq_eq_false rfl) p 0).trans ((fU267 470 p 0 rfl).trans ((up_k hU216 (by exact Nat.ne_of_beq_eq_false rfl) p 0).trans ((fU212 470 p 0 rfl).trans (up_k hU6 (by exact Nat.ne_of_beq_eq_false rfl) p 0)))))
                have e295 : U291 470 p 1 = T 470 p 1 := (up_k hU291 (by exact Nat.ne_of_beq_eq_false rfl) p 1).trans ((up_k hU271 (by exact Nat.ne_of_beq_eq_false rfl) p 1).trans ((fU267 470 p 1 rfl).trans ((up_k hU216 (by exact Nat.ne_of_beq_eq_false rfl) p 1).trans ((fU212 470 p 1 rfl).trans (up_k hU6 (by exact Nat.ne_of_beq_eq_false rfl) p 1)))))
                have g296 : U291 470 p 0 = T 470 p 0 := (up_k hU291 (by exact Nat.ne_of_beq_eq_false rfl) p 0).trans ((up_k hU271 (by exact Nat.ne_of_beq_eq_false rfl) p 0).trans ((fU267 470 p 0 rfl).trans ((up_k hU216 (by exact Nat.ne_of_beq_eq_false rfl) p 0).trans ((fU212 470 p 0 rfl).trans (up_k hU6 (by exact Nat.ne_of_beq_eq_false rfl) p 0)))))
                have g297 : U291 470 p 1 = T 470 p 1 := (up_k hU291 (by exact Nat.ne_of_beq_eq_false rfl) p 1).trans ((up_k hU271 (by exact Nat.ne_of_beq_eq_false rfl) p 1).trans ((fU267 470 p 1 rfl).trans ((up_k hU216 (by exact Nat.ne_of_beq_eq_false rfl) p 1).trans ((fU212 470 p 1 rfl).trans (up_k hU6 (by exact Nat.ne_of_beq_eq_false rfl) p 1)))))
                have e298 : U291 103 p 3 = 1 := up_f hU291
                have rU6 : rs9_ U6 p = u2_ (rs9_ T p) 466 s (wr_ ((T 466 p s) + 1)) := rs_u hU6 rfl
                have rU212 : rs9_ U212 p = fy2_ (u2_ (rs9_ T p) 466 s (wr_ ((T 466 p s) + 1))) 466 2 0 := by rw [qU212e, rU6]
                have rU216 : rs9_ U216 p = u2_ (fy2_ (u2_ (rs9_ T p) 466 s (wr_ ((T 466 p s) + 1))) 466 2 0) 467 s (wr_ ((T 467 p s) + 1)) := by rw [rs_u hU216 rfl, rU212]
                have rU267 : rs9_ U267 p = fy2_ (u2_ (fy2_ (u2_ (rs9_ T p) 466 s (wr_ ((T 466 p s) + 1))) 466 2 0) 467 s (wr_ ((T 467 p s) + 1))) 467 2 0 := by rw [qU267e, rU216]
                have rU271 : rs9_ U271 p = u2_ (fy2_ (u2_ (fy2_ (u2_ (rs9_ T p) 466 s (wr_ ((T 466 p s) + 1))) 466 2 0) 467 s (wr_ ((T 467 p s) + 1))) 467 2 0) 468 s (wr_ ((T 468 p s) + 1)) := by rw [rs_u hU271 rfl, rU267]
                have rU291 : rs9_ U291 p = u2_ (u2_ (fy2_ (u2_ (fy2_ (u2_ (rs9_ T p) 466 s (wr_ ((T 466 p s) + 1))) 466 2 0) 467 s (wr_ ((T 467 p s) + 1))) 467 2 0) 468 s (wr_ ((T 468 p s) + 1))) 103 3 1 := by rw [rs_u hU291 rfl, rU271]
                exact ⟨rfl, fr_u (fr_u (fr_t (fr_u (fr_t (fr_u (fr_0 _ _) hU6 rfl) (fr_s fU212 rfl)) hU216 rfl) (fr_s fU267 rfl)) hU271 rfl) hU291 rfl, oi_u (oi_u (oi_t (oi_u (oi_t (oi_u (oi_r) hU6) qU212o) hU216) qU267o) hU271) hU291, by exact fun _ => by omega, Eq.trans rU291 (pt9__2 (r := ru) (a := (rs9_ T p)) (k := k) (s := s) (show ¬ (k = 6) by omega) (show T 467 p 0 = ru 11 ∧ T 467 p 1 = ru 11 by omega) (show 7 ≤ wr_ (T 466 p s + 1) ∧ 2 ≤ wr_ (wr_ (T 466 p s + 1) - T 466 p (1 - s)) by omega) (show (ru 11 ≤ wr_ (T 467 p s + 1) ∧ 2 ≤ wr_ (wr_ (T 467 p s + 1) - T 467 p (1 - s))) ∨ ru 11 < wr_ (T 467 p s + 1) by omega) (show wr_ (T 468 p s + 1) = 2 by omega)).symm⟩
        · replace hx210 := hx210.resolve_left (fun z => absurd (c211.symm.trans z.1) (by decide))
          clear c211
          refine (show po_X3_playTennis_e T p ru k s U6 (none) from ?_)
          have e299 : U6 103 p 3 = T 103 p 3 := up_k hU6 (by exact Nat.ne_of_beq_eq_false rfl) p 3
          have e300 : U6 470 p 0 = T 470 p 0 := up_k hU6 (by exact Nat.ne_of_beq_eq_false rfl) p 0
          have e301 : U6 470 p 1 = T 470 p 1 := up_k hU6 (by exact Nat.ne_of_beq_eq_false rfl) p 1
          have g302 : U6 470 p 0 = T 470 p 0 := up_k hU6 (by exact Nat.ne_of_beq_eq_false rfl) p 0
          have g303 : U6 470 p 1 = T 470 p 1 := up_k hU6 (by exact Nat.ne_of_beq_eq_false rfl) p 1
          have e304 : U6 103 p 3 = T 103 p 3 := up_k hU6 (by exact Nat.ne_of_beq_eq_false rfl) p 3
          have rU6 : rs9_ U6 p = u2_ (rs9_ T p) 466 s (wr_ ((T 466 p s) + 1)) := rs_u hU6 rfl
          exact ⟨rfl, fr_u (fr_0 _ _) hU6 rfl, oi_u (oi_r) hU6, by exact fun _ => by omega, Eq.trans rU6 (pt9__5 (r := ru) (a := (rs9_ T p)) (k := k) (s := s) (show ¬ (k = 6) by omega) (show T 467 p 0 = ru 11 ∧ T 467 p 1 = ru 11 by omega) (show ¬ (7 ≤ wr_ (T 466 p s + 1) ∧ 2 ≤ wr_ (wr_ (T 466 p s + 1) - T 466 p (1 - s))) by omega)).symm⟩
  · refine rg_i (by omega) ?_
    refine iy_i (by omega) (by omega) ?_
    refine x_nm (fun U305 hU305 => ?_)
    have e306 := up_f hU305
    refine bd_i (by omega) ?_
    refine x_nm (fun U307 hU307 => ?_)
    have e308 := up_f hU307
    refine (show po_X3_playTennis_e T p ru k s U307 (none) from ?_)
    have e309 : U307 103 p 3 = 1 := up_f hU307
    have e310 : U307 470 p 0 = T 470 p 0 := (up_k hU307 (by exact Nat.ne_of_beq_eq_false rfl) p 0).trans (up_k hU305 (by exact Nat.ne_of_beq_eq_false rfl) p 0)
    have e311 : U307 470 p 1 = T 470 p 1 := (up_k hU307 (by exact Nat.ne_of_beq_eq_false rfl) p 1).trans (up_k hU305 (by exact Nat.ne_of_beq_eq_false rfl) p 1)
    have g312 : U307 470 p 0 = T 470 p 0 := (up_k hU307 (by exact Nat.ne_of_beq_eq_false rfl) p 0).trans (up_k hU305 (by exact Nat.ne_of_beq_eq_false rfl) p 0)
    have g313 : U307 470 p 1 = T 470 p 1 := (up_k hU307 (by exact Nat.ne_of_beq_eq_false rfl) p 1).trans (up_k hU305 (by exact Nat.ne_of_beq_eq_false rfl) p 1)
    have e314 : U307 103 p 3 = 1 := up_f hU307
    have rU305 : rs9_ U305 p = u2_ (rs9_ T p) 468 (1 - s) 2 := rs_u hU305 rfl
    have rU307 : rs9_ U307 p = u2_ (u2_ (rs9_ T p) 468 (1 - s) 2) 103 3 1 := by rw [rs_u hU307 rfl, rU305]
    exact ⟨rfl, fr_u (fr_u (fr_0 _ _) hU305 rfl) hU307 rfl, oi_u (oi_u (oi_r) hU305) hU307, by exact fun _ => by omega, Eq.trans rU307 (pt9__1 (r := ru) (a := (rs9_ T p)) (k := k) (s := s) (show k = 6 by omega)).symm⟩
