theorem bk_X11_review_e_0 : ck_ fX11 (some .int) cX11_review 0 [.iload 1, .aload 0, .tableswitch 0 11 29 #[]] 5 = true := qck_r (nn_ _) (by decide +kernel)
theorem bs_X11_review_e_0 {P : Zt → Option Zv → Prop} (K : Int → Zl → List Zv → Zt → Prop) : sx_ K P [.iload 1, .aload 0, .tableswitch 0 11 29 #[]] 5 = x_iload 1 (x_aload 0 (x_g0 111 29 0 400 (K 5))) := ((xe_iload 1).trans (congrArg (x_iload 1) ((xe_aload 0).trans (congrArg (x_aload 0) ((xe_g0 (kk := 111) rfl tl_11_29).trans (congrArg (x_g0 111 29 0 400) xe_nil))))))
theorem bk_X11_review_e_8 : ck_ fX11 (some .int) cX11_review 8 [.ifCond .eq 24, .iload 2, .aload 0, .tableswitch 0 11 54 #[], .iload 1, .iaload] 18 = true := qck_r (nn_ _) (by decide +kernel)
theorem bs_X11_review_e_8 {P : Zt → Option Zv → Prop} (K : Int → Zl → List Zv → Zt → Prop) : sx_ K P [.ifCond .eq 24, .iload 2, .aload 0, .tableswitch 0 11 54 #[], .iload 1, .iaload] 18 = x_ifCond .eq 24 K (x_iload 2 (x_aload 0 (x_g1 111 254 (x_iload 1 (x_iaload (K 18)))))) := ((xe_ifCond .eq 24).trans (congrArg (x_ifCond .eq 24 K) ((xe_iload 2).trans (congrArg (x_iload 2) ((xe_aload 0).trans (congrArg (x_aload 0) ((xe_g1 (kk := 111) rfl tl_11_54).trans (congrArg (x_g1 111 254) ((xe_iload 1).trans (congrArg (x_iload 1) ((xe_iaload).trans (congrArg (x_iaload) xe_nil))))))))))))
theorem bk_X11_review_e_24 : ck_ fX11 (some .int) cX11_review 24 [.iconst (-2), .ireturn] 27 = true := qck_r (nn_ _) (by decide +kernel)
theorem bs_X11_review_e_24 {P : Zt → Option Zv → Prop} (K : Int → Zl → List Zv → Zt → Prop) : sx_ K P [.iconst (-2), .ireturn] 27 = x_iconst (-2) (x_ireturn P) := ((xe_iconst (-2)).trans (congrArg (x_iconst (-2)) (xe_ireturn)))
theorem bk_X11_review_e_21 : ck_ fX11 (some .int) cX11_review 21 [.ifCond .ne 27, .iconst (-2), .ireturn] 27 = true := qck_r (nn_ _) (by decide +kernel)
theorem bs_X11_review_e_21 {P : Zt → Option Zv → Prop} (K : Int → Zl → List Zv → Zt → Prop) : sx_ K P [.ifCond .ne 27, .iconst (-2), .ireturn] 27 = x_ifCond .ne 27 K (x_iconst (-2) (x_ireturn P)) := ((xe_ifCond .ne 27).trans (congrArg (x_ifCond .ne 27 K) ((xe_iconst (-2)).trans (congrArg (x_iconst (-2)) (xe_ireturn)))))
theorem bk_X11_review_e_27 : ck_ fX11 (some .int) cX11_review 27 [.aload 0, .aload 0, .tableswitch 0 11 30 #[], .iload 1, .iaload, .iconst 0] 35 = true := qck_r (nn_ _) (by decide +kernel)
theorem bs_X11_review_e_27 {P : Zt → Option Zv → Prop} (K : Int → Zl → List Zv → Zt → Prop) : sx_ K P [.aload 0, .aload 0, .tableswitch 0 11 30 #[], .iload 1, .iaload, .iconst 0] 35 = x_aload 0 (x_aload 0 (x_g1 111 230 (x_iload 1 (x_iaload (x_iconst 0 (K 35)))))) := ((xe_aload 0).trans (congrArg (x_aload 0) ((xe_aload 0).trans (congrArg (x_aload 0) ((xe_g1 (kk := 111) rfl tl_11_30).trans (congrArg (x_g1 111 230) ((xe_iload 1).trans (congrArg (x_iload 1) ((xe_iaload).trans (congrArg (x_iaload) ((xe_iconst 0).trans (congrArg (x_iconst 0) xe_nil))))))))))))
theorem bk_X11_review_e_38 : ck_ fX11 (some .int) cX11_review 38 [.istore 7, .aload 0, .aload 0, .tableswitch 0 11 53 #[], .iload 1, .iaload, .iload 2] 48 = true := qck_r (nn_ _) (by decide +kernel)
theorem bs_X11_review_e_38 {P : Zt → Option Zv → Prop} (K : Int → Zl → List Zv → Zt → Prop) : sx_ K P [.istore 7, .aload 0, .aload 0, .tableswitch 0 11 53 #[], .iload 1, .iaload, .iload 2] 48 = x_istore 7 (x_aload 0 (x_aload 0 (x_g1 111 253 (x_iload 1 (x_iaload (x_iload 2 (K 48))))))) := ((xe_istore 7).trans (congrArg (x_istore 7) ((xe_aload 0).trans (congrArg (x_aload 0) ((xe_aload 0).trans (congrArg (x_aload 0) ((xe_g1 (kk := 111) rfl tl_11_53).trans (congrArg (x_g1 111 253) ((xe_iload 1).trans (congrArg (x_iload 1) ((xe_iaload).trans (congrArg (x_iaload) ((xe_iload 2).trans (congrArg (x_iload 2) xe_nil))))))))))))))
theorem bk_X11_review_e_51 : ck_ fX11 (some .int) cX11_review 51 [.istore 8, .iload 3, .iconst (-1), .if_icmp .ne 119, .iload 2, .ifCond .ne 78, .aload 0, .tableswitch 0 11 53 #[], .iload 1, .aload 0, .tableswitch 0 11 52 #[], .iload 8, .iaload, .iastore, .goto 103] 78 = true := qck_r (nn_ _) (by decide +kernel)
theorem bs_X11_review_e_51 {P : Zt → Option Zv → Prop} (K : Int → Zl → List Zv → Zt → Prop) : sx_ K P [.istore 8, .iload 3, .iconst (-1), .if_icmp .ne 119, .iload 2, .ifCond .ne 78, .aload 0, .tableswitch 0 11 53 #[], .iload 1, .aload 0, .tableswitch 0 11 52 #[], .iload 8, .iaload, .iastore, .goto 103] 78 = x_istore 8 (x_iload 3 (x_iconst (-1) (x_if_icmp .ne 119 K (x_iload 2 (x_ifCond .ne 78 K (x_aload 0 (x_g1 111 253 (x_iload 1 (x_aload 0 (x_g1 111 252 (x_iload 8 (x_iaload (x_iastore (x_goto 103 K)))))))))))))) := ((xe_istore 8).trans (congrArg (x_istore 8) ((xe_iload 3).trans (congrArg (x_iload 3) ((xe_iconst (-1)).trans (congrArg (x_iconst (-1)) ((xe_if_icmp .ne 119).trans (congrArg (x_if_icmp .ne 119 K) ((xe_iload 2).trans (congrArg (x_iload 2) ((xe_ifCond .ne 78).trans (congrArg (x_ifCond .ne 78 K) ((xe_aload 0).trans (congrArg (x_aload 0) ((xe_g1 (kk := 111) rfl tl_11_53).trans (congrArg (x_g1 111 253) ((xe_iload 1).trans (congrArg (x_iload 1) ((xe_aload 0).trans (congrArg (x_aload 0) ((xe_g1 (kk := 111) rfl tl_11_52).trans (congrArg (x_g1 111 252) ((xe_iload 8).trans (congrArg (x_iload 8) ((xe_iaload).trans (congrArg (x_iaload) ((xe_iastore).trans (congrArg (x_iastore) (xe_goto 103)))))))))))))))))))))))))))))
theorem bk_X11_review_e_119 : ck_ fX11 (some .int) cX11_review 119 [.aload 0, .iload 7, .iload 3, .iload 4] 125 = true := qck_r (nn_ _) (by decide +kernel)
theorem bs_X11_review_e_119 {P : Zt → Option Zv → Prop} (K : Int → Zl → List Zv → Zt → Prop) : sx_ K P [.aload 0, .iload 7, .iload 3, .iload 4] 125 = x_aload 0 (x_iload 7 (x_iload 3 (x_iload 4 (K 125)))) := ((xe_aload 0).trans (congrArg (x_aload 0) ((xe_iload 7).trans (congrArg (x_iload 7) ((xe_iload 3).trans (congrArg (x_iload 3) ((xe_iload 4).trans (congrArg (x_iload 4) xe_nil))))))))
theorem bk_X11_review_e_128 : ck_ fX11 (some .int) cX11_review 128 [.ifCond .ne 134, .iconst (-12), .ireturn] 134 = true := qck_r (nn_ _) (by decide +kernel)
theorem bs_X11_review_e_128 {P : Zt → Option Zv → Prop} (K : Int → Zl → List Zv → Zt → Prop) : sx_ K P [.ifCond .ne 134, .iconst (-12), .ireturn] 134 = x_ifCond .ne 134 K (x_iconst (-12) (x_ireturn P)) := ((xe_ifCond .ne 134).trans (congrArg (x_ifCond .ne 134 K) ((xe_iconst (-12)).trans (congrArg (x_iconst (-12)) (xe_ireturn)))))
theorem bk_X11_review_e_134 : ck_ fX11 (some .int) cX11_review 134 [.iload 7, .iload 3, .iload 6] 139 = true := qck_r (nn_ _) (by decide +kernel)
theorem bs_X11_review_e_134 {P : Zt → Option Zv → Prop} (K : Int → Zl → List Zv → Zt → Prop) : sx_ K P [.iload 7, .iload 3, .iload 6] 139 = x_iload 7 (x_iload 3 (x_iload 6 (K 139))) := ((xe_iload 7).trans (congrArg (x_iload 7) ((xe_iload 3).trans (congrArg (x_iload 3) ((xe_iload 6).trans (congrArg (x_iload 6) xe_nil))))))
theorem bk_X11_review_e_142 : ck_ fX11 (some .int) cX11_review 142 [.ifCond .ne 148, .iconst (-17), .ireturn] 148 = true := qck_r (nn_ _) (by decide +kernel)
theorem bs_X11_review_e_142 {P : Zt → Option Zv → Prop} (K : Int → Zl → List Zv → Zt → Prop) : sx_ K P [.ifCond .ne 148, .iconst (-17), .ireturn] 148 = x_ifCond .ne 148 K (x_iconst (-17) (x_ireturn P)) := ((xe_ifCond .ne 148).trans (congrArg (x_ifCond .ne 148 K) ((xe_iconst (-17)).trans (congrArg (x_iconst (-17)) (xe_ireturn)))))
theorem bk_X11_review_e_148 : ck_ fX11 (some .int) cX11_review 148 [.aload 0, .tableswitch 0 11 48 #[], .iload 8, .iaload, .iload 3, .if_icmp .ne 198, .aload 0, .tableswitch 0 11 49 #[], .iload 8, .iaload, .iload 4, .if_icmp .ne 198, .aload 0, .tableswitch 0 11 50 #[], .iload 8, .iaload, .iload 5, .if_icmp .ne 198, .aload 0, .tableswitch 0 11 51 #[], .iload 8, .iaload, .iload 6, .if_icmp .ne 198, .iconst (-20), .ireturn] 198 = true := qck_r (nn_ _) (by decide +kernel)
theorem bs_X11_review_e_148 {P : Zt → Option Zv → Prop} (K : Int → Zl → List Zv → Zt → Prop) : sx_ K P [.aload 0, .tableswitch 0 11 48 #[], .iload 8, .iaload, .iload 3, .if_icmp .ne 198, .aload 0, .tableswitch 0 11 49 #[], .iload 8, .iaload, .iload 4, .if_icmp .ne 198, .aload 0, .tableswitch 0 11 50 #[], .iload 8, .iaload, .iload 5, .if_icmp .ne 198, .aload 0, .tableswitch 0 11 51 #[], .iload 8, .iaload, .iload 6, .if_icmp .ne 198, .iconst (-20), .ireturn] 198 = x_aload 0 (x_g1 111 248 (x_iload 8 (x_iaload (x_iload 3 (x_if_icmp .ne 198 K (x_aload 0 (x_g1 111 249 (x_iload 8 (x_iaload (x_iload 4 (x_if_icmp .ne 198 K (x_aload 0 (x_g1 111 250 (x_iload 8 (x_iaload (x_iload 5 (x_if_icmp .ne 198 K (x_aload 0 (x_g1 111 251 (x_iload 8 (x_iaload (x_iload 6 (x_if_icmp .ne 198 K (x_iconst (-20) (x_ireturn P))))))))))))))))))))))))) := ((xe_aload 0).trans (congrArg (x_aload 0) ((xe_g1 (kk := 111) rfl tl_11_48).trans (congrArg (x_g1 111 248) ((xe_iload 8).trans (congrArg (x_iload 8) ((xe_iaload).trans (congrArg (x_iaload) ((xe_iload 3).trans (congrArg (x_iload 3) ((xe_if_icmp .ne 198).trans (congrArg (x_if_icmp .ne 198 K) ((xe_aload 0).trans (congrArg (x_aload 0) ((xe_g1 (kk := 111) rfl tl_11_49).trans (congrArg (x_g1 111 249) ((xe_iload 8).trans (congrArg (x_iload 8) ((xe_iaload).trans (congrArg (x_iaload) ((xe_iload 4).trans (congrArg (x_iload 4) ((xe_if_icmp .ne 198).trans (congrArg (x_if_icmp .ne 198 K) ((xe_aload 0).trans (congrArg (x_aload 0) ((xe_g1 (kk := 111) rfl tl_11_50).trans (congrArg (x_g1 111 250) ((xe_iload 8).trans (congrArg (x_iload 8) ((xe_iaload).trans (congrArg (x_iaload) ((xe_iload 5).trans (congrArg (x_iload 5) ((xe_if_icmp .ne 198).trans (congrArg (x_if_icmp .ne 198 K) ((xe_aload 0).trans (congrArg (x_aload 0) ((xe_g1 (kk := 111) rfl tl_11_51).trans (congrArg (x_g1 111 251) ((xe_iload 8).trans (congrArg (x_iload 8) ((xe_iaload).trans (congrArg (x_iaload) ((xe_iload 6).trans (congrArg (x_iload 6) ((xe_if_icmp .ne 198).trans (congrArg (x_if_icmp .ne 198 K) ((xe_iconst (-20)).trans (congrArg (x_iconst (-20)) (xe_ireturn)))))))))))))))))))))))))))))))))))))))))))))))))))
theorem bk_X11_review_e_198 : ck_ fX11 (some .int) cX11_review 198 [.aload 0, .tableswitch 0 11 48 #[], .iload 8, .iload 3, .iastore, .aload 0, .tableswitch 0 11 49 #[], .iload 8, .iload 4, .iastore, .aload 0, .tableswitch 0 11 50 #[], .iload 8, .iload 5, .iastore, .aload 0, .tableswitch 0 11 51 #[], .iload 8, .iload 6, .iastore, .aload 0, .iload 1] 235 = true := qck_r (nn_ _) (by decide +kernel)
theorem bs_X11_review_e_198 {P : Zt → Option Zv → Prop} (K : Int → Zl → List Zv → Zt → Prop) : sx_ K P [.aload 0, .tableswitch 0 11 48 #[], .iload 8, .iload 3, .iastore, .aload 0, .tableswitch 0 11 49 #[], .iload 8, .iload 4, .iastore, .aload 0, .tableswitch 0 11 50 #[], .iload 8, .iload 5, .iastore, .aload 0, .tableswitch 0 11 51 #[], .iload 8, .iload 6, .iastore, .aload 0, .iload 1] 235 = x_aload 0 (x_g1 111 248 (x_iload 8 (x_iload 3 (x_iastore (x_aload 0 (x_g1 111 249 (x_iload 8 (x_iload 4 (x_iastore (x_aload 0 (x_g1 111 250 (x_iload 8 (x_iload 5 (x_iastore (x_aload 0 (x_g1 111 251 (x_iload 8 (x_iload 6 (x_iastore (x_aload 0 (x_iload 1 (K 235)))))))))))))))))))))) := ((xe_aload 0).trans (congrArg (x_aload 0) ((xe_g1 (kk := 111) rfl tl_11_48).trans (congrArg (x_g1 111 248) ((xe_iload 8).trans (congrArg (x_iload 8) ((xe_iload 3).trans (congrArg (x_iload 3) ((xe_iastore).trans (congrArg (x_iastore) ((xe_aload 0).trans (congrArg (x_aload 0) ((xe_g1 (kk := 111) rfl tl_11_49).trans (congrArg (x_g1 111 249) ((xe_iload 8).trans (congrArg (x_iload 8) ((xe_iload 4).trans (congrArg (x_iload 4) ((xe_iastore).trans (congrArg (x_iastore) ((xe_aload 0).trans (congrArg (x_aload 0) ((xe_g1 (kk := 111) rfl tl_11_50).trans (congrArg (x_g1 111 250) ((xe_iload 8).trans (congrArg (x_iload 8) ((xe_iload 5).trans (congrArg (x_iload 5) ((xe_iastore).trans (congrArg (x_iastore) ((xe_aload 0).trans (congrArg (x_aload 0) ((xe_g1 (kk := 111) rfl tl_11_51).trans (congrArg (x_g1 111 251) ((xe_iload 8).trans (congrArg (x_iload 8) ((xe_iload 6).trans (congrArg (x_iload 6) ((xe_iastore).trans (congrArg (x_iastore) ((xe_aload 0).trans (congrArg (x_aload 0) ((xe_iload 1).trans (congrArg (x_iload 1) xe_nil))))))))))))))))))))))))))))))))))))))))))))
theorem bk_X11_review_e_238 : ck_ fX11 (some .int) cX11_review 238 [.ireturn] 239 = true := qck_r (nn_ _) (by decide +kernel)
theorem bs_X11_review_e_238 {P : Zt → Option Zv → Prop} (K : Int → Zl → List Zv → Zt → Prop) : sx_ K P [.ireturn] 239 = x_ireturn P := (xe_ireturn)
theorem bk_X11_review_e_78 : ck_ fX11 (some .int) cX11_review 78 [.aload 0, .tableswitch 0 11 52 #[], .aload 0, .aload 0, .tableswitch 0 11 53 #[], .iload 1, .iaload, .iload 2, .iconst 1, .isub] 92 = true := qck_r (nn_ _) (by decide +kernel)
theorem bs_X11_review_e_78 {P : Zt → Option Zv → Prop} (K : Int → Zl → List Zv → Zt → Prop) : sx_ K P [.aload 0, .tableswitch 0 11 52 #[], .aload 0, .aload 0, .tableswitch 0 11 53 #[], .iload 1, .iaload, .iload 2, .iconst 1, .isub] 92 = x_aload 0 (x_g1 111 252 (x_aload 0 (x_aload 0 (x_g1 111 253 (x_iload 1 (x_iaload (x_iload 2 (x_iconst 1 (x_isub (K 92)))))))))) := ((xe_aload 0).trans (congrArg (x_aload 0) ((xe_g1 (kk := 111) rfl tl_11_52).trans (congrArg (x_g1 111 252) ((xe_aload 0).trans (congrArg (x_aload 0) ((xe_aload 0).trans (congrArg (x_aload 0) ((xe_g1 (kk := 111) rfl tl_11_53).trans (congrArg (x_g1 111 253) ((xe_iload 1).trans (congrArg (x_iload 1) ((xe_iaload).trans (congrArg (x_iaload) ((xe_iload 2).trans (congrArg (x_iload 2) ((xe_iconst 1).trans (congrArg (x_iconst 1) ((xe_isub).trans (congrArg (x_isub) xe_nil))))))))))))))))))))
theorem bk_X11_review_e_95 : ck_ fX11 (some .int) cX11_review 95 [.aload 0, .tableswitch 0 11 52 #[], .iload 8, .iaload, .iastore, .aload 0, .tableswitch 0 11 54 #[], .iload 1, .dup2, .iaload, .iconst 1, .isub, .iastore, .aload 0, .iload 1] 115 = true := qck_r (nn_ _) (by decide +kernel)
theorem bs_X11_review_e_95 {P : Zt → Option Zv → Prop} (K : Int → Zl → List Zv → Zt → Prop) : sx_ K P [.aload 0, .tableswitch 0 11 52 #[], .iload 8, .iaload, .iastore, .aload 0, .tableswitch 0 11 54 #[], .iload 1, .dup2, .iaload, .iconst 1, .isub, .iastore, .aload 0, .iload 1] 115 = x_aload 0 (x_g1 111 252 (x_iload 8 (x_iaload (x_iastore (x_aload 0 (x_g1 111 254 (x_iload 1 (x_dup2 (x_iaload (x_iconst 1 (x_isub (x_iastore (x_aload 0 (x_iload 1 (K 115))))))))))))))) := ((xe_aload 0).trans (congrArg (x_aload 0) ((xe_g1 (kk := 111) rfl tl_11_52).trans (congrArg (x_g1 111 252) ((xe_iload 8).trans (congrArg (x_iload 8) ((xe_iaload).trans (congrArg (x_iaload) ((xe_iastore).trans (congrArg (x_iastore) ((xe_aload 0).trans (congrArg (x_aload 0) ((xe_g1 (kk := 111) rfl tl_11_54).trans (congrArg (x_g1 111 254) ((xe_iload 1).trans (congrArg (x_iload 1) ((xe_dup2).trans (congrArg (x_dup2) ((xe_iaload).trans (congrArg (x_iaload) ((xe_iconst 1).trans (congrArg (x_iconst 1) ((xe_isub).trans (congrArg (x_isub) ((xe_iastore).trans (congrArg (x_iastore) ((xe_aload 0).trans (congrArg (x_aload 0) ((xe_iload 1).trans (congrArg (x_iload 1) xe_nil))))))))))))))))))))))))))))))
theorem bk_X11_review_e_118 : ck_ fX11 (some .int) cX11_review 118 [.ireturn] 119 = true := qck_r (nn_ _) (by decide +kernel)
theorem bs_X11_review_e_118 {P : Zt → Option Zv → Prop} (K : Int → Zl → List Zv → Zt → Prop) : sx_ K P [.ireturn] 119 = x_ireturn P := (xe_ireturn)
theorem bk_X11_review_e_103 : ck_ fX11 (some .int) cX11_review 103 [.aload 0, .tableswitch 0 11 54 #[], .iload 1, .dup2, .iaload, .iconst 1, .isub, .iastore, .aload 0, .iload 1] 115 = true := qck_r (nn_ _) (by decide +kernel)
theorem bs_X11_review_e_103 {P : Zt → Option Zv → Prop} (K : Int → Zl → List Zv → Zt → Prop) : sx_ K P [.aload 0, .tableswitch 0 11 54 #[], .iload 1, .dup2, .iaload, .iconst 1, .isub, .iastore, .aload 0, .iload 1] 115 = x_aload 0 (x_g1 111 254 (x_iload 1 (x_dup2 (x_iaload (x_iconst 1 (x_isub (x_iastore (x_aload 0 (x_iload 1 (K 115)))))))))) := ((xe_aload 0).trans (congrArg (x_aload 0) ((xe_g1 (kk := 111) rfl tl_11_54).trans (congrArg (x_g1 111 254) ((xe_iload 1).trans (congrArg (x_iload 1) ((xe_dup2).trans (congrArg (x_dup2) ((xe_iaload).trans (congrArg (x_iaload) ((xe_iconst 1).trans (congrArg (x_iconst 1) ((xe_isub).trans (congrArg (x_isub) ((xe_iastore).trans (congrArg (x_iastore) ((xe_aload 0).trans (congrArg (x_aload 0) ((xe_iload 1).trans (congrArg (x_iload 1) xe_nil))))))))))))))))))))
abbrev po_X11_review_e (T : Zt) (ru : Int → Int) (m i k s p q : Int) : Zt → Option Zv → Prop := fun T' r => ∃ x : Int, r = some (vI x) ∧ fr_ [(252, []), (253, []), (255, []), (254, []), (256, []), (244, []), (241, []), (242, []), (243, []), (245, []), (246, []), (236, []), (237, []), (235, []), (248, []), (249, []), (250, []), (251, [])] T T' ∧ (FM_ T' ∧ RX_ T' [] ∧ ZS_ T' ∧ GX_ T' (-1) ∧ (∀ j, j ≠ m ∨ T 111 0 29 ≤ j → T' 254 0 j = T 254 0 j ∧ T' 256 0 j = T 256 0 j) ∧ ((x = -2 ∧ ¬ ((0 ≤ m ∧ m < T 111 0 29) ∧ 0 ≤ i ∧ i < T 254 0 m) ∧ T = T') ∨ (((0 ≤ m ∧ m < T 111 0 29) ∧ 0 ≤ i ∧ i < T 254 0 m) ∧ OMR_ T T' m ∧ ((k = -1 ∧ RNR_ ru m x T T' ((rw9_ T m).eraseIdx i.toNat)) ∨ (k ≠ -1 ∧ ((¬ (((ru 0 = 0 ∧ 0 ≤ k ∧ k ≤ 5) ∨ (ru 0 = 1 ∧ (k = 1 ∨ k = 5)) ∨ (ru 0 = 2 ∧ (k = 1 ∨ k = 6)) ∨ (¬ ru 0 = 0 ∧ ¬ ru 0 = 1 ∧ ¬ ru 0 = 2 ∧ 1 ≤ k ∧ k ≤ 4)) ∧ ((ru 0 = 0 ∧ k = 0) ∨ (0 ≤ s ∧ s ≤ 1))) ∧ x = -12 ∧ T = T') ∨ ((((ru 0 = 0 ∧ 0 ≤ k ∧ k ≤ 5) ∨ (ru 0 = 1 ∧ (k = 1 ∨ k = 5)) ∨ (ru 0 = 2 ∧ (k = 1 ∨ k = 6)) ∨ (¬ ru 0 = 0 ∧ ¬ ru 0 = 1 ∧ ¬ ru 0 = 2 ∧ 1 ≤ k ∧ k ≤ 4)) ∧ ((ru 0 = 0 ∧ k = 0) ∨ (0 ≤ s ∧ s ≤ 1))) ∧ ¬ (ru 0 ≠ 3 ∨ k ≠ 1 ∨ (1 ≤ q ∧ q ≤ 4)) ∧ x = -17 ∧ T = T') ∨ ((((ru 0 = 0 ∧ 0 ≤ k ∧ k ≤ 5) ∨ (ru 0 = 1 ∧ (k = 1 ∨ k = 5)) ∨ (ru 0 = 2 ∧ (k = 1 ∨ k = 6)) ∨ (¬ ru 0 = 0 ∧ ¬ ru 0 = 1 ∧ ¬ ru 0 = 2 ∧ 1 ≤ k ∧ k ≤ 4)) ∧ ((ru 0 = 0 ∧ k = 0) ∨ (0 ≤ s ∧ s ≤ 1))) ∧ (ru 0 ≠ 3 ∨ k ≠ 1 ∨ (1 ≤ q ∧ q ≤ 4)) ∧ (rw9_ T m)[i.toNat]? = some (k, s, p, q) ∧ x = -20 ∧ T = T') ∨ ((((ru 0 = 0 ∧ 0 ≤ k ∧ k ≤ 5) ∨ (ru 0 = 1 ∧ (k = 1 ∨ k = 5)) ∨ (ru 0 = 2 ∧ (k = 1 ∨ k = 6)) ∨ (¬ ru 0 = 0 ∧ ¬ ru 0 = 1 ∧ ¬ ru 0 = 2 ∧ 1 ≤ k ∧ k ≤ 4)) ∧ ((ru 0 = 0 ∧ k = 0) ∨ (0 ≤ s ∧ s ≤ 1))) ∧ (ru 0 ≠ 3 ∨ k ≠ 1 ∨ (1 ≤ q ∧ q ≤ 4)) ∧ ¬ ((rw9_ T m)[i.toNat]? = some (k, s, p, q)) ∧ RNR_ ru m x T T' ((rw9_ T m).set i.toNat (k, s, p, q)))))))))
set_option maxHeartbeats 4000000 in
theorem ct_X11_review_e {T : Zt} {ru : Int → Int} {m i k s p q : Int} (hmc : MC_ T) (hri : RI_ T) (hfm : FM_ T) (hrx : RX_ T []) (hzs : ZS_ T) (hgs : GX_ T (-1)) (hrl : RLR_ T m ru) : Ct_ yX11_review zX11_review T [vR 111 0, vI m, vI i, vI k, vI s, vI p, vI q] (po_X11_review_e T ru m i k s p q) := by
  refine ct_of pn_11 rfl rfl (Nat.le_of_ble_eq_true rfl) (fun hT hav => ?_)
  have hr_m : -2147483648 ≤ m ∧ m ≤ 2147483647 := hav (vI m) (List.mem_cons_of_mem _ List.mem_cons_self)
  have hr_i : -2147483648 ≤ i ∧ i ≤ 2147483647 := hav (vI i) (List.mem_cons_of_mem _ (List.mem_cons_of_mem _ List.mem_cons_self))
  have hr_k : -2147483648 ≤ k ∧ k ≤ 2147483647 := hav (vI k) (List.mem_cons_of_mem _ (List.mem_cons_of_mem _ (List.mem_cons_of_mem _ List.mem_cons_self)))
  have hr_s : -2147483648 ≤ s ∧ s ≤ 2147483647 := hav (vI s) (List.mem_cons_of_mem _ (List.mem_cons_of_mem _ (List.mem_cons_of_mem _ (List.mem_cons_of_mem _ List.mem_cons_self))))
  have hr_p : -2147483648 ≤ p ∧ p ≤ 2147483647 := hav (vI p) (List.mem_cons_of_mem _ (List.mem_cons_of_mem _ (List.mem_cons_of_mem _ (List.mem_cons_of_mem _ (List.mem_cons_of_mem _ List.mem_cons_self)))))
  have hr_q : -2147483648 ≤ q ∧ q ≤ 2147483647 := hav (vI q) (List.mem_cons_of_mem _ (List.mem_cons_of_mem _ (List.mem_cons_of_mem _ (List.mem_cons_of_mem _ (List.mem_cons_of_mem _ (List.mem_cons_of_mem _ List.mem_cons_self))))))
  have hz : zX11_review.2.2.2.1 = some .boolean → ∀ (T' : Zt) (x : Int), po_X11_review_e T ru m i k s p q T' (some (vI x)) → 0 ≤ x ∧ x ≤ 1 := fun h => by cases h
  have hb_29 : 0 ≤ T 111 0 29 ∧ T 111 0 29 ≤ 400 := bd_f hT 111 29 tl_11_29 0
  have hb_6 : 0 ≤ T 111 0 6 ∧ T 111 0 6 ≤ 4 := bd_f hT 111 6 tl_11_6 0
  show J_ zX11_review T (po_X11_review_e T ru m i k s p q) 0 0 0 [some (vR 111 0), some (vI m), some (vI i), some (vI k), some (vI s), some (vI p), some (vI q), none, none] [] T
  refine j_blx (F := fX11) tb_X11 (nn_ _) bk_X11_review_e_0 bs_X11_review_e_0 hz (fun K hK => ?_)
  intro b1 b1b
  refine hK 5 _ [vI (T 111 0 29), vI m] T ?_
  refine j_callS (y := yX11_isOf) (Yc := zX11_isOf) (rest := []) [vI m, vI (T 111 0 29)] (ct_X11_isOf (T := T) (by omega)) cl_X11_317 (qd_c (by decide +kernel)) (nn_ _) rfl (rf_of rfl) (Nat.le_of_ble_eq_true rfl) (Nat.le_of_ble_eq_true rfl) (Nat.le_of_ble_eq_true rfl) rfl ?_
  rintro _ _ ⟨rfl, x2, rfl, hx2⟩
  show J_ zX11_review T (po_X11_review_e T ru m i k s p q) 0 0 8 _ [vI x2] T
  refine j_blx (F := fX11) tb_X11 (nn_ _) bk_X11_review_e_8 bs_X11_review_e_8 hz (fun K hK => ?_)
  refine And.intro (fun c3 => ?_) (fun c3 => ?_)
  · replace hx2 := hx2.resolve_left (fun z => absurd (c3.symm.trans z.1) (by decide))
    clear c3
    refine hK 24 _ [] T ?_
    refine j_blx (F := fX11) tb_X11 (nn_ _) bk_X11_review_e_24 bs_X11_review_e_24 hz (fun K hK => ?_)
    refine (show po_X11_review_e T ru m i k s p q T (some (vI (-2))) from ?_)
    exact ⟨_, rfl, fr_0 _ _, hfm, hrx, hzs, hgs, fun _ _ => ⟨rfl, rfl⟩, Or.inl ⟨rfl, by omega, rfl⟩⟩
  · have im9 := (hx2.resolve_right (fun z => c3 z.1)).2
    clear hx2 c3
    refine ix_i (by omega) ?_
    intro b4 b4b
    refine hK 18 _ [vI (T 254 0 m), vI i] T ?_
    refine j_callS (y := yX11_isOf) (Yc := zX11_isOf) (rest := []) [vI i, vI (T 254 0 m)] (ct_X11_isOf (T := T) (by omega)) cl_X11_317 (qd_c (by decide +kernel)) (nn_ _) rfl (rf_of rfl) (Nat.le_of_ble_eq_true rfl) (Nat.le_of_ble_eq_true rfl) (Nat.le_of_ble_eq_true rfl) rfl ?_
    rintro _ _ ⟨rfl, x5, rfl, hx5⟩
    show J_ zX11_review T (po_X11_review_e T ru m i k s p q) 0 0 21 _ [vI x5] T
    refine j_blx (F := fX11) tb_X11 (nn_ _) bk_X11_review_e_21 bs_X11_review_e_21 hz (fun K hK => ?_)
    refine And.intro (fun c6 => ?_) (fun c6 => ?_)
    · have ib9 := (hx5.resolve_right (fun z => c6 z.1)).2
      clear hx5 c6
      refine hK 27 _ [] T ?_
      have hry := hrx
      obtain ⟨L, hB, hR⟩ := hry
      have hl : lk_ T (T 253 0 m) (L m 0) ∧ T 254 0 m = ((L m 0).length : Int) := hB.1 m 0 (by omega) (by omega) (by decide) (by decide)
      have hru0 := hrl 0 (by decide) (by decide)
      have rwT := rw_l hB (m := m) (by omega) (by omega)
      refine j_blx (F := fX11) tb_X11 (nn_ _) bk_X11_review_e_27 bs_X11_review_e_27 hz (fun K hK => ?_)
      refine ix_i (by omega) ?_
      intro b7 b7b
      refine hK 35 _ [vI 0, vI (T 230 0 m), vR 111 0] T ?_
      refine j_callV (y := yX11_rule0) (Yc := zX11_rule0) (rest := []) [vI (T 230 0 m), vI 0] (ct_X11_rule0 (T := T) (by omega) (by omega)) cl_X11_321 (qd_c (by decide +kernel)) (nn_ _) rfl (rf_of rfl) (Nat.le_of_ble_eq_true rfl) (Nat.le_of_ble_eq_true rfl) (Nat.le_of_ble_eq_true rfl) rfl ?_
      rintro _ _ ⟨rfl, rfl⟩
      show J_ zX11_review T (po_X11_review_e T ru m i k s p q) 0 0 38 _ [vI (T 205 0 (23 * (T 230 0 m) + 0))] T
      refine j_blx (F := fX11) tb_X11 (nn_ _) bk_X11_review_e_38 bs_X11_review_e_38 hz (fun K hK => ?_)
      refine ix_i (by omega) ?_
      intro b8 b8b
      refine hK 48 [some (vR 111 0), some (vI m), some (vI i), some (vI k), some (vI s), some (vI p), some (vI q), some (vI (T 205 0 (23 * (T 230 0 m) + 0))), none] [vI i, vI (T 253 0 m), vR 111 0] T ?_
      refine j_callV (y := yX11_rowAt) (Yc := zX11_rowAt) (rest := []) [vI (T 253 0 m), vI i] (ct_X11_rowAt (T := T) (l := L m 0) (by exact hl.1) (by omega)) cl_X11_456 (qd_c (by decide +kernel)) (nn_ _) rfl (rf_of rfl) (Nat.le_of_ble_eq_true rfl) (Nat.le_of_ble_eq_true rfl) (Nat.le_of_ble_eq_true rfl) rfl ?_
      rintro _ _ ⟨rfl, x9, rfl, hx9⟩
      show J_ zX11_review T (po_X11_review_e T ru m i k s p q) 0 0 51 _ [vI x9] T
      have rwi : (rw9_ T m)[i.toNat]? = some (rwc_ T x9) := by rw [rwT, List.getElem?_map, hx9.1]; rfl
      refine j_blx (F := fX11) tb_X11 (nn_ _) bk_X11_review_e_51 bs_X11_review_e_51 hz (fun K hK => ?_)
      refine And.intro (fun c10 => ?_) (fun c10 => ?_)
      · refine hK 119 [some (vR 111 0), some (vI m), some (vI i), some (vI k), some (vI s), some (vI p), some (vI q), some (vI (T 205 0 (23 * (T 230 0 m) + 0))), some (vI x9)] [] T ?_
        refine j_blx (F := fX11) tb_X11 (nn_ _) bk_X11_review_e_119 bs_X11_review_e_119 hz (fun K hK => ?_)
        refine hK 125 _ [vI s, vI k, vI (T 205 0 (23 * (T 230 0 m) + 0)), vR 111 0] T ?_
        refine j_callV (y := yX11_isTold) (Yc := zX11_isTold) (rest := []) [vI (T 205 0 (23 * (T 230 0 m) + 0)), vI k, vI s] (ct_X11_isTold_e (T := T)) cl_X11_397 (qd_c (by decide +kernel)) (nn_ _) rfl (rf_of rfl) (Nat.le_of_ble_eq_true rfl) (Nat.le_of_ble_eq_true rfl) (Nat.le_of_ble_eq_true rfl) rfl ?_
        rintro _ _ ⟨rfl, x11, rfl, hx11⟩
        show J_ zX11_review T (po_X11_review_e T ru m i k s p q) 0 0 128 _ [vI x11] T
        refine j_blx (F := fX11) tb_X11 (nn_ _) bk_X11_review_e_128 bs_X11_review_e_128 hz (fun K hK => ?_)
        refine And.intro (fun c12 => ?_) (fun c12 => ?_)
        · have tl9 := fun (_ : Unit) => (hx11.resolve_right (fun z => c12 z.1)).2
          rw [hru0] at tl9
          clear hx11
          refine hK 134 _ [] T ?_
          refine j_blx (F := fX11) tb_X11 (nn_ _) bk_X11_review_e_134 bs_X11_review_e_134 hz (fun K hK => ?_)
          refine hK 139 _ [vI q, vI k, vI (T 205 0 (23 * (T 230 0 m) + 0))] T ?_
          refine j_callS (y := yX11_isBounded) (Yc := zX11_isBounded) (rest := []) [vI (T 205 0 (23 * (T 230 0 m) + 0)), vI k, vI q] (ct_X11_isBounded_e (T := T)) cl_X11_407 (qd_c (by decide +kernel)) (nn_ _) rfl (rf_of rfl) (Nat.le_of_ble_eq_true rfl) (Nat.le_of_ble_eq_true rfl) (Nat.le_of_ble_eq_true rfl) rfl ?_
          rintro _ _ ⟨rfl, x13, rfl, hx13⟩
          show J_ zX11_review T (po_X11_review_e T ru m i k s p q) 0 0 142 _ [vI x13] T
          refine j_blx (F := fX11) tb_X11 (nn_ _) bk_X11_review_e_142 bs_X11_review_e_142 hz (fun K hK => ?_)
          refine And.intro (fun c14 => ?_) (fun c14 => ?_)
          · have bd9 := fun (_ : Unit) => (hx13.resolve_right (fun z => c14 z.1)).2
            rw [hru0] at bd9
            clear hx13
            refine hK 148 _ [] T ?_
            refine j_blx (F := fX11) tb_X11 (nn_ _) bk_X11_review_e_148 bs_X11_review_e_148 hz (fun K hK => ?_)
            refine ix_i (by omega) ?_
            intro b15 b15b
            refine And.intro (fun c16 => ?_) (fun c16 => ?_)
            · refine hK 198 _ [] T ?_
              refine j_blx (F := fX11) tb_X11 (nn_ _) bk_X11_review_e_198 bs_X11_review_e_198 hz (fun K hK => ?_)
              refine iy_i (by omega) (by omega) ?_
              refine x_nm (fun U17 hU17 => ?_)
              have e18 := up_f hU17
              refine iy_i (by omega) (by omega) ?_
              refine x_nm (fun U19 hU19 => ?_)
              have e20 := up_f hU19
              refine iy_i (by omega) (by omega) ?_
              refine x_nm (fun U21 hU21 => ?_)
              have e22 := up_f hU21
              refine iy_i (by omega) (by omega) ?_
              refine x_nm (fun U23 hU23 => ?_)
              have e24 := up_f hU23
              refine hK 235 _ [vI m, vR 111 0] U23 ?_
              have e25 : U23 111 0 29 = T 111 0 29 := (up_k hU23 (by exact Nat.ne_of_beq_eq_false rfl) 0 29).trans ((up_k hU21 (by exact Nat.ne_of_beq_eq_false rfl) 0 29).trans ((up_k hU19 (by exact Nat.ne_of_beq_eq_false rfl) 0 29).trans (up_k hU17 (by exact Nat.ne_of_beq_eq_false rfl) 0 29)))
              have fz : fr_ [(251, []), (250, []), (249, []), (248, [])] T U23 := fr_u (fr_u (fr_u (fr_u (fr_0 _ _) hU17 rfl) hU19 rfl) hU21 rfl) hU23 rfl
              have rbz : RB_ U23 L := rb_f hB (fz 111 0 29 rfl) (fz 111 0 47 rfl) (fun k j h => fz k 0 j (by rcases h with rfl | rfl | rfl | rfl | rfl <;> rfl))
              have rcx : rwc_ U23 x9 = (k, s, p, q) := by
                unfold rwc_
                rw [show U23 248 0 x9 = k from ((up_k hU23 (by exact Nat.ne_of_beq_eq_false rfl) 0 x9).trans ((up_k hU21 (by exact Nat.ne_of_beq_eq_false rfl) 0 x9).trans (up_k hU19 (by exact Nat.ne_of_beq_eq_false rfl) 0 x9))).trans (up_f hU17), show U23 249 0 x9 = s from ((up_k hU23 (by exact Nat.ne_of_beq_eq_false rfl) 0 x9).trans (up_k hU21 (by exact Nat.ne_of_beq_eq_false rfl) 0 x9)).trans (up_f hU19), show U23 250 0 x9 = p from (up_k hU23 (by exact Nat.ne_of_beq_eq_false rfl) 0 x9).trans (up_f hU21), show U23 251 0 x9 = q from up_f hU23]
              have rwz := rw_c hB rbz (fz 111 0 29 rfl) (fun k y h n => by rcases h with rfl | rfl | rfl | rfl; exact (up_k hU23 (by exact Nat.ne_of_beq_eq_false rfl) 0 y).trans ((up_k hU21 (by exact Nat.ne_of_beq_eq_false rfl) 0 y).trans ((up_k hU19 (by exact Nat.ne_of_beq_eq_false rfl) 0 y).trans (up_g hU17 (fun z => n z.2.2)))); exact (up_k hU23 (by exact Nat.ne_of_beq_eq_false rfl) 0 y).trans ((up_k hU21 (by exact Nat.ne_of_beq_eq_false rfl) 0 y).trans ((up_g hU19 (fun z => n z.2.2)).trans (up_k hU17 (by exact Nat.ne_of_beq_eq_false rfl) 0 y))); exact (up_k hU23 (by exact Nat.ne_of_beq_eq_false rfl) 0 y).trans ((up_g hU21 (fun z => n z.2.2)).trans ((up_k hU19 (by exact Nat.ne_of_beq_eq_false rfl) 0 y).trans (up_k hU17 (by exact Nat.ne_of_beq_eq_false rfl) 0 y))); exact (up_g hU23 (fun z => n z.2.2)).trans ((up_k hU21 (by exact Nat.ne_of_beq_eq_false rfl) 0 y).trans ((up_k hU19 (by exact Nat.ne_of_beq_eq_false rfl) 0 y).trans (up_k hU17 (by exact Nat.ne_of_beq_eq_false rfl) 0 y)))) rcx hx9.1 (by omega) (by omega)
              refine j_callV (y := yX11_playAnew) (Yc := zX11_playAnew) (rest := []) [vI m] (ct_X11_playAnew_e (T := U23) (ru := ru) (by omega) (by exact MC__f (ws := [(251, []), (250, []), (249, []), (248, [])]) hmc (fr_u (fr_u (fr_u (fr_u (fr_0 _ _) hU17 rfl) hU19 rfl) hU21 rfl) hU23 rfl) ⟨fun _ => rfl, rfl, rfl, trivial⟩) (by exact RI__f (ws := [(251, []), (250, []), (249, []), (248, [])]) hri (fr_u (fr_u (fr_u (fr_u (fr_0 _ _) hU17 rfl) hU19 rfl) hU21 rfl) hU23 rfl) ⟨fun _ => rfl, rfl, trivial⟩) (by exact FM__f (ws := [(251, [])]) (FM__f (ws := [(250, [])]) (FM__f (ws := [(249, [])]) (FM__f (ws := [(248, [])]) (hfm) (fr_u (fr_0 _ _) hU17 rfl) ⟨fun _ => rfl, fun _ => rfl, trivial⟩) (fr_u (fr_0 _ _) hU19 rfl) ⟨fun _ => rfl, fun _ => rfl, trivial⟩) (fr_u (fr_0 _ _) hU21 rfl) ⟨fun _ => rfl, fun _ => rfl, trivial⟩) (fr_u (fr_0 _ _) hU23 rfl) ⟨fun _ => rfl, fun _ => rfl, trivial⟩) (by exact ⟨L, rbz, (fun _ hx => absurd hx List.not_mem_nil), List.nodup_nil, (fun _ _ _ hx => absurd hx List.not_mem_nil)⟩) (by exact ZS__f (ws := [(251, []), (250, []), (249, []), (248, [])]) hzs (fr_u (fr_u (fr_u (fr_u (fr_0 _ _) hU17 rfl) hU19 rfl) hU21 rfl) hU23 rfl) ⟨fun _ => rfl, fun _ => rfl, trivial⟩) (by exact gx_f hgs fz ⟨fun _ => rfl, fun _ => rfl, fun _ => rfl⟩ (fun j hj => (up_k hU23 (by exact Nat.ne_of_beq_eq_false rfl) 0 j).trans ((up_k hU21 (by exact Nat.ne_of_beq_eq_false rfl) 0 j).trans ((up_k hU19 (by exact Nat.ne_of_beq_eq_false rfl) 0 j).trans (up_k hU17 (by exact Nat.ne_of_beq_eq_false rfl) 0 j)))) (Or.inl rfl)) (rlr_f (ws := [(251, []), (250, []), (249, []), (248, [])]) hrl (fr_u (fr_u (fr_u (fr_u (fr_0 _ _) hU17 rfl) hU19 rfl) hU21 rfl) hU23 rfl) (fun _ => rfl) (fun _ => rfl))) cl_X11_473 (qd_c (by decide +kernel)) (nn_ _) rfl (rf_of rfl) (Nat.le_of_ble_eq_true rfl) (Nat.le_of_ble_eq_true rfl) (Nat.le_of_ble_eq_true rfl) rfl ?_
              rintro U26 _ ⟨x27, rfl, fU26, ⟨qU26a, qU26b, qU26z, qU26g, qU26r, qU26n, qU26o⟩⟩
              show J_ zX11_review T (po_X11_review_e T ru m i k s p q) 0 0 238 _ [vI x27] U26
              refine j_blx (F := fX11) tb_X11 (nn_ _) bk_X11_review_e_238 bs_X11_review_e_238 hz (fun K hK => ?_)
              refine (show po_X11_review_e T ru m i k s p q U26 (some (vI x27)) from ?_)
              have omz : OMR_ T U26 m := ⟨ro_t (rp_xo (fun K j h => fz K 0 j (by rcases h with rfl | rfl | rfl | rfl | rfl | rfl | rfl | rfl | rfl | rfl | rfl <;> rfl))) qU26o.1, fun j hj j0 j1 => ⟨((qU26o.2 j hj j0 (by have := fz 111 0 29 rfl; omega)).1).trans (rwz.2 j hj j0 j1), (qU26r j hj).1.trans ((up_k hU23 (by exact Nat.ne_of_beq_eq_false rfl) 0 j).trans ((up_k hU21 (by exact Nat.ne_of_beq_eq_false rfl) 0 j).trans ((up_k hU19 (by exact Nat.ne_of_beq_eq_false rfl) 0 j).trans (up_k hU17 (by exact Nat.ne_of_beq_eq_false rfl) 0 j)))), (qU26r j hj).2.trans ((up_k hU23 (by exact Nat.ne_of_beq_eq_false rfl) 0 j).trans ((up_k hU21 (by exact Nat.ne_of_beq_eq_false rfl) 0 j).trans ((up_k hU19 (by exact Nat.ne_of_beq_eq_false rfl) 0 j).trans (up_k hU17 (by exact Nat.ne_of_beq_eq_false rfl) 0 j))))⟩⟩
              have rnz : ∀ x, RNR_ ru m x U23 U26 (rw9_ U23 m) → RNR_ ru m x T U26 ((rw9_ T m).set i.toNat (k, s, p, q)) := fun x z => by
                obtain ⟨b, z1, z2, z3, z4, z5⟩ := z
                rw [rwz.1] at z2 z3 z4
                rw [rp_x (T := T) (T1 := U23) (m := m) (fun K j h => fz K 0 j (by rcases h with rfl | rfl | rfl | rfl | rfl | rfl | rfl | rfl | rfl | rfl | rfl <;> rfl))] at z1
                exact ⟨b, z1, z2, z3, z4, by rw [z5, fz 256 0 m rfl]⟩
              have nsm : ¬ ((rw9_ T m)[i.toNat]? = some (k, s, p, q)) := fun z => by
                rw [rwi] at z
                have z1 := Option.some.inj z
                unfold rwc_ at z1
                have y0 : T 248 0 x9 = k := congrArg Prod.fst z1
                have y1 : T 249 0 x9 = s := congrArg (fun t => t.2.1) z1
                have y2 : T 250 0 x9 = p := congrArg (fun t => t.2.2.1) z1
                have y3 : T 251 0 x9 = q := congrArg (fun t => t.2.2.2) z1
                omega
              exact ⟨_, rfl, fr_t (fr_u (fr_u (fr_u (fr_u (fr_0 _ _) hU17 rfl) hU19 rfl) hU21 rfl) hU23 rfl) (fr_s fU26 rfl), qU26a, qU26b, qU26z, qU26g, fun j hk => (fun (hj : j ≠ m) => ⟨(qU26r j hj).1.trans ((up_k hU23 (by exact Nat.ne_of_beq_eq_false rfl) 0 j).trans ((up_k hU21 (by exact Nat.ne_of_beq_eq_false rfl) 0 j).trans ((up_k hU19 (by exact Nat.ne_of_beq_eq_false rfl) 0 j).trans (up_k hU17 (by exact Nat.ne_of_beq_eq_false rfl) 0 j)))), (qU26r j hj).2.trans ((up_k hU23 (by exact Nat.ne_of_beq_eq_false rfl) 0 j).trans ((up_k hU21 (by exact Nat.ne_of_beq_eq_false rfl) 0 j).trans ((up_k hU19 (by exact Nat.ne_of_beq_eq_false rfl) 0 j).trans (up_k hU17 (by exact Nat.ne_of_beq_eq_false rfl) 0 j))))⟩) (by omega), Or.inr ⟨by omega, omz, Or.inr ⟨by omega, Or.inr (Or.inr (Or.inr ⟨tl9 (), bd9 (), nsm, rnz _ qU26n⟩))⟩⟩⟩
            · refine ix_i (by omega) ?_
              intro b28 b28b
              refine And.intro (fun c29 => ?_) (fun c29 => ?_)
              · refine hK 198 _ [] T ?_
                refine j_blx (F := fX11) tb_X11 (nn_ _) bk_X11_review_e_198 bs_X11_review_e_198 hz (fun K hK => ?_)
                refine iy_i (by omega) (by omega) ?_
                refine x_nm (fun U30 hU30 => ?_)
                have e31 := up_f hU30
                refine iy_i (by omega) (by omega) ?_
                refine x_nm (fun U32 hU32 => ?_)
                have e33 := up_f hU32
                refine iy_i (by omega) (by omega) ?_
                refine x_nm (fun U34 hU34 => ?_)
                have e35 := up_f hU34
                refine iy_i (by omega) (by omega) ?_
                refine x_nm (fun U36 hU36 => ?_)
                have e37 := up_f hU36
                refine hK 235 _ [vI m, vR 111 0] U36 ?_
                have e38 : U36 111 0 29 = T 111 0 29 := (up_k hU36 (by exact Nat.ne_of_beq_eq_false rfl) 0 29).trans ((up_k hU34 (by exact Nat.ne_of_beq_eq_false rfl) 0 29).trans ((up_k hU32 (by exact Nat.ne_of_beq_eq_false rfl) 0 29).trans (up_k hU30 (by exact Nat.ne_of_beq_eq_false rfl) 0 29)))
                have fz : fr_ [(251, []), (250, []), (249, []), (248, [])] T U36 := fr_u (fr_u (fr_u (fr_u (fr_0 _ _) hU30 rfl) hU32 rfl) hU34 rfl) hU36 rfl
                have rbz : RB_ U36 L := rb_f hB (fz 111 0 29 rfl) (fz 111 0 47 rfl) (fun k j h => fz k 0 j (by rcases h with rfl | rfl | rfl | rfl | rfl <;> rfl))
                have rcx : rwc_ U36 x9 = (k, s, p, q) := by
                  unfold rwc_
                  rw [show U36 248 0 x9 = k from ((up_k hU36 (by exact Nat.ne_of_beq_eq_false rfl) 0 x9).trans ((up_k hU34 (by exact Nat.ne_of_beq_eq_false rfl) 0 x9).trans (up_k hU32 (by exact Nat.ne_of_beq_eq_false rfl) 0 x9))).trans (up_f hU30), show U36 249 0 x9 = s from ((up_k hU36 (by exact Nat.ne_of_beq_eq_false rfl) 0 x9).trans (up_k hU34 (by exact Nat.ne_of_beq_eq_false rfl) 0 x9)).trans (up_f hU32), show U36 250 0 x9 = p from (up_k hU36 (by exact Nat.ne_of_beq_eq_false rfl) 0 x9).trans (up_f hU34), show U36 251 0 x9 = q from up_f hU36]
                have rwz := rw_c hB rbz (fz 111 0 29 rfl) (fun k y h n => by rcases h with rfl | rfl | rfl | rfl; exact (up_k hU36 (by exact Nat.ne_of_beq_eq_false rfl) 0 y).trans ((up_k hU34 (by exact Nat.ne_of_beq_eq_false rfl) 0 y).trans ((up_k hU32 (by exact Nat.ne_of_beq_eq_false rfl) 0 y).trans (up_g hU30 (fun z => n z.2.2)))); exact (up_k hU36 (by exact Nat.ne_of_beq_eq_false rfl) 0 y).trans ((up_k hU34 (by exact Nat.ne_of_beq_eq_false rfl) 0 y).trans ((up_g hU32 (fun z => n z.2.2)).trans (up_k hU30 (by exact Nat.ne_of_beq_eq_false rfl) 0 y))); exact (up_k hU36 (by exact Nat.ne_of_beq_eq_false rfl) 0 y).trans ((up_g hU34 (fun z => n z.2.2)).trans ((up_k hU32 (by exact Nat.ne_of_beq_eq_false rfl) 0 y).trans (up_k hU30 (by exact Nat.ne_of_beq_eq_false rfl) 0 y))); exact (up_g hU36 (fun z => n z.2.2)).trans ((up_k hU34 (by exact Nat.ne_of_beq_eq_false rfl) 0 y).trans ((up_k hU32 (by exact Nat.ne_of_beq_eq_false rfl) 0 y).trans (up_k hU30 (by exact Nat.ne_of_beq_eq_false rfl) 0 y)))) rcx hx9.1 (by omega) (by omega)
                refine j_callV (y := yX11_playAnew) (Yc := zX11_playAnew) (rest := []) [vI m] (ct_X11_playAnew_e (T := U36) (ru := ru) (by omega) (by exact MC__f (ws := [(251, []), (250, []), (249, []), (248, [])]) hmc (fr_u (fr_u (fr_u (fr_u (fr_0 _ _) hU30 rfl) hU32 rfl) hU34 rfl) hU36 rfl) ⟨fun _ => rfl, rfl, rfl, trivial⟩) (by exact RI__f (ws := [(251, []), (250, []), (249, []), (248, [])]) hri (fr_u (fr_u (fr_u (fr_u (fr_0 _ _) hU30 rfl) hU32 rfl) hU34 rfl) hU36 rfl) ⟨fun _ => rfl, rfl, trivial⟩) (by exact FM__f (ws := [(251, [])]) (FM__f (ws := [(250, [])]) (FM__f (ws := [(249, [])]) (FM__f (ws := [(248, [])]) (hfm) (fr_u (fr_0 _ _) hU30 rfl) ⟨fun _ => rfl, fun _ => rfl, trivial⟩) (fr_u (fr_0 _ _) hU32 rfl) ⟨fun _ => rfl, fun _ => rfl, trivial⟩) (fr_u (fr_0 _ _) hU34 rfl) ⟨fun _ => rfl, fun _ => rfl, trivial⟩) (fr_u (fr_0 _ _) hU36 rfl) ⟨fun _ => rfl, fun _ => rfl, trivial⟩) (by exact ⟨L, rbz, (fun _ hx => absurd hx List.not_mem_nil), List.nodup_nil, (fun _ _ _ hx => absurd hx List.not_mem_nil)⟩) (by exact ZS__f (ws := [(251, []), (250, []), (249, []), (248, [])]) hzs (fr_u (fr_u (fr_u (fr_u (fr_0 _ _) hU30 rfl) hU32 rfl) hU34 rfl) hU36 rfl) ⟨fun _ => rfl, fun _ => rfl, trivial⟩) (by exact gx_f hgs fz ⟨fun _ => rfl, fun _ => rfl, fun _ => rfl⟩ (fun j hj => (up_k hU36 (by exact Nat.ne_of_beq_eq_false rfl) 0 j).trans ((up_k hU34 (by exact Nat.ne_of_beq_eq_false rfl) 0 j).trans ((up_k hU32 (by exact Nat.ne_of_beq_eq_false rfl) 0 j).trans (up_k hU30 (by exact Nat.ne_of_beq_eq_false rfl) 0 j)))) (Or.inl rfl)) (rlr_f (ws := [(251, []), (250, []), (249, []), (248, [])]) hrl (fr_u (fr_u (fr_u (fr_u (fr_0 _ _) hU30 rfl) hU32 rfl) hU34 rfl) hU36 rfl) (fun _ => rfl) (fun _ => rfl))) cl_X11_473 (qd_c (by decide +kernel)) (nn_ _) rfl (rf_of rfl) (Nat.le_of_ble_eq_true rfl) (Nat.le_of_ble_eq_true rfl) (Nat.le_of_ble_eq_true rfl) rfl ?_
                rintro U39 _ ⟨x40, rfl, fU39, ⟨qU39a, qU39b, qU39z, qU39g, qU39r, qU39n, qU39o⟩⟩
                show J_ zX11_review T (po_X11_review_e T ru m i k s p q) 0 0 238 _ [vI x40] U39
                refine j_blx (F := fX11) tb_X11 (nn_ _) bk_X11_review_e_238 bs_X11_review_e_238 hz (fun K hK => ?_)
                refine (show po_X11_review_e T ru m i k s p q U39 (some (vI x40)) from ?_)
                have omz : OMR_ T U39 m := ⟨ro_t (rp_xo (fun K j h => fz K 0 j (by rcases h with rfl | rfl | rfl | rfl | rfl | rfl | rfl | rfl | rfl | rfl | rfl <;> rfl))) qU39o.1, fun j hj j0 j1 => ⟨((qU39o.2 j hj j0 (by have := fz 111 0 29 rfl; omega)).1).trans (rwz.2 j hj j0 j1), (qU39r j hj).1.trans ((up_k hU36 (by exact Nat.ne_of_beq_eq_false rfl) 0 j).trans ((up_k hU34 (by exact Nat.ne_of_beq_eq_false rfl) 0 j).trans ((up_k hU32 (by exact Nat.ne_of_beq_eq_false rfl) 0 j).trans (up_k hU30 (by exact Nat.ne_of_beq_eq_false rfl) 0 j)))), (qU39r j hj).2.trans ((up_k hU36 (by exact Nat.ne_of_beq_eq_false rfl) 0 j).trans ((up_k hU34 (by exact Nat.ne_of_beq_eq_false rfl) 0 j).trans ((up_k hU32 (by exact Nat.ne_of_beq_eq_false rfl) 0 j).trans (up_k hU30 (by exact Nat.ne_of_beq_eq_false rfl) 0 j))))⟩⟩
                have rnz : ∀ x, RNR_ ru m x U36 U39 (rw9_ U36 m) → RNR_ ru m x T U39 ((rw9_ T m).set i.toNat (k, s, p, q)) := fun x z => by
                  obtain ⟨b, z1, z2, z3, z4, z5⟩ := z
                  rw [rwz.1] at z2 z3 z4
                  rw [rp_x (T := T) (T1 := U36) (m := m) (fun K j h => fz K 0 j (by rcases h with rfl | rfl | rfl | rfl | rfl | rfl | rfl | rfl | rfl | rfl | rfl <;> rfl))] at z1
                  exact ⟨b, z1, z2, z3, z4, by rw [z5, fz 256 0 m rfl]⟩
                have nsm : ¬ ((rw9_ T m)[i.toNat]? = some (k, s, p, q)) := fun z => by
                  rw [rwi] at z
                  have z1 := Option.some.inj z
                  unfold rwc_ at z1
                  have y0 : T 248 0 x9 = k := congrArg Prod.fst z1
                  have y1 : T 249 0 x9 = s := congrArg (fun t => t.2.1) z1
                  have y2 : T 250 0 x9 = p := congrArg (fun t => t.2.2.1) z1
                  have y3 : T 251 0 x9 = q := congrArg (fun t => t.2.2.2) z1
                  omega
                exact ⟨_, rfl, fr_t (fr_u (fr_u (fr_u (fr_u (fr_0 _ _) hU30 rfl) hU32 rfl) hU34 rfl) hU36 rfl) (fr_s fU39 rfl), qU39a, qU39b, qU39z, qU39g, fun j hk => (fun (hj : j ≠ m) => ⟨(qU39r j hj).1.trans ((up_k hU36 (by exact Nat.ne_of_beq_eq_false rfl) 0 j).trans ((up_k hU34 (by exact Nat.ne_of_beq_eq_false rfl) 0 j).trans ((up_k hU32 (by exact Nat.ne_of_beq_eq_false rfl) 0 j).trans (up_k hU30 (by exact Nat.ne_of_beq_eq_false rfl) 0 j)))), (qU39r j hj).2.trans ((up_k hU36 (by exact Nat.ne_of_beq_eq_false rfl) 0 j).trans ((up_k hU34 (by exact Nat.ne_of_beq_eq_false rfl) 0 j).trans ((up_k hU32 (by exact Nat.ne_of_beq_eq_false rfl) 0 j).trans (up_k hU30 (by exact Nat.ne_of_beq_eq_false rfl) 0 j))))⟩) (by omega), Or.inr ⟨by omega, omz, Or.inr ⟨by omega, Or.inr (Or.inr (Or.inr ⟨tl9 (), bd9 (), nsm, rnz _ qU39n⟩))⟩⟩⟩
              · refine ix_i (by omega) ?_
                intro b41 b41b
                refine And.intro (fun c42 => ?_) (fun c42 => ?_)
                · refine hK 198 _ [] T ?_
                  refine j_blx (F := fX11) tb_X11 (nn_ _) bk_X11_review_e_198 bs_X11_review_e_198 hz (fun K hK => ?_)
                  refine iy_i (by omega) (by omega) ?_
                  refine x_nm (fun U43 hU43 => ?_)
                  have e44 := up_f hU43
                  refine iy_i (by omega) (by omega) ?_
                  refine x_nm (fun U45 hU45 => ?_)
                  have e46 := up_f hU45
                  refine iy_i (by omega) (by omega) ?_
                  refine x_nm (fun U47 hU47 => ?_)
                  have e48 := up_f hU47
                  refine iy_i (by omega) (by omega) ?_
                  refine x_nm (fun U49 hU49 => ?_)
                  have e50 := up_f hU49
                  refine hK 235 _ [vI m, vR 111 0] U49 ?_
                  have e51 : U49 111 0 29 = T 111 0 29 := (up_k hU49 (by exact Nat.ne_of_beq_eq_false rfl) 0 29).trans ((up_k hU47 (by exact Nat.ne_of_beq_eq_false rfl) 0 29).trans ((up_k hU45 (by exact Nat.ne_of_beq_eq_false rfl) 0 29).trans (up_k hU43 (by exact Nat.ne_of_beq_eq_false rfl) 0 29)))
                  have fz : fr_ [(251, []), (250, []), (249, []), (248, [])] T U49 := fr_u (fr_u (fr_u (fr_u (fr_0 _ _) hU43 rfl) hU45 rfl) hU47 rfl) hU49 rfl
                  have rbz : RB_ U49 L := rb_f hB (fz 111 0 29 rfl) (fz 111 0 47 rfl) (fun k j h => fz k 0 j (by rcases h with rfl | rfl | rfl | rfl | rfl <;> rfl))
                  have rcx : rwc_ U49 x9 = (k, s, p, q) := by
                    unfold rwc_
                    rw [show U49 248 0 x9 = k from ((up_k hU49 (by exact Nat.ne_of_beq_eq_false rfl) 0 x9).trans ((up_k hU47 (by exact Nat.ne_of_beq_eq_false rfl) 0 x9).trans (up_k hU45 (by exact Nat.ne_of_beq_eq_false rfl) 0 x9))).trans (up_f hU43), show U49 249 0 x9 = s from ((up_k hU49 (by exact Nat.ne_of_beq_eq_false rfl) 0 x9).trans (up_k hU47 (by exact Nat.ne_of_beq_eq_false rfl) 0 x9)).trans (up_f hU45), show U49 250 0 x9 = p from (up_k hU49 (by exact Nat.ne_of_beq_eq_false rfl) 0 x9).trans (up_f hU47), show U49 251 0 x9 = q from up_f hU49]
                  have rwz := rw_c hB rbz (fz 111 0 29 rfl) (fun k y h n => by rcases h with rfl | rfl | rfl | rfl; exact (up_k hU49 (by exact Nat.ne_of_beq_eq_false rfl) 0 y).trans ((up_k hU47 (by exact Nat.ne_of_beq_eq_false rfl) 0 y).trans ((up_k hU45 (by exact Nat.ne_of_beq_eq_false rfl) 0 y).trans (up_g hU43 (fun z => n z.2.2)))); exact (up_k hU49 (by exact Nat.ne_of_beq_eq_false rfl) 0 y).trans ((up_k hU47 (by exact Nat.ne_of_beq_eq_false rfl) 0 y).trans ((up_g hU45 (fun z => n z.2.2)).trans (up_k hU43 (by exact Nat.ne_of_beq_eq_false rfl) 0 y))); exact (up_k hU49 (by exact Nat.ne_of_beq_eq_false rfl) 0 y).trans ((up_g hU47 (fun z => n z.2.2)).trans ((up_k hU45 (by exact Nat.ne_of_beq_eq_false rfl) 0 y).trans (up_k hU43 (by exact Nat.ne_of_beq_eq_false rfl) 0 y))); exact (up_g hU49 (fun z => n z.2.2)).trans ((up_k hU47 (by exact Nat.ne_of_beq_eq_false rfl) 0 y).trans ((up_k hU45 (by exact Nat.ne_of_beq_eq_false rfl) 0 y).trans (up_k hU43 (by exact Nat.ne_of_beq_eq_false rfl) 0 y)))) rcx hx9.1 (by omega) (by omega)
                  refine j_callV (y := yX11_playAnew) (Yc := zX11_playAnew) (rest := []) [vI m] (ct_X11_playAnew_e (T := U49) (ru := ru) (by omega) (by exact MC__f (ws := [(251, []), (250, []), (249, []), (248, [])]) hmc (fr_u (fr_u (fr_u (fr_u (fr_0 _ _) hU43 rfl) hU45 rfl) hU47 rfl) hU49 rfl) ⟨fun _ => rfl, rfl, rfl, trivial⟩) (by exact RI__f (ws := [(251, []), (250, []), (249, []), (248, [])]) hri (fr_u (fr_u (fr_u (fr_u (fr_0 _ _) hU43 rfl) hU45 rfl) hU47 rfl) hU49 rfl) ⟨fun _ => rfl, rfl, trivial⟩) (by exact FM__f (ws := [(251, [])]) (FM__f (ws := [(250, [])]) (FM__f (ws := [(249, [])]) (FM__f (ws := [(248, [])]) (hfm) (fr_u (fr_0 _ _) hU43 rfl) ⟨fun _ => rfl, fun _ => rfl, trivial⟩) (fr_u (fr_0 _ _) hU45 rfl) ⟨fun _ => rfl, fun _ => rfl, trivial⟩) (fr_u (fr_0 _ _) hU47 rfl) ⟨fun _ => rfl, fun _ => rfl, trivial⟩) (fr_u (fr_0 _ _) hU49 rfl) ⟨fun _ => rfl, fun _ => rfl, trivial⟩) (by exact ⟨L, rbz, (fun _ hx => absurd hx List.not_mem_nil), List.nodup_nil, (fun _ _ _ hx => absurd hx List.not_mem_nil)⟩) (by exact ZS__f (ws := [(251, []), (250, []), (249, []), (248, [])]) hzs (fr_u (fr_u (fr_u (fr_u (fr_0 _ _) hU43 rfl) hU45 rfl) hU47 rfl) hU49 rfl) ⟨fun _ => rfl, fun _ => rfl, trivial⟩) (by exact gx_f hgs fz ⟨fun _ => rfl, fun _ => rfl, fun _ => rfl⟩ (fun j hj => (up_k hU49 (by exact Nat.ne_of_beq_eq_false rfl) 0 j).trans ((up_k hU47 (by exact Nat.ne_of_beq_eq_false rfl) 0 j).trans ((up_k hU45 (by exact Nat.ne_of_beq_eq_false rfl) 0 j).trans (up_k hU43 (by exact Nat.ne_of_beq_eq_false rfl) 0 j)))) (Or.inl rfl)) (rlr_f (ws := [(251, []), (250, []), (249, []), (248, [])]) hrl (fr_u (fr_u (fr_u (fr_u (fr_0 _ _) hU43 rfl) hU45 rfl) hU47 rfl) hU49 rfl) (fun _ => rfl) (fun _ => rfl))) cl_X11_473 (qd_c (by decide +kernel)) (nn_ _) rfl (rf_of rfl) (Nat.le_of_ble_eq_true rfl) (Nat.le_of_ble_eq_true rfl) (Nat.le_of_ble_eq_true rfl) rfl ?_
                  rintro U52 _ ⟨x53, rfl, fU52, ⟨qU52a, qU52b, qU52z, qU52g, qU52r, qU52n, qU52o⟩⟩
                  show J_ zX11_review T (po_X11_review_e T ru m i k s p q) 0 0 238 _ [vI x53] U52
                  refine j_blx (F := fX11) tb_X11 (nn_ _) bk_X11_review_e_238 bs_X11_review_e_238 hz (fun K hK => ?_)
                  refine (show po_X11_review_e T ru m i k s p q U52 (some (vI x53)) from ?_)
                  have omz : OMR_ T U52 m := ⟨ro_t (rp_xo (fun K j h => fz K 0 j (by rcases h with rfl | rfl | rfl | rfl | rfl | rfl | rfl | rfl | rfl | rfl | rfl <;> rfl))) qU52o.1, fun j hj j0 j1 => ⟨((qU52o.2 j hj j0 (by have := fz 111 0 29 rfl; omega)).1).trans (rwz.2 j hj j0 j1), (qU52r j hj).1.trans ((up_k hU49 (by exact Nat.ne_of_beq_eq_false rfl) 0 j).trans ((up_k hU47 (by exact Nat.ne_of_beq_eq_false rfl) 0 j).trans ((up_k hU45 (by exact Nat.ne_of_beq_eq_false rfl) 0 j).trans (up_k hU43 (by exact Nat.ne_of_beq_eq_false rfl) 0 j)))), (qU52r j hj).2.trans ((up_k hU49 (by exact Nat.ne_of_beq_eq_false rfl) 0 j).trans ((up_k hU47 (by exact Nat.ne_of_beq_eq_false rfl) 0 j).trans ((up_k hU45 (by exact Nat.ne_of_beq_eq_false rfl) 0 j).trans (up_k hU43 (by exact Nat.ne_of_beq_eq_false rfl) 0 j))))⟩⟩
                  have rnz : ∀ x, RNR_ ru m x U49 U52 (rw9_ U49 m) → RNR_ ru m x T U52 ((rw9_ T m).set i.toNat (k, s, p, q)) := fun x z => by
                    obtain ⟨b, z1, z2, z3, z4, z5⟩ := z
                    rw [rwz.1] at z2 z3 z4
                    rw [rp_x (T := T) (T1 := U49) (m := m) (fun K j h => fz K 0 j (by rcases h with rfl | rfl | rfl | rfl | rfl | rfl | rfl | rfl | rfl | rfl | rfl <;> rfl))] at z1
                    exact ⟨b, z1, z2, z3, z4, by rw [z5, fz 256 0 m rfl]⟩
                  have nsm : ¬ ((rw9_ T m)[i.toNat]? = some (k, s, p, q)) := fun z => by
                    rw [rwi] at z
                    have z1 := Option.some.inj z
                    unfold rwc_ at z1
                    have y0 : T 248 0 x9 = k := congrArg Prod.fst z1
                    have y1 : T 249 0 x9 = s := congrArg (fun t => t.2.1) z1
                    have y2 : T 250 0 x9 = p := congrArg (fun t => t.2.2.1) z1
                    have y3 : T 251 0 x9 = q := congrArg (fun t => t.2.2.2) z1
                    omega
                  exact ⟨_, rfl, fr_t (fr_u (fr_u (fr_u (fr_u (fr_0 _ _) hU43 rfl) hU45 rfl) hU47 rfl) hU49 rfl) (fr_s fU52 rfl), qU52a, qU52b, qU52z, qU52g, fun j hk => (fun (hj : j ≠ m) => ⟨(qU52r j hj).1.trans ((up_k hU49 (by exact Nat.ne_of_beq_eq_false rfl) 0 j).trans ((up_k hU47 (by exact Nat.ne_of_beq_eq_false rfl) 0 j).trans ((up_k hU45 (by exact Nat.ne_of_beq_eq_false rfl) 0 j).trans (up_k hU43 (by exact Nat.ne_of_beq_eq_false rfl) 0 j)))), (qU52r j hj).2.trans ((up_k hU49 (by exact Nat.ne_of_beq_eq_false rfl) 0 j).trans ((up_k hU47 (by exact Nat.ne_of_beq_eq_false rfl) 0 j).trans ((up_k hU45 (by exact Nat.ne_of_beq_eq_false rfl) 0 j).trans (up_k hU43 (by exact Nat.ne_of_beq_eq_false rfl) 0 j))))⟩) (by omega), Or.inr ⟨by omega, omz, Or.inr ⟨by omega, Or.inr (Or.inr (Or.inr ⟨tl9 (), bd9 (), nsm, rnz _ qU52n⟩))⟩⟩⟩
                · refine ix_i (by omega) ?_
                  intro b54 b54b
                  refine And.intro (fun c55 => ?_) (fun c55 => ?_)
                  · refine hK 198 _ [] T ?_
                    refine j_blx (F := fX11) tb_X11 (nn_ _) bk_X11_review_e_198 bs_X11_review_e_198 hz (fun K hK => ?_)
                    refine iy_i (by omega) (by omega) ?_
                    refine x_nm (fun U56 hU56 => ?_)
                    have e57 := up_f hU56
                    refine iy_i (by omega) (by omega) ?_
                    refine x_nm (fun U58 hU58 => ?_)
                    have e59 := up_f hU58
                    refine iy_i (by omega) (by omega) ?_
                    refine x_nm (fun U60 hU60 => ?_)
                    have e61 := up_f hU60
                    refine iy_i (by omega) (by omega) ?_
                    refine x_nm (fun U62 hU62 => ?_)
                    have e63 := up_f hU62
                    refine hK 235 _ [vI m, vR 111 0] U62 ?_
                    have e64 : U62 111 0 29 = T 111 0 29 := (up_k hU62 (by exact Nat.ne_of_beq_eq_false rfl) 0 29).trans ((up_k hU60 (by exact Nat.ne_of_beq_eq_false rfl) 0 29).trans ((up_k hU58 (by exact Nat.ne_of_beq_eq_false rfl) 0 29).trans (up_k hU56 (by exact Nat.ne_of_beq_eq_false rfl) 0 29)))
                    have fz : fr_ [(251, []), (250, []), (249, []), (248, [])] T U62 := fr_u (fr_u (fr_u (fr_u (fr_0 _ _) hU56 rfl) hU58 rfl) hU60 rfl) hU62 rfl
                    have rbz : RB_ U62 L := rb_f hB (fz 111 0 29 rfl) (fz 111 0 47 rfl) (fun k j h => fz k 0 j (by rcases h with rfl | rfl | rfl | rfl | rfl <;> rfl))
                    have rcx : rwc_ U62 x9 = (k, s, p, q) := by
                      unfold rwc_
                      rw [show U62 248 0 x9 = k from ((up_k hU62 (by exact Nat.ne_of_beq_eq_false rfl) 0 x9).trans ((up_k hU60 (by exact Nat.ne_of_beq_eq_false rfl) 0 x9).trans (up_k hU58 (by exact Nat.ne_of_beq_eq_false rfl) 0 x9))).trans (up_f hU56), show U62 249 0 x9 = s from ((up_k hU62 (by exact Nat.ne_of_beq_eq_false rfl) 0 x9).trans (up_k hU60 (by exact Nat.ne_of_beq_eq_false rfl) 0 x9)).trans (up_f hU58), show U62 250 0 x9 = p from (up_k hU62 (by exact Nat.ne_of_beq_eq_false rfl) 0 x9).trans (up_f hU60), show U62 251 0 x9 = q from up_f hU62]
                    have rwz := rw_c hB rbz (fz 111 0 29 rfl) (fun k y h n => by rcases h with rfl | rfl | rfl | rfl; exact (up_k hU62 (by exact Nat.ne_of_beq_eq_false rfl) 0 y).trans ((up_k hU60 (by exact Nat.ne_of_beq_eq_false rfl) 0 y).trans ((up_k hU58 (by exact Nat.ne_of_beq_eq_false rfl) 0 y).trans (up_g hU56 (fun z => n z.2.2)))); exact (up_k hU62 (by exact Nat.ne_of_beq_eq_false rfl) 0 y).trans ((up_k hU60 (by exact Nat.ne_of_beq_eq_false rfl) 0 y).trans ((up_g hU58 (fun z => n z.2.2)).trans (up_k hU56 (by exact Nat.ne_of_beq_eq_false rfl) 0 y))); exact (up_k hU62 (by exact Nat.ne_of_beq_eq_false rfl) 0 y).trans ((up_g hU60 (fun z => n z.2.2)).trans ((up_k hU58 (by exact Nat.ne_of_beq_eq_false rfl) 0 y).trans (up_k hU56 (by exact Nat.ne_of_beq_eq_false rfl) 0 y))); exact (up_g hU62 (fun z => n z.2.2)).trans ((up_k hU60 (by exact Nat.ne_of_beq_eq_false rfl) 0 y).trans ((up_k hU58 (by exact Nat.ne_of_beq_eq_false rfl) 0 y).trans (up_k hU56 (by exact Nat.ne_of_beq_eq_false rfl) 0 y)))) rcx hx9.1 (by omega) (by omega)
                    refine j_callV (y := yX11_playAnew) (Yc := zX11_playAnew) (rest := []) [vI m] (ct_X11_playAnew_e (T := U62) (ru := ru) (by omega) (by exact MC__f (ws := [(251, []), (250, []), (249, []), (248, [])]) hmc (fr_u (fr_u (fr_u (fr_u (fr_0 _ _) hU56 rfl) hU58 rfl) hU60 rfl) hU62 rfl) ⟨fun _ => rfl, rfl, rfl, trivial⟩) (by exact RI__f (ws := [(251, []), (250, []), (249, []), (248, [])]) hri (fr_u (fr_u (fr_u (fr_u (fr_0 _ _) hU56 rfl) hU58 rfl) hU60 rfl) hU62 rfl) ⟨fun _ => rfl, rfl, trivial⟩) (by exact FM__f (ws := [(251, [])]) (FM__f (ws := [(250, [])]) (FM__f (ws := [(249, [])]) (FM__f (ws := [(248, [])]) (hfm) (fr_u (fr_0 _ _) hU56 rfl) ⟨fun _ => rfl, fun _ => rfl, trivial⟩) (fr_u (fr_0 _ _) hU58 rfl) ⟨fun _ => rfl, fun _ => rfl, trivial⟩) (fr_u (fr_0 _ _) hU60 rfl) ⟨fun _ => rfl, fun _ => rfl, trivial⟩) (fr_u (fr_0 _ _) hU62 rfl) ⟨fun _ => rfl, fun _ => rfl, trivial⟩) (by exact ⟨L, rbz, (fun _ hx => absurd hx List.not_mem_nil), List.nodup_nil, (fun _ _ _ hx => absurd hx List.not_mem_nil)⟩) (by exact ZS__f (ws := [(251, []), (250, []), (249, []), (248, [])]) hzs (fr_u (fr_u (fr_u (fr_u (fr_0 _ _) hU56 rfl) hU58 rfl) hU60 rfl) hU62 rfl) ⟨fun _ => rfl, fun _ => rfl, trivial⟩) (by exact gx_f hgs fz ⟨fun _ => rfl, fun _ => rfl, fun _ => rfl⟩ (fun j hj => (up_k hU62 (by exact Nat.ne_of_beq_eq_false rfl) 0 j).trans ((up_k hU60 (by exact Nat.ne_of_beq_eq_false rfl) 0 j).trans ((up_k hU58 (by exact Nat.ne_of_beq_eq_false rfl) 0 j).trans (up_k hU56 (by exact Nat.ne_of_beq_eq_false rfl) 0 j)))) (Or.inl rfl)) (rlr_f (ws := [(251, []), (250, []), (249, []), (248, [])]) hrl (fr_u (fr_u (fr_u (fr_u (fr_0 _ _) hU56 rfl) hU58 rfl) hU60 rfl) hU62 rfl) (fun _ => rfl) (fun _ => rfl))) cl_X11_473 (qd_c (by decide +kernel)) (nn_ _) rfl (rf_of rfl) (Nat.le_of_ble_eq_true rfl) (Nat.le_of_ble_eq_true rfl) (Nat.le_of_ble_eq_true rfl) rfl ?_
                    rintro U65 _ ⟨x66, rfl, fU65, ⟨qU65a, qU65b, qU65z, qU65g, qU65r, qU65n, qU65o⟩⟩
                    show J_ zX11_review T (po_X11_review_e T ru m i k s p q) 0 0 238 _ [vI x66] U65
                    refine j_blx (F := fX11) tb_X11 (nn_ _) bk_X11_review_e_238 bs_X11_review_e_238 hz (fun K hK => ?_)
                    refine (show po_X11_review_e T ru m i k s p q U65 (some (vI x66)) from ?_)
                    have omz : OMR_ T U65 m := ⟨ro_t (rp_xo (fun K j h => fz K 0 j (by rcases h with rfl | rfl | rfl | rfl | rfl | rfl | rfl | rfl | rfl | rfl | rfl <;> rfl))) qU65o.1, fun j hj j0 j1 => ⟨((qU65o.2 j hj j0 (by have := fz 111 0 29 rfl; omega)).1).trans (rwz.2 j hj j0 j1), (qU65r j hj).1.trans ((up_k hU62 (by exact Nat.ne_of_beq_eq_false rfl) 0 j).trans ((up_k hU60 (by exact Nat.ne_of_beq_eq_false rfl) 0 j).trans ((up_k hU58 (by exact Nat.ne_of_beq_eq_false rfl) 0 j).trans (up_k hU56 (by exact Nat.ne_of_beq_eq_false rfl) 0 j)))), (qU65r j hj).2.trans ((up_k hU62 (by exact Nat.ne_of_beq_eq_false rfl) 0 j).trans ((up_k hU60 (by exact Nat.ne_of_beq_eq_false rfl) 0 j).trans ((up_k hU58 (by exact Nat.ne_of_beq_eq_false rfl) 0 j).trans (up_k hU56 (by exact Nat.ne_of_beq_eq_false rfl) 0 j))))⟩⟩
                    have rnz : ∀ x, RNR_ ru m x U62 U65 (rw9_ U62 m) → RNR_ ru m x T U65 ((rw9_ T m).set i.toNat (k, s, p, q)) := fun x z => by
                      obtain ⟨b, z1, z2, z3, z4, z5⟩ := z
                      rw [rwz.1] at z2 z3 z4
                      rw [rp_x (T := T) (T1 := U62) (m := m) (fun K j h => fz K 0 j (by rcases h with rfl | rfl | rfl | rfl | rfl | rfl | rfl | rfl | rfl | rfl | rfl <;> rfl))] at z1
                      exact ⟨b, z1, z2, z3, z4, by rw [z5, fz 256 0 m rfl]⟩
                    have nsm : ¬ ((rw9_ T m)[i.toNat]? = some (k, s, p, q)) := fun z => by
                      rw [rwi] at z
                      have z1 := Option.some.inj z
                      unfold rwc_ at z1
                      have y0 : T 248 0 x9 = k := congrArg Prod.fst z1
                      have y1 : T 249 0 x9 = s := congrArg (fun t => t.2.1) z1
                      have y2 : T 250 0 x9 = p := congrArg (fun t => t.2.2.1) z1
                      have y3 : T 251 0 x9 = q := congrArg (fun t => t.2.2.2) z1
                      omega
                    exact ⟨_, rfl, fr_t (fr_u (fr_u (fr_u (fr_u (fr_0 _ _) hU56 rfl) hU58 rfl) hU60 rfl) hU62 rfl) (fr_s fU65 rfl), qU65a, qU65b, qU65z, qU65g, fun j hk => (fun (hj : j ≠ m) => ⟨(qU65r j hj).1.trans ((up_k hU62 (by exact Nat.ne_of_beq_eq_false rfl) 0 j).trans ((up_k hU60 (by exact Nat.ne_of_beq_eq_false rfl) 0 j).trans ((up_k hU58 (by exact Nat.ne_of_beq_eq_false rfl) 0 j).trans (up_k hU56 (by exact Nat.ne_of_beq_eq_false rfl) 0 j)))), (qU65r j hj).2.trans ((up_k hU62 (by exact Nat.ne_of_beq_eq_false rfl) 0 j).trans ((up_k hU60 (by exact Nat.ne_of_beq_eq_false rfl) 0 j).trans ((up_k hU58 (by exact Nat.ne_of_beq_eq_false rfl) 0 j).trans (up_k hU56 (by exact Nat.ne_of_beq_eq_false rfl) 0 j))))⟩) (by omega), Or.inr ⟨by omega, omz, Or.inr ⟨by omega, Or.inr (Or.inr (Or.inr ⟨tl9 (), bd9 (), nsm, rnz _ qU65n⟩))⟩⟩⟩
                  · refine (show po_X11_review_e T ru m i k s p q T (some (vI (-20))) from ?_)
                    have sme : (rw9_ T m)[i.toNat]? = some (k, s, p, q) := by
                      rw [rwi]
                      unfold rwc_
                      rw [show T 248 0 x9 = k from Int.le_antisymm (by omega) (by omega), show T 249 0 x9 = s from Int.le_antisymm (by omega) (by omega), show T 250 0 x9 = p from Int.le_antisymm (by omega) (by omega), show T 251 0 x9 = q from Int.le_antisymm (by omega) (by omega)]
                    exact ⟨_, rfl, fr_0 _ _, hfm, hrx, hzs, hgs, fun _ _ => ⟨rfl, rfl⟩, Or.inr ⟨by omega, om_r, Or.inr ⟨by omega, Or.inr (Or.inr (Or.inl ⟨tl9 (), bd9 (), sme, rfl, rfl⟩))⟩⟩⟩
          · have bd9 := fun (_ : Unit) => (hx13.resolve_left (fun z => absurd (c14.symm.trans z.1) (by decide))).2
            rw [hru0] at bd9
            clear hx13
            refine (show po_X11_review_e T ru m i k s p q T (some (vI (-17))) from ?_)
            exact ⟨_, rfl, fr_0 _ _, hfm, hrx, hzs, hgs, fun _ _ => ⟨rfl, rfl⟩, Or.inr ⟨by omega, om_r, Or.inr ⟨by omega, Or.inr (Or.inl ⟨tl9 (), bd9 (), rfl, rfl⟩)⟩⟩⟩
        · have tl9 := fun (_ : Unit) => (hx11.resolve_left (fun z => absurd (c12.symm.trans z.1) (by decide))).2
          rw [hru0] at tl9
          clear hx11
          refine (show po_X11_review_e T ru m i k s p q T (some (vI (-12))) from ?_)
          exact ⟨_, rfl, fr_0 _ _, hfm, hrx, hzs, hgs, fun _ _ => ⟨rfl, rfl⟩, Or.inr ⟨by omega, om_r, Or.inr ⟨by omega, Or.inl ⟨tl9 (), rfl, rfl⟩⟩⟩⟩
      · refine And.intro (fun c67 => ?_) (fun c67 => ?_)
        · refine hK 78 _ [] T ?_
          refine j_blx (F := fX11) tb_X11 (nn_ _) bk_X11_review_e_78 bs_X11_review_e_78 hz (fun K hK => ?_)
          refine ix_i (by omega) ?_
          intro b68 b68b
          refine rg_i (by omega) ?_
          refine hK 92 _ [vI (i - 1), vI (T 253 0 m), vR 111 0, vR 252 0] T ?_
          refine j_callV (y := yX11_rowAt) (Yc := zX11_rowAt) (rest := [vR 252 0]) [vI (T 253 0 m), vI (i - 1)] (ct_X11_rowAt (T := T) (l := L m 0) (by exact hl.1) (by omega)) cl_X11_456 (qd_c (by decide +kernel)) (nn_ _) rfl (rf_of rfl) (Nat.le_of_ble_eq_true rfl) (Nat.le_of_ble_eq_true rfl) (Nat.le_of_ble_eq_true rfl) rfl ?_
          rintro _ _ ⟨rfl, x69, rfl, hx69⟩
          show J_ zX11_review T (po_X11_review_e T ru m i k s p q) 0 0 95 _ [vI x69, vR 252 0] T
          refine j_blx (F := fX11) tb_X11 (nn_ _) bk_X11_review_e_95 bs_X11_review_e_95 hz (fun K hK => ?_)
          refine ix_i (by omega) ?_
          intro b70 b70b
          refine iy_i (by omega) (by omega) ?_
          refine x_nm (fun U71 hU71 => ?_)
          have e72 := up_f hU71
          refine ix_i (by omega) ?_
          intro b73 b73b
          have e74 : U71 254 0 m = T 254 0 m := up_k hU71 (by exact Nat.ne_of_beq_eq_false rfl) 0 m
          rw [e74] at b73 b73b ⊢
          refine rg_i (by omega) ?_
          refine iy_i (by omega) (by omega) ?_
          refine x_nm (fun U75 hU75 => ?_)
          have e76 := up_f hU75
          refine hK 115 _ [vI m, vR 111 0] U75 ?_
          have e77 : U75 111 0 29 = T 111 0 29 := (up_k hU75 (by exact Nat.ne_of_beq_eq_false rfl) 0 29).trans (up_k hU71 (by exact Nat.ne_of_beq_eq_false rfl) 0 29)
          have fz : fr_ [(254, []), (252, [])] T U75 := fr_u (fr_u (fr_0 _ _) hU71 rfl) hU75 rfl
          have rbd := rb_del (T' := U75) (i := i.toNat) hB (by omega) hx9.1 (fz 111 0 29 rfl) (fz 111 0 47 rfl) (fun j hj => (up_k hU75 (by exact Nat.ne_of_beq_eq_false rfl) 0 j).trans (up_k hU71 (by exact Nat.ne_of_beq_eq_false rfl) 0 j)) (fun j hj => (up_g hU75 (fun q => hj q.2.2)).trans (up_k hU71 (by exact Nat.ne_of_beq_eq_false rfl) 0 j)) (fun j => fz 255 0 j rfl) (fun j => fz 256 0 j rfl) (up_f hU75) (Or.inr ⟨fz 253 0 m rfl, (i - 1).toNat, x69, by omega, hx69.1, (up_k hU75 (by exact Nat.ne_of_beq_eq_false rfl) 0 x69).trans (up_f hU71), fun z hz => (up_k hU75 (by exact Nat.ne_of_beq_eq_false rfl) 0 z).trans (up_g hU71 (fun q => hz q.2.2))⟩)
          have rwz := rw_d hB rbd.1 (fz 111 0 29 rfl) (cl_k (fun k j h => fz k 0 j (by rcases h with rfl | rfl | rfl | rfl <;> rfl))) (by omega) (by omega)
          refine j_callV (y := yX11_playAnew) (Yc := zX11_playAnew) (rest := []) [vI m] (ct_X11_playAnew_e (T := U75) (ru := ru) (by omega) (by exact MC__f (ws := [(254, []), (252, [])]) hmc (fr_u (fr_u (fr_0 _ _) hU71 rfl) hU75 rfl) ⟨fun _ => rfl, rfl, rfl, trivial⟩) (by exact RI__f (ws := [(254, []), (252, [])]) hri (fr_u (fr_u (fr_0 _ _) hU71 rfl) hU75 rfl) ⟨fun _ => rfl, rfl, trivial⟩) (by exact FM__f (ws := [(254, [])]) (FM__f (ws := [(252, [])]) (hfm) (fr_u (fr_0 _ _) hU71 rfl) ⟨fun _ => rfl, fun _ => rfl, trivial⟩) (fr_u (fr_0 _ _) hU75 rfl) ⟨fun _ => rfl, fun _ => rfl, trivial⟩) (by exact ⟨_, rbd.1, rbd.2⟩) (by exact ZS__f (ws := [(254, []), (252, [])]) hzs (fr_u (fr_u (fr_0 _ _) hU71 rfl) hU75 rfl) ⟨fun _ => rfl, fun _ => rfl, trivial⟩) (by exact gx_f hgs fz ⟨fun _ => rfl, fun _ => rfl, fun _ => rfl⟩ (fun j hj => (up_g hU75 (fun q => hj q.2.2)).trans (up_k hU71 (by exact Nat.ne_of_beq_eq_false rfl) 0 j)) (Or.inl rfl)) (rlr_f (ws := [(254, []), (252, [])]) hrl (fr_u (fr_u (fr_0 _ _) hU71 rfl) hU75 rfl) (fun _ => rfl) (fun _ => rfl))) cl_X11_473 (qd_c (by decide +kernel)) (nn_ _) rfl (rf_of rfl) (Nat.le_of_ble_eq_true rfl) (Nat.le_of_ble_eq_true rfl) (Nat.le_of_ble_eq_true rfl) rfl ?_
          rintro U78 _ ⟨x79, rfl, fU78, ⟨qU78a, qU78b, qU78z, qU78g, qU78r, qU78n, qU78o⟩⟩
          show J_ zX11_review T (po_X11_review_e T ru m i k s p q) 0 0 118 _ [vI x79] U78
          refine j_blx (F := fX11) tb_X11 (nn_ _) bk_X11_review_e_118 bs_X11_review_e_118 hz (fun K hK => ?_)
          refine (show po_X11_review_e T ru m i k s p q U78 (some (vI x79)) from ?_)
          have omz : OMR_ T U78 m := ⟨ro_t (rp_xo (fun K j h => fz K 0 j (by rcases h with rfl | rfl | rfl | rfl | rfl | rfl | rfl | rfl | rfl | rfl | rfl <;> rfl))) qU78o.1, fun j hj j0 j1 => ⟨((qU78o.2 j hj j0 (by have := fz 111 0 29 rfl; omega)).1).trans (rwz.2 j hj j0 j1), (qU78r j hj).1.trans ((up_g hU75 (fun q => hj q.2.2)).trans (up_k hU71 (by exact Nat.ne_of_beq_eq_false rfl) 0 j)), (qU78r j hj).2.trans ((up_k hU75 (by exact Nat.ne_of_beq_eq_false rfl) 0 j).trans (up_k hU71 (by exact Nat.ne_of_beq_eq_false rfl) 0 j))⟩⟩
          have rnz : ∀ x, RNR_ ru m x U75 U78 (rw9_ U75 m) → RNR_ ru m x T U78 ((rw9_ T m).eraseIdx i.toNat) := fun x z => by
            obtain ⟨b, z1, z2, z3, z4, z5⟩ := z
            rw [rwz.1] at z2 z3 z4
            rw [rp_x (T := T) (T1 := U75) (m := m) (fun K j h => fz K 0 j (by rcases h with rfl | rfl | rfl | rfl | rfl | rfl | rfl | rfl | rfl | rfl | rfl <;> rfl))] at z1
            exact ⟨b, z1, z2, z3, z4, by rw [z5, fz 256 0 m rfl]⟩
          exact ⟨_, rfl, fr_t (fr_u (fr_u (fr_0 _ _) hU71 rfl) hU75 rfl) (fr_s fU78 rfl), qU78a, qU78b, qU78z, qU78g, fun j hk => (fun (hj : j ≠ m) => ⟨(qU78r j hj).1.trans ((up_g hU75 (fun q => hj q.2.2)).trans (up_k hU71 (by exact Nat.ne_of_beq_eq_false rfl) 0 j)), (qU78r j hj).2.trans ((up_k hU75 (by exact Nat.ne_of_beq_eq_false rfl) 0 j).trans (up_k hU71 (by exact Nat.ne_of_beq_eq_false rfl) 0 j))⟩) (by omega), Or.inr ⟨by omega, omz, Or.inl ⟨by omega, rnz _ qU78n⟩⟩⟩
        · refine ix_i (by omega) ?_
          intro b80 b80b
          refine iy_i (by omega) (by omega) ?_
          refine x_nm (fun U81 hU81 => ?_)
          have e82 := up_f hU81
          refine hK 103 _ [] U81 ?_
          refine j_blx (F := fX11) tb_X11 (nn_ _) bk_X11_review_e_103 bs_X11_review_e_103 hz (fun K hK => ?_)
          refine ix_i (by omega) ?_
          intro b83 b83b
          have e84 : U81 254 0 m = T 254 0 m := up_k hU81 (by exact Nat.ne_of_beq_eq_false rfl) 0 m
          rw [e84] at b83 b83b ⊢
          refine rg_i (by omega) ?_
          refine iy_i (by omega) (by omega) ?_
          refine x_nm (fun U85 hU85 => ?_)
          have e86 := up_f hU85
          refine hK 115 _ [vI m, vR 111 0] U85 ?_
          have e87 : U85 111 0 29 = T 111 0 29 := (up_k hU85 (by exact Nat.ne_of_beq_eq_false rfl) 0 29).trans (up_k hU81 (by exact Nat.ne_of_beq_eq_false rfl) 0 29)
          have fz : fr_ [(254, []), (253, [])] T U85 := fr_u (fr_u (fr_0 _ _) hU81 rfl) hU85 rfl
          have rbd := rb_del (T' := U85) (i := i.toNat) hB (by omega) hx9.1 (fz 111 0 29 rfl) (fz 111 0 47 rfl) (fun j hj => (up_k hU85 (by exact Nat.ne_of_beq_eq_false rfl) 0 j).trans (up_g hU81 (fun q => hj q.2.2))) (fun j hj => (up_g hU85 (fun q => hj q.2.2)).trans (up_k hU81 (by exact Nat.ne_of_beq_eq_false rfl) 0 j)) (fun j => fz 255 0 j rfl) (fun j => fz 256 0 j rfl) (up_f hU85) (Or.inl ⟨by omega, (up_k hU85 (by exact Nat.ne_of_beq_eq_false rfl) 0 m).trans (up_f hU81), fun z => fz 252 0 z rfl⟩)
          have rwz := rw_d hB rbd.1 (fz 111 0 29 rfl) (cl_k (fun k j h => fz k 0 j (by rcases h with rfl | rfl | rfl | rfl <;> rfl))) (by omega) (by omega)
          refine j_callV (y := yX11_playAnew) (Yc := zX11_playAnew) (rest := []) [vI m] (ct_X11_playAnew_e (T := U85) (ru := ru) (by omega) (by exact MC__f (ws := [(254, []), (253, [])]) hmc (fr_u (fr_u (fr_0 _ _) hU81 rfl) hU85 rfl) ⟨fun _ => rfl, rfl, rfl, trivial⟩) (by exact RI__f (ws := [(254, []), (253, [])]) hri (fr_u (fr_u (fr_0 _ _) hU81 rfl) hU85 rfl) ⟨fun _ => rfl, rfl, trivial⟩) (by exact FM__f (ws := [(254, [])]) (FM__f (ws := [(253, [])]) (hfm) (fr_u (fr_0 _ _) hU81 rfl) ⟨fun _ => rfl, fun _ => rfl, trivial⟩) (fr_u (fr_0 _ _) hU85 rfl) ⟨fun _ => rfl, fun _ => rfl, trivial⟩) (by exact ⟨_, rbd.1, rbd.2⟩) (by exact ZS__f (ws := [(254, []), (253, [])]) hzs (fr_u (fr_u (fr_0 _ _) hU81 rfl) hU85 rfl) ⟨fun _ => rfl, fun _ => rfl, trivial⟩) (by exact gx_f hgs fz ⟨fun _ => rfl, fun _ => rfl, fun _ => rfl⟩ (fun j hj => (up_g hU85 (fun q => hj q.2.2)).trans (up_k hU81 (by exact Nat.ne_of_beq_eq_false rfl) 0 j)) (Or.inl rfl)) (rlr_f (ws := [(254, []), (253, [])]) hrl (fr_u (fr_u (fr_0 _ _) hU81 rfl) hU85 rfl) (fun _ => rfl) (fun _ => rfl))) cl_X11_473 (qd_c (by decide +kernel)) (nn_ _) rfl (rf_of rfl) (Nat.le_of_ble_eq_true rfl) (Nat.le_of_ble_eq_true rfl) (Nat.le_of_ble_eq_true rfl) rfl ?_
          rintro U88 _ ⟨x89, rfl, fU88, ⟨qU88a, qU88b, qU88z, qU88g, qU88r, qU88n, qU88o⟩⟩
          show J_ zX11_review T (po_X11_review_e T ru m i k s p q) 0 0 118 _ [vI x89] U88
          refine j_blx (F := fX11) tb_X11 (nn_ _) bk_X11_review_e_118 bs_X11_review_e_118 hz (fun K hK => ?_)
          refine (show po_X11_review_e T ru m i k s p q U88 (some (vI x89)) from ?_)
          have omz : OMR_ T U88 m := ⟨ro_t (rp_xo (fun K j h => fz K 0 j (by rcases h with rfl | rfl | rfl | rfl | rfl | rfl | rfl | rfl | rfl | rfl | rfl <;> rfl))) qU88o.1, fun j hj j0 j1 => ⟨((qU88o.2 j hj j0 (by have := fz 111 0 29 rfl; omega)).1).trans (rwz.2 j hj j0 j1), (qU88r j hj).1.trans ((up_g hU85 (fun q => hj q.2.2)).trans (up_k hU81 (by exact Nat.ne_of_beq_eq_false rfl) 0 j)), (qU88r j hj).2.trans ((up_k hU85 (by exact Nat.ne_of_beq_eq_false rfl) 0 j).trans (up_k hU81 (by exact Nat.ne_of_beq_eq_false rfl) 0 j))⟩⟩
          have rnz : ∀ x, RNR_ ru m x U85 U88 (rw9_ U85 m) → RNR_ ru m x T U88 ((rw9_ T m).eraseIdx i.toNat) := fun x z => by
            obtain ⟨b, z1, z2, z3, z4, z5⟩ := z
            rw [rwz.1] at z2 z3 z4
            rw [rp_x (T := T) (T1 := U85) (m := m) (fun K j h => fz K 0 j (by rcases h with rfl | rfl | rfl | rfl | rfl | rfl | rfl | rfl | rfl | rfl | rfl <;> rfl))] at z1
            exact ⟨b, z1, z2, z3, z4, by rw [z5, fz 256 0 m rfl]⟩
          exact ⟨_, rfl, fr_t (fr_u (fr_u (fr_0 _ _) hU81 rfl) hU85 rfl) (fr_s fU88 rfl), qU88a, qU88b, qU88z, qU88g, fun j hk => (fun (hj : j ≠ m) => ⟨(qU88r j hj).1.trans ((up_g hU85 (fun q => hj q.2.2)).trans (up_k hU81 (by exact Nat.ne_of_beq_eq_false rfl) 0 j)), (qU88r j hj).2.trans ((up_k hU85 (by exact Nat.ne_of_beq_eq_false rfl) 0 j).trans (up_k hU81 (by exact Nat.ne_of_beq_eq_false rfl) 0 j))⟩) (by omega), Or.inr ⟨by omega, omz, Or.inl ⟨by omega, rnz _ qU88n⟩⟩⟩
    · replace hx5 := hx5.resolve_left (fun z => absurd (c6.symm.trans z.1) (by decide))
      clear c6
      refine (show po_X11_review_e T ru m i k s p q T (some (vI (-2))) from ?_)
      exact ⟨_, rfl, fr_0 _ _, hfm, hrx, hzs, hgs, fun _ _ => ⟨rfl, rfl⟩, Or.inl ⟨rfl, by omega, rfl⟩⟩
theorem bk_X11_start_e_0 : ck_ fX11 (some .int) cX11_start 0 [.iload 1, .aload 0, .tableswitch 0 11 29 #[]] 5 = true := qck_r (nn_ _) (by decide +kernel)
theorem bs_X11_start_e_0 {P : Zt → Option Zv → Prop} (K : Int → Zl → List Zv → Zt → Prop) : sx_ K P [.iload 1, .aload 0, .tableswitch 0 11 29 #[]] 5 = x_iload 1 (x_aload 0 (x_g0 111 29 0 400 (K 5))) := ((xe_iload 1).trans (congrArg (x_iload 1) ((xe_aload 0).trans (congrArg (x_aload 0) ((xe_g0 (kk := 111) rfl tl_11_29).trans (congrArg (x_g0 111 29 0 400) xe_nil))))))
theorem bk_X11_start_e_8 : ck_ fX11 (some .int) cX11_start 8 [.ifCond .ne 14, .iconst (-2), .ireturn] 14 = true := qck_r (nn_ _) (by decide +kernel)
theorem bs_X11_start_e_8 {P : Zt → Option Zv → Prop} (K : Int → Zl → List Zv → Zt → Prop) : sx_ K P [.ifCond .ne 14, .iconst (-2), .ireturn] 14 = x_ifCond .ne 14 K (x_iconst (-2) (x_ireturn P)) := ((xe_ifCond .ne 14).trans (congrArg (x_ifCond .ne 14 K) ((xe_iconst (-2)).trans (congrArg (x_iconst (-2)) (xe_ireturn)))))
theorem bk_X11_start_e_14 : ck_ fX11 (some .int) cX11_start 14 [.aload 0, .aload 0, .tableswitch 0 11 30 #[], .iload 1, .iaload, .iconst 9] 23 = true := qck_r (nn_ _) (by decide +kernel)
theorem bs_X11_start_e_14 {P : Zt → Option Zv → Prop} (K : Int → Zl → List Zv → Zt → Prop) : sx_ K P [.aload 0, .aload 0, .tableswitch 0 11 30 #[], .iload 1, .iaload, .iconst 9] 23 = x_aload 0 (x_aload 0 (x_g1 111 230 (x_iload 1 (x_iaload (x_iconst 9 (K 23)))))) := ((xe_aload 0).trans (congrArg (x_aload 0) ((xe_aload 0).trans (congrArg (x_aload 0) ((xe_g1 (kk := 111) rfl tl_11_30).trans (congrArg (x_g1 111 230) ((xe_iload 1).trans (congrArg (x_iload 1) ((xe_iaload).trans (congrArg (x_iaload) ((xe_iconst 9).trans (congrArg (x_iconst 9) xe_nil))))))))))))
theorem bk_X11_start_e_26 : ck_ fX11 (some .int) cX11_start 26 [.istore 2, .aload 0, .tableswitch 0 11 35 #[], .iload 1, .iaload, .ifCond .ne 75, .aload 0, .tableswitch 0 11 34 #[], .iload 1, .iaload, .aload 0, .tableswitch 0 11 3 #[], .if_icmp .ne 75, .aload 0, .tableswitch 0 11 39 #[], .iconst 2, .iload 1, .imul, .iaload, .iload 2, .if_icmp .lt 75, .aload 0, .tableswitch 0 11 39 #[], .iconst 2, .iload 1, .imul, .iconst 1, .iadd, .iaload, .iload 2, .if_icmp .ge 78, .iconst (-4), .ireturn] 78 = true := qck_r (nn_ _) (by decide +kernel)
theorem bs_X11_start_e_26 {P : Zt → Option Zv → Prop} (K : Int → Zl → List Zv → Zt → Prop) : sx_ K P [.istore 2, .aload 0, .tableswitch 0 11 35 #[], .iload 1, .iaload, .ifCond .ne 75, .aload 0, .tableswitch 0 11 34 #[], .iload 1, .iaload, .aload 0, .tableswitch 0 11 3 #[], .if_icmp .ne 75, .aload 0, .tableswitch 0 11 39 #[], .iconst 2, .iload 1, .imul, .iaload, .iload 2, .if_icmp .lt 75, .aload 0, .tableswitch 0 11 39 #[], .iconst 2, .iload 1, .imul, .iconst 1, .iadd, .iaload, .iload 2, .if_icmp .ge 78, .iconst (-4), .ireturn] 78 = x_istore 2 (x_aload 0 (x_g1 111 235 (x_iload 1 (x_iaload (x_ifCond .ne 75 K (x_aload 0 (x_g1 111 234 (x_iload 1 (x_iaload (x_aload 0 (x_g0 111 3 0 999 (x_if_icmp .ne 75 K (x_aload 0 (x_g1 111 239 (x_iconst 2 (x_iload 1 (x_imul (x_iaload (x_iload 2 (x_if_icmp .lt 75 K (x_aload 0 (x_g1 111 239 (x_iconst 2 (x_iload 1 (x_imul (x_iconst 1 (x_iadd (x_iaload (x_iload 2 (x_if_icmp .ge 78 K (x_iconst (-4) (x_ireturn P)))))))))))))))))))))))))))))))) := ((xe_istore 2).trans (congrArg (x_istore 2) ((xe_aload 0).trans (congrArg (x_aload 0) ((xe_g1 (kk := 111) rfl tl_11_35).trans (congrArg (x_g1 111 235) ((xe_iload 1).trans (congrArg (x_iload 1) ((xe_iaload).trans (congrArg (x_iaload) ((xe_ifCond .ne 75).trans (congrArg (x_ifCond .ne 75 K) ((xe_aload 0).trans (congrArg (x_aload 0) ((xe_g1 (kk := 111) rfl tl_11_34).trans (congrArg (x_g1 111 234) ((xe_iload 1).trans (congrArg (x_iload 1) ((xe_iaload).trans (congrArg (x_iaload) ((xe_aload 0).trans (congrArg (x_aload 0) ((xe_g0 (kk := 111) rfl tl_11_3).trans (congrArg (x_g0 111 3 0 999) ((xe_if_icmp .ne 75).trans (congrArg (x_if_icmp .ne 75 K) ((xe_aload 0).trans (congrArg (x_aload 0) ((xe_g1 (kk := 111) rfl tl_11_39).trans (congrArg (x_g1 111 239) ((xe_iconst 2).trans (congrArg (x_iconst 2) ((xe_iload 1).trans (congrArg (x_iload 1) ((xe_imul).trans (congrArg (x_imul) ((xe_iaload).trans (congrArg (x_iaload) ((xe_iload 2).trans (congrArg (x_iload 2) ((xe_if_icmp .lt 75).trans (congrArg (x_if_icmp .lt 75 K) ((xe_aload 0).trans (congrArg (x_aload 0) ((xe_g1 (kk := 111) rfl tl_11_39).trans (congrArg (x_g1 111 239) ((xe_iconst 2).trans (congrArg (x_iconst 2) ((xe_iload 1).trans (congrArg (x_iload 1) ((xe_imul).trans (congrArg (x_imul) ((xe_iconst 1).trans (congrArg (x_iconst 1) ((xe_iadd).trans (congrArg (x_iadd) ((xe_iaload).trans (congrArg (x_iaload) ((xe_iload 2).trans (congrArg (x_iload 2) ((xe_if_icmp .ge 78).trans (congrArg (x_if_icmp .ge 78 K) ((xe_iconst (-4)).trans (congrArg (x_iconst (-4)) (xe_ireturn)))))))))))))))))))))))))))))))))))))))))))))))))))))))))))))))))
theorem bk_X11_start_e_75 : ck_ fX11 (some .int) cX11_start 75 [.iconst (-4), .ireturn] 78 = true := qck_r (nn_ _) (by decide +kernel)
theorem bs_X11_start_e_75 {P : Zt → Option Zv → Prop} (K : Int → Zl → List Zv → Zt → Prop) : sx_ K P [.iconst (-4), .ireturn] 78 = x_iconst (-4) (x_ireturn P) := ((xe_iconst (-4)).trans (congrArg (x_iconst (-4)) (xe_ireturn)))
theorem bk_X11_start_e_78 : ck_ fX11 (some .int) cX11_start 78 [.aload 0, .iload 1] 80 = true := qck_r (nn_ _) (by decide +kernel)
theorem bs_X11_start_e_78 {P : Zt → Option Zv → Prop} (K : Int → Zl → List Zv → Zt → Prop) : sx_ K P [.aload 0, .iload 1] 80 = x_aload 0 (x_iload 1 (K 80)) := ((xe_aload 0).trans (congrArg (x_aload 0) ((xe_iload 1).trans (congrArg (x_iload 1) xe_nil))))
theorem bk_X11_start_e_83 : ck_ fX11 (some .int) cX11_start 83 [.iconst 1, .ireturn] 85 = true := qck_r (nn_ _) (by decide +kernel)
theorem bs_X11_start_e_83 {P : Zt → Option Zv → Prop} (K : Int → Zl → List Zv → Zt → Prop) : sx_ K P [.iconst 1, .ireturn] 85 = x_iconst 1 (x_ireturn P) := ((xe_iconst 1).trans (congrArg (x_iconst 1) (xe_ireturn)))
abbrev po_X11_start_e (T : Zt) (ru : Int → Int) (m : Int) : Zt → Option Zv → Prop := fun T' r => ∃ x : Int, r = some (vI x) ∧ fr_ [(244, []), (241, []), (242, []), (243, []), (245, []), (246, []), (236, []), (237, []), (235, [])] T T' ∧ ((FM_ T' ∧ ZS_ T' ∧ GX_ T' (-1)) ∧ ((x = -2 ∧ ¬ (0 ≤ m ∧ m < T 111 0 29) ∧ T = T') ∨ ((0 ≤ m ∧ m < T 111 0 29) ∧ ((x = -4 ∧ ¬ (T 235 0 m = 0 ∧ T 234 0 m = T 111 0 3 ∧ T 205 0 (23 * T 230 0 m + 9) ≤ T 239 0 (2 * m) ∧ T 205 0 (23 * T 230 0 m + 9) ≤ T 239 0 (2 * m + 1)) ∧ T = T') ∨ (x = 1 ∧ (T 235 0 m = 0 ∧ T 234 0 m = T 111 0 3 ∧ T 205 0 (23 * T 230 0 m + 9) ≤ T 239 0 (2 * m) ∧ T 205 0 (23 * T 230 0 m + 9) ≤ T 239 0 (2 * m + 1)) ∧ BGR_ m ru (rp9_ T m) (rp9_ T' m) ∧ ro9_ T T' m)))))
set_option maxHeartbeats 4000000 in
theorem ct_X11_start_e {T : Zt} {ru : Int → Int} {m : Int} (hmc : MC_ T) (hri : RI_ T) (hfm : FM_ T) (hzs : ZS_ T) (hgs : GX_ T (-1)) (hrl : RLR_ T m ru) : Ct_ yX11_start zX11_start T [vR 111 0, vI m] (po_X11_start_e T ru m) := by
  refine ct_of pn_11 rfl rfl (Nat.le_of_ble_eq_true rfl) (fun hT hav => ?_)
  have hr_m : -2147483648 ≤ m ∧ m ≤ 2147483647 := hav (vI m) (List.mem_cons_of_mem _ List.mem_cons_self)
  have hz : zX11_start.2.2.2.1 = some .boolean → ∀ (T' : Zt) (x : Int), po_X11_start_e T ru m T' (some (vI x)) → 0 ≤ x ∧ x ≤ 1 := fun h => by cases h
  have hb_29 : 0 ≤ T 111 0 29 ∧ T 111 0 29 ≤ 400 := bd_f hT 111 29 tl_11_29 0
  have hb_6 : 0 ≤ T 111 0 6 ∧ T 111 0 6 ≤ 4 := bd_f hT 111 6 tl_11_6 0
  show J_ zX11_start T (po_X11_start_e T ru m) 0 0 0 [some (vR 111 0), some (vI m), none] [] T
  refine j_blx (F := fX11) tb_X11 (nn_ _) bk_X11_start_e_0 bs_X11_start_e_0 hz (fun K hK => ?_)
  intro b1 b1b
  refine hK 5 _ [vI (T 111 0 29), vI m] T ?_
  refine j_callS (y := yX11_isOf) (Yc := zX11_isOf) (rest := []) [vI m, vI (T 111 0 29)] (ct_X11_isOf (T := T) (by omega)) cl_X11_317 (qd_c (by decide +kernel)) (nn_ _) rfl (rf_of rfl) (Nat.le_of_ble_eq_true rfl) (Nat.le_of_ble_eq_true rfl) (Nat.le_of_ble_eq_true rfl) rfl ?_
  rintro _ _ ⟨rfl, x2, rfl, hx2⟩
  show J_ zX11_start T (po_X11_start_e T ru m) 0 0 8 _ [vI x2] T
  refine j_blx (F := fX11) tb_X11 (nn_ _) bk_X11_start_e_8 bs_X11_start_e_8 hz (fun K hK => ?_)
  refine And.intro (fun c3 => ?_) (fun c3 => ?_)
  · replace hx2 := hx2.resolve_right (fun z => c3 z.1)
    clear c3
    refine hK 14 _ [] T ?_
    refine j_blx (F := fX11) tb_X11 (nn_ _) bk_X11_start_e_14 bs_X11_start_e_14 hz (fun K hK => ?_)
    refine ix_i (by omega) ?_
    intro b4 b4b
    refine hK 23 _ [vI 9, vI (T 230 0 m), vR 111 0] T ?_
    refine j_callV (y := yX11_rule0) (Yc := zX11_rule0) (rest := []) [vI (T 230 0 m), vI 9] (ct_X11_rule0 (T := T) (by omega) (by omega)) cl_X11_321 (qd_c (by decide +kernel)) (nn_ _) rfl (rf_of rfl) (Nat.le_of_ble_eq_true rfl) (Nat.le_of_ble_eq_true rfl) (Nat.le_of_ble_eq_true rfl) rfl ?_
    rintro _ _ ⟨rfl, rfl⟩
    show J_ zX11_start T (po_X11_start_e T ru m) 0 0 26 _ [vI (T 205 0 (23 * (T 230 0 m) + 9))] T
    have hcm := hmc m (by omega) (by omega)
    have hcb : 0 ≤ T 230 0 m ∧ T 230 0 m ≤ 3 := bd_a hT 230 (by decide +kernel : ta_ 230 = some (1, some 400, 0, 3)) 0 (by omega)
    have hr9 : (1 : Int) ≤ T 205 0 (23 * T 230 0 m + 9) ∧ T 205 0 (23 * T 230 0 m + 9) ≤ (6 : Int) := hri (T 230 0 m) 9 (by omega) (by omega) (by omega) (by omega)
    refine j_blx (F := fX11) tb_X11 (nn_ _) bk_X11_start_e_26 bs_X11_start_e_26 hz (fun K hK => ?_)
    refine ix_i (by omega) ?_
    intro b5 b5b
    refine And.intro (fun c6 => ?_) (fun c6 => ?_)
    · refine hK 75 [some (vR 111 0), some (vI m), some (vI (T 205 0 (23 * (T 230 0 m) + 9)))] [] T ?_
      refine j_blx (F := fX11) tb_X11 (nn_ _) bk_X11_start_e_75 bs_X11_start_e_75 hz (fun K hK => ?_)
      refine (show po_X11_start_e T ru m T (some (vI (-4))) from ?_)
      exact ⟨_, rfl, fr_0 _ _, ⟨hfm, hzs, hgs⟩, Or.inr ⟨by omega, Or.inl ⟨rfl, by omega, rfl⟩⟩⟩
    · refine ix_i (by omega) ?_
      intro b7 b7b
      intro b8 b8b
      refine And.intro (fun c9 => ?_) (fun c9 => ?_)
      · refine hK 75 _ [] T ?_
        refine j_blx (F := fX11) tb_X11 (nn_ _) bk_X11_start_e_75 bs_X11_start_e_75 hz (fun K hK => ?_)
        refine (show po_X11_start_e T ru m T (some (vI (-4))) from ?_)
        exact ⟨_, rfl, fr_0 _ _, ⟨hfm, hzs, hgs⟩, Or.inr ⟨by omega, Or.inl ⟨rfl, by omega, rfl⟩⟩⟩
      · refine rg_i (by omega) ?_
        refine ix_i (by omega) ?_
        intro b10 b10b
        refine And.intro (fun c11 => ?_) (fun c11 => ?_)
        · refine hK 75 _ [] T ?_
          refine j_blx (F := fX11) tb_X11 (nn_ _) bk_X11_start_e_75 bs_X11_start_e_75 hz (fun K hK => ?_)
          refine (show po_X11_start_e T ru m T (some (vI (-4))) from ?_)
          exact ⟨_, rfl, fr_0 _ _, ⟨hfm, hzs, hgs⟩, Or.inr ⟨by omega, Or.inl ⟨rfl, by omega, rfl⟩⟩⟩
        · refine rg_i (by omega) ?_
          refine rg_i (by omega) ?_
          refine ix_i (by omega) ?_
          intro b12 b12b
          refine And.intro (fun c13 => ?_) (fun c13 => ?_)
          · refine hK 78 _ [] T ?_
            refine j_blx (F := fX11) tb_X11 (nn_ _) bk_X11_start_e_78 bs_X11_start_e_78 hz (fun K hK => ?_)
            refine hK 80 _ [vI m, vR 111 0] T ?_
            refine j_callV (y := yX11_layBeginning) (Yc := zX11_layBeginning) (rest := []) [vI m] (ct_X11_layBeginning_e (T := T) (by omega) (hmc) (hri) (hfm) (hzs)) cl_X11_390 (qd_c (by decide +kernel)) (nn_ _) rfl (rf_of rfl) (Nat.le_of_ble_eq_true rfl) (Nat.le_of_ble_eq_true rfl) (Nat.le_of_ble_eq_true rfl) rfl ?_
            rintro U14 _ ⟨rfl, fU14, qU14, qU14o, qU14b, l1U14, l2U14, l3U14, l4U14, l5U14, l6U14, l7U14, l8U14, qU14p⟩
            show J_ zX11_start T (po_X11_start_e T ru m) 0 0 83 _ [] U14
            refine j_blx (F := fX11) tb_X11 (nn_ _) bk_X11_start_e_83 bs_X11_start_e_83 hz (fun K hK => ?_)
            refine (show po_X11_start_e T ru m U14 (some (vI 1)) from ?_)
            have ff : fr_ [(244, []), (241, []), (242, []), (243, []), (245, []), (246, []), (236, []), (237, []), (235, [])] T U14 := fr_t (fr_0 _ _) (fr_s fU14 rfl)
            have so5 : SO_ T U14 m := so_t (so_r) qU14o (fun j => rfl)
            have hrm : 0 ≤ T 254 0 m ∧ T 254 0 m ≤ 3000 := bd_a hT 254 (by decide +kernel : ta_ 254 = some (1, some 400, 0, 3000)) 0 (by omega)
            have e9 := hrl 9 (by decide) (by decide)
            have bg0 := bg_l (T := T) (T' := U14) (m := m) hrl (by omega) (fun t a b => bd_a hT 239 (by decide +kernel : ta_ 239 = some (1, some 800, 0, 10)) 0 (by omega)) (fun j => fU14 239 0 j rfl) (fun j => fU14 240 0 j rfl) l1U14 l2U14 l3U14 l4U14 l5U14 l6U14 l7U14 l8U14
            exact ⟨_, rfl, fr_s ff rfl, ⟨qU14, zs_o hzs so5 (fun j => ff 239 0 j rfl), gx_o (gx_x hgs) so5 (sb1_m (qU14b) (by rw [ff 254 0 m rfl]; omega)) (fun j _ => ff 254 0 j rfl)⟩, Or.inr ⟨by omega, Or.inr ⟨rfl, by omega, bg0, qU14p⟩⟩⟩
          · refine (show po_X11_start_e T ru m T (some (vI (-4))) from ?_)
            exact ⟨_, rfl, fr_0 _ _, ⟨hfm, hzs, hgs⟩, Or.inr ⟨by omega, Or.inl ⟨rfl, by omega, rfl⟩⟩⟩
  · replace hx2 := hx2.resolve_left (fun z => absurd (c3.symm.trans z.1) (by decide))
    clear c3
    refine (show po_X11_start_e T ru m T (some (vI (-2))) from ?_)
    exact ⟨_, rfl, fr_0 _ _, ⟨hfm, hzs, hgs⟩, Or.inl ⟨rfl, by omega, rfl⟩⟩
theorem bk_X11_walkOver_e_0 : ck_ fX11 (some .int) cX11_walkOver 0 [.iload 1, .aload 0, .tableswitch 0 11 29 #[]] 5 = true := qck_r (nn_ _) (by decide +kernel)
theorem bs_X11_walkOver_e_0 {P : Zt → Option Zv → Prop} (K : Int → Zl → List Zv → Zt → Prop) : sx_ K P [.iload 1, .aload 0, .tableswitch 0 11 29 #[]] 5 = x_iload 1 (x_aload 0 (x_g0 111 29 0 400 (K 5))) := ((xe_iload 1).trans (congrArg (x_iload 1) ((xe_aload 0).trans (congrArg (x_aload 0) ((xe_g0 (kk := 111) rfl tl_11_29).trans (congrArg (x_g0 111 29 0 400) xe_nil))))))
theorem bk_X11_walkOver_e_8 : ck_ fX11 (some .int) cX11_walkOver 8 [.ifCond .ne 14, .iconst (-2), .ireturn] 14 = true := qck_r (nn_ _) (by decide +kernel)
theorem bs_X11_walkOver_e_8 {P : Zt → Option Zv → Prop} (K : Int → Zl → List Zv → Zt → Prop) : sx_ K P [.ifCond .ne 14, .iconst (-2), .ireturn] 14 = x_ifCond .ne 14 K (x_iconst (-2) (x_ireturn P)) := ((xe_ifCond .ne 14).trans (congrArg (x_ifCond .ne 14 K) ((xe_iconst (-2)).trans (congrArg (x_iconst (-2)) (xe_ireturn)))))
theorem bk_X11_walkOver_e_14 : ck_ fX11 (some .int) cX11_walkOver 14 [.iload 2, .iconst 0, .iconst 1] 17 = true := qck_r (nn_ _) (by decide +kernel)
theorem bs_X11_walkOver_e_14 {P : Zt → Option Zv → Prop} (K : Int → Zl → List Zv → Zt → Prop) : sx_ K P [.iload 2, .iconst 0, .iconst 1] 17 = x_iload 2 (x_iconst 0 (x_iconst 1 (K 17))) := ((xe_iload 2).trans (congrArg (x_iload 2) ((xe_iconst 0).trans (congrArg (x_iconst 0) ((xe_iconst 1).trans (congrArg (x_iconst 1) xe_nil))))))
theorem bk_X11_walkOver_e_20 : ck_ fX11 (some .int) cX11_walkOver 20 [.ifCond .ne 26, .iconst (-3), .ireturn] 26 = true := qck_r (nn_ _) (by decide +kernel)
theorem bs_X11_walkOver_e_20 {P : Zt → Option Zv → Prop} (K : Int → Zl → List Zv → Zt → Prop) : sx_ K P [.ifCond .ne 26, .iconst (-3), .ireturn] 26 = x_ifCond .ne 26 K (x_iconst (-3) (x_ireturn P)) := ((xe_ifCond .ne 26).trans (congrArg (x_ifCond .ne 26 K) ((xe_iconst (-3)).trans (congrArg (x_iconst (-3)) (xe_ireturn)))))
theorem bk_X11_walkOver_e_26 : ck_ fX11 (some .int) cX11_walkOver 26 [.aload 0, .tableswitch 0 11 35 #[], .iload 1, .iaload, .ifCond .ne 48, .aload 0, .tableswitch 0 11 34 #[], .iload 1, .iaload, .aload 0, .tableswitch 0 11 3 #[], .if_icmp .le 51, .iconst (-4), .ireturn] 51 = true := qck_r (nn_ _) (by decide +kernel)
theorem bs_X11_walkOver_e_26 {P : Zt → Option Zv → Prop} (K : Int → Zl → List Zv → Zt → Prop) : sx_ K P [.aload 0, .tableswitch 0 11 35 #[], .iload 1, .iaload, .ifCond .ne 48, .aload 0, .tableswitch 0 11 34 #[], .iload 1, .iaload, .aload 0, .tableswitch 0 11 3 #[], .if_icmp .le 51, .iconst (-4), .ireturn] 51 = x_aload 0 (x_g1 111 235 (x_iload 1 (x_iaload (x_ifCond .ne 48 K (x_aload 0 (x_g1 111 234 (x_iload 1 (x_iaload (x_aload 0 (x_g0 111 3 0 999 (x_if_icmp .le 51 K (x_iconst (-4) (x_ireturn P))))))))))))) := ((xe_aload 0).trans (congrArg (x_aload 0) ((xe_g1 (kk := 111) rfl tl_11_35).trans (congrArg (x_g1 111 235) ((xe_iload 1).trans (congrArg (x_iload 1) ((xe_iaload).trans (congrArg (x_iaload) ((xe_ifCond .ne 48).trans (congrArg (x_ifCond .ne 48 K) ((xe_aload 0).trans (congrArg (x_aload 0) ((xe_g1 (kk := 111) rfl tl_11_34).trans (congrArg (x_g1 111 234) ((xe_iload 1).trans (congrArg (x_iload 1) ((xe_iaload).trans (congrArg (x_iaload) ((xe_aload 0).trans (congrArg (x_aload 0) ((xe_g0 (kk := 111) rfl tl_11_3).trans (congrArg (x_g0 111 3 0 999) ((xe_if_icmp .le 51).trans (congrArg (x_if_icmp .le 51 K) ((xe_iconst (-4)).trans (congrArg (x_iconst (-4)) (xe_ireturn)))))))))))))))))))))))))))
theorem bk_X11_walkOver_e_48 : ck_ fX11 (some .int) cX11_walkOver 48 [.iconst (-4), .ireturn] 51 = true := qck_r (nn_ _) (by decide +kernel)
theorem bs_X11_walkOver_e_48 {P : Zt → Option Zv → Prop} (K : Int → Zl → List Zv → Zt → Prop) : sx_ K P [.iconst (-4), .ireturn] 51 = x_iconst (-4) (x_ireturn P) := ((xe_iconst (-4)).trans (congrArg (x_iconst (-4)) (xe_ireturn)))
theorem bk_X11_walkOver_e_51 : ck_ fX11 (some .int) cX11_walkOver 51 [.aload 0, .tableswitch 0 11 35 #[], .iload 1, .iconst 3, .iastore, .aload 0, .tableswitch 0 11 36 #[], .iload 1, .iload 2, .ifCond .ne 71, .iconst 0, .goto 83] 71 = true := qck_r (nn_ _) (by decide +kernel)
theorem bs_X11_walkOver_e_51 {P : Zt → Option Zv → Prop} (K : Int → Zl → List Zv → Zt → Prop) : sx_ K P [.aload 0, .tableswitch 0 11 35 #[], .iload 1, .iconst 3, .iastore, .aload 0, .tableswitch 0 11 36 #[], .iload 1, .iload 2, .ifCond .ne 71, .iconst 0, .goto 83] 71 = x_aload 0 (x_g1 111 235 (x_iload 1 (x_iconst 3 (x_iastore (x_aload 0 (x_g1 111 236 (x_iload 1 (x_iload 2 (x_ifCond .ne 71 K (x_iconst 0 (x_goto 83 K))))))))))) := ((xe_aload 0).trans (congrArg (x_aload 0) ((xe_g1 (kk := 111) rfl tl_11_35).trans (congrArg (x_g1 111 235) ((xe_iload 1).trans (congrArg (x_iload 1) ((xe_iconst 3).trans (congrArg (x_iconst 3) ((xe_iastore).trans (congrArg (x_iastore) ((xe_aload 0).trans (congrArg (x_aload 0) ((xe_g1 (kk := 111) rfl tl_11_36).trans (congrArg (x_g1 111 236) ((xe_iload 1).trans (congrArg (x_iload 1) ((xe_iload 2).trans (congrArg (x_iload 2) ((xe_ifCond .ne 71).trans (congrArg (x_ifCond .ne 71 K) ((xe_iconst 0).trans (congrArg (x_iconst 0) (xe_goto 83)))))))))))))))))))))))
theorem bk_X11_walkOver_e_71 : ck_ fX11 (some .int) cX11_walkOver 71 [.aload 0, .aload 0, .tableswitch 0 11 30 #[], .iload 1, .iaload, .iconst 12] 80 = true := qck_r (nn_ _) (by decide +kernel)
theorem bs_X11_walkOver_e_71 {P : Zt → Option Zv → Prop} (K : Int → Zl → List Zv → Zt → Prop) : sx_ K P [.aload 0, .aload 0, .tableswitch 0 11 30 #[], .iload 1, .iaload, .iconst 12] 80 = x_aload 0 (x_aload 0 (x_g1 111 230 (x_iload 1 (x_iaload (x_iconst 12 (K 80)))))) := ((xe_aload 0).trans (congrArg (x_aload 0) ((xe_aload 0).trans (congrArg (x_aload 0) ((xe_g1 (kk := 111) rfl tl_11_30).trans (congrArg (x_g1 111 230) ((xe_iload 1).trans (congrArg (x_iload 1) ((xe_iaload).trans (congrArg (x_iaload) ((xe_iconst 12).trans (congrArg (x_iconst 12) xe_nil))))))))))))
theorem bk_X11_walkOver_e_83 : ck_ fX11 (some .int) cX11_walkOver 83 [.iastore, .aload 0, .tableswitch 0 11 37 #[], .iload 1, .iload 2, .ifCond .ne 108, .aload 0, .aload 0, .tableswitch 0 11 30 #[], .iload 1, .iaload, .iconst 12] 102 = true := qck_r (nn_ _) (by decide +kernel)
theorem bs_X11_walkOver_e_83 {P : Zt → Option Zv → Prop} (K : Int → Zl → List Zv → Zt → Prop) : sx_ K P [.iastore, .aload 0, .tableswitch 0 11 37 #[], .iload 1, .iload 2, .ifCond .ne 108, .aload 0, .aload 0, .tableswitch 0 11 30 #[], .iload 1, .iaload, .iconst 12] 102 = x_iastore (x_aload 0 (x_g1 111 237 (x_iload 1 (x_iload 2 (x_ifCond .ne 108 K (x_aload 0 (x_aload 0 (x_g1 111 230 (x_iload 1 (x_iaload (x_iconst 12 (K 102)))))))))))) := ((xe_iastore).trans (congrArg (x_iastore) ((xe_aload 0).trans (congrArg (x_aload 0) ((xe_g1 (kk := 111) rfl tl_11_37).trans (congrArg (x_g1 111 237) ((xe_iload 1).trans (congrArg (x_iload 1) ((xe_iload 2).trans (congrArg (x_iload 2) ((xe_ifCond .ne 108).trans (congrArg (x_ifCond .ne 108 K) ((xe_aload 0).trans (congrArg (x_aload 0) ((xe_aload 0).trans (congrArg (x_aload 0) ((xe_g1 (kk := 111) rfl tl_11_30).trans (congrArg (x_g1 111 230) ((xe_iload 1).trans (congrArg (x_iload 1) ((xe_iaload).trans (congrArg (x_iaload) ((xe_iconst 12).trans (congrArg (x_iconst 12) xe_nil))))))))))))))))))))))))
theorem bk_X11_walkOver_e_108 : ck_ fX11 (some .int) cX11_walkOver 108 [.iconst 0, .iastore, .iconst 1, .ireturn] 112 = true := qck_r (nn_ _) (by decide +kernel)
theorem bs_X11_walkOver_e_108 {P : Zt → Option Zv → Prop} (K : Int → Zl → List Zv → Zt → Prop) : sx_ K P [.iconst 0, .iastore, .iconst 1, .ireturn] 112 = x_iconst 0 (x_iastore (x_iconst 1 (x_ireturn P))) := ((xe_iconst 0).trans (congrArg (x_iconst 0) ((xe_iastore).trans (congrArg (x_iastore) ((xe_iconst 1).trans (congrArg (x_iconst 1) (xe_ireturn)))))))
theorem bk_X11_walkOver_e_105 : ck_ fX11 (some .int) cX11_walkOver 105 [.goto 109] 108 = true := qck_r (nn_ _) (by decide +kernel)
theorem bs_X11_walkOver_e_105 {P : Zt → Option Zv → Prop} (K : Int → Zl → List Zv → Zt → Prop) : sx_ K P [.goto 109] 108 = x_goto 109 K := (xe_goto 109)
theorem bk_X11_walkOver_e_109 : ck_ fX11 (some .int) cX11_walkOver 109 [.iastore, .iconst 1, .ireturn] 112 = true := qck_r (nn_ _) (by decide +kernel)
theorem bs_X11_walkOver_e_109 {P : Zt → Option Zv → Prop} (K : Int → Zl → List Zv → Zt → Prop) : sx_ K P [.iastore, .iconst 1, .ireturn] 112 = x_iastore (x_iconst 1 (x_ireturn P)) := ((xe_iastore).trans (congrArg (x_iastore) ((xe_iconst 1).trans (congrArg (x_iconst 1) (xe_ireturn)))))
abbrev po_X11_walkOver_e (T : Zt) (m s : Int) : Zt → Option Zv → Prop := fun T' r => ∃ x : Int, r = some (vI x) ∧ fr_ [(235, []), (236, []), (237, [])] T T' ∧ ((FM_ T' ∧ ZS_ T' ∧ GX_ T' (-1)) ∧ ((x = -2 ∧ ¬ (0 ≤ m ∧ m < T 111 0 29) ∧ T = T') ∨ ((0 ≤ m ∧ m < T 111 0 29) ∧ ((x = -3 ∧ ¬ (0 ≤ s ∧ s ≤ 1) ∧ T = T') ∨ ((0 ≤ s ∧ s ≤ 1) ∧ ((x = -4 ∧ ¬ (T 235 0 m = 0 ∧ T 234 0 m ≤ T 111 0 3) ∧ T = T') ∨ (x = 1 ∧ (T 235 0 m = 0 ∧ T 234 0 m ≤ T 111 0 3) ∧ T' 235 0 m = 3 ∧ (s = 0 → T' 236 0 m = 0 ∧ T' 237 0 m = T 205 0 (23 * T 230 0 m + 12)) ∧ (s = 1 → T' 236 0 m = T 205 0 (23 * T 230 0 m + 12) ∧ T' 237 0 m = 0) ∧ ro9_ T T' m)))))))
set_option maxHeartbeats 4000000 in
theorem ct_X11_walkOver_e {T : Zt} {m s : Int} (hmc : MC_ T) (hri : RI_ T) (hfm : FM_ T) (hzs : ZS_ T) (hgs : GX_ T (-1)) : Ct_ yX11_walkOver zX11_walkOver T [vR 111 0, vI m, vI s] (po_X11_walkOver_e T m s) := by
  refine ct_of pn_11 rfl rfl (Nat.le_of_ble_eq_true rfl) (fun hT hav => ?_)
  have hr_m : -2147483648 ≤ m ∧ m ≤ 2147483647 := hav (vI m) (List.mem_cons_of_mem _ List.mem_cons_self)
  have hr_s : -2147483648 ≤ s ∧ s ≤ 2147483647 := hav (vI s) (List.mem_cons_of_mem _ (List.mem_cons_of_mem _ List.mem_cons_self))
  have hz : zX11_walkOver.2.2.2.1 = some .boolean → ∀ (T' : Zt) (x : Int), po_X11_walkOver_e T m s T' (some (vI x)) → 0 ≤ x ∧ x ≤ 1 := fun h => by cases h
  have hb_29 : 0 ≤ T 111 0 29 ∧ T 111 0 29 ≤ 400 := bd_f hT 111 29 tl_11_29 0
  have hb_6 : 0 ≤ T 111 0 6 ∧ T 111 0 6 ≤ 4 := bd_f hT 111 6 tl_11_6 0
  show J_ zX11_walkOver T (po_X11_walkOver_e T m s) 0 0 0 [some (vR 111 0), some (vI m), some (vI s)] [] T
  refine j_blx (F := fX11) tb_X11 (nn_ _) bk_X11_walkOver_e_0 bs_X11_walkOver_e_0 hz (fun K hK => ?_)
  intro b1 b1b
  refine hK 5 _ [vI (T 111 0 29), vI m] T ?_
  refine j_callS (y := yX11_isOf) (Yc := zX11_isOf) (rest := []) [vI m, vI (T 111 0 29)] (ct_X11_isOf (T := T) (by omega)) cl_X11_317 (qd_c (by decide +kernel)) (nn_ _) rfl (rf_of rfl) (Nat.le_of_ble_eq_true rfl) (Nat.le_of_ble_eq_true rfl) (Nat.le_of_ble_eq_true rfl) rfl ?_
  rintro _ _ ⟨rfl, x2, rfl, hx2⟩
  show J_ zX11_walkOver T (po_X11_walkOver_e T m s) 0 0 8 _ [vI x2] T
  refine j_blx (F := fX11) tb_X11 (nn_ _) bk_X11_walkOver_e_8 bs_X11_walkOver_e_8 hz (fun K hK => ?_)
  refine And.intro (fun c3 => ?_) (fun c3 => ?_)
  · replace hx2 := hx2.resolve_right (fun z => c3 z.1)
    clear c3
    refine hK 14 _ [] T ?_
    refine j_blx (F := fX11) tb_X11 (nn_ _) bk_X11_walkOver_e_14 bs_X11_walkOver_e_14 hz (fun K hK => ?_)
    refine hK 17 _ [vI 1, vI 0, vI s] T ?_
    refine j_callS (y := yX11_in) (Yc := zX11_in) (rest := []) [vI s, vI 0, vI 1] (ct_X11_in (T := T)) cl_X11_255 (qd_c (by decide +kernel)) (nn_ _) rfl (rf_of rfl) (Nat.le_of_ble_eq_true rfl) (Nat.le_of_ble_eq_true rfl) (Nat.le_of_ble_eq_true rfl) rfl ?_
    rintro _ _ ⟨rfl, x4, rfl, hx4⟩
    show J_ zX11_walkOver T (po_X11_walkOver_e T m s) 0 0 20 _ [vI x4] T
    refine j_blx (F := fX11) tb_X11 (nn_ _) bk_X11_walkOver_e_20 bs_X11_walkOver_e_20 hz (fun K hK => ?_)
    refine And.intro (fun c5 => ?_) (fun c5 => ?_)
    · replace hx4 := hx4.resolve_right (fun z => c5 z.1)
      clear c5
      refine hK 26 _ [] T ?_
      have hcm := hmc m (by omega) (by omega)
      have hcb : 0 ≤ T 230 0 m ∧ T 230 0 m ≤ 3 := bd_a hT 230 (by decide +kernel : ta_ 230 = some (1, some 400, 0, 3)) 0 (by omega)
      have hr12 : (1 : Int) ≤ T 205 0 (23 * T 230 0 m + 12) ∧ T 205 0 (23 * T 230 0 m + 12) ≤ (9 : Int) := hri (T 230 0 m) 12 (by omega) (by omega) (by omega) (by omega)
      have hsb : SB1_ T m (4 * T 254 0 m + 9) := hgs m (by omega) (by omega) (by omega)
      have hrn : 0 ≤ T 254 0 m ∧ T 254 0 m ≤ 3000 := bd_a hT 254 (by decide +kernel : ta_ 254 = some (1, some 400, 0, 3000)) 0 (by omega)
      refine j_blx (F := fX11) tb_X11 (nn_ _) bk_X11_walkOver_e_26 bs_X11_walkOver_e_26 hz (fun K hK => ?_)
      refine ix_i (by omega) ?_
      intro b6 b6b
      refine And.intro (fun c7 => ?_) (fun c7 => ?_)
      · refine hK 48 _ [] T ?_
        refine j_blx (F := fX11) tb_X11 (nn_ _) bk_X11_walkOver_e_48 bs_X11_walkOver_e_48 hz (fun K hK => ?_)
        refine (show po_X11_walkOver_e T m s T (some (vI (-4))) from ?_)
        exact ⟨_, rfl, fr_0 _ _, ⟨hfm, hzs, hgs⟩, Or.inr ⟨by omega, Or.inr ⟨by omega, Or.inl ⟨rfl, by omega, rfl⟩⟩⟩⟩
      · refine ix_i (by omega) ?_
        intro b8 b8b
        intro b9 b9b
        refine And.intro (fun c10 => ?_) (fun c10 => ?_)
        · refine hK 51 _ [] T ?_
          refine j_blx (F := fX11) tb_X11 (nn_ _) bk_X11_walkOver_e_51 bs_X11_walkOver_e_51 hz (fun K hK => ?_)
          refine iy_i (by omega) (by omega) ?_
          refine x_nm (fun U11 hU11 => ?_)
          have e12 := up_f hU11
          refine And.intro (fun c13 => ?_) (fun c13 => ?_)
          · refine hK 71 _ [vI m, vR 236 0] U11 ?_
            refine j_blx (F := fX11) tb_X11 (nn_ _) bk_X11_walkOver_e_71 bs_X11_walkOver_e_71 hz (fun K hK => ?_)
            refine ix_i (by omega) ?_
            intro b14 b14b
            have e15 : U11 230 0 m = T 230 0 m := up_k hU11 (by exact Nat.ne_of_beq_eq_false rfl) 0 m
            rw [e15] at b14 b14b ⊢
            refine hK 80 _ [vI 12, vI (T 230 0 m), vR 111 0, vI m, vR 236 0] U11 ?_
            refine j_callV (y := yX11_rule0) (Yc := zX11_rule0) (rest := [vI m, vR 236 0]) [vI (T 230 0 m), vI 12] (ct_X11_rule0 (T := U11) (by omega) (by omega)) cl_X11_321 (qd_c (by decide +kernel)) (nn_ _) rfl (rf_of rfl) (Nat.le_of_ble_eq_true rfl) (Nat.le_of_ble_eq_true rfl) (Nat.le_of_ble_eq_true rfl) rfl ?_
            rintro _ _ ⟨rfl, rfl⟩
            have e16 : U11 205 0 (23 * (T 230 0 m) + 12) = T 205 0 (23 * (T 230 0 m) + 12) := up_k hU11 (by exact Nat.ne_of_beq_eq_false rfl) 0 (23 * (T 230 0 m) + 12)
            rw [e16]
            show J_ zX11_walkOver T (po_X11_walkOver_e T m s) 0 0 83 _ [vI (T 205 0 (23 * (T 230 0 m) + 12)), vI m, vR 236 0] U11
            refine j_blx (F := fX11) tb_X11 (nn_ _) bk_X11_walkOver_e_83 bs_X11_walkOver_e_83 hz (fun K hK => ?_)
            refine iy_i (by omega) (by omega) ?_
            refine x_nm (fun U17 hU17 => ?_)
            have e18 := up_f hU17
            refine And.intro (fun c19 => ?_) (fun c19 => ?_)
            · refine hK 108 _ [vI m, vR 237 0] U17 ?_
              refine j_blx (F := fX11) tb_X11 (nn_ _) bk_X11_walkOver_e_108 bs_X11_walkOver_e_108 hz (fun K hK => ?_)
              refine iy_i (by omega) (by omega) ?_
              refine x_nm (fun U20 hU20 => ?_)
              have e21 := up_f hU20
              refine (show po_X11_walkOver_e T m s U20 (some (vI 1)) from ?_)
              have e22 : U20 235 0 m = 3 := (up_k hU20 (by exact Nat.ne_of_beq_eq_false rfl) 0 m).trans ((up_k hU17 (by exact Nat.ne_of_beq_eq_false rfl) 0 m).trans (up_f hU11))
              have e23 : U20 236 0 m = T 205 0 (23 * (T 230 0 m) + 12) := (up_k hU20 (by exact Nat.ne_of_beq_eq_false rfl) 0 m).trans (up_f hU17)
              have e24 : U20 237 0 m = 0 := up_f hU20
              have ff : fr_ [(237, []), (236, []), (235, [])] T U20 := fr_u (fr_u (fr_u (fr_0 _ _) hU11 rfl) hU17 rfl) hU20 rfl
              have so5 : SO_ T U20 m := so_1 (so_0 (so_f (ws := [(235, [])]) (so_r) (fr_u (fr_0 _ _) hU11 rfl) ⟨fun _ => rfl, fun _ => rfl, fun _ => rfl⟩) hU17) hU20
              have hrm : 0 ≤ T 254 0 m ∧ T 254 0 m ≤ 3000 := bd_a hT 254 (by decide +kernel : ta_ 254 = some (1, some 400, 0, 3000)) 0 (by omega)
              have e25 : U20 235 0 m = 3 := (up_k hU20 (by exact Nat.ne_of_beq_eq_false rfl) 0 m).trans ((up_k hU17 (by exact Nat.ne_of_beq_eq_false rfl) 0 m).trans (up_f hU11))
              have e26 : U20 236 0 m = T 205 0 (23 * (T 230 0 m) + 12) := (up_k hU20 (by exact Nat.ne_of_beq_eq_false rfl) 0 m).trans (up_f hU17)
              have e27 : U20 237 0 m = 0 := up_f hU20
              exact ⟨_, rfl, fr_s ff rfl, ⟨FM__f (ws := [(237, [])]) (FM__f (ws := [(236, [])]) (fm_w (hfm) hU11 (by decide)) (fr_u (fr_0 _ _) hU17 rfl) ⟨fun _ => rfl, fun _ => rfl, trivial⟩) (fr_u (fr_0 _ _) hU20 rfl) ⟨fun _ => rfl, fun _ => rfl, trivial⟩, zs_o hzs so5 (fun j => ff 239 0 j rfl), gx_o (gx_x hgs) so5 (sb1_m (sb1_1 (sb1_0 (sb1_f (ws := [(235, [])]) (hsb) (fr_u (fr_0 _ _) hU11 rfl) ⟨fun _ => rfl, fun _ => rfl, fun _ => rfl⟩) hU17 (by omega)) hU20 (by omega)) (by rw [ff 254 0 m rfl]; omega)) (fun j _ => ff 254 0 j rfl)⟩, Or.inr ⟨by omega, Or.inr ⟨by omega, Or.inr ⟨rfl, by omega, by omega, fun z => ⟨by omega, by omega⟩, fun z => ⟨by omega, by omega⟩, ro_u (m := m) (k := 468) (j := 1) (ro_u (m := m) (k := 468) (j := 0) (ro_u (m := m) (k := 103) (j := 3) (ro_r) hU11 rfl rfl (by show m = _; omega)) hU17 rfl rfl (by show m = _; omega)) hU20 rfl rfl (by show m = _; omega)⟩⟩⟩⟩
            · refine ix_i (by omega) ?_
              intro b28 b28b
              have e29 : U17 230 0 m = T 230 0 m := (up_k hU17 (by exact Nat.ne_of_beq_eq_false rfl) 0 m).trans (up_k hU11 (by exact Nat.ne_of_beq_eq_false rfl) 0 m)
              rw [e29] at b28 b28b ⊢
              refine hK 102 _ [vI 12, vI (T 230 0 m), vR 111 0, vI m, vR 237 0] U17 ?_
              refine j_callV (y := yX11_rule0) (Yc := zX11_rule0) (rest := [vI m, vR 237 0]) [vI (T 230 0 m), vI 12] (ct_X11_rule0 (T := U17) (by omega) (by omega)) cl_X11_321 (qd_c (by decide +kernel)) (nn_ _) rfl (rf_of rfl) (Nat.le_of_ble_eq_true rfl) (Nat.le_of_ble_eq_true rfl) (Nat.le_of_ble_eq_true rfl) rfl ?_
              rintro _ _ ⟨rfl, rfl⟩
              have e30 : U17 205 0 (23 * (T 230 0 m) + 12) = T 205 0 (23 * (T 230 0 m) + 12) := (up_k hU17 (by exact Nat.ne_of_beq_eq_false rfl) 0 (23 * (T 230 0 m) + 12)).trans (up_k hU11 (by exact Nat.ne_of_beq_eq_false rfl) 0 (23 * (T 230 0 m) + 12))
              rw [e30]
              show J_ zX11_walkOver T (po_X11_walkOver_e T m s) 0 0 105 _ [vI (T 205 0 (23 * (T 230 0 m) + 12)), vI m, vR 237 0] U17
              refine j_blx (F := fX11) tb_X11 (nn_ _) bk_X11_walkOver_e_105 bs_X11_walkOver_e_105 hz (fun K hK => ?_)
              refine hK 109 _ [vI (T 205 0 (23 * (T 230 0 m) + 12)), vI m, vR 237 0] U17 ?_
              refine j_blx (F := fX11) tb_X11 (nn_ _) bk_X11_walkOver_e_109 bs_X11_walkOver_e_109 hz (fun K hK => ?_)
              refine iy_i (by omega) (by omega) ?_
              refine x_nm (fun U31 hU31 => ?_)
              have e32 := up_f hU31
              refine (show po_X11_walkOver_e T m s U31 (some (vI 1)) from ?_)
              have e33 : U31 235 0 m = 3 := (up_k hU31 (by exact Nat.ne_of_beq_eq_false rfl) 0 m).trans ((up_k hU17 (by exact Nat.ne_of_beq_eq_false rfl) 0 m).trans (up_f hU11))
              have e34 : U31 236 0 m = T 205 0 (23 * (T 230 0 m) + 12) := (up_k hU31 (by exact Nat.ne_of_beq_eq_false rfl) 0 m).trans (up_f hU17)
              have e35 : U31 237 0 m = T 205 0 (23 * (T 230 0 m) + 12) := up_f hU31
              have ff : fr_ [(237, []), (236, []), (235, [])] T U31 := fr_u (fr_u (fr_u (fr_0 _ _) hU11 rfl) hU17 rfl) hU31 rfl
              have so5 : SO_ T U31 m := so_1 (so_0 (so_f (ws := [(235, [])]) (so_r) (fr_u (fr_0 _ _) hU11 rfl) ⟨fun _ => rfl, fun _ => rfl, fun _ => rfl⟩) hU17) hU31
              have hrm : 0 ≤ T 254 0 m ∧ T 254 0 m ≤ 3000 := bd_a hT 254 (by decide +kernel : ta_ 254 = some (1, some 400, 0, 3000)) 0 (by omega)
              have e36 : U31 235 0 m = 3 := (up_k hU31 (by exact Nat.ne_of_beq_eq_false rfl) 0 m).trans ((up_k hU17 (by exact Nat.ne_of_beq_eq_false rfl) 0 m).trans (up_f hU11))
              have e37 : U31 236 0 m = T 205 0 (23 * (T 230 0 m) + 12) := (up_k hU31 (by exact Nat.ne_of_beq_eq_false rfl) 0 m).trans (up_f hU17)
              have e38 : U31 237 0 m = T 205 0 (23 * (T 230 0 m) + 12) := up_f hU31
              exact ⟨_, rfl, fr_s ff rfl, ⟨FM__f (ws := [(237, [])]) (FM__f (ws := [(236, [])]) (fm_w (hfm) hU11 (by decide)) (fr_u (fr_0 _ _) hU17 rfl) ⟨fun _ => rfl, fun _ => rfl, trivial⟩) (fr_u (fr_0 _ _) hU31 rfl) ⟨fun _ => rfl, fun _ => rfl, trivial⟩, zs_o hzs so5 (fun j => ff 239 0 j rfl), gx_o (gx_x hgs) so5 (sb1_m (sb1_1 (sb1_0 (sb1_f (ws := [(235, [])]) (hsb) (fr_u (fr_0 _ _) hU11 rfl) ⟨fun _ => rfl, fun _ => rfl, fun _ => rfl⟩) hU17 (by omega)) hU31 (by omega)) (by rw [ff 254 0 m rfl]; omega)) (fun j _ => ff 254 0 j rfl)⟩, Or.inr ⟨by omega, Or.inr ⟨by omega, Or.inr ⟨rfl, by omega, by omega, fun z => ⟨by omega, by omega⟩, fun z => ⟨by omega, by omega⟩, ro_u (m := m) (k := 468) (j := 1) (ro_u (m := m) (k := 468) (j := 0) (ro_u (m := m) (k := 103) (j := 3) (ro_r) hU11 rfl rfl (by show m = _; omega)) hU17 rfl rfl (by show m = _; omega)) hU31 rfl rfl (by show m = _; omega)⟩⟩⟩⟩
          · refine hK 83 _ [vI 0, vI m, vR 236 0] U11 ?_
            refine j_blx (F := fX11) tb_X11 (nn_ _) bk_X11_walkOver_e_83 bs_X11_walkOver_e_83 hz (fun K hK => ?_)
            refine iy_i (by omega) (by omega) ?_
            refine x_nm (fun U39 hU39 => ?_)
            have e40 := up_f hU39
            refine And.intro (fun c41 => ?_) (fun c41 => ?_)
            · refine hK 108 _ [vI m, vR 237 0] U39 ?_
              refine j_blx (F := fX11) tb_X11 (nn_ _) bk_X11_walkOver_e_108 bs_X11_walkOver_e_108 hz (fun K hK => ?_)
              refine iy_i (by omega) (by omega) ?_
              refine x_nm (fun U42 hU42 => ?_)
              have e43 := up_f hU42
              refine (show po_X11_walkOver_e T m s U42 (some (vI 1)) from ?_)
              have e44 : U42 235 0 m = 3 := (up_k hU42 (by exact Nat.ne_of_beq_eq_false rfl) 0 m).trans ((up_k hU39 (by exact Nat.ne_of_beq_eq_false rfl) 0 m).trans (up_f hU11))
              have e45 : U42 236 0 m = 0 := (up_k hU42 (by exact Nat.ne_of_beq_eq_false rfl) 0 m).trans (up_f hU39)
              have e46 : U42 237 0 m = 0 := up_f hU42
              have ff : fr_ [(237, []), (236, []), (235, [])] T U42 := fr_u (fr_u (fr_u (fr_0 _ _) hU11 rfl) hU39 rfl) hU42 rfl
              have so5 : SO_ T U42 m := so_1 (so_0 (so_f (ws := [(235, [])]) (so_r) (fr_u (fr_0 _ _) hU11 rfl) ⟨fun _ => rfl, fun _ => rfl, fun _ => rfl⟩) hU39) hU42
              have hrm : 0 ≤ T 254 0 m ∧ T 254 0 m ≤ 3000 := bd_a hT 254 (by decide +kernel : ta_ 254 = some (1, some 400, 0, 3000)) 0 (by omega)
              have e47 : U42 235 0 m = 3 := (up_k hU42 (by exact Nat.ne_of_beq_eq_false rfl) 0 m).trans ((up_k hU39 (by exact Nat.ne_of_beq_eq_false rfl) 0 m).trans (up_f hU11))
              have e48 : U42 236 0 m = 0 := (up_k hU42 (by exact Nat.ne_of_beq_eq_false rfl) 0 m).trans (up_f hU39)
              have e49 : U42 237 0 m = 0 := up_f hU42
              exact ⟨_, rfl, fr_s ff rfl, ⟨FM__f (ws := [(237, [])]) (FM__f (ws := [(236, [])]) (fm_w (hfm) hU11 (by decide)) (fr_u (fr_0 _ _) hU39 rfl) ⟨fun _ => rfl, fun _ => rfl, trivial⟩) (fr_u (fr_0 _ _) hU42 rfl) ⟨fun _ => rfl, fun _ => rfl, trivial⟩, zs_o hzs so5 (fun j => ff 239 0 j rfl), gx_o (gx_x hgs) so5 (sb1_m (sb1_1 (sb1_0 (sb1_f (ws := [(235, [])]) (hsb) (fr_u (fr_0 _ _) hU11 rfl) ⟨fun _ => rfl, fun _ => rfl, fun _ => rfl⟩) hU39 (by omega)) hU42 (by omega)) (by rw [ff 254 0 m rfl]; omega)) (fun j _ => ff 254 0 j rfl)⟩, Or.inr ⟨by omega, Or.inr ⟨by omega, Or.inr ⟨rfl, by omega, by omega, fun z => ⟨by omega, by omega⟩, fun z => ⟨by omega, by omega⟩, ro_u (m := m) (k := 468) (j := 1) (ro_u (m := m) (k := 468) (j := 0) (ro_u (m := m) (k := 103) (j := 3) (ro_r) hU11 rfl rfl (by show m = _; omega)) hU39 rfl rfl (by show m = _; omega)) hU42 rfl rfl (by show m = _; omega)⟩⟩⟩⟩
            · refine ix_i (by omega) ?_
              intro b50 b50b
              have e51 : U39 230 0 m = T 230 0 m := (up_k hU39 (by exact Nat.ne_of_beq_eq_false rfl) 0 m).trans (up_k hU11 (by exact Nat.ne_of_beq_eq_false rfl) 0 m)
              rw [e51] at b50 b50b ⊢
              refine hK 102 _ [vI 12, vI (T 230 0 m), vR 111 0, vI m, vR 237 0] U39 ?_
              refine j_callV (y := yX11_rule0) (Yc := zX11_rule0) (rest := [vI m, vR 237 0]) [vI (T 230 0 m), vI 12] (ct_X11_rule0 (T := U39) (by omega) (by omega)) cl_X11_321 (qd_c (by decide +kernel)) (nn_ _) rfl (rf_of rfl) (Nat.le_of_ble_eq_true rfl) (Nat.le_of_ble_eq_true rfl) (Nat.le_of_ble_eq_true rfl) rfl ?_
              rintro _ _ ⟨rfl, rfl⟩
              have e52 : U39 205 0 (23 * (T 230 0 m) + 12) = T 205 0 (23 * (T 230 0 m) + 12) := (up_k hU39 (by exact Nat.ne_of_beq_eq_false rfl) 0 (23 * (T 230 0 m) + 12)).trans (up_k hU11 (by exact Nat.ne_of_beq_eq_false rfl) 0 (23 * (T 230 0 m) + 12))
              rw [e52]
              show J_ zX11_walkOver T (po_X11_walkOver_e T m s) 0 0 105 _ [vI (T 205 0 (23 * (T 230 0 m) + 12)), vI m, vR 237 0] U39
              refine j_blx (F := fX11) tb_X11 (nn_ _) bk_X11_walkOver_e_105 bs_X11_walkOver_e_105 hz (fun K hK => ?_)
              refine hK 109 _ [vI (T 205 0 (23 * (T 230 0 m) + 12)), vI m, vR 237 0] U39 ?_
              refine j_blx (F := fX11) tb_X11 (nn_ _) bk_X11_walkOver_e_109 bs_X11_walkOver_e_109 hz (fun K hK => ?_)
              refine iy_i (by omega) (by omega) ?_
              refine x_nm (fun U53 hU53 => ?_)
              have e54 := up_f hU53
              refine (show po_X11_walkOver_e T m s U53 (some (vI 1)) from ?_)
              have e55 : U53 235 0 m = 3 := (up_k hU53 (by exact Nat.ne_of_beq_eq_false rfl) 0 m).trans ((up_k hU39 (by exact Nat.ne_of_beq_eq_false rfl) 0 m).trans (up_f hU11))
              have e56 : U53 236 0 m = 0 := (up_k hU53 (by exact Nat.ne_of_beq_eq_false rfl) 0 m).trans (up_f hU39)
              have e57 : U53 237 0 m = T 205 0 (23 * (T 230 0 m) + 12) := up_f hU53
              have ff : fr_ [(237, []), (236, []), (235, [])] T U53 := fr_u (fr_u (fr_u (fr_0 _ _) hU11 rfl) hU39 rfl) hU53 rfl
              have so5 : SO_ T U53 m := so_1 (so_0 (so_f (ws := [(235, [])]) (so_r) (fr_u (fr_0 _ _) hU11 rfl) ⟨fun _ => rfl, fun _ => rfl, fun _ => rfl⟩) hU39) hU53
              have hrm : 0 ≤ T 254 0 m ∧ T 254 0 m ≤ 3000 := bd_a hT 254 (by decide +kernel : ta_ 254 = some (1, some 400, 0, 3000)) 0 (by omega)
              have e58 : U53 235 0 m = 3 := (up_k hU53 (by exact Nat.ne_of_beq_eq_false rfl) 0 m).trans ((up_k hU39 (by exact Nat.ne_of_beq_eq_false rfl) 0 m).trans (up_f hU11))
              have e59 : U53 236 0 m = 0 := (up_k hU53 (by exact Nat.ne_of_beq_eq_false rfl) 0 m).trans (up_f hU39)
              have e60 : U53 237 0 m = T 205 0 (23 * (T 230 0 m) + 12) := up_f hU53
              exact ⟨_, rfl, fr_s ff rfl, ⟨FM__f (ws := [(237, [])]) (FM__f (ws := [(236, [])]) (fm_w (hfm) hU11 (by decide)) (fr_u (fr_0 _ _) hU39 rfl) ⟨fun _ => rfl, fun _ => rfl, trivial⟩) (fr_u (fr_0 _ _) hU53 rfl) ⟨fun _ => rfl, fun _ => rfl, trivial⟩, zs_o hzs so5 (fun j => ff 239 0 j rfl), gx_o (gx_x hgs) so5 (sb1_m (sb1_1 (sb1_0 (sb1_f (ws := [(235, [])]) (hsb) (fr_u (fr_0 _ _) hU11 rfl) ⟨fun _ => rfl, fun _ => rfl, fun _ => rfl⟩) hU39 (by omega)) hU53 (by omega)) (by rw [ff 254 0 m rfl]; omega)) (fun j _ => ff 254 0 j rfl)⟩, Or.inr ⟨by omega, Or.inr ⟨by omega, Or.inr ⟨rfl, by omega, by omega, fun z => ⟨by omega, by omega⟩, fun z => ⟨by omega, by omega⟩, ro_u (m := m) (k := 468) (j := 1) (ro_u (m := m) (k := 468) (j := 0) (ro_u (m := m) (k := 103) (j := 3) (ro_r) hU11 rfl rfl (by show m = _; omega)) hU39 rfl rfl (by show m = _; omega)) hU53 rfl rfl (by show m = _; omega)⟩⟩⟩⟩
        · refine (show po_X11_walkOver_e T m s T (some (vI (-4))) from ?_)
          exact ⟨_, rfl, fr_0 _ _, ⟨hfm, hzs, hgs⟩, Or.inr ⟨by omega, Or.inr ⟨by omega, Or.inl ⟨rfl, by omega, rfl⟩⟩⟩⟩
    · replace hx4 := hx4.resolve_left (fun z => absurd (c5.symm.trans z.1) (by decide))
      clear c5
      refine (show po_X11_walkOver_e T m s T (some (vI (-3))) from ?_)
      exact ⟨_, rfl, fr_0 _ _, ⟨hfm, hzs, hgs⟩, Or.inr ⟨by omega, Or.inl ⟨rfl, by omega, rfl⟩⟩⟩
  · replace hx2 := hx2.resolve_left (fun z => absurd (c3.symm.trans z.1) (by decide))
    clear c3
    refine (show po_X11_walkOver_e T m s T (some (vI (-2))) from ?_)
    exact ⟨_, rfl, fr_0 _ _, ⟨hfm, hzs, hgs⟩, Or.inl ⟨rfl, by omega, rfl⟩⟩
/-- the others' plays and logs stay -/
def OMH_ (T T' : Zt) (m : Int) : Prop := (∀ k i j, i ≠ m → k ≠ 190 → k ≠ 191 → k ≠ 106 → T' k i j = T k i j) ∧ (∀ x j, x < T 191 0 0 → x ≠ T 103 m 14 → x ≠ T 103 m 16 → T' 190 x j = T 190 x j) ∧ (T' 103 m 14 = T 103 m 14 ∨ T 191 0 0 ≤ T' 103 m 14) ∧ (T' 103 m 16 = T 103 m 16 ∨ T 191 0 0 ≤ T' 103 m 16)
theorem oh_r {T : Zt} {m : Int} : OMH_ T T m := ⟨fun _ _ _ _ _ _ _ => rfl, fun _ _ _ _ _ => rfl, Or.inl rfl, Or.inl rfl⟩
/-- a run of rows, as the house ends it -/
def RNH_ (r : Int → Int) (m x : Int) (T T' : Zt) (l : List Rw_) : Prop := rs9_ T' m = (rnH_ r (bb9_ r (rs9_ T m)) l).1 ∧ hr9_ T' (T' 103 m 14) (T' 103 m 15).toNat = (rnH_ r (bb9_ r (rs9_ T m)) l).2.1 ∧ x = (rnH_ r (bb9_ r (rs9_ T m)) l).2.2 ∧ T' 103 m 17 = T 103 m 17 + x
theorem bk_X3_init_e_0 : ck_ fX3 none cX3_init 0 [.aload 0] 1 = true := qck_r (nn_ _) (by decide +kernel)
theorem bs_X3_init_e_0 {P : Zt → Option Zv → Prop} (K : Int → Zl → List Zv → Zt → Prop) : sx_ K P [.aload 0] 1 = x_aload 0 (K 1) := ((xe_aload 0).trans (congrArg (x_aload 0) xe_nil))
theorem bk_X3_init_e_4 : ck_ fX3 none cX3_init 4 [.aload 0, .iconst 2] 6 = true := qck_r (nn_ _) (by decide +kernel)
theorem bs_X3_init_e_4 {P : Zt → Option Zv → Prop} (K : Int → Zl → List Zv → Zt → Prop) : sx_ K P [.aload 0, .iconst 2] 6 = x_aload 0 (x_iconst 2 (K 6)) := ((xe_aload 0).trans (congrArg (x_aload 0) ((xe_iconst 2).trans (congrArg (x_iconst 2) xe_nil))))
theorem bk_X3_init_e_11 : ck_ fX3 none cX3_init 11 [.aload 0, .iconst 2] 13 = true := qck_r (nn_ _) (by decide +kernel)
theorem bs_X3_init_e_11 {P : Zt → Option Zv → Prop} (K : Int → Zl → List Zv → Zt → Prop) : sx_ K P [.aload 0, .iconst 2] 13 = x_aload 0 (x_iconst 2 (K 13)) := ((xe_aload 0).trans (congrArg (x_aload 0) ((xe_iconst 2).trans (congrArg (x_iconst 2) xe_nil))))
theorem bk_X3_init_e_18 : ck_ fX3 none cX3_init 18 [.aload 0, .iconst 2] 20 = true := qck_r (nn_ _) (by decide +kernel)
theorem bs_X3_init_e_18 {P : Zt → Option Zv → Prop} (K : Int → Zl → List Zv → Zt → Prop) : sx_ K P [.aload 0, .iconst 2] 20 = x_aload 0 (x_iconst 2 (K 20)) := ((xe_aload 0).trans (congrArg (x_aload 0) ((xe_iconst 2).trans (congrArg (x_iconst 2) xe_nil))))
theorem bk_X3_init_e_25 : ck_ fX3 none cX3_init 25 [.aload 0, .iconst 2] 27 = true := qck_r (nn_ _) (by decide +kernel)
theorem bs_X3_init_e_25 {P : Zt → Option Zv → Prop} (K : Int → Zl → List Zv → Zt → Prop) : sx_ K P [.aload 0, .iconst 2] 27 = x_aload 0 (x_iconst 2 (K 27)) := ((xe_aload 0).trans (congrArg (x_aload 0) ((xe_iconst 2).trans (congrArg (x_iconst 2) xe_nil))))
theorem bk_X3_init_e_32 : ck_ fX3 none cX3_init 32 [.aload 0, .iconst 2] 34 = true := qck_r (nn_ _) (by decide +kernel)
theorem bs_X3_init_e_32 {P : Zt → Option Zv → Prop} (K : Int → Zl → List Zv → Zt → Prop) : sx_ K P [.aload 0, .iconst 2] 34 = x_aload 0 (x_iconst 2 (K 34)) := ((xe_aload 0).trans (congrArg (x_aload 0) ((xe_iconst 2).trans (congrArg (x_iconst 2) xe_nil))))
theorem bk_X3_init_e_39 : ck_ fX3 none cX3_init 39 [.aload 0, .iconst 12] 42 = true := qck_r (nn_ _) (by decide +kernel)
theorem bs_X3_init_e_39 {P : Zt → Option Zv → Prop} (K : Int → Zl → List Zv → Zt → Prop) : sx_ K P [.aload 0, .iconst 12] 42 = x_aload 0 (x_iconst 12 (K 42)) := ((xe_aload 0).trans (congrArg (x_aload 0) ((xe_iconst 12).trans (congrArg (x_iconst 12) xe_nil))))
theorem bk_X3_init_e_47 : ck_ fX3 none cX3_init 47 [.aload 0, .iconst 20] 50 = true := qck_r (nn_ _) (by decide +kernel)
theorem bs_X3_init_e_47 {P : Zt → Option Zv → Prop} (K : Int → Zl → List Zv → Zt → Prop) : sx_ K P [.aload 0, .iconst 20] 50 = x_aload 0 (x_iconst 20 (K 50)) := ((xe_aload 0).trans (congrArg (x_aload 0) ((xe_iconst 20).trans (congrArg (x_iconst 20) xe_nil))))
theorem bk_X3_init_e_55 : ck_ fX3 none cX3_init 55 [.aload 0, .iconst 20] 58 = true := qck_r (nn_ _) (by decide +kernel)
theorem bs_X3_init_e_55 {P : Zt → Option Zv → Prop} (K : Int → Zl → List Zv → Zt → Prop) : sx_ K P [.aload 0, .iconst 20] 58 = x_aload 0 (x_iconst 20 (K 58)) := ((xe_aload 0).trans (congrArg (x_aload 0) ((xe_iconst 20).trans (congrArg (x_iconst 20) xe_nil))))
theorem bk_X3_init_e_63 : ck_ fX3 none cX3_init 63 [.aload 0, .iconst 32] 66 = true := qck_r (nn_ _) (by decide +kernel)
theorem bs_X3_init_e_63 {P : Zt → Option Zv → Prop} (K : Int → Zl → List Zv → Zt → Prop) : sx_ K P [.aload 0, .iconst 32] 66 = x_aload 0 (x_iconst 32 (K 66)) := ((xe_aload 0).trans (congrArg (x_aload 0) ((xe_iconst 32).trans (congrArg (x_iconst 32) xe_nil))))
theorem bk_X3_init_e_71 : ck_ fX3 none cX3_init 71 [.aload 0, .iconst 16] 74 = true := qck_r (nn_ _) (by decide +kernel)
theorem bs_X3_init_e_71 {P : Zt → Option Zv → Prop} (K : Int → Zl → List Zv → Zt → Prop) : sx_ K P [.aload 0, .iconst 16] 74 = x_aload 0 (x_iconst 16 (K 74)) := ((xe_aload 0).trans (congrArg (x_aload 0) ((xe_iconst 16).trans (congrArg (x_iconst 16) xe_nil))))
theorem bk_X3_init_e_79 : ck_ fX3 none cX3_init 79 [.aload 0, .aload 1] 81 = true := qck_r (nn_ _) (by decide +kernel)
theorem bs_X3_init_e_79 {P : Zt → Option Zv → Prop} (K : Int → Zl → List Zv → Zt → Prop) : sx_ K P [.aload 0, .aload 1] 81 = x_aload 0 (x_aload 1 (K 81)) := ((xe_aload 0).trans (congrArg (x_aload 0) ((xe_aload 1).trans (congrArg (x_aload 1) xe_nil))))
theorem bk_X3_init_e_84 : ck_ fX3 none cX3_init 84 [.aload 0, .aload 2] 86 = true := qck_r (nn_ _) (by decide +kernel)
theorem bs_X3_init_e_84 {P : Zt → Option Zv → Prop} (K : Int → Zl → List Zv → Zt → Prop) : sx_ K P [.aload 0, .aload 2] 86 = x_aload 0 (x_aload 2 (K 86)) := ((xe_aload 0).trans (congrArg (x_aload 0) ((xe_aload 2).trans (congrArg (x_aload 2) xe_nil))))
theorem bk_X3_init_e_89 : ck_ fX3 none cX3_init 89 [.aload 0, .aload 3] 91 = true := qck_r (nn_ _) (by decide +kernel)
theorem bs_X3_init_e_89 {P : Zt → Option Zv → Prop} (K : Int → Zl → List Zv → Zt → Prop) : sx_ K P [.aload 0, .aload 3] 91 = x_aload 0 (x_aload 3 (K 91)) := ((xe_aload 0).trans (congrArg (x_aload 0) ((xe_aload 3).trans (congrArg (x_aload 3) xe_nil))))
theorem bk_X3_init_e_94 : ck_ fX3 none cX3_init 94 [.return_] 95 = true := qck_r (nn_ _) (by decide +kernel)
theorem bs_X3_init_e_94 {P : Zt → Option Zv → Prop} (K : Int → Zl → List Zv → Zt → Prop) : sx_ K P [.return_] 95 = x_return_ P := (xe_return_)
abbrev po_X3_init_e (T : Zt) (n : Int) (c : Int) : Zt → Option Zv → Prop := fun T' r => r = none ∧ fr_ [(153, []), (466, []), (467, []), (468, []), (469, []), (470, []), (471, []), (472, []), (473, []), (190, []), (191, [0])] T T' ∧ (oq_ T T' n ∧ (T' 153 n 0 = c + 1 ∧ T' 153 n 1 = n + 1 ∧ T' 153 n 2 = n + 1 ∧ T' 153 n 14 = T 191 0 0 + 1 ∧ T' 153 n 16 = T 191 0 0 + 2) ∧ (T' 153 n 6 = n + 1 ∧ T' 153 n 7 = n + 1 ∧ T' 153 n 8 = n + 1 ∧ T' 153 n 9 = n + 1 ∧ T' 153 n 10 = n + 1 ∧ T' 153 n 11 = n + 1 ∧ T' 153 n 12 = n + 1 ∧ T' 153 n 13 = n + 1) ∧ (T' 153 n 3 = T 153 n 3 ∧ T' 153 n 4 = T 153 n 4 ∧ T' 153 n 5 = T 153 n 5 ∧ T' 153 n 15 = T 153 n 15 ∧ T' 153 n 17 = T 153 n 17) ∧ T' 190 (T 191 0 0) (-2) = 32 ∧ T' 190 (T 191 0 0 + 1) (-2) = 16 ∧ T' 191 0 0 = T 191 0 0 + 2 ∧ ∀ x j, x < T 191 0 0 → T' 190 x j = T 190 x j)
set_option maxHeartbeats 4000000 in
theorem ct_X3_init_e {T : Zt} {n : Int} {c : Int} (h1 : 0 ≤ n ∧ n ≤ 399 ∧ 0 ≤ c ∧ c ≤ 3 ∧ 0 ≤ T 191 0 0 ∧ T 191 0 0 ≤ 1000000000) (hf : ∀ k : Nat, 460 ≤ k → k < 480 → ¬ T k n (-1) = 1) : Ct_ yX3_init zX3_init T [vR 153 n, vR 401 c, vR 448 n, vR 449 n] (po_X3_init_e T n c) := by
  refine ct_of pn_3 rfl rfl (Nat.le_of_ble_eq_true rfl) (fun hT hav => ?_)
  have hz : zX3_init.2.2.2.1 = some .boolean → ∀ (T' : Zt) (x : Int), po_X3_init_e T n c T' (some (vI x)) → 0 ≤ x ∧ x ≤ 1 := fun h => by cases h
  have hth : T 153 n (-1) = 1 := ok_al (v := none) (by decide) (hav (vR 153 n) (by simp))
  have hn0 : 0 ≤ n := h1.1
  have hn1 : -2147483648 ≤ n + 1 := by omega
  have hn2 : n + 1 ≤ 2147483647 := by omega
  have hc0 : 0 ≤ c := h1.2.2.1
  have hc1 : -2147483648 ≤ c + 1 := by omega
  have hc2 : c + 1 ≤ 2147483647 := by omega
  show J_ zX3_init T (po_X3_init_e T n c) 10 111 0 [some (vR 153 n), some (vR 401 c), some (vR 448 n), some (vR 449 n)] [] T
  refine j_blx (F := fX3) tb_X3 (nn_ _) bk_X3_init_e_0 bs_X3_init_e_0 hz (fun K hK => ?_)
  refine hK 1 _ [vR 153 n] T ?_
  refine j_objI (pc := 1) (lwq_4 (dqc_m (dqc_m (dqc_m (dqc_m (dqc_m (dqa_m (dqa_m (dqa_m (List.mem_of_getElem? (i := 0) rfl))))))))) rfl : Cond.methodLink RX3 3 Lib.objectInit ∈ lw_g) (lwq_1 (dqa_m (dqa_m (dqa_m (List.mem_of_getElem? (i := 3) rfl)))) rfl : Cond.instanceMethod Lib.objectInit ∈ lw_g) (lwq_1 (dqa_m (dqa_m (dqa_m (List.mem_of_getElem? (i := 4) rfl)))) rfl : Cond.code Lib.objectInit ⟨#[0xb1]⟩ 1 none ∈ lw_g) (by decide +kernel) (by decide) (by decide) (by decide) (by decide) ?_
  show J_ zX3_init T (po_X3_init_e T n c) 10 111 4 _ [] T
  refine j_blx (F := fX3) tb_X3 (nn_ _) bk_X3_init_e_4 bs_X3_init_e_4 hz (fun K hK => ?_)
  refine hK 6 _ [vI 2, vR 153 n] T ?_
  refine j_newI (bc' := 9) (bs' := 109) (pc := 6) (k := 466) (i := n) (by decide) (by decide +kernel : ta_ 466 = some (1, some 2, (-2147483648), 2147483647)) (by decide) (by decide) (hf 466 (by decide) (by decide)) (by omega) (by first | decide | omega) (by decide +kernel) (lwq_1 (dqc_m (dqc_m (dqa_m (List.mem_of_getElem? (i := 0) rfl)))) rfl : Cond.arrayClass .int ∈ lw_g) (fun o ho => by rw [show ow_ 466 = some 103 by decide] at ho; cases ho; exact Or.inr (show T 153 n (-1) = 1 from hth)) ?_
  refine j_nm (fun U1 hU1 => ?_)
  have fU1 := nu_fr hU1
  have zU1 := nu_tz hU1
  have oU1 := nu_to hU1
  have vU1 := nu_tv hU1
  show J_ zX3_init T (po_X3_init_e T n c) 9 109 8 _ [vR 466 n, vR 153 n] U1
  refine j_putW (pc := 8) (ci := 3) (j := 6) (z := n + 1) (by decide) (by decide) fW_X3_9 (by decide +kernel : (tf_ 153)[6]? = some (5, 466, (-2147483648), 2147483647)) (by decide) (by decide +kernel) (fv5_ (by first | exact hn0 | exact hn1 | exact hn2 | exact hc0 | exact hc1 | exact hc2 | omega)) rfl (by first | exact hn0 | exact hn1 | exact hn2 | exact hc0 | exact hc1 | exact hc2 | omega) (by first | exact hn0 | exact hn1 | exact hn2 | exact hc0 | exact hc1 | exact hc2 | omega) ?_
  refine j_nm (fun U2 hU2 => ?_)
  have e3 := up_f hU2
  show J_ zX3_init T (po_X3_init_e T n c) 9 109 11 _ [] U2
  refine j_blx (F := fX3) tb_X3 (nn_ _) bk_X3_init_e_11 bs_X3_init_e_11 hz (fun K hK => ?_)
  refine hK 13 _ [vI 2, vR 153 n] U2 ?_
  have e5 : U2 467 n (-1) = T 467 n (-1) := (up_k hU2 (by exact Nat.ne_of_beq_eq_false rfl) n (-1)).trans (fU1 467 n (-1) rfl)
  have e6 : U2 153 n (-1) = T 153 n (-1) := (up_j hU2 (by decide) 153 n).trans (fU1 153 n (-1) rfl)
  refine j_newI (bc' := 8) (bs' := 107) (pc := 13) (k := 467) (i := n) (by decide) (by decide +kernel : ta_ 467 = some (1, some 2, (-2147483648), 2147483647)) (by decide) (by decide) (by show ¬ U2 467 n (-1) = 1; rw [e5]; exact hf 467 (by decide) (by decide)) (by omega) (by first | decide | omega) (by decide +kernel) (lwq_1 (dqc_m (dqc_m (dqa_m (List.mem_of_getElem? (i := 0) rfl)))) rfl : Cond.arrayClass .int ∈ lw_g) (fun o ho => by rw [show ow_ 467 = some 103 by decide] at ho; cases ho; exact Or.inr (show U2 153 n (-1) = 1 from (e6).trans hth)) ?_
  refine j_nm (fun U4 hU4 => ?_)
  have fU4 := nu_fr hU4
  have zU4 := nu_tz hU4
  have oU4 := nu_to hU4
  have vU4 := nu_tv hU4
  show J_ zX3_init T (po_X3_init_e T n c) 8 107 15 _ [vR 467 n, vR 153 n] U4
  refine j_putW (pc := 15) (ci := 3) (j := 7) (z := n + 1) (by decide) (by decide) fW_X3_15 (by decide +kernel : (tf_ 153)[7]? = some (5, 467, (-2147483648), 2147483647)) (by decide) (by decide +kernel) (fv5_ (by first | exact hn0 | exact hn1 | exact hn2 | exact hc0 | exact hc1 | exact hc2 | omega)) rfl (by first | exact hn0 | exact hn1 | exact hn2 | exact hc0 | exact hc1 | exact hc2 | omega) (by first | exact hn0 | exact hn1 | exact hn2 | exact hc0 | exact hc1 | exact hc2 | omega) ?_
  refine j_nm (fun U7 hU7 => ?_)
  have e8 := up_f hU7
  show J_ zX3_init T (po_X3_init_e T n c) 8 107 18 _ [] U7
  refine j_blx (F := fX3) tb_X3 (nn_ _) bk_X3_init_e_18 bs_X3_init_e_18 hz (fun K hK => ?_)
  refine hK 20 _ [vI 2, vR 153 n] U7 ?_
  have e10 : U7 468 n (-1) = T 468 n (-1) := (up_k hU7 (by exact Nat.ne_of_beq_eq_false rfl) n (-1)).trans ((fU4 468 n (-1) rfl).trans ((up_k hU2 (by exact Nat.ne_of_beq_eq_false rfl) n (-1)).trans (fU1 468 n (-1) rfl)))
  have e11 : U7 153 n (-1) = T 153 n (-1) := (up_j hU7 (by decide) 153 n).trans ((fU4 153 n (-1) rfl).trans ((up_j hU2 (by decide) 153 n).trans (fU1 153 n (-1) rfl)))
  refine j_newI (bc' := 7) (bs' := 105) (pc := 20) (k := 468) (i := n) (by decide) (by decide +kernel : ta_ 468 = some (1, some 2, (-2147483648), 2147483647)) (by decide) (by decide) (by show ¬ U7 468 n (-1) = 1; rw [e10]; exact hf 468 (by decide) (by decide)) (by omega) (by first | decide | omega) (by decide +kernel) (lwq_1 (dqc_m (dqc_m (dqa_m (List.mem_of_getElem? (i := 0) rfl)))) rfl : Cond.arrayClass .int ∈ lw_g) (fun o ho => by rw [show ow_ 468 = some 103 by decide] at ho; cases ho; exact Or.inr (show U7 153 n (-1) = 1 from (e11).trans hth)) ?_
  refine j_nm (fun U9 hU9 => ?_)
  have fU9 := nu_fr hU9
  have zU9 := nu_tz hU9
  have oU9 := nu_to hU9
  have vU9 := nu_tv hU9
  show J_ zX3_init T (po_X3_init_e T n c) 7 105 22 _ [vR 468 n, vR 153 n] U9
  refine j_putW (pc := 22) (ci := 3) (j := 8) (z := n + 1) (by decide) (by decide) fW_X3_18 (by decide +kernel : (tf_ 153)[8]? = some (5, 468, (-2147483648), 2147483647)) (by decide) (by decide +kernel) (fv5_ (by first | exact hn0 | exact hn1 | exact hn2 | exact hc0 | exact hc1 | exact hc2 | omega)) rfl (by first | exact hn0 | exact hn1 | exact hn2 | exact hc0 | exact hc1 | exact hc2 | omega) (by first | exact hn0 | exact hn1 | exact hn2 | exact hc0 | exact hc1 | exact hc2 | omega) ?_
  refine j_nm (fun U12 hU12 => ?_)
  have e13 := up_f hU12
  show J_ zX3_init T (po_X3_init_e T n c) 7 105 25 _ [] U12
  refine j_blx (F := fX3) tb_X3 (nn_ _) bk_X3_init_e_25 bs_X3_init_e_25 hz (fun K hK => ?_)
  refine hK 27 _ [vI 2, vR 153 n] U12 ?_
  have e15 : U12 469 n (-1) = T 469 n (-1) := (up_k hU12 (by exact Nat.ne_of_beq_eq_false rfl) n (-1)).trans ((fU9 469 n (-1) rfl).trans ((up_k hU7 (by exact Nat.ne_of_beq_eq_false rfl) n (-1)).trans ((fU4 469 n (-1) rfl).trans ((up_k hU2 (by exact Nat.ne_of_beq_eq_false rfl) n (-1)).trans (fU1 469 n (-1) rfl)))))
  have e16 : U12 153 n (-1) = T 153 n (-1) := (up_j hU12 (by decide) 153 n).trans ((fU9 153 n (-1) rfl).trans ((up_j hU7 (by decide) 153 n).trans ((fU4 153 n (-1) rfl).trans ((up_j hU2 (by decide) 153 n).trans (fU1 153 n (-1) rfl)))))
  refine j_newI (bc' := 6) (bs' := 103) (pc := 27) (k := 469) (i := n) (by decide) (by decide +kernel : ta_ 469 = some (1, some 2, (-2147483648), 2147483647)) (by decide) (by decide) (by show ¬ U12 469 n (-1) = 1; rw [e15]; exact hf 469 (by decide) (by decide)) (by omega) (by first | decide | omega) (by decide +kernel) (lwq_1 (dqc_m (dqc_m (dqa_m (List.mem_of_getElem? (i := 0) rfl)))) rfl : Cond.arrayClass .int ∈ lw_g) (fun o ho => by rw [show ow_ 469 = some 103 by decide] at ho; cases ho; exact Or.inr (show U12 153 n (-1) = 1 from (e16).trans hth)) ?_
  refine j_nm (fun U14 hU14 => ?_)
  have fU14 := nu_fr hU14
  have zU14 := nu_tz hU14
  have oU14 := nu_to hU14
  have vU14 := nu_tv hU14
  show J_ zX3_init T (po_X3_init_e T n c) 6 103 29 _ [vR 469 n, vR 153 n] U14
  refine j_putW (pc := 29) (ci := 3) (j := 9) (z := n + 1) (by decide) (by decide) fW_X3_21 (by decide +kernel : (tf_ 153)[9]? = some (5, 469, (-2147483648), 2147483647)) (by decide) (by decide +kernel) (fv5_ (by first | exact hn0 | exact hn1 | exact hn2 | exact hc0 | exact hc1 | exact hc2 | omega)) rfl (by first | exact hn0 | exact hn1 | exact hn2 | exact hc0 | exact hc1 | exact hc2 | omega) (by first | exact hn0 | exact hn1 | exact hn2 | exact hc0 | exact hc1 | exact hc2 | omega) ?_
  refine j_nm (fun U17 hU17 => ?_)
  have e18 := up_f hU17
  show J_ zX3_init T (po_X3_init_e T n c) 6 103 32 _ [] U17
  refine j_blx (F := fX3) tb_X3 (nn_ _) bk_X3_init_e_32 bs_X3_init_e_32 hz (fun K hK => ?_)
  refine hK 34 _ [vI 2, vR 153 n] U17 ?_
  have e20 : U17 470 n (-1) = T 470 n (-1) := (up_k hU17 (by exact Nat.ne_of_beq_eq_false rfl) n (-1)).trans ((fU14 470 n (-1) rfl).trans ((up_k hU12 (by exact Nat.ne_of_beq_eq_false rfl) n (-1)).trans ((fU9 470 n (-1) rfl).trans ((up_k hU7 (by exact Nat.ne_of_beq_eq_false rfl) n (-1)).trans ((fU4 470 n (-1) rfl).trans ((up_k hU2 (by exact Nat.ne_of_beq_eq_false rfl) n (-1)).trans (fU1 470 n (-1) rfl)))))))
  have e21 : U17 153 n (-1) = T 153 n (-1) := (up_j hU17 (by decide) 153 n).trans ((fU14 153 n (-1) rfl).trans ((up_j hU12 (by decide) 153 n).trans ((fU9 153 n (-1) rfl).trans ((up_j hU7 (by decide) 153 n).trans ((fU4 153 n (-1) rfl).trans ((up_j hU2 (by decide) 153 n).trans (fU1 153 n (-1) rfl)))))))
  refine j_newI (bc' := 5) (bs' := 101) (pc := 34) (k := 470) (i := n) (by decide) (by decide +kernel : ta_ 470 = some (1, some 2, 0, 6)) (by decide) (by decide) (by show ¬ U17 470 n (-1) = 1; rw [e20]; exact hf 470 (by decide) (by decide)) (by omega) (by first | decide | omega) (by decide +kernel) (lwq_1 (dqc_m (dqc_m (dqa_m (List.mem_of_getElem? (i := 0) rfl)))) rfl : Cond.arrayClass .int ∈ lw_g) (fun o ho => by rw [show ow_ 470 = some 103 by decide] at ho; cases ho; exact Or.inr (show U17 153 n (-1) = 1 from (e21).trans hth)) ?_
  refine j_nm (fun U19 hU19 => ?_)
  have fU19 := nu_fr hU19
  have zU19 := nu_tz hU19
  have oU19 := nu_to hU19
  have vU19 := nu_tv hU19
  show J_ zX3_init T (po_X3_init_e T n c) 5 101 36 _ [vR 470 n, vR 153 n] U19
  refine j_putW (pc := 36) (ci := 3) (j := 10) (z := n + 1) (by decide) (by decide) fW_X3_24 (by decide +kernel : (tf_ 153)[10]? = some (5, 470, (-2147483648), 2147483647)) (by decide) (by decide +kernel) (fv5_ (by first | exact hn0 | exact hn1 | exact hn2 | exact hc0 | exact hc1 | exact hc2 | omega)) rfl (by first | exact hn0 | exact hn1 | exact hn2 | exact hc0 | exact hc1 | exact hc2 | omega) (by first | exact hn0 | exact hn1 | exact hn2 | exact hc0 | exact hc1 | exact hc2 | omega) ?_
  refine j_nm (fun U22 hU22 => ?_)
  have e23 := up_f hU22
  show J_ zX3_init T (po_X3_init_e T n c) 5 101 39 _ [] U22
  refine j_blx (F := fX3) tb_X3 (nn_ _) bk_X3_init_e_39 bs_X3_init_e_39 hz (fun K hK => ?_)
  refine hK 42 _ [vI 12, vR 153 n] U22 ?_
  have e25 : U22 471 n (-1) = T 471 n (-1) := (up_k hU22 (by exact Nat.ne_of_beq_eq_false rfl) n (-1)).trans ((fU19 471 n (-1) rfl).trans ((up_k hU17 (by exact Nat.ne_of_beq_eq_false rfl) n (-1)).trans ((fU14 471 n (-1) rfl).trans ((up_k hU12 (by exact Nat.ne_of_beq_eq_false rfl) n (-1)).trans ((fU9 471 n (-1) rfl).trans ((up_k hU7 (by exact Nat.ne_of_beq_eq_false rfl) n (-1)).trans ((fU4 471 n (-1) rfl).trans ((up_k hU2 (by exact Nat.ne_of_beq_eq_false rfl) n (-1)).trans (fU1 471 n (-1) rfl)))))))))
  have e26 : U22 153 n (-1) = T 153 n (-1) := (up_j hU22 (by decide) 153 n).trans ((fU19 153 n (-1) rfl).trans ((up_j hU17 (by decide) 153 n).trans ((fU14 153 n (-1) rfl).trans ((up_j hU12 (by decide) 153 n).trans ((fU9 153 n (-1) rfl).trans ((up_j hU7 (by decide) 153 n).trans ((fU4 153 n (-1) rfl).trans ((up_j hU2 (by decide) 153 n).trans (fU1 153 n (-1) rfl)))))))))
  refine j_newI (bc' := 4) (bs' := 89) (pc := 42) (k := 471) (i := n) (by decide) (by decide +kernel : ta_ 471 = some (1, some 12, 0, 19)) (by decide) (by decide) (by show ¬ U22 471 n (-1) = 1; rw [e25]; exact hf 471 (by decide) (by decide)) (by omega) (by first | decide | omega) (by decide +kernel) (lwq_1 (dqc_m (dqc_m (dqa_m (List.mem_of_getElem? (i := 0) rfl)))) rfl : Cond.arrayClass .int ∈ lw_g) (fun o ho => by rw [show ow_ 471 = some 103 by decide] at ho; cases ho; exact Or.inr (show U22 153 n (-1) = 1 from (e26).trans hth)) ?_
  refine j_nm (fun U24 hU24 => ?_)
  have fU24 := nu_fr hU24
  have zU24 := nu_tz hU24
  have oU24 := nu_to hU24
  have vU24 := nu_tv hU24
  show J_ zX3_init T (po_X3_init_e T n c) 4 89 44 _ [vR 471 n, vR 153 n] U24
  refine j_putW (pc := 44) (ci := 3) (j := 11) (z := n + 1) (by decide) (by decide) fW_X3_27 (by decide +kernel : (tf_ 153)[11]? = some (5, 471, (-2147483648), 2147483647)) (by decide) (by decide +kernel) (fv5_ (by first | exact hn0 | exact hn1 | exact hn2 | exact hc0 | exact hc1 | exact hc2 | omega)) rfl (by first | exact hn0 | exact hn1 | exact hn2 | exact hc0 | exact hc1 | exact hc2 | omega) (by first | exact hn0 | exact hn1 | exact hn2 | exact hc0 | exact hc1 | exact hc2 | omega) ?_
  refine j_nm (fun U27 hU27 => ?_)
  have e28 := up_f hU27
  show J_ zX3_init T (po_X3_init_e T n c) 4 89 47 _ [] U27
  refine j_blx (F := fX3) tb_X3 (nn_ _) bk_X3_init_e_47 bs_X3_init_e_47 hz (fun K hK => ?_)
  refine hK 50 _ [vI 20, vR 153 n] U27 ?_
  have e30 : U27 472 n (-1) = T 472 n (-1) := (up_k hU27 (by exact Nat.ne_of_beq_eq_false rfl) n (-1)).trans ((fU24 472 n (-1) rfl).trans ((up_k hU22 (by exact Nat.ne_of_beq_eq_false rfl) n (-1)).trans ((fU19 472 n (-1) rfl).trans ((up_k hU17 (by exact Nat.ne_of_beq_eq_false rfl) n (-1)).trans ((fU14 472 n (-1) rfl).trans ((up_k hU12 (by exact Nat.ne_of_beq_eq_false rfl) n (-1)).trans ((fU9 472 n (-1) rfl).trans ((up_k hU7 (by exact Nat.ne_of_beq_eq_false rfl) n (-1)).trans ((fU4 472 n (-1) rfl).trans ((up_k hU2 (by exact Nat.ne_of_beq_eq_false rfl) n (-1)).trans (fU1 472 n (-1) rfl)))))))))))
  have e31 : U27 153 n (-1) = T 153 n (-1) := (up_j hU27 (by decide) 153 n).trans ((fU24 153 n (-1) rfl).trans ((up_j hU22 (by decide) 153 n).trans ((fU19 153 n (-1) rfl).trans ((up_j hU17 (by decide) 153 n).trans ((fU14 153 n (-1) rfl).trans ((up_j hU12 (by decide) 153 n).trans ((fU9 153 n (-1) rfl).trans ((up_j hU7 (by decide) 153 n).trans ((fU4 153 n (-1) rfl).trans ((up_j hU2 (by decide) 153 n).trans (fU1 153 n (-1) rfl)))))))))))
  refine j_newI (bc' := 3) (bs' := 69) (pc := 50) (k := 472) (i := n) (by decide) (by decide +kernel : ta_ 472 = some (1, some 20, 0, 3)) (by decide) (by decide) (by show ¬ U27 472 n (-1) = 1; rw [e30]; exact hf 472 (by decide) (by decide)) (by omega) (by first | decide | omega) (by decide +kernel) (lwq_1 (dqc_m (dqc_m (dqa_m (List.mem_of_getElem? (i := 0) rfl)))) rfl : Cond.arrayClass .int ∈ lw_g) (fun o ho => by rw [show ow_ 472 = some 103 by decide] at ho; cases ho; exact Or.inr (show U27 153 n (-1) = 1 from (e31).trans hth)) ?_
  refine j_nm (fun U29 hU29 => ?_)
  have fU29 := nu_fr hU29
  have zU29 := nu_tz hU29
  have oU29 := nu_to hU29
  have vU29 := nu_tv hU29
  show J_ zX3_init T (po_X3_init_e T n c) 3 69 52 _ [vR 472 n, vR 153 n] U29
  refine j_putW (pc := 52) (ci := 3) (j := 12) (z := n + 1) (by decide) (by decide) fW_X3_30 (by decide +kernel : (tf_ 153)[12]? = some (5, 472, (-2147483648), 2147483647)) (by decide) (by decide +kernel) (fv5_ (by first | exact hn0 | exact hn1 | exact hn2 | exact hc0 | exact hc1 | exact hc2 | omega)) rfl (by first | exact hn0 | exact hn1 | exact hn2 | exact hc0 | exact hc1 | exact hc2 | omega) (by first | exact hn0 | exact hn1 | exact hn2 | exact hc0 | exact hc1 | exact hc2 | omega) ?_
  refine j_nm (fun U32 hU32 => ?_)
  have e33 := up_f hU32
  show J_ zX3_init T (po_X3_init_e T n c) 3 69 55 _ [] U32
  refine j_blx (F := fX3) tb_X3 (nn_ _) bk_X3_init_e_55 bs_X3_init_e_55 hz (fun K hK => ?_)
  refine hK 58 _ [vI 20, vR 153 n] U32 ?_
  have e35 : U32 473 n (-1) = T 473 n (-1) := (up_k hU32 (by exact Nat.ne_of_beq_eq_false rfl) n (-1)).trans ((fU29 473 n (-1) rfl).trans ((up_k hU27 (by exact Nat.ne_of_beq_eq_false rfl) n (-1)).trans ((fU24 473 n (-1) rfl).trans ((up_k hU22 (by exact Nat.ne_of_beq_eq_false rfl) n (-1)).trans ((fU19 473 n (-1) rfl).trans ((up_k hU17 (by exact Nat.ne_of_beq_eq_false rfl) n (-1)).trans ((fU14 473 n (-1) rfl).trans ((up_k hU12 (by exact Nat.ne_of_beq_eq_false rfl) n (-1)).trans ((fU9 473 n (-1) rfl).trans ((up_k hU7 (by exact Nat.ne_of_beq_eq_false rfl) n (-1)).trans ((fU4 473 n (-1) rfl).trans ((up_k hU2 (by exact Nat.ne_of_beq_eq_false rfl) n (-1)).trans (fU1 473 n (-1) rfl)))))))))))))
  have e36 : U32 153 n (-1) = T 153 n (-1) := (up_j hU32 (by decide) 153 n).trans ((fU29 153 n (-1) rfl).trans ((up_j hU27 (by decide) 153 n).trans ((fU24 153 n (-1) rfl).trans ((up_j hU22 (by decide) 153 n).trans ((fU19 153 n (-1) rfl).trans ((up_j hU17 (by decide) 153 n).trans ((fU14 153 n (-1) rfl).trans ((up_j hU12 (by decide) 153 n).trans ((fU9 153 n (-1) rfl).trans ((up_j hU7 (by decide) 153 n).trans ((fU4 153 n (-1) rfl).trans ((up_j hU2 (by decide) 153 n).trans (fU1 153 n (-1) rfl)))))))))))))
  refine j_newI (bc' := 2) (bs' := 49) (pc := 58) (k := 473) (i := n) (by decide) (by decide +kernel : ta_ 473 = some (1, some 20, (-2147483648), 2147483647)) (by decide) (by decide) (by show ¬ U32 473 n (-1) = 1; rw [e35]; exact hf 473 (by decide) (by decide)) (by omega) (by first | decide | omega) (by decide +kernel) (lwq_1 (dqc_m (dqc_m (dqa_m (List.mem_of_getElem? (i := 0) rfl)))) rfl : Cond.arrayClass .int ∈ lw_g) (fun o ho => by rw [show ow_ 473 = some 103 by decide] at ho; cases ho; exact Or.inr (show U32 153 n (-1) = 1 from (e36).trans hth)) ?_
  refine j_nm (fun U34 hU34 => ?_)
  have fU34 := nu_fr hU34
  have zU34 := nu_tz hU34
  have oU34 := nu_to hU34
  have vU34 := nu_tv hU34
  show J_ zX3_init T (po_X3_init_e T n c) 2 49 60 _ [vR 473 n, vR 153 n] U34
  refine j_putW (pc := 60) (ci := 3) (j := 13) (z := n + 1) (by decide) (by decide) fW_X3_33 (by decide +kernel : (tf_ 153)[13]? = some (5, 473, (-2147483648), 2147483647)) (by decide) (by decide +kernel) (fv5_ (by first | exact hn0 | exact hn1 | exact hn2 | exact hc0 | exact hc1 | exact hc2 | omega)) rfl (by first | exact hn0 | exact hn1 | exact hn2 | exact hc0 | exact hc1 | exact hc2 | omega) (by first | exact hn0 | exact hn1 | exact hn2 | exact hc0 | exact hc1 | exact hc2 | omega) ?_
  refine j_nm (fun U37 hU37 => ?_)
  have e38 := up_f hU37
  show J_ zX3_init T (po_X3_init_e T n c) 2 49 63 _ [] U37
  refine j_blx (F := fX3) tb_X3 (nn_ _) bk_X3_init_e_63 bs_X3_init_e_63 hz (fun K hK => ?_)
  refine hK 66 _ [vI 32, vR 153 n] U37 ?_
  have e40 : U37 191 0 0 = T 191 0 0 := (up_k hU37 (by exact Nat.ne_of_beq_eq_false rfl) 0 0).trans ((fU34 191 0 0 rfl).trans ((up_k hU32 (by exact Nat.ne_of_beq_eq_false rfl) 0 0).trans ((fU29 191 0 0 rfl).trans ((up_k hU27 (by exact Nat.ne_of_beq_eq_false rfl) 0 0).trans ((fU24 191 0 0 rfl).trans ((up_k hU22 (by exact Nat.ne_of_beq_eq_false rfl) 0 0).trans ((fU19 191 0 0 rfl).trans ((up_k hU17 (by exact Nat.ne_of_beq_eq_false rfl) 0 0).trans ((fU14 191 0 0 rfl).trans ((up_k hU12 (by exact Nat.ne_of_beq_eq_false rfl) 0 0).trans ((fU9 191 0 0 rfl).trans ((up_k hU7 (by exact Nat.ne_of_beq_eq_false rfl) 0 0).trans ((fU4 191 0 0 rfl).trans ((up_k hU2 (by exact Nat.ne_of_beq_eq_false rfl) 0 0).trans (fU1 191 0 0 rfl)))))))))))))))
  refine j_newL (bc' := 1) (bs' := 17) (pc := 66) (by decide) (by omega) (by omega) (by omega) (by decide +kernel) (lwq_1 (dqc_m (dqc_m (dqa_m (List.mem_of_getElem? (i := 0) rfl)))) rfl : Cond.arrayClass .int ∈ lw_g) ?_
  refine j_nm (fun U39 hU39 => ?_)
  have fU39 := nv_fr hU39
  have aU39 := nv_t9 hU39
  have lU39 := nv_tl hU39
  have oU39 := nv_to hU39
  show J_ zX3_init T (po_X3_init_e T n c) 1 17 68 _ [vR 190 (U37 191 0 0), vR 153 n] U39
  refine j_putW (pc := 68) (ci := 3) (j := 14) (z := (U37 191 0 0) + 1) (by decide) (by decide) fW_X3_36 (by decide +kernel : (tf_ 153)[14]? = some (5, 190, (-2147483648), 2147483647)) (by decide) (by decide +kernel) (fv5_ (by first | exact hn0 | exact hn1 | exact hn2 | exact hc0 | exact hc1 | exact hc2 | omega)) rfl (by first | exact hn0 | exact hn1 | exact hn2 | exact hc0 | exact hc1 | exact hc2 | omega) (by first | exact hn0 | exact hn1 | exact hn2 | exact hc0 | exact hc1 | exact hc2 | omega) ?_
  refine j_nm (fun U41 hU41 => ?_)
  have e42 := up_f hU41
  show J_ zX3_init T (po_X3_init_e T n c) 1 17 71 _ [] U41
  refine j_blx (F := fX3) tb_X3 (nn_ _) bk_X3_init_e_71 bs_X3_init_e_71 hz (fun K hK => ?_)
  refine hK 74 _ [vI 16, vR 153 n] U41 ?_
  have e44 : U41 191 0 0 = U39 191 0 0 := up_k hU41 (by exact Nat.ne_of_beq_eq_false rfl) 0 0
  refine j_newL (bc' := 0) (bs' := 1) (pc := 74) (by decide) (by omega) (by omega) (by omega) (by decide +kernel) (lwq_1 (dqc_m (dqc_m (dqa_m (List.mem_of_getElem? (i := 0) rfl)))) rfl : Cond.arrayClass .int ∈ lw_g) ?_
  refine j_nm (fun U43 hU43 => ?_)
  have fU43 := nv_fr hU43
  have aU43 := nv_t9 hU43
  have lU43 := nv_tl hU43
  have oU43 := nv_to hU43
  show J_ zX3_init T (po_X3_init_e T n c) 0 1 76 _ [vR 190 (U41 191 0 0), vR 153 n] U43
  refine j_putW (pc := 76) (ci := 3) (j := 16) (z := (U41 191 0 0) + 1) (by decide) (by decide) fW_X3_39 (by decide +kernel : (tf_ 153)[16]? = some (5, 190, (-2147483648), 2147483647)) (by decide) (by decide +kernel) (fv5_ (by first | exact hn0 | exact hn1 | exact hn2 | exact hc0 | exact hc1 | exact hc2 | omega)) rfl (by first | exact hn0 | exact hn1 | exact hn2 | exact hc0 | exact hc1 | exact hc2 | omega) (by first | exact hn0 | exact hn1 | exact hn2 | exact hc0 | exact hc1 | exact hc2 | omega) ?_
  refine j_nm (fun U45 hU45 => ?_)
  have e46 := up_f hU45
  show J_ zX3_init T (po_X3_init_e T n c) 0 1 79 _ [] U45
  refine j_blx (F := fX3) tb_X3 (nn_ _) bk_X3_init_e_79 bs_X3_init_e_79 hz (fun K hK => ?_)
  refine hK 81 _ [vR 401 c, vR 153 n] U45 ?_
  refine j_putW (pc := 81) (ci := 3) (j := 0) (z := c + 1) (by decide) (by decide) fW_X3_42 (by decide +kernel : (tf_ 153)[0]? = some (5, 401, (-2147483648), 2147483647)) (by decide) (by decide +kernel) (fv5_ (by first | exact hn0 | exact hn1 | exact hn2 | exact hc0 | exact hc1 | exact hc2 | omega)) rfl (by first | exact hn0 | exact hn1 | exact hn2 | exact hc0 | exact hc1 | exact hc2 | omega) (by first | exact hn0 | exact hn1 | exact hn2 | exact hc0 | exact hc1 | exact hc2 | omega) ?_
  refine j_nm (fun U47 hU47 => ?_)
  have e48 := up_f hU47
  show J_ zX3_init T (po_X3_init_e T n c) 0 1 84 _ [] U47
  refine j_blx (F := fX3) tb_X3 (nn_ _) bk_X3_init_e_84 bs_X3_init_e_84 hz (fun K hK => ?_)
  refine hK 86 _ [vR 448 n, vR 153 n] U47 ?_
  refine j_putW (pc := 86) (ci := 3) (j := 1) (z := n + 1) (by decide) (by decide) fW_X3_45 (by decide +kernel : (tf_ 153)[1]? = some (5, 448, (-2147483648), 2147483647)) (by decide) (by decide +kernel) (fv5_ (by first | exact hn0 | exact hn1 | exact hn2 | exact hc0 | exact hc1 | exact hc2 | omega)) rfl (by first | exact hn0 | exact hn1 | exact hn2 | exact hc0 | exact hc1 | exact hc2 | omega) (by first | exact hn0 | exact hn1 | exact hn2 | exact hc0 | exact hc1 | exact hc2 | omega) ?_
  refine j_nm (fun U49 hU49 => ?_)
  have e50 := up_f hU49
  show J_ zX3_init T (po_X3_init_e T n c) 0 1 89 _ [] U49
  refine j_blx (F := fX3) tb_X3 (nn_ _) bk_X3_init_e_89 bs_X3_init_e_89 hz (fun K hK => ?_)
  refine hK 91 _ [vR 449 n, vR 153 n] U49 ?_
  refine j_putW (pc := 91) (ci := 3) (j := 2) (z := n + 1) (by decide) (by decide) fW_X3_48 (by decide +kernel : (tf_ 153)[2]? = some (5, 449, (-2147483648), 2147483647)) (by decide) (by decide +kernel) (fv5_ (by first | exact hn0 | exact hn1 | exact hn2 | exact hc0 | exact hc1 | exact hc2 | omega)) rfl (by first | exact hn0 | exact hn1 | exact hn2 | exact hc0 | exact hc1 | exact hc2 | omega) (by first | exact hn0 | exact hn1 | exact hn2 | exact hc0 | exact hc1 | exact hc2 | omega) ?_
  refine j_nm (fun U51 hU51 => ?_)
  have e52 := up_f hU51
  show J_ zX3_init T (po_X3_init_e T n c) 0 1 94 _ [] U51
  refine j_blx (F := fX3) tb_X3 (nn_ _) bk_X3_init_e_94 bs_X3_init_e_94 hz (fun K hK => ?_)
  refine (show po_X3_init_e T n c U51 (none) from ?_)
  have e53 : U51 191 0 0 = U43 191 0 0 := (up_k hU51 (by exact Nat.ne_of_beq_eq_false rfl) 0 0).trans ((up_k hU49 (by exact Nat.ne_of_beq_eq_false rfl) 0 0).trans ((up_k hU47 (by exact Nat.ne_of_beq_eq_false rfl) 0 0).trans (up_k hU45 (by exact Nat.ne_of_beq_eq_false rfl) 0 0)))
  have e54 : U51 153 n 0 = c + 1 := (up_j hU51 (by decide) 153 n).trans ((up_j hU49 (by decide) 153 n).trans (up_f hU47))
  have e55 : U51 153 n 1 = n + 1 := (up_j hU51 (by decide) 153 n).trans (up_f hU49)
  have e56 : U51 153 n 2 = n + 1 := up_f hU51
  have e57 : U51 153 n 3 = T 153 n 3 := (up_j hU51 (by decide) 153 n).trans ((up_j hU49 (by decide) 153 n).trans ((up_j hU47 (by decide) 153 n).trans ((up_j hU45 (by decide) 153 n).trans ((fU43 153 n 3 rfl).trans ((up_j hU41 (by decide) 153 n).trans ((fU39 153 n 3 rfl).trans ((up_j hU37 (by decide) 153 n).trans ((fU34 153 n 3 rfl).trans ((up_j hU32 (by decide) 153 n).trans ((fU29 153 n 3 rfl).trans ((up_j hU27 (by decide) 153 n).trans ((fU24 153 n 3 rfl).trans ((up_j hU22 (by decide) 153 n).trans ((fU19 153 n 3 rfl).trans ((up_j hU17 (by decide) 153 n).trans ((fU14 153 n 3 rfl).trans ((up_j hU12 (by decide) 153 n).trans ((fU9 153 n 3 rfl).trans ((up_j hU7 (by decide) 153 n).trans ((fU4 153 n 3 rfl).trans ((up_j hU2 (by decide) 153 n).trans (fU1 153 n 3 rfl))))))))))))))))))))))
  have e58 : U51 153 n 4 = T 153 n 4 := (up_j hU51 (by decide) 153 n).trans ((up_j hU49 (by decide) 153 n).trans ((up_j hU47 (by decide) 153 n).trans ((up_j hU45 (by decide) 153 n).trans ((fU43 153 n 4 rfl).trans ((up_j hU41 (by decide) 153 n).trans ((fU39 153 n 4 rfl).trans ((up_j hU37 (by decide) 153 n).trans ((fU34 153 n 4 rfl).trans ((up_j hU32 (by decide) 153 n).trans ((fU29 153 n 4 rfl).trans ((up_j hU27 (by decide) 153 n).trans ((fU24 153 n 4 rfl).trans ((up_j hU22 (by decide) 153 n).trans ((fU19 153 n 4 rfl).trans ((up_j hU17 (by decide) 153 n).trans ((fU14 153 n 4 rfl).trans ((up_j hU12 (by decide) 153 n).trans ((fU9 153 n 4 rfl).trans ((up_j hU7 (by decide) 153 n).trans ((fU4 153 n 4 rfl).trans ((up_j hU2 (by decide) 153 n).trans (fU1 153 n 4 rfl))))))))))))))))))))))
  have e59 : U51 153 n 5 = T 153 n 5 := (up_j hU51 (by decide) 153 n).trans ((up_j hU49 (by decide) 153 n).trans ((up_j hU47 (by decide) 153 n).trans ((up_j hU45 (by decide) 153 n).trans ((fU43 153 n 5 rfl).trans ((up_j hU41 (by decide) 153 n).trans ((fU39 153 n 5 rfl).trans ((up_j hU37 (by decide) 153 n).trans ((fU34 153 n 5 rfl).trans ((up_j hU32 (by decide) 153 n).trans ((fU29 153 n 5 rfl).trans ((up_j hU27 (by decide) 153 n).trans ((fU24 153 n 5 rfl).trans ((up_j hU22 (by decide) 153 n).trans ((fU19 153 n 5 rfl).trans ((up_j hU17 (by decide) 153 n).trans ((fU14 153 n 5 rfl).trans ((up_j hU12 (by decide) 153 n).trans ((fU9 153 n 5 rfl).trans ((up_j hU7 (by decide) 153 n).trans ((fU4 153 n 5 rfl).trans ((up_j hU2 (by decide) 153 n).trans (fU1 153 n 5 rfl))))))))))))))))))))))
  have e60 : U51 153 n 6 = n + 1 := (up_j hU51 (by decide) 153 n).trans ((up_j hU49 (by decide) 153 n).trans ((up_j hU47 (by decide) 153 n).trans ((up_j hU45 (by decide) 153 n).trans ((fU43 153 n 6 rfl).trans ((up_j hU41 (by decide) 153 n).trans ((fU39 153 n 6 rfl).trans ((up_j hU37 (by decide) 153 n).trans ((fU34 153 n 6 rfl).trans ((up_j hU32 (by decide) 153 n).trans ((fU29 153 n 6 rfl).trans ((up_j hU27 (by decide) 153 n).trans ((fU24 153 n 6 rfl).trans ((up_j hU22 (by decide) 153 n).trans ((fU19 153 n 6 rfl).trans ((up_j hU17 (by decide) 153 n).trans ((fU14 153 n 6 rfl).trans ((up_j hU12 (by decide) 153 n).trans ((fU9 153 n 6 rfl).trans ((up_j hU7 (by decide) 153 n).trans ((fU4 153 n 6 rfl).trans (up_f hU2)))))))))))))))))))))
  have e61 : U51 153 n 7 = n + 1 := (up_j hU51 (by decide) 153 n).trans ((up_j hU49 (by decide) 153 n).trans ((up_j hU47 (by decide) 153 n).trans ((up_j hU45 (by decide) 153 n).trans ((fU43 153 n 7 rfl).trans ((up_j hU41 (by decide) 153 n).trans ((fU39 153 n 7 rfl).trans ((up_j hU37 (by decide) 153 n).trans ((fU34 153 n 7 rfl).trans ((up_j hU32 (by decide) 153 n).trans ((fU29 153 n 7 rfl).trans ((up_j hU27 (by decide) 153 n).trans ((fU24 153 n 7 rfl).trans ((up_j hU22 (by decide) 153 n).trans ((fU19 153 n 7 rfl).trans ((up_j hU17 (by decide) 153 n).trans ((fU14 153 n 7 rfl).trans ((up_j hU12 (by decide) 153 n).trans ((fU9 153 n 7 rfl).trans (up_f hU7)))))))))))))))))))
  have e62 : U51 153 n 8 = n + 1 := (up_j hU51 (by decide) 153 n).trans ((up_j hU49 (by decide) 153 n).trans ((up_j hU47 (by decide) 153 n).trans ((up_j hU45 (by decide) 153 n).trans ((fU43 153 n 8 rfl).trans ((up_j hU41 (by decide) 153 n).trans ((fU39 153 n 8 rfl).trans ((up_j hU37 (by decide) 153 n).trans ((fU34 153 n 8 rfl).trans ((up_j hU32 (by decide) 153 n).trans ((fU29 153 n 8 rfl).trans ((up_j hU27 (by decide) 153 n).trans ((fU24 153 n 8 rfl).trans ((up_j hU22 (by decide) 153 n).trans ((fU19 153 n 8 rfl).trans ((up_j hU17 (by decide) 153 n).trans ((fU14 153 n 8 rfl).trans (up_f hU12)))))))))))))))))
  have e63 : U51 153 n 9 = n + 1 := (up_j hU51 (by decide) 153 n).trans ((up_j hU49 (by decide) 153 n).trans ((up_j hU47 (by decide) 153 n).trans ((up_j hU45 (by decide) 153 n).trans ((fU43 153 n 9 rfl).trans ((up_j hU41 (by decide) 153 n).trans ((fU39 153 n 9 rfl).trans ((up_j hU37 (by decide) 153 n).trans ((fU34 153 n 9 rfl).trans ((up_j hU32 (by decide) 153 n).trans ((fU29 153 n 9 rfl).trans ((up_j hU27 (by decide) 153 n).trans ((fU24 153 n 9 rfl).trans ((up_j hU22 (by decide) 153 n).trans ((fU19 153 n 9 rfl).trans (up_f hU17)))))))))))))))
  have e64 : U51 153 n 10 = n + 1 := (up_j hU51 (by decide) 153 n).trans ((up_j hU49 (by decide) 153 n).trans ((up_j hU47 (by decide) 153 n).trans ((up_j hU45 (by decide) 153 n).trans ((fU43 153 n 10 rfl).trans ((up_j hU41 (by decide) 153 n).trans ((fU39 153 n 10 rfl).trans ((up_j hU37 (by decide) 153 n).trans ((fU34 153 n 10 rfl).trans ((up_j hU32 (by decide) 153 n).trans ((fU29 153 n 10 rfl).trans ((up_j hU27 (by decide) 153 n).trans ((fU24 153 n 10 rfl).trans (up_f hU22)))))))))))))
  have e65 : U51 153 n 11 = n + 1 := (up_j hU51 (by decide) 153 n).trans ((up_j hU49 (by decide) 153 n).trans ((up_j hU47 (by decide) 153 n).trans ((up_j hU45 (by decide) 153 n).trans ((fU43 153 n 11 rfl).trans ((up_j hU41 (by decide) 153 n).trans ((fU39 153 n 11 rfl).trans ((up_j hU37 (by decide) 153 n).trans ((fU34 153 n 11 rfl).trans ((up_j hU32 (by decide) 153 n).trans ((fU29 153 n 11 rfl).trans (up_f hU27)))))))))))
  have e66 : U51 153 n 12 = n + 1 := (up_j hU51 (by decide) 153 n).trans ((up_j hU49 (by decide) 153 n).trans ((up_j hU47 (by decide) 153 n).trans ((up_j hU45 (by decide) 153 n).trans ((fU43 153 n 12 rfl).trans ((up_j hU41 (by decide) 153 n).trans ((fU39 153 n 12 rfl).trans ((up_j hU37 (by decide) 153 n).trans ((fU34 153 n 12 rfl).trans (up_f hU32)))))))))
  have e67 : U51 153 n 13 = n + 1 := (up_j hU51 (by decide) 153 n).trans ((up_j hU49 (by decide) 153 n).trans ((up_j hU47 (by decide) 153 n).trans ((up_j hU45 (by decide) 153 n).trans ((fU43 153 n 13 rfl).trans ((up_j hU41 (by decide) 153 n).trans ((fU39 153 n 13 rfl).trans (up_f hU37)))))))
  have e68 : U51 153 n 14 = (U37 191 0 0) + 1 := (up_j hU51 (by decide) 153 n).trans ((up_j hU49 (by decide) 153 n).trans ((up_j hU47 (by decide) 153 n).trans ((up_j hU45 (by decide) 153 n).trans ((fU43 153 n 14 rfl).trans (up_f hU41)))))
  have e69 : U51 153 n 15 = T 153 n 15 := (up_j hU51 (by decide) 153 n).trans ((up_j hU49 (by decide) 153 n).trans ((up_j hU47 (by decide) 153 n).trans ((up_j hU45 (by decide) 153 n).trans ((fU43 153 n 15 rfl).trans ((up_j hU41 (by decide) 153 n).trans ((fU39 153 n 15 rfl).trans ((up_j hU37 (by decide) 153 n).trans ((fU34 153 n 15 rfl).trans ((up_j hU32 (by decide) 153 n).trans ((fU29 153 n 15 rfl).trans ((up_j hU27 (by decide) 153 n).trans ((fU24 153 n 15 rfl).trans ((up_j hU22 (by decide) 153 n).trans ((fU19 153 n 15 rfl).trans ((up_j hU17 (by decide) 153 n).trans ((fU14 153 n 15 rfl).trans ((up_j hU12 (by decide) 153 n).trans ((fU9 153 n 15 rfl).trans ((up_j hU7 (by decide) 153 n).trans ((fU4 153 n 15 rfl).trans ((up_j hU2 (by decide) 153 n).trans (fU1 153 n 15 rfl))))))))))))))))))))))
  have e70 : U51 153 n 16 = (U41 191 0 0) + 1 := (up_j hU51 (by decide) 153 n).trans ((up_j hU49 (by decide) 153 n).trans ((up_j hU47 (by decide) 153 n).trans (up_f hU45)))
  have e71 : U51 153 n 17 = T 153 n 17 := (up_j hU51 (by decide) 153 n).trans ((up_j hU49 (by decide) 153 n).trans ((up_j hU47 (by decide) 153 n).trans ((up_j hU45 (by decide) 153 n).trans ((fU43 153 n 17 rfl).trans ((up_j hU41 (by decide) 153 n).trans ((fU39 153 n 17 rfl).trans ((up_j hU37 (by decide) 153 n).trans ((fU34 153 n 17 rfl).trans ((up_j hU32 (by decide) 153 n).trans ((fU29 153 n 17 rfl).trans ((up_j hU27 (by decide) 153 n).trans ((fU24 153 n 17 rfl).trans ((up_j hU22 (by decide) 153 n).trans ((fU19 153 n 17 rfl).trans ((up_j hU17 (by decide) 153 n).trans ((fU14 153 n 17 rfl).trans ((up_j hU12 (by decide) 153 n).trans ((fU9 153 n 17 rfl).trans ((up_j hU7 (by decide) 153 n).trans ((fU4 153 n 17 rfl).trans ((up_j hU2 (by decide) 153 n).trans (fU1 153 n 17 rfl))))))))))))))))))))))
  have e72 : U51 191 0 0 = U43 191 0 0 := (up_k hU51 (by exact Nat.ne_of_beq_eq_false rfl) 0 0).trans ((up_k hU49 (by exact Nat.ne_of_beq_eq_false rfl) 0 0).trans ((up_k hU47 (by exact Nat.ne_of_beq_eq_false rfl) 0 0).trans (up_k hU45 (by exact Nat.ne_of_beq_eq_false rfl) 0 0)))
  have e73 : U41 191 0 0 = U39 191 0 0 := up_k hU41 (by exact Nat.ne_of_beq_eq_false rfl) 0 0
  have d1 : U51 190 (T 191 0 0) (-2) = 32 := by have y2 := lU39; rw [show U37 191 0 0 = T 191 0 0 from Int.le_antisymm (by omega) (by omega)] at y2; exact ((up_k hU51 (by exact Nat.ne_of_beq_eq_false rfl) _ _).trans ((up_k hU49 (by exact Nat.ne_of_beq_eq_false rfl) _ _).trans ((up_k hU47 (by exact Nat.ne_of_beq_eq_false rfl) _ _).trans ((up_k hU45 (by exact Nat.ne_of_beq_eq_false rfl) _ _).trans ((oU43 _ _ (by omega)).trans (up_k hU41 (by exact Nat.ne_of_beq_eq_false rfl) _ _)))))).trans y2
  have d2 : U51 190 (T 191 0 0 + 1) (-2) = 16 := by have y2 := lU43; rw [show U41 191 0 0 = T 191 0 0 + 1 from Int.le_antisymm (by omega) (by omega)] at y2; exact ((up_k hU51 (by exact Nat.ne_of_beq_eq_false rfl) _ _).trans ((up_k hU49 (by exact Nat.ne_of_beq_eq_false rfl) _ _).trans ((up_k hU47 (by exact Nat.ne_of_beq_eq_false rfl) _ _).trans (up_k hU45 (by exact Nat.ne_of_beq_eq_false rfl) _ _)))).trans y2
  have d3 : ∀ x j, x < T 191 0 0 → U51 190 x j = T 190 x j := fun x j hx => (up_k hU51 (by exact Nat.ne_of_beq_eq_false rfl) _ _).trans ((up_k hU49 (by exact Nat.ne_of_beq_eq_false rfl) _ _).trans ((up_k hU47 (by exact Nat.ne_of_beq_eq_false rfl) _ _).trans ((up_k hU45 (by exact Nat.ne_of_beq_eq_false rfl) _ _).trans ((oU43 _ _ (by omega)).trans ((up_k hU41 (by exact Nat.ne_of_beq_eq_false rfl) _ _).trans ((oU39 _ _ (by omega)).trans ((up_k hU37 (by exact Nat.ne_of_beq_eq_false rfl) _ _).trans ((fU34 190 _ _ rfl).trans ((up_k hU32 (by exact Nat.ne_of_beq_eq_false rfl) _ _).trans ((fU29 190 _ _ rfl).trans ((up_k hU27 (by exact Nat.ne_of_beq_eq_false rfl) _ _).trans ((fU24 190 _ _ rfl).trans ((up_k hU22 (by exact Nat.ne_of_beq_eq_false rfl) _ _).trans ((fU19 190 _ _ rfl).trans ((up_k hU17 (by exact Nat.ne_of_beq_eq_false rfl) _ _).trans ((fU14 190 _ _ rfl).trans ((up_k hU12 (by exact Nat.ne_of_beq_eq_false rfl) _ _).trans ((fU9 190 _ _ rfl).trans ((up_k hU7 (by exact Nat.ne_of_beq_eq_false rfl) _ _).trans ((fU4 190 _ _ rfl).trans ((up_k hU2 (by exact Nat.ne_of_beq_eq_false rfl) _ _).trans (fU1 190 _ _ rfl))))))))))))))))))))))
  exact ⟨rfl, fr_u (fr_u (fr_u (fr_u (fr_t (fr_u (fr_t (fr_u (fr_t (fr_u (fr_t (fr_u (fr_t (fr_u (fr_t (fr_u (fr_t (fr_u (fr_t (fr_u (fr_t (fr_u (fr_t (fr_0 _ _) (fr_s fU1 rfl)) hU2 rfl) (fr_s fU4 rfl)) hU7 rfl) (fr_s fU9 rfl)) hU12 rfl) (fr_s fU14 rfl)) hU17 rfl) (fr_s fU19 rfl)) hU22 rfl) (fr_s fU24 rfl)) hU27 rfl) (fr_s fU29 rfl)) hU32 rfl) (fr_s fU34 rfl)) hU37 rfl) (fr_s fU39 rfl)) hU41 rfl) (fr_s fU43 rfl)) hU45 rfl) hU47 rfl) hU49 rfl) hU51 rfl, oq_u (oq_u (oq_u (oq_u (oq_9 (oq_u (oq_9 (oq_u (oq_n (oq_u (oq_n (oq_u (oq_n (oq_u (oq_n (oq_u (oq_n (oq_u (oq_n (oq_u (oq_n (oq_u (oq_n (oq_r) oU1) hU2) oU4) hU7) oU9) hU12) oU14) hU17) oU19) hU22) oU24) hU27) oU29) hU32) oU34) hU37) fU39) hU41) fU43) hU45) hU47) hU49) hU51, ⟨e54, e55, e56, by omega, by omega⟩, ⟨e60, e61, e62, e63, e64, e65, e66, e67⟩, ⟨e57, e58, e59, e69, e71⟩, d1, d2, by omega, d3⟩
theorem bk_X10_event_e_0 : ck_ fX10 (some .int) cX10_event 0 [.aload 0, .iload 1] 2 = true := qck_r (nn_ _) (by decide +kernel)
theorem bs_X10_event_e_0 {P : Zt → Option Zv → Prop} (K : Int → Zl → List Zv → Zt → Prop) : sx_ K P [.aload 0, .iload 1] 2 = x_aload 0 (x_iload 1 (K 2)) := ((xe_aload 0).trans (congrArg (x_aload 0) ((xe_iload 1).trans (congrArg (x_iload 1) xe_nil))))
theorem bk_X10_event_e_5 : ck_ fX10 (some .int) cX10_event 5 [.ifCond .ne 11, .iconst (-2), .ireturn] 11 = true := qck_r (nn_ _) (by decide +kernel)
theorem bs_X10_event_e_5 {P : Zt → Option Zv → Prop} (K : Int → Zl → List Zv → Zt → Prop) : sx_ K P [.ifCond .ne 11, .iconst (-2), .ireturn] 11 = x_ifCond .ne 11 K (x_iconst (-2) (x_ireturn P)) := ((xe_ifCond .ne 11).trans (congrArg (x_ifCond .ne 11 K) ((xe_iconst (-2)).trans (congrArg (x_iconst (-2)) (xe_ireturn)))))
theorem bk_X10_event_e_11 : ck_ fX10 (some .int) cX10_event 11 [.aload 0, .tableswitch 0 10 2 #[], .tableswitch 0 6 3 #[], .iload 1, .aaload, .tableswitch 0 2 10 #[], .astore 6, .aload 6, .ifnonnull 33, .iconst (-11), .ireturn] 33 = true := qck_r (nn_ _) (by decide +kernel)
theorem bs_X10_event_e_11 {P : Zt → Option Zv → Prop} (K : Int → Zl → List Zv → Zt → Prop) : sx_ K P [.aload 0, .tableswitch 0 10 2 #[], .tableswitch 0 6 3 #[], .iload 1, .aaload, .tableswitch 0 2 10 #[], .astore 6, .aload 6, .ifnonnull 33, .iconst (-11), .ireturn] 33 = x_aload 0 (x_g1 110 106 (x_g1 106 523 (x_iload 1 (x_aaload (x_g4 102 103 10 (x_astore 6 (x_aload 6 (x_ifnonnull 33 K (x_iconst (-11) (x_ireturn P)))))))))) := ((xe_aload 0).trans (congrArg (x_aload 0) ((xe_g1 (kk := 110) rfl tl_10_2).trans (congrArg (x_g1 110 106) ((xe_g1 (kk := 106) rfl tl_6_3).trans (congrArg (x_g1 106 523) ((xe_iload 1).trans (congrArg (x_iload 1) ((xe_aaload).trans (congrArg (x_aaload) ((xe_g4 (kk := 102) rfl tl_2_10).trans (congrArg (x_g4 102 103 10) ((xe_astore 6).trans (congrArg (x_astore 6) ((xe_aload 6).trans (congrArg (x_aload 6) ((xe_ifnonnull 33).trans (congrArg (x_ifnonnull 33 K) ((xe_iconst (-11)).trans (congrArg (x_iconst (-11)) (xe_ireturn)))))))))))))))))))))
theorem bk_X10_event_e_33 : ck_ fX10 (some .int) cX10_event 33 [.aload 6, .iload 2, .iload 3, .iload 4, .iload 5] 41 = true := qck_r (nn_ _) (by decide +kernel)
theorem bs_X10_event_e_33 {P : Zt → Option Zv → Prop} (K : Int → Zl → List Zv → Zt → Prop) : sx_ K P [.aload 6, .iload 2, .iload 3, .iload 4, .iload 5] 41 = x_aload 6 (x_iload 2 (x_iload 3 (x_iload 4 (x_iload 5 (K 41))))) := ((xe_aload 6).trans (congrArg (x_aload 6) ((xe_iload 2).trans (congrArg (x_iload 2) ((xe_iload 3).trans (congrArg (x_iload 3) ((xe_iload 4).trans (congrArg (x_iload 4) ((xe_iload 5).trans (congrArg (x_iload 5) xe_nil))))))))))
theorem bk_X10_event_e_44 : ck_ fX10 (some .int) cX10_event 44 [.istore 7, .iload 7, .ifCond .eq 57, .iconst (-10), .iload 7, .isub, .ireturn] 57 = true := qck_r (nn_ _) (by decide +kernel)
theorem bs_X10_event_e_44 {P : Zt → Option Zv → Prop} (K : Int → Zl → List Zv → Zt → Prop) : sx_ K P [.istore 7, .iload 7, .ifCond .eq 57, .iconst (-10), .iload 7, .isub, .ireturn] 57 = x_istore 7 (x_iload 7 (x_ifCond .eq 57 K (x_iconst (-10) (x_iload 7 (x_isub (x_ireturn P)))))) := ((xe_istore 7).trans (congrArg (x_istore 7) ((xe_iload 7).trans (congrArg (x_iload 7) ((xe_ifCond .eq 57).trans (congrArg (x_ifCond .eq 57 K) ((xe_iconst (-10)).trans (congrArg (x_iconst (-10)) ((xe_iload 7).trans (congrArg (x_iload 7) ((xe_isub).trans (congrArg (x_isub) (xe_ireturn)))))))))))))
theorem bk_X10_event_e_57 : ck_ fX10 (some .int) cX10_event 57 [.aload 0, .tableswitch 0 10 2 #[], .tableswitch 0 6 5 #[], .iconst 3000, .if_icmp .lt 73, .iconst (-5), .ireturn] 73 = true := qck_r (nn_ _) (by decide +kernel)
theorem bs_X10_event_e_57 {P : Zt → Option Zv → Prop} (K : Int → Zl → List Zv → Zt → Prop) : sx_ K P [.aload 0, .tableswitch 0 10 2 #[], .tableswitch 0 6 5 #[], .iconst 3000, .if_icmp .lt 73, .iconst (-5), .ireturn] 73 = x_aload 0 (x_g1 110 106 (x_g0 106 5 0 3000 (x_iconst 3000 (x_if_icmp .lt 73 K (x_iconst (-5) (x_ireturn P)))))) := ((xe_aload 0).trans (congrArg (x_aload 0) ((xe_g1 (kk := 110) rfl tl_10_2).trans (congrArg (x_g1 110 106) ((xe_g0 (kk := 106) rfl tl_6_5).trans (congrArg (x_g0 106 5 0 3000) ((xe_iconst 3000).trans (congrArg (x_iconst 3000) ((xe_if_icmp .lt 73).trans (congrArg (x_if_icmp .lt 73 K) ((xe_iconst (-5)).trans (congrArg (x_iconst (-5)) (xe_ireturn)))))))))))))
theorem bk_X10_event_e_73 : ck_ fX10 (some .int) cX10_event 73 [.aload 0, .tableswitch 0 10 2 #[], .dup, .tableswitch 0 6 5 #[], .iconst 1, .iadd, .tableswitch 1 6 5 #[], .aload 6, .iload 2, .iload 3, .iload 4, .iload 5] 94 = true := qck_r (nn_ _) (by decide +kernel)
theorem bs_X10_event_e_73 {P : Zt → Option Zv → Prop} (K : Int → Zl → List Zv → Zt → Prop) : sx_ K P [.aload 0, .tableswitch 0 10 2 #[], .dup, .tableswitch 0 6 5 #[], .iconst 1, .iadd, .tableswitch 1 6 5 #[], .aload 6, .iload 2, .iload 3, .iload 4, .iload 5] 94 = x_aload 0 (x_g1 110 106 (x_dup (x_g0 106 5 0 3000 (x_iconst 1 (x_iadd (x_p 106 5 0 3000 (x_aload 6 (x_iload 2 (x_iload 3 (x_iload 4 (x_iload 5 (K 94)))))))))))) := ((xe_aload 0).trans (congrArg (x_aload 0) ((xe_g1 (kk := 110) rfl tl_10_2).trans (congrArg (x_g1 110 106) ((xe_dup).trans (congrArg (x_dup) ((xe_g0 (kk := 106) rfl tl_6_5).trans (congrArg (x_g0 106 5 0 3000) ((xe_iconst 1).trans (congrArg (x_iconst 1) ((xe_iadd).trans (congrArg (x_iadd) ((xe_p (kk := 106) rfl tl_6_5).trans (congrArg (x_p 106 5 0 3000) ((xe_aload 6).trans (congrArg (x_aload 6) ((xe_iload 2).trans (congrArg (x_iload 2) ((xe_iload 3).trans (congrArg (x_iload 3) ((xe_iload 4).trans (congrArg (x_iload 4) ((xe_iload 5).trans (congrArg (x_iload 5) xe_nil))))))))))))))))))))))))
theorem bk_X10_event_e_97 : ck_ fX10 (some .int) cX10_event 97 [.aload 6, .iload 2, .iload 3, .iload 4, .iload 5] 105 = true := qck_r (nn_ _) (by decide +kernel)
theorem bs_X10_event_e_97 {P : Zt → Option Zv → Prop} (K : Int → Zl → List Zv → Zt → Prop) : sx_ K P [.aload 6, .iload 2, .iload 3, .iload 4, .iload 5] 105 = x_aload 6 (x_iload 2 (x_iload 3 (x_iload 4 (x_iload 5 (K 105))))) := ((xe_aload 6).trans (congrArg (x_aload 6) ((xe_iload 2).trans (congrArg (x_iload 2) ((xe_iload 3).trans (congrArg (x_iload 3) ((xe_iload 4).trans (congrArg (x_iload 4) ((xe_iload 5).trans (congrArg (x_iload 5) xe_nil))))))))))
theorem bk_X10_event_e_108 : ck_ fX10 (some .int) cX10_event 108 [.aload 6, .tableswitch 0 3 15 #[], .ireturn] 114 = true := qck_r (nn_ _) (by decide +kernel)
theorem bs_X10_event_e_108 {P : Zt → Option Zv → Prop} (K : Int → Zl → List Zv → Zt → Prop) : sx_ K P [.aload 6, .tableswitch 0 3 15 #[], .ireturn] 114 = x_aload 6 (x_g0 103 15 0 3000 (x_ireturn P)) := ((xe_aload 6).trans (congrArg (x_aload 6) ((xe_g0 (kk := 103) rfl tl_3_15).trans (congrArg (x_g0 103 15 0 3000) (xe_ireturn)))))
abbrev po_X10_event_e (T : Zt) (N : Int) (ru : Int → Int) (m k s a b : Int) : Zt → Option Zv → Prop := fun T' r => ∃ x : Int, r = some (vI x) ∧ fr_ [(106, [5]), (103, [3, 4, 5, 14, 15]), (466, []), (467, []), (468, []), (472, []), (471, []), (469, []), (470, []), (473, []), (190, []), (191, [0])] T T' ∧ (LP_ (N + 1) T' ∧ lh_ T T' ∧ T' 191 0 0 ≤ T 191 0 0 + 600) ∧ ((x = -2 ∧ ¬ (0 ≤ m ∧ m < T 106 0 4) ∧ T = T') ∨ ((0 ≤ m ∧ m < T 106 0 4) ∧ ((T 102 m 10 = 0 ∧ x = -11 ∧ T = T') ∨ (¬ (T 102 m 10 = 0) ∧ ((lw9_ ru (rs9_ T m) k s a b ≠ 0 ∧ x = -10 - lw9_ ru (rs9_ T m) k s a b ∧ T = T') ∨ (lw9_ ru (rs9_ T m) k s a b = 0 ∧ 3000 ≤ T 106 0 5 ∧ x = -5 ∧ T = T') ∨ (lw9_ ru (rs9_ T m) k s a b = 0 ∧ T 106 0 5 < 3000 ∧ T' 106 0 5 = T 106 0 5 + 1 ∧ rs9_ T' m = ca9_ ru (rs9_ T m) k s a b ∧ hr9_ T' (T' 103 m 14) (T' 103 m 15).toNat = hr9_ T (T 103 m 14) (T 103 m 15).toNat ++ [(k, s, a, b)] ∧ x = T' 103 m 15 ∧ T' 103 m 15 = T 103 m 15 + 1 ∧ T' 103 m 17 = T 103 m 17 ∧ OMH_ T T' m))))))
set_option maxHeartbeats 4000000 in
theorem ct_X10_event_e {T : Zt} {N : Int} {ru : Int → Int} {m k s a b : Int} (hka : KA_ T) (hkm : KM_ T) (hkr : KR_ T) (hlp : LP_ N T) (hN : 0 ≤ N ∧ N ≤ 511) (h9 : 0 ≤ T 191 0 0 ∧ T 191 0 0 ≤ 900000000) (hr : RLP_ T m ru) : Ct_ yX10_event zX10_event T [vR 110 0, vI m, vI k, vI s, vI a, vI b] (po_X10_event_e T N ru m k s a b) := by
  refine ct_of pn_10 rfl rfl (Nat.le_of_ble_eq_true rfl) (fun hT hav => ?_)
  have hr_m : -2147483648 ≤ m ∧ m ≤ 2147483647 := hav (vI m) (List.mem_cons_of_mem _ List.mem_cons_self)
  have hr_k : -2147483648 ≤ k ∧ k ≤ 2147483647 := hav (vI k) (List.mem_cons_of_mem _ (List.mem_cons_of_mem _ List.mem_cons_self))
  have hr_s : -2147483648 ≤ s ∧ s ≤ 2147483647 := hav (vI s) (List.mem_cons_of_mem _ (List.mem_cons_of_mem _ (List.mem_cons_of_mem _ List.mem_cons_self)))
  have hr_a : -2147483648 ≤ a ∧ a ≤ 2147483647 := hav (vI a) (List.mem_cons_of_mem _ (List.mem_cons_of_mem _ (List.mem_cons_of_mem _ (List.mem_cons_of_mem _ List.mem_cons_self))))
  have hr_b : -2147483648 ≤ b ∧ b ≤ 2147483647 := hav (vI b) (List.mem_cons_of_mem _ (List.mem_cons_of_mem _ (List.mem_cons_of_mem _ (List.mem_cons_of_mem _ (List.mem_cons_of_mem _ List.mem_cons_self)))))
  have hz : zX10_event.2.2.2.1 = some .boolean → ∀ (T' : Zt) (x : Int), po_X10_event_e T N ru m k s a b T' (some (vI x)) → 0 ≤ x ∧ x ≤ 1 := fun h => by cases h
  have hb_matchCount : 0 ≤ T 106 0 4 ∧ T 106 0 4 ≤ 400 := bd_f hT 106 4 tl_6_4 0
  have hr0 := hr 0 (by decide) (by decide)
  have hr9 := hr 9 (by decide) (by decide)
  have hr10 := hr 10 (by decide) (by decide)
  have hr11 := hr 11 (by decide) (by decide)
  have hr12 := hr 12 (by decide) (by decide)
  show J_ zX10_event T (po_X10_event_e T N ru m k s a b) 1 2048 0 [some (vR 110 0), some (vI m), some (vI k), some (vI s), some (vI a), some (vI b), none, none] [] T
  refine j_blx (F := fX10) tb_X10 (nn_ _) bk_X10_event_e_0 bs_X10_event_e_0 hz (fun K hK => ?_)
  refine hK 2 _ [vI m, vR 110 0] T ?_
  refine j_callV (y := yX10_isMatch) (Yc := zX10_isMatch) (rest := []) [vI m] (ct_X10_isMatch (T := T)) cl_X10_195 (qd_c (by decide +kernel)) (nn_ _) rfl (rf_of rfl) (Nat.le_of_ble_eq_true rfl) (Nat.le_of_ble_eq_true rfl) (Nat.le_of_ble_eq_true rfl) rfl ?_
  rintro _ _ ⟨rfl, x1, rfl, hx1⟩
  show J_ zX10_event T (po_X10_event_e T N ru m k s a b) 1 2048 5 _ [vI x1] T
  refine j_blx (F := fX10) tb_X10 (nn_ _) bk_X10_event_e_5 bs_X10_event_e_5 hz (fun K hK => ?_)
  refine And.intro (fun c2 => ?_) (fun c2 => ?_)
  · replace hx1 := hx1.resolve_right (fun z => c2 z.1)
    clear c2
    refine hK 11 _ [] T ?_
    refine j_blx (F := fX10) tb_X10 (nn_ _) bk_X10_event_e_11 bs_X10_event_e_11 hz (fun K hK => ?_)
    refine ix_i (by omega) ?_
    refine And.intro (fun c3 => ?_) (fun c3 => ?_)
    · exact absurd (show T 523 0 (m) = 0 from Int.le_antisymm (by omega) (by omega)) (hka.2 _ (by omega) (by omega))
    · refine And.intro (fun c4 => ?_) (fun c4 => ?_)
      · refine (show po_X10_event_e T N ru m k s a b T (some (vI (-11))) from ?_)
        exact ⟨_, rfl, fr_0 _ _, ⟨LP_f (ws := []) hlp (by omega) lh_r (fr_0 _ _) ⟨rfl, rfl, rfl, rfl, rfl, rfl, rfl, rfl, rfl, rfl, rfl⟩, lh_r, by omega⟩, Or.inr ⟨by omega, Or.inl ⟨by omega, rfl, rfl⟩⟩⟩
      · have hl := hlp m (by omega) (by omega) (by omega)
        obtain ⟨⟨a1, a2, a3, a4, a5, a6, a7, a8, a9⟩, b1, b2, b3⟩ := hl
        have hkr9 := hkr _ a8 a9
        have z1 := lz_b b1
        have z2 := lz_b b2
        have g14 : (-2147483648) ≤ T 103 m 14 ∧ T 103 m 14 ≤ 2147483647 := bd_f hT 103 14 tl_3_14 m
        have g16 : (-2147483648) ≤ T 103 m 16 ∧ T 103 m 16 ≤ 2147483647 := bd_f hT 103 16 tl_3_16 m
        refine hK 33 [some (vR 110 0), some (vI m), some (vI k), some (vI s), some (vI a), some (vI b), some (vR 103 m), none] [] T ?_
        refine j_blx (F := fX10) tb_X10 (nn_ _) bk_X10_event_e_33 bs_X10_event_e_33 hz (fun K hK => ?_)
        refine hK 41 _ [vI b, vI a, vI s, vI k, vR 103 m] T ?_
        refine j_callV (y := yX3_brokenLaw) (Yc := zX3_brokenLaw) (rest := []) [vI k, vI s, vI a, vI b] (ct_X3_brokenLaw_e (T := T) (ru := ru) hr) cl_X10_282 (qd_c (by decide +kernel)) (nn_ _) rfl (rf_of rfl) (Nat.le_of_ble_eq_true rfl) (Nat.le_of_ble_eq_true rfl) (Nat.le_of_ble_eq_true rfl) rfl ?_
        rintro _ _ ⟨rfl, x5, rfl, hx5⟩
        show J_ zX10_event T (po_X10_event_e T N ru m k s a b) 1 2048 44 _ [vI x5] T
        refine j_blx (F := fX10) tb_X10 (nn_ _) bk_X10_event_e_44 bs_X10_event_e_44 hz (fun K hK => ?_)
        refine And.intro (fun c6 => ?_) (fun c6 => ?_)
        · refine hK 57 [some (vR 110 0), some (vI m), some (vI k), some (vI s), some (vI a), some (vI b), some (vR 103 m), some (vI x5)] [] T ?_
          refine j_blx (F := fX10) tb_X10 (nn_ _) bk_X10_event_e_57 bs_X10_event_e_57 hz (fun K hK => ?_)
          intro b7 b7b
          refine And.intro (fun c8 => ?_) (fun c8 => ?_)
          · refine hK 73 _ [] T ?_
            refine j_blx (F := fX10) tb_X10 (nn_ _) bk_X10_event_e_73 bs_X10_event_e_73 hz (fun K hK => ?_)
            intro b9 b9b
            refine rg_i (by omega) ?_
            refine bd_i (by omega) ?_
            refine x_nm (fun U10 hU10 => ?_)
            have e11 := up_f hU10
            refine hK 94 _ [vI b, vI a, vI s, vI k, vR 103 m] U10 ?_
            have e12 : U10 103 m 0 = T 103 m 0 := up_k hU10 (by exact Nat.ne_of_beq_eq_false rfl) m 0
            have e13 : U10 401 (T 103 m 0) 9 = T 401 (T 103 m 0) 9 := up_k hU10 (by exact Nat.ne_of_beq_eq_false rfl) (T 103 m 0) 9
            have r14 : U10 401 (U10 103 m 0) 9 = T 401 (T 103 m 0) 9 := by rw [e12]; exact e13
            have e15 : U10 103 m 0 = T 103 m 0 := up_k hU10 (by exact Nat.ne_of_beq_eq_false rfl) m 0
            have e16 : U10 401 (T 103 m 0) 0 = T 401 (T 103 m 0) 0 := up_k hU10 (by exact Nat.ne_of_beq_eq_false rfl) (T 103 m 0) 0
            have r17 : U10 401 (U10 103 m 0) 0 = T 401 (T 103 m 0) 0 := by rw [e15]; exact e16
            have g7 := hx5.1.2.2 (by omega)
            have g4 : T 103 m 3 = 0 := by
              have y9 := (lw_0 (hx5.2.symm.trans (by omega))).1
              rw [rs_d rfl] at y9
              exact y9
            have g8 := b3 g4
            have e18 : U10 470 m 0 = T 470 m 0 := up_k hU10 (by exact Nat.ne_of_beq_eq_false rfl) m 0
            have e19 : U10 470 m 1 = T 470 m 1 := up_k hU10 (by exact Nat.ne_of_beq_eq_false rfl) m 1
            refine j_callV (y := yX3_carryOut) (Yc := zX3_carryOut) (rest := []) [vI k, vI s, vI a, vI b] (ct_X3_carryOut_e (T := U10) (ru := ru) (rl_f (ws := [(106, [5])]) hr (fr_u (fr_0 _ _) hU10 rfl) rfl (fun _ => rfl)) (by rw [r17]; exact g7) (by omega) (by omega)) cl_X10_289 (qd_c (by decide +kernel)) (nn_ _) rfl (rf_of rfl) (Nat.le_of_ble_eq_true rfl) (Nat.le_of_ble_eq_true rfl) (Nat.le_of_ble_eq_true rfl) rfl ?_
            rintro U20 _ ⟨rfl, fU20, qU20o, qU20, qU20e⟩
            show J_ zX10_event T (po_X10_event_e T N ru m k s a b) 1 2048 97 _ [] U20
            refine j_blx (F := fX10) tb_X10 (nn_ _) bk_X10_event_e_97 bs_X10_event_e_97 hz (fun K hK => ?_)
            refine hK 105 _ [vI b, vI a, vI s, vI k, vR 103 m] U20 ?_
            have e22 : U20 103 m 15 = T 103 m 15 := (fU20 103 m 15 rfl).trans (up_k hU10 (by exact Nat.ne_of_beq_eq_false rfl) m 15)
            have e23 : U20 103 m 14 = T 103 m 14 := (fU20 103 m 14 rfl).trans (up_k hU10 (by exact Nat.ne_of_beq_eq_false rfl) m 14)
            have e24 : U20 191 0 0 = T 191 0 0 := (fU20 191 0 0 rfl).trans (up_k hU10 (by exact Nat.ne_of_beq_eq_false rfl) 0 0)
            have e26 : U20 103 m 14 = T 103 m 14 := (fU20 103 m 14 rfl).trans (up_k hU10 (by exact Nat.ne_of_beq_eq_false rfl) m 14)
            have y25 : U20 190 (U20 103 m 14) (-2) = T 190 (T 103 m 14) (-2) := by rw [e26]; exact (fU20 190 _ (-2) rfl).trans (up_k hU10 (by exact Nat.ne_of_beq_eq_false rfl) _ (-2))
            refine j_callV (y := yX3_keepRow) (Yc := zX3_keepRow) (rest := []) [vI k, vI s, vI a, vI b] (ct_X3_keepRow_e (T := U20) (by omega) (by omega) (by rw [y25]; exact b1)) cl_X10_292 (qd_c (by decide +kernel)) (nn_ _) rfl (rf_of rfl) (Nat.le_of_ble_eq_true rfl) (Nat.le_of_ble_eq_true rfl) (Nat.le_of_ble_eq_true rfl) rfl ?_
            rintro U27 _ ⟨rfl, fU27, qU27o, nU27, lU27, mU27, m2U27, zU27, iU27, kU27, dU27, xU27, gU27, bU27⟩
            show J_ zX10_event T (po_X10_event_e T N ru m k s a b) 0 0 108 _ [] U27
            refine j_blx (F := fX10) tb_X10 (nn_ _) bk_X10_event_e_108 bs_X10_event_e_108 hz (fun K hK => ?_)
            intro b29 b29b
            refine (show po_X10_event_e T N ru m k s a b U27 (some (vI (U27 103 m 15))) from ?_)
            have e30 : U27 106 0 5 = (T 106 0 5) + 1 := (fU27 106 0 5 rfl).trans ((fU20 106 0 5 rfl).trans (up_f hU10))
            have e31 : U27 103 m 0 = T 103 m 0 := (fU27 103 m 0 rfl).trans ((fU20 103 m 0 rfl).trans (up_k hU10 (by exact Nat.ne_of_beq_eq_false rfl) m 0))
            have e32 : U27 103 m 3 = U20 103 m 3 := fU27 103 m 3 rfl
            have e33 : U27 103 m 16 = T 103 m 16 := (fU27 103 m 16 rfl).trans ((fU20 103 m 16 rfl).trans (up_k hU10 (by exact Nat.ne_of_beq_eq_false rfl) m 16))
            have e34 : U27 103 m 17 = T 103 m 17 := (fU27 103 m 17 rfl).trans ((fU20 103 m 17 rfl).trans (up_k hU10 (by exact Nat.ne_of_beq_eq_false rfl) m 17))
            have e35 : U20 103 m 15 = T 103 m 15 := (fU20 103 m 15 rfl).trans (up_k hU10 (by exact Nat.ne_of_beq_eq_false rfl) m 15)
            have e36 : U20 103 m 14 = T 103 m 14 := (fU20 103 m 14 rfl).trans (up_k hU10 (by exact Nat.ne_of_beq_eq_false rfl) m 14)
            have e37 : U27 106 0 4 = T 106 0 4 := (fU27 106 0 4 rfl).trans ((fU20 106 0 4 rfl).trans (up_j hU10 (by decide) 106 0))
            have e38 : U27 106 0 2 = T 106 0 2 := (fU27 106 0 2 rfl).trans ((fU20 106 0 2 rfl).trans (up_j hU10 (by decide) 106 0))
            have e39 : U27 106 0 5 = (T 106 0 5) + 1 := (fU27 106 0 5 rfl).trans ((fU20 106 0 5 rfl).trans (up_f hU10))
            have e40 : U20 191 0 0 = T 191 0 0 := (fU20 191 0 0 rfl).trans (up_k hU10 (by exact Nat.ne_of_beq_eq_false rfl) 0 0)
            have e41 : U27 103 m 16 = T 103 m 16 := (fU27 103 m 16 rfl).trans ((fU20 103 m 16 rfl).trans (up_k hU10 (by exact Nat.ne_of_beq_eq_false rfl) m 16))
            have d1 : U27 190 (U27 103 m 16) (-2) = T 190 (T 103 m 16) (-2) := by rw [e41]; exact (lU27 _ (by omega)).trans ((fU20 190 _ (-2) rfl).trans (up_k hU10 (by exact Nat.ne_of_beq_eq_false rfl) _ (-2)))
            have d2 : lh_ T U27 := ⟨fun x hx => (lU27 x (by omega)).trans ((fU20 190 _ (-2) rfl).trans (up_k hU10 (by exact Nat.ne_of_beq_eq_false rfl) _ (-2))), by omega⟩
            have d3 : ∀ k i j, i ≠ m → k ≠ 190 → k ≠ 191 → k ≠ 106 → U27 k i j = T k i j := fun k i j a b c d => (qU27o k i j a b c).trans ((qU20o k i j a).trans (up_g hU10 (fun z => d z.1)))
            have d4 : Lp_ (N + 1) U27 m := ⟨⟨by omega, by omega, by omega, by omega, by omega, by omega, by omega, by omega, by omega⟩, zU27, by rw [d1]; exact b2, fun z => by have y1 := qU20 (by omega); have y2 : U27 470 m 0 = U20 470 m 0 := fU27 470 m 0 rfl; have y3 : U27 470 m 1 = U20 470 m 1 := fU27 470 m 1 rfl; omega⟩
            have w1 : ∀ x j, U20 190 x j = T 190 x j := fun x j => (fU20 190 x j rfl).trans (up_k hU10 (by exact Nat.ne_of_beq_eq_false rfl) x j)
            have u14 : U20 103 m 14 = T 103 m 14 := (fU20 103 m 14 rfl).trans (up_k hU10 (by exact Nat.ne_of_beq_eq_false rfl) m 14)
            have u15 : U20 103 m 15 = T 103 m 15 := (fU20 103 m 15 rfl).trans (up_k hU10 (by exact Nat.ne_of_beq_eq_false rfl) m 15)
            have u1 : rs9_ U27 m = ca9_ ru (rs9_ T m) k s a b := by
              rw [rs_w fU27 (fun k j d => by rcases dk_c d with rfl | rfl | rfl | rfl | rfl | rfl | rfl | rfl | rfl | rfl | ⟨rfl, rfl | rfl | rfl⟩ <;> rfl), qU20e, rs_n (T := T) (fun k j d => up_k hU10 (by rcases dk_c d with y | y | y | y | y | y | y | y | y | y | ⟨y, _⟩ <;> omega) m j)]
            have u2 : hr9_ U27 (U27 103 m 14) (U27 103 m 15).toNat = hr9_ T (T 103 m 14) (T 103 m 15).toNat ++ [(k, s, a, b)] := by
              have y9 := bU27
              rw [u14, u15, hrw_e (T := T) (a := T 103 m 14) (fun j _ _ => w1 _ j)] at y9
              exact y9
            have u3 : OMH_ T U27 m := ⟨d3, fun x j h1 h2 _ => (xU27 x j (by omega) (by omega)).trans (w1 x j), by rcases gU27 with z | z <;> omega, by omega⟩
            exact ⟨_, rfl, fr_t (fr_t (fr_u (fr_0 _ _) hU10 rfl) (fr_s fU20 rfl)) (fr_s fU27 rfl), ⟨LP_q hlp (by omega) d2 d3 (by omega) (by omega) (fun _ => d4), d2, by omega⟩, Or.inr ⟨by omega, Or.inr ⟨by omega, Or.inr (Or.inr ⟨by omega, by omega, by omega, u1, u2, rfl, by omega, by omega, u3⟩)⟩⟩⟩
          · refine (show po_X10_event_e T N ru m k s a b T (some (vI (-5))) from ?_)
            exact ⟨_, rfl, fr_0 _ _, ⟨LP_f (ws := []) hlp (by omega) lh_r (fr_0 _ _) ⟨rfl, rfl, rfl, rfl, rfl, rfl, rfl, rfl, rfl, rfl, rfl⟩, lh_r, by omega⟩, Or.inr ⟨by omega, Or.inr ⟨by omega, Or.inr (Or.inl ⟨by omega, by omega, rfl, rfl⟩)⟩⟩⟩
        · refine rg_i (by omega) ?_
          refine (show po_X10_event_e T N ru m k s a b T (some (vI ((-10) - x5))) from ?_)
          exact ⟨_, rfl, fr_0 _ _, ⟨LP_f (ws := []) hlp (by omega) lh_r (fr_0 _ _) ⟨rfl, rfl, rfl, rfl, rfl, rfl, rfl, rfl, rfl, rfl, rfl⟩, lh_r, by omega⟩, Or.inr ⟨by omega, Or.inr ⟨by omega, Or.inl ⟨by omega, by omega, rfl⟩⟩⟩⟩
  · replace hx1 := hx1.resolve_left (fun z => absurd (c2.symm.trans z.1) (by decide))
    clear c2
    refine (show po_X10_event_e T N ru m k s a b T (some (vI (-2))) from ?_)
    exact ⟨_, rfl, fr_0 _ _, ⟨LP_f (ws := []) hlp (by omega) lh_r (fr_0 _ _) ⟨rfl, rfl, rfl, rfl, rfl, rfl, rfl, rfl, rfl, rfl, rfl⟩, lh_r, by omega⟩, Or.inl ⟨rfl, by omega, rfl⟩⟩
theorem bk_X10_review_e_0 : ck_ fX10 (some .int) cX10_review 0 [.aload 0, .iload 1] 2 = true := qck_r (nn_ _) (by decide +kernel)
theorem bs_X10_review_e_0 {P : Zt → Option Zv → Prop} (K : Int → Zl → List Zv → Zt → Prop) : sx_ K P [.aload 0, .iload 1] 2 = x_aload 0 (x_iload 1 (K 2)) := ((xe_aload 0).trans (congrArg (x_aload 0) ((xe_iload 1).trans (congrArg (x_iload 1) xe_nil))))
theorem bk_X10_review_e_5 : ck_ fX10 (some .int) cX10_review 5 [.ifCond .ne 11, .iconst (-2), .ireturn] 11 = true := qck_r (nn_ _) (by decide +kernel)
theorem bs_X10_review_e_5 {P : Zt → Option Zv → Prop} (K : Int → Zl → List Zv → Zt → Prop) : sx_ K P [.ifCond .ne 11, .iconst (-2), .ireturn] 11 = x_ifCond .ne 11 K (x_iconst (-2) (x_ireturn P)) := ((xe_ifCond .ne 11).trans (congrArg (x_ifCond .ne 11 K) ((xe_iconst (-2)).trans (congrArg (x_iconst (-2)) (xe_ireturn)))))
theorem bk_X10_review_e_11 : ck_ fX10 (some .int) cX10_review 11 [.aload 0, .tableswitch 0 10 2 #[], .tableswitch 0 6 3 #[], .iload 1, .aaload, .tableswitch 0 2 10 #[], .astore 7, .aload 7, .ifnull 42, .iload 2, .aload 7, .tableswitch 0 3 15 #[]] 36 = true := qck_r (nn_ _) (by decide +kernel)
theorem bs_X10_review_e_11 {P : Zt → Option Zv → Prop} (K : Int → Zl → List Zv → Zt → Prop) : sx_ K P [.aload 0, .tableswitch 0 10 2 #[], .tableswitch 0 6 3 #[], .iload 1, .aaload, .tableswitch 0 2 10 #[], .astore 7, .aload 7, .ifnull 42, .iload 2, .aload 7, .tableswitch 0 3 15 #[]] 36 = x_aload 0 (x_g1 110 106 (x_g1 106 523 (x_iload 1 (x_aaload (x_g4 102 103 10 (x_astore 7 (x_aload 7 (x_ifnull 42 K (x_iload 2 (x_aload 7 (x_g0 103 15 0 3000 (K 36)))))))))))) := ((xe_aload 0).trans (congrArg (x_aload 0) ((xe_g1 (kk := 110) rfl tl_10_2).trans (congrArg (x_g1 110 106) ((xe_g1 (kk := 106) rfl tl_6_3).trans (congrArg (x_g1 106 523) ((xe_iload 1).trans (congrArg (x_iload 1) ((xe_aaload).trans (congrArg (x_aaload) ((xe_g4 (kk := 102) rfl tl_2_10).trans (congrArg (x_g4 102 103 10) ((xe_astore 7).trans (congrArg (x_astore 7) ((xe_aload 7).trans (congrArg (x_aload 7) ((xe_ifnull 42).trans (congrArg (x_ifnull 42 K) ((xe_iload 2).trans (congrArg (x_iload 2) ((xe_aload 7).trans (congrArg (x_aload 7) ((xe_g0 (kk := 103) rfl tl_3_15).trans (congrArg (x_g0 103 15 0 3000) xe_nil))))))))))))))))))))))))
theorem bk_X10_review_e_42 : ck_ fX10 (some .int) cX10_review 42 [.iconst (-2), .ireturn] 45 = true := qck_r (nn_ _) (by decide +kernel)
theorem bs_X10_review_e_42 {P : Zt → Option Zv → Prop} (K : Int → Zl → List Zv → Zt → Prop) : sx_ K P [.iconst (-2), .ireturn] 45 = x_iconst (-2) (x_ireturn P) := ((xe_iconst (-2)).trans (congrArg (x_iconst (-2)) (xe_ireturn)))
theorem bk_X10_review_e_39 : ck_ fX10 (some .int) cX10_review 39 [.ifCond .ne 45, .iconst (-2), .ireturn] 45 = true := qck_r (nn_ _) (by decide +kernel)
theorem bs_X10_review_e_39 {P : Zt → Option Zv → Prop} (K : Int → Zl → List Zv → Zt → Prop) : sx_ K P [.ifCond .ne 45, .iconst (-2), .ireturn] 45 = x_ifCond .ne 45 K (x_iconst (-2) (x_ireturn P)) := ((xe_ifCond .ne 45).trans (congrArg (x_ifCond .ne 45 K) ((xe_iconst (-2)).trans (congrArg (x_iconst (-2)) (xe_ireturn)))))
theorem bk_X10_review_e_45 : ck_ fX10 (some .int) cX10_review 45 [.iload 3, .iconst (-1), .if_icmp .ne 62, .aload 7, .iload 2] 53 = true := qck_r (nn_ _) (by decide +kernel)
theorem bs_X10_review_e_45 {P : Zt → Option Zv → Prop} (K : Int → Zl → List Zv → Zt → Prop) : sx_ K P [.iload 3, .iconst (-1), .if_icmp .ne 62, .aload 7, .iload 2] 53 = x_iload 3 (x_iconst (-1) (x_if_icmp .ne 62 K (x_aload 7 (x_iload 2 (K 53))))) := ((xe_iload 3).trans (congrArg (x_iload 3) ((xe_iconst (-1)).trans (congrArg (x_iconst (-1)) ((xe_if_icmp .ne 62).trans (congrArg (x_if_icmp .ne 62 K) ((xe_aload 7).trans (congrArg (x_aload 7) ((xe_iload 2).trans (congrArg (x_iload 2) xe_nil))))))))))
theorem bk_X10_review_e_62 : ck_ fX10 (some .int) cX10_review 62 [.aload 7, .iload 3, .iload 4] 67 = true := qck_r (nn_ _) (by decide +kernel)
theorem bs_X10_review_e_62 {P : Zt → Option Zv → Prop} (K : Int → Zl → List Zv → Zt → Prop) : sx_ K P [.aload 7, .iload 3, .iload 4] 67 = x_aload 7 (x_iload 3 (x_iload 4 (K 67))) := ((xe_aload 7).trans (congrArg (x_aload 7) ((xe_iload 3).trans (congrArg (x_iload 3) ((xe_iload 4).trans (congrArg (x_iload 4) xe_nil))))))
theorem bk_X10_review_e_70 : ck_ fX10 (some .int) cX10_review 70 [.ifCond .ne 76, .iconst (-12), .ireturn] 76 = true := qck_r (nn_ _) (by decide +kernel)
theorem bs_X10_review_e_70 {P : Zt → Option Zv → Prop} (K : Int → Zl → List Zv → Zt → Prop) : sx_ K P [.ifCond .ne 76, .iconst (-12), .ireturn] 76 = x_ifCond .ne 76 K (x_iconst (-12) (x_ireturn P)) := ((xe_ifCond .ne 76).trans (congrArg (x_ifCond .ne 76 K) ((xe_iconst (-12)).trans (congrArg (x_iconst (-12)) (xe_ireturn)))))
theorem bk_X10_review_e_76 : ck_ fX10 (some .int) cX10_review 76 [.aload 7, .iload 3, .iload 6] 81 = true := qck_r (nn_ _) (by decide +kernel)
theorem bs_X10_review_e_76 {P : Zt → Option Zv → Prop} (K : Int → Zl → List Zv → Zt → Prop) : sx_ K P [.aload 7, .iload 3, .iload 6] 81 = x_aload 7 (x_iload 3 (x_iload 6 (K 81))) := ((xe_aload 7).trans (congrArg (x_aload 7) ((xe_iload 3).trans (congrArg (x_iload 3) ((xe_iload 6).trans (congrArg (x_iload 6) xe_nil))))))
theorem bk_X10_review_e_84 : ck_ fX10 (some .int) cX10_review 84 [.ifCond .ne 90, .iconst (-17), .ireturn] 90 = true := qck_r (nn_ _) (by decide +kernel)
theorem bs_X10_review_e_84 {P : Zt → Option Zv → Prop} (K : Int → Zl → List Zv → Zt → Prop) : sx_ K P [.ifCond .ne 90, .iconst (-17), .ireturn] 90 = x_ifCond .ne 90 K (x_iconst (-17) (x_ireturn P)) := ((xe_ifCond .ne 90).trans (congrArg (x_ifCond .ne 90 K) ((xe_iconst (-17)).trans (congrArg (x_iconst (-17)) (xe_ireturn)))))
theorem bk_X10_review_e_90 : ck_ fX10 (some .int) cX10_review 90 [.aload 7, .iload 2, .iload 3, .iload 4, .iload 5, .iload 6] 100 = true := qck_r (nn_ _) (by decide +kernel)
theorem bs_X10_review_e_90 {P : Zt → Option Zv → Prop} (K : Int → Zl → List Zv → Zt → Prop) : sx_ K P [.aload 7, .iload 2, .iload 3, .iload 4, .iload 5, .iload 6] 100 = x_aload 7 (x_iload 2 (x_iload 3 (x_iload 4 (x_iload 5 (x_iload 6 (K 100)))))) := ((xe_aload 7).trans (congrArg (x_aload 7) ((xe_iload 2).trans (congrArg (x_iload 2) ((xe_iload 3).trans (congrArg (x_iload 3) ((xe_iload 4).trans (congrArg (x_iload 4) ((xe_iload 5).trans (congrArg (x_iload 5) ((xe_iload 6).trans (congrArg (x_iload 6) xe_nil))))))))))))
theorem bk_X10_review_e_103 : ck_ fX10 (some .int) cX10_review 103 [.ifCond .eq 109, .iconst (-20), .ireturn] 109 = true := qck_r (nn_ _) (by decide +kernel)
theorem bs_X10_review_e_103 {P : Zt → Option Zv → Prop} (K : Int → Zl → List Zv → Zt → Prop) : sx_ K P [.ifCond .eq 109, .iconst (-20), .ireturn] 109 = x_ifCond .eq 109 K (x_iconst (-20) (x_ireturn P)) := ((xe_ifCond .eq 109).trans (congrArg (x_ifCond .eq 109 K) ((xe_iconst (-20)).trans (congrArg (x_iconst (-20)) (xe_ireturn)))))
theorem bk_X10_review_e_109 : ck_ fX10 (some .int) cX10_review 109 [.aload 7, .iload 2, .iload 3, .iload 4, .iload 5, .iload 6] 119 = true := qck_r (nn_ _) (by decide +kernel)
theorem bs_X10_review_e_109 {P : Zt → Option Zv → Prop} (K : Int → Zl → List Zv → Zt → Prop) : sx_ K P [.aload 7, .iload 2, .iload 3, .iload 4, .iload 5, .iload 6] 119 = x_aload 7 (x_iload 2 (x_iload 3 (x_iload 4 (x_iload 5 (x_iload 6 (K 119)))))) := ((xe_aload 7).trans (congrArg (x_aload 7) ((xe_iload 2).trans (congrArg (x_iload 2) ((xe_iload 3).trans (congrArg (x_iload 3) ((xe_iload 4).trans (congrArg (x_iload 4) ((xe_iload 5).trans (congrArg (x_iload 5) ((xe_iload 6).trans (congrArg (x_iload 6) xe_nil))))))))))))
theorem bk_X10_review_e_122 : ck_ fX10 (some .int) cX10_review 122 [.aload 7] 124 = true := qck_r (nn_ _) (by decide +kernel)
theorem bs_X10_review_e_122 {P : Zt → Option Zv → Prop} (K : Int → Zl → List Zv → Zt → Prop) : sx_ K P [.aload 7] 124 = x_aload 7 (K 124) := ((xe_aload 7).trans (congrArg (x_aload 7) xe_nil))
theorem bk_X10_review_e_127 : ck_ fX10 (some .int) cX10_review 127 [.ireturn] 128 = true := qck_r (nn_ _) (by decide +kernel)
theorem bs_X10_review_e_127 {P : Zt → Option Zv → Prop} (K : Int → Zl → List Zv → Zt → Prop) : sx_ K P [.ireturn] 128 = x_ireturn P := (xe_ireturn)
theorem bk_X10_review_e_56 : ck_ fX10 (some .int) cX10_review 56 [.aload 7] 58 = true := qck_r (nn_ _) (by decide +kernel)
theorem bs_X10_review_e_56 {P : Zt → Option Zv → Prop} (K : Int → Zl → List Zv → Zt → Prop) : sx_ K P [.aload 7] 58 = x_aload 7 (K 58) := ((xe_aload 7).trans (congrArg (x_aload 7) xe_nil))
theorem bk_X10_review_e_61 : ck_ fX10 (some .int) cX10_review 61 [.ireturn] 62 = true := qck_r (nn_ _) (by decide +kernel)
theorem bs_X10_review_e_61 {P : Zt → Option Zv → Prop} (K : Int → Zl → List Zv → Zt → Prop) : sx_ K P [.ireturn] 62 = x_ireturn P := (xe_ireturn)
abbrev po_X10_review_e (T : Zt) (N : Int) (ru : Int → Int) (m i k s a b : Int) : Zt → Option Zv → Prop := fun T' r => ∃ x : Int, r = some (vI x) ∧ fr_ [(103, [3, 4, 5, 15, 16, 17]), (466, []), (467, []), (468, []), (469, []), (472, []), (473, []), (470, []), (471, []), (190, []), (191, [0])] T T' ∧ (LP_ (N + 1) T' ∧ lh_ T T' ∧ T' 191 0 0 ≤ T 191 0 0 + 600) ∧ ((x = -2 ∧ ¬ ((0 ≤ m ∧ m < T 106 0 4) ∧ ¬ (T 102 m 10 = 0) ∧ 0 ≤ i ∧ i < T 103 m 15) ∧ T = T') ∨ (((0 ≤ m ∧ m < T 106 0 4) ∧ ¬ (T 102 m 10 = 0) ∧ 0 ≤ i ∧ i < T 103 m 15) ∧ OMH_ T T' m ∧ ((k = -1 ∧ RNH_ ru m x T T' ((hr9_ T (T 103 m 14) (T 103 m 15).toNat).eraseIdx i.toNat)) ∨ (k ≠ -1 ∧ ((¬ ((k = 0 ∨ (0 ≤ s ∧ s ≤ 1)) ∧ ((ru 0 = 0 ∧ 0 ≤ k ∧ k ≤ 5) ∨ (ru 0 = 1 ∧ (k = 1 ∨ k = 5)) ∨ (ru 0 = 2 ∧ (k = 1 ∨ k = 6)) ∨ (¬ ru 0 = 0 ∧ ¬ ru 0 = 1 ∧ ¬ ru 0 = 2 ∧ 1 ≤ k ∧ k ≤ 4))) ∧ x = -12 ∧ T = T') ∨ (((k = 0 ∨ (0 ≤ s ∧ s ≤ 1)) ∧ ((ru 0 = 0 ∧ 0 ≤ k ∧ k ≤ 5) ∨ (ru 0 = 1 ∧ (k = 1 ∨ k = 5)) ∨ (ru 0 = 2 ∧ (k = 1 ∨ k = 6)) ∨ (¬ ru 0 = 0 ∧ ¬ ru 0 = 1 ∧ ¬ ru 0 = 2 ∧ 1 ≤ k ∧ k ≤ 4))) ∧ ¬ (ru 0 ≠ 3 ∨ k ≠ 1 ∨ (1 ≤ b ∧ b ≤ 4)) ∧ x = -17 ∧ T = T') ∨ (((k = 0 ∨ (0 ≤ s ∧ s ≤ 1)) ∧ ((ru 0 = 0 ∧ 0 ≤ k ∧ k ≤ 5) ∨ (ru 0 = 1 ∧ (k = 1 ∨ k = 5)) ∨ (ru 0 = 2 ∧ (k = 1 ∨ k = 6)) ∨ (¬ ru 0 = 0 ∧ ¬ ru 0 = 1 ∧ ¬ ru 0 = 2 ∧ 1 ≤ k ∧ k ≤ 4))) ∧ (ru 0 ≠ 3 ∨ k ≠ 1 ∨ (1 ≤ b ∧ b ≤ 4)) ∧ (hr9_ T (T 103 m 14) (T 103 m 15).toNat)[i.toNat]? = some (k, s, a, b) ∧ x = -20 ∧ T = T') ∨ (((k = 0 ∨ (0 ≤ s ∧ s ≤ 1)) ∧ ((ru 0 = 0 ∧ 0 ≤ k ∧ k ≤ 5) ∨ (ru 0 = 1 ∧ (k = 1 ∨ k = 5)) ∨ (ru 0 = 2 ∧ (k = 1 ∨ k = 6)) ∨ (¬ ru 0 = 0 ∧ ¬ ru 0 = 1 ∧ ¬ ru 0 = 2 ∧ 1 ≤ k ∧ k ≤ 4))) ∧ (ru 0 ≠ 3 ∨ k ≠ 1 ∨ (1 ≤ b ∧ b ≤ 4)) ∧ ¬ ((hr9_ T (T 103 m 14) (T 103 m 15).toNat)[i.toNat]? = some (k, s, a, b)) ∧ RNH_ ru m x T T' ((hr9_ T (T 103 m 14) (T 103 m 15).toNat).set i.toNat (k, s, a, b))))))))
set_option maxHeartbeats 4000000 in
theorem ct_X10_review_e {T : Zt} {N : Int} {ru : Int → Int} {m i k s a b : Int} (hka : KA_ T) (hkm : KM_ T) (hkr : KR_ T) (hlp : LP_ N T) (hN : 0 ≤ N ∧ N ≤ 511) (h9 : 0 ≤ T 191 0 0 ∧ T 191 0 0 ≤ 900000000) (hr : RLP_ T m ru) (hld : 0 ≤ m → m < T 106 0 4 → T 102 m 10 ≠ 0 → T 103 m 14 ≠ T 103 m 16) : Ct_ yX10_review zX10_review T [vR 110 0, vI m, vI i, vI k, vI s, vI a, vI b] (po_X10_review_e T N ru m i k s a b) := by
  refine ct_of pn_10 rfl rfl (Nat.le_of_ble_eq_true rfl) (fun hT hav => ?_)
  have hr_m : -2147483648 ≤ m ∧ m ≤ 2147483647 := hav (vI m) (List.mem_cons_of_mem _ List.mem_cons_self)
  have hr_i : -2147483648 ≤ i ∧ i ≤ 2147483647 := hav (vI i) (List.mem_cons_of_mem _ (List.mem_cons_of_mem _ List.mem_cons_self))
  have hr_k : -2147483648 ≤ k ∧ k ≤ 2147483647 := hav (vI k) (List.mem_cons_of_mem _ (List.mem_cons_of_mem _ (List.mem_cons_of_mem _ List.mem_cons_self)))
  have hr_s : -2147483648 ≤ s ∧ s ≤ 2147483647 := hav (vI s) (List.mem_cons_of_mem _ (List.mem_cons_of_mem _ (List.mem_cons_of_mem _ (List.mem_cons_of_mem _ List.mem_cons_self))))
  have hr_a : -2147483648 ≤ a ∧ a ≤ 2147483647 := hav (vI a) (List.mem_cons_of_mem _ (List.mem_cons_of_mem _ (List.mem_cons_of_mem _ (List.mem_cons_of_mem _ (List.mem_cons_of_mem _ List.mem_cons_self)))))
  have hr_b : -2147483648 ≤ b ∧ b ≤ 2147483647 := hav (vI b) (List.mem_cons_of_mem _ (List.mem_cons_of_mem _ (List.mem_cons_of_mem _ (List.mem_cons_of_mem _ (List.mem_cons_of_mem _ (List.mem_cons_of_mem _ List.mem_cons_self))))))
  have hz : zX10_review.2.2.2.1 = some .boolean → ∀ (T' : Zt) (x : Int), po_X10_review_e T N ru m i k s a b T' (some (vI x)) → 0 ≤ x ∧ x ≤ 1 := fun h => by cases h
  have hb_matchCount : 0 ≤ T 106 0 4 ∧ T 106 0 4 ≤ 400 := bd_f hT 106 4 tl_6_4 0
  have hr0 := hr 0 (by decide) (by decide)
  have hr9 := hr 9 (by decide) (by decide)
  have hr10 := hr 10 (by decide) (by decide)
  have hr11 := hr 11 (by decide) (by decide)
  have hr12 := hr 12 (by decide) (by decide)
  show J_ zX10_review T (po_X10_review_e T N ru m i k s a b) 127 4064 0 [some (vR 110 0), some (vI m), some (vI i), some (vI k), some (vI s), some (vI a), some (vI b), none] [] T
  refine j_blx (F := fX10) tb_X10 (nn_ _) bk_X10_review_e_0 bs_X10_review_e_0 hz (fun K hK => ?_)
  refine hK 2 _ [vI m, vR 110 0] T ?_
  refine j_callV (y := yX10_isMatch) (Yc := zX10_isMatch) (rest := []) [vI m] (ct_X10_isMatch (T := T)) cl_X10_195 (qd_c (by decide +kernel)) (nn_ _) rfl (rf_of rfl) (Nat.le_of_ble_eq_true rfl) (Nat.le_of_ble_eq_true rfl) (Nat.le_of_ble_eq_true rfl) rfl ?_
  rintro _ _ ⟨rfl, x1, rfl, hx1⟩
  show J_ zX10_review T (po_X10_review_e T N ru m i k s a b) 127 4064 5 _ [vI x1] T
  refine j_blx (F := fX10) tb_X10 (nn_ _) bk_X10_review_e_5 bs_X10_review_e_5 hz (fun K hK => ?_)
  refine And.intro (fun c2 => ?_) (fun c2 => ?_)
  · have im9 := (hx1.resolve_right (fun z => c2 z.1)).2
    clear hx1 c2
    refine hK 11 _ [] T ?_
    refine j_blx (F := fX10) tb_X10 (nn_ _) bk_X10_review_e_11 bs_X10_review_e_11 hz (fun K hK => ?_)
    refine ix_i (by omega) ?_
    refine And.intro (fun c3 => ?_) (fun c3 => ?_)
    · exact absurd (show T 523 0 (m) = 0 from Int.le_antisymm (by omega) (by omega)) (hka.2 _ (by omega) (by omega))
    · refine And.intro (fun c4 => ?_) (fun c4 => ?_)
      · refine hK 42 [some (vR 110 0), some (vI m), some (vI i), some (vI k), some (vI s), some (vI a), some (vI b), some (vN)] [] T ?_
        refine j_blx (F := fX10) tb_X10 (nn_ _) bk_X10_review_e_42 bs_X10_review_e_42 hz (fun K hK => ?_)
        refine (show po_X10_review_e T N ru m i k s a b T (some (vI (-2))) from ?_)
        exact ⟨_, rfl, fr_0 _ _, ⟨LP_f (ws := []) hlp (by omega) lh_r (fr_0 _ _) ⟨rfl, rfl, rfl, rfl, rfl, rfl, rfl, rfl, rfl, rfl, rfl⟩, lh_r, by omega⟩, Or.inl ⟨rfl, by omega, rfl⟩⟩
      · have hl := hlp m (by omega) (by omega) (by omega)
        obtain ⟨⟨a1, a2, a3, a4, a5, a6, a7, a8, a9⟩, b1, b2, b3⟩ := hl
        have hkr9 := hkr _ a8 a9
        have z1 := lz_b b1
        have z2 := lz_b b2
        have g14 : (-2147483648) ≤ T 103 m 14 ∧ T 103 m 14 ≤ 2147483647 := bd_f hT 103 14 tl_3_14 m
        have g16 : (-2147483648) ≤ T 103 m 16 ∧ T 103 m 16 ≤ 2147483647 := bd_f hT 103 16 tl_3_16 m
        have hld9 := hld (by omega) (by omega) (by omega)
        intro b5 b5b
        refine hK 36 [some (vR 110 0), some (vI m), some (vI i), some (vI k), some (vI s), some (vI a), some (vI b), some (vR 103 m)] [vI (T 103 m 15), vI i] T ?_
        refine j_callS (y := yX10_isBelow) (Yc := zX10_isBelow) (rest := []) [vI i, vI (T 103 m 15)] (ct_X10_isBelow (T := T)) cl_X10_115 (qd_c (by decide +kernel)) (nn_ _) rfl (rf_of rfl) (Nat.le_of_ble_eq_true rfl) (Nat.le_of_ble_eq_true rfl) (Nat.le_of_ble_eq_true rfl) rfl ?_
        rintro _ _ ⟨rfl, x6, rfl, hx6⟩
        show J_ zX10_review T (po_X10_review_e T N ru m i k s a b) 127 4064 39 _ [vI x6] T
        refine j_blx (F := fX10) tb_X10 (nn_ _) bk_X10_review_e_39 bs_X10_review_e_39 hz (fun K hK => ?_)
        refine And.intro (fun c7 => ?_) (fun c7 => ?_)
        · have ib9 := (hx6.resolve_right (fun z => c7 z.1)).2
          clear hx6 c7
          refine hK 45 _ [] T ?_
          refine j_blx (F := fX10) tb_X10 (nn_ _) bk_X10_review_e_45 bs_X10_review_e_45 hz (fun K hK => ?_)
          refine And.intro (fun c8 => ?_) (fun c8 => ?_)
          · refine hK 62 _ [] T ?_
            refine j_blx (F := fX10) tb_X10 (nn_ _) bk_X10_review_e_62 bs_X10_review_e_62 hz (fun K hK => ?_)
            refine hK 67 _ [vI s, vI k, vR 103 m] T ?_
            refine j_callV (y := yX3_isFormed) (Yc := zX3_isFormed) (rest := []) [vI k, vI s] (ct_X3_isFormed_e (T := T)) cl_X10_305 (qd_c (by decide +kernel)) (nn_ _) rfl (rf_of rfl) (Nat.le_of_ble_eq_true rfl) (Nat.le_of_ble_eq_true rfl) (Nat.le_of_ble_eq_true rfl) rfl ?_
            rintro _ _ ⟨rfl, x9, rfl, hx9⟩
            show J_ zX10_review T (po_X10_review_e T N ru m i k s a b) 127 4064 70 _ [vI x9] T
            refine j_blx (F := fX10) tb_X10 (nn_ _) bk_X10_review_e_70 bs_X10_review_e_70 hz (fun K hK => ?_)
            refine And.intro (fun c10 => ?_) (fun c10 => ?_)
            · have fm9 := fun (_ : Unit) => (hx9.resolve_right (fun z => c10 z.1)).2
              rw [hr0] at fm9
              clear hx9
              refine hK 76 _ [] T ?_
              refine j_blx (F := fX10) tb_X10 (nn_ _) bk_X10_review_e_76 bs_X10_review_e_76 hz (fun K hK => ?_)
              refine hK 81 _ [vI b, vI k, vR 103 m] T ?_
              refine j_callV (y := yX3_isBounded) (Yc := zX3_isBounded) (rest := []) [vI k, vI b] (ct_X3_isBounded_e (T := T)) cl_X10_308 (qd_c (by decide +kernel)) (nn_ _) rfl (rf_of rfl) (Nat.le_of_ble_eq_true rfl) (Nat.le_of_ble_eq_true rfl) (Nat.le_of_ble_eq_true rfl) rfl ?_
              rintro _ _ ⟨rfl, x11, rfl, hx11⟩
              show J_ zX10_review T (po_X10_review_e T N ru m i k s a b) 127 4064 84 _ [vI x11] T
              refine j_blx (F := fX10) tb_X10 (nn_ _) bk_X10_review_e_84 bs_X10_review_e_84 hz (fun K hK => ?_)
              refine And.intro (fun c12 => ?_) (fun c12 => ?_)
              · have bd9 := fun (_ : Unit) => (hx11.resolve_right (fun z => c12 z.1)).2
                rw [hr0] at bd9
                clear hx11
                refine hK 90 _ [] T ?_
                refine j_blx (F := fX10) tb_X10 (nn_ _) bk_X10_review_e_90 bs_X10_review_e_90 hz (fun K hK => ?_)
                refine hK 100 _ [vI b, vI a, vI s, vI k, vI i, vR 103 m] T ?_
                refine j_callV (y := yX3_isSameRow) (Yc := zX3_isSameRow) (rest := []) [vI i, vI k, vI s, vI a, vI b] (ct_X3_isSameRow_e (T := T) (by omega)) cl_X10_311 (qd_c (by decide +kernel)) (nn_ _) rfl (rf_of rfl) (Nat.le_of_ble_eq_true rfl) (Nat.le_of_ble_eq_true rfl) (Nat.le_of_ble_eq_true rfl) rfl ?_
                rintro _ _ ⟨rfl, x13, rfl, hx13⟩
                show J_ zX10_review T (po_X10_review_e T N ru m i k s a b) 127 4064 103 _ [vI x13] T
                refine j_blx (F := fX10) tb_X10 (nn_ _) bk_X10_review_e_103 bs_X10_review_e_103 hz (fun K hK => ?_)
                refine And.intro (fun c14 => ?_) (fun c14 => ?_)
                · have sm9 := fun (_ : Unit) => (hx13.resolve_left (fun z => absurd (c14.symm.trans z.1) (by decide))).2
                  clear hx13
                  refine hK 109 _ [] T ?_
                  refine j_blx (F := fX10) tb_X10 (nn_ _) bk_X10_review_e_109 bs_X10_review_e_109 hz (fun K hK => ?_)
                  refine hK 119 _ [vI b, vI a, vI s, vI k, vI i, vR 103 m] T ?_
                  refine j_callV (y := yX3_putInPlace) (Yc := zX3_putInPlace) (rest := []) [vI i, vI k, vI s, vI a, vI b] (ct_X3_putInPlace_e (T := T) (by omega)) cl_X10_315 (qd_c (by decide +kernel)) (nn_ _) rfl (rf_of rfl) (Nat.le_of_ble_eq_true rfl) (Nat.le_of_ble_eq_true rfl) (Nat.le_of_ble_eq_true rfl) rfl ?_
                  rintro U15 _ ⟨rfl, fU15, lU15, xU15, bU15⟩
                  show J_ zX10_review T (po_X10_review_e T N ru m i k s a b) 127 4064 122 _ [] U15
                  refine j_blx (F := fX10) tb_X10 (nn_ _) bk_X10_review_e_122 bs_X10_review_e_122 hz (fun K hK => ?_)
                  refine hK 124 _ [vR 103 m] U15 ?_
                  have e17 : U15 103 m 0 = T 103 m 0 := fU15 103 m 0 rfl
                  have e18 : U15 401 (T 103 m 0) 9 = T 401 (T 103 m 0) 9 := fU15 401 (T 103 m 0) 9 rfl
                  have r19 : U15 401 (U15 103 m 0) 9 = T 401 (T 103 m 0) 9 := by rw [e17]; exact e18
                  have e20 : U15 103 m 15 = T 103 m 15 := fU15 103 m 15 rfl
                  have e21 : U15 103 m 17 = T 103 m 17 := fU15 103 m 17 rfl
                  have e22 : U15 103 m 14 = T 103 m 14 := fU15 103 m 14 rfl
                  have e23 : U15 103 m 16 = T 103 m 16 := fU15 103 m 16 rfl
                  have e24 : U15 191 0 0 = T 191 0 0 := fU15 191 0 0 rfl
                  have e25 : U15 103 m 14 = T 103 m 14 := fU15 103 m 14 rfl
                  have w1 : U15 190 (U15 103 m 14) (-2) = T 190 (T 103 m 14) (-2) := by rw [e25]; exact lU15 _
                  have e26 : U15 103 m 16 = T 103 m 16 := fU15 103 m 16 rfl
                  have w2 : U15 190 (U15 103 m 16) (-2) = T 190 (T 103 m 16) (-2) := by rw [e26]; exact lU15 _
                  refine j_callV (y := yX3_runAnew) (Yc := zX3_runAnew) (rest := []) [] (ct_X3_runAnew_e (T := U15) (ru := ru) (rl_f (ws := [(190, [])]) hr (fr_t (fr_0 _ _) (fr_s fU15 rfl)) rfl (fun _ => rfl)) (by omega) (by omega) (by omega) (by rw [w2]; exact b2) (by omega)) cl_X10_302 (qd_c (by decide +kernel)) (nn_ _) rfl (rf_of rfl) (Nat.le_of_ble_eq_true rfl) (Nat.le_of_ble_eq_true rfl) (Nat.le_of_ble_eq_true rfl) rfl ?_
                  rintro U27 _ ⟨x28, rfl, fU27, qU27o, lU27, nU27, mU27, zU27, kU27, qU27, xU27, gU27, faU27, fbU27, fcU27, fdU27⟩
                  show J_ zX10_review T (po_X10_review_e T N ru m i k s a b) 0 0 127 _ [vI x28] U27
                  refine j_blx (F := fX10) tb_X10 (nn_ _) bk_X10_review_e_127 bs_X10_review_e_127 hz (fun K hK => ?_)
                  refine (show po_X10_review_e T N ru m i k s a b U27 (some (vI x28)) from ?_)
                  have e29 : U27 103 m 0 = T 103 m 0 := (fU27 103 m 0 rfl).trans (fU15 103 m 0 rfl)
                  have e30 : U27 103 m 14 = T 103 m 14 := (fU27 103 m 14 rfl).trans (fU15 103 m 14 rfl)
                  have e31 : U15 103 m 15 = T 103 m 15 := fU15 103 m 15 rfl
                  have e32 : U15 103 m 17 = T 103 m 17 := fU15 103 m 17 rfl
                  have e33 : U15 103 m 14 = T 103 m 14 := fU15 103 m 14 rfl
                  have e34 : U15 103 m 16 = T 103 m 16 := fU15 103 m 16 rfl
                  have e35 : U27 106 0 4 = T 106 0 4 := (fU27 106 0 4 rfl).trans (fU15 106 0 4 rfl)
                  have e36 : U27 106 0 2 = T 106 0 2 := (fU27 106 0 2 rfl).trans (fU15 106 0 2 rfl)
                  have e37 : U15 191 0 0 = T 191 0 0 := fU15 191 0 0 rfl
                  have e38 : U27 103 m 14 = T 103 m 14 := (fU27 103 m 14 rfl).trans (fU15 103 m 14 rfl)
                  have d0 : U27 103 m 14 = U15 103 m 14 := fU27 103 m 14 rfl
                  have d1 : U27 190 (U27 103 m 14) (-2) = T 190 (T 103 m 14) (-2) := by rw [e38]; exact (lU27 _ (by omega)).trans (lU15 _)
                  have d5 : U27 190 (U15 103 m 14) (-2) = T 190 (T 103 m 14) (-2) := by rw [show U15 103 m 14 = T 103 m 14 from Int.le_antisymm (by omega) (by omega)]; exact (lU27 _ (by omega)).trans (lU15 _)
                  have d2 : lh_ T U27 := ⟨fun x hx => (lU27 x (by omega)).trans (lU15 _), by omega⟩
                  have d3 : ∀ k i j, i ≠ m → k ≠ 190 → k ≠ 191 → k ≠ 106 → U27 k i j = T k i j := fun k i j a b c d => (qU27o k i j a b c).trans (fU15 k i j (by simp [fw_, b]))
                  have d4 : Lp_ (N + 1) U27 m := ⟨⟨by omega, by omega, by omega, by omega, by omega, by omega, by omega, by omega, by omega⟩, by rw [d1]; exact b1, zU27, qU27⟩
                  have u14 : U15 103 m 14 = T 103 m 14 := Int.le_antisymm (by omega) (by omega)
                  have v14 : U27 103 m 14 = T 103 m 14 := Int.le_antisymm (by omega) (by omega)
                  have u16 : U15 103 m 16 = T 103 m 16 := Int.le_antisymm (by omega) (by omega)
                  have u17 : U15 103 m 17 = T 103 m 17 := Int.le_antisymm (by omega) (by omega)
                  have u1 : rs9_ U15 m = rs9_ T m := rs_w fU15 (fun k j d => by rcases dk_c d with rfl | rfl | rfl | rfl | rfl | rfl | rfl | rfl | rfl | rfl | ⟨rfl, rfl | rfl | rfl⟩ <;> rfl)
                  have u2 : hr9_ U15 (U15 103 m 14) (U15 103 m 15).toNat = ((hr9_ T (T 103 m 14) (T 103 m 15).toNat).set i.toNat (k, s, a, b)) := by
                    rw [u14, show U15 103 m 15 = T 103 m 15 from Int.le_antisymm (by omega) (by omega)]
                    exact bU15
                  have fA := faU27
                  have fB := fbU27
                  have fC := fcU27
                  have fD := fdU27
                  rw [u1, u2] at fA fB fC
                  rw [u14.trans v14.symm] at fB
                  rw [u17] at fD
                  have rnz : RNH_ ru m _ T U27 ((hr9_ T (T 103 m 14) (T 103 m 15).toNat).set i.toNat (k, s, a, b)) := ⟨fA, fB, fC, fD⟩
                  have u3 : OMH_ T U27 m := ⟨d3, fun x j h1 h2 h3 => (xU27 x j (by omega) (by omega) (by omega)).trans (xU15 x j (by omega)), by omega, by rcases gU27 with z | z <;> omega⟩
                  have nsm : ¬ ((hr9_ T (T 103 m 14) (T 103 m 15).toNat)[i.toNat]? = some (k, s, a, b)) := fun z => by
                    rw [hrw_g _ (by omega)] at z
                    have z1 := Option.some.inj z
                    unfold ra9_ at z1
                    rw [show ((i.toNat : Nat) : Int) = i by omega] at z1
                    have y0 : T 190 (T 103 m 14) (i * 4) = k := congrArg Prod.fst z1
                    have y1 : T 190 (T 103 m 14) (i * 4 + 1) = s := congrArg (fun t => t.2.1) z1
                    have y2 : T 190 (T 103 m 14) (i * 4 + 2) = a := congrArg (fun t => t.2.2.1) z1
                    have y3 : T 190 (T 103 m 14) (i * 4 + 3) = b := congrArg (fun t => t.2.2.2) z1
                    exact sm9 () ⟨y0, y1, y2, y3⟩
                  exact ⟨_, rfl, fr_t (fr_t (fr_0 _ _) (fr_s fU15 rfl)) (fr_s fU27 rfl), ⟨LP_q hlp (by omega) d2 d3 (by omega) (by omega) (fun _ => d4), d2, by omega⟩, Or.inr ⟨by omega, u3, Or.inr ⟨by omega, Or.inr (Or.inr (Or.inr ⟨fm9 (), bd9 (), nsm, rnz⟩))⟩⟩⟩
                · have sm9 := fun (_ : Unit) => (hx13.resolve_right (fun z => c14 z.1)).2
                  clear hx13
                  refine (show po_X10_review_e T N ru m i k s a b T (some (vI (-20))) from ?_)
                  have sme : (hr9_ T (T 103 m 14) (T 103 m 15).toNat)[i.toNat]? = some (k, s, a, b) := by
                    rw [hrw_g _ (by omega)]
                    refine congrArg some ?_
                    unfold ra9_
                    rw [show ((i.toNat : Nat) : Int) = i by omega]
                    have y9 : T 190 (T 103 m 14) (i * 4) = k ∧ T 190 (T 103 m 14) (i * 4 + 1) = s ∧ T 190 (T 103 m 14) (i * 4 + 2) = a ∧ T 190 (T 103 m 14) (i * 4 + 3) = b := sm9 ()
                    rw [y9.1, y9.2.1, y9.2.2.1, y9.2.2.2]
                  exact ⟨_, rfl, fr_0 _ _, ⟨LP_f (ws := []) hlp (by omega) lh_r (fr_0 _ _) ⟨rfl, rfl, rfl, rfl, rfl, rfl, rfl, rfl, rfl, rfl, rfl⟩, lh_r, by omega⟩, Or.inr ⟨by omega, oh_r, Or.inr ⟨by omega, Or.inr (Or.inr (Or.inl ⟨fm9 (), bd9 (), sme, rfl, rfl⟩))⟩⟩⟩
              · have bd9 := fun (_ : Unit) => (hx11.resolve_left (fun z => absurd (c12.symm.trans z.1) (by decide))).2
                rw [hr0] at bd9
                clear hx11
                refine (show po_X10_review_e T N ru m i k s a b T (some (vI (-17))) from ?_)
                exact ⟨_, rfl, fr_0 _ _, ⟨LP_f (ws := []) hlp (by omega) lh_r (fr_0 _ _) ⟨rfl, rfl, rfl, rfl, rfl, rfl, rfl, rfl, rfl, rfl, rfl⟩, lh_r, by omega⟩, Or.inr ⟨by omega, oh_r, Or.inr ⟨by omega, Or.inr (Or.inl ⟨fm9 (), bd9 (), rfl, rfl⟩)⟩⟩⟩
            · have fm9 := fun (_ : Unit) => (hx9.resolve_left (fun z => absurd (c10.symm.trans z.1) (by decide))).2
              rw [hr0] at fm9
              clear hx9
              refine (show po_X10_review_e T N ru m i k s a b T (some (vI (-12))) from ?_)
              exact ⟨_, rfl, fr_0 _ _, ⟨LP_f (ws := []) hlp (by omega) lh_r (fr_0 _ _) ⟨rfl, rfl, rfl, rfl, rfl, rfl, rfl, rfl, rfl, rfl, rfl⟩, lh_r, by omega⟩, Or.inr ⟨by omega, oh_r, Or.inr ⟨by omega, Or.inl ⟨fm9 (), rfl, rfl⟩⟩⟩⟩
          · refine hK 53 _ [vI i, vR 103 m] T ?_
            refine j_callV (y := yX3_takeOut) (Yc := zX3_takeOut) (rest := []) [vI i] (ct_X3_takeOut_e (T := T) (by omega)) cl_X10_298 (qd_c (by decide +kernel)) (nn_ _) rfl (rf_of rfl) (Nat.le_of_ble_eq_true rfl) (Nat.le_of_ble_eq_true rfl) (Nat.le_of_ble_eq_true rfl) rfl ?_
            rintro U39 _ ⟨rfl, fU39, qU39o, nU39, lU39, xU39, bU39⟩
            show J_ zX10_review T (po_X10_review_e T N ru m i k s a b) 127 4064 56 _ [] U39
            refine j_blx (F := fX10) tb_X10 (nn_ _) bk_X10_review_e_56 bs_X10_review_e_56 hz (fun K hK => ?_)
            refine hK 58 _ [vR 103 m] U39 ?_
            have e41 : U39 103 m 0 = T 103 m 0 := fU39 103 m 0 rfl
            have e42 : U39 401 (T 103 m 0) 9 = T 401 (T 103 m 0) 9 := fU39 401 (T 103 m 0) 9 rfl
            have r43 : U39 401 (U39 103 m 0) 9 = T 401 (T 103 m 0) 9 := by rw [e41]; exact e42
            have e44 : U39 103 m 17 = T 103 m 17 := fU39 103 m 17 rfl
            have e45 : U39 103 m 14 = T 103 m 14 := fU39 103 m 14 rfl
            have e46 : U39 103 m 16 = T 103 m 16 := fU39 103 m 16 rfl
            have e47 : U39 191 0 0 = T 191 0 0 := fU39 191 0 0 rfl
            have e48 : U39 103 m 14 = T 103 m 14 := fU39 103 m 14 rfl
            have w1 : U39 190 (U39 103 m 14) (-2) = T 190 (T 103 m 14) (-2) := by rw [e48]; exact lU39 _
            have e49 : U39 103 m 16 = T 103 m 16 := fU39 103 m 16 rfl
            have w2 : U39 190 (U39 103 m 16) (-2) = T 190 (T 103 m 16) (-2) := by rw [e49]; exact lU39 _
            refine j_callV (y := yX3_runAnew) (Yc := zX3_runAnew) (rest := []) [] (ct_X3_runAnew_e (T := U39) (ru := ru) (rl_f (ws := [(103, [15]), (190, [])]) hr (fr_t (fr_0 _ _) (fr_s fU39 rfl)) rfl (fun _ => rfl)) (by omega) (by omega) (by omega) (by rw [w2]; exact b2) (by omega)) cl_X10_302 (qd_c (by decide +kernel)) (nn_ _) rfl (rf_of rfl) (Nat.le_of_ble_eq_true rfl) (Nat.le_of_ble_eq_true rfl) (Nat.le_of_ble_eq_true rfl) rfl ?_
            rintro U50 _ ⟨x51, rfl, fU50, qU50o, lU50, nU50, mU50, zU50, kU50, qU50, xU50, gU50, faU50, fbU50, fcU50, fdU50⟩
            show J_ zX10_review T (po_X10_review_e T N ru m i k s a b) 0 0 61 _ [vI x51] U50
            refine j_blx (F := fX10) tb_X10 (nn_ _) bk_X10_review_e_61 bs_X10_review_e_61 hz (fun K hK => ?_)
            refine (show po_X10_review_e T N ru m i k s a b U50 (some (vI x51)) from ?_)
            have e52 : U50 103 m 0 = T 103 m 0 := (fU50 103 m 0 rfl).trans (fU39 103 m 0 rfl)
            have e53 : U50 103 m 14 = T 103 m 14 := (fU50 103 m 14 rfl).trans (fU39 103 m 14 rfl)
            have e54 : U39 103 m 17 = T 103 m 17 := fU39 103 m 17 rfl
            have e55 : U39 103 m 14 = T 103 m 14 := fU39 103 m 14 rfl
            have e56 : U39 103 m 16 = T 103 m 16 := fU39 103 m 16 rfl
            have e57 : U50 106 0 4 = T 106 0 4 := (fU50 106 0 4 rfl).trans (fU39 106 0 4 rfl)
            have e58 : U50 106 0 2 = T 106 0 2 := (fU50 106 0 2 rfl).trans (fU39 106 0 2 rfl)
            have e59 : U39 191 0 0 = T 191 0 0 := fU39 191 0 0 rfl
            have e60 : U50 103 m 14 = T 103 m 14 := (fU50 103 m 14 rfl).trans (fU39 103 m 14 rfl)
            have d0 : U50 103 m 14 = U39 103 m 14 := fU50 103 m 14 rfl
            have d1 : U50 190 (U50 103 m 14) (-2) = T 190 (T 103 m 14) (-2) := by rw [e60]; exact (lU50 _ (by omega)).trans (lU39 _)
            have d5 : U50 190 (U39 103 m 14) (-2) = T 190 (T 103 m 14) (-2) := by rw [show U39 103 m 14 = T 103 m 14 from Int.le_antisymm (by omega) (by omega)]; exact (lU50 _ (by omega)).trans (lU39 _)
            have d2 : lh_ T U50 := ⟨fun x hx => (lU50 x (by omega)).trans (lU39 _), by omega⟩
            have d3 : ∀ k i j, i ≠ m → k ≠ 190 → k ≠ 191 → k ≠ 106 → U50 k i j = T k i j := fun k i j a b c d => (qU50o k i j a b c).trans (qU39o k i j a b c)
            have d4 : Lp_ (N + 1) U50 m := ⟨⟨by omega, by omega, by omega, by omega, by omega, by omega, by omega, by omega, by omega⟩, by rw [d1]; exact b1, zU50, qU50⟩
            have u14 : U39 103 m 14 = T 103 m 14 := Int.le_antisymm (by omega) (by omega)
            have v14 : U50 103 m 14 = T 103 m 14 := Int.le_antisymm (by omega) (by omega)
            have u16 : U39 103 m 16 = T 103 m 16 := Int.le_antisymm (by omega) (by omega)
            have u17 : U39 103 m 17 = T 103 m 17 := Int.le_antisymm (by omega) (by omega)
            have u1 : rs9_ U39 m = rs9_ T m := rs_w fU39 (fun k j d => by rcases dk_c d with rfl | rfl | rfl | rfl | rfl | rfl | rfl | rfl | rfl | rfl | ⟨rfl, rfl | rfl | rfl⟩ <;> rfl)
            have u2 : hr9_ U39 (U39 103 m 14) (U39 103 m 15).toNat = ((hr9_ T (T 103 m 14) (T 103 m 15).toNat).eraseIdx i.toNat) := by
              rw [u14]
              exact bU39
            have fA := faU50
            have fB := fbU50
            have fC := fcU50
            have fD := fdU50
            rw [u1, u2] at fA fB fC
            rw [u14.trans v14.symm] at fB
            rw [u17] at fD
            have rnz : RNH_ ru m _ T U50 ((hr9_ T (T 103 m 14) (T 103 m 15).toNat).eraseIdx i.toNat) := ⟨fA, fB, fC, fD⟩
            have u3 : OMH_ T U50 m := ⟨d3, fun x j h1 h2 h3 => (xU50 x j (by omega) (by omega) (by omega)).trans (xU39 x j (by omega)), by omega, by rcases gU50 with z | z <;> omega⟩
            exact ⟨_, rfl, fr_t (fr_t (fr_0 _ _) (fr_s fU39 rfl)) (fr_s fU50 rfl), ⟨LP_q hlp (by omega) d2 d3 (by omega) (by omega) (fun _ => d4), d2, by omega⟩, Or.inr ⟨by omega, u3, Or.inl ⟨by omega, rnz⟩⟩⟩
        · replace hx6 := hx6.resolve_left (fun z => absurd (c7.symm.trans z.1) (by decide))
          clear c7
          refine (show po_X10_review_e T N ru m i k s a b T (some (vI (-2))) from ?_)
          exact ⟨_, rfl, fr_0 _ _, ⟨LP_f (ws := []) hlp (by omega) lh_r (fr_0 _ _) ⟨rfl, rfl, rfl, rfl, rfl, rfl, rfl, rfl, rfl, rfl, rfl⟩, lh_r, by omega⟩, Or.inl ⟨rfl, by omega, rfl⟩⟩
  · replace hx1 := hx1.resolve_left (fun z => absurd (c2.symm.trans z.1) (by decide))
    clear c2
    refine (show po_X10_review_e T N ru m i k s a b T (some (vI (-2))) from ?_)
    exact ⟨_, rfl, fr_0 _ _, ⟨LP_f (ws := []) hlp (by omega) lh_r (fr_0 _ _) ⟨rfl, rfl, rfl, rfl, rfl, rfl, rfl, rfl, rfl, rfl, rfl⟩, lh_r, by omega⟩, Or.inl ⟨rfl, by omega, rfl⟩⟩
theorem bk_X2_phaseOfLife_e_0 : ck_ fX2 (some .int) cX2_phaseOfLife 0 [.aload 0, .tableswitch 0 2 6 #[], .iconst (-1), .if_icmp .eq 10, .iconst 3, .ireturn] 10 = true := qck_r (nn_ _) (by decide +kernel)
theorem bs_X2_phaseOfLife_e_0 {P : Zt → Option Zv → Prop} (K : Int → Zl → List Zv → Zt → Prop) : sx_ K P [.aload 0, .tableswitch 0 2 6 #[], .iconst (-1), .if_icmp .eq 10, .iconst 3, .ireturn] 10 = x_aload 0 (x_g0 102 6 (-1) 1 (x_iconst (-1) (x_if_icmp .eq 10 K (x_iconst 3 (x_ireturn P))))) := ((xe_aload 0).trans (congrArg (x_aload 0) ((xe_g0 (kk := 102) rfl tl_2_6).trans (congrArg (x_g0 102 6 (-1) 1) ((xe_iconst (-1)).trans (congrArg (x_iconst (-1)) ((xe_if_icmp .eq 10).trans (congrArg (x_if_icmp .eq 10 K) ((xe_iconst 3).trans (congrArg (x_iconst 3) (xe_ireturn)))))))))))
theorem bk_X2_phaseOfLife_e_10 : ck_ fX2 (some .int) cX2_phaseOfLife 10 [.aload 0, .tableswitch 0 2 10 #[], .ifnonnull 19, .iconst 0, .ireturn] 19 = true := qck_r (nn_ _) (by decide +kernel)
theorem bs_X2_phaseOfLife_e_10 {P : Zt → Option Zv → Prop} (K : Int → Zl → List Zv → Zt → Prop) : sx_ K P [.aload 0, .tableswitch 0 2 10 #[], .ifnonnull 19, .iconst 0, .ireturn] 19 = x_aload 0 (x_g4 102 103 10 (x_ifnonnull 19 K (x_iconst 0 (x_ireturn P)))) := ((xe_aload 0).trans (congrArg (x_aload 0) ((xe_g4 (kk := 102) rfl tl_2_10).trans (congrArg (x_g4 102 103 10) ((xe_ifnonnull 19).trans (congrArg (x_ifnonnull 19 K) ((xe_iconst 0).trans (congrArg (x_iconst 0) (xe_ireturn)))))))))
theorem bk_X2_phaseOfLife_e_19 : ck_ fX2 (some .int) cX2_phaseOfLife 19 [.aload 0, .tableswitch 0 2 10 #[], .tableswitch 0 3 3 #[], .ifCond .eq 33, .iconst 2, .goto 34] 33 = true := qck_r (nn_ _) (by decide +kernel)
theorem bs_X2_phaseOfLife_e_19 {P : Zt → Option Zv → Prop} (K : Int → Zl → List Zv → Zt → Prop) : sx_ K P [.aload 0, .tableswitch 0 2 10 #[], .tableswitch 0 3 3 #[], .ifCond .eq 33, .iconst 2, .goto 34] 33 = x_aload 0 (x_g4 102 103 10 (x_g0 103 3 0 1 (x_ifCond .eq 33 K (x_iconst 2 (x_goto 34 K))))) := ((xe_aload 0).trans (congrArg (x_aload 0) ((xe_g4 (kk := 102) rfl tl_2_10).trans (congrArg (x_g4 102 103 10) ((xe_g0 (kk := 103) rfl tl_3_3).trans (congrArg (x_g0 103 3 0 1) ((xe_ifCond .eq 33).trans (congrArg (x_ifCond .eq 33 K) ((xe_iconst 2).trans (congrArg (x_iconst 2) (xe_goto 34)))))))))))
theorem bk_X2_phaseOfLife_e_33 : ck_ fX2 (some .int) cX2_phaseOfLife 33 [.iconst 1, .ireturn] 35 = true := qck_r (nn_ _) (by decide +kernel)
theorem bs_X2_phaseOfLife_e_33 {P : Zt → Option Zv → Prop} (K : Int → Zl → List Zv → Zt → Prop) : sx_ K P [.iconst 1, .ireturn] 35 = x_iconst 1 (x_ireturn P) := ((xe_iconst 1).trans (congrArg (x_iconst 1) (xe_ireturn)))
theorem bk_X2_phaseOfLife_e_34 : ck_ fX2 (some .int) cX2_phaseOfLife 34 [.ireturn] 35 = true := qck_r (nn_ _) (by decide +kernel)
theorem bs_X2_phaseOfLife_e_34 {P : Zt → Option Zv → Prop} (K : Int → Zl → List Zv → Zt → Prop) : sx_ K P [.ireturn] 35 = x_ireturn P := (xe_ireturn)
abbrev po_X2_phaseOfLife_e (T : Zt) (p : Int) : Zt → Option Zv → Prop := fun T' r => T = T' ∧ ∃ x : Int, r = some (vI x) ∧ ((T 102 p 6 ≠ -1 ∧ x = 3) ∨ (T 102 p 6 = -1 ∧ ((T 102 p 10 = 0 ∧ x = 0) ∨ (T 102 p 10 ≠ 0 ∧ ((T 103 p 3 = 0 ∧ x = 1) ∨ (T 103 p 3 ≠ 0 ∧ x = 2))))))
set_option maxHeartbeats 4000000 in
theorem ct_X2_phaseOfLife_e {T : Zt} {p : Int} : Ct_ yX2_phaseOfLife zX2_phaseOfLife T [vR 102 p] (po_X2_phaseOfLife_e T p) := by
  refine ct_of pn_2 rfl rfl (Nat.le_of_ble_eq_true rfl) (fun hT hav => ?_)
  have hz : zX2_phaseOfLife.2.2.2.1 = some .boolean → ∀ (T' : Zt) (x : Int), po_X2_phaseOfLife_e T p T' (some (vI x)) → 0 ≤ x ∧ x ≤ 1 := fun h => by cases h
  show J_ zX2_phaseOfLife T (po_X2_phaseOfLife_e T p) 0 0 0 [some (vR 102 p)] [] T
  refine j_blx (F := fX2) tb_X2 (nn_ _) bk_X2_phaseOfLife_e_0 bs_X2_phaseOfLife_e_0 hz (fun K hK => ?_)
  intro b1 b1b
  refine And.intro (fun c2 => ?_) (fun c2 => ?_)
  · refine hK 10 _ [] T ?_
    refine j_blx (F := fX2) tb_X2 (nn_ _) bk_X2_phaseOfLife_e_10 bs_X2_phaseOfLife_e_10 hz (fun K hK => ?_)
    refine And.intro (fun c3 => ?_) (fun c3 => ?_)
    · refine (show po_X2_phaseOfLife_e T p T (some (vI 0)) from ?_)
      exact ⟨rfl, _, rfl, by omega⟩
    · refine hK 19 _ [] T ?_
      refine j_blx (F := fX2) tb_X2 (nn_ _) bk_X2_phaseOfLife_e_19 bs_X2_phaseOfLife_e_19 hz (fun K hK => ?_)
      refine And.intro (fun c4 => ?_) (fun c4 => ?_)
      · exact absurd c4 (by omega)
      · intro b5 b5b
        refine And.intro (fun c6 => ?_) (fun c6 => ?_)
        · refine hK 33 _ [] T ?_
          refine j_blx (F := fX2) tb_X2 (nn_ _) bk_X2_phaseOfLife_e_33 bs_X2_phaseOfLife_e_33 hz (fun K hK => ?_)
          refine (show po_X2_phaseOfLife_e T p T (some (vI 1)) from ?_)
          exact ⟨rfl, _, rfl, by omega⟩
        · refine hK 34 _ [vI 2] T ?_
          refine j_blx (F := fX2) tb_X2 (nn_ _) bk_X2_phaseOfLife_e_34 bs_X2_phaseOfLife_e_34 hz (fun K hK => ?_)
          refine (show po_X2_phaseOfLife_e T p T (some (vI 2)) from ?_)
          exact ⟨rfl, _, rfl, by omega⟩
  · refine (show po_X2_phaseOfLife_e T p T (some (vI 3)) from ?_)
    exact ⟨rfl, _, rfl, by omega⟩
theorem bk_X2_hasEnoughListed_e_0 : ck_ fX2 (some .boolean) cX2_hasEnoughListed 0 [.aload 0, .tableswitch 0 2 9 #[], .iconst 0, .iaload, .aload 0, .tableswitch 0 2 0 #[], .tableswitch 0 0 1 #[], .iconst 9, .iaload, .if_icmp .lt 42, .aload 0, .tableswitch 0 2 9 #[], .iconst 1, .iaload, .aload 0, .tableswitch 0 2 0 #[], .tableswitch 0 0 1 #[], .iconst 9, .iaload, .if_icmp .lt 42, .iconst 1, .goto 43] 42 = true := qck_r (nn_ _) (by decide +kernel)
theorem bs_X2_hasEnoughListed_e_0 {P : Zt → Option Zv → Prop} (K : Int → Zl → List Zv → Zt → Prop) : sx_ K P [.aload 0, .tableswitch 0 2 9 #[], .iconst 0, .iaload, .aload 0, .tableswitch 0 2 0 #[], .tableswitch 0 0 1 #[], .iconst 9, .iaload, .if_icmp .lt 42, .aload 0, .tableswitch 0 2 9 #[], .iconst 1, .iaload, .aload 0, .tableswitch 0 2 0 #[], .tableswitch 0 0 1 #[], .iconst 9, .iaload, .if_icmp .lt 42, .iconst 1, .goto 43] 42 = x_aload 0 (x_g2 102 449 (x_iconst 0 (x_iaload (x_aload 0 (x_g3 102 100 0 (x_g2 100 401 (x_iconst 9 (x_iaload (x_if_icmp .lt 42 K (x_aload 0 (x_g2 102 449 (x_iconst 1 (x_iaload (x_aload 0 (x_g3 102 100 0 (x_g2 100 401 (x_iconst 9 (x_iaload (x_if_icmp .lt 42 K (x_iconst 1 (x_goto 43 K))))))))))))))))))))) := ((xe_aload 0).trans (congrArg (x_aload 0) ((xe_g2 (kk := 102) rfl tl_2_9).trans (congrArg (x_g2 102 449) ((xe_iconst 0).trans (congrArg (x_iconst 0) ((xe_iaload).trans (congrArg (x_iaload) ((xe_aload 0).trans (congrArg (x_aload 0) ((xe_g3 (kk := 102) rfl tl_2_0).trans (congrArg (x_g3 102 100 0) ((xe_g2 (kk := 100) rfl tl_0_1).trans (congrArg (x_g2 100 401) ((xe_iconst 9).trans (congrArg (x_iconst 9) ((xe_iaload).trans (congrArg (x_iaload) ((xe_if_icmp .lt 42).trans (congrArg (x_if_icmp .lt 42 K) ((xe_aload 0).trans (congrArg (x_aload 0) ((xe_g2 (kk := 102) rfl tl_2_9).trans (congrArg (x_g2 102 449) ((xe_iconst 1).trans (congrArg (x_iconst 1) ((xe_iaload).trans (congrArg (x_iaload) ((xe_aload 0).trans (congrArg (x_aload 0) ((xe_g3 (kk := 102) rfl tl_2_0).trans (congrArg (x_g3 102 100 0) ((xe_g2 (kk := 100) rfl tl_0_1).trans (congrArg (x_g2 100 401) ((xe_iconst 9).trans (congrArg (x_iconst 9) ((xe_iaload).trans (congrArg (x_iaload) ((xe_if_icmp .lt 42).trans (congrArg (x_if_icmp .lt 42 K) ((xe_iconst 1).trans (congrArg (x_iconst 1) (xe_goto 43)))))))))))))))))))))))))))))))))))))))))))
theorem bk_X2_hasEnoughListed_e_42 : ck_ fX2 (some .boolean) cX2_hasEnoughListed 42 [.iconst 0, .ireturn] 44 = true := qck_r (nn_ _) (by decide +kernel)
theorem bs_X2_hasEnoughListed_e_42 {P : Zt → Option Zv → Prop} (K : Int → Zl → List Zv → Zt → Prop) : sx_ K P [.iconst 0, .ireturn] 44 = x_iconst 0 (x_ireturn P) := ((xe_iconst 0).trans (congrArg (x_iconst 0) (xe_ireturn)))
theorem bk_X2_hasEnoughListed_e_43 : ck_ fX2 (some .boolean) cX2_hasEnoughListed 43 [.ireturn] 44 = true := qck_r (nn_ _) (by decide +kernel)
theorem bs_X2_hasEnoughListed_e_43 {P : Zt → Option Zv → Prop} (K : Int → Zl → List Zv → Zt → Prop) : sx_ K P [.ireturn] 44 = x_ireturn P := (xe_ireturn)
abbrev po_X2_hasEnoughListed_e (T : Zt) (p : Int) : Zt → Option Zv → Prop := fun T' r => T = T' ∧ ∃ x : Int, r = some (vI x) ∧ ((x = 1 ∧ (T 401 (T 102 p 0) 9 ≤ T 449 p 0 ∧ T 401 (T 102 p 0) 9 ≤ T 449 p 1)) ∨ (x = 0 ∧ ¬ (T 401 (T 102 p 0) 9 ≤ T 449 p 0 ∧ T 401 (T 102 p 0) 9 ≤ T 449 p 1)))
set_option maxHeartbeats 4000000 in
theorem ct_X2_hasEnoughListed_e {T : Zt} {p : Int} : Ct_ yX2_hasEnoughListed zX2_hasEnoughListed T [vR 102 p] (po_X2_hasEnoughListed_e T p) := by
  refine ct_of pn_2 rfl rfl (Nat.le_of_ble_eq_true rfl) (fun hT hav => ?_)
  have hz : zX2_hasEnoughListed.2.2.2.1 = some .boolean → ∀ (T' : Zt) (x : Int), po_X2_hasEnoughListed_e T p T' (some (vI x)) → 0 ≤ x ∧ x ≤ 1 := fun _ T' x h => by obtain ⟨-, y, e, hy⟩ := h; cases e; omega
  show J_ zX2_hasEnoughListed T (po_X2_hasEnoughListed_e T p) 0 0 0 [some (vR 102 p)] [] T
  refine j_blx (F := fX2) tb_X2 (nn_ _) bk_X2_hasEnoughListed_e_0 bs_X2_hasEnoughListed_e_0 hz (fun K hK => ?_)
  refine ix_i (by omega) ?_
  intro b1 b1b
  refine ix_i (by omega) ?_
  intro b3 b3b
  refine And.intro (fun c4 => ?_) (fun c4 => ?_)
  · refine hK 42 _ [] T ?_
    refine j_blx (F := fX2) tb_X2 (nn_ _) bk_X2_hasEnoughListed_e_42 bs_X2_hasEnoughListed_e_42 hz (fun K hK => ?_)
    refine (show po_X2_hasEnoughListed_e T p T (some (vI 0)) from ?_)
    exact ⟨rfl, _, rfl, Or.inr ⟨rfl, by omega⟩⟩
  · refine ix_i (by omega) ?_
    intro b5 b5b
    refine ix_i (by omega) ?_
    intro b7 b7b
    refine And.intro (fun c8 => ?_) (fun c8 => ?_)
    · refine hK 42 _ [] T ?_
      refine j_blx (F := fX2) tb_X2 (nn_ _) bk_X2_hasEnoughListed_e_42 bs_X2_hasEnoughListed_e_42 hz (fun K hK => ?_)
      refine (show po_X2_hasEnoughListed_e T p T (some (vI 0)) from ?_)
      exact ⟨rfl, _, rfl, Or.inr ⟨rfl, by omega⟩⟩
    · refine hK 43 _ [vI 1] T ?_
      refine j_blx (F := fX2) tb_X2 (nn_ _) bk_X2_hasEnoughListed_e_43 bs_X2_hasEnoughListed_e_43 hz (fun K hK => ?_)
      refine (show po_X2_hasEnoughListed_e T p T (some (vI 1)) from ?_)
      exact ⟨rfl, _, rfl, Or.inl ⟨rfl, by omega⟩⟩
theorem bk_X10_start_e_0 : ck_ fX10 (some .int) cX10_start 0 [.aload 0, .iload 1] 2 = true := qck_r (nn_ _) (by decide +kernel)
theorem bs_X10_start_e_0 {P : Zt → Option Zv → Prop} (K : Int → Zl → List Zv → Zt → Prop) : sx_ K P [.aload 0, .iload 1] 2 = x_aload 0 (x_iload 1 (K 2)) := ((xe_aload 0).trans (congrArg (x_aload 0) ((xe_iload 1).trans (congrArg (x_iload 1) xe_nil))))
theorem bk_X10_start_e_5 : ck_ fX10 (some .int) cX10_start 5 [.ifCond .ne 11, .iconst (-2), .ireturn] 11 = true := qck_r (nn_ _) (by decide +kernel)
theorem bs_X10_start_e_5 {P : Zt → Option Zv → Prop} (K : Int → Zl → List Zv → Zt → Prop) : sx_ K P [.ifCond .ne 11, .iconst (-2), .ireturn] 11 = x_ifCond .ne 11 K (x_iconst (-2) (x_ireturn P)) := ((xe_ifCond .ne 11).trans (congrArg (x_ifCond .ne 11 K) ((xe_iconst (-2)).trans (congrArg (x_iconst (-2)) (xe_ireturn)))))
theorem bk_X10_start_e_11 : ck_ fX10 (some .int) cX10_start 11 [.aload 0, .tableswitch 0 10 2 #[], .tableswitch 0 6 3 #[], .iload 1, .aaload, .astore 2, .aload 2] 22 = true := qck_r (nn_ _) (by decide +kernel)
theorem bs_X10_start_e_11 {P : Zt → Option Zv → Prop} (K : Int → Zl → List Zv → Zt → Prop) : sx_ K P [.aload 0, .tableswitch 0 10 2 #[], .tableswitch 0 6 3 #[], .iload 1, .aaload, .astore 2, .aload 2] 22 = x_aload 0 (x_g1 110 106 (x_g1 106 523 (x_iload 1 (x_aaload (x_astore 2 (x_aload 2 (K 22))))))) := ((xe_aload 0).trans (congrArg (x_aload 0) ((xe_g1 (kk := 110) rfl tl_10_2).trans (congrArg (x_g1 110 106) ((xe_g1 (kk := 106) rfl tl_6_3).trans (congrArg (x_g1 106 523) ((xe_iload 1).trans (congrArg (x_iload 1) ((xe_aaload).trans (congrArg (x_aaload) ((xe_astore 2).trans (congrArg (x_astore 2) ((xe_aload 2).trans (congrArg (x_aload 2) xe_nil))))))))))))))
theorem bk_X10_start_e_25 : ck_ fX10 (some .int) cX10_start 25 [.ifCond .ne 49, .aload 2, .tableswitch 0 2 5 #[], .aload 0, .tableswitch 0 10 1 #[], .tableswitch 0 8 13 #[], .if_icmp .ne 49, .aload 2] 43 = true := qck_r (nn_ _) (by decide +kernel)
theorem bs_X10_start_e_25 {P : Zt → Option Zv → Prop} (K : Int → Zl → List Zv → Zt → Prop) : sx_ K P [.ifCond .ne 49, .aload 2, .tableswitch 0 2 5 #[], .aload 0, .tableswitch 0 10 1 #[], .tableswitch 0 8 13 #[], .if_icmp .ne 49, .aload 2] 43 = x_ifCond .ne 49 K (x_aload 2 (x_g0 102 5 0 999 (x_aload 0 (x_g1 110 108 (x_g0 108 13 0 999 (x_if_icmp .ne 49 K (x_aload 2 (K 43)))))))) := ((xe_ifCond .ne 49).trans (congrArg (x_ifCond .ne 49 K) ((xe_aload 2).trans (congrArg (x_aload 2) ((xe_g0 (kk := 102) rfl tl_2_5).trans (congrArg (x_g0 102 5 0 999) ((xe_aload 0).trans (congrArg (x_aload 0) ((xe_g1 (kk := 110) rfl tl_10_1).trans (congrArg (x_g1 110 108) ((xe_g0 (kk := 108) rfl tl_8_13).trans (congrArg (x_g0 108 13 0 999) ((xe_if_icmp .ne 49).trans (congrArg (x_if_icmp .ne 49 K) ((xe_aload 2).trans (congrArg (x_aload 2) xe_nil))))))))))))))))
theorem bk_X10_start_e_49 : ck_ fX10 (some .int) cX10_start 49 [.iconst (-4), .ireturn] 52 = true := qck_r (nn_ _) (by decide +kernel)
theorem bs_X10_start_e_49 {P : Zt → Option Zv → Prop} (K : Int → Zl → List Zv → Zt → Prop) : sx_ K P [.iconst (-4), .ireturn] 52 = x_iconst (-4) (x_ireturn P) := ((xe_iconst (-4)).trans (congrArg (x_iconst (-4)) (xe_ireturn)))
theorem bk_X10_start_e_46 : ck_ fX10 (some .int) cX10_start 46 [.ifCond .ne 52, .iconst (-4), .ireturn] 52 = true := qck_r (nn_ _) (by decide +kernel)
theorem bs_X10_start_e_46 {P : Zt → Option Zv → Prop} (K : Int → Zl → List Zv → Zt → Prop) : sx_ K P [.ifCond .ne 52, .iconst (-4), .ireturn] 52 = x_ifCond .ne 52 K (x_iconst (-4) (x_ireturn P)) := ((xe_ifCond .ne 52).trans (congrArg (x_ifCond .ne 52 K) ((xe_iconst (-4)).trans (congrArg (x_iconst (-4)) (xe_ireturn)))))
theorem bk_X10_start_e_52 : ck_ fX10 (some .int) cX10_start 52 [.aload 2] 53 = true := qck_r (nn_ _) (by decide +kernel)
theorem bs_X10_start_e_52 {P : Zt → Option Zv → Prop} (K : Int → Zl → List Zv → Zt → Prop) : sx_ K P [.aload 2] 53 = x_aload 2 (K 53) := ((xe_aload 2).trans (congrArg (x_aload 2) xe_nil))
theorem bk_X10_start_e_56 : ck_ fX10 (some .int) cX10_start 56 [.dup, .aload 2, .tableswitch 0 2 0 #[], .tableswitch 0 0 1 #[], .aload 2, .tableswitch 0 2 8 #[], .aload 2, .tableswitch 0 2 9 #[]] 72 = true := qck_r (nn_ _) (by decide +kernel)
theorem bs_X10_start_e_56 {P : Zt → Option Zv → Prop} (K : Int → Zl → List Zv → Zt → Prop) : sx_ K P [.dup, .aload 2, .tableswitch 0 2 0 #[], .tableswitch 0 0 1 #[], .aload 2, .tableswitch 0 2 8 #[], .aload 2, .tableswitch 0 2 9 #[]] 72 = x_dup (x_aload 2 (x_g3 102 100 0 (x_g2 100 401 (x_aload 2 (x_g2 102 448 (x_aload 2 (x_g2 102 449 (K 72)))))))) := ((xe_dup).trans (congrArg (x_dup) ((xe_aload 2).trans (congrArg (x_aload 2) ((xe_g3 (kk := 102) rfl tl_2_0).trans (congrArg (x_g3 102 100 0) ((xe_g2 (kk := 100) rfl tl_0_1).trans (congrArg (x_g2 100 401) ((xe_aload 2).trans (congrArg (x_aload 2) ((xe_g2 (kk := 102) rfl tl_2_8).trans (congrArg (x_g2 102 448) ((xe_aload 2).trans (congrArg (x_aload 2) ((xe_g2 (kk := 102) rfl tl_2_9).trans (congrArg (x_g2 102 449) xe_nil))))))))))))))))
theorem bk_X10_start_e_78 : ck_ fX10 (some .int) cX10_start 78 [.aload 2, .tableswitch 0 2 10 #[]] 82 = true := qck_r (nn_ _) (by decide +kernel)
theorem bs_X10_start_e_78 {P : Zt → Option Zv → Prop} (K : Int → Zl → List Zv → Zt → Prop) : sx_ K P [.aload 2, .tableswitch 0 2 10 #[]] 82 = x_aload 2 (x_g4 102 103 10 (K 82)) := ((xe_aload 2).trans (congrArg (x_aload 2) ((xe_g4 (kk := 102) rfl tl_2_10).trans (congrArg (x_g4 102 103 10) xe_nil))))
theorem bk_X10_start_e_85 : ck_ fX10 (some .int) cX10_start 85 [.iconst 1, .ireturn] 87 = true := qck_r (nn_ _) (by decide +kernel)
theorem bs_X10_start_e_85 {P : Zt → Option Zv → Prop} (K : Int → Zl → List Zv → Zt → Prop) : sx_ K P [.iconst 1, .ireturn] 87 = x_iconst 1 (x_ireturn P) := ((xe_iconst 1).trans (congrArg (x_iconst 1) (xe_ireturn)))
abbrev po_X10_start_e (T : Zt) (N : Int) (ru : Int → Int) (m : Int) : Zt → Option Zv → Prop := fun T' r => ∃ x : Int, r = some (vI x) ∧ fr_ [(153, []), (103, []), (102, [10]), (466, []), (467, []), (468, []), (469, []), (470, []), (471, []), (472, []), (473, []), (190, []), (191, [0])] T T' ∧ (LP_ N T' ∧ lh_ T T' ∧ T' 191 0 0 ≤ T 191 0 0 + 600 ∧ NA_ T' ∧ ∀ k i j, i ≠ m → k ≠ 190 → k ≠ 191 → T' k i j = T k i j) ∧ ((x = -2 ∧ ¬ (0 ≤ m ∧ m < T 106 0 4) ∧ T = T') ∨ ((0 ≤ m ∧ m < T 106 0 4) ∧ ((x = -4 ∧ ¬ ((T 102 m 6 = -1 ∧ T 102 m 10 = 0) ∧ T 102 m 5 = T 108 0 13 ∧ T 401 (T 102 m 0) 9 ≤ T 449 m 0 ∧ T 401 (T 102 m 0) 9 ≤ T 449 m 1) ∧ T = T') ∨ (x = 1 ∧ ((T 102 m 6 = -1 ∧ T 102 m 10 = 0) ∧ T 102 m 5 = T 108 0 13 ∧ T 401 (T 102 m 0) 9 ≤ T 449 m 0 ∧ T 401 (T 102 m 0) 9 ≤ T 449 m 1) ∧ T' 102 m 10 ≠ 0 ∧ T' 103 m 0 = T 102 m 0 ∧ (∃ z : Sg_, (∀ (k : Nat) (j : Int), k = 448 ∨ k = 449 → z k j = rs9_ T m k j) ∧ rs9_ T' m = bb9_ ru z) ∧ T' 103 m 14 = T 191 0 0 ∧ T' 103 m 16 = T 191 0 0 + 1 ∧ T' 103 m 15 = 0 ∧ T' 103 m 17 = 0 ∧ (∀ x j, x < T 191 0 0 → T' 190 x j = T 190 x j) ∧ ∀ k i j, i ≠ m → k ≠ 190 → k ≠ 191 → T' k i j = T k i j))))
set_option maxHeartbeats 4000000 in
theorem ct_X10_start_e {T : Zt} {N : Int} {ru : Int → Int} {m : Int} (hka : KA_ T) (hkm : KM_ T) (hkr : KR_ T) (hlp : LP_ N T) (hN : 0 ≤ N ∧ N ≤ 511) (h9 : 0 ≤ T 191 0 0 ∧ T 191 0 0 ≤ 900000000) (hna : NA_ T) (hrc : ∀ w, 0 ≤ w → w < 16 → T 401 (T 102 m 0) w = ru w) : Ct_ yX10_start zX10_start T [vR 110 0, vI m] (po_X10_start_e T N ru m) := by
  refine ct_of pn_10 rfl rfl (Nat.le_of_ble_eq_true rfl) (fun hT hav => ?_)
  have hr_m : -2147483648 ≤ m ∧ m ≤ 2147483647 := hav (vI m) (List.mem_cons_of_mem _ List.mem_cons_self)
  have hz : zX10_start.2.2.2.1 = some .boolean → ∀ (T' : Zt) (x : Int), po_X10_start_e T N ru m T' (some (vI x)) → 0 ≤ x ∧ x ≤ 1 := fun h => by cases h
  have hb_matchCount : 0 ≤ T 106 0 4 ∧ T 106 0 4 ≤ 400 := bd_f hT 106 4 tl_6_4 0
  have hb_competitionCount : 0 ≤ T 106 0 2 ∧ T 106 0 2 ≤ 4 := bd_f hT 106 2 tl_6_2 0
  show J_ zX10_start T (po_X10_start_e T N ru m) 11 130 0 [some (vR 110 0), some (vI m), none] [] T
  refine j_blx (F := fX10) tb_X10 (nn_ _) bk_X10_start_e_0 bs_X10_start_e_0 hz (fun K hK => ?_)
  refine hK 2 _ [vI m, vR 110 0] T ?_
  refine j_callV (y := yX10_isMatch) (Yc := zX10_isMatch) (rest := []) [vI m] (ct_X10_isMatch (T := T)) cl_X10_195 (qd_c (by decide +kernel)) (nn_ _) rfl (rf_of rfl) (Nat.le_of_ble_eq_true rfl) (Nat.le_of_ble_eq_true rfl) (Nat.le_of_ble_eq_true rfl) rfl ?_
  rintro _ _ ⟨rfl, x1, rfl, hx1⟩
  show J_ zX10_start T (po_X10_start_e T N ru m) 11 130 5 _ [vI x1] T
  refine j_blx (F := fX10) tb_X10 (nn_ _) bk_X10_start_e_5 bs_X10_start_e_5 hz (fun K hK => ?_)
  refine And.intro (fun c2 => ?_) (fun c2 => ?_)
  · refine hK 11 _ [] T ?_
    refine j_blx (F := fX10) tb_X10 (nn_ _) bk_X10_start_e_11 bs_X10_start_e_11 hz (fun K hK => ?_)
    refine ix_i (by omega) ?_
    refine And.intro (fun c3 => ?_) (fun c3 => ?_)
    · exact absurd (show T 523 0 (m) = 0 from Int.le_antisymm (by omega) (by omega)) (hka.2 _ (by omega) (by omega))
    · refine hK 22 [some (vR 110 0), some (vI m), some (vR 102 m)] [vR 102 m] T ?_
      refine j_callV (y := yX2_phaseOfLife) (Yc := zX2_phaseOfLife) (rest := []) [] (ct_X2_phaseOfLife_e (T := T)) cl_X10_223 (qd_c (by decide +kernel)) (nn_ _) rfl (rf_of rfl) (Nat.le_of_ble_eq_true rfl) (Nat.le_of_ble_eq_true rfl) (Nat.le_of_ble_eq_true rfl) rfl ?_
      rintro _ _ ⟨rfl, x4, rfl, hx4⟩
      show J_ zX10_start T (po_X10_start_e T N ru m) 11 130 25 _ [vI x4] T
      refine j_blx (F := fX10) tb_X10 (nn_ _) bk_X10_start_e_25 bs_X10_start_e_25 hz (fun K hK => ?_)
      refine And.intro (fun c5 => ?_) (fun c5 => ?_)
      · refine hK 49 _ [] T ?_
        refine j_blx (F := fX10) tb_X10 (nn_ _) bk_X10_start_e_49 bs_X10_start_e_49 hz (fun K hK => ?_)
        refine (show po_X10_start_e T N ru m T (some (vI (-4))) from ?_)
        exact ⟨_, rfl, fr_0 _ _, ⟨LP_f (ws := []) hlp (by omega) lh_r (fr_0 _ _) ⟨rfl, rfl, rfl, rfl, rfl, rfl, rfl, rfl, rfl, rfl, rfl⟩, lh_r, by omega, hna, fun _ _ _ _ _ _ => rfl⟩, Or.inr ⟨by omega, Or.inl ⟨rfl, by omega, rfl⟩⟩⟩
      · intro b6 b6b
        intro b7 b7b
        refine And.intro (fun c8 => ?_) (fun c8 => ?_)
        · refine hK 49 _ [] T ?_
          refine j_blx (F := fX10) tb_X10 (nn_ _) bk_X10_start_e_49 bs_X10_start_e_49 hz (fun K hK => ?_)
          refine (show po_X10_start_e T N ru m T (some (vI (-4))) from ?_)
          exact ⟨_, rfl, fr_0 _ _, ⟨LP_f (ws := []) hlp (by omega) lh_r (fr_0 _ _) ⟨rfl, rfl, rfl, rfl, rfl, rfl, rfl, rfl, rfl, rfl, rfl⟩, lh_r, by omega, hna, fun _ _ _ _ _ _ => rfl⟩, Or.inr ⟨by omega, Or.inl ⟨rfl, by omega, rfl⟩⟩⟩
        · refine hK 43 _ [vR 102 m] T ?_
          refine j_callV (y := yX2_hasEnoughListed) (Yc := zX2_hasEnoughListed) (rest := []) [] (ct_X2_hasEnoughListed_e (T := T)) cl_X10_264 (qd_c (by decide +kernel)) (nn_ _) rfl (rf_of rfl) (Nat.le_of_ble_eq_true rfl) (Nat.le_of_ble_eq_true rfl) (Nat.le_of_ble_eq_true rfl) rfl ?_
          rintro _ _ ⟨rfl, x9, rfl, hx9⟩
          show J_ zX10_start T (po_X10_start_e T N ru m) 11 130 46 _ [vI x9] T
          refine j_blx (F := fX10) tb_X10 (nn_ _) bk_X10_start_e_46 bs_X10_start_e_46 hz (fun K hK => ?_)
          refine And.intro (fun c10 => ?_) (fun c10 => ?_)
          · refine hK 52 _ [] T ?_
            refine j_blx (F := fX10) tb_X10 (nn_ _) bk_X10_start_e_52 bs_X10_start_e_52 hz (fun K hK => ?_)
            refine hK 53 _ [vR 102 m] T ?_
            have hpl : T 102 m 10 = 0 := Int.le_antisymm (by omega) (by omega)
            have hm0 := hkm m (by omega) (by omega)
            have hr9k := hkr (T 102 m 0) (by omega) (by omega)
            have ok9 : (T 102 m 6 = -1 ∧ T 102 m 10 = 0) ∧ T 102 m 5 = T 108 0 13 ∧ T 401 (T 102 m 0) 9 ≤ T 449 m 0 ∧ T 401 (T 102 m 0) 9 ≤ T 449 m 1 := by omega
            have hm9 : 0 ≤ m ∧ m < T 106 0 4 := by omega
            clear hx1 hx4 hx9
            refine j_newO (bc' := 10) (bs' := 112) (pc := 53) (ci := 3) (i := m) (by decide) (by decide) vi_3 tyX3_ok (nf_3 _) (lwq_4 (dqc_m (dqc_m (dqc_m (dqc_m (dqc_m (dqa_m (dqa_m (List.mem_of_getElem? (i := 3) rfl)))))))) rfl : Cond.classLink RX10 267 RX3 ∈ lw_g) (lwq_4 (dqc_m (dqc_m (dqc_m (dqc_m (dqc_m (dqa_m (dqa_m (List.mem_of_getElem? (i := 4) rfl)))))))) rfl : Cond.instantiable RX3 18 ∈ lw_g) (lwq_1 (dqa_m (dqa_m (List.mem_of_getElem? (i := 2) rfl))) rfl : Cond.initialized RX3 ∈ lw_g) (hna.1.2.2 m) (by omega) (by omega) (by decide +kernel) ?_
            refine j_nm (fun U11 hU11 => ?_)
            have fU11 := nu_fr hU11
            have zU11 := nu_tz hU11
            have oU11 := nu_to hU11
            have vU11 := nu_tv hU11
            show J_ zX10_start T (po_X10_start_e T N ru m) 10 112 56 _ [vR 153 m, vR 102 m] U11
            refine j_blx (F := fX10) tb_X10 (nn_ _) bk_X10_start_e_56 bs_X10_start_e_56 hz (fun K hK => ?_)
            have e13 : U11 102 m 0 = T 102 m 0 := fU11 102 m 0 rfl
            refine hK 72 _ [vR 449 m, vR 448 m, vR 401 (U11 102 m 0), vR 153 m, vR 153 m, vR 102 m] U11 ?_
            have e14 : U11 102 m 0 = T 102 m 0 := fU11 102 m 0 rfl
            have e15 : U11 191 0 0 = T 191 0 0 := fU11 191 0 0 rfl
            refine j_callI (y := yX3_init) (Yc := zX3_init) (rest := [vR 153 m, vR 102 m]) [vR 401 (U11 102 m 0), vR 448 m, vR 449 m] (ct_X3_init_e (T := U11) (by omega) (fun k a b => by show ¬ U11 k m (-1) = 1; rw [oU11 k m (-1) (fun z => by omega)]; intro h; exact (hT.2.2.2.2.2.2.2.1 k m 103 (ow_3 a b) h).elim (hna.2.2.2 m (Or.inr hpl)) (hna.1.2.2 m))) ci_X10_269 (qd_c (by decide +kernel)) (nn_ _) rfl (rf_of rfl) (Nat.le_of_ble_eq_true rfl) (Nat.le_of_ble_eq_true rfl) (Nat.le_of_ble_eq_true rfl) rfl ?_
            rintro U16 _ ⟨rfl, fU16, qU16o, ⟨t0U16, t1U16, t2U16, t14U16, t16U16⟩, ⟨t6U16, t7U16, t8U16, t9U16, t10U16, t11U16, t12U16, t13U16⟩, ⟨t3U16, t4U16, t5U16, t15U16, t17U16⟩, lgU16, laU16, a9U16, lU16⟩
            show J_ zX10_start T (po_X10_start_e T N ru m) 0 1 75 _ [vR 153 m, vR 102 m] U16
            refine j_ok (fun gt3 _ => ?_)
            have e18 : U16 103 m (-1) = T 103 m (-1) := (fU16 103 m (-1) rfl).trans (fU11 103 m (-1) rfl)
            have e19 : U11 102 m 0 = T 102 m 0 := fU11 102 m 0 rfl
            refine j_conv (k := 103) (i := m) (g := g3_ U16 m) (by decide) (by show ¬ U16 103 m (-1) = 1; rw [e18]; exact hna.2.2.2 m (Or.inr hpl)) (hna.1.2.2 m) (cg_3 gt3 (by omega) (by omega) t1U16 t2U16 t6U16 t7U16 t8U16 t9U16 t10U16 t11U16 t12U16 t13U16 (by omega) (by omega)) rfl rfl ?_
            refine j_nm (fun U20 hU20 => ?_)
            have fU20 := cw_fr hU20
            have sU20 := cw_ts hU20
            have oU20 := cw_to hU20
            have rU20 := cw_r hU20
            show J_ zX10_start T (po_X10_start_e T N ru m) 0 1 75 _ [vR 103 m, vR 102 m] U20
            refine j_putV (pc := 75) (ci := 2) (j := 10) (z := 1) (by decide) fr5_X10_272 tl_2_10 (by decide +kernel) rfl (by omega) (by omega) ?_
            refine j_nm (fun U21 hU21 => ?_)
            have e22 := up_f hU21
            show J_ zX10_start T (po_X10_start_e T N ru m) 0 1 78 _ [] U21
            refine j_blx (F := fX10) tb_X10 (nn_ _) bk_X10_start_e_78 bs_X10_start_e_78 hz (fun K hK => ?_)
            have e24 : U21 102 m 10 = 1 := up_f hU21
            refine And.intro (fun c23 => ?_) (fun c23 => ?_)
            · exact absurd c23 (by omega)
            · refine hK 82 _ [vR 103 m] U21 ?_
              have w0 : U20 103 m 0 = U16 153 m 0 - 1 := (sU20 0 (by decide)).trans (by unfold g3_; rw [if_pos (by decide)])
              have w14 : U20 103 m 14 = U16 153 m 14 - 1 := (sU20 14 (by decide)).trans (by unfold g3_; rw [if_pos (by decide)])
              have w16 : U20 103 m 16 = U16 153 m 16 - 1 := (sU20 16 (by decide)).trans (by unfold g3_; rw [if_pos (by decide)])
              have w3 : U20 103 m 3 = U16 153 m 3 := (sU20 3 (by decide)).trans (by unfold g3_; rw [if_neg (by decide)])
              have w15 : U20 103 m 15 = U16 153 m 15 := (sU20 15 (by decide)).trans (by unfold g3_; rw [if_neg (by decide)])
              have w17 : U20 103 m 17 = U16 153 m 17 := (sU20 17 (by decide)).trans (by unfold g3_; rw [if_neg (by decide)])
              have v15 : U11 153 m 15 = 0 := zU11 15 (by decide)
              have v17 : U11 153 m 17 = 0 := zU11 17 (by decide)
              have e25 : U11 191 0 0 = T 191 0 0 := fU11 191 0 0 rfl
              have e26 : U11 102 m 0 = T 102 m 0 := fU11 102 m 0 rfl
              have e27 : U21 103 m 0 = U20 103 m 0 := up_k hU21 (by exact Nat.ne_of_beq_eq_false rfl) m 0
              have k0 : U21 103 m 0 = T 102 m 0 := Int.le_antisymm (by omega) (by omega)
              have e28 : U21 401 (T 102 m 0) 9 = T 401 (T 102 m 0) 9 := (up_k hU21 (by exact Nat.ne_of_beq_eq_false rfl) (T 102 m 0) 9).trans ((fU20 401 (T 102 m 0) 9 rfl).trans ((fU16 401 (T 102 m 0) 9 rfl).trans (fU11 401 (T 102 m 0) 9 rfl)))
              have k9 : U21 401 (U21 103 m 0) 9 = T 401 (T 102 m 0) 9 := by rw [k0]; exact e28
              have hrT : RLP_ U21 m ru := fun w a b => by rw [k0]; exact ((up_k hU21 (by exact Nat.ne_of_beq_eq_false rfl) (T 102 m 0) w).trans ((fU20 401 (T 102 m 0) w rfl).trans ((fU16 401 (T 102 m 0) w rfl).trans (fU11 401 (T 102 m 0) w rfl)))).trans (hrc w a b)
              refine j_callV (y := yX3_backToBeginning) (Yc := zX3_backToBeginning) (rest := []) [] (ct_X3_backToBeginning_e (T := U21) (ru := ru) hrT (by omega)) cl_X10_276 (qd_c (by decide +kernel)) (nn_ _) rfl (rf_of rfl) (Nat.le_of_ble_eq_true rfl) (Nat.le_of_ble_eq_true rfl) (Nat.le_of_ble_eq_true rfl) rfl ?_
              rintro U30 _ ⟨rfl, fU30, qU30o, ⟨qU30, tU30⟩, qU30e⟩
              show J_ zX10_start T (po_X10_start_e T N ru m) 0 1 85 _ [] U30
              refine j_blx (F := fX10) tb_X10 (nn_ _) bk_X10_start_e_85 bs_X10_start_e_85 hz (fun K hK => ?_)
              refine (show po_X10_start_e T N ru m U30 (some (vI 1)) from ?_)
              have e32 : U30 191 0 0 = U16 191 0 0 := (fU30 191 0 0 rfl).trans ((up_k hU21 (by exact Nat.ne_of_beq_eq_false rfl) 0 0).trans (fU20 191 0 0 rfl))
              have e33 : U30 103 m 0 = U20 103 m 0 := (fU30 103 m 0 rfl).trans (up_k hU21 (by exact Nat.ne_of_beq_eq_false rfl) m 0)
              have e34 : U30 103 m 14 = U20 103 m 14 := (fU30 103 m 14 rfl).trans (up_k hU21 (by exact Nat.ne_of_beq_eq_false rfl) m 14)
              have e35 : U30 103 m 15 = U20 103 m 15 := (fU30 103 m 15 rfl).trans (up_k hU21 (by exact Nat.ne_of_beq_eq_false rfl) m 15)
              have e36 : U30 103 m 16 = U20 103 m 16 := (fU30 103 m 16 rfl).trans (up_k hU21 (by exact Nat.ne_of_beq_eq_false rfl) m 16)
              have e37 : U30 103 m 17 = U20 103 m 17 := (fU30 103 m 17 rfl).trans (up_k hU21 (by exact Nat.ne_of_beq_eq_false rfl) m 17)
              have e38 : U30 191 0 0 = U16 191 0 0 := (fU30 191 0 0 rfl).trans ((up_k hU21 (by exact Nat.ne_of_beq_eq_false rfl) 0 0).trans (fU20 191 0 0 rfl))
              have e39 : U30 106 0 4 = T 106 0 4 := (fU30 106 0 4 rfl).trans ((up_k hU21 (by exact Nat.ne_of_beq_eq_false rfl) 0 4).trans ((fU20 106 0 4 rfl).trans ((fU16 106 0 4 rfl).trans (fU11 106 0 4 rfl))))
              have e40 : U30 106 0 2 = T 106 0 2 := (fU30 106 0 2 rfl).trans ((up_k hU21 (by exact Nat.ne_of_beq_eq_false rfl) 0 2).trans ((fU20 106 0 2 rfl).trans ((fU16 106 0 2 rfl).trans (fU11 106 0 2 rfl))))
              have e41 : U30 102 m 10 = 1 := (fU30 102 m 10 rfl).trans (up_f hU21)
              have x14 : U30 103 m 14 = U11 191 0 0 := Int.le_antisymm (by omega) (by omega)
              have x16 : U30 103 m 16 = U11 191 0 0 + 1 := Int.le_antisymm (by omega) (by omega)
              have d1 : U30 190 (U30 103 m 14) (-2) = 32 := by rw [x14]; exact ((fU30 190 _ _ rfl).trans ((up_k hU21 (by exact Nat.ne_of_beq_eq_false rfl) _ _).trans (fU20 190 _ _ rfl))).trans lgU16
              have d2 : U30 190 (U30 103 m 16) (-2) = 16 := by rw [x16]; exact ((fU30 190 _ _ rfl).trans ((up_k hU21 (by exact Nat.ne_of_beq_eq_false rfl) _ _).trans (fU20 190 _ _ rfl))).trans laU16
              have d6 : ∀ x j, x < T 191 0 0 → U30 190 x j = T 190 x j := fun x j hx => ((fU30 190 _ _ rfl).trans ((up_k hU21 (by exact Nat.ne_of_beq_eq_false rfl) _ _).trans (fU20 190 _ _ rfl))).trans ((lU16 x j (by omega)).trans (fU11 190 _ _ rfl))
              have d3 : lh_ T U30 := ⟨fun x hx => d6 x (-2) hx, by omega⟩
              have d4 : ∀ k i j, i ≠ m → k ≠ 190 → k ≠ 191 → U30 k i j = T k i j := fun k i j a b c => (qU30o k i j a).trans ((up_g hU21 (fun z => a z.2.1)).trans ((oU20 k i j a).trans ((qU16o k i j a b c).trans (oU11 k i j (fun z => a z.2)))))
              have d5 : Lp_ N U30 m := ⟨⟨by omega, by omega, by omega, by omega, by omega, by omega, by omega, by omega, by omega⟩, by rw [d1]; exact Or.inr (Or.inl rfl), by rw [d2]; exact Or.inl rfl, fun _ => qU30⟩
              have e42 : U30 153 m (-1) = U20 153 m (-1) := (fU30 153 m (-1) rfl).trans (up_k hU21 (by exact Nat.ne_of_beq_eq_false rfl) m (-1))
              have n1 : NR_ U30 := by
                refine ⟨fun i => by rw [show U30 150 i (-1) = T 150 i (-1) from (fU30 150 _ _ rfl).trans ((up_k hU21 (by exact Nat.ne_of_beq_eq_false rfl) _ _).trans ((fU20 150 _ _ rfl).trans ((fU16 150 _ _ rfl).trans (fU11 150 _ _ rfl))))]; exact hna.1.1 i, fun i => by rw [show U30 152 i (-1) = T 152 i (-1) from (fU30 152 _ _ rfl).trans ((up_k hU21 (by exact Nat.ne_of_beq_eq_false rfl) _ _).trans ((fU20 152 _ _ rfl).trans ((fU16 152 _ _ rfl).trans (fU11 152 _ _ rfl))))]; exact hna.1.2.1 i, fun i => ?_⟩
                · by_cases z : i = m
                  · rw [z, e42]; exact rU20
                  · rw [d4 153 i (-1) z (by decide) (by decide)]; exact hna.1.2.2 i
              have n2 : NA_ U30 := by
                refine ⟨n1, fun i hi => by rw [show U30 100 i (-1) = T 100 i (-1) from (fU30 100 _ _ rfl).trans ((up_k hU21 (by exact Nat.ne_of_beq_eq_false rfl) _ _).trans ((fU20 100 _ _ rfl).trans ((fU16 100 _ _ rfl).trans (fU11 100 _ _ rfl))))]; exact hna.2.1 i (by omega), fun i hi => by rw [show U30 102 i (-1) = T 102 i (-1) from (fU30 102 _ _ rfl).trans ((up_j hU21 (by decide) _ _).trans ((fU20 102 _ _ rfl).trans ((fU16 102 _ _ rfl).trans (fU11 102 _ _ rfl))))]; exact hna.2.2.1 i (by omega), fun i hi => ?_⟩
                · by_cases z : i = m
                  · rw [z] at hi; exact absurd hi (by omega)
                  · rw [d4 103 i (-1) z (by decide) (by decide)]; rw [d4 102 i 10 z (by decide) (by decide)] at hi; exact hna.2.2.2 i (by omega)
              have u1 : ∃ z : Sg_, (∀ (k : Nat) (j : Int), k = 448 ∨ k = 449 → z k j = rs9_ T m k j) ∧ rs9_ U30 m = bb9_ ru z := ⟨rs9_ U21 m, fun k j h => by
                rcases h with rfl | rfl
                · rw [rs_d rfl, rs_d rfl]; exact (up_k hU21 (by exact Nat.ne_of_beq_eq_false rfl) _ _).trans ((fU20 448 _ _ rfl).trans ((fU16 448 _ _ rfl).trans (fU11 448 _ _ rfl)))
                · rw [rs_d rfl, rs_d rfl]; exact (up_k hU21 (by exact Nat.ne_of_beq_eq_false rfl) _ _).trans ((fU20 449 _ _ rfl).trans ((fU16 449 _ _ rfl).trans (fU11 449 _ _ rfl))), qU30e⟩
              exact ⟨_, rfl, fr_t (fr_u (fr_t (fr_t (fr_t (fr_0 _ _) (fr_s fU11 rfl)) (fr_s fU16 rfl)) (fr_s fU20 rfl)) hU21 rfl) (fr_s fU30 rfl), ⟨LP_q hlp (by omega) d3 (fun k i j a b c _ => d4 k i j a b c) (by omega) (by omega) (fun _ => d5), d3, by omega, n2, d4⟩, Or.inr ⟨by omega, Or.inr ⟨rfl, by omega, by omega, by omega, u1, by omega, by omega, by omega, by omega, d6, d4⟩⟩⟩
          · replace hx9 := hx9.resolve_left (fun z => absurd (c10.symm.trans z.1) (by decide))
            clear c10
            refine (show po_X10_start_e T N ru m T (some (vI (-4))) from ?_)
            exact ⟨_, rfl, fr_0 _ _, ⟨LP_f (ws := []) hlp (by omega) lh_r (fr_0 _ _) ⟨rfl, rfl, rfl, rfl, rfl, rfl, rfl, rfl, rfl, rfl, rfl⟩, lh_r, by omega, hna, fun _ _ _ _ _ _ => rfl⟩, Or.inr ⟨by omega, Or.inl ⟨rfl, by omega, rfl⟩⟩⟩
  · replace hx1 := hx1.resolve_left (fun z => absurd (c2.symm.trans z.1) (by decide))
    clear c2
    refine (show po_X10_start_e T N ru m T (some (vI (-2))) from ?_)
    exact ⟨_, rfl, fr_0 _ _, ⟨LP_f (ws := []) hlp (by omega) lh_r (fr_0 _ _) ⟨rfl, rfl, rfl, rfl, rfl, rfl, rfl, rfl, rfl, rfl, rfl⟩, lh_r, by omega, hna, fun _ _ _ _ _ _ => rfl⟩, Or.inl ⟨rfl, by omega, rfl⟩⟩
