theorem bk_X11_layBeginning_e_144 : ck_ fX11 none cX11_layBeginning 144 [.iload 3, .iconst 8, .if_icmp .ge 168, .aload 0, .tableswitch 0 11 46 #[], .iconst 8, .iload 1, .imul, .iload 3, .iadd, .iconst 0, .iastore, .iinc 3 1, .goto 144] 168 = true := qck_r (nn_ _) (by decide +kernel)
theorem bs_X11_layBeginning_e_144 {P : Zt → Option Zv → Prop} (K : Int → Zl → List Zv → Zt → Prop) : sx_ K P [.iload 3, .iconst 8, .if_icmp .ge 168, .aload 0, .tableswitch 0 11 46 #[], .iconst 8, .iload 1, .imul, .iload 3, .iadd, .iconst 0, .iastore, .iinc 3 1, .goto 144] 168 = x_iload 3 (x_iconst 8 (x_if_icmp .ge 168 K (x_aload 0 (x_g1 111 246 (x_iconst 8 (x_iload 1 (x_imul (x_iload 3 (x_iadd (x_iconst 0 (x_iastore (x_iinc 3 1 (x_goto 144 K))))))))))))) := ((xe_iload 3).trans (congrArg (x_iload 3) ((xe_iconst 8).trans (congrArg (x_iconst 8) ((xe_if_icmp .ge 168).trans (congrArg (x_if_icmp .ge 168 K) ((xe_aload 0).trans (congrArg (x_aload 0) ((xe_g1 (kk := 111) rfl tl_11_46).trans (congrArg (x_g1 111 246) ((xe_iconst 8).trans (congrArg (x_iconst 8) ((xe_iload 1).trans (congrArg (x_iload 1) ((xe_imul).trans (congrArg (x_imul) ((xe_iload 3).trans (congrArg (x_iload 3) ((xe_iadd).trans (congrArg (x_iadd) ((xe_iconst 0).trans (congrArg (x_iconst 0) ((xe_iastore).trans (congrArg (x_iastore) ((xe_iinc 3 1).trans (congrArg (x_iinc 3 1) (xe_goto 144)))))))))))))))))))))))))))
theorem bk_X11_layBeginning_e_168 : ck_ fX11 none cX11_layBeginning 168 [.aload 0, .tableswitch 0 11 46 #[], .iconst 8, .iload 1, .imul, .iconst 5, .iadd, .aload 0, .aload 0, .tableswitch 0 11 30 #[], .iload 1, .iaload, .iconst 0] 186 = true := qck_r (nn_ _) (by decide +kernel)
theorem bs_X11_layBeginning_e_168 {P : Zt → Option Zv → Prop} (K : Int → Zl → List Zv → Zt → Prop) : sx_ K P [.aload 0, .tableswitch 0 11 46 #[], .iconst 8, .iload 1, .imul, .iconst 5, .iadd, .aload 0, .aload 0, .tableswitch 0 11 30 #[], .iload 1, .iaload, .iconst 0] 186 = x_aload 0 (x_g1 111 246 (x_iconst 8 (x_iload 1 (x_imul (x_iconst 5 (x_iadd (x_aload 0 (x_aload 0 (x_g1 111 230 (x_iload 1 (x_iaload (x_iconst 0 (K 186))))))))))))) := ((xe_aload 0).trans (congrArg (x_aload 0) ((xe_g1 (kk := 111) rfl tl_11_46).trans (congrArg (x_g1 111 246) ((xe_iconst 8).trans (congrArg (x_iconst 8) ((xe_iload 1).trans (congrArg (x_iload 1) ((xe_imul).trans (congrArg (x_imul) ((xe_iconst 5).trans (congrArg (x_iconst 5) ((xe_iadd).trans (congrArg (x_iadd) ((xe_aload 0).trans (congrArg (x_aload 0) ((xe_aload 0).trans (congrArg (x_aload 0) ((xe_g1 (kk := 111) rfl tl_11_30).trans (congrArg (x_g1 111 230) ((xe_iload 1).trans (congrArg (x_iload 1) ((xe_iaload).trans (congrArg (x_iaload) ((xe_iconst 0).trans (congrArg (x_iconst 0) xe_nil))))))))))))))))))))))))))
theorem bk_X11_layBeginning_e_189 : ck_ fX11 none cX11_layBeginning 189 [.iconst 3, .if_icmp .ne 197, .iconst 1, .goto 198] 197 = true := qck_r (nn_ _) (by decide +kernel)
theorem bs_X11_layBeginning_e_189 {P : Zt → Option Zv → Prop} (K : Int → Zl → List Zv → Zt → Prop) : sx_ K P [.iconst 3, .if_icmp .ne 197, .iconst 1, .goto 198] 197 = x_iconst 3 (x_if_icmp .ne 197 K (x_iconst 1 (x_goto 198 K))) := ((xe_iconst 3).trans (congrArg (x_iconst 3) ((xe_if_icmp .ne 197).trans (congrArg (x_if_icmp .ne 197 K) ((xe_iconst 1).trans (congrArg (x_iconst 1) (xe_goto 198)))))))
theorem bk_X11_layBeginning_e_197 : ck_ fX11 none cX11_layBeginning 197 [.iconst 0, .iastore, .aload 0, .tableswitch 0 11 36 #[], .iload 1, .iconst 0, .iastore, .aload 0, .tableswitch 0 11 37 #[], .iload 1, .iconst 0, .iastore, .aload 0, .tableswitch 0 11 35 #[], .iload 1, .iconst 1, .iastore, .return_] 221 = true := qck_r (nn_ _) (by decide +kernel)
theorem bs_X11_layBeginning_e_197 {P : Zt → Option Zv → Prop} (K : Int → Zl → List Zv → Zt → Prop) : sx_ K P [.iconst 0, .iastore, .aload 0, .tableswitch 0 11 36 #[], .iload 1, .iconst 0, .iastore, .aload 0, .tableswitch 0 11 37 #[], .iload 1, .iconst 0, .iastore, .aload 0, .tableswitch 0 11 35 #[], .iload 1, .iconst 1, .iastore, .return_] 221 = x_iconst 0 (x_iastore (x_aload 0 (x_g1 111 236 (x_iload 1 (x_iconst 0 (x_iastore (x_aload 0 (x_g1 111 237 (x_iload 1 (x_iconst 0 (x_iastore (x_aload 0 (x_g1 111 235 (x_iload 1 (x_iconst 1 (x_iastore (x_return_ P))))))))))))))))) := ((xe_iconst 0).trans (congrArg (x_iconst 0) ((xe_iastore).trans (congrArg (x_iastore) ((xe_aload 0).trans (congrArg (x_aload 0) ((xe_g1 (kk := 111) rfl tl_11_36).trans (congrArg (x_g1 111 236) ((xe_iload 1).trans (congrArg (x_iload 1) ((xe_iconst 0).trans (congrArg (x_iconst 0) ((xe_iastore).trans (congrArg (x_iastore) ((xe_aload 0).trans (congrArg (x_aload 0) ((xe_g1 (kk := 111) rfl tl_11_37).trans (congrArg (x_g1 111 237) ((xe_iload 1).trans (congrArg (x_iload 1) ((xe_iconst 0).trans (congrArg (x_iconst 0) ((xe_iastore).trans (congrArg (x_iastore) ((xe_aload 0).trans (congrArg (x_aload 0) ((xe_g1 (kk := 111) rfl tl_11_35).trans (congrArg (x_g1 111 235) ((xe_iload 1).trans (congrArg (x_iload 1) ((xe_iconst 1).trans (congrArg (x_iconst 1) ((xe_iastore).trans (congrArg (x_iastore) (xe_return_)))))))))))))))))))))))))))))))))))
theorem bk_X11_layBeginning_e_198 : ck_ fX11 none cX11_layBeginning 198 [.iastore, .aload 0, .tableswitch 0 11 36 #[], .iload 1, .iconst 0, .iastore, .aload 0, .tableswitch 0 11 37 #[], .iload 1, .iconst 0, .iastore, .aload 0, .tableswitch 0 11 35 #[], .iload 1, .iconst 1, .iastore, .return_] 221 = true := qck_r (nn_ _) (by decide +kernel)
theorem bs_X11_layBeginning_e_198 {P : Zt → Option Zv → Prop} (K : Int → Zl → List Zv → Zt → Prop) : sx_ K P [.iastore, .aload 0, .tableswitch 0 11 36 #[], .iload 1, .iconst 0, .iastore, .aload 0, .tableswitch 0 11 37 #[], .iload 1, .iconst 0, .iastore, .aload 0, .tableswitch 0 11 35 #[], .iload 1, .iconst 1, .iastore, .return_] 221 = x_iastore (x_aload 0 (x_g1 111 236 (x_iload 1 (x_iconst 0 (x_iastore (x_aload 0 (x_g1 111 237 (x_iload 1 (x_iconst 0 (x_iastore (x_aload 0 (x_g1 111 235 (x_iload 1 (x_iconst 1 (x_iastore (x_return_ P)))))))))))))))) := ((xe_iastore).trans (congrArg (x_iastore) ((xe_aload 0).trans (congrArg (x_aload 0) ((xe_g1 (kk := 111) rfl tl_11_36).trans (congrArg (x_g1 111 236) ((xe_iload 1).trans (congrArg (x_iload 1) ((xe_iconst 0).trans (congrArg (x_iconst 0) ((xe_iastore).trans (congrArg (x_iastore) ((xe_aload 0).trans (congrArg (x_aload 0) ((xe_g1 (kk := 111) rfl tl_11_37).trans (congrArg (x_g1 111 237) ((xe_iload 1).trans (congrArg (x_iload 1) ((xe_iconst 0).trans (congrArg (x_iconst 0) ((xe_iastore).trans (congrArg (x_iastore) ((xe_aload 0).trans (congrArg (x_aload 0) ((xe_g1 (kk := 111) rfl tl_11_35).trans (congrArg (x_g1 111 235) ((xe_iload 1).trans (congrArg (x_iload 1) ((xe_iconst 1).trans (congrArg (x_iconst 1) ((xe_iastore).trans (congrArg (x_iastore) (xe_return_)))))))))))))))))))))))))))))))))
theorem bk_X11_layBeginning_e_105 : ck_ fX11 none cX11_layBeginning 105 [.iload 4, .iload 2, .if_icmp .ge 136, .aload 0, .tableswitch 0 11 45 #[], .iconst 6, .iload 3, .imul, .iload 4, .iadd, .iconst 10, .iload 3, .imul, .iload 4, .iadd, .iastore, .iinc 4 1, .goto 105] 136 = true := qck_r (nn_ _) (by decide +kernel)
theorem bs_X11_layBeginning_e_105 {P : Zt → Option Zv → Prop} (K : Int → Zl → List Zv → Zt → Prop) : sx_ K P [.iload 4, .iload 2, .if_icmp .ge 136, .aload 0, .tableswitch 0 11 45 #[], .iconst 6, .iload 3, .imul, .iload 4, .iadd, .iconst 10, .iload 3, .imul, .iload 4, .iadd, .iastore, .iinc 4 1, .goto 105] 136 = x_iload 4 (x_iload 2 (x_if_icmp .ge 136 K (x_aload 0 (x_g1 111 245 (x_iconst 6 (x_iload 3 (x_imul (x_iload 4 (x_iadd (x_iconst 10 (x_iload 3 (x_imul (x_iload 4 (x_iadd (x_iastore (x_iinc 4 1 (x_goto 105 K))))))))))))))))) := ((xe_iload 4).trans (congrArg (x_iload 4) ((xe_iload 2).trans (congrArg (x_iload 2) ((xe_if_icmp .ge 136).trans (congrArg (x_if_icmp .ge 136 K) ((xe_aload 0).trans (congrArg (x_aload 0) ((xe_g1 (kk := 111) rfl tl_11_45).trans (congrArg (x_g1 111 245) ((xe_iconst 6).trans (congrArg (x_iconst 6) ((xe_iload 3).trans (congrArg (x_iload 3) ((xe_imul).trans (congrArg (x_imul) ((xe_iload 4).trans (congrArg (x_iload 4) ((xe_iadd).trans (congrArg (x_iadd) ((xe_iconst 10).trans (congrArg (x_iconst 10) ((xe_iload 3).trans (congrArg (x_iload 3) ((xe_imul).trans (congrArg (x_imul) ((xe_iload 4).trans (congrArg (x_iload 4) ((xe_iadd).trans (congrArg (x_iadd) ((xe_iastore).trans (congrArg (x_iastore) ((xe_iinc 4 1).trans (congrArg (x_iinc 4 1) (xe_goto 105)))))))))))))))))))))))))))))))))))
theorem bk_X11_layBeginning_e_136 : ck_ fX11 none cX11_layBeginning 136 [.iinc 3 1, .goto 17] 142 = true := qck_r (nn_ _) (by decide +kernel)
theorem bs_X11_layBeginning_e_136 {P : Zt → Option Zv → Prop} (K : Int → Zl → List Zv → Zt → Prop) : sx_ K P [.iinc 3 1, .goto 17] 142 = x_iinc 3 1 (x_goto 17 K) := ((xe_iinc 3 1).trans (congrArg (x_iinc 3 1) (xe_goto 17)))
theorem bk_X11_layBeginning_e_36 : ck_ fX11 none cX11_layBeginning 36 [.iload 4, .aload 0, .tableswitch 0 11 39 #[], .iload 3, .iaload, .if_icmp .ge 102, .aload 0, .tableswitch 0 11 41 #[], .iconst 10, .iload 3, .imul, .iload 4, .iadd, .iload 4, .iload 2, .if_icmp .ge 68, .iconst 1, .goto 69] 68 = true := qck_r (nn_ _) (by decide +kernel)
theorem bs_X11_layBeginning_e_36 {P : Zt → Option Zv → Prop} (K : Int → Zl → List Zv → Zt → Prop) : sx_ K P [.iload 4, .aload 0, .tableswitch 0 11 39 #[], .iload 3, .iaload, .if_icmp .ge 102, .aload 0, .tableswitch 0 11 41 #[], .iconst 10, .iload 3, .imul, .iload 4, .iadd, .iload 4, .iload 2, .if_icmp .ge 68, .iconst 1, .goto 69] 68 = x_iload 4 (x_aload 0 (x_g1 111 239 (x_iload 3 (x_iaload (x_if_icmp .ge 102 K (x_aload 0 (x_g1 111 241 (x_iconst 10 (x_iload 3 (x_imul (x_iload 4 (x_iadd (x_iload 4 (x_iload 2 (x_if_icmp .ge 68 K (x_iconst 1 (x_goto 69 K))))))))))))))))) := ((xe_iload 4).trans (congrArg (x_iload 4) ((xe_aload 0).trans (congrArg (x_aload 0) ((xe_g1 (kk := 111) rfl tl_11_39).trans (congrArg (x_g1 111 239) ((xe_iload 3).trans (congrArg (x_iload 3) ((xe_iaload).trans (congrArg (x_iaload) ((xe_if_icmp .ge 102).trans (congrArg (x_if_icmp .ge 102 K) ((xe_aload 0).trans (congrArg (x_aload 0) ((xe_g1 (kk := 111) rfl tl_11_41).trans (congrArg (x_g1 111 241) ((xe_iconst 10).trans (congrArg (x_iconst 10) ((xe_iload 3).trans (congrArg (x_iload 3) ((xe_imul).trans (congrArg (x_imul) ((xe_iload 4).trans (congrArg (x_iload 4) ((xe_iadd).trans (congrArg (x_iadd) ((xe_iload 4).trans (congrArg (x_iload 4) ((xe_iload 2).trans (congrArg (x_iload 2) ((xe_if_icmp .ge 68).trans (congrArg (x_if_icmp .ge 68 K) ((xe_iconst 1).trans (congrArg (x_iconst 1) (xe_goto 69)))))))))))))))))))))))))))))))))))
theorem bk_X11_layBeginning_e_102 : ck_ fX11 none cX11_layBeginning 102 [.iconst 0, .istore 4] 105 = true := qck_r (nn_ _) (by decide +kernel)
theorem bs_X11_layBeginning_e_102 {P : Zt → Option Zv → Prop} (K : Int → Zl → List Zv → Zt → Prop) : sx_ K P [.iconst 0, .istore 4] 105 = x_iconst 0 (x_istore 4 (K 105)) := ((xe_iconst 0).trans (congrArg (x_iconst 0) ((xe_istore 4).trans (congrArg (x_istore 4) xe_nil))))
theorem bk_X11_layBeginning_e_68 : ck_ fX11 none cX11_layBeginning 68 [.iconst 0, .iastore, .aload 0, .tableswitch 0 11 42 #[], .iconst 10, .iload 3, .imul, .iload 4, .iadd, .iconst 0, .iastore, .aload 0, .tableswitch 0 11 43 #[], .iconst 10, .iload 3, .imul, .iload 4, .iadd, .iconst 0, .bastore, .iinc 4 1, .goto 36] 102 = true := qck_r (nn_ _) (by decide +kernel)
theorem bs_X11_layBeginning_e_68 {P : Zt → Option Zv → Prop} (K : Int → Zl → List Zv → Zt → Prop) : sx_ K P [.iconst 0, .iastore, .aload 0, .tableswitch 0 11 42 #[], .iconst 10, .iload 3, .imul, .iload 4, .iadd, .iconst 0, .iastore, .aload 0, .tableswitch 0 11 43 #[], .iconst 10, .iload 3, .imul, .iload 4, .iadd, .iconst 0, .bastore, .iinc 4 1, .goto 36] 102 = x_iconst 0 (x_iastore (x_aload 0 (x_g1 111 242 (x_iconst 10 (x_iload 3 (x_imul (x_iload 4 (x_iadd (x_iconst 0 (x_iastore (x_aload 0 (x_g1 111 243 (x_iconst 10 (x_iload 3 (x_imul (x_iload 4 (x_iadd (x_iconst 0 (x_bastore (x_iinc 4 1 (x_goto 36 K))))))))))))))))))))) := ((xe_iconst 0).trans (congrArg (x_iconst 0) ((xe_iastore).trans (congrArg (x_iastore) ((xe_aload 0).trans (congrArg (x_aload 0) ((xe_g1 (kk := 111) rfl tl_11_42).trans (congrArg (x_g1 111 242) ((xe_iconst 10).trans (congrArg (x_iconst 10) ((xe_iload 3).trans (congrArg (x_iload 3) ((xe_imul).trans (congrArg (x_imul) ((xe_iload 4).trans (congrArg (x_iload 4) ((xe_iadd).trans (congrArg (x_iadd) ((xe_iconst 0).trans (congrArg (x_iconst 0) ((xe_iastore).trans (congrArg (x_iastore) ((xe_aload 0).trans (congrArg (x_aload 0) ((xe_g1 (kk := 111) rfl tl_11_43).trans (congrArg (x_g1 111 243) ((xe_iconst 10).trans (congrArg (x_iconst 10) ((xe_iload 3).trans (congrArg (x_iload 3) ((xe_imul).trans (congrArg (x_imul) ((xe_iload 4).trans (congrArg (x_iload 4) ((xe_iadd).trans (congrArg (x_iadd) ((xe_iconst 0).trans (congrArg (x_iconst 0) ((xe_bastore).trans (congrArg (x_bastore) ((xe_iinc 4 1).trans (congrArg (x_iinc 4 1) (xe_goto 36)))))))))))))))))))))))))))))))))))))))))))
theorem bk_X11_layBeginning_e_69 : ck_ fX11 none cX11_layBeginning 69 [.iastore, .aload 0, .tableswitch 0 11 42 #[], .iconst 10, .iload 3, .imul, .iload 4, .iadd, .iconst 0, .iastore, .aload 0, .tableswitch 0 11 43 #[], .iconst 10, .iload 3, .imul, .iload 4, .iadd, .iconst 0, .bastore, .iinc 4 1, .goto 36] 102 = true := qck_r (nn_ _) (by decide +kernel)
theorem bs_X11_layBeginning_e_69 {P : Zt → Option Zv → Prop} (K : Int → Zl → List Zv → Zt → Prop) : sx_ K P [.iastore, .aload 0, .tableswitch 0 11 42 #[], .iconst 10, .iload 3, .imul, .iload 4, .iadd, .iconst 0, .iastore, .aload 0, .tableswitch 0 11 43 #[], .iconst 10, .iload 3, .imul, .iload 4, .iadd, .iconst 0, .bastore, .iinc 4 1, .goto 36] 102 = x_iastore (x_aload 0 (x_g1 111 242 (x_iconst 10 (x_iload 3 (x_imul (x_iload 4 (x_iadd (x_iconst 0 (x_iastore (x_aload 0 (x_g1 111 243 (x_iconst 10 (x_iload 3 (x_imul (x_iload 4 (x_iadd (x_iconst 0 (x_bastore (x_iinc 4 1 (x_goto 36 K)))))))))))))))))))) := ((xe_iastore).trans (congrArg (x_iastore) ((xe_aload 0).trans (congrArg (x_aload 0) ((xe_g1 (kk := 111) rfl tl_11_42).trans (congrArg (x_g1 111 242) ((xe_iconst 10).trans (congrArg (x_iconst 10) ((xe_iload 3).trans (congrArg (x_iload 3) ((xe_imul).trans (congrArg (x_imul) ((xe_iload 4).trans (congrArg (x_iload 4) ((xe_iadd).trans (congrArg (x_iadd) ((xe_iconst 0).trans (congrArg (x_iconst 0) ((xe_iastore).trans (congrArg (x_iastore) ((xe_aload 0).trans (congrArg (x_aload 0) ((xe_g1 (kk := 111) rfl tl_11_43).trans (congrArg (x_g1 111 243) ((xe_iconst 10).trans (congrArg (x_iconst 10) ((xe_iload 3).trans (congrArg (x_iload 3) ((xe_imul).trans (congrArg (x_imul) ((xe_iload 4).trans (congrArg (x_iload 4) ((xe_iadd).trans (congrArg (x_iadd) ((xe_iconst 0).trans (congrArg (x_iconst 0) ((xe_bastore).trans (congrArg (x_bastore) ((xe_iinc 4 1).trans (congrArg (x_iinc 4 1) (xe_goto 36)))))))))))))))))))))))))))))))))))))))))
theorem bk_X11_layBeginning_e_17 : ck_ fX11 none cX11_layBeginning 17 [.iload 3, .iconst 2, .iload 1, .imul, .iconst 1, .iadd, .if_icmp .gt 142, .aload 0, .tableswitch 0 11 44 #[], .iload 3, .iload 2, .iastore, .iconst 0, .istore 4] 36 = true := qck_r (nn_ _) (by decide +kernel)
theorem bs_X11_layBeginning_e_17 {P : Zt → Option Zv → Prop} (K : Int → Zl → List Zv → Zt → Prop) : sx_ K P [.iload 3, .iconst 2, .iload 1, .imul, .iconst 1, .iadd, .if_icmp .gt 142, .aload 0, .tableswitch 0 11 44 #[], .iload 3, .iload 2, .iastore, .iconst 0, .istore 4] 36 = x_iload 3 (x_iconst 2 (x_iload 1 (x_imul (x_iconst 1 (x_iadd (x_if_icmp .gt 142 K (x_aload 0 (x_g1 111 244 (x_iload 3 (x_iload 2 (x_iastore (x_iconst 0 (x_istore 4 (K 36)))))))))))))) := ((xe_iload 3).trans (congrArg (x_iload 3) ((xe_iconst 2).trans (congrArg (x_iconst 2) ((xe_iload 1).trans (congrArg (x_iload 1) ((xe_imul).trans (congrArg (x_imul) ((xe_iconst 1).trans (congrArg (x_iconst 1) ((xe_iadd).trans (congrArg (x_iadd) ((xe_if_icmp .gt 142).trans (congrArg (x_if_icmp .gt 142 K) ((xe_aload 0).trans (congrArg (x_aload 0) ((xe_g1 (kk := 111) rfl tl_11_44).trans (congrArg (x_g1 111 244) ((xe_iload 3).trans (congrArg (x_iload 3) ((xe_iload 2).trans (congrArg (x_iload 2) ((xe_iastore).trans (congrArg (x_iastore) ((xe_iconst 0).trans (congrArg (x_iconst 0) ((xe_istore 4).trans (congrArg (x_istore 4) xe_nil))))))))))))))))))))))))))))
theorem bk_X11_layBeginning_e_142 : ck_ fX11 none cX11_layBeginning 142 [.iconst 0, .istore 3] 144 = true := qck_r (nn_ _) (by decide +kernel)
theorem bs_X11_layBeginning_e_142 {P : Zt → Option Zv → Prop} (K : Int → Zl → List Zv → Zt → Prop) : sx_ K P [.iconst 0, .istore 3] 144 = x_iconst 0 (x_istore 3 (K 144)) := ((xe_iconst 0).trans (congrArg (x_iconst 0) ((xe_istore 3).trans (congrArg (x_istore 3) xe_nil))))
theorem bk_X11_layBeginning_e_0 : ck_ fX11 none cX11_layBeginning 0 [.aload 0, .aload 0, .tableswitch 0 11 30 #[], .iload 1, .iaload, .iconst 9] 9 = true := qck_r (nn_ _) (by decide +kernel)
theorem bs_X11_layBeginning_e_0 {P : Zt → Option Zv → Prop} (K : Int → Zl → List Zv → Zt → Prop) : sx_ K P [.aload 0, .aload 0, .tableswitch 0 11 30 #[], .iload 1, .iaload, .iconst 9] 9 = x_aload 0 (x_aload 0 (x_g1 111 230 (x_iload 1 (x_iaload (x_iconst 9 (K 9)))))) := ((xe_aload 0).trans (congrArg (x_aload 0) ((xe_aload 0).trans (congrArg (x_aload 0) ((xe_g1 (kk := 111) rfl tl_11_30).trans (congrArg (x_g1 111 230) ((xe_iload 1).trans (congrArg (x_iload 1) ((xe_iaload).trans (congrArg (x_iaload) ((xe_iconst 9).trans (congrArg (x_iconst 9) xe_nil))))))))))))
theorem bk_X11_layBeginning_e_12 : ck_ fX11 none cX11_layBeginning 12 [.istore 2, .iconst 2, .iload 1, .imul, .istore 3] 17 = true := qck_r (nn_ _) (by decide +kernel)
theorem bs_X11_layBeginning_e_12 {P : Zt → Option Zv → Prop} (K : Int → Zl → List Zv → Zt → Prop) : sx_ K P [.istore 2, .iconst 2, .iload 1, .imul, .istore 3] 17 = x_istore 2 (x_iconst 2 (x_iload 1 (x_imul (x_istore 3 (K 17))))) := ((xe_istore 2).trans (congrArg (x_istore 2) ((xe_iconst 2).trans (congrArg (x_iconst 2) ((xe_iload 1).trans (congrArg (x_iload 1) ((xe_imul).trans (congrArg (x_imul) ((xe_istore 3).trans (congrArg (x_istore 3) xe_nil))))))))))
abbrev po_X11_layBeginning_e (T : Zt) (m : Int) : Zt → Option Zv → Prop := fun T' r => r = none ∧ fr_ [(244, []), (241, []), (242, []), (243, []), (245, []), (246, []), (236, []), (237, []), (235, [])] T T' ∧ (FM_ T' ∧ SO_ T T' m ∧ SB1_ T' m 9 ∧ (∀ j, 2 * m ≤ j → j < 2 * m + 2 → T' 244 0 j = T 205 0 (23 * T 230 0 m + 9)) ∧ (∀ j, 20 * m ≤ j → j < 20 * m + 20 → j % 10 < T 239 0 (j / 10) → (j % 10 < T 205 0 (23 * T 230 0 m + 9) → T' 241 0 j = 1) ∧ (T 205 0 (23 * T 230 0 m + 9) ≤ j % 10 → T' 241 0 j = 0) ∧ T' 242 0 j = 0 ∧ T' 243 0 j = 0) ∧ (∀ j, 12 * m ≤ j → j < 12 * m + 12 → j % 6 < T 205 0 (23 * T 230 0 m + 9) → T' 245 0 j = 10 * (j / 6) + j % 6) ∧ (∀ j, 8 * m ≤ j → j < 8 * m + 8 → j ≠ 8 * m + 5 → T' 246 0 j = 0) ∧ ((T 205 0 (23 * T 230 0 m + 0) = 3 → T' 246 0 (8 * m + 5) = 1) ∧ (T 205 0 (23 * T 230 0 m + 0) ≠ 3 → T' 246 0 (8 * m + 5) = 0)) ∧ T' 236 0 m = 0 ∧ T' 237 0 m = 0 ∧ T' 235 0 m = 1 ∧ ro9_ T T' m)
set_option maxHeartbeats 4000000 in
theorem ct_X11_layBeginning_e {T : Zt} {m : Int} (h1 : 0 ≤ m ∧ m < T 111 0 29) (hmc : MC_ T) (hri : RI_ T) (hfm : FM_ T) (hzs : ZS_ T) : Ct_ yX11_layBeginning zX11_layBeginning T [vR 111 0, vI m] (po_X11_layBeginning_e T m) := by
  refine ct_of pn_11 rfl rfl (Nat.le_of_ble_eq_true rfl) (fun hT hav => ?_)
  have hr_m : -2147483648 ≤ m ∧ m ≤ 2147483647 := hav (vI m) (List.mem_cons_of_mem _ List.mem_cons_self)
  have hz : zX11_layBeginning.2.2.2.1 = some .boolean → ∀ (T' : Zt) (x : Int), po_X11_layBeginning_e T m T' (some (vI x)) → 0 ≤ x ∧ x ≤ 1 := fun h => by cases h
  have hb_29 : 0 ≤ T 111 0 29 ∧ T 111 0 29 ≤ 400 := bd_f hT 111 29 tl_11_29 0
  have hb_6 : 0 ≤ T 111 0 6 ∧ T 111 0 6 ≤ 4 := bd_f hT 111 6 tl_11_6 0
  have hcm := hmc m (by omega) (by omega)
  have hcb : 0 ≤ T 230 0 m ∧ T 230 0 m ≤ 3 := bd_a hT 230 (by decide +kernel : ta_ 230 = some (1, some 400, 0, 3)) 0 (by omega)
  have hr9 : (1 : Int) ≤ T 205 0 (23 * T 230 0 m + 9) ∧ T 205 0 (23 * T 230 0 m + 9) ≤ (6 : Int) := hri (T 230 0 m) 9 (by omega) (by omega) (by omega) (by omega)
  show J_ zX11_layBeginning T (po_X11_layBeginning_e T m) 0 0 0 [some (vR 111 0), some (vI m), none, none, none] [] T
  have c_144 : ∀ (nn : Nat) (i : Int) (T4 : Zt), ((8 - i).toNat) ≤ nn → (fr_ [(244, []), (241, []), (242, []), (243, []), (245, []), (246, [])] T T4) → (FM_ T4) → (SO_ T T4 m) → (ro9_ T T4 m) → (∀ j, 2 * m ≤ j → j < 2 * m + 2 → T4 244 0 j = T 205 0 (23 * T 230 0 m + 9)) → (∀ j, 20 * m ≤ j → j < 20 * m + 20 → j % 10 < T 239 0 (j / 10) → (j % 10 < T 205 0 (23 * T 230 0 m + 9) → T4 241 0 j = 1) ∧ (T 205 0 (23 * T 230 0 m + 9) ≤ j % 10 → T4 241 0 j = 0) ∧ T4 242 0 j = 0 ∧ T4 243 0 j = 0) → (∀ j, 12 * m ≤ j → j < 12 * m + 12 → j % 6 < T 205 0 (23 * T 230 0 m + 9) → T4 245 0 j = 10 * (j / 6) + j % 6) → (∀ j, 8 * m ≤ j → j < 8 * m + i → T4 246 0 j = 0) → (0 ≤ i ∧ i ≤ 8) → J_ zX11_layBeginning T (po_X11_layBeginning_e T m) 0 0 144 [some (vR 111 0), some (vI m), none, some (vI i), none] [] T4 := by
    intro nn
    induction nn using Nat.strongRecOn with
    | _ nn ih_144 =>
      intro i T4 hm_144 hf_144 fm4 so4 ro4 u4 w4 x4 l4 i4
      replace hm_144 := fun (_ : Unit) => hm_144
      refine j_blx (F := fX11) tb_X11 (nn_ _) bk_X11_layBeginning_e_144 bs_X11_layBeginning_e_144 hz (fun K hK => ?_)
      refine And.intro (fun c1 => ?_) (fun c1 => ?_)
      · refine hK 168 _ [] T4 ?_
        refine j_blx (F := fX11) tb_X11 (nn_ _) bk_X11_layBeginning_e_168 bs_X11_layBeginning_e_168 hz (fun K hK => ?_)
        refine rg_i (by omega) ?_
        refine rg_i (by omega) ?_
        refine ix_i (by omega) ?_
        intro b2 b2b
        have e3 : T4 230 0 m = T 230 0 m := hf_144 230 0 m rfl
        rw [e3] at b2 b2b ⊢
        refine hK 186 _ [vI 0, vI (T 230 0 m), vR 111 0, vI ((8 * m) + 5), vR 246 0] T4 ?_
        refine j_callV (y := yX11_rule0) (Yc := zX11_rule0) (rest := [vI ((8 * m) + 5), vR 246 0]) [vI (T 230 0 m), vI 0] (ct_X11_rule0 (T := T4) (by omega) (by omega)) cl_X11_321 (qd_c (by decide +kernel)) (nn_ _) rfl (rf_of rfl) (Nat.le_of_ble_eq_true rfl) (Nat.le_of_ble_eq_true rfl) (Nat.le_of_ble_eq_true rfl) rfl ?_
        rintro _ _ ⟨rfl, rfl⟩
        have e4 : T4 205 0 (23 * (T 230 0 m) + 0) = T 205 0 (23 * (T 230 0 m) + 0) := hf_144 205 0 (23 * (T 230 0 m) + 0) rfl
        rw [e4]
        show J_ zX11_layBeginning T (po_X11_layBeginning_e T m) 0 0 189 _ [vI (T 205 0 (23 * (T 230 0 m) + 0)), vI ((8 * m) + 5), vR 246 0] T4
        refine j_blx (F := fX11) tb_X11 (nn_ _) bk_X11_layBeginning_e_189 bs_X11_layBeginning_e_189 hz (fun K hK => ?_)
        refine And.intro (fun c5 => ?_) (fun c5 => ?_)
        · refine hK 197 _ [vI ((8 * m) + 5), vR 246 0] T4 ?_
          refine j_blx (F := fX11) tb_X11 (nn_ _) bk_X11_layBeginning_e_197 bs_X11_layBeginning_e_197 hz (fun K hK => ?_)
          refine iy_i (by omega) (by omega) ?_
          refine x_nm (fun U6 hU6 => ?_)
          have e7 := up_f hU6
          refine iy_i (by omega) (by omega) ?_
          refine x_nm (fun U8 hU8 => ?_)
          have e9 := up_f hU8
          refine iy_i (by omega) (by omega) ?_
          refine x_nm (fun U10 hU10 => ?_)
          have e11 := up_f hU10
          refine iy_i (by omega) (by omega) ?_
          refine x_nm (fun U12 hU12 => ?_)
          have e13 := up_f hU12
          refine (show po_X11_layBeginning_e T m U12 (none) from ?_)
          have e14 : U12 236 0 m = 0 := (up_k hU12 (by exact Nat.ne_of_beq_eq_false rfl) 0 m).trans ((up_k hU10 (by exact Nat.ne_of_beq_eq_false rfl) 0 m).trans (up_f hU8))
          have e15 : U12 237 0 m = 0 := (up_k hU12 (by exact Nat.ne_of_beq_eq_false rfl) 0 m).trans (up_f hU10)
          have e16 : U12 235 0 m = 1 := up_f hU12
          have e17 : U12 236 0 m = 0 := (up_k hU12 (by exact Nat.ne_of_beq_eq_false rfl) 0 m).trans ((up_k hU10 (by exact Nat.ne_of_beq_eq_false rfl) 0 m).trans (up_f hU8))
          have e18 : U12 237 0 m = 0 := (up_k hU12 (by exact Nat.ne_of_beq_eq_false rfl) 0 m).trans (up_f hU10)
          have e19 : U12 235 0 m = 1 := up_f hU12
          have so5 : SO_ T U12 m := so_f (ws := [(235, [])]) (so_1 (so_0 (so_f (ws := [(246, [])]) (so4) (fr_u (fr_0 _ _) hU6 rfl) ⟨fun _ => rfl, fun _ => rfl, fun _ => rfl⟩) hU8) hU10) (fr_u (fr_0 _ _) hU12 rfl) ⟨fun _ => rfl, fun _ => rfl, fun _ => rfl⟩
          have y5 : ∀ j, 20 * m ≤ j → j < 20 * m + 20 → U12 242 0 j = 0 := by
            intro j a b
            by_cases c : j % 10 < T 239 0 (j / 10)
            · rw [(up_k hU12 (by exact Nat.ne_of_beq_eq_false rfl) 0 j).trans ((up_k hU10 (by exact Nat.ne_of_beq_eq_false rfl) 0 j).trans ((up_k hU8 (by exact Nat.ne_of_beq_eq_false rfl) 0 j).trans (up_k hU6 (by exact Nat.ne_of_beq_eq_false rfl) 0 j)))]; exact (w4 j a b c).2.2.1
            · rw [so5.2 j (fun w => c w.2.2)]; exact hzs j (by omega) (by omega) (by omega)
          have d5 : U12 246 0 (8 * m + 5) = 0 := ((up_k hU12 (by exact Nat.ne_of_beq_eq_false rfl) 0 (8 * m + 5)).trans ((up_k hU10 (by exact Nat.ne_of_beq_eq_false rfl) 0 (8 * m + 5)).trans (up_k hU8 (by exact Nat.ne_of_beq_eq_false rfl) 0 (8 * m + 5)))).trans (up_f hU6)
          refine ⟨rfl, fr_u (fr_u (fr_u (fr_u (fr_t (fr_0 _ _) (fr_s hf_144 rfl)) hU6 rfl) hU8 rfl) hU10 rfl) hU12 rfl, fm_4 (FM__f (ws := [(237, [])]) (FM__f (ws := [(236, [])]) (FM__f (ws := [(246, [])]) (fm4) (fr_u (fr_0 _ _) hU6 rfl) ⟨fun _ => rfl, fun _ => rfl, trivial⟩) (fr_u (fr_0 _ _) hU8 rfl) ⟨fun _ => rfl, fun _ => rfl, trivial⟩) (fr_u (fr_0 _ _) hU10 rfl) ⟨fun _ => rfl, fun _ => rfl, trivial⟩) hU12 (fun s a b => by rw [(up_k hU10 (by exact Nat.ne_of_beq_eq_false rfl) 0 (2 * m + s)).trans ((up_k hU8 (by exact Nat.ne_of_beq_eq_false rfl) 0 (2 * m + s)).trans (up_k hU6 (by exact Nat.ne_of_beq_eq_false rfl) 0 (2 * m + s))), u4 _ (by omega) (by omega)]; omega), so5, ⟨by omega, by omega, fun j a b => by rw [y5 j a b]; decide⟩, fun j a b => ?_, fun j a b c => ?_, fun j a b c => ?_, fun j a b c => ?_, ⟨fun z => by omega, fun z => by omega⟩, by omega, by omega, by omega, ro_u (m := m) (k := 103) (j := 3) (ro_u (m := m) (k := 468) (j := 1) (ro_u (m := m) (k := 468) (j := 0) (ro_l (ro4) hU6 (by omega)) hU8 rfl rfl (by show m = _; omega)) hU10 rfl rfl (by show m = _; omega)) hU12 rfl rfl (by show m = _; omega)⟩
          · rw [(up_k hU12 (by exact Nat.ne_of_beq_eq_false rfl) 0 j).trans ((up_k hU10 (by exact Nat.ne_of_beq_eq_false rfl) 0 j).trans ((up_k hU8 (by exact Nat.ne_of_beq_eq_false rfl) 0 j).trans (up_k hU6 (by exact Nat.ne_of_beq_eq_false rfl) 0 j)))]; exact u4 j a b
          · rw [(up_k hU12 (by exact Nat.ne_of_beq_eq_false rfl) 0 j).trans ((up_k hU10 (by exact Nat.ne_of_beq_eq_false rfl) 0 j).trans ((up_k hU8 (by exact Nat.ne_of_beq_eq_false rfl) 0 j).trans (up_k hU6 (by exact Nat.ne_of_beq_eq_false rfl) 0 j))), (up_k hU12 (by exact Nat.ne_of_beq_eq_false rfl) 0 j).trans ((up_k hU10 (by exact Nat.ne_of_beq_eq_false rfl) 0 j).trans ((up_k hU8 (by exact Nat.ne_of_beq_eq_false rfl) 0 j).trans (up_k hU6 (by exact Nat.ne_of_beq_eq_false rfl) 0 j))), (up_k hU12 (by exact Nat.ne_of_beq_eq_false rfl) 0 j).trans ((up_k hU10 (by exact Nat.ne_of_beq_eq_false rfl) 0 j).trans ((up_k hU8 (by exact Nat.ne_of_beq_eq_false rfl) 0 j).trans (up_k hU6 (by exact Nat.ne_of_beq_eq_false rfl) 0 j)))]; exact w4 j a b c
          · rw [(up_k hU12 (by exact Nat.ne_of_beq_eq_false rfl) 0 j).trans ((up_k hU10 (by exact Nat.ne_of_beq_eq_false rfl) 0 j).trans ((up_k hU8 (by exact Nat.ne_of_beq_eq_false rfl) 0 j).trans (up_k hU6 (by exact Nat.ne_of_beq_eq_false rfl) 0 j)))]; exact x4 j a b c
          · rw [(up_k hU12 (by exact Nat.ne_of_beq_eq_false rfl) 0 j).trans ((up_k hU10 (by exact Nat.ne_of_beq_eq_false rfl) 0 j).trans (up_k hU8 (by exact Nat.ne_of_beq_eq_false rfl) 0 j)), up_g hU6 (fun y => c y.2.2)]; exact l4 j a (by omega)
        · refine hK 198 _ [vI 1, vI ((8 * m) + 5), vR 246 0] T4 ?_
          refine j_blx (F := fX11) tb_X11 (nn_ _) bk_X11_layBeginning_e_198 bs_X11_layBeginning_e_198 hz (fun K hK => ?_)
          refine iy_i (by omega) (by omega) ?_
          refine x_nm (fun U20 hU20 => ?_)
          have e21 := up_f hU20
          refine iy_i (by omega) (by omega) ?_
          refine x_nm (fun U22 hU22 => ?_)
          have e23 := up_f hU22
          refine iy_i (by omega) (by omega) ?_
          refine x_nm (fun U24 hU24 => ?_)
          have e25 := up_f hU24
          refine iy_i (by omega) (by omega) ?_
          refine x_nm (fun U26 hU26 => ?_)
          have e27 := up_f hU26
          refine (show po_X11_layBeginning_e T m U26 (none) from ?_)
          have e28 : U26 236 0 m = 0 := (up_k hU26 (by exact Nat.ne_of_beq_eq_false rfl) 0 m).trans ((up_k hU24 (by exact Nat.ne_of_beq_eq_false rfl) 0 m).trans (up_f hU22))
          have e29 : U26 237 0 m = 0 := (up_k hU26 (by exact Nat.ne_of_beq_eq_false rfl) 0 m).trans (up_f hU24)
          have e30 : U26 235 0 m = 1 := up_f hU26
          have e31 : U26 236 0 m = 0 := (up_k hU26 (by exact Nat.ne_of_beq_eq_false rfl) 0 m).trans ((up_k hU24 (by exact Nat.ne_of_beq_eq_false rfl) 0 m).trans (up_f hU22))
          have e32 : U26 237 0 m = 0 := (up_k hU26 (by exact Nat.ne_of_beq_eq_false rfl) 0 m).trans (up_f hU24)
          have e33 : U26 235 0 m = 1 := up_f hU26
          have so5 : SO_ T U26 m := so_f (ws := [(235, [])]) (so_1 (so_0 (so_f (ws := [(246, [])]) (so4) (fr_u (fr_0 _ _) hU20 rfl) ⟨fun _ => rfl, fun _ => rfl, fun _ => rfl⟩) hU22) hU24) (fr_u (fr_0 _ _) hU26 rfl) ⟨fun _ => rfl, fun _ => rfl, fun _ => rfl⟩
          have y5 : ∀ j, 20 * m ≤ j → j < 20 * m + 20 → U26 242 0 j = 0 := by
            intro j a b
            by_cases c : j % 10 < T 239 0 (j / 10)
            · rw [(up_k hU26 (by exact Nat.ne_of_beq_eq_false rfl) 0 j).trans ((up_k hU24 (by exact Nat.ne_of_beq_eq_false rfl) 0 j).trans ((up_k hU22 (by exact Nat.ne_of_beq_eq_false rfl) 0 j).trans (up_k hU20 (by exact Nat.ne_of_beq_eq_false rfl) 0 j)))]; exact (w4 j a b c).2.2.1
            · rw [so5.2 j (fun w => c w.2.2)]; exact hzs j (by omega) (by omega) (by omega)
          have d5 : U26 246 0 (8 * m + 5) = 1 := ((up_k hU26 (by exact Nat.ne_of_beq_eq_false rfl) 0 (8 * m + 5)).trans ((up_k hU24 (by exact Nat.ne_of_beq_eq_false rfl) 0 (8 * m + 5)).trans (up_k hU22 (by exact Nat.ne_of_beq_eq_false rfl) 0 (8 * m + 5)))).trans (up_f hU20)
          refine ⟨rfl, fr_u (fr_u (fr_u (fr_u (fr_t (fr_0 _ _) (fr_s hf_144 rfl)) hU20 rfl) hU22 rfl) hU24 rfl) hU26 rfl, fm_4 (FM__f (ws := [(237, [])]) (FM__f (ws := [(236, [])]) (FM__f (ws := [(246, [])]) (fm4) (fr_u (fr_0 _ _) hU20 rfl) ⟨fun _ => rfl, fun _ => rfl, trivial⟩) (fr_u (fr_0 _ _) hU22 rfl) ⟨fun _ => rfl, fun _ => rfl, trivial⟩) (fr_u (fr_0 _ _) hU24 rfl) ⟨fun _ => rfl, fun _ => rfl, trivial⟩) hU26 (fun s a b => by rw [(up_k hU24 (by exact Nat.ne_of_beq_eq_false rfl) 0 (2 * m + s)).trans ((up_k hU22 (by exact Nat.ne_of_beq_eq_false rfl) 0 (2 * m + s)).trans (up_k hU20 (by exact Nat.ne_of_beq_eq_false rfl) 0 (2 * m + s))), u4 _ (by omega) (by omega)]; omega), so5, ⟨by omega, by omega, fun j a b => by rw [y5 j a b]; decide⟩, fun j a b => ?_, fun j a b c => ?_, fun j a b c => ?_, fun j a b c => ?_, ⟨fun z => by omega, fun z => by omega⟩, by omega, by omega, by omega, ro_u (m := m) (k := 103) (j := 3) (ro_u (m := m) (k := 468) (j := 1) (ro_u (m := m) (k := 468) (j := 0) (ro_l (ro4) hU20 (by omega)) hU22 rfl rfl (by show m = _; omega)) hU24 rfl rfl (by show m = _; omega)) hU26 rfl rfl (by show m = _; omega)⟩
          · rw [(up_k hU26 (by exact Nat.ne_of_beq_eq_false rfl) 0 j).trans ((up_k hU24 (by exact Nat.ne_of_beq_eq_false rfl) 0 j).trans ((up_k hU22 (by exact Nat.ne_of_beq_eq_false rfl) 0 j).trans (up_k hU20 (by exact Nat.ne_of_beq_eq_false rfl) 0 j)))]; exact u4 j a b
          · rw [(up_k hU26 (by exact Nat.ne_of_beq_eq_false rfl) 0 j).trans ((up_k hU24 (by exact Nat.ne_of_beq_eq_false rfl) 0 j).trans ((up_k hU22 (by exact Nat.ne_of_beq_eq_false rfl) 0 j).trans (up_k hU20 (by exact Nat.ne_of_beq_eq_false rfl) 0 j))), (up_k hU26 (by exact Nat.ne_of_beq_eq_false rfl) 0 j).trans ((up_k hU24 (by exact Nat.ne_of_beq_eq_false rfl) 0 j).trans ((up_k hU22 (by exact Nat.ne_of_beq_eq_false rfl) 0 j).trans (up_k hU20 (by exact Nat.ne_of_beq_eq_false rfl) 0 j))), (up_k hU26 (by exact Nat.ne_of_beq_eq_false rfl) 0 j).trans ((up_k hU24 (by exact Nat.ne_of_beq_eq_false rfl) 0 j).trans ((up_k hU22 (by exact Nat.ne_of_beq_eq_false rfl) 0 j).trans (up_k hU20 (by exact Nat.ne_of_beq_eq_false rfl) 0 j)))]; exact w4 j a b c
          · rw [(up_k hU26 (by exact Nat.ne_of_beq_eq_false rfl) 0 j).trans ((up_k hU24 (by exact Nat.ne_of_beq_eq_false rfl) 0 j).trans ((up_k hU22 (by exact Nat.ne_of_beq_eq_false rfl) 0 j).trans (up_k hU20 (by exact Nat.ne_of_beq_eq_false rfl) 0 j)))]; exact x4 j a b c
          · rw [(up_k hU26 (by exact Nat.ne_of_beq_eq_false rfl) 0 j).trans ((up_k hU24 (by exact Nat.ne_of_beq_eq_false rfl) 0 j).trans (up_k hU22 (by exact Nat.ne_of_beq_eq_false rfl) 0 j)), up_g hU20 (fun y => c y.2.2)]; exact l4 j a (by omega)
      · refine rg_i (by omega) ?_
        refine rg_i (by omega) ?_
        refine iy_i (by omega) (by omega) ?_
        refine x_nm (fun U34 hU34 => ?_)
        have e35 := up_f hU34
        refine rg_i (by omega) ?_
        refine hK 144 [some (vR 111 0), some (vI m), none, some (vI (i + 1)), none] [] U34 ?_
        refine ih_144 _ ?_ (i + 1) U34 (Nat.le_refl _) ?_ ?_ ?_ ?_ ?_ ?_ ?_ ?_ ?_
        · have hm_144 := hm_144 (); omega
        · exact fr_u (fr_t (fr_0 _ _) (fr_s hf_144 rfl)) hU34 rfl
        · exact FM__f (ws := [(246, [])]) (fm4) (fr_u (fr_0 _ _) hU34 rfl) ⟨fun _ => rfl, fun _ => rfl, trivial⟩
        · exact so_f (ws := [(246, [])]) (so4) (fr_u (fr_0 _ _) hU34 rfl) ⟨fun _ => rfl, fun _ => rfl, fun _ => rfl⟩
        · exact ro_l (ro4) hU34 (by omega)
        · intro j a b
          rw [up_k hU34 (by exact Nat.ne_of_beq_eq_false rfl) 0 j]
          exact u4 j a (by omega)
        · intro j a b c
          rw [up_k hU34 (by exact Nat.ne_of_beq_eq_false rfl) 0 j, up_k hU34 (by exact Nat.ne_of_beq_eq_false rfl) 0 j, up_k hU34 (by exact Nat.ne_of_beq_eq_false rfl) 0 j]
          exact w4 j a (by omega) c
        · intro j a b c
          rw [up_k hU34 (by exact Nat.ne_of_beq_eq_false rfl) 0 j]
          exact x4 j a (by omega) c
        · intro j a b
          by_cases z : j = (8 * m) + i
          · rw [z, up_f hU34]
          · rw [up_g hU34 (fun y => z y.2.2)]; exact l4 j a (by omega)
        · omega
  have c_17 : ∀ (nn : Nat) (sh : Int) (T1 : Zt), ((2 * m + 2 - sh).toNat) ≤ nn → (fr_ [(244, []), (241, []), (242, []), (243, []), (245, [])] T T1) → (FM_ T1) → (SO_ T T1 m) → (ro9_ T T1 m) → (∀ j, 2 * m ≤ j → j < sh → T1 244 0 j = T 205 0 (23 * T 230 0 m + 9)) → (∀ j, 20 * m ≤ j → j < 10 * sh → j % 10 < T 239 0 (j / 10) → (j % 10 < T 205 0 (23 * T 230 0 m + 9) → T1 241 0 j = 1) ∧ (T 205 0 (23 * T 230 0 m + 9) ≤ j % 10 → T1 241 0 j = 0) ∧ T1 242 0 j = 0 ∧ T1 243 0 j = 0) → (∀ j, 12 * m ≤ j → j < 6 * sh → j % 6 < T 205 0 (23 * T 230 0 m + 9) → T1 245 0 j = 10 * (j / 6) + j % 6) → (2 * m ≤ sh ∧ sh ≤ 2 * m + 2) → J_ zX11_layBeginning T (po_X11_layBeginning_e T m) 0 0 17 [some (vR 111 0), some (vI m), some (vI (T 205 0 (23 * T 230 0 m + 9))), some (vI sh), none] [] T1 := by
    intro nn
    induction nn using Nat.strongRecOn with
    | _ nn ih_17 =>
      intro sh T1 hm_17 hf_17 fm1 so1 ro1 u1 w1 x1 i1
      replace hm_17 := fun (_ : Unit) => hm_17
      have hsh : 0 ≤ T 239 0 sh ∧ T 239 0 sh ≤ 10 := bd_a hT 239 (by decide +kernel : ta_ 239 = some (1, some 800, 0, 10)) 0 (by omega)
      have c_105 : ∀ (nn : Nat) (k : Int) (T3 : Zt), ((6 - k).toNat) ≤ nn → (fr_ [(244, []), (241, []), (242, []), (243, []), (245, [])] T T3) → (FM_ T3) → (SO_ T T3 m) → (ro9_ T T3 m) → (∀ j, 2 * m ≤ j → j < sh + 1 → T3 244 0 j = T 205 0 (23 * T 230 0 m + 9)) → (∀ j, 20 * m ≤ j → j < 10 * sh + 10 → j % 10 < T 239 0 (j / 10) → (j % 10 < T 205 0 (23 * T 230 0 m + 9) → T3 241 0 j = 1) ∧ (T 205 0 (23 * T 230 0 m + 9) ≤ j % 10 → T3 241 0 j = 0) ∧ T3 242 0 j = 0 ∧ T3 243 0 j = 0) → (∀ j, 12 * m ≤ j → j < 6 * sh + k → j % 6 < T 205 0 (23 * T 230 0 m + 9) → T3 245 0 j = 10 * (j / 6) + j % 6) → (0 ≤ k ∧ sh ≤ 2 * m + 1 ∧ k ≤ T 205 0 (23 * T 230 0 m + 9)) → J_ zX11_layBeginning T (po_X11_layBeginning_e T m) 0 0 105 [some (vR 111 0), some (vI m), some (vI (T 205 0 (23 * T 230 0 m + 9))), some (vI sh), some (vI k)] [] T3 := by
        intro nn
        induction nn using Nat.strongRecOn with
        | _ nn ih_105 =>
          intro k T3 hm_105 hf_105 fm3 so3 ro3 u3 w3 x3 i3
          replace hm_105 := fun (_ : Unit) => hm_105
          refine j_blx (F := fX11) tb_X11 (nn_ _) bk_X11_layBeginning_e_105 bs_X11_layBeginning_e_105 hz (fun K hK => ?_)
          refine And.intro (fun c36 => ?_) (fun c36 => ?_)
          · refine hK 136 _ [] T3 ?_
            refine j_blx (F := fX11) tb_X11 (nn_ _) bk_X11_layBeginning_e_136 bs_X11_layBeginning_e_136 hz (fun K hK => ?_)
            refine rg_i (by omega) ?_
            refine hK 17 [some (vR 111 0), some (vI m), some (vI (T 205 0 (23 * T 230 0 m + 9))), some (vI (sh + 1)), some (vI k)] [] T3 ?_
            refine j_drop [some (vR 111 0), some (vI m), some (vI (T 205 0 (23 * T 230 0 m + 9))), some (vI (sh + 1)), none] (fun k v hk => ?_) rfl ?_
            · match k, hk with
              | 0, hk => exact hk
              | 1, hk => exact hk
              | 2, hk => exact hk
              | 3, hk => exact hk
              | 4, hk => cases hk
              | k + 5, hk => cases hk
            refine ih_17 _ ?_ (sh + 1) T3 (Nat.le_refl _) ?_ ?_ ?_ ?_ ?_ ?_ ?_ ?_
            · have hm_17 := hm_17 (); omega
            · exact fr_t (fr_0 _ _) (fr_s hf_105 rfl)
            · exact fm3
            · exact so3
            · exact ro3
            · intro j a b
              exact u3 j a (by omega)
            · intro j a b c
              exact w3 j a (by omega) c
            · intro j a b c
              exact x3 j a (by omega) c
            · omega
          · refine rg_i (by omega) ?_
            refine rg_i (by omega) ?_
            refine rg_i (by omega) ?_
            refine rg_i (by omega) ?_
            refine iy_i (by omega) (by omega) ?_
            refine x_nm (fun U37 hU37 => ?_)
            have e38 := up_f hU37
            refine rg_i (by omega) ?_
            refine hK 105 [some (vR 111 0), some (vI m), some (vI (T 205 0 (23 * T 230 0 m + 9))), some (vI sh), some (vI (k + 1))] [] U37 ?_
            refine ih_105 _ ?_ (k + 1) U37 (Nat.le_refl _) ?_ ?_ ?_ ?_ ?_ ?_ ?_ ?_
            · have hm_105 := hm_105 (); omega
            · exact fr_u (fr_t (fr_0 _ _) (fr_s hf_105 rfl)) hU37 rfl
            · exact FM__f (ws := [(245, [])]) (fm3) (fr_u (fr_0 _ _) hU37 rfl) ⟨fun _ => rfl, fun _ => rfl, trivial⟩
            · exact so_f (ws := [(245, [])]) (so3) (fr_u (fr_0 _ _) hU37 rfl) ⟨fun _ => rfl, fun _ => rfl, fun _ => rfl⟩
            · exact ro_u (m := m) (k := 471) (j := k - 12 * m + 6 * sh) (ro3) hU37 (dm_471 (by omega)) rfl (by show 12 * m + (k - 12 * m + 6 * sh) = _; omega)
            · intro j a b
              rw [up_k hU37 (by exact Nat.ne_of_beq_eq_false rfl) 0 j]
              exact u3 j a (by omega)
            · intro j a b c
              rw [up_k hU37 (by exact Nat.ne_of_beq_eq_false rfl) 0 j, up_k hU37 (by exact Nat.ne_of_beq_eq_false rfl) 0 j, up_k hU37 (by exact Nat.ne_of_beq_eq_false rfl) 0 j]
              exact w3 j a (by omega) c
            · intro j a b c
              by_cases z : j = (6 * sh) + k
              · rw [z, up_f hU37]; omega
              · rw [up_g hU37 (fun y => z y.2.2)]; exact x3 j a (by omega) c
            · omega
      have c_36 : ∀ (nn : Nat) (k : Int) (T2 : Zt), ((10 - k).toNat) ≤ nn → (fr_ [(244, []), (241, []), (242, []), (243, []), (245, [])] T T2) → (FM_ T2) → (SO_ T T2 m) → (ro9_ T T2 m) → (∀ j, 2 * m ≤ j → j < sh + 1 → T2 244 0 j = T 205 0 (23 * T 230 0 m + 9)) → (∀ j, 20 * m ≤ j → j < 10 * sh + k → j % 10 < T 239 0 (j / 10) → (j % 10 < T 205 0 (23 * T 230 0 m + 9) → T2 241 0 j = 1) ∧ (T 205 0 (23 * T 230 0 m + 9) ≤ j % 10 → T2 241 0 j = 0) ∧ T2 242 0 j = 0 ∧ T2 243 0 j = 0) → (∀ j, 12 * m ≤ j → j < 6 * sh → j % 6 < T 205 0 (23 * T 230 0 m + 9) → T2 245 0 j = 10 * (j / 6) + j % 6) → (0 ≤ k ∧ sh ≤ 2 * m + 1 ∧ k ≤ T 239 0 sh) → J_ zX11_layBeginning T (po_X11_layBeginning_e T m) 0 0 36 [some (vR 111 0), some (vI m), some (vI (T 205 0 (23 * T 230 0 m + 9))), some (vI sh), some (vI k)] [] T2 := by
        intro nn
        induction nn using Nat.strongRecOn with
        | _ nn ih_36 =>
          intro k T2 hm_36 hf_36 fm2 so2 ro2 u2 w2 x2 i2
          replace hm_36 := fun (_ : Unit) => hm_36
          have hsm : 0 ≤ T 239 0 sh ∧ T 239 0 sh ≤ 10 := bd_a hT 239 (by decide +kernel : ta_ 239 = some (1, some 800, 0, 10)) 0 (by omega)
          refine j_blx (F := fX11) tb_X11 (nn_ _) bk_X11_layBeginning_e_36 bs_X11_layBeginning_e_36 hz (fun K hK => ?_)
          refine ix_i (by omega) ?_
          intro b39 b39b
          have e40 : T2 239 0 sh = T 239 0 sh := hf_36 239 0 sh rfl
          rw [e40] at b39 b39b ⊢
          refine And.intro (fun c41 => ?_) (fun c41 => ?_)
          · refine hK 102 _ [] T2 ?_
            refine j_blx (F := fX11) tb_X11 (nn_ _) bk_X11_layBeginning_e_102 bs_X11_layBeginning_e_102 hz (fun K hK => ?_)
            refine hK 105 [some (vR 111 0), some (vI m), some (vI (T 205 0 (23 * T 230 0 m + 9))), some (vI sh), some (vI 0)] [] T2 ?_
            refine c_105 _ 0 T2 (Nat.le_refl _) ?_ ?_ ?_ ?_ ?_ ?_ ?_ ?_
            · exact fr_t (fr_0 _ _) (fr_s hf_36 rfl)
            · exact fm2
            · exact so2
            · exact ro2
            · intro j a b
              exact u2 j a (by omega)
            · intro j a b c
              by_cases z : j < 10 * sh + k
              · exact w2 j a z c
              · rw [show j / 10 = sh from Int.le_antisymm (by omega) (by omega)] at c; omega
            · intro j a b c
              exact x2 j a (by omega) c
            · omega
          · refine rg_i (by omega) ?_
            refine rg_i (by omega) ?_
            refine And.intro (fun c42 => ?_) (fun c42 => ?_)
            · refine hK 68 [some (vR 111 0), some (vI m), some (vI (T 205 0 (23 * T 230 0 m + 9))), some (vI sh), some (vI k)] [vI ((10 * sh) + k), vR 241 0] T2 ?_
              refine j_blx (F := fX11) tb_X11 (nn_ _) bk_X11_layBeginning_e_68 bs_X11_layBeginning_e_68 hz (fun K hK => ?_)
              refine iy_i (by omega) (by omega) ?_
              refine x_nm (fun U43 hU43 => ?_)
              have e44 := up_f hU43
              refine rg_i (by omega) ?_
              refine rg_i (by omega) ?_
              refine iy_i (by omega) (by omega) ?_
              refine x_nm (fun U45 hU45 => ?_)
              have e46 := up_f hU45
              refine rg_i (by omega) ?_
              refine rg_i (by omega) ?_
              refine iy_i (by omega) (by omega) ?_
              refine x_nm (fun U47 hU47 => ?_)
              have e48 := up_f hU47
              refine rg_i (by omega) ?_
              refine hK 36 [some (vR 111 0), some (vI m), some (vI (T 205 0 (23 * T 230 0 m + 9))), some (vI sh), some (vI (k + 1))] [] U47 ?_
              refine ih_36 _ ?_ (k + 1) U47 (Nat.le_refl _) ?_ ?_ ?_ ?_ ?_ ?_ ?_ ?_
              · have hm_36 := hm_36 (); omega
              · exact fr_u (fr_u (fr_u (fr_t (fr_0 _ _) (fr_s hf_36 rfl)) hU43 rfl) hU45 rfl) hU47 rfl
              · exact FM__f (ws := [(243, [])]) (FM__f (ws := [(242, [])]) (FM__f (ws := [(241, [])]) (fm2) (fr_u (fr_0 _ _) hU43 rfl) ⟨fun _ => rfl, fun _ => rfl, trivial⟩) (fr_u (fr_0 _ _) hU45 rfl) ⟨fun _ => rfl, fun _ => rfl, trivial⟩) (fr_u (fr_0 _ _) hU47 rfl) ⟨fun _ => rfl, fun _ => rfl, trivial⟩
              · exact so_f (ws := [(243, [])]) (so_y (so_f (ws := [(241, [])]) (so2) (fr_u (fr_0 _ _) hU43 rfl) ⟨fun _ => rfl, fun _ => rfl, fun _ => rfl⟩) hU45 (sh) (by omega)) (fr_u (fr_0 _ _) hU47 rfl) ⟨fun _ => rfl, fun _ => rfl, fun _ => rfl⟩
              · exact ro_u (m := m) (k := 474) (j := ((10 * sh) + k) - 20 * m) (ro_u (m := m) (k := 473) (j := ((10 * sh) + k) - 20 * m) (ro_u (m := m) (k := 472) (j := ((10 * sh) + k) - 20 * m) (ro2) hU43 (dm_472 (by omega)) rfl (by show 20 * m + (((10 * sh) + k) - 20 * m) = _; omega)) hU45 (dm_473 (by omega)) rfl (by show 20 * m + (((10 * sh) + k) - 20 * m) = _; omega)) hU47 (dm_474 (by omega)) rfl (by show 20 * m + (((10 * sh) + k) - 20 * m) = _; omega)
              · intro j a b
                rw [(up_k hU47 (by exact Nat.ne_of_beq_eq_false rfl) 0 j).trans ((up_k hU45 (by exact Nat.ne_of_beq_eq_false rfl) 0 j).trans (up_k hU43 (by exact Nat.ne_of_beq_eq_false rfl) 0 j))]
                exact u2 j a (by omega)
              · intro j a b c
                by_cases z : j = 10 * sh + k
                · have d1 : U47 241 0 j = 0 := by rw [z]; exact ((up_k hU47 (by exact Nat.ne_of_beq_eq_false rfl) 0 _).trans (up_k hU45 (by exact Nat.ne_of_beq_eq_false rfl) 0 _)).trans (up_f hU43)
                  have d2 : U47 242 0 j = 0 := by rw [z]; exact (up_k hU47 (by exact Nat.ne_of_beq_eq_false rfl) 0 _).trans (up_f hU45)
                  have d3 : U47 243 0 j = 0 := by rw [z]; exact up_f hU47
                  refine ⟨fun g => ?_, fun g => ?_, d2, d3⟩
                  · omega
                  · omega
                · have d1 : U47 241 0 j = T2 241 0 j := (up_k hU47 (by exact Nat.ne_of_beq_eq_false rfl) 0 j).trans ((up_k hU45 (by exact Nat.ne_of_beq_eq_false rfl) 0 j).trans (up_g hU43 (fun y => z y.2.2)))
                  have d2 : U47 242 0 j = T2 242 0 j := (up_k hU47 (by exact Nat.ne_of_beq_eq_false rfl) 0 j).trans ((up_g hU45 (fun y => z y.2.2)).trans (up_k hU43 (by exact Nat.ne_of_beq_eq_false rfl) 0 j))
                  have d3 : U47 243 0 j = T2 243 0 j := (up_g hU47 (fun y => z y.2.2)).trans ((up_k hU45 (by exact Nat.ne_of_beq_eq_false rfl) 0 j).trans (up_k hU43 (by exact Nat.ne_of_beq_eq_false rfl) 0 j))
                  rw [d1, d2, d3]
                  exact w2 j a (by omega) c
              · intro j a b c
                rw [(up_k hU47 (by exact Nat.ne_of_beq_eq_false rfl) 0 j).trans ((up_k hU45 (by exact Nat.ne_of_beq_eq_false rfl) 0 j).trans (up_k hU43 (by exact Nat.ne_of_beq_eq_false rfl) 0 j))]
                exact x2 j a (by omega) c
              · omega
            · refine hK 69 [some (vR 111 0), some (vI m), some (vI (T 205 0 (23 * T 230 0 m + 9))), some (vI sh), some (vI k)] [vI 1, vI ((10 * sh) + k), vR 241 0] T2 ?_
              refine j_blx (F := fX11) tb_X11 (nn_ _) bk_X11_layBeginning_e_69 bs_X11_layBeginning_e_69 hz (fun K hK => ?_)
              refine iy_i (by omega) (by omega) ?_
              refine x_nm (fun U49 hU49 => ?_)
              have e50 := up_f hU49
              refine rg_i (by omega) ?_
              refine rg_i (by omega) ?_
              refine iy_i (by omega) (by omega) ?_
              refine x_nm (fun U51 hU51 => ?_)
              have e52 := up_f hU51
              refine rg_i (by omega) ?_
              refine rg_i (by omega) ?_
              refine iy_i (by omega) (by omega) ?_
              refine x_nm (fun U53 hU53 => ?_)
              have e54 := up_f hU53
              refine rg_i (by omega) ?_
              refine hK 36 [some (vR 111 0), some (vI m), some (vI (T 205 0 (23 * T 230 0 m + 9))), some (vI sh), some (vI (k + 1))] [] U53 ?_
              refine ih_36 _ ?_ (k + 1) U53 (Nat.le_refl _) ?_ ?_ ?_ ?_ ?_ ?_ ?_ ?_
              · have hm_36 := hm_36 (); omega
              · exact fr_u (fr_u (fr_u (fr_t (fr_0 _ _) (fr_s hf_36 rfl)) hU49 rfl) hU51 rfl) hU53 rfl
              · exact FM__f (ws := [(243, [])]) (FM__f (ws := [(242, [])]) (FM__f (ws := [(241, [])]) (fm2) (fr_u (fr_0 _ _) hU49 rfl) ⟨fun _ => rfl, fun _ => rfl, trivial⟩) (fr_u (fr_0 _ _) hU51 rfl) ⟨fun _ => rfl, fun _ => rfl, trivial⟩) (fr_u (fr_0 _ _) hU53 rfl) ⟨fun _ => rfl, fun _ => rfl, trivial⟩
              · exact so_f (ws := [(243, [])]) (so_y (so_f (ws := [(241, [])]) (so2) (fr_u (fr_0 _ _) hU49 rfl) ⟨fun _ => rfl, fun _ => rfl, fun _ => rfl⟩) hU51 (sh) (by omega)) (fr_u (fr_0 _ _) hU53 rfl) ⟨fun _ => rfl, fun _ => rfl, fun _ => rfl⟩
              · exact ro_u (m := m) (k := 474) (j := ((10 * sh) + k) - 20 * m) (ro_u (m := m) (k := 473) (j := ((10 * sh) + k) - 20 * m) (ro_u (m := m) (k := 472) (j := ((10 * sh) + k) - 20 * m) (ro2) hU49 (dm_472 (by omega)) rfl (by show 20 * m + (((10 * sh) + k) - 20 * m) = _; omega)) hU51 (dm_473 (by omega)) rfl (by show 20 * m + (((10 * sh) + k) - 20 * m) = _; omega)) hU53 (dm_474 (by omega)) rfl (by show 20 * m + (((10 * sh) + k) - 20 * m) = _; omega)
              · intro j a b
                rw [(up_k hU53 (by exact Nat.ne_of_beq_eq_false rfl) 0 j).trans ((up_k hU51 (by exact Nat.ne_of_beq_eq_false rfl) 0 j).trans (up_k hU49 (by exact Nat.ne_of_beq_eq_false rfl) 0 j))]
                exact u2 j a (by omega)
              · intro j a b c
                by_cases z : j = 10 * sh + k
                · have d1 : U53 241 0 j = 1 := by rw [z]; exact ((up_k hU53 (by exact Nat.ne_of_beq_eq_false rfl) 0 _).trans (up_k hU51 (by exact Nat.ne_of_beq_eq_false rfl) 0 _)).trans (up_f hU49)
                  have d2 : U53 242 0 j = 0 := by rw [z]; exact (up_k hU53 (by exact Nat.ne_of_beq_eq_false rfl) 0 _).trans (up_f hU51)
                  have d3 : U53 243 0 j = 0 := by rw [z]; exact up_f hU53
                  refine ⟨fun g => ?_, fun g => ?_, d2, d3⟩
                  · omega
                  · omega
                · have d1 : U53 241 0 j = T2 241 0 j := (up_k hU53 (by exact Nat.ne_of_beq_eq_false rfl) 0 j).trans ((up_k hU51 (by exact Nat.ne_of_beq_eq_false rfl) 0 j).trans (up_g hU49 (fun y => z y.2.2)))
                  have d2 : U53 242 0 j = T2 242 0 j := (up_k hU53 (by exact Nat.ne_of_beq_eq_false rfl) 0 j).trans ((up_g hU51 (fun y => z y.2.2)).trans (up_k hU49 (by exact Nat.ne_of_beq_eq_false rfl) 0 j))
                  have d3 : U53 243 0 j = T2 243 0 j := (up_g hU53 (fun y => z y.2.2)).trans ((up_k hU51 (by exact Nat.ne_of_beq_eq_false rfl) 0 j).trans (up_k hU49 (by exact Nat.ne_of_beq_eq_false rfl) 0 j))
                  rw [d1, d2, d3]
                  exact w2 j a (by omega) c
              · intro j a b c
                rw [(up_k hU53 (by exact Nat.ne_of_beq_eq_false rfl) 0 j).trans ((up_k hU51 (by exact Nat.ne_of_beq_eq_false rfl) 0 j).trans (up_k hU49 (by exact Nat.ne_of_beq_eq_false rfl) 0 j))]
                exact x2 j a (by omega) c
              · omega
      refine j_blx (F := fX11) tb_X11 (nn_ _) bk_X11_layBeginning_e_17 bs_X11_layBeginning_e_17 hz (fun K hK => ?_)
      refine rg_i (by omega) ?_
      refine rg_i (by omega) ?_
      refine And.intro (fun c55 => ?_) (fun c55 => ?_)
      · refine hK 142 _ [] T1 ?_
        refine j_blx (F := fX11) tb_X11 (nn_ _) bk_X11_layBeginning_e_142 bs_X11_layBeginning_e_142 hz (fun K hK => ?_)
        refine hK 144 [some (vR 111 0), some (vI m), some (vI (T 205 0 (23 * T 230 0 m + 9))), some (vI 0), none] [] T1 ?_
        refine j_drop [some (vR 111 0), some (vI m), none, some (vI 0), none] (fun k v hk => ?_) rfl ?_
        · match k, hk with
          | 0, hk => exact hk
          | 1, hk => exact hk
          | 2, hk => cases hk
          | 3, hk => exact hk
          | 4, hk => cases hk
          | k + 5, hk => cases hk
        refine c_144 _ 0 T1 (Nat.le_refl _) ?_ ?_ ?_ ?_ ?_ ?_ ?_ ?_ ?_
        · exact fr_t (fr_0 _ _) (fr_s hf_17 rfl)
        · exact fm1
        · exact so1
        · exact ro1
        · intro j a b
          exact u1 j a (by omega)
        · intro j a b c
          exact w1 j a (by omega) c
        · intro j a b c
          exact x1 j a (by omega) c
        · intro j a b; omega
        · omega
      · refine iy_i (by omega) (by omega) ?_
        refine x_nm (fun U56 hU56 => ?_)
        have e57 := up_f hU56
        refine hK 36 [some (vR 111 0), some (vI m), some (vI (T 205 0 (23 * T 230 0 m + 9))), some (vI sh), some (vI 0)] [] U56 ?_
        refine c_36 _ 0 U56 (Nat.le_refl _) ?_ ?_ ?_ ?_ ?_ ?_ ?_ ?_
        · exact fr_u (fr_t (fr_0 _ _) (fr_s hf_17 rfl)) hU56 rfl
        · exact fm_f (fm1) hU56 (by omega)
        · exact so_f (ws := [(244, [])]) (so1) (fr_u (fr_0 _ _) hU56 rfl) ⟨fun _ => rfl, fun _ => rfl, fun _ => rfl⟩
        · exact ro_u (m := m) (k := 470) (j := -2 * m + sh) (ro1) hU56 (dm_470 (by omega)) rfl (by show 2 * m + (-2 * m + sh) = _; omega)
        · intro j a b
          by_cases z : j = sh
          · rw [z, up_f hU56]
          · rw [up_g hU56 (fun y => z y.2.2)]; exact u1 j a (by omega)
        · intro j a b c
          rw [up_k hU56 (by exact Nat.ne_of_beq_eq_false rfl) 0 j, up_k hU56 (by exact Nat.ne_of_beq_eq_false rfl) 0 j, up_k hU56 (by exact Nat.ne_of_beq_eq_false rfl) 0 j]
          exact w1 j a (by omega) c
        · intro j a b c
          rw [up_k hU56 (by exact Nat.ne_of_beq_eq_false rfl) 0 j]
          exact x1 j a (by omega) c
        · omega
  refine j_blx (F := fX11) tb_X11 (nn_ _) bk_X11_layBeginning_e_0 bs_X11_layBeginning_e_0 hz (fun K hK => ?_)
  refine ix_i (by omega) ?_
  intro b58 b58b
  refine hK 9 _ [vI 9, vI (T 230 0 m), vR 111 0] T ?_
  refine j_callV (y := yX11_rule0) (Yc := zX11_rule0) (rest := []) [vI (T 230 0 m), vI 9] (ct_X11_rule0 (T := T) (by omega) (by omega)) cl_X11_321 (qd_c (by decide +kernel)) (nn_ _) rfl (rf_of rfl) (Nat.le_of_ble_eq_true rfl) (Nat.le_of_ble_eq_true rfl) (Nat.le_of_ble_eq_true rfl) rfl ?_
  rintro _ _ ⟨rfl, rfl⟩
  show J_ zX11_layBeginning T (po_X11_layBeginning_e T m) 0 0 12 _ [vI (T 205 0 (23 * (T 230 0 m) + 9))] T
  refine j_blx (F := fX11) tb_X11 (nn_ _) bk_X11_layBeginning_e_12 bs_X11_layBeginning_e_12 hz (fun K hK => ?_)
  refine rg_i (by omega) ?_
  refine hK 17 [some (vR 111 0), some (vI m), some (vI (T 205 0 (23 * (T 230 0 m) + 9))), some (vI (2 * m)), none] [] T ?_
  refine c_17 _ (2 * m) T (Nat.le_refl _) ?_ ?_ ?_ ?_ ?_ ?_ ?_ ?_
  · exact fr_0 _ _
  · exact hfm
  · exact so_r
  · exact ro_r
  · intro j a b; omega
  · intro j a b; omega
  · intro j a b; omega
  · omega

