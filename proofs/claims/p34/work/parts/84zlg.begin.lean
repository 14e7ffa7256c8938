theorem bk_X11_layBeginning_e_144 : ck_ fX11 none cX11_layBeginning 144 [.iload 3, .iconst 8, .if_icmp .ge 168, .aload 0, .tableswitch 0 11 46 #[], .iconst 8, .iload 1, .imul, .iload 3, .iadd, .iconst 0, .iastore, .iinc 3 1, .goto 144] 168 = true := qck_r (nn_ _) (by decide +kernel)
theorem bs_X11_layBeginning_e_144 {P : Zt → Option Zv → Prop} (K : Int → Zl → List Zv → Zt → Prop) : sx_ K P [.iload 3, .iconst 8, .if_icmp .ge 168, .aload 0, .tableswitch 0 11 46 #[], .iconst 8, .iload 1, .imul, .iload 3, .iadd, .iconst 0, .iastore, .iinc 3 1, .goto 144] 168 = x_iload 3 (x_iconst 8 (x_if_icmp .ge 168 K (x_aload 0 (x_g1 111 246 (x_iconst 8 (x_iload 1 (x_imul (x_iload 3 (x_iadd (x_iconst 0 (x_iastore (x_iinc 3 1 (x_goto 144 K))))))))))))) := ((xe_iload 3).trans (congrArg (x_iload 3) ((xe_iconst 8).trans (congrArg (x_iconst 8) ((xe_if_icmp .ge 168).trans (congrArg (x_if_icmp .ge 168 K) ((xe_aload 0).trans (congrArg (x_aload 0) ((xe_g1 (kk := 111) rfl tl_11_46).trans (congrArg (x_g1 111 246) ((xe_iconst 8).trans (congrArg (x_iconst 8) ((xe_iload 1).trans (congrArg (x_iload 1) ((xe_imul).trans (congrArg (x_imul) ((xe_iload 3).trans (congrArg (x_iload 3) ((xe_iadd).trans (congrArg (x_iadd) ((xe_iconst 0).trans (congrArg (x_iconst 0) ((xe_iastore).trans (congrArg (x_iastore) ((xe_iinc 3 1).trans (congrArg (x_iinc 3 1) (xe_goto 144)))))))))))))))))))))))))))
theorem bk_X11_layBeginning_e_168 : ck_ fX11 none cX11_layBeginning 168 [.aload 0, .tableswitch 0 11 46 #[], .iconst 8, .iload 1, .imul, .iconst 5, .iadd, .aload 0, .aload 0, .tableswitch 0 11 30 #[], .iload 1, .iaload, .iconst 0] 186 = true := qck_r (nn_ _) (by decide +kernel)
theorem bs_X11_layBeginning_e_168 {P : Zt → Option Zv → Prop} (K : Int → Zl → List Zv → Zt → Prop) : sx_ K P [.aload 0, .tableswitch 0 11 46 #[], .iconst 8, .iload 1, .imul, .iconst 5, .iadd, .aload 0, .aload 0, .tableswitch 0 11 30 #[], .iload 1, .iaload, .iconst 0] 186 = x_aload 0 (x_g1 111 246 (x_iconst 8 (x_iload 1 (x_imul (x_iconst 5 (x_iadd (x_aload 0 (x_aload 0 (x_g1 111 230 (x_iload 1 (x_iaload (x_iconst 0 (K 186))))))))))))) := ((xe_aload 0).trans (congrArg (x_aload 0) ((xe_g1 (kk := 111) rfl tl_11_46).trans (congrArg (x_g1 111 246) ((xe_iconst 8).trans (congrArg (x_iconst 8) ((xe_iload 1).trans (congrArg (x_iload 1) ((xe_imul).trans (congrArg (x_imul) ((xe_iconst 5).trans (congrArg (x_iconst 5) ((xe_iadd).trans (congrArg (x_iadd) ((xe_aload 0).trans (congrArg (x_aload 0) ((xe_aload 0).trans (congrArg (x_aload 0) ((xe_g1 (kk := 111) rfl tl_11_30).trans (congrArg (x_g1 111 230) ((xe_iload 1).trans (congrArg (x_iload 1) ((xe_iaload).trans (congrArg (x_iaload) ((xe_iconst 0).trans (congrArg (x_iconst 0) xe_nil))))))))))))))))))))))))))
theorem bk_X11_layBeginning_e_189 : ck_ fX11 none cX11_layBeginning 189 [.iconst 3, .if_icmp .ne 197, .iconst 1, .goto 198] 197 = true := qck_r (nn_ _) (by decide +kernel)
theorem bs_X11_layBeginning_e_189 {P : Zt → Option Zv → Prop} (K : Int → Zl → List Zv → Zt → Prop) : sx_ K P [.iconst 3, .if_icmp .ne 197, .iconst 1, .goto 198] 197 = x_iconst 3 (x_if_icmp .ne 197 K (x_iconst 1 (x_goto 198 K))) := ((xe_iconst 3).trans (congrArg (x_iconst 3) ((xe_if_icmp .ne 197).trans (congrArg (x_if_icmp .ne 197 K) ((xe_iconst 1).trans (congrArg (x_iconst 1) (xe_goto 198)))))))
theorem bk_X11_layBeginning_e_197 : ck_ fX11 none cX11_layBeginning 197 [.iconst 0, .iastore, .aload 0, .tableswitch 0 11 36 #[], .iload 1, .iconst 0, .iastore, .aload 0, .tableswitch 0 11 37 #[], .iload 1, .iconst 0, .iastore, .aload 0, .tableswitch 0 11 35 #[], .iload 1, .iconst 1, .iastore, .return_] 221 = true := qck_r (nn_ _) (by decide +kernel)
theorem bs_X11_layBeginning_e_197 {P : Zt → Option Zv → Prop} (K : Int → Zl → List Zv → Zt → Prop) : sx_ K P [.iconst 0, .iastore, .aload 0, .tableswitch 0 11 36 #[], .iload 1, .iconst 0, .iastore, .aload 0, .tableswitch 0 11 37 #[], .iload 1, .iconst 0, .iastore, .aload 0, .tableswitch 0 11 35 #[], .iload 1, .iconst 1, .iastore, .return_] 221 = x_iconst 0 (x_iastore (x_aload 0 (x_g1 111 236 (x_iload 1 (x_iconst 0 (x_iastore (x_aload 0 (x_g1 111 237 (x_iload 1 (x_iconst 0 (x_iastore (x_aload 0 (x_g1 111 235 (x_iload 1 (x_iconst 1 (x_iastore (x_return_ P))))))))))))))))) := ((xe_iconst 0).trans (congrArg (x_iconst 0) ((xe_iastore).trans (congrArg (x_iastore) ((xe_aload 0).trans (congrArg (x_aload 0) ((xe_g1 (kk := 111) rfl tl_11_36).trans (congrArg (x_g1 111 236) ((xe_iload 1).trans (congrArg (x_iload 1) ((xe_iconst 0).trans (congrArg (x_iconst 0) ((xe_iastore).trans (congrArg (x_iastore) ((xe_aload 0).trans (congrArg (x_aload 0) ((xe_g1 (kk := 111) rfl tl_11_37).trans (congrArg (x_g1 111 237) ((xe_iload 1).trans (congrArg (x_iload 1) ((xe_iconst 0).trans (congrArg (x_iconst 0) ((xe_iastore).trans (congrArg (x_iastore) ((xe_aload 0).trans (congrArg (x_aload 0) ((xe_g1 (kk := 111) rfl tl_11_35).trans (congrArg (x_g1 111 235) ((xe_iload 1).trans (congrArg (x_iload 1) ((xe_iconst 1).trans (congrArg (x_iconst 1) ((xe_iastore).trans (congrArg (x_iastore) (xe_return_)))))))))))))))))))))))))))))))))))
theorem bk_X11_layBeginning_e_198 : ck_ fX11 none cX11_layBeginning 198 [.iastore, .aload 0, .tableswitch 0 11 36 #[], .iload 1, .iconst 0, .iastore, .aload 0, .tableswitch 0 11 37 #[], .iload 1, .iconst 0, .iastore, .aload 0, .tableswitch 0 11 35 #[], .iload 1, .iconst 1, .iastore, .return_] 221 = true := qck_r (nn_ _) (by decide +kernel)
theorem bs_X11_layBeginning_e_198 {P : Zt → Option Zv → Prop} (K : Int → Zl → List Zv → Zt → Prop) : sx_ K P [.iastore, .aload 0, .tableswitch 0 11 36 #[], .iload 1, .iconst 0, .iastore, .aload 0, .tableswitch 0 11 37 #[], .iload 1, .iconst 0, .iastore, .aload 0, .tableswitch 0 11 35 #[], .iload 1, .iconst 1, .iastore, .return_] 221 = x_iastore (x_aload 0 (x_g1 111 236 (x_iload 1 (x_iconst 0 (x_iastore (x_aload 0 (x_g1 111 237 (x_iload 1 (x_iconst 0 (x_iastore (x_aload 0 (x_g1 111 235 (x_iload 1 (x_iconst 1 (x_iastore (x_return_ P)))))))))))))))) := ((xe_iastore).trans (congrArg (x_iastore) ((xe_aload 0).trans (congrArg (x_aload 0) ((xe_g1 (kk := 111) rfl tl_11_36).trans (congrArg (x_g1 111 236) ((xe_iload 1).trans (congrArg (x_iload 1) ((xe_iconst 0).trans (congrArg (x_iconst 0) ((xe_iastore).trans (congrArg (x_iastore) ((xe_aload 0).trans (congrArg (x_aload 0) ((xe_g1 (kk := 111) rfl tl_11_37).trans (congrArg (x_g1 111 237) ((xe_iload 1).trans (congrArg (x_iload 1) ((xe_iconst 0).trans (congrArg (x_iconst 0) ((xe_iastore).trans (congrArg (x_iastore) ((xe_aload 0).trans (congrArg (x_aload 0) ((xe_g1 (kk := 111) rfl tl_11_35).trans (congrArg (x_g1 111 235) ((xe_iload 1).trans (congrArg (x_iload 1) ((xe_iconst 1).trans (congrArg (x_iconst 1) ((xe_iastore).trans (congrArg (x_iastore) (xe_return_)))))))))))))))))))))))))))))))))
theorem bk_X11_layBeginning_e_105 : ck_ fX11 none cX11_layBeginning 105 [.iload 4, .iload 2, .if_icmp .ge 136, .aload 0, .tableswitch 0 11 45 #[], .iconst 6, .iload 3, .imul, .iload 4, .iadd, .iconst 10, .iload 3, .imul, .iload 4, .iadd, .iastore, .iinc 4 1, .goto 105] 136 = true := qck_r (nn_ _) (by decide +kernel)
theorem bs_X11_layBeginning_e_105 {P : Zt → Option Zv → Prop} (K : Int → Zl → List Zv → Zt → Prop) : sx_ K P [.iload 4, .iload 2, .if_icmp .ge 136, .aload 0, .tableswitch 0 11 45 #[], .iconst 6, .iload 3, .imul, .iload 4, .iadd, .iconst 10, .iload 3, .imul, .iload 4, .iadd, .iastore, .iinc 4 1, .goto 105] 136 = x_iload 4 (x_iload 2 (x_if_icmp .ge 136 K (x_aload 0 (x_g1 111 245 (x_iconst 6 (x_iload 3 (x_imul (x_iload 4 (x_iadd (x_iconst 10 (x_iload 3 (x_imul (x_iload 4 (x_iadd (x_iastore (x_iinc 4 1 (x_goto 105 K))))))))))))))))) := ((xe_iload 4).trans (congrArg (x_iload 4) ((xe_iload 2).trans (congrArg (x_iload 2) ((xe_if_icmp .ge 136).trans (congrArg (x_if_icmp .ge 136 K) ((xe_aload 0).trans (congrArg (x_aload 0) ((xe_g1 (kk := 111) rfl tl_11_45).trans (congrArg (x_g1 111 245) ((xe_iconst 6).trans (congrArg (x_iconst 6) ((xe_iload 3).trans (congrArg (x_iload 3) ((xe_imul).trans (congrArg (x_imul) ((xe_iload 4).trans (congrArg (x_iload 4) ((xe_iadd).trans (congrArg (x_iadd) ((xe_iconst 10).trans (congrArg (x_iconst 10) ((xe_iload 3).trans (congrArg (x_iload 3) ((xe_imul).trans (congrArg (x_imul) ((xe_iload 4).trans (congrArg (x_iload 4) ((xe_iadd).trans (congrArg (x_iadd) ((xe_iastore).trans (congrArg (x_iastore) ((xe_iinc 4 1).trans (congrArg (x_iinc 4 1) (xe_goto 105)))))))))))))))))))))))))))))))))))
theorem bk_X11_layBeginning_e_136 : ck_ fX11 none cX11_layBeginning 136 [.iinc 3 1, .goto 17] 142 = true := qck_r (nn_ _) (by decide +kernel)
theorem bs_X11_layBeginning_e_136 {P : Zt → Option Zv → Prop} (K : Int → Zl → List Zv → Zt → Prop) : sx_ K P [.iinc 3 1, .goto 17] 142 = x_iinc 3 1 (x_goto 17 K) := ((xe_iinc 3 1).trans (congrArg (x_iinc 3 1) (xe_goto 17)))
theorem bk_X11_layBeginning_e_36 : ck_ fX11 none cX11_layBeginning 36 [.iload 4, .aload 0, .tableswitch 0 11 39 #[], .iload 3, .iaload, .if_icmp .ge 102, .aload 0, .tableswitch 0 11 41 #[], .iconst 10, .iload 3, .imul, .iload 4, .iadd, .iload 4, .iload 2, .if_icmp .ge 68, .iconst 1, .goto 69] 68 = true := qck_r (nn_ _) (by decide +kernel)
theorem bs_X11_layBeginning_e_36 {P : Zt → Option Zv → Prop} (K : Int → Zl → List Zv → Zt → Prop) : sx_ K P [.iload 4, .aload 0, .tableswitch 0 11 39 #[], .iload 3, .iaload, .if_icmp .ge 102, .aload 0, .tableswitch 0 11 41 #[], .iconst 10, .iload 3, .imul, .iload 4, .iadd, .iload 4, .iload 2, .if_icmp .ge 68, .iconst 1, .goto 69] 68 = x_iload 4 (x_aload 0 (x_g1 111 239 (x_iload 3 (x_iaload (x_if_icmp .ge 102 K (x_aload 0 (x_g1 111 241 (x_iconst 10 (x_iload 3 (x_imul (x_iload 4 (x_iadd (x_iload 4 (x_iload 2 (x_if_icmp .ge 68 K (x_iconst 1 (x_goto 69 K))))))))))))))))) := ((xe_iload 4).trans (congrArg (x_iload 4) ((xe_aload 0).trans (congrArg (x_aload 0) ((xe_g1 (kk := 111) rfl tl_11_39).trans (congrArg (x_g1 111 239) ((xe_iload 3).trans (congrArg (x_iload 3) ((xe_iaload).trans (congrArg (x_iaload) ((xe_if_icmp .ge 102).trans (congrArg (x_if_icmp .ge 102 K) ((xe_aload 0).trans (congrArg (x_aload 0) ((xe_g1 (kk := 111) rfl tl_11_41).trans (congrArg (x_g1 111 241) ((xe_iconst 10).trans (congrArg (x_iconst 10) ((xe_iload 3).trans (congrArg (x_iload 3) ((xe_imul).trans (congrArg (x_imul) ((xe_iload 4).trans (congrArg (x_iload 4) ((xe_iadd).trans (congrArg (x_iadd) ((xe_iload 4).trans (congrArg (x_iload 4) ((xe_iload 2).trans (congrArg (x_iload 2) ((xe_if_icmp .ge 68).trans (congrArg (x_if_icmp .ge 68 K) ((xe_iconst 1).trans (congrArg (x_iconst 1) (xe_goto 69)))))))))))))))))))))))))))))))))))
theorem bk_X11_layBeginning_e_102 : ck_ fX11 none cX11_layBeginning 102 [.iconst 0, .istore 4] 105 = true := qck_r (nn_ _) (by decide +kernel)
theorem bs_X11_layBeginning_e_102 {P : Zt → Option Zv → Prop} (K : Int → Zl → List Zv → Zt → Prop) : sx_ K P [.iconst 0, .istore 4] 105 = x_iconst 0 (x_istore 4 (K 105)) := ((xe_iconst 0).trans (congrArg (x_iconst 0) ((xe_istore 4).trans (congrArg (x_istore 4) xe_nil))))
theorem bk_X11_layBeginning_e_68 : ck_ fX11 none cX11_layBeginning 68 [.iconst 0, .iastore, .aload 0, .tableswitch 0 11 42 #[], .iconst 10, .iload 3, .imul, .iload 4, .iadd, .iconst 0, .iastore, .aload 0, .tableswitch 0 11 43 #[], .iconst 10, .iload 3, .imul, .iload 4, .iadd, .iconst 0, .bastore, .iinc 4 1, .goto 36] 102 = true := qck_r (nn_ _) (by decide +kernel)
theorem bs_X11_layBeginning_e_68 {P : Zt → Option Zv → Prop} (K : Int → Zl → List Zv → Zt → Prop) : sx_ K P [.iconst 0, .iastore, .aload 0, .tableswitch 0 11 42 #[], .iconst 10, .iload 3, .imul, .iload 4, .iadd, .iconst 0, .iastore, .aload 0, .tableswitch 0 11 43 #[], .iconst 10, .iload 3, .imul, .iload 4, .iadd, .iconst 0, .bastore, .iinc 4 1, .goto 36] 102 = x_iconst 0 (x_iastore (x_aload 0 (x_g1 111 242 (x_iconst 10 (x_iload 3 (x_imul (x_iload 4 (x_iadd (x_iconst 0 (x_iastore (x_aload 0 (x_g1 111 243 (x_iconst 10 (x_iload 3 (x_imul (x_iload 4 (x_iadd (x_iconst 0 (x_bastore (x_iinc 4 1 (x_goto 36 K))))))))))))))))))))) := ((xe_iconst 0).trans (congrArg (x_iconst 0) ((xe_iastore).trans (congrArg (x_iastore) ((xe_aload 0).trans (congrArg (x_aload 0) ((xe_g1 (kk := 111) rfl tl_11_42).trans (congrArg (x_g1 111 242) ((xe_iconst 10).trans (congrArg (x_iconst 10) ((xe_iload 3).trans (congrArg (x_iload 3) ((xe_imul).trans (congrArg (x_imul) ((xe_iload 4).trans (congrArg (x_iload 4) ((xe_iadd).trans (congrArg (x_iadd) ((xe_iconst 0).trans (congrArg (x_iconst 0) ((xe_iastore).trans (congrArg (x_iastore) ((xe_aload 0).trans (congrArg (x_aload 0) ((xe_g1 (kk := 111) rfl tl_11_43).trans (congrArg (x_g1 111 243) ((xe_iconst 10).trans (congrArg (x_iconst 10) ((xe_iload 3).trans (congrArg (x_iload 3) ((xe_imul).trans (congrArg (x_imul) ((xe_iload 4).trans (congrArg (x_iload 4) ((xe_iadd).trans (congrArg (x_iadd) ((xe_iconst 0).trans (congrArg (x_iconst 0) ((xe_bastore).trans (congrArg (x_bastore) ((xe_iinc 4 1).trans (congrArg (x_iinc 4 1) (xe_goto 36)))))))))))))))))))))))))))))))))))))))))))
theorem bk_X11_layBeginning_e_69 : ck_ fX11 none cX11_layBeginning 69 [.iastore, .aload 0, .tableswitch 0 11 42 #[], .iconst 10, .iload 3, .imul, .iload 4, .iadd, .iconst 0, .iastore, .aload 0, .tableswitch 0 11 43 #[], .iconst 10, .iload 3, .imul, .iload 4, .iadd, .iconst 0, .bastore, .iinc 4 1, .goto 36] 102 = true := qck_r (nn_ _) (by decide +kernel)
theorem bs_X11_layBeginning_e_69 {P : Zt → Option Zv → Prop} (K : Int → Zl → List Zv → Zt → Prop) : sx_ K P [.iastore, .aload 0, .tableswitch 0 11 42 #[], .iconst 10, .iload 3, .imul, .iload 4, .iadd, .iconst 0, .iastore, .aload 0, .tableswitch 0 11 43 #[], .iconst 10, .iload 3, .imul, .iload 4, .iadd, .iconst 0, .bastore, .iinc 4 1, .goto 36] 102 = x_iastore (x_aload 0 (x_g1 111 242 (x_iconst 10 (x_iload 3 (x_imul (x_iload 4 (x_iadd (x_iconst 0 (x_iastore (x_aload 0 (x_g1 111 243 (x_iconst 10 (x_iload 3 (x_imul (x_iload 4 (x_iadd (x_iconst 0 (x_bastore (x_iinc 4 1 (x_goto 36 K)))))))))))))))))))) := ((xe_iastore).trans (congrArg (x_iastore) ((xe_aload 0).trans (congrArg (x_aload 0) ((xe_g1 (kk := 111) rfl tl_11_42).trans (congrArg (x_g1 111 242) ((xe_iconst 10).trans (congrArg (x_iconst 10) ((xe_iload 3).trans (congrArg (x_iload 3) ((xe_imul).trans (congrArg (x_imul) ((xe_iload 4).trans (congrArg (x_iload 4) ((xe_iadd).trans (congrArg (x_iadd) ((xe_iconst 0).trans (congrArg (x_iconst 0) ((xe_iastore).trans (congrArg (x_iastore) ((xe_aload 0).trans (congrArg (x_aload 0) ((xe_g1 (kk := 111) rfl tl_11_43).trans (congrArg (x_g1 111 243) ((xe_iconst 10).trans (congrArg (x_iconst 10) ((xe_iload 3).trans (congrArg (x_iload 3) ((xe_imul).trans (congrArg (x_imul) ((xe_iload 4).trans (congrArg (x_iload 4) ((xe_iadd).trans (congrArg (x_iadd) ((xe_iconst 0).trans (congrArg (x_iconst 0) ((xe_bastore).trans (congrArg (x_bastore) ((xe_iinc 4 1).trans (congrArg (x_iinc 4 1) (xe_goto 36)))))))))))))))))))))))))))))))))))))))))
theorem bk_X11_layBeginning_e_17 : ck_ fX11 none cX11_layBeginning 17 [.iload 3, .iconst 2, .iload 1, .imul, .iconst 1, .iadd, .if_icmp .gt 142, .aload 0, .tableswitch 0 11 44 #[], .iload 3, .iload 2, .iastore, .iconst 0, .istore 4] 36 = true := qck_r (nn_ _) (by decide +kernel)
theorem bs_X11_layBeginning_e_17 {P : Zt → Option Zv → Prop} (K : Int → Zl → List Zv → Zt → Prop) : sx_ K P [.iload 3, .iconst 2, .iload 1, .imul, .iconst 1, .iadd, .if_icmp .gt 142, .aload 0, .tableswitch 0 11 44 #[], .iload 3, .iload 2, .iastore, .iconst 0, .istore 4] 36 = x_iload 3 (x_iconst 2 (x_iload 1 (x_imul (x_iconst 1 (x_iadd (x_if_icmp .gt 142 K (x_aload 0 (x_g1 111 244 (x_iload 3 (x_iload 2 (x_iastore (x_iconst 0 (x_istore 4 (K 36)))))))))))))) := ((xe_iload 3).trans (congrArg (x_iload 3) ((xe_iconst 2).trans (congrArg (x_iconst 2) ((xe_iload 1).trans (congrArg (x_iload 1) ((xe_imul).trans (congrArg (x_imul) ((xe_iconst 1).trans (congrArg (x_iconst 1) ((xe_iadd).trans (congrArg (x_iadd) ((xe_if_icmp .gt 142).trans (congrArg (x_if_icmp .gt 142 K) ((xe_aload 0).trans (congrArg (x_aload 0) ((xe_g1 (kk := 111) rfl tl_11_44).trans (congrArg (x_g1 111 244) ((xe_iload 3).trans (congrArg (x_iload 3) ((xe_iload 2).trans (congrArg (x_iload 2) ((xe_iastore).trans (congrArg (x_iastore) ((xe_iconst 0).trans (congrArg (x_iconst 0) ((xe_istore 4).trans (congrArg (x_istore 4) xe_nil))))))))))))))))))))))))))))
theorem bk_X11_layBeginning_e_142 : ck_ fX11 none cX11_layBeginning 142 [.iconst 0, .istore 3] 144 = true := qck_r (nn_ _) (by decide +kernel)
theorem bs_X11_layBeginning_e_142 {P : Zt → Option Zv → Prop} (K : Int → Zl → List Zv → Zt → Prop) : sx_ K P [.iconst 0, .istore 3] 144 = x_iconst 0 (x_istore 3 (K 144)) := ((xe_iconst 0).trans (congrArg (x_iconst 0) ((xe_istore 3).trans (congrArg (x_istore 3) xe_nil))))
theorem bk_X11_layBeginning_e_0 : ck_ fX11 none cX11_layBeginning 0 [.aload 0, .aload 0, .tableswitch 0 11 30 #[], .iload 1, .iaload, .iconst 9] 9 = true := qck_r (nn_ _) (by decide +kernel)
theorem bs_X11_layBeginning_e_0 {P : Zt → Option Zv → Prop} (K : Int → Zl → List Zv → Zt → Prop) : sx_ K P [.aload 0, .aload 0, .tableswitch 0 11 30 #[], .iload 1, .iaload, .iconst 9] 9 = x_aload 0 (x_aload 0 (x_g1 111 230 (x_iload 1 (x_iaload (x_iconst 9 (K 9)))))) := ((xe_aload 0).trans (congrArg (x_aload 0) ((xe_aload 0).trans (congrArg (x_aload 0) ((xe_g1 (kk := 111) rfl tl_11_30).trans (congrArg (x_g1 111 230) ((xe_iload 1).trans (congrArg (x_iload 1) ((xe_iaload).trans (congrArg (x_iaload) ((xe_iconst 9).trans (congrArg (x_iconst 9) xe_nil))))))))))))
theorem bk_X11_layBeginning_e_12 : ck_ fX11 none cX11_layBeginning 12 [.istore 2, .iconst 2, .iload 1, .imul, .istore 3] 17 = true := qck_r (nn_ _) (by decide +kernel)
theorem bs_X11_layBeginning_e_12 {P : Zt → Option Zv → Prop} (K : Int → Zl → List Zv → Zt → Prop) : sx_ K P [.istore 2, .iconst 2, .iload 1, .imul, .istore 3] 17 = x_istore 2 (x_iconst 2 (x_iload 1 (x_imul (x_istore 3 (K 17))))) := ((xe_istore 2).trans (congrArg (x_istore 2) ((xe_iconst 2).trans (congrArg (x_iconst 2) ((xe_iload 1).trans (congrArg (x_iload 1) ((xe_imul).trans (congrArg (x_imul) ((xe_istore 3).trans (congrArg (x_istore 3) xe_nil))))))))))
abbrev po_X11_layBeginning_e (T : Zt) (m : Int) : Zt → Option Zv → Prop := fun T' r => r = none ∧ fr_ [(244, []), (241, []), (242, []), (243, []), (245, []), (246, []), (236, []), (237, []), (235, [])] T T' ∧ (FM_ T' ∧ SO_ T T' m ∧ SB1_ T' m 9 ∧ (∀ j, 2 * m ≤ j → j < 2 * m + 2 → T' 244 0 j = T 205 0 (23 * T 230 0 m + 9)) ∧ (∀ j, 20 * m ≤ j → j < 20 * m + 20 → j % 10 < T 239 0 (j / 10) → (j % 10 < T 205 0 (23 * T 230 0 m + 9) → T' 241 0 j = 1) ∧ (T 205 0 (23 * T 230 0 m + 9) ≤ j % 10 → T' 241 0 j = 0) ∧ T' 242 0 j = 0 ∧ T' 243 0 j = 0) ∧ (∀ j, 12 * m ≤ j → j < 12 * m + 12 → j % 6 < T 205 0 (23 * T 230 0 m + 9) → T' 245 0 j = 10 * (j / 6) + j % 6) ∧ (∀ j, 8 * m ≤ j → j < 8 * m + 8 → j ≠ 8 * m + 5 → T' 246 0 j = 0) ∧ ((T 205 0 (23 * T 230 0 m + 0) = 3 → T' 246 0 (8 * m + 5) = 1) ∧ (T 205 0 (23 * T 230 0 m + 0) ≠ 3 → T' 246 0 (8 * m + 5) = 0)) ∧ T' 236 0 m = 0 ∧ T' 237 0 m = 0 ∧ T' 235 0 m = 1 ∧ ro9_ T T' m)
set_option maxHeartbeats 4000000 in
theorem ct_X11_layBeginning_e {T : Zt} {m : Int} (h1 : 0 ≤ m ∧ m < T 111 0 29) (hmc : MC_ T) (hri : RI_ T) (hfm : FM_ T) (hzs : ZS_ T) : Ct_ yX11_layBeginning zX11_layBeginning T [vR 111 0, vI m] (po_X11_layBeginning_e T m) := by
  refine ct_of pn_11 rfl rfl (Nat.le_of_ble_eq_true rfl) (fun hT hav => ?_)
  have hr_m : -2147483648 ≤ m ∧ m ≤ 2147483647 := hav (vI m) (List.mem_cons_of_mem _ List.mem_cons_self)
  have hz : zX11_layBeginning.2.2.2.1 = some .boolean → ∀ (T' : Zt) (x : Int), po_X11_layBeginning_e T m T' (some (vI x)) → 0 ≤ x ∧ x ≤ 1 := fun h => by cases h
  have hb_29 : 0 ≤ T 111 0 29 ∧ T 111 0 29 ≤ 400 := bd_f hT 111 29 tl_11_29 0
  have hb_6 : 0 ≤ T 111 0 6 ∧ T 111 0 6 ≤ 4 := bd_f hT 111 6 tl_11_6 0
  have hcm := hmc m (by omega) (by omega)
  have hcb : 0 ≤ T 230 0 m ∧ T 230 0 m ≤ 3 := bd_a hT 230 (by decide +kernel : ta_ 230 = some (1, some 400, 0, 3)) 0 (by omega)
  have hr9 : (1 : Int) ≤ T 205 0 (23 * T 230 0 m + 9) ∧ T 205 0 (23 * T 230 0 m + 9) ≤ (6 : Int) := hri (T 230 0 m) 9 (by omega) (by omega) (by omega) (by omega)
  show J_ zX11_layBeginning T (po_X11_layBeginning_e T m) 0 0 0 [some (vR 111 0), some (vI m), none, none, none] [] T
  have c_144 : ∀ (nn : Nat) (i : Int) (T4 : Zt), ((8 - i).toNat) ≤ nn → (fr_ [(244, []), (241, []), (242, []), (243, []), (245, []), (246, [])] T T4) → (FM_ T4) → (SO_ T T4 m) → (ro9_ T T4 m) → (∀ j, 2 * m ≤ j → j < 2 * m + 2 → T4 244 0 j = T 205 0 (23 * T 230 0 m + 9)) → (∀ j, 20 * m ≤ j → j < 20 * m + 20 → j % 10 < T 239 0 (j / 10) → (j % 10 < T 205 0 (23 * T 230 0 m + 9) → T4 241 0 j = 1) ∧ (T 205 0 (23 * T 230 0 m + 9) ≤ j % 10 → T4 241 0 j = 0) ∧ T4 242 0 j = 0 ∧ T4 243 0 j = 0) → (∀ j, 12 * m ≤ j → j < 12 * m + 12 → j % 6 < T 205 0 (23 * T 230 0 m + 9) → T4 245 0 j = 10 * (j / 6) + j % 6) → (∀ j, 8 * m ≤ j → j < 8 * m + i → T4 246 0 j = 0) → (0 ≤ i ∧ i ≤ 8) → J_ zX11_layBeginning T (po_X11_layBeginning_e T m) 0 0 144 [some (vR 111 0), some (vI m), none, some (vI i), none] [] T4 := by
    intro nn
    induction nn using Nat.strongRecOn with
    | _ nn ih_144 =>
      intro i T4 hm_144 hf_144 fm4 so4 ro4 u4 w4 x4 l4 i4
      replace hm_144 := fun (_ : Unit) => hm_144
      refine j_blx (F := fX11) tb_X11 (nn_ _) bk_X11_layBeginning_e_144 bs_X11_layBeginning_e_144 hz (fun K hK => ?_)
      refine And.intro (fun c1 => ?_) (fun c1 => ?_)
      · refine hK 168 _ [] T4 ?_
        refine j_blx (F := fX11) tb_X11 (nn_ _) bk_X11_layBeginning_e_168 bs_X11_layBeginning_e_168 hz (fun K hK => ?_)
        refine rg_i (by omega) ?_
        refine rg_i (by omega) ?_
        refine ix_i (by omega) ?_
        intro b2 b2b
        have e3 : T4 230 0 m = T 230 0 m := hf_144 230 0 m rfl
        rw [e3] at b2 b2b ⊢
        refine hK 186 _ [vI 0, vI (T 230 0 m), vR 111 0, vI ((8 * m) + 5), vR 246 0] T4 ?_
        refine j_callV (y := yX11_rule0) (Yc := zX11_rule0) (rest := [vI ((8 * m) + 5), vR 246 0]) [vI (T 230 0 m), vI 0] (ct_X11_rule0 (T := T4) (by omega) (by omega)) cl_X11_321 (qd_c (by decide +kernel)) (nn_ _) rfl (rf_of rfl) (Nat.le_of_ble_eq_true rfl) (Nat.le_of_ble_eq_true rfl) (Nat.le_of_ble_eq_true rfl) rfl ?_
        rintro _ _ ⟨rfl, rfl⟩
        have e4 : T4 205 0 (23 * (T 230 0 m) + 0) = T 205 0 (23 * (T 230 0 m) + 0) := hf_144 205 0 (23 * (T 230 0 m) + 0) rfl
        rw [e4]
        show J_ zX11_layBeginning T (po_X11_layBeginning_e T m) 0 0 189 _ [vI (T 205 0 (23 * (T 230 0 m) + 0)), vI ((8 * m) + 5), vR 246 0] T4
        refine j_blx (F := fX11) tb_X11 (nn_ _) bk_X11_layBeginning_e_189 bs_X11_layBeginning_e_189 hz (fun K hK => ?_)
        refine And.intro (fun c5 => ?_) (fun c5 => ?_)
        · refine hK 197 _ [vI ((8 * m) + 5), vR 246 0] T4 ?_
          refine j_blx (F := fX11) tb_X11 (nn_ _) bk_X11_layBeginning_e_197 bs_X11_layBeginning_e_197 hz (fun K hK => ?_)
          refine iy_i (by omega) (by omega) ?_
          refine x_nm (fun U6 hU6 => ?_)
          have e7 := up_f hU6
          refine iy_i (by omega) (by omega) ?_
          refine x_nm (fun U8 hU8 => ?_)
          have e9 := up_f hU8
          refine iy_i (by omega) (by omega) ?_
          refine x_nm (fun U10 hU10 => ?_)
          have e11 := up_f hU10
          refine iy_i (by omega) (by omega) ?_
          refine x_nm (fun U12 hU12 => ?_)
          have e13 := up_f hU12
          refine (show po_X11_layBeginning_e T m U12 (none) from ?_)
          have e14 : U12 236 0 m = 0 := (up_k hU12 (by exact Nat.ne_of_beq_eq_false rfl) 0 m).trans ((up_k hU10 (by exact Nat.ne_of_beq_eq_false rfl) 0 m).trans (up_f hU8))
          have e15 : U12 237 0 m = 0 := (up_k hU12 (by exact Nat.ne_of_beq_eq_false rfl) 0 m).trans (up_f hU10)
          have e16 : U12 235 0 m = 1 := up_f hU12
          have e17 : U12 236 0 m = 0 := (up_k hU12 (by exact Nat.ne_of_beq_eq_false rfl) 0 m).trans ((up_k hU10 (by exact Nat.ne_of_beq_eq_false rfl) 0 m).trans (up_f hU8))
          have e18 : U12 237 0 m = 0 := (up_k hU12 (by exact Nat.ne_of_beq_eq_false rfl) 0 m).trans (up_f hU10)
          have e19 : U12 235 0 m = 1 := up_f hU12
          have so5 : SO_ T U12 m := so_f (ws := [(235, [])]) (so_1 (so_0 (so_f (ws := [(246, [])]) (so4) (fr_u (fr_0 _ _) hU6 rfl) ⟨fun _ => rfl, fun _ => rfl, fun _ => rfl⟩) hU8) hU10) (fr_u (fr_0 _ _) hU12 rfl) ⟨fun _ => rfl, fun _ => rfl, fun _ => rfl⟩
          have y5 : ∀ j, 20 * m ≤ j → j < 20 * m + 20 → U12 242 0 j = 0 := by
            intro j a b
            by_cases c : j % 10 < T 239 0 (j / 10)
            · rw [(up_k hU12 (by exact Nat.ne_of_beq_eq_false rfl) 0 j).trans ((up_k hU10 (by exact Nat.ne_of_beq_eq_false rfl) 0 j).trans ((up_k hU8 (by exact Nat.ne_of_beq_eq_false rfl) 0 j).trans (up_k hU6 (by exact Nat.ne_of_beq_eq_false rfl) 0 j)))]; exact (w4 j a b c).2.2.1
            · rw [so5.2 j (fun w => c w.2.2)]; exact hzs j (by omega) (by omega) (by omega)
          have d5 : U12 246 0 (8 * m + 5) = 0 := ((up_k hU12 (by exact Nat.ne_of_beq_eq_false rfl) 0 (8 * m + 5)).trans ((up_k hU10 (by exact Nat.ne_of_beq_eq_false rfl) 0 (8 * m + 5)).trans (up_k hU8 (by exact Nat.ne_of_beq_eq_false rfl) 0 (8 * m + 5)))).trans (up_f hU6)
          refine ⟨rfl, fr_u (fr_u (fr_u (fr_u (fr_t (fr_0 _ _) (fr_s hf_144 rfl)) hU6 rfl) hU8 rfl) hU10 rfl) hU12 rfl, fm_4 (FM__f (ws := [(237, [])]) (FM__f (ws := [(236, [])]) (FM__f (ws := [(246, [])]) (fm4) (fr_u (fr_0 _ _) hU6 rfl) ⟨fun _ => rfl, fun _ => rfl, trivial⟩) (fr_u (fr_0 _ _) hU8 rfl) ⟨fun _ => rfl, fun _ => rfl, trivial⟩) (fr_u (fr_0 _ _) hU10 rfl) ⟨fun _ => rfl, fun _ => rfl, trivial⟩) hU12 (fun s a b => by rw [(up_k hU10 (by exact Nat.ne_of_beq_eq_false rfl) 0 (2 * m + s)).trans ((up_k hU8 (by exact Nat.ne_of_beq_eq_false rfl) 0 (2 * m + s)).trans (up_k hU6 (by exact Nat.ne_of_beq_eq_false rfl) 0 (2 * m + s))), u4 _ (by omega) (by omega)]; omega), so5, ⟨by omega, by omega, fun j a b => by rw [y5 j a b]; decide⟩, fun j a b => ?_, fun j a b c => ?_, fun j a b c => ?_, fun j a b c => ?_, ⟨fun z => by omega, fun z => by omega⟩, by omega, by omega, by omega, ro_u (m := m) (k := 103) (j := 3) (ro_u (m := m) (k := 468) (j := 1) (ro_u (m := m) (k := 468) (j := 0) (ro_l (ro4) hU6 (by omega)) hU8 rfl rfl (by show m = _; omega)) hU10 rfl rfl (by show m = _; omega)) hU12 rfl rfl (by show m = _; omega)⟩
          · rw [(up_k hU12 (by exact Nat.ne_of_beq_eq_false rfl) 0 j).trans ((up_k hU10 (by exact Nat.ne_of_beq_eq_false rfl) 0 j).trans ((up_k hU8 (by exact Nat.ne_of_beq_eq_false rfl) 0 j).trans (up_k hU6 (by exact Nat.ne_of_beq_eq_false rfl) 0 j)))]; exact u4 j a b
          · rw [(up_k hU12 (by exact Nat.ne_of_beq_eq_false rfl) 0 j).trans ((up_k hU10 (by exact Nat.ne_of_beq_eq_false rfl) 0 j).trans ((up_k hU8 (by exact Nat.ne_of_beq_eq_false rfl) 0 j).trans (up_k hU6 (by exact Nat.ne_of_beq_eq_false rfl) 0 j))), (up_k hU12 (by exact Nat.ne_of_beq_eq_false rfl) 0 j).trans ((up_k hU10 (by exact Nat.ne_of_beq_eq_false rfl) 0 j).trans ((up_k hU8 (by exact Nat.ne_of_beq_eq_false rfl) 0 j).trans (up_k hU6 (by exact Nat.ne_of_beq_eq_false rfl) 0 j))), (up_k hU12 (by exact Nat.ne_of_beq_eq_false rfl) 0 j).trans ((up_k hU10 (by exact Nat.ne_of_beq_eq_false rfl) 0 j).trans ((up_k hU8 (by exact Nat.ne_of_beq_eq_false rfl) 0 j).trans (up_k hU6 (by exact Nat.ne_of_beq_eq_false rfl) 0 j)))]; exact w4 j a b c
          · rw [(up_k hU12 (by exact Nat.ne_of_beq_eq_false rfl) 0 j).trans ((up_k hU10 (by exact Nat.ne_of_beq_eq_false rfl) 0 j).trans ((up_k hU8 (by exact Nat.ne_of_beq_eq_false rfl) 0 j).trans (up_k hU6 (by exact Nat.ne_of_beq_eq_false rfl) 0 j)))]; exact x4 j a b c
          · rw [(up_k hU12 (by exact Nat.ne_of_beq_eq_false rfl) 0 j).trans ((up_k hU10 (by exact Nat.ne_of_beq_eq_false rfl) 0 j).trans (up_k hU8 (by exact Nat.ne_of_beq_eq_false rfl) 0 j)), up_g hU6 (fun y => c y.2.2)]; exact l4 j a (by omega)
        · refine hK 198 _ [vI 1, vI ((8 * m) + 5), vR 246 0] T4 ?_
          refine j_blx (F := fX11) tb_X11 (nn_ _) bk_X11_layBeginning_e_198 bs_X11_layBeginning_e_198 hz (fun K hK => ?_)
          refine iy_i (by omega) (by omega) ?_
          refine x_nm (fun U20 hU20 => ?_)
          have e21 := up_f hU20
          refine iy_i (by omega) (by omega) ?_
          refine x_nm (fun U22 hU22 => ?_)
          have e23 := up_f hU22
          refine iy_i (by omega) (by omega) ?_
          refine x_nm (fun U24 hU24 => ?_)
          have e25 := up_f hU24
          refine iy_i (by omega) (by omega) ?_
          refine x_nm (fun U26 hU26 => ?_)
          have e27 := up_f hU26
          refine (show po_X11_layBeginning_e T m U26 (none) from ?_)
          have e28 : U26 236 0 m = 0 := (up_k hU26 (by exact Nat.ne_of_beq_eq_false rfl) 0 m).trans ((up_k hU24 (by exact Nat.ne_of_beq_eq_false rfl) 0 m).trans (up_f hU22))
          have e29 : U26 237 0 m = 0 := (up_k hU26 (by exact Nat.ne_of_beq_eq_false rfl) 0 m).trans (up_f hU24)
          have e30 : U26 235 0 m = 1 := up_f hU26
          have e31 : U26 236 0 m = 0 := (up_k hU26 (by exact Nat.ne_of_beq_eq_false rfl) 0 m).trans ((up_k hU24 (by exact Nat.ne_of_beq_eq_false rfl) 0 m).trans (up_f hU22))
          have e32 : U26 237 0 m = 0 := (up_k hU26 (by exact Nat.ne_of_beq_eq_false rfl) 0 m).trans (up_f hU24)
          have e33 : U26 235 0 m = 1 := up_f hU26
          have so5 : SO_ T U26 m := so_f (ws := [(235, [])]) (so_1 (so_0 (so_f (ws := [(246, [])]) (so4) (fr_u (fr_0 _ _) hU20 rfl) ⟨fun _ => rfl, fun _ => rfl, fun _ => rfl⟩) hU22) hU24) (fr_u (fr_0 _ _) hU26 rfl) ⟨fun _ => rfl, fun _ => rfl, fun _ => rfl⟩
          have y5 : ∀ j, 20 * m ≤ j → j < 20 * m + 20 → U26 242 0 j = 0 := by
            intro j a b
            by_cases c : j % 10 < T 239 0 (j / 10)
            · rw [(up_k hU26 (by exact Nat.ne_of_beq_eq_false rfl) 0 j).trans ((up_k hU24 (by exact Nat.ne_of_beq_eq_false rfl) 0 j).trans ((up_k hU22 (by exact Nat.ne_of_beq_eq_false rfl) 0 j).trans (up_k hU20 (by exact Nat.ne_of_beq_eq_false rfl) 0 j)))]; exact (w4 j a b c).2.2.1
            · rw [so5.2 j (fun w => c w.2.2)]; exact hzs j (by omega) (by omega) (by omega)
          have d5 : U26 246 0 (8 * m + 5) = 1 := ((up_k hU26 (by exact Nat.ne_of_beq_eq_false rfl) 0 (8 * m + 5)).trans ((up_k hU24 (by exact Nat.ne_of_beq_eq_false rfl) 0 (8 * m + 5)).trans (up_k hU22 (by exact Nat.ne_of_beq_eq_false rfl) 0 (8 * m + 5)))).trans (up_f hU20)
          refine ⟨rfl, fr_u (fr_u (fr_u (fr_u (fr_t (fr_0 _ _) (fr_s hf_144 rfl)) hU20 rfl) hU22 rfl) hU24 rfl) hU26 rfl, fm_4 (FM__f (ws := [(237, [])]) (FM__f (ws := [(236, [])]) (FM__f (ws := [(246, [])]) (fm4) (fr_u (fr_0 _ _) hU20 rfl) ⟨fun _ => rfl, fun _ => rfl, trivial⟩) (fr_u (fr_0 _ _) hU22 rfl) ⟨fun _ => rfl, fun _ => rfl, trivial⟩) (fr_u (fr_0 _ _) hU24 rfl) ⟨fun _ => rfl, fun _ => rfl, trivial⟩) hU26 (fun s a b => by rw [(up_k hU24 (by exact Nat.ne_of_beq_eq_false rfl) 0 (2 * m + s)).trans ((up_k hU22 (by exact Nat.ne_of_beq_eq_false rfl) 0 (2 * m + s)).trans (up_k hU20 (by exact Nat.ne_of_beq_eq_false rfl) 0 (2 * m + s))), u4 _ (by omega) (by omega)]; omega), so5, ⟨by omega, by omega, fun j a b => by rw [y5 j a b]; decide⟩, fun j a b => ?_, fun j a b c => ?_, fun j a b c => ?_, fun j a b c => ?_, ⟨fun z => by omega, fun z => by omega⟩, by omega, by omega, by omega, ro_u (m := m) (k := 103) (j := 3) (ro_u (m := m) (k := 468) (j := 1) (ro_u (m := m) (k := 468) (j := 0) (ro_l (ro4) hU20 (by omega)) hU22 rfl rfl (by show m = _; omega)) hU24 rfl rfl (by show m = _; omega)) hU26 rfl rfl (by show m = _; omega)⟩
          · rw [(up_k hU26 (by exact Nat.ne_of_beq_eq_false rfl) 0 j).trans ((up_k hU24 (by exact Nat.ne_of_beq_eq_false rfl) 0 j).trans ((up_k hU22 (by exact Nat.ne_of_beq_eq_false rfl) 0 j).trans (up_k hU20 (by exact Nat.ne_of_beq_eq_false rfl) 0 j)))]; exact u4 j a b
          · rw [(up_k hU26 (by exact Nat.ne_of_beq_eq_false rfl) 0 j).trans ((up_k hU24 (by exact Nat.ne_of_beq_eq_false rfl) 0 j).trans ((up_k hU22 (by exact Nat.ne_of_beq_eq_false rfl) 0 j).trans (up_k hU20 (by exact Nat.ne_of_beq_eq_false rfl) 0 j))), (up_k hU26 (by exact Nat.ne_of_beq_eq_false rfl) 0 j).trans ((up_k hU24 (by exact Nat.ne_of_beq_eq_false rfl) 0 j).trans ((up_k hU22 (by exact Nat.ne_of_beq_eq_false rfl) 0 j).trans (up_k hU20 (by exact Nat.ne_of_beq_eq_false rfl) 0 j))), (up_k hU26 (by exact Nat.ne_of_beq_eq_false rfl) 0 j).trans ((up_k hU24 (by exact Nat.ne_of_beq_eq_false rfl) 0 j).trans ((up_k hU22 (by exact Nat.ne_of_beq_eq_false rfl) 0 j).trans (up_k hU20 (by exact Nat.ne_of_beq_eq_false rfl) 0 j)))]; exact w4 j a b c
          · rw [(up_k hU26 (by exact Nat.ne_of_beq_eq_false rfl) 0 j).trans ((up_k hU24 (by exact Nat.ne_of_beq_eq_false rfl) 0 j).trans ((up_k hU22 (by exact Nat.ne_of_beq_eq_false rfl) 0 j).trans (up_k hU20 (by exact Nat.ne_of_beq_eq_false rfl) 0 j)))]; exact x4 j a b c
          · rw [(up_k hU26 (by exact Nat.ne_of_beq_eq_false rfl) 0 j).trans ((up_k hU24 (by exact Nat.ne_of_beq_eq_false rfl) 0 j).trans (up_k hU22 (by exact Nat.ne_of_beq_eq_false rfl) 0 j)), up_g hU20 (fun y => c y.2.2)]; exact l4 j a (by omega)
      · refine rg_i (by omega) ?_
        refine rg_i (by omega) ?_
        refine iy_i (by omega) (by omega) ?_
        refine x_nm (fun U34 hU34 => ?_)
        have e35 := up_f hU34
        refine rg_i (by omega) ?_
        refine hK 144 [some (vR 111 0), some (vI m), none, some (vI (i + 1)), none] [] U34 ?_
        refine ih_144 _ ?_ (i + 1) U34 (Nat.le_refl _) ?_ ?_ ?_ ?_ ?_ ?_ ?_ ?_ ?_
        · have hm_144 := hm_144 (); omega
        · exact fr_u (fr_t (fr_0 _ _) (fr_s hf_144 rfl)) hU34 rfl
        · exact FM__f (ws := [(246, [])]) (fm4) (fr_u (fr_0 _ _) hU34 rfl) ⟨fun _ => rfl, fun _ => rfl, trivial⟩
        · exact so_f (ws := [(246, [])]) (so4) (fr_u (fr_0 _ _) hU34 rfl) ⟨fun _ => rfl, fun _ => rfl, fun _ => rfl⟩
        · exact ro_l (ro4) hU34 (by omega)
        · intro j a b
          rw [up_k hU34 (by exact Nat.ne_of_beq_eq_false rfl) 0 j]
          exact u4 j a (by omega)
        · intro j a b c
          rw [up_k hU34 (by exact Nat.ne_of_beq_eq_false rfl) 0 j, up_k hU34 (by exact Nat.ne_of_beq_eq_false rfl) 0 j, up_k hU34 (by exact Nat.ne_of_beq_eq_false rfl) 0 j]
          exact w4 j a (by omega) c
        · intro j a b c
          rw [up_k hU34 (by exact Nat.ne_of_beq_eq_false rfl) 0 j]
          exact x4 j a (by omega) c
        · intro j a b
          by_cases z : j = (8 * m) + i
          · rw [z, up_f hU34]
          · rw [up_g hU34 (fun y => z y.2.2)]; exact l4 j a (by omega)
        · omega
  have c_17 : ∀ (nn : Nat) (sh : Int) (T1 : Zt), ((2 * m + 2 - sh).toNat) ≤ nn → (fr_ [(244, []), (241, []), (242, []), (243, []), (245, [])] T T1) → (FM_ T1) → (SO_ T T1 m) → (ro9_ T T1 m) → (∀ j, 2 * m ≤ j → j < sh → T1 244 0 j = T 205 0 (23 * T 230 0 m + 9)) → (∀ j, 20 * m ≤ j → j < 10 * sh → j % 10 < T 239 0 (j / 10) → (j % 10 < T 205 0 (23 * T 230 0 m + 9) → T1 241 0 j = 1) ∧ (T 205 0 (23 * T 230 0 m + 9) ≤ j % 10 → T1 241 0 j = 0) ∧ T1 242 0 j = 0 ∧ T1 243 0 j = 0) → (∀ j, 12 * m ≤ j → j < 6 * sh → j % 6 < T 205 0 (23 * T 230 0 m + 9) → T1 245 0 j = 10 * (j / 6) + j % 6) → (2 * m ≤ sh ∧ sh ≤ 2 * m + 2) → J_ zX11_layBeginning T (po_X11_layBeginning_e T m) 0 0 17 [some (vR 111 0), some (vI m), some (vI (T 205 0 (23 * T 230 0 m + 9))), some (vI sh), none] [] T1 := by
    intro nn
    induction nn using Nat.strongRecOn with
    | _ nn ih_17 =>
      intro sh T1 hm_17 hf_17 fm1 so1 ro1 u1 w1 x1 i1
      replace hm_17 := fun (_ : Unit) => hm_17
      have hsh : 0 ≤ T 239 0 sh ∧ T 239 0 sh ≤ 10 := bd_a hT 239 (by decide +kernel : ta_ 239 = some (1, some 800, 0, 10)) 0 (by omega)
      have c_105 : ∀ (nn : Nat) (k : Int) (T3 : Zt), ((6 - k).toNat) ≤ nn → (fr_ [(244, []), (241, []), (242, []), (243, []), (245, [])] T T3) → (FM_ T3) → (SO_ T T3 m) → (ro9_ T T3 m) → (∀ j, 2 * m ≤ j → j < sh + 1 → T3 244 0 j = T 205 0 (23 * T 230 0 m + 9)) → (∀ j, 20 * m ≤ j → j < 10 * sh + 10 → j % 10 < T 239 0 (j / 10) → (j % 10 < T 205 0 (23 * T 230 0 m + 9) → T3 241 0 j = 1) ∧ (T 205 0 (23 * T 230 0 m + 9) ≤ j % 10 → T3 241 0 j = 0) ∧ T3 242 0 j = 0 ∧ T3 243 0 j = 0) → (∀ j, 12 * m ≤ j → j < 6 * sh + k → j % 6 < T 205 0 (23 * T 230 0 m + 9) → T3 245 0 j = 10 * (j / 6) + j % 6) → (0 ≤ k ∧ sh ≤ 2 * m + 1 ∧ k ≤ T 205 0 (23 * T 230 0 m + 9)) → J_ zX11_layBeginning T (po_X11_layBeginning_e T m) 0 0 105 [some (vR 111 0), some (vI m), some (vI (T 205 0 (23 * T 230 0 m + 9))), some (vI sh), some (vI k)] [] T3 := by
        intro nn
        induction nn using Nat.strongRecOn with
        | _ nn ih_105 =>
          intro k T3 hm_105 hf_105 fm3 so3 ro3 u3 w3 x3 i3
          replace hm_105 := fun (_ : Unit) => hm_105
          refine j_blx (F := fX11) tb_X11 (nn_ _) bk_X11_layBeginning_e_105 bs_X11_layBeginning_e_105 hz (fun K hK => ?_)
          refine And.intro (fun c36 => ?_) (fun c36 => ?_)
          · refine hK 136 _ [] T3 ?_
            refine j_blx (F := fX11) tb_X11 (nn_ _) bk_X11_layBeginning_e_136 bs_X11_layBeginning_e_136 hz (fun K hK => ?_)
            refine rg_i (by omega) ?_
            refine hK 17 [some (vR 111 0), some (vI m), some (vI (T 205 0 (23 * T 230 0 m + 9))), some (vI (sh + 1)), some (vI k)] [] T3 ?_
            refine j_drq [some (vR 111 0), some (vI m), some (vI (T 205 0 (23 * T 230 0 m + 9))), some (vI (sh + 1)), none] (drq_s (drq_s (drq_s (drq_s (drq_n drq_0))))) ?_
            refine ih_17 _ ?_ (sh + 1) T3 (Nat.le_refl _) ?_ ?_ ?_ ?_ ?_ ?_ ?_ ?_
            · have hm_17 := hm_17 (); omega
            · exact fr_t (fr_0 _ _) (fr_s hf_105 rfl)
            · exact fm3
            · exact so3
            · exact ro3
            · intro j a b
              exact u3 j a (by omega)
            · intro j a b c
              exact w3 j a (by omega) c
            · intro j a b c
              exact x3 j a (by omega) c
            · omega
          · refine rg_i (by omega) ?_
            refine rg_i (by omega) ?_
            refine rg_i (by omega) ?_
            refine rg_i (by omega) ?_
            refine iy_i (by omega) (by omega) ?_
            refine x_nm (fun U37 hU37 => ?_)
            have e38 := up_f hU37
            refine rg_i (by omega) ?_
            refine hK 105 [some (vR 111 0), some (vI m), some (vI (T 205 0 (23 * T 230 0 m + 9))), some (vI sh), some (vI (k + 1))] [] U37 ?_
            refine ih_105 _ ?_ (k + 1) U37 (Nat.le_refl _) ?_ ?_ ?_ ?_ ?_ ?_ ?_ ?_
            · have hm_105 := hm_105 (); omega
            · exact fr_u (fr_t (fr_0 _ _) (fr_s hf_105 rfl)) hU37 rfl
            · exact FM__f (ws := [(245, [])]) (fm3) (fr_u (fr_0 _ _) hU37 rfl) ⟨fun _ => rfl, fun _ => rfl, trivial⟩
            · exact so_f (ws := [(245, [])]) (so3) (fr_u (fr_0 _ _) hU37 rfl) ⟨fun _ => rfl, fun _ => rfl, fun _ => rfl⟩
            · exact ro_u (m := m) (k := 471) (j := k - 12 * m + 6 * sh) (ro3) hU37 (dm_471 (by omega)) rfl (by show 12 * m + (k - 12 * m + 6 * sh) = _; omega)
            · intro j a b
              rw [up_k hU37 (by exact Nat.ne_of_beq_eq_false rfl) 0 j]
              exact u3 j a (by omega)
            · intro j a b c
              rw [up_k hU37 (by exact Nat.ne_of_beq_eq_false rfl) 0 j, up_k hU37 (by exact Nat.ne_of_beq_eq_false rfl) 0 j, up_k hU37 (by exact Nat.ne_of_beq_eq_false rfl) 0 j]
              exact w3 j a (by omega) c
            · intro j a b c
              by_cases z : j = (6 * sh) + k
              · rw [z, up_f hU37]; omega
              · rw [up_g hU37 (fun y => z y.2.2)]; exact x3 j a (by omega) c
            · omega
      have c_36 : ∀ (nn : Nat) (k : Int) (T2 : Zt), ((10 - k).toNat) ≤ nn → (fr_ [(244, []), (241, []), (242, []), (243, []), (245, [])] T T2) → (FM_ T2) → (SO_ T T2 m) → (ro9_ T T2 m) → (∀ j, 2 * m ≤ j → j < sh + 1 → T2 244 0 j = T 205 0 (23 * T 230 0 m + 9)) → (∀ j, 20 * m ≤ j → j < 10 * sh + k → j % 10 < T 239 0 (j / 10) → (j % 10 < T 205 0 (23 * T 230 0 m + 9) → T2 241 0 j = 1) ∧ (T 205 0 (23 * T 230 0 m + 9) ≤ j % 10 → T2 241 0 j = 0) ∧ T2 242 0 j = 0 ∧ T2 243 0 j = 0) → (∀ j, 12 * m ≤ j → j < 6 * sh → j % 6 < T 205 0 (23 * T 230 0 m + 9) → T2 245 0 j = 10 * (j / 6) + j % 6) → (0 ≤ k ∧ sh ≤ 2 * m + 1 ∧ k ≤ T 239 0 sh) → J_ zX11_layBeginning T (po_X11_layBeginning_e T m) 0 0 36 [some (vR 111 0), some (vI m), some (vI (T 205 0 (23 * T 230 0 m + 9))), some (vI sh), some (vI k)] [] T2 := by
        intro nn
        induction nn using Nat.strongRecOn with
        | _ nn ih_36 =>
          intro k T2 hm_36 hf_36 fm2 so2 ro2 u2 w2 x2 i2
          replace hm_36 := fun (_ : Unit) => hm_36
          have hsm : 0 ≤ T 239 0 sh ∧ T 239 0 sh ≤ 10 := bd_a hT 239 (by decide +kernel : ta_ 239 = some (1, some 800, 0, 10)) 0 (by omega)
          refine j_blx (F := fX11) tb_X11 (nn_ _) bk_X11_layBeginning_e_36 bs_X11_layBeginning_e_36 hz (fun K hK => ?_)
          refine ix_i (by omega) ?_
          intro b39 b39b
          have e40 : T2 239 0 sh = T 239 0 sh := hf_36 239 0 sh rfl
          rw [e40] at b39 b39b ⊢
          refine And.intro (fun c41 => ?_) (fun c41 => ?_)
          · refine hK 102 _ [] T2 ?_
            refine j_blx (F := fX11) tb_X11 (nn_ _) bk_X11_layBeginning_e_102 bs_X11_layBeginning_e_102 hz (fun K hK => ?_)
            refine hK 105 [some (vR 111 0), some (vI m), some (vI (T 205 0 (23 * T 230 0 m + 9))), some (vI sh), some (vI 0)] [] T2 ?_
            refine c_105 _ 0 T2 (Nat.le_refl _) ?_ ?_ ?_ ?_ ?_ ?_ ?_ ?_
            · exact fr_t (fr_0 _ _) (fr_s hf_36 rfl)
            · exact fm2
            · exact so2
            · exact ro2
            · intro j a b
              exact u2 j a (by omega)
            · intro j a b c
              by_cases z : j < 10 * sh + k
              · exact w2 j a z c
              · rw [show j / 10 = sh from Int.le_antisymm (by omega) (by omega)] at c; omega
            · intro j a b c
              exact x2 j a (by omega) c
            · omega
          · refine rg_i (by omega) ?_
            refine rg_i (by omega) ?_
            refine And.intro (fun c42 => ?_) (fun c42 => ?_)
            · refine hK 68 [some (vR 111 0), some (vI m), some (vI (T 205 0 (23 * T 230 0 m + 9))), some (vI sh), some (vI k)] [vI ((10 * sh) + k), vR 241 0] T2 ?_
              refine j_blx (F := fX11) tb_X11 (nn_ _) bk_X11_layBeginning_e_68 bs_X11_layBeginning_e_68 hz (fun K hK => ?_)
              refine iy_i (by omega) (by omega) ?_
              refine x_nm (fun U43 hU43 => ?_)
              have e44 := up_f hU43
              refine rg_i (by omega) ?_
              refine rg_i (by omega) ?_
              refine iy_i (by omega) (by omega) ?_
              refine x_nm (fun U45 hU45 => ?_)
              have e46 := up_f hU45
              refine rg_i (by omega) ?_
              refine rg_i (by omega) ?_
              refine iy_i (by omega) (by omega) ?_
              refine x_nm (fun U47 hU47 => ?_)
              have e48 := up_f hU47
              refine rg_i (by omega) ?_
              refine hK 36 [some (vR 111 0), some (vI m), some (vI (T 205 0 (23 * T 230 0 m + 9))), some (vI sh), some (vI (k + 1))] [] U47 ?_
              refine ih_36 _ ?_ (k + 1) U47 (Nat.le_refl _) ?_ ?_ ?_ ?_ ?_ ?_ ?_ ?_
              · have hm_36 := hm_36 (); omega
              · exact fr_u (fr_u (fr_u (fr_t (fr_0 _ _) (fr_s hf_36 rfl)) hU43 rfl) hU45 rfl) hU47 rfl
              · exact FM__f (ws := [(243, [])]) (FM__f (ws := [(242, [])]) (FM__f (ws := [(241, [])]) (fm2) (fr_u (fr_0 _ _) hU43 rfl) ⟨fun _ => rfl, fun _ => rfl, trivial⟩) (fr_u (fr_0 _ _) hU45 rfl) ⟨fun _ => rfl, fun _ => rfl, trivial⟩) (fr_u (fr_0 _ _) hU47 rfl) ⟨fun _ => rfl, fun _ => rfl, trivial⟩
              · exact so_f (ws := [(243, [])]) (so_y (so_f (ws := [(241, [])]) (so2) (fr_u (fr_0 _ _) hU43 rfl) ⟨fun _ => rfl, fun _ => rfl, fun _ => rfl⟩) hU45 (sh) (by omega)) (fr_u (fr_0 _ _) hU47 rfl) ⟨fun _ => rfl, fun _ => rfl, fun _ => rfl⟩
              · exact ro_u (m := m) (k := 474) (j := ((10 * sh) + k) - 20 * m) (ro_u (m := m) (k := 473) (j := ((10 * sh) + k) - 20 * m) (ro_u (m := m) (k := 472) (j := ((10 * sh) + k) - 20 * m) (ro2) hU43 (dm_472 (by omega)) rfl (by show 20 * m + (((10 * sh) + k) - 20 * m) = _; omega)) hU45 (dm_473 (by omega)) rfl (by show 20 * m + (((10 * sh) + k) - 20 * m) = _; omega)) hU47 (dm_474 (by omega)) rfl (by show 20 * m + (((10 * sh) + k) - 20 * m) = _; omega)
              · intro j a b
                rw [(up_k hU47 (by exact Nat.ne_of_beq_eq_false rfl) 0 j).trans ((up_k hU45 (by exact Nat.ne_of_beq_eq_false rfl) 0 j).trans (up_k hU43 (by exact Nat.ne_of_beq_eq_false rfl) 0 j))]
                exact u2 j a (by omega)
              · intro j a b c
                by_cases z : j = 10 * sh + k
                · have d1 : U47 241 0 j = 0 := by rw [z]; exact ((up_k hU47 (by exact Nat.ne_of_beq_eq_false rfl) 0 _).trans (up_k hU45 (by exact Nat.ne_of_beq_eq_false rfl) 0 _)).trans (up_f hU43)
                  have d2 : U47 242 0 j = 0 := by rw [z]; exact (up_k hU47 (by exact Nat.ne_of_beq_eq_false rfl) 0 _).trans (up_f hU45)
                  have d3 : U47 243 0 j = 0 := by rw [z]; exact up_f hU47
                  refine ⟨fun g => ?_, fun g => ?_, d2, d3⟩
                  · omega
                  · omega
                · have d1 : U47 241 0 j = T2 241 0 j := (up_k hU47 (by exact Nat.ne_of_beq_eq_false rfl) 0 j).trans ((up_k hU45 (by exact Nat.ne_of_beq_eq_false rfl) 0 j).trans (up_g hU43 (fun y => z y.2.2)))
                  have d2 : U47 242 0 j = T2 242 0 j := (up_k hU47 (by exact Nat.ne_of_beq_eq_false rfl) 0 j).trans ((up_g hU45 (fun y => z y.2.2)).trans (up_k hU43 (by exact Nat.ne_of_beq_eq_false rfl) 0 j))
                  have d3 : U47 243 0 j = T2 243 0 j := (up_g hU47 (fun y => z y.2.2)).trans ((up_k hU45 (by exact Nat.ne_of_beq_eq_false rfl) 0 j).trans (up_k hU43 (by exact Nat.ne_of_beq_eq_false rfl) 0 j))
                  rw [d1, d2, d3]
                  exact w2 j a (by omega) c
              · intro j a b c
                rw [(up_k hU47 (by exact Nat.ne_of_beq_eq_false rfl) 0 j).trans ((up_k hU45 (by exact Nat.ne_of_beq_eq_false rfl) 0 j).trans (up_k hU43 (by exact Nat.ne_of_beq_eq_false rfl) 0 j))]
                exact x2 j a (by omega) c
              · omega
            · refine hK 69 [some (vR 111 0), some (vI m), some (vI (T 205 0 (23 * T 230 0 m + 9))), some (vI sh), some (vI k)] [vI 1, vI ((10 * sh) + k), vR 241 0] T2 ?_
              refine j_blx (F := fX11) tb_X11 (nn_ _) bk_X11_layBeginning_e_69 bs_X11_layBeginning_e_69 hz (fun K hK => ?_)
              refine iy_i (by omega) (by omega) ?_
              refine x_nm (fun U49 hU49 => ?_)
              have e50 := up_f hU49
              refine rg_i (by omega) ?_
              refine rg_i (by omega) ?_
              refine iy_i (by omega) (by omega) ?_
              refine x_nm (fun U51 hU51 => ?_)
              have e52 := up_f hU51
              refine rg_i (by omega) ?_
              refine rg_i (by omega) ?_
              refine iy_i (by omega) (by omega) ?_
              refine x_nm (fun U53 hU53 => ?_)
              have e54 := up_f hU53
              refine rg_i (by omega) ?_
              refine hK 36 [some (vR 111 0), some (vI m), some (vI (T 205 0 (23 * T 230 0 m + 9))), some (vI sh), some (vI (k + 1))] [] U53 ?_
              refine ih_36 _ ?_ (k + 1) U53 (Nat.le_refl _) ?_ ?_ ?_ ?_ ?_ ?_ ?_ ?_
              · have hm_36 := hm_36 (); omega
              · exact fr_u (fr_u (fr_u (fr_t (fr_0 _ _) (fr_s hf_36 rfl)) hU49 rfl) hU51 rfl) hU53 rfl
              · exact FM__f (ws := [(243, [])]) (FM__f (ws := [(242, [])]) (FM__f (ws := [(241, [])]) (fm2) (fr_u (fr_0 _ _) hU49 rfl) ⟨fun _ => rfl, fun _ => rfl, trivial⟩) (fr_u (fr_0 _ _) hU51 rfl) ⟨fun _ => rfl, fun _ => rfl, trivial⟩) (fr_u (fr_0 _ _) hU53 rfl) ⟨fun _ => rfl, fun _ => rfl, trivial⟩
              · exact so_f (ws := [(243, [])]) (so_y (so_f (ws := [(241, [])]) (so2) (fr_u (fr_0 _ _) hU49 rfl) ⟨fun _ => rfl, fun _ => rfl, fun _ => rfl⟩) hU51 (sh) (by omega)) (fr_u (fr_0 _ _) hU53 rfl) ⟨fun _ => rfl, fun _ => rfl, fun _ => rfl⟩
              · exact ro_u (m := m) (k := 474) (j := ((10 * sh) + k) - 20 * m) (ro_u (m := m) (k := 473) (j := ((10 * sh) + k) - 20 * m) (ro_u (m := m) (k := 472) (j := ((10 * sh) + k) - 20 * m) (ro2) hU49 (dm_472 (by omega)) rfl (by show 20 * m + (((10 * sh) + k) - 20 * m) = _; omega)) hU51 (dm_473 (by omega)) rfl (by show 20 * m + (((10 * sh) + k) - 20 * m) = _; omega)) hU53 (dm_474 (by omega)) rfl (by show 20 * m + (((10 * sh) + k) - 20 * m) = _; omega)
              · intro j a b
                rw [(up_k hU53 (by exact Nat.ne_of_beq_eq_false rfl) 0 j).trans ((up_k hU51 (by exact Nat.ne_of_beq_eq_false rfl) 0 j).trans (up_k hU49 (by exact Nat.ne_of_beq_eq_false rfl) 0 j))]
                exact u2 j a (by omega)
              · intro j a b c
                by_cases z : j = 10 * sh + k
                · have d1 : U53 241 0 j = 1 := by rw [z]; exact ((up_k hU53 (by exact Nat.ne_of_beq_eq_false rfl) 0 _).trans (up_k hU51 (by exact Nat.ne_of_beq_eq_false rfl) 0 _)).trans (up_f hU49)
                  have d2 : U53 242 0 j = 0 := by rw [z]; exact (up_k hU53 (by exact Nat.ne_of_beq_eq_false rfl) 0 _).trans (up_f hU51)
                  have d3 : U53 243 0 j = 0 := by rw [z]; exact up_f hU53
                  refine ⟨fun g => ?_, fun g => ?_, d2, d3⟩
                  · omega
                  · omega
                · have d1 : U53 241 0 j = T2 241 0 j := (up_k hU53 (by exact Nat.ne_of_beq_eq_false rfl) 0 j).trans ((up_k hU51 (by exact Nat.ne_of_beq_eq_false rfl) 0 j).trans (up_g hU49 (fun y => z y.2.2)))
                  have d2 : U53 242 0 j = T2 242 0 j := (up_k hU53 (by exact Nat.ne_of_beq_eq_false rfl) 0 j).trans ((up_g hU51 (fun y => z y.2.2)).trans (up_k hU49 (by exact Nat.ne_of_beq_eq_false rfl) 0 j))
                  have d3 : U53 243 0 j = T2 243 0 j := (up_g hU53 (fun y => z y.2.2)).trans ((up_k hU51 (by exact Nat.ne_of_beq_eq_false rfl) 0 j).trans (up_k hU49 (by exact Nat.ne_of_beq_eq_false rfl) 0 j))
                  rw [d1, d2, d3]
                  exact w2 j a (by omega) c
              · intro j a b c
                rw [(up_k hU53 (by exact Nat.ne_of_beq_eq_false rfl) 0 j).trans ((up_k hU51 (by exact Nat.ne_of_beq_eq_false rfl) 0 j).trans (up_k hU49 (by exact Nat.ne_of_beq_eq_false rfl) 0 j))]
                exact x2 j a (by omega) c
              · omega
      refine j_blx (F := fX11) tb_X11 (nn_ _) bk_X11_layBeginning_e_17 bs_X11_layBeginning_e_17 hz (fun K hK => ?_)
      refine rg_i (by omega) ?_
      refine rg_i (by omega) ?_
      refine And.intro (fun c55 => ?_) (fun c55 => ?_)
      · refine hK 142 _ [] T1 ?_
        refine j_blx (F := fX11) tb_X11 (nn_ _) bk_X11_layBeginning_e_142 bs_X11_layBeginning_e_142 hz (fun K hK => ?_)
        refine hK 144 [some (vR 111 0), some (vI m), some (vI (T 205 0 (23 * T 230 0 m + 9))), some (vI 0), none] [] T1 ?_
        refine j_drq [some (vR 111 0), some (vI m), none, some (vI 0), none] (drq_s (drq_s (drq_n (drq_s (drq_n drq_0))))) ?_
        refine c_144 _ 0 T1 (Nat.le_refl _) ?_ ?_ ?_ ?_ ?_ ?_ ?_ ?_ ?_
        · exact fr_t (fr_0 _ _) (fr_s hf_17 rfl)
        · exact fm1
        · exact so1
        · exact ro1
        · intro j a b
          exact u1 j a (by omega)
        · intro j a b c
          exact w1 j a (by omega) c
        · intro j a b c
          exact x1 j a (by omega) c
        · intro j a b; omega
        · omega
      · refine iy_i (by omega) (by omega) ?_
        refine x_nm (fun U56 hU56 => ?_)
        have e57 := up_f hU56
        refine hK 36 [some (vR 111 0), some (vI m), some (vI (T 205 0 (23 * T 230 0 m + 9))), some (vI sh), some (vI 0)] [] U56 ?_
        refine c_36 _ 0 U56 (Nat.le_refl _) ?_ ?_ ?_ ?_ ?_ ?_ ?_ ?_
        · exact fr_u (fr_t (fr_0 _ _) (fr_s hf_17 rfl)) hU56 rfl
        · exact fm_f (fm1) hU56 (by omega)
        · exact so_f (ws := [(244, [])]) (so1) (fr_u (fr_0 _ _) hU56 rfl) ⟨fun _ => rfl, fun _ => rfl, fun _ => rfl⟩
        · exact ro_u (m := m) (k := 470) (j := -2 * m + sh) (ro1) hU56 (dm_470 (by omega)) rfl (by show 2 * m + (-2 * m + sh) = _; omega)
        · intro j a b
          by_cases z : j = sh
          · rw [z, up_f hU56]
          · rw [up_g hU56 (fun y => z y.2.2)]; exact u1 j a (by omega)
        · intro j a b c
          rw [up_k hU56 (by exact Nat.ne_of_beq_eq_false rfl) 0 j, up_k hU56 (by exact Nat.ne_of_beq_eq_false rfl) 0 j, up_k hU56 (by exact Nat.ne_of_beq_eq_false rfl) 0 j]
          exact w1 j a (by omega) c
        · intro j a b c
          rw [up_k hU56 (by exact Nat.ne_of_beq_eq_false rfl) 0 j]
          exact x1 j a (by omega) c
        · omega
  refine j_blx (F := fX11) tb_X11 (nn_ _) bk_X11_layBeginning_e_0 bs_X11_layBeginning_e_0 hz (fun K hK => ?_)
  refine ix_i (by omega) ?_
  intro b58 b58b
  refine hK 9 _ [vI 9, vI (T 230 0 m), vR 111 0] T ?_
  refine j_callV (y := yX11_rule0) (Yc := zX11_rule0) (rest := []) [vI (T 230 0 m), vI 9] (ct_X11_rule0 (T := T) (by omega) (by omega)) cl_X11_321 (qd_c (by decide +kernel)) (nn_ _) rfl (rf_of rfl) (Nat.le_of_ble_eq_true rfl) (Nat.le_of_ble_eq_true rfl) (Nat.le_of_ble_eq_true rfl) rfl ?_
  rintro _ _ ⟨rfl, rfl⟩
  show J_ zX11_layBeginning T (po_X11_layBeginning_e T m) 0 0 12 _ [vI (T 205 0 (23 * (T 230 0 m) + 9))] T
  refine j_blx (F := fX11) tb_X11 (nn_ _) bk_X11_layBeginning_e_12 bs_X11_layBeginning_e_12 hz (fun K hK => ?_)
  refine rg_i (by omega) ?_
  refine hK 17 [some (vR 111 0), some (vI m), some (vI (T 205 0 (23 * (T 230 0 m) + 9))), some (vI (2 * m)), none] [] T ?_
  refine c_17 _ (2 * m) T (Nat.le_refl _) ?_ ?_ ?_ ?_ ?_ ?_ ?_ ?_
  · exact fr_0 _ _
  · exact hfm
  · exact so_r
  · exact ro_r
  · intro j a b; omega
  · intro j a b; omega
  · intro j a b; omega
  · omega
-- the play of both sides alike: pure words
/-- the cells of the reference's match and of the house's play tell the same -/
def EQP_ (m : Int) (b a : Sg_) : Prop :=
  (b 449 0 = a 449 0 ∧ b 449 1 = a 449 1 ∧ b 470 0 = a 470 0 ∧ b 470 1 = a 470 1) ∧
  (b 466 0 = a 466 0 ∧ b 466 1 = a 466 1 ∧ b 467 0 = a 467 0 ∧ b 467 1 = a 467 1 ∧ b 468 0 = a 468 0 ∧ b 468 1 = a 468 1 ∧ b 469 0 = a 469 0 ∧ b 469 1 = a 469 1) ∧
  (b 103 4 = a 103 4 ∧ b 103 5 = a 103 5 ∧ ((a 103 3 = 0 ∧ b 103 3 = 1) ∨ (a 103 3 = 1 ∧ b 103 3 = 2))) ∧
  (∀ s x, 0 ≤ s → s ≤ 1 → s * 6 ≤ x → x < s * 6 + a 470 s → b 471 x = 20 * m + a 471 x) ∧
  (∀ s x, 0 ≤ s → s ≤ 1 → s * 10 ≤ x → x < s * 10 + a 449 s → b 448 x = a 448 x ∧ b 473 x = a 473 x ∧ ((a 472 x = 3 ∧ b 472 x = 2 ∧ b 474 x = 1) ∨ (a 472 x ≠ 3 ∧ b 472 x = a 472 x ∧ b 474 x = 0)))
/-- who stands on the field, in its order -/
def WS_ (a : Sg_) : Prop :=
  (∀ s, 0 ≤ s → s ≤ 1 → 0 ≤ a 449 s ∧ a 449 s ≤ 10 ∧ 0 ≤ a 470 s ∧ a 470 s ≤ 6) ∧
  (∀ s x, 0 ≤ s → s ≤ 1 → s * 6 ≤ x → x < s * 6 + a 470 s → s * 10 ≤ a 471 x ∧ a 471 x < s * 10 + a 449 s ∧ a 472 (a 471 x) = 1) ∧
  (∀ s x, 0 ≤ s → s ≤ 1 → s * 10 ≤ x → x < s * 10 + a 449 s → a 472 x = 1 → ∃ k, s * 6 ≤ k ∧ k < s * 6 + a 470 s ∧ a 471 k = x) ∧
  (∀ s x y, 0 ≤ s → s ≤ 1 → s * 6 ≤ x → x < s * 6 + a 470 s → s * 6 ≤ y → y < s * 6 + a 470 s → a 471 x = a 471 y → x = y) ∧
  (∀ s x y, 0 ≤ s → s ≤ 1 → s * 10 ≤ x → x < s * 10 + a 449 s → s * 10 ≤ y → y < s * 10 + a 449 s → a 448 x = a 448 y → x = y)
theorem eq_j {m : Int} {b a : Sg_} (h : EQP_ m b a) {s : Int} (h0 : 0 ≤ s) (h1 : s ≤ 1) : b 449 s = a 449 s ∧ b 470 s = a 470 s ∧ b 466 s = a 466 s ∧ b 467 s = a 467 s ∧ b 468 s = a 468 s ∧ b 469 s = a 469 s := by
  obtain ⟨⟨a1, a2, a3, a4⟩, ⟨b1, b2, b3, b4, b5, b6, b7, b8⟩, _⟩ := h
  rcases (by omega : s = 0 ∨ s = 1) with z | z
  · subst z; exact ⟨a1, a3, b1, b3, b5, b7⟩
  · subst z; exact ⟨a2, a4, b2, b4, b6, b8⟩
/-- the place on the sheet, where the names differ -/
theorem sl_u {b : Sg_} {s q x : Int} : ∀ (n : Nat), s * 10 ≤ x → x < s * 10 + (n : Int) → b 448 x = q → (∀ y, s * 10 ≤ y → y < s * 10 + (n : Int) → b 448 y = q → y = x) → sln_ b s q n = x
  | 0, _, _, _, _ => by omega
  | n + 1, h0, h1, h2, h3 => by
    by_cases z : b 448 (10 * s + (n : Int)) = q
    · rw [sln_t z]
      exact h3 _ (by omega) (by omega) z
    · rw [sln_f z]
      have w : x ≠ 10 * s + (n : Int) := fun e => z (by rw [← e]; exact h2)
      exact sl_u n h0 (by omega) h2 (fun y a c d => h3 y a (by omega) d)
theorem fp_n {a : Sg_} {s q : Int} : ∀ (n : Nat) (i : Int), fpn_ a s q n i = -1 → 0 ≤ i → ∀ k, i ≤ k → k < i + (n : Int) → a 448 (a 471 (s * 6 + k)) ≠ q
  | 0, _, _, _, _, _, _ => by omega
  | n + 1, i, h, h0, k, h1, h2 => by
    by_cases z : a 448 (a 471 (s * 6 + i)) = q
    · rw [fpn_t z] at h; omega
    · rw [fpn_f z] at h
      by_cases w : k = i
      · rw [w]; exact z
      · exact fp_n n (i + 1) h (by omega) k (by omega) (by omega)
theorem bp_n {a : Sg_} {s q : Int} : ∀ (n : Nat) (i : Int), bpn_ a s q n i = -1 → 0 ≤ i → 0 ≤ s → ∀ k, i ≤ k → k < i + (n : Int) → ¬ (a 448 (s * 10 + k) = q ∧ a 472 (s * 10 + k) = 0)
  | 0, _, _, _, _, _, _, _ => by omega
  | n + 1, i, h, h0, hs, k, h1, h2 => by
    by_cases z : a 448 (s * 10 + i) = q ∧ a 472 (s * 10 + i) = 0
    · rw [bpn_t z] at h; omega
    · rw [bpn_f z] at h
      by_cases w : k = i
      · rw [w]; exact z
      · exact bp_n n (i + 1) h (by omega) hs k (by omega) (by omega)
/-- who stands on the field -/
theorem k_f {m : Int} {b a : Sg_} (h : EQP_ m b a) (w : WS_ a) {s q : Int} (h0 : 0 ≤ s) (h1 : s ≤ 1) : (fp9_ a s q = -1 ∧ ¬ (slR_ b s q ≠ -1 ∧ b 472 (slR_ b s q) = 1)) ∨ (0 ≤ fp9_ a s q ∧ fp9_ a s q < a 470 s ∧ slR_ b s q = a 471 (s * 6 + fp9_ a s q) ∧ b 472 (slR_ b s q) = 1) := by
  obtain ⟨w1, w2, w3, w4, w5⟩ := w
  have e := eq_j h h0 h1
  have v := w1 s h0 h1
  obtain ⟨_, _, _, e4, e5⟩ := h
  rcases fp9_b (a := a) (s := s) (q := q) with z | z
  · refine Or.inl ⟨z, fun y => ?_⟩
    rcases sln_b (a := b) (s := s) (q := q) (b 449 s).toNat with c | c
    · exact y.1 c
    · have c1 : s * 10 ≤ slR_ b s q := by have := c.1; show s * 10 ≤ sln_ b s q (b 449 s).toNat; omega
      have c2 : slR_ b s q < s * 10 + a 449 s := by have := c.2.1; show sln_ b s q (b 449 s).toNat < _; omega
      have c3 : b 448 (slR_ b s q) = q := c.2.2
      have d := e5 s _ h0 h1 c1 c2
      have f : a 472 (slR_ b s q) = 1 := by have := y.2; omega
      obtain ⟨k, k0, k1, k2⟩ := w3 s _ h0 h1 c1 c2 f
      refine fp_n (a := a) (s := s) (q := q) (a 470 s).toNat 0 z (by omega) (k - s * 6) (by omega) (by omega) ?_
      rw [show s * 6 + (k - s * 6) = k by omega, k2, ← d.1]
      exact c3
  · have g := w2 s (s * 6 + fp9_ a s q) h0 h1 (by omega) (by omega)
    have d := e5 s _ h0 h1 g.1 g.2.1
    have u : slR_ b s q = a 471 (s * 6 + fp9_ a s q) := by
      refine sl_u (b 449 s).toNat g.1 (by omega) (d.1.trans z.2.2) (fun y c1 c2 c3 => ?_)
      have dy := e5 s y h0 h1 c1 (by omega)
      refine w5 s y _ h0 h1 c1 (by omega) g.1 g.2.1 ?_
      rw [← dy.1, c3, z.2.2]
    refine Or.inr ⟨z.1, z.2.1, u, ?_⟩
    rw [u]
    have := g.2.2
    omega
/-- who sits on the bench -/
theorem k_b {m : Int} {b a : Sg_} (h : EQP_ m b a) (w : WS_ a) {s q : Int} (h0 : 0 ≤ s) (h1 : s ≤ 1) : (bq9_ a s q = -1 ∧ ¬ (slR_ b s q ≠ -1 ∧ b 472 (slR_ b s q) = 0)) ∨ (s * 10 ≤ bq9_ a s q ∧ bq9_ a s q < s * 10 + a 449 s ∧ slR_ b s q = bq9_ a s q ∧ b 472 (slR_ b s q) = 0 ∧ a 472 (bq9_ a s q) = 0) := by
  obtain ⟨w1, w2, w3, w4, w5⟩ := w
  have e := eq_j h h0 h1
  have v := w1 s h0 h1
  obtain ⟨_, _, _, e4, e5⟩ := h
  rcases bq9_b (a := a) (s := s) (q := q) with z | z
  · refine Or.inl ⟨z, fun y => ?_⟩
    rcases sln_b (a := b) (s := s) (q := q) (b 449 s).toNat with c | c
    · exact y.1 c
    · have c1 : s * 10 ≤ slR_ b s q := by have := c.1; show s * 10 ≤ sln_ b s q (b 449 s).toNat; omega
      have c2 : slR_ b s q < s * 10 + a 449 s := by have := c.2.1; show sln_ b s q (b 449 s).toNat < _; omega
      have c3 : b 448 (slR_ b s q) = q := c.2.2
      have d := e5 s _ h0 h1 c1 c2
      have f : a 472 (slR_ b s q) = 0 := by have := y.2; omega
      refine bp_n (a := a) (s := s) (q := q) (a 449 s).toNat 0 z (by omega) h0 (slR_ b s q - s * 10) (by omega) (by omega) ?_
      rw [show s * 10 + (slR_ b s q - s * 10) = slR_ b s q by omega]
      exact ⟨d.1.symm.trans c3, f⟩
  · have d := e5 s _ h0 h1 z.1 z.2.1
    have u : slR_ b s q = bq9_ a s q := by
      refine sl_u (b 449 s).toNat z.1 (by omega) (d.1.trans z.2.2.1) (fun y c1 c2 c3 => ?_)
      have dy := e5 s y h0 h1 c1 (by omega)
      refine w5 s y _ h0 h1 c1 (by omega) z.1 z.2.1 ?_
      rw [← dy.1, c3, z.2.2.1]
    refine Or.inr ⟨z.1, z.2.1, u, ?_, z.2.2.2⟩
    rw [u]
    have := z.2.2.2
    omega
theorem wr_9 {x : Int} (h : -2147483648 ≤ x ∧ x ≤ 2147483647) : wr_ x = x := by
  unfold wr_
  omega
theorem u2_e {b a : Sg_} {k K : Nat} {j J v : Int} (h : b K J = a K J) : u2_ b k j v K J = u2_ a k j v K J := by
  by_cases z : K = k ∧ J = j
  · rw [z.1, z.2, u2_s, u2_s]
  · rw [u2_n z, u2_n z]; exact h
theorem u2_m {a : Sg_} {k : Nat} {j v : Int} (h : a k j = v) : u2_ a k j v = a := by
  funext K J
  by_cases z : K = k ∧ J = j
  · rw [z.1, z.2, u2_s]; exact h.symm
  · exact u2_n z
theorem eq_u {m : Int} {b a : Sg_} (h : EQP_ m b a) {k : Nat} {j v : Int} (c : (k = 466 ∨ k = 467 ∨ k = 468 ∨ k = 469) ∨ (k = 103 ∧ (j = 4 ∨ j = 5))) : EQP_ m (u2_ b k j v) (u2_ a k j v) := by
  obtain ⟨⟨a1, a2, a3, a4⟩, ⟨b1, b2, b3, b4, b5, b6, b7, b8⟩, ⟨p4, p5, p3⟩, e4, e5⟩ := h
  have n : ∀ K : Nat, (K = 448 ∨ K = 449 ∨ K = 470 ∨ K = 471 ∨ K = 472 ∨ K = 473 ∨ K = 474) → ∀ (g : Sg_) (J : Int), u2_ g k j v K J = g K J := fun K hK g J => u2_k (by omega) J
  have n3 : ¬ ((103 : Nat) = k ∧ (3 : Int) = j) := by omega
  refine ⟨⟨u2_e a1, u2_e a2, u2_e a3, u2_e a4⟩, ⟨u2_e b1, u2_e b2, u2_e b3, u2_e b4, u2_e b5, u2_e b6, u2_e b7, u2_e b8⟩, ⟨u2_e p4, u2_e p5, ?_⟩, fun s x s0 s1 h0 h1 => ?_, fun s x s0 s1 h0 h1 => ?_⟩
  · rw [u2_n n3, u2_n n3]; exact p3
  · simp only [n 470 (by decide), n 471 (by decide)] at h1 ⊢
    exact e4 s x s0 s1 h0 h1
  · simp only [n 449 (by decide), n 448 (by decide), n 472 (by decide), n 473 (by decide), n 474 (by decide)] at h1 ⊢
    exact e5 s x s0 s1 h0 h1
theorem eq_w {m : Int} {b a : Sg_} (h : EQP_ m b a) {v w : Int} (c : (v = 0 ∧ w = 1) ∨ (v = 1 ∧ w = 2)) : EQP_ m (u2_ b 103 3 w) (u2_ a 103 3 v) := by
  obtain ⟨⟨a1, a2, a3, a4⟩, ⟨b1, b2, b3, b4, b5, b6, b7, b8⟩, ⟨p4, p5, p3⟩, e4, e5⟩ := h
  have n : ∀ K : Nat, K ≠ 103 → ∀ (g : Sg_) (y J : Int), u2_ g 103 3 y K J = g K J := fun K hK g y J => u2_k hK J
  have n4 : ¬ ((103 : Nat) = 103 ∧ (4 : Int) = 3) := by decide
  have n5 : ¬ ((103 : Nat) = 103 ∧ (5 : Int) = 3) := by decide
  refine ⟨?_, ?_, ⟨?_, ?_, ?_⟩, fun s x s0 s1 h0 h1 => ?_, fun s x s0 s1 h0 h1 => ?_⟩
  · simp only [n 449 (by decide), n 470 (by decide)]
    exact ⟨a1, a2, a3, a4⟩
  · simp only [n 466 (by decide), n 467 (by decide), n 468 (by decide), n 469 (by decide)]
    exact ⟨b1, b2, b3, b4, b5, b6, b7, b8⟩
  · rw [u2_n n4, u2_n n4]; exact p4
  · rw [u2_n n5, u2_n n5]; exact p5
  · rw [u2_s, u2_s]; exact c
  · simp only [n 470 (by decide), n 471 (by decide)] at h1 ⊢
    exact e4 s x s0 s1 h0 h1
  · simp only [n 449 (by decide), n 448 (by decide), n 472 (by decide), n 473 (by decide), n 474 (by decide)] at h1 ⊢
    exact e5 s x s0 s1 h0 h1
theorem fy2_2 {a : Sg_} {k : Nat} : fy2_ a k 2 0 = u2_ (u2_ a k 0 0) k 1 0 := by
  funext K J
  by_cases z : K = k
  · subst z
    by_cases y : J = 1
    · rw [y, u2_s]; exact fy2_s (by decide)
    · rw [u2_n (fun q => y q.2)]
      by_cases x : J = 0
      · rw [x, u2_s]; exact fy2_s (by decide)
      · rw [u2_n (fun q => x q.2)]; exact fy2_o (by omega)
  · rw [u2_k z, u2_k z]; exact fy2_k z J
theorem eq_ad {m : Int} {b a : Sg_} {s v w : Int} (h : EQP_ m b a) (h0 : 0 ≤ s) (h1 : s ≤ 1) (g0 : -2147483648 ≤ a 468 0 ∧ a 468 0 ≤ 2147483647) (g1 : -2147483648 ≤ a 468 1 ∧ a 468 1 ≤ 2147483647) (e : w = wr_ (a 468 s + v)) : EQP_ m (adR_ b s v) (u2_ a 468 s w) := by
  have b5 := h.2.1.2.2.2.2.1
  have b6 := h.2.1.2.2.2.2.2.1
  have i0 : wr_ (a 468 0 + 0) = a 468 0 := (wr_9 (by omega)).trans (by omega)
  have i1 : wr_ (a 468 1 + 0) = a 468 1 := (wr_9 (by omega)).trans (by omega)
  rcases (by omega : s = 0 ∨ s = 1) with z | z
  · subst z
    rw [adR__1 (a := b) (s := 0) (v := v) rfl, b5, b6, ← e, i1]
    have x := eq_u (eq_u h (k := 468) (j := 0) (v := w) (Or.inl (by decide))) (k := 468) (j := 1) (v := a 468 1) (Or.inl (by decide))
    rw [u2_m (a := u2_ a 468 0 w) (k := 468) (j := 1) (v := a 468 1) (u2_n (fun q => absurd q.2 (by decide)))] at x
    exact x
  · subst z
    rw [adR__2 (a := b) (s := 1) (v := v) (by decide) rfl, b5, b6, ← e, i0]
    have x := eq_u h (k := 468) (j := 0) (v := a 468 0) (Or.inl (by decide))
    rw [u2_m (a := a) (k := 468) (j := 0) (v := a 468 0) rfl] at x
    exact eq_u x (Or.inl (by decide))
/-- who stands where doesn't hang on plain cells -/
theorem ws_k {a : Sg_} (h : WS_ a) {k : Nat} {j v : Int} (c : k ≠ 448 ∧ k ≠ 449 ∧ k ≠ 470 ∧ k ≠ 471 ∧ k ≠ 472) : WS_ (u2_ a k j v) := by
  have n : ∀ K : Nat, K ≠ k → ∀ (J : Int), u2_ a k j v K J = a K J := fun K hK J => u2_k hK J
  unfold WS_ at h ⊢
  simp only [n 448 c.1.symm, n 449 c.2.1.symm, n 470 c.2.2.1.symm, n 471 c.2.2.2.1.symm, n 472 c.2.2.2.2.symm]
  exact h
/-- bounds of the plain cells -/
def WBP_ (n : Int) (r : Int → Int) (a : Sg_) : Prop :=
  (0 ≤ n ∧ n ≤ 1000000) ∧ (∀ (k : Nat) (j : Int), k = 466 ∨ k = 467 ∨ k = 468 ∨ k = 469 → 0 ≤ j → j ≤ 1 → 0 ≤ a k j ∧ a k j ≤ 8 * n + 20) ∧
  (0 ≤ a 103 4 ∧ a 103 4 ≤ 8 * n + 20) ∧ (0 ≤ a 103 5 ∧ a 103 5 ≤ 1) ∧
  (∀ s x, 0 ≤ s → s ≤ 1 → s * 10 ≤ x → x < s * 10 + a 449 s → 0 ≤ a 473 x ∧ a 473 x ≤ 8 * n + 20) ∧
  (r 0 = 3 → a 467 1 ≤ 7) ∧ (r 0 = 2 → ∀ j, 0 ≤ j → j ≤ 1 → a 467 j ≤ r 11) ∧ (∀ j, 0 ≤ j → j ≤ 1 → a 469 j ≤ r 10)
/-- bounds of the rules -/
def RB9_ (r : Int → Int) : Prop := (0 ≤ r 0 ∧ r 0 ≤ 3) ∧ (1 ≤ r 9 ∧ r 9 ≤ 6) ∧ (0 ≤ r 10 ∧ r 10 ≤ 5) ∧ (2 ≤ r 11 ∧ r 11 ≤ 25) ∧ (1 ≤ r 12 ∧ r 12 ≤ 9)
theorem wbp_m {n n' : Int} {r : Int → Int} {a : Sg_} (h : WBP_ n r a) (e : n ≤ n') (g : n' ≤ 1000000) : WBP_ n' r a := by
  obtain ⟨h0, h1, h2, h3, h4, h5, h6, h7⟩ := h
  refine ⟨by omega, fun k j c j0 j1 => ?_, by omega, h3, fun s x s0 s1 x0 x1 => ?_, h5, h6, h7⟩
  · have := h1 k j c j0 j1
    omega
  · have := h4 s x s0 s1 x0 x1
    omega
theorem wbp_u {n : Int} {r : Int → Int} {a : Sg_} (h : WBP_ n r a) {k : Nat} {j v : Int} (c : (k = 466 ∨ k = 467 ∨ k = 468 ∨ k = 469) ∨ (k = 103 ∧ (j = 4 ∨ j = 5))) (hv : 0 ≤ v ∧ v ≤ 8 * n + 20) (g5 : k = 103 → j = 5 → v ≤ 1) (g7 : k = 467 → (r 0 = 3 → j = 1 → v ≤ 7) ∧ (r 0 = 2 → v ≤ r 11)) (g9 : k = 469 → v ≤ r 10) : WBP_ n r (u2_ a k j v) := by
  obtain ⟨h0, h1, h2, h3, h4, h5, h6, h7⟩ := h
  have w : ∀ (K : Nat) (J : Int), (K = k ∧ J = j ∧ u2_ a k j v K J = v) ∨ (¬ (K = k ∧ J = j) ∧ u2_ a k j v K J = a K J) := fun K J => by
    by_cases z : K = k ∧ J = j
    · exact Or.inl ⟨z.1, z.2, by rw [z.1, z.2, u2_s]⟩
    · exact Or.inr ⟨z, u2_n z⟩
  refine ⟨h0, fun K J q j0 j1 => ?_, ?_, ?_, fun s x s0 s1 x0 x1 => ?_, fun e => ?_, fun e J j0 j1 => ?_, fun J j0 j1 => ?_⟩
  · have y := h1 K J q j0 j1
    rcases w K J with z | z
    · rw [z.2.2]; exact hv
    · rw [z.2]; exact y
  · rcases w 103 4 with z | z
    · rw [z.2.2]; exact hv
    · rw [z.2]; exact h2
  · rcases w 103 5 with z | z
    · rw [z.2.2]
      have := g5 z.1.symm z.2.1.symm
      omega
    · rw [z.2]; exact h3
  · have e1 : u2_ a k j v 449 s = a 449 s := u2_k (by omega) s
    have e2 : u2_ a k j v 473 x = a 473 x := u2_k (by omega) x
    rw [e1] at x1
    rw [e2]
    exact h4 s x s0 s1 x0 x1
  · rcases w 467 1 with z | z
    · rw [z.2.2]
      exact (g7 z.1.symm).1 e z.2.1.symm
    · rw [z.2]; exact h5 e
  · rcases w 467 J with z | z
    · rw [z.2.2]
      exact (g7 z.1.symm).2 e
    · rw [z.2]; exact h6 e J j0 j1
  · rcases w 469 J with z | z
    · rw [z.2.2]
      exact g9 z.1.symm
    · rw [z.2]; exact h7 J j0 j1
theorem wbp_w {n : Int} {r : Int → Int} {a : Sg_} (h : WBP_ n r a) {v : Int} : WBP_ n r (u2_ a 103 3 v) := by
  have w : ∀ (K : Nat) (J : Int), ¬ (K = 103 ∧ J = 3) → u2_ a 103 3 v K J = a K J := fun K J z => u2_n z
  obtain ⟨h0, h1, h2, h3, h4, h5, h6, h7⟩ := h
  refine ⟨h0, fun K J q j0 j1 => ?_, ?_, ?_, fun s x s0 s1 x0 x1 => ?_, fun e => ?_, fun e J j0 j1 => ?_, fun J j0 j1 => ?_⟩
  · rw [w K J (by omega)]; exact h1 K J q j0 j1
  · rw [w 103 4 (by decide)]; exact h2
  · rw [w 103 5 (by decide)]; exact h3
  · rw [w 449 s (by omega)] at x1
    rw [w 473 x (by omega)]; exact h4 s x s0 s1 x0 x1
  · rw [w 467 1 (by decide)]; exact h5 e
  · rw [w 467 J (by omega)]; exact h6 e J j0 j1
  · rw [w 469 J (by omega)]; exact h7 J j0 j1
/-- all of it -/
def SI_ (m n : Int) (r : Int → Int) (b a : Sg_) : Prop := EQP_ m b a ∧ WS_ a ∧ WBP_ n r a
theorem si_u {m n : Int} {r : Int → Int} {b a : Sg_} (h : SI_ m n r b a) {k : Nat} {j v : Int} (c : (k = 466 ∨ k = 467 ∨ k = 468 ∨ k = 469) ∨ (k = 103 ∧ (j = 4 ∨ j = 5))) (hv : 0 ≤ v ∧ v ≤ 8 * n + 20) (g5 : k = 103 → j = 5 → v ≤ 1) (g7 : k = 467 → (r 0 = 3 → j = 1 → v ≤ 7) ∧ (r 0 = 2 → v ≤ r 11)) (g9 : k = 469 → v ≤ r 10) : SI_ m n r (u2_ b k j v) (u2_ a k j v) :=
  ⟨eq_u h.1 c, ws_k h.2.1 (by omega), wbp_u h.2.2 c hv g5 g7 g9⟩
theorem si_w {m n : Int} {r : Int → Int} {b a : Sg_} (h : SI_ m n r b a) {v w : Int} (c : (v = 0 ∧ w = 1) ∨ (v = 1 ∧ w = 2)) : SI_ m n r (u2_ b 103 3 w) (u2_ a 103 3 v) :=
  ⟨eq_w h.1 c, ws_k h.2.1 (by omega), wbp_w h.2.2⟩
theorem si_z {m n : Int} {r : Int → Int} {b a : Sg_} (h : SI_ m n r b a) (q : RB9_ r) {k : Nat} (c : k = 466 ∨ k = 467) : SI_ m n r (u2_ (u2_ b k 0 0) k 1 0) (fy2_ a k 2 0) := by
  rw [fy2_2]
  have n0 := h.2.2.1
  have q4 := q.2.2.2.1
  have s1 : SI_ m n r (u2_ b k 0 0) (u2_ a k 0 0) := si_u h (Or.inl (by omega)) (by omega) (fun _ _ => by omega) (fun _ => ⟨fun _ _ => by omega, fun _ => by omega⟩) (fun _ => by omega)
  exact si_u s1 (Or.inl (by omega)) (by omega) (fun _ _ => by omega) (fun _ => ⟨fun _ _ => by omega, fun _ => by omega⟩) (fun _ => by omega)
theorem si_ad {m n : Int} {r : Int → Int} {b a : Sg_} {s v w : Int} (h : SI_ m n r b a) (h0 : 0 ≤ s) (h1 : s ≤ 1) (e : w = wr_ (a 468 s + v)) (hw : 0 ≤ w ∧ w ≤ 8 * n + 20) : SI_ m n r (adR_ b s v) (u2_ a 468 s w) := by
  have n0 := h.2.2.1
  have g0 := h.2.2.2.1 468 0 (by decide) (by decide) (by decide)
  have g1 := h.2.2.2.1 468 1 (by decide) (by decide) (by decide)
  exact ⟨eq_ad h.1 h0 h1 (by omega) (by omega) e, ws_k h.2.1 (by decide), wbp_u h.2.2 (Or.inl (by decide)) hw (fun z => absurd z (by decide)) (fun z => absurd z (by decide)) (fun z => absurd z (by decide))⟩
theorem si_m {m n n' : Int} {r : Int → Int} {b a : Sg_} (h : SI_ m n r b a) (e : n ≤ n') (g : n' ≤ 1000000) : SI_ m n' r b a := ⟨h.1, h.2.1, wbp_m h.2.2 e g⟩
theorem u2_c {a : Sg_} {k k' : Nat} {j j' v v' : Int} (h : ¬ (k = k' ∧ j = j')) : u2_ (u2_ a k j v) k' j' v' = u2_ (u2_ a k' j' v') k j v := by
  funext K J
  by_cases z : K = k ∧ J = j
  · have y : ¬ (K = k' ∧ J = j') := fun q => h ⟨z.1.symm.trans q.1, z.2.symm.trans q.2⟩
    rw [u2_n y, z.1, z.2, u2_s, u2_s]
  · by_cases y : K = k' ∧ J = j'
    · rw [u2_n z, y.1, y.2, u2_s, u2_s]
    · rw [u2_n y, u2_n z, u2_n z, u2_n y]
/-- the half ends -/
theorem si_ts {m n : Int} {r : Int → Int} {b a : Sg_} (h : SI_ m n r b a) (q : RB9_ r) (g : n + 1 ≤ 1000000) : SI_ m (n + 1) r (tsR_ r b) (eh9_ r (fy2_ a 467 2 0)) := by
  have hz := si_m (n' := n + 1) (si_z h q (k := 467) (Or.inr rfl)) (by omega) g
  have n0 := h.2.2.1
  have q4 := q.2.2.2.1
  have d4 : b 103 4 = a 103 4 := h.1.2.2.1.1
  have d5 : b 103 5 = a 103 5 := h.1.2.2.1.2.1
  have s0 : b 468 0 = a 468 0 := h.1.2.1.2.2.2.2.1
  have s1 : b 468 1 = a 468 1 := h.1.2.1.2.2.2.2.2.1
  have f4 : fy2_ a 467 2 0 103 4 = a 103 4 := fy2_k (by decide) 4
  have f5 : fy2_ a 467 2 0 103 5 = a 103 5 := fy2_k (by decide) 5
  have f80 : fy2_ a 467 2 0 468 0 = a 468 0 := fy2_k (by decide) 0
  have f81 : fy2_ a 467 2 0 468 1 = a 468 1 := fy2_k (by decide) 1
  have b4 := h.2.2.2.2.1
  have w1 : wr_ (a 103 4 + 1) = a 103 4 + 1 := wr_9 (by omega)
  have w2 : wr_ (r 11 - 1) = r 11 - 1 := wr_9 (by omega)
  have w3 : wr_ (wr_ (r 11 - 1) + 20) = r 11 + 19 := by
    rw [w2]
    exact (wr_9 (by omega)).trans (by omega)
  have w4 : wr_ (r 11 + 20) = r 11 + 20 := wr_9 (by omega)
  have w5 : wr_ (fy2_ a 467 2 0 103 4 + 1) = a 103 4 + 1 := by
    rw [f4]
    exact w1
  have w6 : wr_ (b 103 4 + 1) = a 103 4 + 1 := by
    rw [d4]
    exact w1
  by_cases c1 : a 103 5 = 1
  · by_cases c2 : wr_ (r 11 - 1) ≤ a 103 4 ∧ a 468 1 < a 468 0
    · rw [eh9__1 (r := r) (a := fy2_ a 467 2 0) (by omega) (by omega), tsR__1 (r := r) (a := b) (by omega) (by omega)]
      exact si_w hz (Or.inr ⟨rfl, rfl⟩)
    · rw [eh9__2 (r := r) (a := fy2_ a 467 2 0) (by omega) (by omega), tsR__2 (r := r) (a := b) (by omega) (by omega)]
      exact si_u hz (Or.inr ⟨rfl, Or.inr rfl⟩) (by omega) (fun _ _ => by omega) (fun z => absurd z (by decide)) (fun z => absurd z (by decide))
  · by_cases c2 : (wr_ (r 11 - 1) ≤ a 103 4 ∧ a 468 0 ≠ a 468 1) ∨ a 103 4 = r 11 + 19
    · rw [eh9__3 (r := r) (a := fy2_ a 467 2 0) (by omega) (by omega), tsR__3 (r := r) (a := b) (by omega) (by omega)]
      exact si_w hz (Or.inr ⟨rfl, rfl⟩)
    · rw [eh9__4 (r := r) (a := fy2_ a 467 2 0) (by omega) (by omega), tsR__4 (r := r) (a := b) (by omega) (by omega), w5, w6]
      exact si_u (si_u hz (Or.inr ⟨rfl, Or.inl rfl⟩) (by omega) (fun _ z => absurd z (by decide)) (fun z => absurd z (by decide)) (fun z => absurd z (by decide))) (Or.inr ⟨rfl, Or.inr rfl⟩) (by omega) (fun _ _ => by omega) (fun z => absurd z (by decide)) (fun z => absurd z (by decide))
/-- an out -/
theorem si_ot {m n : Int} {r : Int → Int} {b a : Sg_} (h : SI_ m n r b a) (q : RB9_ r) (r3 : r 0 = 3) (g : n + 2 ≤ 1000000) : SI_ m (n + 2) r (otR_ r b) (co9_ r a) := by
  have n0 := h.2.2.1
  have q4 := q.2.2.2.1
  have d7 : b 467 0 = a 467 0 := h.1.2.1.2.2.1
  have b7 := h.2.2.2.1 467 0 (by decide) (by decide) (by decide)
  have w1 : wr_ (a 467 0 + 1) = a 467 0 + 1 := wr_9 (by omega)
  have w2 : wr_ (b 467 0 + 1) = a 467 0 + 1 := by
    rw [d7]
    exact w1
  have hz := si_m (n' := n + 1) (si_z h q (k := 466) (Or.inl rfl)) (by omega) (by omega)
  have ho : SI_ m (n + 1) r (u2_ (u2_ (u2_ b 466 0 0) 466 1 0) 467 0 (a 467 0 + 1)) (u2_ (fy2_ a 466 2 0) 467 0 (a 467 0 + 1)) := si_u hz (Or.inl (by decide)) (by omega) (fun z => absurd z (by decide)) (fun _ => ⟨fun _ z => absurd z (by decide), fun z => by omega⟩) (fun z => absurd z (by decide))
  by_cases c : a 467 0 + 1 = 3
  · rw [co9__1 (r := r) (a := a) (by omega), otR__1 (r := r) (a := b) (by omega), w1, w2]
    have := si_ts ho q (by omega)
    rw [show n + 1 + 1 = n + 2 by omega] at this
    exact this
  · rw [co9__2 (r := r) (a := a) (by omega), otR__2 (r := r) (a := b) (by omega), w1, w2]
    exact si_m ho (by omega) g
/-- men go on -/
theorem si_av {m n : Int} {r : Int → Int} {b a : Sg_} {s x v : Int} (h : SI_ m n r b a) (q : RB9_ r) (h0 : 0 ≤ s) (h1 : s ≤ 1) (hx : 0 ≤ x ∧ x ≤ 7) (hv : 0 ≤ v ∧ v ≤ 4) (r3 : r 0 = 3) (g : n + 1 ≤ 1000000) : SI_ m (n + 1) r (avR_ r b s x v) (gb9_ r (u2_ a 467 1 x) s v) := by
  have n0 := h.2.2.1
  have q4 := q.2.2.2.1
  have d4 : b 103 4 = a 103 4 := h.1.2.2.1.1
  have s0 : b 468 0 = a 468 0 := h.1.2.1.2.2.2.2.1
  have s1 : b 468 1 = a 468 1 := h.1.2.1.2.2.2.2.2.1
  have f4 : u2_ a 467 1 x 103 4 = a 103 4 := u2_k (by decide) 4
  have f8 : ∀ j, u2_ a 467 1 x 468 j = a 468 j := fun j => u2_k (by decide) j
  have b80 := h.2.2.2.1 468 0 (by decide) (by decide) (by decide)
  have b81 := h.2.2.2.1 468 1 (by decide) (by decide) (by decide)
  have b8 := h.2.2.2.1 468 s (by decide) h0 h1
  have w0 : wr_ (b 468 1 + 0) = a 468 1 := by
    rw [s1]
    exact (wr_9 (by omega)).trans (by omega)
  have w1 : wr_ (b 468 0 + v) = a 468 0 + v := by
    rw [s0]
    exact wr_9 (by omega)
  have w2 : wr_ (u2_ a 467 1 x 468 0 + v) = a 468 0 + v := by
    rw [f8]
    exact wr_9 (by omega)
  have f80 := f8 0
  have f81 := f8 1
  have w3 : wr_ (r 11 - 1) = r 11 - 1 := wr_9 (by omega)
  have hu : SI_ m (n + 1) r (u2_ b 467 1 x) (u2_ a 467 1 x) := si_u (si_m h (by omega) g) (Or.inl (by decide)) (by omega) (fun z => absurd z (by decide)) (fun _ => ⟨fun _ _ => by omega, fun z => by omega⟩) (fun z => absurd z (by decide))
  have hz := si_z hu q (k := 466) (Or.inl rfl)
  have e1 : u2_ (u2_ (u2_ b 466 0 0) 466 1 0) 467 1 x = u2_ (u2_ (u2_ b 467 1 x) 466 0 0) 466 1 0 := by
    rw [u2_c (a := u2_ b 466 0 0) (by decide), u2_c (a := b) (k := 466) (j := 0) (k' := 467) (j' := 1) (by decide)]
  have e2 : fy2_ (u2_ a 467 1 x) 466 2 0 468 s = a 468 s := (fy2_k (by decide) s).trans (f8 s)
  have e3 : wr_ (u2_ a 467 1 x 468 s + v) = a 468 s + v := by
    rw [f8]
    exact wr_9 (by omega)
  have ha : SI_ m (n + 1) r (adR_ (u2_ (u2_ (u2_ b 466 0 0) 466 1 0) 467 1 x) s v) (u2_ (fy2_ (u2_ a 467 1 x) 466 2 0) 468 s (wr_ (u2_ a 467 1 x 468 s + v))) := by
    rw [e1]
    exact si_ad hz h0 h1 (by rw [e2, f8]) (by omega)
  by_cases c : wr_ (r 11 - 1) ≤ a 103 4 ∧ s = 0 ∧ a 468 1 < a 468 0 + v
  · rw [gb9__1 (r := r) (a := u2_ a 467 1 x) (s := s) (v := v) (by omega), avR__1 (r := r) (a := b) (s := s) (b := x) (v := v) (by omega)]
    exact si_w ha (Or.inr ⟨rfl, rfl⟩)
  · rw [gb9__2 (r := r) (a := u2_ a 467 1 x) (s := s) (v := v) (by omega), avR__2 (r := r) (a := b) (s := s) (b := x) (v := v) (by omega)]
    exact ha
theorem wk_t : ∀ n : Nat, n < 8 → (n = 7 ∨ an_ (n : Int) 1 = 0 ∨ an_ (n : Int) 2 = 0 ∨ n = 3) ∧ (0 ≤ or_ (n : Int) 1 ∧ or_ (n : Int) 1 ≤ 7) ∧ (0 ≤ or_ (n : Int) 2 ∧ or_ (n : Int) 2 ≤ 7) := by decide +kernel
/-- a walk -/
theorem si_wk {m n : Int} {r : Int → Int} {b a : Sg_} {s : Int} (h : SI_ m n r b a) (q : RB9_ r) (h0 : 0 ≤ s) (h1 : s ≤ 1) (r3 : r 0 = 3) (g : n + 1 ≤ 1000000) : SI_ m (n + 1) r (wkR_ r b s) (wk9_ r a s) := by
  have d7 : b 467 1 = a 467 1 := h.1.2.1.2.2.2.1
  have b7 := h.2.2.2.1 467 1 (by decide) (by decide) (by decide)
  have b9 := h.2.2.2.2.2.2.2.1 r3
  have t := wk_t (a 467 1).toNat (by omega)
  rw [show (((a 467 1).toNat : Nat) : Int) = a 467 1 by omega] at t
  obtain ⟨t1, t2, t3⟩ := t
  by_cases c1 : an_ (a 467 1) 1 = 0
  · have n7 : ¬ (a 467 1 = 7) := fun e => by rw [e] at c1; exact absurd c1 (by decide +kernel)
    rw [wk9__2 (r := r) (a := a) (s := s) c1 n7, wkR__1 (r := r) (a := b) (s := s) (by rw [d7]; exact c1), d7]
    exact si_av h q h0 h1 t2 (by omega) r3 g
  · by_cases c2 : an_ (a 467 1) 2 = 0
    · have n7 : ¬ (a 467 1 = 7) := fun e => by rw [e] at c2; exact absurd c2 (by decide +kernel)
      rw [wk9__4 (r := r) (a := a) (s := s) c1 c2 n7, wkR__2 (r := r) (a := b) (s := s) (by rw [d7]; exact c1) (by rw [d7]; exact c2), d7]
      exact si_av h q h0 h1 t3 (by omega) r3 g
    · by_cases c3 : a 467 1 = 7
      · have c4 : ¬ (an_ (a 467 1) 4 = 0) := by rw [c3]; decide +kernel
        rw [wk9__5 (r := r) (a := a) (s := s) c1 c2 c3, wkR__4 (r := r) (a := b) (s := s) (by rw [d7]; exact c1) (by rw [d7]; exact c2) (by rw [d7]; exact c4), d7, c3]
        exact si_av h q h0 h1 (by omega) (by omega) r3 g
      · have e3 : a 467 1 = 3 := by omega
        have c4 : an_ (a 467 1) 4 = 0 := by rw [e3]; decide +kernel
        rw [wk9__6 (r := r) (a := a) (s := s) c1 c2 c3, wkR__3 (r := r) (a := b) (s := s) (by rw [d7]; exact c1) (by rw [d7]; exact c2) (by rw [d7]; exact c4), d7, e3, show or_ 3 4 = 7 by decide +kernel]
        exact si_av h q h0 h1 (by omega) (by omega) r3 g
theorem ht_t : ∀ o : Nat, o < 8 → ∀ v : Nat, v < 4 → (hbR_ (o : Int) ((v : Int) + 1) 4).1 = an_ (or_ (sl_ (o : Int) ((v : Int) + 1)) (sl_ 1 (wr_ ((v : Int) + 1 - 1)))) 7 ∧ (hbR_ (o : Int) ((v : Int) + 1) 4).2 = bc9_ (sr_ (or_ (sl_ (o : Int) ((v : Int) + 1)) (sl_ 1 (wr_ ((v : Int) + 1 - 1)))) 3) ∧ (0 ≤ (hbR_ (o : Int) ((v : Int) + 1) 4).1 ∧ (hbR_ (o : Int) ((v : Int) + 1) 4).1 ≤ 7) ∧ (0 ≤ (hbR_ (o : Int) ((v : Int) + 1) 4).2 ∧ (hbR_ (o : Int) ((v : Int) + 1) 4).2 ≤ 4) := by decide +kernel
/-- a hit -/
theorem si_ht {m n : Int} {r : Int → Int} {b a : Sg_} {s v : Int} (h : SI_ m n r b a) (q : RB9_ r) (h0 : 0 ≤ s) (h1 : s ≤ 1) (hv : 1 ≤ v ∧ v ≤ 4) (r3 : r 0 = 3) (g : n + 1 ≤ 1000000) : SI_ m (n + 1) r (htR_ r b s v) (ht9_ r a s v) := by
  have d7 : b 467 1 = a 467 1 := h.1.2.1.2.2.2.1
  have b7 := h.2.2.2.1 467 1 (by decide) (by decide) (by decide)
  have b9 := h.2.2.2.2.2.2.2.1 r3
  have t := ht_t (a 467 1).toNat (by omega) (v - 1).toNat (by omega)
  rw [show (((a 467 1).toNat : Nat) : Int) = a 467 1 by omega, show (((v - 1).toNat : Nat) : Int) + 1 = v by omega] at t
  obtain ⟨t1, t2, t3, t4⟩ := t
  rw [ht9__1 (r := r) (a := a) (s := s) (v := v), htR__1 (r := r) (a := b) (s := s) (v := v), d7, ← t1, ← t2]
  exact si_av h q h0 h1 t3 t4 r3 g
/-- baseball -/
theorem si_pb {m n : Int} {r : Int → Int} {b a : Sg_} {k s v : Int} (h : SI_ m n r b a) (q : RB9_ r) (h0 : 0 ≤ s) (h1 : s ≤ 1) (hv : k = 1 → 1 ≤ v ∧ v ≤ 4) (r3 : r 0 = 3) (g : n + 3 ≤ 1000000) : SI_ m (n + 3) r (pbR_ r b k s v) (pbb9_ r a k s v) := by
  have n0 := h.2.2.1
  have d0 : b 466 0 = a 466 0 := h.1.2.1.1
  have d1 : b 466 1 = a 466 1 := h.1.2.1.2.1
  have b0 := h.2.2.2.1 466 0 (by decide) (by decide) (by decide)
  have b1 := h.2.2.2.1 466 1 (by decide) (by decide) (by decide)
  have w0 : wr_ (a 466 0 + 1) = a 466 0 + 1 := wr_9 (by omega)
  have w1 : wr_ (a 466 1 + 1) = a 466 1 + 1 := wr_9 (by omega)
  by_cases k1 : k = 1
  · rw [pbb9__1 (r := r) (a := a) (k := k) (s := s) (v := v) k1, pbR__1 (r := r) (a := b) (k := k) (s := s) (v := v) k1]
    exact si_m (si_ht h q h0 h1 (hv k1) r3 (by omega)) (by omega) g
  by_cases k2 : k = 2
  · have hu : SI_ m (n + 1) r (u2_ b 466 0 (wr_ (a 466 0 + 1))) (u2_ a 466 0 (wr_ (a 466 0 + 1))) := si_u (si_m h (by omega) (by omega)) (Or.inl (by decide)) (by omega) (fun z => absurd z (by decide)) (fun z => absurd z (by decide)) (fun z => absurd z (by decide))
    by_cases c : wr_ (a 466 0 + 1) = 4
    · rw [pbb9__2 (r := r) (a := a) (k := k) (s := s) (v := v) k1 k2 c, pbR__2 (r := r) (a := b) (k := k) (s := s) (v := v) k1 k2 (by rw [d0]; exact c), d0]
      exact si_m (si_wk hu q h0 h1 r3 (by omega)) (by omega) g
    · rw [pbb9__3 (r := r) (a := a) (k := k) (s := s) (v := v) k1 k2 c, pbR__3 (r := r) (a := b) (k := k) (s := s) (v := v) k1 k2 (by rw [d0]; exact c), d0]
      exact si_m hu (by omega) g
  by_cases k3 : k = 3
  · have hu : SI_ m (n + 1) r (u2_ b 466 1 (wr_ (a 466 1 + 1))) (u2_ a 466 1 (wr_ (a 466 1 + 1))) := si_u (si_m h (by omega) (by omega)) (Or.inl (by decide)) (by omega) (fun z => absurd z (by decide)) (fun z => absurd z (by decide)) (fun z => absurd z (by decide))
    by_cases c : wr_ (a 466 1 + 1) = 3
    · rw [pbb9__4 (r := r) (a := a) (k := k) (s := s) (v := v) k1 k2 k3 c, pbR__4 (r := r) (a := b) (k := k) (s := s) (v := v) k1 k2 k3 (by rw [d1]; exact c), d1]
      have := si_ot hu q r3 (by omega)
      rw [show n + 1 + 2 = n + 3 by omega] at this
      exact this
    · rw [pbb9__5 (r := r) (a := a) (k := k) (s := s) (v := v) k1 k2 k3 c, pbR__5 (r := r) (a := b) (k := k) (s := s) (v := v) k1 k2 k3 (by rw [d1]; exact c), d1]
      exact si_m hu (by omega) g
  rw [pbb9__6 (r := r) (a := a) (k := k) (s := s) (v := v) k1 k2 k3, pbR__6 (r := r) (a := b) (k := k) (s := s) (v := v) k1 k2 k3]
  exact si_m (si_ot h q r3 (by omega)) (by omega) g
/-- the laws are the same -/
theorem lw_q {m : Int} {r : Int → Int} {b a : Sg_} {k s q o : Int} (h : EQP_ m b a) (w : WS_ a) (v8 : ∀ s, 0 ≤ s → s ≤ 1 → a 469 s ≤ r 10) : lwR_ r b k s q o = lw9_ r a k s q o := by
  have hh := h
  obtain ⟨_, _, ⟨p4, p5, p3⟩, _, _⟩ := hh
  by_cases c1 : a 103 3 ≠ 0
  · rw [lw9__1 (r := r) (a := a) (k := k) (s := s) (q := q) (o := o) c1, lwR__1 (r := r) (a := b) (k := k) (s := s) (q := q) (o := o) (show b 103 3 ≠ 1 by omega)]
  have d1 : ¬ (b 103 3 ≠ 1) := by omega
  by_cases c2 : ¬ ((k = 0 ∨ (0 ≤ s ∧ s ≤ 1)) ∧ ((r 0 = 0 ∧ 0 ≤ k ∧ k ≤ 5) ∨ (r 0 = 1 ∧ (k = 1 ∨ k = 5)) ∨ (r 0 = 2 ∧ (k = 1 ∨ k = 6)) ∨ (¬ r 0 = 0 ∧ ¬ r 0 = 1 ∧ ¬ r 0 = 2 ∧ 1 ≤ k ∧ k ≤ 4)))
  · rw [lw9__2 (r := r) (a := a) (k := k) (s := s) (q := q) (o := o) c1 c2, lwR__2 (r := r) (a := b) (k := k) (s := s) (q := q) (o := o) d1 (fun t => c2 ⟨t.2.elim (fun y => Or.inl y.2) Or.inr, t.1⟩)]
  have f2 : (k = 0 ∨ (0 ≤ s ∧ s ≤ 1)) ∧ ((r 0 = 0 ∧ 0 ≤ k ∧ k ≤ 5) ∨ (r 0 = 1 ∧ (k = 1 ∨ k = 5)) ∨ (r 0 = 2 ∧ (k = 1 ∨ k = 6)) ∨ (¬ r 0 = 0 ∧ ¬ r 0 = 1 ∧ ¬ r 0 = 2 ∧ 1 ≤ k ∧ k ≤ 4)) := Classical.byContradiction c2
  have f3 : (r 0 = 0 ∧ k = 0) ∨ (0 ≤ s ∧ s ≤ 1) := by
    rcases f2.1 with z | z
    · rcases f2.2 with y | y | y | y
      · exact Or.inl ⟨y.1, z⟩
      · clear c2 f2; exfalso; omega
      · clear c2 f2; exfalso; omega
      · clear c2 f2; exfalso; omega
    · exact Or.inr z
  have d2 : ¬ (¬ (((r 0 = 0 ∧ 0 ≤ k ∧ k ≤ 5) ∨ (r 0 = 1 ∧ (k = 1 ∨ k = 5)) ∨ (r 0 = 2 ∧ (k = 1 ∨ k = 6)) ∨ (¬ r 0 = 0 ∧ ¬ r 0 = 1 ∧ ¬ r 0 = 2 ∧ 1 ≤ k ∧ k ≤ 4)) ∧ ((r 0 = 0 ∧ k = 0) ∨ (0 ≤ s ∧ s ≤ 1)))) := fun t => t ⟨f2.2, f3⟩
  by_cases c3 : ¬ ((r 0 = 0 ∧ (a 103 4 ≠ 1 ∨ (k ≠ 1 ∧ k ≠ 2))) ∨ (r 0 ≠ 0 ∧ (r 0 ≠ 3 ∨ s = a 103 5)))
  · rw [lw9__3 (r := r) (a := a) (k := k) (s := s) (q := q) (o := o) c1 c2 c3, lwR__3 (r := r) (a := b) (k := k) (s := s) (q := q) (o := o) d1 d2 (show (r 0 = 0 ∧ (k = 1 ∨ k = 2) ∧ b 103 4 = 1) ∨ (r 0 = 3 ∧ b 103 5 ≠ s) by clear c2 f2 f3 d2; omega)]
  have d3 : ¬ ((r 0 = 0 ∧ (k = 1 ∨ k = 2) ∧ b 103 4 = 1) ∨ (r 0 = 3 ∧ b 103 5 ≠ s)) := by clear c2 f2 f3 d2; omega
  by_cases c5 : k = 5 ∨ (r 0 = 0 ∧ k ≠ 0)
  · have hs : 0 ≤ s ∧ s ≤ 1 := by
      rcases f3 with z | z
      · exfalso
        rcases c5 with y | y
        · omega
        · exact y.2 z.2
      · exact z
    have d5 : (r 0 = 0 ∧ 0 < k) ∨ (r 0 = 1 ∧ k = 5) := by
      obtain ⟨fa, fb⟩ := f2
      clear c2 c3 d2 d3 f3 fa
      rcases fb with y | y | y | y
      · exact Or.inl ⟨y.1, by omega⟩
      · exact Or.inr ⟨y.1, by omega⟩
      · exfalso; omega
      · exfalso; omega
    rcases k_f (q := q) h w hs.1 hs.2 with z | z
    · rw [lw9__4 (r := r) (a := a) (k := k) (s := s) (q := q) (o := o) c1 c2 c3 ⟨c5, z.1⟩, lwR__4 (r := r) (a := b) (k := k) (s := s) (q := q) (o := o) d1 d2 d3 d5 z.2]
    · have z4 : ¬ ((k = 5 ∨ (r 0 = 0 ∧ k ≠ 0)) ∧ fp9_ a s q = -1) := fun y => by have y2 := y.2; clear y; omega
      have z5 : ¬ (¬ (slR_ b s q ≠ -1 ∧ b 472 (slR_ b s q) = 1)) := fun y => y ⟨fun t => by have g := w.2.1 s _ hs.1 hs.2 (show s * 6 ≤ s * 6 + fp9_ a s q by omega) (by omega); omega, z.2.2.2⟩
      by_cases c6 : k = 5
      · rcases k_b (q := o) h w hs.1 hs.2 with y | y
        · rw [lw9__5 (r := r) (a := a) (k := k) (s := s) (q := q) (o := o) c1 c2 c3 z4 c6 y.1, lwR__5 (r := r) (a := b) (k := k) (s := s) (q := q) (o := o) d1 d2 d3 d5 z5 c6 y.2]
        · have y5 : ¬ (bq9_ a s o = -1) := by omega
          have y6 : ¬ (¬ (slR_ b s o ≠ -1 ∧ b 472 (slR_ b s o) = 0)) := fun t => t ⟨by omega, y.2.2.2.1⟩
          have e9 := (eq_j h hs.1 hs.2).2.2.2.2.2
          have v9 := v8 s hs.1 hs.2
          by_cases c8 : r 10 ≤ a 469 s
          · rw [lw9__6 (r := r) (a := a) (k := k) (s := s) (q := q) (o := o) c1 c2 c3 z4 c6 y5 c8, lwR__6 (r := r) (a := b) (k := k) (s := s) (q := q) (o := o) d1 d2 d3 d5 z5 c6 y6 (by omega)]
          · have c7 : ¬ (b 469 s = r 10) := by omega
            by_cases c9 : r 0 ≠ 3 ∨ k ≠ 1 ∨ (1 ≤ o ∧ o ≤ 4)
            · rw [lw9__7 (r := r) (a := a) (k := k) (s := s) (q := q) (o := o) c1 c2 c3 z4 c6 y5 c8 c9, lwR__7 (r := r) (a := b) (k := k) (s := s) (q := q) (o := o) d1 d2 d3 d5 z5 c6 y6 c7 c9]
            · rw [lw9__8 (r := r) (a := a) (k := k) (s := s) (q := q) (o := o) c1 c2 c3 z4 c6 y5 c8 c9, lwR__8 (r := r) (a := b) (k := k) (s := s) (q := q) (o := o) d1 d2 d3 d5 z5 c6 y6 c7 c9]
      · have c7 : k ≠ 5 := c6
        by_cases c9 : r 0 ≠ 3 ∨ k ≠ 1 ∨ (1 ≤ o ∧ o ≤ 4)
        · rw [lw9__9 (r := r) (a := a) (k := k) (s := s) (q := q) (o := o) c1 c2 c3 z4 c6 c9, lwR__9 (r := r) (a := b) (k := k) (s := s) (q := q) (o := o) d1 d2 d3 d5 z5 c6 c9]
        · rw [lw9__10 (r := r) (a := a) (k := k) (s := s) (q := q) (o := o) c1 c2 c3 z4 c6 c9, lwR__10 (r := r) (a := b) (k := k) (s := s) (q := q) (o := o) d1 d2 d3 d5 z5 c6 c9]
  · have z4 : ¬ ((k = 5 ∨ (r 0 = 0 ∧ k ≠ 0)) ∧ fp9_ a s q = -1) := fun y => c5 y.1
    have c6 : ¬ (k = 5) := fun z => c5 (Or.inl z)
    have d5 : ¬ ((r 0 = 0 ∧ 0 < k) ∨ (r 0 = 1 ∧ k = 5)) := fun t => c5 (t.elim (fun t => Or.inr ⟨t.1, fun z => by have t2 := t.2; omega⟩) (fun t => Or.inl t.2))
    by_cases c9 : r 0 ≠ 3 ∨ k ≠ 1 ∨ (1 ≤ o ∧ o ≤ 4)
    · rw [lw9__9 (r := r) (a := a) (k := k) (s := s) (q := q) (o := o) c1 c2 c3 z4 c6 c9, lwR__11 (r := r) (a := b) (k := k) (s := s) (q := q) (o := o) d1 d2 d3 d5 c9]
    · rw [lw9__10 (r := r) (a := a) (k := k) (s := s) (q := q) (o := o) c1 c2 c3 z4 c6 c9, lwR__12 (r := r) (a := b) (k := k) (s := s) (q := q) (o := o) d1 d2 d3 d5 c9]
theorem fy2_u {a : Sg_} {k : Nat} {s v : Int} (h0 : 0 ≤ s) (h1 : s ≤ 1) : fy2_ (u2_ a k s v) k 2 0 = fy2_ a k 2 0 := by
  funext K J
  by_cases z : K = k
  · subst z
    by_cases y : 0 ≤ J ∧ J < 2
    · rw [fy2_s y, fy2_s y]
    · rw [fy2_o y, fy2_o y]
      exact u2_n (fun q => by omega)
  · rw [fy2_k z, fy2_k z]
    exact u2_k z J
theorem u2_o2 {a : Sg_} {k : Nat} {s v : Int} (h0 : 0 ≤ s) (h1 : s ≤ 1) : u2_ (u2_ (u2_ a k s v) k 0 0) k 1 0 = u2_ (u2_ a k 0 0) k 1 0 := by
  rw [← fy2_2, ← fy2_2]
  exact fy2_u h0 h1
/-- tennis -/
theorem si_pt {m n : Int} {r : Int → Int} {b a : Sg_} {k s : Int} (h : SI_ m n r b a) (q : RB9_ r) (h0 : 0 ≤ s) (h1 : s ≤ 1) (r2 : r 0 = 2) (g : n + 1 ≤ 1000000) : SI_ m (n + 1) r (ptR_ r b k s) (pt9_ r a k s) := by
  have n0 := h.2.2.1
  have q4 := q.2.2.2.1
  have h9 := si_m (n' := n + 1) h (by omega) g
  have ej := eq_j h.1 h0 h1
  have et := eq_j h.1 (s := 1 - s) (by omega) (by omega)
  have d66 : b 466 s = a 466 s := ej.2.2.1
  have d66t : b 466 (1 - s) = a 466 (1 - s) := et.2.2.1
  have d67 : b 467 s = a 467 s := ej.2.2.2.1
  have d67t : b 467 (1 - s) = a 467 (1 - s) := et.2.2.2.1
  have d670 : b 467 0 = a 467 0 := h.1.2.1.2.2.1
  have d671 : b 467 1 = a 467 1 := h.1.2.1.2.2.2.1
  have d680 : b 468 0 = a 468 0 := h.1.2.1.2.2.2.2.1
  have d681 : b 468 1 = a 468 1 := h.1.2.1.2.2.2.2.2.1
  have d4 : b 103 4 = a 103 4 := h.1.2.2.1.1
  have d5 : b 103 5 = a 103 5 := h.1.2.2.1.2.1
  have b66 := h.2.2.2.1 466 s (by decide) h0 h1
  have b66t := h.2.2.2.1 466 (1 - s) (by decide) (by omega) (by omega)
  have b67 := h.2.2.2.1 467 s (by decide) h0 h1
  have b67t := h.2.2.2.1 467 (1 - s) (by decide) (by omega) (by omega)
  have b68 := h.2.2.2.1 468 s (by decide) h0 h1
  have b680 := h.2.2.2.1 468 0 (by decide) (by decide) (by decide)
  have b681 := h.2.2.2.1 468 1 (by decide) (by decide) (by decide)
  have c67 := h.2.2.2.2.2.2.2.2.1 r2 s h0 h1
  have b4 := h.2.2.2.2.1
  have b5 := h.2.2.2.2.2.1
  have t0 : s = 0 → a 468 s = a 468 0 := fun e => by rw [e]
  have t1 : s = 1 → a 468 s = a 468 1 := fun e => by rw [e]
  have w1 : wr_ (a 466 s + 1) = a 466 s + 1 := wr_9 (by omega)
  have w1b : wr_ (b 466 s + 1) = a 466 s + 1 := by rw [d66]; exact w1
  have w2 : wr_ (wr_ (a 466 s + 1) - a 466 (1 - s)) = a 466 s + 1 - a 466 (1 - s) := by rw [w1]; exact wr_9 (by omega)
  have w3 : wr_ (b 466 (1 - s) + 2) = a 466 (1 - s) + 2 := by rw [d66t]; exact wr_9 (by omega)
  have w4 : wr_ (a 467 s + 1) = a 467 s + 1 := wr_9 (by omega)
  have w4b : wr_ (b 467 s + 1) = a 467 s + 1 := by rw [d67]; exact w4
  have w5 : wr_ (wr_ (a 467 s + 1) - a 467 (1 - s)) = a 467 s + 1 - a 467 (1 - s) := by rw [w4]; exact wr_9 (by omega)
  have w6 : wr_ (b 467 (1 - s) + 2) = a 467 (1 - s) + 2 := by rw [d67t]; exact wr_9 (by omega)
  have w7 : wr_ (r 11 + 1) = r 11 + 1 := wr_9 (by omega)
  have w8 : wr_ (a 103 4 + 1) = a 103 4 + 1 := wr_9 (by omega)
  have w8b : wr_ (b 103 4 + 1) = a 103 4 + 1 := by rw [d4]; exact w8
  have w9 : wr_ (1 - b 103 5) = 1 - a 103 5 := by rw [d5]; exact wr_9 (by omega)
  have ws : wr_ (a 468 s + 1) = a 468 s + 1 := wr_9 (by omega)
  have ws0 : wr_ (b 468 0 + 1) = a 468 0 + 1 := by rw [d680]; exact wr_9 (by omega)
  have ws1 : wr_ (b 468 1 + 1) = a 468 1 + 1 := by rw [d681]; exact wr_9 (by omega)
  by_cases k6 : k = 6
  · rw [pt9__1 (r := r) (a := a) (k := k) (s := s) k6]
    rcases (by omega : s = 0 ∨ s = 1) with z | z
    · subst z
      rw [ptR__2 (r := r) (a := b) (k := k) (s := 0) k6 (by decide), u2_m (a := u2_ b 103 3 2) (k := 468) (j := 0) (v := b 468 0) (u2_k (by decide) 0), u2_c (a := b) (k := 103) (j := 3) (k' := 468) (j' := 1) (by decide), show (1 : Int) - 0 = 1 by decide]
      exact si_w (si_u h9 (Or.inl (by decide)) (by omega) (fun z => absurd z (by decide)) (fun z => absurd z (by decide)) (fun z => absurd z (by decide))) (Or.inr ⟨rfl, rfl⟩)
    · subst z
      rw [ptR__1 (r := r) (a := b) (k := k) (s := 1) k6 rfl, u2_m (a := u2_ (u2_ b 103 3 2) 468 0 2) (k := 468) (j := 1) (v := b 468 1) ((u2_n (fun e => absurd e.2 (by decide))).trans (u2_k (by decide) 1)), u2_c (a := b) (k := 103) (j := 3) (k' := 468) (j' := 0) (by decide), show (1 : Int) - 1 = 0 by decide]
      exact si_w (si_u h9 (Or.inl (by decide)) (by omega) (fun z => absurd z (by decide)) (fun z => absurd z (by decide)) (fun z => absurd z (by decide))) (Or.inr ⟨rfl, rfl⟩)
  have hp : SI_ m (n + 1) r (u2_ b 466 s (a 466 s + 1)) (u2_ a 466 s (a 466 s + 1)) := si_u h9 (Or.inl (by decide)) (by omega) (fun z => absurd z (by decide)) (fun z => absurd z (by decide)) (fun z => absurd z (by decide))
  have hq := si_z hp q (k := 466) (Or.inl rfl)
  have hg : a 467 s + 1 ≤ r 11 → SI_ m (n + 1) r (u2_ (u2_ (u2_ (u2_ b 466 s (a 466 s + 1)) 466 0 0) 466 1 0) 467 s (a 467 s + 1)) (u2_ (fy2_ (u2_ a 466 s (a 466 s + 1)) 466 2 0) 467 s (a 467 s + 1)) := fun y => si_u hq (Or.inl (by decide)) (by omega) (fun z => absurd z (by decide)) (fun _ => ⟨fun z => by omega, fun _ => y⟩) (fun z => absurd z (by decide))
  have hs : SI_ m (n + 1) r (adR_ (u2_ (u2_ (u2_ (u2_ (u2_ (u2_ b 466 s (a 466 s + 1)) 466 0 0) 466 1 0) 467 s (a 467 s + 1)) 467 0 0) 467 1 0) s 1) (u2_ (fy2_ (u2_ (fy2_ (u2_ a 466 s (a 466 s + 1)) 466 2 0) 467 s (a 467 s + 1)) 467 2 0) 468 s (a 468 s + 1)) := by
    rw [fy2_u h0 h1, u2_o2 h0 h1]
    refine si_ad (si_z hq q (k := 467) (Or.inr rfl)) h0 h1 ?_ (by omega)
    rw [fy2_k (by decide), fy2_k (by decide), u2_k (by decide)]
    exact ws.symm
  by_cases c1 : a 467 0 = r 11 ∧ a 467 1 = r 11
  · have r1 : b 467 0 = r 11 ∧ b 467 1 = r 11 := by rw [d670, d671]; exact c1
    by_cases c2 : 7 ≤ a 466 s + 1 ∧ 2 ≤ a 466 s + 1 - a 466 (1 - s)
    · have p2 : 7 ≤ wr_ (a 466 s + 1) ∧ 2 ≤ wr_ (wr_ (a 466 s + 1) - a 466 (1 - s)) := by rw [w2, w1]; exact c2
      have r2 : 7 ≤ wr_ (b 466 s + 1) ∧ wr_ (b 466 (1 - s) + 2) ≤ wr_ (b 466 s + 1) := by rw [w1b, w3]; exact ⟨c2.1, by have := c2.2; omega⟩
      by_cases c3 : (r 11 ≤ a 467 s + 1 ∧ 2 ≤ a 467 s + 1 - a 467 (1 - s)) ∨ r 11 < a 467 s + 1
      · have p3 : (r 11 ≤ wr_ (a 467 s + 1) ∧ 2 ≤ wr_ (wr_ (a 467 s + 1) - a 467 (1 - s))) ∨ r 11 < wr_ (a 467 s + 1) := by rw [w5, w4]; exact c3
        have r3 : (r 11 ≤ wr_ (b 467 s + 1) ∧ wr_ (b 467 (1 - s) + 2) ≤ wr_ (b 467 s + 1)) ∨ wr_ (b 467 s + 1) = wr_ (r 11 + 1) := by
          rw [w4b, w6, w7]
          exact c3.elim (fun z => Or.inl ⟨z.1, by have := z.2; clear c3; omega⟩) (fun z => Or.inr (by clear c3; omega))
        clear c3
        by_cases c4 : a 468 s + 1 = 2
        · have p4 : wr_ (a 468 s + 1) = 2 := by rw [ws]; exact c4
          have r4 : (s = 0 ∧ wr_ (b 468 0 + 1) = 2) ∨ (s = 1 ∧ wr_ (b 468 1 + 1) = 2) := by
            rw [ws0, ws1]
            rcases (by clear p3 r3; omega : s = 0 ∨ s = 1) with z | z
            · exact Or.inl ⟨z, by rw [← t0 z]; exact c4⟩
            · exact Or.inr ⟨z, by rw [← t1 z]; exact c4⟩
          rw [pt9__2 (r := r) (a := a) (k := k) (s := s) k6 c1 p2 p3 p4, ptR__3 (r := r) (a := b) (k := k) (s := s) k6 r1 r2 r3 r4, w1, w1b, w4, w4b, ws]
          exact si_w hs (Or.inr ⟨rfl, rfl⟩)
        · have p4 : ¬ (wr_ (a 468 s + 1) = 2) := by rw [ws]; exact c4
          have r4 : ¬ ((s = 0 ∧ wr_ (b 468 0 + 1) = 2) ∨ (s = 1 ∧ wr_ (b 468 1 + 1) = 2)) := by
            rw [ws0, ws1]
            exact fun z => z.elim (fun y => c4 (by rw [t0 y.1]; exact y.2)) (fun y => c4 (by rw [t1 y.1]; exact y.2))
          rw [pt9__3 (r := r) (a := a) (k := k) (s := s) k6 c1 p2 p3 p4, ptR__4 (r := r) (a := b) (k := k) (s := s) k6 r1 r2 r3 r4, w1, w1b, w4, w4b, ws, w8, w8b, w9]
          clear p3 r3 r4 p4 t0 t1
          exact si_u (si_u hs (Or.inr ⟨rfl, Or.inl rfl⟩) (by omega) (fun _ z => absurd z (by decide)) (fun z => absurd z (by decide)) (fun z => absurd z (by decide))) (Or.inr ⟨rfl, Or.inr rfl⟩) (by omega) (fun _ _ => by omega) (fun z => absurd z (by decide)) (fun z => absurd z (by decide))
      · have p3 : ¬ ((r 11 ≤ wr_ (a 467 s + 1) ∧ 2 ≤ wr_ (wr_ (a 467 s + 1) - a 467 (1 - s))) ∨ r 11 < wr_ (a 467 s + 1)) := by rw [w5, w4]; exact c3
        have r3 : ¬ ((r 11 ≤ wr_ (b 467 s + 1) ∧ wr_ (b 467 (1 - s) + 2) ≤ wr_ (b 467 s + 1)) ∨ wr_ (b 467 s + 1) = wr_ (r 11 + 1)) := by
          rw [w4b, w6, w7]
          exact fun z => z.elim (fun y => c3 (Or.inl ⟨y.1, by have := y.2; clear c3 p3; omega⟩)) (fun y => c3 (Or.inr (by clear c3 p3; omega)))
        have h3 : a 467 s + 1 ≤ r 11 := Int.not_lt.mp (fun z => c3 (Or.inr z))
        rw [pt9__4 (r := r) (a := a) (k := k) (s := s) k6 c1 p2 p3, ptR__5 (r := r) (a := b) (k := k) (s := s) k6 r1 r2 r3, w1, w1b, w4, w4b, w9]
        clear p3 r3 c3 t0 t1
        exact si_u (hg h3) (Or.inr ⟨rfl, Or.inr rfl⟩) (by omega) (fun _ _ => by omega) (fun z => absurd z (by decide)) (fun z => absurd z (by decide))
    · have p2 : ¬ (7 ≤ wr_ (a 466 s + 1) ∧ 2 ≤ wr_ (wr_ (a 466 s + 1) - a 466 (1 - s))) := by rw [w2, w1]; exact c2
      have r2 : ¬ (7 ≤ wr_ (b 466 s + 1) ∧ wr_ (b 466 (1 - s) + 2) ≤ wr_ (b 466 s + 1)) := by rw [w1b, w3]; exact fun z => c2 ⟨z.1, by have := z.2; omega⟩
      rw [pt9__5 (r := r) (a := a) (k := k) (s := s) k6 c1 p2, ptR__6 (r := r) (a := b) (k := k) (s := s) k6 r1 r2, w1, w1b]
      exact hp
  · have r1 : ¬ (b 467 0 = r 11 ∧ b 467 1 = r 11) := by rw [d670, d671]; exact c1
    by_cases c2 : 4 ≤ a 466 s + 1 ∧ 2 ≤ a 466 s + 1 - a 466 (1 - s)
    · have p2 : 4 ≤ wr_ (a 466 s + 1) ∧ 2 ≤ wr_ (wr_ (a 466 s + 1) - a 466 (1 - s)) := by rw [w2, w1]; exact c2
      have r2 : 4 ≤ wr_ (b 466 s + 1) ∧ wr_ (b 466 (1 - s) + 2) ≤ wr_ (b 466 s + 1) := by rw [w1b, w3]; exact ⟨c2.1, by have := c2.2; omega⟩
      by_cases c3 : (r 11 ≤ a 467 s + 1 ∧ 2 ≤ a 467 s + 1 - a 467 (1 - s)) ∨ r 11 < a 467 s + 1
      · have p3 : (r 11 ≤ wr_ (a 467 s + 1) ∧ 2 ≤ wr_ (wr_ (a 467 s + 1) - a 467 (1 - s))) ∨ r 11 < wr_ (a 467 s + 1) := by rw [w5, w4]; exact c3
        have r3 : (r 11 ≤ wr_ (b 467 s + 1) ∧ wr_ (b 467 (1 - s) + 2) ≤ wr_ (b 467 s + 1)) ∨ wr_ (b 467 s + 1) = wr_ (r 11 + 1) := by
          rw [w4b, w6, w7]
          exact c3.elim (fun z => Or.inl ⟨z.1, by have := z.2; clear c3; omega⟩) (fun z => Or.inr (by clear c3; omega))
        clear c3
        by_cases c4 : a 468 s + 1 = 2
        · have p4 : wr_ (a 468 s + 1) = 2 := by rw [ws]; exact c4
          have r4 : (s = 0 ∧ wr_ (b 468 0 + 1) = 2) ∨ (s = 1 ∧ wr_ (b 468 1 + 1) = 2) := by
            rw [ws0, ws1]
            rcases (by clear p3 r3; omega : s = 0 ∨ s = 1) with z | z
            · exact Or.inl ⟨z, by rw [← t0 z]; exact c4⟩
            · exact Or.inr ⟨z, by rw [← t1 z]; exact c4⟩
          rw [pt9__6 (r := r) (a := a) (k := k) (s := s) k6 c1 p2 p3 p4, ptR__7 (r := r) (a := b) (k := k) (s := s) k6 r1 r2 r3 r4, w1, w1b, w4, w4b, ws]
          exact si_w hs (Or.inr ⟨rfl, rfl⟩)
        · have p4 : ¬ (wr_ (a 468 s + 1) = 2) := by rw [ws]; exact c4
          have r4 : ¬ ((s = 0 ∧ wr_ (b 468 0 + 1) = 2) ∨ (s = 1 ∧ wr_ (b 468 1 + 1) = 2)) := by
            rw [ws0, ws1]
            exact fun z => z.elim (fun y => c4 (by rw [t0 y.1]; exact y.2)) (fun y => c4 (by rw [t1 y.1]; exact y.2))
          rw [pt9__7 (r := r) (a := a) (k := k) (s := s) k6 c1 p2 p3 p4, ptR__8 (r := r) (a := b) (k := k) (s := s) k6 r1 r2 r3 r4, w1, w1b, w4, w4b, ws, w8, w8b, w9]
          clear p3 r3 r4 p4 t0 t1
          exact si_u (si_u hs (Or.inr ⟨rfl, Or.inl rfl⟩) (by omega) (fun _ z => absurd z (by decide)) (fun z => absurd z (by decide)) (fun z => absurd z (by decide))) (Or.inr ⟨rfl, Or.inr rfl⟩) (by omega) (fun _ _ => by omega) (fun z => absurd z (by decide)) (fun z => absurd z (by decide))
      · have p3 : ¬ ((r 11 ≤ wr_ (a 467 s + 1) ∧ 2 ≤ wr_ (wr_ (a 467 s + 1) - a 467 (1 - s))) ∨ r 11 < wr_ (a 467 s + 1)) := by rw [w5, w4]; exact c3
        have r3 : ¬ ((r 11 ≤ wr_ (b 467 s + 1) ∧ wr_ (b 467 (1 - s) + 2) ≤ wr_ (b 467 s + 1)) ∨ wr_ (b 467 s + 1) = wr_ (r 11 + 1)) := by
          rw [w4b, w6, w7]
          exact fun z => z.elim (fun y => c3 (Or.inl ⟨y.1, by have := y.2; clear c3 p3; omega⟩)) (fun y => c3 (Or.inr (by clear c3 p3; omega)))
        have h3 : a 467 s + 1 ≤ r 11 := Int.not_lt.mp (fun z => c3 (Or.inr z))
        rw [pt9__8 (r := r) (a := a) (k := k) (s := s) k6 c1 p2 p3, ptR__9 (r := r) (a := b) (k := k) (s := s) k6 r1 r2 r3, w1, w1b, w4, w4b, w9]
        clear p3 r3 c3 t0 t1
        exact si_u (hg h3) (Or.inr ⟨rfl, Or.inr rfl⟩) (by omega) (fun _ _ => by omega) (fun z => absurd z (by decide)) (fun z => absurd z (by decide))
    · have p2 : ¬ (4 ≤ wr_ (a 466 s + 1) ∧ 2 ≤ wr_ (wr_ (a 466 s + 1) - a 466 (1 - s))) := by rw [w2, w1]; exact c2
      have r2 : ¬ (4 ≤ wr_ (b 466 s + 1) ∧ wr_ (b 466 (1 - s) + 2) ≤ wr_ (b 466 s + 1)) := by rw [w1b, w3]; exact fun z => c2 ⟨z.1, by have := z.2; omega⟩
      rw [pt9__9 (r := r) (a := a) (k := k) (s := s) k6 c1 p2, ptR__10 (r := r) (a := b) (k := k) (s := s) k6 r1 r2, w1, w1b]
      exact hp
theorem dr_2 {x : Int} (h : 0 ≤ x ∧ x ≤ 2147483647) : dr_ x 2 = an_ x 1 := by
  have e1 : an_ x 1 = x % 2 := by
    rw [an_n h (by decide), show (1 : Int).toNat = 1 by decide, Nat.and_one_is_mod]
    omega
  rw [e1]
  unfold dr_
  have e2 : (Int32.ofInt x).toInt = x := by
    rw [Int32.toInt_ofInt_of_le (by omega) (by omega)]
  have e3 : (Int32.ofInt x / Int32.ofInt 2).toInt = x / 2 := by
    rw [Int32.toInt_div_of_ne_right (Int32.ofInt x) (Int32.ofInt 2) (by decide), e2]
    show Int.tdiv x 2 = x / 2
    rw [Int.tdiv_eq_ediv_of_nonneg (by omega)]
  rw [Int32.toInt_sub, Int32.toInt_mul, e2, e3]
  show Int.bmod (x - Int.bmod (x / 2 * 2) _) _ = x % 2
  rw [show Int.bmod (x / 2 * 2) (2 ^ 32) = x / 2 * 2 from Int.bmod_eq_of_le (by omega) (by omega), Int.bmod_eq_of_le (by omega) (by omega)]
  omega
/-- volleyball, a point, when the server is settled -/
theorem si_vo {m n : Int} {r : Int → Int} {b a b1 a1 : Sg_} {s : Int} (h : SI_ m n r b a) (hh : SI_ m n r b1 a1) (e8 : ∀ j, a1 468 j = a 468 j) (q : RB9_ r) (h0 : 0 ≤ s) (h1 : s ≤ 1) (r2 : r 0 = 1) (g : n + 1 ≤ 1000000) :
    SI_ m (n + 1) r (u2_ (u2_ b1 103 5 s) 466 s (a 466 s + 1)) (u2_ (u2_ a1 103 5 s) 466 s (a 466 s + 1)) ∧
    SI_ m (n + 1) r (adR_ (u2_ (u2_ (u2_ (u2_ b1 103 5 s) 466 s (a 466 s + 1)) 466 0 0) 466 1 0) s 1) (u2_ (fy2_ (u2_ (u2_ a1 103 5 s) 466 s (a 466 s + 1)) 466 2 0) 468 s (a 468 s + 1)) := by
  have n0 := h.2.2.1
  have b66 := h.2.2.2.1 466 s (by decide) h0 h1
  have b68 := h.2.2.2.1 468 s (by decide) h0 h1
  have ws : wr_ (a 468 s + 1) = a 468 s + 1 := wr_9 (by omega)
  have hc : SI_ m (n + 1) r (u2_ (u2_ b1 103 5 s) 466 s (a 466 s + 1)) (u2_ (u2_ a1 103 5 s) 466 s (a 466 s + 1)) := si_u (si_u (si_m hh (by omega) g) (Or.inr ⟨rfl, Or.inr rfl⟩) (by omega) (fun _ _ => by omega) (fun z => absurd z (by decide)) (fun z => absurd z (by decide))) (Or.inl (by decide)) (by omega) (fun z => absurd z (by decide)) (fun z => absurd z (by decide)) (fun z => absurd z (by decide))
  refine ⟨hc, si_ad (si_z hc q (k := 466) (Or.inl rfl)) h0 h1 ?_ (by omega)⟩
  rw [fy2_k (by decide), u2_k (by decide), u2_k (by decide), e8]
  exact ws.symm
theorem si_pv {m n : Int} {r : Int → Int} {b a : Sg_} {k s x y : Int} (h : SI_ m n r b a) (hr : SI_ m n r (rtR_ b s) (rt9_ a s)) (q : RB9_ r) (h0 : 0 ≤ s) (h1 : s ≤ 1) (k1 : k = 1) (r2 : r 0 = 1) (g : n + 1 ≤ 1000000) : SI_ m (n + 1) r (pvR_ r b m k s x y) (pv9_ r a s) := by
  have n0 := h.2.2.1
  have q4 := q.2.2.2.1
  have ej := eq_j h.1 h0 h1
  have et := eq_j h.1 (s := 1 - s) (by omega) (by omega)
  have d66 : b 466 s = a 466 s := ej.2.2.1
  have d66t : b 466 (1 - s) = a 466 (1 - s) := et.2.2.1
  have d680 : b 468 0 = a 468 0 := h.1.2.1.2.2.2.2.1
  have d681 : b 468 1 = a 468 1 := h.1.2.1.2.2.2.2.2.1
  have d4 : b 103 4 = a 103 4 := h.1.2.2.1.1
  have d5 : b 103 5 = a 103 5 := h.1.2.2.1.2.1
  have b66 := h.2.2.2.1 466 s (by decide) h0 h1
  have b66t := h.2.2.2.1 466 (1 - s) (by decide) (by omega) (by omega)
  have b68 := h.2.2.2.1 468 s (by decide) h0 h1
  have b680 := h.2.2.2.1 468 0 (by decide) (by decide) (by decide)
  have b681 := h.2.2.2.1 468 1 (by decide) (by decide) (by decide)
  have b4 := h.2.2.2.2.1
  have t0 : s = 0 → a 468 s = a 468 0 := fun e => by rw [e]
  have t1 : s = 1 → a 468 s = a 468 1 := fun e => by rw [e]
  have w1 : wr_ (a 466 s + 1) = a 466 s + 1 := wr_9 (by omega)
  have w1b : wr_ (b 466 s + 1) = a 466 s + 1 := by rw [d66]; exact w1
  have w2 : wr_ (wr_ (a 466 s + 1) - a 466 (1 - s)) = a 466 s + 1 - a 466 (1 - s) := by rw [w1]; exact wr_9 (by omega)
  have w3 : wr_ (b 466 (1 - s) + 2) = a 466 (1 - s) + 2 := by rw [d66t]; exact wr_9 (by omega)
  have w8 : wr_ (a 103 4 + 1) = a 103 4 + 1 := wr_9 (by omega)
  have w8b : wr_ (b 103 4 + 1) = a 103 4 + 1 := by rw [d4]; exact w8
  have ws : wr_ (a 468 s + 1) = a 468 s + 1 := wr_9 (by omega)
  have ws0 : wr_ (b 468 0 + 1) = a 468 0 + 1 := by rw [d680]; exact wr_9 (by omega)
  have ws1 : wr_ (b 468 1 + 1) = a 468 1 + 1 := by rw [d681]; exact wr_9 (by omega)
  have dd : dr_ (a 103 4 + 1) 2 = an_ (a 103 4 + 1) 1 := dr_2 (by omega)
  have ab := an_1b (a 103 4 + 1)
  have k5 : ¬ (k = 5) := by omega
  have e8 : ∀ j, rt9_ a s 468 j = a 468 j := fun j => (u2_k (by decide) j).trans (cg9_k (by decide) j)
  by_cases c1 : a 103 5 = s
  · obtain ⟨hc, hs⟩ := si_vo h h (fun _ => rfl) q h0 h1 r2 g
    by_cases c2 : a 103 4 = 4
    · by_cases c3 : (3 * r 11 + 4) / 5 ≤ a 466 s + 1 ∧ 2 ≤ a 466 s + 1 - a 466 (1 - s)
      · by_cases c4 : a 468 s + 1 = 3
        · rw [pv9__1 (r := r) (a := a) (s := s) c1 c2 (by omega) (by omega), pvR__2 (r := r) (a := b) (m := m) (k := k) (s := s) (q := x) (o := y) k5 (by omega) (by omega) (by omega) (by omega), w1, w1b, ws]
          exact si_w hs (Or.inr ⟨rfl, rfl⟩)
        · rw [pv9__2 (r := r) (a := a) (s := s) c1 c2 (by omega) (by omega), pvR__3 (r := r) (a := b) (m := m) (k := k) (s := s) (q := x) (o := y) k5 (by omega) (by omega) (by omega) (by omega), w1, w1b, ws, w8, w8b, dd]
          exact si_u (si_u hs (Or.inr ⟨rfl, Or.inl rfl⟩) (by omega) (fun _ z => absurd z (by decide)) (fun z => absurd z (by decide)) (fun z => absurd z (by decide))) (Or.inr ⟨rfl, Or.inr rfl⟩) (by omega) (fun _ _ => by omega) (fun z => absurd z (by decide)) (fun z => absurd z (by decide))
      · rw [pv9__3 (r := r) (a := a) (s := s) c1 c2 (by omega), pvR__4 (r := r) (a := b) (m := m) (k := k) (s := s) (q := x) (o := y) k5 (by omega) (by omega) (by omega), w1, w1b]
        exact hc
    · by_cases c3 : r 11 ≤ a 466 s + 1 ∧ 2 ≤ a 466 s + 1 - a 466 (1 - s)
      · by_cases c4 : a 468 s + 1 = 3
        · rw [pv9__4 (r := r) (a := a) (s := s) c1 c2 (by omega) (by omega), pvR__5 (r := r) (a := b) (m := m) (k := k) (s := s) (q := x) (o := y) k5 (by omega) (by omega) (by omega) (by omega), w1, w1b, ws]
          exact si_w hs (Or.inr ⟨rfl, rfl⟩)
        · rw [pv9__5 (r := r) (a := a) (s := s) c1 c2 (by omega) (by omega), pvR__6 (r := r) (a := b) (m := m) (k := k) (s := s) (q := x) (o := y) k5 (by omega) (by omega) (by omega) (by omega), w1, w1b, ws, w8, w8b, dd]
          exact si_u (si_u hs (Or.inr ⟨rfl, Or.inl rfl⟩) (by omega) (fun _ z => absurd z (by decide)) (fun z => absurd z (by decide)) (fun z => absurd z (by decide))) (Or.inr ⟨rfl, Or.inr rfl⟩) (by omega) (fun _ _ => by omega) (fun z => absurd z (by decide)) (fun z => absurd z (by decide))
      · rw [pv9__6 (r := r) (a := a) (s := s) c1 c2 (by omega), pvR__7 (r := r) (a := b) (m := m) (k := k) (s := s) (q := x) (o := y) k5 (by omega) (by omega) (by omega), w1, w1b]
        exact hc
  · obtain ⟨hc, hs⟩ := si_vo h hr e8 q h0 h1 r2 g
    by_cases c2 : a 103 4 = 4
    · by_cases c3 : (3 * r 11 + 4) / 5 ≤ a 466 s + 1 ∧ 2 ≤ a 466 s + 1 - a 466 (1 - s)
      · by_cases c4 : a 468 s + 1 = 3
        · rw [pv9__7 (r := r) (a := a) (s := s) c1 c2 (by omega) (by omega), pvR__8 (r := r) (a := b) (m := m) (k := k) (s := s) (q := x) (o := y) k5 (by omega) (by omega) (by omega) (by omega), w1, w1b, ws]
          exact si_w hs (Or.inr ⟨rfl, rfl⟩)
        · rw [pv9__8 (r := r) (a := a) (s := s) c1 c2 (by omega) (by omega), pvR__9 (r := r) (a := b) (m := m) (k := k) (s := s) (q := x) (o := y) k5 (by omega) (by omega) (by omega) (by omega), w1, w1b, ws, w8, w8b, dd]
          exact si_u (si_u hs (Or.inr ⟨rfl, Or.inl rfl⟩) (by omega) (fun _ z => absurd z (by decide)) (fun z => absurd z (by decide)) (fun z => absurd z (by decide))) (Or.inr ⟨rfl, Or.inr rfl⟩) (by omega) (fun _ _ => by omega) (fun z => absurd z (by decide)) (fun z => absurd z (by decide))
      · rw [pv9__9 (r := r) (a := a) (s := s) c1 c2 (by omega), pvR__10 (r := r) (a := b) (m := m) (k := k) (s := s) (q := x) (o := y) k5 (by omega) (by omega) (by omega), w1, w1b]
        exact hc
    · by_cases c3 : r 11 ≤ a 466 s + 1 ∧ 2 ≤ a 466 s + 1 - a 466 (1 - s)
      · by_cases c4 : a 468 s + 1 = 3
        · rw [pv9__10 (r := r) (a := a) (s := s) c1 c2 (by omega) (by omega), pvR__11 (r := r) (a := b) (m := m) (k := k) (s := s) (q := x) (o := y) k5 (by omega) (by omega) (by omega) (by omega), w1, w1b, ws]
          exact si_w hs (Or.inr ⟨rfl, rfl⟩)
        · rw [pv9__11 (r := r) (a := a) (s := s) c1 c2 (by omega) (by omega), pvR__12 (r := r) (a := b) (m := m) (k := k) (s := s) (q := x) (o := y) k5 (by omega) (by omega) (by omega) (by omega), w1, w1b, ws, w8, w8b, dd]
          exact si_u (si_u hs (Or.inr ⟨rfl, Or.inl rfl⟩) (by omega) (fun _ z => absurd z (by decide)) (fun z => absurd z (by decide)) (fun z => absurd z (by decide))) (Or.inr ⟨rfl, Or.inr rfl⟩) (by omega) (fun _ _ => by omega) (fun z => absurd z (by decide)) (fun z => absurd z (by decide))
      · rw [pv9__12 (r := r) (a := a) (s := s) c1 c2 (by omega), pvR__13 (r := r) (a := b) (m := m) (k := k) (s := s) (q := x) (o := y) k5 (by omega) (by omega) (by omega), w1, w1b]
        exact hc
-- the field of both sides: turning, going off, coming on
theorem sh_v {b : Sg_} {s : Int} : ∀ (n : Nat) (J : Int), shR_ b s n 471 J = if 6 * s ≤ J ∧ J < 6 * s + (n : Int) then b 471 (J + 1) else b 471 J
  | 0, J => by
    rw [if_neg (by omega)]
    rfl
  | n + 1, J => by
    show u2_ (shR_ b s n) 471 (6 * s + (n : Int)) (shR_ b s n 471 (6 * s + (n : Int) + 1)) 471 J = _
    by_cases z : J = 6 * s + (n : Int)
    · rw [z, u2_s, sh_v n, if_neg (by omega), if_pos (by omega)]
    · rw [u2_n (fun q => z q.2), sh_v n]
      by_cases y : 6 * s ≤ J ∧ J < 6 * s + (n : Int)
      · rw [if_pos y, if_pos (by omega)]
      · rw [if_neg y, if_neg (by omega)]
theorem sh_k {b : Sg_} {s : Int} {k : Nat} (h : k ≠ 471) (J : Int) : ∀ (n : Nat), shR_ b s n k J = b k J
  | 0 => rfl
  | n + 1 => by
    show u2_ (shR_ b s n) 471 (6 * s + (n : Int)) (shR_ b s n 471 (6 * s + (n : Int) + 1)) k J = _
    rw [u2_k h]
    exact sh_k h J n
theorem wbp_e {n : Int} {r : Int → Int} {a a' : Sg_} (h : WBP_ n r a) (e : ∀ (K : Nat) (J : Int), K ≠ 470 → K ≠ 471 → K ≠ 472 → a' K J = a K J) : WBP_ n r a' := by
  obtain ⟨h0, h1, h2, h3, h4, h5, h6, h7⟩ := h
  refine ⟨h0, fun K J q j0 j1 => ?_, ?_, ?_, fun s x s0 s1 x0 x1 => ?_, fun y => ?_, fun y J j0 j1 => ?_, fun J j0 j1 => ?_⟩
  · rw [e K J (by omega) (by omega) (by omega)]; exact h1 K J q j0 j1
  · rw [e 103 4 (by decide) (by decide) (by decide)]; exact h2
  · rw [e 103 5 (by decide) (by decide) (by decide)]; exact h3
  · rw [e 449 s (by decide) (by decide) (by decide)] at x1
    rw [e 473 x (by decide) (by decide) (by decide)]; exact h4 s x s0 s1 x0 x1
  · rw [e 467 1 (by decide) (by decide) (by decide)]; exact h5 y
  · rw [e 467 J (by decide) (by decide) (by decide)]; exact h6 y J j0 j1
  · rw [e 469 J (by decide) (by decide) (by decide)]; exact h7 J j0 j1
/-- a's cells but 470, 471, 472, and b's but 470, 471, 472, 474, stay: what is left to show -/
theorem eqp_e {m : Int} {b a b' a' : Sg_} (h : EQP_ m b a) (eb : ∀ (K : Nat) (J : Int), K ≠ 470 → K ≠ 471 → K ≠ 472 → K ≠ 474 → b' K J = b K J) (ea : ∀ (K : Nat) (J : Int), K ≠ 470 → K ≠ 471 → K ≠ 472 → a' K J = a K J)
    (g0 : b' 470 0 = a' 470 0 ∧ b' 470 1 = a' 470 1) (g1 : ∀ s x, 0 ≤ s → s ≤ 1 → s * 6 ≤ x → x < s * 6 + a' 470 s → b' 471 x = 20 * m + a' 471 x)
    (g2 : ∀ s x, 0 ≤ s → s ≤ 1 → s * 10 ≤ x → x < s * 10 + a 449 s → (a' 472 x = 3 ∧ b' 472 x = 2 ∧ b' 474 x = 1) ∨ (a' 472 x ≠ 3 ∧ b' 472 x = a' 472 x ∧ b' 474 x = 0)) : EQP_ m b' a' := by
  obtain ⟨⟨a1, a2, a3, a4⟩, ⟨b1, b2, b3, b4, b5, b6, b7, b8⟩, ⟨p4, p5, p3⟩, e4, e5⟩ := h
  have fb : ∀ (K : Nat) (J : Int), (K = 448 ∨ K = 449 ∨ K = 466 ∨ K = 467 ∨ K = 468 ∨ K = 469 ∨ K = 473 ∨ K = 103) → b' K J = b K J := fun K J c => eb K J (by omega) (by omega) (by omega) (by omega)
  have fa : ∀ (K : Nat) (J : Int), (K = 448 ∨ K = 449 ∨ K = 466 ∨ K = 467 ∨ K = 468 ∨ K = 469 ∨ K = 473 ∨ K = 103) → a' K J = a K J := fun K J c => ea K J (by omega) (by omega) (by omega)
  unfold EQP_
  simp only [fb 449 _ (by decide), fa 449 _ (by decide), fb 466 _ (by decide), fa 466 _ (by decide), fb 467 _ (by decide), fa 467 _ (by decide), fb 468 _ (by decide), fa 468 _ (by decide), fb 469 _ (by decide), fa 469 _ (by decide), fb 103 _ (by decide), fa 103 _ (by decide), fb 448 _ (by decide), fa 448 _ (by decide), fb 473 _ (by decide), fa 473 _ (by decide)]
  exact ⟨⟨a1, a2, g0.1, g0.2⟩, ⟨b1, b2, b3, b4, b5, b6, b7, b8⟩, ⟨p4, p5, p3⟩, g1, fun s x s0 s1 x0 x1 => ⟨(e5 s x s0 s1 x0 x1).1, (e5 s x s0 s1 x0 x1).2.1, g2 s x s0 s1 x0 x1⟩⟩
/-- the turned field -/
theorem rt_v {a : Sg_} {s x : Int} : rt9_ a s 471 x = (if x = s * 6 + a 470 s - 1 then a 471 (s * 6) else if s * 6 ≤ x ∧ x < s * 6 + a 470 s - 1 then a 471 (x + 1) else a 471 x) := by
  unfold rt9_
  by_cases z : x = s * 6 + a 470 s - 1
  · rw [if_pos z, z, u2_s]
  · rw [if_neg z, u2_n (fun q => z q.2)]
    by_cases y : s * 6 ≤ x ∧ x < s * 6 + a 470 s - 1
    · rw [if_pos y]
      exact cg9_i (by omega)
    · rw [if_neg y]
      exact cg9_o (by omega)
theorem rt_w {b : Sg_} {s x : Int} (h : 1 ≤ b 470 s) : rtR_ b s 471 x = (if x = s * 6 + b 470 s - 1 then b 471 (s * 6) else if s * 6 ≤ x ∧ x < s * 6 + b 470 s - 1 then b 471 (x + 1) else b 471 x) := by
  unfold rtR_
  by_cases z : x = s * 6 + b 470 s - 1
  · rw [if_pos z, show x = 6 * s + b 470 s - 1 by omega, u2_s, show 6 * s = s * 6 by omega]
  · rw [if_neg z, u2_n (fun q => z (by have := q.2; omega)), sh_v]
    by_cases y : s * 6 ≤ x ∧ x < s * 6 + b 470 s - 1
    · rw [if_pos y, if_pos (by omega)]
    · rw [if_neg y, if_neg (by omega)]
theorem rt_k {a : Sg_} {s : Int} {K : Nat} (h : K ≠ 471) (J : Int) : rt9_ a s K J = a K J := (u2_k h J).trans (cg9_k h J)
theorem rt_j {b : Sg_} {s : Int} {K : Nat} (h : K ≠ 471) (J : Int) : rtR_ b s K J = b K J := (u2_k h J).trans (sh_k h J _)
theorem si_rt {m n : Int} {r : Int → Int} {b a : Sg_} {s : Int} (h : SI_ m n r b a) (h0 : 0 ≤ s) (h1 : s ≤ 1) (hf : 1 ≤ a 470 s) : SI_ m n r (rtR_ b s) (rt9_ a s) := by
  have ej := eq_j h.1 h0 h1
  have e70 : b 470 s = a 470 s := ej.2.1
  have e4 := h.1.2.2.2.1
  obtain ⟨w1, w2, w3, w4, w5⟩ := h.2.1
  have ws := w1 s h0 h1
  -- where each one came from
  have p : ∀ t x, 0 ≤ t → t ≤ 1 → t * 6 ≤ x → x < t * 6 + a 470 t → ∃ y, t * 6 ≤ y ∧ y < t * 6 + a 470 t ∧ rt9_ a s 471 x = a 471 y ∧ rtR_ b s 471 x = b 471 y ∧ ((t = s ∧ y = x + 1 ∧ x < s * 6 + a 470 s - 1) ∨ (t = s ∧ y = s * 6 ∧ x = s * 6 + a 470 s - 1) ∨ (t ≠ s ∧ y = x)) := by
    intro t x t0 t1 x0 x1
    have v := w1 t t0 t1
    by_cases z : t = s
    · subst z
      by_cases y : x = t * 6 + a 470 t - 1
      · exact ⟨t * 6, by omega, by omega, by rw [rt_v, if_pos y], by rw [rt_w (by omega), if_pos (by omega)], Or.inr (Or.inl ⟨rfl, rfl, y⟩)⟩
      · exact ⟨x + 1, by omega, by omega, by rw [rt_v, if_neg y, if_pos (by omega)], by rw [rt_w (by omega), if_neg (by omega), if_pos (by omega)], Or.inl ⟨rfl, rfl, by omega⟩⟩
    · exact ⟨x, x0, x1, by rw [rt_v, if_neg (by omega), if_neg (by omega)], by rw [rt_w (by omega), if_neg (by omega), if_neg (by omega)], Or.inr (Or.inr ⟨z, rfl⟩)⟩
  have k70 : ∀ J, rt9_ a s 470 J = a 470 J := rt_k (by decide)
  have k72 : ∀ J, rt9_ a s 472 J = a 472 J := rt_k (by decide)
  have k49 : ∀ J, rt9_ a s 449 J = a 449 J := rt_k (by decide)
  have k48 : ∀ J, rt9_ a s 448 J = a 448 J := rt_k (by decide)
  refine ⟨?_, ?_, wbp_e h.2.2 (fun K J _ c _ => rt_k c J)⟩
  · refine eqp_e h.1 (fun K J _ c _ _ => rt_j c J) (fun K J _ c _ => rt_k c J) ?_ ?_ ?_
    · rw [rt_j (by decide), rt_j (by decide), k70, k70]
      exact h.1.1.2.2
    · intro t x t0 t1 x0 x1
      rw [k70] at x1
      obtain ⟨y, y0, y1, y2, y3, _⟩ := p t x t0 t1 x0 x1
      rw [y2, y3]
      exact e4 t y t0 t1 y0 y1
    · intro t x t0 t1 x0 x1
      rw [k72, rt_j (by decide), rt_j (by decide)]
      exact (h.1.2.2.2.2 t x t0 t1 x0 x1).2.2
  · unfold WS_
    simp only [k70, k72, k49, k48]
    refine ⟨w1, ?_, ?_, ?_, w5⟩
    · intro t x t0 t1 x0 x1
      obtain ⟨y, y0, y1, y2, _, _⟩ := p t x t0 t1 x0 x1
      rw [y2]
      exact w2 t y t0 t1 y0 y1
    · intro t x t0 t1 x0 x1 c
      obtain ⟨k, k0, k1, k2⟩ := w3 t x t0 t1 x0 x1 c
      have v := w1 t t0 t1
      by_cases z : t = s
      · subst z
        by_cases y : k = t * 6
        · refine ⟨t * 6 + a 470 t - 1, by omega, by omega, ?_⟩
          rw [rt_v, if_pos rfl, ← y]
          exact k2
        · refine ⟨k - 1, by omega, by omega, ?_⟩
          rw [rt_v, if_neg (by omega), if_pos (by omega), show k - 1 + 1 = k by omega]
          exact k2
      · refine ⟨k, k0, k1, ?_⟩
        rw [rt_v, if_neg (by omega), if_neg (by omega)]
        exact k2
    · intro t x y t0 t1 x0 x1 y0 y1 e
      obtain ⟨x2, x3, x4, x5, _, x6⟩ := p t x t0 t1 x0 x1
      obtain ⟨y2, y3, y4, y5, _, y6⟩ := p t y t0 t1 y0 y1
      rw [x5, y5] at e
      have := w4 t x2 y2 t0 t1 x3 x4 y3 y4 e
      omega
/-- those that stay close up: one goes -/
theorem cp_v {c : Sg_} {s x k N : Int} (k0 : 0 ≤ k) (u1 : c 471 (6 * s + k) = x) (u2 : ∀ i, 0 ≤ i → i < N → c 471 (6 * s + i) = x → i = k) : ∀ n : Nat, (n : Int) ≤ N → ((n : Int) ≤ k ∧ cpR_ c s x n = (c, (n : Int))) ∨ (k < (n : Int) ∧ (cpR_ c s x n).2 = (n : Int) - 1 ∧ (∀ (K : Nat) (J : Int), K ≠ 471 → (cpR_ c s x n).1 K J = c K J) ∧ ∀ J, (cpR_ c s x n).1 471 J = if 6 * s + k ≤ J ∧ J < 6 * s + (n : Int) - 1 then c 471 (J + 1) else c 471 J)
  | 0, _ => Or.inl ⟨k0, rfl⟩
  | n + 1, hN => by
    rcases cp_v k0 u1 u2 n (by omega) with ⟨h1, h2⟩ | ⟨h1, h2, h3, h4⟩
    · by_cases z : (n : Int) = k
      · have t : (cpR_ c s x n).1 471 (6 * s + (n : Int)) = x := by rw [h2, z]; exact u1
        rw [cpR_t t, h2]
        refine Or.inr ⟨by omega, by show (n : Int) = _; omega, fun _ _ _ => rfl, fun J => ?_⟩
        rw [if_neg (by omega)]
      · have t : (cpR_ c s x n).1 471 (6 * s + (n : Int)) ≠ x := by
          rw [h2]
          intro e
          exact z (u2 n (by omega) (by omega) e)
        rw [cpR_f t, h2]
        refine Or.inl ⟨by omega, ?_⟩
        show (u2_ c 471 (6 * s + (n : Int)) (c 471 (6 * s + (n : Int))), (n : Int) + 1) = _
        rw [u2_m rfl]
        rfl
    · have t0 : (cpR_ c s x n).1 471 (6 * s + (n : Int)) = c 471 (6 * s + (n : Int)) := by rw [h4, if_neg (by omega)]
      have t : (cpR_ c s x n).1 471 (6 * s + (n : Int)) ≠ x := by
        rw [t0]
        intro e
        have := u2 n (by omega) (by omega) e
        omega
      rw [cpR_f t, t0, h2]
      refine Or.inr ⟨by omega, by show (n : Int) - 1 + 1 = _; omega, fun K J hK => ?_, fun J => ?_⟩
      · show u2_ (cpR_ c s x n).1 471 _ _ K J = _
        rw [u2_k hK]
        exact h3 K J hK
      · show u2_ (cpR_ c s x n).1 471 (6 * s + ((n : Int) - 1)) (c 471 (6 * s + (n : Int))) 471 J = _
        by_cases z : J = 6 * s + ((n : Int) - 1)
        · rw [z, u2_s, if_pos (by omega), show 6 * s + ((n : Int) - 1) + 1 = 6 * s + (n : Int) by omega]
        · rw [u2_n (fun q => z q.2), h4]
          by_cases y : 6 * s + k ≤ J ∧ J < 6 * s + (n : Int) - 1
          · rw [if_pos y, if_pos (by omega)]
          · rw [if_neg y, if_neg (by omega)]
/-- one is sent off: the field, the roles -/
theorem si_of {m n : Int} {r : Int → Int} {b a : Sg_} {s k : Int} (h : SI_ m n r b a) (h0 : 0 ≤ s) (h1 : s ≤ 1) (k0 : 0 ≤ k) (k1 : k < a 470 s) :
    (cpR_ (u2_ (u2_ b 474 (a 471 (s * 6 + k)) 1) 472 (a 471 (s * 6 + k)) 2) s (20 * m + a 471 (s * 6 + k)) (b 470 s).toNat).2 = a 470 s - 1 ∧
    SI_ m n r (u2_ (cpR_ (u2_ (u2_ b 474 (a 471 (s * 6 + k)) 1) 472 (a 471 (s * 6 + k)) 2) s (20 * m + a 471 (s * 6 + k)) (b 470 s).toNat).1 470 s (cpR_ (u2_ (u2_ b 474 (a 471 (s * 6 + k)) 1) 472 (a 471 (s * 6 + k)) 2) s (20 * m + a 471 (s * 6 + k)) (b 470 s).toNat).2) (u2_ (cg9_ (u2_ a 472 (a 471 (s * 6 + k)) 3) s k) 470 s (a 470 s - 1)) := by
  have ej := eq_j h.1 h0 h1
  have e70 : b 470 s = a 470 s := ej.2.1
  have e4 := h.1.2.2.2.1
  have e5 := h.1.2.2.2.2
  obtain ⟨w1, w2, w3, w4, w5⟩ := h.2.1
  have ws := w1 s h0 h1
  have g := w2 s (s * 6 + k) h0 h1 (by omega) (by omega)
  generalize hx : a 471 (s * 6 + k) = x at g ⊢
  generalize hc : u2_ (u2_ b 474 x 1) 472 x 2 = c
  have c71 : ∀ J, c 471 J = b 471 J := fun J => by rw [← hc, u2_k (by decide), u2_k (by decide)]
  have ck : ∀ (K : Nat) (J : Int), K ≠ 472 → K ≠ 474 → c K J = b K J := fun K J d e => by rw [← hc, u2_k d, u2_k e]
  have u1 : c 471 (6 * s + k) = 20 * m + x := by
    rw [c71, show 6 * s + k = s * 6 + k by omega, e4 s _ h0 h1 (by omega) (by omega), hx]
  have u2 : ∀ i, 0 ≤ i → i < a 470 s → c 471 (6 * s + i) = 20 * m + x → i = k := by
    intro i i0 i1 e
    rw [c71, show 6 * s + i = s * 6 + i by omega, e4 s _ h0 h1 (by omega) (by omega)] at e
    have := w4 s (s * 6 + i) (s * 6 + k) h0 h1 (by omega) (by omega) (by omega) (by omega) (by rw [hx]; omega)
    omega
  have en : ((b 470 s).toNat : Int) = a 470 s := by omega
  rcases cp_v k0 u1 u2 (b 470 s).toNat (by omega) with ⟨v1, _⟩ | ⟨_, v2, v3, v4⟩
  · omega
  rw [en] at v2 v4
  refine ⟨v2, ?_⟩
  generalize hp : cpR_ c s (20 * m + x) (b 470 s).toNat = p at v2 v3 v4 ⊢
  generalize hA : u2_ (cg9_ (u2_ a 472 x 3) s k) 470 s (a 470 s - 1) = A
  generalize hB : u2_ p.1 470 s p.2 = B
  -- the cells of both
  have Ak : ∀ (K : Nat) (J : Int), K ≠ 470 → K ≠ 471 → K ≠ 472 → A K J = a K J := fun K J d e f => by rw [← hA, u2_k d, cg9_k e, u2_k f]
  have Bk : ∀ (K : Nat) (J : Int), K ≠ 470 → K ≠ 471 → K ≠ 472 → K ≠ 474 → B K J = b K J := fun K J d e f g => by rw [← hB, u2_k d, v3 K J e, ck K J f g]
  have A70 : A 470 s = a 470 s - 1 := by rw [← hA, u2_s]
  have B70 : B 470 s = a 470 s - 1 := by rw [← hB, u2_s, v2]
  have A7o : ∀ t, t ≠ s → A 470 t = a 470 t := fun t d => by rw [← hA, u2_n (fun q => d q.2), cg9_k (by decide), u2_k (by decide)]
  have B7o : ∀ t, t ≠ s → B 470 t = b 470 t := fun t d => by rw [← hB, u2_n (fun q => d q.2), v3 470 t (by decide), ck 470 t (by decide) (by decide)]
  have A72 : A 472 x = 3 := by rw [← hA, u2_k (by decide), cg9_k (by decide), u2_s]
  have A72o : ∀ y, y ≠ x → A 472 y = a 472 y := fun y d => by rw [← hA, u2_k (by decide), cg9_k (by decide), u2_n (fun q => d q.2)]
  have B72 : B 472 x = 2 := by rw [← hB, u2_k (by decide), v3 472 x (by decide), ← hc, u2_s]
  have B72o : ∀ y, y ≠ x → B 472 y = b 472 y := fun y d => by rw [← hB, u2_k (by decide), v3 472 y (by decide), ← hc, u2_n (fun q => d q.2), u2_k (by decide)]
  have B74 : B 474 x = 1 := by rw [← hB, u2_k (by decide), v3 474 x (by decide), ← hc, u2_k (by decide), u2_s]
  have B74o : ∀ y, y ≠ x → B 474 y = b 474 y := fun y d => by rw [← hB, u2_k (by decide), v3 474 y (by decide), ← hc, u2_k (by decide), u2_n (fun q => d q.2)]
  have a70 : u2_ a 472 x 3 470 s = a 470 s := u2_k (by decide) s
  have A71 : ∀ J, A 471 J = if s * 6 + k ≤ J ∧ J < s * 6 + a 470 s - 1 then a 471 (J + 1) else a 471 J := fun J => by
    rw [← hA, u2_k (by decide)]
    by_cases y : s * 6 + k ≤ J ∧ J < s * 6 + a 470 s - 1
    · rw [if_pos y, cg9_i (by omega), u2_k (by decide)]
    · rw [if_neg y, cg9_o (by omega), u2_k (by decide)]
  have B71 : ∀ J, B 471 J = if s * 6 + k ≤ J ∧ J < s * 6 + a 470 s - 1 then b 471 (J + 1) else b 471 J := fun J => by
    rw [← hB, u2_k (by decide), v4]
    by_cases y : s * 6 + k ≤ J ∧ J < s * 6 + a 470 s - 1
    · rw [if_pos y, if_pos (by omega), c71]
    · rw [if_neg y, if_neg (by omega), c71]
  have p9 : ∀ t z, 0 ≤ t → t ≤ 1 → t * 6 ≤ z → z < t * 6 + A 470 t → ∃ y, t * 6 ≤ y ∧ y < t * 6 + a 470 t ∧ y ≠ s * 6 + k ∧ A 471 z = a 471 y ∧ B 471 z = b 471 y ∧ ((t = s ∧ z < s * 6 + k ∧ y = z) ∨ (t = s ∧ s * 6 + k ≤ z ∧ y = z + 1) ∨ (t ≠ s ∧ y = z)) := by
    intro t z t0 t1 z0 z1
    have v := w1 t t0 t1
    by_cases d : t = s
    · subst d
      rw [A70] at z1
      by_cases y : z < t * 6 + k
      · exact ⟨z, by omega, by omega, by omega, by rw [A71, if_neg (by omega)], by rw [B71, if_neg (by omega)], Or.inl ⟨rfl, y, rfl⟩⟩
      · exact ⟨z + 1, by omega, by omega, by omega, by rw [A71, if_pos (by omega)], by rw [B71, if_pos (by omega)], Or.inr (Or.inl ⟨rfl, by omega, rfl⟩)⟩
    · rw [A7o t d] at z1
      exact ⟨z, z0, z1, by omega, by rw [A71, if_neg (by omega)], by rw [B71, if_neg (by omega)], Or.inr (Or.inr ⟨d, rfl⟩)⟩
  refine ⟨?_, ?_, wbp_e h.2.2 Ak⟩
  · refine eqp_e h.1 Bk Ak ?_ ?_ ?_
    · rcases (by omega : s = 0 ∨ s = 1) with d | d
      · rw [d] at A70 B70
        rw [A70, B70, A7o 1 (by omega), B7o 1 (by omega)]
        exact ⟨rfl, h.1.1.2.2.2⟩
      · rw [d] at A70 B70
        rw [A70, B70, A7o 0 (by omega), B7o 0 (by omega)]
        exact ⟨h.1.1.2.2.1, rfl⟩
    · intro t z t0 t1 z0 z1
      obtain ⟨y, y0, y1, _, y2, y3, _⟩ := p9 t z t0 t1 z0 z1
      rw [y2, y3]
      exact e4 t y t0 t1 y0 y1
    · intro t z t0 t1 z0 z1
      by_cases d : z = x
      · rw [d]; exact Or.inl ⟨A72, B72, B74⟩
      · rw [A72o z d, B72o z d, B74o z d]
        exact (e5 t z t0 t1 z0 z1).2.2
  · have A48 : ∀ J, A 448 J = a 448 J := fun J => Ak 448 J (by decide) (by decide) (by decide)
    have A49 : ∀ J, A 449 J = a 449 J := fun J => Ak 449 J (by decide) (by decide) (by decide)
    unfold WS_
    simp only [A48, A49]
    refine ⟨?_, ?_, ?_, ?_, w5⟩
    · intro t t0 t1
      have v := w1 t t0 t1
      by_cases d : t = s
      · subst d; rw [A70]; omega
      · rw [A7o t d]; exact v
    · intro t z t0 t1 z0 z1
      obtain ⟨y, y0, y1, y9, y2, _, _⟩ := p9 t z t0 t1 z0 z1
      have f := w2 t y t0 t1 y0 y1
      have ne : a 471 y ≠ x := fun e => by
        by_cases d : t = s
        · subst d
          exact y9 (w4 t y (t * 6 + k) t0 t1 y0 y1 (by omega) (by omega) (by rw [hx]; exact e))
        · have v9 := w1 t t0 t1
          omega
      rw [y2, A72o _ ne]
      exact f
    · intro t z t0 t1 z0 z1 e
      have ne : z ≠ x := fun d => by rw [d, A72] at e; exact absurd e (by decide)
      rw [A72o z ne] at e
      obtain ⟨y, y0, y1, y2⟩ := w3 t z t0 t1 z0 z1 e
      have v := w1 t t0 t1
      by_cases d : t = s
      · subst d
        have yk : y ≠ t * 6 + k := fun f => ne (by rw [← y2, f]; exact hx)
        rw [A70]
        by_cases f : y < t * 6 + k
        · exact ⟨y, by omega, by omega, by rw [A71, if_neg (by omega)]; exact y2⟩
        · exact ⟨y - 1, by omega, by omega, by rw [A71, if_pos (by omega), show y - 1 + 1 = y by omega]; exact y2⟩
      · rw [A7o t d]
        exact ⟨y, y0, y1, by rw [A71, if_neg (by omega)]; exact y2⟩
    · intro t z z' t0 t1 z0 z1 y0 y1 e
      obtain ⟨f1, f2, f3, _, f5, _, f6⟩ := p9 t z t0 t1 z0 z1
      obtain ⟨g1, g2, g3, _, g5, _, g6⟩ := p9 t z' t0 t1 y0 y1
      rw [f5, g5] at e
      have := w4 t f1 g1 t0 t1 f2 f3 g2 g3 e
      omega
/-- sent off -/
theorem si_so {m n : Int} {r : Int → Int} {b a : Sg_} {s k : Int} (h : SI_ m n r b a) (q : RB9_ r) (h0 : 0 ≤ s) (h1 : s ≤ 1) (k0 : 0 ≤ k) (k1 : k < a 470 s) (g : n + 1 ≤ 1000000) : SI_ m (n + 1) r (soR_ r b m s (20 * m + a 471 (s * 6 + k))) (so9_ r a s k) := by
  have n0 := h.2.2.1
  have q5 := q.2.2.2.2
  obtain ⟨v2, hB0⟩ := si_of h h0 h1 k0 k1
  have hB := si_m (n' := n + 1) hB0 (by omega) g
  have ex : 20 * m + a 471 (s * 6 + k) - 20 * m = a 471 (s * 6 + k) := by omega
  by_cases c : 2 * (a 470 s - 1) < r 9
  · rw [so9__2 (r := r) (a := a) (s := s) (k := k) (by omega) c]
    have hw := si_w hB (v := 1) (w := 2) (Or.inr ⟨rfl, rfl⟩)
    rcases (by omega : s = 0 ∨ s = 1) with z | z
    · rw [soR__1 (r := r) (a := b) (m := m) (s := s) (x := 20 * m + a 471 (s * 6 + k)) (by rw [ex, v2]; exact c) z, ex]
      have s1 := si_u hw (k := 468) (j := 0) (v := 0) (Or.inl (by decide)) (by omega) (fun y => absurd y (by decide)) (fun y => absurd y (by decide)) (fun y => absurd y (by decide))
      have s2 := si_u s1 (k := 468) (j := 1) (v := r 12) (Or.inl (by decide)) (by omega) (fun y => absurd y (by decide)) (fun y => absurd y (by decide)) (fun y => absurd y (by decide))
      rw [show (1 : Int) - s = 1 by omega]
      have e0 : ∀ y : Sg_, u2_ y 468 s 0 = u2_ y 468 0 0 := fun y => by rw [z]
      rw [e0]
      exact s2
    · rw [soR__2 (r := r) (a := b) (m := m) (s := s) (x := 20 * m + a 471 (s * 6 + k)) (by rw [ex, v2]; exact c) (by omega), ex]
      have s1 := si_u hw (k := 468) (j := 1) (v := 0) (Or.inl (by decide)) (by omega) (fun y => absurd y (by decide)) (fun y => absurd y (by decide)) (fun y => absurd y (by decide))
      have s2 := si_u s1 (k := 468) (j := 0) (v := r 12) (Or.inl (by decide)) (by omega) (fun y => absurd y (by decide)) (fun y => absurd y (by decide)) (fun y => absurd y (by decide))
      rw [show (1 : Int) - s = 0 by omega, u2_c (k := 468) (j := 0) (k' := 468) (j' := 1) (by decide)]
      have e0 : ∀ y : Sg_, u2_ y 468 s 0 = u2_ y 468 1 0 := fun y => by rw [z]
      rw [e0]
      exact s2
  · rw [so9__3 (r := r) (a := a) (s := s) (k := k) (by omega) c, soR__3 (r := r) (a := b) (m := m) (s := s) (x := 20 * m + a 471 (s * 6 + k)) (by rw [ex, v2]; exact c), ex]
    exact hB
/-- a yellow card is written -/
theorem si_y {m n : Int} {r : Int → Int} {b a : Sg_} {s x v : Int} (h : SI_ m n r b a) (h0 : 0 ≤ s) (h1 : s ≤ 1) (x0 : s * 10 ≤ x) (x1 : x < s * 10 + a 449 s) (hv : 0 ≤ v ∧ v ≤ 8 * n + 20) : SI_ m n r (u2_ b 473 x v) (u2_ a 473 x v) := by
  have na : ∀ (K : Nat) (J : Int), K ≠ 473 → u2_ a 473 x v K J = a K J := fun K J d => u2_k d J
  have nb : ∀ (K : Nat) (J : Int), K ≠ 473 → u2_ b 473 x v K J = b K J := fun K J d => u2_k d J
  refine ⟨?_, ws_k h.2.1 (by decide), ?_⟩
  · have h9 := h.1
    obtain ⟨a1, a2, a3, e4, e5⟩ := h9
    unfold EQP_
    simp only [na 449 _ (by decide), na 470 _ (by decide), na 466 _ (by decide), na 467 _ (by decide), na 468 _ (by decide), na 469 _ (by decide), na 103 _ (by decide), na 471 _ (by decide), na 448 _ (by decide), na 472 _ (by decide), nb 449 _ (by decide), nb 470 _ (by decide), nb 466 _ (by decide), nb 467 _ (by decide), nb 468 _ (by decide), nb 469 _ (by decide), nb 103 _ (by decide), nb 471 _ (by decide), nb 448 _ (by decide), nb 472 _ (by decide), nb 474 _ (by decide)]
    refine ⟨a1, a2, a3, e4, fun t z t0 t1 z0 z1 => ?_⟩
    have f := e5 t z t0 t1 z0 z1
    exact ⟨f.1, u2_e f.2.1, f.2.2⟩
  · obtain ⟨g0, g1, g2, g3, g4, g5, g6, g7⟩ := h.2.2
    unfold WBP_
    simp only [na 449 _ (by decide), na 467 _ (by decide), na 469 _ (by decide), na 103 _ (by decide)]
    refine ⟨g0, fun K J c j0 j1 => ?_, g2, g3, fun t z t0 t1 z0 z1 => ?_, g5, g6, g7⟩
    · rw [na K J (by omega)]; exact g1 K J c j0 j1
    · by_cases d : z = x
      · rw [d, u2_s]; exact hv
      · rw [u2_n (fun e => d e.2)]; exact g4 t z t0 t1 z0 z1
theorem mp_v {b : Sg_} {s x y : Int} : ∀ (n : Nat) (J : Int), mpR_ b s x y n 471 J = cz_ (6 * s ≤ J ∧ J < 6 * s + (n : Int) ∧ b 471 J = x) y (b 471 J)
  | 0, J => by
    rw [cz_f (by omega)]
    rfl
  | n + 1, J => by
    show u2_ (mpR_ b s x y n) 471 (6 * s + (n : Int)) (cz_ (mpR_ b s x y n 471 (6 * s + (n : Int)) = x) y (mpR_ b s x y n 471 (6 * s + (n : Int)))) 471 J = _
    have t : mpR_ b s x y n 471 (6 * s + (n : Int)) = b 471 (6 * s + (n : Int)) := by rw [mp_v n, cz_f (by omega)]
    rw [t]
    by_cases z : J = 6 * s + (n : Int)
    · rw [z, u2_s]
      by_cases w : b 471 (6 * s + (n : Int)) = x
      · rw [cz_t w, cz_t ⟨by omega, by omega, w⟩]
      · rw [cz_f w, cz_f (fun e => w e.2.2)]
    · rw [u2_n (fun e => z e.2), mp_v n]
      by_cases w : 6 * s ≤ J ∧ J < 6 * s + (n : Int) ∧ b 471 J = x
      · rw [cz_t w, cz_t ⟨w.1, by omega, w.2.2⟩]
      · rw [cz_f w, cz_f (fun e => w ⟨e.1, by omega, e.2.2⟩)]
theorem mp_k {b : Sg_} {s x y : Int} {K : Nat} (h : K ≠ 471) (J : Int) : ∀ (n : Nat), mpR_ b s x y n K J = b K J
  | 0 => rfl
  | n + 1 => by
    show u2_ (mpR_ b s x y n) 471 _ _ K J = _
    rw [u2_k h]
    exact mp_k h J n
/-- one comes for another -/
theorem si_on {m n : Int} {r : Int → Int} {b a : Sg_} {s k y : Int} (h : SI_ m n r b a) (h0 : 0 ≤ s) (h1 : s ≤ 1) (k0 : 0 ≤ k) (k1 : k < a 470 s) (y0 : s * 10 ≤ y) (y1 : y < s * 10 + a 449 s) (y2 : a 472 y = 0) :
    SI_ m n r (u2_ (u2_ (mpR_ b s (20 * m + a 471 (s * 6 + k)) (20 * m + y) (b 470 s).toNat) 472 (a 471 (s * 6 + k)) 2) 472 y 1) (u2_ (u2_ (u2_ a 472 (a 471 (s * 6 + k)) 2) 472 y 1) 471 (s * 6 + k) y) := by
  have ej := eq_j h.1 h0 h1
  have e70 : b 470 s = a 470 s := ej.2.1
  have e4 := h.1.2.2.2.1
  have e5 := h.1.2.2.2.2
  obtain ⟨w1, w2, w3, w4, w5⟩ := h.2.1
  have ws := w1 s h0 h1
  have g := w2 s (s * 6 + k) h0 h1 (by omega) (by omega)
  generalize hx : a 471 (s * 6 + k) = x at g ⊢
  have xy : x ≠ y := fun e => by have := g.2.2; rw [e, y2] at this; exact absurd this (by decide)
  generalize hA : u2_ (u2_ (u2_ a 472 x 2) 472 y 1) 471 (s * 6 + k) y = A
  generalize hB : u2_ (u2_ (mpR_ b s (20 * m + x) (20 * m + y) (b 470 s).toNat) 472 x 2) 472 y 1 = B
  have Ak : ∀ (K : Nat) (J : Int), K ≠ 471 → K ≠ 472 → A K J = a K J := fun K J d e => by rw [← hA, u2_k d, u2_k e, u2_k e]
  have Bk : ∀ (K : Nat) (J : Int), K ≠ 471 → K ≠ 472 → B K J = b K J := fun K J d e => by rw [← hB, u2_k e, u2_k e, mp_k d]
  have A72x : A 472 x = 2 := by rw [← hA, u2_k (by decide), u2_n (fun e => xy e.2), u2_s]
  have A72y : A 472 y = 1 := by rw [← hA, u2_k (by decide), u2_s]
  have A72o : ∀ z, z ≠ x → z ≠ y → A 472 z = a 472 z := fun z d e => by rw [← hA, u2_k (by decide), u2_n (fun f => e f.2), u2_n (fun f => d f.2)]
  have B72x : B 472 x = 2 := by rw [← hB, u2_n (fun e => xy e.2), u2_s]
  have B72y : B 472 y = 1 := by rw [← hB, u2_s]
  have B72o : ∀ z, z ≠ x → z ≠ y → B 472 z = b 472 z := fun z d e => by rw [← hB, u2_n (fun f => e f.2), u2_n (fun f => d f.2), mp_k (by decide)]
  have A71 : A 471 (s * 6 + k) = y := by rw [← hA, u2_s]
  have A71o : ∀ z, z ≠ s * 6 + k → A 471 z = a 471 z := fun z d => by rw [← hA, u2_n (fun e => d e.2), u2_k (by decide), u2_k (by decide)]
  have B71 : ∀ J, B 471 J = cz_ (6 * s ≤ J ∧ J < 6 * s + ((b 470 s).toNat : Int) ∧ b 471 J = 20 * m + x) (20 * m + y) (b 471 J) := fun J => by rw [← hB, u2_k (by decide), u2_k (by decide), mp_v]
  have A70 : ∀ J, A 470 J = a 470 J := fun J => Ak 470 J (by decide) (by decide)
  have A48 : ∀ J, A 448 J = a 448 J := fun J => Ak 448 J (by decide) (by decide)
  have A49 : ∀ J, A 449 J = a 449 J := fun J => Ak 449 J (by decide) (by decide)
  -- who comes stood nowhere
  have yn : ∀ z, s * 6 ≤ z → z < s * 6 + a 470 s → a 471 z ≠ y := fun z z0 z1 e => by
    have f := (w2 s z h0 h1 z0 z1).2.2
    rw [e, y2] at f
    exact absurd f (by decide)
  refine ⟨?_, ?_, wbp_e h.2.2 (fun K J _ d e => Ak K J d e)⟩
  · refine eqp_e h.1 (fun K J _ d e _ => Bk K J d e) (fun K J _ d e => Ak K J d e) ?_ ?_ ?_
    · rw [A70, A70, Bk 470 0 (by decide) (by decide), Bk 470 1 (by decide) (by decide)]
      exact h.1.1.2.2
    · intro t z t0 t1 z0 z1
      rw [A70] at z1
      have f := e4 t z t0 t1 z0 z1
      have v := w1 t t0 t1
      by_cases d : z = s * 6 + k
      · rw [d, A71, B71]
        have ts : t = s := by omega
        subst ts
        refine cz_t ⟨by omega, by omega, ?_⟩
        rw [← d, f, d, hx]
      · rw [A71o z d, B71, f]
        refine cz_f (fun e => ?_)
        have e3 := e.2.2
        have ts : t = s := by omega
        subst ts
        exact d (w4 t z (t * 6 + k) t0 t1 z0 z1 (by omega) (by omega) (by rw [hx]; omega))
    · intro t z t0 t1 z0 z1
      have f := (e5 t z t0 t1 z0 z1).2.2
      rw [Bk 474 z (by decide) (by decide)]
      by_cases d : z = x
      · have f9 : a 472 z = 1 := by rw [d]; exact g.2.2
        rw [d, A72x, B72x]
        rw [d] at f f9
        exact Or.inr ⟨by decide, rfl, by omega⟩
      · by_cases e : z = y
        · rw [e, A72y, B72y]
          rw [e] at f
          exact Or.inr ⟨by decide, rfl, by omega⟩
        · rw [A72o z d e, B72o z d e]
          exact f
  · unfold WS_
    simp only [A48, A49, A70]
    refine ⟨w1, ?_, ?_, ?_, w5⟩
    · intro t z t0 t1 z0 z1
      have v := w1 t t0 t1
      by_cases d : z = s * 6 + k
      · have ts : t = s := by omega
        subst ts
        rw [d, A71, A72y]
        exact ⟨y0, y1, rfl⟩
      · have f := w2 t z t0 t1 z0 z1
        have nx : a 471 z ≠ x := fun e => by
          have fx := f.1
          have ts : t = s := by omega
          subst ts
          exact d (w4 t z (t * 6 + k) t0 t1 z0 z1 (by omega) (by omega) (by rw [hx]; exact e))
        have ny : a 471 z ≠ y := fun e => by
          have f2 := f.2.2
          rw [e, y2] at f2
          exact absurd f2 (by decide)
        rw [A71o z d, A72o _ nx ny]
        exact f
    · intro t z t0 t1 z0 z1 e
      by_cases d : z = y
      · have v9 := w1 t t0 t1
        have ts : t = s := by omega
        subst ts
        exact ⟨t * 6 + k, by omega, by omega, by rw [A71, d]⟩
      · have nx : z ≠ x := fun f => by rw [f, A72x] at e; exact absurd e (by decide)
        rw [A72o z nx d] at e
        obtain ⟨p, p0, p1, p2⟩ := w3 t z t0 t1 z0 z1 e
        have np : p ≠ s * 6 + k := fun f => nx (by rw [← p2, f]; exact hx)
        exact ⟨p, p0, p1, by rw [A71o p np]; exact p2⟩
    · intro t z z' t0 t1 z0 z1 u0 u1 e
      have v := w1 t t0 t1
      by_cases d : z = s * 6 + k
      · by_cases d' : z' = s * 6 + k
        · omega
        · rw [d, A71, A71o z' d'] at e
          have ts : t = s := by omega
          subst ts
          exact absurd e.symm (yn z' u0 u1)
      · by_cases d' : z' = s * 6 + k
        · rw [d', A71, A71o z d] at e
          have ts : t = s := by omega
          subst ts
          exact absurd e (yn z z0 z1)
        · rw [A71o z d, A71o z' d'] at e
          exact w4 t z z' t0 t1 z0 z1 u0 u1 e
/-- what the laws have asked -/
theorem lw_0 {r : Int → Int} {a : Sg_} {k s q o : Int} (h : lw9_ r a k s q o = 0) : a 103 3 = 0 ∧ ((k = 0 ∨ (0 ≤ s ∧ s ≤ 1)) ∧ ((r 0 = 0 ∧ 0 ≤ k ∧ k ≤ 5) ∨ (r 0 = 1 ∧ (k = 1 ∨ k = 5)) ∨ (r 0 = 2 ∧ (k = 1 ∨ k = 6)) ∨ (¬ r 0 = 0 ∧ ¬ r 0 = 1 ∧ ¬ r 0 = 2 ∧ 1 ≤ k ∧ k ≤ 4))) ∧ ((r 0 = 0 ∧ (a 103 4 ≠ 1 ∨ (k ≠ 1 ∧ k ≠ 2))) ∨ (r 0 ≠ 0 ∧ (r 0 ≠ 3 ∨ s = a 103 5))) ∧ ((k = 5 ∨ (r 0 = 0 ∧ k ≠ 0)) → fp9_ a s q ≠ -1) ∧ (k = 5 → bq9_ a s o ≠ -1 ∧ a 469 s < r 10) ∧ (r 0 ≠ 3 ∨ k ≠ 1 ∨ (1 ≤ o ∧ o ≤ 4)) := by
  by_cases c1 : a 103 3 ≠ 0
  · rw [lw9__1 (r := r) (a := a) (k := k) (s := s) (q := q) (o := o) c1] at h; exact absurd h (by decide)
  by_cases c2 : ¬ ((k = 0 ∨ (0 ≤ s ∧ s ≤ 1)) ∧ ((r 0 = 0 ∧ 0 ≤ k ∧ k ≤ 5) ∨ (r 0 = 1 ∧ (k = 1 ∨ k = 5)) ∨ (r 0 = 2 ∧ (k = 1 ∨ k = 6)) ∨ (¬ r 0 = 0 ∧ ¬ r 0 = 1 ∧ ¬ r 0 = 2 ∧ 1 ≤ k ∧ k ≤ 4)))
  · rw [lw9__2 (r := r) (a := a) (k := k) (s := s) (q := q) (o := o) c1 c2] at h; exact absurd h (by decide)
  by_cases c3 : ¬ ((r 0 = 0 ∧ (a 103 4 ≠ 1 ∨ (k ≠ 1 ∧ k ≠ 2))) ∨ (r 0 ≠ 0 ∧ (r 0 ≠ 3 ∨ s = a 103 5)))
  · rw [lw9__3 (r := r) (a := a) (k := k) (s := s) (q := q) (o := o) c1 c2 c3] at h; exact absurd h (by decide)
  by_cases c4 : (k = 5 ∨ (r 0 = 0 ∧ k ≠ 0)) ∧ fp9_ a s q = -1
  · rw [lw9__4 (r := r) (a := a) (k := k) (s := s) (q := q) (o := o) c1 c2 c3 c4] at h; exact absurd h (by decide)
  have y1 : a 103 3 = 0 := by omega
  have y2 : (k = 0 ∨ (0 ≤ s ∧ s ≤ 1)) ∧ ((r 0 = 0 ∧ 0 ≤ k ∧ k ≤ 5) ∨ (r 0 = 1 ∧ (k = 1 ∨ k = 5)) ∨ (r 0 = 2 ∧ (k = 1 ∨ k = 6)) ∨ (¬ r 0 = 0 ∧ ¬ r 0 = 1 ∧ ¬ r 0 = 2 ∧ 1 ≤ k ∧ k ≤ 4)) := Classical.byContradiction c2
  have y3 : (r 0 = 0 ∧ (a 103 4 ≠ 1 ∨ (k ≠ 1 ∧ k ≠ 2))) ∨ (r 0 ≠ 0 ∧ (r 0 ≠ 3 ∨ s = a 103 5)) := Classical.byContradiction c3
  have y4 : (k = 5 ∨ (r 0 = 0 ∧ k ≠ 0)) → fp9_ a s q ≠ -1 := fun d e => c4 ⟨d, e⟩
  by_cases c5 : k = 5
  · by_cases c6 : bq9_ a s o = -1
    · rw [lw9__5 (r := r) (a := a) (k := k) (s := s) (q := q) (o := o) c1 c2 c3 c4 c5 c6] at h; exact absurd h (by decide)
    by_cases c7 : r 10 ≤ a 469 s
    · rw [lw9__6 (r := r) (a := a) (k := k) (s := s) (q := q) (o := o) c1 c2 c3 c4 c5 c6 c7] at h; exact absurd h (by decide)
    by_cases c8 : r 0 ≠ 3 ∨ k ≠ 1 ∨ (1 ≤ o ∧ o ≤ 4)
    · exact ⟨y1, y2, y3, y4, fun _ => ⟨c6, by omega⟩, c8⟩
    · rw [lw9__8 (r := r) (a := a) (k := k) (s := s) (q := q) (o := o) c1 c2 c3 c4 c5 c6 c7 c8] at h; exact absurd h (by decide)
  · by_cases c8 : r 0 ≠ 3 ∨ k ≠ 1 ∨ (1 ≤ o ∧ o ≤ 4)
    · exact ⟨y1, y2, y3, y4, fun e => absurd e c5, c8⟩
    · rw [lw9__10 (r := r) (a := a) (k := k) (s := s) (q := q) (o := o) c1 c2 c3 c4 c5 c8] at h; exact absurd h (by decide)
/-- a change of men -/
theorem si_su {m n : Int} {r : Int → Int} {b a : Sg_} {s q o : Int} (h : SI_ m n r b a) (h0 : 0 ≤ s) (h1 : s ≤ 1) (hp : fp9_ a s q ≠ -1) (hb : bq9_ a s o ≠ -1) (hc : a 469 s < r 10) (g : n + 1 ≤ 1000000) : SI_ m (n + 1) r (suR_ b m s q o) (su9_ r a s q o) := by
  have n0 := h.2.2.1
  have d70 : b 469 s = a 469 s := (eq_j h.1 h0 h1).2.2.2.2.2
  have b69 := h.2.2.2.1 469 s (by decide) h0 h1
  have v1 := h.2.1.1 s h0 h1
  rcases k_f (q := q) h.1 h.2.1 h0 h1 with z | z
  · exact absurd z.1 hp
  rcases k_b (q := o) h.1 h.2.1 h0 h1 with y | y
  · exact absurd y.1 hb
  have gx := h.2.1.2.1 s (s * 6 + fp9_ a s q) h0 h1 (by omega) (by omega)
  have h9 := si_on (si_m (n' := n + 1) h (by omega) g) h0 h1 z.1 z.2.1 y.1 y.2.1 y.2.2.2.2
  rw [su9__2 (r := r) (a := a) (s := s) (q := q) (o := o) (by omega), suR__1 (a := b) (m := m) (s := s) (q := q) (o := o), z.2.2.1, y.2.2.1, ab_2 (x := a 471 (s * 6 + fp9_ a s q)) (by omega), ab_2 (x := bq9_ a s o) (by omega), show 20 * m + a 471 (s * 6 + fp9_ a s q) - 20 * m = a 471 (s * 6 + fp9_ a s q) by omega, show 20 * m + bq9_ a s o - 20 * m = bq9_ a s o by omega, d70]
  have w1 : wr_ (a 469 s + 1) = a 469 s + 1 := wr_9 (by omega)
  exact si_u h9 (Or.inl (by decide)) (by omega) (fun c => absurd c (by decide)) (fun c => absurd c (by decide)) (fun _ => by omega)
/-- football -/
theorem si_pf {m n : Int} {r : Int → Int} {b a : Sg_} {k s q o : Int} (h : SI_ m n r b a) (w : RB9_ r) (hk : 0 ≤ k ∧ k ≤ 4) (hs : k = 0 ∨ (0 ≤ s ∧ s ≤ 1)) (hp : k ≠ 0 → fp9_ a s q ≠ -1) (g : n + 2 ≤ 1000000) : SI_ m (n + 2) r (pfR_ r b m k s q o) (pf9_ r a k s q) := by
  have n0 := h.2.2.1
  have d4 : b 103 4 = a 103 4 := h.1.2.2.1.1
  have b4 := h.2.2.2.2.1
  have w4 : wr_ (a 103 4 + 1) = a 103 4 + 1 := wr_9 (by omega)
  have h9 := si_m (n' := n + 2) h (by omega) g
  by_cases k0 : k = 0
  · have hu : SI_ m (n + 2) r (u2_ b 103 4 (a 103 4 + 1)) (u2_ a 103 4 (a 103 4 + 1)) := si_u h9 (Or.inr ⟨rfl, Or.inl rfl⟩) (by omega) (fun _ z => absurd z (by decide)) (fun z => absurd z (by decide)) (fun z => absurd z (by decide))
    by_cases c : wr_ (a 103 4 + 1) = 3
    · rw [pf9__5 (r := r) (a := a) (k := k) (s := s) (q := q) (by omega) (by omega) (by omega) (by omega) c, pfR__1 (r := r) (a := b) (m := m) (k := k) (s := s) (q := q) (o := o) k0 (by rw [d4]; exact c), d4, w4]
      exact si_w hu (Or.inr ⟨rfl, rfl⟩)
    · rw [pf9__6 (r := r) (a := a) (k := k) (s := s) (q := q) (by omega) (by omega) (by omega) (by omega) c, pfR__2 (r := r) (a := b) (m := m) (k := k) (s := s) (q := q) (o := o) k0 (by rw [d4]; exact c), d4, w4]
      exact si_w hu (Or.inl ⟨rfl, rfl⟩)
  have h0 : 0 ≤ s := by omega
  have h1 : s ≤ 1 := by omega
  by_cases k1 : k = 1
  · have b68 := h.2.2.2.1 468 s (by decide) h0 h1
    have w8 : wr_ (a 468 s + 1) = a 468 s + 1 := wr_9 (by omega)
    rw [pf9__1 (r := r) (a := a) (k := k) (s := s) (q := q) k1, pfR__3 (r := r) (a := b) (m := m) (k := k) (s := s) (q := q) (o := o) k0 k1]
    exact si_ad h9 h0 h1 rfl (by omega)
  by_cases k2 : k = 2
  · have b68 := h.2.2.2.1 468 (1 - s) (by decide) (by omega) (by omega)
    have w8 : wr_ (a 468 (1 - s) + 1) = a 468 (1 - s) + 1 := wr_9 (by omega)
    rw [pf9__2 (r := r) (a := a) (k := k) (s := s) (q := q) k1 k2, pfR__4 (r := r) (a := b) (m := m) (k := k) (s := s) (q := q) (o := o) k0 k1 k2]
    exact si_ad h9 (by omega) (by omega) rfl (by omega)
  -- a person on the field
  rcases k_f (q := q) h.1 h.2.1 h0 h1 with z | z
  · exact absurd z.1 (hp k0)
  have v1 := h.2.1.1 s h0 h1
  have gx := h.2.1.2.1 s (s * 6 + fp9_ a s q) h0 h1 (by omega) (by omega)
  have ea : ab9_ m (slR_ b s q) = 20 * m + a 471 (s * 6 + fp9_ a s q) := by
    rw [z.2.2.1]
    exact ab_2 (by omega)
  have ex : 20 * m + a 471 (s * 6 + fp9_ a s q) - 20 * m = a 471 (s * 6 + fp9_ a s q) := by omega
  have d73 : b 473 (a 471 (s * 6 + fp9_ a s q)) = a 473 (a 471 (s * 6 + fp9_ a s q)) := (h.1.2.2.2.2 s _ h0 h1 gx.1 gx.2.1).2.1
  have b73 := h.2.2.2.2.2.2.1 s _ h0 h1 gx.1 gx.2.1
  have w7 : wr_ (a 473 (a 471 (s * 6 + fp9_ a s q)) + 1) = a 473 (a 471 (s * 6 + fp9_ a s q)) + 1 := wr_9 (by omega)
  by_cases k3 : k = 3
  · have hy := si_y (si_m (n' := n + 1) h (by omega) (by omega)) h0 h1 gx.1 gx.2.1 (v := wr_ (a 473 (a 471 (s * 6 + fp9_ a s q)) + 1)) (by omega)
    by_cases c : wr_ (a 473 (a 471 (s * 6 + fp9_ a s q)) + 1) = 2
    · rw [pf9__3 (r := r) (a := a) (k := k) (s := s) (q := q) k1 k2 k3, yl9__2 (r := r) (a := a) (s := s) (k := fp9_ a s q) (by omega) c, pfR__5 (r := r) (a := b) (m := m) (k := k) (s := s) (q := q) (o := o) k0 k1 k2 k3 (by rw [ea, ex, d73]; exact c), ea, ex, d73]
      have e70 : u2_ a 473 (a 471 (s * 6 + fp9_ a s q)) (wr_ (a 473 (a 471 (s * 6 + fp9_ a s q)) + 1)) 470 s = a 470 s := u2_k (by decide) s
      have e71 : u2_ a 473 (a 471 (s * 6 + fp9_ a s q)) (wr_ (a 473 (a 471 (s * 6 + fp9_ a s q)) + 1)) 471 (s * 6 + fp9_ a s q) = a 471 (s * 6 + fp9_ a s q) := u2_k (by decide) _
      have f := si_so hy w h0 h1 z.1 (by rw [e70]; exact z.2.1) (by omega)
      rw [e71, show n + 1 + 1 = n + 2 by omega] at f
      exact f
    · rw [pf9__3 (r := r) (a := a) (k := k) (s := s) (q := q) k1 k2 k3, yl9__3 (r := r) (a := a) (s := s) (k := fp9_ a s q) (by omega) c, pfR__6 (r := r) (a := b) (m := m) (k := k) (s := s) (q := q) (o := o) k0 k1 k2 k3 (by rw [ea, ex, d73]; exact c), ea, ex, d73]
      exact si_m hy (by omega) g
  have k4 : k = 4 := by omega
  rw [pf9__4 (r := r) (a := a) (k := k) (s := s) (q := q) k1 k2 k3 k4, pfR__7 (r := r) (a := b) (m := m) (k := k) (s := s) (q := q) (o := o) k0 k1 k2 k3 k4, ea]
  exact si_m (si_so h w h0 h1 z.1 z.2.1 (by omega)) (by omega) g
/-- an event, whole -/
theorem si_ca {m n : Int} {r : Int → Int} {b a : Sg_} {k s q o : Int} (h : SI_ m n r b a) (w : RB9_ r) (hl : lw9_ r a k s q o = 0) (hf : ∀ t, 0 ≤ t → t ≤ 1 → 1 ≤ a 470 t) (g : n + 3 ≤ 1000000) : SI_ m (n + 3) r (plR_ r b m k s q o) (ca9_ r a k s q o) := by
  have n0 := h.2.2.1
  have w0 := w.1
  obtain ⟨l1, l2, l3, l4, l5, l6⟩ := lw_0 hl
  by_cases k5 : k = 5
  · have hs : 0 ≤ s ∧ s ≤ 1 := by first | (clear l3 l4 l5 l6; omega) | omega
    have hu := si_m (n' := n + 3) (si_su h hs.1 hs.2 (l4 (Or.inl k5)) (l5 k5).1 (l5 k5).2 (by first | (clear l2 l3 l4 l5 l6; omega) | (clear l3 l4 l5 l6; omega) | omega)) (by first | (clear l2 l3 l4 l5 l6; omega) | (clear l3 l4 l5 l6; omega) | omega) g
    rw [ca9__1 (r := r) (a := a) (k := k) (s := s) (q := q) (o := o) k5]
    by_cases r0 : r 0 = 0
    · rw [plR__1 (r := r) (a := b) (m := m) (k := k) (s := s) (q := q) (o := o) r0, pfR__8 (r := r) (a := b) (m := m) (k := k) (s := s) (q := q) (o := o) (by first | (clear l2 l3 l4 l5 l6; omega) | (clear l3 l4 l5 l6; omega) | omega) (by first | (clear l2 l3 l4 l5 l6; omega) | (clear l3 l4 l5 l6; omega) | omega) (by first | (clear l2 l3 l4 l5 l6; omega) | (clear l3 l4 l5 l6; omega) | omega) (by first | (clear l2 l3 l4 l5 l6; omega) | (clear l3 l4 l5 l6; omega) | omega) (by first | (clear l2 l3 l4 l5 l6; omega) | (clear l3 l4 l5 l6; omega) | omega)]
      exact hu
    · have r1 : r 0 = 1 := by first | (clear l3 l4 l5 l6; omega) | omega
      rw [plR__2 (r := r) (a := b) (m := m) (k := k) (s := s) (q := q) (o := o) r0 r1, pvR__1 (r := r) (a := b) (m := m) (k := k) (s := s) (q := q) (o := o) k5]
      exact hu
  by_cases r0 : r 0 = 0
  · rw [ca9__2 (r := r) (a := a) (k := k) (s := s) (q := q) (o := o) k5 r0, plR__1 (r := r) (a := b) (m := m) (k := k) (s := s) (q := q) (o := o) r0]
    exact si_m (si_pf h w (by first | (clear l2 l3 l4 l5 l6; omega) | (clear l3 l4 l5 l6; omega) | omega) (by first | (clear l2 l3 l4 l5 l6; omega) | (clear l3 l4 l5 l6; omega) | omega) (fun e => l4 (Or.inr ⟨r0, e⟩)) (by first | (clear l2 l3 l4 l5 l6; omega) | (clear l3 l4 l5 l6; omega) | omega)) (by first | (clear l2 l3 l4 l5 l6; omega) | (clear l3 l4 l5 l6; omega) | omega) g
  have hs : 0 ≤ s ∧ s ≤ 1 := by first | (clear l3 l4 l5 l6; omega) | omega
  by_cases r1 : r 0 = 1
  · rw [ca9__3 (r := r) (a := a) (k := k) (s := s) (q := q) (o := o) k5 r0 r1, plR__2 (r := r) (a := b) (m := m) (k := k) (s := s) (q := q) (o := o) r0 r1]
    exact si_m (si_pv h (si_rt h hs.1 hs.2 (hf s hs.1 hs.2)) w hs.1 hs.2 (by first | (clear l2 l3 l4 l5 l6; omega) | (clear l3 l4 l5 l6; omega) | omega) r1 (by first | (clear l2 l3 l4 l5 l6; omega) | (clear l3 l4 l5 l6; omega) | omega)) (by first | (clear l2 l3 l4 l5 l6; omega) | (clear l3 l4 l5 l6; omega) | omega) g
  by_cases r2 : r 0 = 2
  · rw [ca9__4 (r := r) (a := a) (k := k) (s := s) (q := q) (o := o) k5 r0 r1 r2, plR__3 (r := r) (a := b) (m := m) (k := k) (s := s) (q := q) (o := o) r0 r1 r2]
    exact si_m (si_pt h w hs.1 hs.2 r2 (by first | (clear l2 l3 l4 l5 l6; omega) | (clear l3 l4 l5 l6; omega) | omega)) (by first | (clear l2 l3 l4 l5 l6; omega) | (clear l3 l4 l5 l6; omega) | omega) g
  · rw [ca9__5 (r := r) (a := a) (k := k) (s := s) (q := q) (o := o) k5 r0 r1 r2, plR__4 (r := r) (a := b) (m := m) (k := k) (s := s) (q := q) (o := o) r0 r1 r2]
    exact si_pb h w hs.1 hs.2 (by first | (clear l2 l3 l4 l5 l6; omega) | (clear l3 l4 l5 l6; omega) | omega) (by first | (clear l2 l3 l4 l5 l6; omega) | (clear l3 l4 l5 l6; omega) | omega) g
/-- the beginning of both -/
theorem bb_2 {r : Int → Int} {a : Sg_} : bb9_ r a = bl9_ (u2_ (bl9_ (u2_ (bi9_ a (cz_ (r 0 = 3) 1 0)) 470 0 (r 9)) 0 (r 9)) 470 1 (r 9)) 1 (r 9) := rfl
theorem bl_f {b : Sg_} {s k J : Int} (h : s * 6 ≤ J ∧ J < s * 6 + k) : bl9_ b s k 471 J = s * 10 + (J - s * 6) := if_pos ⟨rfl, h⟩
theorem bl_r {b : Sg_} {s k J : Int} (h : s * 10 ≤ J ∧ J < s * 10 + k) : bl9_ b s k 472 J = 1 := by
  unfold bl9_
  rw [if_neg (fun e => absurd e.1 (by decide)), if_pos ⟨rfl, h⟩]
theorem bl_g {b : Sg_} {s k J : Int} (h : ¬ (s * 6 ≤ J ∧ J < s * 6 + k)) : bl9_ b s k 471 J = b 471 J := by
  unfold bl9_
  rw [if_neg (fun e => h e.2), if_neg (fun e => absurd e.1 (by decide))]
theorem bl_q {b : Sg_} {s k J : Int} (h : ¬ (s * 10 ≤ J ∧ J < s * 10 + k)) : bl9_ b s k 472 J = b 472 J := by
  unfold bl9_
  rw [if_neg (fun e => absurd e.1 (by decide)), if_neg (fun e => h e.2)]
theorem bl_k {b : Sg_} {s k : Int} {K : Nat} (h : K ≠ 471) (h2 : K ≠ 472) (J : Int) : bl9_ b s k K J = b K J := by
  unfold bl9_
  rw [if_neg (fun e => h e.1), if_neg (fun e => h2 e.1)]
theorem si_bb {m : Int} {r : Int → Int} {b a : Sg_} (w : RB9_ r) (g49 : ∀ t, 0 ≤ t → t ≤ 1 → r 9 ≤ a 449 t ∧ a 449 t ≤ 10) (w5 : ∀ s x y, 0 ≤ s → s ≤ 1 → s * 10 ≤ x → x < s * 10 + a 449 s → s * 10 ≤ y → y < s * 10 + a 449 s → a 448 x = a 448 y → x = y)
    (f49 : ∀ t, 0 ≤ t → t ≤ 1 → b 449 t = a 449 t) (f48 : ∀ t x, 0 ≤ t → t ≤ 1 → t * 10 ≤ x → x < t * 10 + a 449 t → b 448 x = a 448 x) (f70 : ∀ t, 0 ≤ t → t ≤ 1 → b 470 t = r 9)
    (f72 : ∀ t x, 0 ≤ t → t ≤ 1 → t * 10 ≤ x → x < t * 10 + a 449 t → (x < t * 10 + r 9 → b 472 x = 1) ∧ (t * 10 + r 9 ≤ x → b 472 x = 0) ∧ b 473 x = 0 ∧ b 474 x = 0)
    (f71 : ∀ t x, 0 ≤ t → t ≤ 1 → t * 6 ≤ x → x < t * 6 + r 9 → b 471 x = 20 * m + t * 10 + (x - t * 6))
    (fz : b 466 0 = 0 ∧ b 466 1 = 0 ∧ b 467 0 = 0 ∧ b 467 1 = 0 ∧ b 468 0 = 0 ∧ b 468 1 = 0 ∧ b 469 0 = 0 ∧ b 469 1 = 0) (f4 : b 103 4 = 0) (f5 : b 103 5 = cz_ (r 0 = 3) 1 0) (f3 : b 103 3 = 1) : SI_ m 0 r b (bb9_ r a) := by
  have w9 := w.2.1
  rw [bb_2]
  generalize hv : cz_ (r 0 = 3) (1 : Int) 0 = v at f5 ⊢
  have v01 : 0 ≤ v ∧ v ≤ 1 := by
    rw [← hv]
    by_cases z : r 0 = 3
    · rw [cz_t z]; decide
    · rw [cz_f z]; decide
  generalize hA : bl9_ (u2_ (bl9_ (u2_ (bi9_ a v) 470 0 (r 9)) 0 (r 9)) 470 1 (r 9)) 1 (r 9) = A
  have Ao : ∀ (K : Nat) (J : Int), K ≠ 470 → K ≠ 471 → K ≠ 472 → A K J = bi9_ a v K J := fun K J d e f => by rw [← hA, bl_k e f, u2_k d, bl_k e f, u2_k d]
  have A70 : ∀ t, 0 ≤ t → t ≤ 1 → A 470 t = r 9 := fun t t0 t1 => by
    rw [← hA, bl_k (by decide) (by decide)]
    rcases (by omega : t = 0 ∨ t = 1) with z | z
    · rw [z, u2_n (fun e => absurd e.2 (by decide)), bl_k (by decide) (by decide), u2_s]
    · rw [z, u2_s]
  have A71 : ∀ t x, 0 ≤ t → t ≤ 1 → t * 6 ≤ x → x < t * 6 + r 9 → A 471 x = t * 10 + (x - t * 6) := fun t x t0 t1 x0 x1 => by
    rw [← hA]
    rcases (by omega : t = 0 ∨ t = 1) with z | z
    · subst z
      rw [bl_g (by omega), u2_k (by decide), bl_f (by omega)]
    · subst z
      rw [bl_f (by omega)]
  have i72 : ∀ x, 0 ≤ x → x < 20 → bi9_ a v 472 x = 0 := fun x x0 x1 => by
    unfold bi9_
    rw [fy2_k (by decide)]
    exact fy2_s ⟨x0, x1⟩
  have A72 : ∀ t x, 0 ≤ t → t ≤ 1 → t * 10 ≤ x → x < t * 10 + 10 → (x < t * 10 + r 9 ∧ A 472 x = 1) ∨ (t * 10 + r 9 ≤ x ∧ A 472 x = 0) := fun t x t0 t1 x0 x1 => by
    rw [← hA]
    rcases (by omega : t = 0 ∨ t = 1) with z | z
    · subst z
      rw [bl_q (by omega), u2_k (by decide)]
      by_cases y : x < 0 * 10 + r 9
      · exact Or.inl ⟨y, bl_r (by omega)⟩
      · refine Or.inr ⟨by omega, ?_⟩
        rw [bl_q (by omega), u2_k (by decide)]
        exact i72 x (by omega) (by omega)
    · subst z
      by_cases y : x < 1 * 10 + r 9
      · exact Or.inl ⟨y, bl_r (by omega)⟩
      · refine Or.inr ⟨by omega, ?_⟩
        rw [bl_q (by omega), u2_k (by decide), bl_q (by omega), u2_k (by decide)]
        exact i72 x (by omega) (by omega)
  have A49 : ∀ J, A 449 J = a 449 J := fun J => by
    rw [Ao 449 J (by decide) (by decide) (by decide)]
    unfold bi9_
    rw [fy2_k (by decide), fy2_k (by decide), fy2_k (by decide), fy2_k (by decide), fy2_k (by decide), fy2_k (by decide), u2_k (by decide), u2_k (by decide), u2_k (by decide)]
  have A48 : ∀ J, A 448 J = a 448 J := fun J => by
    rw [Ao 448 J (by decide) (by decide) (by decide)]
    unfold bi9_
    rw [fy2_k (by decide), fy2_k (by decide), fy2_k (by decide), fy2_k (by decide), fy2_k (by decide), fy2_k (by decide), u2_k (by decide), u2_k (by decide), u2_k (by decide)]
  have A73 : ∀ x, 0 ≤ x → x < 20 → A 473 x = 0 := fun x x0 x1 => by
    rw [Ao 473 x (by decide) (by decide) (by decide)]
    exact fy2_s ⟨x0, x1⟩
  have A66 : ∀ j, 0 ≤ j → j ≤ 1 → A 466 j = 0 ∧ A 467 j = 0 ∧ A 468 j = 0 ∧ A 469 j = 0 := fun j j0 j1 => by
    rw [Ao 466 j (by decide) (by decide) (by decide), Ao 467 j (by decide) (by decide) (by decide), Ao 468 j (by decide) (by decide) (by decide), Ao 469 j (by decide) (by decide) (by decide)]
    unfold bi9_
    refine ⟨?_, ?_, ?_, ?_⟩
    · rw [fy2_k (by decide), fy2_k (by decide), fy2_k (by decide), fy2_k (by decide), fy2_k (by decide)]
      exact fy2_s ⟨j0, by omega⟩
    · rw [fy2_k (by decide), fy2_k (by decide), fy2_k (by decide), fy2_k (by decide)]
      exact fy2_s ⟨j0, by omega⟩
    · rw [fy2_k (by decide), fy2_k (by decide), fy2_k (by decide)]
      exact fy2_s ⟨j0, by omega⟩
    · rw [fy2_k (by decide), fy2_k (by decide)]
      exact fy2_s ⟨j0, by omega⟩
  have A3 : A 103 3 = 0 ∧ A 103 4 = 0 ∧ A 103 5 = v := by
    rw [Ao 103 3 (by decide) (by decide) (by decide), Ao 103 4 (by decide) (by decide) (by decide), Ao 103 5 (by decide) (by decide) (by decide)]
    unfold bi9_
    refine ⟨?_, ?_, ?_⟩
    · rw [fy2_k (by decide), fy2_k (by decide), fy2_k (by decide), fy2_k (by decide), fy2_k (by decide), fy2_k (by decide), u2_n (fun e => absurd e.2 (by decide)), u2_n (fun e => absurd e.2 (by decide)), u2_s]
    · rw [fy2_k (by decide), fy2_k (by decide), fy2_k (by decide), fy2_k (by decide), fy2_k (by decide), fy2_k (by decide), u2_n (fun e => absurd e.2 (by decide)), u2_s]
    · rw [fy2_k (by decide), fy2_k (by decide), fy2_k (by decide), fy2_k (by decide), fy2_k (by decide), fy2_k (by decide), u2_s]
  have z0 := A66 0 (by decide) (by decide)
  have z1 := A66 1 (by decide) (by decide)
  refine ⟨⟨?_, ?_, ?_, ?_, ?_⟩, ⟨?_, ?_, ?_, ?_, ?_⟩, ?_⟩
  · rw [A49, A49, A70 0 (by decide) (by decide), A70 1 (by decide) (by decide)]
    exact ⟨f49 0 (by decide) (by decide), f49 1 (by decide) (by decide), f70 0 (by decide) (by decide), f70 1 (by decide) (by decide)⟩
  · omega
  · exact ⟨by omega, by omega, Or.inl ⟨A3.1, f3⟩⟩
  · intro t x t0 t1 x0 x1
    rw [A70 t t0 t1] at x1
    rw [A71 t x t0 t1 x0 x1, f71 t x t0 t1 x0 x1]
    omega
  · intro t x t0 t1 x0 x1
    rw [A49] at x1
    have g := g49 t t0 t1
    have e := f72 t x t0 t1 x0 x1
    rw [A48, A73 x (by omega) (by omega)]
    refine ⟨f48 t x t0 t1 x0 x1, e.2.2.1, ?_⟩
    rcases A72 t x t0 t1 x0 (by omega) with ⟨y, z⟩ | ⟨y, z⟩
    · rw [z]; exact Or.inr ⟨by decide, e.1 y, e.2.2.2⟩
    · rw [z]; exact Or.inr ⟨by decide, e.2.1 y, e.2.2.2⟩
  · intro t t0 t1
    rw [A49, A70 t t0 t1]
    have := g49 t t0 t1
    omega
  · intro t x t0 t1 x0 x1
    rw [A70 t t0 t1] at x1
    have g := g49 t t0 t1
    rw [A49, A71 t x t0 t1 x0 x1]
    refine ⟨by omega, by omega, ?_⟩
    rcases A72 t (t * 10 + (x - t * 6)) t0 t1 (by omega) (by omega) with ⟨y, z⟩ | ⟨y, z⟩
    · exact z
    · omega
  · intro t x t0 t1 x0 x1 e
    rw [A49] at x1
    have g := g49 t t0 t1
    rcases A72 t x t0 t1 x0 (by omega) with ⟨y, z⟩ | ⟨y, z⟩
    · refine ⟨t * 6 + (x - t * 10), by omega, by rw [A70 t t0 t1]; omega, ?_⟩
      rw [A71 t _ t0 t1 (by omega) (by omega)]
      omega
    · omega
  · intro t x y t0 t1 x0 x1 y0 y1 e
    rw [A70 t t0 t1] at x1 y1
    rw [A71 t x t0 t1 x0 x1, A71 t y t0 t1 y0 y1] at e
    omega
  · intro t x y t0 t1 x0 x1 y0 y1 e
    rw [A49] at x1 y1
    rw [A48, A48] at e
    exact w5 t x y t0 t1 x0 x1 y0 y1 e
  · have w10 := w.2.2.1
    have w11 := w.2.2.2.1
    refine ⟨by decide, fun K J c j0 j1 => ?_, by omega, by omega, fun t x t0 t1 x0 x1 => ?_, fun _ => by omega, fun _ j j0 j1 => ?_, fun j j0 j1 => ?_⟩
    · have zj := A66 J j0 j1
      rcases c with c | c | c | c
      · rw [c]; omega
      · rw [c]; omega
      · rw [c]; omega
      · rw [c]; omega
    · rw [A49] at x1
      have g := g49 t t0 t1
      rw [A73 x (by omega) (by omega)]
      decide
    · have zj := A66 j j0 j1
      omega
    · have zj := A66 j j0 j1
      omega
-- rows of the plays as lists
abbrev Rw_ : Type := Int × Int × Int × Int
def ra9_ (T : Zt) (a i : Int) : Rw_ := (T 190 a (i * 4), T 190 a (i * 4 + 1), T 190 a (i * 4 + 2), T 190 a (i * 4 + 3))
/-- the first n rows of a log -/
def hr9_ (T : Zt) (a : Int) : Nat → List Rw_
  | 0 => []
  | n + 1 => hr9_ T a n ++ [ra9_ T a (n : Int)]
theorem hrw_l {T : Zt} {a : Int} : ∀ n : Nat, (hr9_ T a n).length = n
  | 0 => rfl
  | n + 1 => by
    show (hr9_ T a n ++ [ra9_ T a (n : Int)]).length = n + 1
    rw [List.length_append, hrw_l n]
    rfl
theorem hrw_g {T : Zt} {a : Int} {i : Nat} : ∀ n : Nat, i < n → (hr9_ T a n)[i]? = some (ra9_ T a (i : Int))
  | 0, h => absurd h (Nat.not_lt_zero _)
  | n + 1, h => by
    show (hr9_ T a n ++ [ra9_ T a (n : Int)])[i]? = _
    by_cases z : i < n
    · rw [List.getElem?_append_left (by rw [hrw_l]; exact z)]
      exact hrw_g n z
    · have e : i = n := by omega
      subst e
      rw [List.getElem?_append_right (by rw [hrw_l]; exact Nat.le_refl _), hrw_l, Nat.sub_self]
      rfl
theorem hrw_n {T : Zt} {a : Int} {i n : Nat} (h : n ≤ i) : (hr9_ T a n)[i]? = none := List.getElem?_eq_none (by rw [hrw_l]; exact h)
theorem ra_e {T T' : Zt} {a a' i i' : Int} (h : ∀ j, 0 ≤ j → j < 4 → T' 190 a' (i' * 4 + j) = T 190 a (i * 4 + j)) : ra9_ T' a' i' = ra9_ T a i := by
  have h0 := h 0 (by decide) (by decide)
  have h1 := h 1 (by decide) (by decide)
  have h2 := h 2 (by decide) (by decide)
  have h3 := h 3 (by decide) (by decide)
  rw [Int.add_zero, Int.add_zero] at h0
  unfold ra9_
  rw [h0, h1, h2, h3]
theorem hrw_u {T : Zt} {a : Int} {n : Nat} {l : List Rw_} (hl : l.length = n) (h : ∀ i : Nat, i < n → l[i]? = some (ra9_ T a (i : Int))) : hr9_ T a n = l := by
  refine List.ext_getElem? (fun i => ?_)
  by_cases z : i < n
  · rw [hrw_g n z, h i z]
  · rw [hrw_n (by omega), List.getElem?_eq_none (by omega)]
theorem hrw_e {T T' : Zt} {a a' : Int} {n : Nat} (h : ∀ j, 0 ≤ j → j < 4 * (n : Int) → T' 190 a' j = T 190 a j) : hr9_ T' a' n = hr9_ T a n :=
  hrw_u (hrw_l n) (fun i z => by
    rw [hrw_g n z]
    exact congrArg some (ra_e (fun j j0 j1 => (h ((i : Int) * 4 + j) (by omega) (by omega)).symm)))
/-- a row is written over -/
theorem hrw_s {T T' : Zt} {a i n : Int} {q : Rw_} (h0 : 0 ≤ i) (hi : i < n) (h : ∀ j, ¬ (i * 4 ≤ j ∧ j < i * 4 + 4) → T' 190 a j = T 190 a j) (hq : ra9_ T' a i = q) : hr9_ T' a n.toNat = (hr9_ T a n.toNat).set i.toNat q := by
  refine hrw_u (by rw [List.length_set, hrw_l]) (fun j z => ?_)
  by_cases e : i.toNat = j
  · subst e
    rw [List.getElem?_set, if_pos rfl, if_pos (by rw [hrw_l]; omega), show ((i.toNat : Nat) : Int) = i by omega, hq]
  · rw [List.getElem?_set_ne e, hrw_g _ z]
    exact congrArg some (ra_e (fun t t0 t1 => (h ((j : Int) * 4 + t) (by omega)).symm))
/-- a row is taken out -/
theorem hrw_d {T T' : Zt} {a i n : Int} (h0 : 0 ≤ i) (hi : i < n) (h1 : ∀ j, j < i * 4 → T' 190 a j = T 190 a j) (h2 : ∀ j, i * 4 ≤ j → j < n * 4 - 4 → T' 190 a j = T 190 a (j + 4)) : hr9_ T' a (n - 1).toNat = (hr9_ T a n.toNat).eraseIdx i.toNat := by
  refine hrw_u (by rw [List.length_eraseIdx_of_lt (by rw [hrw_l]; omega), hrw_l]; omega) (fun j z => ?_)
  by_cases e : j < i.toNat
  · rw [List.getElem?_eraseIdx_of_lt e, hrw_g _ (by omega)]
    exact congrArg some (ra_e (fun t t0 t1 => (h1 ((j : Int) * 4 + t) (by omega)).symm))
  · rw [List.getElem?_eraseIdx_of_ge (by omega), hrw_g _ (by omega)]
    refine congrArg some (ra_e (fun t t0 t1 => ?_))
    rw [h2 ((j : Int) * 4 + t) (by omega) (by omega), show (((j + 1 : Nat) : Int)) * 4 + t = (j : Int) * 4 + t + 4 by omega]
/-- a row comes behind -/
theorem hrw_k {T T' : Zt} {a a' i n : Int} {q : Rw_} (h0 : 0 ≤ i) (hn : n = i + 1) (h : ∀ j, 0 ≤ j → j < i * 4 → T' 190 a' j = T 190 a j) (hq : ra9_ T' a' i = q) : hr9_ T' a' n.toNat = hr9_ T a i.toNat ++ [q] := by
  rw [show n.toNat = i.toNat + 1 by omega]
  show hr9_ T' a' i.toNat ++ [ra9_ T' a' ((i.toNat : Nat) : Int)] = _
  rw [hrw_e (T := T) (a := a) (fun j j0 j1 => h j j0 (by omega)), show ((i.toNat : Nat) : Int) = i by omega, hq]
theorem hrw_t {T : Zt} {a i : Int} (h0 : 0 ≤ i) : hr9_ T a (i + 1).toNat = hr9_ T a i.toNat ++ [ra9_ T a i] := hrw_k h0 rfl (fun _ _ _ => rfl) rfl
-- a run of rows
abbrev Rz_ : Type := Sg_ × List Rw_ × Int
noncomputable def stH_ (r : Int → Int) (x : Rz_) (q : Rw_) : Rz_ := cz_ (lw9_ r x.1 q.1 q.2.1 q.2.2.1 q.2.2.2 = 0) (ca9_ r x.1 q.1 q.2.1 q.2.2.1 q.2.2.2, x.2.1 ++ [q], x.2.2) (x.1, x.2.1, x.2.2 + 1)
noncomputable def stR_ (r : Int → Int) (m : Int) (x : Rz_) (q : Rw_) : Rz_ := cz_ (lwR_ r x.1 q.1 q.2.1 q.2.2.1 q.2.2.2 = 0) (plR_ r x.1 m q.1 q.2.1 q.2.2.1 q.2.2.2, x.2.1 ++ [q], x.2.2) (x.1, x.2.1, x.2.2 + 1)
noncomputable def rnH_ (r : Int → Int) (a : Sg_) (l : List Rw_) : Rz_ := l.foldl (stH_ r) (a, [], 0)
noncomputable def rnR_ (r : Int → Int) (m : Int) (b : Sg_) (l : List Rw_) : Rz_ := l.foldl (stR_ r m) (b, [], 0)
theorem rnH_a {r : Int → Int} {a : Sg_} {l : List Rw_} {q : Rw_} : rnH_ r a (l ++ [q]) = stH_ r (rnH_ r a l) q := by
  unfold rnH_
  rw [List.foldl_append]
  rfl
theorem rnR_a {r : Int → Int} {m : Int} {b : Sg_} {l : List Rw_} {q : Rw_} : rnR_ r m b (l ++ [q]) = stR_ r m (rnR_ r m b l) q := by
  unfold rnR_
  rw [List.foldl_append]
  rfl
theorem stH_t {r : Int → Int} {x : Rz_} {k s q o : Int} (h : lw9_ r x.1 k s q o = 0) : stH_ r x (k, s, q, o) = (ca9_ r x.1 k s q o, x.2.1 ++ [(k, s, q, o)], x.2.2) := cz_t h
theorem stH_f {r : Int → Int} {x : Rz_} {k s q o : Int} (h : ¬ lw9_ r x.1 k s q o = 0) : stH_ r x (k, s, q, o) = (x.1, x.2.1, x.2.2 + 1) := cz_f h
theorem stR_t {r : Int → Int} {m : Int} {x : Rz_} {k s q o : Int} (h : lwR_ r x.1 k s q o = 0) : stR_ r m x (k, s, q, o) = (plR_ r x.1 m k s q o, x.2.1 ++ [(k, s, q, o)], x.2.2) := cz_t h
theorem stR_f {r : Int → Int} {m : Int} {x : Rz_} {k s q o : Int} (h : ¬ lwR_ r x.1 k s q o = 0) : stR_ r m x (k, s, q, o) = (x.1, x.2.1, x.2.2 + 1) := cz_f h
-- while a play goes on, someone stands on each field
def FN_ (a : Sg_) : Prop := a 103 3 = 0 → 1 ≤ a 470 0 ∧ 1 ≤ a 470 1
/-- the fields stay, and what has ended has ended -/
def NF_ (a a' : Sg_) : Prop := (∀ j, a' 470 j = a 470 j) ∧ (a' 103 3 = 0 → a 103 3 = 0)
theorem nf_r {a : Sg_} : NF_ a a := ⟨fun _ => rfl, id⟩
theorem nf_u {a b : Sg_} {k : Nat} {j v : Int} (h : NF_ a b) (c : k ≠ 470 ∧ k ≠ 103) : NF_ a (u2_ b k j v) := ⟨fun i => (u2_k (Ne.symm c.1) i).trans (h.1 i), fun z => h.2 ((u2_k (Ne.symm c.2) 3).symm.trans z)⟩
theorem nf_4 {a b : Sg_} {v : Int} (h : NF_ a b) : NF_ a (u2_ b 103 4 v) := ⟨fun i => (u2_k (by decide) i).trans (h.1 i), fun z => h.2 ((u2_n (by decide)).symm.trans z)⟩
theorem nf_5 {a b : Sg_} {v : Int} (h : NF_ a b) : NF_ a (u2_ b 103 5 v) := ⟨fun i => (u2_k (by decide) i).trans (h.1 i), fun z => h.2 ((u2_n (by decide)).symm.trans z)⟩
theorem nf_x {a b : Sg_} (h : NF_ a b) : NF_ a (u2_ b 103 3 1) := ⟨fun i => (u2_k (by decide) i).trans (h.1 i), fun z => absurd ((u2_s b 103 3 1).symm.trans z) (by decide)⟩
theorem nf_f {a b : Sg_} {k : Nat} {n v : Int} (h : NF_ a b) (c : k ≠ 470 ∧ k ≠ 103) : NF_ a (fy2_ b k n v) := ⟨fun i => (fy2_k (Ne.symm c.1) i).trans (h.1 i), fun z => h.2 ((fy2_k (Ne.symm c.2) 3).symm.trans z)⟩
theorem nf_g {a b : Sg_} {s : Int} (h : NF_ a b) : NF_ a (rt9_ b s) := ⟨fun i => (rt_k (by decide) i).trans (h.1 i), fun z => h.2 ((rt_k (by decide) 3).symm.trans z)⟩
theorem nf_t {a b c : Sg_} (h : NF_ a b) (g : NF_ b c) : NF_ a c := ⟨fun i => (g.1 i).trans (h.1 i), fun z => h.2 (g.2 z)⟩
theorem cz_p {A : Type} {Q : A → Prop} {c : Prop} {x y : A} (h : c → Q x) (g : ¬ c → Q y) : Q (cz_ c x y) := by
  by_cases z : c
  · rw [cz_t z]; exact h z
  · rw [cz_f z]; exact g z
theorem fn_n {a b : Sg_} (h : FN_ a) (g : NF_ a b) : FN_ b := fun z => by
  have y := h (g.2 z)
  rw [g.1 0, g.1 1]
  exact y
theorem nf_pv {r : Int → Int} {a : Sg_} {s : Int} : NF_ a (pv9_ r a s) := by
  unfold pv9_
  repeat' (first | exact nf_r | refine cz_p (Q := NF_ a) (fun _ => ?_) (fun _ => ?_) | refine nf_x ?_ | refine nf_4 ?_ | refine nf_5 ?_ | refine nf_u ?_ (by decide) | refine nf_f ?_ (by decide) | refine nf_g ?_)
theorem nf_pt {r : Int → Int} {a : Sg_} {k s : Int} : NF_ a (pt9_ r a k s) := by
  unfold pt9_
  repeat' (first | exact nf_r | refine cz_p (Q := NF_ a) (fun _ => ?_) (fun _ => ?_) | refine nf_x ?_ | refine nf_4 ?_ | refine nf_5 ?_ | refine nf_u ?_ (by decide) | refine nf_f ?_ (by decide))
theorem nf_eh {r : Int → Int} {a : Sg_} : NF_ a (eh9_ r a) := by
  unfold eh9_
  repeat' (first | exact nf_r | refine cz_p (Q := NF_ a) (fun _ => ?_) (fun _ => ?_) | refine nf_x ?_ | refine nf_4 ?_ | refine nf_5 ?_ | refine nf_u ?_ (by decide) | refine nf_f ?_ (by decide))
theorem nf_co {r : Int → Int} {a : Sg_} : NF_ a (co9_ r a) := by
  unfold co9_
  refine cz_p (Q := NF_ a) (fun _ => nf_t ?_ nf_eh) (fun _ => ?_)
  · repeat' (first | exact nf_r | refine nf_u ?_ (by decide) | refine nf_f ?_ (by decide))
  · repeat' (first | exact nf_r | refine nf_u ?_ (by decide) | refine nf_f ?_ (by decide))
theorem nf_gb {r : Int → Int} {a b : Sg_} {s v : Int} (h : NF_ a b) : NF_ a (gb9_ r b s v) := by
  unfold gb9_
  repeat' (first | exact h | refine cz_p (Q := NF_ a) (fun _ => ?_) (fun _ => ?_) | refine nf_x ?_ | refine nf_u ?_ (by decide) | refine nf_f ?_ (by decide))
theorem nf_wk {r : Int → Int} {a : Sg_} {s : Int} : NF_ a (wk9_ r a s) := by
  unfold wk9_
  repeat' (first | exact nf_r | refine cz_p (Q := NF_ a) (fun _ => ?_) (fun _ => ?_) | refine nf_gb ?_ | refine nf_x ?_ | refine nf_4 ?_ | refine nf_5 ?_ | refine nf_u ?_ (by decide))
theorem nf_ht {r : Int → Int} {a : Sg_} {s v : Int} : NF_ a (ht9_ r a s v) := by
  unfold ht9_
  exact nf_gb (nf_u nf_r (by decide))
theorem nf_pb {r : Int → Int} {a : Sg_} {k s v : Int} : NF_ a (pbb9_ r a k s v) := by
  unfold pbb9_
  refine cz_p (Q := NF_ a) (fun _ => nf_ht) (fun _ => cz_p (Q := NF_ a) (fun _ => cz_p (Q := NF_ a) (fun _ => nf_t (nf_u nf_r (by decide)) nf_wk) (fun _ => nf_u nf_r (by decide))) (fun _ => cz_p (Q := NF_ a) (fun _ => cz_p (Q := NF_ a) (fun _ => nf_t (nf_u nf_r (by decide)) nf_co) (fun _ => nf_u nf_r (by decide))) (fun _ => nf_co)))
theorem nf_su {r : Int → Int} {a : Sg_} {s q o : Int} : NF_ a (su9_ r a s q o) := by
  unfold su9_
  refine cz_p (Q := NF_ a) (fun _ => nf_r) (fun _ => ?_)
  repeat' (first | exact nf_r | refine nf_u ?_ (by decide))
theorem fn_so {r : Int → Int} {a : Sg_} {s k : Int} (w : 1 ≤ r 9) (h : FN_ a) : FN_ (so9_ r a s k) := by
  unfold so9_
  refine cz_p (Q := FN_) (fun _ => h) (fun _ => cz_p (Q := FN_) (fun _ => fun z => absurd z ?_) (fun c => fun z => ?_))
  · rw [u2_k (by decide), u2_k (by decide), u2_s]; decide
  · have e0 : ∀ j, u2_ (cg9_ (u2_ a 472 (a 471 (s * 6 + k)) 3) s k) 470 s (a 470 s - 1) 470 j = if j = s then a 470 s - 1 else a 470 j := fun j => by
      by_cases y : j = s
      · rw [if_pos y, y, u2_s]
      · rw [if_neg y, u2_n (fun t => y t.2), cg9_k (by decide), u2_k (by decide)]
    rw [u2_k (by decide), cg9_k (by decide), u2_k (by decide)] at z
    have y := h z
    rw [e0, e0]
    refine ⟨?_, ?_⟩
    · by_cases t : (0 : Int) = s
      · rw [if_pos t]; omega
      · rw [if_neg t]; exact y.1
    · by_cases t : (1 : Int) = s
      · rw [if_pos t]; omega
      · rw [if_neg t]; exact y.2
theorem fn_yl {r : Int → Int} {a : Sg_} {s k : Int} (w : 1 ≤ r 9) (h : FN_ a) : FN_ (yl9_ r a s k) := by
  unfold yl9_
  exact cz_p (Q := FN_) (fun _ => h) (fun _ => cz_p (Q := FN_) (fun _ => fn_so w (fn_n h (nf_u nf_r (by decide)))) (fun _ => fn_n h (nf_u nf_r (by decide))))
theorem fn_pf {r : Int → Int} {a : Sg_} {k s q : Int} (w : 1 ≤ r 9) (h : FN_ a) (h3 : a 103 3 = 0) : FN_ (pf9_ r a k s q) := by
  have g := h h3
  unfold pf9_
  refine cz_p (Q := FN_) (fun _ => fn_n h (nf_u nf_r (by decide))) (fun _ => cz_p (Q := FN_) (fun _ => fn_n h (nf_u nf_r (by decide))) (fun _ => cz_p (Q := FN_) (fun _ => fn_yl w h) (fun _ => cz_p (Q := FN_) (fun _ => fn_so w h) (fun _ => cz_p (Q := FN_) (fun _ => fn_n h (nf_x (nf_4 nf_r))) (fun _ => fun _ => ?_)))))
  rw [u2_k (by decide), u2_k (by decide), u2_k (by decide), u2_k (by decide)]
  exact g
theorem fn_ca {r : Int → Int} {a : Sg_} {k s q o : Int} (w : RB9_ r) (h : FN_ a) (hl : lw9_ r a k s q o = 0) : FN_ (ca9_ r a k s q o) := by
  have h3 := (lw_0 hl).1
  have w9 : 1 ≤ r 9 := w.2.1.1
  unfold ca9_
  exact cz_p (Q := FN_) (fun _ => fn_n h nf_su) (fun _ => cz_p (Q := FN_) (fun _ => fn_pf w9 h h3) (fun _ => cz_p (Q := FN_) (fun _ => fn_n h nf_pv) (fun _ => cz_p (Q := FN_) (fun _ => fn_n h nf_pt) (fun _ => fn_n h nf_pb))))
/-- both runs are the same -/
theorem rn_f {m : Int} {r : Int → Int} (w : RB9_ r) : ∀ (l : List Rw_) (x y : Rz_) (n : Int), SI_ m n r y.1 x.1 → FN_ x.1 → y.2 = x.2 → n + 3 * (l.length : Int) ≤ 1000000 → SI_ m (n + 3 * (l.length : Int)) r (l.foldl (stR_ r m) y).1 (l.foldl (stH_ r) x).1 ∧ FN_ (l.foldl (stH_ r) x).1 ∧ (l.foldl (stR_ r m) y).2 = (l.foldl (stH_ r) x).2
  | [], x, y, n, h, f, e, _ => ⟨by rw [show n + 3 * (([] : List Rw_).length : Int) = n by simp]; exact h, f, e⟩
  | (k, s, q, o) :: l, x, y, n, h, f, e, g => by
    have g' : n + 3 + 3 * (l.length : Int) ≤ 1000000 := by
      rw [List.length_cons] at g
      omega
    have hn := h.2.2.1
    have el : lwR_ r y.1 k s q o = lw9_ r x.1 k s q o := lw_q h.1 h.2.1 (fun s a b => h.2.2.2.2.2.2.2.2.2 s a b)
    rw [show n + 3 * (((k, s, q, o) :: l).length : Int) = n + 3 + 3 * (l.length : Int) by rw [List.length_cons]; omega]
    show SI_ m _ r (l.foldl (stR_ r m) (stR_ r m y (k, s, q, o))).1 (l.foldl (stH_ r) (stH_ r x (k, s, q, o))).1 ∧ FN_ (l.foldl (stH_ r) (stH_ r x (k, s, q, o))).1 ∧ (l.foldl (stR_ r m) (stR_ r m y (k, s, q, o))).2 = (l.foldl (stH_ r) (stH_ r x (k, s, q, o))).2
    by_cases z : lw9_ r x.1 k s q o = 0
    · rw [stH_t z, stR_t (el.trans z)]
      have h3 := (lw_0 z).1
      refine rn_f w l _ _ (n + 3) (si_ca h w z (fun t t0 t1 => ?_) (by omega)) (fn_ca w f z) ?_ g'
      · have y9 := f h3
        rcases (by omega : t = 0 ∨ t = 1) with c | c
        · rw [c]; exact y9.1
        · rw [c]; exact y9.2
      · show (y.2.1 ++ [(k, s, q, o)], y.2.2) = (x.2.1 ++ [(k, s, q, o)], x.2.2)
        rw [e]
    · rw [stH_f z, stR_f (fun c => z (el.symm.trans c))]
      refine rn_f w l _ _ (n + 3) (si_m h (by omega) (by omega)) f ?_ g'
      show (y.2.1, y.2.2 + 1) = (x.2.1, x.2.2 + 1)
      rw [e]
theorem rn_q {m : Int} {r : Int → Int} {b a : Sg_} (w : RB9_ r) (h : SI_ m 0 r b a) (f : FN_ a) {l : List Rw_} (g : 3 * (l.length : Int) ≤ 1000000) : SI_ m (3 * (l.length : Int)) r (rnR_ r m b l).1 (rnH_ r a l).1 ∧ FN_ (rnH_ r a l).1 ∧ (rnR_ r m b l).2 = (rnH_ r a l).2 := by
  have z := rn_f (m := m) w l (a, [], 0) (b, [], 0) 0 h f rfl (by omega)
  rw [show (0 : Int) + 3 * (l.length : Int) = 3 * (l.length : Int) by omega] at z
  exact z
-- the reference's rows
def rwc_ (T : Zt) (x : Int) : Rw_ := (T 248 0 x, T 249 0 x, T 250 0 x, T 251 0 x)
def ch9_ (T : Zt) : Int → Nat → List Int
  | _, 0 => []
  | f, n + 1 => f :: ch9_ T (T 252 0 f) n
theorem ch_l {T : Zt} : ∀ {l : List Int} {f : Int}, lk_ T f l → ch9_ T f l.length = l
  | [], _, _ => rfl
  | x :: l, f, h => by
    show f :: ch9_ T (T 252 0 f) l.length = x :: l
    rw [h.1, ch_l h.2.2]
/-- the rows of a match, as they stand -/
def rw9_ (T : Zt) (m : Int) : List Rw_ := (ch9_ T (T 253 0 m) (T 254 0 m).toNat).map (rwc_ T)
theorem rb_c {T : Zt} {L : Int → Int → List Int} (h : RB_ T L) {m : Int} (h0 : 0 ≤ m) (h1 : m < T 111 0 29) : ch9_ T (T 253 0 m) (T 254 0 m).toNat = L m 0 := by
  have y : lk_ T (T 253 0 m) (L m 0) ∧ T 254 0 m = ((L m 0).length : Int) := h.1 m 0 h0 h1 (by decide) (by decide)
  rw [y.2, Int.toNat_natCast]
  exact ch_l y.1
theorem rw_l {T : Zt} {L : Int → Int → List Int} (h : RB_ T L) {m : Int} (h0 : 0 ≤ m) (h1 : m < T 111 0 29) : rw9_ T m = (L m 0).map (rwc_ T) := by
  unfold rw9_
  rw [rb_c h h0 h1]
theorem ch_n {T : Zt} : ∀ {n : Nat} {f : Int}, (ch9_ T f n).length = n
  | 0, _ => rfl
  | n + 1, f => by
    show (ch9_ T (T 252 0 f) n).length + 1 = n + 1
    rw [ch_n]
theorem rw_n {T : Zt} {m : Int} : (rw9_ T m).length = (T 254 0 m).toNat := by
  unfold rw9_
  rw [List.length_map, ch_n]
theorem ch_k {T T' : Zt} (e : ∀ x, T' 252 0 x = T 252 0 x) : ∀ (n : Nat) (f : Int), ch9_ T' f n = ch9_ T f n
  | 0, _ => rfl
  | n + 1, f => by
    show f :: ch9_ T' (T' 252 0 f) n = f :: ch9_ T (T 252 0 f) n
    rw [e f, ch_k e n]
theorem cl_k {T T' : Zt} (e : ∀ k x, k = 248 ∨ k = 249 ∨ k = 250 ∨ k = 251 → T' k 0 x = T k 0 x) : rwc_ T' = rwc_ T := by
  funext x
  unfold rwc_
  rw [e 248 x (by decide), e 249 x (by decide), e 250 x (by decide), e 251 x (by decide)]
/-- what leaves the rows alone -/
theorem rw_k {T T' : Zt} {m : Int} (e : ∀ k x, k = 248 ∨ k = 249 ∨ k = 250 ∨ k = 251 → T' k 0 x = T k 0 x) (e2 : ∀ x, T' 252 0 x = T 252 0 x) (e3 : T' 253 0 m = T 253 0 m) (e4 : T' 254 0 m = T 254 0 m) : rw9_ T' m = rw9_ T m := by
  unfold rw9_
  rw [cl_k e, e3, e4, ch_k e2]
/-- a row comes behind the rows of a match -/
theorem rw_p {T T' : Zt} {m x : Int} {L : Int → Int → List Int} (hB : RB_ T L) (hB' : RB_ T' (fun m' b' => if m' = m ∧ b' = 0 then L m 0 ++ [x] else L m' b')) (e29 : T' 111 0 29 = T 111 0 29) (ec : rwc_ T' = rwc_ T) (h0 : 0 ≤ m) (h1 : m < T 111 0 29) : rw9_ T' m = rw9_ T m ++ [rwc_ T x] ∧ ∀ j, j ≠ m → 0 ≤ j → j < T 111 0 29 → rw9_ T' j = rw9_ T j := by
  refine ⟨?_, fun j hj j0 j1 => ?_⟩
  · rw [rw_l hB' h0 (by omega), rw_l hB h0 h1, ec]
    show (if m = m ∧ (0 : Int) = 0 then L m 0 ++ [x] else L m 0).map (rwc_ T) = _
    rw [if_pos ⟨rfl, rfl⟩, List.map_append]
    rfl
  · rw [rw_l hB' j0 (by omega), rw_l hB j0 j1, ec]
    show (if j = m ∧ (0 : Int) = 0 then L m 0 ++ [x] else L j 0).map (rwc_ T) = _
    rw [if_neg (fun z => hj z.1)]
theorem rw_a {T T' : Zt} {m x : Int} {L : Int → Int → List Int} (hB : RB_ T L) (hB' : RB_ T' (fun m' b' => if m' = m ∧ b' = 1 then L m 1 ++ [x] else L m' b')) (e29 : T' 111 0 29 = T 111 0 29) (ec : rwc_ T' = rwc_ T) : ∀ j, 0 ≤ j → j < T 111 0 29 → rw9_ T' j = rw9_ T j := fun j j0 j1 => by
  rw [rw_l hB' j0 (by omega), rw_l hB j0 j1, ec]
  show (if j = m ∧ (0 : Int) = 1 then L m 1 ++ [x] else L j 0).map (rwc_ T) = _
  rw [if_neg (fun z => absurd z.2 (by decide))]
theorem rw_t {T T' : Zt} {m : Int} {L : Int → Int → List Int} (hB : RB_ T L) (hB' : RB_ T' (fun m' b' => if m' = m ∧ b' = 0 then [] else L m' b')) (e29 : T' 111 0 29 = T 111 0 29) (ec : rwc_ T' = rwc_ T) (h0 : 0 ≤ m) (h1 : m < T 111 0 29) : rw9_ T' m = [] ∧ ∀ j, j ≠ m → 0 ≤ j → j < T 111 0 29 → rw9_ T' j = rw9_ T j := by
  refine ⟨?_, fun j hj j0 j1 => ?_⟩
  · rw [rw_l hB' h0 (by omega)]
    show (if m = m ∧ (0 : Int) = 0 then [] else L m 0).map (rwc_ T') = _
    rw [if_pos ⟨rfl, rfl⟩]
    rfl
  · rw [rw_l hB' j0 (by omega), rw_l hB j0 j1, ec]
    show (if j = m ∧ (0 : Int) = 0 then [] else L j 0).map (rwc_ T) = _
    rw [if_neg (fun z => hj z.1)]
theorem ei_m {A B : Type} {f : A → B} : ∀ (l : List A) (i : Nat), (l.eraseIdx i).map f = (l.map f).eraseIdx i
  | [], _ => rfl
  | _ :: _, 0 => rfl
  | x :: l, i + 1 => by
    show f x :: (l.eraseIdx i).map f = f x :: (l.map f).eraseIdx i
    rw [ei_m l i]
theorem rw_d {T T' : Zt} {m : Int} {i : Nat} {L : Int → Int → List Int} (hB : RB_ T L) (hB' : RB_ T' (fun m' b' => if m' = m ∧ b' = 0 then (L m 0).eraseIdx i else L m' b')) (e29 : T' 111 0 29 = T 111 0 29) (ec : rwc_ T' = rwc_ T) (h0 : 0 ≤ m) (h1 : m < T 111 0 29) : rw9_ T' m = (rw9_ T m).eraseIdx i ∧ ∀ j, j ≠ m → 0 ≤ j → j < T 111 0 29 → rw9_ T' j = rw9_ T j := by
  refine ⟨?_, fun j hj j0 j1 => ?_⟩
  · rw [rw_l hB' h0 (by omega), rw_l hB h0 h1, ec]
    show (if m = m ∧ (0 : Int) = 0 then (L m 0).eraseIdx i else L m 0).map (rwc_ T) = _
    rw [if_pos ⟨rfl, rfl⟩, ei_m]
  · rw [rw_l hB' j0 (by omega), rw_l hB j0 j1, ec]
    show (if j = m ∧ (0 : Int) = 0 then (L m 0).eraseIdx i else L j 0).map (rwc_ T) = _
    rw [if_neg (fun z => hj z.1)]
/-- a row that none has is told of -/
theorem rw_x {T T' : Zt} {x : Int} {L : Int → Int → List Int} (hB : RB_ T L) (hB' : RB_ T' L) (e29 : T' 111 0 29 = T 111 0 29) (e : ∀ k y, k = 248 ∨ k = 249 ∨ k = 250 ∨ k = 251 → y ≠ x → T' k 0 y = T k 0 y) (hx : ∀ m b, x ∉ L m b) : ∀ j, 0 ≤ j → j < T 111 0 29 → rw9_ T' j = rw9_ T j := fun j j0 j1 => by
  rw [rw_l hB' j0 (by omega), rw_l hB j0 j1]
  refine List.map_congr_left (fun y hy => ?_)
  have n : y ≠ x := fun z => hx j 0 (z ▸ hy)
  unfold rwc_
  rw [e 248 y (by decide) n, e 249 y (by decide) n, e 250 y (by decide) n, e 251 y (by decide) n]
/-- a row is told anew -/
theorem rw_c {T T' : Zt} {m x : Int} {i : Nat} {q : Rw_} {L : Int → Int → List Int} (hB : RB_ T L) (hB' : RB_ T' L) (e29 : T' 111 0 29 = T 111 0 29) (e : ∀ k y, k = 248 ∨ k = 249 ∨ k = 250 ∨ k = 251 → y ≠ x → T' k 0 y = T k 0 y) (hq : rwc_ T' x = q) (hi : (L m 0)[i]? = some x) (h0 : 0 ≤ m) (h1 : m < T 111 0 29) : rw9_ T' m = (rw9_ T m).set i q ∧ ∀ j, j ≠ m → 0 ≤ j → j < T 111 0 29 → rw9_ T' j = rw9_ T j := by
  have ne : ∀ y, y ≠ x → rwc_ T' y = rwc_ T y := fun y n => by
    unfold rwc_
    rw [e 248 y (by decide) n, e 249 y (by decide) n, e 250 y (by decide) n, e 251 y (by decide) n]
  have hx : x ∈ L m 0 := List.mem_of_getElem? hi
  have hl : i < (L m 0).length := by
    rcases Nat.lt_or_ge i (L m 0).length with z | z
    · exact z
    · rw [List.getElem?_eq_none z] at hi; cases hi
  refine ⟨?_, fun j hj j0 j1 => ?_⟩
  · rw [rw_l hB' h0 (by omega), rw_l hB h0 h1]
    refine List.ext_getElem? (fun t => ?_)
    rw [List.getElem?_map]
    by_cases c : i = t
    · subst c
      rw [hi, List.getElem?_set, if_pos rfl, if_pos (by rw [List.length_map]; exact hl), ← hq]
      rfl
    · rw [List.getElem?_set_ne c, List.getElem?_map]
      rcases Nat.lt_or_ge t (L m 0).length with z | z
      · have ht : (L m 0)[t]? = some ((L m 0)[t]) := List.getElem?_eq_getElem z
        have nn : (L m 0)[t] ≠ x := fun w => by
          have hi2 : (L m 0)[i] = x := by
            have y := List.getElem?_eq_getElem hl
            rw [y] at hi
            exact Option.some.inj hi
          rcases Nat.lt_or_ge i t with u | u
          · exact (List.pairwise_iff_getElem.mp (hB.2.2.1 m 0)) i t hl z u (hi2.trans w.symm)
          · exact (List.pairwise_iff_getElem.mp (hB.2.2.1 m 0)) t i z hl (by omega) (w.trans hi2.symm)
        rw [ht]
        exact congrArg some (ne _ nn)
      · rw [List.getElem?_eq_none z]
        rfl
  · rw [rw_l hB' j0 (by omega), rw_l hB j0 j1]
    refine List.map_congr_left (fun y hy => ne y (fun z => hj ?_))
    exact (hB.2.2.2 j 0 m 0 x (z ▸ hy) hx).1
/-- how a match of the reference begins -/
def BGR_ (m : Int) (r : Int → Int) (a b : Sg_) : Prop :=
  (∀ t, 0 ≤ t → t ≤ 1 → b 449 t = a 449 t) ∧ (∀ t x, 0 ≤ t → t ≤ 1 → t * 10 ≤ x → x < t * 10 + a 449 t → b 448 x = a 448 x) ∧ (∀ t, 0 ≤ t → t ≤ 1 → b 470 t = r 9) ∧
  (∀ t x, 0 ≤ t → t ≤ 1 → t * 10 ≤ x → x < t * 10 + a 449 t → (x < t * 10 + r 9 → b 472 x = 1) ∧ (t * 10 + r 9 ≤ x → b 472 x = 0) ∧ b 473 x = 0 ∧ b 474 x = 0) ∧
  (∀ t x, 0 ≤ t → t ≤ 1 → t * 6 ≤ x → x < t * 6 + r 9 → b 471 x = 20 * m + t * 10 + (x - t * 6)) ∧
  (b 466 0 = 0 ∧ b 466 1 = 0 ∧ b 467 0 = 0 ∧ b 467 1 = 0 ∧ b 468 0 = 0 ∧ b 468 1 = 0 ∧ b 469 0 = 0 ∧ b 469 1 = 0) ∧ b 103 4 = 0 ∧ b 103 5 = cz_ (r 0 = 3) 1 0 ∧ b 103 3 = 1
theorem bg_l {T T' : Zt} {m : Int} {ru : Int → Int} (hru : RLR_ T m ru) (h9 : 1 ≤ ru 9 ∧ ru 9 ≤ 6) (g49 : ∀ t, 0 ≤ t → t ≤ 1 → 0 ≤ T 239 0 (2 * m + t) ∧ T 239 0 (2 * m + t) ≤ 10) (e39 : ∀ j, T' 239 0 j = T 239 0 j) (e40 : ∀ j, T' 240 0 j = T 240 0 j)
    (h1 : ∀ j, 2 * m ≤ j → j < 2 * m + 2 → T' 244 0 j = T 205 0 (23 * T 230 0 m + 9))
    (h2 : ∀ j, 20 * m ≤ j → j < 20 * m + 20 → j % 10 < T 239 0 (j / 10) → (j % 10 < T 205 0 (23 * T 230 0 m + 9) → T' 241 0 j = 1) ∧ (T 205 0 (23 * T 230 0 m + 9) ≤ j % 10 → T' 241 0 j = 0) ∧ T' 242 0 j = 0 ∧ T' 243 0 j = 0)
    (h3 : ∀ j, 12 * m ≤ j → j < 12 * m + 12 → j % 6 < T 205 0 (23 * T 230 0 m + 9) → T' 245 0 j = 10 * (j / 6) + j % 6)
    (h4 : ∀ j, 8 * m ≤ j → j < 8 * m + 8 → j ≠ 8 * m + 5 → T' 246 0 j = 0) (h5 : (T 205 0 (23 * T 230 0 m + 0) = 3 → T' 246 0 (8 * m + 5) = 1) ∧ (T 205 0 (23 * T 230 0 m + 0) ≠ 3 → T' 246 0 (8 * m + 5) = 0)) (h6 : T' 236 0 m = 0) (h7 : T' 237 0 m = 0) (h8 : T' 235 0 m = 1) : BGR_ m ru (rp9_ T m) (rp9_ T' m) := by
  have r9 := hru 9 (by decide) (by decide)
  have r0 := hru 0 (by decide) (by decide)
  rw [r9] at h1 h2 h3
  rw [r0] at h5
  have a49 : ∀ t, 0 ≤ t → t ≤ 1 → rp9_ T m 449 t = T 239 0 (2 * m + t) := fun t t0 t1 => rp_v (dm_449 ⟨t0, t1⟩) rfl rfl
  refine ⟨fun t t0 t1 => ?_, fun t x t0 t1 x0 x1 => ?_, fun t t0 t1 => ?_, fun t x t0 t1 x0 x1 => ?_, fun t x t0 t1 x0 x1 => ?_, ⟨?_, ?_, ?_, ?_, ?_, ?_, ?_, ?_⟩, ?_, ?_, ?_⟩
  · rw [a49 t t0 t1, rp_v (m := m) (K := 239) (x := 2 * m + t) (dm_449 ⟨t0, t1⟩) rfl rfl, e39]
  · have g := g49 t t0 t1
    rw [a49 t t0 t1] at x1
    have d : 0 ≤ x ∧ x ≤ 19 := by omega
    rw [rp_v (m := m) (K := 240) (x := 20 * m + x) (dm_448 d) rfl rfl, rp_v (m := m) (K := 240) (x := 20 * m + x) (dm_448 d) rfl rfl, e40]
  · rw [rp_v (m := m) (K := 244) (x := 2 * m + t) (dm_470 ⟨t0, t1⟩) rfl rfl]
    exact h1 _ (by omega) (by omega)
  · have g := g49 t t0 t1
    rw [a49 t t0 t1] at x1
    have d : 0 ≤ x ∧ x ≤ 19 := by omega
    have q1 : (20 * m + x) / 10 = 2 * m + t := by omega
    have q2 : (20 * m + x) % 10 = x - t * 10 := by omega
    have y := h2 (20 * m + x) (by omega) (by omega) (by rw [q1, q2]; omega)
    rw [q2] at y
    rw [rp_v (m := m) (K := 241) (x := 20 * m + x) (dm_472 d) rfl rfl, rp_v (m := m) (K := 242) (x := 20 * m + x) (dm_473 d) rfl rfl, rp_v (m := m) (K := 243) (x := 20 * m + x) (dm_474 d) rfl rfl]
    exact ⟨fun z => y.1 (by omega), fun z => y.2.1 (by omega), y.2.2⟩
  · have d : 0 ≤ x ∧ x ≤ 11 := by omega
    rw [rp_v (m := m) (K := 245) (x := 12 * m + x) (dm_471 d) rfl rfl, h3 (12 * m + x) (by omega) (by omega) (by omega)]
    omega
  · rw [rp_v (m := m) (k := 466) (j := 0) (K := 246) (x := 8 * m + 1 + 0) rfl rfl rfl]; exact h4 _ (by omega) (by omega) (by omega)
  · rw [rp_v (m := m) (k := 466) (j := 1) (K := 246) (x := 8 * m + 1 + 1) rfl rfl rfl]; exact h4 _ (by omega) (by omega) (by omega)
  · rw [rp_v (m := m) (k := 467) (j := 0) (K := 246) (x := 8 * m + 3 + 0) rfl rfl rfl]; exact h4 _ (by omega) (by omega) (by omega)
  · rw [rp_v (m := m) (k := 467) (j := 1) (K := 246) (x := 8 * m + 3 + 1) rfl rfl rfl]; exact h4 _ (by omega) (by omega) (by omega)
  · rw [rp_v (m := m) (k := 468) (j := 0) (K := 236) (x := m) rfl rfl rfl]; exact h6
  · rw [rp_v (m := m) (k := 468) (j := 1) (K := 237) (x := m) rfl rfl rfl]; exact h7
  · rw [rp_v (m := m) (k := 469) (j := 0) (K := 246) (x := 8 * m + 6 + 0) rfl rfl rfl]; exact h4 _ (by omega) (by omega) (by omega)
  · rw [rp_v (m := m) (k := 469) (j := 1) (K := 246) (x := 8 * m + 6 + 1) rfl rfl rfl]; exact h4 _ (by omega) (by omega) (by omega)
  · rw [rp_v (m := m) (k := 103) (j := 4) (K := 246) (x := 8 * m) rfl rfl rfl]; exact h4 _ (by omega) (by omega) (by omega)
  · rw [rp_v (m := m) (k := 103) (j := 5) (K := 246) (x := 8 * m + 5) rfl rfl rfl]
    by_cases z : ru 0 = 3
    · rw [cz_t z]; exact h5.1 z
    · rw [cz_f z]; exact h5.2 z
  · rw [rp_v (m := m) (k := 103) (j := 3) (K := 235) (x := m) rfl rfl rfl]; exact h8
theorem si_bg {m : Int} {r : Int → Int} {a0 b a : Sg_} (w : RB9_ r) (g49 : ∀ t, 0 ≤ t → t ≤ 1 → r 9 ≤ a 449 t ∧ a 449 t ≤ 10) (w5 : ∀ s x y, 0 ≤ s → s ≤ 1 → s * 10 ≤ x → x < s * 10 + a 449 s → s * 10 ≤ y → y < s * 10 + a 449 s → a 448 x = a 448 y → x = y) (f49 : ∀ t, 0 ≤ t → t ≤ 1 → a0 449 t = a 449 t) (f48 : ∀ t x, 0 ≤ t → t ≤ 1 → t * 10 ≤ x → x < t * 10 + a 449 t → a0 448 x = a 448 x) (h : BGR_ m r a0 b) : SI_ m 0 r b (bb9_ r a) ∧ FN_ (bb9_ r a) := by
  obtain ⟨h1, h2, h3, h4, h5, h6, h7, h8, h9⟩ := h
  have s := si_bb (m := m) (b := b) w g49 w5 (fun t t0 t1 => (h1 t t0 t1).trans (f49 t t0 t1)) (fun t x t0 t1 x0 x1 => (h2 t x t0 t1 x0 (by rw [f49 t t0 t1]; exact x1)).trans (f48 t x t0 t1 x0 x1)) h3 (fun t x t0 t1 x0 x1 => h4 t x t0 t1 x0 (by rw [f49 t t0 t1]; exact x1)) h5 h6 h7 h8 h9
  refine ⟨s, fun _ => ?_⟩
  have e0 := (eq_j s.1 (s := 0) (by decide) (by decide)).2.1
  have e1 := (eq_j s.1 (s := 1) (by decide) (by decide)).2.1
  have f0 := h3 0 (by decide) (by decide)
  have f1 := h3 1 (by decide) (by decide)
  have w9 := w.2.1
  omega
-- the rows of the reference, their lists told
theorem rb_put {T T' : Zt} {m b x : Int} {rest : List Int} {L : Int → Int → List Int} (hb : 0 ≤ b ∧ b ≤ 1) (hm : 0 ≤ m ∧ m < T 111 0 29) (h47 : T 111 0 47 ≤ 3000) (r : RB_ T L) (q : RR_ T L (x :: rest))
    (e29 : T' 111 0 29 = T 111 0 29) (e47 : T' 111 0 47 = T 111 0 47)
    (ef : ∀ m' b', 0 ≤ b' → b' ≤ 1 → ¬ (m' = m ∧ b' = b) → T' (kf_ b') 0 m' = T (kf_ b') 0 m' ∧ T' (km_ b') 0 m' = T (km_ b') 0 m')
    (e1 : T' (km_ b) 0 m = T (km_ b) 0 m + 1) (e3 : T' 252 0 x = -1)
    (e2 : (L m b = [] ∧ T' (kf_ b) 0 m = x ∧ ∀ z, z ≠ x → T' 252 0 z = T 252 0 z) ∨ (T' (kf_ b) 0 m = T (kf_ b) 0 m ∧ ∃ y, (L m b).getLast? = some y ∧ T' 252 0 y = x ∧ ∀ z, z ≠ x → z ≠ y → T' 252 0 z = T 252 0 z)) :
    RB_ T' (fun m' b' => if m' = m ∧ b' = b then L m b ++ [x] else L m' b') ∧ RR_ T' (fun m' b' => if m' = m ∧ b' = b then L m b ++ [x] else L m' b') rest ∧ ∀ z ∈ rest, T' 252 0 z = T 252 0 z := by
  obtain ⟨r1, r2, r3, r4⟩ := r
  obtain ⟨q1, q2, q3⟩ := q
  have hx := q1 x List.mem_cons_self
  have n2 := List.nodup_cons.mp q2
  have hxL : ∀ m' b', x ∉ L m' b' := fun m' b' => q3 m' b' x List.mem_cons_self
  have hl := r1 m b hm.1 hm.2 hb.1 hb.2
  -- what stays of the links
  have keep : ∀ z, z ≠ x → (∀ y, (L m b).getLast? = some y → z ≠ y) → T' 252 0 z = T 252 0 z := by
    intro z hz hy
    rcases e2 with ⟨_, _, e⟩ | ⟨_, y, gy, _, e⟩
    · exact e z hz
    · exact e z hz (hy y gy)
  have other : ∀ m' b', ¬ (m' = m ∧ b' = b) → ∀ z ∈ L m' b', T' 252 0 z = T 252 0 z := fun m' b' hn z hz =>
    keep z (fun e => hxL m' b' (e ▸ hz)) (fun y gy e => hn (by
      have := r4 m' b' m b y (e ▸ hz) (List.mem_of_getLast? gy)
      exact this))
  refine ⟨⟨?_, ?_, ?_, ?_⟩, ⟨?_, n2.2, ?_⟩, ?_⟩
  · intro m' b' h1 h2 h3 h4
    by_cases c : m' = m ∧ b' = b
    · simp only [c, and_self, if_true]
      refine ⟨?_, by rw [e1, hl.2]; simp⟩
      rcases e2 with ⟨en, ef1, e⟩ | ⟨ef1, y, gy, ey, e⟩
      · rw [en, ef1]; exact ⟨rfl, by omega, e3⟩
      · rw [ef1]
        exact lk_app (by omega) e3 ey hl.1 (r3 m b) gy (fun z hz hn => e z (fun q => hxL m b (q ▸ hz)) hn)
    · simp only [c, if_false]
      have f := ef m' b' h3 h4 c
      have g := r1 m' b' h1 (by omega) h3 h4
      rw [f.1, f.2]
      exact ⟨lk_e g.1 (other m' b' c), g.2⟩
  · intro m' b' z hz
    rw [e47]
    by_cases c : m' = m ∧ b' = b
    · simp only [c, and_self, if_true, List.mem_append, List.mem_singleton] at hz
      rcases hz with hz | hz
      · exact r2 m b z hz
      · rw [hz]; exact hx
    · simp only [c, if_false] at hz; exact r2 m' b' z hz
  · intro m' b'
    by_cases c : m' = m ∧ b' = b
    · simp only [c, and_self, if_true]
      exact List.nodup_append.mpr ⟨r3 m b, by simp, fun z hz w hw e => by
        rw [List.mem_singleton] at hw
        exact hxL m b (by rw [← hw, ← e]; exact hz)⟩
    · simp only [c, if_false]; exact r3 m' b'
  · intro m1 b1 m2 b2 z h1 h2
    by_cases c : m1 = m ∧ b1 = b
    · by_cases d : m2 = m ∧ b2 = b
      · exact ⟨c.1.trans d.1.symm, c.2.trans d.2.symm⟩
      · simp only [c, and_self, if_true, List.mem_append, List.mem_singleton] at h1
        simp only [d, if_false] at h2
        rcases h1 with h1 | h1
        · have := r4 m b m2 b2 z h1 h2
          exact absurd ⟨this.1.symm, this.2.symm⟩ d
        · exact absurd (h1 ▸ h2) (hxL m2 b2)
    · simp only [c, if_false] at h1
      by_cases d : m2 = m ∧ b2 = b
      · simp only [d, and_self, if_true, List.mem_append, List.mem_singleton] at h2
        rcases h2 with h2 | h2
        · have := r4 m1 b1 m b z h1 h2
          exact absurd this c
        · exact absurd (h2 ▸ h1) (hxL m1 b1)
      · simp only [d, if_false] at h2
        exact r4 m1 b1 m2 b2 z h1 h2
  · intro z hz
    rw [e47]; exact q1 z (List.mem_cons_of_mem _ hz)
  · intro m' b' z hz
    by_cases c : m' = m ∧ b' = b
    · simp only [c, and_self, if_true, List.mem_append, List.mem_singleton]
      intro h
      rcases h with h | h
      · exact q3 m b z (List.mem_cons_of_mem _ hz) h
      · exact n2.1 (h ▸ hz)
    · simp only [c, if_false]; exact q3 m' b' z (List.mem_cons_of_mem _ hz)
  · intro z hz
    exact keep z (fun e => n2.1 (e ▸ hz)) (fun y gy e => q3 m b z (List.mem_cons_of_mem _ hz) (by rw [e]; exact List.mem_of_getLast? gy))
theorem rb_new {T T' : Zt} {L : Int → Int → List Int} (h : RB_ T L) (h0 : 0 ≤ T 111 0 47) (e29 : T' 111 0 29 = T 111 0 29) (e47 : T' 111 0 47 = T 111 0 47 + 1) (e : ∀ k j, k = 252 ∨ k = 253 ∨ k = 254 ∨ k = 255 ∨ k = 256 → T' k 0 j = T k 0 j) : RB_ T' L ∧ RR_ T' L [T 111 0 47] := by
  obtain ⟨a, b, c, d⟩ := h
  refine ⟨⟨fun m b' h1 h2 h3 h4 => ?_, fun m b' x hx => ?_, c, d⟩, fun x hx => ?_, by simp, fun m b' x hx hL => ?_⟩
  · have y := a m b' h1 (by omega) h3 h4
    have z1 : kf_ b' = 253 ∨ kf_ b' = 255 := by unfold kf_; split <;> simp
    have z2 : km_ b' = 254 ∨ km_ b' = 256 := by unfold km_; split <;> simp
    rw [e (kf_ b') m (by omega), e (km_ b') m (by omega)]
    exact ⟨lk_e y.1 (fun x _ => e 252 x (by decide)), y.2⟩
  · have := b m b' x hx
    omega
  · rw [List.mem_singleton] at hx
    omega
  · rw [List.mem_singleton] at hx
    have := b m b' x hL
    omega
theorem rb_take {T T' : Zt} {m : Int} {L : Int → Int → List Int} (h : RB_ T L) (hm : 0 ≤ m ∧ m < T 111 0 29) (e29 : T' 111 0 29 = T 111 0 29) (e47 : T' 111 0 47 = T 111 0 47) (en : ∀ z, T' 252 0 z = T 252 0 z) (e3 : ∀ j, j ≠ m → T' 253 0 j = T 253 0 j) (e4 : ∀ j, j ≠ m → T' 254 0 j = T 254 0 j) (e5 : ∀ j, T' 255 0 j = T 255 0 j) (e6 : ∀ j, T' 256 0 j = T 256 0 j) (e1 : T' 253 0 m = -1) (e2 : T' 254 0 m = 0) : RB_ T' (fun m' b' => if m' = m ∧ b' = 0 then [] else L m' b') ∧ RR_ T' (fun m' b' => if m' = m ∧ b' = 0 then [] else L m' b') (L m 0) ∧ lk_ T' (T 253 0 m) (L m 0) := by
  obtain ⟨a, b, c, d⟩ := h
  have hl : lk_ T (T 253 0 m) (L m 0) := (a m 0 hm.1 hm.2 (by decide) (by decide)).1
  refine ⟨⟨?_, ?_, ?_, ?_⟩, ⟨?_, c m 0, ?_⟩, lk_e hl (fun x _ => en x)⟩
  · intro m' b' h1 h2 h3 h4
    by_cases k : m' = m ∧ b' = 0
    · obtain ⟨rfl, rfl⟩ := k
      simp only [and_self, if_true]
      exact ⟨e1, e2⟩
    · simp only [k, if_false]
      have g := a m' b' h1 (by omega) h3 h4
      rcases (by omega : b' = 0 ∨ b' = 1) with z | z
      · subst z
        have f1 : T' (kf_ 0) 0 m' = T (kf_ 0) 0 m' := e3 m' (fun q => k ⟨q, rfl⟩)
        have f2 : T' (km_ 0) 0 m' = T (km_ 0) 0 m' := e4 m' (fun q => k ⟨q, rfl⟩)
        rw [f1, f2]; exact ⟨lk_e g.1 (fun x _ => en x), g.2⟩
      · subst z
        have f1 : T' (kf_ 1) 0 m' = T (kf_ 1) 0 m' := e5 m'
        have f2 : T' (km_ 1) 0 m' = T (km_ 1) 0 m' := e6 m'
        rw [f1, f2]; exact ⟨lk_e g.1 (fun x _ => en x), g.2⟩
  · intro m' b' z hz
    rw [e47]
    by_cases k : m' = m ∧ b' = 0
    · simp [k] at hz
    · simp only [k, if_false] at hz; exact b m' b' z hz
  · intro m' b'
    by_cases k : m' = m ∧ b' = 0
    · simp [k]
    · simp only [k, if_false]; exact c m' b'
  · intro m1 b1 m2 b2 z h1 h2
    by_cases k : m1 = m ∧ b1 = 0
    · simp [k] at h1
    · by_cases k2 : m2 = m ∧ b2 = 0
      · simp [k2] at h2
      · simp only [k, k2, if_false] at h1 h2; exact d m1 b1 m2 b2 z h1 h2
  · intro z hz
    rw [e47]; exact b m 0 z hz
  · intro m' b' z hz
    by_cases k : m' = m ∧ b' = 0
    · simp [k]
    · simp only [k, if_false]
      exact fun hy => k (by have := d m' b' m 0 z hy hz; exact this)
theorem rb_del {T T' : Zt} {m x : Int} {i : Nat} {L : Int → Int → List Int} (r : RB_ T L) (hm : 0 ≤ m ∧ m < T 111 0 29) (hx : (L m 0)[i]? = some x) (e29 : T' 111 0 29 = T 111 0 29) (e47 : T' 111 0 47 = T 111 0 47)
    (e3 : ∀ j, j ≠ m → T' 253 0 j = T 253 0 j) (e4 : ∀ j, j ≠ m → T' 254 0 j = T 254 0 j) (e5 : ∀ j, T' 255 0 j = T 255 0 j) (e6 : ∀ j, T' 256 0 j = T 256 0 j)
    (e1 : T' 254 0 m = T 254 0 m - 1)
    (e2 : (i = 0 ∧ T' 253 0 m = T 252 0 x ∧ ∀ z, T' 252 0 z = T 252 0 z) ∨ (T' 253 0 m = T 253 0 m ∧ ∃ n p, i = n + 1 ∧ (L m 0)[n]? = some p ∧ T' 252 0 p = T 252 0 x ∧ ∀ z, z ≠ p → T' 252 0 z = T 252 0 z)) : RB_ T' (fun m' b' => if m' = m ∧ b' = 0 then (L m 0).eraseIdx i else L m' b') ∧ RR_ T' (fun m' b' => if m' = m ∧ b' = 0 then (L m 0).eraseIdx i else L m' b') [] := by
  obtain ⟨a, b, c, d⟩ := r
  have hl : lk_ T (T 253 0 m) (L m 0) ∧ T 254 0 m = ((L m 0).length : Int) := a m 0 hm.1 hm.2 (by decide) (by decide)
  have hi : i < (L m 0).length := by
    rcases Nat.lt_or_ge i (L m 0).length with z | z
    · exact z
    · rw [List.getElem?_eq_none z] at hx; cases hx
  have sub : ∀ z, z ∈ (L m 0).eraseIdx i → z ∈ L m 0 := fun z hz => (List.eraseIdx_sublist (L m 0) i).subset hz
  have other : ∀ m' b', ¬ (m' = m ∧ b' = 0) → ∀ z ∈ L m' b', T' 252 0 z = T 252 0 z := by
    intro m' b' hn z hz
    rcases e2 with ⟨_, _, e⟩ | ⟨_, n, p, _, gp, _, e⟩
    · exact e z
    · exact e z (fun q => hn (by have := d m' b' m 0 p (q ▸ hz) (List.mem_of_getElem? gp); exact this))
  refine ⟨⟨?_, ?_, ?_, ?_⟩, (by simp), List.nodup_nil, (by simp)⟩
  · intro m' b' h1 h2 h3 h4
    by_cases k : m' = m ∧ b' = 0
    · obtain ⟨rfl, rfl⟩ := k
      simp only [and_self, if_true]
      refine ⟨?_, ?_⟩
      · show lk_ T' (T' 253 0 m') _
        rcases e2 with ⟨z, ef, e⟩ | ⟨ef, n, p, z, gp, ep, e⟩
        · subst z
          rw [ef]
          cases hL : L m' 0 with
          | nil => rw [hL] at hi; exact absurd hi (by simp)
          | cons y l =>
            rw [hL] at hx hl
            have : y = x := by simpa using hx
            subst this
            exact lk_e hl.1.2.2 (fun z _ => e z)
        · subst z
          rw [ef]
          exact lk_del ep hl.1 (c m' 0) hx gp (fun z _ hn => e z hn)
      · show T' 254 0 m' = _
        rw [e1, hl.2, List.length_eraseIdx_of_lt hi]; omega
    · simp only [k, if_false]
      have g := a m' b' h1 (by omega) h3 h4
      rcases (by omega : b' = 0 ∨ b' = 1) with z | z
      · subst z
        have f1 : T' (kf_ 0) 0 m' = T (kf_ 0) 0 m' := e3 m' (fun q => k ⟨q, rfl⟩)
        have f2 : T' (km_ 0) 0 m' = T (km_ 0) 0 m' := e4 m' (fun q => k ⟨q, rfl⟩)
        rw [f1, f2]; exact ⟨lk_e g.1 (other _ _ k), g.2⟩
      · subst z
        have f1 : T' (kf_ 1) 0 m' = T (kf_ 1) 0 m' := e5 m'
        have f2 : T' (km_ 1) 0 m' = T (km_ 1) 0 m' := e6 m'
        rw [f1, f2]; exact ⟨lk_e g.1 (other _ _ k), g.2⟩
  · intro m' b' z hz
    rw [e47]
    by_cases k : m' = m ∧ b' = 0
    · simp only [k, and_self, if_true] at hz; exact b m 0 z (sub z hz)
    · simp only [k, if_false] at hz; exact b m' b' z hz
  · intro m' b'
    by_cases k : m' = m ∧ b' = 0
    · simp only [k, and_self, if_true]; exact (c m 0).sublist (List.eraseIdx_sublist _ _)
    · simp only [k, if_false]; exact c m' b'
  · intro m1 b1 m2 b2 z h1 h2
    by_cases k : m1 = m ∧ b1 = 0
    · by_cases k2 : m2 = m ∧ b2 = 0
      · exact ⟨k.1.trans k2.1.symm, k.2.trans k2.2.symm⟩
      · simp only [k, and_self, if_true] at h1
        simp only [k2, if_false] at h2
        have := d m 0 m2 b2 z (sub z h1) h2
        exact absurd ⟨this.1.symm, this.2.symm⟩ k2
    · simp only [k, if_false] at h1
      by_cases k2 : m2 = m ∧ b2 = 0
      · simp only [k2, and_self, if_true] at h2
        have := d m1 b1 m 0 z h1 (sub z h2)
        exact absurd this k
      · simp only [k2, if_false] at h2
        exact d m1 b1 m2 b2 z h1 h2
