theorem bk_X11_plan_e_305 : ck_ fX11 (some .int) cX11_plan 305 [.istore 14, .aload 0, .iload 1, .iload 8, .iload 13, .iload 14, .if_icmp .eq 323, .iload 11, .goto 325] 323 = true := qck_r (nn_ _) (by decide +kernel)
theorem bs_X11_plan_e_305 {P : Zt → Option Zv → Prop} (K : Int → Zl → List Zv → Zt → Prop) : sx_ K P [.istore 14, .aload 0, .iload 1, .iload 8, .iload 13, .iload 14, .if_icmp .eq 323, .iload 11, .goto 325] 323 = x_istore 14 (x_aload 0 (x_iload 1 (x_iload 8 (x_iload 13 (x_iload 14 (x_if_icmp .eq 323 K (x_iload 11 (x_goto 325 K)))))))) := ((xe_istore 14).trans (congrArg (x_istore 14) ((xe_aload 0).trans (congrArg (x_aload 0) ((xe_iload 1).trans (congrArg (x_iload 1) ((xe_iload 8).trans (congrArg (x_iload 8) ((xe_iload 13).trans (congrArg (x_iload 13) ((xe_iload 14).trans (congrArg (x_iload 14) ((xe_if_icmp .eq 323).trans (congrArg (x_if_icmp .eq 323 K) ((xe_iload 11).trans (congrArg (x_iload 11) (xe_goto 325)))))))))))))))))
theorem bk_X11_plan_e_323 : ck_ fX11 (some .int) cX11_plan 323 [.iload 12, .iload 13, .iload 14, .if_icmp .eq 337, .iload 12, .goto 339] 337 = true := qck_r (nn_ _) (by decide +kernel)
theorem bs_X11_plan_e_323 {P : Zt → Option Zv → Prop} (K : Int → Zl → List Zv → Zt → Prop) : sx_ K P [.iload 12, .iload 13, .iload 14, .if_icmp .eq 337, .iload 12, .goto 339] 337 = x_iload 12 (x_iload 13 (x_iload 14 (x_if_icmp .eq 337 K (x_iload 12 (x_goto 339 K))))) := ((xe_iload 12).trans (congrArg (x_iload 12) ((xe_iload 13).trans (congrArg (x_iload 13) ((xe_iload 14).trans (congrArg (x_iload 14) ((xe_if_icmp .eq 337).trans (congrArg (x_if_icmp .eq 337 K) ((xe_iload 12).trans (congrArg (x_iload 12) (xe_goto 339)))))))))))
theorem bk_X11_plan_e_337 : ck_ fX11 (some .int) cX11_plan 337 [.iload 11, .iload 9] 341 = true := qck_r (nn_ _) (by decide +kernel)
theorem bs_X11_plan_e_337 {P : Zt → Option Zv → Prop} (K : Int → Zl → List Zv → Zt → Prop) : sx_ K P [.iload 11, .iload 9] 341 = x_iload 11 (x_iload 9 (K 341)) := ((xe_iload 11).trans (congrArg (x_iload 11) ((xe_iload 9).trans (congrArg (x_iload 9) xe_nil))))
theorem bk_X11_plan_e_344 : ck_ fX11 (some .int) cX11_plan 344 [.iinc 10 1, .goto 201] 350 = true := qck_r (nn_ _) (by decide +kernel)
theorem bs_X11_plan_e_344 {P : Zt → Option Zv → Prop} (K : Int → Zl → List Zv → Zt → Prop) : sx_ K P [.iinc 10 1, .goto 201] 350 = x_iinc 10 1 (x_goto 201 K) := ((xe_iinc 10 1).trans (congrArg (x_iinc 10 1) (xe_goto 201)))
theorem bk_X11_plan_e_325 : ck_ fX11 (some .int) cX11_plan 325 [.iload 13, .iload 14, .if_icmp .eq 337, .iload 12, .goto 339] 337 = true := qck_r (nn_ _) (by decide +kernel)
theorem bs_X11_plan_e_325 {P : Zt → Option Zv → Prop} (K : Int → Zl → List Zv → Zt → Prop) : sx_ K P [.iload 13, .iload 14, .if_icmp .eq 337, .iload 12, .goto 339] 337 = x_iload 13 (x_iload 14 (x_if_icmp .eq 337 K (x_iload 12 (x_goto 339 K)))) := ((xe_iload 13).trans (congrArg (x_iload 13) ((xe_iload 14).trans (congrArg (x_iload 14) ((xe_if_icmp .eq 337).trans (congrArg (x_if_icmp .eq 337 K) ((xe_iload 12).trans (congrArg (x_iload 12) (xe_goto 339)))))))))
theorem bk_X11_plan_e_339 : ck_ fX11 (some .int) cX11_plan 339 [.iload 9] 341 = true := qck_r (nn_ _) (by decide +kernel)
theorem bs_X11_plan_e_339 {P : Zt → Option Zv → Prop} (K : Int → Zl → List Zv → Zt → Prop) : sx_ K P [.iload 9] 341 = x_iload 9 (K 341) := ((xe_iload 9).trans (congrArg (x_iload 9) xe_nil))
theorem bk_X11_plan_e_290 : ck_ fX11 (some .int) cX11_plan 290 [.istore 13, .iload 6, .iconst 2, .irem, .iconst 1, .if_icmp .ne 304, .iconst 1, .goto 305] 304 = true := qck_r (nn_ _) (by decide +kernel)
theorem bs_X11_plan_e_290 {P : Zt → Option Zv → Prop} (K : Int → Zl → List Zv → Zt → Prop) : sx_ K P [.istore 13, .iload 6, .iconst 2, .irem, .iconst 1, .if_icmp .ne 304, .iconst 1, .goto 305] 304 = x_istore 13 (x_iload 6 (x_iconst 2 (x_irem (x_iconst 1 (x_if_icmp .ne 304 K (x_iconst 1 (x_goto 305 K))))))) := ((xe_istore 13).trans (congrArg (x_istore 13) ((xe_iload 6).trans (congrArg (x_iload 6) ((xe_iconst 2).trans (congrArg (x_iconst 2) ((xe_irem).trans (congrArg (x_irem) ((xe_iconst 1).trans (congrArg (x_iconst 1) ((xe_if_icmp .ne 304).trans (congrArg (x_if_icmp .ne 304 K) ((xe_iconst 1).trans (congrArg (x_iconst 1) (xe_goto 305)))))))))))))))
theorem bk_X11_plan_e_304 : ck_ fX11 (some .int) cX11_plan 304 [.iconst 0] 305 = true := qck_r (nn_ _) (by decide +kernel)
theorem bs_X11_plan_e_304 {P : Zt → Option Zv → Prop} (K : Int → Zl → List Zv → Zt → Prop) : sx_ K P [.iconst 0] 305 = x_iconst 0 (K 305) := ((xe_iconst 0).trans (congrArg (x_iconst 0) xe_nil))
theorem bk_X11_plan_e_254 : ck_ fX11 (some .int) cX11_plan 254 [.istore 12, .iload 10, .ifCond .ne 277, .iload 7, .iconst 2, .irem, .iconst 1, .if_icmp .ne 273, .iconst 1, .goto 290] 273 = true := qck_r (nn_ _) (by decide +kernel)
theorem bs_X11_plan_e_254 {P : Zt → Option Zv → Prop} (K : Int → Zl → List Zv → Zt → Prop) : sx_ K P [.istore 12, .iload 10, .ifCond .ne 277, .iload 7, .iconst 2, .irem, .iconst 1, .if_icmp .ne 273, .iconst 1, .goto 290] 273 = x_istore 12 (x_iload 10 (x_ifCond .ne 277 K (x_iload 7 (x_iconst 2 (x_irem (x_iconst 1 (x_if_icmp .ne 273 K (x_iconst 1 (x_goto 290 K))))))))) := ((xe_istore 12).trans (congrArg (x_istore 12) ((xe_iload 10).trans (congrArg (x_iload 10) ((xe_ifCond .ne 277).trans (congrArg (x_ifCond .ne 277 K) ((xe_iload 7).trans (congrArg (x_iload 7) ((xe_iconst 2).trans (congrArg (x_iconst 2) ((xe_irem).trans (congrArg (x_irem) ((xe_iconst 1).trans (congrArg (x_iconst 1) ((xe_if_icmp .ne 273).trans (congrArg (x_if_icmp .ne 273 K) ((xe_iconst 1).trans (congrArg (x_iconst 1) (xe_goto 290)))))))))))))))))))
theorem bk_X11_plan_e_277 : ck_ fX11 (some .int) cX11_plan 277 [.iload 10, .iconst 2, .irem, .iconst 1, .if_icmp .ne 289, .iconst 1, .goto 290] 289 = true := qck_r (nn_ _) (by decide +kernel)
theorem bs_X11_plan_e_277 {P : Zt → Option Zv → Prop} (K : Int → Zl → List Zv → Zt → Prop) : sx_ K P [.iload 10, .iconst 2, .irem, .iconst 1, .if_icmp .ne 289, .iconst 1, .goto 290] 289 = x_iload 10 (x_iconst 2 (x_irem (x_iconst 1 (x_if_icmp .ne 289 K (x_iconst 1 (x_goto 290 K)))))) := ((xe_iload 10).trans (congrArg (x_iload 10) ((xe_iconst 2).trans (congrArg (x_iconst 2) ((xe_irem).trans (congrArg (x_irem) ((xe_iconst 1).trans (congrArg (x_iconst 1) ((xe_if_icmp .ne 289).trans (congrArg (x_if_icmp .ne 289 K) ((xe_iconst 1).trans (congrArg (x_iconst 1) (xe_goto 290)))))))))))))
theorem bk_X11_plan_e_289 : ck_ fX11 (some .int) cX11_plan 289 [.iconst 0] 290 = true := qck_r (nn_ _) (by decide +kernel)
theorem bs_X11_plan_e_289 {P : Zt → Option Zv → Prop} (K : Int → Zl → List Zv → Zt → Prop) : sx_ K P [.iconst 0] 290 = x_iconst 0 (K 290) := ((xe_iconst 0).trans (congrArg (x_iconst 0) xe_nil))
theorem bk_X11_plan_e_273 : ck_ fX11 (some .int) cX11_plan 273 [.iconst 0, .goto 290] 277 = true := qck_r (nn_ _) (by decide +kernel)
theorem bs_X11_plan_e_273 {P : Zt → Option Zv → Prop} (K : Int → Zl → List Zv → Zt → Prop) : sx_ K P [.iconst 0, .goto 290] 277 = x_iconst 0 (x_goto 290 K) := ((xe_iconst 0).trans (congrArg (x_iconst 0) (xe_goto 290)))
theorem bk_X11_plan_e_229 : ck_ fX11 (some .int) cX11_plan 229 [.istore 11, .iload 10, .ifCond .ne 241, .iload 7, .goto 254] 241 = true := qck_r (nn_ _) (by decide +kernel)
theorem bs_X11_plan_e_229 {P : Zt → Option Zv → Prop} (K : Int → Zl → List Zv → Zt → Prop) : sx_ K P [.istore 11, .iload 10, .ifCond .ne 241, .iload 7, .goto 254] 241 = x_istore 11 (x_iload 10 (x_ifCond .ne 241 K (x_iload 7 (x_goto 254 K)))) := ((xe_istore 11).trans (congrArg (x_istore 11) ((xe_iload 10).trans (congrArg (x_iload 10) ((xe_ifCond .ne 241).trans (congrArg (x_ifCond .ne 241 K) ((xe_iload 7).trans (congrArg (x_iload 7) (xe_goto 254)))))))))
theorem bk_X11_plan_e_241 : ck_ fX11 (some .int) cX11_plan 241 [.iload 7, .iload 10, .isub, .iload 3, .iadd, .iconst 1, .isub, .iload 3, .iconst 1, .isub, .irem] 254 = true := qck_r (nn_ _) (by decide +kernel)
theorem bs_X11_plan_e_241 {P : Zt → Option Zv → Prop} (K : Int → Zl → List Zv → Zt → Prop) : sx_ K P [.iload 7, .iload 10, .isub, .iload 3, .iadd, .iconst 1, .isub, .iload 3, .iconst 1, .isub, .irem] 254 = x_iload 7 (x_iload 10 (x_isub (x_iload 3 (x_iadd (x_iconst 1 (x_isub (x_iload 3 (x_iconst 1 (x_isub (x_irem (K 254))))))))))) := ((xe_iload 7).trans (congrArg (x_iload 7) ((xe_iload 10).trans (congrArg (x_iload 10) ((xe_isub).trans (congrArg (x_isub) ((xe_iload 3).trans (congrArg (x_iload 3) ((xe_iadd).trans (congrArg (x_iadd) ((xe_iconst 1).trans (congrArg (x_iconst 1) ((xe_isub).trans (congrArg (x_isub) ((xe_iload 3).trans (congrArg (x_iload 3) ((xe_iconst 1).trans (congrArg (x_iconst 1) ((xe_isub).trans (congrArg (x_isub) ((xe_irem).trans (congrArg (x_irem) xe_nil))))))))))))))))))))))
theorem bk_X11_plan_e_201 : ck_ fX11 (some .int) cX11_plan 201 [.iload 10, .iload 3, .iconst 2, .idiv, .if_icmp .ge 350, .iload 10, .ifCond .ne 220, .iload 3, .iconst 1, .isub, .goto 229] 220 = true := qck_r (nn_ _) (by decide +kernel)
theorem bs_X11_plan_e_201 {P : Zt → Option Zv → Prop} (K : Int → Zl → List Zv → Zt → Prop) : sx_ K P [.iload 10, .iload 3, .iconst 2, .idiv, .if_icmp .ge 350, .iload 10, .ifCond .ne 220, .iload 3, .iconst 1, .isub, .goto 229] 220 = x_iload 10 (x_iload 3 (x_iconst 2 (x_idiv (x_if_icmp .ge 350 K (x_iload 10 (x_ifCond .ne 220 K (x_iload 3 (x_iconst 1 (x_isub (x_goto 229 K)))))))))) := ((xe_iload 10).trans (congrArg (x_iload 10) ((xe_iload 3).trans (congrArg (x_iload 3) ((xe_iconst 2).trans (congrArg (x_iconst 2) ((xe_idiv).trans (congrArg (x_idiv) ((xe_if_icmp .ge 350).trans (congrArg (x_if_icmp .ge 350 K) ((xe_iload 10).trans (congrArg (x_iload 10) ((xe_ifCond .ne 220).trans (congrArg (x_ifCond .ne 220 K) ((xe_iload 3).trans (congrArg (x_iload 3) ((xe_iconst 1).trans (congrArg (x_iconst 1) ((xe_isub).trans (congrArg (x_isub) (xe_goto 229)))))))))))))))))))))
theorem bk_X11_plan_e_350 : ck_ fX11 (some .int) cX11_plan 350 [.iinc 7 1, .goto 170] 356 = true := qck_r (nn_ _) (by decide +kernel)
theorem bs_X11_plan_e_350 {P : Zt → Option Zv → Prop} (K : Int → Zl → List Zv → Zt → Prop) : sx_ K P [.iinc 7 1, .goto 170] 356 = x_iinc 7 1 (x_goto 170 K) := ((xe_iinc 7 1).trans (congrArg (x_iinc 7 1) (xe_goto 170)))
theorem bk_X11_plan_e_220 : ck_ fX11 (some .int) cX11_plan 220 [.iload 7, .iload 10, .iadd, .iload 3, .iconst 1, .isub, .irem] 229 = true := qck_r (nn_ _) (by decide +kernel)
theorem bs_X11_plan_e_220 {P : Zt → Option Zv → Prop} (K : Int → Zl → List Zv → Zt → Prop) : sx_ K P [.iload 7, .iload 10, .iadd, .iload 3, .iconst 1, .isub, .irem] 229 = x_iload 7 (x_iload 10 (x_iadd (x_iload 3 (x_iconst 1 (x_isub (x_irem (K 229))))))) := ((xe_iload 7).trans (congrArg (x_iload 7) ((xe_iload 10).trans (congrArg (x_iload 10) ((xe_iadd).trans (congrArg (x_iadd) ((xe_iload 3).trans (congrArg (x_iload 3) ((xe_iconst 1).trans (congrArg (x_iconst 1) ((xe_isub).trans (congrArg (x_isub) ((xe_irem).trans (congrArg (x_irem) xe_nil))))))))))))))
theorem bk_X11_plan_e_170 : ck_ fX11 (some .int) cX11_plan 170 [.iload 7, .iload 3, .iconst 1, .isub, .if_icmp .ge 356, .iload 6, .iload 3, .iconst 1, .isub, .imul, .iload 7, .iadd, .istore 8, .iload 2, .iload 8, .iload 5, .imul, .iadd, .istore 9, .iconst 0, .istore 10] 201 = true := qck_r (nn_ _) (by decide +kernel)
theorem bs_X11_plan_e_170 {P : Zt → Option Zv → Prop} (K : Int → Zl → List Zv → Zt → Prop) : sx_ K P [.iload 7, .iload 3, .iconst 1, .isub, .if_icmp .ge 356, .iload 6, .iload 3, .iconst 1, .isub, .imul, .iload 7, .iadd, .istore 8, .iload 2, .iload 8, .iload 5, .imul, .iadd, .istore 9, .iconst 0, .istore 10] 201 = x_iload 7 (x_iload 3 (x_iconst 1 (x_isub (x_if_icmp .ge 356 K (x_iload 6 (x_iload 3 (x_iconst 1 (x_isub (x_imul (x_iload 7 (x_iadd (x_istore 8 (x_iload 2 (x_iload 8 (x_iload 5 (x_imul (x_iadd (x_istore 9 (x_iconst 0 (x_istore 10 (K 201))))))))))))))))))))) := ((xe_iload 7).trans (congrArg (x_iload 7) ((xe_iload 3).trans (congrArg (x_iload 3) ((xe_iconst 1).trans (congrArg (x_iconst 1) ((xe_isub).trans (congrArg (x_isub) ((xe_if_icmp .ge 356).trans (congrArg (x_if_icmp .ge 356 K) ((xe_iload 6).trans (congrArg (x_iload 6) ((xe_iload 3).trans (congrArg (x_iload 3) ((xe_iconst 1).trans (congrArg (x_iconst 1) ((xe_isub).trans (congrArg (x_isub) ((xe_imul).trans (congrArg (x_imul) ((xe_iload 7).trans (congrArg (x_iload 7) ((xe_iadd).trans (congrArg (x_iadd) ((xe_istore 8).trans (congrArg (x_istore 8) ((xe_iload 2).trans (congrArg (x_iload 2) ((xe_iload 8).trans (congrArg (x_iload 8) ((xe_iload 5).trans (congrArg (x_iload 5) ((xe_imul).trans (congrArg (x_imul) ((xe_iadd).trans (congrArg (x_iadd) ((xe_istore 9).trans (congrArg (x_istore 9) ((xe_iconst 0).trans (congrArg (x_iconst 0) ((xe_istore 10).trans (congrArg (x_istore 10) xe_nil))))))))))))))))))))))))))))))))))))))))))
theorem bk_X11_plan_e_356 : ck_ fX11 (some .int) cX11_plan 356 [.iinc 6 1, .goto 160] 362 = true := qck_r (nn_ _) (by decide +kernel)
theorem bs_X11_plan_e_356 {P : Zt → Option Zv → Prop} (K : Int → Zl → List Zv → Zt → Prop) : sx_ K P [.iinc 6 1, .goto 160] 362 = x_iinc 6 1 (x_goto 160 K) := ((xe_iinc 6 1).trans (congrArg (x_iinc 6 1) (xe_goto 160)))
theorem bk_X11_plan_e_160 : ck_ fX11 (some .int) cX11_plan 160 [.iload 6, .iload 4, .if_icmp .ge 362, .iconst 0, .istore 7] 170 = true := qck_r (nn_ _) (by decide +kernel)
theorem bs_X11_plan_e_160 {P : Zt → Option Zv → Prop} (K : Int → Zl → List Zv → Zt → Prop) : sx_ K P [.iload 6, .iload 4, .if_icmp .ge 362, .iconst 0, .istore 7] 170 = x_iload 6 (x_iload 4 (x_if_icmp .ge 362 K (x_iconst 0 (x_istore 7 (K 170))))) := ((xe_iload 6).trans (congrArg (x_iload 6) ((xe_iload 4).trans (congrArg (x_iload 4) ((xe_if_icmp .ge 362).trans (congrArg (x_if_icmp .ge 362 K) ((xe_iconst 0).trans (congrArg (x_iconst 0) ((xe_istore 7).trans (congrArg (x_istore 7) xe_nil))))))))))
theorem bk_X11_plan_e_362 : ck_ fX11 (some .int) cX11_plan 362 [.aload 0, .tableswitch 0 11 11 #[], .iload 1, .aload 0, .tableswitch 0 11 29 #[], .aload 0, .tableswitch 0 11 10 #[], .iload 1, .iaload, .isub, .iastore, .aload 0, .tableswitch 0 11 10 #[], .iload 1, .iaload, .ireturn] 386 = true := qck_r (nn_ _) (by decide +kernel)
theorem bs_X11_plan_e_362 {P : Zt → Option Zv → Prop} (K : Int → Zl → List Zv → Zt → Prop) : sx_ K P [.aload 0, .tableswitch 0 11 11 #[], .iload 1, .aload 0, .tableswitch 0 11 29 #[], .aload 0, .tableswitch 0 11 10 #[], .iload 1, .iaload, .isub, .iastore, .aload 0, .tableswitch 0 11 10 #[], .iload 1, .iaload, .ireturn] 386 = x_aload 0 (x_g1 111 211 (x_iload 1 (x_aload 0 (x_g0 111 29 0 400 (x_aload 0 (x_g1 111 210 (x_iload 1 (x_iaload (x_isub (x_iastore (x_aload 0 (x_g1 111 210 (x_iload 1 (x_iaload (x_ireturn P))))))))))))))) := ((xe_aload 0).trans (congrArg (x_aload 0) ((xe_g1 (kk := 111) rfl tl_11_11).trans (congrArg (x_g1 111 211) ((xe_iload 1).trans (congrArg (x_iload 1) ((xe_aload 0).trans (congrArg (x_aload 0) ((xe_g0 (kk := 111) rfl tl_11_29).trans (congrArg (x_g0 111 29 0 400) ((xe_aload 0).trans (congrArg (x_aload 0) ((xe_g1 (kk := 111) rfl tl_11_10).trans (congrArg (x_g1 111 210) ((xe_iload 1).trans (congrArg (x_iload 1) ((xe_iaload).trans (congrArg (x_iaload) ((xe_isub).trans (congrArg (x_isub) ((xe_iastore).trans (congrArg (x_iastore) ((xe_aload 0).trans (congrArg (x_aload 0) ((xe_g1 (kk := 111) rfl tl_11_10).trans (congrArg (x_g1 111 210) ((xe_iload 1).trans (congrArg (x_iload 1) ((xe_iaload).trans (congrArg (x_iaload) (xe_ireturn)))))))))))))))))))))))))))))))
theorem bk_X11_plan_e_140 : ck_ fX11 (some .int) cX11_plan 140 [.aload 0, .tableswitch 0 11 9 #[], .iload 1, .iconst 1, .bastore, .aload 0, .tableswitch 0 11 10 #[], .iload 1, .aload 0, .tableswitch 0 11 29 #[], .iastore, .iconst 0, .istore 6] 160 = true := qck_r (nn_ _) (by decide +kernel)
theorem bs_X11_plan_e_140 {P : Zt → Option Zv → Prop} (K : Int → Zl → List Zv → Zt → Prop) : sx_ K P [.aload 0, .tableswitch 0 11 9 #[], .iload 1, .iconst 1, .bastore, .aload 0, .tableswitch 0 11 10 #[], .iload 1, .aload 0, .tableswitch 0 11 29 #[], .iastore, .iconst 0, .istore 6] 160 = x_aload 0 (x_g1 111 209 (x_iload 1 (x_iconst 1 (x_bastore (x_aload 0 (x_g1 111 210 (x_iload 1 (x_aload 0 (x_g0 111 29 0 400 (x_iastore (x_iconst 0 (x_istore 6 (K 160))))))))))))) := ((xe_aload 0).trans (congrArg (x_aload 0) ((xe_g1 (kk := 111) rfl tl_11_9).trans (congrArg (x_g1 111 209) ((xe_iload 1).trans (congrArg (x_iload 1) ((xe_iconst 1).trans (congrArg (x_iconst 1) ((xe_bastore).trans (congrArg (x_bastore) ((xe_aload 0).trans (congrArg (x_aload 0) ((xe_g1 (kk := 111) rfl tl_11_10).trans (congrArg (x_g1 111 210) ((xe_iload 1).trans (congrArg (x_iload 1) ((xe_aload 0).trans (congrArg (x_aload 0) ((xe_g0 (kk := 111) rfl tl_11_29).trans (congrArg (x_g0 111 29 0 400) ((xe_iastore).trans (congrArg (x_iastore) ((xe_iconst 0).trans (congrArg (x_iconst 0) ((xe_istore 6).trans (congrArg (x_istore 6) xe_nil))))))))))))))))))))))))))
theorem bk_X11_plan_e_0 : ck_ fX11 (some .int) cX11_plan 0 [.iload 1, .aload 0, .tableswitch 0 11 6 #[]] 5 = true := qck_r (nn_ _) (by decide +kernel)
theorem bs_X11_plan_e_0 {P : Zt → Option Zv → Prop} (K : Int → Zl → List Zv → Zt → Prop) : sx_ K P [.iload 1, .aload 0, .tableswitch 0 11 6 #[]] 5 = x_iload 1 (x_aload 0 (x_g0 111 6 0 4 (K 5))) := ((xe_iload 1).trans (congrArg (x_iload 1) ((xe_aload 0).trans (congrArg (x_aload 0) ((xe_g0 (kk := 111) rfl tl_11_6).trans (congrArg (x_g0 111 6 0 4) xe_nil))))))
theorem bk_X11_plan_e_8 : ck_ fX11 (some .int) cX11_plan 8 [.ifCond .ne 14, .iconst (-2), .ireturn] 14 = true := qck_r (nn_ _) (by decide +kernel)
theorem bs_X11_plan_e_8 {P : Zt → Option Zv → Prop} (K : Int → Zl → List Zv → Zt → Prop) : sx_ K P [.ifCond .ne 14, .iconst (-2), .ireturn] 14 = x_ifCond .ne 14 K (x_iconst (-2) (x_ireturn P)) := ((xe_ifCond .ne 14).trans (congrArg (x_ifCond .ne 14 K) ((xe_iconst (-2)).trans (congrArg (x_iconst (-2)) (xe_ireturn)))))
theorem bk_X11_plan_e_14 : ck_ fX11 (some .int) cX11_plan 14 [.iload 2, .aload 0, .tableswitch 0 11 3 #[], .iconst 999] 22 = true := qck_r (nn_ _) (by decide +kernel)
theorem bs_X11_plan_e_14 {P : Zt → Option Zv → Prop} (K : Int → Zl → List Zv → Zt → Prop) : sx_ K P [.iload 2, .aload 0, .tableswitch 0 11 3 #[], .iconst 999] 22 = x_iload 2 (x_aload 0 (x_g0 111 3 0 999 (x_iconst 999 (K 22)))) := ((xe_iload 2).trans (congrArg (x_iload 2) ((xe_aload 0).trans (congrArg (x_aload 0) ((xe_g0 (kk := 111) rfl tl_11_3).trans (congrArg (x_g0 111 3 0 999) ((xe_iconst 999).trans (congrArg (x_iconst 999) xe_nil))))))))
theorem bk_X11_plan_e_25 : ck_ fX11 (some .int) cX11_plan 25 [.ifCond .ne 31, .iconst (-3), .ireturn] 31 = true := qck_r (nn_ _) (by decide +kernel)
theorem bs_X11_plan_e_25 {P : Zt → Option Zv → Prop} (K : Int → Zl → List Zv → Zt → Prop) : sx_ K P [.ifCond .ne 31, .iconst (-3), .ireturn] 31 = x_ifCond .ne 31 K (x_iconst (-3) (x_ireturn P)) := ((xe_ifCond .ne 31).trans (congrArg (x_ifCond .ne 31 K) ((xe_iconst (-3)).trans (congrArg (x_iconst (-3)) (xe_ireturn)))))
theorem bk_X11_plan_e_31 : ck_ fX11 (some .int) cX11_plan 31 [.aload 0, .tableswitch 0 11 8 #[], .iload 1, .iaload, .aload 0, .tableswitch 0 11 8 #[], .iload 1, .iaload, .iconst 2, .irem, .iadd, .istore 3, .aload 0, .iload 1, .iconst 6] 51 = true := qck_r (nn_ _) (by decide +kernel)
theorem bs_X11_plan_e_31 {P : Zt → Option Zv → Prop} (K : Int → Zl → List Zv → Zt → Prop) : sx_ K P [.aload 0, .tableswitch 0 11 8 #[], .iload 1, .iaload, .aload 0, .tableswitch 0 11 8 #[], .iload 1, .iaload, .iconst 2, .irem, .iadd, .istore 3, .aload 0, .iload 1, .iconst 6] 51 = x_aload 0 (x_g1 111 208 (x_iload 1 (x_iaload (x_aload 0 (x_g1 111 208 (x_iload 1 (x_iaload (x_iconst 2 (x_irem (x_iadd (x_istore 3 (x_aload 0 (x_iload 1 (x_iconst 6 (K 51))))))))))))))) := ((xe_aload 0).trans (congrArg (x_aload 0) ((xe_g1 (kk := 111) rfl tl_11_8).trans (congrArg (x_g1 111 208) ((xe_iload 1).trans (congrArg (x_iload 1) ((xe_iaload).trans (congrArg (x_iaload) ((xe_aload 0).trans (congrArg (x_aload 0) ((xe_g1 (kk := 111) rfl tl_11_8).trans (congrArg (x_g1 111 208) ((xe_iload 1).trans (congrArg (x_iload 1) ((xe_iaload).trans (congrArg (x_iaload) ((xe_iconst 2).trans (congrArg (x_iconst 2) ((xe_irem).trans (congrArg (x_irem) ((xe_iadd).trans (congrArg (x_iadd) ((xe_istore 3).trans (congrArg (x_istore 3) ((xe_aload 0).trans (congrArg (x_aload 0) ((xe_iload 1).trans (congrArg (x_iload 1) ((xe_iconst 6).trans (congrArg (x_iconst 6) xe_nil))))))))))))))))))))))))))))))
theorem bk_X11_plan_e_54 : ck_ fX11 (some .int) cX11_plan 54 [.istore 4, .aload 0, .iload 1, .iconst 7] 60 = true := qck_r (nn_ _) (by decide +kernel)
theorem bs_X11_plan_e_54 {P : Zt → Option Zv → Prop} (K : Int → Zl → List Zv → Zt → Prop) : sx_ K P [.istore 4, .aload 0, .iload 1, .iconst 7] 60 = x_istore 4 (x_aload 0 (x_iload 1 (x_iconst 7 (K 60)))) := ((xe_istore 4).trans (congrArg (x_istore 4) ((xe_aload 0).trans (congrArg (x_aload 0) ((xe_iload 1).trans (congrArg (x_iload 1) ((xe_iconst 7).trans (congrArg (x_iconst 7) xe_nil))))))))
theorem bk_X11_plan_e_63 : ck_ fX11 (some .int) cX11_plan 63 [.istore 5, .aload 0, .tableswitch 0 11 9 #[], .iload 1, .baload, .ifCond .ne 103, .aload 0, .tableswitch 0 11 8 #[], .iload 1, .iaload, .iconst 2, .if_icmp .lt 103, .iload 2, .iload 4, .iload 3, .iconst 1, .isub, .imul, .iconst 1, .isub, .iload 5, .imul, .iadd, .iconst 999, .if_icmp .le 106, .iconst (-4), .ireturn] 106 = true := qck_r (nn_ _) (by decide +kernel)
theorem bs_X11_plan_e_63 {P : Zt → Option Zv → Prop} (K : Int → Zl → List Zv → Zt → Prop) : sx_ K P [.istore 5, .aload 0, .tableswitch 0 11 9 #[], .iload 1, .baload, .ifCond .ne 103, .aload 0, .tableswitch 0 11 8 #[], .iload 1, .iaload, .iconst 2, .if_icmp .lt 103, .iload 2, .iload 4, .iload 3, .iconst 1, .isub, .imul, .iconst 1, .isub, .iload 5, .imul, .iadd, .iconst 999, .if_icmp .le 106, .iconst (-4), .ireturn] 106 = x_istore 5 (x_aload 0 (x_g1 111 209 (x_iload 1 (x_baload (x_ifCond .ne 103 K (x_aload 0 (x_g1 111 208 (x_iload 1 (x_iaload (x_iconst 2 (x_if_icmp .lt 103 K (x_iload 2 (x_iload 4 (x_iload 3 (x_iconst 1 (x_isub (x_imul (x_iconst 1 (x_isub (x_iload 5 (x_imul (x_iadd (x_iconst 999 (x_if_icmp .le 106 K (x_iconst (-4) (x_ireturn P)))))))))))))))))))))))))) := ((xe_istore 5).trans (congrArg (x_istore 5) ((xe_aload 0).trans (congrArg (x_aload 0) ((xe_g1 (kk := 111) rfl tl_11_9).trans (congrArg (x_g1 111 209) ((xe_iload 1).trans (congrArg (x_iload 1) ((xe_baload).trans (congrArg (x_baload) ((xe_ifCond .ne 103).trans (congrArg (x_ifCond .ne 103 K) ((xe_aload 0).trans (congrArg (x_aload 0) ((xe_g1 (kk := 111) rfl tl_11_8).trans (congrArg (x_g1 111 208) ((xe_iload 1).trans (congrArg (x_iload 1) ((xe_iaload).trans (congrArg (x_iaload) ((xe_iconst 2).trans (congrArg (x_iconst 2) ((xe_if_icmp .lt 103).trans (congrArg (x_if_icmp .lt 103 K) ((xe_iload 2).trans (congrArg (x_iload 2) ((xe_iload 4).trans (congrArg (x_iload 4) ((xe_iload 3).trans (congrArg (x_iload 3) ((xe_iconst 1).trans (congrArg (x_iconst 1) ((xe_isub).trans (congrArg (x_isub) ((xe_imul).trans (congrArg (x_imul) ((xe_iconst 1).trans (congrArg (x_iconst 1) ((xe_isub).trans (congrArg (x_isub) ((xe_iload 5).trans (congrArg (x_iload 5) ((xe_imul).trans (congrArg (x_imul) ((xe_iadd).trans (congrArg (x_iadd) ((xe_iconst 999).trans (congrArg (x_iconst 999) ((xe_if_icmp .le 106).trans (congrArg (x_if_icmp .le 106 K) ((xe_iconst (-4)).trans (congrArg (x_iconst (-4)) (xe_ireturn)))))))))))))))))))))))))))))))))))))))))))))))))))))
theorem bk_X11_plan_e_103 : ck_ fX11 (some .int) cX11_plan 103 [.iconst (-4), .ireturn] 106 = true := qck_r (nn_ _) (by decide +kernel)
theorem bs_X11_plan_e_103 {P : Zt → Option Zv → Prop} (K : Int → Zl → List Zv → Zt → Prop) : sx_ K P [.iconst (-4), .ireturn] 106 = x_iconst (-4) (x_ireturn P) := ((xe_iconst (-4)).trans (congrArg (x_iconst (-4)) (xe_ireturn)))
theorem bk_X11_plan_e_106 : ck_ fX11 (some .int) cX11_plan 106 [.aload 0, .tableswitch 0 11 29 #[], .iload 4, .aload 0, .tableswitch 0 11 8 #[], .iload 1, .iaload, .aload 0, .tableswitch 0 11 8 #[], .iload 1, .iaload, .iconst 1, .isub, .imul, .iconst 2, .idiv, .imul, .iadd, .iconst 400, .if_icmp .le 140, .iconst (-5), .ireturn] 140 = true := qck_r (nn_ _) (by decide +kernel)
theorem bs_X11_plan_e_106 {P : Zt → Option Zv → Prop} (K : Int → Zl → List Zv → Zt → Prop) : sx_ K P [.aload 0, .tableswitch 0 11 29 #[], .iload 4, .aload 0, .tableswitch 0 11 8 #[], .iload 1, .iaload, .aload 0, .tableswitch 0 11 8 #[], .iload 1, .iaload, .iconst 1, .isub, .imul, .iconst 2, .idiv, .imul, .iadd, .iconst 400, .if_icmp .le 140, .iconst (-5), .ireturn] 140 = x_aload 0 (x_g0 111 29 0 400 (x_iload 4 (x_aload 0 (x_g1 111 208 (x_iload 1 (x_iaload (x_aload 0 (x_g1 111 208 (x_iload 1 (x_iaload (x_iconst 1 (x_isub (x_imul (x_iconst 2 (x_idiv (x_imul (x_iadd (x_iconst 400 (x_if_icmp .le 140 K (x_iconst (-5) (x_ireturn P))))))))))))))))))))) := ((xe_aload 0).trans (congrArg (x_aload 0) ((xe_g0 (kk := 111) rfl tl_11_29).trans (congrArg (x_g0 111 29 0 400) ((xe_iload 4).trans (congrArg (x_iload 4) ((xe_aload 0).trans (congrArg (x_aload 0) ((xe_g1 (kk := 111) rfl tl_11_8).trans (congrArg (x_g1 111 208) ((xe_iload 1).trans (congrArg (x_iload 1) ((xe_iaload).trans (congrArg (x_iaload) ((xe_aload 0).trans (congrArg (x_aload 0) ((xe_g1 (kk := 111) rfl tl_11_8).trans (congrArg (x_g1 111 208) ((xe_iload 1).trans (congrArg (x_iload 1) ((xe_iaload).trans (congrArg (x_iaload) ((xe_iconst 1).trans (congrArg (x_iconst 1) ((xe_isub).trans (congrArg (x_isub) ((xe_imul).trans (congrArg (x_imul) ((xe_iconst 2).trans (congrArg (x_iconst 2) ((xe_idiv).trans (congrArg (x_idiv) ((xe_imul).trans (congrArg (x_imul) ((xe_iadd).trans (congrArg (x_iadd) ((xe_iconst 400).trans (congrArg (x_iconst 400) ((xe_if_icmp .le 140).trans (congrArg (x_if_icmp .le 140 K) ((xe_iconst (-5)).trans (congrArg (x_iconst (-5)) (xe_ireturn)))))))))))))))))))))))))))))))))))))))))))
abbrev po_X11_plan_e (T : Zt) (c f : Int) : Zt → Option Zv → Prop := fun T' r => ∃ x : Int, r = some (vI x) ∧ fr_ [(230, []), (231, []), (232, []), (233, []), (234, []), (235, []), (238, []), (253, []), (255, []), (111, [29]), (209, []), (210, []), (211, [])] T T' ∧ (((x < 0 ∧ T = T') ∨ (0 ≤ c ∧ c < T 111 0 6 ∧ am2_ T T' c ∧ T' 111 0 29 ≤ 400 ∧ T' 210 0 c = T 111 0 29 ∧ T' 211 0 c = T' 111 0 29 - T 111 0 29 ∧ (∀ z, z ≠ c → T' 210 0 z = T 210 0 z ∧ T' 211 0 z = T 211 0 z ∧ T' 209 0 z = T 209 0 z))) ∧ PR9_ T T' c f x)
set_option maxHeartbeats 4000000 in
theorem ct_X11_plan_e {T : Zt} {c f : Int} (hRI : RI_ T) : Ct_ yX11_plan zX11_plan T [vR 111 0, vI c, vI f] (po_X11_plan_e T c f) := by
  refine ct_of pn_11 rfl rfl (Nat.le_of_ble_eq_true rfl) (fun hT hav => ?_)
  have hr_c : -2147483648 ≤ c ∧ c ≤ 2147483647 := hav (vI c) (List.mem_cons_of_mem _ List.mem_cons_self)
  have hr_f : -2147483648 ≤ f ∧ f ≤ 2147483647 := hav (vI f) (List.mem_cons_of_mem _ (List.mem_cons_of_mem _ List.mem_cons_self))
  have hz : zX11_plan.2.2.2.1 = some .boolean → ∀ (T' : Zt) (x : Int), po_X11_plan_e T c f T' (some (vI x)) → 0 ≤ x ∧ x ≤ 1 := fun h => by cases h
  have hb_6 : 0 ≤ T 111 0 6 ∧ T 111 0 6 ≤ 4 := bd_f hT 111 6 tl_11_6 0
  have hb_29 : 0 ≤ T 111 0 29 ∧ T 111 0 29 ≤ 400 := bd_f hT 111 29 tl_11_29 0
  show J_ zX11_plan T (po_X11_plan_e T c f) 0 0 0 [some (vR 111 0), some (vI c), some (vI f), none, none, none, none, none, none, none, none, none, none, none, none] [] T
  have c_140 : ∀ (n : Int) (lg : Int) (ev : Int), (0 ≤ c ∧ c < 4 ∧ c < T 111 0 6 ∧ 2 ≤ T 208 0 c ∧ T 208 0 c ≤ 12 ∧ n = T 208 0 c + T 208 0 c % 2 ∧ 1 ≤ lg ∧ lg ≤ 4 ∧ 1 ≤ ev ∧ ev ≤ 30 ∧ 0 ≤ f ∧ f ≤ 999 ∧ 0 ≤ T 111 0 29) → (f + (lg * (n - 1) - 1) * ev ≤ 999) → (lg = T 205 0 (23 * c + 6) ∧ ev = T 205 0 (23 * c + 7)) → (T 209 0 c = 0 ∧ T 111 0 3 ≤ f) → (T 111 0 29 + lg * (T 208 0 c * (T 208 0 c - 1) / 2) ≤ 400) → J_ zX11_plan T (po_X11_plan_e T c f) 0 0 140 [some (vR 111 0), some (vI c), some (vI f), some (vI n), some (vI lg), some (vI ev), none, none, none, none, none, none, none, none, none] [] T := by
    intro n lg ev ca cb cr pz cc
    have hsum : T 111 0 29 + lg * (n - 1) * (n / 2 - T 208 0 c % 2) ≤ 400 := by
      have z := pl_1 (e := T 208 0 c) (by omega) (by omega)
      have e1 : n = T 208 0 c + T 208 0 c % 2 := by omega
      rw [Int.mul_assoc, e1, z]; exact cc
    have hper : 0 ≤ (n / 2 - T 208 0 c % 2) := by omega
    have hstep : ∀ q : Int, (q + 1) * (n / 2 - T 208 0 c % 2) = q * (n / 2 - T 208 0 c % 2) + (n / 2 - T 208 0 c % 2) := fun q => by rw [Int.add_mul, Int.one_mul]
    have hle : ∀ q : Int, q + 1 ≤ lg * (n - 1) → T 111 0 29 + q * (n / 2 - T 208 0 c % 2) + (n / 2 - T 208 0 c % 2) ≤ 400 := fun q hq => by
      have z := Int.mul_le_mul_of_nonneg_right hq hper
      rw [hstep q] at z; omega
    have hday : ∀ q : Int, 0 ≤ q → q + 1 ≤ lg * (n - 1) → 0 ≤ q * ev ∧ f + q * ev ≤ 999 := fun q h0 hq => by
      have z : q * ev ≤ (lg * (n - 1) - 1) * ev := Int.mul_le_mul_of_nonneg_right (by omega) (by omega)
      have z2 : 0 ≤ q * ev := Int.mul_nonneg h0 (by omega)
      omega
    have c_160 : ∀ (nn : Nat) (leg : Int) (T1 : Zt), ((lg - leg).toNat) ≤ nn → (fr_ [(230, []), (231, []), (232, []), (233, []), (234, []), (235, []), (238, []), (253, []), (255, []), (111, [29]), (209, []), (210, [])] T T1) → (0 ≤ leg ∧ leg ≤ lg) → (T1 111 0 29 ≤ T 111 0 29 + leg * (n - 1) * (n / 2 - T 208 0 c % 2)) → (T1 210 0 c = T 111 0 29 ∧ T1 208 0 c = T1 208 0 c) → ((∀ z, z ≠ c → T1 210 0 z = T 210 0 z ∧ T1 209 0 z = T 209 0 z)) → (am2_ T T1 c) → (T1 209 0 c = 1) → (AR9_ T T1 c (pl9_ (T 208 0 c) (n - 1) f ev leg.toNat)) → J_ zX11_plan T (po_X11_plan_e T c f) 0 0 160 [some (vR 111 0), some (vI c), some (vI f), some (vI n), some (vI lg), some (vI ev), some (vI leg), none, none, none, none, none, none, none, none] [] T1 := by
      intro nn
      induction nn using Nat.strongRecOn with
      | _ nn ih_160 =>
        intro leg T1 hm_160 hf_160 l1 l2 fo rs am pl ar
        replace hm_160 := fun (_ : Unit) => hm_160
        have am1 := am.1
        have c_170 : ∀ (nn : Nat) (r : Int) (T1 : Zt), ((n - 1 - r).toNat) ≤ nn → (fr_ [(230, []), (231, []), (232, []), (233, []), (234, []), (235, []), (238, []), (253, []), (255, []), (111, [29]), (209, []), (210, [])] T T1) → (0 ≤ leg ∧ leg < lg) → (0 ≤ r ∧ r ≤ n - 1) → (T1 111 0 29 ≤ T 111 0 29 + (leg * (n - 1) + r) * (n / 2 - T 208 0 c % 2)) → (T1 210 0 c = T 111 0 29 ∧ T1 208 0 c = T1 208 0 c) → ((∀ z, z ≠ c → T1 210 0 z = T 210 0 z ∧ T1 209 0 z = T 209 0 z)) → (am2_ T T1 c) → (T1 209 0 c = 1) → (AR9_ T T1 c (ll9_ (T 208 0 c) (n - 1) leg f ev r.toNat (pl9_ (T 208 0 c) (n - 1) f ev leg.toNat))) → J_ zX11_plan T (po_X11_plan_e T c f) 0 0 170 [some (vR 111 0), some (vI c), some (vI f), some (vI n), some (vI lg), some (vI ev), some (vI leg), some (vI r), none, none, none, none, none, none, none] [] T1 := by
          intro nn
          induction nn using Nat.strongRecOn with
          | _ nn ih_170 =>
            intro r T1 hm_170 hf_170 rl r1 r2 fo rs am pl ar
            replace hm_170 := fun (_ : Unit) => hm_170
            have hm1 : (leg + 1) * (n - 1) ≤ lg * (n - 1) := Int.mul_le_mul_of_nonneg_right (by omega) (by omega)
            have hm2 : (leg + 1) * (n - 1) = leg * (n - 1) + (n - 1) := by rw [Int.add_mul, Int.one_mul]
            have hm3 := mb_ (a := leg) (b := n - 1) (A := 3) (B := 11) (by omega) (by omega) (by omega) (by omega)
            have hs1 := hstep (leg * (n - 1) + r)
            have hs2 : (leg * (n - 1) + (r + 1)) * (n / 2 - T 208 0 c % 2) = ((leg * (n - 1) + r) + 1) * (n / 2 - T 208 0 c % 2) := by rw [Int.add_assoc]
            have c_201 : ∀ (nn : Nat) (i : Int) (T1 : Zt), ((n / 2 - i).toNat) ≤ nn → (fr_ [(230, []), (231, []), (232, []), (233, []), (234, []), (235, []), (238, []), (253, []), (255, []), (111, [29]), (209, []), (210, [])] T T1) → (r < n - 1) → (0 ≤ i ∧ i ≤ n / 2) → (T1 111 0 29 ≤ T 111 0 29 + (leg * (n - 1) + r) * (n / 2 - T 208 0 c % 2) + i ∧ (T 208 0 c % 2 = 1 → 0 < i → T1 111 0 29 ≤ T 111 0 29 + (leg * (n - 1) + r) * (n / 2 - T 208 0 c % 2) + i - 1)) → (T1 210 0 c = T 111 0 29 ∧ T1 208 0 c = T1 208 0 c) → ((∀ z, z ≠ c → T1 210 0 z = T 210 0 z ∧ T1 209 0 z = T 209 0 z)) → (am2_ T T1 c) → (T1 209 0 c = 1) → (AR9_ T T1 c (rl9_ (T 208 0 c) (n - 1) r (leg % 2) (leg * (n - 1) + r) (f + (leg * (n - 1) + r) * ev) i.toNat (ll9_ (T 208 0 c) (n - 1) leg f ev r.toNat (pl9_ (T 208 0 c) (n - 1) f ev leg.toNat)))) → J_ zX11_plan T (po_X11_plan_e T c f) 0 0 201 [some (vR 111 0), some (vI c), some (vI f), some (vI n), some (vI lg), some (vI ev), some (vI leg), some (vI r), some (vI (leg * (n - 1) + r)), some (vI (f + (leg * (n - 1) + r) * ev)), some (vI i), none, none, none, none] [] T1 := by
              intro nn
              induction nn using Nat.strongRecOn with
              | _ nn ih_201 =>
                intro i T1 hm_201 hf_201 rr i1 i2 fo rs am pl ar
                replace hm_201 := fun (_ : Unit) => hm_201
                have hl1 := hle (leg * (n - 1) + r) (by omega)
                have hd1 := hday (leg * (n - 1) + r) (by omega) (by omega)
                have hd2 := mb_ (a := (leg * (n - 1) + r)) (b := ev) (A := 44) (B := 30) (by omega) (by omega) (by omega) (by omega)
                have c_229 : ∀ (a : Int), (i < n / 2) → (0 ≤ a ∧ a ≤ n - 1 ∧ (i = 0 → a = n - 1)) → (a = pa9_ (n - 1) r i) → J_ zX11_plan T (po_X11_plan_e T c f) 0 0 229 [some (vR 111 0), some (vI c), some (vI f), some (vI n), some (vI lg), some (vI ev), some (vI leg), some (vI r), some (vI (leg * (n - 1) + r)), some (vI (f + (leg * (n - 1) + r) * ev)), some (vI i), none, none, none, none] [vI a] T1 := by
                  intro a a0 a1 a2
                  have c_254 : ∀ (b : Int), (0 ≤ b ∧ b ≤ n - 1) → (b = pb9_ (n - 1) r i) → J_ zX11_plan T (po_X11_plan_e T c f) 0 0 254 [some (vR 111 0), some (vI c), some (vI f), some (vI n), some (vI lg), some (vI ev), some (vI leg), some (vI r), some (vI (leg * (n - 1) + r)), some (vI (f + (leg * (n - 1) + r) * ev)), some (vI i), some (vI a), none, none, none] [vI b] T1 := by
                    intro b b1 b2
                    have c_290 : ∀ (v : Int), (0 ≤ v ∧ v ≤ 1) → (pq9_ r i = v) → J_ zX11_plan T (po_X11_plan_e T c f) 0 0 290 [some (vR 111 0), some (vI c), some (vI f), some (vI n), some (vI lg), some (vI ev), some (vI leg), some (vI r), some (vI (leg * (n - 1) + r)), some (vI (f + (leg * (n - 1) + r) * ev)), some (vI i), some (vI a), some (vI b), none, none] [vI v] T1 := by
                      intro v v1 v2
                      have c_305 : ∀ (w : Int), (0 ≤ w ∧ w ≤ 1) → (leg % 2 = w) → J_ zX11_plan T (po_X11_plan_e T c f) 0 0 305 [some (vR 111 0), some (vI c), some (vI f), some (vI n), some (vI lg), some (vI ev), some (vI leg), some (vI r), some (vI (leg * (n - 1) + r)), some (vI (f + (leg * (n - 1) + r) * ev)), some (vI i), some (vI a), some (vI b), some (vI v), none] [vI w] T1 := by
                        intro w w1 w2
                        refine j_blx (F := fX11) tb_X11 (nn_ _) bk_X11_plan_e_305 bs_X11_plan_e_305 hz (fun K hK => ?_)
                        refine And.intro (fun c1 => ?_) (fun c1 => ?_)
                        · refine hK 323 [some (vR 111 0), some (vI c), some (vI f), some (vI n), some (vI lg), some (vI ev), some (vI leg), some (vI r), some (vI (leg * (n - 1) + r)), some (vI (f + (leg * (n - 1) + r) * ev)), some (vI i), some (vI a), some (vI b), some (vI v), some (vI w)] [vI (leg * (n - 1) + r), vI c, vR 111 0] T1 ?_
                          refine j_blx (F := fX11) tb_X11 (nn_ _) bk_X11_plan_e_323 bs_X11_plan_e_323 hz (fun K hK => ?_)
                          refine And.intro (fun c2 => ?_) (fun c2 => ?_)
                          · refine hK 337 _ [vI b, vI (leg * (n - 1) + r), vI c, vR 111 0] T1 ?_
                            refine j_blx (F := fX11) tb_X11 (nn_ _) bk_X11_plan_e_337 bs_X11_plan_e_337 hz (fun K hK => ?_)
                            refine hK 341 _ [vI (f + (leg * (n - 1) + r) * ev), vI a, vI b, vI (leg * (n - 1) + r), vI c, vR 111 0] T1 ?_
                            have e3 : T1 208 0 c = T 208 0 c := hf_201 208 0 c rfl
                            refine j_callV (y := yX11_addMatch) (Yc := zX11_addMatch) (rest := []) [vI c, vI (leg * (n - 1) + r), vI b, vI a, vI (f + (leg * (n - 1) + r) * ev)] (ct_X11_addMatch_e (T := T1) (by omega) (by omega) (by omega) (by (intro y1 y2; omega))) cl_X11_346 (qd_c (by decide +kernel)) (nn_ _) rfl (rf_of rfl) (Nat.le_of_ble_eq_true rfl) (Nat.le_of_ble_eq_true rfl) (Nat.le_of_ble_eq_true rfl) rfl ?_
                            rintro U4 _ ⟨rfl, fU4, qU4⟩
                            show J_ zX11_plan T (po_X11_plan_e T c f) 0 0 344 _ [] U4
                            refine j_blx (F := fX11) tb_X11 (nn_ _) bk_X11_plan_e_344 bs_X11_plan_e_344 hz (fun K hK => ?_)
                            refine rg_i (by omega) ?_
                            refine hK 201 [some (vR 111 0), some (vI c), some (vI f), some (vI n), some (vI lg), some (vI ev), some (vI leg), some (vI r), some (vI (leg * (n - 1) + r)), some (vI (f + (leg * (n - 1) + r) * ev)), some (vI (i + 1)), some (vI a), some (vI b), some (vI v), some (vI w)] [] U4 ?_
                            refine j_drop [some (vR 111 0), some (vI c), some (vI f), some (vI n), some (vI lg), some (vI ev), some (vI leg), some (vI r), some (vI (leg * (n - 1) + r)), some (vI (f + (leg * (n - 1) + r) * ev)), some (vI (i + 1)), none, none, none, none] (fun k v hk => ?_) rfl ?_
                            · match k, hk with
                              | 0, hk => exact hk
                              | 1, hk => exact hk
                              | 2, hk => exact hk
                              | 3, hk => exact hk
                              | 4, hk => exact hk
                              | 5, hk => exact hk
                              | 6, hk => exact hk
                              | 7, hk => exact hk
                              | 8, hk => exact hk
                              | 9, hk => exact hk
                              | 10, hk => exact hk
                              | 11, hk => cases hk
                              | 12, hk => cases hk
                              | 13, hk => cases hk
                              | 14, hk => cases hk
                              | k + 15, hk => cases hk
                            have e5 : U4 210 0 c = T1 210 0 c := fU4 210 0 c rfl
                            have e6 : U4 208 0 c = T 208 0 c := (fU4 208 0 c rfl).trans (hf_201 208 0 c rfl)
                            have e7 : U4 209 0 c = T1 209 0 c := fU4 209 0 c rfl
                            refine ih_201 _ ?_ (i + 1) U4 (Nat.le_refl _) ?_ ?_ ?_ ?_ ?_ ?_ ?_ ?_ ?_
                            · have hm_201 := hm_201 (); omega
                            · exact fr_t (fr_t (fr_0 _ _) (fr_s hf_201 rfl)) (fr_s fU4 rfl)
                            · omega
                            · omega
                            · omega
                            · omega
                            · exact fun z hz => ⟨(fU4 210 0 z rfl).trans (rs z hz).1, (fU4 209 0 z rfl).trans (rs z hz).2⟩
                            · rcases qU4 with ⟨-, -, z⟩ | ⟨-, -, -, z, -⟩
                              · rw [← z]; exact am
                              · exact am2_s am z
                            · exact (fU4 209 0 c rfl).trans pl
                            · have e8 : T1 208 0 c = T 208 0 c := hf_201 208 0 c rfl
                              have e7 : ∀ j, T1 207 0 j = T 207 0 j := fun j => hf_201 207 0 j rfl
                              have eh : hm9_ (n - 1) r (leg % 2) i = b ∧ aw9_ (n - 1) r (leg % 2) i = a := by rw [a2, b2]; exact hm9_b (by omega)
                              rw [show (i + 1).toNat = i.toNat + 1 by omega]
                              show AR9_ T U4 c (fa9_ (T 208 0 c) (leg * (n - 1) + r) (f + (leg * (n - 1) + r) * ev) (hm9_ (n - 1) r (leg % 2) (i.toNat : Int)) (aw9_ (n - 1) r (leg % 2) (i.toNat : Int)) (rl9_ (T 208 0 c) (n - 1) r (leg % 2) (leg * (n - 1) + r) (f + (leg * (n - 1) + r) * ev) i.toNat (ll9_ (T 208 0 c) (n - 1) leg f ev r.toNat (pl9_ (T 208 0 c) (n - 1) f ev leg.toNat))))
                              rw [show ((i.toNat : Nat) : Int) = i by omega, eh.1, eh.2]
                              rcases qU4 with ⟨z1, z2, z3⟩ | ⟨z1, z2, z3, z4, z5⟩
                              · rw [fa9_n (by omega), ← z3]
                                exact ar
                              · rw [fa9_y (by omega)]
                                obtain ⟨y1, y2, y3, y4, y5⟩ := z5
                                rw [e7] at y2 y3
                                exact ar9_s ar z3 z4.2.1 ⟨z4.2.2.1, y1, y2, y3, y4, z4.2.2.2.1, y5, z4.2.2.2.2.1, z4.2.2.2.2.2⟩
                          · exfalso; omega
                        · refine hK 325 _ [vI a, vI (leg * (n - 1) + r), vI c, vR 111 0] T1 ?_
                          refine j_blx (F := fX11) tb_X11 (nn_ _) bk_X11_plan_e_325 bs_X11_plan_e_325 hz (fun K hK => ?_)
                          refine And.intro (fun c8 => ?_) (fun c8 => ?_)
                          · exfalso; omega
                          · refine hK 339 _ [vI b, vI a, vI (leg * (n - 1) + r), vI c, vR 111 0] T1 ?_
                            refine j_blx (F := fX11) tb_X11 (nn_ _) bk_X11_plan_e_339 bs_X11_plan_e_339 hz (fun K hK => ?_)
                            refine hK 341 _ [vI (f + (leg * (n - 1) + r) * ev), vI b, vI a, vI (leg * (n - 1) + r), vI c, vR 111 0] T1 ?_
                            have e9 : T1 208 0 c = T 208 0 c := hf_201 208 0 c rfl
                            refine j_callV (y := yX11_addMatch) (Yc := zX11_addMatch) (rest := []) [vI c, vI (leg * (n - 1) + r), vI a, vI b, vI (f + (leg * (n - 1) + r) * ev)] (ct_X11_addMatch_e (T := T1) (by omega) (by omega) (by omega) (by (intro y1 y2; omega))) cl_X11_346 (qd_c (by decide +kernel)) (nn_ _) rfl (rf_of rfl) (Nat.le_of_ble_eq_true rfl) (Nat.le_of_ble_eq_true rfl) (Nat.le_of_ble_eq_true rfl) rfl ?_
                            rintro U10 _ ⟨rfl, fU10, qU10⟩
                            show J_ zX11_plan T (po_X11_plan_e T c f) 0 0 344 _ [] U10
                            refine j_blx (F := fX11) tb_X11 (nn_ _) bk_X11_plan_e_344 bs_X11_plan_e_344 hz (fun K hK => ?_)
                            refine rg_i (by omega) ?_
                            refine hK 201 [some (vR 111 0), some (vI c), some (vI f), some (vI n), some (vI lg), some (vI ev), some (vI leg), some (vI r), some (vI (leg * (n - 1) + r)), some (vI (f + (leg * (n - 1) + r) * ev)), some (vI (i + 1)), some (vI a), some (vI b), some (vI v), some (vI w)] [] U10 ?_
                            refine j_drop [some (vR 111 0), some (vI c), some (vI f), some (vI n), some (vI lg), some (vI ev), some (vI leg), some (vI r), some (vI (leg * (n - 1) + r)), some (vI (f + (leg * (n - 1) + r) * ev)), some (vI (i + 1)), none, none, none, none] (fun k v hk => ?_) rfl ?_
                            · match k, hk with
                              | 0, hk => exact hk
                              | 1, hk => exact hk
                              | 2, hk => exact hk
                              | 3, hk => exact hk
                              | 4, hk => exact hk
                              | 5, hk => exact hk
                              | 6, hk => exact hk
                              | 7, hk => exact hk
                              | 8, hk => exact hk
                              | 9, hk => exact hk
                              | 10, hk => exact hk
                              | 11, hk => cases hk
                              | 12, hk => cases hk
                              | 13, hk => cases hk
                              | 14, hk => cases hk
                              | k + 15, hk => cases hk
                            have e11 : U10 210 0 c = T1 210 0 c := fU10 210 0 c rfl
                            have e12 : U10 208 0 c = T 208 0 c := (fU10 208 0 c rfl).trans (hf_201 208 0 c rfl)
                            have e13 : U10 209 0 c = T1 209 0 c := fU10 209 0 c rfl
                            refine ih_201 _ ?_ (i + 1) U10 (Nat.le_refl _) ?_ ?_ ?_ ?_ ?_ ?_ ?_ ?_ ?_
                            · have hm_201 := hm_201 (); omega
                            · exact fr_t (fr_t (fr_0 _ _) (fr_s hf_201 rfl)) (fr_s fU10 rfl)
                            · omega
                            · omega
                            · omega
                            · omega
                            · exact fun z hz => ⟨(fU10 210 0 z rfl).trans (rs z hz).1, (fU10 209 0 z rfl).trans (rs z hz).2⟩
                            · rcases qU10 with ⟨-, -, z⟩ | ⟨-, -, -, z, -⟩
                              · rw [← z]; exact am
                              · exact am2_s am z
                            · exact (fU10 209 0 c rfl).trans pl
                            · have e8 : T1 208 0 c = T 208 0 c := hf_201 208 0 c rfl
                              have e7 : ∀ j, T1 207 0 j = T 207 0 j := fun j => hf_201 207 0 j rfl
                              have eh : hm9_ (n - 1) r (leg % 2) i = a ∧ aw9_ (n - 1) r (leg % 2) i = b := by rw [a2, b2]; exact hm9_a (by omega)
                              rw [show (i + 1).toNat = i.toNat + 1 by omega]
                              show AR9_ T U10 c (fa9_ (T 208 0 c) (leg * (n - 1) + r) (f + (leg * (n - 1) + r) * ev) (hm9_ (n - 1) r (leg % 2) (i.toNat : Int)) (aw9_ (n - 1) r (leg % 2) (i.toNat : Int)) (rl9_ (T 208 0 c) (n - 1) r (leg % 2) (leg * (n - 1) + r) (f + (leg * (n - 1) + r) * ev) i.toNat (ll9_ (T 208 0 c) (n - 1) leg f ev r.toNat (pl9_ (T 208 0 c) (n - 1) f ev leg.toNat))))
                              rw [show ((i.toNat : Nat) : Int) = i by omega, eh.1, eh.2]
                              rcases qU10 with ⟨z1, z2, z3⟩ | ⟨z1, z2, z3, z4, z5⟩
                              · rw [fa9_n (by omega), ← z3]
                                exact ar
                              · rw [fa9_y (by omega)]
                                obtain ⟨y1, y2, y3, y4, y5⟩ := z5
                                rw [e7] at y2 y3
                                exact ar9_s ar z3 z4.2.1 ⟨z4.2.2.1, y1, y2, y3, y4, z4.2.2.2.1, y5, z4.2.2.2.2.1, z4.2.2.2.2.2⟩
                      refine j_blx (F := fX11) tb_X11 (nn_ _) bk_X11_plan_e_290 bs_X11_plan_e_290 hz (fun K hK => ?_)
                      refine dv_i (by omega) ?_
                      refine And.intro (fun c14 => ?_) (fun c14 => ?_)
                      · refine hK 304 [some (vR 111 0), some (vI c), some (vI f), some (vI n), some (vI lg), some (vI ev), some (vI leg), some (vI r), some (vI (leg * (n - 1) + r)), some (vI (f + (leg * (n - 1) + r) * ev)), some (vI i), some (vI a), some (vI b), some (vI v), none] [] T1 ?_
                        refine j_blx (F := fX11) tb_X11 (nn_ _) bk_X11_plan_e_304 bs_X11_plan_e_304 hz (fun K hK => ?_)
                        refine hK 305 _ [vI 0] T1 ?_
                        refine c_305 0 ?_ ?_
                        · omega
                        · omega
                      · refine hK 305 _ [vI 1] T1 ?_
                        refine c_305 1 ?_ ?_
                        · omega
                        · omega
                    refine j_blx (F := fX11) tb_X11 (nn_ _) bk_X11_plan_e_254 bs_X11_plan_e_254 hz (fun K hK => ?_)
                    refine And.intro (fun c15 => ?_) (fun c15 => ?_)
                    · refine hK 277 [some (vR 111 0), some (vI c), some (vI f), some (vI n), some (vI lg), some (vI ev), some (vI leg), some (vI r), some (vI (leg * (n - 1) + r)), some (vI (f + (leg * (n - 1) + r) * ev)), some (vI i), some (vI a), some (vI b), none, none] [] T1 ?_
                      refine j_blx (F := fX11) tb_X11 (nn_ _) bk_X11_plan_e_277 bs_X11_plan_e_277 hz (fun K hK => ?_)
                      refine dv_i (by omega) ?_
                      refine And.intro (fun c16 => ?_) (fun c16 => ?_)
                      · refine hK 289 _ [] T1 ?_
                        refine j_blx (F := fX11) tb_X11 (nn_ _) bk_X11_plan_e_289 bs_X11_plan_e_289 hz (fun K hK => ?_)
                        refine hK 290 _ [vI 0] T1 ?_
                        refine c_290 0 ?_ ?_
                        · omega
                        · by_cases z9 : i = 0
                          · rw [z9, pq9_0]; omega
                          · rw [pq9_i z9]; omega
                      · refine hK 290 _ [vI 1] T1 ?_
                        refine c_290 1 ?_ ?_
                        · omega
                        · by_cases z9 : i = 0
                          · rw [z9, pq9_0]; omega
                          · rw [pq9_i z9]; omega
                    · refine dv_i (by omega) ?_
                      refine And.intro (fun c17 => ?_) (fun c17 => ?_)
                      · refine hK 273 _ [] T1 ?_
                        refine j_blx (F := fX11) tb_X11 (nn_ _) bk_X11_plan_e_273 bs_X11_plan_e_273 hz (fun K hK => ?_)
                        refine hK 290 _ [vI 0] T1 ?_
                        refine c_290 0 ?_ ?_
                        · omega
                        · by_cases z9 : i = 0
                          · rw [z9, pq9_0]; omega
                          · rw [pq9_i z9]; omega
                      · refine hK 290 _ [vI 1] T1 ?_
                        refine c_290 1 ?_ ?_
                        · omega
                        · by_cases z9 : i = 0
                          · rw [z9, pq9_0]; omega
                          · rw [pq9_i z9]; omega
                  refine j_blx (F := fX11) tb_X11 (nn_ _) bk_X11_plan_e_229 bs_X11_plan_e_229 hz (fun K hK => ?_)
                  refine And.intro (fun c18 => ?_) (fun c18 => ?_)
                  · refine hK 241 [some (vR 111 0), some (vI c), some (vI f), some (vI n), some (vI lg), some (vI ev), some (vI leg), some (vI r), some (vI (leg * (n - 1) + r)), some (vI (f + (leg * (n - 1) + r) * ev)), some (vI i), some (vI a), none, none, none] [] T1 ?_
                    refine j_blx (F := fX11) tb_X11 (nn_ _) bk_X11_plan_e_241 bs_X11_plan_e_241 hz (fun K hK => ?_)
                    refine rg_i (by omega) ?_
                    refine rg_i (by omega) ?_
                    refine rg_i (by omega) ?_
                    refine rg_i (by omega) ?_
                    refine dv_i (by omega) ?_
                    refine hK 254 _ [vI ((((r - i) + n) - 1) % (n - 1))] T1 ?_
                    refine c_254 ((((r - i) + n) - 1) % (n - 1)) ?_ ?_
                    · (have y := rm_r (x := ((r - i) + n) - 1) (y := n - 1) (by omega) (by omega)); omega
                    · rw [pb9_i (by omega), show r - i + (n - 1) = r - i + n - 1 by omega]
                  · refine hK 254 _ [vI r] T1 ?_
                    refine c_254 r ?_ ?_
                    · omega
                    · rw [show i = 0 by omega]; exact pb9_0.symm
                refine j_blx (F := fX11) tb_X11 (nn_ _) bk_X11_plan_e_201 bs_X11_plan_e_201 hz (fun K hK => ?_)
                refine dv_i (by omega) ?_
                refine And.intro (fun c19 => ?_) (fun c19 => ?_)
                · refine hK 350 _ [] T1 ?_
                  refine j_blx (F := fX11) tb_X11 (nn_ _) bk_X11_plan_e_350 bs_X11_plan_e_350 hz (fun K hK => ?_)
                  refine rg_i (by omega) ?_
                  refine hK 170 [some (vR 111 0), some (vI c), some (vI f), some (vI n), some (vI lg), some (vI ev), some (vI leg), some (vI (r + 1)), some (vI (leg * (n - 1) + r)), some (vI (f + (leg * (n - 1) + r) * ev)), some (vI i), none, none, none, none] [] T1 ?_
                  refine j_drop [some (vR 111 0), some (vI c), some (vI f), some (vI n), some (vI lg), some (vI ev), some (vI leg), some (vI (r + 1)), none, none, none, none, none, none, none] (fun k v hk => ?_) rfl ?_
                  · match k, hk with
                    | 0, hk => exact hk
                    | 1, hk => exact hk
                    | 2, hk => exact hk
                    | 3, hk => exact hk
                    | 4, hk => exact hk
                    | 5, hk => exact hk
                    | 6, hk => exact hk
                    | 7, hk => exact hk
                    | 8, hk => cases hk
                    | 9, hk => cases hk
                    | 10, hk => cases hk
                    | 11, hk => cases hk
                    | 12, hk => cases hk
                    | 13, hk => cases hk
                    | 14, hk => cases hk
                    | k + 15, hk => cases hk
                  have e20 : T1 208 0 c = T 208 0 c := hf_201 208 0 c rfl
                  refine ih_170 _ ?_ (r + 1) T1 (Nat.le_refl _) ?_ ?_ ?_ ?_ ?_ ?_ ?_ ?_ ?_
                  · have hm_170 := hm_170 (); omega
                  · exact fr_t (fr_0 _ _) (fr_s hf_201 rfl)
                  · omega
                  · omega
                  · omega
                  · omega
                  · exact rs
                  · exact am
                  · exact pl
                  · rw [show i = n / 2 by omega] at ar
                    rw [show (r + 1).toNat = r.toNat + 1 by omega]
                    show AR9_ T T1 c (rl9_ (T 208 0 c) (n - 1) (r.toNat : Int) (leg % 2) (leg * (n - 1) + (r.toNat : Int)) (f + (leg * (n - 1) + (r.toNat : Int)) * ev) ((n - 1 + 1) / 2).toNat (ll9_ (T 208 0 c) (n - 1) leg f ev r.toNat (pl9_ (T 208 0 c) (n - 1) f ev leg.toNat)))
                    rw [show ((r.toNat : Nat) : Int) = r by omega, show ((n - 1 + 1) / 2).toNat = (n / 2).toNat by omega]
                    exact ar
                · refine And.intro (fun c21 => ?_) (fun c21 => ?_)
                  · refine hK 220 [some (vR 111 0), some (vI c), some (vI f), some (vI n), some (vI lg), some (vI ev), some (vI leg), some (vI r), some (vI (leg * (n - 1) + r)), some (vI (f + (leg * (n - 1) + r) * ev)), some (vI i), none, none, none, none] [] T1 ?_
                    refine j_blx (F := fX11) tb_X11 (nn_ _) bk_X11_plan_e_220 bs_X11_plan_e_220 hz (fun K hK => ?_)
                    refine rg_i (by omega) ?_
                    refine rg_i (by omega) ?_
                    refine dv_i (by omega) ?_
                    refine hK 229 _ [vI ((r + i) % (n - 1))] T1 ?_
                    refine c_229 ((r + i) % (n - 1)) ?_ ?_ ?_
                    · omega
                    · (have y := rm_r (x := r + i) (y := n - 1) (by omega) (by omega)); omega
                    · exact (pa9_i (by omega)).symm
                  · refine rg_i (by omega) ?_
                    refine hK 229 _ [vI (n - 1)] T1 ?_
                    refine c_229 (n - 1) ?_ ?_ ?_
                    · omega
                    · omega
                    · rw [show i = 0 by omega]; exact pa9_0.symm
            refine j_blx (F := fX11) tb_X11 (nn_ _) bk_X11_plan_e_170 bs_X11_plan_e_170 hz (fun K hK => ?_)
            refine rg_i (by omega) ?_
            refine And.intro (fun c22 => ?_) (fun c22 => ?_)
            · refine hK 356 _ [] T1 ?_
              refine j_blx (F := fX11) tb_X11 (nn_ _) bk_X11_plan_e_356 bs_X11_plan_e_356 hz (fun K hK => ?_)
              refine rg_i (by omega) ?_
              refine hK 160 [some (vR 111 0), some (vI c), some (vI f), some (vI n), some (vI lg), some (vI ev), some (vI (leg + 1)), some (vI r), none, none, none, none, none, none, none] [] T1 ?_
              refine j_drop [some (vR 111 0), some (vI c), some (vI f), some (vI n), some (vI lg), some (vI ev), some (vI (leg + 1)), none, none, none, none, none, none, none, none] (fun k v hk => ?_) rfl ?_
              · match k, hk with
                | 0, hk => exact hk
                | 1, hk => exact hk
                | 2, hk => exact hk
                | 3, hk => exact hk
                | 4, hk => exact hk
                | 5, hk => exact hk
                | 6, hk => exact hk
                | 7, hk => cases hk
                | 8, hk => cases hk
                | 9, hk => cases hk
                | 10, hk => cases hk
                | 11, hk => cases hk
                | 12, hk => cases hk
                | 13, hk => cases hk
                | 14, hk => cases hk
                | k + 15, hk => cases hk
              have e23 : T1 208 0 c = T 208 0 c := hf_170 208 0 c rfl
              refine ih_160 _ ?_ (leg + 1) T1 (Nat.le_refl _) ?_ ?_ ?_ ?_ ?_ ?_ ?_ ?_
              · have hm_160 := hm_160 (); omega
              · exact fr_t (fr_0 _ _) (fr_s hf_170 rfl)
              · omega
              · (have z : r = n - 1 := by omega); subst z; rw [hm2]; exact r2
              · omega
              · exact rs
              · exact am
              · exact pl
              · rw [show r = n - 1 by omega] at ar
                rw [show (leg + 1).toNat = leg.toNat + 1 by omega]
                show AR9_ T T1 c (ll9_ (T 208 0 c) (n - 1) (leg.toNat : Int) f ev (n - 1).toNat (pl9_ (T 208 0 c) (n - 1) f ev leg.toNat))
                rw [show ((leg.toNat : Nat) : Int) = leg by omega]
                exact ar
            · refine rg_i (by omega) ?_
              refine rg_i (by omega) ?_
              refine rg_i (by omega) ?_
              refine rg_i (by (have z := mb_ (a := (leg * (n - 1) + r)) (b := ev) (A := 44) (B := 30) (by omega) (by omega) (by omega) (by omega)); omega) ?_
              refine rg_i (by (have z := mb_ (a := (leg * (n - 1) + r)) (b := ev) (A := 44) (B := 30) (by omega) (by omega) (by omega) (by omega)); omega) ?_
              refine hK 201 [some (vR 111 0), some (vI c), some (vI f), some (vI n), some (vI lg), some (vI ev), some (vI leg), some (vI r), some (vI ((leg * (n - 1)) + r)), some (vI (f + (((leg * (n - 1)) + r) * ev))), some (vI 0), none, none, none, none] [] T1 ?_
              have e24 : T1 208 0 c = T 208 0 c := hf_170 208 0 c rfl
              refine c_201 _ 0 T1 (Nat.le_refl _) ?_ ?_ ?_ ?_ ?_ ?_ ?_ ?_ ?_
              · exact fr_t (fr_0 _ _) (fr_s hf_170 rfl)
              · omega
              · omega
              · omega
              · omega
              · exact rs
              · exact am
              · exact pl
              · exact ar
        refine j_blx (F := fX11) tb_X11 (nn_ _) bk_X11_plan_e_160 bs_X11_plan_e_160 hz (fun K hK => ?_)
        refine And.intro (fun c25 => ?_) (fun c25 => ?_)
        · have zl2 : leg * (n - 1) * (n / 2 - T 208 0 c % 2) = lg * (n - 1) * (n / 2 - T 208 0 c % 2) := by rw [(by omega : leg = lg)]
          refine hK 362 _ [] T1 ?_
          refine j_blx (F := fX11) tb_X11 (nn_ _) bk_X11_plan_e_362 bs_X11_plan_e_362 hz (fun K hK => ?_)
          intro b26 b26b
          refine ix_i (by omega) ?_
          intro b27 b27b
          refine rg_i (by omega) ?_
          refine iy_i (by omega) (by omega) ?_
          refine x_nm (fun U28 hU28 => ?_)
          have e29 := up_f hU28
          refine ix_i (by omega) ?_
          intro b30 b30b
          have e31 : U28 210 0 c = T1 210 0 c := up_k hU28 (by exact Nat.ne_of_beq_eq_false rfl) 0 c
          rw [e31] at b30 b30b ⊢
          refine (show po_X11_plan_e T c f U28 (some (vI (T1 210 0 c))) from ?_)
          have e32 : U28 111 0 29 = T1 111 0 29 := up_k hU28 (by exact Nat.ne_of_beq_eq_false rfl) 0 29
          have e33 : U28 210 0 c = T1 210 0 c := up_k hU28 (by exact Nat.ne_of_beq_eq_false rfl) 0 c
          have e34 : U28 211 0 c = (T1 111 0 29) - (T1 210 0 c) := up_f hU28
          have el : leg = lg := by omega
          rw [el] at ar
          have ar5 := ar9_k (T2 := U28) ar (fun k j hk => up_k hU28 hk 0 j)
          rw [show (n - 1) = (T 208 0 c + T 208 0 c % 2) - 1 by omega, cr.1, cr.2] at ar5
          have p9 : U28 209 0 c = 1 := (up_k hU28 (by exact Nat.ne_of_beq_eq_false rfl) 0 c).trans pl
          have fe : f + (T 205 0 (23 * c + 6) * ((T 208 0 c + T 208 0 c % 2) - 1) - 1) * T 205 0 (23 * c + 7) ≤ 999 := by have z := cb; rw [cr.1, cr.2, show n = T 208 0 c + T 208 0 c % 2 by omega] at z; exact z
          have ge : T 111 0 29 + T 205 0 (23 * c + 6) * (T 208 0 c * (T 208 0 c - 1) / 2) ≤ 400 := by have z := cc; rw [cr.1] at z; exact z
          have am1 := am.1
          refine ⟨_, rfl, fr_u (fr_t (fr_0 _ _) (fr_s hf_160 rfl)) hU28 rfl, Or.inr ⟨by omega, by omega, ?_, by omega, by omega, by omega, fun z hz => ⟨?_, ?_, ?_⟩⟩, Or.inr ⟨by omega, by omega, pz.1, by omega, fe, ge, by omega, p9, ar5⟩⟩
          · have ek : ∀ k j, k ≠ 211 → U28 k 0 j = T1 k 0 j := fun k j hk => up_k hU28 hk 0 j
            exact ⟨by omega, fun j a => ⟨(ek 230 j (by decide)).trans (am.2.1 j a).1, (ek 231 j (by decide)).trans (am.2.1 j a).2.1, (ek 232 j (by decide)).trans (am.2.1 j a).2.2.1, (ek 233 j (by decide)).trans (am.2.1 j a).2.2.2.1, (ek 234 j (by decide)).trans (am.2.1 j a).2.2.2.2.1, (ek 235 j (by decide)).trans (am.2.1 j a).2.2.2.2.2.1, (ek 238 j (by decide)).trans (am.2.1 j a).2.2.2.2.2.2.1, (ek 253 j (by decide)).trans (am.2.1 j a).2.2.2.2.2.2.2.1, (ek 255 j (by decide)).trans (am.2.1 j a).2.2.2.2.2.2.2.2⟩, fun j a b => by rw [ek 230 j (by decide), ek 235 j (by decide), ek 253 j (by decide), ek 255 j (by decide)]; exact am.2.2.1 j a (by omega), fun j a => (ek 235 j (by decide)).trans (am.2.2.2 j (by omega))⟩
          · exact (up_k hU28 (by exact Nat.ne_of_beq_eq_false rfl) 0 z).trans (rs z hz).1
          · exact (up_g hU28 (fun q => hz q.2.2)).trans (hf_160 211 0 z rfl)
          · exact (up_k hU28 (by exact Nat.ne_of_beq_eq_false rfl) 0 z).trans (rs z hz).2
        · refine hK 170 [some (vR 111 0), some (vI c), some (vI f), some (vI n), some (vI lg), some (vI ev), some (vI leg), some (vI 0), none, none, none, none, none, none, none] [] T1 ?_
          have e35 : T1 208 0 c = T 208 0 c := hf_160 208 0 c rfl
          refine c_170 _ 0 T1 (Nat.le_refl _) ?_ ?_ ?_ ?_ ?_ ?_ ?_ ?_ ?_
          · exact fr_t (fr_0 _ _) (fr_s hf_160 rfl)
          · omega
          · omega
          · rw [Int.add_zero]; exact l2
          · omega
          · exact rs
          · exact am
          · exact pl
          · exact ar
    refine j_blx (F := fX11) tb_X11 (nn_ _) bk_X11_plan_e_140 bs_X11_plan_e_140 hz (fun K hK => ?_)
    refine iy_i (by omega) (by omega) ?_
    refine x_nm (fun U36 hU36 => ?_)
    have e37 := up_f hU36
    intro b38 b38b
    have e39 : U36 111 0 29 = T 111 0 29 := up_k hU36 (by exact Nat.ne_of_beq_eq_false rfl) 0 29
    rw [e39] at b38 b38b ⊢
    refine iy_i (by omega) (by omega) ?_
    refine x_nm (fun U40 hU40 => ?_)
    have e41 := up_f hU40
    refine hK 160 [some (vR 111 0), some (vI c), some (vI f), some (vI n), some (vI lg), some (vI ev), some (vI 0), none, none, none, none, none, none, none, none] [] U40 ?_
    have e42 : U40 111 0 29 = T 111 0 29 := (up_k hU40 (by exact Nat.ne_of_beq_eq_false rfl) 0 29).trans (up_k hU36 (by exact Nat.ne_of_beq_eq_false rfl) 0 29)
    have e43 : U40 210 0 c = T 111 0 29 := up_f hU40
    have e44 : U40 208 0 c = T 208 0 c := (up_k hU40 (by exact Nat.ne_of_beq_eq_false rfl) 0 c).trans (up_k hU36 (by exact Nat.ne_of_beq_eq_false rfl) 0 c)
    have e45 : U40 209 0 c = 1 := (up_k hU40 (by exact Nat.ne_of_beq_eq_false rfl) 0 c).trans (up_f hU36)
    refine c_160 _ 0 U40 (Nat.le_refl _) ?_ ?_ ?_ ?_ ?_ ?_ ?_ ?_
    · exact fr_u (fr_u (fr_0 _ _) hU36 rfl) hU40 rfl
    · omega
    · rw [Int.zero_mul, Int.zero_mul]; omega
    · omega
    · exact fun z hz => ⟨(up_g hU40 (fun q => hz q.2.2)).trans (up_k hU36 (by exact Nat.ne_of_beq_eq_false rfl) 0 z), (up_k hU40 (by exact Nat.ne_of_beq_eq_false rfl) 0 z).trans (up_g hU36 (fun q => hz q.2.2))⟩
    · exact ⟨by omega, fun j a => ⟨(up_k hU40 (by exact Nat.ne_of_beq_eq_false rfl) 0 j).trans (up_k hU36 (by exact Nat.ne_of_beq_eq_false rfl) 0 j), (up_k hU40 (by exact Nat.ne_of_beq_eq_false rfl) 0 j).trans (up_k hU36 (by exact Nat.ne_of_beq_eq_false rfl) 0 j), (up_k hU40 (by exact Nat.ne_of_beq_eq_false rfl) 0 j).trans (up_k hU36 (by exact Nat.ne_of_beq_eq_false rfl) 0 j), (up_k hU40 (by exact Nat.ne_of_beq_eq_false rfl) 0 j).trans (up_k hU36 (by exact Nat.ne_of_beq_eq_false rfl) 0 j), (up_k hU40 (by exact Nat.ne_of_beq_eq_false rfl) 0 j).trans (up_k hU36 (by exact Nat.ne_of_beq_eq_false rfl) 0 j), (up_k hU40 (by exact Nat.ne_of_beq_eq_false rfl) 0 j).trans (up_k hU36 (by exact Nat.ne_of_beq_eq_false rfl) 0 j), (up_k hU40 (by exact Nat.ne_of_beq_eq_false rfl) 0 j).trans (up_k hU36 (by exact Nat.ne_of_beq_eq_false rfl) 0 j), (up_k hU40 (by exact Nat.ne_of_beq_eq_false rfl) 0 j).trans (up_k hU36 (by exact Nat.ne_of_beq_eq_false rfl) 0 j), (up_k hU40 (by exact Nat.ne_of_beq_eq_false rfl) 0 j).trans (up_k hU36 (by exact Nat.ne_of_beq_eq_false rfl) 0 j)⟩, fun j a b => by omega, fun j _ => (up_k hU40 (by exact Nat.ne_of_beq_eq_false rfl) 0 j).trans (up_k hU36 (by exact Nat.ne_of_beq_eq_false rfl) 0 j)⟩
    · exact (up_k hU40 (by exact Nat.ne_of_beq_eq_false rfl) 0 c).trans (up_f hU36)
    · exact ar9_0 ((up_k hU40 (by exact Nat.ne_of_beq_eq_false rfl) 0 29).trans (up_k hU36 (by exact Nat.ne_of_beq_eq_false rfl) 0 29))
  refine j_blx (F := fX11) tb_X11 (nn_ _) bk_X11_plan_e_0 bs_X11_plan_e_0 hz (fun K hK => ?_)
  intro b46 b46b
  refine hK 5 _ [vI (T 111 0 6), vI c] T ?_
  refine j_callS (y := yX11_isOf) (Yc := zX11_isOf) (rest := []) [vI c, vI (T 111 0 6)] (ct_X11_isOf (T := T) (by omega)) cl_X11_317 (qd_c (by decide +kernel)) (nn_ _) rfl (rf_of rfl) (Nat.le_of_ble_eq_true rfl) (Nat.le_of_ble_eq_true rfl) (Nat.le_of_ble_eq_true rfl) rfl ?_
  rintro _ _ ⟨rfl, x47, rfl, hx47⟩
  show J_ zX11_plan T (po_X11_plan_e T c f) 0 0 8 _ [vI x47] T
  refine j_blx (F := fX11) tb_X11 (nn_ _) bk_X11_plan_e_8 bs_X11_plan_e_8 hz (fun K hK => ?_)
  refine And.intro (fun c48 => ?_) (fun c48 => ?_)
  · replace hx47 := hx47.resolve_right (fun z => c48 z.1)
    clear c48
    refine hK 14 _ [] T ?_
    refine j_blx (F := fX11) tb_X11 (nn_ _) bk_X11_plan_e_14 bs_X11_plan_e_14 hz (fun K hK => ?_)
    intro b49 b49b
    refine hK 22 _ [vI 999, vI (T 111 0 3), vI f] T ?_
    refine j_callS (y := yX11_in) (Yc := zX11_in) (rest := []) [vI f, vI (T 111 0 3), vI 999] (ct_X11_in (T := T)) cl_X11_255 (qd_c (by decide +kernel)) (nn_ _) rfl (rf_of rfl) (Nat.le_of_ble_eq_true rfl) (Nat.le_of_ble_eq_true rfl) (Nat.le_of_ble_eq_true rfl) rfl ?_
    rintro _ _ ⟨rfl, x50, rfl, hx50⟩
    show J_ zX11_plan T (po_X11_plan_e T c f) 0 0 25 _ [vI x50] T
    refine j_blx (F := fX11) tb_X11 (nn_ _) bk_X11_plan_e_25 bs_X11_plan_e_25 hz (fun K hK => ?_)
    refine And.intro (fun c51 => ?_) (fun c51 => ?_)
    · replace hx50 := hx50.resolve_right (fun z => c51 z.1)
      clear c51
      refine hK 31 _ [] T ?_
      refine j_blx (F := fX11) tb_X11 (nn_ _) bk_X11_plan_e_31 bs_X11_plan_e_31 hz (fun K hK => ?_)
      refine ix_i (by omega) ?_
      intro b52 b52b
      refine ix_i (by omega) ?_
      intro b53 b53b
      refine dv_i (by omega) ?_
      refine rg_i (by omega) ?_
      refine hK 51 [some (vR 111 0), some (vI c), some (vI f), some (vI ((T 208 0 c) + ((T 208 0 c) % 2))), none, none, none, none, none, none, none, none, none, none, none] [vI 6, vI c, vR 111 0] T ?_
      refine j_callV (y := yX11_rule0) (Yc := zX11_rule0) (rest := []) [vI c, vI 6] (ct_X11_rule0 (T := T) (by omega) (by omega)) cl_X11_321 (qd_c (by decide +kernel)) (nn_ _) rfl (rf_of rfl) (Nat.le_of_ble_eq_true rfl) (Nat.le_of_ble_eq_true rfl) (Nat.le_of_ble_eq_true rfl) rfl ?_
      rintro _ _ ⟨rfl, rfl⟩
      show J_ zX11_plan T (po_X11_plan_e T c f) 0 0 54 _ [vI (T 205 0 (23 * c + 6))] T
      have hr6 : (1 : Int) ≤ T 205 0 (23 * c + 6) ∧ T 205 0 (23 * c + 6) ≤ (4 : Int) := hRI c 6 (by omega) (by omega) (by omega) (by omega)
      have hr7 : (1 : Int) ≤ T 205 0 (23 * c + 7) ∧ T 205 0 (23 * c + 7) ≤ (30 : Int) := hRI c 7 (by omega) (by omega) (by omega) (by omega)
      refine j_blx (F := fX11) tb_X11 (nn_ _) bk_X11_plan_e_54 bs_X11_plan_e_54 hz (fun K hK => ?_)
      refine hK 60 [some (vR 111 0), some (vI c), some (vI f), some (vI ((T 208 0 c) + ((T 208 0 c) % 2))), some (vI (T 205 0 (23 * c + 6))), none, none, none, none, none, none, none, none, none, none] [vI 7, vI c, vR 111 0] T ?_
      refine j_callV (y := yX11_rule0) (Yc := zX11_rule0) (rest := []) [vI c, vI 7] (ct_X11_rule0 (T := T) (by omega) (by omega)) cl_X11_321 (qd_c (by decide +kernel)) (nn_ _) rfl (rf_of rfl) (Nat.le_of_ble_eq_true rfl) (Nat.le_of_ble_eq_true rfl) (Nat.le_of_ble_eq_true rfl) rfl ?_
      rintro _ _ ⟨rfl, rfl⟩
      show J_ zX11_plan T (po_X11_plan_e T c f) 0 0 63 _ [vI (T 205 0 (23 * c + 7))] T
      refine j_blx (F := fX11) tb_X11 (nn_ _) bk_X11_plan_e_63 bs_X11_plan_e_63 hz (fun K hK => ?_)
      refine ix_i (by omega) ?_
      intro b54 b54b
      refine And.intro (fun c55 => ?_) (fun c55 => ?_)
      · refine hK 103 [some (vR 111 0), some (vI c), some (vI f), some (vI ((T 208 0 c) + ((T 208 0 c) % 2))), some (vI (T 205 0 (23 * c + 6))), some (vI (T 205 0 (23 * c + 7))), none, none, none, none, none, none, none, none, none] [] T ?_
        refine j_blx (F := fX11) tb_X11 (nn_ _) bk_X11_plan_e_103 bs_X11_plan_e_103 hz (fun K hK => ?_)
        refine (show po_X11_plan_e T c f T (some (vI (-4))) from ?_)
        exact ⟨_, rfl, fr_0 _ _, Or.inl ⟨by omega, rfl⟩, Or.inl ⟨rfl, Or.inr (Or.inr (Or.inl ⟨by omega, by omega, rfl, by omega⟩))⟩⟩
      · refine ix_i (by omega) ?_
        intro b56 b56b
        refine And.intro (fun c57 => ?_) (fun c57 => ?_)
        · refine hK 103 _ [] T ?_
          refine j_blx (F := fX11) tb_X11 (nn_ _) bk_X11_plan_e_103 bs_X11_plan_e_103 hz (fun K hK => ?_)
          refine (show po_X11_plan_e T c f T (some (vI (-4))) from ?_)
          exact ⟨_, rfl, fr_0 _ _, Or.inl ⟨by omega, rfl⟩, Or.inl ⟨rfl, Or.inr (Or.inr (Or.inl ⟨by omega, by omega, rfl, by omega⟩))⟩⟩
        · refine rg_i (by omega) ?_
          refine rg_i (by (have z := mb_ (a := T 205 0 (23 * c + 6)) (b := T 208 0 c + T 208 0 c % 2 - 1) (A := 4) (B := 11) (by omega) (by omega) (by omega) (by omega)); omega) ?_
          refine rg_i (by (have z := mb_ (a := T 205 0 (23 * c + 6)) (b := T 208 0 c + T 208 0 c % 2 - 1) (A := 4) (B := 11) (by omega) (by omega) (by omega) (by omega)); omega) ?_
          refine rg_i (by (have y := mb_ (a := T 205 0 (23 * c + 6)) (b := T 208 0 c + T 208 0 c % 2 - 1) (A := 4) (B := 11) (by omega) (by omega) (by omega) (by omega)); (have y1 : 1 ≤ T 205 0 (23 * c + 6) * (T 208 0 c + T 208 0 c % 2 - 1) := Int.le_trans (by omega) (Int.mul_le_mul (a := 1) (b := 1) (by omega) (by omega) (by omega) (by omega))); (have z := mb_ (a := T 205 0 (23 * c + 6) * (T 208 0 c + T 208 0 c % 2 - 1) - 1) (b := T 205 0 (23 * c + 7)) (A := 43) (B := 30) (by omega) (by omega) (by omega) (by omega)); omega) ?_
          refine rg_i (by (have y := mb_ (a := T 205 0 (23 * c + 6)) (b := T 208 0 c + T 208 0 c % 2 - 1) (A := 4) (B := 11) (by omega) (by omega) (by omega) (by omega)); (have y1 : 1 ≤ T 205 0 (23 * c + 6) * (T 208 0 c + T 208 0 c % 2 - 1) := Int.le_trans (by omega) (Int.mul_le_mul (a := 1) (b := 1) (by omega) (by omega) (by omega) (by omega))); (have z := mb_ (a := T 205 0 (23 * c + 6) * (T 208 0 c + T 208 0 c % 2 - 1) - 1) (b := T 205 0 (23 * c + 7)) (A := 43) (B := 30) (by omega) (by omega) (by omega) (by omega)); omega) ?_
          refine And.intro (fun c58 => ?_) (fun c58 => ?_)
          · refine hK 106 _ [] T ?_
            refine j_blx (F := fX11) tb_X11 (nn_ _) bk_X11_plan_e_106 bs_X11_plan_e_106 hz (fun K hK => ?_)
            intro b59 b59b
            refine ix_i (by omega) ?_
            intro b60 b60b
            refine ix_i (by omega) ?_
            intro b61 b61b
            refine rg_i (by omega) ?_
            refine rg_i (by (have z := mb_ (a := T 208 0 c) (b := T 208 0 c - 1) (A := 12) (B := 11) (by omega) (by omega) (by omega) (by omega)); omega) ?_
            refine dv_i (by (have z := mb_ (a := T 208 0 c) (b := T 208 0 c - 1) (A := 12) (B := 11) (by omega) (by omega) (by omega) (by omega)); omega) ?_
            refine rg_i (by (have y := mb_ (a := T 208 0 c) (b := T 208 0 c - 1) (A := 12) (B := 11) (by omega) (by omega) (by omega) (by omega)); (have z := mb_ (a := T 205 0 (23 * c + 6)) (b := T 208 0 c * (T 208 0 c - 1) / 2) (A := 4) (B := 66) (by omega) (by omega) (by omega) (by omega)); omega) ?_
            refine rg_i (by (have y := mb_ (a := T 208 0 c) (b := T 208 0 c - 1) (A := 12) (B := 11) (by omega) (by omega) (by omega) (by omega)); (have z := mb_ (a := T 205 0 (23 * c + 6)) (b := T 208 0 c * (T 208 0 c - 1) / 2) (A := 4) (B := 66) (by omega) (by omega) (by omega) (by omega)); omega) ?_
            refine And.intro (fun c62 => ?_) (fun c62 => ?_)
            · refine hK 140 _ [] T ?_
              refine c_140 ((T 208 0 c) + ((T 208 0 c) % 2)) (T 205 0 (23 * c + 6)) (T 205 0 (23 * c + 7)) ?_ ?_ ?_ ?_ ?_
              · omega
              · omega
              · omega
              · omega
              · omega
            · refine (show po_X11_plan_e T c f T (some (vI (-5))) from ?_)
              exact ⟨_, rfl, fr_0 _ _, Or.inl ⟨by omega, rfl⟩, Or.inl ⟨rfl, Or.inr (Or.inr (Or.inr ⟨by omega, by omega, by omega, by omega, by omega, rfl, by omega⟩))⟩⟩
          · refine (show po_X11_plan_e T c f T (some (vI (-4))) from ?_)
            exact ⟨_, rfl, fr_0 _ _, Or.inl ⟨by omega, rfl⟩, Or.inl ⟨rfl, Or.inr (Or.inr (Or.inl ⟨by omega, by omega, rfl, by omega⟩))⟩⟩
    · replace hx50 := hx50.resolve_left (fun z => absurd (c51.symm.trans z.1) (by decide))
      clear c51
      refine (show po_X11_plan_e T c f T (some (vI (-3))) from ?_)
      exact ⟨_, rfl, fr_0 _ _, Or.inl ⟨by omega, rfl⟩, Or.inl ⟨rfl, Or.inr (Or.inl ⟨by omega, rfl, by omega⟩)⟩⟩
  · replace hx47 := hx47.resolve_left (fun z => absurd (c48.symm.trans z.1) (by decide))
    clear c48
    refine (show po_X11_plan_e T c f T (some (vI (-2))) from ?_)
    exact ⟨_, rfl, fr_0 _ _, Or.inl ⟨by omega, rfl⟩, Or.inl ⟨rfl, Or.inl ⟨rfl, by omega⟩⟩⟩
