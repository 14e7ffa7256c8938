theorem bk_X11_ball_e_265 : ck_ fX11 (some .int) cX11_ball 265 [.iload 10, .iload 9, .if_icmp .gt 291, .iinc 11 1, .iload 10, .aload 0, .iload 8, .iload 11] 282 = true := qck_r (nn_ _) (by decide +kernel)
theorem bs_X11_ball_e_265 {P : Zt → Option Zv → Prop} (K : Int → Zl → List Zv → Zt → Prop) : sx_ K P [.iload 10, .iload 9, .if_icmp .gt 291, .iinc 11 1, .iload 10, .aload 0, .iload 8, .iload 11] 282 = x_iload 10 (x_iload 9 (x_if_icmp .gt 291 K (x_iinc 11 1 (x_iload 10 (x_aload 0 (x_iload 8 (x_iload 11 (K 282)))))))) := ((xe_iload 10).trans (congrArg (x_iload 10) ((xe_iload 9).trans (congrArg (x_iload 9) ((xe_if_icmp .gt 291).trans (congrArg (x_if_icmp .gt 291 K) ((xe_iinc 11 1).trans (congrArg (x_iinc 11 1) ((xe_iload 10).trans (congrArg (x_iload 10) ((xe_aload 0).trans (congrArg (x_aload 0) ((xe_iload 8).trans (congrArg (x_iload 8) ((xe_iload 11).trans (congrArg (x_iload 11) xe_nil))))))))))))))))
theorem bk_X11_ball_e_291 : ck_ fX11 (some .int) cX11_ball 291 [.aload 0, .tableswitch 0 11 102 #[], .iload 8, .iload 11, .iastore, .iconst 8, .iload 8, .imul, .iload 11, .iadd, .ireturn] 309 = true := qck_r (nn_ _) (by decide +kernel)
theorem bs_X11_ball_e_291 {P : Zt → Option Zv → Prop} (K : Int → Zl → List Zv → Zt → Prop) : sx_ K P [.aload 0, .tableswitch 0 11 102 #[], .iload 8, .iload 11, .iastore, .iconst 8, .iload 8, .imul, .iload 11, .iadd, .ireturn] 309 = x_aload 0 (x_g1 111 302 (x_iload 8 (x_iload 11 (x_iastore (x_iconst 8 (x_iload 8 (x_imul (x_iload 11 (x_iadd (x_ireturn P)))))))))) := ((xe_aload 0).trans (congrArg (x_aload 0) ((xe_g1 (kk := 111) rfl tl_11_102).trans (congrArg (x_g1 111 302) ((xe_iload 8).trans (congrArg (x_iload 8) ((xe_iload 11).trans (congrArg (x_iload 11) ((xe_iastore).trans (congrArg (x_iastore) ((xe_iconst 8).trans (congrArg (x_iconst 8) ((xe_iload 8).trans (congrArg (x_iload 8) ((xe_imul).trans (congrArg (x_imul) ((xe_iload 11).trans (congrArg (x_iload 11) ((xe_iadd).trans (congrArg (x_iadd) (xe_ireturn)))))))))))))))))))))
theorem bk_X11_ball_e_285 : ck_ fX11 (some .int) cX11_ball 285 [.iadd, .istore 10, .goto 265] 291 = true := qck_r (nn_ _) (by decide +kernel)
theorem bs_X11_ball_e_285 {P : Zt → Option Zv → Prop} (K : Int → Zl → List Zv → Zt → Prop) : sx_ K P [.iadd, .istore 10, .goto 265] 291 = x_iadd (x_istore 10 (x_goto 265 K)) := ((xe_iadd).trans (congrArg (x_iadd) ((xe_istore 10).trans (congrArg (x_istore 10) (xe_goto 265)))))
theorem bk_X11_ball_e_196 : ck_ fX11 (some .int) cX11_ball 196 [.iload 9, .aload 0, .tableswitch 0 11 12 #[], .if_icmp .ge 251, .aload 0, .tableswitch 0 11 101 #[], .iload 9, .iaload, .iload 4, .if_icmp .ne 245, .aload 0, .tableswitch 0 11 102 #[], .iload 9, .iaload, .iconst (-1), .if_icmp .ne 245, .iload 7, .ifCond .ne 238, .iload 9, .goto 240] 238 = true := qck_r (nn_ _) (by decide +kernel)
theorem bs_X11_ball_e_196 {P : Zt → Option Zv → Prop} (K : Int → Zl → List Zv → Zt → Prop) : sx_ K P [.iload 9, .aload 0, .tableswitch 0 11 12 #[], .if_icmp .ge 251, .aload 0, .tableswitch 0 11 101 #[], .iload 9, .iaload, .iload 4, .if_icmp .ne 245, .aload 0, .tableswitch 0 11 102 #[], .iload 9, .iaload, .iconst (-1), .if_icmp .ne 245, .iload 7, .ifCond .ne 238, .iload 9, .goto 240] 238 = x_iload 9 (x_aload 0 (x_g0 111 12 0 12 (x_if_icmp .ge 251 K (x_aload 0 (x_g1 111 301 (x_iload 9 (x_iaload (x_iload 4 (x_if_icmp .ne 245 K (x_aload 0 (x_g1 111 302 (x_iload 9 (x_iaload (x_iconst (-1) (x_if_icmp .ne 245 K (x_iload 7 (x_ifCond .ne 238 K (x_iload 9 (x_goto 240 K))))))))))))))))))) := ((xe_iload 9).trans (congrArg (x_iload 9) ((xe_aload 0).trans (congrArg (x_aload 0) ((xe_g0 (kk := 111) rfl tl_11_12).trans (congrArg (x_g0 111 12 0 12) ((xe_if_icmp .ge 251).trans (congrArg (x_if_icmp .ge 251 K) ((xe_aload 0).trans (congrArg (x_aload 0) ((xe_g1 (kk := 111) rfl tl_11_101).trans (congrArg (x_g1 111 301) ((xe_iload 9).trans (congrArg (x_iload 9) ((xe_iaload).trans (congrArg (x_iaload) ((xe_iload 4).trans (congrArg (x_iload 4) ((xe_if_icmp .ne 245).trans (congrArg (x_if_icmp .ne 245 K) ((xe_aload 0).trans (congrArg (x_aload 0) ((xe_g1 (kk := 111) rfl tl_11_102).trans (congrArg (x_g1 111 302) ((xe_iload 9).trans (congrArg (x_iload 9) ((xe_iaload).trans (congrArg (x_iaload) ((xe_iconst (-1)).trans (congrArg (x_iconst (-1)) ((xe_if_icmp .ne 245).trans (congrArg (x_if_icmp .ne 245 K) ((xe_iload 7).trans (congrArg (x_iload 7) ((xe_ifCond .ne 238).trans (congrArg (x_ifCond .ne 238 K) ((xe_iload 9).trans (congrArg (x_iload 9) (xe_goto 240)))))))))))))))))))))))))))))))))))))))
theorem bk_X11_ball_e_251 : ck_ fX11 (some .int) cX11_ball 251 [.aload 0, .iload 5] 254 = true := qck_r (nn_ _) (by decide +kernel)
theorem bs_X11_ball_e_251 {P : Zt → Option Zv → Prop} (K : Int → Zl → List Zv → Zt → Prop) : sx_ K P [.aload 0, .iload 5] 254 = x_aload 0 (x_iload 5 (K 254)) := ((xe_aload 0).trans (congrArg (x_aload 0) ((xe_iload 5).trans (congrArg (x_iload 5) xe_nil))))
theorem bk_X11_ball_e_257 : ck_ fX11 (some .int) cX11_ball 257 [.istore 9, .iconst 0, .istore 10, .iconst (-1), .istore 11] 265 = true := qck_r (nn_ _) (by decide +kernel)
theorem bs_X11_ball_e_257 {P : Zt → Option Zv → Prop} (K : Int → Zl → List Zv → Zt → Prop) : sx_ K P [.istore 9, .iconst 0, .istore 10, .iconst (-1), .istore 11] 265 = x_istore 9 (x_iconst 0 (x_istore 10 (x_iconst (-1) (x_istore 11 (K 265))))) := ((xe_istore 9).trans (congrArg (x_istore 9) ((xe_iconst 0).trans (congrArg (x_iconst 0) ((xe_istore 10).trans (congrArg (x_istore 10) ((xe_iconst (-1)).trans (congrArg (x_iconst (-1)) ((xe_istore 11).trans (congrArg (x_istore 11) xe_nil))))))))))
theorem bk_X11_ball_e_245 : ck_ fX11 (some .int) cX11_ball 245 [.iinc 9 1, .goto 196] 251 = true := qck_r (nn_ _) (by decide +kernel)
theorem bs_X11_ball_e_245 {P : Zt → Option Zv → Prop} (K : Int → Zl → List Zv → Zt → Prop) : sx_ K P [.iinc 9 1, .goto 196] 251 = x_iinc 9 1 (x_goto 196 K) := ((xe_iinc 9 1).trans (congrArg (x_iinc 9 1) (xe_goto 196)))
theorem bk_X11_ball_e_238 : ck_ fX11 (some .int) cX11_ball 238 [.iload 8, .istore 8, .iinc 7 (-1), .iinc 9 1, .goto 196] 251 = true := qck_r (nn_ _) (by decide +kernel)
theorem bs_X11_ball_e_238 {P : Zt → Option Zv → Prop} (K : Int → Zl → List Zv → Zt → Prop) : sx_ K P [.iload 8, .istore 8, .iinc 7 (-1), .iinc 9 1, .goto 196] 251 = x_iload 8 (x_istore 8 (x_iinc 7 (-1) (x_iinc 9 1 (x_goto 196 K)))) := ((xe_iload 8).trans (congrArg (x_iload 8) ((xe_istore 8).trans (congrArg (x_istore 8) ((xe_iinc 7 (-1)).trans (congrArg (x_iinc 7 (-1)) ((xe_iinc 9 1).trans (congrArg (x_iinc 9 1) (xe_goto 196)))))))))
theorem bk_X11_ball_e_240 : ck_ fX11 (some .int) cX11_ball 240 [.istore 8, .iinc 7 (-1), .iinc 9 1, .goto 196] 251 = true := qck_r (nn_ _) (by decide +kernel)
theorem bs_X11_ball_e_240 {P : Zt → Option Zv → Prop} (K : Int → Zl → List Zv → Zt → Prop) : sx_ K P [.istore 8, .iinc 7 (-1), .iinc 9 1, .goto 196] 251 = x_istore 8 (x_iinc 7 (-1) (x_iinc 9 1 (x_goto 196 K))) := ((xe_istore 8).trans (congrArg (x_istore 8) ((xe_iinc 7 (-1)).trans (congrArg (x_iinc 7 (-1)) ((xe_iinc 9 1).trans (congrArg (x_iinc 9 1) (xe_goto 196)))))))
theorem bk_X11_ball_e_134 : ck_ fX11 (some .int) cX11_ball 134 [.iload 7, .aload 0, .tableswitch 0 11 12 #[], .if_icmp .ge 182, .iload 6, .aload 0, .tableswitch 0 11 101 #[], .iload 7, .iaload, .iload 4, .if_icmp .ne 172, .aload 0, .tableswitch 0 11 102 #[], .iload 7, .iaload, .iconst (-1), .if_icmp .ne 172, .iconst 1, .goto 173] 172 = true := qck_r (nn_ _) (by decide +kernel)
theorem bs_X11_ball_e_134 {P : Zt → Option Zv → Prop} (K : Int → Zl → List Zv → Zt → Prop) : sx_ K P [.iload 7, .aload 0, .tableswitch 0 11 12 #[], .if_icmp .ge 182, .iload 6, .aload 0, .tableswitch 0 11 101 #[], .iload 7, .iaload, .iload 4, .if_icmp .ne 172, .aload 0, .tableswitch 0 11 102 #[], .iload 7, .iaload, .iconst (-1), .if_icmp .ne 172, .iconst 1, .goto 173] 172 = x_iload 7 (x_aload 0 (x_g0 111 12 0 12 (x_if_icmp .ge 182 K (x_iload 6 (x_aload 0 (x_g1 111 301 (x_iload 7 (x_iaload (x_iload 4 (x_if_icmp .ne 172 K (x_aload 0 (x_g1 111 302 (x_iload 7 (x_iaload (x_iconst (-1) (x_if_icmp .ne 172 K (x_iconst 1 (x_goto 173 K)))))))))))))))))) := ((xe_iload 7).trans (congrArg (x_iload 7) ((xe_aload 0).trans (congrArg (x_aload 0) ((xe_g0 (kk := 111) rfl tl_11_12).trans (congrArg (x_g0 111 12 0 12) ((xe_if_icmp .ge 182).trans (congrArg (x_if_icmp .ge 182 K) ((xe_iload 6).trans (congrArg (x_iload 6) ((xe_aload 0).trans (congrArg (x_aload 0) ((xe_g1 (kk := 111) rfl tl_11_101).trans (congrArg (x_g1 111 301) ((xe_iload 7).trans (congrArg (x_iload 7) ((xe_iaload).trans (congrArg (x_iaload) ((xe_iload 4).trans (congrArg (x_iload 4) ((xe_if_icmp .ne 172).trans (congrArg (x_if_icmp .ne 172 K) ((xe_aload 0).trans (congrArg (x_aload 0) ((xe_g1 (kk := 111) rfl tl_11_102).trans (congrArg (x_g1 111 302) ((xe_iload 7).trans (congrArg (x_iload 7) ((xe_iaload).trans (congrArg (x_iaload) ((xe_iconst (-1)).trans (congrArg (x_iconst (-1)) ((xe_if_icmp .ne 172).trans (congrArg (x_if_icmp .ne 172 K) ((xe_iconst 1).trans (congrArg (x_iconst 1) (xe_goto 173)))))))))))))))))))))))))))))))))))))
theorem bk_X11_ball_e_182 : ck_ fX11 (some .int) cX11_ball 182 [.aload 0, .iload 6] 185 = true := qck_r (nn_ _) (by decide +kernel)
theorem bs_X11_ball_e_182 {P : Zt → Option Zv → Prop} (K : Int → Zl → List Zv → Zt → Prop) : sx_ K P [.aload 0, .iload 6] 185 = x_aload 0 (x_iload 6 (K 185)) := ((xe_aload 0).trans (congrArg (x_aload 0) ((xe_iload 6).trans (congrArg (x_iload 6) xe_nil))))
theorem bk_X11_ball_e_188 : ck_ fX11 (some .int) cX11_ball 188 [.istore 7, .iconst (-1), .istore 8, .iconst 0, .istore 9] 196 = true := qck_r (nn_ _) (by decide +kernel)
theorem bs_X11_ball_e_188 {P : Zt → Option Zv → Prop} (K : Int → Zl → List Zv → Zt → Prop) : sx_ K P [.istore 7, .iconst (-1), .istore 8, .iconst 0, .istore 9] 196 = x_istore 7 (x_iconst (-1) (x_istore 8 (x_iconst 0 (x_istore 9 (K 196))))) := ((xe_istore 7).trans (congrArg (x_istore 7) ((xe_iconst (-1)).trans (congrArg (x_iconst (-1)) ((xe_istore 8).trans (congrArg (x_istore 8) ((xe_iconst 0).trans (congrArg (x_iconst 0) ((xe_istore 9).trans (congrArg (x_istore 9) xe_nil))))))))))
theorem bk_X11_ball_e_172 : ck_ fX11 (some .int) cX11_ball 172 [.iconst 0, .iadd, .istore 6, .iinc 7 1, .goto 134] 182 = true := qck_r (nn_ _) (by decide +kernel)
theorem bs_X11_ball_e_172 {P : Zt → Option Zv → Prop} (K : Int → Zl → List Zv → Zt → Prop) : sx_ K P [.iconst 0, .iadd, .istore 6, .iinc 7 1, .goto 134] 182 = x_iconst 0 (x_iadd (x_istore 6 (x_iinc 7 1 (x_goto 134 K)))) := ((xe_iconst 0).trans (congrArg (x_iconst 0) ((xe_iadd).trans (congrArg (x_iadd) ((xe_istore 6).trans (congrArg (x_istore 6) ((xe_iinc 7 1).trans (congrArg (x_iinc 7 1) (xe_goto 134)))))))))
theorem bk_X11_ball_e_173 : ck_ fX11 (some .int) cX11_ball 173 [.iadd, .istore 6, .iinc 7 1, .goto 134] 182 = true := qck_r (nn_ _) (by decide +kernel)
theorem bs_X11_ball_e_173 {P : Zt → Option Zv → Prop} (K : Int → Zl → List Zv → Zt → Prop) : sx_ K P [.iadd, .istore 6, .iinc 7 1, .goto 134] 182 = x_iadd (x_istore 6 (x_iinc 7 1 (x_goto 134 K))) := ((xe_iadd).trans (congrArg (x_iadd) ((xe_istore 6).trans (congrArg (x_istore 6) ((xe_iinc 7 1).trans (congrArg (x_iinc 7 1) (xe_goto 134)))))))
theorem bk_X11_ball_e_8 : ck_ fX11 (some .int) cX11_ball 8 [.iload 5, .aload 0, .tableswitch 0 11 12 #[], .if_icmp .ge 81, .aload 0, .tableswitch 0 11 98 #[], .ifCond .eq 81, .aload 0, .tableswitch 0 11 101 #[], .iload 5, .iaload, .iconst (-1), .if_icmp .eq 75, .aload 0, .tableswitch 0 11 102 #[], .iload 5, .iaload, .iconst (-1), .if_icmp .ne 75, .aload 0, .tableswitch 0 11 101 #[], .iload 5, .iaload, .iload 4, .if_icmp .ge 68, .aload 0, .tableswitch 0 11 101 #[], .iload 5, .iaload, .goto 70] 68 = true := qck_r (nn_ _) (by decide +kernel)
theorem bs_X11_ball_e_8 {P : Zt → Option Zv → Prop} (K : Int → Zl → List Zv → Zt → Prop) : sx_ K P [.iload 5, .aload 0, .tableswitch 0 11 12 #[], .if_icmp .ge 81, .aload 0, .tableswitch 0 11 98 #[], .ifCond .eq 81, .aload 0, .tableswitch 0 11 101 #[], .iload 5, .iaload, .iconst (-1), .if_icmp .eq 75, .aload 0, .tableswitch 0 11 102 #[], .iload 5, .iaload, .iconst (-1), .if_icmp .ne 75, .aload 0, .tableswitch 0 11 101 #[], .iload 5, .iaload, .iload 4, .if_icmp .ge 68, .aload 0, .tableswitch 0 11 101 #[], .iload 5, .iaload, .goto 70] 68 = x_iload 5 (x_aload 0 (x_g0 111 12 0 12 (x_if_icmp .ge 81 K (x_aload 0 (x_g0 111 98 0 1 (x_ifCond .eq 81 K (x_aload 0 (x_g1 111 301 (x_iload 5 (x_iaload (x_iconst (-1) (x_if_icmp .eq 75 K (x_aload 0 (x_g1 111 302 (x_iload 5 (x_iaload (x_iconst (-1) (x_if_icmp .ne 75 K (x_aload 0 (x_g1 111 301 (x_iload 5 (x_iaload (x_iload 4 (x_if_icmp .ge 68 K (x_aload 0 (x_g1 111 301 (x_iload 5 (x_iaload (x_goto 70 K))))))))))))))))))))))))))))) := ((xe_iload 5).trans (congrArg (x_iload 5) ((xe_aload 0).trans (congrArg (x_aload 0) ((xe_g0 (kk := 111) rfl tl_11_12).trans (congrArg (x_g0 111 12 0 12) ((xe_if_icmp .ge 81).trans (congrArg (x_if_icmp .ge 81 K) ((xe_aload 0).trans (congrArg (x_aload 0) ((xe_g0 (kk := 111) rfl tl_11_98).trans (congrArg (x_g0 111 98 0 1) ((xe_ifCond .eq 81).trans (congrArg (x_ifCond .eq 81 K) ((xe_aload 0).trans (congrArg (x_aload 0) ((xe_g1 (kk := 111) rfl tl_11_101).trans (congrArg (x_g1 111 301) ((xe_iload 5).trans (congrArg (x_iload 5) ((xe_iaload).trans (congrArg (x_iaload) ((xe_iconst (-1)).trans (congrArg (x_iconst (-1)) ((xe_if_icmp .eq 75).trans (congrArg (x_if_icmp .eq 75 K) ((xe_aload 0).trans (congrArg (x_aload 0) ((xe_g1 (kk := 111) rfl tl_11_102).trans (congrArg (x_g1 111 302) ((xe_iload 5).trans (congrArg (x_iload 5) ((xe_iaload).trans (congrArg (x_iaload) ((xe_iconst (-1)).trans (congrArg (x_iconst (-1)) ((xe_if_icmp .ne 75).trans (congrArg (x_if_icmp .ne 75 K) ((xe_aload 0).trans (congrArg (x_aload 0) ((xe_g1 (kk := 111) rfl tl_11_101).trans (congrArg (x_g1 111 301) ((xe_iload 5).trans (congrArg (x_iload 5) ((xe_iaload).trans (congrArg (x_iaload) ((xe_iload 4).trans (congrArg (x_iload 4) ((xe_if_icmp .ge 68).trans (congrArg (x_if_icmp .ge 68 K) ((xe_aload 0).trans (congrArg (x_aload 0) ((xe_g1 (kk := 111) rfl tl_11_101).trans (congrArg (x_g1 111 301) ((xe_iload 5).trans (congrArg (x_iload 5) ((xe_iaload).trans (congrArg (x_iaload) (xe_goto 70)))))))))))))))))))))))))))))))))))))))))))))))))))))))))))
theorem bk_X11_ball_e_81 : ck_ fX11 (some .int) cX11_ball 81 [.aload 0, .tableswitch 0 11 98 #[], .ifCond .eq 101, .iload 3, .ifCond .le 101, .aload 0, .iconst (-1), .iconst (-1)] 95 = true := qck_r (nn_ _) (by decide +kernel)
theorem bs_X11_ball_e_81 {P : Zt → Option Zv → Prop} (K : Int → Zl → List Zv → Zt → Prop) : sx_ K P [.aload 0, .tableswitch 0 11 98 #[], .ifCond .eq 101, .iload 3, .ifCond .le 101, .aload 0, .iconst (-1), .iconst (-1)] 95 = x_aload 0 (x_g0 111 98 0 1 (x_ifCond .eq 101 K (x_iload 3 (x_ifCond .le 101 K (x_aload 0 (x_iconst (-1) (x_iconst (-1) (K 95)))))))) := ((xe_aload 0).trans (congrArg (x_aload 0) ((xe_g0 (kk := 111) rfl tl_11_98).trans (congrArg (x_g0 111 98 0 1) ((xe_ifCond .eq 101).trans (congrArg (x_ifCond .eq 101 K) ((xe_iload 3).trans (congrArg (x_iload 3) ((xe_ifCond .le 101).trans (congrArg (x_ifCond .le 101 K) ((xe_aload 0).trans (congrArg (x_aload 0) ((xe_iconst (-1)).trans (congrArg (x_iconst (-1)) ((xe_iconst (-1)).trans (congrArg (x_iconst (-1)) xe_nil))))))))))))))))
theorem bk_X11_ball_e_101 : ck_ fX11 (some .int) cX11_ball 101 [.iconst 0, .istore 5, .iload 5, .ifCond .ne 112, .iconst (-4), .ireturn] 112 = true := qck_r (nn_ _) (by decide +kernel)
theorem bs_X11_ball_e_101 {P : Zt → Option Zv → Prop} (K : Int → Zl → List Zv → Zt → Prop) : sx_ K P [.iconst 0, .istore 5, .iload 5, .ifCond .ne 112, .iconst (-4), .ireturn] 112 = x_iconst 0 (x_istore 5 (x_iload 5 (x_ifCond .ne 112 K (x_iconst (-4) (x_ireturn P))))) := ((xe_iconst 0).trans (congrArg (x_iconst 0) ((xe_istore 5).trans (congrArg (x_istore 5) ((xe_iload 5).trans (congrArg (x_iload 5) ((xe_ifCond .ne 112).trans (congrArg (x_ifCond .ne 112 K) ((xe_iconst (-4)).trans (congrArg (x_iconst (-4)) (xe_ireturn)))))))))))
theorem bk_X11_ball_e_98 : ck_ fX11 (some .int) cX11_ball 98 [.goto 102] 101 = true := qck_r (nn_ _) (by decide +kernel)
theorem bs_X11_ball_e_98 {P : Zt → Option Zv → Prop} (K : Int → Zl → List Zv → Zt → Prop) : sx_ K P [.goto 102] 101 = x_goto 102 K := (xe_goto 102)
theorem bk_X11_ball_e_102 : ck_ fX11 (some .int) cX11_ball 102 [.istore 5, .iload 5, .ifCond .ne 112, .iconst (-4), .ireturn] 112 = true := qck_r (nn_ _) (by decide +kernel)
theorem bs_X11_ball_e_102 {P : Zt → Option Zv → Prop} (K : Int → Zl → List Zv → Zt → Prop) : sx_ K P [.istore 5, .iload 5, .ifCond .ne 112, .iconst (-4), .ireturn] 112 = x_istore 5 (x_iload 5 (x_ifCond .ne 112 K (x_iconst (-4) (x_ireturn P)))) := ((xe_istore 5).trans (congrArg (x_istore 5) ((xe_iload 5).trans (congrArg (x_iload 5) ((xe_ifCond .ne 112).trans (congrArg (x_ifCond .ne 112 K) ((xe_iconst (-4)).trans (congrArg (x_iconst (-4)) (xe_ireturn)))))))))
theorem bk_X11_ball_e_112 : ck_ fX11 (some .int) cX11_ball 112 [.aload 0, .iload 2, .ifCond .eq 121, .iload 1, .goto 125] 121 = true := qck_r (nn_ _) (by decide +kernel)
theorem bs_X11_ball_e_112 {P : Zt → Option Zv → Prop} (K : Int → Zl → List Zv → Zt → Prop) : sx_ K P [.aload 0, .iload 2, .ifCond .eq 121, .iload 1, .goto 125] 121 = x_aload 0 (x_iload 2 (x_ifCond .eq 121 K (x_iload 1 (x_goto 125 K)))) := ((xe_aload 0).trans (congrArg (x_aload 0) ((xe_iload 2).trans (congrArg (x_iload 2) ((xe_ifCond .eq 121).trans (congrArg (x_ifCond .eq 121 K) ((xe_iload 1).trans (congrArg (x_iload 1) (xe_goto 125)))))))))
theorem bk_X11_ball_e_121 : ck_ fX11 (some .int) cX11_ball 121 [.aload 0, .tableswitch 0 11 103 #[], .tableswitch 1 11 103 #[], .iconst 0, .istore 6, .iconst 0, .istore 7] 134 = true := qck_r (nn_ _) (by decide +kernel)
theorem bs_X11_ball_e_121 {P : Zt → Option Zv → Prop} (K : Int → Zl → List Zv → Zt → Prop) : sx_ K P [.aload 0, .tableswitch 0 11 103 #[], .tableswitch 1 11 103 #[], .iconst 0, .istore 6, .iconst 0, .istore 7] 134 = x_aload 0 (x_g0 111 103 (-2147483648) 2147483647 (x_p 111 103 (-2147483648) 2147483647 (x_iconst 0 (x_istore 6 (x_iconst 0 (x_istore 7 (K 134))))))) := ((xe_aload 0).trans (congrArg (x_aload 0) ((xe_g0 (kk := 111) rfl tl_11_103).trans (congrArg (x_g0 111 103 (-2147483648) 2147483647) ((xe_p (kk := 111) rfl tl_11_103).trans (congrArg (x_p 111 103 (-2147483648) 2147483647) ((xe_iconst 0).trans (congrArg (x_iconst 0) ((xe_istore 6).trans (congrArg (x_istore 6) ((xe_iconst 0).trans (congrArg (x_iconst 0) ((xe_istore 7).trans (congrArg (x_istore 7) xe_nil))))))))))))))
theorem bk_X11_ball_e_125 : ck_ fX11 (some .int) cX11_ball 125 [.tableswitch 1 11 103 #[], .iconst 0, .istore 6, .iconst 0, .istore 7] 134 = true := qck_r (nn_ _) (by decide +kernel)
theorem bs_X11_ball_e_125 {P : Zt → Option Zv → Prop} (K : Int → Zl → List Zv → Zt → Prop) : sx_ K P [.tableswitch 1 11 103 #[], .iconst 0, .istore 6, .iconst 0, .istore 7] 134 = x_p 111 103 (-2147483648) 2147483647 (x_iconst 0 (x_istore 6 (x_iconst 0 (x_istore 7 (K 134))))) := ((xe_p (kk := 111) rfl tl_11_103).trans (congrArg (x_p 111 103 (-2147483648) 2147483647) ((xe_iconst 0).trans (congrArg (x_iconst 0) ((xe_istore 6).trans (congrArg (x_istore 6) ((xe_iconst 0).trans (congrArg (x_iconst 0) ((xe_istore 7).trans (congrArg (x_istore 7) xe_nil))))))))))
theorem bk_X11_ball_e_75 : ck_ fX11 (some .int) cX11_ball 75 [.iinc 5 1, .goto 8] 81 = true := qck_r (nn_ _) (by decide +kernel)
theorem bs_X11_ball_e_75 {P : Zt → Option Zv → Prop} (K : Int → Zl → List Zv → Zt → Prop) : sx_ K P [.iinc 5 1, .goto 8] 81 = x_iinc 5 1 (x_goto 8 K) := ((xe_iinc 5 1).trans (congrArg (x_iinc 5 1) (xe_goto 8)))
theorem bk_X11_ball_e_68 : ck_ fX11 (some .int) cX11_ball 68 [.iload 4, .istore 4, .iinc 3 1, .iinc 5 1, .goto 8] 81 = true := qck_r (nn_ _) (by decide +kernel)
theorem bs_X11_ball_e_68 {P : Zt → Option Zv → Prop} (K : Int → Zl → List Zv → Zt → Prop) : sx_ K P [.iload 4, .istore 4, .iinc 3 1, .iinc 5 1, .goto 8] 81 = x_iload 4 (x_istore 4 (x_iinc 3 1 (x_iinc 5 1 (x_goto 8 K)))) := ((xe_iload 4).trans (congrArg (x_iload 4) ((xe_istore 4).trans (congrArg (x_istore 4) ((xe_iinc 3 1).trans (congrArg (x_iinc 3 1) ((xe_iinc 5 1).trans (congrArg (x_iinc 5 1) (xe_goto 8)))))))))
theorem bk_X11_ball_e_70 : ck_ fX11 (some .int) cX11_ball 70 [.istore 4, .iinc 3 1, .iinc 5 1, .goto 8] 81 = true := qck_r (nn_ _) (by decide +kernel)
theorem bs_X11_ball_e_70 {P : Zt → Option Zv → Prop} (K : Int → Zl → List Zv → Zt → Prop) : sx_ K P [.istore 4, .iinc 3 1, .iinc 5 1, .goto 8] 81 = x_istore 4 (x_iinc 3 1 (x_iinc 5 1 (x_goto 8 K))) := ((xe_istore 4).trans (congrArg (x_istore 4) ((xe_iinc 3 1).trans (congrArg (x_iinc 3 1) ((xe_iinc 5 1).trans (congrArg (x_iinc 5 1) (xe_goto 8)))))))
theorem bk_X11_ball_e_0 : ck_ fX11 (some .int) cX11_ball 0 [.iconst 0, .istore 3, .iconst 3, .istore 4, .iconst 0, .istore 5] 8 = true := qck_r (nn_ _) (by decide +kernel)
theorem bs_X11_ball_e_0 {P : Zt → Option Zv → Prop} (K : Int → Zl → List Zv → Zt → Prop) : sx_ K P [.iconst 0, .istore 3, .iconst 3, .istore 4, .iconst 0, .istore 5] 8 = x_iconst 0 (x_istore 3 (x_iconst 3 (x_istore 4 (x_iconst 0 (x_istore 5 (K 8)))))) := ((xe_iconst 0).trans (congrArg (x_iconst 0) ((xe_istore 3).trans (congrArg (x_istore 3) ((xe_iconst 3).trans (congrArg (x_iconst 3) ((xe_istore 4).trans (congrArg (x_istore 4) ((xe_iconst 0).trans (congrArg (x_iconst 0) ((xe_istore 5).trans (congrArg (x_istore 5) xe_nil))))))))))))
abbrev po_X11_ball_e (T : Zt) (ta fi : Int) : Zt → Option Zv → Prop := fun T' r => ∃ x : Int, r = some (vI x) ∧ fr_ [(304, []), (305, []), (302, []), (111, [103])] T T' ∧ (x = x ∧ BLR_ T T' ta fi x)
set_option maxHeartbeats 4000000 in
theorem ct_X11_ball_e {T : Zt} {ta fi : Int} : Ct_ yX11_ball zX11_ball T [vR 111 0, vI ta, vI fi] (po_X11_ball_e T ta fi) := by
  refine ct_of pn_11 rfl rfl (Nat.le_of_ble_eq_true rfl) (fun hT hav => ?_)
  have hr_ta : -2147483648 ≤ ta ∧ ta ≤ 2147483647 := hav (vI ta) (List.mem_cons_of_mem _ List.mem_cons_self)
  have hr_fi : -2147483648 ≤ fi ∧ fi ≤ 2147483647 := hav (vI fi) (List.mem_cons_of_mem _ (List.mem_cons_of_mem _ List.mem_cons_self))
  have hz : zX11_ball.2.2.2.1 = some .boolean → ∀ (T' : Zt) (x : Int), po_X11_ball_e T ta fi T' (some (vI x)) → 0 ≤ x ∧ x ≤ 1 := fun h => by cases h
  have hb_12 : 0 ≤ T 111 0 12 ∧ T 111 0 12 ≤ 12 := bd_f hT 111 12 tl_11_12 0
  have hb_99 : 0 ≤ T 111 0 99 ∧ T 111 0 99 ≤ 4 := bd_f hT 111 99 tl_11_99 0
  show J_ zX11_ball T (po_X11_ball_e T ta fi) 0 0 0 [some (vR 111 0), some (vI ta), some (vI fi), none, none, none, none, none, none, none, none, none] [] T
  have c_265 : ∀ (nn : Nat) (pt : Int) (al : Int) (cl : Int) (tk : Int) (sm : Int) (g : Int) (s0 : Int) (T3 : Zt), ((3 - g).toNat) ≤ nn → (fr_ [(304, []), (305, []), (302, []), (111, [103])] T T3) → (al = BR0_ T ∧ 1 ≤ al ∧ al ≤ 13824) → (EL_ T pt (T 111 0 12) ∧ LP9_ T pt (T 111 0 12) ∧ T 111 0 98 ≠ 0) → (∀ k, T3 302 0 k = T 302 0 k) → (-1 ≤ g ∧ g ≤ 3 ∧ 0 ≤ tk ∧ tk < al ∧ 0 ≤ cl ∧ cl < T 111 0 12 ∧ T 301 0 cl = pt ∧ T 302 0 cl = -1 ∧ 0 ≤ pt ∧ pt ≤ 2 ∧ 0 ≤ sm ∧ sm ≤ tk + 13824) → (sm = sgm_ T cl g ∧ (g = -1 ∨ sgm_ T cl (g - 1) ≤ tk) ∧ 0 = (0 : Int)) → (((fi = 0 ∧ s0 = (T 111 0 103)) ∨ (fi ≠ 0 ∧ s0 = ta)) ∧ cel_ T pt cl = (tb9_ (cel_ T pt (T 111 0 12)) s0).1 ∧ tk = (tb9_ (BR0_ T) (tb9_ (cel_ T pt (T 111 0 12)) s0).2).1 ∧ T3 111 0 103 = (tb9_ (BR0_ T) (tb9_ (cel_ T pt (T 111 0 12)) s0).2).2) → J_ zX11_ball T (po_X11_ball_e T ta fi) 0 0 265 [some (vR 111 0), some (vI ta), some (vI fi), none, some (vI pt), some (vI al), none, none, some (vI cl), some (vI tk), some (vI sm), some (vI g)] [] T3 := by
    intro nn
    induction nn using Nat.strongRecOn with
    | _ nn ih_265 =>
      intro pt al cl tk sm g s0 T3 hm_265 hf_265 al1 el go3 i3 sg sd3
      replace hm_265 := fun (_ : Unit) => hm_265
      refine j_blx (F := fX11) tb_X11 (nn_ _) bk_X11_ball_e_265 bs_X11_ball_e_265 hz (fun K hK => ?_)
      refine And.intro (fun c1 => ?_) (fun c1 => ?_)
      · refine hK 291 _ [] T3 ?_
        refine j_blx (F := fX11) tb_X11 (nn_ _) bk_X11_ball_e_291 bs_X11_ball_e_291 hz (fun K hK => ?_)
        refine iy_i (by omega) (by omega) ?_
        refine x_nm (fun U2 hU2 => ?_)
        have e3 := up_f hU2
        refine rg_i (by omega) ?_
        refine rg_i (by omega) ?_
        refine (show po_X11_ball_e T ta fi U2 (some (vI ((8 * cl) + g))) from ?_)
        have hg0 : g ≠ -1 := fun z => by have y := sg.1; rw [z, sgm_0] at y; omega
        exact ⟨_, rfl, fr_u (fr_t (fr_0 _ _) (fr_s hf_265 rfl)) hU2 rfl, rfl, Or.inr ⟨el.2.2, by omega, s0, pt, cl, g, sd3.1, el.1, el.2.1, ⟨by omega, by omega, by omega, by omega, sd3.2.1⟩, by omega, ⟨by rw [← sd3.2.2.1]; exact sg.2.1.resolve_left hg0, by rw [← sd3.2.2.1]; have y := sg.1; omega⟩, (up_k hU2 (by exact Nat.ne_of_beq_eq_false rfl) 0 _).trans sd3.2.2.2, up_f hU2, fun j hj => (up_g hU2 (fun q => hj q.2.2)).trans (go3 j), rfl⟩⟩
      · have hg3 : g < 3 := by
          apply Int.not_le.mp
          intro z
          have e9 := sgm_3 (T := T) (c := cl) (by omega) (by omega) (by omega) (by omega)
          rw [show (3 : Int) = g by omega] at e9
          have e8 : al = (nw_ (drw_ T) (-1) (-1) (ll_ T) (gf_ T) : Nat) := al1.1
          have e7 := sg.1
          omega
        refine rg_i (by omega) ?_
        refine hK 282 [some (vR 111 0), some (vI ta), some (vI fi), none, some (vI pt), some (vI al), none, none, some (vI cl), some (vI tk), some (vI sm), some (vI (g + 1))] [vI (g + 1), vI cl, vR 111 0, vI sm] T3 ?_
        refine j_callV (y := yX11_countWays) (Yc := zX11_countWays) (rest := [vI sm]) [vI cl, vI (g + 1)] (ct_X11_countWays (T := T3)) cl_X11_591 (qd_c (by decide +kernel)) (nn_ _) rfl (rf_of rfl) (Nat.le_of_ble_eq_true rfl) (Nat.le_of_ble_eq_true rfl) (Nat.le_of_ble_eq_true rfl) rfl ?_
        rintro U4 _ ⟨x5, rfl, fU4, qU4⟩
        have bU4 := qU4.2.2
        show J_ zX11_ball T (po_X11_ball_e T ta fi) 0 0 285 _ [vI x5, vI sm] U4
        have hnw : x5 = (nw_ (drw_ T) cl (g + 1) (ll_ T) (gf_ T) : Nat) := by
          rw [qU4.1, drw_e (T := T) (fun k => hf_265 301 0 k rfl) (fun k => hf_265 214 0 k rfl) (hf_265 111 0 12 rfl) (hf_265 111 0 99 rfl) (hf_265 111 0 100 rfl), ll_e (T := T) (fun k => hf_265 301 0 k rfl) go3 (hf_265 111 0 12 rfl), gf_e go3]
        refine j_blx (F := fX11) tb_X11 (nn_ _) bk_X11_ball_e_285 bs_X11_ball_e_285 hz (fun K hK => ?_)
        refine rg_i (by omega) ?_
        refine hK 265 [some (vR 111 0), some (vI ta), some (vI fi), none, some (vI pt), some (vI al), none, none, some (vI cl), some (vI tk), some (vI (sm + x5)), some (vI (g + 1))] [] U4 ?_
        have e6 : U4 111 0 103 = T3 111 0 103 := fU4 111 0 103 rfl
        refine ih_265 _ ?_ pt al cl tk (sm + x5) (g + 1) s0 U4 (Nat.le_refl _) ?_ ?_ ?_ ?_ ?_ ?_ ?_
        · have hm_265 := hm_265 (); omega
        · exact fr_t (fr_t (fr_0 _ _) (fr_s hf_265 rfl)) (fr_s fU4 rfl)
        · exact al1
        · first
          | exact el
          | (rw [show T 111 0 12 = k by omega]; exact ⟨(hq.resolve_left (by omega)).2.1, (hq.resolve_left (by omega)).2.2, by omega⟩)
        · exact fun k => ((qU4.2.1 k).trans (go3 k))
        · omega
        · refine ⟨by rw [sgm_s (by omega), ← sg.1, ← hnw], ?_, rfl⟩
          rw [show g + 1 - 1 = g by omega, ← sg.1]; omega
        · exact ⟨sd3.1, sd3.2.1, sd3.2.2.1, (fU4 111 0 103 rfl).trans sd3.2.2.2⟩
  have c_196 : ∀ (nn : Nat) (pt : Int) (al : Int) (wh : Int) (cl : Int) (k : Int) (w0 : Int) (s0 : Int) (T2 : Zt), ((12 - k).toNat) ≤ nn → (fr_ [(304, []), (305, []), (302, []), (111, [103])] T T2) → (al = BR0_ T ∧ 1 ≤ al ∧ al ≤ 13824) → (EL_ T pt (T 111 0 12) ∧ LP9_ T pt (T 111 0 12) ∧ T 111 0 98 ≠ 0) → (∀ k, T2 302 0 k = T 302 0 k) → (0 ≤ k ∧ k ≤ T 111 0 12 ∧ 0 ≤ w0 ∧ w0 < cel_ T pt (T 111 0 12) ∧ 0 ≤ pt ∧ pt ≤ 2) → (wh = w0 - cel_ T pt k) → ((w0 < cel_ T pt k ∧ 0 ≤ cl ∧ cl < T 111 0 12 ∧ T 301 0 cl = pt ∧ T 302 0 cl = -1 ∧ cel_ T pt cl = w0) ∨ (cel_ T pt k ≤ w0 ∧ cl = -1)) → (((fi = 0 ∧ s0 = (T 111 0 103)) ∨ (fi ≠ 0 ∧ s0 = ta)) ∧ w0 = (tb9_ (cel_ T pt (T 111 0 12)) s0).1 ∧ T2 111 0 103 = (tb9_ (cel_ T pt (T 111 0 12)) s0).2) → J_ zX11_ball T (po_X11_ball_e T ta fi) 0 0 196 [some (vR 111 0), some (vI ta), some (vI fi), none, some (vI pt), some (vI al), none, some (vI wh), some (vI cl), some (vI k), none, none] [] T2 := by
    intro nn
    induction nn using Nat.strongRecOn with
    | _ nn ih_196 =>
      intro pt al wh cl k w0 s0 T2 hm_196 hf_196 al1 el go2 i2 hw hcl sd2
      replace hm_196 := fun (_ : Unit) => hm_196
      have hb2 := cel_b (T := T) (p := pt) (k := k) (by omega)
      have hb3 := cel_b (T := T) (p := pt) (k := T 111 0 12) (by omega)
      refine j_blx (F := fX11) tb_X11 (nn_ _) bk_X11_ball_e_196 bs_X11_ball_e_196 hz (fun K hK => ?_)
      intro b7 b7b
      have e8 : T2 111 0 12 = T 111 0 12 := hf_196 111 0 12 rfl
      rw [e8] at b7 b7b ⊢
      refine And.intro (fun c9 => ?_) (fun c9 => ?_)
      · refine hK 251 _ [] T2 ?_
        rw [show k = T 111 0 12 by omega] at hcl
        refine j_blx (F := fX11) tb_X11 (nn_ _) bk_X11_ball_e_251 bs_X11_ball_e_251 hz (fun K hK => ?_)
        refine hK 254 _ [vI al, vR 111 0] T2 ?_
        refine j_callV (y := yX11_takenBelow) (Yc := zX11_takenBelow) (rest := []) [vI al] (ct_X11_takenBelow_e (T := T2) (by omega)) cl_X11_604 (qd_c (by decide +kernel)) (nn_ _) rfl (rf_of rfl) (Nat.le_of_ble_eq_true rfl) (Nat.le_of_ble_eq_true rfl) (Nat.le_of_ble_eq_true rfl) rfl ?_
        rintro U10 _ ⟨x11, rfl, fU10, qU10⟩
        show J_ zX11_ball T (po_X11_ball_e T ta fi) 0 0 257 _ [vI x11] U10
        refine j_blx (F := fX11) tb_X11 (nn_ _) bk_X11_ball_e_257 bs_X11_ball_e_257 hz (fun K hK => ?_)
        refine hK 265 [some (vR 111 0), some (vI ta), some (vI fi), none, some (vI pt), some (vI al), none, some (vI wh), some (vI cl), some (vI x11), some (vI 0), some (vI (-1))] [] U10 ?_
        refine j_drop [some (vR 111 0), some (vI ta), some (vI fi), none, some (vI pt), some (vI al), none, none, some (vI cl), some (vI x11), some (vI 0), some (vI (-1))] (fun k v hk => ?_) rfl ?_
        · match k, hk with
          | 0, hk => exact hk
          | 1, hk => exact hk
          | 2, hk => exact hk
          | 3, hk => cases hk
          | 4, hk => exact hk
          | 5, hk => exact hk
          | 6, hk => cases hk
          | 7, hk => cases hk
          | 8, hk => exact hk
          | 9, hk => exact hk
          | 10, hk => exact hk
          | 11, hk => exact hk
          | k + 12, hk => cases hk
        refine c_265 _ pt al cl x11 0 (-1) s0 U10 (Nat.le_refl _) ?_ ?_ ?_ ?_ ?_ ?_ ?_
        · exact fr_t (fr_t (fr_0 _ _) (fr_s hf_196 rfl)) (fr_s fU10 rfl)
        · exact al1
        · first
          | exact el
          | (rw [show T 111 0 12 = k by omega]; exact ⟨(hq.resolve_left (by omega)).2.1, (hq.resolve_left (by omega)).2.2, by omega⟩)
        · exact fun k => (fU10 302 0 k rfl).trans (go2 k)
        · omega
        · exact ⟨sgm_0.symm, by omega, rfl⟩
        · refine ⟨sd2.1, by rw [← sd2.2.1]; omega, ?_, ?_⟩
          · rw [← al1.1, ← sd2.2.2]; exact qU10.1
          · rw [← al1.1, ← sd2.2.2]; exact qU10.2.1
      · refine ix_i (by omega) ?_
        intro b12 b12b
        have e13 : T2 301 0 k = T 301 0 k := hf_196 301 0 k rfl
        rw [e13] at b12 b12b ⊢
        refine And.intro (fun c14 => ?_) (fun c14 => ?_)
        · refine hK 245 [some (vR 111 0), some (vI ta), some (vI fi), none, some (vI pt), some (vI al), none, some (vI wh), some (vI cl), some (vI k), none, none] [] T2 ?_
          refine j_blx (F := fX11) tb_X11 (nn_ _) bk_X11_ball_e_245 bs_X11_ball_e_245 hz (fun K hK => ?_)
          refine rg_i (by omega) ?_
          refine hK 196 [some (vR 111 0), some (vI ta), some (vI fi), none, some (vI pt), some (vI al), none, some (vI wh), some (vI cl), some (vI (k + 1)), none, none] [] T2 ?_
          refine ih_196 _ ?_ pt al wh cl (k + 1) w0 s0 T2 (Nat.le_refl _) ?_ ?_ ?_ ?_ ?_ ?_ ?_ ?_
          · have hm_196 := hm_196 (); omega
          · exact fr_t (fr_0 _ _) (fr_s hf_196 rfl)
          · exact al1
          · first
            | exact el
            | (rw [show T 111 0 12 = k by omega]; exact ⟨(hq.resolve_left (by omega)).2.1, (hq.resolve_left (by omega)).2.2, by omega⟩)
          · exact fun k => go2 k
          · first
            | omega
            | (have z9 := el.1.1; omega)
          · first
            | (rw [cel_f (by omega) (by omega)]; omega)
            | (rw [cel_t (by omega) (by omega)]; omega)
          · first
            | (rw [cel_f (by omega) (by omega)]; exact hcl)
            | (rw [cel_t (by omega) (by omega)]; omega)
          · exact sd2
        · refine ix_i (by omega) ?_
          intro b15 b15b
          have g16 := go2 k
          refine And.intro (fun c17 => ?_) (fun c17 => ?_)
          · refine hK 245 [some (vR 111 0), some (vI ta), some (vI fi), none, some (vI pt), some (vI al), none, some (vI wh), some (vI cl), some (vI k), none, none] [] T2 ?_
            refine j_blx (F := fX11) tb_X11 (nn_ _) bk_X11_ball_e_245 bs_X11_ball_e_245 hz (fun K hK => ?_)
            refine rg_i (by omega) ?_
            refine hK 196 [some (vR 111 0), some (vI ta), some (vI fi), none, some (vI pt), some (vI al), none, some (vI wh), some (vI cl), some (vI (k + 1)), none, none] [] T2 ?_
            refine ih_196 _ ?_ pt al wh cl (k + 1) w0 s0 T2 (Nat.le_refl _) ?_ ?_ ?_ ?_ ?_ ?_ ?_ ?_
            · have hm_196 := hm_196 (); omega
            · exact fr_t (fr_0 _ _) (fr_s hf_196 rfl)
            · exact al1
            · first
              | exact el
              | (rw [show T 111 0 12 = k by omega]; exact ⟨(hq.resolve_left (by omega)).2.1, (hq.resolve_left (by omega)).2.2, by omega⟩)
            · exact fun k => go2 k
            · first
              | omega
              | (have z9 := el.1.1; omega)
            · first
              | (rw [cel_f (by omega) (by omega)]; omega)
              | (rw [cel_t (by omega) (by omega)]; omega)
            · first
              | (rw [cel_f (by omega) (by omega)]; exact hcl)
              | (rw [cel_t (by omega) (by omega)]; omega)
            · exact sd2
          · refine And.intro (fun c18 => ?_) (fun c18 => ?_)
            · refine hK 238 [some (vR 111 0), some (vI ta), some (vI fi), none, some (vI pt), some (vI al), none, some (vI wh), some (vI cl), some (vI k), none, none] [] T2 ?_
              refine j_blx (F := fX11) tb_X11 (nn_ _) bk_X11_ball_e_238 bs_X11_ball_e_238 hz (fun K hK => ?_)
              refine rg_i (by omega) ?_
              refine rg_i (by omega) ?_
              refine hK 196 [some (vR 111 0), some (vI ta), some (vI fi), none, some (vI pt), some (vI al), none, some (vI (wh + (-1))), some (vI cl), some (vI (k + 1)), none, none] [] T2 ?_
              refine ih_196 _ ?_ pt al (wh + (-1)) cl (k + 1) w0 s0 T2 (Nat.le_refl _) ?_ ?_ ?_ ?_ ?_ ?_ ?_ ?_
              · have hm_196 := hm_196 (); omega
              · exact fr_t (fr_0 _ _) (fr_s hf_196 rfl)
              · exact al1
              · first
                | exact el
                | (rw [show T 111 0 12 = k by omega]; exact ⟨(hq.resolve_left (by omega)).2.1, (hq.resolve_left (by omega)).2.2, by omega⟩)
              · exact fun k => go2 k
              · first
                | omega
                | (have z9 := el.1.1; omega)
              · first
                | (rw [cel_f (by omega) (by omega)]; omega)
                | (rw [cel_t (by omega) (by omega)]; omega)
              · first
                | (rw [cel_f (by omega) (by omega)]; exact hcl)
                | (rw [cel_t (by omega) (by omega)]; omega)
              · exact sd2
            · refine hK 240 [some (vR 111 0), some (vI ta), some (vI fi), none, some (vI pt), some (vI al), none, some (vI wh), some (vI cl), some (vI k), none, none] [vI k] T2 ?_
              refine j_blx (F := fX11) tb_X11 (nn_ _) bk_X11_ball_e_240 bs_X11_ball_e_240 hz (fun K hK => ?_)
              refine rg_i (by omega) ?_
              refine rg_i (by omega) ?_
              refine hK 196 [some (vR 111 0), some (vI ta), some (vI fi), none, some (vI pt), some (vI al), none, some (vI (wh + (-1))), some (vI k), some (vI (k + 1)), none, none] [] T2 ?_
              refine ih_196 _ ?_ pt al (wh + (-1)) k (k + 1) w0 s0 T2 (Nat.le_refl _) ?_ ?_ ?_ ?_ ?_ ?_ ?_ ?_
              · have hm_196 := hm_196 (); omega
              · exact fr_t (fr_0 _ _) (fr_s hf_196 rfl)
              · exact al1
              · first
                | exact el
                | (rw [show T 111 0 12 = k by omega]; exact ⟨(hq.resolve_left (by omega)).2.1, (hq.resolve_left (by omega)).2.2, by omega⟩)
              · exact fun k => go2 k
              · first
                | omega
                | (have z9 := el.1.1; omega)
              · first
                | (rw [cel_f (by omega) (by omega)]; omega)
                | (rw [cel_t (by omega) (by omega)]; omega)
              · first
                | (rw [cel_f (by omega) (by omega)]; exact hcl)
                | (rw [cel_t (by omega) (by omega)]; omega)
              · exact sd2
  have c_134 : ∀ (nn : Nat) (pt : Int) (al : Int) (n : Int) (k : Int) (s0 : Int) (T1 : Zt), ((12 - k).toNat) ≤ nn → (fr_ [(304, []), (305, []), (302, []), (111, [103])] T T1) → (al = BR0_ T ∧ 1 ≤ al ∧ al ≤ 13824) → (∀ k, T1 302 0 k = T 302 0 k) → (EL_ T pt (T 111 0 12) ∧ LP9_ T pt (T 111 0 12) ∧ T 111 0 98 ≠ 0) → (0 ≤ k ∧ k ≤ T 111 0 12) → (n = cel_ T pt k) → (((fi = 0 ∧ s0 = (T 111 0 103)) ∨ (fi ≠ 0 ∧ s0 = ta)) ∧ T1 111 0 103 = s0) → J_ zX11_ball T (po_X11_ball_e T ta fi) 0 0 134 [some (vR 111 0), some (vI ta), some (vI fi), none, some (vI pt), some (vI al), some (vI n), some (vI k), none, none, none, none] [] T1 := by
    intro nn
    induction nn using Nat.strongRecOn with
    | _ nn ih_134 =>
      intro pt al n k s0 T1 hm_134 hf_134 al1 go1 el i1 cn sd1
      replace hm_134 := fun (_ : Unit) => hm_134
      have hb1 := cel_b (T := T) (p := pt) (k := k) (by omega)
      refine j_blx (F := fX11) tb_X11 (nn_ _) bk_X11_ball_e_134 bs_X11_ball_e_134 hz (fun K hK => ?_)
      intro b19 b19b
      have e20 : T1 111 0 12 = T 111 0 12 := hf_134 111 0 12 rfl
      rw [e20] at b19 b19b ⊢
      refine And.intro (fun c21 => ?_) (fun c21 => ?_)
      · refine hK 182 _ [] T1 ?_
        have hcp := cel_p el.1
        have hpt := el.1.1
        rw [show T 111 0 12 = k by omega] at hcp
        have hce : cel_ T pt (T 111 0 12) = n := by rw [cn, show T 111 0 12 = k by omega]
        refine j_blx (F := fX11) tb_X11 (nn_ _) bk_X11_ball_e_182 bs_X11_ball_e_182 hz (fun K hK => ?_)
        refine hK 185 _ [vI n, vR 111 0] T1 ?_
        refine j_callV (y := yX11_takenBelow) (Yc := zX11_takenBelow) (rest := []) [vI n] (ct_X11_takenBelow_e (T := T1) (by omega)) cl_X11_604 (qd_c (by decide +kernel)) (nn_ _) rfl (rf_of rfl) (Nat.le_of_ble_eq_true rfl) (Nat.le_of_ble_eq_true rfl) (Nat.le_of_ble_eq_true rfl) rfl ?_
        rintro U22 _ ⟨x23, rfl, fU22, qU22⟩
        show J_ zX11_ball T (po_X11_ball_e T ta fi) 0 0 188 _ [vI x23] U22
        refine j_blx (F := fX11) tb_X11 (nn_ _) bk_X11_ball_e_188 bs_X11_ball_e_188 hz (fun K hK => ?_)
        refine hK 196 [some (vR 111 0), some (vI ta), some (vI fi), none, some (vI pt), some (vI al), some (vI n), some (vI x23), some (vI (-1)), some (vI 0), none, none] [] U22 ?_
        refine j_drop [some (vR 111 0), some (vI ta), some (vI fi), none, some (vI pt), some (vI al), none, some (vI x23), some (vI (-1)), some (vI 0), none, none] (fun k v hk => ?_) rfl ?_
        · match k, hk with
          | 0, hk => exact hk
          | 1, hk => exact hk
          | 2, hk => exact hk
          | 3, hk => cases hk
          | 4, hk => exact hk
          | 5, hk => exact hk
          | 6, hk => cases hk
          | 7, hk => exact hk
          | 8, hk => exact hk
          | 9, hk => exact hk
          | 10, hk => cases hk
          | 11, hk => cases hk
          | k + 12, hk => cases hk
        refine c_196 _ pt al x23 (-1) 0 x23 s0 U22 (Nat.le_refl _) ?_ ?_ ?_ ?_ ?_ ?_ ?_ ?_
        · exact fr_t (fr_t (fr_0 _ _) (fr_s hf_134 rfl)) (fr_s fU22 rfl)
        · exact al1
        · first
          | exact el
          | (rw [show T 111 0 12 = k by omega]; exact ⟨(hq.resolve_left (by omega)).2.1, (hq.resolve_left (by omega)).2.2, by omega⟩)
        · exact fun k => (fU22 302 0 k rfl).trans (go1 k)
        · first
          | omega
          | (have z9 := el.1.1; omega)
        · show _ = _ - (0 : Int); omega
        · exact Or.inr ⟨by show (0 : Int) ≤ _; omega, rfl⟩
        · refine ⟨sd1.1, ?_, ?_⟩
          · rw [hce, ← sd1.2]; exact qU22.1
          · rw [hce, ← sd1.2]; exact qU22.2.1
      · refine ix_i (by omega) ?_
        intro b24 b24b
        have e25 : T1 301 0 k = T 301 0 k := hf_134 301 0 k rfl
        rw [e25] at b24 b24b ⊢
        refine And.intro (fun c26 => ?_) (fun c26 => ?_)
        · refine hK 172 [some (vR 111 0), some (vI ta), some (vI fi), none, some (vI pt), some (vI al), some (vI n), some (vI k), none, none, none, none] [vI n] T1 ?_
          refine j_blx (F := fX11) tb_X11 (nn_ _) bk_X11_ball_e_172 bs_X11_ball_e_172 hz (fun K hK => ?_)
          refine rg_i (by omega) ?_
          refine rg_i (by omega) ?_
          refine hK 134 [some (vR 111 0), some (vI ta), some (vI fi), none, some (vI pt), some (vI al), some (vI (n + 0)), some (vI (k + 1)), none, none, none, none] [] T1 ?_
          refine ih_134 _ ?_ pt al (n + 0) (k + 1) s0 T1 (Nat.le_refl _) ?_ ?_ ?_ ?_ ?_ ?_ ?_
          · have hm_134 := hm_134 (); omega
          · exact fr_t (fr_0 _ _) (fr_s hf_134 rfl)
          · exact al1
          · exact fun k => go1 k
          · first
            | exact el
            | (rw [show T 111 0 12 = k by omega]; exact ⟨(hq.resolve_left (by omega)).2.1, (hq.resolve_left (by omega)).2.2, by omega⟩)
          · omega
          · first
            | (rw [cel_f (by omega) (by omega)]; omega)
            | (rw [cel_t (by omega) (by omega)]; omega)
          · exact sd1
        · refine ix_i (by omega) ?_
          intro b27 b27b
          have g28 := go1 k
          refine And.intro (fun c29 => ?_) (fun c29 => ?_)
          · refine hK 172 [some (vR 111 0), some (vI ta), some (vI fi), none, some (vI pt), some (vI al), some (vI n), some (vI k), none, none, none, none] [vI n] T1 ?_
            refine j_blx (F := fX11) tb_X11 (nn_ _) bk_X11_ball_e_172 bs_X11_ball_e_172 hz (fun K hK => ?_)
            refine rg_i (by omega) ?_
            refine rg_i (by omega) ?_
            refine hK 134 [some (vR 111 0), some (vI ta), some (vI fi), none, some (vI pt), some (vI al), some (vI (n + 0)), some (vI (k + 1)), none, none, none, none] [] T1 ?_
            refine ih_134 _ ?_ pt al (n + 0) (k + 1) s0 T1 (Nat.le_refl _) ?_ ?_ ?_ ?_ ?_ ?_ ?_
            · have hm_134 := hm_134 (); omega
            · exact fr_t (fr_0 _ _) (fr_s hf_134 rfl)
            · exact al1
            · exact fun k => go1 k
            · first
              | exact el
              | (rw [show T 111 0 12 = k by omega]; exact ⟨(hq.resolve_left (by omega)).2.1, (hq.resolve_left (by omega)).2.2, by omega⟩)
            · omega
            · first
              | (rw [cel_f (by omega) (by omega)]; omega)
              | (rw [cel_t (by omega) (by omega)]; omega)
            · exact sd1
          · refine hK 173 [some (vR 111 0), some (vI ta), some (vI fi), none, some (vI pt), some (vI al), some (vI n), some (vI k), none, none, none, none] [vI 1, vI n] T1 ?_
            refine j_blx (F := fX11) tb_X11 (nn_ _) bk_X11_ball_e_173 bs_X11_ball_e_173 hz (fun K hK => ?_)
            refine rg_i (by omega) ?_
            refine rg_i (by omega) ?_
            refine hK 134 [some (vR 111 0), some (vI ta), some (vI fi), none, some (vI pt), some (vI al), some (vI (n + 1)), some (vI (k + 1)), none, none, none, none] [] T1 ?_
            refine ih_134 _ ?_ pt al (n + 1) (k + 1) s0 T1 (Nat.le_refl _) ?_ ?_ ?_ ?_ ?_ ?_ ?_
            · have hm_134 := hm_134 (); omega
            · exact fr_t (fr_0 _ _) (fr_s hf_134 rfl)
            · exact al1
            · exact fun k => go1 k
            · first
              | exact el
              | (rw [show T 111 0 12 = k by omega]; exact ⟨(hq.resolve_left (by omega)).2.1, (hq.resolve_left (by omega)).2.2, by omega⟩)
            · omega
            · first
              | (rw [cel_f (by omega) (by omega)]; omega)
              | (rw [cel_t (by omega) (by omega)]; omega)
            · exact sd1
  have c_8 : ∀ (nn : Nat) (lf : Int) (pt : Int) (k : Int), ((12 - k).toNat) ≤ nn → (0 ≤ k ∧ k ≤ T 111 0 12 ∧ 0 ≤ lf ∧ lf ≤ k) → ((lf = 0 ∧ pt = 3 ∧ LP9_ T 3 k) ∨ (0 < lf ∧ EL_ T pt k ∧ LP9_ T pt k)) → J_ zX11_ball T (po_X11_ball_e T ta fi) 0 0 8 [some (vR 111 0), some (vI ta), some (vI fi), some (vI lf), some (vI pt), some (vI k), none, none, none, none, none, none] [] T := by
    intro nn
    induction nn using Nat.strongRecOn with
    | _ nn ih_8 =>
      intro lf pt k hm_8 i0 hq
      replace hm_8 := fun (_ : Unit) => hm_8
      refine j_blx (F := fX11) tb_X11 (nn_ _) bk_X11_ball_e_8 bs_X11_ball_e_8 hz (fun K hK => ?_)
      intro b30 b30b
      refine And.intro (fun c31 => ?_) (fun c31 => ?_)
      · refine hK 81 _ [] T ?_
        refine j_blx (F := fX11) tb_X11 (nn_ _) bk_X11_ball_e_81 bs_X11_ball_e_81 hz (fun K hK => ?_)
        intro b32 b32b
        refine And.intro (fun c33 => ?_) (fun c33 => ?_)
        · refine hK 101 _ [] T ?_
          refine j_blx (F := fX11) tb_X11 (nn_ _) bk_X11_ball_e_101 bs_X11_ball_e_101 hz (fun K hK => ?_)
          refine And.intro (fun c34 => ?_) (fun c34 => ?_)
          · exact absurd c34 (by decide)
          · refine (show po_X11_ball_e T ta fi T (some (vI (-4))) from ?_)
            exact ⟨_, rfl, fr_0 _ _, rfl, Or.inl ⟨rfl, fun _ => rfl, rfl, by
              by_cases z : T 111 0 98 = 0
              · exact Or.inl z
              · refine Or.inr (Or.inl (fun j a b c d => ?_))
                have y := (hq.resolve_right (fun z => by omega)).2.2 j a (by omega) c d
                have y2 : T 301 0 j ≤ 2 := (bd_a hT 301 (by decide +kernel : ta_ 301 = some (1, some 12, -1, 2)) 0 a).2
                omega⟩⟩
        · refine And.intro (fun c35 => ?_) (fun c35 => ?_)
          · refine hK 101 _ [] T ?_
            refine j_blx (F := fX11) tb_X11 (nn_ _) bk_X11_ball_e_101 bs_X11_ball_e_101 hz (fun K hK => ?_)
            refine And.intro (fun c36 => ?_) (fun c36 => ?_)
            · exact absurd c36 (by decide)
            · refine (show po_X11_ball_e T ta fi T (some (vI (-4))) from ?_)
              exact ⟨_, rfl, fr_0 _ _, rfl, Or.inl ⟨rfl, fun _ => rfl, rfl, by
                by_cases z : T 111 0 98 = 0
                · exact Or.inl z
                · refine Or.inr (Or.inl (fun j a b c d => ?_))
                  have y := (hq.resolve_right (fun z => by omega)).2.2 j a (by omega) c d
                  have y2 : T 301 0 j ≤ 2 := (bd_a hT 301 (by decide +kernel : ta_ 301 = some (1, some 12, -1, 2)) 0 a).2
                  omega⟩⟩
          · refine hK 95 _ [vI (-1), vI (-1), vR 111 0] T ?_
            refine j_callV (y := yX11_countWays) (Yc := zX11_countWays) (rest := []) [vI (-1), vI (-1)] (ct_X11_countWays (T := T)) cl_X11_591 (qd_c (by decide +kernel)) (nn_ _) rfl (rf_of rfl) (Nat.le_of_ble_eq_true rfl) (Nat.le_of_ble_eq_true rfl) (Nat.le_of_ble_eq_true rfl) rfl ?_
            rintro U37 _ ⟨x38, rfl, fU37, qU37⟩
            have bU37 := qU37.2.2
            show J_ zX11_ball T (po_X11_ball_e T ta fi) 0 0 98 _ [vI x38] U37
            refine j_blx (F := fX11) tb_X11 (nn_ _) bk_X11_ball_e_98 bs_X11_ball_e_98 hz (fun K hK => ?_)
            refine hK 102 _ [vI x38] U37 ?_
            refine j_blx (F := fX11) tb_X11 (nn_ _) bk_X11_ball_e_102 bs_X11_ball_e_102 hz (fun K hK => ?_)
            refine And.intro (fun c39 => ?_) (fun c39 => ?_)
            · refine hK 112 [some (vR 111 0), some (vI ta), some (vI fi), some (vI lf), some (vI pt), some (vI x38), none, none, none, none, none, none] [] U37 ?_
              refine j_blx (F := fX11) tb_X11 (nn_ _) bk_X11_ball_e_112 bs_X11_ball_e_112 hz (fun K hK => ?_)
              refine And.intro (fun c40 => ?_) (fun c40 => ?_)
              · refine hK 121 _ [vR 111 0] U37 ?_
                refine j_blx (F := fX11) tb_X11 (nn_ _) bk_X11_ball_e_121 bs_X11_ball_e_121 hz (fun K hK => ?_)
                intro b41 b41b
                have e42 : U37 111 0 103 = T 111 0 103 := fU37 111 0 103 rfl
                rw [e42] at b41 b41b ⊢
                refine bd_i (by omega) ?_
                refine x_nm (fun U43 hU43 => ?_)
                have e44 := up_f hU43
                refine hK 134 [some (vR 111 0), some (vI ta), some (vI fi), some (vI lf), some (vI pt), some (vI x38), some (vI 0), some (vI 0), none, none, none, none] [] U43 ?_
                refine j_drop [some (vR 111 0), some (vI ta), some (vI fi), none, some (vI pt), some (vI x38), some (vI 0), some (vI 0), none, none, none, none] (fun k v hk => ?_) rfl ?_
                · match k, hk with
                  | 0, hk => exact hk
                  | 1, hk => exact hk
                  | 2, hk => exact hk
                  | 3, hk => cases hk
                  | 4, hk => exact hk
                  | 5, hk => exact hk
                  | 6, hk => exact hk
                  | 7, hk => exact hk
                  | 8, hk => cases hk
                  | 9, hk => cases hk
                  | 10, hk => cases hk
                  | 11, hk => cases hk
                  | k + 12, hk => cases hk
                have e45 : U43 111 0 103 = T 111 0 103 := up_f hU43
                refine c_134 _ pt x38 0 0 (T 111 0 103) U43 (Nat.le_refl _) ?_ ?_ ?_ ?_ ?_ ?_ ?_
                · exact fr_u (fr_t (fr_0 _ _) (fr_s fU37 rfl)) hU43 rfl
                · exact ⟨qU37.1, by omega, by omega⟩
                · exact fun k => (up_k hU43 (by exact Nat.ne_of_beq_eq_false rfl) 0 k).trans ((qU37.2.1 k))
                · first
                  | exact el
                  | (rw [show T 111 0 12 = k by omega]; exact ⟨(hq.resolve_left (by omega)).2.1, (hq.resolve_left (by omega)).2.2, by omega⟩)
                · omega
                · rfl
                · exact ⟨Or.inl ⟨by omega, rfl⟩, up_f hU43⟩
              · refine hK 125 [some (vR 111 0), some (vI ta), some (vI fi), some (vI lf), some (vI pt), some (vI x38), none, none, none, none, none, none] [vI ta, vR 111 0] U37 ?_
                refine j_blx (F := fX11) tb_X11 (nn_ _) bk_X11_ball_e_125 bs_X11_ball_e_125 hz (fun K hK => ?_)
                refine bd_i (by omega) ?_
                refine x_nm (fun U46 hU46 => ?_)
                have e47 := up_f hU46
                refine hK 134 [some (vR 111 0), some (vI ta), some (vI fi), some (vI lf), some (vI pt), some (vI x38), some (vI 0), some (vI 0), none, none, none, none] [] U46 ?_
                refine j_drop [some (vR 111 0), some (vI ta), some (vI fi), none, some (vI pt), some (vI x38), some (vI 0), some (vI 0), none, none, none, none] (fun k v hk => ?_) rfl ?_
                · match k, hk with
                  | 0, hk => exact hk
                  | 1, hk => exact hk
                  | 2, hk => exact hk
                  | 3, hk => cases hk
                  | 4, hk => exact hk
                  | 5, hk => exact hk
                  | 6, hk => exact hk
                  | 7, hk => exact hk
                  | 8, hk => cases hk
                  | 9, hk => cases hk
                  | 10, hk => cases hk
                  | 11, hk => cases hk
                  | k + 12, hk => cases hk
                have e48 : U46 111 0 103 = ta := up_f hU46
                refine c_134 _ pt x38 0 0 ta U46 (Nat.le_refl _) ?_ ?_ ?_ ?_ ?_ ?_ ?_
                · exact fr_u (fr_t (fr_0 _ _) (fr_s fU37 rfl)) hU46 rfl
                · exact ⟨qU37.1, by omega, by omega⟩
                · exact fun k => (up_k hU46 (by exact Nat.ne_of_beq_eq_false rfl) 0 k).trans ((qU37.2.1 k))
                · first
                  | exact el
                  | (rw [show T 111 0 12 = k by omega]; exact ⟨(hq.resolve_left (by omega)).2.1, (hq.resolve_left (by omega)).2.2, by omega⟩)
                · omega
                · rfl
                · exact ⟨Or.inr ⟨by omega, rfl⟩, up_f hU46⟩
            · refine (show po_X11_ball_e T ta fi U37 (some (vI (-4))) from ?_)
              exact ⟨_, rfl, fr_t (fr_0 _ _) (fr_s fU37 rfl), rfl, Or.inl ⟨rfl, qU37.2.1, fU37 111 0 103 rfl, Or.inr (Or.inr (by have y := qU37.1; show ((nw_ (drw_ T) (-1) (-1) (ll_ T) (gf_ T) : Nat) : Int) = 0; omega))⟩⟩
      · intro b49 b49b
        refine And.intro (fun c50 => ?_) (fun c50 => ?_)
        · refine hK 81 _ [] T ?_
          refine j_blx (F := fX11) tb_X11 (nn_ _) bk_X11_ball_e_81 bs_X11_ball_e_81 hz (fun K hK => ?_)
          intro b51 b51b
          refine And.intro (fun c52 => ?_) (fun c52 => ?_)
          · refine hK 101 _ [] T ?_
            refine j_blx (F := fX11) tb_X11 (nn_ _) bk_X11_ball_e_101 bs_X11_ball_e_101 hz (fun K hK => ?_)
            refine And.intro (fun c53 => ?_) (fun c53 => ?_)
            · exact absurd c53 (by decide)
            · refine (show po_X11_ball_e T ta fi T (some (vI (-4))) from ?_)
              exact ⟨_, rfl, fr_0 _ _, rfl, Or.inl ⟨rfl, fun _ => rfl, rfl, by
                by_cases z : T 111 0 98 = 0
                · exact Or.inl z
                · refine Or.inr (Or.inl (fun j a b c d => ?_))
                  have y := (hq.resolve_right (fun z => by omega)).2.2 j a (by omega) c d
                  have y2 : T 301 0 j ≤ 2 := (bd_a hT 301 (by decide +kernel : ta_ 301 = some (1, some 12, -1, 2)) 0 a).2
                  omega⟩⟩
          · refine And.intro (fun c54 => ?_) (fun c54 => ?_)
            · refine hK 101 _ [] T ?_
              refine j_blx (F := fX11) tb_X11 (nn_ _) bk_X11_ball_e_101 bs_X11_ball_e_101 hz (fun K hK => ?_)
              refine And.intro (fun c55 => ?_) (fun c55 => ?_)
              · exact absurd c55 (by decide)
              · refine (show po_X11_ball_e T ta fi T (some (vI (-4))) from ?_)
                exact ⟨_, rfl, fr_0 _ _, rfl, Or.inl ⟨rfl, fun _ => rfl, rfl, by
                  by_cases z : T 111 0 98 = 0
                  · exact Or.inl z
                  · refine Or.inr (Or.inl (fun j a b c d => ?_))
                    have y := (hq.resolve_right (fun z => by omega)).2.2 j a (by omega) c d
                    have y2 : T 301 0 j ≤ 2 := (bd_a hT 301 (by decide +kernel : ta_ 301 = some (1, some 12, -1, 2)) 0 a).2
                    omega⟩⟩
            · refine hK 95 _ [vI (-1), vI (-1), vR 111 0] T ?_
              refine j_callV (y := yX11_countWays) (Yc := zX11_countWays) (rest := []) [vI (-1), vI (-1)] (ct_X11_countWays (T := T)) cl_X11_591 (qd_c (by decide +kernel)) (nn_ _) rfl (rf_of rfl) (Nat.le_of_ble_eq_true rfl) (Nat.le_of_ble_eq_true rfl) (Nat.le_of_ble_eq_true rfl) rfl ?_
              rintro U56 _ ⟨x57, rfl, fU56, qU56⟩
              have bU56 := qU56.2.2
              show J_ zX11_ball T (po_X11_ball_e T ta fi) 0 0 98 _ [vI x57] U56
              refine j_blx (F := fX11) tb_X11 (nn_ _) bk_X11_ball_e_98 bs_X11_ball_e_98 hz (fun K hK => ?_)
              refine hK 102 _ [vI x57] U56 ?_
              refine j_blx (F := fX11) tb_X11 (nn_ _) bk_X11_ball_e_102 bs_X11_ball_e_102 hz (fun K hK => ?_)
              refine And.intro (fun c58 => ?_) (fun c58 => ?_)
              · refine hK 112 [some (vR 111 0), some (vI ta), some (vI fi), some (vI lf), some (vI pt), some (vI x57), none, none, none, none, none, none] [] U56 ?_
                refine j_blx (F := fX11) tb_X11 (nn_ _) bk_X11_ball_e_112 bs_X11_ball_e_112 hz (fun K hK => ?_)
                refine And.intro (fun c59 => ?_) (fun c59 => ?_)
                · refine hK 121 _ [vR 111 0] U56 ?_
                  refine j_blx (F := fX11) tb_X11 (nn_ _) bk_X11_ball_e_121 bs_X11_ball_e_121 hz (fun K hK => ?_)
                  intro b60 b60b
                  have e61 : U56 111 0 103 = T 111 0 103 := fU56 111 0 103 rfl
                  rw [e61] at b60 b60b ⊢
                  refine bd_i (by omega) ?_
                  refine x_nm (fun U62 hU62 => ?_)
                  have e63 := up_f hU62
                  refine hK 134 [some (vR 111 0), some (vI ta), some (vI fi), some (vI lf), some (vI pt), some (vI x57), some (vI 0), some (vI 0), none, none, none, none] [] U62 ?_
                  refine j_drop [some (vR 111 0), some (vI ta), some (vI fi), none, some (vI pt), some (vI x57), some (vI 0), some (vI 0), none, none, none, none] (fun k v hk => ?_) rfl ?_
                  · match k, hk with
                    | 0, hk => exact hk
                    | 1, hk => exact hk
                    | 2, hk => exact hk
                    | 3, hk => cases hk
                    | 4, hk => exact hk
                    | 5, hk => exact hk
                    | 6, hk => exact hk
                    | 7, hk => exact hk
                    | 8, hk => cases hk
                    | 9, hk => cases hk
                    | 10, hk => cases hk
                    | 11, hk => cases hk
                    | k + 12, hk => cases hk
                  have e64 : U62 111 0 103 = T 111 0 103 := up_f hU62
                  refine c_134 _ pt x57 0 0 (T 111 0 103) U62 (Nat.le_refl _) ?_ ?_ ?_ ?_ ?_ ?_ ?_
                  · exact fr_u (fr_t (fr_0 _ _) (fr_s fU56 rfl)) hU62 rfl
                  · exact ⟨qU56.1, by omega, by omega⟩
                  · exact fun k => (up_k hU62 (by exact Nat.ne_of_beq_eq_false rfl) 0 k).trans ((qU56.2.1 k))
                  · first
                    | exact el
                    | (rw [show T 111 0 12 = k by omega]; exact ⟨(hq.resolve_left (by omega)).2.1, (hq.resolve_left (by omega)).2.2, by omega⟩)
                  · omega
                  · rfl
                  · exact ⟨Or.inl ⟨by omega, rfl⟩, up_f hU62⟩
                · refine hK 125 [some (vR 111 0), some (vI ta), some (vI fi), some (vI lf), some (vI pt), some (vI x57), none, none, none, none, none, none] [vI ta, vR 111 0] U56 ?_
                  refine j_blx (F := fX11) tb_X11 (nn_ _) bk_X11_ball_e_125 bs_X11_ball_e_125 hz (fun K hK => ?_)
                  refine bd_i (by omega) ?_
                  refine x_nm (fun U65 hU65 => ?_)
                  have e66 := up_f hU65
                  refine hK 134 [some (vR 111 0), some (vI ta), some (vI fi), some (vI lf), some (vI pt), some (vI x57), some (vI 0), some (vI 0), none, none, none, none] [] U65 ?_
                  refine j_drop [some (vR 111 0), some (vI ta), some (vI fi), none, some (vI pt), some (vI x57), some (vI 0), some (vI 0), none, none, none, none] (fun k v hk => ?_) rfl ?_
                  · match k, hk with
                    | 0, hk => exact hk
                    | 1, hk => exact hk
                    | 2, hk => exact hk
                    | 3, hk => cases hk
                    | 4, hk => exact hk
                    | 5, hk => exact hk
                    | 6, hk => exact hk
                    | 7, hk => exact hk
                    | 8, hk => cases hk
                    | 9, hk => cases hk
                    | 10, hk => cases hk
                    | 11, hk => cases hk
                    | k + 12, hk => cases hk
                  have e67 : U65 111 0 103 = ta := up_f hU65
                  refine c_134 _ pt x57 0 0 ta U65 (Nat.le_refl _) ?_ ?_ ?_ ?_ ?_ ?_ ?_
                  · exact fr_u (fr_t (fr_0 _ _) (fr_s fU56 rfl)) hU65 rfl
                  · exact ⟨qU56.1, by omega, by omega⟩
                  · exact fun k => (up_k hU65 (by exact Nat.ne_of_beq_eq_false rfl) 0 k).trans ((qU56.2.1 k))
                  · first
                    | exact el
                    | (rw [show T 111 0 12 = k by omega]; exact ⟨(hq.resolve_left (by omega)).2.1, (hq.resolve_left (by omega)).2.2, by omega⟩)
                  · omega
                  · rfl
                  · exact ⟨Or.inr ⟨by omega, rfl⟩, up_f hU65⟩
              · refine (show po_X11_ball_e T ta fi U56 (some (vI (-4))) from ?_)
                exact ⟨_, rfl, fr_t (fr_0 _ _) (fr_s fU56 rfl), rfl, Or.inl ⟨rfl, qU56.2.1, fU56 111 0 103 rfl, Or.inr (Or.inr (by have y := qU56.1; show ((nw_ (drw_ T) (-1) (-1) (ll_ T) (gf_ T) : Nat) : Int) = 0; omega))⟩⟩
        · refine ix_i (by omega) ?_
          intro b68 b68b
          refine And.intro (fun c69 => ?_) (fun c69 => ?_)
          · refine hK 75 _ [] T ?_
            refine j_blx (F := fX11) tb_X11 (nn_ _) bk_X11_ball_e_75 bs_X11_ball_e_75 hz (fun K hK => ?_)
            refine rg_i (by omega) ?_
            refine hK 8 [some (vR 111 0), some (vI ta), some (vI fi), some (vI lf), some (vI pt), some (vI (k + 1)), none, none, none, none, none, none] [] T ?_
            refine ih_8 _ ?_ lf pt (k + 1) (Nat.le_refl _) ?_ ?_
            · have hm_8 := hm_8 (); omega
            · omega
            · exact hq.elim (fun z => Or.inl ⟨z.1, z.2.1, lp9_s z.2.2 (by omega) (fun p q => by omega)⟩) (fun z => Or.inr ⟨z.1, el_m z.2.1, lp9_s z.2.2 (by omega) (fun p q => by omega)⟩)
          · refine ix_i (by omega) ?_
            intro b70 b70b
            refine And.intro (fun c71 => ?_) (fun c71 => ?_)
            · refine hK 75 [some (vR 111 0), some (vI ta), some (vI fi), some (vI lf), some (vI pt), some (vI k), none, none, none, none, none, none] [] T ?_
              refine j_blx (F := fX11) tb_X11 (nn_ _) bk_X11_ball_e_75 bs_X11_ball_e_75 hz (fun K hK => ?_)
              refine rg_i (by omega) ?_
              refine hK 8 [some (vR 111 0), some (vI ta), some (vI fi), some (vI lf), some (vI pt), some (vI (k + 1)), none, none, none, none, none, none] [] T ?_
              refine ih_8 _ ?_ lf pt (k + 1) (Nat.le_refl _) ?_ ?_
              · have hm_8 := hm_8 (); omega
              · omega
              · exact hq.elim (fun z => Or.inl ⟨z.1, z.2.1, lp9_s z.2.2 (by omega) (fun p q => by omega)⟩) (fun z => Or.inr ⟨z.1, el_m z.2.1, lp9_s z.2.2 (by omega) (fun p q => by omega)⟩)
            · refine ix_i (by omega) ?_
              intro b72 b72b
              refine And.intro (fun c73 => ?_) (fun c73 => ?_)
              · refine hK 68 [some (vR 111 0), some (vI ta), some (vI fi), some (vI lf), some (vI pt), some (vI k), none, none, none, none, none, none] [] T ?_
                refine j_blx (F := fX11) tb_X11 (nn_ _) bk_X11_ball_e_68 bs_X11_ball_e_68 hz (fun K hK => ?_)
                refine rg_i (by omega) ?_
                refine rg_i (by omega) ?_
                refine hK 8 [some (vR 111 0), some (vI ta), some (vI fi), some (vI (lf + 1)), some (vI pt), some (vI (k + 1)), none, none, none, none, none, none] [] T ?_
                refine ih_8 _ ?_ (lf + 1) pt (k + 1) (Nat.le_refl _) ?_ ?_
                · have hm_8 := hm_8 (); omega
                · omega
                · exact hq.elim (fun z => by omega) (fun z => Or.inr ⟨by omega, el_m z.2.1, lp9_s z.2.2 (by omega) (fun p q => by omega)⟩)
              · refine ix_i (by omega) ?_
                intro b74 b74b
                refine hK 70 [some (vR 111 0), some (vI ta), some (vI fi), some (vI lf), some (vI pt), some (vI k), none, none, none, none, none, none] [vI (T 301 0 k)] T ?_
                refine j_blx (F := fX11) tb_X11 (nn_ _) bk_X11_ball_e_70 bs_X11_ball_e_70 hz (fun K hK => ?_)
                refine rg_i (by omega) ?_
                refine rg_i (by omega) ?_
                refine hK 8 [some (vR 111 0), some (vI ta), some (vI fi), some (vI (lf + 1)), some (vI (T 301 0 k)), some (vI (k + 1)), none, none, none, none, none, none] [] T ?_
                refine ih_8 _ ?_ (lf + 1) (T 301 0 k) (k + 1) (Nat.le_refl _) ?_ ?_
                · have hm_8 := hm_8 (); omega
                · omega
                · exact hq.elim (fun z => Or.inr ⟨by omega, el_n (by omega) (by omega) rfl (by omega), lp9_s z.2.2 (by omega) (fun p q => by omega)⟩) (fun z => Or.inr ⟨by omega, el_n (by omega) (by omega) rfl (by omega), lp9_s z.2.2 (by omega) (fun p q => by omega)⟩)
  refine j_blx (F := fX11) tb_X11 (nn_ _) bk_X11_ball_e_0 bs_X11_ball_e_0 hz (fun K hK => ?_)
  refine hK 8 [some (vR 111 0), some (vI ta), some (vI fi), some (vI 0), some (vI 3), some (vI 0), none, none, none, none, none, none] [] T ?_
  refine c_8 _ 0 3 0 (Nat.le_refl _) ?_ ?_
  · omega
  · exact Or.inl ⟨rfl, rfl, fun j a b => by omega⟩
