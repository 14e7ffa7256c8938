abbrev cX11_sayHead : ByteArray := prog_13_method_86_code
def yX11_sayHead : MethodName := ⟨RX11, "sayHead", "(II)V"⟩
def zX11_sayHead : Zm := (RX11, cX11_sayHead, 7, none, { frames := 1, cells := 0, slots := 0, locals := 22 })
theorem bk_X11_sayHead_230 : ck_ fX11 none cX11_sayHead 230 [.iinc 3 1, .goto 7] 236 = true := qck_r (nn_ _) (by decide +kernel)
theorem bs_X11_sayHead_230 {P : Zt → Option Zv → Prop} (K : Int → Zl → List Zv → Zt → Prop) : sx_ K P [.iinc 3 1, .goto 7] 236 = x_iinc 3 1 (x_goto 7 K) := ((xe_iinc 3 1).trans (congrArg (x_iinc 3 1) (xe_goto 7)))
theorem bk_X11_sayHead_106 : ck_ fX11 none cX11_sayHead 106 [.istore 6, .aload 0, .tableswitch 0 11 84 #[], .iconst 3, .iload 4, .imul, .dup2, .iaload, .aload 0, .iload 1, .iload 6] 122 = true := qck_r (nn_ _) (by decide +kernel)
theorem bs_X11_sayHead_106 {P : Zt → Option Zv → Prop} (K : Int → Zl → List Zv → Zt → Prop) : sx_ K P [.istore 6, .aload 0, .tableswitch 0 11 84 #[], .iconst 3, .iload 4, .imul, .dup2, .iaload, .aload 0, .iload 1, .iload 6] 122 = x_istore 6 (x_aload 0 (x_g1 111 284 (x_iconst 3 (x_iload 4 (x_imul (x_dup2 (x_iaload (x_aload 0 (x_iload 1 (x_iload 6 (K 122))))))))))) := ((xe_istore 6).trans (congrArg (x_istore 6) ((xe_aload 0).trans (congrArg (x_aload 0) ((xe_g1 (kk := 111) rfl tl_11_84).trans (congrArg (x_g1 111 284) ((xe_iconst 3).trans (congrArg (x_iconst 3) ((xe_iload 4).trans (congrArg (x_iload 4) ((xe_imul).trans (congrArg (x_imul) ((xe_dup2).trans (congrArg (x_dup2) ((xe_iaload).trans (congrArg (x_iaload) ((xe_aload 0).trans (congrArg (x_aload 0) ((xe_iload 1).trans (congrArg (x_iload 1) ((xe_iload 6).trans (congrArg (x_iload 6) xe_nil))))))))))))))))))))))
theorem bk_X11_sayHead_125 : ck_ fX11 none cX11_sayHead 125 [.iadd, .iastore, .aload 0, .tableswitch 0 11 84 #[], .iconst 3, .iload 5, .imul, .dup2, .iaload, .aload 0, .iload 1, .iconst 4, .iload 6, .isub] 143 = true := qck_r (nn_ _) (by decide +kernel)
theorem bs_X11_sayHead_125 {P : Zt → Option Zv → Prop} (K : Int → Zl → List Zv → Zt → Prop) : sx_ K P [.iadd, .iastore, .aload 0, .tableswitch 0 11 84 #[], .iconst 3, .iload 5, .imul, .dup2, .iaload, .aload 0, .iload 1, .iconst 4, .iload 6, .isub] 143 = x_iadd (x_iastore (x_aload 0 (x_g1 111 284 (x_iconst 3 (x_iload 5 (x_imul (x_dup2 (x_iaload (x_aload 0 (x_iload 1 (x_iconst 4 (x_iload 6 (x_isub (K 143)))))))))))))) := ((xe_iadd).trans (congrArg (x_iadd) ((xe_iastore).trans (congrArg (x_iastore) ((xe_aload 0).trans (congrArg (x_aload 0) ((xe_g1 (kk := 111) rfl tl_11_84).trans (congrArg (x_g1 111 284) ((xe_iconst 3).trans (congrArg (x_iconst 3) ((xe_iload 5).trans (congrArg (x_iload 5) ((xe_imul).trans (congrArg (x_imul) ((xe_dup2).trans (congrArg (x_dup2) ((xe_iaload).trans (congrArg (x_iaload) ((xe_aload 0).trans (congrArg (x_aload 0) ((xe_iload 1).trans (congrArg (x_iload 1) ((xe_iconst 4).trans (congrArg (x_iconst 4) ((xe_iload 6).trans (congrArg (x_iload 6) ((xe_isub).trans (congrArg (x_isub) xe_nil))))))))))))))))))))))))))))
theorem bk_X11_sayHead_146 : ck_ fX11 none cX11_sayHead 146 [.iadd, .iastore, .aload 0, .tableswitch 0 11 84 #[], .iconst 3, .iload 4, .imul, .iconst 1, .iadd, .dup2, .iaload, .aload 0, .tableswitch 0 11 82 #[], .aload 0, .tableswitch 0 11 83 #[], .isub, .iadd, .iastore, .aload 0, .tableswitch 0 11 84 #[], .iconst 3, .iload 5, .imul, .iconst 1, .iadd, .dup2, .iaload, .aload 0, .tableswitch 0 11 83 #[], .aload 0, .tableswitch 0 11 82 #[], .isub, .iadd, .iastore, .aload 0, .tableswitch 0 11 84 #[], .iconst 3, .iload 4, .imul, .iconst 2, .iadd, .dup2, .iaload, .aload 0, .tableswitch 0 11 82 #[], .iadd, .iastore, .aload 0, .tableswitch 0 11 84 #[], .iconst 3, .iload 5, .imul, .iconst 2, .iadd, .dup2, .iaload, .aload 0, .tableswitch 0 11 83 #[], .iadd, .iastore] 230 = true := qck_r (nn_ _) (by decide +kernel)
theorem bs_X11_sayHead_146 {P : Zt → Option Zv → Prop} (K : Int → Zl → List Zv → Zt → Prop) : sx_ K P [.iadd, .iastore, .aload 0, .tableswitch 0 11 84 #[], .iconst 3, .iload 4, .imul, .iconst 1, .iadd, .dup2, .iaload, .aload 0, .tableswitch 0 11 82 #[], .aload 0, .tableswitch 0 11 83 #[], .isub, .iadd, .iastore, .aload 0, .tableswitch 0 11 84 #[], .iconst 3, .iload 5, .imul, .iconst 1, .iadd, .dup2, .iaload, .aload 0, .tableswitch 0 11 83 #[], .aload 0, .tableswitch 0 11 82 #[], .isub, .iadd, .iastore, .aload 0, .tableswitch 0 11 84 #[], .iconst 3, .iload 4, .imul, .iconst 2, .iadd, .dup2, .iaload, .aload 0, .tableswitch 0 11 82 #[], .iadd, .iastore, .aload 0, .tableswitch 0 11 84 #[], .iconst 3, .iload 5, .imul, .iconst 2, .iadd, .dup2, .iaload, .aload 0, .tableswitch 0 11 83 #[], .iadd, .iastore] 230 = x_iadd (x_iastore (x_aload 0 (x_g1 111 284 (x_iconst 3 (x_iload 4 (x_imul (x_iconst 1 (x_iadd (x_dup2 (x_iaload (x_aload 0 (x_g0 111 82 (-2147483648) 2147483647 (x_aload 0 (x_g0 111 83 (-2147483648) 2147483647 (x_isub (x_iadd (x_iastore (x_aload 0 (x_g1 111 284 (x_iconst 3 (x_iload 5 (x_imul (x_iconst 1 (x_iadd (x_dup2 (x_iaload (x_aload 0 (x_g0 111 83 (-2147483648) 2147483647 (x_aload 0 (x_g0 111 82 (-2147483648) 2147483647 (x_isub (x_iadd (x_iastore (x_aload 0 (x_g1 111 284 (x_iconst 3 (x_iload 4 (x_imul (x_iconst 2 (x_iadd (x_dup2 (x_iaload (x_aload 0 (x_g0 111 82 (-2147483648) 2147483647 (x_iadd (x_iastore (x_aload 0 (x_g1 111 284 (x_iconst 3 (x_iload 5 (x_imul (x_iconst 2 (x_iadd (x_dup2 (x_iaload (x_aload 0 (x_g0 111 83 (-2147483648) 2147483647 (x_iadd (x_iastore (K 230)))))))))))))))))))))))))))))))))))))))))))))))))))))))))))) := ((xe_iadd).trans (congrArg (x_iadd) ((xe_iastore).trans (congrArg (x_iastore) ((xe_aload 0).trans (congrArg (x_aload 0) ((xe_g1 (kk := 111) rfl tl_11_84).trans (congrArg (x_g1 111 284) ((xe_iconst 3).trans (congrArg (x_iconst 3) ((xe_iload 4).trans (congrArg (x_iload 4) ((xe_imul).trans (congrArg (x_imul) ((xe_iconst 1).trans (congrArg (x_iconst 1) ((xe_iadd).trans (congrArg (x_iadd) ((xe_dup2).trans (congrArg (x_dup2) ((xe_iaload).trans (congrArg (x_iaload) ((xe_aload 0).trans (congrArg (x_aload 0) ((xe_g0 (kk := 111) rfl tl_11_82).trans (congrArg (x_g0 111 82 (-2147483648) 2147483647) ((xe_aload 0).trans (congrArg (x_aload 0) ((xe_g0 (kk := 111) rfl tl_11_83).trans (congrArg (x_g0 111 83 (-2147483648) 2147483647) ((xe_isub).trans (congrArg (x_isub) ((xe_iadd).trans (congrArg (x_iadd) ((xe_iastore).trans (congrArg (x_iastore) ((xe_aload 0).trans (congrArg (x_aload 0) ((xe_g1 (kk := 111) rfl tl_11_84).trans (congrArg (x_g1 111 284) ((xe_iconst 3).trans (congrArg (x_iconst 3) ((xe_iload 5).trans (congrArg (x_iload 5) ((xe_imul).trans (congrArg (x_imul) ((xe_iconst 1).trans (congrArg (x_iconst 1) ((xe_iadd).trans (congrArg (x_iadd) ((xe_dup2).trans (congrArg (x_dup2) ((xe_iaload).trans (congrArg (x_iaload) ((xe_aload 0).trans (congrArg (x_aload 0) ((xe_g0 (kk := 111) rfl tl_11_83).trans (congrArg (x_g0 111 83 (-2147483648) 2147483647) ((xe_aload 0).trans (congrArg (x_aload 0) ((xe_g0 (kk := 111) rfl tl_11_82).trans (congrArg (x_g0 111 82 (-2147483648) 2147483647) ((xe_isub).trans (congrArg (x_isub) ((xe_iadd).trans (congrArg (x_iadd) ((xe_iastore).trans (congrArg (x_iastore) ((xe_aload 0).trans (congrArg (x_aload 0) ((xe_g1 (kk := 111) rfl tl_11_84).trans (congrArg (x_g1 111 284) ((xe_iconst 3).trans (congrArg (x_iconst 3) ((xe_iload 4).trans (congrArg (x_iload 4) ((xe_imul).trans (congrArg (x_imul) ((xe_iconst 2).trans (congrArg (x_iconst 2) ((xe_iadd).trans (congrArg (x_iadd) ((xe_dup2).trans (congrArg (x_dup2) ((xe_iaload).trans (congrArg (x_iaload) ((xe_aload 0).trans (congrArg (x_aload 0) ((xe_g0 (kk := 111) rfl tl_11_82).trans (congrArg (x_g0 111 82 (-2147483648) 2147483647) ((xe_iadd).trans (congrArg (x_iadd) ((xe_iastore).trans (congrArg (x_iastore) ((xe_aload 0).trans (congrArg (x_aload 0) ((xe_g1 (kk := 111) rfl tl_11_84).trans (congrArg (x_g1 111 284) ((xe_iconst 3).trans (congrArg (x_iconst 3) ((xe_iload 5).trans (congrArg (x_iload 5) ((xe_imul).trans (congrArg (x_imul) ((xe_iconst 2).trans (congrArg (x_iconst 2) ((xe_iadd).trans (congrArg (x_iadd) ((xe_dup2).trans (congrArg (x_dup2) ((xe_iaload).trans (congrArg (x_iaload) ((xe_aload 0).trans (congrArg (x_aload 0) ((xe_g0 (kk := 111) rfl tl_11_83).trans (congrArg (x_g0 111 83 (-2147483648) 2147483647) ((xe_iadd).trans (congrArg (x_iadd) ((xe_iastore).trans (congrArg (x_iastore) xe_nil))))))))))))))))))))))))))))))))))))))))))))))))))))))))))))))))))))))))))))))))))))))))))))))))))))))))))))))))))))))))
theorem bk_X11_sayHead_7 : ck_ fX11 none cX11_sayHead 7 [.iload 3, .aload 0, .tableswitch 0 11 10 #[], .iload 1, .iaload, .aload 0, .tableswitch 0 11 11 #[], .iload 1, .iaload, .iadd, .if_icmp .ge 236, .aload 0, .tableswitch 0 11 32 #[], .iload 3, .iaload, .istore 4, .aload 0, .tableswitch 0 11 33 #[], .iload 3, .iaload, .istore 5, .aload 0, .tableswitch 0 11 85 #[], .iload 4, .ishr, .iconst 1, .iand, .iconst 1, .if_icmp .ne 230, .aload 0, .tableswitch 0 11 85 #[], .iload 5, .ishr, .iconst 1, .iand, .iconst 1, .if_icmp .ne 230, .aload 0, .iload 3, .iload 2] 69 = true := qck_r (nn_ _) (by decide +kernel)
theorem bs_X11_sayHead_7 {P : Zt → Option Zv → Prop} (K : Int → Zl → List Zv → Zt → Prop) : sx_ K P [.iload 3, .aload 0, .tableswitch 0 11 10 #[], .iload 1, .iaload, .aload 0, .tableswitch 0 11 11 #[], .iload 1, .iaload, .iadd, .if_icmp .ge 236, .aload 0, .tableswitch 0 11 32 #[], .iload 3, .iaload, .istore 4, .aload 0, .tableswitch 0 11 33 #[], .iload 3, .iaload, .istore 5, .aload 0, .tableswitch 0 11 85 #[], .iload 4, .ishr, .iconst 1, .iand, .iconst 1, .if_icmp .ne 230, .aload 0, .tableswitch 0 11 85 #[], .iload 5, .ishr, .iconst 1, .iand, .iconst 1, .if_icmp .ne 230, .aload 0, .iload 3, .iload 2] 69 = x_iload 3 (x_aload 0 (x_g1 111 210 (x_iload 1 (x_iaload (x_aload 0 (x_g1 111 211 (x_iload 1 (x_iaload (x_iadd (x_if_icmp .ge 236 K (x_aload 0 (x_g1 111 232 (x_iload 3 (x_iaload (x_istore 4 (x_aload 0 (x_g1 111 233 (x_iload 3 (x_iaload (x_istore 5 (x_aload 0 (x_g0 111 85 0 4095 (x_iload 4 (x_ishr (x_iconst 1 (x_iand (x_iconst 1 (x_if_icmp .ne 230 K (x_aload 0 (x_g0 111 85 0 4095 (x_iload 5 (x_ishr (x_iconst 1 (x_iand (x_iconst 1 (x_if_icmp .ne 230 K (x_aload 0 (x_iload 3 (x_iload 2 (K 69)))))))))))))))))))))))))))))))))))))))) := ((xe_iload 3).trans (congrArg (x_iload 3) ((xe_aload 0).trans (congrArg (x_aload 0) ((xe_g1 (kk := 111) rfl tl_11_10).trans (congrArg (x_g1 111 210) ((xe_iload 1).trans (congrArg (x_iload 1) ((xe_iaload).trans (congrArg (x_iaload) ((xe_aload 0).trans (congrArg (x_aload 0) ((xe_g1 (kk := 111) rfl tl_11_11).trans (congrArg (x_g1 111 211) ((xe_iload 1).trans (congrArg (x_iload 1) ((xe_iaload).trans (congrArg (x_iaload) ((xe_iadd).trans (congrArg (x_iadd) ((xe_if_icmp .ge 236).trans (congrArg (x_if_icmp .ge 236 K) ((xe_aload 0).trans (congrArg (x_aload 0) ((xe_g1 (kk := 111) rfl tl_11_32).trans (congrArg (x_g1 111 232) ((xe_iload 3).trans (congrArg (x_iload 3) ((xe_iaload).trans (congrArg (x_iaload) ((xe_istore 4).trans (congrArg (x_istore 4) ((xe_aload 0).trans (congrArg (x_aload 0) ((xe_g1 (kk := 111) rfl tl_11_33).trans (congrArg (x_g1 111 233) ((xe_iload 3).trans (congrArg (x_iload 3) ((xe_iaload).trans (congrArg (x_iaload) ((xe_istore 5).trans (congrArg (x_istore 5) ((xe_aload 0).trans (congrArg (x_aload 0) ((xe_g0 (kk := 111) rfl tl_11_85).trans (congrArg (x_g0 111 85 0 4095) ((xe_iload 4).trans (congrArg (x_iload 4) ((xe_ishr).trans (congrArg (x_ishr) ((xe_iconst 1).trans (congrArg (x_iconst 1) ((xe_iand).trans (congrArg (x_iand) ((xe_iconst 1).trans (congrArg (x_iconst 1) ((xe_if_icmp .ne 230).trans (congrArg (x_if_icmp .ne 230 K) ((xe_aload 0).trans (congrArg (x_aload 0) ((xe_g0 (kk := 111) rfl tl_11_85).trans (congrArg (x_g0 111 85 0 4095) ((xe_iload 5).trans (congrArg (x_iload 5) ((xe_ishr).trans (congrArg (x_ishr) ((xe_iconst 1).trans (congrArg (x_iconst 1) ((xe_iand).trans (congrArg (x_iand) ((xe_iconst 1).trans (congrArg (x_iconst 1) ((xe_if_icmp .ne 230).trans (congrArg (x_if_icmp .ne 230 K) ((xe_aload 0).trans (congrArg (x_aload 0) ((xe_iload 3).trans (congrArg (x_iload 3) ((xe_iload 2).trans (congrArg (x_iload 2) xe_nil))))))))))))))))))))))))))))))))))))))))))))))))))))))))))))))))))))))))))))))))
theorem bk_X11_sayHead_236 : ck_ fX11 none cX11_sayHead 236 [.return_] 237 = true := qck_r (nn_ _) (by decide +kernel)
theorem bs_X11_sayHead_236 {P : Zt → Option Zv → Prop} (K : Int → Zl → List Zv → Zt → Prop) : sx_ K P [.return_] 237 = x_return_ P := (xe_return_)
theorem bk_X11_sayHead_72 : ck_ fX11 none cX11_sayHead 72 [.ifCond .eq 230, .aload 0, .tableswitch 0 11 82 #[], .aload 0, .tableswitch 0 11 83 #[], .if_icmp .le 90, .iconst 1, .goto 106] 90 = true := qck_r (nn_ _) (by decide +kernel)
theorem bs_X11_sayHead_72 {P : Zt → Option Zv → Prop} (K : Int → Zl → List Zv → Zt → Prop) : sx_ K P [.ifCond .eq 230, .aload 0, .tableswitch 0 11 82 #[], .aload 0, .tableswitch 0 11 83 #[], .if_icmp .le 90, .iconst 1, .goto 106] 90 = x_ifCond .eq 230 K (x_aload 0 (x_g0 111 82 (-2147483648) 2147483647 (x_aload 0 (x_g0 111 83 (-2147483648) 2147483647 (x_if_icmp .le 90 K (x_iconst 1 (x_goto 106 K))))))) := ((xe_ifCond .eq 230).trans (congrArg (x_ifCond .eq 230 K) ((xe_aload 0).trans (congrArg (x_aload 0) ((xe_g0 (kk := 111) rfl tl_11_82).trans (congrArg (x_g0 111 82 (-2147483648) 2147483647) ((xe_aload 0).trans (congrArg (x_aload 0) ((xe_g0 (kk := 111) rfl tl_11_83).trans (congrArg (x_g0 111 83 (-2147483648) 2147483647) ((xe_if_icmp .le 90).trans (congrArg (x_if_icmp .le 90 K) ((xe_iconst 1).trans (congrArg (x_iconst 1) (xe_goto 106)))))))))))))))
theorem bk_X11_sayHead_90 : ck_ fX11 none cX11_sayHead 90 [.aload 0, .tableswitch 0 11 82 #[], .aload 0, .tableswitch 0 11 83 #[], .if_icmp .ne 105, .iconst 2, .goto 106] 105 = true := qck_r (nn_ _) (by decide +kernel)
theorem bs_X11_sayHead_90 {P : Zt → Option Zv → Prop} (K : Int → Zl → List Zv → Zt → Prop) : sx_ K P [.aload 0, .tableswitch 0 11 82 #[], .aload 0, .tableswitch 0 11 83 #[], .if_icmp .ne 105, .iconst 2, .goto 106] 105 = x_aload 0 (x_g0 111 82 (-2147483648) 2147483647 (x_aload 0 (x_g0 111 83 (-2147483648) 2147483647 (x_if_icmp .ne 105 K (x_iconst 2 (x_goto 106 K)))))) := ((xe_aload 0).trans (congrArg (x_aload 0) ((xe_g0 (kk := 111) rfl tl_11_82).trans (congrArg (x_g0 111 82 (-2147483648) 2147483647) ((xe_aload 0).trans (congrArg (x_aload 0) ((xe_g0 (kk := 111) rfl tl_11_83).trans (congrArg (x_g0 111 83 (-2147483648) 2147483647) ((xe_if_icmp .ne 105).trans (congrArg (x_if_icmp .ne 105 K) ((xe_iconst 2).trans (congrArg (x_iconst 2) (xe_goto 106)))))))))))))
theorem bk_X11_sayHead_105 : ck_ fX11 none cX11_sayHead 105 [.iconst 3] 106 = true := qck_r (nn_ _) (by decide +kernel)
theorem bs_X11_sayHead_105 {P : Zt → Option Zv → Prop} (K : Int → Zl → List Zv → Zt → Prop) : sx_ K P [.iconst 3] 106 = x_iconst 3 (K 106) := ((xe_iconst 3).trans (congrArg (x_iconst 3) xe_nil))
theorem bk_X11_sayHead_0 : ck_ fX11 none cX11_sayHead 0 [.aload 0, .tableswitch 0 11 10 #[], .iload 1, .iaload, .istore 3] 7 = true := qck_r (nn_ _) (by decide +kernel)
theorem bs_X11_sayHead_0 {P : Zt → Option Zv → Prop} (K : Int → Zl → List Zv → Zt → Prop) : sx_ K P [.aload 0, .tableswitch 0 11 10 #[], .iload 1, .iaload, .istore 3] 7 = x_aload 0 (x_g1 111 210 (x_iload 1 (x_iaload (x_istore 3 (K 7))))) := ((xe_aload 0).trans (congrArg (x_aload 0) ((xe_g1 (kk := 111) rfl tl_11_10).trans (congrArg (x_g1 111 210) ((xe_iload 1).trans (congrArg (x_iload 1) ((xe_iaload).trans (congrArg (x_iaload) ((xe_istore 3).trans (congrArg (x_istore 3) xe_nil))))))))))
abbrev po_X11_sayHead (T : Zt) (bb : Int) (c d : Int) : Zt → Option Zv → Prop := fun T' r => r = none ∧ fr_ [(284, []), (111, [82, 83])] T T' ∧ (SA_ T' (bb + 48000000))
set_option maxHeartbeats 4000000 in
theorem ct_X11_sayHead {T : Zt} {bb : Int} {c d : Int} (h1 : 0 ≤ c ∧ c < 4) (hml : ML_ T) (hsc : SC_ T) (hbb : 0 ≤ bb ∧ bb ≤ 500000000) (hsa : SA_ T bb) : Ct_ yX11_sayHead zX11_sayHead T [vR 111 0, vI c, vI d] (po_X11_sayHead T bb c d) := by
  refine ct_of pn_11 rfl rfl (Nat.le_of_ble_eq_true rfl) (fun hT hav => ?_)
  have hr_c : -2147483648 ≤ c ∧ c ≤ 2147483647 := hav (vI c) (List.mem_cons_of_mem _ List.mem_cons_self)
  have hr_d : -2147483648 ≤ d ∧ d ≤ 2147483647 := hav (vI d) (List.mem_cons_of_mem _ (List.mem_cons_of_mem _ List.mem_cons_self))
  have hz : zX11_sayHead.2.2.2.1 = some .boolean → ∀ (T' : Zt) (x : Int), po_X11_sayHead T bb c d T' (some (vI x)) → 0 ≤ x ∧ x ≤ 1 := fun h => by cases h
  have hb_29 : 0 ≤ T 111 0 29 ∧ T 111 0 29 ≤ 400 := bd_f hT 111 29 tl_11_29 0
  have hmc := hml c (by omega) (by omega)
  have hfo : 0 ≤ T 210 0 c ∧ T 210 0 c ≤ 400 := bd_a hT 210 (by decide +kernel : ta_ 210 = some (1, some 4, 0, 400)) 0 (by omega)
  show J_ zX11_sayHead T (po_X11_sayHead T bb c d) 0 0 0 [some (vR 111 0), some (vI c), some (vI d), none, none, none, none] [] T
  have c_7 : ∀ (nn : Nat) (m : Int) (T1 : Zt), ((400 - m).toNat) ≤ nn → (fr_ [(284, []), (111, [82, 83])] T T1) → (SA_ T1 (bb + 120000 * (m - T 210 0 c))) → (T 210 0 c ≤ m ∧ m ≤ 400) → J_ zX11_sayHead T (po_X11_sayHead T bb c d) 0 0 7 [some (vR 111 0), some (vI c), some (vI d), some (vI m), none, none, none] [] T1 := by
    intro nn
    induction nn using Nat.strongRecOn with
    | _ nn ih_7 =>
      intro m T1 hm_7 hf_7 sa1 i1
      replace hm_7 := fun (_ : Unit) => hm_7
      have c_230 : ∀ (T3 : Zt), (fr_ [(284, []), (111, [82, 83])] T T3) → (SA_ T3 (bb + 120000 * (m - T 210 0 c) + 120000)) → (m < 400) → J_ zX11_sayHead T (po_X11_sayHead T bb c d) 0 0 230 [some (vR 111 0), some (vI c), some (vI d), some (vI m), none, none, none] [] T3 := by
        intro T3 hf_230 sa3 i3
        refine j_blx (F := fX11) tb_X11 (nn_ _) bk_X11_sayHead_230 bs_X11_sayHead_230 hz (fun K hK => ?_)
        refine rg_i (by omega) ?_
        refine hK 7 [some (vR 111 0), some (vI c), some (vI d), some (vI (m + 1)), none, none, none] [] T3 ?_
        refine ih_7 _ ?_ (m + 1) T3 (Nat.le_refl _) ?_ ?_ ?_
        · have hm_7 := hm_7 (); omega
        · exact fr_t (fr_0 _ _) (fr_s hf_230 rfl)
        · exact sa_m (sa3) (by omega)
        · omega
      have c_106 : ∀ (v : Int) (T2 : Zt), (fr_ [(284, []), (111, [82, 83])] T T2) → (SA_ T2 (bb + 120000 * (m - T 210 0 c))) → (1 ≤ v ∧ v ≤ 3 ∧ m < 400 ∧ (0 ≤ T2 111 0 82 ∧ T2 111 0 82 ≤ 20000) ∧ (0 ≤ T2 111 0 83 ∧ T2 111 0 83 ≤ 20000) ∧ 0 ≤ T 232 0 m ∧ T 232 0 m ≤ 11 ∧ 0 ≤ T 233 0 m ∧ T 233 0 m ≤ 11) → J_ zX11_sayHead T (po_X11_sayHead T bb c d) 0 0 106 [some (vR 111 0), some (vI c), some (vI d), some (vI m), some (vI (T 232 0 m)), some (vI (T 233 0 m)), none] [vI v] T2 := by
        intro v T2 hf_106 sa2 i2
        have hra : (-1) ≤ T 205 0 (23 * c + v) ∧ T 205 0 (23 * c + v) ≤ 999 := bd_a hT 205 (by decide +kernel : ta_ 205 = some (1, some 92, (-1), 999)) 0 (by omega)
        have hrb : (-1) ≤ T 205 0 (23 * c + (4 - v)) ∧ T 205 0 (23 * c + (4 - v)) ≤ 999 := bd_a hT 205 (by decide +kernel : ta_ 205 = some (1, some 92, (-1), 999)) 0 (by omega)
        refine j_blx (F := fX11) tb_X11 (nn_ _) bk_X11_sayHead_106 bs_X11_sayHead_106 hz (fun K hK => ?_)
        refine rg_i (by omega) ?_
        refine ix_i (by omega) ?_
        intro b1 b1b
        refine hK 122 [some (vR 111 0), some (vI c), some (vI d), some (vI m), some (vI (T 232 0 m)), some (vI (T 233 0 m)), some (vI v)] [vI v, vI c, vR 111 0, vI (T2 284 0 (3 * (T 232 0 m))), vI (3 * (T 232 0 m)), vR 284 0] T2 ?_
        refine j_callV (y := yX11_rule0) (Yc := zX11_rule0) (rest := [vI (T2 284 0 (3 * (T 232 0 m))), vI (3 * (T 232 0 m)), vR 284 0]) [vI c, vI v] (ct_X11_rule0 (T := T2) (by omega) (by omega)) cl_X11_321 (qd_c (by decide +kernel)) (nn_ _) rfl (rf_of rfl) (Nat.le_of_ble_eq_true rfl) (Nat.le_of_ble_eq_true rfl) (Nat.le_of_ble_eq_true rfl) rfl ?_
        rintro _ _ ⟨rfl, rfl⟩
        have e2 : T2 205 0 (23 * c + v) = T 205 0 (23 * c + v) := hf_106 205 0 (23 * c + v) rfl
        show J_ zX11_sayHead T (po_X11_sayHead T bb c d) 0 0 125 _ [vI (T2 205 0 (23 * c + v)), vI (T2 284 0 (3 * (T 232 0 m))), vI (3 * (T 232 0 m)), vR 284 0] T2
        refine j_blx (F := fX11) tb_X11 (nn_ _) bk_X11_sayHead_125 bs_X11_sayHead_125 hz (fun K hK => ?_)
        have t3 : -(bb + 120000 * (m - T 210 0 c)) ≤ T2 284 0 (3 * (T 232 0 m)) ∧ T2 284 0 (3 * (T 232 0 m)) ≤ bb + 120000 * (m - T 210 0 c) := (sa2) (3 * (T 232 0 m)) (by omega) (by omega)
        refine rg_i (by omega) ?_
        refine iy_i (by omega) (by omega) ?_
        refine x_nm (fun U4 hU4 => ?_)
        have e5 := up_f hU4
        refine rg_i (by omega) ?_
        refine ix_i (by omega) ?_
        intro b6 b6b
        refine rg_i (by omega) ?_
        refine hK 143 _ [vI (4 - v), vI c, vR 111 0, vI (U4 284 0 (3 * (T 233 0 m))), vI (3 * (T 233 0 m)), vR 284 0] U4 ?_
        refine j_callV (y := yX11_rule0) (Yc := zX11_rule0) (rest := [vI (U4 284 0 (3 * (T 233 0 m))), vI (3 * (T 233 0 m)), vR 284 0]) [vI c, vI (4 - v)] (ct_X11_rule0 (T := U4) (by omega) (by omega)) cl_X11_321 (qd_c (by decide +kernel)) (nn_ _) rfl (rf_of rfl) (Nat.le_of_ble_eq_true rfl) (Nat.le_of_ble_eq_true rfl) (Nat.le_of_ble_eq_true rfl) rfl ?_
        rintro _ _ ⟨rfl, rfl⟩
        have e7 : U4 205 0 (23 * c + (4 - v)) = T 205 0 (23 * c + (4 - v)) := (up_k hU4 (by exact Nat.ne_of_beq_eq_false rfl) 0 (23 * c + (4 - v))).trans (hf_106 205 0 (23 * c + (4 - v)) rfl)
        show J_ zX11_sayHead T (po_X11_sayHead T bb c d) 0 0 146 _ [vI (U4 205 0 (23 * c + (4 - v))), vI (U4 284 0 (3 * (T 233 0 m))), vI (3 * (T 233 0 m)), vR 284 0] U4
        refine j_blx (F := fX11) tb_X11 (nn_ _) bk_X11_sayHead_146 bs_X11_sayHead_146 hz (fun K hK => ?_)
        have t8 : -(bb + 120000 * (m - T 210 0 c) + 20000) ≤ U4 284 0 (3 * (T 233 0 m)) ∧ U4 284 0 (3 * (T 233 0 m)) ≤ bb + 120000 * (m - T 210 0 c) + 20000 := (sa_u (d := 20000) (sa2) hU4 (by decide) (by omega)) (3 * (T 233 0 m)) (by omega) (by omega)
        refine rg_i (by omega) ?_
        refine iy_i (by omega) (by omega) ?_
        refine x_nm (fun U9 hU9 => ?_)
        have e10 := up_f hU9
        refine rg_i (by omega) ?_
        refine rg_i (by omega) ?_
        refine ix_i (by omega) ?_
        intro b11 b11b
        intro b12 b12b
        have e13 : U9 111 0 82 = T2 111 0 82 := (up_k hU9 (by exact Nat.ne_of_beq_eq_false rfl) 0 82).trans (up_k hU4 (by exact Nat.ne_of_beq_eq_false rfl) 0 82)
        rw [e13] at b12 b12b ⊢
        intro b14 b14b
        have e15 : U9 111 0 83 = T2 111 0 83 := (up_k hU9 (by exact Nat.ne_of_beq_eq_false rfl) 0 83).trans (up_k hU4 (by exact Nat.ne_of_beq_eq_false rfl) 0 83)
        rw [e15] at b14 b14b ⊢
        refine rg_i (by omega) ?_
        have t16 : -(bb + 120000 * (m - T 210 0 c) + 20000 + 20000) ≤ U9 284 0 ((3 * (T 232 0 m)) + 1) ∧ U9 284 0 ((3 * (T 232 0 m)) + 1) ≤ bb + 120000 * (m - T 210 0 c) + 20000 + 20000 := (sa_u (d := 20000) (sa_u (d := 20000) (sa2) hU4 (by decide) (by omega)) hU9 (by decide) (by omega)) ((3 * (T 232 0 m)) + 1) (by omega) (by omega)
        refine rg_i (by omega) ?_
        refine iy_i (by omega) (by omega) ?_
        refine x_nm (fun U17 hU17 => ?_)
        have e18 := up_f hU17
        refine rg_i (by omega) ?_
        refine rg_i (by omega) ?_
        refine ix_i (by omega) ?_
        intro b19 b19b
        intro b20 b20b
        have e21 : U17 111 0 83 = T2 111 0 83 := (up_k hU17 (by exact Nat.ne_of_beq_eq_false rfl) 0 83).trans ((up_k hU9 (by exact Nat.ne_of_beq_eq_false rfl) 0 83).trans (up_k hU4 (by exact Nat.ne_of_beq_eq_false rfl) 0 83))
        rw [e21] at b20 b20b ⊢
        intro b22 b22b
        have e23 : U17 111 0 82 = T2 111 0 82 := (up_k hU17 (by exact Nat.ne_of_beq_eq_false rfl) 0 82).trans ((up_k hU9 (by exact Nat.ne_of_beq_eq_false rfl) 0 82).trans (up_k hU4 (by exact Nat.ne_of_beq_eq_false rfl) 0 82))
        rw [e23] at b22 b22b ⊢
        refine rg_i (by omega) ?_
        have t24 : -(bb + 120000 * (m - T 210 0 c) + 20000 + 20000 + 20000) ≤ U17 284 0 ((3 * (T 233 0 m)) + 1) ∧ U17 284 0 ((3 * (T 233 0 m)) + 1) ≤ bb + 120000 * (m - T 210 0 c) + 20000 + 20000 + 20000 := (sa_u (d := 20000) (sa_u (d := 20000) (sa_u (d := 20000) (sa2) hU4 (by decide) (by omega)) hU9 (by decide) (by omega)) hU17 (by decide) (by omega)) ((3 * (T 233 0 m)) + 1) (by omega) (by omega)
        refine rg_i (by omega) ?_
        refine iy_i (by omega) (by omega) ?_
        refine x_nm (fun U25 hU25 => ?_)
        have e26 := up_f hU25
        refine rg_i (by omega) ?_
        refine rg_i (by omega) ?_
        refine ix_i (by omega) ?_
        intro b27 b27b
        intro b28 b28b
        have e29 : U25 111 0 82 = T2 111 0 82 := (up_k hU25 (by exact Nat.ne_of_beq_eq_false rfl) 0 82).trans ((up_k hU17 (by exact Nat.ne_of_beq_eq_false rfl) 0 82).trans ((up_k hU9 (by exact Nat.ne_of_beq_eq_false rfl) 0 82).trans (up_k hU4 (by exact Nat.ne_of_beq_eq_false rfl) 0 82)))
        rw [e29] at b28 b28b ⊢
        have t30 : -(bb + 120000 * (m - T 210 0 c) + 20000 + 20000 + 20000 + 20000) ≤ U25 284 0 ((3 * (T 232 0 m)) + 2) ∧ U25 284 0 ((3 * (T 232 0 m)) + 2) ≤ bb + 120000 * (m - T 210 0 c) + 20000 + 20000 + 20000 + 20000 := (sa_u (d := 20000) (sa_u (d := 20000) (sa_u (d := 20000) (sa_u (d := 20000) (sa2) hU4 (by decide) (by omega)) hU9 (by decide) (by omega)) hU17 (by decide) (by omega)) hU25 (by decide) (by omega)) ((3 * (T 232 0 m)) + 2) (by omega) (by omega)
        refine rg_i (by omega) ?_
        refine iy_i (by omega) (by omega) ?_
        refine x_nm (fun U31 hU31 => ?_)
        have e32 := up_f hU31
        refine rg_i (by omega) ?_
        refine rg_i (by omega) ?_
        refine ix_i (by omega) ?_
        intro b33 b33b
        intro b34 b34b
        have e35 : U31 111 0 83 = T2 111 0 83 := (up_k hU31 (by exact Nat.ne_of_beq_eq_false rfl) 0 83).trans ((up_k hU25 (by exact Nat.ne_of_beq_eq_false rfl) 0 83).trans ((up_k hU17 (by exact Nat.ne_of_beq_eq_false rfl) 0 83).trans ((up_k hU9 (by exact Nat.ne_of_beq_eq_false rfl) 0 83).trans (up_k hU4 (by exact Nat.ne_of_beq_eq_false rfl) 0 83))))
        rw [e35] at b34 b34b ⊢
        have t36 : -(bb + 120000 * (m - T 210 0 c) + 20000 + 20000 + 20000 + 20000 + 20000) ≤ U31 284 0 ((3 * (T 233 0 m)) + 2) ∧ U31 284 0 ((3 * (T 233 0 m)) + 2) ≤ bb + 120000 * (m - T 210 0 c) + 20000 + 20000 + 20000 + 20000 + 20000 := (sa_u (d := 20000) (sa_u (d := 20000) (sa_u (d := 20000) (sa_u (d := 20000) (sa_u (d := 20000) (sa2) hU4 (by decide) (by omega)) hU9 (by decide) (by omega)) hU17 (by decide) (by omega)) hU25 (by decide) (by omega)) hU31 (by decide) (by omega)) ((3 * (T 233 0 m)) + 2) (by omega) (by omega)
        refine rg_i (by omega) ?_
        refine iy_i (by omega) (by omega) ?_
        refine x_nm (fun U37 hU37 => ?_)
        have e38 := up_f hU37
        refine hK 230 _ [] U37 ?_
        refine j_drop [some (vR 111 0), some (vI c), some (vI d), some (vI m), none, none, none] (fun k v hk => ?_) rfl ?_
        · match k, hk with
          | 0, hk => exact hk
          | 1, hk => exact hk
          | 2, hk => exact hk
          | 3, hk => exact hk
          | 4, hk => cases hk
          | 5, hk => cases hk
          | 6, hk => cases hk
          | k + 7, hk => cases hk
        refine c_230 U37 ?_ ?_ ?_
        · exact fr_u (fr_u (fr_u (fr_u (fr_u (fr_u (fr_t (fr_0 _ _) (fr_s hf_106 rfl)) hU4 rfl) hU9 rfl) hU17 rfl) hU25 rfl) hU31 rfl) hU37 rfl
        · exact sa_m (sa_u (d := 20000) (sa_u (d := 20000) (sa_u (d := 20000) (sa_u (d := 20000) (sa_u (d := 20000) (sa_u (d := 20000) (sa2) hU4 (by decide) (by omega)) hU9 (by decide) (by omega)) hU17 (by decide) (by omega)) hU25 (by decide) (by omega)) hU31 (by decide) (by omega)) hU37 (by decide) (by omega)) (by omega)
        · omega
      refine j_blx (F := fX11) tb_X11 (nn_ _) bk_X11_sayHead_7 bs_X11_sayHead_7 hz (fun K hK => ?_)
      refine ix_i (by omega) ?_
      intro b39 b39b
      have e40 : T1 210 0 c = T 210 0 c := hf_7 210 0 c rfl
      rw [e40] at b39 b39b ⊢
      refine ix_i (by omega) ?_
      intro b41 b41b
      have e42 : T1 211 0 c = T 211 0 c := hf_7 211 0 c rfl
      rw [e42] at b41 b41b ⊢
      refine rg_i (by omega) ?_
      refine And.intro (fun c43 => ?_) (fun c43 => ?_)
      · refine hK 236 _ [] T1 ?_
        refine j_blx (F := fX11) tb_X11 (nn_ _) bk_X11_sayHead_236 bs_X11_sayHead_236 hz (fun K hK => ?_)
        refine (show po_X11_sayHead T bb c d T1 (none) from ?_)
        exact ⟨rfl, fr_t (fr_0 _ _) (fr_s hf_7 rfl), sa_m sa1 (by omega)⟩
      · refine ix_i (by omega) ?_
        intro b44 b44b
        have e45 : T1 232 0 m = T 232 0 m := hf_7 232 0 m rfl
        rw [e45] at b44 b44b ⊢
        refine ix_i (by omega) ?_
        intro b46 b46b
        have e47 : T1 233 0 m = T 233 0 m := hf_7 233 0 m rfl
        rw [e47] at b46 b46b ⊢
        intro b48 b48b
        have e49 : T1 111 0 85 = T 111 0 85 := hf_7 111 0 85 rfl
        rw [e49] at b48 b48b ⊢
        intro w50 w50b
        intro w51 w51b
        refine And.intro (fun c52 => ?_) (fun c52 => ?_)
        · refine hK 230 [some (vR 111 0), some (vI c), some (vI d), some (vI m), some (vI (T 232 0 m)), some (vI (T 233 0 m)), none] [] T1 ?_
          refine j_drop [some (vR 111 0), some (vI c), some (vI d), some (vI m), none, none, none] (fun k v hk => ?_) rfl ?_
          · match k, hk with
            | 0, hk => exact hk
            | 1, hk => exact hk
            | 2, hk => exact hk
            | 3, hk => exact hk
            | 4, hk => cases hk
            | 5, hk => cases hk
            | 6, hk => cases hk
            | k + 7, hk => cases hk
          refine c_230 T1 ?_ ?_ ?_
          · exact fr_t (fr_0 _ _) (fr_s hf_7 rfl)
          · exact sa_m (sa1) (by omega)
          · omega
        · intro b53 b53b
          have e54 : T1 111 0 85 = T 111 0 85 := hf_7 111 0 85 rfl
          rw [e54] at b53 b53b ⊢
          intro w55 w55b
          intro w56 w56b
          refine And.intro (fun c57 => ?_) (fun c57 => ?_)
          · refine hK 230 [some (vR 111 0), some (vI c), some (vI d), some (vI m), some (vI (T 232 0 m)), some (vI (T 233 0 m)), none] [] T1 ?_
            refine j_drop [some (vR 111 0), some (vI c), some (vI d), some (vI m), none, none, none] (fun k v hk => ?_) rfl ?_
            · match k, hk with
              | 0, hk => exact hk
              | 1, hk => exact hk
              | 2, hk => exact hk
              | 3, hk => exact hk
              | 4, hk => cases hk
              | 5, hk => cases hk
              | 6, hk => cases hk
              | k + 7, hk => cases hk
            refine c_230 T1 ?_ ?_ ?_
            · exact fr_t (fr_0 _ _) (fr_s hf_7 rfl)
            · exact sa_m (sa1) (by omega)
            · omega
          · refine hK 69 [some (vR 111 0), some (vI c), some (vI d), some (vI m), some (vI (T 232 0 m)), some (vI (T 233 0 m)), none] [vI d, vI m, vR 111 0] T1 ?_
            refine j_callV (y := yX11_counts) (Yc := zX11_counts) (rest := []) [vI m, vI d] (ct_X11_counts (T := T1) (by omega) (SC__f (ws := [(284, []), (111, [82, 83])]) hsc (fr_t (fr_0 _ _) (fr_s hf_7 rfl)) ⟨fun _ => rfl, fun _ => rfl, trivial⟩)) cl_X11_487 (qd_c (by decide +kernel)) (nn_ _) rfl (rf_of rfl) (Nat.le_of_ble_eq_true rfl) (Nat.le_of_ble_eq_true rfl) (Nat.le_of_ble_eq_true rfl) rfl ?_
            rintro U58 _ ⟨x59, rfl, fU58, qU58⟩
            show J_ zX11_sayHead T (po_X11_sayHead T bb c d) 0 0 72 _ [vI x59] U58
            refine j_blx (F := fX11) tb_X11 (nn_ _) bk_X11_sayHead_72 bs_X11_sayHead_72 hz (fun K hK => ?_)
            refine And.intro (fun c60 => ?_) (fun c60 => ?_)
            · refine hK 230 _ [] U58 ?_
              refine j_drop [some (vR 111 0), some (vI c), some (vI d), some (vI m), none, none, none] (fun k v hk => ?_) rfl ?_
              · match k, hk with
                | 0, hk => exact hk
                | 1, hk => exact hk
                | 2, hk => exact hk
                | 3, hk => exact hk
                | 4, hk => cases hk
                | 5, hk => cases hk
                | 6, hk => cases hk
                | k + 7, hk => cases hk
              refine c_230 U58 ?_ ?_ ?_
              · exact fr_t (fr_t (fr_0 _ _) (fr_s hf_7 rfl)) (fr_s fU58 rfl)
              · exact sa_m (sa_f (sa1) (fun j => fU58 284 0 j rfl)) (by omega)
              · omega
            · intro b61 b61b
              intro b62 b62b
              refine And.intro (fun c63 => ?_) (fun c63 => ?_)
              · refine hK 90 [some (vR 111 0), some (vI c), some (vI d), some (vI m), some (vI (T 232 0 m)), some (vI (T 233 0 m)), none] [] U58 ?_
                refine j_blx (F := fX11) tb_X11 (nn_ _) bk_X11_sayHead_90 bs_X11_sayHead_90 hz (fun K hK => ?_)
                intro b64 b64b
                intro b65 b65b
                refine And.intro (fun c66 => ?_) (fun c66 => ?_)
                · refine hK 105 _ [] U58 ?_
                  refine j_blx (F := fX11) tb_X11 (nn_ _) bk_X11_sayHead_105 bs_X11_sayHead_105 hz (fun K hK => ?_)
                  refine hK 106 _ [vI 3] U58 ?_
                  refine c_106 3 U58 ?_ ?_ ?_
                  · exact fr_t (fr_t (fr_0 _ _) (fr_s hf_7 rfl)) (fr_s fU58 rfl)
                  · exact sa_m (sa_f (sa1) (fun j => fU58 284 0 j rfl)) (by omega)
                  · omega
                · refine hK 106 _ [vI 2] U58 ?_
                  refine c_106 2 U58 ?_ ?_ ?_
                  · exact fr_t (fr_t (fr_0 _ _) (fr_s hf_7 rfl)) (fr_s fU58 rfl)
                  · exact sa_m (sa_f (sa1) (fun j => fU58 284 0 j rfl)) (by omega)
                  · omega
              · refine hK 106 _ [vI 1] U58 ?_
                refine c_106 1 U58 ?_ ?_ ?_
                · exact fr_t (fr_t (fr_0 _ _) (fr_s hf_7 rfl)) (fr_s fU58 rfl)
                · exact sa_m (sa_f (sa1) (fun j => fU58 284 0 j rfl)) (by omega)
                · omega
  refine j_blx (F := fX11) tb_X11 (nn_ _) bk_X11_sayHead_0 bs_X11_sayHead_0 hz (fun K hK => ?_)
  refine ix_i (by omega) ?_
  intro b67 b67b
  refine hK 7 [some (vR 111 0), some (vI c), some (vI d), some (vI (T 210 0 c)), none, none, none] [] T ?_
  refine c_7 _ (T 210 0 c) T (Nat.le_refl _) ?_ ?_ ?_
  · exact fr_0 _ _
  · exact sa_m (hsa) (by omega)
  · omega
