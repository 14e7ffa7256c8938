abbrev cX11_canTry : ByteArray := prog_13_method_105_code
def yX11_canTry : MethodName := ⟨RX11, "canTry", "(II)I"⟩
def zX11_canTry : Zm := (RX11, cX11_canTry, 7, (some .int), { frames := 2, cells := 0, slots := 0, locals := 48 })
theorem bk_X11_canTry_203 : ck_ fX11 (some .int) cX11_canTry 203 [.iload 6, .iload 4, .if_icmp .ge 231, .iload 5, .ifCond .ne 231, .aload 0, .iload 1, .iload 3, .iload 6] 220 = true := qck_r (nn_ _) (by decide +kernel)
theorem bs_X11_canTry_203 {P : Zt → Option Zv → Prop} (K : Int → Zl → List Zv → Zt → Prop) : sx_ K P [.iload 6, .iload 4, .if_icmp .ge 231, .iload 5, .ifCond .ne 231, .aload 0, .iload 1, .iload 3, .iload 6] 220 = x_iload 6 (x_iload 4 (x_if_icmp .ge 231 K (x_iload 5 (x_ifCond .ne 231 K (x_aload 0 (x_iload 1 (x_iload 3 (x_iload 6 (K 220))))))))) := ((xe_iload 6).trans (congrArg (x_iload 6) ((xe_iload 4).trans (congrArg (x_iload 4) ((xe_if_icmp .ge 231).trans (congrArg (x_if_icmp .ge 231 K) ((xe_iload 5).trans (congrArg (x_iload 5) ((xe_ifCond .ne 231).trans (congrArg (x_ifCond .ne 231 K) ((xe_aload 0).trans (congrArg (x_aload 0) ((xe_iload 1).trans (congrArg (x_iload 1) ((xe_iload 3).trans (congrArg (x_iload 3) ((xe_iload 6).trans (congrArg (x_iload 6) xe_nil))))))))))))))))))
theorem bk_X11_canTry_231 : ck_ fX11 (some .int) cX11_canTry 231 [.iload 5, .ifCond .eq 240, .iconst 1, .goto 241] 240 = true := qck_r (nn_ _) (by decide +kernel)
theorem bs_X11_canTry_231 {P : Zt → Option Zv → Prop} (K : Int → Zl → List Zv → Zt → Prop) : sx_ K P [.iload 5, .ifCond .eq 240, .iconst 1, .goto 241] 240 = x_iload 5 (x_ifCond .eq 240 K (x_iconst 1 (x_goto 241 K))) := ((xe_iload 5).trans (congrArg (x_iload 5) ((xe_ifCond .eq 240).trans (congrArg (x_ifCond .eq 240 K) ((xe_iconst 1).trans (congrArg (x_iconst 1) (xe_goto 241)))))))
theorem bk_X11_canTry_240 : ck_ fX11 (some .int) cX11_canTry 240 [.iconst 0, .ireturn] 242 = true := qck_r (nn_ _) (by decide +kernel)
theorem bs_X11_canTry_240 {P : Zt → Option Zv → Prop} (K : Int → Zl → List Zv → Zt → Prop) : sx_ K P [.iconst 0, .ireturn] 242 = x_iconst 0 (x_ireturn P) := ((xe_iconst 0).trans (congrArg (x_iconst 0) (xe_ireturn)))
theorem bk_X11_canTry_241 : ck_ fX11 (some .int) cX11_canTry 241 [.ireturn] 242 = true := qck_r (nn_ _) (by decide +kernel)
theorem bs_X11_canTry_241 {P : Zt → Option Zv → Prop} (K : Int → Zl → List Zv → Zt → Prop) : sx_ K P [.ireturn] 242 = x_ireturn P := (xe_ireturn)
set_option maxRecDepth 100000 in
theorem cl_X11_561 : cv_ RX11 561 yX11_isRowWell zX11_isRowWell 11 3 := ⟨gi_V (lwq_10 (dqa_m (dqa_m (List.mem_of_getElem? (i := 7) rfl))) rfl : Cond.methodLink RX11 561 yX11_isRowWell ∈ lw_g) (lwq_10 (dqa_m (dqa_m (dqa_m (List.mem_of_getElem? (i := 1) rfl)))) rfl : Cond.instanceMethod yX11_isRowWell ∈ lw_g) (lw_sel 27 rfl : Cond.selects yX11_isRowWell.cls yX11_isRowWell yX11_isRowWell ∈ lw_g) (lwq_1 (dqa_m (List.mem_of_getElem? (i := 2) rfl)) rfl : Cond.initialized yX11_isRowWell.cls ∈ lw_g) (lwq_10 (dqa_m (dqa_m (dqa_m (List.mem_of_getElem? (i := 2) rfl)))) rfl : Cond.code yX11_isRowWell cX11_isRowWell 7 (some .boolean) ∈ lw_g), ⟨nmh_1.1, nmh_1.2, pdq_11⟩, ⟨_, _, rfl⟩⟩
theorem bk_X11_canTry_223 : ck_ fX11 (some .int) cX11_canTry 223 [.istore 5, .iinc 6 1, .goto 203] 231 = true := qck_r (nn_ _) (by decide +kernel)
theorem bs_X11_canTry_223 {P : Zt → Option Zv → Prop} (K : Int → Zl → List Zv → Zt → Prop) : sx_ K P [.istore 5, .iinc 6 1, .goto 203] 231 = x_istore 5 (x_iinc 6 1 (x_goto 203 K)) := ((xe_istore 5).trans (congrArg (x_istore 5) ((xe_iinc 6 1).trans (congrArg (x_iinc 6 1) (xe_goto 203)))))
theorem bk_X11_canTry_179 : ck_ fX11 (some .int) cX11_canTry 179 [.iload 5, .iload 3, .if_icmp .ge 197, .iconst 3, .iload 4, .fmul, .istore 4, .iinc 5 1, .goto 179] 197 = true := qck_r (nn_ _) (by decide +kernel)
theorem bs_X11_canTry_179 {P : Zt → Option Zv → Prop} (K : Int → Zl → List Zv → Zt → Prop) : sx_ K P [.iload 5, .iload 3, .if_icmp .ge 197, .iconst 3, .iload 4, .fmul, .istore 4, .iinc 5 1, .goto 179] 197 = x_iload 5 (x_iload 3 (x_if_icmp .ge 197 K (x_iconst 3 (x_iload 4 (x_fmul (x_istore 4 (x_iinc 5 1 (x_goto 179 K)))))))) := ((xe_iload 5).trans (congrArg (x_iload 5) ((xe_iload 3).trans (congrArg (x_iload 3) ((xe_if_icmp .ge 197).trans (congrArg (x_if_icmp .ge 197 K) ((xe_iconst 3).trans (congrArg (x_iconst 3) ((xe_iload 4).trans (congrArg (x_iload 4) ((xe_fmul).trans (congrArg (x_fmul) ((xe_istore 4).trans (congrArg (x_istore 4) ((xe_iinc 5 1).trans (congrArg (x_iinc 5 1) (xe_goto 179)))))))))))))))))
theorem bk_X11_canTry_197 : ck_ fX11 (some .int) cX11_canTry 197 [.iconst 0, .istore 5, .iconst 0, .istore 6] 203 = true := qck_r (nn_ _) (by decide +kernel)
theorem bs_X11_canTry_197 {P : Zt → Option Zv → Prop} (K : Int → Zl → List Zv → Zt → Prop) : sx_ K P [.iconst 0, .istore 5, .iconst 0, .istore 6] 203 = x_iconst 0 (x_istore 5 (x_iconst 0 (x_istore 6 (K 203)))) := ((xe_iconst 0).trans (congrArg (x_iconst 0) ((xe_istore 5).trans (congrArg (x_istore 5) ((xe_iconst 0).trans (congrArg (x_iconst 0) ((xe_istore 6).trans (congrArg (x_istore 6) xe_nil))))))))
theorem bk_X11_canTry_55 : ck_ fX11 (some .int) cX11_canTry 55 [.istore 5, .aload 0, .iload 4] 60 = true := qck_r (nn_ _) (by decide +kernel)
theorem bs_X11_canTry_55 {P : Zt → Option Zv → Prop} (K : Int → Zl → List Zv → Zt → Prop) : sx_ K P [.istore 5, .aload 0, .iload 4] 60 = x_istore 5 (x_aload 0 (x_iload 4 (K 60))) := ((xe_istore 5).trans (congrArg (x_istore 5) ((xe_aload 0).trans (congrArg (x_aload 0) ((xe_iload 4).trans (congrArg (x_iload 4) xe_nil))))))
theorem bk_X11_canTry_63 : ck_ fX11 (some .int) cX11_canTry 63 [.ifCond .eq 139, .iload 5, .ifCond .eq 139, .aload 0, .tableswitch 0 11 89 #[], .iload 4, .aload 0, .tableswitch 0 11 32 #[], .iload 4, .iaload, .iload 2, .if_icmp .ne 92, .iconst 0, .goto 93] 92 = true := qck_r (nn_ _) (by decide +kernel)
theorem bs_X11_canTry_63 {P : Zt → Option Zv → Prop} (K : Int → Zl → List Zv → Zt → Prop) : sx_ K P [.ifCond .eq 139, .iload 5, .ifCond .eq 139, .aload 0, .tableswitch 0 11 89 #[], .iload 4, .aload 0, .tableswitch 0 11 32 #[], .iload 4, .iaload, .iload 2, .if_icmp .ne 92, .iconst 0, .goto 93] 92 = x_ifCond .eq 139 K (x_iload 5 (x_ifCond .eq 139 K (x_aload 0 (x_g1 111 289 (x_iload 4 (x_aload 0 (x_g1 111 232 (x_iload 4 (x_iaload (x_iload 2 (x_if_icmp .ne 92 K (x_iconst 0 (x_goto 93 K))))))))))))) := ((xe_ifCond .eq 139).trans (congrArg (x_ifCond .eq 139 K) ((xe_iload 5).trans (congrArg (x_iload 5) ((xe_ifCond .eq 139).trans (congrArg (x_ifCond .eq 139 K) ((xe_aload 0).trans (congrArg (x_aload 0) ((xe_g1 (kk := 111) rfl tl_11_89).trans (congrArg (x_g1 111 289) ((xe_iload 4).trans (congrArg (x_iload 4) ((xe_aload 0).trans (congrArg (x_aload 0) ((xe_g1 (kk := 111) rfl tl_11_32).trans (congrArg (x_g1 111 232) ((xe_iload 4).trans (congrArg (x_iload 4) ((xe_iaload).trans (congrArg (x_iaload) ((xe_iload 2).trans (congrArg (x_iload 2) ((xe_if_icmp .ne 92).trans (congrArg (x_if_icmp .ne 92 K) ((xe_iconst 0).trans (congrArg (x_iconst 0) (xe_goto 93)))))))))))))))))))))))))))
theorem bk_X11_canTry_139 : ck_ fX11 (some .int) cX11_canTry 139 [.aload 0, .iload 4] 142 = true := qck_r (nn_ _) (by decide +kernel)
theorem bs_X11_canTry_139 {P : Zt → Option Zv → Prop} (K : Int → Zl → List Zv → Zt → Prop) : sx_ K P [.aload 0, .iload 4] 142 = x_aload 0 (x_iload 4 (K 142)) := ((xe_aload 0).trans (congrArg (x_aload 0) ((xe_iload 4).trans (congrArg (x_iload 4) xe_nil))))
theorem bk_X11_canTry_145 : ck_ fX11 (some .int) cX11_canTry 145 [.ifCond .eq 159, .aload 0, .tableswitch 0 11 97 #[], .iload 3, .iload 4, .iastore, .iinc 3 1, .iinc 4 1, .goto 10] 165 = true := qck_r (nn_ _) (by decide +kernel)
theorem bs_X11_canTry_145 {P : Zt → Option Zv → Prop} (K : Int → Zl → List Zv → Zt → Prop) : sx_ K P [.ifCond .eq 159, .aload 0, .tableswitch 0 11 97 #[], .iload 3, .iload 4, .iastore, .iinc 3 1, .iinc 4 1, .goto 10] 165 = x_ifCond .eq 159 K (x_aload 0 (x_g1 111 297 (x_iload 3 (x_iload 4 (x_iastore (x_iinc 3 1 (x_iinc 4 1 (x_goto 10 K)))))))) := ((xe_ifCond .eq 159).trans (congrArg (x_ifCond .eq 159 K) ((xe_aload 0).trans (congrArg (x_aload 0) ((xe_g1 (kk := 111) rfl tl_11_97).trans (congrArg (x_g1 111 297) ((xe_iload 3).trans (congrArg (x_iload 3) ((xe_iload 4).trans (congrArg (x_iload 4) ((xe_iastore).trans (congrArg (x_iastore) ((xe_iinc 3 1).trans (congrArg (x_iinc 3 1) ((xe_iinc 4 1).trans (congrArg (x_iinc 4 1) (xe_goto 10)))))))))))))))))
theorem bk_X11_canTry_159 : ck_ fX11 (some .int) cX11_canTry 159 [.iinc 4 1, .goto 10] 165 = true := qck_r (nn_ _) (by decide +kernel)
theorem bs_X11_canTry_159 {P : Zt → Option Zv → Prop} (K : Int → Zl → List Zv → Zt → Prop) : sx_ K P [.iinc 4 1, .goto 10] 165 = x_iinc 4 1 (x_goto 10 K) := ((xe_iinc 4 1).trans (congrArg (x_iinc 4 1) (xe_goto 10)))
theorem bk_X11_canTry_92 : ck_ fX11 (some .int) cX11_canTry 92 [.iconst 2, .iastore, .aload 0, .tableswitch 0 11 91 #[], .aload 0, .tableswitch 0 11 32 #[], .iload 4, .iaload, .iload 2, .if_icmp .ne 119, .aload 0, .tableswitch 0 11 33 #[], .iload 4, .iaload, .goto 126] 119 = true := qck_r (nn_ _) (by decide +kernel)
theorem bs_X11_canTry_92 {P : Zt → Option Zv → Prop} (K : Int → Zl → List Zv → Zt → Prop) : sx_ K P [.iconst 2, .iastore, .aload 0, .tableswitch 0 11 91 #[], .aload 0, .tableswitch 0 11 32 #[], .iload 4, .iaload, .iload 2, .if_icmp .ne 119, .aload 0, .tableswitch 0 11 33 #[], .iload 4, .iaload, .goto 126] 119 = x_iconst 2 (x_iastore (x_aload 0 (x_g1 111 291 (x_aload 0 (x_g1 111 232 (x_iload 4 (x_iaload (x_iload 2 (x_if_icmp .ne 119 K (x_aload 0 (x_g1 111 233 (x_iload 4 (x_iaload (x_goto 126 K)))))))))))))) := ((xe_iconst 2).trans (congrArg (x_iconst 2) ((xe_iastore).trans (congrArg (x_iastore) ((xe_aload 0).trans (congrArg (x_aload 0) ((xe_g1 (kk := 111) rfl tl_11_91).trans (congrArg (x_g1 111 291) ((xe_aload 0).trans (congrArg (x_aload 0) ((xe_g1 (kk := 111) rfl tl_11_32).trans (congrArg (x_g1 111 232) ((xe_iload 4).trans (congrArg (x_iload 4) ((xe_iaload).trans (congrArg (x_iaload) ((xe_iload 2).trans (congrArg (x_iload 2) ((xe_if_icmp .ne 119).trans (congrArg (x_if_icmp .ne 119 K) ((xe_aload 0).trans (congrArg (x_aload 0) ((xe_g1 (kk := 111) rfl tl_11_33).trans (congrArg (x_g1 111 233) ((xe_iload 4).trans (congrArg (x_iload 4) ((xe_iaload).trans (congrArg (x_iaload) (xe_goto 126)))))))))))))))))))))))))))))
theorem bk_X11_canTry_119 : ck_ fX11 (some .int) cX11_canTry 119 [.aload 0, .tableswitch 0 11 32 #[], .iload 4, .iaload, .dup2, .iaload, .aload 0, .iload 1, .iconst 3] 131 = true := qck_r (nn_ _) (by decide +kernel)
theorem bs_X11_canTry_119 {P : Zt → Option Zv → Prop} (K : Int → Zl → List Zv → Zt → Prop) : sx_ K P [.aload 0, .tableswitch 0 11 32 #[], .iload 4, .iaload, .dup2, .iaload, .aload 0, .iload 1, .iconst 3] 131 = x_aload 0 (x_g1 111 232 (x_iload 4 (x_iaload (x_dup2 (x_iaload (x_aload 0 (x_iload 1 (x_iconst 3 (K 131))))))))) := ((xe_aload 0).trans (congrArg (x_aload 0) ((xe_g1 (kk := 111) rfl tl_11_32).trans (congrArg (x_g1 111 232) ((xe_iload 4).trans (congrArg (x_iload 4) ((xe_iaload).trans (congrArg (x_iaload) ((xe_dup2).trans (congrArg (x_dup2) ((xe_iaload).trans (congrArg (x_iaload) ((xe_aload 0).trans (congrArg (x_aload 0) ((xe_iload 1).trans (congrArg (x_iload 1) ((xe_iconst 3).trans (congrArg (x_iconst 3) xe_nil))))))))))))))))))
theorem bk_X11_canTry_134 : ck_ fX11 (some .int) cX11_canTry 134 [.fadd, .iastore, .goto 159] 139 = true := qck_r (nn_ _) (by decide +kernel)
theorem bs_X11_canTry_134 {P : Zt → Option Zv → Prop} (K : Int → Zl → List Zv → Zt → Prop) : sx_ K P [.fadd, .iastore, .goto 159] 139 = x_fadd (x_iastore (x_goto 159 K)) := ((xe_fadd).trans (congrArg (x_fadd) ((xe_iastore).trans (congrArg (x_iastore) (xe_goto 159)))))
theorem bk_X11_canTry_126 : ck_ fX11 (some .int) cX11_canTry 126 [.dup2, .iaload, .aload 0, .iload 1, .iconst 3] 131 = true := qck_r (nn_ _) (by decide +kernel)
theorem bs_X11_canTry_126 {P : Zt → Option Zv → Prop} (K : Int → Zl → List Zv → Zt → Prop) : sx_ K P [.dup2, .iaload, .aload 0, .iload 1, .iconst 3] 131 = x_dup2 (x_iaload (x_aload 0 (x_iload 1 (x_iconst 3 (K 131))))) := ((xe_dup2).trans (congrArg (x_dup2) ((xe_iaload).trans (congrArg (x_iaload) ((xe_aload 0).trans (congrArg (x_aload 0) ((xe_iload 1).trans (congrArg (x_iload 1) ((xe_iconst 3).trans (congrArg (x_iconst 3) xe_nil))))))))))
theorem bk_X11_canTry_93 : ck_ fX11 (some .int) cX11_canTry 93 [.iastore, .aload 0, .tableswitch 0 11 91 #[], .aload 0, .tableswitch 0 11 32 #[], .iload 4, .iaload, .iload 2, .if_icmp .ne 119, .aload 0, .tableswitch 0 11 33 #[], .iload 4, .iaload, .goto 126] 119 = true := qck_r (nn_ _) (by decide +kernel)
theorem bs_X11_canTry_93 {P : Zt → Option Zv → Prop} (K : Int → Zl → List Zv → Zt → Prop) : sx_ K P [.iastore, .aload 0, .tableswitch 0 11 91 #[], .aload 0, .tableswitch 0 11 32 #[], .iload 4, .iaload, .iload 2, .if_icmp .ne 119, .aload 0, .tableswitch 0 11 33 #[], .iload 4, .iaload, .goto 126] 119 = x_iastore (x_aload 0 (x_g1 111 291 (x_aload 0 (x_g1 111 232 (x_iload 4 (x_iaload (x_iload 2 (x_if_icmp .ne 119 K (x_aload 0 (x_g1 111 233 (x_iload 4 (x_iaload (x_goto 126 K))))))))))))) := ((xe_iastore).trans (congrArg (x_iastore) ((xe_aload 0).trans (congrArg (x_aload 0) ((xe_g1 (kk := 111) rfl tl_11_91).trans (congrArg (x_g1 111 291) ((xe_aload 0).trans (congrArg (x_aload 0) ((xe_g1 (kk := 111) rfl tl_11_32).trans (congrArg (x_g1 111 232) ((xe_iload 4).trans (congrArg (x_iload 4) ((xe_iaload).trans (congrArg (x_iaload) ((xe_iload 2).trans (congrArg (x_iload 2) ((xe_if_icmp .ne 119).trans (congrArg (x_if_icmp .ne 119 K) ((xe_aload 0).trans (congrArg (x_aload 0) ((xe_g1 (kk := 111) rfl tl_11_33).trans (congrArg (x_g1 111 233) ((xe_iload 4).trans (congrArg (x_iload 4) ((xe_iaload).trans (congrArg (x_iaload) (xe_goto 126)))))))))))))))))))))))))))
theorem bk_X11_canTry_10 : ck_ fX11 (some .int) cX11_canTry 10 [.iload 4, .aload 0, .tableswitch 0 11 10 #[], .iload 1, .iaload, .aload 0, .tableswitch 0 11 11 #[], .iload 1, .iaload, .iadd, .if_icmp .ge 165, .aload 0, .tableswitch 0 11 32 #[], .iload 4, .iaload, .iload 2, .if_icmp .eq 50, .aload 0, .tableswitch 0 11 33 #[], .iload 4, .iaload, .iload 2, .if_icmp .ne 54, .iconst 1, .goto 55] 54 = true := qck_r (nn_ _) (by decide +kernel)
theorem bs_X11_canTry_10 {P : Zt → Option Zv → Prop} (K : Int → Zl → List Zv → Zt → Prop) : sx_ K P [.iload 4, .aload 0, .tableswitch 0 11 10 #[], .iload 1, .iaload, .aload 0, .tableswitch 0 11 11 #[], .iload 1, .iaload, .iadd, .if_icmp .ge 165, .aload 0, .tableswitch 0 11 32 #[], .iload 4, .iaload, .iload 2, .if_icmp .eq 50, .aload 0, .tableswitch 0 11 33 #[], .iload 4, .iaload, .iload 2, .if_icmp .ne 54, .iconst 1, .goto 55] 54 = x_iload 4 (x_aload 0 (x_g1 111 210 (x_iload 1 (x_iaload (x_aload 0 (x_g1 111 211 (x_iload 1 (x_iaload (x_iadd (x_if_icmp .ge 165 K (x_aload 0 (x_g1 111 232 (x_iload 4 (x_iaload (x_iload 2 (x_if_icmp .eq 50 K (x_aload 0 (x_g1 111 233 (x_iload 4 (x_iaload (x_iload 2 (x_if_icmp .ne 54 K (x_iconst 1 (x_goto 55 K)))))))))))))))))))))))) := ((xe_iload 4).trans (congrArg (x_iload 4) ((xe_aload 0).trans (congrArg (x_aload 0) ((xe_g1 (kk := 111) rfl tl_11_10).trans (congrArg (x_g1 111 210) ((xe_iload 1).trans (congrArg (x_iload 1) ((xe_iaload).trans (congrArg (x_iaload) ((xe_aload 0).trans (congrArg (x_aload 0) ((xe_g1 (kk := 111) rfl tl_11_11).trans (congrArg (x_g1 111 211) ((xe_iload 1).trans (congrArg (x_iload 1) ((xe_iaload).trans (congrArg (x_iaload) ((xe_iadd).trans (congrArg (x_iadd) ((xe_if_icmp .ge 165).trans (congrArg (x_if_icmp .ge 165 K) ((xe_aload 0).trans (congrArg (x_aload 0) ((xe_g1 (kk := 111) rfl tl_11_32).trans (congrArg (x_g1 111 232) ((xe_iload 4).trans (congrArg (x_iload 4) ((xe_iaload).trans (congrArg (x_iaload) ((xe_iload 2).trans (congrArg (x_iload 2) ((xe_if_icmp .eq 50).trans (congrArg (x_if_icmp .eq 50 K) ((xe_aload 0).trans (congrArg (x_aload 0) ((xe_g1 (kk := 111) rfl tl_11_33).trans (congrArg (x_g1 111 233) ((xe_iload 4).trans (congrArg (x_iload 4) ((xe_iaload).trans (congrArg (x_iaload) ((xe_iload 2).trans (congrArg (x_iload 2) ((xe_if_icmp .ne 54).trans (congrArg (x_if_icmp .ne 54 K) ((xe_iconst 1).trans (congrArg (x_iconst 1) (xe_goto 55)))))))))))))))))))))))))))))))))))))))))))))))))
theorem bk_X11_canTry_165 : ck_ fX11 (some .int) cX11_canTry 165 [.iload 3, .iconst 8, .if_icmp .le 173, .iconst 2, .ireturn] 173 = true := qck_r (nn_ _) (by decide +kernel)
theorem bs_X11_canTry_165 {P : Zt → Option Zv → Prop} (K : Int → Zl → List Zv → Zt → Prop) : sx_ K P [.iload 3, .iconst 8, .if_icmp .le 173, .iconst 2, .ireturn] 173 = x_iload 3 (x_iconst 8 (x_if_icmp .le 173 K (x_iconst 2 (x_ireturn P)))) := ((xe_iload 3).trans (congrArg (x_iload 3) ((xe_iconst 8).trans (congrArg (x_iconst 8) ((xe_if_icmp .le 173).trans (congrArg (x_if_icmp .le 173 K) ((xe_iconst 2).trans (congrArg (x_iconst 2) (xe_ireturn)))))))))
theorem bk_X11_canTry_173 : ck_ fX11 (some .int) cX11_canTry 173 [.iconst 1, .istore 4, .iconst 0, .istore 5] 179 = true := qck_r (nn_ _) (by decide +kernel)
theorem bs_X11_canTry_173 {P : Zt → Option Zv → Prop} (K : Int → Zl → List Zv → Zt → Prop) : sx_ K P [.iconst 1, .istore 4, .iconst 0, .istore 5] 179 = x_iconst 1 (x_istore 4 (x_iconst 0 (x_istore 5 (K 179)))) := ((xe_iconst 1).trans (congrArg (x_iconst 1) ((xe_istore 4).trans (congrArg (x_istore 4) ((xe_iconst 0).trans (congrArg (x_iconst 0) ((xe_istore 5).trans (congrArg (x_istore 5) xe_nil))))))))
theorem bk_X11_canTry_50 : ck_ fX11 (some .int) cX11_canTry 50 [.iconst 1, .goto 55] 54 = true := qck_r (nn_ _) (by decide +kernel)
theorem bs_X11_canTry_50 {P : Zt → Option Zv → Prop} (K : Int → Zl → List Zv → Zt → Prop) : sx_ K P [.iconst 1, .goto 55] 54 = x_iconst 1 (x_goto 55 K) := ((xe_iconst 1).trans (congrArg (x_iconst 1) (xe_goto 55)))
theorem bk_X11_canTry_54 : ck_ fX11 (some .int) cX11_canTry 54 [.iconst 0] 55 = true := qck_r (nn_ _) (by decide +kernel)
theorem bs_X11_canTry_54 {P : Zt → Option Zv → Prop} (K : Int → Zl → List Zv → Zt → Prop) : sx_ K P [.iconst 0] 55 = x_iconst 0 (K 55) := ((xe_iconst 0).trans (congrArg (x_iconst 0) xe_nil))
theorem bk_X11_canTry_0 : ck_ fX11 (some .int) cX11_canTry 0 [.iconst 0, .istore 3, .aload 0, .tableswitch 0 11 10 #[], .iload 1, .iaload, .istore 4] 10 = true := qck_r (nn_ _) (by decide +kernel)
theorem bs_X11_canTry_0 {P : Zt → Option Zv → Prop} (K : Int → Zl → List Zv → Zt → Prop) : sx_ K P [.iconst 0, .istore 3, .aload 0, .tableswitch 0 11 10 #[], .iload 1, .iaload, .istore 4] 10 = x_iconst 0 (x_istore 3 (x_aload 0 (x_g1 111 210 (x_iload 1 (x_iaload (x_istore 4 (K 10))))))) := ((xe_iconst 0).trans (congrArg (x_iconst 0) ((xe_istore 3).trans (congrArg (x_istore 3) ((xe_aload 0).trans (congrArg (x_aload 0) ((xe_g1 (kk := 111) rfl tl_11_10).trans (congrArg (x_g1 111 210) ((xe_iload 1).trans (congrArg (x_iload 1) ((xe_iaload).trans (congrArg (x_iaload) ((xe_istore 4).trans (congrArg (x_istore 4) xe_nil))))))))))))))
abbrev po_X11_canTry (T : Zt) (c cl : Int) : Zt → Option Zv → Prop := fun T' r => ∃ x : Int, r = some (vI x) ∧ fr_ [(289, []), (291, []), (297, []), (293, [])] T T' ∧ (0 ≤ x ∧ x ≤ 2)
set_option maxHeartbeats 4000000 in
theorem ct_X11_canTry {T : Zt} {c cl : Int} (h1 : 0 ≤ c ∧ c < 4) (hml : ML_ T) : Ct_ yX11_canTry zX11_canTry T [vR 111 0, vI c, vI cl] (po_X11_canTry T c cl) := by
  refine ct_of pn_11 rfl rfl (Nat.le_of_ble_eq_true rfl) (fun hT hav => ?_)
  have hr_c : -2147483648 ≤ c ∧ c ≤ 2147483647 := hav (vI c) (List.mem_cons_of_mem _ List.mem_cons_self)
  have hr_cl : -2147483648 ≤ cl ∧ cl ≤ 2147483647 := hav (vI cl) (List.mem_cons_of_mem _ (List.mem_cons_of_mem _ List.mem_cons_self))
  have hz : zX11_canTry.2.2.2.1 = some .boolean → ∀ (T' : Zt) (x : Int), po_X11_canTry T c cl T' (some (vI x)) → 0 ≤ x ∧ x ≤ 1 := fun h => by cases h
  have hmc := hml c (by omega) (by omega)
  have hb_29 : 0 ≤ T 111 0 29 ∧ T 111 0 29 ≤ 400 := bd_f hT 111 29 tl_11_29 0
  have hfo : 0 ≤ T 210 0 c ∧ T 210 0 c ≤ 400 := bd_a hT 210 (by decide +kernel : ta_ 210 = some (1, some 4, 0, 400)) 0 (by omega)
  have hmo : 0 ≤ T 211 0 c ∧ T 211 0 c ≤ 400 := bd_a hT 211 (by decide +kernel : ta_ 211 = some (1, some 4, 0, 400)) 0 (by omega)
  show J_ zX11_canTry T (po_X11_canTry T c cl) 0 0 0 [some (vR 111 0), some (vI c), some (vI cl), none, none, none, none] [] T
  have c_203 : ∀ (nn : Nat) (al : Int) (fd : Int) (r : Int) (mn : Int) (T2 : Zt), ((al - r).toNat) ≤ nn → (fr_ [(289, []), (291, []), (297, []), (293, [])] T T2) → (0 ≤ mn ∧ mn ≤ 8 ∧ 0 ≤ fd ∧ fd ≤ 1 ∧ 0 ≤ r ∧ al ≤ 2147483647) → J_ zX11_canTry T (po_X11_canTry T c cl) 0 0 203 [some (vR 111 0), some (vI c), some (vI cl), some (vI mn), some (vI al), some (vI fd), some (vI r)] [] T2 := by
    intro nn
    induction nn using Nat.strongRecOn with
    | _ nn ih_203 =>
      intro al fd r mn T2 hm_203 hf_203 i3
      replace hm_203 := fun (_ : Unit) => hm_203
      refine j_blx (F := fX11) tb_X11 (nn_ _) bk_X11_canTry_203 bs_X11_canTry_203 hz (fun K hK => ?_)
      refine And.intro (fun c1 => ?_) (fun c1 => ?_)
      · refine hK 231 _ [] T2 ?_
        refine j_blx (F := fX11) tb_X11 (nn_ _) bk_X11_canTry_231 bs_X11_canTry_231 hz (fun K hK => ?_)
        refine And.intro (fun c2 => ?_) (fun c2 => ?_)
        · refine hK 240 _ [] T2 ?_
          refine j_blx (F := fX11) tb_X11 (nn_ _) bk_X11_canTry_240 bs_X11_canTry_240 hz (fun K hK => ?_)
          refine (show po_X11_canTry T c cl T2 (some (vI 0)) from ?_)
          exact ⟨_, rfl, fr_t (fr_0 _ _) (fr_s hf_203 rfl), by omega⟩
        · refine hK 241 _ [vI 1] T2 ?_
          refine j_blx (F := fX11) tb_X11 (nn_ _) bk_X11_canTry_241 bs_X11_canTry_241 hz (fun K hK => ?_)
          refine (show po_X11_canTry T c cl T2 (some (vI 1)) from ?_)
          exact ⟨_, rfl, fr_t (fr_0 _ _) (fr_s hf_203 rfl), by omega⟩
      · refine And.intro (fun c3 => ?_) (fun c3 => ?_)
        · refine hK 231 _ [] T2 ?_
          refine j_blx (F := fX11) tb_X11 (nn_ _) bk_X11_canTry_231 bs_X11_canTry_231 hz (fun K hK => ?_)
          refine And.intro (fun c4 => ?_) (fun c4 => ?_)
          · refine hK 240 _ [] T2 ?_
            refine j_blx (F := fX11) tb_X11 (nn_ _) bk_X11_canTry_240 bs_X11_canTry_240 hz (fun K hK => ?_)
            refine (show po_X11_canTry T c cl T2 (some (vI 0)) from ?_)
            exact ⟨_, rfl, fr_t (fr_0 _ _) (fr_s hf_203 rfl), by omega⟩
          · refine hK 241 _ [vI 1] T2 ?_
            refine j_blx (F := fX11) tb_X11 (nn_ _) bk_X11_canTry_241 bs_X11_canTry_241 hz (fun K hK => ?_)
            refine (show po_X11_canTry T c cl T2 (some (vI 1)) from ?_)
            exact ⟨_, rfl, fr_t (fr_0 _ _) (fr_s hf_203 rfl), by omega⟩
        · refine hK 220 _ [vI r, vI mn, vI c, vR 111 0] T2 ?_
          refine j_callV (y := yX11_isRowWell) (Yc := zX11_isRowWell) (rest := []) [vI c, vI mn, vI r] (ct_X11_isRowWell (T := T2) (by omega) (by omega) (by omega)) cl_X11_561 (qd_c (by decide +kernel)) (nn_ _) rfl (rf_of rfl) (Nat.le_of_ble_eq_true rfl) (Nat.le_of_ble_eq_true rfl) (Nat.le_of_ble_eq_true rfl) rfl ?_
          rintro U5 _ ⟨x6, rfl, fU5, qU5⟩
          show J_ zX11_canTry T (po_X11_canTry T c cl) 0 0 223 _ [vI x6] U5
          refine j_blx (F := fX11) tb_X11 (nn_ _) bk_X11_canTry_223 bs_X11_canTry_223 hz (fun K hK => ?_)
          refine rg_i (by omega) ?_
          refine hK 203 [some (vR 111 0), some (vI c), some (vI cl), some (vI mn), some (vI al), some (vI x6), some (vI (r + 1))] [] U5 ?_
          refine ih_203 _ ?_ al x6 (r + 1) mn U5 (Nat.le_refl _) ?_ ?_
          · have hm_203 := hm_203 (); omega
          · exact fr_t (fr_t (fr_0 _ _) (fr_s hf_203 rfl)) (fr_s fU5 rfl)
          · omega
  have c_179 : ∀ (nn : Nat) (mn : Int) (al : Int) (k : Int) (T3 : Zt), ((mn - k).toNat) ≤ nn → (fr_ [(289, []), (291, []), (297, []), (293, [])] T T3) → (0 ≤ mn ∧ mn ≤ 8 ∧ 0 ≤ k ∧ al ≤ 2147483647) → J_ zX11_canTry T (po_X11_canTry T c cl) 0 0 179 [some (vR 111 0), some (vI c), some (vI cl), some (vI mn), some (vI al), some (vI k), none] [] T3 := by
    intro nn
    induction nn using Nat.strongRecOn with
    | _ nn ih_179 =>
      intro mn al k T3 hm_179 hf_179 i2
      replace hm_179 := fun (_ : Unit) => hm_179
      refine j_blx (F := fX11) tb_X11 (nn_ _) bk_X11_canTry_179 bs_X11_canTry_179 hz (fun K hK => ?_)
      refine And.intro (fun c7 => ?_) (fun c7 => ?_)
      · refine hK 197 _ [] T3 ?_
        refine j_blx (F := fX11) tb_X11 (nn_ _) bk_X11_canTry_197 bs_X11_canTry_197 hz (fun K hK => ?_)
        refine hK 203 [some (vR 111 0), some (vI c), some (vI cl), some (vI mn), some (vI al), some (vI 0), some (vI 0)] [] T3 ?_
        refine c_203 _ al 0 0 mn T3 (Nat.le_refl _) ?_ ?_
        · exact fr_t (fr_0 _ _) (fr_s hf_179 rfl)
        · omega
      · intro w8 w8b
        refine rg_i (by omega) ?_
        refine hK 179 [some (vR 111 0), some (vI c), some (vI cl), some (vI mn), some (vI (wr_ (3 * al))), some (vI (k + 1)), none] [] T3 ?_
        refine ih_179 _ ?_ mn (wr_ (3 * al)) (k + 1) T3 (Nat.le_refl _) ?_ ?_
        · have hm_179 := hm_179 (); omega
        · exact fr_t (fr_0 _ _) (fr_s hf_179 rfl)
        · omega
  have c_10 : ∀ (nn : Nat) (mn : Int) (m : Int) (T1 : Zt), ((400 - m).toNat) ≤ nn → (fr_ [(289, []), (291, []), (297, []), (293, [])] T T1) → (T 210 0 c ≤ m ∧ m ≤ T 210 0 c + T 211 0 c ∧ 0 ≤ mn ∧ mn ≤ m - T 210 0 c) → J_ zX11_canTry T (po_X11_canTry T c cl) 0 0 10 [some (vR 111 0), some (vI c), some (vI cl), some (vI mn), some (vI m), none, none] [] T1 := by
    intro nn
    induction nn using Nat.strongRecOn with
    | _ nn ih_10 =>
      intro mn m T1 hm_10 hf_10 i1
      replace hm_10 := fun (_ : Unit) => hm_10
      have c_55 : ∀ (v : Int), (m < T 210 0 c + T 211 0 c) → J_ zX11_canTry T (po_X11_canTry T c cl) 0 0 55 [some (vR 111 0), some (vI c), some (vI cl), some (vI mn), some (vI m), none, none] [vI v] T1 := by
        intro v i4
        refine j_blx (F := fX11) tb_X11 (nn_ _) bk_X11_canTry_55 bs_X11_canTry_55 hz (fun K hK => ?_)
        refine hK 60 [some (vR 111 0), some (vI c), some (vI cl), some (vI mn), some (vI m), some (vI v), none] [vI m, vR 111 0] T1 ?_
        refine j_callV (y := yX11_isLeft) (Yc := zX11_isLeft) (rest := []) [vI m] (ct_X11_isLeft (T := T1) (by omega)) cl_X11_538 (qd_c (by decide +kernel)) (nn_ _) rfl (rf_of rfl) (Nat.le_of_ble_eq_true rfl) (Nat.le_of_ble_eq_true rfl) (Nat.le_of_ble_eq_true rfl) rfl ?_
        rintro _ _ ⟨rfl, x9, rfl, hx9⟩
        show J_ zX11_canTry T (po_X11_canTry T c cl) 0 0 63 _ [vI x9] T1
        refine j_blx (F := fX11) tb_X11 (nn_ _) bk_X11_canTry_63 bs_X11_canTry_63 hz (fun K hK => ?_)
        refine And.intro (fun c10 => ?_) (fun c10 => ?_)
        · replace hx9 := hx9.resolve_left (fun z => absurd (c10.symm.trans z.1) (by decide))
          clear c10
          refine hK 139 _ [] T1 ?_
          refine j_blx (F := fX11) tb_X11 (nn_ _) bk_X11_canTry_139 bs_X11_canTry_139 hz (fun K hK => ?_)
          refine hK 142 _ [vI m, vR 111 0] T1 ?_
          refine j_callV (y := yX11_isLeft) (Yc := zX11_isLeft) (rest := []) [vI m] (ct_X11_isLeft (T := T1) (by omega)) cl_X11_538 (qd_c (by decide +kernel)) (nn_ _) rfl (rf_of rfl) (Nat.le_of_ble_eq_true rfl) (Nat.le_of_ble_eq_true rfl) (Nat.le_of_ble_eq_true rfl) rfl ?_
          rintro _ _ ⟨rfl, x11, rfl, hx11⟩
          show J_ zX11_canTry T (po_X11_canTry T c cl) 0 0 145 _ [vI x11] T1
          refine j_blx (F := fX11) tb_X11 (nn_ _) bk_X11_canTry_145 bs_X11_canTry_145 hz (fun K hK => ?_)
          refine And.intro (fun c12 => ?_) (fun c12 => ?_)
          · replace hx11 := hx11.resolve_left (fun z => absurd (c12.symm.trans z.1) (by decide))
            clear c12
            refine hK 159 _ [] T1 ?_
            refine j_blx (F := fX11) tb_X11 (nn_ _) bk_X11_canTry_159 bs_X11_canTry_159 hz (fun K hK => ?_)
            refine rg_i (by omega) ?_
            refine hK 10 [some (vR 111 0), some (vI c), some (vI cl), some (vI mn), some (vI (m + 1)), some (vI v), none] [] T1 ?_
            refine j_drop [some (vR 111 0), some (vI c), some (vI cl), some (vI mn), some (vI (m + 1)), none, none] (fun k v hk => ?_) rfl ?_
            · match k, hk with
              | 0, hk => exact hk
              | 1, hk => exact hk
              | 2, hk => exact hk
              | 3, hk => exact hk
              | 4, hk => exact hk
              | 5, hk => cases hk
              | 6, hk => cases hk
              | k + 7, hk => cases hk
            refine ih_10 _ ?_ mn (m + 1) T1 (Nat.le_refl _) ?_ ?_
            · have hm_10 := hm_10 (); omega
            · exact fr_t (fr_0 _ _) (fr_s hf_10 rfl)
            · omega
          · replace hx11 := hx11.resolve_right (fun z => c12 z.1)
            clear c12
            refine iy_i (by omega) (by omega) ?_
            refine x_nm (fun U13 hU13 => ?_)
            have e14 := up_f hU13
            refine rg_i (by omega) ?_
            refine rg_i (by omega) ?_
            refine hK 10 [some (vR 111 0), some (vI c), some (vI cl), some (vI (mn + 1)), some (vI (m + 1)), some (vI v), none] [] U13 ?_
            refine j_drop [some (vR 111 0), some (vI c), some (vI cl), some (vI (mn + 1)), some (vI (m + 1)), none, none] (fun k v hk => ?_) rfl ?_
            · match k, hk with
              | 0, hk => exact hk
              | 1, hk => exact hk
              | 2, hk => exact hk
              | 3, hk => exact hk
              | 4, hk => exact hk
              | 5, hk => cases hk
              | 6, hk => cases hk
              | k + 7, hk => cases hk
            refine ih_10 _ ?_ (mn + 1) (m + 1) U13 (Nat.le_refl _) ?_ ?_
            · have hm_10 := hm_10 (); omega
            · exact fr_u (fr_t (fr_0 _ _) (fr_s hf_10 rfl)) hU13 rfl
            · omega
        · replace hx9 := hx9.resolve_right (fun z => c10 z.1)
          clear c10
          refine And.intro (fun c15 => ?_) (fun c15 => ?_)
          · refine hK 139 _ [] T1 ?_
            refine j_blx (F := fX11) tb_X11 (nn_ _) bk_X11_canTry_139 bs_X11_canTry_139 hz (fun K hK => ?_)
            refine hK 142 _ [vI m, vR 111 0] T1 ?_
            refine j_callV (y := yX11_isLeft) (Yc := zX11_isLeft) (rest := []) [vI m] (ct_X11_isLeft (T := T1) (by omega)) cl_X11_538 (qd_c (by decide +kernel)) (nn_ _) rfl (rf_of rfl) (Nat.le_of_ble_eq_true rfl) (Nat.le_of_ble_eq_true rfl) (Nat.le_of_ble_eq_true rfl) rfl ?_
            rintro _ _ ⟨rfl, x16, rfl, hx16⟩
            show J_ zX11_canTry T (po_X11_canTry T c cl) 0 0 145 _ [vI x16] T1
            refine j_blx (F := fX11) tb_X11 (nn_ _) bk_X11_canTry_145 bs_X11_canTry_145 hz (fun K hK => ?_)
            refine And.intro (fun c17 => ?_) (fun c17 => ?_)
            · replace hx16 := hx16.resolve_left (fun z => absurd (c17.symm.trans z.1) (by decide))
              clear c17
              refine hK 159 _ [] T1 ?_
              refine j_blx (F := fX11) tb_X11 (nn_ _) bk_X11_canTry_159 bs_X11_canTry_159 hz (fun K hK => ?_)
              refine rg_i (by omega) ?_
              refine hK 10 [some (vR 111 0), some (vI c), some (vI cl), some (vI mn), some (vI (m + 1)), some (vI v), none] [] T1 ?_
              refine j_drop [some (vR 111 0), some (vI c), some (vI cl), some (vI mn), some (vI (m + 1)), none, none] (fun k v hk => ?_) rfl ?_
              · match k, hk with
                | 0, hk => exact hk
                | 1, hk => exact hk
                | 2, hk => exact hk
                | 3, hk => exact hk
                | 4, hk => exact hk
                | 5, hk => cases hk
                | 6, hk => cases hk
                | k + 7, hk => cases hk
              refine ih_10 _ ?_ mn (m + 1) T1 (Nat.le_refl _) ?_ ?_
              · have hm_10 := hm_10 (); omega
              · exact fr_t (fr_0 _ _) (fr_s hf_10 rfl)
              · omega
            · replace hx16 := hx16.resolve_right (fun z => c17 z.1)
              clear c17
              refine iy_i (by omega) (by omega) ?_
              refine x_nm (fun U18 hU18 => ?_)
              have e19 := up_f hU18
              refine rg_i (by omega) ?_
              refine rg_i (by omega) ?_
              refine hK 10 [some (vR 111 0), some (vI c), some (vI cl), some (vI (mn + 1)), some (vI (m + 1)), some (vI v), none] [] U18 ?_
              refine j_drop [some (vR 111 0), some (vI c), some (vI cl), some (vI (mn + 1)), some (vI (m + 1)), none, none] (fun k v hk => ?_) rfl ?_
              · match k, hk with
                | 0, hk => exact hk
                | 1, hk => exact hk
                | 2, hk => exact hk
                | 3, hk => exact hk
                | 4, hk => exact hk
                | 5, hk => cases hk
                | 6, hk => cases hk
                | k + 7, hk => cases hk
              refine ih_10 _ ?_ (mn + 1) (m + 1) U18 (Nat.le_refl _) ?_ ?_
              · have hm_10 := hm_10 (); omega
              · exact fr_u (fr_t (fr_0 _ _) (fr_s hf_10 rfl)) hU18 rfl
              · omega
          · refine ix_i (by omega) ?_
            intro b20 b20b
            have e21 : T1 232 0 m = T 232 0 m := hf_10 232 0 m rfl
            rw [e21] at b20 b20b ⊢
            refine And.intro (fun c22 => ?_) (fun c22 => ?_)
            · refine hK 92 _ [vI m, vR 289 0] T1 ?_
              refine j_blx (F := fX11) tb_X11 (nn_ _) bk_X11_canTry_92 bs_X11_canTry_92 hz (fun K hK => ?_)
              refine iy_i (by omega) (by omega) ?_
              refine x_nm (fun U23 hU23 => ?_)
              have e24 := up_f hU23
              refine ix_i (by omega) ?_
              intro b25 b25b
              have e26 : U23 232 0 m = T 232 0 m := (up_k hU23 (by exact Nat.ne_of_beq_eq_false rfl) 0 m).trans (hf_10 232 0 m rfl)
              rw [e26] at b25 b25b ⊢
              refine And.intro (fun c27 => ?_) (fun c27 => ?_)
              · refine hK 119 _ [vR 291 0] U23 ?_
                refine j_blx (F := fX11) tb_X11 (nn_ _) bk_X11_canTry_119 bs_X11_canTry_119 hz (fun K hK => ?_)
                refine ix_i (by omega) ?_
                intro b28 b28b
                have e29 : U23 232 0 m = T 232 0 m := (up_k hU23 (by exact Nat.ne_of_beq_eq_false rfl) 0 m).trans (hf_10 232 0 m rfl)
                rw [e29] at b28 b28b ⊢
                refine ix_i (by omega) ?_
                intro b30 b30b
                have e31 : U23 291 0 (T 232 0 m) = T1 291 0 (T 232 0 m) := up_k hU23 (by exact Nat.ne_of_beq_eq_false rfl) 0 (T 232 0 m)
                rw [e31] at b30 b30b ⊢
                refine hK 131 _ [vI 3, vI c, vR 111 0, vI (T1 291 0 (T 232 0 m)), vI (T 232 0 m), vR 291 0] U23 ?_
                refine j_callV (y := yX11_rule0) (Yc := zX11_rule0) (rest := [vI (T1 291 0 (T 232 0 m)), vI (T 232 0 m), vR 291 0]) [vI c, vI 3] (ct_X11_rule0 (T := U23) (by omega) (by omega)) cl_X11_321 (qd_c (by decide +kernel)) (nn_ _) rfl (rf_of rfl) (Nat.le_of_ble_eq_true rfl) (Nat.le_of_ble_eq_true rfl) (Nat.le_of_ble_eq_true rfl) rfl ?_
                rintro _ _ ⟨rfl, rfl⟩
                have e32 : U23 205 0 (23 * c + 3) = T 205 0 (23 * c + 3) := (up_k hU23 (by exact Nat.ne_of_beq_eq_false rfl) 0 (23 * c + 3)).trans (hf_10 205 0 (23 * c + 3) rfl)
                show J_ zX11_canTry T (po_X11_canTry T c cl) 0 0 134 _ [vI (U23 205 0 (23 * c + 3)), vI (T1 291 0 (T 232 0 m)), vI (T 232 0 m), vR 291 0] U23
                refine j_blx (F := fX11) tb_X11 (nn_ _) bk_X11_canTry_134 bs_X11_canTry_134 hz (fun K hK => ?_)
                intro w33 w33b
                refine iy_i (by omega) (by omega) ?_
                refine x_nm (fun U34 hU34 => ?_)
                have e35 := up_f hU34
                refine hK 159 _ [] U34 ?_
                refine j_blx (F := fX11) tb_X11 (nn_ _) bk_X11_canTry_159 bs_X11_canTry_159 hz (fun K hK => ?_)
                refine rg_i (by omega) ?_
                refine hK 10 [some (vR 111 0), some (vI c), some (vI cl), some (vI mn), some (vI (m + 1)), some (vI v), none] [] U34 ?_
                refine j_drop [some (vR 111 0), some (vI c), some (vI cl), some (vI mn), some (vI (m + 1)), none, none] (fun k v hk => ?_) rfl ?_
                · match k, hk with
                  | 0, hk => exact hk
                  | 1, hk => exact hk
                  | 2, hk => exact hk
                  | 3, hk => exact hk
                  | 4, hk => exact hk
                  | 5, hk => cases hk
                  | 6, hk => cases hk
                  | k + 7, hk => cases hk
                refine ih_10 _ ?_ mn (m + 1) U34 (Nat.le_refl _) ?_ ?_
                · have hm_10 := hm_10 (); omega
                · exact fr_u (fr_u (fr_t (fr_0 _ _) (fr_s hf_10 rfl)) hU23 rfl) hU34 rfl
                · omega
              · refine ix_i (by omega) ?_
                intro b36 b36b
                have e37 : U23 233 0 m = T 233 0 m := (up_k hU23 (by exact Nat.ne_of_beq_eq_false rfl) 0 m).trans (hf_10 233 0 m rfl)
                rw [e37] at b36 b36b ⊢
                refine hK 126 [some (vR 111 0), some (vI c), some (vI cl), some (vI mn), some (vI m), some (vI v), none] [vI (T 233 0 m), vR 291 0] U23 ?_
                refine j_blx (F := fX11) tb_X11 (nn_ _) bk_X11_canTry_126 bs_X11_canTry_126 hz (fun K hK => ?_)
                refine ix_i (by omega) ?_
                intro b38 b38b
                have e39 : U23 291 0 (T 233 0 m) = T1 291 0 (T 233 0 m) := up_k hU23 (by exact Nat.ne_of_beq_eq_false rfl) 0 (T 233 0 m)
                rw [e39] at b38 b38b ⊢
                refine hK 131 _ [vI 3, vI c, vR 111 0, vI (T1 291 0 (T 233 0 m)), vI (T 233 0 m), vR 291 0] U23 ?_
                refine j_callV (y := yX11_rule0) (Yc := zX11_rule0) (rest := [vI (T1 291 0 (T 233 0 m)), vI (T 233 0 m), vR 291 0]) [vI c, vI 3] (ct_X11_rule0 (T := U23) (by omega) (by omega)) cl_X11_321 (qd_c (by decide +kernel)) (nn_ _) rfl (rf_of rfl) (Nat.le_of_ble_eq_true rfl) (Nat.le_of_ble_eq_true rfl) (Nat.le_of_ble_eq_true rfl) rfl ?_
                rintro _ _ ⟨rfl, rfl⟩
                have e40 : U23 205 0 (23 * c + 3) = T 205 0 (23 * c + 3) := (up_k hU23 (by exact Nat.ne_of_beq_eq_false rfl) 0 (23 * c + 3)).trans (hf_10 205 0 (23 * c + 3) rfl)
                show J_ zX11_canTry T (po_X11_canTry T c cl) 0 0 134 _ [vI (U23 205 0 (23 * c + 3)), vI (T1 291 0 (T 233 0 m)), vI (T 233 0 m), vR 291 0] U23
                refine j_blx (F := fX11) tb_X11 (nn_ _) bk_X11_canTry_134 bs_X11_canTry_134 hz (fun K hK => ?_)
                intro w41 w41b
                refine iy_i (by omega) (by omega) ?_
                refine x_nm (fun U42 hU42 => ?_)
                have e43 := up_f hU42
                refine hK 159 _ [] U42 ?_
                refine j_blx (F := fX11) tb_X11 (nn_ _) bk_X11_canTry_159 bs_X11_canTry_159 hz (fun K hK => ?_)
                refine rg_i (by omega) ?_
                refine hK 10 [some (vR 111 0), some (vI c), some (vI cl), some (vI mn), some (vI (m + 1)), some (vI v), none] [] U42 ?_
                refine j_drop [some (vR 111 0), some (vI c), some (vI cl), some (vI mn), some (vI (m + 1)), none, none] (fun k v hk => ?_) rfl ?_
                · match k, hk with
                  | 0, hk => exact hk
                  | 1, hk => exact hk
                  | 2, hk => exact hk
                  | 3, hk => exact hk
                  | 4, hk => exact hk
                  | 5, hk => cases hk
                  | 6, hk => cases hk
                  | k + 7, hk => cases hk
                refine ih_10 _ ?_ mn (m + 1) U42 (Nat.le_refl _) ?_ ?_
                · have hm_10 := hm_10 (); omega
                · exact fr_u (fr_u (fr_t (fr_0 _ _) (fr_s hf_10 rfl)) hU23 rfl) hU42 rfl
                · omega
            · refine hK 93 _ [vI 0, vI m, vR 289 0] T1 ?_
              refine j_blx (F := fX11) tb_X11 (nn_ _) bk_X11_canTry_93 bs_X11_canTry_93 hz (fun K hK => ?_)
              refine iy_i (by omega) (by omega) ?_
              refine x_nm (fun U44 hU44 => ?_)
              have e45 := up_f hU44
              refine ix_i (by omega) ?_
              intro b46 b46b
              have e47 : U44 232 0 m = T 232 0 m := (up_k hU44 (by exact Nat.ne_of_beq_eq_false rfl) 0 m).trans (hf_10 232 0 m rfl)
              rw [e47] at b46 b46b ⊢
              refine And.intro (fun c48 => ?_) (fun c48 => ?_)
              · refine hK 119 _ [vR 291 0] U44 ?_
                refine j_blx (F := fX11) tb_X11 (nn_ _) bk_X11_canTry_119 bs_X11_canTry_119 hz (fun K hK => ?_)
                refine ix_i (by omega) ?_
                intro b49 b49b
                have e50 : U44 232 0 m = T 232 0 m := (up_k hU44 (by exact Nat.ne_of_beq_eq_false rfl) 0 m).trans (hf_10 232 0 m rfl)
                rw [e50] at b49 b49b ⊢
                refine ix_i (by omega) ?_
                intro b51 b51b
                have e52 : U44 291 0 (T 232 0 m) = T1 291 0 (T 232 0 m) := up_k hU44 (by exact Nat.ne_of_beq_eq_false rfl) 0 (T 232 0 m)
                rw [e52] at b51 b51b ⊢
                refine hK 131 _ [vI 3, vI c, vR 111 0, vI (T1 291 0 (T 232 0 m)), vI (T 232 0 m), vR 291 0] U44 ?_
                refine j_callV (y := yX11_rule0) (Yc := zX11_rule0) (rest := [vI (T1 291 0 (T 232 0 m)), vI (T 232 0 m), vR 291 0]) [vI c, vI 3] (ct_X11_rule0 (T := U44) (by omega) (by omega)) cl_X11_321 (qd_c (by decide +kernel)) (nn_ _) rfl (rf_of rfl) (Nat.le_of_ble_eq_true rfl) (Nat.le_of_ble_eq_true rfl) (Nat.le_of_ble_eq_true rfl) rfl ?_
                rintro _ _ ⟨rfl, rfl⟩
                have e53 : U44 205 0 (23 * c + 3) = T 205 0 (23 * c + 3) := (up_k hU44 (by exact Nat.ne_of_beq_eq_false rfl) 0 (23 * c + 3)).trans (hf_10 205 0 (23 * c + 3) rfl)
                show J_ zX11_canTry T (po_X11_canTry T c cl) 0 0 134 _ [vI (U44 205 0 (23 * c + 3)), vI (T1 291 0 (T 232 0 m)), vI (T 232 0 m), vR 291 0] U44
                refine j_blx (F := fX11) tb_X11 (nn_ _) bk_X11_canTry_134 bs_X11_canTry_134 hz (fun K hK => ?_)
                intro w54 w54b
                refine iy_i (by omega) (by omega) ?_
                refine x_nm (fun U55 hU55 => ?_)
                have e56 := up_f hU55
                refine hK 159 _ [] U55 ?_
                refine j_blx (F := fX11) tb_X11 (nn_ _) bk_X11_canTry_159 bs_X11_canTry_159 hz (fun K hK => ?_)
                refine rg_i (by omega) ?_
                refine hK 10 [some (vR 111 0), some (vI c), some (vI cl), some (vI mn), some (vI (m + 1)), some (vI v), none] [] U55 ?_
                refine j_drop [some (vR 111 0), some (vI c), some (vI cl), some (vI mn), some (vI (m + 1)), none, none] (fun k v hk => ?_) rfl ?_
                · match k, hk with
                  | 0, hk => exact hk
                  | 1, hk => exact hk
                  | 2, hk => exact hk
                  | 3, hk => exact hk
                  | 4, hk => exact hk
                  | 5, hk => cases hk
                  | 6, hk => cases hk
                  | k + 7, hk => cases hk
                refine ih_10 _ ?_ mn (m + 1) U55 (Nat.le_refl _) ?_ ?_
                · have hm_10 := hm_10 (); omega
                · exact fr_u (fr_u (fr_t (fr_0 _ _) (fr_s hf_10 rfl)) hU44 rfl) hU55 rfl
                · omega
              · refine ix_i (by omega) ?_
                intro b57 b57b
                have e58 : U44 233 0 m = T 233 0 m := (up_k hU44 (by exact Nat.ne_of_beq_eq_false rfl) 0 m).trans (hf_10 233 0 m rfl)
                rw [e58] at b57 b57b ⊢
                refine hK 126 [some (vR 111 0), some (vI c), some (vI cl), some (vI mn), some (vI m), some (vI v), none] [vI (T 233 0 m), vR 291 0] U44 ?_
                refine j_blx (F := fX11) tb_X11 (nn_ _) bk_X11_canTry_126 bs_X11_canTry_126 hz (fun K hK => ?_)
                refine ix_i (by omega) ?_
                intro b59 b59b
                have e60 : U44 291 0 (T 233 0 m) = T1 291 0 (T 233 0 m) := up_k hU44 (by exact Nat.ne_of_beq_eq_false rfl) 0 (T 233 0 m)
                rw [e60] at b59 b59b ⊢
                refine hK 131 _ [vI 3, vI c, vR 111 0, vI (T1 291 0 (T 233 0 m)), vI (T 233 0 m), vR 291 0] U44 ?_
                refine j_callV (y := yX11_rule0) (Yc := zX11_rule0) (rest := [vI (T1 291 0 (T 233 0 m)), vI (T 233 0 m), vR 291 0]) [vI c, vI 3] (ct_X11_rule0 (T := U44) (by omega) (by omega)) cl_X11_321 (qd_c (by decide +kernel)) (nn_ _) rfl (rf_of rfl) (Nat.le_of_ble_eq_true rfl) (Nat.le_of_ble_eq_true rfl) (Nat.le_of_ble_eq_true rfl) rfl ?_
                rintro _ _ ⟨rfl, rfl⟩
                have e61 : U44 205 0 (23 * c + 3) = T 205 0 (23 * c + 3) := (up_k hU44 (by exact Nat.ne_of_beq_eq_false rfl) 0 (23 * c + 3)).trans (hf_10 205 0 (23 * c + 3) rfl)
                show J_ zX11_canTry T (po_X11_canTry T c cl) 0 0 134 _ [vI (U44 205 0 (23 * c + 3)), vI (T1 291 0 (T 233 0 m)), vI (T 233 0 m), vR 291 0] U44
                refine j_blx (F := fX11) tb_X11 (nn_ _) bk_X11_canTry_134 bs_X11_canTry_134 hz (fun K hK => ?_)
                intro w62 w62b
                refine iy_i (by omega) (by omega) ?_
                refine x_nm (fun U63 hU63 => ?_)
                have e64 := up_f hU63
                refine hK 159 _ [] U63 ?_
                refine j_blx (F := fX11) tb_X11 (nn_ _) bk_X11_canTry_159 bs_X11_canTry_159 hz (fun K hK => ?_)
                refine rg_i (by omega) ?_
                refine hK 10 [some (vR 111 0), some (vI c), some (vI cl), some (vI mn), some (vI (m + 1)), some (vI v), none] [] U63 ?_
                refine j_drop [some (vR 111 0), some (vI c), some (vI cl), some (vI mn), some (vI (m + 1)), none, none] (fun k v hk => ?_) rfl ?_
                · match k, hk with
                  | 0, hk => exact hk
                  | 1, hk => exact hk
                  | 2, hk => exact hk
                  | 3, hk => exact hk
                  | 4, hk => exact hk
                  | 5, hk => cases hk
                  | 6, hk => cases hk
                  | k + 7, hk => cases hk
                refine ih_10 _ ?_ mn (m + 1) U63 (Nat.le_refl _) ?_ ?_
                · have hm_10 := hm_10 (); omega
                · exact fr_u (fr_u (fr_t (fr_0 _ _) (fr_s hf_10 rfl)) hU44 rfl) hU63 rfl
                · omega
      refine j_blx (F := fX11) tb_X11 (nn_ _) bk_X11_canTry_10 bs_X11_canTry_10 hz (fun K hK => ?_)
      refine ix_i (by omega) ?_
      intro b65 b65b
      have e66 : T1 210 0 c = T 210 0 c := hf_10 210 0 c rfl
      rw [e66] at b65 b65b ⊢
      refine ix_i (by omega) ?_
      intro b67 b67b
      have e68 : T1 211 0 c = T 211 0 c := hf_10 211 0 c rfl
      rw [e68] at b67 b67b ⊢
      refine rg_i (by omega) ?_
      refine And.intro (fun c69 => ?_) (fun c69 => ?_)
      · refine hK 165 _ [] T1 ?_
        refine j_blx (F := fX11) tb_X11 (nn_ _) bk_X11_canTry_165 bs_X11_canTry_165 hz (fun K hK => ?_)
        refine And.intro (fun c70 => ?_) (fun c70 => ?_)
        · refine hK 173 _ [] T1 ?_
          refine j_blx (F := fX11) tb_X11 (nn_ _) bk_X11_canTry_173 bs_X11_canTry_173 hz (fun K hK => ?_)
          refine hK 179 [some (vR 111 0), some (vI c), some (vI cl), some (vI mn), some (vI 1), some (vI 0), none] [] T1 ?_
          refine c_179 _ mn 1 0 T1 (Nat.le_refl _) ?_ ?_
          · exact fr_t (fr_0 _ _) (fr_s hf_10 rfl)
          · omega
        · refine (show po_X11_canTry T c cl T1 (some (vI 2)) from ?_)
          exact ⟨_, rfl, fr_t (fr_0 _ _) (fr_s hf_10 rfl), by omega⟩
      · refine ix_i (by omega) ?_
        intro b71 b71b
        have e72 : T1 232 0 m = T 232 0 m := hf_10 232 0 m rfl
        rw [e72] at b71 b71b ⊢
        refine And.intro (fun c73 => ?_) (fun c73 => ?_)
        · refine hK 50 _ [] T1 ?_
          refine j_blx (F := fX11) tb_X11 (nn_ _) bk_X11_canTry_50 bs_X11_canTry_50 hz (fun K hK => ?_)
          refine hK 55 _ [vI 1] T1 ?_
          refine c_55 1 ?_
          · omega
        · refine ix_i (by omega) ?_
          intro b74 b74b
          have e75 : T1 233 0 m = T 233 0 m := hf_10 233 0 m rfl
          rw [e75] at b74 b74b ⊢
          refine And.intro (fun c76 => ?_) (fun c76 => ?_)
          · refine hK 54 _ [] T1 ?_
            refine j_blx (F := fX11) tb_X11 (nn_ _) bk_X11_canTry_54 bs_X11_canTry_54 hz (fun K hK => ?_)
            refine hK 55 _ [vI 0] T1 ?_
            refine c_55 0 ?_
            · omega
          · refine hK 55 _ [vI 1] T1 ?_
            refine c_55 1 ?_
            · omega
  refine j_blx (F := fX11) tb_X11 (nn_ _) bk_X11_canTry_0 bs_X11_canTry_0 hz (fun K hK => ?_)
  refine ix_i (by omega) ?_
  intro b77 b77b
  refine hK 10 [some (vR 111 0), some (vI c), some (vI cl), some (vI 0), some (vI (T 210 0 c)), none, none] [] T ?_
  refine c_10 _ 0 (T 210 0 c) T (Nat.le_refl _) ?_ ?_
  · exact fr_0 _ _
  · omega
