abbrev cX11_isBanned : ByteArray := prog_13_method_42_code
def yX11_isBanned : MethodName := ⟨RX11, "isBanned", "(II)Z"⟩
def zX11_isBanned : Zm := (RX11, cX11_isBanned, 10, (some .boolean), { frames := 2, cells := 0, slots := 0, locals := 48 })
theorem bk_X11_isBanned_248 : ck_ fX11 (some .boolean) cX11_isBanned 248 [.aload 0, .iload 3, .iload 6, .iload 2] 253 = true := qck_r (nn_ _) (by decide +kernel)
theorem bs_X11_isBanned_248 {P : Zt → Option Zv → Prop} (K : Int → Zl → List Zv → Zt → Prop) : sx_ K P [.aload 0, .iload 3, .iload 6, .iload 2] 253 = x_aload 0 (x_iload 3 (x_iload 6 (x_iload 2 (K 253)))) := ((xe_aload 0).trans (congrArg (x_aload 0) ((xe_iload 3).trans (congrArg (x_iload 3) ((xe_iload 6).trans (congrArg (x_iload 6) ((xe_iload 2).trans (congrArg (x_iload 2) xe_nil))))))))
set_option maxRecDepth 100000 in
theorem cl_X11_371 : cv_ RX11 371 yX11_nextMatch zX11_nextMatch 11 3 := ⟨gi_V (lw_b9 3 (by decide +kernel) rfl : Cond.methodLink RX11 371 yX11_nextMatch ∈ lw_g) (lw_b9 5 (by decide +kernel) rfl : Cond.instanceMethod yX11_nextMatch ∈ lw_g) (lw_sel 39 rfl : Cond.selects yX11_nextMatch.cls yX11_nextMatch yX11_nextMatch ∈ lw_g) (lw_b1 10 (by decide +kernel) rfl : Cond.initialized yX11_nextMatch.cls ∈ lw_g) (lw_b9 6 rfl rfl : Cond.code yX11_nextMatch cX11_nextMatch 7 (some .int) ∈ lw_g), ⟨by decide, by decide, by decide +kernel⟩, ⟨_, _, rfl⟩⟩
theorem bk_X11_isBanned_256 : ck_ fX11 (some .boolean) cX11_isBanned 256 [.istore 6, .goto 22] 261 = true := qck_r (nn_ _) (by decide +kernel)
theorem bs_X11_isBanned_256 {P : Zt → Option Zv → Prop} (K : Int → Zl → List Zv → Zt → Prop) : sx_ K P [.istore 6, .goto 22] 261 = x_istore 6 (x_goto 22 K) := ((xe_istore 6).trans (congrArg (x_istore 6) (xe_goto 22)))
theorem bk_X11_isBanned_241 : ck_ fX11 (some .boolean) cX11_isBanned 241 [.fadd, .istore 4, .iload 9, .istore 5] 248 = true := qck_r (nn_ _) (by decide +kernel)
theorem bs_X11_isBanned_241 {P : Zt → Option Zv → Prop} (K : Int → Zl → List Zv → Zt → Prop) : sx_ K P [.fadd, .istore 4, .iload 9, .istore 5] 248 = x_fadd (x_istore 4 (x_iload 9 (x_istore 5 (K 248)))) := ((xe_fadd).trans (congrArg (x_fadd) ((xe_istore 4).trans (congrArg (x_istore 4) ((xe_iload 9).trans (congrArg (x_iload 9) ((xe_istore 5).trans (congrArg (x_istore 5) xe_nil))))))))
theorem bk_X11_isBanned_160 : ck_ fX11 (some .boolean) cX11_isBanned 160 [.istore 8, .iload 8, .iconst (-1), .if_icmp .eq 193, .aload 0, .tableswitch 0 11 43 #[], .iload 8, .baload, .ifCond .eq 193, .iload 4, .aload 0, .iload 3, .iconst 14] 184 = true := qck_r (nn_ _) (by decide +kernel)
theorem bs_X11_isBanned_160 {P : Zt → Option Zv → Prop} (K : Int → Zl → List Zv → Zt → Prop) : sx_ K P [.istore 8, .iload 8, .iconst (-1), .if_icmp .eq 193, .aload 0, .tableswitch 0 11 43 #[], .iload 8, .baload, .ifCond .eq 193, .iload 4, .aload 0, .iload 3, .iconst 14] 184 = x_istore 8 (x_iload 8 (x_iconst (-1) (x_if_icmp .eq 193 K (x_aload 0 (x_g1 111 243 (x_iload 8 (x_baload (x_ifCond .eq 193 K (x_iload 4 (x_aload 0 (x_iload 3 (x_iconst 14 (K 184))))))))))))) := ((xe_istore 8).trans (congrArg (x_istore 8) ((xe_iload 8).trans (congrArg (x_iload 8) ((xe_iconst (-1)).trans (congrArg (x_iconst (-1)) ((xe_if_icmp .eq 193).trans (congrArg (x_if_icmp .eq 193 K) ((xe_aload 0).trans (congrArg (x_aload 0) ((xe_g1 (kk := 111) rfl tl_11_43).trans (congrArg (x_g1 111 243) ((xe_iload 8).trans (congrArg (x_iload 8) ((xe_baload).trans (congrArg (x_baload) ((xe_ifCond .eq 193).trans (congrArg (x_ifCond .eq 193 K) ((xe_iload 4).trans (congrArg (x_iload 4) ((xe_aload 0).trans (congrArg (x_aload 0) ((xe_iload 3).trans (congrArg (x_iload 3) ((xe_iconst 14).trans (congrArg (x_iconst 14) xe_nil))))))))))))))))))))))))))
theorem bk_X11_isBanned_193 : ck_ fX11 (some .boolean) cX11_isBanned 193 [.iload 8, .iconst (-1), .if_icmp .eq 248, .iload 5, .aload 0, .tableswitch 0 11 42 #[], .iload 8, .iaload, .fadd, .istore 9, .iload 4, .iload 9, .aload 0, .iload 3, .iconst 13] 219 = true := qck_r (nn_ _) (by decide +kernel)
theorem bs_X11_isBanned_193 {P : Zt → Option Zv → Prop} (K : Int → Zl → List Zv → Zt → Prop) : sx_ K P [.iload 8, .iconst (-1), .if_icmp .eq 248, .iload 5, .aload 0, .tableswitch 0 11 42 #[], .iload 8, .iaload, .fadd, .istore 9, .iload 4, .iload 9, .aload 0, .iload 3, .iconst 13] 219 = x_iload 8 (x_iconst (-1) (x_if_icmp .eq 248 K (x_iload 5 (x_aload 0 (x_g1 111 242 (x_iload 8 (x_iaload (x_fadd (x_istore 9 (x_iload 4 (x_iload 9 (x_aload 0 (x_iload 3 (x_iconst 13 (K 219))))))))))))))) := ((xe_iload 8).trans (congrArg (x_iload 8) ((xe_iconst (-1)).trans (congrArg (x_iconst (-1)) ((xe_if_icmp .eq 248).trans (congrArg (x_if_icmp .eq 248 K) ((xe_iload 5).trans (congrArg (x_iload 5) ((xe_aload 0).trans (congrArg (x_aload 0) ((xe_g1 (kk := 111) rfl tl_11_42).trans (congrArg (x_g1 111 242) ((xe_iload 8).trans (congrArg (x_iload 8) ((xe_iaload).trans (congrArg (x_iaload) ((xe_fadd).trans (congrArg (x_fadd) ((xe_istore 9).trans (congrArg (x_istore 9) ((xe_iload 4).trans (congrArg (x_iload 4) ((xe_iload 9).trans (congrArg (x_iload 9) ((xe_aload 0).trans (congrArg (x_aload 0) ((xe_iload 3).trans (congrArg (x_iload 3) ((xe_iconst 13).trans (congrArg (x_iconst 13) xe_nil))))))))))))))))))))))))))))))
theorem bk_X11_isBanned_222 : ck_ fX11 (some .boolean) cX11_isBanned 222 [.fdiv, .iload 5, .aload 0, .iload 3, .iconst 13] 229 = true := qck_r (nn_ _) (by decide +kernel)
theorem bs_X11_isBanned_222 {P : Zt → Option Zv → Prop} (K : Int → Zl → List Zv → Zt → Prop) : sx_ K P [.fdiv, .iload 5, .aload 0, .iload 3, .iconst 13] 229 = x_fdiv (x_iload 5 (x_aload 0 (x_iload 3 (x_iconst 13 (K 229))))) := ((xe_fdiv).trans (congrArg (x_fdiv) ((xe_iload 5).trans (congrArg (x_iload 5) ((xe_aload 0).trans (congrArg (x_aload 0) ((xe_iload 3).trans (congrArg (x_iload 3) ((xe_iconst 13).trans (congrArg (x_iconst 13) xe_nil))))))))))
theorem bk_X11_isBanned_232 : ck_ fX11 (some .boolean) cX11_isBanned 232 [.fdiv, .if_icmp .le 240, .iconst 1, .goto 241] 240 = true := qck_r (nn_ _) (by decide +kernel)
theorem bs_X11_isBanned_232 {P : Zt → Option Zv → Prop} (K : Int → Zl → List Zv → Zt → Prop) : sx_ K P [.fdiv, .if_icmp .le 240, .iconst 1, .goto 241] 240 = x_fdiv (x_if_icmp .le 240 K (x_iconst 1 (x_goto 241 K))) := ((xe_fdiv).trans (congrArg (x_fdiv) ((xe_if_icmp .le 240).trans (congrArg (x_if_icmp .le 240 K) ((xe_iconst 1).trans (congrArg (x_iconst 1) (xe_goto 241)))))))
theorem bk_X11_isBanned_240 : ck_ fX11 (some .boolean) cX11_isBanned 240 [.iconst 0] 241 = true := qck_r (nn_ _) (by decide +kernel)
theorem bs_X11_isBanned_240 {P : Zt → Option Zv → Prop} (K : Int → Zl → List Zv → Zt → Prop) : sx_ K P [.iconst 0] 241 = x_iconst 0 (K 241) := ((xe_iconst 0).trans (congrArg (x_iconst 0) xe_nil))
theorem bk_X11_isBanned_187 : ck_ fX11 (some .boolean) cX11_isBanned 187 [.fadd, .istore 4, .goto 248] 193 = true := qck_r (nn_ _) (by decide +kernel)
theorem bs_X11_isBanned_187 {P : Zt → Option Zv → Prop} (K : Int → Zl → List Zv → Zt → Prop) : sx_ K P [.fadd, .istore 4, .goto 248] 193 = x_fadd (x_istore 4 (x_goto 248 K)) := ((xe_fadd).trans (congrArg (x_fadd) ((xe_istore 4).trans (congrArg (x_istore 4) (xe_goto 248)))))
theorem bk_X11_isBanned_110 : ck_ fX11 (some .boolean) cX11_isBanned 110 [.fsub, .istore 4, .aload 0, .tableswitch 0 11 35 #[], .iload 6, .iaload, .iconst 2, .if_icmp .ne 248, .aload 0, .iconst 2, .iload 6, .imul, .iload 1] 130 = true := qck_r (nn_ _) (by decide +kernel)
theorem bs_X11_isBanned_110 {P : Zt → Option Zv → Prop} (K : Int → Zl → List Zv → Zt → Prop) : sx_ K P [.fsub, .istore 4, .aload 0, .tableswitch 0 11 35 #[], .iload 6, .iaload, .iconst 2, .if_icmp .ne 248, .aload 0, .iconst 2, .iload 6, .imul, .iload 1] 130 = x_fsub (x_istore 4 (x_aload 0 (x_g1 111 235 (x_iload 6 (x_iaload (x_iconst 2 (x_if_icmp .ne 248 K (x_aload 0 (x_iconst 2 (x_iload 6 (x_imul (x_iload 1 (K 130))))))))))))) := ((xe_fsub).trans (congrArg (x_fsub) ((xe_istore 4).trans (congrArg (x_istore 4) ((xe_aload 0).trans (congrArg (x_aload 0) ((xe_g1 (kk := 111) rfl tl_11_35).trans (congrArg (x_g1 111 235) ((xe_iload 6).trans (congrArg (x_iload 6) ((xe_iaload).trans (congrArg (x_iaload) ((xe_iconst 2).trans (congrArg (x_iconst 2) ((xe_if_icmp .ne 248).trans (congrArg (x_if_icmp .ne 248 K) ((xe_aload 0).trans (congrArg (x_aload 0) ((xe_iconst 2).trans (congrArg (x_iconst 2) ((xe_iload 6).trans (congrArg (x_iload 6) ((xe_imul).trans (congrArg (x_imul) ((xe_iload 1).trans (congrArg (x_iload 1) xe_nil))))))))))))))))))))))))))
set_option maxRecDepth 100000 in
theorem cl_X11_378 : cv_ RX11 378 yX11_slotOf zX11_slotOf 11 2 := ⟨gi_V (lw_b9 11 (by decide +kernel) rfl : Cond.methodLink RX11 378 yX11_slotOf ∈ lw_g) (lw_b9 13 (by decide +kernel) rfl : Cond.instanceMethod yX11_slotOf ∈ lw_g) (lw_sel 67 rfl : Cond.selects yX11_slotOf.cls yX11_slotOf yX11_slotOf ∈ lw_g) (lw_b1 10 (by decide +kernel) rfl : Cond.initialized yX11_slotOf.cls ∈ lw_g) (lw_b9 14 rfl rfl : Cond.code yX11_slotOf cX11_slotOf 5 (some .int) ∈ lw_g), ⟨by decide, by decide, by decide +kernel⟩, ⟨_, _, rfl⟩⟩
theorem bk_X11_isBanned_133 : ck_ fX11 (some .boolean) cX11_isBanned 133 [.iconst (-1), .if_icmp .eq 149, .aload 0, .iconst 2, .iload 6, .imul, .iload 1] 143 = true := qck_r (nn_ _) (by decide +kernel)
theorem bs_X11_isBanned_133 {P : Zt → Option Zv → Prop} (K : Int → Zl → List Zv → Zt → Prop) : sx_ K P [.iconst (-1), .if_icmp .eq 149, .aload 0, .iconst 2, .iload 6, .imul, .iload 1] 143 = x_iconst (-1) (x_if_icmp .eq 149 K (x_aload 0 (x_iconst 2 (x_iload 6 (x_imul (x_iload 1 (K 143))))))) := ((xe_iconst (-1)).trans (congrArg (x_iconst (-1)) ((xe_if_icmp .eq 149).trans (congrArg (x_if_icmp .eq 149 K) ((xe_aload 0).trans (congrArg (x_aload 0) ((xe_iconst 2).trans (congrArg (x_iconst 2) ((xe_iload 6).trans (congrArg (x_iload 6) ((xe_imul).trans (congrArg (x_imul) ((xe_iload 1).trans (congrArg (x_iload 1) xe_nil))))))))))))))
theorem bk_X11_isBanned_149 : ck_ fX11 (some .boolean) cX11_isBanned 149 [.aload 0, .iconst 2, .iload 6, .imul, .iconst 1, .iadd, .iload 1] 157 = true := qck_r (nn_ _) (by decide +kernel)
theorem bs_X11_isBanned_149 {P : Zt → Option Zv → Prop} (K : Int → Zl → List Zv → Zt → Prop) : sx_ K P [.aload 0, .iconst 2, .iload 6, .imul, .iconst 1, .iadd, .iload 1] 157 = x_aload 0 (x_iconst 2 (x_iload 6 (x_imul (x_iconst 1 (x_iadd (x_iload 1 (K 157))))))) := ((xe_aload 0).trans (congrArg (x_aload 0) ((xe_iconst 2).trans (congrArg (x_iconst 2) ((xe_iload 6).trans (congrArg (x_iload 6) ((xe_imul).trans (congrArg (x_imul) ((xe_iconst 1).trans (congrArg (x_iconst 1) ((xe_iadd).trans (congrArg (x_iadd) ((xe_iload 1).trans (congrArg (x_iload 1) xe_nil))))))))))))))
theorem bk_X11_isBanned_146 : ck_ fX11 (some .boolean) cX11_isBanned 146 [.goto 160] 149 = true := qck_r (nn_ _) (by decide +kernel)
theorem bs_X11_isBanned_146 {P : Zt → Option Zv → Prop} (K : Int → Zl → List Zv → Zt → Prop) : sx_ K P [.goto 160] 149 = x_goto 160 K := (xe_goto 160)
theorem bk_X11_isBanned_66 : ck_ fX11 (some .boolean) cX11_isBanned 66 [.istore 7, .iload 7, .iconst (-1), .if_icmp .eq 248, .iload 7, .aload 0, .tableswitch 0 11 32 #[], .iload 6, .iaload, .if_icmp .eq 98, .iload 7, .aload 0, .tableswitch 0 11 33 #[], .iload 6, .iaload, .if_icmp .ne 248, .iload 4, .iload 4, .ifCond .le 109, .iconst 1, .goto 110] 109 = true := qck_r (nn_ _) (by decide +kernel)
theorem bs_X11_isBanned_66 {P : Zt → Option Zv → Prop} (K : Int → Zl → List Zv → Zt → Prop) : sx_ K P [.istore 7, .iload 7, .iconst (-1), .if_icmp .eq 248, .iload 7, .aload 0, .tableswitch 0 11 32 #[], .iload 6, .iaload, .if_icmp .eq 98, .iload 7, .aload 0, .tableswitch 0 11 33 #[], .iload 6, .iaload, .if_icmp .ne 248, .iload 4, .iload 4, .ifCond .le 109, .iconst 1, .goto 110] 109 = x_istore 7 (x_iload 7 (x_iconst (-1) (x_if_icmp .eq 248 K (x_iload 7 (x_aload 0 (x_g1 111 232 (x_iload 6 (x_iaload (x_if_icmp .eq 98 K (x_iload 7 (x_aload 0 (x_g1 111 233 (x_iload 6 (x_iaload (x_if_icmp .ne 248 K (x_iload 4 (x_iload 4 (x_ifCond .le 109 K (x_iconst 1 (x_goto 110 K)))))))))))))))))))) := ((xe_istore 7).trans (congrArg (x_istore 7) ((xe_iload 7).trans (congrArg (x_iload 7) ((xe_iconst (-1)).trans (congrArg (x_iconst (-1)) ((xe_if_icmp .eq 248).trans (congrArg (x_if_icmp .eq 248 K) ((xe_iload 7).trans (congrArg (x_iload 7) ((xe_aload 0).trans (congrArg (x_aload 0) ((xe_g1 (kk := 111) rfl tl_11_32).trans (congrArg (x_g1 111 232) ((xe_iload 6).trans (congrArg (x_iload 6) ((xe_iaload).trans (congrArg (x_iaload) ((xe_if_icmp .eq 98).trans (congrArg (x_if_icmp .eq 98 K) ((xe_iload 7).trans (congrArg (x_iload 7) ((xe_aload 0).trans (congrArg (x_aload 0) ((xe_g1 (kk := 111) rfl tl_11_33).trans (congrArg (x_g1 111 233) ((xe_iload 6).trans (congrArg (x_iload 6) ((xe_iaload).trans (congrArg (x_iaload) ((xe_if_icmp .ne 248).trans (congrArg (x_if_icmp .ne 248 K) ((xe_iload 4).trans (congrArg (x_iload 4) ((xe_iload 4).trans (congrArg (x_iload 4) ((xe_ifCond .le 109).trans (congrArg (x_ifCond .le 109 K) ((xe_iconst 1).trans (congrArg (x_iconst 1) (xe_goto 110)))))))))))))))))))))))))))))))))))))))))
theorem bk_X11_isBanned_98 : ck_ fX11 (some .boolean) cX11_isBanned 98 [.iload 4, .iload 4, .ifCond .le 109, .iconst 1, .goto 110] 109 = true := qck_r (nn_ _) (by decide +kernel)
theorem bs_X11_isBanned_98 {P : Zt → Option Zv → Prop} (K : Int → Zl → List Zv → Zt → Prop) : sx_ K P [.iload 4, .iload 4, .ifCond .le 109, .iconst 1, .goto 110] 109 = x_iload 4 (x_iload 4 (x_ifCond .le 109 K (x_iconst 1 (x_goto 110 K)))) := ((xe_iload 4).trans (congrArg (x_iload 4) ((xe_iload 4).trans (congrArg (x_iload 4) ((xe_ifCond .le 109).trans (congrArg (x_ifCond .le 109 K) ((xe_iconst 1).trans (congrArg (x_iconst 1) (xe_goto 110)))))))))
theorem bk_X11_isBanned_109 : ck_ fX11 (some .boolean) cX11_isBanned 109 [.iconst 0] 110 = true := qck_r (nn_ _) (by decide +kernel)
theorem bs_X11_isBanned_109 {P : Zt → Option Zv → Prop} (K : Int → Zl → List Zv → Zt → Prop) : sx_ K P [.iconst 0] 110 = x_iconst 0 (K 110) := ((xe_iconst 0).trans (congrArg (x_iconst 0) xe_nil))
theorem bk_X11_isBanned_22 : ck_ fX11 (some .boolean) cX11_isBanned 22 [.iload 6, .iconst (-1), .if_icmp .eq 261, .aload 0, .tableswitch 0 11 35 #[], .iload 6, .iaload, .iconst 2, .if_icmp .eq 50, .aload 0, .tableswitch 0 11 35 #[], .iload 6, .iaload, .iconst 3, .if_icmp .ne 65, .aload 0, .iload 1, .aload 0, .tableswitch 0 11 34 #[], .iload 6, .iaload] 59 = true := qck_r (nn_ _) (by decide +kernel)
theorem bs_X11_isBanned_22 {P : Zt → Option Zv → Prop} (K : Int → Zl → List Zv → Zt → Prop) : sx_ K P [.iload 6, .iconst (-1), .if_icmp .eq 261, .aload 0, .tableswitch 0 11 35 #[], .iload 6, .iaload, .iconst 2, .if_icmp .eq 50, .aload 0, .tableswitch 0 11 35 #[], .iload 6, .iaload, .iconst 3, .if_icmp .ne 65, .aload 0, .iload 1, .aload 0, .tableswitch 0 11 34 #[], .iload 6, .iaload] 59 = x_iload 6 (x_iconst (-1) (x_if_icmp .eq 261 K (x_aload 0 (x_g1 111 235 (x_iload 6 (x_iaload (x_iconst 2 (x_if_icmp .eq 50 K (x_aload 0 (x_g1 111 235 (x_iload 6 (x_iaload (x_iconst 3 (x_if_icmp .ne 65 K (x_aload 0 (x_iload 1 (x_aload 0 (x_g1 111 234 (x_iload 6 (x_iaload (K 59))))))))))))))))))))) := ((xe_iload 6).trans (congrArg (x_iload 6) ((xe_iconst (-1)).trans (congrArg (x_iconst (-1)) ((xe_if_icmp .eq 261).trans (congrArg (x_if_icmp .eq 261 K) ((xe_aload 0).trans (congrArg (x_aload 0) ((xe_g1 (kk := 111) rfl tl_11_35).trans (congrArg (x_g1 111 235) ((xe_iload 6).trans (congrArg (x_iload 6) ((xe_iaload).trans (congrArg (x_iaload) ((xe_iconst 2).trans (congrArg (x_iconst 2) ((xe_if_icmp .eq 50).trans (congrArg (x_if_icmp .eq 50 K) ((xe_aload 0).trans (congrArg (x_aload 0) ((xe_g1 (kk := 111) rfl tl_11_35).trans (congrArg (x_g1 111 235) ((xe_iload 6).trans (congrArg (x_iload 6) ((xe_iaload).trans (congrArg (x_iaload) ((xe_iconst 3).trans (congrArg (x_iconst 3) ((xe_if_icmp .ne 65).trans (congrArg (x_if_icmp .ne 65 K) ((xe_aload 0).trans (congrArg (x_aload 0) ((xe_iload 1).trans (congrArg (x_iload 1) ((xe_aload 0).trans (congrArg (x_aload 0) ((xe_g1 (kk := 111) rfl tl_11_34).trans (congrArg (x_g1 111 234) ((xe_iload 6).trans (congrArg (x_iload 6) ((xe_iaload).trans (congrArg (x_iaload) xe_nil))))))))))))))))))))))))))))))))))))))))))
theorem bk_X11_isBanned_261 : ck_ fX11 (some .boolean) cX11_isBanned 261 [.iload 4, .ifCond .le 270, .iconst 1, .goto 271] 270 = true := qck_r (nn_ _) (by decide +kernel)
theorem bs_X11_isBanned_261 {P : Zt → Option Zv → Prop} (K : Int → Zl → List Zv → Zt → Prop) : sx_ K P [.iload 4, .ifCond .le 270, .iconst 1, .goto 271] 270 = x_iload 4 (x_ifCond .le 270 K (x_iconst 1 (x_goto 271 K))) := ((xe_iload 4).trans (congrArg (x_iload 4) ((xe_ifCond .le 270).trans (congrArg (x_ifCond .le 270 K) ((xe_iconst 1).trans (congrArg (x_iconst 1) (xe_goto 271)))))))
theorem bk_X11_isBanned_270 : ck_ fX11 (some .boolean) cX11_isBanned 270 [.iconst 0, .ireturn] 272 = true := qck_r (nn_ _) (by decide +kernel)
theorem bs_X11_isBanned_270 {P : Zt → Option Zv → Prop} (K : Int → Zl → List Zv → Zt → Prop) : sx_ K P [.iconst 0, .ireturn] 272 = x_iconst 0 (x_ireturn P) := ((xe_iconst 0).trans (congrArg (x_iconst 0) (xe_ireturn)))
theorem bk_X11_isBanned_271 : ck_ fX11 (some .boolean) cX11_isBanned 271 [.ireturn] 272 = true := qck_r (nn_ _) (by decide +kernel)
theorem bs_X11_isBanned_271 {P : Zt → Option Zv → Prop} (K : Int → Zl → List Zv → Zt → Prop) : sx_ K P [.ireturn] 272 = x_ireturn P := (xe_ireturn)
theorem bk_X11_isBanned_50 : ck_ fX11 (some .boolean) cX11_isBanned 50 [.aload 0, .iload 1, .aload 0, .tableswitch 0 11 34 #[], .iload 6, .iaload] 59 = true := qck_r (nn_ _) (by decide +kernel)
theorem bs_X11_isBanned_50 {P : Zt → Option Zv → Prop} (K : Int → Zl → List Zv → Zt → Prop) : sx_ K P [.aload 0, .iload 1, .aload 0, .tableswitch 0 11 34 #[], .iload 6, .iaload] 59 = x_aload 0 (x_iload 1 (x_aload 0 (x_g1 111 234 (x_iload 6 (x_iaload (K 59)))))) := ((xe_aload 0).trans (congrArg (x_aload 0) ((xe_iload 1).trans (congrArg (x_iload 1) ((xe_aload 0).trans (congrArg (x_aload 0) ((xe_g1 (kk := 111) rfl tl_11_34).trans (congrArg (x_g1 111 234) ((xe_iload 6).trans (congrArg (x_iload 6) ((xe_iaload).trans (congrArg (x_iaload) xe_nil))))))))))))
set_option maxRecDepth 100000 in
theorem cl_X11_375 : cv_ RX11 375 yX11_clubOf zX11_clubOf 11 2 := ⟨gi_V (lw_b8 235 (by decide +kernel) rfl : Cond.methodLink RX11 375 yX11_clubOf ∈ lw_g) (lw_b8 237 (by decide +kernel) rfl : Cond.instanceMethod yX11_clubOf ∈ lw_g) (lw_sel 11 rfl : Cond.selects yX11_clubOf.cls yX11_clubOf yX11_clubOf ∈ lw_g) (lw_b1 10 (by decide +kernel) rfl : Cond.initialized yX11_clubOf.cls ∈ lw_g) (lw_b8 238 rfl rfl : Cond.code yX11_clubOf cX11_clubOf 5 (some .int) ∈ lw_g), ⟨by decide, by decide, by decide +kernel⟩, ⟨_, _, rfl⟩⟩
theorem bk_X11_isBanned_62 : ck_ fX11 (some .boolean) cX11_isBanned 62 [.goto 66] 65 = true := qck_r (nn_ _) (by decide +kernel)
theorem bs_X11_isBanned_62 {P : Zt → Option Zv → Prop} (K : Int → Zl → List Zv → Zt → Prop) : sx_ K P [.goto 66] 65 = x_goto 66 K := (xe_goto 66)
theorem bk_X11_isBanned_65 : ck_ fX11 (some .boolean) cX11_isBanned 65 [.iconst (-1)] 66 = true := qck_r (nn_ _) (by decide +kernel)
theorem bs_X11_isBanned_65 {P : Zt → Option Zv → Prop} (K : Int → Zl → List Zv → Zt → Prop) : sx_ K P [.iconst (-1)] 66 = x_iconst (-1) (K 66) := ((xe_iconst (-1)).trans (congrArg (x_iconst (-1)) xe_nil))
theorem bk_X11_isBanned_0 : ck_ fX11 (some .boolean) cX11_isBanned 0 [.aload 0, .tableswitch 0 11 30 #[], .iload 2, .iaload, .istore 3, .iconst 0, .istore 4, .iconst 0, .istore 5, .aload 0, .iload 3, .iconst (-1), .iload 2] 17 = true := qck_r (nn_ _) (by decide +kernel)
theorem bs_X11_isBanned_0 {P : Zt → Option Zv → Prop} (K : Int → Zl → List Zv → Zt → Prop) : sx_ K P [.aload 0, .tableswitch 0 11 30 #[], .iload 2, .iaload, .istore 3, .iconst 0, .istore 4, .iconst 0, .istore 5, .aload 0, .iload 3, .iconst (-1), .iload 2] 17 = x_aload 0 (x_g1 111 230 (x_iload 2 (x_iaload (x_istore 3 (x_iconst 0 (x_istore 4 (x_iconst 0 (x_istore 5 (x_aload 0 (x_iload 3 (x_iconst (-1) (x_iload 2 (K 17))))))))))))) := ((xe_aload 0).trans (congrArg (x_aload 0) ((xe_g1 (kk := 111) rfl tl_11_30).trans (congrArg (x_g1 111 230) ((xe_iload 2).trans (congrArg (x_iload 2) ((xe_iaload).trans (congrArg (x_iaload) ((xe_istore 3).trans (congrArg (x_istore 3) ((xe_iconst 0).trans (congrArg (x_iconst 0) ((xe_istore 4).trans (congrArg (x_istore 4) ((xe_iconst 0).trans (congrArg (x_iconst 0) ((xe_istore 5).trans (congrArg (x_istore 5) ((xe_aload 0).trans (congrArg (x_aload 0) ((xe_iload 3).trans (congrArg (x_iload 3) ((xe_iconst (-1)).trans (congrArg (x_iconst (-1)) ((xe_iload 2).trans (congrArg (x_iload 2) xe_nil))))))))))))))))))))))))))
theorem bk_X11_isBanned_20 : ck_ fX11 (some .boolean) cX11_isBanned 20 [.istore 6] 22 = true := qck_r (nn_ _) (by decide +kernel)
theorem bs_X11_isBanned_20 {P : Zt → Option Zv → Prop} (K : Int → Zl → List Zv → Zt → Prop) : sx_ K P [.istore 6] 22 = x_istore 6 (K 22) := ((xe_istore 6).trans (congrArg (x_istore 6) xe_nil))
abbrev po_X11_isBanned (T : Zt) (p x : Int) : Zt → Option Zv → Prop := fun T' r => T = T' ∧ ∃ r9 : Int, r = some (vI r9) ∧ (0 ≤ r9 ∧ r9 ≤ 1)
set_option maxHeartbeats 4000000 in
theorem ct_X11_isBanned {T : Zt} {p x : Int} (h1 : 0 ≤ x ∧ x < T 111 0 29) (hml : ML_ T) (hmc : MC_ T) (hri : RI_ T) : Ct_ yX11_isBanned zX11_isBanned T [vR 111 0, vI p, vI x] (po_X11_isBanned T p x) := by
  refine ct_of pn_11 rfl rfl (Nat.le_of_ble_eq_true rfl) (fun hT hav => ?_)
  have hr_p : -2147483648 ≤ p ∧ p ≤ 2147483647 := hav (vI p) (by simp)
  have hr_x : -2147483648 ≤ x ∧ x ≤ 2147483647 := hav (vI x) (by simp)
  have hz : zX11_isBanned.2.2.2.1 = some .boolean → ∀ (T' : Zt) (x : Int), po_X11_isBanned T p x T' (some (vI x)) → 0 ≤ x ∧ x ≤ 1 := fun _ T' x h => by obtain ⟨-, y, e, hy⟩ := h; cases e; omega
  have hcx := hmc x (by omega) (by omega)
  have hcb : 0 ≤ T 230 0 x ∧ T 230 0 x ≤ 3 := bd_a hT 230 (by decide +kernel : ta_ 230 = some (1, some 400, 0, 3)) 0 (by omega)
  have hmx := hml (T 230 0 x) (by omega) (by omega)
  have hr13 : (1 : Int) ≤ T 205 0 (23 * T 230 0 x + 13) ∧ T 205 0 (23 * T 230 0 x + 13) ≤ (9 : Int) := hri (T 230 0 x) 13 (by omega) (by omega) (by omega) (by omega)
  have hb_29 : 0 ≤ T 111 0 29 ∧ T 111 0 29 ≤ 400 := bd_f hT 111 29 (by decide +kernel : (tf_ 111)[29]? = some (0, 0, 0, 400)) 0
  have hb_6 : 0 ≤ T 111 0 6 ∧ T 111 0 6 ≤ 4 := bd_f hT 111 6 (by decide +kernel : (tf_ 111)[6]? = some (0, 0, 0, 4)) 0
  have hfo : 0 ≤ T 210 0 (T 230 0 x) ∧ T 210 0 (T 230 0 x) ≤ 400 := bd_a hT 210 (by decide +kernel : ta_ 210 = some (1, some 4, 0, 400)) 0 (by omega)
  show J_ zX11_isBanned T (po_X11_isBanned T p x) 0 0 0 [some (vR 111 0), some (vI p), some (vI x), none, none, none, none, none, none, none] [] T
  have c_22 : ∀ (nn : Nat) (de : Int) (ye : Int) (m : Int), (if m = -1 then 0 else (1000000 - (1000 * T 234 0 m + m)).toNat) ≤ nn → (m = -1 ∨ (0 ≤ m ∧ m < 400)) → J_ zX11_isBanned T (po_X11_isBanned T p x) 0 0 22 [some (vR 111 0), some (vI p), some (vI x), some (vI (T 230 0 x)), some (vI de), some (vI ye), some (vI m), none, none, none] [] T := by
    intro nn
    induction nn using Nat.strongRecOn with
    | _ nn ih_22 =>
      intro de ye m hm_22 m1
      have c_248 : ∀ (de4 : Int) (ye4 : Int), (0 ≤ m ∧ m < 400) → J_ zX11_isBanned T (po_X11_isBanned T p x) 0 0 248 [some (vR 111 0), some (vI p), some (vI x), some (vI (T 230 0 x)), some (vI de4), some (vI ye4), some (vI m), none, none, none] [] T := by
        intro de4 ye4 m2
        refine j_blx (F := fX11) tb_X11 (nn_ _) bk_X11_isBanned_248 bs_X11_isBanned_248 hz (fun K hK => ?_)
        refine hK 253 _ [vI x, vI m, vI (T 230 0 x), vR 111 0] T ?_
        refine j_callV (y := yX11_nextMatch) (Yc := zX11_nextMatch) (rest := []) [vI (T 230 0 x), vI m, vI x] (ct_X11_nextMatch (T := T) (by omega) (by omega) (by omega) (by omega)) cl_X11_371 (qd_c (by decide +kernel)) (nn_ _) rfl (rf_of rfl) (Nat.le_of_ble_eq_true rfl) (Nat.le_of_ble_eq_true rfl) (Nat.le_of_ble_eq_true rfl) rfl ?_
        rintro _ _ ⟨rfl, x1, rfl, hx1⟩
        show J_ zX11_isBanned T (po_X11_isBanned T p x) 0 0 256 _ [vI x1] T
        refine j_ok (fun _ _ => ?_)
        have hdm : 0 ≤ T 234 0 m ∧ T 234 0 m ≤ 999 := bd_a hT 234 (by decide +kernel : ta_ 234 = some (1, some 400, 0, 999)) 0 (by omega)
        have hdx : x1 = -1 ∨ 0 ≤ T 234 0 x1 ∧ T 234 0 x1 ≤ 999 := by
          rcases (by omega : x1 = -1 ∨ 0 ≤ x1) with z | z
          · exact Or.inl z
          · exact Or.inr (bd_a hT 234 (by decide +kernel : ta_ 234 = some (1, some 400, 0, 999)) 0 z)
        refine j_blx (F := fX11) tb_X11 (nn_ _) bk_X11_isBanned_256 bs_X11_isBanned_256 hz (fun K hK => ?_)
        refine hK 22 [some (vR 111 0), some (vI p), some (vI x), some (vI (T 230 0 x)), some (vI de4), some (vI ye4), some (vI x1), none, none, none] [] T ?_
        refine ih_22 _ ?_ de4 ye4 x1 (Nat.le_refl _) ?_
        · (have zm : m ≠ -1 := by omega); rw [if_neg zm] at hm_22; split <;> omega
        · omega
      have c_241 : ∀ (v : Int) (de3 : Int) (ye3 : Int), (0 ≤ m ∧ m < 400) → J_ zX11_isBanned T (po_X11_isBanned T p x) 0 0 241 [some (vR 111 0), some (vI p), some (vI x), some (vI (T 230 0 x)), some (vI de3), some (vI ye), some (vI m), none, none, some (vI ye3)] [vI v, vI de3] T := by
        intro v de3 ye3 m2
        refine j_blx (F := fX11) tb_X11 (nn_ _) bk_X11_isBanned_241 bs_X11_isBanned_241 hz (fun K hK => ?_)
        intro w2 w2b
        refine hK 248 [some (vR 111 0), some (vI p), some (vI x), some (vI (T 230 0 x)), some (vI (wr_ (de3 + v))), some (vI ye3), some (vI m), none, none, some (vI ye3)] [] T ?_
        refine j_drop [some (vR 111 0), some (vI p), some (vI x), some (vI (T 230 0 x)), some (vI (wr_ (de3 + v))), some (vI ye3), some (vI m), none, none, none] (fun k v hk => ?_) rfl ?_
        · match k, hk with
          | 0, hk => exact hk
          | 1, hk => exact hk
          | 2, hk => exact hk
          | 3, hk => exact hk
          | 4, hk => exact hk
          | 5, hk => exact hk
          | 6, hk => exact hk
          | 7, hk => cases hk
          | 8, hk => cases hk
          | 9, hk => cases hk
          | k + 10, hk => cases hk
        refine c_248 (wr_ (de3 + v)) ye3 ?_
        · omega
      have c_160 : ∀ (sl : Int) (de2 : Int), (0 ≤ m ∧ m < 400 ∧ -1 ≤ sl ∧ sl < 8000) → J_ zX11_isBanned T (po_X11_isBanned T p x) 0 0 160 [some (vR 111 0), some (vI p), some (vI x), some (vI (T 230 0 x)), some (vI de2), some (vI ye), some (vI m), none, none, none] [vI sl] T := by
        intro sl de2 m2
        refine j_blx (F := fX11) tb_X11 (nn_ _) bk_X11_isBanned_160 bs_X11_isBanned_160 hz (fun K hK => ?_)
        refine And.intro (fun c3 => ?_) (fun c3 => ?_)
        · refine hK 193 [some (vR 111 0), some (vI p), some (vI x), some (vI (T 230 0 x)), some (vI de2), some (vI ye), some (vI m), none, some (vI sl), none] [] T ?_
          refine j_blx (F := fX11) tb_X11 (nn_ _) bk_X11_isBanned_193 bs_X11_isBanned_193 hz (fun K hK => ?_)
          refine And.intro (fun c4 => ?_) (fun c4 => ?_)
          · refine hK 248 _ [] T ?_
            refine j_drop [some (vR 111 0), some (vI p), some (vI x), some (vI (T 230 0 x)), some (vI de2), some (vI ye), some (vI m), none, none, none] (fun k v hk => ?_) rfl ?_
            · match k, hk with
              | 0, hk => exact hk
              | 1, hk => exact hk
              | 2, hk => exact hk
              | 3, hk => exact hk
              | 4, hk => exact hk
              | 5, hk => exact hk
              | 6, hk => exact hk
              | 7, hk => cases hk
              | 8, hk => cases hk
              | 9, hk => cases hk
              | k + 10, hk => cases hk
            refine c_248 de2 ye ?_
            · omega
          · refine ix_i (by omega) ?_
            intro b5 b5b
            intro w6 w6b
            refine hK 219 [some (vR 111 0), some (vI p), some (vI x), some (vI (T 230 0 x)), some (vI de2), some (vI ye), some (vI m), none, some (vI sl), some (vI (wr_ (ye + (T 242 0 sl))))] [vI 13, vI (T 230 0 x), vR 111 0, vI (wr_ (ye + (T 242 0 sl))), vI de2] T ?_
            refine j_callV (y := yX11_rule0) (Yc := zX11_rule0) (rest := [vI (wr_ (ye + (T 242 0 sl))), vI de2]) [vI (T 230 0 x), vI 13] (ct_X11_rule0 (T := T) (by omega) (by omega)) cl_X11_321 (qd_c (by decide +kernel)) (nn_ _) rfl (rf_of rfl) (Nat.le_of_ble_eq_true rfl) (Nat.le_of_ble_eq_true rfl) (Nat.le_of_ble_eq_true rfl) rfl ?_
            rintro _ _ ⟨rfl, rfl⟩
            show J_ zX11_isBanned T (po_X11_isBanned T p x) 0 0 222 _ [vI (T 205 0 (23 * (T 230 0 x) + 13)), vI (wr_ (ye + (T 242 0 sl))), vI de2] T
            refine j_blx (F := fX11) tb_X11 (nn_ _) bk_X11_isBanned_222 bs_X11_isBanned_222 hz (fun K hK => ?_)
            refine And.intro (by omega) (fun w7 w7b => ?_)
            refine hK 229 _ [vI 13, vI (T 230 0 x), vR 111 0, vI ye, vI (dq_ (wr_ (ye + (T 242 0 sl))) (T 205 0 (23 * (T 230 0 x) + 13))), vI de2] T ?_
            refine j_callV (y := yX11_rule0) (Yc := zX11_rule0) (rest := [vI ye, vI (dq_ (wr_ (ye + (T 242 0 sl))) (T 205 0 (23 * (T 230 0 x) + 13))), vI de2]) [vI (T 230 0 x), vI 13] (ct_X11_rule0 (T := T) (by omega) (by omega)) cl_X11_321 (qd_c (by decide +kernel)) (nn_ _) rfl (rf_of rfl) (Nat.le_of_ble_eq_true rfl) (Nat.le_of_ble_eq_true rfl) (Nat.le_of_ble_eq_true rfl) rfl ?_
            rintro _ _ ⟨rfl, rfl⟩
            show J_ zX11_isBanned T (po_X11_isBanned T p x) 0 0 232 _ [vI (T 205 0 (23 * (T 230 0 x) + 13)), vI ye, vI (dq_ (wr_ (ye + (T 242 0 sl))) (T 205 0 (23 * (T 230 0 x) + 13))), vI de2] T
            refine j_blx (F := fX11) tb_X11 (nn_ _) bk_X11_isBanned_232 bs_X11_isBanned_232 hz (fun K hK => ?_)
            refine And.intro (by omega) (fun w8 w8b => ?_)
            refine And.intro (fun c9 => ?_) (fun c9 => ?_)
            · refine hK 240 _ [vI de2] T ?_
              refine j_blx (F := fX11) tb_X11 (nn_ _) bk_X11_isBanned_240 bs_X11_isBanned_240 hz (fun K hK => ?_)
              refine hK 241 _ [vI 0, vI de2] T ?_
              refine j_drop [some (vR 111 0), some (vI p), some (vI x), some (vI (T 230 0 x)), some (vI de2), some (vI ye), some (vI m), none, none, some (vI (wr_ (ye + (T 242 0 sl))))] (fun k v hk => ?_) rfl ?_
              · match k, hk with
                | 0, hk => exact hk
                | 1, hk => exact hk
                | 2, hk => exact hk
                | 3, hk => exact hk
                | 4, hk => exact hk
                | 5, hk => exact hk
                | 6, hk => exact hk
                | 7, hk => cases hk
                | 8, hk => cases hk
                | 9, hk => exact hk
                | k + 10, hk => cases hk
              refine c_241 0 de2 (wr_ (ye + (T 242 0 sl))) ?_
              · omega
            · refine hK 241 [some (vR 111 0), some (vI p), some (vI x), some (vI (T 230 0 x)), some (vI de2), some (vI ye), some (vI m), none, some (vI sl), some (vI (wr_ (ye + (T 242 0 sl))))] [vI 1, vI de2] T ?_
              refine j_drop [some (vR 111 0), some (vI p), some (vI x), some (vI (T 230 0 x)), some (vI de2), some (vI ye), some (vI m), none, none, some (vI (wr_ (ye + (T 242 0 sl))))] (fun k v hk => ?_) rfl ?_
              · match k, hk with
                | 0, hk => exact hk
                | 1, hk => exact hk
                | 2, hk => exact hk
                | 3, hk => exact hk
                | 4, hk => exact hk
                | 5, hk => exact hk
                | 6, hk => exact hk
                | 7, hk => cases hk
                | 8, hk => cases hk
                | 9, hk => exact hk
                | k + 10, hk => cases hk
              refine c_241 1 de2 (wr_ (ye + (T 242 0 sl))) ?_
              · omega
        · refine ix_i (by omega) ?_
          intro b10 b10b
          refine And.intro (fun c11 => ?_) (fun c11 => ?_)
          · refine hK 193 _ [] T ?_
            refine j_blx (F := fX11) tb_X11 (nn_ _) bk_X11_isBanned_193 bs_X11_isBanned_193 hz (fun K hK => ?_)
            refine And.intro (fun c12 => ?_) (fun c12 => ?_)
            · refine hK 248 _ [] T ?_
              refine j_drop [some (vR 111 0), some (vI p), some (vI x), some (vI (T 230 0 x)), some (vI de2), some (vI ye), some (vI m), none, none, none] (fun k v hk => ?_) rfl ?_
              · match k, hk with
                | 0, hk => exact hk
                | 1, hk => exact hk
                | 2, hk => exact hk
                | 3, hk => exact hk
                | 4, hk => exact hk
                | 5, hk => exact hk
                | 6, hk => exact hk
                | 7, hk => cases hk
                | 8, hk => cases hk
                | 9, hk => cases hk
                | k + 10, hk => cases hk
              refine c_248 de2 ye ?_
              · omega
            · refine ix_i (by omega) ?_
              intro b13 b13b
              intro w14 w14b
              refine hK 219 [some (vR 111 0), some (vI p), some (vI x), some (vI (T 230 0 x)), some (vI de2), some (vI ye), some (vI m), none, some (vI sl), some (vI (wr_ (ye + (T 242 0 sl))))] [vI 13, vI (T 230 0 x), vR 111 0, vI (wr_ (ye + (T 242 0 sl))), vI de2] T ?_
              refine j_callV (y := yX11_rule0) (Yc := zX11_rule0) (rest := [vI (wr_ (ye + (T 242 0 sl))), vI de2]) [vI (T 230 0 x), vI 13] (ct_X11_rule0 (T := T) (by omega) (by omega)) cl_X11_321 (qd_c (by decide +kernel)) (nn_ _) rfl (rf_of rfl) (Nat.le_of_ble_eq_true rfl) (Nat.le_of_ble_eq_true rfl) (Nat.le_of_ble_eq_true rfl) rfl ?_
              rintro _ _ ⟨rfl, rfl⟩
              show J_ zX11_isBanned T (po_X11_isBanned T p x) 0 0 222 _ [vI (T 205 0 (23 * (T 230 0 x) + 13)), vI (wr_ (ye + (T 242 0 sl))), vI de2] T
              refine j_blx (F := fX11) tb_X11 (nn_ _) bk_X11_isBanned_222 bs_X11_isBanned_222 hz (fun K hK => ?_)
              refine And.intro (by omega) (fun w15 w15b => ?_)
              refine hK 229 _ [vI 13, vI (T 230 0 x), vR 111 0, vI ye, vI (dq_ (wr_ (ye + (T 242 0 sl))) (T 205 0 (23 * (T 230 0 x) + 13))), vI de2] T ?_
              refine j_callV (y := yX11_rule0) (Yc := zX11_rule0) (rest := [vI ye, vI (dq_ (wr_ (ye + (T 242 0 sl))) (T 205 0 (23 * (T 230 0 x) + 13))), vI de2]) [vI (T 230 0 x), vI 13] (ct_X11_rule0 (T := T) (by omega) (by omega)) cl_X11_321 (qd_c (by decide +kernel)) (nn_ _) rfl (rf_of rfl) (Nat.le_of_ble_eq_true rfl) (Nat.le_of_ble_eq_true rfl) (Nat.le_of_ble_eq_true rfl) rfl ?_
              rintro _ _ ⟨rfl, rfl⟩
              show J_ zX11_isBanned T (po_X11_isBanned T p x) 0 0 232 _ [vI (T 205 0 (23 * (T 230 0 x) + 13)), vI ye, vI (dq_ (wr_ (ye + (T 242 0 sl))) (T 205 0 (23 * (T 230 0 x) + 13))), vI de2] T
              refine j_blx (F := fX11) tb_X11 (nn_ _) bk_X11_isBanned_232 bs_X11_isBanned_232 hz (fun K hK => ?_)
              refine And.intro (by omega) (fun w16 w16b => ?_)
              refine And.intro (fun c17 => ?_) (fun c17 => ?_)
              · refine hK 240 _ [vI de2] T ?_
                refine j_blx (F := fX11) tb_X11 (nn_ _) bk_X11_isBanned_240 bs_X11_isBanned_240 hz (fun K hK => ?_)
                refine hK 241 _ [vI 0, vI de2] T ?_
                refine j_drop [some (vR 111 0), some (vI p), some (vI x), some (vI (T 230 0 x)), some (vI de2), some (vI ye), some (vI m), none, none, some (vI (wr_ (ye + (T 242 0 sl))))] (fun k v hk => ?_) rfl ?_
                · match k, hk with
                  | 0, hk => exact hk
                  | 1, hk => exact hk
                  | 2, hk => exact hk
                  | 3, hk => exact hk
                  | 4, hk => exact hk
                  | 5, hk => exact hk
                  | 6, hk => exact hk
                  | 7, hk => cases hk
                  | 8, hk => cases hk
                  | 9, hk => exact hk
                  | k + 10, hk => cases hk
                refine c_241 0 de2 (wr_ (ye + (T 242 0 sl))) ?_
                · omega
              · refine hK 241 [some (vR 111 0), some (vI p), some (vI x), some (vI (T 230 0 x)), some (vI de2), some (vI ye), some (vI m), none, some (vI sl), some (vI (wr_ (ye + (T 242 0 sl))))] [vI 1, vI de2] T ?_
                refine j_drop [some (vR 111 0), some (vI p), some (vI x), some (vI (T 230 0 x)), some (vI de2), some (vI ye), some (vI m), none, none, some (vI (wr_ (ye + (T 242 0 sl))))] (fun k v hk => ?_) rfl ?_
                · match k, hk with
                  | 0, hk => exact hk
                  | 1, hk => exact hk
                  | 2, hk => exact hk
                  | 3, hk => exact hk
                  | 4, hk => exact hk
                  | 5, hk => exact hk
                  | 6, hk => exact hk
                  | 7, hk => cases hk
                  | 8, hk => cases hk
                  | 9, hk => exact hk
                  | k + 10, hk => cases hk
                refine c_241 1 de2 (wr_ (ye + (T 242 0 sl))) ?_
                · omega
          · refine hK 184 _ [vI 14, vI (T 230 0 x), vR 111 0, vI de2] T ?_
            refine j_callV (y := yX11_rule0) (Yc := zX11_rule0) (rest := [vI de2]) [vI (T 230 0 x), vI 14] (ct_X11_rule0 (T := T) (by omega) (by omega)) cl_X11_321 (qd_c (by decide +kernel)) (nn_ _) rfl (rf_of rfl) (Nat.le_of_ble_eq_true rfl) (Nat.le_of_ble_eq_true rfl) (Nat.le_of_ble_eq_true rfl) rfl ?_
            rintro _ _ ⟨rfl, rfl⟩
            show J_ zX11_isBanned T (po_X11_isBanned T p x) 0 0 187 _ [vI (T 205 0 (23 * (T 230 0 x) + 14)), vI de2] T
            refine j_blx (F := fX11) tb_X11 (nn_ _) bk_X11_isBanned_187 bs_X11_isBanned_187 hz (fun K hK => ?_)
            intro w18 w18b
            refine hK 248 [some (vR 111 0), some (vI p), some (vI x), some (vI (T 230 0 x)), some (vI (wr_ (de2 + (T 205 0 (23 * (T 230 0 x) + 14))))), some (vI ye), some (vI m), none, some (vI sl), none] [] T ?_
            refine j_drop [some (vR 111 0), some (vI p), some (vI x), some (vI (T 230 0 x)), some (vI (wr_ (de2 + (T 205 0 (23 * (T 230 0 x) + 14))))), some (vI ye), some (vI m), none, none, none] (fun k v hk => ?_) rfl ?_
            · match k, hk with
              | 0, hk => exact hk
              | 1, hk => exact hk
              | 2, hk => exact hk
              | 3, hk => exact hk
              | 4, hk => exact hk
              | 5, hk => exact hk
              | 6, hk => exact hk
              | 7, hk => cases hk
              | 8, hk => cases hk
              | 9, hk => cases hk
              | k + 10, hk => cases hk
            refine c_248 (wr_ (de2 + (T 205 0 (23 * (T 230 0 x) + 14)))) ye ?_
            · omega
      have c_110 : ∀ (v : Int), (0 ≤ m ∧ m < 400) → J_ zX11_isBanned T (po_X11_isBanned T p x) 0 0 110 [some (vR 111 0), some (vI p), some (vI x), some (vI (T 230 0 x)), some (vI de), some (vI ye), some (vI m), none, none, none] [vI v, vI de] T := by
        intro v m2
        refine j_blx (F := fX11) tb_X11 (nn_ _) bk_X11_isBanned_110 bs_X11_isBanned_110 hz (fun K hK => ?_)
        intro w19 w19b
        refine ix_i (by omega) ?_
        intro b20 b20b
        refine And.intro (fun c21 => ?_) (fun c21 => ?_)
        · refine hK 248 [some (vR 111 0), some (vI p), some (vI x), some (vI (T 230 0 x)), some (vI (wr_ (de - v))), some (vI ye), some (vI m), none, none, none] [] T ?_
          refine c_248 (wr_ (de - v)) ye ?_
          · omega
        · refine rg_i (by omega) ?_
          refine hK 130 _ [vI p, vI (2 * m), vR 111 0] T ?_
          refine j_callV (y := yX11_slotOf) (Yc := zX11_slotOf) (rest := []) [vI (2 * m), vI p] (ct_X11_slotOf (T := T) (by omega)) cl_X11_378 (qd_c (by decide +kernel)) (nn_ _) rfl (rf_of rfl) (Nat.le_of_ble_eq_true rfl) (Nat.le_of_ble_eq_true rfl) (Nat.le_of_ble_eq_true rfl) rfl ?_
          rintro _ _ ⟨rfl, x22, rfl, hx22⟩
          show J_ zX11_isBanned T (po_X11_isBanned T p x) 0 0 133 _ [vI x22] T
          refine j_blx (F := fX11) tb_X11 (nn_ _) bk_X11_isBanned_133 bs_X11_isBanned_133 hz (fun K hK => ?_)
          refine And.intro (fun c23 => ?_) (fun c23 => ?_)
          · refine hK 149 _ [] T ?_
            refine j_blx (F := fX11) tb_X11 (nn_ _) bk_X11_isBanned_149 bs_X11_isBanned_149 hz (fun K hK => ?_)
            refine rg_i (by omega) ?_
            refine rg_i (by omega) ?_
            refine hK 157 _ [vI p, vI ((2 * m) + 1), vR 111 0] T ?_
            refine j_callV (y := yX11_slotOf) (Yc := zX11_slotOf) (rest := []) [vI ((2 * m) + 1), vI p] (ct_X11_slotOf (T := T) (by omega)) cl_X11_378 (qd_c (by decide +kernel)) (nn_ _) rfl (rf_of rfl) (Nat.le_of_ble_eq_true rfl) (Nat.le_of_ble_eq_true rfl) (Nat.le_of_ble_eq_true rfl) rfl ?_
            rintro _ _ ⟨rfl, x24, rfl, hx24⟩
            show J_ zX11_isBanned T (po_X11_isBanned T p x) 0 0 160 _ [vI x24] T
            refine c_160 x24 (wr_ (de - v)) ?_
            · omega
          · refine rg_i (by omega) ?_
            refine hK 143 _ [vI p, vI (2 * m), vR 111 0] T ?_
            refine j_callV (y := yX11_slotOf) (Yc := zX11_slotOf) (rest := []) [vI (2 * m), vI p] (ct_X11_slotOf (T := T) (by omega)) cl_X11_378 (qd_c (by decide +kernel)) (nn_ _) rfl (rf_of rfl) (Nat.le_of_ble_eq_true rfl) (Nat.le_of_ble_eq_true rfl) (Nat.le_of_ble_eq_true rfl) rfl ?_
            rintro _ _ ⟨rfl, x25, rfl, hx25⟩
            show J_ zX11_isBanned T (po_X11_isBanned T p x) 0 0 146 _ [vI x25] T
            refine j_blx (F := fX11) tb_X11 (nn_ _) bk_X11_isBanned_146 bs_X11_isBanned_146 hz (fun K hK => ?_)
            refine hK 160 _ [vI x25] T ?_
            refine c_160 x25 (wr_ (de - v)) ?_
            · omega
      have c_66 : ∀ (v : Int), (0 ≤ m ∧ m < 400) → J_ zX11_isBanned T (po_X11_isBanned T p x) 0 0 66 [some (vR 111 0), some (vI p), some (vI x), some (vI (T 230 0 x)), some (vI de), some (vI ye), some (vI m), none, none, none] [vI v] T := by
        intro v m2
        refine j_blx (F := fX11) tb_X11 (nn_ _) bk_X11_isBanned_66 bs_X11_isBanned_66 hz (fun K hK => ?_)
        refine And.intro (fun c26 => ?_) (fun c26 => ?_)
        · refine hK 248 [some (vR 111 0), some (vI p), some (vI x), some (vI (T 230 0 x)), some (vI de), some (vI ye), some (vI m), some (vI v), none, none] [] T ?_
          refine j_drop [some (vR 111 0), some (vI p), some (vI x), some (vI (T 230 0 x)), some (vI de), some (vI ye), some (vI m), none, none, none] (fun k v hk => ?_) rfl ?_
          · match k, hk with
            | 0, hk => exact hk
            | 1, hk => exact hk
            | 2, hk => exact hk
            | 3, hk => exact hk
            | 4, hk => exact hk
            | 5, hk => exact hk
            | 6, hk => exact hk
            | 7, hk => cases hk
            | 8, hk => cases hk
            | 9, hk => cases hk
            | k + 10, hk => cases hk
          refine c_248 de ye ?_
          · omega
        · refine ix_i (by omega) ?_
          intro b27 b27b
          refine And.intro (fun c28 => ?_) (fun c28 => ?_)
          · refine hK 98 [some (vR 111 0), some (vI p), some (vI x), some (vI (T 230 0 x)), some (vI de), some (vI ye), some (vI m), some (vI v), none, none] [] T ?_
            refine j_blx (F := fX11) tb_X11 (nn_ _) bk_X11_isBanned_98 bs_X11_isBanned_98 hz (fun K hK => ?_)
            refine And.intro (fun c29 => ?_) (fun c29 => ?_)
            · refine hK 109 _ [vI de] T ?_
              refine j_blx (F := fX11) tb_X11 (nn_ _) bk_X11_isBanned_109 bs_X11_isBanned_109 hz (fun K hK => ?_)
              refine hK 110 _ [vI 0, vI de] T ?_
              refine j_drop [some (vR 111 0), some (vI p), some (vI x), some (vI (T 230 0 x)), some (vI de), some (vI ye), some (vI m), none, none, none] (fun k v hk => ?_) rfl ?_
              · match k, hk with
                | 0, hk => exact hk
                | 1, hk => exact hk
                | 2, hk => exact hk
                | 3, hk => exact hk
                | 4, hk => exact hk
                | 5, hk => exact hk
                | 6, hk => exact hk
                | 7, hk => cases hk
                | 8, hk => cases hk
                | 9, hk => cases hk
                | k + 10, hk => cases hk
              refine c_110 0 ?_
              · omega
            · refine hK 110 [some (vR 111 0), some (vI p), some (vI x), some (vI (T 230 0 x)), some (vI de), some (vI ye), some (vI m), some (vI v), none, none] [vI 1, vI de] T ?_
              refine j_drop [some (vR 111 0), some (vI p), some (vI x), some (vI (T 230 0 x)), some (vI de), some (vI ye), some (vI m), none, none, none] (fun k v hk => ?_) rfl ?_
              · match k, hk with
                | 0, hk => exact hk
                | 1, hk => exact hk
                | 2, hk => exact hk
                | 3, hk => exact hk
                | 4, hk => exact hk
                | 5, hk => exact hk
                | 6, hk => exact hk
                | 7, hk => cases hk
                | 8, hk => cases hk
                | 9, hk => cases hk
                | k + 10, hk => cases hk
              refine c_110 1 ?_
              · omega
          · refine ix_i (by omega) ?_
            intro b30 b30b
            refine And.intro (fun c31 => ?_) (fun c31 => ?_)
            · refine hK 248 _ [] T ?_
              refine j_drop [some (vR 111 0), some (vI p), some (vI x), some (vI (T 230 0 x)), some (vI de), some (vI ye), some (vI m), none, none, none] (fun k v hk => ?_) rfl ?_
              · match k, hk with
                | 0, hk => exact hk
                | 1, hk => exact hk
                | 2, hk => exact hk
                | 3, hk => exact hk
                | 4, hk => exact hk
                | 5, hk => exact hk
                | 6, hk => exact hk
                | 7, hk => cases hk
                | 8, hk => cases hk
                | 9, hk => cases hk
                | k + 10, hk => cases hk
              refine c_248 de ye ?_
              · omega
            · refine And.intro (fun c32 => ?_) (fun c32 => ?_)
              · refine hK 109 [some (vR 111 0), some (vI p), some (vI x), some (vI (T 230 0 x)), some (vI de), some (vI ye), some (vI m), some (vI v), none, none] [vI de] T ?_
                refine j_blx (F := fX11) tb_X11 (nn_ _) bk_X11_isBanned_109 bs_X11_isBanned_109 hz (fun K hK => ?_)
                refine hK 110 _ [vI 0, vI de] T ?_
                refine j_drop [some (vR 111 0), some (vI p), some (vI x), some (vI (T 230 0 x)), some (vI de), some (vI ye), some (vI m), none, none, none] (fun k v hk => ?_) rfl ?_
                · match k, hk with
                  | 0, hk => exact hk
                  | 1, hk => exact hk
                  | 2, hk => exact hk
                  | 3, hk => exact hk
                  | 4, hk => exact hk
                  | 5, hk => exact hk
                  | 6, hk => exact hk
                  | 7, hk => cases hk
                  | 8, hk => cases hk
                  | 9, hk => cases hk
                  | k + 10, hk => cases hk
                refine c_110 0 ?_
                · omega
              · refine hK 110 [some (vR 111 0), some (vI p), some (vI x), some (vI (T 230 0 x)), some (vI de), some (vI ye), some (vI m), some (vI v), none, none] [vI 1, vI de] T ?_
                refine j_drop [some (vR 111 0), some (vI p), some (vI x), some (vI (T 230 0 x)), some (vI de), some (vI ye), some (vI m), none, none, none] (fun k v hk => ?_) rfl ?_
                · match k, hk with
                  | 0, hk => exact hk
                  | 1, hk => exact hk
                  | 2, hk => exact hk
                  | 3, hk => exact hk
                  | 4, hk => exact hk
                  | 5, hk => exact hk
                  | 6, hk => exact hk
                  | 7, hk => cases hk
                  | 8, hk => cases hk
                  | 9, hk => cases hk
                  | k + 10, hk => cases hk
                refine c_110 1 ?_
                · omega
      refine j_blx (F := fX11) tb_X11 (nn_ _) bk_X11_isBanned_22 bs_X11_isBanned_22 hz (fun K hK => ?_)
      refine And.intro (fun c33 => ?_) (fun c33 => ?_)
      · refine hK 261 _ [] T ?_
        refine j_blx (F := fX11) tb_X11 (nn_ _) bk_X11_isBanned_261 bs_X11_isBanned_261 hz (fun K hK => ?_)
        refine And.intro (fun c34 => ?_) (fun c34 => ?_)
        · refine hK 270 _ [] T ?_
          refine j_blx (F := fX11) tb_X11 (nn_ _) bk_X11_isBanned_270 bs_X11_isBanned_270 hz (fun K hK => ?_)
          refine (show po_X11_isBanned T p x T (some (vI 0)) from ?_)
          exact ⟨rfl, _, rfl, by omega⟩
        · refine hK 271 _ [vI 1] T ?_
          refine j_blx (F := fX11) tb_X11 (nn_ _) bk_X11_isBanned_271 bs_X11_isBanned_271 hz (fun K hK => ?_)
          refine (show po_X11_isBanned T p x T (some (vI 1)) from ?_)
          exact ⟨rfl, _, rfl, by omega⟩
      · refine ix_i (by omega) ?_
        intro b35 b35b
        refine And.intro (fun c36 => ?_) (fun c36 => ?_)
        · refine hK 50 _ [] T ?_
          refine j_blx (F := fX11) tb_X11 (nn_ _) bk_X11_isBanned_50 bs_X11_isBanned_50 hz (fun K hK => ?_)
          refine ix_i (by omega) ?_
          intro b37 b37b
          refine hK 59 _ [vI (T 234 0 m), vI p, vR 111 0] T ?_
          refine j_callV (y := yX11_clubOf) (Yc := zX11_clubOf) (rest := []) [vI p, vI (T 234 0 m)] (ct_X11_clubOf (T := T)) cl_X11_375 (qd_c (by decide +kernel)) (nn_ _) rfl (rf_of rfl) (Nat.le_of_ble_eq_true rfl) (Nat.le_of_ble_eq_true rfl) (Nat.le_of_ble_eq_true rfl) rfl ?_
          rintro _ _ ⟨rfl, x38, rfl, hx38⟩
          show J_ zX11_isBanned T (po_X11_isBanned T p x) 0 0 62 _ [vI x38] T
          refine j_blx (F := fX11) tb_X11 (nn_ _) bk_X11_isBanned_62 bs_X11_isBanned_62 hz (fun K hK => ?_)
          refine hK 66 _ [vI x38] T ?_
          refine c_66 x38 ?_
          · omega
        · refine ix_i (by omega) ?_
          intro b39 b39b
          refine And.intro (fun c40 => ?_) (fun c40 => ?_)
          · refine hK 65 _ [] T ?_
            refine j_blx (F := fX11) tb_X11 (nn_ _) bk_X11_isBanned_65 bs_X11_isBanned_65 hz (fun K hK => ?_)
            refine hK 66 _ [vI (-1)] T ?_
            refine c_66 (-1) ?_
            · omega
          · refine ix_i (by omega) ?_
            intro b41 b41b
            refine hK 59 _ [vI (T 234 0 m), vI p, vR 111 0] T ?_
            refine j_callV (y := yX11_clubOf) (Yc := zX11_clubOf) (rest := []) [vI p, vI (T 234 0 m)] (ct_X11_clubOf (T := T)) cl_X11_375 (qd_c (by decide +kernel)) (nn_ _) rfl (rf_of rfl) (Nat.le_of_ble_eq_true rfl) (Nat.le_of_ble_eq_true rfl) (Nat.le_of_ble_eq_true rfl) rfl ?_
            rintro _ _ ⟨rfl, x42, rfl, hx42⟩
            show J_ zX11_isBanned T (po_X11_isBanned T p x) 0 0 62 _ [vI x42] T
            refine j_blx (F := fX11) tb_X11 (nn_ _) bk_X11_isBanned_62 bs_X11_isBanned_62 hz (fun K hK => ?_)
            refine hK 66 _ [vI x42] T ?_
            refine c_66 x42 ?_
            · omega
  refine j_blx (F := fX11) tb_X11 (nn_ _) bk_X11_isBanned_0 bs_X11_isBanned_0 hz (fun K hK => ?_)
  refine ix_i (by omega) ?_
  intro b43 b43b
  refine hK 17 [some (vR 111 0), some (vI p), some (vI x), some (vI (T 230 0 x)), some (vI 0), some (vI 0), none, none, none, none] [vI x, vI (-1), vI (T 230 0 x), vR 111 0] T ?_
  refine j_callV (y := yX11_nextMatch) (Yc := zX11_nextMatch) (rest := []) [vI (T 230 0 x), vI (-1), vI x] (ct_X11_nextMatch (T := T) (by omega) (by omega) (by omega) (by omega)) cl_X11_371 (qd_c (by decide +kernel)) (nn_ _) rfl (rf_of rfl) (Nat.le_of_ble_eq_true rfl) (Nat.le_of_ble_eq_true rfl) (Nat.le_of_ble_eq_true rfl) rfl ?_
  rintro _ _ ⟨rfl, x44, rfl, hx44⟩
  show J_ zX11_isBanned T (po_X11_isBanned T p x) 0 0 20 _ [vI x44] T
  refine j_blx (F := fX11) tb_X11 (nn_ _) bk_X11_isBanned_20 bs_X11_isBanned_20 hz (fun K hK => ?_)
  refine hK 22 [some (vR 111 0), some (vI p), some (vI x), some (vI (T 230 0 x)), some (vI 0), some (vI 0), some (vI x44), none, none, none] [] T ?_
  refine c_22 _ 0 0 x44 (Nat.le_refl _) ?_
  · omega
abbrev cX11_isElsewhere : ByteArray := prog_13_method_43_code
def yX11_isElsewhere : MethodName := ⟨RX11, "isElsewhere", "(II)Z"⟩
def zX11_isElsewhere : Zm := (RX11, cX11_isElsewhere, 5, (some .boolean), { frames := 1, cells := 0, slots := 0, locals := 24 })
theorem bk_X11_isElsewhere_5 : ck_ fX11 (some .boolean) cX11_isElsewhere 5 [.iload 4, .aload 0, .tableswitch 0 11 29 #[], .if_icmp .ge 91, .iload 3, .ifCond .ne 91, .iload 4, .iload 2, .if_icmp .eq 83, .aload 0, .tableswitch 0 11 34 #[], .iload 4, .iaload, .aload 0, .tableswitch 0 11 34 #[], .iload 2, .iaload, .if_icmp .ne 83, .aload 0, .tableswitch 0 11 35 #[], .iload 4, .iaload, .iconst 3, .if_icmp .eq 83, .aload 0, .iconst 2, .iload 4, .imul, .iload 1] 57 = true := qck_r (nn_ _) (by decide +kernel)
theorem bs_X11_isElsewhere_5 {P : Zt → Option Zv → Prop} (K : Int → Zl → List Zv → Zt → Prop) : sx_ K P [.iload 4, .aload 0, .tableswitch 0 11 29 #[], .if_icmp .ge 91, .iload 3, .ifCond .ne 91, .iload 4, .iload 2, .if_icmp .eq 83, .aload 0, .tableswitch 0 11 34 #[], .iload 4, .iaload, .aload 0, .tableswitch 0 11 34 #[], .iload 2, .iaload, .if_icmp .ne 83, .aload 0, .tableswitch 0 11 35 #[], .iload 4, .iaload, .iconst 3, .if_icmp .eq 83, .aload 0, .iconst 2, .iload 4, .imul, .iload 1] 57 = x_iload 4 (x_aload 0 (x_g0 111 29 0 400 (x_if_icmp .ge 91 K (x_iload 3 (x_ifCond .ne 91 K (x_iload 4 (x_iload 2 (x_if_icmp .eq 83 K (x_aload 0 (x_g1 111 234 (x_iload 4 (x_iaload (x_aload 0 (x_g1 111 234 (x_iload 2 (x_iaload (x_if_icmp .ne 83 K (x_aload 0 (x_g1 111 235 (x_iload 4 (x_iaload (x_iconst 3 (x_if_icmp .eq 83 K (x_aload 0 (x_iconst 2 (x_iload 4 (x_imul (x_iload 1 (K 57))))))))))))))))))))))))))))) := ((xe_iload 4).trans (congrArg (x_iload 4) ((xe_aload 0).trans (congrArg (x_aload 0) ((xe_g0 (kk := 111) rfl tl_11_29).trans (congrArg (x_g0 111 29 0 400) ((xe_if_icmp .ge 91).trans (congrArg (x_if_icmp .ge 91 K) ((xe_iload 3).trans (congrArg (x_iload 3) ((xe_ifCond .ne 91).trans (congrArg (x_ifCond .ne 91 K) ((xe_iload 4).trans (congrArg (x_iload 4) ((xe_iload 2).trans (congrArg (x_iload 2) ((xe_if_icmp .eq 83).trans (congrArg (x_if_icmp .eq 83 K) ((xe_aload 0).trans (congrArg (x_aload 0) ((xe_g1 (kk := 111) rfl tl_11_34).trans (congrArg (x_g1 111 234) ((xe_iload 4).trans (congrArg (x_iload 4) ((xe_iaload).trans (congrArg (x_iaload) ((xe_aload 0).trans (congrArg (x_aload 0) ((xe_g1 (kk := 111) rfl tl_11_34).trans (congrArg (x_g1 111 234) ((xe_iload 2).trans (congrArg (x_iload 2) ((xe_iaload).trans (congrArg (x_iaload) ((xe_if_icmp .ne 83).trans (congrArg (x_if_icmp .ne 83 K) ((xe_aload 0).trans (congrArg (x_aload 0) ((xe_g1 (kk := 111) rfl tl_11_35).trans (congrArg (x_g1 111 235) ((xe_iload 4).trans (congrArg (x_iload 4) ((xe_iaload).trans (congrArg (x_iaload) ((xe_iconst 3).trans (congrArg (x_iconst 3) ((xe_if_icmp .eq 83).trans (congrArg (x_if_icmp .eq 83 K) ((xe_aload 0).trans (congrArg (x_aload 0) ((xe_iconst 2).trans (congrArg (x_iconst 2) ((xe_iload 4).trans (congrArg (x_iload 4) ((xe_imul).trans (congrArg (x_imul) ((xe_iload 1).trans (congrArg (x_iload 1) xe_nil))))))))))))))))))))))))))))))))))))))))))))))))))))))))))
theorem bk_X11_isElsewhere_91 : ck_ fX11 (some .boolean) cX11_isElsewhere 91 [.iload 3, .ireturn] 93 = true := qck_r (nn_ _) (by decide +kernel)
theorem bs_X11_isElsewhere_91 {P : Zt → Option Zv → Prop} (K : Int → Zl → List Zv → Zt → Prop) : sx_ K P [.iload 3, .ireturn] 93 = x_iload 3 (x_ireturn P) := ((xe_iload 3).trans (congrArg (x_iload 3) (xe_ireturn)))
theorem bk_X11_isElsewhere_83 : ck_ fX11 (some .boolean) cX11_isElsewhere 83 [.iconst 0, .istore 3, .iinc 4 1, .goto 5] 91 = true := qck_r (nn_ _) (by decide +kernel)
theorem bs_X11_isElsewhere_83 {P : Zt → Option Zv → Prop} (K : Int → Zl → List Zv → Zt → Prop) : sx_ K P [.iconst 0, .istore 3, .iinc 4 1, .goto 5] 91 = x_iconst 0 (x_istore 3 (x_iinc 4 1 (x_goto 5 K))) := ((xe_iconst 0).trans (congrArg (x_iconst 0) ((xe_istore 3).trans (congrArg (x_istore 3) ((xe_iinc 4 1).trans (congrArg (x_iinc 4 1) (xe_goto 5)))))))
theorem bk_X11_isElsewhere_60 : ck_ fX11 (some .boolean) cX11_isElsewhere 60 [.iconst (-1), .if_icmp .ne 79, .aload 0, .iconst 2, .iload 4, .imul, .iconst 1, .iadd, .iload 1] 72 = true := qck_r (nn_ _) (by decide +kernel)
theorem bs_X11_isElsewhere_60 {P : Zt → Option Zv → Prop} (K : Int → Zl → List Zv → Zt → Prop) : sx_ K P [.iconst (-1), .if_icmp .ne 79, .aload 0, .iconst 2, .iload 4, .imul, .iconst 1, .iadd, .iload 1] 72 = x_iconst (-1) (x_if_icmp .ne 79 K (x_aload 0 (x_iconst 2 (x_iload 4 (x_imul (x_iconst 1 (x_iadd (x_iload 1 (K 72))))))))) := ((xe_iconst (-1)).trans (congrArg (x_iconst (-1)) ((xe_if_icmp .ne 79).trans (congrArg (x_if_icmp .ne 79 K) ((xe_aload 0).trans (congrArg (x_aload 0) ((xe_iconst 2).trans (congrArg (x_iconst 2) ((xe_iload 4).trans (congrArg (x_iload 4) ((xe_imul).trans (congrArg (x_imul) ((xe_iconst 1).trans (congrArg (x_iconst 1) ((xe_iadd).trans (congrArg (x_iadd) ((xe_iload 1).trans (congrArg (x_iload 1) xe_nil))))))))))))))))))
theorem bk_X11_isElsewhere_79 : ck_ fX11 (some .boolean) cX11_isElsewhere 79 [.iconst 1, .goto 84] 83 = true := qck_r (nn_ _) (by decide +kernel)
theorem bs_X11_isElsewhere_79 {P : Zt → Option Zv → Prop} (K : Int → Zl → List Zv → Zt → Prop) : sx_ K P [.iconst 1, .goto 84] 83 = x_iconst 1 (x_goto 84 K) := ((xe_iconst 1).trans (congrArg (x_iconst 1) (xe_goto 84)))
theorem bk_X11_isElsewhere_84 : ck_ fX11 (some .boolean) cX11_isElsewhere 84 [.istore 3, .iinc 4 1, .goto 5] 91 = true := qck_r (nn_ _) (by decide +kernel)
theorem bs_X11_isElsewhere_84 {P : Zt → Option Zv → Prop} (K : Int → Zl → List Zv → Zt → Prop) : sx_ K P [.istore 3, .iinc 4 1, .goto 5] 91 = x_istore 3 (x_iinc 4 1 (x_goto 5 K)) := ((xe_istore 3).trans (congrArg (x_istore 3) ((xe_iinc 4 1).trans (congrArg (x_iinc 4 1) (xe_goto 5)))))
theorem bk_X11_isElsewhere_75 : ck_ fX11 (some .boolean) cX11_isElsewhere 75 [.iconst (-1), .if_icmp .eq 83, .iconst 1, .goto 84] 83 = true := qck_r (nn_ _) (by decide +kernel)
theorem bs_X11_isElsewhere_75 {P : Zt → Option Zv → Prop} (K : Int → Zl → List Zv → Zt → Prop) : sx_ K P [.iconst (-1), .if_icmp .eq 83, .iconst 1, .goto 84] 83 = x_iconst (-1) (x_if_icmp .eq 83 K (x_iconst 1 (x_goto 84 K))) := ((xe_iconst (-1)).trans (congrArg (x_iconst (-1)) ((xe_if_icmp .eq 83).trans (congrArg (x_if_icmp .eq 83 K) ((xe_iconst 1).trans (congrArg (x_iconst 1) (xe_goto 84)))))))
theorem bk_X11_isElsewhere_0 : ck_ fX11 (some .boolean) cX11_isElsewhere 0 [.iconst 0, .istore 3, .iconst 0, .istore 4] 5 = true := qck_r (nn_ _) (by decide +kernel)
theorem bs_X11_isElsewhere_0 {P : Zt → Option Zv → Prop} (K : Int → Zl → List Zv → Zt → Prop) : sx_ K P [.iconst 0, .istore 3, .iconst 0, .istore 4] 5 = x_iconst 0 (x_istore 3 (x_iconst 0 (x_istore 4 (K 5)))) := ((xe_iconst 0).trans (congrArg (x_iconst 0) ((xe_istore 3).trans (congrArg (x_istore 3) ((xe_iconst 0).trans (congrArg (x_iconst 0) ((xe_istore 4).trans (congrArg (x_istore 4) xe_nil))))))))
abbrev po_X11_isElsewhere (T : Zt) (p m : Int) : Zt → Option Zv → Prop := fun T' r => T = T' ∧ ∃ x : Int, r = some (vI x) ∧ (0 ≤ x ∧ x ≤ 1)
set_option maxHeartbeats 4000000 in
theorem ct_X11_isElsewhere {T : Zt} {p m : Int} (h1 : 0 ≤ m ∧ m < 400) : Ct_ yX11_isElsewhere zX11_isElsewhere T [vR 111 0, vI p, vI m] (po_X11_isElsewhere T p m) := by
  refine ct_of pn_11 rfl rfl (Nat.le_of_ble_eq_true rfl) (fun hT hav => ?_)
  have hr_p : -2147483648 ≤ p ∧ p ≤ 2147483647 := hav (vI p) (by simp)
  have hr_m : -2147483648 ≤ m ∧ m ≤ 2147483647 := hav (vI m) (by simp)
  have hz : zX11_isElsewhere.2.2.2.1 = some .boolean → ∀ (T' : Zt) (x : Int), po_X11_isElsewhere T p m T' (some (vI x)) → 0 ≤ x ∧ x ≤ 1 := fun _ T' x h => by obtain ⟨-, y, e, hy⟩ := h; cases e; omega
  show J_ zX11_isElsewhere T (po_X11_isElsewhere T p m) 0 0 0 [some (vR 111 0), some (vI p), some (vI m), none, none] [] T
  have c_5 : ∀ (nn : Nat) (is : Int) (k : Int), ((400 - k).toNat) ≤ nn → (0 ≤ k ∧ 0 ≤ is ∧ is ≤ 1) → J_ zX11_isElsewhere T (po_X11_isElsewhere T p m) 0 0 5 [some (vR 111 0), some (vI p), some (vI m), some (vI is), some (vI k)] [] T := by
    intro nn
    induction nn using Nat.strongRecOn with
    | _ nn ih_5 =>
      intro is k hm_5 i1
      refine j_blx (F := fX11) tb_X11 (nn_ _) bk_X11_isElsewhere_5 bs_X11_isElsewhere_5 hz (fun K hK => ?_)
      intro b1 b1b
      refine And.intro (fun c2 => ?_) (fun c2 => ?_)
      · refine hK 91 _ [] T ?_
        refine j_blx (F := fX11) tb_X11 (nn_ _) bk_X11_isElsewhere_91 bs_X11_isElsewhere_91 hz (fun K hK => ?_)
        refine (show po_X11_isElsewhere T p m T (some (vI is)) from ?_)
        exact ⟨rfl, _, rfl, by omega⟩
      · refine And.intro (fun c3 => ?_) (fun c3 => ?_)
        · refine hK 91 _ [] T ?_
          refine j_blx (F := fX11) tb_X11 (nn_ _) bk_X11_isElsewhere_91 bs_X11_isElsewhere_91 hz (fun K hK => ?_)
          refine (show po_X11_isElsewhere T p m T (some (vI is)) from ?_)
          exact ⟨rfl, _, rfl, by omega⟩
        · refine And.intro (fun c4 => ?_) (fun c4 => ?_)
          · refine hK 83 _ [] T ?_
            refine j_blx (F := fX11) tb_X11 (nn_ _) bk_X11_isElsewhere_83 bs_X11_isElsewhere_83 hz (fun K hK => ?_)
            refine rg_i (by omega) ?_
            refine hK 5 [some (vR 111 0), some (vI p), some (vI m), some (vI 0), some (vI (k + 1))] [] T ?_
            refine ih_5 _ ?_ 0 (k + 1) (Nat.le_refl _) ?_
            · omega
            · omega
          · refine ix_i (by omega) ?_
            intro b5 b5b
            refine ix_i (by omega) ?_
            intro b6 b6b
            refine And.intro (fun c7 => ?_) (fun c7 => ?_)
            · refine hK 83 [some (vR 111 0), some (vI p), some (vI m), some (vI is), some (vI k)] [] T ?_
              refine j_blx (F := fX11) tb_X11 (nn_ _) bk_X11_isElsewhere_83 bs_X11_isElsewhere_83 hz (fun K hK => ?_)
              refine rg_i (by omega) ?_
              refine hK 5 [some (vR 111 0), some (vI p), some (vI m), some (vI 0), some (vI (k + 1))] [] T ?_
              refine ih_5 _ ?_ 0 (k + 1) (Nat.le_refl _) ?_
              · omega
              · omega
            · refine ix_i (by omega) ?_
              intro b8 b8b
              refine And.intro (fun c9 => ?_) (fun c9 => ?_)
              · refine hK 83 [some (vR 111 0), some (vI p), some (vI m), some (vI is), some (vI k)] [] T ?_
                refine j_blx (F := fX11) tb_X11 (nn_ _) bk_X11_isElsewhere_83 bs_X11_isElsewhere_83 hz (fun K hK => ?_)
                refine rg_i (by omega) ?_
                refine hK 5 [some (vR 111 0), some (vI p), some (vI m), some (vI 0), some (vI (k + 1))] [] T ?_
                refine ih_5 _ ?_ 0 (k + 1) (Nat.le_refl _) ?_
                · omega
                · omega
              · refine rg_i (by omega) ?_
                refine hK 57 [some (vR 111 0), some (vI p), some (vI m), some (vI is), some (vI k)] [vI p, vI (2 * k), vR 111 0] T ?_
                refine j_callV (y := yX11_slotOf) (Yc := zX11_slotOf) (rest := []) [vI (2 * k), vI p] (ct_X11_slotOf (T := T) (by omega)) cl_X11_378 (qd_c (by decide +kernel)) (nn_ _) rfl (rf_of rfl) (Nat.le_of_ble_eq_true rfl) (Nat.le_of_ble_eq_true rfl) (Nat.le_of_ble_eq_true rfl) rfl ?_
                rintro _ _ ⟨rfl, x10, rfl, hx10⟩
                show J_ zX11_isElsewhere T (po_X11_isElsewhere T p m) 0 0 60 _ [vI x10] T
                refine j_blx (F := fX11) tb_X11 (nn_ _) bk_X11_isElsewhere_60 bs_X11_isElsewhere_60 hz (fun K hK => ?_)
                refine And.intro (fun c11 => ?_) (fun c11 => ?_)
                · refine hK 79 _ [] T ?_
                  refine j_blx (F := fX11) tb_X11 (nn_ _) bk_X11_isElsewhere_79 bs_X11_isElsewhere_79 hz (fun K hK => ?_)
                  refine hK 84 _ [vI 1] T ?_
                  refine j_blx (F := fX11) tb_X11 (nn_ _) bk_X11_isElsewhere_84 bs_X11_isElsewhere_84 hz (fun K hK => ?_)
                  refine rg_i (by omega) ?_
                  refine hK 5 [some (vR 111 0), some (vI p), some (vI m), some (vI 1), some (vI (k + 1))] [] T ?_
                  refine ih_5 _ ?_ 1 (k + 1) (Nat.le_refl _) ?_
                  · omega
                  · omega
                · refine rg_i (by omega) ?_
                  refine rg_i (by omega) ?_
                  refine hK 72 [some (vR 111 0), some (vI p), some (vI m), some (vI is), some (vI k)] [vI p, vI ((2 * k) + 1), vR 111 0] T ?_
                  refine j_callV (y := yX11_slotOf) (Yc := zX11_slotOf) (rest := []) [vI ((2 * k) + 1), vI p] (ct_X11_slotOf (T := T) (by omega)) cl_X11_378 (qd_c (by decide +kernel)) (nn_ _) rfl (rf_of rfl) (Nat.le_of_ble_eq_true rfl) (Nat.le_of_ble_eq_true rfl) (Nat.le_of_ble_eq_true rfl) rfl ?_
                  rintro _ _ ⟨rfl, x12, rfl, hx12⟩
                  show J_ zX11_isElsewhere T (po_X11_isElsewhere T p m) 0 0 75 _ [vI x12] T
                  refine j_blx (F := fX11) tb_X11 (nn_ _) bk_X11_isElsewhere_75 bs_X11_isElsewhere_75 hz (fun K hK => ?_)
                  refine And.intro (fun c13 => ?_) (fun c13 => ?_)
                  · refine hK 83 _ [] T ?_
                    refine j_blx (F := fX11) tb_X11 (nn_ _) bk_X11_isElsewhere_83 bs_X11_isElsewhere_83 hz (fun K hK => ?_)
                    refine rg_i (by omega) ?_
                    refine hK 5 [some (vR 111 0), some (vI p), some (vI m), some (vI 0), some (vI (k + 1))] [] T ?_
                    refine ih_5 _ ?_ 0 (k + 1) (Nat.le_refl _) ?_
                    · omega
                    · omega
                  · refine hK 84 [some (vR 111 0), some (vI p), some (vI m), some (vI is), some (vI k)] [vI 1] T ?_
                    refine j_blx (F := fX11) tb_X11 (nn_ _) bk_X11_isElsewhere_84 bs_X11_isElsewhere_84 hz (fun K hK => ?_)
                    refine rg_i (by omega) ?_
                    refine hK 5 [some (vR 111 0), some (vI p), some (vI m), some (vI 1), some (vI (k + 1))] [] T ?_
                    refine ih_5 _ ?_ 1 (k + 1) (Nat.le_refl _) ?_
                    · omega
                    · omega
  refine j_blx (F := fX11) tb_X11 (nn_ _) bk_X11_isElsewhere_0 bs_X11_isElsewhere_0 hz (fun K hK => ?_)
  refine hK 5 [some (vR 111 0), some (vI p), some (vI m), some (vI 0), some (vI 0)] [] T ?_
  refine c_5 _ 0 0 (Nat.le_refl _) ?_
  · omega
abbrev cX11_whyNot : ByteArray := prog_13_method_44_code
def yX11_whyNot : MethodName := ⟨RX11, "whyNot", "(III)I"⟩
def zX11_whyNot : Zm := (RX11, cX11_whyNot, 4, (some .int), { frames := 3, cells := 0, slots := 0, locals := 77 })
theorem bk_X11_whyNot_30 : ck_ fX11 (some .int) cX11_whyNot 30 [.if_icmp .eq 35, .iconst 1, .ireturn] 35 = true := qck_r (nn_ _) (by decide +kernel)
theorem bs_X11_whyNot_30 {P : Zt → Option Zv → Prop} (K : Int → Zl → List Zv → Zt → Prop) : sx_ K P [.if_icmp .eq 35, .iconst 1, .ireturn] 35 = x_if_icmp .eq 35 K (x_iconst 1 (x_ireturn P)) := ((xe_if_icmp .eq 35).trans (congrArg (x_if_icmp .eq 35 K) ((xe_iconst 1).trans (congrArg (x_iconst 1) (xe_ireturn)))))
theorem bk_X11_whyNot_35 : ck_ fX11 (some .int) cX11_whyNot 35 [.aload 0, .iload 1, .iload 2] 38 = true := qck_r (nn_ _) (by decide +kernel)
theorem bs_X11_whyNot_35 {P : Zt → Option Zv → Prop} (K : Int → Zl → List Zv → Zt → Prop) : sx_ K P [.aload 0, .iload 1, .iload 2] 38 = x_aload 0 (x_iload 1 (x_iload 2 (K 38))) := ((xe_aload 0).trans (congrArg (x_aload 0) ((xe_iload 1).trans (congrArg (x_iload 1) ((xe_iload 2).trans (congrArg (x_iload 2) xe_nil))))))
set_option maxRecDepth 100000 in
theorem cl_X11_381 : cv_ RX11 381 yX11_isBanned zX11_isBanned 11 2 := ⟨gi_V (lw_b8 239 (by decide +kernel) rfl : Cond.methodLink RX11 381 yX11_isBanned ∈ lw_g) (lw_b9 1 (by decide +kernel) rfl : Cond.instanceMethod yX11_isBanned ∈ lw_g) (lw_sel 22 rfl : Cond.selects yX11_isBanned.cls yX11_isBanned yX11_isBanned ∈ lw_g) (lw_b1 10 (by decide +kernel) rfl : Cond.initialized yX11_isBanned.cls ∈ lw_g) (lw_b9 2 rfl rfl : Cond.code yX11_isBanned cX11_isBanned 10 (some .boolean) ∈ lw_g), ⟨by decide, by decide, by decide +kernel⟩, ⟨_, _, rfl⟩⟩
theorem bk_X11_whyNot_41 : ck_ fX11 (some .int) cX11_whyNot 41 [.ifCond .eq 46, .iconst 2, .ireturn] 46 = true := qck_r (nn_ _) (by decide +kernel)
theorem bs_X11_whyNot_41 {P : Zt → Option Zv → Prop} (K : Int → Zl → List Zv → Zt → Prop) : sx_ K P [.ifCond .eq 46, .iconst 2, .ireturn] 46 = x_ifCond .eq 46 K (x_iconst 2 (x_ireturn P)) := ((xe_ifCond .eq 46).trans (congrArg (x_ifCond .eq 46 K) ((xe_iconst 2).trans (congrArg (x_iconst 2) (xe_ireturn)))))
theorem bk_X11_whyNot_46 : ck_ fX11 (some .int) cX11_whyNot 46 [.aload 0, .iconst 2, .iload 2, .imul, .iload 1] 51 = true := qck_r (nn_ _) (by decide +kernel)
theorem bs_X11_whyNot_46 {P : Zt → Option Zv → Prop} (K : Int → Zl → List Zv → Zt → Prop) : sx_ K P [.aload 0, .iconst 2, .iload 2, .imul, .iload 1] 51 = x_aload 0 (x_iconst 2 (x_iload 2 (x_imul (x_iload 1 (K 51))))) := ((xe_aload 0).trans (congrArg (x_aload 0) ((xe_iconst 2).trans (congrArg (x_iconst 2) ((xe_iload 2).trans (congrArg (x_iload 2) ((xe_imul).trans (congrArg (x_imul) ((xe_iload 1).trans (congrArg (x_iload 1) xe_nil))))))))))
theorem bk_X11_whyNot_54 : ck_ fX11 (some .int) cX11_whyNot 54 [.iconst (-1), .if_icmp .ne 72, .aload 0, .iconst 2, .iload 2, .imul, .iconst 1, .iadd, .iload 1] 65 = true := qck_r (nn_ _) (by decide +kernel)
theorem bs_X11_whyNot_54 {P : Zt → Option Zv → Prop} (K : Int → Zl → List Zv → Zt → Prop) : sx_ K P [.iconst (-1), .if_icmp .ne 72, .aload 0, .iconst 2, .iload 2, .imul, .iconst 1, .iadd, .iload 1] 65 = x_iconst (-1) (x_if_icmp .ne 72 K (x_aload 0 (x_iconst 2 (x_iload 2 (x_imul (x_iconst 1 (x_iadd (x_iload 1 (K 65))))))))) := ((xe_iconst (-1)).trans (congrArg (x_iconst (-1)) ((xe_if_icmp .ne 72).trans (congrArg (x_if_icmp .ne 72 K) ((xe_aload 0).trans (congrArg (x_aload 0) ((xe_iconst 2).trans (congrArg (x_iconst 2) ((xe_iload 2).trans (congrArg (x_iload 2) ((xe_imul).trans (congrArg (x_imul) ((xe_iconst 1).trans (congrArg (x_iconst 1) ((xe_iadd).trans (congrArg (x_iadd) ((xe_iload 1).trans (congrArg (x_iload 1) xe_nil))))))))))))))))))
theorem bk_X11_whyNot_72 : ck_ fX11 (some .int) cX11_whyNot 72 [.iconst 3, .ireturn] 74 = true := qck_r (nn_ _) (by decide +kernel)
theorem bs_X11_whyNot_72 {P : Zt → Option Zv → Prop} (K : Int → Zl → List Zv → Zt → Prop) : sx_ K P [.iconst 3, .ireturn] 74 = x_iconst 3 (x_ireturn P) := ((xe_iconst 3).trans (congrArg (x_iconst 3) (xe_ireturn)))
theorem bk_X11_whyNot_68 : ck_ fX11 (some .int) cX11_whyNot 68 [.iconst (-1), .if_icmp .eq 74, .iconst 3, .ireturn] 74 = true := qck_r (nn_ _) (by decide +kernel)
theorem bs_X11_whyNot_68 {P : Zt → Option Zv → Prop} (K : Int → Zl → List Zv → Zt → Prop) : sx_ K P [.iconst (-1), .if_icmp .eq 74, .iconst 3, .ireturn] 74 = x_iconst (-1) (x_if_icmp .eq 74 K (x_iconst 3 (x_ireturn P))) := ((xe_iconst (-1)).trans (congrArg (x_iconst (-1)) ((xe_if_icmp .eq 74).trans (congrArg (x_if_icmp .eq 74 K) ((xe_iconst 3).trans (congrArg (x_iconst 3) (xe_ireturn)))))))
theorem bk_X11_whyNot_74 : ck_ fX11 (some .int) cX11_whyNot 74 [.aload 0, .iload 1, .iload 2] 77 = true := qck_r (nn_ _) (by decide +kernel)
theorem bs_X11_whyNot_74 {P : Zt → Option Zv → Prop} (K : Int → Zl → List Zv → Zt → Prop) : sx_ K P [.aload 0, .iload 1, .iload 2] 77 = x_aload 0 (x_iload 1 (x_iload 2 (K 77))) := ((xe_aload 0).trans (congrArg (x_aload 0) ((xe_iload 1).trans (congrArg (x_iload 1) ((xe_iload 2).trans (congrArg (x_iload 2) xe_nil))))))
set_option maxRecDepth 100000 in
theorem cl_X11_384 : cv_ RX11 384 yX11_isElsewhere zX11_isElsewhere 11 2 := ⟨gi_V (lw_b9 15 (by decide +kernel) rfl : Cond.methodLink RX11 384 yX11_isElsewhere ∈ lw_g) (lw_b9 17 (by decide +kernel) rfl : Cond.instanceMethod yX11_isElsewhere ∈ lw_g) (lw_sel 23 rfl : Cond.selects yX11_isElsewhere.cls yX11_isElsewhere yX11_isElsewhere ∈ lw_g) (lw_b1 10 (by decide +kernel) rfl : Cond.initialized yX11_isElsewhere.cls ∈ lw_g) (lw_b9 18 rfl rfl : Cond.code yX11_isElsewhere cX11_isElsewhere 5 (some .boolean) ∈ lw_g), ⟨by decide, by decide, by decide +kernel⟩, ⟨_, _, rfl⟩⟩
theorem bk_X11_whyNot_80 : ck_ fX11 (some .int) cX11_whyNot 80 [.ifCond .eq 87, .iconst 4, .goto 88] 87 = true := qck_r (nn_ _) (by decide +kernel)
theorem bs_X11_whyNot_80 {P : Zt → Option Zv → Prop} (K : Int → Zl → List Zv → Zt → Prop) : sx_ K P [.ifCond .eq 87, .iconst 4, .goto 88] 87 = x_ifCond .eq 87 K (x_iconst 4 (x_goto 88 K)) := ((xe_ifCond .eq 87).trans (congrArg (x_ifCond .eq 87 K) ((xe_iconst 4).trans (congrArg (x_iconst 4) (xe_goto 88)))))
theorem bk_X11_whyNot_87 : ck_ fX11 (some .int) cX11_whyNot 87 [.iconst 0, .ireturn] 89 = true := qck_r (nn_ _) (by decide +kernel)
theorem bs_X11_whyNot_87 {P : Zt → Option Zv → Prop} (K : Int → Zl → List Zv → Zt → Prop) : sx_ K P [.iconst 0, .ireturn] 89 = x_iconst 0 (x_ireturn P) := ((xe_iconst 0).trans (congrArg (x_iconst 0) (xe_ireturn)))
theorem bk_X11_whyNot_88 : ck_ fX11 (some .int) cX11_whyNot 88 [.ireturn] 89 = true := qck_r (nn_ _) (by decide +kernel)
theorem bs_X11_whyNot_88 {P : Zt → Option Zv → Prop} (K : Int → Zl → List Zv → Zt → Prop) : sx_ K P [.ireturn] 89 = x_ireturn P := (xe_ireturn)
theorem bk_X11_whyNot_0 : ck_ fX11 (some .int) cX11_whyNot 0 [.aload 0, .iload 1, .aload 0, .tableswitch 0 11 34 #[], .iload 2, .iaload] 8 = true := qck_r (nn_ _) (by decide +kernel)
theorem bs_X11_whyNot_0 {P : Zt → Option Zv → Prop} (K : Int → Zl → List Zv → Zt → Prop) : sx_ K P [.aload 0, .iload 1, .aload 0, .tableswitch 0 11 34 #[], .iload 2, .iaload] 8 = x_aload 0 (x_iload 1 (x_aload 0 (x_g1 111 234 (x_iload 2 (x_iaload (K 8)))))) := ((xe_aload 0).trans (congrArg (x_aload 0) ((xe_iload 1).trans (congrArg (x_iload 1) ((xe_aload 0).trans (congrArg (x_aload 0) ((xe_g1 (kk := 111) rfl tl_11_34).trans (congrArg (x_g1 111 234) ((xe_iload 2).trans (congrArg (x_iload 2) ((xe_iaload).trans (congrArg (x_iaload) xe_nil))))))))))))
theorem bk_X11_whyNot_11 : ck_ fX11 (some .int) cX11_whyNot 11 [.iload 3, .ifCond .ne 24, .aload 0, .tableswitch 0 11 32 #[], .iload 2, .iaload, .goto 30] 24 = true := qck_r (nn_ _) (by decide +kernel)
theorem bs_X11_whyNot_11 {P : Zt → Option Zv → Prop} (K : Int → Zl → List Zv → Zt → Prop) : sx_ K P [.iload 3, .ifCond .ne 24, .aload 0, .tableswitch 0 11 32 #[], .iload 2, .iaload, .goto 30] 24 = x_iload 3 (x_ifCond .ne 24 K (x_aload 0 (x_g1 111 232 (x_iload 2 (x_iaload (x_goto 30 K)))))) := ((xe_iload 3).trans (congrArg (x_iload 3) ((xe_ifCond .ne 24).trans (congrArg (x_ifCond .ne 24 K) ((xe_aload 0).trans (congrArg (x_aload 0) ((xe_g1 (kk := 111) rfl tl_11_32).trans (congrArg (x_g1 111 232) ((xe_iload 2).trans (congrArg (x_iload 2) ((xe_iaload).trans (congrArg (x_iaload) (xe_goto 30)))))))))))))
theorem bk_X11_whyNot_24 : ck_ fX11 (some .int) cX11_whyNot 24 [.aload 0, .tableswitch 0 11 33 #[], .iload 2, .iaload] 30 = true := qck_r (nn_ _) (by decide +kernel)
theorem bs_X11_whyNot_24 {P : Zt → Option Zv → Prop} (K : Int → Zl → List Zv → Zt → Prop) : sx_ K P [.aload 0, .tableswitch 0 11 33 #[], .iload 2, .iaload] 30 = x_aload 0 (x_g1 111 233 (x_iload 2 (x_iaload (K 30)))) := ((xe_aload 0).trans (congrArg (x_aload 0) ((xe_g1 (kk := 111) rfl tl_11_33).trans (congrArg (x_g1 111 233) ((xe_iload 2).trans (congrArg (x_iload 2) ((xe_iaload).trans (congrArg (x_iaload) xe_nil))))))))
abbrev po_X11_whyNot (T : Zt) (p m sd : Int) : Zt → Option Zv → Prop := fun T' r => T = T' ∧ ∃ x : Int, r = some (vI x) ∧ (0 ≤ x ∧ x ≤ 4)
set_option maxHeartbeats 4000000 in
theorem ct_X11_whyNot {T : Zt} {p m sd : Int} (h1 : 0 ≤ m ∧ m < T 111 0 29) (hml : ML_ T) (hmc : MC_ T) (hri : RI_ T) : Ct_ yX11_whyNot zX11_whyNot T [vR 111 0, vI p, vI m, vI sd] (po_X11_whyNot T p m sd) := by
  refine ct_of pn_11 rfl rfl (Nat.le_of_ble_eq_true rfl) (fun hT hav => ?_)
  have hr_p : -2147483648 ≤ p ∧ p ≤ 2147483647 := hav (vI p) (by simp)
  have hr_m : -2147483648 ≤ m ∧ m ≤ 2147483647 := hav (vI m) (by simp)
  have hr_sd : -2147483648 ≤ sd ∧ sd ≤ 2147483647 := hav (vI sd) (by simp)
  have hz : zX11_whyNot.2.2.2.1 = some .boolean → ∀ (T' : Zt) (x : Int), po_X11_whyNot T p m sd T' (some (vI x)) → 0 ≤ x ∧ x ≤ 1 := fun h => by cases h
  have hb_29 : 0 ≤ T 111 0 29 ∧ T 111 0 29 ≤ 400 := bd_f hT 111 29 (by decide +kernel : (tf_ 111)[29]? = some (0, 0, 0, 400)) 0
  show J_ zX11_whyNot T (po_X11_whyNot T p m sd) 0 0 0 [some (vR 111 0), some (vI p), some (vI m), some (vI sd)] [] T
  have c_30 : ∀ (v : Int) (w : Int), J_ zX11_whyNot T (po_X11_whyNot T p m sd) 0 0 30 [some (vR 111 0), some (vI p), some (vI m), some (vI sd)] [vI v, vI w] T := by
    intro v w 
    refine j_blx (F := fX11) tb_X11 (nn_ _) bk_X11_whyNot_30 bs_X11_whyNot_30 hz (fun K hK => ?_)
    refine And.intro (fun c1 => ?_) (fun c1 => ?_)
    · refine hK 35 _ [] T ?_
      refine j_blx (F := fX11) tb_X11 (nn_ _) bk_X11_whyNot_35 bs_X11_whyNot_35 hz (fun K hK => ?_)
      refine hK 38 _ [vI m, vI p, vR 111 0] T ?_
      refine j_callV (y := yX11_isBanned) (Yc := zX11_isBanned) (rest := []) [vI p, vI m] (ct_X11_isBanned (T := T) (by omega) (by exact hml) (by exact hmc) (by exact hri)) cl_X11_381 (qd_c (by decide +kernel)) (nn_ _) rfl (rf_of rfl) (Nat.le_of_ble_eq_true rfl) (Nat.le_of_ble_eq_true rfl) (Nat.le_of_ble_eq_true rfl) rfl ?_
      rintro _ _ ⟨rfl, x2, rfl, hx2⟩
      show J_ zX11_whyNot T (po_X11_whyNot T p m sd) 0 0 41 _ [vI x2] T
      refine j_blx (F := fX11) tb_X11 (nn_ _) bk_X11_whyNot_41 bs_X11_whyNot_41 hz (fun K hK => ?_)
      refine And.intro (fun c3 => ?_) (fun c3 => ?_)
      · refine hK 46 _ [] T ?_
        refine j_blx (F := fX11) tb_X11 (nn_ _) bk_X11_whyNot_46 bs_X11_whyNot_46 hz (fun K hK => ?_)
        refine rg_i (by omega) ?_
        refine hK 51 _ [vI p, vI (2 * m), vR 111 0] T ?_
        refine j_callV (y := yX11_slotOf) (Yc := zX11_slotOf) (rest := []) [vI (2 * m), vI p] (ct_X11_slotOf (T := T) (by omega)) cl_X11_378 (qd_c (by decide +kernel)) (nn_ _) rfl (rf_of rfl) (Nat.le_of_ble_eq_true rfl) (Nat.le_of_ble_eq_true rfl) (Nat.le_of_ble_eq_true rfl) rfl ?_
        rintro _ _ ⟨rfl, x4, rfl, hx4⟩
        show J_ zX11_whyNot T (po_X11_whyNot T p m sd) 0 0 54 _ [vI x4] T
        refine j_blx (F := fX11) tb_X11 (nn_ _) bk_X11_whyNot_54 bs_X11_whyNot_54 hz (fun K hK => ?_)
        refine And.intro (fun c5 => ?_) (fun c5 => ?_)
        · refine hK 72 _ [] T ?_
          refine j_blx (F := fX11) tb_X11 (nn_ _) bk_X11_whyNot_72 bs_X11_whyNot_72 hz (fun K hK => ?_)
          refine (show po_X11_whyNot T p m sd T (some (vI 3)) from ?_)
          exact ⟨rfl, _, rfl, by omega⟩
        · refine rg_i (by omega) ?_
          refine rg_i (by omega) ?_
          refine hK 65 _ [vI p, vI ((2 * m) + 1), vR 111 0] T ?_
          refine j_callV (y := yX11_slotOf) (Yc := zX11_slotOf) (rest := []) [vI ((2 * m) + 1), vI p] (ct_X11_slotOf (T := T) (by omega)) cl_X11_378 (qd_c (by decide +kernel)) (nn_ _) rfl (rf_of rfl) (Nat.le_of_ble_eq_true rfl) (Nat.le_of_ble_eq_true rfl) (Nat.le_of_ble_eq_true rfl) rfl ?_
          rintro _ _ ⟨rfl, x6, rfl, hx6⟩
          show J_ zX11_whyNot T (po_X11_whyNot T p m sd) 0 0 68 _ [vI x6] T
          refine j_blx (F := fX11) tb_X11 (nn_ _) bk_X11_whyNot_68 bs_X11_whyNot_68 hz (fun K hK => ?_)
          refine And.intro (fun c7 => ?_) (fun c7 => ?_)
          · refine hK 74 _ [] T ?_
            refine j_blx (F := fX11) tb_X11 (nn_ _) bk_X11_whyNot_74 bs_X11_whyNot_74 hz (fun K hK => ?_)
            refine hK 77 _ [vI m, vI p, vR 111 0] T ?_
            refine j_callV (y := yX11_isElsewhere) (Yc := zX11_isElsewhere) (rest := []) [vI p, vI m] (ct_X11_isElsewhere (T := T) (by omega)) cl_X11_384 (qd_c (by decide +kernel)) (nn_ _) rfl (rf_of rfl) (Nat.le_of_ble_eq_true rfl) (Nat.le_of_ble_eq_true rfl) (Nat.le_of_ble_eq_true rfl) rfl ?_
            rintro _ _ ⟨rfl, x8, rfl, hx8⟩
            show J_ zX11_whyNot T (po_X11_whyNot T p m sd) 0 0 80 _ [vI x8] T
            refine j_blx (F := fX11) tb_X11 (nn_ _) bk_X11_whyNot_80 bs_X11_whyNot_80 hz (fun K hK => ?_)
            refine And.intro (fun c9 => ?_) (fun c9 => ?_)
            · refine hK 87 _ [] T ?_
              refine j_blx (F := fX11) tb_X11 (nn_ _) bk_X11_whyNot_87 bs_X11_whyNot_87 hz (fun K hK => ?_)
              refine (show po_X11_whyNot T p m sd T (some (vI 0)) from ?_)
              exact ⟨rfl, _, rfl, by omega⟩
            · refine hK 88 _ [vI 4] T ?_
              refine j_blx (F := fX11) tb_X11 (nn_ _) bk_X11_whyNot_88 bs_X11_whyNot_88 hz (fun K hK => ?_)
              refine (show po_X11_whyNot T p m sd T (some (vI 4)) from ?_)
              exact ⟨rfl, _, rfl, by omega⟩
          · refine (show po_X11_whyNot T p m sd T (some (vI 3)) from ?_)
            exact ⟨rfl, _, rfl, by omega⟩
      · refine (show po_X11_whyNot T p m sd T (some (vI 2)) from ?_)
        exact ⟨rfl, _, rfl, by omega⟩
    · refine (show po_X11_whyNot T p m sd T (some (vI 1)) from ?_)
      exact ⟨rfl, _, rfl, by omega⟩
  refine j_blx (F := fX11) tb_X11 (nn_ _) bk_X11_whyNot_0 bs_X11_whyNot_0 hz (fun K hK => ?_)
  refine ix_i (by omega) ?_
  intro b10 b10b
  refine hK 8 _ [vI (T 234 0 m), vI p, vR 111 0] T ?_
  refine j_callV (y := yX11_clubOf) (Yc := zX11_clubOf) (rest := []) [vI p, vI (T 234 0 m)] (ct_X11_clubOf (T := T)) cl_X11_375 (qd_c (by decide +kernel)) (nn_ _) rfl (rf_of rfl) (Nat.le_of_ble_eq_true rfl) (Nat.le_of_ble_eq_true rfl) (Nat.le_of_ble_eq_true rfl) rfl ?_
  rintro _ _ ⟨rfl, x11, rfl, hx11⟩
  show J_ zX11_whyNot T (po_X11_whyNot T p m sd) 0 0 11 _ [vI x11] T
  refine j_blx (F := fX11) tb_X11 (nn_ _) bk_X11_whyNot_11 bs_X11_whyNot_11 hz (fun K hK => ?_)
  refine And.intro (fun c12 => ?_) (fun c12 => ?_)
  · refine hK 24 _ [vI x11] T ?_
    refine j_blx (F := fX11) tb_X11 (nn_ _) bk_X11_whyNot_24 bs_X11_whyNot_24 hz (fun K hK => ?_)
    refine ix_i (by omega) ?_
    intro b13 b13b
    refine hK 30 _ [vI (T 233 0 m), vI x11] T ?_
    exact c_30 (T 233 0 m) x11
  · refine ix_i (by omega) ?_
    intro b14 b14b
    refine hK 30 _ [vI (T 232 0 m), vI x11] T ?_
    exact c_30 (T 232 0 m) x11
abbrev cX11_eligible : ByteArray := prog_13_method_45_code
def yX11_eligible : MethodName := ⟨RX11, "eligible", "(III)I"⟩
def zX11_eligible : Zm := (RX11, cX11_eligible, 4, (some .int), { frames := 4, cells := 0, slots := 0, locals := 100 })
theorem bk_X11_eligible_0 : ck_ fX11 (some .int) cX11_eligible 0 [.iload 1, .aload 0, .tableswitch 0 11 15 #[]] 5 = true := qck_r (nn_ _) (by decide +kernel)
theorem bs_X11_eligible_0 {P : Zt → Option Zv → Prop} (K : Int → Zl → List Zv → Zt → Prop) : sx_ K P [.iload 1, .aload 0, .tableswitch 0 11 15 #[]] 5 = x_iload 1 (x_aload 0 (x_g0 111 15 0 200 (K 5))) := ((xe_iload 1).trans (congrArg (x_iload 1) ((xe_aload 0).trans (congrArg (x_aload 0) ((xe_g0 (kk := 111) rfl tl_11_15).trans (congrArg (x_g0 111 15 0 200) xe_nil))))))
theorem bk_X11_eligible_8 : ck_ fX11 (some .int) cX11_eligible 8 [.ifCond .eq 22, .iload 2, .aload 0, .tableswitch 0 11 29 #[]] 16 = true := qck_r (nn_ _) (by decide +kernel)
theorem bs_X11_eligible_8 {P : Zt → Option Zv → Prop} (K : Int → Zl → List Zv → Zt → Prop) : sx_ K P [.ifCond .eq 22, .iload 2, .aload 0, .tableswitch 0 11 29 #[]] 16 = x_ifCond .eq 22 K (x_iload 2 (x_aload 0 (x_g0 111 29 0 400 (K 16)))) := ((xe_ifCond .eq 22).trans (congrArg (x_ifCond .eq 22 K) ((xe_iload 2).trans (congrArg (x_iload 2) ((xe_aload 0).trans (congrArg (x_aload 0) ((xe_g0 (kk := 111) rfl tl_11_29).trans (congrArg (x_g0 111 29 0 400) xe_nil))))))))
theorem bk_X11_eligible_22 : ck_ fX11 (some .int) cX11_eligible 22 [.iconst (-2), .ireturn] 25 = true := qck_r (nn_ _) (by decide +kernel)
theorem bs_X11_eligible_22 {P : Zt → Option Zv → Prop} (K : Int → Zl → List Zv → Zt → Prop) : sx_ K P [.iconst (-2), .ireturn] 25 = x_iconst (-2) (x_ireturn P) := ((xe_iconst (-2)).trans (congrArg (x_iconst (-2)) (xe_ireturn)))
theorem bk_X11_eligible_19 : ck_ fX11 (some .int) cX11_eligible 19 [.ifCond .ne 25, .iconst (-2), .ireturn] 25 = true := qck_r (nn_ _) (by decide +kernel)
theorem bs_X11_eligible_19 {P : Zt → Option Zv → Prop} (K : Int → Zl → List Zv → Zt → Prop) : sx_ K P [.ifCond .ne 25, .iconst (-2), .ireturn] 25 = x_ifCond .ne 25 K (x_iconst (-2) (x_ireturn P)) := ((xe_ifCond .ne 25).trans (congrArg (x_ifCond .ne 25 K) ((xe_iconst (-2)).trans (congrArg (x_iconst (-2)) (xe_ireturn)))))
theorem bk_X11_eligible_25 : ck_ fX11 (some .int) cX11_eligible 25 [.iload 3, .iconst 0, .iconst 1] 28 = true := qck_r (nn_ _) (by decide +kernel)
theorem bs_X11_eligible_25 {P : Zt → Option Zv → Prop} (K : Int → Zl → List Zv → Zt → Prop) : sx_ K P [.iload 3, .iconst 0, .iconst 1] 28 = x_iload 3 (x_iconst 0 (x_iconst 1 (K 28))) := ((xe_iload 3).trans (congrArg (x_iload 3) ((xe_iconst 0).trans (congrArg (x_iconst 0) ((xe_iconst 1).trans (congrArg (x_iconst 1) xe_nil))))))
theorem bk_X11_eligible_31 : ck_ fX11 (some .int) cX11_eligible 31 [.ifCond .eq 44, .aload 0, .iload 1, .iload 2, .iload 3] 38 = true := qck_r (nn_ _) (by decide +kernel)
theorem bs_X11_eligible_31 {P : Zt → Option Zv → Prop} (K : Int → Zl → List Zv → Zt → Prop) : sx_ K P [.ifCond .eq 44, .aload 0, .iload 1, .iload 2, .iload 3] 38 = x_ifCond .eq 44 K (x_aload 0 (x_iload 1 (x_iload 2 (x_iload 3 (K 38))))) := ((xe_ifCond .eq 44).trans (congrArg (x_ifCond .eq 44 K) ((xe_aload 0).trans (congrArg (x_aload 0) ((xe_iload 1).trans (congrArg (x_iload 1) ((xe_iload 2).trans (congrArg (x_iload 2) ((xe_iload 3).trans (congrArg (x_iload 3) xe_nil))))))))))
theorem bk_X11_eligible_44 : ck_ fX11 (some .int) cX11_eligible 44 [.iconst (-3), .ireturn] 47 = true := qck_r (nn_ _) (by decide +kernel)
theorem bs_X11_eligible_44 {P : Zt → Option Zv → Prop} (K : Int → Zl → List Zv → Zt → Prop) : sx_ K P [.iconst (-3), .ireturn] 47 = x_iconst (-3) (x_ireturn P) := ((xe_iconst (-3)).trans (congrArg (x_iconst (-3)) (xe_ireturn)))
set_option maxRecDepth 100000 in
theorem cl_X11_387 : cv_ RX11 387 yX11_whyNot zX11_whyNot 11 3 := ⟨gi_V (lw_b8 231 (by decide +kernel) rfl : Cond.methodLink RX11 387 yX11_whyNot ∈ lw_g) (lw_b8 233 (by decide +kernel) rfl : Cond.instanceMethod yX11_whyNot ∈ lw_g) (lw_sel 80 rfl : Cond.selects yX11_whyNot.cls yX11_whyNot yX11_whyNot ∈ lw_g) (lw_b1 10 (by decide +kernel) rfl : Cond.initialized yX11_whyNot.cls ∈ lw_g) (lw_b8 234 rfl rfl : Cond.code yX11_whyNot cX11_whyNot 4 (some .int) ∈ lw_g), ⟨by decide, by decide, by decide +kernel⟩, ⟨_, _, rfl⟩⟩
theorem bk_X11_eligible_41 : ck_ fX11 (some .int) cX11_eligible 41 [.goto 46] 44 = true := qck_r (nn_ _) (by decide +kernel)
theorem bs_X11_eligible_41 {P : Zt → Option Zv → Prop} (K : Int → Zl → List Zv → Zt → Prop) : sx_ K P [.goto 46] 44 = x_goto 46 K := (xe_goto 46)
theorem bk_X11_eligible_46 : ck_ fX11 (some .int) cX11_eligible 46 [.ireturn] 47 = true := qck_r (nn_ _) (by decide +kernel)
theorem bs_X11_eligible_46 {P : Zt → Option Zv → Prop} (K : Int → Zl → List Zv → Zt → Prop) : sx_ K P [.ireturn] 47 = x_ireturn P := (xe_ireturn)
abbrev po_X11_eligible (T : Zt) (p m sd : Int) : Zt → Option Zv → Prop := fun T' r => T = T' ∧ ∃ x : Int, r = some (vI x) ∧ (True)
set_option maxHeartbeats 4000000 in
theorem ct_X11_eligible {T : Zt} {p m sd : Int} (hml : ML_ T) (hmc : MC_ T) (hri : RI_ T) : Ct_ yX11_eligible zX11_eligible T [vR 111 0, vI p, vI m, vI sd] (po_X11_eligible T p m sd) := by
  refine ct_of pn_11 rfl rfl (Nat.le_of_ble_eq_true rfl) (fun hT hav => ?_)
  have hr_p : -2147483648 ≤ p ∧ p ≤ 2147483647 := hav (vI p) (by simp)
  have hr_m : -2147483648 ≤ m ∧ m ≤ 2147483647 := hav (vI m) (by simp)
  have hr_sd : -2147483648 ≤ sd ∧ sd ≤ 2147483647 := hav (vI sd) (by simp)
  have hz : zX11_eligible.2.2.2.1 = some .boolean → ∀ (T' : Zt) (x : Int), po_X11_eligible T p m sd T' (some (vI x)) → 0 ≤ x ∧ x ≤ 1 := fun h => by cases h
  have hb_29 : 0 ≤ T 111 0 29 ∧ T 111 0 29 ≤ 400 := bd_f hT 111 29 (by decide +kernel : (tf_ 111)[29]? = some (0, 0, 0, 400)) 0
  have hb_15 : 0 ≤ T 111 0 15 ∧ T 111 0 15 ≤ 200 := bd_f hT 111 15 (by decide +kernel : (tf_ 111)[15]? = some (0, 0, 0, 200)) 0
  show J_ zX11_eligible T (po_X11_eligible T p m sd) 0 0 0 [some (vR 111 0), some (vI p), some (vI m), some (vI sd)] [] T
  refine j_blx (F := fX11) tb_X11 (nn_ _) bk_X11_eligible_0 bs_X11_eligible_0 hz (fun K hK => ?_)
  intro b1 b1b
  refine hK 5 _ [vI (T 111 0 15), vI p] T ?_
  refine j_callS (y := yX11_isOf) (Yc := zX11_isOf) (rest := []) [vI p, vI (T 111 0 15)] (ct_X11_isOf (T := T) (by omega)) cl_X11_317 (qd_c (by decide +kernel)) (nn_ _) rfl (rf_of rfl) (Nat.le_of_ble_eq_true rfl) (Nat.le_of_ble_eq_true rfl) (Nat.le_of_ble_eq_true rfl) rfl ?_
  rintro _ _ ⟨rfl, x2, rfl, hx2⟩
  show J_ zX11_eligible T (po_X11_eligible T p m sd) 0 0 8 _ [vI x2] T
  refine j_blx (F := fX11) tb_X11 (nn_ _) bk_X11_eligible_8 bs_X11_eligible_8 hz (fun K hK => ?_)
  refine And.intro (fun c3 => ?_) (fun c3 => ?_)
  · refine hK 22 _ [] T ?_
    refine j_blx (F := fX11) tb_X11 (nn_ _) bk_X11_eligible_22 bs_X11_eligible_22 hz (fun K hK => ?_)
    refine (show po_X11_eligible T p m sd T (some (vI (-2))) from ?_)
    exact ⟨rfl, _, rfl, by trivial⟩
  · intro b4 b4b
    refine hK 16 _ [vI (T 111 0 29), vI m] T ?_
    refine j_callS (y := yX11_isOf) (Yc := zX11_isOf) (rest := []) [vI m, vI (T 111 0 29)] (ct_X11_isOf (T := T) (by omega)) cl_X11_317 (qd_c (by decide +kernel)) (nn_ _) rfl (rf_of rfl) (Nat.le_of_ble_eq_true rfl) (Nat.le_of_ble_eq_true rfl) (Nat.le_of_ble_eq_true rfl) rfl ?_
    rintro _ _ ⟨rfl, x5, rfl, hx5⟩
    show J_ zX11_eligible T (po_X11_eligible T p m sd) 0 0 19 _ [vI x5] T
    refine j_blx (F := fX11) tb_X11 (nn_ _) bk_X11_eligible_19 bs_X11_eligible_19 hz (fun K hK => ?_)
    refine And.intro (fun c6 => ?_) (fun c6 => ?_)
    · refine hK 25 _ [] T ?_
      refine j_blx (F := fX11) tb_X11 (nn_ _) bk_X11_eligible_25 bs_X11_eligible_25 hz (fun K hK => ?_)
      refine hK 28 _ [vI 1, vI 0, vI sd] T ?_
      refine j_callS (y := yX11_in) (Yc := zX11_in) (rest := []) [vI sd, vI 0, vI 1] (ct_X11_in (T := T)) cl_X11_255 (qd_c (by decide +kernel)) (nn_ _) rfl (rf_of rfl) (Nat.le_of_ble_eq_true rfl) (Nat.le_of_ble_eq_true rfl) (Nat.le_of_ble_eq_true rfl) rfl ?_
      rintro _ _ ⟨rfl, x7, rfl, hx7⟩
      show J_ zX11_eligible T (po_X11_eligible T p m sd) 0 0 31 _ [vI x7] T
      refine j_blx (F := fX11) tb_X11 (nn_ _) bk_X11_eligible_31 bs_X11_eligible_31 hz (fun K hK => ?_)
      refine And.intro (fun c8 => ?_) (fun c8 => ?_)
      · refine hK 44 _ [] T ?_
        refine j_blx (F := fX11) tb_X11 (nn_ _) bk_X11_eligible_44 bs_X11_eligible_44 hz (fun K hK => ?_)
        refine (show po_X11_eligible T p m sd T (some (vI (-3))) from ?_)
        exact ⟨rfl, _, rfl, by trivial⟩
      · refine hK 38 _ [vI sd, vI m, vI p, vR 111 0] T ?_
        refine j_callV (y := yX11_whyNot) (Yc := zX11_whyNot) (rest := []) [vI p, vI m, vI sd] (ct_X11_whyNot (T := T) (by omega) (by exact hml) (by exact hmc) (by exact hri)) cl_X11_387 (qd_c (by decide +kernel)) (nn_ _) rfl (rf_of rfl) (Nat.le_of_ble_eq_true rfl) (Nat.le_of_ble_eq_true rfl) (Nat.le_of_ble_eq_true rfl) rfl ?_
        rintro _ _ ⟨rfl, x9, rfl, hx9⟩
        show J_ zX11_eligible T (po_X11_eligible T p m sd) 0 0 41 _ [vI x9] T
        refine j_blx (F := fX11) tb_X11 (nn_ _) bk_X11_eligible_41 bs_X11_eligible_41 hz (fun K hK => ?_)
        refine hK 46 _ [vI x9] T ?_
        refine j_blx (F := fX11) tb_X11 (nn_ _) bk_X11_eligible_46 bs_X11_eligible_46 hz (fun K hK => ?_)
        refine (show po_X11_eligible T p m sd T (some (vI x9)) from ?_)
        exact ⟨rfl, _, rfl, by trivial⟩
    · refine (show po_X11_eligible T p m sd T (some (vI (-2))) from ?_)
      exact ⟨rfl, _, rfl, by trivial⟩
def SH_ (T : Zt) : Prop := ∀ m s : Int, 0 ≤ m → m < 400 → 0 ≤ s → s ≤ 1 → (m < T 111 0 29 → T 239 0 (2 * m + s) ≤ T 205 0 (23 * T 230 0 m + 9) + 4) ∧ (T 111 0 29 ≤ m → T 239 0 (2 * m + s) = 0)
theorem SH__f {ws : List (Nat × List Int)} {T T' : Zt} (h : SH_ T) (f : fr_ ws T T') (w : (∀ j, fw_ ws 239 j = false) ∧ (∀ j, fw_ ws 205 j = false) ∧ (∀ j, fw_ ws 230 j = false) ∧ fw_ ws 111 29 = false ∧ True) : SH_ T' := by
  have e0 : ∀ i j, T' 239 i j = T 239 i j := fun i j => f 239 i j (w.1 j)
  have e1 : ∀ i j, T' 205 i j = T 205 i j := fun i j => f 205 i j (w.2.1 j)
  have e2 : ∀ i j, T' 230 i j = T 230 i j := fun i j => f 230 i j (w.2.2.1 j)
  have e3 : ∀ i, T' 111 i 29 = T 111 i 29 := fun i => f 111 i 29 w.2.2.2.1
  simp only [SH_, e0, e1, e2, e3] at h ⊢
  exact h
abbrev cX11_lineUp : ByteArray := prog_13_method_46_code
def yX11_lineUp : MethodName := ⟨RX11, "lineUp", "(III)I"⟩
def zX11_lineUp : Zm := (RX11, cX11_lineUp, 6, (some .int), { frames := 4, cells := 0, slots := 0, locals := 100 })
theorem bk_X11_lineUp_0 : ck_ fX11 (some .int) cX11_lineUp 0 [.iload 1, .aload 0, .tableswitch 0 11 15 #[]] 5 = true := qck_r (nn_ _) (by decide +kernel)
theorem bs_X11_lineUp_0 {P : Zt → Option Zv → Prop} (K : Int → Zl → List Zv → Zt → Prop) : sx_ K P [.iload 1, .aload 0, .tableswitch 0 11 15 #[]] 5 = x_iload 1 (x_aload 0 (x_g0 111 15 0 200 (K 5))) := ((xe_iload 1).trans (congrArg (x_iload 1) ((xe_aload 0).trans (congrArg (x_aload 0) ((xe_g0 (kk := 111) rfl tl_11_15).trans (congrArg (x_g0 111 15 0 200) xe_nil))))))
theorem bk_X11_lineUp_8 : ck_ fX11 (some .int) cX11_lineUp 8 [.ifCond .eq 22, .iload 2, .aload 0, .tableswitch 0 11 29 #[]] 16 = true := qck_r (nn_ _) (by decide +kernel)
theorem bs_X11_lineUp_8 {P : Zt → Option Zv → Prop} (K : Int → Zl → List Zv → Zt → Prop) : sx_ K P [.ifCond .eq 22, .iload 2, .aload 0, .tableswitch 0 11 29 #[]] 16 = x_ifCond .eq 22 K (x_iload 2 (x_aload 0 (x_g0 111 29 0 400 (K 16)))) := ((xe_ifCond .eq 22).trans (congrArg (x_ifCond .eq 22 K) ((xe_iload 2).trans (congrArg (x_iload 2) ((xe_aload 0).trans (congrArg (x_aload 0) ((xe_g0 (kk := 111) rfl tl_11_29).trans (congrArg (x_g0 111 29 0 400) xe_nil))))))))
theorem bk_X11_lineUp_22 : ck_ fX11 (some .int) cX11_lineUp 22 [.iconst (-2), .ireturn] 25 = true := qck_r (nn_ _) (by decide +kernel)
theorem bs_X11_lineUp_22 {P : Zt → Option Zv → Prop} (K : Int → Zl → List Zv → Zt → Prop) : sx_ K P [.iconst (-2), .ireturn] 25 = x_iconst (-2) (x_ireturn P) := ((xe_iconst (-2)).trans (congrArg (x_iconst (-2)) (xe_ireturn)))
theorem bk_X11_lineUp_19 : ck_ fX11 (some .int) cX11_lineUp 19 [.ifCond .ne 25, .iconst (-2), .ireturn] 25 = true := qck_r (nn_ _) (by decide +kernel)
theorem bs_X11_lineUp_19 {P : Zt → Option Zv → Prop} (K : Int → Zl → List Zv → Zt → Prop) : sx_ K P [.ifCond .ne 25, .iconst (-2), .ireturn] 25 = x_ifCond .ne 25 K (x_iconst (-2) (x_ireturn P)) := ((xe_ifCond .ne 25).trans (congrArg (x_ifCond .ne 25 K) ((xe_iconst (-2)).trans (congrArg (x_iconst (-2)) (xe_ireturn)))))
theorem bk_X11_lineUp_25 : ck_ fX11 (some .int) cX11_lineUp 25 [.iload 3, .iconst 0, .iconst 1] 28 = true := qck_r (nn_ _) (by decide +kernel)
theorem bs_X11_lineUp_25 {P : Zt → Option Zv → Prop} (K : Int → Zl → List Zv → Zt → Prop) : sx_ K P [.iload 3, .iconst 0, .iconst 1] 28 = x_iload 3 (x_iconst 0 (x_iconst 1 (K 28))) := ((xe_iload 3).trans (congrArg (x_iload 3) ((xe_iconst 0).trans (congrArg (x_iconst 0) ((xe_iconst 1).trans (congrArg (x_iconst 1) xe_nil))))))
theorem bk_X11_lineUp_31 : ck_ fX11 (some .int) cX11_lineUp 31 [.ifCond .ne 37, .iconst (-3), .ireturn] 37 = true := qck_r (nn_ _) (by decide +kernel)
theorem bs_X11_lineUp_31 {P : Zt → Option Zv → Prop} (K : Int → Zl → List Zv → Zt → Prop) : sx_ K P [.ifCond .ne 37, .iconst (-3), .ireturn] 37 = x_ifCond .ne 37 K (x_iconst (-3) (x_ireturn P)) := ((xe_ifCond .ne 37).trans (congrArg (x_ifCond .ne 37 K) ((xe_iconst (-3)).trans (congrArg (x_iconst (-3)) (xe_ireturn)))))
theorem bk_X11_lineUp_37 : ck_ fX11 (some .int) cX11_lineUp 37 [.aload 0, .tableswitch 0 11 35 #[], .iload 2, .iaload, .ifCond .eq 49, .iconst (-4), .ireturn] 49 = true := qck_r (nn_ _) (by decide +kernel)
theorem bs_X11_lineUp_37 {P : Zt → Option Zv → Prop} (K : Int → Zl → List Zv → Zt → Prop) : sx_ K P [.aload 0, .tableswitch 0 11 35 #[], .iload 2, .iaload, .ifCond .eq 49, .iconst (-4), .ireturn] 49 = x_aload 0 (x_g1 111 235 (x_iload 2 (x_iaload (x_ifCond .eq 49 K (x_iconst (-4) (x_ireturn P)))))) := ((xe_aload 0).trans (congrArg (x_aload 0) ((xe_g1 (kk := 111) rfl tl_11_35).trans (congrArg (x_g1 111 235) ((xe_iload 2).trans (congrArg (x_iload 2) ((xe_iaload).trans (congrArg (x_iaload) ((xe_ifCond .eq 49).trans (congrArg (x_ifCond .eq 49 K) ((xe_iconst (-4)).trans (congrArg (x_iconst (-4)) (xe_ireturn)))))))))))))
theorem bk_X11_lineUp_49 : ck_ fX11 (some .int) cX11_lineUp 49 [.iconst 2, .iload 2, .imul, .iload 3, .iadd, .istore 4, .aload 0, .tableswitch 0 11 39 #[], .iload 4, .iaload, .aload 0, .aload 0, .tableswitch 0 11 30 #[], .iload 2, .iaload, .iconst 9] 72 = true := qck_r (nn_ _) (by decide +kernel)
theorem bs_X11_lineUp_49 {P : Zt → Option Zv → Prop} (K : Int → Zl → List Zv → Zt → Prop) : sx_ K P [.iconst 2, .iload 2, .imul, .iload 3, .iadd, .istore 4, .aload 0, .tableswitch 0 11 39 #[], .iload 4, .iaload, .aload 0, .aload 0, .tableswitch 0 11 30 #[], .iload 2, .iaload, .iconst 9] 72 = x_iconst 2 (x_iload 2 (x_imul (x_iload 3 (x_iadd (x_istore 4 (x_aload 0 (x_g1 111 239 (x_iload 4 (x_iaload (x_aload 0 (x_aload 0 (x_g1 111 230 (x_iload 2 (x_iaload (x_iconst 9 (K 72)))))))))))))))) := ((xe_iconst 2).trans (congrArg (x_iconst 2) ((xe_iload 2).trans (congrArg (x_iload 2) ((xe_imul).trans (congrArg (x_imul) ((xe_iload 3).trans (congrArg (x_iload 3) ((xe_iadd).trans (congrArg (x_iadd) ((xe_istore 4).trans (congrArg (x_istore 4) ((xe_aload 0).trans (congrArg (x_aload 0) ((xe_g1 (kk := 111) rfl tl_11_39).trans (congrArg (x_g1 111 239) ((xe_iload 4).trans (congrArg (x_iload 4) ((xe_iaload).trans (congrArg (x_iaload) ((xe_aload 0).trans (congrArg (x_aload 0) ((xe_aload 0).trans (congrArg (x_aload 0) ((xe_g1 (kk := 111) rfl tl_11_30).trans (congrArg (x_g1 111 230) ((xe_iload 2).trans (congrArg (x_iload 2) ((xe_iaload).trans (congrArg (x_iaload) ((xe_iconst 9).trans (congrArg (x_iconst 9) xe_nil))))))))))))))))))))))))))))))))
theorem bk_X11_lineUp_75 : ck_ fX11 (some .int) cX11_lineUp 75 [.iconst 4, .iadd, .if_icmp .ne 83, .iconst (-5), .ireturn] 83 = true := qck_r (nn_ _) (by decide +kernel)
theorem bs_X11_lineUp_75 {P : Zt → Option Zv → Prop} (K : Int → Zl → List Zv → Zt → Prop) : sx_ K P [.iconst 4, .iadd, .if_icmp .ne 83, .iconst (-5), .ireturn] 83 = x_iconst 4 (x_iadd (x_if_icmp .ne 83 K (x_iconst (-5) (x_ireturn P)))) := ((xe_iconst 4).trans (congrArg (x_iconst 4) ((xe_iadd).trans (congrArg (x_iadd) ((xe_if_icmp .ne 83).trans (congrArg (x_if_icmp .ne 83 K) ((xe_iconst (-5)).trans (congrArg (x_iconst (-5)) (xe_ireturn)))))))))
theorem bk_X11_lineUp_83 : ck_ fX11 (some .int) cX11_lineUp 83 [.aload 0, .iload 1, .iload 2, .iload 3] 87 = true := qck_r (nn_ _) (by decide +kernel)
theorem bs_X11_lineUp_83 {P : Zt → Option Zv → Prop} (K : Int → Zl → List Zv → Zt → Prop) : sx_ K P [.aload 0, .iload 1, .iload 2, .iload 3] 87 = x_aload 0 (x_iload 1 (x_iload 2 (x_iload 3 (K 87)))) := ((xe_aload 0).trans (congrArg (x_aload 0) ((xe_iload 1).trans (congrArg (x_iload 1) ((xe_iload 2).trans (congrArg (x_iload 2) ((xe_iload 3).trans (congrArg (x_iload 3) xe_nil))))))))
theorem bk_X11_lineUp_90 : ck_ fX11 (some .int) cX11_lineUp 90 [.istore 5, .iload 5, .ifCond .eq 103, .iconst (-10), .iload 5, .isub, .ireturn] 103 = true := qck_r (nn_ _) (by decide +kernel)
theorem bs_X11_lineUp_90 {P : Zt → Option Zv → Prop} (K : Int → Zl → List Zv → Zt → Prop) : sx_ K P [.istore 5, .iload 5, .ifCond .eq 103, .iconst (-10), .iload 5, .isub, .ireturn] 103 = x_istore 5 (x_iload 5 (x_ifCond .eq 103 K (x_iconst (-10) (x_iload 5 (x_isub (x_ireturn P)))))) := ((xe_istore 5).trans (congrArg (x_istore 5) ((xe_iload 5).trans (congrArg (x_iload 5) ((xe_ifCond .eq 103).trans (congrArg (x_ifCond .eq 103 K) ((xe_iconst (-10)).trans (congrArg (x_iconst (-10)) ((xe_iload 5).trans (congrArg (x_iload 5) ((xe_isub).trans (congrArg (x_isub) (xe_ireturn)))))))))))))
theorem bk_X11_lineUp_103 : ck_ fX11 (some .int) cX11_lineUp 103 [.aload 0, .tableswitch 0 11 40 #[], .iconst 10, .iload 4, .imul, .aload 0, .tableswitch 0 11 39 #[], .iload 4, .iaload, .iadd, .iload 1, .iastore, .aload 0, .tableswitch 0 11 39 #[], .iload 4, .dup2, .iaload, .iconst 1, .iadd, .iastore, .aload 0, .tableswitch 0 11 39 #[], .iload 4, .iaload, .ireturn] 141 = true := qck_r (nn_ _) (by decide +kernel)
theorem bs_X11_lineUp_103 {P : Zt → Option Zv → Prop} (K : Int → Zl → List Zv → Zt → Prop) : sx_ K P [.aload 0, .tableswitch 0 11 40 #[], .iconst 10, .iload 4, .imul, .aload 0, .tableswitch 0 11 39 #[], .iload 4, .iaload, .iadd, .iload 1, .iastore, .aload 0, .tableswitch 0 11 39 #[], .iload 4, .dup2, .iaload, .iconst 1, .iadd, .iastore, .aload 0, .tableswitch 0 11 39 #[], .iload 4, .iaload, .ireturn] 141 = x_aload 0 (x_g1 111 240 (x_iconst 10 (x_iload 4 (x_imul (x_aload 0 (x_g1 111 239 (x_iload 4 (x_iaload (x_iadd (x_iload 1 (x_iastore (x_aload 0 (x_g1 111 239 (x_iload 4 (x_dup2 (x_iaload (x_iconst 1 (x_iadd (x_iastore (x_aload 0 (x_g1 111 239 (x_iload 4 (x_iaload (x_ireturn P)))))))))))))))))))))))) := ((xe_aload 0).trans (congrArg (x_aload 0) ((xe_g1 (kk := 111) rfl tl_11_40).trans (congrArg (x_g1 111 240) ((xe_iconst 10).trans (congrArg (x_iconst 10) ((xe_iload 4).trans (congrArg (x_iload 4) ((xe_imul).trans (congrArg (x_imul) ((xe_aload 0).trans (congrArg (x_aload 0) ((xe_g1 (kk := 111) rfl tl_11_39).trans (congrArg (x_g1 111 239) ((xe_iload 4).trans (congrArg (x_iload 4) ((xe_iaload).trans (congrArg (x_iaload) ((xe_iadd).trans (congrArg (x_iadd) ((xe_iload 1).trans (congrArg (x_iload 1) ((xe_iastore).trans (congrArg (x_iastore) ((xe_aload 0).trans (congrArg (x_aload 0) ((xe_g1 (kk := 111) rfl tl_11_39).trans (congrArg (x_g1 111 239) ((xe_iload 4).trans (congrArg (x_iload 4) ((xe_dup2).trans (congrArg (x_dup2) ((xe_iaload).trans (congrArg (x_iaload) ((xe_iconst 1).trans (congrArg (x_iconst 1) ((xe_iadd).trans (congrArg (x_iadd) ((xe_iastore).trans (congrArg (x_iastore) ((xe_aload 0).trans (congrArg (x_aload 0) ((xe_g1 (kk := 111) rfl tl_11_39).trans (congrArg (x_g1 111 239) ((xe_iload 4).trans (congrArg (x_iload 4) ((xe_iaload).trans (congrArg (x_iaload) (xe_ireturn)))))))))))))))))))))))))))))))))))))))))))))))))
