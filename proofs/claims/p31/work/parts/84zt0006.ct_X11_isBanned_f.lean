/-- between one match and the next there is none -/
theorem bn_0 {day : Int → Int} {f n lo hi x B m : Int} (h : NXM_ day f n lo hi x) (f0 : 0 ≤ f) (a : x ≠ -1 → B = day x * 400 + x) (b : x = -1 → B = hi) (m0 : f ≤ m) (m1 : m < f + n) (h0 : lo < day m * 400 + m) (h1 : day m * 400 + m < B) : False := by
  rcases h with ⟨z, h⟩ | ⟨z, h⟩
  · have y := b z
    exact h m m0 m1 h0 (by omega)
  · have w : x ≠ -1 := fun u => by have := z.1; omega
    have y := a w
    have y2 := z.2.2.2
    have q := h m m0 m1 h0 (by omega)
    omega
theorem bk_X11_isBanned_f_248 : ck_ fX11 (some .boolean) cX11_isBanned 248 [.aload 0, .iload 3, .iload 6, .iload 2] 253 = true := qck_r (nn_ _) (by decide +kernel)
theorem bs_X11_isBanned_f_248 {P : Zt → Option Zv → Prop} (K : Int → Zl → List Zv → Zt → Prop) : sx_ K P [.aload 0, .iload 3, .iload 6, .iload 2] 253 = x_aload 0 (x_iload 3 (x_iload 6 (x_iload 2 (K 253)))) := ((xe_aload 0).trans (congrArg (x_aload 0) ((xe_iload 3).trans (congrArg (x_iload 3) ((xe_iload 6).trans (congrArg (x_iload 6) ((xe_iload 2).trans (congrArg (x_iload 2) xe_nil))))))))
theorem bk_X11_isBanned_f_256 : ck_ fX11 (some .boolean) cX11_isBanned 256 [.istore 6, .goto 22] 261 = true := qck_r (nn_ _) (by decide +kernel)
theorem bs_X11_isBanned_f_256 {P : Zt → Option Zv → Prop} (K : Int → Zl → List Zv → Zt → Prop) : sx_ K P [.istore 6, .goto 22] 261 = x_istore 6 (x_goto 22 K) := ((xe_istore 6).trans (congrArg (x_istore 6) (xe_goto 22)))
theorem bk_X11_isBanned_f_241 : ck_ fX11 (some .boolean) cX11_isBanned 241 [.fadd, .istore 4, .iload 9, .istore 5] 248 = true := qck_r (nn_ _) (by decide +kernel)
theorem bs_X11_isBanned_f_241 {P : Zt → Option Zv → Prop} (K : Int → Zl → List Zv → Zt → Prop) : sx_ K P [.fadd, .istore 4, .iload 9, .istore 5] 248 = x_fadd (x_istore 4 (x_iload 9 (x_istore 5 (K 248)))) := ((xe_fadd).trans (congrArg (x_fadd) ((xe_istore 4).trans (congrArg (x_istore 4) ((xe_iload 9).trans (congrArg (x_iload 9) ((xe_istore 5).trans (congrArg (x_istore 5) xe_nil))))))))
theorem bk_X11_isBanned_f_160 : ck_ fX11 (some .boolean) cX11_isBanned 160 [.istore 8, .iload 8, .iconst (-1), .if_icmp .eq 193, .aload 0, .tableswitch 0 11 43 #[], .iload 8, .baload, .ifCond .eq 193, .iload 4, .aload 0, .iload 3, .iconst 14] 184 = true := qck_r (nn_ _) (by decide +kernel)
theorem bs_X11_isBanned_f_160 {P : Zt → Option Zv → Prop} (K : Int → Zl → List Zv → Zt → Prop) : sx_ K P [.istore 8, .iload 8, .iconst (-1), .if_icmp .eq 193, .aload 0, .tableswitch 0 11 43 #[], .iload 8, .baload, .ifCond .eq 193, .iload 4, .aload 0, .iload 3, .iconst 14] 184 = x_istore 8 (x_iload 8 (x_iconst (-1) (x_if_icmp .eq 193 K (x_aload 0 (x_g1 111 243 (x_iload 8 (x_baload (x_ifCond .eq 193 K (x_iload 4 (x_aload 0 (x_iload 3 (x_iconst 14 (K 184))))))))))))) := ((xe_istore 8).trans (congrArg (x_istore 8) ((xe_iload 8).trans (congrArg (x_iload 8) ((xe_iconst (-1)).trans (congrArg (x_iconst (-1)) ((xe_if_icmp .eq 193).trans (congrArg (x_if_icmp .eq 193 K) ((xe_aload 0).trans (congrArg (x_aload 0) ((xe_g1 (kk := 111) rfl tl_11_43).trans (congrArg (x_g1 111 243) ((xe_iload 8).trans (congrArg (x_iload 8) ((xe_baload).trans (congrArg (x_baload) ((xe_ifCond .eq 193).trans (congrArg (x_ifCond .eq 193 K) ((xe_iload 4).trans (congrArg (x_iload 4) ((xe_aload 0).trans (congrArg (x_aload 0) ((xe_iload 3).trans (congrArg (x_iload 3) ((xe_iconst 14).trans (congrArg (x_iconst 14) xe_nil))))))))))))))))))))))))))
theorem bk_X11_isBanned_f_193 : ck_ fX11 (some .boolean) cX11_isBanned 193 [.iload 8, .iconst (-1), .if_icmp .eq 248, .iload 5, .aload 0, .tableswitch 0 11 42 #[], .iload 8, .iaload, .fadd, .istore 9, .iload 4, .iload 9, .aload 0, .iload 3, .iconst 13] 219 = true := qck_r (nn_ _) (by decide +kernel)
theorem bs_X11_isBanned_f_193 {P : Zt → Option Zv → Prop} (K : Int → Zl → List Zv → Zt → Prop) : sx_ K P [.iload 8, .iconst (-1), .if_icmp .eq 248, .iload 5, .aload 0, .tableswitch 0 11 42 #[], .iload 8, .iaload, .fadd, .istore 9, .iload 4, .iload 9, .aload 0, .iload 3, .iconst 13] 219 = x_iload 8 (x_iconst (-1) (x_if_icmp .eq 248 K (x_iload 5 (x_aload 0 (x_g1 111 242 (x_iload 8 (x_iaload (x_fadd (x_istore 9 (x_iload 4 (x_iload 9 (x_aload 0 (x_iload 3 (x_iconst 13 (K 219))))))))))))))) := ((xe_iload 8).trans (congrArg (x_iload 8) ((xe_iconst (-1)).trans (congrArg (x_iconst (-1)) ((xe_if_icmp .eq 248).trans (congrArg (x_if_icmp .eq 248 K) ((xe_iload 5).trans (congrArg (x_iload 5) ((xe_aload 0).trans (congrArg (x_aload 0) ((xe_g1 (kk := 111) rfl tl_11_42).trans (congrArg (x_g1 111 242) ((xe_iload 8).trans (congrArg (x_iload 8) ((xe_iaload).trans (congrArg (x_iaload) ((xe_fadd).trans (congrArg (x_fadd) ((xe_istore 9).trans (congrArg (x_istore 9) ((xe_iload 4).trans (congrArg (x_iload 4) ((xe_iload 9).trans (congrArg (x_iload 9) ((xe_aload 0).trans (congrArg (x_aload 0) ((xe_iload 3).trans (congrArg (x_iload 3) ((xe_iconst 13).trans (congrArg (x_iconst 13) xe_nil))))))))))))))))))))))))))))))
theorem bk_X11_isBanned_f_222 : ck_ fX11 (some .boolean) cX11_isBanned 222 [.fdiv, .iload 5, .aload 0, .iload 3, .iconst 13] 229 = true := qck_r (nn_ _) (by decide +kernel)
theorem bs_X11_isBanned_f_222 {P : Zt → Option Zv → Prop} (K : Int → Zl → List Zv → Zt → Prop) : sx_ K P [.fdiv, .iload 5, .aload 0, .iload 3, .iconst 13] 229 = x_fdiv (x_iload 5 (x_aload 0 (x_iload 3 (x_iconst 13 (K 229))))) := ((xe_fdiv).trans (congrArg (x_fdiv) ((xe_iload 5).trans (congrArg (x_iload 5) ((xe_aload 0).trans (congrArg (x_aload 0) ((xe_iload 3).trans (congrArg (x_iload 3) ((xe_iconst 13).trans (congrArg (x_iconst 13) xe_nil))))))))))
theorem bk_X11_isBanned_f_232 : ck_ fX11 (some .boolean) cX11_isBanned 232 [.fdiv, .if_icmp .le 240, .iconst 1, .goto 241] 240 = true := qck_r (nn_ _) (by decide +kernel)
theorem bs_X11_isBanned_f_232 {P : Zt → Option Zv → Prop} (K : Int → Zl → List Zv → Zt → Prop) : sx_ K P [.fdiv, .if_icmp .le 240, .iconst 1, .goto 241] 240 = x_fdiv (x_if_icmp .le 240 K (x_iconst 1 (x_goto 241 K))) := ((xe_fdiv).trans (congrArg (x_fdiv) ((xe_if_icmp .le 240).trans (congrArg (x_if_icmp .le 240 K) ((xe_iconst 1).trans (congrArg (x_iconst 1) (xe_goto 241)))))))
theorem bk_X11_isBanned_f_240 : ck_ fX11 (some .boolean) cX11_isBanned 240 [.iconst 0] 241 = true := qck_r (nn_ _) (by decide +kernel)
theorem bs_X11_isBanned_f_240 {P : Zt → Option Zv → Prop} (K : Int → Zl → List Zv → Zt → Prop) : sx_ K P [.iconst 0] 241 = x_iconst 0 (K 241) := ((xe_iconst 0).trans (congrArg (x_iconst 0) xe_nil))
theorem bk_X11_isBanned_f_187 : ck_ fX11 (some .boolean) cX11_isBanned 187 [.fadd, .istore 4, .goto 248] 193 = true := qck_r (nn_ _) (by decide +kernel)
theorem bs_X11_isBanned_f_187 {P : Zt → Option Zv → Prop} (K : Int → Zl → List Zv → Zt → Prop) : sx_ K P [.fadd, .istore 4, .goto 248] 193 = x_fadd (x_istore 4 (x_goto 248 K)) := ((xe_fadd).trans (congrArg (x_fadd) ((xe_istore 4).trans (congrArg (x_istore 4) (xe_goto 248)))))
theorem bk_X11_isBanned_f_110 : ck_ fX11 (some .boolean) cX11_isBanned 110 [.fsub, .istore 4, .aload 0, .tableswitch 0 11 35 #[], .iload 6, .iaload, .iconst 2, .if_icmp .ne 248, .aload 0, .iconst 2, .iload 6, .imul, .iload 1] 130 = true := qck_r (nn_ _) (by decide +kernel)
theorem bs_X11_isBanned_f_110 {P : Zt → Option Zv → Prop} (K : Int → Zl → List Zv → Zt → Prop) : sx_ K P [.fsub, .istore 4, .aload 0, .tableswitch 0 11 35 #[], .iload 6, .iaload, .iconst 2, .if_icmp .ne 248, .aload 0, .iconst 2, .iload 6, .imul, .iload 1] 130 = x_fsub (x_istore 4 (x_aload 0 (x_g1 111 235 (x_iload 6 (x_iaload (x_iconst 2 (x_if_icmp .ne 248 K (x_aload 0 (x_iconst 2 (x_iload 6 (x_imul (x_iload 1 (K 130))))))))))))) := ((xe_fsub).trans (congrArg (x_fsub) ((xe_istore 4).trans (congrArg (x_istore 4) ((xe_aload 0).trans (congrArg (x_aload 0) ((xe_g1 (kk := 111) rfl tl_11_35).trans (congrArg (x_g1 111 235) ((xe_iload 6).trans (congrArg (x_iload 6) ((xe_iaload).trans (congrArg (x_iaload) ((xe_iconst 2).trans (congrArg (x_iconst 2) ((xe_if_icmp .ne 248).trans (congrArg (x_if_icmp .ne 248 K) ((xe_aload 0).trans (congrArg (x_aload 0) ((xe_iconst 2).trans (congrArg (x_iconst 2) ((xe_iload 6).trans (congrArg (x_iload 6) ((xe_imul).trans (congrArg (x_imul) ((xe_iload 1).trans (congrArg (x_iload 1) xe_nil))))))))))))))))))))))))))
theorem bk_X11_isBanned_f_133 : ck_ fX11 (some .boolean) cX11_isBanned 133 [.iconst (-1), .if_icmp .eq 149, .aload 0, .iconst 2, .iload 6, .imul, .iload 1] 143 = true := qck_r (nn_ _) (by decide +kernel)
theorem bs_X11_isBanned_f_133 {P : Zt → Option Zv → Prop} (K : Int → Zl → List Zv → Zt → Prop) : sx_ K P [.iconst (-1), .if_icmp .eq 149, .aload 0, .iconst 2, .iload 6, .imul, .iload 1] 143 = x_iconst (-1) (x_if_icmp .eq 149 K (x_aload 0 (x_iconst 2 (x_iload 6 (x_imul (x_iload 1 (K 143))))))) := ((xe_iconst (-1)).trans (congrArg (x_iconst (-1)) ((xe_if_icmp .eq 149).trans (congrArg (x_if_icmp .eq 149 K) ((xe_aload 0).trans (congrArg (x_aload 0) ((xe_iconst 2).trans (congrArg (x_iconst 2) ((xe_iload 6).trans (congrArg (x_iload 6) ((xe_imul).trans (congrArg (x_imul) ((xe_iload 1).trans (congrArg (x_iload 1) xe_nil))))))))))))))
theorem bk_X11_isBanned_f_149 : ck_ fX11 (some .boolean) cX11_isBanned 149 [.aload 0, .iconst 2, .iload 6, .imul, .iconst 1, .iadd, .iload 1] 157 = true := qck_r (nn_ _) (by decide +kernel)
theorem bs_X11_isBanned_f_149 {P : Zt → Option Zv → Prop} (K : Int → Zl → List Zv → Zt → Prop) : sx_ K P [.aload 0, .iconst 2, .iload 6, .imul, .iconst 1, .iadd, .iload 1] 157 = x_aload 0 (x_iconst 2 (x_iload 6 (x_imul (x_iconst 1 (x_iadd (x_iload 1 (K 157))))))) := ((xe_aload 0).trans (congrArg (x_aload 0) ((xe_iconst 2).trans (congrArg (x_iconst 2) ((xe_iload 6).trans (congrArg (x_iload 6) ((xe_imul).trans (congrArg (x_imul) ((xe_iconst 1).trans (congrArg (x_iconst 1) ((xe_iadd).trans (congrArg (x_iadd) ((xe_iload 1).trans (congrArg (x_iload 1) xe_nil))))))))))))))
theorem bk_X11_isBanned_f_146 : ck_ fX11 (some .boolean) cX11_isBanned 146 [.goto 160] 149 = true := qck_r (nn_ _) (by decide +kernel)
theorem bs_X11_isBanned_f_146 {P : Zt → Option Zv → Prop} (K : Int → Zl → List Zv → Zt → Prop) : sx_ K P [.goto 160] 149 = x_goto 160 K := (xe_goto 160)
theorem bk_X11_isBanned_f_66 : ck_ fX11 (some .boolean) cX11_isBanned 66 [.istore 7, .iload 7, .iconst (-1), .if_icmp .eq 248, .iload 7, .aload 0, .tableswitch 0 11 32 #[], .iload 6, .iaload, .if_icmp .eq 98, .iload 7, .aload 0, .tableswitch 0 11 33 #[], .iload 6, .iaload, .if_icmp .ne 248, .iload 4, .iload 4, .ifCond .le 109, .iconst 1, .goto 110] 109 = true := qck_r (nn_ _) (by decide +kernel)
theorem bs_X11_isBanned_f_66 {P : Zt → Option Zv → Prop} (K : Int → Zl → List Zv → Zt → Prop) : sx_ K P [.istore 7, .iload 7, .iconst (-1), .if_icmp .eq 248, .iload 7, .aload 0, .tableswitch 0 11 32 #[], .iload 6, .iaload, .if_icmp .eq 98, .iload 7, .aload 0, .tableswitch 0 11 33 #[], .iload 6, .iaload, .if_icmp .ne 248, .iload 4, .iload 4, .ifCond .le 109, .iconst 1, .goto 110] 109 = x_istore 7 (x_iload 7 (x_iconst (-1) (x_if_icmp .eq 248 K (x_iload 7 (x_aload 0 (x_g1 111 232 (x_iload 6 (x_iaload (x_if_icmp .eq 98 K (x_iload 7 (x_aload 0 (x_g1 111 233 (x_iload 6 (x_iaload (x_if_icmp .ne 248 K (x_iload 4 (x_iload 4 (x_ifCond .le 109 K (x_iconst 1 (x_goto 110 K)))))))))))))))))))) := ((xe_istore 7).trans (congrArg (x_istore 7) ((xe_iload 7).trans (congrArg (x_iload 7) ((xe_iconst (-1)).trans (congrArg (x_iconst (-1)) ((xe_if_icmp .eq 248).trans (congrArg (x_if_icmp .eq 248 K) ((xe_iload 7).trans (congrArg (x_iload 7) ((xe_aload 0).trans (congrArg (x_aload 0) ((xe_g1 (kk := 111) rfl tl_11_32).trans (congrArg (x_g1 111 232) ((xe_iload 6).trans (congrArg (x_iload 6) ((xe_iaload).trans (congrArg (x_iaload) ((xe_if_icmp .eq 98).trans (congrArg (x_if_icmp .eq 98 K) ((xe_iload 7).trans (congrArg (x_iload 7) ((xe_aload 0).trans (congrArg (x_aload 0) ((xe_g1 (kk := 111) rfl tl_11_33).trans (congrArg (x_g1 111 233) ((xe_iload 6).trans (congrArg (x_iload 6) ((xe_iaload).trans (congrArg (x_iaload) ((xe_if_icmp .ne 248).trans (congrArg (x_if_icmp .ne 248 K) ((xe_iload 4).trans (congrArg (x_iload 4) ((xe_iload 4).trans (congrArg (x_iload 4) ((xe_ifCond .le 109).trans (congrArg (x_ifCond .le 109 K) ((xe_iconst 1).trans (congrArg (x_iconst 1) (xe_goto 110)))))))))))))))))))))))))))))))))))))))))
theorem bk_X11_isBanned_f_98 : ck_ fX11 (some .boolean) cX11_isBanned 98 [.iload 4, .iload 4, .ifCond .le 109, .iconst 1, .goto 110] 109 = true := qck_r (nn_ _) (by decide +kernel)
theorem bs_X11_isBanned_f_98 {P : Zt → Option Zv → Prop} (K : Int → Zl → List Zv → Zt → Prop) : sx_ K P [.iload 4, .iload 4, .ifCond .le 109, .iconst 1, .goto 110] 109 = x_iload 4 (x_iload 4 (x_ifCond .le 109 K (x_iconst 1 (x_goto 110 K)))) := ((xe_iload 4).trans (congrArg (x_iload 4) ((xe_iload 4).trans (congrArg (x_iload 4) ((xe_ifCond .le 109).trans (congrArg (x_ifCond .le 109 K) ((xe_iconst 1).trans (congrArg (x_iconst 1) (xe_goto 110)))))))))
theorem bk_X11_isBanned_f_109 : ck_ fX11 (some .boolean) cX11_isBanned 109 [.iconst 0] 110 = true := qck_r (nn_ _) (by decide +kernel)
theorem bs_X11_isBanned_f_109 {P : Zt → Option Zv → Prop} (K : Int → Zl → List Zv → Zt → Prop) : sx_ K P [.iconst 0] 110 = x_iconst 0 (K 110) := ((xe_iconst 0).trans (congrArg (x_iconst 0) xe_nil))
theorem bk_X11_isBanned_f_22 : ck_ fX11 (some .boolean) cX11_isBanned 22 [.iload 6, .iconst (-1), .if_icmp .eq 261, .aload 0, .tableswitch 0 11 35 #[], .iload 6, .iaload, .iconst 2, .if_icmp .eq 50, .aload 0, .tableswitch 0 11 35 #[], .iload 6, .iaload, .iconst 3, .if_icmp .ne 65, .aload 0, .iload 1, .aload 0, .tableswitch 0 11 34 #[], .iload 6, .iaload] 59 = true := qck_r (nn_ _) (by decide +kernel)
theorem bs_X11_isBanned_f_22 {P : Zt → Option Zv → Prop} (K : Int → Zl → List Zv → Zt → Prop) : sx_ K P [.iload 6, .iconst (-1), .if_icmp .eq 261, .aload 0, .tableswitch 0 11 35 #[], .iload 6, .iaload, .iconst 2, .if_icmp .eq 50, .aload 0, .tableswitch 0 11 35 #[], .iload 6, .iaload, .iconst 3, .if_icmp .ne 65, .aload 0, .iload 1, .aload 0, .tableswitch 0 11 34 #[], .iload 6, .iaload] 59 = x_iload 6 (x_iconst (-1) (x_if_icmp .eq 261 K (x_aload 0 (x_g1 111 235 (x_iload 6 (x_iaload (x_iconst 2 (x_if_icmp .eq 50 K (x_aload 0 (x_g1 111 235 (x_iload 6 (x_iaload (x_iconst 3 (x_if_icmp .ne 65 K (x_aload 0 (x_iload 1 (x_aload 0 (x_g1 111 234 (x_iload 6 (x_iaload (K 59))))))))))))))))))))) := ((xe_iload 6).trans (congrArg (x_iload 6) ((xe_iconst (-1)).trans (congrArg (x_iconst (-1)) ((xe_if_icmp .eq 261).trans (congrArg (x_if_icmp .eq 261 K) ((xe_aload 0).trans (congrArg (x_aload 0) ((xe_g1 (kk := 111) rfl tl_11_35).trans (congrArg (x_g1 111 235) ((xe_iload 6).trans (congrArg (x_iload 6) ((xe_iaload).trans (congrArg (x_iaload) ((xe_iconst 2).trans (congrArg (x_iconst 2) ((xe_if_icmp .eq 50).trans (congrArg (x_if_icmp .eq 50 K) ((xe_aload 0).trans (congrArg (x_aload 0) ((xe_g1 (kk := 111) rfl tl_11_35).trans (congrArg (x_g1 111 235) ((xe_iload 6).trans (congrArg (x_iload 6) ((xe_iaload).trans (congrArg (x_iaload) ((xe_iconst 3).trans (congrArg (x_iconst 3) ((xe_if_icmp .ne 65).trans (congrArg (x_if_icmp .ne 65 K) ((xe_aload 0).trans (congrArg (x_aload 0) ((xe_iload 1).trans (congrArg (x_iload 1) ((xe_aload 0).trans (congrArg (x_aload 0) ((xe_g1 (kk := 111) rfl tl_11_34).trans (congrArg (x_g1 111 234) ((xe_iload 6).trans (congrArg (x_iload 6) ((xe_iaload).trans (congrArg (x_iaload) xe_nil))))))))))))))))))))))))))))))))))))))))))
theorem bk_X11_isBanned_f_261 : ck_ fX11 (some .boolean) cX11_isBanned 261 [.iload 4, .ifCond .le 270, .iconst 1, .goto 271] 270 = true := qck_r (nn_ _) (by decide +kernel)
theorem bs_X11_isBanned_f_261 {P : Zt → Option Zv → Prop} (K : Int → Zl → List Zv → Zt → Prop) : sx_ K P [.iload 4, .ifCond .le 270, .iconst 1, .goto 271] 270 = x_iload 4 (x_ifCond .le 270 K (x_iconst 1 (x_goto 271 K))) := ((xe_iload 4).trans (congrArg (x_iload 4) ((xe_ifCond .le 270).trans (congrArg (x_ifCond .le 270 K) ((xe_iconst 1).trans (congrArg (x_iconst 1) (xe_goto 271)))))))
theorem bk_X11_isBanned_f_270 : ck_ fX11 (some .boolean) cX11_isBanned 270 [.iconst 0, .ireturn] 272 = true := qck_r (nn_ _) (by decide +kernel)
theorem bs_X11_isBanned_f_270 {P : Zt → Option Zv → Prop} (K : Int → Zl → List Zv → Zt → Prop) : sx_ K P [.iconst 0, .ireturn] 272 = x_iconst 0 (x_ireturn P) := ((xe_iconst 0).trans (congrArg (x_iconst 0) (xe_ireturn)))
theorem bk_X11_isBanned_f_271 : ck_ fX11 (some .boolean) cX11_isBanned 271 [.ireturn] 272 = true := qck_r (nn_ _) (by decide +kernel)
theorem bs_X11_isBanned_f_271 {P : Zt → Option Zv → Prop} (K : Int → Zl → List Zv → Zt → Prop) : sx_ K P [.ireturn] 272 = x_ireturn P := (xe_ireturn)
theorem bk_X11_isBanned_f_50 : ck_ fX11 (some .boolean) cX11_isBanned 50 [.aload 0, .iload 1, .aload 0, .tableswitch 0 11 34 #[], .iload 6, .iaload] 59 = true := qck_r (nn_ _) (by decide +kernel)
theorem bs_X11_isBanned_f_50 {P : Zt → Option Zv → Prop} (K : Int → Zl → List Zv → Zt → Prop) : sx_ K P [.aload 0, .iload 1, .aload 0, .tableswitch 0 11 34 #[], .iload 6, .iaload] 59 = x_aload 0 (x_iload 1 (x_aload 0 (x_g1 111 234 (x_iload 6 (x_iaload (K 59)))))) := ((xe_aload 0).trans (congrArg (x_aload 0) ((xe_iload 1).trans (congrArg (x_iload 1) ((xe_aload 0).trans (congrArg (x_aload 0) ((xe_g1 (kk := 111) rfl tl_11_34).trans (congrArg (x_g1 111 234) ((xe_iload 6).trans (congrArg (x_iload 6) ((xe_iaload).trans (congrArg (x_iaload) xe_nil))))))))))))
theorem bk_X11_isBanned_f_62 : ck_ fX11 (some .boolean) cX11_isBanned 62 [.goto 66] 65 = true := qck_r (nn_ _) (by decide +kernel)
theorem bs_X11_isBanned_f_62 {P : Zt → Option Zv → Prop} (K : Int → Zl → List Zv → Zt → Prop) : sx_ K P [.goto 66] 65 = x_goto 66 K := (xe_goto 66)
theorem bk_X11_isBanned_f_65 : ck_ fX11 (some .boolean) cX11_isBanned 65 [.iconst (-1)] 66 = true := qck_r (nn_ _) (by decide +kernel)
theorem bs_X11_isBanned_f_65 {P : Zt → Option Zv → Prop} (K : Int → Zl → List Zv → Zt → Prop) : sx_ K P [.iconst (-1)] 66 = x_iconst (-1) (K 66) := ((xe_iconst (-1)).trans (congrArg (x_iconst (-1)) xe_nil))
theorem bk_X11_isBanned_f_0 : ck_ fX11 (some .boolean) cX11_isBanned 0 [.aload 0, .tableswitch 0 11 30 #[], .iload 2, .iaload, .istore 3, .iconst 0, .istore 4, .iconst 0, .istore 5, .aload 0, .iload 3, .iconst (-1), .iload 2] 17 = true := qck_r (nn_ _) (by decide +kernel)
theorem bs_X11_isBanned_f_0 {P : Zt → Option Zv → Prop} (K : Int → Zl → List Zv → Zt → Prop) : sx_ K P [.aload 0, .tableswitch 0 11 30 #[], .iload 2, .iaload, .istore 3, .iconst 0, .istore 4, .iconst 0, .istore 5, .aload 0, .iload 3, .iconst (-1), .iload 2] 17 = x_aload 0 (x_g1 111 230 (x_iload 2 (x_iaload (x_istore 3 (x_iconst 0 (x_istore 4 (x_iconst 0 (x_istore 5 (x_aload 0 (x_iload 3 (x_iconst (-1) (x_iload 2 (K 17))))))))))))) := ((xe_aload 0).trans (congrArg (x_aload 0) ((xe_g1 (kk := 111) rfl tl_11_30).trans (congrArg (x_g1 111 230) ((xe_iload 2).trans (congrArg (x_iload 2) ((xe_iaload).trans (congrArg (x_iaload) ((xe_istore 3).trans (congrArg (x_istore 3) ((xe_iconst 0).trans (congrArg (x_iconst 0) ((xe_istore 4).trans (congrArg (x_istore 4) ((xe_iconst 0).trans (congrArg (x_iconst 0) ((xe_istore 5).trans (congrArg (x_istore 5) ((xe_aload 0).trans (congrArg (x_aload 0) ((xe_iload 3).trans (congrArg (x_iload 3) ((xe_iconst (-1)).trans (congrArg (x_iconst (-1)) ((xe_iload 2).trans (congrArg (x_iload 2) xe_nil))))))))))))))))))))))))))
theorem bk_X11_isBanned_f_20 : ck_ fX11 (some .boolean) cX11_isBanned 20 [.istore 6] 22 = true := qck_r (nn_ _) (by decide +kernel)
theorem bs_X11_isBanned_f_20 {P : Zt → Option Zv → Prop} (K : Int → Zl → List Zv → Zt → Prop) : sx_ K P [.istore 6] 22 = x_istore 6 (K 22) := ((xe_istore 6).trans (congrArg (x_istore 6) xe_nil))
abbrev po_X11_isBanned_f (T : Zt) (p mx : Int) : Zt → Option Zv → Prop := fun T' r => T = T' ∧ ∃ r9 : Int, r = some (vI r9) ∧ ((r9 = 1 ∧ 0 < bnR_ T p mx) ∨ (r9 = 0 ∧ ¬ 0 < bnR_ T p mx))
set_option maxHeartbeats 4000000 in
theorem ct_X11_isBanned_f {T : Zt} {p mx : Int} (h1 : 0 ≤ mx ∧ mx < T 111 0 29) (hml : ML_ T) (hmc : MC_ T) (hri : RI_ T) : Ct_ yX11_isBanned zX11_isBanned T [vR 111 0, vI p, vI mx] (po_X11_isBanned_f T p mx) := by
  refine ct_of pn_11 rfl rfl (Nat.le_of_ble_eq_true rfl) (fun hT hav => ?_)
  have hr_p : -2147483648 ≤ p ∧ p ≤ 2147483647 := hav (vI p) (List.mem_cons_of_mem _ List.mem_cons_self)
  have hr_x : -2147483648 ≤ mx ∧ mx ≤ 2147483647 := hav (vI mx) (List.mem_cons_of_mem _ (List.mem_cons_of_mem _ List.mem_cons_self))
  have hz : zX11_isBanned.2.2.2.1 = some .boolean → ∀ (T' : Zt) (x9 : Int), po_X11_isBanned_f T p mx T' (some (vI x9)) → 0 ≤ x9 ∧ x9 ≤ 1 := fun _ T' x h => by obtain ⟨-, y, e, hy⟩ := h; cases e; omega
  have hcx := hmc mx (by omega) (by omega)
  have hcb : 0 ≤ T 230 0 mx ∧ T 230 0 mx ≤ 3 := bd_a hT 230 (by decide +kernel : ta_ 230 = some (1, some 400, 0, 3)) 0 (by omega)
  have hmx := hml (T 230 0 mx) (by omega) (by omega)
  have hr13 : (1 : Int) ≤ T 205 0 (23 * T 230 0 mx + 13) ∧ T 205 0 (23 * T 230 0 mx + 13) ≤ (9 : Int) := hri (T 230 0 mx) 13 (by omega) (by omega) (by omega) (by omega)
  have hb_29 : 0 ≤ T 111 0 29 ∧ T 111 0 29 ≤ 400 := bd_f hT 111 29 tl_11_29 0
  have hb_6 : 0 ≤ T 111 0 6 ∧ T 111 0 6 ≤ 4 := bd_f hT 111 6 tl_11_6 0
  have hfo : 0 ≤ T 210 0 (T 230 0 mx) ∧ T 210 0 (T 230 0 mx) ≤ 400 := bd_a hT 210 (by decide +kernel : ta_ 210 = some (1, some 4, 0, 400)) 0 (by omega)
  have hmo : 0 ≤ T 211 0 (T 230 0 mx) ∧ T 211 0 (T 230 0 mx) ≤ 400 := bd_a hT 211 (by decide +kernel : ta_ 211 = some (1, some 4, 0, 400)) 0 (by omega)
  have hdx9 : 0 ≤ T 234 0 mx ∧ T 234 0 mx ≤ 999 := bd_a hT 234 (by decide +kernel : ta_ 234 = some (1, some 400, 0, 999)) 0 (by omega)
  show J_ zX11_isBanned T (po_X11_isBanned_f T p mx) 0 0 0 [some (vR 111 0), some (vI p), some (vI mx), none, none, none, none, none, none, none] [] T
  have c_22 : ∀ (nn : Nat) (de : Int) (ye : Int) (m : Int), (if m = -1 then 0 else (1000000 - (400 * T 234 0 m + m)).toNat) ≤ nn → (m = -1 ∨ (0 ≤ m ∧ m < 400)) → (m = -1 ∨ (T 210 0 (T 230 0 mx) ≤ m ∧ m < T 210 0 (T 230 0 mx) + T 211 0 (T 230 0 mx) ∧ T 234 0 m * 400 + m < (T 234 0 mx * 400 + mx))) → (∀ B, (m ≠ -1 → B = T 234 0 m * 400 + m) → (m = -1 → B = (T 234 0 mx * 400 + mx)) → (de, ye) = bf_ (fun m => T 234 0 m) (rlR_ T p) (sbn_ (T 205 0 (23 * T 230 0 mx + 14)) (T 205 0 (23 * T 230 0 mx + 13)) (kdR_ T p) (yvR_ T p)) (T 210 0 (T 230 0 mx)) (T 211 0 (T 230 0 mx)) B.toNat) → J_ zX11_isBanned T (po_X11_isBanned_f T p mx) 0 0 22 [some (vR 111 0), some (vI p), some (vI mx), some (vI (T 230 0 mx)), some (vI de), some (vI ye), some (vI m), none, none, none] [] T := by
    intro nn
    induction nn using Nat.strongRecOn with
    | _ nn ih_22 =>
      intro de ye m hm_22 m1 rg fo
      replace hm_22 := fun (_ : Unit) => hm_22
      have c_248 : ∀ (de4 : Int) (ye4 : Int), (0 ≤ m ∧ m < 400 ∧ T 210 0 (T 230 0 mx) ≤ m ∧ m < T 210 0 (T 230 0 mx) + T 211 0 (T 230 0 mx) ∧ m ≠ -1) → ((de4, ye4) = bf_ (fun m => T 234 0 m) (rlR_ T p) (sbn_ (T 205 0 (23 * T 230 0 mx + 14)) (T 205 0 (23 * T 230 0 mx + 13)) (kdR_ T p) (yvR_ T p)) (T 210 0 (T 230 0 mx)) (T 211 0 (T 230 0 mx)) (T 234 0 m * 400 + m + 1).toNat) → J_ zX11_isBanned T (po_X11_isBanned_f T p mx) 0 0 248 [some (vR 111 0), some (vI p), some (vI mx), some (vI (T 230 0 mx)), some (vI de4), some (vI ye4), some (vI m), none, none, none] [] T := by
        intro de4 ye4 m2 fo4
        refine j_blx (F := fX11) tb_X11 (nn_ _) bk_X11_isBanned_f_248 bs_X11_isBanned_f_248 hz (fun K hK => ?_)
        refine hK 253 _ [vI mx, vI m, vI (T 230 0 mx), vR 111 0] T ?_
        refine j_callV (y := yX11_nextMatch) (Yc := zX11_nextMatch) (rest := []) [vI (T 230 0 mx), vI m, vI mx] (ct_X11_nextMatch_f (T := T) (by omega) (by omega) (by omega) (by omega)) cl_X11_371 (qd_c (by decide +kernel)) (nn_ _) rfl (rf_of rfl) (Nat.le_of_ble_eq_true rfl) (Nat.le_of_ble_eq_true rfl) (Nat.le_of_ble_eq_true rfl) rfl ?_
        rintro _ _ ⟨rfl, x1, rfl, hx1, nx1⟩
        show J_ zX11_isBanned T (po_X11_isBanned_f T p mx) 0 0 256 _ [vI x1] T
        have hdm : 0 ≤ T 234 0 m ∧ T 234 0 m ≤ 999 := bd_a hT 234 (by decide +kernel : ta_ 234 = some (1, some 400, 0, 999)) 0 (by omega)
        have hdx : x1 = -1 ∨ (T 234 0 m * 400 + m < T 234 0 x1 * 400 + x1 ∧ 0 ≤ T 234 0 x1 ∧ T 234 0 x1 ≤ 999) := by
          have nn9 := nx1
          rw [cz_f (by omega)] at nn9
          rcases nn9 with y | y
          · exact Or.inl y.1
          · exact Or.inr ⟨y.1.2.2.1, bd_a hT 234 (by decide +kernel : ta_ 234 = some (1, some 400, 0, 999)) 0 (by have := y.1.1; omega)⟩
        refine j_blx (F := fX11) tb_X11 (nn_ _) bk_X11_isBanned_f_256 bs_X11_isBanned_f_256 hz (fun K hK => ?_)
        refine hK 22 [some (vR 111 0), some (vI p), some (vI mx), some (vI (T 230 0 mx)), some (vI de4), some (vI ye4), some (vI x1), none, none, none] [] T ?_
        refine ih_22 _ ?_ de4 ye4 x1 (Nat.le_refl _) ?_ ?_ ?_
        · have hm_22 := hm_22 (); (have zm : m ≠ -1 := by omega); rw [if_neg zm] at hm_22; split <;> omega
        · omega
        · rcases nx1 with y | y
          · exact Or.inl y.1
          · exact Or.inr ⟨y.1.1, y.1.2.1, y.1.2.2.2⟩
        · intro B a b
          have nn9 := nx1
          rw [cz_f (by omega)] at nn9
          have bp9 : T 234 0 m * 400 + m + 1 ≤ B := by
            by_cases z : x1 = -1
            · rw [b z]; omega
            · rw [a z]; rcases nn9 with y | y
              · omega
              · have y2 : T 234 0 m * 400 + m < T 234 0 x1 * 400 + x1 := y.1.2.2.1; omega
          rw [bf_i (A := T 234 0 m * 400 + m + 1) (B := B) (by omega) bp9 (fun m9 a1 a2 a3 a4 a5 => bn_0 nn9 (by omega) a b a1 a2 (show T 234 0 m * 400 + m < T 234 0 m9 * 400 + m9 from by have a6 : T 234 0 m * 400 + m + 1 ≤ T 234 0 m9 * 400 + m9 := a4; omega) a5)]
          exact fo4
      have c_241 : ∀ (v : Int) (de3 : Int) (ye3 : Int), (0 ≤ m ∧ m < 400 ∧ T 210 0 (T 230 0 mx) ≤ m ∧ m < T 210 0 (T 230 0 mx) + T 211 0 (T 230 0 mx) ∧ m ≠ -1) → (rlR_ T p m) → (kdR_ T p m = 2) → (v = cz_ (0 < T 205 0 (23 * T 230 0 mx + 13) ∧ dq_ ye (T 205 0 (23 * T 230 0 mx + 13)) < dq_ ye3 (T 205 0 (23 * T 230 0 mx + 13))) 1 0) → (de3 = wr_ (de - cz_ (0 < de) 1 0)) → (ye3 = wr_ (ye + yvR_ T p m)) → J_ zX11_isBanned T (po_X11_isBanned_f T p mx) 0 0 241 [some (vR 111 0), some (vI p), some (vI mx), some (vI (T 230 0 mx)), some (vI de3), some (vI ye), some (vI m), none, none, some (vI ye3)] [vI v, vI de3] T := by
        intro v de3 ye3 m2 rl9 kd9 v9 de3e ye3e
        have hdm9 : 0 ≤ T 234 0 m ∧ T 234 0 m ≤ 999 := bd_a hT 234 (by decide +kernel : ta_ 234 = some (1, some 400, 0, 999)) 0 (by omega)
        refine j_blx (F := fX11) tb_X11 (nn_ _) bk_X11_isBanned_f_241 bs_X11_isBanned_f_241 hz (fun K hK => ?_)
        intro w2 w2b
        refine hK 248 [some (vR 111 0), some (vI p), some (vI mx), some (vI (T 230 0 mx)), some (vI (wr_ (de3 + v))), some (vI ye3), some (vI m), none, none, some (vI ye3)] [] T ?_
        refine j_drop [some (vR 111 0), some (vI p), some (vI mx), some (vI (T 230 0 mx)), some (vI (wr_ (de3 + v))), some (vI ye3), some (vI m), none, none, none] (fun k v hk => ?_) rfl ?_
        · match k, hk with
          | 0, hk => exact hk
          | 1, hk => exact hk
          | 2, hk => exact hk
          | 3, hk => exact hk
          | 4, hk => exact hk
          | 5, hk => exact hk
          | 6, hk => exact hk
          | 7, hk => cases hk
          | 8, hk => cases hk
          | 9, hk => cases hk
          | k + 10, hk => cases hk
        refine c_248 (wr_ (de3 + v)) ye3 ?_ ?_
        · omega
        · have fk := fo (T 234 0 m * 400 + m) (fun _ => rfl) (fun z => absurd z (by omega))
          have g9 := bf_s (day := (fun m => T 234 0 m)) (rel := rlR_ T p) (st := (sbn_ (T 205 0 (23 * T 230 0 mx + 14)) (T 205 0 (23 * T 230 0 mx + 13)) (kdR_ T p) (yvR_ T p))) (f := T 210 0 (T 230 0 mx)) (n := T 211 0 (T 230 0 mx)) (m := m) (by omega) (by omega) hdm9.1 (by omega) (by omega) rl9
          refine Eq.trans ?_ g9.symm
          show _ = sbn_ _ _ _ _ m (bf_ _ _ _ _ _ (T 234 0 m * 400 + m).toNat)
          rw [← fk]
          rw [sbn_2 kd9, v9, de3e, ye3e]
      have c_160 : ∀ (sl : Int) (de2 : Int), (0 ≤ m ∧ m < 400 ∧ T 210 0 (T 230 0 mx) ≤ m ∧ m < T 210 0 (T 230 0 mx) + T 211 0 (T 230 0 mx) ∧ m ≠ -1) → (-1 ≤ sl ∧ sl < 8000 ∧ T 235 0 m = 2) → (rlR_ T p m) → (sl = slc_ T m p) → (de2 = wr_ (de - cz_ (0 < de) 1 0)) → J_ zX11_isBanned T (po_X11_isBanned_f T p mx) 0 0 160 [some (vR 111 0), some (vI p), some (vI mx), some (vI (T 230 0 mx)), some (vI de2), some (vI ye), some (vI m), none, none, none] [vI sl] T := by
        intro sl de2 m2 m3 rl9 sle de2e
        have hdm9 : 0 ≤ T 234 0 m ∧ T 234 0 m ≤ 999 := bd_a hT 234 (by decide +kernel : ta_ 234 = some (1, some 400, 0, 999)) 0 (by omega)
        refine j_blx (F := fX11) tb_X11 (nn_ _) bk_X11_isBanned_f_160 bs_X11_isBanned_f_160 hz (fun K hK => ?_)
        refine And.intro (fun c3 => ?_) (fun c3 => ?_)
        · refine hK 193 [some (vR 111 0), some (vI p), some (vI mx), some (vI (T 230 0 mx)), some (vI de2), some (vI ye), some (vI m), none, some (vI sl), none] [] T ?_
          refine j_blx (F := fX11) tb_X11 (nn_ _) bk_X11_isBanned_f_193 bs_X11_isBanned_f_193 hz (fun K hK => ?_)
          refine And.intro (fun c4 => ?_) (fun c4 => ?_)
          · refine hK 248 _ [] T ?_
            refine j_drop [some (vR 111 0), some (vI p), some (vI mx), some (vI (T 230 0 mx)), some (vI de2), some (vI ye), some (vI m), none, none, none] (fun k v hk => ?_) rfl ?_
            · match k, hk with
              | 0, hk => exact hk
              | 1, hk => exact hk
              | 2, hk => exact hk
              | 3, hk => exact hk
              | 4, hk => exact hk
              | 5, hk => exact hk
              | 6, hk => exact hk
              | 7, hk => cases hk
              | 8, hk => cases hk
              | 9, hk => cases hk
              | k + 10, hk => cases hk
            refine c_248 de2 ye ?_ ?_
            · omega
            · have fk := fo (T 234 0 m * 400 + m) (fun _ => rfl) (fun z => absurd z (by omega))
              have g9 := bf_s (day := (fun m => T 234 0 m)) (rel := rlR_ T p) (st := (sbn_ (T 205 0 (23 * T 230 0 mx + 14)) (T 205 0 (23 * T 230 0 mx + 13)) (kdR_ T p) (yvR_ T p))) (f := T 210 0 (T 230 0 mx)) (n := T 211 0 (T 230 0 mx)) (m := m) (by omega) (by omega) hdm9.1 (by omega) (by omega) rl9
              refine Eq.trans ?_ g9.symm
              show _ = sbn_ _ _ _ _ m (bf_ _ _ _ _ _ (T 234 0 m * 400 + m).toNat)
              rw [← fk]
              rw [sbn_0 (by rw [kdR_0 (by omega)]; decide) (by rw [kdR_0 (by omega)]; decide), de2e]
          · refine ix_i (by omega) ?_
            intro b5 b5b
            intro w6 w6b
            refine hK 219 [some (vR 111 0), some (vI p), some (vI mx), some (vI (T 230 0 mx)), some (vI de2), some (vI ye), some (vI m), none, some (vI sl), some (vI (wr_ (ye + (T 242 0 sl))))] [vI 13, vI (T 230 0 mx), vR 111 0, vI (wr_ (ye + (T 242 0 sl))), vI de2] T ?_
            refine j_callV (y := yX11_rule0) (Yc := zX11_rule0) (rest := [vI (wr_ (ye + (T 242 0 sl))), vI de2]) [vI (T 230 0 mx), vI 13] (ct_X11_rule0 (T := T) (by omega) (by omega)) cl_X11_321 (qd_c (by decide +kernel)) (nn_ _) rfl (rf_of rfl) (Nat.le_of_ble_eq_true rfl) (Nat.le_of_ble_eq_true rfl) (Nat.le_of_ble_eq_true rfl) rfl ?_
            rintro _ _ ⟨rfl, rfl⟩
            show J_ zX11_isBanned T (po_X11_isBanned_f T p mx) 0 0 222 _ [vI (T 205 0 (23 * (T 230 0 mx) + 13)), vI (wr_ (ye + (T 242 0 sl))), vI de2] T
            refine j_blx (F := fX11) tb_X11 (nn_ _) bk_X11_isBanned_f_222 bs_X11_isBanned_f_222 hz (fun K hK => ?_)
            refine And.intro (by omega) (fun w7 w7b => ?_)
            refine hK 229 _ [vI 13, vI (T 230 0 mx), vR 111 0, vI ye, vI (dq_ (wr_ (ye + (T 242 0 sl))) (T 205 0 (23 * (T 230 0 mx) + 13))), vI de2] T ?_
            refine j_callV (y := yX11_rule0) (Yc := zX11_rule0) (rest := [vI ye, vI (dq_ (wr_ (ye + (T 242 0 sl))) (T 205 0 (23 * (T 230 0 mx) + 13))), vI de2]) [vI (T 230 0 mx), vI 13] (ct_X11_rule0 (T := T) (by omega) (by omega)) cl_X11_321 (qd_c (by decide +kernel)) (nn_ _) rfl (rf_of rfl) (Nat.le_of_ble_eq_true rfl) (Nat.le_of_ble_eq_true rfl) (Nat.le_of_ble_eq_true rfl) rfl ?_
            rintro _ _ ⟨rfl, rfl⟩
            show J_ zX11_isBanned T (po_X11_isBanned_f T p mx) 0 0 232 _ [vI (T 205 0 (23 * (T 230 0 mx) + 13)), vI ye, vI (dq_ (wr_ (ye + (T 242 0 sl))) (T 205 0 (23 * (T 230 0 mx) + 13))), vI de2] T
            refine j_blx (F := fX11) tb_X11 (nn_ _) bk_X11_isBanned_f_232 bs_X11_isBanned_f_232 hz (fun K hK => ?_)
            refine And.intro (by omega) (fun w8 w8b => ?_)
            refine And.intro (fun c9 => ?_) (fun c9 => ?_)
            · refine hK 240 _ [vI de2] T ?_
              refine j_blx (F := fX11) tb_X11 (nn_ _) bk_X11_isBanned_f_240 bs_X11_isBanned_f_240 hz (fun K hK => ?_)
              refine hK 241 _ [vI 0, vI de2] T ?_
              refine j_drop [some (vR 111 0), some (vI p), some (vI mx), some (vI (T 230 0 mx)), some (vI de2), some (vI ye), some (vI m), none, none, some (vI (wr_ (ye + (T 242 0 sl))))] (fun k v hk => ?_) rfl ?_
              · match k, hk with
                | 0, hk => exact hk
                | 1, hk => exact hk
                | 2, hk => exact hk
                | 3, hk => exact hk
                | 4, hk => exact hk
                | 5, hk => exact hk
                | 6, hk => exact hk
                | 7, hk => cases hk
                | 8, hk => cases hk
                | 9, hk => exact hk
                | k + 10, hk => cases hk
              refine c_241 0 de2 (wr_ (ye + (T 242 0 sl))) ?_ ?_ ?_ ?_ ?_ ?_
              · omega
              · first
                | exact rl9
                | (unfold rlR_; omega)
              · exact kdR_2 (by omega) (by rw [← sle]; omega)
              · rw [cz_f (by omega)]
              · exact de2e
              · unfold yvR_
                rw [← sle]
            · refine hK 241 [some (vR 111 0), some (vI p), some (vI mx), some (vI (T 230 0 mx)), some (vI de2), some (vI ye), some (vI m), none, some (vI sl), some (vI (wr_ (ye + (T 242 0 sl))))] [vI 1, vI de2] T ?_
              refine j_drop [some (vR 111 0), some (vI p), some (vI mx), some (vI (T 230 0 mx)), some (vI de2), some (vI ye), some (vI m), none, none, some (vI (wr_ (ye + (T 242 0 sl))))] (fun k v hk => ?_) rfl ?_
              · match k, hk with
                | 0, hk => exact hk
                | 1, hk => exact hk
                | 2, hk => exact hk
                | 3, hk => exact hk
                | 4, hk => exact hk
                | 5, hk => exact hk
                | 6, hk => exact hk
                | 7, hk => cases hk
                | 8, hk => cases hk
                | 9, hk => exact hk
                | k + 10, hk => cases hk
              refine c_241 1 de2 (wr_ (ye + (T 242 0 sl))) ?_ ?_ ?_ ?_ ?_ ?_
              · omega
              · first
                | exact rl9
                | (unfold rlR_; omega)
              · exact kdR_2 (by omega) (by rw [← sle]; omega)
              · rw [cz_t (by omega)]
              · exact de2e
              · unfold yvR_
                rw [← sle]
        · refine ix_i (by omega) ?_
          intro b10 b10b
          refine And.intro (fun c11 => ?_) (fun c11 => ?_)
          · refine hK 193 _ [] T ?_
            refine j_blx (F := fX11) tb_X11 (nn_ _) bk_X11_isBanned_f_193 bs_X11_isBanned_f_193 hz (fun K hK => ?_)
            refine And.intro (fun c12 => ?_) (fun c12 => ?_)
            · refine hK 248 _ [] T ?_
              refine j_drop [some (vR 111 0), some (vI p), some (vI mx), some (vI (T 230 0 mx)), some (vI de2), some (vI ye), some (vI m), none, none, none] (fun k v hk => ?_) rfl ?_
              · match k, hk with
                | 0, hk => exact hk
                | 1, hk => exact hk
                | 2, hk => exact hk
                | 3, hk => exact hk
                | 4, hk => exact hk
                | 5, hk => exact hk
                | 6, hk => exact hk
                | 7, hk => cases hk
                | 8, hk => cases hk
                | 9, hk => cases hk
                | k + 10, hk => cases hk
              refine c_248 de2 ye ?_ ?_
              · omega
              · have fk := fo (T 234 0 m * 400 + m) (fun _ => rfl) (fun z => absurd z (by omega))
                have g9 := bf_s (day := (fun m => T 234 0 m)) (rel := rlR_ T p) (st := (sbn_ (T 205 0 (23 * T 230 0 mx + 14)) (T 205 0 (23 * T 230 0 mx + 13)) (kdR_ T p) (yvR_ T p))) (f := T 210 0 (T 230 0 mx)) (n := T 211 0 (T 230 0 mx)) (m := m) (by omega) (by omega) hdm9.1 (by omega) (by omega) rl9
                refine Eq.trans ?_ g9.symm
                show _ = sbn_ _ _ _ _ m (bf_ _ _ _ _ _ (T 234 0 m * 400 + m).toNat)
                rw [← fk]
                rw [sbn_0 (by rw [kdR_0 (by omega)]; decide) (by rw [kdR_0 (by omega)]; decide), de2e]
            · refine ix_i (by omega) ?_
              intro b13 b13b
              intro w14 w14b
              refine hK 219 [some (vR 111 0), some (vI p), some (vI mx), some (vI (T 230 0 mx)), some (vI de2), some (vI ye), some (vI m), none, some (vI sl), some (vI (wr_ (ye + (T 242 0 sl))))] [vI 13, vI (T 230 0 mx), vR 111 0, vI (wr_ (ye + (T 242 0 sl))), vI de2] T ?_
              refine j_callV (y := yX11_rule0) (Yc := zX11_rule0) (rest := [vI (wr_ (ye + (T 242 0 sl))), vI de2]) [vI (T 230 0 mx), vI 13] (ct_X11_rule0 (T := T) (by omega) (by omega)) cl_X11_321 (qd_c (by decide +kernel)) (nn_ _) rfl (rf_of rfl) (Nat.le_of_ble_eq_true rfl) (Nat.le_of_ble_eq_true rfl) (Nat.le_of_ble_eq_true rfl) rfl ?_
              rintro _ _ ⟨rfl, rfl⟩
              show J_ zX11_isBanned T (po_X11_isBanned_f T p mx) 0 0 222 _ [vI (T 205 0 (23 * (T 230 0 mx) + 13)), vI (wr_ (ye + (T 242 0 sl))), vI de2] T
              refine j_blx (F := fX11) tb_X11 (nn_ _) bk_X11_isBanned_f_222 bs_X11_isBanned_f_222 hz (fun K hK => ?_)
              refine And.intro (by omega) (fun w15 w15b => ?_)
              refine hK 229 _ [vI 13, vI (T 230 0 mx), vR 111 0, vI ye, vI (dq_ (wr_ (ye + (T 242 0 sl))) (T 205 0 (23 * (T 230 0 mx) + 13))), vI de2] T ?_
              refine j_callV (y := yX11_rule0) (Yc := zX11_rule0) (rest := [vI ye, vI (dq_ (wr_ (ye + (T 242 0 sl))) (T 205 0 (23 * (T 230 0 mx) + 13))), vI de2]) [vI (T 230 0 mx), vI 13] (ct_X11_rule0 (T := T) (by omega) (by omega)) cl_X11_321 (qd_c (by decide +kernel)) (nn_ _) rfl (rf_of rfl) (Nat.le_of_ble_eq_true rfl) (Nat.le_of_ble_eq_true rfl) (Nat.le_of_ble_eq_true rfl) rfl ?_
              rintro _ _ ⟨rfl, rfl⟩
              show J_ zX11_isBanned T (po_X11_isBanned_f T p mx) 0 0 232 _ [vI (T 205 0 (23 * (T 230 0 mx) + 13)), vI ye, vI (dq_ (wr_ (ye + (T 242 0 sl))) (T 205 0 (23 * (T 230 0 mx) + 13))), vI de2] T
              refine j_blx (F := fX11) tb_X11 (nn_ _) bk_X11_isBanned_f_232 bs_X11_isBanned_f_232 hz (fun K hK => ?_)
              refine And.intro (by omega) (fun w16 w16b => ?_)
              refine And.intro (fun c17 => ?_) (fun c17 => ?_)
              · refine hK 240 _ [vI de2] T ?_
                refine j_blx (F := fX11) tb_X11 (nn_ _) bk_X11_isBanned_f_240 bs_X11_isBanned_f_240 hz (fun K hK => ?_)
                refine hK 241 _ [vI 0, vI de2] T ?_
                refine j_drop [some (vR 111 0), some (vI p), some (vI mx), some (vI (T 230 0 mx)), some (vI de2), some (vI ye), some (vI m), none, none, some (vI (wr_ (ye + (T 242 0 sl))))] (fun k v hk => ?_) rfl ?_
                · match k, hk with
                  | 0, hk => exact hk
                  | 1, hk => exact hk
                  | 2, hk => exact hk
                  | 3, hk => exact hk
                  | 4, hk => exact hk
                  | 5, hk => exact hk
                  | 6, hk => exact hk
                  | 7, hk => cases hk
                  | 8, hk => cases hk
                  | 9, hk => exact hk
                  | k + 10, hk => cases hk
                refine c_241 0 de2 (wr_ (ye + (T 242 0 sl))) ?_ ?_ ?_ ?_ ?_ ?_
                · omega
                · first
                  | exact rl9
                  | (unfold rlR_; omega)
                · exact kdR_2 (by omega) (by rw [← sle]; omega)
                · rw [cz_f (by omega)]
                · exact de2e
                · unfold yvR_
                  rw [← sle]
              · refine hK 241 [some (vR 111 0), some (vI p), some (vI mx), some (vI (T 230 0 mx)), some (vI de2), some (vI ye), some (vI m), none, some (vI sl), some (vI (wr_ (ye + (T 242 0 sl))))] [vI 1, vI de2] T ?_
                refine j_drop [some (vR 111 0), some (vI p), some (vI mx), some (vI (T 230 0 mx)), some (vI de2), some (vI ye), some (vI m), none, none, some (vI (wr_ (ye + (T 242 0 sl))))] (fun k v hk => ?_) rfl ?_
                · match k, hk with
                  | 0, hk => exact hk
                  | 1, hk => exact hk
                  | 2, hk => exact hk
                  | 3, hk => exact hk
                  | 4, hk => exact hk
                  | 5, hk => exact hk
                  | 6, hk => exact hk
                  | 7, hk => cases hk
                  | 8, hk => cases hk
                  | 9, hk => exact hk
                  | k + 10, hk => cases hk
                refine c_241 1 de2 (wr_ (ye + (T 242 0 sl))) ?_ ?_ ?_ ?_ ?_ ?_
                · omega
                · first
                  | exact rl9
                  | (unfold rlR_; omega)
                · exact kdR_2 (by omega) (by rw [← sle]; omega)
                · rw [cz_t (by omega)]
                · exact de2e
                · unfold yvR_
                  rw [← sle]
          · refine hK 184 _ [vI 14, vI (T 230 0 mx), vR 111 0, vI de2] T ?_
            refine j_callV (y := yX11_rule0) (Yc := zX11_rule0) (rest := [vI de2]) [vI (T 230 0 mx), vI 14] (ct_X11_rule0 (T := T) (by omega) (by omega)) cl_X11_321 (qd_c (by decide +kernel)) (nn_ _) rfl (rf_of rfl) (Nat.le_of_ble_eq_true rfl) (Nat.le_of_ble_eq_true rfl) (Nat.le_of_ble_eq_true rfl) rfl ?_
            rintro _ _ ⟨rfl, rfl⟩
            show J_ zX11_isBanned T (po_X11_isBanned_f T p mx) 0 0 187 _ [vI (T 205 0 (23 * (T 230 0 mx) + 14)), vI de2] T
            refine j_blx (F := fX11) tb_X11 (nn_ _) bk_X11_isBanned_f_187 bs_X11_isBanned_f_187 hz (fun K hK => ?_)
            intro w18 w18b
            refine hK 248 [some (vR 111 0), some (vI p), some (vI mx), some (vI (T 230 0 mx)), some (vI (wr_ (de2 + (T 205 0 (23 * (T 230 0 mx) + 14))))), some (vI ye), some (vI m), none, some (vI sl), none] [] T ?_
            refine j_drop [some (vR 111 0), some (vI p), some (vI mx), some (vI (T 230 0 mx)), some (vI (wr_ (de2 + (T 205 0 (23 * (T 230 0 mx) + 14))))), some (vI ye), some (vI m), none, none, none] (fun k v hk => ?_) rfl ?_
            · match k, hk with
              | 0, hk => exact hk
              | 1, hk => exact hk
              | 2, hk => exact hk
              | 3, hk => exact hk
              | 4, hk => exact hk
              | 5, hk => exact hk
              | 6, hk => exact hk
              | 7, hk => cases hk
              | 8, hk => cases hk
              | 9, hk => cases hk
              | k + 10, hk => cases hk
            refine c_248 (wr_ (de2 + (T 205 0 (23 * (T 230 0 mx) + 14)))) ye ?_ ?_
            · omega
            · have fk := fo (T 234 0 m * 400 + m) (fun _ => rfl) (fun z => absurd z (by omega))
              have g9 := bf_s (day := (fun m => T 234 0 m)) (rel := rlR_ T p) (st := (sbn_ (T 205 0 (23 * T 230 0 mx + 14)) (T 205 0 (23 * T 230 0 mx + 13)) (kdR_ T p) (yvR_ T p))) (f := T 210 0 (T 230 0 mx)) (n := T 211 0 (T 230 0 mx)) (m := m) (by omega) (by omega) hdm9.1 (by omega) (by omega) rl9
              refine Eq.trans ?_ g9.symm
              show _ = sbn_ _ _ _ _ m (bf_ _ _ _ _ _ (T 234 0 m * 400 + m).toNat)
              rw [← fk]
              rw [sbn_1 (kdR_1 (by omega) (by rw [← sle]; omega)), de2e]
      have c_110 : ∀ (v : Int), (0 ≤ m ∧ m < 400 ∧ T 210 0 (T 230 0 mx) ≤ m ∧ m < T 210 0 (T 230 0 mx) + T 211 0 (T 230 0 mx) ∧ m ≠ -1) → (rlR_ T p m) → (v = cz_ (0 < de) 1 0) → J_ zX11_isBanned T (po_X11_isBanned_f T p mx) 0 0 110 [some (vR 111 0), some (vI p), some (vI mx), some (vI (T 230 0 mx)), some (vI de), some (vI ye), some (vI m), none, none, none] [vI v, vI de] T := by
        intro v m2 rl9 v1e
        have hdm9 : 0 ≤ T 234 0 m ∧ T 234 0 m ≤ 999 := bd_a hT 234 (by decide +kernel : ta_ 234 = some (1, some 400, 0, 999)) 0 (by omega)
        refine j_blx (F := fX11) tb_X11 (nn_ _) bk_X11_isBanned_f_110 bs_X11_isBanned_f_110 hz (fun K hK => ?_)
        intro w19 w19b
        refine ix_i (by omega) ?_
        intro b20 b20b
        refine And.intro (fun c21 => ?_) (fun c21 => ?_)
        · refine hK 248 [some (vR 111 0), some (vI p), some (vI mx), some (vI (T 230 0 mx)), some (vI (wr_ (de - v))), some (vI ye), some (vI m), none, none, none] [] T ?_
          refine c_248 (wr_ (de - v)) ye ?_ ?_
          · omega
          · have fk := fo (T 234 0 m * 400 + m) (fun _ => rfl) (fun z => absurd z (by omega))
            have g9 := bf_s (day := (fun m => T 234 0 m)) (rel := rlR_ T p) (st := (sbn_ (T 205 0 (23 * T 230 0 mx + 14)) (T 205 0 (23 * T 230 0 mx + 13)) (kdR_ T p) (yvR_ T p))) (f := T 210 0 (T 230 0 mx)) (n := T 211 0 (T 230 0 mx)) (m := m) (by omega) (by omega) hdm9.1 (by omega) (by omega) rl9
            refine Eq.trans ?_ g9.symm
            show _ = sbn_ _ _ _ _ m (bf_ _ _ _ _ _ (T 234 0 m * 400 + m).toNat)
            rw [← fk]
            rw [sbn_0 (by rw [kdR_0 (by omega)]; decide) (by rw [kdR_0 (by omega)]; decide), v1e]
        · refine rg_i (by omega) ?_
          refine hK 130 _ [vI p, vI (2 * m), vR 111 0] T ?_
          refine j_callV (y := yX11_slotOf) (Yc := zX11_slotOf) (rest := []) [vI (2 * m), vI p] (ct_X11_slotOf_e (T := T) (m := m) (s := 0) (by omega) ⟨by omega, by decide, by decide⟩) cl_X11_378 (qd_c (by decide +kernel)) (nn_ _) rfl (rf_of rfl) (Nat.le_of_ble_eq_true rfl) (Nat.le_of_ble_eq_true rfl) (Nat.le_of_ble_eq_true rfl) rfl ?_
          rintro _ _ ⟨rfl, x22, rfl, hx22, hx22e⟩
          have bx22 : x22 = -1 ∨ (10 * (2 * m) ≤ x22 ∧ x22 < 10 * (2 * m) + 10) := by
            rcases hx22 with z | z
            · exact Or.inl z.1
            · exact Or.inr ⟨z.1, z.2.1⟩
          clear hx22
          show J_ zX11_isBanned T (po_X11_isBanned_f T p mx) 0 0 133 _ [vI x22] T
          refine j_blx (F := fX11) tb_X11 (nn_ _) bk_X11_isBanned_f_133 bs_X11_isBanned_f_133 hz (fun K hK => ?_)
          refine And.intro (fun c23 => ?_) (fun c23 => ?_)
          · refine hK 149 _ [] T ?_
            refine j_blx (F := fX11) tb_X11 (nn_ _) bk_X11_isBanned_f_149 bs_X11_isBanned_f_149 hz (fun K hK => ?_)
            refine rg_i (by omega) ?_
            refine rg_i (by omega) ?_
            refine hK 157 _ [vI p, vI ((2 * m) + 1), vR 111 0] T ?_
            refine j_callV (y := yX11_slotOf) (Yc := zX11_slotOf) (rest := []) [vI ((2 * m) + 1), vI p] (ct_X11_slotOf_e (T := T) (m := m) (s := 1) (by omega) ⟨by omega, by decide, by decide⟩) cl_X11_378 (qd_c (by decide +kernel)) (nn_ _) rfl (rf_of rfl) (Nat.le_of_ble_eq_true rfl) (Nat.le_of_ble_eq_true rfl) (Nat.le_of_ble_eq_true rfl) rfl ?_
            rintro _ _ ⟨rfl, x24, rfl, hx24, hx24e⟩
            have bx24 : x24 = -1 ∨ (10 * ((2 * m) + 1) ≤ x24 ∧ x24 < 10 * ((2 * m) + 1) + 10) := by
              rcases hx24 with z | z
              · exact Or.inl z.1
              · exact Or.inr ⟨z.1, z.2.1⟩
            clear hx24
            show J_ zX11_isBanned T (po_X11_isBanned_f T p mx) 0 0 160 _ [vI x24] T
            refine c_160 x24 (wr_ (de - v)) ?_ ?_ ?_ ?_ ?_
            · omega
            · omega
            · first
              | exact rl9
              | (unfold rlR_; omega)
            · exact (slc_1 hx22e (by omega) hx24e).symm
            · rw [v1e]
          · refine rg_i (by omega) ?_
            refine hK 143 _ [vI p, vI (2 * m), vR 111 0] T ?_
            refine j_callV (y := yX11_slotOf) (Yc := zX11_slotOf) (rest := []) [vI (2 * m), vI p] (ct_X11_slotOf_e (T := T) (m := m) (s := 0) (by omega) ⟨by omega, by decide, by decide⟩) cl_X11_378 (qd_c (by decide +kernel)) (nn_ _) rfl (rf_of rfl) (Nat.le_of_ble_eq_true rfl) (Nat.le_of_ble_eq_true rfl) (Nat.le_of_ble_eq_true rfl) rfl ?_
            rintro _ _ ⟨rfl, x25, rfl, hx25, hx25e⟩
            have bx25 : x25 = -1 ∨ (10 * (2 * m) ≤ x25 ∧ x25 < 10 * (2 * m) + 10) := by
              rcases hx25 with z | z
              · exact Or.inl z.1
              · exact Or.inr ⟨z.1, z.2.1⟩
            clear hx25
            show J_ zX11_isBanned T (po_X11_isBanned_f T p mx) 0 0 146 _ [vI x25] T
            refine j_blx (F := fX11) tb_X11 (nn_ _) bk_X11_isBanned_f_146 bs_X11_isBanned_f_146 hz (fun K hK => ?_)
            refine hK 160 _ [vI x25] T ?_
            refine c_160 x25 (wr_ (de - v)) ?_ ?_ ?_ ?_ ?_
            · omega
            · omega
            · first
              | exact rl9
              | (unfold rlR_; omega)
            · exact (slc_0 hx25e (by omega)).symm
            · rw [v1e]
      have c_66 : ∀ (v : Int), (0 ≤ m ∧ m < 400 ∧ T 210 0 (T 230 0 mx) ≤ m ∧ m < T 210 0 (T 230 0 mx) + T 211 0 (T 230 0 mx) ∧ m ≠ -1) → (((T 235 0 m = 2 ∨ T 235 0 m = 3) ∧ v = co9_c T p (T 234 0 m)) ∨ (¬ (T 235 0 m = 2 ∨ T 235 0 m = 3) ∧ v = -1)) → (-1 ≤ v ∧ v ≤ 11) → J_ zX11_isBanned T (po_X11_isBanned_f T p mx) 0 0 66 [some (vR 111 0), some (vI p), some (vI mx), some (vI (T 230 0 mx)), some (vI de), some (vI ye), some (vI m), none, none, none] [vI v] T := by
        intro v m2 v66 v67
        have hdm9 : 0 ≤ T 234 0 m ∧ T 234 0 m ≤ 999 := bd_a hT 234 (by decide +kernel : ta_ 234 = some (1, some 400, 0, 999)) 0 (by omega)
        refine j_blx (F := fX11) tb_X11 (nn_ _) bk_X11_isBanned_f_66 bs_X11_isBanned_f_66 hz (fun K hK => ?_)
        refine And.intro (fun c26 => ?_) (fun c26 => ?_)
        · refine hK 248 [some (vR 111 0), some (vI p), some (vI mx), some (vI (T 230 0 mx)), some (vI de), some (vI ye), some (vI m), some (vI v), none, none] [] T ?_
          refine j_drop [some (vR 111 0), some (vI p), some (vI mx), some (vI (T 230 0 mx)), some (vI de), some (vI ye), some (vI m), none, none, none] (fun k v hk => ?_) rfl ?_
          · match k, hk with
            | 0, hk => exact hk
            | 1, hk => exact hk
            | 2, hk => exact hk
            | 3, hk => exact hk
            | 4, hk => exact hk
            | 5, hk => exact hk
            | 6, hk => exact hk
            | 7, hk => cases hk
            | 8, hk => cases hk
            | 9, hk => cases hk
            | k + 10, hk => cases hk
          refine c_248 de ye ?_ ?_
          · omega
          · have fk := fo (T 234 0 m * 400 + m) (fun _ => rfl) (fun z => absurd z (by omega))
            have nr : ¬ rlR_ T p m := fun z => by
              unfold rlR_ at z
              omega
            have g9 := bf_n (day := (fun m => T 234 0 m)) (rel := rlR_ T p) (st := (sbn_ (T 205 0 (23 * T 230 0 mx + 14)) (T 205 0 (23 * T 230 0 mx + 13)) (kdR_ T p) (yvR_ T p))) (f := T 210 0 (T 230 0 mx)) (n := T 211 0 (T 230 0 mx)) (m := m) (by omega) (by omega) hdm9.1 nr
            exact fk.trans g9.symm
        · refine ix_i (by omega) ?_
          intro b27 b27b
          refine And.intro (fun c28 => ?_) (fun c28 => ?_)
          · refine hK 98 [some (vR 111 0), some (vI p), some (vI mx), some (vI (T 230 0 mx)), some (vI de), some (vI ye), some (vI m), some (vI v), none, none] [] T ?_
            have rl9 : rlR_ T p m := by
              unfold rlR_
              omega
            refine j_blx (F := fX11) tb_X11 (nn_ _) bk_X11_isBanned_f_98 bs_X11_isBanned_f_98 hz (fun K hK => ?_)
            refine And.intro (fun c29 => ?_) (fun c29 => ?_)
            · refine hK 109 _ [vI de] T ?_
              refine j_blx (F := fX11) tb_X11 (nn_ _) bk_X11_isBanned_f_109 bs_X11_isBanned_f_109 hz (fun K hK => ?_)
              refine hK 110 _ [vI 0, vI de] T ?_
              refine j_drop [some (vR 111 0), some (vI p), some (vI mx), some (vI (T 230 0 mx)), some (vI de), some (vI ye), some (vI m), none, none, none] (fun k v hk => ?_) rfl ?_
              · match k, hk with
                | 0, hk => exact hk
                | 1, hk => exact hk
                | 2, hk => exact hk
                | 3, hk => exact hk
                | 4, hk => exact hk
                | 5, hk => exact hk
                | 6, hk => exact hk
                | 7, hk => cases hk
                | 8, hk => cases hk
                | 9, hk => cases hk
                | k + 10, hk => cases hk
              refine c_110 0 ?_ ?_ ?_
              · omega
              · first
                | exact rl9
                | (unfold rlR_; omega)
              · rw [cz_f (by omega)]
            · refine hK 110 [some (vR 111 0), some (vI p), some (vI mx), some (vI (T 230 0 mx)), some (vI de), some (vI ye), some (vI m), some (vI v), none, none] [vI 1, vI de] T ?_
              refine j_drop [some (vR 111 0), some (vI p), some (vI mx), some (vI (T 230 0 mx)), some (vI de), some (vI ye), some (vI m), none, none, none] (fun k v hk => ?_) rfl ?_
              · match k, hk with
                | 0, hk => exact hk
                | 1, hk => exact hk
                | 2, hk => exact hk
                | 3, hk => exact hk
                | 4, hk => exact hk
                | 5, hk => exact hk
                | 6, hk => exact hk
                | 7, hk => cases hk
                | 8, hk => cases hk
                | 9, hk => cases hk
                | k + 10, hk => cases hk
              refine c_110 1 ?_ ?_ ?_
              · omega
              · first
                | exact rl9
                | (unfold rlR_; omega)
              · rw [cz_t (by omega)]
          · refine ix_i (by omega) ?_
            intro b30 b30b
            refine And.intro (fun c31 => ?_) (fun c31 => ?_)
            · refine hK 248 _ [] T ?_
              refine j_drop [some (vR 111 0), some (vI p), some (vI mx), some (vI (T 230 0 mx)), some (vI de), some (vI ye), some (vI m), none, none, none] (fun k v hk => ?_) rfl ?_
              · match k, hk with
                | 0, hk => exact hk
                | 1, hk => exact hk
                | 2, hk => exact hk
                | 3, hk => exact hk
                | 4, hk => exact hk
                | 5, hk => exact hk
                | 6, hk => exact hk
                | 7, hk => cases hk
                | 8, hk => cases hk
                | 9, hk => cases hk
                | k + 10, hk => cases hk
              refine c_248 de ye ?_ ?_
              · omega
              · have fk := fo (T 234 0 m * 400 + m) (fun _ => rfl) (fun z => absurd z (by omega))
                have nr : ¬ rlR_ T p m := fun z => by
                  unfold rlR_ at z
                  omega
                have g9 := bf_n (day := (fun m => T 234 0 m)) (rel := rlR_ T p) (st := (sbn_ (T 205 0 (23 * T 230 0 mx + 14)) (T 205 0 (23 * T 230 0 mx + 13)) (kdR_ T p) (yvR_ T p))) (f := T 210 0 (T 230 0 mx)) (n := T 211 0 (T 230 0 mx)) (m := m) (by omega) (by omega) hdm9.1 nr
                exact fk.trans g9.symm
            · refine And.intro (fun c32 => ?_) (fun c32 => ?_)
              · refine hK 109 [some (vR 111 0), some (vI p), some (vI mx), some (vI (T 230 0 mx)), some (vI de), some (vI ye), some (vI m), some (vI v), none, none] [vI de] T ?_
                refine j_blx (F := fX11) tb_X11 (nn_ _) bk_X11_isBanned_f_109 bs_X11_isBanned_f_109 hz (fun K hK => ?_)
                refine hK 110 _ [vI 0, vI de] T ?_
                refine j_drop [some (vR 111 0), some (vI p), some (vI mx), some (vI (T 230 0 mx)), some (vI de), some (vI ye), some (vI m), none, none, none] (fun k v hk => ?_) rfl ?_
                · match k, hk with
                  | 0, hk => exact hk
                  | 1, hk => exact hk
                  | 2, hk => exact hk
                  | 3, hk => exact hk
                  | 4, hk => exact hk
                  | 5, hk => exact hk
                  | 6, hk => exact hk
                  | 7, hk => cases hk
                  | 8, hk => cases hk
                  | 9, hk => cases hk
                  | k + 10, hk => cases hk
                refine c_110 0 ?_ ?_ ?_
                · omega
                · first
                  | exact rl9
                  | (unfold rlR_; omega)
                · rw [cz_f (by omega)]
              · refine hK 110 [some (vR 111 0), some (vI p), some (vI mx), some (vI (T 230 0 mx)), some (vI de), some (vI ye), some (vI m), some (vI v), none, none] [vI 1, vI de] T ?_
                refine j_drop [some (vR 111 0), some (vI p), some (vI mx), some (vI (T 230 0 mx)), some (vI de), some (vI ye), some (vI m), none, none, none] (fun k v hk => ?_) rfl ?_
                · match k, hk with
                  | 0, hk => exact hk
                  | 1, hk => exact hk
                  | 2, hk => exact hk
                  | 3, hk => exact hk
                  | 4, hk => exact hk
                  | 5, hk => exact hk
                  | 6, hk => exact hk
                  | 7, hk => cases hk
                  | 8, hk => cases hk
                  | 9, hk => cases hk
                  | k + 10, hk => cases hk
                refine c_110 1 ?_ ?_ ?_
                · omega
                · first
                  | exact rl9
                  | (unfold rlR_; omega)
                · rw [cz_t (by omega)]
      refine j_blx (F := fX11) tb_X11 (nn_ _) bk_X11_isBanned_f_22 bs_X11_isBanned_f_22 hz (fun K hK => ?_)
      refine And.intro (fun c33 => ?_) (fun c33 => ?_)
      · refine hK 261 _ [] T ?_
        refine j_blx (F := fX11) tb_X11 (nn_ _) bk_X11_isBanned_f_261 bs_X11_isBanned_f_261 hz (fun K hK => ?_)
        refine And.intro (fun c34 => ?_) (fun c34 => ?_)
        · refine hK 270 _ [] T ?_
          refine j_blx (F := fX11) tb_X11 (nn_ _) bk_X11_isBanned_f_270 bs_X11_isBanned_f_270 hz (fun K hK => ?_)
          refine (show po_X11_isBanned_f T p mx T (some (vI 0)) from ?_)
          have fin := fo (T 234 0 mx * 400 + mx) (fun z => absurd (by omega) z) (fun _ => rfl)
          have eb : bnR_ T p mx = de := (congrArg Prod.fst fin).symm
          exact ⟨rfl, _, rfl, by rw [eb]; omega⟩
        · refine hK 271 _ [vI 1] T ?_
          refine j_blx (F := fX11) tb_X11 (nn_ _) bk_X11_isBanned_f_271 bs_X11_isBanned_f_271 hz (fun K hK => ?_)
          refine (show po_X11_isBanned_f T p mx T (some (vI 1)) from ?_)
          have fin := fo (T 234 0 mx * 400 + mx) (fun z => absurd (by omega) z) (fun _ => rfl)
          have eb : bnR_ T p mx = de := (congrArg Prod.fst fin).symm
          exact ⟨rfl, _, rfl, by rw [eb]; omega⟩
      · have hdm9 : 0 ≤ T 234 0 m ∧ T 234 0 m ≤ 999 := bd_a hT 234 (by decide +kernel : ta_ 234 = some (1, some 400, 0, 999)) 0 (by omega)
        refine ix_i (by omega) ?_
        intro b35 b35b
        refine And.intro (fun c36 => ?_) (fun c36 => ?_)
        · refine hK 50 _ [] T ?_
          refine j_blx (F := fX11) tb_X11 (nn_ _) bk_X11_isBanned_f_50 bs_X11_isBanned_f_50 hz (fun K hK => ?_)
          refine ix_i (by omega) ?_
          intro b37 b37b
          refine hK 59 _ [vI (T 234 0 m), vI p, vR 111 0] T ?_
          refine j_callV (y := yX11_clubOf) (Yc := zX11_clubOf) (rest := []) [vI p, vI (T 234 0 m)] (ct_X11_clubOf_e (T := T)) cl_X11_375 (qd_c (by decide +kernel)) (nn_ _) rfl (rf_of rfl) (Nat.le_of_ble_eq_true rfl) (Nat.le_of_ble_eq_true rfl) (Nat.le_of_ble_eq_true rfl) rfl ?_
          rintro _ _ ⟨rfl, x38, rfl, hx38⟩
          have bx38 := cnn_b hT (p := p) (d := (T 234 0 m)) (T 111 0 16).toNat
          have gx38 : -1 ≤ co9_c T p (T 234 0 m) ∧ co9_c T p (T 234 0 m) ≤ 11 := bx38
          show J_ zX11_isBanned T (po_X11_isBanned_f T p mx) 0 0 62 _ [vI x38] T
          refine j_blx (F := fX11) tb_X11 (nn_ _) bk_X11_isBanned_f_62 bs_X11_isBanned_f_62 hz (fun K hK => ?_)
          refine hK 66 _ [vI x38] T ?_
          refine c_66 x38 ?_ ?_ ?_
          · omega
          · omega
          · omega
        · refine ix_i (by omega) ?_
          intro b39 b39b
          refine And.intro (fun c40 => ?_) (fun c40 => ?_)
          · refine hK 65 _ [] T ?_
            refine j_blx (F := fX11) tb_X11 (nn_ _) bk_X11_isBanned_f_65 bs_X11_isBanned_f_65 hz (fun K hK => ?_)
            refine hK 66 _ [vI (-1)] T ?_
            refine c_66 (-1) ?_ ?_ ?_
            · omega
            · omega
            · omega
          · refine ix_i (by omega) ?_
            intro b41 b41b
            refine hK 59 _ [vI (T 234 0 m), vI p, vR 111 0] T ?_
            refine j_callV (y := yX11_clubOf) (Yc := zX11_clubOf) (rest := []) [vI p, vI (T 234 0 m)] (ct_X11_clubOf_e (T := T)) cl_X11_375 (qd_c (by decide +kernel)) (nn_ _) rfl (rf_of rfl) (Nat.le_of_ble_eq_true rfl) (Nat.le_of_ble_eq_true rfl) (Nat.le_of_ble_eq_true rfl) rfl ?_
            rintro _ _ ⟨rfl, x42, rfl, hx42⟩
            have bx42 := cnn_b hT (p := p) (d := (T 234 0 m)) (T 111 0 16).toNat
            have gx42 : -1 ≤ co9_c T p (T 234 0 m) ∧ co9_c T p (T 234 0 m) ≤ 11 := bx42
            show J_ zX11_isBanned T (po_X11_isBanned_f T p mx) 0 0 62 _ [vI x42] T
            refine j_blx (F := fX11) tb_X11 (nn_ _) bk_X11_isBanned_f_62 bs_X11_isBanned_f_62 hz (fun K hK => ?_)
            refine hK 66 _ [vI x42] T ?_
            refine c_66 x42 ?_ ?_ ?_
            · omega
            · omega
            · omega
  refine j_blx (F := fX11) tb_X11 (nn_ _) bk_X11_isBanned_f_0 bs_X11_isBanned_f_0 hz (fun K hK => ?_)
  refine ix_i (by omega) ?_
  intro b43 b43b
  refine hK 17 [some (vR 111 0), some (vI p), some (vI mx), some (vI (T 230 0 mx)), some (vI 0), some (vI 0), none, none, none, none] [vI mx, vI (-1), vI (T 230 0 mx), vR 111 0] T ?_
  refine j_callV (y := yX11_nextMatch) (Yc := zX11_nextMatch) (rest := []) [vI (T 230 0 mx), vI (-1), vI mx] (ct_X11_nextMatch_f (T := T) (by omega) (by omega) (by omega) (by omega)) cl_X11_371 (qd_c (by decide +kernel)) (nn_ _) rfl (rf_of rfl) (Nat.le_of_ble_eq_true rfl) (Nat.le_of_ble_eq_true rfl) (Nat.le_of_ble_eq_true rfl) rfl ?_
  rintro _ _ ⟨rfl, x44, rfl, hx44, nx44⟩
  show J_ zX11_isBanned T (po_X11_isBanned_f T p mx) 0 0 20 _ [vI x44] T
  refine j_blx (F := fX11) tb_X11 (nn_ _) bk_X11_isBanned_f_20 bs_X11_isBanned_f_20 hz (fun K hK => ?_)
  refine hK 22 [some (vR 111 0), some (vI p), some (vI mx), some (vI (T 230 0 mx)), some (vI 0), some (vI 0), some (vI x44), none, none, none] [] T ?_
  refine c_22 _ 0 0 x44 (Nat.le_refl _) ?_ ?_ ?_
  · omega
  · rcases nx44 with y | y
    · exact Or.inl y.1
    · exact Or.inr ⟨y.1.1, y.1.2.1, y.1.2.2.2⟩
  · intro B a b
    have nn9 := nx44
    rw [cz_t rfl] at nn9
    have bp9 : 0 ≤ B := by
      by_cases z : x44 = -1
      · rw [b z]; omega
      · rw [a z]; have := bd_a hT 234 (by decide +kernel : ta_ 234 = some (1, some 400, 0, 999)) 0 (show (0 : Int) ≤ x44 by omega); omega
    rw [bf_i (A := 0) (B := B) (by omega) bp9 (fun m9 a1 a2 a3 a4 a5 => bn_0 nn9 (by omega) a b a1 a2 (show (-1 : Int) < T 234 0 m9 * 400 + m9 from by have a6 : (0 : Int) ≤ T 234 0 m9 * 400 + m9 := a4; omega) a5)]
    rfl
