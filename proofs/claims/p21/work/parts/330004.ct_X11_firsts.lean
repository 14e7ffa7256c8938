theorem he_f {T T1 : Zt} {c v : Int} (h : HE_ T c v) (a : ∀ j, T1 208 0 j = T 208 0 j) (b : ∀ j, T1 207 0 j = T 207 0 j) : HE_ T1 c v := by
  obtain ⟨j, p, q, r⟩ := h
  exact ⟨j, p, by rw [a]; exact q, by rw [b]; exact r⟩
abbrev cX11_firsts : ByteArray := prog_13_method_110_code
def yX11_firsts : MethodName := ⟨RX11, "firsts", "(II)I"⟩
def zX11_firsts : Zm := (RX11, cX11_firsts, 9, (some .int), { frames := 5, cells := 0, slots := 0, locals := 128 })
theorem bk_X11_firsts_151 : ck_ fX11 (some .int) cX11_firsts 151 [.iload 8, .iload 3, .if_icmp .ge 185, .aload 0, .tableswitch 0 11 81 #[], .aload 0, .tableswitch 0 11 97 #[], .iload 8, .iaload, .iload 7, .iconst 3, .irem, .iastore, .iload 7, .iconst 3, .idiv, .istore 7, .iinc 8 1, .goto 151] 185 = true := qck_r (nn_ _) (by decide +kernel)
theorem bs_X11_firsts_151 {P : Zt → Option Zv → Prop} (K : Int → Zl → List Zv → Zt → Prop) : sx_ K P [.iload 8, .iload 3, .if_icmp .ge 185, .aload 0, .tableswitch 0 11 81 #[], .aload 0, .tableswitch 0 11 97 #[], .iload 8, .iaload, .iload 7, .iconst 3, .irem, .iastore, .iload 7, .iconst 3, .idiv, .istore 7, .iinc 8 1, .goto 151] 185 = x_iload 8 (x_iload 3 (x_if_icmp .ge 185 K (x_aload 0 (x_g1 111 281 (x_aload 0 (x_g1 111 297 (x_iload 8 (x_iaload (x_iload 7 (x_iconst 3 (x_irem (x_iastore (x_iload 7 (x_iconst 3 (x_idiv (x_istore 7 (x_iinc 8 1 (x_goto 151 K)))))))))))))))))) := ((xe_iload 8).trans (congrArg (x_iload 8) ((xe_iload 3).trans (congrArg (x_iload 3) ((xe_if_icmp .ge 185).trans (congrArg (x_if_icmp .ge 185 K) ((xe_aload 0).trans (congrArg (x_aload 0) ((xe_g1 (kk := 111) rfl tl_11_81).trans (congrArg (x_g1 111 281) ((xe_aload 0).trans (congrArg (x_aload 0) ((xe_g1 (kk := 111) rfl tl_11_97).trans (congrArg (x_g1 111 297) ((xe_iload 8).trans (congrArg (x_iload 8) ((xe_iaload).trans (congrArg (x_iaload) ((xe_iload 7).trans (congrArg (x_iload 7) ((xe_iconst 3).trans (congrArg (x_iconst 3) ((xe_irem).trans (congrArg (x_irem) ((xe_iastore).trans (congrArg (x_iastore) ((xe_iload 7).trans (congrArg (x_iload 7) ((xe_iconst 3).trans (congrArg (x_iconst 3) ((xe_idiv).trans (congrArg (x_idiv) ((xe_istore 7).trans (congrArg (x_istore 7) ((xe_iinc 8 1).trans (congrArg (x_iinc 8 1) (xe_goto 151)))))))))))))))))))))))))))))))))))))
theorem bk_X11_firsts_185 : ck_ fX11 (some .int) cX11_firsts 185 [.aload 0, .iload 1, .iconst 999] 190 = true := qck_r (nn_ _) (by decide +kernel)
theorem bs_X11_firsts_185 {P : Zt → Option Zv → Prop} (K : Int → Zl → List Zv → Zt → Prop) : sx_ K P [.aload 0, .iload 1, .iconst 999] 190 = x_aload 0 (x_iload 1 (x_iconst 999 (K 190))) := ((xe_aload 0).trans (congrArg (x_aload 0) ((xe_iload 1).trans (congrArg (x_iload 1) ((xe_iconst 999).trans (congrArg (x_iconst 999) xe_nil))))))
theorem bk_X11_firsts_193 : ck_ fX11 (some .int) cX11_firsts 193 [.iload 5, .aload 0, .iload 2] 197 = true := qck_r (nn_ _) (by decide +kernel)
theorem bs_X11_firsts_193 {P : Zt → Option Zv → Prop} (K : Int → Zl → List Zv → Zt → Prop) : sx_ K P [.iload 5, .aload 0, .iload 2] 197 = x_iload 5 (x_aload 0 (x_iload 2 (K 197))) := ((xe_iload 5).trans (congrArg (x_iload 5) ((xe_aload 0).trans (congrArg (x_aload 0) ((xe_iload 2).trans (congrArg (x_iload 2) xe_nil))))))
theorem bk_X11_firsts_200 : ck_ fX11 (some .int) cX11_firsts 200 [.iconst 1, .if_icmp .ne 208, .iconst 1, .goto 209] 208 = true := qck_r (nn_ _) (by decide +kernel)
theorem bs_X11_firsts_200 {P : Zt → Option Zv → Prop} (K : Int → Zl → List Zv → Zt → Prop) : sx_ K P [.iconst 1, .if_icmp .ne 208, .iconst 1, .goto 209] 208 = x_iconst 1 (x_if_icmp .ne 208 K (x_iconst 1 (x_goto 209 K))) := ((xe_iconst 1).trans (congrArg (x_iconst 1) ((xe_if_icmp .ne 208).trans (congrArg (x_if_icmp .ne 208 K) ((xe_iconst 1).trans (congrArg (x_iconst 1) (xe_goto 209)))))))
theorem bk_X11_firsts_208 : ck_ fX11 (some .int) cX11_firsts 208 [.iconst 0, .fadd, .istore 5, .iinc 6 1, .goto 137] 218 = true := qck_r (nn_ _) (by decide +kernel)
theorem bs_X11_firsts_208 {P : Zt → Option Zv → Prop} (K : Int → Zl → List Zv → Zt → Prop) : sx_ K P [.iconst 0, .fadd, .istore 5, .iinc 6 1, .goto 137] 218 = x_iconst 0 (x_fadd (x_istore 5 (x_iinc 6 1 (x_goto 137 K)))) := ((xe_iconst 0).trans (congrArg (x_iconst 0) ((xe_fadd).trans (congrArg (x_fadd) ((xe_istore 5).trans (congrArg (x_istore 5) ((xe_iinc 6 1).trans (congrArg (x_iinc 6 1) (xe_goto 137)))))))))
theorem bk_X11_firsts_209 : ck_ fX11 (some .int) cX11_firsts 209 [.fadd, .istore 5, .iinc 6 1, .goto 137] 218 = true := qck_r (nn_ _) (by decide +kernel)
theorem bs_X11_firsts_209 {P : Zt → Option Zv → Prop} (K : Int → Zl → List Zv → Zt → Prop) : sx_ K P [.fadd, .istore 5, .iinc 6 1, .goto 137] 218 = x_fadd (x_istore 5 (x_iinc 6 1 (x_goto 137 K))) := ((xe_fadd).trans (congrArg (x_fadd) ((xe_istore 5).trans (congrArg (x_istore 5) ((xe_iinc 6 1).trans (congrArg (x_iinc 6 1) (xe_goto 137)))))))
theorem bk_X11_firsts_137 : ck_ fX11 (some .int) cX11_firsts 137 [.iload 6, .iload 4, .if_icmp .ge 218, .iload 6, .istore 7, .iconst 0, .istore 8] 151 = true := qck_r (nn_ _) (by decide +kernel)
theorem bs_X11_firsts_137 {P : Zt → Option Zv → Prop} (K : Int → Zl → List Zv → Zt → Prop) : sx_ K P [.iload 6, .iload 4, .if_icmp .ge 218, .iload 6, .istore 7, .iconst 0, .istore 8] 151 = x_iload 6 (x_iload 4 (x_if_icmp .ge 218 K (x_iload 6 (x_istore 7 (x_iconst 0 (x_istore 8 (K 151))))))) := ((xe_iload 6).trans (congrArg (x_iload 6) ((xe_iload 4).trans (congrArg (x_iload 4) ((xe_if_icmp .ge 218).trans (congrArg (x_if_icmp .ge 218 K) ((xe_iload 6).trans (congrArg (x_iload 6) ((xe_istore 7).trans (congrArg (x_istore 7) ((xe_iconst 0).trans (congrArg (x_iconst 0) ((xe_istore 8).trans (congrArg (x_istore 8) xe_nil))))))))))))))
theorem bk_X11_firsts_218 : ck_ fX11 (some .int) cX11_firsts 218 [.aload 0, .iconst 0, .tableswitch 1 11 80 #[], .iload 5, .ireturn] 226 = true := qck_r (nn_ _) (by decide +kernel)
theorem bs_X11_firsts_218 {P : Zt → Option Zv → Prop} (K : Int → Zl → List Zv → Zt → Prop) : sx_ K P [.aload 0, .iconst 0, .tableswitch 1 11 80 #[], .iload 5, .ireturn] 226 = x_aload 0 (x_iconst 0 (x_p 111 80 0 1 (x_iload 5 (x_ireturn P)))) := ((xe_aload 0).trans (congrArg (x_aload 0) ((xe_iconst 0).trans (congrArg (x_iconst 0) ((xe_p (kk := 111) rfl tl_11_80).trans (congrArg (x_p 111 80 0 1) ((xe_iload 5).trans (congrArg (x_iload 5) (xe_ireturn)))))))))
theorem bk_X11_firsts_59 : ck_ fX11 (some .int) cX11_firsts 59 [.iload 5, .aload 0, .tableswitch 0 11 10 #[], .iload 1, .iaload, .aload 0, .tableswitch 0 11 11 #[], .iload 1, .iaload, .iadd, .if_icmp .ge 119, .aload 0, .iload 5] 80 = true := qck_r (nn_ _) (by decide +kernel)
theorem bs_X11_firsts_59 {P : Zt → Option Zv → Prop} (K : Int → Zl → List Zv → Zt → Prop) : sx_ K P [.iload 5, .aload 0, .tableswitch 0 11 10 #[], .iload 1, .iaload, .aload 0, .tableswitch 0 11 11 #[], .iload 1, .iaload, .iadd, .if_icmp .ge 119, .aload 0, .iload 5] 80 = x_iload 5 (x_aload 0 (x_g1 111 210 (x_iload 1 (x_iaload (x_aload 0 (x_g1 111 211 (x_iload 1 (x_iaload (x_iadd (x_if_icmp .ge 119 K (x_aload 0 (x_iload 5 (K 80))))))))))))) := ((xe_iload 5).trans (congrArg (x_iload 5) ((xe_aload 0).trans (congrArg (x_aload 0) ((xe_g1 (kk := 111) rfl tl_11_10).trans (congrArg (x_g1 111 210) ((xe_iload 1).trans (congrArg (x_iload 1) ((xe_iaload).trans (congrArg (x_iaload) ((xe_aload 0).trans (congrArg (x_aload 0) ((xe_g1 (kk := 111) rfl tl_11_11).trans (congrArg (x_g1 111 211) ((xe_iload 1).trans (congrArg (x_iload 1) ((xe_iaload).trans (congrArg (x_iaload) ((xe_iadd).trans (congrArg (x_iadd) ((xe_if_icmp .ge 119).trans (congrArg (x_if_icmp .ge 119 K) ((xe_aload 0).trans (congrArg (x_aload 0) ((xe_iload 5).trans (congrArg (x_iload 5) xe_nil))))))))))))))))))))))))))
theorem bk_X11_firsts_119 : ck_ fX11 (some .int) cX11_firsts 119 [.iload 3, .iconst 3, .if_icmp .le 126, .iconst (-1), .ireturn] 126 = true := qck_r (nn_ _) (by decide +kernel)
theorem bs_X11_firsts_119 {P : Zt → Option Zv → Prop} (K : Int → Zl → List Zv → Zt → Prop) : sx_ K P [.iload 3, .iconst 3, .if_icmp .le 126, .iconst (-1), .ireturn] 126 = x_iload 3 (x_iconst 3 (x_if_icmp .le 126 K (x_iconst (-1) (x_ireturn P)))) := ((xe_iload 3).trans (congrArg (x_iload 3) ((xe_iconst 3).trans (congrArg (x_iconst 3) ((xe_if_icmp .le 126).trans (congrArg (x_if_icmp .le 126 K) ((xe_iconst (-1)).trans (congrArg (x_iconst (-1)) (xe_ireturn)))))))))
theorem bk_X11_firsts_126 : ck_ fX11 (some .int) cX11_firsts 126 [.iconst 0, .istore 5, .aload 0, .iconst 1, .tableswitch 1 11 80 #[], .iconst 0, .istore 6] 137 = true := qck_r (nn_ _) (by decide +kernel)
theorem bs_X11_firsts_126 {P : Zt → Option Zv → Prop} (K : Int → Zl → List Zv → Zt → Prop) : sx_ K P [.iconst 0, .istore 5, .aload 0, .iconst 1, .tableswitch 1 11 80 #[], .iconst 0, .istore 6] 137 = x_iconst 0 (x_istore 5 (x_aload 0 (x_iconst 1 (x_p 111 80 0 1 (x_iconst 0 (x_istore 6 (K 137))))))) := ((xe_iconst 0).trans (congrArg (x_iconst 0) ((xe_istore 5).trans (congrArg (x_istore 5) ((xe_aload 0).trans (congrArg (x_aload 0) ((xe_iconst 1).trans (congrArg (x_iconst 1) ((xe_p (kk := 111) rfl tl_11_80).trans (congrArg (x_p 111 80 0 1) ((xe_iconst 0).trans (congrArg (x_iconst 0) ((xe_istore 6).trans (congrArg (x_istore 6) xe_nil))))))))))))))
theorem bk_X11_firsts_83 : ck_ fX11 (some .int) cX11_firsts 83 [.ifCond .eq 113, .aload 0, .tableswitch 0 11 97 #[], .iload 3, .iload 5, .iastore, .iinc 3 1, .iload 3, .iconst 3, .if_icmp .le 107, .iload 4, .goto 111] 107 = true := qck_r (nn_ _) (by decide +kernel)
theorem bs_X11_firsts_83 {P : Zt → Option Zv → Prop} (K : Int → Zl → List Zv → Zt → Prop) : sx_ K P [.ifCond .eq 113, .aload 0, .tableswitch 0 11 97 #[], .iload 3, .iload 5, .iastore, .iinc 3 1, .iload 3, .iconst 3, .if_icmp .le 107, .iload 4, .goto 111] 107 = x_ifCond .eq 113 K (x_aload 0 (x_g1 111 297 (x_iload 3 (x_iload 5 (x_iastore (x_iinc 3 1 (x_iload 3 (x_iconst 3 (x_if_icmp .le 107 K (x_iload 4 (x_goto 111 K))))))))))) := ((xe_ifCond .eq 113).trans (congrArg (x_ifCond .eq 113 K) ((xe_aload 0).trans (congrArg (x_aload 0) ((xe_g1 (kk := 111) rfl tl_11_97).trans (congrArg (x_g1 111 297) ((xe_iload 3).trans (congrArg (x_iload 3) ((xe_iload 5).trans (congrArg (x_iload 5) ((xe_iastore).trans (congrArg (x_iastore) ((xe_iinc 3 1).trans (congrArg (x_iinc 3 1) ((xe_iload 3).trans (congrArg (x_iload 3) ((xe_iconst 3).trans (congrArg (x_iconst 3) ((xe_if_icmp .le 107).trans (congrArg (x_if_icmp .le 107 K) ((xe_iload 4).trans (congrArg (x_iload 4) (xe_goto 111)))))))))))))))))))))))
theorem bk_X11_firsts_113 : ck_ fX11 (some .int) cX11_firsts 113 [.iinc 5 1, .goto 59] 119 = true := qck_r (nn_ _) (by decide +kernel)
theorem bs_X11_firsts_113 {P : Zt → Option Zv → Prop} (K : Int → Zl → List Zv → Zt → Prop) : sx_ K P [.iinc 5 1, .goto 59] 119 = x_iinc 5 1 (x_goto 59 K) := ((xe_iinc 5 1).trans (congrArg (x_iinc 5 1) (xe_goto 59)))
theorem bk_X11_firsts_107 : ck_ fX11 (some .int) cX11_firsts 107 [.iconst 3, .iload 4, .fmul, .istore 4, .iinc 5 1, .goto 59] 119 = true := qck_r (nn_ _) (by decide +kernel)
theorem bs_X11_firsts_107 {P : Zt → Option Zv → Prop} (K : Int → Zl → List Zv → Zt → Prop) : sx_ K P [.iconst 3, .iload 4, .fmul, .istore 4, .iinc 5 1, .goto 59] 119 = x_iconst 3 (x_iload 4 (x_fmul (x_istore 4 (x_iinc 5 1 (x_goto 59 K))))) := ((xe_iconst 3).trans (congrArg (x_iconst 3) ((xe_iload 4).trans (congrArg (x_iload 4) ((xe_fmul).trans (congrArg (x_fmul) ((xe_istore 4).trans (congrArg (x_istore 4) ((xe_iinc 5 1).trans (congrArg (x_iinc 5 1) (xe_goto 59)))))))))))
theorem bk_X11_firsts_111 : ck_ fX11 (some .int) cX11_firsts 111 [.istore 4, .iinc 5 1, .goto 59] 119 = true := qck_r (nn_ _) (by decide +kernel)
theorem bs_X11_firsts_111 {P : Zt → Option Zv → Prop} (K : Int → Zl → List Zv → Zt → Prop) : sx_ K P [.istore 4, .iinc 5 1, .goto 59] 119 = x_istore 4 (x_iinc 5 1 (x_goto 59 K)) := ((xe_istore 4).trans (congrArg (x_istore 4) ((xe_iinc 5 1).trans (congrArg (x_iinc 5 1) (xe_goto 59)))))
theorem bk_X11_firsts_0 : ck_ fX11 (some .int) cX11_firsts 0 [.iload 1, .aload 0, .tableswitch 0 11 6 #[]] 5 = true := qck_r (nn_ _) (by decide +kernel)
theorem bs_X11_firsts_0 {P : Zt → Option Zv → Prop} (K : Int → Zl → List Zv → Zt → Prop) : sx_ K P [.iload 1, .aload 0, .tableswitch 0 11 6 #[]] 5 = x_iload 1 (x_aload 0 (x_g0 111 6 0 4 (K 5))) := ((xe_iload 1).trans (congrArg (x_iload 1) ((xe_aload 0).trans (congrArg (x_aload 0) ((xe_g0 (kk := 111) rfl tl_11_6).trans (congrArg (x_g0 111 6 0 4) xe_nil))))))
theorem bk_X11_firsts_8 : ck_ fX11 (some .int) cX11_firsts 8 [.ifCond .eq 22, .iload 2, .aload 0, .tableswitch 0 11 12 #[]] 16 = true := qck_r (nn_ _) (by decide +kernel)
theorem bs_X11_firsts_8 {P : Zt → Option Zv → Prop} (K : Int → Zl → List Zv → Zt → Prop) : sx_ K P [.ifCond .eq 22, .iload 2, .aload 0, .tableswitch 0 11 12 #[]] 16 = x_ifCond .eq 22 K (x_iload 2 (x_aload 0 (x_g0 111 12 0 12 (K 16)))) := ((xe_ifCond .eq 22).trans (congrArg (x_ifCond .eq 22 K) ((xe_iload 2).trans (congrArg (x_iload 2) ((xe_aload 0).trans (congrArg (x_aload 0) ((xe_g0 (kk := 111) rfl tl_11_12).trans (congrArg (x_g0 111 12 0 12) xe_nil))))))))
theorem bk_X11_firsts_22 : ck_ fX11 (some .int) cX11_firsts 22 [.iconst (-2), .ireturn] 25 = true := qck_r (nn_ _) (by decide +kernel)
theorem bs_X11_firsts_22 {P : Zt → Option Zv → Prop} (K : Int → Zl → List Zv → Zt → Prop) : sx_ K P [.iconst (-2), .ireturn] 25 = x_iconst (-2) (x_ireturn P) := ((xe_iconst (-2)).trans (congrArg (x_iconst (-2)) (xe_ireturn)))
theorem bk_X11_firsts_19 : ck_ fX11 (some .int) cX11_firsts 19 [.ifCond .ne 25, .iconst (-2), .ireturn] 25 = true := qck_r (nn_ _) (by decide +kernel)
theorem bs_X11_firsts_19 {P : Zt → Option Zv → Prop} (K : Int → Zl → List Zv → Zt → Prop) : sx_ K P [.ifCond .ne 25, .iconst (-2), .ireturn] 25 = x_ifCond .ne 25 K (x_iconst (-2) (x_ireturn P)) := ((xe_ifCond .ne 25).trans (congrArg (x_ifCond .ne 25 K) ((xe_iconst (-2)).trans (congrArg (x_iconst (-2)) (xe_ireturn)))))
theorem bk_X11_firsts_25 : ck_ fX11 (some .int) cX11_firsts 25 [.aload 0, .tableswitch 0 11 9 #[], .iload 1, .baload, .ifCond .eq 43, .aload 0, .iload 1, .iload 2] 37 = true := qck_r (nn_ _) (by decide +kernel)
theorem bs_X11_firsts_25 {P : Zt → Option Zv → Prop} (K : Int → Zl → List Zv → Zt → Prop) : sx_ K P [.aload 0, .tableswitch 0 11 9 #[], .iload 1, .baload, .ifCond .eq 43, .aload 0, .iload 1, .iload 2] 37 = x_aload 0 (x_g1 111 209 (x_iload 1 (x_baload (x_ifCond .eq 43 K (x_aload 0 (x_iload 1 (x_iload 2 (K 37)))))))) := ((xe_aload 0).trans (congrArg (x_aload 0) ((xe_g1 (kk := 111) rfl tl_11_9).trans (congrArg (x_g1 111 209) ((xe_iload 1).trans (congrArg (x_iload 1) ((xe_baload).trans (congrArg (x_baload) ((xe_ifCond .eq 43).trans (congrArg (x_ifCond .eq 43 K) ((xe_aload 0).trans (congrArg (x_aload 0) ((xe_iload 1).trans (congrArg (x_iload 1) ((xe_iload 2).trans (congrArg (x_iload 2) xe_nil))))))))))))))))
theorem bk_X11_firsts_43 : ck_ fX11 (some .int) cX11_firsts 43 [.iconst (-4), .ireturn] 46 = true := qck_r (nn_ _) (by decide +kernel)
theorem bs_X11_firsts_43 {P : Zt → Option Zv → Prop} (K : Int → Zl → List Zv → Zt → Prop) : sx_ K P [.iconst (-4), .ireturn] 46 = x_iconst (-4) (x_ireturn P) := ((xe_iconst (-4)).trans (congrArg (x_iconst (-4)) (xe_ireturn)))
theorem bk_X11_firsts_40 : ck_ fX11 (some .int) cX11_firsts 40 [.ifCond .ne 46, .iconst (-4), .ireturn] 46 = true := qck_r (nn_ _) (by decide +kernel)
theorem bs_X11_firsts_40 {P : Zt → Option Zv → Prop} (K : Int → Zl → List Zv → Zt → Prop) : sx_ K P [.ifCond .ne 46, .iconst (-4), .ireturn] 46 = x_ifCond .ne 46 K (x_iconst (-4) (x_ireturn P)) := ((xe_ifCond .ne 46).trans (congrArg (x_ifCond .ne 46 K) ((xe_iconst (-4)).trans (congrArg (x_iconst (-4)) (xe_ireturn)))))
theorem bk_X11_firsts_46 : ck_ fX11 (some .int) cX11_firsts 46 [.iconst 0, .istore 3, .iconst 1, .istore 4, .aload 0, .tableswitch 0 11 10 #[], .iload 1, .iaload, .istore 5] 59 = true := qck_r (nn_ _) (by decide +kernel)
theorem bs_X11_firsts_46 {P : Zt → Option Zv → Prop} (K : Int → Zl → List Zv → Zt → Prop) : sx_ K P [.iconst 0, .istore 3, .iconst 1, .istore 4, .aload 0, .tableswitch 0 11 10 #[], .iload 1, .iaload, .istore 5] 59 = x_iconst 0 (x_istore 3 (x_iconst 1 (x_istore 4 (x_aload 0 (x_g1 111 210 (x_iload 1 (x_iaload (x_istore 5 (K 59))))))))) := ((xe_iconst 0).trans (congrArg (x_iconst 0) ((xe_istore 3).trans (congrArg (x_istore 3) ((xe_iconst 1).trans (congrArg (x_iconst 1) ((xe_istore 4).trans (congrArg (x_istore 4) ((xe_aload 0).trans (congrArg (x_aload 0) ((xe_g1 (kk := 111) rfl tl_11_10).trans (congrArg (x_g1 111 210) ((xe_iload 1).trans (congrArg (x_iload 1) ((xe_iaload).trans (congrArg (x_iaload) ((xe_istore 5).trans (congrArg (x_istore 5) xe_nil))))))))))))))))))
abbrev po_X11_firsts (T : Zt) (c cl : Int) : Zt → Option Zv → Prop := fun T' r => ∃ x : Int, r = some (vI x) ∧ fr_ [(276, []), (284, []), (277, []), (286, []), (278, []), (297, []), (281, []), (111, [82, 83, 85, 87, 79, 80])] T T' ∧ (True)
set_option maxHeartbeats 4000000 in
theorem ct_X11_firsts {T : Zt} {c cl : Int} (hri : RI_ T) (hml : ML_ T) (hsc : SC_ T) (hyb : YB_ T) : Ct_ yX11_firsts zX11_firsts T [vR 111 0, vI c, vI cl] (po_X11_firsts T c cl) := by
  refine ct_of pn_11 rfl rfl (Nat.le_of_ble_eq_true rfl) (fun hT hav => ?_)
  have hr_c : -2147483648 ≤ c ∧ c ≤ 2147483647 := hav (vI c) (List.mem_cons_of_mem _ List.mem_cons_self)
  have hr_cl : -2147483648 ≤ cl ∧ cl ≤ 2147483647 := hav (vI cl) (List.mem_cons_of_mem _ (List.mem_cons_of_mem _ List.mem_cons_self))
  have hz : zX11_firsts.2.2.2.1 = some .boolean → ∀ (T' : Zt) (x : Int), po_X11_firsts T c cl T' (some (vI x)) → 0 ≤ x ∧ x ≤ 1 := fun h => by cases h
  have hb_6 : 0 ≤ T 111 0 6 ∧ T 111 0 6 ≤ 4 := bd_f hT 111 6 tl_11_6 0
  have hb_12 : 0 ≤ T 111 0 12 ∧ T 111 0 12 ≤ 12 := bd_f hT 111 12 tl_11_12 0
  have hb_29 : 0 ≤ T 111 0 29 ∧ T 111 0 29 ≤ 400 := bd_f hT 111 29 tl_11_29 0
  show J_ zX11_firsts T (po_X11_firsts T c cl) 0 0 0 [some (vR 111 0), some (vI c), some (vI cl), none, none, none, none, none, none] [] T
  have c_137 : ∀ (nn : Nat) (mn : Int) (al : Int) (fi : Int) (r : Int) (T2 : Zt), ((al - r).toNat) ≤ nn → (fr_ [(276, []), (284, []), (277, []), (286, []), (278, []), (297, []), (281, []), (111, [82, 83, 85, 87, 79, 80])] T T2) → (HE_ T c cl) → (0 ≤ c ∧ c < T 111 0 6) → (0 ≤ mn ∧ mn ≤ 3 ∧ 0 ≤ r ∧ al ≤ 2147483647) → J_ zX11_firsts T (po_X11_firsts T c cl) 0 0 137 [some (vR 111 0), some (vI c), some (vI cl), some (vI mn), some (vI al), some (vI fi), some (vI r), none, none] [] T2 := by
    intro nn
    induction nn using Nat.strongRecOn with
    | _ nn ih_137 =>
      intro mn al fi r T2 hm_137 hf_137 he cc i2
      replace hm_137 := fun (_ : Unit) => hm_137
      have c_151 : ∀ (nn : Nat) (re : Int) (k : Int) (T3 : Zt), ((mn - k).toNat) ≤ nn → (fr_ [(276, []), (284, []), (277, []), (286, []), (278, []), (297, []), (281, []), (111, [82, 83, 85, 87, 79, 80])] T T3) → (0 ≤ re ∧ 0 ≤ k ∧ k ≤ mn ∧ r < al) → J_ zX11_firsts T (po_X11_firsts T c cl) 0 0 151 [some (vR 111 0), some (vI c), some (vI cl), some (vI mn), some (vI al), some (vI fi), some (vI r), some (vI re), some (vI k)] [] T3 := by
        intro nn
        induction nn using Nat.strongRecOn with
        | _ nn ih_151 =>
          intro re k T3 hm_151 hf_151 i3
          replace hm_151 := fun (_ : Unit) => hm_151
          refine j_blx (F := fX11) tb_X11 (nn_ _) bk_X11_firsts_151 bs_X11_firsts_151 hz (fun K hK => ?_)
          refine And.intro (fun c1 => ?_) (fun c1 => ?_)
          · refine hK 185 _ [] T3 ?_
            refine j_blx (F := fX11) tb_X11 (nn_ _) bk_X11_firsts_185 bs_X11_firsts_185 hz (fun K hK => ?_)
            refine hK 190 _ [vI 999, vI c, vR 111 0] T3 ?_
            have e2 : T3 111 0 6 = T 111 0 6 := hf_151 111 0 6 rfl
            refine j_callV (y := yX11_orderAll) (Yc := zX11_orderAll) (rest := []) [vI c, vI 999] (ct_X11_orderAll (T := T3) (by omega) (RI__f (ws := [(276, []), (284, []), (277, []), (286, []), (278, []), (297, []), (281, []), (111, [82, 83, 85, 87, 79, 80])]) hri (fr_t (fr_0 _ _) (fr_s hf_151 rfl)) ⟨fun _ => rfl, rfl, trivial⟩) (ML__f (ws := [(276, []), (284, []), (277, []), (286, []), (278, []), (297, []), (281, []), (111, [82, 83, 85, 87, 79, 80])]) hml (fr_t (fr_0 _ _) (fr_s hf_151 rfl)) ⟨fun _ => rfl, fun _ => rfl, rfl, trivial⟩) (SC__f (ws := [(276, []), (284, []), (277, []), (286, []), (278, []), (297, []), (281, []), (111, [82, 83, 85, 87, 79, 80])]) hsc (fr_t (fr_0 _ _) (fr_s hf_151 rfl)) ⟨fun _ => rfl, fun _ => rfl, trivial⟩) (YB__f (ws := [(276, []), (284, []), (277, []), (286, []), (278, []), (297, []), (281, []), (111, [82, 83, 85, 87, 79, 80])]) hyb (fr_t (fr_0 _ _) (fr_s hf_151 rfl)) ⟨fun _ => rfl, trivial⟩)) cl_X11_532 (qd_c (by decide +kernel)) (nn_ _) rfl (rf_of rfl) (Nat.le_of_ble_eq_true rfl) (Nat.le_of_ble_eq_true rfl) (Nat.le_of_ble_eq_true rfl) rfl ?_
            rintro U3 _ ⟨rfl, fU3, ⟨qU3a, qU3b⟩⟩
            show J_ zX11_firsts T (po_X11_firsts T c cl) 0 0 193 _ [] U3
            refine j_blx (F := fX11) tb_X11 (nn_ _) bk_X11_firsts_193 bs_X11_firsts_193 hz (fun K hK => ?_)
            refine hK 197 _ [vI cl, vR 111 0, vI fi] U3 ?_
            refine j_callV (y := yX11_placeOf) (Yc := zX11_placeOf) (rest := [vI fi]) [vI cl] (ct_X11_placeOf (T := U3) (by exact qU3b cl (he_f he (fun j => hf_151 208 0 j rfl) (fun j => hf_151 207 0 j rfl)))) cl_X11_535 (qd_c (by decide +kernel)) (nn_ _) rfl (rf_of rfl) (Nat.le_of_ble_eq_true rfl) (Nat.le_of_ble_eq_true rfl) (Nat.le_of_ble_eq_true rfl) rfl ?_
            rintro _ _ ⟨rfl, x4, rfl, hx4⟩
            show J_ zX11_firsts T (po_X11_firsts T c cl) 0 0 200 _ [vI x4, vI fi] U3
            refine j_blx (F := fX11) tb_X11 (nn_ _) bk_X11_firsts_200 bs_X11_firsts_200 hz (fun K hK => ?_)
            refine And.intro (fun c5 => ?_) (fun c5 => ?_)
            · refine hK 208 _ [vI fi] U3 ?_
              refine j_blx (F := fX11) tb_X11 (nn_ _) bk_X11_firsts_208 bs_X11_firsts_208 hz (fun K hK => ?_)
              intro w6 w6b
              refine rg_i (by omega) ?_
              refine hK 137 [some (vR 111 0), some (vI c), some (vI cl), some (vI mn), some (vI al), some (vI (wr_ (fi + 0))), some (vI (r + 1)), some (vI re), some (vI k)] [] U3 ?_
              refine j_drop [some (vR 111 0), some (vI c), some (vI cl), some (vI mn), some (vI al), some (vI (wr_ (fi + 0))), some (vI (r + 1)), none, none] (fun k v hk => ?_) rfl ?_
              · match k, hk with
                | 0, hk => exact hk
                | 1, hk => exact hk
                | 2, hk => exact hk
                | 3, hk => exact hk
                | 4, hk => exact hk
                | 5, hk => exact hk
                | 6, hk => exact hk
                | 7, hk => cases hk
                | 8, hk => cases hk
                | k + 9, hk => cases hk
              refine ih_137 _ ?_ mn al (wr_ (fi + 0)) (r + 1) U3 (Nat.le_refl _) ?_ ?_ ?_ ?_
              · have hm_137 := hm_137 (); omega
              · exact fr_t (fr_t (fr_0 _ _) (fr_s hf_151 rfl)) (fr_s fU3 rfl)
              · exact he
              · omega
              · omega
            · refine hK 209 [some (vR 111 0), some (vI c), some (vI cl), some (vI mn), some (vI al), some (vI fi), some (vI r), some (vI re), some (vI k)] [vI 1, vI fi] U3 ?_
              refine j_blx (F := fX11) tb_X11 (nn_ _) bk_X11_firsts_209 bs_X11_firsts_209 hz (fun K hK => ?_)
              intro w7 w7b
              refine rg_i (by omega) ?_
              refine hK 137 [some (vR 111 0), some (vI c), some (vI cl), some (vI mn), some (vI al), some (vI (wr_ (fi + 1))), some (vI (r + 1)), some (vI re), some (vI k)] [] U3 ?_
              refine j_drop [some (vR 111 0), some (vI c), some (vI cl), some (vI mn), some (vI al), some (vI (wr_ (fi + 1))), some (vI (r + 1)), none, none] (fun k v hk => ?_) rfl ?_
              · match k, hk with
                | 0, hk => exact hk
                | 1, hk => exact hk
                | 2, hk => exact hk
                | 3, hk => exact hk
                | 4, hk => exact hk
                | 5, hk => exact hk
                | 6, hk => exact hk
                | 7, hk => cases hk
                | 8, hk => cases hk
                | k + 9, hk => cases hk
              refine ih_137 _ ?_ mn al (wr_ (fi + 1)) (r + 1) U3 (Nat.le_refl _) ?_ ?_ ?_ ?_
              · have hm_137 := hm_137 (); omega
              · exact fr_t (fr_t (fr_0 _ _) (fr_s hf_151 rfl)) (fr_s fU3 rfl)
              · exact he
              · omega
              · omega
          · refine ix_i (by omega) ?_
            intro b8 b8b
            refine dv_i (by omega) ?_
            refine iy_i (by omega) (by omega) ?_
            refine x_nm (fun U9 hU9 => ?_)
            have e10 := up_f hU9
            refine dv_i (by omega) ?_
            refine rg_i (by omega) ?_
            refine hK 151 [some (vR 111 0), some (vI c), some (vI cl), some (vI mn), some (vI al), some (vI fi), some (vI r), some (vI (re / 3)), some (vI (k + 1))] [] U9 ?_
            refine ih_151 _ ?_ (re / 3) (k + 1) U9 (Nat.le_refl _) ?_ ?_
            · have hm_151 := hm_151 (); omega
            · exact fr_u (fr_t (fr_0 _ _) (fr_s hf_151 rfl)) hU9 rfl
            · omega
      refine j_blx (F := fX11) tb_X11 (nn_ _) bk_X11_firsts_137 bs_X11_firsts_137 hz (fun K hK => ?_)
      refine And.intro (fun c11 => ?_) (fun c11 => ?_)
      · refine hK 218 _ [] T2 ?_
        refine j_blx (F := fX11) tb_X11 (nn_ _) bk_X11_firsts_218 bs_X11_firsts_218 hz (fun K hK => ?_)
        refine bd_i (by omega) ?_
        refine x_nm (fun U12 hU12 => ?_)
        have e13 := up_f hU12
        refine (show po_X11_firsts T c cl U12 (some (vI fi)) from ?_)
        exact ⟨_, rfl, fr_u (fr_t (fr_0 _ _) (fr_s hf_137 rfl)) hU12 rfl, by trivial⟩
      · refine hK 151 [some (vR 111 0), some (vI c), some (vI cl), some (vI mn), some (vI al), some (vI fi), some (vI r), some (vI r), some (vI 0)] [] T2 ?_
        refine c_151 _ r 0 T2 (Nat.le_refl _) ?_ ?_
        · exact fr_t (fr_0 _ _) (fr_s hf_137 rfl)
        · omega
  have c_59 : ∀ (nn : Nat) (mn : Int) (al : Int) (m : Int) (T1 : Zt), ((400 - m).toNat) ≤ nn → (fr_ [(297, [])] T T1) → (HE_ T c cl) → (0 ≤ c ∧ c < T 111 0 6) → (T 210 0 c ≤ m ∧ m ≤ T 210 0 c + T 211 0 c ∧ 0 ≤ mn ∧ mn ≤ m - T 210 0 c ∧ al ≤ 2147483647) → J_ zX11_firsts T (po_X11_firsts T c cl) 0 0 59 [some (vR 111 0), some (vI c), some (vI cl), some (vI mn), some (vI al), some (vI m), none, none, none] [] T1 := by
    intro nn
    induction nn using Nat.strongRecOn with
    | _ nn ih_59 =>
      intro mn al m T1 hm_59 hf_59 he cc i1
      replace hm_59 := fun (_ : Unit) => hm_59
      have hmc := hml c (by omega) (by omega)
      have hb_29 : 0 ≤ T 111 0 29 ∧ T 111 0 29 ≤ 400 := bd_f hT 111 29 tl_11_29 0
      have hfo : 0 ≤ T 210 0 c ∧ T 210 0 c ≤ 400 := bd_a hT 210 (by decide +kernel : ta_ 210 = some (1, some 4, 0, 400)) 0 (by omega)
      have hmo : 0 ≤ T 211 0 c ∧ T 211 0 c ≤ 400 := bd_a hT 211 (by decide +kernel : ta_ 211 = some (1, some 4, 0, 400)) 0 (by omega)
      refine j_blx (F := fX11) tb_X11 (nn_ _) bk_X11_firsts_59 bs_X11_firsts_59 hz (fun K hK => ?_)
      refine ix_i (by omega) ?_
      intro b14 b14b
      have e15 : T1 210 0 c = T 210 0 c := hf_59 210 0 c rfl
      rw [e15] at b14 b14b ⊢
      refine ix_i (by omega) ?_
      intro b16 b16b
      have e17 : T1 211 0 c = T 211 0 c := hf_59 211 0 c rfl
      rw [e17] at b16 b16b ⊢
      refine rg_i (by omega) ?_
      refine And.intro (fun c18 => ?_) (fun c18 => ?_)
      · refine hK 119 _ [] T1 ?_
        refine j_blx (F := fX11) tb_X11 (nn_ _) bk_X11_firsts_119 bs_X11_firsts_119 hz (fun K hK => ?_)
        refine And.intro (fun c19 => ?_) (fun c19 => ?_)
        · refine hK 126 _ [] T1 ?_
          refine j_blx (F := fX11) tb_X11 (nn_ _) bk_X11_firsts_126 bs_X11_firsts_126 hz (fun K hK => ?_)
          refine bd_i (by omega) ?_
          refine x_nm (fun U20 hU20 => ?_)
          have e21 := up_f hU20
          refine hK 137 [some (vR 111 0), some (vI c), some (vI cl), some (vI mn), some (vI al), some (vI 0), some (vI 0), none, none] [] U20 ?_
          refine c_137 _ mn al 0 0 U20 (Nat.le_refl _) ?_ ?_ ?_ ?_
          · exact fr_u (fr_t (fr_0 _ _) (fr_s hf_59 rfl)) hU20 rfl
          · exact he
          · omega
          · omega
        · refine (show po_X11_firsts T c cl T1 (some (vI (-1))) from ?_)
          exact ⟨_, rfl, fr_t (fr_0 _ _) (fr_s hf_59 rfl), by trivial⟩
      · refine hK 80 _ [vI m, vR 111 0] T1 ?_
        refine j_callV (y := yX11_isLeft) (Yc := zX11_isLeft) (rest := []) [vI m] (ct_X11_isLeft (T := T1) (by omega)) cl_X11_538 (qd_c (by decide +kernel)) (nn_ _) rfl (rf_of rfl) (Nat.le_of_ble_eq_true rfl) (Nat.le_of_ble_eq_true rfl) (Nat.le_of_ble_eq_true rfl) rfl ?_
        rintro _ _ ⟨rfl, x22, rfl, hx22⟩
        show J_ zX11_firsts T (po_X11_firsts T c cl) 0 0 83 _ [vI x22] T1
        refine j_blx (F := fX11) tb_X11 (nn_ _) bk_X11_firsts_83 bs_X11_firsts_83 hz (fun K hK => ?_)
        refine And.intro (fun c23 => ?_) (fun c23 => ?_)
        · replace hx22 := hx22.resolve_left (fun z => absurd (c23.symm.trans z.1) (by decide))
          clear c23
          refine hK 113 _ [] T1 ?_
          refine j_blx (F := fX11) tb_X11 (nn_ _) bk_X11_firsts_113 bs_X11_firsts_113 hz (fun K hK => ?_)
          refine rg_i (by omega) ?_
          refine hK 59 [some (vR 111 0), some (vI c), some (vI cl), some (vI mn), some (vI al), some (vI (m + 1)), none, none, none] [] T1 ?_
          refine ih_59 _ ?_ mn al (m + 1) T1 (Nat.le_refl _) ?_ ?_ ?_ ?_
          · have hm_59 := hm_59 (); omega
          · exact fr_t (fr_0 _ _) (fr_s hf_59 rfl)
          · exact he
          · omega
          · omega
        · replace hx22 := hx22.resolve_right (fun z => c23 z.1)
          clear c23
          refine iy_i (by omega) (by omega) ?_
          refine x_nm (fun U24 hU24 => ?_)
          have e25 := up_f hU24
          refine rg_i (by omega) ?_
          refine And.intro (fun c26 => ?_) (fun c26 => ?_)
          · refine hK 107 [some (vR 111 0), some (vI c), some (vI cl), some (vI (mn + 1)), some (vI al), some (vI m), none, none, none] [] U24 ?_
            refine j_blx (F := fX11) tb_X11 (nn_ _) bk_X11_firsts_107 bs_X11_firsts_107 hz (fun K hK => ?_)
            intro w27 w27b
            refine rg_i (by omega) ?_
            refine hK 59 [some (vR 111 0), some (vI c), some (vI cl), some (vI (mn + 1)), some (vI (wr_ (3 * al))), some (vI (m + 1)), none, none, none] [] U24 ?_
            refine ih_59 _ ?_ (mn + 1) (wr_ (3 * al)) (m + 1) U24 (Nat.le_refl _) ?_ ?_ ?_ ?_
            · have hm_59 := hm_59 (); omega
            · exact fr_u (fr_t (fr_0 _ _) (fr_s hf_59 rfl)) hU24 rfl
            · exact he
            · omega
            · omega
          · refine hK 111 [some (vR 111 0), some (vI c), some (vI cl), some (vI (mn + 1)), some (vI al), some (vI m), none, none, none] [vI al] U24 ?_
            refine j_blx (F := fX11) tb_X11 (nn_ _) bk_X11_firsts_111 bs_X11_firsts_111 hz (fun K hK => ?_)
            refine rg_i (by omega) ?_
            refine hK 59 [some (vR 111 0), some (vI c), some (vI cl), some (vI (mn + 1)), some (vI al), some (vI (m + 1)), none, none, none] [] U24 ?_
            refine ih_59 _ ?_ (mn + 1) al (m + 1) U24 (Nat.le_refl _) ?_ ?_ ?_ ?_
            · have hm_59 := hm_59 (); omega
            · exact fr_u (fr_t (fr_0 _ _) (fr_s hf_59 rfl)) hU24 rfl
            · exact he
            · omega
            · omega
  refine j_blx (F := fX11) tb_X11 (nn_ _) bk_X11_firsts_0 bs_X11_firsts_0 hz (fun K hK => ?_)
  intro b28 b28b
  refine hK 5 _ [vI (T 111 0 6), vI c] T ?_
  refine j_callS (y := yX11_isOf) (Yc := zX11_isOf) (rest := []) [vI c, vI (T 111 0 6)] (ct_X11_isOf (T := T) (by omega)) cl_X11_317 (qd_c (by decide +kernel)) (nn_ _) rfl (rf_of rfl) (Nat.le_of_ble_eq_true rfl) (Nat.le_of_ble_eq_true rfl) (Nat.le_of_ble_eq_true rfl) rfl ?_
  rintro _ _ ⟨rfl, x29, rfl, hx29⟩
  show J_ zX11_firsts T (po_X11_firsts T c cl) 0 0 8 _ [vI x29] T
  refine j_blx (F := fX11) tb_X11 (nn_ _) bk_X11_firsts_8 bs_X11_firsts_8 hz (fun K hK => ?_)
  refine And.intro (fun c30 => ?_) (fun c30 => ?_)
  · replace hx29 := hx29.resolve_left (fun z => absurd (c30.symm.trans z.1) (by decide))
    clear c30
    refine hK 22 _ [] T ?_
    refine j_blx (F := fX11) tb_X11 (nn_ _) bk_X11_firsts_22 bs_X11_firsts_22 hz (fun K hK => ?_)
    refine (show po_X11_firsts T c cl T (some (vI (-2))) from ?_)
    exact ⟨_, rfl, fr_0 _ _, by trivial⟩
  · replace hx29 := hx29.resolve_right (fun z => c30 z.1)
    clear c30
    intro b31 b31b
    refine hK 16 _ [vI (T 111 0 12), vI cl] T ?_
    refine j_callS (y := yX11_isOf) (Yc := zX11_isOf) (rest := []) [vI cl, vI (T 111 0 12)] (ct_X11_isOf (T := T) (by omega)) cl_X11_317 (qd_c (by decide +kernel)) (nn_ _) rfl (rf_of rfl) (Nat.le_of_ble_eq_true rfl) (Nat.le_of_ble_eq_true rfl) (Nat.le_of_ble_eq_true rfl) rfl ?_
    rintro _ _ ⟨rfl, x32, rfl, hx32⟩
    show J_ zX11_firsts T (po_X11_firsts T c cl) 0 0 19 _ [vI x32] T
    refine j_blx (F := fX11) tb_X11 (nn_ _) bk_X11_firsts_19 bs_X11_firsts_19 hz (fun K hK => ?_)
    refine And.intro (fun c33 => ?_) (fun c33 => ?_)
    · replace hx32 := hx32.resolve_right (fun z => c33 z.1)
      clear c33
      refine hK 25 _ [] T ?_
      refine j_blx (F := fX11) tb_X11 (nn_ _) bk_X11_firsts_25 bs_X11_firsts_25 hz (fun K hK => ?_)
      refine ix_i (by omega) ?_
      intro b34 b34b
      refine And.intro (fun c35 => ?_) (fun c35 => ?_)
      · refine hK 43 _ [] T ?_
        refine j_blx (F := fX11) tb_X11 (nn_ _) bk_X11_firsts_43 bs_X11_firsts_43 hz (fun K hK => ?_)
        refine (show po_X11_firsts T c cl T (some (vI (-4))) from ?_)
        exact ⟨_, rfl, fr_0 _ _, by trivial⟩
      · refine hK 37 _ [vI cl, vI c, vR 111 0] T ?_
        refine j_callV (y := yX11_hasEntered) (Yc := zX11_hasEntered) (rest := []) [vI c, vI cl] (ct_X11_hasEntered (T := T) (by omega)) cl_X11_340 (qd_c (by decide +kernel)) (nn_ _) rfl (rf_of rfl) (Nat.le_of_ble_eq_true rfl) (Nat.le_of_ble_eq_true rfl) (Nat.le_of_ble_eq_true rfl) rfl ?_
        rintro _ _ ⟨rfl, x36, rfl, hx36⟩
        show J_ zX11_firsts T (po_X11_firsts T c cl) 0 0 40 _ [vI x36] T
        refine j_blx (F := fX11) tb_X11 (nn_ _) bk_X11_firsts_40 bs_X11_firsts_40 hz (fun K hK => ?_)
        refine And.intro (fun c37 => ?_) (fun c37 => ?_)
        · have he : HE_ T c cl := (hx36.resolve_right (fun z => absurd z.1 (by omega))).2
          refine hK 46 _ [] T ?_
          have hmc := hml c (by omega) (by omega)
          have hb_29 : 0 ≤ T 111 0 29 ∧ T 111 0 29 ≤ 400 := bd_f hT 111 29 tl_11_29 0
          have hfo : 0 ≤ T 210 0 c ∧ T 210 0 c ≤ 400 := bd_a hT 210 (by decide +kernel : ta_ 210 = some (1, some 4, 0, 400)) 0 (by omega)
          have hmo : 0 ≤ T 211 0 c ∧ T 211 0 c ≤ 400 := bd_a hT 211 (by decide +kernel : ta_ 211 = some (1, some 4, 0, 400)) 0 (by omega)
          refine j_blx (F := fX11) tb_X11 (nn_ _) bk_X11_firsts_46 bs_X11_firsts_46 hz (fun K hK => ?_)
          refine ix_i (by omega) ?_
          intro b38 b38b
          refine hK 59 [some (vR 111 0), some (vI c), some (vI cl), some (vI 0), some (vI 1), some (vI (T 210 0 c)), none, none, none] [] T ?_
          refine c_59 _ 0 1 (T 210 0 c) T (Nat.le_refl _) ?_ ?_ ?_ ?_
          · exact fr_0 _ _
          · exact he
          · omega
          · omega
        · replace hx36 := hx36.resolve_left (fun z => absurd (c37.symm.trans z.1) (by decide))
          clear c37
          refine (show po_X11_firsts T c cl T (some (vI (-4))) from ?_)
          exact ⟨_, rfl, fr_0 _ _, by trivial⟩
    · replace hx32 := hx32.resolve_left (fun z => absurd (c33.symm.trans z.1) (by decide))
      clear c33
      refine (show po_X11_firsts T c cl T (some (vI (-2))) from ?_)
      exact ⟨_, rfl, fr_0 _ _, by trivial⟩
