/-- kinds and sides as told -/
def lfT_ (T : Zt) (m k s : Int) : Prop := ((T 205 0 (23 * T 230 0 m + 0) = 0 ∧ 0 ≤ k ∧ k ≤ 5) ∨ (T 205 0 (23 * T 230 0 m + 0) = 1 ∧ (k = 1 ∨ k = 5)) ∨ (T 205 0 (23 * T 230 0 m + 0) = 2 ∧ (k = 1 ∨ k = 6)) ∨ (¬ T 205 0 (23 * T 230 0 m + 0) = 0 ∧ ¬ T 205 0 (23 * T 230 0 m + 0) = 1 ∧ ¬ T 205 0 (23 * T 230 0 m + 0) = 2 ∧ 1 ≤ k ∧ k ≤ 4)) ∧ ((T 205 0 (23 * T 230 0 m + 0) = 0 ∧ k = 0) ∨ (0 ≤ s ∧ s ≤ 1))
/-- no row is wanting, no other side serves -/
def lfN_ (T : Zt) (m k s : Int) : Prop := ¬ ((T 205 0 (23 * T 230 0 m + 0) = 0 ∧ (k = 1 ∨ k = 2) ∧ T 246 0 (8 * m + 0) = 1) ∨ (T 205 0 (23 * T 230 0 m + 0) = 3 ∧ T 246 0 (8 * m + 5) ≠ s))
/-- a person is wanted -/
def lfW_ (T : Zt) (m k : Int) : Prop := (T 205 0 (23 * T 230 0 m + 0) = 0 ∧ 0 < k) ∨ (T 205 0 (23 * T 230 0 m + 0) = 1 ∧ k = 5)
theorem lf_s {T : Zt} {m k s : Int} (t : lfT_ T m k s) (w : lfW_ T m k) : 0 ≤ s ∧ s ≤ 1 := by
  unfold lfW_ at w
  rcases t.2 with z | z
  · omega
  · exact z
theorem bk_X11_lawOf_e_200 : ck_ fX11 (some .int) cX11_lawOf 200 [.iload 6, .iload 2, .iload 5] 205 = true := qck_r (nn_ _) (by decide +kernel)
theorem bs_X11_lawOf_e_200 {P : Zt → Option Zv → Prop} (K : Int → Zl → List Zv → Zt → Prop) : sx_ K P [.iload 6, .iload 2, .iload 5] 205 = x_iload 6 (x_iload 2 (x_iload 5 (K 205))) := ((xe_iload 6).trans (congrArg (x_iload 6) ((xe_iload 2).trans (congrArg (x_iload 2) ((xe_iload 5).trans (congrArg (x_iload 5) xe_nil))))))
theorem bk_X11_lawOf_e_208 : ck_ fX11 (some .int) cX11_lawOf 208 [.ifCond .eq 215, .iconst 0, .goto 217] 215 = true := qck_r (nn_ _) (by decide +kernel)
theorem bs_X11_lawOf_e_208 {P : Zt → Option Zv → Prop} (K : Int → Zl → List Zv → Zt → Prop) : sx_ K P [.ifCond .eq 215, .iconst 0, .goto 217] 215 = x_ifCond .eq 215 K (x_iconst 0 (x_goto 217 K)) := ((xe_ifCond .eq 215).trans (congrArg (x_ifCond .eq 215 K) ((xe_iconst 0).trans (congrArg (x_iconst 0) (xe_goto 217)))))
theorem bk_X11_lawOf_e_215 : ck_ fX11 (some .int) cX11_lawOf 215 [.iconst 7, .ireturn] 218 = true := qck_r (nn_ _) (by decide +kernel)
theorem bs_X11_lawOf_e_215 {P : Zt → Option Zv → Prop} (K : Int → Zl → List Zv → Zt → Prop) : sx_ K P [.iconst 7, .ireturn] 218 = x_iconst 7 (x_ireturn P) := ((xe_iconst 7).trans (congrArg (x_iconst 7) (xe_ireturn)))
theorem bk_X11_lawOf_e_217 : ck_ fX11 (some .int) cX11_lawOf 217 [.ireturn] 218 = true := qck_r (nn_ _) (by decide +kernel)
theorem bs_X11_lawOf_e_217 {P : Zt → Option Zv → Prop} (K : Int → Zl → List Zv → Zt → Prop) : sx_ K P [.ireturn] 218 = x_ireturn P := (xe_ireturn)
theorem bk_X11_lawOf_e_163 : ck_ fX11 (some .int) cX11_lawOf 163 [.iload 8, .ifCond .eq 200, .iload 2, .iconst 5, .if_icmp .ne 200, .aload 0, .iload 1, .iconst 6, .iload 3, .iadd] 179 = true := qck_r (nn_ _) (by decide +kernel)
theorem bs_X11_lawOf_e_163 {P : Zt → Option Zv → Prop} (K : Int → Zl → List Zv → Zt → Prop) : sx_ K P [.iload 8, .ifCond .eq 200, .iload 2, .iconst 5, .if_icmp .ne 200, .aload 0, .iload 1, .iconst 6, .iload 3, .iadd] 179 = x_iload 8 (x_ifCond .eq 200 K (x_iload 2 (x_iconst 5 (x_if_icmp .ne 200 K (x_aload 0 (x_iload 1 (x_iconst 6 (x_iload 3 (x_iadd (K 179)))))))))) := ((xe_iload 8).trans (congrArg (x_iload 8) ((xe_ifCond .eq 200).trans (congrArg (x_ifCond .eq 200 K) ((xe_iload 2).trans (congrArg (x_iload 2) ((xe_iconst 5).trans (congrArg (x_iconst 5) ((xe_if_icmp .ne 200).trans (congrArg (x_if_icmp .ne 200 K) ((xe_aload 0).trans (congrArg (x_aload 0) ((xe_iload 1).trans (congrArg (x_iload 1) ((xe_iconst 6).trans (congrArg (x_iconst 6) ((xe_iload 3).trans (congrArg (x_iload 3) ((xe_iadd).trans (congrArg (x_iadd) xe_nil))))))))))))))))))))
theorem bk_X11_lawOf_e_182 : ck_ fX11 (some .int) cX11_lawOf 182 [.aload 0, .aload 0, .tableswitch 0 11 30 #[], .iload 1, .iaload, .iconst 10] 191 = true := qck_r (nn_ _) (by decide +kernel)
theorem bs_X11_lawOf_e_182 {P : Zt → Option Zv → Prop} (K : Int → Zl → List Zv → Zt → Prop) : sx_ K P [.aload 0, .aload 0, .tableswitch 0 11 30 #[], .iload 1, .iaload, .iconst 10] 191 = x_aload 0 (x_aload 0 (x_g1 111 230 (x_iload 1 (x_iaload (x_iconst 10 (K 191)))))) := ((xe_aload 0).trans (congrArg (x_aload 0) ((xe_aload 0).trans (congrArg (x_aload 0) ((xe_g1 (kk := 111) rfl tl_11_30).trans (congrArg (x_g1 111 230) ((xe_iload 1).trans (congrArg (x_iload 1) ((xe_iaload).trans (congrArg (x_iaload) ((xe_iconst 10).trans (congrArg (x_iconst 10) xe_nil))))))))))))
theorem bk_X11_lawOf_e_194 : ck_ fX11 (some .int) cX11_lawOf 194 [.if_icmp .ne 200, .iconst 6, .ireturn] 200 = true := qck_r (nn_ _) (by decide +kernel)
theorem bs_X11_lawOf_e_194 {P : Zt → Option Zv → Prop} (K : Int → Zl → List Zv → Zt → Prop) : sx_ K P [.if_icmp .ne 200, .iconst 6, .ireturn] 200 = x_if_icmp .ne 200 K (x_iconst 6 (x_ireturn P)) := ((xe_if_icmp .ne 200).trans (congrArg (x_if_icmp .ne 200 K) ((xe_iconst 6).trans (congrArg (x_iconst 6) (xe_ireturn)))))
theorem bk_X11_lawOf_e_139 : ck_ fX11 (some .int) cX11_lawOf 139 [.iload 8, .ifCond .eq 163, .iload 2, .iconst 5, .if_icmp .ne 163, .aload 0, .iload 1, .iload 3, .iload 5, .iconst 0] 155 = true := qck_r (nn_ _) (by decide +kernel)
theorem bs_X11_lawOf_e_139 {P : Zt → Option Zv → Prop} (K : Int → Zl → List Zv → Zt → Prop) : sx_ K P [.iload 8, .ifCond .eq 163, .iload 2, .iconst 5, .if_icmp .ne 163, .aload 0, .iload 1, .iload 3, .iload 5, .iconst 0] 155 = x_iload 8 (x_ifCond .eq 163 K (x_iload 2 (x_iconst 5 (x_if_icmp .ne 163 K (x_aload 0 (x_iload 1 (x_iload 3 (x_iload 5 (x_iconst 0 (K 155)))))))))) := ((xe_iload 8).trans (congrArg (x_iload 8) ((xe_ifCond .eq 163).trans (congrArg (x_ifCond .eq 163 K) ((xe_iload 2).trans (congrArg (x_iload 2) ((xe_iconst 5).trans (congrArg (x_iconst 5) ((xe_if_icmp .ne 163).trans (congrArg (x_if_icmp .ne 163 K) ((xe_aload 0).trans (congrArg (x_aload 0) ((xe_iload 1).trans (congrArg (x_iload 1) ((xe_iload 3).trans (congrArg (x_iload 3) ((xe_iload 5).trans (congrArg (x_iload 5) ((xe_iconst 0).trans (congrArg (x_iconst 0) xe_nil))))))))))))))))))))
theorem bk_X11_lawOf_e_158 : ck_ fX11 (some .int) cX11_lawOf 158 [.ifCond .ne 163, .iconst 5, .ireturn] 163 = true := qck_r (nn_ _) (by decide +kernel)
theorem bs_X11_lawOf_e_158 {P : Zt → Option Zv → Prop} (K : Int → Zl → List Zv → Zt → Prop) : sx_ K P [.ifCond .ne 163, .iconst 5, .ireturn] 163 = x_ifCond .ne 163 K (x_iconst 5 (x_ireturn P)) := ((xe_ifCond .ne 163).trans (congrArg (x_ifCond .ne 163 K) ((xe_iconst 5).trans (congrArg (x_iconst 5) (xe_ireturn)))))
theorem bk_X11_lawOf_e_118 : ck_ fX11 (some .int) cX11_lawOf 118 [.istore 8, .iload 8, .ifCond .eq 139, .aload 0, .iload 1, .iload 3, .iload 4, .iconst 1] 131 = true := qck_r (nn_ _) (by decide +kernel)
theorem bs_X11_lawOf_e_118 {P : Zt → Option Zv → Prop} (K : Int → Zl → List Zv → Zt → Prop) : sx_ K P [.istore 8, .iload 8, .ifCond .eq 139, .aload 0, .iload 1, .iload 3, .iload 4, .iconst 1] 131 = x_istore 8 (x_iload 8 (x_ifCond .eq 139 K (x_aload 0 (x_iload 1 (x_iload 3 (x_iload 4 (x_iconst 1 (K 131)))))))) := ((xe_istore 8).trans (congrArg (x_istore 8) ((xe_iload 8).trans (congrArg (x_iload 8) ((xe_ifCond .eq 139).trans (congrArg (x_ifCond .eq 139 K) ((xe_aload 0).trans (congrArg (x_aload 0) ((xe_iload 1).trans (congrArg (x_iload 1) ((xe_iload 3).trans (congrArg (x_iload 3) ((xe_iload 4).trans (congrArg (x_iload 4) ((xe_iconst 1).trans (congrArg (x_iconst 1) xe_nil))))))))))))))))
theorem bk_X11_lawOf_e_134 : ck_ fX11 (some .int) cX11_lawOf 134 [.ifCond .ne 139, .iconst 4, .ireturn] 139 = true := qck_r (nn_ _) (by decide +kernel)
theorem bs_X11_lawOf_e_134 {P : Zt → Option Zv → Prop} (K : Int → Zl → List Zv → Zt → Prop) : sx_ K P [.ifCond .ne 139, .iconst 4, .ireturn] 139 = x_ifCond .ne 139 K (x_iconst 4 (x_ireturn P)) := ((xe_ifCond .ne 139).trans (congrArg (x_ifCond .ne 139 K) ((xe_iconst 4).trans (congrArg (x_iconst 4) (xe_ireturn)))))
theorem bk_X11_lawOf_e_68 : ck_ fX11 (some .int) cX11_lawOf 68 [.istore 7, .iload 7, .ifCond .ne 91, .iload 6, .iconst 3, .if_icmp .ne 93, .aload 0, .iload 1, .iconst 5] 84 = true := qck_r (nn_ _) (by decide +kernel)
theorem bs_X11_lawOf_e_68 {P : Zt → Option Zv → Prop} (K : Int → Zl → List Zv → Zt → Prop) : sx_ K P [.istore 7, .iload 7, .ifCond .ne 91, .iload 6, .iconst 3, .if_icmp .ne 93, .aload 0, .iload 1, .iconst 5] 84 = x_istore 7 (x_iload 7 (x_ifCond .ne 91 K (x_iload 6 (x_iconst 3 (x_if_icmp .ne 93 K (x_aload 0 (x_iload 1 (x_iconst 5 (K 84))))))))) := ((xe_istore 7).trans (congrArg (x_istore 7) ((xe_iload 7).trans (congrArg (x_iload 7) ((xe_ifCond .ne 91).trans (congrArg (x_ifCond .ne 91 K) ((xe_iload 6).trans (congrArg (x_iload 6) ((xe_iconst 3).trans (congrArg (x_iconst 3) ((xe_if_icmp .ne 93).trans (congrArg (x_if_icmp .ne 93 K) ((xe_aload 0).trans (congrArg (x_aload 0) ((xe_iload 1).trans (congrArg (x_iload 1) ((xe_iconst 5).trans (congrArg (x_iconst 5) xe_nil))))))))))))))))))
theorem bk_X11_lawOf_e_91 : ck_ fX11 (some .int) cX11_lawOf 91 [.iconst 3, .ireturn] 93 = true := qck_r (nn_ _) (by decide +kernel)
theorem bs_X11_lawOf_e_91 {P : Zt → Option Zv → Prop} (K : Int → Zl → List Zv → Zt → Prop) : sx_ K P [.iconst 3, .ireturn] 93 = x_iconst 3 (x_ireturn P) := ((xe_iconst 3).trans (congrArg (x_iconst 3) (xe_ireturn)))
theorem bk_X11_lawOf_e_93 : ck_ fX11 (some .int) cX11_lawOf 93 [.iload 6, .ifCond .ne 102, .iload 2, .ifCond .gt 113, .iload 6, .iconst 1, .if_icmp .ne 117, .iload 2, .iconst 5, .if_icmp .ne 117, .iconst 1, .goto 118] 117 = true := qck_r (nn_ _) (by decide +kernel)
theorem bs_X11_lawOf_e_93 {P : Zt → Option Zv → Prop} (K : Int → Zl → List Zv → Zt → Prop) : sx_ K P [.iload 6, .ifCond .ne 102, .iload 2, .ifCond .gt 113, .iload 6, .iconst 1, .if_icmp .ne 117, .iload 2, .iconst 5, .if_icmp .ne 117, .iconst 1, .goto 118] 117 = x_iload 6 (x_ifCond .ne 102 K (x_iload 2 (x_ifCond .gt 113 K (x_iload 6 (x_iconst 1 (x_if_icmp .ne 117 K (x_iload 2 (x_iconst 5 (x_if_icmp .ne 117 K (x_iconst 1 (x_goto 118 K))))))))))) := ((xe_iload 6).trans (congrArg (x_iload 6) ((xe_ifCond .ne 102).trans (congrArg (x_ifCond .ne 102 K) ((xe_iload 2).trans (congrArg (x_iload 2) ((xe_ifCond .gt 113).trans (congrArg (x_ifCond .gt 113 K) ((xe_iload 6).trans (congrArg (x_iload 6) ((xe_iconst 1).trans (congrArg (x_iconst 1) ((xe_if_icmp .ne 117).trans (congrArg (x_if_icmp .ne 117 K) ((xe_iload 2).trans (congrArg (x_iload 2) ((xe_iconst 5).trans (congrArg (x_iconst 5) ((xe_if_icmp .ne 117).trans (congrArg (x_if_icmp .ne 117 K) ((xe_iconst 1).trans (congrArg (x_iconst 1) (xe_goto 118)))))))))))))))))))))))
theorem bk_X11_lawOf_e_102 : ck_ fX11 (some .int) cX11_lawOf 102 [.iload 6, .iconst 1, .if_icmp .ne 117, .iload 2, .iconst 5, .if_icmp .ne 117, .iconst 1, .goto 118] 117 = true := qck_r (nn_ _) (by decide +kernel)
theorem bs_X11_lawOf_e_102 {P : Zt → Option Zv → Prop} (K : Int → Zl → List Zv → Zt → Prop) : sx_ K P [.iload 6, .iconst 1, .if_icmp .ne 117, .iload 2, .iconst 5, .if_icmp .ne 117, .iconst 1, .goto 118] 117 = x_iload 6 (x_iconst 1 (x_if_icmp .ne 117 K (x_iload 2 (x_iconst 5 (x_if_icmp .ne 117 K (x_iconst 1 (x_goto 118 K))))))) := ((xe_iload 6).trans (congrArg (x_iload 6) ((xe_iconst 1).trans (congrArg (x_iconst 1) ((xe_if_icmp .ne 117).trans (congrArg (x_if_icmp .ne 117 K) ((xe_iload 2).trans (congrArg (x_iload 2) ((xe_iconst 5).trans (congrArg (x_iconst 5) ((xe_if_icmp .ne 117).trans (congrArg (x_if_icmp .ne 117 K) ((xe_iconst 1).trans (congrArg (x_iconst 1) (xe_goto 118)))))))))))))))
theorem bk_X11_lawOf_e_117 : ck_ fX11 (some .int) cX11_lawOf 117 [.iconst 0] 118 = true := qck_r (nn_ _) (by decide +kernel)
theorem bs_X11_lawOf_e_117 {P : Zt → Option Zv → Prop} (K : Int → Zl → List Zv → Zt → Prop) : sx_ K P [.iconst 0] 118 = x_iconst 0 (K 118) := ((xe_iconst 0).trans (congrArg (x_iconst 0) xe_nil))
theorem bk_X11_lawOf_e_113 : ck_ fX11 (some .int) cX11_lawOf 113 [.iconst 1, .goto 118] 117 = true := qck_r (nn_ _) (by decide +kernel)
theorem bs_X11_lawOf_e_113 {P : Zt → Option Zv → Prop} (K : Int → Zl → List Zv → Zt → Prop) : sx_ K P [.iconst 1, .goto 118] 117 = x_iconst 1 (x_goto 118 K) := ((xe_iconst 1).trans (congrArg (x_iconst 1) (xe_goto 118)))
theorem bk_X11_lawOf_e_87 : ck_ fX11 (some .int) cX11_lawOf 87 [.iload 3, .if_icmp .eq 93, .iconst 3, .ireturn] 93 = true := qck_r (nn_ _) (by decide +kernel)
theorem bs_X11_lawOf_e_87 {P : Zt → Option Zv → Prop} (K : Int → Zl → List Zv → Zt → Prop) : sx_ K P [.iload 3, .if_icmp .eq 93, .iconst 3, .ireturn] 93 = x_iload 3 (x_if_icmp .eq 93 K (x_iconst 3 (x_ireturn P))) := ((xe_iload 3).trans (congrArg (x_iload 3) ((xe_if_icmp .eq 93).trans (congrArg (x_if_icmp .eq 93 K) ((xe_iconst 3).trans (congrArg (x_iconst 3) (xe_ireturn)))))))
theorem bk_X11_lawOf_e_0 : ck_ fX11 (some .int) cX11_lawOf 0 [.aload 0, .aload 0, .tableswitch 0 11 30 #[], .iload 1, .iaload, .iconst 0] 8 = true := qck_r (nn_ _) (by decide +kernel)
theorem bs_X11_lawOf_e_0 {P : Zt → Option Zv → Prop} (K : Int → Zl → List Zv → Zt → Prop) : sx_ K P [.aload 0, .aload 0, .tableswitch 0 11 30 #[], .iload 1, .iaload, .iconst 0] 8 = x_aload 0 (x_aload 0 (x_g1 111 230 (x_iload 1 (x_iaload (x_iconst 0 (K 8)))))) := ((xe_aload 0).trans (congrArg (x_aload 0) ((xe_aload 0).trans (congrArg (x_aload 0) ((xe_g1 (kk := 111) rfl tl_11_30).trans (congrArg (x_g1 111 230) ((xe_iload 1).trans (congrArg (x_iload 1) ((xe_iaload).trans (congrArg (x_iaload) ((xe_iconst 0).trans (congrArg (x_iconst 0) xe_nil))))))))))))
theorem bk_X11_lawOf_e_11 : ck_ fX11 (some .int) cX11_lawOf 11 [.istore 6, .aload 0, .tableswitch 0 11 35 #[], .iload 1, .iaload, .iconst 1, .if_icmp .eq 25, .iconst 1, .ireturn] 25 = true := qck_r (nn_ _) (by decide +kernel)
theorem bs_X11_lawOf_e_11 {P : Zt → Option Zv → Prop} (K : Int → Zl → List Zv → Zt → Prop) : sx_ K P [.istore 6, .aload 0, .tableswitch 0 11 35 #[], .iload 1, .iaload, .iconst 1, .if_icmp .eq 25, .iconst 1, .ireturn] 25 = x_istore 6 (x_aload 0 (x_g1 111 235 (x_iload 1 (x_iaload (x_iconst 1 (x_if_icmp .eq 25 K (x_iconst 1 (x_ireturn P)))))))) := ((xe_istore 6).trans (congrArg (x_istore 6) ((xe_aload 0).trans (congrArg (x_aload 0) ((xe_g1 (kk := 111) rfl tl_11_35).trans (congrArg (x_g1 111 235) ((xe_iload 1).trans (congrArg (x_iload 1) ((xe_iaload).trans (congrArg (x_iaload) ((xe_iconst 1).trans (congrArg (x_iconst 1) ((xe_if_icmp .eq 25).trans (congrArg (x_if_icmp .eq 25 K) ((xe_iconst 1).trans (congrArg (x_iconst 1) (xe_ireturn)))))))))))))))))
theorem bk_X11_lawOf_e_25 : ck_ fX11 (some .int) cX11_lawOf 25 [.aload 0, .iload 6, .iload 2, .iload 3] 30 = true := qck_r (nn_ _) (by decide +kernel)
theorem bs_X11_lawOf_e_25 {P : Zt → Option Zv → Prop} (K : Int → Zl → List Zv → Zt → Prop) : sx_ K P [.aload 0, .iload 6, .iload 2, .iload 3] 30 = x_aload 0 (x_iload 6 (x_iload 2 (x_iload 3 (K 30)))) := ((xe_aload 0).trans (congrArg (x_aload 0) ((xe_iload 6).trans (congrArg (x_iload 6) ((xe_iload 2).trans (congrArg (x_iload 2) ((xe_iload 3).trans (congrArg (x_iload 3) xe_nil))))))))
theorem bk_X11_lawOf_e_33 : ck_ fX11 (some .int) cX11_lawOf 33 [.ifCond .ne 38, .iconst 2, .ireturn] 38 = true := qck_r (nn_ _) (by decide +kernel)
theorem bs_X11_lawOf_e_33 {P : Zt → Option Zv → Prop} (K : Int → Zl → List Zv → Zt → Prop) : sx_ K P [.ifCond .ne 38, .iconst 2, .ireturn] 38 = x_ifCond .ne 38 K (x_iconst 2 (x_ireturn P)) := ((xe_ifCond .ne 38).trans (congrArg (x_ifCond .ne 38 K) ((xe_iconst 2).trans (congrArg (x_iconst 2) (xe_ireturn)))))
theorem bk_X11_lawOf_e_38 : ck_ fX11 (some .int) cX11_lawOf 38 [.iload 6, .ifCond .ne 67, .iload 2, .iconst 1, .if_icmp .eq 53, .iload 2, .iconst 2, .if_icmp .ne 67, .aload 0, .iload 1, .iconst 0] 56 = true := qck_r (nn_ _) (by decide +kernel)
theorem bs_X11_lawOf_e_38 {P : Zt → Option Zv → Prop} (K : Int → Zl → List Zv → Zt → Prop) : sx_ K P [.iload 6, .ifCond .ne 67, .iload 2, .iconst 1, .if_icmp .eq 53, .iload 2, .iconst 2, .if_icmp .ne 67, .aload 0, .iload 1, .iconst 0] 56 = x_iload 6 (x_ifCond .ne 67 K (x_iload 2 (x_iconst 1 (x_if_icmp .eq 53 K (x_iload 2 (x_iconst 2 (x_if_icmp .ne 67 K (x_aload 0 (x_iload 1 (x_iconst 0 (K 56))))))))))) := ((xe_iload 6).trans (congrArg (x_iload 6) ((xe_ifCond .ne 67).trans (congrArg (x_ifCond .ne 67 K) ((xe_iload 2).trans (congrArg (x_iload 2) ((xe_iconst 1).trans (congrArg (x_iconst 1) ((xe_if_icmp .eq 53).trans (congrArg (x_if_icmp .eq 53 K) ((xe_iload 2).trans (congrArg (x_iload 2) ((xe_iconst 2).trans (congrArg (x_iconst 2) ((xe_if_icmp .ne 67).trans (congrArg (x_if_icmp .ne 67 K) ((xe_aload 0).trans (congrArg (x_aload 0) ((xe_iload 1).trans (congrArg (x_iload 1) ((xe_iconst 0).trans (congrArg (x_iconst 0) xe_nil))))))))))))))))))))))
theorem bk_X11_lawOf_e_67 : ck_ fX11 (some .int) cX11_lawOf 67 [.iconst 0] 68 = true := qck_r (nn_ _) (by decide +kernel)
theorem bs_X11_lawOf_e_67 {P : Zt → Option Zv → Prop} (K : Int → Zl → List Zv → Zt → Prop) : sx_ K P [.iconst 0] 68 = x_iconst 0 (K 68) := ((xe_iconst 0).trans (congrArg (x_iconst 0) xe_nil))
theorem bk_X11_lawOf_e_53 : ck_ fX11 (some .int) cX11_lawOf 53 [.aload 0, .iload 1, .iconst 0] 56 = true := qck_r (nn_ _) (by decide +kernel)
theorem bs_X11_lawOf_e_53 {P : Zt → Option Zv → Prop} (K : Int → Zl → List Zv → Zt → Prop) : sx_ K P [.aload 0, .iload 1, .iconst 0] 56 = x_aload 0 (x_iload 1 (x_iconst 0 (K 56))) := ((xe_aload 0).trans (congrArg (x_aload 0) ((xe_iload 1).trans (congrArg (x_iload 1) ((xe_iconst 0).trans (congrArg (x_iconst 0) xe_nil))))))
theorem bk_X11_lawOf_e_59 : ck_ fX11 (some .int) cX11_lawOf 59 [.iconst 1, .if_icmp .ne 67, .iconst 1, .goto 68] 67 = true := qck_r (nn_ _) (by decide +kernel)
theorem bs_X11_lawOf_e_59 {P : Zt → Option Zv → Prop} (K : Int → Zl → List Zv → Zt → Prop) : sx_ K P [.iconst 1, .if_icmp .ne 67, .iconst 1, .goto 68] 67 = x_iconst 1 (x_if_icmp .ne 67 K (x_iconst 1 (x_goto 68 K))) := ((xe_iconst 1).trans (congrArg (x_iconst 1) ((xe_if_icmp .ne 67).trans (congrArg (x_if_icmp .ne 67 K) ((xe_iconst 1).trans (congrArg (x_iconst 1) (xe_goto 68)))))))
abbrev po_X11_lawOf_e (T : Zt) (ru : Int → Int) (m k s p q : Int) : Zt → Option Zv → Prop := fun T' r => T = T' ∧ ∃ x : Int, r = some (vI x) ∧ ((0 ≤ x ∧ x ≤ 7) ∧ (x = 0 → LW_ T m k s p q) ∧ x = lwR_ ru (rp9_ T m) k s p q)
set_option maxHeartbeats 4000000 in
theorem ct_X11_lawOf_e {T : Zt} {ru : Int → Int} {m k s p q : Int} (h1 : 0 ≤ m ∧ m < 400) (hrl : RLR_ T m ru) : Ct_ yX11_lawOf zX11_lawOf T [vR 111 0, vI m, vI k, vI s, vI p, vI q] (po_X11_lawOf_e T ru m k s p q) := by
  refine ct_of pn_11 rfl rfl (Nat.le_of_ble_eq_true rfl) (fun hT hav => ?_)
  have hr_m : -2147483648 ≤ m ∧ m ≤ 2147483647 := hav (vI m) (List.mem_cons_of_mem _ List.mem_cons_self)
  have hr_k : -2147483648 ≤ k ∧ k ≤ 2147483647 := hav (vI k) (List.mem_cons_of_mem _ (List.mem_cons_of_mem _ List.mem_cons_self))
  have hr_s : -2147483648 ≤ s ∧ s ≤ 2147483647 := hav (vI s) (List.mem_cons_of_mem _ (List.mem_cons_of_mem _ (List.mem_cons_of_mem _ List.mem_cons_self)))
  have hr_p : -2147483648 ≤ p ∧ p ≤ 2147483647 := hav (vI p) (List.mem_cons_of_mem _ (List.mem_cons_of_mem _ (List.mem_cons_of_mem _ (List.mem_cons_of_mem _ List.mem_cons_self))))
  have hr_q : -2147483648 ≤ q ∧ q ≤ 2147483647 := hav (vI q) (List.mem_cons_of_mem _ (List.mem_cons_of_mem _ (List.mem_cons_of_mem _ (List.mem_cons_of_mem _ (List.mem_cons_of_mem _ List.mem_cons_self)))))
  have hz : zX11_lawOf.2.2.2.1 = some .boolean → ∀ (T' : Zt) (x : Int), po_X11_lawOf_e T ru m k s p q T' (some (vI x)) → 0 ≤ x ∧ x ≤ 1 := fun h => by cases h
  have z103_0 : rp9_ T m 103 3 = T 235 0 m := rp_v rfl rfl (by show m = _; omega)
  have z103_1 : rp9_ T m 103 4 = T 246 0 (8 * m + 0) := rp_v rfl rfl (by show 8 * m = _; omega)
  have z103_2 : rp9_ T m 103 5 = T 246 0 (8 * m + 5) := rp_v rfl rfl (by show 8 * m + 5 = _; omega)
  have hru0 := hrl 0 (by omega) (by omega)
  have hru10 := hrl 10 (by omega) (by omega)
  have hcb : 0 ≤ T 230 0 m ∧ T 230 0 m ≤ 3 := bd_a hT 230 (by decide +kernel : ta_ 230 = some (1, some 400, 0, 3)) 0 (by omega)
  show J_ zX11_lawOf T (po_X11_lawOf_e T ru m k s p q) 0 0 0 [some (vR 111 0), some (vI m), some (vI k), some (vI s), some (vI p), some (vI q), none, none, none] [] T
  have c_200 : ∀ (v : Int), (T 235 0 m = 1) → (lfT_ T m k s) → (lfN_ T m k s) → ((v = 1 ∧ lfW_ T m k) ∨ (v = 0 ∧ ¬ lfW_ T m k)) → (v = 1 → SL_ T (2 * m + s) p) → (v = 1 → slR_ (rp9_ T m) s p ≠ -1 ∧ rp9_ T m 472 (slR_ (rp9_ T m) s p) = 1) → (v = 1 → k = 5 → SL_ T (2 * m + s) q) → (v = 1 → k = 5 → slR_ (rp9_ T m) s q ≠ -1 ∧ rp9_ T m 472 (slR_ (rp9_ T m) s q) = 0) → (v = 1 → k = 5 → T 246 0 (8 * m + (6 + s)) ≠ T 205 0 (23 * T 230 0 m + 10)) → J_ zX11_lawOf T (po_X11_lawOf_e T ru m k s p q) 0 0 200 [some (vR 111 0), some (vI m), some (vI k), some (vI s), some (vI p), some (vI q), some (vI (T 205 0 (23 * T 230 0 m + 0))), none, some (vI v)] [] T := by
    intro v t1 t2 n3 v1 s1 q1 s2 q2 q6
    refine j_blx (F := fX11) tb_X11 (nn_ _) bk_X11_lawOf_e_200 bs_X11_lawOf_e_200 hz (fun K hK => ?_)
    refine hK 205 _ [vI q, vI k, vI (T 205 0 (23 * T 230 0 m + 0))] T ?_
    refine j_callS (y := yX11_isBounded) (Yc := zX11_isBounded) (rest := []) [vI (T 205 0 (23 * T 230 0 m + 0)), vI k, vI q] (ct_X11_isBounded_e (T := T)) cl_X11_407 (qd_c (by decide +kernel)) (nn_ _) rfl (rf_of rfl) (Nat.le_of_ble_eq_true rfl) (Nat.le_of_ble_eq_true rfl) (Nat.le_of_ble_eq_true rfl) rfl ?_
    rintro _ _ ⟨rfl, x1, rfl, hx1⟩
    show J_ zX11_lawOf T (po_X11_lawOf_e T ru m k s p q) 0 0 208 _ [vI x1] T
    refine j_blx (F := fX11) tb_X11 (nn_ _) bk_X11_lawOf_e_208 bs_X11_lawOf_e_208 hz (fun K hK => ?_)
    refine And.intro (fun c2 => ?_) (fun c2 => ?_)
    · replace hx1 := hx1.resolve_left (fun z => absurd (c2.symm.trans z.1) (by decide))
      clear c2
      refine hK 215 _ [] T ?_
      refine j_blx (F := fX11) tb_X11 (nn_ _) bk_X11_lawOf_e_215 bs_X11_lawOf_e_215 hz (fun K hK => ?_)
      refine (show po_X11_lawOf_e T ru m k s p q T (some (vI 7)) from ?_)
      by_cases d1 : v = 1
      · have q1z := q1 d1
        by_cases d2 : k = 5
        · have q2z := q2 d1 d2
          have q6z := q6 d1 d2
          have sb9 := lf_s t2 (v1.resolve_right (fun z => absurd (d1.symm.trans z.1) (by decide))).2
          have z469 : rp9_ T m 469 s = T 246 0 (8 * m + (6 + s)) := rp_v (dm_469 sb9) rfl (by show 8 * m + 6 + s = _; omega)
          have w9 := (v1.resolve_right (fun z => absurd (d1.symm.trans z.1) (by decide))).2
          unfold lfW_ at w9
          exfalso; omega
        · have w9 := (v1.resolve_right (fun z => absurd (d1.symm.trans z.1) (by decide))).2
          unfold lfW_ at w9
          exfalso; omega
      · exact ⟨rfl, _, rfl, by decide, fun z => absurd z (by decide), (lwR__12 (r := ru) (a := rp9_ T m) (k := k) (s := s) (q := p) (o := q) (fun z => z (z103_0.trans t1)) (fun z => z (by rw [← hru0]; exact t2)) (show ¬ ((ru 0 = 0 ∧ (k = 1 ∨ k = 2) ∧ (rp9_ T m) 103 4 = 1) ∨ (ru 0 = 3 ∧ (rp9_ T m) 103 5 ≠ s)) by rw [z103_1, z103_2, ← hru0]; exact n3) (show ¬ ((ru 0 = 0 ∧ 0 < k) ∨ (ru 0 = 1 ∧ k = 5)) from (by rw [← hru0]; exact (v1.resolve_left (fun z => d1 z.1)).2)) (show ¬ (ru 0 ≠ 3 ∨ k ≠ 1 ∨ (1 ≤ q ∧ q ≤ 4)) by (try simp only [z103_0, z103_1, z103_2, ← hru0, ← hru10]); omega)).symm⟩
    · refine hK 217 _ [vI 0] T ?_
      refine j_blx (F := fX11) tb_X11 (nn_ _) bk_X11_lawOf_e_217 bs_X11_lawOf_e_217 hz (fun K hK => ?_)
      refine (show po_X11_lawOf_e T ru m k s p q T (some (vI 0)) from ?_)
      have lw9 : LW_ T m k s p q := by
        clear n3 hx1
        have y2 := t2
        have y1 := v1
        unfold lfT_ at y2
        unfold lfW_ at y1
        refine ⟨t1, fun a => ⟨by clear y1; omega, by clear y1; omega, ?_, fun b => s2 (by clear y2; omega) b⟩, fun a => ⟨by clear y1; omega, by clear y1; omega, by clear y1; omega, fun b => ⟨s1 (by clear y2; omega), s2 (by clear y2; omega) b⟩⟩, fun a => by clear y1; omega⟩
        have k0 : 0 ≤ k := by clear y1; omega
        by_cases b : k = 0
        · exact Or.inl b
        · exact Or.inr ⟨by clear y1; omega, by clear y1; omega, s1 (by clear y2; omega)⟩
      by_cases d1 : v = 1
      · have q1z := q1 d1
        by_cases d2 : k = 5
        · have q2z := q2 d1 d2
          have q6z := q6 d1 d2
          have sb9 := lf_s t2 (v1.resolve_right (fun z => absurd (d1.symm.trans z.1) (by decide))).2
          have z469 : rp9_ T m 469 s = T 246 0 (8 * m + (6 + s)) := rp_v (dm_469 sb9) rfl (by show 8 * m + 6 + s = _; omega)
          exact ⟨rfl, _, rfl, by decide, fun _ => lw9, (lwR__7 (r := ru) (a := rp9_ T m) (k := k) (s := s) (q := p) (o := q) (fun z => z (z103_0.trans t1)) (fun z => z (by rw [← hru0]; exact t2)) (show ¬ ((ru 0 = 0 ∧ (k = 1 ∨ k = 2) ∧ (rp9_ T m) 103 4 = 1) ∨ (ru 0 = 3 ∧ (rp9_ T m) 103 5 ≠ s)) by rw [z103_1, z103_2, ← hru0]; exact n3) (show (ru 0 = 0 ∧ 0 < k) ∨ (ru 0 = 1 ∧ k = 5) from (by rw [← hru0]; exact (v1.resolve_right (fun z => absurd (d1.symm.trans z.1) (by decide))).2)) (show ¬ (¬ (slR_ (rp9_ T m) s p ≠ -1 ∧ (rp9_ T m) 472 (slR_ (rp9_ T m) s p) = 1)) by (try simp only [z103_0, z103_1, z103_2, ← hru0, ← hru10, z469]); omega) (show k = 5 by (try simp only [z103_0, z103_1, z103_2, ← hru0, ← hru10, z469]); omega) (show ¬ (¬ (slR_ (rp9_ T m) s q ≠ -1 ∧ (rp9_ T m) 472 (slR_ (rp9_ T m) s q) = 0)) by (try simp only [z103_0, z103_1, z103_2, ← hru0, ← hru10, z469]); omega) (show ¬ ((rp9_ T m) 469 s = ru 10) by (try simp only [z103_0, z103_1, z103_2, ← hru0, ← hru10, z469]); omega) (show ru 0 ≠ 3 ∨ k ≠ 1 ∨ (1 ≤ q ∧ q ≤ 4) by (try simp only [z103_0, z103_1, z103_2, ← hru0, ← hru10, z469]); omega)).symm⟩
        · exact ⟨rfl, _, rfl, by decide, fun _ => lw9, (lwR__9 (r := ru) (a := rp9_ T m) (k := k) (s := s) (q := p) (o := q) (fun z => z (z103_0.trans t1)) (fun z => z (by rw [← hru0]; exact t2)) (show ¬ ((ru 0 = 0 ∧ (k = 1 ∨ k = 2) ∧ (rp9_ T m) 103 4 = 1) ∨ (ru 0 = 3 ∧ (rp9_ T m) 103 5 ≠ s)) by rw [z103_1, z103_2, ← hru0]; exact n3) (show (ru 0 = 0 ∧ 0 < k) ∨ (ru 0 = 1 ∧ k = 5) from (by rw [← hru0]; exact (v1.resolve_right (fun z => absurd (d1.symm.trans z.1) (by decide))).2)) (show ¬ (¬ (slR_ (rp9_ T m) s p ≠ -1 ∧ (rp9_ T m) 472 (slR_ (rp9_ T m) s p) = 1)) by (try simp only [z103_0, z103_1, z103_2, ← hru0, ← hru10]); omega) (show ¬ (k = 5) by (try simp only [z103_0, z103_1, z103_2, ← hru0, ← hru10]); omega) (show ru 0 ≠ 3 ∨ k ≠ 1 ∨ (1 ≤ q ∧ q ≤ 4) by (try simp only [z103_0, z103_1, z103_2, ← hru0, ← hru10]); omega)).symm⟩
      · exact ⟨rfl, _, rfl, by decide, fun _ => lw9, (lwR__11 (r := ru) (a := rp9_ T m) (k := k) (s := s) (q := p) (o := q) (fun z => z (z103_0.trans t1)) (fun z => z (by rw [← hru0]; exact t2)) (show ¬ ((ru 0 = 0 ∧ (k = 1 ∨ k = 2) ∧ (rp9_ T m) 103 4 = 1) ∨ (ru 0 = 3 ∧ (rp9_ T m) 103 5 ≠ s)) by rw [z103_1, z103_2, ← hru0]; exact n3) (show ¬ ((ru 0 = 0 ∧ 0 < k) ∨ (ru 0 = 1 ∧ k = 5)) from (by rw [← hru0]; exact (v1.resolve_left (fun z => d1 z.1)).2)) (show ru 0 ≠ 3 ∨ k ≠ 1 ∨ (1 ≤ q ∧ q ≤ 4) by (try simp only [z103_0, z103_1, z103_2, ← hru0, ← hru10]); omega)).symm⟩
  have c_163 : ∀ (v : Int), (T 235 0 m = 1) → (lfT_ T m k s) → (lfN_ T m k s) → ((v = 1 ∧ lfW_ T m k) ∨ (v = 0 ∧ ¬ lfW_ T m k)) → (v = 1 → SL_ T (2 * m + s) p) → (v = 1 → slR_ (rp9_ T m) s p ≠ -1 ∧ rp9_ T m 472 (slR_ (rp9_ T m) s p) = 1) → (v = 1 → k = 5 → SL_ T (2 * m + s) q) → (v = 1 → k = 5 → slR_ (rp9_ T m) s q ≠ -1 ∧ rp9_ T m 472 (slR_ (rp9_ T m) s q) = 0) → J_ zX11_lawOf T (po_X11_lawOf_e T ru m k s p q) 0 0 163 [some (vR 111 0), some (vI m), some (vI k), some (vI s), some (vI p), some (vI q), some (vI (T 205 0 (23 * T 230 0 m + 0))), none, some (vI v)] [] T := by
    intro v t1 t2 n3 v1 s1 q1 s2 q2
    refine j_blx (F := fX11) tb_X11 (nn_ _) bk_X11_lawOf_e_163 bs_X11_lawOf_e_163 hz (fun K hK => ?_)
    refine And.intro (fun c3 => ?_) (fun c3 => ?_)
    · refine hK 200 _ [] T ?_
      refine c_200 v ?_ ?_ ?_ ?_ ?_ ?_ ?_ ?_ ?_
      · first
        | exact t1
        | omega
      · exact t2
      · exact n3
      · exact v1
      · intro z
        first
        | exact sl1
        | exact s1 z
        | (exfalso; omega)
      · intro z
        first
        | exact st1
        | exact q1 z
        | (exfalso; omega)
      · intro z y
        first
        | exact sl2
        | exact s2 z y
        | (exfalso; omega)
      · intro z y
        first
        | exact st2
        | exact q2 z y
        | (exfalso; omega)
      · intro z y
        first
        | exact q6 z y
        | omega
    · have sb9 := lf_s t2 (v1.resolve_right (fun z => absurd z.1 c3)).2
      refine And.intro (fun c4 => ?_) (fun c4 => ?_)
      · refine hK 200 _ [] T ?_
        refine c_200 v ?_ ?_ ?_ ?_ ?_ ?_ ?_ ?_ ?_
        · first
          | exact t1
          | omega
        · exact t2
        · exact n3
        · exact v1
        · intro z
          first
          | exact sl1
          | exact s1 z
          | (exfalso; omega)
        · intro z
          first
          | exact st1
          | exact q1 z
          | (exfalso; omega)
        · intro z y
          first
          | exact sl2
          | exact s2 z y
          | (exfalso; omega)
        · intro z y
          first
          | exact st2
          | exact q2 z y
          | (exfalso; omega)
        · intro z y
          first
          | exact q6 z y
          | omega
      · refine rg_i (by omega) ?_
        refine hK 179 _ [vI (6 + s), vI m, vR 111 0] T ?_
        refine j_callV (y := yX11_liveOf) (Yc := zX11_liveOf) (rest := []) [vI m, vI (6 + s)] (ct_X11_liveOf (T := T) (by omega) (by omega)) cl_X11_400 (qd_c (by decide +kernel)) (nn_ _) rfl (rf_of rfl) (Nat.le_of_ble_eq_true rfl) (Nat.le_of_ble_eq_true rfl) (Nat.le_of_ble_eq_true rfl) rfl ?_
        rintro _ _ ⟨rfl, rfl⟩
        show J_ zX11_lawOf T (po_X11_lawOf_e T ru m k s p q) 0 0 182 _ [vI (T 246 0 (8 * m + (6 + s)))] T
        refine j_blx (F := fX11) tb_X11 (nn_ _) bk_X11_lawOf_e_182 bs_X11_lawOf_e_182 hz (fun K hK => ?_)
        refine ix_i (by omega) ?_
        intro b5 b5b
        refine hK 191 _ [vI 10, vI (T 230 0 m), vR 111 0, vI (T 246 0 (8 * m + (6 + s)))] T ?_
        refine j_callV (y := yX11_rule0) (Yc := zX11_rule0) (rest := [vI (T 246 0 (8 * m + (6 + s)))]) [vI (T 230 0 m), vI 10] (ct_X11_rule0 (T := T) (by omega) (by omega)) cl_X11_321 (qd_c (by decide +kernel)) (nn_ _) rfl (rf_of rfl) (Nat.le_of_ble_eq_true rfl) (Nat.le_of_ble_eq_true rfl) (Nat.le_of_ble_eq_true rfl) rfl ?_
        rintro _ _ ⟨rfl, rfl⟩
        show J_ zX11_lawOf T (po_X11_lawOf_e T ru m k s p q) 0 0 194 _ [vI (T 205 0 (23 * (T 230 0 m) + 10)), vI (T 246 0 (8 * m + (6 + s)))] T
        refine j_blx (F := fX11) tb_X11 (nn_ _) bk_X11_lawOf_e_194 bs_X11_lawOf_e_194 hz (fun K hK => ?_)
        refine And.intro (fun c6 => ?_) (fun c6 => ?_)
        · refine hK 200 _ [] T ?_
          refine c_200 v ?_ ?_ ?_ ?_ ?_ ?_ ?_ ?_ ?_
          · first
            | exact t1
            | omega
          · exact t2
          · exact n3
          · exact v1
          · intro z
            first
            | exact sl1
            | exact s1 z
            | (exfalso; omega)
          · intro z
            first
            | exact st1
            | exact q1 z
            | (exfalso; omega)
          · intro z y
            first
            | exact sl2
            | exact s2 z y
            | (exfalso; omega)
          · intro z y
            first
            | exact st2
            | exact q2 z y
            | (exfalso; omega)
          · intro z y
            first
            | exact q6 z y
            | omega
        · refine (show po_X11_lawOf_e T ru m k s p q T (some (vI 6)) from ?_)
          have z469 : rp9_ T m 469 s = T 246 0 (8 * m + (6 + s)) := rp_v (dm_469 sb9) rfl (by show 8 * m + 6 + s = _; omega)
          exact ⟨rfl, _, rfl, by decide, fun z => absurd z (by decide), (lwR__6 (r := ru) (a := rp9_ T m) (k := k) (s := s) (q := p) (o := q) (fun z => z (z103_0.trans t1)) (fun z => z (by rw [← hru0]; exact t2)) (show ¬ ((ru 0 = 0 ∧ (k = 1 ∨ k = 2) ∧ (rp9_ T m) 103 4 = 1) ∨ (ru 0 = 3 ∧ (rp9_ T m) 103 5 ≠ s)) by rw [z103_1, z103_2, ← hru0]; exact n3) (show (ru 0 = 0 ∧ 0 < k) ∨ (ru 0 = 1 ∧ k = 5) from (by rw [← hru0]; exact (v1.resolve_right (fun z => absurd z.1 c3)).2)) (show ¬ (¬ (slR_ (rp9_ T m) s p ≠ -1 ∧ (rp9_ T m) 472 (slR_ (rp9_ T m) s p) = 1)) by (try simp only [z103_0, z103_1, z103_2, ← hru0, ← hru10, z469]); omega) (show k = 5 by (try simp only [z103_0, z103_1, z103_2, ← hru0, ← hru10, z469]); omega) (show ¬ (¬ (slR_ (rp9_ T m) s q ≠ -1 ∧ (rp9_ T m) 472 (slR_ (rp9_ T m) s q) = 0)) by (try simp only [z103_0, z103_1, z103_2, ← hru0, ← hru10, z469]); omega) (show (rp9_ T m) 469 s = ru 10 by (try simp only [z103_0, z103_1, z103_2, ← hru0, ← hru10, z469]); omega)).symm⟩
  have c_139 : ∀ (v : Int), (T 235 0 m = 1) → (lfT_ T m k s) → (lfN_ T m k s) → ((v = 1 ∧ lfW_ T m k) ∨ (v = 0 ∧ ¬ lfW_ T m k)) → (v = 1 → SL_ T (2 * m + s) p) → (v = 1 → slR_ (rp9_ T m) s p ≠ -1 ∧ rp9_ T m 472 (slR_ (rp9_ T m) s p) = 1) → J_ zX11_lawOf T (po_X11_lawOf_e T ru m k s p q) 0 0 139 [some (vR 111 0), some (vI m), some (vI k), some (vI s), some (vI p), some (vI q), some (vI (T 205 0 (23 * T 230 0 m + 0))), none, some (vI v)] [] T := by
    intro v t1 t2 n3 v1 s1 q1
    refine j_blx (F := fX11) tb_X11 (nn_ _) bk_X11_lawOf_e_139 bs_X11_lawOf_e_139 hz (fun K hK => ?_)
    refine And.intro (fun c7 => ?_) (fun c7 => ?_)
    · refine hK 163 _ [] T ?_
      refine c_163 v ?_ ?_ ?_ ?_ ?_ ?_ ?_ ?_
      · first
        | exact t1
        | omega
      · exact t2
      · exact n3
      · exact v1
      · intro z
        first
        | exact sl1
        | exact s1 z
        | (exfalso; omega)
      · intro z
        first
        | exact st1
        | exact q1 z
        | (exfalso; omega)
      · intro z y
        first
        | exact sl2
        | exact s2 z y
        | (exfalso; omega)
      · intro z y
        first
        | exact st2
        | exact q2 z y
        | (exfalso; omega)
    · have sb9 := lf_s t2 (v1.resolve_right (fun z => absurd z.1 c7)).2
      refine And.intro (fun c8 => ?_) (fun c8 => ?_)
      · refine hK 163 _ [] T ?_
        refine c_163 v ?_ ?_ ?_ ?_ ?_ ?_ ?_ ?_
        · first
          | exact t1
          | omega
        · exact t2
        · exact n3
        · exact v1
        · intro z
          first
          | exact sl1
          | exact s1 z
          | (exfalso; omega)
        · intro z
          first
          | exact st1
          | exact q1 z
          | (exfalso; omega)
        · intro z y
          first
          | exact sl2
          | exact s2 z y
          | (exfalso; omega)
        · intro z y
          first
          | exact st2
          | exact q2 z y
          | (exfalso; omega)
      · refine hK 155 _ [vI 0, vI q, vI s, vI m, vR 111 0] T ?_
        refine j_callV (y := yX11_stands) (Yc := zX11_stands) (rest := []) [vI m, vI s, vI q, vI 0] (ct_X11_stands_e (T := T) (by omega) (by omega)) cl_X11_403 (qd_c (by decide +kernel)) (nn_ _) rfl (rf_of rfl) (Nat.le_of_ble_eq_true rfl) (Nat.le_of_ble_eq_true rfl) (Nat.le_of_ble_eq_true rfl) rfl ?_
        rintro _ _ ⟨rfl, x9, rfl, hx9⟩
        show J_ zX11_lawOf T (po_X11_lawOf_e T ru m k s p q) 0 0 158 _ [vI x9] T
        refine j_blx (F := fX11) tb_X11 (nn_ _) bk_X11_lawOf_e_158 bs_X11_lawOf_e_158 hz (fun K hK => ?_)
        refine And.intro (fun c10 => ?_) (fun c10 => ?_)
        · have sl2 : SL_ T (2 * m + s) q := by
            rcases hx9 with z | z
            · exact z.2.1
            · omega
          have st2 : slR_ (rp9_ T m) s q ≠ -1 ∧ rp9_ T m 472 (slR_ (rp9_ T m) s q) = 0 := by
            rcases hx9 with z | z
            · exact z.2.2
            · omega
          refine hK 163 _ [] T ?_
          refine c_163 v ?_ ?_ ?_ ?_ ?_ ?_ ?_ ?_
          · first
            | exact t1
            | omega
          · exact t2
          · exact n3
          · exact v1
          · intro z
            first
            | exact sl1
            | exact s1 z
            | (exfalso; omega)
          · intro z
            first
            | exact st1
            | exact q1 z
            | (exfalso; omega)
          · intro z y
            first
            | exact sl2
            | exact s2 z y
            | (exfalso; omega)
          · intro z y
            first
            | exact st2
            | exact q2 z y
            | (exfalso; omega)
        · have ns2 : ¬ (slR_ (rp9_ T m) s q ≠ -1 ∧ rp9_ T m 472 (slR_ (rp9_ T m) s q) = 0) := by
            rcases hx9 with z | z
            · omega
            · exact z.2
          refine (show po_X11_lawOf_e T ru m k s p q T (some (vI 5)) from ?_)
          exact ⟨rfl, _, rfl, by decide, fun z => absurd z (by decide), (lwR__5 (r := ru) (a := rp9_ T m) (k := k) (s := s) (q := p) (o := q) (fun z => z (z103_0.trans t1)) (fun z => z (by rw [← hru0]; exact t2)) (show ¬ ((ru 0 = 0 ∧ (k = 1 ∨ k = 2) ∧ (rp9_ T m) 103 4 = 1) ∨ (ru 0 = 3 ∧ (rp9_ T m) 103 5 ≠ s)) by rw [z103_1, z103_2, ← hru0]; exact n3) (show (ru 0 = 0 ∧ 0 < k) ∨ (ru 0 = 1 ∧ k = 5) from (by rw [← hru0]; exact (v1.resolve_right (fun z => absurd z.1 c7)).2)) (show ¬ (¬ (slR_ (rp9_ T m) s p ≠ -1 ∧ (rp9_ T m) 472 (slR_ (rp9_ T m) s p) = 1)) by (try simp only [z103_0, z103_1, z103_2, ← hru0, ← hru10]); omega) (show k = 5 by (try simp only [z103_0, z103_1, z103_2, ← hru0, ← hru10]); omega) (show ¬ (slR_ (rp9_ T m) s q ≠ -1 ∧ (rp9_ T m) 472 (slR_ (rp9_ T m) s q) = 0) by (try simp only [z103_0, z103_1, z103_2, ← hru0, ← hru10]); omega)).symm⟩
  have c_118 : ∀ (v : Int), (T 235 0 m = 1) → (lfT_ T m k s) → (lfN_ T m k s) → ((v = 1 ∧ lfW_ T m k) ∨ (v = 0 ∧ ¬ lfW_ T m k)) → J_ zX11_lawOf T (po_X11_lawOf_e T ru m k s p q) 0 0 118 [some (vR 111 0), some (vI m), some (vI k), some (vI s), some (vI p), some (vI q), some (vI (T 205 0 (23 * T 230 0 m + 0))), none, none] [vI v] T := by
    intro v t1 t2 n3 v1
    refine j_blx (F := fX11) tb_X11 (nn_ _) bk_X11_lawOf_e_118 bs_X11_lawOf_e_118 hz (fun K hK => ?_)
    refine And.intro (fun c11 => ?_) (fun c11 => ?_)
    · refine hK 139 [some (vR 111 0), some (vI m), some (vI k), some (vI s), some (vI p), some (vI q), some (vI (T 205 0 (23 * T 230 0 m + 0))), none, some (vI v)] [] T ?_
      refine c_139 v ?_ ?_ ?_ ?_ ?_ ?_
      · first
        | exact t1
        | omega
      · exact t2
      · exact n3
      · exact v1
      · intro z
        first
        | exact sl1
        | exact s1 z
        | (exfalso; omega)
      · intro z
        first
        | exact st1
        | exact q1 z
        | (exfalso; omega)
    · have sb9 := lf_s t2 (v1.resolve_right (fun z => absurd z.1 c11)).2
      refine hK 131 _ [vI 1, vI p, vI s, vI m, vR 111 0] T ?_
      refine j_callV (y := yX11_stands) (Yc := zX11_stands) (rest := []) [vI m, vI s, vI p, vI 1] (ct_X11_stands_e (T := T) (by omega) (by omega)) cl_X11_403 (qd_c (by decide +kernel)) (nn_ _) rfl (rf_of rfl) (Nat.le_of_ble_eq_true rfl) (Nat.le_of_ble_eq_true rfl) (Nat.le_of_ble_eq_true rfl) rfl ?_
      rintro _ _ ⟨rfl, x12, rfl, hx12⟩
      show J_ zX11_lawOf T (po_X11_lawOf_e T ru m k s p q) 0 0 134 _ [vI x12] T
      refine j_blx (F := fX11) tb_X11 (nn_ _) bk_X11_lawOf_e_134 bs_X11_lawOf_e_134 hz (fun K hK => ?_)
      refine And.intro (fun c13 => ?_) (fun c13 => ?_)
      · have sl1 : SL_ T (2 * m + s) p := by
          rcases hx12 with z | z
          · exact z.2.1
          · omega
        have st1 : slR_ (rp9_ T m) s p ≠ -1 ∧ rp9_ T m 472 (slR_ (rp9_ T m) s p) = 1 := by
          rcases hx12 with z | z
          · exact z.2.2
          · omega
        refine hK 139 _ [] T ?_
        refine c_139 v ?_ ?_ ?_ ?_ ?_ ?_
        · first
          | exact t1
          | omega
        · exact t2
        · exact n3
        · exact v1
        · intro z
          first
          | exact sl1
          | exact s1 z
          | (exfalso; omega)
        · intro z
          first
          | exact st1
          | exact q1 z
          | (exfalso; omega)
      · have ns1 : ¬ (slR_ (rp9_ T m) s p ≠ -1 ∧ rp9_ T m 472 (slR_ (rp9_ T m) s p) = 1) := by
          rcases hx12 with z | z
          · omega
          · exact z.2
        refine (show po_X11_lawOf_e T ru m k s p q T (some (vI 4)) from ?_)
        exact ⟨rfl, _, rfl, by decide, fun z => absurd z (by decide), (lwR__4 (r := ru) (a := rp9_ T m) (k := k) (s := s) (q := p) (o := q) (fun z => z (z103_0.trans t1)) (fun z => z (by rw [← hru0]; exact t2)) (show ¬ ((ru 0 = 0 ∧ (k = 1 ∨ k = 2) ∧ (rp9_ T m) 103 4 = 1) ∨ (ru 0 = 3 ∧ (rp9_ T m) 103 5 ≠ s)) by rw [z103_1, z103_2, ← hru0]; exact n3) (show (ru 0 = 0 ∧ 0 < k) ∨ (ru 0 = 1 ∧ k = 5) from (by rw [← hru0]; exact (v1.resolve_right (fun z => absurd z.1 c11)).2)) (show ¬ (slR_ (rp9_ T m) s p ≠ -1 ∧ (rp9_ T m) 472 (slR_ (rp9_ T m) s p) = 1) by (try simp only [z103_0, z103_1, z103_2, ← hru0, ← hru10]); omega)).symm⟩
  have c_68 : ∀ (v : Int), (T 235 0 m = 1) → (lfT_ T m k s) → ((v = 1 ∧ (T 205 0 (23 * T 230 0 m + 0) = 0 ∧ (k = 1 ∨ k = 2) ∧ T 246 0 (8 * m + 0) = 1)) ∨ (v = 0 ∧ ¬ (T 205 0 (23 * T 230 0 m + 0) = 0 ∧ (k = 1 ∨ k = 2) ∧ T 246 0 (8 * m + 0) = 1))) → J_ zX11_lawOf T (po_X11_lawOf_e T ru m k s p q) 0 0 68 [some (vR 111 0), some (vI m), some (vI k), some (vI s), some (vI p), some (vI q), some (vI (T 205 0 (23 * T 230 0 m + 0))), none, none] [vI v] T := by
    intro v t1 t2 v0
    refine j_blx (F := fX11) tb_X11 (nn_ _) bk_X11_lawOf_e_68 bs_X11_lawOf_e_68 hz (fun K hK => ?_)
    refine And.intro (fun c14 => ?_) (fun c14 => ?_)
    · refine hK 91 [some (vR 111 0), some (vI m), some (vI k), some (vI s), some (vI p), some (vI q), some (vI (T 205 0 (23 * T 230 0 m + 0))), some (vI v), none] [] T ?_
      refine j_blx (F := fX11) tb_X11 (nn_ _) bk_X11_lawOf_e_91 bs_X11_lawOf_e_91 hz (fun K hK => ?_)
      refine (show po_X11_lawOf_e T ru m k s p q T (some (vI 3)) from ?_)
      exact ⟨rfl, _, rfl, by decide, fun z => absurd z (by decide), (lwR__3 (r := ru) (a := rp9_ T m) (k := k) (s := s) (q := p) (o := q) (fun z => z (z103_0.trans t1)) (fun z => z (by rw [← hru0]; exact t2)) (show (ru 0 = 0 ∧ (k = 1 ∨ k = 2) ∧ (rp9_ T m) 103 4 = 1) ∨ (ru 0 = 3 ∧ (rp9_ T m) 103 5 ≠ s) by (try simp only [z103_0, z103_1, z103_2, ← hru0, ← hru10]); omega)).symm⟩
    · refine And.intro (fun c15 => ?_) (fun c15 => ?_)
      · refine hK 93 _ [] T ?_
        refine j_blx (F := fX11) tb_X11 (nn_ _) bk_X11_lawOf_e_93 bs_X11_lawOf_e_93 hz (fun K hK => ?_)
        refine And.intro (fun c16 => ?_) (fun c16 => ?_)
        · refine hK 102 _ [] T ?_
          refine j_blx (F := fX11) tb_X11 (nn_ _) bk_X11_lawOf_e_102 bs_X11_lawOf_e_102 hz (fun K hK => ?_)
          refine And.intro (fun c17 => ?_) (fun c17 => ?_)
          · refine hK 117 _ [] T ?_
            refine j_blx (F := fX11) tb_X11 (nn_ _) bk_X11_lawOf_e_117 bs_X11_lawOf_e_117 hz (fun K hK => ?_)
            refine hK 118 _ [vI 0] T ?_
            refine j_drop [some (vR 111 0), some (vI m), some (vI k), some (vI s), some (vI p), some (vI q), some (vI (T 205 0 (23 * T 230 0 m + 0))), none, none] (fun k v hk => ?_) rfl ?_
            · match k, hk with
              | 0, hk => exact hk
              | 1, hk => exact hk
              | 2, hk => exact hk
              | 3, hk => exact hk
              | 4, hk => exact hk
              | 5, hk => exact hk
              | 6, hk => exact hk
              | 7, hk => cases hk
              | 8, hk => cases hk
              | k + 9, hk => cases hk
            refine c_118 0 ?_ ?_ ?_ ?_
            · first
              | exact t1
              | omega
            · exact t2
            · unfold lfN_
              omega
            · exact Or.inr ⟨rfl, by unfold lfW_; omega⟩
          · refine And.intro (fun c18 => ?_) (fun c18 => ?_)
            · refine hK 117 [some (vR 111 0), some (vI m), some (vI k), some (vI s), some (vI p), some (vI q), some (vI (T 205 0 (23 * T 230 0 m + 0))), some (vI v), none] [] T ?_
              refine j_blx (F := fX11) tb_X11 (nn_ _) bk_X11_lawOf_e_117 bs_X11_lawOf_e_117 hz (fun K hK => ?_)
              refine hK 118 _ [vI 0] T ?_
              refine j_drop [some (vR 111 0), some (vI m), some (vI k), some (vI s), some (vI p), some (vI q), some (vI (T 205 0 (23 * T 230 0 m + 0))), none, none] (fun k v hk => ?_) rfl ?_
              · match k, hk with
                | 0, hk => exact hk
                | 1, hk => exact hk
                | 2, hk => exact hk
                | 3, hk => exact hk
                | 4, hk => exact hk
                | 5, hk => exact hk
                | 6, hk => exact hk
                | 7, hk => cases hk
                | 8, hk => cases hk
                | k + 9, hk => cases hk
              refine c_118 0 ?_ ?_ ?_ ?_
              · first
                | exact t1
                | omega
              · exact t2
              · unfold lfN_
                omega
              · exact Or.inr ⟨rfl, by unfold lfW_; omega⟩
            · refine hK 118 [some (vR 111 0), some (vI m), some (vI k), some (vI s), some (vI p), some (vI q), some (vI (T 205 0 (23 * T 230 0 m + 0))), some (vI v), none] [vI 1] T ?_
              refine j_drop [some (vR 111 0), some (vI m), some (vI k), some (vI s), some (vI p), some (vI q), some (vI (T 205 0 (23 * T 230 0 m + 0))), none, none] (fun k v hk => ?_) rfl ?_
              · match k, hk with
                | 0, hk => exact hk
                | 1, hk => exact hk
                | 2, hk => exact hk
                | 3, hk => exact hk
                | 4, hk => exact hk
                | 5, hk => exact hk
                | 6, hk => exact hk
                | 7, hk => cases hk
                | 8, hk => cases hk
                | k + 9, hk => cases hk
              refine c_118 1 ?_ ?_ ?_ ?_
              · first
                | exact t1
                | omega
              · exact t2
              · unfold lfN_
                omega
              · exact Or.inl ⟨rfl, by unfold lfW_; omega⟩
        · refine And.intro (fun c19 => ?_) (fun c19 => ?_)
          · refine hK 113 _ [] T ?_
            refine j_blx (F := fX11) tb_X11 (nn_ _) bk_X11_lawOf_e_113 bs_X11_lawOf_e_113 hz (fun K hK => ?_)
            refine hK 118 _ [vI 1] T ?_
            refine j_drop [some (vR 111 0), some (vI m), some (vI k), some (vI s), some (vI p), some (vI q), some (vI (T 205 0 (23 * T 230 0 m + 0))), none, none] (fun k v hk => ?_) rfl ?_
            · match k, hk with
              | 0, hk => exact hk
              | 1, hk => exact hk
              | 2, hk => exact hk
              | 3, hk => exact hk
              | 4, hk => exact hk
              | 5, hk => exact hk
              | 6, hk => exact hk
              | 7, hk => cases hk
              | 8, hk => cases hk
              | k + 9, hk => cases hk
            refine c_118 1 ?_ ?_ ?_ ?_
            · first
              | exact t1
              | omega
            · exact t2
            · unfold lfN_
              omega
            · exact Or.inl ⟨rfl, by unfold lfW_; omega⟩
          · refine And.intro (fun c20 => ?_) (fun c20 => ?_)
            · refine hK 117 [some (vR 111 0), some (vI m), some (vI k), some (vI s), some (vI p), some (vI q), some (vI (T 205 0 (23 * T 230 0 m + 0))), some (vI v), none] [] T ?_
              refine j_blx (F := fX11) tb_X11 (nn_ _) bk_X11_lawOf_e_117 bs_X11_lawOf_e_117 hz (fun K hK => ?_)
              refine hK 118 _ [vI 0] T ?_
              refine j_drop [some (vR 111 0), some (vI m), some (vI k), some (vI s), some (vI p), some (vI q), some (vI (T 205 0 (23 * T 230 0 m + 0))), none, none] (fun k v hk => ?_) rfl ?_
              · match k, hk with
                | 0, hk => exact hk
                | 1, hk => exact hk
                | 2, hk => exact hk
                | 3, hk => exact hk
                | 4, hk => exact hk
                | 5, hk => exact hk
                | 6, hk => exact hk
                | 7, hk => cases hk
                | 8, hk => cases hk
                | k + 9, hk => cases hk
              refine c_118 0 ?_ ?_ ?_ ?_
              · first
                | exact t1
                | omega
              · exact t2
              · unfold lfN_
                omega
              · exact Or.inr ⟨rfl, by unfold lfW_; omega⟩
            · refine And.intro (fun c21 => ?_) (fun c21 => ?_)
              · refine hK 117 [some (vR 111 0), some (vI m), some (vI k), some (vI s), some (vI p), some (vI q), some (vI (T 205 0 (23 * T 230 0 m + 0))), some (vI v), none] [] T ?_
                refine j_blx (F := fX11) tb_X11 (nn_ _) bk_X11_lawOf_e_117 bs_X11_lawOf_e_117 hz (fun K hK => ?_)
                refine hK 118 _ [vI 0] T ?_
                refine j_drop [some (vR 111 0), some (vI m), some (vI k), some (vI s), some (vI p), some (vI q), some (vI (T 205 0 (23 * T 230 0 m + 0))), none, none] (fun k v hk => ?_) rfl ?_
                · match k, hk with
                  | 0, hk => exact hk
                  | 1, hk => exact hk
                  | 2, hk => exact hk
                  | 3, hk => exact hk
                  | 4, hk => exact hk
                  | 5, hk => exact hk
                  | 6, hk => exact hk
                  | 7, hk => cases hk
                  | 8, hk => cases hk
                  | k + 9, hk => cases hk
                refine c_118 0 ?_ ?_ ?_ ?_
                · first
                  | exact t1
                  | omega
                · exact t2
                · unfold lfN_
                  omega
                · exact Or.inr ⟨rfl, by unfold lfW_; omega⟩
              · refine hK 118 [some (vR 111 0), some (vI m), some (vI k), some (vI s), some (vI p), some (vI q), some (vI (T 205 0 (23 * T 230 0 m + 0))), some (vI v), none] [vI 1] T ?_
                refine j_drop [some (vR 111 0), some (vI m), some (vI k), some (vI s), some (vI p), some (vI q), some (vI (T 205 0 (23 * T 230 0 m + 0))), none, none] (fun k v hk => ?_) rfl ?_
                · match k, hk with
                  | 0, hk => exact hk
                  | 1, hk => exact hk
                  | 2, hk => exact hk
                  | 3, hk => exact hk
                  | 4, hk => exact hk
                  | 5, hk => exact hk
                  | 6, hk => exact hk
                  | 7, hk => cases hk
                  | 8, hk => cases hk
                  | k + 9, hk => cases hk
                refine c_118 1 ?_ ?_ ?_ ?_
                · first
                  | exact t1
                  | omega
                · exact t2
                · unfold lfN_
                  omega
                · exact Or.inl ⟨rfl, by unfold lfW_; omega⟩
      · refine hK 84 _ [vI 5, vI m, vR 111 0] T ?_
        refine j_callV (y := yX11_liveOf) (Yc := zX11_liveOf) (rest := []) [vI m, vI 5] (ct_X11_liveOf (T := T) (by omega) (by omega)) cl_X11_400 (qd_c (by decide +kernel)) (nn_ _) rfl (rf_of rfl) (Nat.le_of_ble_eq_true rfl) (Nat.le_of_ble_eq_true rfl) (Nat.le_of_ble_eq_true rfl) rfl ?_
        rintro _ _ ⟨rfl, rfl⟩
        show J_ zX11_lawOf T (po_X11_lawOf_e T ru m k s p q) 0 0 87 _ [vI (T 246 0 (8 * m + 5))] T
        refine j_blx (F := fX11) tb_X11 (nn_ _) bk_X11_lawOf_e_87 bs_X11_lawOf_e_87 hz (fun K hK => ?_)
        refine And.intro (fun c22 => ?_) (fun c22 => ?_)
        · refine hK 93 _ [] T ?_
          refine j_blx (F := fX11) tb_X11 (nn_ _) bk_X11_lawOf_e_93 bs_X11_lawOf_e_93 hz (fun K hK => ?_)
          refine And.intro (fun c23 => ?_) (fun c23 => ?_)
          · refine hK 102 _ [] T ?_
            refine j_blx (F := fX11) tb_X11 (nn_ _) bk_X11_lawOf_e_102 bs_X11_lawOf_e_102 hz (fun K hK => ?_)
            refine And.intro (fun c24 => ?_) (fun c24 => ?_)
            · refine hK 117 _ [] T ?_
              refine j_blx (F := fX11) tb_X11 (nn_ _) bk_X11_lawOf_e_117 bs_X11_lawOf_e_117 hz (fun K hK => ?_)
              refine hK 118 _ [vI 0] T ?_
              refine j_drop [some (vR 111 0), some (vI m), some (vI k), some (vI s), some (vI p), some (vI q), some (vI (T 205 0 (23 * T 230 0 m + 0))), none, none] (fun k v hk => ?_) rfl ?_
              · match k, hk with
                | 0, hk => exact hk
                | 1, hk => exact hk
                | 2, hk => exact hk
                | 3, hk => exact hk
                | 4, hk => exact hk
                | 5, hk => exact hk
                | 6, hk => exact hk
                | 7, hk => cases hk
                | 8, hk => cases hk
                | k + 9, hk => cases hk
              refine c_118 0 ?_ ?_ ?_ ?_
              · first
                | exact t1
                | omega
              · exact t2
              · unfold lfN_
                omega
              · exact Or.inr ⟨rfl, by unfold lfW_; omega⟩
            · refine And.intro (fun c25 => ?_) (fun c25 => ?_)
              · refine hK 117 [some (vR 111 0), some (vI m), some (vI k), some (vI s), some (vI p), some (vI q), some (vI (T 205 0 (23 * T 230 0 m + 0))), some (vI v), none] [] T ?_
                refine j_blx (F := fX11) tb_X11 (nn_ _) bk_X11_lawOf_e_117 bs_X11_lawOf_e_117 hz (fun K hK => ?_)
                refine hK 118 _ [vI 0] T ?_
                refine j_drop [some (vR 111 0), some (vI m), some (vI k), some (vI s), some (vI p), some (vI q), some (vI (T 205 0 (23 * T 230 0 m + 0))), none, none] (fun k v hk => ?_) rfl ?_
                · match k, hk with
                  | 0, hk => exact hk
                  | 1, hk => exact hk
                  | 2, hk => exact hk
                  | 3, hk => exact hk
                  | 4, hk => exact hk
                  | 5, hk => exact hk
                  | 6, hk => exact hk
                  | 7, hk => cases hk
                  | 8, hk => cases hk
                  | k + 9, hk => cases hk
                refine c_118 0 ?_ ?_ ?_ ?_
                · first
                  | exact t1
                  | omega
                · exact t2
                · unfold lfN_
                  omega
                · exact Or.inr ⟨rfl, by unfold lfW_; omega⟩
              · refine hK 118 [some (vR 111 0), some (vI m), some (vI k), some (vI s), some (vI p), some (vI q), some (vI (T 205 0 (23 * T 230 0 m + 0))), some (vI v), none] [vI 1] T ?_
                refine j_drop [some (vR 111 0), some (vI m), some (vI k), some (vI s), some (vI p), some (vI q), some (vI (T 205 0 (23 * T 230 0 m + 0))), none, none] (fun k v hk => ?_) rfl ?_
                · match k, hk with
                  | 0, hk => exact hk
                  | 1, hk => exact hk
                  | 2, hk => exact hk
                  | 3, hk => exact hk
                  | 4, hk => exact hk
                  | 5, hk => exact hk
                  | 6, hk => exact hk
                  | 7, hk => cases hk
                  | 8, hk => cases hk
                  | k + 9, hk => cases hk
                refine c_118 1 ?_ ?_ ?_ ?_
                · first
                  | exact t1
                  | omega
                · exact t2
                · unfold lfN_
                  omega
                · exact Or.inl ⟨rfl, by unfold lfW_; omega⟩
          · refine And.intro (fun c26 => ?_) (fun c26 => ?_)
            · refine hK 113 _ [] T ?_
              refine j_blx (F := fX11) tb_X11 (nn_ _) bk_X11_lawOf_e_113 bs_X11_lawOf_e_113 hz (fun K hK => ?_)
              refine hK 118 _ [vI 1] T ?_
              refine j_drop [some (vR 111 0), some (vI m), some (vI k), some (vI s), some (vI p), some (vI q), some (vI (T 205 0 (23 * T 230 0 m + 0))), none, none] (fun k v hk => ?_) rfl ?_
              · match k, hk with
                | 0, hk => exact hk
                | 1, hk => exact hk
                | 2, hk => exact hk
                | 3, hk => exact hk
                | 4, hk => exact hk
                | 5, hk => exact hk
                | 6, hk => exact hk
                | 7, hk => cases hk
                | 8, hk => cases hk
                | k + 9, hk => cases hk
              refine c_118 1 ?_ ?_ ?_ ?_
              · first
                | exact t1
                | omega
              · exact t2
              · unfold lfN_
                omega
              · exact Or.inl ⟨rfl, by unfold lfW_; omega⟩
            · refine And.intro (fun c27 => ?_) (fun c27 => ?_)
              · refine hK 117 [some (vR 111 0), some (vI m), some (vI k), some (vI s), some (vI p), some (vI q), some (vI (T 205 0 (23 * T 230 0 m + 0))), some (vI v), none] [] T ?_
                refine j_blx (F := fX11) tb_X11 (nn_ _) bk_X11_lawOf_e_117 bs_X11_lawOf_e_117 hz (fun K hK => ?_)
                refine hK 118 _ [vI 0] T ?_
                refine j_drop [some (vR 111 0), some (vI m), some (vI k), some (vI s), some (vI p), some (vI q), some (vI (T 205 0 (23 * T 230 0 m + 0))), none, none] (fun k v hk => ?_) rfl ?_
                · match k, hk with
                  | 0, hk => exact hk
                  | 1, hk => exact hk
                  | 2, hk => exact hk
                  | 3, hk => exact hk
                  | 4, hk => exact hk
                  | 5, hk => exact hk
                  | 6, hk => exact hk
                  | 7, hk => cases hk
                  | 8, hk => cases hk
                  | k + 9, hk => cases hk
                refine c_118 0 ?_ ?_ ?_ ?_
                · first
                  | exact t1
                  | omega
                · exact t2
                · unfold lfN_
                  omega
                · exact Or.inr ⟨rfl, by unfold lfW_; omega⟩
              · refine And.intro (fun c28 => ?_) (fun c28 => ?_)
                · refine hK 117 [some (vR 111 0), some (vI m), some (vI k), some (vI s), some (vI p), some (vI q), some (vI (T 205 0 (23 * T 230 0 m + 0))), some (vI v), none] [] T ?_
                  refine j_blx (F := fX11) tb_X11 (nn_ _) bk_X11_lawOf_e_117 bs_X11_lawOf_e_117 hz (fun K hK => ?_)
                  refine hK 118 _ [vI 0] T ?_
                  refine j_drop [some (vR 111 0), some (vI m), some (vI k), some (vI s), some (vI p), some (vI q), some (vI (T 205 0 (23 * T 230 0 m + 0))), none, none] (fun k v hk => ?_) rfl ?_
                  · match k, hk with
                    | 0, hk => exact hk
                    | 1, hk => exact hk
                    | 2, hk => exact hk
                    | 3, hk => exact hk
                    | 4, hk => exact hk
                    | 5, hk => exact hk
                    | 6, hk => exact hk
                    | 7, hk => cases hk
                    | 8, hk => cases hk
                    | k + 9, hk => cases hk
                  refine c_118 0 ?_ ?_ ?_ ?_
                  · first
                    | exact t1
                    | omega
                  · exact t2
                  · unfold lfN_
                    omega
                  · exact Or.inr ⟨rfl, by unfold lfW_; omega⟩
                · refine hK 118 [some (vR 111 0), some (vI m), some (vI k), some (vI s), some (vI p), some (vI q), some (vI (T 205 0 (23 * T 230 0 m + 0))), some (vI v), none] [vI 1] T ?_
                  refine j_drop [some (vR 111 0), some (vI m), some (vI k), some (vI s), some (vI p), some (vI q), some (vI (T 205 0 (23 * T 230 0 m + 0))), none, none] (fun k v hk => ?_) rfl ?_
                  · match k, hk with
                    | 0, hk => exact hk
                    | 1, hk => exact hk
                    | 2, hk => exact hk
                    | 3, hk => exact hk
                    | 4, hk => exact hk
                    | 5, hk => exact hk
                    | 6, hk => exact hk
                    | 7, hk => cases hk
                    | 8, hk => cases hk
                    | k + 9, hk => cases hk
                  refine c_118 1 ?_ ?_ ?_ ?_
                  · first
                    | exact t1
                    | omega
                  · exact t2
                  · unfold lfN_
                    omega
                  · exact Or.inl ⟨rfl, by unfold lfW_; omega⟩
        · refine (show po_X11_lawOf_e T ru m k s p q T (some (vI 3)) from ?_)
          exact ⟨rfl, _, rfl, by decide, fun z => absurd z (by decide), (lwR__3 (r := ru) (a := rp9_ T m) (k := k) (s := s) (q := p) (o := q) (fun z => z (z103_0.trans t1)) (fun z => z (by rw [← hru0]; exact t2)) (show (ru 0 = 0 ∧ (k = 1 ∨ k = 2) ∧ (rp9_ T m) 103 4 = 1) ∨ (ru 0 = 3 ∧ (rp9_ T m) 103 5 ≠ s) by (try simp only [z103_0, z103_1, z103_2, ← hru0, ← hru10]); omega)).symm⟩
  refine j_blx (F := fX11) tb_X11 (nn_ _) bk_X11_lawOf_e_0 bs_X11_lawOf_e_0 hz (fun K hK => ?_)
  refine ix_i (by omega) ?_
  intro b29 b29b
  refine hK 8 _ [vI 0, vI (T 230 0 m), vR 111 0] T ?_
  refine j_callV (y := yX11_rule0) (Yc := zX11_rule0) (rest := []) [vI (T 230 0 m), vI 0] (ct_X11_rule0 (T := T) (by omega) (by omega)) cl_X11_321 (qd_c (by decide +kernel)) (nn_ _) rfl (rf_of rfl) (Nat.le_of_ble_eq_true rfl) (Nat.le_of_ble_eq_true rfl) (Nat.le_of_ble_eq_true rfl) rfl ?_
  rintro _ _ ⟨rfl, rfl⟩
  show J_ zX11_lawOf T (po_X11_lawOf_e T ru m k s p q) 0 0 11 _ [vI (T 205 0 (23 * (T 230 0 m) + 0))] T
  refine j_blx (F := fX11) tb_X11 (nn_ _) bk_X11_lawOf_e_11 bs_X11_lawOf_e_11 hz (fun K hK => ?_)
  refine ix_i (by omega) ?_
  intro b30 b30b
  refine And.intro (fun c31 => ?_) (fun c31 => ?_)
  · refine hK 25 [some (vR 111 0), some (vI m), some (vI k), some (vI s), some (vI p), some (vI q), some (vI (T 205 0 (23 * (T 230 0 m) + 0))), none, none] [] T ?_
    refine j_blx (F := fX11) tb_X11 (nn_ _) bk_X11_lawOf_e_25 bs_X11_lawOf_e_25 hz (fun K hK => ?_)
    refine hK 30 _ [vI s, vI k, vI (T 205 0 (23 * (T 230 0 m) + 0)), vR 111 0] T ?_
    refine j_callV (y := yX11_isTold) (Yc := zX11_isTold) (rest := []) [vI (T 205 0 (23 * (T 230 0 m) + 0)), vI k, vI s] (ct_X11_isTold_e (T := T)) cl_X11_397 (qd_c (by decide +kernel)) (nn_ _) rfl (rf_of rfl) (Nat.le_of_ble_eq_true rfl) (Nat.le_of_ble_eq_true rfl) (Nat.le_of_ble_eq_true rfl) rfl ?_
    rintro _ _ ⟨rfl, x32, rfl, hx32⟩
    show J_ zX11_lawOf T (po_X11_lawOf_e T ru m k s p q) 0 0 33 _ [vI x32] T
    refine j_blx (F := fX11) tb_X11 (nn_ _) bk_X11_lawOf_e_33 bs_X11_lawOf_e_33 hz (fun K hK => ?_)
    refine And.intro (fun c33 => ?_) (fun c33 => ?_)
    · refine hK 38 _ [] T ?_
      have t2 : lfT_ T m k s := (hx32.resolve_right (fun z => absurd z.1 c33)).2
      clear hx32
      refine j_blx (F := fX11) tb_X11 (nn_ _) bk_X11_lawOf_e_38 bs_X11_lawOf_e_38 hz (fun K hK => ?_)
      refine And.intro (fun c34 => ?_) (fun c34 => ?_)
      · refine hK 67 _ [] T ?_
        refine j_blx (F := fX11) tb_X11 (nn_ _) bk_X11_lawOf_e_67 bs_X11_lawOf_e_67 hz (fun K hK => ?_)
        refine hK 68 _ [vI 0] T ?_
        refine c_68 0 ?_ ?_ ?_
        · first
          | exact t1
          | omega
        · exact t2
        · exact Or.inr ⟨rfl, by omega⟩
      · refine And.intro (fun c35 => ?_) (fun c35 => ?_)
        · refine hK 53 _ [] T ?_
          refine j_blx (F := fX11) tb_X11 (nn_ _) bk_X11_lawOf_e_53 bs_X11_lawOf_e_53 hz (fun K hK => ?_)
          refine hK 56 _ [vI 0, vI m, vR 111 0] T ?_
          refine j_callV (y := yX11_liveOf) (Yc := zX11_liveOf) (rest := []) [vI m, vI 0] (ct_X11_liveOf (T := T) (by omega) (by omega)) cl_X11_400 (qd_c (by decide +kernel)) (nn_ _) rfl (rf_of rfl) (Nat.le_of_ble_eq_true rfl) (Nat.le_of_ble_eq_true rfl) (Nat.le_of_ble_eq_true rfl) rfl ?_
          rintro _ _ ⟨rfl, rfl⟩
          show J_ zX11_lawOf T (po_X11_lawOf_e T ru m k s p q) 0 0 59 _ [vI (T 246 0 (8 * m + 0))] T
          refine j_blx (F := fX11) tb_X11 (nn_ _) bk_X11_lawOf_e_59 bs_X11_lawOf_e_59 hz (fun K hK => ?_)
          refine And.intro (fun c36 => ?_) (fun c36 => ?_)
          · refine hK 67 _ [] T ?_
            refine j_blx (F := fX11) tb_X11 (nn_ _) bk_X11_lawOf_e_67 bs_X11_lawOf_e_67 hz (fun K hK => ?_)
            refine hK 68 _ [vI 0] T ?_
            refine c_68 0 ?_ ?_ ?_
            · first
              | exact t1
              | omega
            · exact t2
            · exact Or.inr ⟨rfl, by omega⟩
          · refine hK 68 _ [vI 1] T ?_
            refine c_68 1 ?_ ?_ ?_
            · first
              | exact t1
              | omega
            · exact t2
            · exact Or.inl ⟨rfl, by omega⟩
        · refine And.intro (fun c37 => ?_) (fun c37 => ?_)
          · refine hK 67 _ [] T ?_
            refine j_blx (F := fX11) tb_X11 (nn_ _) bk_X11_lawOf_e_67 bs_X11_lawOf_e_67 hz (fun K hK => ?_)
            refine hK 68 _ [vI 0] T ?_
            refine c_68 0 ?_ ?_ ?_
            · first
              | exact t1
              | omega
            · exact t2
            · exact Or.inr ⟨rfl, by omega⟩
          · refine hK 56 _ [vI 0, vI m, vR 111 0] T ?_
            refine j_callV (y := yX11_liveOf) (Yc := zX11_liveOf) (rest := []) [vI m, vI 0] (ct_X11_liveOf (T := T) (by omega) (by omega)) cl_X11_400 (qd_c (by decide +kernel)) (nn_ _) rfl (rf_of rfl) (Nat.le_of_ble_eq_true rfl) (Nat.le_of_ble_eq_true rfl) (Nat.le_of_ble_eq_true rfl) rfl ?_
            rintro _ _ ⟨rfl, rfl⟩
            show J_ zX11_lawOf T (po_X11_lawOf_e T ru m k s p q) 0 0 59 _ [vI (T 246 0 (8 * m + 0))] T
            refine j_blx (F := fX11) tb_X11 (nn_ _) bk_X11_lawOf_e_59 bs_X11_lawOf_e_59 hz (fun K hK => ?_)
            refine And.intro (fun c38 => ?_) (fun c38 => ?_)
            · refine hK 67 _ [] T ?_
              refine j_blx (F := fX11) tb_X11 (nn_ _) bk_X11_lawOf_e_67 bs_X11_lawOf_e_67 hz (fun K hK => ?_)
              refine hK 68 _ [vI 0] T ?_
              refine c_68 0 ?_ ?_ ?_
              · first
                | exact t1
                | omega
              · exact t2
              · exact Or.inr ⟨rfl, by omega⟩
            · refine hK 68 _ [vI 1] T ?_
              refine c_68 1 ?_ ?_ ?_
              · first
                | exact t1
                | omega
              · exact t2
              · exact Or.inl ⟨rfl, by omega⟩
    · refine (show po_X11_lawOf_e T ru m k s p q T (some (vI 2)) from ?_)
      have nt2 : ¬ lfT_ T m k s := (hx32.resolve_left (fun z => absurd (c33.symm.trans z.1) (by decide))).2
      exact ⟨rfl, _, rfl, by decide, fun z => absurd z (by decide), (lwR__2 (r := ru) (a := rp9_ T m) (k := k) (s := s) (q := p) (o := q) (fun z => z (z103_0.trans (by omega))) (show ¬ (((ru 0 = 0 ∧ 0 ≤ k ∧ k ≤ 5) ∨ (ru 0 = 1 ∧ (k = 1 ∨ k = 5)) ∨ (ru 0 = 2 ∧ (k = 1 ∨ k = 6)) ∨ (¬ ru 0 = 0 ∧ ¬ ru 0 = 1 ∧ ¬ ru 0 = 2 ∧ 1 ≤ k ∧ k ≤ 4)) ∧ ((ru 0 = 0 ∧ k = 0) ∨ (0 ≤ s ∧ s ≤ 1))) by rw [← hru0]; exact nt2)).symm⟩
  · refine (show po_X11_lawOf_e T ru m k s p q T (some (vI 1)) from ?_)
    exact ⟨rfl, _, rfl, by decide, fun z => absurd z (by decide), (lwR__1 (r := ru) (a := rp9_ T m) (k := k) (s := s) (q := p) (o := q) (show (rp9_ T m) 103 3 ≠ 1 by (try simp only [z103_0, z103_1, z103_2, ← hru0, ← hru10]); omega)).symm⟩
theorem bk_X11_layBeginning_e_144 : ck_ fX11 none cX11_layBeginning 144 [.iload 3, .iconst 8, .if_icmp .ge 168, .aload 0, .tableswitch 0 11 46 #[], .iconst 8, .iload 1, .imul, .iload 3, .iadd, .iconst 0, .iastore, .iinc 3 1, .goto 144] 168 = true := qck_r (nn_ _) (by decide +kernel)
theorem bs_X11_layBeginning_e_144 {P : Zt → Option Zv → Prop} (K : Int → Zl → List Zv → Zt → Prop) : sx_ K P [.iload 3, .iconst 8, .if_icmp .ge 168, .aload 0, .tableswitch 0 11 46 #[], .iconst 8, .iload 1, .imul, .iload 3, .iadd, .iconst 0, .iastore, .iinc 3 1, .goto 144] 168 = x_iload 3 (x_iconst 8 (x_if_icmp .ge 168 K (x_aload 0 (x_g1 111 246 (x_iconst 8 (x_iload 1 (x_imul (x_iload 3 (x_iadd (x_iconst 0 (x_iastore (x_iinc 3 1 (x_goto 144 K))))))))))))) := ((xe_iload 3).trans (congrArg (x_iload 3) ((xe_iconst 8).trans (congrArg (x_iconst 8) ((xe_if_icmp .ge 168).trans (congrArg (x_if_icmp .ge 168 K) ((xe_aload 0).trans (congrArg (x_aload 0) ((xe_g1 (kk := 111) rfl tl_11_46).trans (congrArg (x_g1 111 246) ((xe_iconst 8).trans (congrArg (x_iconst 8) ((xe_iload 1).trans (congrArg (x_iload 1) ((xe_imul).trans (congrArg (x_imul) ((xe_iload 3).trans (congrArg (x_iload 3) ((xe_iadd).trans (congrArg (x_iadd) ((xe_iconst 0).trans (congrArg (x_iconst 0) ((xe_iastore).trans (congrArg (x_iastore) ((xe_iinc 3 1).trans (congrArg (x_iinc 3 1) (xe_goto 144)))))))))))))))))))))))))))
theorem bk_X11_layBeginning_e_168 : ck_ fX11 none cX11_layBeginning 168 [.aload 0, .tableswitch 0 11 46 #[], .iconst 8, .iload 1, .imul, .iconst 5, .iadd, .aload 0, .aload 0, .tableswitch 0 11 30 #[], .iload 1, .iaload, .iconst 0] 186 = true := qck_r (nn_ _) (by decide +kernel)
theorem bs_X11_layBeginning_e_168 {P : Zt → Option Zv → Prop} (K : Int → Zl → List Zv → Zt → Prop) : sx_ K P [.aload 0, .tableswitch 0 11 46 #[], .iconst 8, .iload 1, .imul, .iconst 5, .iadd, .aload 0, .aload 0, .tableswitch 0 11 30 #[], .iload 1, .iaload, .iconst 0] 186 = x_aload 0 (x_g1 111 246 (x_iconst 8 (x_iload 1 (x_imul (x_iconst 5 (x_iadd (x_aload 0 (x_aload 0 (x_g1 111 230 (x_iload 1 (x_iaload (x_iconst 0 (K 186))))))))))))) := ((xe_aload 0).trans (congrArg (x_aload 0) ((xe_g1 (kk := 111) rfl tl_11_46).trans (congrArg (x_g1 111 246) ((xe_iconst 8).trans (congrArg (x_iconst 8) ((xe_iload 1).trans (congrArg (x_iload 1) ((xe_imul).trans (congrArg (x_imul) ((xe_iconst 5).trans (congrArg (x_iconst 5) ((xe_iadd).trans (congrArg (x_iadd) ((xe_aload 0).trans (congrArg (x_aload 0) ((xe_aload 0).trans (congrArg (x_aload 0) ((xe_g1 (kk := 111) rfl tl_11_30).trans (congrArg (x_g1 111 230) ((xe_iload 1).trans (congrArg (x_iload 1) ((xe_iaload).trans (congrArg (x_iaload) ((xe_iconst 0).trans (congrArg (x_iconst 0) xe_nil))))))))))))))))))))))))))
theorem bk_X11_layBeginning_e_189 : ck_ fX11 none cX11_layBeginning 189 [.iconst 3, .if_icmp .ne 197, .iconst 1, .goto 198] 197 = true := qck_r (nn_ _) (by decide +kernel)
theorem bs_X11_layBeginning_e_189 {P : Zt → Option Zv → Prop} (K : Int → Zl → List Zv → Zt → Prop) : sx_ K P [.iconst 3, .if_icmp .ne 197, .iconst 1, .goto 198] 197 = x_iconst 3 (x_if_icmp .ne 197 K (x_iconst 1 (x_goto 198 K))) := ((xe_iconst 3).trans (congrArg (x_iconst 3) ((xe_if_icmp .ne 197).trans (congrArg (x_if_icmp .ne 197 K) ((xe_iconst 1).trans (congrArg (x_iconst 1) (xe_goto 198)))))))
theorem bk_X11_layBeginning_e_197 : ck_ fX11 none cX11_layBeginning 197 [.iconst 0, .iastore, .aload 0, .tableswitch 0 11 36 #[], .iload 1, .iconst 0, .iastore, .aload 0, .tableswitch 0 11 37 #[], .iload 1, .iconst 0, .iastore, .aload 0, .tableswitch 0 11 35 #[], .iload 1, .iconst 1, .iastore, .return_] 221 = true := qck_r (nn_ _) (by decide +kernel)
theorem bs_X11_layBeginning_e_197 {P : Zt → Option Zv → Prop} (K : Int → Zl → List Zv → Zt → Prop) : sx_ K P [.iconst 0, .iastore, .aload 0, .tableswitch 0 11 36 #[], .iload 1, .iconst 0, .iastore, .aload 0, .tableswitch 0 11 37 #[], .iload 1, .iconst 0, .iastore, .aload 0, .tableswitch 0 11 35 #[], .iload 1, .iconst 1, .iastore, .return_] 221 = x_iconst 0 (x_iastore (x_aload 0 (x_g1 111 236 (x_iload 1 (x_iconst 0 (x_iastore (x_aload 0 (x_g1 111 237 (x_iload 1 (x_iconst 0 (x_iastore (x_aload 0 (x_g1 111 235 (x_iload 1 (x_iconst 1 (x_iastore (x_return_ P))))))))))))))))) := ((xe_iconst 0).trans (congrArg (x_iconst 0) ((xe_iastore).trans (congrArg (x_iastore) ((xe_aload 0).trans (congrArg (x_aload 0) ((xe_g1 (kk := 111) rfl tl_11_36).trans (congrArg (x_g1 111 236) ((xe_iload 1).trans (congrArg (x_iload 1) ((xe_iconst 0).trans (congrArg (x_iconst 0) ((xe_iastore).trans (congrArg (x_iastore) ((xe_aload 0).trans (congrArg (x_aload 0) ((xe_g1 (kk := 111) rfl tl_11_37).trans (congrArg (x_g1 111 237) ((xe_iload 1).trans (congrArg (x_iload 1) ((xe_iconst 0).trans (congrArg (x_iconst 0) ((xe_iastore).trans (congrArg (x_iastore) ((xe_aload 0).trans (congrArg (x_aload 0) ((xe_g1 (kk := 111) rfl tl_11_35).trans (congrArg (x_g1 111 235) ((xe_iload 1).trans (congrArg (x_iload 1) ((xe_iconst 1).trans (congrArg (x_iconst 1) ((xe_iastore).trans (congrArg (x_iastore) (xe_return_)))))))))))))))))))))))))))))))))))
theorem bk_X11_layBeginning_e_198 : ck_ fX11 none cX11_layBeginning 198 [.iastore, .aload 0, .tableswitch 0 11 36 #[], .iload 1, .iconst 0, .iastore, .aload 0, .tableswitch 0 11 37 #[], .iload 1, .iconst 0, .iastore, .aload 0, .tableswitch 0 11 35 #[], .iload 1, .iconst 1, .iastore, .return_] 221 = true := qck_r (nn_ _) (by decide +kernel)
theorem bs_X11_layBeginning_e_198 {P : Zt → Option Zv → Prop} (K : Int → Zl → List Zv → Zt → Prop) : sx_ K P [.iastore, .aload 0, .tableswitch 0 11 36 #[], .iload 1, .iconst 0, .iastore, .aload 0, .tableswitch 0 11 37 #[], .iload 1, .iconst 0, .iastore, .aload 0, .tableswitch 0 11 35 #[], .iload 1, .iconst 1, .iastore, .return_] 221 = x_iastore (x_aload 0 (x_g1 111 236 (x_iload 1 (x_iconst 0 (x_iastore (x_aload 0 (x_g1 111 237 (x_iload 1 (x_iconst 0 (x_iastore (x_aload 0 (x_g1 111 235 (x_iload 1 (x_iconst 1 (x_iastore (x_return_ P)))))))))))))))) := ((xe_iastore).trans (congrArg (x_iastore) ((xe_aload 0).trans (congrArg (x_aload 0) ((xe_g1 (kk := 111) rfl tl_11_36).trans (congrArg (x_g1 111 236) ((xe_iload 1).trans (congrArg (x_iload 1) ((xe_iconst 0).trans (congrArg (x_iconst 0) ((xe_iastore).trans (congrArg (x_iastore) ((xe_aload 0).trans (congrArg (x_aload 0) ((xe_g1 (kk := 111) rfl tl_11_37).trans (congrArg (x_g1 111 237) ((xe_iload 1).trans (congrArg (x_iload 1) ((xe_iconst 0).trans (congrArg (x_iconst 0) ((xe_iastore).trans (congrArg (x_iastore) ((xe_aload 0).trans (congrArg (x_aload 0) ((xe_g1 (kk := 111) rfl tl_11_35).trans (congrArg (x_g1 111 235) ((xe_iload 1).trans (congrArg (x_iload 1) ((xe_iconst 1).trans (congrArg (x_iconst 1) ((xe_iastore).trans (congrArg (x_iastore) (xe_return_)))))))))))))))))))))))))))))))))
theorem bk_X11_layBeginning_e_105 : ck_ fX11 none cX11_layBeginning 105 [.iload 4, .iload 2, .if_icmp .ge 136, .aload 0, .tableswitch 0 11 45 #[], .iconst 6, .iload 3, .imul, .iload 4, .iadd, .iconst 10, .iload 3, .imul, .iload 4, .iadd, .iastore, .iinc 4 1, .goto 105] 136 = true := qck_r (nn_ _) (by decide +kernel)
theorem bs_X11_layBeginning_e_105 {P : Zt → Option Zv → Prop} (K : Int → Zl → List Zv → Zt → Prop) : sx_ K P [.iload 4, .iload 2, .if_icmp .ge 136, .aload 0, .tableswitch 0 11 45 #[], .iconst 6, .iload 3, .imul, .iload 4, .iadd, .iconst 10, .iload 3, .imul, .iload 4, .iadd, .iastore, .iinc 4 1, .goto 105] 136 = x_iload 4 (x_iload 2 (x_if_icmp .ge 136 K (x_aload 0 (x_g1 111 245 (x_iconst 6 (x_iload 3 (x_imul (x_iload 4 (x_iadd (x_iconst 10 (x_iload 3 (x_imul (x_iload 4 (x_iadd (x_iastore (x_iinc 4 1 (x_goto 105 K))))))))))))))))) := ((xe_iload 4).trans (congrArg (x_iload 4) ((xe_iload 2).trans (congrArg (x_iload 2) ((xe_if_icmp .ge 136).trans (congrArg (x_if_icmp .ge 136 K) ((xe_aload 0).trans (congrArg (x_aload 0) ((xe_g1 (kk := 111) rfl tl_11_45).trans (congrArg (x_g1 111 245) ((xe_iconst 6).trans (congrArg (x_iconst 6) ((xe_iload 3).trans (congrArg (x_iload 3) ((xe_imul).trans (congrArg (x_imul) ((xe_iload 4).trans (congrArg (x_iload 4) ((xe_iadd).trans (congrArg (x_iadd) ((xe_iconst 10).trans (congrArg (x_iconst 10) ((xe_iload 3).trans (congrArg (x_iload 3) ((xe_imul).trans (congrArg (x_imul) ((xe_iload 4).trans (congrArg (x_iload 4) ((xe_iadd).trans (congrArg (x_iadd) ((xe_iastore).trans (congrArg (x_iastore) ((xe_iinc 4 1).trans (congrArg (x_iinc 4 1) (xe_goto 105)))))))))))))))))))))))))))))))))))
theorem bk_X11_layBeginning_e_136 : ck_ fX11 none cX11_layBeginning 136 [.iinc 3 1, .goto 17] 142 = true := qck_r (nn_ _) (by decide +kernel)
theorem bs_X11_layBeginning_e_136 {P : Zt → Option Zv → Prop} (K : Int → Zl → List Zv → Zt → Prop) : sx_ K P [.iinc 3 1, .goto 17] 142 = x_iinc 3 1 (x_goto 17 K) := ((xe_iinc 3 1).trans (congrArg (x_iinc 3 1) (xe_goto 17)))
theorem bk_X11_layBeginning_e_36 : ck_ fX11 none cX11_layBeginning 36 [.iload 4, .aload 0, .tableswitch 0 11 39 #[], .iload 3, .iaload, .if_icmp .ge 102, .aload 0, .tableswitch 0 11 41 #[], .iconst 10, .iload 3, .imul, .iload 4, .iadd, .iload 4, .iload 2, .if_icmp .ge 68, .iconst 1, .goto 69] 68 = true := qck_r (nn_ _) (by decide +kernel)
theorem bs_X11_layBeginning_e_36 {P : Zt → Option Zv → Prop} (K : Int → Zl → List Zv → Zt → Prop) : sx_ K P [.iload 4, .aload 0, .tableswitch 0 11 39 #[], .iload 3, .iaload, .if_icmp .ge 102, .aload 0, .tableswitch 0 11 41 #[], .iconst 10, .iload 3, .imul, .iload 4, .iadd, .iload 4, .iload 2, .if_icmp .ge 68, .iconst 1, .goto 69] 68 = x_iload 4 (x_aload 0 (x_g1 111 239 (x_iload 3 (x_iaload (x_if_icmp .ge 102 K (x_aload 0 (x_g1 111 241 (x_iconst 10 (x_iload 3 (x_imul (x_iload 4 (x_iadd (x_iload 4 (x_iload 2 (x_if_icmp .ge 68 K (x_iconst 1 (x_goto 69 K))))))))))))))))) := ((xe_iload 4).trans (congrArg (x_iload 4) ((xe_aload 0).trans (congrArg (x_aload 0) ((xe_g1 (kk := 111) rfl tl_11_39).trans (congrArg (x_g1 111 239) ((xe_iload 3).trans (congrArg (x_iload 3) ((xe_iaload).trans (congrArg (x_iaload) ((xe_if_icmp .ge 102).trans (congrArg (x_if_icmp .ge 102 K) ((xe_aload 0).trans (congrArg (x_aload 0) ((xe_g1 (kk := 111) rfl tl_11_41).trans (congrArg (x_g1 111 241) ((xe_iconst 10).trans (congrArg (x_iconst 10) ((xe_iload 3).trans (congrArg (x_iload 3) ((xe_imul).trans (congrArg (x_imul) ((xe_iload 4).trans (congrArg (x_iload 4) ((xe_iadd).trans (congrArg (x_iadd) ((xe_iload 4).trans (congrArg (x_iload 4) ((xe_iload 2).trans (congrArg (x_iload 2) ((xe_if_icmp .ge 68).trans (congrArg (x_if_icmp .ge 68 K) ((xe_iconst 1).trans (congrArg (x_iconst 1) (xe_goto 69)))))))))))))))))))))))))))))))))))
theorem bk_X11_layBeginning_e_102 : ck_ fX11 none cX11_layBeginning 102 [.iconst 0, .istore 4] 105 = true := qck_r (nn_ _) (by decide +kernel)
theorem bs_X11_layBeginning_e_102 {P : Zt → Option Zv → Prop} (K : Int → Zl → List Zv → Zt → Prop) : sx_ K P [.iconst 0, .istore 4] 105 = x_iconst 0 (x_istore 4 (K 105)) := ((xe_iconst 0).trans (congrArg (x_iconst 0) ((xe_istore 4).trans (congrArg (x_istore 4) xe_nil))))
theorem bk_X11_layBeginning_e_68 : ck_ fX11 none cX11_layBeginning 68 [.iconst 0, .iastore, .aload 0, .tableswitch 0 11 42 #[], .iconst 10, .iload 3, .imul, .iload 4, .iadd, .iconst 0, .iastore, .aload 0, .tableswitch 0 11 43 #[], .iconst 10, .iload 3, .imul, .iload 4, .iadd, .iconst 0, .bastore, .iinc 4 1, .goto 36] 102 = true := qck_r (nn_ _) (by decide +kernel)
theorem bs_X11_layBeginning_e_68 {P : Zt → Option Zv → Prop} (K : Int → Zl → List Zv → Zt → Prop) : sx_ K P [.iconst 0, .iastore, .aload 0, .tableswitch 0 11 42 #[], .iconst 10, .iload 3, .imul, .iload 4, .iadd, .iconst 0, .iastore, .aload 0, .tableswitch 0 11 43 #[], .iconst 10, .iload 3, .imul, .iload 4, .iadd, .iconst 0, .bastore, .iinc 4 1, .goto 36] 102 = x_iconst 0 (x_iastore (x_aload 0 (x_g1 111 242 (x_iconst 10 (x_iload 3 (x_imul (x_iload 4 (x_iadd (x_iconst 0 (x_iastore (x_aload 0 (x_g1 111 243 (x_iconst 10 (x_iload 3 (x_imul (x_iload 4 (x_iadd (x_iconst 0 (x_bastore (x_iinc 4 1 (x_goto 36 K))))))))))))))))))))) := ((xe_iconst 0).trans (congrArg (x_iconst 0) ((xe_iastore).trans (congrArg (x_iastore) ((xe_aload 0).trans (congrArg (x_aload 0) ((xe_g1 (kk := 111) rfl tl_11_42).trans (congrArg (x_g1 111 242) ((xe_iconst 10).trans (congrArg (x_iconst 10) ((xe_iload 3).trans (congrArg (x_iload 3) ((xe_imul).trans (congrArg (x_imul) ((xe_iload 4).trans (congrArg (x_iload 4) ((xe_iadd).trans (congrArg (x_iadd) ((xe_iconst 0).trans (congrArg (x_iconst 0) ((xe_iastore).trans (congrArg (x_iastore) ((xe_aload 0).trans (congrArg (x_aload 0) ((xe_g1 (kk := 111) rfl tl_11_43).trans (congrArg (x_g1 111 243) ((xe_iconst 10).trans (congrArg (x_iconst 10) ((xe_iload 3).trans (congrArg (x_iload 3) ((xe_imul).trans (congrArg (x_imul) ((xe_iload 4).trans (congrArg (x_iload 4) ((xe_iadd).trans (congrArg (x_iadd) ((xe_iconst 0).trans (congrArg (x_iconst 0) ((xe_bastore).trans (congrArg (x_bastore) ((xe_iinc 4 1).trans (congrArg (x_iinc 4 1) (xe_goto 36)))))))))))))))))))))))))))))))))))))))))))
theorem bk_X11_layBeginning_e_69 : ck_ fX11 none cX11_layBeginning 69 [.iastore, .aload 0, .tableswitch 0 11 42 #[], .iconst 10, .iload 3, .imul, .iload 4, .iadd, .iconst 0, .iastore, .aload 0, .tableswitch 0 11 43 #[], .iconst 10, .iload 3, .imul, .iload 4, .iadd, .iconst 0, .bastore, .iinc 4 1, .goto 36] 102 = true := qck_r (nn_ _) (by decide +kernel)
theorem bs_X11_layBeginning_e_69 {P : Zt → Option Zv → Prop} (K : Int → Zl → List Zv → Zt → Prop) : sx_ K P [.iastore, .aload 0, .tableswitch 0 11 42 #[], .iconst 10, .iload 3, .imul, .iload 4, .iadd, .iconst 0, .iastore, .aload 0, .tableswitch 0 11 43 #[], .iconst 10, .iload 3, .imul, .iload 4, .iadd, .iconst 0, .bastore, .iinc 4 1, .goto 36] 102 = x_iastore (x_aload 0 (x_g1 111 242 (x_iconst 10 (x_iload 3 (x_imul (x_iload 4 (x_iadd (x_iconst 0 (x_iastore (x_aload 0 (x_g1 111 243 (x_iconst 10 (x_iload 3 (x_imul (x_iload 4 (x_iadd (x_iconst 0 (x_bastore (x_iinc 4 1 (x_goto 36 K)))))))))))))))))))) := ((xe_iastore).trans (congrArg (x_iastore) ((xe_aload 0).trans (congrArg (x_aload 0) ((xe_g1 (kk := 111) rfl tl_11_42).trans (congrArg (x_g1 111 242) ((xe_iconst 10).trans (congrArg (x_iconst 10) ((xe_iload 3).trans (congrArg (x_iload 3) ((xe_imul).trans (congrArg (x_imul) ((xe_iload 4).trans (congrArg (x_iload 4) ((xe_iadd).trans (congrArg (x_iadd) ((xe_iconst 0).trans (congrArg (x_iconst 0) ((xe_iastore).trans (congrArg (x_iastore) ((xe_aload 0).trans (congrArg (x_aload 0) ((xe_g1 (kk := 111) rfl tl_11_43).trans (congrArg (x_g1 111 243) ((xe_iconst 10).trans (congrArg (x_iconst 10) ((xe_iload 3).trans (congrArg (x_iload 3) ((xe_imul).trans (congrArg (x_imul) ((xe_iload 4).trans (congrArg (x_iload 4) ((xe_iadd).trans (congrArg (x_iadd) ((xe_iconst 0).trans (congrArg (x_iconst 0) ((xe_bastore).trans (congrArg (x_bastore) ((xe_iinc 4 1).trans (congrArg (x_iinc 4 1) (xe_goto 36)))))))))))))))))))))))))))))))))))))))))
theorem bk_X11_layBeginning_e_17 : ck_ fX11 none cX11_layBeginning 17 [.iload 3, .iconst 2, .iload 1, .imul, .iconst 1, .iadd, .if_icmp .gt 142, .aload 0, .tableswitch 0 11 44 #[], .iload 3, .iload 2, .iastore, .iconst 0, .istore 4] 36 = true := qck_r (nn_ _) (by decide +kernel)
theorem bs_X11_layBeginning_e_17 {P : Zt → Option Zv → Prop} (K : Int → Zl → List Zv → Zt → Prop) : sx_ K P [.iload 3, .iconst 2, .iload 1, .imul, .iconst 1, .iadd, .if_icmp .gt 142, .aload 0, .tableswitch 0 11 44 #[], .iload 3, .iload 2, .iastore, .iconst 0, .istore 4] 36 = x_iload 3 (x_iconst 2 (x_iload 1 (x_imul (x_iconst 1 (x_iadd (x_if_icmp .gt 142 K (x_aload 0 (x_g1 111 244 (x_iload 3 (x_iload 2 (x_iastore (x_iconst 0 (x_istore 4 (K 36)))))))))))))) := ((xe_iload 3).trans (congrArg (x_iload 3) ((xe_iconst 2).trans (congrArg (x_iconst 2) ((xe_iload 1).trans (congrArg (x_iload 1) ((xe_imul).trans (congrArg (x_imul) ((xe_iconst 1).trans (congrArg (x_iconst 1) ((xe_iadd).trans (congrArg (x_iadd) ((xe_if_icmp .gt 142).trans (congrArg (x_if_icmp .gt 142 K) ((xe_aload 0).trans (congrArg (x_aload 0) ((xe_g1 (kk := 111) rfl tl_11_44).trans (congrArg (x_g1 111 244) ((xe_iload 3).trans (congrArg (x_iload 3) ((xe_iload 2).trans (congrArg (x_iload 2) ((xe_iastore).trans (congrArg (x_iastore) ((xe_iconst 0).trans (congrArg (x_iconst 0) ((xe_istore 4).trans (congrArg (x_istore 4) xe_nil))))))))))))))))))))))))))))
theorem bk_X11_layBeginning_e_142 : ck_ fX11 none cX11_layBeginning 142 [.iconst 0, .istore 3] 144 = true := qck_r (nn_ _) (by decide +kernel)
theorem bs_X11_layBeginning_e_142 {P : Zt → Option Zv → Prop} (K : Int → Zl → List Zv → Zt → Prop) : sx_ K P [.iconst 0, .istore 3] 144 = x_iconst 0 (x_istore 3 (K 144)) := ((xe_iconst 0).trans (congrArg (x_iconst 0) ((xe_istore 3).trans (congrArg (x_istore 3) xe_nil))))
theorem bk_X11_layBeginning_e_0 : ck_ fX11 none cX11_layBeginning 0 [.aload 0, .aload 0, .tableswitch 0 11 30 #[], .iload 1, .iaload, .iconst 9] 9 = true := qck_r (nn_ _) (by decide +kernel)
theorem bs_X11_layBeginning_e_0 {P : Zt → Option Zv → Prop} (K : Int → Zl → List Zv → Zt → Prop) : sx_ K P [.aload 0, .aload 0, .tableswitch 0 11 30 #[], .iload 1, .iaload, .iconst 9] 9 = x_aload 0 (x_aload 0 (x_g1 111 230 (x_iload 1 (x_iaload (x_iconst 9 (K 9)))))) := ((xe_aload 0).trans (congrArg (x_aload 0) ((xe_aload 0).trans (congrArg (x_aload 0) ((xe_g1 (kk := 111) rfl tl_11_30).trans (congrArg (x_g1 111 230) ((xe_iload 1).trans (congrArg (x_iload 1) ((xe_iaload).trans (congrArg (x_iaload) ((xe_iconst 9).trans (congrArg (x_iconst 9) xe_nil))))))))))))
theorem bk_X11_layBeginning_e_12 : ck_ fX11 none cX11_layBeginning 12 [.istore 2, .iconst 2, .iload 1, .imul, .istore 3] 17 = true := qck_r (nn_ _) (by decide +kernel)
theorem bs_X11_layBeginning_e_12 {P : Zt → Option Zv → Prop} (K : Int → Zl → List Zv → Zt → Prop) : sx_ K P [.istore 2, .iconst 2, .iload 1, .imul, .istore 3] 17 = x_istore 2 (x_iconst 2 (x_iload 1 (x_imul (x_istore 3 (K 17))))) := ((xe_istore 2).trans (congrArg (x_istore 2) ((xe_iconst 2).trans (congrArg (x_iconst 2) ((xe_iload 1).trans (congrArg (x_iload 1) ((xe_imul).trans (congrArg (x_imul) ((xe_istore 3).trans (congrArg (x_istore 3) xe_nil))))))))))
abbrev po_X11_layBeginning_e (T : Zt) (m : Int) : Zt → Option Zv → Prop := fun T' r => r = none ∧ fr_ [(244, []), (241, []), (242, []), (243, []), (245, []), (246, []), (236, []), (237, []), (235, [])] T T' ∧ (FM_ T' ∧ SO_ T T' m ∧ SB1_ T' m 9 ∧ (∀ j, 2 * m ≤ j → j < 2 * m + 2 → T' 244 0 j = T 205 0 (23 * T 230 0 m + 9)) ∧ (∀ j, 20 * m ≤ j → j < 20 * m + 20 → j % 10 < T 239 0 (j / 10) → (j % 10 < T 205 0 (23 * T 230 0 m + 9) → T' 241 0 j = 1) ∧ (T 205 0 (23 * T 230 0 m + 9) ≤ j % 10 → T' 241 0 j = 0) ∧ T' 242 0 j = 0 ∧ T' 243 0 j = 0) ∧ (∀ j, 12 * m ≤ j → j < 12 * m + 12 → j % 6 < T 205 0 (23 * T 230 0 m + 9) → T' 245 0 j = 10 * (j / 6) + j % 6) ∧ (∀ j, 8 * m ≤ j → j < 8 * m + 8 → j ≠ 8 * m + 5 → T' 246 0 j = 0) ∧ ((T 205 0 (23 * T 230 0 m + 0) = 3 → T' 246 0 (8 * m + 5) = 1) ∧ (T 205 0 (23 * T 230 0 m + 0) ≠ 3 → T' 246 0 (8 * m + 5) = 0)) ∧ T' 236 0 m = 0 ∧ T' 237 0 m = 0 ∧ T' 235 0 m = 1 ∧ ro9_ T T' m)
set_option maxHeartbeats 4000000 in
theorem ct_X11_layBeginning_e {T : Zt} {m : Int} (h1 : 0 ≤ m ∧ m < T 111 0 29) (hmc : MC_ T) (hri : RI_ T) (hfm : FM_ T) (hzs : ZS_ T) : Ct_ yX11_layBeginning zX11_layBeginning T [vR 111 0, vI m] (po_X11_layBeginning_e T m) := by
  refine ct_of pn_11 rfl rfl (Nat.le_of_ble_eq_true rfl) (fun hT hav => ?_)
  have hr_m : -2147483648 ≤ m ∧ m ≤ 2147483647 := hav (vI m) (List.mem_cons_of_mem _ List.mem_cons_self)
  have hz : zX11_layBeginning.2.2.2.1 = some .boolean → ∀ (T' : Zt) (x : Int), po_X11_layBeginning_e T m T' (some (vI x)) → 0 ≤ x ∧ x ≤ 1 := fun h => by cases h
  have hb_29 : 0 ≤ T 111 0 29 ∧ T 111 0 29 ≤ 400 := bd_f hT 111 29 tl_11_29 0
  have hb_6 : 0 ≤ T 111 0 6 ∧ T 111 0 6 ≤ 4 := bd_f hT 111 6 tl_11_6 0
  have hcm := hmc m (by omega) (by omega)
  have hcb : 0 ≤ T 230 0 m ∧ T 230 0 m ≤ 3 := bd_a hT 230 (by decide +kernel : ta_ 230 = some (1, some 400, 0, 3)) 0 (by omega)
  have hr9 : (1 : Int) ≤ T 205 0 (23 * T 230 0 m + 9) ∧ T 205 0 (23 * T 230 0 m + 9) ≤ (6 : Int) := hri (T 230 0 m) 9 (by omega) (by omega) (by omega) (by omega)
  show J_ zX11_layBeginning T (po_X11_layBeginning_e T m) 0 0 0 [some (vR 111 0), some (vI m), none, none, none] [] T
  have c_144 : ∀ (nn : Nat) (i : Int) (T4 : Zt), ((8 - i).toNat) ≤ nn → (fr_ [(244, []), (241, []), (242, []), (243, []), (245, []), (246, [])] T T4) → (FM_ T4) → (SO_ T T4 m) → (ro9_ T T4 m) → (∀ j, 2 * m ≤ j → j < 2 * m + 2 → T4 244 0 j = T 205 0 (23 * T 230 0 m + 9)) → (∀ j, 20 * m ≤ j → j < 20 * m + 20 → j % 10 < T 239 0 (j / 10) → (j % 10 < T 205 0 (23 * T 230 0 m + 9) → T4 241 0 j = 1) ∧ (T 205 0 (23 * T 230 0 m + 9) ≤ j % 10 → T4 241 0 j = 0) ∧ T4 242 0 j = 0 ∧ T4 243 0 j = 0) → (∀ j, 12 * m ≤ j → j < 12 * m + 12 → j % 6 < T 205 0 (23 * T 230 0 m + 9) → T4 245 0 j = 10 * (j / 6) + j % 6) → (∀ j, 8 * m ≤ j → j < 8 * m + i → T4 246 0 j = 0) → (0 ≤ i ∧ i ≤ 8) → J_ zX11_layBeginning T (po_X11_layBeginning_e T m) 0 0 144 [some (vR 111 0), some (vI m), none, some (vI i), none] [] T4 := by
    intro nn
    induction nn using Nat.strongRecOn with
    | _ nn ih_144 =>
      intro i T4 hm_144 hf_144 fm4 so4 ro4 u4 w4 x4 l4 i4
      replace hm_144 := fun (_ : Unit) => hm_144
      refine j_blx (F := fX11) tb_X11 (nn_ _) bk_X11_layBeginning_e_144 bs_X11_layBeginning_e_144 hz (fun K hK => ?_)
      refine And.intro (fun c1 => ?_) (fun c1 => ?_)
      · refine hK 168 _ [] T4 ?_
        refine j_blx (F := fX11) tb_X11 (nn_ _) bk_X11_layBeginning_e_168 bs_X11_layBeginning_e_168 hz (fun K hK => ?_)
        refine rg_i (by omega) ?_
        refine rg_i (by omega) ?_
        refine ix_i (by omega) ?_
        intro b2 b2b
        have e3 : T4 230 0 m = T 230 0 m := hf_144 230 0 m rfl
        rw [e3] at b2 b2b ⊢
        refine hK 186 _ [vI 0, vI (T 230 0 m), vR 111 0, vI ((8 * m) + 5), vR 246 0] T4 ?_
        refine j_callV (y := yX11_rule0) (Yc := zX11_rule0) (rest := [vI ((8 * m) + 5), vR 246 0]) [vI (T 230 0 m), vI 0] (ct_X11_rule0 (T := T4) (by omega) (by omega)) cl_X11_321 (qd_c (by decide +kernel)) (nn_ _) rfl (rf_of rfl) (Nat.le_of_ble_eq_true rfl) (Nat.le_of_ble_eq_true rfl) (Nat.le_of_ble_eq_true rfl) rfl ?_
        rintro _ _ ⟨rfl, rfl⟩
        have e4 : T4 205 0 (23 * (T 230 0 m) + 0) = T 205 0 (23 * (T 230 0 m) + 0) := hf_144 205 0 (23 * (T 230 0 m) + 0) rfl
        rw [e4]
        show J_ zX11_layBeginning T (po_X11_layBeginning_e T m) 0 0 189 _ [vI (T 205 0 (23 * (T 230 0 m) + 0)), vI ((8 * m) + 5), vR 246 0] T4
        refine j_blx (F := fX11) tb_X11 (nn_ _) bk_X11_layBeginning_e_189 bs_X11_layBeginning_e_189 hz (fun K hK => ?_)
        refine And.intro (fun c5 => ?_) (fun c5 => ?_)
        · refine hK 197 _ [vI ((8 * m) + 5), vR 246 0] T4 ?_
          refine j_blx (F := fX11) tb_X11 (nn_ _) bk_X11_layBeginning_e_197 bs_X11_layBeginning_e_197 hz (fun K hK => ?_)
          refine iy_i (by omega) (by omega) ?_
          refine x_nm (fun U6 hU6 => ?_)
          have e7 := up_f hU6
          refine iy_i (by omega) (by omega) ?_
          refine x_nm (fun U8 hU8 => ?_)
          have e9 := up_f hU8
          refine iy_i (by omega) (by omega) ?_
          refine x_nm (fun U10 hU10 => ?_)
          have e11 := up_f hU10
          refine iy_i (by omega) (by omega) ?_
          refine x_nm (fun U12 hU12 => ?_)
          have e13 := up_f hU12
          refine (show po_X11_layBeginning_e T m U12 (none) from ?_)
          have e14 : U12 236 0 m = 0 := (up_k hU12 (by exact Nat.ne_of_beq_eq_false rfl) 0 m).trans ((up_k hU10 (by exact Nat.ne_of_beq_eq_false rfl) 0 m).trans (up_f hU8))
          have e15 : U12 237 0 m = 0 := (up_k hU12 (by exact Nat.ne_of_beq_eq_false rfl) 0 m).trans (up_f hU10)
          have e16 : U12 235 0 m = 1 := up_f hU12
          have e17 : U12 236 0 m = 0 := (up_k hU12 (by exact Nat.ne_of_beq_eq_false rfl) 0 m).trans ((up_k hU10 (by exact Nat.ne_of_beq_eq_false rfl) 0 m).trans (up_f hU8))
          have e18 : U12 237 0 m = 0 := (up_k hU12 (by exact Nat.ne_of_beq_eq_false rfl) 0 m).trans (up_f hU10)
          have e19 : U12 235 0 m = 1 := up_f hU12
          have so5 : SO_ T U12 m := so_f (ws := [(235, [])]) (so_1 (so_0 (so_f (ws := [(246, [])]) (so4) (fr_u (fr_0 _ _) hU6 rfl) ⟨fun _ => rfl, fun _ => rfl, fun _ => rfl⟩) hU8) hU10) (fr_u (fr_0 _ _) hU12 rfl) ⟨fun _ => rfl, fun _ => rfl, fun _ => rfl⟩
          have y5 : ∀ j, 20 * m ≤ j → j < 20 * m + 20 → U12 242 0 j = 0 := by
            intro j a b
            by_cases c : j % 10 < T 239 0 (j / 10)
            · rw [(up_k hU12 (by exact Nat.ne_of_beq_eq_false rfl) 0 j).trans ((up_k hU10 (by exact Nat.ne_of_beq_eq_false rfl) 0 j).trans ((up_k hU8 (by exact Nat.ne_of_beq_eq_false rfl) 0 j).trans (up_k hU6 (by exact Nat.ne_of_beq_eq_false rfl) 0 j)))]; exact (w4 j a b c).2.2.1
            · rw [so5.2 j (fun w => c w.2.2)]; exact hzs j (by omega) (by omega) (by omega)
          have d5 : U12 246 0 (8 * m + 5) = 0 := ((up_k hU12 (by exact Nat.ne_of_beq_eq_false rfl) 0 (8 * m + 5)).trans ((up_k hU10 (by exact Nat.ne_of_beq_eq_false rfl) 0 (8 * m + 5)).trans (up_k hU8 (by exact Nat.ne_of_beq_eq_false rfl) 0 (8 * m + 5)))).trans (up_f hU6)
          refine ⟨rfl, fr_u (fr_u (fr_u (fr_u (fr_t (fr_0 _ _) (fr_s hf_144 rfl)) hU6 rfl) hU8 rfl) hU10 rfl) hU12 rfl, fm_4 (FM__f (ws := [(237, [])]) (FM__f (ws := [(236, [])]) (FM__f (ws := [(246, [])]) (fm4) (fr_u (fr_0 _ _) hU6 rfl) ⟨fun _ => rfl, fun _ => rfl, trivial⟩) (fr_u (fr_0 _ _) hU8 rfl) ⟨fun _ => rfl, fun _ => rfl, trivial⟩) (fr_u (fr_0 _ _) hU10 rfl) ⟨fun _ => rfl, fun _ => rfl, trivial⟩) hU12 (fun s a b => by rw [(up_k hU10 (by exact Nat.ne_of_beq_eq_false rfl) 0 (2 * m + s)).trans ((up_k hU8 (by exact Nat.ne_of_beq_eq_false rfl) 0 (2 * m + s)).trans (up_k hU6 (by exact Nat.ne_of_beq_eq_false rfl) 0 (2 * m + s))), u4 _ (by omega) (by omega)]; omega), so5, ⟨by omega, by omega, fun j a b => by rw [y5 j a b]; decide⟩, fun j a b => ?_, fun j a b c => ?_, fun j a b c => ?_, fun j a b c => ?_, ⟨fun z => by omega, fun z => by omega⟩, by omega, by omega, by omega, ro_u (m := m) (k := 103) (j := 3) (ro_u (m := m) (k := 468) (j := 1) (ro_u (m := m) (k := 468) (j := 0) (ro_l (ro4) hU6 (by omega)) hU8 rfl rfl (by show m = _; omega)) hU10 rfl rfl (by show m = _; omega)) hU12 rfl rfl (by show m = _; omega)⟩
          · rw [(up_k hU12 (by exact Nat.ne_of_beq_eq_false rfl) 0 j).trans ((up_k hU10 (by exact Nat.ne_of_beq_eq_false rfl) 0 j).trans ((up_k hU8 (by exact Nat.ne_of_beq_eq_false rfl) 0 j).trans (up_k hU6 (by exact Nat.ne_of_beq_eq_false rfl) 0 j)))]; exact u4 j a b
          · rw [(up_k hU12 (by exact Nat.ne_of_beq_eq_false rfl) 0 j).trans ((up_k hU10 (by exact Nat.ne_of_beq_eq_false rfl) 0 j).trans ((up_k hU8 (by exact Nat.ne_of_beq_eq_false rfl) 0 j).trans (up_k hU6 (by exact Nat.ne_of_beq_eq_false rfl) 0 j))), (up_k hU12 (by exact Nat.ne_of_beq_eq_false rfl) 0 j).trans ((up_k hU10 (by exact Nat.ne_of_beq_eq_false rfl) 0 j).trans ((up_k hU8 (by exact Nat.ne_of_beq_eq_false rfl) 0 j).trans (up_k hU6 (by exact Nat.ne_of_beq_eq_false rfl) 0 j))), (up_k hU12 (by exact Nat.ne_of_beq_eq_false rfl) 0 j).trans ((up_k hU10 (by exact Nat.ne_of_beq_eq_false rfl) 0 j).trans ((up_k hU8 (by exact Nat.ne_of_beq_eq_false rfl) 0 j).trans (up_k hU6 (by exact Nat.ne_of_beq_eq_false rfl) 0 j)))]; exact w4 j a b c
          · rw [(up_k hU12 (by exact Nat.ne_of_beq_eq_false rfl) 0 j).trans ((up_k hU10 (by exact Nat.ne_of_beq_eq_false rfl) 0 j).trans ((up_k hU8 (by exact Nat.ne_of_beq_eq_false rfl) 0 j).trans (up_k hU6 (by exact Nat.ne_of_beq_eq_false rfl) 0 j)))]; exact x4 j a b c
          · rw [(up_k hU12 (by exact Nat.ne_of_beq_eq_false rfl) 0 j).trans ((up_k hU10 (by exact Nat.ne_of_beq_eq_false rfl) 0 j).trans (up_k hU8 (by exact Nat.ne_of_beq_eq_false rfl) 0 j)), up_g hU6 (fun y => c y.2.2)]; exact l4 j a (by omega)
        · refine hK 198 _ [vI 1, vI ((8 * m) + 5), vR 246 0] T4 ?_
          refine j_blx (F := fX11) tb_X11 (nn_ _) bk_X11_layBeginning_e_198 bs_X11_layBeginning_e_198 hz (fun K hK => ?_)
          refine iy_i (by omega) (by omega) ?_
          refine x_nm (fun U20 hU20 => ?_)
          have e21 := up_f hU20
          refine iy_i (by omega) (by omega) ?_
          refine x_nm (fun U22 hU22 => ?_)
          have e23 := up_f hU22
          refine iy_i (by omega) (by omega) ?_
          refine x_nm (fun U24 hU24 => ?_)
          have e25 := up_f hU24
          refine iy_i (by omega) (by omega) ?_
          refine x_nm (fun U26 hU26 => ?_)
          have e27 := up_f hU26
          refine (show po_X11_layBeginning_e T m U26 (none) from ?_)
          have e28 : U26 236 0 m = 0 := (up_k hU26 (by exact Nat.ne_of_beq_eq_false rfl) 0 m).trans ((up_k hU24 (by exact Nat.ne_of_beq_eq_false rfl) 0 m).trans (up_f hU22))
          have e29 : U26 237 0 m = 0 := (up_k hU26 (by exact Nat.ne_of_beq_eq_false rfl) 0 m).trans (up_f hU24)
          have e30 : U26 235 0 m = 1 := up_f hU26
          have e31 : U26 236 0 m = 0 := (up_k hU26 (by exact Nat.ne_of_beq_eq_false rfl) 0 m).trans ((up_k hU24 (by exact Nat.ne_of_beq_eq_false rfl) 0 m).trans (up_f hU22))
          have e32 : U26 237 0 m = 0 := (up_k hU26 (by exact Nat.ne_of_beq_eq_false rfl) 0 m).trans (up_f hU24)
          have e33 : U26 235 0 m = 1 := up_f hU26
          have so5 : SO_ T U26 m := so_f (ws := [(235, [])]) (so_1 (so_0 (so_f (ws := [(246, [])]) (so4) (fr_u (fr_0 _ _) hU20 rfl) ⟨fun _ => rfl, fun _ => rfl, fun _ => rfl⟩) hU22) hU24) (fr_u (fr_0 _ _) hU26 rfl) ⟨fun _ => rfl, fun _ => rfl, fun _ => rfl⟩
          have y5 : ∀ j, 20 * m ≤ j → j < 20 * m + 20 → U26 242 0 j = 0 := by
            intro j a b
            by_cases c : j % 10 < T 239 0 (j / 10)
            · rw [(up_k hU26 (by exact Nat.ne_of_beq_eq_false rfl) 0 j).trans ((up_k hU24 (by exact Nat.ne_of_beq_eq_false rfl) 0 j).trans ((up_k hU22 (by exact Nat.ne_of_beq_eq_false rfl) 0 j).trans (up_k hU20 (by exact Nat.ne_of_beq_eq_false rfl) 0 j)))]; exact (w4 j a b c).2.2.1
            · rw [so5.2 j (fun w => c w.2.2)]; exact hzs j (by omega) (by omega) (by omega)
          have d5 : U26 246 0 (8 * m + 5) = 1 := ((up_k hU26 (by exact Nat.ne_of_beq_eq_false rfl) 0 (8 * m + 5)).trans ((up_k hU24 (by exact Nat.ne_of_beq_eq_false rfl) 0 (8 * m + 5)).trans (up_k hU22 (by exact Nat.ne_of_beq_eq_false rfl) 0 (8 * m + 5)))).trans (up_f hU20)
          refine ⟨rfl, fr_u (fr_u (fr_u (fr_u (fr_t (fr_0 _ _) (fr_s hf_144 rfl)) hU20 rfl) hU22 rfl) hU24 rfl) hU26 rfl, fm_4 (FM__f (ws := [(237, [])]) (FM__f (ws := [(236, [])]) (FM__f (ws := [(246, [])]) (fm4) (fr_u (fr_0 _ _) hU20 rfl) ⟨fun _ => rfl, fun _ => rfl, trivial⟩) (fr_u (fr_0 _ _) hU22 rfl) ⟨fun _ => rfl, fun _ => rfl, trivial⟩) (fr_u (fr_0 _ _) hU24 rfl) ⟨fun _ => rfl, fun _ => rfl, trivial⟩) hU26 (fun s a b => by rw [(up_k hU24 (by exact Nat.ne_of_beq_eq_false rfl) 0 (2 * m + s)).trans ((up_k hU22 (by exact Nat.ne_of_beq_eq_false rfl) 0 (2 * m + s)).trans (up_k hU20 (by exact Nat.ne_of_beq_eq_false rfl) 0 (2 * m + s))), u4 _ (by omega) (by omega)]; omega), so5, ⟨by omega, by omega, fun j a b => by rw [y5 j a b]; decide⟩, fun j a b => ?_, fun j a b c => ?_, fun j a b c => ?_, fun j a b c => ?_, ⟨fun z => by omega, fun z => by omega⟩, by omega, by omega, by omega, ro_u (m := m) (k := 103) (j := 3) (ro_u (m := m) (k := 468) (j := 1) (ro_u (m := m) (k := 468) (j := 0) (ro_l (ro4) hU20 (by omega)) hU22 rfl rfl (by show m = _; omega)) hU24 rfl rfl (by show m = _; omega)) hU26 rfl rfl (by show m = _; omega)⟩
          · rw [(up_k hU26 (by exact Nat.ne_of_beq_eq_false rfl) 0 j).trans ((up_k hU24 (by exact Nat.ne_of_beq_eq_false rfl) 0 j).trans ((up_k hU22 (by exact Nat.ne_of_beq_eq_false rfl) 0 j).trans (up_k hU20 (by exact Nat.ne_of_beq_eq_false rfl) 0 j)))]; exact u4 j a b
          · rw [(up_k hU26 (by exact Nat.ne_of_beq_eq_false rfl) 0 j).trans ((up_k hU24 (by exact Nat.ne_of_beq_eq_false rfl) 0 j).trans ((up_k hU22 (by exact Nat.ne_of_beq_eq_false rfl) 0 j).trans (up_k hU20 (by exact Nat.ne_of_beq_eq_false rfl) 0 j))), (up_k hU26 (by exact Nat.ne_of_beq_eq_false rfl) 0 j).trans ((up_k hU24 (by exact Nat.ne_of_beq_eq_false rfl) 0 j).trans ((up_k hU22 (by exact Nat.ne_of_beq_eq_false rfl) 0 j).trans (up_k hU20 (by exact Nat.ne_of_beq_eq_false rfl) 0 j))), (up_k hU26 (by exact Nat.ne_of_beq_eq_false rfl) 0 j).trans ((up_k hU24 (by exact Nat.ne_of_beq_eq_false rfl) 0 j).trans ((up_k hU22 (by exact Nat.ne_of_beq_eq_false rfl) 0 j).trans (up_k hU20 (by exact Nat.ne_of_beq_eq_false rfl) 0 j)))]; exact w4 j a b c
          · rw [(up_k hU26 (by exact Nat.ne_of_beq_eq_false rfl) 0 j).trans ((up_k hU24 (by exact Nat.ne_of_beq_eq_false rfl) 0 j).trans ((up_k hU22 (by exact Nat.ne_of_beq_eq_false rfl) 0 j).trans (up_k hU20 (by exact Nat.ne_of_beq_eq_false rfl) 0 j)))]; exact x4 j a b c
          · rw [(up_k hU26 (by exact Nat.ne_of_beq_eq_false rfl) 0 j).trans ((up_k hU24 (by exact Nat.ne_of_beq_eq_false rfl) 0 j).trans (up_k hU22 (by exact Nat.ne_of_beq_eq_false rfl) 0 j)), up_g hU20 (fun y => c y.2.2)]; exact l4 j a (by omega)
      · refine rg_i (by omega) ?_
        refine rg_i (by omega) ?_
        refine iy_i (by omega) (by omega) ?_
        refine x_nm (fun U34 hU34 => ?_)
        have e35 := up_f hU34
        refine rg_i (by omega) ?_
        refine hK 144 [some (vR 111 0), some (vI m), none, some (vI (i + 1)), none] [] U34 ?_
        refine ih_144 _ ?_ (i + 1) U34 (Nat.le_refl _) ?_ ?_ ?_ ?_ ?_ ?_ ?_ ?_ ?_
        · have hm_144 := hm_144 (); omega
        · exact fr_u (fr_t (fr_0 _ _) (fr_s hf_144 rfl)) hU34 rfl
        · exact FM__f (ws := [(246, [])]) (fm4) (fr_u (fr_0 _ _) hU34 rfl) ⟨fun _ => rfl, fun _ => rfl, trivial⟩
        · exact so_f (ws := [(246, [])]) (so4) (fr_u (fr_0 _ _) hU34 rfl) ⟨fun _ => rfl, fun _ => rfl, fun _ => rfl⟩
        · exact ro_l (ro4) hU34 (by omega)
        · intro j a b
          rw [up_k hU34 (by exact Nat.ne_of_beq_eq_false rfl) 0 j]
          exact u4 j a (by omega)
        · intro j a b c
          rw [up_k hU34 (by exact Nat.ne_of_beq_eq_false rfl) 0 j, up_k hU34 (by exact Nat.ne_of_beq_eq_false rfl) 0 j, up_k hU34 (by exact Nat.ne_of_beq_eq_false rfl) 0 j]
          exact w4 j a (by omega) c
        · intro j a b c
          rw [up_k hU34 (by exact Nat.ne_of_beq_eq_false rfl) 0 j]
          exact x4 j a (by omega) c
        · intro j a b
          by_cases z : j = (8 * m) + i
          · rw [z, up_f hU34]
          · rw [up_g hU34 (fun y => z y.2.2)]; exact l4 j a (by omega)
        · omega
  have c_17 : ∀ (nn : Nat) (sh : Int) (T1 : Zt), ((2 * m + 2 - sh).toNat) ≤ nn → (fr_ [(244, []), (241, []), (242, []), (243, []), (245, [])] T T1) → (FM_ T1) → (SO_ T T1 m) → (ro9_ T T1 m) → (∀ j, 2 * m ≤ j → j < sh → T1 244 0 j = T 205 0 (23 * T 230 0 m + 9)) → (∀ j, 20 * m ≤ j → j < 10 * sh → j % 10 < T 239 0 (j / 10) → (j % 10 < T 205 0 (23 * T 230 0 m + 9) → T1 241 0 j = 1) ∧ (T 205 0 (23 * T 230 0 m + 9) ≤ j % 10 → T1 241 0 j = 0) ∧ T1 242 0 j = 0 ∧ T1 243 0 j = 0) → (∀ j, 12 * m ≤ j → j < 6 * sh → j % 6 < T 205 0 (23 * T 230 0 m + 9) → T1 245 0 j = 10 * (j / 6) + j % 6) → (2 * m ≤ sh ∧ sh ≤ 2 * m + 2) → J_ zX11_layBeginning T (po_X11_layBeginning_e T m) 0 0 17 [some (vR 111 0), some (vI m), some (vI (T 205 0 (23 * T 230 0 m + 9))), some (vI sh), none] [] T1 := by
    intro nn
    induction nn using Nat.strongRecOn with
    | _ nn ih_17 =>
      intro sh T1 hm_17 hf_17 fm1 so1 ro1 u1 w1 x1 i1
      replace hm_17 := fun (_ : Unit) => hm_17
      have hsh : 0 ≤ T 239 0 sh ∧ T 239 0 sh ≤ 10 := bd_a hT 239 (by decide +kernel : ta_ 239 = some (1, some 800, 0, 10)) 0 (by omega)
      have c_105 : ∀ (nn : Nat) (k : Int) (T3 : Zt), ((6 - k).toNat) ≤ nn → (fr_ [(244, []), (241, []), (242, []), (243, []), (245, [])] T T3) → (FM_ T3) → (SO_ T T3 m) → (ro9_ T T3 m) → (∀ j, 2 * m ≤ j → j < sh + 1 → T3 244 0 j = T 205 0 (23 * T 230 0 m + 9)) → (∀ j, 20 * m ≤ j → j < 10 * sh + 10 → j % 10 < T 239 0 (j / 10) → (j % 10 < T 205 0 (23 * T 230 0 m + 9) → T3 241 0 j = 1) ∧ (T 205 0 (23 * T 230 0 m + 9) ≤ j % 10 → T3 241 0 j = 0) ∧ T3 242 0 j = 0 ∧ T3 243 0 j = 0) → (∀ j, 12 * m ≤ j → j < 6 * sh + k → j % 6 < T 205 0 (23 * T 230 0 m + 9) → T3 245 0 j = 10 * (j / 6) + j % 6) → (0 ≤ k ∧ sh ≤ 2 * m + 1 ∧ k ≤ T 205 0 (23 * T 230 0 m + 9)) → J_ zX11_layBeginning T (po_X11_layBeginning_e T m) 0 0 105 [some (vR 111 0), some (vI m), some (vI (T 205 0 (23 * T 230 0 m + 9))), some (vI sh), some (vI k)] [] T3 := by
        intro nn
        induction nn using Nat.strongRecOn with
        | _ nn ih_105 =>
          intro k T3 hm_105 hf_105 fm3 so3 ro3 u3 w3 x3 i3
          replace hm_105 := fun (_ : Unit) => hm_105
          refine j_blx (F := fX11) tb_X11 (nn_ _) bk_X11_layBeginning_e_105 bs_X11_layBeginning_e_105 hz (fun K hK => ?_)
          refine And.intro (fun c36 => ?_) (fun c36 => ?_)
          · refine hK 136 _ [] T3 ?_
            refine j_blx (F := fX11) tb_X11 (nn_ _) bk_X11_layBeginning_e_136 bs_X11_layBeginning_e_136 hz (fun K hK => ?_)
            refine rg_i (by omega) ?_
            refine hK 17 [some (vR 111 0), some (vI m), some (vI (T 205 0 (23 * T 230 0 m + 9))), some (vI (sh + 1)), some (vI k)] [] T3 ?_
            refine j_drop [some (vR 111 0), some (vI m), some (vI (T 205 0 (23 * T 230 0 m + 9))), some (vI (sh + 1)), none] (fun k v hk => ?_) rfl ?_
            · match k, hk with
              | 0, hk => exact hk
              | 1, hk => exact hk
              | 2, hk => exact hk
              | 3, hk => exact hk
              | 4, hk => cases hk
              | k + 5, hk => cases hk
            refine ih_17 _ ?_ (sh + 1) T3 (Nat.le_refl _) ?_ ?_ ?_ ?_ ?_ ?_ ?_ ?_
            · have hm_17 := hm_17 (); omega
            · exact fr_t (fr_0 _ _) (fr_s hf_105 rfl)
            · exact fm3
            · exact so3
            · exact ro3
            · intro j a b
              exact u3 j a (by omega)
            · intro j a b c
              exact w3 j a (by omega) c
            · intro j a b c
              exact x3 j a (by omega) c
            · omega
          · refine rg_i (by omega) ?_
            refine rg_i (by omega) ?_
            refine rg_i (by omega) ?_
            refine rg_i (by omega) ?_
            refine iy_i (by omega) (by omega) ?_
            refine x_nm (fun U37 hU37 => ?_)
            have e38 := up_f hU37
            refine rg_i (by omega) ?_
            refine hK 105 [some (vR 111 0), some (vI m), some (vI (T 205 0 (23 * T 230 0 m + 9))), some (vI sh), some (vI (k + 1))] [] U37 ?_
            refine ih_105 _ ?_ (k + 1) U37 (Nat.le_refl _) ?_ ?_ ?_ ?_ ?_ ?_ ?_ ?_
            · have hm_105 := hm_105 (); omega
            · exact fr_u (fr_t (fr_0 _ _) (fr_s hf_105 rfl)) hU37 rfl
            · exact FM__f (ws := [(245, [])]) (fm3) (fr_u (fr_0 _ _) hU37 rfl) ⟨fun _ => rfl, fun _ => rfl, trivial⟩
            · exact so_f (ws := [(245, [])]) (so3) (fr_u (fr_0 _ _) hU37 rfl) ⟨fun _ => rfl, fun _ => rfl, fun _ => rfl⟩
            · exact ro_u (m := m) (k := 471) (j := k - 12 * m + 6 * sh) (ro3) hU37 (dm_471 (by omega)) rfl (by show 12 * m + (k - 12 * m + 6 * sh) = _; omega)
            · intro j a b
              rw [up_k hU37 (by exact Nat.ne_of_beq_eq_false rfl) 0 j]
              exact u3 j a (by omega)
            · intro j a b c
              rw [up_k hU37 (by exact Nat.ne_of_beq_eq_false rfl) 0 j, up_k hU37 (by exact Nat.ne_of_beq_eq_false rfl) 0 j, up_k hU37 (by exact Nat.ne_of_beq_eq_false rfl) 0 j]
              exact w3 j a (by omega) c
            · intro j a b c
              by_cases z : j = (6 * sh) + k
              · rw [z, up_f hU37]; omega
              · rw [up_g hU37 (fun y => z y.2.2)]; exact x3 j a (by omega) c
            · omega
      have c_36 : ∀ (nn : Nat) (k : Int) (T2 : Zt), ((10 - k).toNat) ≤ nn → (fr_ [(244, []), (241, []), (242, []), (243, []), (245, [])] T T2) → (FM_ T2) → (SO_ T T2 m) → (ro9_ T T2 m) → (∀ j, 2 * m ≤ j → j < sh + 1 → T2 244 0 j = T 205 0 (23 * T 230 0 m + 9)) → (∀ j, 20 * m ≤ j → j < 10 * sh + k → j % 10 < T 239 0 (j / 10) → (j % 10 < T 205 0 (23 * T 230 0 m + 9) → T2 241 0 j = 1) ∧ (T 205 0 (23 * T 230 0 m + 9) ≤ j % 10 → T2 241 0 j = 0) ∧ T2 242 0 j = 0 ∧ T2 243 0 j = 0) → (∀ j, 12 * m ≤ j → j < 6 * sh → j % 6 < T 205 0 (23 * T 230 0 m + 9) → T2 245 0 j = 10 * (j / 6) + j % 6) → (0 ≤ k ∧ sh ≤ 2 * m + 1 ∧ k ≤ T 239 0 sh) → J_ zX11_layBeginning T (po_X11_layBeginning_e T m) 0 0 36 [some (vR 111 0), some (vI m), some (vI (T 205 0 (23 * T 230 0 m + 9))), some (vI sh), some (vI k)] [] T2 := by
        intro nn
        induction nn using Nat.strongRecOn with
        | _ nn ih_36 =>
          intro k T2 hm_36 hf_36 fm2 so2 ro2 u2 w2 x2 i2
          replace hm_36 := fun (_ : Unit) => hm_36
          have hsm : 0 ≤ T 239 0 sh ∧ T 239 0 sh ≤ 10 := bd_a hT 239 (by decide +kernel : ta_ 239 = some (1, some 800, 0, 10)) 0 (by omega)
          refine j_blx (F := fX11) tb_X11 (nn_ _) bk_X11_layBeginning_e_36 bs_X11_layBeginning_e_36 hz (fun K hK => ?_)
          refine ix_i (by omega) ?_
          intro b39 b39b
          have e40 : T2 239 0 sh = T 239 0 sh := hf_36 239 0 sh rfl
          rw [e40] at b39 b39b ⊢
          refine And.intro (fun c41 => ?_) (fun c41 => ?_)
          · refine hK 102 _ [] T2 ?_
            refine j_blx (F := fX11) tb_X11 (nn_ _) bk_X11_layBeginning_e_102 bs_X11_layBeginning_e_102 hz (fun K hK => ?_)
            refine hK 105 [some (vR 111 0), some (vI m), some (vI (T 205 0 (23 * T 230 0 m + 9))), some (vI sh), some (vI 0)] [] T2 ?_
            refine c_105 _ 0 T2 (Nat.le_refl _) ?_ ?_ ?_ ?_ ?_ ?_ ?_ ?_
            · exact fr_t (fr_0 _ _) (fr_s hf_36 rfl)
            · exact fm2
            · exact so2
            · exact ro2
            · intro j a b
              exact u2 j a (by omega)
            · intro j a b c
              by_cases z : j < 10 * sh + k
              · exact w2 j a z c
              · rw [show j / 10 = sh from Int.le_antisymm (by omega) (by omega)] at c; omega
            · intro j a b c
              exact x2 j a (by omega) c
            · omega
          · refine rg_i (by omega) ?_
            refine rg_i (by omega) ?_
            refine And.intro (fun c42 => ?_) (fun c42 => ?_)
            · refine hK 68 [some (vR 111 0), some (vI m), some (vI (T 205 0 (23 * T 230 0 m + 9))), some (vI sh), some (vI k)] [vI ((10 * sh) + k), vR 241 0] T2 ?_
              refine j_blx (F := fX11) tb_X11 (nn_ _) bk_X11_layBeginning_e_68 bs_X11_layBeginning_e_68 hz (fun K hK => ?_)
              refine iy_i (by omega) (by omega) ?_
              refine x_nm (fun U43 hU43 => ?_)
              have e44 := up_f hU43
              refine rg_i (by omega) ?_
              refine rg_i (by omega) ?_
              refine iy_i (by omega) (by omega) ?_
              refine x_nm (fun U45 hU45 => ?_)
              have e46 := up_f hU45
              refine rg_i (by omega) ?_
              refine rg_i (by omega) ?_
              refine iy_i (by omega) (by omega) ?_
              refine x_nm (fun U47 hU47 => ?_)
              have e48 := up_f hU47
              refine rg_i (by omega) ?_
              refine hK 36 [some (vR 111 0), some (vI m), some (vI (T 205 0 (23 * T 230 0 m + 9))), some (vI sh), some (vI (k + 1))] [] U47 ?_
              refine ih_36 _ ?_ (k + 1) U47 (Nat.le_refl _) ?_ ?_ ?_ ?_ ?_ ?_ ?_ ?_
              · have hm_36 := hm_36 (); omega
              · exact fr_u (fr_u (fr_u (fr_t (fr_0 _ _) (fr_s hf_36 rfl)) hU43 rfl) hU45 rfl) hU47 rfl
              · exact FM__f (ws := [(243, [])]) (FM__f (ws := [(242, [])]) (FM__f (ws := [(241, [])]) (fm2) (fr_u (fr_0 _ _) hU43 rfl) ⟨fun _ => rfl, fun _ => rfl, trivial⟩) (fr_u (fr_0 _ _) hU45 rfl) ⟨fun _ => rfl, fun _ => rfl, trivial⟩) (fr_u (fr_0 _ _) hU47 rfl) ⟨fun _ => rfl, fun _ => rfl, trivial⟩
              · exact so_f (ws := [(243, [])]) (so_y (so_f (ws := [(241, [])]) (so2) (fr_u (fr_0 _ _) hU43 rfl) ⟨fun _ => rfl, fun _ => rfl, fun _ => rfl⟩) hU45 (sh) (by omega)) (fr_u (fr_0 _ _) hU47 rfl) ⟨fun _ => rfl, fun _ => rfl, fun _ => rfl⟩
              · exact ro_u (m := m) (k := 474) (j := ((10 * sh) + k) - 20 * m) (ro_u (m := m) (k := 473) (j := ((10 * sh) + k) - 20 * m) (ro_u (m := m) (k := 472) (j := ((10 * sh) + k) - 20 * m) (ro2) hU43 (dm_472 (by omega)) rfl (by show 20 * m + (((10 * sh) + k) - 20 * m) = _; omega)) hU45 (dm_473 (by omega)) rfl (by show 20 * m + (((10 * sh) + k) - 20 * m) = _; omega)) hU47 (dm_474 (by omega)) rfl (by show 20 * m + (((10 * sh) + k) - 20 * m) = _; omega)
              · intro j a b
                rw [(up_k hU47 (by exact Nat.ne_of_beq_eq_false rfl) 0 j).trans ((up_k hU45 (by exact Nat.ne_of_beq_eq_false rfl) 0 j).trans (up_k hU43 (by exact Nat.ne_of_beq_eq_false rfl) 0 j))]
                exact u2 j a (by omega)
              · intro j a b c
                by_cases z : j = 10 * sh + k
                · have d1 : U47 241 0 j = 0 := by rw [z]; exact ((up_k hU47 (by exact Nat.ne_of_beq_eq_false rfl) 0 _).trans (up_k hU45 (by exact Nat.ne_of_beq_eq_false rfl) 0 _)).trans (up_f hU43)
                  have d2 : U47 242 0 j = 0 := by rw [z]; exact (up_k hU47 (by exact Nat.ne_of_beq_eq_false rfl) 0 _).trans (up_f hU45)
                  have d3 : U47 243 0 j = 0 := by rw [z]; exact up_f hU47
                  refine ⟨fun g => ?_, fun g => ?_, d2, d3⟩
                  · omega
                  · omega
                · have d1 : U47 241 0 j = T2 241 0 j := (up_k hU47 (by exact Nat.ne_of_beq_eq_false rfl) 0 j).trans ((up_k hU45 (by exact Nat.ne_of_beq_eq_false rfl) 0 j).trans (up_g hU43 (fun y => z y.2.2)))
                  have d2 : U47 242 0 j = T2 242 0 j := (up_k hU47 (by exact Nat.ne_of_beq_eq_false rfl) 0 j).trans ((up_g hU45 (fun y => z y.2.2)).trans (up_k hU43 (by exact Nat.ne_of_beq_eq_false rfl) 0 j))
                  have d3 : U47 243 0 j = T2 243 0 j := (up_g hU47 (fun y => z y.2.2)).trans ((up_k hU45 (by exact Nat.ne_of_beq_eq_false rfl) 0 j).trans (up_k hU43 (by exact Nat.ne_of_beq_eq_false rfl) 0 j))
                  rw [d1, d2, d3]
                  exact w2 j a (by omega) c
              · intro j a b c
                rw [(up_k hU47 (by exact Nat.ne_of_beq_eq_false rfl) 0 j).trans ((up_k hU45 (by exact Nat.ne_of_beq_eq_false rfl) 0 j).trans (up_k hU43 (by exact Nat.ne_of_beq_eq_false rfl) 0 j))]
                exact x2 j a (by omega) c
              · omega
            · refine hK 69 [some (vR 111 0), some (vI m), some (vI (T 205 0 (23 * T 230 0 m + 9))), some (vI sh), some (vI k)] [vI 1, vI ((10 * sh) + k), vR 241 0] T2 ?_
              refine j_blx (F := fX11) tb_X11 (nn_ _) bk_X11_layBeginning_e_69 bs_X11_layBeginning_e_69 hz (fun K hK => ?_)
              refine iy_i (by omega) (by omega) ?_
              refine x_nm (fun U49 hU49 => ?_)
              have e50 := up_f hU49
              refine rg_i (by omega) ?_
              refine rg_i (by omega) ?_
              refine iy_i (by omega) (by omega) ?_
              refine x_nm (fun U51 hU51 => ?_)
              have e52 := up_f hU51
              refine rg_i (by omega) ?_
              refine rg_i (by omega) ?_
              refine iy_i (by omega) (by omega) ?_
              refine x_nm (fun U53 hU53 => ?_)
              have e54 := up_f hU53
              refine rg_i (by omega) ?_
              refine hK 36 [some (vR 111 0), some (vI m), some (vI (T 205 0 (23 * T 230 0 m + 9))), some (vI sh), some (vI (k + 1))] [] U53 ?_
              refine ih_36 _ ?_ (k + 1) U53 (Nat.le_refl _) ?_ ?_ ?_ ?_ ?_ ?_ ?_ ?_
              · have hm_36 := hm_36 (); omega
              · exact fr_u (fr_u (fr_u (fr_t (fr_0 _ _) (fr_s hf_36 rfl)) hU49 rfl) hU51 rfl) hU53 rfl
              · exact FM__f (ws := [(243, [])]) (FM__f (ws := [(242, [])]) (FM__f (ws := [(241, [])]) (fm2) (fr_u (fr_0 _ _) hU49 rfl) ⟨fun _ => rfl, fun _ => rfl, trivial⟩) (fr_u (fr_0 _ _) hU51 rfl) ⟨fun _ => rfl, fun _ => rfl, trivial⟩) (fr_u (fr_0 _ _) hU53 rfl) ⟨fun _ => rfl, fun _ => rfl, trivial⟩
              · exact so_f (ws := [(243, [])]) (so_y (so_f (ws := [(241, [])]) (so2) (fr_u (fr_0 _ _) hU49 rfl) ⟨fun _ => rfl, fun _ => rfl, fun _ => rfl⟩) hU51 (sh) (by omega)) (fr_u (fr_0 _ _) hU53 rfl) ⟨fun _ => rfl, fun _ => rfl, fun _ => rfl⟩
              · exact ro_u (m := m) (k := 474) (j := ((10 * sh) + k) - 20 * m) (ro_u (m := m) (k := 473) (j := ((10 * sh) + k) - 20 * m) (ro_u (m := m) (k := 472) (j := ((10 * sh) + k) - 20 * m) (ro2) hU49 (dm_472 (by omega)) rfl (by show 20 * m + (((10 * sh) + k) - 20 * m) = _; omega)) hU51 (dm_473 (by omega)) rfl (by show 20 * m + (((10 * sh) + k) - 20 * m) = _; omega)) hU53 (dm_474 (by omega)) rfl (by show 20 * m + (((10 * sh) + k) - 20 * m) = _; omega)
              · intro j a b
                rw [(up_k hU53 (by exact Nat.ne_of_beq_eq_false rfl) 0 j).trans ((up_k hU51 (by exact Nat.ne_of_beq_eq_false rfl) 0 j).trans (up_k hU49 (by exact Nat.ne_of_beq_eq_false rfl) 0 j))]
                exact u2 j a (by omega)
              · intro j a b c
                by_cases z : j = 10 * sh + k
                · have d1 : U53 241 0 j = 1 := by rw [z]; exact ((up_k hU53 (by exact Nat.ne_of_beq_eq_false rfl) 0 _).trans (up_k hU51 (by exact Nat.ne_of_beq_eq_false rfl) 0 _)).trans (up_f hU49)
                  have d2 : U53 242 0 j = 0 := by rw [z]; exact (up_k hU53 (by exact Nat.ne_of_beq_eq_false rfl) 0 _).trans (up_f hU51)
                  have d3 : U53 243 0 j = 0 := by rw [z]; exact up_f hU53
                  refine ⟨fun g => ?_, fun g => ?_, d2, d3⟩
                  · omega
                  · omega
                · have d1 : U53 241 0 j = T2 241 0 j := (up_k hU53 (by exact Nat.ne_of_beq_eq_false rfl) 0 j).trans ((up_k hU51 (by exact Nat.ne_of_beq_eq_false rfl) 0 j).trans (up_g hU49 (fun y => z y.2.2)))
                  have d2 : U53 242 0 j = T2 242 0 j := (up_k hU53 (by exact Nat.ne_of_beq_eq_false rfl) 0 j).trans ((up_g hU51 (fun y => z y.2.2)).trans (up_k hU49 (by exact Nat.ne_of_beq_eq_false rfl) 0 j))
                  have d3 : U53 243 0 j = T2 243 0 j := (up_g hU53 (fun y => z y.2.2)).trans ((up_k hU51 (by exact Nat.ne_of_beq_eq_false rfl) 0 j).trans (up_k hU49 (by exact Nat.ne_of_beq_eq_false rfl) 0 j))
                  rw [d1, d2, d3]
                  exact w2 j a (by omega) c
              · intro j a b c
                rw [(up_k hU53 (by exact Nat.ne_of_beq_eq_false rfl) 0 j).trans ((up_k hU51 (by exact Nat.ne_of_beq_eq_false rfl) 0 j).trans (up_k hU49 (by exact Nat.ne_of_beq_eq_false rfl) 0 j))]
                exact x2 j a (by omega) c
              · omega
      refine j_blx (F := fX11) tb_X11 (nn_ _) bk_X11_layBeginning_e_17 bs_X11_layBeginning_e_17 hz (fun K hK => ?_)
      refine rg_i (by omega) ?_
      refine rg_i (by omega) ?_
      refine And.intro (fun c55 => ?_) (fun c55 => ?_)
      · refine hK 142 _ [] T1 ?_
        refine j_blx (F := fX11) tb_X11 (nn_ _) bk_X11_layBeginning_e_142 bs_X11_layBeginning_e_142 hz (fun K hK => ?_)
        refine hK 144 [some (vR 111 0), some (vI m), some (vI (T 205 0 (23 * T 230 0 m + 9))), some (vI 0), none] [] T1 ?_
        refine j_drop [some (vR 111 0), some (vI m), none, some (vI 0), none] (fun k v hk => ?_) rfl ?_
        · match k, hk with
          | 0, hk => exact hk
          | 1, hk => exact hk
          | 2, hk => cases hk
          | 3, hk => exact hk
          | 4, hk => cases hk
          | k + 5, hk => cases hk
        refine c_144 _ 0 T1 (Nat.le_refl _) ?_ ?_ ?_ ?_ ?_ ?_ ?_ ?_ ?_
        · exact fr_t (fr_0 _ _) (fr_s hf_17 rfl)
        · exact fm1
        · exact so1
        · exact ro1
        · intro j a b
          exact u1 j a (by omega)
        · intro j a b c
          exact w1 j a (by omega) c
        · intro j a b c
          exact x1 j a (by omega) c
        · intro j a b; omega
        · omega
      · refine iy_i (by omega) (by omega) ?_
        refine x_nm (fun U56 hU56 => ?_)
        have e57 := up_f hU56
        refine hK 36 [some (vR 111 0), some (vI m), some (vI (T 205 0 (23 * T 230 0 m + 9))), some (vI sh), some (vI 0)] [] U56 ?_
        refine c_36 _ 0 U56 (Nat.le_refl _) ?_ ?_ ?_ ?_ ?_ ?_ ?_ ?_
        · exact fr_u (fr_t (fr_0 _ _) (fr_s hf_17 rfl)) hU56 rfl
        · exact fm_f (fm1) hU56 (by omega)
        · exact so_f (ws := [(244, [])]) (so1) (fr_u (fr_0 _ _) hU56 rfl) ⟨fun _ => rfl, fun _ => rfl, fun _ => rfl⟩
        · exact ro_u (m := m) (k := 470) (j := -2 * m + sh) (ro1) hU56 (dm_470 (by omega)) rfl (by show 2 * m + (-2 * m + sh) = _; omega)
        · intro j a b
          by_cases z : j = sh
          · rw [z, up_f hU56]
          · rw [up_g hU56 (fun y => z y.2.2)]; exact u1 j a (by omega)
        · intro j a b c
          rw [up_k hU56 (by exact Nat.ne_of_beq_eq_false rfl) 0 j, up_k hU56 (by exact Nat.ne_of_beq_eq_false rfl) 0 j, up_k hU56 (by exact Nat.ne_of_beq_eq_false rfl) 0 j]
          exact w1 j a (by omega) c
        · intro j a b c
          rw [up_k hU56 (by exact Nat.ne_of_beq_eq_false rfl) 0 j]
          exact x1 j a (by omega) c
        · omega
  refine j_blx (F := fX11) tb_X11 (nn_ _) bk_X11_layBeginning_e_0 bs_X11_layBeginning_e_0 hz (fun K hK => ?_)
  refine ix_i (by omega) ?_
  intro b58 b58b
  refine hK 9 _ [vI 9, vI (T 230 0 m), vR 111 0] T ?_
  refine j_callV (y := yX11_rule0) (Yc := zX11_rule0) (rest := []) [vI (T 230 0 m), vI 9] (ct_X11_rule0 (T := T) (by omega) (by omega)) cl_X11_321 (qd_c (by decide +kernel)) (nn_ _) rfl (rf_of rfl) (Nat.le_of_ble_eq_true rfl) (Nat.le_of_ble_eq_true rfl) (Nat.le_of_ble_eq_true rfl) rfl ?_
  rintro _ _ ⟨rfl, rfl⟩
  show J_ zX11_layBeginning T (po_X11_layBeginning_e T m) 0 0 12 _ [vI (T 205 0 (23 * (T 230 0 m) + 9))] T
  refine j_blx (F := fX11) tb_X11 (nn_ _) bk_X11_layBeginning_e_12 bs_X11_layBeginning_e_12 hz (fun K hK => ?_)
  refine rg_i (by omega) ?_
  refine hK 17 [some (vR 111 0), some (vI m), some (vI (T 205 0 (23 * (T 230 0 m) + 9))), some (vI (2 * m)), none] [] T ?_
  refine c_17 _ (2 * m) T (Nat.le_refl _) ?_ ?_ ?_ ?_ ?_ ?_ ?_ ?_
  · exact fr_0 _ _
  · exact hfm
  · exact so_r
  · exact ro_r
  · intro j a b; omega
  · intro j a b; omega
  · intro j a b; omega
  · omega
