/-- kinds and sides as told -/
def lfT_ (T : Zt) (m k s : Int) : Prop := ((T 205 0 (23 * T 230 0 m + 0) = 0 ∧ 0 ≤ k ∧ k ≤ 5) ∨ (T 205 0 (23 * T 230 0 m + 0) = 1 ∧ (k = 1 ∨ k = 5)) ∨ (T 205 0 (23 * T 230 0 m + 0) = 2 ∧ (k = 1 ∨ k = 6)) ∨ (¬ T 205 0 (23 * T 230 0 m + 0) = 0 ∧ ¬ T 205 0 (23 * T 230 0 m + 0) = 1 ∧ ¬ T 205 0 (23 * T 230 0 m + 0) = 2 ∧ 1 ≤ k ∧ k ≤ 4)) ∧ ((T 205 0 (23 * T 230 0 m + 0) = 0 ∧ k = 0) ∨ (0 ≤ s ∧ s ≤ 1))
/-- no row is wanting, no other side serves -/
def lfN_ (T : Zt) (m k s : Int) : Prop := ¬ ((T 205 0 (23 * T 230 0 m + 0) = 0 ∧ (k = 1 ∨ k = 2) ∧ T 246 0 (8 * m + 0) = 1) ∨ (T 205 0 (23 * T 230 0 m + 0) = 3 ∧ T 246 0 (8 * m + 5) ≠ s))
/-- a person is wanted -/
def lfW_ (T : Zt) (m k : Int) : Prop := (T 205 0 (23 * T 230 0 m + 0) = 0 ∧ 0 < k) ∨ (T 205 0 (23 * T 230 0 m + 0) = 1 ∧ k = 5)
theorem lf_s {T : Zt} {m k s : Int} (t : lfT_ T m k s) (w : lfW_ T m k) : 0 ≤ s ∧ s ≤ 1 := by
  unfold lfW_ at w
  rcases t.2 with z | z
  · omega
  · exact z
theorem bk_X11_lawOf_e_200 : ck_ fX11 (some .int) cX11_lawOf 200 [.iload 6, .iload 2, .iload 5] 205 = true := qck_r (by decide) (by decide +kernel)
theorem bs_X11_lawOf_e_200 {P : Zt → Option Zv → Prop} (K : Int → Zl → List Zv → Zt → Prop) : sx_ K P [.iload 6, .iload 2, .iload 5] 205 = x_iload 6 (x_iload 2 (x_iload 5 (K 205))) := ((xe_iload 6).trans (congrArg (x_iload 6) ((xe_iload 2).trans (congrArg (x_iload 2) ((xe_iload 5).trans (congrArg (x_iload 5) xe_nil))))))
theorem bk_X11_lawOf_e_208 : ck_ fX11 (some .int) cX11_lawOf 208 [.ifCond .eq 215, .iconst 0, .goto 217] 215 = true := qck_r (by decide) (by decide +kernel)
theorem bs_X11_lawOf_e_208 {P : Zt → Option Zv → Prop} (K : Int → Zl → List Zv → Zt → Prop) : sx_ K P [.ifCond .eq 215, .iconst 0, .goto 217] 215 = x_ifCond .eq 215 K (x_iconst 0 (x_goto 217 K)) := ((xe_ifCond .eq 215).trans (congrArg (x_ifCond .eq 215 K) ((xe_iconst 0).trans (congrArg (x_iconst 0) (xe_goto 217)))))
theorem bk_X11_lawOf_e_215 : ck_ fX11 (some .int) cX11_lawOf 215 [.iconst 7, .ireturn] 218 = true := qck_r (by decide) (by decide +kernel)
theorem bs_X11_lawOf_e_215 {P : Zt → Option Zv → Prop} (K : Int → Zl → List Zv → Zt → Prop) : sx_ K P [.iconst 7, .ireturn] 218 = x_iconst 7 (x_ireturn P) := ((xe_iconst 7).trans (congrArg (x_iconst 7) (xe_ireturn)))
theorem bk_X11_lawOf_e_217 : ck_ fX11 (some .int) cX11_lawOf 217 [.ireturn] 218 = true := qck_r (by decide) (by decide +kernel)
theorem bs_X11_lawOf_e_217 {P : Zt → Option Zv → Prop} (K : Int → Zl → List Zv → Zt → Prop) : sx_ K P [.ireturn] 218 = x_ireturn P := (xe_ireturn)
theorem bk_X11_lawOf_e_163 : ck_ fX11 (some .int) cX11_lawOf 163 [.iload 8, .ifCond .eq 200, .iload 2, .iconst 5, .if_icmp .ne 200, .aload 0, .iload 1, .iconst 6, .iload 3, .iadd] 179 = true := qck_r (by decide) (by decide +kernel)
theorem bs_X11_lawOf_e_163 {P : Zt → Option Zv → Prop} (K : Int → Zl → List Zv → Zt → Prop) : sx_ K P [.iload 8, .ifCond .eq 200, .iload 2, .iconst 5, .if_icmp .ne 200, .aload 0, .iload 1, .iconst 6, .iload 3, .iadd] 179 = x_iload 8 (x_ifCond .eq 200 K (x_iload 2 (x_iconst 5 (x_if_icmp .ne 200 K (x_aload 0 (x_iload 1 (x_iconst 6 (x_iload 3 (x_iadd (K 179)))))))))) := ((xe_iload 8).trans (congrArg (x_iload 8) ((xe_ifCond .eq 200).trans (congrArg (x_ifCond .eq 200 K) ((xe_iload 2).trans (congrArg (x_iload 2) ((xe_iconst 5).trans (congrArg (x_iconst 5) ((xe_if_icmp .ne 200).trans (congrArg (x_if_icmp .ne 200 K) ((xe_aload 0).trans (congrArg (x_aload 0) ((xe_iload 1).trans (congrArg (x_iload 1) ((xe_iconst 6).trans (congrArg (x_iconst 6) ((xe_iload 3).trans (congrArg (x_iload 3) ((xe_iadd).trans (congrArg (x_iadd) xe_nil))))))))))))))))))))
theorem bk_X11_lawOf_e_182 : ck_ fX11 (some .int) cX11_lawOf 182 [.aload 0, .aload 0, .tableswitch 0 11 30 #[], .iload 1, .iaload, .iconst 10] 191 = true := qck_r (by decide) (by decide +kernel)
theorem bs_X11_lawOf_e_182 {P : Zt → Option Zv → Prop} (K : Int → Zl → List Zv → Zt → Prop) : sx_ K P [.aload 0, .aload 0, .tableswitch 0 11 30 #[], .iload 1, .iaload, .iconst 10] 191 = x_aload 0 (x_aload 0 (x_g1 111 230 (x_iload 1 (x_iaload (x_iconst 10 (K 191)))))) := ((xe_aload 0).trans (congrArg (x_aload 0) ((xe_aload 0).trans (congrArg (x_aload 0) ((xe_g1 (kk := 111) rfl tl_11_30).trans (congrArg (x_g1 111 230) ((xe_iload 1).trans (congrArg (x_iload 1) ((xe_iaload).trans (congrArg (x_iaload) ((xe_iconst 10).trans (congrArg (x_iconst 10) xe_nil))))))))))))
theorem bk_X11_lawOf_e_194 : ck_ fX11 (some .int) cX11_lawOf 194 [.if_icmp .ne 200, .iconst 6, .ireturn] 200 = true := qck_r (by decide) (by decide +kernel)
theorem bs_X11_lawOf_e_194 {P : Zt → Option Zv → Prop} (K : Int → Zl → List Zv → Zt → Prop) : sx_ K P [.if_icmp .ne 200, .iconst 6, .ireturn] 200 = x_if_icmp .ne 200 K (x_iconst 6 (x_ireturn P)) := ((xe_if_icmp .ne 200).trans (congrArg (x_if_icmp .ne 200 K) ((xe_iconst 6).trans (congrArg (x_iconst 6) (xe_ireturn)))))
theorem bk_X11_lawOf_e_139 : ck_ fX11 (some .int) cX11_lawOf 139 [.iload 8, .ifCond .eq 163, .iload 2, .iconst 5, .if_icmp .ne 163, .aload 0, .iload 1, .iload 3, .iload 5, .iconst 0] 155 = true := qck_r (by decide) (by decide +kernel)
theorem bs_X11_lawOf_e_139 {P : Zt → Option Zv → Prop} (K : Int → Zl → List Zv → Zt → Prop) : sx_ K P [.iload 8, .ifCond .eq 163, .iload 2, .iconst 5, .if_icmp .ne 163, .aload 0, .iload 1, .iload 3, .iload 5, .iconst 0] 155 = x_iload 8 (x_ifCond .eq 163 K (x_iload 2 (x_iconst 5 (x_if_icmp .ne 163 K (x_aload 0 (x_iload 1 (x_iload 3 (x_iload 5 (x_iconst 0 (K 155)))))))))) := ((xe_iload 8).trans (congrArg (x_iload 8) ((xe_ifCond .eq 163).trans (congrArg (x_ifCond .eq 163 K) ((xe_iload 2).trans (congrArg (x_iload 2) ((xe_iconst 5).trans (congrArg (x_iconst 5) ((xe_if_icmp .ne 163).trans (congrArg (x_if_icmp .ne 163 K) ((xe_aload 0).trans (congrArg (x_aload 0) ((xe_iload 1).trans (congrArg (x_iload 1) ((xe_iload 3).trans (congrArg (x_iload 3) ((xe_iload 5).trans (congrArg (x_iload 5) ((xe_iconst 0).trans (congrArg (x_iconst 0) xe_nil))))))))))))))))))))
theorem bk_X11_lawOf_e_158 : ck_ fX11 (some .int) cX11_lawOf 158 [.ifCond .ne 163, .iconst 5, .ireturn] 163 = true := qck_r (by decide) (by decide +kernel)
theorem bs_X11_lawOf_e_158 {P : Zt → Option Zv → Prop} (K : Int → Zl → List Zv → Zt → Prop) : sx_ K P [.ifCond .ne 163, .iconst 5, .ireturn] 163 = x_ifCond .ne 163 K (x_iconst 5 (x_ireturn P)) := ((xe_ifCond .ne 163).trans (congrArg (x_ifCond .ne 163 K) ((xe_iconst 5).trans (congrArg (x_iconst 5) (xe_ireturn)))))
theorem bk_X11_lawOf_e_118 : ck_ fX11 (some .int) cX11_lawOf 118 [.istore 8, .iload 8, .ifCond .eq 139, .aload 0, .iload 1, .iload 3, .iload 4, .iconst 1] 131 = true := qck_r (by decide) (by decide +kernel)
theorem bs_X11_lawOf_e_118 {P : Zt → Option Zv → Prop} (K : Int → Zl → List Zv → Zt → Prop) : sx_ K P [.istore 8, .iload 8, .ifCond .eq 139, .aload 0, .iload 1, .iload 3, .iload 4, .iconst 1] 131 = x_istore 8 (x_iload 8 (x_ifCond .eq 139 K (x_aload 0 (x_iload 1 (x_iload 3 (x_iload 4 (x_iconst 1 (K 131)))))))) := ((xe_istore 8).trans (congrArg (x_istore 8) ((xe_iload 8).trans (congrArg (x_iload 8) ((xe_ifCond .eq 139).trans (congrArg (x_ifCond .eq 139 K) ((xe_aload 0).trans (congrArg (x_aload 0) ((xe_iload 1).trans (congrArg (x_iload 1) ((xe_iload 3).trans (congrArg (x_iload 3) ((xe_iload 4).trans (congrArg (x_iload 4) ((xe_iconst 1).trans (congrArg (x_iconst 1) xe_nil))))))))))))))))
theorem bk_X11_lawOf_e_134 : ck_ fX11 (some .int) cX11_lawOf 134 [.ifCond .ne 139, .iconst 4, .ireturn] 139 = true := qck_r (by decide) (by decide +kernel)
theorem bs_X11_lawOf_e_134 {P : Zt → Option Zv → Prop} (K : Int → Zl → List Zv → Zt → Prop) : sx_ K P [.ifCond .ne 139, .iconst 4, .ireturn] 139 = x_ifCond .ne 139 K (x_iconst 4 (x_ireturn P)) := ((xe_ifCond .ne 139).trans (congrArg (x_ifCond .ne 139 K) ((xe_iconst 4).trans (congrArg (x_iconst 4) (xe_ireturn)))))
theorem bk_X11_lawOf_e_68 : ck_ fX11 (some .int) cX11_lawOf 68 [.istore 7, .iload 7, .ifCond .ne 91, .iload 6, .iconst 3, .if_icmp .ne 93, .aload 0, .iload 1, .iconst 5] 84 = true := qck_r (by decide) (by decide +kernel)
theorem bs_X11_lawOf_e_68 {P : Zt → Option Zv → Prop} (K : Int → Zl → List Zv → Zt → Prop) : sx_ K P [.istore 7, .iload 7, .ifCond .ne 91, .iload 6, .iconst 3, .if_icmp .ne 93, .aload 0, .iload 1, .iconst 5] 84 = x_istore 7 (x_iload 7 (x_ifCond .ne 91 K (x_iload 6 (x_iconst 3 (x_if_icmp .ne 93 K (x_aload 0 (x_iload 1 (x_iconst 5 (K 84))))))))) := ((xe_istore 7).trans (congrArg (x_istore 7) ((xe_iload 7).trans (congrArg (x_iload 7) ((xe_ifCond .ne 91).trans (congrArg (x_ifCond .ne 91 K) ((xe_iload 6).trans (congrArg (x_iload 6) ((xe_iconst 3).trans (congrArg (x_iconst 3) ((xe_if_icmp .ne 93).trans (congrArg (x_if_icmp .ne 93 K) ((xe_aload 0).trans (congrArg (x_aload 0) ((xe_iload 1).trans (congrArg (x_iload 1) ((xe_iconst 5).trans (congrArg (x_iconst 5) xe_nil))))))))))))))))))
theorem bk_X11_lawOf_e_91 : ck_ fX11 (some .int) cX11_lawOf 91 [.iconst 3, .ireturn] 93 = true := qck_r (by decide) (by decide +kernel)
theorem bs_X11_lawOf_e_91 {P : Zt → Option Zv → Prop} (K : Int → Zl → List Zv → Zt → Prop) : sx_ K P [.iconst 3, .ireturn] 93 = x_iconst 3 (x_ireturn P) := ((xe_iconst 3).trans (congrArg (x_iconst 3) (xe_ireturn)))
theorem bk_X11_lawOf_e_93 : ck_ fX11 (some .int) cX11_lawOf 93 [.iload 6, .ifCond .ne 102, .iload 2, .ifCond .gt 113, .iload 6, .iconst 1, .if_icmp .ne 117, .iload 2, .iconst 5, .if_icmp .ne 117, .iconst 1, .goto 118] 117 = true := qck_r (by decide) (by decide +kernel)
theorem bs_X11_lawOf_e_93 {P : Zt → Option Zv → Prop} (K : Int → Zl → List Zv → Zt → Prop) : sx_ K P [.iload 6, .ifCond .ne 102, .iload 2, .ifCond .gt 113, .iload 6, .iconst 1, .if_icmp .ne 117, .iload 2, .iconst 5, .if_icmp .ne 117, .iconst 1, .goto 118] 117 = x_iload 6 (x_ifCond .ne 102 K (x_iload 2 (x_ifCond .gt 113 K (x_iload 6 (x_iconst 1 (x_if_icmp .ne 117 K (x_iload 2 (x_iconst 5 (x_if_icmp .ne 117 K (x_iconst 1 (x_goto 118 K))))))))))) := ((xe_iload 6).trans (congrArg (x_iload 6) ((xe_ifCond .ne 102).trans (congrArg (x_ifCond .ne 102 K) ((xe_iload 2).trans (congrArg (x_iload 2) ((xe_ifCond .gt 113).trans (congrArg (x_ifCond .gt 113 K) ((xe_iload 6).trans (congrArg (x_iload 6) ((xe_iconst 1).trans (congrArg (x_iconst 1) ((xe_if_icmp .ne 117).trans (congrArg (x_if_icmp .ne 117 K) ((xe_iload 2).trans (congrArg (x_iload 2) ((xe_iconst 5).trans (congrArg (x_iconst 5) ((xe_if_icmp .ne 117).trans (congrArg (x_if_icmp .ne 117 K) ((xe_iconst 1).trans (congrArg (x_iconst 1) (xe_goto 118)))))))))))))))))))))))
theorem bk_X11_lawOf_e_102 : ck_ fX11 (some .int) cX11_lawOf 102 [.iload 6, .iconst 1, .if_icmp .ne 117, .iload 2, .iconst 5, .if_icmp .ne 117, .iconst 1, .goto 118] 117 = true := qck_r (by decide) (by decide +kernel)
theorem bs_X11_lawOf_e_102 {P : Zt → Option Zv → Prop} (K : Int → Zl → List Zv → Zt → Prop) : sx_ K P [.iload 6, .iconst 1, .if_icmp .ne 117, .iload 2, .iconst 5, .if_icmp .ne 117, .iconst 1, .goto 118] 117 = x_iload 6 (x_iconst 1 (x_if_icmp .ne 117 K (x_iload 2 (x_iconst 5 (x_if_icmp .ne 117 K (x_iconst 1 (x_goto 118 K))))))) := ((xe_iload 6).trans (congrArg (x_iload 6) ((xe_iconst 1).trans (congrArg (x_iconst 1) ((xe_if_icmp .ne 117).trans (congrArg (x_if_icmp .ne 117 K) ((xe_iload 2).trans (congrArg (x_iload 2) ((xe_iconst 5).trans (congrArg (x_iconst 5) ((xe_if_icmp .ne 117).trans (congrArg (x_if_icmp .ne 117 K) ((xe_iconst 1).trans (congrArg (x_iconst 1) (xe_goto 118)))))))))))))))
theorem bk_X11_lawOf_e_117 : ck_ fX11 (some .int) cX11_lawOf 117 [.iconst 0] 118 = true := qck_r (by decide) (by decide +kernel)
theorem bs_X11_lawOf_e_117 {P : Zt → Option Zv → Prop} (K : Int → Zl → List Zv → Zt → Prop) : sx_ K P [.iconst 0] 118 = x_iconst 0 (K 118) := ((xe_iconst 0).trans (congrArg (x_iconst 0) xe_nil))
theorem bk_X11_lawOf_e_113 : ck_ fX11 (some .int) cX11_lawOf 113 [.iconst 1, .goto 118] 117 = true := qck_r (by decide) (by decide +kernel)
theorem bs_X11_lawOf_e_113 {P : Zt → Option Zv → Prop} (K : Int → Zl → List Zv → Zt → Prop) : sx_ K P [.iconst 1, .goto 118] 117 = x_iconst 1 (x_goto 118 K) := ((xe_iconst 1).trans (congrArg (x_iconst 1) (xe_goto 118)))
theorem bk_X11_lawOf_e_87 : ck_ fX11 (some .int) cX11_lawOf 87 [.iload 3, .if_icmp .eq 93, .iconst 3, .ireturn] 93 = true := qck_r (by decide) (by decide +kernel)
theorem bs_X11_lawOf_e_87 {P : Zt → Option Zv → Prop} (K : Int → Zl → List Zv → Zt → Prop) : sx_ K P [.iload 3, .if_icmp .eq 93, .iconst 3, .ireturn] 93 = x_iload 3 (x_if_icmp .eq 93 K (x_iconst 3 (x_ireturn P))) := ((xe_iload 3).trans (congrArg (x_iload 3) ((xe_if_icmp .eq 93).trans (congrArg (x_if_icmp .eq 93 K) ((xe_iconst 3).trans (congrArg (x_iconst 3) (xe_ireturn)))))))
theorem bk_X11_lawOf_e_0 : ck_ fX11 (some .int) cX11_lawOf 0 [.aload 0, .aload 0, .tableswitch 0 11 30 #[], .iload 1, .iaload, .iconst 0] 8 = true := qck_r (by decide) (by decide +kernel)
theorem bs_X11_lawOf_e_0 {P : Zt → Option Zv → Prop} (K : Int → Zl → List Zv → Zt → Prop) : sx_ K P [.aload 0, .aload 0, .tableswitch 0 11 30 #[], .iload 1, .iaload, .iconst 0] 8 = x_aload 0 (x_aload 0 (x_g1 111 230 (x_iload 1 (x_iaload (x_iconst 0 (K 8)))))) := ((xe_aload 0).trans (congrArg (x_aload 0) ((xe_aload 0).trans (congrArg (x_aload 0) ((xe_g1 (kk := 111) rfl tl_11_30).trans (congrArg (x_g1 111 230) ((xe_iload 1).trans (congrArg (x_iload 1) ((xe_iaload).trans (congrArg (x_iaload) ((xe_iconst 0).trans (congrArg (x_iconst 0) xe_nil))))))))))))
theorem bk_X11_lawOf_e_11 : ck_ fX11 (some .int) cX11_lawOf 11 [.istore 6, .aload 0, .tableswitch 0 11 35 #[], .iload 1, .iaload, .iconst 1, .if_icmp .eq 25, .iconst 1, .ireturn] 25 = true := qck_r (by decide) (by decide +kernel)
theorem bs_X11_lawOf_e_11 {P : Zt → Option Zv → Prop} (K : Int → Zl → List Zv → Zt → Prop) : sx_ K P [.istore 6, .aload 0, .tableswitch 0 11 35 #[], .iload 1, .iaload, .iconst 1, .if_icmp .eq 25, .iconst 1, .ireturn] 25 = x_istore 6 (x_aload 0 (x_g1 111 235 (x_iload 1 (x_iaload (x_iconst 1 (x_if_icmp .eq 25 K (x_iconst 1 (x_ireturn P)))))))) := ((xe_istore 6).trans (congrArg (x_istore 6) ((xe_aload 0).trans (congrArg (x_aload 0) ((xe_g1 (kk := 111) rfl tl_11_35).trans (congrArg (x_g1 111 235) ((xe_iload 1).trans (congrArg (x_iload 1) ((xe_iaload).trans (congrArg (x_iaload) ((xe_iconst 1).trans (congrArg (x_iconst 1) ((xe_if_icmp .eq 25).trans (congrArg (x_if_icmp .eq 25 K) ((xe_iconst 1).trans (congrArg (x_iconst 1) (xe_ireturn)))))))))))))))))
theorem bk_X11_lawOf_e_25 : ck_ fX11 (some .int) cX11_lawOf 25 [.aload 0, .iload 6, .iload 2, .iload 3] 30 = true := qck_r (by decide) (by decide +kernel)
theorem bs_X11_lawOf_e_25 {P : Zt → Option Zv → Prop} (K : Int → Zl → List Zv → Zt → Prop) : sx_ K P [.aload 0, .iload 6, .iload 2, .iload 3] 30 = x_aload 0 (x_iload 6 (x_iload 2 (x_iload 3 (K 30)))) := ((xe_aload 0).trans (congrArg (x_aload 0) ((xe_iload 6).trans (congrArg (x_iload 6) ((xe_iload 2).trans (congrArg (x_iload 2) ((xe_iload 3).trans (congrArg (x_iload 3) xe_nil))))))))
theorem bk_X11_lawOf_e_33 : ck_ fX11 (some .int) cX11_lawOf 33 [.ifCond .ne 38, .iconst 2, .ireturn] 38 = true := qck_r (by decide) (by decide +kernel)
theorem bs_X11_lawOf_e_33 {P : Zt → Option Zv → Prop} (K : Int → Zl → List Zv → Zt → Prop) : sx_ K P [.ifCond .ne 38, .iconst 2, .ireturn] 38 = x_ifCond .ne 38 K (x_iconst 2 (x_ireturn P)) := ((xe_ifCond .ne 38).trans (congrArg (x_ifCond .ne 38 K) ((xe_iconst 2).trans (congrArg (x_iconst 2) (xe_ireturn)))))
theorem bk_X11_lawOf_e_38 : ck_ fX11 (some .int) cX11_lawOf 38 [.iload 6, .ifCond .ne 67, .iload 2, .iconst 1, .if_icmp .eq 53, .iload 2, .iconst 2, .if_icmp .ne 67, .aload 0, .iload 1, .iconst 0] 56 = true := qck_r (by decide) (by decide +kernel)
theorem bs_X11_lawOf_e_38 {P : Zt → Option Zv → Prop} (K : Int → Zl → List Zv → Zt → Prop) : sx_ K P [.iload 6, .ifCond .ne 67, .iload 2, .iconst 1, .if_icmp .eq 53, .iload 2, .iconst 2, .if_icmp .ne 67, .aload 0, .iload 1, .iconst 0] 56 = x_iload 6 (x_ifCond .ne 67 K (x_iload 2 (x_iconst 1 (x_if_icmp .eq 53 K (x_iload 2 (x_iconst 2 (x_if_icmp .ne 67 K (x_aload 0 (x_iload 1 (x_iconst 0 (K 56))))))))))) := ((xe_iload 6).trans (congrArg (x_iload 6) ((xe_ifCond .ne 67).trans (congrArg (x_ifCond .ne 67 K) ((xe_iload 2).trans (congrArg (x_iload 2) ((xe_iconst 1).trans (congrArg (x_iconst 1) ((xe_if_icmp .eq 53).trans (congrArg (x_if_icmp .eq 53 K) ((xe_iload 2).trans (congrArg (x_iload 2) ((xe_iconst 2).trans (congrArg (x_iconst 2) ((xe_if_icmp .ne 67).trans (congrArg (x_if_icmp .ne 67 K) ((xe_aload 0).trans (congrArg (x_aload 0) ((xe_iload 1).trans (congrArg (x_iload 1) ((xe_iconst 0).trans (congrArg (x_iconst 0) xe_nil))))))))))))))))))))))
theorem bk_X11_lawOf_e_67 : ck_ fX11 (some .int) cX11_lawOf 67 [.iconst 0] 68 = true := qck_r (by decide) (by decide +kernel)
theorem bs_X11_lawOf_e_67 {P : Zt → Option Zv → Prop} (K : Int → Zl → List Zv → Zt → Prop) : sx_ K P [.iconst 0] 68 = x_iconst 0 (K 68) := ((xe_iconst 0).trans (congrArg (x_iconst 0) xe_nil))
theorem bk_X11_lawOf_e_53 : ck_ fX11 (some .int) cX11_lawOf 53 [.aload 0, .iload 1, .iconst 0] 56 = true := qck_r (by decide) (by decide +kernel)
theorem bs_X11_lawOf_e_53 {P : Zt → Option Zv → Prop} (K : Int → Zl → List Zv → Zt → Prop) : sx_ K P [.aload 0, .iload 1, .iconst 0] 56 = x_aload 0 (x_iload 1 (x_iconst 0 (K 56))) := ((xe_aload 0).trans (congrArg (x_aload 0) ((xe_iload 1).trans (congrArg (x_iload 1) ((xe_iconst 0).trans (congrArg (x_iconst 0) xe_nil))))))
theorem bk_X11_lawOf_e_59 : ck_ fX11 (some .int) cX11_lawOf 59 [.iconst 1, .if_icmp .ne 67, .iconst 1, .goto 68] 67 = true := qck_r (by decide) (by decide +kernel)
theorem bs_X11_lawOf_e_59 {P : Zt → Option Zv → Prop} (K : Int → Zl → List Zv → Zt → Prop) : sx_ K P [.iconst 1, .if_icmp .ne 67, .iconst 1, .goto 68] 67 = x_iconst 1 (x_if_icmp .ne 67 K (x_iconst 1 (x_goto 68 K))) := ((xe_iconst 1).trans (congrArg (x_iconst 1) ((xe_if_icmp .ne 67).trans (congrArg (x_if_icmp .ne 67 K) ((xe_iconst 1).trans (congrArg (x_iconst 1) (xe_goto 68)))))))
abbrev po_X11_lawOf_e (T : Zt) (ru : Int → Int) (m k s p q : Int) : Zt → Option Zv → Prop := fun T' r => T = T' ∧ ∃ x : Int, r = some (vI x) ∧ ((0 ≤ x ∧ x ≤ 7) ∧ (x = 0 → LW_ T m k s p q) ∧ x = lwR_ ru (rp9_ T m) k s p q)
set_option maxHeartbeats 4000000 in
theorem ct_X11_lawOf_e {T : Zt} {ru : Int → Int} {m k s p q : Int} (h1 : 0 ≤ m ∧ m < 400) (hrl : RLR_ T m ru) : Ct_ yX11_lawOf zX11_lawOf T [vR 111 0, vI m, vI k, vI s, vI p, vI q] (po_X11_lawOf_e T ru m k s p q) := by
  refine ct_of (by decide) rfl rfl (Nat.le_of_ble_eq_true rfl) (fun hT hav => ?_)
  have hr_m : -2147483648 ≤ m ∧ m ≤ 2147483647 := hav (vI m) (by simp)
  have hr_k : -2147483648 ≤ k ∧ k ≤ 2147483647 := hav (vI k) (by simp)
  have hr_s : -2147483648 ≤ s ∧ s ≤ 2147483647 := hav (vI s) (by simp)
  have hr_p : -2147483648 ≤ p ∧ p ≤ 2147483647 := hav (vI p) (by simp)
  have hr_q : -2147483648 ≤ q ∧ q ≤ 2147483647 := hav (vI q) (by simp)
  have hz : zX11_lawOf.2.2.2.1 = some .boolean → ∀ (T' : Zt) (x : Int), po_X11_lawOf_e T ru m k s p q T' (some (vI x)) → 0 ≤ x ∧ x ≤ 1 := fun h => by cases h
  have z103_0 : rp9_ T m 103 3 = T 235 0 m := rp_v rfl rfl (by show m = _; omega)
  have z103_1 : rp9_ T m 103 4 = T 246 0 (8 * m + 0) := rp_v rfl rfl (by show 8 * m = _; omega)
  have z103_2 : rp9_ T m 103 5 = T 246 0 (8 * m + 5) := rp_v rfl rfl (by show 8 * m + 5 = _; omega)
  have hru0 := hrl 0 (by omega) (by omega)
  have hru10 := hrl 10 (by omega) (by omega)
  have hcb : 0 ≤ T 230 0 m ∧ T 230 0 m ≤ 3 := bd_a hT 230 (by decide +kernel : ta_ 230 = some (1, some 400, 0, 3)) 0 (by omega)
  show J_ zX11_lawOf T (po_X11_lawOf_e T ru m k s p q) 0 0 0 [some (vR 111 0), some (vI m), some (vI k), some (vI s), some (vI p), some (vI q), none, none, none] [] T
  have c_200 : ∀ (v : Int), (T 235 0 m = 1) → (lfT_ T m k s) → (lfN_ T m k s) → ((v = 1 ∧ lfW_ T m k) ∨ (v = 0 ∧ ¬ lfW_ T m k)) → (v = 1 → SL_ T (2 * m + s) p) → (v = 1 → slR_ (rp9_ T m) s p ≠ -1 ∧ rp9_ T m 472 (slR_ (rp9_ T m) s p) = 1) → (v = 1 → k = 5 → SL_ T (2 * m + s) q) → (v = 1 → k = 5 → slR_ (rp9_ T m) s q ≠ -1 ∧ rp9_ T m 472 (slR_ (rp9_ T m) s q) = 0) → (v = 1 → k = 5 → T 246 0 (8 * m + (6 + s)) ≠ T 205 0 (23 * T 230 0 m + 10)) → J_ zX11_lawOf T (po_X11_lawOf_e T ru m k s p q) 0 0 200 [some (vR 111 0), some (vI m), some (vI k), some (vI s), some (vI p), some (vI q), some (vI (T 205 0 (23 * T 230 0 m + 0))), none, some (vI v)] [] T := by
    intro v t1 t2 n3 v1 s1 q1 s2 q2 q6
    refine j_blx (F := fX11) tb_X11 (by decide) bk_X11_lawOf_e_200 bs_X11_lawOf_e_200 hz (fun K hK => ?_)
    refine hK 205 _ [vI q, vI k, vI (T 205 0 (23 * T 230 0 m + 0))] T ?_
    refine j_callS (y := yX11_isBounded) (Yc := zX11_isBounded) (rest := []) [vI (T 205 0 (23 * T 230 0 m + 0)), vI k, vI q] (ct_X11_isBounded_e (T := T)) cl_X11_407 (qd_c (by decide +kernel)) (by decide) rfl (by decide +kernel) (Nat.le_of_ble_eq_true rfl) (by decide) (by decide) rfl ?_
    rintro _ _ ⟨rfl, x1, rfl, hx1⟩
    show J_ zX11_lawOf T (po_X11_lawOf_e T ru m k s p q) 0 0 208 _ [vI x1] T
    refine j_blx (F := fX11) tb_X11 (by decide) bk_X11_lawOf_e_208 bs_X11_lawOf_e_208 hz (fun K hK => ?_)
    refine And.intro (fun c2 => ?_) (fun c2 => ?_)
    · refine hK 215 _ [] T ?_
      refine j_blx (F := fX11) tb_X11 (by decide) bk_X11_lawOf_e_215 bs_X11_lawOf_e_215 hz (fun K hK => ?_)
      refine (show po_X11_lawOf_e T ru m k s p q T (some (vI 7)) from ?_)
      by_cases d1 : v = 1
      · have q1z := q1 d1
        by_cases d2 : k = 5
        · have q2z := q2 d1 d2
          have q6z := q6 d1 d2
          have sb9 := lf_s t2 (v1.resolve_right (fun z => absurd (d1.symm.trans z.1) (by decide))).2
          have z469 : rp9_ T m 469 s = T 246 0 (8 * m + (6 + s)) := rp_v (dm_469 sb9) rfl (by show 8 * m + 6 + s = _; omega)
          have w9 := (v1.resolve_right (fun z => absurd (d1.symm.trans z.1) (by decide))).2
          unfold lfW_ at w9
          exfalso; omega
        · have w9 := (v1.resolve_right (fun z => absurd (d1.symm.trans z.1) (by decide))).2
          unfold lfW_ at w9
          exfalso; omega
      · exact ⟨rfl, _, rfl, by decide, fun z => absurd z (by decide), (lwR__12 (r := ru) (a := rp9_ T m) (k := k) (s := s) (q := p) (o := q) (fun z => z (z103_0.trans t1)) (fun z => z (by rw [← hru0]; exact t2)) (show ¬ ((ru 0 = 0 ∧ (k = 1 ∨ k = 2) ∧ (rp9_ T m) 103 4 = 1) ∨ (ru 0 = 3 ∧ (rp9_ T m) 103 5 ≠ s)) by rw [z103_1, z103_2, ← hru0]; exact n3) (show ¬ ((ru 0 = 0 ∧ 0 < k) ∨ (ru 0 = 1 ∧ k = 5)) from (by rw [← hru0]; exact (v1.resolve_left (fun z => d1 z.1)).2)) (show ¬ (ru 0 ≠ 3 ∨ k ≠ 1 ∨ (1 ≤ q ∧ q ≤ 4)) by (try simp only [z103_0, z103_1, z103_2, ← hru0, ← hru10]); omega)).symm⟩
    · refine hK 217 _ [vI 0] T ?_
      refine j_blx (F := fX11) tb_X11 (by decide) bk_X11_lawOf_e_217 bs_X11_lawOf_e_217 hz (fun K hK => ?_)
      refine (show po_X11_lawOf_e T ru m k s p q T (some (vI 0)) from ?_)
      have lw9 : LW_ T m k s p q := by
        clear n3 hx1
        have y2 := t2
        have y1 := v1
        unfold lfT_ at y2
        unfold lfW_ at y1
        refine ⟨t1, fun a => ⟨by clear y1; omega, by clear y1; omega, ?_, fun b => s2 (by clear y2; omega) b⟩, fun a => ⟨by clear y1; omega, by clear y1; omega, by clear y1; omega, fun b => ⟨s1 (by clear y2; omega), s2 (by clear y2; omega) b⟩⟩, fun a => by clear y1; omega⟩
        have k0 : 0 ≤ k := by clear y1; omega
        by_cases b : k = 0
        · exact Or.inl b
        · exact Or.inr ⟨by clear y1; omega, by clear y1; omega, s1 (by clear y2; omega)⟩
      by_cases d1 : v = 1
      · have q1z := q1 d1
        by_cases d2 : k = 5
        · have q2z := q2 d1 d2
          have q6z := q6 d1 d2
          have sb9 := lf_s t2 (v1.resolve_right (fun z => absurd (d1.symm.trans z.1) (by decide))).2
          have z469 : rp9_ T m 469 s = T 246 0 (8 * m + (6 + s)) := rp_v (dm_469 sb9) rfl (by show 8 * m + 6 + s = _; omega)
          exact ⟨rfl, _, rfl, by decide, fun _ => lw9, (lwR__7 (r := ru) (a := rp9_ T m) (k := k) (s := s) (q := p) (o := q) (fun z => z (z103_0.trans t1)) (fun z => z (by rw [← hru0]; exact t2)) (show ¬ ((ru 0 = 0 ∧ (k = 1 ∨ k = 2) ∧ (rp9_ T m) 103 4 = 1) ∨ (ru 0 = 3 ∧ (rp9_ T m) 103 5 ≠ s)) by rw [z103_1, z103_2, ← hru0]; exact n3) (show (ru 0 = 0 ∧ 0 < k) ∨ (ru 0 = 1 ∧ k = 5) from (by rw [← hru0]; exact (v1.resolve_right (fun z => absurd (d1.symm.trans z.1) (by decide))).2)) (show ¬ (¬ (slR_ (rp9_ T m) s p ≠ -1 ∧ (rp9_ T m) 472 (slR_ (rp9_ T m) s p) = 1)) by (try simp only [z103_0, z103_1, z103_2, ← hru0, ← hru10, z469]); omega) (show k = 5 by (try simp only [z103_0, z103_1, z103_2, ← hru0, ← hru10, z469]); omega) (show ¬ (¬ (slR_ (rp9_ T m) s q ≠ -1 ∧ (rp9_ T m) 472 (slR_ (rp9_ T m) s q) = 0)) by (try simp only [z103_0, z103_1, z103_2, ← hru0, ← hru10, z469]); omega) (show ¬ ((rp9_ T m) 469 s = ru 10) by (try simp only [z103_0, z103_1, z103_2, ← hru0, ← hru10, z469]); omega) (show ru 0 ≠ 3 ∨ k ≠ 1 ∨ (1 ≤ q ∧ q ≤ 4) by (try simp only [z103_0, z103_1, z103_2, ← hru0, ← hru10, z469]); omega)).symm⟩
        · exact ⟨rfl, _, rfl, by decide, fun _ => lw9, (lwR__9 (r := ru) (a := rp9_ T m) (k := k) (s := s) (q := p) (o := q) (fun z => z (z103_0.trans t1)) (fun z => z (by rw [← hru0]; exact t2)) (show ¬ ((ru 0 = 0 ∧ (k = 1 ∨ k = 2) ∧ (rp9_ T m) 103 4 = 1) ∨ (ru 0 = 3 ∧ (rp9_ T m) 103 5 ≠ s)) by rw [z103_1, z103_2, ← hru0]; exact n3) (show (ru 0 = 0 ∧ 0 < k) ∨ (ru 0 = 1 ∧ k = 5) from (by rw [← hru0]; exact (v1.resolve_right (fun z => absurd (d1.symm.trans z.1) (by decide))).2)) (show ¬ (¬ (slR_ (rp9_ T m) s p ≠ -1 ∧ (rp9_ T m) 472 (slR_ (rp9_ T m) s p) = 1)) by (try simp only [z103_0, z103_1, z103_2, ← hru0, ← hru10]); omega) (show ¬ (k = 5) by (try simp only [z103_0, z103_1, z103_2, ← hru0, ← hru10]); omega) (show ru 0 ≠ 3 ∨ k ≠ 1 ∨ (1 ≤ q ∧ q ≤ 4) by (try simp only [z103_0, z103_1, z103_2, ← hru0, ← hru10]); omega)).symm⟩
      · exact ⟨rfl, _, rfl, by decide, fun _ => lw9, (lwR__11 (r := ru) (a := rp9_ T m) (k := k) (s := s) (q := p) (o := q) (fun z => z (z103_0.trans t1)) (fun z => z (by rw [← hru0]; exact t2)) (show ¬ ((ru 0 = 0 ∧ (k = 1 ∨ k = 2) ∧ (rp9_ T m) 103 4 = 1) ∨ (ru 0 = 3 ∧ (rp9_ T m) 103 5 ≠ s)) by rw [z103_1, z103_2, ← hru0]; exact n3) (show ¬ ((ru 0 = 0 ∧ 0 < k) ∨ (ru 0 = 1 ∧ k = 5)) from (by rw [← hru0]; exact (v1.resolve_left (fun z => d1 z.1)).2)) (show ru 0 ≠ 3 ∨ k ≠ 1 ∨ (1 ≤ q ∧ q ≤ 4) by (try simp only [z103_0, z103_1, z103_2, ← hru0, ← hru10]); omega)).symm⟩
  have c_163 : ∀ (v : Int), (T 235 0 m = 1) → (lfT_ T m k s) → (lfN_ T m k s) → ((v = 1 ∧ lfW_ T m k) ∨ (v = 0 ∧ ¬ lfW_ T m k)) → (v = 1 → SL_ T (2 * m + s) p) → (v = 1 → slR_ (rp9_ T m) s p ≠ -1 ∧ rp9_ T m 472 (slR_ (rp9_ T m) s p) = 1) → (v = 1 → k = 5 → SL_ T (2 * m + s) q) → (v = 1 → k = 5 → slR_ (rp9_ T m) s q ≠ -1 ∧ rp9_ T m 472 (slR_ (rp9_ T m) s q) = 0) → J_ zX11_lawOf T (po_X11_lawOf_e T ru m k s p q) 0 0 163 [some (vR 111 0), some (vI m), some (vI k), some (vI s), some (vI p), some (vI q), some (vI (T 205 0 (23 * T 230 0 m + 0))), none, some (vI v)] [] T := by
    intro v t1 t2 n3 v1 s1 q1 s2 q2
    refine j_blx (F := fX11) tb_X11 (by decide) bk_X11_lawOf_e_163 bs_X11_lawOf_e_163 hz (fun K hK => ?_)
    refine And.intro (fun c3 => ?_) (fun c3 => ?_)
    · refine hK 200 _ [] T ?_
      refine c_200 v ?_ ?_ ?_ ?_ ?_ ?_ ?_ ?_ ?_
      · first
        | exact t1
        | omega
      · exact t2
      · exact n3
      · exact v1
      · intro z
        first
        | exact sl1
        | exact s1 z
        | (exfalso; omega)
      · intro z
        first
        | exact st1
        | exact q1 z
        | (exfalso; omega)
      · intro z y
        first
        | exact sl2
        | exact s2 z y
        | (exfalso; omega)
      · intro z y
        first
        | exact st2
        | exact q2 z y
        | (exfalso; omega)
      · intro z y
        first
        | exact q6 z y
        | omega
    · have sb9 := lf_s t2 (v1.resolve_right (fun z => absurd z.1 c3)).2
      refine And.intro (fun c4 => ?_) (fun c4 => ?_)
      · refine hK 200 _ [] T ?_
        refine c_200 v ?_ ?_ ?_ ?_ ?_ ?_ ?_ ?_ ?_
        · first
          | exact t1
          | omega
        · exact t2
        · exact n3
        · exact v1
        · intro z
          first
          | exact sl1
          | exact s1 z
          | (exfalso; omega)
        · intro z
          first
          | exact st1
          | exact q1 z
          | (exfalso; omega)
        · intro z y
          first
          | exact sl2
          | exact s2 z y
          | (exfalso; omega)
        · intro z y
          first
          | exact st2
          | exact q2 z y
          | (exfalso; omega)
        · intro z y
          first
          | exact q6 z y
          | omega
      · refine rg_i (by omega) ?_
        refine hK 179 _ [vI (6 + s), vI m, vR 111 0] T ?_
        refine j_callV (y := yX11_liveOf) (Yc := zX11_liveOf) (rest := []) [vI m, vI (6 + s)] (ct_X11_liveOf (T := T) (by omega) (by omega)) cl_X11_400 (qd_c (by decide +kernel)) (by decide) rfl (by decide +kernel) (Nat.le_of_ble_eq_true rfl) (by decide) (by decide) rfl ?_
        rintro _ _ ⟨rfl, rfl⟩
        show J_ zX11_lawOf T (po_X11_lawOf_e T ru m k s p q) 0 0 182 _ [vI (T 246 0 (8 * m + (6 + s)))] T
        refine j_blx (F := fX11) tb_X11 (by decide) bk_X11_lawOf_e_182 bs_X11_lawOf_e_182 hz (fun K hK => ?_)
        refine ix_i (by omega) ?_
        intro b5 b5b
        refine hK 191 _ [vI 10, vI (T 230 0 m), vR 111 0, vI (T 246 0 (8 * m + (6 + s)))] T ?_
        refine j_callV (y := yX11_rule0) (Yc := zX11_rule0) (rest := [vI (T 246 0 (8 * m + (6 + s)))]) [vI (T 230 0 m), vI 10] (ct_X11_rule0 (T := T) (by omega) (by omega)) cl_X11_321 (qd_c (by decide +kernel)) (by decide) rfl (by decide +kernel) (Nat.le_of_ble_eq_true rfl) (by decide) (by decide) rfl ?_
        rintro _ _ ⟨rfl, rfl⟩
        show J_ zX11_lawOf T (po_X11_lawOf_e T ru m k s p q) 0 0 194 _ [vI (T 205 0 (23 * (T 230 0 m) + 10)), vI (T 246 0 (8 * m + (6 + s)))] T
        refine j_blx (F := fX11) tb_X11 (by decide) bk_X11_lawOf_e_194 bs_X11_lawOf_e_194 hz (fun K hK => ?_)
        refine And.intro (fun c6 => ?_) (fun c6 => ?_)
        · refine hK 200 _ [] T ?_
          refine c_200 v ?_ ?_ ?_ ?_ ?_ ?_ ?_ ?_ ?_
          · first
            | exact t1
            | omega
          · exact t2
          · exact n3
          · exact v1
          · intro z
            first
            | exact sl1
            | exact s1 z
            | (exfalso; omega)
          · intro z
            first
            | exact st1
            | exact q1 z
            | (exfalso; omega)
          · intro z y
            first
            | exact sl2
            | exact s2 z y
            | (exfalso; omega)
          · intro z y
            first
            | exact st2
            | exact q2 z y
            | (exfalso; omega)
          · intro z y
            first
            | exact q6 z y
            | omega
        · refine (show po_X11_lawOf_e T ru m k s p q T (some (vI 6)) from ?_)
          have z469 : rp9_ T m 469 s = T 246 0 (8 * m + (6 + s)) := rp_v (dm_469 sb9) rfl (by show 8 * m + 6 + s = _; omega)
          exact ⟨rfl, _, rfl, by decide, fun z => absurd z (by decide), (lwR__6 (r := ru) (a := rp9_ T m) (k := k) (s := s) (q := p) (o := q) (fun z => z (z103_0.trans t1)) (fun z => z (by rw [← hru0]; exact t2)) (show ¬ ((ru 0 = 0 ∧ (k = 1 ∨ k = 2) ∧ (rp9_ T m) 103 4 = 1) ∨ (ru 0 = 3 ∧ (rp9_ T m) 103 5 ≠ s)) by rw [z103_1, z103_2, ← hru0]; exact n3) (show (ru 0 = 0 ∧ 0 < k) ∨ (ru 0 = 1 ∧ k = 5) from (by rw [← hru0]; exact (v1.resolve_right (fun z => absurd z.1 c3)).2)) (show ¬ (¬ (slR_ (rp9_ T m) s p ≠ -1 ∧ (rp9_ T m) 472 (slR_ (rp9_ T m) s p) = 1)) by (try simp only [z103_0, z103_1, z103_2, ← hru0, ← hru10, z469]); omega) (show k = 5 by (try simp only [z103_0, z103_1, z103_2, ← hru0, ← hru10, z469]); omega) (show ¬ (¬ (slR_ (rp9_ T m) s q ≠ -1 ∧ (rp9_ T m) 472 (slR_ (rp9_ T m) s q) = 0)) by (try simp only [z103_0, z103_1, z103_2, ← hru0, ← hru10, z469]); omega) (show (rp9_ T m) 469 s = ru 10 by (try simp only [z103_0, z103_1, z103_2, ← hru0, ← hru10, z469]); omega)).symm⟩
  have c_139 : ∀ (v : Int), (T 235 0 m = 1) → (lfT_ T m k s) → (lfN_ T m k s) → ((v = 1 ∧ lfW_ T m k) ∨ (v = 0 ∧ ¬ lfW_ T m k)) → (v = 1 → SL_ T (2 * m + s) p) → (v = 1 → slR_ (rp9_ T m) s p ≠ -1 ∧ rp9_ T m 472 (slR_ (rp9_ T m) s p) = 1) → J_ zX11_lawOf T (po_X11_lawOf_e T ru m k s p q) 0 0 139 [some (vR 111 0), some (vI m), some (vI k), some (vI s), some (vI p), some (vI q), some (vI (T 205 0 (23 * T 230 0 m + 0))), none, some (vI v)] [] T := by
    intro v t1 t2 n3 v1 s1 q1
    refine j_blx (F := fX11) tb_X11 (by decide) bk_X11_lawOf_e_139 bs_X11_lawOf_e_139 hz (fun K hK => ?_)
    refine And.intro (fun c7 => ?_) (fun c7 => ?_)
    · refine hK 163 _ [] T ?_
      refine c_163 v ?_ ?_ ?_ ?_ ?_ ?_ ?_ ?_
      · first
        | exact t1
        | omega
      · exact t2
      · exact n3
      · exact v1
      · intro z
        first
        | exact sl1
        | exact s1 z
        | (exfalso; omega)
      · intro z
        first
        | exact st1
        | exact q1 z
        | (exfalso; omega)
      · intro z y
        first
        | exact sl2
        | exact s2 z y
        | (exfalso; omega)
      · intro z y
        first
        | exact st2
        | exact q2 z y
        | (exfalso; omega)
    · have sb9 := lf_s t2 (v1.resolve_right (fun z => absurd z.1 c7)).2
      refine And.intro (fun c8 => ?_) (fun c8 => ?_)
      · refine hK 163 _ [] T ?_
        refine c_163 v ?_ ?_ ?_ ?_ ?_ ?_ ?_ ?_
        · first
          | exact t1
          | omega
        · exact t2
        · exact n3
        · exact v1
        · intro z
          first
          | exact sl1
          | exact s1 z
          | (exfalso; omega)
        · intro z
          first
          | exact st1
          | exact q1 z
          | (exfalso; omega)
        · intro z y
          first
          | exact sl2
          | exact s2 z y
          | (exfalso; omega)
        · intro z y
          first
          | exact st2
          | exact q2 z y
          | (exfalso; omega)
      · refine hK 155 _ [vI 0, vI q, vI s, vI m, vR 111 0] T ?_
        refine j_callV (y := yX11_stands) (Yc := zX11_stands) (rest := []) [vI m, vI s, vI q, vI 0] (ct_X11_stands_e (T := T) (by omega) (by omega)) cl_X11_403 (qd_c (by decide +kernel)) (by decide) rfl (by decide +kernel) (Nat.le_of_ble_eq_true rfl) (by decide) (by decide) rfl ?_
        rintro _ _ ⟨rfl, x9, rfl, hx9⟩
        show J_ zX11_lawOf T (po_X11_lawOf_e T ru m k s p q) 0 0 158 _ [vI x9] T
        refine j_blx (F := fX11) tb_X11 (by decide) bk_X11_lawOf_e_158 bs_X11_lawOf_e_158 hz (fun K hK => ?_)
        refine And.intro (fun c10 => ?_) (fun c10 => ?_)
        · have sl2 : SL_ T (2 * m + s) q := by
            rcases hx9 with z | z
            · exact z.2.1
            · omega
          have st2 : slR_ (rp9_ T m) s q ≠ -1 ∧ rp9_ T m 472 (slR_ (rp9_ T m) s q) = 0 := by
            rcases hx9 with z | z
            · exact z.2.2
            · omega
          refine hK 163 _ [] T ?_
          refine c_163 v ?_ ?_ ?_ ?_ ?_ ?_ ?_ ?_
          · first
            | exact t1
            | omega
          · exact t2
          · exact n3
          · exact v1
          · intro z
            first
            | exact sl1
            | exact s1 z
            | (exfalso; omega)
          · intro z
            first
            | exact st1
            | exact q1 z
            | (exfalso; omega)
          · intro z y
            first
            | exact sl2
            | exact s2 z y
            | (exfalso; omega)
          · intro z y
            first
            | exact st2
            | exact q2 z y
            | (exfalso; omega)
        · have ns2 : ¬ (slR_ (rp9_ T m) s q ≠ -1 ∧ rp9_ T m 472 (slR_ (rp9_ T m) s q) = 0) := by
            rcases hx9 with z | z
            · omega
            · exact z.2
          refine (show po_X11_lawOf_e T ru m k s p q T (some (vI 5)) from ?_)
          exact ⟨rfl, _, rfl, by decide, fun z => absurd z (by decide), (lwR__5 (r := ru) (a := rp9_ T m) (k := k) (s := s) (q := p) (o := q) (fun z => z (z103_0.trans t1)) (fun z => z (by rw [← hru0]; exact t2)) (show ¬ ((ru 0 = 0 ∧ (k = 1 ∨ k = 2) ∧ (rp9_ T m) 103 4 = 1) ∨ (ru 0 = 3 ∧ (rp9_ T m) 103 5 ≠ s)) by rw [z103_1, z103_2, ← hru0]; exact n3) (show (ru 0 = 0 ∧ 0 < k) ∨ (ru 0 = 1 ∧ k = 5) from (by rw [← hru0]; exact (v1.resolve_right (fun z => absurd z.1 c7)).2)) (show ¬ (¬ (slR_ (rp9_ T m) s p ≠ -1 ∧ (rp9_ T m) 472 (slR_ (rp9_ T m) s p) = 1)) by (try simp only [z103_0, z103_1, z103_2, ← hru0, ← hru10]); omega) (show k = 5 by (try simp only [z103_0, z103_1, z103_2, ← hru0, ← hru10]); omega) (show ¬ (slR_ (rp9_ T m) s q ≠ -1 ∧ (rp9_ T m) 472 (slR_ (rp9_ T m) s q) = 0) by (try simp only [z103_0, z103_1, z103_2, ← hru0, ← hru10]); omega)).symm⟩
  have c_118 : ∀ (v : Int), (T 235 0 m = 1) → (lfT_ T m k s) → (lfN_ T m k s) → ((v = 1 ∧ lfW_ T m k) ∨ (v = 0 ∧ ¬ lfW_ T m k)) → J_ zX11_lawOf T (po_X11_lawOf_e T ru m k s p q) 0 0 118 [some (vR 111 0), some (vI m), some (vI k), some (vI s), some (vI p), some (vI q), some (vI (T 205 0 (23 * T 230 0 m + 0))), none, none] [vI v] T := by
    intro v t1 t2 n3 v1
    refine j_blx (F := fX11) tb_X11 (by decide) bk_X11_lawOf_e_118 bs_X11_lawOf_e_118 hz (fun K hK => ?_)
    refine And.intro (fun c11 => ?_) (fun c11 => ?_)
    · refine hK 139 [some (vR 111 0), some (vI m), some (vI k), some (vI s), some (vI p), some (vI q), some (vI (T 205 0 (23 * T 230 0 m + 0))), none, some (vI v)] [] T ?_
      refine c_139 v ?_ ?_ ?_ ?_ ?_ ?_
      · first
        | exact t1
        | omega
      · exact t2
      · exact n3
      · exact v1
      · intro z
        first
        | exact sl1
        | exact s1 z
        | (exfalso; omega)
      · intro z
        first
        | exact st1
        | exact q1 z
        | (exfalso; omega)
    · have sb9 := lf_s t2 (v1.resolve_right (fun z => absurd z.1 c11)).2
      refine hK 131 _ [vI 1, vI p, vI s, vI m, vR 111 0] T ?_
      refine j_callV (y := yX11_stands) (Yc := zX11_stands) (rest := []) [vI m, vI s, vI p, vI 1] (ct_X11_stands_e (T := T) (by omega) (by omega)) cl_X11_403 (qd_c (by decide +kernel)) (by decide) rfl (by decide +kernel) (Nat.le_of_ble_eq_true rfl) (by decide) (by decide) rfl ?_
      rintro _ _ ⟨rfl, x12, rfl, hx12⟩
      show J_ zX11_lawOf T (po_X11_lawOf_e T ru m k s p q) 0 0 134 _ [vI x12] T
      refine j_blx (F := fX11) tb_X11 (by decide) bk_X11_lawOf_e_134 bs_X11_lawOf_e_134 hz (fun K hK => ?_)
      refine And.intro (fun c13 => ?_) (fun c13 => ?_)
      · have sl1 : SL_ T (2 * m + s) p := by
          rcases hx12 with z | z
          · exact z.2.1
          · omega
        have st1 : slR_ (rp9_ T m) s p ≠ -1 ∧ rp9_ T m 472 (slR_ (rp9_ T m) s p) = 1 := by
          rcases hx12 with z | z
          · exact z.2.2
          · omega
        refine hK 139 _ [] T ?_
        refine c_139 v ?_ ?_ ?_ ?_ ?_ ?_
        · first
          | exact t1
          | omega
        · exact t2
        · exact n3
        · exact v1
        · intro z
          first
          | exact sl1
          | exact s1 z
          | (exfalso; omega)
        · intro z
          first
          | exact st1
          | exact q1 z
          | (exfalso; omega)
      · have ns1 : ¬ (slR_ (rp9_ T m) s p ≠ -1 ∧ rp9_ T m 472 (slR_ (rp9_ T m) s p) = 1) := by
          rcases hx12 with z | z
          · omega
          · exact z.2
        refine (show po_X11_lawOf_e T ru m k s p q T (some (vI 4)) from ?_)
        exact ⟨rfl, _, rfl, by decide, fun z => absurd z (by decide), (lwR__4 (r := ru) (a := rp9_ T m) (k := k) (s := s) (q := p) (o := q) (fun z => z (z103_0.trans t1)) (fun z => z (by rw [← hru0]; exact t2)) (show ¬ ((ru 0 = 0 ∧ (k = 1 ∨ k = 2) ∧ (rp9_ T m) 103 4 = 1) ∨ (ru 0 = 3 ∧ (rp9_ T m) 103 5 ≠ s)) by rw [z103_1, z103_2, ← hru0]; exact n3) (show (ru 0 = 0 ∧ 0 < k) ∨ (ru 0 = 1 ∧ k = 5) from (by rw [← hru0]; exact (v1.resolve_right (fun z => absurd z.1 c11)).2)) (show ¬ (slR_ (rp9_ T m) s p ≠ -1 ∧ (rp9_ T m) 472 (slR_ (rp9_ T m) s p) = 1) by (try simp only [z103_0, z103_1, z103_2, ← hru0, ← hru10]); omega)).symm⟩
  have c_68 : ∀ (v : Int), (T 235 0 m = 1) → (lfT_ T m k s) → ((v = 1 ∧ (T 205 0 (23 * T 230 0 m + 0) = 0 ∧ (k = 1 ∨ k = 2) ∧ T 246 0 (8 * m + 0) = 1)) ∨ (v = 0 ∧ ¬ (T 205 0 (23 * T 230 0 m + 0) = 0 ∧ (k = 1 ∨ k = 2) ∧ T 246 0 (8 * m + 0) = 1))) → J_ zX11_lawOf T (po_X11_lawOf_e T ru m k s p q) 0 0 68 [some (vR 111 0), some (vI m), some (vI k), some (vI s), some (vI p), some (vI q), some (vI (T 205 0 (23 * T 230 0 m + 0))), none, none] [vI v] T := by
    intro v t1 t2 v0
    refine j_blx (F := fX11) tb_X11 (by decide) bk_X11_lawOf_e_68 bs_X11_lawOf_e_68 hz (fun K hK => ?_)
    refine And.intro (fun c14 => ?_) (fun c14 => ?_)
    · refine hK 91 [some (vR 111 0), some (vI m), some (vI k), some (vI s), some (vI p), some (vI q), some (vI (T 205 0 (23 * T 230 0 m + 0))), some (vI v), none] [] T ?_
      refine j_blx (F := fX11) tb_X11 (by decide) bk_X11_lawOf_e_91 bs_X11_lawOf_e_91 hz (fun K hK => ?_)
      refine (show po_X11_lawOf_e T ru m k s p q T (some (vI 3)) from ?_)
      exact ⟨rfl, _, rfl, by decide, fun z => absurd z (by decide), (lwR__3 (r := ru) (a := rp9_ T m) (k := k) (s := s) (q := p) (o := q) (fun z => z (z103_0.trans t1)) (fun z => z (by rw [← hru0]; exact t2)) (show (ru 0 = 0 ∧ (k = 1 ∨ k = 2) ∧ (rp9_ T m) 103 4 = 1) ∨ (ru 0 = 3 ∧ (rp9_ T m) 103 5 ≠ s) by (try simp only [z103_0, z103_1, z103_2, ← hru0, ← hru10]); omega)).symm⟩
    · refine And.intro (fun c15 => ?_) (fun c15 => ?_)
      · refine hK 93 _ [] T ?_
        refine j_blx (F := fX11) tb_X11 (by decide) bk_X11_lawOf_e_93 bs_X11_lawOf_e_93 hz (fun K hK => ?_)
        refine And.intro (fun c16 => ?_) (fun c16 => ?_)
        · refine hK 102 _ [] T ?_
          refine j_blx (F := fX11) tb_X11 (by decide) bk_X11_lawOf_e_102 bs_X11_lawOf_e_102 hz (fun K hK => ?_)
          refine And.intro (fun c17 => ?_) (fun c17 => ?_)
          · refine hK 117 _ [] T ?_
            refine j_blx (F := fX11) tb_X11 (by decide) bk_X11_lawOf_e_117 bs_X11_lawOf_e_117 hz (fun K hK => ?_)
            refine hK 118 _ [vI 0] T ?_
            refine j_drop [some (vR 111 0), some (vI m), some (vI k), some (vI s), some (vI p), some (vI q), some (vI (T 205 0 (23 * T 230 0 m + 0))), none, none] (fun k v hk => ?_) rfl ?_
            · match k, hk with
              | 0, hk => exact hk
              | 1, hk => exact hk
              | 2, hk => exact hk
              | 3, hk => exact hk
              | 4, hk => exact hk
              | 5, hk => exact hk
              | 6, hk => exact hk
              | 7, hk => cases hk
              | 8, hk => cases hk
              | k + 9, hk => cases hk
            refine c_118 0 ?_ ?_ ?_ ?_
            · first
              | exact t1
              | omega
            · exact t2
            · unfold lfN_
              omega
            · exact Or.inr ⟨rfl, by unfold lfW_; omega⟩
          · refine And.intro (fun c18 => ?_) (fun c18 => ?_)
            · refine hK 117 [some (vR 111 0), some (vI m), some (vI k), some (vI s), some (vI p), some (vI q), some (vI (T 205 0 (23 * T 230 0 m + 0))), some (vI v), none] [] T ?_
              refine j_blx (F := fX11) tb_X11 (by decide) bk_X11_lawOf_e_117 bs_X11_lawOf_e_117 hz (fun K hK => ?_)
              refine hK 118 _ [vI 0] T ?_
              refine j_drop [some (vR 111 0), some (vI m), some (vI k), some (vI s), some (vI p), some (vI q), some (vI (T 205 0 (23 * T 230 0 m + 0))), none, none] (fun k v hk => ?_) rfl ?_
              · match k, hk with
                | 0, hk => exact hk
                | 1, hk => exact hk
                | 2, hk => exact hk
                | 3, hk => exact hk
                | 4, hk => exact hk
                | 5, hk => exact hk
                | 6, hk => exact hk
                | 7, hk => cases hk
                | 8, hk => cases hk
                | k + 9, hk => cases hk
              refine c_118 0 ?_ ?_ ?_ ?_
              · first
                | exact t1
                | omega
              · exact t2
              · unfold lfN_
                omega
              · exact Or.inr ⟨rfl, by unfold lfW_; omega⟩
            · refine hK 118 [some (vR 111 0), some (vI m), some (vI k), some (vI s), some (vI p), some (vI q), some (vI (T 205 0 (23 * T 230 0 m + 0))), some (vI v), none] [vI 1] T ?_
              refine j_drop [some (vR 111 0), some (vI m), some (vI k), some (vI s), some (vI p), some (vI q), some (vI (T 205 0 (23 * T 230 0 m + 0))), none, none] (fun k v hk => ?_) rfl ?_
              · match k, hk with
                | 0, hk => exact hk
                | 1, hk => exact hk
                | 2, hk => exact hk
                | 3, hk => exact hk
                | 4, hk => exact hk
                | 5, hk => exact hk
                | 6, hk => exact hk
                | 7, hk => cases hk
                | 8, hk => cases hk
                | k + 9, hk => cases hk
              refine c_118 1 ?_ ?_ ?_ ?_
              · first
                | exact t1
                | omega
              · exact t2
              · unfold lfN_
                omega
              · exact Or.inl ⟨rfl, by unfold lfW_; omega⟩
        · refine And.intro (fun c19 => ?_) (fun c19 => ?_)
          · refine hK 113 _ [] T ?_
            refine j_blx (F := fX11) tb_X11 (by decide) bk_X11_lawOf_e_113 bs_X11_lawOf_e_113 hz (fun K hK => ?_)
            refine hK 118 _ [vI 1] T ?_
            refine j_drop [some (vR 111 0), some (vI m), some (vI k), some (vI s), some (vI p), some (vI q), some (vI (T 205 0 (23 * T 230 0 m + 0))), none, none] (fun k v hk => ?_) rfl ?_
            · match k, hk with
              | 0, hk => exact hk
              | 1, hk => exact hk
              | 2, hk => exact hk
              | 3, hk => exact hk
              | 4, hk => exact hk
              | 5, hk => exact hk
              | 6, hk => exact hk
              | 7, hk => cases hk
              | 8, hk => cases hk
              | k + 9, hk => cases hk
            refine c_118 1 ?_ ?_ ?_ ?_
            · first
              | exact t1
              | omega
            · exact t2
            · unfold lfN_
              omega
            · exact Or.inl ⟨rfl, by unfold lfW_; omega⟩
          · refine And.intro (fun c20 => ?_) (fun c20 => ?_)
            · refine hK 117 [some (vR 111 0), some (vI m), some (vI k), some (vI s), some (vI p), some (vI q), some (vI (T 205 0 (23 * T 230 0 m + 0))), some (vI v), none] [] T ?_
              refine j_blx (F := fX11) tb_X11 (by decide) bk_X11_lawOf_e_117 bs_X11_lawOf_e_117 hz (fun K hK => ?_)
              refine hK 118 _ [vI 0] T ?_
              refine j_drop [some (vR 111 0), some (vI m), some (vI k), some (vI s), some (vI p), some (vI q), some (vI (T 205 0 (23 * T 230 0 m + 0))), none, none] (fun k v hk => ?_) rfl ?_
              · match k, hk with
                | 0, hk => exact hk
                | 1, hk => exact hk
                | 2, hk => exact hk
                | 3, hk => exact hk
                | 4, hk => exact hk
                | 5, hk => exact hk
                | 6, hk => exact hk
                | 7, hk => cases hk
                | 8, hk => cases hk
                | k + 9, hk => cases hk
              refine c_118 0 ?_ ?_ ?_ ?_
              · first
                | exact t1
                | omega
              · exact t2
              · unfold lfN_
                omega
              · exact Or.inr ⟨rfl, by unfold lfW_; omega⟩
            · refine And.intro (fun c21 => ?_) (fun c21 => ?_)
              · refine hK 117 [some (vR 111 0), some (vI m), some (vI k), some (vI s), some (vI p), some (vI q), some (vI (T 205 0 (23 * T 230 0 m + 0))), some (vI v), none] [] T ?_
                refine j_blx (F := fX11) tb_X11 (by decide) bk_X11_lawOf_e_117 bs_X11_lawOf_e_117 hz (fun K hK => ?_)
                refine hK 118 _ [vI 0] T ?_
                refine j_drop [some (vR 111 0), some (vI m), some (vI k), some (vI s), some (vI p), some (vI q), some (vI (T 205 0 (23 * T 230 0 m + 0))), none, none] (fun k v hk => ?_) rfl ?_
                · match k, hk with
                  | 0, hk => exact hk
                  | 1, hk => exact hk
                  | 2, hk => exact hk
                  | 3, hk => exact hk
                  | 4, hk => exact hk
                  | 5, hk => exact hk
                  | 6, hk => exact hk
                  | 7, hk => cases hk
                  | 8, hk => cases hk
                  | k + 9, hk => cases hk
                refine c_118 0 ?_ ?_ ?_ ?_
                · first
                  | exact t1
                  | omega
                · exact t2
                · unfold lfN_
                  omega
                · exact Or.inr ⟨rfl, by unfold lfW_; omega⟩
              · refine hK 118 [some (vR 111 0), some (vI m), some (vI k), some (vI s), some (vI p), some (vI q), some (vI (T 205 0 (23 * T 230 0 m + 0))), some (vI v), none] [vI 1] T ?_
                refine j_drop [some (vR 111 0), some (vI m), some (vI k), some (vI s), some (vI p), some (vI q), some (vI (T 205 0 (23 * T 230 0 m + 0))), none, none] (fun k v hk => ?_) rfl ?_
                · match k, hk with
                  | 0, hk => exact hk
                  | 1, hk => exact hk
                  | 2, hk => exact hk
                  | 3, hk => exact hk
                  | 4, hk => exact hk
                  | 5, hk => exact hk
                  | 6, hk => exact hk
                  | 7, hk => cases hk
                  | 8, hk => cases hk
                  | k + 9, hk => cases hk
                refine c_118 1 ?_ ?_ ?_ ?_
                · first
                  | exact t1
                  | omega
                · exact t2
                · unfold lfN_
                  omega
                · exact Or.inl ⟨rfl, by unfold lfW_; omega⟩
      · refine hK 84 _ [vI 5, vI m, vR 111 0] T ?_
        refine j_callV (y := yX11_liveOf) (Yc := zX11_liveOf) (rest := []) [vI m, vI 5] (ct_X11_liveOf (T := T) (by omega) (by omega)) cl_X11_400 (qd_c (by decide +kernel)) (by decide) rfl (by decide +kernel) (Nat.le_of_ble_eq_true rfl) (by decide) (by decide) rfl ?_
        rintro _ _ ⟨rfl, rfl⟩
        show J_ zX11_lawOf T (po_X11_lawOf_e T ru m k s p q) 0 0 87 _ [vI (T 246 0 (8 * m + 5))] T
        refine j_blx (F := fX11) tb_X11 (by decide) bk_X11_lawOf_e_87 bs_X11_lawOf_e_87 hz (fun K hK => ?_)
        refine And.intro (fun c22 => ?_) (fun c22 => ?_)
        · refine hK 93 _ [] T ?_
          refine j_blx (F := fX11) tb_X11 (by decide) bk_X11_lawOf_e_93 bs_X11_lawOf_e_93 hz (fun K hK => ?_)
          refine And.intro (fun c23 => ?_) (fun c23 => ?_)
          · refine hK 102 _ [] T ?_
            refine j_blx (F := fX11) tb_X11 (by decide) bk_X11_lawOf_e_102 bs_X11_lawOf_e_102 hz (fun K hK => ?_)
            refine And.intro (fun c24 => ?_) (fun c24 => ?_)
            · refine hK 117 _ [] T ?_
              refine j_blx (F := fX11) tb_X11 (by decide) bk_X11_lawOf_e_117 bs_X11_lawOf_e_117 hz (fun K hK => ?_)
              refine hK 118 _ [vI 0] T ?_
              refine j_drop [some (vR 111 0), some (vI m), some (vI k), some (vI s), some (vI p), some (vI q), some (vI (T 205 0 (23 * T 230 0 m + 0))), none, none] (fun k v hk => ?_) rfl ?_
              · match k, hk with
                | 0, hk => exact hk
                | 1, hk => exact hk
                | 2, hk => exact hk
                | 3, hk => exact hk
                | 4, hk => exact hk
                | 5, hk => exact hk
                | 6, hk => exact hk
                | 7, hk => cases hk
                | 8, hk => cases hk
                | k + 9, hk => cases hk
              refine c_118 0 ?_ ?_ ?_ ?_
              · first
                | exact t1
                | omega
              · exact t2
              · unfold lfN_
                omega
              · exact Or.inr ⟨rfl, by unfold lfW_; omega⟩
            · refine And.intro (fun c25 => ?_) (fun c25 => ?_)
              · refine hK 117 [some (vR 111 0), some (vI m), some (vI k), some (vI s), some (vI p), some (vI q), some (vI (T 205 0 (23 * T 230 0 m + 0))), some (vI v), none] [] T ?_
                refine j_blx (F := fX11) tb_X11 (by decide) bk_X11_lawOf_e_117 bs_X11_lawOf_e_117 hz (fun K hK => ?_)
                refine hK 118 _ [vI 0] T ?_
                refine j_drop [some (vR 111 0), some (vI m), some (vI k), some (vI s), some (vI p), some (vI q), some (vI (T 205 0 (23 * T 230 0 m + 0))), none, none] (fun k v hk => ?_) rfl ?_
                · match k, hk with
                  | 0, hk => exact hk
                  | 1, hk => exact hk
                  | 2, hk => exact hk
                  | 3, hk => exact hk
                  | 4, hk => exact hk
                  | 5, hk => exact hk
                  | 6, hk => exact hk
                  | 7, hk => cases hk
                  | 8, hk => cases hk
                  | k + 9, hk => cases hk
                refine c_118 0 ?_ ?_ ?_ ?_
                · first
                  | exact t1
                  | omega
                · exact t2
                · unfold lfN_
                  omega
                · exact Or.inr ⟨rfl, by unfold lfW_; omega⟩
              · refine hK 118 [some (vR 111 0), some (vI m), some (vI k), some (vI s), some (vI p), some (vI q), some (vI (T 205 0 (23 * T 230 0 m + 0))), some (vI v), none] [vI 1] T ?_
                refine j_drop [some (vR 111 0), some (vI m), some (vI k), some (vI s), some (vI p), some (vI q), some (vI (T 205 0 (23 * T 230 0 m + 0))), none, none] (fun k v hk => ?_) rfl ?_
                · match k, hk with
                  | 0, hk => exact hk
                  | 1, hk => exact hk
                  | 2, hk => exact hk
                  | 3, hk => exact hk
                  | 4, hk => exact hk
                  | 5, hk => exact hk
                  | 6, hk => exact hk
                  | 7, hk => cases hk
                  | 8, hk => cases hk
                  | k + 9, hk => cases hk
                refine c_118 1 ?_ ?_ ?_ ?_
                · first
                  | exact t1
                  | omega
                · exact t2
                · unfold lfN_
                  omega
                · exact Or.inl ⟨rfl, by unfold lfW_; omega⟩
          · refine And.intro (fun c26 => ?_) (fun c26 => ?_)
            · refine hK 113 _ [] T ?_
              refine j_blx (F := fX11) tb_X11 (by decide) bk_X11_lawOf_e_113 bs_X11_lawOf_e_113 hz (fun K hK => ?_)
              refine hK 118 _ [vI 1] T ?_
              refine j_drop [some (vR 111 0), some (vI m), some (vI k), some (vI s), some (vI p), some (vI q), some (vI (T 205 0 (23 * T 230 0 m + 0))), none, none] (fun k v hk => ?_) rfl ?_
              · match k, hk with
                | 0, hk => exact hk
                | 1, hk => exact hk
                | 2, hk => exact hk
                | 3, hk => exact hk
                | 4, hk => exact hk
                | 5, hk => exact hk
                | 6, hk => exact hk
                | 7, hk => cases hk
                | 8, hk => cases hk
                | k + 9, hk => cases hk
              refine c_118 1 ?_ ?_ ?_ ?_
              · first
                | exact t1
                | omega
              · exact t2
              · unfold lfN_
                omega
              · exact Or.inl ⟨rfl, by unfold lfW_; omega⟩
            · refine And.intro (fun c27 => ?_) (fun c27 => ?_)
              · refine hK 117 [some (vR 111 0), some (vI m), some (vI k), some (vI s), some (vI p), some (vI q), some (vI (T 205 0 (23 * T 230 0 m + 0))), some (vI v), none] [] T ?_
                refine j_blx (F := fX11) tb_X11 (by decide) bk_X11_lawOf_e_117 bs_X11_lawOf_e_117 hz (fun K hK => ?_)
                refine hK 118 _ [vI 0] T ?_
                refine j_drop [some (vR 111 0), some (vI m), some (vI k), some (vI s), some (vI p), some (vI q), some (vI (T 205 0 (23 * T 230 0 m + 0))), none, none] (fun k v hk => ?_) rfl ?_
                · match k, hk with
                  | 0, hk => exact hk
                  | 1, hk => exact hk
                  | 2, hk => exact hk
                  | 3, hk => exact hk
                  | 4, hk => exact hk
                  | 5, hk => exact hk
                  | 6, hk => exact hk
                  | 7, hk => cases hk
                  | 8, hk => cases hk
                  | k + 9, hk => cases hk
                refine c_118 0 ?_ ?_ ?_ ?_
                · first
                  | exact t1
                  | omega
                · exact t2
                · unfold lfN_
                  omega
                · exact Or.inr ⟨rfl, by unfold lfW_; omega⟩
              · refine And.intro (fun c28 => ?_) (fun c28 => ?_)
                · refine hK 117 [some (vR 111 0), some (vI m), some (vI k), some (vI s), some (vI p), some (vI q), some (vI (T 205 0 (23 * T 230 0 m + 0))), some (vI v), none] [] T ?_
                  refine j_blx (F := fX11) tb_X11 (by decide) bk_X11_lawOf_e_117 bs_X11_lawOf_e_117 hz (fun K hK => ?_)
                  refine hK 118 _ [vI 0] T ?_
                  refine j_drop [some (vR 111 0), some (vI m), some (vI k), some (vI s), some (vI p), some (vI q), some (vI (T 205 0 (23 * T 230 0 m + 0))), none, none] (fun k v hk => ?_) rfl ?_
                  · match k, hk with
                    | 0, hk => exact hk
                    | 1, hk => exact hk
                    | 2, hk => exact hk
                    | 3, hk => exact hk
                    | 4, hk => exact hk
                    | 5, hk => exact hk
                    | 6, hk => exact hk
                    | 7, hk => cases hk
                    | 8, hk => cases hk
                    | k + 9, hk => cases hk
                  refine c_118 0 ?_ ?_ ?_ ?_
                  · first
                    | exact t1
                    | omega
                  · exact t2
                  · unfold lfN_
                    omega
                  · exact Or.inr ⟨rfl, by unfold lfW_; omega⟩
                · refine hK 118 [some (vR 111 0), some (vI m), some (vI k), some (vI s), some (vI p), some (vI q), some (vI (T 205 0 (23 * T 230 0 m + 0))), some (vI v), none] [vI 1] T ?_
                  refine j_drop [some (vR 111 0), some (vI m), some (vI k), some (vI s), some (vI p), some (vI q), some (vI (T 205 0 (23 * T 230 0 m + 0))), none, none] (fun k v hk => ?_) rfl ?_
                  · match k, hk with
                    | 0, hk => exact hk
                    | 1, hk => exact hk
                    | 2, hk => exact hk
                    | 3, hk => exact hk
                    | 4, hk => exact hk
                    | 5, hk => exact hk
                    | 6, hk => exact hk
                    | 7, hk => cases hk
                    | 8, hk => cases hk
                    | k + 9, hk => cases hk
                  refine c_118 1 ?_ ?_ ?_ ?_
                  · first
                    | exact t1
                    | omega
                  · exact t2
                  · unfold lfN_
                    omega
                  · exact Or.inl ⟨rfl, by unfold lfW_; omega⟩
        · refine (show po_X11_lawOf_e T ru m k s p q T (some (vI 3)) from ?_)
          exact ⟨rfl, _, rfl, by decide, fun z => absurd z (by decide), (lwR__3 (r := ru) (a := rp9_ T m) (k := k) (s := s) (q := p) (o := q) (fun z => z (z103_0.trans t1)) (fun z => z (by rw [← hru0]; exact t2)) (show (ru 0 = 0 ∧ (k = 1 ∨ k = 2) ∧ (rp9_ T m) 103 4 = 1) ∨ (ru 0 = 3 ∧ (rp9_ T m) 103 5 ≠ s) by (try simp only [z103_0, z103_1, z103_2, ← hru0, ← hru10]); omega)).symm⟩
  refine j_blx (F := fX11) tb_X11 (by decide) bk_X11_lawOf_e_0 bs_X11_lawOf_e_0 hz (fun K hK => ?_)
  refine ix_i (by omega) ?_
  intro b29 b29b
  refine hK 8 _ [vI 0, vI (T 230 0 m), vR 111 0] T ?_
  refine j_callV (y := yX11_rule0) (Yc := zX11_rule0) (rest := []) [vI (T 230 0 m), vI 0] (ct_X11_rule0 (T := T) (by omega) (by omega)) cl_X11_321 (qd_c (by decide +kernel)) (by decide) rfl (by decide +kernel) (Nat.le_of_ble_eq_true rfl) (by decide) (by decide) rfl ?_
  rintro _ _ ⟨rfl, rfl⟩
  show J_ zX11_lawOf T (po_X11_lawOf_e T ru m k s p q) 0 0 11 _ [vI (T 205 0 (23 * (T 230 0 m) + 0))] T
  refine j_blx (F := fX11) tb_X11 (by decide) bk_X11_lawOf_e_11 bs_X11_lawOf_e_11 hz (fun K hK => ?_)
  refine ix_i (by omega) ?_
  intro b30 b30b
  refine And.intro (fun c31 => ?_) (fun c31 => ?_)
  · refine hK 25 [some (vR 111 0), some (vI m), some (vI k), some (vI s), some (vI p), some (vI q), some (vI (T 205 0 (23 * (T 230 0 m) + 0))), none, none] [] T ?_
    refine j_blx (F := fX11) tb_X11 (by decide) bk_X11_lawOf_e_25 bs_X11_lawOf_e_25 hz (fun K hK => ?_)
    refine hK 30 _ [vI s, vI k, vI (T 205 0 (23 * (T 230 0 m) + 0)), vR 111 0] T ?_
    refine j_callV (y := yX11_isTold) (Yc := zX11_isTold) (rest := []) [vI (T 205 0 (23 * (T 230 0 m) + 0)), vI k, vI s] (ct_X11_isTold_e (T := T)) cl_X11_397 (qd_c (by decide +kernel)) (by decide) rfl (by decide +kernel) (Nat.le_of_ble_eq_true rfl) (by decide) (by decide) rfl ?_
    rintro _ _ ⟨rfl, x32, rfl, hx32⟩
    show J_ zX11_lawOf T (po_X11_lawOf_e T ru m k s p q) 0 0 33 _ [vI x32] T
    refine j_blx (F := fX11) tb_X11 (by decide) bk_X11_lawOf_e_33 bs_X11_lawOf_e_33 hz (fun K hK => ?_)
    refine And.intro (fun c33 => ?_) (fun c33 => ?_)
    · refine hK 38 _ [] T ?_
      have t2 : lfT_ T m k s := (hx32.resolve_right (fun z => absurd z.1 c33)).2
      clear hx32
      refine j_blx (F := fX11) tb_X11 (by decide) bk_X11_lawOf_e_38 bs_X11_lawOf_e_38 hz (fun K hK => ?_)
      refine And.intro (fun c34 => ?_) (fun c34 => ?_)
      · refine hK 67 _ [] T ?_
        refine j_blx (F := fX11) tb_X11 (by decide) bk_X11_lawOf_e_67 bs_X11_lawOf_e_67 hz (fun K hK => ?_)
        refine hK 68 _ [vI 0] T ?_
        refine c_68 0 ?_ ?_ ?_
        · first
          | exact t1
          | omega
        · exact t2
        · exact Or.inr ⟨rfl, by omega⟩
      · refine And.intro (fun c35 => ?_) (fun c35 => ?_)
        · refine hK 53 _ [] T ?_
          refine j_blx (F := fX11) tb_X11 (by decide) bk_X11_lawOf_e_53 bs_X11_lawOf_e_53 hz (fun K hK => ?_)
          refine hK 56 _ [vI 0, vI m, vR 111 0] T ?_
          refine j_callV (y := yX11_liveOf) (Yc := zX11_liveOf) (rest := []) [vI m, vI 0] (ct_X11_liveOf (T := T) (by omega) (by omega)) cl_X11_400 (qd_c (by decide +kernel)) (by decide) rfl (by decide +kernel) (Nat.le_of_ble_eq_true rfl) (by decide) (by decide) rfl ?_
          rintro _ _ ⟨rfl, rfl⟩
          show J_ zX11_lawOf T (po_X11_lawOf_e T ru m k s p q) 0 0 59 _ [vI (T 246 0 (8 * m + 0))] T
          refine j_blx (F := fX11) tb_X11 (by decide) bk_X11_lawOf_e_59 bs_X11_lawOf_e_59 hz (fun K hK => ?_)
          refine And.intro (fun c36 => ?_) (fun c36 => ?_)
          · refine hK 67 _ [] T ?_
            refine j_blx (F := fX11) tb_X11 (by decide) bk_X11_lawOf_e_67 bs_X11_lawOf_e_67 hz (fun K hK => ?_)
            refine hK 68 _ [vI 0] T ?_
            refine c_68 0 ?_ ?_ ?_
            · first
              | exact t1
              | omega
            · exact t2
            · exact Or.inr ⟨rfl, by omega⟩
          · refine hK 68 _ [vI 1] T ?_
            refine c_68 1 ?_ ?_ ?_
            · first
              | exact t1
              | omega
            · exact t2
            · exact Or.inl ⟨rfl, by omega⟩
        · refine And.intro (fun c37 => ?_) (fun c37 => ?_)
          · refine hK 67 _ [] T ?_
            refine j_blx (F := fX11) tb_X11 (by decide) bk_X11_lawOf_e_67 bs_X11_lawOf_e_67 hz (fun K hK => ?_)
            refine hK 68 _ [vI 0] T ?_
            refine c_68 0 ?_ ?_ ?_
            · first
              | exact t1
              | omega
            · exact t2
            · exact Or.inr ⟨rfl, by omega⟩
          · refine hK 56 _ [vI 0, vI m, vR 111 0] T ?_
            refine j_callV (y := yX11_liveOf) (Yc := zX11_liveOf) (rest := []) [vI m, vI 0] (ct_X11_liveOf (T := T) (by omega) (by omega)) cl_X11_400 (qd_c (by decide +kernel)) (by decide) rfl (by decide +kernel) (Nat.le_of_ble_eq_true rfl) (by decide) (by decide) rfl ?_
            rintro _ _ ⟨rfl, rfl⟩
            show J_ zX11_lawOf T (po_X11_lawOf_e T ru m k s p q) 0 0 59 _ [vI (T 246 0 (8 * m + 0))] T
            refine j_blx (F := fX11) tb_X11 (by decide) bk_X11_lawOf_e_59 bs_X11_lawOf_e_59 hz (fun K hK => ?_)
            refine And.intro (fun c38 => ?_) (fun c38 => ?_)
            · refine hK 67 _ [] T ?_
              refine j_blx (F := fX11) tb_X11 (by decide) bk_X11_lawOf_e_67 bs_X11_lawOf_e_67 hz (fun K hK => ?_)
              refine hK 68 _ [vI 0] T ?_
              refine c_68 0 ?_ ?_ ?_
              · first
                | exact t1
                | omega
              · exact t2
              · exact Or.inr ⟨rfl, by omega⟩
            · refine hK 68 _ [vI 1] T ?_
              refine c_68 1 ?_ ?_ ?_
              · first
                | exact t1
                | omega
              · exact t2
              · exact Or.inl ⟨rfl, by omega⟩
    · refine (show po_X11_lawOf_e T ru m k s p q T (some (vI 2)) from ?_)
      have nt2 : ¬ lfT_ T m k s := (hx32.resolve_left (fun z => absurd (c33.symm.trans z.1) (by decide))).2
      exact ⟨rfl, _, rfl, by decide, fun z => absurd z (by decide), (lwR__2 (r := ru) (a := rp9_ T m) (k := k) (s := s) (q := p) (o := q) (fun z => z (z103_0.trans (by omega))) (show ¬ (((ru 0 = 0 ∧ 0 ≤ k ∧ k ≤ 5) ∨ (ru 0 = 1 ∧ (k = 1 ∨ k = 5)) ∨ (ru 0 = 2 ∧ (k = 1 ∨ k = 6)) ∨ (¬ ru 0 = 0 ∧ ¬ ru 0 = 1 ∧ ¬ ru 0 = 2 ∧ 1 ≤ k ∧ k ≤ 4)) ∧ ((ru 0 = 0 ∧ k = 0) ∨ (0 ≤ s ∧ s ≤ 1))) by rw [← hru0]; exact nt2)).symm⟩
  · refine (show po_X11_lawOf_e T ru m k s p q T (some (vI 1)) from ?_)
    exact ⟨rfl, _, rfl, by decide, fun z => absurd z (by decide), (lwR__1 (r := ru) (a := rp9_ T m) (k := k) (s := s) (q := p) (o := q) (show (rp9_ T m) 103 3 ≠ 1 by (try simp only [z103_0, z103_1, z103_2, ← hru0, ← hru10]); omega)).symm⟩
