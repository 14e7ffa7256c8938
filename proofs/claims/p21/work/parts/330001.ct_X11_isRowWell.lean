abbrev cX11_isRowWell : ByteArray := prog_13_method_106_code
def yX11_isRowWell : MethodName := ⟨RX11, "isRowWell", "(III)Z"⟩
def zX11_isRowWell : Zm := (RX11, cX11_isRowWell, 7, (some .boolean), { frames := 1, cells := 0, slots := 0, locals := 22 })
theorem bk_X11_isRowWell_176 : ck_ fX11 (some .boolean) cX11_isRowWell 176 [.iload 6, .aload 0, .tableswitch 0 11 8 #[], .iload 1, .iaload, .if_icmp .ge 225, .iload 5, .ifCond .eq 216, .aload 0, .tableswitch 0 11 93 #[], .aload 0, .tableswitch 0 11 7 #[], .iconst 12, .iload 1, .imul, .iload 6, .iadd, .iaload, .iaload, .ifCond .lt 216, .iconst 1, .goto 217] 216 = true := qck_r (nn_ _) (by decide +kernel)
theorem bs_X11_isRowWell_176 {P : Zt → Option Zv → Prop} (K : Int → Zl → List Zv → Zt → Prop) : sx_ K P [.iload 6, .aload 0, .tableswitch 0 11 8 #[], .iload 1, .iaload, .if_icmp .ge 225, .iload 5, .ifCond .eq 216, .aload 0, .tableswitch 0 11 93 #[], .aload 0, .tableswitch 0 11 7 #[], .iconst 12, .iload 1, .imul, .iload 6, .iadd, .iaload, .iaload, .ifCond .lt 216, .iconst 1, .goto 217] 216 = x_iload 6 (x_aload 0 (x_g1 111 208 (x_iload 1 (x_iaload (x_if_icmp .ge 225 K (x_iload 5 (x_ifCond .eq 216 K (x_aload 0 (x_g1 111 293 (x_aload 0 (x_g1 111 207 (x_iconst 12 (x_iload 1 (x_imul (x_iload 6 (x_iadd (x_iaload (x_iaload (x_ifCond .lt 216 K (x_iconst 1 (x_goto 217 K))))))))))))))))))))) := ((xe_iload 6).trans (congrArg (x_iload 6) ((xe_aload 0).trans (congrArg (x_aload 0) ((xe_g1 (kk := 111) rfl tl_11_8).trans (congrArg (x_g1 111 208) ((xe_iload 1).trans (congrArg (x_iload 1) ((xe_iaload).trans (congrArg (x_iaload) ((xe_if_icmp .ge 225).trans (congrArg (x_if_icmp .ge 225 K) ((xe_iload 5).trans (congrArg (x_iload 5) ((xe_ifCond .eq 216).trans (congrArg (x_ifCond .eq 216 K) ((xe_aload 0).trans (congrArg (x_aload 0) ((xe_g1 (kk := 111) rfl tl_11_93).trans (congrArg (x_g1 111 293) ((xe_aload 0).trans (congrArg (x_aload 0) ((xe_g1 (kk := 111) rfl tl_11_7).trans (congrArg (x_g1 111 207) ((xe_iconst 12).trans (congrArg (x_iconst 12) ((xe_iload 1).trans (congrArg (x_iload 1) ((xe_imul).trans (congrArg (x_imul) ((xe_iload 6).trans (congrArg (x_iload 6) ((xe_iadd).trans (congrArg (x_iadd) ((xe_iaload).trans (congrArg (x_iaload) ((xe_iaload).trans (congrArg (x_iaload) ((xe_ifCond .lt 216).trans (congrArg (x_ifCond .lt 216 K) ((xe_iconst 1).trans (congrArg (x_iconst 1) (xe_goto 217)))))))))))))))))))))))))))))))))))))))))))
theorem bk_X11_isRowWell_225 : ck_ fX11 (some .boolean) cX11_isRowWell 225 [.iload 5, .ireturn] 228 = true := qck_r (nn_ _) (by decide +kernel)
theorem bs_X11_isRowWell_225 {P : Zt → Option Zv → Prop} (K : Int → Zl → List Zv → Zt → Prop) : sx_ K P [.iload 5, .ireturn] 228 = x_iload 5 (x_ireturn P) := ((xe_iload 5).trans (congrArg (x_iload 5) (xe_ireturn)))
theorem bk_X11_isRowWell_216 : ck_ fX11 (some .boolean) cX11_isRowWell 216 [.iconst 0, .istore 5, .iinc 6 1, .goto 176] 225 = true := qck_r (nn_ _) (by decide +kernel)
theorem bs_X11_isRowWell_216 {P : Zt → Option Zv → Prop} (K : Int → Zl → List Zv → Zt → Prop) : sx_ K P [.iconst 0, .istore 5, .iinc 6 1, .goto 176] 225 = x_iconst 0 (x_istore 5 (x_iinc 6 1 (x_goto 176 K))) := ((xe_iconst 0).trans (congrArg (x_iconst 0) ((xe_istore 5).trans (congrArg (x_istore 5) ((xe_iinc 6 1).trans (congrArg (x_iinc 6 1) (xe_goto 176)))))))
theorem bk_X11_isRowWell_217 : ck_ fX11 (some .boolean) cX11_isRowWell 217 [.istore 5, .iinc 6 1, .goto 176] 225 = true := qck_r (nn_ _) (by decide +kernel)
theorem bs_X11_isRowWell_217 {P : Zt → Option Zv → Prop} (K : Int → Zl → List Zv → Zt → Prop) : sx_ K P [.istore 5, .iinc 6 1, .goto 176] 225 = x_istore 5 (x_iinc 6 1 (x_goto 176 K)) := ((xe_istore 5).trans (congrArg (x_istore 5) ((xe_iinc 6 1).trans (congrArg (x_iinc 6 1) (xe_goto 176)))))
theorem bk_X11_isRowWell_43 : ck_ fX11 (some .boolean) cX11_isRowWell 43 [.iload 5, .ifCond .lt 170, .iload 4, .iconst 3, .irem, .istore 6, .iload 4, .iconst 3, .idiv, .istore 4, .aload 0, .tableswitch 0 11 89 #[], .aload 0, .tableswitch 0 11 97 #[], .iload 5, .iaload, .iload 6, .iastore, .aload 0, .tableswitch 0 11 93 #[], .aload 0, .tableswitch 0 11 32 #[], .aload 0, .tableswitch 0 11 97 #[], .iload 5, .iaload, .iaload, .dup2, .iaload, .aload 0, .iload 1, .iload 6, .ifCond .ne 103, .iconst 1, .goto 114] 103 = true := qck_r (nn_ _) (by decide +kernel)
theorem bs_X11_isRowWell_43 {P : Zt → Option Zv → Prop} (K : Int → Zl → List Zv → Zt → Prop) : sx_ K P [.iload 5, .ifCond .lt 170, .iload 4, .iconst 3, .irem, .istore 6, .iload 4, .iconst 3, .idiv, .istore 4, .aload 0, .tableswitch 0 11 89 #[], .aload 0, .tableswitch 0 11 97 #[], .iload 5, .iaload, .iload 6, .iastore, .aload 0, .tableswitch 0 11 93 #[], .aload 0, .tableswitch 0 11 32 #[], .aload 0, .tableswitch 0 11 97 #[], .iload 5, .iaload, .iaload, .dup2, .iaload, .aload 0, .iload 1, .iload 6, .ifCond .ne 103, .iconst 1, .goto 114] 103 = x_iload 5 (x_ifCond .lt 170 K (x_iload 4 (x_iconst 3 (x_irem (x_istore 6 (x_iload 4 (x_iconst 3 (x_idiv (x_istore 4 (x_aload 0 (x_g1 111 289 (x_aload 0 (x_g1 111 297 (x_iload 5 (x_iaload (x_iload 6 (x_iastore (x_aload 0 (x_g1 111 293 (x_aload 0 (x_g1 111 232 (x_aload 0 (x_g1 111 297 (x_iload 5 (x_iaload (x_iaload (x_dup2 (x_iaload (x_aload 0 (x_iload 1 (x_iload 6 (x_ifCond .ne 103 K (x_iconst 1 (x_goto 114 K)))))))))))))))))))))))))))))))))) := ((xe_iload 5).trans (congrArg (x_iload 5) ((xe_ifCond .lt 170).trans (congrArg (x_ifCond .lt 170 K) ((xe_iload 4).trans (congrArg (x_iload 4) ((xe_iconst 3).trans (congrArg (x_iconst 3) ((xe_irem).trans (congrArg (x_irem) ((xe_istore 6).trans (congrArg (x_istore 6) ((xe_iload 4).trans (congrArg (x_iload 4) ((xe_iconst 3).trans (congrArg (x_iconst 3) ((xe_idiv).trans (congrArg (x_idiv) ((xe_istore 4).trans (congrArg (x_istore 4) ((xe_aload 0).trans (congrArg (x_aload 0) ((xe_g1 (kk := 111) rfl tl_11_89).trans (congrArg (x_g1 111 289) ((xe_aload 0).trans (congrArg (x_aload 0) ((xe_g1 (kk := 111) rfl tl_11_97).trans (congrArg (x_g1 111 297) ((xe_iload 5).trans (congrArg (x_iload 5) ((xe_iaload).trans (congrArg (x_iaload) ((xe_iload 6).trans (congrArg (x_iload 6) ((xe_iastore).trans (congrArg (x_iastore) ((xe_aload 0).trans (congrArg (x_aload 0) ((xe_g1 (kk := 111) rfl tl_11_93).trans (congrArg (x_g1 111 293) ((xe_aload 0).trans (congrArg (x_aload 0) ((xe_g1 (kk := 111) rfl tl_11_32).trans (congrArg (x_g1 111 232) ((xe_aload 0).trans (congrArg (x_aload 0) ((xe_g1 (kk := 111) rfl tl_11_97).trans (congrArg (x_g1 111 297) ((xe_iload 5).trans (congrArg (x_iload 5) ((xe_iaload).trans (congrArg (x_iaload) ((xe_iaload).trans (congrArg (x_iaload) ((xe_dup2).trans (congrArg (x_dup2) ((xe_iaload).trans (congrArg (x_iaload) ((xe_aload 0).trans (congrArg (x_aload 0) ((xe_iload 1).trans (congrArg (x_iload 1) ((xe_iload 6).trans (congrArg (x_iload 6) ((xe_ifCond .ne 103).trans (congrArg (x_ifCond .ne 103 K) ((xe_iconst 1).trans (congrArg (x_iconst 1) (xe_goto 114)))))))))))))))))))))))))))))))))))))))))))))))))))))))))))))))))))))
theorem bk_X11_isRowWell_170 : ck_ fX11 (some .boolean) cX11_isRowWell 170 [.iconst 1, .istore 5, .iconst 0, .istore 6] 176 = true := qck_r (nn_ _) (by decide +kernel)
theorem bs_X11_isRowWell_170 {P : Zt → Option Zv → Prop} (K : Int → Zl → List Zv → Zt → Prop) : sx_ K P [.iconst 1, .istore 5, .iconst 0, .istore 6] 176 = x_iconst 1 (x_istore 5 (x_iconst 0 (x_istore 6 (K 176)))) := ((xe_iconst 1).trans (congrArg (x_iconst 1) ((xe_istore 5).trans (congrArg (x_istore 5) ((xe_iconst 0).trans (congrArg (x_iconst 0) ((xe_istore 6).trans (congrArg (x_istore 6) xe_nil))))))))
theorem bk_X11_isRowWell_103 : ck_ fX11 (some .boolean) cX11_isRowWell 103 [.iload 6, .iconst 1, .if_icmp .ne 113, .iconst 2, .goto 114] 113 = true := qck_r (nn_ _) (by decide +kernel)
theorem bs_X11_isRowWell_103 {P : Zt → Option Zv → Prop} (K : Int → Zl → List Zv → Zt → Prop) : sx_ K P [.iload 6, .iconst 1, .if_icmp .ne 113, .iconst 2, .goto 114] 113 = x_iload 6 (x_iconst 1 (x_if_icmp .ne 113 K (x_iconst 2 (x_goto 114 K)))) := ((xe_iload 6).trans (congrArg (x_iload 6) ((xe_iconst 1).trans (congrArg (x_iconst 1) ((xe_if_icmp .ne 113).trans (congrArg (x_if_icmp .ne 113 K) ((xe_iconst 2).trans (congrArg (x_iconst 2) (xe_goto 114)))))))))
theorem bk_X11_isRowWell_113 : ck_ fX11 (some .boolean) cX11_isRowWell 113 [.iconst 3] 114 = true := qck_r (nn_ _) (by decide +kernel)
theorem bs_X11_isRowWell_113 {P : Zt → Option Zv → Prop} (K : Int → Zl → List Zv → Zt → Prop) : sx_ K P [.iconst 3] 114 = x_iconst 3 (K 114) := ((xe_iconst 3).trans (congrArg (x_iconst 3) xe_nil))
theorem bk_X11_isRowWell_117 : ck_ fX11 (some .boolean) cX11_isRowWell 117 [.fsub, .iastore, .aload 0, .tableswitch 0 11 93 #[], .aload 0, .tableswitch 0 11 33 #[], .aload 0, .tableswitch 0 11 97 #[], .iload 5, .iaload, .iaload, .dup2, .iaload, .aload 0, .iload 1, .iload 6, .ifCond .ne 148, .iconst 3, .goto 159] 148 = true := qck_r (nn_ _) (by decide +kernel)
theorem bs_X11_isRowWell_117 {P : Zt → Option Zv → Prop} (K : Int → Zl → List Zv → Zt → Prop) : sx_ K P [.fsub, .iastore, .aload 0, .tableswitch 0 11 93 #[], .aload 0, .tableswitch 0 11 33 #[], .aload 0, .tableswitch 0 11 97 #[], .iload 5, .iaload, .iaload, .dup2, .iaload, .aload 0, .iload 1, .iload 6, .ifCond .ne 148, .iconst 3, .goto 159] 148 = x_fsub (x_iastore (x_aload 0 (x_g1 111 293 (x_aload 0 (x_g1 111 233 (x_aload 0 (x_g1 111 297 (x_iload 5 (x_iaload (x_iaload (x_dup2 (x_iaload (x_aload 0 (x_iload 1 (x_iload 6 (x_ifCond .ne 148 K (x_iconst 3 (x_goto 159 K)))))))))))))))))) := ((xe_fsub).trans (congrArg (x_fsub) ((xe_iastore).trans (congrArg (x_iastore) ((xe_aload 0).trans (congrArg (x_aload 0) ((xe_g1 (kk := 111) rfl tl_11_93).trans (congrArg (x_g1 111 293) ((xe_aload 0).trans (congrArg (x_aload 0) ((xe_g1 (kk := 111) rfl tl_11_33).trans (congrArg (x_g1 111 233) ((xe_aload 0).trans (congrArg (x_aload 0) ((xe_g1 (kk := 111) rfl tl_11_97).trans (congrArg (x_g1 111 297) ((xe_iload 5).trans (congrArg (x_iload 5) ((xe_iaload).trans (congrArg (x_iaload) ((xe_iaload).trans (congrArg (x_iaload) ((xe_dup2).trans (congrArg (x_dup2) ((xe_iaload).trans (congrArg (x_iaload) ((xe_aload 0).trans (congrArg (x_aload 0) ((xe_iload 1).trans (congrArg (x_iload 1) ((xe_iload 6).trans (congrArg (x_iload 6) ((xe_ifCond .ne 148).trans (congrArg (x_ifCond .ne 148 K) ((xe_iconst 3).trans (congrArg (x_iconst 3) (xe_goto 159)))))))))))))))))))))))))))))))))))))
theorem bk_X11_isRowWell_148 : ck_ fX11 (some .boolean) cX11_isRowWell 148 [.iload 6, .iconst 1, .if_icmp .ne 158, .iconst 2, .goto 159] 158 = true := qck_r (nn_ _) (by decide +kernel)
theorem bs_X11_isRowWell_148 {P : Zt → Option Zv → Prop} (K : Int → Zl → List Zv → Zt → Prop) : sx_ K P [.iload 6, .iconst 1, .if_icmp .ne 158, .iconst 2, .goto 159] 158 = x_iload 6 (x_iconst 1 (x_if_icmp .ne 158 K (x_iconst 2 (x_goto 159 K)))) := ((xe_iload 6).trans (congrArg (x_iload 6) ((xe_iconst 1).trans (congrArg (x_iconst 1) ((xe_if_icmp .ne 158).trans (congrArg (x_if_icmp .ne 158 K) ((xe_iconst 2).trans (congrArg (x_iconst 2) (xe_goto 159)))))))))
theorem bk_X11_isRowWell_158 : ck_ fX11 (some .boolean) cX11_isRowWell 158 [.iconst 1] 159 = true := qck_r (nn_ _) (by decide +kernel)
theorem bs_X11_isRowWell_158 {P : Zt → Option Zv → Prop} (K : Int → Zl → List Zv → Zt → Prop) : sx_ K P [.iconst 1] 159 = x_iconst 1 (K 159) := ((xe_iconst 1).trans (congrArg (x_iconst 1) xe_nil))
theorem bk_X11_isRowWell_162 : ck_ fX11 (some .boolean) cX11_isRowWell 162 [.fsub, .iastore, .iinc 5 (-1), .goto 43] 170 = true := qck_r (nn_ _) (by decide +kernel)
theorem bs_X11_isRowWell_162 {P : Zt → Option Zv → Prop} (K : Int → Zl → List Zv → Zt → Prop) : sx_ K P [.fsub, .iastore, .iinc 5 (-1), .goto 43] 170 = x_fsub (x_iastore (x_iinc 5 (-1) (x_goto 43 K))) := ((xe_fsub).trans (congrArg (x_fsub) ((xe_iastore).trans (congrArg (x_iastore) ((xe_iinc 5 (-1)).trans (congrArg (x_iinc 5 (-1)) (xe_goto 43)))))))
theorem bk_X11_isRowWell_3 : ck_ fX11 (some .boolean) cX11_isRowWell 3 [.iload 4, .iconst 12, .if_icmp .ge 35, .aload 0, .tableswitch 0 11 93 #[], .iload 4, .aload 0, .tableswitch 0 11 95 #[], .aload 0, .tableswitch 0 11 91 #[], .iload 4, .iaload, .fsub, .iastore, .iinc 4 1, .goto 3] 35 = true := qck_r (nn_ _) (by decide +kernel)
theorem bs_X11_isRowWell_3 {P : Zt → Option Zv → Prop} (K : Int → Zl → List Zv → Zt → Prop) : sx_ K P [.iload 4, .iconst 12, .if_icmp .ge 35, .aload 0, .tableswitch 0 11 93 #[], .iload 4, .aload 0, .tableswitch 0 11 95 #[], .aload 0, .tableswitch 0 11 91 #[], .iload 4, .iaload, .fsub, .iastore, .iinc 4 1, .goto 3] 35 = x_iload 4 (x_iconst 12 (x_if_icmp .ge 35 K (x_aload 0 (x_g1 111 293 (x_iload 4 (x_aload 0 (x_g0 111 95 (-2147483648) 2147483647 (x_aload 0 (x_g1 111 291 (x_iload 4 (x_iaload (x_fsub (x_iastore (x_iinc 4 1 (x_goto 3 K))))))))))))))) := ((xe_iload 4).trans (congrArg (x_iload 4) ((xe_iconst 12).trans (congrArg (x_iconst 12) ((xe_if_icmp .ge 35).trans (congrArg (x_if_icmp .ge 35 K) ((xe_aload 0).trans (congrArg (x_aload 0) ((xe_g1 (kk := 111) rfl tl_11_93).trans (congrArg (x_g1 111 293) ((xe_iload 4).trans (congrArg (x_iload 4) ((xe_aload 0).trans (congrArg (x_aload 0) ((xe_g0 (kk := 111) rfl tl_11_95).trans (congrArg (x_g0 111 95 (-2147483648) 2147483647) ((xe_aload 0).trans (congrArg (x_aload 0) ((xe_g1 (kk := 111) rfl tl_11_91).trans (congrArg (x_g1 111 291) ((xe_iload 4).trans (congrArg (x_iload 4) ((xe_iaload).trans (congrArg (x_iaload) ((xe_fsub).trans (congrArg (x_fsub) ((xe_iastore).trans (congrArg (x_iastore) ((xe_iinc 4 1).trans (congrArg (x_iinc 4 1) (xe_goto 3)))))))))))))))))))))))))))))))
theorem bk_X11_isRowWell_35 : ck_ fX11 (some .boolean) cX11_isRowWell 35 [.iload 3, .istore 4, .iload 2, .iconst 1, .isub, .istore 5] 43 = true := qck_r (nn_ _) (by decide +kernel)
theorem bs_X11_isRowWell_35 {P : Zt → Option Zv → Prop} (K : Int → Zl → List Zv → Zt → Prop) : sx_ K P [.iload 3, .istore 4, .iload 2, .iconst 1, .isub, .istore 5] 43 = x_iload 3 (x_istore 4 (x_iload 2 (x_iconst 1 (x_isub (x_istore 5 (K 43)))))) := ((xe_iload 3).trans (congrArg (x_iload 3) ((xe_istore 4).trans (congrArg (x_istore 4) ((xe_iload 2).trans (congrArg (x_iload 2) ((xe_iconst 1).trans (congrArg (x_iconst 1) ((xe_isub).trans (congrArg (x_isub) ((xe_istore 5).trans (congrArg (x_istore 5) xe_nil))))))))))))
theorem bk_X11_isRowWell_0 : ck_ fX11 (some .boolean) cX11_isRowWell 0 [.iconst 0, .istore 4] 3 = true := qck_r (nn_ _) (by decide +kernel)
theorem bs_X11_isRowWell_0 {P : Zt → Option Zv → Prop} (K : Int → Zl → List Zv → Zt → Prop) : sx_ K P [.iconst 0, .istore 4] 3 = x_iconst 0 (x_istore 4 (K 3)) := ((xe_iconst 0).trans (congrArg (x_iconst 0) ((xe_istore 4).trans (congrArg (x_istore 4) xe_nil))))
abbrev po_X11_isRowWell (T : Zt) (c n r : Int) : Zt → Option Zv → Prop := fun T' r => ∃ x : Int, r = some (vI x) ∧ fr_ [(293, []), (289, [])] T T' ∧ (0 ≤ x ∧ x ≤ 1)
set_option maxHeartbeats 4000000 in
theorem ct_X11_isRowWell {T : Zt} {c n r : Int} (h1 : 0 ≤ c ∧ c < 4) (h2 : 0 ≤ n ∧ n ≤ 400) (h3 : 0 ≤ r) : Ct_ yX11_isRowWell zX11_isRowWell T [vR 111 0, vI c, vI n, vI r] (po_X11_isRowWell T c n r) := by
  refine ct_of pn_11 rfl rfl (Nat.le_of_ble_eq_true rfl) (fun hT hav => ?_)
  have hr_c : -2147483648 ≤ c ∧ c ≤ 2147483647 := hav (vI c) (List.mem_cons_of_mem _ List.mem_cons_self)
  have hr_n : -2147483648 ≤ n ∧ n ≤ 2147483647 := hav (vI n) (List.mem_cons_of_mem _ (List.mem_cons_of_mem _ List.mem_cons_self))
  have hr_r : -2147483648 ≤ r ∧ r ≤ 2147483647 := hav (vI r) (List.mem_cons_of_mem _ (List.mem_cons_of_mem _ (List.mem_cons_of_mem _ List.mem_cons_self)))
  have hz : zX11_isRowWell.2.2.2.1 = some .boolean → ∀ (T' : Zt) (x : Int), po_X11_isRowWell T c n r T' (some (vI x)) → 0 ≤ x ∧ x ≤ 1 := fun _ T' x h => by obtain ⟨y, e, -, hy⟩ := h; cases e; omega
  show J_ zX11_isRowWell T (po_X11_isRowWell T c n r) 0 0 0 [some (vR 111 0), some (vI c), some (vI n), some (vI r), none, none, none] [] T
  have c_176 : ∀ (nn : Nat) (w : Int) (i : Int) (T3 : Zt), ((12 - i).toNat) ≤ nn → (fr_ [(293, []), (289, [])] T T3) → (0 ≤ w ∧ w ≤ 1 ∧ 0 ≤ i) → J_ zX11_isRowWell T (po_X11_isRowWell T c n r) 0 0 176 [some (vR 111 0), some (vI c), some (vI n), some (vI r), none, some (vI w), some (vI i)] [] T3 := by
    intro nn
    induction nn using Nat.strongRecOn with
    | _ nn ih_176 =>
      intro w i T3 hm_176 hf_176 i3
      replace hm_176 := fun (_ : Unit) => hm_176
      refine j_blx (F := fX11) tb_X11 (nn_ _) bk_X11_isRowWell_176 bs_X11_isRowWell_176 hz (fun K hK => ?_)
      refine ix_i (by omega) ?_
      intro b1 b1b
      have e2 : T3 208 0 c = T 208 0 c := hf_176 208 0 c rfl
      rw [e2] at b1 b1b ⊢
      refine And.intro (fun c3 => ?_) (fun c3 => ?_)
      · refine hK 225 _ [] T3 ?_
        refine j_blx (F := fX11) tb_X11 (nn_ _) bk_X11_isRowWell_225 bs_X11_isRowWell_225 hz (fun K hK => ?_)
        refine (show po_X11_isRowWell T c n r T3 (some (vI w)) from ?_)
        exact ⟨_, rfl, fr_t (fr_0 _ _) (fr_s hf_176 rfl), by omega⟩
      · refine And.intro (fun c4 => ?_) (fun c4 => ?_)
        · refine hK 216 _ [] T3 ?_
          refine j_blx (F := fX11) tb_X11 (nn_ _) bk_X11_isRowWell_216 bs_X11_isRowWell_216 hz (fun K hK => ?_)
          refine rg_i (by omega) ?_
          refine hK 176 [some (vR 111 0), some (vI c), some (vI n), some (vI r), none, some (vI 0), some (vI (i + 1))] [] T3 ?_
          refine ih_176 _ ?_ 0 (i + 1) T3 (Nat.le_refl _) ?_ ?_
          · have hm_176 := hm_176 (); omega
          · exact fr_t (fr_0 _ _) (fr_s hf_176 rfl)
          · omega
        · refine rg_i (by omega) ?_
          refine rg_i (by omega) ?_
          refine ix_i (by omega) ?_
          intro b5 b5b
          have e6 : T3 207 0 ((12 * c) + i) = T 207 0 ((12 * c) + i) := hf_176 207 0 ((12 * c) + i) rfl
          rw [e6] at b5 b5b ⊢
          refine ix_i (by omega) ?_
          intro b7 b7b
          refine And.intro (fun c8 => ?_) (fun c8 => ?_)
          · refine hK 216 [some (vR 111 0), some (vI c), some (vI n), some (vI r), none, some (vI w), some (vI i)] [] T3 ?_
            refine j_blx (F := fX11) tb_X11 (nn_ _) bk_X11_isRowWell_216 bs_X11_isRowWell_216 hz (fun K hK => ?_)
            refine rg_i (by omega) ?_
            refine hK 176 [some (vR 111 0), some (vI c), some (vI n), some (vI r), none, some (vI 0), some (vI (i + 1))] [] T3 ?_
            refine ih_176 _ ?_ 0 (i + 1) T3 (Nat.le_refl _) ?_ ?_
            · have hm_176 := hm_176 (); omega
            · exact fr_t (fr_0 _ _) (fr_s hf_176 rfl)
            · omega
          · refine hK 217 [some (vR 111 0), some (vI c), some (vI n), some (vI r), none, some (vI w), some (vI i)] [vI 1] T3 ?_
            refine j_blx (F := fX11) tb_X11 (nn_ _) bk_X11_isRowWell_217 bs_X11_isRowWell_217 hz (fun K hK => ?_)
            refine rg_i (by omega) ?_
            refine hK 176 [some (vR 111 0), some (vI c), some (vI n), some (vI r), none, some (vI 1), some (vI (i + 1))] [] T3 ?_
            refine ih_176 _ ?_ 1 (i + 1) T3 (Nat.le_refl _) ?_ ?_
            · have hm_176 := hm_176 (); omega
            · exact fr_t (fr_0 _ _) (fr_s hf_176 rfl)
            · omega
  have c_43 : ∀ (nn : Nat) (re : Int) (k : Int) (T2 : Zt), ((k + 1).toNat) ≤ nn → (fr_ [(293, []), (289, [])] T T2) → (0 ≤ re ∧ -1 ≤ k ∧ k < 400) → J_ zX11_isRowWell T (po_X11_isRowWell T c n r) 0 0 43 [some (vR 111 0), some (vI c), some (vI n), some (vI r), some (vI re), some (vI k), none] [] T2 := by
    intro nn
    induction nn using Nat.strongRecOn with
    | _ nn ih_43 =>
      intro re k T2 hm_43 hf_43 i2
      replace hm_43 := fun (_ : Unit) => hm_43
      refine j_blx (F := fX11) tb_X11 (nn_ _) bk_X11_isRowWell_43 bs_X11_isRowWell_43 hz (fun K hK => ?_)
      refine And.intro (fun c9 => ?_) (fun c9 => ?_)
      · refine hK 170 _ [] T2 ?_
        refine j_blx (F := fX11) tb_X11 (nn_ _) bk_X11_isRowWell_170 bs_X11_isRowWell_170 hz (fun K hK => ?_)
        refine hK 176 [some (vR 111 0), some (vI c), some (vI n), some (vI r), some (vI re), some (vI 1), some (vI 0)] [] T2 ?_
        refine j_drop [some (vR 111 0), some (vI c), some (vI n), some (vI r), none, some (vI 1), some (vI 0)] (fun k v hk => ?_) rfl ?_
        · match k, hk with
          | 0, hk => exact hk
          | 1, hk => exact hk
          | 2, hk => exact hk
          | 3, hk => exact hk
          | 4, hk => cases hk
          | 5, hk => exact hk
          | 6, hk => exact hk
          | k + 7, hk => cases hk
        refine c_176 _ 1 0 T2 (Nat.le_refl _) ?_ ?_
        · exact fr_t (fr_0 _ _) (fr_s hf_43 rfl)
        · omega
      · refine dv_i (by omega) ?_
        refine dv_i (by omega) ?_
        refine ix_i (by omega) ?_
        intro b10 b10b
        have e11 : T2 297 0 k = T 297 0 k := hf_43 297 0 k rfl
        rw [e11] at b10 b10b ⊢
        refine iy_i (by omega) (by omega) ?_
        refine x_nm (fun U12 hU12 => ?_)
        have e13 := up_f hU12
        refine ix_i (by omega) ?_
        intro b14 b14b
        have e15 : U12 297 0 k = T 297 0 k := (up_k hU12 (by exact Nat.ne_of_beq_eq_false rfl) 0 k).trans (hf_43 297 0 k rfl)
        rw [e15] at b14 b14b ⊢
        refine ix_i (by omega) ?_
        intro b16 b16b
        have e17 : U12 232 0 (T 297 0 k) = T 232 0 (T 297 0 k) := (up_k hU12 (by exact Nat.ne_of_beq_eq_false rfl) 0 (T 297 0 k)).trans (hf_43 232 0 (T 297 0 k) rfl)
        rw [e17] at b16 b16b ⊢
        refine ix_i (by omega) ?_
        intro b18 b18b
        have e19 : U12 293 0 (T 232 0 (T 297 0 k)) = T2 293 0 (T 232 0 (T 297 0 k)) := up_k hU12 (by exact Nat.ne_of_beq_eq_false rfl) 0 (T 232 0 (T 297 0 k))
        rw [e19] at b18 b18b ⊢
        refine And.intro (fun c20 => ?_) (fun c20 => ?_)
        · refine hK 103 [some (vR 111 0), some (vI c), some (vI n), some (vI r), some (vI (re / 3)), some (vI k), some (vI (re % 3))] [vI c, vR 111 0, vI (T2 293 0 (T 232 0 (T 297 0 k))), vI (T 232 0 (T 297 0 k)), vR 293 0] U12 ?_
          refine j_blx (F := fX11) tb_X11 (nn_ _) bk_X11_isRowWell_103 bs_X11_isRowWell_103 hz (fun K hK => ?_)
          refine And.intro (fun c21 => ?_) (fun c21 => ?_)
          · refine hK 113 _ [vI c, vR 111 0, vI (T2 293 0 (T 232 0 (T 297 0 k))), vI (T 232 0 (T 297 0 k)), vR 293 0] U12 ?_
            refine j_blx (F := fX11) tb_X11 (nn_ _) bk_X11_isRowWell_113 bs_X11_isRowWell_113 hz (fun K hK => ?_)
            refine hK 114 _ [vI 3, vI c, vR 111 0, vI (T2 293 0 (T 232 0 (T 297 0 k))), vI (T 232 0 (T 297 0 k)), vR 293 0] U12 ?_
            refine j_callV (y := yX11_rule0) (Yc := zX11_rule0) (rest := [vI (T2 293 0 (T 232 0 (T 297 0 k))), vI (T 232 0 (T 297 0 k)), vR 293 0]) [vI c, vI 3] (ct_X11_rule0 (T := U12) (by omega) (by omega)) cl_X11_321 (qd_c (by decide +kernel)) (nn_ _) rfl (rf_of rfl) (Nat.le_of_ble_eq_true rfl) (Nat.le_of_ble_eq_true rfl) (Nat.le_of_ble_eq_true rfl) rfl ?_
            rintro _ _ ⟨rfl, rfl⟩
            have e22 : U12 205 0 (23 * c + 3) = T 205 0 (23 * c + 3) := (up_k hU12 (by exact Nat.ne_of_beq_eq_false rfl) 0 (23 * c + 3)).trans (hf_43 205 0 (23 * c + 3) rfl)
            show J_ zX11_isRowWell T (po_X11_isRowWell T c n r) 0 0 117 _ [vI (U12 205 0 (23 * c + 3)), vI (T2 293 0 (T 232 0 (T 297 0 k))), vI (T 232 0 (T 297 0 k)), vR 293 0] U12
            refine j_blx (F := fX11) tb_X11 (nn_ _) bk_X11_isRowWell_117 bs_X11_isRowWell_117 hz (fun K hK => ?_)
            intro w23 w23b
            refine iy_i (by omega) (by omega) ?_
            refine x_nm (fun U24 hU24 => ?_)
            have e25 := up_f hU24
            refine ix_i (by omega) ?_
            intro b26 b26b
            have e27 : U24 297 0 k = T 297 0 k := (up_k hU24 (by exact Nat.ne_of_beq_eq_false rfl) 0 k).trans ((up_k hU12 (by exact Nat.ne_of_beq_eq_false rfl) 0 k).trans (hf_43 297 0 k rfl))
            rw [e27] at b26 b26b ⊢
            refine ix_i (by omega) ?_
            intro b28 b28b
            have e29 : U24 233 0 (T 297 0 k) = T 233 0 (T 297 0 k) := (up_k hU24 (by exact Nat.ne_of_beq_eq_false rfl) 0 (T 297 0 k)).trans ((up_k hU12 (by exact Nat.ne_of_beq_eq_false rfl) 0 (T 297 0 k)).trans (hf_43 233 0 (T 297 0 k) rfl))
            rw [e29] at b28 b28b ⊢
            refine ix_i (by omega) ?_
            intro b30 b30b
            refine And.intro (fun c31 => ?_) (fun c31 => ?_)
            · refine hK 148 _ [vI c, vR 111 0, vI (U24 293 0 (T 233 0 (T 297 0 k))), vI (T 233 0 (T 297 0 k)), vR 293 0] U24 ?_
              refine j_blx (F := fX11) tb_X11 (nn_ _) bk_X11_isRowWell_148 bs_X11_isRowWell_148 hz (fun K hK => ?_)
              refine And.intro (fun c32 => ?_) (fun c32 => ?_)
              · refine hK 158 _ [vI c, vR 111 0, vI (U24 293 0 (T 233 0 (T 297 0 k))), vI (T 233 0 (T 297 0 k)), vR 293 0] U24 ?_
                refine j_blx (F := fX11) tb_X11 (nn_ _) bk_X11_isRowWell_158 bs_X11_isRowWell_158 hz (fun K hK => ?_)
                refine hK 159 _ [vI 1, vI c, vR 111 0, vI (U24 293 0 (T 233 0 (T 297 0 k))), vI (T 233 0 (T 297 0 k)), vR 293 0] U24 ?_
                refine j_callV (y := yX11_rule0) (Yc := zX11_rule0) (rest := [vI (U24 293 0 (T 233 0 (T 297 0 k))), vI (T 233 0 (T 297 0 k)), vR 293 0]) [vI c, vI 1] (ct_X11_rule0 (T := U24) (by omega) (by omega)) cl_X11_321 (qd_c (by decide +kernel)) (nn_ _) rfl (rf_of rfl) (Nat.le_of_ble_eq_true rfl) (Nat.le_of_ble_eq_true rfl) (Nat.le_of_ble_eq_true rfl) rfl ?_
                rintro _ _ ⟨rfl, rfl⟩
                have e33 : U24 205 0 (23 * c + 1) = T 205 0 (23 * c + 1) := (up_k hU24 (by exact Nat.ne_of_beq_eq_false rfl) 0 (23 * c + 1)).trans ((up_k hU12 (by exact Nat.ne_of_beq_eq_false rfl) 0 (23 * c + 1)).trans (hf_43 205 0 (23 * c + 1) rfl))
                show J_ zX11_isRowWell T (po_X11_isRowWell T c n r) 0 0 162 _ [vI (U24 205 0 (23 * c + 1)), vI (U24 293 0 (T 233 0 (T 297 0 k))), vI (T 233 0 (T 297 0 k)), vR 293 0] U24
                refine j_blx (F := fX11) tb_X11 (nn_ _) bk_X11_isRowWell_162 bs_X11_isRowWell_162 hz (fun K hK => ?_)
                intro w34 w34b
                refine iy_i (by omega) (by omega) ?_
                refine x_nm (fun U35 hU35 => ?_)
                have e36 := up_f hU35
                refine rg_i (by omega) ?_
                refine hK 43 [some (vR 111 0), some (vI c), some (vI n), some (vI r), some (vI (re / 3)), some (vI (k + (-1))), some (vI (re % 3))] [] U35 ?_
                refine j_drop [some (vR 111 0), some (vI c), some (vI n), some (vI r), some (vI (re / 3)), some (vI (k + (-1))), none] (fun k v hk => ?_) rfl ?_
                · match k, hk with
                  | 0, hk => exact hk
                  | 1, hk => exact hk
                  | 2, hk => exact hk
                  | 3, hk => exact hk
                  | 4, hk => exact hk
                  | 5, hk => exact hk
                  | 6, hk => cases hk
                  | k + 7, hk => cases hk
                refine ih_43 _ ?_ (re / 3) (k + (-1)) U35 (Nat.le_refl _) ?_ ?_
                · have hm_43 := hm_43 (); omega
                · exact fr_u (fr_u (fr_u (fr_t (fr_0 _ _) (fr_s hf_43 rfl)) hU12 rfl) hU24 rfl) hU35 rfl
                · omega
              · refine hK 159 [some (vR 111 0), some (vI c), some (vI n), some (vI r), some (vI (re / 3)), some (vI k), some (vI (re % 3))] [vI 2, vI c, vR 111 0, vI (U24 293 0 (T 233 0 (T 297 0 k))), vI (T 233 0 (T 297 0 k)), vR 293 0] U24 ?_
                refine j_callV (y := yX11_rule0) (Yc := zX11_rule0) (rest := [vI (U24 293 0 (T 233 0 (T 297 0 k))), vI (T 233 0 (T 297 0 k)), vR 293 0]) [vI c, vI 2] (ct_X11_rule0 (T := U24) (by omega) (by omega)) cl_X11_321 (qd_c (by decide +kernel)) (nn_ _) rfl (rf_of rfl) (Nat.le_of_ble_eq_true rfl) (Nat.le_of_ble_eq_true rfl) (Nat.le_of_ble_eq_true rfl) rfl ?_
                rintro _ _ ⟨rfl, rfl⟩
                have e37 : U24 205 0 (23 * c + 2) = T 205 0 (23 * c + 2) := (up_k hU24 (by exact Nat.ne_of_beq_eq_false rfl) 0 (23 * c + 2)).trans ((up_k hU12 (by exact Nat.ne_of_beq_eq_false rfl) 0 (23 * c + 2)).trans (hf_43 205 0 (23 * c + 2) rfl))
                show J_ zX11_isRowWell T (po_X11_isRowWell T c n r) 0 0 162 _ [vI (U24 205 0 (23 * c + 2)), vI (U24 293 0 (T 233 0 (T 297 0 k))), vI (T 233 0 (T 297 0 k)), vR 293 0] U24
                refine j_blx (F := fX11) tb_X11 (nn_ _) bk_X11_isRowWell_162 bs_X11_isRowWell_162 hz (fun K hK => ?_)
                intro w38 w38b
                refine iy_i (by omega) (by omega) ?_
                refine x_nm (fun U39 hU39 => ?_)
                have e40 := up_f hU39
                refine rg_i (by omega) ?_
                refine hK 43 [some (vR 111 0), some (vI c), some (vI n), some (vI r), some (vI (re / 3)), some (vI (k + (-1))), some (vI (re % 3))] [] U39 ?_
                refine j_drop [some (vR 111 0), some (vI c), some (vI n), some (vI r), some (vI (re / 3)), some (vI (k + (-1))), none] (fun k v hk => ?_) rfl ?_
                · match k, hk with
                  | 0, hk => exact hk
                  | 1, hk => exact hk
                  | 2, hk => exact hk
                  | 3, hk => exact hk
                  | 4, hk => exact hk
                  | 5, hk => exact hk
                  | 6, hk => cases hk
                  | k + 7, hk => cases hk
                refine ih_43 _ ?_ (re / 3) (k + (-1)) U39 (Nat.le_refl _) ?_ ?_
                · have hm_43 := hm_43 (); omega
                · exact fr_u (fr_u (fr_u (fr_t (fr_0 _ _) (fr_s hf_43 rfl)) hU12 rfl) hU24 rfl) hU39 rfl
                · omega
            · refine hK 159 _ [vI 3, vI c, vR 111 0, vI (U24 293 0 (T 233 0 (T 297 0 k))), vI (T 233 0 (T 297 0 k)), vR 293 0] U24 ?_
              refine j_callV (y := yX11_rule0) (Yc := zX11_rule0) (rest := [vI (U24 293 0 (T 233 0 (T 297 0 k))), vI (T 233 0 (T 297 0 k)), vR 293 0]) [vI c, vI 3] (ct_X11_rule0 (T := U24) (by omega) (by omega)) cl_X11_321 (qd_c (by decide +kernel)) (nn_ _) rfl (rf_of rfl) (Nat.le_of_ble_eq_true rfl) (Nat.le_of_ble_eq_true rfl) (Nat.le_of_ble_eq_true rfl) rfl ?_
              rintro _ _ ⟨rfl, rfl⟩
              have e41 : U24 205 0 (23 * c + 3) = T 205 0 (23 * c + 3) := (up_k hU24 (by exact Nat.ne_of_beq_eq_false rfl) 0 (23 * c + 3)).trans ((up_k hU12 (by exact Nat.ne_of_beq_eq_false rfl) 0 (23 * c + 3)).trans (hf_43 205 0 (23 * c + 3) rfl))
              show J_ zX11_isRowWell T (po_X11_isRowWell T c n r) 0 0 162 _ [vI (U24 205 0 (23 * c + 3)), vI (U24 293 0 (T 233 0 (T 297 0 k))), vI (T 233 0 (T 297 0 k)), vR 293 0] U24
              refine j_blx (F := fX11) tb_X11 (nn_ _) bk_X11_isRowWell_162 bs_X11_isRowWell_162 hz (fun K hK => ?_)
              intro w42 w42b
              refine iy_i (by omega) (by omega) ?_
              refine x_nm (fun U43 hU43 => ?_)
              have e44 := up_f hU43
              refine rg_i (by omega) ?_
              refine hK 43 [some (vR 111 0), some (vI c), some (vI n), some (vI r), some (vI (re / 3)), some (vI (k + (-1))), some (vI (re % 3))] [] U43 ?_
              refine j_drop [some (vR 111 0), some (vI c), some (vI n), some (vI r), some (vI (re / 3)), some (vI (k + (-1))), none] (fun k v hk => ?_) rfl ?_
              · match k, hk with
                | 0, hk => exact hk
                | 1, hk => exact hk
                | 2, hk => exact hk
                | 3, hk => exact hk
                | 4, hk => exact hk
                | 5, hk => exact hk
                | 6, hk => cases hk
                | k + 7, hk => cases hk
              refine ih_43 _ ?_ (re / 3) (k + (-1)) U43 (Nat.le_refl _) ?_ ?_
              · have hm_43 := hm_43 (); omega
              · exact fr_u (fr_u (fr_u (fr_t (fr_0 _ _) (fr_s hf_43 rfl)) hU12 rfl) hU24 rfl) hU43 rfl
              · omega
          · refine hK 114 _ [vI 2, vI c, vR 111 0, vI (T2 293 0 (T 232 0 (T 297 0 k))), vI (T 232 0 (T 297 0 k)), vR 293 0] U12 ?_
            refine j_callV (y := yX11_rule0) (Yc := zX11_rule0) (rest := [vI (T2 293 0 (T 232 0 (T 297 0 k))), vI (T 232 0 (T 297 0 k)), vR 293 0]) [vI c, vI 2] (ct_X11_rule0 (T := U12) (by omega) (by omega)) cl_X11_321 (qd_c (by decide +kernel)) (nn_ _) rfl (rf_of rfl) (Nat.le_of_ble_eq_true rfl) (Nat.le_of_ble_eq_true rfl) (Nat.le_of_ble_eq_true rfl) rfl ?_
            rintro _ _ ⟨rfl, rfl⟩
            have e45 : U12 205 0 (23 * c + 2) = T 205 0 (23 * c + 2) := (up_k hU12 (by exact Nat.ne_of_beq_eq_false rfl) 0 (23 * c + 2)).trans (hf_43 205 0 (23 * c + 2) rfl)
            show J_ zX11_isRowWell T (po_X11_isRowWell T c n r) 0 0 117 _ [vI (U12 205 0 (23 * c + 2)), vI (T2 293 0 (T 232 0 (T 297 0 k))), vI (T 232 0 (T 297 0 k)), vR 293 0] U12
            refine j_blx (F := fX11) tb_X11 (nn_ _) bk_X11_isRowWell_117 bs_X11_isRowWell_117 hz (fun K hK => ?_)
            intro w46 w46b
            refine iy_i (by omega) (by omega) ?_
            refine x_nm (fun U47 hU47 => ?_)
            have e48 := up_f hU47
            refine ix_i (by omega) ?_
            intro b49 b49b
            have e50 : U47 297 0 k = T 297 0 k := (up_k hU47 (by exact Nat.ne_of_beq_eq_false rfl) 0 k).trans ((up_k hU12 (by exact Nat.ne_of_beq_eq_false rfl) 0 k).trans (hf_43 297 0 k rfl))
            rw [e50] at b49 b49b ⊢
            refine ix_i (by omega) ?_
            intro b51 b51b
            have e52 : U47 233 0 (T 297 0 k) = T 233 0 (T 297 0 k) := (up_k hU47 (by exact Nat.ne_of_beq_eq_false rfl) 0 (T 297 0 k)).trans ((up_k hU12 (by exact Nat.ne_of_beq_eq_false rfl) 0 (T 297 0 k)).trans (hf_43 233 0 (T 297 0 k) rfl))
            rw [e52] at b51 b51b ⊢
            refine ix_i (by omega) ?_
            intro b53 b53b
            refine And.intro (fun c54 => ?_) (fun c54 => ?_)
            · refine hK 148 _ [vI c, vR 111 0, vI (U47 293 0 (T 233 0 (T 297 0 k))), vI (T 233 0 (T 297 0 k)), vR 293 0] U47 ?_
              refine j_blx (F := fX11) tb_X11 (nn_ _) bk_X11_isRowWell_148 bs_X11_isRowWell_148 hz (fun K hK => ?_)
              refine And.intro (fun c55 => ?_) (fun c55 => ?_)
              · refine hK 158 _ [vI c, vR 111 0, vI (U47 293 0 (T 233 0 (T 297 0 k))), vI (T 233 0 (T 297 0 k)), vR 293 0] U47 ?_
                refine j_blx (F := fX11) tb_X11 (nn_ _) bk_X11_isRowWell_158 bs_X11_isRowWell_158 hz (fun K hK => ?_)
                refine hK 159 _ [vI 1, vI c, vR 111 0, vI (U47 293 0 (T 233 0 (T 297 0 k))), vI (T 233 0 (T 297 0 k)), vR 293 0] U47 ?_
                refine j_callV (y := yX11_rule0) (Yc := zX11_rule0) (rest := [vI (U47 293 0 (T 233 0 (T 297 0 k))), vI (T 233 0 (T 297 0 k)), vR 293 0]) [vI c, vI 1] (ct_X11_rule0 (T := U47) (by omega) (by omega)) cl_X11_321 (qd_c (by decide +kernel)) (nn_ _) rfl (rf_of rfl) (Nat.le_of_ble_eq_true rfl) (Nat.le_of_ble_eq_true rfl) (Nat.le_of_ble_eq_true rfl) rfl ?_
                rintro _ _ ⟨rfl, rfl⟩
                have e56 : U47 205 0 (23 * c + 1) = T 205 0 (23 * c + 1) := (up_k hU47 (by exact Nat.ne_of_beq_eq_false rfl) 0 (23 * c + 1)).trans ((up_k hU12 (by exact Nat.ne_of_beq_eq_false rfl) 0 (23 * c + 1)).trans (hf_43 205 0 (23 * c + 1) rfl))
                show J_ zX11_isRowWell T (po_X11_isRowWell T c n r) 0 0 162 _ [vI (U47 205 0 (23 * c + 1)), vI (U47 293 0 (T 233 0 (T 297 0 k))), vI (T 233 0 (T 297 0 k)), vR 293 0] U47
                refine j_blx (F := fX11) tb_X11 (nn_ _) bk_X11_isRowWell_162 bs_X11_isRowWell_162 hz (fun K hK => ?_)
                intro w57 w57b
                refine iy_i (by omega) (by omega) ?_
                refine x_nm (fun U58 hU58 => ?_)
                have e59 := up_f hU58
                refine rg_i (by omega) ?_
                refine hK 43 [some (vR 111 0), some (vI c), some (vI n), some (vI r), some (vI (re / 3)), some (vI (k + (-1))), some (vI (re % 3))] [] U58 ?_
                refine j_drop [some (vR 111 0), some (vI c), some (vI n), some (vI r), some (vI (re / 3)), some (vI (k + (-1))), none] (fun k v hk => ?_) rfl ?_
                · match k, hk with
                  | 0, hk => exact hk
                  | 1, hk => exact hk
                  | 2, hk => exact hk
                  | 3, hk => exact hk
                  | 4, hk => exact hk
                  | 5, hk => exact hk
                  | 6, hk => cases hk
                  | k + 7, hk => cases hk
                refine ih_43 _ ?_ (re / 3) (k + (-1)) U58 (Nat.le_refl _) ?_ ?_
                · have hm_43 := hm_43 (); omega
                · exact fr_u (fr_u (fr_u (fr_t (fr_0 _ _) (fr_s hf_43 rfl)) hU12 rfl) hU47 rfl) hU58 rfl
                · omega
              · refine hK 159 [some (vR 111 0), some (vI c), some (vI n), some (vI r), some (vI (re / 3)), some (vI k), some (vI (re % 3))] [vI 2, vI c, vR 111 0, vI (U47 293 0 (T 233 0 (T 297 0 k))), vI (T 233 0 (T 297 0 k)), vR 293 0] U47 ?_
                refine j_callV (y := yX11_rule0) (Yc := zX11_rule0) (rest := [vI (U47 293 0 (T 233 0 (T 297 0 k))), vI (T 233 0 (T 297 0 k)), vR 293 0]) [vI c, vI 2] (ct_X11_rule0 (T := U47) (by omega) (by omega)) cl_X11_321 (qd_c (by decide +kernel)) (nn_ _) rfl (rf_of rfl) (Nat.le_of_ble_eq_true rfl) (Nat.le_of_ble_eq_true rfl) (Nat.le_of_ble_eq_true rfl) rfl ?_
                rintro _ _ ⟨rfl, rfl⟩
                have e60 : U47 205 0 (23 * c + 2) = T 205 0 (23 * c + 2) := (up_k hU47 (by exact Nat.ne_of_beq_eq_false rfl) 0 (23 * c + 2)).trans ((up_k hU12 (by exact Nat.ne_of_beq_eq_false rfl) 0 (23 * c + 2)).trans (hf_43 205 0 (23 * c + 2) rfl))
                show J_ zX11_isRowWell T (po_X11_isRowWell T c n r) 0 0 162 _ [vI (U47 205 0 (23 * c + 2)), vI (U47 293 0 (T 233 0 (T 297 0 k))), vI (T 233 0 (T 297 0 k)), vR 293 0] U47
                refine j_blx (F := fX11) tb_X11 (nn_ _) bk_X11_isRowWell_162 bs_X11_isRowWell_162 hz (fun K hK => ?_)
                intro w61 w61b
                refine iy_i (by omega) (by omega) ?_
                refine x_nm (fun U62 hU62 => ?_)
                have e63 := up_f hU62
                refine rg_i (by omega) ?_
                refine hK 43 [some (vR 111 0), some (vI c), some (vI n), some (vI r), some (vI (re / 3)), some (vI (k + (-1))), some (vI (re % 3))] [] U62 ?_
                refine j_drop [some (vR 111 0), some (vI c), some (vI n), some (vI r), some (vI (re / 3)), some (vI (k + (-1))), none] (fun k v hk => ?_) rfl ?_
                · match k, hk with
                  | 0, hk => exact hk
                  | 1, hk => exact hk
                  | 2, hk => exact hk
                  | 3, hk => exact hk
                  | 4, hk => exact hk
                  | 5, hk => exact hk
                  | 6, hk => cases hk
                  | k + 7, hk => cases hk
                refine ih_43 _ ?_ (re / 3) (k + (-1)) U62 (Nat.le_refl _) ?_ ?_
                · have hm_43 := hm_43 (); omega
                · exact fr_u (fr_u (fr_u (fr_t (fr_0 _ _) (fr_s hf_43 rfl)) hU12 rfl) hU47 rfl) hU62 rfl
                · omega
            · refine hK 159 _ [vI 3, vI c, vR 111 0, vI (U47 293 0 (T 233 0 (T 297 0 k))), vI (T 233 0 (T 297 0 k)), vR 293 0] U47 ?_
              refine j_callV (y := yX11_rule0) (Yc := zX11_rule0) (rest := [vI (U47 293 0 (T 233 0 (T 297 0 k))), vI (T 233 0 (T 297 0 k)), vR 293 0]) [vI c, vI 3] (ct_X11_rule0 (T := U47) (by omega) (by omega)) cl_X11_321 (qd_c (by decide +kernel)) (nn_ _) rfl (rf_of rfl) (Nat.le_of_ble_eq_true rfl) (Nat.le_of_ble_eq_true rfl) (Nat.le_of_ble_eq_true rfl) rfl ?_
              rintro _ _ ⟨rfl, rfl⟩
              have e64 : U47 205 0 (23 * c + 3) = T 205 0 (23 * c + 3) := (up_k hU47 (by exact Nat.ne_of_beq_eq_false rfl) 0 (23 * c + 3)).trans ((up_k hU12 (by exact Nat.ne_of_beq_eq_false rfl) 0 (23 * c + 3)).trans (hf_43 205 0 (23 * c + 3) rfl))
              show J_ zX11_isRowWell T (po_X11_isRowWell T c n r) 0 0 162 _ [vI (U47 205 0 (23 * c + 3)), vI (U47 293 0 (T 233 0 (T 297 0 k))), vI (T 233 0 (T 297 0 k)), vR 293 0] U47
              refine j_blx (F := fX11) tb_X11 (nn_ _) bk_X11_isRowWell_162 bs_X11_isRowWell_162 hz (fun K hK => ?_)
              intro w65 w65b
              refine iy_i (by omega) (by omega) ?_
              refine x_nm (fun U66 hU66 => ?_)
              have e67 := up_f hU66
              refine rg_i (by omega) ?_
              refine hK 43 [some (vR 111 0), some (vI c), some (vI n), some (vI r), some (vI (re / 3)), some (vI (k + (-1))), some (vI (re % 3))] [] U66 ?_
              refine j_drop [some (vR 111 0), some (vI c), some (vI n), some (vI r), some (vI (re / 3)), some (vI (k + (-1))), none] (fun k v hk => ?_) rfl ?_
              · match k, hk with
                | 0, hk => exact hk
                | 1, hk => exact hk
                | 2, hk => exact hk
                | 3, hk => exact hk
                | 4, hk => exact hk
                | 5, hk => exact hk
                | 6, hk => cases hk
                | k + 7, hk => cases hk
              refine ih_43 _ ?_ (re / 3) (k + (-1)) U66 (Nat.le_refl _) ?_ ?_
              · have hm_43 := hm_43 (); omega
              · exact fr_u (fr_u (fr_u (fr_t (fr_0 _ _) (fr_s hf_43 rfl)) hU12 rfl) hU47 rfl) hU66 rfl
              · omega
        · refine hK 114 _ [vI 1, vI c, vR 111 0, vI (T2 293 0 (T 232 0 (T 297 0 k))), vI (T 232 0 (T 297 0 k)), vR 293 0] U12 ?_
          refine j_callV (y := yX11_rule0) (Yc := zX11_rule0) (rest := [vI (T2 293 0 (T 232 0 (T 297 0 k))), vI (T 232 0 (T 297 0 k)), vR 293 0]) [vI c, vI 1] (ct_X11_rule0 (T := U12) (by omega) (by omega)) cl_X11_321 (qd_c (by decide +kernel)) (nn_ _) rfl (rf_of rfl) (Nat.le_of_ble_eq_true rfl) (Nat.le_of_ble_eq_true rfl) (Nat.le_of_ble_eq_true rfl) rfl ?_
          rintro _ _ ⟨rfl, rfl⟩
          have e68 : U12 205 0 (23 * c + 1) = T 205 0 (23 * c + 1) := (up_k hU12 (by exact Nat.ne_of_beq_eq_false rfl) 0 (23 * c + 1)).trans (hf_43 205 0 (23 * c + 1) rfl)
          show J_ zX11_isRowWell T (po_X11_isRowWell T c n r) 0 0 117 _ [vI (U12 205 0 (23 * c + 1)), vI (T2 293 0 (T 232 0 (T 297 0 k))), vI (T 232 0 (T 297 0 k)), vR 293 0] U12
          refine j_blx (F := fX11) tb_X11 (nn_ _) bk_X11_isRowWell_117 bs_X11_isRowWell_117 hz (fun K hK => ?_)
          intro w69 w69b
          refine iy_i (by omega) (by omega) ?_
          refine x_nm (fun U70 hU70 => ?_)
          have e71 := up_f hU70
          refine ix_i (by omega) ?_
          intro b72 b72b
          have e73 : U70 297 0 k = T 297 0 k := (up_k hU70 (by exact Nat.ne_of_beq_eq_false rfl) 0 k).trans ((up_k hU12 (by exact Nat.ne_of_beq_eq_false rfl) 0 k).trans (hf_43 297 0 k rfl))
          rw [e73] at b72 b72b ⊢
          refine ix_i (by omega) ?_
          intro b74 b74b
          have e75 : U70 233 0 (T 297 0 k) = T 233 0 (T 297 0 k) := (up_k hU70 (by exact Nat.ne_of_beq_eq_false rfl) 0 (T 297 0 k)).trans ((up_k hU12 (by exact Nat.ne_of_beq_eq_false rfl) 0 (T 297 0 k)).trans (hf_43 233 0 (T 297 0 k) rfl))
          rw [e75] at b74 b74b ⊢
          refine ix_i (by omega) ?_
          intro b76 b76b
          refine And.intro (fun c77 => ?_) (fun c77 => ?_)
          · refine hK 148 _ [vI c, vR 111 0, vI (U70 293 0 (T 233 0 (T 297 0 k))), vI (T 233 0 (T 297 0 k)), vR 293 0] U70 ?_
            refine j_blx (F := fX11) tb_X11 (nn_ _) bk_X11_isRowWell_148 bs_X11_isRowWell_148 hz (fun K hK => ?_)
            refine And.intro (fun c78 => ?_) (fun c78 => ?_)
            · refine hK 158 _ [vI c, vR 111 0, vI (U70 293 0 (T 233 0 (T 297 0 k))), vI (T 233 0 (T 297 0 k)), vR 293 0] U70 ?_
              refine j_blx (F := fX11) tb_X11 (nn_ _) bk_X11_isRowWell_158 bs_X11_isRowWell_158 hz (fun K hK => ?_)
              refine hK 159 _ [vI 1, vI c, vR 111 0, vI (U70 293 0 (T 233 0 (T 297 0 k))), vI (T 233 0 (T 297 0 k)), vR 293 0] U70 ?_
              refine j_callV (y := yX11_rule0) (Yc := zX11_rule0) (rest := [vI (U70 293 0 (T 233 0 (T 297 0 k))), vI (T 233 0 (T 297 0 k)), vR 293 0]) [vI c, vI 1] (ct_X11_rule0 (T := U70) (by omega) (by omega)) cl_X11_321 (qd_c (by decide +kernel)) (nn_ _) rfl (rf_of rfl) (Nat.le_of_ble_eq_true rfl) (Nat.le_of_ble_eq_true rfl) (Nat.le_of_ble_eq_true rfl) rfl ?_
              rintro _ _ ⟨rfl, rfl⟩
              have e79 : U70 205 0 (23 * c + 1) = T 205 0 (23 * c + 1) := (up_k hU70 (by exact Nat.ne_of_beq_eq_false rfl) 0 (23 * c + 1)).trans ((up_k hU12 (by exact Nat.ne_of_beq_eq_false rfl) 0 (23 * c + 1)).trans (hf_43 205 0 (23 * c + 1) rfl))
              show J_ zX11_isRowWell T (po_X11_isRowWell T c n r) 0 0 162 _ [vI (U70 205 0 (23 * c + 1)), vI (U70 293 0 (T 233 0 (T 297 0 k))), vI (T 233 0 (T 297 0 k)), vR 293 0] U70
              refine j_blx (F := fX11) tb_X11 (nn_ _) bk_X11_isRowWell_162 bs_X11_isRowWell_162 hz (fun K hK => ?_)
              intro w80 w80b
              refine iy_i (by omega) (by omega) ?_
              refine x_nm (fun U81 hU81 => ?_)
              have e82 := up_f hU81
              refine rg_i (by omega) ?_
              refine hK 43 [some (vR 111 0), some (vI c), some (vI n), some (vI r), some (vI (re / 3)), some (vI (k + (-1))), some (vI (re % 3))] [] U81 ?_
              refine j_drop [some (vR 111 0), some (vI c), some (vI n), some (vI r), some (vI (re / 3)), some (vI (k + (-1))), none] (fun k v hk => ?_) rfl ?_
              · match k, hk with
                | 0, hk => exact hk
                | 1, hk => exact hk
                | 2, hk => exact hk
                | 3, hk => exact hk
                | 4, hk => exact hk
                | 5, hk => exact hk
                | 6, hk => cases hk
                | k + 7, hk => cases hk
              refine ih_43 _ ?_ (re / 3) (k + (-1)) U81 (Nat.le_refl _) ?_ ?_
              · have hm_43 := hm_43 (); omega
              · exact fr_u (fr_u (fr_u (fr_t (fr_0 _ _) (fr_s hf_43 rfl)) hU12 rfl) hU70 rfl) hU81 rfl
              · omega
            · refine hK 159 [some (vR 111 0), some (vI c), some (vI n), some (vI r), some (vI (re / 3)), some (vI k), some (vI (re % 3))] [vI 2, vI c, vR 111 0, vI (U70 293 0 (T 233 0 (T 297 0 k))), vI (T 233 0 (T 297 0 k)), vR 293 0] U70 ?_
              refine j_callV (y := yX11_rule0) (Yc := zX11_rule0) (rest := [vI (U70 293 0 (T 233 0 (T 297 0 k))), vI (T 233 0 (T 297 0 k)), vR 293 0]) [vI c, vI 2] (ct_X11_rule0 (T := U70) (by omega) (by omega)) cl_X11_321 (qd_c (by decide +kernel)) (nn_ _) rfl (rf_of rfl) (Nat.le_of_ble_eq_true rfl) (Nat.le_of_ble_eq_true rfl) (Nat.le_of_ble_eq_true rfl) rfl ?_
              rintro _ _ ⟨rfl, rfl⟩
              have e83 : U70 205 0 (23 * c + 2) = T 205 0 (23 * c + 2) := (up_k hU70 (by exact Nat.ne_of_beq_eq_false rfl) 0 (23 * c + 2)).trans ((up_k hU12 (by exact Nat.ne_of_beq_eq_false rfl) 0 (23 * c + 2)).trans (hf_43 205 0 (23 * c + 2) rfl))
              show J_ zX11_isRowWell T (po_X11_isRowWell T c n r) 0 0 162 _ [vI (U70 205 0 (23 * c + 2)), vI (U70 293 0 (T 233 0 (T 297 0 k))), vI (T 233 0 (T 297 0 k)), vR 293 0] U70
              refine j_blx (F := fX11) tb_X11 (nn_ _) bk_X11_isRowWell_162 bs_X11_isRowWell_162 hz (fun K hK => ?_)
              intro w84 w84b
              refine iy_i (by omega) (by omega) ?_
              refine x_nm (fun U85 hU85 => ?_)
              have e86 := up_f hU85
              refine rg_i (by omega) ?_
              refine hK 43 [some (vR 111 0), some (vI c), some (vI n), some (vI r), some (vI (re / 3)), some (vI (k + (-1))), some (vI (re % 3))] [] U85 ?_
              refine j_drop [some (vR 111 0), some (vI c), some (vI n), some (vI r), some (vI (re / 3)), some (vI (k + (-1))), none] (fun k v hk => ?_) rfl ?_
              · match k, hk with
                | 0, hk => exact hk
                | 1, hk => exact hk
                | 2, hk => exact hk
                | 3, hk => exact hk
                | 4, hk => exact hk
                | 5, hk => exact hk
                | 6, hk => cases hk
                | k + 7, hk => cases hk
              refine ih_43 _ ?_ (re / 3) (k + (-1)) U85 (Nat.le_refl _) ?_ ?_
              · have hm_43 := hm_43 (); omega
              · exact fr_u (fr_u (fr_u (fr_t (fr_0 _ _) (fr_s hf_43 rfl)) hU12 rfl) hU70 rfl) hU85 rfl
              · omega
          · refine hK 159 _ [vI 3, vI c, vR 111 0, vI (U70 293 0 (T 233 0 (T 297 0 k))), vI (T 233 0 (T 297 0 k)), vR 293 0] U70 ?_
            refine j_callV (y := yX11_rule0) (Yc := zX11_rule0) (rest := [vI (U70 293 0 (T 233 0 (T 297 0 k))), vI (T 233 0 (T 297 0 k)), vR 293 0]) [vI c, vI 3] (ct_X11_rule0 (T := U70) (by omega) (by omega)) cl_X11_321 (qd_c (by decide +kernel)) (nn_ _) rfl (rf_of rfl) (Nat.le_of_ble_eq_true rfl) (Nat.le_of_ble_eq_true rfl) (Nat.le_of_ble_eq_true rfl) rfl ?_
            rintro _ _ ⟨rfl, rfl⟩
            have e87 : U70 205 0 (23 * c + 3) = T 205 0 (23 * c + 3) := (up_k hU70 (by exact Nat.ne_of_beq_eq_false rfl) 0 (23 * c + 3)).trans ((up_k hU12 (by exact Nat.ne_of_beq_eq_false rfl) 0 (23 * c + 3)).trans (hf_43 205 0 (23 * c + 3) rfl))
            show J_ zX11_isRowWell T (po_X11_isRowWell T c n r) 0 0 162 _ [vI (U70 205 0 (23 * c + 3)), vI (U70 293 0 (T 233 0 (T 297 0 k))), vI (T 233 0 (T 297 0 k)), vR 293 0] U70
            refine j_blx (F := fX11) tb_X11 (nn_ _) bk_X11_isRowWell_162 bs_X11_isRowWell_162 hz (fun K hK => ?_)
            intro w88 w88b
            refine iy_i (by omega) (by omega) ?_
            refine x_nm (fun U89 hU89 => ?_)
            have e90 := up_f hU89
            refine rg_i (by omega) ?_
            refine hK 43 [some (vR 111 0), some (vI c), some (vI n), some (vI r), some (vI (re / 3)), some (vI (k + (-1))), some (vI (re % 3))] [] U89 ?_
            refine j_drop [some (vR 111 0), some (vI c), some (vI n), some (vI r), some (vI (re / 3)), some (vI (k + (-1))), none] (fun k v hk => ?_) rfl ?_
            · match k, hk with
              | 0, hk => exact hk
              | 1, hk => exact hk
              | 2, hk => exact hk
              | 3, hk => exact hk
              | 4, hk => exact hk
              | 5, hk => exact hk
              | 6, hk => cases hk
              | k + 7, hk => cases hk
            refine ih_43 _ ?_ (re / 3) (k + (-1)) U89 (Nat.le_refl _) ?_ ?_
            · have hm_43 := hm_43 (); omega
            · exact fr_u (fr_u (fr_u (fr_t (fr_0 _ _) (fr_s hf_43 rfl)) hU12 rfl) hU70 rfl) hU89 rfl
            · omega
  have c_3 : ∀ (nn : Nat) (k : Int) (T1 : Zt), ((12 - k).toNat) ≤ nn → (fr_ [(293, [])] T T1) → (0 ≤ k ∧ k ≤ 12) → J_ zX11_isRowWell T (po_X11_isRowWell T c n r) 0 0 3 [some (vR 111 0), some (vI c), some (vI n), some (vI r), some (vI k), none, none] [] T1 := by
    intro nn
    induction nn using Nat.strongRecOn with
    | _ nn ih_3 =>
      intro k T1 hm_3 hf_3 i1
      replace hm_3 := fun (_ : Unit) => hm_3
      refine j_blx (F := fX11) tb_X11 (nn_ _) bk_X11_isRowWell_3 bs_X11_isRowWell_3 hz (fun K hK => ?_)
      refine And.intro (fun c91 => ?_) (fun c91 => ?_)
      · refine hK 35 _ [] T1 ?_
        refine j_blx (F := fX11) tb_X11 (nn_ _) bk_X11_isRowWell_35 bs_X11_isRowWell_35 hz (fun K hK => ?_)
        refine rg_i (by omega) ?_
        refine hK 43 [some (vR 111 0), some (vI c), some (vI n), some (vI r), some (vI r), some (vI (n - 1)), none] [] T1 ?_
        refine c_43 _ r (n - 1) T1 (Nat.le_refl _) ?_ ?_
        · exact fr_t (fr_0 _ _) (fr_s hf_3 rfl)
        · omega
      · intro b92 b92b
        have e93 : T1 111 0 95 = T 111 0 95 := hf_3 111 0 95 rfl
        rw [e93] at b92 b92b ⊢
        refine ix_i (by omega) ?_
        intro b94 b94b
        have e95 : T1 291 0 k = T 291 0 k := hf_3 291 0 k rfl
        rw [e95] at b94 b94b ⊢
        intro w96 w96b
        refine iy_i (by omega) (by omega) ?_
        refine x_nm (fun U97 hU97 => ?_)
        have e98 := up_f hU97
        refine rg_i (by omega) ?_
        refine hK 3 [some (vR 111 0), some (vI c), some (vI n), some (vI r), some (vI (k + 1)), none, none] [] U97 ?_
        refine ih_3 _ ?_ (k + 1) U97 (Nat.le_refl _) ?_ ?_
        · have hm_3 := hm_3 (); omega
        · exact fr_u (fr_t (fr_0 _ _) (fr_s hf_3 rfl)) hU97 rfl
        · omega
  refine j_blx (F := fX11) tb_X11 (nn_ _) bk_X11_isRowWell_0 bs_X11_isRowWell_0 hz (fun K hK => ?_)
  refine hK 3 [some (vR 111 0), some (vI c), some (vI n), some (vI r), some (vI 0), none, none] [] T ?_
  refine c_3 _ 0 T (Nat.le_refl _) ?_ ?_
  · exact fr_0 _ _
  · omega
