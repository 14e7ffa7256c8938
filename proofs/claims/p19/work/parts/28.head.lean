abbrev cX11_tellAll : ByteArray := prog_13_method_84_code
def yX11_tellAll : MethodName := ⟨RX11, "tellAll", "(II)V"⟩
def zX11_tellAll : Zm := (RX11, cX11_tellAll, 4, none, { frames := 2, cells := 0, slots := 0, locals := 47 })
theorem bk_X11_tellAll_190 : ck_ fX11 none cX11_tellAll 190 [.iload 3, .aload 0, .tableswitch 0 11 24 #[], .if_icmp .ge 254, .aload 0, .tableswitch 0 11 76 #[], .iconst 9, .aload 0, .tableswitch 0 11 26 #[], .iload 3, .iaload, .imul, .iconst 6, .iadd, .dup2, .iaload, .aload 0, .tableswitch 0 11 25 #[], .iload 3, .iaload, .iload 1, .if_icmp .ne 245, .aload 0, .tableswitch 0 11 28 #[], .iload 3, .iaload, .iload 2, .if_icmp .gt 245, .aload 0, .tableswitch 0 11 27 #[], .iload 3, .iaload, .goto 246] 245 = true := qck_r (nn_ _) (by decide +kernel)
theorem bs_X11_tellAll_190 {P : Zt → Option Zv → Prop} (K : Int → Zl → List Zv → Zt → Prop) : sx_ K P [.iload 3, .aload 0, .tableswitch 0 11 24 #[], .if_icmp .ge 254, .aload 0, .tableswitch 0 11 76 #[], .iconst 9, .aload 0, .tableswitch 0 11 26 #[], .iload 3, .iaload, .imul, .iconst 6, .iadd, .dup2, .iaload, .aload 0, .tableswitch 0 11 25 #[], .iload 3, .iaload, .iload 1, .if_icmp .ne 245, .aload 0, .tableswitch 0 11 28 #[], .iload 3, .iaload, .iload 2, .if_icmp .gt 245, .aload 0, .tableswitch 0 11 27 #[], .iload 3, .iaload, .goto 246] 245 = x_iload 3 (x_aload 0 (x_g0 111 24 0 50 (x_if_icmp .ge 254 K (x_aload 0 (x_g1 111 276 (x_iconst 9 (x_aload 0 (x_g1 111 226 (x_iload 3 (x_iaload (x_imul (x_iconst 6 (x_iadd (x_dup2 (x_iaload (x_aload 0 (x_g1 111 225 (x_iload 3 (x_iaload (x_iload 1 (x_if_icmp .ne 245 K (x_aload 0 (x_g1 111 228 (x_iload 3 (x_iaload (x_iload 2 (x_if_icmp .gt 245 K (x_aload 0 (x_g1 111 227 (x_iload 3 (x_iaload (x_goto 246 K)))))))))))))))))))))))))))))))) := ((xe_iload 3).trans (congrArg (x_iload 3) ((xe_aload 0).trans (congrArg (x_aload 0) ((xe_g0 (kk := 111) rfl tl_11_24).trans (congrArg (x_g0 111 24 0 50) ((xe_if_icmp .ge 254).trans (congrArg (x_if_icmp .ge 254 K) ((xe_aload 0).trans (congrArg (x_aload 0) ((xe_g1 (kk := 111) rfl tl_11_76).trans (congrArg (x_g1 111 276) ((xe_iconst 9).trans (congrArg (x_iconst 9) ((xe_aload 0).trans (congrArg (x_aload 0) ((xe_g1 (kk := 111) rfl tl_11_26).trans (congrArg (x_g1 111 226) ((xe_iload 3).trans (congrArg (x_iload 3) ((xe_iaload).trans (congrArg (x_iaload) ((xe_imul).trans (congrArg (x_imul) ((xe_iconst 6).trans (congrArg (x_iconst 6) ((xe_iadd).trans (congrArg (x_iadd) ((xe_dup2).trans (congrArg (x_dup2) ((xe_iaload).trans (congrArg (x_iaload) ((xe_aload 0).trans (congrArg (x_aload 0) ((xe_g1 (kk := 111) rfl tl_11_25).trans (congrArg (x_g1 111 225) ((xe_iload 3).trans (congrArg (x_iload 3) ((xe_iaload).trans (congrArg (x_iaload) ((xe_iload 1).trans (congrArg (x_iload 1) ((xe_if_icmp .ne 245).trans (congrArg (x_if_icmp .ne 245 K) ((xe_aload 0).trans (congrArg (x_aload 0) ((xe_g1 (kk := 111) rfl tl_11_28).trans (congrArg (x_g1 111 228) ((xe_iload 3).trans (congrArg (x_iload 3) ((xe_iaload).trans (congrArg (x_iaload) ((xe_iload 2).trans (congrArg (x_iload 2) ((xe_if_icmp .gt 245).trans (congrArg (x_if_icmp .gt 245 K) ((xe_aload 0).trans (congrArg (x_aload 0) ((xe_g1 (kk := 111) rfl tl_11_27).trans (congrArg (x_g1 111 227) ((xe_iload 3).trans (congrArg (x_iload 3) ((xe_iaload).trans (congrArg (x_iaload) (xe_goto 246)))))))))))))))))))))))))))))))))))))))))))))))))))))))))))))))))
theorem bk_X11_tellAll_254 : ck_ fX11 none cX11_tellAll 254 [.return_] 255 = true := qck_r (nn_ _) (by decide +kernel)
theorem bs_X11_tellAll_254 {P : Zt → Option Zv → Prop} (K : Int → Zl → List Zv → Zt → Prop) : sx_ K P [.return_] 255 = x_return_ P := (xe_return_)
theorem bk_X11_tellAll_245 : ck_ fX11 none cX11_tellAll 245 [.iconst 0, .isub, .iastore, .iinc 3 1, .goto 190] 254 = true := qck_r (nn_ _) (by decide +kernel)
theorem bs_X11_tellAll_245 {P : Zt → Option Zv → Prop} (K : Int → Zl → List Zv → Zt → Prop) : sx_ K P [.iconst 0, .isub, .iastore, .iinc 3 1, .goto 190] 254 = x_iconst 0 (x_isub (x_iastore (x_iinc 3 1 (x_goto 190 K)))) := ((xe_iconst 0).trans (congrArg (x_iconst 0) ((xe_isub).trans (congrArg (x_isub) ((xe_iastore).trans (congrArg (x_iastore) ((xe_iinc 3 1).trans (congrArg (x_iinc 3 1) (xe_goto 190)))))))))
theorem bk_X11_tellAll_246 : ck_ fX11 none cX11_tellAll 246 [.isub, .iastore, .iinc 3 1, .goto 190] 254 = true := qck_r (nn_ _) (by decide +kernel)
theorem bs_X11_tellAll_246 {P : Zt → Option Zv → Prop} (K : Int → Zl → List Zv → Zt → Prop) : sx_ K P [.isub, .iastore, .iinc 3 1, .goto 190] 254 = x_isub (x_iastore (x_iinc 3 1 (x_goto 190 K))) := ((xe_isub).trans (congrArg (x_isub) ((xe_iastore).trans (congrArg (x_iastore) ((xe_iinc 3 1).trans (congrArg (x_iinc 3 1) (xe_goto 190)))))))
theorem bk_X11_tellAll_182 : ck_ fX11 none cX11_tellAll 182 [.iinc 3 1, .goto 28] 188 = true := qck_r (nn_ _) (by decide +kernel)
theorem bs_X11_tellAll_182 {P : Zt → Option Zv → Prop} (K : Int → Zl → List Zv → Zt → Prop) : sx_ K P [.iinc 3 1, .goto 28] 188 = x_iinc 3 1 (x_goto 28 K) := ((xe_iinc 3 1).trans (congrArg (x_iinc 3 1) (xe_goto 28)))
theorem bk_X11_tellAll_28 : ck_ fX11 none cX11_tellAll 28 [.iload 3, .aload 0, .tableswitch 0 11 10 #[], .iload 1, .iaload, .aload 0, .tableswitch 0 11 11 #[], .iload 1, .iaload, .iadd, .if_icmp .ge 188, .aload 0, .iload 3, .iload 2] 48 = true := qck_r (nn_ _) (by decide +kernel)
theorem bs_X11_tellAll_28 {P : Zt → Option Zv → Prop} (K : Int → Zl → List Zv → Zt → Prop) : sx_ K P [.iload 3, .aload 0, .tableswitch 0 11 10 #[], .iload 1, .iaload, .aload 0, .tableswitch 0 11 11 #[], .iload 1, .iaload, .iadd, .if_icmp .ge 188, .aload 0, .iload 3, .iload 2] 48 = x_iload 3 (x_aload 0 (x_g1 111 210 (x_iload 1 (x_iaload (x_aload 0 (x_g1 111 211 (x_iload 1 (x_iaload (x_iadd (x_if_icmp .ge 188 K (x_aload 0 (x_iload 3 (x_iload 2 (K 48)))))))))))))) := ((xe_iload 3).trans (congrArg (x_iload 3) ((xe_aload 0).trans (congrArg (x_aload 0) ((xe_g1 (kk := 111) rfl tl_11_10).trans (congrArg (x_g1 111 210) ((xe_iload 1).trans (congrArg (x_iload 1) ((xe_iaload).trans (congrArg (x_iaload) ((xe_aload 0).trans (congrArg (x_aload 0) ((xe_g1 (kk := 111) rfl tl_11_11).trans (congrArg (x_g1 111 211) ((xe_iload 1).trans (congrArg (x_iload 1) ((xe_iaload).trans (congrArg (x_iaload) ((xe_iadd).trans (congrArg (x_iadd) ((xe_if_icmp .ge 188).trans (congrArg (x_if_icmp .ge 188 K) ((xe_aload 0).trans (congrArg (x_aload 0) ((xe_iload 3).trans (congrArg (x_iload 3) ((xe_iload 2).trans (congrArg (x_iload 2) xe_nil))))))))))))))))))))))))))))
theorem bk_X11_tellAll_188 : ck_ fX11 none cX11_tellAll 188 [.iconst 0, .istore 3] 190 = true := qck_r (nn_ _) (by decide +kernel)
theorem bs_X11_tellAll_188 {P : Zt → Option Zv → Prop} (K : Int → Zl → List Zv → Zt → Prop) : sx_ K P [.iconst 0, .istore 3] 190 = x_iconst 0 (x_istore 3 (K 190)) := ((xe_iconst 0).trans (congrArg (x_iconst 0) ((xe_istore 3).trans (congrArg (x_istore 3) xe_nil))))
set_option maxRecDepth 100000 in
theorem cl_X11_487 : cv_ RX11 487 yX11_counts zX11_counts 11 2 := ⟨gi_V (lwq_9 (dqc_m (dqc_m (dqc_m (dqc_m (dqc_m (dqa_m (List.mem_of_getElem? (i := 2) rfl))))))) rfl : Cond.methodLink RX11 487 yX11_counts ∈ lw_g) (lwq_9 (dqc_m (dqc_m (dqc_m (dqc_m (dqc_m (dqa_m (List.mem_of_getElem? (i := 4) rfl))))))) rfl : Cond.instanceMethod yX11_counts ∈ lw_g) (lw_sel 15 rfl : Cond.selects yX11_counts.cls yX11_counts yX11_counts ∈ lw_g) (lwq_1 (dqa_m (List.mem_of_getElem? (i := 2) rfl)) rfl : Cond.initialized yX11_counts.cls ∈ lw_g) (lwq_9 (dqc_m (dqc_m (dqc_m (dqc_m (dqc_m (dqa_m (List.mem_of_getElem? (i := 5) rfl))))))) rfl : Cond.code yX11_counts cX11_counts 3 (some .boolean) ∈ lw_g), ⟨nmh_1.1, nmh_1.2, pdq_5⟩, ⟨_, _, rfl⟩⟩
theorem bk_X11_tellAll_51 : ck_ fX11 none cX11_tellAll 51 [.ifCond .eq 182, .aload 0, .iload 1, .aload 0, .tableswitch 0 11 32 #[], .iload 3, .iaload, .aload 0, .tableswitch 0 11 82 #[], .aload 0, .tableswitch 0 11 83 #[]] 70 = true := qck_r (nn_ _) (by decide +kernel)
theorem bs_X11_tellAll_51 {P : Zt → Option Zv → Prop} (K : Int → Zl → List Zv → Zt → Prop) : sx_ K P [.ifCond .eq 182, .aload 0, .iload 1, .aload 0, .tableswitch 0 11 32 #[], .iload 3, .iaload, .aload 0, .tableswitch 0 11 82 #[], .aload 0, .tableswitch 0 11 83 #[]] 70 = x_ifCond .eq 182 K (x_aload 0 (x_iload 1 (x_aload 0 (x_g1 111 232 (x_iload 3 (x_iaload (x_aload 0 (x_g0 111 82 (-2147483648) 2147483647 (x_aload 0 (x_g0 111 83 (-2147483648) 2147483647 (K 70))))))))))) := ((xe_ifCond .eq 182).trans (congrArg (x_ifCond .eq 182 K) ((xe_aload 0).trans (congrArg (x_aload 0) ((xe_iload 1).trans (congrArg (x_iload 1) ((xe_aload 0).trans (congrArg (x_aload 0) ((xe_g1 (kk := 111) rfl tl_11_32).trans (congrArg (x_g1 111 232) ((xe_iload 3).trans (congrArg (x_iload 3) ((xe_iaload).trans (congrArg (x_iaload) ((xe_aload 0).trans (congrArg (x_aload 0) ((xe_g0 (kk := 111) rfl tl_11_82).trans (congrArg (x_g0 111 82 (-2147483648) 2147483647) ((xe_aload 0).trans (congrArg (x_aload 0) ((xe_g0 (kk := 111) rfl tl_11_83).trans (congrArg (x_g0 111 83 (-2147483648) 2147483647) xe_nil))))))))))))))))))))))
set_option maxRecDepth 100000 in
theorem cl_X11_490 : cv_ RX11 490 yX11_tellResult zX11_tellResult 11 4 := ⟨gi_V (lwq_9 (dqc_m (dqc_m (dqc_m (dqc_m (dqc_m (dqa_m (List.mem_of_getElem? (i := 6) rfl))))))) rfl : Cond.methodLink RX11 490 yX11_tellResult ∈ lw_g) (lwq_9 (dqc_m (dqc_m (dqc_m (dqc_m (dqc_m (dqa_m (dqa_m (List.mem_of_getElem? (i := 0) rfl)))))))) rfl : Cond.instanceMethod yX11_tellResult ∈ lw_g) (lw_sel 75 rfl : Cond.selects yX11_tellResult.cls yX11_tellResult yX11_tellResult ∈ lw_g) (lwq_1 (dqa_m (List.mem_of_getElem? (i := 2) rfl)) rfl : Cond.initialized yX11_tellResult.cls ∈ lw_g) (lwq_9 (dqc_m (dqc_m (dqc_m (dqc_m (dqc_m (dqa_m (dqa_m (List.mem_of_getElem? (i := 1) rfl)))))))) rfl : Cond.code yX11_tellResult cX11_tellResult 6 none ∈ lw_g), ⟨nmh_1.1, nmh_1.2, pdq_12⟩, ⟨_, _, rfl⟩⟩
theorem bk_X11_tellAll_73 : ck_ fX11 none cX11_tellAll 73 [.aload 0, .iload 1, .aload 0, .tableswitch 0 11 33 #[], .iload 3, .iaload, .aload 0, .tableswitch 0 11 83 #[], .aload 0, .tableswitch 0 11 82 #[]] 89 = true := qck_r (nn_ _) (by decide +kernel)
theorem bs_X11_tellAll_73 {P : Zt → Option Zv → Prop} (K : Int → Zl → List Zv → Zt → Prop) : sx_ K P [.aload 0, .iload 1, .aload 0, .tableswitch 0 11 33 #[], .iload 3, .iaload, .aload 0, .tableswitch 0 11 83 #[], .aload 0, .tableswitch 0 11 82 #[]] 89 = x_aload 0 (x_iload 1 (x_aload 0 (x_g1 111 233 (x_iload 3 (x_iaload (x_aload 0 (x_g0 111 83 (-2147483648) 2147483647 (x_aload 0 (x_g0 111 82 (-2147483648) 2147483647 (K 89)))))))))) := ((xe_aload 0).trans (congrArg (x_aload 0) ((xe_iload 1).trans (congrArg (x_iload 1) ((xe_aload 0).trans (congrArg (x_aload 0) ((xe_g1 (kk := 111) rfl tl_11_33).trans (congrArg (x_g1 111 233) ((xe_iload 3).trans (congrArg (x_iload 3) ((xe_iaload).trans (congrArg (x_iaload) ((xe_aload 0).trans (congrArg (x_aload 0) ((xe_g0 (kk := 111) rfl tl_11_83).trans (congrArg (x_g0 111 83 (-2147483648) 2147483647) ((xe_aload 0).trans (congrArg (x_aload 0) ((xe_g0 (kk := 111) rfl tl_11_82).trans (congrArg (x_g0 111 82 (-2147483648) 2147483647) xe_nil))))))))))))))))))))
theorem bk_X11_tellAll_92 : ck_ fX11 none cX11_tellAll 92 [.aload 0, .tableswitch 0 11 76 #[], .iconst 9, .aload 0, .tableswitch 0 11 33 #[], .iload 3, .iaload, .imul, .iconst 7, .iadd, .dup2, .iaload, .aload 0, .tableswitch 0 11 83 #[], .iadd, .iastore, .aload 0, .tableswitch 0 11 35 #[], .iload 3, .iaload, .iconst 2, .if_icmp .ne 182, .aload 0, .tableswitch 0 11 76 #[], .iconst 9, .aload 0, .tableswitch 0 11 32 #[], .iload 3, .iaload, .imul, .iconst 8, .iadd, .dup2, .iaload, .aload 0, .iconst 2, .iload 3, .imul] 148 = true := qck_r (nn_ _) (by decide +kernel)
theorem bs_X11_tellAll_92 {P : Zt → Option Zv → Prop} (K : Int → Zl → List Zv → Zt → Prop) : sx_ K P [.aload 0, .tableswitch 0 11 76 #[], .iconst 9, .aload 0, .tableswitch 0 11 33 #[], .iload 3, .iaload, .imul, .iconst 7, .iadd, .dup2, .iaload, .aload 0, .tableswitch 0 11 83 #[], .iadd, .iastore, .aload 0, .tableswitch 0 11 35 #[], .iload 3, .iaload, .iconst 2, .if_icmp .ne 182, .aload 0, .tableswitch 0 11 76 #[], .iconst 9, .aload 0, .tableswitch 0 11 32 #[], .iload 3, .iaload, .imul, .iconst 8, .iadd, .dup2, .iaload, .aload 0, .iconst 2, .iload 3, .imul] 148 = x_aload 0 (x_g1 111 276 (x_iconst 9 (x_aload 0 (x_g1 111 233 (x_iload 3 (x_iaload (x_imul (x_iconst 7 (x_iadd (x_dup2 (x_iaload (x_aload 0 (x_g0 111 83 (-2147483648) 2147483647 (x_iadd (x_iastore (x_aload 0 (x_g1 111 235 (x_iload 3 (x_iaload (x_iconst 2 (x_if_icmp .ne 182 K (x_aload 0 (x_g1 111 276 (x_iconst 9 (x_aload 0 (x_g1 111 232 (x_iload 3 (x_iaload (x_imul (x_iconst 8 (x_iadd (x_dup2 (x_iaload (x_aload 0 (x_iconst 2 (x_iload 3 (x_imul (K 148)))))))))))))))))))))))))))))))))))))) := ((xe_aload 0).trans (congrArg (x_aload 0) ((xe_g1 (kk := 111) rfl tl_11_76).trans (congrArg (x_g1 111 276) ((xe_iconst 9).trans (congrArg (x_iconst 9) ((xe_aload 0).trans (congrArg (x_aload 0) ((xe_g1 (kk := 111) rfl tl_11_33).trans (congrArg (x_g1 111 233) ((xe_iload 3).trans (congrArg (x_iload 3) ((xe_iaload).trans (congrArg (x_iaload) ((xe_imul).trans (congrArg (x_imul) ((xe_iconst 7).trans (congrArg (x_iconst 7) ((xe_iadd).trans (congrArg (x_iadd) ((xe_dup2).trans (congrArg (x_dup2) ((xe_iaload).trans (congrArg (x_iaload) ((xe_aload 0).trans (congrArg (x_aload 0) ((xe_g0 (kk := 111) rfl tl_11_83).trans (congrArg (x_g0 111 83 (-2147483648) 2147483647) ((xe_iadd).trans (congrArg (x_iadd) ((xe_iastore).trans (congrArg (x_iastore) ((xe_aload 0).trans (congrArg (x_aload 0) ((xe_g1 (kk := 111) rfl tl_11_35).trans (congrArg (x_g1 111 235) ((xe_iload 3).trans (congrArg (x_iload 3) ((xe_iaload).trans (congrArg (x_iaload) ((xe_iconst 2).trans (congrArg (x_iconst 2) ((xe_if_icmp .ne 182).trans (congrArg (x_if_icmp .ne 182 K) ((xe_aload 0).trans (congrArg (x_aload 0) ((xe_g1 (kk := 111) rfl tl_11_76).trans (congrArg (x_g1 111 276) ((xe_iconst 9).trans (congrArg (x_iconst 9) ((xe_aload 0).trans (congrArg (x_aload 0) ((xe_g1 (kk := 111) rfl tl_11_32).trans (congrArg (x_g1 111 232) ((xe_iload 3).trans (congrArg (x_iload 3) ((xe_iaload).trans (congrArg (x_iaload) ((xe_imul).trans (congrArg (x_imul) ((xe_iconst 8).trans (congrArg (x_iconst 8) ((xe_iadd).trans (congrArg (x_iadd) ((xe_dup2).trans (congrArg (x_dup2) ((xe_iaload).trans (congrArg (x_iaload) ((xe_aload 0).trans (congrArg (x_aload 0) ((xe_iconst 2).trans (congrArg (x_iconst 2) ((xe_iload 3).trans (congrArg (x_iload 3) ((xe_imul).trans (congrArg (x_imul) xe_nil))))))))))))))))))))))))))))))))))))))))))))))))))))))))))))))))))))))))))))
set_option maxRecDepth 100000 in
theorem cl_X11_493 : cv_ RX11 493 yX11_fairOf zX11_fairOf 11 1 := ⟨gi_V (lwq_9 (dqc_m (dqc_m (dqc_m (dqc_m (dqc_m (dqa_m (dqa_m (List.mem_of_getElem? (i := 2) rfl)))))))) rfl : Cond.methodLink RX11 493 yX11_fairOf ∈ lw_g) (lwq_9 (dqc_m (dqc_m (dqc_m (dqc_m (dqc_m (dqa_m (dqa_m (List.mem_of_getElem? (i := 4) rfl)))))))) rfl : Cond.instanceMethod yX11_fairOf ∈ lw_g) (lw_sel 17 rfl : Cond.selects yX11_fairOf.cls yX11_fairOf yX11_fairOf ∈ lw_g) (lwq_1 (dqa_m (List.mem_of_getElem? (i := 2) rfl)) rfl : Cond.initialized yX11_fairOf.cls ∈ lw_g) (lwq_9 (dqc_m (dqc_m (dqc_m (dqc_m (dqc_m (dqa_m (dqa_m (List.mem_of_getElem? (i := 5) rfl)))))))) rfl : Cond.code yX11_fairOf cX11_fairOf 4 (some .int) ∈ lw_g), ⟨nmh_1.1, nmh_1.2, pdq_15⟩, ⟨_, _, rfl⟩⟩
theorem bk_X11_tellAll_151 : ck_ fX11 none cX11_tellAll 151 [.iadd, .iastore, .aload 0, .tableswitch 0 11 76 #[], .iconst 9, .aload 0, .tableswitch 0 11 33 #[], .iload 3, .iaload, .imul, .iconst 8, .iadd, .dup2, .iaload, .aload 0, .iconst 2, .iload 3, .imul, .iconst 1, .iadd] 177 = true := qck_r (nn_ _) (by decide +kernel)
theorem bs_X11_tellAll_151 {P : Zt → Option Zv → Prop} (K : Int → Zl → List Zv → Zt → Prop) : sx_ K P [.iadd, .iastore, .aload 0, .tableswitch 0 11 76 #[], .iconst 9, .aload 0, .tableswitch 0 11 33 #[], .iload 3, .iaload, .imul, .iconst 8, .iadd, .dup2, .iaload, .aload 0, .iconst 2, .iload 3, .imul, .iconst 1, .iadd] 177 = x_iadd (x_iastore (x_aload 0 (x_g1 111 276 (x_iconst 9 (x_aload 0 (x_g1 111 233 (x_iload 3 (x_iaload (x_imul (x_iconst 8 (x_iadd (x_dup2 (x_iaload (x_aload 0 (x_iconst 2 (x_iload 3 (x_imul (x_iconst 1 (x_iadd (K 177)))))))))))))))))))) := ((xe_iadd).trans (congrArg (x_iadd) ((xe_iastore).trans (congrArg (x_iastore) ((xe_aload 0).trans (congrArg (x_aload 0) ((xe_g1 (kk := 111) rfl tl_11_76).trans (congrArg (x_g1 111 276) ((xe_iconst 9).trans (congrArg (x_iconst 9) ((xe_aload 0).trans (congrArg (x_aload 0) ((xe_g1 (kk := 111) rfl tl_11_33).trans (congrArg (x_g1 111 233) ((xe_iload 3).trans (congrArg (x_iload 3) ((xe_iaload).trans (congrArg (x_iaload) ((xe_imul).trans (congrArg (x_imul) ((xe_iconst 8).trans (congrArg (x_iconst 8) ((xe_iadd).trans (congrArg (x_iadd) ((xe_dup2).trans (congrArg (x_dup2) ((xe_iaload).trans (congrArg (x_iaload) ((xe_aload 0).trans (congrArg (x_aload 0) ((xe_iconst 2).trans (congrArg (x_iconst 2) ((xe_iload 3).trans (congrArg (x_iload 3) ((xe_imul).trans (congrArg (x_imul) ((xe_iconst 1).trans (congrArg (x_iconst 1) ((xe_iadd).trans (congrArg (x_iadd) xe_nil))))))))))))))))))))))))))))))))))))))))
theorem bk_X11_tellAll_180 : ck_ fX11 none cX11_tellAll 180 [.iadd, .iastore] 182 = true := qck_r (nn_ _) (by decide +kernel)
theorem bs_X11_tellAll_180 {P : Zt → Option Zv → Prop} (K : Int → Zl → List Zv → Zt → Prop) : sx_ K P [.iadd, .iastore] 182 = x_iadd (x_iastore (K 182)) := ((xe_iadd).trans (congrArg (x_iadd) ((xe_iastore).trans (congrArg (x_iastore) xe_nil))))
theorem bk_X11_tellAll_2 : ck_ fX11 none cX11_tellAll 2 [.iload 3, .iconst 108, .if_icmp .ge 21, .aload 0, .tableswitch 0 11 76 #[], .iload 3, .iconst 0, .iastore, .iinc 3 1, .goto 2] 21 = true := qck_r (nn_ _) (by decide +kernel)
theorem bs_X11_tellAll_2 {P : Zt → Option Zv → Prop} (K : Int → Zl → List Zv → Zt → Prop) : sx_ K P [.iload 3, .iconst 108, .if_icmp .ge 21, .aload 0, .tableswitch 0 11 76 #[], .iload 3, .iconst 0, .iastore, .iinc 3 1, .goto 2] 21 = x_iload 3 (x_iconst 108 (x_if_icmp .ge 21 K (x_aload 0 (x_g1 111 276 (x_iload 3 (x_iconst 0 (x_iastore (x_iinc 3 1 (x_goto 2 K))))))))) := ((xe_iload 3).trans (congrArg (x_iload 3) ((xe_iconst 108).trans (congrArg (x_iconst 108) ((xe_if_icmp .ge 21).trans (congrArg (x_if_icmp .ge 21 K) ((xe_aload 0).trans (congrArg (x_aload 0) ((xe_g1 (kk := 111) rfl tl_11_76).trans (congrArg (x_g1 111 276) ((xe_iload 3).trans (congrArg (x_iload 3) ((xe_iconst 0).trans (congrArg (x_iconst 0) ((xe_iastore).trans (congrArg (x_iastore) ((xe_iinc 3 1).trans (congrArg (x_iinc 3 1) (xe_goto 2)))))))))))))))))))
theorem bk_X11_tellAll_21 : ck_ fX11 none cX11_tellAll 21 [.aload 0, .tableswitch 0 11 10 #[], .iload 1, .iaload, .istore 3] 28 = true := qck_r (nn_ _) (by decide +kernel)
theorem bs_X11_tellAll_21 {P : Zt → Option Zv → Prop} (K : Int → Zl → List Zv → Zt → Prop) : sx_ K P [.aload 0, .tableswitch 0 11 10 #[], .iload 1, .iaload, .istore 3] 28 = x_aload 0 (x_g1 111 210 (x_iload 1 (x_iaload (x_istore 3 (K 28))))) := ((xe_aload 0).trans (congrArg (x_aload 0) ((xe_g1 (kk := 111) rfl tl_11_10).trans (congrArg (x_g1 111 210) ((xe_iload 1).trans (congrArg (x_iload 1) ((xe_iaload).trans (congrArg (x_iaload) ((xe_istore 3).trans (congrArg (x_istore 3) xe_nil))))))))))
theorem bk_X11_tellAll_0 : ck_ fX11 none cX11_tellAll 0 [.iconst 0, .istore 3] 2 = true := qck_r (nn_ _) (by decide +kernel)
theorem bs_X11_tellAll_0 {P : Zt → Option Zv → Prop} (K : Int → Zl → List Zv → Zt → Prop) : sx_ K P [.iconst 0, .istore 3] 2 = x_iconst 0 (x_istore 3 (K 2)) := ((xe_iconst 0).trans (congrArg (x_iconst 0) ((xe_istore 3).trans (congrArg (x_istore 3) xe_nil))))
abbrev po_X11_tellAll (T : Zt) (c d : Int) : Zt → Option Zv → Prop := fun T' r => r = none ∧ fr_ [(276, []), (111, [82, 83])] T T' ∧ (TB_ T' 150000000)
set_option maxHeartbeats 4000000 in
theorem ct_X11_tellAll {T : Zt} {c d : Int} (h1 : 0 ≤ c ∧ c < 4) (hml : ML_ T) (hsc : SC_ T) (hyb : YB_ T) : Ct_ yX11_tellAll zX11_tellAll T [vR 111 0, vI c, vI d] (po_X11_tellAll T c d) := by
  refine ct_of pn_11 rfl rfl (Nat.le_of_ble_eq_true rfl) (fun hT hav => ?_)
  have hr_c : -2147483648 ≤ c ∧ c ≤ 2147483647 := hav (vI c) (List.mem_cons_of_mem _ List.mem_cons_self)
  have hr_d : -2147483648 ≤ d ∧ d ≤ 2147483647 := hav (vI d) (List.mem_cons_of_mem _ (List.mem_cons_of_mem _ List.mem_cons_self))
  have hz : zX11_tellAll.2.2.2.1 = some .boolean → ∀ (T' : Zt) (x : Int), po_X11_tellAll T c d T' (some (vI x)) → 0 ≤ x ∧ x ≤ 1 := fun h => by cases h
  have hb_29 : 0 ≤ T 111 0 29 ∧ T 111 0 29 ≤ 400 := bd_f hT 111 29 tl_11_29 0
  have hb_24 : 0 ≤ T 111 0 24 ∧ T 111 0 24 ≤ 50 := bd_f hT 111 24 tl_11_24 0
  have hmc := hml c (by omega) (by omega)
  have hfo : 0 ≤ T 210 0 c ∧ T 210 0 c ≤ 400 := bd_a hT 210 (by decide +kernel : ta_ 210 = some (1, some 4, 0, 400)) 0 (by omega)
  show J_ zX11_tellAll T (po_X11_tellAll T c d) 0 0 0 [some (vR 111 0), some (vI c), some (vI d), none] [] T
  have c_190 : ∀ (nn : Nat) (i : Int) (T4 : Zt), ((50 - i).toNat) ≤ nn → (fr_ [(276, []), (111, [82, 83])] T T4) → (TB_ T4 (144800000 + 20000 * i)) → (0 ≤ i ∧ i ≤ 50) → J_ zX11_tellAll T (po_X11_tellAll T c d) 0 0 190 [some (vR 111 0), some (vI c), some (vI d), some (vI i)] [] T4 := by
    intro nn
    induction nn using Nat.strongRecOn with
    | _ nn ih_190 =>
      intro i T4 hm_190 hf_190 tb4 i4
      replace hm_190 := fun (_ : Unit) => hm_190
      refine j_blx (F := fX11) tb_X11 (nn_ _) bk_X11_tellAll_190 bs_X11_tellAll_190 hz (fun K hK => ?_)
      intro b1 b1b
      have e2 : T4 111 0 24 = T 111 0 24 := hf_190 111 0 24 rfl
      rw [e2] at b1 b1b ⊢
      refine And.intro (fun c3 => ?_) (fun c3 => ?_)
      · refine hK 254 _ [] T4 ?_
        refine j_blx (F := fX11) tb_X11 (nn_ _) bk_X11_tellAll_254 bs_X11_tellAll_254 hz (fun K hK => ?_)
        refine (show po_X11_tellAll T c d T4 (none) from ?_)
        exact ⟨rfl, fr_t (fr_0 _ _) (fr_s hf_190 rfl), tb_m tb4 (by omega)⟩
      · refine ix_i (by omega) ?_
        intro b4 b4b
        have e5 : T4 226 0 i = T 226 0 i := hf_190 226 0 i rfl
        rw [e5] at b4 b4b ⊢
        refine rg_i (by omega) ?_
        refine rg_i (by omega) ?_
        refine ix_i (by omega) ?_
        intro b6 b6b
        refine ix_i (by omega) ?_
        intro b7 b7b
        have e8 : T4 225 0 i = T 225 0 i := hf_190 225 0 i rfl
        rw [e8] at b7 b7b ⊢
        refine And.intro (fun c9 => ?_) (fun c9 => ?_)
        · refine hK 245 _ [vI (T4 276 0 ((9 * (T 226 0 i)) + 6)), vI ((9 * (T 226 0 i)) + 6), vR 276 0] T4 ?_
          refine j_blx (F := fX11) tb_X11 (nn_ _) bk_X11_tellAll_245 bs_X11_tellAll_245 hz (fun K hK => ?_)
          have t10 : -(144800000 + 20000 * i) ≤ T4 276 0 ((9 * (T 226 0 i)) + 6) ∧ T4 276 0 ((9 * (T 226 0 i)) + 6) ≤ 144800000 + 20000 * i ∧ (((9 * (T 226 0 i)) + 6) % 9 = 6 → -(144800000 + 20000 * i) ≤ 20 * (T4 276 0 ((9 * (T 226 0 i)) + 6)) ∧ 20 * (T4 276 0 ((9 * (T 226 0 i)) + 6)) ≤ 144800000 + 20000 * i) := (tb4) ((9 * (T 226 0 i)) + 6) (by omega) (by omega)
          refine rg_i (by omega) ?_
          refine iy_i (by omega) (by omega) ?_
          refine x_nm (fun U11 hU11 => ?_)
          have e12 := up_f hU11
          refine rg_i (by omega) ?_
          refine hK 190 [some (vR 111 0), some (vI c), some (vI d), some (vI (i + 1))] [] U11 ?_
          refine ih_190 _ ?_ (i + 1) U11 (Nat.le_refl _) ?_ ?_ ?_
          · have hm_190 := hm_190 (); omega
          · exact fr_u (fr_t (fr_0 _ _) (fr_s hf_190 rfl)) hU11 rfl
          · exact tb_m (tb_u (d := 20000) (tb4) hU11 (by decide) (by omega)) (by omega)
          · omega
        · refine ix_i (by omega) ?_
          intro b13 b13b
          have e14 : T4 228 0 i = T 228 0 i := hf_190 228 0 i rfl
          rw [e14] at b13 b13b ⊢
          refine And.intro (fun c15 => ?_) (fun c15 => ?_)
          · refine hK 245 [some (vR 111 0), some (vI c), some (vI d), some (vI i)] [vI (T4 276 0 ((9 * (T 226 0 i)) + 6)), vI ((9 * (T 226 0 i)) + 6), vR 276 0] T4 ?_
            refine j_blx (F := fX11) tb_X11 (nn_ _) bk_X11_tellAll_245 bs_X11_tellAll_245 hz (fun K hK => ?_)
            have t16 : -(144800000 + 20000 * i) ≤ T4 276 0 ((9 * (T 226 0 i)) + 6) ∧ T4 276 0 ((9 * (T 226 0 i)) + 6) ≤ 144800000 + 20000 * i ∧ (((9 * (T 226 0 i)) + 6) % 9 = 6 → -(144800000 + 20000 * i) ≤ 20 * (T4 276 0 ((9 * (T 226 0 i)) + 6)) ∧ 20 * (T4 276 0 ((9 * (T 226 0 i)) + 6)) ≤ 144800000 + 20000 * i) := (tb4) ((9 * (T 226 0 i)) + 6) (by omega) (by omega)
            refine rg_i (by omega) ?_
            refine iy_i (by omega) (by omega) ?_
            refine x_nm (fun U17 hU17 => ?_)
            have e18 := up_f hU17
            refine rg_i (by omega) ?_
            refine hK 190 [some (vR 111 0), some (vI c), some (vI d), some (vI (i + 1))] [] U17 ?_
            refine ih_190 _ ?_ (i + 1) U17 (Nat.le_refl _) ?_ ?_ ?_
            · have hm_190 := hm_190 (); omega
            · exact fr_u (fr_t (fr_0 _ _) (fr_s hf_190 rfl)) hU17 rfl
            · exact tb_m (tb_u (d := 20000) (tb4) hU17 (by decide) (by omega)) (by omega)
            · omega
          · refine ix_i (by omega) ?_
            intro b19 b19b
            have e20 : T4 227 0 i = T 227 0 i := hf_190 227 0 i rfl
            rw [e20] at b19 b19b ⊢
            refine hK 246 [some (vR 111 0), some (vI c), some (vI d), some (vI i)] [vI (T 227 0 i), vI (T4 276 0 ((9 * (T 226 0 i)) + 6)), vI ((9 * (T 226 0 i)) + 6), vR 276 0] T4 ?_
            refine j_blx (F := fX11) tb_X11 (nn_ _) bk_X11_tellAll_246 bs_X11_tellAll_246 hz (fun K hK => ?_)
            have t21 : -(144800000 + 20000 * i) ≤ T4 276 0 ((9 * (T 226 0 i)) + 6) ∧ T4 276 0 ((9 * (T 226 0 i)) + 6) ≤ 144800000 + 20000 * i ∧ (((9 * (T 226 0 i)) + 6) % 9 = 6 → -(144800000 + 20000 * i) ≤ 20 * (T4 276 0 ((9 * (T 226 0 i)) + 6)) ∧ 20 * (T4 276 0 ((9 * (T 226 0 i)) + 6)) ≤ 144800000 + 20000 * i) := (tb4) ((9 * (T 226 0 i)) + 6) (by omega) (by omega)
            refine rg_i (by omega) ?_
            refine iy_i (by omega) (by omega) ?_
            refine x_nm (fun U22 hU22 => ?_)
            have e23 := up_f hU22
            refine rg_i (by omega) ?_
            refine hK 190 [some (vR 111 0), some (vI c), some (vI d), some (vI (i + 1))] [] U22 ?_
            refine ih_190 _ ?_ (i + 1) U22 (Nat.le_refl _) ?_ ?_ ?_
            · have hm_190 := hm_190 (); omega
            · exact fr_u (fr_t (fr_0 _ _) (fr_s hf_190 rfl)) hU22 rfl
            · exact tb_m (tb_u (d := 20000) (tb4) hU22 (by decide) (by omega)) (by omega)
            · omega
  have c_28 : ∀ (nn : Nat) (m : Int) (T2 : Zt), ((400 - m).toNat) ≤ nn → (fr_ [(276, []), (111, [82, 83])] T T2) → (TB_ T2 (362000 * (m - T 210 0 c))) → (T 210 0 c ≤ m ∧ m ≤ 400) → J_ zX11_tellAll T (po_X11_tellAll T c d) 0 0 28 [some (vR 111 0), some (vI c), some (vI d), some (vI m)] [] T2 := by
    intro nn
    induction nn using Nat.strongRecOn with
    | _ nn ih_28 =>
      intro m T2 hm_28 hf_28 tb2 i2
      replace hm_28 := fun (_ : Unit) => hm_28
      have c_182 : ∀ (T3 : Zt), (fr_ [(276, []), (111, [82, 83])] T T3) → (TB_ T3 (362000 * (m - T 210 0 c) + 362000)) → (m < 400) → J_ zX11_tellAll T (po_X11_tellAll T c d) 0 0 182 [some (vR 111 0), some (vI c), some (vI d), some (vI m)] [] T3 := by
        intro T3 hf_182 tb3 i3
        refine j_blx (F := fX11) tb_X11 (nn_ _) bk_X11_tellAll_182 bs_X11_tellAll_182 hz (fun K hK => ?_)
        refine rg_i (by omega) ?_
        refine hK 28 [some (vR 111 0), some (vI c), some (vI d), some (vI (m + 1))] [] T3 ?_
        refine ih_28 _ ?_ (m + 1) T3 (Nat.le_refl _) ?_ ?_ ?_
        · have hm_28 := hm_28 (); omega
        · exact fr_t (fr_0 _ _) (fr_s hf_182 rfl)
        · exact tb_m (tb3) (by omega)
        · omega
      refine j_blx (F := fX11) tb_X11 (nn_ _) bk_X11_tellAll_28 bs_X11_tellAll_28 hz (fun K hK => ?_)
      refine ix_i (by omega) ?_
      intro b24 b24b
      have e25 : T2 210 0 c = T 210 0 c := hf_28 210 0 c rfl
      rw [e25] at b24 b24b ⊢
      refine ix_i (by omega) ?_
      intro b26 b26b
      have e27 : T2 211 0 c = T 211 0 c := hf_28 211 0 c rfl
      rw [e27] at b26 b26b ⊢
      refine rg_i (by omega) ?_
      refine And.intro (fun c28 => ?_) (fun c28 => ?_)
      · refine hK 188 _ [] T2 ?_
        refine j_blx (F := fX11) tb_X11 (nn_ _) bk_X11_tellAll_188 bs_X11_tellAll_188 hz (fun K hK => ?_)
        refine hK 190 [some (vR 111 0), some (vI c), some (vI d), some (vI 0)] [] T2 ?_
        refine c_190 _ 0 T2 (Nat.le_refl _) ?_ ?_ ?_
        · exact fr_t (fr_0 _ _) (fr_s hf_28 rfl)
        · exact tb_m (tb2) (by omega)
        · omega
      · refine hK 48 [some (vR 111 0), some (vI c), some (vI d), some (vI m)] [vI d, vI m, vR 111 0] T2 ?_
        refine j_callV (y := yX11_counts) (Yc := zX11_counts) (rest := []) [vI m, vI d] (ct_X11_counts (T := T2) (by omega) (SC__f (ws := [(276, []), (111, [82, 83])]) hsc (fr_t (fr_0 _ _) (fr_s hf_28 rfl)) ⟨fun _ => rfl, fun _ => rfl, trivial⟩)) cl_X11_487 (qd_c (by decide +kernel)) (nn_ _) rfl (rf_of rfl) (Nat.le_of_ble_eq_true rfl) (Nat.le_of_ble_eq_true rfl) (Nat.le_of_ble_eq_true rfl) rfl ?_
        rintro U29 _ ⟨x30, rfl, fU29, qU29⟩
        show J_ zX11_tellAll T (po_X11_tellAll T c d) 0 0 51 _ [vI x30] U29
        refine j_blx (F := fX11) tb_X11 (nn_ _) bk_X11_tellAll_51 bs_X11_tellAll_51 hz (fun K hK => ?_)
        refine And.intro (fun c31 => ?_) (fun c31 => ?_)
        · refine hK 182 _ [] U29 ?_
          refine c_182 U29 ?_ ?_ ?_
          · exact fr_t (fr_t (fr_0 _ _) (fr_s hf_28 rfl)) (fr_s fU29 rfl)
          · exact tb_m (tb_f (tb2) (fun j => fU29 276 0 j rfl)) (by omega)
          · omega
        · refine ix_i (by omega) ?_
          intro b32 b32b
          have e33 : U29 232 0 m = T 232 0 m := (fU29 232 0 m rfl).trans (hf_28 232 0 m rfl)
          rw [e33] at b32 b32b ⊢
          intro b34 b34b
          intro b35 b35b
          refine hK 70 _ [vI (U29 111 0 83), vI (U29 111 0 82), vI (T 232 0 m), vI c, vR 111 0] U29 ?_
          refine j_callV (y := yX11_tellResult) (Yc := zX11_tellResult) (rest := []) [vI c, vI (T 232 0 m), vI (U29 111 0 82), vI (U29 111 0 83)] (ct_X11_tellResult (T := U29) (bb := 362000 * (m - T 210 0 c)) (by omega) (by omega) (by omega) (by omega) (by omega) (tb_f (tb2) (fun j => fU29 276 0 j rfl))) cl_X11_490 (qd_c (by decide +kernel)) (nn_ _) rfl (rf_of rfl) (Nat.le_of_ble_eq_true rfl) (Nat.le_of_ble_eq_true rfl) (Nat.le_of_ble_eq_true rfl) rfl ?_
          rintro U36 _ ⟨rfl, fU36, qU36⟩
          show J_ zX11_tellAll T (po_X11_tellAll T c d) 0 0 73 _ [] U36
          refine j_blx (F := fX11) tb_X11 (nn_ _) bk_X11_tellAll_73 bs_X11_tellAll_73 hz (fun K hK => ?_)
          refine ix_i (by omega) ?_
          intro b37 b37b
          have e38 : U36 233 0 m = T 233 0 m := (fU36 233 0 m rfl).trans ((fU29 233 0 m rfl).trans (hf_28 233 0 m rfl))
          rw [e38] at b37 b37b ⊢
          intro b39 b39b
          have e40 : U36 111 0 83 = U29 111 0 83 := fU36 111 0 83 rfl
          rw [e40] at b39 b39b ⊢
          intro b41 b41b
          have e42 : U36 111 0 82 = U29 111 0 82 := fU36 111 0 82 rfl
          rw [e42] at b41 b41b ⊢
          refine hK 89 _ [vI (U29 111 0 82), vI (U29 111 0 83), vI (T 233 0 m), vI c, vR 111 0] U36 ?_
          refine j_callV (y := yX11_tellResult) (Yc := zX11_tellResult) (rest := []) [vI c, vI (T 233 0 m), vI (U29 111 0 83), vI (U29 111 0 82)] (ct_X11_tellResult (T := U36) (bb := 362000 * (m - T 210 0 c) + 140000) (by omega) (by omega) (by omega) (by omega) (by omega) (qU36)) cl_X11_490 (qd_c (by decide +kernel)) (nn_ _) rfl (rf_of rfl) (Nat.le_of_ble_eq_true rfl) (Nat.le_of_ble_eq_true rfl) (Nat.le_of_ble_eq_true rfl) rfl ?_
          rintro U43 _ ⟨rfl, fU43, qU43⟩
          show J_ zX11_tellAll T (po_X11_tellAll T c d) 0 0 92 _ [] U43
          refine j_blx (F := fX11) tb_X11 (nn_ _) bk_X11_tellAll_92 bs_X11_tellAll_92 hz (fun K hK => ?_)
          refine ix_i (by omega) ?_
          intro b44 b44b
          have e45 : U43 233 0 m = T 233 0 m := (fU43 233 0 m rfl).trans ((fU36 233 0 m rfl).trans ((fU29 233 0 m rfl).trans (hf_28 233 0 m rfl)))
          rw [e45] at b44 b44b ⊢
          refine rg_i (by omega) ?_
          refine rg_i (by omega) ?_
          refine ix_i (by omega) ?_
          intro b46 b46b
          intro b47 b47b
          have e48 : U43 111 0 83 = U29 111 0 83 := (fU43 111 0 83 rfl).trans (fU36 111 0 83 rfl)
          rw [e48] at b47 b47b ⊢
          have t49 : -(362000 * (m - T 210 0 c) + 140000 + 140000) ≤ U43 276 0 ((9 * (T 233 0 m)) + 7) ∧ U43 276 0 ((9 * (T 233 0 m)) + 7) ≤ 362000 * (m - T 210 0 c) + 140000 + 140000 ∧ (((9 * (T 233 0 m)) + 7) % 9 = 6 → -(362000 * (m - T 210 0 c) + 140000 + 140000) ≤ 20 * (U43 276 0 ((9 * (T 233 0 m)) + 7)) ∧ 20 * (U43 276 0 ((9 * (T 233 0 m)) + 7)) ≤ 362000 * (m - T 210 0 c) + 140000 + 140000) := (qU43) ((9 * (T 233 0 m)) + 7) (by omega) (by omega)
          refine rg_i (by omega) ?_
          refine iy_i (by omega) (by omega) ?_
          refine x_nm (fun U50 hU50 => ?_)
          have e51 := up_f hU50
          refine ix_i (by omega) ?_
          intro b52 b52b
          have e53 : U50 235 0 m = T 235 0 m := (up_k hU50 (by exact Nat.ne_of_beq_eq_false rfl) 0 m).trans ((fU43 235 0 m rfl).trans ((fU36 235 0 m rfl).trans ((fU29 235 0 m rfl).trans (hf_28 235 0 m rfl))))
          rw [e53] at b52 b52b ⊢
          refine And.intro (fun c54 => ?_) (fun c54 => ?_)
          · refine hK 182 _ [] U50 ?_
            refine c_182 U50 ?_ ?_ ?_
            · exact fr_u (fr_t (fr_t (fr_t (fr_t (fr_0 _ _) (fr_s hf_28 rfl)) (fr_s fU29 rfl)) (fr_s fU36 rfl)) (fr_s fU43 rfl)) hU50 rfl
            · exact tb_m (tb_u (d := 20000) (qU43) hU50 (by decide) (by omega)) (by omega)
            · omega
          · refine ix_i (by omega) ?_
            intro b55 b55b
            have e56 : U50 232 0 m = T 232 0 m := (up_k hU50 (by exact Nat.ne_of_beq_eq_false rfl) 0 m).trans ((fU43 232 0 m rfl).trans ((fU36 232 0 m rfl).trans ((fU29 232 0 m rfl).trans (hf_28 232 0 m rfl))))
            rw [e56] at b55 b55b ⊢
            refine rg_i (by omega) ?_
            refine rg_i (by omega) ?_
            refine ix_i (by omega) ?_
            intro b57 b57b
            refine rg_i (by omega) ?_
            refine hK 148 _ [vI (2 * m), vR 111 0, vI (U50 276 0 ((9 * (T 232 0 m)) + 8)), vI ((9 * (T 232 0 m)) + 8), vR 276 0] U50 ?_
            refine j_callV (y := yX11_fairOf) (Yc := zX11_fairOf) (rest := [vI (U50 276 0 ((9 * (T 232 0 m)) + 8)), vI ((9 * (T 232 0 m)) + 8), vR 276 0]) [vI (2 * m)] (ct_X11_fairOf (T := U50) (by omega) (YB__f (ws := [(276, []), (111, [82, 83])]) hyb (fr_u (fr_t (fr_t (fr_t (fr_t (fr_0 _ _) (fr_s hf_28 rfl)) (fr_s fU29 rfl)) (fr_s fU36 rfl)) (fr_s fU43 rfl)) hU50 rfl) ⟨fun _ => rfl, trivial⟩)) cl_X11_493 (qd_c (by decide +kernel)) (nn_ _) rfl (rf_of rfl) (Nat.le_of_ble_eq_true rfl) (Nat.le_of_ble_eq_true rfl) (Nat.le_of_ble_eq_true rfl) rfl ?_
            rintro _ _ ⟨rfl, x58, rfl, hx58⟩
            show J_ zX11_tellAll T (po_X11_tellAll T c d) 0 0 151 _ [vI x58, vI (U50 276 0 ((9 * (T 232 0 m)) + 8)), vI ((9 * (T 232 0 m)) + 8), vR 276 0] U50
            refine j_blx (F := fX11) tb_X11 (nn_ _) bk_X11_tellAll_151 bs_X11_tellAll_151 hz (fun K hK => ?_)
            have t59 : -(362000 * (m - T 210 0 c) + 140000 + 140000 + 20000) ≤ U50 276 0 ((9 * (T 232 0 m)) + 8) ∧ U50 276 0 ((9 * (T 232 0 m)) + 8) ≤ 362000 * (m - T 210 0 c) + 140000 + 140000 + 20000 ∧ (((9 * (T 232 0 m)) + 8) % 9 = 6 → -(362000 * (m - T 210 0 c) + 140000 + 140000 + 20000) ≤ 20 * (U50 276 0 ((9 * (T 232 0 m)) + 8)) ∧ 20 * (U50 276 0 ((9 * (T 232 0 m)) + 8)) ≤ 362000 * (m - T 210 0 c) + 140000 + 140000 + 20000) := (tb_u (d := 20000) (qU43) hU50 (by decide) (by omega)) ((9 * (T 232 0 m)) + 8) (by omega) (by omega)
            refine rg_i (by omega) ?_
            refine iy_i (by omega) (by omega) ?_
            refine x_nm (fun U60 hU60 => ?_)
            have e61 := up_f hU60
            refine ix_i (by omega) ?_
            intro b62 b62b
            have e63 : U60 233 0 m = T 233 0 m := (up_k hU60 (by exact Nat.ne_of_beq_eq_false rfl) 0 m).trans ((up_k hU50 (by exact Nat.ne_of_beq_eq_false rfl) 0 m).trans ((fU43 233 0 m rfl).trans ((fU36 233 0 m rfl).trans ((fU29 233 0 m rfl).trans (hf_28 233 0 m rfl)))))
            rw [e63] at b62 b62b ⊢
            refine rg_i (by omega) ?_
            refine rg_i (by omega) ?_
            refine ix_i (by omega) ?_
            intro b64 b64b
            refine rg_i (by omega) ?_
            refine rg_i (by omega) ?_
            refine hK 177 _ [vI ((2 * m) + 1), vR 111 0, vI (U60 276 0 ((9 * (T 233 0 m)) + 8)), vI ((9 * (T 233 0 m)) + 8), vR 276 0] U60 ?_
            refine j_callV (y := yX11_fairOf) (Yc := zX11_fairOf) (rest := [vI (U60 276 0 ((9 * (T 233 0 m)) + 8)), vI ((9 * (T 233 0 m)) + 8), vR 276 0]) [vI ((2 * m) + 1)] (ct_X11_fairOf (T := U60) (by omega) (YB__f (ws := [(276, []), (111, [82, 83])]) hyb (fr_u (fr_u (fr_t (fr_t (fr_t (fr_t (fr_0 _ _) (fr_s hf_28 rfl)) (fr_s fU29 rfl)) (fr_s fU36 rfl)) (fr_s fU43 rfl)) hU50 rfl) hU60 rfl) ⟨fun _ => rfl, trivial⟩)) cl_X11_493 (qd_c (by decide +kernel)) (nn_ _) rfl (rf_of rfl) (Nat.le_of_ble_eq_true rfl) (Nat.le_of_ble_eq_true rfl) (Nat.le_of_ble_eq_true rfl) rfl ?_
            rintro _ _ ⟨rfl, x65, rfl, hx65⟩
            show J_ zX11_tellAll T (po_X11_tellAll T c d) 0 0 180 _ [vI x65, vI (U60 276 0 ((9 * (T 233 0 m)) + 8)), vI ((9 * (T 233 0 m)) + 8), vR 276 0] U60
            refine j_blx (F := fX11) tb_X11 (nn_ _) bk_X11_tellAll_180 bs_X11_tellAll_180 hz (fun K hK => ?_)
            have t66 : -(362000 * (m - T 210 0 c) + 140000 + 140000 + 20000 + 31000) ≤ U60 276 0 ((9 * (T 233 0 m)) + 8) ∧ U60 276 0 ((9 * (T 233 0 m)) + 8) ≤ 362000 * (m - T 210 0 c) + 140000 + 140000 + 20000 + 31000 ∧ (((9 * (T 233 0 m)) + 8) % 9 = 6 → -(362000 * (m - T 210 0 c) + 140000 + 140000 + 20000 + 31000) ≤ 20 * (U60 276 0 ((9 * (T 233 0 m)) + 8)) ∧ 20 * (U60 276 0 ((9 * (T 233 0 m)) + 8)) ≤ 362000 * (m - T 210 0 c) + 140000 + 140000 + 20000 + 31000) := (tb_u (d := 31000) (tb_u (d := 20000) (qU43) hU50 (by decide) (by omega)) hU60 (by decide) (by omega)) ((9 * (T 233 0 m)) + 8) (by omega) (by omega)
            refine rg_i (by omega) ?_
            refine iy_i (by omega) (by omega) ?_
            refine x_nm (fun U67 hU67 => ?_)
            have e68 := up_f hU67
            refine hK 182 _ [] U67 ?_
            refine c_182 U67 ?_ ?_ ?_
            · exact fr_u (fr_u (fr_u (fr_t (fr_t (fr_t (fr_t (fr_0 _ _) (fr_s hf_28 rfl)) (fr_s fU29 rfl)) (fr_s fU36 rfl)) (fr_s fU43 rfl)) hU50 rfl) hU60 rfl) hU67 rfl
            · exact tb_m (tb_u (d := 31000) (tb_u (d := 31000) (tb_u (d := 20000) (qU43) hU50 (by decide) (by omega)) hU60 (by decide) (by omega)) hU67 (by decide) (by omega)) (by omega)
            · omega
  have c_2 : ∀ (nn : Nat) (i : Int) (T1 : Zt), ((108 - i).toNat) ≤ nn → (fr_ [(276, [])] T T1) → (∀ j, 0 ≤ j → j < i → T1 276 0 j = 0) → (0 ≤ i ∧ i ≤ 108) → J_ zX11_tellAll T (po_X11_tellAll T c d) 0 0 2 [some (vR 111 0), some (vI c), some (vI d), some (vI i)] [] T1 := by
    intro nn
    induction nn using Nat.strongRecOn with
    | _ nn ih_2 =>
      intro i T1 hm_2 hf_2 z1 i1
      replace hm_2 := fun (_ : Unit) => hm_2
      refine j_blx (F := fX11) tb_X11 (nn_ _) bk_X11_tellAll_2 bs_X11_tellAll_2 hz (fun K hK => ?_)
      refine And.intro (fun c69 => ?_) (fun c69 => ?_)
      · refine hK 21 _ [] T1 ?_
        refine j_blx (F := fX11) tb_X11 (nn_ _) bk_X11_tellAll_21 bs_X11_tellAll_21 hz (fun K hK => ?_)
        refine ix_i (by omega) ?_
        intro b70 b70b
        have e71 : T1 210 0 c = T 210 0 c := hf_2 210 0 c rfl
        rw [e71] at b70 b70b ⊢
        refine hK 28 [some (vR 111 0), some (vI c), some (vI d), some (vI (T 210 0 c))] [] T1 ?_
        refine c_28 _ (T 210 0 c) T1 (Nat.le_refl _) ?_ ?_ ?_
        · exact fr_t (fr_0 _ _) (fr_s hf_2 rfl)
        · exact fun j a b => by have := z1 j a (by omega); omega
        · omega
      · refine iy_i (by omega) (by omega) ?_
        refine x_nm (fun U72 hU72 => ?_)
        have e73 := up_f hU72
        refine rg_i (by omega) ?_
        refine hK 2 [some (vR 111 0), some (vI c), some (vI d), some (vI (i + 1))] [] U72 ?_
        refine ih_2 _ ?_ (i + 1) U72 (Nat.le_refl _) ?_ ?_ ?_
        · have hm_2 := hm_2 (); omega
        · exact fr_u (fr_t (fr_0 _ _) (fr_s hf_2 rfl)) hU72 rfl
        · intro j a b
          by_cases z : j = i
          · rw [z]; exact up_f hU72
          · rw [up_g hU72 (fun q => z q.2.2)]; exact z1 j a (by omega)
        · omega
  refine j_blx (F := fX11) tb_X11 (nn_ _) bk_X11_tellAll_0 bs_X11_tellAll_0 hz (fun K hK => ?_)
  refine hK 2 [some (vR 111 0), some (vI c), some (vI d), some (vI 0)] [] T ?_
  refine c_2 _ 0 T (Nat.le_refl _) ?_ ?_ ?_
  · exact fr_0 _ _
  · intro j a b; omega
  · omega
abbrev cX11_sayHead : ByteArray := prog_13_method_86_code
def yX11_sayHead : MethodName := ⟨RX11, "sayHead", "(II)V"⟩
def zX11_sayHead : Zm := (RX11, cX11_sayHead, 7, none, { frames := 1, cells := 0, slots := 0, locals := 22 })
theorem bk_X11_sayHead_230 : ck_ fX11 none cX11_sayHead 230 [.iinc 3 1, .goto 7] 236 = true := qck_r (nn_ _) (by decide +kernel)
theorem bs_X11_sayHead_230 {P : Zt → Option Zv → Prop} (K : Int → Zl → List Zv → Zt → Prop) : sx_ K P [.iinc 3 1, .goto 7] 236 = x_iinc 3 1 (x_goto 7 K) := ((xe_iinc 3 1).trans (congrArg (x_iinc 3 1) (xe_goto 7)))
theorem bk_X11_sayHead_106 : ck_ fX11 none cX11_sayHead 106 [.istore 6, .aload 0, .tableswitch 0 11 84 #[], .iconst 3, .iload 4, .imul, .dup2, .iaload, .aload 0, .iload 1, .iload 6] 122 = true := qck_r (nn_ _) (by decide +kernel)
theorem bs_X11_sayHead_106 {P : Zt → Option Zv → Prop} (K : Int → Zl → List Zv → Zt → Prop) : sx_ K P [.istore 6, .aload 0, .tableswitch 0 11 84 #[], .iconst 3, .iload 4, .imul, .dup2, .iaload, .aload 0, .iload 1, .iload 6] 122 = x_istore 6 (x_aload 0 (x_g1 111 284 (x_iconst 3 (x_iload 4 (x_imul (x_dup2 (x_iaload (x_aload 0 (x_iload 1 (x_iload 6 (K 122))))))))))) := ((xe_istore 6).trans (congrArg (x_istore 6) ((xe_aload 0).trans (congrArg (x_aload 0) ((xe_g1 (kk := 111) rfl tl_11_84).trans (congrArg (x_g1 111 284) ((xe_iconst 3).trans (congrArg (x_iconst 3) ((xe_iload 4).trans (congrArg (x_iload 4) ((xe_imul).trans (congrArg (x_imul) ((xe_dup2).trans (congrArg (x_dup2) ((xe_iaload).trans (congrArg (x_iaload) ((xe_aload 0).trans (congrArg (x_aload 0) ((xe_iload 1).trans (congrArg (x_iload 1) ((xe_iload 6).trans (congrArg (x_iload 6) xe_nil))))))))))))))))))))))
theorem bk_X11_sayHead_125 : ck_ fX11 none cX11_sayHead 125 [.iadd, .iastore, .aload 0, .tableswitch 0 11 84 #[], .iconst 3, .iload 5, .imul, .dup2, .iaload, .aload 0, .iload 1, .iconst 4, .iload 6, .isub] 143 = true := qck_r (nn_ _) (by decide +kernel)
theorem bs_X11_sayHead_125 {P : Zt → Option Zv → Prop} (K : Int → Zl → List Zv → Zt → Prop) : sx_ K P [.iadd, .iastore, .aload 0, .tableswitch 0 11 84 #[], .iconst 3, .iload 5, .imul, .dup2, .iaload, .aload 0, .iload 1, .iconst 4, .iload 6, .isub] 143 = x_iadd (x_iastore (x_aload 0 (x_g1 111 284 (x_iconst 3 (x_iload 5 (x_imul (x_dup2 (x_iaload (x_aload 0 (x_iload 1 (x_iconst 4 (x_iload 6 (x_isub (K 143)))))))))))))) := ((xe_iadd).trans (congrArg (x_iadd) ((xe_iastore).trans (congrArg (x_iastore) ((xe_aload 0).trans (congrArg (x_aload 0) ((xe_g1 (kk := 111) rfl tl_11_84).trans (congrArg (x_g1 111 284) ((xe_iconst 3).trans (congrArg (x_iconst 3) ((xe_iload 5).trans (congrArg (x_iload 5) ((xe_imul).trans (congrArg (x_imul) ((xe_dup2).trans (congrArg (x_dup2) ((xe_iaload).trans (congrArg (x_iaload) ((xe_aload 0).trans (congrArg (x_aload 0) ((xe_iload 1).trans (congrArg (x_iload 1) ((xe_iconst 4).trans (congrArg (x_iconst 4) ((xe_iload 6).trans (congrArg (x_iload 6) ((xe_isub).trans (congrArg (x_isub) xe_nil))))))))))))))))))))))))))))
theorem bk_X11_sayHead_146 : ck_ fX11 none cX11_sayHead 146 [.iadd, .iastore, .aload 0, .tableswitch 0 11 84 #[], .iconst 3, .iload 4, .imul, .iconst 1, .iadd, .dup2, .iaload, .aload 0, .tableswitch 0 11 82 #[], .aload 0, .tableswitch 0 11 83 #[], .isub, .iadd, .iastore, .aload 0, .tableswitch 0 11 84 #[], .iconst 3, .iload 5, .imul, .iconst 1, .iadd, .dup2, .iaload, .aload 0, .tableswitch 0 11 83 #[], .aload 0, .tableswitch 0 11 82 #[], .isub, .iadd, .iastore, .aload 0, .tableswitch 0 11 84 #[], .iconst 3, .iload 4, .imul, .iconst 2, .iadd, .dup2, .iaload, .aload 0, .tableswitch 0 11 82 #[], .iadd, .iastore, .aload 0, .tableswitch 0 11 84 #[], .iconst 3, .iload 5, .imul, .iconst 2, .iadd, .dup2, .iaload, .aload 0, .tableswitch 0 11 83 #[], .iadd, .iastore] 230 = true := qck_r (nn_ _) (by decide +kernel)
theorem bs_X11_sayHead_146 {P : Zt → Option Zv → Prop} (K : Int → Zl → List Zv → Zt → Prop) : sx_ K P [.iadd, .iastore, .aload 0, .tableswitch 0 11 84 #[], .iconst 3, .iload 4, .imul, .iconst 1, .iadd, .dup2, .iaload, .aload 0, .tableswitch 0 11 82 #[], .aload 0, .tableswitch 0 11 83 #[], .isub, .iadd, .iastore, .aload 0, .tableswitch 0 11 84 #[], .iconst 3, .iload 5, .imul, .iconst 1, .iadd, .dup2, .iaload, .aload 0, .tableswitch 0 11 83 #[], .aload 0, .tableswitch 0 11 82 #[], .isub, .iadd, .iastore, .aload 0, .tableswitch 0 11 84 #[], .iconst 3, .iload 4, .imul, .iconst 2, .iadd, .dup2, .iaload, .aload 0, .tableswitch 0 11 82 #[], .iadd, .iastore, .aload 0, .tableswitch 0 11 84 #[], .iconst 3, .iload 5, .imul, .iconst 2, .iadd, .dup2, .iaload, .aload 0, .tableswitch 0 11 83 #[], .iadd, .iastore] 230 = x_iadd (x_iastore (x_aload 0 (x_g1 111 284 (x_iconst 3 (x_iload 4 (x_imul (x_iconst 1 (x_iadd (x_dup2 (x_iaload (x_aload 0 (x_g0 111 82 (-2147483648) 2147483647 (x_aload 0 (x_g0 111 83 (-2147483648) 2147483647 (x_isub (x_iadd (x_iastore (x_aload 0 (x_g1 111 284 (x_iconst 3 (x_iload 5 (x_imul (x_iconst 1 (x_iadd (x_dup2 (x_iaload (x_aload 0 (x_g0 111 83 (-2147483648) 2147483647 (x_aload 0 (x_g0 111 82 (-2147483648) 2147483647 (x_isub (x_iadd (x_iastore (x_aload 0 (x_g1 111 284 (x_iconst 3 (x_iload 4 (x_imul (x_iconst 2 (x_iadd (x_dup2 (x_iaload (x_aload 0 (x_g0 111 82 (-2147483648) 2147483647 (x_iadd (x_iastore (x_aload 0 (x_g1 111 284 (x_iconst 3 (x_iload 5 (x_imul (x_iconst 2 (x_iadd (x_dup2 (x_iaload (x_aload 0 (x_g0 111 83 (-2147483648) 2147483647 (x_iadd (x_iastore (K 230)))))))))))))))))))))))))))))))))))))))))))))))))))))))))))) := ((xe_iadd).trans (congrArg (x_iadd) ((xe_iastore).trans (congrArg (x_iastore) ((xe_aload 0).trans (congrArg (x_aload 0) ((xe_g1 (kk := 111) rfl tl_11_84).trans (congrArg (x_g1 111 284) ((xe_iconst 3).trans (congrArg (x_iconst 3) ((xe_iload 4).trans (congrArg (x_iload 4) ((xe_imul).trans (congrArg (x_imul) ((xe_iconst 1).trans (congrArg (x_iconst 1) ((xe_iadd).trans (congrArg (x_iadd) ((xe_dup2).trans (congrArg (x_dup2) ((xe_iaload).trans (congrArg (x_iaload) ((xe_aload 0).trans (congrArg (x_aload 0) ((xe_g0 (kk := 111) rfl tl_11_82).trans (congrArg (x_g0 111 82 (-2147483648) 2147483647) ((xe_aload 0).trans (congrArg (x_aload 0) ((xe_g0 (kk := 111) rfl tl_11_83).trans (congrArg (x_g0 111 83 (-2147483648) 2147483647) ((xe_isub).trans (congrArg (x_isub) ((xe_iadd).trans (congrArg (x_iadd) ((xe_iastore).trans (congrArg (x_iastore) ((xe_aload 0).trans (congrArg (x_aload 0) ((xe_g1 (kk := 111) rfl tl_11_84).trans (congrArg (x_g1 111 284) ((xe_iconst 3).trans (congrArg (x_iconst 3) ((xe_iload 5).trans (congrArg (x_iload 5) ((xe_imul).trans (congrArg (x_imul) ((xe_iconst 1).trans (congrArg (x_iconst 1) ((xe_iadd).trans (congrArg (x_iadd) ((xe_dup2).trans (congrArg (x_dup2) ((xe_iaload).trans (congrArg (x_iaload) ((xe_aload 0).trans (congrArg (x_aload 0) ((xe_g0 (kk := 111) rfl tl_11_83).trans (congrArg (x_g0 111 83 (-2147483648) 2147483647) ((xe_aload 0).trans (congrArg (x_aload 0) ((xe_g0 (kk := 111) rfl tl_11_82).trans (congrArg (x_g0 111 82 (-2147483648) 2147483647) ((xe_isub).trans (congrArg (x_isub) ((xe_iadd).trans (congrArg (x_iadd) ((xe_iastore).trans (congrArg (x_iastore) ((xe_aload 0).trans (congrArg (x_aload 0) ((xe_g1 (kk := 111) rfl tl_11_84).trans (congrArg (x_g1 111 284) ((xe_iconst 3).trans (congrArg (x_iconst 3) ((xe_iload 4).trans (congrArg (x_iload 4) ((xe_imul).trans (congrArg (x_imul) ((xe_iconst 2).trans (congrArg (x_iconst 2) ((xe_iadd).trans (congrArg (x_iadd) ((xe_dup2).trans (congrArg (x_dup2) ((xe_iaload).trans (congrArg (x_iaload) ((xe_aload 0).trans (congrArg (x_aload 0) ((xe_g0 (kk := 111) rfl tl_11_82).trans (congrArg (x_g0 111 82 (-2147483648) 2147483647) ((xe_iadd).trans (congrArg (x_iadd) ((xe_iastore).trans (congrArg (x_iastore) ((xe_aload 0).trans (congrArg (x_aload 0) ((xe_g1 (kk := 111) rfl tl_11_84).trans (congrArg (x_g1 111 284) ((xe_iconst 3).trans (congrArg (x_iconst 3) ((xe_iload 5).trans (congrArg (x_iload 5) ((xe_imul).trans (congrArg (x_imul) ((xe_iconst 2).trans (congrArg (x_iconst 2) ((xe_iadd).trans (congrArg (x_iadd) ((xe_dup2).trans (congrArg (x_dup2) ((xe_iaload).trans (congrArg (x_iaload) ((xe_aload 0).trans (congrArg (x_aload 0) ((xe_g0 (kk := 111) rfl tl_11_83).trans (congrArg (x_g0 111 83 (-2147483648) 2147483647) ((xe_iadd).trans (congrArg (x_iadd) ((xe_iastore).trans (congrArg (x_iastore) xe_nil))))))))))))))))))))))))))))))))))))))))))))))))))))))))))))))))))))))))))))))))))))))))))))))))))))))))))))))))))))))))
theorem bk_X11_sayHead_7 : ck_ fX11 none cX11_sayHead 7 [.iload 3, .aload 0, .tableswitch 0 11 10 #[], .iload 1, .iaload, .aload 0, .tableswitch 0 11 11 #[], .iload 1, .iaload, .iadd, .if_icmp .ge 236, .aload 0, .tableswitch 0 11 32 #[], .iload 3, .iaload, .istore 4, .aload 0, .tableswitch 0 11 33 #[], .iload 3, .iaload, .istore 5, .aload 0, .tableswitch 0 11 85 #[], .iload 4, .ishr, .iconst 1, .iand, .iconst 1, .if_icmp .ne 230, .aload 0, .tableswitch 0 11 85 #[], .iload 5, .ishr, .iconst 1, .iand, .iconst 1, .if_icmp .ne 230, .aload 0, .iload 3, .iload 2] 69 = true := qck_r (nn_ _) (by decide +kernel)
theorem bs_X11_sayHead_7 {P : Zt → Option Zv → Prop} (K : Int → Zl → List Zv → Zt → Prop) : sx_ K P [.iload 3, .aload 0, .tableswitch 0 11 10 #[], .iload 1, .iaload, .aload 0, .tableswitch 0 11 11 #[], .iload 1, .iaload, .iadd, .if_icmp .ge 236, .aload 0, .tableswitch 0 11 32 #[], .iload 3, .iaload, .istore 4, .aload 0, .tableswitch 0 11 33 #[], .iload 3, .iaload, .istore 5, .aload 0, .tableswitch 0 11 85 #[], .iload 4, .ishr, .iconst 1, .iand, .iconst 1, .if_icmp .ne 230, .aload 0, .tableswitch 0 11 85 #[], .iload 5, .ishr, .iconst 1, .iand, .iconst 1, .if_icmp .ne 230, .aload 0, .iload 3, .iload 2] 69 = x_iload 3 (x_aload 0 (x_g1 111 210 (x_iload 1 (x_iaload (x_aload 0 (x_g1 111 211 (x_iload 1 (x_iaload (x_iadd (x_if_icmp .ge 236 K (x_aload 0 (x_g1 111 232 (x_iload 3 (x_iaload (x_istore 4 (x_aload 0 (x_g1 111 233 (x_iload 3 (x_iaload (x_istore 5 (x_aload 0 (x_g0 111 85 0 4095 (x_iload 4 (x_ishr (x_iconst 1 (x_iand (x_iconst 1 (x_if_icmp .ne 230 K (x_aload 0 (x_g0 111 85 0 4095 (x_iload 5 (x_ishr (x_iconst 1 (x_iand (x_iconst 1 (x_if_icmp .ne 230 K (x_aload 0 (x_iload 3 (x_iload 2 (K 69)))))))))))))))))))))))))))))))))))))))) := ((xe_iload 3).trans (congrArg (x_iload 3) ((xe_aload 0).trans (congrArg (x_aload 0) ((xe_g1 (kk := 111) rfl tl_11_10).trans (congrArg (x_g1 111 210) ((xe_iload 1).trans (congrArg (x_iload 1) ((xe_iaload).trans (congrArg (x_iaload) ((xe_aload 0).trans (congrArg (x_aload 0) ((xe_g1 (kk := 111) rfl tl_11_11).trans (congrArg (x_g1 111 211) ((xe_iload 1).trans (congrArg (x_iload 1) ((xe_iaload).trans (congrArg (x_iaload) ((xe_iadd).trans (congrArg (x_iadd) ((xe_if_icmp .ge 236).trans (congrArg (x_if_icmp .ge 236 K) ((xe_aload 0).trans (congrArg (x_aload 0) ((xe_g1 (kk := 111) rfl tl_11_32).trans (congrArg (x_g1 111 232) ((xe_iload 3).trans (congrArg (x_iload 3) ((xe_iaload).trans (congrArg (x_iaload) ((xe_istore 4).trans (congrArg (x_istore 4) ((xe_aload 0).trans (congrArg (x_aload 0) ((xe_g1 (kk := 111) rfl tl_11_33).trans (congrArg (x_g1 111 233) ((xe_iload 3).trans (congrArg (x_iload 3) ((xe_iaload).trans (congrArg (x_iaload) ((xe_istore 5).trans (congrArg (x_istore 5) ((xe_aload 0).trans (congrArg (x_aload 0) ((xe_g0 (kk := 111) rfl tl_11_85).trans (congrArg (x_g0 111 85 0 4095) ((xe_iload 4).trans (congrArg (x_iload 4) ((xe_ishr).trans (congrArg (x_ishr) ((xe_iconst 1).trans (congrArg (x_iconst 1) ((xe_iand).trans (congrArg (x_iand) ((xe_iconst 1).trans (congrArg (x_iconst 1) ((xe_if_icmp .ne 230).trans (congrArg (x_if_icmp .ne 230 K) ((xe_aload 0).trans (congrArg (x_aload 0) ((xe_g0 (kk := 111) rfl tl_11_85).trans (congrArg (x_g0 111 85 0 4095) ((xe_iload 5).trans (congrArg (x_iload 5) ((xe_ishr).trans (congrArg (x_ishr) ((xe_iconst 1).trans (congrArg (x_iconst 1) ((xe_iand).trans (congrArg (x_iand) ((xe_iconst 1).trans (congrArg (x_iconst 1) ((xe_if_icmp .ne 230).trans (congrArg (x_if_icmp .ne 230 K) ((xe_aload 0).trans (congrArg (x_aload 0) ((xe_iload 3).trans (congrArg (x_iload 3) ((xe_iload 2).trans (congrArg (x_iload 2) xe_nil))))))))))))))))))))))))))))))))))))))))))))))))))))))))))))))))))))))))))))))))
theorem bk_X11_sayHead_236 : ck_ fX11 none cX11_sayHead 236 [.return_] 237 = true := qck_r (nn_ _) (by decide +kernel)
theorem bs_X11_sayHead_236 {P : Zt → Option Zv → Prop} (K : Int → Zl → List Zv → Zt → Prop) : sx_ K P [.return_] 237 = x_return_ P := (xe_return_)
theorem bk_X11_sayHead_72 : ck_ fX11 none cX11_sayHead 72 [.ifCond .eq 230, .aload 0, .tableswitch 0 11 82 #[], .aload 0, .tableswitch 0 11 83 #[], .if_icmp .le 90, .iconst 1, .goto 106] 90 = true := qck_r (nn_ _) (by decide +kernel)
theorem bs_X11_sayHead_72 {P : Zt → Option Zv → Prop} (K : Int → Zl → List Zv → Zt → Prop) : sx_ K P [.ifCond .eq 230, .aload 0, .tableswitch 0 11 82 #[], .aload 0, .tableswitch 0 11 83 #[], .if_icmp .le 90, .iconst 1, .goto 106] 90 = x_ifCond .eq 230 K (x_aload 0 (x_g0 111 82 (-2147483648) 2147483647 (x_aload 0 (x_g0 111 83 (-2147483648) 2147483647 (x_if_icmp .le 90 K (x_iconst 1 (x_goto 106 K))))))) := ((xe_ifCond .eq 230).trans (congrArg (x_ifCond .eq 230 K) ((xe_aload 0).trans (congrArg (x_aload 0) ((xe_g0 (kk := 111) rfl tl_11_82).trans (congrArg (x_g0 111 82 (-2147483648) 2147483647) ((xe_aload 0).trans (congrArg (x_aload 0) ((xe_g0 (kk := 111) rfl tl_11_83).trans (congrArg (x_g0 111 83 (-2147483648) 2147483647) ((xe_if_icmp .le 90).trans (congrArg (x_if_icmp .le 90 K) ((xe_iconst 1).trans (congrArg (x_iconst 1) (xe_goto 106)))))))))))))))
theorem bk_X11_sayHead_90 : ck_ fX11 none cX11_sayHead 90 [.aload 0, .tableswitch 0 11 82 #[], .aload 0, .tableswitch 0 11 83 #[], .if_icmp .ne 105, .iconst 2, .goto 106] 105 = true := qck_r (nn_ _) (by decide +kernel)
theorem bs_X11_sayHead_90 {P : Zt → Option Zv → Prop} (K : Int → Zl → List Zv → Zt → Prop) : sx_ K P [.aload 0, .tableswitch 0 11 82 #[], .aload 0, .tableswitch 0 11 83 #[], .if_icmp .ne 105, .iconst 2, .goto 106] 105 = x_aload 0 (x_g0 111 82 (-2147483648) 2147483647 (x_aload 0 (x_g0 111 83 (-2147483648) 2147483647 (x_if_icmp .ne 105 K (x_iconst 2 (x_goto 106 K)))))) := ((xe_aload 0).trans (congrArg (x_aload 0) ((xe_g0 (kk := 111) rfl tl_11_82).trans (congrArg (x_g0 111 82 (-2147483648) 2147483647) ((xe_aload 0).trans (congrArg (x_aload 0) ((xe_g0 (kk := 111) rfl tl_11_83).trans (congrArg (x_g0 111 83 (-2147483648) 2147483647) ((xe_if_icmp .ne 105).trans (congrArg (x_if_icmp .ne 105 K) ((xe_iconst 2).trans (congrArg (x_iconst 2) (xe_goto 106)))))))))))))
theorem bk_X11_sayHead_105 : ck_ fX11 none cX11_sayHead 105 [.iconst 3] 106 = true := qck_r (nn_ _) (by decide +kernel)
theorem bs_X11_sayHead_105 {P : Zt → Option Zv → Prop} (K : Int → Zl → List Zv → Zt → Prop) : sx_ K P [.iconst 3] 106 = x_iconst 3 (K 106) := ((xe_iconst 3).trans (congrArg (x_iconst 3) xe_nil))
theorem bk_X11_sayHead_0 : ck_ fX11 none cX11_sayHead 0 [.aload 0, .tableswitch 0 11 10 #[], .iload 1, .iaload, .istore 3] 7 = true := qck_r (nn_ _) (by decide +kernel)
theorem bs_X11_sayHead_0 {P : Zt → Option Zv → Prop} (K : Int → Zl → List Zv → Zt → Prop) : sx_ K P [.aload 0, .tableswitch 0 11 10 #[], .iload 1, .iaload, .istore 3] 7 = x_aload 0 (x_g1 111 210 (x_iload 1 (x_iaload (x_istore 3 (K 7))))) := ((xe_aload 0).trans (congrArg (x_aload 0) ((xe_g1 (kk := 111) rfl tl_11_10).trans (congrArg (x_g1 111 210) ((xe_iload 1).trans (congrArg (x_iload 1) ((xe_iaload).trans (congrArg (x_iaload) ((xe_istore 3).trans (congrArg (x_istore 3) xe_nil))))))))))
abbrev po_X11_sayHead (T : Zt) (bb : Int) (c d : Int) : Zt → Option Zv → Prop := fun T' r => r = none ∧ fr_ [(284, []), (111, [82, 83])] T T' ∧ (SA_ T' (bb + 48000000))
set_option maxHeartbeats 4000000 in
theorem ct_X11_sayHead {T : Zt} {bb : Int} {c d : Int} (h1 : 0 ≤ c ∧ c < 4) (hml : ML_ T) (hsc : SC_ T) (hbb : 0 ≤ bb ∧ bb ≤ 500000000) (hsa : SA_ T bb) : Ct_ yX11_sayHead zX11_sayHead T [vR 111 0, vI c, vI d] (po_X11_sayHead T bb c d) := by
  refine ct_of pn_11 rfl rfl (Nat.le_of_ble_eq_true rfl) (fun hT hav => ?_)
  have hr_c : -2147483648 ≤ c ∧ c ≤ 2147483647 := hav (vI c) (List.mem_cons_of_mem _ List.mem_cons_self)
  have hr_d : -2147483648 ≤ d ∧ d ≤ 2147483647 := hav (vI d) (List.mem_cons_of_mem _ (List.mem_cons_of_mem _ List.mem_cons_self))
  have hz : zX11_sayHead.2.2.2.1 = some .boolean → ∀ (T' : Zt) (x : Int), po_X11_sayHead T bb c d T' (some (vI x)) → 0 ≤ x ∧ x ≤ 1 := fun h => by cases h
  have hb_29 : 0 ≤ T 111 0 29 ∧ T 111 0 29 ≤ 400 := bd_f hT 111 29 tl_11_29 0
  have hmc := hml c (by omega) (by omega)
  have hfo : 0 ≤ T 210 0 c ∧ T 210 0 c ≤ 400 := bd_a hT 210 (by decide +kernel : ta_ 210 = some (1, some 4, 0, 400)) 0 (by omega)
  show J_ zX11_sayHead T (po_X11_sayHead T bb c d) 0 0 0 [some (vR 111 0), some (vI c), some (vI d), none, none, none, none] [] T
  have c_7 : ∀ (nn : Nat) (m : Int) (T1 : Zt), ((400 - m).toNat) ≤ nn → (fr_ [(284, []), (111, [82, 83])] T T1) → (SA_ T1 (bb + 120000 * (m - T 210 0 c))) → (T 210 0 c ≤ m ∧ m ≤ 400) → J_ zX11_sayHead T (po_X11_sayHead T bb c d) 0 0 7 [some (vR 111 0), some (vI c), some (vI d), some (vI m), none, none, none] [] T1 := by
    intro nn
    induction nn using Nat.strongRecOn with
    | _ nn ih_7 =>
      intro m T1 hm_7 hf_7 sa1 i1
      replace hm_7 := fun (_ : Unit) => hm_7
      have c_230 : ∀ (T3 : Zt), (fr_ [(284, []), (111, [82, 83])] T T3) → (SA_ T3 (bb + 120000 * (m - T 210 0 c) + 120000)) → (m < 400) → J_ zX11_sayHead T (po_X11_sayHead T bb c d) 0 0 230 [some (vR 111 0), some (vI c), some (vI d), some (vI m), none, none, none] [] T3 := by
        intro T3 hf_230 sa3 i3
        refine j_blx (F := fX11) tb_X11 (nn_ _) bk_X11_sayHead_230 bs_X11_sayHead_230 hz (fun K hK => ?_)
        refine rg_i (by omega) ?_
        refine hK 7 [some (vR 111 0), some (vI c), some (vI d), some (vI (m + 1)), none, none, none] [] T3 ?_
        refine ih_7 _ ?_ (m + 1) T3 (Nat.le_refl _) ?_ ?_ ?_
        · have hm_7 := hm_7 (); omega
        · exact fr_t (fr_0 _ _) (fr_s hf_230 rfl)
        · exact sa_m (sa3) (by omega)
        · omega
      have c_106 : ∀ (v : Int) (T2 : Zt), (fr_ [(284, []), (111, [82, 83])] T T2) → (SA_ T2 (bb + 120000 * (m - T 210 0 c))) → (1 ≤ v ∧ v ≤ 3 ∧ m < 400 ∧ (0 ≤ T2 111 0 82 ∧ T2 111 0 82 ≤ 20000) ∧ (0 ≤ T2 111 0 83 ∧ T2 111 0 83 ≤ 20000) ∧ 0 ≤ T 232 0 m ∧ T 232 0 m ≤ 11 ∧ 0 ≤ T 233 0 m ∧ T 233 0 m ≤ 11) → J_ zX11_sayHead T (po_X11_sayHead T bb c d) 0 0 106 [some (vR 111 0), some (vI c), some (vI d), some (vI m), some (vI (T 232 0 m)), some (vI (T 233 0 m)), none] [vI v] T2 := by
        intro v T2 hf_106 sa2 i2
        have hra : (-1) ≤ T 205 0 (23 * c + v) ∧ T 205 0 (23 * c + v) ≤ 999 := bd_a hT 205 (by decide +kernel : ta_ 205 = some (1, some 92, (-1), 999)) 0 (by omega)
        have hrb : (-1) ≤ T 205 0 (23 * c + (4 - v)) ∧ T 205 0 (23 * c + (4 - v)) ≤ 999 := bd_a hT 205 (by decide +kernel : ta_ 205 = some (1, some 92, (-1), 999)) 0 (by omega)
        refine j_blx (F := fX11) tb_X11 (nn_ _) bk_X11_sayHead_106 bs_X11_sayHead_106 hz (fun K hK => ?_)
        refine rg_i (by omega) ?_
        refine ix_i (by omega) ?_
        intro b1 b1b
        refine hK 122 [some (vR 111 0), some (vI c), some (vI d), some (vI m), some (vI (T 232 0 m)), some (vI (T 233 0 m)), some (vI v)] [vI v, vI c, vR 111 0, vI (T2 284 0 (3 * (T 232 0 m))), vI (3 * (T 232 0 m)), vR 284 0] T2 ?_
        refine j_callV (y := yX11_rule0) (Yc := zX11_rule0) (rest := [vI (T2 284 0 (3 * (T 232 0 m))), vI (3 * (T 232 0 m)), vR 284 0]) [vI c, vI v] (ct_X11_rule0 (T := T2) (by omega) (by omega)) cl_X11_321 (qd_c (by decide +kernel)) (nn_ _) rfl (rf_of rfl) (Nat.le_of_ble_eq_true rfl) (Nat.le_of_ble_eq_true rfl) (Nat.le_of_ble_eq_true rfl) rfl ?_
        rintro _ _ ⟨rfl, rfl⟩
        have e2 : T2 205 0 (23 * c + v) = T 205 0 (23 * c + v) := hf_106 205 0 (23 * c + v) rfl
        show J_ zX11_sayHead T (po_X11_sayHead T bb c d) 0 0 125 _ [vI (T2 205 0 (23 * c + v)), vI (T2 284 0 (3 * (T 232 0 m))), vI (3 * (T 232 0 m)), vR 284 0] T2
        refine j_blx (F := fX11) tb_X11 (nn_ _) bk_X11_sayHead_125 bs_X11_sayHead_125 hz (fun K hK => ?_)
        have t3 : -(bb + 120000 * (m - T 210 0 c)) ≤ T2 284 0 (3 * (T 232 0 m)) ∧ T2 284 0 (3 * (T 232 0 m)) ≤ bb + 120000 * (m - T 210 0 c) := (sa2) (3 * (T 232 0 m)) (by omega) (by omega)
        refine rg_i (by omega) ?_
        refine iy_i (by omega) (by omega) ?_
        refine x_nm (fun U4 hU4 => ?_)
        have e5 := up_f hU4
        refine rg_i (by omega) ?_
        refine ix_i (by omega) ?_
        intro b6 b6b
        refine rg_i (by omega) ?_
        refine hK 143 _ [vI (4 - v), vI c, vR 111 0, vI (U4 284 0 (3 * (T 233 0 m))), vI (3 * (T 233 0 m)), vR 284 0] U4 ?_
        refine j_callV (y := yX11_rule0) (Yc := zX11_rule0) (rest := [vI (U4 284 0 (3 * (T 233 0 m))), vI (3 * (T 233 0 m)), vR 284 0]) [vI c, vI (4 - v)] (ct_X11_rule0 (T := U4) (by omega) (by omega)) cl_X11_321 (qd_c (by decide +kernel)) (nn_ _) rfl (rf_of rfl) (Nat.le_of_ble_eq_true rfl) (Nat.le_of_ble_eq_true rfl) (Nat.le_of_ble_eq_true rfl) rfl ?_
        rintro _ _ ⟨rfl, rfl⟩
        have e7 : U4 205 0 (23 * c + (4 - v)) = T 205 0 (23 * c + (4 - v)) := (up_k hU4 (by exact Nat.ne_of_beq_eq_false rfl) 0 (23 * c + (4 - v))).trans (hf_106 205 0 (23 * c + (4 - v)) rfl)
        show J_ zX11_sayHead T (po_X11_sayHead T bb c d) 0 0 146 _ [vI (U4 205 0 (23 * c + (4 - v))), vI (U4 284 0 (3 * (T 233 0 m))), vI (3 * (T 233 0 m)), vR 284 0] U4
        refine j_blx (F := fX11) tb_X11 (nn_ _) bk_X11_sayHead_146 bs_X11_sayHead_146 hz (fun K hK => ?_)
        have t8 : -(bb + 120000 * (m - T 210 0 c) + 20000) ≤ U4 284 0 (3 * (T 233 0 m)) ∧ U4 284 0 (3 * (T 233 0 m)) ≤ bb + 120000 * (m - T 210 0 c) + 20000 := (sa_u (d := 20000) (sa2) hU4 (by decide) (by omega)) (3 * (T 233 0 m)) (by omega) (by omega)
        refine rg_i (by omega) ?_
        refine iy_i (by omega) (by omega) ?_
        refine x_nm (fun U9 hU9 => ?_)
        have e10 := up_f hU9
        refine rg_i (by omega) ?_
        refine rg_i (by omega) ?_
        refine ix_i (by omega) ?_
        intro b11 b11b
        intro b12 b12b
        have e13 : U9 111 0 82 = T2 111 0 82 := (up_k hU9 (by exact Nat.ne_of_beq_eq_false rfl) 0 82).trans (up_k hU4 (by exact Nat.ne_of_beq_eq_false rfl) 0 82)
        rw [e13] at b12 b12b ⊢
        intro b14 b14b
        have e15 : U9 111 0 83 = T2 111 0 83 := (up_k hU9 (by exact Nat.ne_of_beq_eq_false rfl) 0 83).trans (up_k hU4 (by exact Nat.ne_of_beq_eq_false rfl) 0 83)
        rw [e15] at b14 b14b ⊢
        refine rg_i (by omega) ?_
        have t16 : -(bb + 120000 * (m - T 210 0 c) + 20000 + 20000) ≤ U9 284 0 ((3 * (T 232 0 m)) + 1) ∧ U9 284 0 ((3 * (T 232 0 m)) + 1) ≤ bb + 120000 * (m - T 210 0 c) + 20000 + 20000 := (sa_u (d := 20000) (sa_u (d := 20000) (sa2) hU4 (by decide) (by omega)) hU9 (by decide) (by omega)) ((3 * (T 232 0 m)) + 1) (by omega) (by omega)
        refine rg_i (by omega) ?_
        refine iy_i (by omega) (by omega) ?_
        refine x_nm (fun U17 hU17 => ?_)
        have e18 := up_f hU17
        refine rg_i (by omega) ?_
        refine rg_i (by omega) ?_
        refine ix_i (by omega) ?_
        intro b19 b19b
        intro b20 b20b
        have e21 : U17 111 0 83 = T2 111 0 83 := (up_k hU17 (by exact Nat.ne_of_beq_eq_false rfl) 0 83).trans ((up_k hU9 (by exact Nat.ne_of_beq_eq_false rfl) 0 83).trans (up_k hU4 (by exact Nat.ne_of_beq_eq_false rfl) 0 83))
        rw [e21] at b20 b20b ⊢
        intro b22 b22b
        have e23 : U17 111 0 82 = T2 111 0 82 := (up_k hU17 (by exact Nat.ne_of_beq_eq_false rfl) 0 82).trans ((up_k hU9 (by exact Nat.ne_of_beq_eq_false rfl) 0 82).trans (up_k hU4 (by exact Nat.ne_of_beq_eq_false rfl) 0 82))
        rw [e23] at b22 b22b ⊢
        refine rg_i (by omega) ?_
        have t24 : -(bb + 120000 * (m - T 210 0 c) + 20000 + 20000 + 20000) ≤ U17 284 0 ((3 * (T 233 0 m)) + 1) ∧ U17 284 0 ((3 * (T 233 0 m)) + 1) ≤ bb + 120000 * (m - T 210 0 c) + 20000 + 20000 + 20000 := (sa_u (d := 20000) (sa_u (d := 20000) (sa_u (d := 20000) (sa2) hU4 (by decide) (by omega)) hU9 (by decide) (by omega)) hU17 (by decide) (by omega)) ((3 * (T 233 0 m)) + 1) (by omega) (by omega)
        refine rg_i (by omega) ?_
        refine iy_i (by omega) (by omega) ?_
        refine x_nm (fun U25 hU25 => ?_)
        have e26 := up_f hU25
        refine rg_i (by omega) ?_
        refine rg_i (by omega) ?_
        refine ix_i (by omega) ?_
        intro b27 b27b
        intro b28 b28b
        have e29 : U25 111 0 82 = T2 111 0 82 := (up_k hU25 (by exact Nat.ne_of_beq_eq_false rfl) 0 82).trans ((up_k hU17 (by exact Nat.ne_of_beq_eq_false rfl) 0 82).trans ((up_k hU9 (by exact Nat.ne_of_beq_eq_false rfl) 0 82).trans (up_k hU4 (by exact Nat.ne_of_beq_eq_false rfl) 0 82)))
        rw [e29] at b28 b28b ⊢
        have t30 : -(bb + 120000 * (m - T 210 0 c) + 20000 + 20000 + 20000 + 20000) ≤ U25 284 0 ((3 * (T 232 0 m)) + 2) ∧ U25 284 0 ((3 * (T 232 0 m)) + 2) ≤ bb + 120000 * (m - T 210 0 c) + 20000 + 20000 + 20000 + 20000 := (sa_u (d := 20000) (sa_u (d := 20000) (sa_u (d := 20000) (sa_u (d := 20000) (sa2) hU4 (by decide) (by omega)) hU9 (by decide) (by omega)) hU17 (by decide) (by omega)) hU25 (by decide) (by omega)) ((3 * (T 232 0 m)) + 2) (by omega) (by omega)
        refine rg_i (by omega) ?_
        refine iy_i (by omega) (by omega) ?_
        refine x_nm (fun U31 hU31 => ?_)
        have e32 := up_f hU31
        refine rg_i (by omega) ?_
        refine rg_i (by omega) ?_
        refine ix_i (by omega) ?_
        intro b33 b33b
        intro b34 b34b
        have e35 : U31 111 0 83 = T2 111 0 83 := (up_k hU31 (by exact Nat.ne_of_beq_eq_false rfl) 0 83).trans ((up_k hU25 (by exact Nat.ne_of_beq_eq_false rfl) 0 83).trans ((up_k hU17 (by exact Nat.ne_of_beq_eq_false rfl) 0 83).trans ((up_k hU9 (by exact Nat.ne_of_beq_eq_false rfl) 0 83).trans (up_k hU4 (by exact Nat.ne_of_beq_eq_false rfl) 0 83))))
        rw [e35] at b34 b34b ⊢
        have t36 : -(bb + 120000 * (m - T 210 0 c) + 20000 + 20000 + 20000 + 20000 + 20000) ≤ U31 284 0 ((3 * (T 233 0 m)) + 2) ∧ U31 284 0 ((3 * (T 233 0 m)) + 2) ≤ bb + 120000 * (m - T 210 0 c) + 20000 + 20000 + 20000 + 20000 + 20000 := (sa_u (d := 20000) (sa_u (d := 20000) (sa_u (d := 20000) (sa_u (d := 20000) (sa_u (d := 20000) (sa2) hU4 (by decide) (by omega)) hU9 (by decide) (by omega)) hU17 (by decide) (by omega)) hU25 (by decide) (by omega)) hU31 (by decide) (by omega)) ((3 * (T 233 0 m)) + 2) (by omega) (by omega)
        refine rg_i (by omega) ?_
        refine iy_i (by omega) (by omega) ?_
        refine x_nm (fun U37 hU37 => ?_)
        have e38 := up_f hU37
        refine hK 230 _ [] U37 ?_
        refine j_drop [some (vR 111 0), some (vI c), some (vI d), some (vI m), none, none, none] (fun k v hk => ?_) rfl ?_
        · match k, hk with
          | 0, hk => exact hk
          | 1, hk => exact hk
          | 2, hk => exact hk
          | 3, hk => exact hk
          | 4, hk => cases hk
          | 5, hk => cases hk
          | 6, hk => cases hk
          | k + 7, hk => cases hk
        refine c_230 U37 ?_ ?_ ?_
        · exact fr_u (fr_u (fr_u (fr_u (fr_u (fr_u (fr_t (fr_0 _ _) (fr_s hf_106 rfl)) hU4 rfl) hU9 rfl) hU17 rfl) hU25 rfl) hU31 rfl) hU37 rfl
        · exact sa_m (sa_u (d := 20000) (sa_u (d := 20000) (sa_u (d := 20000) (sa_u (d := 20000) (sa_u (d := 20000) (sa_u (d := 20000) (sa2) hU4 (by decide) (by omega)) hU9 (by decide) (by omega)) hU17 (by decide) (by omega)) hU25 (by decide) (by omega)) hU31 (by decide) (by omega)) hU37 (by decide) (by omega)) (by omega)
        · omega
      refine j_blx (F := fX11) tb_X11 (nn_ _) bk_X11_sayHead_7 bs_X11_sayHead_7 hz (fun K hK => ?_)
      refine ix_i (by omega) ?_
      intro b39 b39b
      have e40 : T1 210 0 c = T 210 0 c := hf_7 210 0 c rfl
      rw [e40] at b39 b39b ⊢
      refine ix_i (by omega) ?_
      intro b41 b41b
      have e42 : T1 211 0 c = T 211 0 c := hf_7 211 0 c rfl
      rw [e42] at b41 b41b ⊢
      refine rg_i (by omega) ?_
      refine And.intro (fun c43 => ?_) (fun c43 => ?_)
      · refine hK 236 _ [] T1 ?_
        refine j_blx (F := fX11) tb_X11 (nn_ _) bk_X11_sayHead_236 bs_X11_sayHead_236 hz (fun K hK => ?_)
        refine (show po_X11_sayHead T bb c d T1 (none) from ?_)
        exact ⟨rfl, fr_t (fr_0 _ _) (fr_s hf_7 rfl), sa_m sa1 (by omega)⟩
      · refine ix_i (by omega) ?_
        intro b44 b44b
        have e45 : T1 232 0 m = T 232 0 m := hf_7 232 0 m rfl
        rw [e45] at b44 b44b ⊢
        refine ix_i (by omega) ?_
        intro b46 b46b
        have e47 : T1 233 0 m = T 233 0 m := hf_7 233 0 m rfl
        rw [e47] at b46 b46b ⊢
        intro b48 b48b
        have e49 : T1 111 0 85 = T 111 0 85 := hf_7 111 0 85 rfl
        rw [e49] at b48 b48b ⊢
        intro w50 w50b
        intro w51 w51b
        refine And.intro (fun c52 => ?_) (fun c52 => ?_)
        · refine hK 230 [some (vR 111 0), some (vI c), some (vI d), some (vI m), some (vI (T 232 0 m)), some (vI (T 233 0 m)), none] [] T1 ?_
          refine j_drop [some (vR 111 0), some (vI c), some (vI d), some (vI m), none, none, none] (fun k v hk => ?_) rfl ?_
          · match k, hk with
            | 0, hk => exact hk
            | 1, hk => exact hk
            | 2, hk => exact hk
            | 3, hk => exact hk
            | 4, hk => cases hk
            | 5, hk => cases hk
            | 6, hk => cases hk
            | k + 7, hk => cases hk
          refine c_230 T1 ?_ ?_ ?_
          · exact fr_t (fr_0 _ _) (fr_s hf_7 rfl)
          · exact sa_m (sa1) (by omega)
          · omega
        · intro b53 b53b
          have e54 : T1 111 0 85 = T 111 0 85 := hf_7 111 0 85 rfl
          rw [e54] at b53 b53b ⊢
          intro w55 w55b
          intro w56 w56b
          refine And.intro (fun c57 => ?_) (fun c57 => ?_)
          · refine hK 230 [some (vR 111 0), some (vI c), some (vI d), some (vI m), some (vI (T 232 0 m)), some (vI (T 233 0 m)), none] [] T1 ?_
            refine j_drop [some (vR 111 0), some (vI c), some (vI d), some (vI m), none, none, none] (fun k v hk => ?_) rfl ?_
            · match k, hk with
              | 0, hk => exact hk
              | 1, hk => exact hk
              | 2, hk => exact hk
              | 3, hk => exact hk
              | 4, hk => cases hk
              | 5, hk => cases hk
              | 6, hk => cases hk
              | k + 7, hk => cases hk
            refine c_230 T1 ?_ ?_ ?_
            · exact fr_t (fr_0 _ _) (fr_s hf_7 rfl)
            · exact sa_m (sa1) (by omega)
            · omega
          · refine hK 69 [some (vR 111 0), some (vI c), some (vI d), some (vI m), some (vI (T 232 0 m)), some (vI (T 233 0 m)), none] [vI d, vI m, vR 111 0] T1 ?_
            refine j_callV (y := yX11_counts) (Yc := zX11_counts) (rest := []) [vI m, vI d] (ct_X11_counts (T := T1) (by omega) (SC__f (ws := [(284, []), (111, [82, 83])]) hsc (fr_t (fr_0 _ _) (fr_s hf_7 rfl)) ⟨fun _ => rfl, fun _ => rfl, trivial⟩)) cl_X11_487 (qd_c (by decide +kernel)) (nn_ _) rfl (rf_of rfl) (Nat.le_of_ble_eq_true rfl) (Nat.le_of_ble_eq_true rfl) (Nat.le_of_ble_eq_true rfl) rfl ?_
            rintro U58 _ ⟨x59, rfl, fU58, qU58⟩
            show J_ zX11_sayHead T (po_X11_sayHead T bb c d) 0 0 72 _ [vI x59] U58
            refine j_blx (F := fX11) tb_X11 (nn_ _) bk_X11_sayHead_72 bs_X11_sayHead_72 hz (fun K hK => ?_)
            refine And.intro (fun c60 => ?_) (fun c60 => ?_)
            · refine hK 230 _ [] U58 ?_
              refine j_drop [some (vR 111 0), some (vI c), some (vI d), some (vI m), none, none, none] (fun k v hk => ?_) rfl ?_
              · match k, hk with
                | 0, hk => exact hk
                | 1, hk => exact hk
                | 2, hk => exact hk
                | 3, hk => exact hk
                | 4, hk => cases hk
                | 5, hk => cases hk
                | 6, hk => cases hk
                | k + 7, hk => cases hk
              refine c_230 U58 ?_ ?_ ?_
              · exact fr_t (fr_t (fr_0 _ _) (fr_s hf_7 rfl)) (fr_s fU58 rfl)
              · exact sa_m (sa_f (sa1) (fun j => fU58 284 0 j rfl)) (by omega)
              · omega
            · intro b61 b61b
              intro b62 b62b
              refine And.intro (fun c63 => ?_) (fun c63 => ?_)
              · refine hK 90 [some (vR 111 0), some (vI c), some (vI d), some (vI m), some (vI (T 232 0 m)), some (vI (T 233 0 m)), none] [] U58 ?_
                refine j_blx (F := fX11) tb_X11 (nn_ _) bk_X11_sayHead_90 bs_X11_sayHead_90 hz (fun K hK => ?_)
                intro b64 b64b
                intro b65 b65b
                refine And.intro (fun c66 => ?_) (fun c66 => ?_)
                · refine hK 105 _ [] U58 ?_
                  refine j_blx (F := fX11) tb_X11 (nn_ _) bk_X11_sayHead_105 bs_X11_sayHead_105 hz (fun K hK => ?_)
                  refine hK 106 _ [vI 3] U58 ?_
                  refine c_106 3 U58 ?_ ?_ ?_
                  · exact fr_t (fr_t (fr_0 _ _) (fr_s hf_7 rfl)) (fr_s fU58 rfl)
                  · exact sa_m (sa_f (sa1) (fun j => fU58 284 0 j rfl)) (by omega)
                  · omega
                · refine hK 106 _ [vI 2] U58 ?_
                  refine c_106 2 U58 ?_ ?_ ?_
                  · exact fr_t (fr_t (fr_0 _ _) (fr_s hf_7 rfl)) (fr_s fU58 rfl)
                  · exact sa_m (sa_f (sa1) (fun j => fU58 284 0 j rfl)) (by omega)
                  · omega
              · refine hK 106 _ [vI 1] U58 ?_
                refine c_106 1 U58 ?_ ?_ ?_
                · exact fr_t (fr_t (fr_0 _ _) (fr_s hf_7 rfl)) (fr_s fU58 rfl)
                · exact sa_m (sa_f (sa1) (fun j => fU58 284 0 j rfl)) (by omega)
                · omega
  refine j_blx (F := fX11) tb_X11 (nn_ _) bk_X11_sayHead_0 bs_X11_sayHead_0 hz (fun K hK => ?_)
  refine ix_i (by omega) ?_
  intro b67 b67b
  refine hK 7 [some (vR 111 0), some (vI c), some (vI d), some (vI (T 210 0 c)), none, none, none] [] T ?_
  refine c_7 _ (T 210 0 c) T (Nat.le_refl _) ?_ ?_ ?_
  · exact fr_0 _ _
  · exact sa_m (hsa) (by omega)
  · omega
def SN_ (T : Zt) : Prop := ∀ j, 0 ≤ j → j < 36 → 0 ≤ T 284 0 j ∧ T 284 0 j ≤ 2147483647
theorem sb_a {T : Zt} {b : Int} (h : SA_ T b) (hb : b ≤ 1000000000) : SB_ T := fun x y i a1 a2 a3 a4 a5 a6 => by
  have p := h (3 * x + i) (by omega) (by omega)
  have q := h (3 * y + i) (by omega) (by omega)
  omega
theorem sb_n {T : Zt} (h : SN_ T) : SB_ T := fun x y i a1 a2 a3 a4 a5 a6 => by
  have p := h (3 * x + i) (by omega) (by omega)
  have q := h (3 * y + i) (by omega) (by omega)
  omega
theorem sa_v {T T1 : Zt} {b i v : Int} (h : SA_ T b) (e : T1 = up_ T 284 0 i v) (hv : -b ≤ v ∧ v ≤ b) : SA_ T1 b := fun j a c => by
  by_cases z : j = i
  · rw [z, up_f e]; exact hv
  · rw [up_g e (fun q => z q.2.2)]; exact h j a c
theorem sn_v {T T1 : Zt} {i v : Int} (h : SN_ T) (e : T1 = up_ T 284 0 i v) (hv : 0 ≤ v ∧ v ≤ 2147483647) : SN_ T1 := fun j a c => by
  by_cases z : j = i
  · rw [z, up_f e]; exact hv
  · rw [up_g e (fun q => z q.2.2)]; exact h j a c
abbrev cX11_say : ByteArray := prog_13_method_87_code
def yX11_say : MethodName := ⟨RX11, "say", "(III)V"⟩
def zX11_say : Zm := (RX11, cX11_say, 7, none, { frames := 2, cells := 0, slots := 0, locals := 48 })
theorem bk_X11_say_285 : ck_ fX11 none cX11_say 285 [.iinc 5 1, .goto 59] 291 = true := qck_r (nn_ _) (by decide +kernel)
theorem bs_X11_say_285 {P : Zt → Option Zv → Prop} (K : Int → Zl → List Zv → Zt → Prop) : sx_ K P [.iinc 5 1, .goto 59] 291 = x_iinc 5 1 (x_goto 59 K) := ((xe_iinc 5 1).trans (congrArg (x_iinc 5 1) (xe_goto 59)))
theorem bk_X11_say_59 : ck_ fX11 none cX11_say 59 [.iload 5, .aload 0, .tableswitch 0 11 12 #[], .if_icmp .ge 291, .iconst 9, .iload 5, .imul, .istore 6, .iload 4] 77 = true := qck_r (nn_ _) (by decide +kernel)
theorem bs_X11_say_59 {P : Zt → Option Zv → Prop} (K : Int → Zl → List Zv → Zt → Prop) : sx_ K P [.iload 5, .aload 0, .tableswitch 0 11 12 #[], .if_icmp .ge 291, .iconst 9, .iload 5, .imul, .istore 6, .iload 4] 77 = x_iload 5 (x_aload 0 (x_g0 111 12 0 12 (x_if_icmp .ge 291 K (x_iconst 9 (x_iload 5 (x_imul (x_istore 6 (x_iload 4 (K 77))))))))) := ((xe_iload 5).trans (congrArg (x_iload 5) ((xe_aload 0).trans (congrArg (x_aload 0) ((xe_g0 (kk := 111) rfl tl_11_12).trans (congrArg (x_g0 111 12 0 12) ((xe_if_icmp .ge 291).trans (congrArg (x_if_icmp .ge 291 K) ((xe_iconst 9).trans (congrArg (x_iconst 9) ((xe_iload 5).trans (congrArg (x_iload 5) ((xe_imul).trans (congrArg (x_imul) ((xe_istore 6).trans (congrArg (x_istore 6) ((xe_iload 4).trans (congrArg (x_iload 4) xe_nil))))))))))))))))))
theorem bk_X11_say_291 : ck_ fX11 none cX11_say 291 [.return_] 292 = true := qck_r (nn_ _) (by decide +kernel)
theorem bs_X11_say_291 {P : Zt → Option Zv → Prop} (K : Int → Zl → List Zv → Zt → Prop) : sx_ K P [.return_] 292 = x_return_ P := (xe_return_)
theorem ds_X11_say_77 : decode cX11_say 77 = .ok (.tableswitch 183 (-1) 5 #[43, 65, 96, 117, 138, 183, 160], 43) := by decide +kernel
theorem bk_X11_say_120 : ck_ fX11 none cX11_say 120 [.aload 0, .tableswitch 0 11 84 #[], .iconst 3, .iload 5, .imul, .aload 0, .tableswitch 0 11 76 #[], .iload 6, .iconst 6, .iadd, .iaload, .iastore, .goto 285] 142 = true := qck_r (nn_ _) (by decide +kernel)
theorem bs_X11_say_120 {P : Zt → Option Zv → Prop} (K : Int → Zl → List Zv → Zt → Prop) : sx_ K P [.aload 0, .tableswitch 0 11 84 #[], .iconst 3, .iload 5, .imul, .aload 0, .tableswitch 0 11 76 #[], .iload 6, .iconst 6, .iadd, .iaload, .iastore, .goto 285] 142 = x_aload 0 (x_g1 111 284 (x_iconst 3 (x_iload 5 (x_imul (x_aload 0 (x_g1 111 276 (x_iload 6 (x_iconst 6 (x_iadd (x_iaload (x_iastore (x_goto 285 K)))))))))))) := ((xe_aload 0).trans (congrArg (x_aload 0) ((xe_g1 (kk := 111) rfl tl_11_84).trans (congrArg (x_g1 111 284) ((xe_iconst 3).trans (congrArg (x_iconst 3) ((xe_iload 5).trans (congrArg (x_iload 5) ((xe_imul).trans (congrArg (x_imul) ((xe_aload 0).trans (congrArg (x_aload 0) ((xe_g1 (kk := 111) rfl tl_11_76).trans (congrArg (x_g1 111 276) ((xe_iload 6).trans (congrArg (x_iload 6) ((xe_iconst 6).trans (congrArg (x_iconst 6) ((xe_iadd).trans (congrArg (x_iadd) ((xe_iaload).trans (congrArg (x_iaload) ((xe_iastore).trans (congrArg (x_iastore) (xe_goto 285)))))))))))))))))))))))))
theorem bk_X11_say_142 : ck_ fX11 none cX11_say 142 [.aload 0, .tableswitch 0 11 84 #[], .iconst 3, .iload 5, .imul, .aload 0, .tableswitch 0 11 76 #[], .iload 6, .iconst 4, .iadd, .iaload, .aload 0, .tableswitch 0 11 76 #[], .iload 6, .iconst 5, .iadd, .iaload, .isub, .iastore, .goto 285] 173 = true := qck_r (nn_ _) (by decide +kernel)
theorem bs_X11_say_142 {P : Zt → Option Zv → Prop} (K : Int → Zl → List Zv → Zt → Prop) : sx_ K P [.aload 0, .tableswitch 0 11 84 #[], .iconst 3, .iload 5, .imul, .aload 0, .tableswitch 0 11 76 #[], .iload 6, .iconst 4, .iadd, .iaload, .aload 0, .tableswitch 0 11 76 #[], .iload 6, .iconst 5, .iadd, .iaload, .isub, .iastore, .goto 285] 173 = x_aload 0 (x_g1 111 284 (x_iconst 3 (x_iload 5 (x_imul (x_aload 0 (x_g1 111 276 (x_iload 6 (x_iconst 4 (x_iadd (x_iaload (x_aload 0 (x_g1 111 276 (x_iload 6 (x_iconst 5 (x_iadd (x_iaload (x_isub (x_iastore (x_goto 285 K))))))))))))))))))) := ((xe_aload 0).trans (congrArg (x_aload 0) ((xe_g1 (kk := 111) rfl tl_11_84).trans (congrArg (x_g1 111 284) ((xe_iconst 3).trans (congrArg (x_iconst 3) ((xe_iload 5).trans (congrArg (x_iload 5) ((xe_imul).trans (congrArg (x_imul) ((xe_aload 0).trans (congrArg (x_aload 0) ((xe_g1 (kk := 111) rfl tl_11_76).trans (congrArg (x_g1 111 276) ((xe_iload 6).trans (congrArg (x_iload 6) ((xe_iconst 4).trans (congrArg (x_iconst 4) ((xe_iadd).trans (congrArg (x_iadd) ((xe_iaload).trans (congrArg (x_iaload) ((xe_aload 0).trans (congrArg (x_aload 0) ((xe_g1 (kk := 111) rfl tl_11_76).trans (congrArg (x_g1 111 276) ((xe_iload 6).trans (congrArg (x_iload 6) ((xe_iconst 5).trans (congrArg (x_iconst 5) ((xe_iadd).trans (congrArg (x_iadd) ((xe_iaload).trans (congrArg (x_iaload) ((xe_isub).trans (congrArg (x_isub) ((xe_iastore).trans (congrArg (x_iastore) (xe_goto 285)))))))))))))))))))))))))))))))))))))))
theorem bk_X11_say_173 : ck_ fX11 none cX11_say 173 [.aload 0, .tableswitch 0 11 84 #[], .iconst 3, .iload 5, .imul, .aload 0, .tableswitch 0 11 76 #[], .iload 6, .iconst 4, .iadd, .iaload, .iastore, .goto 285] 194 = true := qck_r (nn_ _) (by decide +kernel)
theorem bs_X11_say_173 {P : Zt → Option Zv → Prop} (K : Int → Zl → List Zv → Zt → Prop) : sx_ K P [.aload 0, .tableswitch 0 11 84 #[], .iconst 3, .iload 5, .imul, .aload 0, .tableswitch 0 11 76 #[], .iload 6, .iconst 4, .iadd, .iaload, .iastore, .goto 285] 194 = x_aload 0 (x_g1 111 284 (x_iconst 3 (x_iload 5 (x_imul (x_aload 0 (x_g1 111 276 (x_iload 6 (x_iconst 4 (x_iadd (x_iaload (x_iastore (x_goto 285 K)))))))))))) := ((xe_aload 0).trans (congrArg (x_aload 0) ((xe_g1 (kk := 111) rfl tl_11_84).trans (congrArg (x_g1 111 284) ((xe_iconst 3).trans (congrArg (x_iconst 3) ((xe_iload 5).trans (congrArg (x_iload 5) ((xe_imul).trans (congrArg (x_imul) ((xe_aload 0).trans (congrArg (x_aload 0) ((xe_g1 (kk := 111) rfl tl_11_76).trans (congrArg (x_g1 111 276) ((xe_iload 6).trans (congrArg (x_iload 6) ((xe_iconst 4).trans (congrArg (x_iconst 4) ((xe_iadd).trans (congrArg (x_iadd) ((xe_iaload).trans (congrArg (x_iaload) ((xe_iastore).trans (congrArg (x_iastore) (xe_goto 285)))))))))))))))))))))))))
theorem bk_X11_say_194 : ck_ fX11 none cX11_say 194 [.aload 0, .tableswitch 0 11 84 #[], .iconst 3, .iload 5, .imul, .aload 0, .tableswitch 0 11 76 #[], .iload 6, .iconst 1, .iadd, .iaload, .iastore, .goto 285] 215 = true := qck_r (nn_ _) (by decide +kernel)
theorem bs_X11_say_194 {P : Zt → Option Zv → Prop} (K : Int → Zl → List Zv → Zt → Prop) : sx_ K P [.aload 0, .tableswitch 0 11 84 #[], .iconst 3, .iload 5, .imul, .aload 0, .tableswitch 0 11 76 #[], .iload 6, .iconst 1, .iadd, .iaload, .iastore, .goto 285] 215 = x_aload 0 (x_g1 111 284 (x_iconst 3 (x_iload 5 (x_imul (x_aload 0 (x_g1 111 276 (x_iload 6 (x_iconst 1 (x_iadd (x_iaload (x_iastore (x_goto 285 K)))))))))))) := ((xe_aload 0).trans (congrArg (x_aload 0) ((xe_g1 (kk := 111) rfl tl_11_84).trans (congrArg (x_g1 111 284) ((xe_iconst 3).trans (congrArg (x_iconst 3) ((xe_iload 5).trans (congrArg (x_iload 5) ((xe_imul).trans (congrArg (x_imul) ((xe_aload 0).trans (congrArg (x_aload 0) ((xe_g1 (kk := 111) rfl tl_11_76).trans (congrArg (x_g1 111 276) ((xe_iload 6).trans (congrArg (x_iload 6) ((xe_iconst 1).trans (congrArg (x_iconst 1) ((xe_iadd).trans (congrArg (x_iadd) ((xe_iaload).trans (congrArg (x_iaload) ((xe_iastore).trans (congrArg (x_iastore) (xe_goto 285)))))))))))))))))))))))))
theorem bk_X11_say_215 : ck_ fX11 none cX11_say 215 [.aload 0, .tableswitch 0 11 84 #[], .iconst 3, .iload 5, .imul, .aload 0, .tableswitch 0 11 76 #[], .iload 6, .iconst 7, .iadd, .iaload, .iastore, .goto 285] 237 = true := qck_r (nn_ _) (by decide +kernel)
theorem bs_X11_say_215 {P : Zt → Option Zv → Prop} (K : Int → Zl → List Zv → Zt → Prop) : sx_ K P [.aload 0, .tableswitch 0 11 84 #[], .iconst 3, .iload 5, .imul, .aload 0, .tableswitch 0 11 76 #[], .iload 6, .iconst 7, .iadd, .iaload, .iastore, .goto 285] 237 = x_aload 0 (x_g1 111 284 (x_iconst 3 (x_iload 5 (x_imul (x_aload 0 (x_g1 111 276 (x_iload 6 (x_iconst 7 (x_iadd (x_iaload (x_iastore (x_goto 285 K)))))))))))) := ((xe_aload 0).trans (congrArg (x_aload 0) ((xe_g1 (kk := 111) rfl tl_11_84).trans (congrArg (x_g1 111 284) ((xe_iconst 3).trans (congrArg (x_iconst 3) ((xe_iload 5).trans (congrArg (x_iload 5) ((xe_imul).trans (congrArg (x_imul) ((xe_aload 0).trans (congrArg (x_aload 0) ((xe_g1 (kk := 111) rfl tl_11_76).trans (congrArg (x_g1 111 276) ((xe_iload 6).trans (congrArg (x_iload 6) ((xe_iconst 7).trans (congrArg (x_iconst 7) ((xe_iadd).trans (congrArg (x_iadd) ((xe_iaload).trans (congrArg (x_iaload) ((xe_iastore).trans (congrArg (x_iastore) (xe_goto 285)))))))))))))))))))))))))
theorem bk_X11_say_260 : ck_ fX11 none cX11_say 260 [.aload 0, .tableswitch 0 11 84 #[], .iconst 3, .iload 5, .imul, .aload 0, .iload 1, .iconst 15] 272 = true := qck_r (nn_ _) (by decide +kernel)
theorem bs_X11_say_260 {P : Zt → Option Zv → Prop} (K : Int → Zl → List Zv → Zt → Prop) : sx_ K P [.aload 0, .tableswitch 0 11 84 #[], .iconst 3, .iload 5, .imul, .aload 0, .iload 1, .iconst 15] 272 = x_aload 0 (x_g1 111 284 (x_iconst 3 (x_iload 5 (x_imul (x_aload 0 (x_iload 1 (x_iconst 15 (K 272)))))))) := ((xe_aload 0).trans (congrArg (x_aload 0) ((xe_g1 (kk := 111) rfl tl_11_84).trans (congrArg (x_g1 111 284) ((xe_iconst 3).trans (congrArg (x_iconst 3) ((xe_iload 5).trans (congrArg (x_iload 5) ((xe_imul).trans (congrArg (x_imul) ((xe_aload 0).trans (congrArg (x_aload 0) ((xe_iload 1).trans (congrArg (x_iload 1) ((xe_iconst 15).trans (congrArg (x_iconst 15) xe_nil))))))))))))))))
theorem bk_X11_say_275 : ck_ fX11 none cX11_say 275 [.aload 0, .tableswitch 0 11 85 #[], .iload 5] 281 = true := qck_r (nn_ _) (by decide +kernel)
theorem bs_X11_say_275 {P : Zt → Option Zv → Prop} (K : Int → Zl → List Zv → Zt → Prop) : sx_ K P [.aload 0, .tableswitch 0 11 85 #[], .iload 5] 281 = x_aload 0 (x_g0 111 85 0 4095 (x_iload 5 (K 281))) := ((xe_aload 0).trans (congrArg (x_aload 0) ((xe_g0 (kk := 111) rfl tl_11_85).trans (congrArg (x_g0 111 85 0 4095) ((xe_iload 5).trans (congrArg (x_iload 5) xe_nil))))))
set_option maxRecDepth 100000 in
theorem cl_X11_505 : cs_ RX11 505 yX11_lot zX11_lot 3 := ⟨gi_S (lwq_9 (dqc_m (dqc_m (dqc_m (dqc_m (dqc_m (dqc_m (List.mem_of_getElem? (i := 6) rfl))))))) rfl : Cond.methodLink RX11 505 yX11_lot ∈ lw_g) (lwq_9 (dqc_m (dqc_m (dqc_m (dqc_m (dqc_m (dqc_m (List.mem_of_getElem? (i := 7) rfl))))))) rfl : Cond.static yX11_lot ∈ lw_g) (lwq_1 (dqa_m (List.mem_of_getElem? (i := 2) rfl)) rfl : Cond.initialized yX11_lot.cls ∈ lw_g) (lwq_9 (dqc_m (dqc_m (dqc_m (dqc_m (dqc_m (dqc_m (dqa_m (List.mem_of_getElem? (i := 0) rfl)))))))) rfl : Cond.code yX11_lot cX11_lot 5 (some .int) ∈ lw_g), ⟨by decide, by decide, by decide +kernel⟩⟩
theorem bk_X11_say_284 : ck_ fX11 none cX11_say 284 [.iastore] 285 = true := qck_r (nn_ _) (by decide +kernel)
theorem bs_X11_say_284 {P : Zt → Option Zv → Prop} (K : Int → Zl → List Zv → Zt → Prop) : sx_ K P [.iastore] 285 = x_iastore (K 285) := ((xe_iastore).trans (congrArg (x_iastore) xe_nil))
theorem bk_X11_say_237 : ck_ fX11 none cX11_say 237 [.aload 0, .tableswitch 0 11 84 #[], .iconst 3, .iload 5, .imul, .aload 0, .tableswitch 0 11 76 #[], .iload 6, .iconst 8, .iadd, .iaload, .ineg, .iastore, .goto 285] 260 = true := qck_r (nn_ _) (by decide +kernel)
theorem bs_X11_say_237 {P : Zt → Option Zv → Prop} (K : Int → Zl → List Zv → Zt → Prop) : sx_ K P [.aload 0, .tableswitch 0 11 84 #[], .iconst 3, .iload 5, .imul, .aload 0, .tableswitch 0 11 76 #[], .iload 6, .iconst 8, .iadd, .iaload, .ineg, .iastore, .goto 285] 260 = x_aload 0 (x_g1 111 284 (x_iconst 3 (x_iload 5 (x_imul (x_aload 0 (x_g1 111 276 (x_iload 6 (x_iconst 8 (x_iadd (x_iaload (x_ineg (x_iastore (x_goto 285 K))))))))))))) := ((xe_aload 0).trans (congrArg (x_aload 0) ((xe_g1 (kk := 111) rfl tl_11_84).trans (congrArg (x_g1 111 284) ((xe_iconst 3).trans (congrArg (x_iconst 3) ((xe_iload 5).trans (congrArg (x_iload 5) ((xe_imul).trans (congrArg (x_imul) ((xe_aload 0).trans (congrArg (x_aload 0) ((xe_g1 (kk := 111) rfl tl_11_76).trans (congrArg (x_g1 111 276) ((xe_iload 6).trans (congrArg (x_iload 6) ((xe_iconst 8).trans (congrArg (x_iconst 8) ((xe_iadd).trans (congrArg (x_iadd) ((xe_iaload).trans (congrArg (x_iaload) ((xe_ineg).trans (congrArg (x_ineg) ((xe_iastore).trans (congrArg (x_iastore) (xe_goto 285)))))))))))))))))))))))))))
theorem bk_X11_say_22 : ck_ fX11 none cX11_say 22 [.iload 5, .iconst 36, .if_icmp .ge 43, .aload 0, .tableswitch 0 11 84 #[], .iload 5, .iconst 0, .iastore, .iinc 5 1, .goto 22] 43 = true := qck_r (nn_ _) (by decide +kernel)
theorem bs_X11_say_22 {P : Zt → Option Zv → Prop} (K : Int → Zl → List Zv → Zt → Prop) : sx_ K P [.iload 5, .iconst 36, .if_icmp .ge 43, .aload 0, .tableswitch 0 11 84 #[], .iload 5, .iconst 0, .iastore, .iinc 5 1, .goto 22] 43 = x_iload 5 (x_iconst 36 (x_if_icmp .ge 43 K (x_aload 0 (x_g1 111 284 (x_iload 5 (x_iconst 0 (x_iastore (x_iinc 5 1 (x_goto 22 K))))))))) := ((xe_iload 5).trans (congrArg (x_iload 5) ((xe_iconst 36).trans (congrArg (x_iconst 36) ((xe_if_icmp .ge 43).trans (congrArg (x_if_icmp .ge 43 K) ((xe_aload 0).trans (congrArg (x_aload 0) ((xe_g1 (kk := 111) rfl tl_11_84).trans (congrArg (x_g1 111 284) ((xe_iload 5).trans (congrArg (x_iload 5) ((xe_iconst 0).trans (congrArg (x_iconst 0) ((xe_iastore).trans (congrArg (x_iastore) ((xe_iinc 5 1).trans (congrArg (x_iinc 5 1) (xe_goto 22)))))))))))))))))))
theorem bk_X11_say_43 : ck_ fX11 none cX11_say 43 [.iload 4, .iconst 4, .if_icmp .ne 56, .aload 0, .iload 1, .iload 2] 52 = true := qck_r (nn_ _) (by decide +kernel)
theorem bs_X11_say_43 {P : Zt → Option Zv → Prop} (K : Int → Zl → List Zv → Zt → Prop) : sx_ K P [.iload 4, .iconst 4, .if_icmp .ne 56, .aload 0, .iload 1, .iload 2] 52 = x_iload 4 (x_iconst 4 (x_if_icmp .ne 56 K (x_aload 0 (x_iload 1 (x_iload 2 (K 52)))))) := ((xe_iload 4).trans (congrArg (x_iload 4) ((xe_iconst 4).trans (congrArg (x_iconst 4) ((xe_if_icmp .ne 56).trans (congrArg (x_if_icmp .ne 56 K) ((xe_aload 0).trans (congrArg (x_aload 0) ((xe_iload 1).trans (congrArg (x_iload 1) ((xe_iload 2).trans (congrArg (x_iload 2) xe_nil))))))))))))
theorem bk_X11_say_56 : ck_ fX11 none cX11_say 56 [.iconst 0, .istore 5] 59 = true := qck_r (nn_ _) (by decide +kernel)
theorem bs_X11_say_56 {P : Zt → Option Zv → Prop} (K : Int → Zl → List Zv → Zt → Prop) : sx_ K P [.iconst 0, .istore 5] 59 = x_iconst 0 (x_istore 5 (K 59)) := ((xe_iconst 0).trans (congrArg (x_iconst 0) ((xe_istore 5).trans (congrArg (x_istore 5) xe_nil))))
set_option maxRecDepth 100000 in
theorem cl_X11_502 : cv_ RX11 502 yX11_sayHead zX11_sayHead 11 2 := ⟨gi_V (lwq_9 (dqc_m (dqc_m (dqc_m (dqc_m (dqc_m (dqc_m (List.mem_of_getElem? (i := 2) rfl))))))) rfl : Cond.methodLink RX11 502 yX11_sayHead ∈ lw_g) (lwq_9 (dqc_m (dqc_m (dqc_m (dqc_m (dqc_m (dqc_m (List.mem_of_getElem? (i := 4) rfl))))))) rfl : Cond.instanceMethod yX11_sayHead ∈ lw_g) (lw_sel 61 rfl : Cond.selects yX11_sayHead.cls yX11_sayHead yX11_sayHead ∈ lw_g) (lwq_1 (dqa_m (List.mem_of_getElem? (i := 2) rfl)) rfl : Cond.initialized yX11_sayHead.cls ∈ lw_g) (lwq_9 (dqc_m (dqc_m (dqc_m (dqc_m (dqc_m (dqc_m (List.mem_of_getElem? (i := 5) rfl))))))) rfl : Cond.code yX11_sayHead cX11_sayHead 7 none ∈ lw_g), ⟨nmh_1.1, nmh_1.2, pdq_0⟩, ⟨_, _, rfl⟩⟩
theorem bk_X11_say_55 : ck_ fX11 none cX11_say 55 [.return_] 56 = true := qck_r (nn_ _) (by decide +kernel)
theorem bs_X11_say_55 {P : Zt → Option Zv → Prop} (K : Int → Zl → List Zv → Zt → Prop) : sx_ K P [.return_] 56 = x_return_ P := (xe_return_)
theorem bk_X11_say_17 : ck_ fX11 none cX11_say 17 [.istore 4, .iconst 0, .istore 5] 22 = true := qck_r (nn_ _) (by decide +kernel)
theorem bs_X11_say_17 {P : Zt → Option Zv → Prop} (K : Int → Zl → List Zv → Zt → Prop) : sx_ K P [.istore 4, .iconst 0, .istore 5] 22 = x_istore 4 (x_iconst 0 (x_istore 5 (K 22))) := ((xe_istore 4).trans (congrArg (x_istore 4) ((xe_iconst 0).trans (congrArg (x_iconst 0) ((xe_istore 5).trans (congrArg (x_istore 5) xe_nil))))))
theorem bk_X11_say_0 : ck_ fX11 none cX11_say 0 [.iload 3, .ifCond .ne 8, .iconst (-1), .goto 17] 8 = true := qck_r (nn_ _) (by decide +kernel)
theorem bs_X11_say_0 {P : Zt → Option Zv → Prop} (K : Int → Zl → List Zv → Zt → Prop) : sx_ K P [.iload 3, .ifCond .ne 8, .iconst (-1), .goto 17] 8 = x_iload 3 (x_ifCond .ne 8 K (x_iconst (-1) (x_goto 17 K))) := ((xe_iload 3).trans (congrArg (x_iload 3) ((xe_ifCond .ne 8).trans (congrArg (x_ifCond .ne 8 K) ((xe_iconst (-1)).trans (congrArg (x_iconst (-1)) (xe_goto 17)))))))
theorem bk_X11_say_8 : ck_ fX11 none cX11_say 8 [.aload 0, .iload 1, .iconst 15, .iload 3, .iadd] 14 = true := qck_r (nn_ _) (by decide +kernel)
theorem bs_X11_say_8 {P : Zt → Option Zv → Prop} (K : Int → Zl → List Zv → Zt → Prop) : sx_ K P [.aload 0, .iload 1, .iconst 15, .iload 3, .iadd] 14 = x_aload 0 (x_iload 1 (x_iconst 15 (x_iload 3 (x_iadd (K 14))))) := ((xe_aload 0).trans (congrArg (x_aload 0) ((xe_iload 1).trans (congrArg (x_iload 1) ((xe_iconst 15).trans (congrArg (x_iconst 15) ((xe_iload 3).trans (congrArg (x_iload 3) ((xe_iadd).trans (congrArg (x_iadd) xe_nil))))))))))
abbrev po_X11_say (T : Zt) (c d k : Int) : Zt → Option Zv → Prop := fun T' r => r = none ∧ fr_ [(284, []), (111, [82, 83])] T T' ∧ (SB_ T')
set_option maxHeartbeats 4000000 in
theorem ct_X11_say {T : Zt} {c d k : Int} (h1 : 0 ≤ c ∧ c < 4) (hml : ML_ T) (hsc : SC_ T) (hk : 0 ≤ k ∧ k ≤ 7) (htb : TB_ T 150000000) : Ct_ yX11_say zX11_say T [vR 111 0, vI c, vI d, vI k] (po_X11_say T c d k) := by
  refine ct_of pn_11 rfl rfl (Nat.le_of_ble_eq_true rfl) (fun hT hav => ?_)
  have hr_c : -2147483648 ≤ c ∧ c ≤ 2147483647 := hav (vI c) (List.mem_cons_of_mem _ List.mem_cons_self)
  have hr_d : -2147483648 ≤ d ∧ d ≤ 2147483647 := hav (vI d) (List.mem_cons_of_mem _ (List.mem_cons_of_mem _ List.mem_cons_self))
  have hr_k : -2147483648 ≤ k ∧ k ≤ 2147483647 := hav (vI k) (List.mem_cons_of_mem _ (List.mem_cons_of_mem _ (List.mem_cons_of_mem _ List.mem_cons_self)))
  have hz : zX11_say.2.2.2.1 = some .boolean → ∀ (T' : Zt) (x : Int), po_X11_say T c d k T' (some (vI x)) → 0 ≤ x ∧ x ≤ 1 := fun h => by cases h
  have hb_12 : 0 ≤ T 111 0 12 ∧ T 111 0 12 ≤ 12 := bd_f hT 111 12 tl_11_12 0
  show J_ zX11_say T (po_X11_say T c d k) 0 0 0 [some (vR 111 0), some (vI c), some (vI d), some (vI k), none, none, none] [] T
  have c_17 : ∀ (v : Int), J_ zX11_say T (po_X11_say T c d k) 0 0 17 [some (vR 111 0), some (vI c), some (vI d), some (vI k), none, none, none] [vI v] T := by
    intro v 
    have c_59 : ∀ (nn : Nat) (i : Int) (T2 : Zt), ((12 - i).toNat) ≤ nn → (fr_ [(284, [])] T T2) → (((-1 ≤ v ∧ v ≤ 5) → SA_ T2 300000000) ∧ (¬ (-1 ≤ v ∧ v ≤ 5) → SN_ T2)) → (0 ≤ i ∧ v ≠ 4) → J_ zX11_say T (po_X11_say T c d k) 0 0 59 [some (vR 111 0), some (vI c), some (vI d), some (vI k), some (vI v), some (vI i), none] [] T2 := by
      intro nn
      induction nn using Nat.strongRecOn with
      | _ nn ih_59 =>
        intro i T2 hm_59 hf_59 w2 i2
        replace hm_59 := fun (_ : Unit) => hm_59
        have c_285 : ∀ (T3 : Zt), (fr_ [(284, [])] T T3) → (((-1 ≤ v ∧ v ≤ 5) → SA_ T3 300000000) ∧ (¬ (-1 ≤ v ∧ v ≤ 5) → SN_ T3)) → (i < 12) → J_ zX11_say T (po_X11_say T c d k) 0 0 285 [some (vR 111 0), some (vI c), some (vI d), some (vI k), some (vI v), some (vI i), none] [] T3 := by
          intro T3 hf_285 w3 i3
          refine j_blx (F := fX11) tb_X11 (nn_ _) bk_X11_say_285 bs_X11_say_285 hz (fun K hK => ?_)
          refine rg_i (by omega) ?_
          refine hK 59 [some (vR 111 0), some (vI c), some (vI d), some (vI k), some (vI v), some (vI (i + 1)), none] [] T3 ?_
          refine ih_59 _ ?_ (i + 1) T3 (Nat.le_refl _) ?_ ?_ ?_
          · have hm_59 := hm_59 (); omega
          · exact fr_t (fr_0 _ _) (fr_s hf_285 rfl)
          · exact w3
          · omega
        refine j_blx (F := fX11) tb_X11 (nn_ _) bk_X11_say_59 bs_X11_say_59 hz (fun K hK => ?_)
        intro b1 b1b
        have e2 : T2 111 0 12 = T 111 0 12 := hf_59 111 0 12 rfl
        rw [e2] at b1 b1b ⊢
        refine And.intro (fun c3 => ?_) (fun c3 => ?_)
        · refine hK 291 _ [] T2 ?_
          refine j_blx (F := fX11) tb_X11 (nn_ _) bk_X11_say_291 bs_X11_say_291 hz (fun K hK => ?_)
          refine (show po_X11_say T c d k T2 (none) from ?_)
          refine ⟨rfl, fr_t (fr_0 _ _) (fr_s hf_59 rfl), ?_⟩
          by_cases z : (-1 ≤ v ∧ v ≤ 5)
          · exact sb_a (w2.1 z) (by decide)
          · exact sb_n (w2.2 z)
        · have t1 := htb (9 * i + 1) (by omega) (by omega)
          have t4 := htb (9 * i + 4) (by omega) (by omega)
          have t5 := htb (9 * i + 5) (by omega) (by omega)
          have t6 := htb (9 * i + 6) (by omega) (by omega)
          have t7 := htb (9 * i + 7) (by omega) (by omega)
          have t8 := htb (9 * i + 8) (by omega) (by omega)
          refine rg_i (by omega) ?_
          refine hK 77 [some (vR 111 0), some (vI c), some (vI d), some (vI k), some (vI v), some (vI i), some (vI (9 * i))] [vI v] T2 ?_
          by_cases z4_0 : v = (-1)
          · refine j_tsI (pc := 77) 0 (off := 43) (tgt := 120) (by decide) ds_X11_say_77 (by omega) (by decide) rfl (by decide) (by decide) ?_
            refine j_blx (F := fX11) tb_X11 (nn_ _) bk_X11_say_120 bs_X11_say_120 hz (fun K hK => ?_)
            refine rg_i (by omega) ?_
            refine rg_i (by omega) ?_
            refine ix_i (by omega) ?_
            intro b5 b5b
            have e6 : T2 276 0 ((9 * i) + 6) = T 276 0 ((9 * i) + 6) := hf_59 276 0 ((9 * i) + 6) rfl
            rw [e6] at b5 b5b ⊢
            refine iy_i (by omega) (by omega) ?_
            refine x_nm (fun U7 hU7 => ?_)
            have e8 := up_f hU7
            refine hK 285 _ [] U7 ?_
            refine j_drop [some (vR 111 0), some (vI c), some (vI d), some (vI k), some (vI v), some (vI i), none] (fun k v hk => ?_) rfl ?_
            · match k, hk with
              | 0, hk => exact hk
              | 1, hk => exact hk
              | 2, hk => exact hk
              | 3, hk => exact hk
              | 4, hk => exact hk
              | 5, hk => exact hk
              | 6, hk => cases hk
              | k + 7, hk => cases hk
            refine c_285 U7 ?_ ?_ ?_
            · exact fr_u (fr_t (fr_0 _ _) (fr_s hf_59 rfl)) hU7 rfl
            · exact ⟨fun z => sa_v (w2.1 z) hU7 (by omega), fun z => sn_v (w2.2 z) hU7 (by omega)⟩
            · omega
          by_cases z4_1 : v = 0
          · refine j_tsI (pc := 77) 1 (off := 65) (tgt := 142) (by decide) ds_X11_say_77 (by omega) (by decide) rfl (by decide) (by decide) ?_
            refine j_blx (F := fX11) tb_X11 (nn_ _) bk_X11_say_142 bs_X11_say_142 hz (fun K hK => ?_)
            refine rg_i (by omega) ?_
            refine rg_i (by omega) ?_
            refine ix_i (by omega) ?_
            intro b9 b9b
            have e10 : T2 276 0 ((9 * i) + 4) = T 276 0 ((9 * i) + 4) := hf_59 276 0 ((9 * i) + 4) rfl
            rw [e10] at b9 b9b ⊢
            refine rg_i (by omega) ?_
            refine ix_i (by omega) ?_
            intro b11 b11b
            have e12 : T2 276 0 ((9 * i) + 5) = T 276 0 ((9 * i) + 5) := hf_59 276 0 ((9 * i) + 5) rfl
            rw [e12] at b11 b11b ⊢
            refine rg_i (by omega) ?_
            refine iy_i (by omega) (by omega) ?_
            refine x_nm (fun U13 hU13 => ?_)
            have e14 := up_f hU13
            refine hK 285 _ [] U13 ?_
            refine j_drop [some (vR 111 0), some (vI c), some (vI d), some (vI k), some (vI v), some (vI i), none] (fun k v hk => ?_) rfl ?_
            · match k, hk with
              | 0, hk => exact hk
              | 1, hk => exact hk
              | 2, hk => exact hk
              | 3, hk => exact hk
              | 4, hk => exact hk
              | 5, hk => exact hk
              | 6, hk => cases hk
              | k + 7, hk => cases hk
            refine c_285 U13 ?_ ?_ ?_
            · exact fr_u (fr_t (fr_0 _ _) (fr_s hf_59 rfl)) hU13 rfl
            · exact ⟨fun z => sa_v (w2.1 z) hU13 (by omega), fun z => sn_v (w2.2 z) hU13 (by omega)⟩
            · omega
          by_cases z4_2 : v = 1
          · refine j_tsI (pc := 77) 2 (off := 96) (tgt := 173) (by decide) ds_X11_say_77 (by omega) (by decide) rfl (by decide) (by decide) ?_
            refine j_blx (F := fX11) tb_X11 (nn_ _) bk_X11_say_173 bs_X11_say_173 hz (fun K hK => ?_)
            refine rg_i (by omega) ?_
            refine rg_i (by omega) ?_
            refine ix_i (by omega) ?_
            intro b15 b15b
            have e16 : T2 276 0 ((9 * i) + 4) = T 276 0 ((9 * i) + 4) := hf_59 276 0 ((9 * i) + 4) rfl
            rw [e16] at b15 b15b ⊢
            refine iy_i (by omega) (by omega) ?_
            refine x_nm (fun U17 hU17 => ?_)
            have e18 := up_f hU17
            refine hK 285 _ [] U17 ?_
            refine j_drop [some (vR 111 0), some (vI c), some (vI d), some (vI k), some (vI v), some (vI i), none] (fun k v hk => ?_) rfl ?_
            · match k, hk with
              | 0, hk => exact hk
              | 1, hk => exact hk
              | 2, hk => exact hk
              | 3, hk => exact hk
              | 4, hk => exact hk
              | 5, hk => exact hk
              | 6, hk => cases hk
              | k + 7, hk => cases hk
            refine c_285 U17 ?_ ?_ ?_
            · exact fr_u (fr_t (fr_0 _ _) (fr_s hf_59 rfl)) hU17 rfl
            · exact ⟨fun z => sa_v (w2.1 z) hU17 (by omega), fun z => sn_v (w2.2 z) hU17 (by omega)⟩
            · omega
          by_cases z4_3 : v = 2
          · refine j_tsI (pc := 77) 3 (off := 117) (tgt := 194) (by decide) ds_X11_say_77 (by omega) (by decide) rfl (by decide) (by decide) ?_
            refine j_blx (F := fX11) tb_X11 (nn_ _) bk_X11_say_194 bs_X11_say_194 hz (fun K hK => ?_)
            refine rg_i (by omega) ?_
            refine rg_i (by omega) ?_
            refine ix_i (by omega) ?_
            intro b19 b19b
            have e20 : T2 276 0 ((9 * i) + 1) = T 276 0 ((9 * i) + 1) := hf_59 276 0 ((9 * i) + 1) rfl
            rw [e20] at b19 b19b ⊢
            refine iy_i (by omega) (by omega) ?_
            refine x_nm (fun U21 hU21 => ?_)
            have e22 := up_f hU21
            refine hK 285 _ [] U21 ?_
            refine j_drop [some (vR 111 0), some (vI c), some (vI d), some (vI k), some (vI v), some (vI i), none] (fun k v hk => ?_) rfl ?_
            · match k, hk with
              | 0, hk => exact hk
              | 1, hk => exact hk
              | 2, hk => exact hk
              | 3, hk => exact hk
              | 4, hk => exact hk
              | 5, hk => exact hk
              | 6, hk => cases hk
              | k + 7, hk => cases hk
            refine c_285 U21 ?_ ?_ ?_
            · exact fr_u (fr_t (fr_0 _ _) (fr_s hf_59 rfl)) hU21 rfl
            · exact ⟨fun z => sa_v (w2.1 z) hU21 (by omega), fun z => sn_v (w2.2 z) hU21 (by omega)⟩
            · omega
          by_cases z4_4 : v = 3
          · refine j_tsI (pc := 77) 4 (off := 138) (tgt := 215) (by decide) ds_X11_say_77 (by omega) (by decide) rfl (by decide) (by decide) ?_
            refine j_blx (F := fX11) tb_X11 (nn_ _) bk_X11_say_215 bs_X11_say_215 hz (fun K hK => ?_)
            refine rg_i (by omega) ?_
            refine rg_i (by omega) ?_
            refine ix_i (by omega) ?_
            intro b23 b23b
            have e24 : T2 276 0 ((9 * i) + 7) = T 276 0 ((9 * i) + 7) := hf_59 276 0 ((9 * i) + 7) rfl
            rw [e24] at b23 b23b ⊢
            refine iy_i (by omega) (by omega) ?_
            refine x_nm (fun U25 hU25 => ?_)
            have e26 := up_f hU25
            refine hK 285 _ [] U25 ?_
            refine j_drop [some (vR 111 0), some (vI c), some (vI d), some (vI k), some (vI v), some (vI i), none] (fun k v hk => ?_) rfl ?_
            · match k, hk with
              | 0, hk => exact hk
              | 1, hk => exact hk
              | 2, hk => exact hk
              | 3, hk => exact hk
              | 4, hk => exact hk
              | 5, hk => exact hk
              | 6, hk => cases hk
              | k + 7, hk => cases hk
            refine c_285 U25 ?_ ?_ ?_
            · exact fr_u (fr_t (fr_0 _ _) (fr_s hf_59 rfl)) hU25 rfl
            · exact ⟨fun z => sa_v (w2.1 z) hU25 (by omega), fun z => sn_v (w2.2 z) hU25 (by omega)⟩
            · omega
          by_cases z4_5 : v = 4
          · refine j_tsI (pc := 77) 5 (off := 183) (tgt := 260) (by decide) ds_X11_say_77 (by omega) (by decide) rfl (by decide) (by decide) ?_
            refine j_blx (F := fX11) tb_X11 (nn_ _) bk_X11_say_260 bs_X11_say_260 hz (fun K hK => ?_)
            refine rg_i (by omega) ?_
            refine hK 272 _ [vI 15, vI c, vR 111 0, vI (3 * i), vR 284 0] T2 ?_
            refine j_callV (y := yX11_rule0) (Yc := zX11_rule0) (rest := [vI (3 * i), vR 284 0]) [vI c, vI 15] (ct_X11_rule0 (T := T2) (by omega) (by omega)) cl_X11_321 (qd_c (by decide +kernel)) (nn_ _) rfl (rf_of rfl) (Nat.le_of_ble_eq_true rfl) (Nat.le_of_ble_eq_true rfl) (Nat.le_of_ble_eq_true rfl) rfl ?_
            rintro _ _ ⟨rfl, rfl⟩
            have e27 : T2 205 0 (23 * c + 15) = T 205 0 (23 * c + 15) := hf_59 205 0 (23 * c + 15) rfl
            show J_ zX11_say T (po_X11_say T c d k) 0 0 275 _ [vI (T2 205 0 (23 * c + 15)), vI (3 * i), vR 284 0] T2
            refine j_blx (F := fX11) tb_X11 (nn_ _) bk_X11_say_275 bs_X11_say_275 hz (fun K hK => ?_)
            intro b28 b28b
            have e29 : T2 111 0 85 = T 111 0 85 := hf_59 111 0 85 rfl
            rw [e29] at b28 b28b ⊢
            refine hK 281 _ [vI i, vI (T 111 0 85), vI (T2 205 0 (23 * c + 15)), vI (3 * i), vR 284 0] T2 ?_
            refine j_callS (y := yX11_lot) (Yc := zX11_lot) (rest := [vI (3 * i), vR 284 0]) [vI (T2 205 0 (23 * c + 15)), vI (T 111 0 85), vI i] (ct_X11_lot (T := T2)) cl_X11_505 (qd_c (by decide +kernel)) (nn_ _) rfl (rf_of rfl) (Nat.le_of_ble_eq_true rfl) (Nat.le_of_ble_eq_true rfl) (Nat.le_of_ble_eq_true rfl) rfl ?_
            rintro _ _ ⟨rfl, x30, rfl, hx30⟩
            show J_ zX11_say T (po_X11_say T c d k) 0 0 284 _ [vI x30, vI (3 * i), vR 284 0] T2
            refine j_blx (F := fX11) tb_X11 (nn_ _) bk_X11_say_284 bs_X11_say_284 hz (fun K hK => ?_)
            refine iy_i (by omega) (by omega) ?_
            refine x_nm (fun U31 hU31 => ?_)
            have e32 := up_f hU31
            refine hK 285 _ [] U31 ?_
            refine j_drop [some (vR 111 0), some (vI c), some (vI d), some (vI k), some (vI v), some (vI i), none] (fun k v hk => ?_) rfl ?_
            · match k, hk with
              | 0, hk => exact hk
              | 1, hk => exact hk
              | 2, hk => exact hk
              | 3, hk => exact hk
              | 4, hk => exact hk
              | 5, hk => exact hk
              | 6, hk => cases hk
              | k + 7, hk => cases hk
            refine c_285 U31 ?_ ?_ ?_
            · exact fr_u (fr_t (fr_0 _ _) (fr_s hf_59 rfl)) hU31 rfl
            · exact ⟨fun z => sa_v (w2.1 z) hU31 (by omega), fun z => sn_v (w2.2 z) hU31 (by omega)⟩
            · omega
          by_cases z4_6 : v = 5
          · refine j_tsI (pc := 77) 6 (off := 160) (tgt := 237) (by decide) ds_X11_say_77 (by omega) (by decide) rfl (by decide) (by decide) ?_
            refine j_blx (F := fX11) tb_X11 (nn_ _) bk_X11_say_237 bs_X11_say_237 hz (fun K hK => ?_)
            refine rg_i (by omega) ?_
            refine rg_i (by omega) ?_
            refine ix_i (by omega) ?_
            intro b33 b33b
            have e34 : T2 276 0 ((9 * i) + 8) = T 276 0 ((9 * i) + 8) := hf_59 276 0 ((9 * i) + 8) rfl
            rw [e34] at b33 b33b ⊢
            refine rg_i (by omega) ?_
            refine iy_i (by omega) (by omega) ?_
            refine x_nm (fun U35 hU35 => ?_)
            have e36 := up_f hU35
            refine hK 285 _ [] U35 ?_
            refine j_drop [some (vR 111 0), some (vI c), some (vI d), some (vI k), some (vI v), some (vI i), none] (fun k v hk => ?_) rfl ?_
            · match k, hk with
              | 0, hk => exact hk
              | 1, hk => exact hk
              | 2, hk => exact hk
              | 3, hk => exact hk
              | 4, hk => exact hk
              | 5, hk => exact hk
              | 6, hk => cases hk
              | k + 7, hk => cases hk
            refine c_285 U35 ?_ ?_ ?_
            · exact fr_u (fr_t (fr_0 _ _) (fr_s hf_59 rfl)) hU35 rfl
            · exact ⟨fun z => sa_v (w2.1 z) hU35 (by omega), fun z => sn_v (w2.2 z) hU35 (by omega)⟩
            · omega
          refine j_tsO (pc := 77) (tgt := 260) (by decide) ds_X11_say_77 (by omega) (by decide) (by decide) ?_
          refine j_blx (F := fX11) tb_X11 (nn_ _) bk_X11_say_260 bs_X11_say_260 hz (fun K hK => ?_)
          refine rg_i (by omega) ?_
          refine hK 272 _ [vI 15, vI c, vR 111 0, vI (3 * i), vR 284 0] T2 ?_
          refine j_callV (y := yX11_rule0) (Yc := zX11_rule0) (rest := [vI (3 * i), vR 284 0]) [vI c, vI 15] (ct_X11_rule0 (T := T2) (by omega) (by omega)) cl_X11_321 (qd_c (by decide +kernel)) (nn_ _) rfl (rf_of rfl) (Nat.le_of_ble_eq_true rfl) (Nat.le_of_ble_eq_true rfl) (Nat.le_of_ble_eq_true rfl) rfl ?_
          rintro _ _ ⟨rfl, rfl⟩
          have e37 : T2 205 0 (23 * c + 15) = T 205 0 (23 * c + 15) := hf_59 205 0 (23 * c + 15) rfl
          show J_ zX11_say T (po_X11_say T c d k) 0 0 275 _ [vI (T2 205 0 (23 * c + 15)), vI (3 * i), vR 284 0] T2
          refine j_blx (F := fX11) tb_X11 (nn_ _) bk_X11_say_275 bs_X11_say_275 hz (fun K hK => ?_)
          intro b38 b38b
          have e39 : T2 111 0 85 = T 111 0 85 := hf_59 111 0 85 rfl
          rw [e39] at b38 b38b ⊢
          refine hK 281 _ [vI i, vI (T 111 0 85), vI (T2 205 0 (23 * c + 15)), vI (3 * i), vR 284 0] T2 ?_
          refine j_callS (y := yX11_lot) (Yc := zX11_lot) (rest := [vI (3 * i), vR 284 0]) [vI (T2 205 0 (23 * c + 15)), vI (T 111 0 85), vI i] (ct_X11_lot (T := T2)) cl_X11_505 (qd_c (by decide +kernel)) (nn_ _) rfl (rf_of rfl) (Nat.le_of_ble_eq_true rfl) (Nat.le_of_ble_eq_true rfl) (Nat.le_of_ble_eq_true rfl) rfl ?_
          rintro _ _ ⟨rfl, x40, rfl, hx40⟩
          show J_ zX11_say T (po_X11_say T c d k) 0 0 284 _ [vI x40, vI (3 * i), vR 284 0] T2
          refine j_blx (F := fX11) tb_X11 (nn_ _) bk_X11_say_284 bs_X11_say_284 hz (fun K hK => ?_)
          refine iy_i (by omega) (by omega) ?_
          refine x_nm (fun U41 hU41 => ?_)
          have e42 := up_f hU41
          refine hK 285 _ [] U41 ?_
          refine j_drop [some (vR 111 0), some (vI c), some (vI d), some (vI k), some (vI v), some (vI i), none] (fun k v hk => ?_) rfl ?_
          · match k, hk with
            | 0, hk => exact hk
            | 1, hk => exact hk
            | 2, hk => exact hk
            | 3, hk => exact hk
            | 4, hk => exact hk
            | 5, hk => exact hk
            | 6, hk => cases hk
            | k + 7, hk => cases hk
          refine c_285 U41 ?_ ?_ ?_
          · exact fr_u (fr_t (fr_0 _ _) (fr_s hf_59 rfl)) hU41 rfl
          · exact ⟨fun z => sa_v (w2.1 z) hU41 (by omega), fun z => sn_v (w2.2 z) hU41 (by omega)⟩
          · omega
    have c_22 : ∀ (nn : Nat) (i : Int) (T1 : Zt), ((36 - i).toNat) ≤ nn → (fr_ [(284, [])] T T1) → (∀ j, 0 ≤ j → j < i → T1 284 0 j = 0) → (0 ≤ i ∧ i ≤ 36) → J_ zX11_say T (po_X11_say T c d k) 0 0 22 [some (vR 111 0), some (vI c), some (vI d), some (vI k), some (vI v), some (vI i), none] [] T1 := by
      intro nn
      induction nn using Nat.strongRecOn with
      | _ nn ih_22 =>
        intro i T1 hm_22 hf_22 z1 i1
        replace hm_22 := fun (_ : Unit) => hm_22
        refine j_blx (F := fX11) tb_X11 (nn_ _) bk_X11_say_22 bs_X11_say_22 hz (fun K hK => ?_)
        refine And.intro (fun c43 => ?_) (fun c43 => ?_)
        · refine hK 43 _ [] T1 ?_
          refine j_blx (F := fX11) tb_X11 (nn_ _) bk_X11_say_43 bs_X11_say_43 hz (fun K hK => ?_)
          refine And.intro (fun c44 => ?_) (fun c44 => ?_)
          · refine hK 56 _ [] T1 ?_
            refine j_blx (F := fX11) tb_X11 (nn_ _) bk_X11_say_56 bs_X11_say_56 hz (fun K hK => ?_)
            refine hK 59 [some (vR 111 0), some (vI c), some (vI d), some (vI k), some (vI v), some (vI 0), none] [] T1 ?_
            refine c_59 _ 0 T1 (Nat.le_refl _) ?_ ?_ ?_
            · exact fr_t (fr_0 _ _) (fr_s hf_22 rfl)
            · exact ⟨fun _ j a b => by have := z1 j a (by omega); omega, fun _ j a b => by have := z1 j a (by omega); omega⟩
            · omega
          · refine hK 52 [some (vR 111 0), some (vI c), some (vI d), some (vI k), some (vI v), some (vI i), none] [vI d, vI c, vR 111 0] T1 ?_
            refine j_callV (y := yX11_sayHead) (Yc := zX11_sayHead) (rest := []) [vI c, vI d] (ct_X11_sayHead (T := T1) (bb := 0) (by omega) (ML__f (ws := [(284, [])]) hml (fr_t (fr_0 _ _) (fr_s hf_22 rfl)) ⟨fun _ => rfl, fun _ => rfl, rfl, trivial⟩) (SC__f (ws := [(284, [])]) hsc (fr_t (fr_0 _ _) (fr_s hf_22 rfl)) ⟨fun _ => rfl, fun _ => rfl, trivial⟩) (by omega) (fun j a b => by have := z1 j a (by omega); omega)) cl_X11_502 (qd_c (by decide +kernel)) (nn_ _) rfl (rf_of rfl) (Nat.le_of_ble_eq_true rfl) (Nat.le_of_ble_eq_true rfl) (Nat.le_of_ble_eq_true rfl) rfl ?_
            rintro U45 _ ⟨rfl, fU45, qU45⟩
            show J_ zX11_say T (po_X11_say T c d k) 0 0 55 _ [] U45
            refine j_blx (F := fX11) tb_X11 (nn_ _) bk_X11_say_55 bs_X11_say_55 hz (fun K hK => ?_)
            refine (show po_X11_say T c d k U45 (none) from ?_)
            exact ⟨rfl, fr_t (fr_t (fr_0 _ _) (fr_s hf_22 rfl)) (fr_s fU45 rfl), sb_a qU45 (by decide)⟩
        · refine iy_i (by omega) (by omega) ?_
          refine x_nm (fun U46 hU46 => ?_)
          have e47 := up_f hU46
          refine rg_i (by omega) ?_
          refine hK 22 [some (vR 111 0), some (vI c), some (vI d), some (vI k), some (vI v), some (vI (i + 1)), none] [] U46 ?_
          refine ih_22 _ ?_ (i + 1) U46 (Nat.le_refl _) ?_ ?_ ?_
          · have hm_22 := hm_22 (); omega
          · exact fr_u (fr_t (fr_0 _ _) (fr_s hf_22 rfl)) hU46 rfl
          · intro j a b
            by_cases z : j = i
            · rw [z]; exact up_f hU46
            · rw [up_g hU46 (fun q => z q.2.2)]; exact z1 j a (by omega)
          · omega
    refine j_blx (F := fX11) tb_X11 (nn_ _) bk_X11_say_17 bs_X11_say_17 hz (fun K hK => ?_)
    refine hK 22 [some (vR 111 0), some (vI c), some (vI d), some (vI k), some (vI v), some (vI 0), none] [] T ?_
    refine c_22 _ 0 T (Nat.le_refl _) ?_ ?_ ?_
    · exact fr_0 _ _
    · intro j a b; omega
    · omega
  refine j_blx (F := fX11) tb_X11 (nn_ _) bk_X11_say_0 bs_X11_say_0 hz (fun K hK => ?_)
  refine And.intro (fun c48 => ?_) (fun c48 => ?_)
  · refine hK 8 _ [] T ?_
    refine j_blx (F := fX11) tb_X11 (nn_ _) bk_X11_say_8 bs_X11_say_8 hz (fun K hK => ?_)
    refine rg_i (by omega) ?_
    refine hK 14 _ [vI (15 + k), vI c, vR 111 0] T ?_
    refine j_callV (y := yX11_rule0) (Yc := zX11_rule0) (rest := []) [vI c, vI (15 + k)] (ct_X11_rule0 (T := T) (by omega) (by omega)) cl_X11_321 (qd_c (by decide +kernel)) (nn_ _) rfl (rf_of rfl) (Nat.le_of_ble_eq_true rfl) (Nat.le_of_ble_eq_true rfl) (Nat.le_of_ble_eq_true rfl) rfl ?_
    rintro _ _ ⟨rfl, rfl⟩
    show J_ zX11_say T (po_X11_say T c d k) 0 0 17 _ [vI (T 205 0 (23 * c + (15 + k)))] T
    exact c_17 (T 205 0 (23 * c + (15 + k)))
  · refine hK 17 _ [vI (-1)] T ?_
    exact c_17 (-1)
