abbrev cX11_can : ByteArray := prog_13_method_107_code
def yX11_can : MethodName := ⟨RX11, "can", "(II)I"⟩
def zX11_can : Zm := (RX11, cX11_can, 5, (some .int), { frames := 4, cells := 0, slots := 0, locals := 92 })
theorem bk_X11_can_48 : ck_ fX11 (some .int) cX11_can 48 [.iload 3, .aload 0, .tableswitch 0 11 29 #[], .if_icmp .ge 69, .aload 0, .tableswitch 0 11 89 #[], .iload 3, .iconst (-1), .iastore, .iinc 3 1, .goto 48] 69 = true := qck_r (nn_ _) (by decide +kernel)
theorem bs_X11_can_48 {P : Zt → Option Zv → Prop} (K : Int → Zl → List Zv → Zt → Prop) : sx_ K P [.iload 3, .aload 0, .tableswitch 0 11 29 #[], .if_icmp .ge 69, .aload 0, .tableswitch 0 11 89 #[], .iload 3, .iconst (-1), .iastore, .iinc 3 1, .goto 48] 69 = x_iload 3 (x_aload 0 (x_g0 111 29 0 400 (x_if_icmp .ge 69 K (x_aload 0 (x_g1 111 289 (x_iload 3 (x_iconst (-1) (x_iastore (x_iinc 3 1 (x_goto 48 K)))))))))) := ((xe_iload 3).trans (congrArg (x_iload 3) ((xe_aload 0).trans (congrArg (x_aload 0) ((xe_g0 (kk := 111) rfl tl_11_29).trans (congrArg (x_g0 111 29 0 400) ((xe_if_icmp .ge 69).trans (congrArg (x_if_icmp .ge 69 K) ((xe_aload 0).trans (congrArg (x_aload 0) ((xe_g1 (kk := 111) rfl tl_11_89).trans (congrArg (x_g1 111 289) ((xe_iload 3).trans (congrArg (x_iload 3) ((xe_iconst (-1)).trans (congrArg (x_iconst (-1)) ((xe_iastore).trans (congrArg (x_iastore) ((xe_iinc 3 1).trans (congrArg (x_iinc 3 1) (xe_goto 48)))))))))))))))))))))
theorem bk_X11_can_69 : ck_ fX11 (some .int) cX11_can 69 [.aload 0, .iconst 0, .tableswitch 1 11 90 #[], .aload 0, .iload 1] 76 = true := qck_r (nn_ _) (by decide +kernel)
theorem bs_X11_can_69 {P : Zt → Option Zv → Prop} (K : Int → Zl → List Zv → Zt → Prop) : sx_ K P [.aload 0, .iconst 0, .tableswitch 1 11 90 #[], .aload 0, .iload 1] 76 = x_aload 0 (x_iconst 0 (x_p 111 90 0 4095 (x_aload 0 (x_iload 1 (K 76))))) := ((xe_aload 0).trans (congrArg (x_aload 0) ((xe_iconst 0).trans (congrArg (x_iconst 0) ((xe_p (kk := 111) rfl tl_11_90).trans (congrArg (x_p 111 90 0 4095) ((xe_aload 0).trans (congrArg (x_aload 0) ((xe_iload 1).trans (congrArg (x_iload 1) xe_nil))))))))))
set_option maxRecDepth 100000 in
theorem cl_X11_564 : cv_ RX11 564 yX11_countLeft zX11_countLeft 11 1 := ⟨gi_V (lwq_9 (dqc_m (dqc_m (dqc_m (dqc_m (dqc_m (dqc_m (dqc_m (List.mem_of_getElem? (i := 4) rfl)))))))) rfl : Cond.methodLink RX11 564 yX11_countLeft ∈ lw_g) (lwq_9 (dqc_m (dqc_m (dqc_m (dqc_m (dqc_m (dqc_m (dqc_m (List.mem_of_getElem? (i := 6) rfl)))))))) rfl : Cond.instanceMethod yX11_countLeft ∈ lw_g) (lw_sel 13 rfl : Cond.selects yX11_countLeft.cls yX11_countLeft yX11_countLeft ∈ lw_g) (lwq_1 (dqa_m (List.mem_of_getElem? (i := 2) rfl)) rfl : Cond.initialized yX11_countLeft.cls ∈ lw_g) (lwq_9 (dqc_m (dqc_m (dqc_m (dqc_m (dqc_m (dqc_m (dqc_m (List.mem_of_getElem? (i := 7) rfl)))))))) rfl : Cond.code yX11_countLeft cX11_countLeft 3 none ∈ lw_g), ⟨nmh_1.1, nmh_1.2, pdq_9⟩, ⟨_, _, rfl⟩⟩
theorem bk_X11_can_79 : ck_ fX11 (some .int) cX11_can 79 [.aload 0, .aload 0, .tableswitch 0 11 91 #[], .iload 2, .iaload, .aload 0, .iload 1, .iconst 1] 89 = true := qck_r (nn_ _) (by decide +kernel)
theorem bs_X11_can_79 {P : Zt → Option Zv → Prop} (K : Int → Zl → List Zv → Zt → Prop) : sx_ K P [.aload 0, .aload 0, .tableswitch 0 11 91 #[], .iload 2, .iaload, .aload 0, .iload 1, .iconst 1] 89 = x_aload 0 (x_aload 0 (x_g1 111 291 (x_iload 2 (x_iaload (x_aload 0 (x_iload 1 (x_iconst 1 (K 89)))))))) := ((xe_aload 0).trans (congrArg (x_aload 0) ((xe_aload 0).trans (congrArg (x_aload 0) ((xe_g1 (kk := 111) rfl tl_11_91).trans (congrArg (x_g1 111 291) ((xe_iload 2).trans (congrArg (x_iload 2) ((xe_iaload).trans (congrArg (x_iaload) ((xe_aload 0).trans (congrArg (x_aload 0) ((xe_iload 1).trans (congrArg (x_iload 1) ((xe_iconst 1).trans (congrArg (x_iconst 1) xe_nil))))))))))))))))
theorem bk_X11_can_92 : ck_ fX11 (some .int) cX11_can 92 [.aload 0, .tableswitch 0 11 92 #[], .iload 2, .iaload, .imul, .iadd, .tableswitch 1 11 95 #[], .aload 0, .iload 1, .iconst 1] 106 = true := qck_r (nn_ _) (by decide +kernel)
theorem bs_X11_can_92 {P : Zt → Option Zv → Prop} (K : Int → Zl → List Zv → Zt → Prop) : sx_ K P [.aload 0, .tableswitch 0 11 92 #[], .iload 2, .iaload, .imul, .iadd, .tableswitch 1 11 95 #[], .aload 0, .iload 1, .iconst 1] 106 = x_aload 0 (x_g1 111 292 (x_iload 2 (x_iaload (x_imul (x_iadd (x_p 111 95 (-2147483648) 2147483647 (x_aload 0 (x_iload 1 (x_iconst 1 (K 106)))))))))) := ((xe_aload 0).trans (congrArg (x_aload 0) ((xe_g1 (kk := 111) rfl tl_11_92).trans (congrArg (x_g1 111 292) ((xe_iload 2).trans (congrArg (x_iload 2) ((xe_iaload).trans (congrArg (x_iaload) ((xe_imul).trans (congrArg (x_imul) ((xe_iadd).trans (congrArg (x_iadd) ((xe_p (kk := 111) rfl tl_11_95).trans (congrArg (x_p 111 95 (-2147483648) 2147483647) ((xe_aload 0).trans (congrArg (x_aload 0) ((xe_iload 1).trans (congrArg (x_iload 1) ((xe_iconst 1).trans (congrArg (x_iconst 1) xe_nil))))))))))))))))))))
theorem bk_X11_can_109 : ck_ fX11 (some .int) cX11_can 109 [.aload 0, .iload 1, .iconst 3] 112 = true := qck_r (nn_ _) (by decide +kernel)
theorem bs_X11_can_109 {P : Zt → Option Zv → Prop} (K : Int → Zl → List Zv → Zt → Prop) : sx_ K P [.aload 0, .iload 1, .iconst 3] 112 = x_aload 0 (x_iload 1 (x_iconst 3 (K 112))) := ((xe_aload 0).trans (congrArg (x_aload 0) ((xe_iload 1).trans (congrArg (x_iload 1) ((xe_iconst 3).trans (congrArg (x_iconst 3) xe_nil))))))
theorem bk_X11_can_115 : ck_ fX11 (some .int) cX11_can 115 [.iadd, .iconst 2, .aload 0, .iload 1, .iconst 2] 120 = true := qck_r (nn_ _) (by decide +kernel)
theorem bs_X11_can_115 {P : Zt → Option Zv → Prop} (K : Int → Zl → List Zv → Zt → Prop) : sx_ K P [.iadd, .iconst 2, .aload 0, .iload 1, .iconst 2] 120 = x_iadd (x_iconst 2 (x_aload 0 (x_iload 1 (x_iconst 2 (K 120))))) := ((xe_iadd).trans (congrArg (x_iadd) ((xe_iconst 2).trans (congrArg (x_iconst 2) ((xe_aload 0).trans (congrArg (x_aload 0) ((xe_iload 1).trans (congrArg (x_iload 1) ((xe_iconst 2).trans (congrArg (x_iconst 2) xe_nil))))))))))
theorem bk_X11_can_123 : ck_ fX11 (some .int) cX11_can 123 [.imul, .if_icmp .ne 131, .iconst 1, .goto 132] 131 = true := qck_r (nn_ _) (by decide +kernel)
theorem bs_X11_can_123 {P : Zt → Option Zv → Prop} (K : Int → Zl → List Zv → Zt → Prop) : sx_ K P [.imul, .if_icmp .ne 131, .iconst 1, .goto 132] 131 = x_imul (x_if_icmp .ne 131 K (x_iconst 1 (x_goto 132 K))) := ((xe_imul).trans (congrArg (x_imul) ((xe_if_icmp .ne 131).trans (congrArg (x_if_icmp .ne 131 K) ((xe_iconst 1).trans (congrArg (x_iconst 1) (xe_goto 132)))))))
theorem bk_X11_can_131 : ck_ fX11 (some .int) cX11_can 131 [.iconst 0, .istore 3, .iload 3, .ifCond .eq 152, .aload 0, .iload 1, .iload 2, .aload 0, .iload 1, .iload 2] 143 = true := qck_r (nn_ _) (by decide +kernel)
theorem bs_X11_can_131 {P : Zt → Option Zv → Prop} (K : Int → Zl → List Zv → Zt → Prop) : sx_ K P [.iconst 0, .istore 3, .iload 3, .ifCond .eq 152, .aload 0, .iload 1, .iload 2, .aload 0, .iload 1, .iload 2] 143 = x_iconst 0 (x_istore 3 (x_iload 3 (x_ifCond .eq 152 K (x_aload 0 (x_iload 1 (x_iload 2 (x_aload 0 (x_iload 1 (x_iload 2 (K 143)))))))))) := ((xe_iconst 0).trans (congrArg (x_iconst 0) ((xe_istore 3).trans (congrArg (x_istore 3) ((xe_iload 3).trans (congrArg (x_iload 3) ((xe_ifCond .eq 152).trans (congrArg (x_ifCond .eq 152 K) ((xe_aload 0).trans (congrArg (x_aload 0) ((xe_iload 1).trans (congrArg (x_iload 1) ((xe_iload 2).trans (congrArg (x_iload 2) ((xe_aload 0).trans (congrArg (x_aload 0) ((xe_iload 1).trans (congrArg (x_iload 1) ((xe_iload 2).trans (congrArg (x_iload 2) xe_nil))))))))))))))))))))
theorem bk_X11_can_152 : ck_ fX11 (some .int) cX11_can 152 [.aload 0, .iload 1, .iload 2] 155 = true := qck_r (nn_ _) (by decide +kernel)
theorem bs_X11_can_152 {P : Zt → Option Zv → Prop} (K : Int → Zl → List Zv → Zt → Prop) : sx_ K P [.aload 0, .iload 1, .iload 2] 155 = x_aload 0 (x_iload 1 (x_iload 2 (K 155))) := ((xe_aload 0).trans (congrArg (x_aload 0) ((xe_iload 1).trans (congrArg (x_iload 1) ((xe_iload 2).trans (congrArg (x_iload 2) xe_nil))))))
set_option maxRecDepth 100000 in
theorem cl_X11_573 : cv_ RX11 573 yX11_canTry zX11_canTry 11 2 := ⟨gi_V (lwq_10 (dqa_m (dqa_m (List.mem_of_getElem? (i := 3) rfl))) rfl : Cond.methodLink RX11 573 yX11_canTry ∈ lw_g) (lwq_10 (dqa_m (dqa_m (List.mem_of_getElem? (i := 5) rfl))) rfl : Cond.instanceMethod yX11_canTry ∈ lw_g) (lw_sel 9 rfl : Cond.selects yX11_canTry.cls yX11_canTry yX11_canTry ∈ lw_g) (lwq_1 (dqa_m (List.mem_of_getElem? (i := 2) rfl)) rfl : Cond.initialized yX11_canTry.cls ∈ lw_g) (lwq_10 (dqa_m (dqa_m (List.mem_of_getElem? (i := 6) rfl))) rfl : Cond.code yX11_canTry cX11_canTry 7 (some .int) ∈ lw_g), ⟨nmh_1.1, nmh_1.2, pdq_4⟩, ⟨_, _, rfl⟩⟩
theorem bk_X11_can_158 : ck_ fX11 (some .int) cX11_can 158 [.istore 4, .aload 0, .iload 4, .iconst 1, .if_icmp .ne 171, .iload 1, .goto 172] 171 = true := qck_r (nn_ _) (by decide +kernel)
theorem bs_X11_can_158 {P : Zt → Option Zv → Prop} (K : Int → Zl → List Zv → Zt → Prop) : sx_ K P [.istore 4, .aload 0, .iload 4, .iconst 1, .if_icmp .ne 171, .iload 1, .goto 172] 171 = x_istore 4 (x_aload 0 (x_iload 4 (x_iconst 1 (x_if_icmp .ne 171 K (x_iload 1 (x_goto 172 K)))))) := ((xe_istore 4).trans (congrArg (x_istore 4) ((xe_aload 0).trans (congrArg (x_aload 0) ((xe_iload 4).trans (congrArg (x_iload 4) ((xe_iconst 1).trans (congrArg (x_iconst 1) ((xe_if_icmp .ne 171).trans (congrArg (x_if_icmp .ne 171 K) ((xe_iload 1).trans (congrArg (x_iload 1) (xe_goto 172)))))))))))))
theorem bk_X11_can_171 : ck_ fX11 (some .int) cX11_can 171 [.iconst (-1), .tableswitch 1 11 88 #[], .iload 4, .ireturn] 178 = true := qck_r (nn_ _) (by decide +kernel)
theorem bs_X11_can_171 {P : Zt → Option Zv → Prop} (K : Int → Zl → List Zv → Zt → Prop) : sx_ K P [.iconst (-1), .tableswitch 1 11 88 #[], .iload 4, .ireturn] 178 = x_iconst (-1) (x_p 111 88 (-1) 3 (x_iload 4 (x_ireturn P))) := ((xe_iconst (-1)).trans (congrArg (x_iconst (-1)) ((xe_p (kk := 111) rfl tl_11_88).trans (congrArg (x_p 111 88 (-1) 3) ((xe_iload 4).trans (congrArg (x_iload 4) (xe_ireturn)))))))
theorem bk_X11_can_172 : ck_ fX11 (some .int) cX11_can 172 [.tableswitch 1 11 88 #[], .iload 4, .ireturn] 178 = true := qck_r (nn_ _) (by decide +kernel)
theorem bs_X11_can_172 {P : Zt → Option Zv → Prop} (K : Int → Zl → List Zv → Zt → Prop) : sx_ K P [.tableswitch 1 11 88 #[], .iload 4, .ireturn] 178 = x_p 111 88 (-1) 3 (x_iload 4 (x_ireturn P)) := ((xe_p (kk := 111) rfl tl_11_88).trans (congrArg (x_p 111 88 (-1) 3) ((xe_iload 4).trans (congrArg (x_iload 4) (xe_ireturn)))))
theorem bk_X11_can_132 : ck_ fX11 (some .int) cX11_can 132 [.istore 3, .iload 3, .ifCond .eq 152, .aload 0, .iload 1, .iload 2, .aload 0, .iload 1, .iload 2] 143 = true := qck_r (nn_ _) (by decide +kernel)
theorem bs_X11_can_132 {P : Zt → Option Zv → Prop} (K : Int → Zl → List Zv → Zt → Prop) : sx_ K P [.istore 3, .iload 3, .ifCond .eq 152, .aload 0, .iload 1, .iload 2, .aload 0, .iload 1, .iload 2] 143 = x_istore 3 (x_iload 3 (x_ifCond .eq 152 K (x_aload 0 (x_iload 1 (x_iload 2 (x_aload 0 (x_iload 1 (x_iload 2 (K 143))))))))) := ((xe_istore 3).trans (congrArg (x_istore 3) ((xe_iload 3).trans (congrArg (x_iload 3) ((xe_ifCond .eq 152).trans (congrArg (x_ifCond .eq 152 K) ((xe_aload 0).trans (congrArg (x_aload 0) ((xe_iload 1).trans (congrArg (x_iload 1) ((xe_iload 2).trans (congrArg (x_iload 2) ((xe_aload 0).trans (congrArg (x_aload 0) ((xe_iload 1).trans (congrArg (x_iload 1) ((xe_iload 2).trans (congrArg (x_iload 2) xe_nil))))))))))))))))))
set_option maxRecDepth 100000 in
theorem cl_X11_567 : cv_ RX11 567 yX11_othersOf zX11_othersOf 11 2 := ⟨gi_V (lwq_9 (dqc_m (dqc_m (dqc_m (dqc_m (dqc_m (dqc_m (dqc_m (dqa_m (List.mem_of_getElem? (i := 4) rfl))))))))) rfl : Cond.methodLink RX11 567 yX11_othersOf ∈ lw_g) (lwq_9 (dqc_m (dqc_m (dqc_m (dqc_m (dqc_m (dqc_m (dqc_m (dqa_m (List.mem_of_getElem? (i := 6) rfl))))))))) rfl : Cond.instanceMethod yX11_othersOf ∈ lw_g) (lw_sel 43 rfl : Cond.selects yX11_othersOf.cls yX11_othersOf yX11_othersOf ∈ lw_g) (lwq_1 (dqa_m (List.mem_of_getElem? (i := 2) rfl)) rfl : Cond.initialized yX11_othersOf.cls ∈ lw_g) (lwq_9 (dqc_m (dqc_m (dqc_m (dqc_m (dqc_m (dqc_m (dqc_m (dqa_m (List.mem_of_getElem? (i := 7) rfl))))))))) rfl : Cond.code yX11_othersOf cX11_othersOf 5 (some .int) ∈ lw_g), ⟨nmh_1.1, nmh_1.2, pdq_4⟩, ⟨_, _, rfl⟩⟩
set_option maxRecDepth 100000 in
theorem cl_X11_570 : cv_ RX11 570 yX11_canEven zX11_canEven 11 3 := ⟨gi_V (lwq_10 (List.mem_of_getElem? (i := 0) rfl) rfl : Cond.methodLink RX11 570 yX11_canEven ∈ lw_g) (lwq_10 (List.mem_of_getElem? (i := 2) rfl) rfl : Cond.instanceMethod yX11_canEven ∈ lw_g) (lw_sel 8 rfl : Cond.selects yX11_canEven.cls yX11_canEven yX11_canEven ∈ lw_g) (lwq_1 (dqa_m (List.mem_of_getElem? (i := 2) rfl)) rfl : Cond.initialized yX11_canEven.cls ∈ lw_g) (lwq_10 (List.mem_of_getElem? (i := 3) rfl) rfl : Cond.code yX11_canEven cX11_canEven 9 (some .int) ∈ lw_g), ⟨nmh_1.1, nmh_1.2, pdq_8⟩, ⟨_, _, rfl⟩⟩
theorem bk_X11_can_149 : ck_ fX11 (some .int) cX11_can 149 [.goto 158] 152 = true := qck_r (nn_ _) (by decide +kernel)
theorem bs_X11_can_149 {P : Zt → Option Zv → Prop} (K : Int → Zl → List Zv → Zt → Prop) : sx_ K P [.goto 158] 152 = x_goto 158 K := (xe_goto 158)
theorem bk_X11_can_0 : ck_ fX11 (some .int) cX11_can 0 [.iload 1, .aload 0, .tableswitch 0 11 6 #[]] 5 = true := qck_r (nn_ _) (by decide +kernel)
theorem bs_X11_can_0 {P : Zt → Option Zv → Prop} (K : Int → Zl → List Zv → Zt → Prop) : sx_ K P [.iload 1, .aload 0, .tableswitch 0 11 6 #[]] 5 = x_iload 1 (x_aload 0 (x_g0 111 6 0 4 (K 5))) := ((xe_iload 1).trans (congrArg (x_iload 1) ((xe_aload 0).trans (congrArg (x_aload 0) ((xe_g0 (kk := 111) rfl tl_11_6).trans (congrArg (x_g0 111 6 0 4) xe_nil))))))
theorem bk_X11_can_8 : ck_ fX11 (some .int) cX11_can 8 [.ifCond .eq 22, .iload 2, .aload 0, .tableswitch 0 11 12 #[]] 16 = true := qck_r (nn_ _) (by decide +kernel)
theorem bs_X11_can_8 {P : Zt → Option Zv → Prop} (K : Int → Zl → List Zv → Zt → Prop) : sx_ K P [.ifCond .eq 22, .iload 2, .aload 0, .tableswitch 0 11 12 #[]] 16 = x_ifCond .eq 22 K (x_iload 2 (x_aload 0 (x_g0 111 12 0 12 (K 16)))) := ((xe_ifCond .eq 22).trans (congrArg (x_ifCond .eq 22 K) ((xe_iload 2).trans (congrArg (x_iload 2) ((xe_aload 0).trans (congrArg (x_aload 0) ((xe_g0 (kk := 111) rfl tl_11_12).trans (congrArg (x_g0 111 12 0 12) xe_nil))))))))
theorem bk_X11_can_22 : ck_ fX11 (some .int) cX11_can 22 [.iconst (-2), .ireturn] 25 = true := qck_r (nn_ _) (by decide +kernel)
theorem bs_X11_can_22 {P : Zt → Option Zv → Prop} (K : Int → Zl → List Zv → Zt → Prop) : sx_ K P [.iconst (-2), .ireturn] 25 = x_iconst (-2) (x_ireturn P) := ((xe_iconst (-2)).trans (congrArg (x_iconst (-2)) (xe_ireturn)))
theorem bk_X11_can_19 : ck_ fX11 (some .int) cX11_can 19 [.ifCond .ne 25, .iconst (-2), .ireturn] 25 = true := qck_r (nn_ _) (by decide +kernel)
theorem bs_X11_can_19 {P : Zt → Option Zv → Prop} (K : Int → Zl → List Zv → Zt → Prop) : sx_ K P [.ifCond .ne 25, .iconst (-2), .ireturn] 25 = x_ifCond .ne 25 K (x_iconst (-2) (x_ireturn P)) := ((xe_ifCond .ne 25).trans (congrArg (x_ifCond .ne 25 K) ((xe_iconst (-2)).trans (congrArg (x_iconst (-2)) (xe_ireturn)))))
theorem bk_X11_can_25 : ck_ fX11 (some .int) cX11_can 25 [.aload 0, .tableswitch 0 11 9 #[], .iload 1, .baload, .ifCond .eq 43, .aload 0, .iload 1, .iload 2] 37 = true := qck_r (nn_ _) (by decide +kernel)
theorem bs_X11_can_25 {P : Zt → Option Zv → Prop} (K : Int → Zl → List Zv → Zt → Prop) : sx_ K P [.aload 0, .tableswitch 0 11 9 #[], .iload 1, .baload, .ifCond .eq 43, .aload 0, .iload 1, .iload 2] 37 = x_aload 0 (x_g1 111 209 (x_iload 1 (x_baload (x_ifCond .eq 43 K (x_aload 0 (x_iload 1 (x_iload 2 (K 37)))))))) := ((xe_aload 0).trans (congrArg (x_aload 0) ((xe_g1 (kk := 111) rfl tl_11_9).trans (congrArg (x_g1 111 209) ((xe_iload 1).trans (congrArg (x_iload 1) ((xe_baload).trans (congrArg (x_baload) ((xe_ifCond .eq 43).trans (congrArg (x_ifCond .eq 43 K) ((xe_aload 0).trans (congrArg (x_aload 0) ((xe_iload 1).trans (congrArg (x_iload 1) ((xe_iload 2).trans (congrArg (x_iload 2) xe_nil))))))))))))))))
theorem bk_X11_can_43 : ck_ fX11 (some .int) cX11_can 43 [.iconst (-4), .ireturn] 46 = true := qck_r (nn_ _) (by decide +kernel)
theorem bs_X11_can_43 {P : Zt → Option Zv → Prop} (K : Int → Zl → List Zv → Zt → Prop) : sx_ K P [.iconst (-4), .ireturn] 46 = x_iconst (-4) (x_ireturn P) := ((xe_iconst (-4)).trans (congrArg (x_iconst (-4)) (xe_ireturn)))
theorem bk_X11_can_40 : ck_ fX11 (some .int) cX11_can 40 [.ifCond .ne 46, .iconst (-4), .ireturn] 46 = true := qck_r (nn_ _) (by decide +kernel)
theorem bs_X11_can_40 {P : Zt → Option Zv → Prop} (K : Int → Zl → List Zv → Zt → Prop) : sx_ K P [.ifCond .ne 46, .iconst (-4), .ireturn] 46 = x_ifCond .ne 46 K (x_iconst (-4) (x_ireturn P)) := ((xe_ifCond .ne 46).trans (congrArg (x_ifCond .ne 46 K) ((xe_iconst (-4)).trans (congrArg (x_iconst (-4)) (xe_ireturn)))))
theorem bk_X11_can_46 : ck_ fX11 (some .int) cX11_can 46 [.iconst 0, .istore 3] 48 = true := qck_r (nn_ _) (by decide +kernel)
theorem bs_X11_can_46 {P : Zt → Option Zv → Prop} (K : Int → Zl → List Zv → Zt → Prop) : sx_ K P [.iconst 0, .istore 3] 48 = x_iconst 0 (x_istore 3 (K 48)) := ((xe_iconst 0).trans (congrArg (x_iconst 0) ((xe_istore 3).trans (congrArg (x_istore 3) xe_nil))))
abbrev po_X11_can (T : Zt) (c cl : Int) : Zt → Option Zv → Prop := fun T' r => ∃ x : Int, r = some (vI x) ∧ fr_ [(276, []), (291, []), (292, []), (293, []), (294, []), (296, []), (289, []), (297, []), (111, [80, 82, 83, 90, 95, 88])] T T' ∧ (True)
set_option maxHeartbeats 4000000 in
theorem ct_X11_can {T : Zt} {c cl : Int} (hri : RI_ T) (hrw : RW_ T) (hml : ML_ T) (hsc : SC_ T) (hyb : YB_ T) : Ct_ yX11_can zX11_can T [vR 111 0, vI c, vI cl] (po_X11_can T c cl) := by
  refine ct_of pn_11 rfl rfl (Nat.le_of_ble_eq_true rfl) (fun hT hav => ?_)
  have hr_c : -2147483648 ≤ c ∧ c ≤ 2147483647 := hav (vI c) (List.mem_cons_of_mem _ List.mem_cons_self)
  have hr_cl : -2147483648 ≤ cl ∧ cl ≤ 2147483647 := hav (vI cl) (List.mem_cons_of_mem _ (List.mem_cons_of_mem _ List.mem_cons_self))
  have hz : zX11_can.2.2.2.1 = some .boolean → ∀ (T' : Zt) (x : Int), po_X11_can T c cl T' (some (vI x)) → 0 ≤ x ∧ x ≤ 1 := fun h => by cases h
  have hb_6 : 0 ≤ T 111 0 6 ∧ T 111 0 6 ≤ 4 := bd_f hT 111 6 tl_11_6 0
  have hb_12 : 0 ≤ T 111 0 12 ∧ T 111 0 12 ≤ 12 := bd_f hT 111 12 tl_11_12 0
  have hb_29 : 0 ≤ T 111 0 29 ∧ T 111 0 29 ≤ 400 := bd_f hT 111 29 tl_11_29 0
  show J_ zX11_can T (po_X11_can T c cl) 0 0 0 [some (vR 111 0), some (vI c), some (vI cl), none, none] [] T
  have c_48 : ∀ (nn : Nat) (i : Int) (T1 : Zt), ((400 - i).toNat) ≤ nn → (fr_ [(289, [])] T T1) → (0 ≤ i ∧ i ≤ 400 ∧ 0 ≤ c ∧ c < T 111 0 6 ∧ 0 ≤ cl ∧ cl < T 111 0 12) → J_ zX11_can T (po_X11_can T c cl) 0 0 48 [some (vR 111 0), some (vI c), some (vI cl), some (vI i), none] [] T1 := by
    intro nn
    induction nn using Nat.strongRecOn with
    | _ nn ih_48 =>
      intro i T1 hm_48 hf_48 i1
      replace hm_48 := fun (_ : Unit) => hm_48
      have hr1 : (0 : Int) ≤ T 205 0 (23 * c + 1) ∧ T 205 0 (23 * c + 1) ≤ (9 : Int) := hri c 1 (by omega) (by omega) (by omega) (by omega)
      have hr2 : (0 : Int) ≤ T 205 0 (23 * c + 2) ∧ T 205 0 (23 * c + 2) ≤ (9 : Int) := hri c 2 (by omega) (by omega) (by omega) (by omega)
      have hr3 : (0 : Int) ≤ T 205 0 (23 * c + 3) ∧ T 205 0 (23 * c + 3) ≤ (9 : Int) := hri c 3 (by omega) (by omega) (by omega) (by omega)
      refine j_blx (F := fX11) tb_X11 (nn_ _) bk_X11_can_48 bs_X11_can_48 hz (fun K hK => ?_)
      intro b1 b1b
      have e2 : T1 111 0 29 = T 111 0 29 := hf_48 111 0 29 rfl
      rw [e2] at b1 b1b ⊢
      refine And.intro (fun c3 => ?_) (fun c3 => ?_)
      · refine hK 69 _ [] T1 ?_
        refine j_blx (F := fX11) tb_X11 (nn_ _) bk_X11_can_69 bs_X11_can_69 hz (fun K hK => ?_)
        refine bd_i (by omega) ?_
        refine x_nm (fun U4 hU4 => ?_)
        have e5 := up_f hU4
        refine hK 76 _ [vI c, vR 111 0] U4 ?_
        refine j_callV (y := yX11_countLeft) (Yc := zX11_countLeft) (rest := []) [vI c] (ct_X11_countLeft (T := U4) (by omega) (ML__f (ws := [(111, [90]), (289, [])]) hml (fr_u (fr_t (fr_0 _ _) (fr_s hf_48 rfl)) hU4 rfl) ⟨fun _ => rfl, fun _ => rfl, rfl, trivial⟩) (SC__f (ws := [(111, [90]), (289, [])]) hsc (fr_u (fr_t (fr_0 _ _) (fr_s hf_48 rfl)) hU4 rfl) ⟨fun _ => rfl, fun _ => rfl, trivial⟩) (YB__f (ws := [(111, [90]), (289, [])]) hyb (fr_u (fr_t (fr_0 _ _) (fr_s hf_48 rfl)) hU4 rfl) ⟨fun _ => rfl, trivial⟩)) cl_X11_564 (qd_c (by decide +kernel)) (nn_ _) rfl (rf_of rfl) (Nat.le_of_ble_eq_true rfl) (Nat.le_of_ble_eq_true rfl) (Nat.le_of_ble_eq_true rfl) rfl ?_
        rintro U6 _ ⟨rfl, fU6, ⟨qU6a, qU6b⟩⟩
        show J_ zX11_can T (po_X11_can T c cl) 0 0 79 _ [] U6
        refine j_blx (F := fX11) tb_X11 (nn_ _) bk_X11_can_79 bs_X11_can_79 hz (fun K hK => ?_)
        refine ix_i (by omega) ?_
        intro b7 b7b
        refine hK 89 _ [vI 1, vI c, vR 111 0, vI (U6 291 0 cl), vR 111 0] U6 ?_
        refine j_callV (y := yX11_rule0) (Yc := zX11_rule0) (rest := [vI (U6 291 0 cl), vR 111 0]) [vI c, vI 1] (ct_X11_rule0 (T := U6) (by omega) (by omega)) cl_X11_321 (qd_c (by decide +kernel)) (nn_ _) rfl (rf_of rfl) (Nat.le_of_ble_eq_true rfl) (Nat.le_of_ble_eq_true rfl) (Nat.le_of_ble_eq_true rfl) rfl ?_
        rintro _ _ ⟨rfl, rfl⟩
        have e8 : U6 205 0 (23 * c + 1) = T 205 0 (23 * c + 1) := (fU6 205 0 (23 * c + 1) rfl).trans ((up_k hU4 (by exact Nat.ne_of_beq_eq_false rfl) 0 (23 * c + 1)).trans (hf_48 205 0 (23 * c + 1) rfl))
        show J_ zX11_can T (po_X11_can T c cl) 0 0 92 _ [vI (U6 205 0 (23 * c + 1)), vI (U6 291 0 cl), vR 111 0] U6
        refine j_blx (F := fX11) tb_X11 (nn_ _) bk_X11_can_92 bs_X11_can_92 hz (fun K hK => ?_)
        refine ix_i (by omega) ?_
        intro b9 b9b
        have hlk := qU6b cl (by omega) (by omega)
        have hpk := qU6a cl (by omega) (by omega)
        have hmb := mul_b (x := U6 205 0 (23 * c + 1)) (y := U6 292 0 cl) (by omega) (by omega)
        refine rg_i (by omega) ?_
        refine rg_i (by omega) ?_
        refine bd_i (by omega) ?_
        refine x_nm (fun U10 hU10 => ?_)
        have e11 := up_f hU10
        refine hK 106 _ [vI 1, vI c, vR 111 0] U10 ?_
        refine j_callV (y := yX11_rule0) (Yc := zX11_rule0) (rest := []) [vI c, vI 1] (ct_X11_rule0 (T := U10) (by omega) (by omega)) cl_X11_321 (qd_c (by decide +kernel)) (nn_ _) rfl (rf_of rfl) (Nat.le_of_ble_eq_true rfl) (Nat.le_of_ble_eq_true rfl) (Nat.le_of_ble_eq_true rfl) rfl ?_
        rintro _ _ ⟨rfl, rfl⟩
        have e12 : U10 205 0 (23 * c + 1) = T 205 0 (23 * c + 1) := (up_k hU10 (by exact Nat.ne_of_beq_eq_false rfl) 0 (23 * c + 1)).trans ((fU6 205 0 (23 * c + 1) rfl).trans ((up_k hU4 (by exact Nat.ne_of_beq_eq_false rfl) 0 (23 * c + 1)).trans (hf_48 205 0 (23 * c + 1) rfl)))
        show J_ zX11_can T (po_X11_can T c cl) 0 0 109 _ [vI (U10 205 0 (23 * c + 1))] U10
        refine j_blx (F := fX11) tb_X11 (nn_ _) bk_X11_can_109 bs_X11_can_109 hz (fun K hK => ?_)
        refine hK 112 _ [vI 3, vI c, vR 111 0, vI (U10 205 0 (23 * c + 1))] U10 ?_
        refine j_callV (y := yX11_rule0) (Yc := zX11_rule0) (rest := [vI (U10 205 0 (23 * c + 1))]) [vI c, vI 3] (ct_X11_rule0 (T := U10) (by omega) (by omega)) cl_X11_321 (qd_c (by decide +kernel)) (nn_ _) rfl (rf_of rfl) (Nat.le_of_ble_eq_true rfl) (Nat.le_of_ble_eq_true rfl) (Nat.le_of_ble_eq_true rfl) rfl ?_
        rintro _ _ ⟨rfl, rfl⟩
        have e13 : U10 205 0 (23 * c + 3) = T 205 0 (23 * c + 3) := (up_k hU10 (by exact Nat.ne_of_beq_eq_false rfl) 0 (23 * c + 3)).trans ((fU6 205 0 (23 * c + 3) rfl).trans ((up_k hU4 (by exact Nat.ne_of_beq_eq_false rfl) 0 (23 * c + 3)).trans (hf_48 205 0 (23 * c + 3) rfl)))
        show J_ zX11_can T (po_X11_can T c cl) 0 0 115 _ [vI (U10 205 0 (23 * c + 3)), vI (U10 205 0 (23 * c + 1))] U10
        refine j_blx (F := fX11) tb_X11 (nn_ _) bk_X11_can_115 bs_X11_can_115 hz (fun K hK => ?_)
        refine rg_i (by omega) ?_
        refine hK 120 _ [vI 2, vI c, vR 111 0, vI 2, vI ((U10 205 0 (23 * c + 1)) + (U10 205 0 (23 * c + 3)))] U10 ?_
        refine j_callV (y := yX11_rule0) (Yc := zX11_rule0) (rest := [vI 2, vI ((U10 205 0 (23 * c + 1)) + (U10 205 0 (23 * c + 3)))]) [vI c, vI 2] (ct_X11_rule0 (T := U10) (by omega) (by omega)) cl_X11_321 (qd_c (by decide +kernel)) (nn_ _) rfl (rf_of rfl) (Nat.le_of_ble_eq_true rfl) (Nat.le_of_ble_eq_true rfl) (Nat.le_of_ble_eq_true rfl) rfl ?_
        rintro _ _ ⟨rfl, rfl⟩
        have e14 : U10 205 0 (23 * c + 2) = T 205 0 (23 * c + 2) := (up_k hU10 (by exact Nat.ne_of_beq_eq_false rfl) 0 (23 * c + 2)).trans ((fU6 205 0 (23 * c + 2) rfl).trans ((up_k hU4 (by exact Nat.ne_of_beq_eq_false rfl) 0 (23 * c + 2)).trans (hf_48 205 0 (23 * c + 2) rfl)))
        show J_ zX11_can T (po_X11_can T c cl) 0 0 123 _ [vI (U10 205 0 (23 * c + 2)), vI 2, vI ((U10 205 0 (23 * c + 1)) + (U10 205 0 (23 * c + 3)))] U10
        refine j_blx (F := fX11) tb_X11 (nn_ _) bk_X11_can_123 bs_X11_can_123 hz (fun K hK => ?_)
        refine rg_i (by omega) ?_
        refine And.intro (fun c15 => ?_) (fun c15 => ?_)
        · refine hK 131 _ [] U10 ?_
          refine j_blx (F := fX11) tb_X11 (nn_ _) bk_X11_can_131 bs_X11_can_131 hz (fun K hK => ?_)
          refine And.intro (fun c16 => ?_) (fun c16 => ?_)
          · refine hK 152 [some (vR 111 0), some (vI c), some (vI cl), some (vI 0), none] [] U10 ?_
            refine j_blx (F := fX11) tb_X11 (nn_ _) bk_X11_can_152 bs_X11_can_152 hz (fun K hK => ?_)
            refine hK 155 _ [vI cl, vI c, vR 111 0] U10 ?_
            refine j_callV (y := yX11_canTry) (Yc := zX11_canTry) (rest := []) [vI c, vI cl] (ct_X11_canTry (T := U10) (by omega) (ML__f (ws := [(111, [95, 80, 82, 83, 90]), (276, []), (291, []), (292, []), (289, [])]) hml (fr_u (fr_t (fr_u (fr_t (fr_0 _ _) (fr_s hf_48 rfl)) hU4 rfl) (fr_s fU6 rfl)) hU10 rfl) ⟨fun _ => rfl, fun _ => rfl, rfl, trivial⟩)) cl_X11_573 (qd_c (by decide +kernel)) (nn_ _) rfl (rf_of rfl) (Nat.le_of_ble_eq_true rfl) (Nat.le_of_ble_eq_true rfl) (Nat.le_of_ble_eq_true rfl) rfl ?_
            rintro U17 _ ⟨x18, rfl, fU17, qU17⟩
            show J_ zX11_can T (po_X11_can T c cl) 0 0 158 _ [vI x18] U17
            refine j_blx (F := fX11) tb_X11 (nn_ _) bk_X11_can_158 bs_X11_can_158 hz (fun K hK => ?_)
            refine And.intro (fun c19 => ?_) (fun c19 => ?_)
            · refine hK 171 [some (vR 111 0), some (vI c), some (vI cl), some (vI 0), some (vI x18)] [vR 111 0] U17 ?_
              refine j_blx (F := fX11) tb_X11 (nn_ _) bk_X11_can_171 bs_X11_can_171 hz (fun K hK => ?_)
              refine bd_i (by omega) ?_
              refine x_nm (fun U20 hU20 => ?_)
              have e21 := up_f hU20
              refine (show po_X11_can T c cl U20 (some (vI x18)) from ?_)
              exact ⟨_, rfl, fr_u (fr_t (fr_u (fr_t (fr_u (fr_t (fr_0 _ _) (fr_s hf_48 rfl)) hU4 rfl) (fr_s fU6 rfl)) hU10 rfl) (fr_s fU17 rfl)) hU20 rfl, by trivial⟩
            · refine hK 172 _ [vI c, vR 111 0] U17 ?_
              refine j_blx (F := fX11) tb_X11 (nn_ _) bk_X11_can_172 bs_X11_can_172 hz (fun K hK => ?_)
              refine bd_i (by omega) ?_
              refine x_nm (fun U22 hU22 => ?_)
              have e23 := up_f hU22
              refine (show po_X11_can T c cl U22 (some (vI x18)) from ?_)
              exact ⟨_, rfl, fr_u (fr_t (fr_u (fr_t (fr_u (fr_t (fr_0 _ _) (fr_s hf_48 rfl)) hU4 rfl) (fr_s fU6 rfl)) hU10 rfl) (fr_s fU17 rfl)) hU22 rfl, by trivial⟩
          · exact absurd c16 (by decide)
        · refine hK 132 _ [vI 1] U10 ?_
          refine j_blx (F := fX11) tb_X11 (nn_ _) bk_X11_can_132 bs_X11_can_132 hz (fun K hK => ?_)
          refine And.intro (fun c24 => ?_) (fun c24 => ?_)
          · exact absurd c24 (by decide)
          · refine hK 143 [some (vR 111 0), some (vI c), some (vI cl), some (vI 1), none] [vI cl, vI c, vR 111 0, vI cl, vI c, vR 111 0] U10 ?_
            refine j_callV (y := yX11_othersOf) (Yc := zX11_othersOf) (rest := [vI cl, vI c, vR 111 0]) [vI c, vI cl] (ct_X11_othersOf (T := U10) (by omega)) cl_X11_567 (qd_c (by decide +kernel)) (nn_ _) rfl (rf_of rfl) (Nat.le_of_ble_eq_true rfl) (Nat.le_of_ble_eq_true rfl) (Nat.le_of_ble_eq_true rfl) rfl ?_
            rintro _ _ ⟨rfl, x25, rfl, hx25⟩
            show J_ zX11_can T (po_X11_can T c cl) 0 0 146 _ [vI x25, vI cl, vI c, vR 111 0] U10
            have e26 : U10 111 0 6 = T 111 0 6 := (up_j hU10 (by exact ni_ rfl) 111 0).trans ((fU6 111 0 6 rfl).trans ((up_j hU4 (by exact ni_ rfl) 111 0).trans (hf_48 111 0 6 rfl)))
            have e27 : U10 111 0 95 = (U6 291 0 cl) + ((U6 205 0 (23 * c + 1)) * (U6 292 0 cl)) := up_f hU10
            refine j_callV (y := yX11_canEven) (Yc := zX11_canEven) (rest := []) [vI c, vI cl, vI x25] (ct_X11_canEven (T := U10) (by omega) (by exact RI__f (ws := [(111, [95, 80, 82, 83, 90]), (276, []), (291, []), (292, []), (289, [])]) hri (fr_u (fr_t (fr_u (fr_t (fr_0 _ _) (fr_s hf_48 rfl)) hU4 rfl) (fr_s fU6 rfl)) hU10 rfl) ⟨fun _ => rfl, rfl, trivial⟩) (by exact RW__f (ws := [(111, [95, 80, 82, 83, 90]), (276, []), (291, []), (292, []), (289, [])]) hrw (fr_u (fr_t (fr_u (fr_t (fr_0 _ _) (fr_s hf_48 rfl)) hU4 rfl) (fr_s fU6 rfl)) hU10 rfl) ⟨fun _ => rfl, rfl, trivial⟩) (by exact ML__f (ws := [(111, [95, 80, 82, 83, 90]), (276, []), (291, []), (292, []), (289, [])]) hml (fr_u (fr_t (fr_u (fr_t (fr_0 _ _) (fr_s hf_48 rfl)) hU4 rfl) (fr_s fU6 rfl)) hU10 rfl) ⟨fun _ => rfl, fun _ => rfl, rfl, trivial⟩) (by omega) (by exact PB6__f (ws := [(111, [95])]) qU6a (fr_u (fr_0 _ _) hU10 rfl) ⟨fun _ => rfl, trivial⟩) (by exact fun k a b => by rw [up_k hU10 (by exact Nat.ne_of_beq_eq_false rfl) 0 k]; exact qU6b k a b) (by omega)) cl_X11_570 (qd_c (by decide +kernel)) (nn_ _) rfl (rf_of rfl) (Nat.le_of_ble_eq_true rfl) (Nat.le_of_ble_eq_true rfl) (Nat.le_of_ble_eq_true rfl) rfl ?_
            rintro U28 _ ⟨x29, rfl, fU28, qU28⟩
            show J_ zX11_can T (po_X11_can T c cl) 0 0 149 _ [vI x29] U28
            refine j_blx (F := fX11) tb_X11 (nn_ _) bk_X11_can_149 bs_X11_can_149 hz (fun K hK => ?_)
            refine hK 158 _ [vI x29] U28 ?_
            refine j_blx (F := fX11) tb_X11 (nn_ _) bk_X11_can_158 bs_X11_can_158 hz (fun K hK => ?_)
            refine And.intro (fun c30 => ?_) (fun c30 => ?_)
            · refine hK 171 [some (vR 111 0), some (vI c), some (vI cl), some (vI 1), some (vI x29)] [vR 111 0] U28 ?_
              refine j_blx (F := fX11) tb_X11 (nn_ _) bk_X11_can_171 bs_X11_can_171 hz (fun K hK => ?_)
              refine bd_i (by omega) ?_
              refine x_nm (fun U31 hU31 => ?_)
              have e32 := up_f hU31
              refine (show po_X11_can T c cl U31 (some (vI x29)) from ?_)
              exact ⟨_, rfl, fr_u (fr_t (fr_u (fr_t (fr_u (fr_t (fr_0 _ _) (fr_s hf_48 rfl)) hU4 rfl) (fr_s fU6 rfl)) hU10 rfl) (fr_s fU28 rfl)) hU31 rfl, by trivial⟩
            · refine hK 172 _ [vI c, vR 111 0] U28 ?_
              refine j_blx (F := fX11) tb_X11 (nn_ _) bk_X11_can_172 bs_X11_can_172 hz (fun K hK => ?_)
              refine bd_i (by omega) ?_
              refine x_nm (fun U33 hU33 => ?_)
              have e34 := up_f hU33
              refine (show po_X11_can T c cl U33 (some (vI x29)) from ?_)
              exact ⟨_, rfl, fr_u (fr_t (fr_u (fr_t (fr_u (fr_t (fr_0 _ _) (fr_s hf_48 rfl)) hU4 rfl) (fr_s fU6 rfl)) hU10 rfl) (fr_s fU28 rfl)) hU33 rfl, by trivial⟩
      · refine iy_i (by omega) (by omega) ?_
        refine x_nm (fun U35 hU35 => ?_)
        have e36 := up_f hU35
        refine rg_i (by omega) ?_
        refine hK 48 [some (vR 111 0), some (vI c), some (vI cl), some (vI (i + 1)), none] [] U35 ?_
        refine ih_48 _ ?_ (i + 1) U35 (Nat.le_refl _) ?_ ?_
        · have hm_48 := hm_48 (); omega
        · exact fr_u (fr_t (fr_0 _ _) (fr_s hf_48 rfl)) hU35 rfl
        · omega
  refine j_blx (F := fX11) tb_X11 (nn_ _) bk_X11_can_0 bs_X11_can_0 hz (fun K hK => ?_)
  intro b37 b37b
  refine hK 5 _ [vI (T 111 0 6), vI c] T ?_
  refine j_callS (y := yX11_isOf) (Yc := zX11_isOf) (rest := []) [vI c, vI (T 111 0 6)] (ct_X11_isOf (T := T) (by omega)) cl_X11_317 (qd_c (by decide +kernel)) (nn_ _) rfl (rf_of rfl) (Nat.le_of_ble_eq_true rfl) (Nat.le_of_ble_eq_true rfl) (Nat.le_of_ble_eq_true rfl) rfl ?_
  rintro _ _ ⟨rfl, x38, rfl, hx38⟩
  show J_ zX11_can T (po_X11_can T c cl) 0 0 8 _ [vI x38] T
  refine j_blx (F := fX11) tb_X11 (nn_ _) bk_X11_can_8 bs_X11_can_8 hz (fun K hK => ?_)
  refine And.intro (fun c39 => ?_) (fun c39 => ?_)
  · replace hx38 := hx38.resolve_left (fun z => absurd (c39.symm.trans z.1) (by decide))
    clear c39
    refine hK 22 _ [] T ?_
    refine j_blx (F := fX11) tb_X11 (nn_ _) bk_X11_can_22 bs_X11_can_22 hz (fun K hK => ?_)
    refine (show po_X11_can T c cl T (some (vI (-2))) from ?_)
    exact ⟨_, rfl, fr_0 _ _, by trivial⟩
  · replace hx38 := hx38.resolve_right (fun z => c39 z.1)
    clear c39
    intro b40 b40b
    refine hK 16 _ [vI (T 111 0 12), vI cl] T ?_
    refine j_callS (y := yX11_isOf) (Yc := zX11_isOf) (rest := []) [vI cl, vI (T 111 0 12)] (ct_X11_isOf (T := T) (by omega)) cl_X11_317 (qd_c (by decide +kernel)) (nn_ _) rfl (rf_of rfl) (Nat.le_of_ble_eq_true rfl) (Nat.le_of_ble_eq_true rfl) (Nat.le_of_ble_eq_true rfl) rfl ?_
    rintro _ _ ⟨rfl, x41, rfl, hx41⟩
    show J_ zX11_can T (po_X11_can T c cl) 0 0 19 _ [vI x41] T
    refine j_blx (F := fX11) tb_X11 (nn_ _) bk_X11_can_19 bs_X11_can_19 hz (fun K hK => ?_)
    refine And.intro (fun c42 => ?_) (fun c42 => ?_)
    · replace hx41 := hx41.resolve_right (fun z => c42 z.1)
      clear c42
      refine hK 25 _ [] T ?_
      refine j_blx (F := fX11) tb_X11 (nn_ _) bk_X11_can_25 bs_X11_can_25 hz (fun K hK => ?_)
      refine ix_i (by omega) ?_
      intro b43 b43b
      refine And.intro (fun c44 => ?_) (fun c44 => ?_)
      · refine hK 43 _ [] T ?_
        refine j_blx (F := fX11) tb_X11 (nn_ _) bk_X11_can_43 bs_X11_can_43 hz (fun K hK => ?_)
        refine (show po_X11_can T c cl T (some (vI (-4))) from ?_)
        exact ⟨_, rfl, fr_0 _ _, by trivial⟩
      · refine hK 37 _ [vI cl, vI c, vR 111 0] T ?_
        refine j_callV (y := yX11_hasEntered) (Yc := zX11_hasEntered) (rest := []) [vI c, vI cl] (ct_X11_hasEntered (T := T) (by omega)) cl_X11_340 (qd_c (by decide +kernel)) (nn_ _) rfl (rf_of rfl) (Nat.le_of_ble_eq_true rfl) (Nat.le_of_ble_eq_true rfl) (Nat.le_of_ble_eq_true rfl) rfl ?_
        rintro _ _ ⟨rfl, x45, rfl, hx45⟩
        show J_ zX11_can T (po_X11_can T c cl) 0 0 40 _ [vI x45] T
        refine j_blx (F := fX11) tb_X11 (nn_ _) bk_X11_can_40 bs_X11_can_40 hz (fun K hK => ?_)
        refine And.intro (fun c46 => ?_) (fun c46 => ?_)
        · replace hx45 := hx45.resolve_right (fun z => c46 z.1)
          clear c46
          refine hK 46 _ [] T ?_
          refine j_blx (F := fX11) tb_X11 (nn_ _) bk_X11_can_46 bs_X11_can_46 hz (fun K hK => ?_)
          refine hK 48 [some (vR 111 0), some (vI c), some (vI cl), some (vI 0), none] [] T ?_
          refine c_48 _ 0 T (Nat.le_refl _) ?_ ?_
          · exact fr_0 _ _
          · omega
        · replace hx45 := hx45.resolve_left (fun z => absurd (c46.symm.trans z.1) (by decide))
          clear c46
          refine (show po_X11_can T c cl T (some (vI (-4))) from ?_)
          exact ⟨_, rfl, fr_0 _ _, by trivial⟩
    · replace hx41 := hx41.resolve_left (fun z => absurd (c42.symm.trans z.1) (by decide))
      clear c42
      refine (show po_X11_can T c cl T (some (vI (-2))) from ?_)
      exact ⟨_, rfl, fr_0 _ _, by trivial⟩
