abbrev cX11_canEven : ByteArray := prog_13_method_104_code
def yX11_canEven : MethodName := ⟨RX11, "canEven", "(III)I"⟩
def zX11_canEven : Zm := (RX11, cX11_canEven, 9, (some .int), { frames := 2, cells := 0, slots := 0, locals := 52 })
theorem bk_X11_canEven_209 : ck_ fX11 (some .int) cX11_canEven 209 [.iload 6, .aload 0, .tableswitch 0 11 10 #[], .iload 1, .iaload, .aload 0, .tableswitch 0 11 11 #[], .iload 1, .iaload, .iadd, .if_icmp .ge 328, .aload 0, .tableswitch 0 11 32 #[], .iload 6, .iaload, .istore 7, .aload 0, .tableswitch 0 11 33 #[], .iload 6, .iaload, .istore 8, .aload 0, .iload 6] 248 = true := qck_r (nn_ _) (by decide +kernel)
theorem bs_X11_canEven_209 {P : Zt → Option Zv → Prop} (K : Int → Zl → List Zv → Zt → Prop) : sx_ K P [.iload 6, .aload 0, .tableswitch 0 11 10 #[], .iload 1, .iaload, .aload 0, .tableswitch 0 11 11 #[], .iload 1, .iaload, .iadd, .if_icmp .ge 328, .aload 0, .tableswitch 0 11 32 #[], .iload 6, .iaload, .istore 7, .aload 0, .tableswitch 0 11 33 #[], .iload 6, .iaload, .istore 8, .aload 0, .iload 6] 248 = x_iload 6 (x_aload 0 (x_g1 111 210 (x_iload 1 (x_iaload (x_aload 0 (x_g1 111 211 (x_iload 1 (x_iaload (x_iadd (x_if_icmp .ge 328 K (x_aload 0 (x_g1 111 232 (x_iload 6 (x_iaload (x_istore 7 (x_aload 0 (x_g1 111 233 (x_iload 6 (x_iaload (x_istore 8 (x_aload 0 (x_iload 6 (K 248))))))))))))))))))))))) := ((xe_iload 6).trans (congrArg (x_iload 6) ((xe_aload 0).trans (congrArg (x_aload 0) ((xe_g1 (kk := 111) rfl tl_11_10).trans (congrArg (x_g1 111 210) ((xe_iload 1).trans (congrArg (x_iload 1) ((xe_iaload).trans (congrArg (x_iaload) ((xe_aload 0).trans (congrArg (x_aload 0) ((xe_g1 (kk := 111) rfl tl_11_11).trans (congrArg (x_g1 111 211) ((xe_iload 1).trans (congrArg (x_iload 1) ((xe_iaload).trans (congrArg (x_iaload) ((xe_iadd).trans (congrArg (x_iadd) ((xe_if_icmp .ge 328).trans (congrArg (x_if_icmp .ge 328 K) ((xe_aload 0).trans (congrArg (x_aload 0) ((xe_g1 (kk := 111) rfl tl_11_32).trans (congrArg (x_g1 111 232) ((xe_iload 6).trans (congrArg (x_iload 6) ((xe_iaload).trans (congrArg (x_iaload) ((xe_istore 7).trans (congrArg (x_istore 7) ((xe_aload 0).trans (congrArg (x_aload 0) ((xe_g1 (kk := 111) rfl tl_11_33).trans (congrArg (x_g1 111 233) ((xe_iload 6).trans (congrArg (x_iload 6) ((xe_iaload).trans (congrArg (x_iaload) ((xe_istore 8).trans (congrArg (x_istore 8) ((xe_aload 0).trans (congrArg (x_aload 0) ((xe_iload 6).trans (congrArg (x_iload 6) xe_nil))))))))))))))))))))))))))))))))))))))))))))))
theorem bk_X11_canEven_328 : ck_ fX11 (some .int) cX11_canEven 328 [.iconst 1, .ireturn] 330 = true := qck_r (nn_ _) (by decide +kernel)
theorem bs_X11_canEven_328 {P : Zt → Option Zv → Prop} (K : Int → Zl → List Zv → Zt → Prop) : sx_ K P [.iconst 1, .ireturn] 330 = x_iconst 1 (x_ireturn P) := ((xe_iconst 1).trans (congrArg (x_iconst 1) (xe_ireturn)))
theorem bk_X11_canEven_251 : ck_ fX11 (some .int) cX11_canEven 251 [.ifCond .eq 287, .iload 7, .iload 2, .if_icmp .eq 266, .iload 8, .iload 2, .if_icmp .ne 287, .aload 0, .tableswitch 0 11 89 #[], .iload 6, .iload 7, .iload 2, .if_icmp .ne 282, .iconst 0, .goto 283] 282 = true := qck_r (nn_ _) (by decide +kernel)
theorem bs_X11_canEven_251 {P : Zt → Option Zv → Prop} (K : Int → Zl → List Zv → Zt → Prop) : sx_ K P [.ifCond .eq 287, .iload 7, .iload 2, .if_icmp .eq 266, .iload 8, .iload 2, .if_icmp .ne 287, .aload 0, .tableswitch 0 11 89 #[], .iload 6, .iload 7, .iload 2, .if_icmp .ne 282, .iconst 0, .goto 283] 282 = x_ifCond .eq 287 K (x_iload 7 (x_iload 2 (x_if_icmp .eq 266 K (x_iload 8 (x_iload 2 (x_if_icmp .ne 287 K (x_aload 0 (x_g1 111 289 (x_iload 6 (x_iload 7 (x_iload 2 (x_if_icmp .ne 282 K (x_iconst 0 (x_goto 283 K)))))))))))))) := ((xe_ifCond .eq 287).trans (congrArg (x_ifCond .eq 287 K) ((xe_iload 7).trans (congrArg (x_iload 7) ((xe_iload 2).trans (congrArg (x_iload 2) ((xe_if_icmp .eq 266).trans (congrArg (x_if_icmp .eq 266 K) ((xe_iload 8).trans (congrArg (x_iload 8) ((xe_iload 2).trans (congrArg (x_iload 2) ((xe_if_icmp .ne 287).trans (congrArg (x_if_icmp .ne 287 K) ((xe_aload 0).trans (congrArg (x_aload 0) ((xe_g1 (kk := 111) rfl tl_11_89).trans (congrArg (x_g1 111 289) ((xe_iload 6).trans (congrArg (x_iload 6) ((xe_iload 7).trans (congrArg (x_iload 7) ((xe_iload 2).trans (congrArg (x_iload 2) ((xe_if_icmp .ne 282).trans (congrArg (x_if_icmp .ne 282 K) ((xe_iconst 0).trans (congrArg (x_iconst 0) (xe_goto 283)))))))))))))))))))))))))))))
theorem bk_X11_canEven_287 : ck_ fX11 (some .int) cX11_canEven 287 [.aload 0, .iload 6] 290 = true := qck_r (nn_ _) (by decide +kernel)
theorem bs_X11_canEven_287 {P : Zt → Option Zv → Prop} (K : Int → Zl → List Zv → Zt → Prop) : sx_ K P [.aload 0, .iload 6] 290 = x_aload 0 (x_iload 6 (K 290)) := ((xe_aload 0).trans (congrArg (x_aload 0) ((xe_iload 6).trans (congrArg (x_iload 6) xe_nil))))
theorem bk_X11_canEven_293 : ck_ fX11 (some .int) cX11_canEven 293 [.ifCond .eq 322, .aload 0, .tableswitch 0 11 89 #[], .iload 6, .aload 0, .iload 3, .iload 7, .iload 8, .iload 5, .ifCond .ne 317, .iconst 1, .goto 318] 317 = true := qck_r (nn_ _) (by decide +kernel)
theorem bs_X11_canEven_293 {P : Zt → Option Zv → Prop} (K : Int → Zl → List Zv → Zt → Prop) : sx_ K P [.ifCond .eq 322, .aload 0, .tableswitch 0 11 89 #[], .iload 6, .aload 0, .iload 3, .iload 7, .iload 8, .iload 5, .ifCond .ne 317, .iconst 1, .goto 318] 317 = x_ifCond .eq 322 K (x_aload 0 (x_g1 111 289 (x_iload 6 (x_aload 0 (x_iload 3 (x_iload 7 (x_iload 8 (x_iload 5 (x_ifCond .ne 317 K (x_iconst 1 (x_goto 318 K))))))))))) := ((xe_ifCond .eq 322).trans (congrArg (x_ifCond .eq 322 K) ((xe_aload 0).trans (congrArg (x_aload 0) ((xe_g1 (kk := 111) rfl tl_11_89).trans (congrArg (x_g1 111 289) ((xe_iload 6).trans (congrArg (x_iload 6) ((xe_aload 0).trans (congrArg (x_aload 0) ((xe_iload 3).trans (congrArg (x_iload 3) ((xe_iload 7).trans (congrArg (x_iload 7) ((xe_iload 8).trans (congrArg (x_iload 8) ((xe_iload 5).trans (congrArg (x_iload 5) ((xe_ifCond .ne 317).trans (congrArg (x_ifCond .ne 317 K) ((xe_iconst 1).trans (congrArg (x_iconst 1) (xe_goto 318)))))))))))))))))))))))
theorem bk_X11_canEven_322 : ck_ fX11 (some .int) cX11_canEven 322 [.iinc 6 1, .goto 209] 328 = true := qck_r (nn_ _) (by decide +kernel)
theorem bs_X11_canEven_322 {P : Zt → Option Zv → Prop} (K : Int → Zl → List Zv → Zt → Prop) : sx_ K P [.iinc 6 1, .goto 209] 328 = x_iinc 6 1 (x_goto 209 K) := ((xe_iinc 6 1).trans (congrArg (x_iinc 6 1) (xe_goto 209)))
theorem bk_X11_canEven_317 : ck_ fX11 (some .int) cX11_canEven 317 [.iconst 0] 318 = true := qck_r (nn_ _) (by decide +kernel)
theorem bs_X11_canEven_317 {P : Zt → Option Zv → Prop} (K : Int → Zl → List Zv → Zt → Prop) : sx_ K P [.iconst 0] 318 = x_iconst 0 (K 318) := ((xe_iconst 0).trans (congrArg (x_iconst 0) xe_nil))
set_option maxRecDepth 100000 in
theorem cl_X11_557 : cv_ RX11 557 yX11_settle zX11_settle 11 4 := ⟨gi_V (lwq_10 (dqa_m (List.mem_of_getElem? (i := 4) rfl)) rfl : Cond.methodLink RX11 557 yX11_settle ∈ lw_g) (lwq_10 (dqa_m (List.mem_of_getElem? (i := 6) rfl)) rfl : Cond.instanceMethod yX11_settle ∈ lw_g) (lw_sel 65 rfl : Cond.selects yX11_settle.cls yX11_settle yX11_settle ∈ lw_g) (lwq_1 (dqa_m (List.mem_of_getElem? (i := 2) rfl)) rfl : Cond.initialized yX11_settle.cls ∈ lw_g) (lwq_10 (dqa_m (List.mem_of_getElem? (i := 7) rfl)) rfl : Cond.code yX11_settle cX11_settle 8 (some .int) ∈ lw_g), ⟨nmh_1.1, nmh_1.2, pdq_16⟩, ⟨_, _, rfl⟩⟩
theorem bk_X11_canEven_321 : ck_ fX11 (some .int) cX11_canEven 321 [.iastore, .iinc 6 1, .goto 209] 328 = true := qck_r (nn_ _) (by decide +kernel)
theorem bs_X11_canEven_321 {P : Zt → Option Zv → Prop} (K : Int → Zl → List Zv → Zt → Prop) : sx_ K P [.iastore, .iinc 6 1, .goto 209] 328 = x_iastore (x_iinc 6 1 (x_goto 209 K)) := ((xe_iastore).trans (congrArg (x_iastore) ((xe_iinc 6 1).trans (congrArg (x_iinc 6 1) (xe_goto 209)))))
theorem bk_X11_canEven_266 : ck_ fX11 (some .int) cX11_canEven 266 [.aload 0, .tableswitch 0 11 89 #[], .iload 6, .iload 7, .iload 2, .if_icmp .ne 282, .iconst 0, .goto 283] 282 = true := qck_r (nn_ _) (by decide +kernel)
theorem bs_X11_canEven_266 {P : Zt → Option Zv → Prop} (K : Int → Zl → List Zv → Zt → Prop) : sx_ K P [.aload 0, .tableswitch 0 11 89 #[], .iload 6, .iload 7, .iload 2, .if_icmp .ne 282, .iconst 0, .goto 283] 282 = x_aload 0 (x_g1 111 289 (x_iload 6 (x_iload 7 (x_iload 2 (x_if_icmp .ne 282 K (x_iconst 0 (x_goto 283 K))))))) := ((xe_aload 0).trans (congrArg (x_aload 0) ((xe_g1 (kk := 111) rfl tl_11_89).trans (congrArg (x_g1 111 289) ((xe_iload 6).trans (congrArg (x_iload 6) ((xe_iload 7).trans (congrArg (x_iload 7) ((xe_iload 2).trans (congrArg (x_iload 2) ((xe_if_icmp .ne 282).trans (congrArg (x_if_icmp .ne 282 K) ((xe_iconst 0).trans (congrArg (x_iconst 0) (xe_goto 283)))))))))))))))
theorem bk_X11_canEven_282 : ck_ fX11 (some .int) cX11_canEven 282 [.iconst 2, .iastore, .goto 322] 287 = true := qck_r (nn_ _) (by decide +kernel)
theorem bs_X11_canEven_282 {P : Zt → Option Zv → Prop} (K : Int → Zl → List Zv → Zt → Prop) : sx_ K P [.iconst 2, .iastore, .goto 322] 287 = x_iconst 2 (x_iastore (x_goto 322 K)) := ((xe_iconst 2).trans (congrArg (x_iconst 2) ((xe_iastore).trans (congrArg (x_iastore) (xe_goto 322)))))
theorem bk_X11_canEven_283 : ck_ fX11 (some .int) cX11_canEven 283 [.iastore, .goto 322] 287 = true := qck_r (nn_ _) (by decide +kernel)
theorem bs_X11_canEven_283 {P : Zt → Option Zv → Prop} (K : Int → Zl → List Zv → Zt → Prop) : sx_ K P [.iastore, .goto 322] 287 = x_iastore (x_goto 322 K) := ((xe_iastore).trans (congrArg (x_iastore) (xe_goto 322)))
theorem bk_X11_canEven_103 : ck_ fX11 (some .int) cX11_canEven 103 [.iload 6, .iconst 12, .if_icmp .ge 177, .aload 0, .tableswitch 0 11 95 #[], .aload 0, .tableswitch 0 11 91 #[], .iload 6, .iaload, .isub, .aload 0, .iload 1, .iconst 3] 125 = true := qck_r (nn_ _) (by decide +kernel)
theorem bs_X11_canEven_103 {P : Zt → Option Zv → Prop} (K : Int → Zl → List Zv → Zt → Prop) : sx_ K P [.iload 6, .iconst 12, .if_icmp .ge 177, .aload 0, .tableswitch 0 11 95 #[], .aload 0, .tableswitch 0 11 91 #[], .iload 6, .iaload, .isub, .aload 0, .iload 1, .iconst 3] 125 = x_iload 6 (x_iconst 12 (x_if_icmp .ge 177 K (x_aload 0 (x_g0 111 95 (-2147483648) 2147483647 (x_aload 0 (x_g1 111 291 (x_iload 6 (x_iaload (x_isub (x_aload 0 (x_iload 1 (x_iconst 3 (K 125))))))))))))) := ((xe_iload 6).trans (congrArg (x_iload 6) ((xe_iconst 12).trans (congrArg (x_iconst 12) ((xe_if_icmp .ge 177).trans (congrArg (x_if_icmp .ge 177 K) ((xe_aload 0).trans (congrArg (x_aload 0) ((xe_g0 (kk := 111) rfl tl_11_95).trans (congrArg (x_g0 111 95 (-2147483648) 2147483647) ((xe_aload 0).trans (congrArg (x_aload 0) ((xe_g1 (kk := 111) rfl tl_11_91).trans (congrArg (x_g1 111 291) ((xe_iload 6).trans (congrArg (x_iload 6) ((xe_iaload).trans (congrArg (x_iaload) ((xe_isub).trans (congrArg (x_isub) ((xe_aload 0).trans (congrArg (x_aload 0) ((xe_iload 1).trans (congrArg (x_iload 1) ((xe_iconst 3).trans (congrArg (x_iconst 3) xe_nil))))))))))))))))))))))))))
theorem bk_X11_canEven_177 : ck_ fX11 (some .int) cX11_canEven 177 [.aload 0, .iload 1, .iload 2] 180 = true := qck_r (nn_ _) (by decide +kernel)
theorem bs_X11_canEven_177 {P : Zt → Option Zv → Prop} (K : Int → Zl → List Zv → Zt → Prop) : sx_ K P [.aload 0, .iload 1, .iload 2] 180 = x_aload 0 (x_iload 1 (x_iload 2 (K 180))) := ((xe_aload 0).trans (congrArg (x_aload 0) ((xe_iload 1).trans (congrArg (x_iload 1) ((xe_iload 2).trans (congrArg (x_iload 2) xe_nil))))))
set_option maxRecDepth 100000 in
theorem cl_X11_548 : cv_ RX11 548 yX11_layBetween zX11_layBetween 11 2 := ⟨gi_V (lwq_10 (List.mem_of_getElem? (i := 4) rfl) rfl : Cond.methodLink RX11 548 yX11_layBetween ∈ lw_g) (lwq_10 (List.mem_of_getElem? (i := 6) rfl) rfl : Cond.instanceMethod yX11_layBetween ∈ lw_g) (lw_sel 32 rfl : Cond.selects yX11_layBetween.cls yX11_layBetween yX11_layBetween ∈ lw_g) (lwq_1 (dqa_m (List.mem_of_getElem? (i := 2) rfl)) rfl : Cond.initialized yX11_layBetween.cls ∈ lw_g) (lwq_10 (List.mem_of_getElem? (i := 7) rfl) rfl : Cond.code yX11_layBetween cX11_layBetween 4 none ∈ lw_g), ⟨nmh_1.1, nmh_1.2, pdq_0⟩, ⟨_, _, rfl⟩⟩
theorem bk_X11_canEven_183 : ck_ fX11 (some .int) cX11_canEven 183 [.aload 0, .aload 0, .iload 3] 186 = true := qck_r (nn_ _) (by decide +kernel)
theorem bs_X11_canEven_183 {P : Zt → Option Zv → Prop} (K : Int → Zl → List Zv → Zt → Prop) : sx_ K P [.aload 0, .aload 0, .iload 3] 186 = x_aload 0 (x_aload 0 (x_iload 3 (K 186))) := ((xe_aload 0).trans (congrArg (x_aload 0) ((xe_aload 0).trans (congrArg (x_aload 0) ((xe_iload 3).trans (congrArg (x_iload 3) xe_nil))))))
set_option maxRecDepth 100000 in
theorem cl_X11_551 : cv_ RX11 551 yX11_laySlack zX11_laySlack 11 1 := ⟨gi_V (lwq_10 (dqa_m (List.mem_of_getElem? (i := 0) rfl)) rfl : Cond.methodLink RX11 551 yX11_laySlack ∈ lw_g) (lwq_10 (dqa_m (List.mem_of_getElem? (i := 2) rfl)) rfl : Cond.instanceMethod yX11_laySlack ∈ lw_g) (lw_sel 34 rfl : Cond.selects yX11_laySlack.cls yX11_laySlack yX11_laySlack ∈ lw_g) (lwq_1 (dqa_m (List.mem_of_getElem? (i := 2) rfl)) rfl : Cond.initialized yX11_laySlack.cls ∈ lw_g) (lwq_10 (dqa_m (List.mem_of_getElem? (i := 3) rfl)) rfl : Cond.code yX11_laySlack cX11_laySlack 7 (some .int) ∈ lw_g), ⟨nmh_1.1, nmh_1.2, pdq_15⟩, ⟨_, _, rfl⟩⟩
theorem bk_X11_canEven_189 : ck_ fX11 (some .int) cX11_canEven 189 [.tableswitch 1 11 90 #[], .aload 0, .tableswitch 0 11 90 #[], .ifCond .eq 201, .iconst 0, .ireturn] 201 = true := qck_r (nn_ _) (by decide +kernel)
theorem bs_X11_canEven_189 {P : Zt → Option Zv → Prop} (K : Int → Zl → List Zv → Zt → Prop) : sx_ K P [.tableswitch 1 11 90 #[], .aload 0, .tableswitch 0 11 90 #[], .ifCond .eq 201, .iconst 0, .ireturn] 201 = x_p 111 90 0 4095 (x_aload 0 (x_g0 111 90 0 4095 (x_ifCond .eq 201 K (x_iconst 0 (x_ireturn P))))) := ((xe_p (kk := 111) rfl tl_11_90).trans (congrArg (x_p 111 90 0 4095) ((xe_aload 0).trans (congrArg (x_aload 0) ((xe_g0 (kk := 111) rfl tl_11_90).trans (congrArg (x_g0 111 90 0 4095) ((xe_ifCond .eq 201).trans (congrArg (x_ifCond .eq 201 K) ((xe_iconst 0).trans (congrArg (x_iconst 0) (xe_ireturn)))))))))))
theorem bk_X11_canEven_201 : ck_ fX11 (some .int) cX11_canEven 201 [.aload 0, .tableswitch 0 11 10 #[], .iload 1, .iaload, .istore 6] 209 = true := qck_r (nn_ _) (by decide +kernel)
theorem bs_X11_canEven_201 {P : Zt → Option Zv → Prop} (K : Int → Zl → List Zv → Zt → Prop) : sx_ K P [.aload 0, .tableswitch 0 11 10 #[], .iload 1, .iaload, .istore 6] 209 = x_aload 0 (x_g1 111 210 (x_iload 1 (x_iaload (x_istore 6 (K 209))))) := ((xe_aload 0).trans (congrArg (x_aload 0) ((xe_g1 (kk := 111) rfl tl_11_10).trans (congrArg (x_g1 111 210) ((xe_iload 1).trans (congrArg (x_iload 1) ((xe_iaload).trans (congrArg (x_iaload) ((xe_istore 6).trans (congrArg (x_istore 6) xe_nil))))))))))
theorem bk_X11_canEven_128 : ck_ fX11 (some .int) cX11_canEven 128 [.aload 0, .tableswitch 0 11 92 #[], .iload 6, .iaload, .imul, .isub, .istore 7, .aload 0, .tableswitch 0 11 93 #[], .iload 6, .iload 7, .ifCond .ge 154, .iconst (-1), .goto 170] 154 = true := qck_r (nn_ _) (by decide +kernel)
theorem bs_X11_canEven_128 {P : Zt → Option Zv → Prop} (K : Int → Zl → List Zv → Zt → Prop) : sx_ K P [.aload 0, .tableswitch 0 11 92 #[], .iload 6, .iaload, .imul, .isub, .istore 7, .aload 0, .tableswitch 0 11 93 #[], .iload 6, .iload 7, .ifCond .ge 154, .iconst (-1), .goto 170] 154 = x_aload 0 (x_g1 111 292 (x_iload 6 (x_iaload (x_imul (x_isub (x_istore 7 (x_aload 0 (x_g1 111 293 (x_iload 6 (x_iload 7 (x_ifCond .ge 154 K (x_iconst (-1) (x_goto 170 K))))))))))))) := ((xe_aload 0).trans (congrArg (x_aload 0) ((xe_g1 (kk := 111) rfl tl_11_92).trans (congrArg (x_g1 111 292) ((xe_iload 6).trans (congrArg (x_iload 6) ((xe_iaload).trans (congrArg (x_iaload) ((xe_imul).trans (congrArg (x_imul) ((xe_isub).trans (congrArg (x_isub) ((xe_istore 7).trans (congrArg (x_istore 7) ((xe_aload 0).trans (congrArg (x_aload 0) ((xe_g1 (kk := 111) rfl tl_11_93).trans (congrArg (x_g1 111 293) ((xe_iload 6).trans (congrArg (x_iload 6) ((xe_iload 7).trans (congrArg (x_iload 7) ((xe_ifCond .ge 154).trans (congrArg (x_ifCond .ge 154 K) ((xe_iconst (-1)).trans (congrArg (x_iconst (-1)) (xe_goto 170)))))))))))))))))))))))))))
theorem bk_X11_canEven_154 : ck_ fX11 (some .int) cX11_canEven 154 [.iload 5, .ifCond .ne 165, .iconst 1000, .goto 170] 165 = true := qck_r (nn_ _) (by decide +kernel)
theorem bs_X11_canEven_154 {P : Zt → Option Zv → Prop} (K : Int → Zl → List Zv → Zt → Prop) : sx_ K P [.iload 5, .ifCond .ne 165, .iconst 1000, .goto 170] 165 = x_iload 5 (x_ifCond .ne 165 K (x_iconst 1000 (x_goto 170 K))) := ((xe_iload 5).trans (congrArg (x_iload 5) ((xe_ifCond .ne 165).trans (congrArg (x_ifCond .ne 165 K) ((xe_iconst 1000).trans (congrArg (x_iconst 1000) (xe_goto 170)))))))
theorem bk_X11_canEven_165 : ck_ fX11 (some .int) cX11_canEven 165 [.iload 7, .iload 5, .idiv, .iastore, .iinc 6 1, .goto 103] 177 = true := qck_r (nn_ _) (by decide +kernel)
theorem bs_X11_canEven_165 {P : Zt → Option Zv → Prop} (K : Int → Zl → List Zv → Zt → Prop) : sx_ K P [.iload 7, .iload 5, .idiv, .iastore, .iinc 6 1, .goto 103] 177 = x_iload 7 (x_iload 5 (x_idiv (x_iastore (x_iinc 6 1 (x_goto 103 K))))) := ((xe_iload 7).trans (congrArg (x_iload 7) ((xe_iload 5).trans (congrArg (x_iload 5) ((xe_idiv).trans (congrArg (x_idiv) ((xe_iastore).trans (congrArg (x_iastore) ((xe_iinc 6 1).trans (congrArg (x_iinc 6 1) (xe_goto 103)))))))))))
theorem bk_X11_canEven_170 : ck_ fX11 (some .int) cX11_canEven 170 [.iastore, .iinc 6 1, .goto 103] 177 = true := qck_r (nn_ _) (by decide +kernel)
theorem bs_X11_canEven_170 {P : Zt → Option Zv → Prop} (K : Int → Zl → List Zv → Zt → Prop) : sx_ K P [.iastore, .iinc 6 1, .goto 103] 177 = x_iastore (x_iinc 6 1 (x_goto 103 K)) := ((xe_iastore).trans (congrArg (x_iastore) ((xe_iinc 6 1).trans (congrArg (x_iinc 6 1) (xe_goto 103)))))
theorem bk_X11_canEven_11 : ck_ fX11 (some .int) cX11_canEven 11 [.iload 5, .aload 0, .tableswitch 0 11 10 #[], .iload 1, .iaload, .aload 0, .tableswitch 0 11 11 #[], .iload 1, .iaload, .iadd, .if_icmp .ge 76, .iload 4, .aload 0, .iload 5] 34 = true := qck_r (nn_ _) (by decide +kernel)
theorem bs_X11_canEven_11 {P : Zt → Option Zv → Prop} (K : Int → Zl → List Zv → Zt → Prop) : sx_ K P [.iload 5, .aload 0, .tableswitch 0 11 10 #[], .iload 1, .iaload, .aload 0, .tableswitch 0 11 11 #[], .iload 1, .iaload, .iadd, .if_icmp .ge 76, .iload 4, .aload 0, .iload 5] 34 = x_iload 5 (x_aload 0 (x_g1 111 210 (x_iload 1 (x_iaload (x_aload 0 (x_g1 111 211 (x_iload 1 (x_iaload (x_iadd (x_if_icmp .ge 76 K (x_iload 4 (x_aload 0 (x_iload 5 (K 34)))))))))))))) := ((xe_iload 5).trans (congrArg (x_iload 5) ((xe_aload 0).trans (congrArg (x_aload 0) ((xe_g1 (kk := 111) rfl tl_11_10).trans (congrArg (x_g1 111 210) ((xe_iload 1).trans (congrArg (x_iload 1) ((xe_iaload).trans (congrArg (x_iaload) ((xe_aload 0).trans (congrArg (x_aload 0) ((xe_g1 (kk := 111) rfl tl_11_11).trans (congrArg (x_g1 111 211) ((xe_iload 1).trans (congrArg (x_iload 1) ((xe_iaload).trans (congrArg (x_iaload) ((xe_iadd).trans (congrArg (x_iadd) ((xe_if_icmp .ge 76).trans (congrArg (x_if_icmp .ge 76 K) ((xe_iload 4).trans (congrArg (x_iload 4) ((xe_aload 0).trans (congrArg (x_aload 0) ((xe_iload 5).trans (congrArg (x_iload 5) xe_nil))))))))))))))))))))))))))))
theorem bk_X11_canEven_76 : ck_ fX11 (some .int) cX11_canEven 76 [.iload 4, .iconst 40, .if_icmp .le 85, .iconst 2, .ireturn] 85 = true := qck_r (nn_ _) (by decide +kernel)
theorem bs_X11_canEven_76 {P : Zt → Option Zv → Prop} (K : Int → Zl → List Zv → Zt → Prop) : sx_ K P [.iload 4, .iconst 40, .if_icmp .le 85, .iconst 2, .ireturn] 85 = x_iload 4 (x_iconst 40 (x_if_icmp .le 85 K (x_iconst 2 (x_ireturn P)))) := ((xe_iload 4).trans (congrArg (x_iload 4) ((xe_iconst 40).trans (congrArg (x_iconst 40) ((xe_if_icmp .le 85).trans (congrArg (x_if_icmp .le 85 K) ((xe_iconst 2).trans (congrArg (x_iconst 2) (xe_ireturn)))))))))
theorem bk_X11_canEven_85 : ck_ fX11 (some .int) cX11_canEven 85 [.aload 0, .iload 1, .iconst 1] 88 = true := qck_r (nn_ _) (by decide +kernel)
theorem bs_X11_canEven_85 {P : Zt → Option Zv → Prop} (K : Int → Zl → List Zv → Zt → Prop) : sx_ K P [.aload 0, .iload 1, .iconst 1] 88 = x_aload 0 (x_iload 1 (x_iconst 1 (K 88))) := ((xe_aload 0).trans (congrArg (x_aload 0) ((xe_iload 1).trans (congrArg (x_iload 1) ((xe_iconst 1).trans (congrArg (x_iconst 1) xe_nil))))))
theorem bk_X11_canEven_91 : ck_ fX11 (some .int) cX11_canEven 91 [.aload 0, .iload 1, .iconst 2] 94 = true := qck_r (nn_ _) (by decide +kernel)
theorem bs_X11_canEven_91 {P : Zt → Option Zv → Prop} (K : Int → Zl → List Zv → Zt → Prop) : sx_ K P [.aload 0, .iload 1, .iconst 2] 94 = x_aload 0 (x_iload 1 (x_iconst 2 (K 94))) := ((xe_aload 0).trans (congrArg (x_aload 0) ((xe_iload 1).trans (congrArg (x_iload 1) ((xe_iconst 2).trans (congrArg (x_iconst 2) xe_nil))))))
theorem bk_X11_canEven_97 : ck_ fX11 (some .int) cX11_canEven 97 [.isub, .istore 5, .iconst 0, .istore 6] 103 = true := qck_r (nn_ _) (by decide +kernel)
theorem bs_X11_canEven_97 {P : Zt → Option Zv → Prop} (K : Int → Zl → List Zv → Zt → Prop) : sx_ K P [.isub, .istore 5, .iconst 0, .istore 6] 103 = x_isub (x_istore 5 (x_iconst 0 (x_istore 6 (K 103)))) := ((xe_isub).trans (congrArg (x_isub) ((xe_istore 5).trans (congrArg (x_istore 5) ((xe_iconst 0).trans (congrArg (x_iconst 0) ((xe_istore 6).trans (congrArg (x_istore 6) xe_nil))))))))
theorem bk_X11_canEven_37 : ck_ fX11 (some .int) cX11_canEven 37 [.ifCond .eq 66, .aload 0, .tableswitch 0 11 32 #[], .iload 5, .iaload, .iload 2, .if_icmp .eq 66, .aload 0, .tableswitch 0 11 33 #[], .iload 5, .iaload, .iload 2, .if_icmp .eq 66, .iconst 1, .goto 67] 66 = true := qck_r (nn_ _) (by decide +kernel)
theorem bs_X11_canEven_37 {P : Zt → Option Zv → Prop} (K : Int → Zl → List Zv → Zt → Prop) : sx_ K P [.ifCond .eq 66, .aload 0, .tableswitch 0 11 32 #[], .iload 5, .iaload, .iload 2, .if_icmp .eq 66, .aload 0, .tableswitch 0 11 33 #[], .iload 5, .iaload, .iload 2, .if_icmp .eq 66, .iconst 1, .goto 67] 66 = x_ifCond .eq 66 K (x_aload 0 (x_g1 111 232 (x_iload 5 (x_iaload (x_iload 2 (x_if_icmp .eq 66 K (x_aload 0 (x_g1 111 233 (x_iload 5 (x_iaload (x_iload 2 (x_if_icmp .eq 66 K (x_iconst 1 (x_goto 67 K)))))))))))))) := ((xe_ifCond .eq 66).trans (congrArg (x_ifCond .eq 66 K) ((xe_aload 0).trans (congrArg (x_aload 0) ((xe_g1 (kk := 111) rfl tl_11_32).trans (congrArg (x_g1 111 232) ((xe_iload 5).trans (congrArg (x_iload 5) ((xe_iaload).trans (congrArg (x_iaload) ((xe_iload 2).trans (congrArg (x_iload 2) ((xe_if_icmp .eq 66).trans (congrArg (x_if_icmp .eq 66 K) ((xe_aload 0).trans (congrArg (x_aload 0) ((xe_g1 (kk := 111) rfl tl_11_33).trans (congrArg (x_g1 111 233) ((xe_iload 5).trans (congrArg (x_iload 5) ((xe_iaload).trans (congrArg (x_iaload) ((xe_iload 2).trans (congrArg (x_iload 2) ((xe_if_icmp .eq 66).trans (congrArg (x_if_icmp .eq 66 K) ((xe_iconst 1).trans (congrArg (x_iconst 1) (xe_goto 67)))))))))))))))))))))))))))))
theorem bk_X11_canEven_66 : ck_ fX11 (some .int) cX11_canEven 66 [.iconst 0, .fadd, .istore 4, .iinc 5 1, .goto 11] 76 = true := qck_r (nn_ _) (by decide +kernel)
theorem bs_X11_canEven_66 {P : Zt → Option Zv → Prop} (K : Int → Zl → List Zv → Zt → Prop) : sx_ K P [.iconst 0, .fadd, .istore 4, .iinc 5 1, .goto 11] 76 = x_iconst 0 (x_fadd (x_istore 4 (x_iinc 5 1 (x_goto 11 K)))) := ((xe_iconst 0).trans (congrArg (x_iconst 0) ((xe_fadd).trans (congrArg (x_fadd) ((xe_istore 4).trans (congrArg (x_istore 4) ((xe_iinc 5 1).trans (congrArg (x_iinc 5 1) (xe_goto 11)))))))))
theorem bk_X11_canEven_67 : ck_ fX11 (some .int) cX11_canEven 67 [.fadd, .istore 4, .iinc 5 1, .goto 11] 76 = true := qck_r (nn_ _) (by decide +kernel)
theorem bs_X11_canEven_67 {P : Zt → Option Zv → Prop} (K : Int → Zl → List Zv → Zt → Prop) : sx_ K P [.fadd, .istore 4, .iinc 5 1, .goto 11] 76 = x_fadd (x_istore 4 (x_iinc 5 1 (x_goto 11 K))) := ((xe_fadd).trans (congrArg (x_fadd) ((xe_istore 4).trans (congrArg (x_istore 4) ((xe_iinc 5 1).trans (congrArg (x_iinc 5 1) (xe_goto 11)))))))
theorem bk_X11_canEven_0 : ck_ fX11 (some .int) cX11_canEven 0 [.iconst 0, .istore 4, .aload 0, .tableswitch 0 11 10 #[], .iload 1, .iaload, .istore 5] 11 = true := qck_r (nn_ _) (by decide +kernel)
theorem bs_X11_canEven_0 {P : Zt → Option Zv → Prop} (K : Int → Zl → List Zv → Zt → Prop) : sx_ K P [.iconst 0, .istore 4, .aload 0, .tableswitch 0 11 10 #[], .iload 1, .iaload, .istore 5] 11 = x_iconst 0 (x_istore 4 (x_aload 0 (x_g1 111 210 (x_iload 1 (x_iaload (x_istore 5 (K 11))))))) := ((xe_iconst 0).trans (congrArg (x_iconst 0) ((xe_istore 4).trans (congrArg (x_istore 4) ((xe_aload 0).trans (congrArg (x_aload 0) ((xe_g1 (kk := 111) rfl tl_11_10).trans (congrArg (x_g1 111 210) ((xe_iload 1).trans (congrArg (x_iload 1) ((xe_iaload).trans (congrArg (x_iaload) ((xe_istore 5).trans (congrArg (x_istore 5) xe_nil))))))))))))))
abbrev po_X11_canEven (T : Zt) (c cl o : Int) : Zt → Option Zv → Prop := fun T' r => ∃ x : Int, r = some (vI x) ∧ fr_ [(293, []), (294, []), (296, []), (289, []), (111, [90])] T T' ∧ (0 ≤ x ∧ x ≤ 2)
set_option maxHeartbeats 4000000 in
theorem ct_X11_canEven {T : Zt} {c cl o : Int} (h1 : 0 ≤ c ∧ c < T 111 0 6) (hri : RI_ T) (hrw : RW_ T) (hml : ML_ T) (hO : 0 ≤ o ∧ o ≤ 4095) (hpb : PB6_ T) (hlb : LB_ T 1000) (hbe : -8000000 ≤ T 111 0 95 ∧ T 111 0 95 ≤ 8000000) : Ct_ yX11_canEven zX11_canEven T [vR 111 0, vI c, vI cl, vI o] (po_X11_canEven T c cl o) := by
  refine ct_of pn_11 rfl rfl (Nat.le_of_ble_eq_true rfl) (fun hT hav => ?_)
  have hr_c : -2147483648 ≤ c ∧ c ≤ 2147483647 := hav (vI c) (List.mem_cons_of_mem _ List.mem_cons_self)
  have hr_cl : -2147483648 ≤ cl ∧ cl ≤ 2147483647 := hav (vI cl) (List.mem_cons_of_mem _ (List.mem_cons_of_mem _ List.mem_cons_self))
  have hr_o : -2147483648 ≤ o ∧ o ≤ 2147483647 := hav (vI o) (List.mem_cons_of_mem _ (List.mem_cons_of_mem _ (List.mem_cons_of_mem _ List.mem_cons_self)))
  have hz : zX11_canEven.2.2.2.1 = some .boolean → ∀ (T' : Zt) (x : Int), po_X11_canEven T c cl o T' (some (vI x)) → 0 ≤ x ∧ x ≤ 1 := fun h => by cases h
  have hb_6 : 0 ≤ T 111 0 6 ∧ T 111 0 6 ≤ 4 := bd_f hT 111 6 tl_11_6 0
  have hmc := hml c (by omega) (by omega)
  have hb_29 : 0 ≤ T 111 0 29 ∧ T 111 0 29 ≤ 400 := bd_f hT 111 29 tl_11_29 0
  have hfo : 0 ≤ T 210 0 c ∧ T 210 0 c ≤ 400 := bd_a hT 210 (by decide +kernel : ta_ 210 = some (1, some 4, 0, 400)) 0 (by omega)
  have hmo : 0 ≤ T 211 0 c ∧ T 211 0 c ≤ 400 := bd_a hT 211 (by decide +kernel : ta_ 211 = some (1, some 4, 0, 400)) 0 (by omega)
  have hr1 : (0 : Int) ≤ T 205 0 (23 * c + 1) ∧ T 205 0 (23 * c + 1) ≤ (9 : Int) := hri c 1 (by omega) (by omega) (by omega) (by omega)
  have hr2 : (0 : Int) ≤ T 205 0 (23 * c + 2) ∧ T 205 0 (23 * c + 2) ≤ (9 : Int) := hri c 2 (by omega) (by omega) (by omega) (by omega)
  have hr3 : (0 : Int) ≤ T 205 0 (23 * c + 3) ∧ T 205 0 (23 * c + 3) ≤ (9 : Int) := hri c 3 (by omega) (by omega) (by omega) (by omega)
  have hrw1 := hrw c (by omega) (by omega)
  show J_ zX11_canEven T (po_X11_canEven T c cl o) 0 0 0 [some (vR 111 0), some (vI c), some (vI cl), some (vI o), none, none, none, none, none] [] T
  have c_209 : ∀ (nn : Nat) (m : Int) (T2 : Zt), ((400 - m).toNat) ≤ nn → (fr_ [(293, []), (294, []), (296, []), (289, []), (111, [90])] T T2) → (T 210 0 c ≤ m ∧ m ≤ T 210 0 c + T 211 0 c) → (T 205 0 (23 * c + 1) - T 205 0 (23 * c + 2) ≠ 0 → SVE_ T2 o (plf_ T cl (T 210 0 c + T 211 0 c - m).toNat (m))) → J_ zX11_canEven T (po_X11_canEven T c cl o) 0 0 209 [some (vR 111 0), some (vI c), some (vI cl), some (vI o), none, some (vI (T 205 0 (23 * c + 1) - T 205 0 (23 * c + 2))), some (vI m), none, none] [] T2 := by
    intro nn
    induction nn using Nat.strongRecOn with
    | _ nn ih_209 =>
      intro m T2 hm_209 hf_209 i2 sv2
      replace hm_209 := fun (_ : Unit) => hm_209
      have hmw := hf_209 235 0 m rfl
      refine j_blx (F := fX11) tb_X11 (nn_ _) bk_X11_canEven_209 bs_X11_canEven_209 hz (fun K hK => ?_)
      refine ix_i (by omega) ?_
      intro b1 b1b
      have e2 : T2 210 0 c = T 210 0 c := hf_209 210 0 c rfl
      rw [e2] at b1 b1b ⊢
      refine ix_i (by omega) ?_
      intro b3 b3b
      have e4 : T2 211 0 c = T 211 0 c := hf_209 211 0 c rfl
      rw [e4] at b3 b3b ⊢
      refine rg_i (by omega) ?_
      refine And.intro (fun c5 => ?_) (fun c5 => ?_)
      · refine hK 328 _ [] T2 ?_
        refine j_blx (F := fX11) tb_X11 (nn_ _) bk_X11_canEven_328 bs_X11_canEven_328 hz (fun K hK => ?_)
        refine (show po_X11_canEven T c cl o T2 (some (vI 1)) from ?_)
        exact ⟨_, rfl, fr_t (fr_0 _ _) (fr_s hf_209 rfl), by omega⟩
      · have eR : plf_ T cl (T 210 0 c + T 211 0 c - m).toNat (m) = (if (T 235 0 m = 0 ∨ T 235 0 m = 1) ∧ T 232 0 m ≠ cl ∧ T 233 0 m ≠ cl ∧ T 232 0 m ≠ T 233 0 m then [((T 232 0 m).toNat, (T 233 0 m).toNat)] else []) ++ plf_ T cl (T 210 0 c + T 211 0 c - (m + 1)).toNat ((m + 1)) := by
          rw [show (T 210 0 c + T 211 0 c - m).toNat = (T 210 0 c + T 211 0 c - (m + 1)).toNat + 1 by omega]; rfl
        refine ix_i (by omega) ?_
        intro b6 b6b
        have e7 : T2 232 0 m = T 232 0 m := hf_209 232 0 m rfl
        rw [e7] at b6 b6b ⊢
        refine ix_i (by omega) ?_
        intro b8 b8b
        have e9 : T2 233 0 m = T 233 0 m := hf_209 233 0 m rfl
        rw [e9] at b8 b8b ⊢
        refine hK 248 [some (vR 111 0), some (vI c), some (vI cl), some (vI o), none, some (vI (T 205 0 (23 * c + 1) - T 205 0 (23 * c + 2))), some (vI m), some (vI (T 232 0 m)), some (vI (T 233 0 m))] [vI m, vR 111 0] T2 ?_
        refine j_callV (y := yX11_isLeft) (Yc := zX11_isLeft) (rest := []) [vI m] (ct_X11_isLeft (T := T2) (by omega)) cl_X11_538 (qd_c (by decide +kernel)) (nn_ _) rfl (rf_of rfl) (Nat.le_of_ble_eq_true rfl) (Nat.le_of_ble_eq_true rfl) (Nat.le_of_ble_eq_true rfl) rfl ?_
        rintro _ _ ⟨rfl, x10, rfl, hx10⟩
        show J_ zX11_canEven T (po_X11_canEven T c cl o) 0 0 251 _ [vI x10] T2
        refine j_blx (F := fX11) tb_X11 (nn_ _) bk_X11_canEven_251 bs_X11_canEven_251 hz (fun K hK => ?_)
        refine And.intro (fun c11 => ?_) (fun c11 => ?_)
        · replace hx10 := hx10.resolve_left (fun z => absurd (c11.symm.trans z.1) (by decide))
          clear c11
          refine hK 287 _ [] T2 ?_
          refine j_blx (F := fX11) tb_X11 (nn_ _) bk_X11_canEven_287 bs_X11_canEven_287 hz (fun K hK => ?_)
          refine hK 290 _ [vI m, vR 111 0] T2 ?_
          refine j_callV (y := yX11_isLeft) (Yc := zX11_isLeft) (rest := []) [vI m] (ct_X11_isLeft (T := T2) (by omega)) cl_X11_538 (qd_c (by decide +kernel)) (nn_ _) rfl (rf_of rfl) (Nat.le_of_ble_eq_true rfl) (Nat.le_of_ble_eq_true rfl) (Nat.le_of_ble_eq_true rfl) rfl ?_
          rintro _ _ ⟨rfl, x12, rfl, hx12⟩
          show J_ zX11_canEven T (po_X11_canEven T c cl o) 0 0 293 _ [vI x12] T2
          refine j_blx (F := fX11) tb_X11 (nn_ _) bk_X11_canEven_293 bs_X11_canEven_293 hz (fun K hK => ?_)
          refine And.intro (fun c13 => ?_) (fun c13 => ?_)
          · replace hx12 := hx12.resolve_left (fun z => absurd (c13.symm.trans z.1) (by decide))
            clear c13
            refine hK 322 _ [] T2 ?_
            refine j_blx (F := fX11) tb_X11 (nn_ _) bk_X11_canEven_322 bs_X11_canEven_322 hz (fun K hK => ?_)
            refine rg_i (by omega) ?_
            refine hK 209 [some (vR 111 0), some (vI c), some (vI cl), some (vI o), none, some (vI (T 205 0 (23 * c + 1) - T 205 0 (23 * c + 2))), some (vI (m + 1)), some (vI (T 232 0 m)), some (vI (T 233 0 m))] [] T2 ?_
            refine j_drq [some (vR 111 0), some (vI c), some (vI cl), some (vI o), none, some (vI (T 205 0 (23 * c + 1) - T 205 0 (23 * c + 2))), some (vI (m + 1)), none, none] (drq_s (drq_s (drq_s (drq_s (drq_n (drq_s (drq_s (drq_n (drq_n drq_0))))))))) ?_
            refine ih_209 _ ?_ (m + 1) T2 (Nat.le_refl _) ?_ ?_ ?_
            · have hm_209 := hm_209 (); omega
            · exact fr_t (fr_0 _ _) (fr_s hf_209 rfl)
            · omega
            · intro z
              have h9 := sv2 z
              rw [eR, if_neg (by omega), List.nil_append] at h9
              exact sve_e h9 (fun j => rfl)
          · replace hx12 := hx12.resolve_right (fun z => c13 z.1)
            clear c13
            refine And.intro (fun c14 => ?_) (fun c14 => ?_)
            · refine hK 317 [some (vR 111 0), some (vI c), some (vI cl), some (vI o), none, some (vI (T 205 0 (23 * c + 1) - T 205 0 (23 * c + 2))), some (vI m), some (vI (T 232 0 m)), some (vI (T 233 0 m))] [vI (T 233 0 m), vI (T 232 0 m), vI o, vR 111 0, vI m, vR 289 0] T2 ?_
              refine j_blx (F := fX11) tb_X11 (nn_ _) bk_X11_canEven_317 bs_X11_canEven_317 hz (fun K hK => ?_)
              refine hK 318 _ [vI 0, vI (T 233 0 m), vI (T 232 0 m), vI o, vR 111 0, vI m, vR 289 0] T2 ?_
              refine j_callV (y := yX11_settle) (Yc := zX11_settle) (rest := [vI m, vR 289 0]) [vI o, vI (T 232 0 m), vI (T 233 0 m), vI 0] (ct_X11_settle (T := T2) (l := plf_ T cl (T 210 0 c + T 211 0 c - (m + 1)).toNat ((m + 1))) hO (by omega) (by omega) (by decide) (fun _ => ⟨fun ne => (by have h9 := sv2 (by omega); rw [eR, if_pos ⟨by omega, by omega, by omega, ne⟩] at h9; exact sve_e h9 (fun _ => rfl)), fun eq => (by have h9 := sv2 (by omega); rw [eR, if_neg (fun q => q.2.2.2 eq), List.nil_append] at h9; exact sve_e h9 (fun _ => rfl))⟩)) cl_X11_557 (qd_c (by decide +kernel)) (nn_ _) rfl (rf_of rfl) (Nat.le_of_ble_eq_true rfl) (Nat.le_of_ble_eq_true rfl) (Nat.le_of_ble_eq_true rfl) rfl ?_
              rintro U15 _ ⟨x16, rfl, fU15, qU15⟩
              have b17 := qU15.1
              show J_ zX11_canEven T (po_X11_canEven T c cl o) 0 0 321 _ [vI x16, vI m, vR 289 0] U15
              refine j_blx (F := fX11) tb_X11 (nn_ _) bk_X11_canEven_321 bs_X11_canEven_321 hz (fun K hK => ?_)
              refine iy_i (by omega) (by omega) ?_
              refine x_nm (fun U18 hU18 => ?_)
              have e19 := up_f hU18
              refine rg_i (by omega) ?_
              refine hK 209 [some (vR 111 0), some (vI c), some (vI cl), some (vI o), none, some (vI (T 205 0 (23 * c + 1) - T 205 0 (23 * c + 2))), some (vI (m + 1)), some (vI (T 232 0 m)), some (vI (T 233 0 m))] [] U18 ?_
              refine j_drq [some (vR 111 0), some (vI c), some (vI cl), some (vI o), none, some (vI (T 205 0 (23 * c + 1) - T 205 0 (23 * c + 2))), some (vI (m + 1)), none, none] (drq_s (drq_s (drq_s (drq_s (drq_n (drq_s (drq_s (drq_n (drq_n drq_0))))))))) ?_
              refine ih_209 _ ?_ (m + 1) U18 (Nat.le_refl _) ?_ ?_ ?_
              · have hm_209 := hm_209 (); omega
              · exact fr_u (fr_t (fr_t (fr_0 _ _) (fr_s hf_209 rfl)) (fr_s fU15 rfl)) hU18 rfl
              · omega
              · intro z
                first
                | exact sve_e (qU15.2 rfl) (fun j => up_k hU18 (by exact Nat.ne_of_beq_eq_false rfl) 0 j)
                | omega
            · refine hK 318 [some (vR 111 0), some (vI c), some (vI cl), some (vI o), none, some (vI (T 205 0 (23 * c + 1) - T 205 0 (23 * c + 2))), some (vI m), some (vI (T 232 0 m)), some (vI (T 233 0 m))] [vI 1, vI (T 233 0 m), vI (T 232 0 m), vI o, vR 111 0, vI m, vR 289 0] T2 ?_
              refine j_callV (y := yX11_settle) (Yc := zX11_settle) (rest := [vI m, vR 289 0]) [vI o, vI (T 232 0 m), vI (T 233 0 m), vI 1] (ct_X11_settle (T := T2) (l := plf_ T cl (T 210 0 c + T 211 0 c - (m + 1)).toNat ((m + 1))) hO (by omega) (by omega) (by decide) (fun z => absurd z (by decide))) cl_X11_557 (qd_c (by decide +kernel)) (nn_ _) rfl (rf_of rfl) (Nat.le_of_ble_eq_true rfl) (Nat.le_of_ble_eq_true rfl) (Nat.le_of_ble_eq_true rfl) rfl ?_
              rintro U20 _ ⟨x21, rfl, fU20, qU20⟩
              have b22 := qU20.1
              show J_ zX11_canEven T (po_X11_canEven T c cl o) 0 0 321 _ [vI x21, vI m, vR 289 0] U20
              refine j_blx (F := fX11) tb_X11 (nn_ _) bk_X11_canEven_321 bs_X11_canEven_321 hz (fun K hK => ?_)
              refine iy_i (by omega) (by omega) ?_
              refine x_nm (fun U23 hU23 => ?_)
              have e24 := up_f hU23
              refine rg_i (by omega) ?_
              refine hK 209 [some (vR 111 0), some (vI c), some (vI cl), some (vI o), none, some (vI (T 205 0 (23 * c + 1) - T 205 0 (23 * c + 2))), some (vI (m + 1)), some (vI (T 232 0 m)), some (vI (T 233 0 m))] [] U23 ?_
              refine j_drq [some (vR 111 0), some (vI c), some (vI cl), some (vI o), none, some (vI (T 205 0 (23 * c + 1) - T 205 0 (23 * c + 2))), some (vI (m + 1)), none, none] (drq_s (drq_s (drq_s (drq_s (drq_n (drq_s (drq_s (drq_n (drq_n drq_0))))))))) ?_
              refine ih_209 _ ?_ (m + 1) U23 (Nat.le_refl _) ?_ ?_ ?_
              · have hm_209 := hm_209 (); omega
              · exact fr_u (fr_t (fr_t (fr_0 _ _) (fr_s hf_209 rfl)) (fr_s fU20 rfl)) hU23 rfl
              · omega
              · intro z
                first
                | exact sve_e (qU20.2 rfl) (fun j => up_k hU23 (by exact Nat.ne_of_beq_eq_false rfl) 0 j)
                | omega
        · replace hx10 := hx10.resolve_right (fun z => c11 z.1)
          clear c11
          refine And.intro (fun c25 => ?_) (fun c25 => ?_)
          · refine hK 266 _ [] T2 ?_
            refine j_blx (F := fX11) tb_X11 (nn_ _) bk_X11_canEven_266 bs_X11_canEven_266 hz (fun K hK => ?_)
            refine And.intro (fun c26 => ?_) (fun c26 => ?_)
            · refine hK 282 _ [vI m, vR 289 0] T2 ?_
              refine j_blx (F := fX11) tb_X11 (nn_ _) bk_X11_canEven_282 bs_X11_canEven_282 hz (fun K hK => ?_)
              refine iy_i (by omega) (by omega) ?_
              refine x_nm (fun U27 hU27 => ?_)
              have e28 := up_f hU27
              refine hK 322 _ [] U27 ?_
              refine j_blx (F := fX11) tb_X11 (nn_ _) bk_X11_canEven_322 bs_X11_canEven_322 hz (fun K hK => ?_)
              refine rg_i (by omega) ?_
              refine hK 209 [some (vR 111 0), some (vI c), some (vI cl), some (vI o), none, some (vI (T 205 0 (23 * c + 1) - T 205 0 (23 * c + 2))), some (vI (m + 1)), some (vI (T 232 0 m)), some (vI (T 233 0 m))] [] U27 ?_
              refine j_drq [some (vR 111 0), some (vI c), some (vI cl), some (vI o), none, some (vI (T 205 0 (23 * c + 1) - T 205 0 (23 * c + 2))), some (vI (m + 1)), none, none] (drq_s (drq_s (drq_s (drq_s (drq_n (drq_s (drq_s (drq_n (drq_n drq_0))))))))) ?_
              refine ih_209 _ ?_ (m + 1) U27 (Nat.le_refl _) ?_ ?_ ?_
              · have hm_209 := hm_209 (); omega
              · exact fr_u (fr_t (fr_0 _ _) (fr_s hf_209 rfl)) hU27 rfl
              · omega
              · intro z
                have h9 := sv2 z
                rw [eR, if_neg (by omega), List.nil_append] at h9
                exact sve_e h9 (fun j => up_k hU27 (by exact Nat.ne_of_beq_eq_false rfl) 0 j)
            · refine hK 283 [some (vR 111 0), some (vI c), some (vI cl), some (vI o), none, some (vI (T 205 0 (23 * c + 1) - T 205 0 (23 * c + 2))), some (vI m), some (vI (T 232 0 m)), some (vI (T 233 0 m))] [vI 0, vI m, vR 289 0] T2 ?_
              refine j_blx (F := fX11) tb_X11 (nn_ _) bk_X11_canEven_283 bs_X11_canEven_283 hz (fun K hK => ?_)
              refine iy_i (by omega) (by omega) ?_
              refine x_nm (fun U29 hU29 => ?_)
              have e30 := up_f hU29
              refine hK 322 _ [] U29 ?_
              refine j_blx (F := fX11) tb_X11 (nn_ _) bk_X11_canEven_322 bs_X11_canEven_322 hz (fun K hK => ?_)
              refine rg_i (by omega) ?_
              refine hK 209 [some (vR 111 0), some (vI c), some (vI cl), some (vI o), none, some (vI (T 205 0 (23 * c + 1) - T 205 0 (23 * c + 2))), some (vI (m + 1)), some (vI (T 232 0 m)), some (vI (T 233 0 m))] [] U29 ?_
              refine j_drq [some (vR 111 0), some (vI c), some (vI cl), some (vI o), none, some (vI (T 205 0 (23 * c + 1) - T 205 0 (23 * c + 2))), some (vI (m + 1)), none, none] (drq_s (drq_s (drq_s (drq_s (drq_n (drq_s (drq_s (drq_n (drq_n drq_0))))))))) ?_
              refine ih_209 _ ?_ (m + 1) U29 (Nat.le_refl _) ?_ ?_ ?_
              · have hm_209 := hm_209 (); omega
              · exact fr_u (fr_t (fr_0 _ _) (fr_s hf_209 rfl)) hU29 rfl
              · omega
              · intro z
                have h9 := sv2 z
                rw [eR, if_neg (by omega), List.nil_append] at h9
                exact sve_e h9 (fun j => up_k hU29 (by exact Nat.ne_of_beq_eq_false rfl) 0 j)
          · refine And.intro (fun c31 => ?_) (fun c31 => ?_)
            · refine hK 287 _ [] T2 ?_
              refine j_blx (F := fX11) tb_X11 (nn_ _) bk_X11_canEven_287 bs_X11_canEven_287 hz (fun K hK => ?_)
              refine hK 290 _ [vI m, vR 111 0] T2 ?_
              refine j_callV (y := yX11_isLeft) (Yc := zX11_isLeft) (rest := []) [vI m] (ct_X11_isLeft (T := T2) (by omega)) cl_X11_538 (qd_c (by decide +kernel)) (nn_ _) rfl (rf_of rfl) (Nat.le_of_ble_eq_true rfl) (Nat.le_of_ble_eq_true rfl) (Nat.le_of_ble_eq_true rfl) rfl ?_
              rintro _ _ ⟨rfl, x32, rfl, hx32⟩
              show J_ zX11_canEven T (po_X11_canEven T c cl o) 0 0 293 _ [vI x32] T2
              refine j_blx (F := fX11) tb_X11 (nn_ _) bk_X11_canEven_293 bs_X11_canEven_293 hz (fun K hK => ?_)
              refine And.intro (fun c33 => ?_) (fun c33 => ?_)
              · replace hx32 := hx32.resolve_left (fun z => absurd (c33.symm.trans z.1) (by decide))
                clear c33
                refine hK 322 _ [] T2 ?_
                refine j_blx (F := fX11) tb_X11 (nn_ _) bk_X11_canEven_322 bs_X11_canEven_322 hz (fun K hK => ?_)
                refine rg_i (by omega) ?_
                refine hK 209 [some (vR 111 0), some (vI c), some (vI cl), some (vI o), none, some (vI (T 205 0 (23 * c + 1) - T 205 0 (23 * c + 2))), some (vI (m + 1)), some (vI (T 232 0 m)), some (vI (T 233 0 m))] [] T2 ?_
                refine j_drq [some (vR 111 0), some (vI c), some (vI cl), some (vI o), none, some (vI (T 205 0 (23 * c + 1) - T 205 0 (23 * c + 2))), some (vI (m + 1)), none, none] (drq_s (drq_s (drq_s (drq_s (drq_n (drq_s (drq_s (drq_n (drq_n drq_0))))))))) ?_
                refine ih_209 _ ?_ (m + 1) T2 (Nat.le_refl _) ?_ ?_ ?_
                · have hm_209 := hm_209 (); omega
                · exact fr_t (fr_0 _ _) (fr_s hf_209 rfl)
                · omega
                · intro z
                  have h9 := sv2 z
                  rw [eR, if_neg (by omega), List.nil_append] at h9
                  exact sve_e h9 (fun j => rfl)
              · replace hx32 := hx32.resolve_right (fun z => c33 z.1)
                clear c33
                refine And.intro (fun c34 => ?_) (fun c34 => ?_)
                · refine hK 317 [some (vR 111 0), some (vI c), some (vI cl), some (vI o), none, some (vI (T 205 0 (23 * c + 1) - T 205 0 (23 * c + 2))), some (vI m), some (vI (T 232 0 m)), some (vI (T 233 0 m))] [vI (T 233 0 m), vI (T 232 0 m), vI o, vR 111 0, vI m, vR 289 0] T2 ?_
                  refine j_blx (F := fX11) tb_X11 (nn_ _) bk_X11_canEven_317 bs_X11_canEven_317 hz (fun K hK => ?_)
                  refine hK 318 _ [vI 0, vI (T 233 0 m), vI (T 232 0 m), vI o, vR 111 0, vI m, vR 289 0] T2 ?_
                  refine j_callV (y := yX11_settle) (Yc := zX11_settle) (rest := [vI m, vR 289 0]) [vI o, vI (T 232 0 m), vI (T 233 0 m), vI 0] (ct_X11_settle (T := T2) (l := plf_ T cl (T 210 0 c + T 211 0 c - (m + 1)).toNat ((m + 1))) hO (by omega) (by omega) (by decide) (fun _ => ⟨fun ne => (by have h9 := sv2 (by omega); rw [eR, if_pos ⟨by omega, by omega, by omega, ne⟩] at h9; exact sve_e h9 (fun _ => rfl)), fun eq => (by have h9 := sv2 (by omega); rw [eR, if_neg (fun q => q.2.2.2 eq), List.nil_append] at h9; exact sve_e h9 (fun _ => rfl))⟩)) cl_X11_557 (qd_c (by decide +kernel)) (nn_ _) rfl (rf_of rfl) (Nat.le_of_ble_eq_true rfl) (Nat.le_of_ble_eq_true rfl) (Nat.le_of_ble_eq_true rfl) rfl ?_
                  rintro U35 _ ⟨x36, rfl, fU35, qU35⟩
                  have b37 := qU35.1
                  show J_ zX11_canEven T (po_X11_canEven T c cl o) 0 0 321 _ [vI x36, vI m, vR 289 0] U35
                  refine j_blx (F := fX11) tb_X11 (nn_ _) bk_X11_canEven_321 bs_X11_canEven_321 hz (fun K hK => ?_)
                  refine iy_i (by omega) (by omega) ?_
                  refine x_nm (fun U38 hU38 => ?_)
                  have e39 := up_f hU38
                  refine rg_i (by omega) ?_
                  refine hK 209 [some (vR 111 0), some (vI c), some (vI cl), some (vI o), none, some (vI (T 205 0 (23 * c + 1) - T 205 0 (23 * c + 2))), some (vI (m + 1)), some (vI (T 232 0 m)), some (vI (T 233 0 m))] [] U38 ?_
                  refine j_drq [some (vR 111 0), some (vI c), some (vI cl), some (vI o), none, some (vI (T 205 0 (23 * c + 1) - T 205 0 (23 * c + 2))), some (vI (m + 1)), none, none] (drq_s (drq_s (drq_s (drq_s (drq_n (drq_s (drq_s (drq_n (drq_n drq_0))))))))) ?_
                  refine ih_209 _ ?_ (m + 1) U38 (Nat.le_refl _) ?_ ?_ ?_
                  · have hm_209 := hm_209 (); omega
                  · exact fr_u (fr_t (fr_t (fr_0 _ _) (fr_s hf_209 rfl)) (fr_s fU35 rfl)) hU38 rfl
                  · omega
                  · intro z
                    first
                    | exact sve_e (qU35.2 rfl) (fun j => up_k hU38 (by exact Nat.ne_of_beq_eq_false rfl) 0 j)
                    | omega
                · refine hK 318 [some (vR 111 0), some (vI c), some (vI cl), some (vI o), none, some (vI (T 205 0 (23 * c + 1) - T 205 0 (23 * c + 2))), some (vI m), some (vI (T 232 0 m)), some (vI (T 233 0 m))] [vI 1, vI (T 233 0 m), vI (T 232 0 m), vI o, vR 111 0, vI m, vR 289 0] T2 ?_
                  refine j_callV (y := yX11_settle) (Yc := zX11_settle) (rest := [vI m, vR 289 0]) [vI o, vI (T 232 0 m), vI (T 233 0 m), vI 1] (ct_X11_settle (T := T2) (l := plf_ T cl (T 210 0 c + T 211 0 c - (m + 1)).toNat ((m + 1))) hO (by omega) (by omega) (by decide) (fun z => absurd z (by decide))) cl_X11_557 (qd_c (by decide +kernel)) (nn_ _) rfl (rf_of rfl) (Nat.le_of_ble_eq_true rfl) (Nat.le_of_ble_eq_true rfl) (Nat.le_of_ble_eq_true rfl) rfl ?_
                  rintro U40 _ ⟨x41, rfl, fU40, qU40⟩
                  have b42 := qU40.1
                  show J_ zX11_canEven T (po_X11_canEven T c cl o) 0 0 321 _ [vI x41, vI m, vR 289 0] U40
                  refine j_blx (F := fX11) tb_X11 (nn_ _) bk_X11_canEven_321 bs_X11_canEven_321 hz (fun K hK => ?_)
                  refine iy_i (by omega) (by omega) ?_
                  refine x_nm (fun U43 hU43 => ?_)
                  have e44 := up_f hU43
                  refine rg_i (by omega) ?_
                  refine hK 209 [some (vR 111 0), some (vI c), some (vI cl), some (vI o), none, some (vI (T 205 0 (23 * c + 1) - T 205 0 (23 * c + 2))), some (vI (m + 1)), some (vI (T 232 0 m)), some (vI (T 233 0 m))] [] U43 ?_
                  refine j_drq [some (vR 111 0), some (vI c), some (vI cl), some (vI o), none, some (vI (T 205 0 (23 * c + 1) - T 205 0 (23 * c + 2))), some (vI (m + 1)), none, none] (drq_s (drq_s (drq_s (drq_s (drq_n (drq_s (drq_s (drq_n (drq_n drq_0))))))))) ?_
                  refine ih_209 _ ?_ (m + 1) U43 (Nat.le_refl _) ?_ ?_ ?_
                  · have hm_209 := hm_209 (); omega
                  · exact fr_u (fr_t (fr_t (fr_0 _ _) (fr_s hf_209 rfl)) (fr_s fU40 rfl)) hU43 rfl
                  · omega
                  · intro z
                    first
                    | exact sve_e (qU40.2 rfl) (fun j => up_k hU43 (by exact Nat.ne_of_beq_eq_false rfl) 0 j)
                    | omega
            · refine And.intro (fun c45 => ?_) (fun c45 => ?_)
              · refine hK 282 _ [vI m, vR 289 0] T2 ?_
                refine j_blx (F := fX11) tb_X11 (nn_ _) bk_X11_canEven_282 bs_X11_canEven_282 hz (fun K hK => ?_)
                refine iy_i (by omega) (by omega) ?_
                refine x_nm (fun U46 hU46 => ?_)
                have e47 := up_f hU46
                refine hK 322 _ [] U46 ?_
                refine j_blx (F := fX11) tb_X11 (nn_ _) bk_X11_canEven_322 bs_X11_canEven_322 hz (fun K hK => ?_)
                refine rg_i (by omega) ?_
                refine hK 209 [some (vR 111 0), some (vI c), some (vI cl), some (vI o), none, some (vI (T 205 0 (23 * c + 1) - T 205 0 (23 * c + 2))), some (vI (m + 1)), some (vI (T 232 0 m)), some (vI (T 233 0 m))] [] U46 ?_
                refine j_drq [some (vR 111 0), some (vI c), some (vI cl), some (vI o), none, some (vI (T 205 0 (23 * c + 1) - T 205 0 (23 * c + 2))), some (vI (m + 1)), none, none] (drq_s (drq_s (drq_s (drq_s (drq_n (drq_s (drq_s (drq_n (drq_n drq_0))))))))) ?_
                refine ih_209 _ ?_ (m + 1) U46 (Nat.le_refl _) ?_ ?_ ?_
                · have hm_209 := hm_209 (); omega
                · exact fr_u (fr_t (fr_0 _ _) (fr_s hf_209 rfl)) hU46 rfl
                · omega
                · intro z
                  have h9 := sv2 z
                  rw [eR, if_neg (by omega), List.nil_append] at h9
                  exact sve_e h9 (fun j => up_k hU46 (by exact Nat.ne_of_beq_eq_false rfl) 0 j)
              · refine hK 283 [some (vR 111 0), some (vI c), some (vI cl), some (vI o), none, some (vI (T 205 0 (23 * c + 1) - T 205 0 (23 * c + 2))), some (vI m), some (vI (T 232 0 m)), some (vI (T 233 0 m))] [vI 0, vI m, vR 289 0] T2 ?_
                refine j_blx (F := fX11) tb_X11 (nn_ _) bk_X11_canEven_283 bs_X11_canEven_283 hz (fun K hK => ?_)
                refine iy_i (by omega) (by omega) ?_
                refine x_nm (fun U48 hU48 => ?_)
                have e49 := up_f hU48
                refine hK 322 _ [] U48 ?_
                refine j_blx (F := fX11) tb_X11 (nn_ _) bk_X11_canEven_322 bs_X11_canEven_322 hz (fun K hK => ?_)
                refine rg_i (by omega) ?_
                refine hK 209 [some (vR 111 0), some (vI c), some (vI cl), some (vI o), none, some (vI (T 205 0 (23 * c + 1) - T 205 0 (23 * c + 2))), some (vI (m + 1)), some (vI (T 232 0 m)), some (vI (T 233 0 m))] [] U48 ?_
                refine j_drq [some (vR 111 0), some (vI c), some (vI cl), some (vI o), none, some (vI (T 205 0 (23 * c + 1) - T 205 0 (23 * c + 2))), some (vI (m + 1)), none, none] (drq_s (drq_s (drq_s (drq_s (drq_n (drq_s (drq_s (drq_n (drq_n drq_0))))))))) ?_
                refine ih_209 _ ?_ (m + 1) U48 (Nat.le_refl _) ?_ ?_ ?_
                · have hm_209 := hm_209 (); omega
                · exact fr_u (fr_t (fr_0 _ _) (fr_s hf_209 rfl)) hU48 rfl
                · omega
                · intro z
                  have h9 := sv2 z
                  rw [eR, if_neg (by omega), List.nil_append] at h9
                  exact sve_e h9 (fun j => up_k hU48 (by exact Nat.ne_of_beq_eq_false rfl) 0 j)
  have c_103 : ∀ (nn : Nat) (k : Int) (T1 : Zt), ((12 - k).toNat) ≤ nn → (fr_ [(293, [])] T T1) → (0 ≤ k ∧ k ≤ 12) → (∀ j, 0 ≤ j → j < k → -20000000 ≤ T1 293 0 j ∧ T1 293 0 j ≤ 20000000) → J_ zX11_canEven T (po_X11_canEven T c cl o) 0 0 103 [some (vR 111 0), some (vI c), some (vI cl), some (vI o), none, some (vI (T 205 0 (23 * c + 1) - T 205 0 (23 * c + 2))), some (vI k), none, none] [] T1 := by
    intro nn
    induction nn using Nat.strongRecOn with
    | _ nn ih_103 =>
      intro k T1 hm_103 hf_103 i1 sp1
      replace hm_103 := fun (_ : Unit) => hm_103
      refine j_blx (F := fX11) tb_X11 (nn_ _) bk_X11_canEven_103 bs_X11_canEven_103 hz (fun K hK => ?_)
      refine And.intro (fun c50 => ?_) (fun c50 => ?_)
      · refine hK 177 _ [] T1 ?_
        refine j_blx (F := fX11) tb_X11 (nn_ _) bk_X11_canEven_177 bs_X11_canEven_177 hz (fun K hK => ?_)
        refine hK 180 _ [vI cl, vI c, vR 111 0] T1 ?_
        refine j_callV (y := yX11_layBetween) (Yc := zX11_layBetween) (rest := []) [vI c, vI cl] (ct_X11_layBetween (T := T1) (by omega) (ML__f (ws := [(293, [])]) hml (fr_t (fr_0 _ _) (fr_s hf_103 rfl)) ⟨fun _ => rfl, fun _ => rfl, rfl, trivial⟩)) cl_X11_548 (qd_c (by decide +kernel)) (nn_ _) rfl (rf_of rfl) (Nat.le_of_ble_eq_true rfl) (Nat.le_of_ble_eq_true rfl) (Nat.le_of_ble_eq_true rfl) rfl ?_
        rintro U51 _ ⟨rfl, fU51, qU51⟩
        show J_ zX11_canEven T (po_X11_canEven T c cl o) 0 0 183 _ [] U51
        refine j_blx (F := fX11) tb_X11 (nn_ _) bk_X11_canEven_183 bs_X11_canEven_183 hz (fun K hK => ?_)
        refine hK 186 _ [vI o, vR 111 0, vR 111 0] U51 ?_
        have eL : plf_ T1 cl (T1 211 0 c).toNat (T1 210 0 c) = plf_ T cl (T 211 0 c).toNat (T 210 0 c) := by rw [plf_e (fun j => hf_103 235 0 j rfl) (fun j => hf_103 232 0 j rfl) (fun j => hf_103 233 0 j rfl), hf_103 211 0 c rfl, hf_103 210 0 c rfl]
        have hmh : ∀ j, T 210 0 c ≤ j → j < T 210 0 c + ((T 211 0 c).toNat : Int) → (0 ≤ T 232 0 j ∧ T 232 0 j ≤ 11) ∧ (0 ≤ T 233 0 j ∧ T 233 0 j ≤ 11) := by
          intro j a b
          have hu : 0 ≤ T 232 0 j ∧ T 232 0 j ≤ 11 := bd_a hT 232 (by decide +kernel : ta_ 232 = some (1, some 400, 0, 11)) 0 (by omega)
          have hv : 0 ≤ T 233 0 j ∧ T 233 0 j ≤ 11 := bd_a hT 233 (by decide +kernel : ta_ 233 = some (1, some 400, 0, 11)) 0 (by omega)
          exact ⟨hu, hv⟩
        have hrn := plf_n T cl (T 211 0 c).toNat (T 210 0 c)
        refine j_callV (y := yX11_laySlack) (Yc := zX11_laySlack) (rest := [vR 111 0]) [vI o] (ct_X11_laySlack (T := U51) (l := plf_ T cl (T 211 0 c).toNat (T 210 0 c)) hO (plf_b _ _ hmh) (by omega) (eL ▸ qU51) (fun j a b => by rw [fU51 293 0 j rfl]; exact sp1 j a (by omega))) cl_X11_551 (qd_c (by decide +kernel)) (nn_ _) rfl (rf_of rfl) (Nat.le_of_ble_eq_true rfl) (Nat.le_of_ble_eq_true rfl) (Nat.le_of_ble_eq_true rfl) rfl ?_
        rintro U52 _ ⟨x53, rfl, fU52, qU52⟩
        show J_ zX11_canEven T (po_X11_canEven T c cl o) 0 0 189 _ [vI x53, vR 111 0] U52
        refine j_blx (F := fX11) tb_X11 (nn_ _) bk_X11_canEven_189 bs_X11_canEven_189 hz (fun K hK => ?_)
        refine bd_i (by omega) ?_
        refine x_nm (fun U54 hU54 => ?_)
        have e55 := up_f hU54
        intro b56 b56b
        have e57 : U54 111 0 90 = x53 := up_f hU54
        rw [e57] at b56 b56b ⊢
        refine And.intro (fun c58 => ?_) (fun c58 => ?_)
        · refine hK 201 _ [] U54 ?_
          refine j_blx (F := fX11) tb_X11 (nn_ _) bk_X11_canEven_201 bs_X11_canEven_201 hz (fun K hK => ?_)
          refine ix_i (by omega) ?_
          intro b59 b59b
          have e60 : U54 210 0 c = T 210 0 c := (up_k hU54 (by exact Nat.ne_of_beq_eq_false rfl) 0 c).trans ((fU52 210 0 c rfl).trans ((fU51 210 0 c rfl).trans (hf_103 210 0 c rfl)))
          rw [e60] at b59 b59b ⊢
          refine hK 209 [some (vR 111 0), some (vI c), some (vI cl), some (vI o), none, some (vI (T 205 0 (23 * c + 1) - T 205 0 (23 * c + 2))), some (vI (T 210 0 c)), none, none] [] U54 ?_
          refine c_209 _ (T 210 0 c) U54 (Nat.le_refl _) ?_ ?_ ?_
          · exact fr_u (fr_t (fr_t (fr_t (fr_0 _ _) (fr_s hf_103 rfl)) (fr_s fU51 rfl)) (fr_s fU52 rfl)) hU54 rfl
          · omega
          · intro _
            rw [show T 210 0 c + T 211 0 c - T 210 0 c = T 211 0 c by omega]
            exact sve_e (qU52.2 (by omega)) (fun j => up_k hU54 (by exact Nat.ne_of_beq_eq_false rfl) 0 j)
        · refine (show po_X11_canEven T c cl o U54 (some (vI 0)) from ?_)
          exact ⟨_, rfl, fr_u (fr_t (fr_t (fr_t (fr_0 _ _) (fr_s hf_103 rfl)) (fr_s fU51 rfl)) (fr_s fU52 rfl)) hU54 rfl, by omega⟩
      · intro b61 b61b
        have e62 : T1 111 0 95 = T 111 0 95 := hf_103 111 0 95 rfl
        rw [e62] at b61 b61b ⊢
        refine ix_i (by omega) ?_
        intro b63 b63b
        have e64 : T1 291 0 k = T 291 0 k := hf_103 291 0 k rfl
        rw [e64] at b63 b63b ⊢
        have hpk := hpb k (by omega) (by omega)
        refine rg_i (by omega) ?_
        refine hK 125 _ [vI 3, vI c, vR 111 0, vI ((T 111 0 95) - (T 291 0 k))] T1 ?_
        refine j_callV (y := yX11_rule0) (Yc := zX11_rule0) (rest := [vI ((T 111 0 95) - (T 291 0 k))]) [vI c, vI 3] (ct_X11_rule0 (T := T1) (by omega) (by omega)) cl_X11_321 (qd_c (by decide +kernel)) (nn_ _) rfl (rf_of rfl) (Nat.le_of_ble_eq_true rfl) (Nat.le_of_ble_eq_true rfl) (Nat.le_of_ble_eq_true rfl) rfl ?_
        rintro _ _ ⟨rfl, rfl⟩
        have e65 : T1 205 0 (23 * c + 3) = T 205 0 (23 * c + 3) := hf_103 205 0 (23 * c + 3) rfl
        show J_ zX11_canEven T (po_X11_canEven T c cl o) 0 0 128 _ [vI (T1 205 0 (23 * c + 3)), vI ((T 111 0 95) - (T 291 0 k))] T1
        refine j_blx (F := fX11) tb_X11 (nn_ _) bk_X11_canEven_128 bs_X11_canEven_128 hz (fun K hK => ?_)
        refine ix_i (by omega) ?_
        intro b66 b66b
        have e67 : T1 292 0 k = T 292 0 k := hf_103 292 0 k rfl
        rw [e67] at b66 b66b ⊢
        have hlk := hlb k (by omega) (by omega)
        have hpk := hpb k (by omega) (by omega)
        have hmb := mul_b (x := T1 205 0 (23 * c + 3)) (y := T 292 0 k) (by omega) (by omega)
        refine rg_i (by omega) ?_
        refine rg_i (by omega) ?_
        refine And.intro (fun c68 => ?_) (fun c68 => ?_)
        · refine hK 154 [some (vR 111 0), some (vI c), some (vI cl), some (vI o), none, some (vI (T 205 0 (23 * c + 1) - T 205 0 (23 * c + 2))), some (vI k), some (vI (((T 111 0 95) - (T 291 0 k)) - ((T1 205 0 (23 * c + 3)) * (T 292 0 k)))), none] [vI k, vR 293 0] T1 ?_
          refine j_blx (F := fX11) tb_X11 (nn_ _) bk_X11_canEven_154 bs_X11_canEven_154 hz (fun K hK => ?_)
          refine And.intro (fun c69 => ?_) (fun c69 => ?_)
          · refine hK 165 _ [vI k, vR 293 0] T1 ?_
            refine j_blx (F := fX11) tb_X11 (nn_ _) bk_X11_canEven_165 bs_X11_canEven_165 hz (fun K hK => ?_)
            have hq1 : 0 ≤ (((T 111 0 95) - (T 291 0 k)) - ((T1 205 0 (23 * c + 3)) * (T 292 0 k))) / (T 205 0 (23 * c + 1) - T 205 0 (23 * c + 2)) := Int.ediv_nonneg (by omega) (by omega)
            have hq2 : (((T 111 0 95) - (T 291 0 k)) - ((T1 205 0 (23 * c + 3)) * (T 292 0 k))) / (T 205 0 (23 * c + 1) - T 205 0 (23 * c + 2)) ≤ (((T 111 0 95) - (T 291 0 k)) - ((T1 205 0 (23 * c + 3)) * (T 292 0 k))) := Int.ediv_le_self _ (by omega)
            refine dv_i (by omega) ?_
            refine iy_i (by omega) (by omega) ?_
            refine x_nm (fun U70 hU70 => ?_)
            have e71 := up_f hU70
            refine rg_i (by omega) ?_
            refine hK 103 [some (vR 111 0), some (vI c), some (vI cl), some (vI o), none, some (vI (T 205 0 (23 * c + 1) - T 205 0 (23 * c + 2))), some (vI (k + 1)), some (vI (((T 111 0 95) - (T 291 0 k)) - ((T1 205 0 (23 * c + 3)) * (T 292 0 k)))), none] [] U70 ?_
            refine j_drq [some (vR 111 0), some (vI c), some (vI cl), some (vI o), none, some (vI (T 205 0 (23 * c + 1) - T 205 0 (23 * c + 2))), some (vI (k + 1)), none, none] (drq_s (drq_s (drq_s (drq_s (drq_n (drq_s (drq_s (drq_n (drq_n drq_0))))))))) ?_
            refine ih_103 _ ?_ (k + 1) U70 (Nat.le_refl _) ?_ ?_ ?_
            · have hm_103 := hm_103 (); omega
            · exact fr_u (fr_t (fr_0 _ _) (fr_s hf_103 rfl)) hU70 rfl
            · omega
            · intro j a b
              by_cases z : j = k
              · rw [z, up_f hU70]; omega
              · rw [up_g hU70 (fun q => z q.2.2)]; exact sp1 j a (by omega)
          · refine hK 170 [some (vR 111 0), some (vI c), some (vI cl), some (vI o), none, some (vI (T 205 0 (23 * c + 1) - T 205 0 (23 * c + 2))), some (vI k), some (vI (((T 111 0 95) - (T 291 0 k)) - ((T1 205 0 (23 * c + 3)) * (T 292 0 k)))), none] [vI 1000, vI k, vR 293 0] T1 ?_
            refine j_blx (F := fX11) tb_X11 (nn_ _) bk_X11_canEven_170 bs_X11_canEven_170 hz (fun K hK => ?_)
            refine iy_i (by omega) (by omega) ?_
            refine x_nm (fun U72 hU72 => ?_)
            have e73 := up_f hU72
            refine rg_i (by omega) ?_
            refine hK 103 [some (vR 111 0), some (vI c), some (vI cl), some (vI o), none, some (vI (T 205 0 (23 * c + 1) - T 205 0 (23 * c + 2))), some (vI (k + 1)), some (vI (((T 111 0 95) - (T 291 0 k)) - ((T1 205 0 (23 * c + 3)) * (T 292 0 k)))), none] [] U72 ?_
            refine j_drq [some (vR 111 0), some (vI c), some (vI cl), some (vI o), none, some (vI (T 205 0 (23 * c + 1) - T 205 0 (23 * c + 2))), some (vI (k + 1)), none, none] (drq_s (drq_s (drq_s (drq_s (drq_n (drq_s (drq_s (drq_n (drq_n drq_0))))))))) ?_
            refine ih_103 _ ?_ (k + 1) U72 (Nat.le_refl _) ?_ ?_ ?_
            · have hm_103 := hm_103 (); omega
            · exact fr_u (fr_t (fr_0 _ _) (fr_s hf_103 rfl)) hU72 rfl
            · omega
            · intro j a b
              by_cases z : j = k
              · rw [z, up_f hU72]; omega
              · rw [up_g hU72 (fun q => z q.2.2)]; exact sp1 j a (by omega)
        · refine hK 170 _ [vI (-1), vI k, vR 293 0] T1 ?_
          refine j_blx (F := fX11) tb_X11 (nn_ _) bk_X11_canEven_170 bs_X11_canEven_170 hz (fun K hK => ?_)
          refine iy_i (by omega) (by omega) ?_
          refine x_nm (fun U74 hU74 => ?_)
          have e75 := up_f hU74
          refine rg_i (by omega) ?_
          refine hK 103 [some (vR 111 0), some (vI c), some (vI cl), some (vI o), none, some (vI (T 205 0 (23 * c + 1) - T 205 0 (23 * c + 2))), some (vI (k + 1)), some (vI (((T 111 0 95) - (T 291 0 k)) - ((T1 205 0 (23 * c + 3)) * (T 292 0 k)))), none] [] U74 ?_
          refine j_drq [some (vR 111 0), some (vI c), some (vI cl), some (vI o), none, some (vI (T 205 0 (23 * c + 1) - T 205 0 (23 * c + 2))), some (vI (k + 1)), none, none] (drq_s (drq_s (drq_s (drq_s (drq_n (drq_s (drq_s (drq_n (drq_n drq_0))))))))) ?_
          refine ih_103 _ ?_ (k + 1) U74 (Nat.le_refl _) ?_ ?_ ?_
          · have hm_103 := hm_103 (); omega
          · exact fr_u (fr_t (fr_0 _ _) (fr_s hf_103 rfl)) hU74 rfl
          · omega
          · intro j a b
            by_cases z : j = k
            · rw [z, up_f hU74]; omega
            · rw [up_g hU74 (fun q => z q.2.2)]; exact sp1 j a (by omega)
  have c_11 : ∀ (nn : Nat) (mn : Int) (m : Int), ((400 - m).toNat) ≤ nn → (T 210 0 c ≤ m ∧ m ≤ 400) → J_ zX11_canEven T (po_X11_canEven T c cl o) 0 0 11 [some (vR 111 0), some (vI c), some (vI cl), some (vI o), some (vI mn), some (vI m), none, none, none] [] T := by
    intro nn
    induction nn using Nat.strongRecOn with
    | _ nn ih_11 =>
      intro mn m hm_11 i0
      replace hm_11 := fun (_ : Unit) => hm_11
      refine j_blx (F := fX11) tb_X11 (nn_ _) bk_X11_canEven_11 bs_X11_canEven_11 hz (fun K hK => ?_)
      refine ix_i (by omega) ?_
      intro b76 b76b
      refine ix_i (by omega) ?_
      intro b77 b77b
      refine rg_i (by omega) ?_
      refine And.intro (fun c78 => ?_) (fun c78 => ?_)
      · refine hK 76 _ [] T ?_
        refine j_blx (F := fX11) tb_X11 (nn_ _) bk_X11_canEven_76 bs_X11_canEven_76 hz (fun K hK => ?_)
        refine And.intro (fun c79 => ?_) (fun c79 => ?_)
        · refine hK 85 _ [] T ?_
          refine j_blx (F := fX11) tb_X11 (nn_ _) bk_X11_canEven_85 bs_X11_canEven_85 hz (fun K hK => ?_)
          refine hK 88 _ [vI 1, vI c, vR 111 0] T ?_
          refine j_callV (y := yX11_rule0) (Yc := zX11_rule0) (rest := []) [vI c, vI 1] (ct_X11_rule0 (T := T) (by omega) (by omega)) cl_X11_321 (qd_c (by decide +kernel)) (nn_ _) rfl (rf_of rfl) (Nat.le_of_ble_eq_true rfl) (Nat.le_of_ble_eq_true rfl) (Nat.le_of_ble_eq_true rfl) rfl ?_
          rintro _ _ ⟨rfl, rfl⟩
          show J_ zX11_canEven T (po_X11_canEven T c cl o) 0 0 91 _ [vI (T 205 0 (23 * c + 1))] T
          refine j_blx (F := fX11) tb_X11 (nn_ _) bk_X11_canEven_91 bs_X11_canEven_91 hz (fun K hK => ?_)
          refine hK 94 _ [vI 2, vI c, vR 111 0, vI (T 205 0 (23 * c + 1))] T ?_
          refine j_callV (y := yX11_rule0) (Yc := zX11_rule0) (rest := [vI (T 205 0 (23 * c + 1))]) [vI c, vI 2] (ct_X11_rule0 (T := T) (by omega) (by omega)) cl_X11_321 (qd_c (by decide +kernel)) (nn_ _) rfl (rf_of rfl) (Nat.le_of_ble_eq_true rfl) (Nat.le_of_ble_eq_true rfl) (Nat.le_of_ble_eq_true rfl) rfl ?_
          rintro _ _ ⟨rfl, rfl⟩
          show J_ zX11_canEven T (po_X11_canEven T c cl o) 0 0 97 _ [vI (T 205 0 (23 * c + 2)), vI (T 205 0 (23 * c + 1))] T
          refine j_blx (F := fX11) tb_X11 (nn_ _) bk_X11_canEven_97 bs_X11_canEven_97 hz (fun K hK => ?_)
          refine rg_i (by omega) ?_
          refine hK 103 [some (vR 111 0), some (vI c), some (vI cl), some (vI o), some (vI mn), some (vI ((T 205 0 (23 * c + 1)) - (T 205 0 (23 * c + 2)))), some (vI 0), none, none] [] T ?_
          refine j_drq [some (vR 111 0), some (vI c), some (vI cl), some (vI o), none, some (vI ((T 205 0 (23 * c + 1)) - (T 205 0 (23 * c + 2)))), some (vI 0), none, none] (drq_s (drq_s (drq_s (drq_s (drq_n (drq_s (drq_s (drq_n (drq_n drq_0))))))))) ?_
          refine c_103 _ 0 T (Nat.le_refl _) ?_ ?_ ?_
          · exact fr_0 _ _
          · omega
          · intro j a b; omega
        · refine (show po_X11_canEven T c cl o T (some (vI 2)) from ?_)
          exact ⟨_, rfl, fr_0 _ _, by omega⟩
      · refine hK 34 _ [vI m, vR 111 0, vI mn] T ?_
        refine j_callV (y := yX11_isLeft) (Yc := zX11_isLeft) (rest := [vI mn]) [vI m] (ct_X11_isLeft (T := T) (by omega)) cl_X11_538 (qd_c (by decide +kernel)) (nn_ _) rfl (rf_of rfl) (Nat.le_of_ble_eq_true rfl) (Nat.le_of_ble_eq_true rfl) (Nat.le_of_ble_eq_true rfl) rfl ?_
        rintro _ _ ⟨rfl, x80, rfl, hx80⟩
        show J_ zX11_canEven T (po_X11_canEven T c cl o) 0 0 37 _ [vI x80, vI mn] T
        refine j_blx (F := fX11) tb_X11 (nn_ _) bk_X11_canEven_37 bs_X11_canEven_37 hz (fun K hK => ?_)
        refine And.intro (fun c81 => ?_) (fun c81 => ?_)
        · replace hx80 := hx80.resolve_left (fun z => absurd (c81.symm.trans z.1) (by decide))
          clear c81
          refine hK 66 _ [vI mn] T ?_
          refine j_blx (F := fX11) tb_X11 (nn_ _) bk_X11_canEven_66 bs_X11_canEven_66 hz (fun K hK => ?_)
          intro w82 w82b
          refine rg_i (by omega) ?_
          refine hK 11 [some (vR 111 0), some (vI c), some (vI cl), some (vI o), some (vI (wr_ (mn + 0))), some (vI (m + 1)), none, none, none] [] T ?_
          refine ih_11 _ ?_ (wr_ (mn + 0)) (m + 1) (Nat.le_refl _) ?_
          · have hm_11 := hm_11 (); omega
          · omega
        · replace hx80 := hx80.resolve_right (fun z => c81 z.1)
          clear c81
          refine ix_i (by omega) ?_
          intro b83 b83b
          refine And.intro (fun c84 => ?_) (fun c84 => ?_)
          · refine hK 66 [some (vR 111 0), some (vI c), some (vI cl), some (vI o), some (vI mn), some (vI m), none, none, none] [vI mn] T ?_
            refine j_blx (F := fX11) tb_X11 (nn_ _) bk_X11_canEven_66 bs_X11_canEven_66 hz (fun K hK => ?_)
            intro w85 w85b
            refine rg_i (by omega) ?_
            refine hK 11 [some (vR 111 0), some (vI c), some (vI cl), some (vI o), some (vI (wr_ (mn + 0))), some (vI (m + 1)), none, none, none] [] T ?_
            refine ih_11 _ ?_ (wr_ (mn + 0)) (m + 1) (Nat.le_refl _) ?_
            · have hm_11 := hm_11 (); omega
            · omega
          · refine ix_i (by omega) ?_
            intro b86 b86b
            refine And.intro (fun c87 => ?_) (fun c87 => ?_)
            · refine hK 66 [some (vR 111 0), some (vI c), some (vI cl), some (vI o), some (vI mn), some (vI m), none, none, none] [vI mn] T ?_
              refine j_blx (F := fX11) tb_X11 (nn_ _) bk_X11_canEven_66 bs_X11_canEven_66 hz (fun K hK => ?_)
              intro w88 w88b
              refine rg_i (by omega) ?_
              refine hK 11 [some (vR 111 0), some (vI c), some (vI cl), some (vI o), some (vI (wr_ (mn + 0))), some (vI (m + 1)), none, none, none] [] T ?_
              refine ih_11 _ ?_ (wr_ (mn + 0)) (m + 1) (Nat.le_refl _) ?_
              · have hm_11 := hm_11 (); omega
              · omega
            · refine hK 67 [some (vR 111 0), some (vI c), some (vI cl), some (vI o), some (vI mn), some (vI m), none, none, none] [vI 1, vI mn] T ?_
              refine j_blx (F := fX11) tb_X11 (nn_ _) bk_X11_canEven_67 bs_X11_canEven_67 hz (fun K hK => ?_)
              intro w89 w89b
              refine rg_i (by omega) ?_
              refine hK 11 [some (vR 111 0), some (vI c), some (vI cl), some (vI o), some (vI (wr_ (mn + 1))), some (vI (m + 1)), none, none, none] [] T ?_
              refine ih_11 _ ?_ (wr_ (mn + 1)) (m + 1) (Nat.le_refl _) ?_
              · have hm_11 := hm_11 (); omega
              · omega
  refine j_blx (F := fX11) tb_X11 (nn_ _) bk_X11_canEven_0 bs_X11_canEven_0 hz (fun K hK => ?_)
  refine ix_i (by omega) ?_
  intro b90 b90b
  refine hK 11 [some (vR 111 0), some (vI c), some (vI cl), some (vI o), some (vI 0), some (vI (T 210 0 c)), none, none, none] [] T ?_
  refine c_11 _ 0 (T 210 0 c) (Nat.le_refl _) ?_
  · omega
abbrev cX11_isRowWell : ByteArray := prog_13_method_106_code
def yX11_isRowWell : MethodName := ⟨RX11, "isRowWell", "(III)Z"⟩
def zX11_isRowWell : Zm := (RX11, cX11_isRowWell, 7, (some .boolean), { frames := 1, cells := 0, slots := 0, locals := 22 })
theorem bk_X11_isRowWell_176 : ck_ fX11 (some .boolean) cX11_isRowWell 176 [.iload 6, .aload 0, .tableswitch 0 11 8 #[], .iload 1, .iaload, .if_icmp .ge 225, .iload 5, .ifCond .eq 216, .aload 0, .tableswitch 0 11 93 #[], .aload 0, .tableswitch 0 11 7 #[], .iconst 12, .iload 1, .imul, .iload 6, .iadd, .iaload, .iaload, .ifCond .lt 216, .iconst 1, .goto 217] 216 = true := qck_r (nn_ _) (by decide +kernel)
theorem bs_X11_isRowWell_176 {P : Zt → Option Zv → Prop} (K : Int → Zl → List Zv → Zt → Prop) : sx_ K P [.iload 6, .aload 0, .tableswitch 0 11 8 #[], .iload 1, .iaload, .if_icmp .ge 225, .iload 5, .ifCond .eq 216, .aload 0, .tableswitch 0 11 93 #[], .aload 0, .tableswitch 0 11 7 #[], .iconst 12, .iload 1, .imul, .iload 6, .iadd, .iaload, .iaload, .ifCond .lt 216, .iconst 1, .goto 217] 216 = x_iload 6 (x_aload 0 (x_g1 111 208 (x_iload 1 (x_iaload (x_if_icmp .ge 225 K (x_iload 5 (x_ifCond .eq 216 K (x_aload 0 (x_g1 111 293 (x_aload 0 (x_g1 111 207 (x_iconst 12 (x_iload 1 (x_imul (x_iload 6 (x_iadd (x_iaload (x_iaload (x_ifCond .lt 216 K (x_iconst 1 (x_goto 217 K))))))))))))))))))))) := ((xe_iload 6).trans (congrArg (x_iload 6) ((xe_aload 0).trans (congrArg (x_aload 0) ((xe_g1 (kk := 111) rfl tl_11_8).trans (congrArg (x_g1 111 208) ((xe_iload 1).trans (congrArg (x_iload 1) ((xe_iaload).trans (congrArg (x_iaload) ((xe_if_icmp .ge 225).trans (congrArg (x_if_icmp .ge 225 K) ((xe_iload 5).trans (congrArg (x_iload 5) ((xe_ifCond .eq 216).trans (congrArg (x_ifCond .eq 216 K) ((xe_aload 0).trans (congrArg (x_aload 0) ((xe_g1 (kk := 111) rfl tl_11_93).trans (congrArg (x_g1 111 293) ((xe_aload 0).trans (congrArg (x_aload 0) ((xe_g1 (kk := 111) rfl tl_11_7).trans (congrArg (x_g1 111 207) ((xe_iconst 12).trans (congrArg (x_iconst 12) ((xe_iload 1).trans (congrArg (x_iload 1) ((xe_imul).trans (congrArg (x_imul) ((xe_iload 6).trans (congrArg (x_iload 6) ((xe_iadd).trans (congrArg (x_iadd) ((xe_iaload).trans (congrArg (x_iaload) ((xe_iaload).trans (congrArg (x_iaload) ((xe_ifCond .lt 216).trans (congrArg (x_ifCond .lt 216 K) ((xe_iconst 1).trans (congrArg (x_iconst 1) (xe_goto 217)))))))))))))))))))))))))))))))))))))))))))
theorem bk_X11_isRowWell_225 : ck_ fX11 (some .boolean) cX11_isRowWell 225 [.iload 5, .ireturn] 228 = true := qck_r (nn_ _) (by decide +kernel)
theorem bs_X11_isRowWell_225 {P : Zt → Option Zv → Prop} (K : Int → Zl → List Zv → Zt → Prop) : sx_ K P [.iload 5, .ireturn] 228 = x_iload 5 (x_ireturn P) := ((xe_iload 5).trans (congrArg (x_iload 5) (xe_ireturn)))
theorem bk_X11_isRowWell_216 : ck_ fX11 (some .boolean) cX11_isRowWell 216 [.iconst 0, .istore 5, .iinc 6 1, .goto 176] 225 = true := qck_r (nn_ _) (by decide +kernel)
theorem bs_X11_isRowWell_216 {P : Zt → Option Zv → Prop} (K : Int → Zl → List Zv → Zt → Prop) : sx_ K P [.iconst 0, .istore 5, .iinc 6 1, .goto 176] 225 = x_iconst 0 (x_istore 5 (x_iinc 6 1 (x_goto 176 K))) := ((xe_iconst 0).trans (congrArg (x_iconst 0) ((xe_istore 5).trans (congrArg (x_istore 5) ((xe_iinc 6 1).trans (congrArg (x_iinc 6 1) (xe_goto 176)))))))
theorem bk_X11_isRowWell_217 : ck_ fX11 (some .boolean) cX11_isRowWell 217 [.istore 5, .iinc 6 1, .goto 176] 225 = true := qck_r (nn_ _) (by decide +kernel)
theorem bs_X11_isRowWell_217 {P : Zt → Option Zv → Prop} (K : Int → Zl → List Zv → Zt → Prop) : sx_ K P [.istore 5, .iinc 6 1, .goto 176] 225 = x_istore 5 (x_iinc 6 1 (x_goto 176 K)) := ((xe_istore 5).trans (congrArg (x_istore 5) ((xe_iinc 6 1).trans (congrArg (x_iinc 6 1) (xe_goto 176)))))
theorem bk_X11_isRowWell_43 : ck_ fX11 (some .boolean) cX11_isRowWell 43 [.iload 5, .ifCond .lt 170, .iload 4, .iconst 3, .irem, .istore 6, .iload 4, .iconst 3, .idiv, .istore 4, .aload 0, .tableswitch 0 11 89 #[], .aload 0, .tableswitch 0 11 97 #[], .iload 5, .iaload, .iload 6, .iastore, .aload 0, .tableswitch 0 11 93 #[], .aload 0, .tableswitch 0 11 32 #[], .aload 0, .tableswitch 0 11 97 #[], .iload 5, .iaload, .iaload, .dup2, .iaload, .aload 0, .iload 1, .iload 6, .ifCond .ne 103, .iconst 1, .goto 114] 103 = true := qck_r (nn_ _) (by decide +kernel)
theorem bs_X11_isRowWell_43 {P : Zt → Option Zv → Prop} (K : Int → Zl → List Zv → Zt → Prop) : sx_ K P [.iload 5, .ifCond .lt 170, .iload 4, .iconst 3, .irem, .istore 6, .iload 4, .iconst 3, .idiv, .istore 4, .aload 0, .tableswitch 0 11 89 #[], .aload 0, .tableswitch 0 11 97 #[], .iload 5, .iaload, .iload 6, .iastore, .aload 0, .tableswitch 0 11 93 #[], .aload 0, .tableswitch 0 11 32 #[], .aload 0, .tableswitch 0 11 97 #[], .iload 5, .iaload, .iaload, .dup2, .iaload, .aload 0, .iload 1, .iload 6, .ifCond .ne 103, .iconst 1, .goto 114] 103 = x_iload 5 (x_ifCond .lt 170 K (x_iload 4 (x_iconst 3 (x_irem (x_istore 6 (x_iload 4 (x_iconst 3 (x_idiv (x_istore 4 (x_aload 0 (x_g1 111 289 (x_aload 0 (x_g1 111 297 (x_iload 5 (x_iaload (x_iload 6 (x_iastore (x_aload 0 (x_g1 111 293 (x_aload 0 (x_g1 111 232 (x_aload 0 (x_g1 111 297 (x_iload 5 (x_iaload (x_iaload (x_dup2 (x_iaload (x_aload 0 (x_iload 1 (x_iload 6 (x_ifCond .ne 103 K (x_iconst 1 (x_goto 114 K)))))))))))))))))))))))))))))))))) := ((xe_iload 5).trans (congrArg (x_iload 5) ((xe_ifCond .lt 170).trans (congrArg (x_ifCond .lt 170 K) ((xe_iload 4).trans (congrArg (x_iload 4) ((xe_iconst 3).trans (congrArg (x_iconst 3) ((xe_irem).trans (congrArg (x_irem) ((xe_istore 6).trans (congrArg (x_istore 6) ((xe_iload 4).trans (congrArg (x_iload 4) ((xe_iconst 3).trans (congrArg (x_iconst 3) ((xe_idiv).trans (congrArg (x_idiv) ((xe_istore 4).trans (congrArg (x_istore 4) ((xe_aload 0).trans (congrArg (x_aload 0) ((xe_g1 (kk := 111) rfl tl_11_89).trans (congrArg (x_g1 111 289) ((xe_aload 0).trans (congrArg (x_aload 0) ((xe_g1 (kk := 111) rfl tl_11_97).trans (congrArg (x_g1 111 297) ((xe_iload 5).trans (congrArg (x_iload 5) ((xe_iaload).trans (congrArg (x_iaload) ((xe_iload 6).trans (congrArg (x_iload 6) ((xe_iastore).trans (congrArg (x_iastore) ((xe_aload 0).trans (congrArg (x_aload 0) ((xe_g1 (kk := 111) rfl tl_11_93).trans (congrArg (x_g1 111 293) ((xe_aload 0).trans (congrArg (x_aload 0) ((xe_g1 (kk := 111) rfl tl_11_32).trans (congrArg (x_g1 111 232) ((xe_aload 0).trans (congrArg (x_aload 0) ((xe_g1 (kk := 111) rfl tl_11_97).trans (congrArg (x_g1 111 297) ((xe_iload 5).trans (congrArg (x_iload 5) ((xe_iaload).trans (congrArg (x_iaload) ((xe_iaload).trans (congrArg (x_iaload) ((xe_dup2).trans (congrArg (x_dup2) ((xe_iaload).trans (congrArg (x_iaload) ((xe_aload 0).trans (congrArg (x_aload 0) ((xe_iload 1).trans (congrArg (x_iload 1) ((xe_iload 6).trans (congrArg (x_iload 6) ((xe_ifCond .ne 103).trans (congrArg (x_ifCond .ne 103 K) ((xe_iconst 1).trans (congrArg (x_iconst 1) (xe_goto 114)))))))))))))))))))))))))))))))))))))))))))))))))))))))))))))))))))))
theorem bk_X11_isRowWell_170 : ck_ fX11 (some .boolean) cX11_isRowWell 170 [.iconst 1, .istore 5, .iconst 0, .istore 6] 176 = true := qck_r (nn_ _) (by decide +kernel)
theorem bs_X11_isRowWell_170 {P : Zt → Option Zv → Prop} (K : Int → Zl → List Zv → Zt → Prop) : sx_ K P [.iconst 1, .istore 5, .iconst 0, .istore 6] 176 = x_iconst 1 (x_istore 5 (x_iconst 0 (x_istore 6 (K 176)))) := ((xe_iconst 1).trans (congrArg (x_iconst 1) ((xe_istore 5).trans (congrArg (x_istore 5) ((xe_iconst 0).trans (congrArg (x_iconst 0) ((xe_istore 6).trans (congrArg (x_istore 6) xe_nil))))))))
theorem bk_X11_isRowWell_103 : ck_ fX11 (some .boolean) cX11_isRowWell 103 [.iload 6, .iconst 1, .if_icmp .ne 113, .iconst 2, .goto 114] 113 = true := qck_r (nn_ _) (by decide +kernel)
theorem bs_X11_isRowWell_103 {P : Zt → Option Zv → Prop} (K : Int → Zl → List Zv → Zt → Prop) : sx_ K P [.iload 6, .iconst 1, .if_icmp .ne 113, .iconst 2, .goto 114] 113 = x_iload 6 (x_iconst 1 (x_if_icmp .ne 113 K (x_iconst 2 (x_goto 114 K)))) := ((xe_iload 6).trans (congrArg (x_iload 6) ((xe_iconst 1).trans (congrArg (x_iconst 1) ((xe_if_icmp .ne 113).trans (congrArg (x_if_icmp .ne 113 K) ((xe_iconst 2).trans (congrArg (x_iconst 2) (xe_goto 114)))))))))
theorem bk_X11_isRowWell_113 : ck_ fX11 (some .boolean) cX11_isRowWell 113 [.iconst 3] 114 = true := qck_r (nn_ _) (by decide +kernel)
theorem bs_X11_isRowWell_113 {P : Zt → Option Zv → Prop} (K : Int → Zl → List Zv → Zt → Prop) : sx_ K P [.iconst 3] 114 = x_iconst 3 (K 114) := ((xe_iconst 3).trans (congrArg (x_iconst 3) xe_nil))
theorem bk_X11_isRowWell_117 : ck_ fX11 (some .boolean) cX11_isRowWell 117 [.fsub, .iastore, .aload 0, .tableswitch 0 11 93 #[], .aload 0, .tableswitch 0 11 33 #[], .aload 0, .tableswitch 0 11 97 #[], .iload 5, .iaload, .iaload, .dup2, .iaload, .aload 0, .iload 1, .iload 6, .ifCond .ne 148, .iconst 3, .goto 159] 148 = true := qck_r (nn_ _) (by decide +kernel)
theorem bs_X11_isRowWell_117 {P : Zt → Option Zv → Prop} (K : Int → Zl → List Zv → Zt → Prop) : sx_ K P [.fsub, .iastore, .aload 0, .tableswitch 0 11 93 #[], .aload 0, .tableswitch 0 11 33 #[], .aload 0, .tableswitch 0 11 97 #[], .iload 5, .iaload, .iaload, .dup2, .iaload, .aload 0, .iload 1, .iload 6, .ifCond .ne 148, .iconst 3, .goto 159] 148 = x_fsub (x_iastore (x_aload 0 (x_g1 111 293 (x_aload 0 (x_g1 111 233 (x_aload 0 (x_g1 111 297 (x_iload 5 (x_iaload (x_iaload (x_dup2 (x_iaload (x_aload 0 (x_iload 1 (x_iload 6 (x_ifCond .ne 148 K (x_iconst 3 (x_goto 159 K)))))))))))))))))) := ((xe_fsub).trans (congrArg (x_fsub) ((xe_iastore).trans (congrArg (x_iastore) ((xe_aload 0).trans (congrArg (x_aload 0) ((xe_g1 (kk := 111) rfl tl_11_93).trans (congrArg (x_g1 111 293) ((xe_aload 0).trans (congrArg (x_aload 0) ((xe_g1 (kk := 111) rfl tl_11_33).trans (congrArg (x_g1 111 233) ((xe_aload 0).trans (congrArg (x_aload 0) ((xe_g1 (kk := 111) rfl tl_11_97).trans (congrArg (x_g1 111 297) ((xe_iload 5).trans (congrArg (x_iload 5) ((xe_iaload).trans (congrArg (x_iaload) ((xe_iaload).trans (congrArg (x_iaload) ((xe_dup2).trans (congrArg (x_dup2) ((xe_iaload).trans (congrArg (x_iaload) ((xe_aload 0).trans (congrArg (x_aload 0) ((xe_iload 1).trans (congrArg (x_iload 1) ((xe_iload 6).trans (congrArg (x_iload 6) ((xe_ifCond .ne 148).trans (congrArg (x_ifCond .ne 148 K) ((xe_iconst 3).trans (congrArg (x_iconst 3) (xe_goto 159)))))))))))))))))))))))))))))))))))))
theorem bk_X11_isRowWell_148 : ck_ fX11 (some .boolean) cX11_isRowWell 148 [.iload 6, .iconst 1, .if_icmp .ne 158, .iconst 2, .goto 159] 158 = true := qck_r (nn_ _) (by decide +kernel)
theorem bs_X11_isRowWell_148 {P : Zt → Option Zv → Prop} (K : Int → Zl → List Zv → Zt → Prop) : sx_ K P [.iload 6, .iconst 1, .if_icmp .ne 158, .iconst 2, .goto 159] 158 = x_iload 6 (x_iconst 1 (x_if_icmp .ne 158 K (x_iconst 2 (x_goto 159 K)))) := ((xe_iload 6).trans (congrArg (x_iload 6) ((xe_iconst 1).trans (congrArg (x_iconst 1) ((xe_if_icmp .ne 158).trans (congrArg (x_if_icmp .ne 158 K) ((xe_iconst 2).trans (congrArg (x_iconst 2) (xe_goto 159)))))))))
theorem bk_X11_isRowWell_158 : ck_ fX11 (some .boolean) cX11_isRowWell 158 [.iconst 1] 159 = true := qck_r (nn_ _) (by decide +kernel)
theorem bs_X11_isRowWell_158 {P : Zt → Option Zv → Prop} (K : Int → Zl → List Zv → Zt → Prop) : sx_ K P [.iconst 1] 159 = x_iconst 1 (K 159) := ((xe_iconst 1).trans (congrArg (x_iconst 1) xe_nil))
theorem bk_X11_isRowWell_162 : ck_ fX11 (some .boolean) cX11_isRowWell 162 [.fsub, .iastore, .iinc 5 (-1), .goto 43] 170 = true := qck_r (nn_ _) (by decide +kernel)
theorem bs_X11_isRowWell_162 {P : Zt → Option Zv → Prop} (K : Int → Zl → List Zv → Zt → Prop) : sx_ K P [.fsub, .iastore, .iinc 5 (-1), .goto 43] 170 = x_fsub (x_iastore (x_iinc 5 (-1) (x_goto 43 K))) := ((xe_fsub).trans (congrArg (x_fsub) ((xe_iastore).trans (congrArg (x_iastore) ((xe_iinc 5 (-1)).trans (congrArg (x_iinc 5 (-1)) (xe_goto 43)))))))
theorem bk_X11_isRowWell_3 : ck_ fX11 (some .boolean) cX11_isRowWell 3 [.iload 4, .iconst 12, .if_icmp .ge 35, .aload 0, .tableswitch 0 11 93 #[], .iload 4, .aload 0, .tableswitch 0 11 95 #[], .aload 0, .tableswitch 0 11 91 #[], .iload 4, .iaload, .fsub, .iastore, .iinc 4 1, .goto 3] 35 = true := qck_r (nn_ _) (by decide +kernel)
theorem bs_X11_isRowWell_3 {P : Zt → Option Zv → Prop} (K : Int → Zl → List Zv → Zt → Prop) : sx_ K P [.iload 4, .iconst 12, .if_icmp .ge 35, .aload 0, .tableswitch 0 11 93 #[], .iload 4, .aload 0, .tableswitch 0 11 95 #[], .aload 0, .tableswitch 0 11 91 #[], .iload 4, .iaload, .fsub, .iastore, .iinc 4 1, .goto 3] 35 = x_iload 4 (x_iconst 12 (x_if_icmp .ge 35 K (x_aload 0 (x_g1 111 293 (x_iload 4 (x_aload 0 (x_g0 111 95 (-2147483648) 2147483647 (x_aload 0 (x_g1 111 291 (x_iload 4 (x_iaload (x_fsub (x_iastore (x_iinc 4 1 (x_goto 3 K))))))))))))))) := ((xe_iload 4).trans (congrArg (x_iload 4) ((xe_iconst 12).trans (congrArg (x_iconst 12) ((xe_if_icmp .ge 35).trans (congrArg (x_if_icmp .ge 35 K) ((xe_aload 0).trans (congrArg (x_aload 0) ((xe_g1 (kk := 111) rfl tl_11_93).trans (congrArg (x_g1 111 293) ((xe_iload 4).trans (congrArg (x_iload 4) ((xe_aload 0).trans (congrArg (x_aload 0) ((xe_g0 (kk := 111) rfl tl_11_95).trans (congrArg (x_g0 111 95 (-2147483648) 2147483647) ((xe_aload 0).trans (congrArg (x_aload 0) ((xe_g1 (kk := 111) rfl tl_11_91).trans (congrArg (x_g1 111 291) ((xe_iload 4).trans (congrArg (x_iload 4) ((xe_iaload).trans (congrArg (x_iaload) ((xe_fsub).trans (congrArg (x_fsub) ((xe_iastore).trans (congrArg (x_iastore) ((xe_iinc 4 1).trans (congrArg (x_iinc 4 1) (xe_goto 3)))))))))))))))))))))))))))))))
theorem bk_X11_isRowWell_35 : ck_ fX11 (some .boolean) cX11_isRowWell 35 [.iload 3, .istore 4, .iload 2, .iconst 1, .isub, .istore 5] 43 = true := qck_r (nn_ _) (by decide +kernel)
theorem bs_X11_isRowWell_35 {P : Zt → Option Zv → Prop} (K : Int → Zl → List Zv → Zt → Prop) : sx_ K P [.iload 3, .istore 4, .iload 2, .iconst 1, .isub, .istore 5] 43 = x_iload 3 (x_istore 4 (x_iload 2 (x_iconst 1 (x_isub (x_istore 5 (K 43)))))) := ((xe_iload 3).trans (congrArg (x_iload 3) ((xe_istore 4).trans (congrArg (x_istore 4) ((xe_iload 2).trans (congrArg (x_iload 2) ((xe_iconst 1).trans (congrArg (x_iconst 1) ((xe_isub).trans (congrArg (x_isub) ((xe_istore 5).trans (congrArg (x_istore 5) xe_nil))))))))))))
theorem bk_X11_isRowWell_0 : ck_ fX11 (some .boolean) cX11_isRowWell 0 [.iconst 0, .istore 4] 3 = true := qck_r (nn_ _) (by decide +kernel)
theorem bs_X11_isRowWell_0 {P : Zt → Option Zv → Prop} (K : Int → Zl → List Zv → Zt → Prop) : sx_ K P [.iconst 0, .istore 4] 3 = x_iconst 0 (x_istore 4 (K 3)) := ((xe_iconst 0).trans (congrArg (x_iconst 0) ((xe_istore 4).trans (congrArg (x_istore 4) xe_nil))))
abbrev po_X11_isRowWell (T : Zt) (c n r : Int) : Zt → Option Zv → Prop := fun T' r => ∃ x : Int, r = some (vI x) ∧ fr_ [(293, []), (289, [])] T T' ∧ (0 ≤ x ∧ x ≤ 1)
set_option maxHeartbeats 4000000 in
theorem ct_X11_isRowWell {T : Zt} {c n r : Int} (h1 : 0 ≤ c ∧ c < 4) (h2 : 0 ≤ n ∧ n ≤ 400) (h3 : 0 ≤ r) : Ct_ yX11_isRowWell zX11_isRowWell T [vR 111 0, vI c, vI n, vI r] (po_X11_isRowWell T c n r) := by
  refine ct_of pn_11 rfl rfl (Nat.le_of_ble_eq_true rfl) (fun hT hav => ?_)
  have hr_c : -2147483648 ≤ c ∧ c ≤ 2147483647 := hav (vI c) (List.mem_cons_of_mem _ List.mem_cons_self)
  have hr_n : -2147483648 ≤ n ∧ n ≤ 2147483647 := hav (vI n) (List.mem_cons_of_mem _ (List.mem_cons_of_mem _ List.mem_cons_self))
  have hr_r : -2147483648 ≤ r ∧ r ≤ 2147483647 := hav (vI r) (List.mem_cons_of_mem _ (List.mem_cons_of_mem _ (List.mem_cons_of_mem _ List.mem_cons_self)))
  have hz : zX11_isRowWell.2.2.2.1 = some .boolean → ∀ (T' : Zt) (x : Int), po_X11_isRowWell T c n r T' (some (vI x)) → 0 ≤ x ∧ x ≤ 1 := fun _ T' x h => by obtain ⟨y, e, -, hy⟩ := h; cases e; omega
  show J_ zX11_isRowWell T (po_X11_isRowWell T c n r) 0 0 0 [some (vR 111 0), some (vI c), some (vI n), some (vI r), none, none, none] [] T
  have c_176 : ∀ (nn : Nat) (w : Int) (i : Int) (T3 : Zt), ((12 - i).toNat) ≤ nn → (fr_ [(293, []), (289, [])] T T3) → (0 ≤ w ∧ w ≤ 1 ∧ 0 ≤ i) → J_ zX11_isRowWell T (po_X11_isRowWell T c n r) 0 0 176 [some (vR 111 0), some (vI c), some (vI n), some (vI r), none, some (vI w), some (vI i)] [] T3 := by
    intro nn
    induction nn using Nat.strongRecOn with
    | _ nn ih_176 =>
      intro w i T3 hm_176 hf_176 i3
      replace hm_176 := fun (_ : Unit) => hm_176
      refine j_blx (F := fX11) tb_X11 (nn_ _) bk_X11_isRowWell_176 bs_X11_isRowWell_176 hz (fun K hK => ?_)
      refine ix_i (by omega) ?_
      intro b1 b1b
      have e2 : T3 208 0 c = T 208 0 c := hf_176 208 0 c rfl
      rw [e2] at b1 b1b ⊢
      refine And.intro (fun c3 => ?_) (fun c3 => ?_)
      · refine hK 225 _ [] T3 ?_
        refine j_blx (F := fX11) tb_X11 (nn_ _) bk_X11_isRowWell_225 bs_X11_isRowWell_225 hz (fun K hK => ?_)
        refine (show po_X11_isRowWell T c n r T3 (some (vI w)) from ?_)
        exact ⟨_, rfl, fr_t (fr_0 _ _) (fr_s hf_176 rfl), by omega⟩
      · refine And.intro (fun c4 => ?_) (fun c4 => ?_)
        · refine hK 216 _ [] T3 ?_
          refine j_blx (F := fX11) tb_X11 (nn_ _) bk_X11_isRowWell_216 bs_X11_isRowWell_216 hz (fun K hK => ?_)
          refine rg_i (by omega) ?_
          refine hK 176 [some (vR 111 0), some (vI c), some (vI n), some (vI r), none, some (vI 0), some (vI (i + 1))] [] T3 ?_
          refine ih_176 _ ?_ 0 (i + 1) T3 (Nat.le_refl _) ?_ ?_
          · have hm_176 := hm_176 (); omega
          · exact fr_t (fr_0 _ _) (fr_s hf_176 rfl)
          · omega
        · refine rg_i (by omega) ?_
          refine rg_i (by omega) ?_
          refine ix_i (by omega) ?_
          intro b5 b5b
          have e6 : T3 207 0 ((12 * c) + i) = T 207 0 ((12 * c) + i) := hf_176 207 0 ((12 * c) + i) rfl
          rw [e6] at b5 b5b ⊢
          refine ix_i (by omega) ?_
          intro b7 b7b
          refine And.intro (fun c8 => ?_) (fun c8 => ?_)
          · refine hK 216 [some (vR 111 0), some (vI c), some (vI n), some (vI r), none, some (vI w), some (vI i)] [] T3 ?_
            refine j_blx (F := fX11) tb_X11 (nn_ _) bk_X11_isRowWell_216 bs_X11_isRowWell_216 hz (fun K hK => ?_)
            refine rg_i (by omega) ?_
            refine hK 176 [some (vR 111 0), some (vI c), some (vI n), some (vI r), none, some (vI 0), some (vI (i + 1))] [] T3 ?_
            refine ih_176 _ ?_ 0 (i + 1) T3 (Nat.le_refl _) ?_ ?_
            · have hm_176 := hm_176 (); omega
            · exact fr_t (fr_0 _ _) (fr_s hf_176 rfl)
            · omega
          · refine hK 217 [some (vR 111 0), some (vI c), some (vI n), some (vI r), none, some (vI w), some (vI i)] [vI 1] T3 ?_
            refine j_blx (F := fX11) tb_X11 (nn_ _) bk_X11_isRowWell_217 bs_X11_isRowWell_217 hz (fun K hK => ?_)
            refine rg_i (by omega) ?_
            refine hK 176 [some (vR 111 0), some (vI c), some (vI n), some (vI r), none, some (vI 1), some (vI (i + 1))] [] T3 ?_
            refine ih_176 _ ?_ 1 (i + 1) T3 (Nat.le_refl _) ?_ ?_
            · have hm_176 := hm_176 (); omega
            · exact fr_t (fr_0 _ _) (fr_s hf_176 rfl)
            · omega
  have c_43 : ∀ (nn : Nat) (re : Int) (k : Int) (T2 : Zt), ((k + 1).toNat) ≤ nn → (fr_ [(293, []), (289, [])] T T2) → (0 ≤ re ∧ -1 ≤ k ∧ k < 400) → J_ zX11_isRowWell T (po_X11_isRowWell T c n r) 0 0 43 [some (vR 111 0), some (vI c), some (vI n), some (vI r), some (vI re), some (vI k), none] [] T2 := by
    intro nn
    induction nn using Nat.strongRecOn with
    | _ nn ih_43 =>
      intro re k T2 hm_43 hf_43 i2
      replace hm_43 := fun (_ : Unit) => hm_43
      refine j_blx (F := fX11) tb_X11 (nn_ _) bk_X11_isRowWell_43 bs_X11_isRowWell_43 hz (fun K hK => ?_)
      refine And.intro (fun c9 => ?_) (fun c9 => ?_)
      · refine hK 170 _ [] T2 ?_
        refine j_blx (F := fX11) tb_X11 (nn_ _) bk_X11_isRowWell_170 bs_X11_isRowWell_170 hz (fun K hK => ?_)
        refine hK 176 [some (vR 111 0), some (vI c), some (vI n), some (vI r), some (vI re), some (vI 1), some (vI 0)] [] T2 ?_
        refine j_drq [some (vR 111 0), some (vI c), some (vI n), some (vI r), none, some (vI 1), some (vI 0)] (drq_s (drq_s (drq_s (drq_s (drq_n (drq_s (drq_s drq_0))))))) ?_
        refine c_176 _ 1 0 T2 (Nat.le_refl _) ?_ ?_
        · exact fr_t (fr_0 _ _) (fr_s hf_43 rfl)
        · omega
      · refine dv_i (by omega) ?_
        refine dv_i (by omega) ?_
        refine ix_i (by omega) ?_
        intro b10 b10b
        have e11 : T2 297 0 k = T 297 0 k := hf_43 297 0 k rfl
        rw [e11] at b10 b10b ⊢
        refine iy_i (by omega) (by omega) ?_
        refine x_nm (fun U12 hU12 => ?_)
        have e13 := up_f hU12
        refine ix_i (by omega) ?_
        intro b14 b14b
        have e15 : U12 297 0 k = T 297 0 k := (up_k hU12 (by exact Nat.ne_of_beq_eq_false rfl) 0 k).trans (hf_43 297 0 k rfl)
        rw [e15] at b14 b14b ⊢
        refine ix_i (by omega) ?_
        intro b16 b16b
        have e17 : U12 232 0 (T 297 0 k) = T 232 0 (T 297 0 k) := (up_k hU12 (by exact Nat.ne_of_beq_eq_false rfl) 0 (T 297 0 k)).trans (hf_43 232 0 (T 297 0 k) rfl)
        rw [e17] at b16 b16b ⊢
        refine ix_i (by omega) ?_
        intro b18 b18b
        have e19 : U12 293 0 (T 232 0 (T 297 0 k)) = T2 293 0 (T 232 0 (T 297 0 k)) := up_k hU12 (by exact Nat.ne_of_beq_eq_false rfl) 0 (T 232 0 (T 297 0 k))
        rw [e19] at b18 b18b ⊢
        refine And.intro (fun c20 => ?_) (fun c20 => ?_)
        · refine hK 103 [some (vR 111 0), some (vI c), some (vI n), some (vI r), some (vI (re / 3)), some (vI k), some (vI (re % 3))] [vI c, vR 111 0, vI (T2 293 0 (T 232 0 (T 297 0 k))), vI (T 232 0 (T 297 0 k)), vR 293 0] U12 ?_
          refine j_blx (F := fX11) tb_X11 (nn_ _) bk_X11_isRowWell_103 bs_X11_isRowWell_103 hz (fun K hK => ?_)
          refine And.intro (fun c21 => ?_) (fun c21 => ?_)
          · refine hK 113 _ [vI c, vR 111 0, vI (T2 293 0 (T 232 0 (T 297 0 k))), vI (T 232 0 (T 297 0 k)), vR 293 0] U12 ?_
            refine j_blx (F := fX11) tb_X11 (nn_ _) bk_X11_isRowWell_113 bs_X11_isRowWell_113 hz (fun K hK => ?_)
            refine hK 114 _ [vI 3, vI c, vR 111 0, vI (T2 293 0 (T 232 0 (T 297 0 k))), vI (T 232 0 (T 297 0 k)), vR 293 0] U12 ?_
            refine j_callV (y := yX11_rule0) (Yc := zX11_rule0) (rest := [vI (T2 293 0 (T 232 0 (T 297 0 k))), vI (T 232 0 (T 297 0 k)), vR 293 0]) [vI c, vI 3] (ct_X11_rule0 (T := U12) (by omega) (by omega)) cl_X11_321 (qd_c (by decide +kernel)) (nn_ _) rfl (rf_of rfl) (Nat.le_of_ble_eq_true rfl) (Nat.le_of_ble_eq_true rfl) (Nat.le_of_ble_eq_true rfl) rfl ?_
            rintro _ _ ⟨rfl, rfl⟩
            have e22 : U12 205 0 (23 * c + 3) = T 205 0 (23 * c + 3) := (up_k hU12 (by exact Nat.ne_of_beq_eq_false rfl) 0 (23 * c + 3)).trans (hf_43 205 0 (23 * c + 3) rfl)
            show J_ zX11_isRowWell T (po_X11_isRowWell T c n r) 0 0 117 _ [vI (U12 205 0 (23 * c + 3)), vI (T2 293 0 (T 232 0 (T 297 0 k))), vI (T 232 0 (T 297 0 k)), vR 293 0] U12
            refine j_blx (F := fX11) tb_X11 (nn_ _) bk_X11_isRowWell_117 bs_X11_isRowWell_117 hz (fun K hK => ?_)
            intro w23 w23b
            refine iy_i (by omega) (by omega) ?_
            refine x_nm (fun U24 hU24 => ?_)
            have e25 := up_f hU24
            refine ix_i (by omega) ?_
            intro b26 b26b
            have e27 : U24 297 0 k = T 297 0 k := (up_k hU24 (by exact Nat.ne_of_beq_eq_false rfl) 0 k).trans ((up_k hU12 (by exact Nat.ne_of_beq_eq_false rfl) 0 k).trans (hf_43 297 0 k rfl))
            rw [e27] at b26 b26b ⊢
            refine ix_i (by omega) ?_
            intro b28 b28b
            have e29 : U24 233 0 (T 297 0 k) = T 233 0 (T 297 0 k) := (up_k hU24 (by exact Nat.ne_of_beq_eq_false rfl) 0 (T 297 0 k)).trans ((up_k hU12 (by exact Nat.ne_of_beq_eq_false rfl) 0 (T 297 0 k)).trans (hf_43 233 0 (T 297 0 k) rfl))
            rw [e29] at b28 b28b ⊢
            refine ix_i (by omega) ?_
            intro b30 b30b
            refine And.intro (fun c31 => ?_) (fun c31 => ?_)
            · refine hK 148 _ [vI c, vR 111 0, vI (U24 293 0 (T 233 0 (T 297 0 k))), vI (T 233 0 (T 297 0 k)), vR 293 0] U24 ?_
              refine j_blx (F := fX11) tb_X11 (nn_ _) bk_X11_isRowWell_148 bs_X11_isRowWell_148 hz (fun K hK => ?_)
              refine And.intro (fun c32 => ?_) (fun c32 => ?_)
              · refine hK 158 _ [vI c, vR 111 0, vI (U24 293 0 (T 233 0 (T 297 0 k))), vI (T 233 0 (T 297 0 k)), vR 293 0] U24 ?_
                refine j_blx (F := fX11) tb_X11 (nn_ _) bk_X11_isRowWell_158 bs_X11_isRowWell_158 hz (fun K hK => ?_)
                refine hK 159 _ [vI 1, vI c, vR 111 0, vI (U24 293 0 (T 233 0 (T 297 0 k))), vI (T 233 0 (T 297 0 k)), vR 293 0] U24 ?_
                refine j_callV (y := yX11_rule0) (Yc := zX11_rule0) (rest := [vI (U24 293 0 (T 233 0 (T 297 0 k))), vI (T 233 0 (T 297 0 k)), vR 293 0]) [vI c, vI 1] (ct_X11_rule0 (T := U24) (by omega) (by omega)) cl_X11_321 (qd_c (by decide +kernel)) (nn_ _) rfl (rf_of rfl) (Nat.le_of_ble_eq_true rfl) (Nat.le_of_ble_eq_true rfl) (Nat.le_of_ble_eq_true rfl) rfl ?_
                rintro _ _ ⟨rfl, rfl⟩
                have e33 : U24 205 0 (23 * c + 1) = T 205 0 (23 * c + 1) := (up_k hU24 (by exact Nat.ne_of_beq_eq_false rfl) 0 (23 * c + 1)).trans ((up_k hU12 (by exact Nat.ne_of_beq_eq_false rfl) 0 (23 * c + 1)).trans (hf_43 205 0 (23 * c + 1) rfl))
                show J_ zX11_isRowWell T (po_X11_isRowWell T c n r) 0 0 162 _ [vI (U24 205 0 (23 * c + 1)), vI (U24 293 0 (T 233 0 (T 297 0 k))), vI (T 233 0 (T 297 0 k)), vR 293 0] U24
                refine j_blx (F := fX11) tb_X11 (nn_ _) bk_X11_isRowWell_162 bs_X11_isRowWell_162 hz (fun K hK => ?_)
                intro w34 w34b
                refine iy_i (by omega) (by omega) ?_
                refine x_nm (fun U35 hU35 => ?_)
                have e36 := up_f hU35
                refine rg_i (by omega) ?_
                refine hK 43 [some (vR 111 0), some (vI c), some (vI n), some (vI r), some (vI (re / 3)), some (vI (k + (-1))), some (vI (re % 3))] [] U35 ?_
                refine j_drq [some (vR 111 0), some (vI c), some (vI n), some (vI r), some (vI (re / 3)), some (vI (k + (-1))), none] (drq_s (drq_s (drq_s (drq_s (drq_s (drq_s (drq_n drq_0))))))) ?_
                refine ih_43 _ ?_ (re / 3) (k + (-1)) U35 (Nat.le_refl _) ?_ ?_
                · have hm_43 := hm_43 (); omega
                · exact fr_u (fr_u (fr_u (fr_t (fr_0 _ _) (fr_s hf_43 rfl)) hU12 rfl) hU24 rfl) hU35 rfl
                · omega
              · refine hK 159 [some (vR 111 0), some (vI c), some (vI n), some (vI r), some (vI (re / 3)), some (vI k), some (vI (re % 3))] [vI 2, vI c, vR 111 0, vI (U24 293 0 (T 233 0 (T 297 0 k))), vI (T 233 0 (T 297 0 k)), vR 293 0] U24 ?_
                refine j_callV (y := yX11_rule0) (Yc := zX11_rule0) (rest := [vI (U24 293 0 (T 233 0 (T 297 0 k))), vI (T 233 0 (T 297 0 k)), vR 293 0]) [vI c, vI 2] (ct_X11_rule0 (T := U24) (by omega) (by omega)) cl_X11_321 (qd_c (by decide +kernel)) (nn_ _) rfl (rf_of rfl) (Nat.le_of_ble_eq_true rfl) (Nat.le_of_ble_eq_true rfl) (Nat.le_of_ble_eq_true rfl) rfl ?_
                rintro _ _ ⟨rfl, rfl⟩
                have e37 : U24 205 0 (23 * c + 2) = T 205 0 (23 * c + 2) := (up_k hU24 (by exact Nat.ne_of_beq_eq_false rfl) 0 (23 * c + 2)).trans ((up_k hU12 (by exact Nat.ne_of_beq_eq_false rfl) 0 (23 * c + 2)).trans (hf_43 205 0 (23 * c + 2) rfl))
                show J_ zX11_isRowWell T (po_X11_isRowWell T c n r) 0 0 162 _ [vI (U24 205 0 (23 * c + 2)), vI (U24 293 0 (T 233 0 (T 297 0 k))), vI (T 233 0 (T 297 0 k)), vR 293 0] U24
                refine j_blx (F := fX11) tb_X11 (nn_ _) bk_X11_isRowWell_162 bs_X11_isRowWell_162 hz (fun K hK => ?_)
                intro w38 w38b
                refine iy_i (by omega) (by omega) ?_
                refine x_nm (fun U39 hU39 => ?_)
                have e40 := up_f hU39
                refine rg_i (by omega) ?_
                refine hK 43 [some (vR 111 0), some (vI c), some (vI n), some (vI r), some (vI (re / 3)), some (vI (k + (-1))), some (vI (re % 3))] [] U39 ?_
                refine j_drq [some (vR 111 0), some (vI c), some (vI n), some (vI r), some (vI (re / 3)), some (vI (k + (-1))), none] (drq_s (drq_s (drq_s (drq_s (drq_s (drq_s (drq_n drq_0))))))) ?_
                refine ih_43 _ ?_ (re / 3) (k + (-1)) U39 (Nat.le_refl _) ?_ ?_
                · have hm_43 := hm_43 (); omega
                · exact fr_u (fr_u (fr_u (fr_t (fr_0 _ _) (fr_s hf_43 rfl)) hU12 rfl) hU24 rfl) hU39 rfl
                · omega
            · refine hK 159 _ [vI 3, vI c, vR 111 0, vI (U24 293 0 (T 233 0 (T 297 0 k))), vI (T 233 0 (T 297 0 k)), vR 293 0] U24 ?_
              refine j_callV (y := yX11_rule0) (Yc := zX11_rule0) (rest := [vI (U24 293 0 (T 233 0 (T 297 0 k))), vI (T 233 0 (T 297 0 k)), vR 293 0]) [vI c, vI 3] (ct_X11_rule0 (T := U24) (by omega) (by omega)) cl_X11_321 (qd_c (by decide +kernel)) (nn_ _) rfl (rf_of rfl) (Nat.le_of_ble_eq_true rfl) (Nat.le_of_ble_eq_true rfl) (Nat.le_of_ble_eq_true rfl) rfl ?_
              rintro _ _ ⟨rfl, rfl⟩
              have e41 : U24 205 0 (23 * c + 3) = T 205 0 (23 * c + 3) := (up_k hU24 (by exact Nat.ne_of_beq_eq_false rfl) 0 (23 * c + 3)).trans ((up_k hU12 (by exact Nat.ne_of_beq_eq_false rfl) 0 (23 * c + 3)).trans (hf_43 205 0 (23 * c + 3) rfl))
              show J_ zX11_isRowWell T (po_X11_isRowWell T c n r) 0 0 162 _ [vI (U24 205 0 (23 * c + 3)), vI (U24 293 0 (T 233 0 (T 297 0 k))), vI (T 233 0 (T 297 0 k)), vR 293 0] U24
              refine j_blx (F := fX11) tb_X11 (nn_ _) bk_X11_isRowWell_162 bs_X11_isRowWell_162 hz (fun K hK => ?_)
              intro w42 w42b
              refine iy_i (by omega) (by omega) ?_
              refine x_nm (fun U43 hU43 => ?_)
              have e44 := up_f hU43
              refine rg_i (by omega) ?_
              refine hK 43 [some (vR 111 0), some (vI c), some (vI n), some (vI r), some (vI (re / 3)), some (vI (k + (-1))), some (vI (re % 3))] [] U43 ?_
              refine j_drq [some (vR 111 0), some (vI c), some (vI n), some (vI r), some (vI (re / 3)), some (vI (k + (-1))), none] (drq_s (drq_s (drq_s (drq_s (drq_s (drq_s (drq_n drq_0))))))) ?_
              refine ih_43 _ ?_ (re / 3) (k + (-1)) U43 (Nat.le_refl _) ?_ ?_
              · have hm_43 := hm_43 (); omega
              · exact fr_u (fr_u (fr_u (fr_t (fr_0 _ _) (fr_s hf_43 rfl)) hU12 rfl) hU24 rfl) hU43 rfl
              · omega
          · refine hK 114 _ [vI 2, vI c, vR 111 0, vI (T2 293 0 (T 232 0 (T 297 0 k))), vI (T 232 0 (T 297 0 k)), vR 293 0] U12 ?_
            refine j_callV (y := yX11_rule0) (Yc := zX11_rule0) (rest := [vI (T2 293 0 (T 232 0 (T 297 0 k))), vI (T 232 0 (T 297 0 k)), vR 293 0]) [vI c, vI 2] (ct_X11_rule0 (T := U12) (by omega) (by omega)) cl_X11_321 (qd_c (by decide +kernel)) (nn_ _) rfl (rf_of rfl) (Nat.le_of_ble_eq_true rfl) (Nat.le_of_ble_eq_true rfl) (Nat.le_of_ble_eq_true rfl) rfl ?_
            rintro _ _ ⟨rfl, rfl⟩
            have e45 : U12 205 0 (23 * c + 2) = T 205 0 (23 * c + 2) := (up_k hU12 (by exact Nat.ne_of_beq_eq_false rfl) 0 (23 * c + 2)).trans (hf_43 205 0 (23 * c + 2) rfl)
            show J_ zX11_isRowWell T (po_X11_isRowWell T c n r) 0 0 117 _ [vI (U12 205 0 (23 * c + 2)), vI (T2 293 0 (T 232 0 (T 297 0 k))), vI (T 232 0 (T 297 0 k)), vR 293 0] U12
            refine j_blx (F := fX11) tb_X11 (nn_ _) bk_X11_isRowWell_117 bs_X11_isRowWell_117 hz (fun K hK => ?_)
            intro w46 w46b
            refine iy_i (by omega) (by omega) ?_
            refine x_nm (fun U47 hU47 => ?_)
            have e48 := up_f hU47
            refine ix_i (by omega) ?_
            intro b49 b49b
            have e50 : U47 297 0 k = T 297 0 k := (up_k hU47 (by exact Nat.ne_of_beq_eq_false rfl) 0 k).trans ((up_k hU12 (by exact Nat.ne_of_beq_eq_false rfl) 0 k).trans (hf_43 297 0 k rfl))
            rw [e50] at b49 b49b ⊢
            refine ix_i (by omega) ?_
            intro b51 b51b
            have e52 : U47 233 0 (T 297 0 k) = T 233 0 (T 297 0 k) := (up_k hU47 (by exact Nat.ne_of_beq_eq_false rfl) 0 (T 297 0 k)).trans ((up_k hU12 (by exact Nat.ne_of_beq_eq_false rfl) 0 (T 297 0 k)).trans (hf_43 233 0 (T 297 0 k) rfl))
            rw [e52] at b51 b51b ⊢
            refine ix_i (by omega) ?_
            intro b53 b53b
            refine And.intro (fun c54 => ?_) (fun c54 => ?_)
            · refine hK 148 _ [vI c, vR 111 0, vI (U47 293 0 (T 233 0 (T 297 0 k))), vI (T 233 0 (T 297 0 k)), vR 293 0] U47 ?_
              refine j_blx (F := fX11) tb_X11 (nn_ _) bk_X11_isRowWell_148 bs_X11_isRowWell_148 hz (fun K hK => ?_)
              refine And.intro (fun c55 => ?_) (fun c55 => ?_)
              · refine hK 158 _ [vI c, vR 111 0, vI (U47 293 0 (T 233 0 (T 297 0 k))), vI (T 233 0 (T 297 0 k)), vR 293 0] U47 ?_
                refine j_blx (F := fX11) tb_X11 (nn_ _) bk_X11_isRowWell_158 bs_X11_isRowWell_158 hz (fun K hK => ?_)
                refine hK 159 _ [vI 1, vI c, vR 111 0, vI (U47 293 0 (T 233 0 (T 297 0 k))), vI (T 233 0 (T 297 0 k)), vR 293 0] U47 ?_
                refine j_callV (y := yX11_rule0) (Yc := zX11_rule0) (rest := [vI (U47 293 0 (T 233 0 (T 297 0 k))), vI (T 233 0 (T 297 0 k)), vR 293 0]) [vI c, vI 1] (ct_X11_rule0 (T := U47) (by omega) (by omega)) cl_X11_321 (qd_c (by decide +kernel)) (nn_ _) rfl (rf_of rfl) (Nat.le_of_ble_eq_true rfl) (Nat.le_of_ble_eq_true rfl) (Nat.le_of_ble_eq_true rfl) rfl ?_
                rintro _ _ ⟨rfl, rfl⟩
                have e56 : U47 205 0 (23 * c + 1) = T 205 0 (23 * c + 1) := (up_k hU47 (by exact Nat.ne_of_beq_eq_false rfl) 0 (23 * c + 1)).trans ((up_k hU12 (by exact Nat.ne_of_beq_eq_false rfl) 0 (23 * c + 1)).trans (hf_43 205 0 (23 * c + 1) rfl))
                show J_ zX11_isRowWell T (po_X11_isRowWell T c n r) 0 0 162 _ [vI (U47 205 0 (23 * c + 1)), vI (U47 293 0 (T 233 0 (T 297 0 k))), vI (T 233 0 (T 297 0 k)), vR 293 0] U47
                refine j_blx (F := fX11) tb_X11 (nn_ _) bk_X11_isRowWell_162 bs_X11_isRowWell_162 hz (fun K hK => ?_)
                intro w57 w57b
                refine iy_i (by omega) (by omega) ?_
                refine x_nm (fun U58 hU58 => ?_)
                have e59 := up_f hU58
                refine rg_i (by omega) ?_
                refine hK 43 [some (vR 111 0), some (vI c), some (vI n), some (vI r), some (vI (re / 3)), some (vI (k + (-1))), some (vI (re % 3))] [] U58 ?_
                refine j_drq [some (vR 111 0), some (vI c), some (vI n), some (vI r), some (vI (re / 3)), some (vI (k + (-1))), none] (drq_s (drq_s (drq_s (drq_s (drq_s (drq_s (drq_n drq_0))))))) ?_
                refine ih_43 _ ?_ (re / 3) (k + (-1)) U58 (Nat.le_refl _) ?_ ?_
                · have hm_43 := hm_43 (); omega
                · exact fr_u (fr_u (fr_u (fr_t (fr_0 _ _) (fr_s hf_43 rfl)) hU12 rfl) hU47 rfl) hU58 rfl
                · omega
              · refine hK 159 [some (vR 111 0), some (vI c), some (vI n), some (vI r), some (vI (re / 3)), some (vI k), some (vI (re % 3))] [vI 2, vI c, vR 111 0, vI (U47 293 0 (T 233 0 (T 297 0 k))), vI (T 233 0 (T 297 0 k)), vR 293 0] U47 ?_
                refine j_callV (y := yX11_rule0) (Yc := zX11_rule0) (rest := [vI (U47 293 0 (T 233 0 (T 297 0 k))), vI (T 233 0 (T 297 0 k)), vR 293 0]) [vI c, vI 2] (ct_X11_rule0 (T := U47) (by omega) (by omega)) cl_X11_321 (qd_c (by decide +kernel)) (nn_ _) rfl (rf_of rfl) (Nat.le_of_ble_eq_true rfl) (Nat.le_of_ble_eq_true rfl) (Nat.le_of_ble_eq_true rfl) rfl ?_
                rintro _ _ ⟨rfl, rfl⟩
                have e60 : U47 205 0 (23 * c + 2) = T 205 0 (23 * c + 2) := (up_k hU47 (by exact Nat.ne_of_beq_eq_false rfl) 0 (23 * c + 2)).trans ((up_k hU12 (by exact Nat.ne_of_beq_eq_false rfl) 0 (23 * c + 2)).trans (hf_43 205 0 (23 * c + 2) rfl))
                show J_ zX11_isRowWell T (po_X11_isRowWell T c n r) 0 0 162 _ [vI (U47 205 0 (23 * c + 2)), vI (U47 293 0 (T 233 0 (T 297 0 k))), vI (T 233 0 (T 297 0 k)), vR 293 0] U47
                refine j_blx (F := fX11) tb_X11 (nn_ _) bk_X11_isRowWell_162 bs_X11_isRowWell_162 hz (fun K hK => ?_)
                intro w61 w61b
                refine iy_i (by omega) (by omega) ?_
                refine x_nm (fun U62 hU62 => ?_)
                have e63 := up_f hU62
                refine rg_i (by omega) ?_
                refine hK 43 [some (vR 111 0), some (vI c), some (vI n), some (vI r), some (vI (re / 3)), some (vI (k + (-1))), some (vI (re % 3))] [] U62 ?_
                refine j_drq [some (vR 111 0), some (vI c), some (vI n), some (vI r), some (vI (re / 3)), some (vI (k + (-1))), none] (drq_s (drq_s (drq_s (drq_s (drq_s (drq_s (drq_n drq_0))))))) ?_
                refine ih_43 _ ?_ (re / 3) (k + (-1)) U62 (Nat.le_refl _) ?_ ?_
                · have hm_43 := hm_43 (); omega
                · exact fr_u (fr_u (fr_u (fr_t (fr_0 _ _) (fr_s hf_43 rfl)) hU12 rfl) hU47 rfl) hU62 rfl
                · omega
            · refine hK 159 _ [vI 3, vI c, vR 111 0, vI (U47 293 0 (T 233 0 (T 297 0 k))), vI (T 233 0 (T 297 0 k)), vR 293 0] U47 ?_
              refine j_callV (y := yX11_rule0) (Yc := zX11_rule0) (rest := [vI (U47 293 0 (T 233 0 (T 297 0 k))), vI (T 233 0 (T 297 0 k)), vR 293 0]) [vI c, vI 3] (ct_X11_rule0 (T := U47) (by omega) (by omega)) cl_X11_321 (qd_c (by decide +kernel)) (nn_ _) rfl (rf_of rfl) (Nat.le_of_ble_eq_true rfl) (Nat.le_of_ble_eq_true rfl) (Nat.le_of_ble_eq_true rfl) rfl ?_
              rintro _ _ ⟨rfl, rfl⟩
              have e64 : U47 205 0 (23 * c + 3) = T 205 0 (23 * c + 3) := (up_k hU47 (by exact Nat.ne_of_beq_eq_false rfl) 0 (23 * c + 3)).trans ((up_k hU12 (by exact Nat.ne_of_beq_eq_false rfl) 0 (23 * c + 3)).trans (hf_43 205 0 (23 * c + 3) rfl))
              show J_ zX11_isRowWell T (po_X11_isRowWell T c n r) 0 0 162 _ [vI (U47 205 0 (23 * c + 3)), vI (U47 293 0 (T 233 0 (T 297 0 k))), vI (T 233 0 (T 297 0 k)), vR 293 0] U47
              refine j_blx (F := fX11) tb_X11 (nn_ _) bk_X11_isRowWell_162 bs_X11_isRowWell_162 hz (fun K hK => ?_)
              intro w65 w65b
              refine iy_i (by omega) (by omega) ?_
              refine x_nm (fun U66 hU66 => ?_)
              have e67 := up_f hU66
              refine rg_i (by omega) ?_
              refine hK 43 [some (vR 111 0), some (vI c), some (vI n), some (vI r), some (vI (re / 3)), some (vI (k + (-1))), some (vI (re % 3))] [] U66 ?_
              refine j_drq [some (vR 111 0), some (vI c), some (vI n), some (vI r), some (vI (re / 3)), some (vI (k + (-1))), none] (drq_s (drq_s (drq_s (drq_s (drq_s (drq_s (drq_n drq_0))))))) ?_
              refine ih_43 _ ?_ (re / 3) (k + (-1)) U66 (Nat.le_refl _) ?_ ?_
              · have hm_43 := hm_43 (); omega
              · exact fr_u (fr_u (fr_u (fr_t (fr_0 _ _) (fr_s hf_43 rfl)) hU12 rfl) hU47 rfl) hU66 rfl
              · omega
        · refine hK 114 _ [vI 1, vI c, vR 111 0, vI (T2 293 0 (T 232 0 (T 297 0 k))), vI (T 232 0 (T 297 0 k)), vR 293 0] U12 ?_
          refine j_callV (y := yX11_rule0) (Yc := zX11_rule0) (rest := [vI (T2 293 0 (T 232 0 (T 297 0 k))), vI (T 232 0 (T 297 0 k)), vR 293 0]) [vI c, vI 1] (ct_X11_rule0 (T := U12) (by omega) (by omega)) cl_X11_321 (qd_c (by decide +kernel)) (nn_ _) rfl (rf_of rfl) (Nat.le_of_ble_eq_true rfl) (Nat.le_of_ble_eq_true rfl) (Nat.le_of_ble_eq_true rfl) rfl ?_
          rintro _ _ ⟨rfl, rfl⟩
          have e68 : U12 205 0 (23 * c + 1) = T 205 0 (23 * c + 1) := (up_k hU12 (by exact Nat.ne_of_beq_eq_false rfl) 0 (23 * c + 1)).trans (hf_43 205 0 (23 * c + 1) rfl)
          show J_ zX11_isRowWell T (po_X11_isRowWell T c n r) 0 0 117 _ [vI (U12 205 0 (23 * c + 1)), vI (T2 293 0 (T 232 0 (T 297 0 k))), vI (T 232 0 (T 297 0 k)), vR 293 0] U12
          refine j_blx (F := fX11) tb_X11 (nn_ _) bk_X11_isRowWell_117 bs_X11_isRowWell_117 hz (fun K hK => ?_)
          intro w69 w69b
          refine iy_i (by omega) (by omega) ?_
          refine x_nm (fun U70 hU70 => ?_)
          have e71 := up_f hU70
          refine ix_i (by omega) ?_
          intro b72 b72b
          have e73 : U70 297 0 k = T 297 0 k := (up_k hU70 (by exact Nat.ne_of_beq_eq_false rfl) 0 k).trans ((up_k hU12 (by exact Nat.ne_of_beq_eq_false rfl) 0 k).trans (hf_43 297 0 k rfl))
          rw [e73] at b72 b72b ⊢
          refine ix_i (by omega) ?_
          intro b74 b74b
          have e75 : U70 233 0 (T 297 0 k) = T 233 0 (T 297 0 k) := (up_k hU70 (by exact Nat.ne_of_beq_eq_false rfl) 0 (T 297 0 k)).trans ((up_k hU12 (by exact Nat.ne_of_beq_eq_false rfl) 0 (T 297 0 k)).trans (hf_43 233 0 (T 297 0 k) rfl))
          rw [e75] at b74 b74b ⊢
          refine ix_i (by omega) ?_
          intro b76 b76b
          refine And.intro (fun c77 => ?_) (fun c77 => ?_)
          · refine hK 148 _ [vI c, vR 111 0, vI (U70 293 0 (T 233 0 (T 297 0 k))), vI (T 233 0 (T 297 0 k)), vR 293 0] U70 ?_
            refine j_blx (F := fX11) tb_X11 (nn_ _) bk_X11_isRowWell_148 bs_X11_isRowWell_148 hz (fun K hK => ?_)
            refine And.intro (fun c78 => ?_) (fun c78 => ?_)
            · refine hK 158 _ [vI c, vR 111 0, vI (U70 293 0 (T 233 0 (T 297 0 k))), vI (T 233 0 (T 297 0 k)), vR 293 0] U70 ?_
              refine j_blx (F := fX11) tb_X11 (nn_ _) bk_X11_isRowWell_158 bs_X11_isRowWell_158 hz (fun K hK => ?_)
              refine hK 159 _ [vI 1, vI c, vR 111 0, vI (U70 293 0 (T 233 0 (T 297 0 k))), vI (T 233 0 (T 297 0 k)), vR 293 0] U70 ?_
              refine j_callV (y := yX11_rule0) (Yc := zX11_rule0) (rest := [vI (U70 293 0 (T 233 0 (T 297 0 k))), vI (T 233 0 (T 297 0 k)), vR 293 0]) [vI c, vI 1] (ct_X11_rule0 (T := U70) (by omega) (by omega)) cl_X11_321 (qd_c (by decide +kernel)) (nn_ _) rfl (rf_of rfl) (Nat.le_of_ble_eq_true rfl) (Nat.le_of_ble_eq_true rfl) (Nat.le_of_ble_eq_true rfl) rfl ?_
              rintro _ _ ⟨rfl, rfl⟩
              have e79 : U70 205 0 (23 * c + 1) = T 205 0 (23 * c + 1) := (up_k hU70 (by exact Nat.ne_of_beq_eq_false rfl) 0 (23 * c + 1)).trans ((up_k hU12 (by exact Nat.ne_of_beq_eq_false rfl) 0 (23 * c + 1)).trans (hf_43 205 0 (23 * c + 1) rfl))
              show J_ zX11_isRowWell T (po_X11_isRowWell T c n r) 0 0 162 _ [vI (U70 205 0 (23 * c + 1)), vI (U70 293 0 (T 233 0 (T 297 0 k))), vI (T 233 0 (T 297 0 k)), vR 293 0] U70
              refine j_blx (F := fX11) tb_X11 (nn_ _) bk_X11_isRowWell_162 bs_X11_isRowWell_162 hz (fun K hK => ?_)
              intro w80 w80b
              refine iy_i (by omega) (by omega) ?_
              refine x_nm (fun U81 hU81 => ?_)
              have e82 := up_f hU81
              refine rg_i (by omega) ?_
              refine hK 43 [some (vR 111 0), some (vI c), some (vI n), some (vI r), some (vI (re / 3)), some (vI (k + (-1))), some (vI (re % 3))] [] U81 ?_
              refine j_drq [some (vR 111 0), some (vI c), some (vI n), some (vI r), some (vI (re / 3)), some (vI (k + (-1))), none] (drq_s (drq_s (drq_s (drq_s (drq_s (drq_s (drq_n drq_0))))))) ?_
              refine ih_43 _ ?_ (re / 3) (k + (-1)) U81 (Nat.le_refl _) ?_ ?_
              · have hm_43 := hm_43 (); omega
              · exact fr_u (fr_u (fr_u (fr_t (fr_0 _ _) (fr_s hf_43 rfl)) hU12 rfl) hU70 rfl) hU81 rfl
              · omega
            · refine hK 159 [some (vR 111 0), some (vI c), some (vI n), some (vI r), some (vI (re / 3)), some (vI k), some (vI (re % 3))] [vI 2, vI c, vR 111 0, vI (U70 293 0 (T 233 0 (T 297 0 k))), vI (T 233 0 (T 297 0 k)), vR 293 0] U70 ?_
              refine j_callV (y := yX11_rule0) (Yc := zX11_rule0) (rest := [vI (U70 293 0 (T 233 0 (T 297 0 k))), vI (T 233 0 (T 297 0 k)), vR 293 0]) [vI c, vI 2] (ct_X11_rule0 (T := U70) (by omega) (by omega)) cl_X11_321 (qd_c (by decide +kernel)) (nn_ _) rfl (rf_of rfl) (Nat.le_of_ble_eq_true rfl) (Nat.le_of_ble_eq_true rfl) (Nat.le_of_ble_eq_true rfl) rfl ?_
              rintro _ _ ⟨rfl, rfl⟩
              have e83 : U70 205 0 (23 * c + 2) = T 205 0 (23 * c + 2) := (up_k hU70 (by exact Nat.ne_of_beq_eq_false rfl) 0 (23 * c + 2)).trans ((up_k hU12 (by exact Nat.ne_of_beq_eq_false rfl) 0 (23 * c + 2)).trans (hf_43 205 0 (23 * c + 2) rfl))
              show J_ zX11_isRowWell T (po_X11_isRowWell T c n r) 0 0 162 _ [vI (U70 205 0 (23 * c + 2)), vI (U70 293 0 (T 233 0 (T 297 0 k))), vI (T 233 0 (T 297 0 k)), vR 293 0] U70
              refine j_blx (F := fX11) tb_X11 (nn_ _) bk_X11_isRowWell_162 bs_X11_isRowWell_162 hz (fun K hK => ?_)
              intro w84 w84b
              refine iy_i (by omega) (by omega) ?_
              refine x_nm (fun U85 hU85 => ?_)
              have e86 := up_f hU85
              refine rg_i (by omega) ?_
              refine hK 43 [some (vR 111 0), some (vI c), some (vI n), some (vI r), some (vI (re / 3)), some (vI (k + (-1))), some (vI (re % 3))] [] U85 ?_
              refine j_drq [some (vR 111 0), some (vI c), some (vI n), some (vI r), some (vI (re / 3)), some (vI (k + (-1))), none] (drq_s (drq_s (drq_s (drq_s (drq_s (drq_s (drq_n drq_0))))))) ?_
              refine ih_43 _ ?_ (re / 3) (k + (-1)) U85 (Nat.le_refl _) ?_ ?_
              · have hm_43 := hm_43 (); omega
              · exact fr_u (fr_u (fr_u (fr_t (fr_0 _ _) (fr_s hf_43 rfl)) hU12 rfl) hU70 rfl) hU85 rfl
              · omega
          · refine hK 159 _ [vI 3, vI c, vR 111 0, vI (U70 293 0 (T 233 0 (T 297 0 k))), vI (T 233 0 (T 297 0 k)), vR 293 0] U70 ?_
            refine j_callV (y := yX11_rule0) (Yc := zX11_rule0) (rest := [vI (U70 293 0 (T 233 0 (T 297 0 k))), vI (T 233 0 (T 297 0 k)), vR 293 0]) [vI c, vI 3] (ct_X11_rule0 (T := U70) (by omega) (by omega)) cl_X11_321 (qd_c (by decide +kernel)) (nn_ _) rfl (rf_of rfl) (Nat.le_of_ble_eq_true rfl) (Nat.le_of_ble_eq_true rfl) (Nat.le_of_ble_eq_true rfl) rfl ?_
            rintro _ _ ⟨rfl, rfl⟩
            have e87 : U70 205 0 (23 * c + 3) = T 205 0 (23 * c + 3) := (up_k hU70 (by exact Nat.ne_of_beq_eq_false rfl) 0 (23 * c + 3)).trans ((up_k hU12 (by exact Nat.ne_of_beq_eq_false rfl) 0 (23 * c + 3)).trans (hf_43 205 0 (23 * c + 3) rfl))
            show J_ zX11_isRowWell T (po_X11_isRowWell T c n r) 0 0 162 _ [vI (U70 205 0 (23 * c + 3)), vI (U70 293 0 (T 233 0 (T 297 0 k))), vI (T 233 0 (T 297 0 k)), vR 293 0] U70
            refine j_blx (F := fX11) tb_X11 (nn_ _) bk_X11_isRowWell_162 bs_X11_isRowWell_162 hz (fun K hK => ?_)
            intro w88 w88b
            refine iy_i (by omega) (by omega) ?_
            refine x_nm (fun U89 hU89 => ?_)
            have e90 := up_f hU89
            refine rg_i (by omega) ?_
            refine hK 43 [some (vR 111 0), some (vI c), some (vI n), some (vI r), some (vI (re / 3)), some (vI (k + (-1))), some (vI (re % 3))] [] U89 ?_
            refine j_drq [some (vR 111 0), some (vI c), some (vI n), some (vI r), some (vI (re / 3)), some (vI (k + (-1))), none] (drq_s (drq_s (drq_s (drq_s (drq_s (drq_s (drq_n drq_0))))))) ?_
            refine ih_43 _ ?_ (re / 3) (k + (-1)) U89 (Nat.le_refl _) ?_ ?_
            · have hm_43 := hm_43 (); omega
            · exact fr_u (fr_u (fr_u (fr_t (fr_0 _ _) (fr_s hf_43 rfl)) hU12 rfl) hU70 rfl) hU89 rfl
            · omega
  have c_3 : ∀ (nn : Nat) (k : Int) (T1 : Zt), ((12 - k).toNat) ≤ nn → (fr_ [(293, [])] T T1) → (0 ≤ k ∧ k ≤ 12) → J_ zX11_isRowWell T (po_X11_isRowWell T c n r) 0 0 3 [some (vR 111 0), some (vI c), some (vI n), some (vI r), some (vI k), none, none] [] T1 := by
    intro nn
    induction nn using Nat.strongRecOn with
    | _ nn ih_3 =>
      intro k T1 hm_3 hf_3 i1
      replace hm_3 := fun (_ : Unit) => hm_3
      refine j_blx (F := fX11) tb_X11 (nn_ _) bk_X11_isRowWell_3 bs_X11_isRowWell_3 hz (fun K hK => ?_)
      refine And.intro (fun c91 => ?_) (fun c91 => ?_)
      · refine hK 35 _ [] T1 ?_
        refine j_blx (F := fX11) tb_X11 (nn_ _) bk_X11_isRowWell_35 bs_X11_isRowWell_35 hz (fun K hK => ?_)
        refine rg_i (by omega) ?_
        refine hK 43 [some (vR 111 0), some (vI c), some (vI n), some (vI r), some (vI r), some (vI (n - 1)), none] [] T1 ?_
        refine c_43 _ r (n - 1) T1 (Nat.le_refl _) ?_ ?_
        · exact fr_t (fr_0 _ _) (fr_s hf_3 rfl)
        · omega
      · intro b92 b92b
        have e93 : T1 111 0 95 = T 111 0 95 := hf_3 111 0 95 rfl
        rw [e93] at b92 b92b ⊢
        refine ix_i (by omega) ?_
        intro b94 b94b
        have e95 : T1 291 0 k = T 291 0 k := hf_3 291 0 k rfl
        rw [e95] at b94 b94b ⊢
        intro w96 w96b
        refine iy_i (by omega) (by omega) ?_
        refine x_nm (fun U97 hU97 => ?_)
        have e98 := up_f hU97
        refine rg_i (by omega) ?_
        refine hK 3 [some (vR 111 0), some (vI c), some (vI n), some (vI r), some (vI (k + 1)), none, none] [] U97 ?_
        refine ih_3 _ ?_ (k + 1) U97 (Nat.le_refl _) ?_ ?_
        · have hm_3 := hm_3 (); omega
        · exact fr_u (fr_t (fr_0 _ _) (fr_s hf_3 rfl)) hU97 rfl
        · omega
  refine j_blx (F := fX11) tb_X11 (nn_ _) bk_X11_isRowWell_0 bs_X11_isRowWell_0 hz (fun K hK => ?_)
  refine hK 3 [some (vR 111 0), some (vI c), some (vI n), some (vI r), some (vI 0), none, none] [] T ?_
  refine c_3 _ 0 T (Nat.le_refl _) ?_ ?_
  · exact fr_0 _ _
  · omega
abbrev cX11_canTry : ByteArray := prog_13_method_105_code
def yX11_canTry : MethodName := ⟨RX11, "canTry", "(II)I"⟩
def zX11_canTry : Zm := (RX11, cX11_canTry, 7, (some .int), { frames := 2, cells := 0, slots := 0, locals := 48 })
theorem bk_X11_canTry_203 : ck_ fX11 (some .int) cX11_canTry 203 [.iload 6, .iload 4, .if_icmp .ge 231, .iload 5, .ifCond .ne 231, .aload 0, .iload 1, .iload 3, .iload 6] 220 = true := qck_r (nn_ _) (by decide +kernel)
theorem bs_X11_canTry_203 {P : Zt → Option Zv → Prop} (K : Int → Zl → List Zv → Zt → Prop) : sx_ K P [.iload 6, .iload 4, .if_icmp .ge 231, .iload 5, .ifCond .ne 231, .aload 0, .iload 1, .iload 3, .iload 6] 220 = x_iload 6 (x_iload 4 (x_if_icmp .ge 231 K (x_iload 5 (x_ifCond .ne 231 K (x_aload 0 (x_iload 1 (x_iload 3 (x_iload 6 (K 220))))))))) := ((xe_iload 6).trans (congrArg (x_iload 6) ((xe_iload 4).trans (congrArg (x_iload 4) ((xe_if_icmp .ge 231).trans (congrArg (x_if_icmp .ge 231 K) ((xe_iload 5).trans (congrArg (x_iload 5) ((xe_ifCond .ne 231).trans (congrArg (x_ifCond .ne 231 K) ((xe_aload 0).trans (congrArg (x_aload 0) ((xe_iload 1).trans (congrArg (x_iload 1) ((xe_iload 3).trans (congrArg (x_iload 3) ((xe_iload 6).trans (congrArg (x_iload 6) xe_nil))))))))))))))))))
theorem bk_X11_canTry_231 : ck_ fX11 (some .int) cX11_canTry 231 [.iload 5, .ifCond .eq 240, .iconst 1, .goto 241] 240 = true := qck_r (nn_ _) (by decide +kernel)
theorem bs_X11_canTry_231 {P : Zt → Option Zv → Prop} (K : Int → Zl → List Zv → Zt → Prop) : sx_ K P [.iload 5, .ifCond .eq 240, .iconst 1, .goto 241] 240 = x_iload 5 (x_ifCond .eq 240 K (x_iconst 1 (x_goto 241 K))) := ((xe_iload 5).trans (congrArg (x_iload 5) ((xe_ifCond .eq 240).trans (congrArg (x_ifCond .eq 240 K) ((xe_iconst 1).trans (congrArg (x_iconst 1) (xe_goto 241)))))))
theorem bk_X11_canTry_240 : ck_ fX11 (some .int) cX11_canTry 240 [.iconst 0, .ireturn] 242 = true := qck_r (nn_ _) (by decide +kernel)
theorem bs_X11_canTry_240 {P : Zt → Option Zv → Prop} (K : Int → Zl → List Zv → Zt → Prop) : sx_ K P [.iconst 0, .ireturn] 242 = x_iconst 0 (x_ireturn P) := ((xe_iconst 0).trans (congrArg (x_iconst 0) (xe_ireturn)))
theorem bk_X11_canTry_241 : ck_ fX11 (some .int) cX11_canTry 241 [.ireturn] 242 = true := qck_r (nn_ _) (by decide +kernel)
theorem bs_X11_canTry_241 {P : Zt → Option Zv → Prop} (K : Int → Zl → List Zv → Zt → Prop) : sx_ K P [.ireturn] 242 = x_ireturn P := (xe_ireturn)
set_option maxRecDepth 100000 in
theorem cl_X11_561 : cv_ RX11 561 yX11_isRowWell zX11_isRowWell 11 3 := ⟨gi_V (lwq_10 (dqa_m (dqa_m (List.mem_of_getElem? (i := 7) rfl))) rfl : Cond.methodLink RX11 561 yX11_isRowWell ∈ lw_g) (lwq_10 (dqa_m (dqa_m (dqa_m (List.mem_of_getElem? (i := 1) rfl)))) rfl : Cond.instanceMethod yX11_isRowWell ∈ lw_g) (lw_sel 27 rfl : Cond.selects yX11_isRowWell.cls yX11_isRowWell yX11_isRowWell ∈ lw_g) (lwq_1 (dqa_m (List.mem_of_getElem? (i := 2) rfl)) rfl : Cond.initialized yX11_isRowWell.cls ∈ lw_g) (lwq_10 (dqa_m (dqa_m (dqa_m (List.mem_of_getElem? (i := 2) rfl)))) rfl : Cond.code yX11_isRowWell cX11_isRowWell 7 (some .boolean) ∈ lw_g), ⟨nmh_1.1, nmh_1.2, pdq_11⟩, ⟨_, _, rfl⟩⟩
theorem bk_X11_canTry_223 : ck_ fX11 (some .int) cX11_canTry 223 [.istore 5, .iinc 6 1, .goto 203] 231 = true := qck_r (nn_ _) (by decide +kernel)
theorem bs_X11_canTry_223 {P : Zt → Option Zv → Prop} (K : Int → Zl → List Zv → Zt → Prop) : sx_ K P [.istore 5, .iinc 6 1, .goto 203] 231 = x_istore 5 (x_iinc 6 1 (x_goto 203 K)) := ((xe_istore 5).trans (congrArg (x_istore 5) ((xe_iinc 6 1).trans (congrArg (x_iinc 6 1) (xe_goto 203)))))
theorem bk_X11_canTry_179 : ck_ fX11 (some .int) cX11_canTry 179 [.iload 5, .iload 3, .if_icmp .ge 197, .iconst 3, .iload 4, .fmul, .istore 4, .iinc 5 1, .goto 179] 197 = true := qck_r (nn_ _) (by decide +kernel)
theorem bs_X11_canTry_179 {P : Zt → Option Zv → Prop} (K : Int → Zl → List Zv → Zt → Prop) : sx_ K P [.iload 5, .iload 3, .if_icmp .ge 197, .iconst 3, .iload 4, .fmul, .istore 4, .iinc 5 1, .goto 179] 197 = x_iload 5 (x_iload 3 (x_if_icmp .ge 197 K (x_iconst 3 (x_iload 4 (x_fmul (x_istore 4 (x_iinc 5 1 (x_goto 179 K)))))))) := ((xe_iload 5).trans (congrArg (x_iload 5) ((xe_iload 3).trans (congrArg (x_iload 3) ((xe_if_icmp .ge 197).trans (congrArg (x_if_icmp .ge 197 K) ((xe_iconst 3).trans (congrArg (x_iconst 3) ((xe_iload 4).trans (congrArg (x_iload 4) ((xe_fmul).trans (congrArg (x_fmul) ((xe_istore 4).trans (congrArg (x_istore 4) ((xe_iinc 5 1).trans (congrArg (x_iinc 5 1) (xe_goto 179)))))))))))))))))
theorem bk_X11_canTry_197 : ck_ fX11 (some .int) cX11_canTry 197 [.iconst 0, .istore 5, .iconst 0, .istore 6] 203 = true := qck_r (nn_ _) (by decide +kernel)
theorem bs_X11_canTry_197 {P : Zt → Option Zv → Prop} (K : Int → Zl → List Zv → Zt → Prop) : sx_ K P [.iconst 0, .istore 5, .iconst 0, .istore 6] 203 = x_iconst 0 (x_istore 5 (x_iconst 0 (x_istore 6 (K 203)))) := ((xe_iconst 0).trans (congrArg (x_iconst 0) ((xe_istore 5).trans (congrArg (x_istore 5) ((xe_iconst 0).trans (congrArg (x_iconst 0) ((xe_istore 6).trans (congrArg (x_istore 6) xe_nil))))))))
theorem bk_X11_canTry_55 : ck_ fX11 (some .int) cX11_canTry 55 [.istore 5, .aload 0, .iload 4] 60 = true := qck_r (nn_ _) (by decide +kernel)
theorem bs_X11_canTry_55 {P : Zt → Option Zv → Prop} (K : Int → Zl → List Zv → Zt → Prop) : sx_ K P [.istore 5, .aload 0, .iload 4] 60 = x_istore 5 (x_aload 0 (x_iload 4 (K 60))) := ((xe_istore 5).trans (congrArg (x_istore 5) ((xe_aload 0).trans (congrArg (x_aload 0) ((xe_iload 4).trans (congrArg (x_iload 4) xe_nil))))))
theorem bk_X11_canTry_63 : ck_ fX11 (some .int) cX11_canTry 63 [.ifCond .eq 139, .iload 5, .ifCond .eq 139, .aload 0, .tableswitch 0 11 89 #[], .iload 4, .aload 0, .tableswitch 0 11 32 #[], .iload 4, .iaload, .iload 2, .if_icmp .ne 92, .iconst 0, .goto 93] 92 = true := qck_r (nn_ _) (by decide +kernel)
theorem bs_X11_canTry_63 {P : Zt → Option Zv → Prop} (K : Int → Zl → List Zv → Zt → Prop) : sx_ K P [.ifCond .eq 139, .iload 5, .ifCond .eq 139, .aload 0, .tableswitch 0 11 89 #[], .iload 4, .aload 0, .tableswitch 0 11 32 #[], .iload 4, .iaload, .iload 2, .if_icmp .ne 92, .iconst 0, .goto 93] 92 = x_ifCond .eq 139 K (x_iload 5 (x_ifCond .eq 139 K (x_aload 0 (x_g1 111 289 (x_iload 4 (x_aload 0 (x_g1 111 232 (x_iload 4 (x_iaload (x_iload 2 (x_if_icmp .ne 92 K (x_iconst 0 (x_goto 93 K))))))))))))) := ((xe_ifCond .eq 139).trans (congrArg (x_ifCond .eq 139 K) ((xe_iload 5).trans (congrArg (x_iload 5) ((xe_ifCond .eq 139).trans (congrArg (x_ifCond .eq 139 K) ((xe_aload 0).trans (congrArg (x_aload 0) ((xe_g1 (kk := 111) rfl tl_11_89).trans (congrArg (x_g1 111 289) ((xe_iload 4).trans (congrArg (x_iload 4) ((xe_aload 0).trans (congrArg (x_aload 0) ((xe_g1 (kk := 111) rfl tl_11_32).trans (congrArg (x_g1 111 232) ((xe_iload 4).trans (congrArg (x_iload 4) ((xe_iaload).trans (congrArg (x_iaload) ((xe_iload 2).trans (congrArg (x_iload 2) ((xe_if_icmp .ne 92).trans (congrArg (x_if_icmp .ne 92 K) ((xe_iconst 0).trans (congrArg (x_iconst 0) (xe_goto 93)))))))))))))))))))))))))))
theorem bk_X11_canTry_139 : ck_ fX11 (some .int) cX11_canTry 139 [.aload 0, .iload 4] 142 = true := qck_r (nn_ _) (by decide +kernel)
theorem bs_X11_canTry_139 {P : Zt → Option Zv → Prop} (K : Int → Zl → List Zv → Zt → Prop) : sx_ K P [.aload 0, .iload 4] 142 = x_aload 0 (x_iload 4 (K 142)) := ((xe_aload 0).trans (congrArg (x_aload 0) ((xe_iload 4).trans (congrArg (x_iload 4) xe_nil))))
theorem bk_X11_canTry_145 : ck_ fX11 (some .int) cX11_canTry 145 [.ifCond .eq 159, .aload 0, .tableswitch 0 11 97 #[], .iload 3, .iload 4, .iastore, .iinc 3 1, .iinc 4 1, .goto 10] 165 = true := qck_r (nn_ _) (by decide +kernel)
theorem bs_X11_canTry_145 {P : Zt → Option Zv → Prop} (K : Int → Zl → List Zv → Zt → Prop) : sx_ K P [.ifCond .eq 159, .aload 0, .tableswitch 0 11 97 #[], .iload 3, .iload 4, .iastore, .iinc 3 1, .iinc 4 1, .goto 10] 165 = x_ifCond .eq 159 K (x_aload 0 (x_g1 111 297 (x_iload 3 (x_iload 4 (x_iastore (x_iinc 3 1 (x_iinc 4 1 (x_goto 10 K)))))))) := ((xe_ifCond .eq 159).trans (congrArg (x_ifCond .eq 159 K) ((xe_aload 0).trans (congrArg (x_aload 0) ((xe_g1 (kk := 111) rfl tl_11_97).trans (congrArg (x_g1 111 297) ((xe_iload 3).trans (congrArg (x_iload 3) ((xe_iload 4).trans (congrArg (x_iload 4) ((xe_iastore).trans (congrArg (x_iastore) ((xe_iinc 3 1).trans (congrArg (x_iinc 3 1) ((xe_iinc 4 1).trans (congrArg (x_iinc 4 1) (xe_goto 10)))))))))))))))))
theorem bk_X11_canTry_159 : ck_ fX11 (some .int) cX11_canTry 159 [.iinc 4 1, .goto 10] 165 = true := qck_r (nn_ _) (by decide +kernel)
theorem bs_X11_canTry_159 {P : Zt → Option Zv → Prop} (K : Int → Zl → List Zv → Zt → Prop) : sx_ K P [.iinc 4 1, .goto 10] 165 = x_iinc 4 1 (x_goto 10 K) := ((xe_iinc 4 1).trans (congrArg (x_iinc 4 1) (xe_goto 10)))
theorem bk_X11_canTry_92 : ck_ fX11 (some .int) cX11_canTry 92 [.iconst 2, .iastore, .aload 0, .tableswitch 0 11 91 #[], .aload 0, .tableswitch 0 11 32 #[], .iload 4, .iaload, .iload 2, .if_icmp .ne 119, .aload 0, .tableswitch 0 11 33 #[], .iload 4, .iaload, .goto 126] 119 = true := qck_r (nn_ _) (by decide +kernel)
theorem bs_X11_canTry_92 {P : Zt → Option Zv → Prop} (K : Int → Zl → List Zv → Zt → Prop) : sx_ K P [.iconst 2, .iastore, .aload 0, .tableswitch 0 11 91 #[], .aload 0, .tableswitch 0 11 32 #[], .iload 4, .iaload, .iload 2, .if_icmp .ne 119, .aload 0, .tableswitch 0 11 33 #[], .iload 4, .iaload, .goto 126] 119 = x_iconst 2 (x_iastore (x_aload 0 (x_g1 111 291 (x_aload 0 (x_g1 111 232 (x_iload 4 (x_iaload (x_iload 2 (x_if_icmp .ne 119 K (x_aload 0 (x_g1 111 233 (x_iload 4 (x_iaload (x_goto 126 K)))))))))))))) := ((xe_iconst 2).trans (congrArg (x_iconst 2) ((xe_iastore).trans (congrArg (x_iastore) ((xe_aload 0).trans (congrArg (x_aload 0) ((xe_g1 (kk := 111) rfl tl_11_91).trans (congrArg (x_g1 111 291) ((xe_aload 0).trans (congrArg (x_aload 0) ((xe_g1 (kk := 111) rfl tl_11_32).trans (congrArg (x_g1 111 232) ((xe_iload 4).trans (congrArg (x_iload 4) ((xe_iaload).trans (congrArg (x_iaload) ((xe_iload 2).trans (congrArg (x_iload 2) ((xe_if_icmp .ne 119).trans (congrArg (x_if_icmp .ne 119 K) ((xe_aload 0).trans (congrArg (x_aload 0) ((xe_g1 (kk := 111) rfl tl_11_33).trans (congrArg (x_g1 111 233) ((xe_iload 4).trans (congrArg (x_iload 4) ((xe_iaload).trans (congrArg (x_iaload) (xe_goto 126)))))))))))))))))))))))))))))
theorem bk_X11_canTry_119 : ck_ fX11 (some .int) cX11_canTry 119 [.aload 0, .tableswitch 0 11 32 #[], .iload 4, .iaload, .dup2, .iaload, .aload 0, .iload 1, .iconst 3] 131 = true := qck_r (nn_ _) (by decide +kernel)
theorem bs_X11_canTry_119 {P : Zt → Option Zv → Prop} (K : Int → Zl → List Zv → Zt → Prop) : sx_ K P [.aload 0, .tableswitch 0 11 32 #[], .iload 4, .iaload, .dup2, .iaload, .aload 0, .iload 1, .iconst 3] 131 = x_aload 0 (x_g1 111 232 (x_iload 4 (x_iaload (x_dup2 (x_iaload (x_aload 0 (x_iload 1 (x_iconst 3 (K 131))))))))) := ((xe_aload 0).trans (congrArg (x_aload 0) ((xe_g1 (kk := 111) rfl tl_11_32).trans (congrArg (x_g1 111 232) ((xe_iload 4).trans (congrArg (x_iload 4) ((xe_iaload).trans (congrArg (x_iaload) ((xe_dup2).trans (congrArg (x_dup2) ((xe_iaload).trans (congrArg (x_iaload) ((xe_aload 0).trans (congrArg (x_aload 0) ((xe_iload 1).trans (congrArg (x_iload 1) ((xe_iconst 3).trans (congrArg (x_iconst 3) xe_nil))))))))))))))))))
theorem bk_X11_canTry_134 : ck_ fX11 (some .int) cX11_canTry 134 [.fadd, .iastore, .goto 159] 139 = true := qck_r (nn_ _) (by decide +kernel)
theorem bs_X11_canTry_134 {P : Zt → Option Zv → Prop} (K : Int → Zl → List Zv → Zt → Prop) : sx_ K P [.fadd, .iastore, .goto 159] 139 = x_fadd (x_iastore (x_goto 159 K)) := ((xe_fadd).trans (congrArg (x_fadd) ((xe_iastore).trans (congrArg (x_iastore) (xe_goto 159)))))
theorem bk_X11_canTry_126 : ck_ fX11 (some .int) cX11_canTry 126 [.dup2, .iaload, .aload 0, .iload 1, .iconst 3] 131 = true := qck_r (nn_ _) (by decide +kernel)
theorem bs_X11_canTry_126 {P : Zt → Option Zv → Prop} (K : Int → Zl → List Zv → Zt → Prop) : sx_ K P [.dup2, .iaload, .aload 0, .iload 1, .iconst 3] 131 = x_dup2 (x_iaload (x_aload 0 (x_iload 1 (x_iconst 3 (K 131))))) := ((xe_dup2).trans (congrArg (x_dup2) ((xe_iaload).trans (congrArg (x_iaload) ((xe_aload 0).trans (congrArg (x_aload 0) ((xe_iload 1).trans (congrArg (x_iload 1) ((xe_iconst 3).trans (congrArg (x_iconst 3) xe_nil))))))))))
theorem bk_X11_canTry_93 : ck_ fX11 (some .int) cX11_canTry 93 [.iastore, .aload 0, .tableswitch 0 11 91 #[], .aload 0, .tableswitch 0 11 32 #[], .iload 4, .iaload, .iload 2, .if_icmp .ne 119, .aload 0, .tableswitch 0 11 33 #[], .iload 4, .iaload, .goto 126] 119 = true := qck_r (nn_ _) (by decide +kernel)
theorem bs_X11_canTry_93 {P : Zt → Option Zv → Prop} (K : Int → Zl → List Zv → Zt → Prop) : sx_ K P [.iastore, .aload 0, .tableswitch 0 11 91 #[], .aload 0, .tableswitch 0 11 32 #[], .iload 4, .iaload, .iload 2, .if_icmp .ne 119, .aload 0, .tableswitch 0 11 33 #[], .iload 4, .iaload, .goto 126] 119 = x_iastore (x_aload 0 (x_g1 111 291 (x_aload 0 (x_g1 111 232 (x_iload 4 (x_iaload (x_iload 2 (x_if_icmp .ne 119 K (x_aload 0 (x_g1 111 233 (x_iload 4 (x_iaload (x_goto 126 K))))))))))))) := ((xe_iastore).trans (congrArg (x_iastore) ((xe_aload 0).trans (congrArg (x_aload 0) ((xe_g1 (kk := 111) rfl tl_11_91).trans (congrArg (x_g1 111 291) ((xe_aload 0).trans (congrArg (x_aload 0) ((xe_g1 (kk := 111) rfl tl_11_32).trans (congrArg (x_g1 111 232) ((xe_iload 4).trans (congrArg (x_iload 4) ((xe_iaload).trans (congrArg (x_iaload) ((xe_iload 2).trans (congrArg (x_iload 2) ((xe_if_icmp .ne 119).trans (congrArg (x_if_icmp .ne 119 K) ((xe_aload 0).trans (congrArg (x_aload 0) ((xe_g1 (kk := 111) rfl tl_11_33).trans (congrArg (x_g1 111 233) ((xe_iload 4).trans (congrArg (x_iload 4) ((xe_iaload).trans (congrArg (x_iaload) (xe_goto 126)))))))))))))))))))))))))))
theorem bk_X11_canTry_10 : ck_ fX11 (some .int) cX11_canTry 10 [.iload 4, .aload 0, .tableswitch 0 11 10 #[], .iload 1, .iaload, .aload 0, .tableswitch 0 11 11 #[], .iload 1, .iaload, .iadd, .if_icmp .ge 165, .aload 0, .tableswitch 0 11 32 #[], .iload 4, .iaload, .iload 2, .if_icmp .eq 50, .aload 0, .tableswitch 0 11 33 #[], .iload 4, .iaload, .iload 2, .if_icmp .ne 54, .iconst 1, .goto 55] 54 = true := qck_r (nn_ _) (by decide +kernel)
theorem bs_X11_canTry_10 {P : Zt → Option Zv → Prop} (K : Int → Zl → List Zv → Zt → Prop) : sx_ K P [.iload 4, .aload 0, .tableswitch 0 11 10 #[], .iload 1, .iaload, .aload 0, .tableswitch 0 11 11 #[], .iload 1, .iaload, .iadd, .if_icmp .ge 165, .aload 0, .tableswitch 0 11 32 #[], .iload 4, .iaload, .iload 2, .if_icmp .eq 50, .aload 0, .tableswitch 0 11 33 #[], .iload 4, .iaload, .iload 2, .if_icmp .ne 54, .iconst 1, .goto 55] 54 = x_iload 4 (x_aload 0 (x_g1 111 210 (x_iload 1 (x_iaload (x_aload 0 (x_g1 111 211 (x_iload 1 (x_iaload (x_iadd (x_if_icmp .ge 165 K (x_aload 0 (x_g1 111 232 (x_iload 4 (x_iaload (x_iload 2 (x_if_icmp .eq 50 K (x_aload 0 (x_g1 111 233 (x_iload 4 (x_iaload (x_iload 2 (x_if_icmp .ne 54 K (x_iconst 1 (x_goto 55 K)))))))))))))))))))))))) := ((xe_iload 4).trans (congrArg (x_iload 4) ((xe_aload 0).trans (congrArg (x_aload 0) ((xe_g1 (kk := 111) rfl tl_11_10).trans (congrArg (x_g1 111 210) ((xe_iload 1).trans (congrArg (x_iload 1) ((xe_iaload).trans (congrArg (x_iaload) ((xe_aload 0).trans (congrArg (x_aload 0) ((xe_g1 (kk := 111) rfl tl_11_11).trans (congrArg (x_g1 111 211) ((xe_iload 1).trans (congrArg (x_iload 1) ((xe_iaload).trans (congrArg (x_iaload) ((xe_iadd).trans (congrArg (x_iadd) ((xe_if_icmp .ge 165).trans (congrArg (x_if_icmp .ge 165 K) ((xe_aload 0).trans (congrArg (x_aload 0) ((xe_g1 (kk := 111) rfl tl_11_32).trans (congrArg (x_g1 111 232) ((xe_iload 4).trans (congrArg (x_iload 4) ((xe_iaload).trans (congrArg (x_iaload) ((xe_iload 2).trans (congrArg (x_iload 2) ((xe_if_icmp .eq 50).trans (congrArg (x_if_icmp .eq 50 K) ((xe_aload 0).trans (congrArg (x_aload 0) ((xe_g1 (kk := 111) rfl tl_11_33).trans (congrArg (x_g1 111 233) ((xe_iload 4).trans (congrArg (x_iload 4) ((xe_iaload).trans (congrArg (x_iaload) ((xe_iload 2).trans (congrArg (x_iload 2) ((xe_if_icmp .ne 54).trans (congrArg (x_if_icmp .ne 54 K) ((xe_iconst 1).trans (congrArg (x_iconst 1) (xe_goto 55)))))))))))))))))))))))))))))))))))))))))))))))))
theorem bk_X11_canTry_165 : ck_ fX11 (some .int) cX11_canTry 165 [.iload 3, .iconst 8, .if_icmp .le 173, .iconst 2, .ireturn] 173 = true := qck_r (nn_ _) (by decide +kernel)
theorem bs_X11_canTry_165 {P : Zt → Option Zv → Prop} (K : Int → Zl → List Zv → Zt → Prop) : sx_ K P [.iload 3, .iconst 8, .if_icmp .le 173, .iconst 2, .ireturn] 173 = x_iload 3 (x_iconst 8 (x_if_icmp .le 173 K (x_iconst 2 (x_ireturn P)))) := ((xe_iload 3).trans (congrArg (x_iload 3) ((xe_iconst 8).trans (congrArg (x_iconst 8) ((xe_if_icmp .le 173).trans (congrArg (x_if_icmp .le 173 K) ((xe_iconst 2).trans (congrArg (x_iconst 2) (xe_ireturn)))))))))
theorem bk_X11_canTry_173 : ck_ fX11 (some .int) cX11_canTry 173 [.iconst 1, .istore 4, .iconst 0, .istore 5] 179 = true := qck_r (nn_ _) (by decide +kernel)
theorem bs_X11_canTry_173 {P : Zt → Option Zv → Prop} (K : Int → Zl → List Zv → Zt → Prop) : sx_ K P [.iconst 1, .istore 4, .iconst 0, .istore 5] 179 = x_iconst 1 (x_istore 4 (x_iconst 0 (x_istore 5 (K 179)))) := ((xe_iconst 1).trans (congrArg (x_iconst 1) ((xe_istore 4).trans (congrArg (x_istore 4) ((xe_iconst 0).trans (congrArg (x_iconst 0) ((xe_istore 5).trans (congrArg (x_istore 5) xe_nil))))))))
theorem bk_X11_canTry_50 : ck_ fX11 (some .int) cX11_canTry 50 [.iconst 1, .goto 55] 54 = true := qck_r (nn_ _) (by decide +kernel)
theorem bs_X11_canTry_50 {P : Zt → Option Zv → Prop} (K : Int → Zl → List Zv → Zt → Prop) : sx_ K P [.iconst 1, .goto 55] 54 = x_iconst 1 (x_goto 55 K) := ((xe_iconst 1).trans (congrArg (x_iconst 1) (xe_goto 55)))
theorem bk_X11_canTry_54 : ck_ fX11 (some .int) cX11_canTry 54 [.iconst 0] 55 = true := qck_r (nn_ _) (by decide +kernel)
theorem bs_X11_canTry_54 {P : Zt → Option Zv → Prop} (K : Int → Zl → List Zv → Zt → Prop) : sx_ K P [.iconst 0] 55 = x_iconst 0 (K 55) := ((xe_iconst 0).trans (congrArg (x_iconst 0) xe_nil))
theorem bk_X11_canTry_0 : ck_ fX11 (some .int) cX11_canTry 0 [.iconst 0, .istore 3, .aload 0, .tableswitch 0 11 10 #[], .iload 1, .iaload, .istore 4] 10 = true := qck_r (nn_ _) (by decide +kernel)
theorem bs_X11_canTry_0 {P : Zt → Option Zv → Prop} (K : Int → Zl → List Zv → Zt → Prop) : sx_ K P [.iconst 0, .istore 3, .aload 0, .tableswitch 0 11 10 #[], .iload 1, .iaload, .istore 4] 10 = x_iconst 0 (x_istore 3 (x_aload 0 (x_g1 111 210 (x_iload 1 (x_iaload (x_istore 4 (K 10))))))) := ((xe_iconst 0).trans (congrArg (x_iconst 0) ((xe_istore 3).trans (congrArg (x_istore 3) ((xe_aload 0).trans (congrArg (x_aload 0) ((xe_g1 (kk := 111) rfl tl_11_10).trans (congrArg (x_g1 111 210) ((xe_iload 1).trans (congrArg (x_iload 1) ((xe_iaload).trans (congrArg (x_iaload) ((xe_istore 4).trans (congrArg (x_istore 4) xe_nil))))))))))))))
abbrev po_X11_canTry (T : Zt) (c cl : Int) : Zt → Option Zv → Prop := fun T' r => ∃ x : Int, r = some (vI x) ∧ fr_ [(289, []), (291, []), (297, []), (293, [])] T T' ∧ (0 ≤ x ∧ x ≤ 2)
set_option maxHeartbeats 4000000 in
theorem ct_X11_canTry {T : Zt} {c cl : Int} (h1 : 0 ≤ c ∧ c < 4) (hml : ML_ T) : Ct_ yX11_canTry zX11_canTry T [vR 111 0, vI c, vI cl] (po_X11_canTry T c cl) := by
  refine ct_of pn_11 rfl rfl (Nat.le_of_ble_eq_true rfl) (fun hT hav => ?_)
  have hr_c : -2147483648 ≤ c ∧ c ≤ 2147483647 := hav (vI c) (List.mem_cons_of_mem _ List.mem_cons_self)
  have hr_cl : -2147483648 ≤ cl ∧ cl ≤ 2147483647 := hav (vI cl) (List.mem_cons_of_mem _ (List.mem_cons_of_mem _ List.mem_cons_self))
  have hz : zX11_canTry.2.2.2.1 = some .boolean → ∀ (T' : Zt) (x : Int), po_X11_canTry T c cl T' (some (vI x)) → 0 ≤ x ∧ x ≤ 1 := fun h => by cases h
  have hmc := hml c (by omega) (by omega)
  have hb_29 : 0 ≤ T 111 0 29 ∧ T 111 0 29 ≤ 400 := bd_f hT 111 29 tl_11_29 0
  have hfo : 0 ≤ T 210 0 c ∧ T 210 0 c ≤ 400 := bd_a hT 210 (by decide +kernel : ta_ 210 = some (1, some 4, 0, 400)) 0 (by omega)
  have hmo : 0 ≤ T 211 0 c ∧ T 211 0 c ≤ 400 := bd_a hT 211 (by decide +kernel : ta_ 211 = some (1, some 4, 0, 400)) 0 (by omega)
  show J_ zX11_canTry T (po_X11_canTry T c cl) 0 0 0 [some (vR 111 0), some (vI c), some (vI cl), none, none, none, none] [] T
  have c_203 : ∀ (nn : Nat) (al : Int) (fd : Int) (r : Int) (mn : Int) (T2 : Zt), ((al - r).toNat) ≤ nn → (fr_ [(289, []), (291, []), (297, []), (293, [])] T T2) → (0 ≤ mn ∧ mn ≤ 8 ∧ 0 ≤ fd ∧ fd ≤ 1 ∧ 0 ≤ r ∧ al ≤ 2147483647) → J_ zX11_canTry T (po_X11_canTry T c cl) 0 0 203 [some (vR 111 0), some (vI c), some (vI cl), some (vI mn), some (vI al), some (vI fd), some (vI r)] [] T2 := by
    intro nn
    induction nn using Nat.strongRecOn with
    | _ nn ih_203 =>
      intro al fd r mn T2 hm_203 hf_203 i3
      replace hm_203 := fun (_ : Unit) => hm_203
      refine j_blx (F := fX11) tb_X11 (nn_ _) bk_X11_canTry_203 bs_X11_canTry_203 hz (fun K hK => ?_)
      refine And.intro (fun c1 => ?_) (fun c1 => ?_)
      · refine hK 231 _ [] T2 ?_
        refine j_blx (F := fX11) tb_X11 (nn_ _) bk_X11_canTry_231 bs_X11_canTry_231 hz (fun K hK => ?_)
        refine And.intro (fun c2 => ?_) (fun c2 => ?_)
        · refine hK 240 _ [] T2 ?_
          refine j_blx (F := fX11) tb_X11 (nn_ _) bk_X11_canTry_240 bs_X11_canTry_240 hz (fun K hK => ?_)
          refine (show po_X11_canTry T c cl T2 (some (vI 0)) from ?_)
          exact ⟨_, rfl, fr_t (fr_0 _ _) (fr_s hf_203 rfl), by omega⟩
        · refine hK 241 _ [vI 1] T2 ?_
          refine j_blx (F := fX11) tb_X11 (nn_ _) bk_X11_canTry_241 bs_X11_canTry_241 hz (fun K hK => ?_)
          refine (show po_X11_canTry T c cl T2 (some (vI 1)) from ?_)
          exact ⟨_, rfl, fr_t (fr_0 _ _) (fr_s hf_203 rfl), by omega⟩
      · refine And.intro (fun c3 => ?_) (fun c3 => ?_)
        · refine hK 231 _ [] T2 ?_
          refine j_blx (F := fX11) tb_X11 (nn_ _) bk_X11_canTry_231 bs_X11_canTry_231 hz (fun K hK => ?_)
          refine And.intro (fun c4 => ?_) (fun c4 => ?_)
          · refine hK 240 _ [] T2 ?_
            refine j_blx (F := fX11) tb_X11 (nn_ _) bk_X11_canTry_240 bs_X11_canTry_240 hz (fun K hK => ?_)
            refine (show po_X11_canTry T c cl T2 (some (vI 0)) from ?_)
            exact ⟨_, rfl, fr_t (fr_0 _ _) (fr_s hf_203 rfl), by omega⟩
          · refine hK 241 _ [vI 1] T2 ?_
            refine j_blx (F := fX11) tb_X11 (nn_ _) bk_X11_canTry_241 bs_X11_canTry_241 hz (fun K hK => ?_)
            refine (show po_X11_canTry T c cl T2 (some (vI 1)) from ?_)
            exact ⟨_, rfl, fr_t (fr_0 _ _) (fr_s hf_203 rfl), by omega⟩
        · refine hK 220 _ [vI r, vI mn, vI c, vR 111 0] T2 ?_
          refine j_callV (y := yX11_isRowWell) (Yc := zX11_isRowWell) (rest := []) [vI c, vI mn, vI r] (ct_X11_isRowWell (T := T2) (by omega) (by omega) (by omega)) cl_X11_561 (qd_c (by decide +kernel)) (nn_ _) rfl (rf_of rfl) (Nat.le_of_ble_eq_true rfl) (Nat.le_of_ble_eq_true rfl) (Nat.le_of_ble_eq_true rfl) rfl ?_
          rintro U5 _ ⟨x6, rfl, fU5, qU5⟩
          show J_ zX11_canTry T (po_X11_canTry T c cl) 0 0 223 _ [vI x6] U5
          refine j_blx (F := fX11) tb_X11 (nn_ _) bk_X11_canTry_223 bs_X11_canTry_223 hz (fun K hK => ?_)
          refine rg_i (by omega) ?_
          refine hK 203 [some (vR 111 0), some (vI c), some (vI cl), some (vI mn), some (vI al), some (vI x6), some (vI (r + 1))] [] U5 ?_
          refine ih_203 _ ?_ al x6 (r + 1) mn U5 (Nat.le_refl _) ?_ ?_
          · have hm_203 := hm_203 (); omega
          · exact fr_t (fr_t (fr_0 _ _) (fr_s hf_203 rfl)) (fr_s fU5 rfl)
          · omega
  have c_179 : ∀ (nn : Nat) (mn : Int) (al : Int) (k : Int) (T3 : Zt), ((mn - k).toNat) ≤ nn → (fr_ [(289, []), (291, []), (297, []), (293, [])] T T3) → (0 ≤ mn ∧ mn ≤ 8 ∧ 0 ≤ k ∧ al ≤ 2147483647) → J_ zX11_canTry T (po_X11_canTry T c cl) 0 0 179 [some (vR 111 0), some (vI c), some (vI cl), some (vI mn), some (vI al), some (vI k), none] [] T3 := by
    intro nn
    induction nn using Nat.strongRecOn with
    | _ nn ih_179 =>
      intro mn al k T3 hm_179 hf_179 i2
      replace hm_179 := fun (_ : Unit) => hm_179
      refine j_blx (F := fX11) tb_X11 (nn_ _) bk_X11_canTry_179 bs_X11_canTry_179 hz (fun K hK => ?_)
      refine And.intro (fun c7 => ?_) (fun c7 => ?_)
      · refine hK 197 _ [] T3 ?_
        refine j_blx (F := fX11) tb_X11 (nn_ _) bk_X11_canTry_197 bs_X11_canTry_197 hz (fun K hK => ?_)
        refine hK 203 [some (vR 111 0), some (vI c), some (vI cl), some (vI mn), some (vI al), some (vI 0), some (vI 0)] [] T3 ?_
        refine c_203 _ al 0 0 mn T3 (Nat.le_refl _) ?_ ?_
        · exact fr_t (fr_0 _ _) (fr_s hf_179 rfl)
        · omega
      · intro w8 w8b
        refine rg_i (by omega) ?_
        refine hK 179 [some (vR 111 0), some (vI c), some (vI cl), some (vI mn), some (vI (wr_ (3 * al))), some (vI (k + 1)), none] [] T3 ?_
        refine ih_179 _ ?_ mn (wr_ (3 * al)) (k + 1) T3 (Nat.le_refl _) ?_ ?_
        · have hm_179 := hm_179 (); omega
        · exact fr_t (fr_0 _ _) (fr_s hf_179 rfl)
        · omega
  have c_10 : ∀ (nn : Nat) (mn : Int) (m : Int) (T1 : Zt), ((400 - m).toNat) ≤ nn → (fr_ [(289, []), (291, []), (297, []), (293, [])] T T1) → (T 210 0 c ≤ m ∧ m ≤ T 210 0 c + T 211 0 c ∧ 0 ≤ mn ∧ mn ≤ m - T 210 0 c) → J_ zX11_canTry T (po_X11_canTry T c cl) 0 0 10 [some (vR 111 0), some (vI c), some (vI cl), some (vI mn), some (vI m), none, none] [] T1 := by
    intro nn
    induction nn using Nat.strongRecOn with
    | _ nn ih_10 =>
      intro mn m T1 hm_10 hf_10 i1
      replace hm_10 := fun (_ : Unit) => hm_10
      have c_55 : ∀ (v : Int), (m < T 210 0 c + T 211 0 c) → J_ zX11_canTry T (po_X11_canTry T c cl) 0 0 55 [some (vR 111 0), some (vI c), some (vI cl), some (vI mn), some (vI m), none, none] [vI v] T1 := by
        intro v i4
        refine j_blx (F := fX11) tb_X11 (nn_ _) bk_X11_canTry_55 bs_X11_canTry_55 hz (fun K hK => ?_)
        refine hK 60 [some (vR 111 0), some (vI c), some (vI cl), some (vI mn), some (vI m), some (vI v), none] [vI m, vR 111 0] T1 ?_
        refine j_callV (y := yX11_isLeft) (Yc := zX11_isLeft) (rest := []) [vI m] (ct_X11_isLeft (T := T1) (by omega)) cl_X11_538 (qd_c (by decide +kernel)) (nn_ _) rfl (rf_of rfl) (Nat.le_of_ble_eq_true rfl) (Nat.le_of_ble_eq_true rfl) (Nat.le_of_ble_eq_true rfl) rfl ?_
        rintro _ _ ⟨rfl, x9, rfl, hx9⟩
        show J_ zX11_canTry T (po_X11_canTry T c cl) 0 0 63 _ [vI x9] T1
        refine j_blx (F := fX11) tb_X11 (nn_ _) bk_X11_canTry_63 bs_X11_canTry_63 hz (fun K hK => ?_)
        refine And.intro (fun c10 => ?_) (fun c10 => ?_)
        · replace hx9 := hx9.resolve_left (fun z => absurd (c10.symm.trans z.1) (by decide))
          clear c10
          refine hK 139 _ [] T1 ?_
          refine j_blx (F := fX11) tb_X11 (nn_ _) bk_X11_canTry_139 bs_X11_canTry_139 hz (fun K hK => ?_)
          refine hK 142 _ [vI m, vR 111 0] T1 ?_
          refine j_callV (y := yX11_isLeft) (Yc := zX11_isLeft) (rest := []) [vI m] (ct_X11_isLeft (T := T1) (by omega)) cl_X11_538 (qd_c (by decide +kernel)) (nn_ _) rfl (rf_of rfl) (Nat.le_of_ble_eq_true rfl) (Nat.le_of_ble_eq_true rfl) (Nat.le_of_ble_eq_true rfl) rfl ?_
          rintro _ _ ⟨rfl, x11, rfl, hx11⟩
          show J_ zX11_canTry T (po_X11_canTry T c cl) 0 0 145 _ [vI x11] T1
          refine j_blx (F := fX11) tb_X11 (nn_ _) bk_X11_canTry_145 bs_X11_canTry_145 hz (fun K hK => ?_)
          refine And.intro (fun c12 => ?_) (fun c12 => ?_)
          · replace hx11 := hx11.resolve_left (fun z => absurd (c12.symm.trans z.1) (by decide))
            clear c12
            refine hK 159 _ [] T1 ?_
            refine j_blx (F := fX11) tb_X11 (nn_ _) bk_X11_canTry_159 bs_X11_canTry_159 hz (fun K hK => ?_)
            refine rg_i (by omega) ?_
            refine hK 10 [some (vR 111 0), some (vI c), some (vI cl), some (vI mn), some (vI (m + 1)), some (vI v), none] [] T1 ?_
            refine j_drq [some (vR 111 0), some (vI c), some (vI cl), some (vI mn), some (vI (m + 1)), none, none] (drq_s (drq_s (drq_s (drq_s (drq_s (drq_n (drq_n drq_0))))))) ?_
            refine ih_10 _ ?_ mn (m + 1) T1 (Nat.le_refl _) ?_ ?_
            · have hm_10 := hm_10 (); omega
            · exact fr_t (fr_0 _ _) (fr_s hf_10 rfl)
            · omega
          · replace hx11 := hx11.resolve_right (fun z => c12 z.1)
            clear c12
            refine iy_i (by omega) (by omega) ?_
            refine x_nm (fun U13 hU13 => ?_)
            have e14 := up_f hU13
            refine rg_i (by omega) ?_
            refine rg_i (by omega) ?_
            refine hK 10 [some (vR 111 0), some (vI c), some (vI cl), some (vI (mn + 1)), some (vI (m + 1)), some (vI v), none] [] U13 ?_
            refine j_drq [some (vR 111 0), some (vI c), some (vI cl), some (vI (mn + 1)), some (vI (m + 1)), none, none] (drq_s (drq_s (drq_s (drq_s (drq_s (drq_n (drq_n drq_0))))))) ?_
            refine ih_10 _ ?_ (mn + 1) (m + 1) U13 (Nat.le_refl _) ?_ ?_
            · have hm_10 := hm_10 (); omega
            · exact fr_u (fr_t (fr_0 _ _) (fr_s hf_10 rfl)) hU13 rfl
            · omega
        · replace hx9 := hx9.resolve_right (fun z => c10 z.1)
          clear c10
          refine And.intro (fun c15 => ?_) (fun c15 => ?_)
          · refine hK 139 _ [] T1 ?_
            refine j_blx (F := fX11) tb_X11 (nn_ _) bk_X11_canTry_139 bs_X11_canTry_139 hz (fun K hK => ?_)
            refine hK 142 _ [vI m, vR 111 0] T1 ?_
            refine j_callV (y := yX11_isLeft) (Yc := zX11_isLeft) (rest := []) [vI m] (ct_X11_isLeft (T := T1) (by omega)) cl_X11_538 (qd_c (by decide +kernel)) (nn_ _) rfl (rf_of rfl) (Nat.le_of_ble_eq_true rfl) (Nat.le_of_ble_eq_true rfl) (Nat.le_of_ble_eq_true rfl) rfl ?_
            rintro _ _ ⟨rfl, x16, rfl, hx16⟩
            show J_ zX11_canTry T (po_X11_canTry T c cl) 0 0 145 _ [vI x16] T1
            refine j_blx (F := fX11) tb_X11 (nn_ _) bk_X11_canTry_145 bs_X11_canTry_145 hz (fun K hK => ?_)
            refine And.intro (fun c17 => ?_) (fun c17 => ?_)
            · replace hx16 := hx16.resolve_left (fun z => absurd (c17.symm.trans z.1) (by decide))
              clear c17
              refine hK 159 _ [] T1 ?_
              refine j_blx (F := fX11) tb_X11 (nn_ _) bk_X11_canTry_159 bs_X11_canTry_159 hz (fun K hK => ?_)
              refine rg_i (by omega) ?_
              refine hK 10 [some (vR 111 0), some (vI c), some (vI cl), some (vI mn), some (vI (m + 1)), some (vI v), none] [] T1 ?_
              refine j_drq [some (vR 111 0), some (vI c), some (vI cl), some (vI mn), some (vI (m + 1)), none, none] (drq_s (drq_s (drq_s (drq_s (drq_s (drq_n (drq_n drq_0))))))) ?_
              refine ih_10 _ ?_ mn (m + 1) T1 (Nat.le_refl _) ?_ ?_
              · have hm_10 := hm_10 (); omega
              · exact fr_t (fr_0 _ _) (fr_s hf_10 rfl)
              · omega
            · replace hx16 := hx16.resolve_right (fun z => c17 z.1)
              clear c17
              refine iy_i (by omega) (by omega) ?_
              refine x_nm (fun U18 hU18 => ?_)
              have e19 := up_f hU18
              refine rg_i (by omega) ?_
              refine rg_i (by omega) ?_
              refine hK 10 [some (vR 111 0), some (vI c), some (vI cl), some (vI (mn + 1)), some (vI (m + 1)), some (vI v), none] [] U18 ?_
              refine j_drq [some (vR 111 0), some (vI c), some (vI cl), some (vI (mn + 1)), some (vI (m + 1)), none, none] (drq_s (drq_s (drq_s (drq_s (drq_s (drq_n (drq_n drq_0))))))) ?_
              refine ih_10 _ ?_ (mn + 1) (m + 1) U18 (Nat.le_refl _) ?_ ?_
              · have hm_10 := hm_10 (); omega
              · exact fr_u (fr_t (fr_0 _ _) (fr_s hf_10 rfl)) hU18 rfl
              · omega
          · refine ix_i (by omega) ?_
            intro b20 b20b
            have e21 : T1 232 0 m = T 232 0 m := hf_10 232 0 m rfl
            rw [e21] at b20 b20b ⊢
            refine And.intro (fun c22 => ?_) (fun c22 => ?_)
            · refine hK 92 _ [vI m, vR 289 0] T1 ?_
              refine j_blx (F := fX11) tb_X11 (nn_ _) bk_X11_canTry_92 bs_X11_canTry_92 hz (fun K hK => ?_)
              refine iy_i (by omega) (by omega) ?_
              refine x_nm (fun U23 hU23 => ?_)
              have e24 := up_f hU23
              refine ix_i (by omega) ?_
              intro b25 b25b
              have e26 : U23 232 0 m = T 232 0 m := (up_k hU23 (by exact Nat.ne_of_beq_eq_false rfl) 0 m).trans (hf_10 232 0 m rfl)
              rw [e26] at b25 b25b ⊢
              refine And.intro (fun c27 => ?_) (fun c27 => ?_)
              · refine hK 119 _ [vR 291 0] U23 ?_
                refine j_blx (F := fX11) tb_X11 (nn_ _) bk_X11_canTry_119 bs_X11_canTry_119 hz (fun K hK => ?_)
                refine ix_i (by omega) ?_
                intro b28 b28b
                have e29 : U23 232 0 m = T 232 0 m := (up_k hU23 (by exact Nat.ne_of_beq_eq_false rfl) 0 m).trans (hf_10 232 0 m rfl)
                rw [e29] at b28 b28b ⊢
                refine ix_i (by omega) ?_
                intro b30 b30b
                have e31 : U23 291 0 (T 232 0 m) = T1 291 0 (T 232 0 m) := up_k hU23 (by exact Nat.ne_of_beq_eq_false rfl) 0 (T 232 0 m)
                rw [e31] at b30 b30b ⊢
                refine hK 131 _ [vI 3, vI c, vR 111 0, vI (T1 291 0 (T 232 0 m)), vI (T 232 0 m), vR 291 0] U23 ?_
                refine j_callV (y := yX11_rule0) (Yc := zX11_rule0) (rest := [vI (T1 291 0 (T 232 0 m)), vI (T 232 0 m), vR 291 0]) [vI c, vI 3] (ct_X11_rule0 (T := U23) (by omega) (by omega)) cl_X11_321 (qd_c (by decide +kernel)) (nn_ _) rfl (rf_of rfl) (Nat.le_of_ble_eq_true rfl) (Nat.le_of_ble_eq_true rfl) (Nat.le_of_ble_eq_true rfl) rfl ?_
                rintro _ _ ⟨rfl, rfl⟩
                have e32 : U23 205 0 (23 * c + 3) = T 205 0 (23 * c + 3) := (up_k hU23 (by exact Nat.ne_of_beq_eq_false rfl) 0 (23 * c + 3)).trans (hf_10 205 0 (23 * c + 3) rfl)
                show J_ zX11_canTry T (po_X11_canTry T c cl) 0 0 134 _ [vI (U23 205 0 (23 * c + 3)), vI (T1 291 0 (T 232 0 m)), vI (T 232 0 m), vR 291 0] U23
                refine j_blx (F := fX11) tb_X11 (nn_ _) bk_X11_canTry_134 bs_X11_canTry_134 hz (fun K hK => ?_)
                intro w33 w33b
                refine iy_i (by omega) (by omega) ?_
                refine x_nm (fun U34 hU34 => ?_)
                have e35 := up_f hU34
                refine hK 159 _ [] U34 ?_
                refine j_blx (F := fX11) tb_X11 (nn_ _) bk_X11_canTry_159 bs_X11_canTry_159 hz (fun K hK => ?_)
                refine rg_i (by omega) ?_
                refine hK 10 [some (vR 111 0), some (vI c), some (vI cl), some (vI mn), some (vI (m + 1)), some (vI v), none] [] U34 ?_
                refine j_drq [some (vR 111 0), some (vI c), some (vI cl), some (vI mn), some (vI (m + 1)), none, none] (drq_s (drq_s (drq_s (drq_s (drq_s (drq_n (drq_n drq_0))))))) ?_
                refine ih_10 _ ?_ mn (m + 1) U34 (Nat.le_refl _) ?_ ?_
                · have hm_10 := hm_10 (); omega
                · exact fr_u (fr_u (fr_t (fr_0 _ _) (fr_s hf_10 rfl)) hU23 rfl) hU34 rfl
                · omega
              · refine ix_i (by omega) ?_
                intro b36 b36b
                have e37 : U23 233 0 m = T 233 0 m := (up_k hU23 (by exact Nat.ne_of_beq_eq_false rfl) 0 m).trans (hf_10 233 0 m rfl)
                rw [e37] at b36 b36b ⊢
                refine hK 126 [some (vR 111 0), some (vI c), some (vI cl), some (vI mn), some (vI m), some (vI v), none] [vI (T 233 0 m), vR 291 0] U23 ?_
                refine j_blx (F := fX11) tb_X11 (nn_ _) bk_X11_canTry_126 bs_X11_canTry_126 hz (fun K hK => ?_)
                refine ix_i (by omega) ?_
                intro b38 b38b
                have e39 : U23 291 0 (T 233 0 m) = T1 291 0 (T 233 0 m) := up_k hU23 (by exact Nat.ne_of_beq_eq_false rfl) 0 (T 233 0 m)
                rw [e39] at b38 b38b ⊢
                refine hK 131 _ [vI 3, vI c, vR 111 0, vI (T1 291 0 (T 233 0 m)), vI (T 233 0 m), vR 291 0] U23 ?_
                refine j_callV (y := yX11_rule0) (Yc := zX11_rule0) (rest := [vI (T1 291 0 (T 233 0 m)), vI (T 233 0 m), vR 291 0]) [vI c, vI 3] (ct_X11_rule0 (T := U23) (by omega) (by omega)) cl_X11_321 (qd_c (by decide +kernel)) (nn_ _) rfl (rf_of rfl) (Nat.le_of_ble_eq_true rfl) (Nat.le_of_ble_eq_true rfl) (Nat.le_of_ble_eq_true rfl) rfl ?_
                rintro _ _ ⟨rfl, rfl⟩
                have e40 : U23 205 0 (23 * c + 3) = T 205 0 (23 * c + 3) := (up_k hU23 (by exact Nat.ne_of_beq_eq_false rfl) 0 (23 * c + 3)).trans (hf_10 205 0 (23 * c + 3) rfl)
                show J_ zX11_canTry T (po_X11_canTry T c cl) 0 0 134 _ [vI (U23 205 0 (23 * c + 3)), vI (T1 291 0 (T 233 0 m)), vI (T 233 0 m), vR 291 0] U23
                refine j_blx (F := fX11) tb_X11 (nn_ _) bk_X11_canTry_134 bs_X11_canTry_134 hz (fun K hK => ?_)
                intro w41 w41b
                refine iy_i (by omega) (by omega) ?_
                refine x_nm (fun U42 hU42 => ?_)
                have e43 := up_f hU42
                refine hK 159 _ [] U42 ?_
                refine j_blx (F := fX11) tb_X11 (nn_ _) bk_X11_canTry_159 bs_X11_canTry_159 hz (fun K hK => ?_)
                refine rg_i (by omega) ?_
                refine hK 10 [some (vR 111 0), some (vI c), some (vI cl), some (vI mn), some (vI (m + 1)), some (vI v), none] [] U42 ?_
                refine j_drq [some (vR 111 0), some (vI c), some (vI cl), some (vI mn), some (vI (m + 1)), none, none] (drq_s (drq_s (drq_s (drq_s (drq_s (drq_n (drq_n drq_0))))))) ?_
                refine ih_10 _ ?_ mn (m + 1) U42 (Nat.le_refl _) ?_ ?_
                · have hm_10 := hm_10 (); omega
                · exact fr_u (fr_u (fr_t (fr_0 _ _) (fr_s hf_10 rfl)) hU23 rfl) hU42 rfl
                · omega
            · refine hK 93 _ [vI 0, vI m, vR 289 0] T1 ?_
              refine j_blx (F := fX11) tb_X11 (nn_ _) bk_X11_canTry_93 bs_X11_canTry_93 hz (fun K hK => ?_)
              refine iy_i (by omega) (by omega) ?_
              refine x_nm (fun U44 hU44 => ?_)
              have e45 := up_f hU44
              refine ix_i (by omega) ?_
              intro b46 b46b
              have e47 : U44 232 0 m = T 232 0 m := (up_k hU44 (by exact Nat.ne_of_beq_eq_false rfl) 0 m).trans (hf_10 232 0 m rfl)
              rw [e47] at b46 b46b ⊢
              refine And.intro (fun c48 => ?_) (fun c48 => ?_)
              · refine hK 119 _ [vR 291 0] U44 ?_
                refine j_blx (F := fX11) tb_X11 (nn_ _) bk_X11_canTry_119 bs_X11_canTry_119 hz (fun K hK => ?_)
                refine ix_i (by omega) ?_
                intro b49 b49b
                have e50 : U44 232 0 m = T 232 0 m := (up_k hU44 (by exact Nat.ne_of_beq_eq_false rfl) 0 m).trans (hf_10 232 0 m rfl)
                rw [e50] at b49 b49b ⊢
                refine ix_i (by omega) ?_
                intro b51 b51b
                have e52 : U44 291 0 (T 232 0 m) = T1 291 0 (T 232 0 m) := up_k hU44 (by exact Nat.ne_of_beq_eq_false rfl) 0 (T 232 0 m)
                rw [e52] at b51 b51b ⊢
                refine hK 131 _ [vI 3, vI c, vR 111 0, vI (T1 291 0 (T 232 0 m)), vI (T 232 0 m), vR 291 0] U44 ?_
                refine j_callV (y := yX11_rule0) (Yc := zX11_rule0) (rest := [vI (T1 291 0 (T 232 0 m)), vI (T 232 0 m), vR 291 0]) [vI c, vI 3] (ct_X11_rule0 (T := U44) (by omega) (by omega)) cl_X11_321 (qd_c (by decide +kernel)) (nn_ _) rfl (rf_of rfl) (Nat.le_of_ble_eq_true rfl) (Nat.le_of_ble_eq_true rfl) (Nat.le_of_ble_eq_true rfl) rfl ?_
                rintro _ _ ⟨rfl, rfl⟩
                have e53 : U44 205 0 (23 * c + 3) = T 205 0 (23 * c + 3) := (up_k hU44 (by exact Nat.ne_of_beq_eq_false rfl) 0 (23 * c + 3)).trans (hf_10 205 0 (23 * c + 3) rfl)
                show J_ zX11_canTry T (po_X11_canTry T c cl) 0 0 134 _ [vI (U44 205 0 (23 * c + 3)), vI (T1 291 0 (T 232 0 m)), vI (T 232 0 m), vR 291 0] U44
                refine j_blx (F := fX11) tb_X11 (nn_ _) bk_X11_canTry_134 bs_X11_canTry_134 hz (fun K hK => ?_)
                intro w54 w54b
                refine iy_i (by omega) (by omega) ?_
                refine x_nm (fun U55 hU55 => ?_)
                have e56 := up_f hU55
                refine hK 159 _ [] U55 ?_
                refine j_blx (F := fX11) tb_X11 (nn_ _) bk_X11_canTry_159 bs_X11_canTry_159 hz (fun K hK => ?_)
                refine rg_i (by omega) ?_
                refine hK 10 [some (vR 111 0), some (vI c), some (vI cl), some (vI mn), some (vI (m + 1)), some (vI v), none] [] U55 ?_
                refine j_drq [some (vR 111 0), some (vI c), some (vI cl), some (vI mn), some (vI (m + 1)), none, none] (drq_s (drq_s (drq_s (drq_s (drq_s (drq_n (drq_n drq_0))))))) ?_
                refine ih_10 _ ?_ mn (m + 1) U55 (Nat.le_refl _) ?_ ?_
                · have hm_10 := hm_10 (); omega
                · exact fr_u (fr_u (fr_t (fr_0 _ _) (fr_s hf_10 rfl)) hU44 rfl) hU55 rfl
                · omega
              · refine ix_i (by omega) ?_
                intro b57 b57b
                have e58 : U44 233 0 m = T 233 0 m := (up_k hU44 (by exact Nat.ne_of_beq_eq_false rfl) 0 m).trans (hf_10 233 0 m rfl)
                rw [e58] at b57 b57b ⊢
                refine hK 126 [some (vR 111 0), some (vI c), some (vI cl), some (vI mn), some (vI m), some (vI v), none] [vI (T 233 0 m), vR 291 0] U44 ?_
                refine j_blx (F := fX11) tb_X11 (nn_ _) bk_X11_canTry_126 bs_X11_canTry_126 hz (fun K hK => ?_)
                refine ix_i (by omega) ?_
                intro b59 b59b
                have e60 : U44 291 0 (T 233 0 m) = T1 291 0 (T 233 0 m) := up_k hU44 (by exact Nat.ne_of_beq_eq_false rfl) 0 (T 233 0 m)
                rw [e60] at b59 b59b ⊢
                refine hK 131 _ [vI 3, vI c, vR 111 0, vI (T1 291 0 (T 233 0 m)), vI (T 233 0 m), vR 291 0] U44 ?_
                refine j_callV (y := yX11_rule0) (Yc := zX11_rule0) (rest := [vI (T1 291 0 (T 233 0 m)), vI (T 233 0 m), vR 291 0]) [vI c, vI 3] (ct_X11_rule0 (T := U44) (by omega) (by omega)) cl_X11_321 (qd_c (by decide +kernel)) (nn_ _) rfl (rf_of rfl) (Nat.le_of_ble_eq_true rfl) (Nat.le_of_ble_eq_true rfl) (Nat.le_of_ble_eq_true rfl) rfl ?_
                rintro _ _ ⟨rfl, rfl⟩
                have e61 : U44 205 0 (23 * c + 3) = T 205 0 (23 * c + 3) := (up_k hU44 (by exact Nat.ne_of_beq_eq_false rfl) 0 (23 * c + 3)).trans (hf_10 205 0 (23 * c + 3) rfl)
                show J_ zX11_canTry T (po_X11_canTry T c cl) 0 0 134 _ [vI (U44 205 0 (23 * c + 3)), vI (T1 291 0 (T 233 0 m)), vI (T 233 0 m), vR 291 0] U44
                refine j_blx (F := fX11) tb_X11 (nn_ _) bk_X11_canTry_134 bs_X11_canTry_134 hz (fun K hK => ?_)
                intro w62 w62b
                refine iy_i (by omega) (by omega) ?_
                refine x_nm (fun U63 hU63 => ?_)
                have e64 := up_f hU63
                refine hK 159 _ [] U63 ?_
                refine j_blx (F := fX11) tb_X11 (nn_ _) bk_X11_canTry_159 bs_X11_canTry_159 hz (fun K hK => ?_)
                refine rg_i (by omega) ?_
                refine hK 10 [some (vR 111 0), some (vI c), some (vI cl), some (vI mn), some (vI (m + 1)), some (vI v), none] [] U63 ?_
                refine j_drq [some (vR 111 0), some (vI c), some (vI cl), some (vI mn), some (vI (m + 1)), none, none] (drq_s (drq_s (drq_s (drq_s (drq_s (drq_n (drq_n drq_0))))))) ?_
                refine ih_10 _ ?_ mn (m + 1) U63 (Nat.le_refl _) ?_ ?_
                · have hm_10 := hm_10 (); omega
                · exact fr_u (fr_u (fr_t (fr_0 _ _) (fr_s hf_10 rfl)) hU44 rfl) hU63 rfl
                · omega
      refine j_blx (F := fX11) tb_X11 (nn_ _) bk_X11_canTry_10 bs_X11_canTry_10 hz (fun K hK => ?_)
      refine ix_i (by omega) ?_
      intro b65 b65b
      have e66 : T1 210 0 c = T 210 0 c := hf_10 210 0 c rfl
      rw [e66] at b65 b65b ⊢
      refine ix_i (by omega) ?_
      intro b67 b67b
      have e68 : T1 211 0 c = T 211 0 c := hf_10 211 0 c rfl
      rw [e68] at b67 b67b ⊢
      refine rg_i (by omega) ?_
      refine And.intro (fun c69 => ?_) (fun c69 => ?_)
      · refine hK 165 _ [] T1 ?_
        refine j_blx (F := fX11) tb_X11 (nn_ _) bk_X11_canTry_165 bs_X11_canTry_165 hz (fun K hK => ?_)
        refine And.intro (fun c70 => ?_) (fun c70 => ?_)
        · refine hK 173 _ [] T1 ?_
          refine j_blx (F := fX11) tb_X11 (nn_ _) bk_X11_canTry_173 bs_X11_canTry_173 hz (fun K hK => ?_)
          refine hK 179 [some (vR 111 0), some (vI c), some (vI cl), some (vI mn), some (vI 1), some (vI 0), none] [] T1 ?_
          refine c_179 _ mn 1 0 T1 (Nat.le_refl _) ?_ ?_
          · exact fr_t (fr_0 _ _) (fr_s hf_10 rfl)
          · omega
        · refine (show po_X11_canTry T c cl T1 (some (vI 2)) from ?_)
          exact ⟨_, rfl, fr_t (fr_0 _ _) (fr_s hf_10 rfl), by omega⟩
      · refine ix_i (by omega) ?_
        intro b71 b71b
        have e72 : T1 232 0 m = T 232 0 m := hf_10 232 0 m rfl
        rw [e72] at b71 b71b ⊢
        refine And.intro (fun c73 => ?_) (fun c73 => ?_)
        · refine hK 50 _ [] T1 ?_
          refine j_blx (F := fX11) tb_X11 (nn_ _) bk_X11_canTry_50 bs_X11_canTry_50 hz (fun K hK => ?_)
          refine hK 55 _ [vI 1] T1 ?_
          refine c_55 1 ?_
          · omega
        · refine ix_i (by omega) ?_
          intro b74 b74b
          have e75 : T1 233 0 m = T 233 0 m := hf_10 233 0 m rfl
          rw [e75] at b74 b74b ⊢
          refine And.intro (fun c76 => ?_) (fun c76 => ?_)
          · refine hK 54 _ [] T1 ?_
            refine j_blx (F := fX11) tb_X11 (nn_ _) bk_X11_canTry_54 bs_X11_canTry_54 hz (fun K hK => ?_)
            refine hK 55 _ [vI 0] T1 ?_
            refine c_55 0 ?_
            · omega
          · refine hK 55 _ [vI 1] T1 ?_
            refine c_55 1 ?_
            · omega
  refine j_blx (F := fX11) tb_X11 (nn_ _) bk_X11_canTry_0 bs_X11_canTry_0 hz (fun K hK => ?_)
  refine ix_i (by omega) ?_
  intro b77 b77b
  refine hK 10 [some (vR 111 0), some (vI c), some (vI cl), some (vI 0), some (vI (T 210 0 c)), none, none] [] T ?_
  refine c_10 _ 0 (T 210 0 c) T (Nat.le_refl _) ?_ ?_
  · exact fr_0 _ _
  · omega
abbrev cX11_can : ByteArray := prog_13_method_107_code
def yX11_can : MethodName := ⟨RX11, "can", "(II)I"⟩
def zX11_can : Zm := (RX11, cX11_can, 5, (some .int), { frames := 4, cells := 0, slots := 0, locals := 92 })
set_option maxRecDepth 100000 in
theorem cl_X11_564 : cv_ RX11 564 yX11_countLeft zX11_countLeft 11 1 := ⟨gi_V (lwq_9 (dqc_m (dqc_m (dqc_m (dqc_m (dqc_m (dqc_m (dqc_m (List.mem_of_getElem? (i := 4) rfl)))))))) rfl : Cond.methodLink RX11 564 yX11_countLeft ∈ lw_g) (lwq_9 (dqc_m (dqc_m (dqc_m (dqc_m (dqc_m (dqc_m (dqc_m (List.mem_of_getElem? (i := 6) rfl)))))))) rfl : Cond.instanceMethod yX11_countLeft ∈ lw_g) (lw_sel 13 rfl : Cond.selects yX11_countLeft.cls yX11_countLeft yX11_countLeft ∈ lw_g) (lwq_1 (dqa_m (List.mem_of_getElem? (i := 2) rfl)) rfl : Cond.initialized yX11_countLeft.cls ∈ lw_g) (lwq_9 (dqc_m (dqc_m (dqc_m (dqc_m (dqc_m (dqc_m (dqc_m (List.mem_of_getElem? (i := 7) rfl)))))))) rfl : Cond.code yX11_countLeft cX11_countLeft 3 none ∈ lw_g), ⟨nmh_1.1, nmh_1.2, pdq_9⟩, ⟨_, _, rfl⟩⟩
set_option maxRecDepth 100000 in
theorem cl_X11_573 : cv_ RX11 573 yX11_canTry zX11_canTry 11 2 := ⟨gi_V (lwq_10 (dqa_m (dqa_m (List.mem_of_getElem? (i := 3) rfl))) rfl : Cond.methodLink RX11 573 yX11_canTry ∈ lw_g) (lwq_10 (dqa_m (dqa_m (List.mem_of_getElem? (i := 5) rfl))) rfl : Cond.instanceMethod yX11_canTry ∈ lw_g) (lw_sel 9 rfl : Cond.selects yX11_canTry.cls yX11_canTry yX11_canTry ∈ lw_g) (lwq_1 (dqa_m (List.mem_of_getElem? (i := 2) rfl)) rfl : Cond.initialized yX11_canTry.cls ∈ lw_g) (lwq_10 (dqa_m (dqa_m (List.mem_of_getElem? (i := 6) rfl))) rfl : Cond.code yX11_canTry cX11_canTry 7 (some .int) ∈ lw_g), ⟨nmh_1.1, nmh_1.2, pdq_4⟩, ⟨_, _, rfl⟩⟩
set_option maxRecDepth 100000 in
theorem cl_X11_567 : cv_ RX11 567 yX11_othersOf zX11_othersOf 11 2 := ⟨gi_V (lwq_9 (dqc_m (dqc_m (dqc_m (dqc_m (dqc_m (dqc_m (dqc_m (dqa_m (List.mem_of_getElem? (i := 4) rfl))))))))) rfl : Cond.methodLink RX11 567 yX11_othersOf ∈ lw_g) (lwq_9 (dqc_m (dqc_m (dqc_m (dqc_m (dqc_m (dqc_m (dqc_m (dqa_m (List.mem_of_getElem? (i := 6) rfl))))))))) rfl : Cond.instanceMethod yX11_othersOf ∈ lw_g) (lw_sel 43 rfl : Cond.selects yX11_othersOf.cls yX11_othersOf yX11_othersOf ∈ lw_g) (lwq_1 (dqa_m (List.mem_of_getElem? (i := 2) rfl)) rfl : Cond.initialized yX11_othersOf.cls ∈ lw_g) (lwq_9 (dqc_m (dqc_m (dqc_m (dqc_m (dqc_m (dqc_m (dqc_m (dqa_m (List.mem_of_getElem? (i := 7) rfl))))))))) rfl : Cond.code yX11_othersOf cX11_othersOf 5 (some .int) ∈ lw_g), ⟨nmh_1.1, nmh_1.2, pdq_4⟩, ⟨_, _, rfl⟩⟩
set_option maxRecDepth 100000 in
theorem cl_X11_570 : cv_ RX11 570 yX11_canEven zX11_canEven 11 3 := ⟨gi_V (lwq_10 (List.mem_of_getElem? (i := 0) rfl) rfl : Cond.methodLink RX11 570 yX11_canEven ∈ lw_g) (lwq_10 (List.mem_of_getElem? (i := 2) rfl) rfl : Cond.instanceMethod yX11_canEven ∈ lw_g) (lw_sel 8 rfl : Cond.selects yX11_canEven.cls yX11_canEven yX11_canEven ∈ lw_g) (lwq_1 (dqa_m (List.mem_of_getElem? (i := 2) rfl)) rfl : Cond.initialized yX11_canEven.cls ∈ lw_g) (lwq_10 (List.mem_of_getElem? (i := 3) rfl) rfl : Cond.code yX11_canEven cX11_canEven 9 (some .int) ∈ lw_g), ⟨nmh_1.1, nmh_1.2, pdq_8⟩, ⟨_, _, rfl⟩⟩
abbrev po_X11_can (T : Zt) (c cl : Int) : Zt → Option Zv → Prop := fun T' r => ∃ x : Int, r = some (vI x) ∧ fr_ [(276, []), (291, []), (292, []), (293, []), (294, []), (296, []), (289, []), (297, []), (111, [80, 82, 83, 90, 95, 88])] T T' ∧ (True)
theorem he_f {T T1 : Zt} {c v : Int} (h : HE_ T c v) (a : ∀ j, T1 208 0 j = T 208 0 j) (b : ∀ j, T1 207 0 j = T 207 0 j) : HE_ T1 c v := by
  obtain ⟨j, p, q, r⟩ := h
  exact ⟨j, p, by rw [a]; exact q, by rw [b]; exact r⟩
abbrev cX11_firsts : ByteArray := prog_13_method_110_code
def yX11_firsts : MethodName := ⟨RX11, "firsts", "(II)I"⟩
def zX11_firsts : Zm := (RX11, cX11_firsts, 9, (some .int), { frames := 5, cells := 0, slots := 0, locals := 128 })
abbrev po_X11_firsts (T : Zt) (c cl : Int) : Zt → Option Zv → Prop := fun T' r => ∃ x : Int, r = some (vI x) ∧ fr_ [(276, []), (284, []), (277, []), (286, []), (278, []), (297, []), (281, []), (111, [82, 83, 85, 87, 79, 80])] T T' ∧ (True)
