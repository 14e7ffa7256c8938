abbrev cX10_event : ByteArray := prog_1_method_23_code
def yX10_event : MethodName := ⟨RX10, "event", "(IIIII)I"⟩
def zX10_event : Zm := (RX10, cX10_event, 8, (some .int), { frames := 5, cells := 1, slots := 2048, locals := 116 })
set_option maxRecDepth 100000 in
theorem cl_X10_282 : cv_ RX10 282 yX3_brokenLaw zX3_brokenLaw 3 4 := ⟨gi_V (lwq_5 (dqa_m (dqa_m (dqa_m (List.mem_of_getElem? (i := 3) rfl)))) rfl : Cond.methodLink RX10 282 yX3_brokenLaw ∈ lw_g) (lwq_5 (dqa_m (dqa_m (dqa_m (List.mem_of_getElem? (i := 4) rfl)))) rfl : Cond.instanceMethod yX3_brokenLaw ∈ lw_g) (lwq_5 (dqa_m (dqa_m (dqa_m (List.mem_of_getElem? (i := 5) rfl)))) rfl : Cond.selects yX3_brokenLaw.cls yX3_brokenLaw yX3_brokenLaw ∈ lw_g) (lwq_1 (dqa_m (dqa_m (List.mem_of_getElem? (i := 2) rfl))) rfl : Cond.initialized yX3_brokenLaw.cls ∈ lw_g) (lwq_5 (dqa_m (dqa_m (dqa_m (List.mem_of_getElem? (i := 6) rfl)))) rfl : Cond.code yX3_brokenLaw cX3_brokenLaw 5 (some .int) ∈ lw_g), ⟨nmh_3.1, nmh_3.2, pdq_32⟩, ⟨_, _, rfl⟩⟩
set_option maxRecDepth 100000 in
theorem cl_X10_289 : cv_ RX10 289 yX3_carryOut zX3_carryOut 3 4 := ⟨gi_V (lwq_5 (dqc_m (dqa_m (dqa_m (dqa_m (List.mem_of_getElem? (i := 4) rfl))))) rfl : Cond.methodLink RX10 289 yX3_carryOut ∈ lw_g) (lwq_5 (dqc_m (dqa_m (dqa_m (dqa_m (List.mem_of_getElem? (i := 5) rfl))))) rfl : Cond.instanceMethod yX3_carryOut ∈ lw_g) (lwq_5 (dqc_m (dqa_m (dqa_m (dqa_m (List.mem_of_getElem? (i := 6) rfl))))) rfl : Cond.selects yX3_carryOut.cls yX3_carryOut yX3_carryOut ∈ lw_g) (lwq_1 (dqa_m (dqa_m (List.mem_of_getElem? (i := 2) rfl))) rfl : Cond.initialized yX3_carryOut.cls ∈ lw_g) (lwq_5 (dqc_m (dqa_m (dqa_m (dqa_m (List.mem_of_getElem? (i := 7) rfl))))) rfl : Cond.code yX3_carryOut cX3_carryOut 5 none ∈ lw_g), ⟨nmh_3.1, nmh_3.2, pdq_12⟩, ⟨_, _, rfl⟩⟩
set_option maxRecDepth 100000 in
theorem cl_X10_292 : cv_ RX10 292 yX3_keepRow zX3_keepRow 3 4 := ⟨gi_V (lwq_5 (dqc_m (dqc_m (dqc_m (dqc_m (List.mem_of_getElem? (i := 5) rfl))))) rfl : Cond.methodLink RX10 292 yX3_keepRow ∈ lw_g) (lwq_5 (dqc_m (dqc_m (dqc_m (dqc_m (List.mem_of_getElem? (i := 6) rfl))))) rfl : Cond.instanceMethod yX3_keepRow ∈ lw_g) (lwq_5 (dqc_m (dqc_m (dqc_m (dqc_m (List.mem_of_getElem? (i := 7) rfl))))) rfl : Cond.selects yX3_keepRow.cls yX3_keepRow yX3_keepRow ∈ lw_g) (lwq_1 (dqa_m (dqa_m (List.mem_of_getElem? (i := 2) rfl))) rfl : Cond.initialized yX3_keepRow.cls ∈ lw_g) (lwq_5 (dqc_m (dqc_m (dqc_m (dqc_m (dqa_m (List.mem_of_getElem? (i := 0) rfl)))))) rfl : Cond.code yX3_keepRow cX3_keepRow 5 none ∈ lw_g), ⟨nmh_3.1, nmh_3.2, pdq_12⟩, ⟨_, _, rfl⟩⟩
abbrev po_X10_event (T : Zt) (N : Int) (m k s a b : Int) : Zt → Option Zv → Prop := fun T' r => ∃ x : Int, r = some (vI x) ∧ fr_ [(106, [5]), (103, [3, 4, 5, 14, 15]), (466, []), (467, []), (468, []), (472, []), (471, []), (469, []), (470, []), (473, []), (190, []), (191, [0])] T T' ∧ LP_ (N + 1) T' ∧ lh_ T T' ∧ T' 191 0 0 ≤ T 191 0 0 + 600
abbrev cX10_review : ByteArray := prog_1_method_24_code
def yX10_review : MethodName := ⟨RX10, "review", "(IIIIII)I"⟩
def zX10_review : Zm := (RX10, cX10_review, 8, (some .int), { frames := 6, cells := 127, slots := 4064, locals := 143 })
set_option maxRecDepth 100000 in
theorem cl_X10_305 : cv_ RX10 305 yX3_isFormed zX3_isFormed 3 2 := ⟨gi_V (lwq_5 (dqc_m (dqc_m (dqc_m (dqc_m (dqc_m (dqa_m (List.mem_of_getElem? (i := 1) rfl))))))) rfl : Cond.methodLink RX10 305 yX3_isFormed ∈ lw_g) (lwq_5 (dqc_m (List.mem_of_getElem? (i := 0) rfl)) rfl : Cond.instanceMethod yX3_isFormed ∈ lw_g) (lwq_5 (dqc_m (List.mem_of_getElem? (i := 1) rfl)) rfl : Cond.selects yX3_isFormed.cls yX3_isFormed yX3_isFormed ∈ lw_g) (lwq_1 (dqa_m (dqa_m (List.mem_of_getElem? (i := 2) rfl))) rfl : Cond.initialized yX3_isFormed.cls ∈ lw_g) (lwq_5 (dqc_m (List.mem_of_getElem? (i := 2) rfl)) rfl : Cond.code yX3_isFormed cX3_isFormed 4 (some .boolean) ∈ lw_g), ⟨nmh_3.1, nmh_3.2, pdq_5⟩, ⟨_, _, rfl⟩⟩
set_option maxRecDepth 100000 in
theorem cl_X10_308 : cv_ RX10 308 yX3_isBounded zX3_isBounded 3 2 := ⟨gi_V (lwq_5 (dqc_m (dqc_m (dqc_m (dqc_m (dqc_m (dqa_m (List.mem_of_getElem? (i := 2) rfl))))))) rfl : Cond.methodLink RX10 308 yX3_isBounded ∈ lw_g) (lwq_5 (dqc_m (dqa_m (dqa_m (dqa_m (List.mem_of_getElem? (i := 1) rfl))))) rfl : Cond.instanceMethod yX3_isBounded ∈ lw_g) (lwq_5 (dqc_m (dqa_m (dqa_m (dqa_m (List.mem_of_getElem? (i := 2) rfl))))) rfl : Cond.selects yX3_isBounded.cls yX3_isBounded yX3_isBounded ∈ lw_g) (lwq_1 (dqa_m (dqa_m (List.mem_of_getElem? (i := 2) rfl))) rfl : Cond.initialized yX3_isBounded.cls ∈ lw_g) (lwq_5 (dqc_m (dqa_m (dqa_m (dqa_m (List.mem_of_getElem? (i := 3) rfl))))) rfl : Cond.code yX3_isBounded cX3_isBounded 3 (some .boolean) ∈ lw_g), ⟨nmh_3.1, nmh_3.2, pdq_5⟩, ⟨_, _, rfl⟩⟩
set_option maxRecDepth 100000 in
theorem cl_X10_311 : cv_ RX10 311 yX3_isSameRow zX3_isSameRow 3 5 := ⟨gi_V (lwq_5 (dqc_m (dqc_m (dqc_m (dqc_m (dqc_m (dqa_m (List.mem_of_getElem? (i := 3) rfl))))))) rfl : Cond.methodLink RX10 311 yX3_isSameRow ∈ lw_g) (lwq_5 (dqc_m (dqc_m (dqc_m (dqc_m (dqc_m (dqa_m (List.mem_of_getElem? (i := 4) rfl))))))) rfl : Cond.instanceMethod yX3_isSameRow ∈ lw_g) (lwq_5 (dqc_m (dqc_m (dqc_m (dqc_m (dqc_m (dqa_m (List.mem_of_getElem? (i := 5) rfl))))))) rfl : Cond.selects yX3_isSameRow.cls yX3_isSameRow yX3_isSameRow ∈ lw_g) (lwq_1 (dqa_m (dqa_m (List.mem_of_getElem? (i := 2) rfl))) rfl : Cond.initialized yX3_isSameRow.cls ∈ lw_g) (lwq_5 (dqc_m (dqc_m (dqc_m (dqc_m (dqc_m (dqa_m (List.mem_of_getElem? (i := 6) rfl))))))) rfl : Cond.code yX3_isSameRow cX3_isSameRow 6 (some .boolean) ∈ lw_g), ⟨nmh_3.1, nmh_3.2, pdq_33⟩, ⟨_, _, rfl⟩⟩
set_option maxRecDepth 100000 in
theorem cl_X10_315 : cv_ RX10 315 yX3_putInPlace zX3_putInPlace 3 5 := ⟨gi_V (lwq_5 (dqc_m (dqc_m (dqc_m (dqc_m (dqc_m (dqa_m (List.mem_of_getElem? (i := 7) rfl))))))) rfl : Cond.methodLink RX10 315 yX3_putInPlace ∈ lw_g) (lwq_5 (dqc_m (dqc_m (dqc_m (dqc_m (dqc_m (dqa_m (dqa_m (List.mem_of_getElem? (i := 0) rfl)))))))) rfl : Cond.instanceMethod yX3_putInPlace ∈ lw_g) (lwq_5 (dqc_m (dqc_m (dqc_m (dqc_m (dqc_m (dqa_m (dqa_m (List.mem_of_getElem? (i := 1) rfl)))))))) rfl : Cond.selects yX3_putInPlace.cls yX3_putInPlace yX3_putInPlace ∈ lw_g) (lwq_1 (dqa_m (dqa_m (List.mem_of_getElem? (i := 2) rfl))) rfl : Cond.initialized yX3_putInPlace.cls ∈ lw_g) (lwq_5 (dqc_m (dqc_m (dqc_m (dqc_m (dqc_m (dqa_m (dqa_m (List.mem_of_getElem? (i := 2) rfl)))))))) rfl : Cond.code yX3_putInPlace cX3_putInPlace 6 none ∈ lw_g), ⟨nmh_3.1, nmh_3.2, pdq_6⟩, ⟨_, _, rfl⟩⟩
set_option maxRecDepth 100000 in
theorem cl_X10_302 : cv_ RX10 302 yX3_runAnew zX3_runAnew 3 0 := ⟨gi_V (lwq_5 (dqc_m (dqc_m (dqc_m (dqc_m (dqa_m (dqa_m (dqa_m (List.mem_of_getElem? (i := 5) rfl)))))))) rfl : Cond.methodLink RX10 302 yX3_runAnew ∈ lw_g) (lwq_5 (dqc_m (dqc_m (dqc_m (dqc_m (dqa_m (dqa_m (dqa_m (List.mem_of_getElem? (i := 6) rfl)))))))) rfl : Cond.instanceMethod yX3_runAnew ∈ lw_g) (lwq_5 (dqc_m (dqc_m (dqc_m (dqc_m (dqa_m (dqa_m (dqa_m (List.mem_of_getElem? (i := 7) rfl)))))))) rfl : Cond.selects yX3_runAnew.cls yX3_runAnew yX3_runAnew ∈ lw_g) (lwq_1 (dqa_m (dqa_m (List.mem_of_getElem? (i := 2) rfl))) rfl : Cond.initialized yX3_runAnew.cls ∈ lw_g) (lwq_5 (dqc_m (dqc_m (dqc_m (dqc_m (dqc_m (List.mem_of_getElem? (i := 0) rfl)))))) rfl : Cond.code yX3_runAnew cX3_runAnew 8 (some .int) ∈ lw_g), ⟨nmh_3.1, nmh_3.2, pdq_17⟩, ⟨_, _, rfl⟩⟩
set_option maxRecDepth 100000 in
theorem cl_X10_298 : cv_ RX10 298 yX3_takeOut zX3_takeOut 3 1 := ⟨gi_V (lwq_5 (dqc_m (dqc_m (dqc_m (dqc_m (dqa_m (dqa_m (dqa_m (List.mem_of_getElem? (i := 1) rfl)))))))) rfl : Cond.methodLink RX10 298 yX3_takeOut ∈ lw_g) (lwq_5 (dqc_m (dqc_m (dqc_m (dqc_m (dqa_m (dqa_m (dqa_m (List.mem_of_getElem? (i := 2) rfl)))))))) rfl : Cond.instanceMethod yX3_takeOut ∈ lw_g) (lwq_5 (dqc_m (dqc_m (dqc_m (dqc_m (dqa_m (dqa_m (dqa_m (List.mem_of_getElem? (i := 3) rfl)))))))) rfl : Cond.selects yX3_takeOut.cls yX3_takeOut yX3_takeOut ∈ lw_g) (lwq_1 (dqa_m (dqa_m (List.mem_of_getElem? (i := 2) rfl))) rfl : Cond.initialized yX3_takeOut.cls ∈ lw_g) (lwq_5 (dqc_m (dqc_m (dqc_m (dqc_m (dqa_m (dqa_m (dqa_m (List.mem_of_getElem? (i := 4) rfl)))))))) rfl : Cond.code yX3_takeOut cX3_takeOut 3 none ∈ lw_g), ⟨nmh_3.1, nmh_3.2, pdq_9⟩, ⟨_, _, rfl⟩⟩
abbrev po_X10_review (T : Zt) (N : Int) (m i k s a b : Int) : Zt → Option Zv → Prop := fun T' r => ∃ x : Int, r = some (vI x) ∧ fr_ [(103, [3, 4, 5, 15, 16, 17]), (466, []), (467, []), (468, []), (469, []), (472, []), (473, []), (470, []), (471, []), (190, []), (191, [0])] T T' ∧ LP_ (N + 1) T' ∧ lh_ T T' ∧ T' 191 0 0 ≤ T 191 0 0 + 600
abbrev cX10_row : ByteArray := prog_1_method_26_code
def yX10_row : MethodName := ⟨RX10, "row", "(III)I"⟩
def zX10_row : Zm := (RX10, cX10_row, 7, (some .int), { frames := 2, cells := 0, slots := 0, locals := 42 })
theorem bk_X10_row_0 : ck_ fX10 (some .int) cX10_row 0 [.aload 0, .iload 1] 2 = true := qck_r (nn_ _) (by decide +kernel)
theorem bs_X10_row_0 {P : Zt → Option Zv → Prop} (K : Int → Zl → List Zv → Zt → Prop) : sx_ K P [.aload 0, .iload 1] 2 = x_aload 0 (x_iload 1 (K 2)) := ((xe_aload 0).trans (congrArg (x_aload 0) ((xe_iload 1).trans (congrArg (x_iload 1) xe_nil))))
theorem bk_X10_row_5 : ck_ fX10 (some .int) cX10_row 5 [.ifCond .ne 11, .iconst (-2), .ireturn] 11 = true := qck_r (nn_ _) (by decide +kernel)
theorem bs_X10_row_5 {P : Zt → Option Zv → Prop} (K : Int → Zl → List Zv → Zt → Prop) : sx_ K P [.ifCond .ne 11, .iconst (-2), .ireturn] 11 = x_ifCond .ne 11 K (x_iconst (-2) (x_ireturn P)) := ((xe_ifCond .ne 11).trans (congrArg (x_ifCond .ne 11 K) ((xe_iconst (-2)).trans (congrArg (x_iconst (-2)) (xe_ireturn)))))
theorem bk_X10_row_11 : ck_ fX10 (some .int) cX10_row 11 [.aload 0, .tableswitch 0 10 2 #[], .tableswitch 0 6 3 #[], .iload 1, .aaload, .tableswitch 0 2 10 #[], .astore 4, .aload 4, .ifnonnull 33, .iconst (-2), .ireturn] 33 = true := qck_r (nn_ _) (by decide +kernel)
theorem bs_X10_row_11 {P : Zt → Option Zv → Prop} (K : Int → Zl → List Zv → Zt → Prop) : sx_ K P [.aload 0, .tableswitch 0 10 2 #[], .tableswitch 0 6 3 #[], .iload 1, .aaload, .tableswitch 0 2 10 #[], .astore 4, .aload 4, .ifnonnull 33, .iconst (-2), .ireturn] 33 = x_aload 0 (x_g1 110 106 (x_g1 106 523 (x_iload 1 (x_aaload (x_g4 102 103 10 (x_astore 4 (x_aload 4 (x_ifnonnull 33 K (x_iconst (-2) (x_ireturn P)))))))))) := ((xe_aload 0).trans (congrArg (x_aload 0) ((xe_g1 (kk := 110) rfl tl_10_2).trans (congrArg (x_g1 110 106) ((xe_g1 (kk := 106) rfl tl_6_3).trans (congrArg (x_g1 106 523) ((xe_iload 1).trans (congrArg (x_iload 1) ((xe_aaload).trans (congrArg (x_aaload) ((xe_g4 (kk := 102) rfl tl_2_10).trans (congrArg (x_g4 102 103 10) ((xe_astore 4).trans (congrArg (x_astore 4) ((xe_aload 4).trans (congrArg (x_aload 4) ((xe_ifnonnull 33).trans (congrArg (x_ifnonnull 33 K) ((xe_iconst (-2)).trans (congrArg (x_iconst (-2)) (xe_ireturn)))))))))))))))))))))
theorem bk_X10_row_33 : ck_ fX10 (some .int) cX10_row 33 [.iload 2, .aload 4, .tableswitch 0 3 15 #[]] 39 = true := qck_r (nn_ _) (by decide +kernel)
theorem bs_X10_row_33 {P : Zt → Option Zv → Prop} (K : Int → Zl → List Zv → Zt → Prop) : sx_ K P [.iload 2, .aload 4, .tableswitch 0 3 15 #[]] 39 = x_iload 2 (x_aload 4 (x_g0 103 15 0 3000 (K 39))) := ((xe_iload 2).trans (congrArg (x_iload 2) ((xe_aload 4).trans (congrArg (x_aload 4) ((xe_g0 (kk := 103) rfl tl_3_15).trans (congrArg (x_g0 103 15 0 3000) xe_nil))))))
theorem bk_X10_row_42 : ck_ fX10 (some .int) cX10_row 42 [.istore 5, .iload 2, .aload 4, .tableswitch 0 3 17 #[]] 50 = true := qck_r (nn_ _) (by decide +kernel)
theorem bs_X10_row_42 {P : Zt → Option Zv → Prop} (K : Int → Zl → List Zv → Zt → Prop) : sx_ K P [.istore 5, .iload 2, .aload 4, .tableswitch 0 3 17 #[]] 50 = x_istore 5 (x_iload 2 (x_aload 4 (x_g0 103 17 0 3000 (K 50)))) := ((xe_istore 5).trans (congrArg (x_istore 5) ((xe_iload 2).trans (congrArg (x_iload 2) ((xe_aload 4).trans (congrArg (x_aload 4) ((xe_g0 (kk := 103) rfl tl_3_17).trans (congrArg (x_g0 103 17 0 3000) xe_nil))))))))
theorem bk_X10_row_53 : ck_ fX10 (some .int) cX10_row 53 [.istore 6, .iload 3, .ifCond .lt 65, .iload 3, .iconst 7, .if_icmp .le 83, .iload 5, .ifCond .ne 75, .iload 6, .ifCond .eq 80, .iconst (-3), .goto 82] 80 = true := qck_r (nn_ _) (by decide +kernel)
theorem bs_X10_row_53 {P : Zt → Option Zv → Prop} (K : Int → Zl → List Zv → Zt → Prop) : sx_ K P [.istore 6, .iload 3, .ifCond .lt 65, .iload 3, .iconst 7, .if_icmp .le 83, .iload 5, .ifCond .ne 75, .iload 6, .ifCond .eq 80, .iconst (-3), .goto 82] 80 = x_istore 6 (x_iload 3 (x_ifCond .lt 65 K (x_iload 3 (x_iconst 7 (x_if_icmp .le 83 K (x_iload 5 (x_ifCond .ne 75 K (x_iload 6 (x_ifCond .eq 80 K (x_iconst (-3) (x_goto 82 K))))))))))) := ((xe_istore 6).trans (congrArg (x_istore 6) ((xe_iload 3).trans (congrArg (x_iload 3) ((xe_ifCond .lt 65).trans (congrArg (x_ifCond .lt 65 K) ((xe_iload 3).trans (congrArg (x_iload 3) ((xe_iconst 7).trans (congrArg (x_iconst 7) ((xe_if_icmp .le 83).trans (congrArg (x_if_icmp .le 83 K) ((xe_iload 5).trans (congrArg (x_iload 5) ((xe_ifCond .ne 75).trans (congrArg (x_ifCond .ne 75 K) ((xe_iload 6).trans (congrArg (x_iload 6) ((xe_ifCond .eq 80).trans (congrArg (x_ifCond .eq 80 K) ((xe_iconst (-3)).trans (congrArg (x_iconst (-3)) (xe_goto 82)))))))))))))))))))))))
theorem bk_X10_row_65 : ck_ fX10 (some .int) cX10_row 65 [.iload 5, .ifCond .ne 75, .iload 6, .ifCond .eq 80, .iconst (-3), .goto 82] 80 = true := qck_r (nn_ _) (by decide +kernel)
theorem bs_X10_row_65 {P : Zt → Option Zv → Prop} (K : Int → Zl → List Zv → Zt → Prop) : sx_ K P [.iload 5, .ifCond .ne 75, .iload 6, .ifCond .eq 80, .iconst (-3), .goto 82] 80 = x_iload 5 (x_ifCond .ne 75 K (x_iload 6 (x_ifCond .eq 80 K (x_iconst (-3) (x_goto 82 K))))) := ((xe_iload 5).trans (congrArg (x_iload 5) ((xe_ifCond .ne 75).trans (congrArg (x_ifCond .ne 75 K) ((xe_iload 6).trans (congrArg (x_iload 6) ((xe_ifCond .eq 80).trans (congrArg (x_ifCond .eq 80 K) ((xe_iconst (-3)).trans (congrArg (x_iconst (-3)) (xe_goto 82)))))))))))
theorem bk_X10_row_75 : ck_ fX10 (some .int) cX10_row 75 [.iconst (-3), .goto 82] 80 = true := qck_r (nn_ _) (by decide +kernel)
theorem bs_X10_row_75 {P : Zt → Option Zv → Prop} (K : Int → Zl → List Zv → Zt → Prop) : sx_ K P [.iconst (-3), .goto 82] 80 = x_iconst (-3) (x_goto 82 K) := ((xe_iconst (-3)).trans (congrArg (x_iconst (-3)) (xe_goto 82)))
theorem bk_X10_row_82 : ck_ fX10 (some .int) cX10_row 82 [.ireturn] 83 = true := qck_r (nn_ _) (by decide +kernel)
theorem bs_X10_row_82 {P : Zt → Option Zv → Prop} (K : Int → Zl → List Zv → Zt → Prop) : sx_ K P [.ireturn] 83 = x_ireturn P := (xe_ireturn)
theorem bk_X10_row_80 : ck_ fX10 (some .int) cX10_row 80 [.iconst (-2), .ireturn] 83 = true := qck_r (nn_ _) (by decide +kernel)
theorem bs_X10_row_80 {P : Zt → Option Zv → Prop} (K : Int → Zl → List Zv → Zt → Prop) : sx_ K P [.iconst (-2), .ireturn] 83 = x_iconst (-2) (x_ireturn P) := ((xe_iconst (-2)).trans (congrArg (x_iconst (-2)) (xe_ireturn)))
theorem bk_X10_row_83 : ck_ fX10 (some .int) cX10_row 83 [.iload 3, .iconst 4, .if_icmp .ge 110, .iload 5, .ifCond .eq 107, .aload 4, .tableswitch 0 3 14 #[], .iload 2, .iconst 4, .imul, .iload 3, .iadd, .iaload, .goto 109] 107 = true := qck_r (nn_ _) (by decide +kernel)
theorem bs_X10_row_83 {P : Zt → Option Zv → Prop} (K : Int → Zl → List Zv → Zt → Prop) : sx_ K P [.iload 3, .iconst 4, .if_icmp .ge 110, .iload 5, .ifCond .eq 107, .aload 4, .tableswitch 0 3 14 #[], .iload 2, .iconst 4, .imul, .iload 3, .iadd, .iaload, .goto 109] 107 = x_iload 3 (x_iconst 4 (x_if_icmp .ge 110 K (x_iload 5 (x_ifCond .eq 107 K (x_aload 4 (x_g3 103 190 14 (x_iload 2 (x_iconst 4 (x_imul (x_iload 3 (x_iadd (x_iaload (x_goto 109 K))))))))))))) := ((xe_iload 3).trans (congrArg (x_iload 3) ((xe_iconst 4).trans (congrArg (x_iconst 4) ((xe_if_icmp .ge 110).trans (congrArg (x_if_icmp .ge 110 K) ((xe_iload 5).trans (congrArg (x_iload 5) ((xe_ifCond .eq 107).trans (congrArg (x_ifCond .eq 107 K) ((xe_aload 4).trans (congrArg (x_aload 4) ((xe_g3 (kk := 103) rfl tl_3_14).trans (congrArg (x_g3 103 190 14) ((xe_iload 2).trans (congrArg (x_iload 2) ((xe_iconst 4).trans (congrArg (x_iconst 4) ((xe_imul).trans (congrArg (x_imul) ((xe_iload 3).trans (congrArg (x_iload 3) ((xe_iadd).trans (congrArg (x_iadd) ((xe_iaload).trans (congrArg (x_iaload) (xe_goto 109)))))))))))))))))))))))))))
theorem bk_X10_row_110 : ck_ fX10 (some .int) cX10_row 110 [.iload 6, .ifCond .eq 131, .aload 4, .tableswitch 0 3 16 #[], .iload 2, .iconst 4, .imul, .iload 3, .iadd, .iconst 4, .isub, .iaload, .goto 133] 131 = true := qck_r (nn_ _) (by decide +kernel)
theorem bs_X10_row_110 {P : Zt → Option Zv → Prop} (K : Int → Zl → List Zv → Zt → Prop) : sx_ K P [.iload 6, .ifCond .eq 131, .aload 4, .tableswitch 0 3 16 #[], .iload 2, .iconst 4, .imul, .iload 3, .iadd, .iconst 4, .isub, .iaload, .goto 133] 131 = x_iload 6 (x_ifCond .eq 131 K (x_aload 4 (x_g3 103 190 16 (x_iload 2 (x_iconst 4 (x_imul (x_iload 3 (x_iadd (x_iconst 4 (x_isub (x_iaload (x_goto 133 K)))))))))))) := ((xe_iload 6).trans (congrArg (x_iload 6) ((xe_ifCond .eq 131).trans (congrArg (x_ifCond .eq 131 K) ((xe_aload 4).trans (congrArg (x_aload 4) ((xe_g3 (kk := 103) rfl tl_3_16).trans (congrArg (x_g3 103 190 16) ((xe_iload 2).trans (congrArg (x_iload 2) ((xe_iconst 4).trans (congrArg (x_iconst 4) ((xe_imul).trans (congrArg (x_imul) ((xe_iload 3).trans (congrArg (x_iload 3) ((xe_iadd).trans (congrArg (x_iadd) ((xe_iconst 4).trans (congrArg (x_iconst 4) ((xe_isub).trans (congrArg (x_isub) ((xe_iaload).trans (congrArg (x_iaload) (xe_goto 133)))))))))))))))))))))))))
theorem bk_X10_row_131 : ck_ fX10 (some .int) cX10_row 131 [.iconst (-2), .ireturn] 134 = true := qck_r (nn_ _) (by decide +kernel)
theorem bs_X10_row_131 {P : Zt → Option Zv → Prop} (K : Int → Zl → List Zv → Zt → Prop) : sx_ K P [.iconst (-2), .ireturn] 134 = x_iconst (-2) (x_ireturn P) := ((xe_iconst (-2)).trans (congrArg (x_iconst (-2)) (xe_ireturn)))
theorem bk_X10_row_133 : ck_ fX10 (some .int) cX10_row 133 [.ireturn] 134 = true := qck_r (nn_ _) (by decide +kernel)
theorem bs_X10_row_133 {P : Zt → Option Zv → Prop} (K : Int → Zl → List Zv → Zt → Prop) : sx_ K P [.ireturn] 134 = x_ireturn P := (xe_ireturn)
theorem bk_X10_row_107 : ck_ fX10 (some .int) cX10_row 107 [.iconst (-2), .ireturn] 110 = true := qck_r (nn_ _) (by decide +kernel)
theorem bs_X10_row_107 {P : Zt → Option Zv → Prop} (K : Int → Zl → List Zv → Zt → Prop) : sx_ K P [.iconst (-2), .ireturn] 110 = x_iconst (-2) (x_ireturn P) := ((xe_iconst (-2)).trans (congrArg (x_iconst (-2)) (xe_ireturn)))
theorem bk_X10_row_109 : ck_ fX10 (some .int) cX10_row 109 [.ireturn] 110 = true := qck_r (nn_ _) (by decide +kernel)
theorem bs_X10_row_109 {P : Zt → Option Zv → Prop} (K : Int → Zl → List Zv → Zt → Prop) : sx_ K P [.ireturn] 110 = x_ireturn P := (xe_ireturn)
abbrev po_X10_row (T : Zt) (N : Int) (m i w : Int) : Zt → Option Zv → Prop := fun T' r => T = T' ∧ ∃ x : Int, r = some (vI x) ∧ (True)
set_option maxHeartbeats 4000000 in
theorem ct_X10_row {T : Zt} {N : Int} {m i w : Int} (hka : KA_ T) (hkm : KM_ T) (hkr : KR_ T) (hlp : LP_ N T) (hN : 0 ≤ N ∧ N ≤ 511) (h9 : 0 ≤ T 191 0 0 ∧ T 191 0 0 ≤ 900000000) : Ct_ yX10_row zX10_row T [vR 110 0, vI m, vI i, vI w] (po_X10_row T N m i w) := by
  refine ct_of pn_10 rfl rfl (Nat.le_of_ble_eq_true rfl) (fun hT hav => ?_)
  have hr_m : -2147483648 ≤ m ∧ m ≤ 2147483647 := hav (vI m) (List.mem_cons_of_mem _ List.mem_cons_self)
  have hr_i : -2147483648 ≤ i ∧ i ≤ 2147483647 := hav (vI i) (List.mem_cons_of_mem _ (List.mem_cons_of_mem _ List.mem_cons_self))
  have hr_w : -2147483648 ≤ w ∧ w ≤ 2147483647 := hav (vI w) (List.mem_cons_of_mem _ (List.mem_cons_of_mem _ (List.mem_cons_of_mem _ List.mem_cons_self)))
  have hz : zX10_row.2.2.2.1 = some .boolean → ∀ (T' : Zt) (x : Int), po_X10_row T N m i w T' (some (vI x)) → 0 ≤ x ∧ x ≤ 1 := fun h => by cases h
  have hb_matchCount : 0 ≤ T 106 0 4 ∧ T 106 0 4 ≤ 400 := bd_f hT 106 4 tl_6_4 0
  show J_ zX10_row T (po_X10_row T N m i w) 0 0 0 [some (vR 110 0), some (vI m), some (vI i), some (vI w), none, none, none] [] T
  refine j_blx (F := fX10) tb_X10 (nn_ _) bk_X10_row_0 bs_X10_row_0 hz (fun K hK => ?_)
  refine hK 2 _ [vI m, vR 110 0] T ?_
  refine j_callV (y := yX10_isMatch) (Yc := zX10_isMatch) (rest := []) [vI m] (ct_X10_isMatch (T := T)) cl_X10_195 (qd_c (by decide +kernel)) (nn_ _) rfl (rf_of rfl) (Nat.le_of_ble_eq_true rfl) (Nat.le_of_ble_eq_true rfl) (Nat.le_of_ble_eq_true rfl) rfl ?_
  rintro _ _ ⟨rfl, x1, rfl, hx1⟩
  show J_ zX10_row T (po_X10_row T N m i w) 0 0 5 _ [vI x1] T
  refine j_blx (F := fX10) tb_X10 (nn_ _) bk_X10_row_5 bs_X10_row_5 hz (fun K hK => ?_)
  refine And.intro (fun c2 => ?_) (fun c2 => ?_)
  · replace hx1 := hx1.resolve_right (fun z => c2 z.1)
    clear c2
    refine hK 11 _ [] T ?_
    refine j_blx (F := fX10) tb_X10 (nn_ _) bk_X10_row_11 bs_X10_row_11 hz (fun K hK => ?_)
    refine ix_i (by omega) ?_
    refine And.intro (fun c3 => ?_) (fun c3 => ?_)
    · exact absurd (show T 523 0 (m) = 0 by omega) (hka.2 _ (by omega) (by omega))
    · refine And.intro (fun c4 => ?_) (fun c4 => ?_)
      · refine (show po_X10_row T N m i w T (some (vI (-2))) from ?_)
        exact ⟨rfl, _, rfl, by trivial⟩
      · have hl := hlp m (by omega) (by omega) (by omega)
        obtain ⟨⟨a1, a2, a3, a4, a5, a6, a7, a8, a9⟩, b1, b2, b3⟩ := hl
        have hr := hkr _ a8 a9
        have z1 := lz_b b1
        have z2 := lz_b b2
        have g14 : (-2147483648) ≤ T 103 m 14 ∧ T 103 m 14 ≤ 2147483647 := bd_f hT 103 14 tl_3_14 m
        have g16 : (-2147483648) ≤ T 103 m 16 ∧ T 103 m 16 ≤ 2147483647 := bd_f hT 103 16 tl_3_16 m
        refine hK 33 [some (vR 110 0), some (vI m), some (vI i), some (vI w), some (vR 103 m), none, none] [] T ?_
        refine j_blx (F := fX10) tb_X10 (nn_ _) bk_X10_row_33 bs_X10_row_33 hz (fun K hK => ?_)
        intro b5 b5b
        refine hK 39 _ [vI (T 103 m 15), vI i] T ?_
        refine j_callS (y := yX10_isBelow) (Yc := zX10_isBelow) (rest := []) [vI i, vI (T 103 m 15)] (ct_X10_isBelow (T := T)) cl_X10_115 (qd_c (by decide +kernel)) (nn_ _) rfl (rf_of rfl) (Nat.le_of_ble_eq_true rfl) (Nat.le_of_ble_eq_true rfl) (Nat.le_of_ble_eq_true rfl) rfl ?_
        rintro _ _ ⟨rfl, x6, rfl, hx6⟩
        show J_ zX10_row T (po_X10_row T N m i w) 0 0 42 _ [vI x6] T
        refine j_blx (F := fX10) tb_X10 (nn_ _) bk_X10_row_42 bs_X10_row_42 hz (fun K hK => ?_)
        intro b7 b7b
        refine hK 50 [some (vR 110 0), some (vI m), some (vI i), some (vI w), some (vR 103 m), some (vI x6), none] [vI (T 103 m 17), vI i] T ?_
        refine j_callS (y := yX10_isBelow) (Yc := zX10_isBelow) (rest := []) [vI i, vI (T 103 m 17)] (ct_X10_isBelow (T := T)) cl_X10_115 (qd_c (by decide +kernel)) (nn_ _) rfl (rf_of rfl) (Nat.le_of_ble_eq_true rfl) (Nat.le_of_ble_eq_true rfl) (Nat.le_of_ble_eq_true rfl) rfl ?_
        rintro _ _ ⟨rfl, x8, rfl, hx8⟩
        show J_ zX10_row T (po_X10_row T N m i w) 0 0 53 _ [vI x8] T
        refine j_blx (F := fX10) tb_X10 (nn_ _) bk_X10_row_53 bs_X10_row_53 hz (fun K hK => ?_)
        refine And.intro (fun c9 => ?_) (fun c9 => ?_)
        · refine hK 65 [some (vR 110 0), some (vI m), some (vI i), some (vI w), some (vR 103 m), some (vI x6), some (vI x8)] [] T ?_
          refine j_blx (F := fX10) tb_X10 (nn_ _) bk_X10_row_65 bs_X10_row_65 hz (fun K hK => ?_)
          refine And.intro (fun c10 => ?_) (fun c10 => ?_)
          · refine hK 75 _ [] T ?_
            refine j_blx (F := fX10) tb_X10 (nn_ _) bk_X10_row_75 bs_X10_row_75 hz (fun K hK => ?_)
            refine hK 82 _ [vI (-3)] T ?_
            refine j_blx (F := fX10) tb_X10 (nn_ _) bk_X10_row_82 bs_X10_row_82 hz (fun K hK => ?_)
            refine (show po_X10_row T N m i w T (some (vI (-3))) from ?_)
            exact ⟨rfl, _, rfl, by trivial⟩
          · refine And.intro (fun c11 => ?_) (fun c11 => ?_)
            · refine hK 80 _ [] T ?_
              refine j_blx (F := fX10) tb_X10 (nn_ _) bk_X10_row_80 bs_X10_row_80 hz (fun K hK => ?_)
              refine (show po_X10_row T N m i w T (some (vI (-2))) from ?_)
              exact ⟨rfl, _, rfl, by trivial⟩
            · refine hK 82 _ [vI (-3)] T ?_
              refine j_blx (F := fX10) tb_X10 (nn_ _) bk_X10_row_82 bs_X10_row_82 hz (fun K hK => ?_)
              refine (show po_X10_row T N m i w T (some (vI (-3))) from ?_)
              exact ⟨rfl, _, rfl, by trivial⟩
        · refine And.intro (fun c12 => ?_) (fun c12 => ?_)
          · refine hK 83 _ [] T ?_
            refine j_blx (F := fX10) tb_X10 (nn_ _) bk_X10_row_83 bs_X10_row_83 hz (fun K hK => ?_)
            refine And.intro (fun c13 => ?_) (fun c13 => ?_)
            · refine hK 110 _ [] T ?_
              refine j_blx (F := fX10) tb_X10 (nn_ _) bk_X10_row_110 bs_X10_row_110 hz (fun K hK => ?_)
              refine And.intro (fun c14 => ?_) (fun c14 => ?_)
              · refine hK 131 _ [] T ?_
                refine j_blx (F := fX10) tb_X10 (nn_ _) bk_X10_row_131 bs_X10_row_131 hz (fun K hK => ?_)
                refine (show po_X10_row T N m i w T (some (vI (-2))) from ?_)
                exact ⟨rfl, _, rfl, by trivial⟩
              · refine rg_i (by omega) ?_
                refine rg_i (by omega) ?_
                refine rg_i (by omega) ?_
                refine ix_i (by omega) ?_
                intro b16 b16b
                refine hK 133 _ [vI (T 190 (T 103 m 16) (((i * 4) + w) - 4))] T ?_
                refine j_blx (F := fX10) tb_X10 (nn_ _) bk_X10_row_133 bs_X10_row_133 hz (fun K hK => ?_)
                refine (show po_X10_row T N m i w T (some (vI (T 190 (T 103 m 16) (((i * 4) + w) - 4)))) from ?_)
                exact ⟨rfl, _, rfl, by trivial⟩
            · refine And.intro (fun c17 => ?_) (fun c17 => ?_)
              · refine hK 107 _ [] T ?_
                refine j_blx (F := fX10) tb_X10 (nn_ _) bk_X10_row_107 bs_X10_row_107 hz (fun K hK => ?_)
                refine (show po_X10_row T N m i w T (some (vI (-2))) from ?_)
                exact ⟨rfl, _, rfl, by trivial⟩
              · refine rg_i (by omega) ?_
                refine rg_i (by omega) ?_
                refine ix_i (by omega) ?_
                intro b19 b19b
                refine hK 109 _ [vI (T 190 (T 103 m 14) ((i * 4) + w))] T ?_
                refine j_blx (F := fX10) tb_X10 (nn_ _) bk_X10_row_109 bs_X10_row_109 hz (fun K hK => ?_)
                refine (show po_X10_row T N m i w T (some (vI (T 190 (T 103 m 14) ((i * 4) + w)))) from ?_)
                exact ⟨rfl, _, rfl, by trivial⟩
          · refine And.intro (fun c20 => ?_) (fun c20 => ?_)
            · refine hK 75 _ [] T ?_
              refine j_blx (F := fX10) tb_X10 (nn_ _) bk_X10_row_75 bs_X10_row_75 hz (fun K hK => ?_)
              refine hK 82 _ [vI (-3)] T ?_
              refine j_blx (F := fX10) tb_X10 (nn_ _) bk_X10_row_82 bs_X10_row_82 hz (fun K hK => ?_)
              refine (show po_X10_row T N m i w T (some (vI (-3))) from ?_)
              exact ⟨rfl, _, rfl, by trivial⟩
            · refine And.intro (fun c21 => ?_) (fun c21 => ?_)
              · refine hK 80 _ [] T ?_
                refine j_blx (F := fX10) tb_X10 (nn_ _) bk_X10_row_80 bs_X10_row_80 hz (fun K hK => ?_)
                refine (show po_X10_row T N m i w T (some (vI (-2))) from ?_)
                exact ⟨rfl, _, rfl, by trivial⟩
              · refine hK 82 _ [vI (-3)] T ?_
                refine j_blx (F := fX10) tb_X10 (nn_ _) bk_X10_row_82 bs_X10_row_82 hz (fun K hK => ?_)
                refine (show po_X10_row T N m i w T (some (vI (-3))) from ?_)
                exact ⟨rfl, _, rfl, by trivial⟩
  · replace hx1 := hx1.resolve_left (fun z => absurd (c2.symm.trans z.1) (by decide))
    clear c2
    refine (show po_X10_row T N m i w T (some (vI (-2))) from ?_)
    exact ⟨rfl, _, rfl, by trivial⟩
