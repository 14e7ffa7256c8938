abbrev cX5_isBetween : ByteArray := prog_7_method_13_code
def yX5_isBetween : MethodName := ⟨RX5, "isBetween", "(III)Z"⟩
def zX5_isBetween : Zm := (RX5, cX5_isBetween, 4, (some .boolean), { frames := 0, cells := 0, slots := 0, locals := 0 })
theorem bk_X5_isBetween_0 : ck_ fX5 (some .boolean) cX5_isBetween 0 [.aload 0, .tableswitch 0 5 0 #[], .iload 1, .iaload, .iload 2, .if_icmp .lt 24, .aload 0, .tableswitch 0 5 0 #[], .iload 1, .iaload, .iload 3, .if_icmp .gt 24, .iconst 1, .goto 25] 24 = true := qck_s _ _ _ _ (by decide) rfl (by decide +kernel)
theorem bk_X5_isBetween_24 : ck_ fX5 (some .boolean) cX5_isBetween 24 [.iconst 0, .ireturn] 26 = true := qck_s _ _ _ _ (by decide) rfl (by decide +kernel)
theorem bk_X5_isBetween_25 : ck_ fX5 (some .boolean) cX5_isBetween 25 [.ireturn] 26 = true := qck_s _ _ _ _ (by decide) rfl (by decide +kernel)
abbrev cX5_takeRun : ByteArray := prog_7_method_12_code
def yX5_takeRun : MethodName := ⟨RX5, "takeRun", "(IIII)V"⟩
def zX5_takeRun : Zm := (RX5, cX5_takeRun, 5, none, { frames := 1, cells := 0, slots := 0, locals := 23 })
theorem bk_X5_takeRun_0 : ck_ fX5 none cX5_takeRun 0 [.aload 0, .tableswitch 0 5 9 #[], .aload 0, .tableswitch 0 5 1 #[], .if_icmp .ge 37, .aload 0, .aload 0, .tableswitch 0 5 9 #[], .iload 1, .iload 2] 18 = true := qck_s _ _ _ _ (by decide) rfl (by decide +kernel)
theorem bk_X5_takeRun_37 : ck_ fX5 none cX5_takeRun 37 [.aload 0, .aload 0, .tableswitch 0 5 9 #[], .aload 0, .tableswitch 0 5 8 #[], .isub, .iload 4, .if_icmp .le 56, .iconst 5, .goto 57] 56 = true := qck_s _ _ _ _ (by decide) rfl (by decide +kernel)
theorem bk_X5_takeRun_56 : ck_ fX5 none cX5_takeRun 56 [.iload 3, .tableswitch 1 5 7 #[], .return_] 61 = true := qck_s _ _ _ _ (by decide) rfl (by decide +kernel)
theorem bk_X5_takeRun_57 : ck_ fX5 none cX5_takeRun 57 [.tableswitch 1 5 7 #[], .return_] 61 = true := qck_s _ _ _ _ (by decide) rfl (by decide +kernel)
set_option maxRecDepth 100000 in
theorem cl_X5_104 : cv_ RX5 104 yX5_isBetween zX5_isBetween 5 3 := ⟨gi_V (lw_b2 210 (by decide +kernel) rfl : Cond.methodLink RX5 104 yX5_isBetween ∈ lw_g) (lw_b2 212 (by decide +kernel) rfl : Cond.instanceMethod yX5_isBetween ∈ lw_g) (lw_sel 109 rfl : Cond.selects yX5_isBetween.cls yX5_isBetween yX5_isBetween ∈ lw_g) (lw_b1 2 (by decide +kernel) rfl : Cond.initialized yX5_isBetween.cls ∈ lw_g) (lw_b2 213 rfl rfl : Cond.code yX5_isBetween cX5_isBetween 4 (some .boolean) ∈ lw_g), ⟨by decide, by decide, by decide +kernel⟩, ⟨_, _, rfl⟩⟩
theorem bk_X5_takeRun_21 : ck_ fX5 none cX5_takeRun 21 [.ifCond .eq 37, .aload 0, .dup, .tableswitch 0 5 9 #[], .iconst 1, .iadd, .tableswitch 1 5 9 #[], .goto 0] 37 = true := qck_s _ _ _ _ (by decide) rfl (by decide +kernel)
abbrev cX5_nextToken : ByteArray := prog_7_method_11_code
def yX5_nextToken : MethodName := ⟨RX5, "nextToken", "()V"⟩
def zX5_nextToken : Zm := (RX5, cX5_nextToken, 2, none, { frames := 2, cells := 0, slots := 0, locals := 47 })
theorem bk_X5_nextToken_5 : ck_ fX5 none cX5_nextToken 5 [.iload 1, .aload 0, .tableswitch 0 5 1 #[], .if_icmp .ge 41, .aload 0, .tableswitch 0 5 0 #[], .iload 1, .iaload, .iconst 10, .if_icmp .eq 35, .aload 0, .tableswitch 0 5 0 #[], .iload 1, .iaload, .iconst 32, .if_icmp .ne 41, .iinc 1 1, .goto 5] 41 = true := qck_s _ _ _ _ (by decide) rfl (by decide +kernel)
theorem bk_X5_nextToken_41 : ck_ fX5 none cX5_nextToken 41 [.aload 0, .iload 1, .tableswitch 1 5 8 #[], .aload 0, .iload 1, .tableswitch 1 5 9 #[], .iload 1, .aload 0, .tableswitch 0 5 1 #[], .if_icmp .lt 67, .aload 0, .iconst 0, .tableswitch 1 5 7 #[], .goto 160] 67 = true := qck_s _ _ _ _ (by decide) rfl (by decide +kernel)
theorem bk_X5_nextToken_67 : ck_ fX5 none cX5_nextToken 67 [.aload 0, .iload 1, .iconst 97, .iconst 122] 73 = true := qck_s _ _ _ _ (by decide) rfl (by decide +kernel)
theorem bk_X5_nextToken_76 : ck_ fX5 none cX5_nextToken 76 [.ifCond .eq 93, .aload 0, .iconst 97, .iconst 122, .iconst 1, .iconst 12] 87 = true := qck_s _ _ _ _ (by decide) rfl (by decide +kernel)
theorem bk_X5_nextToken_93 : ck_ fX5 none cX5_nextToken 93 [.aload 0, .iload 1, .iconst 48, .iconst 57] 99 = true := qck_s _ _ _ _ (by decide) rfl (by decide +kernel)
theorem bk_X5_nextToken_102 : ck_ fX5 none cX5_nextToken 102 [.ifCond .eq 118, .aload 0, .iconst 48, .iconst 57, .iconst 2, .iconst 3] 112 = true := qck_s _ _ _ _ (by decide) rfl (by decide +kernel)
theorem bk_X5_nextToken_118 : ck_ fX5 none cX5_nextToken 118 [.aload 0, .iload 1, .iconst 1, .iadd, .tableswitch 1 5 9 #[], .aload 0, .aload 0, .tableswitch 0 5 0 #[], .iload 1, .iaload, .iconst 59, .if_icmp .ne 141, .iconst 3, .goto 157] 141 = true := qck_s _ _ _ _ (by decide) rfl (by decide +kernel)
theorem bk_X5_nextToken_141 : ck_ fX5 none cX5_nextToken 141 [.aload 0, .tableswitch 0 5 0 #[], .iload 1, .iaload, .iconst 44, .if_icmp .ne 156, .iconst 4, .goto 157] 156 = true := qck_s _ _ _ _ (by decide) rfl (by decide +kernel)
theorem bk_X5_nextToken_156 : ck_ fX5 none cX5_nextToken 156 [.iconst 5, .tableswitch 1 5 7 #[], .return_] 161 = true := qck_s _ _ _ _ (by decide) rfl (by decide +kernel)
theorem bk_X5_nextToken_157 : ck_ fX5 none cX5_nextToken 157 [.tableswitch 1 5 7 #[], .return_] 161 = true := qck_s _ _ _ _ (by decide) rfl (by decide +kernel)
set_option maxRecDepth 100000 in
theorem cl_X5_108 : cv_ RX5 108 yX5_takeRun zX5_takeRun 5 4 := ⟨gi_V (lw_b2 214 (by decide +kernel) rfl : Cond.methodLink RX5 108 yX5_takeRun ∈ lw_g) (lw_b2 216 (by decide +kernel) rfl : Cond.instanceMethod yX5_takeRun ∈ lw_g) (lw_sel 117 rfl : Cond.selects yX5_takeRun.cls yX5_takeRun yX5_takeRun ∈ lw_g) (lw_b1 2 (by decide +kernel) rfl : Cond.initialized yX5_takeRun.cls ∈ lw_g) (lw_b2 217 rfl rfl : Cond.code yX5_takeRun cX5_takeRun 5 none ∈ lw_g), ⟨by decide, by decide, by decide +kernel⟩, ⟨_, _, rfl⟩⟩
theorem bk_X5_nextToken_115 : ck_ fX5 none cX5_nextToken 115 [.goto 160] 118 = true := qck_s _ _ _ _ (by decide) rfl (by decide +kernel)
theorem bk_X5_nextToken_160 : ck_ fX5 none cX5_nextToken 160 [.return_] 161 = true := qck_s _ _ _ _ (by decide) rfl (by decide +kernel)
theorem bk_X5_nextToken_90 : ck_ fX5 none cX5_nextToken 90 [.goto 160] 93 = true := qck_s _ _ _ _ (by decide) rfl (by decide +kernel)
theorem bk_X5_nextToken_35 : ck_ fX5 none cX5_nextToken 35 [.iinc 1 1, .goto 5] 41 = true := qck_s _ _ _ _ (by decide) rfl (by decide +kernel)
theorem bk_X5_nextToken_0 : ck_ fX5 none cX5_nextToken 0 [.aload 0, .tableswitch 0 5 9 #[], .istore 1] 5 = true := qck_s _ _ _ _ (by decide) rfl (by decide +kernel)
abbrev cX5_fail : ByteArray := prog_7_method_8_code
def yX5_fail : MethodName := ⟨RX5, "fail", "(I)Z"⟩
def zX5_fail : Zm := (RX5, cX5_fail, 2, (some .boolean), { frames := 0, cells := 0, slots := 0, locals := 0 })
theorem bk_X5_fail_0 : ck_ fX5 (some .boolean) cX5_fail 0 [.aload 0, .iload 1, .tableswitch 1 5 2 #[], .aload 0, .aload 0, .tableswitch 0 5 8 #[], .tableswitch 1 5 3 #[], .iconst 0, .ireturn] 15 = true := qck_s _ _ _ _ (by decide) rfl (by decide +kernel)
abbrev cX5_isOfKind : ByteArray := prog_7_method_9_code
def yX5_isOfKind : MethodName := ⟨RX5, "isOfKind", "(I)Z"⟩
def zX5_isOfKind : Zm := (RX5, cX5_isOfKind, 2, (some .boolean), { frames := 1, cells := 0, slots := 0, locals := 21 })
theorem bk_X5_isOfKind_0 : ck_ fX5 (some .boolean) cX5_isOfKind 0 [.aload 0, .tableswitch 0 5 7 #[], .iconst 5, .if_icmp .ne 14, .aload 0, .iconst 1] 10 = true := qck_s _ _ _ _ (by decide) rfl (by decide +kernel)
theorem bk_X5_isOfKind_14 : ck_ fX5 (some .boolean) cX5_isOfKind 14 [.aload 0, .tableswitch 0 5 7 #[], .iload 1, .if_icmp .eq 30, .aload 0, .iconst 2] 24 = true := qck_s _ _ _ _ (by decide) rfl (by decide +kernel)
theorem bk_X5_isOfKind_30 : ck_ fX5 (some .boolean) cX5_isOfKind 30 [.iconst 1, .goto 35] 34 = true := qck_s _ _ _ _ (by decide) rfl (by decide +kernel)
theorem bk_X5_isOfKind_35 : ck_ fX5 (some .boolean) cX5_isOfKind 35 [.ireturn] 36 = true := qck_s _ _ _ _ (by decide) rfl (by decide +kernel)
set_option maxRecDepth 100000 in
theorem cl_X5_59 : cv_ RX5 59 yX5_fail zX5_fail 5 1 := ⟨gi_V (lw_b2 231 (by decide +kernel) rfl : Cond.methodLink RX5 59 yX5_fail ∈ lw_g) (lw_b2 233 (by decide +kernel) rfl : Cond.instanceMethod yX5_fail ∈ lw_g) (lw_sel 108 rfl : Cond.selects yX5_fail.cls yX5_fail yX5_fail ∈ lw_g) (lw_b1 2 (by decide +kernel) rfl : Cond.initialized yX5_fail.cls ∈ lw_g) (lw_b2 234 rfl rfl : Cond.code yX5_fail cX5_fail 2 (some .boolean) ∈ lw_g), ⟨by decide, by decide, by decide +kernel⟩, ⟨_, _, rfl⟩⟩
theorem bk_X5_isOfKind_27 : ck_ fX5 (some .boolean) cX5_isOfKind 27 [.ifCond .eq 34, .iconst 1, .goto 35] 34 = true := qck_s _ _ _ _ (by decide) rfl (by decide +kernel)
theorem bk_X5_isOfKind_34 : ck_ fX5 (some .boolean) cX5_isOfKind 34 [.iconst 0, .ireturn] 36 = true := qck_s _ _ _ _ (by decide) rfl (by decide +kernel)
theorem bk_X5_isOfKind_13 : ck_ fX5 (some .boolean) cX5_isOfKind 13 [.ireturn] 14 = true := qck_s _ _ _ _ (by decide) rfl (by decide +kernel)
abbrev cX5_wordOf : ByteArray := prog_7_method_10_code
def yX5_wordOf : MethodName := ⟨RX5, "wordOf", "(Ljava/lang/String;)I"⟩
def zX5_wordOf : Zm := (RX5, cX5_wordOf, 6, (some .int), { frames := 4, cells := 0, slots := 0, locals := 85 })
theorem bk_X5_wordOf_17 : ck_ fX5 (some .int) cX5_wordOf 17 [.iload 4, .aload 1] 20 = true := qck_s _ _ _ _ (by decide) rfl (by decide +kernel)
set_option maxRecDepth 100000 in
theorem ck82_X5_92 : ck82_ RX5 92 yJ0_length_8abf5 zJ0_length_8abf5 0 := ⟨gi_V (lw_b2 235 (by decide +kernel) rfl : Cond.methodLink RX5 92 yJ0_length_8abf5 ∈ lw_g) (lw_b2 236 (by decide +kernel) rfl : Cond.instanceMethod yJ0_length_8abf5 ∈ lw_g) (lw_b2 237 (by decide +kernel) rfl : Cond.selects yJ0_length_8abf5.cls yJ0_length_8abf5 yJ0_length_8abf5 ∈ lw_g) (lw_b1 11 (by decide +kernel) rfl : Cond.initialized yJ0_length_8abf5.cls ∈ lw_g) (lw_b2 238 rfl rfl : Cond.code yJ0_length_8abf5 cJ0_length_8abf5 1 (some .int) ∈ lw_g), ⟨by decide, by decide, by decide +kernel⟩, rfl⟩
theorem bk_X5_wordOf_23 : ck_ fX5 (some .int) cX5_wordOf 23 [.if_icmp .ge 111, .aload 1, .iload 4] 29 = true := qck_s _ _ _ _ (by decide) rfl (by decide +kernel)
theorem bk_X5_wordOf_111 : ck_ fX5 (some .int) cX5_wordOf 111 [.aload 0, .iconst 3] 113 = true := qck_s _ _ _ _ (by decide) rfl (by decide +kernel)
theorem bk_X5_wordOf_116 : ck_ fX5 (some .int) cX5_wordOf 116 [.pop, .iconst (-1), .ireturn] 119 = true := qck_s _ _ _ _ (by decide) rfl (by decide +kernel)
set_option maxRecDepth 100000 in
theorem ck82_X5_98 : ck82_ RX5 98 yJ0_charAt_5068e zJ0_charAt_5068e 1 := ⟨gi_V (lw_b3 5 (by decide +kernel) rfl : Cond.methodLink RX5 98 yJ0_charAt_5068e ∈ lw_g) (lw_b3 6 (by decide +kernel) rfl : Cond.instanceMethod yJ0_charAt_5068e ∈ lw_g) (lw_b3 7 (by decide +kernel) rfl : Cond.selects yJ0_charAt_5068e.cls yJ0_charAt_5068e yJ0_charAt_5068e ∈ lw_g) (lw_b1 11 (by decide +kernel) rfl : Cond.initialized yJ0_charAt_5068e.cls ∈ lw_g) (lw_b3 8 rfl rfl : Cond.code yJ0_charAt_5068e cJ0_charAt_5068e 2 (some .char) ∈ lw_g), ⟨by decide, by decide, by decide +kernel⟩, rfl⟩
theorem bk_X5_wordOf_32 : ck_ fX5 (some .int) cX5_wordOf 32 [.istore 5, .iload 5, .iconst 59, .if_icmp .ne 64, .iload 3, .aload 0, .tableswitch 0 5 9 #[], .aload 0, .tableswitch 0 5 8 #[], .isub, .if_icmp .ne 56, .iload 2, .ireturn] 56 = true := qck_s _ _ _ _ (by decide) rfl (by decide +kernel)
theorem bk_X5_wordOf_64 : ck_ fX5 (some .int) cX5_wordOf 64 [.iload 3, .ifCond .lt 103, .aload 0, .tableswitch 0 5 8 #[], .iload 3, .iadd, .aload 0, .tableswitch 0 5 9 #[], .if_icmp .ge 103, .aload 0, .tableswitch 0 5 0 #[], .aload 0, .tableswitch 0 5 8 #[], .iload 3, .iadd, .iaload, .iload 5, .if_icmp .ne 103, .iinc 3 1, .goto 105] 103 = true := qck_s _ _ _ _ (by decide) rfl (by decide +kernel)
theorem bk_X5_wordOf_103 : ck_ fX5 (some .int) cX5_wordOf 103 [.iconst (-1), .istore 3, .iinc 4 1, .goto 17] 111 = true := qck_s _ _ _ _ (by decide) rfl (by decide +kernel)
theorem bk_X5_wordOf_105 : ck_ fX5 (some .int) cX5_wordOf 105 [.iinc 4 1, .goto 17] 111 = true := qck_s _ _ _ _ (by decide) rfl (by decide +kernel)
theorem bk_X5_wordOf_56 : ck_ fX5 (some .int) cX5_wordOf 56 [.iinc 2 1, .iconst 0, .istore 3, .goto 105] 64 = true := qck_s _ _ _ _ (by decide) rfl (by decide +kernel)
theorem bk_X5_wordOf_0 : ck_ fX5 (some .int) cX5_wordOf 0 [.aload 0, .iconst 1] 2 = true := qck_s _ _ _ _ (by decide) rfl (by decide +kernel)
set_option maxRecDepth 100000 in
theorem cl_X5_79 : cv_ RX5 79 yX5_isOfKind zX5_isOfKind 5 1 := ⟨gi_V (lw_b2 227 (by decide +kernel) rfl : Cond.methodLink RX5 79 yX5_isOfKind ∈ lw_g) (lw_b2 229 (by decide +kernel) rfl : Cond.instanceMethod yX5_isOfKind ∈ lw_g) (lw_sel 110 rfl : Cond.selects yX5_isOfKind.cls yX5_isOfKind yX5_isOfKind ∈ lw_g) (lw_b1 2 (by decide +kernel) rfl : Cond.initialized yX5_isOfKind.cls ∈ lw_g) (lw_b2 230 rfl rfl : Cond.code yX5_isOfKind cX5_isOfKind 2 (some .boolean) ∈ lw_g), ⟨by decide, by decide, by decide +kernel⟩, ⟨_, _, rfl⟩⟩
theorem bk_X5_wordOf_5 : ck_ fX5 (some .int) cX5_wordOf 5 [.ifCond .ne 10, .iconst (-1), .ireturn] 10 = true := qck_s _ _ _ _ (by decide) rfl (by decide +kernel)
theorem bk_X5_wordOf_10 : ck_ fX5 (some .int) cX5_wordOf 10 [.iconst 0, .istore 2, .iconst 0, .istore 3, .iconst 0, .istore 4] 17 = true := qck_s _ _ _ _ (by decide) rfl (by decide +kernel)
/-- the values that were told are within their bounds -/
def VB8_ (T : Zt) : Prop := ∀ k : Int, 0 ≤ k → k < 16 → (sa_ 1).getD k.toNat 0 ≤ T 504 0 k ∧ T 504 0 k ≤ (sa_ 2).getD k.toNat 0
def VC8_ (T : Zt) : Prop := VB8_ T ∧ T 504 0 2 ≤ T 504 0 1
abbrev cX5_readRule : ByteArray := prog_7_method_6_code
def yX5_readRule : MethodName := ⟨RX5, "readRule", "(II)Z"⟩
def zX5_readRule : Zm := (RX5, cX5_readRule, 5, (some .boolean), { frames := 3, cells := 0, slots := 0, locals := 68 })
set_option maxRecDepth 100000 in
theorem cl_X5_43 : cv_ RX5 43 yX5_nextToken zX5_nextToken 5 0 := ⟨gi_V (lw_b2 206 (by decide +kernel) rfl : Cond.methodLink RX5 43 yX5_nextToken ∈ lw_g) (lw_b2 208 (by decide +kernel) rfl : Cond.instanceMethod yX5_nextToken ∈ lw_g) (lw_sel 111 rfl : Cond.selects yX5_nextToken.cls yX5_nextToken yX5_nextToken ∈ lw_g) (lw_b1 2 (by decide +kernel) rfl : Cond.initialized yX5_nextToken.cls ∈ lw_g) (lw_b2 209 rfl rfl : Cond.code yX5_nextToken cX5_nextToken 2 none ∈ lw_g), ⟨by decide, by decide, by decide +kernel⟩, ⟨_, _, rfl⟩⟩
abbrev cX5_readPoints : ByteArray := prog_7_method_5_code
def yX5_readPoints : MethodName := ⟨RX5, "readPoints", "()Z"⟩
def zX5_readPoints : Zm := (RX5, cX5_readPoints, 1, (some .boolean), { frames := 4, cells := 0, slots := 0, locals := 92 })
set_option maxRecDepth 100000 in
theorem cl_X5_75 : cv_ RX5 75 yX5_readRule zX5_readRule 5 2 := ⟨gi_V (lw_b3 54 (by decide +kernel) rfl : Cond.methodLink RX5 75 yX5_readRule ∈ lw_g) (lw_b3 56 (by decide +kernel) rfl : Cond.instanceMethod yX5_readRule ∈ lw_g) (lw_sel 114 rfl : Cond.selects yX5_readRule.cls yX5_readRule yX5_readRule ∈ lw_g) (lw_b1 2 (by decide +kernel) rfl : Cond.initialized yX5_readRule.cls ∈ lw_g) (lw_b3 57 rfl rfl : Cond.code yX5_readRule cX5_readRule 5 (some .boolean) ∈ lw_g), ⟨by decide, by decide, by decide +kernel⟩, ⟨_, _, rfl⟩⟩
abbrev cX5_readSport : ByteArray := prog_7_method_4_code
def yX5_readSport : MethodName := ⟨RX5, "readSport", "()Z"⟩
def zX5_readSport : Zm := (RX5, cX5_readSport, 2, (some .boolean), { frames := 5, cells := 0, slots := 0, locals := 110 })
set_option maxRecDepth 100000 in
theorem cl_X5_55 : cv_ RX5 55 yX5_wordOf zX5_wordOf 5 1 := ⟨gi_V (lw_b2 223 (by decide +kernel) rfl : Cond.methodLink RX5 55 yX5_wordOf ∈ lw_g) (lw_b2 225 (by decide +kernel) rfl : Cond.instanceMethod yX5_wordOf ∈ lw_g) (lw_sel 118 rfl : Cond.selects yX5_wordOf.cls yX5_wordOf yX5_wordOf ∈ lw_g) (lw_b1 2 (by decide +kernel) rfl : Cond.initialized yX5_wordOf.cls ∈ lw_g) (lw_b2 226 rfl rfl : Cond.code yX5_wordOf cX5_wordOf 6 (some .int) ∈ lw_g), ⟨by decide, by decide, by decide +kernel⟩, ⟨_, _, rfl⟩⟩
abbrev cX5_readOrder : ByteArray := prog_7_method_7_code
def yX5_readOrder : MethodName := ⟨RX5, "readOrder", "()Z"⟩
def zX5_readOrder : Zm := (RX5, cX5_readOrder, 4, (some .boolean), { frames := 5, cells := 0, slots := 0, locals := 110 })
