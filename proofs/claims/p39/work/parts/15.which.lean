-- whichOf over the row 264
abbrev cX11_whichOf : ByteArray := prog_13_method_12_code
def yX11_whichOf : MethodName := ⟨RX11, "whichOf", "([I)I"⟩
def zX11_whichOf : Zm := (RX11, cX11_whichOf, 7, (some .int), { frames := 0, cells := 0, slots := 0, locals := 0 })
theorem bk_X11_whichOf_7 : ck_ fX11 (some .int) cX11_whichOf 7 [.iload 4, .aload 1, .arraylength, .if_icmp .ge 126, .iconst 0, .istore 5, .iconst 1, .istore 6] 20 = true := qck_s _ _ _ _ (by decide) rfl (by decide +kernel)
theorem bk_X11_whichOf_126 : ck_ fX11 (some .int) cX11_whichOf 126 [.iload 2, .ireturn] 128 = true := qck_s _ _ _ _ (by decide) rfl (by decide +kernel)
theorem bk_X11_whichOf_78 : ck_ fX11 (some .int) cX11_whichOf 78 [.istore 6, .iinc 5 1, .goto 20] 86 = true := qck_s _ _ _ _ (by decide) rfl (by decide +kernel)
theorem bk_X11_whichOf_110 : ck_ fX11 (some .int) cX11_whichOf 110 [.istore 2, .iinc 3 1, .iload 4, .iload 5, .iconst 1, .iadd, .iadd, .istore 4, .goto 7] 126 = true := qck_s _ _ _ _ (by decide) rfl (by decide +kernel)
theorem bk_X11_whichOf_20 : ck_ fX11 (some .int) cX11_whichOf 20 [.aload 1, .iload 4, .iload 5, .iadd, .iaload, .iconst 32, .if_icmp .eq 86, .iload 6, .ifCond .eq 77, .aload 0, .tableswitch 0 11 59 #[], .iload 5, .iadd, .aload 0, .tableswitch 0 11 60 #[], .if_icmp .ge 77, .aload 0, .tableswitch 0 11 0 #[], .aload 0, .tableswitch 0 11 59 #[], .iload 5, .iadd, .iaload, .aload 1, .iload 4, .iload 5, .iadd, .iaload, .if_icmp .ne 77, .iconst 1, .goto 78] 77 = true := qck_s _ _ _ _ (by decide) rfl (by decide +kernel)
theorem bk_X11_whichOf_86 : ck_ fX11 (some .int) cX11_whichOf 86 [.iload 6, .ifCond .eq 109, .iload 5, .aload 0, .tableswitch 0 11 60 #[], .aload 0, .tableswitch 0 11 59 #[], .isub, .if_icmp .ne 109, .iload 3, .goto 110] 109 = true := qck_s _ _ _ _ (by decide) rfl (by decide +kernel)
theorem bk_X11_whichOf_109 : ck_ fX11 (some .int) cX11_whichOf 109 [.iload 2] 110 = true := qck_s _ _ _ _ (by decide) rfl (by decide +kernel)
theorem bk_X11_whichOf_77 : ck_ fX11 (some .int) cX11_whichOf 77 [.iconst 0] 78 = true := qck_s _ _ _ _ (by decide) rfl (by decide +kernel)
theorem bk_X11_whichOf_0 : ck_ fX11 (some .int) cX11_whichOf 0 [.iconst (-1), .istore 2, .iconst 0, .istore 3, .iconst 0, .istore 4] 7 = true := qck_s _ _ _ _ (by decide) rfl (by decide +kernel)
