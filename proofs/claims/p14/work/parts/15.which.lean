-- whichOf over the row 264
abbrev cX11_whichOf : ByteArray := prog_13_method_12_code
def yX11_whichOf : MethodName := ⟨RX11, "whichOf", "([I)I"⟩
def zX11_whichOf : Zm := (RX11, cX11_whichOf, 7, (some .int), { frames := 0, cells := 0, slots := 0, locals := 0 })
theorem bk_X11_whichOf_7 : ck_ fX11 (some .int) cX11_whichOf 7 [.iload 4, .aload 1, .arraylength, .if_icmp .ge 126, .iconst 0, .istore 5, .iconst 1, .istore 6] 20 = true := qck_r (nn_ _) (by decide +kernel)
theorem bs_X11_whichOf_7 {P : Zt → Option Zv → Prop} (K : Int → Zl → List Zv → Zt → Prop) : sx_ K P [.iload 4, .aload 1, .arraylength, .if_icmp .ge 126, .iconst 0, .istore 5, .iconst 1, .istore 6] 20 = x_iload 4 (x_aload 1 (x_arraylength (x_if_icmp .ge 126 K (x_iconst 0 (x_istore 5 (x_iconst 1 (x_istore 6 (K 20)))))))) := ((xe_iload 4).trans (congrArg (x_iload 4) ((xe_aload 1).trans (congrArg (x_aload 1) ((xe_arraylength).trans (congrArg (x_arraylength) ((xe_if_icmp .ge 126).trans (congrArg (x_if_icmp .ge 126 K) ((xe_iconst 0).trans (congrArg (x_iconst 0) ((xe_istore 5).trans (congrArg (x_istore 5) ((xe_iconst 1).trans (congrArg (x_iconst 1) ((xe_istore 6).trans (congrArg (x_istore 6) xe_nil))))))))))))))))
theorem bk_X11_whichOf_126 : ck_ fX11 (some .int) cX11_whichOf 126 [.iload 2, .ireturn] 128 = true := qck_r (nn_ _) (by decide +kernel)
theorem bs_X11_whichOf_126 {P : Zt → Option Zv → Prop} (K : Int → Zl → List Zv → Zt → Prop) : sx_ K P [.iload 2, .ireturn] 128 = x_iload 2 (x_ireturn P) := ((xe_iload 2).trans (congrArg (x_iload 2) (xe_ireturn)))
theorem bk_X11_whichOf_78 : ck_ fX11 (some .int) cX11_whichOf 78 [.istore 6, .iinc 5 1, .goto 20] 86 = true := qck_r (nn_ _) (by decide +kernel)
theorem bs_X11_whichOf_78 {P : Zt → Option Zv → Prop} (K : Int → Zl → List Zv → Zt → Prop) : sx_ K P [.istore 6, .iinc 5 1, .goto 20] 86 = x_istore 6 (x_iinc 5 1 (x_goto 20 K)) := ((xe_istore 6).trans (congrArg (x_istore 6) ((xe_iinc 5 1).trans (congrArg (x_iinc 5 1) (xe_goto 20)))))
theorem bk_X11_whichOf_110 : ck_ fX11 (some .int) cX11_whichOf 110 [.istore 2, .iinc 3 1, .iload 4, .iload 5, .iconst 1, .iadd, .iadd, .istore 4, .goto 7] 126 = true := qck_r (nn_ _) (by decide +kernel)
theorem bs_X11_whichOf_110 {P : Zt → Option Zv → Prop} (K : Int → Zl → List Zv → Zt → Prop) : sx_ K P [.istore 2, .iinc 3 1, .iload 4, .iload 5, .iconst 1, .iadd, .iadd, .istore 4, .goto 7] 126 = x_istore 2 (x_iinc 3 1 (x_iload 4 (x_iload 5 (x_iconst 1 (x_iadd (x_iadd (x_istore 4 (x_goto 7 K)))))))) := ((xe_istore 2).trans (congrArg (x_istore 2) ((xe_iinc 3 1).trans (congrArg (x_iinc 3 1) ((xe_iload 4).trans (congrArg (x_iload 4) ((xe_iload 5).trans (congrArg (x_iload 5) ((xe_iconst 1).trans (congrArg (x_iconst 1) ((xe_iadd).trans (congrArg (x_iadd) ((xe_iadd).trans (congrArg (x_iadd) ((xe_istore 4).trans (congrArg (x_istore 4) (xe_goto 7)))))))))))))))))
theorem bk_X11_whichOf_20 : ck_ fX11 (some .int) cX11_whichOf 20 [.aload 1, .iload 4, .iload 5, .iadd, .iaload, .iconst 32, .if_icmp .eq 86, .iload 6, .ifCond .eq 77, .aload 0, .tableswitch 0 11 59 #[], .iload 5, .iadd, .aload 0, .tableswitch 0 11 60 #[], .if_icmp .ge 77, .aload 0, .tableswitch 0 11 0 #[], .aload 0, .tableswitch 0 11 59 #[], .iload 5, .iadd, .iaload, .aload 1, .iload 4, .iload 5, .iadd, .iaload, .if_icmp .ne 77, .iconst 1, .goto 78] 77 = true := qck_r (nn_ _) (by decide +kernel)
theorem bs_X11_whichOf_20 {P : Zt → Option Zv → Prop} (K : Int → Zl → List Zv → Zt → Prop) : sx_ K P [.aload 1, .iload 4, .iload 5, .iadd, .iaload, .iconst 32, .if_icmp .eq 86, .iload 6, .ifCond .eq 77, .aload 0, .tableswitch 0 11 59 #[], .iload 5, .iadd, .aload 0, .tableswitch 0 11 60 #[], .if_icmp .ge 77, .aload 0, .tableswitch 0 11 0 #[], .aload 0, .tableswitch 0 11 59 #[], .iload 5, .iadd, .iaload, .aload 1, .iload 4, .iload 5, .iadd, .iaload, .if_icmp .ne 77, .iconst 1, .goto 78] 77 = x_aload 1 (x_iload 4 (x_iload 5 (x_iadd (x_iaload (x_iconst 32 (x_if_icmp .eq 86 K (x_iload 6 (x_ifCond .eq 77 K (x_aload 0 (x_g0 111 59 0 400 (x_iload 5 (x_iadd (x_aload 0 (x_g0 111 60 0 400 (x_if_icmp .ge 77 K (x_aload 0 (x_g1 111 200 (x_aload 0 (x_g0 111 59 0 400 (x_iload 5 (x_iadd (x_iaload (x_aload 1 (x_iload 4 (x_iload 5 (x_iadd (x_iaload (x_if_icmp .ne 77 K (x_iconst 1 (x_goto 78 K)))))))))))))))))))))))))))))) := ((xe_aload 1).trans (congrArg (x_aload 1) ((xe_iload 4).trans (congrArg (x_iload 4) ((xe_iload 5).trans (congrArg (x_iload 5) ((xe_iadd).trans (congrArg (x_iadd) ((xe_iaload).trans (congrArg (x_iaload) ((xe_iconst 32).trans (congrArg (x_iconst 32) ((xe_if_icmp .eq 86).trans (congrArg (x_if_icmp .eq 86 K) ((xe_iload 6).trans (congrArg (x_iload 6) ((xe_ifCond .eq 77).trans (congrArg (x_ifCond .eq 77 K) ((xe_aload 0).trans (congrArg (x_aload 0) ((xe_g0 (kk := 111) rfl tl_11_59).trans (congrArg (x_g0 111 59 0 400) ((xe_iload 5).trans (congrArg (x_iload 5) ((xe_iadd).trans (congrArg (x_iadd) ((xe_aload 0).trans (congrArg (x_aload 0) ((xe_g0 (kk := 111) rfl tl_11_60).trans (congrArg (x_g0 111 60 0 400) ((xe_if_icmp .ge 77).trans (congrArg (x_if_icmp .ge 77 K) ((xe_aload 0).trans (congrArg (x_aload 0) ((xe_g1 (kk := 111) rfl tl_11_0).trans (congrArg (x_g1 111 200) ((xe_aload 0).trans (congrArg (x_aload 0) ((xe_g0 (kk := 111) rfl tl_11_59).trans (congrArg (x_g0 111 59 0 400) ((xe_iload 5).trans (congrArg (x_iload 5) ((xe_iadd).trans (congrArg (x_iadd) ((xe_iaload).trans (congrArg (x_iaload) ((xe_aload 1).trans (congrArg (x_aload 1) ((xe_iload 4).trans (congrArg (x_iload 4) ((xe_iload 5).trans (congrArg (x_iload 5) ((xe_iadd).trans (congrArg (x_iadd) ((xe_iaload).trans (congrArg (x_iaload) ((xe_if_icmp .ne 77).trans (congrArg (x_if_icmp .ne 77 K) ((xe_iconst 1).trans (congrArg (x_iconst 1) (xe_goto 78)))))))))))))))))))))))))))))))))))))))))))))))))))))))))))))
theorem bk_X11_whichOf_86 : ck_ fX11 (some .int) cX11_whichOf 86 [.iload 6, .ifCond .eq 109, .iload 5, .aload 0, .tableswitch 0 11 60 #[], .aload 0, .tableswitch 0 11 59 #[], .isub, .if_icmp .ne 109, .iload 3, .goto 110] 109 = true := qck_r (nn_ _) (by decide +kernel)
theorem bs_X11_whichOf_86 {P : Zt → Option Zv → Prop} (K : Int → Zl → List Zv → Zt → Prop) : sx_ K P [.iload 6, .ifCond .eq 109, .iload 5, .aload 0, .tableswitch 0 11 60 #[], .aload 0, .tableswitch 0 11 59 #[], .isub, .if_icmp .ne 109, .iload 3, .goto 110] 109 = x_iload 6 (x_ifCond .eq 109 K (x_iload 5 (x_aload 0 (x_g0 111 60 0 400 (x_aload 0 (x_g0 111 59 0 400 (x_isub (x_if_icmp .ne 109 K (x_iload 3 (x_goto 110 K)))))))))) := ((xe_iload 6).trans (congrArg (x_iload 6) ((xe_ifCond .eq 109).trans (congrArg (x_ifCond .eq 109 K) ((xe_iload 5).trans (congrArg (x_iload 5) ((xe_aload 0).trans (congrArg (x_aload 0) ((xe_g0 (kk := 111) rfl tl_11_60).trans (congrArg (x_g0 111 60 0 400) ((xe_aload 0).trans (congrArg (x_aload 0) ((xe_g0 (kk := 111) rfl tl_11_59).trans (congrArg (x_g0 111 59 0 400) ((xe_isub).trans (congrArg (x_isub) ((xe_if_icmp .ne 109).trans (congrArg (x_if_icmp .ne 109 K) ((xe_iload 3).trans (congrArg (x_iload 3) (xe_goto 110)))))))))))))))))))))
theorem bk_X11_whichOf_109 : ck_ fX11 (some .int) cX11_whichOf 109 [.iload 2] 110 = true := qck_r (nn_ _) (by decide +kernel)
theorem bs_X11_whichOf_109 {P : Zt → Option Zv → Prop} (K : Int → Zl → List Zv → Zt → Prop) : sx_ K P [.iload 2] 110 = x_iload 2 (K 110) := ((xe_iload 2).trans (congrArg (x_iload 2) xe_nil))
theorem bk_X11_whichOf_77 : ck_ fX11 (some .int) cX11_whichOf 77 [.iconst 0] 78 = true := qck_r (nn_ _) (by decide +kernel)
theorem bs_X11_whichOf_77 {P : Zt → Option Zv → Prop} (K : Int → Zl → List Zv → Zt → Prop) : sx_ K P [.iconst 0] 78 = x_iconst 0 (K 78) := ((xe_iconst 0).trans (congrArg (x_iconst 0) xe_nil))
theorem bk_X11_whichOf_0 : ck_ fX11 (some .int) cX11_whichOf 0 [.iconst (-1), .istore 2, .iconst 0, .istore 3, .iconst 0, .istore 4] 7 = true := qck_r (nn_ _) (by decide +kernel)
theorem bs_X11_whichOf_0 {P : Zt → Option Zv → Prop} (K : Int → Zl → List Zv → Zt → Prop) : sx_ K P [.iconst (-1), .istore 2, .iconst 0, .istore 3, .iconst 0, .istore 4] 7 = x_iconst (-1) (x_istore 2 (x_iconst 0 (x_istore 3 (x_iconst 0 (x_istore 4 (K 7)))))) := ((xe_iconst (-1)).trans (congrArg (x_iconst (-1)) ((xe_istore 2).trans (congrArg (x_istore 2) ((xe_iconst 0).trans (congrArg (x_iconst 0) ((xe_istore 3).trans (congrArg (x_istore 3) ((xe_iconst 0).trans (congrArg (x_iconst 0) ((xe_istore 4).trans (congrArg (x_istore 4) xe_nil))))))))))))
def rb_l : List (Int × Int) := [(0, 3), (0, 9), (0, 9), (0, 9), (0, 7), (0, 1), (1, 4), (1, 30), (1, 9), (1, 6), (0, 5), (2, 25), (1, 9), (1, 9), (1, 9), (0, 999), ((-1), 6), ((-1), 6), ((-1), 6), ((-1), 6), ((-1), 6), ((-1), 6), ((-1), 6)]
/-- the bounds of a rule -/
def rb_ (w : Int) : Int × Int := rb_l.getD w.toNat (-1, 999)
def RI_ (T : Zt) : Prop := ∀ c w : Int, 0 ≤ c → c < T 111 0 6 → 0 ≤ w → w < 23 → (rb_ w).1 ≤ T 205 0 (23 * c + w) ∧ T 205 0 (23 * c + w) ≤ (rb_ w).2
theorem RI__f {ws : List (Nat × List Int)} {T T' : Zt} (h : RI_ T) (f : fr_ ws T T') (w : (∀ j, fw_ ws 205 j = false) ∧ fw_ ws 111 6 = false ∧ True) : RI_ T' := by
  have e0 : ∀ i j, T' 205 i j = T 205 i j := fun i j => f 205 i j (w.1 j)
  have e1 : ∀ i, T' 111 i 6 = T 111 i 6 := fun i => f 111 i 6 w.2.1
  simp only [RI_, e0, e1] at h ⊢
  exact h
def RW_ (T : Zt) : Prop := ∀ c : Int, 0 ≤ c → c < T 111 0 6 → T 205 0 (23 * c + 2) ≤ T 205 0 (23 * c + 1) ∧ T 205 0 (23 * c + 3) ≤ T 205 0 (23 * c + 2)
theorem RW__f {ws : List (Nat × List Int)} {T T' : Zt} (h : RW_ T) (f : fr_ ws T T') (w : (∀ j, fw_ ws 205 j = false) ∧ fw_ ws 111 6 = false ∧ True) : RW_ T' := by
  have e0 : ∀ i j, T' 205 i j = T 205 i j := fun i j => f 205 i j (w.1 j)
  have e1 : ∀ i, T' 111 i 6 = T 111 i 6 := fun i => f 111 i 6 w.2.1
  simp only [RW_, e0, e1] at h ⊢
  exact h
theorem CX_f {ws : List (Nat × List Int)} {T T' : Zt} (h : CW_ T) (f : fr_ ws T T') (w : (∀ j, fw_ ws 264 j = false) ∧ (∀ j, fw_ ws 265 j = false) ∧ (∀ j, fw_ ws 266 j = false) ∧ (∀ j, fw_ ws 267 j = false) ∧ (∀ j, fw_ ws 268 j = false) ∧ True) : CW_ T' := CW_f h f ⟨w.1, w.2.1, w.2.2.1, w.2.2.2.1, w.2.2.2.2.1⟩
abbrev cX11_layDefaults : ByteArray := prog_13_method_13_code
def yX11_layDefaults : MethodName := ⟨RX11, "layDefaults", "()V"⟩
def zX11_layDefaults : Zm := (RX11, cX11_layDefaults, 2, none, { frames := 0, cells := 0, slots := 0, locals := 0 })
abbrev cX11_wantNumber : ByteArray := prog_13_method_14_code
def yX11_wantNumber : MethodName := ⟨RX11, "wantNumber", "(III)V"⟩
def zX11_wantNumber : Zm := (RX11, cX11_wantNumber, 4, none, { frames := 3, cells := 0, slots := 0, locals := 63 })
set_option maxRecDepth 100000 in
theorem cl_X11_291 : cv_ RX11 291 yX11_take zX11_take 11 0 := ⟨gi_V (lw_b8 110 (by decide +kernel) rfl : Cond.methodLink RX11 291 yX11_take ∈ lw_g) (lw_b8 112 (by decide +kernel) rfl : Cond.instanceMethod yX11_take ∈ lw_g) (lw_sel 72 rfl : Cond.selects yX11_take.cls yX11_take yX11_take ∈ lw_g) (lw_b1 10 (by decide +kernel) rfl : Cond.initialized yX11_take.cls ∈ lw_g) (lw_b8 113 rfl rfl : Cond.code yX11_take cX11_take 2 none ∈ lw_g), ⟨by decide, by decide, by decide +kernel⟩, ⟨_, _, rfl⟩⟩
abbrev cX11_readSport : ByteArray := prog_13_method_15_code
def yX11_readSport : MethodName := ⟨RX11, "readSport", "()V"⟩
def zX11_readSport : Zm := (RX11, cX11_readSport, 2, none, { frames := 3, cells := 0, slots := 0, locals := 63 })
set_option maxRecDepth 100000 in
theorem cl_X11_294 : cv_ RX11 294 yX11_whichOf zX11_whichOf 11 1 := ⟨gi_V (lw_b8 128 (by decide +kernel) rfl : Cond.methodLink RX11 294 yX11_whichOf ∈ lw_g) (lw_b8 130 (by decide +kernel) rfl : Cond.instanceMethod yX11_whichOf ∈ lw_g) (lw_sel 79 rfl : Cond.selects yX11_whichOf.cls yX11_whichOf yX11_whichOf ∈ lw_g) (lw_b1 10 (by decide +kernel) rfl : Cond.initialized yX11_whichOf.cls ∈ lw_g) (lw_b8 131 rfl rfl : Cond.code yX11_whichOf cX11_whichOf 7 (some .int) ∈ lw_g), ⟨by decide, by decide, by decide +kernel⟩, ⟨_, _, rfl⟩⟩
abbrev cX11_readOrder : ByteArray := prog_13_method_16_code
def yX11_readOrder : MethodName := ⟨RX11, "readOrder", "()V"⟩
def zX11_readOrder : Zm := (RX11, cX11_readOrder, 3, none, { frames := 3, cells := 0, slots := 0, locals := 63 })
abbrev cX11_readStatement : ByteArray := prog_13_method_17_code
def yX11_readStatement : MethodName := ⟨RX11, "readStatement", "()V"⟩
def zX11_readStatement : Zm := (RX11, cX11_readStatement, 2, none, { frames := 4, cells := 0, slots := 0, locals := 86 })
set_option maxRecDepth 100000 in
theorem cl_X11_304 : cv_ RX11 304 yX11_wantNumber zX11_wantNumber 11 3 := ⟨gi_V (lw_b8 140 (by decide +kernel) rfl : Cond.methodLink RX11 304 yX11_wantNumber ∈ lw_g) (lw_b8 142 (by decide +kernel) rfl : Cond.instanceMethod yX11_wantNumber ∈ lw_g) (lw_sel 78 rfl : Cond.selects yX11_wantNumber.cls yX11_wantNumber yX11_wantNumber ∈ lw_g) (lw_b1 10 (by decide +kernel) rfl : Cond.initialized yX11_wantNumber.cls ∈ lw_g) (lw_b8 143 rfl rfl : Cond.code yX11_wantNumber cX11_wantNumber 4 none ∈ lw_g), ⟨by decide, by decide, by decide +kernel⟩, ⟨_, _, rfl⟩⟩
set_option maxRecDepth 100000 in
theorem cl_X11_301 : cv_ RX11 301 yX11_readSport zX11_readSport 11 0 := ⟨gi_V (lw_b8 136 (by decide +kernel) rfl : Cond.methodLink RX11 301 yX11_readSport ∈ lw_g) (lw_b8 138 (by decide +kernel) rfl : Cond.instanceMethod yX11_readSport ∈ lw_g) (lw_sel 55 rfl : Cond.selects yX11_readSport.cls yX11_readSport yX11_readSport ∈ lw_g) (lw_b1 10 (by decide +kernel) rfl : Cond.initialized yX11_readSport.cls ∈ lw_g) (lw_b8 139 rfl rfl : Cond.code yX11_readSport cX11_readSport 2 none ∈ lw_g), ⟨by decide, by decide, by decide +kernel⟩, ⟨_, _, rfl⟩⟩
set_option maxRecDepth 100000 in
theorem cl_X11_298 : cv_ RX11 298 yX11_readOrder zX11_readOrder 11 0 := ⟨gi_V (lw_b8 132 (by decide +kernel) rfl : Cond.methodLink RX11 298 yX11_readOrder ∈ lw_g) (lw_b8 134 (by decide +kernel) rfl : Cond.instanceMethod yX11_readOrder ∈ lw_g) (lw_sel 54 rfl : Cond.selects yX11_readOrder.cls yX11_readOrder yX11_readOrder ∈ lw_g) (lw_b1 10 (by decide +kernel) rfl : Cond.initialized yX11_readOrder.cls ∈ lw_g) (lw_b8 135 rfl rfl : Cond.code yX11_readOrder cX11_readOrder 3 none ∈ lw_g), ⟨by decide, by decide, by decide +kernel⟩, ⟨_, _, rfl⟩⟩
abbrev cX11_competition : ByteArray := prog_13_method_18_code
def yX11_competition : MethodName := ⟨RX11, "competition", "()I"⟩
def zX11_competition : Zm := (RX11, cX11_competition, 3, (some .int), { frames := 5, cells := 0, slots := 0, locals := 107 })
set_option maxRecDepth 100000 in
theorem cl_X11_314 : cv_ RX11 314 yX11_readStatement zX11_readStatement 11 0 := ⟨gi_V (lw_b8 124 (by decide +kernel) rfl : Cond.methodLink RX11 314 yX11_readStatement ∈ lw_g) (lw_b8 126 (by decide +kernel) rfl : Cond.instanceMethod yX11_readStatement ∈ lw_g) (lw_sel 56 rfl : Cond.selects yX11_readStatement.cls yX11_readStatement yX11_readStatement ∈ lw_g) (lw_b1 10 (by decide +kernel) rfl : Cond.initialized yX11_readStatement.cls ∈ lw_g) (lw_b8 127 rfl rfl : Cond.code yX11_readStatement cX11_readStatement 2 none ∈ lw_g), ⟨by decide, by decide, by decide +kernel⟩, ⟨_, _, rfl⟩⟩
set_option maxRecDepth 100000 in
theorem cl_X11_311 : cv_ RX11 311 yX11_layDefaults zX11_layDefaults 11 0 := ⟨gi_V (lw_b8 106 (by decide +kernel) rfl : Cond.methodLink RX11 311 yX11_layDefaults ∈ lw_g) (lw_b8 108 (by decide +kernel) rfl : Cond.instanceMethod yX11_layDefaults ∈ lw_g) (lw_sel 33 rfl : Cond.selects yX11_layDefaults.cls yX11_layDefaults yX11_layDefaults ∈ lw_g) (lw_b1 10 (by decide +kernel) rfl : Cond.initialized yX11_layDefaults.cls ∈ lw_g) (lw_b8 109 rfl rfl : Cond.code yX11_layDefaults cX11_layDefaults 2 none ∈ lw_g), ⟨by decide, by decide, by decide +kernel⟩, ⟨_, _, rfl⟩⟩
abbrev cX11_fault : ByteArray := prog_13_method_19_code
def yX11_fault : MethodName := ⟨RX11, "fault", "()I"⟩
def zX11_fault : Zm := (RX11, cX11_fault, 1, (some .int), { frames := 0, cells := 0, slots := 0, locals := 0 })
abbrev cX11_rule : ByteArray := prog_13_method_20_code
def yX11_rule : MethodName := ⟨RX11, "rule", "(II)I"⟩
def zX11_rule : Zm := (RX11, cX11_rule, 3, (some .int), { frames := 2, cells := 0, slots := 0, locals := 43 })
set_option maxRecDepth 100000 in
theorem cl_X11_317 : cs_ RX11 317 yX11_isOf zX11_isOf 2 := ⟨gi_S (lw_b8 152 (by decide +kernel) rfl : Cond.methodLink RX11 317 yX11_isOf ∈ lw_g) (lw_b8 153 (by decide +kernel) rfl : Cond.static yX11_isOf ∈ lw_g) (lw_b1 10 (by decide +kernel) rfl : Cond.initialized yX11_isOf.cls ∈ lw_g) (lw_b8 154 rfl rfl : Cond.code yX11_isOf cX11_isOf 2 (some .boolean) ∈ lw_g), ⟨by decide, by decide, by decide +kernel⟩⟩
set_option maxRecDepth 100000 in
theorem cl_X11_321 : cv_ RX11 321 yX11_rule0 zX11_rule0 11 2 := ⟨gi_V (lw_b8 155 (by decide +kernel) rfl : Cond.methodLink RX11 321 yX11_rule0 ∈ lw_g) (lw_b8 157 (by decide +kernel) rfl : Cond.instanceMethod yX11_rule0 ∈ lw_g) (lw_sel 59 rfl : Cond.selects yX11_rule0.cls yX11_rule0 yX11_rule0 ∈ lw_g) (lw_b1 10 (by decide +kernel) rfl : Cond.initialized yX11_rule0.cls ∈ lw_g) (lw_b8 158 rfl rfl : Cond.code yX11_rule0 cX11_rule0 3 (some .int) ∈ lw_g), ⟨by decide, by decide, by decide +kernel⟩, ⟨_, _, rfl⟩⟩
abbrev cX11_club : ByteArray := prog_13_method_21_code
def yX11_club : MethodName := ⟨RX11, "club", "(II)I"⟩
def zX11_club : Zm := (RX11, cX11_club, 3, (some .int), { frames := 1, cells := 0, slots := 0, locals := 22 })
abbrev po_X11_club (T : Zt) (s c : Int) : Zt → Option Zv → Prop := fun T' r => ∃ x : Int, r = some (vI x) ∧ fr_ [(111, [12]), (213, []), (214, [])] T T' ∧ ((x = -3 ∧ ¬ (0 ≤ s ∧ s ≤ 11 ∧ 0 ≤ c ∧ c ≤ 7) ∧ T' 111 0 12 = T 111 0 12) ∨ ((0 ≤ s ∧ s ≤ 11 ∧ 0 ≤ c ∧ c ≤ 7) ∧ T 111 0 12 = 12 ∧ x = -5 ∧ T' 111 0 12 = T 111 0 12) ∨ ((0 ≤ s ∧ s ≤ 11 ∧ 0 ≤ c ∧ c ≤ 7) ∧ T 111 0 12 < 12 ∧ x = T 111 0 12 ∧ T' 111 0 12 = T 111 0 12 + 1))
abbrev cX11_person : ByteArray := prog_13_method_22_code
def yX11_person : MethodName := ⟨RX11, "person", "()I"⟩
def zX11_person : Zm := (RX11, cX11_person, 1, (some .int), { frames := 0, cells := 0, slots := 0, locals := 0 })
theorem bk_X11_person_0 : ck_ fX11 (some .int) cX11_person 0 [.aload 0, .tableswitch 0 11 15 #[], .iconst 200, .if_icmp .ne 13, .iconst (-5), .ireturn] 13 = true := qck_r (nn_ _) (by decide +kernel)
theorem bs_X11_person_0 {P : Zt → Option Zv → Prop} (K : Int → Zl → List Zv → Zt → Prop) : sx_ K P [.aload 0, .tableswitch 0 11 15 #[], .iconst 200, .if_icmp .ne 13, .iconst (-5), .ireturn] 13 = x_aload 0 (x_g0 111 15 0 200 (x_iconst 200 (x_if_icmp .ne 13 K (x_iconst (-5) (x_ireturn P))))) := ((xe_aload 0).trans (congrArg (x_aload 0) ((xe_g0 (kk := 111) rfl tl_11_15).trans (congrArg (x_g0 111 15 0 200) ((xe_iconst 200).trans (congrArg (x_iconst 200) ((xe_if_icmp .ne 13).trans (congrArg (x_if_icmp .ne 13 K) ((xe_iconst (-5)).trans (congrArg (x_iconst (-5)) (xe_ireturn)))))))))))
theorem bk_X11_person_13 : ck_ fX11 (some .int) cX11_person 13 [.aload 0, .dup, .tableswitch 0 11 15 #[], .iconst 1, .iadd, .tableswitch 1 11 15 #[], .aload 0, .tableswitch 0 11 15 #[], .iconst 1, .isub, .ireturn] 30 = true := qck_r (nn_ _) (by decide +kernel)
theorem bs_X11_person_13 {P : Zt → Option Zv → Prop} (K : Int → Zl → List Zv → Zt → Prop) : sx_ K P [.aload 0, .dup, .tableswitch 0 11 15 #[], .iconst 1, .iadd, .tableswitch 1 11 15 #[], .aload 0, .tableswitch 0 11 15 #[], .iconst 1, .isub, .ireturn] 30 = x_aload 0 (x_dup (x_g0 111 15 0 200 (x_iconst 1 (x_iadd (x_p 111 15 0 200 (x_aload 0 (x_g0 111 15 0 200 (x_iconst 1 (x_isub (x_ireturn P)))))))))) := ((xe_aload 0).trans (congrArg (x_aload 0) ((xe_dup).trans (congrArg (x_dup) ((xe_g0 (kk := 111) rfl tl_11_15).trans (congrArg (x_g0 111 15 0 200) ((xe_iconst 1).trans (congrArg (x_iconst 1) ((xe_iadd).trans (congrArg (x_iadd) ((xe_p (kk := 111) rfl tl_11_15).trans (congrArg (x_p 111 15 0 200) ((xe_aload 0).trans (congrArg (x_aload 0) ((xe_g0 (kk := 111) rfl tl_11_15).trans (congrArg (x_g0 111 15 0 200) ((xe_iconst 1).trans (congrArg (x_iconst 1) ((xe_isub).trans (congrArg (x_isub) (xe_ireturn)))))))))))))))))))))
abbrev po_X11_person (T : Zt) : Zt → Option Zv → Prop := fun T' r => ∃ x : Int, r = some (vI x) ∧ fr_ [(111, [15])] T T' ∧ ((x = -3 ∧ ¬ (0 = (0 : Int)) ∧ T' 111 0 15 = T 111 0 15) ∨ ((0 = (0 : Int)) ∧ T 111 0 15 = 200 ∧ x = -5 ∧ T' 111 0 15 = T 111 0 15) ∨ ((0 = (0 : Int)) ∧ T 111 0 15 < 200 ∧ x = T 111 0 15 ∧ T' 111 0 15 = T 111 0 15 + 1))
set_option maxHeartbeats 4000000 in
theorem ct_X11_person {T : Zt} : Ct_ yX11_person zX11_person T [vR 111 0] (po_X11_person T) := by
  refine ct_of pn_11 rfl rfl (Nat.le_of_ble_eq_true rfl) (fun hT hav => ?_)
  have hz : zX11_person.2.2.2.1 = some .boolean → ∀ (T' : Zt) (x : Int), po_X11_person T T' (some (vI x)) → 0 ≤ x ∧ x ≤ 1 := fun h => by cases h
  show J_ zX11_person T (po_X11_person T) 0 0 0 [some (vR 111 0)] [] T
  refine j_blx (F := fX11) tb_X11 (nn_ _) bk_X11_person_0 bs_X11_person_0 hz (fun K hK => ?_)
  intro b1 b1b
  refine And.intro (fun c2 => ?_) (fun c2 => ?_)
  · refine hK 13 _ [] T ?_
    refine j_blx (F := fX11) tb_X11 (nn_ _) bk_X11_person_13 bs_X11_person_13 hz (fun K hK => ?_)
    intro b3 b3b
    refine rg_i (by omega) ?_
    refine bd_i (by omega) ?_
    refine x_nm (fun U4 hU4 => ?_)
    have e5 := up_f hU4
    intro b6 b6b
    have e7 : U4 111 0 15 = (T 111 0 15) + 1 := up_f hU4
    rw [e7] at b6 b6b ⊢
    refine rg_i (by omega) ?_
    refine (show po_X11_person T U4 (some (vI (((T 111 0 15) + 1) - 1))) from ?_)
    have e8 : U4 111 0 15 = (T 111 0 15) + 1 := up_f hU4
    exact ⟨_, rfl, fr_u (fr_0 _ _) hU4 rfl, by omega⟩
  · refine (show po_X11_person T T (some (vI (-5))) from ?_)
    exact ⟨_, rfl, fr_0 _ _, by omega⟩
abbrev cX11_official : ByteArray := prog_13_method_25_code
def yX11_official : MethodName := ⟨RX11, "official", "(II)I"⟩
def zX11_official : Zm := (RX11, cX11_official, 3, (some .int), { frames := 1, cells := 0, slots := 0, locals := 22 })
abbrev po_X11_official (T : Zt) (s c : Int) : Zt → Option Zv → Prop := fun T' r => ∃ x : Int, r = some (vI x) ∧ fr_ [(111, [21]), (222, []), (223, [])] T T' ∧ ((x = -3 ∧ ¬ (0 ≤ s ∧ s ≤ 11 ∧ 0 ≤ c ∧ c ≤ 7) ∧ T' 111 0 21 = T 111 0 21) ∨ ((0 ≤ s ∧ s ≤ 11 ∧ 0 ≤ c ∧ c ≤ 7) ∧ T 111 0 21 = 8 ∧ x = -5 ∧ T' 111 0 21 = T 111 0 21) ∨ ((0 ≤ s ∧ s ≤ 11 ∧ 0 ≤ c ∧ c ≤ 7) ∧ T 111 0 21 < 8 ∧ x = T 111 0 21 ∧ T' 111 0 21 = T 111 0 21 + 1))
abbrev cX11_day : ByteArray := prog_13_method_26_code
def yX11_day : MethodName := ⟨RX11, "day", "(I)I"⟩
def zX11_day : Zm := (RX11, cX11_day, 3, (some .int), { frames := 1, cells := 0, slots := 0, locals := 22 })
theorem bk_X11_day_0 : ck_ fX11 (some .int) cX11_day 0 [.iload 1, .aload 0, .tableswitch 0 11 3 #[], .iconst 1, .iadd, .iconst 999] 10 = true := qck_r (nn_ _) (by decide +kernel)
theorem bs_X11_day_0 {P : Zt → Option Zv → Prop} (K : Int → Zl → List Zv → Zt → Prop) : sx_ K P [.iload 1, .aload 0, .tableswitch 0 11 3 #[], .iconst 1, .iadd, .iconst 999] 10 = x_iload 1 (x_aload 0 (x_g0 111 3 0 999 (x_iconst 1 (x_iadd (x_iconst 999 (K 10)))))) := ((xe_iload 1).trans (congrArg (x_iload 1) ((xe_aload 0).trans (congrArg (x_aload 0) ((xe_g0 (kk := 111) rfl tl_11_3).trans (congrArg (x_g0 111 3 0 999) ((xe_iconst 1).trans (congrArg (x_iconst 1) ((xe_iadd).trans (congrArg (x_iadd) ((xe_iconst 999).trans (congrArg (x_iconst 999) xe_nil))))))))))))
theorem bk_X11_day_13 : ck_ fX11 (some .int) cX11_day 13 [.ifCond .ne 19, .iconst (-3), .ireturn] 19 = true := qck_r (nn_ _) (by decide +kernel)
theorem bs_X11_day_13 {P : Zt → Option Zv → Prop} (K : Int → Zl → List Zv → Zt → Prop) : sx_ K P [.ifCond .ne 19, .iconst (-3), .ireturn] 19 = x_ifCond .ne 19 K (x_iconst (-3) (x_ireturn P)) := ((xe_ifCond .ne 19).trans (congrArg (x_ifCond .ne 19 K) ((xe_iconst (-3)).trans (congrArg (x_iconst (-3)) (xe_ireturn)))))
theorem bk_X11_day_19 : ck_ fX11 (some .int) cX11_day 19 [.aload 0, .tableswitch 0 11 3 #[], .istore 2, .aload 0, .iload 1, .tableswitch 1 11 3 #[], .iload 2, .ireturn] 31 = true := qck_r (nn_ _) (by decide +kernel)
theorem bs_X11_day_19 {P : Zt → Option Zv → Prop} (K : Int → Zl → List Zv → Zt → Prop) : sx_ K P [.aload 0, .tableswitch 0 11 3 #[], .istore 2, .aload 0, .iload 1, .tableswitch 1 11 3 #[], .iload 2, .ireturn] 31 = x_aload 0 (x_g0 111 3 0 999 (x_istore 2 (x_aload 0 (x_iload 1 (x_p 111 3 0 999 (x_iload 2 (x_ireturn P))))))) := ((xe_aload 0).trans (congrArg (x_aload 0) ((xe_g0 (kk := 111) rfl tl_11_3).trans (congrArg (x_g0 111 3 0 999) ((xe_istore 2).trans (congrArg (x_istore 2) ((xe_aload 0).trans (congrArg (x_aload 0) ((xe_iload 1).trans (congrArg (x_iload 1) ((xe_p (kk := 111) rfl tl_11_3).trans (congrArg (x_p 111 3 0 999) ((xe_iload 2).trans (congrArg (x_iload 2) (xe_ireturn)))))))))))))))
abbrev po_X11_day (T : Zt) (d : Int) : Zt → Option Zv → Prop := fun T' r => ∃ x : Int, r = some (vI x) ∧ fr_ [(111, [3])] T T' ∧ ((x = -3 ∧ ¬ (T 111 0 3 < d ∧ d ≤ 999) ∧ T' 111 0 3 = T 111 0 3) ∨ (T 111 0 3 < d ∧ d ≤ 999 ∧ x = T 111 0 3 ∧ T' 111 0 3 = d))
set_option maxHeartbeats 4000000 in
theorem ct_X11_day {T : Zt} {d : Int} : Ct_ yX11_day zX11_day T [vR 111 0, vI d] (po_X11_day T d) := by
  refine ct_of pn_11 rfl rfl (Nat.le_of_ble_eq_true rfl) (fun hT hav => ?_)
  have hr_d : -2147483648 ≤ d ∧ d ≤ 2147483647 := hav (vI d) (by simp)
  have hz : zX11_day.2.2.2.1 = some .boolean → ∀ (T' : Zt) (x : Int), po_X11_day T d T' (some (vI x)) → 0 ≤ x ∧ x ≤ 1 := fun h => by cases h
  show J_ zX11_day T (po_X11_day T d) 0 0 0 [some (vR 111 0), some (vI d), none] [] T
  refine j_blx (F := fX11) tb_X11 (nn_ _) bk_X11_day_0 bs_X11_day_0 hz (fun K hK => ?_)
  intro b1 b1b
  refine rg_i (by omega) ?_
  refine hK 10 _ [vI 999, vI ((T 111 0 3) + 1), vI d] T ?_
  refine j_callS (y := yX11_in) (Yc := zX11_in) (rest := []) [vI d, vI ((T 111 0 3) + 1), vI 999] (ct_X11_in (T := T)) cl_X11_255 (qd_c (by decide +kernel)) (nn_ _) rfl (rf_of rfl) (Nat.le_of_ble_eq_true rfl) (Nat.le_of_ble_eq_true rfl) (Nat.le_of_ble_eq_true rfl) rfl ?_
  rintro _ _ ⟨rfl, x2, rfl, hx2⟩
  show J_ zX11_day T (po_X11_day T d) 0 0 13 _ [vI x2] T
  refine j_blx (F := fX11) tb_X11 (nn_ _) bk_X11_day_13 bs_X11_day_13 hz (fun K hK => ?_)
  refine And.intro (fun c3 => ?_) (fun c3 => ?_)
  · refine hK 19 _ [] T ?_
    refine j_blx (F := fX11) tb_X11 (nn_ _) bk_X11_day_19 bs_X11_day_19 hz (fun K hK => ?_)
    intro b4 b4b
    refine bd_i (by omega) ?_
    refine x_nm (fun U5 hU5 => ?_)
    have e6 := up_f hU5
    refine (show po_X11_day T d U5 (some (vI (T 111 0 3))) from ?_)
    have e7 : U5 111 0 3 = d := up_f hU5
    exact ⟨_, rfl, fr_u (fr_0 _ _) hU5 rfl, by omega⟩
  · refine (show po_X11_day T d T (some (vI (-3))) from ?_)
    exact ⟨_, rfl, fr_0 _ _, by omega⟩
abbrev cX11_clubOf : ByteArray := prog_13_method_23_code
def yX11_clubOf : MethodName := ⟨RX11, "clubOf", "(II)I"⟩
def zX11_clubOf : Zm := (RX11, cX11_clubOf, 5, (some .int), { frames := 1, cells := 0, slots := 0, locals := 22 })
abbrev cX11_register : ByteArray := prog_13_method_24_code
def yX11_register : MethodName := ⟨RX11, "register", "(IIII)I"⟩
def zX11_register : Zm := (RX11, cX11_register, 6, (some .int), { frames := 2, cells := 0, slots := 0, locals := 43 })
theorem bk_X11_register_60 : ck_ fX11 (some .int) cX11_register 60 [.iload 5, .aload 0, .tableswitch 0 11 16 #[], .if_icmp .ge 112, .aload 0, .tableswitch 0 11 17 #[], .iload 5, .iaload, .iload 1, .if_icmp .ne 106, .aload 0, .tableswitch 0 11 19 #[], .iload 5, .iaload, .iload 4, .if_icmp .gt 106, .aload 0, .tableswitch 0 11 20 #[], .iload 5, .iaload, .iload 3, .if_icmp .lt 106, .iconst (-4), .ireturn] 106 = true := qck_r (nn_ _) (by decide +kernel)
theorem bs_X11_register_60 {P : Zt → Option Zv → Prop} (K : Int → Zl → List Zv → Zt → Prop) : sx_ K P [.iload 5, .aload 0, .tableswitch 0 11 16 #[], .if_icmp .ge 112, .aload 0, .tableswitch 0 11 17 #[], .iload 5, .iaload, .iload 1, .if_icmp .ne 106, .aload 0, .tableswitch 0 11 19 #[], .iload 5, .iaload, .iload 4, .if_icmp .gt 106, .aload 0, .tableswitch 0 11 20 #[], .iload 5, .iaload, .iload 3, .if_icmp .lt 106, .iconst (-4), .ireturn] 106 = x_iload 5 (x_aload 0 (x_g0 111 16 0 300 (x_if_icmp .ge 112 K (x_aload 0 (x_g1 111 217 (x_iload 5 (x_iaload (x_iload 1 (x_if_icmp .ne 106 K (x_aload 0 (x_g1 111 219 (x_iload 5 (x_iaload (x_iload 4 (x_if_icmp .gt 106 K (x_aload 0 (x_g1 111 220 (x_iload 5 (x_iaload (x_iload 3 (x_if_icmp .lt 106 K (x_iconst (-4) (x_ireturn P))))))))))))))))))))))) := ((xe_iload 5).trans (congrArg (x_iload 5) ((xe_aload 0).trans (congrArg (x_aload 0) ((xe_g0 (kk := 111) rfl tl_11_16).trans (congrArg (x_g0 111 16 0 300) ((xe_if_icmp .ge 112).trans (congrArg (x_if_icmp .ge 112 K) ((xe_aload 0).trans (congrArg (x_aload 0) ((xe_g1 (kk := 111) rfl tl_11_17).trans (congrArg (x_g1 111 217) ((xe_iload 5).trans (congrArg (x_iload 5) ((xe_iaload).trans (congrArg (x_iaload) ((xe_iload 1).trans (congrArg (x_iload 1) ((xe_if_icmp .ne 106).trans (congrArg (x_if_icmp .ne 106 K) ((xe_aload 0).trans (congrArg (x_aload 0) ((xe_g1 (kk := 111) rfl tl_11_19).trans (congrArg (x_g1 111 219) ((xe_iload 5).trans (congrArg (x_iload 5) ((xe_iaload).trans (congrArg (x_iaload) ((xe_iload 4).trans (congrArg (x_iload 4) ((xe_if_icmp .gt 106).trans (congrArg (x_if_icmp .gt 106 K) ((xe_aload 0).trans (congrArg (x_aload 0) ((xe_g1 (kk := 111) rfl tl_11_20).trans (congrArg (x_g1 111 220) ((xe_iload 5).trans (congrArg (x_iload 5) ((xe_iaload).trans (congrArg (x_iaload) ((xe_iload 3).trans (congrArg (x_iload 3) ((xe_if_icmp .lt 106).trans (congrArg (x_if_icmp .lt 106 K) ((xe_iconst (-4)).trans (congrArg (x_iconst (-4)) (xe_ireturn)))))))))))))))))))))))))))))))))))))))))))))))
theorem bk_X11_register_112 : ck_ fX11 (some .int) cX11_register 112 [.aload 0, .tableswitch 0 11 16 #[], .iconst 300, .if_icmp .ne 125, .iconst (-5), .ireturn] 125 = true := qck_r (nn_ _) (by decide +kernel)
theorem bs_X11_register_112 {P : Zt → Option Zv → Prop} (K : Int → Zl → List Zv → Zt → Prop) : sx_ K P [.aload 0, .tableswitch 0 11 16 #[], .iconst 300, .if_icmp .ne 125, .iconst (-5), .ireturn] 125 = x_aload 0 (x_g0 111 16 0 300 (x_iconst 300 (x_if_icmp .ne 125 K (x_iconst (-5) (x_ireturn P))))) := ((xe_aload 0).trans (congrArg (x_aload 0) ((xe_g0 (kk := 111) rfl tl_11_16).trans (congrArg (x_g0 111 16 0 300) ((xe_iconst 300).trans (congrArg (x_iconst 300) ((xe_if_icmp .ne 125).trans (congrArg (x_if_icmp .ne 125 K) ((xe_iconst (-5)).trans (congrArg (x_iconst (-5)) (xe_ireturn)))))))))))
theorem bk_X11_register_125 : ck_ fX11 (some .int) cX11_register 125 [.aload 0, .tableswitch 0 11 17 #[], .aload 0, .tableswitch 0 11 16 #[], .iload 1, .iastore, .aload 0, .tableswitch 0 11 18 #[], .aload 0, .tableswitch 0 11 16 #[], .iload 2, .iastore, .aload 0, .tableswitch 0 11 19 #[], .aload 0, .tableswitch 0 11 16 #[], .iload 3, .iastore, .aload 0, .tableswitch 0 11 20 #[], .aload 0, .tableswitch 0 11 16 #[], .iload 4, .iastore, .aload 0, .dup, .tableswitch 0 11 16 #[], .iconst 1, .iadd, .tableswitch 1 11 16 #[], .aload 0, .tableswitch 0 11 16 #[], .ireturn] 181 = true := qck_r (nn_ _) (by decide +kernel)
theorem bs_X11_register_125 {P : Zt → Option Zv → Prop} (K : Int → Zl → List Zv → Zt → Prop) : sx_ K P [.aload 0, .tableswitch 0 11 17 #[], .aload 0, .tableswitch 0 11 16 #[], .iload 1, .iastore, .aload 0, .tableswitch 0 11 18 #[], .aload 0, .tableswitch 0 11 16 #[], .iload 2, .iastore, .aload 0, .tableswitch 0 11 19 #[], .aload 0, .tableswitch 0 11 16 #[], .iload 3, .iastore, .aload 0, .tableswitch 0 11 20 #[], .aload 0, .tableswitch 0 11 16 #[], .iload 4, .iastore, .aload 0, .dup, .tableswitch 0 11 16 #[], .iconst 1, .iadd, .tableswitch 1 11 16 #[], .aload 0, .tableswitch 0 11 16 #[], .ireturn] 181 = x_aload 0 (x_g1 111 217 (x_aload 0 (x_g0 111 16 0 300 (x_iload 1 (x_iastore (x_aload 0 (x_g1 111 218 (x_aload 0 (x_g0 111 16 0 300 (x_iload 2 (x_iastore (x_aload 0 (x_g1 111 219 (x_aload 0 (x_g0 111 16 0 300 (x_iload 3 (x_iastore (x_aload 0 (x_g1 111 220 (x_aload 0 (x_g0 111 16 0 300 (x_iload 4 (x_iastore (x_aload 0 (x_dup (x_g0 111 16 0 300 (x_iconst 1 (x_iadd (x_p 111 16 0 300 (x_aload 0 (x_g0 111 16 0 300 (x_ireturn P)))))))))))))))))))))))))))))))) := ((xe_aload 0).trans (congrArg (x_aload 0) ((xe_g1 (kk := 111) rfl tl_11_17).trans (congrArg (x_g1 111 217) ((xe_aload 0).trans (congrArg (x_aload 0) ((xe_g0 (kk := 111) rfl tl_11_16).trans (congrArg (x_g0 111 16 0 300) ((xe_iload 1).trans (congrArg (x_iload 1) ((xe_iastore).trans (congrArg (x_iastore) ((xe_aload 0).trans (congrArg (x_aload 0) ((xe_g1 (kk := 111) rfl tl_11_18).trans (congrArg (x_g1 111 218) ((xe_aload 0).trans (congrArg (x_aload 0) ((xe_g0 (kk := 111) rfl tl_11_16).trans (congrArg (x_g0 111 16 0 300) ((xe_iload 2).trans (congrArg (x_iload 2) ((xe_iastore).trans (congrArg (x_iastore) ((xe_aload 0).trans (congrArg (x_aload 0) ((xe_g1 (kk := 111) rfl tl_11_19).trans (congrArg (x_g1 111 219) ((xe_aload 0).trans (congrArg (x_aload 0) ((xe_g0 (kk := 111) rfl tl_11_16).trans (congrArg (x_g0 111 16 0 300) ((xe_iload 3).trans (congrArg (x_iload 3) ((xe_iastore).trans (congrArg (x_iastore) ((xe_aload 0).trans (congrArg (x_aload 0) ((xe_g1 (kk := 111) rfl tl_11_20).trans (congrArg (x_g1 111 220) ((xe_aload 0).trans (congrArg (x_aload 0) ((xe_g0 (kk := 111) rfl tl_11_16).trans (congrArg (x_g0 111 16 0 300) ((xe_iload 4).trans (congrArg (x_iload 4) ((xe_iastore).trans (congrArg (x_iastore) ((xe_aload 0).trans (congrArg (x_aload 0) ((xe_dup).trans (congrArg (x_dup) ((xe_g0 (kk := 111) rfl tl_11_16).trans (congrArg (x_g0 111 16 0 300) ((xe_iconst 1).trans (congrArg (x_iconst 1) ((xe_iadd).trans (congrArg (x_iadd) ((xe_p (kk := 111) rfl tl_11_16).trans (congrArg (x_p 111 16 0 300) ((xe_aload 0).trans (congrArg (x_aload 0) ((xe_g0 (kk := 111) rfl tl_11_16).trans (congrArg (x_g0 111 16 0 300) (xe_ireturn)))))))))))))))))))))))))))))))))))))))))))))))))))))))))))))))))
theorem bk_X11_register_106 : ck_ fX11 (some .int) cX11_register 106 [.iinc 5 1, .goto 60] 112 = true := qck_r (nn_ _) (by decide +kernel)
theorem bs_X11_register_106 {P : Zt → Option Zv → Prop} (K : Int → Zl → List Zv → Zt → Prop) : sx_ K P [.iinc 5 1, .goto 60] 112 = x_iinc 5 1 (x_goto 60 K) := ((xe_iinc 5 1).trans (congrArg (x_iinc 5 1) (xe_goto 60)))
theorem bk_X11_register_0 : ck_ fX11 (some .int) cX11_register 0 [.iload 1, .aload 0, .tableswitch 0 11 15 #[]] 5 = true := qck_r (nn_ _) (by decide +kernel)
theorem bs_X11_register_0 {P : Zt → Option Zv → Prop} (K : Int → Zl → List Zv → Zt → Prop) : sx_ K P [.iload 1, .aload 0, .tableswitch 0 11 15 #[]] 5 = x_iload 1 (x_aload 0 (x_g0 111 15 0 200 (K 5))) := ((xe_iload 1).trans (congrArg (x_iload 1) ((xe_aload 0).trans (congrArg (x_aload 0) ((xe_g0 (kk := 111) rfl tl_11_15).trans (congrArg (x_g0 111 15 0 200) xe_nil))))))
theorem bk_X11_register_8 : ck_ fX11 (some .int) cX11_register 8 [.ifCond .eq 22, .iload 2, .aload 0, .tableswitch 0 11 12 #[]] 16 = true := qck_r (nn_ _) (by decide +kernel)
theorem bs_X11_register_8 {P : Zt → Option Zv → Prop} (K : Int → Zl → List Zv → Zt → Prop) : sx_ K P [.ifCond .eq 22, .iload 2, .aload 0, .tableswitch 0 11 12 #[]] 16 = x_ifCond .eq 22 K (x_iload 2 (x_aload 0 (x_g0 111 12 0 12 (K 16)))) := ((xe_ifCond .eq 22).trans (congrArg (x_ifCond .eq 22 K) ((xe_iload 2).trans (congrArg (x_iload 2) ((xe_aload 0).trans (congrArg (x_aload 0) ((xe_g0 (kk := 111) rfl tl_11_12).trans (congrArg (x_g0 111 12 0 12) xe_nil))))))))
theorem bk_X11_register_22 : ck_ fX11 (some .int) cX11_register 22 [.iconst (-2), .ireturn] 25 = true := qck_r (nn_ _) (by decide +kernel)
theorem bs_X11_register_22 {P : Zt → Option Zv → Prop} (K : Int → Zl → List Zv → Zt → Prop) : sx_ K P [.iconst (-2), .ireturn] 25 = x_iconst (-2) (x_ireturn P) := ((xe_iconst (-2)).trans (congrArg (x_iconst (-2)) (xe_ireturn)))
theorem bk_X11_register_19 : ck_ fX11 (some .int) cX11_register 19 [.ifCond .ne 25, .iconst (-2), .ireturn] 25 = true := qck_r (nn_ _) (by decide +kernel)
theorem bs_X11_register_19 {P : Zt → Option Zv → Prop} (K : Int → Zl → List Zv → Zt → Prop) : sx_ K P [.ifCond .ne 25, .iconst (-2), .ireturn] 25 = x_ifCond .ne 25 K (x_iconst (-2) (x_ireturn P)) := ((xe_ifCond .ne 25).trans (congrArg (x_ifCond .ne 25 K) ((xe_iconst (-2)).trans (congrArg (x_iconst (-2)) (xe_ireturn)))))
theorem bk_X11_register_25 : ck_ fX11 (some .int) cX11_register 25 [.iload 3, .iconst 0, .iconst 999] 30 = true := qck_r (nn_ _) (by decide +kernel)
theorem bs_X11_register_25 {P : Zt → Option Zv → Prop} (K : Int → Zl → List Zv → Zt → Prop) : sx_ K P [.iload 3, .iconst 0, .iconst 999] 30 = x_iload 3 (x_iconst 0 (x_iconst 999 (K 30))) := ((xe_iload 3).trans (congrArg (x_iload 3) ((xe_iconst 0).trans (congrArg (x_iconst 0) ((xe_iconst 999).trans (congrArg (x_iconst 999) xe_nil))))))
theorem bk_X11_register_33 : ck_ fX11 (some .int) cX11_register 33 [.ifCond .eq 54, .iload 4, .iconst 0, .iconst 999] 42 = true := qck_r (nn_ _) (by decide +kernel)
theorem bs_X11_register_33 {P : Zt → Option Zv → Prop} (K : Int → Zl → List Zv → Zt → Prop) : sx_ K P [.ifCond .eq 54, .iload 4, .iconst 0, .iconst 999] 42 = x_ifCond .eq 54 K (x_iload 4 (x_iconst 0 (x_iconst 999 (K 42)))) := ((xe_ifCond .eq 54).trans (congrArg (x_ifCond .eq 54 K) ((xe_iload 4).trans (congrArg (x_iload 4) ((xe_iconst 0).trans (congrArg (x_iconst 0) ((xe_iconst 999).trans (congrArg (x_iconst 999) xe_nil))))))))
theorem bk_X11_register_54 : ck_ fX11 (some .int) cX11_register 54 [.iconst (-3), .ireturn] 57 = true := qck_r (nn_ _) (by decide +kernel)
theorem bs_X11_register_54 {P : Zt → Option Zv → Prop} (K : Int → Zl → List Zv → Zt → Prop) : sx_ K P [.iconst (-3), .ireturn] 57 = x_iconst (-3) (x_ireturn P) := ((xe_iconst (-3)).trans (congrArg (x_iconst (-3)) (xe_ireturn)))
theorem bk_X11_register_45 : ck_ fX11 (some .int) cX11_register 45 [.ifCond .eq 54, .iload 3, .iload 4, .if_icmp .le 57, .iconst (-3), .ireturn] 57 = true := qck_r (nn_ _) (by decide +kernel)
theorem bs_X11_register_45 {P : Zt → Option Zv → Prop} (K : Int → Zl → List Zv → Zt → Prop) : sx_ K P [.ifCond .eq 54, .iload 3, .iload 4, .if_icmp .le 57, .iconst (-3), .ireturn] 57 = x_ifCond .eq 54 K (x_iload 3 (x_iload 4 (x_if_icmp .le 57 K (x_iconst (-3) (x_ireturn P))))) := ((xe_ifCond .eq 54).trans (congrArg (x_ifCond .eq 54 K) ((xe_iload 3).trans (congrArg (x_iload 3) ((xe_iload 4).trans (congrArg (x_iload 4) ((xe_if_icmp .le 57).trans (congrArg (x_if_icmp .le 57 K) ((xe_iconst (-3)).trans (congrArg (x_iconst (-3)) (xe_ireturn)))))))))))
theorem bk_X11_register_57 : ck_ fX11 (some .int) cX11_register 57 [.iconst 0, .istore 5] 60 = true := qck_r (nn_ _) (by decide +kernel)
theorem bs_X11_register_57 {P : Zt → Option Zv → Prop} (K : Int → Zl → List Zv → Zt → Prop) : sx_ K P [.iconst 0, .istore 5] 60 = x_iconst 0 (x_istore 5 (K 60)) := ((xe_iconst 0).trans (congrArg (x_iconst 0) ((xe_istore 5).trans (congrArg (x_istore 5) xe_nil))))
abbrev po_X11_register (T : Zt) (p c f t : Int) : Zt → Option Zv → Prop := fun T' r => ∃ x : Int, r = some (vI x) ∧ fr_ [(111, [16]), (217, []), (218, []), (219, []), (220, [])] T T' ∧ (x = -2 ∨ x = -3 ∨ x = -4 ∨ x = -5 ∨ x = T' 111 0 16)
/-- a club has entered -/
def HE_ (T : Zt) (c cl : Int) : Prop := ∃ j, 0 ≤ j ∧ j < T 208 0 c ∧ T 207 0 (12 * c + j) = cl
abbrev cX11_hasEntered : ByteArray := prog_13_method_27_code
def yX11_hasEntered : MethodName := ⟨RX11, "hasEntered", "(II)Z"⟩
def zX11_hasEntered : Zm := (RX11, cX11_hasEntered, 5, (some .boolean), { frames := 0, cells := 0, slots := 0, locals := 0 })
theorem bk_X11_hasEntered_41 : ck_ fX11 (some .boolean) cX11_hasEntered 41 [.istore 3, .iinc 4 1, .goto 5] 48 = true := qck_r (nn_ _) (by decide +kernel)
theorem bs_X11_hasEntered_41 {P : Zt → Option Zv → Prop} (K : Int → Zl → List Zv → Zt → Prop) : sx_ K P [.istore 3, .iinc 4 1, .goto 5] 48 = x_istore 3 (x_iinc 4 1 (x_goto 5 K)) := ((xe_istore 3).trans (congrArg (x_istore 3) ((xe_iinc 4 1).trans (congrArg (x_iinc 4 1) (xe_goto 5)))))
theorem bk_X11_hasEntered_5 : ck_ fX11 (some .boolean) cX11_hasEntered 5 [.iload 4, .aload 0, .tableswitch 0 11 8 #[], .iload 1, .iaload, .if_icmp .ge 48, .iload 3, .ifCond .ne 36, .aload 0, .tableswitch 0 11 7 #[], .iconst 12, .iload 1, .imul, .iload 4, .iadd, .iaload, .iload 2, .if_icmp .ne 40, .iconst 1, .goto 41] 40 = true := qck_r (nn_ _) (by decide +kernel)
theorem bs_X11_hasEntered_5 {P : Zt → Option Zv → Prop} (K : Int → Zl → List Zv → Zt → Prop) : sx_ K P [.iload 4, .aload 0, .tableswitch 0 11 8 #[], .iload 1, .iaload, .if_icmp .ge 48, .iload 3, .ifCond .ne 36, .aload 0, .tableswitch 0 11 7 #[], .iconst 12, .iload 1, .imul, .iload 4, .iadd, .iaload, .iload 2, .if_icmp .ne 40, .iconst 1, .goto 41] 40 = x_iload 4 (x_aload 0 (x_g1 111 208 (x_iload 1 (x_iaload (x_if_icmp .ge 48 K (x_iload 3 (x_ifCond .ne 36 K (x_aload 0 (x_g1 111 207 (x_iconst 12 (x_iload 1 (x_imul (x_iload 4 (x_iadd (x_iaload (x_iload 2 (x_if_icmp .ne 40 K (x_iconst 1 (x_goto 41 K))))))))))))))))))) := ((xe_iload 4).trans (congrArg (x_iload 4) ((xe_aload 0).trans (congrArg (x_aload 0) ((xe_g1 (kk := 111) rfl tl_11_8).trans (congrArg (x_g1 111 208) ((xe_iload 1).trans (congrArg (x_iload 1) ((xe_iaload).trans (congrArg (x_iaload) ((xe_if_icmp .ge 48).trans (congrArg (x_if_icmp .ge 48 K) ((xe_iload 3).trans (congrArg (x_iload 3) ((xe_ifCond .ne 36).trans (congrArg (x_ifCond .ne 36 K) ((xe_aload 0).trans (congrArg (x_aload 0) ((xe_g1 (kk := 111) rfl tl_11_7).trans (congrArg (x_g1 111 207) ((xe_iconst 12).trans (congrArg (x_iconst 12) ((xe_iload 1).trans (congrArg (x_iload 1) ((xe_imul).trans (congrArg (x_imul) ((xe_iload 4).trans (congrArg (x_iload 4) ((xe_iadd).trans (congrArg (x_iadd) ((xe_iaload).trans (congrArg (x_iaload) ((xe_iload 2).trans (congrArg (x_iload 2) ((xe_if_icmp .ne 40).trans (congrArg (x_if_icmp .ne 40 K) ((xe_iconst 1).trans (congrArg (x_iconst 1) (xe_goto 41)))))))))))))))))))))))))))))))))))))))
theorem bk_X11_hasEntered_48 : ck_ fX11 (some .boolean) cX11_hasEntered 48 [.iload 3, .ireturn] 50 = true := qck_r (nn_ _) (by decide +kernel)
theorem bs_X11_hasEntered_48 {P : Zt → Option Zv → Prop} (K : Int → Zl → List Zv → Zt → Prop) : sx_ K P [.iload 3, .ireturn] 50 = x_iload 3 (x_ireturn P) := ((xe_iload 3).trans (congrArg (x_iload 3) (xe_ireturn)))
theorem bk_X11_hasEntered_36 : ck_ fX11 (some .boolean) cX11_hasEntered 36 [.iconst 1, .goto 41] 40 = true := qck_r (nn_ _) (by decide +kernel)
theorem bs_X11_hasEntered_36 {P : Zt → Option Zv → Prop} (K : Int → Zl → List Zv → Zt → Prop) : sx_ K P [.iconst 1, .goto 41] 40 = x_iconst 1 (x_goto 41 K) := ((xe_iconst 1).trans (congrArg (x_iconst 1) (xe_goto 41)))
theorem bk_X11_hasEntered_40 : ck_ fX11 (some .boolean) cX11_hasEntered 40 [.iconst 0] 41 = true := qck_r (nn_ _) (by decide +kernel)
theorem bs_X11_hasEntered_40 {P : Zt → Option Zv → Prop} (K : Int → Zl → List Zv → Zt → Prop) : sx_ K P [.iconst 0] 41 = x_iconst 0 (K 41) := ((xe_iconst 0).trans (congrArg (x_iconst 0) xe_nil))
theorem bk_X11_hasEntered_0 : ck_ fX11 (some .boolean) cX11_hasEntered 0 [.iconst 0, .istore 3, .iconst 0, .istore 4] 5 = true := qck_r (nn_ _) (by decide +kernel)
theorem bs_X11_hasEntered_0 {P : Zt → Option Zv → Prop} (K : Int → Zl → List Zv → Zt → Prop) : sx_ K P [.iconst 0, .istore 3, .iconst 0, .istore 4] 5 = x_iconst 0 (x_istore 3 (x_iconst 0 (x_istore 4 (K 5)))) := ((xe_iconst 0).trans (congrArg (x_iconst 0) ((xe_istore 3).trans (congrArg (x_istore 3) ((xe_iconst 0).trans (congrArg (x_iconst 0) ((xe_istore 4).trans (congrArg (x_istore 4) xe_nil))))))))
abbrev po_X11_hasEntered (T : Zt) (c cl : Int) : Zt → Option Zv → Prop := fun T' r => T = T' ∧ ∃ x : Int, r = some (vI x) ∧ ((x = 1 ∧ HE_ T c cl) ∨ (x = 0 ∧ ¬ HE_ T c cl))
set_option maxHeartbeats 4000000 in
theorem ct_X11_hasEntered {T : Zt} {c cl : Int} (h1 : 0 ≤ c ∧ c < 4) : Ct_ yX11_hasEntered zX11_hasEntered T [vR 111 0, vI c, vI cl] (po_X11_hasEntered T c cl) := by
  refine ct_of pn_11 rfl rfl (Nat.le_of_ble_eq_true rfl) (fun hT hav => ?_)
  have hr_c : -2147483648 ≤ c ∧ c ≤ 2147483647 := hav (vI c) (by simp)
  have hr_cl : -2147483648 ≤ cl ∧ cl ≤ 2147483647 := hav (vI cl) (by simp)
  have hz : zX11_hasEntered.2.2.2.1 = some .boolean → ∀ (T' : Zt) (x : Int), po_X11_hasEntered T c cl T' (some (vI x)) → 0 ≤ x ∧ x ≤ 1 := fun _ T' x h => by obtain ⟨-, y, e, hy⟩ := h; cases e; omega
  show J_ zX11_hasEntered T (po_X11_hasEntered T c cl) 0 0 0 [some (vR 111 0), some (vI c), some (vI cl), none, none] [] T
  have c_5 : ∀ (nn : Nat) (h : Int) (k : Int), ((12 - k).toNat) ≤ nn → (0 ≤ k) → ((h = 1 ∧ ∃ j, 0 ≤ j ∧ j < T 208 0 c ∧ T 207 0 (12 * c + j) = cl) ∨ (h = 0 ∧ ∀ j, 0 ≤ j → j < k → T 207 0 (12 * c + j) ≠ cl)) → J_ zX11_hasEntered T (po_X11_hasEntered T c cl) 0 0 5 [some (vR 111 0), some (vI c), some (vI cl), some (vI h), some (vI k)] [] T := by
    intro nn
    induction nn using Nat.strongRecOn with
    | _ nn ih_5 =>
      intro h k hm_5 k1 k2
      have c_41 : ∀ (v : Int), (k < T 208 0 c ∧ T 208 0 c ≤ 12) → ((v = 1 ∧ ∃ j, 0 ≤ j ∧ j < T 208 0 c ∧ T 207 0 (12 * c + j) = cl) ∨ (v = 0 ∧ ∀ j, 0 ≤ j → j < k + 1 → T 207 0 (12 * c + j) ≠ cl)) → J_ zX11_hasEntered T (po_X11_hasEntered T c cl) 0 0 41 [some (vR 111 0), some (vI c), some (vI cl), some (vI h), some (vI k)] [vI v] T := by
        intro v v0 v1
        refine j_blx (F := fX11) tb_X11 (nn_ _) bk_X11_hasEntered_41 bs_X11_hasEntered_41 hz (fun K hK => ?_)
        refine rg_i (by omega) ?_
        refine hK 5 [some (vR 111 0), some (vI c), some (vI cl), some (vI v), some (vI (k + 1))] [] T ?_
        refine ih_5 _ ?_ v (k + 1) (Nat.le_refl _) ?_ ?_
        · clear k2 v1; omega
        · omega
        · exact v1
      refine j_blx (F := fX11) tb_X11 (nn_ _) bk_X11_hasEntered_5 bs_X11_hasEntered_5 hz (fun K hK => ?_)
      refine ix_i (by omega) ?_
      intro b1 b1b
      refine And.intro (fun c2 => ?_) (fun c2 => ?_)
      · refine hK 48 _ [] T ?_
        refine j_blx (F := fX11) tb_X11 (nn_ _) bk_X11_hasEntered_48 bs_X11_hasEntered_48 hz (fun K hK => ?_)
        refine (show po_X11_hasEntered T c cl T (some (vI h)) from ?_)
        exact ⟨rfl, _, rfl, k2.imp id (fun z => ⟨z.1, fun ⟨j, a, b, e9⟩ => z.2 j a (by omega) e9⟩)⟩
      · refine And.intro (fun c3 => ?_) (fun c3 => ?_)
        · refine hK 36 _ [] T ?_
          refine j_blx (F := fX11) tb_X11 (nn_ _) bk_X11_hasEntered_36 bs_X11_hasEntered_36 hz (fun K hK => ?_)
          refine hK 41 _ [vI 1] T ?_
          refine c_41 1 ?_ ?_
          · omega
          · first | exact Or.inl ⟨rfl, k, k1, by omega, by omega⟩ | (rcases k2 with z | z; exact Or.inl ⟨rfl, z.2⟩; omega)
        · refine rg_i (by omega) ?_
          refine rg_i (by omega) ?_
          refine ix_i (by omega) ?_
          intro b4 b4b
          refine And.intro (fun c5 => ?_) (fun c5 => ?_)
          · refine hK 40 _ [] T ?_
            refine j_blx (F := fX11) tb_X11 (nn_ _) bk_X11_hasEntered_40 bs_X11_hasEntered_40 hz (fun K hK => ?_)
            refine hK 41 _ [vI 0] T ?_
            refine c_41 0 ?_ ?_
            · omega
            · refine Or.inr ⟨rfl, fun j a b => ?_⟩
              rcases k2 with z | z
              · omega
              · by_cases e : j = k
                · subst e; omega
                · exact z.2 j a (by omega)
          · refine hK 41 _ [vI 1] T ?_
            refine c_41 1 ?_ ?_
            · omega
            · first | exact Or.inl ⟨rfl, k, k1, by omega, by omega⟩ | (rcases k2 with z | z; exact Or.inl ⟨rfl, z.2⟩; omega)
  refine j_blx (F := fX11) tb_X11 (nn_ _) bk_X11_hasEntered_0 bs_X11_hasEntered_0 hz (fun K hK => ?_)
  refine hK 5 [some (vR 111 0), some (vI c), some (vI cl), some (vI 0), some (vI 0)] [] T ?_
  refine c_5 _ 0 0 (Nat.le_refl _) ?_ ?_
  · omega
  · exact Or.inr ⟨rfl, fun j a b => by omega⟩
theorem ph_n : ∀ (m n : Nat) (f : Nat → Nat), (∀ i, i < n → f i < m) → (∀ i j, i < n → j < n → f i = f j → i = j) → n ≤ m
  | 0, 0, _, _, _ => Nat.le_refl 0
  | 0, n + 1, f, h, _ => absurd (h 0 (by omega)) (by omega)
  | m + 1, 0, _, _, _ => by omega
  | m + 1, k + 1, f, h, g => by
    have := ph_n m k (fun i => if f i = m then f k else f i) (fun i hi => by
      have hk := h k (by omega)
      have h1 := h i (by omega)
      by_cases e : f i = m
      · simp only [e, if_true]
        have : f k ≠ m := fun z => absurd (g i k (by omega) (by omega) (e.trans z.symm)) (by omega)
        omega
      · simp only [e, if_false]; omega) (fun i j hi hj e => by
      by_cases a : f i = m <;> by_cases b : f j = m
      · exact g i j (by omega) (by omega) (a.trans b.symm)
      · simp only [a, b, if_true, if_false] at e
        exact absurd (g k j (by omega) (by omega) e) (by omega)
      · simp only [a, b, if_true, if_false] at e
        exact absurd (g i k (by omega) (by omega) e) (by omega)
      · simp only [a, b, if_false] at e
        exact g i j (by omega) (by omega) e)
    omega
theorem ph_i {n m : Int} (f : Int → Int) (h0 : 0 ≤ n) (hm : 0 ≤ m) (h : ∀ i, 0 ≤ i → i < n → 0 ≤ f i ∧ f i < m) (g : ∀ i j, 0 ≤ i → i < j → j < n → f i ≠ f j) : n ≤ m := by
  have := ph_n m.toNat n.toNat (fun i => (f i).toNat) (fun i hi => by have := h i (by omega) (by omega); omega) (fun i j hi hj e => by
    have h1 := h i (by omega) (by omega)
    have h2 := h j (by omega) (by omega)
    have e2 : f i = f j := by omega
    rcases Nat.lt_trichotomy i j with z | z | z
    · exact absurd e2 (g i j (by omega) (by omega) (by omega))
    · exact z
    · exact absurd e2.symm (g j i (by omega) (by omega) (by omega)))
  omega
def EN_ (T : Zt) : Prop := ∀ c : Int, 0 ≤ c → c < 4 → (∀ j : Int, 0 ≤ j → j < T 208 0 c → 0 ≤ T 207 0 (12 * c + j) ∧ T 207 0 (12 * c + j) < T 111 0 12) ∧ (∀ i j : Int, 0 ≤ i → i < j → j < T 208 0 c → T 207 0 (12 * c + i) ≠ T 207 0 (12 * c + j))
theorem EN__f {ws : List (Nat × List Int)} {T T' : Zt} (h : EN_ T) (f : fr_ ws T T') (w : (∀ j, fw_ ws 208 j = false) ∧ (∀ j, fw_ ws 207 j = false) ∧ fw_ ws 111 12 = false ∧ True) : EN_ T' := by
  have e0 : ∀ i j, T' 208 i j = T 208 i j := fun i j => f 208 i j (w.1 j)
  have e1 : ∀ i j, T' 207 i j = T 207 i j := fun i j => f 207 i j (w.2.1 j)
  have e2 : ∀ i, T' 111 i 12 = T 111 i 12 := fun i => f 111 i 12 w.2.2.1
  simp only [EN_, e0, e1, e2] at h ⊢
  exact h
abbrev cX11_enter : ByteArray := prog_13_method_28_code
def yX11_enter : MethodName := ⟨RX11, "enter", "(II)I"⟩
def zX11_enter : Zm := (RX11, cX11_enter, 3, (some .int), { frames := 2, cells := 0, slots := 0, locals := 43 })
set_option maxRecDepth 100000 in
theorem cl_X11_340 : cv_ RX11 340 yX11_hasEntered zX11_hasEntered 11 2 := ⟨gi_V (lw_b8 183 (by decide +kernel) rfl : Cond.methodLink RX11 340 yX11_hasEntered ∈ lw_g) (lw_b8 185 (by decide +kernel) rfl : Cond.instanceMethod yX11_hasEntered ∈ lw_g) (lw_sel 19 rfl : Cond.selects yX11_hasEntered.cls yX11_hasEntered yX11_hasEntered ∈ lw_g) (lw_b1 10 (by decide +kernel) rfl : Cond.initialized yX11_hasEntered.cls ∈ lw_g) (lw_b8 186 rfl rfl : Cond.code yX11_hasEntered cX11_hasEntered 5 (some .boolean) ∈ lw_g), ⟨by decide, by decide, by decide +kernel⟩, ⟨_, _, rfl⟩⟩
abbrev po_X11_enter (T : Zt) (c cl : Int) : Zt → Option Zv → Prop := fun T' r => ∃ x : Int, r = some (vI x) ∧ fr_ [(207, []), (208, [])] T T' ∧ (EN_ T')
abbrev cX11_match : ByteArray := prog_13_method_31_code
def yX11_match : MethodName := ⟨RX11, "match", "(II)I"⟩
def zX11_match : Zm := (RX11, cX11_match, 3, (some .int), { frames := 2, cells := 0, slots := 0, locals := 43 })
theorem ds_X11_match_15 : decode cX11_match 15 = .ok (.tableswitch 90 0 6 #[41, 48, 55, 62, 69, 76, 83], 41) := by decide +kernel
abbrev cX11_moved : ByteArray := prog_13_method_37_code
def yX11_moved : MethodName := ⟨RX11, "moved", "(I)I"⟩
def zX11_moved : Zm := (RX11, cX11_moved, 2, (some .int), { frames := 2, cells := 0, slots := 0, locals := 43 })
abbrev cX11_officialOf : ByteArray := prog_13_method_128_code
def yX11_officialOf : MethodName := ⟨RX11, "officialOf", "(I)I"⟩
def zX11_officialOf : Zm := (RX11, cX11_officialOf, 2, (some .int), { frames := 2, cells := 0, slots := 0, locals := 43 })
theorem bk_X11_officialOf_0 : ck_ fX11 (some .int) cX11_officialOf 0 [.iload 1, .aload 0, .tableswitch 0 11 29 #[]] 5 = true := qck_r (nn_ _) (by decide +kernel)
theorem bs_X11_officialOf_0 {P : Zt → Option Zv → Prop} (K : Int → Zl → List Zv → Zt → Prop) : sx_ K P [.iload 1, .aload 0, .tableswitch 0 11 29 #[]] 5 = x_iload 1 (x_aload 0 (x_g0 111 29 0 400 (K 5))) := ((xe_iload 1).trans (congrArg (x_iload 1) ((xe_aload 0).trans (congrArg (x_aload 0) ((xe_g0 (kk := 111) rfl tl_11_29).trans (congrArg (x_g0 111 29 0 400) xe_nil))))))
theorem bk_X11_officialOf_8 : ck_ fX11 (some .int) cX11_officialOf 8 [.ifCond .eq 20, .aload 0, .tableswitch 0 11 38 #[], .iload 1, .iaload, .goto 22] 20 = true := qck_r (nn_ _) (by decide +kernel)
theorem bs_X11_officialOf_8 {P : Zt → Option Zv → Prop} (K : Int → Zl → List Zv → Zt → Prop) : sx_ K P [.ifCond .eq 20, .aload 0, .tableswitch 0 11 38 #[], .iload 1, .iaload, .goto 22] 20 = x_ifCond .eq 20 K (x_aload 0 (x_g1 111 238 (x_iload 1 (x_iaload (x_goto 22 K))))) := ((xe_ifCond .eq 20).trans (congrArg (x_ifCond .eq 20 K) ((xe_aload 0).trans (congrArg (x_aload 0) ((xe_g1 (kk := 111) rfl tl_11_38).trans (congrArg (x_g1 111 238) ((xe_iload 1).trans (congrArg (x_iload 1) ((xe_iaload).trans (congrArg (x_iaload) (xe_goto 22)))))))))))
theorem bk_X11_officialOf_20 : ck_ fX11 (some .int) cX11_officialOf 20 [.iconst (-2), .ireturn] 23 = true := qck_r (nn_ _) (by decide +kernel)
theorem bs_X11_officialOf_20 {P : Zt → Option Zv → Prop} (K : Int → Zl → List Zv → Zt → Prop) : sx_ K P [.iconst (-2), .ireturn] 23 = x_iconst (-2) (x_ireturn P) := ((xe_iconst (-2)).trans (congrArg (x_iconst (-2)) (xe_ireturn)))
theorem bk_X11_officialOf_22 : ck_ fX11 (some .int) cX11_officialOf 22 [.ireturn] 23 = true := qck_r (nn_ _) (by decide +kernel)
theorem bs_X11_officialOf_22 {P : Zt → Option Zv → Prop} (K : Int → Zl → List Zv → Zt → Prop) : sx_ K P [.ireturn] 23 = x_ireturn P := (xe_ireturn)
abbrev po_X11_officialOf (T : Zt) (m : Int) : Zt → Option Zv → Prop := fun T' r => T = T' ∧ ∃ x : Int, r = some (vI x) ∧ (True)
set_option maxHeartbeats 4000000 in
theorem ct_X11_officialOf {T : Zt} {m : Int} : Ct_ yX11_officialOf zX11_officialOf T [vR 111 0, vI m] (po_X11_officialOf T m) := by
  refine ct_of pn_11 rfl rfl (Nat.le_of_ble_eq_true rfl) (fun hT hav => ?_)
  have hr_m : -2147483648 ≤ m ∧ m ≤ 2147483647 := hav (vI m) (by simp)
  have hz : zX11_officialOf.2.2.2.1 = some .boolean → ∀ (T' : Zt) (x : Int), po_X11_officialOf T m T' (some (vI x)) → 0 ≤ x ∧ x ≤ 1 := fun h => by cases h
  show J_ zX11_officialOf T (po_X11_officialOf T m) 0 0 0 [some (vR 111 0), some (vI m)] [] T
  refine j_blx (F := fX11) tb_X11 (nn_ _) bk_X11_officialOf_0 bs_X11_officialOf_0 hz (fun K hK => ?_)
  intro b1 b1b
  refine hK 5 _ [vI (T 111 0 29), vI m] T ?_
  refine j_callS (y := yX11_isOf) (Yc := zX11_isOf) (rest := []) [vI m, vI (T 111 0 29)] (ct_X11_isOf (T := T) (by omega)) cl_X11_317 (qd_c (by decide +kernel)) (nn_ _) rfl (rf_of rfl) (Nat.le_of_ble_eq_true rfl) (Nat.le_of_ble_eq_true rfl) (Nat.le_of_ble_eq_true rfl) rfl ?_
  rintro _ _ ⟨rfl, x2, rfl, hx2⟩
  show J_ zX11_officialOf T (po_X11_officialOf T m) 0 0 8 _ [vI x2] T
  refine j_blx (F := fX11) tb_X11 (nn_ _) bk_X11_officialOf_8 bs_X11_officialOf_8 hz (fun K hK => ?_)
  refine And.intro (fun c3 => ?_) (fun c3 => ?_)
  · refine hK 20 _ [] T ?_
    refine j_blx (F := fX11) tb_X11 (nn_ _) bk_X11_officialOf_20 bs_X11_officialOf_20 hz (fun K hK => ?_)
    refine (show po_X11_officialOf T m T (some (vI (-2))) from ?_)
    exact ⟨rfl, _, rfl, by trivial⟩
  · refine ix_i (by omega) ?_
    intro b4 b4b
    refine hK 22 _ [vI (T 238 0 m)] T ?_
    refine j_blx (F := fX11) tb_X11 (nn_ _) bk_X11_officialOf_22 bs_X11_officialOf_22 hz (fun K hK => ?_)
    refine (show po_X11_officialOf T m T (some (vI (T 238 0 m))) from ?_)
    exact ⟨rfl, _, rfl, by trivial⟩
abbrev cX11_count : ByteArray := prog_13_method_129_code
def yX11_count : MethodName := ⟨RX11, "count", "(I)I"⟩
def zX11_count : Zm := (RX11, cX11_count, 2, (some .int), { frames := 0, cells := 0, slots := 0, locals := 0 })
theorem ds_X11_count_1 : decode cX11_count 1 = .ok (.tableswitch 78 0 6 #[43, 48, 53, 58, 63, 68, 73], 43) := by decide +kernel
abbrev cX11_cut : ByteArray := prog_13_method_109_code
def yX11_cut : MethodName := ⟨RX11, "cut", "()I"⟩
def zX11_cut : Zm := (RX11, cX11_cut, 1, (some .int), { frames := 0, cells := 0, slots := 0, locals := 0 })
theorem bk_X11_cut_0 : ck_ fX11 (some .int) cX11_cut 0 [.aload 0, .tableswitch 0 11 90 #[], .ireturn] 5 = true := qck_r (nn_ _) (by decide +kernel)
theorem bs_X11_cut_0 {P : Zt → Option Zv → Prop} (K : Int → Zl → List Zv → Zt → Prop) : sx_ K P [.aload 0, .tableswitch 0 11 90 #[], .ireturn] 5 = x_aload 0 (x_g0 111 90 0 4095 (x_ireturn P)) := ((xe_aload 0).trans (congrArg (x_aload 0) ((xe_g0 (kk := 111) rfl tl_11_90).trans (congrArg (x_g0 111 90 0 4095) (xe_ireturn)))))
abbrev po_X11_cut (T : Zt) : Zt → Option Zv → Prop := fun T' r => T = T' ∧ ∃ x : Int, r = some (vI x) ∧ (True)
set_option maxHeartbeats 4000000 in
theorem ct_X11_cut {T : Zt} : Ct_ yX11_cut zX11_cut T [vR 111 0] (po_X11_cut T) := by
  refine ct_of pn_11 rfl rfl (Nat.le_of_ble_eq_true rfl) (fun hT hav => ?_)
  have hz : zX11_cut.2.2.2.1 = some .boolean → ∀ (T' : Zt) (x : Int), po_X11_cut T T' (some (vI x)) → 0 ≤ x ∧ x ≤ 1 := fun h => by cases h
  show J_ zX11_cut T (po_X11_cut T) 0 0 0 [some (vR 111 0)] [] T
  refine j_blx (F := fX11) tb_X11 (nn_ _) bk_X11_cut_0 bs_X11_cut_0 hz (fun K hK => ?_)
  intro b1 b1b
  refine (show po_X11_cut T T (some (vI (T 111 0 90))) from ?_)
  exact ⟨rfl, _, rfl, by trivial⟩
abbrev cX11_drawn : ByteArray := prog_13_method_121_code
def yX11_drawn : MethodName := ⟨RX11, "drawn", "(I)I"⟩
def zX11_drawn : Zm := (RX11, cX11_drawn, 2, (some .int), { frames := 2, cells := 0, slots := 0, locals := 43 })
abbrev cX11_witness : ByteArray := prog_13_method_108_code
def yX11_witness : MethodName := ⟨RX11, "witness", "(I)I"⟩
def zX11_witness : Zm := (RX11, cX11_witness, 2, (some .int), { frames := 2, cells := 0, slots := 0, locals := 43 })
theorem bk_X11_witness_0 : ck_ fX11 (some .int) cX11_witness 0 [.iload 1, .aload 0, .tableswitch 0 11 29 #[]] 5 = true := qck_r (nn_ _) (by decide +kernel)
theorem bs_X11_witness_0 {P : Zt → Option Zv → Prop} (K : Int → Zl → List Zv → Zt → Prop) : sx_ K P [.iload 1, .aload 0, .tableswitch 0 11 29 #[]] 5 = x_iload 1 (x_aload 0 (x_g0 111 29 0 400 (K 5))) := ((xe_iload 1).trans (congrArg (x_iload 1) ((xe_aload 0).trans (congrArg (x_aload 0) ((xe_g0 (kk := 111) rfl tl_11_29).trans (congrArg (x_g0 111 29 0 400) xe_nil))))))
theorem bk_X11_witness_8 : ck_ fX11 (some .int) cX11_witness 8 [.ifCond .ne 14, .iconst (-2), .ireturn] 14 = true := qck_r (nn_ _) (by decide +kernel)
theorem bs_X11_witness_8 {P : Zt → Option Zv → Prop} (K : Int → Zl → List Zv → Zt → Prop) : sx_ K P [.ifCond .ne 14, .iconst (-2), .ireturn] 14 = x_ifCond .ne 14 K (x_iconst (-2) (x_ireturn P)) := ((xe_ifCond .ne 14).trans (congrArg (x_ifCond .ne 14 K) ((xe_iconst (-2)).trans (congrArg (x_iconst (-2)) (xe_ireturn)))))
theorem bk_X11_witness_14 : ck_ fX11 (some .int) cX11_witness 14 [.aload 0, .tableswitch 0 11 88 #[], .iconst (-1), .if_icmp .eq 35, .aload 0, .tableswitch 0 11 30 #[], .iload 1, .iaload, .aload 0, .tableswitch 0 11 88 #[], .if_icmp .eq 39, .iconst (-1), .goto 45] 39 = true := qck_r (nn_ _) (by decide +kernel)
theorem bs_X11_witness_14 {P : Zt → Option Zv → Prop} (K : Int → Zl → List Zv → Zt → Prop) : sx_ K P [.aload 0, .tableswitch 0 11 88 #[], .iconst (-1), .if_icmp .eq 35, .aload 0, .tableswitch 0 11 30 #[], .iload 1, .iaload, .aload 0, .tableswitch 0 11 88 #[], .if_icmp .eq 39, .iconst (-1), .goto 45] 39 = x_aload 0 (x_g0 111 88 (-1) 3 (x_iconst (-1) (x_if_icmp .eq 35 K (x_aload 0 (x_g1 111 230 (x_iload 1 (x_iaload (x_aload 0 (x_g0 111 88 (-1) 3 (x_if_icmp .eq 39 K (x_iconst (-1) (x_goto 45 K)))))))))))) := ((xe_aload 0).trans (congrArg (x_aload 0) ((xe_g0 (kk := 111) rfl tl_11_88).trans (congrArg (x_g0 111 88 (-1) 3) ((xe_iconst (-1)).trans (congrArg (x_iconst (-1)) ((xe_if_icmp .eq 35).trans (congrArg (x_if_icmp .eq 35 K) ((xe_aload 0).trans (congrArg (x_aload 0) ((xe_g1 (kk := 111) rfl tl_11_30).trans (congrArg (x_g1 111 230) ((xe_iload 1).trans (congrArg (x_iload 1) ((xe_iaload).trans (congrArg (x_iaload) ((xe_aload 0).trans (congrArg (x_aload 0) ((xe_g0 (kk := 111) rfl tl_11_88).trans (congrArg (x_g0 111 88 (-1) 3) ((xe_if_icmp .eq 39).trans (congrArg (x_if_icmp .eq 39 K) ((xe_iconst (-1)).trans (congrArg (x_iconst (-1)) (xe_goto 45)))))))))))))))))))))))))
theorem bk_X11_witness_35 : ck_ fX11 (some .int) cX11_witness 35 [.iconst (-1), .goto 45] 39 = true := qck_r (nn_ _) (by decide +kernel)
theorem bs_X11_witness_35 {P : Zt → Option Zv → Prop} (K : Int → Zl → List Zv → Zt → Prop) : sx_ K P [.iconst (-1), .goto 45] 39 = x_iconst (-1) (x_goto 45 K) := ((xe_iconst (-1)).trans (congrArg (x_iconst (-1)) (xe_goto 45)))
theorem bk_X11_witness_45 : ck_ fX11 (some .int) cX11_witness 45 [.ireturn] 46 = true := qck_r (nn_ _) (by decide +kernel)
theorem bs_X11_witness_45 {P : Zt → Option Zv → Prop} (K : Int → Zl → List Zv → Zt → Prop) : sx_ K P [.ireturn] 46 = x_ireturn P := (xe_ireturn)
theorem bk_X11_witness_39 : ck_ fX11 (some .int) cX11_witness 39 [.aload 0, .tableswitch 0 11 89 #[], .iload 1, .iaload, .ireturn] 46 = true := qck_r (nn_ _) (by decide +kernel)
theorem bs_X11_witness_39 {P : Zt → Option Zv → Prop} (K : Int → Zl → List Zv → Zt → Prop) : sx_ K P [.aload 0, .tableswitch 0 11 89 #[], .iload 1, .iaload, .ireturn] 46 = x_aload 0 (x_g1 111 289 (x_iload 1 (x_iaload (x_ireturn P)))) := ((xe_aload 0).trans (congrArg (x_aload 0) ((xe_g1 (kk := 111) rfl tl_11_89).trans (congrArg (x_g1 111 289) ((xe_iload 1).trans (congrArg (x_iload 1) ((xe_iaload).trans (congrArg (x_iaload) (xe_ireturn)))))))))
abbrev po_X11_witness (T : Zt) (m : Int) : Zt → Option Zv → Prop := fun T' r => T = T' ∧ ∃ x : Int, r = some (vI x) ∧ (True)
set_option maxHeartbeats 4000000 in
theorem ct_X11_witness {T : Zt} {m : Int} : Ct_ yX11_witness zX11_witness T [vR 111 0, vI m] (po_X11_witness T m) := by
  refine ct_of pn_11 rfl rfl (Nat.le_of_ble_eq_true rfl) (fun hT hav => ?_)
  have hr_m : -2147483648 ≤ m ∧ m ≤ 2147483647 := hav (vI m) (by simp)
  have hz : zX11_witness.2.2.2.1 = some .boolean → ∀ (T' : Zt) (x : Int), po_X11_witness T m T' (some (vI x)) → 0 ≤ x ∧ x ≤ 1 := fun h => by cases h
  show J_ zX11_witness T (po_X11_witness T m) 0 0 0 [some (vR 111 0), some (vI m)] [] T
  refine j_blx (F := fX11) tb_X11 (nn_ _) bk_X11_witness_0 bs_X11_witness_0 hz (fun K hK => ?_)
  intro b1 b1b
  refine hK 5 _ [vI (T 111 0 29), vI m] T ?_
  refine j_callS (y := yX11_isOf) (Yc := zX11_isOf) (rest := []) [vI m, vI (T 111 0 29)] (ct_X11_isOf (T := T) (by omega)) cl_X11_317 (qd_c (by decide +kernel)) (nn_ _) rfl (rf_of rfl) (Nat.le_of_ble_eq_true rfl) (Nat.le_of_ble_eq_true rfl) (Nat.le_of_ble_eq_true rfl) rfl ?_
  rintro _ _ ⟨rfl, x2, rfl, hx2⟩
  show J_ zX11_witness T (po_X11_witness T m) 0 0 8 _ [vI x2] T
  refine j_blx (F := fX11) tb_X11 (nn_ _) bk_X11_witness_8 bs_X11_witness_8 hz (fun K hK => ?_)
  refine And.intro (fun c3 => ?_) (fun c3 => ?_)
  · refine hK 14 _ [] T ?_
    refine j_blx (F := fX11) tb_X11 (nn_ _) bk_X11_witness_14 bs_X11_witness_14 hz (fun K hK => ?_)
    intro b4 b4b
    refine And.intro (fun c5 => ?_) (fun c5 => ?_)
    · refine hK 35 _ [] T ?_
      refine j_blx (F := fX11) tb_X11 (nn_ _) bk_X11_witness_35 bs_X11_witness_35 hz (fun K hK => ?_)
      refine hK 45 _ [vI (-1)] T ?_
      refine j_blx (F := fX11) tb_X11 (nn_ _) bk_X11_witness_45 bs_X11_witness_45 hz (fun K hK => ?_)
      refine (show po_X11_witness T m T (some (vI (-1))) from ?_)
      exact ⟨rfl, _, rfl, by trivial⟩
    · refine ix_i (by omega) ?_
      intro b6 b6b
      intro b7 b7b
      refine And.intro (fun c8 => ?_) (fun c8 => ?_)
      · refine hK 39 _ [] T ?_
        refine j_blx (F := fX11) tb_X11 (nn_ _) bk_X11_witness_39 bs_X11_witness_39 hz (fun K hK => ?_)
        refine ix_i (by omega) ?_
        intro b9 b9b
        refine (show po_X11_witness T m T (some (vI (T 289 0 m))) from ?_)
        exact ⟨rfl, _, rfl, by trivial⟩
      · refine hK 45 _ [vI (-1)] T ?_
        refine j_blx (F := fX11) tb_X11 (nn_ _) bk_X11_witness_45 bs_X11_witness_45 hz (fun K hK => ?_)
        refine (show po_X11_witness T m T (some (vI (-1))) from ?_)
        exact ⟨rfl, _, rfl, by trivial⟩
  · refine (show po_X11_witness T m T (some (vI (-2))) from ?_)
    exact ⟨rfl, _, rfl, by trivial⟩
abbrev cX11_drawing : ByteArray := prog_13_method_111_code
def yX11_drawing : MethodName := ⟨RX11, "drawing", "(II)I"⟩
def zX11_drawing : Zm := (RX11, cX11_drawing, 4, (some .int), { frames := 1, cells := 0, slots := 0, locals := 22 })
abbrev po_X11_drawing (T : Zt) (g l : Int) : Zt → Option Zv → Prop := fun T' r => ∃ x : Int, r = some (vI x) ∧ fr_ [(111, [98, 99, 100]), (301, []), (302, [])] T T' ∧ ((x = -3 ∧ ¬ (1 ≤ g ∧ g ≤ 4 ∧ 1 ≤ l ∧ l ≤ 3)) ∨ (x = 1 ∧ 1 ≤ g ∧ g ≤ 4 ∧ 1 ≤ l ∧ l ≤ 3))
abbrev cX11_isInDraw : ByteArray := prog_13_method_112_code
def yX11_isInDraw : MethodName := ⟨RX11, "isInDraw", "(I)Z"⟩
def zX11_isInDraw : Zm := (RX11, cX11_isInDraw, 2, (some .boolean), { frames := 0, cells := 0, slots := 0, locals := 0 })
theorem bk_X11_isInDraw_0 : ck_ fX11 (some .boolean) cX11_isInDraw 0 [.aload 0, .tableswitch 0 11 98 #[], .ifCond .eq 21, .aload 0, .tableswitch 0 11 101 #[], .iload 1, .iaload, .iconst (-1), .if_icmp .eq 21, .iconst 1, .goto 22] 21 = true := qck_r (nn_ _) (by decide +kernel)
theorem bs_X11_isInDraw_0 {P : Zt → Option Zv → Prop} (K : Int → Zl → List Zv → Zt → Prop) : sx_ K P [.aload 0, .tableswitch 0 11 98 #[], .ifCond .eq 21, .aload 0, .tableswitch 0 11 101 #[], .iload 1, .iaload, .iconst (-1), .if_icmp .eq 21, .iconst 1, .goto 22] 21 = x_aload 0 (x_g0 111 98 0 1 (x_ifCond .eq 21 K (x_aload 0 (x_g1 111 301 (x_iload 1 (x_iaload (x_iconst (-1) (x_if_icmp .eq 21 K (x_iconst 1 (x_goto 22 K)))))))))) := ((xe_aload 0).trans (congrArg (x_aload 0) ((xe_g0 (kk := 111) rfl tl_11_98).trans (congrArg (x_g0 111 98 0 1) ((xe_ifCond .eq 21).trans (congrArg (x_ifCond .eq 21 K) ((xe_aload 0).trans (congrArg (x_aload 0) ((xe_g1 (kk := 111) rfl tl_11_101).trans (congrArg (x_g1 111 301) ((xe_iload 1).trans (congrArg (x_iload 1) ((xe_iaload).trans (congrArg (x_iaload) ((xe_iconst (-1)).trans (congrArg (x_iconst (-1)) ((xe_if_icmp .eq 21).trans (congrArg (x_if_icmp .eq 21 K) ((xe_iconst 1).trans (congrArg (x_iconst 1) (xe_goto 22)))))))))))))))))))))
theorem bk_X11_isInDraw_21 : ck_ fX11 (some .boolean) cX11_isInDraw 21 [.iconst 0, .ireturn] 23 = true := qck_r (nn_ _) (by decide +kernel)
theorem bs_X11_isInDraw_21 {P : Zt → Option Zv → Prop} (K : Int → Zl → List Zv → Zt → Prop) : sx_ K P [.iconst 0, .ireturn] 23 = x_iconst 0 (x_ireturn P) := ((xe_iconst 0).trans (congrArg (x_iconst 0) (xe_ireturn)))
theorem bk_X11_isInDraw_22 : ck_ fX11 (some .boolean) cX11_isInDraw 22 [.ireturn] 23 = true := qck_r (nn_ _) (by decide +kernel)
theorem bs_X11_isInDraw_22 {P : Zt → Option Zv → Prop} (K : Int → Zl → List Zv → Zt → Prop) : sx_ K P [.ireturn] 23 = x_ireturn P := (xe_ireturn)
abbrev po_X11_isInDraw (T : Zt) (c : Int) : Zt → Option Zv → Prop := fun T' r => T = T' ∧ ∃ x : Int, r = some (vI x) ∧ ((x = 1 ∧ T 111 0 98 ≠ 0 ∧ T 301 0 c ≠ -1) ∨ (x = 0 ∧ ¬ (T 111 0 98 ≠ 0 ∧ T 301 0 c ≠ -1)))
set_option maxHeartbeats 4000000 in
theorem ct_X11_isInDraw {T : Zt} {c : Int} (h1 : 0 ≤ c ∧ c < 12) : Ct_ yX11_isInDraw zX11_isInDraw T [vR 111 0, vI c] (po_X11_isInDraw T c) := by
  refine ct_of pn_11 rfl rfl (Nat.le_of_ble_eq_true rfl) (fun hT hav => ?_)
  have hr_c : -2147483648 ≤ c ∧ c ≤ 2147483647 := hav (vI c) (by simp)
  have hz : zX11_isInDraw.2.2.2.1 = some .boolean → ∀ (T' : Zt) (x : Int), po_X11_isInDraw T c T' (some (vI x)) → 0 ≤ x ∧ x ≤ 1 := fun _ T' x h => by obtain ⟨-, y, e, hy⟩ := h; cases e; omega
  show J_ zX11_isInDraw T (po_X11_isInDraw T c) 0 0 0 [some (vR 111 0), some (vI c)] [] T
  refine j_blx (F := fX11) tb_X11 (nn_ _) bk_X11_isInDraw_0 bs_X11_isInDraw_0 hz (fun K hK => ?_)
  intro b1 b1b
  refine And.intro (fun c2 => ?_) (fun c2 => ?_)
  · refine hK 21 _ [] T ?_
    refine j_blx (F := fX11) tb_X11 (nn_ _) bk_X11_isInDraw_21 bs_X11_isInDraw_21 hz (fun K hK => ?_)
    refine (show po_X11_isInDraw T c T (some (vI 0)) from ?_)
    exact ⟨rfl, _, rfl, by omega⟩
  · refine ix_i (by omega) ?_
    intro b3 b3b
    refine And.intro (fun c4 => ?_) (fun c4 => ?_)
    · refine hK 21 _ [] T ?_
      refine j_blx (F := fX11) tb_X11 (nn_ _) bk_X11_isInDraw_21 bs_X11_isInDraw_21 hz (fun K hK => ?_)
      refine (show po_X11_isInDraw T c T (some (vI 0)) from ?_)
      exact ⟨rfl, _, rfl, by omega⟩
    · refine hK 22 _ [vI 1] T ?_
      refine j_blx (F := fX11) tb_X11 (nn_ _) bk_X11_isInDraw_22 bs_X11_isInDraw_22 hz (fun K hK => ?_)
      refine (show po_X11_isInDraw T c T (some (vI 1)) from ?_)
      exact ⟨rfl, _, rfl, by omega⟩
/-- a match is added -/
def am1_ (T T' : Zt) (c : Int) : Prop := T' 111 0 29 = T 111 0 29 + 1 ∧ (∀ j, j ≠ T 111 0 29 → T' 230 0 j = T 230 0 j ∧ T' 231 0 j = T 231 0 j ∧ T' 232 0 j = T 232 0 j ∧ T' 233 0 j = T 233 0 j ∧ T' 234 0 j = T 234 0 j ∧ T' 235 0 j = T 235 0 j ∧ T' 238 0 j = T 238 0 j ∧ T' 253 0 j = T 253 0 j ∧ T' 255 0 j = T 255 0 j) ∧ T' 230 0 (T 111 0 29) = c ∧ T' 235 0 (T 111 0 29) = 0 ∧ T' 253 0 (T 111 0 29) = -1 ∧ T' 255 0 (T 111 0 29) = -1
/-- matches of c are added -/
def am_ (T T' : Zt) (c : Int) : Prop := T 111 0 29 ≤ T' 111 0 29 ∧ (∀ j, j < T 111 0 29 → T' 230 0 j = T 230 0 j ∧ T' 231 0 j = T 231 0 j ∧ T' 232 0 j = T 232 0 j ∧ T' 233 0 j = T 233 0 j ∧ T' 234 0 j = T 234 0 j ∧ T' 235 0 j = T 235 0 j ∧ T' 238 0 j = T 238 0 j ∧ T' 253 0 j = T 253 0 j ∧ T' 255 0 j = T 255 0 j) ∧ (∀ j, T 111 0 29 ≤ j → j < T' 111 0 29 → T' 230 0 j = c ∧ T' 235 0 j = 0 ∧ T' 253 0 j = -1 ∧ T' 255 0 j = -1)
theorem am_s {T T1 T2 : Zt} {c : Int} (h : am_ T T1 c) (g : am1_ T1 T2 c) : am_ T T2 c := by
  obtain ⟨h1, h2, h3⟩ := h
  obtain ⟨g1, g2, g3, g4, g5, g6⟩ := g
  refine ⟨by omega, fun j a => ?_, fun j a b => ?_⟩
  · have x := g2 j (by omega)
    have y := h2 j a
    exact ⟨x.1.trans y.1, x.2.1.trans y.2.1, x.2.2.1.trans y.2.2.1, x.2.2.2.1.trans y.2.2.2.1, x.2.2.2.2.1.trans y.2.2.2.2.1, x.2.2.2.2.2.1.trans y.2.2.2.2.2.1, x.2.2.2.2.2.2.1.trans y.2.2.2.2.2.2.1, x.2.2.2.2.2.2.2.1.trans y.2.2.2.2.2.2.2.1, x.2.2.2.2.2.2.2.2.trans y.2.2.2.2.2.2.2.2⟩
  · by_cases z : j = T1 111 0 29
    · subst z; exact ⟨g3, g4, g5, g6⟩
    · have x := g2 j z
      have y := h3 j a (by omega)
      exact ⟨x.1.trans y.1, x.2.2.2.2.2.1.trans y.2.1, x.2.2.2.2.2.2.2.1.trans y.2.2.1, x.2.2.2.2.2.2.2.2.trans y.2.2.2⟩
theorem mb_ {a b A B : Int} (h1 : 0 ≤ a) (h2 : a ≤ A) (h3 : 0 ≤ b) (h4 : b ≤ B) : 0 ≤ a * b ∧ a * b ≤ A * B := ⟨Int.mul_nonneg h1 h3, Int.mul_le_mul h2 h4 h3 (by omega)⟩
theorem pl_1 {e : Int} (h1 : 2 ≤ e) (h2 : e ≤ 12) : (e + e % 2 - 1) * ((e + e % 2) / 2 - e % 2) = e * (e - 1) / 2 := by
  rcases (by omega : e = 2 ∨ e = 3 ∨ e = 4 ∨ e = 5 ∨ e = 6 ∨ e = 7 ∨ e = 8 ∨ e = 9 ∨ e = 10 ∨ e = 11 ∨ e = 12) with rfl | rfl | rfl | rfl | rfl | rfl | rfl | rfl | rfl | rfl | rfl <;> rfl
abbrev cX11_addMatch : ByteArray := prog_13_method_29_code
def yX11_addMatch : MethodName := ⟨RX11, "addMatch", "(IIIII)V"⟩
def zX11_addMatch : Zm := (RX11, cX11_addMatch, 7, none, { frames := 0, cells := 0, slots := 0, locals := 0 })
abbrev cX11_plan : ByteArray := prog_13_method_30_code
def yX11_plan : MethodName := ⟨RX11, "plan", "(II)I"⟩
def zX11_plan : Zm := (RX11, cX11_plan, 15, (some .int), { frames := 2, cells := 0, slots := 0, locals := 43 })
set_option maxRecDepth 100000 in
theorem cl_X11_346 : cv_ RX11 346 yX11_addMatch zX11_addMatch 11 5 := ⟨gi_V (lw_b8 191 (by decide +kernel) rfl : Cond.methodLink RX11 346 yX11_addMatch ∈ lw_g) (lw_b8 193 (by decide +kernel) rfl : Cond.instanceMethod yX11_addMatch ∈ lw_g) (lw_sel 4 rfl : Cond.selects yX11_addMatch.cls yX11_addMatch yX11_addMatch ∈ lw_g) (lw_b1 10 (by decide +kernel) rfl : Cond.initialized yX11_addMatch.cls ∈ lw_g) (lw_b8 194 rfl rfl : Cond.code yX11_addMatch cX11_addMatch 7 none ∈ lw_g), ⟨by decide, by decide, by decide +kernel⟩, ⟨_, _, rfl⟩⟩
def ML_ (T : Zt) : Prop := ∀ c : Int, 0 ≤ c → c < 4 → T 210 0 c + T 211 0 c ≤ T 111 0 29
theorem ML__f {ws : List (Nat × List Int)} {T T' : Zt} (h : ML_ T) (f : fr_ ws T T') (w : (∀ j, fw_ ws 210 j = false) ∧ (∀ j, fw_ ws 211 j = false) ∧ fw_ ws 111 29 = false ∧ True) : ML_ T' := by
  have e0 : ∀ i j, T' 210 i j = T 210 i j := fun i j => f 210 i j (w.1 j)
  have e1 : ∀ i j, T' 211 i j = T 211 i j := fun i j => f 211 i j (w.2.1 j)
  have e2 : ∀ i, T' 111 i 29 = T 111 i 29 := fun i => f 111 i 29 w.2.2.1
  simp only [ML_, e0, e1, e2] at h ⊢
  exact h
abbrev cX11_breaks : ByteArray := prog_13_method_32_code
def yX11_breaks : MethodName := ⟨RX11, "breaks", "(II)I"⟩
def zX11_breaks : Zm := (RX11, cX11_breaks, 7, (some .int), { frames := 2, cells := 0, slots := 0, locals := 43 })
abbrev cX11_shareClub : ByteArray := prog_13_method_33_code
def yX11_shareClub : MethodName := ⟨RX11, "shareClub", "(II)Z"⟩
def zX11_shareClub : Zm := (RX11, cX11_shareClub, 3, (some .boolean), { frames := 0, cells := 0, slots := 0, locals := 0 })
abbrev cX11_standAgainst : ByteArray := prog_13_method_34_code
def yX11_standAgainst : MethodName := ⟨RX11, "standAgainst", "(II)Z"⟩
def zX11_standAgainst : Zm := (RX11, cX11_standAgainst, 5, (some .boolean), { frames := 1, cells := 0, slots := 0, locals := 22 })
set_option maxRecDepth 100000 in
theorem cl_X11_350 : cv_ RX11 350 yX11_shareClub zX11_shareClub 11 2 := ⟨gi_V (lw_b8 211 (by decide +kernel) rfl : Cond.methodLink RX11 350 yX11_shareClub ∈ lw_g) (lw_b8 213 (by decide +kernel) rfl : Cond.instanceMethod yX11_shareClub ∈ lw_g) (lw_sel 66 rfl : Cond.selects yX11_shareClub.cls yX11_shareClub yX11_shareClub ∈ lw_g) (lw_b1 10 (by decide +kernel) rfl : Cond.initialized yX11_shareClub.cls ∈ lw_g) (lw_b8 214 rfl rfl : Cond.code yX11_shareClub cX11_shareClub 3 (some .boolean) ∈ lw_g), ⟨by decide, by decide, by decide +kernel⟩, ⟨_, _, rfl⟩⟩
abbrev cX11_nothingAgainst : ByteArray := prog_13_method_35_code
def yX11_nothingAgainst : MethodName := ⟨RX11, "nothingAgainst", "(I)Z"⟩
def zX11_nothingAgainst : Zm := (RX11, cX11_nothingAgainst, 4, (some .boolean), { frames := 2, cells := 0, slots := 0, locals := 46 })
set_option maxRecDepth 100000 in
theorem cl_X11_353 : cv_ RX11 353 yX11_standAgainst zX11_standAgainst 11 2 := ⟨gi_V (lw_b8 207 (by decide +kernel) rfl : Cond.methodLink RX11 353 yX11_standAgainst ∈ lw_g) (lw_b8 209 (by decide +kernel) rfl : Cond.instanceMethod yX11_standAgainst ∈ lw_g) (lw_sel 69 rfl : Cond.selects yX11_standAgainst.cls yX11_standAgainst yX11_standAgainst ∈ lw_g) (lw_b1 10 (by decide +kernel) rfl : Cond.initialized yX11_standAgainst.cls ∈ lw_g) (lw_b8 210 rfl rfl : Cond.code yX11_standAgainst cX11_standAgainst 5 (some .boolean) ∈ lw_g), ⟨by decide, by decide, by decide +kernel⟩, ⟨_, _, rfl⟩⟩
abbrev cX11_postpone : ByteArray := prog_13_method_36_code
def yX11_postpone : MethodName := ⟨RX11, "postpone", "(II)I"⟩
def zX11_postpone : Zm := (RX11, cX11_postpone, 9, (some .int), { frames := 3, cells := 0, slots := 0, locals := 69 })
set_option maxRecDepth 100000 in
theorem cl_X11_359 : cv_ RX11 359 yX11_nothingAgainst zX11_nothingAgainst 11 1 := ⟨gi_V (lw_b8 215 (by decide +kernel) rfl : Cond.methodLink RX11 359 yX11_nothingAgainst ∈ lw_g) (lw_b8 217 (by decide +kernel) rfl : Cond.instanceMethod yX11_nothingAgainst ∈ lw_g) (lw_sel 40 rfl : Cond.selects yX11_nothingAgainst.cls yX11_nothingAgainst yX11_nothingAgainst ∈ lw_g) (lw_b1 10 (by decide +kernel) rfl : Cond.initialized yX11_nothingAgainst.cls ∈ lw_g) (lw_b8 218 rfl rfl : Cond.code yX11_nothingAgainst cX11_nothingAgainst 4 (some .boolean) ∈ lw_g), ⟨by decide, by decide, by decide +kernel⟩, ⟨_, _, rfl⟩⟩
abbrev po_X11_postpone (T : Zt) (m d : Int) : Zt → Option Zv → Prop := fun T' r => ∃ x : Int, r = some (vI x) ∧ fr_ [(234, []), (271, []), (272, []), (111, [73, 75]), (274, [])] T T' ∧ (x = x)
abbrev cX11_deduct : ByteArray := prog_13_method_38_code
def yX11_deduct : MethodName := ⟨RX11, "deduct", "(III)I"⟩
def zX11_deduct : Zm := (RX11, cX11_deduct, 4, (some .int), { frames := 2, cells := 0, slots := 0, locals := 43 })
abbrev po_X11_deduct (T : Zt) (c cl p : Int) : Zt → Option Zv → Prop := fun T' r => ∃ x : Int, r = some (vI x) ∧ fr_ [(225, []), (226, []), (227, []), (228, []), (111, [24])] T T' ∧ (x = x)
/-- a person is on the sheet -/
def SL_ (T : Zt) (sh p : Int) : Prop := ∃ j, 0 ≤ j ∧ j < T 239 0 sh ∧ T 240 0 (10 * sh + j) = p
theorem SL_f {T T' : Zt} {sh p : Int} (h : SL_ T sh p) (e1 : ∀ j, T' 239 0 j = T 239 0 j) (e2 : ∀ j, T' 240 0 j = T 240 0 j) : SL_ T' sh p := by
  obtain ⟨j, a, b, c⟩ := h
  exact ⟨j, a, by rw [e1]; exact b, by rw [e2]; exact c⟩
abbrev cX11_slotOf : ByteArray := prog_13_method_39_code
def yX11_slotOf : MethodName := ⟨RX11, "slotOf", "(II)I"⟩
def zX11_slotOf : Zm := (RX11, cX11_slotOf, 5, (some .int), { frames := 0, cells := 0, slots := 0, locals := 0 })
abbrev cX11_isAhead : ByteArray := prog_13_method_40_code
def yX11_isAhead : MethodName := ⟨RX11, "isAhead", "(II)Z"⟩
def zX11_isAhead : Zm := (RX11, cX11_isAhead, 3, (some .boolean), { frames := 0, cells := 0, slots := 0, locals := 0 })
theorem bk_X11_isAhead_0 : ck_ fX11 (some .boolean) cX11_isAhead 0 [.aload 0, .tableswitch 0 11 34 #[], .iload 1, .iaload, .aload 0, .tableswitch 0 11 34 #[], .iload 2, .iaload, .if_icmp .lt 35, .aload 0, .tableswitch 0 11 34 #[], .iload 1, .iaload, .aload 0, .tableswitch 0 11 34 #[], .iload 2, .iaload, .if_icmp .ne 39, .iload 1, .iload 2, .if_icmp .ge 39, .iconst 1, .goto 40] 39 = true := qck_r (nn_ _) (by decide +kernel)
theorem bs_X11_isAhead_0 {P : Zt → Option Zv → Prop} (K : Int → Zl → List Zv → Zt → Prop) : sx_ K P [.aload 0, .tableswitch 0 11 34 #[], .iload 1, .iaload, .aload 0, .tableswitch 0 11 34 #[], .iload 2, .iaload, .if_icmp .lt 35, .aload 0, .tableswitch 0 11 34 #[], .iload 1, .iaload, .aload 0, .tableswitch 0 11 34 #[], .iload 2, .iaload, .if_icmp .ne 39, .iload 1, .iload 2, .if_icmp .ge 39, .iconst 1, .goto 40] 39 = x_aload 0 (x_g1 111 234 (x_iload 1 (x_iaload (x_aload 0 (x_g1 111 234 (x_iload 2 (x_iaload (x_if_icmp .lt 35 K (x_aload 0 (x_g1 111 234 (x_iload 1 (x_iaload (x_aload 0 (x_g1 111 234 (x_iload 2 (x_iaload (x_if_icmp .ne 39 K (x_iload 1 (x_iload 2 (x_if_icmp .ge 39 K (x_iconst 1 (x_goto 40 K)))))))))))))))))))))) := ((xe_aload 0).trans (congrArg (x_aload 0) ((xe_g1 (kk := 111) rfl tl_11_34).trans (congrArg (x_g1 111 234) ((xe_iload 1).trans (congrArg (x_iload 1) ((xe_iaload).trans (congrArg (x_iaload) ((xe_aload 0).trans (congrArg (x_aload 0) ((xe_g1 (kk := 111) rfl tl_11_34).trans (congrArg (x_g1 111 234) ((xe_iload 2).trans (congrArg (x_iload 2) ((xe_iaload).trans (congrArg (x_iaload) ((xe_if_icmp .lt 35).trans (congrArg (x_if_icmp .lt 35 K) ((xe_aload 0).trans (congrArg (x_aload 0) ((xe_g1 (kk := 111) rfl tl_11_34).trans (congrArg (x_g1 111 234) ((xe_iload 1).trans (congrArg (x_iload 1) ((xe_iaload).trans (congrArg (x_iaload) ((xe_aload 0).trans (congrArg (x_aload 0) ((xe_g1 (kk := 111) rfl tl_11_34).trans (congrArg (x_g1 111 234) ((xe_iload 2).trans (congrArg (x_iload 2) ((xe_iaload).trans (congrArg (x_iaload) ((xe_if_icmp .ne 39).trans (congrArg (x_if_icmp .ne 39 K) ((xe_iload 1).trans (congrArg (x_iload 1) ((xe_iload 2).trans (congrArg (x_iload 2) ((xe_if_icmp .ge 39).trans (congrArg (x_if_icmp .ge 39 K) ((xe_iconst 1).trans (congrArg (x_iconst 1) (xe_goto 40)))))))))))))))))))))))))))))))))))))))))))))
theorem bk_X11_isAhead_35 : ck_ fX11 (some .boolean) cX11_isAhead 35 [.iconst 1, .goto 40] 39 = true := qck_r (nn_ _) (by decide +kernel)
theorem bs_X11_isAhead_35 {P : Zt → Option Zv → Prop} (K : Int → Zl → List Zv → Zt → Prop) : sx_ K P [.iconst 1, .goto 40] 39 = x_iconst 1 (x_goto 40 K) := ((xe_iconst 1).trans (congrArg (x_iconst 1) (xe_goto 40)))
theorem bk_X11_isAhead_40 : ck_ fX11 (some .boolean) cX11_isAhead 40 [.ireturn] 41 = true := qck_r (nn_ _) (by decide +kernel)
theorem bs_X11_isAhead_40 {P : Zt → Option Zv → Prop} (K : Int → Zl → List Zv → Zt → Prop) : sx_ K P [.ireturn] 41 = x_ireturn P := (xe_ireturn)
theorem bk_X11_isAhead_39 : ck_ fX11 (some .boolean) cX11_isAhead 39 [.iconst 0, .ireturn] 41 = true := qck_r (nn_ _) (by decide +kernel)
theorem bs_X11_isAhead_39 {P : Zt → Option Zv → Prop} (K : Int → Zl → List Zv → Zt → Prop) : sx_ K P [.iconst 0, .ireturn] 41 = x_iconst 0 (x_ireturn P) := ((xe_iconst 0).trans (congrArg (x_iconst 0) (xe_ireturn)))
abbrev po_X11_isAhead (T : Zt) (a b : Int) : Zt → Option Zv → Prop := fun T' r => T = T' ∧ ∃ x : Int, r = some (vI x) ∧ ((x = 1 ∧ (T 234 0 a < T 234 0 b ∨ (T 234 0 a = T 234 0 b ∧ a < b))) ∨ (x = 0 ∧ ¬ (T 234 0 a < T 234 0 b ∨ (T 234 0 a = T 234 0 b ∧ a < b))))
set_option maxHeartbeats 4000000 in
theorem ct_X11_isAhead {T : Zt} {a b : Int} (h1 : 0 ≤ a ∧ a < 400) (h2 : 0 ≤ b ∧ b < 400) : Ct_ yX11_isAhead zX11_isAhead T [vR 111 0, vI a, vI b] (po_X11_isAhead T a b) := by
  refine ct_of pn_11 rfl rfl (Nat.le_of_ble_eq_true rfl) (fun hT hav => ?_)
  have hr_a : -2147483648 ≤ a ∧ a ≤ 2147483647 := hav (vI a) (by simp)
  have hr_b : -2147483648 ≤ b ∧ b ≤ 2147483647 := hav (vI b) (by simp)
  have hz : zX11_isAhead.2.2.2.1 = some .boolean → ∀ (T' : Zt) (x : Int), po_X11_isAhead T a b T' (some (vI x)) → 0 ≤ x ∧ x ≤ 1 := fun _ T' x h => by obtain ⟨-, y, e, hy⟩ := h; cases e; omega
  show J_ zX11_isAhead T (po_X11_isAhead T a b) 0 0 0 [some (vR 111 0), some (vI a), some (vI b)] [] T
  refine j_blx (F := fX11) tb_X11 (nn_ _) bk_X11_isAhead_0 bs_X11_isAhead_0 hz (fun K hK => ?_)
  refine ix_i (by omega) ?_
  intro b1 b1b
  refine ix_i (by omega) ?_
  intro b2 b2b
  refine And.intro (fun c3 => ?_) (fun c3 => ?_)
  · refine hK 35 _ [] T ?_
    refine j_blx (F := fX11) tb_X11 (nn_ _) bk_X11_isAhead_35 bs_X11_isAhead_35 hz (fun K hK => ?_)
    refine hK 40 _ [vI 1] T ?_
    refine j_blx (F := fX11) tb_X11 (nn_ _) bk_X11_isAhead_40 bs_X11_isAhead_40 hz (fun K hK => ?_)
    refine (show po_X11_isAhead T a b T (some (vI 1)) from ?_)
    exact ⟨rfl, _, rfl, by omega⟩
  · refine ix_i (by omega) ?_
    intro b4 b4b
    refine ix_i (by omega) ?_
    intro b5 b5b
    refine And.intro (fun c6 => ?_) (fun c6 => ?_)
    · refine hK 39 _ [] T ?_
      refine j_blx (F := fX11) tb_X11 (nn_ _) bk_X11_isAhead_39 bs_X11_isAhead_39 hz (fun K hK => ?_)
      refine (show po_X11_isAhead T a b T (some (vI 0)) from ?_)
      exact ⟨rfl, _, rfl, by omega⟩
    · refine And.intro (fun c7 => ?_) (fun c7 => ?_)
      · refine hK 39 _ [] T ?_
        refine j_blx (F := fX11) tb_X11 (nn_ _) bk_X11_isAhead_39 bs_X11_isAhead_39 hz (fun K hK => ?_)
        refine (show po_X11_isAhead T a b T (some (vI 0)) from ?_)
        exact ⟨rfl, _, rfl, by omega⟩
      · refine hK 40 _ [vI 1] T ?_
        refine j_blx (F := fX11) tb_X11 (nn_ _) bk_X11_isAhead_40 bs_X11_isAhead_40 hz (fun K hK => ?_)
        refine (show po_X11_isAhead T a b T (some (vI 1)) from ?_)
        exact ⟨rfl, _, rfl, by omega⟩
abbrev cX11_nextMatch : ByteArray := prog_13_method_41_code
def yX11_nextMatch : MethodName := ⟨RX11, "nextMatch", "(III)I"⟩
def zX11_nextMatch : Zm := (RX11, cX11_nextMatch, 7, (some .int), { frames := 1, cells := 0, slots := 0, locals := 22 })
set_option maxRecDepth 100000 in
theorem cl_X11_368 : cv_ RX11 368 yX11_isAhead zX11_isAhead 11 2 := ⟨gi_V (lw_b9 7 (by decide +kernel) rfl : Cond.methodLink RX11 368 yX11_isAhead ∈ lw_g) (lw_b9 9 (by decide +kernel) rfl : Cond.instanceMethod yX11_isAhead ∈ lw_g) (lw_sel 21 rfl : Cond.selects yX11_isAhead.cls yX11_isAhead yX11_isAhead ∈ lw_g) (lw_b1 10 (by decide +kernel) rfl : Cond.initialized yX11_isAhead.cls ∈ lw_g) (lw_b9 10 rfl rfl : Cond.code yX11_isAhead cX11_isAhead 3 (some .boolean) ∈ lw_g), ⟨by decide, by decide, by decide +kernel⟩, ⟨_, _, rfl⟩⟩
def MC_ (T : Zt) : Prop := ∀ m : Int, 0 ≤ m → m < T 111 0 29 → T 230 0 m < T 111 0 6
theorem MC__f {ws : List (Nat × List Int)} {T T' : Zt} (h : MC_ T) (f : fr_ ws T T') (w : (∀ j, fw_ ws 230 j = false) ∧ fw_ ws 111 29 = false ∧ fw_ ws 111 6 = false ∧ True) : MC_ T' := by
  have e0 : ∀ i j, T' 230 i j = T 230 i j := fun i j => f 230 i j (w.1 j)
  have e1 : ∀ i, T' 111 i 29 = T 111 i 29 := fun i => f 111 i 29 w.2.1
  have e2 : ∀ i, T' 111 i 6 = T 111 i 6 := fun i => f 111 i 6 w.2.2.1
  simp only [MC_, e0, e1, e2] at h ⊢
  exact h
abbrev cX11_isBanned : ByteArray := prog_13_method_42_code
def yX11_isBanned : MethodName := ⟨RX11, "isBanned", "(II)Z"⟩
def zX11_isBanned : Zm := (RX11, cX11_isBanned, 10, (some .boolean), { frames := 2, cells := 0, slots := 0, locals := 48 })
set_option maxRecDepth 100000 in
theorem cl_X11_371 : cv_ RX11 371 yX11_nextMatch zX11_nextMatch 11 3 := ⟨gi_V (lw_b9 3 (by decide +kernel) rfl : Cond.methodLink RX11 371 yX11_nextMatch ∈ lw_g) (lw_b9 5 (by decide +kernel) rfl : Cond.instanceMethod yX11_nextMatch ∈ lw_g) (lw_sel 39 rfl : Cond.selects yX11_nextMatch.cls yX11_nextMatch yX11_nextMatch ∈ lw_g) (lw_b1 10 (by decide +kernel) rfl : Cond.initialized yX11_nextMatch.cls ∈ lw_g) (lw_b9 6 rfl rfl : Cond.code yX11_nextMatch cX11_nextMatch 7 (some .int) ∈ lw_g), ⟨by decide, by decide, by decide +kernel⟩, ⟨_, _, rfl⟩⟩
set_option maxRecDepth 100000 in
theorem cl_X11_378 : cv_ RX11 378 yX11_slotOf zX11_slotOf 11 2 := ⟨gi_V (lw_b9 11 (by decide +kernel) rfl : Cond.methodLink RX11 378 yX11_slotOf ∈ lw_g) (lw_b9 13 (by decide +kernel) rfl : Cond.instanceMethod yX11_slotOf ∈ lw_g) (lw_sel 67 rfl : Cond.selects yX11_slotOf.cls yX11_slotOf yX11_slotOf ∈ lw_g) (lw_b1 10 (by decide +kernel) rfl : Cond.initialized yX11_slotOf.cls ∈ lw_g) (lw_b9 14 rfl rfl : Cond.code yX11_slotOf cX11_slotOf 5 (some .int) ∈ lw_g), ⟨by decide, by decide, by decide +kernel⟩, ⟨_, _, rfl⟩⟩
set_option maxRecDepth 100000 in
theorem cl_X11_375 : cv_ RX11 375 yX11_clubOf zX11_clubOf 11 2 := ⟨gi_V (lw_b8 235 (by decide +kernel) rfl : Cond.methodLink RX11 375 yX11_clubOf ∈ lw_g) (lw_b8 237 (by decide +kernel) rfl : Cond.instanceMethod yX11_clubOf ∈ lw_g) (lw_sel 11 rfl : Cond.selects yX11_clubOf.cls yX11_clubOf yX11_clubOf ∈ lw_g) (lw_b1 10 (by decide +kernel) rfl : Cond.initialized yX11_clubOf.cls ∈ lw_g) (lw_b8 238 rfl rfl : Cond.code yX11_clubOf cX11_clubOf 5 (some .int) ∈ lw_g), ⟨by decide, by decide, by decide +kernel⟩, ⟨_, _, rfl⟩⟩
abbrev cX11_isElsewhere : ByteArray := prog_13_method_43_code
def yX11_isElsewhere : MethodName := ⟨RX11, "isElsewhere", "(II)Z"⟩
def zX11_isElsewhere : Zm := (RX11, cX11_isElsewhere, 5, (some .boolean), { frames := 1, cells := 0, slots := 0, locals := 24 })
abbrev cX11_whyNot : ByteArray := prog_13_method_44_code
def yX11_whyNot : MethodName := ⟨RX11, "whyNot", "(III)I"⟩
def zX11_whyNot : Zm := (RX11, cX11_whyNot, 4, (some .int), { frames := 3, cells := 0, slots := 0, locals := 77 })
set_option maxRecDepth 100000 in
theorem cl_X11_381 : cv_ RX11 381 yX11_isBanned zX11_isBanned 11 2 := ⟨gi_V (lw_b8 239 (by decide +kernel) rfl : Cond.methodLink RX11 381 yX11_isBanned ∈ lw_g) (lw_b9 1 (by decide +kernel) rfl : Cond.instanceMethod yX11_isBanned ∈ lw_g) (lw_sel 22 rfl : Cond.selects yX11_isBanned.cls yX11_isBanned yX11_isBanned ∈ lw_g) (lw_b1 10 (by decide +kernel) rfl : Cond.initialized yX11_isBanned.cls ∈ lw_g) (lw_b9 2 rfl rfl : Cond.code yX11_isBanned cX11_isBanned 10 (some .boolean) ∈ lw_g), ⟨by decide, by decide, by decide +kernel⟩, ⟨_, _, rfl⟩⟩
set_option maxRecDepth 100000 in
theorem cl_X11_384 : cv_ RX11 384 yX11_isElsewhere zX11_isElsewhere 11 2 := ⟨gi_V (lw_b9 15 (by decide +kernel) rfl : Cond.methodLink RX11 384 yX11_isElsewhere ∈ lw_g) (lw_b9 17 (by decide +kernel) rfl : Cond.instanceMethod yX11_isElsewhere ∈ lw_g) (lw_sel 23 rfl : Cond.selects yX11_isElsewhere.cls yX11_isElsewhere yX11_isElsewhere ∈ lw_g) (lw_b1 10 (by decide +kernel) rfl : Cond.initialized yX11_isElsewhere.cls ∈ lw_g) (lw_b9 18 rfl rfl : Cond.code yX11_isElsewhere cX11_isElsewhere 5 (some .boolean) ∈ lw_g), ⟨by decide, by decide, by decide +kernel⟩, ⟨_, _, rfl⟩⟩
abbrev cX11_eligible : ByteArray := prog_13_method_45_code
def yX11_eligible : MethodName := ⟨RX11, "eligible", "(III)I"⟩
def zX11_eligible : Zm := (RX11, cX11_eligible, 4, (some .int), { frames := 4, cells := 0, slots := 0, locals := 100 })
set_option maxRecDepth 100000 in
theorem cl_X11_387 : cv_ RX11 387 yX11_whyNot zX11_whyNot 11 3 := ⟨gi_V (lw_b8 231 (by decide +kernel) rfl : Cond.methodLink RX11 387 yX11_whyNot ∈ lw_g) (lw_b8 233 (by decide +kernel) rfl : Cond.instanceMethod yX11_whyNot ∈ lw_g) (lw_sel 80 rfl : Cond.selects yX11_whyNot.cls yX11_whyNot yX11_whyNot ∈ lw_g) (lw_b1 10 (by decide +kernel) rfl : Cond.initialized yX11_whyNot.cls ∈ lw_g) (lw_b8 234 rfl rfl : Cond.code yX11_whyNot cX11_whyNot 4 (some .int) ∈ lw_g), ⟨by decide, by decide, by decide +kernel⟩, ⟨_, _, rfl⟩⟩
def SH_ (T : Zt) : Prop := ∀ m s : Int, 0 ≤ m → m < 400 → 0 ≤ s → s ≤ 1 → (m < T 111 0 29 → T 239 0 (2 * m + s) ≤ T 205 0 (23 * T 230 0 m + 9) + 4) ∧ (T 111 0 29 ≤ m → T 239 0 (2 * m + s) = 0)
theorem SH__f {ws : List (Nat × List Int)} {T T' : Zt} (h : SH_ T) (f : fr_ ws T T') (w : (∀ j, fw_ ws 239 j = false) ∧ (∀ j, fw_ ws 205 j = false) ∧ (∀ j, fw_ ws 230 j = false) ∧ fw_ ws 111 29 = false ∧ True) : SH_ T' := by
  have e0 : ∀ i j, T' 239 i j = T 239 i j := fun i j => f 239 i j (w.1 j)
  have e1 : ∀ i j, T' 205 i j = T 205 i j := fun i j => f 205 i j (w.2.1 j)
  have e2 : ∀ i j, T' 230 i j = T 230 i j := fun i j => f 230 i j (w.2.2.1 j)
  have e3 : ∀ i, T' 111 i 29 = T 111 i 29 := fun i => f 111 i 29 w.2.2.2.1
  simp only [SH_, e0, e1, e2, e3] at h ⊢
  exact h
abbrev cX11_lineUp : ByteArray := prog_13_method_46_code
def yX11_lineUp : MethodName := ⟨RX11, "lineUp", "(III)I"⟩
def zX11_lineUp : Zm := (RX11, cX11_lineUp, 6, (some .int), { frames := 4, cells := 0, slots := 0, locals := 100 })
