theorem FI_1 {T T' : Zt} (h : FI_ T) (w : Int) (ho : ∀ j, j ≠ w → T' 204 0 j = T 204 0 j) (hw : 0 ≤ w → w < 23 → (rb_ w).1 ≤ T' 204 0 w ∧ T' 204 0 w ≤ (rb_ w).2) : FI_ T' := by
  intro j h1 h2
  by_cases e : j = w
  · subst e; exact hw h1 h2
  · rw [ho j e]; exact h j h1 h2
theorem rb_s : ∀ s : Int, 4 ≤ s → s < 14 → (rb_ (6 + s - 4)).1 = wl_267.getD (s - 4).toNat 0 ∧ (rb_ (6 + s - 4)).2 = wl_268.getD (s - 4).toNat 0 := by
  intro s h1 h2
  rcases (by omega : s = 4 ∨ s = 5 ∨ s = 6 ∨ s = 7 ∨ s = 8 ∨ s = 9 ∨ s = 10 ∨ s = 11 ∨ s = 12 ∨ s = 13) with rfl | rfl | rfl | rfl | rfl | rfl | rfl | rfl | rfl | rfl <;> exact ⟨rfl, rfl⟩
abbrev cX11_readStatement : ByteArray := prog_13_method_17_code
def yX11_readStatement : MethodName := ⟨RX11, "readStatement", "()V"⟩
def zX11_readStatement : Zm := (RX11, cX11_readStatement, 2, none, { frames := 4, cells := 0, slots := 0, locals := 86 })
theorem bk_X11_readStatement_200 : ck_ fX11 none cX11_readStatement 200 [.aload 0, .tableswitch 0 11 62 #[], .ifCond .ne 235, .aload 0] 208 = true := qck_r (nn_ _) (by decide +kernel)
theorem bs_X11_readStatement_200 {P : Zt → Option Zv → Prop} (K : Int → Zl → List Zv → Zt → Prop) : sx_ K P [.aload 0, .tableswitch 0 11 62 #[], .ifCond .ne 235, .aload 0] 208 = x_aload 0 (x_g0 111 62 0 5 (x_ifCond .ne 235 K (x_aload 0 (K 208)))) := ((xe_aload 0).trans (congrArg (x_aload 0) ((xe_g0 (kk := 111) rfl tl_11_62).trans (congrArg (x_g0 111 62 0 5) ((xe_ifCond .ne 235).trans (congrArg (x_ifCond .ne 235 K) ((xe_aload 0).trans (congrArg (x_aload 0) xe_nil))))))))
theorem bk_X11_readStatement_235 : ck_ fX11 none cX11_readStatement 235 [.return_] 236 = true := qck_r (nn_ _) (by decide +kernel)
theorem bs_X11_readStatement_235 {P : Zt → Option Zv → Prop} (K : Int → Zl → List Zv → Zt → Prop) : sx_ K P [.return_] 236 = x_return_ P := (xe_return_)
theorem bk_X11_readStatement_211 : ck_ fX11 none cX11_readStatement 211 [.aload 0, .tableswitch 0 11 62 #[], .ifCond .ne 235, .aload 0, .tableswitch 0 11 58 #[], .iconst 3, .if_icmp .eq 235, .aload 0, .iconst 2, .aload 0, .tableswitch 0 11 59 #[]] 232 = true := qck_r (nn_ _) (by decide +kernel)
theorem bs_X11_readStatement_211 {P : Zt → Option Zv → Prop} (K : Int → Zl → List Zv → Zt → Prop) : sx_ K P [.aload 0, .tableswitch 0 11 62 #[], .ifCond .ne 235, .aload 0, .tableswitch 0 11 58 #[], .iconst 3, .if_icmp .eq 235, .aload 0, .iconst 2, .aload 0, .tableswitch 0 11 59 #[]] 232 = x_aload 0 (x_g0 111 62 0 5 (x_ifCond .ne 235 K (x_aload 0 (x_g0 111 58 0 4 (x_iconst 3 (x_if_icmp .eq 235 K (x_aload 0 (x_iconst 2 (x_aload 0 (x_g0 111 59 0 400 (K 232))))))))))) := ((xe_aload 0).trans (congrArg (x_aload 0) ((xe_g0 (kk := 111) rfl tl_11_62).trans (congrArg (x_g0 111 62 0 5) ((xe_ifCond .ne 235).trans (congrArg (x_ifCond .ne 235 K) ((xe_aload 0).trans (congrArg (x_aload 0) ((xe_g0 (kk := 111) rfl tl_11_58).trans (congrArg (x_g0 111 58 0 4) ((xe_iconst 3).trans (congrArg (x_iconst 3) ((xe_if_icmp .eq 235).trans (congrArg (x_if_icmp .eq 235 K) ((xe_aload 0).trans (congrArg (x_aload 0) ((xe_iconst 2).trans (congrArg (x_iconst 2) ((xe_aload 0).trans (congrArg (x_aload 0) ((xe_g0 (kk := 111) rfl tl_11_59).trans (congrArg (x_g0 111 59 0 400) xe_nil))))))))))))))))))))))
theorem bk_X11_readStatement_83 : ck_ fX11 none cX11_readStatement 83 [.aload 0, .tableswitch 0 11 62 #[], .ifCond .eq 91, .return_] 91 = true := qck_r (nn_ _) (by decide +kernel)
theorem bs_X11_readStatement_83 {P : Zt → Option Zv → Prop} (K : Int → Zl → List Zv → Zt → Prop) : sx_ K P [.aload 0, .tableswitch 0 11 62 #[], .ifCond .eq 91, .return_] 91 = x_aload 0 (x_g0 111 62 0 5 (x_ifCond .eq 91 K (x_return_ P))) := ((xe_aload 0).trans (congrArg (x_aload 0) ((xe_g0 (kk := 111) rfl tl_11_62).trans (congrArg (x_g0 111 62 0 5) ((xe_ifCond .eq 91).trans (congrArg (x_ifCond .eq 91 K) (xe_return_)))))))
theorem bk_X11_readStatement_91 : ck_ fX11 none cX11_readStatement 91 [.aload 0, .tableswitch 0 11 69 #[], .iload 1, .iconst 1, .bastore, .iload 1, .iconst 2, .if_icmp .ne 108, .aload 0] 104 = true := qck_r (nn_ _) (by decide +kernel)
theorem bs_X11_readStatement_91 {P : Zt → Option Zv → Prop} (K : Int → Zl → List Zv → Zt → Prop) : sx_ K P [.aload 0, .tableswitch 0 11 69 #[], .iload 1, .iconst 1, .bastore, .iload 1, .iconst 2, .if_icmp .ne 108, .aload 0] 104 = x_aload 0 (x_g1 111 269 (x_iload 1 (x_iconst 1 (x_bastore (x_iload 1 (x_iconst 2 (x_if_icmp .ne 108 K (x_aload 0 (K 104))))))))) := ((xe_aload 0).trans (congrArg (x_aload 0) ((xe_g1 (kk := 111) rfl tl_11_69).trans (congrArg (x_g1 111 269) ((xe_iload 1).trans (congrArg (x_iload 1) ((xe_iconst 1).trans (congrArg (x_iconst 1) ((xe_bastore).trans (congrArg (x_bastore) ((xe_iload 1).trans (congrArg (x_iload 1) ((xe_iconst 2).trans (congrArg (x_iconst 2) ((xe_if_icmp .ne 108).trans (congrArg (x_if_icmp .ne 108 K) ((xe_aload 0).trans (congrArg (x_aload 0) xe_nil))))))))))))))))))
theorem bk_X11_readStatement_108 : ck_ fX11 none cX11_readStatement 108 [.iload 1, .ifCond .ne 119, .aload 0] 113 = true := qck_r (nn_ _) (by decide +kernel)
theorem bs_X11_readStatement_108 {P : Zt → Option Zv → Prop} (K : Int → Zl → List Zv → Zt → Prop) : sx_ K P [.iload 1, .ifCond .ne 119, .aload 0] 113 = x_iload 1 (x_ifCond .ne 119 K (x_aload 0 (K 113))) := ((xe_iload 1).trans (congrArg (x_iload 1) ((xe_ifCond .ne 119).trans (congrArg (x_ifCond .ne 119 K) ((xe_aload 0).trans (congrArg (x_aload 0) xe_nil))))))
theorem bk_X11_readStatement_119 : ck_ fX11 none cX11_readStatement 119 [.iload 1, .iconst 1, .if_icmp .ne 159, .aload 0, .iconst 0, .iconst 9, .iconst 1] 129 = true := qck_r (nn_ _) (by decide +kernel)
theorem bs_X11_readStatement_119 {P : Zt → Option Zv → Prop} (K : Int → Zl → List Zv → Zt → Prop) : sx_ K P [.iload 1, .iconst 1, .if_icmp .ne 159, .aload 0, .iconst 0, .iconst 9, .iconst 1] 129 = x_iload 1 (x_iconst 1 (x_if_icmp .ne 159 K (x_aload 0 (x_iconst 0 (x_iconst 9 (x_iconst 1 (K 129))))))) := ((xe_iload 1).trans (congrArg (x_iload 1) ((xe_iconst 1).trans (congrArg (x_iconst 1) ((xe_if_icmp .ne 159).trans (congrArg (x_if_icmp .ne 159 K) ((xe_aload 0).trans (congrArg (x_aload 0) ((xe_iconst 0).trans (congrArg (x_iconst 0) ((xe_iconst 9).trans (congrArg (x_iconst 9) ((xe_iconst 1).trans (congrArg (x_iconst 1) xe_nil))))))))))))))
theorem bk_X11_readStatement_159 : ck_ fX11 none cX11_readStatement 159 [.iload 1, .iconst 3, .if_icmp .ne 174, .aload 0, .tableswitch 0 11 4 #[], .iconst 5, .iconst 1, .iastore, .goto 200] 174 = true := qck_r (nn_ _) (by decide +kernel)
theorem bs_X11_readStatement_159 {P : Zt → Option Zv → Prop} (K : Int → Zl → List Zv → Zt → Prop) : sx_ K P [.iload 1, .iconst 3, .if_icmp .ne 174, .aload 0, .tableswitch 0 11 4 #[], .iconst 5, .iconst 1, .iastore, .goto 200] 174 = x_iload 1 (x_iconst 3 (x_if_icmp .ne 174 K (x_aload 0 (x_g1 111 204 (x_iconst 5 (x_iconst 1 (x_iastore (x_goto 200 K)))))))) := ((xe_iload 1).trans (congrArg (x_iload 1) ((xe_iconst 3).trans (congrArg (x_iconst 3) ((xe_if_icmp .ne 174).trans (congrArg (x_if_icmp .ne 174 K) ((xe_aload 0).trans (congrArg (x_aload 0) ((xe_g1 (kk := 111) rfl tl_11_4).trans (congrArg (x_g1 111 204) ((xe_iconst 5).trans (congrArg (x_iconst 5) ((xe_iconst 1).trans (congrArg (x_iconst 1) ((xe_iastore).trans (congrArg (x_iastore) (xe_goto 200)))))))))))))))))
theorem bk_X11_readStatement_174 : ck_ fX11 none cX11_readStatement 174 [.aload 0, .aload 0, .tableswitch 0 11 67 #[], .iload 1, .iconst 4, .isub, .iaload, .aload 0, .tableswitch 0 11 68 #[], .iload 1, .iconst 4, .isub, .iaload, .iconst 6, .iload 1, .iadd, .iconst 4, .isub] 197 = true := qck_r (nn_ _) (by decide +kernel)
theorem bs_X11_readStatement_174 {P : Zt → Option Zv → Prop} (K : Int → Zl → List Zv → Zt → Prop) : sx_ K P [.aload 0, .aload 0, .tableswitch 0 11 67 #[], .iload 1, .iconst 4, .isub, .iaload, .aload 0, .tableswitch 0 11 68 #[], .iload 1, .iconst 4, .isub, .iaload, .iconst 6, .iload 1, .iadd, .iconst 4, .isub] 197 = x_aload 0 (x_aload 0 (x_g1 111 267 (x_iload 1 (x_iconst 4 (x_isub (x_iaload (x_aload 0 (x_g1 111 268 (x_iload 1 (x_iconst 4 (x_isub (x_iaload (x_iconst 6 (x_iload 1 (x_iadd (x_iconst 4 (x_isub (K 197)))))))))))))))))) := ((xe_aload 0).trans (congrArg (x_aload 0) ((xe_aload 0).trans (congrArg (x_aload 0) ((xe_g1 (kk := 111) rfl tl_11_67).trans (congrArg (x_g1 111 267) ((xe_iload 1).trans (congrArg (x_iload 1) ((xe_iconst 4).trans (congrArg (x_iconst 4) ((xe_isub).trans (congrArg (x_isub) ((xe_iaload).trans (congrArg (x_iaload) ((xe_aload 0).trans (congrArg (x_aload 0) ((xe_g1 (kk := 111) rfl tl_11_68).trans (congrArg (x_g1 111 268) ((xe_iload 1).trans (congrArg (x_iload 1) ((xe_iconst 4).trans (congrArg (x_iconst 4) ((xe_isub).trans (congrArg (x_isub) ((xe_iaload).trans (congrArg (x_iaload) ((xe_iconst 6).trans (congrArg (x_iconst 6) ((xe_iload 1).trans (congrArg (x_iload 1) ((xe_iadd).trans (congrArg (x_iadd) ((xe_iconst 4).trans (congrArg (x_iconst 4) ((xe_isub).trans (congrArg (x_isub) xe_nil))))))))))))))))))))))))))))))))))))
set_option maxRecDepth 100000 in
theorem cl_X11_304 : cv_ RX11 304 yX11_wantNumber zX11_wantNumber 11 3 := ⟨gi_V (lw_b8 140 (by decide +kernel) rfl : Cond.methodLink RX11 304 yX11_wantNumber ∈ lw_g) (lw_b8 142 (by decide +kernel) rfl : Cond.instanceMethod yX11_wantNumber ∈ lw_g) (lw_sel 78 rfl : Cond.selects yX11_wantNumber.cls yX11_wantNumber yX11_wantNumber ∈ lw_g) (lw_b1 10 (by decide +kernel) rfl : Cond.initialized yX11_wantNumber.cls ∈ lw_g) (lw_b8 143 rfl rfl : Cond.code yX11_wantNumber cX11_wantNumber 4 none ∈ lw_g), ⟨by decide, by decide, by decide +kernel⟩, ⟨_, _, rfl⟩⟩
theorem bk_X11_readStatement_132 : ck_ fX11 none cX11_readStatement 132 [.aload 0, .iconst 0, .aload 0, .tableswitch 0 11 4 #[], .iconst 1, .iaload, .iconst 2] 141 = true := qck_r (nn_ _) (by decide +kernel)
theorem bs_X11_readStatement_132 {P : Zt → Option Zv → Prop} (K : Int → Zl → List Zv → Zt → Prop) : sx_ K P [.aload 0, .iconst 0, .aload 0, .tableswitch 0 11 4 #[], .iconst 1, .iaload, .iconst 2] 141 = x_aload 0 (x_iconst 0 (x_aload 0 (x_g1 111 204 (x_iconst 1 (x_iaload (x_iconst 2 (K 141))))))) := ((xe_aload 0).trans (congrArg (x_aload 0) ((xe_iconst 0).trans (congrArg (x_iconst 0) ((xe_aload 0).trans (congrArg (x_aload 0) ((xe_g1 (kk := 111) rfl tl_11_4).trans (congrArg (x_g1 111 204) ((xe_iconst 1).trans (congrArg (x_iconst 1) ((xe_iaload).trans (congrArg (x_iaload) ((xe_iconst 2).trans (congrArg (x_iconst 2) xe_nil))))))))))))))
theorem bk_X11_readStatement_144 : ck_ fX11 none cX11_readStatement 144 [.aload 0, .iconst 0, .aload 0, .tableswitch 0 11 4 #[], .iconst 2, .iaload, .iconst 3] 153 = true := qck_r (nn_ _) (by decide +kernel)
theorem bs_X11_readStatement_144 {P : Zt → Option Zv → Prop} (K : Int → Zl → List Zv → Zt → Prop) : sx_ K P [.aload 0, .iconst 0, .aload 0, .tableswitch 0 11 4 #[], .iconst 2, .iaload, .iconst 3] 153 = x_aload 0 (x_iconst 0 (x_aload 0 (x_g1 111 204 (x_iconst 2 (x_iaload (x_iconst 3 (K 153))))))) := ((xe_aload 0).trans (congrArg (x_aload 0) ((xe_iconst 0).trans (congrArg (x_iconst 0) ((xe_aload 0).trans (congrArg (x_aload 0) ((xe_g1 (kk := 111) rfl tl_11_4).trans (congrArg (x_g1 111 204) ((xe_iconst 2).trans (congrArg (x_iconst 2) ((xe_iaload).trans (congrArg (x_iaload) ((xe_iconst 3).trans (congrArg (x_iconst 3) xe_nil))))))))))))))
theorem bk_X11_readStatement_156 : ck_ fX11 none cX11_readStatement 156 [.goto 200] 159 = true := qck_r (nn_ _) (by decide +kernel)
theorem bs_X11_readStatement_156 {P : Zt → Option Zv → Prop} (K : Int → Zl → List Zv → Zt → Prop) : sx_ K P [.goto 200] 159 = x_goto 200 K := (xe_goto 200)
set_option maxRecDepth 100000 in
theorem cl_X11_301 : cv_ RX11 301 yX11_readSport zX11_readSport 11 0 := ⟨gi_V (lw_b8 136 (by decide +kernel) rfl : Cond.methodLink RX11 301 yX11_readSport ∈ lw_g) (lw_b8 138 (by decide +kernel) rfl : Cond.instanceMethod yX11_readSport ∈ lw_g) (lw_sel 55 rfl : Cond.selects yX11_readSport.cls yX11_readSport yX11_readSport ∈ lw_g) (lw_b1 10 (by decide +kernel) rfl : Cond.initialized yX11_readSport.cls ∈ lw_g) (lw_b8 139 rfl rfl : Cond.code yX11_readSport cX11_readSport 2 none ∈ lw_g), ⟨by decide, by decide, by decide +kernel⟩, ⟨_, _, rfl⟩⟩
theorem bk_X11_readStatement_116 : ck_ fX11 none cX11_readStatement 116 [.goto 200] 119 = true := qck_r (nn_ _) (by decide +kernel)
theorem bs_X11_readStatement_116 {P : Zt → Option Zv → Prop} (K : Int → Zl → List Zv → Zt → Prop) : sx_ K P [.goto 200] 119 = x_goto 200 K := (xe_goto 200)
set_option maxRecDepth 100000 in
theorem cl_X11_298 : cv_ RX11 298 yX11_readOrder zX11_readOrder 11 0 := ⟨gi_V (lw_b8 132 (by decide +kernel) rfl : Cond.methodLink RX11 298 yX11_readOrder ∈ lw_g) (lw_b8 134 (by decide +kernel) rfl : Cond.instanceMethod yX11_readOrder ∈ lw_g) (lw_sel 54 rfl : Cond.selects yX11_readOrder.cls yX11_readOrder yX11_readOrder ∈ lw_g) (lw_b1 10 (by decide +kernel) rfl : Cond.initialized yX11_readOrder.cls ∈ lw_g) (lw_b8 135 rfl rfl : Cond.code yX11_readOrder cX11_readOrder 3 none ∈ lw_g), ⟨by decide, by decide, by decide +kernel⟩, ⟨_, _, rfl⟩⟩
theorem bk_X11_readStatement_107 : ck_ fX11 none cX11_readStatement 107 [.return_] 108 = true := qck_r (nn_ _) (by decide +kernel)
theorem bs_X11_readStatement_107 {P : Zt → Option Zv → Prop} (K : Int → Zl → List Zv → Zt → Prop) : sx_ K P [.return_] 108 = x_return_ P := (xe_return_)
theorem bk_X11_readStatement_58 : ck_ fX11 none cX11_readStatement 58 [.aload 0, .tableswitch 0 11 62 #[], .ifCond .ne 83, .aload 0, .tableswitch 0 11 69 #[], .iload 1, .baload, .ifCond .eq 83, .aload 0, .iconst 5, .aload 0, .tableswitch 0 11 59 #[]] 80 = true := qck_r (nn_ _) (by decide +kernel)
theorem bs_X11_readStatement_58 {P : Zt → Option Zv → Prop} (K : Int → Zl → List Zv → Zt → Prop) : sx_ K P [.aload 0, .tableswitch 0 11 62 #[], .ifCond .ne 83, .aload 0, .tableswitch 0 11 69 #[], .iload 1, .baload, .ifCond .eq 83, .aload 0, .iconst 5, .aload 0, .tableswitch 0 11 59 #[]] 80 = x_aload 0 (x_g0 111 62 0 5 (x_ifCond .ne 83 K (x_aload 0 (x_g1 111 269 (x_iload 1 (x_baload (x_ifCond .eq 83 K (x_aload 0 (x_iconst 5 (x_aload 0 (x_g0 111 59 0 400 (K 80)))))))))))) := ((xe_aload 0).trans (congrArg (x_aload 0) ((xe_g0 (kk := 111) rfl tl_11_62).trans (congrArg (x_g0 111 62 0 5) ((xe_ifCond .ne 83).trans (congrArg (x_ifCond .ne 83 K) ((xe_aload 0).trans (congrArg (x_aload 0) ((xe_g1 (kk := 111) rfl tl_11_69).trans (congrArg (x_g1 111 269) ((xe_iload 1).trans (congrArg (x_iload 1) ((xe_baload).trans (congrArg (x_baload) ((xe_ifCond .eq 83).trans (congrArg (x_ifCond .eq 83 K) ((xe_aload 0).trans (congrArg (x_aload 0) ((xe_iconst 5).trans (congrArg (x_iconst 5) ((xe_aload 0).trans (congrArg (x_aload 0) ((xe_g0 (kk := 111) rfl tl_11_59).trans (congrArg (x_g0 111 59 0 400) xe_nil))))))))))))))))))))))))
theorem bk_X11_readStatement_36 : ck_ fX11 none cX11_readStatement 36 [.istore 1, .aload 0, .tableswitch 0 11 62 #[], .ifCond .ne 58, .iload 1, .iconst (-1), .if_icmp .ne 58, .aload 0, .iconst 3, .aload 0, .tableswitch 0 11 59 #[]] 55 = true := qck_r (nn_ _) (by decide +kernel)
theorem bs_X11_readStatement_36 {P : Zt → Option Zv → Prop} (K : Int → Zl → List Zv → Zt → Prop) : sx_ K P [.istore 1, .aload 0, .tableswitch 0 11 62 #[], .ifCond .ne 58, .iload 1, .iconst (-1), .if_icmp .ne 58, .aload 0, .iconst 3, .aload 0, .tableswitch 0 11 59 #[]] 55 = x_istore 1 (x_aload 0 (x_g0 111 62 0 5 (x_ifCond .ne 58 K (x_iload 1 (x_iconst (-1) (x_if_icmp .ne 58 K (x_aload 0 (x_iconst 3 (x_aload 0 (x_g0 111 59 0 400 (K 55))))))))))) := ((xe_istore 1).trans (congrArg (x_istore 1) ((xe_aload 0).trans (congrArg (x_aload 0) ((xe_g0 (kk := 111) rfl tl_11_62).trans (congrArg (x_g0 111 62 0 5) ((xe_ifCond .ne 58).trans (congrArg (x_ifCond .ne 58 K) ((xe_iload 1).trans (congrArg (x_iload 1) ((xe_iconst (-1)).trans (congrArg (x_iconst (-1)) ((xe_if_icmp .ne 58).trans (congrArg (x_if_icmp .ne 58 K) ((xe_aload 0).trans (congrArg (x_aload 0) ((xe_iconst 3).trans (congrArg (x_iconst 3) ((xe_aload 0).trans (congrArg (x_aload 0) ((xe_g0 (kk := 111) rfl tl_11_59).trans (congrArg (x_g0 111 59 0 400) xe_nil))))))))))))))))))))))
theorem bk_X11_readStatement_17 : ck_ fX11 none cX11_readStatement 17 [.aload 0, .tableswitch 0 11 62 #[], .ifCond .ne 35, .aload 0, .aload 0, .tableswitch 0 11 64 #[]] 29 = true := qck_r (nn_ _) (by decide +kernel)
theorem bs_X11_readStatement_17 {P : Zt → Option Zv → Prop} (K : Int → Zl → List Zv → Zt → Prop) : sx_ K P [.aload 0, .tableswitch 0 11 62 #[], .ifCond .ne 35, .aload 0, .aload 0, .tableswitch 0 11 64 #[]] 29 = x_aload 0 (x_g0 111 62 0 5 (x_ifCond .ne 35 K (x_aload 0 (x_aload 0 (x_g1 111 264 (K 29)))))) := ((xe_aload 0).trans (congrArg (x_aload 0) ((xe_g0 (kk := 111) rfl tl_11_62).trans (congrArg (x_g0 111 62 0 5) ((xe_ifCond .ne 35).trans (congrArg (x_ifCond .ne 35 K) ((xe_aload 0).trans (congrArg (x_aload 0) ((xe_aload 0).trans (congrArg (x_aload 0) ((xe_g1 (kk := 111) rfl tl_11_64).trans (congrArg (x_g1 111 264) xe_nil))))))))))))
theorem bk_X11_readStatement_35 : ck_ fX11 none cX11_readStatement 35 [.iconst (-1)] 36 = true := qck_r (nn_ _) (by decide +kernel)
theorem bs_X11_readStatement_35 {P : Zt → Option Zv → Prop} (K : Int → Zl → List Zv → Zt → Prop) : sx_ K P [.iconst (-1)] 36 = x_iconst (-1) (K 36) := ((xe_iconst (-1)).trans (congrArg (x_iconst (-1)) xe_nil))
theorem bk_X11_readStatement_32 : ck_ fX11 none cX11_readStatement 32 [.goto 36] 35 = true := qck_r (nn_ _) (by decide +kernel)
theorem bs_X11_readStatement_32 {P : Zt → Option Zv → Prop} (K : Int → Zl → List Zv → Zt → Prop) : sx_ K P [.goto 36] 35 = x_goto 36 K := (xe_goto 36)
theorem bk_X11_readStatement_0 : ck_ fX11 none cX11_readStatement 0 [.aload 0, .tableswitch 0 11 58 #[], .iconst 1, .if_icmp .eq 17, .aload 0, .iconst 2, .aload 0, .tableswitch 0 11 59 #[]] 14 = true := qck_r (nn_ _) (by decide +kernel)
theorem bs_X11_readStatement_0 {P : Zt → Option Zv → Prop} (K : Int → Zl → List Zv → Zt → Prop) : sx_ K P [.aload 0, .tableswitch 0 11 58 #[], .iconst 1, .if_icmp .eq 17, .aload 0, .iconst 2, .aload 0, .tableswitch 0 11 59 #[]] 14 = x_aload 0 (x_g0 111 58 0 4 (x_iconst 1 (x_if_icmp .eq 17 K (x_aload 0 (x_iconst 2 (x_aload 0 (x_g0 111 59 0 400 (K 14)))))))) := ((xe_aload 0).trans (congrArg (x_aload 0) ((xe_g0 (kk := 111) rfl tl_11_58).trans (congrArg (x_g0 111 58 0 4) ((xe_iconst 1).trans (congrArg (x_iconst 1) ((xe_if_icmp .eq 17).trans (congrArg (x_if_icmp .eq 17 K) ((xe_aload 0).trans (congrArg (x_aload 0) ((xe_iconst 2).trans (congrArg (x_iconst 2) ((xe_aload 0).trans (congrArg (x_aload 0) ((xe_g0 (kk := 111) rfl tl_11_59).trans (congrArg (x_g0 111 59 0 400) xe_nil))))))))))))))))
abbrev po_X11_readStatement (T : Zt) : Zt → Option Zv → Prop := fun T' r => r = none ∧ fr_ [(111, [57, 58, 59, 60, 61, 62, 63]), (204, []), (269, []), (270, [])] T T' ∧ (T' 111 0 57 ≤ T 111 0 1 ∧ T 111 0 57 ≤ T' 111 0 57 ∧ (T' 111 0 62 = 0 → T 111 0 62 = 0) ∧ FI_ T' ∧ (T' 111 0 62 = 0 → T' 204 0 2 ≤ T' 204 0 1 ∧ T' 204 0 3 ≤ T' 204 0 2))
set_option maxHeartbeats 4000000 in
theorem ct_X11_readStatement {T : Zt} (h1 : T 111 0 57 ≤ T 111 0 1) (hC : CW_ T) (hFI : FI_ T) (hW : T 111 0 62 = 0 → T 204 0 2 ≤ T 204 0 1 ∧ T 204 0 3 ≤ T 204 0 2) (hq : T 111 0 59 ≤ T 111 0 60 ∧ T 111 0 60 ≤ 400) : Ct_ yX11_readStatement zX11_readStatement T [vR 111 0] (po_X11_readStatement T) := by
  refine ct_of pn_11 rfl rfl (Nat.le_of_ble_eq_true rfl) (fun hT hav => ?_)
  have hz : zX11_readStatement.2.2.2.1 = some .boolean → ∀ (T' : Zt) (x : Int), po_X11_readStatement T T' (some (vI x)) → 0 ≤ x ∧ x ≤ 1 := fun h => by cases h
  have hb_1 : 0 ≤ T 111 0 1 ∧ T 111 0 1 ≤ 400 := bd_f hT 111 1 (by decide +kernel : (tf_ 111)[1]? = some (0, 0, 0, 400)) 0
  show J_ zX11_readStatement T (po_X11_readStatement T) 0 0 0 [some (vR 111 0), none] [] T
  have c_36 : ∀ (s : Int) (T2 : Zt), (fr_ [(111, [57, 58, 59, 60, 61, 62, 63])] T T2) → (T2 111 0 57 ≤ T 111 0 1 ∧ T 111 0 57 ≤ T2 111 0 57 ∧ (T2 111 0 62 = 0 → T 111 0 62 = 0) ∧ -1 ≤ s ∧ s < 14) → J_ zX11_readStatement T (po_X11_readStatement T) 0 0 36 [some (vR 111 0), none] [vI s] T2 := by
    intro s T2 hf_36 i2
    have c_83 : ∀ (T4 : Zt), (fr_ [(111, [57, 58, 59, 60, 61, 62, 63])] T T4) → (T4 111 0 57 ≤ T 111 0 1 ∧ T 111 0 57 ≤ T4 111 0 57 ∧ (T4 111 0 62 = 0 → T 111 0 62 = 0) ∧ (T4 111 0 62 = 0 → s ≠ -1)) → J_ zX11_readStatement T (po_X11_readStatement T) 0 0 83 [some (vR 111 0), some (vI s)] [] T4 := by
      intro T4 hf_83 i4
      have c_200 : ∀ (T5 : Zt), (fr_ [(111, [57, 58, 59, 60, 61, 62, 63]), (204, []), (269, []), (270, [])] T T5) → (T5 111 0 57 ≤ T 111 0 1 ∧ T 111 0 57 ≤ T5 111 0 57 ∧ (T5 111 0 62 = 0 → T 111 0 62 = 0)) → (FI_ T5) → (T5 111 0 62 = 0 → T5 204 0 2 ≤ T5 204 0 1 ∧ T5 204 0 3 ≤ T5 204 0 2) → J_ zX11_readStatement T (po_X11_readStatement T) 0 0 200 [some (vR 111 0), none] [] T5 := by
        intro T5 hf_200 i5 g5 w5
        refine j_blx (F := fX11) tb_X11 (nn_ _) bk_X11_readStatement_200 bs_X11_readStatement_200 hz (fun K hK => ?_)
        intro b1 b1b
        refine And.intro (fun c2 => ?_) (fun c2 => ?_)
        · refine hK 235 _ [] T5 ?_
          refine j_blx (F := fX11) tb_X11 (nn_ _) bk_X11_readStatement_235 bs_X11_readStatement_235 hz (fun K hK => ?_)
          refine (show po_X11_readStatement T T5 (none) from ?_)
          exact ⟨rfl, fr_t (fr_0 _ _) (fr_s hf_200 rfl), by omega, by omega, by omega, g5, by omega⟩
        · refine hK 208 _ [vR 111 0] T5 ?_
          have e3 : T5 111 0 1 = T 111 0 1 := hf_200 111 0 1 rfl
          refine j_callV (y := yX11_take) (Yc := zX11_take) (rest := []) [] (ct_X11_take (T := T5) (by omega)) cl_X11_291 (qd_c (by decide +kernel)) (nn_ _) rfl (rf_of rfl) (Nat.le_of_ble_eq_true rfl) (Nat.le_of_ble_eq_true rfl) (Nat.le_of_ble_eq_true rfl) rfl ?_
          rintro U4 _ ⟨rfl, fU4, qU4⟩
          show J_ zX11_readStatement T (po_X11_readStatement T) 0 0 211 _ [] U4
          refine j_blx (F := fX11) tb_X11 (nn_ _) bk_X11_readStatement_211 bs_X11_readStatement_211 hz (fun K hK => ?_)
          intro b5 b5b
          refine And.intro (fun c6 => ?_) (fun c6 => ?_)
          · refine hK 235 _ [] U4 ?_
            refine j_blx (F := fX11) tb_X11 (nn_ _) bk_X11_readStatement_235 bs_X11_readStatement_235 hz (fun K hK => ?_)
            refine (show po_X11_readStatement T U4 (none) from ?_)
            have e7 : U4 204 0 2 = T5 204 0 2 := fU4 204 0 2 rfl
            have e8 : U4 204 0 1 = T5 204 0 1 := fU4 204 0 1 rfl
            have e9 : U4 204 0 3 = T5 204 0 3 := fU4 204 0 3 rfl
            have e10 : U4 204 0 1 = T5 204 0 1 := fU4 204 0 1 rfl
            have e11 : U4 204 0 2 = T5 204 0 2 := fU4 204 0 2 rfl
            have e12 : U4 204 0 3 = T5 204 0 3 := fU4 204 0 3 rfl
            exact ⟨rfl, fr_t (fr_t (fr_0 _ _) (fr_s hf_200 rfl)) (fr_s fU4 rfl), by omega, by omega, by omega, FI__f (ws := [(111, [57, 58, 59, 60, 61, 62, 63])]) g5 (fr_t (fr_0 _ _) (fr_s fU4 rfl)) ⟨fun _ => rfl, trivial⟩, by omega⟩
          · intro b13 b13b
            refine And.intro (fun c14 => ?_) (fun c14 => ?_)
            · refine hK 235 _ [] U4 ?_
              refine j_blx (F := fX11) tb_X11 (nn_ _) bk_X11_readStatement_235 bs_X11_readStatement_235 hz (fun K hK => ?_)
              refine (show po_X11_readStatement T U4 (none) from ?_)
              have e15 : U4 204 0 2 = T5 204 0 2 := fU4 204 0 2 rfl
              have e16 : U4 204 0 1 = T5 204 0 1 := fU4 204 0 1 rfl
              have e17 : U4 204 0 3 = T5 204 0 3 := fU4 204 0 3 rfl
              have e18 : U4 204 0 1 = T5 204 0 1 := fU4 204 0 1 rfl
              have e19 : U4 204 0 2 = T5 204 0 2 := fU4 204 0 2 rfl
              have e20 : U4 204 0 3 = T5 204 0 3 := fU4 204 0 3 rfl
              exact ⟨rfl, fr_t (fr_t (fr_0 _ _) (fr_s hf_200 rfl)) (fr_s fU4 rfl), by omega, by omega, by omega, FI__f (ws := [(111, [57, 58, 59, 60, 61, 62, 63])]) g5 (fr_t (fr_0 _ _) (fr_s fU4 rfl)) ⟨fun _ => rfl, trivial⟩, by omega⟩
            · intro b21 b21b
              refine hK 232 _ [vI (U4 111 0 59), vI 2, vR 111 0] U4 ?_
              refine j_callV (y := yX11_bad) (Yc := zX11_bad) (rest := []) [vI 2, vI (U4 111 0 59)] (ct_X11_bad (T := U4) (by omega) (by omega)) cl_X11_281 (qd_c (by decide +kernel)) (nn_ _) rfl (rf_of rfl) (Nat.le_of_ble_eq_true rfl) (Nat.le_of_ble_eq_true rfl) (Nat.le_of_ble_eq_true rfl) rfl ?_
              rintro U22 _ ⟨rfl, fU22, qU22⟩
              show J_ zX11_readStatement T (po_X11_readStatement T) 0 0 235 _ [] U22
              refine j_blx (F := fX11) tb_X11 (nn_ _) bk_X11_readStatement_235 bs_X11_readStatement_235 hz (fun K hK => ?_)
              refine (show po_X11_readStatement T U22 (none) from ?_)
              have e23 : U22 111 0 57 = U4 111 0 57 := fU22 111 0 57 rfl
              have e24 : U22 204 0 2 = T5 204 0 2 := (fU22 204 0 2 rfl).trans (fU4 204 0 2 rfl)
              have e25 : U22 204 0 1 = T5 204 0 1 := (fU22 204 0 1 rfl).trans (fU4 204 0 1 rfl)
              have e26 : U22 204 0 3 = T5 204 0 3 := (fU22 204 0 3 rfl).trans (fU4 204 0 3 rfl)
              have e27 : U22 204 0 1 = T5 204 0 1 := (fU22 204 0 1 rfl).trans (fU4 204 0 1 rfl)
              have e28 : U22 204 0 2 = T5 204 0 2 := (fU22 204 0 2 rfl).trans (fU4 204 0 2 rfl)
              have e29 : U22 204 0 3 = T5 204 0 3 := (fU22 204 0 3 rfl).trans (fU4 204 0 3 rfl)
              exact ⟨rfl, fr_t (fr_t (fr_t (fr_0 _ _) (fr_s hf_200 rfl)) (fr_s fU4 rfl)) (fr_s fU22 rfl), by omega, by omega, by omega, FI__f (ws := [(111, [62, 63, 57, 58, 59, 60, 61])]) g5 (fr_t (fr_t (fr_0 _ _) (fr_s fU4 rfl)) (fr_s fU22 rfl)) ⟨fun _ => rfl, trivial⟩, by omega⟩
      refine j_blx (F := fX11) tb_X11 (nn_ _) bk_X11_readStatement_83 bs_X11_readStatement_83 hz (fun K hK => ?_)
      intro b30 b30b
      refine And.intro (fun c31 => ?_) (fun c31 => ?_)
      · refine hK 91 _ [] T4 ?_
        refine j_blx (F := fX11) tb_X11 (nn_ _) bk_X11_readStatement_91 bs_X11_readStatement_91 hz (fun K hK => ?_)
        refine iy_i (by omega) (by omega) ?_
        refine x_nm (fun U32 hU32 => ?_)
        have e33 := up_f hU32
        refine And.intro (fun c34 => ?_) (fun c34 => ?_)
        · refine hK 108 _ [] U32 ?_
          refine j_blx (F := fX11) tb_X11 (nn_ _) bk_X11_readStatement_108 bs_X11_readStatement_108 hz (fun K hK => ?_)
          refine And.intro (fun c35 => ?_) (fun c35 => ?_)
          · refine hK 119 _ [] U32 ?_
            refine j_blx (F := fX11) tb_X11 (nn_ _) bk_X11_readStatement_119 bs_X11_readStatement_119 hz (fun K hK => ?_)
            refine And.intro (fun c36 => ?_) (fun c36 => ?_)
            · refine hK 159 _ [] U32 ?_
              refine j_blx (F := fX11) tb_X11 (nn_ _) bk_X11_readStatement_159 bs_X11_readStatement_159 hz (fun K hK => ?_)
              refine And.intro (fun c37 => ?_) (fun c37 => ?_)
              · refine hK 174 _ [] U32 ?_
                refine j_blx (F := fX11) tb_X11 (nn_ _) bk_X11_readStatement_174 bs_X11_readStatement_174 hz (fun K hK => ?_)
                refine rg_i (by omega) ?_
                refine ix_i (by omega) ?_
                intro b38 b38b
                have e39 : U32 267 0 (s - 4) = T 267 0 (s - 4) := (up_k hU32 (by exact Nat.ne_of_beq_eq_false rfl) 0 (s - 4)).trans (hf_83 267 0 (s - 4) rfl)
                rw [e39] at b38 b38b ⊢
                have hl7 := hC.2.2.2.1 (s - 4) (by omega) (by omega)
                refine rg_i (by omega) ?_
                refine ix_i (by omega) ?_
                intro b40 b40b
                have e41 : U32 268 0 (s - 4) = T 268 0 (s - 4) := (up_k hU32 (by exact Nat.ne_of_beq_eq_false rfl) 0 (s - 4)).trans (hf_83 268 0 (s - 4) rfl)
                rw [e41] at b40 b40b ⊢
                have hl8 := hC.2.2.2.2 (s - 4) (by omega) (by omega)
                refine rg_i (by omega) ?_
                refine rg_i (by omega) ?_
                refine hK 197 _ [vI ((6 + s) - 4), vI (T 268 0 (s - 4)), vI (T 267 0 (s - 4)), vR 111 0] U32 ?_
                have e42 : U32 111 0 57 = T4 111 0 57 := up_k hU32 (by exact Nat.ne_of_beq_eq_false rfl) 0 57
                have e43 : U32 111 0 1 = T 111 0 1 := (up_k hU32 (by exact Nat.ne_of_beq_eq_false rfl) 0 1).trans (hf_83 111 0 1 rfl)
                refine j_callV (y := yX11_wantNumber) (Yc := zX11_wantNumber) (rest := []) [vI (T 267 0 (s - 4)), vI (T 268 0 (s - 4)), vI ((6 + s) - 4)] (ct_X11_wantNumber (T := U32) (by omega) (by omega) (by (have z9 := rb_s s (by omega) (by omega)); (have z8 := rb_all (6 + s - 4) (by omega) (by omega)); omega)) cl_X11_304 (qd_c (by decide +kernel)) (nn_ _) rfl (rf_of rfl) (Nat.le_of_ble_eq_true rfl) (Nat.le_of_ble_eq_true rfl) (Nat.le_of_ble_eq_true rfl) rfl ?_
                rintro U44 _ ⟨rfl, fU44, ⟨qU44a, qU44b, qU44c, qU44d, qU44e⟩⟩
                show J_ zX11_readStatement T (po_X11_readStatement T) 0 0 200 _ [] U44
                refine j_drop [some (vR 111 0), none] (fun k v hk => ?_) rfl ?_
                · match k, hk with
                  | 0, hk => exact hk
                  | 1, hk => cases hk
                  | k + 2, hk => cases hk
                refine c_200 U44 ?_ ?_ ?_ ?_
                · exact fr_t (fr_u (fr_t (fr_0 _ _) (fr_s hf_83 rfl)) hU32 rfl) (fr_s fU44 rfl)
                · omega
                · have f0 : FI_ U32 := FI__f (ws := [(269, []), (111, [57, 58, 59, 60, 61, 62, 63])]) hFI (fr_u (fr_t (fr_0 _ _) (fr_s hf_83 rfl)) hU32 rfl) ⟨fun _ => rfl, trivial⟩
                  exact FI_1 f0 (6 + s - 4) qU44e (fun a b => by have z := f0 (6 + s - 4) a b; rw [(rb_s s (by omega) (by omega)).1, (rb_s s (by omega) (by omega)).2] at z ⊢; omega)
                · have y1 := qU44e 1 (by omega)
                  have v1 := (show fr_ [(269, []), (111, [57, 58, 59, 60, 61, 62, 63])] T U32 from fr_u (fr_t (fr_0 _ _) (fr_s hf_83 rfl)) hU32 rfl) 204 0 1 rfl
                  have y2 := qU44e 2 (by omega)
                  have v2 := (show fr_ [(269, []), (111, [57, 58, 59, 60, 61, 62, 63])] T U32 from fr_u (fr_t (fr_0 _ _) (fr_s hf_83 rfl)) hU32 rfl) 204 0 2 rfl
                  have y3 := qU44e 3 (by omega)
                  have v3 := (show fr_ [(269, []), (111, [57, 58, 59, 60, 61, 62, 63])] T U32 from fr_u (fr_t (fr_0 _ _) (fr_s hf_83 rfl)) hU32 rfl) 204 0 3 rfl
                  omega
              · refine iy_i (by omega) (by omega) ?_
                refine x_nm (fun U45 hU45 => ?_)
                have e46 := up_f hU45
                refine hK 200 [some (vR 111 0), some (vI s)] [] U45 ?_
                refine j_drop [some (vR 111 0), none] (fun k v hk => ?_) rfl ?_
                · match k, hk with
                  | 0, hk => exact hk
                  | 1, hk => cases hk
                  | k + 2, hk => cases hk
                have e47 : U45 111 0 57 = T4 111 0 57 := (up_k hU45 (by exact Nat.ne_of_beq_eq_false rfl) 0 57).trans (up_k hU32 (by exact Nat.ne_of_beq_eq_false rfl) 0 57)
                have e48 : U45 111 0 62 = T4 111 0 62 := (up_k hU45 (by exact Nat.ne_of_beq_eq_false rfl) 0 62).trans (up_k hU32 (by exact Nat.ne_of_beq_eq_false rfl) 0 62)
                have e49 : U45 204 0 2 = T 204 0 2 := (up_j hU45 (by exact ni_ rfl) 204 0).trans ((up_k hU32 (by exact Nat.ne_of_beq_eq_false rfl) 0 2).trans (hf_83 204 0 2 rfl))
                have e50 : U45 204 0 1 = T 204 0 1 := (up_j hU45 (by exact ni_ rfl) 204 0).trans ((up_k hU32 (by exact Nat.ne_of_beq_eq_false rfl) 0 1).trans (hf_83 204 0 1 rfl))
                have e51 : U45 204 0 3 = T 204 0 3 := (up_j hU45 (by exact ni_ rfl) 204 0).trans ((up_k hU32 (by exact Nat.ne_of_beq_eq_false rfl) 0 3).trans (hf_83 204 0 3 rfl))
                refine c_200 U45 ?_ ?_ ?_ ?_
                · exact fr_u (fr_u (fr_t (fr_0 _ _) (fr_s hf_83 rfl)) hU32 rfl) hU45 rfl
                · omega
                · have f0 : FI_ U32 := FI__f (ws := [(269, []), (111, [57, 58, 59, 60, 61, 62, 63])]) hFI (fr_u (fr_t (fr_0 _ _) (fr_s hf_83 rfl)) hU32 rfl) ⟨fun _ => rfl, trivial⟩
                  exact FI_1 f0 5 (fun j hj => up_g hU45 (fun z => hj z.2.2)) (fun _ _ => by show (0 : Int) ≤ _ ∧ _ ≤ (1 : Int); rw [up_f hU45]; omega)
                have e52 : U45 204 0 1 = T 204 0 1 := (up_j hU45 (by exact ni_ rfl) 204 0).trans ((up_k hU32 (by exact Nat.ne_of_beq_eq_false rfl) 0 1).trans (hf_83 204 0 1 rfl))
                have e53 : U45 204 0 2 = T 204 0 2 := (up_j hU45 (by exact ni_ rfl) 204 0).trans ((up_k hU32 (by exact Nat.ne_of_beq_eq_false rfl) 0 2).trans (hf_83 204 0 2 rfl))
                have e54 : U45 204 0 3 = T 204 0 3 := (up_j hU45 (by exact ni_ rfl) 204 0).trans ((up_k hU32 (by exact Nat.ne_of_beq_eq_false rfl) 0 3).trans (hf_83 204 0 3 rfl))
                · omega
            · refine hK 129 _ [vI 1, vI 9, vI 0, vR 111 0] U32 ?_
              have e55 : U32 111 0 57 = T4 111 0 57 := up_k hU32 (by exact Nat.ne_of_beq_eq_false rfl) 0 57
              have e56 : U32 111 0 1 = T 111 0 1 := (up_k hU32 (by exact Nat.ne_of_beq_eq_false rfl) 0 1).trans (hf_83 111 0 1 rfl)
              refine j_callV (y := yX11_wantNumber) (Yc := zX11_wantNumber) (rest := []) [vI 0, vI 9, vI 1] (ct_X11_wantNumber (T := U32) (by omega) (by omega) (by omega)) cl_X11_304 (qd_c (by decide +kernel)) (nn_ _) rfl (rf_of rfl) (Nat.le_of_ble_eq_true rfl) (Nat.le_of_ble_eq_true rfl) (Nat.le_of_ble_eq_true rfl) rfl ?_
              rintro U57 _ ⟨rfl, fU57, ⟨qU57a, qU57b, qU57c, qU57d, qU57e⟩⟩
              show J_ zX11_readStatement T (po_X11_readStatement T) 0 0 132 _ [] U57
              refine j_blx (F := fX11) tb_X11 (nn_ _) bk_X11_readStatement_132 bs_X11_readStatement_132 hz (fun K hK => ?_)
              refine ix_i (by omega) ?_
              intro b58 b58b
              refine hK 141 _ [vI 2, vI (U57 204 0 1), vI 0, vR 111 0] U57 ?_
              have e59 : U57 111 0 1 = T 111 0 1 := (fU57 111 0 1 rfl).trans ((up_k hU32 (by exact Nat.ne_of_beq_eq_false rfl) 0 1).trans (hf_83 111 0 1 rfl))
              refine j_callV (y := yX11_wantNumber) (Yc := zX11_wantNumber) (rest := []) [vI 0, vI (U57 204 0 1), vI 2] (ct_X11_wantNumber (T := U57) (by omega) (by omega) (by omega)) cl_X11_304 (qd_c (by decide +kernel)) (nn_ _) rfl (rf_of rfl) (Nat.le_of_ble_eq_true rfl) (Nat.le_of_ble_eq_true rfl) (Nat.le_of_ble_eq_true rfl) rfl ?_
              rintro U60 _ ⟨rfl, fU60, ⟨qU60a, qU60b, qU60c, qU60d, qU60e⟩⟩
              show J_ zX11_readStatement T (po_X11_readStatement T) 0 0 144 _ [] U60
              refine j_blx (F := fX11) tb_X11 (nn_ _) bk_X11_readStatement_144 bs_X11_readStatement_144 hz (fun K hK => ?_)
              refine ix_i (by omega) ?_
              intro b61 b61b
              refine hK 153 _ [vI 3, vI (U60 204 0 2), vI 0, vR 111 0] U60 ?_
              have e62 : U60 111 0 1 = T 111 0 1 := (fU60 111 0 1 rfl).trans ((fU57 111 0 1 rfl).trans ((up_k hU32 (by exact Nat.ne_of_beq_eq_false rfl) 0 1).trans (hf_83 111 0 1 rfl)))
              refine j_callV (y := yX11_wantNumber) (Yc := zX11_wantNumber) (rest := []) [vI 0, vI (U60 204 0 2), vI 3] (ct_X11_wantNumber (T := U60) (by omega) (by omega) (by omega)) cl_X11_304 (qd_c (by decide +kernel)) (nn_ _) rfl (rf_of rfl) (Nat.le_of_ble_eq_true rfl) (Nat.le_of_ble_eq_true rfl) (Nat.le_of_ble_eq_true rfl) rfl ?_
              rintro U63 _ ⟨rfl, fU63, ⟨qU63a, qU63b, qU63c, qU63d, qU63e⟩⟩
              show J_ zX11_readStatement T (po_X11_readStatement T) 0 0 156 _ [] U63
              refine j_blx (F := fX11) tb_X11 (nn_ _) bk_X11_readStatement_156 bs_X11_readStatement_156 hz (fun K hK => ?_)
              refine hK 200 _ [] U63 ?_
              refine j_drop [some (vR 111 0), none] (fun k v hk => ?_) rfl ?_
              · match k, hk with
                | 0, hk => exact hk
                | 1, hk => cases hk
                | k + 2, hk => cases hk
              refine c_200 U63 ?_ ?_ ?_ ?_
              · exact fr_t (fr_t (fr_t (fr_u (fr_t (fr_0 _ _) (fr_s hf_83 rfl)) hU32 rfl) (fr_s fU57 rfl)) (fr_s fU60 rfl)) (fr_s fU63 rfl)
              · omega
              · have f0 : FI_ U32 := FI__f (ws := [(269, []), (111, [57, 58, 59, 60, 61, 62, 63])]) hFI (fr_u (fr_t (fr_0 _ _) (fr_s hf_83 rfl)) hU32 rfl) ⟨fun _ => rfl, trivial⟩
                have f1 : FI_ U57 := (FI_1 f0 1 qU57e (fun _ _ => by have z : (0 : Int) ≤ U32 204 0 1 ∧ U32 204 0 1 ≤ (9 : Int) := f0 1 (by omega) (by omega); show (0 : Int) ≤ _ ∧ _ ≤ (9 : Int); omega))
                have f2 : FI_ U60 := (FI_1 f1 2 qU60e (fun _ _ => by have zz : (0 : Int) ≤ U57 204 0 1 ∧ U57 204 0 1 ≤ (9 : Int) := f1 1 (by omega) (by omega); have z : (0 : Int) ≤ U57 204 0 2 ∧ U57 204 0 2 ≤ (9 : Int) := f1 2 (by omega) (by omega); show (0 : Int) ≤ _ ∧ _ ≤ (9 : Int); omega))
                exact (FI_1 f2 3 qU63e (fun _ _ => by have zz : (0 : Int) ≤ U60 204 0 2 ∧ U60 204 0 2 ≤ (9 : Int) := f2 2 (by omega) (by omega); have z : (0 : Int) ≤ U60 204 0 3 ∧ U60 204 0 3 ≤ (9 : Int) := f2 3 (by omega) (by omega); show (0 : Int) ≤ _ ∧ _ ≤ (9 : Int); omega))
              · have y1 := qU63e 1 (by omega)
                have y2 := qU63e 2 (by omega)
                have y3 := qU60e 1 (by omega)
                omega
          · refine hK 113 _ [vR 111 0] U32 ?_
            have e64 : U32 111 0 57 = T4 111 0 57 := up_k hU32 (by exact Nat.ne_of_beq_eq_false rfl) 0 57
            have e65 : U32 111 0 1 = T 111 0 1 := (up_k hU32 (by exact Nat.ne_of_beq_eq_false rfl) 0 1).trans (hf_83 111 0 1 rfl)
            refine j_callV (y := yX11_readSport) (Yc := zX11_readSport) (rest := []) [] (ct_X11_readSport (T := U32) (by omega) (by exact CX_f (ws := [(269, []), (111, [57, 58, 59, 60, 61, 62, 63])]) hC (fr_u (fr_t (fr_0 _ _) (fr_s hf_83 rfl)) hU32 rfl) ⟨fun _ => rfl, fun _ => rfl, fun _ => rfl, fun _ => rfl, fun _ => rfl, trivial⟩)) cl_X11_301 (qd_c (by decide +kernel)) (nn_ _) rfl (rf_of rfl) (Nat.le_of_ble_eq_true rfl) (Nat.le_of_ble_eq_true rfl) (Nat.le_of_ble_eq_true rfl) rfl ?_
            rintro U66 _ ⟨rfl, fU66, ⟨qU66a, qU66b, qU66c, qU66d, qU66e⟩⟩
            show J_ zX11_readStatement T (po_X11_readStatement T) 0 0 116 _ [] U66
            refine j_blx (F := fX11) tb_X11 (nn_ _) bk_X11_readStatement_116 bs_X11_readStatement_116 hz (fun K hK => ?_)
            refine hK 200 _ [] U66 ?_
            refine j_drop [some (vR 111 0), none] (fun k v hk => ?_) rfl ?_
            · match k, hk with
              | 0, hk => exact hk
              | 1, hk => cases hk
              | k + 2, hk => cases hk
            refine c_200 U66 ?_ ?_ ?_ ?_
            · exact fr_t (fr_u (fr_t (fr_0 _ _) (fr_s hf_83 rfl)) hU32 rfl) (fr_s fU66 rfl)
            · omega
            · exact FI_1 (FI__f (ws := [(269, []), (111, [57, 58, 59, 60, 61, 62, 63])]) hFI (fr_u (fr_t (fr_0 _ _) (fr_s hf_83 rfl)) hU32 rfl) ⟨fun _ => rfl, trivial⟩) 0 qU66d (fun _ _ => by have z := hFI 0 (by omega) (by omega); have e0 : U32 204 0 0 = T 204 0 0 := ((show fr_ [(269, []), (111, [57, 58, 59, 60, 61, 62, 63])] T U32 from fr_u (fr_t (fr_0 _ _) (fr_s hf_83 rfl)) hU32 rfl)) 204 0 0 rfl; show (0 : Int) ≤ _ ∧ _ ≤ (3 : Int); have z2 : (0 : Int) ≤ T 204 0 0 ∧ T 204 0 0 ≤ (3 : Int) := z; omega)
            · have y1 := qU66d 1 (by omega)
              have v1 := (show fr_ [(269, []), (111, [57, 58, 59, 60, 61, 62, 63])] T U32 from fr_u (fr_t (fr_0 _ _) (fr_s hf_83 rfl)) hU32 rfl) 204 0 1 rfl
              have y2 := qU66d 2 (by omega)
              have v2 := (show fr_ [(269, []), (111, [57, 58, 59, 60, 61, 62, 63])] T U32 from fr_u (fr_t (fr_0 _ _) (fr_s hf_83 rfl)) hU32 rfl) 204 0 2 rfl
              have y3 := qU66d 3 (by omega)
              have v3 := (show fr_ [(269, []), (111, [57, 58, 59, 60, 61, 62, 63])] T U32 from fr_u (fr_t (fr_0 _ _) (fr_s hf_83 rfl)) hU32 rfl) 204 0 3 rfl
              omega
        · refine hK 104 _ [vR 111 0] U32 ?_
          have e67 : U32 111 0 57 = T4 111 0 57 := up_k hU32 (by exact Nat.ne_of_beq_eq_false rfl) 0 57
          have e68 : U32 111 0 1 = T 111 0 1 := (up_k hU32 (by exact Nat.ne_of_beq_eq_false rfl) 0 1).trans (hf_83 111 0 1 rfl)
          refine j_callV (y := yX11_readOrder) (Yc := zX11_readOrder) (rest := []) [] (ct_X11_readOrder (T := U32) (by omega) (by exact CX_f (ws := [(269, []), (111, [57, 58, 59, 60, 61, 62, 63])]) hC (fr_u (fr_t (fr_0 _ _) (fr_s hf_83 rfl)) hU32 rfl) ⟨fun _ => rfl, fun _ => rfl, fun _ => rfl, fun _ => rfl, fun _ => rfl, trivial⟩) (by exact FI__f (ws := [(269, []), (111, [57, 58, 59, 60, 61, 62, 63])]) hFI (fr_u (fr_t (fr_0 _ _) (fr_s hf_83 rfl)) hU32 rfl) ⟨fun _ => rfl, trivial⟩)) cl_X11_298 (qd_c (by decide +kernel)) (nn_ _) rfl (rf_of rfl) (Nat.le_of_ble_eq_true rfl) (Nat.le_of_ble_eq_true rfl) (Nat.le_of_ble_eq_true rfl) rfl ?_
          rintro U69 _ ⟨rfl, fU69, ⟨qU69a, qU69b, qU69c, qU69d, qU69f, qU69e⟩⟩
          show J_ zX11_readStatement T (po_X11_readStatement T) 0 0 107 _ [] U69
          refine j_blx (F := fX11) tb_X11 (nn_ _) bk_X11_readStatement_107 bs_X11_readStatement_107 hz (fun K hK => ?_)
          refine (show po_X11_readStatement T U69 (none) from ?_)
          have f0 : FI_ U32 := FI__f (ws := [(269, []), (111, [57, 58, 59, 60, 61, 62, 63])]) hFI (fr_u (fr_t (fr_0 _ _) (fr_s hf_83 rfl)) hU32 rfl) ⟨fun _ => rfl, trivial⟩
          have y1 := qU69d 1 (by omega) (by omega)
          have v1 := (show fr_ [(269, []), (111, [57, 58, 59, 60, 61, 62, 63])] T U32 from fr_u (fr_t (fr_0 _ _) (fr_s hf_83 rfl)) hU32 rfl) 204 0 1 rfl
          have y2 := qU69d 2 (by omega) (by omega)
          have v2 := (show fr_ [(269, []), (111, [57, 58, 59, 60, 61, 62, 63])] T U32 from fr_u (fr_t (fr_0 _ _) (fr_s hf_83 rfl)) hU32 rfl) 204 0 2 rfl
          have y3 := qU69d 3 (by omega) (by omega)
          have v3 := (show fr_ [(269, []), (111, [57, 58, 59, 60, 61, 62, 63])] T U32 from fr_u (fr_t (fr_0 _ _) (fr_s hf_83 rfl)) hU32 rfl) 204 0 3 rfl
          refine ⟨rfl, fr_t (fr_u (fr_t (fr_0 _ _) (fr_s hf_83 rfl)) hU32 rfl) (fr_s fU69 rfl), by omega, by omega, by omega, fun w a b => ?_, by omega⟩
          by_cases z : w < 16
          · by_cases z4 : w = 4
            · subst z4; show (0 : Int) ≤ _ ∧ _ ≤ (7 : Int); omega
            · rw [qU69d w z z4]; exact f0 w a b
          · have y := qU69f w (by omega) b
            rcases (by omega : w = 16 ∨ w = 17 ∨ w = 18 ∨ w = 19 ∨ w = 20 ∨ w = 21 ∨ w = 22) with rfl | rfl | rfl | rfl | rfl | rfl | rfl <;> exact y
      · refine (show po_X11_readStatement T T4 (none) from ?_)
        have e70 : T4 204 0 2 = T 204 0 2 := hf_83 204 0 2 rfl
        have e71 : T4 204 0 1 = T 204 0 1 := hf_83 204 0 1 rfl
        have e72 : T4 204 0 3 = T 204 0 3 := hf_83 204 0 3 rfl
        have e73 : T4 204 0 1 = T 204 0 1 := hf_83 204 0 1 rfl
        have e74 : T4 204 0 2 = T 204 0 2 := hf_83 204 0 2 rfl
        have e75 : T4 204 0 3 = T 204 0 3 := hf_83 204 0 3 rfl
        exact ⟨rfl, fr_t (fr_0 _ _) (fr_s hf_83 rfl), by omega, by omega, by omega, FI__f (ws := [(111, [57, 58, 59, 60, 61, 62, 63])]) hFI (fr_t (fr_0 _ _) (fr_s hf_83 rfl)) ⟨fun _ => rfl, trivial⟩, by omega⟩
    have c_58 : ∀ (T3 : Zt), (fr_ [(111, [57, 58, 59, 60, 61, 62, 63])] T T3) → (T3 111 0 57 ≤ T 111 0 1 ∧ T 111 0 57 ≤ T3 111 0 57 ∧ (T3 111 0 62 = 0 → T 111 0 62 = 0) ∧ (T3 111 0 62 = 0 → s ≠ -1)) → J_ zX11_readStatement T (po_X11_readStatement T) 0 0 58 [some (vR 111 0), some (vI s)] [] T3 := by
      intro T3 hf_58 i3
      refine j_blx (F := fX11) tb_X11 (nn_ _) bk_X11_readStatement_58 bs_X11_readStatement_58 hz (fun K hK => ?_)
      intro b76 b76b
      refine And.intro (fun c77 => ?_) (fun c77 => ?_)
      · refine hK 83 _ [] T3 ?_
        refine c_83 T3 ?_ ?_
        · exact fr_t (fr_0 _ _) (fr_s hf_58 rfl)
        · omega
      · refine ix_i (by omega) ?_
        intro b78 b78b
        have e79 : T3 269 0 s = T 269 0 s := hf_58 269 0 s rfl
        rw [e79] at b78 b78b ⊢
        refine And.intro (fun c80 => ?_) (fun c80 => ?_)
        · refine hK 83 _ [] T3 ?_
          refine c_83 T3 ?_ ?_
          · exact fr_t (fr_0 _ _) (fr_s hf_58 rfl)
          · omega
        · intro b81 b81b
          refine hK 80 _ [vI (T3 111 0 59), vI 5, vR 111 0] T3 ?_
          refine j_callV (y := yX11_bad) (Yc := zX11_bad) (rest := []) [vI 5, vI (T3 111 0 59)] (ct_X11_bad (T := T3) (by omega) (by omega)) cl_X11_281 (qd_c (by decide +kernel)) (nn_ _) rfl (rf_of rfl) (Nat.le_of_ble_eq_true rfl) (Nat.le_of_ble_eq_true rfl) (Nat.le_of_ble_eq_true rfl) rfl ?_
          rintro U82 _ ⟨rfl, fU82, qU82⟩
          show J_ zX11_readStatement T (po_X11_readStatement T) 0 0 83 _ [] U82
          have e83 : U82 111 0 57 = T3 111 0 57 := fU82 111 0 57 rfl
          refine c_83 U82 ?_ ?_
          · exact fr_t (fr_t (fr_0 _ _) (fr_s hf_58 rfl)) (fr_s fU82 rfl)
          · omega
    refine j_blx (F := fX11) tb_X11 (nn_ _) bk_X11_readStatement_36 bs_X11_readStatement_36 hz (fun K hK => ?_)
    intro b84 b84b
    refine And.intro (fun c85 => ?_) (fun c85 => ?_)
    · refine hK 58 [some (vR 111 0), some (vI s)] [] T2 ?_
      refine c_58 T2 ?_ ?_
      · exact fr_t (fr_0 _ _) (fr_s hf_36 rfl)
      · omega
    · refine And.intro (fun c86 => ?_) (fun c86 => ?_)
      · refine hK 58 _ [] T2 ?_
        refine c_58 T2 ?_ ?_
        · exact fr_t (fr_0 _ _) (fr_s hf_36 rfl)
        · omega
      · intro b87 b87b
        refine hK 55 _ [vI (T2 111 0 59), vI 3, vR 111 0] T2 ?_
        refine j_callV (y := yX11_bad) (Yc := zX11_bad) (rest := []) [vI 3, vI (T2 111 0 59)] (ct_X11_bad (T := T2) (by omega) (by omega)) cl_X11_281 (qd_c (by decide +kernel)) (nn_ _) rfl (rf_of rfl) (Nat.le_of_ble_eq_true rfl) (Nat.le_of_ble_eq_true rfl) (Nat.le_of_ble_eq_true rfl) rfl ?_
        rintro U88 _ ⟨rfl, fU88, qU88⟩
        show J_ zX11_readStatement T (po_X11_readStatement T) 0 0 58 _ [] U88
        have e89 : U88 111 0 57 = T2 111 0 57 := fU88 111 0 57 rfl
        refine c_58 U88 ?_ ?_
        · exact fr_t (fr_t (fr_0 _ _) (fr_s hf_36 rfl)) (fr_s fU88 rfl)
        · omega
  have c_17 : ∀ (T1 : Zt), (fr_ [(111, [57, 58, 59, 60, 61, 62, 63])] T T1) → (T1 111 0 57 ≤ T 111 0 1 ∧ T 111 0 57 ≤ T1 111 0 57 ∧ (T1 111 0 62 = 0 → T 111 0 62 = 0) ∧ T1 111 0 59 ≤ T1 111 0 60 ∧ T1 111 0 60 ≤ 400) → J_ zX11_readStatement T (po_X11_readStatement T) 0 0 17 [some (vR 111 0), none] [] T1 := by
    intro T1 hf_17 i1
    refine j_blx (F := fX11) tb_X11 (nn_ _) bk_X11_readStatement_17 bs_X11_readStatement_17 hz (fun K hK => ?_)
    intro b90 b90b
    refine And.intro (fun c91 => ?_) (fun c91 => ?_)
    · refine hK 35 _ [] T1 ?_
      refine j_blx (F := fX11) tb_X11 (nn_ _) bk_X11_readStatement_35 bs_X11_readStatement_35 hz (fun K hK => ?_)
      refine hK 36 _ [vI (-1)] T1 ?_
      refine c_36 (-1) T1 ?_ ?_
      · exact fr_t (fr_0 _ _) (fr_s hf_17 rfl)
      · omega
    · refine hK 29 _ [vR 264 0, vR 111 0] T1 ?_
      refine j_callV (y := yX11_whichOf) (Yc := zX11_whichOf) (rest := []) [vR 264 0] (ct_X11_whichOf_264 (T := T1) (by omega) (by exact CX_f (ws := [(111, [57, 58, 59, 60, 61, 62, 63])]) hC (fr_t (fr_0 _ _) (fr_s hf_17 rfl)) ⟨fun _ => rfl, fun _ => rfl, fun _ => rfl, fun _ => rfl, fun _ => rfl, trivial⟩)) cl_X11_294 (qd_c (by decide +kernel)) (nn_ _) rfl (rf_of rfl) (Nat.le_of_ble_eq_true rfl) (Nat.le_of_ble_eq_true rfl) (Nat.le_of_ble_eq_true rfl) rfl ?_
      rintro _ _ ⟨rfl, x92, rfl, hx92⟩
      show J_ zX11_readStatement T (po_X11_readStatement T) 0 0 32 _ [vI x92] T1
      refine j_blx (F := fX11) tb_X11 (nn_ _) bk_X11_readStatement_32 bs_X11_readStatement_32 hz (fun K hK => ?_)
      refine hK 36 _ [vI x92] T1 ?_
      refine c_36 x92 T1 ?_ ?_
      · exact fr_t (fr_0 _ _) (fr_s hf_17 rfl)
      · omega
  refine j_blx (F := fX11) tb_X11 (nn_ _) bk_X11_readStatement_0 bs_X11_readStatement_0 hz (fun K hK => ?_)
  intro b93 b93b
  refine And.intro (fun c94 => ?_) (fun c94 => ?_)
  · refine hK 17 _ [] T ?_
    refine c_17 T ?_ ?_
    · exact fr_0 _ _
    · omega
  · intro b95 b95b
    refine hK 14 _ [vI (T 111 0 59), vI 2, vR 111 0] T ?_
    refine j_callV (y := yX11_bad) (Yc := zX11_bad) (rest := []) [vI 2, vI (T 111 0 59)] (ct_X11_bad (T := T) (by omega) (by omega)) cl_X11_281 (qd_c (by decide +kernel)) (nn_ _) rfl (rf_of rfl) (Nat.le_of_ble_eq_true rfl) (Nat.le_of_ble_eq_true rfl) (Nat.le_of_ble_eq_true rfl) rfl ?_
    rintro U96 _ ⟨rfl, fU96, qU96⟩
    show J_ zX11_readStatement T (po_X11_readStatement T) 0 0 17 _ [] U96
    have e97 : U96 111 0 57 = T 111 0 57 := fU96 111 0 57 rfl
    have e98 : U96 111 0 59 = T 111 0 59 := fU96 111 0 59 rfl
    have e99 : U96 111 0 60 = T 111 0 60 := fU96 111 0 60 rfl
    refine c_17 U96 ?_ ?_
    · exact fr_t (fr_0 _ _) (fr_s fU96 rfl)
    · omega
abbrev cX11_competition : ByteArray := prog_13_method_18_code
def yX11_competition : MethodName := ⟨RX11, "competition", "()I"⟩
def zX11_competition : Zm := (RX11, cX11_competition, 3, (some .int), { frames := 5, cells := 0, slots := 0, locals := 107 })
theorem bk_X11_competition_113 : ck_ fX11 (some .int) cX11_competition 113 [.iload 2, .iconst 23, .if_icmp .ge 145, .aload 0, .tableswitch 0 11 5 #[], .iconst 23, .aload 0, .tableswitch 0 11 6 #[], .imul, .iload 2, .iadd, .aload 0, .tableswitch 0 11 4 #[], .iload 2, .iaload, .iastore, .iinc 2 1, .goto 113] 145 = true := qck_r (nn_ _) (by decide +kernel)
theorem bs_X11_competition_113 {P : Zt → Option Zv → Prop} (K : Int → Zl → List Zv → Zt → Prop) : sx_ K P [.iload 2, .iconst 23, .if_icmp .ge 145, .aload 0, .tableswitch 0 11 5 #[], .iconst 23, .aload 0, .tableswitch 0 11 6 #[], .imul, .iload 2, .iadd, .aload 0, .tableswitch 0 11 4 #[], .iload 2, .iaload, .iastore, .iinc 2 1, .goto 113] 145 = x_iload 2 (x_iconst 23 (x_if_icmp .ge 145 K (x_aload 0 (x_g1 111 205 (x_iconst 23 (x_aload 0 (x_g0 111 6 0 4 (x_imul (x_iload 2 (x_iadd (x_aload 0 (x_g1 111 204 (x_iload 2 (x_iaload (x_iastore (x_iinc 2 1 (x_goto 113 K))))))))))))))))) := ((xe_iload 2).trans (congrArg (x_iload 2) ((xe_iconst 23).trans (congrArg (x_iconst 23) ((xe_if_icmp .ge 145).trans (congrArg (x_if_icmp .ge 145 K) ((xe_aload 0).trans (congrArg (x_aload 0) ((xe_g1 (kk := 111) rfl tl_11_5).trans (congrArg (x_g1 111 205) ((xe_iconst 23).trans (congrArg (x_iconst 23) ((xe_aload 0).trans (congrArg (x_aload 0) ((xe_g0 (kk := 111) rfl tl_11_6).trans (congrArg (x_g0 111 6 0 4) ((xe_imul).trans (congrArg (x_imul) ((xe_iload 2).trans (congrArg (x_iload 2) ((xe_iadd).trans (congrArg (x_iadd) ((xe_aload 0).trans (congrArg (x_aload 0) ((xe_g1 (kk := 111) rfl tl_11_4).trans (congrArg (x_g1 111 204) ((xe_iload 2).trans (congrArg (x_iload 2) ((xe_iaload).trans (congrArg (x_iaload) ((xe_iastore).trans (congrArg (x_iastore) ((xe_iinc 2 1).trans (congrArg (x_iinc 2 1) (xe_goto 113)))))))))))))))))))))))))))))))))))
theorem bk_X11_competition_145 : ck_ fX11 (some .int) cX11_competition 145 [.aload 0, .dup, .tableswitch 0 11 6 #[], .iconst 1, .iadd, .tableswitch 1 11 6 #[], .aload 0, .tableswitch 0 11 6 #[], .iconst 1, .isub, .ireturn] 162 = true := qck_r (nn_ _) (by decide +kernel)
theorem bs_X11_competition_145 {P : Zt → Option Zv → Prop} (K : Int → Zl → List Zv → Zt → Prop) : sx_ K P [.aload 0, .dup, .tableswitch 0 11 6 #[], .iconst 1, .iadd, .tableswitch 1 11 6 #[], .aload 0, .tableswitch 0 11 6 #[], .iconst 1, .isub, .ireturn] 162 = x_aload 0 (x_dup (x_g0 111 6 0 4 (x_iconst 1 (x_iadd (x_p 111 6 0 4 (x_aload 0 (x_g0 111 6 0 4 (x_iconst 1 (x_isub (x_ireturn P)))))))))) := ((xe_aload 0).trans (congrArg (x_aload 0) ((xe_dup).trans (congrArg (x_dup) ((xe_g0 (kk := 111) rfl tl_11_6).trans (congrArg (x_g0 111 6 0 4) ((xe_iconst 1).trans (congrArg (x_iconst 1) ((xe_iadd).trans (congrArg (x_iadd) ((xe_p (kk := 111) rfl tl_11_6).trans (congrArg (x_p 111 6 0 4) ((xe_aload 0).trans (congrArg (x_aload 0) ((xe_g0 (kk := 111) rfl tl_11_6).trans (congrArg (x_g0 111 6 0 4) ((xe_iconst 1).trans (congrArg (x_iconst 1) ((xe_isub).trans (congrArg (x_isub) (xe_ireturn)))))))))))))))))))))
theorem bk_X11_competition_83 : ck_ fX11 (some .int) cX11_competition 83 [.aload 0, .iconst 0, .tableswitch 1 11 1 #[], .aload 0, .aload 0, .tableswitch 0 11 63 #[], .tableswitch 1 11 2 #[], .aload 0, .tableswitch 0 11 62 #[], .ifCond .eq 111, .iconst (-10), .aload 0, .tableswitch 0 11 62 #[], .isub, .ireturn] 111 = true := qck_r (nn_ _) (by decide +kernel)
theorem bs_X11_competition_83 {P : Zt → Option Zv → Prop} (K : Int → Zl → List Zv → Zt → Prop) : sx_ K P [.aload 0, .iconst 0, .tableswitch 1 11 1 #[], .aload 0, .aload 0, .tableswitch 0 11 63 #[], .tableswitch 1 11 2 #[], .aload 0, .tableswitch 0 11 62 #[], .ifCond .eq 111, .iconst (-10), .aload 0, .tableswitch 0 11 62 #[], .isub, .ireturn] 111 = x_aload 0 (x_iconst 0 (x_p 111 1 0 400 (x_aload 0 (x_aload 0 (x_g0 111 63 (-1) 400 (x_p 111 2 (-1) 400 (x_aload 0 (x_g0 111 62 0 5 (x_ifCond .eq 111 K (x_iconst (-10) (x_aload 0 (x_g0 111 62 0 5 (x_isub (x_ireturn P)))))))))))))) := ((xe_aload 0).trans (congrArg (x_aload 0) ((xe_iconst 0).trans (congrArg (x_iconst 0) ((xe_p (kk := 111) rfl tl_11_1).trans (congrArg (x_p 111 1 0 400) ((xe_aload 0).trans (congrArg (x_aload 0) ((xe_aload 0).trans (congrArg (x_aload 0) ((xe_g0 (kk := 111) rfl tl_11_63).trans (congrArg (x_g0 111 63 (-1) 400) ((xe_p (kk := 111) rfl tl_11_2).trans (congrArg (x_p 111 2 (-1) 400) ((xe_aload 0).trans (congrArg (x_aload 0) ((xe_g0 (kk := 111) rfl tl_11_62).trans (congrArg (x_g0 111 62 0 5) ((xe_ifCond .eq 111).trans (congrArg (x_ifCond .eq 111 K) ((xe_iconst (-10)).trans (congrArg (x_iconst (-10)) ((xe_aload 0).trans (congrArg (x_aload 0) ((xe_g0 (kk := 111) rfl tl_11_62).trans (congrArg (x_g0 111 62 0 5) ((xe_isub).trans (congrArg (x_isub) (xe_ireturn)))))))))))))))))))))))))))))
theorem bk_X11_competition_111 : ck_ fX11 (some .int) cX11_competition 111 [.iconst 0, .istore 2] 113 = true := qck_r (nn_ _) (by decide +kernel)
theorem bs_X11_competition_111 {P : Zt → Option Zv → Prop} (K : Int → Zl → List Zv → Zt → Prop) : sx_ K P [.iconst 0, .istore 2] 113 = x_iconst 0 (x_istore 2 (K 113)) := ((xe_iconst 0).trans (congrArg (x_iconst 0) ((xe_istore 2).trans (congrArg (x_istore 2) xe_nil))))
theorem bk_X11_competition_70 : ck_ fX11 (some .int) cX11_competition 70 [.iconst 0, .istore 1, .iload 1, .ifCond .eq 37, .aload 0] 77 = true := qck_r (nn_ _) (by decide +kernel)
theorem bs_X11_competition_70 {P : Zt → Option Zv → Prop} (K : Int → Zl → List Zv → Zt → Prop) : sx_ K P [.iconst 0, .istore 1, .iload 1, .ifCond .eq 37, .aload 0] 77 = x_iconst 0 (x_istore 1 (x_iload 1 (x_ifCond .eq 37 K (x_aload 0 (K 77))))) := ((xe_iconst 0).trans (congrArg (x_iconst 0) ((xe_istore 1).trans (congrArg (x_istore 1) ((xe_iload 1).trans (congrArg (x_iload 1) ((xe_ifCond .eq 37).trans (congrArg (x_ifCond .eq 37 K) ((xe_aload 0).trans (congrArg (x_aload 0) xe_nil))))))))))
set_option maxRecDepth 100000 in
theorem cl_X11_314 : cv_ RX11 314 yX11_readStatement zX11_readStatement 11 0 := ⟨gi_V (lw_b8 124 (by decide +kernel) rfl : Cond.methodLink RX11 314 yX11_readStatement ∈ lw_g) (lw_b8 126 (by decide +kernel) rfl : Cond.instanceMethod yX11_readStatement ∈ lw_g) (lw_sel 56 rfl : Cond.selects yX11_readStatement.cls yX11_readStatement yX11_readStatement ∈ lw_g) (lw_b1 10 (by decide +kernel) rfl : Cond.initialized yX11_readStatement.cls ∈ lw_g) (lw_b8 127 rfl rfl : Cond.code yX11_readStatement cX11_readStatement 2 none ∈ lw_g), ⟨by decide, by decide, by decide +kernel⟩, ⟨_, _, rfl⟩⟩
theorem bk_X11_competition_80 : ck_ fX11 (some .int) cX11_competition 80 [.goto 37] 83 = true := qck_r (nn_ _) (by decide +kernel)
theorem bs_X11_competition_80 {P : Zt → Option Zv → Prop} (K : Int → Zl → List Zv → Zt → Prop) : sx_ K P [.goto 37] 83 = x_goto 37 K := (xe_goto 37)
theorem bk_X11_competition_37 : ck_ fX11 (some .int) cX11_competition 37 [.iload 1, .ifCond .eq 83, .aload 0, .tableswitch 0 11 62 #[], .ifCond .ne 83, .aload 0] 49 = true := qck_r (nn_ _) (by decide +kernel)
theorem bs_X11_competition_37 {P : Zt → Option Zv → Prop} (K : Int → Zl → List Zv → Zt → Prop) : sx_ K P [.iload 1, .ifCond .eq 83, .aload 0, .tableswitch 0 11 62 #[], .ifCond .ne 83, .aload 0] 49 = x_iload 1 (x_ifCond .eq 83 K (x_aload 0 (x_g0 111 62 0 5 (x_ifCond .ne 83 K (x_aload 0 (K 49)))))) := ((xe_iload 1).trans (congrArg (x_iload 1) ((xe_ifCond .eq 83).trans (congrArg (x_ifCond .eq 83 K) ((xe_aload 0).trans (congrArg (x_aload 0) ((xe_g0 (kk := 111) rfl tl_11_62).trans (congrArg (x_g0 111 62 0 5) ((xe_ifCond .ne 83).trans (congrArg (x_ifCond .ne 83 K) ((xe_aload 0).trans (congrArg (x_aload 0) xe_nil))))))))))))
theorem bk_X11_competition_52 : ck_ fX11 (some .int) cX11_competition 52 [.aload 0, .tableswitch 0 11 62 #[], .ifCond .ne 70, .aload 0, .tableswitch 0 11 58 #[], .ifCond .eq 70, .iconst 1, .goto 71] 70 = true := qck_r (nn_ _) (by decide +kernel)
theorem bs_X11_competition_52 {P : Zt → Option Zv → Prop} (K : Int → Zl → List Zv → Zt → Prop) : sx_ K P [.aload 0, .tableswitch 0 11 62 #[], .ifCond .ne 70, .aload 0, .tableswitch 0 11 58 #[], .ifCond .eq 70, .iconst 1, .goto 71] 70 = x_aload 0 (x_g0 111 62 0 5 (x_ifCond .ne 70 K (x_aload 0 (x_g0 111 58 0 4 (x_ifCond .eq 70 K (x_iconst 1 (x_goto 71 K))))))) := ((xe_aload 0).trans (congrArg (x_aload 0) ((xe_g0 (kk := 111) rfl tl_11_62).trans (congrArg (x_g0 111 62 0 5) ((xe_ifCond .ne 70).trans (congrArg (x_ifCond .ne 70 K) ((xe_aload 0).trans (congrArg (x_aload 0) ((xe_g0 (kk := 111) rfl tl_11_58).trans (congrArg (x_g0 111 58 0 4) ((xe_ifCond .eq 70).trans (congrArg (x_ifCond .eq 70 K) ((xe_iconst 1).trans (congrArg (x_iconst 1) (xe_goto 71)))))))))))))))
theorem bk_X11_competition_71 : ck_ fX11 (some .int) cX11_competition 71 [.istore 1, .iload 1, .ifCond .eq 37, .aload 0] 77 = true := qck_r (nn_ _) (by decide +kernel)
theorem bs_X11_competition_71 {P : Zt → Option Zv → Prop} (K : Int → Zl → List Zv → Zt → Prop) : sx_ K P [.istore 1, .iload 1, .ifCond .eq 37, .aload 0] 77 = x_istore 1 (x_iload 1 (x_ifCond .eq 37 K (x_aload 0 (K 77)))) := ((xe_istore 1).trans (congrArg (x_istore 1) ((xe_iload 1).trans (congrArg (x_iload 1) ((xe_ifCond .eq 37).trans (congrArg (x_ifCond .eq 37 K) ((xe_aload 0).trans (congrArg (x_aload 0) xe_nil))))))))
theorem bk_X11_competition_0 : ck_ fX11 (some .int) cX11_competition 0 [.aload 0, .tableswitch 0 11 6 #[], .iconst 4, .if_icmp .ne 16, .aload 0, .iconst (-1), .tableswitch 1 11 2 #[], .iconst (-5), .ireturn] 16 = true := qck_r (nn_ _) (by decide +kernel)
theorem bs_X11_competition_0 {P : Zt → Option Zv → Prop} (K : Int → Zl → List Zv → Zt → Prop) : sx_ K P [.aload 0, .tableswitch 0 11 6 #[], .iconst 4, .if_icmp .ne 16, .aload 0, .iconst (-1), .tableswitch 1 11 2 #[], .iconst (-5), .ireturn] 16 = x_aload 0 (x_g0 111 6 0 4 (x_iconst 4 (x_if_icmp .ne 16 K (x_aload 0 (x_iconst (-1) (x_p 111 2 (-1) 400 (x_iconst (-5) (x_ireturn P)))))))) := ((xe_aload 0).trans (congrArg (x_aload 0) ((xe_g0 (kk := 111) rfl tl_11_6).trans (congrArg (x_g0 111 6 0 4) ((xe_iconst 4).trans (congrArg (x_iconst 4) ((xe_if_icmp .ne 16).trans (congrArg (x_if_icmp .ne 16 K) ((xe_aload 0).trans (congrArg (x_aload 0) ((xe_iconst (-1)).trans (congrArg (x_iconst (-1)) ((xe_p (kk := 111) rfl tl_11_2).trans (congrArg (x_p 111 2 (-1) 400) ((xe_iconst (-5)).trans (congrArg (x_iconst (-5)) (xe_ireturn)))))))))))))))))
theorem bk_X11_competition_16 : ck_ fX11 (some .int) cX11_competition 16 [.aload 0, .iconst 0, .tableswitch 1 11 57 #[], .aload 0, .iconst 0, .tableswitch 1 11 62 #[], .aload 0, .iconst (-1), .tableswitch 1 11 63 #[], .aload 0] 32 = true := qck_r (nn_ _) (by decide +kernel)
theorem bs_X11_competition_16 {P : Zt → Option Zv → Prop} (K : Int → Zl → List Zv → Zt → Prop) : sx_ K P [.aload 0, .iconst 0, .tableswitch 1 11 57 #[], .aload 0, .iconst 0, .tableswitch 1 11 62 #[], .aload 0, .iconst (-1), .tableswitch 1 11 63 #[], .aload 0] 32 = x_aload 0 (x_iconst 0 (x_p 111 57 0 400 (x_aload 0 (x_iconst 0 (x_p 111 62 0 5 (x_aload 0 (x_iconst (-1) (x_p 111 63 (-1) 400 (x_aload 0 (K 32)))))))))) := ((xe_aload 0).trans (congrArg (x_aload 0) ((xe_iconst 0).trans (congrArg (x_iconst 0) ((xe_p (kk := 111) rfl tl_11_57).trans (congrArg (x_p 111 57 0 400) ((xe_aload 0).trans (congrArg (x_aload 0) ((xe_iconst 0).trans (congrArg (x_iconst 0) ((xe_p (kk := 111) rfl tl_11_62).trans (congrArg (x_p 111 62 0 5) ((xe_aload 0).trans (congrArg (x_aload 0) ((xe_iconst (-1)).trans (congrArg (x_iconst (-1)) ((xe_p (kk := 111) rfl tl_11_63).trans (congrArg (x_p 111 63 (-1) 400) ((xe_aload 0).trans (congrArg (x_aload 0) xe_nil))))))))))))))))))))
set_option maxRecDepth 100000 in
theorem cl_X11_311 : cv_ RX11 311 yX11_layDefaults zX11_layDefaults 11 0 := ⟨gi_V (lw_b8 106 (by decide +kernel) rfl : Cond.methodLink RX11 311 yX11_layDefaults ∈ lw_g) (lw_b8 108 (by decide +kernel) rfl : Cond.instanceMethod yX11_layDefaults ∈ lw_g) (lw_sel 33 rfl : Cond.selects yX11_layDefaults.cls yX11_layDefaults yX11_layDefaults ∈ lw_g) (lw_b1 10 (by decide +kernel) rfl : Cond.initialized yX11_layDefaults.cls ∈ lw_g) (lw_b8 109 rfl rfl : Cond.code yX11_layDefaults cX11_layDefaults 2 none ∈ lw_g), ⟨by decide, by decide, by decide +kernel⟩, ⟨_, _, rfl⟩⟩
theorem bk_X11_competition_35 : ck_ fX11 (some .int) cX11_competition 35 [.iconst 1, .istore 1] 37 = true := qck_r (nn_ _) (by decide +kernel)
theorem bs_X11_competition_35 {P : Zt → Option Zv → Prop} (K : Int → Zl → List Zv → Zt → Prop) : sx_ K P [.iconst 1, .istore 1] 37 = x_iconst 1 (x_istore 1 (K 37)) := ((xe_iconst 1).trans (congrArg (x_iconst 1) ((xe_istore 1).trans (congrArg (x_istore 1) xe_nil))))
abbrev cX11_fault : ByteArray := prog_13_method_19_code
def yX11_fault : MethodName := ⟨RX11, "fault", "()I"⟩
def zX11_fault : Zm := (RX11, cX11_fault, 1, (some .int), { frames := 0, cells := 0, slots := 0, locals := 0 })
theorem bk_X11_fault_0 : ck_ fX11 (some .int) cX11_fault 0 [.aload 0, .tableswitch 0 11 2 #[], .ireturn] 5 = true := qck_r (nn_ _) (by decide +kernel)
theorem bs_X11_fault_0 {P : Zt → Option Zv → Prop} (K : Int → Zl → List Zv → Zt → Prop) : sx_ K P [.aload 0, .tableswitch 0 11 2 #[], .ireturn] 5 = x_aload 0 (x_g0 111 2 (-1) 400 (x_ireturn P)) := ((xe_aload 0).trans (congrArg (x_aload 0) ((xe_g0 (kk := 111) rfl tl_11_2).trans (congrArg (x_g0 111 2 (-1) 400) (xe_ireturn)))))
abbrev po_X11_fault (T : Zt) : Zt → Option Zv → Prop := fun T' r => T = T' ∧ ∃ x : Int, r = some (vI x) ∧ (True)
set_option maxHeartbeats 4000000 in
theorem ct_X11_fault {T : Zt} : Ct_ yX11_fault zX11_fault T [vR 111 0] (po_X11_fault T) := by
  refine ct_of pn_11 rfl rfl (Nat.le_of_ble_eq_true rfl) (fun hT hav => ?_)
  have hz : zX11_fault.2.2.2.1 = some .boolean → ∀ (T' : Zt) (x : Int), po_X11_fault T T' (some (vI x)) → 0 ≤ x ∧ x ≤ 1 := fun h => by cases h
  show J_ zX11_fault T (po_X11_fault T) 0 0 0 [some (vR 111 0)] [] T
  refine j_blx (F := fX11) tb_X11 (nn_ _) bk_X11_fault_0 bs_X11_fault_0 hz (fun K hK => ?_)
  intro b1 b1b
  refine (show po_X11_fault T T (some (vI (T 111 0 2))) from ?_)
  exact ⟨rfl, _, rfl, by trivial⟩
abbrev cX11_rule : ByteArray := prog_13_method_20_code
def yX11_rule : MethodName := ⟨RX11, "rule", "(II)I"⟩
def zX11_rule : Zm := (RX11, cX11_rule, 3, (some .int), { frames := 2, cells := 0, slots := 0, locals := 43 })
theorem bk_X11_rule_0 : ck_ fX11 (some .int) cX11_rule 0 [.iload 1, .aload 0, .tableswitch 0 11 6 #[]] 5 = true := qck_r (nn_ _) (by decide +kernel)
theorem bs_X11_rule_0 {P : Zt → Option Zv → Prop} (K : Int → Zl → List Zv → Zt → Prop) : sx_ K P [.iload 1, .aload 0, .tableswitch 0 11 6 #[]] 5 = x_iload 1 (x_aload 0 (x_g0 111 6 0 4 (K 5))) := ((xe_iload 1).trans (congrArg (x_iload 1) ((xe_aload 0).trans (congrArg (x_aload 0) ((xe_g0 (kk := 111) rfl tl_11_6).trans (congrArg (x_g0 111 6 0 4) xe_nil))))))
set_option maxRecDepth 100000 in
theorem cl_X11_317 : cs_ RX11 317 yX11_isOf zX11_isOf 2 := ⟨gi_S (lw_b8 152 (by decide +kernel) rfl : Cond.methodLink RX11 317 yX11_isOf ∈ lw_g) (lw_b8 153 (by decide +kernel) rfl : Cond.static yX11_isOf ∈ lw_g) (lw_b1 10 (by decide +kernel) rfl : Cond.initialized yX11_isOf.cls ∈ lw_g) (lw_b8 154 rfl rfl : Cond.code yX11_isOf cX11_isOf 2 (some .boolean) ∈ lw_g), ⟨by decide, by decide, by decide +kernel⟩⟩
theorem bk_X11_rule_8 : ck_ fX11 (some .int) cX11_rule 8 [.ifCond .ne 14, .iconst (-2), .ireturn] 14 = true := qck_r (nn_ _) (by decide +kernel)
theorem bs_X11_rule_8 {P : Zt → Option Zv → Prop} (K : Int → Zl → List Zv → Zt → Prop) : sx_ K P [.ifCond .ne 14, .iconst (-2), .ireturn] 14 = x_ifCond .ne 14 K (x_iconst (-2) (x_ireturn P)) := ((xe_ifCond .ne 14).trans (congrArg (x_ifCond .ne 14 K) ((xe_iconst (-2)).trans (congrArg (x_iconst (-2)) (xe_ireturn)))))
theorem bk_X11_rule_14 : ck_ fX11 (some .int) cX11_rule 14 [.iload 2, .iconst 0, .iconst 22] 18 = true := qck_r (nn_ _) (by decide +kernel)
theorem bs_X11_rule_14 {P : Zt → Option Zv → Prop} (K : Int → Zl → List Zv → Zt → Prop) : sx_ K P [.iload 2, .iconst 0, .iconst 22] 18 = x_iload 2 (x_iconst 0 (x_iconst 22 (K 18))) := ((xe_iload 2).trans (congrArg (x_iload 2) ((xe_iconst 0).trans (congrArg (x_iconst 0) ((xe_iconst 22).trans (congrArg (x_iconst 22) xe_nil))))))
theorem bk_X11_rule_21 : ck_ fX11 (some .int) cX11_rule 21 [.ifCond .eq 33, .aload 0, .iload 1, .iload 2] 27 = true := qck_r (nn_ _) (by decide +kernel)
theorem bs_X11_rule_21 {P : Zt → Option Zv → Prop} (K : Int → Zl → List Zv → Zt → Prop) : sx_ K P [.ifCond .eq 33, .aload 0, .iload 1, .iload 2] 27 = x_ifCond .eq 33 K (x_aload 0 (x_iload 1 (x_iload 2 (K 27)))) := ((xe_ifCond .eq 33).trans (congrArg (x_ifCond .eq 33 K) ((xe_aload 0).trans (congrArg (x_aload 0) ((xe_iload 1).trans (congrArg (x_iload 1) ((xe_iload 2).trans (congrArg (x_iload 2) xe_nil))))))))
theorem bk_X11_rule_33 : ck_ fX11 (some .int) cX11_rule 33 [.iconst (-3), .ireturn] 36 = true := qck_r (nn_ _) (by decide +kernel)
theorem bs_X11_rule_33 {P : Zt → Option Zv → Prop} (K : Int → Zl → List Zv → Zt → Prop) : sx_ K P [.iconst (-3), .ireturn] 36 = x_iconst (-3) (x_ireturn P) := ((xe_iconst (-3)).trans (congrArg (x_iconst (-3)) (xe_ireturn)))
set_option maxRecDepth 100000 in
theorem cl_X11_321 : cv_ RX11 321 yX11_rule0 zX11_rule0 11 2 := ⟨gi_V (lw_b8 155 (by decide +kernel) rfl : Cond.methodLink RX11 321 yX11_rule0 ∈ lw_g) (lw_b8 157 (by decide +kernel) rfl : Cond.instanceMethod yX11_rule0 ∈ lw_g) (lw_sel 59 rfl : Cond.selects yX11_rule0.cls yX11_rule0 yX11_rule0 ∈ lw_g) (lw_b1 10 (by decide +kernel) rfl : Cond.initialized yX11_rule0.cls ∈ lw_g) (lw_b8 158 rfl rfl : Cond.code yX11_rule0 cX11_rule0 3 (some .int) ∈ lw_g), ⟨by decide, by decide, by decide +kernel⟩, ⟨_, _, rfl⟩⟩
theorem bk_X11_rule_30 : ck_ fX11 (some .int) cX11_rule 30 [.goto 35] 33 = true := qck_r (nn_ _) (by decide +kernel)
theorem bs_X11_rule_30 {P : Zt → Option Zv → Prop} (K : Int → Zl → List Zv → Zt → Prop) : sx_ K P [.goto 35] 33 = x_goto 35 K := (xe_goto 35)
theorem bk_X11_rule_35 : ck_ fX11 (some .int) cX11_rule 35 [.ireturn] 36 = true := qck_r (nn_ _) (by decide +kernel)
theorem bs_X11_rule_35 {P : Zt → Option Zv → Prop} (K : Int → Zl → List Zv → Zt → Prop) : sx_ K P [.ireturn] 36 = x_ireturn P := (xe_ireturn)
abbrev po_X11_rule (T : Zt) (c w : Int) : Zt → Option Zv → Prop := fun T' r => T = T' ∧ ∃ x : Int, r = some (vI x) ∧ (True)
set_option maxHeartbeats 4000000 in
theorem ct_X11_rule {T : Zt} {c w : Int} : Ct_ yX11_rule zX11_rule T [vR 111 0, vI c, vI w] (po_X11_rule T c w) := by
  refine ct_of pn_11 rfl rfl (Nat.le_of_ble_eq_true rfl) (fun hT hav => ?_)
  have hr_c : -2147483648 ≤ c ∧ c ≤ 2147483647 := hav (vI c) (by simp)
  have hr_w : -2147483648 ≤ w ∧ w ≤ 2147483647 := hav (vI w) (by simp)
  have hz : zX11_rule.2.2.2.1 = some .boolean → ∀ (T' : Zt) (x : Int), po_X11_rule T c w T' (some (vI x)) → 0 ≤ x ∧ x ≤ 1 := fun h => by cases h
  have hb_6 : 0 ≤ T 111 0 6 ∧ T 111 0 6 ≤ 4 := bd_f hT 111 6 (by decide +kernel : (tf_ 111)[6]? = some (0, 0, 0, 4)) 0
  show J_ zX11_rule T (po_X11_rule T c w) 0 0 0 [some (vR 111 0), some (vI c), some (vI w)] [] T
  refine j_blx (F := fX11) tb_X11 (nn_ _) bk_X11_rule_0 bs_X11_rule_0 hz (fun K hK => ?_)
  intro b1 b1b
  refine hK 5 _ [vI (T 111 0 6), vI c] T ?_
  refine j_callS (y := yX11_isOf) (Yc := zX11_isOf) (rest := []) [vI c, vI (T 111 0 6)] (ct_X11_isOf (T := T) (by omega)) cl_X11_317 (qd_c (by decide +kernel)) (nn_ _) rfl (rf_of rfl) (Nat.le_of_ble_eq_true rfl) (Nat.le_of_ble_eq_true rfl) (Nat.le_of_ble_eq_true rfl) rfl ?_
  rintro _ _ ⟨rfl, x2, rfl, hx2⟩
  show J_ zX11_rule T (po_X11_rule T c w) 0 0 8 _ [vI x2] T
  refine j_blx (F := fX11) tb_X11 (nn_ _) bk_X11_rule_8 bs_X11_rule_8 hz (fun K hK => ?_)
  refine And.intro (fun c3 => ?_) (fun c3 => ?_)
  · refine hK 14 _ [] T ?_
    refine j_blx (F := fX11) tb_X11 (nn_ _) bk_X11_rule_14 bs_X11_rule_14 hz (fun K hK => ?_)
    refine hK 18 _ [vI 22, vI 0, vI w] T ?_
    refine j_callS (y := yX11_in) (Yc := zX11_in) (rest := []) [vI w, vI 0, vI 22] (ct_X11_in (T := T)) cl_X11_255 (qd_c (by decide +kernel)) (nn_ _) rfl (rf_of rfl) (Nat.le_of_ble_eq_true rfl) (Nat.le_of_ble_eq_true rfl) (Nat.le_of_ble_eq_true rfl) rfl ?_
    rintro _ _ ⟨rfl, x4, rfl, hx4⟩
    show J_ zX11_rule T (po_X11_rule T c w) 0 0 21 _ [vI x4] T
    refine j_blx (F := fX11) tb_X11 (nn_ _) bk_X11_rule_21 bs_X11_rule_21 hz (fun K hK => ?_)
    refine And.intro (fun c5 => ?_) (fun c5 => ?_)
    · refine hK 33 _ [] T ?_
      refine j_blx (F := fX11) tb_X11 (nn_ _) bk_X11_rule_33 bs_X11_rule_33 hz (fun K hK => ?_)
      refine (show po_X11_rule T c w T (some (vI (-3))) from ?_)
      exact ⟨rfl, _, rfl, by trivial⟩
    · refine hK 27 _ [vI w, vI c, vR 111 0] T ?_
      refine j_callV (y := yX11_rule0) (Yc := zX11_rule0) (rest := []) [vI c, vI w] (ct_X11_rule0 (T := T) (by omega) (by omega)) cl_X11_321 (qd_c (by decide +kernel)) (nn_ _) rfl (rf_of rfl) (Nat.le_of_ble_eq_true rfl) (Nat.le_of_ble_eq_true rfl) (Nat.le_of_ble_eq_true rfl) rfl ?_
      rintro _ _ ⟨rfl, rfl⟩
      show J_ zX11_rule T (po_X11_rule T c w) 0 0 30 _ [vI (T 205 0 (23 * c + w))] T
      refine j_blx (F := fX11) tb_X11 (nn_ _) bk_X11_rule_30 bs_X11_rule_30 hz (fun K hK => ?_)
      refine hK 35 _ [vI (T 205 0 (23 * c + w))] T ?_
      refine j_blx (F := fX11) tb_X11 (nn_ _) bk_X11_rule_35 bs_X11_rule_35 hz (fun K hK => ?_)
      refine (show po_X11_rule T c w T (some (vI (T 205 0 (23 * c + w)))) from ?_)
      exact ⟨rfl, _, rfl, by trivial⟩
  · refine (show po_X11_rule T c w T (some (vI (-2))) from ?_)
    exact ⟨rfl, _, rfl, by trivial⟩
