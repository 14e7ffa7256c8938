def KS_ (T : Zt) : Prop := ∀ c : Int, 0 ≤ c → c < T 106 0 2 → ∀ m : Int, T 100 c 7 ≤ m → m < T 100 c 7 + T 100 c 8 → T 102 m 0 = c ∧ 0 ≤ T 404 c (T 102 m 3) ∧ 0 ≤ T 404 c (T 102 m 4)
theorem KS__f {ws : List (Nat × List Int)} {T T' : Zt} (h : KS_ T) (f : fr_ ws T T') (w : (∀ j, fw_ ws 404 j = false) ∧ fw_ ws 100 7 = false ∧ fw_ ws 100 8 = false ∧ fw_ ws 102 0 = false ∧ fw_ ws 102 3 = false ∧ fw_ ws 102 4 = false ∧ fw_ ws 106 2 = false ∧ True) : KS_ T' := by
  have e0 : ∀ i j, T' 404 i j = T 404 i j := fun i j => f 404 i j (w.1 j)
  have e1 : ∀ i, T' 100 i 7 = T 100 i 7 := fun i => f 100 i 7 w.2.1
  have e2 : ∀ i, T' 100 i 8 = T 100 i 8 := fun i => f 100 i 8 w.2.2.1
  have e3 : ∀ i, T' 102 i 0 = T 102 i 0 := fun i => f 102 i 0 w.2.2.2.1
  have e4 : ∀ i, T' 102 i 3 = T 102 i 3 := fun i => f 102 i 3 w.2.2.2.2.1
  have e5 : ∀ i, T' 102 i 4 = T 102 i 4 := fun i => f 102 i 4 w.2.2.2.2.2.1
  have e6 : ∀ i, T' 106 i 2 = T 106 i 2 := fun i => f 106 i 2 w.2.2.2.2.2.2.1
  simp only [KS_, e0, e1, e2, e3, e4, e5, e6] at h ⊢
  exact h
abbrev cX9_takePoints : ByteArray := prog_11_method_4_code
def yX9_takePoints : MethodName := ⟨RX9, "takePoints", "(I)V"⟩
def zX9_takePoints : Zm := (RX9, cX9_takePoints, 6, none, { frames := 3, cells := 0, slots := 0, locals := 76 })
theorem bk_X9_takePoints_56 : ck_ fX9 none cX9_takePoints 56 [.iload 2, .aload 0, .tableswitch 0 9 5 #[], .tableswitch 0 0 8 #[], .if_icmp .ge 190, .aload 0, .tableswitch 0 9 0 #[], .tableswitch 0 6 3 #[], .aload 0, .tableswitch 0 9 5 #[], .tableswitch 0 0 7 #[], .iload 2, .iadd, .aaload, .astore 3, .aload 0, .tableswitch 0 9 4 #[], .aload 3, .tableswitch 0 2 1 #[], .iaload, .iconst (-1), .if_icmp .eq 184, .aload 0, .tableswitch 0 9 5 #[], .tableswitch 0 0 4 #[], .aload 3, .tableswitch 0 2 3 #[], .iaload, .istore 4, .aload 0, .tableswitch 0 9 5 #[], .tableswitch 0 0 4 #[], .aload 3, .tableswitch 0 2 4 #[], .iaload, .istore 5, .aload 0, .tableswitch 0 9 7 #[], .iload 4, .dup2, .iaload, .aload 0, .tableswitch 0 9 5 #[], .tableswitch 0 0 1 #[], .iload 4, .iload 1, .if_icmp .ne 151, .iconst 1, .goto 152] 151 = true := qck_r (nn_ _) (by decide +kernel)
theorem bs_X9_takePoints_56 {P : Zt → Option Zv → Prop} (K : Int → Zl → List Zv → Zt → Prop) : sx_ K P [.iload 2, .aload 0, .tableswitch 0 9 5 #[], .tableswitch 0 0 8 #[], .if_icmp .ge 190, .aload 0, .tableswitch 0 9 0 #[], .tableswitch 0 6 3 #[], .aload 0, .tableswitch 0 9 5 #[], .tableswitch 0 0 7 #[], .iload 2, .iadd, .aaload, .astore 3, .aload 0, .tableswitch 0 9 4 #[], .aload 3, .tableswitch 0 2 1 #[], .iaload, .iconst (-1), .if_icmp .eq 184, .aload 0, .tableswitch 0 9 5 #[], .tableswitch 0 0 4 #[], .aload 3, .tableswitch 0 2 3 #[], .iaload, .istore 4, .aload 0, .tableswitch 0 9 5 #[], .tableswitch 0 0 4 #[], .aload 3, .tableswitch 0 2 4 #[], .iaload, .istore 5, .aload 0, .tableswitch 0 9 7 #[], .iload 4, .dup2, .iaload, .aload 0, .tableswitch 0 9 5 #[], .tableswitch 0 0 1 #[], .iload 4, .iload 1, .if_icmp .ne 151, .iconst 1, .goto 152] 151 = x_iload 2 (x_aload 0 (x_g5 109 100 5 (x_g0 100 8 0 400 (x_if_icmp .ge 190 K (x_aload 0 (x_g1 109 106 (x_g1 106 523 (x_aload 0 (x_g5 109 100 5 (x_g0 100 7 0 400 (x_iload 2 (x_iadd (x_aaload (x_astore 3 (x_aload 0 (x_g1 109 584 (x_aload 3 (x_g0 102 1 0 399 (x_iaload (x_iconst (-1) (x_if_icmp .eq 184 K (x_aload 0 (x_g5 109 100 5 (x_g2 100 404 (x_aload 3 (x_g0 102 3 0 11 (x_iaload (x_istore 4 (x_aload 0 (x_g5 109 100 5 (x_g2 100 404 (x_aload 3 (x_g0 102 4 0 11 (x_iaload (x_istore 5 (x_aload 0 (x_g1 109 587 (x_iload 4 (x_dup2 (x_iaload (x_aload 0 (x_g5 109 100 5 (x_g2 100 401 (x_iload 4 (x_iload 1 (x_if_icmp .ne 151 K (x_iconst 1 (x_goto 152 K)))))))))))))))))))))))))))))))))))))))))))))))) := ((xe_iload 2).trans (congrArg (x_iload 2) ((xe_aload 0).trans (congrArg (x_aload 0) ((xe_g5 (kk := 109) rfl tl_9_5).trans (congrArg (x_g5 109 100 5) ((xe_g0 (kk := 100) rfl tl_0_8).trans (congrArg (x_g0 100 8 0 400) ((xe_if_icmp .ge 190).trans (congrArg (x_if_icmp .ge 190 K) ((xe_aload 0).trans (congrArg (x_aload 0) ((xe_g1 (kk := 109) rfl tl_9_0).trans (congrArg (x_g1 109 106) ((xe_g1 (kk := 106) rfl tl_6_3).trans (congrArg (x_g1 106 523) ((xe_aload 0).trans (congrArg (x_aload 0) ((xe_g5 (kk := 109) rfl tl_9_5).trans (congrArg (x_g5 109 100 5) ((xe_g0 (kk := 100) rfl tl_0_7).trans (congrArg (x_g0 100 7 0 400) ((xe_iload 2).trans (congrArg (x_iload 2) ((xe_iadd).trans (congrArg (x_iadd) ((xe_aaload).trans (congrArg (x_aaload) ((xe_astore 3).trans (congrArg (x_astore 3) ((xe_aload 0).trans (congrArg (x_aload 0) ((xe_g1 (kk := 109) rfl tl_9_4).trans (congrArg (x_g1 109 584) ((xe_aload 3).trans (congrArg (x_aload 3) ((xe_g0 (kk := 102) rfl tl_2_1).trans (congrArg (x_g0 102 1 0 399) ((xe_iaload).trans (congrArg (x_iaload) ((xe_iconst (-1)).trans (congrArg (x_iconst (-1)) ((xe_if_icmp .eq 184).trans (congrArg (x_if_icmp .eq 184 K) ((xe_aload 0).trans (congrArg (x_aload 0) ((xe_g5 (kk := 109) rfl tl_9_5).trans (congrArg (x_g5 109 100 5) ((xe_g2 (kk := 100) rfl tl_0_4).trans (congrArg (x_g2 100 404) ((xe_aload 3).trans (congrArg (x_aload 3) ((xe_g0 (kk := 102) rfl tl_2_3).trans (congrArg (x_g0 102 3 0 11) ((xe_iaload).trans (congrArg (x_iaload) ((xe_istore 4).trans (congrArg (x_istore 4) ((xe_aload 0).trans (congrArg (x_aload 0) ((xe_g5 (kk := 109) rfl tl_9_5).trans (congrArg (x_g5 109 100 5) ((xe_g2 (kk := 100) rfl tl_0_4).trans (congrArg (x_g2 100 404) ((xe_aload 3).trans (congrArg (x_aload 3) ((xe_g0 (kk := 102) rfl tl_2_4).trans (congrArg (x_g0 102 4 0 11) ((xe_iaload).trans (congrArg (x_iaload) ((xe_istore 5).trans (congrArg (x_istore 5) ((xe_aload 0).trans (congrArg (x_aload 0) ((xe_g1 (kk := 109) rfl tl_9_7).trans (congrArg (x_g1 109 587) ((xe_iload 4).trans (congrArg (x_iload 4) ((xe_dup2).trans (congrArg (x_dup2) ((xe_iaload).trans (congrArg (x_iaload) ((xe_aload 0).trans (congrArg (x_aload 0) ((xe_g5 (kk := 109) rfl tl_9_5).trans (congrArg (x_g5 109 100 5) ((xe_g2 (kk := 100) rfl tl_0_1).trans (congrArg (x_g2 100 401) ((xe_iload 4).trans (congrArg (x_iload 4) ((xe_iload 1).trans (congrArg (x_iload 1) ((xe_if_icmp .ne 151).trans (congrArg (x_if_icmp .ne 151 K) ((xe_iconst 1).trans (congrArg (x_iconst 1) (xe_goto 152)))))))))))))))))))))))))))))))))))))))))))))))))))))))))))))))))))))))))))))))))))))))))))))))))
theorem bk_X9_takePoints_190 : ck_ fX9 none cX9_takePoints 190 [.aload 0, .aload 0, .tableswitch 0 9 7 #[], .iload 1, .iaload, .tableswitch 1 9 6 #[], .return_] 201 = true := qck_r (nn_ _) (by decide +kernel)
theorem bs_X9_takePoints_190 {P : Zt → Option Zv → Prop} (K : Int → Zl → List Zv → Zt → Prop) : sx_ K P [.aload 0, .aload 0, .tableswitch 0 9 7 #[], .iload 1, .iaload, .tableswitch 1 9 6 #[], .return_] 201 = x_aload 0 (x_aload 0 (x_g1 109 587 (x_iload 1 (x_iaload (x_p 109 6 (-2147483648) 2147483647 (x_return_ P)))))) := ((xe_aload 0).trans (congrArg (x_aload 0) ((xe_aload 0).trans (congrArg (x_aload 0) ((xe_g1 (kk := 109) rfl tl_9_7).trans (congrArg (x_g1 109 587) ((xe_iload 1).trans (congrArg (x_iload 1) ((xe_iaload).trans (congrArg (x_iaload) ((xe_p (kk := 109) rfl tl_9_6).trans (congrArg (x_p 109 6 (-2147483648) 2147483647) (xe_return_)))))))))))))
theorem bk_X9_takePoints_184 : ck_ fX9 none cX9_takePoints 184 [.iinc 2 1, .goto 56] 190 = true := qck_r (nn_ _) (by decide +kernel)
theorem bs_X9_takePoints_184 {P : Zt → Option Zv → Prop} (K : Int → Zl → List Zv → Zt → Prop) : sx_ K P [.iinc 2 1, .goto 56] 190 = x_iinc 2 1 (x_goto 56 K) := ((xe_iinc 2 1).trans (congrArg (x_iinc 2 1) (xe_goto 56)))
theorem bk_X9_takePoints_151 : ck_ fX9 none cX9_takePoints 151 [.iconst 3, .iaload, .fadd, .iastore, .aload 0, .tableswitch 0 9 7 #[], .iload 5, .dup2, .iaload, .aload 0, .tableswitch 0 9 5 #[], .tableswitch 0 0 1 #[], .iload 5, .iload 1, .if_icmp .ne 180, .iconst 1, .goto 181] 180 = true := qck_r (nn_ _) (by decide +kernel)
theorem bs_X9_takePoints_151 {P : Zt → Option Zv → Prop} (K : Int → Zl → List Zv → Zt → Prop) : sx_ K P [.iconst 3, .iaload, .fadd, .iastore, .aload 0, .tableswitch 0 9 7 #[], .iload 5, .dup2, .iaload, .aload 0, .tableswitch 0 9 5 #[], .tableswitch 0 0 1 #[], .iload 5, .iload 1, .if_icmp .ne 180, .iconst 1, .goto 181] 180 = x_iconst 3 (x_iaload (x_fadd (x_iastore (x_aload 0 (x_g1 109 587 (x_iload 5 (x_dup2 (x_iaload (x_aload 0 (x_g5 109 100 5 (x_g2 100 401 (x_iload 5 (x_iload 1 (x_if_icmp .ne 180 K (x_iconst 1 (x_goto 181 K)))))))))))))))) := ((xe_iconst 3).trans (congrArg (x_iconst 3) ((xe_iaload).trans (congrArg (x_iaload) ((xe_fadd).trans (congrArg (x_fadd) ((xe_iastore).trans (congrArg (x_iastore) ((xe_aload 0).trans (congrArg (x_aload 0) ((xe_g1 (kk := 109) rfl tl_9_7).trans (congrArg (x_g1 109 587) ((xe_iload 5).trans (congrArg (x_iload 5) ((xe_dup2).trans (congrArg (x_dup2) ((xe_iaload).trans (congrArg (x_iaload) ((xe_aload 0).trans (congrArg (x_aload 0) ((xe_g5 (kk := 109) rfl tl_9_5).trans (congrArg (x_g5 109 100 5) ((xe_g2 (kk := 100) rfl tl_0_1).trans (congrArg (x_g2 100 401) ((xe_iload 5).trans (congrArg (x_iload 5) ((xe_iload 1).trans (congrArg (x_iload 1) ((xe_if_icmp .ne 180).trans (congrArg (x_if_icmp .ne 180 K) ((xe_iconst 1).trans (congrArg (x_iconst 1) (xe_goto 181)))))))))))))))))))))))))))))))))
theorem bk_X9_takePoints_180 : ck_ fX9 none cX9_takePoints 180 [.iconst 3, .iaload, .fadd, .iastore, .iinc 2 1, .goto 56] 190 = true := qck_r (nn_ _) (by decide +kernel)
theorem bs_X9_takePoints_180 {P : Zt → Option Zv → Prop} (K : Int → Zl → List Zv → Zt → Prop) : sx_ K P [.iconst 3, .iaload, .fadd, .iastore, .iinc 2 1, .goto 56] 190 = x_iconst 3 (x_iaload (x_fadd (x_iastore (x_iinc 2 1 (x_goto 56 K))))) := ((xe_iconst 3).trans (congrArg (x_iconst 3) ((xe_iaload).trans (congrArg (x_iaload) ((xe_fadd).trans (congrArg (x_fadd) ((xe_iastore).trans (congrArg (x_iastore) ((xe_iinc 2 1).trans (congrArg (x_iinc 2 1) (xe_goto 56)))))))))))
theorem bk_X9_takePoints_181 : ck_ fX9 none cX9_takePoints 181 [.iaload, .fadd, .iastore, .iinc 2 1, .goto 56] 190 = true := qck_r (nn_ _) (by decide +kernel)
theorem bs_X9_takePoints_181 {P : Zt → Option Zv → Prop} (K : Int → Zl → List Zv → Zt → Prop) : sx_ K P [.iaload, .fadd, .iastore, .iinc 2 1, .goto 56] 190 = x_iaload (x_fadd (x_iastore (x_iinc 2 1 (x_goto 56 K)))) := ((xe_iaload).trans (congrArg (x_iaload) ((xe_fadd).trans (congrArg (x_fadd) ((xe_iastore).trans (congrArg (x_iastore) ((xe_iinc 2 1).trans (congrArg (x_iinc 2 1) (xe_goto 56)))))))))
theorem bk_X9_takePoints_152 : ck_ fX9 none cX9_takePoints 152 [.iaload, .fadd, .iastore, .aload 0, .tableswitch 0 9 7 #[], .iload 5, .dup2, .iaload, .aload 0, .tableswitch 0 9 5 #[], .tableswitch 0 0 1 #[], .iload 5, .iload 1, .if_icmp .ne 180, .iconst 1, .goto 181] 180 = true := qck_r (nn_ _) (by decide +kernel)
theorem bs_X9_takePoints_152 {P : Zt → Option Zv → Prop} (K : Int → Zl → List Zv → Zt → Prop) : sx_ K P [.iaload, .fadd, .iastore, .aload 0, .tableswitch 0 9 7 #[], .iload 5, .dup2, .iaload, .aload 0, .tableswitch 0 9 5 #[], .tableswitch 0 0 1 #[], .iload 5, .iload 1, .if_icmp .ne 180, .iconst 1, .goto 181] 180 = x_iaload (x_fadd (x_iastore (x_aload 0 (x_g1 109 587 (x_iload 5 (x_dup2 (x_iaload (x_aload 0 (x_g5 109 100 5 (x_g2 100 401 (x_iload 5 (x_iload 1 (x_if_icmp .ne 180 K (x_iconst 1 (x_goto 181 K))))))))))))))) := ((xe_iaload).trans (congrArg (x_iaload) ((xe_fadd).trans (congrArg (x_fadd) ((xe_iastore).trans (congrArg (x_iastore) ((xe_aload 0).trans (congrArg (x_aload 0) ((xe_g1 (kk := 109) rfl tl_9_7).trans (congrArg (x_g1 109 587) ((xe_iload 5).trans (congrArg (x_iload 5) ((xe_dup2).trans (congrArg (x_dup2) ((xe_iaload).trans (congrArg (x_iaload) ((xe_aload 0).trans (congrArg (x_aload 0) ((xe_g5 (kk := 109) rfl tl_9_5).trans (congrArg (x_g5 109 100 5) ((xe_g2 (kk := 100) rfl tl_0_1).trans (congrArg (x_g2 100 401) ((xe_iload 5).trans (congrArg (x_iload 5) ((xe_iload 1).trans (congrArg (x_iload 1) ((xe_if_icmp .ne 180).trans (congrArg (x_if_icmp .ne 180 K) ((xe_iconst 1).trans (congrArg (x_iconst 1) (xe_goto 181)))))))))))))))))))))))))))))))
theorem bk_X9_takePoints_16 : ck_ fX9 none cX9_takePoints 16 [.iload 2, .aload 0, .tableswitch 0 9 5 #[], .tableswitch 0 0 5 #[], .if_icmp .ge 54, .aload 0, .tableswitch 0 9 7 #[], .iload 2, .aload 0, .tableswitch 0 9 1 #[], .tableswitch 0 7 2 #[], .iload 2, .iconst 8, .imul, .iconst 6, .iadd, .iaload, .iastore, .iinc 2 1, .goto 16] 54 = true := qck_r (nn_ _) (by decide +kernel)
theorem bs_X9_takePoints_16 {P : Zt → Option Zv → Prop} (K : Int → Zl → List Zv → Zt → Prop) : sx_ K P [.iload 2, .aload 0, .tableswitch 0 9 5 #[], .tableswitch 0 0 5 #[], .if_icmp .ge 54, .aload 0, .tableswitch 0 9 7 #[], .iload 2, .aload 0, .tableswitch 0 9 1 #[], .tableswitch 0 7 2 #[], .iload 2, .iconst 8, .imul, .iconst 6, .iadd, .iaload, .iastore, .iinc 2 1, .goto 16] 54 = x_iload 2 (x_aload 0 (x_g5 109 100 5 (x_g0 100 5 0 12 (x_if_icmp .ge 54 K (x_aload 0 (x_g1 109 587 (x_iload 2 (x_aload 0 (x_g1 109 107 (x_g1 107 542 (x_iload 2 (x_iconst 8 (x_imul (x_iconst 6 (x_iadd (x_iaload (x_iastore (x_iinc 2 1 (x_goto 16 K))))))))))))))))))) := ((xe_iload 2).trans (congrArg (x_iload 2) ((xe_aload 0).trans (congrArg (x_aload 0) ((xe_g5 (kk := 109) rfl tl_9_5).trans (congrArg (x_g5 109 100 5) ((xe_g0 (kk := 100) rfl tl_0_5).trans (congrArg (x_g0 100 5 0 12) ((xe_if_icmp .ge 54).trans (congrArg (x_if_icmp .ge 54 K) ((xe_aload 0).trans (congrArg (x_aload 0) ((xe_g1 (kk := 109) rfl tl_9_7).trans (congrArg (x_g1 109 587) ((xe_iload 2).trans (congrArg (x_iload 2) ((xe_aload 0).trans (congrArg (x_aload 0) ((xe_g1 (kk := 109) rfl tl_9_1).trans (congrArg (x_g1 109 107) ((xe_g1 (kk := 107) rfl tl_7_2).trans (congrArg (x_g1 107 542) ((xe_iload 2).trans (congrArg (x_iload 2) ((xe_iconst 8).trans (congrArg (x_iconst 8) ((xe_imul).trans (congrArg (x_imul) ((xe_iconst 6).trans (congrArg (x_iconst 6) ((xe_iadd).trans (congrArg (x_iadd) ((xe_iaload).trans (congrArg (x_iaload) ((xe_iastore).trans (congrArg (x_iastore) ((xe_iinc 2 1).trans (congrArg (x_iinc 2 1) (xe_goto 16)))))))))))))))))))))))))))))))))))))))
theorem bk_X9_takePoints_54 : ck_ fX9 none cX9_takePoints 54 [.iconst 0, .istore 2] 56 = true := qck_r (nn_ _) (by decide +kernel)
theorem bs_X9_takePoints_54 {P : Zt → Option Zv → Prop} (K : Int → Zl → List Zv → Zt → Prop) : sx_ K P [.iconst 0, .istore 2] 56 = x_iconst 0 (x_istore 2 (K 56)) := ((xe_iconst 0).trans (congrArg (x_iconst 0) ((xe_istore 2).trans (congrArg (x_istore 2) xe_nil))))
theorem bk_X9_takePoints_0 : ck_ fX9 none cX9_takePoints 0 [.aload 0, .tableswitch 0 9 1 #[], .aload 0, .tableswitch 0 9 5 #[], .iconst 999] 11 = true := qck_r (nn_ _) (by decide +kernel)
theorem bs_X9_takePoints_0 {P : Zt → Option Zv → Prop} (K : Int → Zl → List Zv → Zt → Prop) : sx_ K P [.aload 0, .tableswitch 0 9 1 #[], .aload 0, .tableswitch 0 9 5 #[], .iconst 999] 11 = x_aload 0 (x_g1 109 107 (x_aload 0 (x_g5 109 100 5 (x_iconst 999 (K 11))))) := ((xe_aload 0).trans (congrArg (x_aload 0) ((xe_g1 (kk := 109) rfl tl_9_1).trans (congrArg (x_g1 109 107) ((xe_aload 0).trans (congrArg (x_aload 0) ((xe_g5 (kk := 109) rfl tl_9_5).trans (congrArg (x_g5 109 100 5) ((xe_iconst 999).trans (congrArg (x_iconst 999) xe_nil))))))))))
set_option maxRecDepth 100000 in
theorem cl_X9_124 : cv_ RX9 124 yX7_tally zX7_tally 7 2 := ⟨gi_V (lwq_6 (dqc_m (dqa_m (List.mem_of_getElem? (i := 6) rfl))) rfl : Cond.methodLink RX9 124 yX7_tally ∈ lw_g) (lwq_5 (dqc_m (dqc_m (dqc_m (dqc_m (dqc_m (dqc_m (dqa_m (List.mem_of_getElem? (i := 1) rfl)))))))) rfl : Cond.instanceMethod yX7_tally ∈ lw_g) (lwq_5 (dqc_m (dqc_m (dqc_m (dqc_m (dqc_m (dqc_m (dqa_m (List.mem_of_getElem? (i := 2) rfl)))))))) rfl : Cond.selects yX7_tally.cls yX7_tally yX7_tally ∈ lw_g) (lwq_1 (List.mem_of_getElem? (i := 5) rfl) rfl : Cond.initialized yX7_tally.cls ∈ lw_g) (lwq_5 (dqc_m (dqc_m (dqc_m (dqc_m (dqc_m (dqc_m (dqa_m (List.mem_of_getElem? (i := 3) rfl)))))))) rfl : Cond.code yX7_tally cX7_tally 5 none ∈ lw_g), ⟨nmh_7.1, nmh_7.2, pdq_31⟩, ⟨_, _, rfl⟩⟩
theorem bk_X9_takePoints_14 : ck_ fX9 none cX9_takePoints 14 [.iconst 0, .istore 2] 16 = true := qck_r (nn_ _) (by decide +kernel)
theorem bs_X9_takePoints_14 {P : Zt → Option Zv → Prop} (K : Int → Zl → List Zv → Zt → Prop) : sx_ K P [.iconst 0, .istore 2] 16 = x_iconst 0 (x_istore 2 (K 16)) := ((xe_iconst 0).trans (congrArg (x_iconst 0) ((xe_istore 2).trans (congrArg (x_istore 2) xe_nil))))
abbrev po_X9_takePoints (T : Zt) (t : Int) : Zt → Option Zv → Prop := fun T' r => r = none ∧ fr_ [(107, [1]), (542, []), (543, []), (544, []), (545, []), (546, []), (587, []), (109, [6])] T T' ∧ (0 = (0 : Int))
set_option maxHeartbeats 4000000 in
theorem ct_X9_takePoints {T : Zt} {t : Int} (hka : KA_ T) (hkc : KC_ T) (hks : KS_ T) (hc9 : 1 ≤ T 109 0 5 ∧ T 109 0 5 ≤ T 106 0 2) (ht : 0 ≤ t ∧ t ≤ 11) : Ct_ yX9_takePoints zX9_takePoints T [vR 109 0, vI t] (po_X9_takePoints T t) := by
  refine ct_of pn_9 rfl rfl (Nat.le_of_ble_eq_true rfl) (fun hT hav => ?_)
  have hr_t : -2147483648 ≤ t ∧ t ≤ 2147483647 := hav (vI t) (List.mem_cons_of_mem _ List.mem_cons_self)
  have hz : zX9_takePoints.2.2.2.1 = some .boolean → ∀ (T' : Zt) (x : Int), po_X9_takePoints T t T' (some (vI x)) → 0 ≤ x ∧ x ≤ 1 := fun h => by cases h
  have hk2 := hkc (T 109 0 5 - 1) (by omega) (by omega)
  have hb_matchCount : 0 ≤ T 106 0 4 ∧ T 106 0 4 ≤ 400 := bd_f hT 106 4 tl_6_4 0
  have hfm : 0 ≤ T 100 (T 109 0 5 - 1) 7 ∧ T 100 (T 109 0 5 - 1) 7 ≤ 400 := bd_f hT 100 7 tl_0_7 (T 109 0 5 - 1)
  have hmc : 0 ≤ T 100 (T 109 0 5 - 1) 8 ∧ T 100 (T 109 0 5 - 1) 8 ≤ 400 := bd_f hT 100 8 tl_0_8 (T 109 0 5 - 1)
  have hen : 0 ≤ T 100 (T 109 0 5 - 1) 5 ∧ T 100 (T 109 0 5 - 1) 5 ≤ 12 := bd_f hT 100 5 tl_0_5 (T 109 0 5 - 1)
  show J_ zX9_takePoints T (po_X9_takePoints T t) 0 0 0 [some (vR 109 0), some (vI t), none, none, none, none] [] T
  have c_56 : ∀ (nn : Nat) (k : Int) (T2 : Zt), ((T 100 (T 109 0 5 - 1) 8 - k).toNat) ≤ nn → (fr_ [(107, [1]), (542, []), (543, []), (544, []), (545, []), (546, []), (587, [])] T T2) → (0 ≤ k ∧ k ≤ T 100 (T 109 0 5 - 1) 8) → J_ zX9_takePoints T (po_X9_takePoints T t) 0 0 56 [some (vR 109 0), some (vI t), some (vI k), none, none, none] [] T2 := by
    intro nn
    induction nn using Nat.strongRecOn with
    | _ nn ih_56 =>
      intro k T2 hm_56 hf_56 i2
      replace hm_56 := fun (_ : Unit) => hm_56
      refine j_blx (F := fX9) tb_X9 (nn_ _) bk_X9_takePoints_56 bs_X9_takePoints_56 hz (fun K hK => ?_)
      have e2 : T2 109 0 5 = T 109 0 5 := hf_56 109 0 5 rfl
      refine And.intro (fun c1 => ?_) (fun c1 => ?_)
      · exact absurd c1 (by omega)
      · intro b3 b3b
        have e4 : T2 100 (T 109 0 5 - 1) 8 = T 100 (T 109 0 5 - 1) 8 := hf_56 100 (T 109 0 5 - 1) 8 rfl
        have e5 : T2 100 (T2 109 0 5 - 1) 8 = T 100 (T 109 0 5 - 1) 8 := by rw [e2]; exact e4
        rw [e5] at b3 b3b ⊢
        refine And.intro (fun c6 => ?_) (fun c6 => ?_)
        · refine hK 190 _ [] T2 ?_
          refine j_blx (F := fX9) tb_X9 (nn_ _) bk_X9_takePoints_190 bs_X9_takePoints_190 hz (fun K hK => ?_)
          refine ix_i (by omega) ?_
          intro b7 b7b
          refine bd_i (by omega) ?_
          refine x_nm (fun U8 hU8 => ?_)
          have e9 := up_f hU8
          refine (show po_X9_takePoints T t U8 (none) from ?_)
          exact ⟨rfl, fr_u (fr_t (fr_0 _ _) (fr_s hf_56 rfl)) hU8 rfl, by rfl⟩
        · have e11 : T2 109 0 5 = T 109 0 5 := hf_56 109 0 5 rfl
          refine And.intro (fun c10 => ?_) (fun c10 => ?_)
          · exact absurd c10 (by omega)
          · intro b12 b12b
            have e13 : T2 100 (T 109 0 5 - 1) 7 = T 100 (T 109 0 5 - 1) 7 := hf_56 100 (T 109 0 5 - 1) 7 rfl
            have e14 : T2 100 (T2 109 0 5 - 1) 7 = T 100 (T 109 0 5 - 1) 7 := by rw [e11]; exact e13
            rw [e14] at b12 b12b ⊢
            refine rg_i (by omega) ?_
            refine ix_i (by omega) ?_
            have e16 : T2 523 0 ((T 100 (T 109 0 5 - 1) 7) + k) = T 523 0 ((T 100 (T 109 0 5 - 1) 7) + k) := hf_56 523 0 ((T 100 (T 109 0 5 - 1) 7) + k) rfl
            refine And.intro (fun c15 => ?_) (fun c15 => ?_)
            · exact absurd (show T 523 0 (T 100 (T 109 0 5 - 1) 7 + k) = 0 by omega) (hka.2 _ (by omega) (by omega))
            · intro b17 b17b
              have e18 : T2 102 ((T 100 (T 109 0 5 - 1) 7) + k) 1 = T 102 ((T 100 (T 109 0 5 - 1) 7) + k) 1 := hf_56 102 ((T 100 (T 109 0 5 - 1) 7) + k) 1 rfl
              rw [e18] at b17 b17b ⊢
              refine ix_i (by omega) ?_
              intro b19 b19b
              have e20 : T2 584 0 (T 102 ((T 100 (T 109 0 5 - 1) 7) + k) 1) = T 584 0 (T 102 ((T 100 (T 109 0 5 - 1) 7) + k) 1) := hf_56 584 0 (T 102 ((T 100 (T 109 0 5 - 1) 7) + k) 1) rfl
              rw [e20] at b19 b19b ⊢
              refine And.intro (fun c21 => ?_) (fun c21 => ?_)
              · refine hK 184 [some (vR 109 0), some (vI t), some (vI k), some (vR 102 ((T 100 (T 109 0 5 - 1) 7) + k)), none, none] [] T2 ?_
                refine j_blx (F := fX9) tb_X9 (nn_ _) bk_X9_takePoints_184 bs_X9_takePoints_184 hz (fun K hK => ?_)
                refine rg_i (by omega) ?_
                refine hK 56 [some (vR 109 0), some (vI t), some (vI (k + 1)), some (vR 102 ((T 100 (T 109 0 5 - 1) 7) + k)), none, none] [] T2 ?_
                refine j_drop [some (vR 109 0), some (vI t), some (vI (k + 1)), none, none, none] (fun k v hk => ?_) rfl ?_
                · match k, hk with
                  | 0, hk => exact hk
                  | 1, hk => exact hk
                  | 2, hk => exact hk
                  | 3, hk => cases hk
                  | 4, hk => cases hk
                  | 5, hk => cases hk
                  | k + 6, hk => cases hk
                refine ih_56 _ ?_ (k + 1) T2 (Nat.le_refl _) ?_ ?_
                · have hm_56 := hm_56 (); omega
                · exact fr_t (fr_0 _ _) (fr_s hf_56 rfl)
                · omega
              · have hs9 := hks (T 109 0 5 - 1) (by omega) (by omega) (T 100 (T 109 0 5 - 1) 7 + k) (by omega) (by omega)
                have e23 : T2 109 0 5 = T 109 0 5 := hf_56 109 0 5 rfl
                refine And.intro (fun c22 => ?_) (fun c22 => ?_)
                · exact absurd c22 (by omega)
                · intro b24 b24b
                  have e25 : T2 102 ((T 100 (T 109 0 5 - 1) 7) + k) 3 = T 102 ((T 100 (T 109 0 5 - 1) 7) + k) 3 := hf_56 102 ((T 100 (T 109 0 5 - 1) 7) + k) 3 rfl
                  rw [e25] at b24 b24b ⊢
                  refine ix_i (by omega) ?_
                  intro b26 b26b
                  have e27 : T2 404 (T 109 0 5 - 1) (T 102 ((T 100 (T 109 0 5 - 1) 7) + k) 3) = T 404 (T 109 0 5 - 1) (T 102 ((T 100 (T 109 0 5 - 1) 7) + k) 3) := hf_56 404 (T 109 0 5 - 1) (T 102 ((T 100 (T 109 0 5 - 1) 7) + k) 3) rfl
                  have e28 : T2 404 (T2 109 0 5 - 1) (T 102 ((T 100 (T 109 0 5 - 1) 7) + k) 3) = T 404 (T 109 0 5 - 1) (T 102 ((T 100 (T 109 0 5 - 1) 7) + k) 3) := by rw [e23]; exact e27
                  rw [e28] at b26 b26b ⊢
                  have e30 : T2 109 0 5 = T 109 0 5 := hf_56 109 0 5 rfl
                  refine And.intro (fun c29 => ?_) (fun c29 => ?_)
                  · exact absurd c29 (by omega)
                  · intro b31 b31b
                    have e32 : T2 102 ((T 100 (T 109 0 5 - 1) 7) + k) 4 = T 102 ((T 100 (T 109 0 5 - 1) 7) + k) 4 := hf_56 102 ((T 100 (T 109 0 5 - 1) 7) + k) 4 rfl
                    rw [e32] at b31 b31b ⊢
                    refine ix_i (by omega) ?_
                    intro b33 b33b
                    have e34 : T2 404 (T 109 0 5 - 1) (T 102 ((T 100 (T 109 0 5 - 1) 7) + k) 4) = T 404 (T 109 0 5 - 1) (T 102 ((T 100 (T 109 0 5 - 1) 7) + k) 4) := hf_56 404 (T 109 0 5 - 1) (T 102 ((T 100 (T 109 0 5 - 1) 7) + k) 4) rfl
                    have e35 : T2 404 (T2 109 0 5 - 1) (T 102 ((T 100 (T 109 0 5 - 1) 7) + k) 4) = T 404 (T 109 0 5 - 1) (T 102 ((T 100 (T 109 0 5 - 1) 7) + k) 4) := by rw [e30]; exact e34
                    rw [e35] at b33 b33b ⊢
                    refine ix_i (by omega) ?_
                    intro b36 b36b
                    have e38 : T2 109 0 5 = T 109 0 5 := hf_56 109 0 5 rfl
                    refine And.intro (fun c37 => ?_) (fun c37 => ?_)
                    · exact absurd c37 (by omega)
                    · refine And.intro (fun c39 => ?_) (fun c39 => ?_)
                      · refine hK 151 [some (vR 109 0), some (vI t), some (vI k), some (vR 102 ((T 100 (T 109 0 5 - 1) 7) + k)), some (vI (T 404 (T 109 0 5 - 1) (T 102 ((T 100 (T 109 0 5 - 1) 7) + k) 3))), some (vI (T 404 (T 109 0 5 - 1) (T 102 ((T 100 (T 109 0 5 - 1) 7) + k) 4)))] [vR 401 (T2 109 0 5 - 1), vI (T2 587 0 (T 404 (T 109 0 5 - 1) (T 102 ((T 100 (T 109 0 5 - 1) 7) + k) 3))), vI (T 404 (T 109 0 5 - 1) (T 102 ((T 100 (T 109 0 5 - 1) 7) + k) 3)), vR 587 0] T2 ?_
                        refine j_blx (F := fX9) tb_X9 (nn_ _) bk_X9_takePoints_151 bs_X9_takePoints_151 hz (fun K hK => ?_)
                        refine ix_i (by omega) ?_
                        intro b40 b40b
                        have e41 : T2 401 (T 109 0 5 - 1) 3 = T 401 (T 109 0 5 - 1) 3 := hf_56 401 (T 109 0 5 - 1) 3 rfl
                        have e42 : T2 401 (T2 109 0 5 - 1) 3 = T 401 (T 109 0 5 - 1) 3 := by rw [e38]; exact e41
                        rw [e42] at b40 b40b ⊢
                        intro w43 w43b
                        refine iy_i (by omega) (by omega) ?_
                        refine x_nm (fun U44 hU44 => ?_)
                        have e45 := up_f hU44
                        refine ix_i (by omega) ?_
                        intro b46 b46b
                        have e48 : U44 109 0 5 = T 109 0 5 := (up_k hU44 (by exact Nat.ne_of_beq_eq_false rfl) 0 5).trans (hf_56 109 0 5 rfl)
                        refine And.intro (fun c47 => ?_) (fun c47 => ?_)
                        · exact absurd c47 (by omega)
                        · refine And.intro (fun c49 => ?_) (fun c49 => ?_)
                          · refine hK 180 _ [vR 401 (U44 109 0 5 - 1), vI (U44 587 0 (T 404 (T 109 0 5 - 1) (T 102 ((T 100 (T 109 0 5 - 1) 7) + k) 4))), vI (T 404 (T 109 0 5 - 1) (T 102 ((T 100 (T 109 0 5 - 1) 7) + k) 4)), vR 587 0] U44 ?_
                            refine j_blx (F := fX9) tb_X9 (nn_ _) bk_X9_takePoints_180 bs_X9_takePoints_180 hz (fun K hK => ?_)
                            refine ix_i (by omega) ?_
                            intro b50 b50b
                            have e51 : U44 401 (T 109 0 5 - 1) 3 = T 401 (T 109 0 5 - 1) 3 := (up_k hU44 (by exact Nat.ne_of_beq_eq_false rfl) (T 109 0 5 - 1) 3).trans (hf_56 401 (T 109 0 5 - 1) 3 rfl)
                            have e52 : U44 401 (U44 109 0 5 - 1) 3 = T 401 (T 109 0 5 - 1) 3 := by rw [e48]; exact e51
                            rw [e52] at b50 b50b ⊢
                            intro w53 w53b
                            refine iy_i (by omega) (by omega) ?_
                            refine x_nm (fun U54 hU54 => ?_)
                            have e55 := up_f hU54
                            refine rg_i (by omega) ?_
                            refine hK 56 [some (vR 109 0), some (vI t), some (vI (k + 1)), some (vR 102 ((T 100 (T 109 0 5 - 1) 7) + k)), some (vI (T 404 (T 109 0 5 - 1) (T 102 ((T 100 (T 109 0 5 - 1) 7) + k) 3))), some (vI (T 404 (T 109 0 5 - 1) (T 102 ((T 100 (T 109 0 5 - 1) 7) + k) 4)))] [] U54 ?_
                            refine j_drop [some (vR 109 0), some (vI t), some (vI (k + 1)), none, none, none] (fun k v hk => ?_) rfl ?_
                            · match k, hk with
                              | 0, hk => exact hk
                              | 1, hk => exact hk
                              | 2, hk => exact hk
                              | 3, hk => cases hk
                              | 4, hk => cases hk
                              | 5, hk => cases hk
                              | k + 6, hk => cases hk
                            refine ih_56 _ ?_ (k + 1) U54 (Nat.le_refl _) ?_ ?_
                            · have hm_56 := hm_56 (); omega
                            · exact fr_u (fr_u (fr_t (fr_0 _ _) (fr_s hf_56 rfl)) hU44 rfl) hU54 rfl
                            · omega
                          · refine hK 181 [some (vR 109 0), some (vI t), some (vI k), some (vR 102 ((T 100 (T 109 0 5 - 1) 7) + k)), some (vI (T 404 (T 109 0 5 - 1) (T 102 ((T 100 (T 109 0 5 - 1) 7) + k) 3))), some (vI (T 404 (T 109 0 5 - 1) (T 102 ((T 100 (T 109 0 5 - 1) 7) + k) 4)))] [vI 1, vR 401 (U44 109 0 5 - 1), vI (U44 587 0 (T 404 (T 109 0 5 - 1) (T 102 ((T 100 (T 109 0 5 - 1) 7) + k) 4))), vI (T 404 (T 109 0 5 - 1) (T 102 ((T 100 (T 109 0 5 - 1) 7) + k) 4)), vR 587 0] U44 ?_
                            refine j_blx (F := fX9) tb_X9 (nn_ _) bk_X9_takePoints_181 bs_X9_takePoints_181 hz (fun K hK => ?_)
                            refine ix_i (by omega) ?_
                            intro b56 b56b
                            have e57 : U44 401 (T 109 0 5 - 1) 1 = T 401 (T 109 0 5 - 1) 1 := (up_k hU44 (by exact Nat.ne_of_beq_eq_false rfl) (T 109 0 5 - 1) 1).trans (hf_56 401 (T 109 0 5 - 1) 1 rfl)
                            have e58 : U44 401 (U44 109 0 5 - 1) 1 = T 401 (T 109 0 5 - 1) 1 := by rw [e48]; exact e57
                            rw [e58] at b56 b56b ⊢
                            intro w59 w59b
                            refine iy_i (by omega) (by omega) ?_
                            refine x_nm (fun U60 hU60 => ?_)
                            have e61 := up_f hU60
                            refine rg_i (by omega) ?_
                            refine hK 56 [some (vR 109 0), some (vI t), some (vI (k + 1)), some (vR 102 ((T 100 (T 109 0 5 - 1) 7) + k)), some (vI (T 404 (T 109 0 5 - 1) (T 102 ((T 100 (T 109 0 5 - 1) 7) + k) 3))), some (vI (T 404 (T 109 0 5 - 1) (T 102 ((T 100 (T 109 0 5 - 1) 7) + k) 4)))] [] U60 ?_
                            refine j_drop [some (vR 109 0), some (vI t), some (vI (k + 1)), none, none, none] (fun k v hk => ?_) rfl ?_
                            · match k, hk with
                              | 0, hk => exact hk
                              | 1, hk => exact hk
                              | 2, hk => exact hk
                              | 3, hk => cases hk
                              | 4, hk => cases hk
                              | 5, hk => cases hk
                              | k + 6, hk => cases hk
                            refine ih_56 _ ?_ (k + 1) U60 (Nat.le_refl _) ?_ ?_
                            · have hm_56 := hm_56 (); omega
                            · exact fr_u (fr_u (fr_t (fr_0 _ _) (fr_s hf_56 rfl)) hU44 rfl) hU60 rfl
                            · omega
                      · refine hK 152 _ [vI 1, vR 401 (T2 109 0 5 - 1), vI (T2 587 0 (T 404 (T 109 0 5 - 1) (T 102 ((T 100 (T 109 0 5 - 1) 7) + k) 3))), vI (T 404 (T 109 0 5 - 1) (T 102 ((T 100 (T 109 0 5 - 1) 7) + k) 3)), vR 587 0] T2 ?_
                        refine j_blx (F := fX9) tb_X9 (nn_ _) bk_X9_takePoints_152 bs_X9_takePoints_152 hz (fun K hK => ?_)
                        refine ix_i (by omega) ?_
                        intro b62 b62b
                        have e63 : T2 401 (T 109 0 5 - 1) 1 = T 401 (T 109 0 5 - 1) 1 := hf_56 401 (T 109 0 5 - 1) 1 rfl
                        have e64 : T2 401 (T2 109 0 5 - 1) 1 = T 401 (T 109 0 5 - 1) 1 := by rw [e38]; exact e63
                        rw [e64] at b62 b62b ⊢
                        intro w65 w65b
                        refine iy_i (by omega) (by omega) ?_
                        refine x_nm (fun U66 hU66 => ?_)
                        have e67 := up_f hU66
                        refine ix_i (by omega) ?_
                        intro b68 b68b
                        have e70 : U66 109 0 5 = T 109 0 5 := (up_k hU66 (by exact Nat.ne_of_beq_eq_false rfl) 0 5).trans (hf_56 109 0 5 rfl)
                        refine And.intro (fun c69 => ?_) (fun c69 => ?_)
                        · exact absurd c69 (by omega)
                        · refine And.intro (fun c71 => ?_) (fun c71 => ?_)
                          · refine hK 180 _ [vR 401 (U66 109 0 5 - 1), vI (U66 587 0 (T 404 (T 109 0 5 - 1) (T 102 ((T 100 (T 109 0 5 - 1) 7) + k) 4))), vI (T 404 (T 109 0 5 - 1) (T 102 ((T 100 (T 109 0 5 - 1) 7) + k) 4)), vR 587 0] U66 ?_
                            refine j_blx (F := fX9) tb_X9 (nn_ _) bk_X9_takePoints_180 bs_X9_takePoints_180 hz (fun K hK => ?_)
                            refine ix_i (by omega) ?_
                            intro b72 b72b
                            have e73 : U66 401 (T 109 0 5 - 1) 3 = T 401 (T 109 0 5 - 1) 3 := (up_k hU66 (by exact Nat.ne_of_beq_eq_false rfl) (T 109 0 5 - 1) 3).trans (hf_56 401 (T 109 0 5 - 1) 3 rfl)
                            have e74 : U66 401 (U66 109 0 5 - 1) 3 = T 401 (T 109 0 5 - 1) 3 := by rw [e70]; exact e73
                            rw [e74] at b72 b72b ⊢
                            intro w75 w75b
                            refine iy_i (by omega) (by omega) ?_
                            refine x_nm (fun U76 hU76 => ?_)
                            have e77 := up_f hU76
                            refine rg_i (by omega) ?_
                            refine hK 56 [some (vR 109 0), some (vI t), some (vI (k + 1)), some (vR 102 ((T 100 (T 109 0 5 - 1) 7) + k)), some (vI (T 404 (T 109 0 5 - 1) (T 102 ((T 100 (T 109 0 5 - 1) 7) + k) 3))), some (vI (T 404 (T 109 0 5 - 1) (T 102 ((T 100 (T 109 0 5 - 1) 7) + k) 4)))] [] U76 ?_
                            refine j_drop [some (vR 109 0), some (vI t), some (vI (k + 1)), none, none, none] (fun k v hk => ?_) rfl ?_
                            · match k, hk with
                              | 0, hk => exact hk
                              | 1, hk => exact hk
                              | 2, hk => exact hk
                              | 3, hk => cases hk
                              | 4, hk => cases hk
                              | 5, hk => cases hk
                              | k + 6, hk => cases hk
                            refine ih_56 _ ?_ (k + 1) U76 (Nat.le_refl _) ?_ ?_
                            · have hm_56 := hm_56 (); omega
                            · exact fr_u (fr_u (fr_t (fr_0 _ _) (fr_s hf_56 rfl)) hU66 rfl) hU76 rfl
                            · omega
                          · refine hK 181 [some (vR 109 0), some (vI t), some (vI k), some (vR 102 ((T 100 (T 109 0 5 - 1) 7) + k)), some (vI (T 404 (T 109 0 5 - 1) (T 102 ((T 100 (T 109 0 5 - 1) 7) + k) 3))), some (vI (T 404 (T 109 0 5 - 1) (T 102 ((T 100 (T 109 0 5 - 1) 7) + k) 4)))] [vI 1, vR 401 (U66 109 0 5 - 1), vI (U66 587 0 (T 404 (T 109 0 5 - 1) (T 102 ((T 100 (T 109 0 5 - 1) 7) + k) 4))), vI (T 404 (T 109 0 5 - 1) (T 102 ((T 100 (T 109 0 5 - 1) 7) + k) 4)), vR 587 0] U66 ?_
                            refine j_blx (F := fX9) tb_X9 (nn_ _) bk_X9_takePoints_181 bs_X9_takePoints_181 hz (fun K hK => ?_)
                            refine ix_i (by omega) ?_
                            intro b78 b78b
                            have e79 : U66 401 (T 109 0 5 - 1) 1 = T 401 (T 109 0 5 - 1) 1 := (up_k hU66 (by exact Nat.ne_of_beq_eq_false rfl) (T 109 0 5 - 1) 1).trans (hf_56 401 (T 109 0 5 - 1) 1 rfl)
                            have e80 : U66 401 (U66 109 0 5 - 1) 1 = T 401 (T 109 0 5 - 1) 1 := by rw [e70]; exact e79
                            rw [e80] at b78 b78b ⊢
                            intro w81 w81b
                            refine iy_i (by omega) (by omega) ?_
                            refine x_nm (fun U82 hU82 => ?_)
                            have e83 := up_f hU82
                            refine rg_i (by omega) ?_
                            refine hK 56 [some (vR 109 0), some (vI t), some (vI (k + 1)), some (vR 102 ((T 100 (T 109 0 5 - 1) 7) + k)), some (vI (T 404 (T 109 0 5 - 1) (T 102 ((T 100 (T 109 0 5 - 1) 7) + k) 3))), some (vI (T 404 (T 109 0 5 - 1) (T 102 ((T 100 (T 109 0 5 - 1) 7) + k) 4)))] [] U82 ?_
                            refine j_drop [some (vR 109 0), some (vI t), some (vI (k + 1)), none, none, none] (fun k v hk => ?_) rfl ?_
                            · match k, hk with
                              | 0, hk => exact hk
                              | 1, hk => exact hk
                              | 2, hk => exact hk
                              | 3, hk => cases hk
                              | 4, hk => cases hk
                              | 5, hk => cases hk
                              | k + 6, hk => cases hk
                            refine ih_56 _ ?_ (k + 1) U82 (Nat.le_refl _) ?_ ?_
                            · have hm_56 := hm_56 (); omega
                            · exact fr_u (fr_u (fr_t (fr_0 _ _) (fr_s hf_56 rfl)) hU66 rfl) hU82 rfl
                            · omega
  have c_16 : ∀ (nn : Nat) (k : Int) (T1 : Zt), ((12 - k).toNat) ≤ nn → (fr_ [(107, [1]), (542, []), (543, []), (544, []), (545, []), (546, []), (587, [])] T T1) → (0 ≤ k ∧ k ≤ 12) → J_ zX9_takePoints T (po_X9_takePoints T t) 0 0 16 [some (vR 109 0), some (vI t), some (vI k), none, none, none] [] T1 := by
    intro nn
    induction nn using Nat.strongRecOn with
    | _ nn ih_16 =>
      intro k T1 hm_16 hf_16 i1
      replace hm_16 := fun (_ : Unit) => hm_16
      refine j_blx (F := fX9) tb_X9 (nn_ _) bk_X9_takePoints_16 bs_X9_takePoints_16 hz (fun K hK => ?_)
      have e85 : T1 109 0 5 = T 109 0 5 := hf_16 109 0 5 rfl
      refine And.intro (fun c84 => ?_) (fun c84 => ?_)
      · exact absurd c84 (by omega)
      · intro b86 b86b
        have e87 : T1 100 (T 109 0 5 - 1) 5 = T 100 (T 109 0 5 - 1) 5 := hf_16 100 (T 109 0 5 - 1) 5 rfl
        have e88 : T1 100 (T1 109 0 5 - 1) 5 = T 100 (T 109 0 5 - 1) 5 := by rw [e85]; exact e87
        rw [e88] at b86 b86b ⊢
        refine And.intro (fun c89 => ?_) (fun c89 => ?_)
        · refine hK 54 _ [] T1 ?_
          refine j_blx (F := fX9) tb_X9 (nn_ _) bk_X9_takePoints_54 bs_X9_takePoints_54 hz (fun K hK => ?_)
          refine hK 56 [some (vR 109 0), some (vI t), some (vI 0), none, none, none] [] T1 ?_
          refine c_56 _ 0 T1 (Nat.le_refl _) ?_ ?_
          · exact fr_t (fr_0 _ _) (fr_s hf_16 rfl)
          · omega
        · refine rg_i (by omega) ?_
          refine rg_i (by omega) ?_
          refine ix_i (by omega) ?_
          intro b90 b90b
          refine iy_i (by omega) (by omega) ?_
          refine x_nm (fun U91 hU91 => ?_)
          have e92 := up_f hU91
          refine rg_i (by omega) ?_
          refine hK 16 [some (vR 109 0), some (vI t), some (vI (k + 1)), none, none, none] [] U91 ?_
          refine ih_16 _ ?_ (k + 1) U91 (Nat.le_refl _) ?_ ?_
          · have hm_16 := hm_16 (); omega
          · exact fr_u (fr_t (fr_0 _ _) (fr_s hf_16 rfl)) hU91 rfl
          · omega
  refine j_blx (F := fX9) tb_X9 (nn_ _) bk_X9_takePoints_0 bs_X9_takePoints_0 hz (fun K hK => ?_)
  refine And.intro (fun c93 => ?_) (fun c93 => ?_)
  · exact absurd c93 (by omega)
  · refine hK 11 _ [vI 999, vR 100 (T 109 0 5 - 1), vR 107 0] T ?_
    refine j_callV (y := yX7_tally) (Yc := zX7_tally) (rest := []) [vR 100 (T 109 0 5 - 1), vI 999] (ct_X7_tally (T := T) (hka) (hkc) (by omega)) cl_X9_124 (qd_c (by decide +kernel)) (nn_ _) rfl (rf_of rfl) (Nat.le_of_ble_eq_true rfl) (Nat.le_of_ble_eq_true rfl) (Nat.le_of_ble_eq_true rfl) rfl ?_
    rintro U94 _ ⟨rfl, fU94, qU94⟩
    show J_ zX9_takePoints T (po_X9_takePoints T t) 0 0 14 _ [] U94
    refine j_blx (F := fX9) tb_X9 (nn_ _) bk_X9_takePoints_14 bs_X9_takePoints_14 hz (fun K hK => ?_)
    refine hK 16 [some (vR 109 0), some (vI t), some (vI 0), none, none, none] [] U94 ?_
    refine c_16 _ 0 U94 (Nat.le_refl _) ?_ ?_
    · exact fr_t (fr_0 _ _) (fr_s fU94 rfl)
    · omega
abbrev cX9_isFirstBy : ByteArray := prog_11_method_18_code
def yX9_isFirstBy : MethodName := ⟨RX9, "isFirstBy", "(III)Z"⟩
def zX9_isFirstBy : Zm := (RX9, cX9_isFirstBy, 7, (some .boolean), { frames := 5, cells := 0, slots := 0, locals := 127 })
theorem bk_X9_isFirstBy_20 : ck_ fX9 (some .boolean) cX9_isFirstBy 20 [.iload 5, .iload 2, .if_icmp .ge 87, .iload 4, .iconst 3, .frem, .istore 6, .iload 4, .iconst 3, .fdiv, .istore 4, .aload 0, .tableswitch 0 9 1 #[], .aload 0, .tableswitch 0 9 0 #[], .tableswitch 0 6 3 #[], .aload 0, .tableswitch 0 9 8 #[], .iload 5, .iaload, .aaload, .iload 6, .ifCond .ne 66, .iconst 1, .goto 67] 66 = true := qck_r (nn_ _) (by decide +kernel)
theorem bs_X9_isFirstBy_20 {P : Zt → Option Zv → Prop} (K : Int → Zl → List Zv → Zt → Prop) : sx_ K P [.iload 5, .iload 2, .if_icmp .ge 87, .iload 4, .iconst 3, .frem, .istore 6, .iload 4, .iconst 3, .fdiv, .istore 4, .aload 0, .tableswitch 0 9 1 #[], .aload 0, .tableswitch 0 9 0 #[], .tableswitch 0 6 3 #[], .aload 0, .tableswitch 0 9 8 #[], .iload 5, .iaload, .aaload, .iload 6, .ifCond .ne 66, .iconst 1, .goto 67] 66 = x_iload 5 (x_iload 2 (x_if_icmp .ge 87 K (x_iload 4 (x_iconst 3 (x_frem (x_istore 6 (x_iload 4 (x_iconst 3 (x_fdiv (x_istore 4 (x_aload 0 (x_g1 109 107 (x_aload 0 (x_g1 109 106 (x_g1 106 523 (x_aload 0 (x_g1 109 588 (x_iload 5 (x_iaload (x_aaload (x_iload 6 (x_ifCond .ne 66 K (x_iconst 1 (x_goto 67 K)))))))))))))))))))))))) := ((xe_iload 5).trans (congrArg (x_iload 5) ((xe_iload 2).trans (congrArg (x_iload 2) ((xe_if_icmp .ge 87).trans (congrArg (x_if_icmp .ge 87 K) ((xe_iload 4).trans (congrArg (x_iload 4) ((xe_iconst 3).trans (congrArg (x_iconst 3) ((xe_frem).trans (congrArg (x_frem) ((xe_istore 6).trans (congrArg (x_istore 6) ((xe_iload 4).trans (congrArg (x_iload 4) ((xe_iconst 3).trans (congrArg (x_iconst 3) ((xe_fdiv).trans (congrArg (x_fdiv) ((xe_istore 4).trans (congrArg (x_istore 4) ((xe_aload 0).trans (congrArg (x_aload 0) ((xe_g1 (kk := 109) rfl tl_9_1).trans (congrArg (x_g1 109 107) ((xe_aload 0).trans (congrArg (x_aload 0) ((xe_g1 (kk := 109) rfl tl_9_0).trans (congrArg (x_g1 109 106) ((xe_g1 (kk := 106) rfl tl_6_3).trans (congrArg (x_g1 106 523) ((xe_aload 0).trans (congrArg (x_aload 0) ((xe_g1 (kk := 109) rfl tl_9_8).trans (congrArg (x_g1 109 588) ((xe_iload 5).trans (congrArg (x_iload 5) ((xe_iaload).trans (congrArg (x_iaload) ((xe_aaload).trans (congrArg (x_aaload) ((xe_iload 6).trans (congrArg (x_iload 6) ((xe_ifCond .ne 66).trans (congrArg (x_ifCond .ne 66 K) ((xe_iconst 1).trans (congrArg (x_iconst 1) (xe_goto 67)))))))))))))))))))))))))))))))))))))))))))))))))
theorem bk_X9_isFirstBy_87 : ck_ fX9 (some .boolean) cX9_isFirstBy 87 [.aload 0, .tableswitch 0 9 1 #[]] 91 = true := qck_r (nn_ _) (by decide +kernel)
theorem bs_X9_isFirstBy_87 {P : Zt → Option Zv → Prop} (K : Int → Zl → List Zv → Zt → Prop) : sx_ K P [.aload 0, .tableswitch 0 9 1 #[]] 91 = x_aload 0 (x_g1 109 107 (K 91)) := ((xe_aload 0).trans (congrArg (x_aload 0) ((xe_g1 (kk := 109) rfl tl_9_1).trans (congrArg (x_g1 109 107) xe_nil))))
set_option maxRecDepth 100000 in
theorem cl_X9_184 : cv_ RX9 184 yX7_rank zX7_rank 7 0 := ⟨gi_V (lwq_6 (dqc_m (dqc_m (dqc_m (dqa_m (dqa_m (dqa_m (List.mem_of_getElem? (i := 0) rfl))))))) rfl : Cond.methodLink RX9 184 yX7_rank ∈ lw_g) (lwq_5 (dqc_m (dqc_m (dqc_m (dqc_m (dqc_m (dqc_m (dqc_m (List.mem_of_getElem? (i := 1) rfl)))))))) rfl : Cond.instanceMethod yX7_rank ∈ lw_g) (lwq_5 (dqc_m (dqc_m (dqc_m (dqc_m (dqc_m (dqc_m (dqc_m (List.mem_of_getElem? (i := 2) rfl)))))))) rfl : Cond.selects yX7_rank.cls yX7_rank yX7_rank ∈ lw_g) (lwq_1 (List.mem_of_getElem? (i := 5) rfl) rfl : Cond.initialized yX7_rank.cls ∈ lw_g) (lwq_5 (dqc_m (dqc_m (dqc_m (dqc_m (dqc_m (dqc_m (dqc_m (List.mem_of_getElem? (i := 3) rfl)))))))) rfl : Cond.code yX7_rank cX7_rank 3 none ∈ lw_g), ⟨nmh_7.1, nmh_7.2, pdq_1⟩, ⟨_, _, rfl⟩⟩
theorem bk_X9_isFirstBy_94 : ck_ fX9 (some .boolean) cX9_isFirstBy 94 [.aload 0, .tableswitch 0 9 1 #[], .tableswitch 0 7 2 #[], .iload 3, .iconst 8, .imul, .iconst 7, .iadd, .iaload, .iconst 1, .if_icmp .ne 117, .iconst 1, .goto 118] 117 = true := qck_r (nn_ _) (by decide +kernel)
theorem bs_X9_isFirstBy_94 {P : Zt → Option Zv → Prop} (K : Int → Zl → List Zv → Zt → Prop) : sx_ K P [.aload 0, .tableswitch 0 9 1 #[], .tableswitch 0 7 2 #[], .iload 3, .iconst 8, .imul, .iconst 7, .iadd, .iaload, .iconst 1, .if_icmp .ne 117, .iconst 1, .goto 118] 117 = x_aload 0 (x_g1 109 107 (x_g1 107 542 (x_iload 3 (x_iconst 8 (x_imul (x_iconst 7 (x_iadd (x_iaload (x_iconst 1 (x_if_icmp .ne 117 K (x_iconst 1 (x_goto 118 K)))))))))))) := ((xe_aload 0).trans (congrArg (x_aload 0) ((xe_g1 (kk := 109) rfl tl_9_1).trans (congrArg (x_g1 109 107) ((xe_g1 (kk := 107) rfl tl_7_2).trans (congrArg (x_g1 107 542) ((xe_iload 3).trans (congrArg (x_iload 3) ((xe_iconst 8).trans (congrArg (x_iconst 8) ((xe_imul).trans (congrArg (x_imul) ((xe_iconst 7).trans (congrArg (x_iconst 7) ((xe_iadd).trans (congrArg (x_iadd) ((xe_iaload).trans (congrArg (x_iaload) ((xe_iconst 1).trans (congrArg (x_iconst 1) ((xe_if_icmp .ne 117).trans (congrArg (x_if_icmp .ne 117 K) ((xe_iconst 1).trans (congrArg (x_iconst 1) (xe_goto 118)))))))))))))))))))))))))
theorem bk_X9_isFirstBy_117 : ck_ fX9 (some .boolean) cX9_isFirstBy 117 [.iconst 0, .ireturn] 119 = true := qck_r (nn_ _) (by decide +kernel)
theorem bs_X9_isFirstBy_117 {P : Zt → Option Zv → Prop} (K : Int → Zl → List Zv → Zt → Prop) : sx_ K P [.iconst 0, .ireturn] 119 = x_iconst 0 (x_ireturn P) := ((xe_iconst 0).trans (congrArg (x_iconst 0) (xe_ireturn)))
theorem bk_X9_isFirstBy_118 : ck_ fX9 (some .boolean) cX9_isFirstBy 118 [.ireturn] 119 = true := qck_r (nn_ _) (by decide +kernel)
theorem bs_X9_isFirstBy_118 {P : Zt → Option Zv → Prop} (K : Int → Zl → List Zv → Zt → Prop) : sx_ K P [.ireturn] 119 = x_ireturn P := (xe_ireturn)
theorem bk_X9_isFirstBy_66 : ck_ fX9 (some .boolean) cX9_isFirstBy 66 [.iconst 0, .iload 6, .iconst 2, .if_icmp .ne 77, .iconst 1, .goto 78] 77 = true := qck_r (nn_ _) (by decide +kernel)
theorem bs_X9_isFirstBy_66 {P : Zt → Option Zv → Prop} (K : Int → Zl → List Zv → Zt → Prop) : sx_ K P [.iconst 0, .iload 6, .iconst 2, .if_icmp .ne 77, .iconst 1, .goto 78] 77 = x_iconst 0 (x_iload 6 (x_iconst 2 (x_if_icmp .ne 77 K (x_iconst 1 (x_goto 78 K))))) := ((xe_iconst 0).trans (congrArg (x_iconst 0) ((xe_iload 6).trans (congrArg (x_iload 6) ((xe_iconst 2).trans (congrArg (x_iconst 2) ((xe_if_icmp .ne 77).trans (congrArg (x_if_icmp .ne 77 K) ((xe_iconst 1).trans (congrArg (x_iconst 1) (xe_goto 78)))))))))))
theorem bk_X9_isFirstBy_77 : ck_ fX9 (some .boolean) cX9_isFirstBy 77 [.iconst 0] 78 = true := qck_r (nn_ _) (by decide +kernel)
theorem bs_X9_isFirstBy_77 {P : Zt → Option Zv → Prop} (K : Int → Zl → List Zv → Zt → Prop) : sx_ K P [.iconst 0] 78 = x_iconst 0 (K 78) := ((xe_iconst 0).trans (congrArg (x_iconst 0) xe_nil))
set_option maxRecDepth 100000 in
theorem cl_X9_180 : cv_ RX9 180 yX7_addResult zX7_addResult 7 3 := ⟨gi_V (lwq_6 (dqc_m (dqc_m (dqc_m (dqa_m (dqa_m (List.mem_of_getElem? (i := 7) rfl)))))) rfl : Cond.methodLink RX9 180 yX7_addResult ∈ lw_g) (lwq_5 (dqc_m (dqc_m (dqc_m (dqc_m (dqc_m (dqc_m (dqa_m (dqa_m (List.mem_of_getElem? (i := 0) rfl))))))))) rfl : Cond.instanceMethod yX7_addResult ∈ lw_g) (lwq_5 (dqc_m (dqc_m (dqc_m (dqc_m (dqc_m (dqc_m (dqa_m (dqa_m (List.mem_of_getElem? (i := 1) rfl))))))))) rfl : Cond.selects yX7_addResult.cls yX7_addResult yX7_addResult ∈ lw_g) (lwq_1 (List.mem_of_getElem? (i := 5) rfl) rfl : Cond.initialized yX7_addResult.cls ∈ lw_g) (lwq_5 (dqc_m (dqc_m (dqc_m (dqc_m (dqc_m (dqc_m (dqa_m (dqa_m (List.mem_of_getElem? (i := 2) rfl))))))))) rfl : Cond.code yX7_addResult cX7_addResult 6 none ∈ lw_g), ⟨nmh_7.1, nmh_7.2, pdq_30⟩, ⟨_, _, rfl⟩⟩
theorem bk_X9_isFirstBy_81 : ck_ fX9 (some .boolean) cX9_isFirstBy 81 [.iinc 5 1, .goto 20] 87 = true := qck_r (nn_ _) (by decide +kernel)
theorem bs_X9_isFirstBy_81 {P : Zt → Option Zv → Prop} (K : Int → Zl → List Zv → Zt → Prop) : sx_ K P [.iinc 5 1, .goto 20] 87 = x_iinc 5 1 (x_goto 20 K) := ((xe_iinc 5 1).trans (congrArg (x_iinc 5 1) (xe_goto 20)))
theorem bk_X9_isFirstBy_67 : ck_ fX9 (some .boolean) cX9_isFirstBy 67 [.iload 6, .iconst 2, .if_icmp .ne 77, .iconst 1, .goto 78] 77 = true := qck_r (nn_ _) (by decide +kernel)
theorem bs_X9_isFirstBy_67 {P : Zt → Option Zv → Prop} (K : Int → Zl → List Zv → Zt → Prop) : sx_ K P [.iload 6, .iconst 2, .if_icmp .ne 77, .iconst 1, .goto 78] 77 = x_iload 6 (x_iconst 2 (x_if_icmp .ne 77 K (x_iconst 1 (x_goto 78 K)))) := ((xe_iload 6).trans (congrArg (x_iload 6) ((xe_iconst 2).trans (congrArg (x_iconst 2) ((xe_if_icmp .ne 77).trans (congrArg (x_if_icmp .ne 77 K) ((xe_iconst 1).trans (congrArg (x_iconst 1) (xe_goto 78)))))))))
theorem bk_X9_isFirstBy_0 : ck_ fX9 (some .boolean) cX9_isFirstBy 0 [.aload 0, .tableswitch 0 9 1 #[], .aload 0, .tableswitch 0 9 5 #[], .iconst 999] 11 = true := qck_r (nn_ _) (by decide +kernel)
theorem bs_X9_isFirstBy_0 {P : Zt → Option Zv → Prop} (K : Int → Zl → List Zv → Zt → Prop) : sx_ K P [.aload 0, .tableswitch 0 9 1 #[], .aload 0, .tableswitch 0 9 5 #[], .iconst 999] 11 = x_aload 0 (x_g1 109 107 (x_aload 0 (x_g5 109 100 5 (x_iconst 999 (K 11))))) := ((xe_aload 0).trans (congrArg (x_aload 0) ((xe_g1 (kk := 109) rfl tl_9_1).trans (congrArg (x_g1 109 107) ((xe_aload 0).trans (congrArg (x_aload 0) ((xe_g5 (kk := 109) rfl tl_9_5).trans (congrArg (x_g5 109 100 5) ((xe_iconst 999).trans (congrArg (x_iconst 999) xe_nil))))))))))
theorem bk_X9_isFirstBy_14 : ck_ fX9 (some .boolean) cX9_isFirstBy 14 [.iload 1, .istore 4, .iconst 0, .istore 5] 20 = true := qck_r (nn_ _) (by decide +kernel)
theorem bs_X9_isFirstBy_14 {P : Zt → Option Zv → Prop} (K : Int → Zl → List Zv → Zt → Prop) : sx_ K P [.iload 1, .istore 4, .iconst 0, .istore 5] 20 = x_iload 1 (x_istore 4 (x_iconst 0 (x_istore 5 (K 20)))) := ((xe_iload 1).trans (congrArg (x_iload 1) ((xe_istore 4).trans (congrArg (x_istore 4) ((xe_iconst 0).trans (congrArg (x_iconst 0) ((xe_istore 5).trans (congrArg (x_istore 5) xe_nil))))))))
abbrev po_X9_isFirstBy (T : Zt) (a n s : Int) : Zt → Option Zv → Prop := fun T' r => ∃ x : Int, r = some (vI x) ∧ fr_ [(107, [1, 13]), (542, []), (543, []), (544, []), (545, []), (546, []), (550, []), (551, []), (552, []), (549, []), (547, []), (548, [])] T T' ∧ (0 ≤ x ∧ x ≤ 1)
set_option maxHeartbeats 4000000 in
theorem ct_X9_isFirstBy {T : Zt} {a n s : Int} (hka : KA_ T) (hkc : KC_ T) (hc9 : 1 ≤ T 109 0 5 ∧ T 109 0 5 ≤ T 106 0 2) (hs : 0 ≤ s ∧ s ≤ 11) (hn : 0 ≤ n ∧ n ≤ 40) (hop : ∀ j : Int, 0 ≤ j → j < n → 0 ≤ T 588 0 j ∧ T 588 0 j < T 106 0 4) (hrk : T 401 (T 109 0 5 - 1) 4 ≤ 7) : Ct_ yX9_isFirstBy zX9_isFirstBy T [vR 109 0, vI a, vI n, vI s] (po_X9_isFirstBy T a n s) := by
  refine ct_of pn_9 rfl rfl (Nat.le_of_ble_eq_true rfl) (fun hT hav => ?_)
  have hr_a : -2147483648 ≤ a ∧ a ≤ 2147483647 := hav (vI a) (List.mem_cons_of_mem _ List.mem_cons_self)
  have hr_n : -2147483648 ≤ n ∧ n ≤ 2147483647 := hav (vI n) (List.mem_cons_of_mem _ (List.mem_cons_of_mem _ List.mem_cons_self))
  have hr_s : -2147483648 ≤ s ∧ s ≤ 2147483647 := hav (vI s) (List.mem_cons_of_mem _ (List.mem_cons_of_mem _ (List.mem_cons_of_mem _ List.mem_cons_self)))
  have hz : zX9_isFirstBy.2.2.2.1 = some .boolean → ∀ (T' : Zt) (x : Int), po_X9_isFirstBy T a n s T' (some (vI x)) → 0 ≤ x ∧ x ≤ 1 := fun _ T' x h => by obtain ⟨y, e, -, hy⟩ := h; cases e; omega
  show J_ zX9_isFirstBy T (po_X9_isFirstBy T a n s) 0 0 0 [some (vR 109 0), some (vI a), some (vI n), some (vI s), none, none, none] [] T
  have c_20 : ∀ (nn : Nat) (g : Int) (u : Int) (T1 : Zt), ((n - u).toNat) ≤ nn → (fr_ [(107, [1]), (542, []), (543, []), (544, []), (545, []), (546, [])] T T1) → (0 ≤ u) → (T1 107 0 1 = T 109 0 5) → J_ zX9_isFirstBy T (po_X9_isFirstBy T a n s) 0 0 20 [some (vR 109 0), some (vI a), some (vI n), some (vI s), some (vI g), some (vI u), none] [] T1 := by
    intro nn
    induction nn using Nat.strongRecOn with
    | _ nn ih_20 =>
      intro g u T1 hm_20 hf_20 i1 i0
      replace hm_20 := fun (_ : Unit) => hm_20
      refine j_blx (F := fX9) tb_X9 (nn_ _) bk_X9_isFirstBy_20 bs_X9_isFirstBy_20 hz (fun K hK => ?_)
      refine And.intro (fun c1 => ?_) (fun c1 => ?_)
      · refine hK 87 _ [] T1 ?_
        refine j_blx (F := fX9) tb_X9 (nn_ _) bk_X9_isFirstBy_87 bs_X9_isFirstBy_87 hz (fun K hK => ?_)
        refine hK 91 _ [vR 107 0] T1 ?_
        have e2 : T1 401 (T 109 0 5 - 1) 4 = T 401 (T 109 0 5 - 1) 4 := hf_20 401 (T 109 0 5 - 1) 4 rfl
        refine j_callV (y := yX7_rank) (Yc := zX7_rank) (rest := []) [] (ct_X7_rank (T := T1) (by omega) (by rw [show T1 107 0 1 - 1 = (T 109 0 5 - 1) by omega]; omega)) cl_X9_184 (qd_c (by decide +kernel)) (nn_ _) rfl (rf_of rfl) (Nat.le_of_ble_eq_true rfl) (Nat.le_of_ble_eq_true rfl) (Nat.le_of_ble_eq_true rfl) rfl ?_
        rintro U3 _ ⟨rfl, fU3, qU3⟩
        show J_ zX9_isFirstBy T (po_X9_isFirstBy T a n s) 0 0 94 _ [] U3
        refine j_blx (F := fX9) tb_X9 (nn_ _) bk_X9_isFirstBy_94 bs_X9_isFirstBy_94 hz (fun K hK => ?_)
        refine rg_i (by omega) ?_
        refine rg_i (by omega) ?_
        refine ix_i (by omega) ?_
        intro b4 b4b
        refine And.intro (fun c5 => ?_) (fun c5 => ?_)
        · refine hK 117 _ [] U3 ?_
          refine j_blx (F := fX9) tb_X9 (nn_ _) bk_X9_isFirstBy_117 bs_X9_isFirstBy_117 hz (fun K hK => ?_)
          refine (show po_X9_isFirstBy T a n s U3 (some (vI 0)) from ?_)
          exact ⟨_, rfl, fr_t (fr_t (fr_0 _ _) (fr_s hf_20 rfl)) (fr_s fU3 rfl), by omega⟩
        · refine hK 118 _ [vI 1] U3 ?_
          refine j_blx (F := fX9) tb_X9 (nn_ _) bk_X9_isFirstBy_118 bs_X9_isFirstBy_118 hz (fun K hK => ?_)
          refine (show po_X9_isFirstBy T a n s U3 (some (vI 1)) from ?_)
          exact ⟨_, rfl, fr_t (fr_t (fr_0 _ _) (fr_s hf_20 rfl)) (fr_s fU3 rfl), by omega⟩
      · refine And.intro (by omega) (fun w6 w6b => ?_)
        refine And.intro (by omega) (fun w7 w7b => ?_)
        refine ix_i (by omega) ?_
        intro b8 b8b
        have e9 : T1 588 0 u = T 588 0 u := hf_20 588 0 u rfl
        rw [e9] at b8 b8b ⊢
        refine ix_i (by omega) ?_
        have e11 : T1 523 0 (T 588 0 u) = T 523 0 (T 588 0 u) := hf_20 523 0 (T 588 0 u) rfl
        refine And.intro (fun c10 => ?_) (fun c10 => ?_)
        · exact absurd (show T 523 0 (T 588 0 u) = 0 by omega) (hka.2 _ (by have z := hop u (by omega) (by omega); omega) (by have z := hop u (by omega) (by omega); omega))
        · refine And.intro (fun c12 => ?_) (fun c12 => ?_)
          · refine hK 66 [some (vR 109 0), some (vI a), some (vI n), some (vI s), some (vI (dq_ g 3)), some (vI u), some (vI (dr_ g 3))] [vR 102 (T 588 0 u), vR 107 0] T1 ?_
            refine j_blx (F := fX9) tb_X9 (nn_ _) bk_X9_isFirstBy_66 bs_X9_isFirstBy_66 hz (fun K hK => ?_)
            refine And.intro (fun c13 => ?_) (fun c13 => ?_)
            · refine hK 77 _ [vI 0, vR 102 (T 588 0 u), vR 107 0] T1 ?_
              refine j_blx (F := fX9) tb_X9 (nn_ _) bk_X9_isFirstBy_77 bs_X9_isFirstBy_77 hz (fun K hK => ?_)
              refine hK 78 _ [vI 0, vI 0, vR 102 (T 588 0 u), vR 107 0] T1 ?_
              refine j_callV (y := yX7_addResult) (Yc := zX7_addResult) (rest := []) [vR 102 (T 588 0 u), vI 0, vI 0] (ct_X7_addResult (T := T1) (by omega)) cl_X9_180 (qd_c (by decide +kernel)) (nn_ _) rfl (rf_of rfl) (Nat.le_of_ble_eq_true rfl) (Nat.le_of_ble_eq_true rfl) (Nat.le_of_ble_eq_true rfl) rfl ?_
              rintro U14 _ ⟨rfl, fU14, qU14⟩
              show J_ zX9_isFirstBy T (po_X9_isFirstBy T a n s) 0 0 81 _ [] U14
              refine j_blx (F := fX9) tb_X9 (nn_ _) bk_X9_isFirstBy_81 bs_X9_isFirstBy_81 hz (fun K hK => ?_)
              refine rg_i (by omega) ?_
              refine hK 20 [some (vR 109 0), some (vI a), some (vI n), some (vI s), some (vI (dq_ g 3)), some (vI (u + 1)), some (vI (dr_ g 3))] [] U14 ?_
              refine j_drop [some (vR 109 0), some (vI a), some (vI n), some (vI s), some (vI (dq_ g 3)), some (vI (u + 1)), none] (fun k v hk => ?_) rfl ?_
              · match k, hk with
                | 0, hk => exact hk
                | 1, hk => exact hk
                | 2, hk => exact hk
                | 3, hk => exact hk
                | 4, hk => exact hk
                | 5, hk => exact hk
                | 6, hk => cases hk
                | k + 7, hk => cases hk
              have e15 : U14 107 0 1 = T1 107 0 1 := fU14 107 0 1 rfl
              refine ih_20 _ ?_ (dq_ g 3) (u + 1) U14 (Nat.le_refl _) ?_ ?_ ?_
              · have hm_20 := hm_20 (); omega
              · exact fr_t (fr_t (fr_0 _ _) (fr_s hf_20 rfl)) (fr_s fU14 rfl)
              · omega
              · omega
            · refine hK 78 [some (vR 109 0), some (vI a), some (vI n), some (vI s), some (vI (dq_ g 3)), some (vI u), some (vI (dr_ g 3))] [vI 1, vI 0, vR 102 (T 588 0 u), vR 107 0] T1 ?_
              refine j_callV (y := yX7_addResult) (Yc := zX7_addResult) (rest := []) [vR 102 (T 588 0 u), vI 0, vI 1] (ct_X7_addResult (T := T1) (by omega)) cl_X9_180 (qd_c (by decide +kernel)) (nn_ _) rfl (rf_of rfl) (Nat.le_of_ble_eq_true rfl) (Nat.le_of_ble_eq_true rfl) (Nat.le_of_ble_eq_true rfl) rfl ?_
              rintro U16 _ ⟨rfl, fU16, qU16⟩
              show J_ zX9_isFirstBy T (po_X9_isFirstBy T a n s) 0 0 81 _ [] U16
              refine j_blx (F := fX9) tb_X9 (nn_ _) bk_X9_isFirstBy_81 bs_X9_isFirstBy_81 hz (fun K hK => ?_)
              refine rg_i (by omega) ?_
              refine hK 20 [some (vR 109 0), some (vI a), some (vI n), some (vI s), some (vI (dq_ g 3)), some (vI (u + 1)), some (vI (dr_ g 3))] [] U16 ?_
              refine j_drop [some (vR 109 0), some (vI a), some (vI n), some (vI s), some (vI (dq_ g 3)), some (vI (u + 1)), none] (fun k v hk => ?_) rfl ?_
              · match k, hk with
                | 0, hk => exact hk
                | 1, hk => exact hk
                | 2, hk => exact hk
                | 3, hk => exact hk
                | 4, hk => exact hk
                | 5, hk => exact hk
                | 6, hk => cases hk
                | k + 7, hk => cases hk
              have e17 : U16 107 0 1 = T1 107 0 1 := fU16 107 0 1 rfl
              refine ih_20 _ ?_ (dq_ g 3) (u + 1) U16 (Nat.le_refl _) ?_ ?_ ?_
              · have hm_20 := hm_20 (); omega
              · exact fr_t (fr_t (fr_0 _ _) (fr_s hf_20 rfl)) (fr_s fU16 rfl)
              · omega
              · omega
          · refine hK 67 _ [vI 1, vR 102 (T 588 0 u), vR 107 0] T1 ?_
            refine j_blx (F := fX9) tb_X9 (nn_ _) bk_X9_isFirstBy_67 bs_X9_isFirstBy_67 hz (fun K hK => ?_)
            refine And.intro (fun c18 => ?_) (fun c18 => ?_)
            · refine hK 77 _ [vI 1, vR 102 (T 588 0 u), vR 107 0] T1 ?_
              refine j_blx (F := fX9) tb_X9 (nn_ _) bk_X9_isFirstBy_77 bs_X9_isFirstBy_77 hz (fun K hK => ?_)
              refine hK 78 _ [vI 0, vI 1, vR 102 (T 588 0 u), vR 107 0] T1 ?_
              refine j_callV (y := yX7_addResult) (Yc := zX7_addResult) (rest := []) [vR 102 (T 588 0 u), vI 1, vI 0] (ct_X7_addResult (T := T1) (by omega)) cl_X9_180 (qd_c (by decide +kernel)) (nn_ _) rfl (rf_of rfl) (Nat.le_of_ble_eq_true rfl) (Nat.le_of_ble_eq_true rfl) (Nat.le_of_ble_eq_true rfl) rfl ?_
              rintro U19 _ ⟨rfl, fU19, qU19⟩
              show J_ zX9_isFirstBy T (po_X9_isFirstBy T a n s) 0 0 81 _ [] U19
              refine j_blx (F := fX9) tb_X9 (nn_ _) bk_X9_isFirstBy_81 bs_X9_isFirstBy_81 hz (fun K hK => ?_)
              refine rg_i (by omega) ?_
              refine hK 20 [some (vR 109 0), some (vI a), some (vI n), some (vI s), some (vI (dq_ g 3)), some (vI (u + 1)), some (vI (dr_ g 3))] [] U19 ?_
              refine j_drop [some (vR 109 0), some (vI a), some (vI n), some (vI s), some (vI (dq_ g 3)), some (vI (u + 1)), none] (fun k v hk => ?_) rfl ?_
              · match k, hk with
                | 0, hk => exact hk
                | 1, hk => exact hk
                | 2, hk => exact hk
                | 3, hk => exact hk
                | 4, hk => exact hk
                | 5, hk => exact hk
                | 6, hk => cases hk
                | k + 7, hk => cases hk
              have e20 : U19 107 0 1 = T1 107 0 1 := fU19 107 0 1 rfl
              refine ih_20 _ ?_ (dq_ g 3) (u + 1) U19 (Nat.le_refl _) ?_ ?_ ?_
              · have hm_20 := hm_20 (); omega
              · exact fr_t (fr_t (fr_0 _ _) (fr_s hf_20 rfl)) (fr_s fU19 rfl)
              · omega
              · omega
            · refine hK 78 [some (vR 109 0), some (vI a), some (vI n), some (vI s), some (vI (dq_ g 3)), some (vI u), some (vI (dr_ g 3))] [vI 1, vI 1, vR 102 (T 588 0 u), vR 107 0] T1 ?_
              refine j_callV (y := yX7_addResult) (Yc := zX7_addResult) (rest := []) [vR 102 (T 588 0 u), vI 1, vI 1] (ct_X7_addResult (T := T1) (by omega)) cl_X9_180 (qd_c (by decide +kernel)) (nn_ _) rfl (rf_of rfl) (Nat.le_of_ble_eq_true rfl) (Nat.le_of_ble_eq_true rfl) (Nat.le_of_ble_eq_true rfl) rfl ?_
              rintro U21 _ ⟨rfl, fU21, qU21⟩
              show J_ zX9_isFirstBy T (po_X9_isFirstBy T a n s) 0 0 81 _ [] U21
              refine j_blx (F := fX9) tb_X9 (nn_ _) bk_X9_isFirstBy_81 bs_X9_isFirstBy_81 hz (fun K hK => ?_)
              refine rg_i (by omega) ?_
              refine hK 20 [some (vR 109 0), some (vI a), some (vI n), some (vI s), some (vI (dq_ g 3)), some (vI (u + 1)), some (vI (dr_ g 3))] [] U21 ?_
              refine j_drop [some (vR 109 0), some (vI a), some (vI n), some (vI s), some (vI (dq_ g 3)), some (vI (u + 1)), none] (fun k v hk => ?_) rfl ?_
              · match k, hk with
                | 0, hk => exact hk
                | 1, hk => exact hk
                | 2, hk => exact hk
                | 3, hk => exact hk
                | 4, hk => exact hk
                | 5, hk => exact hk
                | 6, hk => cases hk
                | k + 7, hk => cases hk
              have e22 : U21 107 0 1 = T1 107 0 1 := fU21 107 0 1 rfl
              refine ih_20 _ ?_ (dq_ g 3) (u + 1) U21 (Nat.le_refl _) ?_ ?_ ?_
              · have hm_20 := hm_20 (); omega
              · exact fr_t (fr_t (fr_0 _ _) (fr_s hf_20 rfl)) (fr_s fU21 rfl)
              · omega
              · omega
  refine j_blx (F := fX9) tb_X9 (nn_ _) bk_X9_isFirstBy_0 bs_X9_isFirstBy_0 hz (fun K hK => ?_)
  refine And.intro (fun c23 => ?_) (fun c23 => ?_)
  · exact absurd c23 (by omega)
  · refine hK 11 _ [vI 999, vR 100 (T 109 0 5 - 1), vR 107 0] T ?_
    refine j_callV (y := yX7_tally) (Yc := zX7_tally) (rest := []) [vR 100 (T 109 0 5 - 1), vI 999] (ct_X7_tally (T := T) (hka) (hkc) (by omega)) cl_X9_124 (qd_c (by decide +kernel)) (nn_ _) rfl (rf_of rfl) (Nat.le_of_ble_eq_true rfl) (Nat.le_of_ble_eq_true rfl) (Nat.le_of_ble_eq_true rfl) rfl ?_
    rintro U24 _ ⟨rfl, fU24, qU24⟩
    show J_ zX9_isFirstBy T (po_X9_isFirstBy T a n s) 0 0 14 _ [] U24
    refine j_blx (F := fX9) tb_X9 (nn_ _) bk_X9_isFirstBy_14 bs_X9_isFirstBy_14 hz (fun K hK => ?_)
    refine hK 20 [some (vR 109 0), some (vI a), some (vI n), some (vI s), some (vI a), some (vI 0), none] [] U24 ?_
    refine c_20 _ a 0 U24 (Nat.le_refl _) ?_ ?_ ?_
    · exact fr_t (fr_0 _ _) (fr_s fU24 rfl)
    · omega
    · omega
abbrev cX9_countFirsts : ByteArray := prog_11_method_17_code
def yX9_countFirsts : MethodName := ⟨RX9, "countFirsts", "(LSportsHouse$Competition;I)I"⟩
def zX9_countFirsts : Zm := (RX9, cX9_countFirsts, 7, (some .int), { frames := 6, cells := 0, slots := 0, locals := 153 })
theorem bk_X9_countFirsts_92 : ck_ fX9 (some .int) cX9_countFirsts 92 [.iload 6, .iload 4, .if_icmp .ge 119, .aload 0, .iload 6, .iload 3, .iload 2] 104 = true := qck_r (nn_ _) (by decide +kernel)
theorem bs_X9_countFirsts_92 {P : Zt → Option Zv → Prop} (K : Int → Zl → List Zv → Zt → Prop) : sx_ K P [.iload 6, .iload 4, .if_icmp .ge 119, .aload 0, .iload 6, .iload 3, .iload 2] 104 = x_iload 6 (x_iload 4 (x_if_icmp .ge 119 K (x_aload 0 (x_iload 6 (x_iload 3 (x_iload 2 (K 104))))))) := ((xe_iload 6).trans (congrArg (x_iload 6) ((xe_iload 4).trans (congrArg (x_iload 4) ((xe_if_icmp .ge 119).trans (congrArg (x_if_icmp .ge 119 K) ((xe_aload 0).trans (congrArg (x_aload 0) ((xe_iload 6).trans (congrArg (x_iload 6) ((xe_iload 3).trans (congrArg (x_iload 3) ((xe_iload 2).trans (congrArg (x_iload 2) xe_nil))))))))))))))
theorem bk_X9_countFirsts_119 : ck_ fX9 (some .int) cX9_countFirsts 119 [.iload 5, .ireturn] 122 = true := qck_r (nn_ _) (by decide +kernel)
theorem bs_X9_countFirsts_119 {P : Zt → Option Zv → Prop} (K : Int → Zl → List Zv → Zt → Prop) : sx_ K P [.iload 5, .ireturn] 122 = x_iload 5 (x_ireturn P) := ((xe_iload 5).trans (congrArg (x_iload 5) (xe_ireturn)))
set_option maxRecDepth 100000 in
theorem cl_X9_176 : cv_ RX9 176 yX9_isFirstBy zX9_isFirstBy 9 3 := ⟨gi_V (lwq_6 (dqc_m (dqc_m (dqc_m (dqa_m (dqa_m (List.mem_of_getElem? (i := 3) rfl)))))) rfl : Cond.methodLink RX9 176 yX9_isFirstBy ∈ lw_g) (lwq_6 (dqc_m (dqc_m (dqc_m (dqa_m (dqa_m (List.mem_of_getElem? (i := 5) rfl)))))) rfl : Cond.instanceMethod yX9_isFirstBy ∈ lw_g) (lw_sel 138 rfl : Cond.selects yX9_isFirstBy.cls yX9_isFirstBy yX9_isFirstBy ∈ lw_g) (lwq_1 (List.mem_of_getElem? (i := 6) rfl) rfl : Cond.initialized yX9_isFirstBy.cls ∈ lw_g) (lwq_6 (dqc_m (dqc_m (dqc_m (dqa_m (dqa_m (List.mem_of_getElem? (i := 6) rfl)))))) rfl : Cond.code yX9_isFirstBy cX9_isFirstBy 7 (some .boolean) ∈ lw_g), ⟨nmh_8.1, nmh_8.2, pdq_11⟩, ⟨_, _, rfl⟩⟩
theorem bk_X9_countFirsts_107 : ck_ fX9 (some .int) cX9_countFirsts 107 [.ifCond .eq 113, .iinc 5 1, .iinc 6 1, .goto 92] 119 = true := qck_r (nn_ _) (by decide +kernel)
theorem bs_X9_countFirsts_107 {P : Zt → Option Zv → Prop} (K : Int → Zl → List Zv → Zt → Prop) : sx_ K P [.ifCond .eq 113, .iinc 5 1, .iinc 6 1, .goto 92] 119 = x_ifCond .eq 113 K (x_iinc 5 1 (x_iinc 6 1 (x_goto 92 K))) := ((xe_ifCond .eq 113).trans (congrArg (x_ifCond .eq 113 K) ((xe_iinc 5 1).trans (congrArg (x_iinc 5 1) ((xe_iinc 6 1).trans (congrArg (x_iinc 6 1) (xe_goto 92)))))))
theorem bk_X9_countFirsts_113 : ck_ fX9 (some .int) cX9_countFirsts 113 [.iinc 6 1, .goto 92] 119 = true := qck_r (nn_ _) (by decide +kernel)
theorem bs_X9_countFirsts_113 {P : Zt → Option Zv → Prop} (K : Int → Zl → List Zv → Zt → Prop) : sx_ K P [.iinc 6 1, .goto 92] 119 = x_iinc 6 1 (x_goto 92 K) := ((xe_iinc 6 1).trans (congrArg (x_iinc 6 1) (xe_goto 92)))
theorem bk_X9_countFirsts_13 : ck_ fX9 (some .int) cX9_countFirsts 13 [.iload 5, .aload 0, .tableswitch 0 9 5 #[], .tableswitch 0 0 8 #[], .if_icmp .ge 86, .aload 0, .tableswitch 0 9 0 #[], .tableswitch 0 6 3 #[], .aload 0, .tableswitch 0 9 5 #[], .tableswitch 0 0 7 #[], .iload 5, .iadd, .aaload, .astore 6, .aload 6] 47 = true := qck_r (nn_ _) (by decide +kernel)
theorem bs_X9_countFirsts_13 {P : Zt → Option Zv → Prop} (K : Int → Zl → List Zv → Zt → Prop) : sx_ K P [.iload 5, .aload 0, .tableswitch 0 9 5 #[], .tableswitch 0 0 8 #[], .if_icmp .ge 86, .aload 0, .tableswitch 0 9 0 #[], .tableswitch 0 6 3 #[], .aload 0, .tableswitch 0 9 5 #[], .tableswitch 0 0 7 #[], .iload 5, .iadd, .aaload, .astore 6, .aload 6] 47 = x_iload 5 (x_aload 0 (x_g5 109 100 5 (x_g0 100 8 0 400 (x_if_icmp .ge 86 K (x_aload 0 (x_g1 109 106 (x_g1 106 523 (x_aload 0 (x_g5 109 100 5 (x_g0 100 7 0 400 (x_iload 5 (x_iadd (x_aaload (x_astore 6 (x_aload 6 (K 47)))))))))))))))) := ((xe_iload 5).trans (congrArg (x_iload 5) ((xe_aload 0).trans (congrArg (x_aload 0) ((xe_g5 (kk := 109) rfl tl_9_5).trans (congrArg (x_g5 109 100 5) ((xe_g0 (kk := 100) rfl tl_0_8).trans (congrArg (x_g0 100 8 0 400) ((xe_if_icmp .ge 86).trans (congrArg (x_if_icmp .ge 86 K) ((xe_aload 0).trans (congrArg (x_aload 0) ((xe_g1 (kk := 109) rfl tl_9_0).trans (congrArg (x_g1 109 106) ((xe_g1 (kk := 106) rfl tl_6_3).trans (congrArg (x_g1 106 523) ((xe_aload 0).trans (congrArg (x_aload 0) ((xe_g5 (kk := 109) rfl tl_9_5).trans (congrArg (x_g5 109 100 5) ((xe_g0 (kk := 100) rfl tl_0_7).trans (congrArg (x_g0 100 7 0 400) ((xe_iload 5).trans (congrArg (x_iload 5) ((xe_iadd).trans (congrArg (x_iadd) ((xe_aaload).trans (congrArg (x_aaload) ((xe_astore 6).trans (congrArg (x_astore 6) ((xe_aload 6).trans (congrArg (x_aload 6) xe_nil))))))))))))))))))))))))))))))))
theorem bk_X9_countFirsts_86 : ck_ fX9 (some .int) cX9_countFirsts 86 [.iconst 0, .istore 5, .iconst 0, .istore 6] 92 = true := qck_r (nn_ _) (by decide +kernel)
theorem bs_X9_countFirsts_86 {P : Zt → Option Zv → Prop} (K : Int → Zl → List Zv → Zt → Prop) : sx_ K P [.iconst 0, .istore 5, .iconst 0, .istore 6] 92 = x_iconst 0 (x_istore 5 (x_iconst 0 (x_istore 6 (K 92)))) := ((xe_iconst 0).trans (congrArg (x_iconst 0) ((xe_istore 5).trans (congrArg (x_istore 5) ((xe_iconst 0).trans (congrArg (x_iconst 0) ((xe_istore 6).trans (congrArg (x_istore 6) xe_nil))))))))
set_option maxRecDepth 100000 in
theorem cl_X9_109 : cv_ RX9 109 yX2_isDecided zX2_isDecided 2 0 := ⟨gi_V (lwq_6 (dqc_m (dqa_m (List.mem_of_getElem? (i := 0) rfl))) rfl : Cond.methodLink RX9 109 yX2_isDecided ∈ lw_g) (lwq_4 (dqc_m (dqc_m (dqc_m (dqc_m (dqa_m (dqa_m (dqa_m (List.mem_of_getElem? (i := 3) rfl)))))))) rfl : Cond.instanceMethod yX2_isDecided ∈ lw_g) (lwq_4 (dqc_m (dqc_m (dqc_m (dqc_m (dqa_m (dqa_m (dqa_m (List.mem_of_getElem? (i := 4) rfl)))))))) rfl : Cond.selects yX2_isDecided.cls yX2_isDecided yX2_isDecided ∈ lw_g) (lwq_1 (dqa_m (dqa_m (List.mem_of_getElem? (i := 0) rfl))) rfl : Cond.initialized yX2_isDecided.cls ∈ lw_g) (lwq_4 (dqc_m (dqc_m (dqc_m (dqc_m (dqa_m (dqa_m (dqa_m (List.mem_of_getElem? (i := 5) rfl)))))))) rfl : Cond.code yX2_isDecided cX2_isDecided 1 (some .boolean) ∈ lw_g), ⟨nmh_10.1, nmh_10.2, pdq_18⟩, ⟨_, _, rfl⟩⟩
theorem bk_X9_countFirsts_50 : ck_ fX9 (some .int) cX9_countFirsts 50 [.ifCond .ne 80, .iload 3, .iconst 3, .if_icmp .lt 60, .iconst (-1), .ireturn] 60 = true := qck_r (nn_ _) (by decide +kernel)
theorem bs_X9_countFirsts_50 {P : Zt → Option Zv → Prop} (K : Int → Zl → List Zv → Zt → Prop) : sx_ K P [.ifCond .ne 80, .iload 3, .iconst 3, .if_icmp .lt 60, .iconst (-1), .ireturn] 60 = x_ifCond .ne 80 K (x_iload 3 (x_iconst 3 (x_if_icmp .lt 60 K (x_iconst (-1) (x_ireturn P))))) := ((xe_ifCond .ne 80).trans (congrArg (x_ifCond .ne 80 K) ((xe_iload 3).trans (congrArg (x_iload 3) ((xe_iconst 3).trans (congrArg (x_iconst 3) ((xe_if_icmp .lt 60).trans (congrArg (x_if_icmp .lt 60 K) ((xe_iconst (-1)).trans (congrArg (x_iconst (-1)) (xe_ireturn)))))))))))
theorem bk_X9_countFirsts_80 : ck_ fX9 (some .int) cX9_countFirsts 80 [.iinc 5 1, .goto 13] 86 = true := qck_r (nn_ _) (by decide +kernel)
theorem bs_X9_countFirsts_80 {P : Zt → Option Zv → Prop} (K : Int → Zl → List Zv → Zt → Prop) : sx_ K P [.iinc 5 1, .goto 13] 86 = x_iinc 5 1 (x_goto 13 K) := ((xe_iinc 5 1).trans (congrArg (x_iinc 5 1) (xe_goto 13)))
theorem bk_X9_countFirsts_60 : ck_ fX9 (some .int) cX9_countFirsts 60 [.aload 0, .tableswitch 0 9 8 #[], .iload 3, .aload 6, .tableswitch 0 2 1 #[], .iastore, .iinc 3 1, .iload 4, .iconst 3, .imul, .istore 4, .iinc 5 1, .goto 13] 86 = true := qck_r (nn_ _) (by decide +kernel)
theorem bs_X9_countFirsts_60 {P : Zt → Option Zv → Prop} (K : Int → Zl → List Zv → Zt → Prop) : sx_ K P [.aload 0, .tableswitch 0 9 8 #[], .iload 3, .aload 6, .tableswitch 0 2 1 #[], .iastore, .iinc 3 1, .iload 4, .iconst 3, .imul, .istore 4, .iinc 5 1, .goto 13] 86 = x_aload 0 (x_g1 109 588 (x_iload 3 (x_aload 6 (x_g0 102 1 0 399 (x_iastore (x_iinc 3 1 (x_iload 4 (x_iconst 3 (x_imul (x_istore 4 (x_iinc 5 1 (x_goto 13 K)))))))))))) := ((xe_aload 0).trans (congrArg (x_aload 0) ((xe_g1 (kk := 109) rfl tl_9_8).trans (congrArg (x_g1 109 588) ((xe_iload 3).trans (congrArg (x_iload 3) ((xe_aload 6).trans (congrArg (x_aload 6) ((xe_g0 (kk := 102) rfl tl_2_1).trans (congrArg (x_g0 102 1 0 399) ((xe_iastore).trans (congrArg (x_iastore) ((xe_iinc 3 1).trans (congrArg (x_iinc 3 1) ((xe_iload 4).trans (congrArg (x_iload 4) ((xe_iconst 3).trans (congrArg (x_iconst 3) ((xe_imul).trans (congrArg (x_imul) ((xe_istore 4).trans (congrArg (x_istore 4) ((xe_iinc 5 1).trans (congrArg (x_iinc 5 1) (xe_goto 13)))))))))))))))))))))))))
theorem bk_X9_countFirsts_0 : ck_ fX9 (some .int) cX9_countFirsts 0 [.aload 0, .aload 1] 2 = true := qck_r (nn_ _) (by decide +kernel)
theorem bs_X9_countFirsts_0 {P : Zt → Option Zv → Prop} (K : Int → Zl → List Zv → Zt → Prop) : sx_ K P [.aload 0, .aload 1] 2 = x_aload 0 (x_aload 1 (K 2)) := ((xe_aload 0).trans (congrArg (x_aload 0) ((xe_aload 1).trans (congrArg (x_aload 1) xe_nil))))
theorem fr5_X9_54 : fr5_ RX9 54 9 5 := ⟨_, _, _, rfl, by decide, by decide, (lwq_2 (dqc_m (List.mem_of_getElem? (i := 4) rfl)) rfl : Cond.fieldLink RX9 54 _ _ _ ∈ lw_g), rfl, fun a => ⟨.object "SportsHouse$Competition", by decide +kernel, rfl, rfl⟩⟩
theorem bk_X9_countFirsts_5 : ck_ fX9 (some .int) cX9_countFirsts 5 [.iconst 0, .istore 3, .iconst 1, .istore 4, .iconst 0, .istore 5] 13 = true := qck_r (nn_ _) (by decide +kernel)
theorem bs_X9_countFirsts_5 {P : Zt → Option Zv → Prop} (K : Int → Zl → List Zv → Zt → Prop) : sx_ K P [.iconst 0, .istore 3, .iconst 1, .istore 4, .iconst 0, .istore 5] 13 = x_iconst 0 (x_istore 3 (x_iconst 1 (x_istore 4 (x_iconst 0 (x_istore 5 (K 13)))))) := ((xe_iconst 0).trans (congrArg (x_iconst 0) ((xe_istore 3).trans (congrArg (x_istore 3) ((xe_iconst 1).trans (congrArg (x_iconst 1) ((xe_istore 4).trans (congrArg (x_istore 4) ((xe_iconst 0).trans (congrArg (x_iconst 0) ((xe_istore 5).trans (congrArg (x_istore 5) xe_nil))))))))))))
abbrev po_X9_countFirsts (T : Zt) (c : Int) (s : Int) : Zt → Option Zv → Prop := fun T' r => ∃ x : Int, r = some (vI x) ∧ fr_ [(109, [5]), (588, []), (107, [1, 13]), (542, []), (543, []), (544, []), (545, []), (546, []), (550, []), (551, []), (552, []), (549, []), (547, []), (548, [])] T T' ∧ (-1 ≤ x ∧ x ≤ 27)
set_option maxHeartbeats 4000000 in
theorem ct_X9_countFirsts {T : Zt} {c : Int} {s : Int} (hka : KA_ T) (hkm : KM_ T) (hkc : KC_ T) (hc : 0 ≤ c ∧ c < T 106 0 2) (hs : 0 ≤ s ∧ s ≤ 11) (hrk : T 401 c 4 ≤ 7) : Ct_ yX9_countFirsts zX9_countFirsts T [vR 109 0, vR 100 c, vI s] (po_X9_countFirsts T c s) := by
  refine ct_of pn_9 rfl rfl (Nat.le_of_ble_eq_true rfl) (fun hT hav => ?_)
  have hr_s : -2147483648 ≤ s ∧ s ≤ 2147483647 := hav (vI s) (List.mem_cons_of_mem _ (List.mem_cons_of_mem _ List.mem_cons_self))
  have hz : zX9_countFirsts.2.2.2.1 = some .boolean → ∀ (T' : Zt) (x : Int), po_X9_countFirsts T c s T' (some (vI x)) → 0 ≤ x ∧ x ≤ 1 := fun h => by cases h
  have hk2 := hkc c hc.1 hc.2
  have hb_matchCount : 0 ≤ T 106 0 4 ∧ T 106 0 4 ≤ 400 := bd_f hT 106 4 tl_6_4 0
  have hcc : 0 ≤ T 106 0 2 ∧ T 106 0 2 ≤ 4 := bd_f hT 106 2 tl_6_2 0
  have hfm : 0 ≤ T 100 c 7 ∧ T 100 c 7 ≤ 400 := bd_f hT 100 7 tl_0_7 c
  have hmc : 0 ≤ T 100 c 8 ∧ T 100 c 8 ≤ 400 := bd_f hT 100 8 tl_0_8 c
  show J_ zX9_countFirsts T (po_X9_countFirsts T c s) 0 0 0 [some (vR 109 0), some (vR 100 c), some (vI s), none, none, none, none] [] T
  have c_92 : ∀ (nn : Nat) (f : Int) (q : Int) (u : Int) (g : Int) (T2 : Zt), ((27 - g).toNat) ≤ nn → (fr_ [(109, [5]), (588, []), (107, [1, 13]), (542, []), (543, []), (544, []), (545, []), (546, []), (550, []), (551, []), (552, []), (549, []), (547, []), (548, [])] T T2) → (0 ≤ u ∧ u ≤ g ∧ g ≤ q ∧ ((f = 0 ∧ q = 1) ∨ (f = 1 ∧ q = 3) ∨ (f = 2 ∧ q = 9) ∨ (f = 3 ∧ q = 27))) → (T2 109 0 5 = c + 1) → (∀ j : Int, 0 ≤ j → j < f → 0 ≤ T2 588 0 j ∧ T2 588 0 j < T 106 0 4) → J_ zX9_countFirsts T (po_X9_countFirsts T c s) 0 0 92 [some (vR 109 0), some (vR 100 c), some (vI s), some (vI f), some (vI q), some (vI u), some (vI g)] [] T2 := by
    intro nn
    induction nn using Nat.strongRecOn with
    | _ nn ih_92 =>
      intro f q u g T2 hm_92 hf_92 i2 i4 op2
      replace hm_92 := fun (_ : Unit) => hm_92
      refine j_blx (F := fX9) tb_X9 (nn_ _) bk_X9_countFirsts_92 bs_X9_countFirsts_92 hz (fun K hK => ?_)
      refine And.intro (fun c1 => ?_) (fun c1 => ?_)
      · refine hK 119 _ [] T2 ?_
        refine j_blx (F := fX9) tb_X9 (nn_ _) bk_X9_countFirsts_119 bs_X9_countFirsts_119 hz (fun K hK => ?_)
        refine (show po_X9_countFirsts T c s T2 (some (vI u)) from ?_)
        exact ⟨_, rfl, fr_t (fr_0 _ _) (fr_s hf_92 rfl), by omega⟩
      · refine hK 104 _ [vI s, vI f, vI g, vR 109 0] T2 ?_
        have e2 : T2 106 0 2 = T 106 0 2 := hf_92 106 0 2 rfl
        have e3 : T2 106 0 4 = T 106 0 4 := hf_92 106 0 4 rfl
        have e4 : T2 401 c 4 = T 401 c 4 := hf_92 401 c 4 rfl
        have e5 : T2 106 0 2 = T 106 0 2 := hf_92 106 0 2 rfl
        have e6 : T2 106 0 4 = T 106 0 4 := hf_92 106 0 4 rfl
        refine j_callV (y := yX9_isFirstBy) (Yc := zX9_isFirstBy) (rest := []) [vI g, vI f, vI s] (ct_X9_isFirstBy (T := T2) (by exact KA__f (ws := [(109, [5]), (588, []), (107, [1, 13]), (542, []), (543, []), (544, []), (545, []), (546, []), (550, []), (551, []), (552, []), (549, []), (547, []), (548, [])]) hka (fr_t (fr_0 _ _) (fr_s hf_92 rfl)) ⟨fun _ => rfl, fun _ => rfl, rfl, rfl, trivial⟩) (by exact KC__f (ws := [(109, [5]), (588, []), (107, [1, 13]), (542, []), (543, []), (544, []), (545, []), (546, []), (550, []), (551, []), (552, []), (549, []), (547, []), (548, [])]) hkc (fr_t (fr_0 _ _) (fr_s hf_92 rfl)) ⟨rfl, rfl, rfl, rfl, trivial⟩) (by omega) (by omega) (by omega) (by intro j a b; have y := op2 j a b; omega) (by rw [show T2 109 0 5 - 1 = c by omega]; omega)) cl_X9_176 (qd_c (by decide +kernel)) (nn_ _) rfl (rf_of rfl) (Nat.le_of_ble_eq_true rfl) (Nat.le_of_ble_eq_true rfl) (Nat.le_of_ble_eq_true rfl) rfl ?_
        rintro U7 _ ⟨x8, rfl, fU7, qU7⟩
        show J_ zX9_countFirsts T (po_X9_countFirsts T c s) 0 0 107 _ [vI x8] U7
        refine j_blx (F := fX9) tb_X9 (nn_ _) bk_X9_countFirsts_107 bs_X9_countFirsts_107 hz (fun K hK => ?_)
        refine And.intro (fun c9 => ?_) (fun c9 => ?_)
        · refine hK 113 _ [] U7 ?_
          refine j_blx (F := fX9) tb_X9 (nn_ _) bk_X9_countFirsts_113 bs_X9_countFirsts_113 hz (fun K hK => ?_)
          refine rg_i (by omega) ?_
          refine hK 92 [some (vR 109 0), some (vR 100 c), some (vI s), some (vI f), some (vI q), some (vI u), some (vI (g + 1))] [] U7 ?_
          have e10 : U7 109 0 5 = T2 109 0 5 := fU7 109 0 5 rfl
          refine ih_92 _ ?_ f q u (g + 1) U7 (Nat.le_refl _) ?_ ?_ ?_ ?_
          · have hm_92 := hm_92 (); omega
          · exact fr_t (fr_t (fr_0 _ _) (fr_s hf_92 rfl)) (fr_s fU7 rfl)
          · omega
          · omega
          · intro j a b
            rw [fU7 588 0 j rfl]
            exact op2 j a b
        · refine rg_i (by omega) ?_
          refine rg_i (by omega) ?_
          refine hK 92 [some (vR 109 0), some (vR 100 c), some (vI s), some (vI f), some (vI q), some (vI (u + 1)), some (vI (g + 1))] [] U7 ?_
          have e11 : U7 109 0 5 = T2 109 0 5 := fU7 109 0 5 rfl
          refine ih_92 _ ?_ f q (u + 1) (g + 1) U7 (Nat.le_refl _) ?_ ?_ ?_ ?_
          · have hm_92 := hm_92 (); omega
          · exact fr_t (fr_t (fr_0 _ _) (fr_s hf_92 rfl)) (fr_s fU7 rfl)
          · omega
          · omega
          · intro j a b
            rw [fU7 588 0 j rfl]
            exact op2 j a b
  have c_13 : ∀ (nn : Nat) (f : Int) (q : Int) (k : Int) (T1 : Zt), ((T 100 c 8 - k).toNat) ≤ nn → (fr_ [(109, [5]), (588, [])] T T1) → (0 ≤ k ∧ k ≤ T 100 c 8 ∧ ((f = 0 ∧ q = 1) ∨ (f = 1 ∧ q = 3) ∨ (f = 2 ∧ q = 9) ∨ (f = 3 ∧ q = 27))) → (T1 109 0 5 = c + 1) → (∀ j : Int, 0 ≤ j → j < f → 0 ≤ T1 588 0 j ∧ T1 588 0 j < T 106 0 4) → J_ zX9_countFirsts T (po_X9_countFirsts T c s) 0 0 13 [some (vR 109 0), some (vR 100 c), some (vI s), some (vI f), some (vI q), some (vI k), none] [] T1 := by
    intro nn
    induction nn using Nat.strongRecOn with
    | _ nn ih_13 =>
      intro f q k T1 hm_13 hf_13 i1 i3 op1
      replace hm_13 := fun (_ : Unit) => hm_13
      refine j_blx (F := fX9) tb_X9 (nn_ _) bk_X9_countFirsts_13 bs_X9_countFirsts_13 hz (fun K hK => ?_)
      refine And.intro (fun c12 => ?_) (fun c12 => ?_)
      · exact absurd c12 (by omega)
      · have z13 : T1 109 0 5 - 1 = c := by omega
        rw [z13]
        intro b14 b14b
        have e15 : T1 100 c 8 = T 100 c 8 := hf_13 100 c 8 rfl
        rw [e15] at b14 b14b ⊢
        refine And.intro (fun c16 => ?_) (fun c16 => ?_)
        · refine hK 86 _ [] T1 ?_
          refine j_blx (F := fX9) tb_X9 (nn_ _) bk_X9_countFirsts_86 bs_X9_countFirsts_86 hz (fun K hK => ?_)
          refine hK 92 [some (vR 109 0), some (vR 100 c), some (vI s), some (vI f), some (vI q), some (vI 0), some (vI 0)] [] T1 ?_
          refine c_92 _ f q 0 0 T1 (Nat.le_refl _) ?_ ?_ ?_ ?_
          · exact fr_t (fr_0 _ _) (fr_s hf_13 rfl)
          · omega
          · omega
          · exact op1
        · refine And.intro (fun c17 => ?_) (fun c17 => ?_)
          · exact absurd c17 (by omega)
          · have z18 : T1 109 0 5 - 1 = c := by omega
            rw [z18]
            intro b19 b19b
            have e20 : T1 100 c 7 = T 100 c 7 := hf_13 100 c 7 rfl
            rw [e20] at b19 b19b ⊢
            refine rg_i (by omega) ?_
            refine ix_i (by omega) ?_
            have e22 : T1 523 0 ((T 100 c 7) + k) = T 523 0 ((T 100 c 7) + k) := hf_13 523 0 ((T 100 c 7) + k) rfl
            refine And.intro (fun c21 => ?_) (fun c21 => ?_)
            · exact absurd (show T 523 0 (T 100 c 7 + k) = 0 by omega) (hka.2 _ (by omega) (by omega))
            · refine hK 47 [some (vR 109 0), some (vR 100 c), some (vI s), some (vI f), some (vI q), some (vI k), some (vR 102 ((T 100 c 7) + k))] [vR 102 ((T 100 c 7) + k)] T1 ?_
              refine j_callV (y := yX2_isDecided) (Yc := zX2_isDecided) (rest := []) [] (ct_X2_isDecided (T := T1)) cl_X9_109 (qd_c (by decide +kernel)) (nn_ _) rfl (rf_of rfl) (Nat.le_of_ble_eq_true rfl) (Nat.le_of_ble_eq_true rfl) (Nat.le_of_ble_eq_true rfl) rfl ?_
              rintro _ _ ⟨rfl, x23, rfl, hx23⟩
              show J_ zX9_countFirsts T (po_X9_countFirsts T c s) 0 0 50 _ [vI x23] T1
              refine j_blx (F := fX9) tb_X9 (nn_ _) bk_X9_countFirsts_50 bs_X9_countFirsts_50 hz (fun K hK => ?_)
              refine And.intro (fun c24 => ?_) (fun c24 => ?_)
              · refine hK 80 _ [] T1 ?_
                refine j_blx (F := fX9) tb_X9 (nn_ _) bk_X9_countFirsts_80 bs_X9_countFirsts_80 hz (fun K hK => ?_)
                refine rg_i (by omega) ?_
                refine hK 13 [some (vR 109 0), some (vR 100 c), some (vI s), some (vI f), some (vI q), some (vI (k + 1)), some (vR 102 ((T 100 c 7) + k))] [] T1 ?_
                refine j_drop [some (vR 109 0), some (vR 100 c), some (vI s), some (vI f), some (vI q), some (vI (k + 1)), none] (fun k v hk => ?_) rfl ?_
                · match k, hk with
                  | 0, hk => exact hk
                  | 1, hk => exact hk
                  | 2, hk => exact hk
                  | 3, hk => exact hk
                  | 4, hk => exact hk
                  | 5, hk => exact hk
                  | 6, hk => cases hk
                  | k + 7, hk => cases hk
                refine ih_13 _ ?_ f q (k + 1) T1 (Nat.le_refl _) ?_ ?_ ?_ ?_
                · have hm_13 := hm_13 (); omega
                · exact fr_t (fr_0 _ _) (fr_s hf_13 rfl)
                · omega
                · omega
                · exact op1
              · refine And.intro (fun c25 => ?_) (fun c25 => ?_)
                · refine hK 60 [some (vR 109 0), some (vR 100 c), some (vI s), some (vI f), some (vI q), some (vI k), some (vR 102 ((T 100 c 7) + k))] [] T1 ?_
                  refine j_blx (F := fX9) tb_X9 (nn_ _) bk_X9_countFirsts_60 bs_X9_countFirsts_60 hz (fun K hK => ?_)
                  intro b26 b26b
                  have e27 : T1 102 ((T 100 c 7) + k) 1 = T 102 ((T 100 c 7) + k) 1 := hf_13 102 ((T 100 c 7) + k) 1 rfl
                  rw [e27] at b26 b26b ⊢
                  refine iy_i (by omega) (by omega) ?_
                  refine x_nm (fun U28 hU28 => ?_)
                  have e29 := up_f hU28
                  refine rg_i (by omega) ?_
                  refine rg_i (by omega) ?_
                  refine rg_i (by omega) ?_
                  refine hK 13 [some (vR 109 0), some (vR 100 c), some (vI s), some (vI (f + 1)), some (vI (q * 3)), some (vI (k + 1)), some (vR 102 ((T 100 c 7) + k))] [] U28 ?_
                  refine j_drop [some (vR 109 0), some (vR 100 c), some (vI s), some (vI (f + 1)), some (vI (q * 3)), some (vI (k + 1)), none] (fun k v hk => ?_) rfl ?_
                  · match k, hk with
                    | 0, hk => exact hk
                    | 1, hk => exact hk
                    | 2, hk => exact hk
                    | 3, hk => exact hk
                    | 4, hk => exact hk
                    | 5, hk => exact hk
                    | 6, hk => cases hk
                    | k + 7, hk => cases hk
                  have e30 : U28 109 0 5 = T1 109 0 5 := up_k hU28 (by exact Nat.ne_of_beq_eq_false rfl) 0 5
                  refine ih_13 _ ?_ (f + 1) (q * 3) (k + 1) U28 (Nat.le_refl _) ?_ ?_ ?_ ?_
                  · have hm_13 := hm_13 (); omega
                  · exact fr_u (fr_t (fr_0 _ _) (fr_s hf_13 rfl)) hU28 rfl
                  · omega
                  · omega
                  · intro j a b
                    by_cases z : j = f
                    · rw [z, up_f hU28]; have y := (hkm (T 100 c 7 + k) (by omega) (by omega)).1; omega
                    · rw [up_g hU28 (fun y => z y.2.2)]; exact op1 j a (by omega)
                · refine (show po_X9_countFirsts T c s T1 (some (vI (-1))) from ?_)
                  exact ⟨_, rfl, fr_t (fr_0 _ _) (fr_s hf_13 rfl), by omega⟩
  refine j_blx (F := fX9) tb_X9 (nn_ _) bk_X9_countFirsts_0 bs_X9_countFirsts_0 hz (fun K hK => ?_)
  refine hK 2 _ [vR 100 c, vR 109 0] T ?_
  refine j_putR (pc := 2) (ci := 9) (j := 5) (by decide) fr5_X9_54 rfl (by decide +kernel) (by omega) (by omega) (by omega) ?_
  refine j_nm (fun U31 hU31 => ?_)
  have e32 := up_f hU31
  show J_ zX9_countFirsts T (po_X9_countFirsts T c s) 0 0 5 _ [] U31
  refine j_blx (F := fX9) tb_X9 (nn_ _) bk_X9_countFirsts_5 bs_X9_countFirsts_5 hz (fun K hK => ?_)
  refine hK 13 [some (vR 109 0), some (vR 100 c), some (vI s), some (vI 0), some (vI 1), some (vI 0), none] [] U31 ?_
  have e33 : U31 109 0 5 = c + 1 := up_f hU31
  refine c_13 _ 0 1 0 U31 (Nat.le_refl _) ?_ ?_ ?_ ?_
  · exact fr_u (fr_0 _ _) hU31 rfl
  · omega
  · omega
  · intro j a b; omega
abbrev cX9_listOpen : ByteArray := prog_11_method_3_code
def yX9_listOpen : MethodName := ⟨RX9, "listOpen", "(II)Z"⟩
def zX9_listOpen : Zm := (RX9, cX9_listOpen, 5, (some .boolean), { frames := 2, cells := 0, slots := 0, locals := 40 })
theorem bk_X9_listOpen_7 : ck_ fX9 (some .boolean) cX9_listOpen 7 [.iload 3, .aload 0, .tableswitch 0 9 5 #[], .tableswitch 0 0 8 #[], .if_icmp .ge 124, .aload 0, .tableswitch 0 9 0 #[], .tableswitch 0 6 3 #[], .aload 0, .tableswitch 0 9 5 #[], .tableswitch 0 0 7 #[], .iload 3, .iadd, .aaload, .astore 4, .aload 4] 39 = true := qck_r (nn_ _) (by decide +kernel)
theorem bs_X9_listOpen_7 {P : Zt → Option Zv → Prop} (K : Int → Zl → List Zv → Zt → Prop) : sx_ K P [.iload 3, .aload 0, .tableswitch 0 9 5 #[], .tableswitch 0 0 8 #[], .if_icmp .ge 124, .aload 0, .tableswitch 0 9 0 #[], .tableswitch 0 6 3 #[], .aload 0, .tableswitch 0 9 5 #[], .tableswitch 0 0 7 #[], .iload 3, .iadd, .aaload, .astore 4, .aload 4] 39 = x_iload 3 (x_aload 0 (x_g5 109 100 5 (x_g0 100 8 0 400 (x_if_icmp .ge 124 K (x_aload 0 (x_g1 109 106 (x_g1 106 523 (x_aload 0 (x_g5 109 100 5 (x_g0 100 7 0 400 (x_iload 3 (x_iadd (x_aaload (x_astore 4 (x_aload 4 (K 39)))))))))))))))) := ((xe_iload 3).trans (congrArg (x_iload 3) ((xe_aload 0).trans (congrArg (x_aload 0) ((xe_g5 (kk := 109) rfl tl_9_5).trans (congrArg (x_g5 109 100 5) ((xe_g0 (kk := 100) rfl tl_0_8).trans (congrArg (x_g0 100 8 0 400) ((xe_if_icmp .ge 124).trans (congrArg (x_if_icmp .ge 124 K) ((xe_aload 0).trans (congrArg (x_aload 0) ((xe_g1 (kk := 109) rfl tl_9_0).trans (congrArg (x_g1 109 106) ((xe_g1 (kk := 106) rfl tl_6_3).trans (congrArg (x_g1 106 523) ((xe_aload 0).trans (congrArg (x_aload 0) ((xe_g5 (kk := 109) rfl tl_9_5).trans (congrArg (x_g5 109 100 5) ((xe_g0 (kk := 100) rfl tl_0_7).trans (congrArg (x_g0 100 7 0 400) ((xe_iload 3).trans (congrArg (x_iload 3) ((xe_iadd).trans (congrArg (x_iadd) ((xe_aaload).trans (congrArg (x_aaload) ((xe_astore 4).trans (congrArg (x_astore 4) ((xe_aload 4).trans (congrArg (x_aload 4) xe_nil))))))))))))))))))))))))))))))))
theorem bk_X9_listOpen_124 : ck_ fX9 (some .boolean) cX9_listOpen 124 [.iconst 1, .ireturn] 126 = true := qck_r (nn_ _) (by decide +kernel)
theorem bs_X9_listOpen_124 {P : Zt → Option Zv → Prop} (K : Int → Zl → List Zv → Zt → Prop) : sx_ K P [.iconst 1, .ireturn] 126 = x_iconst 1 (x_ireturn P) := ((xe_iconst 1).trans (congrArg (x_iconst 1) (xe_ireturn)))
theorem bk_X9_listOpen_42 : ck_ fX9 (some .boolean) cX9_listOpen 42 [.ifCond .eq 48, .goto 118] 48 = true := qck_r (nn_ _) (by decide +kernel)
theorem bs_X9_listOpen_42 {P : Zt → Option Zv → Prop} (K : Int → Zl → List Zv → Zt → Prop) : sx_ K P [.ifCond .eq 48, .goto 118] 48 = x_ifCond .eq 48 K (x_goto 118 K) := ((xe_ifCond .eq 48).trans (congrArg (x_ifCond .eq 48 K) (xe_goto 118)))
theorem bk_X9_listOpen_48 : ck_ fX9 (some .boolean) cX9_listOpen 48 [.aload 4, .iload 1] 51 = true := qck_r (nn_ _) (by decide +kernel)
theorem bs_X9_listOpen_48 {P : Zt → Option Zv → Prop} (K : Int → Zl → List Zv → Zt → Prop) : sx_ K P [.aload 4, .iload 1] 51 = x_aload 4 (x_iload 1 (K 51)) := ((xe_aload 4).trans (congrArg (x_aload 4) ((xe_iload 1).trans (congrArg (x_iload 1) xe_nil))))
theorem bk_X9_listOpen_54 : ck_ fX9 (some .boolean) cX9_listOpen 54 [.ifCond .eq 84, .aload 0, .tableswitch 0 9 4 #[], .aload 4, .tableswitch 0 2 1 #[], .aload 4, .tableswitch 0 2 3 #[], .iload 1, .if_icmp .ne 79, .iconst 0, .goto 80] 79 = true := qck_r (nn_ _) (by decide +kernel)
theorem bs_X9_listOpen_54 {P : Zt → Option Zv → Prop} (K : Int → Zl → List Zv → Zt → Prop) : sx_ K P [.ifCond .eq 84, .aload 0, .tableswitch 0 9 4 #[], .aload 4, .tableswitch 0 2 1 #[], .aload 4, .tableswitch 0 2 3 #[], .iload 1, .if_icmp .ne 79, .iconst 0, .goto 80] 79 = x_ifCond .eq 84 K (x_aload 0 (x_g1 109 584 (x_aload 4 (x_g0 102 1 0 399 (x_aload 4 (x_g0 102 3 0 11 (x_iload 1 (x_if_icmp .ne 79 K (x_iconst 0 (x_goto 80 K)))))))))) := ((xe_ifCond .eq 84).trans (congrArg (x_ifCond .eq 84 K) ((xe_aload 0).trans (congrArg (x_aload 0) ((xe_g1 (kk := 109) rfl tl_9_4).trans (congrArg (x_g1 109 584) ((xe_aload 4).trans (congrArg (x_aload 4) ((xe_g0 (kk := 102) rfl tl_2_1).trans (congrArg (x_g0 102 1 0 399) ((xe_aload 4).trans (congrArg (x_aload 4) ((xe_g0 (kk := 102) rfl tl_2_3).trans (congrArg (x_g0 102 3 0 11) ((xe_iload 1).trans (congrArg (x_iload 1) ((xe_if_icmp .ne 79).trans (congrArg (x_if_icmp .ne 79 K) ((xe_iconst 0).trans (congrArg (x_iconst 0) (xe_goto 80)))))))))))))))))))))
theorem bk_X9_listOpen_84 : ck_ fX9 (some .boolean) cX9_listOpen 84 [.aload 0, .tableswitch 0 9 9 #[], .iload 2, .if_icmp .lt 94, .iconst 0, .ireturn] 94 = true := qck_r (nn_ _) (by decide +kernel)
theorem bs_X9_listOpen_84 {P : Zt → Option Zv → Prop} (K : Int → Zl → List Zv → Zt → Prop) : sx_ K P [.aload 0, .tableswitch 0 9 9 #[], .iload 2, .if_icmp .lt 94, .iconst 0, .ireturn] 94 = x_aload 0 (x_g0 109 9 0 40 (x_iload 2 (x_if_icmp .lt 94 K (x_iconst 0 (x_ireturn P))))) := ((xe_aload 0).trans (congrArg (x_aload 0) ((xe_g0 (kk := 109) rfl tl_9_9).trans (congrArg (x_g0 109 9 0 40) ((xe_iload 2).trans (congrArg (x_iload 2) ((xe_if_icmp .lt 94).trans (congrArg (x_if_icmp .lt 94 K) ((xe_iconst 0).trans (congrArg (x_iconst 0) (xe_ireturn)))))))))))
theorem bk_X9_listOpen_94 : ck_ fX9 (some .boolean) cX9_listOpen 94 [.aload 0, .tableswitch 0 9 8 #[], .aload 0, .tableswitch 0 9 9 #[], .aload 4, .tableswitch 0 2 1 #[], .iastore, .aload 0, .dup, .tableswitch 0 9 9 #[], .iconst 1, .iadd, .tableswitch 1 9 9 #[], .iinc 3 1, .goto 7] 124 = true := qck_r (nn_ _) (by decide +kernel)
theorem bs_X9_listOpen_94 {P : Zt → Option Zv → Prop} (K : Int → Zl → List Zv → Zt → Prop) : sx_ K P [.aload 0, .tableswitch 0 9 8 #[], .aload 0, .tableswitch 0 9 9 #[], .aload 4, .tableswitch 0 2 1 #[], .iastore, .aload 0, .dup, .tableswitch 0 9 9 #[], .iconst 1, .iadd, .tableswitch 1 9 9 #[], .iinc 3 1, .goto 7] 124 = x_aload 0 (x_g1 109 588 (x_aload 0 (x_g0 109 9 0 40 (x_aload 4 (x_g0 102 1 0 399 (x_iastore (x_aload 0 (x_dup (x_g0 109 9 0 40 (x_iconst 1 (x_iadd (x_p 109 9 0 40 (x_iinc 3 1 (x_goto 7 K)))))))))))))) := ((xe_aload 0).trans (congrArg (x_aload 0) ((xe_g1 (kk := 109) rfl tl_9_8).trans (congrArg (x_g1 109 588) ((xe_aload 0).trans (congrArg (x_aload 0) ((xe_g0 (kk := 109) rfl tl_9_9).trans (congrArg (x_g0 109 9 0 40) ((xe_aload 4).trans (congrArg (x_aload 4) ((xe_g0 (kk := 102) rfl tl_2_1).trans (congrArg (x_g0 102 1 0 399) ((xe_iastore).trans (congrArg (x_iastore) ((xe_aload 0).trans (congrArg (x_aload 0) ((xe_dup).trans (congrArg (x_dup) ((xe_g0 (kk := 109) rfl tl_9_9).trans (congrArg (x_g0 109 9 0 40) ((xe_iconst 1).trans (congrArg (x_iconst 1) ((xe_iadd).trans (congrArg (x_iadd) ((xe_p (kk := 109) rfl tl_9_9).trans (congrArg (x_p 109 9 0 40) ((xe_iinc 3 1).trans (congrArg (x_iinc 3 1) (xe_goto 7)))))))))))))))))))))))))))))
theorem bk_X9_listOpen_79 : ck_ fX9 (some .boolean) cX9_listOpen 79 [.iconst 2, .iastore, .goto 118] 84 = true := qck_r (nn_ _) (by decide +kernel)
theorem bs_X9_listOpen_79 {P : Zt → Option Zv → Prop} (K : Int → Zl → List Zv → Zt → Prop) : sx_ K P [.iconst 2, .iastore, .goto 118] 84 = x_iconst 2 (x_iastore (x_goto 118 K)) := ((xe_iconst 2).trans (congrArg (x_iconst 2) ((xe_iastore).trans (congrArg (x_iastore) (xe_goto 118)))))
theorem bk_X9_listOpen_118 : ck_ fX9 (some .boolean) cX9_listOpen 118 [.iinc 3 1, .goto 7] 124 = true := qck_r (nn_ _) (by decide +kernel)
theorem bs_X9_listOpen_118 {P : Zt → Option Zv → Prop} (K : Int → Zl → List Zv → Zt → Prop) : sx_ K P [.iinc 3 1, .goto 7] 124 = x_iinc 3 1 (x_goto 7 K) := ((xe_iinc 3 1).trans (congrArg (x_iinc 3 1) (xe_goto 7)))
theorem bk_X9_listOpen_80 : ck_ fX9 (some .boolean) cX9_listOpen 80 [.iastore, .goto 118] 84 = true := qck_r (nn_ _) (by decide +kernel)
theorem bs_X9_listOpen_80 {P : Zt → Option Zv → Prop} (K : Int → Zl → List Zv → Zt → Prop) : sx_ K P [.iastore, .goto 118] 84 = x_iastore (x_goto 118 K) := ((xe_iastore).trans (congrArg (x_iastore) (xe_goto 118)))
theorem bk_X9_listOpen_0 : ck_ fX9 (some .boolean) cX9_listOpen 0 [.aload 0, .iconst 0, .tableswitch 1 9 9 #[], .iconst 0, .istore 3] 7 = true := qck_r (nn_ _) (by decide +kernel)
theorem bs_X9_listOpen_0 {P : Zt → Option Zv → Prop} (K : Int → Zl → List Zv → Zt → Prop) : sx_ K P [.aload 0, .iconst 0, .tableswitch 1 9 9 #[], .iconst 0, .istore 3] 7 = x_aload 0 (x_iconst 0 (x_p 109 9 0 40 (x_iconst 0 (x_istore 3 (K 7))))) := ((xe_aload 0).trans (congrArg (x_aload 0) ((xe_iconst 0).trans (congrArg (x_iconst 0) ((xe_p (kk := 109) rfl tl_9_9).trans (congrArg (x_p 109 9 0 40) ((xe_iconst 0).trans (congrArg (x_iconst 0) ((xe_istore 3).trans (congrArg (x_istore 3) xe_nil))))))))))
abbrev po_X9_listOpen (T : Zt) (b n : Int) : Zt → Option Zv → Prop := fun T' r => ∃ x : Int, r = some (vI x) ∧ fr_ [(109, [9]), (584, []), (588, [])] T T' ∧ ((0 ≤ x ∧ x ≤ 1) ∧ ∀ j : Int, 0 ≤ j → j < T' 109 0 9 → T 100 (T 109 0 5 - 1) 7 ≤ T' 588 0 j ∧ T' 588 0 j < T 100 (T 109 0 5 - 1) 7 + T 100 (T 109 0 5 - 1) 8)
set_option maxHeartbeats 4000000 in
theorem ct_X9_listOpen {T : Zt} {b n : Int} (hka : KA_ T) (hkm : KM_ T) (hkc : KC_ T) (hc9 : 1 ≤ T 109 0 5 ∧ T 109 0 5 ≤ T 106 0 2) (hn : n ≤ 40) : Ct_ yX9_listOpen zX9_listOpen T [vR 109 0, vI b, vI n] (po_X9_listOpen T b n) := by
  refine ct_of pn_9 rfl rfl (Nat.le_of_ble_eq_true rfl) (fun hT hav => ?_)
  have hr_b : -2147483648 ≤ b ∧ b ≤ 2147483647 := hav (vI b) (List.mem_cons_of_mem _ List.mem_cons_self)
  have hr_n : -2147483648 ≤ n ∧ n ≤ 2147483647 := hav (vI n) (List.mem_cons_of_mem _ (List.mem_cons_of_mem _ List.mem_cons_self))
  have hz : zX9_listOpen.2.2.2.1 = some .boolean → ∀ (T' : Zt) (x : Int), po_X9_listOpen T b n T' (some (vI x)) → 0 ≤ x ∧ x ≤ 1 := fun _ T' x h => by obtain ⟨y, e, -, hy, -⟩ := h; cases e; omega
  have hk2 := hkc (T 109 0 5 - 1) (by omega) (by omega)
  have hb_matchCount : 0 ≤ T 106 0 4 ∧ T 106 0 4 ≤ 400 := bd_f hT 106 4 tl_6_4 0
  have hfm : 0 ≤ T 100 (T 109 0 5 - 1) 7 ∧ T 100 (T 109 0 5 - 1) 7 ≤ 400 := bd_f hT 100 7 tl_0_7 (T 109 0 5 - 1)
  have hmc : 0 ≤ T 100 (T 109 0 5 - 1) 8 ∧ T 100 (T 109 0 5 - 1) 8 ≤ 400 := bd_f hT 100 8 tl_0_8 (T 109 0 5 - 1)
  show J_ zX9_listOpen T (po_X9_listOpen T b n) 0 0 0 [some (vR 109 0), some (vI b), some (vI n), none, none] [] T
  have c_7 : ∀ (nn : Nat) (k : Int) (T1 : Zt), ((T 100 (T 109 0 5 - 1) 8 - k).toNat) ≤ nn → (fr_ [(109, [9]), (584, []), (588, [])] T T1) → (0 ≤ k ∧ k ≤ T 100 (T 109 0 5 - 1) 8 ∧ 0 ≤ T1 109 0 9 ∧ T1 109 0 9 ≤ 40) → (∀ j : Int, 0 ≤ j → j < T1 109 0 9 → T 100 (T 109 0 5 - 1) 7 ≤ T1 588 0 j ∧ T1 588 0 j < T 100 (T 109 0 5 - 1) 7 + T 100 (T 109 0 5 - 1) 8) → J_ zX9_listOpen T (po_X9_listOpen T b n) 0 0 7 [some (vR 109 0), some (vI b), some (vI n), some (vI k), none] [] T1 := by
    intro nn
    induction nn using Nat.strongRecOn with
    | _ nn ih_7 =>
      intro k T1 hm_7 hf_7 i1 ol1
      replace hm_7 := fun (_ : Unit) => hm_7
      refine j_blx (F := fX9) tb_X9 (nn_ _) bk_X9_listOpen_7 bs_X9_listOpen_7 hz (fun K hK => ?_)
      have e2 : T1 109 0 5 = T 109 0 5 := hf_7 109 0 5 rfl
      refine And.intro (fun c1 => ?_) (fun c1 => ?_)
      · exact absurd c1 (by omega)
      · intro b3 b3b
        have e4 : T1 100 (T 109 0 5 - 1) 8 = T 100 (T 109 0 5 - 1) 8 := hf_7 100 (T 109 0 5 - 1) 8 rfl
        have e5 : T1 100 (T1 109 0 5 - 1) 8 = T 100 (T 109 0 5 - 1) 8 := by rw [e2]; exact e4
        rw [e5] at b3 b3b ⊢
        refine And.intro (fun c6 => ?_) (fun c6 => ?_)
        · refine hK 124 _ [] T1 ?_
          refine j_blx (F := fX9) tb_X9 (nn_ _) bk_X9_listOpen_124 bs_X9_listOpen_124 hz (fun K hK => ?_)
          refine (show po_X9_listOpen T b n T1 (some (vI 1)) from ?_)
          exact ⟨_, rfl, fr_t (fr_0 _ _) (fr_s hf_7 rfl), ⟨by omega, by omega⟩, ol1⟩
        · have e8 : T1 109 0 5 = T 109 0 5 := hf_7 109 0 5 rfl
          refine And.intro (fun c7 => ?_) (fun c7 => ?_)
          · exact absurd c7 (by omega)
          · intro b9 b9b
            have e10 : T1 100 (T 109 0 5 - 1) 7 = T 100 (T 109 0 5 - 1) 7 := hf_7 100 (T 109 0 5 - 1) 7 rfl
            have e11 : T1 100 (T1 109 0 5 - 1) 7 = T 100 (T 109 0 5 - 1) 7 := by rw [e8]; exact e10
            rw [e11] at b9 b9b ⊢
            refine rg_i (by omega) ?_
            refine ix_i (by omega) ?_
            have e13 : T1 523 0 ((T 100 (T 109 0 5 - 1) 7) + k) = T 523 0 ((T 100 (T 109 0 5 - 1) 7) + k) := hf_7 523 0 ((T 100 (T 109 0 5 - 1) 7) + k) rfl
            refine And.intro (fun c12 => ?_) (fun c12 => ?_)
            · exact absurd (show T 523 0 (T 100 (T 109 0 5 - 1) 7 + k) = 0 by omega) (hka.2 _ (by omega) (by omega))
            · refine hK 39 [some (vR 109 0), some (vI b), some (vI n), some (vI k), some (vR 102 ((T 100 (T 109 0 5 - 1) 7) + k))] [vR 102 ((T 100 (T 109 0 5 - 1) 7) + k)] T1 ?_
              refine j_callV (y := yX2_isDecided) (Yc := zX2_isDecided) (rest := []) [] (ct_X2_isDecided (T := T1)) cl_X9_109 (qd_c (by decide +kernel)) (nn_ _) rfl (rf_of rfl) (Nat.le_of_ble_eq_true rfl) (Nat.le_of_ble_eq_true rfl) (Nat.le_of_ble_eq_true rfl) rfl ?_
              rintro _ _ ⟨rfl, x14, rfl, hx14⟩
              show J_ zX9_listOpen T (po_X9_listOpen T b n) 0 0 42 _ [vI x14] T1
              refine j_blx (F := fX9) tb_X9 (nn_ _) bk_X9_listOpen_42 bs_X9_listOpen_42 hz (fun K hK => ?_)
              refine And.intro (fun c15 => ?_) (fun c15 => ?_)
              · refine hK 48 _ [] T1 ?_
                refine j_blx (F := fX9) tb_X9 (nn_ _) bk_X9_listOpen_48 bs_X9_listOpen_48 hz (fun K hK => ?_)
                refine hK 51 _ [vI b, vR 102 ((T 100 (T 109 0 5 - 1) 7) + k)] T1 ?_
                refine j_callV (y := yX2_has) (Yc := zX2_has) (rest := []) [vI b] (ct_X2_has (T := T1)) cl_X9_115 (qd_c (by decide +kernel)) (nn_ _) rfl (rf_of rfl) (Nat.le_of_ble_eq_true rfl) (Nat.le_of_ble_eq_true rfl) (Nat.le_of_ble_eq_true rfl) rfl ?_
                rintro _ _ ⟨rfl, x16, rfl, hx16⟩
                show J_ zX9_listOpen T (po_X9_listOpen T b n) 0 0 54 _ [vI x16] T1
                refine j_blx (F := fX9) tb_X9 (nn_ _) bk_X9_listOpen_54 bs_X9_listOpen_54 hz (fun K hK => ?_)
                refine And.intro (fun c17 => ?_) (fun c17 => ?_)
                · refine hK 84 _ [] T1 ?_
                  refine j_blx (F := fX9) tb_X9 (nn_ _) bk_X9_listOpen_84 bs_X9_listOpen_84 hz (fun K hK => ?_)
                  intro b18 b18b
                  refine And.intro (fun c19 => ?_) (fun c19 => ?_)
                  · refine hK 94 _ [] T1 ?_
                    refine j_blx (F := fX9) tb_X9 (nn_ _) bk_X9_listOpen_94 bs_X9_listOpen_94 hz (fun K hK => ?_)
                    intro b20 b20b
                    intro b21 b21b
                    have e22 : T1 102 ((T 100 (T 109 0 5 - 1) 7) + k) 1 = T 102 ((T 100 (T 109 0 5 - 1) 7) + k) 1 := hf_7 102 ((T 100 (T 109 0 5 - 1) 7) + k) 1 rfl
                    rw [e22] at b21 b21b ⊢
                    refine iy_i (by omega) (by omega) ?_
                    refine x_nm (fun U23 hU23 => ?_)
                    have e24 := up_f hU23
                    intro b25 b25b
                    have e26 : U23 109 0 9 = T1 109 0 9 := up_k hU23 (by exact Nat.ne_of_beq_eq_false rfl) 0 9
                    rw [e26] at b25 b25b ⊢
                    refine rg_i (by omega) ?_
                    refine bd_i (by omega) ?_
                    refine x_nm (fun U27 hU27 => ?_)
                    have e28 := up_f hU27
                    refine rg_i (by omega) ?_
                    refine hK 7 [some (vR 109 0), some (vI b), some (vI n), some (vI (k + 1)), some (vR 102 ((T 100 (T 109 0 5 - 1) 7) + k))] [] U27 ?_
                    refine j_drop [some (vR 109 0), some (vI b), some (vI n), some (vI (k + 1)), none] (fun k v hk => ?_) rfl ?_
                    · match k, hk with
                      | 0, hk => exact hk
                      | 1, hk => exact hk
                      | 2, hk => exact hk
                      | 3, hk => exact hk
                      | 4, hk => cases hk
                      | k + 5, hk => cases hk
                    have e29 : U27 109 0 9 = (T1 109 0 9) + 1 := up_f hU27
                    refine ih_7 _ ?_ (k + 1) U27 (Nat.le_refl _) ?_ ?_ ?_
                    · have hm_7 := hm_7 (); omega
                    · exact fr_u (fr_u (fr_t (fr_0 _ _) (fr_s hf_7 rfl)) hU23 rfl) hU27 rfl
                    · omega
                    · intro j a b
                      rw [up_k hU27 (by exact Nat.ne_of_beq_eq_false rfl) 0 j]
                      by_cases z : j = T1 109 0 9
                      · rw [z, up_f hU23]; have y := (hkm (T 100 (T 109 0 5 - 1) 7 + k) (by omega) (by omega)).1; omega
                      · rw [up_g hU23 (fun y => z y.2.2)]; exact ol1 j a (by omega)
                  · refine (show po_X9_listOpen T b n T1 (some (vI 0)) from ?_)
                    exact ⟨_, rfl, fr_t (fr_0 _ _) (fr_s hf_7 rfl), ⟨by omega, by omega⟩, ol1⟩
                · intro b30 b30b
                  have e31 : T1 102 ((T 100 (T 109 0 5 - 1) 7) + k) 1 = T 102 ((T 100 (T 109 0 5 - 1) 7) + k) 1 := hf_7 102 ((T 100 (T 109 0 5 - 1) 7) + k) 1 rfl
                  rw [e31] at b30 b30b ⊢
                  intro b32 b32b
                  have e33 : T1 102 ((T 100 (T 109 0 5 - 1) 7) + k) 3 = T 102 ((T 100 (T 109 0 5 - 1) 7) + k) 3 := hf_7 102 ((T 100 (T 109 0 5 - 1) 7) + k) 3 rfl
                  rw [e33] at b32 b32b ⊢
                  refine And.intro (fun c34 => ?_) (fun c34 => ?_)
                  · refine hK 79 _ [vI (T 102 ((T 100 (T 109 0 5 - 1) 7) + k) 1), vR 584 0] T1 ?_
                    refine j_blx (F := fX9) tb_X9 (nn_ _) bk_X9_listOpen_79 bs_X9_listOpen_79 hz (fun K hK => ?_)
                    refine iy_i (by omega) (by omega) ?_
                    refine x_nm (fun U35 hU35 => ?_)
                    have e36 := up_f hU35
                    refine hK 118 _ [] U35 ?_
                    refine j_blx (F := fX9) tb_X9 (nn_ _) bk_X9_listOpen_118 bs_X9_listOpen_118 hz (fun K hK => ?_)
                    refine rg_i (by omega) ?_
                    refine hK 7 [some (vR 109 0), some (vI b), some (vI n), some (vI (k + 1)), some (vR 102 ((T 100 (T 109 0 5 - 1) 7) + k))] [] U35 ?_
                    refine j_drop [some (vR 109 0), some (vI b), some (vI n), some (vI (k + 1)), none] (fun k v hk => ?_) rfl ?_
                    · match k, hk with
                      | 0, hk => exact hk
                      | 1, hk => exact hk
                      | 2, hk => exact hk
                      | 3, hk => exact hk
                      | 4, hk => cases hk
                      | k + 5, hk => cases hk
                    have e37 : U35 109 0 9 = T1 109 0 9 := up_k hU35 (by exact Nat.ne_of_beq_eq_false rfl) 0 9
                    refine ih_7 _ ?_ (k + 1) U35 (Nat.le_refl _) ?_ ?_ ?_
                    · have hm_7 := hm_7 (); omega
                    · exact fr_u (fr_t (fr_0 _ _) (fr_s hf_7 rfl)) hU35 rfl
                    · omega
                    · intro j a b
                      rw [up_k hU35 (by exact Nat.ne_of_beq_eq_false rfl) 0 j]
                      exact ol1 j a (by have y := up_k hU35 (by decide : (109 : Nat) ≠ 584) 0 9; omega)
                  · refine hK 80 [some (vR 109 0), some (vI b), some (vI n), some (vI k), some (vR 102 ((T 100 (T 109 0 5 - 1) 7) + k))] [vI 0, vI (T 102 ((T 100 (T 109 0 5 - 1) 7) + k) 1), vR 584 0] T1 ?_
                    refine j_blx (F := fX9) tb_X9 (nn_ _) bk_X9_listOpen_80 bs_X9_listOpen_80 hz (fun K hK => ?_)
                    refine iy_i (by omega) (by omega) ?_
                    refine x_nm (fun U38 hU38 => ?_)
                    have e39 := up_f hU38
                    refine hK 118 _ [] U38 ?_
                    refine j_blx (F := fX9) tb_X9 (nn_ _) bk_X9_listOpen_118 bs_X9_listOpen_118 hz (fun K hK => ?_)
                    refine rg_i (by omega) ?_
                    refine hK 7 [some (vR 109 0), some (vI b), some (vI n), some (vI (k + 1)), some (vR 102 ((T 100 (T 109 0 5 - 1) 7) + k))] [] U38 ?_
                    refine j_drop [some (vR 109 0), some (vI b), some (vI n), some (vI (k + 1)), none] (fun k v hk => ?_) rfl ?_
                    · match k, hk with
                      | 0, hk => exact hk
                      | 1, hk => exact hk
                      | 2, hk => exact hk
                      | 3, hk => exact hk
                      | 4, hk => cases hk
                      | k + 5, hk => cases hk
                    have e40 : U38 109 0 9 = T1 109 0 9 := up_k hU38 (by exact Nat.ne_of_beq_eq_false rfl) 0 9
                    refine ih_7 _ ?_ (k + 1) U38 (Nat.le_refl _) ?_ ?_ ?_
                    · have hm_7 := hm_7 (); omega
                    · exact fr_u (fr_t (fr_0 _ _) (fr_s hf_7 rfl)) hU38 rfl
                    · omega
                    · intro j a b
                      rw [up_k hU38 (by exact Nat.ne_of_beq_eq_false rfl) 0 j]
                      exact ol1 j a (by have y := up_k hU38 (by decide : (109 : Nat) ≠ 584) 0 9; omega)
              · refine hK 118 _ [] T1 ?_
                refine j_blx (F := fX9) tb_X9 (nn_ _) bk_X9_listOpen_118 bs_X9_listOpen_118 hz (fun K hK => ?_)
                refine rg_i (by omega) ?_
                refine hK 7 [some (vR 109 0), some (vI b), some (vI n), some (vI (k + 1)), some (vR 102 ((T 100 (T 109 0 5 - 1) 7) + k))] [] T1 ?_
                refine j_drop [some (vR 109 0), some (vI b), some (vI n), some (vI (k + 1)), none] (fun k v hk => ?_) rfl ?_
                · match k, hk with
                  | 0, hk => exact hk
                  | 1, hk => exact hk
                  | 2, hk => exact hk
                  | 3, hk => exact hk
                  | 4, hk => cases hk
                  | k + 5, hk => cases hk
                refine ih_7 _ ?_ (k + 1) T1 (Nat.le_refl _) ?_ ?_ ?_
                · have hm_7 := hm_7 (); omega
                · exact fr_t (fr_0 _ _) (fr_s hf_7 rfl)
                · omega
                · exact ol1
  refine j_blx (F := fX9) tb_X9 (nn_ _) bk_X9_listOpen_0 bs_X9_listOpen_0 hz (fun K hK => ?_)
  refine bd_i (by omega) ?_
  refine x_nm (fun U41 hU41 => ?_)
  have e42 := up_f hU41
  refine hK 7 [some (vR 109 0), some (vI b), some (vI n), some (vI 0), none] [] U41 ?_
  have e43 : U41 109 0 9 = 0 := up_f hU41
  refine c_7 _ 0 U41 (Nat.le_refl _) ?_ ?_ ?_
  · exact fr_u (fr_0 _ _) hU41 rfl
  · omega
  · intro j a b; omega
