def KS_ (T : Zt) : Prop := ∀ c : Int, 0 ≤ c → c < T 106 0 2 → ∀ m : Int, T 100 c 7 ≤ m → m < T 100 c 7 + T 100 c 8 → T 102 m 0 = c ∧ 0 ≤ T 404 c (T 102 m 3) ∧ 0 ≤ T 404 c (T 102 m 4)
theorem KS__f {ws : List (Nat × List Int)} {T T' : Zt} (h : KS_ T) (f : fr_ ws T T') (w : (∀ j, fw_ ws 404 j = false) ∧ fw_ ws 100 7 = false ∧ fw_ ws 100 8 = false ∧ fw_ ws 102 0 = false ∧ fw_ ws 102 3 = false ∧ fw_ ws 102 4 = false ∧ fw_ ws 106 2 = false ∧ True) : KS_ T' := by
  have e0 : ∀ i j, T' 404 i j = T 404 i j := fun i j => f 404 i j (w.1 j)
  have e1 : ∀ i, T' 100 i 7 = T 100 i 7 := fun i => f 100 i 7 w.2.1
  have e2 : ∀ i, T' 100 i 8 = T 100 i 8 := fun i => f 100 i 8 w.2.2.1
  have e3 : ∀ i, T' 102 i 0 = T 102 i 0 := fun i => f 102 i 0 w.2.2.2.1
  have e4 : ∀ i, T' 102 i 3 = T 102 i 3 := fun i => f 102 i 3 w.2.2.2.2.1
  have e5 : ∀ i, T' 102 i 4 = T 102 i 4 := fun i => f 102 i 4 w.2.2.2.2.2.1
  have e6 : ∀ i, T' 106 i 2 = T 106 i 2 := fun i => f 106 i 2 w.2.2.2.2.2.2.1
  simp only [KS_, e0, e1, e2, e3, e4, e5, e6] at h ⊢
  exact h
abbrev cX9_takePoints : ByteArray := prog_11_method_4_code
def yX9_takePoints : MethodName := ⟨RX9, "takePoints", "(I)V"⟩
def zX9_takePoints : Zm := (RX9, cX9_takePoints, 6, none, { frames := 3, cells := 0, slots := 0, locals := 76 })
theorem bk_X9_takePoints_56 : ck_ fX9 none cX9_takePoints 56 [.iload 2, .aload 0, .tableswitch 0 9 5 #[], .tableswitch 0 0 8 #[], .if_icmp .ge 190, .aload 0, .tableswitch 0 9 0 #[], .tableswitch 0 6 3 #[], .aload 0, .tableswitch 0 9 5 #[], .tableswitch 0 0 7 #[], .iload 2, .iadd, .aaload, .astore 3, .aload 0, .tableswitch 0 9 4 #[], .aload 3, .tableswitch 0 2 1 #[], .iaload, .iconst (-1), .if_icmp .eq 184, .aload 0, .tableswitch 0 9 5 #[], .tableswitch 0 0 4 #[], .aload 3, .tableswitch 0 2 3 #[], .iaload, .istore 4, .aload 0, .tableswitch 0 9 5 #[], .tableswitch 0 0 4 #[], .aload 3, .tableswitch 0 2 4 #[], .iaload, .istore 5, .aload 0, .tableswitch 0 9 7 #[], .iload 4, .dup2, .iaload, .aload 0, .tableswitch 0 9 5 #[], .tableswitch 0 0 1 #[], .iload 4, .iload 1, .if_icmp .ne 151, .iconst 1, .goto 152] 151 = true := qck_r (by decide) (by decide +kernel)
theorem bs_X9_takePoints_56 {P : Zt → Option Zv → Prop} (K : Int → Zl → List Zv → Zt → Prop) : sx_ K P [.iload 2, .aload 0, .tableswitch 0 9 5 #[], .tableswitch 0 0 8 #[], .if_icmp .ge 190, .aload 0, .tableswitch 0 9 0 #[], .tableswitch 0 6 3 #[], .aload 0, .tableswitch 0 9 5 #[], .tableswitch 0 0 7 #[], .iload 2, .iadd, .aaload, .astore 3, .aload 0, .tableswitch 0 9 4 #[], .aload 3, .tableswitch 0 2 1 #[], .iaload, .iconst (-1), .if_icmp .eq 184, .aload 0, .tableswitch 0 9 5 #[], .tableswitch 0 0 4 #[], .aload 3, .tableswitch 0 2 3 #[], .iaload, .istore 4, .aload 0, .tableswitch 0 9 5 #[], .tableswitch 0 0 4 #[], .aload 3, .tableswitch 0 2 4 #[], .iaload, .istore 5, .aload 0, .tableswitch 0 9 7 #[], .iload 4, .dup2, .iaload, .aload 0, .tableswitch 0 9 5 #[], .tableswitch 0 0 1 #[], .iload 4, .iload 1, .if_icmp .ne 151, .iconst 1, .goto 152] 151 = x_iload 2 (x_aload 0 (x_g5 109 100 5 (x_g0 100 8 0 400 (x_if_icmp .ge 190 K (x_aload 0 (x_g1 109 106 (x_g1 106 523 (x_aload 0 (x_g5 109 100 5 (x_g0 100 7 0 400 (x_iload 2 (x_iadd (x_aaload (x_astore 3 (x_aload 0 (x_g1 109 584 (x_aload 3 (x_g0 102 1 0 399 (x_iaload (x_iconst (-1) (x_if_icmp .eq 184 K (x_aload 0 (x_g5 109 100 5 (x_g2 100 404 (x_aload 3 (x_g0 102 3 0 11 (x_iaload (x_istore 4 (x_aload 0 (x_g5 109 100 5 (x_g2 100 404 (x_aload 3 (x_g0 102 4 0 11 (x_iaload (x_istore 5 (x_aload 0 (x_g1 109 587 (x_iload 4 (x_dup2 (x_iaload (x_aload 0 (x_g5 109 100 5 (x_g2 100 401 (x_iload 4 (x_iload 1 (x_if_icmp .ne 151 K (x_iconst 1 (x_goto 152 K)))))))))))))))))))))))))))))))))))))))))))))))) := ((xe_iload 2).trans (congrArg (x_iload 2) ((xe_aload 0).trans (congrArg (x_aload 0) ((xe_g5 (kk := 109) rfl tl_9_5).trans (congrArg (x_g5 109 100 5) ((xe_g0 (kk := 100) rfl tl_0_8).trans (congrArg (x_g0 100 8 0 400) ((xe_if_icmp .ge 190).trans (congrArg (x_if_icmp .ge 190 K) ((xe_aload 0).trans (congrArg (x_aload 0) ((xe_g1 (kk := 109) rfl tl_9_0).trans (congrArg (x_g1 109 106) ((xe_g1 (kk := 106) rfl tl_6_3).trans (congrArg (x_g1 106 523) ((xe_aload 0).trans (congrArg (x_aload 0) ((xe_g5 (kk := 109) rfl tl_9_5).trans (congrArg (x_g5 109 100 5) ((xe_g0 (kk := 100) rfl tl_0_7).trans (congrArg (x_g0 100 7 0 400) ((xe_iload 2).trans (congrArg (x_iload 2) ((xe_iadd).trans (congrArg (x_iadd) ((xe_aaload).trans (congrArg (x_aaload) ((xe_astore 3).trans (congrArg (x_astore 3) ((xe_aload 0).trans (congrArg (x_aload 0) ((xe_g1 (kk := 109) rfl tl_9_4).trans (congrArg (x_g1 109 584) ((xe_aload 3).trans (congrArg (x_aload 3) ((xe_g0 (kk := 102) rfl tl_2_1).trans (congrArg (x_g0 102 1 0 399) ((xe_iaload).trans (congrArg (x_iaload) ((xe_iconst (-1)).trans (congrArg (x_iconst (-1)) ((xe_if_icmp .eq 184).trans (congrArg (x_if_icmp .eq 184 K) ((xe_aload 0).trans (congrArg (x_aload 0) ((xe_g5 (kk := 109) rfl tl_9_5).trans (congrArg (x_g5 109 100 5) ((xe_g2 (kk := 100) rfl tl_0_4).trans (congrArg (x_g2 100 404) ((xe_aload 3).trans (congrArg (x_aload 3) ((xe_g0 (kk := 102) rfl tl_2_3).trans (congrArg (x_g0 102 3 0 11) ((xe_iaload).trans (congrArg (x_iaload) ((xe_istore 4).trans (congrArg (x_istore 4) ((xe_aload 0).trans (congrArg (x_aload 0) ((xe_g5 (kk := 109) rfl tl_9_5).trans (congrArg (x_g5 109 100 5) ((xe_g2 (kk := 100) rfl tl_0_4).trans (congrArg (x_g2 100 404) ((xe_aload 3).trans (congrArg (x_aload 3) ((xe_g0 (kk := 102) rfl tl_2_4).trans (congrArg (x_g0 102 4 0 11) ((xe_iaload).trans (congrArg (x_iaload) ((xe_istore 5).trans (congrArg (x_istore 5) ((xe_aload 0).trans (congrArg (x_aload 0) ((xe_g1 (kk := 109) rfl tl_9_7).trans (congrArg (x_g1 109 587) ((xe_iload 4).trans (congrArg (x_iload 4) ((xe_dup2).trans (congrArg (x_dup2) ((xe_iaload).trans (congrArg (x_iaload) ((xe_aload 0).trans (congrArg (x_aload 0) ((xe_g5 (kk := 109) rfl tl_9_5).trans (congrArg (x_g5 109 100 5) ((xe_g2 (kk := 100) rfl tl_0_1).trans (congrArg (x_g2 100 401) ((xe_iload 4).trans (congrArg (x_iload 4) ((xe_iload 1).trans (congrArg (x_iload 1) ((xe_if_icmp .ne 151).trans (congrArg (x_if_icmp .ne 151 K) ((xe_iconst 1).trans (congrArg (x_iconst 1) (xe_goto 152)))))))))))))))))))))))))))))))))))))))))))))))))))))))))))))))))))))))))))))))))))))))))))))))))
theorem bk_X9_takePoints_190 : ck_ fX9 none cX9_takePoints 190 [.aload 0, .aload 0, .tableswitch 0 9 7 #[], .iload 1, .iaload, .tableswitch 1 9 6 #[], .return_] 201 = true := qck_r (by decide) (by decide +kernel)
theorem bs_X9_takePoints_190 {P : Zt → Option Zv → Prop} (K : Int → Zl → List Zv → Zt → Prop) : sx_ K P [.aload 0, .aload 0, .tableswitch 0 9 7 #[], .iload 1, .iaload, .tableswitch 1 9 6 #[], .return_] 201 = x_aload 0 (x_aload 0 (x_g1 109 587 (x_iload 1 (x_iaload (x_p 109 6 (-2147483648) 2147483647 (x_return_ P)))))) := ((xe_aload 0).trans (congrArg (x_aload 0) ((xe_aload 0).trans (congrArg (x_aload 0) ((xe_g1 (kk := 109) rfl tl_9_7).trans (congrArg (x_g1 109 587) ((xe_iload 1).trans (congrArg (x_iload 1) ((xe_iaload).trans (congrArg (x_iaload) ((xe_p (kk := 109) rfl tl_9_6).trans (congrArg (x_p 109 6 (-2147483648) 2147483647) (xe_return_)))))))))))))
theorem bk_X9_takePoints_184 : ck_ fX9 none cX9_takePoints 184 [.iinc 2 1, .goto 56] 190 = true := qck_r (by decide) (by decide +kernel)
theorem bs_X9_takePoints_184 {P : Zt → Option Zv → Prop} (K : Int → Zl → List Zv → Zt → Prop) : sx_ K P [.iinc 2 1, .goto 56] 190 = x_iinc 2 1 (x_goto 56 K) := ((xe_iinc 2 1).trans (congrArg (x_iinc 2 1) (xe_goto 56)))
theorem bk_X9_takePoints_151 : ck_ fX9 none cX9_takePoints 151 [.iconst 3, .iaload, .fadd, .iastore, .aload 0, .tableswitch 0 9 7 #[], .iload 5, .dup2, .iaload, .aload 0, .tableswitch 0 9 5 #[], .tableswitch 0 0 1 #[], .iload 5, .iload 1, .if_icmp .ne 180, .iconst 1, .goto 181] 180 = true := qck_r (by decide) (by decide +kernel)
theorem bs_X9_takePoints_151 {P : Zt → Option Zv → Prop} (K : Int → Zl → List Zv → Zt → Prop) : sx_ K P [.iconst 3, .iaload, .fadd, .iastore, .aload 0, .tableswitch 0 9 7 #[], .iload 5, .dup2, .iaload, .aload 0, .tableswitch 0 9 5 #[], .tableswitch 0 0 1 #[], .iload 5, .iload 1, .if_icmp .ne 180, .iconst 1, .goto 181] 180 = x_iconst 3 (x_iaload (x_fadd (x_iastore (x_aload 0 (x_g1 109 587 (x_iload 5 (x_dup2 (x_iaload (x_aload 0 (x_g5 109 100 5 (x_g2 100 401 (x_iload 5 (x_iload 1 (x_if_icmp .ne 180 K (x_iconst 1 (x_goto 181 K)))))))))))))))) := ((xe_iconst 3).trans (congrArg (x_iconst 3) ((xe_iaload).trans (congrArg (x_iaload) ((xe_fadd).trans (congrArg (x_fadd) ((xe_iastore).trans (congrArg (x_iastore) ((xe_aload 0).trans (congrArg (x_aload 0) ((xe_g1 (kk := 109) rfl tl_9_7).trans (congrArg (x_g1 109 587) ((xe_iload 5).trans (congrArg (x_iload 5) ((xe_dup2).trans (congrArg (x_dup2) ((xe_iaload).trans (congrArg (x_iaload) ((xe_aload 0).trans (congrArg (x_aload 0) ((xe_g5 (kk := 109) rfl tl_9_5).trans (congrArg (x_g5 109 100 5) ((xe_g2 (kk := 100) rfl tl_0_1).trans (congrArg (x_g2 100 401) ((xe_iload 5).trans (congrArg (x_iload 5) ((xe_iload 1).trans (congrArg (x_iload 1) ((xe_if_icmp .ne 180).trans (congrArg (x_if_icmp .ne 180 K) ((xe_iconst 1).trans (congrArg (x_iconst 1) (xe_goto 181)))))))))))))))))))))))))))))))))
theorem bk_X9_takePoints_180 : ck_ fX9 none cX9_takePoints 180 [.iconst 3, .iaload, .fadd, .iastore, .iinc 2 1, .goto 56] 190 = true := qck_r (by decide) (by decide +kernel)
theorem bs_X9_takePoints_180 {P : Zt → Option Zv → Prop} (K : Int → Zl → List Zv → Zt → Prop) : sx_ K P [.iconst 3, .iaload, .fadd, .iastore, .iinc 2 1, .goto 56] 190 = x_iconst 3 (x_iaload (x_fadd (x_iastore (x_iinc 2 1 (x_goto 56 K))))) := ((xe_iconst 3).trans (congrArg (x_iconst 3) ((xe_iaload).trans (congrArg (x_iaload) ((xe_fadd).trans (congrArg (x_fadd) ((xe_iastore).trans (congrArg (x_iastore) ((xe_iinc 2 1).trans (congrArg (x_iinc 2 1) (xe_goto 56)))))))))))
theorem bk_X9_takePoints_181 : ck_ fX9 none cX9_takePoints 181 [.iaload, .fadd, .iastore, .iinc 2 1, .goto 56] 190 = true := qck_r (by decide) (by decide +kernel)
theorem bs_X9_takePoints_181 {P : Zt → Option Zv → Prop} (K : Int → Zl → List Zv → Zt → Prop) : sx_ K P [.iaload, .fadd, .iastore, .iinc 2 1, .goto 56] 190 = x_iaload (x_fadd (x_iastore (x_iinc 2 1 (x_goto 56 K)))) := ((xe_iaload).trans (congrArg (x_iaload) ((xe_fadd).trans (congrArg (x_fadd) ((xe_iastore).trans (congrArg (x_iastore) ((xe_iinc 2 1).trans (congrArg (x_iinc 2 1) (xe_goto 56)))))))))
theorem bk_X9_takePoints_152 : ck_ fX9 none cX9_takePoints 152 [.iaload, .fadd, .iastore, .aload 0, .tableswitch 0 9 7 #[], .iload 5, .dup2, .iaload, .aload 0, .tableswitch 0 9 5 #[], .tableswitch 0 0 1 #[], .iload 5, .iload 1, .if_icmp .ne 180, .iconst 1, .goto 181] 180 = true := qck_r (by decide) (by decide +kernel)
theorem bs_X9_takePoints_152 {P : Zt → Option Zv → Prop} (K : Int → Zl → List Zv → Zt → Prop) : sx_ K P [.iaload, .fadd, .iastore, .aload 0, .tableswitch 0 9 7 #[], .iload 5, .dup2, .iaload, .aload 0, .tableswitch 0 9 5 #[], .tableswitch 0 0 1 #[], .iload 5, .iload 1, .if_icmp .ne 180, .iconst 1, .goto 181] 180 = x_iaload (x_fadd (x_iastore (x_aload 0 (x_g1 109 587 (x_iload 5 (x_dup2 (x_iaload (x_aload 0 (x_g5 109 100 5 (x_g2 100 401 (x_iload 5 (x_iload 1 (x_if_icmp .ne 180 K (x_iconst 1 (x_goto 181 K))))))))))))))) := ((xe_iaload).trans (congrArg (x_iaload) ((xe_fadd).trans (congrArg (x_fadd) ((xe_iastore).trans (congrArg (x_iastore) ((xe_aload 0).trans (congrArg (x_aload 0) ((xe_g1 (kk := 109) rfl tl_9_7).trans (congrArg (x_g1 109 587) ((xe_iload 5).trans (congrArg (x_iload 5) ((xe_dup2).trans (congrArg (x_dup2) ((xe_iaload).trans (congrArg (x_iaload) ((xe_aload 0).trans (congrArg (x_aload 0) ((xe_g5 (kk := 109) rfl tl_9_5).trans (congrArg (x_g5 109 100 5) ((xe_g2 (kk := 100) rfl tl_0_1).trans (congrArg (x_g2 100 401) ((xe_iload 5).trans (congrArg (x_iload 5) ((xe_iload 1).trans (congrArg (x_iload 1) ((xe_if_icmp .ne 180).trans (congrArg (x_if_icmp .ne 180 K) ((xe_iconst 1).trans (congrArg (x_iconst 1) (xe_goto 181)))))))))))))))))))))))))))))))
theorem bk_X9_takePoints_16 : ck_ fX9 none cX9_takePoints 16 [.iload 2, .aload 0, .tableswitch 0 9 5 #[], .tableswitch 0 0 5 #[], .if_icmp .ge 54, .aload 0, .tableswitch 0 9 7 #[], .iload 2, .aload 0, .tableswitch 0 9 1 #[], .tableswitch 0 7 2 #[], .iload 2, .iconst 8, .imul, .iconst 6, .iadd, .iaload, .iastore, .iinc 2 1, .goto 16] 54 = true := qck_r (by decide) (by decide +kernel)
theorem bs_X9_takePoints_16 {P : Zt → Option Zv → Prop} (K : Int → Zl → List Zv → Zt → Prop) : sx_ K P [.iload 2, .aload 0, .tableswitch 0 9 5 #[], .tableswitch 0 0 5 #[], .if_icmp .ge 54, .aload 0, .tableswitch 0 9 7 #[], .iload 2, .aload 0, .tableswitch 0 9 1 #[], .tableswitch 0 7 2 #[], .iload 2, .iconst 8, .imul, .iconst 6, .iadd, .iaload, .iastore, .iinc 2 1, .goto 16] 54 = x_iload 2 (x_aload 0 (x_g5 109 100 5 (x_g0 100 5 0 12 (x_if_icmp .ge 54 K (x_aload 0 (x_g1 109 587 (x_iload 2 (x_aload 0 (x_g1 109 107 (x_g1 107 542 (x_iload 2 (x_iconst 8 (x_imul (x_iconst 6 (x_iadd (x_iaload (x_iastore (x_iinc 2 1 (x_goto 16 K))))))))))))))))))) := ((xe_iload 2).trans (congrArg (x_iload 2) ((xe_aload 0).trans (congrArg (x_aload 0) ((xe_g5 (kk := 109) rfl tl_9_5).trans (congrArg (x_g5 109 100 5) ((xe_g0 (kk := 100) rfl tl_0_5).trans (congrArg (x_g0 100 5 0 12) ((xe_if_icmp .ge 54).trans (congrArg (x_if_icmp .ge 54 K) ((xe_aload 0).trans (congrArg (x_aload 0) ((xe_g1 (kk := 109) rfl tl_9_7).trans (congrArg (x_g1 109 587) ((xe_iload 2).trans (congrArg (x_iload 2) ((xe_aload 0).trans (congrArg (x_aload 0) ((xe_g1 (kk := 109) rfl tl_9_1).trans (congrArg (x_g1 109 107) ((xe_g1 (kk := 107) rfl tl_7_2).trans (congrArg (x_g1 107 542) ((xe_iload 2).trans (congrArg (x_iload 2) ((xe_iconst 8).trans (congrArg (x_iconst 8) ((xe_imul).trans (congrArg (x_imul) ((xe_iconst 6).trans (congrArg (x_iconst 6) ((xe_iadd).trans (congrArg (x_iadd) ((xe_iaload).trans (congrArg (x_iaload) ((xe_iastore).trans (congrArg (x_iastore) ((xe_iinc 2 1).trans (congrArg (x_iinc 2 1) (xe_goto 16)))))))))))))))))))))))))))))))))))))))
theorem bk_X9_takePoints_54 : ck_ fX9 none cX9_takePoints 54 [.iconst 0, .istore 2] 56 = true := qck_r (by decide) (by decide +kernel)
theorem bs_X9_takePoints_54 {P : Zt → Option Zv → Prop} (K : Int → Zl → List Zv → Zt → Prop) : sx_ K P [.iconst 0, .istore 2] 56 = x_iconst 0 (x_istore 2 (K 56)) := ((xe_iconst 0).trans (congrArg (x_iconst 0) ((xe_istore 2).trans (congrArg (x_istore 2) xe_nil))))
theorem bk_X9_takePoints_0 : ck_ fX9 none cX9_takePoints 0 [.aload 0, .tableswitch 0 9 1 #[], .aload 0, .tableswitch 0 9 5 #[], .iconst 999] 11 = true := qck_r (by decide) (by decide +kernel)
theorem bs_X9_takePoints_0 {P : Zt → Option Zv → Prop} (K : Int → Zl → List Zv → Zt → Prop) : sx_ K P [.aload 0, .tableswitch 0 9 1 #[], .aload 0, .tableswitch 0 9 5 #[], .iconst 999] 11 = x_aload 0 (x_g1 109 107 (x_aload 0 (x_g5 109 100 5 (x_iconst 999 (K 11))))) := ((xe_aload 0).trans (congrArg (x_aload 0) ((xe_g1 (kk := 109) rfl tl_9_1).trans (congrArg (x_g1 109 107) ((xe_aload 0).trans (congrArg (x_aload 0) ((xe_g5 (kk := 109) rfl tl_9_5).trans (congrArg (x_g5 109 100 5) ((xe_iconst 999).trans (congrArg (x_iconst 999) xe_nil))))))))))
set_option maxRecDepth 100000 in
theorem cl_X9_124 : cv_ RX9 124 yX7_tally zX7_tally 7 2 := ⟨gi_V (lw_b6 46 (by decide +kernel) rfl : Cond.methodLink RX9 124 yX7_tally ∈ lw_g) (lw_b5 201 (by decide +kernel) rfl : Cond.instanceMethod yX7_tally ∈ lw_g) (lw_b5 202 (by decide +kernel) rfl : Cond.selects yX7_tally.cls yX7_tally yX7_tally ∈ lw_g) (lw_b1 5 (by decide +kernel) rfl : Cond.initialized yX7_tally.cls ∈ lw_g) (lw_b5 203 rfl rfl : Cond.code yX7_tally cX7_tally 5 none ∈ lw_g), ⟨by decide, by decide, by decide +kernel⟩, ⟨_, _, rfl⟩⟩
theorem bk_X9_takePoints_14 : ck_ fX9 none cX9_takePoints 14 [.iconst 0, .istore 2] 16 = true := qck_r (by decide) (by decide +kernel)
theorem bs_X9_takePoints_14 {P : Zt → Option Zv → Prop} (K : Int → Zl → List Zv → Zt → Prop) : sx_ K P [.iconst 0, .istore 2] 16 = x_iconst 0 (x_istore 2 (K 16)) := ((xe_iconst 0).trans (congrArg (x_iconst 0) ((xe_istore 2).trans (congrArg (x_istore 2) xe_nil))))
abbrev po_X9_takePoints (T : Zt) (t : Int) : Zt → Option Zv → Prop := fun T' r => r = none ∧ fr_ [(107, [1]), (542, []), (543, []), (544, []), (545, []), (546, []), (587, []), (109, [6])] T T' ∧ (0 = (0 : Int))
set_option maxHeartbeats 4000000 in
theorem ct_X9_takePoints {T : Zt} {t : Int} (hka : KA_ T) (hkc : KC_ T) (hks : KS_ T) (hc9 : 1 ≤ T 109 0 5 ∧ T 109 0 5 ≤ T 106 0 2) (ht : 0 ≤ t ∧ t ≤ 11) : Ct_ yX9_takePoints zX9_takePoints T [vR 109 0, vI t] (po_X9_takePoints T t) := by
  refine ct_of (by decide) rfl rfl (Nat.le_of_ble_eq_true rfl) (fun hT hav => ?_)
  have hr_t : -2147483648 ≤ t ∧ t ≤ 2147483647 := hav (vI t) (by simp)
  have hz : zX9_takePoints.2.2.2.1 = some .boolean → ∀ (T' : Zt) (x : Int), po_X9_takePoints T t T' (some (vI x)) → 0 ≤ x ∧ x ≤ 1 := fun h => by cases h
  have hk2 := hkc (T 109 0 5 - 1) (by omega) (by omega)
  have hb_matchCount : 0 ≤ T 106 0 4 ∧ T 106 0 4 ≤ 400 := bd_f hT 106 4 (by decide +kernel : (tf_ 106)[4]? = some (0, 0, 0, 400)) 0
  have hfm : 0 ≤ T 100 (T 109 0 5 - 1) 7 ∧ T 100 (T 109 0 5 - 1) 7 ≤ 400 := bd_f hT 100 7 (by decide +kernel : (tf_ 100)[7]? = some (0, 0, 0, 400)) (T 109 0 5 - 1)
  have hmc : 0 ≤ T 100 (T 109 0 5 - 1) 8 ∧ T 100 (T 109 0 5 - 1) 8 ≤ 400 := bd_f hT 100 8 (by decide +kernel : (tf_ 100)[8]? = some (0, 0, 0, 400)) (T 109 0 5 - 1)
  have hen : 0 ≤ T 100 (T 109 0 5 - 1) 5 ∧ T 100 (T 109 0 5 - 1) 5 ≤ 12 := bd_f hT 100 5 (by decide +kernel : (tf_ 100)[5]? = some (0, 0, 0, 12)) (T 109 0 5 - 1)
  show J_ zX9_takePoints T (po_X9_takePoints T t) 0 0 0 [some (vR 109 0), some (vI t), none, none, none, none] [] T
  have c_56 : ∀ (nn : Nat) (k : Int) (T2 : Zt), ((T 100 (T 109 0 5 - 1) 8 - k).toNat) ≤ nn → (fr_ [(107, [1]), (542, []), (543, []), (544, []), (545, []), (546, []), (587, [])] T T2) → (0 ≤ k ∧ k ≤ T 100 (T 109 0 5 - 1) 8) → J_ zX9_takePoints T (po_X9_takePoints T t) 0 0 56 [some (vR 109 0), some (vI t), some (vI k), none, none, none] [] T2 := by
    intro nn
    induction nn using Nat.strongRecOn with
    | _ nn ih_56 =>
      intro k T2 hm_56 hf_56 i2
      refine j_blx (F := fX9) tb_X9 (by decide) bk_X9_takePoints_56 bs_X9_takePoints_56 hz (fun K hK => ?_)
      have e2 : T2 109 0 5 = T 109 0 5 := hf_56 109 0 5 rfl
      refine And.intro (fun c1 => ?_) (fun c1 => ?_)
      · exact absurd c1 (by omega)
      · intro b3 b3b
        have e4 : T2 100 (T 109 0 5 - 1) 8 = T 100 (T 109 0 5 - 1) 8 := hf_56 100 (T 109 0 5 - 1) 8 rfl
        have e5 : T2 100 (T2 109 0 5 - 1) 8 = T 100 (T 109 0 5 - 1) 8 := by rw [e2]; exact e4
        rw [e5] at b3 b3b ⊢
        refine And.intro (fun c6 => ?_) (fun c6 => ?_)
        · refine hK 190 [some (vR 109 0), some (vI t), some (vI k), none, none, none] [] T2 ?_
          refine j_blx (F := fX9) tb_X9 (by decide) bk_X9_takePoints_190 bs_X9_takePoints_190 hz (fun K hK => ?_)
          refine ix_i (by omega) ?_
          intro b7 b7b
          refine bd_i (by omega) ?_
          refine x_nm (fun U8 hU8 => ?_)
          have e9 := up_f hU8
          refine (show po_X9_takePoints T t U8 (none) from ?_)
          exact ⟨rfl, fr_u (fr_t (fr_0 _ _) (fr_s hf_56 rfl)) hU8 rfl, by rfl⟩
        · have e11 : T2 109 0 5 = T 109 0 5 := hf_56 109 0 5 rfl
          refine And.intro (fun c10 => ?_) (fun c10 => ?_)
          · exact absurd c10 (by omega)
          · intro b12 b12b
            have e13 : T2 100 (T 109 0 5 - 1) 7 = T 100 (T 109 0 5 - 1) 7 := hf_56 100 (T 109 0 5 - 1) 7 rfl
            have e14 : T2 100 (T2 109 0 5 - 1) 7 = T 100 (T 109 0 5 - 1) 7 := by rw [e11]; exact e13
            rw [e14] at b12 b12b ⊢
            refine rg_i (by omega) ?_
            refine ix_i (by omega) ?_
            have e16 : T2 523 0 ((T 100 (T 109 0 5 - 1) 7) + k) = T 523 0 ((T 100 (T 109 0 5 - 1) 7) + k) := hf_56 523 0 ((T 100 (T 109 0 5 - 1) 7) + k) rfl
            refine And.intro (fun c15 => ?_) (fun c15 => ?_)
            · exact absurd (show T 523 0 (T 100 (T 109 0 5 - 1) 7 + k) = 0 by omega) (hka.2 _ (by omega) (by omega))
            · intro b17 b17b
              have e18 : T2 102 ((T 100 (T 109 0 5 - 1) 7) + k) 1 = T 102 ((T 100 (T 109 0 5 - 1) 7) + k) 1 := hf_56 102 ((T 100 (T 109 0 5 - 1) 7) + k) 1 rfl
              rw [e18] at b17 b17b ⊢
              refine ix_i (by omega) ?_
              intro b19 b19b
              have e20 : T2 584 0 (T 102 ((T 100 (T 109 0 5 - 1) 7) + k) 1) = T 584 0 (T 102 ((T 100 (T 109 0 5 - 1) 7) + k) 1) := hf_56 584 0 (T 102 ((T 100 (T 109 0 5 - 1) 7) + k) 1) rfl
              rw [e20] at b19 b19b ⊢
              refine And.intro (fun c21 => ?_) (fun c21 => ?_)
              · refine hK 184 [some (vR 109 0), some (vI t), some (vI k), some (vR 102 ((T 100 (T 109 0 5 - 1) 7) + k)), none, none] [] T2 ?_
                refine j_blx (F := fX9) tb_X9 (by decide) bk_X9_takePoints_184 bs_X9_takePoints_184 hz (fun K hK => ?_)
                refine rg_i (by omega) ?_
                refine hK 56 [some (vR 109 0), some (vI t), some (vI (k + 1)), some (vR 102 ((T 100 (T 109 0 5 - 1) 7) + k)), none, none] [] T2 ?_
                refine j_drop [some (vR 109 0), some (vI t), some (vI (k + 1)), none, none, none] (fun k v hk => ?_) rfl ?_
                · match k, hk with
                  | 0, hk => exact hk
                  | 1, hk => exact hk
                  | 2, hk => exact hk
                  | 3, hk => cases hk
                  | 4, hk => cases hk
                  | 5, hk => cases hk
                  | k + 6, hk => cases hk
                refine ih_56 _ ?_ (k + 1) T2 (Nat.le_refl _) ?_ ?_
                · omega
                · exact fr_t (fr_0 _ _) (fr_s hf_56 rfl)
                · omega
              · have hs9 := hks (T 109 0 5 - 1) (by omega) (by omega) (T 100 (T 109 0 5 - 1) 7 + k) (by omega) (by omega)
                have e23 : T2 109 0 5 = T 109 0 5 := hf_56 109 0 5 rfl
                refine And.intro (fun c22 => ?_) (fun c22 => ?_)
                · exact absurd c22 (by omega)
                · intro b24 b24b
                  have e25 : T2 102 ((T 100 (T 109 0 5 - 1) 7) + k) 3 = T 102 ((T 100 (T 109 0 5 - 1) 7) + k) 3 := hf_56 102 ((T 100 (T 109 0 5 - 1) 7) + k) 3 rfl
                  rw [e25] at b24 b24b ⊢
                  refine ix_i (by omega) ?_
                  intro b26 b26b
                  have e27 : T2 404 (T 109 0 5 - 1) (T 102 ((T 100 (T 109 0 5 - 1) 7) + k) 3) = T 404 (T 109 0 5 - 1) (T 102 ((T 100 (T 109 0 5 - 1) 7) + k) 3) := hf_56 404 (T 109 0 5 - 1) (T 102 ((T 100 (T 109 0 5 - 1) 7) + k) 3) rfl
                  have e28 : T2 404 (T2 109 0 5 - 1) (T 102 ((T 100 (T 109 0 5 - 1) 7) + k) 3) = T 404 (T 109 0 5 - 1) (T 102 ((T 100 (T 109 0 5 - 1) 7) + k) 3) := by rw [e23]; exact e27
                  rw [e28] at b26 b26b ⊢
                  have e30 : T2 109 0 5 = T 109 0 5 := hf_56 109 0 5 rfl
                  refine And.intro (fun c29 => ?_) (fun c29 => ?_)
                  · exact absurd c29 (by omega)
                  · intro b31 b31b
                    have e32 : T2 102 ((T 100 (T 109 0 5 - 1) 7) + k) 4 = T 102 ((T 100 (T 109 0 5 - 1) 7) + k) 4 := hf_56 102 ((T 100 (T 109 0 5 - 1) 7) + k) 4 rfl
                    rw [e32] at b31 b31b ⊢
                    refine ix_i (by omega) ?_
                    intro b33 b33b
                    have e34 : T2 404 (T 109 0 5 - 1) (T 102 ((T 100 (T 109 0 5 - 1) 7) + k) 4) = T 404 (T 109 0 5 - 1) (T 102 ((T 100 (T 109 0 5 - 1) 7) + k) 4) := hf_56 404 (T 109 0 5 - 1) (T 102 ((T 100 (T 109 0 5 - 1) 7) + k) 4) rfl
                    have e35 : T2 404 (T2 109 0 5 - 1) (T 102 ((T 100 (T 109 0 5 - 1) 7) + k) 4) = T 404 (T 109 0 5 - 1) (T 102 ((T 100 (T 109 0 5 - 1) 7) + k) 4) := by rw [e30]; exact e34
                    rw [e35] at b33 b33b ⊢
                    refine ix_i (by omega) ?_
                    intro b36 b36b
                    have e38 : T2 109 0 5 = T 109 0 5 := hf_56 109 0 5 rfl
                    refine And.intro (fun c37 => ?_) (fun c37 => ?_)
                    · exact absurd c37 (by omega)
                    · refine And.intro (fun c39 => ?_) (fun c39 => ?_)
                      · refine hK 151 [some (vR 109 0), some (vI t), some (vI k), some (vR 102 ((T 100 (T 109 0 5 - 1) 7) + k)), some (vI (T 404 (T 109 0 5 - 1) (T 102 ((T 100 (T 109 0 5 - 1) 7) + k) 3))), some (vI (T 404 (T 109 0 5 - 1) (T 102 ((T 100 (T 109 0 5 - 1) 7) + k) 4)))] [vR 401 (T2 109 0 5 - 1), vI (T2 587 0 (T 404 (T 109 0 5 - 1) (T 102 ((T 100 (T 109 0 5 - 1) 7) + k) 3))), vI (T 404 (T 109 0 5 - 1) (T 102 ((T 100 (T 109 0 5 - 1) 7) + k) 3)), vR 587 0] T2 ?_
                        refine j_blx (F := fX9) tb_X9 (by decide) bk_X9_takePoints_151 bs_X9_takePoints_151 hz (fun K hK => ?_)
                        refine ix_i (by omega) ?_
                        intro b40 b40b
                        have e41 : T2 401 (T 109 0 5 - 1) 3 = T 401 (T 109 0 5 - 1) 3 := hf_56 401 (T 109 0 5 - 1) 3 rfl
                        have e42 : T2 401 (T2 109 0 5 - 1) 3 = T 401 (T 109 0 5 - 1) 3 := by rw [e38]; exact e41
                        rw [e42] at b40 b40b ⊢
                        intro w43 w43b
                        refine iy_i (by omega) (by omega) ?_
                        refine x_nm (fun U44 hU44 => ?_)
                        have e45 := up_f hU44
                        refine ix_i (by omega) ?_
                        intro b46 b46b
                        have e48 : U44 109 0 5 = T 109 0 5 := (up_k hU44 (by decide) 0 5).trans (hf_56 109 0 5 rfl)
                        refine And.intro (fun c47 => ?_) (fun c47 => ?_)
                        · exact absurd c47 (by omega)
                        · refine And.intro (fun c49 => ?_) (fun c49 => ?_)
                          · refine hK 180 [some (vR 109 0), some (vI t), some (vI k), some (vR 102 ((T 100 (T 109 0 5 - 1) 7) + k)), some (vI (T 404 (T 109 0 5 - 1) (T 102 ((T 100 (T 109 0 5 - 1) 7) + k) 3))), some (vI (T 404 (T 109 0 5 - 1) (T 102 ((T 100 (T 109 0 5 - 1) 7) + k) 4)))] [vR 401 (U44 109 0 5 - 1), vI (U44 587 0 (T 404 (T 109 0 5 - 1) (T 102 ((T 100 (T 109 0 5 - 1) 7) + k) 4))), vI (T 404 (T 109 0 5 - 1) (T 102 ((T 100 (T 109 0 5 - 1) 7) + k) 4)), vR 587 0] U44 ?_
                            refine j_blx (F := fX9) tb_X9 (by decide) bk_X9_takePoints_180 bs_X9_takePoints_180 hz (fun K hK => ?_)
                            refine ix_i (by omega) ?_
                            intro b50 b50b
                            have e51 : U44 401 (T 109 0 5 - 1) 3 = T 401 (T 109 0 5 - 1) 3 := (up_k hU44 (by decide) (T 109 0 5 - 1) 3).trans (hf_56 401 (T 109 0 5 - 1) 3 rfl)
                            have e52 : U44 401 (U44 109 0 5 - 1) 3 = T 401 (T 109 0 5 - 1) 3 := by rw [e48]; exact e51
                            rw [e52] at b50 b50b ⊢
                            intro w53 w53b
                            refine iy_i (by omega) (by omega) ?_
                            refine x_nm (fun U54 hU54 => ?_)
                            have e55 := up_f hU54
                            refine rg_i (by omega) ?_
                            refine hK 56 [some (vR 109 0), some (vI t), some (vI (k + 1)), some (vR 102 ((T 100 (T 109 0 5 - 1) 7) + k)), some (vI (T 404 (T 109 0 5 - 1) (T 102 ((T 100 (T 109 0 5 - 1) 7) + k) 3))), some (vI (T 404 (T 109 0 5 - 1) (T 102 ((T 100 (T 109 0 5 - 1) 7) + k) 4)))] [] U54 ?_
                            refine j_drop [some (vR 109 0), some (vI t), some (vI (k + 1)), none, none, none] (fun k v hk => ?_) rfl ?_
                            · match k, hk with
                              | 0, hk => exact hk
                              | 1, hk => exact hk
                              | 2, hk => exact hk
                              | 3, hk => cases hk
                              | 4, hk => cases hk
                              | 5, hk => cases hk
                              | k + 6, hk => cases hk
                            refine ih_56 _ ?_ (k + 1) U54 (Nat.le_refl _) ?_ ?_
                            · omega
                            · exact fr_u (fr_u (fr_t (fr_0 _ _) (fr_s hf_56 rfl)) hU44 rfl) hU54 rfl
                            · omega
                          · refine hK 181 [some (vR 109 0), some (vI t), some (vI k), some (vR 102 ((T 100 (T 109 0 5 - 1) 7) + k)), some (vI (T 404 (T 109 0 5 - 1) (T 102 ((T 100 (T 109 0 5 - 1) 7) + k) 3))), some (vI (T 404 (T 109 0 5 - 1) (T 102 ((T 100 (T 109 0 5 - 1) 7) + k) 4)))] [vI 1, vR 401 (U44 109 0 5 - 1), vI (U44 587 0 (T 404 (T 109 0 5 - 1) (T 102 ((T 100 (T 109 0 5 - 1) 7) + k) 4))), vI (T 404 (T 109 0 5 - 1) (T 102 ((T 100 (T 109 0 5 - 1) 7) + k) 4)), vR 587 0] U44 ?_
                            refine j_blx (F := fX9) tb_X9 (by decide) bk_X9_takePoints_181 bs_X9_takePoints_181 hz (fun K hK => ?_)
                            refine ix_i (by omega) ?_
                            intro b56 b56b
                            have e57 : U44 401 (T 109 0 5 - 1) 1 = T 401 (T 109 0 5 - 1) 1 := (up_k hU44 (by decide) (T 109 0 5 - 1) 1).trans (hf_56 401 (T 109 0 5 - 1) 1 rfl)
                            have e58 : U44 401 (U44 109 0 5 - 1) 1 = T 401 (T 109 0 5 - 1) 1 := by rw [e48]; exact e57
                            rw [e58] at b56 b56b ⊢
                            intro w59 w59b
                            refine iy_i (by omega) (by omega) ?_
                            refine x_nm (fun U60 hU60 => ?_)
                            have e61 := up_f hU60
                            refine rg_i (by omega) ?_
                            refine hK 56 [some (vR 109 0), some (vI t), some (vI (k + 1)), some (vR 102 ((T 100 (T 109 0 5 - 1) 7) + k)), some (vI (T 404 (T 109 0 5 - 1) (T 102 ((T 100 (T 109 0 5 - 1) 7) + k) 3))), some (vI (T 404 (T 109 0 5 - 1) (T 102 ((T 100 (T 109 0 5 - 1) 7) + k) 4)))] [] U60 ?_
                            refine j_drop [some (vR 109 0), some (vI t), some (vI (k + 1)), none, none, none] (fun k v hk => ?_) rfl ?_
                            · match k, hk with
                              | 0, hk => exact hk
                              | 1, hk => exact hk
                              | 2, hk => exact hk
                              | 3, hk => cases hk
                              | 4, hk => cases hk
                              | 5, hk => cases hk
                              | k + 6, hk => cases hk
                            refine ih_56 _ ?_ (k + 1) U60 (Nat.le_refl _) ?_ ?_
                            · omega
                            · exact fr_u (fr_u (fr_t (fr_0 _ _) (fr_s hf_56 rfl)) hU44 rfl) hU60 rfl
                            · omega
                      · refine hK 152 [some (vR 109 0), some (vI t), some (vI k), some (vR 102 ((T 100 (T 109 0 5 - 1) 7) + k)), some (vI (T 404 (T 109 0 5 - 1) (T 102 ((T 100 (T 109 0 5 - 1) 7) + k) 3))), some (vI (T 404 (T 109 0 5 - 1) (T 102 ((T 100 (T 109 0 5 - 1) 7) + k) 4)))] [vI 1, vR 401 (T2 109 0 5 - 1), vI (T2 587 0 (T 404 (T 109 0 5 - 1) (T 102 ((T 100 (T 109 0 5 - 1) 7) + k) 3))), vI (T 404 (T 109 0 5 - 1) (T 102 ((T 100 (T 109 0 5 - 1) 7) + k) 3)), vR 587 0] T2 ?_
                        refine j_blx (F := fX9) tb_X9 (by decide) bk_X9_takePoints_152 bs_X9_takePoints_152 hz (fun K hK => ?_)
                        refine ix_i (by omega) ?_
                        intro b62 b62b
                        have e63 : T2 401 (T 109 0 5 - 1) 1 = T 401 (T 109 0 5 - 1) 1 := hf_56 401 (T 109 0 5 - 1) 1 rfl
                        have e64 : T2 401 (T2 109 0 5 - 1) 1 = T 401 (T 109 0 5 - 1) 1 := by rw [e38]; exact e63
                        rw [e64] at b62 b62b ⊢
                        intro w65 w65b
                        refine iy_i (by omega) (by omega) ?_
                        refine x_nm (fun U66 hU66 => ?_)
                        have e67 := up_f hU66
                        refine ix_i (by omega) ?_
                        intro b68 b68b
                        have e70 : U66 109 0 5 = T 109 0 5 := (up_k hU66 (by decide) 0 5).trans (hf_56 109 0 5 rfl)
                        refine And.intro (fun c69 => ?_) (fun c69 => ?_)
                        · exact absurd c69 (by omega)
                        · refine And.intro (fun c71 => ?_) (fun c71 => ?_)
                          · refine hK 180 [some (vR 109 0), some (vI t), some (vI k), some (vR 102 ((T 100 (T 109 0 5 - 1) 7) + k)), some (vI (T 404 (T 109 0 5 - 1) (T 102 ((T 100 (T 109 0 5 - 1) 7) + k) 3))), some (vI (T 404 (T 109 0 5 - 1) (T 102 ((T 100 (T 109 0 5 - 1) 7) + k) 4)))] [vR 401 (U66 109 0 5 - 1), vI (U66 587 0 (T 404 (T 109 0 5 - 1) (T 102 ((T 100 (T 109 0 5 - 1) 7) + k) 4))), vI (T 404 (T 109 0 5 - 1) (T 102 ((T 100 (T 109 0 5 - 1) 7) + k) 4)), vR 587 0] U66 ?_
                            refine j_blx (F := fX9) tb_X9 (by decide) bk_X9_takePoints_180 bs_X9_takePoints_180 hz (fun K hK => ?_)
                            refine ix_i (by omega) ?_
                            intro b72 b72b
                            have e73 : U66 401 (T 109 0 5 - 1) 3 = T 401 (T 109 0 5 - 1) 3 := (up_k hU66 (by decide) (T 109 0 5 - 1) 3).trans (hf_56 401 (T 109 0 5 - 1) 3 rfl)
                            have e74 : U66 401 (U66 109 0 5 - 1) 3 = T 401 (T 109 0 5 - 1) 3 := by rw [e70]; exact e73
                            rw [e74] at b72 b72b ⊢
                            intro w75 w75b
                            refine iy_i (by omega) (by omega) ?_
                            refine x_nm (fun U76 hU76 => ?_)
                            have e77 := up_f hU76
                            refine rg_i (by omega) ?_
                            refine hK 56 [some (vR 109 0), some (vI t), some (vI (k + 1)), some (vR 102 ((T 100 (T 109 0 5 - 1) 7) + k)), some (vI (T 404 (T 109 0 5 - 1) (T 102 ((T 100 (T 109 0 5 - 1) 7) + k) 3))), some (vI (T 404 (T 109 0 5 - 1) (T 102 ((T 100 (T 109 0 5 - 1) 7) + k) 4)))] [] U76 ?_
                            refine j_drop [some (vR 109 0), some (vI t), some (vI (k + 1)), none, none, none] (fun k v hk => ?_) rfl ?_
                            · match k, hk with
                              | 0, hk => exact hk
                              | 1, hk => exact hk
                              | 2, hk => exact hk
                              | 3, hk => cases hk
                              | 4, hk => cases hk
                              | 5, hk => cases hk
                              | k + 6, hk => cases hk
                            refine ih_56 _ ?_ (k + 1) U76 (Nat.le_refl _) ?_ ?_
                            · omega
                            · exact fr_u (fr_u (fr_t (fr_0 _ _) (fr_s hf_56 rfl)) hU66 rfl) hU76 rfl
                            · omega
                          · refine hK 181 [some (vR 109 0), some (vI t), some (vI k), some (vR 102 ((T 100 (T 109 0 5 - 1) 7) + k)), some (vI (T 404 (T 109 0 5 - 1) (T 102 ((T 100 (T 109 0 5 - 1) 7) + k) 3))), some (vI (T 404 (T 109 0 5 - 1) (T 102 ((T 100 (T 109 0 5 - 1) 7) + k) 4)))] [vI 1, vR 401 (U66 109 0 5 - 1), vI (U66 587 0 (T 404 (T 109 0 5 - 1) (T 102 ((T 100 (T 109 0 5 - 1) 7) + k) 4))), vI (T 404 (T 109 0 5 - 1) (T 102 ((T 100 (T 109 0 5 - 1) 7) + k) 4)), vR 587 0] U66 ?_
                            refine j_blx (F := fX9) tb_X9 (by decide) bk_X9_takePoints_181 bs_X9_takePoints_181 hz (fun K hK => ?_)
                            refine ix_i (by omega) ?_
                            intro b78 b78b
                            have e79 : U66 401 (T 109 0 5 - 1) 1 = T 401 (T 109 0 5 - 1) 1 := (up_k hU66 (by decide) (T 109 0 5 - 1) 1).trans (hf_56 401 (T 109 0 5 - 1) 1 rfl)
                            have e80 : U66 401 (U66 109 0 5 - 1) 1 = T 401 (T 109 0 5 - 1) 1 := by rw [e70]; exact e79
                            rw [e80] at b78 b78b ⊢
                            intro w81 w81b
                            refine iy_i (by omega) (by omega) ?_
                            refine x_nm (fun U82 hU82 => ?_)
                            have e83 := up_f hU82
                            refine rg_i (by omega) ?_
                            refine hK 56 [some (vR 109 0), some (vI t), some (vI (k + 1)), some (vR 102 ((T 100 (T 109 0 5 - 1) 7) + k)), some (vI (T 404 (T 109 0 5 - 1) (T 102 ((T 100 (T 109 0 5 - 1) 7) + k) 3))), some (vI (T 404 (T 109 0 5 - 1) (T 102 ((T 100 (T 109 0 5 - 1) 7) + k) 4)))] [] U82 ?_
                            refine j_drop [some (vR 109 0), some (vI t), some (vI (k + 1)), none, none, none] (fun k v hk => ?_) rfl ?_
                            · match k, hk with
                              | 0, hk => exact hk
                              | 1, hk => exact hk
                              | 2, hk => exact hk
                              | 3, hk => cases hk
                              | 4, hk => cases hk
                              | 5, hk => cases hk
                              | k + 6, hk => cases hk
                            refine ih_56 _ ?_ (k + 1) U82 (Nat.le_refl _) ?_ ?_
                            · omega
                            · exact fr_u (fr_u (fr_t (fr_0 _ _) (fr_s hf_56 rfl)) hU66 rfl) hU82 rfl
                            · omega
  have c_16 : ∀ (nn : Nat) (k : Int) (T1 : Zt), ((12 - k).toNat) ≤ nn → (fr_ [(107, [1]), (542, []), (543, []), (544, []), (545, []), (546, []), (587, [])] T T1) → (0 ≤ k ∧ k ≤ 12) → J_ zX9_takePoints T (po_X9_takePoints T t) 0 0 16 [some (vR 109 0), some (vI t), some (vI k), none, none, none] [] T1 := by
    intro nn
    induction nn using Nat.strongRecOn with
    | _ nn ih_16 =>
      intro k T1 hm_16 hf_16 i1
      refine j_blx (F := fX9) tb_X9 (by decide) bk_X9_takePoints_16 bs_X9_takePoints_16 hz (fun K hK => ?_)
      have e85 : T1 109 0 5 = T 109 0 5 := hf_16 109 0 5 rfl
      refine And.intro (fun c84 => ?_) (fun c84 => ?_)
      · exact absurd c84 (by omega)
      · intro b86 b86b
        have e87 : T1 100 (T 109 0 5 - 1) 5 = T 100 (T 109 0 5 - 1) 5 := hf_16 100 (T 109 0 5 - 1) 5 rfl
        have e88 : T1 100 (T1 109 0 5 - 1) 5 = T 100 (T 109 0 5 - 1) 5 := by rw [e85]; exact e87
        rw [e88] at b86 b86b ⊢
        refine And.intro (fun c89 => ?_) (fun c89 => ?_)
        · refine hK 54 [some (vR 109 0), some (vI t), some (vI k), none, none, none] [] T1 ?_
          refine j_blx (F := fX9) tb_X9 (by decide) bk_X9_takePoints_54 bs_X9_takePoints_54 hz (fun K hK => ?_)
          refine hK 56 [some (vR 109 0), some (vI t), some (vI 0), none, none, none] [] T1 ?_
          refine c_56 _ 0 T1 (Nat.le_refl _) ?_ ?_
          · exact fr_t (fr_0 _ _) (fr_s hf_16 rfl)
          · omega
        · refine rg_i (by omega) ?_
          refine rg_i (by omega) ?_
          refine ix_i (by omega) ?_
          intro b90 b90b
          refine iy_i (by omega) (by omega) ?_
          refine x_nm (fun U91 hU91 => ?_)
          have e92 := up_f hU91
          refine rg_i (by omega) ?_
          refine hK 16 [some (vR 109 0), some (vI t), some (vI (k + 1)), none, none, none] [] U91 ?_
          refine ih_16 _ ?_ (k + 1) U91 (Nat.le_refl _) ?_ ?_
          · omega
          · exact fr_u (fr_t (fr_0 _ _) (fr_s hf_16 rfl)) hU91 rfl
          · omega
  refine j_blx (F := fX9) tb_X9 (by decide) bk_X9_takePoints_0 bs_X9_takePoints_0 hz (fun K hK => ?_)
  refine And.intro (fun c93 => ?_) (fun c93 => ?_)
  · exact absurd c93 (by omega)
  · refine hK 11 [some (vR 109 0), some (vI t), none, none, none, none] [vI 999, vR 100 (T 109 0 5 - 1), vR 107 0] T ?_
    refine j_callV (y := yX7_tally) (Yc := zX7_tally) (rest := []) [vR 100 (T 109 0 5 - 1), vI 999] (ct_X7_tally (T := T) (hka) (hkc) (by omega)) cl_X9_124 (qd_c (by decide +kernel)) (by decide) rfl (by decide +kernel) (Nat.le_of_ble_eq_true rfl) (by decide) (by decide) rfl ?_
    rintro U94 _ ⟨rfl, fU94, qU94⟩
    show J_ zX9_takePoints T (po_X9_takePoints T t) 0 0 14 [some (vR 109 0), some (vI t), none, none, none, none] [] U94
    refine j_blx (F := fX9) tb_X9 (by decide) bk_X9_takePoints_14 bs_X9_takePoints_14 hz (fun K hK => ?_)
    refine hK 16 [some (vR 109 0), some (vI t), some (vI 0), none, none, none] [] U94 ?_
    refine c_16 _ 0 U94 (Nat.le_refl _) ?_ ?_
    · exact fr_t (fr_0 _ _) (fr_s fU94 rfl)
    · omega

