def KS_ (T : Zt) : Prop := ∀ c : Int, 0 ≤ c → c < T 106 0 2 → ∀ m : Int, T 100 c 7 ≤ m → m < T 100 c 7 + T 100 c 8 → T 102 m 0 = c ∧ 0 ≤ T 404 c (T 102 m 3) ∧ 0 ≤ T 404 c (T 102 m 4)
theorem KS__f {ws : List (Nat × List Int)} {T T' : Zt} (h : KS_ T) (f : fr_ ws T T') (w : (∀ j, fw_ ws 404 j = false) ∧ fw_ ws 100 7 = false ∧ fw_ ws 100 8 = false ∧ fw_ ws 102 0 = false ∧ fw_ ws 102 3 = false ∧ fw_ ws 102 4 = false ∧ fw_ ws 106 2 = false ∧ True) : KS_ T' := by
  have e0 : ∀ i j, T' 404 i j = T 404 i j := fun i j => f 404 i j (w.1 j)
  have e1 : ∀ i, T' 100 i 7 = T 100 i 7 := fun i => f 100 i 7 w.2.1
  have e2 : ∀ i, T' 100 i 8 = T 100 i 8 := fun i => f 100 i 8 w.2.2.1
  have e3 : ∀ i, T' 102 i 0 = T 102 i 0 := fun i => f 102 i 0 w.2.2.2.1
  have e4 : ∀ i, T' 102 i 3 = T 102 i 3 := fun i => f 102 i 3 w.2.2.2.2.1
  have e5 : ∀ i, T' 102 i 4 = T 102 i 4 := fun i => f 102 i 4 w.2.2.2.2.2.1
  have e6 : ∀ i, T' 106 i 2 = T 106 i 2 := fun i => f 106 i 2 w.2.2.2.2.2.2.1
  simp only [KS_, e0, e1, e2, e3, e4, e5, e6] at h ⊢
  exact h
abbrev cX9_takePoints : ByteArray := prog_11_method_4_code
def yX9_takePoints : MethodName := ⟨RX9, "takePoints", "(I)V"⟩
def zX9_takePoints : Zm := (RX9, cX9_takePoints, 6, none, { frames := 3, cells := 0, slots := 0, locals := 76 })
theorem bk_X9_takePoints_56 : ck_ fX9 none cX9_takePoints 56 [.iload 2, .aload 0, .tableswitch 0 9 5 #[], .tableswitch 0 0 8 #[], .if_icmp .ge 190, .aload 0, .tableswitch 0 9 0 #[], .tableswitch 0 6 3 #[], .aload 0, .tableswitch 0 9 5 #[], .tableswitch 0 0 7 #[], .iload 2, .iadd, .aaload, .astore 3, .aload 0, .tableswitch 0 9 4 #[], .aload 3, .tableswitch 0 2 1 #[], .iaload, .iconst (-1), .if_icmp .eq 184, .aload 0, .tableswitch 0 9 5 #[], .tableswitch 0 0 4 #[], .aload 3, .tableswitch 0 2 3 #[], .iaload, .istore 4, .aload 0, .tableswitch 0 9 5 #[], .tableswitch 0 0 4 #[], .aload 3, .tableswitch 0 2 4 #[], .iaload, .istore 5, .aload 0, .tableswitch 0 9 7 #[], .iload 4, .dup2, .iaload, .aload 0, .tableswitch 0 9 5 #[], .tableswitch 0 0 1 #[], .iload 4, .iload 1, .if_icmp .ne 151, .iconst 1, .goto 152] 151 = true := qck_r (nn_ _) (by decide +kernel)
theorem bs_X9_takePoints_56 {P : Zt → Option Zv → Prop} (K : Int → Zl → List Zv → Zt → Prop) : sx_ K P [.iload 2, .aload 0, .tableswitch 0 9 5 #[], .tableswitch 0 0 8 #[], .if_icmp .ge 190, .aload 0, .tableswitch 0 9 0 #[], .tableswitch 0 6 3 #[], .aload 0, .tableswitch 0 9 5 #[], .tableswitch 0 0 7 #[], .iload 2, .iadd, .aaload, .astore 3, .aload 0, .tableswitch 0 9 4 #[], .aload 3, .tableswitch 0 2 1 #[], .iaload, .iconst (-1), .if_icmp .eq 184, .aload 0, .tableswitch 0 9 5 #[], .tableswitch 0 0 4 #[], .aload 3, .tableswitch 0 2 3 #[], .iaload, .istore 4, .aload 0, .tableswitch 0 9 5 #[], .tableswitch 0 0 4 #[], .aload 3, .tableswitch 0 2 4 #[], .iaload, .istore 5, .aload 0, .tableswitch 0 9 7 #[], .iload 4, .dup2, .iaload, .aload 0, .tableswitch 0 9 5 #[], .tableswitch 0 0 1 #[], .iload 4, .iload 1, .if_icmp .ne 151, .iconst 1, .goto 152] 151 = x_iload 2 (x_aload 0 (x_g5 109 100 5 (x_g0 100 8 0 400 (x_if_icmp .ge 190 K (x_aload 0 (x_g1 109 106 (x_g1 106 523 (x_aload 0 (x_g5 109 100 5 (x_g0 100 7 0 400 (x_iload 2 (x_iadd (x_aaload (x_astore 3 (x_aload 0 (x_g1 109 584 (x_aload 3 (x_g0 102 1 0 399 (x_iaload (x_iconst (-1) (x_if_icmp .eq 184 K (x_aload 0 (x_g5 109 100 5 (x_g2 100 404 (x_aload 3 (x_g0 102 3 0 11 (x_iaload (x_istore 4 (x_aload 0 (x_g5 109 100 5 (x_g2 100 404 (x_aload 3 (x_g0 102 4 0 11 (x_iaload (x_istore 5 (x_aload 0 (x_g1 109 587 (x_iload 4 (x_dup2 (x_iaload (x_aload 0 (x_g5 109 100 5 (x_g2 100 401 (x_iload 4 (x_iload 1 (x_if_icmp .ne 151 K (x_iconst 1 (x_goto 152 K)))))))))))))))))))))))))))))))))))))))))))))))) := ((xe_iload 2).trans (congrArg (x_iload 2) ((xe_aload 0).trans (congrArg (x_aload 0) ((xe_g5 (kk := 109) rfl tl_9_5).trans (congrArg (x_g5 109 100 5) ((xe_g0 (kk := 100) rfl tl_0_8).trans (congrArg (x_g0 100 8 0 400) ((xe_if_icmp .ge 190).trans (congrArg (x_if_icmp .ge 190 K) ((xe_aload 0).trans (congrArg (x_aload 0) ((xe_g1 (kk := 109) rfl tl_9_0).trans (congrArg (x_g1 109 106) ((xe_g1 (kk := 106) rfl tl_6_3).trans (congrArg (x_g1 106 523) ((xe_aload 0).trans (congrArg (x_aload 0) ((xe_g5 (kk := 109) rfl tl_9_5).trans (congrArg (x_g5 109 100 5) ((xe_g0 (kk := 100) rfl tl_0_7).trans (congrArg (x_g0 100 7 0 400) ((xe_iload 2).trans (congrArg (x_iload 2) ((xe_iadd).trans (congrArg (x_iadd) ((xe_aaload).trans (congrArg (x_aaload) ((xe_astore 3).trans (congrArg (x_astore 3) ((xe_aload 0).trans (congrArg (x_aload 0) ((xe_g1 (kk := 109) rfl tl_9_4).trans (congrArg (x_g1 109 584) ((xe_aload 3).trans (congrArg (x_aload 3) ((xe_g0 (kk := 102) rfl tl_2_1).trans (congrArg (x_g0 102 1 0 399) ((xe_iaload).trans (congrArg (x_iaload) ((xe_iconst (-1)).trans (congrArg (x_iconst (-1)) ((xe_if_icmp .eq 184).trans (congrArg (x_if_icmp .eq 184 K) ((xe_aload 0).trans (congrArg (x_aload 0) ((xe_g5 (kk := 109) rfl tl_9_5).trans (congrArg (x_g5 109 100 5) ((xe_g2 (kk := 100) rfl tl_0_4).trans (congrArg (x_g2 100 404) ((xe_aload 3).trans (congrArg (x_aload 3) ((xe_g0 (kk := 102) rfl tl_2_3).trans (congrArg (x_g0 102 3 0 11) ((xe_iaload).trans (congrArg (x_iaload) ((xe_istore 4).trans (congrArg (x_istore 4) ((xe_aload 0).trans (congrArg (x_aload 0) ((xe_g5 (kk := 109) rfl tl_9_5).trans (congrArg (x_g5 109 100 5) ((xe_g2 (kk := 100) rfl tl_0_4).trans (congrArg (x_g2 100 404) ((xe_aload 3).trans (congrArg (x_aload 3) ((xe_g0 (kk := 102) rfl tl_2_4).trans (congrArg (x_g0 102 4 0 11) ((xe_iaload).trans (congrArg (x_iaload) ((xe_istore 5).trans (congrArg (x_istore 5) ((xe_aload 0).trans (congrArg (x_aload 0) ((xe_g1 (kk := 109) rfl tl_9_7).trans (congrArg (x_g1 109 587) ((xe_iload 4).trans (congrArg (x_iload 4) ((xe_dup2).trans (congrArg (x_dup2) ((xe_iaload).trans (congrArg (x_iaload) ((xe_aload 0).trans (congrArg (x_aload 0) ((xe_g5 (kk := 109) rfl tl_9_5).trans (congrArg (x_g5 109 100 5) ((xe_g2 (kk := 100) rfl tl_0_1).trans (congrArg (x_g2 100 401) ((xe_iload 4).trans (congrArg (x_iload 4) ((xe_iload 1).trans (congrArg (x_iload 1) ((xe_if_icmp .ne 151).trans (congrArg (x_if_icmp .ne 151 K) ((xe_iconst 1).trans (congrArg (x_iconst 1) (xe_goto 152)))))))))))))))))))))))))))))))))))))))))))))))))))))))))))))))))))))))))))))))))))))))))))))))))
theorem bk_X9_takePoints_190 : ck_ fX9 none cX9_takePoints 190 [.aload 0, .aload 0, .tableswitch 0 9 7 #[], .iload 1, .iaload, .tableswitch 1 9 6 #[], .return_] 201 = true := qck_r (nn_ _) (by decide +kernel)
theorem bs_X9_takePoints_190 {P : Zt → Option Zv → Prop} (K : Int → Zl → List Zv → Zt → Prop) : sx_ K P [.aload 0, .aload 0, .tableswitch 0 9 7 #[], .iload 1, .iaload, .tableswitch 1 9 6 #[], .return_] 201 = x_aload 0 (x_aload 0 (x_g1 109 587 (x_iload 1 (x_iaload (x_p 109 6 (-2147483648) 2147483647 (x_return_ P)))))) := ((xe_aload 0).trans (congrArg (x_aload 0) ((xe_aload 0).trans (congrArg (x_aload 0) ((xe_g1 (kk := 109) rfl tl_9_7).trans (congrArg (x_g1 109 587) ((xe_iload 1).trans (congrArg (x_iload 1) ((xe_iaload).trans (congrArg (x_iaload) ((xe_p (kk := 109) rfl tl_9_6).trans (congrArg (x_p 109 6 (-2147483648) 2147483647) (xe_return_)))))))))))))
theorem bk_X9_takePoints_184 : ck_ fX9 none cX9_takePoints 184 [.iinc 2 1, .goto 56] 190 = true := qck_r (nn_ _) (by decide +kernel)
theorem bs_X9_takePoints_184 {P : Zt → Option Zv → Prop} (K : Int → Zl → List Zv → Zt → Prop) : sx_ K P [.iinc 2 1, .goto 56] 190 = x_iinc 2 1 (x_goto 56 K) := ((xe_iinc 2 1).trans (congrArg (x_iinc 2 1) (xe_goto 56)))
theorem bk_X9_takePoints_151 : ck_ fX9 none cX9_takePoints 151 [.iconst 3, .iaload, .fadd, .iastore, .aload 0, .tableswitch 0 9 7 #[], .iload 5, .dup2, .iaload, .aload 0, .tableswitch 0 9 5 #[], .tableswitch 0 0 1 #[], .iload 5, .iload 1, .if_icmp .ne 180, .iconst 1, .goto 181] 180 = true := qck_r (nn_ _) (by decide +kernel)
theorem bs_X9_takePoints_151 {P : Zt → Option Zv → Prop} (K : Int → Zl → List Zv → Zt → Prop) : sx_ K P [.iconst 3, .iaload, .fadd, .iastore, .aload 0, .tableswitch 0 9 7 #[], .iload 5, .dup2, .iaload, .aload 0, .tableswitch 0 9 5 #[], .tableswitch 0 0 1 #[], .iload 5, .iload 1, .if_icmp .ne 180, .iconst 1, .goto 181] 180 = x_iconst 3 (x_iaload (x_fadd (x_iastore (x_aload 0 (x_g1 109 587 (x_iload 5 (x_dup2 (x_iaload (x_aload 0 (x_g5 109 100 5 (x_g2 100 401 (x_iload 5 (x_iload 1 (x_if_icmp .ne 180 K (x_iconst 1 (x_goto 181 K)))))))))))))))) := ((xe_iconst 3).trans (congrArg (x_iconst 3) ((xe_iaload).trans (congrArg (x_iaload) ((xe_fadd).trans (congrArg (x_fadd) ((xe_iastore).trans (congrArg (x_iastore) ((xe_aload 0).trans (congrArg (x_aload 0) ((xe_g1 (kk := 109) rfl tl_9_7).trans (congrArg (x_g1 109 587) ((xe_iload 5).trans (congrArg (x_iload 5) ((xe_dup2).trans (congrArg (x_dup2) ((xe_iaload).trans (congrArg (x_iaload) ((xe_aload 0).trans (congrArg (x_aload 0) ((xe_g5 (kk := 109) rfl tl_9_5).trans (congrArg (x_g5 109 100 5) ((xe_g2 (kk := 100) rfl tl_0_1).trans (congrArg (x_g2 100 401) ((xe_iload 5).trans (congrArg (x_iload 5) ((xe_iload 1).trans (congrArg (x_iload 1) ((xe_if_icmp .ne 180).trans (congrArg (x_if_icmp .ne 180 K) ((xe_iconst 1).trans (congrArg (x_iconst 1) (xe_goto 181)))))))))))))))))))))))))))))))))
theorem bk_X9_takePoints_180 : ck_ fX9 none cX9_takePoints 180 [.iconst 3, .iaload, .fadd, .iastore, .iinc 2 1, .goto 56] 190 = true := qck_r (nn_ _) (by decide +kernel)
theorem bs_X9_takePoints_180 {P : Zt → Option Zv → Prop} (K : Int → Zl → List Zv → Zt → Prop) : sx_ K P [.iconst 3, .iaload, .fadd, .iastore, .iinc 2 1, .goto 56] 190 = x_iconst 3 (x_iaload (x_fadd (x_iastore (x_iinc 2 1 (x_goto 56 K))))) := ((xe_iconst 3).trans (congrArg (x_iconst 3) ((xe_iaload).trans (congrArg (x_iaload) ((xe_fadd).trans (congrArg (x_fadd) ((xe_iastore).trans (congrArg (x_iastore) ((xe_iinc 2 1).trans (congrArg (x_iinc 2 1) (xe_goto 56)))))))))))
theorem bk_X9_takePoints_181 : ck_ fX9 none cX9_takePoints 181 [.iaload, .fadd, .iastore, .iinc 2 1, .goto 56] 190 = true := qck_r (nn_ _) (by decide +kernel)
theorem bs_X9_takePoints_181 {P : Zt → Option Zv → Prop} (K : Int → Zl → List Zv → Zt → Prop) : sx_ K P [.iaload, .fadd, .iastore, .iinc 2 1, .goto 56] 190 = x_iaload (x_fadd (x_iastore (x_iinc 2 1 (x_goto 56 K)))) := ((xe_iaload).trans (congrArg (x_iaload) ((xe_fadd).trans (congrArg (x_fadd) ((xe_iastore).trans (congrArg (x_iastore) ((xe_iinc 2 1).trans (congrArg (x_iinc 2 1) (xe_goto 56)))))))))
theorem bk_X9_takePoints_152 : ck_ fX9 none cX9_takePoints 152 [.iaload, .fadd, .iastore, .aload 0, .tableswitch 0 9 7 #[], .iload 5, .dup2, .iaload, .aload 0, .tableswitch 0 9 5 #[], .tableswitch 0 0 1 #[], .iload 5, .iload 1, .if_icmp .ne 180, .iconst 1, .goto 181] 180 = true := qck_r (nn_ _) (by decide +kernel)
theorem bs_X9_takePoints_152 {P : Zt → Option Zv → Prop} (K : Int → Zl → List Zv → Zt → Prop) : sx_ K P [.iaload, .fadd, .iastore, .aload 0, .tableswitch 0 9 7 #[], .iload 5, .dup2, .iaload, .aload 0, .tableswitch 0 9 5 #[], .tableswitch 0 0 1 #[], .iload 5, .iload 1, .if_icmp .ne 180, .iconst 1, .goto 181] 180 = x_iaload (x_fadd (x_iastore (x_aload 0 (x_g1 109 587 (x_iload 5 (x_dup2 (x_iaload (x_aload 0 (x_g5 109 100 5 (x_g2 100 401 (x_iload 5 (x_iload 1 (x_if_icmp .ne 180 K (x_iconst 1 (x_goto 181 K))))))))))))))) := ((xe_iaload).trans (congrArg (x_iaload) ((xe_fadd).trans (congrArg (x_fadd) ((xe_iastore).trans (congrArg (x_iastore) ((xe_aload 0).trans (congrArg (x_aload 0) ((xe_g1 (kk := 109) rfl tl_9_7).trans (congrArg (x_g1 109 587) ((xe_iload 5).trans (congrArg (x_iload 5) ((xe_dup2).trans (congrArg (x_dup2) ((xe_iaload).trans (congrArg (x_iaload) ((xe_aload 0).trans (congrArg (x_aload 0) ((xe_g5 (kk := 109) rfl tl_9_5).trans (congrArg (x_g5 109 100 5) ((xe_g2 (kk := 100) rfl tl_0_1).trans (congrArg (x_g2 100 401) ((xe_iload 5).trans (congrArg (x_iload 5) ((xe_iload 1).trans (congrArg (x_iload 1) ((xe_if_icmp .ne 180).trans (congrArg (x_if_icmp .ne 180 K) ((xe_iconst 1).trans (congrArg (x_iconst 1) (xe_goto 181)))))))))))))))))))))))))))))))
theorem bk_X9_takePoints_16 : ck_ fX9 none cX9_takePoints 16 [.iload 2, .aload 0, .tableswitch 0 9 5 #[], .tableswitch 0 0 5 #[], .if_icmp .ge 54, .aload 0, .tableswitch 0 9 7 #[], .iload 2, .aload 0, .tableswitch 0 9 1 #[], .tableswitch 0 7 2 #[], .iload 2, .iconst 8, .imul, .iconst 6, .iadd, .iaload, .iastore, .iinc 2 1, .goto 16] 54 = true := qck_r (nn_ _) (by decide +kernel)
theorem bs_X9_takePoints_16 {P : Zt → Option Zv → Prop} (K : Int → Zl → List Zv → Zt → Prop) : sx_ K P [.iload 2, .aload 0, .tableswitch 0 9 5 #[], .tableswitch 0 0 5 #[], .if_icmp .ge 54, .aload 0, .tableswitch 0 9 7 #[], .iload 2, .aload 0, .tableswitch 0 9 1 #[], .tableswitch 0 7 2 #[], .iload 2, .iconst 8, .imul, .iconst 6, .iadd, .iaload, .iastore, .iinc 2 1, .goto 16] 54 = x_iload 2 (x_aload 0 (x_g5 109 100 5 (x_g0 100 5 0 12 (x_if_icmp .ge 54 K (x_aload 0 (x_g1 109 587 (x_iload 2 (x_aload 0 (x_g1 109 107 (x_g1 107 542 (x_iload 2 (x_iconst 8 (x_imul (x_iconst 6 (x_iadd (x_iaload (x_iastore (x_iinc 2 1 (x_goto 16 K))))))))))))))))))) := ((xe_iload 2).trans (congrArg (x_iload 2) ((xe_aload 0).trans (congrArg (x_aload 0) ((xe_g5 (kk := 109) rfl tl_9_5).trans (congrArg (x_g5 109 100 5) ((xe_g0 (kk := 100) rfl tl_0_5).trans (congrArg (x_g0 100 5 0 12) ((xe_if_icmp .ge 54).trans (congrArg (x_if_icmp .ge 54 K) ((xe_aload 0).trans (congrArg (x_aload 0) ((xe_g1 (kk := 109) rfl tl_9_7).trans (congrArg (x_g1 109 587) ((xe_iload 2).trans (congrArg (x_iload 2) ((xe_aload 0).trans (congrArg (x_aload 0) ((xe_g1 (kk := 109) rfl tl_9_1).trans (congrArg (x_g1 109 107) ((xe_g1 (kk := 107) rfl tl_7_2).trans (congrArg (x_g1 107 542) ((xe_iload 2).trans (congrArg (x_iload 2) ((xe_iconst 8).trans (congrArg (x_iconst 8) ((xe_imul).trans (congrArg (x_imul) ((xe_iconst 6).trans (congrArg (x_iconst 6) ((xe_iadd).trans (congrArg (x_iadd) ((xe_iaload).trans (congrArg (x_iaload) ((xe_iastore).trans (congrArg (x_iastore) ((xe_iinc 2 1).trans (congrArg (x_iinc 2 1) (xe_goto 16)))))))))))))))))))))))))))))))))))))))
theorem bk_X9_takePoints_54 : ck_ fX9 none cX9_takePoints 54 [.iconst 0, .istore 2] 56 = true := qck_r (nn_ _) (by decide +kernel)
theorem bs_X9_takePoints_54 {P : Zt → Option Zv → Prop} (K : Int → Zl → List Zv → Zt → Prop) : sx_ K P [.iconst 0, .istore 2] 56 = x_iconst 0 (x_istore 2 (K 56)) := ((xe_iconst 0).trans (congrArg (x_iconst 0) ((xe_istore 2).trans (congrArg (x_istore 2) xe_nil))))
theorem bk_X9_takePoints_0 : ck_ fX9 none cX9_takePoints 0 [.aload 0, .tableswitch 0 9 1 #[], .aload 0, .tableswitch 0 9 5 #[], .iconst 999] 11 = true := qck_r (nn_ _) (by decide +kernel)
theorem bs_X9_takePoints_0 {P : Zt → Option Zv → Prop} (K : Int → Zl → List Zv → Zt → Prop) : sx_ K P [.aload 0, .tableswitch 0 9 1 #[], .aload 0, .tableswitch 0 9 5 #[], .iconst 999] 11 = x_aload 0 (x_g1 109 107 (x_aload 0 (x_g5 109 100 5 (x_iconst 999 (K 11))))) := ((xe_aload 0).trans (congrArg (x_aload 0) ((xe_g1 (kk := 109) rfl tl_9_1).trans (congrArg (x_g1 109 107) ((xe_aload 0).trans (congrArg (x_aload 0) ((xe_g5 (kk := 109) rfl tl_9_5).trans (congrArg (x_g5 109 100 5) ((xe_iconst 999).trans (congrArg (x_iconst 999) xe_nil))))))))))
set_option maxRecDepth 100000 in
theorem cl_X9_124 : cv_ RX9 124 yX7_tally zX7_tally 7 2 := ⟨gi_V (lwq_6 (dqc_m (dqa_m (List.mem_of_getElem? (i := 6) rfl))) rfl : Cond.methodLink RX9 124 yX7_tally ∈ lw_g) (lwq_5 (dqc_m (dqc_m (dqc_m (dqc_m (dqc_m (dqc_m (dqa_m (List.mem_of_getElem? (i := 1) rfl)))))))) rfl : Cond.instanceMethod yX7_tally ∈ lw_g) (lwq_5 (dqc_m (dqc_m (dqc_m (dqc_m (dqc_m (dqc_m (dqa_m (List.mem_of_getElem? (i := 2) rfl)))))))) rfl : Cond.selects yX7_tally.cls yX7_tally yX7_tally ∈ lw_g) (lwq_1 (List.mem_of_getElem? (i := 5) rfl) rfl : Cond.initialized yX7_tally.cls ∈ lw_g) (lwq_5 (dqc_m (dqc_m (dqc_m (dqc_m (dqc_m (dqc_m (dqa_m (List.mem_of_getElem? (i := 3) rfl)))))))) rfl : Cond.code yX7_tally cX7_tally 5 none ∈ lw_g), ⟨nmh_7.1, nmh_7.2, pdq_31⟩, ⟨_, _, rfl⟩⟩
theorem bk_X9_takePoints_14 : ck_ fX9 none cX9_takePoints 14 [.iconst 0, .istore 2] 16 = true := qck_r (nn_ _) (by decide +kernel)
theorem bs_X9_takePoints_14 {P : Zt → Option Zv → Prop} (K : Int → Zl → List Zv → Zt → Prop) : sx_ K P [.iconst 0, .istore 2] 16 = x_iconst 0 (x_istore 2 (K 16)) := ((xe_iconst 0).trans (congrArg (x_iconst 0) ((xe_istore 2).trans (congrArg (x_istore 2) xe_nil))))
abbrev po_X9_takePoints (T : Zt) (t : Int) : Zt → Option Zv → Prop := fun T' r => r = none ∧ fr_ [(107, [1]), (542, []), (543, []), (544, []), (545, []), (546, []), (587, []), (109, [6])] T T' ∧ (0 = (0 : Int))
set_option maxHeartbeats 4000000 in
theorem ct_X9_takePoints {T : Zt} {t : Int} (hka : KA_ T) (hkc : KC_ T) (hks : KS_ T) (hc9 : 1 ≤ T 109 0 5 ∧ T 109 0 5 ≤ T 106 0 2) (ht : 0 ≤ t ∧ t ≤ 11) : Ct_ yX9_takePoints zX9_takePoints T [vR 109 0, vI t] (po_X9_takePoints T t) := by
  refine ct_of pn_9 rfl rfl (Nat.le_of_ble_eq_true rfl) (fun hT hav => ?_)
  have hr_t : -2147483648 ≤ t ∧ t ≤ 2147483647 := hav (vI t) (List.mem_cons_of_mem _ List.mem_cons_self)
  have hz : zX9_takePoints.2.2.2.1 = some .boolean → ∀ (T' : Zt) (x : Int), po_X9_takePoints T t T' (some (vI x)) → 0 ≤ x ∧ x ≤ 1 := fun h => by cases h
  have hk2 := hkc (T 109 0 5 - 1) (by omega) (by omega)
  have hb_matchCount : 0 ≤ T 106 0 4 ∧ T 106 0 4 ≤ 400 := bd_f hT 106 4 tl_6_4 0
  have hfm : 0 ≤ T 100 (T 109 0 5 - 1) 7 ∧ T 100 (T 109 0 5 - 1) 7 ≤ 400 := bd_f hT 100 7 tl_0_7 (T 109 0 5 - 1)
  have hmc : 0 ≤ T 100 (T 109 0 5 - 1) 8 ∧ T 100 (T 109 0 5 - 1) 8 ≤ 400 := bd_f hT 100 8 tl_0_8 (T 109 0 5 - 1)
  have hen : 0 ≤ T 100 (T 109 0 5 - 1) 5 ∧ T 100 (T 109 0 5 - 1) 5 ≤ 12 := bd_f hT 100 5 tl_0_5 (T 109 0 5 - 1)
  show J_ zX9_takePoints T (po_X9_takePoints T t) 0 0 0 [some (vR 109 0), some (vI t), none, none, none, none] [] T
  have c_56 : ∀ (nn : Nat) (k : Int) (T2 : Zt), ((T 100 (T 109 0 5 - 1) 8 - k).toNat) ≤ nn → (fr_ [(107, [1]), (542, []), (543, []), (544, []), (545, []), (546, []), (587, [])] T T2) → (0 ≤ k ∧ k ≤ T 100 (T 109 0 5 - 1) 8) → J_ zX9_takePoints T (po_X9_takePoints T t) 0 0 56 [some (vR 109 0), some (vI t), some (vI k), none, none, none] [] T2 := by
    intro nn
    induction nn using Nat.strongRecOn with
    | _ nn ih_56 =>
      intro k T2 hm_56 hf_56 i2
      replace hm_56 := fun (_ : Unit) => hm_56
      refine j_blx (F := fX9) tb_X9 (nn_ _) bk_X9_takePoints_56 bs_X9_takePoints_56 hz (fun K hK => ?_)
      have e2 : T2 109 0 5 = T 109 0 5 := hf_56 109 0 5 rfl
      refine And.intro (fun c1 => ?_) (fun c1 => ?_)
      · exact absurd c1 (by omega)
      · intro b3 b3b
        have e4 : T2 100 (T 109 0 5 - 1) 8 = T 100 (T 109 0 5 - 1) 8 := hf_56 100 (T 109 0 5 - 1) 8 rfl
        have e5 : T2 100 (T2 109 0 5 - 1) 8 = T 100 (T 109 0 5 - 1) 8 := by rw [e2]; exact e4
        rw [e5] at b3 b3b ⊢
        refine And.intro (fun c6 => ?_) (fun c6 => ?_)
        · refine hK 190 _ [] T2 ?_
          refine j_blx (F := fX9) tb_X9 (nn_ _) bk_X9_takePoints_190 bs_X9_takePoints_190 hz (fun K hK => ?_)
          refine ix_i (by omega) ?_
          intro b7 b7b
          refine bd_i (by omega) ?_
          refine x_nm (fun U8 hU8 => ?_)
          have e9 := up_f hU8
          refine (show po_X9_takePoints T t U8 (none) from ?_)
          exact ⟨rfl, fr_u (fr_t (fr_0 _ _) (fr_s hf_56 rfl)) hU8 rfl, by rfl⟩
        · have e11 : T2 109 0 5 = T 109 0 5 := hf_56 109 0 5 rfl
          refine And.intro (fun c10 => ?_) (fun c10 => ?_)
          · exact absurd c10 (by omega)
          · intro b12 b12b
            have e13 : T2 100 (T 109 0 5 - 1) 7 = T 100 (T 109 0 5 - 1) 7 := hf_56 100 (T 109 0 5 - 1) 7 rfl
            have e14 : T2 100 (T2 109 0 5 - 1) 7 = T 100 (T 109 0 5 - 1) 7 := by rw [e11]; exact e13
            rw [e14] at b12 b12b ⊢
            refine rg_i (by omega) ?_
            refine ix_i (by omega) ?_
            have e16 : T2 523 0 ((T 100 (T 109 0 5 - 1) 7) + k) = T 523 0 ((T 100 (T 109 0 5 - 1) 7) + k) := hf_56 523 0 ((T 100 (T 109 0 5 - 1) 7) + k) rfl
            refine And.intro (fun c15 => ?_) (fun c15 => ?_)
            · exact absurd (show T 523 0 (T 100 (T 109 0 5 - 1) 7 + k) = 0 by omega) (hka.2 _ (by omega) (by omega))
            · intro b17 b17b
              have e18 : T2 102 ((T 100 (T 109 0 5 - 1) 7) + k) 1 = T 102 ((T 100 (T 109 0 5 - 1) 7) + k) 1 := hf_56 102 ((T 100 (T 109 0 5 - 1) 7) + k) 1 rfl
              rw [e18] at b17 b17b ⊢
              refine ix_i (by omega) ?_
              intro b19 b19b
              have e20 : T2 584 0 (T 102 ((T 100 (T 109 0 5 - 1) 7) + k) 1) = T 584 0 (T 102 ((T 100 (T 109 0 5 - 1) 7) + k) 1) := hf_56 584 0 (T 102 ((T 100 (T 109 0 5 - 1) 7) + k) 1) rfl
              rw [e20] at b19 b19b ⊢
              refine And.intro (fun c21 => ?_) (fun c21 => ?_)
              · refine hK 184 [some (vR 109 0), some (vI t), some (vI k), some (vR 102 ((T 100 (T 109 0 5 - 1) 7) + k)), none, none] [] T2 ?_
                refine j_blx (F := fX9) tb_X9 (nn_ _) bk_X9_takePoints_184 bs_X9_takePoints_184 hz (fun K hK => ?_)
                refine rg_i (by omega) ?_
                refine hK 56 [some (vR 109 0), some (vI t), some (vI (k + 1)), some (vR 102 ((T 100 (T 109 0 5 - 1) 7) + k)), none, none] [] T2 ?_
                refine j_drop [some (vR 109 0), some (vI t), some (vI (k + 1)), none, none, none] (fun k v hk => ?_) rfl ?_
                · match k, hk with
                  | 0, hk => exact hk
                  | 1, hk => exact hk
                  | 2, hk => exact hk
                  | 3, hk => cases hk
                  | 4, hk => cases hk
                  | 5, hk => cases hk
                  | k + 6, hk => cases hk
                refine ih_56 _ ?_ (k + 1) T2 (Nat.le_refl _) ?_ ?_
                · have hm_56 := hm_56 (); omega
                · exact fr_t (fr_0 _ _) (fr_s hf_56 rfl)
                · omega
              · have hs9 := hks (T 109 0 5 - 1) (by omega) (by omega) (T 100 (T 109 0 5 - 1) 7 + k) (by omega) (by omega)
                have e23 : T2 109 0 5 = T 109 0 5 := hf_56 109 0 5 rfl
                refine And.intro (fun c22 => ?_) (fun c22 => ?_)
                · exact absurd c22 (by omega)
                · intro b24 b24b
                  have e25 : T2 102 ((T 100 (T 109 0 5 - 1) 7) + k) 3 = T 102 ((T 100 (T 109 0 5 - 1) 7) + k) 3 := hf_56 102 ((T 100 (T 109 0 5 - 1) 7) + k) 3 rfl
                  rw [e25] at b24 b24b ⊢
                  refine ix_i (by omega) ?_
                  intro b26 b26b
                  have e27 : T2 404 (T 109 0 5 - 1) (T 102 ((T 100 (T 109 0 5 - 1) 7) + k) 3) = T 404 (T 109 0 5 - 1) (T 102 ((T 100 (T 109 0 5 - 1) 7) + k) 3) := hf_56 404 (T 109 0 5 - 1) (T 102 ((T 100 (T 109 0 5 - 1) 7) + k) 3) rfl
                  have e28 : T2 404 (T2 109 0 5 - 1) (T 102 ((T 100 (T 109 0 5 - 1) 7) + k) 3) = T 404 (T 109 0 5 - 1) (T 102 ((T 100 (T 109 0 5 - 1) 7) + k) 3) := by rw [e23]; exact e27
                  rw [e28] at b26 b26b ⊢
                  have e30 : T2 109 0 5 = T 109 0 5 := hf_56 109 0 5 rfl
                  refine And.intro (fun c29 => ?_) (fun c29 => ?_)
                  · exact absurd c29 (by omega)
                  · intro b31 b31b
                    have e32 : T2 102 ((T 100 (T 109 0 5 - 1) 7) + k) 4 = T 102 ((T 100 (T 109 0 5 - 1) 7) + k) 4 := hf_56 102 ((T 100 (T 109 0 5 - 1) 7) + k) 4 rfl
                    rw [e32] at b31 b31b ⊢
                    refine ix_i (by omega) ?_
                    intro b33 b33b
                    have e34 : T2 404 (T 109 0 5 - 1) (T 102 ((T 100 (T 109 0 5 - 1) 7) + k) 4) = T 404 (T 109 0 5 - 1) (T 102 ((T 100 (T 109 0 5 - 1) 7) + k) 4) := hf_56 404 (T 109 0 5 - 1) (T 102 ((T 100 (T 109 0 5 - 1) 7) + k) 4) rfl
                    have e35 : T2 404 (T2 109 0 5 - 1) (T 102 ((T 100 (T 109 0 5 - 1) 7) + k) 4) = T 404 (T 109 0 5 - 1) (T 102 ((T 100 (T 109 0 5 - 1) 7) + k) 4) := by rw [e30]; exact e34
                    rw [e35] at b33 b33b ⊢
                    refine ix_i (by omega) ?_
                    intro b36 b36b
                    have e38 : T2 109 0 5 = T 109 0 5 := hf_56 109 0 5 rfl
                    refine And.intro (fun c37 => ?_) (fun c37 => ?_)
                    · exact absurd c37 (by omega)
                    · refine And.intro (fun c39 => ?_) (fun c39 => ?_)
                      · refine hK 151 [some (vR 109 0), some (vI t), some (vI k), some (vR 102 ((T 100 (T 109 0 5 - 1) 7) + k)), some (vI (T 404 (T 109 0 5 - 1) (T 102 ((T 100 (T 109 0 5 - 1) 7) + k) 3))), some (vI (T 404 (T 109 0 5 - 1) (T 102 ((T 100 (T 109 0 5 - 1) 7) + k) 4)))] [vR 401 (T2 109 0 5 - 1), vI (T2 587 0 (T 404 (T 109 0 5 - 1) (T 102 ((T 100 (T 109 0 5 - 1) 7) + k) 3))), vI (T 404 (T 109 0 5 - 1) (T 102 ((T 100 (T 109 0 5 - 1) 7) + k) 3)), vR 587 0] T2 ?_
                        refine j_blx (F := fX9) tb_X9 (nn_ _) bk_X9_takePoints_151 bs_X9_takePoints_151 hz (fun K hK => ?_)
                        refine ix_i (by omega) ?_
                        intro b40 b40b
                        have e41 : T2 401 (T 109 0 5 - 1) 3 = T 401 (T 109 0 5 - 1) 3 := hf_56 401 (T 109 0 5 - 1) 3 rfl
                        have e42 : T2 401 (T2 109 0 5 - 1) 3 = T 401 (T 109 0 5 - 1) 3 := by rw [e38]; exact e41
                        rw [e42] at b40 b40b ⊢
                        intro w43 w43b
                        refine iy_i (by omega) (by omega) ?_
                        refine x_nm (fun U44 hU44 => ?_)
                        have e45 := up_f hU44
                        refine ix_i (by omega) ?_
                        intro b46 b46b
                        have e48 : U44 109 0 5 = T 109 0 5 := (up_k hU44 (by exact Nat.ne_of_beq_eq_false rfl) 0 5).trans (hf_56 109 0 5 rfl)
                        refine And.intro (fun c47 => ?_) (fun c47 => ?_)
                        · exact absurd c47 (by omega)
                        · refine And.intro (fun c49 => ?_) (fun c49 => ?_)
                          · refine hK 180 _ [vR 401 (U44 109 0 5 - 1), vI (U44 587 0 (T 404 (T 109 0 5 - 1) (T 102 ((T 100 (T 109 0 5 - 1) 7) + k) 4))), vI (T 404 (T 109 0 5 - 1) (T 102 ((T 100 (T 109 0 5 - 1) 7) + k) 4)), vR 587 0] U44 ?_
                            refine j_blx (F := fX9) tb_X9 (nn_ _) bk_X9_takePoints_180 bs_X9_takePoints_180 hz (fun K hK => ?_)
                            refine ix_i (by omega) ?_
                            intro b50 b50b
                            have e51 : U44 401 (T 109 0 5 - 1) 3 = T 401 (T 109 0 5 - 1) 3 := (up_k hU44 (by exact Nat.ne_of_beq_eq_false rfl) (T 109 0 5 - 1) 3).trans (hf_56 401 (T 109 0 5 - 1) 3 rfl)
                            have e52 : U44 401 (U44 109 0 5 - 1) 3 = T 401 (T 109 0 5 - 1) 3 := by rw [e48]; exact e51
                            rw [e52] at b50 b50b ⊢
                            intro w53 w53b
                            refine iy_i (by omega) (by omega) ?_
                            refine x_nm (fun U54 hU54 => ?_)
                            have e55 := up_f hU54
                            refine rg_i (by omega) ?_
                            refine hK 56 [some (vR 109 0), some (vI t), some (vI (k + 1)), some (vR 102 ((T 100 (T 109 0 5 - 1) 7) + k)), some (vI (T 404 (T 109 0 5 - 1) (T 102 ((T 100 (T 109 0 5 - 1) 7) + k) 3))), some (vI (T 404 (T 109 0 5 - 1) (T 102 ((T 100 (T 109 0 5 - 1) 7) + k) 4)))] [] U54 ?_
                            refine j_drop [some (vR 109 0), some (vI t), some (vI (k + 1)), none, none, none] (fun k v hk => ?_) rfl ?_
                            · match k, hk with
                              | 0, hk => exact hk
                              | 1, hk => exact hk
                              | 2, hk => exact hk
                              | 3, hk => cases hk
                              | 4, hk => cases hk
                              | 5, hk => cases hk
                              | k + 6, hk => cases hk
                            refine ih_56 _ ?_ (k + 1) U54 (Nat.le_refl _) ?_ ?_
                            · have hm_56 := hm_56 (); omega
                            · exact fr_u (fr_u (fr_t (fr_0 _ _) (fr_s hf_56 rfl)) hU44 rfl) hU54 rfl
                            · omega
                          · refine hK 181 [some (vR 109 0), some (vI t), some (vI k), some (vR 102 ((T 100 (T 109 0 5 - 1) 7) + k)), some (vI (T 404 (T 109 0 5 - 1) (T 102 ((T 100 (T 109 0 5 - 1) 7) + k) 3))), some (vI (T 404 (T 109 0 5 - 1) (T 102 ((T 100 (T 109 0 5 - 1) 7) + k) 4)))] [vI 1, vR 401 (U44 109 0 5 - 1), vI (U44 587 0 (T 404 (T 109 0 5 - 1) (T 102 ((T 100 (T 109 0 5 - 1) 7) + k) 4))), vI (T 404 (T 109 0 5 - 1) (T 102 ((T 100 (T 109 0 5 - 1) 7) + k) 4)), vR 587 0] U44 ?_
                            refine j_blx (F := fX9) tb_X9 (nn_ _) bk_X9_takePoints_181 bs_X9_takePoints_181 hz (fun K hK => ?_)
                            refine ix_i (by omega) ?_
                            intro b56 b56b
                            have e57 : U44 401 (T 109 0 5 - 1) 1 = T 401 (T 109 0 5 - 1) 1 := (up_k hU44 (by exact Nat.ne_of_beq_eq_false rfl) (T 109 0 5 - 1) 1).trans (hf_56 401 (T 109 0 5 - 1) 1 rfl)
                            have e58 : U44 401 (U44 109 0 5 - 1) 1 = T 401 (T 109 0 5 - 1) 1 := by rw [e48]; exact e57
                            rw [e58] at b56 b56b ⊢
                            intro w59 w59b
                            refine iy_i (by omega) (by omega) ?_
                            refine x_nm (fun U60 hU60 => ?_)
                            have e61 := up_f hU60
                            refine rg_i (by omega) ?_
                            refine hK 56 [some (vR 109 0), some (vI t), some (vI (k + 1)), some (vR 102 ((T 100 (T 109 0 5 - 1) 7) + k)), some (vI (T 404 (T 109 0 5 - 1) (T 102 ((T 100 (T 109 0 5 - 1) 7) + k) 3))), some (vI (T 404 (T 109 0 5 - 1) (T 102 ((T 100 (T 109 0 5 - 1) 7) + k) 4)))] [] U60 ?_
                            refine j_drop [some (vR 109 0), some (vI t), some (vI (k + 1)), none, none, none] (fun k v hk => ?_) rfl ?_
                            · match k, hk with
                              | 0, hk => exact hk
                              | 1, hk => exact hk
                              | 2, hk => exact hk
                              | 3, hk => cases hk
                              | 4, hk => cases hk
                              | 5, hk => cases hk
                              | k + 6, hk => cases hk
                            refine ih_56 _ ?_ (k + 1) U60 (Nat.le_refl _) ?_ ?_
                            · have hm_56 := hm_56 (); omega
                            · exact fr_u (fr_u (fr_t (fr_0 _ _) (fr_s hf_56 rfl)) hU44 rfl) hU60 rfl
                            · omega
                      · refine hK 152 _ [vI 1, vR 401 (T2 109 0 5 - 1), vI (T2 587 0 (T 404 (T 109 0 5 - 1) (T 102 ((T 100 (T 109 0 5 - 1) 7) + k) 3))), vI (T 404 (T 109 0 5 - 1) (T 102 ((T 100 (T 109 0 5 - 1) 7) + k) 3)), vR 587 0] T2 ?_
                        refine j_blx (F := fX9) tb_X9 (nn_ _) bk_X9_takePoints_152 bs_X9_takePoints_152 hz (fun K hK => ?_)
                        refine ix_i (by omega) ?_
                        intro b62 b62b
                        have e63 : T2 401 (T 109 0 5 - 1) 1 = T 401 (T 109 0 5 - 1) 1 := hf_56 401 (T 109 0 5 - 1) 1 rfl
                        have e64 : T2 401 (T2 109 0 5 - 1) 1 = T 401 (T 109 0 5 - 1) 1 := by rw [e38]; exact e63
                        rw [e64] at b62 b62b ⊢
                        intro w65 w65b
                        refine iy_i (by omega) (by omega) ?_
                        refine x_nm (fun U66 hU66 => ?_)
                        have e67 := up_f hU66
                        refine ix_i (by omega) ?_
                        intro b68 b68b
                        have e70 : U66 109 0 5 = T 109 0 5 := (up_k hU66 (by exact Nat.ne_of_beq_eq_false rfl) 0 5).trans (hf_56 109 0 5 rfl)
                        refine And.intro (fun c69 => ?_) (fun c69 => ?_)
                        · exact absurd c69 (by omega)
                        · refine And.intro (fun c71 => ?_) (fun c71 => ?_)
                          · refine hK 180 _ [vR 401 (U66 109 0 5 - 1), vI (U66 587 0 (T 404 (T 109 0 5 - 1) (T 102 ((T 100 (T 109 0 5 - 1) 7) + k) 4))), vI (T 404 (T 109 0 5 - 1) (T 102 ((T 100 (T 109 0 5 - 1) 7) + k) 4)), vR 587 0] U66 ?_
                            refine j_blx (F := fX9) tb_X9 (nn_ _) bk_X9_takePoints_180 bs_X9_takePoints_180 hz (fun K hK => ?_)
                            refine ix_i (by omega) ?_
                            intro b72 b72b
                            have e73 : U66 401 (T 109 0 5 - 1) 3 = T 401 (T 109 0 5 - 1) 3 := (up_k hU66 (by exact Nat.ne_of_beq_eq_false rfl) (T 109 0 5 - 1) 3).trans (hf_56 401 (T 109 0 5 - 1) 3 rfl)
                            have e74 : U66 401 (U66 109 0 5 - 1) 3 = T 401 (T 109 0 5 - 1) 3 := by rw [e70]; exact e73
                            rw [e74] at b72 b72b ⊢
                            intro w75 w75b
                            refine iy_i (by omega) (by omega) ?_
                            refine x_nm (fun U76 hU76 => ?_)
                            have e77 := up_f hU76
                            refine rg_i (by omega) ?_
                            refine hK 56 [some (vR 109 0), some (vI t), some (vI (k + 1)), some (vR 102 ((T 100 (T 109 0 5 - 1) 7) + k)), some (vI (T 404 (T 109 0 5 - 1) (T 102 ((T 100 (T 109 0 5 - 1) 7) + k) 3))), some (vI (T 404 (T 109 0 5 - 1) (T 102 ((T 100 (T 109 0 5 - 1) 7) + k) 4)))] [] U76 ?_
                            refine j_drop [some (vR 109 0), some (vI t), some (vI (k + 1)), none, none, none] (fun k v hk => ?_) rfl ?_
                            · match k, hk with
                              | 0, hk => exact hk
                              | 1, hk => exact hk
                              | 2, hk => exact hk
                              | 3, hk => cases hk
                              | 4, hk => cases hk
                              | 5, hk => cases hk
                              | k + 6, hk => cases hk
                            refine ih_56 _ ?_ (k + 1) U76 (Nat.le_refl _) ?_ ?_
                            · have hm_56 := hm_56 (); omega
                            · exact fr_u (fr_u (fr_t (fr_0 _ _) (fr_s hf_56 rfl)) hU66 rfl) hU76 rfl
                            · omega
                          · refine hK 181 [some (vR 109 0), some (vI t), some (vI k), some (vR 102 ((T 100 (T 109 0 5 - 1) 7) + k)), some (vI (T 404 (T 109 0 5 - 1) (T 102 ((T 100 (T 109 0 5 - 1) 7) + k) 3))), some (vI (T 404 (T 109 0 5 - 1) (T 102 ((T 100 (T 109 0 5 - 1) 7) + k) 4)))] [vI 1, vR 401 (U66 109 0 5 - 1), vI (U66 587 0 (T 404 (T 109 0 5 - 1) (T 102 ((T 100 (T 109 0 5 - 1) 7) + k) 4))), vI (T 404 (T 109 0 5 - 1) (T 102 ((T 100 (T 109 0 5 - 1) 7) + k) 4)), vR 587 0] U66 ?_
                            refine j_blx (F := fX9) tb_X9 (nn_ _) bk_X9_takePoints_181 bs_X9_takePoints_181 hz (fun K hK => ?_)
                            refine ix_i (by omega) ?_
                            intro b78 b78b
                            have e79 : U66 401 (T 109 0 5 - 1) 1 = T 401 (T 109 0 5 - 1) 1 := (up_k hU66 (by exact Nat.ne_of_beq_eq_false rfl) (T 109 0 5 - 1) 1).trans (hf_56 401 (T 109 0 5 - 1) 1 rfl)
                            have e80 : U66 401 (U66 109 0 5 - 1) 1 = T 401 (T 109 0 5 - 1) 1 := by rw [e70]; exact e79
                            rw [e80] at b78 b78b ⊢
                            intro w81 w81b
                            refine iy_i (by omega) (by omega) ?_
                            refine x_nm (fun U82 hU82 => ?_)
                            have e83 := up_f hU82
                            refine rg_i (by omega) ?_
                            refine hK 56 [some (vR 109 0), some (vI t), some (vI (k + 1)), some (vR 102 ((T 100 (T 109 0 5 - 1) 7) + k)), some (vI (T 404 (T 109 0 5 - 1) (T 102 ((T 100 (T 109 0 5 - 1) 7) + k) 3))), some (vI (T 404 (T 109 0 5 - 1) (T 102 ((T 100 (T 109 0 5 - 1) 7) + k) 4)))] [] U82 ?_
                            refine j_drop [some (vR 109 0), some (vI t), some (vI (k + 1)), none, none, none] (fun k v hk => ?_) rfl ?_
                            · match k, hk with
                              | 0, hk => exact hk
                              | 1, hk => exact hk
                              | 2, hk => exact hk
                              | 3, hk => cases hk
                              | 4, hk => cases hk
                              | 5, hk => cases hk
                              | k + 6, hk => cases hk
                            refine ih_56 _ ?_ (k + 1) U82 (Nat.le_refl _) ?_ ?_
                            · have hm_56 := hm_56 (); omega
                            · exact fr_u (fr_u (fr_t (fr_0 _ _) (fr_s hf_56 rfl)) hU66 rfl) hU82 rfl
                            · omega
  have c_16 : ∀ (nn : Nat) (k : Int) (T1 : Zt), ((12 - k).toNat) ≤ nn → (fr_ [(107, [1]), (542, []), (543, []), (544, []), (545, []), (546, []), (587, [])] T T1) → (0 ≤ k ∧ k ≤ 12) → J_ zX9_takePoints T (po_X9_takePoints T t) 0 0 16 [some (vR 109 0), some (vI t), some (vI k), none, none, none] [] T1 := by
    intro nn
    induction nn using Nat.strongRecOn with
    | _ nn ih_16 =>
      intro k T1 hm_16 hf_16 i1
      replace hm_16 := fun (_ : Unit) => hm_16
      refine j_blx (F := fX9) tb_X9 (nn_ _) bk_X9_takePoints_16 bs_X9_takePoints_16 hz (fun K hK => ?_)
      have e85 : T1 109 0 5 = T 109 0 5 := hf_16 109 0 5 rfl
      refine And.intro (fun c84 => ?_) (fun c84 => ?_)
      · exact absurd c84 (by omega)
      · intro b86 b86b
        have e87 : T1 100 (T 109 0 5 - 1) 5 = T 100 (T 109 0 5 - 1) 5 := hf_16 100 (T 109 0 5 - 1) 5 rfl
        have e88 : T1 100 (T1 109 0 5 - 1) 5 = T 100 (T 109 0 5 - 1) 5 := by rw [e85]; exact e87
        rw [e88] at b86 b86b ⊢
        refine And.intro (fun c89 => ?_) (fun c89 => ?_)
        · refine hK 54 _ [] T1 ?_
          refine j_blx (F := fX9) tb_X9 (nn_ _) bk_X9_takePoints_54 bs_X9_takePoints_54 hz (fun K hK => ?_)
          refine hK 56 [some (vR 109 0), some (vI t), some (vI 0), none, none, none] [] T1 ?_
          refine c_56 _ 0 T1 (Nat.le_refl _) ?_ ?_
          · exact fr_t (fr_0 _ _) (fr_s hf_16 rfl)
          · omega
        · refine rg_i (by omega) ?_
          refine rg_i (by omega) ?_
          refine ix_i (by omega) ?_
          intro b90 b90b
          refine iy_i (by omega) (by omega) ?_
          refine x_nm (fun U91 hU91 => ?_)
          have e92 := up_f hU91
          refine rg_i (by omega) ?_
          refine hK 16 [some (vR 109 0), some (vI t), some (vI (k + 1)), none, none, none] [] U91 ?_
          refine ih_16 _ ?_ (k + 1) U91 (Nat.le_refl _) ?_ ?_
          · have hm_16 := hm_16 (); omega
          · exact fr_u (fr_t (fr_0 _ _) (fr_s hf_16 rfl)) hU91 rfl
          · omega
  refine j_blx (F := fX9) tb_X9 (nn_ _) bk_X9_takePoints_0 bs_X9_takePoints_0 hz (fun K hK => ?_)
  refine And.intro (fun c93 => ?_) (fun c93 => ?_)
  · exact absurd c93 (by omega)
  · refine hK 11 _ [vI 999, vR 100 (T 109 0 5 - 1), vR 107 0] T ?_
    refine j_callV (y := yX7_tally) (Yc := zX7_tally) (rest := []) [vR 100 (T 109 0 5 - 1), vI 999] (ct_X7_tally (T := T) (hka) (hkc) (by omega)) cl_X9_124 (qd_c (by decide +kernel)) (nn_ _) rfl (rf_of rfl) (Nat.le_of_ble_eq_true rfl) (Nat.le_of_ble_eq_true rfl) (Nat.le_of_ble_eq_true rfl) rfl ?_
    rintro U94 _ ⟨rfl, fU94, qU94⟩
    show J_ zX9_takePoints T (po_X9_takePoints T t) 0 0 14 _ [] U94
    refine j_blx (F := fX9) tb_X9 (nn_ _) bk_X9_takePoints_14 bs_X9_takePoints_14 hz (fun K hK => ?_)
    refine hK 16 [some (vR 109 0), some (vI t), some (vI 0), none, none, none] [] U94 ?_
    refine c_16 _ 0 U94 (Nat.le_refl _) ?_ ?_
    · exact fr_t (fr_0 _ _) (fr_s fU94 rfl)
    · omega
abbrev cX9_isFirstBy : ByteArray := prog_11_method_18_code
def yX9_isFirstBy : MethodName := ⟨RX9, "isFirstBy", "(III)Z"⟩
def zX9_isFirstBy : Zm := (RX9, cX9_isFirstBy, 7, (some .boolean), { frames := 5, cells := 0, slots := 0, locals := 127 })
theorem bk_X9_isFirstBy_20 : ck_ fX9 (some .boolean) cX9_isFirstBy 20 [.iload 5, .iload 2, .if_icmp .ge 87, .iload 4, .iconst 3, .frem, .istore 6, .iload 4, .iconst 3, .fdiv, .istore 4, .aload 0, .tableswitch 0 9 1 #[], .aload 0, .tableswitch 0 9 0 #[], .tableswitch 0 6 3 #[], .aload 0, .tableswitch 0 9 8 #[], .iload 5, .iaload, .aaload, .iload 6, .ifCond .ne 66, .iconst 1, .goto 67] 66 = true := qck_r (nn_ _) (by decide +kernel)
theorem bs_X9_isFirstBy_20 {P : Zt → Option Zv → Prop} (K : Int → Zl → List Zv → Zt → Prop) : sx_ K P [.iload 5, .iload 2, .if_icmp .ge 87, .iload 4, .iconst 3, .frem, .istore 6, .iload 4, .iconst 3, .fdiv, .istore 4, .aload 0, .tableswitch 0 9 1 #[], .aload 0, .tableswitch 0 9 0 #[], .tableswitch 0 6 3 #[], .aload 0, .tableswitch 0 9 8 #[], .iload 5, .iaload, .aaload, .iload 6, .ifCond .ne 66, .iconst 1, .goto 67] 66 = x_iload 5 (x_iload 2 (x_if_icmp .ge 87 K (x_iload 4 (x_iconst 3 (x_frem (x_istore 6 (x_iload 4 (x_iconst 3 (x_fdiv (x_istore 4 (x_aload 0 (x_g1 109 107 (x_aload 0 (x_g1 109 106 (x_g1 106 523 (x_aload 0 (x_g1 109 588 (x_iload 5 (x_iaload (x_aaload (x_iload 6 (x_ifCond .ne 66 K (x_iconst 1 (x_goto 67 K)))))))))))))))))))))))) := ((xe_iload 5).trans (congrArg (x_iload 5) ((xe_iload 2).trans (congrArg (x_iload 2) ((xe_if_icmp .ge 87).trans (congrArg (x_if_icmp .ge 87 K) ((xe_iload 4).trans (congrArg (x_iload 4) ((xe_iconst 3).trans (congrArg (x_iconst 3) ((xe_frem).trans (congrArg (x_frem) ((xe_istore 6).trans (congrArg (x_istore 6) ((xe_iload 4).trans (congrArg (x_iload 4) ((xe_iconst 3).trans (congrArg (x_iconst 3) ((xe_fdiv).trans (congrArg (x_fdiv) ((xe_istore 4).trans (congrArg (x_istore 4) ((xe_aload 0).trans (congrArg (x_aload 0) ((xe_g1 (kk := 109) rfl tl_9_1).trans (congrArg (x_g1 109 107) ((xe_aload 0).trans (congrArg (x_aload 0) ((xe_g1 (kk := 109) rfl tl_9_0).trans (congrArg (x_g1 109 106) ((xe_g1 (kk := 106) rfl tl_6_3).trans (congrArg (x_g1 106 523) ((xe_aload 0).trans (congrArg (x_aload 0) ((xe_g1 (kk := 109) rfl tl_9_8).trans (congrArg (x_g1 109 588) ((xe_iload 5).trans (congrArg (x_iload 5) ((xe_iaload).trans (congrArg (x_iaload) ((xe_aaload).trans (congrArg (x_aaload) ((xe_iload 6).trans (congrArg (x_iload 6) ((xe_ifCond .ne 66).trans (congrArg (x_ifCond .ne 66 K) ((xe_iconst 1).trans (congrArg (x_iconst 1) (xe_goto 67)))))))))))))))))))))))))))))))))))))))))))))))))
theorem bk_X9_isFirstBy_87 : ck_ fX9 (some .boolean) cX9_isFirstBy 87 [.aload 0, .tableswitch 0 9 1 #[]] 91 = true := qck_r (nn_ _) (by decide +kernel)
theorem bs_X9_isFirstBy_87 {P : Zt → Option Zv → Prop} (K : Int → Zl → List Zv → Zt → Prop) : sx_ K P [.aload 0, .tableswitch 0 9 1 #[]] 91 = x_aload 0 (x_g1 109 107 (K 91)) := ((xe_aload 0).trans (congrArg (x_aload 0) ((xe_g1 (kk := 109) rfl tl_9_1).trans (congrArg (x_g1 109 107) xe_nil))))
set_option maxRecDepth 100000 in
theorem cl_X9_184 : cv_ RX9 184 yX7_rank zX7_rank 7 0 := ⟨gi_V (lwq_6 (dqc_m (dqc_m (dqc_m (dqa_m (dqa_m (dqa_m (List.mem_of_getElem? (i := 0) rfl))))))) rfl : Cond.methodLink RX9 184 yX7_rank ∈ lw_g) (lwq_5 (dqc_m (dqc_m (dqc_m (dqc_m (dqc_m (dqc_m (dqc_m (List.mem_of_getElem? (i := 1) rfl)))))))) rfl : Cond.instanceMethod yX7_rank ∈ lw_g) (lwq_5 (dqc_m (dqc_m (dqc_m (dqc_m (dqc_m (dqc_m (dqc_m (List.mem_of_getElem? (i := 2) rfl)))))))) rfl : Cond.selects yX7_rank.cls yX7_rank yX7_rank ∈ lw_g) (lwq_1 (List.mem_of_getElem? (i := 5) rfl) rfl : Cond.initialized yX7_rank.cls ∈ lw_g) (lwq_5 (dqc_m (dqc_m (dqc_m (dqc_m (dqc_m (dqc_m (dqc_m (List.mem_of_getElem? (i := 3) rfl)))))))) rfl : Cond.code yX7_rank cX7_rank 3 none ∈ lw_g), ⟨nmh_7.1, nmh_7.2, pdq_1⟩, ⟨_, _, rfl⟩⟩
theorem bk_X9_isFirstBy_94 : ck_ fX9 (some .boolean) cX9_isFirstBy 94 [.aload 0, .tableswitch 0 9 1 #[], .tableswitch 0 7 2 #[], .iload 3, .iconst 8, .imul, .iconst 7, .iadd, .iaload, .iconst 1, .if_icmp .ne 117, .iconst 1, .goto 118] 117 = true := qck_r (nn_ _) (by decide +kernel)
theorem bs_X9_isFirstBy_94 {P : Zt → Option Zv → Prop} (K : Int → Zl → List Zv → Zt → Prop) : sx_ K P [.aload 0, .tableswitch 0 9 1 #[], .tableswitch 0 7 2 #[], .iload 3, .iconst 8, .imul, .iconst 7, .iadd, .iaload, .iconst 1, .if_icmp .ne 117, .iconst 1, .goto 118] 117 = x_aload 0 (x_g1 109 107 (x_g1 107 542 (x_iload 3 (x_iconst 8 (x_imul (x_iconst 7 (x_iadd (x_iaload (x_iconst 1 (x_if_icmp .ne 117 K (x_iconst 1 (x_goto 118 K)))))))))))) := ((xe_aload 0).trans (congrArg (x_aload 0) ((xe_g1 (kk := 109) rfl tl_9_1).trans (congrArg (x_g1 109 107) ((xe_g1 (kk := 107) rfl tl_7_2).trans (congrArg (x_g1 107 542) ((xe_iload 3).trans (congrArg (x_iload 3) ((xe_iconst 8).trans (congrArg (x_iconst 8) ((xe_imul).trans (congrArg (x_imul) ((xe_iconst 7).trans (congrArg (x_iconst 7) ((xe_iadd).trans (congrArg (x_iadd) ((xe_iaload).trans (congrArg (x_iaload) ((xe_iconst 1).trans (congrArg (x_iconst 1) ((xe_if_icmp .ne 117).trans (congrArg (x_if_icmp .ne 117 K) ((xe_iconst 1).trans (congrArg (x_iconst 1) (xe_goto 118)))))))))))))))))))))))))
theorem bk_X9_isFirstBy_117 : ck_ fX9 (some .boolean) cX9_isFirstBy 117 [.iconst 0, .ireturn] 119 = true := qck_r (nn_ _) (by decide +kernel)
theorem bs_X9_isFirstBy_117 {P : Zt → Option Zv → Prop} (K : Int → Zl → List Zv → Zt → Prop) : sx_ K P [.iconst 0, .ireturn] 119 = x_iconst 0 (x_ireturn P) := ((xe_iconst 0).trans (congrArg (x_iconst 0) (xe_ireturn)))
theorem bk_X9_isFirstBy_118 : ck_ fX9 (some .boolean) cX9_isFirstBy 118 [.ireturn] 119 = true := qck_r (nn_ _) (by decide +kernel)
theorem bs_X9_isFirstBy_118 {P : Zt → Option Zv → Prop} (K : Int → Zl → List Zv → Zt → Prop) : sx_ K P [.ireturn] 119 = x_ireturn P := (xe_ireturn)
theorem bk_X9_isFirstBy_66 : ck_ fX9 (some .boolean) cX9_isFirstBy 66 [.iconst 0, .iload 6, .iconst 2, .if_icmp .ne 77, .iconst 1, .goto 78] 77 = true := qck_r (nn_ _) (by decide +kernel)
theorem bs_X9_isFirstBy_66 {P : Zt → Option Zv → Prop} (K : Int → Zl → List Zv → Zt → Prop) : sx_ K P [.iconst 0, .iload 6, .iconst 2, .if_icmp .ne 77, .iconst 1, .goto 78] 77 = x_iconst 0 (x_iload 6 (x_iconst 2 (x_if_icmp .ne 77 K (x_iconst 1 (x_goto 78 K))))) := ((xe_iconst 0).trans (congrArg (x_iconst 0) ((xe_iload 6).trans (congrArg (x_iload 6) ((xe_iconst 2).trans (congrArg (x_iconst 2) ((xe_if_icmp .ne 77).trans (congrArg (x_if_icmp .ne 77 K) ((xe_iconst 1).trans (congrArg (x_iconst 1) (xe_goto 78)))))))))))
theorem bk_X9_isFirstBy_77 : ck_ fX9 (some .boolean) cX9_isFirstBy 77 [.iconst 0] 78 = true := qck_r (nn_ _) (by decide +kernel)
theorem bs_X9_isFirstBy_77 {P : Zt → Option Zv → Prop} (K : Int → Zl → List Zv → Zt → Prop) : sx_ K P [.iconst 0] 78 = x_iconst 0 (K 78) := ((xe_iconst 0).trans (congrArg (x_iconst 0) xe_nil))
set_option maxRecDepth 100000 in
theorem cl_X9_180 : cv_ RX9 180 yX7_addResult zX7_addResult 7 3 := ⟨gi_V (lwq_6 (dqc_m (dqc_m (dqc_m (dqa_m (dqa_m (List.mem_of_getElem? (i := 7) rfl)))))) rfl : Cond.methodLink RX9 180 yX7_addResult ∈ lw_g) (lwq_5 (dqc_m (dqc_m (dqc_m (dqc_m (dqc_m (dqc_m (dqa_m (dqa_m (List.mem_of_getElem? (i := 0) rfl))))))))) rfl : Cond.instanceMethod yX7_addResult ∈ lw_g) (lwq_5 (dqc_m (dqc_m (dqc_m (dqc_m (dqc_m (dqc_m (dqa_m (dqa_m (List.mem_of_getElem? (i := 1) rfl))))))))) rfl : Cond.selects yX7_addResult.cls yX7_addResult yX7_addResult ∈ lw_g) (lwq_1 (List.mem_of_getElem? (i := 5) rfl) rfl : Cond.initialized yX7_addResult.cls ∈ lw_g) (lwq_5 (dqc_m (dqc_m (dqc_m (dqc_m (dqc_m (dqc_m (dqa_m (dqa_m (List.mem_of_getElem? (i := 2) rfl))))))))) rfl : Cond.code yX7_addResult cX7_addResult 6 none ∈ lw_g), ⟨nmh_7.1, nmh_7.2, pdq_30⟩, ⟨_, _, rfl⟩⟩
theorem bk_X9_isFirstBy_81 : ck_ fX9 (some .boolean) cX9_isFirstBy 81 [.iinc 5 1, .goto 20] 87 = true := qck_r (nn_ _) (by decide +kernel)
theorem bs_X9_isFirstBy_81 {P : Zt → Option Zv → Prop} (K : Int → Zl → List Zv → Zt → Prop) : sx_ K P [.iinc 5 1, .goto 20] 87 = x_iinc 5 1 (x_goto 20 K) := ((xe_iinc 5 1).trans (congrArg (x_iinc 5 1) (xe_goto 20)))
theorem bk_X9_isFirstBy_67 : ck_ fX9 (some .boolean) cX9_isFirstBy 67 [.iload 6, .iconst 2, .if_icmp .ne 77, .iconst 1, .goto 78] 77 = true := qck_r (nn_ _) (by decide +kernel)
theorem bs_X9_isFirstBy_67 {P : Zt → Option Zv → Prop} (K : Int → Zl → List Zv → Zt → Prop) : sx_ K P [.iload 6, .iconst 2, .if_icmp .ne 77, .iconst 1, .goto 78] 77 = x_iload 6 (x_iconst 2 (x_if_icmp .ne 77 K (x_iconst 1 (x_goto 78 K)))) := ((xe_iload 6).trans (congrArg (x_iload 6) ((xe_iconst 2).trans (congrArg (x_iconst 2) ((xe_if_icmp .ne 77).trans (congrArg (x_if_icmp .ne 77 K) ((xe_iconst 1).trans (congrArg (x_iconst 1) (xe_goto 78)))))))))
theorem bk_X9_isFirstBy_0 : ck_ fX9 (some .boolean) cX9_isFirstBy 0 [.aload 0, .tableswitch 0 9 1 #[], .aload 0, .tableswitch 0 9 5 #[], .iconst 999] 11 = true := qck_r (nn_ _) (by decide +kernel)
theorem bs_X9_isFirstBy_0 {P : Zt → Option Zv → Prop} (K : Int → Zl → List Zv → Zt → Prop) : sx_ K P [.aload 0, .tableswitch 0 9 1 #[], .aload 0, .tableswitch 0 9 5 #[], .iconst 999] 11 = x_aload 0 (x_g1 109 107 (x_aload 0 (x_g5 109 100 5 (x_iconst 999 (K 11))))) := ((xe_aload 0).trans (congrArg (x_aload 0) ((xe_g1 (kk := 109) rfl tl_9_1).trans (congrArg (x_g1 109 107) ((xe_aload 0).trans (congrArg (x_aload 0) ((xe_g5 (kk := 109) rfl tl_9_5).trans (congrArg (x_g5 109 100 5) ((xe_iconst 999).trans (congrArg (x_iconst 999) xe_nil))))))))))
theorem bk_X9_isFirstBy_14 : ck_ fX9 (some .boolean) cX9_isFirstBy 14 [.iload 1, .istore 4, .iconst 0, .istore 5] 20 = true := qck_r (nn_ _) (by decide +kernel)
theorem bs_X9_isFirstBy_14 {P : Zt → Option Zv → Prop} (K : Int → Zl → List Zv → Zt → Prop) : sx_ K P [.iload 1, .istore 4, .iconst 0, .istore 5] 20 = x_iload 1 (x_istore 4 (x_iconst 0 (x_istore 5 (K 20)))) := ((xe_iload 1).trans (congrArg (x_iload 1) ((xe_istore 4).trans (congrArg (x_istore 4) ((xe_iconst 0).trans (congrArg (x_iconst 0) ((xe_istore 5).trans (congrArg (x_istore 5) xe_nil))))))))
abbrev po_X9_isFirstBy (T : Zt) (a n s : Int) : Zt → Option Zv → Prop := fun T' r => ∃ x : Int, r = some (vI x) ∧ fr_ [(107, [1, 13]), (542, []), (543, []), (544, []), (545, []), (546, []), (550, []), (551, []), (552, []), (549, []), (547, []), (548, [])] T T' ∧ (0 ≤ x ∧ x ≤ 1)
set_option maxHeartbeats 4000000 in
theorem ct_X9_isFirstBy {T : Zt} {a n s : Int} (hka : KA_ T) (hkc : KC_ T) (hc9 : 1 ≤ T 109 0 5 ∧ T 109 0 5 ≤ T 106 0 2) (hs : 0 ≤ s ∧ s ≤ 11) (hn : 0 ≤ n ∧ n ≤ 40) (hop : ∀ j : Int, 0 ≤ j → j < n → 0 ≤ T 588 0 j ∧ T 588 0 j < T 106 0 4) (hrk : T 401 (T 109 0 5 - 1) 4 ≤ 7) : Ct_ yX9_isFirstBy zX9_isFirstBy T [vR 109 0, vI a, vI n, vI s] (po_X9_isFirstBy T a n s) := by
  refine ct_of pn_9 rfl rfl (Nat.le_of_ble_eq_true rfl) (fun hT hav => ?_)
  have hr_a : -2147483648 ≤ a ∧ a ≤ 2147483647 := hav (vI a) (List.mem_cons_of_mem _ List.mem_cons_self)
  have hr_n : -2147483648 ≤ n ∧ n ≤ 2147483647 := hav (vI n) (List.mem_cons_of_mem _ (List.mem_cons_of_mem _ List.mem_cons_self))
  have hr_s : -2147483648 ≤ s ∧ s ≤ 2147483647 := hav (vI s) (List.mem_cons_of_mem _ (List.mem_cons_of_mem _ (List.mem_cons_of_mem _ List.mem_cons_self)))
  have hz : zX9_isFirstBy.2.2.2.1 = some .boolean → ∀ (T' : Zt) (x : Int), po_X9_isFirstBy T a n s T' (some (vI x)) → 0 ≤ x ∧ x ≤ 1 := fun _ T' x h => by obtain ⟨y, e, -, hy⟩ := h; cases e; omega
  show J_ zX9_isFirstBy T (po_X9_isFirstBy T a n s) 0 0 0 [some (vR 109 0), some (vI a), some (vI n), some (vI s), none, none, none] [] T
  have c_20 : ∀ (nn : Nat) (g : Int) (u : Int) (T1 : Zt), ((n - u).toNat) ≤ nn → (fr_ [(107, [1]), (542, []), (543, []), (544, []), (545, []), (546, [])] T T1) → (0 ≤ u) → (T1 107 0 1 = T 109 0 5) → J_ zX9_isFirstBy T (po_X9_isFirstBy T a n s) 0 0 20 [some (vR 109 0), some (vI a), some (vI n), some (vI s), some (vI g), some (vI u), none] [] T1 := by
    intro nn
    induction nn using Nat.strongRecOn with
    | _ nn ih_20 =>
      intro g u T1 hm_20 hf_20 i1 i0
      replace hm_20 := fun (_ : Unit) => hm_20
      refine j_blx (F := fX9) tb_X9 (nn_ _) bk_X9_isFirstBy_20 bs_X9_isFirstBy_20 hz (fun K hK => ?_)
      refine And.intro (fun c1 => ?_) (fun c1 => ?_)
      · refine hK 87 _ [] T1 ?_
        refine j_blx (F := fX9) tb_X9 (nn_ _) bk_X9_isFirstBy_87 bs_X9_isFirstBy_87 hz (fun K hK => ?_)
        refine hK 91 _ [vR 107 0] T1 ?_
        have e2 : T1 401 (T 109 0 5 - 1) 4 = T 401 (T 109 0 5 - 1) 4 := hf_20 401 (T 109 0 5 - 1) 4 rfl
        refine j_callV (y := yX7_rank) (Yc := zX7_rank) (rest := []) [] (ct_X7_rank (T := T1) (by omega) (by rw [show T1 107 0 1 - 1 = (T 109 0 5 - 1) by omega]; omega)) cl_X9_184 (qd_c (by decide +kernel)) (nn_ _) rfl (rf_of rfl) (Nat.le_of_ble_eq_true rfl) (Nat.le_of_ble_eq_true rfl) (Nat.le_of_ble_eq_true rfl) rfl ?_
        rintro U3 _ ⟨rfl, fU3, qU3⟩
        show J_ zX9_isFirstBy T (po_X9_isFirstBy T a n s) 0 0 94 _ [] U3
        refine j_blx (F := fX9) tb_X9 (nn_ _) bk_X9_isFirstBy_94 bs_X9_isFirstBy_94 hz (fun K hK => ?_)
        refine rg_i (by omega) ?_
        refine rg_i (by omega) ?_
        refine ix_i (by omega) ?_
        intro b4 b4b
        refine And.intro (fun c5 => ?_) (fun c5 => ?_)
        · refine hK 117 _ [] U3 ?_
          refine j_blx (F := fX9) tb_X9 (nn_ _) bk_X9_isFirstBy_117 bs_X9_isFirstBy_117 hz (fun K hK => ?_)
          refine (show po_X9_isFirstBy T a n s U3 (some (vI 0)) from ?_)
          exact ⟨_, rfl, fr_t (fr_t (fr_0 _ _) (fr_s hf_20 rfl)) (fr_s fU3 rfl), by omega⟩
        · refine hK 118 _ [vI 1] U3 ?_
          refine j_blx (F := fX9) tb_X9 (nn_ _) bk_X9_isFirstBy_118 bs_X9_isFirstBy_118 hz (fun K hK => ?_)
          refine (show po_X9_isFirstBy T a n s U3 (some (vI 1)) from ?_)
          exact ⟨_, rfl, fr_t (fr_t (fr_0 _ _) (fr_s hf_20 rfl)) (fr_s fU3 rfl), by omega⟩
      · refine And.intro (by omega) (fun w6 w6b => ?_)
        refine And.intro (by omega) (fun w7 w7b => ?_)
        refine ix_i (by omega) ?_
        intro b8 b8b
        have e9 : T1 588 0 u = T 588 0 u := hf_20 588 0 u rfl
        rw [e9] at b8 b8b ⊢
        refine ix_i (by omega) ?_
        have e11 : T1 523 0 (T 588 0 u) = T 523 0 (T 588 0 u) := hf_20 523 0 (T 588 0 u) rfl
        refine And.intro (fun c10 => ?_) (fun c10 => ?_)
        · exact absurd (show T 523 0 (T 588 0 u) = 0 by omega) (hka.2 _ (by have z := hop u (by omega) (by omega); omega) (by have z := hop u (by omega) (by omega); omega))
        · refine And.intro (fun c12 => ?_) (fun c12 => ?_)
          · refine hK 66 [some (vR 109 0), some (vI a), some (vI n), some (vI s), some (vI (dq_ g 3)), some (vI u), some (vI (dr_ g 3))] [vR 102 (T 588 0 u), vR 107 0] T1 ?_
            refine j_blx (F := fX9) tb_X9 (nn_ _) bk_X9_isFirstBy_66 bs_X9_isFirstBy_66 hz (fun K hK => ?_)
            refine And.intro (fun c13 => ?_) (fun c13 => ?_)
            · refine hK 77 _ [vI 0, vR 102 (T 588 0 u), vR 107 0] T1 ?_
              refine j_blx (F := fX9) tb_X9 (nn_ _) bk_X9_isFirstBy_77 bs_X9_isFirstBy_77 hz (fun K hK => ?_)
              refine hK 78 _ [vI 0, vI 0, vR 102 (T 588 0 u), vR 107 0] T1 ?_
              refine j_callV (y := yX7_addResult) (Yc := zX7_addResult) (rest := []) [vR 102 (T 588 0 u), vI 0, vI 0] (ct_X7_addResult (T := T1) (by omega)) cl_X9_180 (qd_c (by decide +kernel)) (nn_ _) rfl (rf_of rfl) (Nat.le_of_ble_eq_true rfl) (Nat.le_of_ble_eq_true rfl) (Nat.le_of_ble_eq_true rfl) rfl ?_
              rintro U14 _ ⟨rfl, fU14, qU14⟩
              show J_ zX9_isFirstBy T (po_X9_isFirstBy T a n s) 0 0 81 _ [] U14
              refine j_blx (F := fX9) tb_X9 (nn_ _) bk_X9_isFirstBy_81 bs_X9_isFirstBy_81 hz (fun K hK => ?_)
              refine rg_i (by omega) ?_
              refine hK 20 [some (vR 109 0), some (vI a), some (vI n), some (vI s), some (vI (dq_ g 3)), some (vI (u + 1)), some (vI (dr_ g 3))] [] U14 ?_
              refine j_drop [some (vR 109 0), some (vI a), some (vI n), some (vI s), some (vI (dq_ g 3)), some (vI (u + 1)), none] (fun k v hk => ?_) rfl ?_
              · match k, hk with
                | 0, hk => exact hk
                | 1, hk => exact hk
                | 2, hk => exact hk
                | 3, hk => exact hk
                | 4, hk => exact hk
                | 5, hk => exact hk
                | 6, hk => cases hk
                | k + 7, hk => cases hk
              have e15 : U14 107 0 1 = T1 107 0 1 := fU14 107 0 1 rfl
              refine ih_20 _ ?_ (dq_ g 3) (u + 1) U14 (Nat.le_refl _) ?_ ?_ ?_
              · have hm_20 := hm_20 (); omega
              · exact fr_t (fr_t (fr_0 _ _) (fr_s hf_20 rfl)) (fr_s fU14 rfl)
              · omega
              · omega
            · refine hK 78 [some (vR 109 0), some (vI a), some (vI n), some (vI s), some (vI (dq_ g 3)), some (vI u), some (vI (dr_ g 3))] [vI 1, vI 0, vR 102 (T 588 0 u), vR 107 0] T1 ?_
              refine j_callV (y := yX7_addResult) (Yc := zX7_addResult) (rest := []) [vR 102 (T 588 0 u), vI 0, vI 1] (ct_X7_addResult (T := T1) (by omega)) cl_X9_180 (qd_c (by decide +kernel)) (nn_ _) rfl (rf_of rfl) (Nat.le_of_ble_eq_true rfl) (Nat.le_of_ble_eq_true rfl) (Nat.le_of_ble_eq_true rfl) rfl ?_
              rintro U16 _ ⟨rfl, fU16, qU16⟩
              show J_ zX9_isFirstBy T (po_X9_isFirstBy T a n s) 0 0 81 _ [] U16
              refine j_blx (F := fX9) tb_X9 (nn_ _) bk_X9_isFirstBy_81 bs_X9_isFirstBy_81 hz (fun K hK => ?_)
              refine rg_i (by omega) ?_
              refine hK 20 [some (vR 109 0), some (vI a), some (vI n), some (vI s), some (vI (dq_ g 3)), some (vI (u + 1)), some (vI (dr_ g 3))] [] U16 ?_
              refine j_drop [some (vR 109 0), some (vI a), some (vI n), some (vI s), some (vI (dq_ g 3)), some (vI (u + 1)), none] (fun k v hk => ?_) rfl ?_
              · match k, hk with
                | 0, hk => exact hk
                | 1, hk => exact hk
                | 2, hk => exact hk
                | 3, hk => exact hk
                | 4, hk => exact hk
                | 5, hk => exact hk
                | 6, hk => cases hk
                | k + 7, hk => cases hk
              have e17 : U16 107 0 1 = T1 107 0 1 := fU16 107 0 1 rfl
              refine ih_20 _ ?_ (dq_ g 3) (u + 1) U16 (Nat.le_refl _) ?_ ?_ ?_
              · have hm_20 := hm_20 (); omega
              · exact fr_t (fr_t (fr_0 _ _) (fr_s hf_20 rfl)) (fr_s fU16 rfl)
              · omega
              · omega
          · refine hK 67 _ [vI 1, vR 102 (T 588 0 u), vR 107 0] T1 ?_
            refine j_blx (F := fX9) tb_X9 (nn_ _) bk_X9_isFirstBy_67 bs_X9_isFirstBy_67 hz (fun K hK => ?_)
            refine And.intro (fun c18 => ?_) (fun c18 => ?_)
            · refine hK 77 _ [vI 1, vR 102 (T 588 0 u), vR 107 0] T1 ?_
              refine j_blx (F := fX9) tb_X9 (nn_ _) bk_X9_isFirstBy_77 bs_X9_isFirstBy_77 hz (fun K hK => ?_)
              refine hK 78 _ [vI 0, vI 1, vR 102 (T 588 0 u), vR 107 0] T1 ?_
              refine j_callV (y := yX7_addResult) (Yc := zX7_addResult) (rest := []) [vR 102 (T 588 0 u), vI 1, vI 0] (ct_X7_addResult (T := T1) (by omega)) cl_X9_180 (qd_c (by decide +kernel)) (nn_ _) rfl (rf_of rfl) (Nat.le_of_ble_eq_true rfl) (Nat.le_of_ble_eq_true rfl) (Nat.le_of_ble_eq_true rfl) rfl ?_
              rintro U19 _ ⟨rfl, fU19, qU19⟩
              show J_ zX9_isFirstBy T (po_X9_isFirstBy T a n s) 0 0 81 _ [] U19
              refine j_blx (F := fX9) tb_X9 (nn_ _) bk_X9_isFirstBy_81 bs_X9_isFirstBy_81 hz (fun K hK => ?_)
              refine rg_i (by omega) ?_
              refine hK 20 [some (vR 109 0), some (vI a), some (vI n), some (vI s), some (vI (dq_ g 3)), some (vI (u + 1)), some (vI (dr_ g 3))] [] U19 ?_
              refine j_drop [some (vR 109 0), some (vI a), some (vI n), some (vI s), some (vI (dq_ g 3)), some (vI (u + 1)), none] (fun k v hk => ?_) rfl ?_
              · match k, hk with
                | 0, hk => exact hk
                | 1, hk => exact hk
                | 2, hk => exact hk
                | 3, hk => exact hk
                | 4, hk => exact hk
                | 5, hk => exact hk
                | 6, hk => cases hk
                | k + 7, hk => cases hk
              have e20 : U19 107 0 1 = T1 107 0 1 := fU19 107 0 1 rfl
              refine ih_20 _ ?_ (dq_ g 3) (u + 1) U19 (Nat.le_refl _) ?_ ?_ ?_
              · have hm_20 := hm_20 (); omega
              · exact fr_t (fr_t (fr_0 _ _) (fr_s hf_20 rfl)) (fr_s fU19 rfl)
              · omega
              · omega
            · refine hK 78 [some (vR 109 0), some (vI a), some (vI n), some (vI s), some (vI (dq_ g 3)), some (vI u), some (vI (dr_ g 3))] [vI 1, vI 1, vR 102 (T 588 0 u), vR 107 0] T1 ?_
              refine j_callV (y := yX7_addResult) (Yc := zX7_addResult) (rest := []) [vR 102 (T 588 0 u), vI 1, vI 1] (ct_X7_addResult (T := T1) (by omega)) cl_X9_180 (qd_c (by decide +kernel)) (nn_ _) rfl (rf_of rfl) (Nat.le_of_ble_eq_true rfl) (Nat.le_of_ble_eq_true rfl) (Nat.le_of_ble_eq_true rfl) rfl ?_
              rintro U21 _ ⟨rfl, fU21, qU21⟩
              show J_ zX9_isFirstBy T (po_X9_isFirstBy T a n s) 0 0 81 _ [] U21
              refine j_blx (F := fX9) tb_X9 (nn_ _) bk_X9_isFirstBy_81 bs_X9_isFirstBy_81 hz (fun K hK => ?_)
              refine rg_i (by omega) ?_
              refine hK 20 [some (vR 109 0), some (vI a), some (vI n), some (vI s), some (vI (dq_ g 3)), some (vI (u + 1)), some (vI (dr_ g 3))] [] U21 ?_
              refine j_drop [some (vR 109 0), some (vI a), some (vI n), some (vI s), some (vI (dq_ g 3)), some (vI (u + 1)), none] (fun k v hk => ?_) rfl ?_
              · match k, hk with
                | 0, hk => exact hk
                | 1, hk => exact hk
                | 2, hk => exact hk
                | 3, hk => exact hk
                | 4, hk => exact hk
                | 5, hk => exact hk
                | 6, hk => cases hk
                | k + 7, hk => cases hk
              have e22 : U21 107 0 1 = T1 107 0 1 := fU21 107 0 1 rfl
              refine ih_20 _ ?_ (dq_ g 3) (u + 1) U21 (Nat.le_refl _) ?_ ?_ ?_
              · have hm_20 := hm_20 (); omega
              · exact fr_t (fr_t (fr_0 _ _) (fr_s hf_20 rfl)) (fr_s fU21 rfl)
              · omega
              · omega
  refine j_blx (F := fX9) tb_X9 (nn_ _) bk_X9_isFirstBy_0 bs_X9_isFirstBy_0 hz (fun K hK => ?_)
  refine And.intro (fun c23 => ?_) (fun c23 => ?_)
  · exact absurd c23 (by omega)
  · refine hK 11 _ [vI 999, vR 100 (T 109 0 5 - 1), vR 107 0] T ?_
    refine j_callV (y := yX7_tally) (Yc := zX7_tally) (rest := []) [vR 100 (T 109 0 5 - 1), vI 999] (ct_X7_tally (T := T) (hka) (hkc) (by omega)) cl_X9_124 (qd_c (by decide +kernel)) (nn_ _) rfl (rf_of rfl) (Nat.le_of_ble_eq_true rfl) (Nat.le_of_ble_eq_true rfl) (Nat.le_of_ble_eq_true rfl) rfl ?_
    rintro U24 _ ⟨rfl, fU24, qU24⟩
    show J_ zX9_isFirstBy T (po_X9_isFirstBy T a n s) 0 0 14 _ [] U24
    refine j_blx (F := fX9) tb_X9 (nn_ _) bk_X9_isFirstBy_14 bs_X9_isFirstBy_14 hz (fun K hK => ?_)
    refine hK 20 [some (vR 109 0), some (vI a), some (vI n), some (vI s), some (vI a), some (vI 0), none] [] U24 ?_
    refine c_20 _ a 0 U24 (Nat.le_refl _) ?_ ?_ ?_
    · exact fr_t (fr_0 _ _) (fr_s fU24 rfl)
    · omega
    · omega
abbrev cX9_countFirsts : ByteArray := prog_11_method_17_code
def yX9_countFirsts : MethodName := ⟨RX9, "countFirsts", "(LSportsHouse$Competition;I)I"⟩
def zX9_countFirsts : Zm := (RX9, cX9_countFirsts, 7, (some .int), { frames := 6, cells := 0, slots := 0, locals := 153 })
theorem bk_X9_countFirsts_92 : ck_ fX9 (some .int) cX9_countFirsts 92 [.iload 6, .iload 4, .if_icmp .ge 119, .aload 0, .iload 6, .iload 3, .iload 2] 104 = true := qck_r (nn_ _) (by decide +kernel)
theorem bs_X9_countFirsts_92 {P : Zt → Option Zv → Prop} (K : Int → Zl → List Zv → Zt → Prop) : sx_ K P [.iload 6, .iload 4, .if_icmp .ge 119, .aload 0, .iload 6, .iload 3, .iload 2] 104 = x_iload 6 (x_iload 4 (x_if_icmp .ge 119 K (x_aload 0 (x_iload 6 (x_iload 3 (x_iload 2 (K 104))))))) := ((xe_iload 6).trans (congrArg (x_iload 6) ((xe_iload 4).trans (congrArg (x_iload 4) ((xe_if_icmp .ge 119).trans (congrArg (x_if_icmp .ge 119 K) ((xe_aload 0).trans (congrArg (x_aload 0) ((xe_iload 6).trans (congrArg (x_iload 6) ((xe_iload 3).trans (congrArg (x_iload 3) ((xe_iload 2).trans (congrArg (x_iload 2) xe_nil))))))))))))))
theorem bk_X9_countFirsts_119 : ck_ fX9 (some .int) cX9_countFirsts 119 [.iload 5, .ireturn] 122 = true := qck_r (nn_ _) (by decide +kernel)
theorem bs_X9_countFirsts_119 {P : Zt → Option Zv → Prop} (K : Int → Zl → List Zv → Zt → Prop) : sx_ K P [.iload 5, .ireturn] 122 = x_iload 5 (x_ireturn P) := ((xe_iload 5).trans (congrArg (x_iload 5) (xe_ireturn)))
set_option maxRecDepth 100000 in
theorem cl_X9_176 : cv_ RX9 176 yX9_isFirstBy zX9_isFirstBy 9 3 := ⟨gi_V (lwq_6 (dqc_m (dqc_m (dqc_m (dqa_m (dqa_m (List.mem_of_getElem? (i := 3) rfl)))))) rfl : Cond.methodLink RX9 176 yX9_isFirstBy ∈ lw_g) (lwq_6 (dqc_m (dqc_m (dqc_m (dqa_m (dqa_m (List.mem_of_getElem? (i := 5) rfl)))))) rfl : Cond.instanceMethod yX9_isFirstBy ∈ lw_g) (lw_sel 138 rfl : Cond.selects yX9_isFirstBy.cls yX9_isFirstBy yX9_isFirstBy ∈ lw_g) (lwq_1 (List.mem_of_getElem? (i := 6) rfl) rfl : Cond.initialized yX9_isFirstBy.cls ∈ lw_g) (lwq_6 (dqc_m (dqc_m (dqc_m (dqa_m (dqa_m (List.mem_of_getElem? (i := 6) rfl)))))) rfl : Cond.code yX9_isFirstBy cX9_isFirstBy 7 (some .boolean) ∈ lw_g), ⟨nmh_8.1, nmh_8.2, pdq_11⟩, ⟨_, _, rfl⟩⟩
theorem bk_X9_countFirsts_107 : ck_ fX9 (some .int) cX9_countFirsts 107 [.ifCond .eq 113, .iinc 5 1, .iinc 6 1, .goto 92] 119 = true := qck_r (nn_ _) (by decide +kernel)
theorem bs_X9_countFirsts_107 {P : Zt → Option Zv → Prop} (K : Int → Zl → List Zv → Zt → Prop) : sx_ K P [.ifCond .eq 113, .iinc 5 1, .iinc 6 1, .goto 92] 119 = x_ifCond .eq 113 K (x_iinc 5 1 (x_iinc 6 1 (x_goto 92 K))) := ((xe_ifCond .eq 113).trans (congrArg (x_ifCond .eq 113 K) ((xe_iinc 5 1).trans (congrArg (x_iinc 5 1) ((xe_iinc 6 1).trans (congrArg (x_iinc 6 1) (xe_goto 92)))))))
theorem bk_X9_countFirsts_113 : ck_ fX9 (some .int) cX9_countFirsts 113 [.iinc 6 1, .goto 92] 119 = true := qck_r (nn_ _) (by decide +kernel)
theorem bs_X9_countFirsts_113 {P : Zt → Option Zv → Prop} (K : Int → Zl → List Zv → Zt → Prop) : sx_ K P [.iinc 6 1, .goto 92] 119 = x_iinc 6 1 (x_goto 92 K) := ((xe_iinc 6 1).trans (congrArg (x_iinc 6 1) (xe_goto 92)))
theorem bk_X9_countFirsts_13 : ck_ fX9 (some .int) cX9_countFirsts 13 [.iload 5, .aload 0, .tableswitch 0 9 5 #[], .tableswitch 0 0 8 #[], .if_icmp .ge 86, .aload 0, .tableswitch 0 9 0 #[], .tableswitch 0 6 3 #[], .aload 0, .tableswitch 0 9 5 #[], .tableswitch 0 0 7 #[], .iload 5, .iadd, .aaload, .astore 6, .aload 6] 47 = true := qck_r (nn_ _) (by decide +kernel)
theorem bs_X9_countFirsts_13 {P : Zt → Option Zv → Prop} (K : Int → Zl → List Zv → Zt → Prop) : sx_ K P [.iload 5, .aload 0, .tableswitch 0 9 5 #[], .tableswitch 0 0 8 #[], .if_icmp .ge 86, .aload 0, .tableswitch 0 9 0 #[], .tableswitch 0 6 3 #[], .aload 0, .tableswitch 0 9 5 #[], .tableswitch 0 0 7 #[], .iload 5, .iadd, .aaload, .astore 6, .aload 6] 47 = x_iload 5 (x_aload 0 (x_g5 109 100 5 (x_g0 100 8 0 400 (x_if_icmp .ge 86 K (x_aload 0 (x_g1 109 106 (x_g1 106 523 (x_aload 0 (x_g5 109 100 5 (x_g0 100 7 0 400 (x_iload 5 (x_iadd (x_aaload (x_astore 6 (x_aload 6 (K 47)))))))))))))))) := ((xe_iload 5).trans (congrArg (x_iload 5) ((xe_aload 0).trans (congrArg (x_aload 0) ((xe_g5 (kk := 109) rfl tl_9_5).trans (congrArg (x_g5 109 100 5) ((xe_g0 (kk := 100) rfl tl_0_8).trans (congrArg (x_g0 100 8 0 400) ((xe_if_icmp .ge 86).trans (congrArg (x_if_icmp .ge 86 K) ((xe_aload 0).trans (congrArg (x_aload 0) ((xe_g1 (kk := 109) rfl tl_9_0).trans (congrArg (x_g1 109 106) ((xe_g1 (kk := 106) rfl tl_6_3).trans (congrArg (x_g1 106 523) ((xe_aload 0).trans (congrArg (x_aload 0) ((xe_g5 (kk := 109) rfl tl_9_5).trans (congrArg (x_g5 109 100 5) ((xe_g0 (kk := 100) rfl tl_0_7).trans (congrArg (x_g0 100 7 0 400) ((xe_iload 5).trans (congrArg (x_iload 5) ((xe_iadd).trans (congrArg (x_iadd) ((xe_aaload).trans (congrArg (x_aaload) ((xe_astore 6).trans (congrArg (x_astore 6) ((xe_aload 6).trans (congrArg (x_aload 6) xe_nil))))))))))))))))))))))))))))))))
theorem bk_X9_countFirsts_86 : ck_ fX9 (some .int) cX9_countFirsts 86 [.iconst 0, .istore 5, .iconst 0, .istore 6] 92 = true := qck_r (nn_ _) (by decide +kernel)
theorem bs_X9_countFirsts_86 {P : Zt → Option Zv → Prop} (K : Int → Zl → List Zv → Zt → Prop) : sx_ K P [.iconst 0, .istore 5, .iconst 0, .istore 6] 92 = x_iconst 0 (x_istore 5 (x_iconst 0 (x_istore 6 (K 92)))) := ((xe_iconst 0).trans (congrArg (x_iconst 0) ((xe_istore 5).trans (congrArg (x_istore 5) ((xe_iconst 0).trans (congrArg (x_iconst 0) ((xe_istore 6).trans (congrArg (x_istore 6) xe_nil))))))))
set_option maxRecDepth 100000 in
theorem cl_X9_109 : cv_ RX9 109 yX2_isDecided zX2_isDecided 2 0 := ⟨gi_V (lwq_6 (dqc_m (dqa_m (List.mem_of_getElem? (i := 0) rfl))) rfl : Cond.methodLink RX9 109 yX2_isDecided ∈ lw_g) (lwq_4 (dqc_m (dqc_m (dqc_m (dqc_m (dqa_m (dqa_m (dqa_m (List.mem_of_getElem? (i := 3) rfl)))))))) rfl : Cond.instanceMethod yX2_isDecided ∈ lw_g) (lwq_4 (dqc_m (dqc_m (dqc_m (dqc_m (dqa_m (dqa_m (dqa_m (List.mem_of_getElem? (i := 4) rfl)))))))) rfl : Cond.selects yX2_isDecided.cls yX2_isDecided yX2_isDecided ∈ lw_g) (lwq_1 (dqa_m (dqa_m (List.mem_of_getElem? (i := 0) rfl))) rfl : Cond.initialized yX2_isDecided.cls ∈ lw_g) (lwq_4 (dqc_m (dqc_m (dqc_m (dqc_m (dqa_m (dqa_m (dqa_m (List.mem_of_getElem? (i := 5) rfl)))))))) rfl : Cond.code yX2_isDecided cX2_isDecided 1 (some .boolean) ∈ lw_g), ⟨nmh_10.1, nmh_10.2, pdq_18⟩, ⟨_, _, rfl⟩⟩
theorem bk_X9_countFirsts_50 : ck_ fX9 (some .int) cX9_countFirsts 50 [.ifCond .ne 80, .iload 3, .iconst 3, .if_icmp .lt 60, .iconst (-1), .ireturn] 60 = true := qck_r (nn_ _) (by decide +kernel)
theorem bs_X9_countFirsts_50 {P : Zt → Option Zv → Prop} (K : Int → Zl → List Zv → Zt → Prop) : sx_ K P [.ifCond .ne 80, .iload 3, .iconst 3, .if_icmp .lt 60, .iconst (-1), .ireturn] 60 = x_ifCond .ne 80 K (x_iload 3 (x_iconst 3 (x_if_icmp .lt 60 K (x_iconst (-1) (x_ireturn P))))) := ((xe_ifCond .ne 80).trans (congrArg (x_ifCond .ne 80 K) ((xe_iload 3).trans (congrArg (x_iload 3) ((xe_iconst 3).trans (congrArg (x_iconst 3) ((xe_if_icmp .lt 60).trans (congrArg (x_if_icmp .lt 60 K) ((xe_iconst (-1)).trans (congrArg (x_iconst (-1)) (xe_ireturn)))))))))))
theorem bk_X9_countFirsts_80 : ck_ fX9 (some .int) cX9_countFirsts 80 [.iinc 5 1, .goto 13] 86 = true := qck_r (nn_ _) (by decide +kernel)
theorem bs_X9_countFirsts_80 {P : Zt → Option Zv → Prop} (K : Int → Zl → List Zv → Zt → Prop) : sx_ K P [.iinc 5 1, .goto 13] 86 = x_iinc 5 1 (x_goto 13 K) := ((xe_iinc 5 1).trans (congrArg (x_iinc 5 1) (xe_goto 13)))
theorem bk_X9_countFirsts_60 : ck_ fX9 (some .int) cX9_countFirsts 60 [.aload 0, .tableswitch 0 9 8 #[], .iload 3, .aload 6, .tableswitch 0 2 1 #[], .iastore, .iinc 3 1, .iload 4, .iconst 3, .imul, .istore 4, .iinc 5 1, .goto 13] 86 = true := qck_r (nn_ _) (by decide +kernel)
theorem bs_X9_countFirsts_60 {P : Zt → Option Zv → Prop} (K : Int → Zl → List Zv → Zt → Prop) : sx_ K P [.aload 0, .tableswitch 0 9 8 #[], .iload 3, .aload 6, .tableswitch 0 2 1 #[], .iastore, .iinc 3 1, .iload 4, .iconst 3, .imul, .istore 4, .iinc 5 1, .goto 13] 86 = x_aload 0 (x_g1 109 588 (x_iload 3 (x_aload 6 (x_g0 102 1 0 399 (x_iastore (x_iinc 3 1 (x_iload 4 (x_iconst 3 (x_imul (x_istore 4 (x_iinc 5 1 (x_goto 13 K)))))))))))) := ((xe_aload 0).trans (congrArg (x_aload 0) ((xe_g1 (kk := 109) rfl tl_9_8).trans (congrArg (x_g1 109 588) ((xe_iload 3).trans (congrArg (x_iload 3) ((xe_aload 6).trans (congrArg (x_aload 6) ((xe_g0 (kk := 102) rfl tl_2_1).trans (congrArg (x_g0 102 1 0 399) ((xe_iastore).trans (congrArg (x_iastore) ((xe_iinc 3 1).trans (congrArg (x_iinc 3 1) ((xe_iload 4).trans (congrArg (x_iload 4) ((xe_iconst 3).trans (congrArg (x_iconst 3) ((xe_imul).trans (congrArg (x_imul) ((xe_istore 4).trans (congrArg (x_istore 4) ((xe_iinc 5 1).trans (congrArg (x_iinc 5 1) (xe_goto 13)))))))))))))))))))))))))
theorem bk_X9_countFirsts_0 : ck_ fX9 (some .int) cX9_countFirsts 0 [.aload 0, .aload 1] 2 = true := qck_r (nn_ _) (by decide +kernel)
theorem bs_X9_countFirsts_0 {P : Zt → Option Zv → Prop} (K : Int → Zl → List Zv → Zt → Prop) : sx_ K P [.aload 0, .aload 1] 2 = x_aload 0 (x_aload 1 (K 2)) := ((xe_aload 0).trans (congrArg (x_aload 0) ((xe_aload 1).trans (congrArg (x_aload 1) xe_nil))))
theorem fr5_X9_54 : fr5_ RX9 54 9 5 := ⟨_, _, _, rfl, by decide, by decide, (lwq_2 (dqc_m (List.mem_of_getElem? (i := 4) rfl)) rfl : Cond.fieldLink RX9 54 _ _ _ ∈ lw_g), rfl, fun a => ⟨.object "SportsHouse$Competition", by decide +kernel, rfl, rfl⟩⟩
theorem bk_X9_countFirsts_5 : ck_ fX9 (some .int) cX9_countFirsts 5 [.iconst 0, .istore 3, .iconst 1, .istore 4, .iconst 0, .istore 5] 13 = true := qck_r (nn_ _) (by decide +kernel)
theorem bs_X9_countFirsts_5 {P : Zt → Option Zv → Prop} (K : Int → Zl → List Zv → Zt → Prop) : sx_ K P [.iconst 0, .istore 3, .iconst 1, .istore 4, .iconst 0, .istore 5] 13 = x_iconst 0 (x_istore 3 (x_iconst 1 (x_istore 4 (x_iconst 0 (x_istore 5 (K 13)))))) := ((xe_iconst 0).trans (congrArg (x_iconst 0) ((xe_istore 3).trans (congrArg (x_istore 3) ((xe_iconst 1).trans (congrArg (x_iconst 1) ((xe_istore 4).trans (congrArg (x_istore 4) ((xe_iconst 0).trans (congrArg (x_iconst 0) ((xe_istore 5).trans (congrArg (x_istore 5) xe_nil))))))))))))
abbrev po_X9_countFirsts (T : Zt) (c : Int) (s : Int) : Zt → Option Zv → Prop := fun T' r => ∃ x : Int, r = some (vI x) ∧ fr_ [(109, [5]), (588, []), (107, [1, 13]), (542, []), (543, []), (544, []), (545, []), (546, []), (550, []), (551, []), (552, []), (549, []), (547, []), (548, [])] T T' ∧ (-1 ≤ x ∧ x ≤ 27)
set_option maxHeartbeats 4000000 in
theorem ct_X9_countFirsts {T : Zt} {c : Int} {s : Int} (hka : KA_ T) (hkm : KM_ T) (hkc : KC_ T) (hc : 0 ≤ c ∧ c < T 106 0 2) (hs : 0 ≤ s ∧ s ≤ 11) (hrk : T 401 c 4 ≤ 7) : Ct_ yX9_countFirsts zX9_countFirsts T [vR 109 0, vR 100 c, vI s] (po_X9_countFirsts T c s) := by
  refine ct_of pn_9 rfl rfl (Nat.le_of_ble_eq_true rfl) (fun hT hav => ?_)
  have hr_s : -2147483648 ≤ s ∧ s ≤ 2147483647 := hav (vI s) (List.mem_cons_of_mem _ (List.mem_cons_of_mem _ List.mem_cons_self))
  have hz : zX9_countFirsts.2.2.2.1 = some .boolean → ∀ (T' : Zt) (x : Int), po_X9_countFirsts T c s T' (some (vI x)) → 0 ≤ x ∧ x ≤ 1 := fun h => by cases h
  have hk2 := hkc c hc.1 hc.2
  have hb_matchCount : 0 ≤ T 106 0 4 ∧ T 106 0 4 ≤ 400 := bd_f hT 106 4 tl_6_4 0
  have hcc : 0 ≤ T 106 0 2 ∧ T 106 0 2 ≤ 4 := bd_f hT 106 2 tl_6_2 0
  have hfm : 0 ≤ T 100 c 7 ∧ T 100 c 7 ≤ 400 := bd_f hT 100 7 tl_0_7 c
  have hmc : 0 ≤ T 100 c 8 ∧ T 100 c 8 ≤ 400 := bd_f hT 100 8 tl_0_8 c
  show J_ zX9_countFirsts T (po_X9_countFirsts T c s) 0 0 0 [some (vR 109 0), some (vR 100 c), some (vI s), none, none, none, none] [] T
  have c_92 : ∀ (nn : Nat) (f : Int) (q : Int) (u : Int) (g : Int) (T2 : Zt), ((27 - g).toNat) ≤ nn → (fr_ [(109, [5]), (588, []), (107, [1, 13]), (542, []), (543, []), (544, []), (545, []), (546, []), (550, []), (551, []), (552, []), (549, []), (547, []), (548, [])] T T2) → (0 ≤ u ∧ u ≤ g ∧ g ≤ q ∧ ((f = 0 ∧ q = 1) ∨ (f = 1 ∧ q = 3) ∨ (f = 2 ∧ q = 9) ∨ (f = 3 ∧ q = 27))) → (T2 109 0 5 = c + 1) → (∀ j : Int, 0 ≤ j → j < f → 0 ≤ T2 588 0 j ∧ T2 588 0 j < T 106 0 4) → J_ zX9_countFirsts T (po_X9_countFirsts T c s) 0 0 92 [some (vR 109 0), some (vR 100 c), some (vI s), some (vI f), some (vI q), some (vI u), some (vI g)] [] T2 := by
    intro nn
    induction nn using Nat.strongRecOn with
    | _ nn ih_92 =>
      intro f q u g T2 hm_92 hf_92 i2 i4 op2
      replace hm_92 := fun (_ : Unit) => hm_92
      refine j_blx (F := fX9) tb_X9 (nn_ _) bk_X9_countFirsts_92 bs_X9_countFirsts_92 hz (fun K hK => ?_)
      refine And.intro (fun c1 => ?_) (fun c1 => ?_)
      · refine hK 119 _ [] T2 ?_
        refine j_blx (F := fX9) tb_X9 (nn_ _) bk_X9_countFirsts_119 bs_X9_countFirsts_119 hz (fun K hK => ?_)
        refine (show po_X9_countFirsts T c s T2 (some (vI u)) from ?_)
        exact ⟨_, rfl, fr_t (fr_0 _ _) (fr_s hf_92 rfl), by omega⟩
      · refine hK 104 _ [vI s, vI f, vI g, vR 109 0] T2 ?_
        have e2 : T2 106 0 2 = T 106 0 2 := hf_92 106 0 2 rfl
        have e3 : T2 106 0 4 = T 106 0 4 := hf_92 106 0 4 rfl
        have e4 : T2 401 c 4 = T 401 c 4 := hf_92 401 c 4 rfl
        have e5 : T2 106 0 2 = T 106 0 2 := hf_92 106 0 2 rfl
        have e6 : T2 106 0 4 = T 106 0 4 := hf_92 106 0 4 rfl
        refine j_callV (y := yX9_isFirstBy) (Yc := zX9_isFirstBy) (rest := []) [vI g, vI f, vI s] (ct_X9_isFirstBy (T := T2) (by exact KA__f (ws := [(109, [5]), (588, []), (107, [1, 13]), (542, []), (543, []), (544, []), (545, []), (546, []), (550, []), (551, []), (552, []), (549, []), (547, []), (548, [])]) hka (fr_t (fr_0 _ _) (fr_s hf_92 rfl)) ⟨fun _ => rfl, fun _ => rfl, rfl, rfl, trivial⟩) (by exact KC__f (ws := [(109, [5]), (588, []), (107, [1, 13]), (542, []), (543, []), (544, []), (545, []), (546, []), (550, []), (551, []), (552, []), (549, []), (547, []), (548, [])]) hkc (fr_t (fr_0 _ _) (fr_s hf_92 rfl)) ⟨rfl, rfl, rfl, rfl, trivial⟩) (by omega) (by omega) (by omega) (by intro j a b; have y := op2 j a b; omega) (by rw [show T2 109 0 5 - 1 = c by omega]; omega)) cl_X9_176 (qd_c (by decide +kernel)) (nn_ _) rfl (rf_of rfl) (Nat.le_of_ble_eq_true rfl) (Nat.le_of_ble_eq_true rfl) (Nat.le_of_ble_eq_true rfl) rfl ?_
        rintro U7 _ ⟨x8, rfl, fU7, qU7⟩
        show J_ zX9_countFirsts T (po_X9_countFirsts T c s) 0 0 107 _ [vI x8] U7
        refine j_blx (F := fX9) tb_X9 (nn_ _) bk_X9_countFirsts_107 bs_X9_countFirsts_107 hz (fun K hK => ?_)
        refine And.intro (fun c9 => ?_) (fun c9 => ?_)
        · refine hK 113 _ [] U7 ?_
          refine j_blx (F := fX9) tb_X9 (nn_ _) bk_X9_countFirsts_113 bs_X9_countFirsts_113 hz (fun K hK => ?_)
          refine rg_i (by omega) ?_
          refine hK 92 [some (vR 109 0), some (vR 100 c), some (vI s), some (vI f), some (vI q), some (vI u), some (vI (g + 1))] [] U7 ?_
          have e10 : U7 109 0 5 = T2 109 0 5 := fU7 109 0 5 rfl
          refine ih_92 _ ?_ f q u (g + 1) U7 (Nat.le_refl _) ?_ ?_ ?_ ?_
          · have hm_92 := hm_92 (); omega
          · exact fr_t (fr_t (fr_0 _ _) (fr_s hf_92 rfl)) (fr_s fU7 rfl)
          · omega
          · omega
          · intro j a b
            rw [fU7 588 0 j rfl]
            exact op2 j a b
        · refine rg_i (by omega) ?_
          refine rg_i (by omega) ?_
          refine hK 92 [some (vR 109 0), some (vR 100 c), some (vI s), some (vI f), some (vI q), some (vI (u + 1)), some (vI (g + 1))] [] U7 ?_
          have e11 : U7 109 0 5 = T2 109 0 5 := fU7 109 0 5 rfl
          refine ih_92 _ ?_ f q (u + 1) (g + 1) U7 (Nat.le_refl _) ?_ ?_ ?_ ?_
          · have hm_92 := hm_92 (); omega
          · exact fr_t (fr_t (fr_0 _ _) (fr_s hf_92 rfl)) (fr_s fU7 rfl)
          · omega
          · omega
          · intro j a b
            rw [fU7 588 0 j rfl]
            exact op2 j a b
  have c_13 : ∀ (nn : Nat) (f : Int) (q : Int) (k : Int) (T1 : Zt), ((T 100 c 8 - k).toNat) ≤ nn → (fr_ [(109, [5]), (588, [])] T T1) → (0 ≤ k ∧ k ≤ T 100 c 8 ∧ ((f = 0 ∧ q = 1) ∨ (f = 1 ∧ q = 3) ∨ (f = 2 ∧ q = 9) ∨ (f = 3 ∧ q = 27))) → (T1 109 0 5 = c + 1) → (∀ j : Int, 0 ≤ j → j < f → 0 ≤ T1 588 0 j ∧ T1 588 0 j < T 106 0 4) → J_ zX9_countFirsts T (po_X9_countFirsts T c s) 0 0 13 [some (vR 109 0), some (vR 100 c), some (vI s), some (vI f), some (vI q), some (vI k), none] [] T1 := by
    intro nn
    induction nn using Nat.strongRecOn with
    | _ nn ih_13 =>
      intro f q k T1 hm_13 hf_13 i1 i3 op1
      replace hm_13 := fun (_ : Unit) => hm_13
      refine j_blx (F := fX9) tb_X9 (nn_ _) bk_X9_countFirsts_13 bs_X9_countFirsts_13 hz (fun K hK => ?_)
      refine And.intro (fun c12 => ?_) (fun c12 => ?_)
      · exact absurd c12 (by omega)
      · have z13 : T1 109 0 5 - 1 = c := by omega
        rw [z13]
        intro b14 b14b
        have e15 : T1 100 c 8 = T 100 c 8 := hf_13 100 c 8 rfl
        rw [e15] at b14 b14b ⊢
        refine And.intro (fun c16 => ?_) (fun c16 => ?_)
        · refine hK 86 _ [] T1 ?_
          refine j_blx (F := fX9) tb_X9 (nn_ _) bk_X9_countFirsts_86 bs_X9_countFirsts_86 hz (fun K hK => ?_)
          refine hK 92 [some (vR 109 0), some (vR 100 c), some (vI s), some (vI f), some (vI q), some (vI 0), some (vI 0)] [] T1 ?_
          refine c_92 _ f q 0 0 T1 (Nat.le_refl _) ?_ ?_ ?_ ?_
          · exact fr_t (fr_0 _ _) (fr_s hf_13 rfl)
          · omega
          · omega
          · exact op1
        · refine And.intro (fun c17 => ?_) (fun c17 => ?_)
          · exact absurd c17 (by omega)
          · have z18 : T1 109 0 5 - 1 = c := by omega
            rw [z18]
            intro b19 b19b
            have e20 : T1 100 c 7 = T 100 c 7 := hf_13 100 c 7 rfl
            rw [e20] at b19 b19b ⊢
            refine rg_i (by omega) ?_
            refine ix_i (by omega) ?_
            have e22 : T1 523 0 ((T 100 c 7) + k) = T 523 0 ((T 100 c 7) + k) := hf_13 523 0 ((T 100 c 7) + k) rfl
            refine And.intro (fun c21 => ?_) (fun c21 => ?_)
            · exact absurd (show T 523 0 (T 100 c 7 + k) = 0 by omega) (hka.2 _ (by omega) (by omega))
            · refine hK 47 [some (vR 109 0), some (vR 100 c), some (vI s), some (vI f), some (vI q), some (vI k), some (vR 102 ((T 100 c 7) + k))] [vR 102 ((T 100 c 7) + k)] T1 ?_
              refine j_callV (y := yX2_isDecided) (Yc := zX2_isDecided) (rest := []) [] (ct_X2_isDecided (T := T1)) cl_X9_109 (qd_c (by decide +kernel)) (nn_ _) rfl (rf_of rfl) (Nat.le_of_ble_eq_true rfl) (Nat.le_of_ble_eq_true rfl) (Nat.le_of_ble_eq_true rfl) rfl ?_
              rintro _ _ ⟨rfl, x23, rfl, hx23⟩
              show J_ zX9_countFirsts T (po_X9_countFirsts T c s) 0 0 50 _ [vI x23] T1
              refine j_blx (F := fX9) tb_X9 (nn_ _) bk_X9_countFirsts_50 bs_X9_countFirsts_50 hz (fun K hK => ?_)
              refine And.intro (fun c24 => ?_) (fun c24 => ?_)
              · refine hK 80 _ [] T1 ?_
                refine j_blx (F := fX9) tb_X9 (nn_ _) bk_X9_countFirsts_80 bs_X9_countFirsts_80 hz (fun K hK => ?_)
                refine rg_i (by omega) ?_
                refine hK 13 [some (vR 109 0), some (vR 100 c), some (vI s), some (vI f), some (vI q), some (vI (k + 1)), some (vR 102 ((T 100 c 7) + k))] [] T1 ?_
                refine j_drop [some (vR 109 0), some (vR 100 c), some (vI s), some (vI f), some (vI q), some (vI (k + 1)), none] (fun k v hk => ?_) rfl ?_
                · match k, hk with
                  | 0, hk => exact hk
                  | 1, hk => exact hk
                  | 2, hk => exact hk
                  | 3, hk => exact hk
                  | 4, hk => exact hk
                  | 5, hk => exact hk
                  | 6, hk => cases hk
                  | k + 7, hk => cases hk
                refine ih_13 _ ?_ f q (k + 1) T1 (Nat.le_refl _) ?_ ?_ ?_ ?_
                · have hm_13 := hm_13 (); omega
                · exact fr_t (fr_0 _ _) (fr_s hf_13 rfl)
                · omega
                · omega
                · exact op1
              · refine And.intro (fun c25 => ?_) (fun c25 => ?_)
                · refine hK 60 [some (vR 109 0), some (vR 100 c), some (vI s), some (vI f), some (vI q), some (vI k), some (vR 102 ((T 100 c 7) + k))] [] T1 ?_
                  refine j_blx (F := fX9) tb_X9 (nn_ _) bk_X9_countFirsts_60 bs_X9_countFirsts_60 hz (fun K hK => ?_)
                  intro b26 b26b
                  have e27 : T1 102 ((T 100 c 7) + k) 1 = T 102 ((T 100 c 7) + k) 1 := hf_13 102 ((T 100 c 7) + k) 1 rfl
                  rw [e27] at b26 b26b ⊢
                  refine iy_i (by omega) (by omega) ?_
                  refine x_nm (fun U28 hU28 => ?_)
                  have e29 := up_f hU28
                  refine rg_i (by omega) ?_
                  refine rg_i (by omega) ?_
                  refine rg_i (by omega) ?_
                  refine hK 13 [some (vR 109 0), some (vR 100 c), some (vI s), some (vI (f + 1)), some (vI (q * 3)), some (vI (k + 1)), some (vR 102 ((T 100 c 7) + k))] [] U28 ?_
                  refine j_drop [some (vR 109 0), some (vR 100 c), some (vI s), some (vI (f + 1)), some (vI (q * 3)), some (vI (k + 1)), none] (fun k v hk => ?_) rfl ?_
                  · match k, hk with
                    | 0, hk => exact hk
                    | 1, hk => exact hk
                    | 2, hk => exact hk
                    | 3, hk => exact hk
                    | 4, hk => exact hk
                    | 5, hk => exact hk
                    | 6, hk => cases hk
                    | k + 7, hk => cases hk
                  have e30 : U28 109 0 5 = T1 109 0 5 := up_k hU28 (by exact Nat.ne_of_beq_eq_false rfl) 0 5
                  refine ih_13 _ ?_ (f + 1) (q * 3) (k + 1) U28 (Nat.le_refl _) ?_ ?_ ?_ ?_
                  · have hm_13 := hm_13 (); omega
                  · exact fr_u (fr_t (fr_0 _ _) (fr_s hf_13 rfl)) hU28 rfl
                  · omega
                  · omega
                  · intro j a b
                    by_cases z : j = f
                    · rw [z, up_f hU28]; have y := (hkm (T 100 c 7 + k) (by omega) (by omega)).1; omega
                    · rw [up_g hU28 (fun y => z y.2.2)]; exact op1 j a (by omega)
                · refine (show po_X9_countFirsts T c s T1 (some (vI (-1))) from ?_)
                  exact ⟨_, rfl, fr_t (fr_0 _ _) (fr_s hf_13 rfl), by omega⟩
  refine j_blx (F := fX9) tb_X9 (nn_ _) bk_X9_countFirsts_0 bs_X9_countFirsts_0 hz (fun K hK => ?_)
  refine hK 2 _ [vR 100 c, vR 109 0] T ?_
  refine j_putR (pc := 2) (ci := 9) (j := 5) (by decide) fr5_X9_54 rfl (by decide +kernel) (by omega) (by omega) (by omega) ?_
  refine j_nm (fun U31 hU31 => ?_)
  have e32 := up_f hU31
  show J_ zX9_countFirsts T (po_X9_countFirsts T c s) 0 0 5 _ [] U31
  refine j_blx (F := fX9) tb_X9 (nn_ _) bk_X9_countFirsts_5 bs_X9_countFirsts_5 hz (fun K hK => ?_)
  refine hK 13 [some (vR 109 0), some (vR 100 c), some (vI s), some (vI 0), some (vI 1), some (vI 0), none] [] U31 ?_
  have e33 : U31 109 0 5 = c + 1 := up_f hU31
  refine c_13 _ 0 1 0 U31 (Nat.le_refl _) ?_ ?_ ?_ ?_
  · exact fr_u (fr_0 _ _) hU31 rfl
  · omega
  · omega
  · intro j a b; omega
abbrev cX9_listOpen : ByteArray := prog_11_method_3_code
def yX9_listOpen : MethodName := ⟨RX9, "listOpen", "(II)Z"⟩
def zX9_listOpen : Zm := (RX9, cX9_listOpen, 5, (some .boolean), { frames := 2, cells := 0, slots := 0, locals := 40 })
theorem bk_X9_listOpen_7 : ck_ fX9 (some .boolean) cX9_listOpen 7 [.iload 3, .aload 0, .tableswitch 0 9 5 #[], .tableswitch 0 0 8 #[], .if_icmp .ge 124, .aload 0, .tableswitch 0 9 0 #[], .tableswitch 0 6 3 #[], .aload 0, .tableswitch 0 9 5 #[], .tableswitch 0 0 7 #[], .iload 3, .iadd, .aaload, .astore 4, .aload 4] 39 = true := qck_r (nn_ _) (by decide +kernel)
theorem bs_X9_listOpen_7 {P : Zt → Option Zv → Prop} (K : Int → Zl → List Zv → Zt → Prop) : sx_ K P [.iload 3, .aload 0, .tableswitch 0 9 5 #[], .tableswitch 0 0 8 #[], .if_icmp .ge 124, .aload 0, .tableswitch 0 9 0 #[], .tableswitch 0 6 3 #[], .aload 0, .tableswitch 0 9 5 #[], .tableswitch 0 0 7 #[], .iload 3, .iadd, .aaload, .astore 4, .aload 4] 39 = x_iload 3 (x_aload 0 (x_g5 109 100 5 (x_g0 100 8 0 400 (x_if_icmp .ge 124 K (x_aload 0 (x_g1 109 106 (x_g1 106 523 (x_aload 0 (x_g5 109 100 5 (x_g0 100 7 0 400 (x_iload 3 (x_iadd (x_aaload (x_astore 4 (x_aload 4 (K 39)))))))))))))))) := ((xe_iload 3).trans (congrArg (x_iload 3) ((xe_aload 0).trans (congrArg (x_aload 0) ((xe_g5 (kk := 109) rfl tl_9_5).trans (congrArg (x_g5 109 100 5) ((xe_g0 (kk := 100) rfl tl_0_8).trans (congrArg (x_g0 100 8 0 400) ((xe_if_icmp .ge 124).trans (congrArg (x_if_icmp .ge 124 K) ((xe_aload 0).trans (congrArg (x_aload 0) ((xe_g1 (kk := 109) rfl tl_9_0).trans (congrArg (x_g1 109 106) ((xe_g1 (kk := 106) rfl tl_6_3).trans (congrArg (x_g1 106 523) ((xe_aload 0).trans (congrArg (x_aload 0) ((xe_g5 (kk := 109) rfl tl_9_5).trans (congrArg (x_g5 109 100 5) ((xe_g0 (kk := 100) rfl tl_0_7).trans (congrArg (x_g0 100 7 0 400) ((xe_iload 3).trans (congrArg (x_iload 3) ((xe_iadd).trans (congrArg (x_iadd) ((xe_aaload).trans (congrArg (x_aaload) ((xe_astore 4).trans (congrArg (x_astore 4) ((xe_aload 4).trans (congrArg (x_aload 4) xe_nil))))))))))))))))))))))))))))))))
theorem bk_X9_listOpen_124 : ck_ fX9 (some .boolean) cX9_listOpen 124 [.iconst 1, .ireturn] 126 = true := qck_r (nn_ _) (by decide +kernel)
theorem bs_X9_listOpen_124 {P : Zt → Option Zv → Prop} (K : Int → Zl → List Zv → Zt → Prop) : sx_ K P [.iconst 1, .ireturn] 126 = x_iconst 1 (x_ireturn P) := ((xe_iconst 1).trans (congrArg (x_iconst 1) (xe_ireturn)))
theorem bk_X9_listOpen_42 : ck_ fX9 (some .boolean) cX9_listOpen 42 [.ifCond .eq 48, .goto 118] 48 = true := qck_r (nn_ _) (by decide +kernel)
theorem bs_X9_listOpen_42 {P : Zt → Option Zv → Prop} (K : Int → Zl → List Zv → Zt → Prop) : sx_ K P [.ifCond .eq 48, .goto 118] 48 = x_ifCond .eq 48 K (x_goto 118 K) := ((xe_ifCond .eq 48).trans (congrArg (x_ifCond .eq 48 K) (xe_goto 118)))
theorem bk_X9_listOpen_48 : ck_ fX9 (some .boolean) cX9_listOpen 48 [.aload 4, .iload 1] 51 = true := qck_r (nn_ _) (by decide +kernel)
theorem bs_X9_listOpen_48 {P : Zt → Option Zv → Prop} (K : Int → Zl → List Zv → Zt → Prop) : sx_ K P [.aload 4, .iload 1] 51 = x_aload 4 (x_iload 1 (K 51)) := ((xe_aload 4).trans (congrArg (x_aload 4) ((xe_iload 1).trans (congrArg (x_iload 1) xe_nil))))
theorem bk_X9_listOpen_54 : ck_ fX9 (some .boolean) cX9_listOpen 54 [.ifCond .eq 84, .aload 0, .tableswitch 0 9 4 #[], .aload 4, .tableswitch 0 2 1 #[], .aload 4, .tableswitch 0 2 3 #[], .iload 1, .if_icmp .ne 79, .iconst 0, .goto 80] 79 = true := qck_r (nn_ _) (by decide +kernel)
theorem bs_X9_listOpen_54 {P : Zt → Option Zv → Prop} (K : Int → Zl → List Zv → Zt → Prop) : sx_ K P [.ifCond .eq 84, .aload 0, .tableswitch 0 9 4 #[], .aload 4, .tableswitch 0 2 1 #[], .aload 4, .tableswitch 0 2 3 #[], .iload 1, .if_icmp .ne 79, .iconst 0, .goto 80] 79 = x_ifCond .eq 84 K (x_aload 0 (x_g1 109 584 (x_aload 4 (x_g0 102 1 0 399 (x_aload 4 (x_g0 102 3 0 11 (x_iload 1 (x_if_icmp .ne 79 K (x_iconst 0 (x_goto 80 K)))))))))) := ((xe_ifCond .eq 84).trans (congrArg (x_ifCond .eq 84 K) ((xe_aload 0).trans (congrArg (x_aload 0) ((xe_g1 (kk := 109) rfl tl_9_4).trans (congrArg (x_g1 109 584) ((xe_aload 4).trans (congrArg (x_aload 4) ((xe_g0 (kk := 102) rfl tl_2_1).trans (congrArg (x_g0 102 1 0 399) ((xe_aload 4).trans (congrArg (x_aload 4) ((xe_g0 (kk := 102) rfl tl_2_3).trans (congrArg (x_g0 102 3 0 11) ((xe_iload 1).trans (congrArg (x_iload 1) ((xe_if_icmp .ne 79).trans (congrArg (x_if_icmp .ne 79 K) ((xe_iconst 0).trans (congrArg (x_iconst 0) (xe_goto 80)))))))))))))))))))))
theorem bk_X9_listOpen_84 : ck_ fX9 (some .boolean) cX9_listOpen 84 [.aload 0, .tableswitch 0 9 9 #[], .iload 2, .if_icmp .lt 94, .iconst 0, .ireturn] 94 = true := qck_r (nn_ _) (by decide +kernel)
theorem bs_X9_listOpen_84 {P : Zt → Option Zv → Prop} (K : Int → Zl → List Zv → Zt → Prop) : sx_ K P [.aload 0, .tableswitch 0 9 9 #[], .iload 2, .if_icmp .lt 94, .iconst 0, .ireturn] 94 = x_aload 0 (x_g0 109 9 0 40 (x_iload 2 (x_if_icmp .lt 94 K (x_iconst 0 (x_ireturn P))))) := ((xe_aload 0).trans (congrArg (x_aload 0) ((xe_g0 (kk := 109) rfl tl_9_9).trans (congrArg (x_g0 109 9 0 40) ((xe_iload 2).trans (congrArg (x_iload 2) ((xe_if_icmp .lt 94).trans (congrArg (x_if_icmp .lt 94 K) ((xe_iconst 0).trans (congrArg (x_iconst 0) (xe_ireturn)))))))))))
theorem bk_X9_listOpen_94 : ck_ fX9 (some .boolean) cX9_listOpen 94 [.aload 0, .tableswitch 0 9 8 #[], .aload 0, .tableswitch 0 9 9 #[], .aload 4, .tableswitch 0 2 1 #[], .iastore, .aload 0, .dup, .tableswitch 0 9 9 #[], .iconst 1, .iadd, .tableswitch 1 9 9 #[], .iinc 3 1, .goto 7] 124 = true := qck_r (nn_ _) (by decide +kernel)
theorem bs_X9_listOpen_94 {P : Zt → Option Zv → Prop} (K : Int → Zl → List Zv → Zt → Prop) : sx_ K P [.aload 0, .tableswitch 0 9 8 #[], .aload 0, .tableswitch 0 9 9 #[], .aload 4, .tableswitch 0 2 1 #[], .iastore, .aload 0, .dup, .tableswitch 0 9 9 #[], .iconst 1, .iadd, .tableswitch 1 9 9 #[], .iinc 3 1, .goto 7] 124 = x_aload 0 (x_g1 109 588 (x_aload 0 (x_g0 109 9 0 40 (x_aload 4 (x_g0 102 1 0 399 (x_iastore (x_aload 0 (x_dup (x_g0 109 9 0 40 (x_iconst 1 (x_iadd (x_p 109 9 0 40 (x_iinc 3 1 (x_goto 7 K)))))))))))))) := ((xe_aload 0).trans (congrArg (x_aload 0) ((xe_g1 (kk := 109) rfl tl_9_8).trans (congrArg (x_g1 109 588) ((xe_aload 0).trans (congrArg (x_aload 0) ((xe_g0 (kk := 109) rfl tl_9_9).trans (congrArg (x_g0 109 9 0 40) ((xe_aload 4).trans (congrArg (x_aload 4) ((xe_g0 (kk := 102) rfl tl_2_1).trans (congrArg (x_g0 102 1 0 399) ((xe_iastore).trans (congrArg (x_iastore) ((xe_aload 0).trans (congrArg (x_aload 0) ((xe_dup).trans (congrArg (x_dup) ((xe_g0 (kk := 109) rfl tl_9_9).trans (congrArg (x_g0 109 9 0 40) ((xe_iconst 1).trans (congrArg (x_iconst 1) ((xe_iadd).trans (congrArg (x_iadd) ((xe_p (kk := 109) rfl tl_9_9).trans (congrArg (x_p 109 9 0 40) ((xe_iinc 3 1).trans (congrArg (x_iinc 3 1) (xe_goto 7)))))))))))))))))))))))))))))
theorem bk_X9_listOpen_79 : ck_ fX9 (some .boolean) cX9_listOpen 79 [.iconst 2, .iastore, .goto 118] 84 = true := qck_r (nn_ _) (by decide +kernel)
theorem bs_X9_listOpen_79 {P : Zt → Option Zv → Prop} (K : Int → Zl → List Zv → Zt → Prop) : sx_ K P [.iconst 2, .iastore, .goto 118] 84 = x_iconst 2 (x_iastore (x_goto 118 K)) := ((xe_iconst 2).trans (congrArg (x_iconst 2) ((xe_iastore).trans (congrArg (x_iastore) (xe_goto 118)))))
theorem bk_X9_listOpen_118 : ck_ fX9 (some .boolean) cX9_listOpen 118 [.iinc 3 1, .goto 7] 124 = true := qck_r (nn_ _) (by decide +kernel)
theorem bs_X9_listOpen_118 {P : Zt → Option Zv → Prop} (K : Int → Zl → List Zv → Zt → Prop) : sx_ K P [.iinc 3 1, .goto 7] 124 = x_iinc 3 1 (x_goto 7 K) := ((xe_iinc 3 1).trans (congrArg (x_iinc 3 1) (xe_goto 7)))
theorem bk_X9_listOpen_80 : ck_ fX9 (some .boolean) cX9_listOpen 80 [.iastore, .goto 118] 84 = true := qck_r (nn_ _) (by decide +kernel)
theorem bs_X9_listOpen_80 {P : Zt → Option Zv → Prop} (K : Int → Zl → List Zv → Zt → Prop) : sx_ K P [.iastore, .goto 118] 84 = x_iastore (x_goto 118 K) := ((xe_iastore).trans (congrArg (x_iastore) (xe_goto 118)))
theorem bk_X9_listOpen_0 : ck_ fX9 (some .boolean) cX9_listOpen 0 [.aload 0, .iconst 0, .tableswitch 1 9 9 #[], .iconst 0, .istore 3] 7 = true := qck_r (nn_ _) (by decide +kernel)
theorem bs_X9_listOpen_0 {P : Zt → Option Zv → Prop} (K : Int → Zl → List Zv → Zt → Prop) : sx_ K P [.aload 0, .iconst 0, .tableswitch 1 9 9 #[], .iconst 0, .istore 3] 7 = x_aload 0 (x_iconst 0 (x_p 109 9 0 40 (x_iconst 0 (x_istore 3 (K 7))))) := ((xe_aload 0).trans (congrArg (x_aload 0) ((xe_iconst 0).trans (congrArg (x_iconst 0) ((xe_p (kk := 109) rfl tl_9_9).trans (congrArg (x_p 109 9 0 40) ((xe_iconst 0).trans (congrArg (x_iconst 0) ((xe_istore 3).trans (congrArg (x_istore 3) xe_nil))))))))))
abbrev po_X9_listOpen (T : Zt) (b n : Int) : Zt → Option Zv → Prop := fun T' r => ∃ x : Int, r = some (vI x) ∧ fr_ [(109, [9]), (584, []), (588, [])] T T' ∧ ((0 ≤ x ∧ x ≤ 1) ∧ ∀ j : Int, 0 ≤ j → j < T' 109 0 9 → T 100 (T 109 0 5 - 1) 7 ≤ T' 588 0 j ∧ T' 588 0 j < T 100 (T 109 0 5 - 1) 7 + T 100 (T 109 0 5 - 1) 8)
set_option maxHeartbeats 4000000 in
theorem ct_X9_listOpen {T : Zt} {b n : Int} (hka : KA_ T) (hkm : KM_ T) (hkc : KC_ T) (hc9 : 1 ≤ T 109 0 5 ∧ T 109 0 5 ≤ T 106 0 2) (hn : n ≤ 40) : Ct_ yX9_listOpen zX9_listOpen T [vR 109 0, vI b, vI n] (po_X9_listOpen T b n) := by
  refine ct_of pn_9 rfl rfl (Nat.le_of_ble_eq_true rfl) (fun hT hav => ?_)
  have hr_b : -2147483648 ≤ b ∧ b ≤ 2147483647 := hav (vI b) (List.mem_cons_of_mem _ List.mem_cons_self)
  have hr_n : -2147483648 ≤ n ∧ n ≤ 2147483647 := hav (vI n) (List.mem_cons_of_mem _ (List.mem_cons_of_mem _ List.mem_cons_self))
  have hz : zX9_listOpen.2.2.2.1 = some .boolean → ∀ (T' : Zt) (x : Int), po_X9_listOpen T b n T' (some (vI x)) → 0 ≤ x ∧ x ≤ 1 := fun _ T' x h => by obtain ⟨y, e, -, hy, -⟩ := h; cases e; omega
  have hk2 := hkc (T 109 0 5 - 1) (by omega) (by omega)
  have hb_matchCount : 0 ≤ T 106 0 4 ∧ T 106 0 4 ≤ 400 := bd_f hT 106 4 tl_6_4 0
  have hfm : 0 ≤ T 100 (T 109 0 5 - 1) 7 ∧ T 100 (T 109 0 5 - 1) 7 ≤ 400 := bd_f hT 100 7 tl_0_7 (T 109 0 5 - 1)
  have hmc : 0 ≤ T 100 (T 109 0 5 - 1) 8 ∧ T 100 (T 109 0 5 - 1) 8 ≤ 400 := bd_f hT 100 8 tl_0_8 (T 109 0 5 - 1)
  show J_ zX9_listOpen T (po_X9_listOpen T b n) 0 0 0 [some (vR 109 0), some (vI b), some (vI n), none, none] [] T
  have c_7 : ∀ (nn : Nat) (k : Int) (T1 : Zt), ((T 100 (T 109 0 5 - 1) 8 - k).toNat) ≤ nn → (fr_ [(109, [9]), (584, []), (588, [])] T T1) → (0 ≤ k ∧ k ≤ T 100 (T 109 0 5 - 1) 8 ∧ 0 ≤ T1 109 0 9 ∧ T1 109 0 9 ≤ 40) → (∀ j : Int, 0 ≤ j → j < T1 109 0 9 → T 100 (T 109 0 5 - 1) 7 ≤ T1 588 0 j ∧ T1 588 0 j < T 100 (T 109 0 5 - 1) 7 + T 100 (T 109 0 5 - 1) 8) → J_ zX9_listOpen T (po_X9_listOpen T b n) 0 0 7 [some (vR 109 0), some (vI b), some (vI n), some (vI k), none] [] T1 := by
    intro nn
    induction nn using Nat.strongRecOn with
    | _ nn ih_7 =>
      intro k T1 hm_7 hf_7 i1 ol1
      replace hm_7 := fun (_ : Unit) => hm_7
      refine j_blx (F := fX9) tb_X9 (nn_ _) bk_X9_listOpen_7 bs_X9_listOpen_7 hz (fun K hK => ?_)
      have e2 : T1 109 0 5 = T 109 0 5 := hf_7 109 0 5 rfl
      refine And.intro (fun c1 => ?_) (fun c1 => ?_)
      · exact absurd c1 (by omega)
      · intro b3 b3b
        have e4 : T1 100 (T 109 0 5 - 1) 8 = T 100 (T 109 0 5 - 1) 8 := hf_7 100 (T 109 0 5 - 1) 8 rfl
        have e5 : T1 100 (T1 109 0 5 - 1) 8 = T 100 (T 109 0 5 - 1) 8 := by rw [e2]; exact e4
        rw [e5] at b3 b3b ⊢
        refine And.intro (fun c6 => ?_) (fun c6 => ?_)
        · refine hK 124 _ [] T1 ?_
          refine j_blx (F := fX9) tb_X9 (nn_ _) bk_X9_listOpen_124 bs_X9_listOpen_124 hz (fun K hK => ?_)
          refine (show po_X9_listOpen T b n T1 (some (vI 1)) from ?_)
          exact ⟨_, rfl, fr_t (fr_0 _ _) (fr_s hf_7 rfl), ⟨by omega, by omega⟩, ol1⟩
        · have e8 : T1 109 0 5 = T 109 0 5 := hf_7 109 0 5 rfl
          refine And.intro (fun c7 => ?_) (fun c7 => ?_)
          · exact absurd c7 (by omega)
          · intro b9 b9b
            have e10 : T1 100 (T 109 0 5 - 1) 7 = T 100 (T 109 0 5 - 1) 7 := hf_7 100 (T 109 0 5 - 1) 7 rfl
            have e11 : T1 100 (T1 109 0 5 - 1) 7 = T 100 (T 109 0 5 - 1) 7 := by rw [e8]; exact e10
            rw [e11] at b9 b9b ⊢
            refine rg_i (by omega) ?_
            refine ix_i (by omega) ?_
            have e13 : T1 523 0 ((T 100 (T 109 0 5 - 1) 7) + k) = T 523 0 ((T 100 (T 109 0 5 - 1) 7) + k) := hf_7 523 0 ((T 100 (T 109 0 5 - 1) 7) + k) rfl
            refine And.intro (fun c12 => ?_) (fun c12 => ?_)
            · exact absurd (show T 523 0 (T 100 (T 109 0 5 - 1) 7 + k) = 0 by omega) (hka.2 _ (by omega) (by omega))
            · refine hK 39 [some (vR 109 0), some (vI b), some (vI n), some (vI k), some (vR 102 ((T 100 (T 109 0 5 - 1) 7) + k))] [vR 102 ((T 100 (T 109 0 5 - 1) 7) + k)] T1 ?_
              refine j_callV (y := yX2_isDecided) (Yc := zX2_isDecided) (rest := []) [] (ct_X2_isDecided (T := T1)) cl_X9_109 (qd_c (by decide +kernel)) (nn_ _) rfl (rf_of rfl) (Nat.le_of_ble_eq_true rfl) (Nat.le_of_ble_eq_true rfl) (Nat.le_of_ble_eq_true rfl) rfl ?_
              rintro _ _ ⟨rfl, x14, rfl, hx14⟩
              show J_ zX9_listOpen T (po_X9_listOpen T b n) 0 0 42 _ [vI x14] T1
              refine j_blx (F := fX9) tb_X9 (nn_ _) bk_X9_listOpen_42 bs_X9_listOpen_42 hz (fun K hK => ?_)
              refine And.intro (fun c15 => ?_) (fun c15 => ?_)
              · refine hK 48 _ [] T1 ?_
                refine j_blx (F := fX9) tb_X9 (nn_ _) bk_X9_listOpen_48 bs_X9_listOpen_48 hz (fun K hK => ?_)
                refine hK 51 _ [vI b, vR 102 ((T 100 (T 109 0 5 - 1) 7) + k)] T1 ?_
                refine j_callV (y := yX2_has) (Yc := zX2_has) (rest := []) [vI b] (ct_X2_has (T := T1)) cl_X9_115 (qd_c (by decide +kernel)) (nn_ _) rfl (rf_of rfl) (Nat.le_of_ble_eq_true rfl) (Nat.le_of_ble_eq_true rfl) (Nat.le_of_ble_eq_true rfl) rfl ?_
                rintro _ _ ⟨rfl, x16, rfl, hx16⟩
                show J_ zX9_listOpen T (po_X9_listOpen T b n) 0 0 54 _ [vI x16] T1
                refine j_blx (F := fX9) tb_X9 (nn_ _) bk_X9_listOpen_54 bs_X9_listOpen_54 hz (fun K hK => ?_)
                refine And.intro (fun c17 => ?_) (fun c17 => ?_)
                · refine hK 84 _ [] T1 ?_
                  refine j_blx (F := fX9) tb_X9 (nn_ _) bk_X9_listOpen_84 bs_X9_listOpen_84 hz (fun K hK => ?_)
                  intro b18 b18b
                  refine And.intro (fun c19 => ?_) (fun c19 => ?_)
                  · refine hK 94 _ [] T1 ?_
                    refine j_blx (F := fX9) tb_X9 (nn_ _) bk_X9_listOpen_94 bs_X9_listOpen_94 hz (fun K hK => ?_)
                    intro b20 b20b
                    intro b21 b21b
                    have e22 : T1 102 ((T 100 (T 109 0 5 - 1) 7) + k) 1 = T 102 ((T 100 (T 109 0 5 - 1) 7) + k) 1 := hf_7 102 ((T 100 (T 109 0 5 - 1) 7) + k) 1 rfl
                    rw [e22] at b21 b21b ⊢
                    refine iy_i (by omega) (by omega) ?_
                    refine x_nm (fun U23 hU23 => ?_)
                    have e24 := up_f hU23
                    intro b25 b25b
                    have e26 : U23 109 0 9 = T1 109 0 9 := up_k hU23 (by exact Nat.ne_of_beq_eq_false rfl) 0 9
                    rw [e26] at b25 b25b ⊢
                    refine rg_i (by omega) ?_
                    refine bd_i (by omega) ?_
                    refine x_nm (fun U27 hU27 => ?_)
                    have e28 := up_f hU27
                    refine rg_i (by omega) ?_
                    refine hK 7 [some (vR 109 0), some (vI b), some (vI n), some (vI (k + 1)), some (vR 102 ((T 100 (T 109 0 5 - 1) 7) + k))] [] U27 ?_
                    refine j_drop [some (vR 109 0), some (vI b), some (vI n), some (vI (k + 1)), none] (fun k v hk => ?_) rfl ?_
                    · match k, hk with
                      | 0, hk => exact hk
                      | 1, hk => exact hk
                      | 2, hk => exact hk
                      | 3, hk => exact hk
                      | 4, hk => cases hk
                      | k + 5, hk => cases hk
                    have e29 : U27 109 0 9 = (T1 109 0 9) + 1 := up_f hU27
                    refine ih_7 _ ?_ (k + 1) U27 (Nat.le_refl _) ?_ ?_ ?_
                    · have hm_7 := hm_7 (); omega
                    · exact fr_u (fr_u (fr_t (fr_0 _ _) (fr_s hf_7 rfl)) hU23 rfl) hU27 rfl
                    · omega
                    · intro j a b
                      rw [up_k hU27 (by exact Nat.ne_of_beq_eq_false rfl) 0 j]
                      by_cases z : j = T1 109 0 9
                      · rw [z, up_f hU23]; have y := (hkm (T 100 (T 109 0 5 - 1) 7 + k) (by omega) (by omega)).1; omega
                      · rw [up_g hU23 (fun y => z y.2.2)]; exact ol1 j a (by omega)
                  · refine (show po_X9_listOpen T b n T1 (some (vI 0)) from ?_)
                    exact ⟨_, rfl, fr_t (fr_0 _ _) (fr_s hf_7 rfl), ⟨by omega, by omega⟩, ol1⟩
                · intro b30 b30b
                  have e31 : T1 102 ((T 100 (T 109 0 5 - 1) 7) + k) 1 = T 102 ((T 100 (T 109 0 5 - 1) 7) + k) 1 := hf_7 102 ((T 100 (T 109 0 5 - 1) 7) + k) 1 rfl
                  rw [e31] at b30 b30b ⊢
                  intro b32 b32b
                  have e33 : T1 102 ((T 100 (T 109 0 5 - 1) 7) + k) 3 = T 102 ((T 100 (T 109 0 5 - 1) 7) + k) 3 := hf_7 102 ((T 100 (T 109 0 5 - 1) 7) + k) 3 rfl
                  rw [e33] at b32 b32b ⊢
                  refine And.intro (fun c34 => ?_) (fun c34 => ?_)
                  · refine hK 79 _ [vI (T 102 ((T 100 (T 109 0 5 - 1) 7) + k) 1), vR 584 0] T1 ?_
                    refine j_blx (F := fX9) tb_X9 (nn_ _) bk_X9_listOpen_79 bs_X9_listOpen_79 hz (fun K hK => ?_)
                    refine iy_i (by omega) (by omega) ?_
                    refine x_nm (fun U35 hU35 => ?_)
                    have e36 := up_f hU35
                    refine hK 118 _ [] U35 ?_
                    refine j_blx (F := fX9) tb_X9 (nn_ _) bk_X9_listOpen_118 bs_X9_listOpen_118 hz (fun K hK => ?_)
                    refine rg_i (by omega) ?_
                    refine hK 7 [some (vR 109 0), some (vI b), some (vI n), some (vI (k + 1)), some (vR 102 ((T 100 (T 109 0 5 - 1) 7) + k))] [] U35 ?_
                    refine j_drop [some (vR 109 0), some (vI b), some (vI n), some (vI (k + 1)), none] (fun k v hk => ?_) rfl ?_
                    · match k, hk with
                      | 0, hk => exact hk
                      | 1, hk => exact hk
                      | 2, hk => exact hk
                      | 3, hk => exact hk
                      | 4, hk => cases hk
                      | k + 5, hk => cases hk
                    have e37 : U35 109 0 9 = T1 109 0 9 := up_k hU35 (by exact Nat.ne_of_beq_eq_false rfl) 0 9
                    refine ih_7 _ ?_ (k + 1) U35 (Nat.le_refl _) ?_ ?_ ?_
                    · have hm_7 := hm_7 (); omega
                    · exact fr_u (fr_t (fr_0 _ _) (fr_s hf_7 rfl)) hU35 rfl
                    · omega
                    · intro j a b
                      rw [up_k hU35 (by exact Nat.ne_of_beq_eq_false rfl) 0 j]
                      exact ol1 j a (by have y := up_k hU35 (by decide : (109 : Nat) ≠ 584) 0 9; omega)
                  · refine hK 80 [some (vR 109 0), some (vI b), some (vI n), some (vI k), some (vR 102 ((T 100 (T 109 0 5 - 1) 7) + k))] [vI 0, vI (T 102 ((T 100 (T 109 0 5 - 1) 7) + k) 1), vR 584 0] T1 ?_
                    refine j_blx (F := fX9) tb_X9 (nn_ _) bk_X9_listOpen_80 bs_X9_listOpen_80 hz (fun K hK => ?_)
                    refine iy_i (by omega) (by omega) ?_
                    refine x_nm (fun U38 hU38 => ?_)
                    have e39 := up_f hU38
                    refine hK 118 _ [] U38 ?_
                    refine j_blx (F := fX9) tb_X9 (nn_ _) bk_X9_listOpen_118 bs_X9_listOpen_118 hz (fun K hK => ?_)
                    refine rg_i (by omega) ?_
                    refine hK 7 [some (vR 109 0), some (vI b), some (vI n), some (vI (k + 1)), some (vR 102 ((T 100 (T 109 0 5 - 1) 7) + k))] [] U38 ?_
                    refine j_drop [some (vR 109 0), some (vI b), some (vI n), some (vI (k + 1)), none] (fun k v hk => ?_) rfl ?_
                    · match k, hk with
                      | 0, hk => exact hk
                      | 1, hk => exact hk
                      | 2, hk => exact hk
                      | 3, hk => exact hk
                      | 4, hk => cases hk
                      | k + 5, hk => cases hk
                    have e40 : U38 109 0 9 = T1 109 0 9 := up_k hU38 (by exact Nat.ne_of_beq_eq_false rfl) 0 9
                    refine ih_7 _ ?_ (k + 1) U38 (Nat.le_refl _) ?_ ?_ ?_
                    · have hm_7 := hm_7 (); omega
                    · exact fr_u (fr_t (fr_0 _ _) (fr_s hf_7 rfl)) hU38 rfl
                    · omega
                    · intro j a b
                      rw [up_k hU38 (by exact Nat.ne_of_beq_eq_false rfl) 0 j]
                      exact ol1 j a (by have y := up_k hU38 (by decide : (109 : Nat) ≠ 584) 0 9; omega)
              · refine hK 118 _ [] T1 ?_
                refine j_blx (F := fX9) tb_X9 (nn_ _) bk_X9_listOpen_118 bs_X9_listOpen_118 hz (fun K hK => ?_)
                refine rg_i (by omega) ?_
                refine hK 7 [some (vR 109 0), some (vI b), some (vI n), some (vI (k + 1)), some (vR 102 ((T 100 (T 109 0 5 - 1) 7) + k))] [] T1 ?_
                refine j_drop [some (vR 109 0), some (vI b), some (vI n), some (vI (k + 1)), none] (fun k v hk => ?_) rfl ?_
                · match k, hk with
                  | 0, hk => exact hk
                  | 1, hk => exact hk
                  | 2, hk => exact hk
                  | 3, hk => exact hk
                  | 4, hk => cases hk
                  | k + 5, hk => cases hk
                refine ih_7 _ ?_ (k + 1) T1 (Nat.le_refl _) ?_ ?_ ?_
                · have hm_7 := hm_7 (); omega
                · exact fr_t (fr_0 _ _) (fr_s hf_7 rfl)
                · omega
                · exact ol1
  refine j_blx (F := fX9) tb_X9 (nn_ _) bk_X9_listOpen_0 bs_X9_listOpen_0 hz (fun K hK => ?_)
  refine bd_i (by omega) ?_
  refine x_nm (fun U41 hU41 => ?_)
  have e42 := up_f hU41
  refine hK 7 [some (vR 109 0), some (vI b), some (vI n), some (vI 0), none] [] U41 ?_
  have e43 : U41 109 0 9 = 0 := up_f hU41
  refine c_7 _ 0 U41 (Nat.le_refl _) ?_ ?_ ?_
  · exact fr_u (fr_0 _ _) hU41 rfl
  · omega
  · intro j a b; omega
def KO_ (T : Zt) : Prop := ∀ c : Int, 0 ≤ c → c < T 106 0 2 → T 401 c 4 ≤ 7
theorem KO__f {ws : List (Nat × List Int)} {T T' : Zt} (h : KO_ T) (f : fr_ ws T T') (w : (∀ j, fw_ ws 401 j = false) ∧ fw_ ws 106 2 = false ∧ True) : KO_ T' := by
  have e0 : ∀ i j, T' 401 i j = T 401 i j := fun i j => f 401 i j (w.1 j)
  have e1 : ∀ i, T' 106 i 2 = T 106 i 2 := fun i => f 106 i 2 w.2.1
  simp only [KO_, e0, e1] at h ⊢
  exact h
abbrev cX10_firsts : ByteArray := prog_1_method_35_code
def yX10_firsts : MethodName := ⟨RX10, "firsts", "(II)I"⟩
def zX10_firsts : Zm := (RX10, cX10_firsts, 4, (some .int), { frames := 7, cells := 0, slots := 0, locals := 179 })
theorem bk_X10_firsts_0 : ck_ fX10 (some .int) cX10_firsts 0 [.aload 0, .iload 1] 2 = true := qck_r (nn_ _) (by decide +kernel)
theorem bs_X10_firsts_0 {P : Zt → Option Zv → Prop} (K : Int → Zl → List Zv → Zt → Prop) : sx_ K P [.aload 0, .iload 1] 2 = x_aload 0 (x_iload 1 (K 2)) := ((xe_aload 0).trans (congrArg (x_aload 0) ((xe_iload 1).trans (congrArg (x_iload 1) xe_nil))))
theorem bk_X10_firsts_5 : ck_ fX10 (some .int) cX10_firsts 5 [.ifCond .eq 16, .aload 0, .iload 2] 10 = true := qck_r (nn_ _) (by decide +kernel)
theorem bs_X10_firsts_5 {P : Zt → Option Zv → Prop} (K : Int → Zl → List Zv → Zt → Prop) : sx_ K P [.ifCond .eq 16, .aload 0, .iload 2] 10 = x_ifCond .eq 16 K (x_aload 0 (x_iload 2 (K 10))) := ((xe_ifCond .eq 16).trans (congrArg (x_ifCond .eq 16 K) ((xe_aload 0).trans (congrArg (x_aload 0) ((xe_iload 2).trans (congrArg (x_iload 2) xe_nil))))))
theorem bk_X10_firsts_16 : ck_ fX10 (some .int) cX10_firsts 16 [.iconst (-2), .ireturn] 19 = true := qck_r (nn_ _) (by decide +kernel)
theorem bs_X10_firsts_16 {P : Zt → Option Zv → Prop} (K : Int → Zl → List Zv → Zt → Prop) : sx_ K P [.iconst (-2), .ireturn] 19 = x_iconst (-2) (x_ireturn P) := ((xe_iconst (-2)).trans (congrArg (x_iconst (-2)) (xe_ireturn)))
theorem bk_X10_firsts_13 : ck_ fX10 (some .int) cX10_firsts 13 [.ifCond .ne 19, .iconst (-2), .ireturn] 19 = true := qck_r (nn_ _) (by decide +kernel)
theorem bs_X10_firsts_13 {P : Zt → Option Zv → Prop} (K : Int → Zl → List Zv → Zt → Prop) : sx_ K P [.ifCond .ne 19, .iconst (-2), .ireturn] 19 = x_ifCond .ne 19 K (x_iconst (-2) (x_ireturn P)) := ((xe_ifCond .ne 19).trans (congrArg (x_ifCond .ne 19 K) ((xe_iconst (-2)).trans (congrArg (x_iconst (-2)) (xe_ireturn)))))
theorem bk_X10_firsts_19 : ck_ fX10 (some .int) cX10_firsts 19 [.aload 0, .tableswitch 0 10 2 #[], .tableswitch 0 6 1 #[], .iload 1, .aaload, .astore 3, .aload 3, .tableswitch 0 0 4 #[], .iload 2, .iaload, .iconst (-1), .if_icmp .eq 46, .aload 3, .tableswitch 0 0 6 #[], .ifCond .ne 49, .iconst (-4), .ireturn] 49 = true := qck_r (nn_ _) (by decide +kernel)
theorem bs_X10_firsts_19 {P : Zt → Option Zv → Prop} (K : Int → Zl → List Zv → Zt → Prop) : sx_ K P [.aload 0, .tableswitch 0 10 2 #[], .tableswitch 0 6 1 #[], .iload 1, .aaload, .astore 3, .aload 3, .tableswitch 0 0 4 #[], .iload 2, .iaload, .iconst (-1), .if_icmp .eq 46, .aload 3, .tableswitch 0 0 6 #[], .ifCond .ne 49, .iconst (-4), .ireturn] 49 = x_aload 0 (x_g1 110 106 (x_g1 106 521 (x_iload 1 (x_aaload (x_astore 3 (x_aload 3 (x_g2 100 404 (x_iload 2 (x_iaload (x_iconst (-1) (x_if_icmp .eq 46 K (x_aload 3 (x_g0 100 6 0 1 (x_ifCond .ne 49 K (x_iconst (-4) (x_ireturn P)))))))))))))))) := ((xe_aload 0).trans (congrArg (x_aload 0) ((xe_g1 (kk := 110) rfl tl_10_2).trans (congrArg (x_g1 110 106) ((xe_g1 (kk := 106) rfl tl_6_1).trans (congrArg (x_g1 106 521) ((xe_iload 1).trans (congrArg (x_iload 1) ((xe_aaload).trans (congrArg (x_aaload) ((xe_astore 3).trans (congrArg (x_astore 3) ((xe_aload 3).trans (congrArg (x_aload 3) ((xe_g2 (kk := 100) rfl tl_0_4).trans (congrArg (x_g2 100 404) ((xe_iload 2).trans (congrArg (x_iload 2) ((xe_iaload).trans (congrArg (x_iaload) ((xe_iconst (-1)).trans (congrArg (x_iconst (-1)) ((xe_if_icmp .eq 46).trans (congrArg (x_if_icmp .eq 46 K) ((xe_aload 3).trans (congrArg (x_aload 3) ((xe_g0 (kk := 100) rfl tl_0_6).trans (congrArg (x_g0 100 6 0 1) ((xe_ifCond .ne 49).trans (congrArg (x_ifCond .ne 49 K) ((xe_iconst (-4)).trans (congrArg (x_iconst (-4)) (xe_ireturn)))))))))))))))))))))))))))))))))
theorem bk_X10_firsts_46 : ck_ fX10 (some .int) cX10_firsts 46 [.iconst (-4), .ireturn] 49 = true := qck_r (nn_ _) (by decide +kernel)
theorem bs_X10_firsts_46 {P : Zt → Option Zv → Prop} (K : Int → Zl → List Zv → Zt → Prop) : sx_ K P [.iconst (-4), .ireturn] 49 = x_iconst (-4) (x_ireturn P) := ((xe_iconst (-4)).trans (congrArg (x_iconst (-4)) (xe_ireturn)))
theorem bk_X10_firsts_49 : ck_ fX10 (some .int) cX10_firsts 49 [.aload 0, .tableswitch 0 10 4 #[], .aload 3, .aload 3, .tableswitch 0 0 4 #[], .iload 2, .iaload] 60 = true := qck_r (nn_ _) (by decide +kernel)
theorem bs_X10_firsts_49 {P : Zt → Option Zv → Prop} (K : Int → Zl → List Zv → Zt → Prop) : sx_ K P [.aload 0, .tableswitch 0 10 4 #[], .aload 3, .aload 3, .tableswitch 0 0 4 #[], .iload 2, .iaload] 60 = x_aload 0 (x_g1 110 109 (x_aload 3 (x_aload 3 (x_g2 100 404 (x_iload 2 (x_iaload (K 60))))))) := ((xe_aload 0).trans (congrArg (x_aload 0) ((xe_g1 (kk := 110) rfl tl_10_4).trans (congrArg (x_g1 110 109) ((xe_aload 3).trans (congrArg (x_aload 3) ((xe_aload 3).trans (congrArg (x_aload 3) ((xe_g2 (kk := 100) rfl tl_0_4).trans (congrArg (x_g2 100 404) ((xe_iload 2).trans (congrArg (x_iload 2) ((xe_iaload).trans (congrArg (x_iaload) xe_nil))))))))))))))
set_option maxRecDepth 100000 in
theorem cl_X10_377 : cv_ RX10 377 yX9_countFirsts zX9_countFirsts 9 2 := ⟨gi_V (lwq_6 (dqc_m (dqc_m (dqc_m (dqa_m (List.mem_of_getElem? (i := 7) rfl))))) rfl : Cond.methodLink RX10 377 yX9_countFirsts ∈ lw_g) (lwq_6 (dqc_m (dqc_m (dqc_m (dqa_m (dqa_m (List.mem_of_getElem? (i := 0) rfl)))))) rfl : Cond.instanceMethod yX9_countFirsts ∈ lw_g) (lwq_6 (dqc_m (dqc_m (dqc_m (dqa_m (dqa_m (List.mem_of_getElem? (i := 1) rfl)))))) rfl : Cond.selects yX9_countFirsts.cls yX9_countFirsts yX9_countFirsts ∈ lw_g) (lwq_1 (List.mem_of_getElem? (i := 6) rfl) rfl : Cond.initialized yX9_countFirsts.cls ∈ lw_g) (lwq_6 (dqc_m (dqc_m (dqc_m (dqa_m (dqa_m (List.mem_of_getElem? (i := 2) rfl)))))) rfl : Cond.code yX9_countFirsts cX9_countFirsts 7 (some .int) ∈ lw_g), ⟨nmh_8.1, nmh_8.2, pdq_24⟩, ⟨_, _, rfl⟩⟩
theorem bk_X10_firsts_63 : ck_ fX10 (some .int) cX10_firsts 63 [.ireturn] 64 = true := qck_r (nn_ _) (by decide +kernel)
theorem bs_X10_firsts_63 {P : Zt → Option Zv → Prop} (K : Int → Zl → List Zv → Zt → Prop) : sx_ K P [.ireturn] 64 = x_ireturn P := (xe_ireturn)
abbrev po_X10_firsts (T : Zt) (c b : Int) : Zt → Option Zv → Prop := fun T' r => ∃ x : Int, r = some (vI x) ∧ fr_ [(109, [5]), (588, []), (107, [1, 13]), (542, []), (543, []), (544, []), (545, []), (546, []), (550, []), (551, []), (552, []), (549, []), (547, []), (548, [])] T T' ∧ (-4 ≤ x ∧ x ≤ 27)
set_option maxHeartbeats 4000000 in
theorem ct_X10_firsts {T : Zt} {c b : Int} (hka : KA_ T) (hkm : KM_ T) (hkc : KC_ T) (hko : KO_ T) : Ct_ yX10_firsts zX10_firsts T [vR 110 0, vI c, vI b] (po_X10_firsts T c b) := by
  refine ct_of pn_10 rfl rfl (Nat.le_of_ble_eq_true rfl) (fun hT hav => ?_)
  have hr_c : -2147483648 ≤ c ∧ c ≤ 2147483647 := hav (vI c) (List.mem_cons_of_mem _ List.mem_cons_self)
  have hr_b : -2147483648 ≤ b ∧ b ≤ 2147483647 := hav (vI b) (List.mem_cons_of_mem _ (List.mem_cons_of_mem _ List.mem_cons_self))
  have hz : zX10_firsts.2.2.2.1 = some .boolean → ∀ (T' : Zt) (x : Int), po_X10_firsts T c b T' (some (vI x)) → 0 ≤ x ∧ x ≤ 1 := fun h => by cases h
  have hcc : 0 ≤ T 106 0 2 ∧ T 106 0 2 ≤ 4 := bd_f hT 106 2 tl_6_2 0
  have hb_clubs : 0 ≤ T 108 0 2 ∧ T 108 0 2 ≤ 12 := bd_f hT 108 2 tl_8_2 0
  show J_ zX10_firsts T (po_X10_firsts T c b) 0 0 0 [some (vR 110 0), some (vI c), some (vI b), none] [] T
  refine j_blx (F := fX10) tb_X10 (nn_ _) bk_X10_firsts_0 bs_X10_firsts_0 hz (fun K hK => ?_)
  refine hK 2 _ [vI c, vR 110 0] T ?_
  refine j_callV (y := yX10_isCompetition) (Yc := zX10_isCompetition) (rest := []) [vI c] (ct_X10_isCompetition (T := T)) cl_X10_107 (qd_c (by decide +kernel)) (nn_ _) rfl (rf_of rfl) (Nat.le_of_ble_eq_true rfl) (Nat.le_of_ble_eq_true rfl) (Nat.le_of_ble_eq_true rfl) rfl ?_
  rintro _ _ ⟨rfl, x1, rfl, hx1⟩
  show J_ zX10_firsts T (po_X10_firsts T c b) 0 0 5 _ [vI x1] T
  refine j_blx (F := fX10) tb_X10 (nn_ _) bk_X10_firsts_5 bs_X10_firsts_5 hz (fun K hK => ?_)
  refine And.intro (fun c2 => ?_) (fun c2 => ?_)
  · replace hx1 := hx1.resolve_left (fun z => absurd (c2.symm.trans z.1) (by decide))
    clear c2
    refine hK 16 _ [] T ?_
    refine j_blx (F := fX10) tb_X10 (nn_ _) bk_X10_firsts_16 bs_X10_firsts_16 hz (fun K hK => ?_)
    refine (show po_X10_firsts T c b T (some (vI (-2))) from ?_)
    exact ⟨_, rfl, fr_0 _ _, by omega⟩
  · replace hx1 := hx1.resolve_right (fun z => c2 z.1)
    clear c2
    refine hK 10 _ [vI b, vR 110 0] T ?_
    refine j_callV (y := yX10_isClub) (Yc := zX10_isClub) (rest := []) [vI b] (ct_X10_isClub (T := T)) cl_X10_137 (qd_c (by decide +kernel)) (nn_ _) rfl (rf_of rfl) (Nat.le_of_ble_eq_true rfl) (Nat.le_of_ble_eq_true rfl) (Nat.le_of_ble_eq_true rfl) rfl ?_
    rintro _ _ ⟨rfl, x3, rfl, hx3⟩
    show J_ zX10_firsts T (po_X10_firsts T c b) 0 0 13 _ [vI x3] T
    refine j_blx (F := fX10) tb_X10 (nn_ _) bk_X10_firsts_13 bs_X10_firsts_13 hz (fun K hK => ?_)
    refine And.intro (fun c4 => ?_) (fun c4 => ?_)
    · replace hx3 := hx3.resolve_right (fun z => c4 z.1)
      clear c4
      refine hK 19 _ [] T ?_
      refine j_blx (F := fX10) tb_X10 (nn_ _) bk_X10_firsts_19 bs_X10_firsts_19 hz (fun K hK => ?_)
      refine ix_i (by omega) ?_
      refine And.intro (fun c5 => ?_) (fun c5 => ?_)
      · exact absurd (show T 521 0 c = 0 by omega) (hka.1 _ (by omega) (by omega))
      · refine ix_i (by omega) ?_
        intro b6 b6b
        refine And.intro (fun c7 => ?_) (fun c7 => ?_)
        · refine hK 46 [some (vR 110 0), some (vI c), some (vI b), some (vR 100 c)] [] T ?_
          refine j_blx (F := fX10) tb_X10 (nn_ _) bk_X10_firsts_46 bs_X10_firsts_46 hz (fun K hK => ?_)
          refine (show po_X10_firsts T c b T (some (vI (-4))) from ?_)
          exact ⟨_, rfl, fr_0 _ _, by omega⟩
        · intro b8 b8b
          refine And.intro (fun c9 => ?_) (fun c9 => ?_)
          · refine hK 49 _ [] T ?_
            refine j_blx (F := fX10) tb_X10 (nn_ _) bk_X10_firsts_49 bs_X10_firsts_49 hz (fun K hK => ?_)
            refine ix_i (by omega) ?_
            intro b10 b10b
            refine hK 60 _ [vI (T 404 c b), vR 100 c, vR 109 0] T ?_
            refine j_callV (y := yX9_countFirsts) (Yc := zX9_countFirsts) (rest := []) [vR 100 c, vI (T 404 c b)] (ct_X9_countFirsts (T := T) (by exact hka) (by exact hkm) (by exact hkc) (by omega) (by omega) (by exact hko c (by omega) (by omega))) cl_X10_377 (qd_c (by decide +kernel)) (nn_ _) rfl (rf_of rfl) (Nat.le_of_ble_eq_true rfl) (Nat.le_of_ble_eq_true rfl) (Nat.le_of_ble_eq_true rfl) rfl ?_
            rintro U11 _ ⟨x12, rfl, fU11, qU11⟩
            show J_ zX10_firsts T (po_X10_firsts T c b) 0 0 63 _ [vI x12] U11
            refine j_blx (F := fX10) tb_X10 (nn_ _) bk_X10_firsts_63 bs_X10_firsts_63 hz (fun K hK => ?_)
            refine (show po_X10_firsts T c b U11 (some (vI x12)) from ?_)
            exact ⟨_, rfl, fr_t (fr_0 _ _) (fr_s fU11 rfl), by omega⟩
          · refine (show po_X10_firsts T c b T (some (vI (-4))) from ?_)
            exact ⟨_, rfl, fr_0 _ _, by omega⟩
    · replace hx3 := hx3.resolve_left (fun z => absurd (c4.symm.trans z.1) (by decide))
      clear c4
      refine (show po_X10_firsts T c b T (some (vI (-2))) from ?_)
      exact ⟨_, rfl, fr_0 _ _, by omega⟩
abbrev cX10_table : ByteArray := prog_1_method_29_code
def yX10_table : MethodName := ⟨RX10, "table", "(IIII)I"⟩
def zX10_table : Zm := (RX10, cX10_table, 7, (some .int), { frames := 5, cells := 0, slots := 0, locals := 127 })
set_option maxRecDepth 100000 in
theorem cl_X10_350 : cv_ RX10 350 yX7_tally zX7_tally 7 2 := ⟨gi_V (lwq_5 (dqc_m (dqc_m (dqc_m (dqc_m (dqc_m (dqc_m (dqa_m (List.mem_of_getElem? (i := 0) rfl)))))))) rfl : Cond.methodLink RX10 350 yX7_tally ∈ lw_g) (lwq_5 (dqc_m (dqc_m (dqc_m (dqc_m (dqc_m (dqc_m (dqa_m (List.mem_of_getElem? (i := 1) rfl)))))))) rfl : Cond.instanceMethod yX7_tally ∈ lw_g) (lwq_5 (dqc_m (dqc_m (dqc_m (dqc_m (dqc_m (dqc_m (dqa_m (List.mem_of_getElem? (i := 2) rfl)))))))) rfl : Cond.selects yX7_tally.cls yX7_tally yX7_tally ∈ lw_g) (lwq_1 (List.mem_of_getElem? (i := 5) rfl) rfl : Cond.initialized yX7_tally.cls ∈ lw_g) (lwq_5 (dqc_m (dqc_m (dqc_m (dqc_m (dqc_m (dqc_m (dqa_m (List.mem_of_getElem? (i := 3) rfl)))))))) rfl : Cond.code yX7_tally cX7_tally 5 none ∈ lw_g), ⟨nmh_7.1, nmh_7.2, pdq_31⟩, ⟨_, _, rfl⟩⟩
set_option maxRecDepth 100000 in
theorem cl_X10_353 : cv_ RX10 353 yX7_rank zX7_rank 7 0 := ⟨gi_V (lwq_5 (dqc_m (dqc_m (dqc_m (dqc_m (dqc_m (dqc_m (dqc_m (List.mem_of_getElem? (i := 0) rfl)))))))) rfl : Cond.methodLink RX10 353 yX7_rank ∈ lw_g) (lwq_5 (dqc_m (dqc_m (dqc_m (dqc_m (dqc_m (dqc_m (dqc_m (List.mem_of_getElem? (i := 1) rfl)))))))) rfl : Cond.instanceMethod yX7_rank ∈ lw_g) (lwq_5 (dqc_m (dqc_m (dqc_m (dqc_m (dqc_m (dqc_m (dqc_m (List.mem_of_getElem? (i := 2) rfl)))))))) rfl : Cond.selects yX7_rank.cls yX7_rank yX7_rank ∈ lw_g) (lwq_1 (List.mem_of_getElem? (i := 5) rfl) rfl : Cond.initialized yX7_rank.cls ∈ lw_g) (lwq_5 (dqc_m (dqc_m (dqc_m (dqc_m (dqc_m (dqc_m (dqc_m (List.mem_of_getElem? (i := 3) rfl)))))))) rfl : Cond.code yX7_rank cX7_rank 3 none ∈ lw_g), ⟨nmh_7.1, nmh_7.2, pdq_1⟩, ⟨_, _, rfl⟩⟩
abbrev po_X10_table (T : Zt) (c d b w : Int) : Zt → Option Zv → Prop := fun T' r => ∃ x : Int, r = some (vI x) ∧ fr_ [(107, [1, 13]), (542, []), (543, []), (544, []), (545, []), (546, []), (550, []), (551, []), (552, []), (549, []), (547, []), (548, [])] T T' ∧ (0 = (0 : Int))
abbrev cX10_parted : ByteArray := prog_1_method_31_code
def yX10_parted : MethodName := ⟨RX10, "parted", "(III)I"⟩
def zX10_parted : Zm := (RX10, cX10_parted, 5, (some .int), { frames := 5, cells := 0, slots := 0, locals := 127 })
abbrev po_X10_parted (T : Zt) (c d k : Int) : Zt → Option Zv → Prop := fun T' r => ∃ x : Int, r = some (vI x) ∧ fr_ [(107, [1, 13]), (542, []), (543, []), (544, []), (545, []), (546, []), (550, []), (551, []), (552, []), (549, []), (547, []), (548, [])] T T' ∧ (0 = (0 : Int))
abbrev cX10_standing : ByteArray := prog_1_method_30_code
def yX10_standing : MethodName := ⟨RX10, "standing", "(III)I"⟩
def zX10_standing : Zm := (RX10, cX10_standing, 5, (some .int), { frames := 5, cells := 0, slots := 0, locals := 127 })
abbrev po_X10_standing (T : Zt) (c d k : Int) : Zt → Option Zv → Prop := fun T' r => ∃ x : Int, r = some (vI x) ∧ fr_ [(107, [1, 13]), (542, []), (543, []), (544, []), (545, []), (546, []), (550, []), (551, []), (552, []), (549, []), (547, []), (548, [])] T T' ∧ (0 = (0 : Int))
abbrev cX10_lineUp : ByteArray := prog_1_method_20_code
def yX10_lineUp : MethodName := ⟨RX10, "lineUp", "(III)I"⟩
def zX10_lineUp : Zm := (RX10, cX10_lineUp, 6, (some .int), { frames := 5, cells := 0, slots := 0, locals := 122 })
abbrev po_X10_lineUp (T : Zt) (q b s : Int) : Zt → Option Zv → Prop := fun T' r => ∃ x : Int, r = some (vI x) ∧ fr_ [(448, []), (449, []), (533, [])] T T' ∧ (0 = (0 : Int))
def KE_ (T : Zt) : Prop := ∀ c : Int, 0 ≤ c → c < T 106 0 2 → ∀ j : Int, 0 ≤ j → j < T 100 c 5 → T 404 c (T 403 c j) = j
theorem KE__f {ws : List (Nat × List Int)} {T T' : Zt} (h : KE_ T) (f : fr_ ws T T') (w : (∀ j, fw_ ws 403 j = false) ∧ (∀ j, fw_ ws 404 j = false) ∧ fw_ ws 100 5 = false ∧ fw_ ws 106 2 = false ∧ True) : KE_ T' := by
  have e0 : ∀ i j, T' 403 i j = T 403 i j := fun i j => f 403 i j (w.1 j)
  have e1 : ∀ i j, T' 404 i j = T 404 i j := fun i j => f 404 i j (w.2.1 j)
  have e2 : ∀ i, T' 100 i 5 = T 100 i 5 := fun i => f 100 i 5 w.2.2.1
  have e3 : ∀ i, T' 106 i 2 = T 106 i 2 := fun i => f 106 i 2 w.2.2.2.1
  simp only [KE_, e0, e1, e2, e3] at h ⊢
  exact h
abbrev cX10_enter : ByteArray := prog_1_method_12_code
def yX10_enter : MethodName := ⟨RX10, "enter", "(II)I"⟩
def zX10_enter : Zm := (RX10, cX10_enter, 4, (some .int), { frames := 2, cells := 0, slots := 0, locals := 42 })
-- things are made: rows, objects, copies
section JN
variable {Y : Zm} {T0 T : Zt} {P : Zt → Option Zv → Prop} {bc bs bc' bs' : Nat} {pc pc' : Int} {ls : Zl} {st : List Zv}
def nu_ (T : Zt) (k : Nat) (i n : Int) (f : Int → Int) : Zt := fun k' i' j' => if k' = k ∧ i' = i then (if j' = -1 then 1 else if j' = -2 then n else f j') else T k' i' j'
def aq_ (ad : Nat → Int → Nat) (k : Nat) (i : Int) (q : Nat) : Nat → Int → Nat := fun k' i' => if k' = k ∧ i' = i then q else ad k' i'
theorem nu_o {k k' : Nat} {i i' n : Int} {f : Int → Int} (h : ¬ (k' = k ∧ i' = i)) : nu_ T k i n f k' i' = T k' i' := by
  funext j
  unfold nu_
  rw [if_neg h]
theorem nu_s {k : Nat} {i n : Int} {f : Int → Int} (j : Int) : nu_ T k i n f k i j = if j = -1 then 1 else if j = -2 then n else f j := by
  unfold nu_
  rw [if_pos ⟨rfl, rfl⟩]
theorem nu_p {k : Nat} {i n : Int} {f : Int → Int} {j : Int} (h : 0 ≤ j) : nu_ T k i n f k i j = f j := by
  rw [nu_s, if_neg (by omega), if_neg (by omega)]
theorem nu_l {k : Nat} {i n : Int} {f : Int → Int} : nu_ T k i n f k i (-2) = n := by
  rw [nu_s, if_neg (by omega), if_pos rfl]
theorem al_nu {k : Nat} {i n : Int} {f : Int → Int} (k' : Nat) (i' : Int) : al_ (nu_ T k i n f) k' i' ↔ (k' = k ∧ i' = i) ∨ al_ T k' i' := by
  unfold al_
  by_cases h : k' = k ∧ i' = i
  · obtain ⟨rfl, rfl⟩ := h
    rw [nu_s, if_pos rfl]
    simp
  · rw [nu_o h]
    simp [h]
theorem aq_s {ad : Nat → Int → Nat} {k q : Nat} {i : Int} : aq_ ad k i q k i = q := by
  unfold aq_
  rw [if_pos ⟨rfl, rfl⟩]
theorem aq_n {ad : Nat → Int → Nat} {k q k' : Nat} {i i' : Int} (h : ¬ (k' = k ∧ i' = i)) : aq_ ad k i q k' i' = ad k' i' := by
  unfold aq_
  rw [if_neg h]
theorem aq_e {ad : Nat → Int → Nat} {k q : Nat} {i : Int} (hk : 100 ≤ k) (hfr : ¬ al_ T k i) (k' : Nat) (i' : Int) (h : k' < 100 ∨ al_ T k' i') : aq_ ad k i q k' i' = ad k' i' := by
  refine aq_n (fun z => ?_)
  obtain ⟨rfl, rfl⟩ := z
  rcases h with h | h
  · omega
  · exact hfr h
theorem tf_ky : ∀ k, k < 154 → ∀ q ∈ tf_ k, ¬ (150 ≤ q.2.1 ∧ q.2.1 < 154) := by decide +kernel
theorem zi_at {k : Nat} {q : (Nat × Nat × Int × Int) × Nat} (h : q ∈ (tf_ k).zipIdx) : (tf_ k)[q.2]? = some q.1 := by
  obtain ⟨n, hn⟩ := List.getElem?_of_mem h
  rw [List.getElem?_zipIdx] at hn
  cases hz : (tf_ k)[n]? with
  | none => rw [hz] at hn; cases hn
  | some z =>
    rw [hz] at hn
    simp only [Option.map_some, Nat.zero_add, Option.some.injEq] at hn
    rw [← hn]
    exact hz
theorem ce_ad {cA : Nat → ClassId} {ad ad' : Nat → Int → Nat} (hT : ok_T T) (h : ∀ k i, k < 100 ∨ al_ T k i → ad' k i = ad k i) {k : Nat} {i : Int} (ha : al_ T k i) : ce_ cA ad' T k i = ce_ cA ad T k i := by
  unfold ce_
  cases hk : ta_ k with
  | none =>
    have e : ((tf_ k).zipIdx.map fun q => en_v ad' (fv_ q.1.1 q.1.2.1 (T k i (q.2 : Int)) i)) = (tf_ k).zipIdx.map fun q => en_v ad (fv_ q.1.1 q.1.2.1 (T k i (q.2 : Int)) i) := by
      apply List.map_congr_left
      rintro ⟨⟨c, k', lo, hi⟩, j⟩ hq
      exact en_congr h (hT.2.2.2.1 k i ha j c k' lo hi (zi_at hq))
    simp only [e]
  | some q =>
    obtain ⟨t, n, lo, hi⟩ := q
    have hc := tc_of hk
    have hlt : k < 640 := by
      by_cases z : k < 640
      · exact z
      · rw [ta_no (by omega)] at hk; cases hk
    match t, hk, hc with
    | 0, hk, hc => simp [tc_] at hc
    | 1, hk, hc => rfl
    | 2, hk, hc => rfl
    | 3, hk, hc => rfl
    | 4, hk, hc =>
      obtain rfl := ta_4_k k hlt n lo hi hk
      have e : (fun x : Nat => if T 521 i (x : Int) = 0 then none else some (ad' 100 x)) = fun x : Nat => if T 521 i (x : Int) = 0 then none else some (ad 100 x) := by
        funext x
        by_cases z : T 521 i (x : Int) = 0
        · rw [if_pos z, if_pos z]
        · rw [if_neg z, if_neg z, h 100 x (Or.inr (hT.2.2.2.2.1 i x (by omega) z))]
      simp only [e]
    | 5, hk, hc =>
      obtain rfl := ta_5_k k hlt n lo hi hk
      have e : (fun x : Nat => if T 523 i (x : Int) = 0 then none else some (ad' 102 x)) = fun x : Nat => if T 523 i (x : Int) = 0 then none else some (ad 102 x) := by
        funext x
        by_cases z : T 523 i (x : Int) = 0
        · rw [if_pos z, if_pos z]
        · rw [if_neg z, if_neg z, h 102 x (Or.inr (hT.2.2.2.2.2.1 i x (by omega) z))]
      simp only [e]
    | t + 6, hk, hc => simp [tc_] at hc
theorem ok_nu (hT : ok_T T) {k : Nat} {i n : Int} {f : Int → Int} (hk9 : k ≠ 190 ∧ k ≠ 191) (hk : 100 ≤ k) (hn : 0 ≤ n ∧ n ≤ 2147483647) (h1 : ∀ t m lo hi, ta_ k = some (t, m, lo, hi) → t ≤ 3 ∧ ∀ x, 0 ≤ x → lo ≤ f x ∧ f x ≤ hi) (h2 : ∀ (j c k' : Nat) (lo hi : Int), (tf_ k)[j]? = some (c, k', lo, hi) → lo ≤ f j ∧ f j ≤ hi ∧ ok_v T (fv_ c k' (f j) i)) (h3 : ∀ o, ow_ k = some o → al_ T o i ∨ al_ T (o + 50) i) : ok_T (nu_ T k i n f) := by
  obtain ⟨a1, a2, a3, a4, a5, a6, a7, a8, a9⟩ := hT
  have mo : ∀ k' i', al_ T k' i' → al_ (nu_ T k i n f) k' i' := fun k' i' h => (al_nu k' i').mpr (Or.inr h)
  refine ⟨fun k' t' n' lo' hi' h i' x' hx => ?_, fun k' j' c k'' lo' hi' h i' => ?_, fun i' => ?_, fun k' i' hl j' c k'' lo' hi' h => ?_, fun i' x' hx h => ?_, fun i' x' hx h => ?_, fun k' i' h q => ?_, fun k' i' o h q => ?_, fun i' h q => ?_⟩
  · by_cases e : k' = k ∧ i' = i
    · obtain ⟨rfl, rfl⟩ := e
      rw [nu_p hx]
      exact (h1 _ _ _ _ h).2 x' hx
    · rw [nu_o e]
      exact a1 k' t' n' lo' hi' h i' x' hx
  · by_cases e : k' = k ∧ i' = i
    · obtain ⟨rfl, rfl⟩ := e
      rw [nu_p (by omega)]
      exact ⟨(h2 _ _ _ _ _ h).1, (h2 _ _ _ _ _ h).2.1⟩
    · rw [nu_o e]
      exact a2 k' j' c k'' lo' hi' h i'
  · by_cases e : 190 = k ∧ i' = i
    · obtain ⟨rfl, rfl⟩ := e
      rw [nu_l]
      exact hn
    · rw [nu_o e]
      exact a3 i'
  · by_cases e : k' = k ∧ i' = i
    · obtain ⟨rfl, rfl⟩ := e
      rw [nu_p (by omega)]
      exact okv_mono mo (h2 _ _ _ _ _ h).2.2
    · rw [nu_o e]
      exact okv_mono mo (a4 k' i' (((al_nu k' i').mp hl).resolve_left e) j' c k'' lo' hi' h)
  · by_cases e : 521 = k ∧ i' = i
    · obtain ⟨rfl, rfl⟩ := e
      exact absurd (h1 _ _ _ _ ta_521).1 (by omega)
    · rw [nu_o e] at h
      exact mo _ _ (a5 i' x' hx h)
  · by_cases e : 523 = k ∧ i' = i
    · obtain ⟨rfl, rfl⟩ := e
      exact absurd (h1 _ _ _ _ ta_523).1 (by omega)
    · rw [nu_o e] at h
      exact mo _ _ (a6 i' x' hx h)
  · rcases (al_nu k' i').mp q with e | e
    · omega
    · exact a7 k' i' h e
  · rcases (al_nu k' i').mp q with e | e
    · obtain ⟨rfl, rfl⟩ := e
      exact (h3 o h).imp (mo _ _) (mo _ _)
    · exact (a8 k' i' o h e).imp (mo _ _) (mo _ _)
  · rw [nu_o (fun e => hk9.2 e.1.symm)] at h
    rcases (al_nu 190 i').mp q with e | e
    · exact hk9.1 e.1.symm
    · exact a9 i' h e
/-- a row of kind 190 is made, and counted -/
def nv_ (T : Zt) (n : Int) : Zt := up_ (nu_ T 190 (T 191 0 0) n (fun _ => 0)) 191 0 0 (T 191 0 0 + 1)
theorem nv_o {k' : Nat} {i' n : Int} (h : ¬ (k' = 190 ∧ i' = T 191 0 0)) (h2 : k' ≠ 191) : nv_ T n k' i' = T k' i' := by
  unfold nv_
  rw [up_o (fun e => h2 (Prod.mk.inj e).1), nu_o h]
theorem nv_9 {n : Int} : nv_ T n 191 0 0 = T 191 0 0 + 1 := up_s _ _ _ _ _
theorem nv_s {n : Int} : nv_ T n 190 (T 191 0 0) = nu_ T 190 (T 191 0 0) n (fun _ => 0) 190 (T 191 0 0) := by
  unfold nv_
  rw [up_o (fun e => absurd (Prod.mk.inj e).1 (by decide))]
theorem al_nv {n : Int} (k' : Nat) (i' : Int) : al_ (nv_ T n) k' i' ↔ (k' = 190 ∧ i' = T 191 0 0) ∨ al_ T k' i' := by
  unfold nv_
  rw [al_up (by omega), al_nu]
theorem ta_191 : ta_ 191 = none := by decide +kernel
theorem ok_nv (hT : ok_T T) {n : Int} (hn : 0 ≤ n ∧ n ≤ 2147483647) : ok_T (nv_ T n) := by
  obtain ⟨a1, a2, a3, a4, a5, a6, a7, a8, a9⟩ := hT
  have mo : ∀ k' i', al_ T k' i' → al_ (nv_ T n) k' i' := fun k' i' h => (al_nv k' i').mpr (Or.inr h)
  have hf : ∀ {k j : Nat} {q : Nat × Nat × Int × Int}, (tf_ k)[j]? = some q → k < 154 := fun h => tf_lt h
  refine ⟨fun k' t' n' lo' hi' h i' x' hx => ?_, fun k' j' c k'' lo' hi' h i' => ?_, fun i' => ?_, fun k' i' hl j' c k'' lo' hi' h => ?_, fun i' x' hx h => ?_, fun i' x' hx h => ?_, fun k' i' h q => ?_, fun k' i' o h q => ?_, fun i' h q => ?_⟩
  · by_cases e : k' = 190 ∧ i' = T 191 0 0
    · obtain ⟨rfl, rfl⟩ := e
      rw [nv_s, nu_p hx]
      rw [ta_190] at h
      cases h
      omega
    · rw [nv_o e (fun z => by rw [z, ta_191] at h; cases h)]
      exact a1 k' t' n' lo' hi' h i' x' hx
  · have := hf h
    rw [nv_o (fun e => by omega) (by omega)]
    exact a2 k' j' c k'' lo' hi' h i'
  · by_cases e : i' = T 191 0 0
    · subst e
      rw [nv_s, nu_l]
      exact hn
    · rw [nv_o (fun z => e z.2) (by omega)]
      exact a3 i'
  · have := hf h
    rw [nv_o (fun e => by omega) (by omega)]
    exact okv_mono mo (a4 k' i' (((al_nv k' i').mp hl).resolve_left (fun e => by omega)) j' c k'' lo' hi' h)
  · rw [nv_o (fun e => by omega) (by omega)] at h
    exact mo _ _ (a5 i' x' hx h)
  · rw [nv_o (fun e => by omega) (by omega)] at h
    exact mo _ _ (a6 i' x' hx h)
  · rcases (al_nv k' i').mp q with e | e
    · omega
    · exact a7 k' i' h e
  · rcases (al_nv k' i').mp q with e | e
    · rw [e.1] at h
      rw [show ow_ 190 = none by decide] at h
      cases h
    · exact (a8 k' i' o h e).imp (mo _ _) (mo _ _)
  · rw [nv_9] at h
    rcases (al_nv 190 i').mp q with e | e
    · omega
    · exact a9 i' (by omega) e
theorem no_191 {D : va_G} {cA : Nat → ClassId} {ad : Nat → Int → Nat} {A : Nat → Prop} {H : Heap} (h : Rp_ D cA ad T A H) (i : Int) : ¬ al_ T 191 i := fun ha => by
  obtain ⟨ids, q0, hq, -, hP, -⟩ := rp_at h ha
  have h1 := hP q0 _ (wd_get hq)
  unfold ce_ at h1
  rw [ta_191] at h1
  obtain ⟨r, hr, -⟩ := h1
  have e : vwCl[kc_ 191]? = none := by decide +kernel
  rw [show (kc_ 191) = (kc_ 191) from rfl, e] at hr
  cases hr
theorem rp_nu {D : va_G} {cA : Nat → ClassId} {ad : Nat → Int → Nat} {A : Nat → Prop} {H1 : Heap} (hT : ok_T T) {ids : List (Nat × Int)} (hids : ∀ k i, al_ T k i ↔ (k, i) ∈ ids) {k q : Nat} {i : Int} {T1 : Zt} {e : va_E} (hk : 100 ≤ k) (hfr : ¬ al_ T k i) (hs1 : ∀ k' i', al_ T k' i' → T1 k' i' = T k' i') (hal : ∀ k' i', al_ T1 k' i' ↔ (k' = k ∧ i' = i) ∨ al_ T k' i') (he : ce_ cA (aq_ ad k i q) T1 k i = e) (hP : va_P D vwCl (wd_ cA ad T ids ++ [(q, e)]) H1) (hD : va_D A (wd_ cA ad T ids ++ [(q, e)])) : Rp_ D cA (aq_ ad k i q) T1 A H1 := by
  have hw : wd_ cA (aq_ ad k i q) T1 (ids ++ [(k, i)]) = wd_ cA ad T ids ++ [(q, e)] := by
    unfold wd_
    rw [List.map_append]
    congr 1
    · apply List.map_congr_left
      rintro ⟨k', i'⟩ hm
      have ha := (hids k' i').mpr hm
      have hne : ¬ (k' = k ∧ i' = i) := fun z => hfr (by rw [← z.1, ← z.2]; exact ha)
      show (aq_ ad k i q k' i', ce_ cA (aq_ ad k i q) T1 k' i') = (ad k' i', ce_ cA ad T k' i')
      rw [ce_congr (hs1 k' i' ha), ce_ad hT (aq_e hk hfr) ha, aq_n hne]
    · show [(aq_ ad k i q k i, ce_ cA (aq_ ad k i q) T1 k i)] = _
      rw [he, aq_s]
  refine ⟨ids ++ [(k, i)], fun k' i' => ?_, by rw [hw]; exact hP, by rw [hw]; exact hD⟩
  rw [hal, hids, List.mem_append, List.mem_singleton, Prod.mk.injEq]
  exact or_comm
theorem j_nu {l : Launch} {p : Program} {e : Env} {s : State} {m : MethodId} {args : Array Value} {below : List Frame} {meth : Method} {c : Code} {D : va_G} {cA : Nat → ClassId} {ad0 : Nat → Int → Nat} {A : Nat → Prop} (X : Cx_ Y p s m args meth c D cA ad0 A) {ad : Nat → Int → Nat} {H1 : Heap} {locs : List Loc} {cells slots : Nat} {lsC : Array Slot} {k q : Nat} {i : Int} {T1 : Zt} {ev : va_E} {ids : List (Nat × Int)} (kk : J_ Y T0 P bc' bs' pc' ls (vR k i :: st) T1) (hc : cells + bc' ≤ Y.2.2.2.2.cells) (hs : slots + bs' ≤ Y.2.2.2.2.slots) (hk : 100 ≤ k) (hfr : ¬ al_ T k i) (hs1 : ∀ k' i', al_ T k' i' → T1 k' i' = T k' i') (hal : ∀ k' i', al_ T1 k' i' ↔ (k' = k ∧ i' = i) ∨ al_ T k' i') (hok : ok_T T1) (hids : ∀ k i, al_ T k i ↔ (k, i) ∈ ids) (he : ce_ cA (aq_ ad k i q) T1 k i = ev) (hP : va_P D vwCl (wd_ cA ad T ids ++ [(q, ev)]) H1) (hD : va_D A (wd_ cA ad T ids ++ [(q, ev)])) (hS : va_S A s.heap H1 locs) (hB : Sb_ ad0 ad T0 T) (hT : ok_T T) (hL : ok_l T ls st) (hl : lv_has lsC Y.2.2.1 (lp_ ad 0 ls)) (hn : ls.length = Y.2.2.1) :
    W p l e Y.2.2.2.2 s m args below meth c H1 locs cells slots (MQ below (Qc_ D cA ad0 T0 A P) args s Y.2.2.2.2.cells Y.2.2.2.2.slots A) (F0 m pc'.toNat lsC (.ref q :: st.map (en_v ad))) := by
  have mo : ∀ k' i', al_ T k' i' → al_ T1 k' i' := fun k' i' h => (hal k' i').mpr (Or.inr h)
  have hee : ∀ v, ok_v T v → en_v (aq_ ad k i q) v = en_v ad v := fun v hv => en_congr (aq_e hk hfr) hv
  have el : lp_ (aq_ ad k i q) 0 ls = lp_ ad 0 ls := lp_congr (fun k v hk => hee v (hL.1 k v hk))
  have es : st.map (en_v (aq_ ad k i q)) = st.map (en_v ad) := List.map_congr_left (fun v hv => hee v (hL.2 v hv))
  have k2 := kk l p e s m args below meth c D cA ad0 A X (aq_ ad k i q) H1 locs cells slots lsC hc hs (rp_nu hT hids hk hfr hs1 hal he hP hD) hS ⟨fun k' i' h => mo _ _ (hB.1 k' i' h), fun k' i' h => by rw [aq_e hk hfr k' i' (h.imp id (hB.1 k' i'))]; exact hB.2 k' i' h⟩ hok (ok_push (Or.inr ((hal k i).mpr (Or.inl ⟨rfl, rfl⟩))) ⟨fun k v hk => okv_mono mo (hL.1 k v hk), fun v hv => okv_mono mo (hL.2 v hv)⟩) (by rw [el]; exact hl) hn
  have e2 : (vR k i :: st).map (en_v (aq_ ad k i q)) = Value.ref q :: st.map (en_v ad) := by
    rw [List.map_cons, es]
    show Value.ref (aq_ ad k i q k i) :: _ = _
    rw [aq_s]
  rw [e2] at k2
  exact k2
theorem rp_ids {D : va_G} {cA : Nat → ClassId} {ad : Nat → Int → Nat} {A : Nat → Prop} {H : Heap} (h : Rp_ D cA ad T A H) : ∃ ids : List (Nat × Int), (∀ k i, al_ T k i ↔ (k, i) ∈ ids) ∧ va_P D vwCl (wd_ cA ad T ids) H ∧ va_D A (wd_ cA ad T ids) := h
theorem nu_a {k : Nat} {i n : Int} {f : Int → Int} (hfr : ¬ al_ T k i) (k' : Nat) (i' : Int) (h : al_ T k' i') : nu_ T k i n f k' i' = T k' i' := nu_o (fun z => hfr (by rw [← z.1, ← z.2]; exact h))
theorem ce_i {cA : Nat → ClassId} {ad : Nat → Int → Nat} {T1 : Zt} {k : Nat} {mo : Option Int} {lo hi i n : Int} (ha : ta_ k = some (1, mo, lo, hi)) (hmo : mo = none ∧ T1 k i (-2) = n ∨ mo = some n) : ce_ cA ad T1 k i = .inl (cA 0, n.toNat, .inl fun x => Int32.ofInt (T1 k i (x : Int))) := by
  unfold ce_ ln_
  rw [ha]
  rcases hmo with ⟨rfl, h⟩ | rfl
  · simp only [h]
  · rfl
theorem j_newX {k : Nat} {mo : Option Int} {lo hi i n : Int} {T1 : Zt} (hp : 0 ≤ pc) (ha : ta_ k = some (1, mo, lo, hi)) (hmo : mo = none ∧ T1 k i (-2) = n ∨ mo = some n) (hz : ∀ x : Nat, T1 k i (x : Int) = 0) (h0 : 0 ≤ n) (h1 : n ≤ 100000000) (hfr : ok_T T → ¬ al_ T k i) (hok : ok_T T → ok_T T1) (hs1 : (∀ i, ¬ al_ T 191 i) → ¬ al_ T k i → ∀ k' i', al_ T k' i' → T1 k' i' = T k' i') (hal : ∀ k' i', al_ T1 k' i' ↔ (k' = k ∧ i' = i) ∨ al_ T k' i') (hb : bc' + 1 ≤ bc) (hbs : bs' + n.toNat ≤ bs) (hd : decode Y.2.1 pc.toNat = .ok (.newarray .int, 2)) (hac : Cond.arrayClass .int ∈ lw_g) (kk : J_ Y T0 P bc' bs' (pc + 2) ls (vR k i :: st) T1) : J_ Y T0 P bc bs pc ls (vI n :: st) T := by
  intro l p e s m args below meth c D cA ad0 A X ad H locs cells slots lsC hc hs hR hS hB hT hL hl hln
  have hfr := hfr hT
  have hok := hok hT
  have hs1 := hs1 (no_191 hR) hfr
  obtain ⟨ids, hids, hP, hD⟩ := rp_ids hR
  have hk := ta_ge ha
  have hcl := i3_cl h0 (show n ≤ 2147483647 by omega)
  have hin := i3_in h0 (show n < n + 1 by omega) (show n ≤ 2147483647 by omega)
  refine va_newa (atype := .int) (ty := .int) (N' := n.toNat) (a0 := (n.toNat, .inl fun _ => 0)) X.1 X.2.1 (X.2.2.2.2.2.1 _ hac) rfl X.2.2.2.2.2.2.2.1 hP hD hS X.2.2.2.2.2.2.2.2.2.1 (fun _ => rfl) (fun z => hin (Or.inl z)) (by omega) (by show n.toNat * 4 ≤ _; omega) (by omega) (by omega) hd (fun q cN H1 hK1 hP1 hD1 hS1 => ?_)
  have ec : cN = cA 0 := by
    have q1 := va_nm_int (hK1.2 5 (cN, .int) rfl).2
    have q2 := va_nm_int (hK1.2 0 (cA 0, .int) rfl).2
    exact Option.some.inj (q1.symm.trans q2)
  subst ec
  have he : ce_ cA (aq_ ad k i q) T1 k i = .inl (cA 0, n.toNat, .inl fun _ => 0) := by
    rw [ce_i ha hmo]
    have e1 : (fun x : Nat => Int32.ofInt (T1 k i (x : Int))) = fun _ => 0 := by
      funext x
      rw [hz x]
      rfl
    rw [e1]
  have k2 := j_nu (l := l) (e := e) (below := below) (pc' := pc + 2) X kk (cells := cells + 1) (slots := slots + n.toNat) (by omega) (by omega) (by omega) hfr hs1 hal hok hids he hP1 hD1 hS1 hB hT (ok_tail hL) hl hln
  rw [show (pc + 2).toNat = pc.toNat + 2 by omega] at k2
  exact k2
/-- an int row of the tables is made -/
theorem j_newI {k : Nat} {lo hi i n : Int} (hp : 0 ≤ pc) (ha : ta_ k = some (1, some n, lo, hi)) (hl0 : lo ≤ 0 ∧ 0 ≤ hi) (hn : 0 ≤ n ∧ n ≤ 100000000) (hfr : ¬ al_ T k i) (hb : bc' + 1 ≤ bc) (hbs : bs' + n.toNat ≤ bs) (hd : decode Y.2.1 pc.toNat = .ok (.newarray .int, 2)) (hac : Cond.arrayClass .int ∈ lw_g) (how : ∀ o, ow_ k = some o → al_ T o i ∨ al_ T (o + 50) i) (kk : J_ Y T0 P bc' bs' (pc + 2) ls (vR k i :: st) (nu_ T k i n (fun _ => 0))) : J_ Y T0 P bc bs pc ls (vI n :: st) T := by
  refine j_newX hp ha (Or.inr rfl) (fun x => nu_p (by omega)) hn.1 hn.2 (fun _ => hfr) (fun hT => ok_nu hT ⟨fun z => ?_, fun z => ?_⟩ (by have := ta_ge ha; omega) ⟨hn.1, by omega⟩ (fun t m' lo' hi' h => by rw [ha] at h; cases h; exact ⟨by omega, fun x _ => hl0⟩) (fun j c k' lo' hi' h => by rw [ta_tf ha] at h; simp at h) how) (fun _ hfr => nu_a hfr) al_nu hb hbs hd hac kk
  · rw [z, ta_190] at ha; cases ha
  · rw [z, ta_191] at ha; cases ha
/-- an int row of any length is made -/
theorem j_newL {n : Int} (hp : 0 ≤ pc) (hn : 0 ≤ n ∧ n ≤ 100000000) (hb : bc' + 1 ≤ bc) (hbs : bs' + n.toNat ≤ bs) (hd : decode Y.2.1 pc.toNat = .ok (.newarray .int, 2)) (hac : Cond.arrayClass .int ∈ lw_g) (kk : J_ Y T0 P bc' bs' (pc + 2) ls (vR 190 (T 191 0 0) :: st) (nv_ T n)) : J_ Y T0 P bc bs pc ls (vI n :: st) T := by
  refine j_newX hp ta_190 (Or.inl ⟨rfl, by rw [nv_s, nu_l]⟩) (fun x => by rw [nv_s]; exact nu_p (by omega)) hn.1 hn.2 (fun hT => hT.2.2.2.2.2.2.2.2 _ (by omega)) (fun hT => ok_nv hT ⟨hn.1, by omega⟩) (fun h9 hfr k' i' h => nv_o (fun z => hfr (by rw [← z.1, ← z.2]; exact h)) (fun z => h9 i' (by rw [← z]; exact h))) al_nv hb hbs hd hac kk
/-- raw objects: what new makes, until its constructor has run -/
theorem ce_rw {cA : Nat → ClassId} {ad : Nat → Int → Nat} {ci : Nat} {i : Int} (h : ci < 4) : ce_ cA ad T (150 + ci) i = .inr (ci, (tf_ (150 + ci)).zipIdx.map fun q => en_v ad (fv_ q.1.1 q.1.2.1 (T (150 + ci) i (q.2 : Int)) i)) := by
  unfold ce_
  rw [tk_no _ (by omega)]
  simp only [kc_]
  rw [if_neg (by omega), Nat.add_sub_cancel_left]
theorem rw_ok {ci : Nat} (h : ci < 4) : ∀ q ∈ tf_ (150 + ci), q.2.2.1 ≤ 0 ∧ 0 ≤ q.2.2.2 ∧ (q.1 = 0 ∨ q.1 = 5) := by
  match ci, h with
  | 0, _ => decide +kernel
  | 1, _ => decide +kernel
  | 2, _ => decide +kernel
  | 3, _ => decide +kernel
def rw_fs (ci : Nat) (ad : Nat → Int → Nat) (i : Int) : List Value := (tf_ (150 + ci)).zipIdx.map fun q => en_v ad (fv_ q.1.1 q.1.2.1 0 i)
/-- an object is made -/
theorem j_newO {ci idx N : Nat} {C : String} {Tb : u_T} {ty0 : Nat → FieldType} {i : Int} (hp : 0 ≤ pc) (h4 : ci < 4) (hC : vwCl[ci]? = some (C, Tb, N)) (hty : ∀ k, k < N → parseFieldDescriptor (Tb k).2.2.1 = some (ty0 k)) (hfs : ∀ (ad : Nat → Int → Nat) (j : Nat), j < N → defaultValue (ty0 j) = vp_V (rw_fs ci ad i) j) (hcl : Cond.classLink Y.1 idx C ∈ lw_g) (hinst : Cond.instantiable C N ∈ lw_g) (hini : Cond.initialized C ∈ lw_g) (hfr : ¬ al_ T (150 + ci) i) (hb : bc' + 1 ≤ bc) (hbs : bs' + N ≤ bs) (hd : decode Y.2.1 pc.toNat = .ok (.new idx, 3)) (kk : J_ Y T0 P bc' bs' (pc + 3) ls (vR (150 + ci) i :: st) (nu_ T (150 + ci) i 0 (fun _ => 0))) : J_ Y T0 P bc bs pc ls st T := by
  intro l p e s m args below meth c D cA ad0 A X ad H locs cells slots lsC hc hs hR hS hB hT hL hl hln
  obtain ⟨ids, hids, hP, hD⟩ := rp_ids hR
  obtain ⟨hin, -, -⟩ := cl_in hC
  refine va_new (D := D) (ci := ci) (C := C) (T := Tb) (N := N) (own := Y.1) (index := idx) (fs := rw_fs ci ad i) X.1 X.2.1 X.2.2.2.2.2.1 hin ty0 hty X.2.2.2.2.2.2.1 (X.2.2.2.2.2.1 _ hcl) (X.2.2.2.2.2.1 _ hinst) (X.2.2.2.2.2.1 _ hini) X.2.2.2.2.2.2.2.1 hP hD hS X.2.2.2.2.2.2.2.2.2.1 hC (hfs ad) (by omega) (by omega) hd (fun q H1 hP1 hD1 hS1 => ?_)
  have hr := rw_ok h4
  have hv : ∀ (j c k' : Nat) (lo hi : Int), (tf_ (150 + ci))[j]? = some (c, k', lo, hi) → lo ≤ 0 ∧ 0 ≤ hi ∧ ok_v T (fv_ c k' 0 i) ∧ ∀ ad2 : Nat → Int → Nat, en_v ad2 (fv_ c k' 0 i) = en_v ad (fv_ c k' 0 i) := fun j c k' lo hi h => by
    obtain ⟨q1, q2, q3⟩ := hr _ (List.mem_of_getElem? h)
    refine ⟨q1, q2, ?_⟩
    rcases q3 with q3 | q3
    · have q4 : c = 0 := q3
      subst q4
      exact ⟨⟨by omega, by omega⟩, fun _ => rfl⟩
    · have q4 : c = 5 := q3
      subst q4
      exact ⟨trivial, fun _ => rfl⟩
  have hok : ok_T (nu_ T (150 + ci) i 0 (fun _ => 0)) := ok_nu hT ⟨by omega, by omega⟩ (by omega) ⟨by omega, by omega⟩ (fun t m' lo' hi' h => by rw [tk_no _ (by omega)] at h; cases h) (fun j c k' lo' hi' h => ⟨(hv j c k' lo' hi' h).1, (hv j c k' lo' hi' h).2.1, (hv j c k' lo' hi' h).2.2.1⟩) (fun o h => by
    have : ow_ (150 + ci) = none := by
      unfold ow_
      rw [if_neg (by omega), if_neg (by omega), if_neg (by omega)]
    rw [this] at h
    cases h)
  have he : ce_ cA (aq_ ad (150 + ci) i q) (nu_ T (150 + ci) i 0 (fun _ => 0)) (150 + ci) i = .inr (ci, rw_fs ci ad i) := by
    rw [ce_rw h4]
    unfold rw_fs
    have e2 : ((tf_ (150 + ci)).zipIdx.map fun z => en_v (aq_ ad (150 + ci) i q) (fv_ z.1.1 z.1.2.1 (nu_ T (150 + ci) i 0 (fun _ => 0) (150 + ci) i (z.2 : Int)) i)) = (tf_ (150 + ci)).zipIdx.map fun z => en_v ad (fv_ z.1.1 z.1.2.1 0 i) := by
      apply List.map_congr_left
      rintro ⟨⟨c, k', lo, hi⟩, j⟩ hq
      rw [nu_p (by omega)]
      exact (hv j c k' lo hi (zi_at hq)).2.2.2 _
    rw [e2]
  have k2 := j_nu (l := l) (e := e) (below := below) (pc' := pc + 3) X kk (cells := cells + 1) (slots := slots + N) (by omega) (by omega) (by omega) hfr (nu_a hfr) al_nu hok hids he hP1 hD1 hS1 hB hT hL hl hln
  rw [show (pc + 3).toNat = pc.toNat + 3 by omega] at k2
  exact k2
end JN
-- raw objects are filled, constructors are called, raw objects become things of the picture
section JO
variable {Y Yc : Zm} {T0 T : Zt} {P : Zt → Option Zv → Prop} {bc bs : Nat} {pc : Int} {ls : Zl} {st rest : List Zv} {y : MethodName} {Qp : Zt → Option Zv → Prop}
def fW_ (own : String) (idx ci j : Nat) (I : Bool) : Prop := ∃ (C : String) (Tb : u_T) (N : Nat), vwCl[ci]? = some (C, Tb, N) ∧ j < N ∧ N = (tf_ (150 + ci)).length ∧ Cond.fieldLink own idx (Tb j).1 (Tb j).2.1 (Tb j).2.2.1 ∈ lw_g ∧ (Tb j).1 = own ∧ ∃ ty, parseFieldDescriptor (Tb j).2.2.1 = some ty ∧ (∀ a : Nat, I = false → narrow ty (.ref a) = .ref a ∧ fits ty (.ref a) = true) ∧ (∀ a : Int32, I = true → narrow ty (.int a) = .int a ∧ fits ty (.int a) = true)
/-- a field of a raw object is put, in its constructor -/
theorem j_putW {ci j c k' idx : Nat} {lo hi i z : Int} {v : Zv} {I : Bool} (hp : 0 ≤ pc) (h4 : ci < 4) (hf : fW_ Y.1 idx ci j I) (ht : (tf_ (150 + ci))[j]? = some (c, k', lo, hi)) (him : im_ Y.2.2.2.2.slots = true) (hd : decode Y.2.1 pc.toNat = .ok (.putfield idx, 3)) (ev : fv_ c k' z i = v) (hI : match v with | .inl _ => I = true | .inr (.inr (some _)) => I = false | _ => False) (h1 : lo ≤ z) (h2 : z ≤ hi) (k : J_ Y T0 P bc bs (pc + 3) ls st (up_ T (150 + ci) i (j : Int) z)) : J_ Y T0 P bc bs pc ls (v :: vR (150 + ci) i :: st) T := by
  intro l p e s m args below meth c0 D cA ad0 A X ad H locs cells slots lsC hc hs hR hS hB hT hL hl hn
  have hal : al_ T (150 + ci) i := ok_al (v := none) (by omega) (ok_head (ok_tail hL))
  have hup := al_up (T := T) (k := 150 + ci) (i := i) (j := (j : Int)) (x := z) (by omega)
  obtain ⟨ids, q0, hq, hids, hP, hD⟩ := rp_at hR hal
  obtain ⟨C, Tb, N, hC, hjN, hN, hlk, how, ty, hty1, hr1, hi1⟩ := hf
  obtain ⟨hin, ⟨ty0, hty⟩, hnm⟩ := cl_in hC
  have hw := wd_get (cA := cA) (ad := ad) (T := T) hq
  rw [ce_rw h4] at hw
  obtain ⟨hnar, hfit⟩ : narrow ty (en_v ad v) = en_v ad v ∧ fits ty (en_v ad v) = true := by
    rcases v with x | x | _ | ⟨k9, i9⟩
    · exact hi1 _ hI
    · exact hI.elim
    · exact hI.elim
    · exact hr1 _ hI
  have fin : ∀ (H1 : Heap) (locs1 : List Loc), va_P D vwCl ((wd_ cA ad T ids).set q0 (ad (150 + ci) i, .inr (ci, ((tf_ (150 + ci)).zipIdx.map fun q => en_v ad (fv_ q.1.1 q.1.2.1 (T (150 + ci) i (q.2 : Int)) i)).set j (en_v ad v)))) H1 → va_D A ((wd_ cA ad T ids).set q0 (ad (150 + ci) i, .inr (ci, ((tf_ (150 + ci)).zipIdx.map fun q => en_v ad (fv_ q.1.1 q.1.2.1 (T (150 + ci) i (q.2 : Int)) i)).set j (en_v ad v)))) → va_S A s.heap H1 locs1 → W p l e Y.2.2.2.2 s m args below meth c0 H1 locs1 cells slots (MQ below (Qc_ D cA ad0 T0 A P) args s Y.2.2.2.2.cells Y.2.2.2.2.slots A) (F0 m (pc.toNat + 3) lsC (st.map (en_v ad))) := by
    intro H1 locs1 hP1 hD1 hS1
    have e1 : ((tf_ (150 + ci)).zipIdx.map fun q => en_v ad (fv_ q.1.1 q.1.2.1 (T (150 + ci) i (q.2 : Int)) i)).set j (en_v ad v) = (tf_ (150 + ci)).zipIdx.map fun q => en_v ad (fv_ q.1.1 q.1.2.1 (up_ T (150 + ci) i (j : Int) z (150 + ci) i (q.2 : Int)) i) := by
      apply List.ext_getElem?
      intro n
      rw [List.getElem?_set]
      by_cases en : j = n
      · subst en
        rw [if_pos rfl, if_pos (by rw [List.length_map, List.length_zipIdx, ← hN]; exact hjN), fs_at (T := up_ T (150 + ci) i (j : Int) z) ht, up_s, ev]
      · rw [if_neg en, List.getElem?_map, List.getElem?_map, List.getElem?_zipIdx]
        cases hn9 : (tf_ (150 + ci))[n]? with
        | none => rfl
        | some q =>
          simp only [Option.map_some]
          rw [up_n (fun q => by omega)]
    have e2 : (wd_ cA ad T ids).set q0 (ad (150 + ci) i, .inr (ci, ((tf_ (150 + ci)).zipIdx.map fun q => en_v ad (fv_ q.1.1 q.1.2.1 (T (150 + ci) i (q.2 : Int)) i)).set j (en_v ad v))) = wd_ cA ad (up_ T (150 + ci) i (j : Int) z) ids := by
      rw [e1, ← ce_rw h4 (T := up_ T (150 + ci) i (j : Int) z) (cA := cA)]
      exact wd_set hD hq (fun k' i' h => up_o h)
    rw [e2] at hP1 hD1
    have k2 := k l p e s m args below meth c0 D cA ad0 A X ad H1 locs1 cells slots lsC hc hs ⟨ids, fun k i => (hup k i).trans (hids k i), hP1, hD1⟩ hS1 ⟨fun k i h => (hup k i).mpr (hB.1 k i h), hB.2⟩ (ok_upR hT ht h1 h2 (by rw [ev]; exact ok_head hL)) ⟨fun k9 v h => okv_mono (fun k i => (hup k i).mpr) (hL.1 k9 v h), fun v h => okv_mono (fun k i => (hup k i).mpr) ((ok_tail (ok_tail hL)).2 v h)⟩ hl hn
    rw [show (pc + 3).toNat = pc.toNat + 3 by omega] at k2
    exact k2
  cases hfin : (Tb j).2.2.2 with
  | false => exact va_put (D := D) (ci := ci) (C := C) (T := Tb) (N := N) (own := Y.1) (ref := (Tb j).1) (index := idx) (ty := ty) (v := en_v ad v) X.1 X.2.1 X.2.2.2.2.2.1 hin ty0 hty hnm X.2.2.2.2.2.2.1 X.2.2.2.2.2.2.2.1 hP hD hS q0 hw hC j hjN (X.2.2.2.2.2.1 _ hlk) (fun _ h => h) hfin hty1 hnar hfit (by rw [List.length_map, List.length_zipIdx, ← hN]; exact hjN) hd fin
  | true => exact va_putF (D := D) (ci := ci) (C := C) (T := Tb) (N := N) (own := Y.1) (ref := (Tb j).1) (index := idx) (ty := ty) (v := en_v ad v) X.1 X.2.1 X.2.2.2.2.2.1 hin ty0 hty hnm X.2.2.2.2.2.2.1 X.2.2.2.2.2.2.2.1 hP hD hS q0 hw hC j hjN (X.2.2.2.2.2.1 _ hlk) (fun _ h => h) hfin (X.2.2.2.2.2.2.2.2.2.2.2 him) how hty1 hnar hfit (by rw [List.length_map, List.length_zipIdx, ← hN]; exact hjN) hd fin
/-- a field of a raw object is read -/
theorem j_getW {ci j c k' idx N : Nat} {C : String} {Tb : u_T} {lo hi i : Int} (hp : 0 ≤ pc) (h4 : ci < 4) (hC : vwCl[ci]? = some (C, Tb, N)) (hjN : j < N) (hlk : Cond.fieldLink Y.1 idx (Tb j).1 (Tb j).2.1 (Tb j).2.2.1 ∈ lw_g) (ht : (tf_ (150 + ci))[j]? = some (c, k', lo, hi)) (hd : decode Y.2.1 pc.toNat = .ok (.getfield idx, 3)) {v : Zv} (ev : fv_ c k' (T (150 + ci) i (j : Int)) i = v) (k : J_ Y T0 P bc bs (pc + 3) ls (v :: st) T) : J_ Y T0 P bc bs pc ls (vR (150 + ci) i :: st) T := by
  subst ev
  intro l p e s m args below meth c0 D cA ad0 A X ad H locs cells slots lsC hc hs hR hS hB hT hL hl hn
  have hal : al_ T (150 + ci) i := ok_al (v := none) (by omega) (ok_head hL)
  obtain ⟨ids, q0, hq, h1, hP, hD⟩ := rp_at hR hal
  obtain ⟨hin, -, -⟩ := cl_in hC
  have k2 := k l p e s m args below meth c0 D cA ad0 A X ad H locs cells slots lsC hc hs hR hS hB hT (ok_push (hT.2.2.2.1 _ _ hal _ _ _ _ _ ht) (ok_tail hL)) hl hn
  rw [show (pc + 3).toNat = pc.toNat + 3 by omega] at k2
  have hw := wd_get (cA := cA) (ad := ad) (T := T) hq
  rw [ce_rw h4] at hw
  exact va_get (D := D) (ci := ci) (C := C) (T := Tb) (N := N) (own := Y.1) (ref := (Tb j).1) (index := idx) X.1 X.2.1 X.2.2.2.2.2.1 hin X.2.2.2.2.2.2.1 X.2.2.2.2.2.2.2.1 hP q0 hw hC j hjN (X.2.2.2.2.2.1 _ hlk) (fun _ h => h) (fs_at ht) hd k2
/-- a reference is put into a field of a thing -/
theorem j_putV {ci j c k' k2 idx : Nat} {lo hi i x z : Int} (hp : 0 ≤ pc) (hf : fr5_ Y.1 idx ci j) (ht : (tf_ (100 + ci))[j]? = some (c, k', lo, hi)) (hd : decode Y.2.1 pc.toNat = .ok (.putfield idx, 3)) (ev : fv_ c k' z i = vR k2 x) (h1 : lo ≤ z) (h2 : z ≤ hi) (k : J_ Y T0 P bc bs (pc + 3) ls st (up_ T (100 + ci) i (j : Int) z)) : J_ Y T0 P bc bs pc ls (vR k2 x :: vR (100 + ci) i :: st) T := by
  intro l p e s m args below meth c0 D cA ad0 A X ad H locs cells slots lsC hc hs hR hS hB hT hL hl hn
  have hal : al_ T (100 + ci) i := ok_al (v := none) (by omega) (ok_head (ok_tail hL))
  have hup := al_up (T := T) (k := 100 + ci) (i := i) (j := (j : Int)) (x := z) (by omega)
  obtain ⟨ids, q0, hq, hids, hP, hD⟩ := rp_at hR hal
  obtain ⟨C, Tb, N, hC, hjN, hN, hlk, hfin, hds⟩ := hf
  obtain ⟨hin, ⟨ty0, hty⟩, hnm⟩ := cl_in hC
  have hw := wd_get (cA := cA) (ad := ad) (T := T) hq
  rw [ce_ob (cl_lt hC)] at hw
  obtain ⟨ty, hty1, hnar, hfit⟩ := hds (ad k2 x)
  refine va_put (D := D) (ci := ci) (C := C) (T := Tb) (N := N) (own := Y.1) (ref := (Tb j).1) (index := idx) (ty := ty) (v := .ref (ad k2 x)) X.1 X.2.1 X.2.2.2.2.2.1 hin ty0 hty hnm X.2.2.2.2.2.2.1 X.2.2.2.2.2.2.2.1 hP hD hS q0 hw hC j hjN (X.2.2.2.2.2.1 _ hlk) (fun _ h => h) hfin hty1 hnar hfit (by rw [List.length_map, List.length_zipIdx, ← hN]; exact hjN) hd (fun H1 locs1 hP1 hD1 hS1 => ?_)
  have e1 : ((tf_ (100 + ci)).zipIdx.map fun q => en_v ad (fv_ q.1.1 q.1.2.1 (T (100 + ci) i (q.2 : Int)) i)).set j (.ref (ad k2 x)) = (tf_ (100 + ci)).zipIdx.map fun q => en_v ad (fv_ q.1.1 q.1.2.1 (up_ T (100 + ci) i (j : Int) z (100 + ci) i (q.2 : Int)) i) := by
    apply List.ext_getElem?
    intro n
    rw [List.getElem?_set]
    by_cases en : j = n
    · subst en
      rw [if_pos rfl, if_pos (by rw [List.length_map, List.length_zipIdx, ← hN]; exact hjN), fs_at (T := up_ T (100 + ci) i (j : Int) z) ht, up_s, ev]
      rfl
    · rw [if_neg en, List.getElem?_map, List.getElem?_map, List.getElem?_zipIdx]
      cases hn9 : (tf_ (100 + ci))[n]? with
      | none => rfl
      | some q =>
        simp only [Option.map_some]
        rw [up_n (fun q => by omega)]
  have e2 : (wd_ cA ad T ids).set q0 (ad (100 + ci) i, .inr (ci, ((tf_ (100 + ci)).zipIdx.map fun q => en_v ad (fv_ q.1.1 q.1.2.1 (T (100 + ci) i (q.2 : Int)) i)).set j (.ref (ad k2 x)))) = wd_ cA ad (up_ T (100 + ci) i (j : Int) z) ids := by
    rw [e1, ← ce_ob (cl_lt hC) (T := up_ T (100 + ci) i (j : Int) z) (cA := cA)]
    exact wd_set hD hq (fun k' i' h => up_o h)
  rw [e2] at hP1 hD1
  have k3 := k l p e s m args below meth c0 D cA ad0 A X ad H1 locs1 cells slots lsC hc hs ⟨ids, fun k i => (hup k i).trans (hids k i), hP1, hD1⟩ hS1 ⟨fun k i h => (hup k i).mpr (hB.1 k i h), hB.2⟩ (ok_upR hT ht h1 h2 (by rw [ev]; exact ok_head hL)) ⟨fun k9 v h => okv_mono (fun k i => (hup k i).mpr) (hL.1 k9 v h), fun v h => okv_mono (fun k i => (hup k i).mpr) ((ok_tail (ok_tail hL)).2 v h)⟩ hl hn
  rw [show (pc + 3).toNat = pc.toNat + 3 by omega] at k3
  exact k3
/-- the constructor of Object -/
theorem j_objI {idx k : Nat} {i : Int} (hml : Cond.methodLink Y.1 idx Lib.objectInit ∈ lw_g) (hin : Cond.instanceMethod Lib.objectInit ∈ lw_g) (hco : Cond.code Lib.objectInit ⟨#[0xb1]⟩ 1 none ∈ lw_g) (hd : decode Y.2.1 pc.toNat = .ok (.invokespecial idx, 3)) (hp : 0 ≤ pc) (hf : 1 ≤ Y.2.2.2.2.frames) (hlo : 20 ≤ Y.2.2.2.2.locals) (hrest : rest.length ≤ 4) (kk : J_ Y T0 P bc bs (pc + 3) ls rest T) : J_ Y T0 P bc bs pc ls (vR k i :: rest) T := by
  intro l p e s m args below meth c D cA ad0 A X ad H locs cells slots lsC hc hs hR hS hB hT hL hl hln
  have w := X.2.2.2.2.2.1
  have sm := en_sum (ad := ad) rest
  have k2 := kk l p e s m args below meth c D cA ad0 A X ad H locs cells slots lsC hc hs hR hS hB hT (ok_tail hL) hl hln
  rw [show (pc + 3).toNat = pc.toNat + 3 by omega] at k2
  exact W.objInit (a := ad k i) (rest := rest.map (en_v ad)) X.1 X.2.1 X.2.2.2.2.2.2.1 (w _ hml) (w _ hin) (w _ hco) rfl (hl.1.trans X.2.2.1.symm) rfl hd hf (by show 2 * 0 + _ + 12 ≤ _; omega) k2
/-- a constructor is called -/
def ci_ (own : String) (idx : Nat) (y : MethodName) (Yc : Zm) (n : Nat) : Prop := GoodIn lw_g (.code y Yc.2.1 Yc.2.2.1 none :: lw_g) ∧ Cond.initialized y.cls ∈ lw_g ∧ Cond.methodLink own idx y ∈ lw_g ∧ Cond.instanceMethod y ∈ lw_g ∧ y.name = "<init>" ∧ Yc.2.2.2.1 = none ∧ (y.cls ≠ "java/lang/invoke/MethodHandle" ∧ y.cls ≠ "java/lang/invoke/VarHandle" ∧ (parseMethodDescriptor y.desc).map (fun d => d.parameters.length) = some n)
theorem j_callI {idx k n : Nat} {i : Int} (as : List Zv) (hC : Ct_ y Yc T (vR k i :: as) Qp) (hcv : ci_ Y.1 idx y Yc n) (hd : decode Y.2.1 pc.toNat = .ok (.invokespecial idx, 3)) (hp : 0 ≤ pc) (hn : as.length = n) (hrm : rf_ Yc Y = true) (hrest : rest.length ≤ 4) (hmc : Yc.2.2.2.2.cells ≤ bc) (hms : Yc.2.2.2.2.slots ≤ bs) {st0 : List Zv} (hst : st0 = as.reverse ++ vR k i :: rest) (kk : ∀ (T' : Zt) (r : Option Zv), Qp T' r → J_ Y T0 P (bc - Yc.2.2.2.2.cells) (bs - Yc.2.2.2.2.slots) (pc + 3) ls (r.toList ++ rest) T') : J_ Y T0 P bc bs pc ls st0 T := by
  subst hst
  intro l p e s m args below meth c D cA ad0 A X ad H locs cells slots lsC hc hs hR hS hB hT hL hl hln
  obtain ⟨hG, hini, hml, hin, hy1, hret, hdd⟩ := hcv
  simp only [rf_, Bool.and_eq_true, decide_eq_true_eq] at hrm
  have hLr : ok_l T ls rest := ⟨hL.1, fun v hv => hL.2 v (by simp [hv])⟩
  have hAA : ∀ q, A_ ad T H.size q → A q := by
    rintro q (⟨k, i, ha, rfl⟩ | h)
    · exact Rp_in hR ha
    · exact X.2.2.2.2.2.2.2.2.2.1 q (Nat.le_trans hS.1 h)
  have w := X.2.2.2.2.2.1
  have hM := hC l D cA ad H.size
  rw [hret] at hM
  refine j_back X hc hs hR hS hB hLr hl hln hp hmc hms (va_runI (As := as.map (en_v ad)) (rest := rest.map (en_v ad)) (b := ad k i) ⟨X.1, X.2.1, X.2.2.1, X.2.2.2.2.2.2.1, X.2.2.2.2.2.1⟩ hM (cwI n w hG rfl rfl rfl (w _ hini) (w _ hml) (w _ hin) hy1 hdd hrm) ⟨pc_blind, fun U hU hW => ⟨rfl, by rw [hU], by rw [hU]; exact Rp_A hR (fun _ _ _ _ => trivial), va_K.moved hW.alike X.2.2.2.2.2.2.2.1, ex_warm hW X.2.2.2.2.2.2.2.2.1, se_call X.2.2.2.2.2.2.2.2.2.2.1 hS hAA hU hW (fun k i hk => hB.2 k i (Or.inl hk)), hT, fun v hv => hL.2 v ?_⟩⟩ rfl (by rw [List.length_map]; exact hn) (hl.1) ?_ (lv_room ?_) hd ⟨by omega, by omega⟩) (fun T' r h => kk T' r h)
  · rcases List.mem_cons.mp hv with rfl | h
    · simp
    · simp [h]
  · show List.map (en_v ad) (as.reverse ++ vR k i :: rest) = _
    rw [List.map_append, List.map_reverse, List.map_cons]
    rfl
  · have := en_sum (ad := ad) rest
    omega
/-- a row is given back -/
theorem j_aret {k : Nat} {i : Int} {rt : FieldType} (hr : Y.2.2.2.1 = some rt) (hrt : (∃ n, rt = .object n) ∨ ∃ t, rt = .array t) (hd : decode Y.2.1 pc.toNat = .ok (.areturn, 1)) (k2 : P T (some (vR k i))) : J_ Y T0 P bc bs pc ls [vR k i] T := by
  intro l p e' s m args below meth c D cA ad0 A X ad H locs cells slots lsC hc hs hR hS hB hT hL hl hn
  refine W.widen (k := Y.2.2.2.2.cells) (n := Y.2.2.2.2.slots) (by omega) (by omega) ?_
  exact W.aret X.1 X.2.1 (X.2.2.2.1.trans hr) hrt (Or.inr ⟨ad k i, rfl⟩) (fun t ht _ => ⟨⟨T, ad, some (vR k i), rfl, k2, hT, fun v hv => by cases hv; exact ok_head hL, by rw [ht]; exact hR, hB⟩, hS.F ht⟩) hS.2.2 hd X.2.2.2.2.1
end JO
-- raw objects become things of the picture; references into rows; clones and copies
section JP
variable {Y Yc : Zm} {T0 T : Zt} {P : Zt → Option Zv → Prop} {bc bs bc' bs' : Nat} {pc : Int} {ls : Zl} {st rest : List Zv}
def cw_ (T : Zt) (k : Nat) (i : Int) (g : Int → Int) : Zt := fun k' i' j' => if k' = k ∧ i' = i then (if j' = -1 then 1 else g j') else if k' = k + 50 ∧ i' = i ∧ j' = -1 then 0 else T k' i' j'
theorem cw_s {k : Nat} {i : Int} {g : Int → Int} {j : Int} (h : 0 ≤ j) : cw_ T k i g k i j = g j := by
  unfold cw_
  rw [if_pos ⟨rfl, rfl⟩, if_neg (by omega)]
theorem cw_o {k k' : Nat} {i i' : Int} {g : Int → Int} (h : ¬ (k' = k ∧ i' = i)) (h2 : ¬ (k' = k + 50 ∧ i' = i)) : cw_ T k i g k' i' = T k' i' := by
  funext j
  unfold cw_
  rw [if_neg h, if_neg (fun z => h2 ⟨z.1, z.2.1⟩)]
theorem cw_n {k k' : Nat} {i i' j : Int} {g : Int → Int} (h : ¬ (k' = k ∧ i' = i)) (h2 : j ≠ -1) : cw_ T k i g k' i' j = T k' i' j := by
  unfold cw_
  rw [if_neg h, if_neg (fun z => h2 z.2.2)]
theorem al_cw {k : Nat} {i : Int} {g : Int → Int} (k' : Nat) (i' : Int) : al_ (cw_ T k i g) k' i' ↔ (k' = k ∧ i' = i) ∨ (al_ T k' i' ∧ ¬ (k' = k + 50 ∧ i' = i)) := by
  unfold al_ cw_
  by_cases h : k' = k ∧ i' = i
  · rw [if_pos h, if_pos rfl]
    simp [h]
  · rw [if_neg h]
    by_cases h2 : k' = k + 50 ∧ i' = i
    · rw [if_pos ⟨h2.1, h2.2, rfl⟩]
      simp [h, h2]
    · rw [if_neg (fun z => h2 ⟨z.1, z.2.1⟩)]
      simp [h, h2]
/-- no local and nothing on the stack is of a kind -/
def nk_ (k : Nat) : List (Option Zv) → Bool
  | [] => true
  | some (.inr (.inr (some (k', _)))) :: r => !(k' == k) && nk_ k r
  | _ :: r => nk_ k r
theorem nk_no {k : Nat} {i : Int} : ∀ {l : List (Option Zv)}, nk_ k l = true → some (vR k i) ∉ l
  | [], _ => by simp
  | none :: r, h => by
    intro q
    rcases List.mem_cons.mp q with q | q
    · cases q
    · exact nk_no (l := r) h q
  | some (.inl x) :: r, h => by
    intro q
    rcases List.mem_cons.mp q with q | q
    · cases q
    · exact nk_no (l := r) h q
  | some (.inr (.inl x)) :: r, h => by
    intro q
    rcases List.mem_cons.mp q with q | q
    · cases q
    · exact nk_no (l := r) h q
  | some (.inr (.inr none)) :: r, h => by
    intro q
    rcases List.mem_cons.mp q with q | q
    · cases q
    · exact nk_no (l := r) h q
  | some (.inr (.inr (some (k', i')))) :: r, h => by
    simp only [nk_, Bool.and_eq_true, Bool.not_eq_true', beq_eq_false_iff_ne] at h
    intro q
    rcases List.mem_cons.mp q with q | q
    · cases q
      exact h.1 rfl
    · exact nk_no (l := r) h.2 q
theorem fv_ky {k j c k' : Nat} {lo hi x i : Int} (h : (tf_ k)[j]? = some (c, k', lo, hi)) {k2 : Nat} {i2 : Int} (e : fv_ c k' x i = vR k2 i2) : ¬ (150 ≤ k2 ∧ k2 < 154) := by
  have h1 := tf_ky k (tf_lt h) _ (List.mem_of_getElem? h)
  have h2 : k2 = k' := by
    match c, e with
    | 0, e => cases e
    | 1, e => cases e; rfl
    | 2, e => cases e; rfl
    | 3, e => cases e; rfl
    | 4, e =>
      have e : (if x = 0 then vN else vR k' i) = vR k2 i2 := e
      split at e
      · cases e
      · cases e; rfl
    | 5, e =>
      have e : (if x = 0 then vN else vR k' (x - 1)) = vR k2 i2 := e
      split at e
      · cases e
      · cases e; rfl
    | c + 6, e => cases e
  rw [h2]
  exact h1
theorem j_conv {k : Nat} {i : Int} {g : Int → Int} (hk : k = 100 ∨ k = 102 ∨ k = 103) (hfr : ¬ al_ T k i) (h0 : ¬ al_ T0 (k + 50) i) (hg : ∀ (j c k1 : Nat) (lo hi : Int), (tf_ k)[j]? = some (c, k1, lo, hi) → ∃ c2 k2 lo2 hi2, (tf_ (k + 50))[j]? = some (c2, k2, lo2, hi2) ∧ fv_ c k1 (g j) i = fv_ c2 k2 (T (k + 50) i j) i ∧ lo ≤ g j ∧ g j ≤ hi) (hls : nk_ (k + 50) ls = true) (hst : nk_ (k + 50) (st.map some) = true) (kk : J_ Y T0 P bc bs pc ls (vR k i :: st) (cw_ T k i g)) : J_ Y T0 P bc bs pc ls (vR (k + 50) i :: st) T := by
  intro l p e s m args below meth c D cA ad0 A X ad H locs cells slots lsC hc hs hR hS hB hT hL hl hln
  have hraw : al_ T (k + 50) i := ok_al (v := none) (by omega) (ok_head hL)
  obtain ⟨ids, hids, hP, hD⟩ := rp_ids hR
  have hlen : (tf_ k).length = (tf_ (k + 50)).length := by
    rcases hk with rfl | rfl | rfl <;> decide +kernel
  have hce : ∀ ad2 : Nat → Int → Nat, ce_ cA ad2 (cw_ T k i g) k i = .inr (k - 100, (tf_ k).zipIdx.map fun q => en_v ad2 (fv_ q.1.1 q.1.2.1 (g (q.2 : Int)) i)) := fun ad2 => by
    have e1 : ((tf_ k).zipIdx.map fun q => en_v ad2 (fv_ q.1.1 q.1.2.1 (cw_ T k i g k i (q.2 : Int)) i)) = (tf_ k).zipIdx.map fun q => en_v ad2 (fv_ q.1.1 q.1.2.1 (g (q.2 : Int)) i) := by
      apply List.map_congr_left
      rintro ⟨q, j⟩ _
      rw [cw_s (by omega)]
    unfold ce_
    rw [tk_no _ (by omega), e1]
    simp only [kc_]
    rw [if_pos (by omega)]
  have hcr : ce_ cA ad T (k + 50) i = .inr (k - 100, (tf_ (k + 50)).zipIdx.map fun q => en_v ad (fv_ q.1.1 q.1.2.1 (T (k + 50) i (q.2 : Int)) i)) := by
    unfold ce_
    rw [tk_no _ (by omega)]
    simp only [kc_]
    rw [if_neg (by omega), show k + 50 - 150 = k - 100 by omega]
  have had : ∀ k' i', k' < 100 ∨ al_ T k' i' → aq_ ad k i (ad (k + 50) i) k' i' = ad k' i' := aq_e (by omega) hfr
  have hraws : ∀ (j c2 k2 : Nat) (lo2 hi2 : Int), (tf_ (k + 50))[j]? = some (c2, k2, lo2, hi2) → ok_v T (fv_ c2 k2 (T (k + 50) i j) i) := fun j c2 k2 lo2 hi2 h => hT.2.2.2.1 _ _ hraw j c2 k2 lo2 hi2 h
  have hfl : ((tf_ k).zipIdx.map fun q => en_v (aq_ ad k i (ad (k + 50) i)) (fv_ q.1.1 q.1.2.1 (g (q.2 : Int)) i)) = (tf_ (k + 50)).zipIdx.map fun q => en_v ad (fv_ q.1.1 q.1.2.1 (T (k + 50) i (q.2 : Int)) i) := by
    apply List.ext_getElem?
    intro n
    rw [List.getElem?_map, List.getElem?_map, List.getElem?_zipIdx, List.getElem?_zipIdx]
    cases hn : (tf_ k)[n]? with
    | none =>
      have : (tf_ (k + 50))[n]? = none := by
        rw [List.getElem?_eq_none_iff] at hn ⊢
        omega
      rw [this]
      rfl
    | some q =>
      obtain ⟨c1, k1, lo, hi⟩ := q
      obtain ⟨c2, k2, lo2, hi2, h2, e2, -, -⟩ := hg n c1 k1 lo hi hn
      rw [h2]
      simp only [Option.map_some, Nat.zero_add]
      rw [e2, en_congr had (hraws n c2 k2 lo2 hi2 h2)]
  have hw : wd_ cA (aq_ ad k i (ad (k + 50) i)) (cw_ T k i g) (ids.map fun q => if q = (k + 50, i) then (k, i) else q) = wd_ cA ad T ids := by
    unfold wd_
    rw [List.map_map]
    apply List.map_congr_left
    rintro ⟨k', i'⟩ hm
    have ha := (hids k' i').mpr hm
    by_cases ez : (k', i') = (k + 50, i)
    · cases ez
      show (aq_ ad k i (ad (k + 50) i) (if (k + 50, i) = (k + 50, i) then (k, i) else (k + 50, i)).1 (if (k + 50, i) = (k + 50, i) then (k, i) else (k + 50, i)).2, ce_ cA _ _ (if (k + 50, i) = (k + 50, i) then (k, i) else (k + 50, i)).1 (if (k + 50, i) = (k + 50, i) then (k, i) else (k + 50, i)).2) = _
      rw [if_pos rfl, aq_s, hce, hfl, ← hcr]
    · show (aq_ ad k i (ad (k + 50) i) (if (k', i') = (k + 50, i) then (k, i) else (k', i')).1 (if (k', i') = (k + 50, i) then (k, i) else (k', i')).2, ce_ cA _ _ (if (k', i') = (k + 50, i) then (k, i) else (k', i')).1 (if (k', i') = (k + 50, i) then (k, i) else (k', i')).2) = _
      rw [if_neg ez]
      have hne : ¬ (k' = k ∧ i' = i) := fun z => hfr (by rw [← z.1, ← z.2]; exact ha)
      have hne2 : ¬ (k' = k + 50 ∧ i' = i) := fun z => ez (by rw [z.1, z.2])
      rw [ce_congr (cw_o hne hne2), ce_ad hT had ha, aq_n hne]
  have hRp : Rp_ D cA (aq_ ad k i (ad (k + 50) i)) (cw_ T k i g) A H := by
    refine ⟨ids.map fun q => if q = (k + 50, i) then (k, i) else q, fun k' i' => ?_, by rw [hw]; exact hP, by rw [hw]; exact hD⟩
    rw [al_cw, List.mem_map]
    constructor
    · rintro (⟨rfl, rfl⟩ | ⟨h1, h2⟩)
      · exact ⟨(k' + 50, i'), (hids _ _).mp hraw, by rw [if_pos rfl]⟩
      · exact ⟨(k', i'), (hids _ _).mp h1, by rw [if_neg (fun z => h2 (by cases z; exact ⟨rfl, rfl⟩))]⟩
    · rintro ⟨⟨k9, i9⟩, h1, h2⟩
      by_cases ez : (k9, i9) = (k + 50, i)
      · rw [if_pos ez] at h2
        cases h2
        exact Or.inl ⟨rfl, rfl⟩
      · rw [if_neg ez] at h2
        cases h2
        exact Or.inr ⟨(hids _ _).mpr h1, fun z => ez (by rw [z.1, z.2])⟩
  have mo : ∀ k' i', al_ T k' i' → ¬ (k' = k + 50 ∧ i' = i) → al_ (cw_ T k i g) k' i' := fun k' i' h h2 => (al_cw k' i').mpr (Or.inr ⟨h, h2⟩)
  have mov : ∀ v : Zv, ok_v T v → v ≠ vR (k + 50) i → ok_v (cw_ T k i g) v := fun v hv hne => by
    rcases v with x | x | _ | ⟨k9, i9⟩
    · exact hv
    · exact hv
    · exact trivial
    · rcases hv with h | h
      · exact Or.inl h
      · exact Or.inr (mo _ _ h (fun z => hne (by rw [z.1, z.2])))
  have hok : ok_T (cw_ T k i g) := by
    obtain ⟨a1, a2, a3, a4, a5, a6, a7, a8, a9⟩ := hT
    refine ⟨fun k' t' n' lo' hi' h i' x' hx => ?_, fun k' j' c k'' lo' hi' h i' => ?_, fun i' => ?_, fun k' i' hl' j' c k'' lo' hi' h => ?_, fun i' x' hx h => ?_, fun i' x' hx h => ?_, fun k' i' h q => ?_, fun k' i' o h q => ?_, fun i' h q => ?_⟩
    · have := ta_ge h
      rw [cw_o (fun z => by omega) (fun z => by omega)]
      exact a1 k' t' n' lo' hi' h i' x' hx
    · by_cases ez : k' = k ∧ i' = i
      · obtain ⟨rfl, rfl⟩ := ez
        obtain ⟨-, -, -, -, -, -, b1, b2⟩ := hg j' c k'' lo' hi' h
        rw [cw_s (by omega)]
        exact ⟨b1, b2⟩
      · rw [cw_n ez (by omega)]
        exact a2 k' j' c k'' lo' hi' h i'
    · rw [cw_o (fun z => by omega) (fun z => by omega)]
      exact a3 i'
    · rcases (al_cw k' i').mp hl' with ⟨rfl, rfl⟩ | ⟨h1, h2⟩
      · obtain ⟨c2, k2, lo2, hi2, h2, e2, -, -⟩ := hg j' c k'' lo' hi' h
        rw [cw_s (by omega), e2]
        refine mov _ (hraws j' c2 k2 lo2 hi2 h2) (fun z => fv_ky h2 z (by omega))
      · by_cases ez : k' = k ∧ i' = i
        · obtain ⟨rfl, rfl⟩ := ez
          exact absurd h1 hfr
        · rw [cw_o ez h2]
          exact mov _ (a4 k' i' h1 j' c k'' lo' hi' h) (fun z => fv_ky h z (by omega))
    · rw [cw_o (fun z => by omega) (fun z => by omega)] at h
      exact mo _ _ (a5 i' x' hx h) (fun z => by omega)
    · rw [cw_o (fun z => by omega) (fun z => by omega)] at h
      exact mo _ _ (a6 i' x' hx h) (fun z => by omega)
    · rcases (al_cw k' i').mp q with z | ⟨h1, -⟩
      · omega
      · exact a7 k' i' h h1
    · rcases (al_cw k' i').mp q with z | ⟨h1, h2⟩
      · have : ow_ k' = none := by
          rw [z.1]
          rcases hk with rfl | rfl | rfl <;> decide
        rw [this] at h
        cases h
      · have hoo : o = 100 ∨ o = 102 ∨ o = 103 := by
          unfold ow_ at h
          split at h
          · cases h; exact Or.inl rfl
          · split at h
            · cases h; exact Or.inr (Or.inl rfl)
            · split at h
              · cases h; exact Or.inr (Or.inr rfl)
              · cases h
        rcases a8 k' i' o h h1 with z | z
        · exact Or.inl (mo _ _ z (fun w => by omega))
        · by_cases w : o + 50 = k + 50 ∧ i' = i
          · exact Or.inl ((al_cw o i').mpr (Or.inl ⟨by omega, w.2⟩))
          · exact Or.inr (mo _ _ z w)
    · rw [cw_o (fun z => by omega) (fun z => by omega)] at h
      rcases (al_cw 190 i').mp q with z | ⟨h1, -⟩
      · omega
      · exact a9 i' h h1
  have hlsn : ∀ (j : Nat) (v : Zv), ls[j]? = some (some v) → v ≠ vR (k + 50) i := fun j v hj z => nk_no hls (i := i) (by rw [← z]; exact List.mem_of_getElem? hj)
  have hstn : ∀ v ∈ st, v ≠ vR (k + 50) i := fun v hv z => nk_no hst (i := i) (by rw [← z]; exact List.mem_map.mpr ⟨v, hv, rfl⟩)
  have hee : ∀ v, ok_v T v → en_v (aq_ ad k i (ad (k + 50) i)) v = en_v ad v := fun v hv => en_congr had hv
  have el : lp_ (aq_ ad k i (ad (k + 50) i)) 0 ls = lp_ ad 0 ls := lp_congr (fun k v hk => hee v (hL.1 k v hk))
  have es : st.map (en_v (aq_ ad k i (ad (k + 50) i))) = st.map (en_v ad) := List.map_congr_left (fun v hv => hee v ((ok_tail hL).2 v hv))
  have k2 := kk l p e s m args below meth c D cA ad0 A X (aq_ ad k i (ad (k + 50) i)) H locs cells slots lsC hc hs hRp hS ⟨fun k' i' h => mo _ _ (hB.1 k' i' h) (fun z => h0 (by rw [← z.1, ← z.2]; exact h)), fun k' i' h => by rw [had k' i' (h.imp id (hB.1 k' i'))]; exact hB.2 k' i' h⟩ hok (ok_push (Or.inr ((al_cw k i).mpr (Or.inl ⟨rfl, rfl⟩))) ⟨fun j v hj => mov v (hL.1 j v hj) (hlsn j v hj), fun v hv => mov v ((ok_tail hL).2 v hv) (hstn v hv)⟩) (by rw [el]; exact hl) hln
  have e2 : (vR k i :: st).map (en_v (aq_ ad k i (ad (k + 50) i))) = (vR (k + 50) i :: st).map (en_v ad) := by
    rw [List.map_cons, List.map_cons, es]
    show Value.ref (aq_ ad k i (ad (k + 50) i) k i) :: _ = Value.ref (ad (k + 50) i) :: _
    rw [aq_s]
  rw [e2] at k2
  exact k2
end JP
-- references into rows, casts, clones, copies of rows
section JQ
variable {Y Yc : Zm} {T0 T : Zt} {P : Zt → Option Zv → Prop} {bc bs bc' bs' : Nat} {pc : Int} {ls : Zl} {st rest : List Zv}
theorem j_castA {idx k : Nat} {mo : Option Int} {lo hi i : Int} (hp : 0 ≤ pc) (ha : ta_ k = some (1, mo, lo, hi)) (hcl : Cond.classLink Y.1 idx "[I" ∈ lw_g) (hd : decode Y.2.1 pc.toNat = .ok (.checkcast idx, 3)) (kk : J_ Y T0 P bc bs (pc + 3) ls (vR k i :: st) T) : J_ Y T0 P bc bs pc ls (vR k i :: st) T := by
  intro l p e s m args below meth c D cA ad0 A X ad H locs cells slots lsC hc hs hR hS hB hT hL hl hln
  have hal : al_ T k i := ok_al (v := none) (by have := ta_ge ha; omega) (ok_head hL)
  obtain ⟨ids, q0, hq, hids, hP, hD⟩ := rp_at hR hal
  have hw := wd_get (cA := cA) (ad := ad) (T := T) hq
  unfold ce_ at hw
  rw [ha] at hw
  have k2 := kk l p e s m args below meth c D cA ad0 A X ad H locs cells slots lsC hc hs hR hS hB hT hL hl hln
  rw [show (pc + 3).toNat = pc.toNat + 3 by omega] at k2
  exact va_castA X.1 X.2.1 X.2.2.2.2.2.2.1 (X.2.2.2.2.2.1 _ hcl) hP q0 hw (va_nm_int (X.2.2.2.2.2.2.2.1.2 0 (cA 0, .int) rfl).2) hd k2
/-- a thing is put into the rows competitions and matches, at its own number -/
theorem j_aast {k ko : Nat} {n : Option Int} {lo hi i x : Int} (hp : 0 ≤ pc) (hk : (k = 521 ∧ ko = 100) ∨ (k = 523 ∧ ko = 102)) (ha : ta_ k = some (ko / 2 - 46, n, lo, hi)) (hd : decode Y.2.1 pc.toNat = .ok (.aastore, 1)) (h1 : 0 ≤ x) (h2 : x < ln_ T k i) (hlh : lo ≤ 1 ∧ 1 ≤ hi) (kk : J_ Y T0 P bc bs (pc + 1) ls st (up_ T k i x 1)) : J_ Y T0 P bc bs pc ls (vR ko x :: vI x :: vR k i :: st) T := by
  intro l p e s m args below meth c0 D cA ad0 A X ad H locs cells slots lsC hc hs hR hS hB hT hL hl hn
  have hx : -2147483648 ≤ x ∧ x ≤ 2147483647 := ok_head (ok_tail hL)
  have hal : al_ T k i := ok_al (v := none) (by omega) (ok_head (ok_tail (ok_tail hL)))
  have halo : al_ T ko x := ok_al (v := none) (by omega) (ok_head hL)
  have hup := al_up (T := T) (k := k) (i := i) (j := x) (x := 1) (by omega)
  obtain ⟨ids, q0, hq, hids, hP, hD⟩ := rp_at hR hal
  obtain ⟨q1, hq1⟩ := List.getElem?_of_mem ((hids ko x).mp halo)
  have hw := wd_get (cA := cA) (ad := ad) (T := T) hq
  have hw1 := wd_get (cA := cA) (ad := ad) (T := T) hq1
  have hin := i3_in h1 h2 hx.2
  have hok : ok_T (up_ T k i x 1) := by
    obtain ⟨a1, a2, a3, a4, a5, a6, a7, a8, a9⟩ := hT
    have hk5 : k = 521 ∨ k = 523 := by omega
    refine ⟨fun k' t' n' lo' hi' h i' x' hx => ?_, fun k' j' c k'' lo' hi' h i' => ?_, fun i' => ?_, fun k' i' hl' j' c k'' lo' hi' h => ?_, fun i' x' hx h => ?_, fun i' x' hx h => ?_, fun k' i' h q => a7 k' i' h ((hup _ _).mp q), fun k' i' o h q => (a8 k' i' o h ((hup _ _).mp q)).imp (hup _ _).mpr (hup _ _).mpr, fun i' h q => ?_⟩
    · by_cases e : k' = k ∧ i' = i ∧ x' = x
      · obtain ⟨rfl, rfl, rfl⟩ := e
        rw [ha] at h
        cases h
        rw [up_s]
        exact hlh
      · rw [up_n e]
        exact a1 k' t' n' lo' hi' h i' x' hx
    · have := tf_lt h
      rw [up_n (fun e => by omega)]
      exact a2 k' j' c k'' lo' hi' h i'
    · rw [up_n (fun e => by omega)]
      exact a3 i'
    · have := tf_lt h
      rw [up_n (fun e => by omega)]
      exact okv_mono (fun k i => (hup k i).mpr) (a4 k' i' ((hup k' i').mp hl') j' c k'' lo' hi' h)
    · by_cases e : 521 = k ∧ i' = i ∧ x' = x
      · obtain ⟨rfl, rfl, rfl⟩ := e
        have : ko = 100 := by omega
        subst this
        exact (hup _ _).mpr halo
      · rw [up_n e] at h
        exact (hup _ _).mpr (a5 i' x' hx h)
    · by_cases e : 523 = k ∧ i' = i ∧ x' = x
      · obtain ⟨rfl, rfl, rfl⟩ := e
        have : ko = 102 := by omega
        subst this
        exact (hup _ _).mpr halo
      · rw [up_n e] at h
        exact (hup _ _).mpr (a6 i' x' hx h)
    · rw [up_n (fun e => by omega)] at h
      exact a9 i' h ((hup _ _).mp q)
  have e2 : (wd_ cA ad T ids).set q0 (ad k i, ce_ cA ad (up_ T k i x 1) k i) = wd_ cA ad (up_ T k i x 1) ids := wd_set hD hq (fun k' i' h => up_o h)
  have fin : ∀ (H1 : Heap) (locs1 : List Loc), va_P D vwCl (wd_ cA ad (up_ T k i x 1) ids) H1 → va_D A (wd_ cA ad (up_ T k i x 1) ids) → va_S A s.heap H1 locs1 → W p l e Y.2.2.2.2 s m args below meth c0 H1 locs1 cells slots (MQ below (Qc_ D cA ad0 T0 A P) args s Y.2.2.2.2.cells Y.2.2.2.2.slots A) (F0 m (pc.toNat + 1) lsC (st.map (en_v ad))) := fun H1 locs1 hP1 hD1 hS1 => by
    have k2 := kk l p e s m args below meth c0 D cA ad0 A X ad H1 locs1 cells slots lsC hc hs ⟨ids, fun k i => (hup k i).trans (hids k i), hP1, hD1⟩ hS1 ⟨fun k i h => (hup k i).mpr (hB.1 k i h), hB.2⟩ hok ⟨fun k9 v h => okv_mono (fun k i => (hup k i).mpr) (hL.1 k9 v h), fun v h => okv_mono (fun k i => (hup k i).mpr) ((ok_tail (ok_tail (ok_tail hL))).2 v h)⟩ hl hn
    rw [show (pc + 1).toNat = pc.toNat + 1 by omega] at k2
    exact k2
  have hcl := i3_cl h1 hx.2
  have hxn : (Int32.ofInt x).toNatClampNeg = x.toNat := by omega
  rcases hk with ⟨rfl, rfl⟩ | ⟨rfl, rfl⟩
  · have hL4 : ∀ T9 : Zt, ce_ cA ad T9 521 i = .inl (cA 3, (ln_ T9 521 i).toNat, .inr (.inr (.inr (.inr fun x => if T9 521 i (x : Int) = 0 then none else some (ad 100 x))))) := fun T9 => by
      unfold ce_
      rw [ta_521]
      rfl
    rw [hL4] at hw e2
    rw [show (100 : Nat) = 100 + 0 from rfl, ce_ob (by omega)] at hw1
    refine va_astq X.1 X.2.1 X.2.2.2.2.2.2.2.1 hP hD hS q0 3 q1 0 hw rfl hw1 vi_0 hin hd (fun H1 locs1 hP1 hD1 hS1 => ?_)
    have ef : va_up (fun x : Nat => if T 521 i (x : Int) = 0 then none else some (ad 100 x)) (Int32.ofInt x).toNatClampNeg (some (ad (100 + 0) x)) = fun z : Nat => if up_ T 521 i x 1 521 i (z : Int) = 0 then none else some (ad 100 z) := by
      funext z
      unfold va_up
      by_cases ez : z = (Int32.ofInt x).toNatClampNeg
      · have : (z : Int) = x := by omega
        rw [if_pos ez, this, up_s, if_neg (by decide)]
      · rw [if_neg ez, up_n (fun q => ez (by omega))]
    rw [ef, ← ln_up (T := T) (k := 521) (i := i) (x := 1) h1, e2] at hP1 hD1
    exact fin H1 locs1 hP1 hD1 hS1
  · have hL4 : ∀ T9 : Zt, ce_ cA ad T9 523 i = .inl (cA 4, (ln_ T9 523 i).toNat, .inr (.inr (.inr (.inr fun x => if T9 523 i (x : Int) = 0 then none else some (ad 102 x))))) := fun T9 => by
      unfold ce_
      rw [ta_523]
      rfl
    rw [hL4] at hw e2
    rw [show (102 : Nat) = 100 + 2 from rfl, ce_ob (by omega)] at hw1
    refine va_astq X.1 X.2.1 X.2.2.2.2.2.2.2.1 hP hD hS q0 4 q1 2 hw rfl hw1 vi_2 hin hd (fun H1 locs1 hP1 hD1 hS1 => ?_)
    have ef : va_up (fun x : Nat => if T 523 i (x : Int) = 0 then none else some (ad 102 x)) (Int32.ofInt x).toNatClampNeg (some (ad (100 + 2) x)) = fun z : Nat => if up_ T 523 i x 1 523 i (z : Int) = 0 then none else some (ad 102 z) := by
      funext z
      unfold va_up
      by_cases ez : z = (Int32.ofInt x).toNatClampNeg
      · have : (z : Int) = x := by omega
        rw [if_pos ez, this, up_s, if_neg (by decide)]
      · rw [if_neg ez, up_n (fun q => ez (by omega))]
    rw [ef, ← ln_up (T := T) (k := 523) (i := i) (x := 1) h1, e2] at hP1 hD1
    exact fin H1 locs1 hP1 hD1 hS1
end JQ
theorem im_ev (n : Nat) : im_ (2 * n) = false := by
  unfold im_
  simp only [Bool.or_eq_false_iff, beq_eq_false_iff_ne]
  omega
section JR2
variable {Y Yc : Zm} {T0 T : Zt} {P : Zt → Option Zv → Prop} {bc bs bc' bs' : Nat} {pc : Int} {ls : Zl} {st rest : List Zv}
theorem j_mono (h1 : bc' ≤ bc) (h2 : bs' ≤ bs) (k : J_ Y T0 P bc' bs' pc ls st T) : J_ Y T0 P bc bs pc ls st T := by
  intro l p e s m args below meth c D cA ad0 A X ad H locs cells slots lsC hc hs hR hS hB hT hL hl hln
  exact k l p e s m args below meth c D cA ad0 A X ad H locs cells slots lsC (by omega) (by omega) hR hS hB hT hL hl hln
theorem nv_fr {U : Zt} {n : Int} (h : U = nv_ T n) : fr_ [(190, []), (191, [0])] T U := fun k i j w => by
  subst h
  unfold nv_
  rw [up_n (fun z => by rw [z.1, z.2.2] at w; exact absurd w (by decide)), nu_o (fun z => by rw [z.1] at w; simp [fw_] at w)]
theorem nv_t9 {U : Zt} {n : Int} (h : U = nv_ T n) : U 191 0 0 = T 191 0 0 + 1 := by rw [h]; exact nv_9
theorem nv_tl {U : Zt} {n : Int} (h : U = nv_ T n) : U 190 (T 191 0 0) (-2) = n := by rw [h, nv_s, nu_l]
theorem nv_to {U : Zt} {n : Int} (h : U = nv_ T n) (x j : Int) (hx : x ≠ T 191 0 0) : U 190 x j = T 190 x j := by rw [h, nv_o (fun z => hx z.2) (by decide)]
theorem nu_fr {U : Zt} {k : Nat} {i n : Int} {f : Int → Int} (h : U = nu_ T k i n f) : fr_ [(k, [])] T U := fun k' i' j w => by
  subst h
  rw [nu_o (fun z => by rw [z.1] at w; simp [fw_] at w)]
theorem nu_tz {U : Zt} {k : Nat} {i n : Int} (h : U = nu_ T k i n (fun _ => 0)) (j : Int) (hj : 0 ≤ j) : U k i j = 0 := by rw [h, nu_p hj]
theorem nu_to {U : Zt} {k : Nat} {i n : Int} {f : Int → Int} (h : U = nu_ T k i n f) (k' : Nat) (i' j : Int) (hx : ¬ (k' = k ∧ i' = i)) : U k' i' j = T k' i' j := by rw [h, nu_o hx]
theorem nu_tv {U : Zt} {k : Nat} {i n : Int} {f : Int → Int} (h : U = nu_ T k i n f) : U k i (-1) = 1 := by rw [h, nu_s, if_pos rfl]
theorem fv5_ {k' : Nat} {x i : Int} (h : 0 ≤ x) : fv_ 5 k' (x + 1) i = vR k' x := by
  show (if x + 1 = 0 then vN else vR k' (x + 1 - 1)) = _
  rw [if_neg (by omega), show x + 1 - 1 = x by omega]
theorem nf_0 (i : Int) (ad : Nat → Int → Nat) (j : Nat) (h : j < 9) : defaultValue (tyX0 j) = vp_V (rw_fs 0 ad i) j := by
  have e : rw_fs 0 ad i = [.int 0, .null, .null, .null, .null, .int 0, .int 0, .int 0, .int 0] := rfl
  have e2 : ∀ j, j < 9 → defaultValue (tyX0 j) = vp_V [.int 0, .null, .null, .null, .null, .int 0, .int 0, .int 0, .int 0] j := by decide +kernel
  rw [e]
  exact e2 j h
theorem nf_2 (i : Int) (ad : Nat → Int → Nat) (j : Nat) (h : j < 11) : defaultValue (tyX2 j) = vp_V (rw_fs 2 ad i) j := by
  have e : rw_fs 2 ad i = [.null, .int 0, .int 0, .int 0, .int 0, .int 0, .int 0, .int 0, .null, .null, .null] := rfl
  have e2 : ∀ j, j < 11 → defaultValue (tyX2 j) = vp_V [.null, .int 0, .int 0, .int 0, .int 0, .int 0, .int 0, .int 0, .null, .null, .null] j := by decide +kernel
  rw [e]
  exact e2 j h
theorem nf_3 (i : Int) (ad : Nat → Int → Nat) (j : Nat) (h : j < 18) : defaultValue (tyX3 j) = vp_V (rw_fs 3 ad i) j := by
  have e : rw_fs 3 ad i = [.null, .null, .null, .int 0, .int 0, .int 0, .null, .null, .null, .null, .null, .null, .null, .null, .null, .int 0, .null, .int 0] := rfl
  have e2 : ∀ j, j < 18 → defaultValue (tyX3 j) = vp_V [.null, .null, .null, .int 0, .int 0, .int 0, .null, .null, .null, .null, .null, .null, .null, .null, .null, .int 0, .null, .int 0] j := by decide +kernel
  rw [e]
  exact e2 j h
/-- a part of a row is copied into another -/
def cp_ (T : Zt) (a b n : Int) : Zt := fun k i j => if k = 190 ∧ i = b ∧ 0 ≤ j ∧ j < n then T 190 a j else T k i j
theorem cp_n {a b n : Int} {k : Nat} {i j : Int} (h : ¬ (k = 190 ∧ i = b ∧ 0 ≤ j ∧ j < n)) : cp_ T a b n k i j = T k i j := by
  unfold cp_
  rw [if_neg h]
theorem al_cp {a b n : Int} (k : Nat) (i : Int) : al_ (cp_ T a b n) k i ↔ al_ T k i := by
  unfold al_
  rw [cp_n (fun z => by omega)]
theorem ok_cp (hT : ok_T T) {a b n : Int} : ok_T (cp_ T a b n) := by
  obtain ⟨a1, a2, a3, a4, a5, a6, a7, a8, a9⟩ := hT
  refine ⟨fun k' t' n' lo' hi' h i' x' hx => ?_, fun k' j' c k'' lo' hi' h i' => ?_, fun i' => ?_, fun k' i' hl' j' c k'' lo' hi' h => ?_, fun i' x' hx h => ?_, fun i' x' hx h => ?_, fun k' i' h q => a7 k' i' h ((al_cp _ _).mp q), fun k' i' o h q => (a8 k' i' o h ((al_cp _ _).mp q)).imp (al_cp _ _).mpr (al_cp _ _).mpr, fun i' h q => ?_⟩
  · by_cases e : k' = 190 ∧ i' = b ∧ 0 ≤ x' ∧ x' < n
    · obtain ⟨rfl, rfl, -⟩ := e
      unfold cp_
      split
      · exact a1 _ _ _ _ _ h a x' hx
      · exact a1 _ _ _ _ _ h i' x' hx
    · rw [cp_n e]
      exact a1 k' t' n' lo' hi' h i' x' hx
  · have := tf_lt h
    rw [cp_n (fun e => by omega)]
    exact a2 k' j' c k'' lo' hi' h i'
  · rw [cp_n (fun e => by omega)]
    exact a3 i'
  · have := tf_lt h
    rw [cp_n (fun e => by omega)]
    exact okv_mono (fun k i => (al_cp k i).mpr) (a4 k' i' ((al_cp k' i').mp hl') j' c k'' lo' hi' h)
  · rw [cp_n (fun e => by omega)] at h
    exact (al_cp _ _).mpr (a5 i' x' hx h)
  · rw [cp_n (fun e => by omega)] at h
    exact (al_cp _ _).mpr (a6 i' x' hx h)
  · rw [cp_n (fun e => by omega)] at h
    exact a9 i' h ((al_cp _ _).mp q)
theorem cp_fr {U : Zt} {a b n : Int} (h : U = cp_ T a b n) : fr_ [(190, [])] T U := fun k i j w => by
  subst h
  rw [cp_n (fun z => by rw [z.1] at w; simp [fw_] at w)]
theorem cp_l {U : Zt} {a b n : Int} (h : U = cp_ T a b n) (x : Int) : U 190 x (-2) = T 190 x (-2) := by rw [h, cp_n (fun z => by omega)]
theorem cp_o {U : Zt} {a b n : Int} (h : U = cp_ T a b n) (x j : Int) (hx : x ≠ b) : U 190 x j = T 190 x j := by rw [h, cp_n (fun z => hx z.2.1)]
theorem j_acp {idx : Nat} {a b n : Int} (hp : 0 ≤ pc) (h0 : 0 ≤ n) (h1 : n ≤ T 190 a (-2)) (h2 : n ≤ T 190 b (-2)) (hml : Cond.methodLink Y.1 idx arraycopyName ∈ lw_g) (hna : Cond.native arraycopyName ∈ lw_g) (hst : Cond.static arraycopyName ∈ lw_g) (hin : Cond.initialized "java/lang/System" ∈ lw_g) (hd : decode Y.2.1 pc.toNat = .ok (.invokestatic idx, 3)) (hf : 1 ≤ Y.2.2.2.2.frames) (hlo : 8 + (nativeFrameWords "java/lang/System" "arraycopy" 5 + 11) ≤ Y.2.2.2.2.locals) (hrest : st.length ≤ 4) (kk : J_ Y T0 P bc bs (pc + 3) ls st (cp_ T a b n)) : J_ Y T0 P bc bs pc ls (vI n :: vI 0 :: vR 190 b :: vI 0 :: vR 190 a :: st) T := by
  intro l p e s m args below meth c D cA ad0 A X ad H locs cells slots lsC hc hs hR hS hB hT hL hl hln
  have hb : al_ T 190 b := ok_al (v := none) (by omega) (ok_head (ok_tail (ok_tail hL)))
  have ha : al_ T 190 a := ok_al (v := none) (by omega) (ok_head (ok_tail (ok_tail (ok_tail (ok_tail hL)))))
  have hn : -2147483648 ≤ n ∧ n ≤ 2147483647 := ok_head hL
  obtain ⟨ids, q0, hq, hids, hP, hD⟩ := rp_at hR ha
  obtain ⟨q1, hq1⟩ := List.getElem?_of_mem ((hids 190 b).mp hb)
  have w := X.2.2.2.2.2.1
  have sm := en_sum (ad := ad) st
  have hwa := wd_get (cA := cA) (ad := ad) (T := T) hq
  rw [ce_i (n := T 190 a (-2)) ta_190 (Or.inl ⟨rfl, rfl⟩)] at hwa
  have hwb := wd_get (cA := cA) (ad := ad) (T := T) hq1
  rw [ce_i (n := T 190 b (-2)) ta_190 (Or.inl ⟨rfl, rfl⟩)] at hwb
  have hcl := i3_cl h0 hn.2
  have hin2 := i3_in h0 (show n < n + 1 by omega) hn.2
  have z0 : (0 : Int32).toNatClampNeg = 0 := by decide
  have e2 : (wd_ cA ad T ids).set q1 (ad 190 b, ce_ cA ad (cp_ T a b n) 190 b) = wd_ cA ad (cp_ T a b n) ids := by
    refine wd_set hD hq1 (fun k' i' h => ?_)
    funext j
    exact cp_n (fun z => h (by rw [z.1, z.2.1]))
  rw [ce_i (n := T 190 b (-2)) ta_190 (Or.inl ⟨rfl, by rw [cp_n (fun z => by omega)]⟩)] at e2
  refine va_copyi (n := Int32.ofInt n) (sp := 0) (dp := 0) (ty := .int) X.1 X.2.1 (X.2.2.1.trans hl.1.symm) X.2.2.2.2.2.2.1 (w _ hml) (w _ hna) (w _ hst) (w _ hin) X.2.2.2.2.2.2.2.1 hP hD hS q0 q1 0 0 hwa hwb rfl rfl rfl (by decide) (by decide) (fun z => hin2 (Or.inl z)) (by rw [z0]; omega) (by rw [z0]; omega) (fun _ _ => rfl) hf (by omega) hd (fun H1 locs1 hP1 hD1 hS1 => ?_)
  have ef : va_cpy (fun x : Nat => Int32.ofInt (T 190 a (x : Int))) (fun x : Nat => Int32.ofInt (T 190 b (x : Int))) (0 : Int32).toNatClampNeg (0 : Int32).toNatClampNeg (Int32.ofInt n).toNatClampNeg = fun x : Nat => Int32.ofInt (cp_ T a b n 190 b (x : Int)) := by
    funext x
    unfold va_cpy
    rw [z0]
    by_cases hx : (x : Int) < n
    · rw [if_pos (by omega)]
      unfold cp_
      rw [if_pos ⟨rfl, rfl, by omega, hx⟩, show 0 + (x - 0) = x by omega]
    · rw [if_neg (by omega), cp_n (fun z => hx z.2.2.2)]
  rw [ef, e2] at hP1 hD1
  have k2 := kk l p e s m args below meth c D cA ad0 A X ad H1 locs1 cells slots lsC hc hs ⟨ids, fun k i => (al_cp k i).trans (hids k i), hP1, hD1⟩ hS1 ⟨fun k i h => (al_cp k i).mpr (hB.1 k i h), hB.2⟩ (ok_cp hT) ⟨fun k9 v h => okv_mono (fun k i => (al_cp k i).mpr) (hL.1 k9 v h), fun v h => okv_mono (fun k i => (al_cp k i).mpr) ((ok_tail (ok_tail (ok_tail (ok_tail (ok_tail hL))))).2 v h)⟩ hl hln
  rw [show (pc + 3).toNat = pc.toNat + 3 by omega] at k2
  exact k2
end JR2
abbrev cJ7_copyOf_59c91 : ByteArray := prog_21_method_123_code
def yJ7_copyOf_59c91 : MethodName := ⟨RJ7, "copyOf", "([II)[I"⟩
def zJ7_copyOf_59c91 (sl : Nat) : Zm := (RJ7, cJ7_copyOf_59c91, 3, (some (.array .int)), { frames := 1, cells := 1, slots := 2 * sl, locals := 70 })
/-- only what has the index p has changed, rows of any length aside -/
def oq_ (T T1 : Zt) (p : Int) : Prop := ∀ k i j, i ≠ p → k ≠ 190 → k ≠ 191 → T1 k i j = T k i j
theorem oq_r {T : Zt} {p : Int} : oq_ T T p := fun _ _ _ _ _ _ => rfl
theorem oq_u {T T1 T2 : Zt} {p j v : Int} {k : Nat} (h : oq_ T T1 p) (e : T2 = up_ T1 k p j v) : oq_ T T2 p := fun k' i j' hi a b => (up_g e (fun q => hi q.2.1)).trans (h k' i j' hi a b)
theorem oq_i {T T1 T2 : Zt} {p : Int} (h : oq_ T T1 p) (g : oi_ T1 T2 p) : oq_ T T2 p := fun k i j hi a b => (g k i j hi).trans (h k i j hi a b)
theorem oq_t {T T1 T2 : Zt} {p : Int} (h : oq_ T T1 p) (g : oq_ T1 T2 p) : oq_ T T2 p := fun k i j hi a b => (g k i j hi a b).trans (h k i j hi a b)
theorem oq_9 {T T1 T2 : Zt} {p : Int} (h : oq_ T T1 p) (g : fr_ [(190, []), (191, [0])] T1 T2) : oq_ T T2 p := fun k i j hi a b => (g k i j (by simp [fw_, a, b])).trans (h k i j hi a b)
theorem oq_1 {T T1 T2 : Zt} {p : Int} (h : oq_ T T1 p) (g : fr_ [(190, [])] T1 T2) : oq_ T T2 p := oq_9 h (fr_s g rfl)
/-- the lengths that a log has -/
def lz_ (x : Int) : Prop := x = 16 ∨ x = 32 ∨ x = 64 ∨ x = 128 ∨ x = 256 ∨ x = 512 ∨ x = 1024 ∨ x = 2048
theorem lz_b {x : Int} (h : lz_ x) : 16 ≤ x ∧ x ≤ 2048 := by unfold lz_ at h; omega
theorem lz_h {x : Int} (h : lz_ x) (g : x < 2048) : x ≤ 1024 := by unfold lz_ at h; omega
theorem lz_d {x : Int} (h : lz_ x) (g : x < 2048) : lz_ (2 * x) := by unfold lz_ at h ⊢; omega
theorem oq_w {T T1 T2 : Zt} {p i j v : Int} (h : oq_ T T1 p) (e : T2 = up_ T1 190 i j v) : oq_ T T2 p := fun k' i' j' hi a b => (up_g e (fun q => a q.1)).trans (h k' i' j' hi a b)
abbrev cX3_writeRow : ByteArray := prog_5_method_31_code
def yX3_writeRow : MethodName := ⟨RX3, "writeRow", "([IIIIII)V"⟩
def zX3_writeRow : Zm := (RX3, cX3_writeRow, 6, none, { frames := 0, cells := 0, slots := 0, locals := 0 })
abbrev cX3_keepRow : ByteArray := prog_5_method_29_code
def yX3_keepRow : MethodName := ⟨RX3, "keepRow", "(IIII)V"⟩
def zX3_keepRow : Zm := (RX3, cX3_keepRow, 5, none, { frames := 2, cells := 1, slots := 2048, locals := 92 })
set_option maxRecDepth 100000 in
theorem cl_X3_161 : cs_ RX3 161 yX3_writeRow zX3_writeRow 6 := ⟨gi_S (lwq_5 (dqc_m (dqc_m (dqc_m (dqc_m (dqa_m (dqa_m (List.mem_of_getElem? (i := 2) rfl))))))) rfl : Cond.methodLink RX3 161 yX3_writeRow ∈ lw_g) (lwq_5 (dqc_m (dqc_m (dqc_m (dqc_m (dqa_m (dqa_m (List.mem_of_getElem? (i := 3) rfl))))))) rfl : Cond.static yX3_writeRow ∈ lw_g) (lwq_1 (dqa_m (dqa_m (List.mem_of_getElem? (i := 2) rfl))) rfl : Cond.initialized yX3_writeRow.cls ∈ lw_g) (lwq_5 (dqc_m (dqc_m (dqc_m (dqc_m (dqa_m (dqa_m (List.mem_of_getElem? (i := 4) rfl))))))) rfl : Cond.code yX3_writeRow cX3_writeRow 6 none ∈ lw_g), ⟨by decide, by decide, by decide +kernel⟩⟩
set_option maxRecDepth 100000 in
theorem cl_X3_157 (sl : Nat) : cs_ RX3 157 yJ7_copyOf_59c91 (zJ7_copyOf_59c91 sl) 2 := ⟨gi_S (lwq_5 (dqc_m (dqc_m (dqc_m (dqc_m (dqa_m (List.mem_of_getElem? (i := 1) rfl)))))) rfl : Cond.methodLink RX3 157 yJ7_copyOf_59c91 ∈ lw_g) (lwq_5 (dqc_m (dqc_m (dqc_m (dqc_m (dqa_m (List.mem_of_getElem? (i := 2) rfl)))))) rfl : Cond.static yJ7_copyOf_59c91 ∈ lw_g) (lwq_1 (List.mem_of_getElem? (i := 7) rfl) rfl : Cond.initialized yJ7_copyOf_59c91.cls ∈ lw_g) (lwq_5 (dqc_m (dqc_m (dqc_m (dqc_m (dqa_m (List.mem_of_getElem? (i := 3) rfl)))))) rfl : Cond.code yJ7_copyOf_59c91 cJ7_copyOf_59c91 3 (some (.array .int)) ∈ lw_g), ⟨by decide, by decide, by decide +kernel⟩⟩
theorem fr5_X3_36 : fr5_ RX3 36 3 14 := ⟨_, _, _, rfl, by decide, by decide, (lwq_4 (dqc_m (dqc_m (dqc_m (dqc_m (dqc_m (dqc_m (dqa_m (dqa_m (List.mem_of_getElem? (i := 1) rfl))))))))) rfl : Cond.fieldLink RX3 36 _ _ _ ∈ lw_g), rfl, fun a => ⟨.array .int, by decide +kernel, rfl, rfl⟩⟩
def zX3_keepRow0 : Zm := (RX3, cX3_keepRow, 5, none, { frames := 2, cells := 0, slots := 0, locals := 92 })
abbrev cX3_putAside : ByteArray := prog_5_method_30_code
def yX3_putAside : MethodName := ⟨RX3, "putAside", "(IIII)V"⟩
def zX3_putAside0 : Zm := (RX3, cX3_putAside, 5, none, { frames := 2, cells := 0, slots := 0, locals := 92 })
def zX3_putAsideD (sl : Nat) : Zm := (RX3, cX3_putAside, 5, none, { frames := 2, cells := 1, slots := 2 * sl, locals := 92 })
theorem fr5_X3_39 : fr5_ RX3 39 3 16 := ⟨_, _, _, rfl, by decide, by decide, (lwq_4 (dqc_m (dqc_m (dqc_m (dqc_m (dqc_m (dqc_m (dqa_m (dqa_m (List.mem_of_getElem? (i := 5) rfl))))))))) rfl : Cond.fieldLink RX3 39 _ _ _ ∈ lw_g), rfl, fun a => ⟨.array .int, by decide +kernel, rfl, rfl⟩⟩
abbrev cX3_isSameRow : ByteArray := prog_5_method_32_code
def yX3_isSameRow : MethodName := ⟨RX3, "isSameRow", "(IIIII)Z"⟩
def zX3_isSameRow : Zm := (RX3, cX3_isSameRow, 6, (some .boolean), { frames := 0, cells := 0, slots := 0, locals := 0 })
abbrev cX3_takeOut : ByteArray := prog_5_method_33_code
def yX3_takeOut : MethodName := ⟨RX3, "takeOut", "(I)V"⟩
def zX3_takeOut : Zm := (RX3, cX3_takeOut, 3, none, { frames := 0, cells := 0, slots := 0, locals := 0 })
abbrev cX3_putInPlace : ByteArray := prog_5_method_34_code
def yX3_putInPlace : MethodName := ⟨RX3, "putInPlace", "(IIIII)V"⟩
def zX3_putInPlace : Zm := (RX3, cX3_putInPlace, 6, none, { frames := 1, cells := 0, slots := 0, locals := 25 })
theorem lz_2 {x y : Int} (h : lz_ x) (g : lz_ y) (a : x < y) (b : y ≤ 2 * x) : y = 2 * x := by unfold lz_ at h g; omega
abbrev cX3_runAnew : ByteArray := prog_5_method_35_code
def yX3_runAnew : MethodName := ⟨RX3, "runAnew", "()I"⟩
def zX3_runAnew : Zm := (RX3, cX3_runAnew, 8, (some .int), { frames := 5, cells := 127, slots := 4064, locals := 116 })
set_option maxRecDepth 100000 in
theorem cl_X3_171 : cv_ RX3 171 yX3_brokenLaw zX3_brokenLaw 3 4 := ⟨gi_V (lwq_5 (dqc_m (dqc_m (dqc_m (dqc_m (dqc_m (List.mem_of_getElem? (i := 2) rfl)))))) rfl : Cond.methodLink RX3 171 yX3_brokenLaw ∈ lw_g) (lwq_5 (dqa_m (dqa_m (dqa_m (List.mem_of_getElem? (i := 4) rfl)))) rfl : Cond.instanceMethod yX3_brokenLaw ∈ lw_g) (lwq_5 (dqa_m (dqa_m (dqa_m (List.mem_of_getElem? (i := 5) rfl)))) rfl : Cond.selects yX3_brokenLaw.cls yX3_brokenLaw yX3_brokenLaw ∈ lw_g) (lwq_1 (dqa_m (dqa_m (List.mem_of_getElem? (i := 2) rfl))) rfl : Cond.initialized yX3_brokenLaw.cls ∈ lw_g) (lwq_5 (dqa_m (dqa_m (dqa_m (List.mem_of_getElem? (i := 6) rfl)))) rfl : Cond.code yX3_brokenLaw cX3_brokenLaw 5 (some .int) ∈ lw_g), ⟨nmh_3.1, nmh_3.2, pdq_32⟩, ⟨_, _, rfl⟩⟩
set_option maxRecDepth 100000 in
theorem cl_X3_182_zX3_putAside0 : cv_ RX3 182 yX3_putAside zX3_putAside0 3 4 := ⟨gi_V (lwq_5 (dqc_m (dqc_m (dqc_m (dqc_m (dqc_m (List.mem_of_getElem? (i := 5) rfl)))))) rfl : Cond.methodLink RX3 182 yX3_putAside ∈ lw_g) (lwq_5 (dqc_m (dqc_m (dqc_m (dqc_m (dqc_m (List.mem_of_getElem? (i := 7) rfl)))))) rfl : Cond.instanceMethod yX3_putAside ∈ lw_g) (lw_sel 97 rfl : Cond.selects yX3_putAside.cls yX3_putAside yX3_putAside ∈ lw_g) (lwq_1 (dqa_m (dqa_m (List.mem_of_getElem? (i := 2) rfl))) rfl : Cond.initialized yX3_putAside.cls ∈ lw_g) (lwq_5 (dqc_m (dqc_m (dqc_m (dqc_m (dqc_m (dqa_m (List.mem_of_getElem? (i := 0) rfl))))))) rfl : Cond.code yX3_putAside cX3_putAside 5 none ∈ lw_g), ⟨nmh_3.1, nmh_3.2, pdq_12⟩, ⟨_, _, rfl⟩⟩
set_option maxRecDepth 100000 in
theorem cl_X3_182_zX3_putAsideD (sl : Nat) : cv_ RX3 182 yX3_putAside (zX3_putAsideD sl) 3 4 := ⟨gi_V (lwq_5 (dqc_m (dqc_m (dqc_m (dqc_m (dqc_m (List.mem_of_getElem? (i := 5) rfl)))))) rfl : Cond.methodLink RX3 182 yX3_putAside ∈ lw_g) (lwq_5 (dqc_m (dqc_m (dqc_m (dqc_m (dqc_m (List.mem_of_getElem? (i := 7) rfl)))))) rfl : Cond.instanceMethod yX3_putAside ∈ lw_g) (lw_sel 97 rfl : Cond.selects yX3_putAside.cls yX3_putAside yX3_putAside ∈ lw_g) (lwq_1 (dqa_m (dqa_m (List.mem_of_getElem? (i := 2) rfl))) rfl : Cond.initialized yX3_putAside.cls ∈ lw_g) (lwq_5 (dqc_m (dqc_m (dqc_m (dqc_m (dqc_m (dqa_m (List.mem_of_getElem? (i := 0) rfl))))))) rfl : Cond.code yX3_putAside cX3_putAside 5 none ∈ lw_g), ⟨by decide, by decide, by decide +kernel⟩, ⟨_, _, rfl⟩⟩
set_option maxRecDepth 100000 in
theorem cl_X3_175 : cv_ RX3 175 yX3_carryOut zX3_carryOut 3 4 := ⟨gi_V (lwq_5 (dqc_m (dqc_m (dqc_m (dqc_m (dqc_m (List.mem_of_getElem? (i := 3) rfl)))))) rfl : Cond.methodLink RX3 175 yX3_carryOut ∈ lw_g) (lwq_5 (dqc_m (dqa_m (dqa_m (dqa_m (List.mem_of_getElem? (i := 5) rfl))))) rfl : Cond.instanceMethod yX3_carryOut ∈ lw_g) (lwq_5 (dqc_m (dqa_m (dqa_m (dqa_m (List.mem_of_getElem? (i := 6) rfl))))) rfl : Cond.selects yX3_carryOut.cls yX3_carryOut yX3_carryOut ∈ lw_g) (lwq_1 (dqa_m (dqa_m (List.mem_of_getElem? (i := 2) rfl))) rfl : Cond.initialized yX3_carryOut.cls ∈ lw_g) (lwq_5 (dqc_m (dqa_m (dqa_m (dqa_m (List.mem_of_getElem? (i := 7) rfl))))) rfl : Cond.code yX3_carryOut cX3_carryOut 5 none ∈ lw_g), ⟨nmh_3.1, nmh_3.2, pdq_12⟩, ⟨_, _, rfl⟩⟩
set_option maxRecDepth 100000 in
theorem cl_X3_179_zX3_keepRow0 : cv_ RX3 179 yX3_keepRow zX3_keepRow0 3 4 := ⟨gi_V (lwq_5 (dqc_m (dqc_m (dqc_m (dqc_m (dqc_m (List.mem_of_getElem? (i := 4) rfl)))))) rfl : Cond.methodLink RX3 179 yX3_keepRow ∈ lw_g) (lwq_5 (dqc_m (dqc_m (dqc_m (dqc_m (List.mem_of_getElem? (i := 6) rfl))))) rfl : Cond.instanceMethod yX3_keepRow ∈ lw_g) (lwq_5 (dqc_m (dqc_m (dqc_m (dqc_m (List.mem_of_getElem? (i := 7) rfl))))) rfl : Cond.selects yX3_keepRow.cls yX3_keepRow yX3_keepRow ∈ lw_g) (lwq_1 (dqa_m (dqa_m (List.mem_of_getElem? (i := 2) rfl))) rfl : Cond.initialized yX3_keepRow.cls ∈ lw_g) (lwq_5 (dqc_m (dqc_m (dqc_m (dqc_m (dqa_m (List.mem_of_getElem? (i := 0) rfl)))))) rfl : Cond.code yX3_keepRow cX3_keepRow 5 none ∈ lw_g), ⟨nmh_3.1, nmh_3.2, pdq_12⟩, ⟨_, _, rfl⟩⟩
set_option maxRecDepth 100000 in
theorem cl_X3_168 : cv_ RX3 168 yX3_backToBeginning zX3_backToBeginning 3 0 := ⟨gi_V (lwq_5 (dqc_m (dqc_m (dqc_m (dqc_m (dqc_m (List.mem_of_getElem? (i := 1) rfl)))))) rfl : Cond.methodLink RX3 168 yX3_backToBeginning ∈ lw_g) (lwq_5 (dqa_m (List.mem_of_getElem? (i := 7) rfl)) rfl : Cond.instanceMethod yX3_backToBeginning ∈ lw_g) (lwq_5 (dqa_m (dqa_m (List.mem_of_getElem? (i := 0) rfl))) rfl : Cond.selects yX3_backToBeginning.cls yX3_backToBeginning yX3_backToBeginning ∈ lw_g) (lwq_1 (dqa_m (dqa_m (List.mem_of_getElem? (i := 2) rfl))) rfl : Cond.initialized yX3_backToBeginning.cls ∈ lw_g) (lwq_5 (dqa_m (dqa_m (List.mem_of_getElem? (i := 1) rfl))) rfl : Cond.code yX3_backToBeginning cX3_backToBeginning 3 none ∈ lw_g), ⟨nmh_3.1, nmh_3.2, pdq_1⟩, ⟨_, _, rfl⟩⟩
theorem oi_n {T T1 T2 : Zt} {p : Int} {k : Nat} (h : oi_ T T1 p) (e : ∀ k' i' j, ¬ (k' = k ∧ i' = p) → T2 k' i' j = T1 k' i' j) : oi_ T T2 p := fun k' i j hi => (e k' i j (fun q => hi q.2)).trans (h k' i j hi)
theorem oq_n {T T1 T2 : Zt} {p : Int} {k : Nat} (h : oq_ T T1 p) (e : ∀ k' i' j, ¬ (k' = k ∧ i' = p) → T2 k' i' j = T1 k' i' j) : oq_ T T2 p := fun k' i j hi a b => (e k' i j (fun q => hi q.2)).trans (h k' i j hi a b)
abbrev cX2_init : ByteArray := prog_4_method_1_code
def yX2_init : MethodName := ⟨RX2, "<init>", "(LSportsHouse$Competition;IIIII)V"⟩
def zX2_init : Zm := (RX2, cX2_init, 7, none, { frames := 1, cells := 2, slots := 23, locals := 30 })
theorem bk_X2_init_0 : ck_ fX2 none cX2_init 0 [.aload 0] 1 = true := qck_r (nn_ _) (by decide +kernel)
theorem bs_X2_init_0 {P : Zt → Option Zv → Prop} (K : Int → Zl → List Zv → Zt → Prop) : sx_ K P [.aload 0] 1 = x_aload 0 (K 1) := ((xe_aload 0).trans (congrArg (x_aload 0) xe_nil))
theorem bk_X2_init_4 : ck_ fX2 none cX2_init 4 [.aload 0, .iconst (-1)] 6 = true := qck_r (nn_ _) (by decide +kernel)
theorem bs_X2_init_4 {P : Zt → Option Zv → Prop} (K : Int → Zl → List Zv → Zt → Prop) : sx_ K P [.aload 0, .iconst (-1)] 6 = x_aload 0 (x_iconst (-1) (K 6)) := ((xe_aload 0).trans (congrArg (x_aload 0) ((xe_iconst (-1)).trans (congrArg (x_iconst (-1)) xe_nil))))
theorem fW_X2_9 : fW_ RX2 9 2 6 true := ⟨_, _, _, rfl, by decide, by decide, (lwq_4 (dqa_m (List.mem_of_getElem? (i := 3) rfl)) rfl : Cond.fieldLink RX2 9 _ _ _ ∈ lw_g), rfl, .int, by decide +kernel, (fun _ h => by cases h), fun _ _ => ⟨rfl, rfl⟩⟩
theorem bk_X2_init_9 : ck_ fX2 none cX2_init 9 [.aload 0, .iconst (-1)] 11 = true := qck_r (nn_ _) (by decide +kernel)
theorem bs_X2_init_9 {P : Zt → Option Zv → Prop} (K : Int → Zl → List Zv → Zt → Prop) : sx_ K P [.aload 0, .iconst (-1)] 11 = x_aload 0 (x_iconst (-1) (K 11)) := ((xe_aload 0).trans (congrArg (x_aload 0) ((xe_iconst (-1)).trans (congrArg (x_iconst (-1)) xe_nil))))
theorem fW_X2_15 : fW_ RX2 15 2 7 true := ⟨_, _, _, rfl, by decide, by decide, (lwq_4 (dqa_m (List.mem_of_getElem? (i := 6) rfl)) rfl : Cond.fieldLink RX2 15 _ _ _ ∈ lw_g), rfl, .int, by decide +kernel, (fun _ h => by cases h), fun _ _ => ⟨rfl, rfl⟩⟩
theorem bk_X2_init_14 : ck_ fX2 none cX2_init 14 [.aload 0, .iconst 20] 17 = true := qck_r (nn_ _) (by decide +kernel)
theorem bs_X2_init_14 {P : Zt → Option Zv → Prop} (K : Int → Zl → List Zv → Zt → Prop) : sx_ K P [.aload 0, .iconst 20] 17 = x_aload 0 (x_iconst 20 (K 17)) := ((xe_aload 0).trans (congrArg (x_aload 0) ((xe_iconst 20).trans (congrArg (x_iconst 20) xe_nil))))
theorem fW_X2_18 : fW_ RX2 18 2 8 false := ⟨_, _, _, rfl, by decide, by decide, (lwq_4 (dqa_m (dqa_m (List.mem_of_getElem? (i := 1) rfl))) rfl : Cond.fieldLink RX2 18 _ _ _ ∈ lw_g), rfl, .array .int, by decide +kernel, fun _ _ => ⟨rfl, rfl⟩, (fun _ h => by cases h)⟩
theorem bk_X2_init_22 : ck_ fX2 none cX2_init 22 [.aload 0, .iconst 2] 24 = true := qck_r (nn_ _) (by decide +kernel)
theorem bs_X2_init_22 {P : Zt → Option Zv → Prop} (K : Int → Zl → List Zv → Zt → Prop) : sx_ K P [.aload 0, .iconst 2] 24 = x_aload 0 (x_iconst 2 (K 24)) := ((xe_aload 0).trans (congrArg (x_aload 0) ((xe_iconst 2).trans (congrArg (x_iconst 2) xe_nil))))
theorem fW_X2_22 : fW_ RX2 22 2 9 false := ⟨_, _, _, rfl, by decide, by decide, (lwq_4 (dqa_m (dqa_m (List.mem_of_getElem? (i := 3) rfl))) rfl : Cond.fieldLink RX2 22 _ _ _ ∈ lw_g), rfl, .array .int, by decide +kernel, fun _ _ => ⟨rfl, rfl⟩, (fun _ h => by cases h)⟩
theorem bk_X2_init_29 : ck_ fX2 none cX2_init 29 [.aload 0, .aload 1] 31 = true := qck_r (nn_ _) (by decide +kernel)
theorem bs_X2_init_29 {P : Zt → Option Zv → Prop} (K : Int → Zl → List Zv → Zt → Prop) : sx_ K P [.aload 0, .aload 1] 31 = x_aload 0 (x_aload 1 (K 31)) := ((xe_aload 0).trans (congrArg (x_aload 0) ((xe_aload 1).trans (congrArg (x_aload 1) xe_nil))))
theorem fW_X2_25 : fW_ RX2 25 2 0 false := ⟨_, _, _, rfl, by decide, by decide, (lwq_3 (dqc_m (dqc_m (dqc_m (dqc_m (dqc_m (dqc_m (dqc_m (List.mem_of_getElem? (i := 2) rfl)))))))) rfl : Cond.fieldLink RX2 25 _ _ _ ∈ lw_g), rfl, .object "SportsHouse$Competition", by decide +kernel, fun _ _ => ⟨rfl, rfl⟩, (fun _ h => by cases h)⟩
theorem bk_X2_init_34 : ck_ fX2 none cX2_init 34 [.aload 0, .iload 2] 36 = true := qck_r (nn_ _) (by decide +kernel)
theorem bs_X2_init_34 {P : Zt → Option Zv → Prop} (K : Int → Zl → List Zv → Zt → Prop) : sx_ K P [.aload 0, .iload 2] 36 = x_aload 0 (x_iload 2 (K 36)) := ((xe_aload 0).trans (congrArg (x_aload 0) ((xe_iload 2).trans (congrArg (x_iload 2) xe_nil))))
theorem fW_X2_29 : fW_ RX2 29 2 1 true := ⟨_, _, _, rfl, by decide, by decide, (lwq_3 (dqc_m (dqc_m (dqc_m (dqc_m (dqc_m (dqc_m (dqc_m (List.mem_of_getElem? (i := 5) rfl)))))))) rfl : Cond.fieldLink RX2 29 _ _ _ ∈ lw_g), rfl, .int, by decide +kernel, (fun _ h => by cases h), fun _ _ => ⟨rfl, rfl⟩⟩
theorem bk_X2_init_39 : ck_ fX2 none cX2_init 39 [.aload 0, .iload 3] 41 = true := qck_r (nn_ _) (by decide +kernel)
theorem bs_X2_init_39 {P : Zt → Option Zv → Prop} (K : Int → Zl → List Zv → Zt → Prop) : sx_ K P [.aload 0, .iload 3] 41 = x_aload 0 (x_iload 3 (K 41)) := ((xe_aload 0).trans (congrArg (x_aload 0) ((xe_iload 3).trans (congrArg (x_iload 3) xe_nil))))
theorem fW_X2_32 : fW_ RX2 32 2 2 true := ⟨_, _, _, rfl, by decide, by decide, (lwq_3 (dqc_m (dqc_m (dqc_m (dqc_m (dqc_m (dqc_m (dqc_m (dqa_m (List.mem_of_getElem? (i := 0) rfl))))))))) rfl : Cond.fieldLink RX2 32 _ _ _ ∈ lw_g), rfl, .int, by decide +kernel, (fun _ h => by cases h), fun _ _ => ⟨rfl, rfl⟩⟩
theorem bk_X2_init_44 : ck_ fX2 none cX2_init 44 [.aload 0, .iload 4] 47 = true := qck_r (nn_ _) (by decide +kernel)
theorem bs_X2_init_44 {P : Zt → Option Zv → Prop} (K : Int → Zl → List Zv → Zt → Prop) : sx_ K P [.aload 0, .iload 4] 47 = x_aload 0 (x_iload 4 (K 47)) := ((xe_aload 0).trans (congrArg (x_aload 0) ((xe_iload 4).trans (congrArg (x_iload 4) xe_nil))))
theorem fW_X2_35 : fW_ RX2 35 2 3 true := ⟨_, _, _, rfl, by decide, by decide, (lwq_3 (dqc_m (dqc_m (dqc_m (dqc_m (dqc_m (dqc_m (dqc_m (dqa_m (List.mem_of_getElem? (i := 2) rfl))))))))) rfl : Cond.fieldLink RX2 35 _ _ _ ∈ lw_g), rfl, .int, by decide +kernel, (fun _ h => by cases h), fun _ _ => ⟨rfl, rfl⟩⟩
theorem bk_X2_init_50 : ck_ fX2 none cX2_init 50 [.aload 0, .iload 5] 53 = true := qck_r (nn_ _) (by decide +kernel)
theorem bs_X2_init_50 {P : Zt → Option Zv → Prop} (K : Int → Zl → List Zv → Zt → Prop) : sx_ K P [.aload 0, .iload 5] 53 = x_aload 0 (x_iload 5 (K 53)) := ((xe_aload 0).trans (congrArg (x_aload 0) ((xe_iload 5).trans (congrArg (x_iload 5) xe_nil))))
theorem fW_X2_38 : fW_ RX2 38 2 4 true := ⟨_, _, _, rfl, by decide, by decide, (lwq_4 (List.mem_of_getElem? (i := 0) rfl) rfl : Cond.fieldLink RX2 38 _ _ _ ∈ lw_g), rfl, .int, by decide +kernel, (fun _ h => by cases h), fun _ _ => ⟨rfl, rfl⟩⟩
theorem bk_X2_init_56 : ck_ fX2 none cX2_init 56 [.aload 0, .iload 6] 59 = true := qck_r (nn_ _) (by decide +kernel)
theorem bs_X2_init_56 {P : Zt → Option Zv → Prop} (K : Int → Zl → List Zv → Zt → Prop) : sx_ K P [.aload 0, .iload 6] 59 = x_aload 0 (x_iload 6 (K 59)) := ((xe_aload 0).trans (congrArg (x_aload 0) ((xe_iload 6).trans (congrArg (x_iload 6) xe_nil))))
theorem fW_X2_41 : fW_ RX2 41 2 5 true := ⟨_, _, _, rfl, by decide, by decide, (lwq_4 (List.mem_of_getElem? (i := 6) rfl) rfl : Cond.fieldLink RX2 41 _ _ _ ∈ lw_g), rfl, .int, by decide +kernel, (fun _ h => by cases h), fun _ _ => ⟨rfl, rfl⟩⟩
theorem bk_X2_init_62 : ck_ fX2 none cX2_init 62 [.return_] 63 = true := qck_r (nn_ _) (by decide +kernel)
theorem bs_X2_init_62 {P : Zt → Option Zv → Prop} (K : Int → Zl → List Zv → Zt → Prop) : sx_ K P [.return_] 63 = x_return_ P := (xe_return_)
abbrev po_X2_init (T : Zt) (n : Int) (c : Int) (m u h a d : Int) : Zt → Option Zv → Prop := fun T' r => r = none ∧ fr_ [(152, []), (448, []), (449, [])] T T' ∧ (oi_ T T' n ∧ (T' 152 n 0 = c + 1 ∧ T' 152 n 1 = m ∧ T' 152 n 2 = u ∧ T' 152 n 3 = h ∧ T' 152 n 4 = a ∧ T' 152 n 5 = d) ∧ (T' 152 n 6 = -1 ∧ T' 152 n 7 = -1 ∧ T' 152 n 8 = n + 1 ∧ T' 152 n 9 = n + 1 ∧ T' 152 n 10 = T 152 n 10) ∧ (∀ j, 0 ≤ j → T' 448 n j = 0) ∧ ∀ j, 0 ≤ j → T' 449 n j = 0)
set_option maxHeartbeats 4000000 in
theorem ct_X2_init {T : Zt} {n : Int} {c : Int} {m u h a d : Int} (h1 : 0 ≤ n ∧ n ≤ 399 ∧ 0 ≤ c ∧ c ≤ 3 ∧ 0 ≤ m ∧ m ≤ 399 ∧ 0 ≤ h ∧ h ≤ 11 ∧ 0 ≤ a ∧ a ≤ 11 ∧ 0 ≤ d ∧ d ≤ 999) (hf8 : ¬ T 448 n (-1) = 1) (hf9 : ¬ T 449 n (-1) = 1) : Ct_ yX2_init zX2_init T [vR 152 n, vR 100 c, vI m, vI u, vI h, vI a, vI d] (po_X2_init T n c m u h a d) := by
  refine ct_of pn_2 rfl rfl (Nat.le_of_ble_eq_true rfl) (fun hT hav => ?_)
  have hr_m : -2147483648 ≤ m ∧ m ≤ 2147483647 := hav (vI m) (List.mem_cons_of_mem _ (List.mem_cons_of_mem _ List.mem_cons_self))
  have hr_u : -2147483648 ≤ u ∧ u ≤ 2147483647 := hav (vI u) (List.mem_cons_of_mem _ (List.mem_cons_of_mem _ (List.mem_cons_of_mem _ List.mem_cons_self)))
  have hr_h : -2147483648 ≤ h ∧ h ≤ 2147483647 := hav (vI h) (List.mem_cons_of_mem _ (List.mem_cons_of_mem _ (List.mem_cons_of_mem _ (List.mem_cons_of_mem _ List.mem_cons_self))))
  have hr_a : -2147483648 ≤ a ∧ a ≤ 2147483647 := hav (vI a) (List.mem_cons_of_mem _ (List.mem_cons_of_mem _ (List.mem_cons_of_mem _ (List.mem_cons_of_mem _ (List.mem_cons_of_mem _ List.mem_cons_self)))))
  have hr_d : -2147483648 ≤ d ∧ d ≤ 2147483647 := hav (vI d) (List.mem_cons_of_mem _ (List.mem_cons_of_mem _ (List.mem_cons_of_mem _ (List.mem_cons_of_mem _ (List.mem_cons_of_mem _ (List.mem_cons_of_mem _ List.mem_cons_self))))))
  have hz : zX2_init.2.2.2.1 = some .boolean → ∀ (T' : Zt) (x : Int), po_X2_init T n c m u h a d T' (some (vI x)) → 0 ≤ x ∧ x ≤ 1 := fun h => by cases h
  have hth : T 152 n (-1) = 1 := ok_al (v := none) (by decide) (hav (vR 152 n) (by simp))
  show J_ zX2_init T (po_X2_init T n c m u h a d) 2 23 0 [some (vR 152 n), some (vR 100 c), some (vI m), some (vI u), some (vI h), some (vI a), some (vI d)] [] T
  refine j_blx (F := fX2) tb_X2 (nn_ _) bk_X2_init_0 bs_X2_init_0 hz (fun K hK => ?_)
  refine hK 1 _ [vR 152 n] T ?_
  refine j_objI (pc := 1) (lwq_3 (dqc_m (dqc_m (dqc_m (dqc_m (dqc_m (dqc_m (dqc_m (List.mem_of_getElem? (i := 1) rfl)))))))) rfl : Cond.methodLink RX2 3 Lib.objectInit ∈ lw_g) (lwq_1 (dqa_m (dqa_m (dqa_m (List.mem_of_getElem? (i := 3) rfl)))) rfl : Cond.instanceMethod Lib.objectInit ∈ lw_g) (lwq_1 (dqa_m (dqa_m (dqa_m (List.mem_of_getElem? (i := 4) rfl)))) rfl : Cond.code Lib.objectInit ⟨#[0xb1]⟩ 1 none ∈ lw_g) (by decide +kernel) (by decide) (by decide) (by decide) (by decide) ?_
  show J_ zX2_init T (po_X2_init T n c m u h a d) 2 23 4 _ [] T
  refine j_blx (F := fX2) tb_X2 (nn_ _) bk_X2_init_4 bs_X2_init_4 hz (fun K hK => ?_)
  refine hK 6 _ [vI (-1), vR 152 n] T ?_
  refine j_putW (pc := 6) (ci := 2) (j := 6) (z := (-1)) (by decide) (by decide) fW_X2_9 (by decide +kernel : (tf_ 152)[6]? = some (0, 0, (-1), 1)) (by decide) (by decide +kernel) rfl rfl (by omega) (by omega) ?_
  refine j_nm (fun U1 hU1 => ?_)
  have e2 := up_f hU1
  show J_ zX2_init T (po_X2_init T n c m u h a d) 2 23 9 _ [] U1
  refine j_blx (F := fX2) tb_X2 (nn_ _) bk_X2_init_9 bs_X2_init_9 hz (fun K hK => ?_)
  refine hK 11 _ [vI (-1), vR 152 n] U1 ?_
  refine j_putW (pc := 11) (ci := 2) (j := 7) (z := (-1)) (by decide) (by decide) fW_X2_15 (by decide +kernel : (tf_ 152)[7]? = some (0, 0, (-1), 7)) (by decide) (by decide +kernel) rfl rfl (by omega) (by omega) ?_
  refine j_nm (fun U3 hU3 => ?_)
  have e4 := up_f hU3
  show J_ zX2_init T (po_X2_init T n c m u h a d) 2 23 14 _ [] U3
  refine j_blx (F := fX2) tb_X2 (nn_ _) bk_X2_init_14 bs_X2_init_14 hz (fun K hK => ?_)
  refine hK 17 _ [vI 20, vR 152 n] U3 ?_
  have e6 : U3 448 n (-1) = T 448 n (-1) := (up_k hU3 (by exact Nat.ne_of_beq_eq_false rfl) n (-1)).trans (up_k hU1 (by exact Nat.ne_of_beq_eq_false rfl) n (-1))
  have e7 : U3 152 n (-1) = T 152 n (-1) := (up_j hU3 (by decide) 152 n).trans (up_j hU1 (by decide) 152 n)
  refine j_newI (bc' := 1) (bs' := 3) (pc := 17) (k := 448) (i := n) (by decide) (by decide +kernel : ta_ 448 = some (1, some 20, 0, 199)) (by decide) (by decide) (by show ¬ U3 448 n (-1) = 1; rw [e6]; exact hf8) (by omega) (by first | decide | omega) (by decide +kernel) (lwq_1 (dqc_m (dqc_m (dqa_m (List.mem_of_getElem? (i := 0) rfl)))) rfl : Cond.arrayClass .int ∈ lw_g) (fun o ho => by rw [show ow_ 448 = some 102 by decide] at ho; cases ho; exact Or.inr (show U3 152 n (-1) = 1 from (e7).trans hth)) ?_
  refine j_nm (fun U5 hU5 => ?_)
  have fU5 := nu_fr hU5
  have zU5 := nu_tz hU5
  have oU5 := nu_to hU5
  have vU5 := nu_tv hU5
  show J_ zX2_init T (po_X2_init T n c m u h a d) 1 3 19 _ [vR 448 n, vR 152 n] U5
  refine j_putW (pc := 19) (ci := 2) (j := 8) (z := n + 1) (by decide) (by decide) fW_X2_18 (by decide +kernel : (tf_ 152)[8]? = some (5, 448, (-2147483648), 2147483647)) (by decide) (by decide +kernel) (fv5_ (by omega)) rfl (by omega) (by omega) ?_
  refine j_nm (fun U8 hU8 => ?_)
  have e9 := up_f hU8
  show J_ zX2_init T (po_X2_init T n c m u h a d) 1 3 22 _ [] U8
  refine j_blx (F := fX2) tb_X2 (nn_ _) bk_X2_init_22 bs_X2_init_22 hz (fun K hK => ?_)
  refine hK 24 _ [vI 2, vR 152 n] U8 ?_
  have e11 : U8 449 n (-1) = T 449 n (-1) := (up_k hU8 (by exact Nat.ne_of_beq_eq_false rfl) n (-1)).trans ((fU5 449 n (-1) rfl).trans ((up_k hU3 (by exact Nat.ne_of_beq_eq_false rfl) n (-1)).trans (up_k hU1 (by exact Nat.ne_of_beq_eq_false rfl) n (-1))))
  have e12 : U8 152 n (-1) = T 152 n (-1) := (up_j hU8 (by decide) 152 n).trans ((fU5 152 n (-1) rfl).trans ((up_j hU3 (by decide) 152 n).trans (up_j hU1 (by decide) 152 n)))
  refine j_newI (bc' := 0) (bs' := 1) (pc := 24) (k := 449) (i := n) (by decide) (by decide +kernel : ta_ 449 = some (1, some 2, 0, 10)) (by decide) (by decide) (by show ¬ U8 449 n (-1) = 1; rw [e11]; exact hf9) (by omega) (by first | decide | omega) (by decide +kernel) (lwq_1 (dqc_m (dqc_m (dqa_m (List.mem_of_getElem? (i := 0) rfl)))) rfl : Cond.arrayClass .int ∈ lw_g) (fun o ho => by rw [show ow_ 449 = some 102 by decide] at ho; cases ho; exact Or.inr (show U8 152 n (-1) = 1 from (e12).trans hth)) ?_
  refine j_nm (fun U10 hU10 => ?_)
  have fU10 := nu_fr hU10
  have zU10 := nu_tz hU10
  have oU10 := nu_to hU10
  have vU10 := nu_tv hU10
  show J_ zX2_init T (po_X2_init T n c m u h a d) 0 1 26 _ [vR 449 n, vR 152 n] U10
  refine j_putW (pc := 26) (ci := 2) (j := 9) (z := n + 1) (by decide) (by decide) fW_X2_22 (by decide +kernel : (tf_ 152)[9]? = some (5, 449, (-2147483648), 2147483647)) (by decide) (by decide +kernel) (fv5_ (by omega)) rfl (by omega) (by omega) ?_
  refine j_nm (fun U13 hU13 => ?_)
  have e14 := up_f hU13
  show J_ zX2_init T (po_X2_init T n c m u h a d) 0 1 29 _ [] U13
  refine j_blx (F := fX2) tb_X2 (nn_ _) bk_X2_init_29 bs_X2_init_29 hz (fun K hK => ?_)
  refine hK 31 _ [vR 100 c, vR 152 n] U13 ?_
  refine j_putW (pc := 31) (ci := 2) (j := 0) (z := c + 1) (by decide) (by decide) fW_X2_25 (by decide +kernel : (tf_ 152)[0]? = some (5, 100, (-2147483648), 2147483647)) (by decide) (by decide +kernel) (fv5_ (by omega)) rfl (by omega) (by omega) ?_
  refine j_nm (fun U15 hU15 => ?_)
  have e16 := up_f hU15
  show J_ zX2_init T (po_X2_init T n c m u h a d) 0 1 34 _ [] U15
  refine j_blx (F := fX2) tb_X2 (nn_ _) bk_X2_init_34 bs_X2_init_34 hz (fun K hK => ?_)
  refine hK 36 _ [vI m, vR 152 n] U15 ?_
  refine j_putW (pc := 36) (ci := 2) (j := 1) (z := m) (by decide) (by decide) fW_X2_29 (by decide +kernel : (tf_ 152)[1]? = some (0, 0, 0, 399)) (by decide) (by decide +kernel) rfl rfl (by omega) (by omega) ?_
  refine j_nm (fun U17 hU17 => ?_)
  have e18 := up_f hU17
  show J_ zX2_init T (po_X2_init T n c m u h a d) 0 1 39 _ [] U17
  refine j_blx (F := fX2) tb_X2 (nn_ _) bk_X2_init_39 bs_X2_init_39 hz (fun K hK => ?_)
  refine hK 41 _ [vI u, vR 152 n] U17 ?_
  refine j_putW (pc := 41) (ci := 2) (j := 2) (z := u) (by decide) (by decide) fW_X2_32 (by decide +kernel : (tf_ 152)[2]? = some (0, 0, (-2147483648), 2147483647)) (by decide) (by decide +kernel) rfl rfl (by omega) (by omega) ?_
  refine j_nm (fun U19 hU19 => ?_)
  have e20 := up_f hU19
  show J_ zX2_init T (po_X2_init T n c m u h a d) 0 1 44 _ [] U19
  refine j_blx (F := fX2) tb_X2 (nn_ _) bk_X2_init_44 bs_X2_init_44 hz (fun K hK => ?_)
  refine hK 47 _ [vI h, vR 152 n] U19 ?_
  refine j_putW (pc := 47) (ci := 2) (j := 3) (z := h) (by decide) (by decide) fW_X2_35 (by decide +kernel : (tf_ 152)[3]? = some (0, 0, 0, 11)) (by decide) (by decide +kernel) rfl rfl (by omega) (by omega) ?_
  refine j_nm (fun U21 hU21 => ?_)
  have e22 := up_f hU21
  show J_ zX2_init T (po_X2_init T n c m u h a d) 0 1 50 _ [] U21
  refine j_blx (F := fX2) tb_X2 (nn_ _) bk_X2_init_50 bs_X2_init_50 hz (fun K hK => ?_)
  refine hK 53 _ [vI a, vR 152 n] U21 ?_
  refine j_putW (pc := 53) (ci := 2) (j := 4) (z := a) (by decide) (by decide) fW_X2_38 (by decide +kernel : (tf_ 152)[4]? = some (0, 0, 0, 11)) (by decide) (by decide +kernel) rfl rfl (by omega) (by omega) ?_
  refine j_nm (fun U23 hU23 => ?_)
  have e24 := up_f hU23
  show J_ zX2_init T (po_X2_init T n c m u h a d) 0 1 56 _ [] U23
  refine j_blx (F := fX2) tb_X2 (nn_ _) bk_X2_init_56 bs_X2_init_56 hz (fun K hK => ?_)
  refine hK 59 _ [vI d, vR 152 n] U23 ?_
  refine j_putW (pc := 59) (ci := 2) (j := 5) (z := d) (by decide) (by decide) fW_X2_41 (by decide +kernel : (tf_ 152)[5]? = some (0, 0, 0, 999)) (by decide) (by decide +kernel) rfl rfl (by omega) (by omega) ?_
  refine j_nm (fun U25 hU25 => ?_)
  have e26 := up_f hU25
  show J_ zX2_init T (po_X2_init T n c m u h a d) 0 1 62 _ [] U25
  refine j_blx (F := fX2) tb_X2 (nn_ _) bk_X2_init_62 bs_X2_init_62 hz (fun K hK => ?_)
  refine (show po_X2_init T n c m u h a d U25 (none) from ?_)
  have e27 : U25 152 n 0 = c + 1 := (up_j hU25 (by decide) 152 n).trans ((up_j hU23 (by decide) 152 n).trans ((up_j hU21 (by decide) 152 n).trans ((up_j hU19 (by decide) 152 n).trans ((up_j hU17 (by decide) 152 n).trans (up_f hU15)))))
  have e28 : U25 152 n 1 = m := (up_j hU25 (by decide) 152 n).trans ((up_j hU23 (by decide) 152 n).trans ((up_j hU21 (by decide) 152 n).trans ((up_j hU19 (by decide) 152 n).trans (up_f hU17))))
  have e29 : U25 152 n 2 = u := (up_j hU25 (by decide) 152 n).trans ((up_j hU23 (by decide) 152 n).trans ((up_j hU21 (by decide) 152 n).trans (up_f hU19)))
  have e30 : U25 152 n 3 = h := (up_j hU25 (by decide) 152 n).trans ((up_j hU23 (by decide) 152 n).trans (up_f hU21))
  have e31 : U25 152 n 4 = a := (up_j hU25 (by decide) 152 n).trans (up_f hU23)
  have e32 : U25 152 n 5 = d := up_f hU25
  have e33 : U25 152 n 6 = (-1) := (up_j hU25 (by decide) 152 n).trans ((up_j hU23 (by decide) 152 n).trans ((up_j hU21 (by decide) 152 n).trans ((up_j hU19 (by decide) 152 n).trans ((up_j hU17 (by decide) 152 n).trans ((up_j hU15 (by decide) 152 n).trans ((up_j hU13 (by decide) 152 n).trans ((fU10 152 n 6 rfl).trans ((up_j hU8 (by decide) 152 n).trans ((fU5 152 n 6 rfl).trans ((up_j hU3 (by decide) 152 n).trans (up_f hU1)))))))))))
  have e34 : U25 152 n 7 = (-1) := (up_j hU25 (by decide) 152 n).trans ((up_j hU23 (by decide) 152 n).trans ((up_j hU21 (by decide) 152 n).trans ((up_j hU19 (by decide) 152 n).trans ((up_j hU17 (by decide) 152 n).trans ((up_j hU15 (by decide) 152 n).trans ((up_j hU13 (by decide) 152 n).trans ((fU10 152 n 7 rfl).trans ((up_j hU8 (by decide) 152 n).trans ((fU5 152 n 7 rfl).trans (up_f hU3))))))))))
  have e35 : U25 152 n 8 = n + 1 := (up_j hU25 (by decide) 152 n).trans ((up_j hU23 (by decide) 152 n).trans ((up_j hU21 (by decide) 152 n).trans ((up_j hU19 (by decide) 152 n).trans ((up_j hU17 (by decide) 152 n).trans ((up_j hU15 (by decide) 152 n).trans ((up_j hU13 (by decide) 152 n).trans ((fU10 152 n 8 rfl).trans (up_f hU8))))))))
  have e36 : U25 152 n 9 = n + 1 := (up_j hU25 (by decide) 152 n).trans ((up_j hU23 (by decide) 152 n).trans ((up_j hU21 (by decide) 152 n).trans ((up_j hU19 (by decide) 152 n).trans ((up_j hU17 (by decide) 152 n).trans ((up_j hU15 (by decide) 152 n).trans (up_f hU13))))))
  have e37 : U25 152 n 10 = T 152 n 10 := (up_j hU25 (by decide) 152 n).trans ((up_j hU23 (by decide) 152 n).trans ((up_j hU21 (by decide) 152 n).trans ((up_j hU19 (by decide) 152 n).trans ((up_j hU17 (by decide) 152 n).trans ((up_j hU15 (by decide) 152 n).trans ((up_j hU13 (by decide) 152 n).trans ((fU10 152 n 10 rfl).trans ((up_j hU8 (by decide) 152 n).trans ((fU5 152 n 10 rfl).trans ((up_j hU3 (by decide) 152 n).trans (up_j hU1 (by decide) 152 n)))))))))))
  exact ⟨rfl, fr_u (fr_u (fr_u (fr_u (fr_u (fr_u (fr_u (fr_t (fr_u (fr_t (fr_u (fr_u (fr_0 _ _) hU1 rfl) hU3 rfl) (fr_s fU5 rfl)) hU8 rfl) (fr_s fU10 rfl)) hU13 rfl) hU15 rfl) hU17 rfl) hU19 rfl) hU21 rfl) hU23 rfl) hU25 rfl, oi_u (oi_u (oi_u (oi_u (oi_u (oi_u (oi_u (oi_n (oi_u (oi_n (oi_u (oi_u (oi_r) hU1) hU3) oU5) hU8) oU10) hU13) hU15) hU17) hU19) hU21) hU23) hU25, by omega, by omega, fun j hj => ((up_k hU25 (by exact Nat.ne_of_beq_eq_false rfl) _ _).trans ((up_k hU23 (by exact Nat.ne_of_beq_eq_false rfl) _ _).trans ((up_k hU21 (by exact Nat.ne_of_beq_eq_false rfl) _ _).trans ((up_k hU19 (by exact Nat.ne_of_beq_eq_false rfl) _ _).trans ((up_k hU17 (by exact Nat.ne_of_beq_eq_false rfl) _ _).trans ((up_k hU15 (by exact Nat.ne_of_beq_eq_false rfl) _ _).trans ((up_k hU13 (by exact Nat.ne_of_beq_eq_false rfl) _ _).trans ((fU10 448 _ _ rfl).trans (up_k hU8 (by exact Nat.ne_of_beq_eq_false rfl) _ _))))))))).trans (zU5 _ (by omega)), fun j hj => ((up_k hU25 (by exact Nat.ne_of_beq_eq_false rfl) _ _).trans ((up_k hU23 (by exact Nat.ne_of_beq_eq_false rfl) _ _).trans ((up_k hU21 (by exact Nat.ne_of_beq_eq_false rfl) _ _).trans ((up_k hU19 (by exact Nat.ne_of_beq_eq_false rfl) _ _).trans ((up_k hU17 (by exact Nat.ne_of_beq_eq_false rfl) _ _).trans ((up_k hU15 (by exact Nat.ne_of_beq_eq_false rfl) _ _).trans (up_k hU13 (by exact Nat.ne_of_beq_eq_false rfl) _ _))))))).trans (zU10 _ (by omega))⟩
abbrev po_J7_fill_404 (T : Zt) (p : Int) (v : Int) : Zt → Option Zv → Prop := fun T' r => r = none ∧ fr_ [(404, [])] T T' ∧ oi_ T T' p ∧ ∀ j, 0 ≤ j → j < 12 → T' 404 p j = v
set_option maxHeartbeats 4000000 in
theorem ct_J7_fill_404 {T : Zt} {p : Int} {v : Int} (h1 : (-1) ≤ v ∧ v ≤ 11) : Ct_ yJ7_fill_53178 zJ7_fill_53178 T [vR 404 p, vI v] (po_J7_fill_404 T p v) := by
  refine ct_of (by decide) rfl rfl (Nat.le_of_ble_eq_true rfl) (fun hT hav => ?_)
  have hr_v : -2147483648 ≤ v ∧ v ≤ 2147483647 := hav (vI v) (List.mem_cons_of_mem _ List.mem_cons_self)
  have hz : zJ7_fill_53178.2.2.2.1 = some .boolean → ∀ (T' : Zt) (x : Int), po_J7_fill_404 T p v T' (some (vI x)) → 0 ≤ x ∧ x ≤ 1 := fun h => by cases h
  show J_ zJ7_fill_53178 T (po_J7_fill_404 T p v) 0 0 0 [some (vR 404 p), some (vI v), none, none] [] T
  have c_5 : ∀ (nn : Nat) (j : Int) (T1 : Zt), ((12 - j).toNat) ≤ nn → (fr_ [(404, [])] T T1) → (0 ≤ j ∧ j ≤ 12) → (oi_ T T1 p) → (∀ q, 0 ≤ q → q < j → T1 404 p q = v) → J_ zJ7_fill_53178 T (po_J7_fill_404 T p v) 0 0 5 [some (vR 404 p), some (vI v), some (vI j), some (vI 12)] [] T1 := by
    intro nn
    induction nn using Nat.strongRecOn with
    | _ nn ih_5 =>
      intro j T1 hm_5 hf_5 i1 o1 f1
      replace hm_5 := fun (_ : Unit) => hm_5
      refine j_blx (F := fJ7) tb_J7 (nn_ _) bk_J7_fill_53178_5 bs_J7_fill_53178_5 hz (fun K hK => ?_)
      refine And.intro (fun c1 => ?_) (fun c1 => ?_)
      · refine hK 20 _ [] T1 ?_
        refine j_blx (F := fJ7) tb_J7 (nn_ _) bk_J7_fill_53178_20 bs_J7_fill_53178_20 hz (fun K hK => ?_)
        refine (show po_J7_fill_404 T p v T1 (none) from ?_)
        exact ⟨rfl, fr_t (fr_0 _ _) (fr_s hf_5 rfl), o1, fun q a b => f1 q a (by omega)⟩
      · refine iy_i (by omega) (by omega) ?_
        refine x_nm (fun U2 hU2 => ?_)
        have e3 := up_f hU2
        refine rg_i (by omega) ?_
        refine hK 5 [some (vR 404 p), some (vI v), some (vI (j + 1)), some (vI 12)] [] U2 ?_
        refine ih_5 _ ?_ (j + 1) U2 (Nat.le_refl _) ?_ ?_ ?_ ?_
        · have hm_5 := hm_5 (); omega
        · exact fr_u (fr_t (fr_0 _ _) (fr_s hf_5 rfl)) hU2 rfl
        · omega
        · exact oi_u o1 hU2
        · intro q a b
          by_cases z : q = j
          · rw [z]; exact up_f hU2
          · rw [up_g hU2 (fun y => z y.2.2)]; exact f1 q a (by omega)
  refine j_blx (F := fJ7) tb_J7 (nn_ _) bk_J7_fill_53178_0 bs_J7_fill_53178_0 hz (fun K hK => ?_)
  refine hK 5 [some (vR 404 p), some (vI v), some (vI 0), some (vI 12)] [] T ?_
  refine c_5 _ 0 T (Nat.le_refl _) ?_ ?_ ?_ ?_
  · exact fr_0 _ _
  · omega
  · exact oi_r
  · intro q a b; omega
abbrev cX0_init : ByteArray := prog_2_method_1_code
def yX0_init : MethodName := ⟨RX0, "<init>", "(I[I[I)V"⟩
def zX0_init : Zm := (RX0, cX0_init, 4, none, { frames := 1, cells := 2, slots := 25, locals := 30 })
theorem bk_X0_init_0 : ck_ fX0 none cX0_init 0 [.aload 0] 1 = true := qck_r (nn_ _) (by decide +kernel)
theorem bs_X0_init_0 {P : Zt → Option Zv → Prop} (K : Int → Zl → List Zv → Zt → Prop) : sx_ K P [.aload 0] 1 = x_aload 0 (K 1) := ((xe_aload 0).trans (congrArg (x_aload 0) xe_nil))
theorem bk_X0_init_4 : ck_ fX0 none cX0_init 4 [.aload 0, .iconst 12] 7 = true := qck_r (nn_ _) (by decide +kernel)
theorem bs_X0_init_4 {P : Zt → Option Zv → Prop} (K : Int → Zl → List Zv → Zt → Prop) : sx_ K P [.aload 0, .iconst 12] 7 = x_aload 0 (x_iconst 12 (K 7)) := ((xe_aload 0).trans (congrArg (x_aload 0) ((xe_iconst 12).trans (congrArg (x_iconst 12) xe_nil))))
theorem fW_X0_9 : fW_ RX0 9 0 3 false := ⟨_, _, _, rfl, by decide, by decide, (lwq_3 (dqc_m (dqc_m (dqa_m (dqa_m (dqa_m (List.mem_of_getElem? (i := 3) rfl)))))) rfl : Cond.fieldLink RX0 9 _ _ _ ∈ lw_g), rfl, .array .int, by decide +kernel, fun _ _ => ⟨rfl, rfl⟩, (fun _ h => by cases h)⟩
theorem bk_X0_init_12 : ck_ fX0 none cX0_init 12 [.aload 0, .iconst 12] 15 = true := qck_r (nn_ _) (by decide +kernel)
theorem bs_X0_init_12 {P : Zt → Option Zv → Prop} (K : Int → Zl → List Zv → Zt → Prop) : sx_ K P [.aload 0, .iconst 12] 15 = x_aload 0 (x_iconst 12 (K 15)) := ((xe_aload 0).trans (congrArg (x_aload 0) ((xe_iconst 12).trans (congrArg (x_iconst 12) xe_nil))))
theorem fW_X0_15 : fW_ RX0 15 0 4 false := ⟨_, _, _, rfl, by decide, by decide, (lwq_3 (dqc_m (dqc_m (dqc_m (List.mem_of_getElem? (i := 0) rfl)))) rfl : Cond.fieldLink RX0 15 _ _ _ ∈ lw_g), rfl, .array .int, by decide +kernel, fun _ _ => ⟨rfl, rfl⟩, (fun _ h => by cases h)⟩
theorem bk_X0_init_20 : ck_ fX0 none cX0_init 20 [.aload 0, .iload 1] 22 = true := qck_r (nn_ _) (by decide +kernel)
theorem bs_X0_init_20 {P : Zt → Option Zv → Prop} (K : Int → Zl → List Zv → Zt → Prop) : sx_ K P [.aload 0, .iload 1] 22 = x_aload 0 (x_iload 1 (K 22)) := ((xe_aload 0).trans (congrArg (x_aload 0) ((xe_iload 1).trans (congrArg (x_iload 1) xe_nil))))
theorem fW_X0_18 : fW_ RX0 18 0 0 true := ⟨_, _, _, rfl, by decide, by decide, (lwq_3 (dqc_m (dqc_m (dqa_m (List.mem_of_getElem? (i := 7) rfl)))) rfl : Cond.fieldLink RX0 18 _ _ _ ∈ lw_g), rfl, .int, by decide +kernel, (fun _ h => by cases h), fun _ _ => ⟨rfl, rfl⟩⟩
theorem bk_X0_init_25 : ck_ fX0 none cX0_init 25 [.aload 0, .aload 2] 27 = true := qck_r (nn_ _) (by decide +kernel)
theorem bs_X0_init_25 {P : Zt → Option Zv → Prop} (K : Int → Zl → List Zv → Zt → Prop) : sx_ K P [.aload 0, .aload 2] 27 = x_aload 0 (x_aload 2 (K 27)) := ((xe_aload 0).trans (congrArg (x_aload 0) ((xe_aload 2).trans (congrArg (x_aload 2) xe_nil))))
theorem fW_X0_22 : fW_ RX0 22 0 1 false := ⟨_, _, _, rfl, by decide, by decide, (lwq_3 (dqc_m (dqc_m (dqa_m (dqa_m (List.mem_of_getElem? (i := 2) rfl))))) rfl : Cond.fieldLink RX0 22 _ _ _ ∈ lw_g), rfl, .array .int, by decide +kernel, fun _ _ => ⟨rfl, rfl⟩, (fun _ h => by cases h)⟩
theorem bk_X0_init_30 : ck_ fX0 none cX0_init 30 [.aload 0, .aload 3] 32 = true := qck_r (nn_ _) (by decide +kernel)
theorem bs_X0_init_30 {P : Zt → Option Zv → Prop} (K : Int → Zl → List Zv → Zt → Prop) : sx_ K P [.aload 0, .aload 3] 32 = x_aload 0 (x_aload 3 (K 32)) := ((xe_aload 0).trans (congrArg (x_aload 0) ((xe_aload 3).trans (congrArg (x_aload 3) xe_nil))))
theorem fW_X0_25 : fW_ RX0 25 0 2 false := ⟨_, _, _, rfl, by decide, by decide, (lwq_3 (dqc_m (dqc_m (dqa_m (dqa_m (dqa_m (List.mem_of_getElem? (i := 0) rfl)))))) rfl : Cond.fieldLink RX0 25 _ _ _ ∈ lw_g), rfl, .array .int, by decide +kernel, fun _ _ => ⟨rfl, rfl⟩, (fun _ h => by cases h)⟩
theorem bk_X0_init_35 : ck_ fX0 none cX0_init 35 [.aload 0] 36 = true := qck_r (nn_ _) (by decide +kernel)
theorem bs_X0_init_35 {P : Zt → Option Zv → Prop} (K : Int → Zl → List Zv → Zt → Prop) : sx_ K P [.aload 0] 36 = x_aload 0 (K 36) := ((xe_aload 0).trans (congrArg (x_aload 0) xe_nil))
theorem bk_X0_init_39 : ck_ fX0 none cX0_init 39 [.iconst (-1)] 40 = true := qck_r (nn_ _) (by decide +kernel)
theorem bs_X0_init_39 {P : Zt → Option Zv → Prop} (K : Int → Zl → List Zv → Zt → Prop) : sx_ K P [.iconst (-1)] 40 = x_iconst (-1) (K 40) := ((xe_iconst (-1)).trans (congrArg (x_iconst (-1)) xe_nil))
set_option maxRecDepth 100000 in
theorem cl_X0_28 : cs_ RX0 28 yJ7_fill_53178 zJ7_fill_53178 2 := ⟨gi_S (lwq_3 (dqc_m (dqc_m (dqa_m (List.mem_of_getElem? (i := 6) rfl)))) rfl : Cond.methodLink RX0 28 yJ7_fill_53178 ∈ lw_g) (lwq_2 (dqa_m (dqa_m (dqa_m (List.mem_of_getElem? (i := 2) rfl)))) rfl : Cond.static yJ7_fill_53178 ∈ lw_g) (lwq_1 (List.mem_of_getElem? (i := 7) rfl) rfl : Cond.initialized yJ7_fill_53178.cls ∈ lw_g) (lwq_2 (dqa_m (dqa_m (dqa_m (List.mem_of_getElem? (i := 3) rfl)))) rfl : Cond.code yJ7_fill_53178 cJ7_fill_53178 4 none ∈ lw_g), ⟨by decide, by decide, by decide +kernel⟩⟩
theorem bk_X0_init_43 : ck_ fX0 none cX0_init 43 [.return_] 44 = true := qck_r (nn_ _) (by decide +kernel)
theorem bs_X0_init_43 {P : Zt → Option Zv → Prop} (K : Int → Zl → List Zv → Zt → Prop) : sx_ K P [.return_] 44 = x_return_ P := (xe_return_)
abbrev po_X0_init (T : Zt) (n : Int) (m : Int) : Zt → Option Zv → Prop := fun T' r => r = none ∧ fr_ [(150, []), (403, []), (404, [])] T T' ∧ (oi_ T T' n ∧ (T' 150 n 0 = m ∧ T' 150 n 1 = n + 1 ∧ T' 150 n 2 = n + 1 ∧ T' 150 n 3 = n + 1 ∧ T' 150 n 4 = n + 1) ∧ (T' 150 n 5 = T 150 n 5 ∧ T' 150 n 6 = T 150 n 6 ∧ T' 150 n 7 = T 150 n 7 ∧ T' 150 n 8 = T 150 n 8) ∧ ∀ j, 0 ≤ j → j < 12 → T' 404 n j = -1)
set_option maxHeartbeats 4000000 in
theorem ct_X0_init {T : Zt} {n : Int} {m : Int} (h1 : 0 ≤ n ∧ n ≤ 3 ∧ 0 ≤ m ∧ m ≤ 3) (hf3 : ¬ T 403 n (-1) = 1) (hf4 : ¬ T 404 n (-1) = 1) : Ct_ yX0_init zX0_init T [vR 150 n, vI m, vR 401 n, vR 402 n] (po_X0_init T n m) := by
  refine ct_of pn_0 rfl rfl (Nat.le_of_ble_eq_true rfl) (fun hT hav => ?_)
  have hr_m : -2147483648 ≤ m ∧ m ≤ 2147483647 := hav (vI m) (List.mem_cons_of_mem _ List.mem_cons_self)
  have hz : zX0_init.2.2.2.1 = some .boolean → ∀ (T' : Zt) (x : Int), po_X0_init T n m T' (some (vI x)) → 0 ≤ x ∧ x ≤ 1 := fun h => by cases h
  have hth : T 150 n (-1) = 1 := ok_al (v := none) (by decide) (hav (vR 150 n) (by simp))
  show J_ zX0_init T (po_X0_init T n m) 2 25 0 [some (vR 150 n), some (vI m), some (vR 401 n), some (vR 402 n)] [] T
  refine j_blx (F := fX0) tb_X0 (nn_ _) bk_X0_init_0 bs_X0_init_0 hz (fun K hK => ?_)
  refine hK 1 _ [vR 150 n] T ?_
  refine j_objI (pc := 1) (lwq_3 (dqc_m (dqc_m (dqa_m (List.mem_of_getElem? (i := 5) rfl)))) rfl : Cond.methodLink RX0 3 Lib.objectInit ∈ lw_g) (lwq_1 (dqa_m (dqa_m (dqa_m (List.mem_of_getElem? (i := 3) rfl)))) rfl : Cond.instanceMethod Lib.objectInit ∈ lw_g) (lwq_1 (dqa_m (dqa_m (dqa_m (List.mem_of_getElem? (i := 4) rfl)))) rfl : Cond.code Lib.objectInit ⟨#[0xb1]⟩ 1 none ∈ lw_g) (by decide +kernel) (by decide) (by decide) (by decide) (by decide) ?_
  show J_ zX0_init T (po_X0_init T n m) 2 25 4 _ [] T
  refine j_blx (F := fX0) tb_X0 (nn_ _) bk_X0_init_4 bs_X0_init_4 hz (fun K hK => ?_)
  refine hK 7 _ [vI 12, vR 150 n] T ?_
  refine j_newI (bc' := 1) (bs' := 13) (pc := 7) (k := 403) (i := n) (by decide) (by decide +kernel : ta_ 403 = some (1, some 12, 0, 11)) (by decide) (by decide) (hf3) (by omega) (by first | decide | omega) (by decide +kernel) (lwq_1 (dqc_m (dqc_m (dqa_m (List.mem_of_getElem? (i := 0) rfl)))) rfl : Cond.arrayClass .int ∈ lw_g) (fun o ho => by rw [show ow_ 403 = some 100 by decide] at ho; cases ho; exact Or.inr (show T 150 n (-1) = 1 from hth)) ?_
  refine j_nm (fun U1 hU1 => ?_)
  have fU1 := nu_fr hU1
  have zU1 := nu_tz hU1
  have oU1 := nu_to hU1
  have vU1 := nu_tv hU1
  show J_ zX0_init T (po_X0_init T n m) 1 13 9 _ [vR 403 n, vR 150 n] U1
  refine j_putW (pc := 9) (ci := 0) (j := 3) (z := n + 1) (by decide) (by decide) fW_X0_9 (by decide +kernel : (tf_ 150)[3]? = some (5, 403, (-2147483648), 2147483647)) (by decide) (by decide +kernel) (fv5_ (by omega)) rfl (by omega) (by omega) ?_
  refine j_nm (fun U2 hU2 => ?_)
  have e3 := up_f hU2
  show J_ zX0_init T (po_X0_init T n m) 1 13 12 _ [] U2
  refine j_blx (F := fX0) tb_X0 (nn_ _) bk_X0_init_12 bs_X0_init_12 hz (fun K hK => ?_)
  refine hK 15 _ [vI 12, vR 150 n] U2 ?_
  have e5 : U2 404 n (-1) = T 404 n (-1) := (up_k hU2 (by exact Nat.ne_of_beq_eq_false rfl) n (-1)).trans (fU1 404 n (-1) rfl)
  have e6 : U2 150 n (-1) = T 150 n (-1) := (up_j hU2 (by decide) 150 n).trans (fU1 150 n (-1) rfl)
  refine j_newI (bc' := 0) (bs' := 1) (pc := 15) (k := 404) (i := n) (by decide) (by decide +kernel : ta_ 404 = some (1, some 12, (-1), 11)) (by decide) (by decide) (by show ¬ U2 404 n (-1) = 1; rw [e5]; exact hf4) (by omega) (by first | decide | omega) (by decide +kernel) (lwq_1 (dqc_m (dqc_m (dqa_m (List.mem_of_getElem? (i := 0) rfl)))) rfl : Cond.arrayClass .int ∈ lw_g) (fun o ho => by rw [show ow_ 404 = some 100 by decide] at ho; cases ho; exact Or.inr (show U2 150 n (-1) = 1 from (e6).trans hth)) ?_
  refine j_nm (fun U4 hU4 => ?_)
  have fU4 := nu_fr hU4
  have zU4 := nu_tz hU4
  have oU4 := nu_to hU4
  have vU4 := nu_tv hU4
  show J_ zX0_init T (po_X0_init T n m) 0 1 17 _ [vR 404 n, vR 150 n] U4
  refine j_putW (pc := 17) (ci := 0) (j := 4) (z := n + 1) (by decide) (by decide) fW_X0_15 (by decide +kernel : (tf_ 150)[4]? = some (5, 404, (-2147483648), 2147483647)) (by decide) (by decide +kernel) (fv5_ (by omega)) rfl (by omega) (by omega) ?_
  refine j_nm (fun U7 hU7 => ?_)
  have e8 := up_f hU7
  show J_ zX0_init T (po_X0_init T n m) 0 1 20 _ [] U7
  refine j_blx (F := fX0) tb_X0 (nn_ _) bk_X0_init_20 bs_X0_init_20 hz (fun K hK => ?_)
  refine hK 22 _ [vI m, vR 150 n] U7 ?_
  refine j_putW (pc := 22) (ci := 0) (j := 0) (z := m) (by decide) (by decide) fW_X0_18 (by decide +kernel : (tf_ 150)[0]? = some (0, 0, 0, 3)) (by decide) (by decide +kernel) rfl rfl (by omega) (by omega) ?_
  refine j_nm (fun U9 hU9 => ?_)
  have e10 := up_f hU9
  show J_ zX0_init T (po_X0_init T n m) 0 1 25 _ [] U9
  refine j_blx (F := fX0) tb_X0 (nn_ _) bk_X0_init_25 bs_X0_init_25 hz (fun K hK => ?_)
  refine hK 27 _ [vR 401 n, vR 150 n] U9 ?_
  refine j_putW (pc := 27) (ci := 0) (j := 1) (z := n + 1) (by decide) (by decide) fW_X0_22 (by decide +kernel : (tf_ 150)[1]? = some (5, 401, (-2147483648), 2147483647)) (by decide) (by decide +kernel) (fv5_ (by omega)) rfl (by omega) (by omega) ?_
  refine j_nm (fun U11 hU11 => ?_)
  have e12 := up_f hU11
  show J_ zX0_init T (po_X0_init T n m) 0 1 30 _ [] U11
  refine j_blx (F := fX0) tb_X0 (nn_ _) bk_X0_init_30 bs_X0_init_30 hz (fun K hK => ?_)
  refine hK 32 _ [vR 402 n, vR 150 n] U11 ?_
  refine j_putW (pc := 32) (ci := 0) (j := 2) (z := n + 1) (by decide) (by decide) fW_X0_25 (by decide +kernel : (tf_ 150)[2]? = some (5, 402, (-2147483648), 2147483647)) (by decide) (by decide +kernel) (fv5_ (by omega)) rfl (by omega) (by omega) ?_
  refine j_nm (fun U13 hU13 => ?_)
  have e14 := up_f hU13
  show J_ zX0_init T (po_X0_init T n m) 0 1 35 _ [] U13
  refine j_blx (F := fX0) tb_X0 (nn_ _) bk_X0_init_35 bs_X0_init_35 hz (fun K hK => ?_)
  refine hK 36 _ [vR 150 n] U13 ?_
  have e15 : U13 150 n 4 = n + 1 := (up_j hU13 (by decide) 150 n).trans ((up_j hU11 (by decide) 150 n).trans ((up_j hU9 (by decide) 150 n).trans (up_f hU7)))
  refine j_getW (pc := 36) (ci := 0) (j := 4) (v := vR 404 n) (by decide) (by decide) vi_0 (by decide) (lwq_3 (dqc_m (dqc_m (dqc_m (List.mem_of_getElem? (i := 0) rfl)))) rfl : Cond.fieldLink RX0 15 _ _ _ ∈ lw_g) (by decide +kernel : (tf_ 150)[4]? = some (5, 404, (-2147483648), 2147483647)) (by decide +kernel) (by rw [show (((4 : Nat) : Int)) = 4 from rfl, e15]; exact fv5_ (by omega)) ?_
  show J_ zX0_init T (po_X0_init T n m) 0 1 39 _ [vR 404 n] U13
  refine j_blx (F := fX0) tb_X0 (nn_ _) bk_X0_init_39 bs_X0_init_39 hz (fun K hK => ?_)
  refine hK 40 _ [vI (-1), vR 404 n] U13 ?_
  refine j_callS (y := yJ7_fill_53178) (Yc := zJ7_fill_53178) (rest := []) [vR 404 n, vI (-1)] (ct_J7_fill_404 (T := U13) (by omega)) cl_X0_28 (qd_c (by decide +kernel)) (nn_ _) rfl (rf_of rfl) (Nat.le_of_ble_eq_true rfl) (Nat.le_of_ble_eq_true rfl) (Nat.le_of_ble_eq_true rfl) rfl ?_
  rintro U16 _ ⟨rfl, fU16, qU16o, qU16⟩
  show J_ zX0_init T (po_X0_init T n m) 0 1 43 _ [] U16
  refine j_blx (F := fX0) tb_X0 (nn_ _) bk_X0_init_43 bs_X0_init_43 hz (fun K hK => ?_)
  refine (show po_X0_init T n m U16 (none) from ?_)
  have e17 : U16 150 n 0 = m := (fU16 150 n 0 rfl).trans ((up_j hU13 (by decide) 150 n).trans ((up_j hU11 (by decide) 150 n).trans (up_f hU9)))
  have e18 : U16 150 n 1 = n + 1 := (fU16 150 n 1 rfl).trans ((up_j hU13 (by decide) 150 n).trans (up_f hU11))
  have e19 : U16 150 n 2 = n + 1 := (fU16 150 n 2 rfl).trans (up_f hU13)
  have e20 : U16 150 n 3 = n + 1 := (fU16 150 n 3 rfl).trans ((up_j hU13 (by decide) 150 n).trans ((up_j hU11 (by decide) 150 n).trans ((up_j hU9 (by decide) 150 n).trans ((up_j hU7 (by decide) 150 n).trans ((fU4 150 n 3 rfl).trans (up_f hU2))))))
  have e21 : U16 150 n 4 = n + 1 := (fU16 150 n 4 rfl).trans ((up_j hU13 (by decide) 150 n).trans ((up_j hU11 (by decide) 150 n).trans ((up_j hU9 (by decide) 150 n).trans (up_f hU7))))
  have e22 : U16 150 n 5 = T 150 n 5 := (fU16 150 n 5 rfl).trans ((up_j hU13 (by decide) 150 n).trans ((up_j hU11 (by decide) 150 n).trans ((up_j hU9 (by decide) 150 n).trans ((up_j hU7 (by decide) 150 n).trans ((fU4 150 n 5 rfl).trans ((up_j hU2 (by decide) 150 n).trans (fU1 150 n 5 rfl)))))))
  have e23 : U16 150 n 6 = T 150 n 6 := (fU16 150 n 6 rfl).trans ((up_j hU13 (by decide) 150 n).trans ((up_j hU11 (by decide) 150 n).trans ((up_j hU9 (by decide) 150 n).trans ((up_j hU7 (by decide) 150 n).trans ((fU4 150 n 6 rfl).trans ((up_j hU2 (by decide) 150 n).trans (fU1 150 n 6 rfl)))))))
  have e24 : U16 150 n 7 = T 150 n 7 := (fU16 150 n 7 rfl).trans ((up_j hU13 (by decide) 150 n).trans ((up_j hU11 (by decide) 150 n).trans ((up_j hU9 (by decide) 150 n).trans ((up_j hU7 (by decide) 150 n).trans ((fU4 150 n 7 rfl).trans ((up_j hU2 (by decide) 150 n).trans (fU1 150 n 7 rfl)))))))
  have e25 : U16 150 n 8 = T 150 n 8 := (fU16 150 n 8 rfl).trans ((up_j hU13 (by decide) 150 n).trans ((up_j hU11 (by decide) 150 n).trans ((up_j hU9 (by decide) 150 n).trans ((up_j hU7 (by decide) 150 n).trans ((fU4 150 n 8 rfl).trans ((up_j hU2 (by decide) 150 n).trans (fU1 150 n 8 rfl)))))))
  exact ⟨rfl, fr_t (fr_u (fr_u (fr_u (fr_u (fr_t (fr_u (fr_t (fr_0 _ _) (fr_s fU1 rfl)) hU2 rfl) (fr_s fU4 rfl)) hU7 rfl) hU9 rfl) hU11 rfl) hU13 rfl) (fr_s fU16 rfl), oi_t (oi_u (oi_u (oi_u (oi_u (oi_n (oi_u (oi_n (oi_r) oU1) hU2) oU4) hU7) hU9) hU11) hU13) qU16o, by omega, by omega, fun j a b => qU16 j a b⟩
abbrev cX3_init : ByteArray := prog_5_method_1_code
def yX3_init : MethodName := ⟨RX3, "<init>", "([I[I[I)V"⟩
def zX3_init : Zm := (RX3, cX3_init, 4, none, { frames := 1, cells := 10, slots := 111, locals := 30 })
theorem fW_X3_9 : fW_ RX3 9 3 6 false := ⟨_, _, _, rfl, by decide, by decide, (lwq_4 (dqc_m (dqc_m (dqc_m (dqc_m (dqc_m (dqc_m (List.mem_of_getElem? (i := 2) rfl))))))) rfl : Cond.fieldLink RX3 9 _ _ _ ∈ lw_g), rfl, .array .int, by decide +kernel, fun _ _ => ⟨rfl, rfl⟩, (fun _ h => by cases h)⟩
theorem fW_X3_15 : fW_ RX3 15 3 7 false := ⟨_, _, _, rfl, by decide, by decide, (lwq_4 (dqc_m (dqc_m (dqc_m (dqc_m (dqc_m (dqc_m (List.mem_of_getElem? (i := 4) rfl))))))) rfl : Cond.fieldLink RX3 15 _ _ _ ∈ lw_g), rfl, .array .int, by decide +kernel, fun _ _ => ⟨rfl, rfl⟩, (fun _ h => by cases h)⟩
theorem fW_X3_18 : fW_ RX3 18 3 8 false := ⟨_, _, _, rfl, by decide, by decide, (lwq_4 (dqc_m (dqc_m (dqc_m (dqc_m (dqc_m (dqc_m (List.mem_of_getElem? (i := 6) rfl))))))) rfl : Cond.fieldLink RX3 18 _ _ _ ∈ lw_g), rfl, .array .int, by decide +kernel, fun _ _ => ⟨rfl, rfl⟩, (fun _ h => by cases h)⟩
theorem fW_X3_21 : fW_ RX3 21 3 9 false := ⟨_, _, _, rfl, by decide, by decide, (lwq_4 (dqc_m (dqc_m (dqc_m (dqc_m (dqc_m (dqc_m (dqa_m (List.mem_of_getElem? (i := 0) rfl)))))))) rfl : Cond.fieldLink RX3 21 _ _ _ ∈ lw_g), rfl, .array .int, by decide +kernel, fun _ _ => ⟨rfl, rfl⟩, (fun _ h => by cases h)⟩
theorem fW_X3_24 : fW_ RX3 24 3 10 false := ⟨_, _, _, rfl, by decide, by decide, (lwq_4 (dqc_m (dqc_m (dqc_m (dqc_m (dqc_m (dqc_m (dqa_m (List.mem_of_getElem? (i := 2) rfl)))))))) rfl : Cond.fieldLink RX3 24 _ _ _ ∈ lw_g), rfl, .array .int, by decide +kernel, fun _ _ => ⟨rfl, rfl⟩, (fun _ h => by cases h)⟩
theorem fW_X3_27 : fW_ RX3 27 3 11 false := ⟨_, _, _, rfl, by decide, by decide, (lwq_4 (dqc_m (dqc_m (dqc_m (dqc_m (dqc_m (dqc_m (dqa_m (List.mem_of_getElem? (i := 4) rfl)))))))) rfl : Cond.fieldLink RX3 27 _ _ _ ∈ lw_g), rfl, .array .int, by decide +kernel, fun _ _ => ⟨rfl, rfl⟩, (fun _ h => by cases h)⟩
theorem fW_X3_30 : fW_ RX3 30 3 12 false := ⟨_, _, _, rfl, by decide, by decide, (lwq_4 (dqc_m (dqc_m (dqc_m (dqc_m (dqc_m (dqc_m (dqa_m (List.mem_of_getElem? (i := 5) rfl)))))))) rfl : Cond.fieldLink RX3 30 _ _ _ ∈ lw_g), rfl, .array .int, by decide +kernel, fun _ _ => ⟨rfl, rfl⟩, (fun _ h => by cases h)⟩
theorem fW_X3_33 : fW_ RX3 33 3 13 false := ⟨_, _, _, rfl, by decide, by decide, (lwq_4 (dqc_m (dqc_m (dqc_m (dqc_m (dqc_m (dqc_m (dqa_m (List.mem_of_getElem? (i := 6) rfl)))))))) rfl : Cond.fieldLink RX3 33 _ _ _ ∈ lw_g), rfl, .array .int, by decide +kernel, fun _ _ => ⟨rfl, rfl⟩, (fun _ h => by cases h)⟩
theorem fW_X3_36 : fW_ RX3 36 3 14 false := ⟨_, _, _, rfl, by decide, by decide, (lwq_4 (dqc_m (dqc_m (dqc_m (dqc_m (dqc_m (dqc_m (dqa_m (dqa_m (List.mem_of_getElem? (i := 1) rfl))))))))) rfl : Cond.fieldLink RX3 36 _ _ _ ∈ lw_g), rfl, .array .int, by decide +kernel, fun _ _ => ⟨rfl, rfl⟩, (fun _ h => by cases h)⟩
theorem fW_X3_39 : fW_ RX3 39 3 16 false := ⟨_, _, _, rfl, by decide, by decide, (lwq_4 (dqc_m (dqc_m (dqc_m (dqc_m (dqc_m (dqc_m (dqa_m (dqa_m (List.mem_of_getElem? (i := 5) rfl))))))))) rfl : Cond.fieldLink RX3 39 _ _ _ ∈ lw_g), rfl, .array .int, by decide +kernel, fun _ _ => ⟨rfl, rfl⟩, (fun _ h => by cases h)⟩
theorem fW_X3_42 : fW_ RX3 42 3 0 false := ⟨_, _, _, rfl, by decide, by decide, (lwq_4 (dqc_m (dqc_m (dqc_m (dqc_m (dqc_m (dqa_m (dqa_m (dqa_m (List.mem_of_getElem? (i := 1) rfl))))))))) rfl : Cond.fieldLink RX3 42 _ _ _ ∈ lw_g), rfl, .array .int, by decide +kernel, fun _ _ => ⟨rfl, rfl⟩, (fun _ h => by cases h)⟩
theorem fW_X3_45 : fW_ RX3 45 3 1 false := ⟨_, _, _, rfl, by decide, by decide, (lwq_4 (dqc_m (dqc_m (dqc_m (dqc_m (dqc_m (dqa_m (dqa_m (dqa_m (List.mem_of_getElem? (i := 2) rfl))))))))) rfl : Cond.fieldLink RX3 45 _ _ _ ∈ lw_g), rfl, .array .int, by decide +kernel, fun _ _ => ⟨rfl, rfl⟩, (fun _ h => by cases h)⟩
theorem fW_X3_48 : fW_ RX3 48 3 2 false := ⟨_, _, _, rfl, by decide, by decide, (lwq_4 (dqc_m (dqc_m (dqc_m (dqc_m (dqc_m (dqa_m (dqa_m (dqa_m (List.mem_of_getElem? (i := 3) rfl))))))))) rfl : Cond.fieldLink RX3 48 _ _ _ ∈ lw_g), rfl, .array .int, by decide +kernel, fun _ _ => ⟨rfl, rfl⟩, (fun _ h => by cases h)⟩
