-- who can be first: the house's points with the club's own matches won
/-- points before, as the table has them at the last day -/
noncomputable def pp7_ (T : Zt) (c x : Int) : Int := tn9_ (fun w => T 401 c w) (fun k => vH_ T 999 (T 100 c 7 + k)) (T 403 c x) 6 (T 100 c 8).toNat - dh9_ T c 999 (T 403 c x) (T 106 0 6).toNat
/-- what a settled match gives a seat -/
noncomputable def ow7_ (T : Zt) (c t x k : Int) : Int := cz_ (T 584 0 (T 100 c 7 + k) = -1) 0 (cz_ (x = T 404 c (T 102 (T 100 c 7 + k) 3)) (cz_ (x = t) (T 401 c 1) (T 401 c 3)) 0 + cz_ (x = T 404 c (T 102 (T 100 c 7 + k) 4)) (cz_ (x = t) (T 401 c 1) (T 401 c 3)) 0)
noncomputable def os7_ (T : Zt) (c t x : Int) : Nat → Int
  | 0 => 0
  | n + 1 => os7_ T c t x n + ow7_ T c t x (n : Int)
/-- the points of the first n seats are told by D -/
def PV7_ (U : Zt) (n : Int) (D : Int → Int) : Prop := ∀ x : Int, 0 ≤ x → x < n → wr_ (U 587 0 x) = wr_ (D x)
theorem pv7_u {U U2 : Zt} {n j v y : Int} {D : Int → Int} (h : PV7_ U n D) (e : U2 = up_ U 587 0 j v) (hv : v = wr_ (U 587 0 j + y)) : PV7_ U2 n (fun i => D i + cz_ (i = j) y 0) := fun i a b => by
  show wr_ (U2 587 0 i) = wr_ (D i + cz_ (i = j) y 0)
  have g := h i a b
  by_cases z : i = j
  · rw [cz_t z, z, up_f e, hv, wr_d]
    rw [z] at g
    rw [wr_c g]
  · rw [cz_f z, up_g e (fun p => z p.2.2), g, Int.add_zero]
theorem pv7_e {U : Zt} {n : Int} {D D' : Int → Int} (h : PV7_ U n D) (e : ∀ x, 0 ≤ x → x < n → D x = D' x) : PV7_ U n D' := fun x a b => by rw [← e x a b]; exact h x a b
theorem bk_X9_takePoints_e_56 : ck_ fX9 none cX9_takePoints 56 [.iload 2, .aload 0, .tableswitch 0 9 5 #[], .tableswitch 0 0 8 #[], .if_icmp .ge 190, .aload 0, .tableswitch 0 9 0 #[], .tableswitch 0 6 3 #[], .aload 0, .tableswitch 0 9 5 #[], .tableswitch 0 0 7 #[], .iload 2, .iadd, .aaload, .astore 3, .aload 0, .tableswitch 0 9 4 #[], .aload 3, .tableswitch 0 2 1 #[], .iaload, .iconst (-1), .if_icmp .eq 184, .aload 0, .tableswitch 0 9 5 #[], .tableswitch 0 0 4 #[], .aload 3, .tableswitch 0 2 3 #[], .iaload, .istore 4, .aload 0, .tableswitch 0 9 5 #[], .tableswitch 0 0 4 #[], .aload 3, .tableswitch 0 2 4 #[], .iaload, .istore 5, .aload 0, .tableswitch 0 9 7 #[], .iload 4, .dup2, .iaload, .aload 0, .tableswitch 0 9 5 #[], .tableswitch 0 0 1 #[], .iload 4, .iload 1, .if_icmp .ne 151, .iconst 1, .goto 152] 151 = true := qck_r (nn_ _) (by decide +kernel)
theorem bs_X9_takePoints_e_56 {P : Zt → Option Zv → Prop} (K : Int → Zl → List Zv → Zt → Prop) : sx_ K P [.iload 2, .aload 0, .tableswitch 0 9 5 #[], .tableswitch 0 0 8 #[], .if_icmp .ge 190, .aload 0, .tableswitch 0 9 0 #[], .tableswitch 0 6 3 #[], .aload 0, .tableswitch 0 9 5 #[], .tableswitch 0 0 7 #[], .iload 2, .iadd, .aaload, .astore 3, .aload 0, .tableswitch 0 9 4 #[], .aload 3, .tableswitch 0 2 1 #[], .iaload, .iconst (-1), .if_icmp .eq 184, .aload 0, .tableswitch 0 9 5 #[], .tableswitch 0 0 4 #[], .aload 3, .tableswitch 0 2 3 #[], .iaload, .istore 4, .aload 0, .tableswitch 0 9 5 #[], .tableswitch 0 0 4 #[], .aload 3, .tableswitch 0 2 4 #[], .iaload, .istore 5, .aload 0, .tableswitch 0 9 7 #[], .iload 4, .dup2, .iaload, .aload 0, .tableswitch 0 9 5 #[], .tableswitch 0 0 1 #[], .iload 4, .iload 1, .if_icmp .ne 151, .iconst 1, .goto 152] 151 = x_iload 2 (x_aload 0 (x_g5 109 100 5 (x_g0 100 8 0 400 (x_if_icmp .ge 190 K (x_aload 0 (x_g1 109 106 (x_g1 106 523 (x_aload 0 (x_g5 109 100 5 (x_g0 100 7 0 400 (x_iload 2 (x_iadd (x_aaload (x_astore 3 (x_aload 0 (x_g1 109 584 (x_aload 3 (x_g0 102 1 0 399 (x_iaload (x_iconst (-1) (x_if_icmp .eq 184 K (x_aload 0 (x_g5 109 100 5 (x_g2 100 404 (x_aload 3 (x_g0 102 3 0 11 (x_iaload (x_istore 4 (x_aload 0 (x_g5 109 100 5 (x_g2 100 404 (x_aload 3 (x_g0 102 4 0 11 (x_iaload (x_istore 5 (x_aload 0 (x_g1 109 587 (x_iload 4 (x_dup2 (x_iaload (x_aload 0 (x_g5 109 100 5 (x_g2 100 401 (x_iload 4 (x_iload 1 (x_if_icmp .ne 151 K (x_iconst 1 (x_goto 152 K)))))))))))))))))))))))))))))))))))))))))))))))) := ((xe_iload 2).trans (congrArg (x_iload 2) ((xe_aload 0).trans (congrArg (x_aload 0) ((xe_g5 (kk := 109) rfl tl_9_5).trans (congrArg (x_g5 109 100 5) ((xe_g0 (kk := 100) rfl tl_0_8).trans (congrArg (x_g0 100 8 0 400) ((xe_if_icmp .ge 190).trans (congrArg (x_if_icmp .ge 190 K) ((xe_aload 0).trans (congrArg (x_aload 0) ((xe_g1 (kk := 109) rfl tl_9_0).trans (congrArg (x_g1 109 106) ((xe_g1 (kk := 106) rfl tl_6_3).trans (congrArg (x_g1 106 523) ((xe_aload 0).trans (congrArg (x_aload 0) ((xe_g5 (kk := 109) rfl tl_9_5).trans (congrArg (x_g5 109 100 5) ((xe_g0 (kk := 100) rfl tl_0_7).trans (congrArg (x_g0 100 7 0 400) ((xe_iload 2).trans (congrArg (x_iload 2) ((xe_iadd).trans (congrArg (x_iadd) ((xe_aaload).trans (congrArg (x_aaload) ((xe_astore 3).trans (congrArg (x_astore 3) ((xe_aload 0).trans (congrArg (x_aload 0) ((xe_g1 (kk := 109) rfl tl_9_4).trans (congrArg (x_g1 109 584) ((xe_aload 3).trans (congrArg (x_aload 3) ((xe_g0 (kk := 102) rfl tl_2_1).trans (congrArg (x_g0 102 1 0 399) ((xe_iaload).trans (congrArg (x_iaload) ((xe_iconst (-1)).trans (congrArg (x_iconst (-1)) ((xe_if_icmp .eq 184).trans (congrArg (x_if_icmp .eq 184 K) ((xe_aload 0).trans (congrArg (x_aload 0) ((xe_g5 (kk := 109) rfl tl_9_5).trans (congrArg (x_g5 109 100 5) ((xe_g2 (kk := 100) rfl tl_0_4).trans (congrArg (x_g2 100 404) ((xe_aload 3).trans (congrArg (x_aload 3) ((xe_g0 (kk := 102) rfl tl_2_3).trans (congrArg (x_g0 102 3 0 11) ((xe_iaload).trans (congrArg (x_iaload) ((xe_istore 4).trans (congrArg (x_istore 4) ((xe_aload 0).trans (congrArg (x_aload 0) ((xe_g5 (kk := 109) rfl tl_9_5).trans (congrArg (x_g5 109 100 5) ((xe_g2 (kk := 100) rfl tl_0_4).trans (congrArg (x_g2 100 404) ((xe_aload 3).trans (congrArg (x_aload 3) ((xe_g0 (kk := 102) rfl tl_2_4).trans (congrArg (x_g0 102 4 0 11) ((xe_iaload).trans (congrArg (x_iaload) ((xe_istore 5).trans (congrArg (x_istore 5) ((xe_aload 0).trans (congrArg (x_aload 0) ((xe_g1 (kk := 109) rfl tl_9_7).trans (congrArg (x_g1 109 587) ((xe_iload 4).trans (congrArg (x_iload 4) ((xe_dup2).trans (congrArg (x_dup2) ((xe_iaload).trans (congrArg (x_iaload) ((xe_aload 0).trans (congrArg (x_aload 0) ((xe_g5 (kk := 109) rfl tl_9_5).trans (congrArg (x_g5 109 100 5) ((xe_g2 (kk := 100) rfl tl_0_1).trans (congrArg (x_g2 100 401) ((xe_iload 4).trans (congrArg (x_iload 4) ((xe_iload 1).trans (congrArg (x_iload 1) ((xe_if_icmp .ne 151).trans (congrArg (x_if_icmp .ne 151 K) ((xe_iconst 1).trans (congrArg (x_iconst 1) (xe_goto 152)))))))))))))))))))))))))))))))))))))))))))))))))))))))))))))))))))))))))))))))))))))))))))))))))
theorem bk_X9_takePoints_e_190 : ck_ fX9 none cX9_takePoints 190 [.aload 0, .aload 0, .tableswitch 0 9 7 #[], .iload 1, .iaload, .tableswitch 1 9 6 #[], .return_] 201 = true := qck_r (nn_ _) (by decide +kernel)
theorem bs_X9_takePoints_e_190 {P : Zt → Option Zv → Prop} (K : Int → Zl → List Zv → Zt → Prop) : sx_ K P [.aload 0, .aload 0, .tableswitch 0 9 7 #[], .iload 1, .iaload, .tableswitch 1 9 6 #[], .return_] 201 = x_aload 0 (x_aload 0 (x_g1 109 587 (x_iload 1 (x_iaload (x_p 109 6 (-2147483648) 2147483647 (x_return_ P)))))) := ((xe_aload 0).trans (congrArg (x_aload 0) ((xe_aload 0).trans (congrArg (x_aload 0) ((xe_g1 (kk := 109) rfl tl_9_7).trans (congrArg (x_g1 109 587) ((xe_iload 1).trans (congrArg (x_iload 1) ((xe_iaload).trans (congrArg (x_iaload) ((xe_p (kk := 109) rfl tl_9_6).trans (congrArg (x_p 109 6 (-2147483648) 2147483647) (xe_return_)))))))))))))
theorem bk_X9_takePoints_e_184 : ck_ fX9 none cX9_takePoints 184 [.iinc 2 1, .goto 56] 190 = true := qck_r (nn_ _) (by decide +kernel)
theorem bs_X9_takePoints_e_184 {P : Zt → Option Zv → Prop} (K : Int → Zl → List Zv → Zt → Prop) : sx_ K P [.iinc 2 1, .goto 56] 190 = x_iinc 2 1 (x_goto 56 K) := ((xe_iinc 2 1).trans (congrArg (x_iinc 2 1) (xe_goto 56)))
theorem bk_X9_takePoints_e_151 : ck_ fX9 none cX9_takePoints 151 [.iconst 3, .iaload, .fadd, .iastore, .aload 0, .tableswitch 0 9 7 #[], .iload 5, .dup2, .iaload, .aload 0, .tableswitch 0 9 5 #[], .tableswitch 0 0 1 #[], .iload 5, .iload 1, .if_icmp .ne 180, .iconst 1, .goto 181] 180 = true := qck_r (nn_ _) (by decide +kernel)
theorem bs_X9_takePoints_e_151 {P : Zt → Option Zv → Prop} (K : Int → Zl → List Zv → Zt → Prop) : sx_ K P [.iconst 3, .iaload, .fadd, .iastore, .aload 0, .tableswitch 0 9 7 #[], .iload 5, .dup2, .iaload, .aload 0, .tableswitch 0 9 5 #[], .tableswitch 0 0 1 #[], .iload 5, .iload 1, .if_icmp .ne 180, .iconst 1, .goto 181] 180 = x_iconst 3 (x_iaload (x_fadd (x_iastore (x_aload 0 (x_g1 109 587 (x_iload 5 (x_dup2 (x_iaload (x_aload 0 (x_g5 109 100 5 (x_g2 100 401 (x_iload 5 (x_iload 1 (x_if_icmp .ne 180 K (x_iconst 1 (x_goto 181 K)))))))))))))))) := ((xe_iconst 3).trans (congrArg (x_iconst 3) ((xe_iaload).trans (congrArg (x_iaload) ((xe_fadd).trans (congrArg (x_fadd) ((xe_iastore).trans (congrArg (x_iastore) ((xe_aload 0).trans (congrArg (x_aload 0) ((xe_g1 (kk := 109) rfl tl_9_7).trans (congrArg (x_g1 109 587) ((xe_iload 5).trans (congrArg (x_iload 5) ((xe_dup2).trans (congrArg (x_dup2) ((xe_iaload).trans (congrArg (x_iaload) ((xe_aload 0).trans (congrArg (x_aload 0) ((xe_g5 (kk := 109) rfl tl_9_5).trans (congrArg (x_g5 109 100 5) ((xe_g2 (kk := 100) rfl tl_0_1).trans (congrArg (x_g2 100 401) ((xe_iload 5).trans (congrArg (x_iload 5) ((xe_iload 1).trans (congrArg (x_iload 1) ((xe_if_icmp .ne 180).trans (congrArg (x_if_icmp .ne 180 K) ((xe_iconst 1).trans (congrArg (x_iconst 1) (xe_goto 181)))))))))))))))))))))))))))))))))
theorem bk_X9_takePoints_e_180 : ck_ fX9 none cX9_takePoints 180 [.iconst 3, .iaload, .fadd, .iastore, .iinc 2 1, .goto 56] 190 = true := qck_r (nn_ _) (by decide +kernel)
theorem bs_X9_takePoints_e_180 {P : Zt → Option Zv → Prop} (K : Int → Zl → List Zv → Zt → Prop) : sx_ K P [.iconst 3, .iaload, .fadd, .iastore, .iinc 2 1, .goto 56] 190 = x_iconst 3 (x_iaload (x_fadd (x_iastore (x_iinc 2 1 (x_goto 56 K))))) := ((xe_iconst 3).trans (congrArg (x_iconst 3) ((xe_iaload).trans (congrArg (x_iaload) ((xe_fadd).trans (congrArg (x_fadd) ((xe_iastore).trans (congrArg (x_iastore) ((xe_iinc 2 1).trans (congrArg (x_iinc 2 1) (xe_goto 56)))))))))))
theorem bk_X9_takePoints_e_181 : ck_ fX9 none cX9_takePoints 181 [.iaload, .fadd, .iastore, .iinc 2 1, .goto 56] 190 = true := qck_r (nn_ _) (by decide +kernel)
theorem bs_X9_takePoints_e_181 {P : Zt → Option Zv → Prop} (K : Int → Zl → List Zv → Zt → Prop) : sx_ K P [.iaload, .fadd, .iastore, .iinc 2 1, .goto 56] 190 = x_iaload (x_fadd (x_iastore (x_iinc 2 1 (x_goto 56 K)))) := ((xe_iaload).trans (congrArg (x_iaload) ((xe_fadd).trans (congrArg (x_fadd) ((xe_iastore).trans (congrArg (x_iastore) ((xe_iinc 2 1).trans (congrArg (x_iinc 2 1) (xe_goto 56)))))))))
theorem bk_X9_takePoints_e_152 : ck_ fX9 none cX9_takePoints 152 [.iaload, .fadd, .iastore, .aload 0, .tableswitch 0 9 7 #[], .iload 5, .dup2, .iaload, .aload 0, .tableswitch 0 9 5 #[], .tableswitch 0 0 1 #[], .iload 5, .iload 1, .if_icmp .ne 180, .iconst 1, .goto 181] 180 = true := qck_r (nn_ _) (by decide +kernel)
theorem bs_X9_takePoints_e_152 {P : Zt → Option Zv → Prop} (K : Int → Zl → List Zv → Zt → Prop) : sx_ K P [.iaload, .fadd, .iastore, .aload 0, .tableswitch 0 9 7 #[], .iload 5, .dup2, .iaload, .aload 0, .tableswitch 0 9 5 #[], .tableswitch 0 0 1 #[], .iload 5, .iload 1, .if_icmp .ne 180, .iconst 1, .goto 181] 180 = x_iaload (x_fadd (x_iastore (x_aload 0 (x_g1 109 587 (x_iload 5 (x_dup2 (x_iaload (x_aload 0 (x_g5 109 100 5 (x_g2 100 401 (x_iload 5 (x_iload 1 (x_if_icmp .ne 180 K (x_iconst 1 (x_goto 181 K))))))))))))))) := ((xe_iaload).trans (congrArg (x_iaload) ((xe_fadd).trans (congrArg (x_fadd) ((xe_iastore).trans (congrArg (x_iastore) ((xe_aload 0).trans (congrArg (x_aload 0) ((xe_g1 (kk := 109) rfl tl_9_7).trans (congrArg (x_g1 109 587) ((xe_iload 5).trans (congrArg (x_iload 5) ((xe_dup2).trans (congrArg (x_dup2) ((xe_iaload).trans (congrArg (x_iaload) ((xe_aload 0).trans (congrArg (x_aload 0) ((xe_g5 (kk := 109) rfl tl_9_5).trans (congrArg (x_g5 109 100 5) ((xe_g2 (kk := 100) rfl tl_0_1).trans (congrArg (x_g2 100 401) ((xe_iload 5).trans (congrArg (x_iload 5) ((xe_iload 1).trans (congrArg (x_iload 1) ((xe_if_icmp .ne 180).trans (congrArg (x_if_icmp .ne 180 K) ((xe_iconst 1).trans (congrArg (x_iconst 1) (xe_goto 181)))))))))))))))))))))))))))))))
theorem bk_X9_takePoints_e_16 : ck_ fX9 none cX9_takePoints 16 [.iload 2, .aload 0, .tableswitch 0 9 5 #[], .tableswitch 0 0 5 #[], .if_icmp .ge 54, .aload 0, .tableswitch 0 9 7 #[], .iload 2, .aload 0, .tableswitch 0 9 1 #[], .tableswitch 0 7 2 #[], .iload 2, .iconst 8, .imul, .iconst 6, .iadd, .iaload, .iastore, .iinc 2 1, .goto 16] 54 = true := qck_r (nn_ _) (by decide +kernel)
theorem bs_X9_takePoints_e_16 {P : Zt → Option Zv → Prop} (K : Int → Zl → List Zv → Zt → Prop) : sx_ K P [.iload 2, .aload 0, .tableswitch 0 9 5 #[], .tableswitch 0 0 5 #[], .if_icmp .ge 54, .aload 0, .tableswitch 0 9 7 #[], .iload 2, .aload 0, .tableswitch 0 9 1 #[], .tableswitch 0 7 2 #[], .iload 2, .iconst 8, .imul, .iconst 6, .iadd, .iaload, .iastore, .iinc 2 1, .goto 16] 54 = x_iload 2 (x_aload 0 (x_g5 109 100 5 (x_g0 100 5 0 12 (x_if_icmp .ge 54 K (x_aload 0 (x_g1 109 587 (x_iload 2 (x_aload 0 (x_g1 109 107 (x_g1 107 542 (x_iload 2 (x_iconst 8 (x_imul (x_iconst 6 (x_iadd (x_iaload (x_iastore (x_iinc 2 1 (x_goto 16 K))))))))))))))))))) := ((xe_iload 2).trans (congrArg (x_iload 2) ((xe_aload 0).trans (congrArg (x_aload 0) ((xe_g5 (kk := 109) rfl tl_9_5).trans (congrArg (x_g5 109 100 5) ((xe_g0 (kk := 100) rfl tl_0_5).trans (congrArg (x_g0 100 5 0 12) ((xe_if_icmp .ge 54).trans (congrArg (x_if_icmp .ge 54 K) ((xe_aload 0).trans (congrArg (x_aload 0) ((xe_g1 (kk := 109) rfl tl_9_7).trans (congrArg (x_g1 109 587) ((xe_iload 2).trans (congrArg (x_iload 2) ((xe_aload 0).trans (congrArg (x_aload 0) ((xe_g1 (kk := 109) rfl tl_9_1).trans (congrArg (x_g1 109 107) ((xe_g1 (kk := 107) rfl tl_7_2).trans (congrArg (x_g1 107 542) ((xe_iload 2).trans (congrArg (x_iload 2) ((xe_iconst 8).trans (congrArg (x_iconst 8) ((xe_imul).trans (congrArg (x_imul) ((xe_iconst 6).trans (congrArg (x_iconst 6) ((xe_iadd).trans (congrArg (x_iadd) ((xe_iaload).trans (congrArg (x_iaload) ((xe_iastore).trans (congrArg (x_iastore) ((xe_iinc 2 1).trans (congrArg (x_iinc 2 1) (xe_goto 16)))))))))))))))))))))))))))))))))))))))
theorem bk_X9_takePoints_e_54 : ck_ fX9 none cX9_takePoints 54 [.iconst 0, .istore 2] 56 = true := qck_r (nn_ _) (by decide +kernel)
theorem bs_X9_takePoints_e_54 {P : Zt → Option Zv → Prop} (K : Int → Zl → List Zv → Zt → Prop) : sx_ K P [.iconst 0, .istore 2] 56 = x_iconst 0 (x_istore 2 (K 56)) := ((xe_iconst 0).trans (congrArg (x_iconst 0) ((xe_istore 2).trans (congrArg (x_istore 2) xe_nil))))
theorem bk_X9_takePoints_e_0 : ck_ fX9 none cX9_takePoints 0 [.aload 0, .tableswitch 0 9 1 #[], .aload 0, .tableswitch 0 9 5 #[], .iconst 999] 11 = true := qck_r (nn_ _) (by decide +kernel)
theorem bs_X9_takePoints_e_0 {P : Zt → Option Zv → Prop} (K : Int → Zl → List Zv → Zt → Prop) : sx_ K P [.aload 0, .tableswitch 0 9 1 #[], .aload 0, .tableswitch 0 9 5 #[], .iconst 999] 11 = x_aload 0 (x_g1 109 107 (x_aload 0 (x_g5 109 100 5 (x_iconst 999 (K 11))))) := ((xe_aload 0).trans (congrArg (x_aload 0) ((xe_g1 (kk := 109) rfl tl_9_1).trans (congrArg (x_g1 109 107) ((xe_aload 0).trans (congrArg (x_aload 0) ((xe_g5 (kk := 109) rfl tl_9_5).trans (congrArg (x_g5 109 100 5) ((xe_iconst 999).trans (congrArg (x_iconst 999) xe_nil))))))))))
theorem bk_X9_takePoints_e_14 : ck_ fX9 none cX9_takePoints 14 [.iconst 0, .istore 2] 16 = true := qck_r (nn_ _) (by decide +kernel)
theorem bs_X9_takePoints_e_14 {P : Zt → Option Zv → Prop} (K : Int → Zl → List Zv → Zt → Prop) : sx_ K P [.iconst 0, .istore 2] 16 = x_iconst 0 (x_istore 2 (K 16)) := ((xe_iconst 0).trans (congrArg (x_iconst 0) ((xe_istore 2).trans (congrArg (x_istore 2) xe_nil))))
abbrev po_X9_takePoints_e (T : Zt) (t : Int) : Zt → Option Zv → Prop := fun T' r => r = none ∧ fr_ [(107, [1]), (542, []), (543, []), (544, []), (545, []), (546, []), (587, []), (109, [6])] T T' ∧ (PV7_ T' (T 100 (T 109 0 5 - 1) 5) (fun x => pp7_ T (T 109 0 5 - 1) x + os7_ T (T 109 0 5 - 1) t x (T 100 (T 109 0 5 - 1) 8).toNat) ∧ T' 109 0 6 = T' 587 0 t)
set_option maxHeartbeats 4000000 in
theorem ct_X9_takePoints_e {T : Zt} {t : Int} (hka : KA_ T) (hkm : KM_ T) (hkc : KC_ T) (hks : KS_ T) (hc9 : 1 ≤ T 109 0 5 ∧ T 109 0 5 ≤ T 106 0 2) (ht : 0 ≤ t ∧ t ≤ 11) (hsk : SK_ T (T 109 0 5 - 1)) (hno : T 100 (T 109 0 5 - 1) 0 = T 109 0 5 - 1) : Ct_ yX9_takePoints zX9_takePoints T [vR 109 0, vI t] (po_X9_takePoints_e T t) := by
  refine ct_of pn_9 rfl rfl (Nat.le_of_ble_eq_true rfl) (fun hT hav => ?_)
  have hr_t : -2147483648 ≤ t ∧ t ≤ 2147483647 := hav (vI t) (List.mem_cons_of_mem _ List.mem_cons_self)
  have hz : zX9_takePoints.2.2.2.1 = some .boolean → ∀ (T' : Zt) (x : Int), po_X9_takePoints_e T t T' (some (vI x)) → 0 ≤ x ∧ x ≤ 1 := fun h => by cases h
  have hk2 := hkc (T 109 0 5 - 1) (by omega) (by omega)
  have hb_matchCount : 0 ≤ T 106 0 4 ∧ T 106 0 4 ≤ 400 := bd_f hT 106 4 tl_6_4 0
  have hfm : 0 ≤ T 100 (T 109 0 5 - 1) 7 ∧ T 100 (T 109 0 5 - 1) 7 ≤ 400 := bd_f hT 100 7 tl_0_7 (T 109 0 5 - 1)
  have hmc : 0 ≤ T 100 (T 109 0 5 - 1) 8 ∧ T 100 (T 109 0 5 - 1) 8 ≤ 400 := bd_f hT 100 8 tl_0_8 (T 109 0 5 - 1)
  have hen : 0 ≤ T 100 (T 109 0 5 - 1) 5 ∧ T 100 (T 109 0 5 - 1) 5 ≤ 12 := bd_f hT 100 5 tl_0_5 (T 109 0 5 - 1)
  show J_ zX9_takePoints T (po_X9_takePoints_e T t) 0 0 0 [some (vR 109 0), some (vI t), none, none, none, none] [] T
  have c_56 : ∀ (nn : Nat) (k : Int) (T2 : Zt), ((T 100 (T 109 0 5 - 1) 8 - k).toNat) ≤ nn → (fr_ [(107, [1]), (542, []), (543, []), (544, []), (545, []), (546, []), (587, [])] T T2) → (0 ≤ k ∧ k ≤ T 100 (T 109 0 5 - 1) 8) → (PV7_ T2 (T 100 (T 109 0 5 - 1) 5) (fun x => pp7_ T (T 109 0 5 - 1) x + os7_ T (T 109 0 5 - 1) t x (k).toNat)) → J_ zX9_takePoints T (po_X9_takePoints_e T t) 0 0 56 [some (vR 109 0), some (vI t), some (vI k), none, none, none] [] T2 := by
    intro nn
    induction nn using Nat.strongRecOn with
    | _ nn ih_56 =>
      intro k T2 hm_56 hf_56 i2 p2
      replace hm_56 := fun (_ : Unit) => hm_56
      refine j_blx (F := fX9) tb_X9 (nn_ _) bk_X9_takePoints_e_56 bs_X9_takePoints_e_56 hz (fun K hK => ?_)
      have e2 : T2 109 0 5 = T 109 0 5 := hf_56 109 0 5 rfl
      refine And.intro (fun c1 => ?_) (fun c1 => ?_)
      · exact absurd c1 (by omega)
      · intro b3 b3b
        have e4 : T2 100 (T 109 0 5 - 1) 8 = T 100 (T 109 0 5 - 1) 8 := hf_56 100 (T 109 0 5 - 1) 8 rfl
        have e5 : T2 100 (T2 109 0 5 - 1) 8 = T 100 (T 109 0 5 - 1) 8 := by rw [e2]; exact e4
        rw [e5] at b3 b3b ⊢
        refine And.intro (fun c6 => ?_) (fun c6 => ?_)
        · refine hK 190 _ [] T2 ?_
          refine j_blx (F := fX9) tb_X9 (nn_ _) bk_X9_takePoints_e_190 bs_X9_takePoints_e_190 hz (fun K hK => ?_)
          refine ix_i (by omega) ?_
          intro b7 b7b
          refine bd_i (by omega) ?_
          refine x_nm (fun U8 hU8 => ?_)
          have e9 := up_f hU8
          refine (show po_X9_takePoints_e T t U8 (none) from ?_)
          have e10 : U8 109 0 6 = T2 587 0 t := up_f hU8
          have e11 : U8 587 0 t = T2 587 0 t := up_k hU8 (by exact Nat.ne_of_beq_eq_false rfl) 0 t
          have ek : k = T 100 (T 109 0 5 - 1) 8 := by omega
          rw [ek] at p2
          exact ⟨rfl, fr_u (fr_t (fr_0 _ _) (fr_s hf_56 rfl)) hU8 rfl, fun x a b => (congrArg wr_ (up_k hU8 (by exact Nat.ne_of_beq_eq_false rfl) 0 x)).trans (p2 x a b), (up_f hU8).trans (up_k hU8 (by exact Nat.ne_of_beq_eq_false rfl) 0 t).symm⟩
        · have e13 : T2 109 0 5 = T 109 0 5 := hf_56 109 0 5 rfl
          refine And.intro (fun c12 => ?_) (fun c12 => ?_)
          · exact absurd c12 (by omega)
          · intro b14 b14b
            have e15 : T2 100 (T 109 0 5 - 1) 7 = T 100 (T 109 0 5 - 1) 7 := hf_56 100 (T 109 0 5 - 1) 7 rfl
            have e16 : T2 100 (T2 109 0 5 - 1) 7 = T 100 (T 109 0 5 - 1) 7 := by rw [e13]; exact e15
            rw [e16] at b14 b14b ⊢
            refine rg_i (by omega) ?_
            refine ix_i (by omega) ?_
            have e18 : T2 523 0 ((T 100 (T 109 0 5 - 1) 7) + k) = T 523 0 ((T 100 (T 109 0 5 - 1) 7) + k) := hf_56 523 0 ((T 100 (T 109 0 5 - 1) 7) + k) rfl
            refine And.intro (fun c17 => ?_) (fun c17 => ?_)
            · exact absurd (show T 523 0 (T 100 (T 109 0 5 - 1) 7 + k) = 0 by omega) (hka.2 _ (by omega) (by omega))
            · intro b19 b19b
              have e20 : T2 102 ((T 100 (T 109 0 5 - 1) 7) + k) 1 = T 102 ((T 100 (T 109 0 5 - 1) 7) + k) 1 := hf_56 102 ((T 100 (T 109 0 5 - 1) 7) + k) 1 rfl
              rw [e20] at b19 b19b ⊢
              refine ix_i (by omega) ?_
              intro b21 b21b
              have e22 : T2 584 0 (T 102 ((T 100 (T 109 0 5 - 1) 7) + k) 1) = T 584 0 (T 102 ((T 100 (T 109 0 5 - 1) 7) + k) 1) := hf_56 584 0 (T 102 ((T 100 (T 109 0 5 - 1) 7) + k) 1) rfl
              rw [e22] at b21 b21b ⊢
              refine And.intro (fun c23 => ?_) (fun c23 => ?_)
              · refine hK 184 [some (vR 109 0), some (vI t), some (vI k), some (vR 102 ((T 100 (T 109 0 5 - 1) 7) + k)), none, none] [] T2 ?_
                refine j_blx (F := fX9) tb_X9 (nn_ _) bk_X9_takePoints_e_184 bs_X9_takePoints_e_184 hz (fun K hK => ?_)
                refine rg_i (by omega) ?_
                refine hK 56 [some (vR 109 0), some (vI t), some (vI (k + 1)), some (vR 102 ((T 100 (T 109 0 5 - 1) 7) + k)), none, none] [] T2 ?_
                refine j_drq [some (vR 109 0), some (vI t), some (vI (k + 1)), none, none, none] (drq_s (drq_s (drq_s (drq_n (drq_n (drq_n drq_0)))))) ?_
                refine ih_56 _ ?_ (k + 1) T2 (Nat.le_refl _) ?_ ?_ ?_
                · have hm_56 := hm_56 (); omega
                · exact fr_t (fr_0 _ _) (fr_s hf_56 rfl)
                · omega
                · have ke : (k + 1).toNat = k.toNat + 1 := by omega
                  have kc : ((k.toNat : Nat) : Int) = k := by omega
                  have r9 : T2 584 0 (T 100 (T 109 0 5 - 1) 7 + k) = T 584 0 (T 100 (T 109 0 5 - 1) 7 + k) := hf_56 584 0 _ rfl
                  have n9 := hkm (T 100 (T 109 0 5 - 1) 7 + k) (by omega) (by omega)
                  have r8 : T 584 0 (T 102 (T 100 (T 109 0 5 - 1) 7 + k) 1) = T 584 0 (T 100 (T 109 0 5 - 1) 7 + k) := by rw [n9.1]
                  have r7 : T2 584 0 (T 102 (T 100 (T 109 0 5 - 1) 7 + k) 1) = T 584 0 (T 102 (T 100 (T 109 0 5 - 1) 7 + k) 1) := hf_56 584 0 _ rfl
                  have o9 : ∀ x, os7_ T (T 109 0 5 - 1) t x (k + 1).toNat = os7_ T (T 109 0 5 - 1) t x k.toNat + ow7_ T (T 109 0 5 - 1) t x k := fun x => by rw [ke]; show _ + ow7_ T (T 109 0 5 - 1) t x ((k.toNat : Nat) : Int) = _; rw [kc]
                  refine pv7_e p2 (fun x a b => ?_)
                  show _ = pp7_ T (T 109 0 5 - 1) x + os7_ T (T 109 0 5 - 1) t x (k + 1).toNat
                  rw [o9 x, show ow7_ T (T 109 0 5 - 1) t x k = 0 from cz_t (by omega), Int.add_zero]
              · have hs9 := hks (T 109 0 5 - 1) (by omega) (by omega) (T 100 (T 109 0 5 - 1) 7 + k) (by omega) (by omega)
                have e25 : T2 109 0 5 = T 109 0 5 := hf_56 109 0 5 rfl
                refine And.intro (fun c24 => ?_) (fun c24 => ?_)
                · exact absurd c24 (by omega)
                · intro b26 b26b
                  have e27 : T2 102 ((T 100 (T 109 0 5 - 1) 7) + k) 3 = T 102 ((T 100 (T 109 0 5 - 1) 7) + k) 3 := hf_56 102 ((T 100 (T 109 0 5 - 1) 7) + k) 3 rfl
                  rw [e27] at b26 b26b ⊢
                  refine ix_i (by omega) ?_
                  intro b28 b28b
                  have e29 : T2 404 (T 109 0 5 - 1) (T 102 ((T 100 (T 109 0 5 - 1) 7) + k) 3) = T 404 (T 109 0 5 - 1) (T 102 ((T 100 (T 109 0 5 - 1) 7) + k) 3) := hf_56 404 (T 109 0 5 - 1) (T 102 ((T 100 (T 109 0 5 - 1) 7) + k) 3) rfl
                  have e30 : T2 404 (T2 109 0 5 - 1) (T 102 ((T 100 (T 109 0 5 - 1) 7) + k) 3) = T 404 (T 109 0 5 - 1) (T 102 ((T 100 (T 109 0 5 - 1) 7) + k) 3) := by rw [e25]; exact e29
                  rw [e30] at b28 b28b ⊢
                  have e32 : T2 109 0 5 = T 109 0 5 := hf_56 109 0 5 rfl
                  refine And.intro (fun c31 => ?_) (fun c31 => ?_)
                  · exact absurd c31 (by omega)
                  · intro b33 b33b
                    have e34 : T2 102 ((T 100 (T 109 0 5 - 1) 7) + k) 4 = T 102 ((T 100 (T 109 0 5 - 1) 7) + k) 4 := hf_56 102 ((T 100 (T 109 0 5 - 1) 7) + k) 4 rfl
                    rw [e34] at b33 b33b ⊢
                    refine ix_i (by omega) ?_
                    intro b35 b35b
                    have e36 : T2 404 (T 109 0 5 - 1) (T 102 ((T 100 (T 109 0 5 - 1) 7) + k) 4) = T 404 (T 109 0 5 - 1) (T 102 ((T 100 (T 109 0 5 - 1) 7) + k) 4) := hf_56 404 (T 109 0 5 - 1) (T 102 ((T 100 (T 109 0 5 - 1) 7) + k) 4) rfl
                    have e37 : T2 404 (T2 109 0 5 - 1) (T 102 ((T 100 (T 109 0 5 - 1) 7) + k) 4) = T 404 (T 109 0 5 - 1) (T 102 ((T 100 (T 109 0 5 - 1) 7) + k) 4) := by rw [e32]; exact e36
                    rw [e37] at b35 b35b ⊢
                    refine ix_i (by omega) ?_
                    intro b38 b38b
                    have e40 : T2 109 0 5 = T 109 0 5 := hf_56 109 0 5 rfl
                    refine And.intro (fun c39 => ?_) (fun c39 => ?_)
                    · exact absurd c39 (by omega)
                    · refine And.intro (fun c41 => ?_) (fun c41 => ?_)
                      · refine hK 151 [some (vR 109 0), some (vI t), some (vI k), some (vR 102 ((T 100 (T 109 0 5 - 1) 7) + k)), some (vI (T 404 (T 109 0 5 - 1) (T 102 ((T 100 (T 109 0 5 - 1) 7) + k) 3))), some (vI (T 404 (T 109 0 5 - 1) (T 102 ((T 100 (T 109 0 5 - 1) 7) + k) 4)))] [vR 401 (T2 109 0 5 - 1), vI (T2 587 0 (T 404 (T 109 0 5 - 1) (T 102 ((T 100 (T 109 0 5 - 1) 7) + k) 3))), vI (T 404 (T 109 0 5 - 1) (T 102 ((T 100 (T 109 0 5 - 1) 7) + k) 3)), vR 587 0] T2 ?_
                        refine j_blx (F := fX9) tb_X9 (nn_ _) bk_X9_takePoints_e_151 bs_X9_takePoints_e_151 hz (fun K hK => ?_)
                        refine ix_i (by omega) ?_
                        intro b42 b42b
                        have e43 : T2 401 (T 109 0 5 - 1) 3 = T 401 (T 109 0 5 - 1) 3 := hf_56 401 (T 109 0 5 - 1) 3 rfl
                        have e44 : T2 401 (T2 109 0 5 - 1) 3 = T 401 (T 109 0 5 - 1) 3 := by rw [e40]; exact e43
                        rw [e44] at b42 b42b ⊢
                        intro w45 w45b
                        refine iy_i (by omega) (by omega) ?_
                        refine x_nm (fun U46 hU46 => ?_)
                        have e47 := up_f hU46
                        refine ix_i (by omega) ?_
                        intro b48 b48b
                        have e50 : U46 109 0 5 = T 109 0 5 := (up_k hU46 (by exact Nat.ne_of_beq_eq_false rfl) 0 5).trans (hf_56 109 0 5 rfl)
                        refine And.intro (fun c49 => ?_) (fun c49 => ?_)
                        · exact absurd c49 (by omega)
                        · refine And.intro (fun c51 => ?_) (fun c51 => ?_)
                          · refine hK 180 _ [vR 401 (U46 109 0 5 - 1), vI (U46 587 0 (T 404 (T 109 0 5 - 1) (T 102 ((T 100 (T 109 0 5 - 1) 7) + k) 4))), vI (T 404 (T 109 0 5 - 1) (T 102 ((T 100 (T 109 0 5 - 1) 7) + k) 4)), vR 587 0] U46 ?_
                            refine j_blx (F := fX9) tb_X9 (nn_ _) bk_X9_takePoints_e_180 bs_X9_takePoints_e_180 hz (fun K hK => ?_)
                            refine ix_i (by omega) ?_
                            intro b52 b52b
                            have e53 : U46 401 (T 109 0 5 - 1) 3 = T 401 (T 109 0 5 - 1) 3 := (up_k hU46 (by exact Nat.ne_of_beq_eq_false rfl) (T 109 0 5 - 1) 3).trans (hf_56 401 (T 109 0 5 - 1) 3 rfl)
                            have e54 : U46 401 (U46 109 0 5 - 1) 3 = T 401 (T 109 0 5 - 1) 3 := by rw [e50]; exact e53
                            rw [e54] at b52 b52b ⊢
                            intro w55 w55b
                            refine iy_i (by omega) (by omega) ?_
                            refine x_nm (fun U56 hU56 => ?_)
                            have e57 := up_f hU56
                            refine rg_i (by omega) ?_
                            refine hK 56 [some (vR 109 0), some (vI t), some (vI (k + 1)), some (vR 102 ((T 100 (T 109 0 5 - 1) 7) + k)), some (vI (T 404 (T 109 0 5 - 1) (T 102 ((T 100 (T 109 0 5 - 1) 7) + k) 3))), some (vI (T 404 (T 109 0 5 - 1) (T 102 ((T 100 (T 109 0 5 - 1) 7) + k) 4)))] [] U56 ?_
                            refine j_drq [some (vR 109 0), some (vI t), some (vI (k + 1)), none, none, none] (drq_s (drq_s (drq_s (drq_n (drq_n (drq_n drq_0)))))) ?_
                            refine ih_56 _ ?_ (k + 1) U56 (Nat.le_refl _) ?_ ?_ ?_
                            · have hm_56 := hm_56 (); omega
                            · exact fr_u (fr_u (fr_t (fr_0 _ _) (fr_s hf_56 rfl)) hU46 rfl) hU56 rfl
                            · omega
                            · have ke : (k + 1).toNat = k.toNat + 1 := by omega
                              have kc : ((k.toNat : Nat) : Int) = k := by omega
                              have r9 : T2 584 0 (T 100 (T 109 0 5 - 1) 7 + k) = T 584 0 (T 100 (T 109 0 5 - 1) 7 + k) := hf_56 584 0 _ rfl
                              have n9 := hkm (T 100 (T 109 0 5 - 1) 7 + k) (by omega) (by omega)
                              have r8 : T 584 0 (T 102 (T 100 (T 109 0 5 - 1) 7 + k) 1) = T 584 0 (T 100 (T 109 0 5 - 1) 7 + k) := by rw [n9.1]
                              have r7 : T2 584 0 (T 102 (T 100 (T 109 0 5 - 1) 7 + k) 1) = T 584 0 (T 102 (T 100 (T 109 0 5 - 1) 7 + k) 1) := hf_56 584 0 _ rfl
                              have o9 : ∀ x, os7_ T (T 109 0 5 - 1) t x (k + 1).toNat = os7_ T (T 109 0 5 - 1) t x k.toNat + ow7_ T (T 109 0 5 - 1) t x k := fun x => by rw [ke]; show _ + ow7_ T (T 109 0 5 - 1) t x ((k.toNat : Nat) : Int) = _; rw [kc]
                              have h9 : T 404 (T 109 0 5 - 1) (T 102 ((T 100 (T 109 0 5 - 1) 7) + k) 3) = T 404 (T 109 0 5 - 1) (T 102 (T 100 (T 109 0 5 - 1) 7 + k) 3) := by omega
                              have a9 : T 404 (T 109 0 5 - 1) (T 102 ((T 100 (T 109 0 5 - 1) 7) + k) 4) = T 404 (T 109 0 5 - 1) (T 102 (T 100 (T 109 0 5 - 1) 7 + k) 4) := by omega
                              refine pv7_e (pv7_u (y := (cz_ (T 404 (T 109 0 5 - 1) (T 102 ((T 100 (T 109 0 5 - 1) 7) + k) 4) = t) (T 401 (T 109 0 5 - 1) 1) (T 401 (T 109 0 5 - 1) 3))) (pv7_u (y := (cz_ (T 404 (T 109 0 5 - 1) (T 102 ((T 100 (T 109 0 5 - 1) 7) + k) 3) = t) (T 401 (T 109 0 5 - 1) 1) (T 401 (T 109 0 5 - 1) 3))) p2 hU46 ?_) hU56 ?_) (fun x a b => ?_)
                              · first
                                | (rw [cz_t (by omega)])
                                | (rw [cz_f (by omega)])
                              · first
                                | (rw [cz_t (by omega)])
                                | (rw [cz_f (by omega)])
                              · show _ = pp7_ T (T 109 0 5 - 1) x + os7_ T (T 109 0 5 - 1) t x (k + 1).toNat
                                rw [o9 x, show ow7_ T (T 109 0 5 - 1) t x k = _ from cz_f (by omega), ← h9, ← a9]
                                show pp7_ T (T 109 0 5 - 1) x + os7_ T (T 109 0 5 - 1) t x k.toNat + cz_ (x = T 404 (T 109 0 5 - 1) (T 102 ((T 100 (T 109 0 5 - 1) 7) + k) 3)) (cz_ (T 404 (T 109 0 5 - 1) (T 102 ((T 100 (T 109 0 5 - 1) 7) + k) 3) = t) (T 401 (T 109 0 5 - 1) 1) (T 401 (T 109 0 5 - 1) 3)) 0 + cz_ (x = T 404 (T 109 0 5 - 1) (T 102 ((T 100 (T 109 0 5 - 1) 7) + k) 4)) (cz_ (T 404 (T 109 0 5 - 1) (T 102 ((T 100 (T 109 0 5 - 1) 7) + k) 4) = t) (T 401 (T 109 0 5 - 1) 1) (T 401 (T 109 0 5 - 1) 3)) 0 = pp7_ T (T 109 0 5 - 1) x + (os7_ T (T 109 0 5 - 1) t x k.toNat + (cz_ (x = T 404 (T 109 0 5 - 1) (T 102 ((T 100 (T 109 0 5 - 1) 7) + k) 3)) (cz_ (x = t) (T 401 (T 109 0 5 - 1) 1) (T 401 (T 109 0 5 - 1) 3)) 0 + cz_ (x = T 404 (T 109 0 5 - 1) (T 102 ((T 100 (T 109 0 5 - 1) 7) + k) 4)) (cz_ (x = t) (T 401 (T 109 0 5 - 1) 1) (T 401 (T 109 0 5 - 1) 3)) 0))
                                have e1 : cz_ (x = T 404 (T 109 0 5 - 1) (T 102 ((T 100 (T 109 0 5 - 1) 7) + k) 3)) (cz_ (T 404 (T 109 0 5 - 1) (T 102 ((T 100 (T 109 0 5 - 1) 7) + k) 3) = t) (T 401 (T 109 0 5 - 1) 1) (T 401 (T 109 0 5 - 1) 3)) 0 = cz_ (x = T 404 (T 109 0 5 - 1) (T 102 ((T 100 (T 109 0 5 - 1) 7) + k) 3)) (cz_ (x = t) (T 401 (T 109 0 5 - 1) 1) (T 401 (T 109 0 5 - 1) 3)) 0 := by
                                  by_cases z : x = T 404 (T 109 0 5 - 1) (T 102 ((T 100 (T 109 0 5 - 1) 7) + k) 3)
                                  · rw [z]
                                  · rw [cz_f z, cz_f z]
                                have e2 : cz_ (x = T 404 (T 109 0 5 - 1) (T 102 ((T 100 (T 109 0 5 - 1) 7) + k) 4)) (cz_ (T 404 (T 109 0 5 - 1) (T 102 ((T 100 (T 109 0 5 - 1) 7) + k) 4) = t) (T 401 (T 109 0 5 - 1) 1) (T 401 (T 109 0 5 - 1) 3)) 0 = cz_ (x = T 404 (T 109 0 5 - 1) (T 102 ((T 100 (T 109 0 5 - 1) 7) + k) 4)) (cz_ (x = t) (T 401 (T 109 0 5 - 1) 1) (T 401 (T 109 0 5 - 1) 3)) 0 := by
                                  by_cases z : x = T 404 (T 109 0 5 - 1) (T 102 ((T 100 (T 109 0 5 - 1) 7) + k) 4)
                                  · rw [z]
                                  · rw [cz_f z, cz_f z]
                                omega
                          · refine hK 181 [some (vR 109 0), some (vI t), some (vI k), some (vR 102 ((T 100 (T 109 0 5 - 1) 7) + k)), some (vI (T 404 (T 109 0 5 - 1) (T 102 ((T 100 (T 109 0 5 - 1) 7) + k) 3))), some (vI (T 404 (T 109 0 5 - 1) (T 102 ((T 100 (T 109 0 5 - 1) 7) + k) 4)))] [vI 1, vR 401 (U46 109 0 5 - 1), vI (U46 587 0 (T 404 (T 109 0 5 - 1) (T 102 ((T 100 (T 109 0 5 - 1) 7) + k) 4))), vI (T 404 (T 109 0 5 - 1) (T 102 ((T 100 (T 109 0 5 - 1) 7) + k) 4)), vR 587 0] U46 ?_
                            refine j_blx (F := fX9) tb_X9 (nn_ _) bk_X9_takePoints_e_181 bs_X9_takePoints_e_181 hz (fun K hK => ?_)
                            refine ix_i (by omega) ?_
                            intro b58 b58b
                            have e59 : U46 401 (T 109 0 5 - 1) 1 = T 401 (T 109 0 5 - 1) 1 := (up_k hU46 (by exact Nat.ne_of_beq_eq_false rfl) (T 109 0 5 - 1) 1).trans (hf_56 401 (T 109 0 5 - 1) 1 rfl)
                            have e60 : U46 401 (U46 109 0 5 - 1) 1 = T 401 (T 109 0 5 - 1) 1 := by rw [e50]; exact e59
                            rw [e60] at b58 b58b ⊢
                            intro w61 w61b
                            refine iy_i (by omega) (by omega) ?_
                            refine x_nm (fun U62 hU62 => ?_)
                            have e63 := up_f hU62
                            refine rg_i (by omega) ?_
                            refine hK 56 [some (vR 109 0), some (vI t), some (vI (k + 1)), some (vR 102 ((T 100 (T 109 0 5 - 1) 7) + k)), some (vI (T 404 (T 109 0 5 - 1) (T 102 ((T 100 (T 109 0 5 - 1) 7) + k) 3))), some (vI (T 404 (T 109 0 5 - 1) (T 102 ((T 100 (T 109 0 5 - 1) 7) + k) 4)))] [] U62 ?_
                            refine j_drq [some (vR 109 0), some (vI t), some (vI (k + 1)), none, none, none] (drq_s (drq_s (drq_s (drq_n (drq_n (drq_n drq_0)))))) ?_
                            refine ih_56 _ ?_ (k + 1) U62 (Nat.le_refl _) ?_ ?_ ?_
                            · have hm_56 := hm_56 (); omega
                            · exact fr_u (fr_u (fr_t (fr_0 _ _) (fr_s hf_56 rfl)) hU46 rfl) hU62 rfl
                            · omega
                            · have ke : (k + 1).toNat = k.toNat + 1 := by omega
                              have kc : ((k.toNat : Nat) : Int) = k := by omega
                              have r9 : T2 584 0 (T 100 (T 109 0 5 - 1) 7 + k) = T 584 0 (T 100 (T 109 0 5 - 1) 7 + k) := hf_56 584 0 _ rfl
                              have n9 := hkm (T 100 (T 109 0 5 - 1) 7 + k) (by omega) (by omega)
                              have r8 : T 584 0 (T 102 (T 100 (T 109 0 5 - 1) 7 + k) 1) = T 584 0 (T 100 (T 109 0 5 - 1) 7 + k) := by rw [n9.1]
                              have r7 : T2 584 0 (T 102 (T 100 (T 109 0 5 - 1) 7 + k) 1) = T 584 0 (T 102 (T 100 (T 109 0 5 - 1) 7 + k) 1) := hf_56 584 0 _ rfl
                              have o9 : ∀ x, os7_ T (T 109 0 5 - 1) t x (k + 1).toNat = os7_ T (T 109 0 5 - 1) t x k.toNat + ow7_ T (T 109 0 5 - 1) t x k := fun x => by rw [ke]; show _ + ow7_ T (T 109 0 5 - 1) t x ((k.toNat : Nat) : Int) = _; rw [kc]
                              have h9 : T 404 (T 109 0 5 - 1) (T 102 ((T 100 (T 109 0 5 - 1) 7) + k) 3) = T 404 (T 109 0 5 - 1) (T 102 (T 100 (T 109 0 5 - 1) 7 + k) 3) := by omega
                              have a9 : T 404 (T 109 0 5 - 1) (T 102 ((T 100 (T 109 0 5 - 1) 7) + k) 4) = T 404 (T 109 0 5 - 1) (T 102 (T 100 (T 109 0 5 - 1) 7 + k) 4) := by omega
                              refine pv7_e (pv7_u (y := (cz_ (T 404 (T 109 0 5 - 1) (T 102 ((T 100 (T 109 0 5 - 1) 7) + k) 4) = t) (T 401 (T 109 0 5 - 1) 1) (T 401 (T 109 0 5 - 1) 3))) (pv7_u (y := (cz_ (T 404 (T 109 0 5 - 1) (T 102 ((T 100 (T 109 0 5 - 1) 7) + k) 3) = t) (T 401 (T 109 0 5 - 1) 1) (T 401 (T 109 0 5 - 1) 3))) p2 hU46 ?_) hU62 ?_) (fun x a b => ?_)
                              · first
                                | (rw [cz_t (by omega)])
                                | (rw [cz_f (by omega)])
                              · first
                                | (rw [cz_t (by omega)])
                                | (rw [cz_f (by omega)])
                              · show _ = pp7_ T (T 109 0 5 - 1) x + os7_ T (T 109 0 5 - 1) t x (k + 1).toNat
                                rw [o9 x, show ow7_ T (T 109 0 5 - 1) t x k = _ from cz_f (by omega), ← h9, ← a9]
                                show pp7_ T (T 109 0 5 - 1) x + os7_ T (T 109 0 5 - 1) t x k.toNat + cz_ (x = T 404 (T 109 0 5 - 1) (T 102 ((T 100 (T 109 0 5 - 1) 7) + k) 3)) (cz_ (T 404 (T 109 0 5 - 1) (T 102 ((T 100 (T 109 0 5 - 1) 7) + k) 3) = t) (T 401 (T 109 0 5 - 1) 1) (T 401 (T 109 0 5 - 1) 3)) 0 + cz_ (x = T 404 (T 109 0 5 - 1) (T 102 ((T 100 (T 109 0 5 - 1) 7) + k) 4)) (cz_ (T 404 (T 109 0 5 - 1) (T 102 ((T 100 (T 109 0 5 - 1) 7) + k) 4) = t) (T 401 (T 109 0 5 - 1) 1) (T 401 (T 109 0 5 - 1) 3)) 0 = pp7_ T (T 109 0 5 - 1) x + (os7_ T (T 109 0 5 - 1) t x k.toNat + (cz_ (x = T 404 (T 109 0 5 - 1) (T 102 ((T 100 (T 109 0 5 - 1) 7) + k) 3)) (cz_ (x = t) (T 401 (T 109 0 5 - 1) 1) (T 401 (T 109 0 5 - 1) 3)) 0 + cz_ (x = T 404 (T 109 0 5 - 1) (T 102 ((T 100 (T 109 0 5 - 1) 7) + k) 4)) (cz_ (x = t) (T 401 (T 109 0 5 - 1) 1) (T 401 (T 109 0 5 - 1) 3)) 0))
                                have e1 : cz_ (x = T 404 (T 109 0 5 - 1) (T 102 ((T 100 (T 109 0 5 - 1) 7) + k) 3)) (cz_ (T 404 (T 109 0 5 - 1) (T 102 ((T 100 (T 109 0 5 - 1) 7) + k) 3) = t) (T 401 (T 109 0 5 - 1) 1) (T 401 (T 109 0 5 - 1) 3)) 0 = cz_ (x = T 404 (T 109 0 5 - 1) (T 102 ((T 100 (T 109 0 5 - 1) 7) + k) 3)) (cz_ (x = t) (T 401 (T 109 0 5 - 1) 1) (T 401 (T 109 0 5 - 1) 3)) 0 := by
                                  by_cases z : x = T 404 (T 109 0 5 - 1) (T 102 ((T 100 (T 109 0 5 - 1) 7) + k) 3)
                                  · rw [z]
                                  · rw [cz_f z, cz_f z]
                                have e2 : cz_ (x = T 404 (T 109 0 5 - 1) (T 102 ((T 100 (T 109 0 5 - 1) 7) + k) 4)) (cz_ (T 404 (T 109 0 5 - 1) (T 102 ((T 100 (T 109 0 5 - 1) 7) + k) 4) = t) (T 401 (T 109 0 5 - 1) 1) (T 401 (T 109 0 5 - 1) 3)) 0 = cz_ (x = T 404 (T 109 0 5 - 1) (T 102 ((T 100 (T 109 0 5 - 1) 7) + k) 4)) (cz_ (x = t) (T 401 (T 109 0 5 - 1) 1) (T 401 (T 109 0 5 - 1) 3)) 0 := by
                                  by_cases z : x = T 404 (T 109 0 5 - 1) (T 102 ((T 100 (T 109 0 5 - 1) 7) + k) 4)
                                  · rw [z]
                                  · rw [cz_f z, cz_f z]
                                omega
                      · refine hK 152 _ [vI 1, vR 401 (T2 109 0 5 - 1), vI (T2 587 0 (T 404 (T 109 0 5 - 1) (T 102 ((T 100 (T 109 0 5 - 1) 7) + k) 3))), vI (T 404 (T 109 0 5 - 1) (T 102 ((T 100 (T 109 0 5 - 1) 7) + k) 3)), vR 587 0] T2 ?_
                        refine j_blx (F := fX9) tb_X9 (nn_ _) bk_X9_takePoints_e_152 bs_X9_takePoints_e_152 hz (fun K hK => ?_)
                        refine ix_i (by omega) ?_
                        intro b64 b64b
                        have e65 : T2 401 (T 109 0 5 - 1) 1 = T 401 (T 109 0 5 - 1) 1 := hf_56 401 (T 109 0 5 - 1) 1 rfl
                        have e66 : T2 401 (T2 109 0 5 - 1) 1 = T 401 (T 109 0 5 - 1) 1 := by rw [e40]; exact e65
                        rw [e66] at b64 b64b ⊢
                        intro w67 w67b
                        refine iy_i (by omega) (by omega) ?_
                        refine x_nm (fun U68 hU68 => ?_)
                        have e69 := up_f hU68
                        refine ix_i (by omega) ?_
                        intro b70 b70b
                        have e72 : U68 109 0 5 = T 109 0 5 := (up_k hU68 (by exact Nat.ne_of_beq_eq_false rfl) 0 5).trans (hf_56 109 0 5 rfl)
                        refine And.intro (fun c71 => ?_) (fun c71 => ?_)
                        · exact absurd c71 (by omega)
                        · refine And.intro (fun c73 => ?_) (fun c73 => ?_)
                          · refine hK 180 _ [vR 401 (U68 109 0 5 - 1), vI (U68 587 0 (T 404 (T 109 0 5 - 1) (T 102 ((T 100 (T 109 0 5 - 1) 7) + k) 4))), vI (T 404 (T 109 0 5 - 1) (T 102 ((T 100 (T 109 0 5 - 1) 7) + k) 4)), vR 587 0] U68 ?_
                            refine j_blx (F := fX9) tb_X9 (nn_ _) bk_X9_takePoints_e_180 bs_X9_takePoints_e_180 hz (fun K hK => ?_)
                            refine ix_i (by omega) ?_
                            intro b74 b74b
                            have e75 : U68 401 (T 109 0 5 - 1) 3 = T 401 (T 109 0 5 - 1) 3 := (up_k hU68 (by exact Nat.ne_of_beq_eq_false rfl) (T 109 0 5 - 1) 3).trans (hf_56 401 (T 109 0 5 - 1) 3 rfl)
                            have e76 : U68 401 (U68 109 0 5 - 1) 3 = T 401 (T 109 0 5 - 1) 3 := by rw [e72]; exact e75
                            rw [e76] at b74 b74b ⊢
                            intro w77 w77b
                            refine iy_i (by omega) (by omega) ?_
                            refine x_nm (fun U78 hU78 => ?_)
                            have e79 := up_f hU78
                            refine rg_i (by omega) ?_
                            refine hK 56 [some (vR 109 0), some (vI t), some (vI (k + 1)), some (vR 102 ((T 100 (T 109 0 5 - 1) 7) + k)), some (vI (T 404 (T 109 0 5 - 1) (T 102 ((T 100 (T 109 0 5 - 1) 7) + k) 3))), some (vI (T 404 (T 109 0 5 - 1) (T 102 ((T 100 (T 109 0 5 - 1) 7) + k) 4)))] [] U78 ?_
                            refine j_drq [some (vR 109 0), some (vI t), some (vI (k + 1)), none, none, none] (drq_s (drq_s (drq_s (drq_n (drq_n (drq_n drq_0)))))) ?_
                            refine ih_56 _ ?_ (k + 1) U78 (Nat.le_refl _) ?_ ?_ ?_
                            · have hm_56 := hm_56 (); omega
                            · exact fr_u (fr_u (fr_t (fr_0 _ _) (fr_s hf_56 rfl)) hU68 rfl) hU78 rfl
                            · omega
                            · have ke : (k + 1).toNat = k.toNat + 1 := by omega
                              have kc : ((k.toNat : Nat) : Int) = k := by omega
                              have r9 : T2 584 0 (T 100 (T 109 0 5 - 1) 7 + k) = T 584 0 (T 100 (T 109 0 5 - 1) 7 + k) := hf_56 584 0 _ rfl
                              have n9 := hkm (T 100 (T 109 0 5 - 1) 7 + k) (by omega) (by omega)
                              have r8 : T 584 0 (T 102 (T 100 (T 109 0 5 - 1) 7 + k) 1) = T 584 0 (T 100 (T 109 0 5 - 1) 7 + k) := by rw [n9.1]
                              have r7 : T2 584 0 (T 102 (T 100 (T 109 0 5 - 1) 7 + k) 1) = T 584 0 (T 102 (T 100 (T 109 0 5 - 1) 7 + k) 1) := hf_56 584 0 _ rfl
                              have o9 : ∀ x, os7_ T (T 109 0 5 - 1) t x (k + 1).toNat = os7_ T (T 109 0 5 - 1) t x k.toNat + ow7_ T (T 109 0 5 - 1) t x k := fun x => by rw [ke]; show _ + ow7_ T (T 109 0 5 - 1) t x ((k.toNat : Nat) : Int) = _; rw [kc]
                              have h9 : T 404 (T 109 0 5 - 1) (T 102 ((T 100 (T 109 0 5 - 1) 7) + k) 3) = T 404 (T 109 0 5 - 1) (T 102 (T 100 (T 109 0 5 - 1) 7 + k) 3) := by omega
                              have a9 : T 404 (T 109 0 5 - 1) (T 102 ((T 100 (T 109 0 5 - 1) 7) + k) 4) = T 404 (T 109 0 5 - 1) (T 102 (T 100 (T 109 0 5 - 1) 7 + k) 4) := by omega
                              refine pv7_e (pv7_u (y := (cz_ (T 404 (T 109 0 5 - 1) (T 102 ((T 100 (T 109 0 5 - 1) 7) + k) 4) = t) (T 401 (T 109 0 5 - 1) 1) (T 401 (T 109 0 5 - 1) 3))) (pv7_u (y := (cz_ (T 404 (T 109 0 5 - 1) (T 102 ((T 100 (T 109 0 5 - 1) 7) + k) 3) = t) (T 401 (T 109 0 5 - 1) 1) (T 401 (T 109 0 5 - 1) 3))) p2 hU68 ?_) hU78 ?_) (fun x a b => ?_)
                              · first
                                | (rw [cz_t (by omega)])
                                | (rw [cz_f (by omega)])
                              · first
                                | (rw [cz_t (by omega)])
                                | (rw [cz_f (by omega)])
                              · show _ = pp7_ T (T 109 0 5 - 1) x + os7_ T (T 109 0 5 - 1) t x (k + 1).toNat
                                rw [o9 x, show ow7_ T (T 109 0 5 - 1) t x k = _ from cz_f (by omega), ← h9, ← a9]
                                show pp7_ T (T 109 0 5 - 1) x + os7_ T (T 109 0 5 - 1) t x k.toNat + cz_ (x = T 404 (T 109 0 5 - 1) (T 102 ((T 100 (T 109 0 5 - 1) 7) + k) 3)) (cz_ (T 404 (T 109 0 5 - 1) (T 102 ((T 100 (T 109 0 5 - 1) 7) + k) 3) = t) (T 401 (T 109 0 5 - 1) 1) (T 401 (T 109 0 5 - 1) 3)) 0 + cz_ (x = T 404 (T 109 0 5 - 1) (T 102 ((T 100 (T 109 0 5 - 1) 7) + k) 4)) (cz_ (T 404 (T 109 0 5 - 1) (T 102 ((T 100 (T 109 0 5 - 1) 7) + k) 4) = t) (T 401 (T 109 0 5 - 1) 1) (T 401 (T 109 0 5 - 1) 3)) 0 = pp7_ T (T 109 0 5 - 1) x + (os7_ T (T 109 0 5 - 1) t x k.toNat + (cz_ (x = T 404 (T 109 0 5 - 1) (T 102 ((T 100 (T 109 0 5 - 1) 7) + k) 3)) (cz_ (x = t) (T 401 (T 109 0 5 - 1) 1) (T 401 (T 109 0 5 - 1) 3)) 0 + cz_ (x = T 404 (T 109 0 5 - 1) (T 102 ((T 100 (T 109 0 5 - 1) 7) + k) 4)) (cz_ (x = t) (T 401 (T 109 0 5 - 1) 1) (T 401 (T 109 0 5 - 1) 3)) 0))
                                have e1 : cz_ (x = T 404 (T 109 0 5 - 1) (T 102 ((T 100 (T 109 0 5 - 1) 7) + k) 3)) (cz_ (T 404 (T 109 0 5 - 1) (T 102 ((T 100 (T 109 0 5 - 1) 7) + k) 3) = t) (T 401 (T 109 0 5 - 1) 1) (T 401 (T 109 0 5 - 1) 3)) 0 = cz_ (x = T 404 (T 109 0 5 - 1) (T 102 ((T 100 (T 109 0 5 - 1) 7) + k) 3)) (cz_ (x = t) (T 401 (T 109 0 5 - 1) 1) (T 401 (T 109 0 5 - 1) 3)) 0 := by
                                  by_cases z : x = T 404 (T 109 0 5 - 1) (T 102 ((T 100 (T 109 0 5 - 1) 7) + k) 3)
                                  · rw [z]
                                  · rw [cz_f z, cz_f z]
                                have e2 : cz_ (x = T 404 (T 109 0 5 - 1) (T 102 ((T 100 (T 109 0 5 - 1) 7) + k) 4)) (cz_ (T 404 (T 109 0 5 - 1) (T 102 ((T 100 (T 109 0 5 - 1) 7) + k) 4) = t) (T 401 (T 109 0 5 - 1) 1) (T 401 (T 109 0 5 - 1) 3)) 0 = cz_ (x = T 404 (T 109 0 5 - 1) (T 102 ((T 100 (T 109 0 5 - 1) 7) + k) 4)) (cz_ (x = t) (T 401 (T 109 0 5 - 1) 1) (T 401 (T 109 0 5 - 1) 3)) 0 := by
                                  by_cases z : x = T 404 (T 109 0 5 - 1) (T 102 ((T 100 (T 109 0 5 - 1) 7) + k) 4)
                                  · rw [z]
                                  · rw [cz_f z, cz_f z]
                                omega
                          · refine hK 181 [some (vR 109 0), some (vI t), some (vI k), some (vR 102 ((T 100 (T 109 0 5 - 1) 7) + k)), some (vI (T 404 (T 109 0 5 - 1) (T 102 ((T 100 (T 109 0 5 - 1) 7) + k) 3))), some (vI (T 404 (T 109 0 5 - 1) (T 102 ((T 100 (T 109 0 5 - 1) 7) + k) 4)))] [vI 1, vR 401 (U68 109 0 5 - 1), vI (U68 587 0 (T 404 (T 109 0 5 - 1) (T 102 ((T 100 (T 109 0 5 - 1) 7) + k) 4))), vI (T 404 (T 109 0 5 - 1) (T 102 ((T 100 (T 109 0 5 - 1) 7) + k) 4)), vR 587 0] U68 ?_
                            refine j_blx (F := fX9) tb_X9 (nn_ _) bk_X9_takePoints_e_181 bs_X9_takePoints_e_181 hz (fun K hK => ?_)
                            refine ix_i (by omega) ?_
                            intro b80 b80b
                            have e81 : U68 401 (T 109 0 5 - 1) 1 = T 401 (T 109 0 5 - 1) 1 := (up_k hU68 (by exact Nat.ne_of_beq_eq_false rfl) (T 109 0 5 - 1) 1).trans (hf_56 401 (T 109 0 5 - 1) 1 rfl)
                            have e82 : U68 401 (U68 109 0 5 - 1) 1 = T 401 (T 109 0 5 - 1) 1 := by rw [e72]; exact e81
                            rw [e82] at b80 b80b ⊢
                            intro w83 w83b
                            refine iy_i (by omega) (by omega) ?_
                            refine x_nm (fun U84 hU84 => ?_)
                            have e85 := up_f hU84
                            refine rg_i (by omega) ?_
                            refine hK 56 [some (vR 109 0), some (vI t), some (vI (k + 1)), some (vR 102 ((T 100 (T 109 0 5 - 1) 7) + k)), some (vI (T 404 (T 109 0 5 - 1) (T 102 ((T 100 (T 109 0 5 - 1) 7) + k) 3))), some (vI (T 404 (T 109 0 5 - 1) (T 102 ((T 100 (T 109 0 5 - 1) 7) + k) 4)))] [] U84 ?_
                            refine j_drq [some (vR 109 0), some (vI t), some (vI (k + 1)), none, none, none] (drq_s (drq_s (drq_s (drq_n (drq_n (drq_n drq_0)))))) ?_
                            refine ih_56 _ ?_ (k + 1) U84 (Nat.le_refl _) ?_ ?_ ?_
                            · have hm_56 := hm_56 (); omega
                            · exact fr_u (fr_u (fr_t (fr_0 _ _) (fr_s hf_56 rfl)) hU68 rfl) hU84 rfl
                            · omega
                            · have ke : (k + 1).toNat = k.toNat + 1 := by omega
                              have kc : ((k.toNat : Nat) : Int) = k := by omega
                              have r9 : T2 584 0 (T 100 (T 109 0 5 - 1) 7 + k) = T 584 0 (T 100 (T 109 0 5 - 1) 7 + k) := hf_56 584 0 _ rfl
                              have n9 := hkm (T 100 (T 109 0 5 - 1) 7 + k) (by omega) (by omega)
                              have r8 : T 584 0 (T 102 (T 100 (T 109 0 5 - 1) 7 + k) 1) = T 584 0 (T 100 (T 109 0 5 - 1) 7 + k) := by rw [n9.1]
                              have r7 : T2 584 0 (T 102 (T 100 (T 109 0 5 - 1) 7 + k) 1) = T 584 0 (T 102 (T 100 (T 109 0 5 - 1) 7 + k) 1) := hf_56 584 0 _ rfl
                              have o9 : ∀ x, os7_ T (T 109 0 5 - 1) t x (k + 1).toNat = os7_ T (T 109 0 5 - 1) t x k.toNat + ow7_ T (T 109 0 5 - 1) t x k := fun x => by rw [ke]; show _ + ow7_ T (T 109 0 5 - 1) t x ((k.toNat : Nat) : Int) = _; rw [kc]
                              have h9 : T 404 (T 109 0 5 - 1) (T 102 ((T 100 (T 109 0 5 - 1) 7) + k) 3) = T 404 (T 109 0 5 - 1) (T 102 (T 100 (T 109 0 5 - 1) 7 + k) 3) := by omega
                              have a9 : T 404 (T 109 0 5 - 1) (T 102 ((T 100 (T 109 0 5 - 1) 7) + k) 4) = T 404 (T 109 0 5 - 1) (T 102 (T 100 (T 109 0 5 - 1) 7 + k) 4) := by omega
                              refine pv7_e (pv7_u (y := (cz_ (T 404 (T 109 0 5 - 1) (T 102 ((T 100 (T 109 0 5 - 1) 7) + k) 4) = t) (T 401 (T 109 0 5 - 1) 1) (T 401 (T 109 0 5 - 1) 3))) (pv7_u (y := (cz_ (T 404 (T 109 0 5 - 1) (T 102 ((T 100 (T 109 0 5 - 1) 7) + k) 3) = t) (T 401 (T 109 0 5 - 1) 1) (T 401 (T 109 0 5 - 1) 3))) p2 hU68 ?_) hU84 ?_) (fun x a b => ?_)
                              · first
                                | (rw [cz_t (by omega)])
                                | (rw [cz_f (by omega)])
                              · first
                                | (rw [cz_t (by omega)])
                                | (rw [cz_f (by omega)])
                              · show _ = pp7_ T (T 109 0 5 - 1) x + os7_ T (T 109 0 5 - 1) t x (k + 1).toNat
                                rw [o9 x, show ow7_ T (T 109 0 5 - 1) t x k = _ from cz_f (by omega), ← h9, ← a9]
                                show pp7_ T (T 109 0 5 - 1) x + os7_ T (T 109 0 5 - 1) t x k.toNat + cz_ (x = T 404 (T 109 0 5 - 1) (T 102 ((T 100 (T 109 0 5 - 1) 7) + k) 3)) (cz_ (T 404 (T 109 0 5 - 1) (T 102 ((T 100 (T 109 0 5 - 1) 7) + k) 3) = t) (T 401 (T 109 0 5 - 1) 1) (T 401 (T 109 0 5 - 1) 3)) 0 + cz_ (x = T 404 (T 109 0 5 - 1) (T 102 ((T 100 (T 109 0 5 - 1) 7) + k) 4)) (cz_ (T 404 (T 109 0 5 - 1) (T 102 ((T 100 (T 109 0 5 - 1) 7) + k) 4) = t) (T 401 (T 109 0 5 - 1) 1) (T 401 (T 109 0 5 - 1) 3)) 0 = pp7_ T (T 109 0 5 - 1) x + (os7_ T (T 109 0 5 - 1) t x k.toNat + (cz_ (x = T 404 (T 109 0 5 - 1) (T 102 ((T 100 (T 109 0 5 - 1) 7) + k) 3)) (cz_ (x = t) (T 401 (T 109 0 5 - 1) 1) (T 401 (T 109 0 5 - 1) 3)) 0 + cz_ (x = T 404 (T 109 0 5 - 1) (T 102 ((T 100 (T 109 0 5 - 1) 7) + k) 4)) (cz_ (x = t) (T 401 (T 109 0 5 - 1) 1) (T 401 (T 109 0 5 - 1) 3)) 0))
                                have e1 : cz_ (x = T 404 (T 109 0 5 - 1) (T 102 ((T 100 (T 109 0 5 - 1) 7) + k) 3)) (cz_ (T 404 (T 109 0 5 - 1) (T 102 ((T 100 (T 109 0 5 - 1) 7) + k) 3) = t) (T 401 (T 109 0 5 - 1) 1) (T 401 (T 109 0 5 - 1) 3)) 0 = cz_ (x = T 404 (T 109 0 5 - 1) (T 102 ((T 100 (T 109 0 5 - 1) 7) + k) 3)) (cz_ (x = t) (T 401 (T 109 0 5 - 1) 1) (T 401 (T 109 0 5 - 1) 3)) 0 := by
                                  by_cases z : x = T 404 (T 109 0 5 - 1) (T 102 ((T 100 (T 109 0 5 - 1) 7) + k) 3)
                                  · rw [z]
                                  · rw [cz_f z, cz_f z]
                                have e2 : cz_ (x = T 404 (T 109 0 5 - 1) (T 102 ((T 100 (T 109 0 5 - 1) 7) + k) 4)) (cz_ (T 404 (T 109 0 5 - 1) (T 102 ((T 100 (T 109 0 5 - 1) 7) + k) 4) = t) (T 401 (T 109 0 5 - 1) 1) (T 401 (T 109 0 5 - 1) 3)) 0 = cz_ (x = T 404 (T 109 0 5 - 1) (T 102 ((T 100 (T 109 0 5 - 1) 7) + k) 4)) (cz_ (x = t) (T 401 (T 109 0 5 - 1) 1) (T 401 (T 109 0 5 - 1) 3)) 0 := by
                                  by_cases z : x = T 404 (T 109 0 5 - 1) (T 102 ((T 100 (T 109 0 5 - 1) 7) + k) 4)
                                  · rw [z]
                                  · rw [cz_f z, cz_f z]
                                omega
  have c_16 : ∀ (nn : Nat) (k : Int) (T1 : Zt), ((12 - k).toNat) ≤ nn → (fr_ [(107, [1]), (542, []), (543, []), (544, []), (545, []), (546, []), (587, [])] T T1) → (0 ≤ k ∧ k ≤ 12 ∧ k ≤ T 100 (T 109 0 5 - 1) 5) → (∀ x : Int, 0 ≤ x → x < T 100 (T 109 0 5 - 1) 5 → wr_ (T1 542 0 (x * 8 + 6)) = wr_ (pp7_ T (T 109 0 5 - 1) x)) → (∀ x : Int, 0 ≤ x → x < k → wr_ (T1 587 0 x) = wr_ (pp7_ T (T 109 0 5 - 1) x)) → J_ zX9_takePoints T (po_X9_takePoints_e T t) 0 0 16 [some (vR 109 0), some (vI t), some (vI k), none, none, none] [] T1 := by
    intro nn
    induction nn using Nat.strongRecOn with
    | _ nn ih_16 =>
      intro k T1 hm_16 hf_16 i1 l1 p1
      replace hm_16 := fun (_ : Unit) => hm_16
      refine j_blx (F := fX9) tb_X9 (nn_ _) bk_X9_takePoints_e_16 bs_X9_takePoints_e_16 hz (fun K hK => ?_)
      have e87 : T1 109 0 5 = T 109 0 5 := hf_16 109 0 5 rfl
      refine And.intro (fun c86 => ?_) (fun c86 => ?_)
      · exact absurd c86 (by omega)
      · intro b88 b88b
        have e89 : T1 100 (T 109 0 5 - 1) 5 = T 100 (T 109 0 5 - 1) 5 := hf_16 100 (T 109 0 5 - 1) 5 rfl
        have e90 : T1 100 (T1 109 0 5 - 1) 5 = T 100 (T 109 0 5 - 1) 5 := by rw [e87]; exact e89
        rw [e90] at b88 b88b ⊢
        refine And.intro (fun c91 => ?_) (fun c91 => ?_)
        · refine hK 54 _ [] T1 ?_
          refine j_blx (F := fX9) tb_X9 (nn_ _) bk_X9_takePoints_e_54 bs_X9_takePoints_e_54 hz (fun K hK => ?_)
          refine hK 56 [some (vR 109 0), some (vI t), some (vI 0), none, none, none] [] T1 ?_
          refine c_56 _ 0 T1 (Nat.le_refl _) ?_ ?_ ?_
          · exact fr_t (fr_0 _ _) (fr_s hf_16 rfl)
          · omega
          · exact fun x a b => by
              show _ = wr_ (pp7_ T (T 109 0 5 - 1) x + 0)
              rw [Int.add_zero]; exact p1 x a (by omega)
        · refine rg_i (by omega) ?_
          refine rg_i (by omega) ?_
          refine ix_i (by omega) ?_
          intro b92 b92b
          refine iy_i (by omega) (by omega) ?_
          refine x_nm (fun U93 hU93 => ?_)
          have e94 := up_f hU93
          refine rg_i (by omega) ?_
          refine hK 16 [some (vR 109 0), some (vI t), some (vI (k + 1)), none, none, none] [] U93 ?_
          refine ih_16 _ ?_ (k + 1) U93 (Nat.le_refl _) ?_ ?_ ?_ ?_
          · have hm_16 := hm_16 (); omega
          · exact fr_u (fr_t (fr_0 _ _) (fr_s hf_16 rfl)) hU93 rfl
          · omega
          · exact fun x a b => (congrArg wr_ (up_k hU93 (by exact Nat.ne_of_beq_eq_false rfl) 0 _)).trans (l1 x a b)
          · intro x a b
            by_cases z : x = k
            · rw [z, up_f hU93]
              exact l1 k (by omega) (by omega)
            · rw [up_g hU93 (fun q => z q.2.2)]; exact p1 x a (by omega)
  refine j_blx (F := fX9) tb_X9 (nn_ _) bk_X9_takePoints_e_0 bs_X9_takePoints_e_0 hz (fun K hK => ?_)
  refine And.intro (fun c95 => ?_) (fun c95 => ?_)
  · exact absurd c95 (by omega)
  · refine hK 11 _ [vI 999, vR 100 (T 109 0 5 - 1), vR 107 0] T ?_
    refine j_callV (y := yX7_tally) (Yc := zX7_tally) (rest := []) [vR 100 (T 109 0 5 - 1), vI 999] (ct_X7_tally_e (T := T) (c := (T 109 0 5 - 1)) (d := 999) hka hkc (by omega) hks hsk hno) cl_X9_124 (qd_c (by decide +kernel)) (nn_ _) rfl (rf_of rfl) (Nat.le_of_ble_eq_true rfl) (Nat.le_of_ble_eq_true rfl) (Nat.le_of_ble_eq_true rfl) rfl ?_
    rintro U96 _ ⟨rfl, fU96, -, qU96⟩
    show J_ zX9_takePoints T (po_X9_takePoints_e T t) 0 0 14 _ [] U96
    refine j_blx (F := fX9) tb_X9 (nn_ _) bk_X9_takePoints_e_14 bs_X9_takePoints_e_14 hz (fun K hK => ?_)
    refine hK 16 [some (vR 109 0), some (vI t), some (vI 0), none, none, none] [] U96 ?_
    refine c_16 _ 0 U96 (Nat.le_refl _) ?_ ?_ ?_ ?_
    · exact fr_t (fr_0 _ _) (fr_s fU96 rfl)
    · omega
    · intro x a b
      have y := qU96.1 x 6 a b (by decide) (by decide)
      rw [cz_t rfl] at y
      exact y
    · intro x a b; omega
-- who can be first: how much each seat may still take
/-- what the losses of the open matches give a seat at least -/
noncomputable def ls7_ (T : Zt) (c x : Int) : Nat → Int
  | 0 => 0
  | n + 1 => ls7_ T c x n + cz_ (T 102 (T 588 0 (n : Int)) 3 = T 403 c x ∨ T 102 (T 588 0 (n : Int)) 4 = T 403 c x) (T 401 c 3) 0
/-- a cap from what is spare -/
noncomputable def cq7_ (p v : Int) : Int := cz_ (v < 0) (-1) (cz_ (p = 0) 1000 (dq_ v p))
theorem ls7_u {T : Zt} {c x u : Int} (h : 0 ≤ u) : ls7_ T c x (u + 1).toNat = ls7_ T c x u.toNat + cz_ (T 102 (T 588 0 u) 3 = T 403 c x ∨ T 102 (T 588 0 u) 4 = T 403 c x) (T 401 c 3) 0 := by
  rw [show (u + 1).toNat = u.toNat + 1 by omega]
  show _ + cz_ (T 102 (T 588 0 ((u.toNat : Nat) : Int)) 3 = T 403 c x ∨ T 102 (T 588 0 ((u.toNat : Nat) : Int)) 4 = T 403 c x) (T 401 c 3) 0 = _
  rw [show ((u.toNat : Nat) : Int) = u by omega]
theorem wr7_s (a b : Int) : wr_ (wr_ a - b) = wr_ (a - b) := by
  unfold wr_
  omega
theorem bk_X9_setCaps_e_49 : ck_ fX9 none cX9_setCaps 49 [.iload 5, .aload 0, .tableswitch 0 9 9 #[], .if_icmp .ge 108, .aload 0, .tableswitch 0 9 0 #[], .tableswitch 0 6 3 #[], .aload 0, .tableswitch 0 9 8 #[], .iload 5, .iaload, .aaload, .aload 0, .tableswitch 0 9 5 #[], .tableswitch 0 0 3 #[], .iload 3, .iaload] 82 = true := qck_r (nn_ _) (by decide +kernel)
theorem bs_X9_setCaps_e_49 {P : Zt → Option Zv → Prop} (K : Int → Zl → List Zv → Zt → Prop) : sx_ K P [.iload 5, .aload 0, .tableswitch 0 9 9 #[], .if_icmp .ge 108, .aload 0, .tableswitch 0 9 0 #[], .tableswitch 0 6 3 #[], .aload 0, .tableswitch 0 9 8 #[], .iload 5, .iaload, .aaload, .aload 0, .tableswitch 0 9 5 #[], .tableswitch 0 0 3 #[], .iload 3, .iaload] 82 = x_iload 5 (x_aload 0 (x_g0 109 9 0 40 (x_if_icmp .ge 108 K (x_aload 0 (x_g1 109 106 (x_g1 106 523 (x_aload 0 (x_g1 109 588 (x_iload 5 (x_iaload (x_aaload (x_aload 0 (x_g5 109 100 5 (x_g2 100 403 (x_iload 3 (x_iaload (K 82))))))))))))))))) := ((xe_iload 5).trans (congrArg (x_iload 5) ((xe_aload 0).trans (congrArg (x_aload 0) ((xe_g0 (kk := 109) rfl tl_9_9).trans (congrArg (x_g0 109 9 0 40) ((xe_if_icmp .ge 108).trans (congrArg (x_if_icmp .ge 108 K) ((xe_aload 0).trans (congrArg (x_aload 0) ((xe_g1 (kk := 109) rfl tl_9_0).trans (congrArg (x_g1 109 106) ((xe_g1 (kk := 106) rfl tl_6_3).trans (congrArg (x_g1 106 523) ((xe_aload 0).trans (congrArg (x_aload 0) ((xe_g1 (kk := 109) rfl tl_9_8).trans (congrArg (x_g1 109 588) ((xe_iload 5).trans (congrArg (x_iload 5) ((xe_iaload).trans (congrArg (x_iaload) ((xe_aaload).trans (congrArg (x_aaload) ((xe_aload 0).trans (congrArg (x_aload 0) ((xe_g5 (kk := 109) rfl tl_9_5).trans (congrArg (x_g5 109 100 5) ((xe_g2 (kk := 100) rfl tl_0_3).trans (congrArg (x_g2 100 403) ((xe_iload 3).trans (congrArg (x_iload 3) ((xe_iaload).trans (congrArg (x_iaload) xe_nil))))))))))))))))))))))))))))))))))
theorem bk_X9_setCaps_e_108 : ck_ fX9 none cX9_setCaps 108 [.aload 0, .tableswitch 0 9 11 #[], .iload 3, .iload 4, .ifCond .ge 122, .iconst (-1), .goto 136] 122 = true := qck_r (nn_ _) (by decide +kernel)
theorem bs_X9_setCaps_e_108 {P : Zt → Option Zv → Prop} (K : Int → Zl → List Zv → Zt → Prop) : sx_ K P [.aload 0, .tableswitch 0 9 11 #[], .iload 3, .iload 4, .ifCond .ge 122, .iconst (-1), .goto 136] 122 = x_aload 0 (x_g1 109 591 (x_iload 3 (x_iload 4 (x_ifCond .ge 122 K (x_iconst (-1) (x_goto 136 K)))))) := ((xe_aload 0).trans (congrArg (x_aload 0) ((xe_g1 (kk := 109) rfl tl_9_11).trans (congrArg (x_g1 109 591) ((xe_iload 3).trans (congrArg (x_iload 3) ((xe_iload 4).trans (congrArg (x_iload 4) ((xe_ifCond .ge 122).trans (congrArg (x_ifCond .ge 122 K) ((xe_iconst (-1)).trans (congrArg (x_iconst (-1)) (xe_goto 136)))))))))))))
theorem bk_X9_setCaps_e_122 : ck_ fX9 none cX9_setCaps 122 [.iload 2, .ifCond .ne 132, .iconst 1000, .goto 136] 132 = true := qck_r (nn_ _) (by decide +kernel)
theorem bs_X9_setCaps_e_122 {P : Zt → Option Zv → Prop} (K : Int → Zl → List Zv → Zt → Prop) : sx_ K P [.iload 2, .ifCond .ne 132, .iconst 1000, .goto 136] 132 = x_iload 2 (x_ifCond .ne 132 K (x_iconst 1000 (x_goto 136 K))) := ((xe_iload 2).trans (congrArg (x_iload 2) ((xe_ifCond .ne 132).trans (congrArg (x_ifCond .ne 132 K) ((xe_iconst 1000).trans (congrArg (x_iconst 1000) (xe_goto 136)))))))
theorem bk_X9_setCaps_e_132 : ck_ fX9 none cX9_setCaps 132 [.iload 4, .iload 2, .fdiv, .iastore, .aload 0, .tableswitch 0 9 12 #[], .iload 3, .iconst 0, .iastore, .iinc 3 1, .goto 22] 150 = true := qck_r (nn_ _) (by decide +kernel)
theorem bs_X9_setCaps_e_132 {P : Zt → Option Zv → Prop} (K : Int → Zl → List Zv → Zt → Prop) : sx_ K P [.iload 4, .iload 2, .fdiv, .iastore, .aload 0, .tableswitch 0 9 12 #[], .iload 3, .iconst 0, .iastore, .iinc 3 1, .goto 22] 150 = x_iload 4 (x_iload 2 (x_fdiv (x_iastore (x_aload 0 (x_g1 109 592 (x_iload 3 (x_iconst 0 (x_iastore (x_iinc 3 1 (x_goto 22 K)))))))))) := ((xe_iload 4).trans (congrArg (x_iload 4) ((xe_iload 2).trans (congrArg (x_iload 2) ((xe_fdiv).trans (congrArg (x_fdiv) ((xe_iastore).trans (congrArg (x_iastore) ((xe_aload 0).trans (congrArg (x_aload 0) ((xe_g1 (kk := 109) rfl tl_9_12).trans (congrArg (x_g1 109 592) ((xe_iload 3).trans (congrArg (x_iload 3) ((xe_iconst 0).trans (congrArg (x_iconst 0) ((xe_iastore).trans (congrArg (x_iastore) ((xe_iinc 3 1).trans (congrArg (x_iinc 3 1) (xe_goto 22)))))))))))))))))))))
theorem bk_X9_setCaps_e_136 : ck_ fX9 none cX9_setCaps 136 [.iastore, .aload 0, .tableswitch 0 9 12 #[], .iload 3, .iconst 0, .iastore, .iinc 3 1, .goto 22] 150 = true := qck_r (nn_ _) (by decide +kernel)
theorem bs_X9_setCaps_e_136 {P : Zt → Option Zv → Prop} (K : Int → Zl → List Zv → Zt → Prop) : sx_ K P [.iastore, .aload 0, .tableswitch 0 9 12 #[], .iload 3, .iconst 0, .iastore, .iinc 3 1, .goto 22] 150 = x_iastore (x_aload 0 (x_g1 109 592 (x_iload 3 (x_iconst 0 (x_iastore (x_iinc 3 1 (x_goto 22 K))))))) := ((xe_iastore).trans (congrArg (x_iastore) ((xe_aload 0).trans (congrArg (x_aload 0) ((xe_g1 (kk := 109) rfl tl_9_12).trans (congrArg (x_g1 109 592) ((xe_iload 3).trans (congrArg (x_iload 3) ((xe_iconst 0).trans (congrArg (x_iconst 0) ((xe_iastore).trans (congrArg (x_iastore) ((xe_iinc 3 1).trans (congrArg (x_iinc 3 1) (xe_goto 22)))))))))))))))
theorem bk_X9_setCaps_e_85 : ck_ fX9 none cX9_setCaps 85 [.ifCond .eq 102, .iload 4, .aload 0, .tableswitch 0 9 5 #[], .tableswitch 0 0 1 #[], .iconst 3, .iaload, .fsub, .istore 4, .iinc 5 1, .goto 49] 108 = true := qck_r (nn_ _) (by decide +kernel)
theorem bs_X9_setCaps_e_85 {P : Zt → Option Zv → Prop} (K : Int → Zl → List Zv → Zt → Prop) : sx_ K P [.ifCond .eq 102, .iload 4, .aload 0, .tableswitch 0 9 5 #[], .tableswitch 0 0 1 #[], .iconst 3, .iaload, .fsub, .istore 4, .iinc 5 1, .goto 49] 108 = x_ifCond .eq 102 K (x_iload 4 (x_aload 0 (x_g5 109 100 5 (x_g2 100 401 (x_iconst 3 (x_iaload (x_fsub (x_istore 4 (x_iinc 5 1 (x_goto 49 K)))))))))) := ((xe_ifCond .eq 102).trans (congrArg (x_ifCond .eq 102 K) ((xe_iload 4).trans (congrArg (x_iload 4) ((xe_aload 0).trans (congrArg (x_aload 0) ((xe_g5 (kk := 109) rfl tl_9_5).trans (congrArg (x_g5 109 100 5) ((xe_g2 (kk := 100) rfl tl_0_1).trans (congrArg (x_g2 100 401) ((xe_iconst 3).trans (congrArg (x_iconst 3) ((xe_iaload).trans (congrArg (x_iaload) ((xe_fsub).trans (congrArg (x_fsub) ((xe_istore 4).trans (congrArg (x_istore 4) ((xe_iinc 5 1).trans (congrArg (x_iinc 5 1) (xe_goto 49)))))))))))))))))))))
theorem bk_X9_setCaps_e_102 : ck_ fX9 none cX9_setCaps 102 [.iinc 5 1, .goto 49] 108 = true := qck_r (nn_ _) (by decide +kernel)
theorem bs_X9_setCaps_e_102 {P : Zt → Option Zv → Prop} (K : Int → Zl → List Zv → Zt → Prop) : sx_ K P [.iinc 5 1, .goto 49] 108 = x_iinc 5 1 (x_goto 49 K) := ((xe_iinc 5 1).trans (congrArg (x_iinc 5 1) (xe_goto 49)))
theorem bk_X9_setCaps_e_22 : ck_ fX9 none cX9_setCaps 22 [.iload 3, .aload 0, .tableswitch 0 9 5 #[], .tableswitch 0 0 5 #[], .if_icmp .ge 150, .aload 0, .tableswitch 0 9 6 #[], .aload 0, .tableswitch 0 9 7 #[], .iload 3, .iaload, .fsub, .istore 4, .iconst 0, .istore 5] 49 = true := qck_r (nn_ _) (by decide +kernel)
theorem bs_X9_setCaps_e_22 {P : Zt → Option Zv → Prop} (K : Int → Zl → List Zv → Zt → Prop) : sx_ K P [.iload 3, .aload 0, .tableswitch 0 9 5 #[], .tableswitch 0 0 5 #[], .if_icmp .ge 150, .aload 0, .tableswitch 0 9 6 #[], .aload 0, .tableswitch 0 9 7 #[], .iload 3, .iaload, .fsub, .istore 4, .iconst 0, .istore 5] 49 = x_iload 3 (x_aload 0 (x_g5 109 100 5 (x_g0 100 5 0 12 (x_if_icmp .ge 150 K (x_aload 0 (x_g0 109 6 (-2147483648) 2147483647 (x_aload 0 (x_g1 109 587 (x_iload 3 (x_iaload (x_fsub (x_istore 4 (x_iconst 0 (x_istore 5 (K 49))))))))))))))) := ((xe_iload 3).trans (congrArg (x_iload 3) ((xe_aload 0).trans (congrArg (x_aload 0) ((xe_g5 (kk := 109) rfl tl_9_5).trans (congrArg (x_g5 109 100 5) ((xe_g0 (kk := 100) rfl tl_0_5).trans (congrArg (x_g0 100 5 0 12) ((xe_if_icmp .ge 150).trans (congrArg (x_if_icmp .ge 150 K) ((xe_aload 0).trans (congrArg (x_aload 0) ((xe_g0 (kk := 109) rfl tl_9_6).trans (congrArg (x_g0 109 6 (-2147483648) 2147483647) ((xe_aload 0).trans (congrArg (x_aload 0) ((xe_g1 (kk := 109) rfl tl_9_7).trans (congrArg (x_g1 109 587) ((xe_iload 3).trans (congrArg (x_iload 3) ((xe_iaload).trans (congrArg (x_iaload) ((xe_fsub).trans (congrArg (x_fsub) ((xe_istore 4).trans (congrArg (x_istore 4) ((xe_iconst 0).trans (congrArg (x_iconst 0) ((xe_istore 5).trans (congrArg (x_istore 5) xe_nil))))))))))))))))))))))))))))))
theorem bk_X9_setCaps_e_150 : ck_ fX9 none cX9_setCaps 150 [.aload 0, .tableswitch 0 9 11 #[], .iload 1, .iconst 0, .iastore, .return_] 158 = true := qck_r (nn_ _) (by decide +kernel)
theorem bs_X9_setCaps_e_150 {P : Zt → Option Zv → Prop} (K : Int → Zl → List Zv → Zt → Prop) : sx_ K P [.aload 0, .tableswitch 0 9 11 #[], .iload 1, .iconst 0, .iastore, .return_] 158 = x_aload 0 (x_g1 109 591 (x_iload 1 (x_iconst 0 (x_iastore (x_return_ P))))) := ((xe_aload 0).trans (congrArg (x_aload 0) ((xe_g1 (kk := 109) rfl tl_9_11).trans (congrArg (x_g1 109 591) ((xe_iload 1).trans (congrArg (x_iload 1) ((xe_iconst 0).trans (congrArg (x_iconst 0) ((xe_iastore).trans (congrArg (x_iastore) (xe_return_)))))))))))
theorem bk_X9_setCaps_e_0 : ck_ fX9 none cX9_setCaps 0 [.aload 0, .tableswitch 0 9 5 #[], .tableswitch 0 0 1 #[], .iconst 1, .iaload, .aload 0, .tableswitch 0 9 5 #[], .tableswitch 0 0 1 #[], .iconst 2, .iaload, .isub, .istore 2, .iconst 0, .istore 3] 22 = true := qck_r (nn_ _) (by decide +kernel)
theorem bs_X9_setCaps_e_0 {P : Zt → Option Zv → Prop} (K : Int → Zl → List Zv → Zt → Prop) : sx_ K P [.aload 0, .tableswitch 0 9 5 #[], .tableswitch 0 0 1 #[], .iconst 1, .iaload, .aload 0, .tableswitch 0 9 5 #[], .tableswitch 0 0 1 #[], .iconst 2, .iaload, .isub, .istore 2, .iconst 0, .istore 3] 22 = x_aload 0 (x_g5 109 100 5 (x_g2 100 401 (x_iconst 1 (x_iaload (x_aload 0 (x_g5 109 100 5 (x_g2 100 401 (x_iconst 2 (x_iaload (x_isub (x_istore 2 (x_iconst 0 (x_istore 3 (K 22)))))))))))))) := ((xe_aload 0).trans (congrArg (x_aload 0) ((xe_g5 (kk := 109) rfl tl_9_5).trans (congrArg (x_g5 109 100 5) ((xe_g2 (kk := 100) rfl tl_0_1).trans (congrArg (x_g2 100 401) ((xe_iconst 1).trans (congrArg (x_iconst 1) ((xe_iaload).trans (congrArg (x_iaload) ((xe_aload 0).trans (congrArg (x_aload 0) ((xe_g5 (kk := 109) rfl tl_9_5).trans (congrArg (x_g5 109 100 5) ((xe_g2 (kk := 100) rfl tl_0_1).trans (congrArg (x_g2 100 401) ((xe_iconst 2).trans (congrArg (x_iconst 2) ((xe_iaload).trans (congrArg (x_iaload) ((xe_isub).trans (congrArg (x_isub) ((xe_istore 2).trans (congrArg (x_istore 2) ((xe_iconst 0).trans (congrArg (x_iconst 0) ((xe_istore 3).trans (congrArg (x_istore 3) xe_nil))))))))))))))))))))))))))))
abbrev po_X9_setCaps_e (T : Zt) (t : Int) : Zt → Option Zv → Prop := fun T' r => r = none ∧ fr_ [(591, []), (592, [])] T T' ∧ ((∀ x, 0 ≤ x → x < T 100 (T 109 0 5 - 1) 5 → x ≠ t → T' 591 0 x = cq7_ (T 401 (T 109 0 5 - 1) 1 - T 401 (T 109 0 5 - 1) 2) (wr_ (T 109 0 6 - T 587 0 x - ls7_ T (T 109 0 5 - 1) x (T 109 0 9).toNat))) ∧ T' 591 0 t = 0 ∧ ∀ x, 0 ≤ x → x < T 100 (T 109 0 5 - 1) 5 → T' 592 0 x = 0)
set_option maxHeartbeats 4000000 in
theorem ct_X9_setCaps_e {T : Zt} {t : Int} (hq9 : Q9_ T) (hka : KA_ T) (hw : T 401 (T 109 0 5 - 1) 2 ≤ T 401 (T 109 0 5 - 1) 1) (ht : 0 ≤ t ∧ t ≤ 11) : Ct_ yX9_setCaps zX9_setCaps T [vR 109 0, vI t] (po_X9_setCaps_e T t) := by
  refine ct_of pn_9 rfl rfl (Nat.le_of_ble_eq_true rfl) (fun hT hav => ?_)
  have hr_t : -2147483648 ≤ t ∧ t ≤ 2147483647 := hav (vI t) (List.mem_cons_of_mem _ List.mem_cons_self)
  have hz : zX9_setCaps.2.2.2.1 = some .boolean → ∀ (T' : Zt) (x : Int), po_X9_setCaps_e T t T' (some (vI x)) → 0 ≤ x ∧ x ≤ 1 := fun h => by cases h
  have hq1 := hq9.1
  have hb_openCount : 0 ≤ T 109 0 9 ∧ T 109 0 9 ≤ 40 := bd_f hT 109 9 tl_9_9 0
  have hen : 0 ≤ T 100 (T 109 0 5 - 1) 5 ∧ T 100 (T 109 0 5 - 1) 5 ≤ 12 := bd_f hT 100 5 tl_0_5 (T 109 0 5 - 1)
  show J_ zX9_setCaps T (po_X9_setCaps_e T t) 0 0 0 [some (vR 109 0), some (vI t), none, none, none, none] [] T
  have c_22 : ∀ (nn : Nat) (v : Int) (k : Int) (T1 : Zt), ((12 - k).toNat) ≤ nn → (fr_ [(591, []), (592, [])] T T1) → (0 ≤ k ∧ k ≤ 12 ∧ 0 ≤ v ∧ k ≤ T 100 (T 109 0 5 - 1) 5 ∧ v = (T 401 (T 109 0 5 - 1) 1 - T 401 (T 109 0 5 - 1) 2)) → (∀ x, 0 ≤ x → x < k → T1 591 0 x = cq7_ (T 401 (T 109 0 5 - 1) 1 - T 401 (T 109 0 5 - 1) 2) (wr_ (T 109 0 6 - T 587 0 x - ls7_ T (T 109 0 5 - 1) x (T 109 0 9).toNat))) → (∀ x, 0 ≤ x → x < k → T1 592 0 x = 0) → J_ zX9_setCaps T (po_X9_setCaps_e T t) 0 0 22 [some (vR 109 0), some (vI t), some (vI v), some (vI k), none, none] [] T1 := by
    intro nn
    induction nn using Nat.strongRecOn with
    | _ nn ih_22 =>
      intro v k T1 hm_22 hf_22 i1 c1 d1
      replace hm_22 := fun (_ : Unit) => hm_22
      have c_49 : ∀ (nn : Nat) (g : Int) (u : Int), ((40 - u).toNat) ≤ nn → (0 ≤ u ∧ u ≤ T 109 0 9 ∧ k < 12 ∧ k < T 100 (T 109 0 5 - 1) 5) → (g = wr_ (T 109 0 6 - T 587 0 k - ls7_ T (T 109 0 5 - 1) k (u).toNat)) → J_ zX9_setCaps T (po_X9_setCaps_e T t) 0 0 49 [some (vR 109 0), some (vI t), some (vI v), some (vI k), some (vI g), some (vI u)] [] T1 := by
        intro nn
        induction nn using Nat.strongRecOn with
        | _ nn ih_49 =>
          intro g u hm_49 i2 g2
          replace hm_49 := fun (_ : Unit) => hm_49
          refine j_blx (F := fX9) tb_X9 (nn_ _) bk_X9_setCaps_e_49 bs_X9_setCaps_e_49 hz (fun K hK => ?_)
          intro b1 b1b
          have e2 : T1 109 0 9 = T 109 0 9 := hf_22 109 0 9 rfl
          rw [e2] at b1 b1b ⊢
          refine And.intro (fun c3 => ?_) (fun c3 => ?_)
          · refine hK 108 _ [] T1 ?_
            refine j_blx (F := fX9) tb_X9 (nn_ _) bk_X9_setCaps_e_108 bs_X9_setCaps_e_108 hz (fun K hK => ?_)
            refine And.intro (fun c4 => ?_) (fun c4 => ?_)
            · refine hK 122 _ [vI k, vR 591 0] T1 ?_
              refine j_blx (F := fX9) tb_X9 (nn_ _) bk_X9_setCaps_e_122 bs_X9_setCaps_e_122 hz (fun K hK => ?_)
              refine And.intro (fun c5 => ?_) (fun c5 => ?_)
              · refine hK 132 _ [vI k, vR 591 0] T1 ?_
                refine j_blx (F := fX9) tb_X9 (nn_ _) bk_X9_setCaps_e_132 bs_X9_setCaps_e_132 hz (fun K hK => ?_)
                refine And.intro (by omega) (fun w6 w6b => ?_)
                refine iy_i (by omega) (by omega) ?_
                refine x_nm (fun U7 hU7 => ?_)
                have e8 := up_f hU7
                refine iy_i (by omega) (by omega) ?_
                refine x_nm (fun U9 hU9 => ?_)
                have e10 := up_f hU9
                refine rg_i (by omega) ?_
                refine hK 22 [some (vR 109 0), some (vI t), some (vI v), some (vI (k + 1)), some (vI g), some (vI u)] [] U9 ?_
                refine j_drq [some (vR 109 0), some (vI t), some (vI v), some (vI (k + 1)), none, none] (drq_s (drq_s (drq_s (drq_s (drq_n (drq_n drq_0)))))) ?_
                refine ih_22 _ ?_ v (k + 1) U9 (Nat.le_refl _) ?_ ?_ ?_ ?_
                · have hm_22 := hm_22 (); omega
                · exact fr_u (fr_u (fr_t (fr_0 _ _) (fr_s hf_22 rfl)) hU7 rfl) hU9 rfl
                · omega
                · intro x a b
                  rw [show U9 591 0 x = U7 591 0 x from up_k hU9 (by exact Nat.ne_of_beq_eq_false rfl) 0 x]
                  by_cases z : x = k
                  · rw [z, up_f hU7]
                    unfold cq7_
                    rw [show (T 109 0 9).toNat = u.toNat by omega, ← g2]
                    first
                    | (rw [cz_t (by omega)])
                    | (rw [cz_f (by omega), cz_t (by omega)])
                    | (rw [cz_f (by omega), cz_f (by omega)]; first | rfl | (congr 1; omega))
                  · rw [up_g hU7 (fun q => z q.2.2)]; exact c1 x a (by omega)
                · intro x a b
                  by_cases z : x = k
                  · rw [z]; exact up_f hU9
                  · rw [up_g hU9 (fun q => z q.2.2), show U7 592 0 x = T1 592 0 x from up_k hU7 (by exact Nat.ne_of_beq_eq_false rfl) 0 x]; exact d1 x a (by omega)
              · refine hK 136 [some (vR 109 0), some (vI t), some (vI v), some (vI k), some (vI g), some (vI u)] [vI 1000, vI k, vR 591 0] T1 ?_
                refine j_blx (F := fX9) tb_X9 (nn_ _) bk_X9_setCaps_e_136 bs_X9_setCaps_e_136 hz (fun K hK => ?_)
                refine iy_i (by omega) (by omega) ?_
                refine x_nm (fun U11 hU11 => ?_)
                have e12 := up_f hU11
                refine iy_i (by omega) (by omega) ?_
                refine x_nm (fun U13 hU13 => ?_)
                have e14 := up_f hU13
                refine rg_i (by omega) ?_
                refine hK 22 [some (vR 109 0), some (vI t), some (vI v), some (vI (k + 1)), some (vI g), some (vI u)] [] U13 ?_
                refine j_drq [some (vR 109 0), some (vI t), some (vI v), some (vI (k + 1)), none, none] (drq_s (drq_s (drq_s (drq_s (drq_n (drq_n drq_0)))))) ?_
                refine ih_22 _ ?_ v (k + 1) U13 (Nat.le_refl _) ?_ ?_ ?_ ?_
                · have hm_22 := hm_22 (); omega
                · exact fr_u (fr_u (fr_t (fr_0 _ _) (fr_s hf_22 rfl)) hU11 rfl) hU13 rfl
                · omega
                · intro x a b
                  rw [show U13 591 0 x = U11 591 0 x from up_k hU13 (by exact Nat.ne_of_beq_eq_false rfl) 0 x]
                  by_cases z : x = k
                  · rw [z, up_f hU11]
                    unfold cq7_
                    rw [show (T 109 0 9).toNat = u.toNat by omega, ← g2]
                    first
                    | (rw [cz_t (by omega)])
                    | (rw [cz_f (by omega), cz_t (by omega)])
                    | (rw [cz_f (by omega), cz_f (by omega)]; first | rfl | (congr 1; omega))
                  · rw [up_g hU11 (fun q => z q.2.2)]; exact c1 x a (by omega)
                · intro x a b
                  by_cases z : x = k
                  · rw [z]; exact up_f hU13
                  · rw [up_g hU13 (fun q => z q.2.2), show U11 592 0 x = T1 592 0 x from up_k hU11 (by exact Nat.ne_of_beq_eq_false rfl) 0 x]; exact d1 x a (by omega)
            · refine hK 136 _ [vI (-1), vI k, vR 591 0] T1 ?_
              refine j_blx (F := fX9) tb_X9 (nn_ _) bk_X9_setCaps_e_136 bs_X9_setCaps_e_136 hz (fun K hK => ?_)
              refine iy_i (by omega) (by omega) ?_
              refine x_nm (fun U15 hU15 => ?_)
              have e16 := up_f hU15
              refine iy_i (by omega) (by omega) ?_
              refine x_nm (fun U17 hU17 => ?_)
              have e18 := up_f hU17
              refine rg_i (by omega) ?_
              refine hK 22 [some (vR 109 0), some (vI t), some (vI v), some (vI (k + 1)), some (vI g), some (vI u)] [] U17 ?_
              refine j_drq [some (vR 109 0), some (vI t), some (vI v), some (vI (k + 1)), none, none] (drq_s (drq_s (drq_s (drq_s (drq_n (drq_n drq_0)))))) ?_
              refine ih_22 _ ?_ v (k + 1) U17 (Nat.le_refl _) ?_ ?_ ?_ ?_
              · have hm_22 := hm_22 (); omega
              · exact fr_u (fr_u (fr_t (fr_0 _ _) (fr_s hf_22 rfl)) hU15 rfl) hU17 rfl
              · omega
              · intro x a b
                rw [show U17 591 0 x = U15 591 0 x from up_k hU17 (by exact Nat.ne_of_beq_eq_false rfl) 0 x]
                by_cases z : x = k
                · rw [z, up_f hU15]
                  unfold cq7_
                  rw [show (T 109 0 9).toNat = u.toNat by omega, ← g2]
                  first
                  | (rw [cz_t (by omega)])
                  | (rw [cz_f (by omega), cz_t (by omega)])
                  | (rw [cz_f (by omega), cz_f (by omega)]; first | rfl | (congr 1; omega))
                · rw [up_g hU15 (fun q => z q.2.2)]; exact c1 x a (by omega)
              · intro x a b
                by_cases z : x = k
                · rw [z]; exact up_f hU17
                · rw [up_g hU17 (fun q => z q.2.2), show U15 592 0 x = T1 592 0 x from up_k hU15 (by exact Nat.ne_of_beq_eq_false rfl) 0 x]; exact d1 x a (by omega)
          · refine ix_i (by omega) ?_
            intro b19 b19b
            have e20 : T1 588 0 u = T 588 0 u := hf_22 588 0 u rfl
            rw [e20] at b19 b19b ⊢
            refine ix_i (by omega) ?_
            have e22 : T1 523 0 (T 588 0 u) = T 523 0 (T 588 0 u) := hf_22 523 0 (T 588 0 u) rfl
            refine And.intro (fun c21 => ?_) (fun c21 => ?_)
            · exact absurd (show T 523 0 (T 588 0 u) = 0 by omega) (hka.2 _ (by have z := (hq9.2 u (by omega) (by omega)).1; omega) (by have z := (hq9.2 u (by omega) (by omega)).1; omega))
            · have e24 : T1 109 0 5 = T 109 0 5 := hf_22 109 0 5 rfl
              refine And.intro (fun c23 => ?_) (fun c23 => ?_)
              · exact absurd c23 (by omega)
              · refine ix_i (by omega) ?_
                intro b25 b25b
                have e26 : T1 403 (T 109 0 5 - 1) k = T 403 (T 109 0 5 - 1) k := hf_22 403 (T 109 0 5 - 1) k rfl
                have e27 : T1 403 (T1 109 0 5 - 1) k = T 403 (T 109 0 5 - 1) k := by rw [e24]; exact e26
                rw [e27] at b25 b25b ⊢
                refine hK 82 _ [vI (T 403 (T 109 0 5 - 1) k), vR 102 (T 588 0 u)] T1 ?_
                refine j_callV (y := yX2_has) (Yc := zX2_has) (rest := []) [vI (T 403 (T 109 0 5 - 1) k)] (ct_X2_has_e (T := T1)) cl_X9_115 (qd_c (by decide +kernel)) (nn_ _) rfl (rf_of rfl) (Nat.le_of_ble_eq_true rfl) (Nat.le_of_ble_eq_true rfl) (Nat.le_of_ble_eq_true rfl) rfl ?_
                rintro _ _ ⟨rfl, x28, rfl, hx28⟩
                have e29 : T1 102 (T 588 0 u) 3 = T 102 (T 588 0 u) 3 := hf_22 102 (T 588 0 u) 3 rfl
                have e30 : T1 102 (T 588 0 u) 4 = T 102 (T 588 0 u) 4 := hf_22 102 (T 588 0 u) 4 rfl
                show J_ zX9_setCaps T (po_X9_setCaps_e T t) 0 0 85 _ [vI x28] T1
                refine j_blx (F := fX9) tb_X9 (nn_ _) bk_X9_setCaps_e_85 bs_X9_setCaps_e_85 hz (fun K hK => ?_)
                refine And.intro (fun c31 => ?_) (fun c31 => ?_)
                · replace hx28 := hx28.resolve_left (fun z => absurd (c31.symm.trans z.1) (by decide))
                  clear c31
                  refine hK 102 _ [] T1 ?_
                  refine j_blx (F := fX9) tb_X9 (nn_ _) bk_X9_setCaps_e_102 bs_X9_setCaps_e_102 hz (fun K hK => ?_)
                  refine rg_i (by omega) ?_
                  refine hK 49 [some (vR 109 0), some (vI t), some (vI v), some (vI k), some (vI g), some (vI (u + 1))] [] T1 ?_
                  refine ih_49 _ ?_ g (u + 1) (Nat.le_refl _) ?_ ?_
                  · have hm_49 := hm_49 (); omega
                  · omega
                  · rw [ls7_u (by omega), cz_f (by omega), Int.add_zero]; exact g2
                · replace hx28 := hx28.resolve_right (fun z => c31 z.1)
                  clear c31
                  have e33 : T1 109 0 5 = T 109 0 5 := hf_22 109 0 5 rfl
                  refine And.intro (fun c32 => ?_) (fun c32 => ?_)
                  · exact absurd c32 (by omega)
                  · refine ix_i (by omega) ?_
                    intro b34 b34b
                    have e35 : T1 401 (T 109 0 5 - 1) 3 = T 401 (T 109 0 5 - 1) 3 := hf_22 401 (T 109 0 5 - 1) 3 rfl
                    have e36 : T1 401 (T1 109 0 5 - 1) 3 = T 401 (T 109 0 5 - 1) 3 := by rw [e33]; exact e35
                    rw [e36] at b34 b34b ⊢
                    intro w37 w37b
                    refine rg_i (by omega) ?_
                    refine hK 49 [some (vR 109 0), some (vI t), some (vI v), some (vI k), some (vI (wr_ (g - (T 401 (T 109 0 5 - 1) 3)))), some (vI (u + 1))] [] T1 ?_
                    refine ih_49 _ ?_ (wr_ (g - (T 401 (T 109 0 5 - 1) 3))) (u + 1) (Nat.le_refl _) ?_ ?_
                    · have hm_49 := hm_49 (); omega
                    · omega
                    · rw [ls7_u (by omega), cz_t (by omega)]
                      rw [show T 109 0 6 - T 587 0 k - (ls7_ T (T 109 0 5 - 1) k u.toNat + T 401 (T 109 0 5 - 1) 3) = (T 109 0 6 - T 587 0 k - ls7_ T (T 109 0 5 - 1) k u.toNat) - T 401 (T 109 0 5 - 1) 3 by omega, g2, wr7_s]
      refine j_blx (F := fX9) tb_X9 (nn_ _) bk_X9_setCaps_e_22 bs_X9_setCaps_e_22 hz (fun K hK => ?_)
      have e39 : T1 109 0 5 = T 109 0 5 := hf_22 109 0 5 rfl
      refine And.intro (fun c38 => ?_) (fun c38 => ?_)
      · exact absurd c38 (by omega)
      · intro b40 b40b
        have e41 : T1 100 (T 109 0 5 - 1) 5 = T 100 (T 109 0 5 - 1) 5 := hf_22 100 (T 109 0 5 - 1) 5 rfl
        have e42 : T1 100 (T1 109 0 5 - 1) 5 = T 100 (T 109 0 5 - 1) 5 := by rw [e39]; exact e41
        rw [e42] at b40 b40b ⊢
        refine And.intro (fun c43 => ?_) (fun c43 => ?_)
        · refine hK 150 _ [] T1 ?_
          refine j_blx (F := fX9) tb_X9 (nn_ _) bk_X9_setCaps_e_150 bs_X9_setCaps_e_150 hz (fun K hK => ?_)
          refine iy_i (by omega) (by omega) ?_
          refine x_nm (fun U44 hU44 => ?_)
          have e45 := up_f hU44
          refine (show po_X9_setCaps_e T t U44 (none) from ?_)
          have e46 : U44 591 0 t = 0 := up_f hU44
          exact ⟨rfl, fr_u (fr_t (fr_0 _ _) (fr_s hf_22 rfl)) hU44 rfl, fun x a b c => (up_g hU44 (fun q => c q.2.2)).trans (c1 x a (by omega)), up_f hU44, fun x a b => (up_k hU44 (by exact Nat.ne_of_beq_eq_false rfl) 0 x).trans (d1 x a (by omega))⟩
        · intro b47 b47b
          have e48 : T1 109 0 6 = T 109 0 6 := hf_22 109 0 6 rfl
          rw [e48] at b47 b47b ⊢
          refine ix_i (by omega) ?_
          intro b49 b49b
          have e50 : T1 587 0 k = T 587 0 k := hf_22 587 0 k rfl
          rw [e50] at b49 b49b ⊢
          intro w51 w51b
          refine hK 49 [some (vR 109 0), some (vI t), some (vI v), some (vI k), some (vI (wr_ ((T 109 0 6) - (T 587 0 k)))), some (vI 0)] [] T1 ?_
          refine c_49 _ (wr_ ((T 109 0 6) - (T 587 0 k))) 0 (Nat.le_refl _) ?_ ?_
          · omega
          · show _ = wr_ (T 109 0 6 - T 587 0 k - 0)
            rw [Int.sub_zero]
            all_goals first
              | rfl
              | (congr 1; omega)
  refine j_blx (F := fX9) tb_X9 (nn_ _) bk_X9_setCaps_e_0 bs_X9_setCaps_e_0 hz (fun K hK => ?_)
  refine And.intro (fun c52 => ?_) (fun c52 => ?_)
  · exact absurd c52 (by omega)
  · refine ix_i (by omega) ?_
    intro b53 b53b
    refine And.intro (fun c54 => ?_) (fun c54 => ?_)
    · exact absurd c54 (by omega)
    · refine ix_i (by omega) ?_
      intro b55 b55b
      refine rg_i (by omega) ?_
      refine hK 22 [some (vR 109 0), some (vI t), some (vI ((T 401 (T 109 0 5 - 1) 1) - (T 401 (T 109 0 5 - 1) 2))), some (vI 0), none, none] [] T ?_
      refine c_22 _ ((T 401 (T 109 0 5 - 1) 1) - (T 401 (T 109 0 5 - 1) 2)) 0 T (Nat.le_refl _) ?_ ?_ ?_ ?_
      · exact fr_0 _ _
      · omega
      · intro x a b; omega
      · intro x a b; omega
theorem bk_X9_noneAbove_e_2 : ck_ fX9 (some .boolean) cX9_noneAbove 2 [.iload 2, .aload 0, .tableswitch 0 9 5 #[], .tableswitch 0 0 5 #[], .if_icmp .ge 39, .iload 2, .iload 1, .if_icmp .eq 33, .aload 0, .tableswitch 0 9 7 #[], .iload 2, .iaload, .aload 0, .tableswitch 0 9 6 #[], .if_icmp .le 33, .iconst 0, .ireturn] 33 = true := qck_r (nn_ _) (by decide +kernel)
theorem bs_X9_noneAbove_e_2 {P : Zt → Option Zv → Prop} (K : Int → Zl → List Zv → Zt → Prop) : sx_ K P [.iload 2, .aload 0, .tableswitch 0 9 5 #[], .tableswitch 0 0 5 #[], .if_icmp .ge 39, .iload 2, .iload 1, .if_icmp .eq 33, .aload 0, .tableswitch 0 9 7 #[], .iload 2, .iaload, .aload 0, .tableswitch 0 9 6 #[], .if_icmp .le 33, .iconst 0, .ireturn] 33 = x_iload 2 (x_aload 0 (x_g5 109 100 5 (x_g0 100 5 0 12 (x_if_icmp .ge 39 K (x_iload 2 (x_iload 1 (x_if_icmp .eq 33 K (x_aload 0 (x_g1 109 587 (x_iload 2 (x_iaload (x_aload 0 (x_g0 109 6 (-2147483648) 2147483647 (x_if_icmp .le 33 K (x_iconst 0 (x_ireturn P)))))))))))))))) := ((xe_iload 2).trans (congrArg (x_iload 2) ((xe_aload 0).trans (congrArg (x_aload 0) ((xe_g5 (kk := 109) rfl tl_9_5).trans (congrArg (x_g5 109 100 5) ((xe_g0 (kk := 100) rfl tl_0_5).trans (congrArg (x_g0 100 5 0 12) ((xe_if_icmp .ge 39).trans (congrArg (x_if_icmp .ge 39 K) ((xe_iload 2).trans (congrArg (x_iload 2) ((xe_iload 1).trans (congrArg (x_iload 1) ((xe_if_icmp .eq 33).trans (congrArg (x_if_icmp .eq 33 K) ((xe_aload 0).trans (congrArg (x_aload 0) ((xe_g1 (kk := 109) rfl tl_9_7).trans (congrArg (x_g1 109 587) ((xe_iload 2).trans (congrArg (x_iload 2) ((xe_iaload).trans (congrArg (x_iaload) ((xe_aload 0).trans (congrArg (x_aload 0) ((xe_g0 (kk := 109) rfl tl_9_6).trans (congrArg (x_g0 109 6 (-2147483648) 2147483647) ((xe_if_icmp .le 33).trans (congrArg (x_if_icmp .le 33 K) ((xe_iconst 0).trans (congrArg (x_iconst 0) (xe_ireturn)))))))))))))))))))))))))))))))))
theorem bk_X9_noneAbove_e_39 : ck_ fX9 (some .boolean) cX9_noneAbove 39 [.iconst 1, .ireturn] 41 = true := qck_r (nn_ _) (by decide +kernel)
theorem bs_X9_noneAbove_e_39 {P : Zt → Option Zv → Prop} (K : Int → Zl → List Zv → Zt → Prop) : sx_ K P [.iconst 1, .ireturn] 41 = x_iconst 1 (x_ireturn P) := ((xe_iconst 1).trans (congrArg (x_iconst 1) (xe_ireturn)))
theorem bk_X9_noneAbove_e_33 : ck_ fX9 (some .boolean) cX9_noneAbove 33 [.iinc 2 1, .goto 2] 39 = true := qck_r (nn_ _) (by decide +kernel)
theorem bs_X9_noneAbove_e_33 {P : Zt → Option Zv → Prop} (K : Int → Zl → List Zv → Zt → Prop) : sx_ K P [.iinc 2 1, .goto 2] 39 = x_iinc 2 1 (x_goto 2 K) := ((xe_iinc 2 1).trans (congrArg (x_iinc 2 1) (xe_goto 2)))
theorem bk_X9_noneAbove_e_0 : ck_ fX9 (some .boolean) cX9_noneAbove 0 [.iconst 0, .istore 2] 2 = true := qck_r (nn_ _) (by decide +kernel)
theorem bs_X9_noneAbove_e_0 {P : Zt → Option Zv → Prop} (K : Int → Zl → List Zv → Zt → Prop) : sx_ K P [.iconst 0, .istore 2] 2 = x_iconst 0 (x_istore 2 (K 2)) := ((xe_iconst 0).trans (congrArg (x_iconst 0) ((xe_istore 2).trans (congrArg (x_istore 2) xe_nil))))
abbrev po_X9_noneAbove_e (T : Zt) (s : Int) : Zt → Option Zv → Prop := fun T' r => T = T' ∧ ∃ x : Int, r = some (vI x) ∧ ((x = 1 ∧ ∀ v, 0 ≤ v → v < T 100 (T 109 0 5 - 1) 5 → v ≠ s → T 587 0 v ≤ T 109 0 6) ∨ (x = 0 ∧ ∃ v, (0 ≤ v ∧ v < T 100 (T 109 0 5 - 1) 5 ∧ v ≠ s) ∧ T 109 0 6 < T 587 0 v))
set_option maxHeartbeats 4000000 in
theorem ct_X9_noneAbove_e {T : Zt} {s : Int} (hct : T 109 0 5 ≠ 0) : Ct_ yX9_noneAbove zX9_noneAbove T [vR 109 0, vI s] (po_X9_noneAbove_e T s) := by
  refine ct_of pn_9 rfl rfl (Nat.le_of_ble_eq_true rfl) (fun hT hav => ?_)
  have hr_s : -2147483648 ≤ s ∧ s ≤ 2147483647 := hav (vI s) (List.mem_cons_of_mem _ List.mem_cons_self)
  have hz : zX9_noneAbove.2.2.2.1 = some .boolean → ∀ (T' : Zt) (x : Int), po_X9_noneAbove_e T s T' (some (vI x)) → 0 ≤ x ∧ x ≤ 1 := fun _ T' x h => by obtain ⟨-, y, e, hy⟩ := h; cases e; omega
  show J_ zX9_noneAbove T (po_X9_noneAbove_e T s) 0 0 0 [some (vR 109 0), some (vI s), none] [] T
  have c_2 : ∀ (nn : Nat) (i : Int), ((12 - i).toNat) ≤ nn → (0 ≤ i) → (∀ v, 0 ≤ v → v < i → v ≠ s → T 587 0 v ≤ T 109 0 6) → J_ zX9_noneAbove T (po_X9_noneAbove_e T s) 0 0 2 [some (vR 109 0), some (vI s), some (vI i)] [] T := by
    intro nn
    induction nn using Nat.strongRecOn with
    | _ nn ih_2 =>
      intro i hm_2 i1 i2
      replace hm_2 := fun (_ : Unit) => hm_2
      refine j_blx (F := fX9) tb_X9 (nn_ _) bk_X9_noneAbove_e_2 bs_X9_noneAbove_e_2 hz (fun K hK => ?_)
      refine And.intro (fun c1 => ?_) (fun c1 => ?_)
      · exact absurd c1 (by omega)
      · intro b2 b2b
        refine And.intro (fun c3 => ?_) (fun c3 => ?_)
        · refine hK 39 _ [] T ?_
          refine j_blx (F := fX9) tb_X9 (nn_ _) bk_X9_noneAbove_e_39 bs_X9_noneAbove_e_39 hz (fun K hK => ?_)
          refine (show po_X9_noneAbove_e T s T (some (vI 1)) from ?_)
          exact ⟨rfl, _, rfl, Or.inl ⟨rfl, fun v a b c => i2 v a (by omega) c⟩⟩
        · refine And.intro (fun c4 => ?_) (fun c4 => ?_)
          · refine hK 33 _ [] T ?_
            refine j_blx (F := fX9) tb_X9 (nn_ _) bk_X9_noneAbove_e_33 bs_X9_noneAbove_e_33 hz (fun K hK => ?_)
            refine rg_i (by omega) ?_
            refine hK 2 [some (vR 109 0), some (vI s), some (vI (i + 1))] [] T ?_
            refine ih_2 _ ?_ (i + 1) (Nat.le_refl _) ?_ ?_
            · have hm_2 := hm_2 (); omega
            · omega
            · intro v a b c
              by_cases z : v = i
              · rw [z]; omega
              · exact i2 v a (by omega) c
          · refine ix_i (by omega) ?_
            intro b5 b5b
            intro b6 b6b
            refine And.intro (fun c7 => ?_) (fun c7 => ?_)
            · refine hK 33 [some (vR 109 0), some (vI s), some (vI i)] [] T ?_
              refine j_blx (F := fX9) tb_X9 (nn_ _) bk_X9_noneAbove_e_33 bs_X9_noneAbove_e_33 hz (fun K hK => ?_)
              refine rg_i (by omega) ?_
              refine hK 2 [some (vR 109 0), some (vI s), some (vI (i + 1))] [] T ?_
              refine ih_2 _ ?_ (i + 1) (Nat.le_refl _) ?_ ?_
              · have hm_2 := hm_2 (); omega
              · omega
              · intro v a b c
                by_cases z : v = i
                · rw [z]; omega
                · exact i2 v a (by omega) c
            · refine (show po_X9_noneAbove_e T s T (some (vI 0)) from ?_)
              exact ⟨rfl, _, rfl, Or.inr ⟨rfl, i, ⟨by omega, by omega, by omega⟩, by omega⟩⟩
  refine j_blx (F := fX9) tb_X9 (nn_ _) bk_X9_noneAbove_e_0 bs_X9_noneAbove_e_0 hz (fun K hK => ?_)
  refine hK 2 [some (vR 109 0), some (vI s), some (vI 0)] [] T ?_
  refine c_2 _ 0 (Nat.le_refl _) ?_ ?_
  · omega
  · intro v a b c; omega
-- who can be first: results tried one by one
/-- points after result r of a match between seats a and b -/
def gp7_ (ru : Int → Int) (a b r : Int) (p : Int → Int) : Int → Int := fun v => p v + (if v = a then ru (1 + r) else 0) + (if v = b then ru (3 - r) else 0)
def st7_ (a b be r : Int) (q : Int → Int) (o : Option (List Int)) : Option (List Int) := if q a ≤ be ∧ q b ≤ be then o.map (fun l => r :: l) else none
def or7_ : Option (List Int) → Option (List Int) → Option (List Int)
  | some x, _ => some x
  | none, y => y
/-- the first row of results, from match k on, in which nobody passes be -/
def tr7_ (ru hs aw : Int → Int) (be : Int) : Nat → Int → (Int → Int) → Option (List Int)
  | 0, _, _ => some []
  | i + 1, k, p => or7_ (st7_ (hs k) (aw k) be 0 (gp7_ ru (hs k) (aw k) 0 p) (tr7_ ru hs aw be i (k + 1) (gp7_ ru (hs k) (aw k) 0 p))) (or7_ (st7_ (hs k) (aw k) be 1 (gp7_ ru (hs k) (aw k) 1 p) (tr7_ ru hs aw be i (k + 1) (gp7_ ru (hs k) (aw k) 1 p))) (st7_ (hs k) (aw k) be 2 (gp7_ ru (hs k) (aw k) 2 p) (tr7_ ru hs aw be i (k + 1) (gp7_ ru (hs k) (aw k) 2 p))))
def sq7_ (ru hs aw : Int → Int) (be : Int) (i : Nat) (k : Int) (p : Int → Int) (r : Int) : Option (List Int) := st7_ (hs k) (aw k) be r (gp7_ ru (hs k) (aw k) r p) (tr7_ ru hs aw be i (k + 1) (gp7_ ru (hs k) (aw k) r p))
theorem tr7_u {ru hs aw : Int → Int} {be : Int} {i : Nat} {k : Int} {p : Int → Int} : tr7_ ru hs aw be (i + 1) k p = or7_ (sq7_ ru hs aw be i k p 0) (or7_ (sq7_ ru hs aw be i k p 1) (sq7_ ru hs aw be i k p 2)) := rfl
theorem tr7_n {ru hs aw : Int → Int} {be : Int} {i : Nat} {k : Int} {p : Int → Int} (h : ∀ r, 0 ≤ r → r < 3 → sq7_ ru hs aw be i k p r = none) : tr7_ ru hs aw be (i + 1) k p = none := by
  rw [tr7_u, h 0 (by decide) (by decide), h 1 (by decide) (by decide), h 2 (by decide) (by decide)]
  rfl
theorem tr7_y {ru hs aw : Int → Int} {be : Int} {i : Nat} {k : Int} {p : Int → Int} {j : Int} {l : List Int} (h0 : 0 ≤ j ∧ j < 3) (h : ∀ r, 0 ≤ r → r < j → sq7_ ru hs aw be i k p r = none) (e : sq7_ ru hs aw be i k p j = some l) : tr7_ ru hs aw be (i + 1) k p = some l := by
  rw [tr7_u]
  rcases (by omega : j = 0 ∨ j = 1 ∨ j = 2) with z | z | z
  · rw [z] at e
    rw [e]
    rfl
  · rw [z] at e
    rw [h 0 (by decide) (by omega), e]
    rfl
  · rw [z] at e
    rw [h 0 (by decide) (by omega), h 1 (by decide) (by omega), e]
    rfl
theorem sq7_f {ru hs aw : Int → Int} {be : Int} {i : Nat} {k : Int} {p : Int → Int} {r : Int} (h : ¬ (gp7_ ru (hs k) (aw k) r p (hs k) ≤ be ∧ gp7_ ru (hs k) (aw k) r p (aw k) ≤ be)) : sq7_ ru hs aw be i k p r = none := if_neg h
theorem sq7_t {ru hs aw : Int → Int} {be : Int} {i : Nat} {k : Int} {p : Int → Int} {r : Int} (h : gp7_ ru (hs k) (aw k) r p (hs k) ≤ be ∧ gp7_ ru (hs k) (aw k) r p (aw k) ≤ be) : sq7_ ru hs aw be i k p r = (tr7_ ru hs aw be i (k + 1) (gp7_ ru (hs k) (aw k) r p)).map (fun l => r :: l) := if_pos h
/-- the results of the listed matches -/
def rl7_ (U : Zt) (op : Int → Int) : Nat → Int → List Int
  | 0, _ => []
  | i + 1, k => U 584 0 (op k) :: rl7_ U op i (k + 1)
theorem rl7_e {U U' : Zt} {op : Int → Int} : ∀ (i : Nat) (k : Int), (∀ j, k ≤ j → j < k + (i : Int) → U 584 0 (op j) = U' 584 0 (op j)) → rl7_ U op i k = rl7_ U' op i k
  | 0, _, _ => rfl
  | i + 1, k, h => by
    show U 584 0 (op k) :: rl7_ U op i (k + 1) = U' 584 0 (op k) :: rl7_ U' op i (k + 1)
    rw [h k (by omega) (by omega), rl7_e i (k + 1) (fun j a b => h j (by omega) (by omega))]
/-- what the search leaves -/
def PS7_ (ru hs aw op : Int → Int) (n be k x : Int) (T T' : Zt) : Prop := ((x = 1 ∧ tr7_ ru hs aw be (n - k).toNat k (fun v => T 587 0 v) = some (rl7_ T' op (n - k).toNat k)) ∨ (x = 0 ∧ tr7_ ru hs aw be (n - k).toNat k (fun v => T 587 0 v) = none ∧ ∀ j, k ≤ j → j < n → T' 584 0 (op j) = -1)) ∧ (∀ v, T' 587 0 v = T 587 0 v) ∧ ∀ y, (∀ j, k ≤ j → j < n → y ≠ op j) → T' 584 0 y = T 584 0 y
theorem gp7_u {U U2 U3 : Zt} {a b f g v1 v2 : Int} (e1 : U2 = up_ U 587 0 a v1) (e2 : U3 = up_ U2 587 0 b v2) (h1 : v1 = wr_ (U 587 0 a + f)) (h2 : v2 = wr_ (U2 587 0 b + g)) (ba : -1000000000 ≤ U 587 0 a ∧ U 587 0 a ≤ 1000000000) (bb : -1000000000 ≤ U 587 0 b ∧ U 587 0 b ≤ 1000000000) (bf : -1000000 ≤ f ∧ f ≤ 1000000) (bg : -1000000 ≤ g ∧ g ≤ 1000000) : ∀ v, U3 587 0 v = U 587 0 v + (if v = a then f else 0) + (if v = b then g else 0) := fun v => by
  rw [wr_9 (by omega)] at h1
  have s1 : ∀ x, U2 587 0 x = U 587 0 x + (if x = a then f else 0) := fun x => by
    by_cases z : x = a
    · rw [if_pos z, z, up_f e1, h1]
    · rw [if_neg z, up_g e1 (fun q => z q.2.2), Int.add_zero]
  have c1 := s1 b
  have c2 : -1000000 ≤ (if b = a then f else 0) ∧ (if b = a then f else 0) ≤ 1000000 := by
    by_cases z : b = a
    · rw [if_pos z]; exact bf
    · rw [if_neg z]; decide
  rw [wr_9 (by omega)] at h2
  by_cases z : v = b
  · rw [if_pos z, z, up_f e2, h2, s1]
  · rw [if_neg z, up_g e2 (fun q => z q.2.2), s1, Int.add_zero]
theorem gp7_d {U U2 U3 : Zt} {a b f g v1 v2 : Int} {p : Int → Int} (e1 : U2 = up_ U 587 0 a v1) (e2 : U3 = up_ U2 587 0 b v2) (h1 : v1 = wr_ (U 587 0 a - f)) (h2 : v2 = wr_ (U2 587 0 b - g)) (hU : ∀ v, U 587 0 v = p v + (if v = a then f else 0) + (if v = b then g else 0)) (ba : -1000000000 ≤ p a ∧ p a ≤ 1000000000) (bb : -1000000000 ≤ p b ∧ p b ≤ 1000000000) (bf : -1000000 ≤ f ∧ f ≤ 1000000) (bg : -1000000 ≤ g ∧ g ≤ 1000000) : ∀ v, U3 587 0 v = p v := fun v => by
  have ca := hU a
  have cb := hU b
  rw [if_pos rfl] at ca
  rw [if_pos (rfl : b = b)] at cb
  have d1 : -1000000 ≤ (if a = b then g else 0) ∧ (if a = b then g else 0) ≤ 1000000 := by
    by_cases z : a = b
    · rw [if_pos z]; exact bg
    · rw [if_neg z]; decide
  have d2 : -1000000 ≤ (if b = a then f else 0) ∧ (if b = a then f else 0) ≤ 1000000 := by
    by_cases z : b = a
    · rw [if_pos z]; exact bf
    · rw [if_neg z]; decide
  rw [wr_9 (by omega)] at h1
  have s1 : ∀ x, U2 587 0 x = p x + (if x = b then g else 0) := fun x => by
    by_cases z : x = a
    · rw [z, up_f e1, h1]; omega
    · rw [up_g e1 (fun q => z q.2.2), hU x, if_neg z]; omega
  have c1 := s1 b
  rw [if_pos (rfl : b = b)] at c1
  rw [wr_9 (by omega)] at h2
  by_cases z : v = b
  · rw [z, up_f e2, h2]; omega
  · rw [up_g e2 (fun q => z q.2.2), s1, if_neg z, Int.add_zero]
theorem gp7_b {ru : Int → Int} {a b r v : Int} {p : Int → Int} (h : ∀ w, 1 ≤ w ∧ w ≤ 3 → 0 ≤ ru w ∧ ru w ≤ 1000) (hr : 0 ≤ r ∧ r ≤ 2) : p v ≤ gp7_ ru a b r p v ∧ gp7_ ru a b r p v ≤ p v + 2000 := by
  have h1 := h (1 + r) (by omega)
  have h2 := h (3 - r) (by omega)
  unfold gp7_
  have c1 : 0 ≤ (if v = a then ru (1 + r) else 0) ∧ (if v = a then ru (1 + r) else 0) ≤ 1000 := by
    by_cases z : v = a
    · rw [if_pos z]; exact h1
    · rw [if_neg z]; decide
  have c2 : 0 ≤ (if v = b then ru (3 - r) else 0) ∧ (if v = b then ru (3 - r) else 0) ≤ 1000 := by
    by_cases z : v = b
    · rw [if_pos z]; exact h2
    · rw [if_neg z]; decide
  omega
theorem bk_X9_search_e0_0 : ck_ fX9 (some .boolean) cX9_search 0 [.iload 1, .aload 0, .tableswitch 0 9 9 #[], .if_icmp .ge 14, .iload 1, .iconst 8, .if_icmp .lt 16, .iconst 1, .ireturn] 16 = true := qck_r (nn_ _) (by decide +kernel)
theorem bs_X9_search_e0_0 {P : Zt → Option Zv → Prop} (K : Int → Zl → List Zv → Zt → Prop) : sx_ K P [.iload 1, .aload 0, .tableswitch 0 9 9 #[], .if_icmp .ge 14, .iload 1, .iconst 8, .if_icmp .lt 16, .iconst 1, .ireturn] 16 = x_iload 1 (x_aload 0 (x_g0 109 9 0 40 (x_if_icmp .ge 14 K (x_iload 1 (x_iconst 8 (x_if_icmp .lt 16 K (x_iconst 1 (x_ireturn P)))))))) := ((xe_iload 1).trans (congrArg (x_iload 1) ((xe_aload 0).trans (congrArg (x_aload 0) ((xe_g0 (kk := 109) rfl tl_9_9).trans (congrArg (x_g0 109 9 0 40) ((xe_if_icmp .ge 14).trans (congrArg (x_if_icmp .ge 14 K) ((xe_iload 1).trans (congrArg (x_iload 1) ((xe_iconst 8).trans (congrArg (x_iconst 8) ((xe_if_icmp .lt 16).trans (congrArg (x_if_icmp .lt 16 K) ((xe_iconst 1).trans (congrArg (x_iconst 1) (xe_ireturn)))))))))))))))))
theorem bk_X9_search_e0_14 : ck_ fX9 (some .boolean) cX9_search 14 [.iconst 1, .ireturn] 16 = true := qck_r (nn_ _) (by decide +kernel)
theorem bs_X9_search_e0_14 {P : Zt → Option Zv → Prop} (K : Int → Zl → List Zv → Zt → Prop) : sx_ K P [.iconst 1, .ireturn] 16 = x_iconst 1 (x_ireturn P) := ((xe_iconst 1).trans (congrArg (x_iconst 1) (xe_ireturn)))
abbrev po_X9_search_e0 (T : Zt) (m : Int) (k : Int) : Zt → Option Zv → Prop := fun T' r => ∃ x : Int, r = some (vI x) ∧ fr_ [(587, []), (584, [])] T T' ∧ (PS7_ (fun w => T 401 (T 109 0 5 - 1) w) (hsx_ T) (asx_ T) (fun j => T 588 0 j) (T 109 0 9) (T 109 0 6) k x T T')
set_option maxHeartbeats 4000000 in
theorem ct_X9_search_e0 {T : Zt} {m : Int} {k : Int} (hq9 : Q9_ T) (hka : KA_ T) (hkm : KM_ T) (hk : 0 ≤ k ∧ 8 ≤ k) (hn8 : T 109 0 9 ≤ 8) (hop : ∀ a b, 0 ≤ a → a < b → b < T 109 0 9 → T 588 0 a ≠ T 588 0 b) (hrs : ∀ i, k ≤ i → i < T 109 0 9 → T 584 0 (T 588 0 i) = -1) (hpb : ∀ v, 0 ≤ v → v < m → -8000000 ≤ T 587 0 v ∧ T 587 0 v ≤ 8000000 + 2000 * k) (hru : ∀ w, 1 ≤ w ∧ w ≤ 3 → 0 ≤ (fun w => T 401 (T 109 0 5 - 1) w) w ∧ (fun w => T 401 (T 109 0 5 - 1) w) w ≤ 1000) (hsm : ∀ i, 0 ≤ i → i < T 109 0 9 → hsx_ T i < m ∧ asx_ T i < m) : Ct_ yX9_search zX9_search_0 T [vR 109 0, vI k] (po_X9_search_e0 T m k) := by
  refine ct_of pn_9 rfl rfl (Nat.le_of_ble_eq_true rfl) (fun hT hav => ?_)
  have hr_k : -2147483648 ≤ k ∧ k ≤ 2147483647 := hav (vI k) (List.mem_cons_of_mem _ List.mem_cons_self)
  have hz : zX9_search_0.2.2.2.1 = some .boolean → ∀ (T' : Zt) (x : Int), po_X9_search_e0 T m k T' (some (vI x)) → 0 ≤ x ∧ x ≤ 1 := fun _ T' x h => by obtain ⟨y, e, -, hy⟩ := h; cases e; rcases hy.1 with ⟨z, -⟩ | ⟨z, -⟩ <;> omega
  have hct := hq9.1
  have hbo : 0 ≤ T 109 0 9 ∧ T 109 0 9 ≤ 40 := bd_f hT 109 9 tl_9_9 0
  show J_ zX9_search_0 T (po_X9_search_e0 T m k) 0 0 0 [some (vR 109 0), some (vI k), none, none, none, none, none, none, none] [] T
  refine j_blx (F := fX9) tb_X9 (nn_ _) bk_X9_search_e0_0 bs_X9_search_e0_0 hz (fun K hK => ?_)
  intro b1 b1b
  refine And.intro (fun c2 => ?_) (fun c2 => ?_)
  · refine hK 14 _ [] T ?_
    refine j_blx (F := fX9) tb_X9 (nn_ _) bk_X9_search_e0_14 bs_X9_search_e0_14 hz (fun K hK => ?_)
    refine (show po_X9_search_e0 T m k T (some (vI 1)) from ?_)
    refine ⟨_, rfl, fr_0 _ _, Or.inl ⟨rfl, ?_⟩, fun v => rfl, fun y _ => rfl⟩
    rw [show (T 109 0 9 - k).toNat = 0 by omega]
    rfl
  · refine And.intro (fun c3 => ?_) (fun c3 => ?_)
    · exact absurd c3 (by omega)
    · refine (show po_X9_search_e0 T m k T (some (vI 1)) from ?_)
      refine ⟨_, rfl, fr_0 _ _, Or.inl ⟨rfl, ?_⟩, fun v => rfl, fun y _ => rfl⟩
      rw [show (T 109 0 9 - k).toNat = 0 by omega]
      rfl
theorem bk_X9_search_e1_61 : ck_ fX9 (some .boolean) cX9_search 61 [.iload 5, .iconst 2, .if_icmp .gt 209, .aload 0, .tableswitch 0 9 5 #[], .tableswitch 0 0 1 #[], .iconst 1, .iload 5, .iadd, .iaload, .istore 6, .aload 0, .tableswitch 0 9 5 #[], .tableswitch 0 0 1 #[], .iconst 3, .iload 5, .isub, .iaload, .istore 7, .aload 0, .tableswitch 0 9 7 #[], .iload 3, .dup2, .iaload, .iload 6, .fadd, .iastore, .aload 0, .tableswitch 0 9 7 #[], .iload 4, .dup2, .iaload, .iload 7, .fadd, .iastore, .aload 0, .tableswitch 0 9 4 #[], .aload 2, .tableswitch 0 2 1 #[], .iload 5, .iastore, .aload 0, .tableswitch 0 9 7 #[], .iload 3, .iaload, .aload 0, .tableswitch 0 9 6 #[], .if_icmp .gt 170, .aload 0, .tableswitch 0 9 7 #[], .iload 4, .iaload, .aload 0, .tableswitch 0 9 6 #[], .if_icmp .gt 170, .aload 0, .iload 1, .iconst 1, .iadd] 160 = true := qck_r (nn_ _) (by decide +kernel)
theorem bs_X9_search_e1_61 {P : Zt → Option Zv → Prop} (K : Int → Zl → List Zv → Zt → Prop) : sx_ K P [.iload 5, .iconst 2, .if_icmp .gt 209, .aload 0, .tableswitch 0 9 5 #[], .tableswitch 0 0 1 #[], .iconst 1, .iload 5, .iadd, .iaload, .istore 6, .aload 0, .tableswitch 0 9 5 #[], .tableswitch 0 0 1 #[], .iconst 3, .iload 5, .isub, .iaload, .istore 7, .aload 0, .tableswitch 0 9 7 #[], .iload 3, .dup2, .iaload, .iload 6, .fadd, .iastore, .aload 0, .tableswitch 0 9 7 #[], .iload 4, .dup2, .iaload, .iload 7, .fadd, .iastore, .aload 0, .tableswitch 0 9 4 #[], .aload 2, .tableswitch 0 2 1 #[], .iload 5, .iastore, .aload 0, .tableswitch 0 9 7 #[], .iload 3, .iaload, .aload 0, .tableswitch 0 9 6 #[], .if_icmp .gt 170, .aload 0, .tableswitch 0 9 7 #[], .iload 4, .iaload, .aload 0, .tableswitch 0 9 6 #[], .if_icmp .gt 170, .aload 0, .iload 1, .iconst 1, .iadd] 160 = x_iload 5 (x_iconst 2 (x_if_icmp .gt 209 K (x_aload 0 (x_g5 109 100 5 (x_g2 100 401 (x_iconst 1 (x_iload 5 (x_iadd (x_iaload (x_istore 6 (x_aload 0 (x_g5 109 100 5 (x_g2 100 401 (x_iconst 3 (x_iload 5 (x_isub (x_iaload (x_istore 7 (x_aload 0 (x_g1 109 587 (x_iload 3 (x_dup2 (x_iaload (x_iload 6 (x_fadd (x_iastore (x_aload 0 (x_g1 109 587 (x_iload 4 (x_dup2 (x_iaload (x_iload 7 (x_fadd (x_iastore (x_aload 0 (x_g1 109 584 (x_aload 2 (x_g0 102 1 0 399 (x_iload 5 (x_iastore (x_aload 0 (x_g1 109 587 (x_iload 3 (x_iaload (x_aload 0 (x_g0 109 6 (-2147483648) 2147483647 (x_if_icmp .gt 170 K (x_aload 0 (x_g1 109 587 (x_iload 4 (x_iaload (x_aload 0 (x_g0 109 6 (-2147483648) 2147483647 (x_if_icmp .gt 170 K (x_aload 0 (x_iload 1 (x_iconst 1 (x_iadd (K 160))))))))))))))))))))))))))))))))))))))))))))))))))))))))))) := ((xe_iload 5).trans (congrArg (x_iload 5) ((xe_iconst 2).trans (congrArg (x_iconst 2) ((xe_if_icmp .gt 209).trans (congrArg (x_if_icmp .gt 209 K) ((xe_aload 0).trans (congrArg (x_aload 0) ((xe_g5 (kk := 109) rfl tl_9_5).trans (congrArg (x_g5 109 100 5) ((xe_g2 (kk := 100) rfl tl_0_1).trans (congrArg (x_g2 100 401) ((xe_iconst 1).trans (congrArg (x_iconst 1) ((xe_iload 5).trans (congrArg (x_iload 5) ((xe_iadd).trans (congrArg (x_iadd) ((xe_iaload).trans (congrArg (x_iaload) ((xe_istore 6).trans (congrArg (x_istore 6) ((xe_aload 0).trans (congrArg (x_aload 0) ((xe_g5 (kk := 109) rfl tl_9_5).trans (congrArg (x_g5 109 100 5) ((xe_g2 (kk := 100) rfl tl_0_1).trans (congrArg (x_g2 100 401) ((xe_iconst 3).trans (congrArg (x_iconst 3) ((xe_iload 5).trans (congrArg (x_iload 5) ((xe_isub).trans (congrArg (x_isub) ((xe_iaload).trans (congrArg (x_iaload) ((xe_istore 7).trans (congrArg (x_istore 7) ((xe_aload 0).trans (congrArg (x_aload 0) ((xe_g1 (kk := 109) rfl tl_9_7).trans (congrArg (x_g1 109 587) ((xe_iload 3).trans (congrArg (x_iload 3) ((xe_dup2).trans (congrArg (x_dup2) ((xe_iaload).trans (congrArg (x_iaload) ((xe_iload 6).trans (congrArg (x_iload 6) ((xe_fadd).trans (congrArg (x_fadd) ((xe_iastore).trans (congrArg (x_iastore) ((xe_aload 0).trans (congrArg (x_aload 0) ((xe_g1 (kk := 109) rfl tl_9_7).trans (congrArg (x_g1 109 587) ((xe_iload 4).trans (congrArg (x_iload 4) ((xe_dup2).trans (congrArg (x_dup2) ((xe_iaload).trans (congrArg (x_iaload) ((xe_iload 7).trans (congrArg (x_iload 7) ((xe_fadd).trans (congrArg (x_fadd) ((xe_iastore).trans (congrArg (x_iastore) ((xe_aload 0).trans (congrArg (x_aload 0) ((xe_g1 (kk := 109) rfl tl_9_4).trans (congrArg (x_g1 109 584) ((xe_aload 2).trans (congrArg (x_aload 2) ((xe_g0 (kk := 102) rfl tl_2_1).trans (congrArg (x_g0 102 1 0 399) ((xe_iload 5).trans (congrArg (x_iload 5) ((xe_iastore).trans (congrArg (x_iastore) ((xe_aload 0).trans (congrArg (x_aload 0) ((xe_g1 (kk := 109) rfl tl_9_7).trans (congrArg (x_g1 109 587) ((xe_iload 3).trans (congrArg (x_iload 3) ((xe_iaload).trans (congrArg (x_iaload) ((xe_aload 0).trans (congrArg (x_aload 0) ((xe_g0 (kk := 109) rfl tl_9_6).trans (congrArg (x_g0 109 6 (-2147483648) 2147483647) ((xe_if_icmp .gt 170).trans (congrArg (x_if_icmp .gt 170 K) ((xe_aload 0).trans (congrArg (x_aload 0) ((xe_g1 (kk := 109) rfl tl_9_7).trans (congrArg (x_g1 109 587) ((xe_iload 4).trans (congrArg (x_iload 4) ((xe_iaload).trans (congrArg (x_iaload) ((xe_aload 0).trans (congrArg (x_aload 0) ((xe_g0 (kk := 109) rfl tl_9_6).trans (congrArg (x_g0 109 6 (-2147483648) 2147483647) ((xe_if_icmp .gt 170).trans (congrArg (x_if_icmp .gt 170 K) ((xe_aload 0).trans (congrArg (x_aload 0) ((xe_iload 1).trans (congrArg (x_iload 1) ((xe_iconst 1).trans (congrArg (x_iconst 1) ((xe_iadd).trans (congrArg (x_iadd) xe_nil))))))))))))))))))))))))))))))))))))))))))))))))))))))))))))))))))))))))))))))))))))))))))))))))))))))))))))))))))))))
theorem bk_X9_search_e1_209 : ck_ fX9 (some .boolean) cX9_search 209 [.aload 0, .tableswitch 0 9 4 #[], .aload 2, .tableswitch 0 2 1 #[], .iconst (-1), .iastore, .iconst 0, .ireturn] 221 = true := qck_r (nn_ _) (by decide +kernel)
theorem bs_X9_search_e1_209 {P : Zt → Option Zv → Prop} (K : Int → Zl → List Zv → Zt → Prop) : sx_ K P [.aload 0, .tableswitch 0 9 4 #[], .aload 2, .tableswitch 0 2 1 #[], .iconst (-1), .iastore, .iconst 0, .ireturn] 221 = x_aload 0 (x_g1 109 584 (x_aload 2 (x_g0 102 1 0 399 (x_iconst (-1) (x_iastore (x_iconst 0 (x_ireturn P))))))) := ((xe_aload 0).trans (congrArg (x_aload 0) ((xe_g1 (kk := 109) rfl tl_9_4).trans (congrArg (x_g1 109 584) ((xe_aload 2).trans (congrArg (x_aload 2) ((xe_g0 (kk := 102) rfl tl_2_1).trans (congrArg (x_g0 102 1 0 399) ((xe_iconst (-1)).trans (congrArg (x_iconst (-1)) ((xe_iastore).trans (congrArg (x_iastore) ((xe_iconst 0).trans (congrArg (x_iconst 0) (xe_ireturn)))))))))))))))
theorem bk_X9_search_e1_170 : ck_ fX9 (some .boolean) cX9_search 170 [.iconst 0, .istore 8, .aload 0, .tableswitch 0 9 7 #[], .iload 3, .dup2, .iaload, .iload 6, .fsub, .iastore, .aload 0, .tableswitch 0 9 7 #[], .iload 4, .dup2, .iaload, .iload 7, .fsub, .iastore, .iload 8, .ifCond .eq 203, .iconst 1, .ireturn] 203 = true := qck_r (nn_ _) (by decide +kernel)
theorem bs_X9_search_e1_170 {P : Zt → Option Zv → Prop} (K : Int → Zl → List Zv → Zt → Prop) : sx_ K P [.iconst 0, .istore 8, .aload 0, .tableswitch 0 9 7 #[], .iload 3, .dup2, .iaload, .iload 6, .fsub, .iastore, .aload 0, .tableswitch 0 9 7 #[], .iload 4, .dup2, .iaload, .iload 7, .fsub, .iastore, .iload 8, .ifCond .eq 203, .iconst 1, .ireturn] 203 = x_iconst 0 (x_istore 8 (x_aload 0 (x_g1 109 587 (x_iload 3 (x_dup2 (x_iaload (x_iload 6 (x_fsub (x_iastore (x_aload 0 (x_g1 109 587 (x_iload 4 (x_dup2 (x_iaload (x_iload 7 (x_fsub (x_iastore (x_iload 8 (x_ifCond .eq 203 K (x_iconst 1 (x_ireturn P))))))))))))))))))))) := ((xe_iconst 0).trans (congrArg (x_iconst 0) ((xe_istore 8).trans (congrArg (x_istore 8) ((xe_aload 0).trans (congrArg (x_aload 0) ((xe_g1 (kk := 109) rfl tl_9_7).trans (congrArg (x_g1 109 587) ((xe_iload 3).trans (congrArg (x_iload 3) ((xe_dup2).trans (congrArg (x_dup2) ((xe_iaload).trans (congrArg (x_iaload) ((xe_iload 6).trans (congrArg (x_iload 6) ((xe_fsub).trans (congrArg (x_fsub) ((xe_iastore).trans (congrArg (x_iastore) ((xe_aload 0).trans (congrArg (x_aload 0) ((xe_g1 (kk := 109) rfl tl_9_7).trans (congrArg (x_g1 109 587) ((xe_iload 4).trans (congrArg (x_iload 4) ((xe_dup2).trans (congrArg (x_dup2) ((xe_iaload).trans (congrArg (x_iaload) ((xe_iload 7).trans (congrArg (x_iload 7) ((xe_fsub).trans (congrArg (x_fsub) ((xe_iastore).trans (congrArg (x_iastore) ((xe_iload 8).trans (congrArg (x_iload 8) ((xe_ifCond .eq 203).trans (congrArg (x_ifCond .eq 203 K) ((xe_iconst 1).trans (congrArg (x_iconst 1) (xe_ireturn)))))))))))))))))))))))))))))))))))))))))))
theorem bk_X9_search_e1_203 : ck_ fX9 (some .boolean) cX9_search 203 [.iinc 5 1, .goto 61] 209 = true := qck_r (nn_ _) (by decide +kernel)
theorem bs_X9_search_e1_203 {P : Zt → Option Zv → Prop} (K : Int → Zl → List Zv → Zt → Prop) : sx_ K P [.iinc 5 1, .goto 61] 209 = x_iinc 5 1 (x_goto 61 K) := ((xe_iinc 5 1).trans (congrArg (x_iinc 5 1) (xe_goto 61)))
theorem bk_X9_search_e1_163 : ck_ fX9 (some .boolean) cX9_search 163 [.ifCond .eq 170, .iconst 1, .goto 171] 170 = true := qck_r (nn_ _) (by decide +kernel)
theorem bs_X9_search_e1_163 {P : Zt → Option Zv → Prop} (K : Int → Zl → List Zv → Zt → Prop) : sx_ K P [.ifCond .eq 170, .iconst 1, .goto 171] 170 = x_ifCond .eq 170 K (x_iconst 1 (x_goto 171 K)) := ((xe_ifCond .eq 170).trans (congrArg (x_ifCond .eq 170 K) ((xe_iconst 1).trans (congrArg (x_iconst 1) (xe_goto 171)))))
theorem bk_X9_search_e1_171 : ck_ fX9 (some .boolean) cX9_search 171 [.istore 8, .aload 0, .tableswitch 0 9 7 #[], .iload 3, .dup2, .iaload, .iload 6, .fsub, .iastore, .aload 0, .tableswitch 0 9 7 #[], .iload 4, .dup2, .iaload, .iload 7, .fsub, .iastore, .iload 8, .ifCond .eq 203, .iconst 1, .ireturn] 203 = true := qck_r (nn_ _) (by decide +kernel)
theorem bs_X9_search_e1_171 {P : Zt → Option Zv → Prop} (K : Int → Zl → List Zv → Zt → Prop) : sx_ K P [.istore 8, .aload 0, .tableswitch 0 9 7 #[], .iload 3, .dup2, .iaload, .iload 6, .fsub, .iastore, .aload 0, .tableswitch 0 9 7 #[], .iload 4, .dup2, .iaload, .iload 7, .fsub, .iastore, .iload 8, .ifCond .eq 203, .iconst 1, .ireturn] 203 = x_istore 8 (x_aload 0 (x_g1 109 587 (x_iload 3 (x_dup2 (x_iaload (x_iload 6 (x_fsub (x_iastore (x_aload 0 (x_g1 109 587 (x_iload 4 (x_dup2 (x_iaload (x_iload 7 (x_fsub (x_iastore (x_iload 8 (x_ifCond .eq 203 K (x_iconst 1 (x_ireturn P)))))))))))))))))))) := ((xe_istore 8).trans (congrArg (x_istore 8) ((xe_aload 0).trans (congrArg (x_aload 0) ((xe_g1 (kk := 109) rfl tl_9_7).trans (congrArg (x_g1 109 587) ((xe_iload 3).trans (congrArg (x_iload 3) ((xe_dup2).trans (congrArg (x_dup2) ((xe_iaload).trans (congrArg (x_iaload) ((xe_iload 6).trans (congrArg (x_iload 6) ((xe_fsub).trans (congrArg (x_fsub) ((xe_iastore).trans (congrArg (x_iastore) ((xe_aload 0).trans (congrArg (x_aload 0) ((xe_g1 (kk := 109) rfl tl_9_7).trans (congrArg (x_g1 109 587) ((xe_iload 4).trans (congrArg (x_iload 4) ((xe_dup2).trans (congrArg (x_dup2) ((xe_iaload).trans (congrArg (x_iaload) ((xe_iload 7).trans (congrArg (x_iload 7) ((xe_fsub).trans (congrArg (x_fsub) ((xe_iastore).trans (congrArg (x_iastore) ((xe_iload 8).trans (congrArg (x_iload 8) ((xe_ifCond .eq 203).trans (congrArg (x_ifCond .eq 203 K) ((xe_iconst 1).trans (congrArg (x_iconst 1) (xe_ireturn)))))))))))))))))))))))))))))))))))))))))
theorem bk_X9_search_e1_0 : ck_ fX9 (some .boolean) cX9_search 0 [.iload 1, .aload 0, .tableswitch 0 9 9 #[], .if_icmp .ge 14, .iload 1, .iconst 8, .if_icmp .lt 16, .iconst 1, .ireturn] 16 = true := qck_r (nn_ _) (by decide +kernel)
theorem bs_X9_search_e1_0 {P : Zt → Option Zv → Prop} (K : Int → Zl → List Zv → Zt → Prop) : sx_ K P [.iload 1, .aload 0, .tableswitch 0 9 9 #[], .if_icmp .ge 14, .iload 1, .iconst 8, .if_icmp .lt 16, .iconst 1, .ireturn] 16 = x_iload 1 (x_aload 0 (x_g0 109 9 0 40 (x_if_icmp .ge 14 K (x_iload 1 (x_iconst 8 (x_if_icmp .lt 16 K (x_iconst 1 (x_ireturn P)))))))) := ((xe_iload 1).trans (congrArg (x_iload 1) ((xe_aload 0).trans (congrArg (x_aload 0) ((xe_g0 (kk := 109) rfl tl_9_9).trans (congrArg (x_g0 109 9 0 40) ((xe_if_icmp .ge 14).trans (congrArg (x_if_icmp .ge 14 K) ((xe_iload 1).trans (congrArg (x_iload 1) ((xe_iconst 8).trans (congrArg (x_iconst 8) ((xe_if_icmp .lt 16).trans (congrArg (x_if_icmp .lt 16 K) ((xe_iconst 1).trans (congrArg (x_iconst 1) (xe_ireturn)))))))))))))))))
theorem bk_X9_search_e1_14 : ck_ fX9 (some .boolean) cX9_search 14 [.iconst 1, .ireturn] 16 = true := qck_r (nn_ _) (by decide +kernel)
theorem bs_X9_search_e1_14 {P : Zt → Option Zv → Prop} (K : Int → Zl → List Zv → Zt → Prop) : sx_ K P [.iconst 1, .ireturn] 16 = x_iconst 1 (x_ireturn P) := ((xe_iconst 1).trans (congrArg (x_iconst 1) (xe_ireturn)))
theorem bk_X9_search_e1_16 : ck_ fX9 (some .boolean) cX9_search 16 [.aload 0, .tableswitch 0 9 0 #[], .tableswitch 0 6 3 #[], .aload 0, .tableswitch 0 9 8 #[], .iload 1, .iaload, .aaload, .astore 2, .aload 0, .tableswitch 0 9 5 #[], .tableswitch 0 0 4 #[], .aload 2, .tableswitch 0 2 3 #[], .iaload, .istore 3, .aload 0, .tableswitch 0 9 5 #[], .tableswitch 0 0 4 #[], .aload 2, .tableswitch 0 2 4 #[], .iaload, .istore 4, .iconst 0, .istore 5] 61 = true := qck_r (nn_ _) (by decide +kernel)
theorem bs_X9_search_e1_16 {P : Zt → Option Zv → Prop} (K : Int → Zl → List Zv → Zt → Prop) : sx_ K P [.aload 0, .tableswitch 0 9 0 #[], .tableswitch 0 6 3 #[], .aload 0, .tableswitch 0 9 8 #[], .iload 1, .iaload, .aaload, .astore 2, .aload 0, .tableswitch 0 9 5 #[], .tableswitch 0 0 4 #[], .aload 2, .tableswitch 0 2 3 #[], .iaload, .istore 3, .aload 0, .tableswitch 0 9 5 #[], .tableswitch 0 0 4 #[], .aload 2, .tableswitch 0 2 4 #[], .iaload, .istore 4, .iconst 0, .istore 5] 61 = x_aload 0 (x_g1 109 106 (x_g1 106 523 (x_aload 0 (x_g1 109 588 (x_iload 1 (x_iaload (x_aaload (x_astore 2 (x_aload 0 (x_g5 109 100 5 (x_g2 100 404 (x_aload 2 (x_g0 102 3 0 11 (x_iaload (x_istore 3 (x_aload 0 (x_g5 109 100 5 (x_g2 100 404 (x_aload 2 (x_g0 102 4 0 11 (x_iaload (x_istore 4 (x_iconst 0 (x_istore 5 (K 61))))))))))))))))))))))))) := ((xe_aload 0).trans (congrArg (x_aload 0) ((xe_g1 (kk := 109) rfl tl_9_0).trans (congrArg (x_g1 109 106) ((xe_g1 (kk := 106) rfl tl_6_3).trans (congrArg (x_g1 106 523) ((xe_aload 0).trans (congrArg (x_aload 0) ((xe_g1 (kk := 109) rfl tl_9_8).trans (congrArg (x_g1 109 588) ((xe_iload 1).trans (congrArg (x_iload 1) ((xe_iaload).trans (congrArg (x_iaload) ((xe_aaload).trans (congrArg (x_aaload) ((xe_astore 2).trans (congrArg (x_astore 2) ((xe_aload 0).trans (congrArg (x_aload 0) ((xe_g5 (kk := 109) rfl tl_9_5).trans (congrArg (x_g5 109 100 5) ((xe_g2 (kk := 100) rfl tl_0_4).trans (congrArg (x_g2 100 404) ((xe_aload 2).trans (congrArg (x_aload 2) ((xe_g0 (kk := 102) rfl tl_2_3).trans (congrArg (x_g0 102 3 0 11) ((xe_iaload).trans (congrArg (x_iaload) ((xe_istore 3).trans (congrArg (x_istore 3) ((xe_aload 0).trans (congrArg (x_aload 0) ((xe_g5 (kk := 109) rfl tl_9_5).trans (congrArg (x_g5 109 100 5) ((xe_g2 (kk := 100) rfl tl_0_4).trans (congrArg (x_g2 100 404) ((xe_aload 2).trans (congrArg (x_aload 2) ((xe_g0 (kk := 102) rfl tl_2_4).trans (congrArg (x_g0 102 4 0 11) ((xe_iaload).trans (congrArg (x_iaload) ((xe_istore 4).trans (congrArg (x_istore 4) ((xe_iconst 0).trans (congrArg (x_iconst 0) ((xe_istore 5).trans (congrArg (x_istore 5) xe_nil))))))))))))))))))))))))))))))))))))))))))))))))))
abbrev po_X9_search_e1 (T : Zt) (m : Int) (k : Int) : Zt → Option Zv → Prop := fun T' r => ∃ x : Int, r = some (vI x) ∧ fr_ [(587, []), (584, [])] T T' ∧ (PS7_ (fun w => T 401 (T 109 0 5 - 1) w) (hsx_ T) (asx_ T) (fun j => T 588 0 j) (T 109 0 9) (T 109 0 6) k x T T')
set_option maxHeartbeats 4000000 in
theorem ct_X9_search_es {n : Nat} {T : Zt} {m : Int} {k : Int} (IH : ∀ {T : Zt} {m : Int} {k : Int} (hq9 : Q9_ T) (hka : KA_ T) (hkm : KM_ T) (hk : 0 ≤ k ∧ 8 - (n : Int) ≤ k) (hn8 : T 109 0 9 ≤ 8) (hop : ∀ a b, 0 ≤ a → a < b → b < T 109 0 9 → T 588 0 a ≠ T 588 0 b) (hrs : ∀ i, k ≤ i → i < T 109 0 9 → T 584 0 (T 588 0 i) = -1) (hpb : ∀ v, 0 ≤ v → v < m → -8000000 ≤ T 587 0 v ∧ T 587 0 v ≤ 8000000 + 2000 * k) (hru : ∀ w, 1 ≤ w ∧ w ≤ 3 → 0 ≤ (fun w => T 401 (T 109 0 5 - 1) w) w ∧ (fun w => T 401 (T 109 0 5 - 1) w) w ≤ 1000) (hsm : ∀ i, 0 ≤ i → i < T 109 0 9 → hsx_ T i < m ∧ asx_ T i < m), Ct_ yX9_search (zX9_sq n) T [vR 109 0, vI k] (po_X9_search_e1 T m k)) (hq9 : Q9_ T) (hka : KA_ T) (hkm : KM_ T) (hk : 0 ≤ k ∧ 7 - (n : Int) ≤ k) (hn8 : T 109 0 9 ≤ 8) (hop : ∀ a b, 0 ≤ a → a < b → b < T 109 0 9 → T 588 0 a ≠ T 588 0 b) (hrs : ∀ i, k ≤ i → i < T 109 0 9 → T 584 0 (T 588 0 i) = -1) (hpb : ∀ v, 0 ≤ v → v < m → -8000000 ≤ T 587 0 v ∧ T 587 0 v ≤ 8000000 + 2000 * k) (hru : ∀ w, 1 ≤ w ∧ w ≤ 3 → 0 ≤ (fun w => T 401 (T 109 0 5 - 1) w) w ∧ (fun w => T 401 (T 109 0 5 - 1) w) w ≤ 1000) (hsm : ∀ i, 0 ≤ i → i < T 109 0 9 → hsx_ T i < m ∧ asx_ T i < m) : Ct_ yX9_search (zX9_sq (n + 1)) T [vR 109 0, vI k] (po_X9_search_e1 T m k) := by
  refine ct_of pn_9 rfl rfl (Nat.le_of_ble_eq_true rfl) (fun hT hav => ?_) (hi := fun h => absurd (show im_ 0 = true from h) (by decide))
  have hr_k : -2147483648 ≤ k ∧ k ≤ 2147483647 := hav (vI k) (List.mem_cons_of_mem _ List.mem_cons_self)
  have hz : (zX9_sq (n + 1)).2.2.2.1 = some .boolean → ∀ (T' : Zt) (x : Int), po_X9_search_e1 T m k T' (some (vI x)) → 0 ≤ x ∧ x ≤ 1 := fun _ T' x h => by obtain ⟨y, e, -, hy⟩ := h; cases e; rcases hy.1 with ⟨z, -⟩ | ⟨z, -⟩ <;> omega
  have hct := hq9.1
  have hbo : 0 ≤ T 109 0 9 ∧ T 109 0 9 ≤ 40 := bd_f hT 109 9 tl_9_9 0
  show J_ (zX9_sq (n + 1)) T (po_X9_search_e1 T m k) 0 0 0 [some (vR 109 0), some (vI k), none, none, none, none, none, none, none] [] T
  have c_61 : ∀ (nn : Nat) (j : Int) (T1 : Zt), ((3 - j).toNat) ≤ nn → (fr_ [(587, []), (584, [])] T T1) → (0 ≤ j ∧ j ≤ 3 ∧ k < T 109 0 9 ∧ k < 8) → (∀ v, T1 587 0 v = T 587 0 v) → (∀ i, k < i → i < T 109 0 9 → T1 584 0 (T 588 0 i) = -1) → (∀ y, (∀ i, k ≤ i → i < T 109 0 9 → y ≠ T 588 0 i) → T1 584 0 y = T 584 0 y) → (∀ r, 0 ≤ r → r < j → sq7_ (fun w => T 401 (T 109 0 5 - 1) w) (hsx_ T) (asx_ T) (T 109 0 6) (T 109 0 9 - (k + 1)).toNat k (fun v => T 587 0 v) r = none) → J_ (zX9_sq (n + 1)) T (po_X9_search_e1 T m k) 0 0 61 [some (vR 109 0), some (vI k), some (vR 102 (T 588 0 k)), some (vI (T 404 (T 109 0 5 - 1) (T 102 (T 588 0 k) 3))), some (vI (T 404 (T 109 0 5 - 1) (T 102 (T 588 0 k) 4))), some (vI j), none, none, none] [] T1 := by
    intro nn
    induction nn using Nat.strongRecOn with
    | _ nn ih_61 =>
      intro j T1 hm_61 hf_61 i1 p1 r1 o1 s1
      replace hm_61 := fun (_ : Unit) => hm_61
      have hqk := hq9.2 k (by omega) (by omega)
      have hsk := hsm k (by omega) (by omega)
      unfold hsx_ asx_ at hqk hsk
      refine j_blx (F := fX9) tb_X9 (nn_ _) bk_X9_search_e1_61 bs_X9_search_e1_61 hz (fun K hK => ?_)
      refine And.intro (fun c1 => ?_) (fun c1 => ?_)
      · refine hK 209 _ [] T1 ?_
        refine j_blx (F := fX9) tb_X9 (nn_ _) bk_X9_search_e1_209 bs_X9_search_e1_209 hz (fun K hK => ?_)
        intro b2 b2b
        have e3 : T1 102 (T 588 0 k) 1 = T 102 (T 588 0 k) 1 := hf_61 102 (T 588 0 k) 1 rfl
        rw [e3] at b2 b2b ⊢
        refine iy_i (by omega) (by omega) ?_
        refine x_nm (fun U4 hU4 => ?_)
        have e5 := up_f hU4
        refine (show po_X9_search_e1 T m k U4 (some (vI 0)) from ?_)
        have nk : (T 109 0 9 - k).toNat = (T 109 0 9 - (k + 1)).toNat + 1 := by omega
        have nb := hkm (T 588 0 k) (by omega) (by omega)
        refine ⟨_, rfl, fr_u (fr_t (fr_0 _ _) (fr_s hf_61 rfl)) hU4 rfl, Or.inr ⟨rfl, ?_, fun i a b => ?_⟩, fun v => (up_k hU4 (by exact Nat.ne_of_beq_eq_false rfl) 0 v).trans (p1 v), fun y hy => (up_g hU4 (fun q => hy k (by omega) (by omega) (show y = T 588 0 k by omega))).trans (o1 y hy)⟩
        · rw [nk]
          exact tr7_n (fun r a b => s1 r a (by omega))
        · by_cases z : i = k
          · rw [z]
            have y9 := up_f hU4
            rw [nb.1] at y9
            exact y9
          · show U4 584 0 (T 588 0 i) = -1
            rw [up_g hU4 (fun q => hop k i (by omega) (by omega) b (by omega))]
            exact r1 i (by omega) b
      · have e7 : T1 109 0 5 = T 109 0 5 := hf_61 109 0 5 rfl
        refine And.intro (fun c6 => ?_) (fun c6 => ?_)
        · exact absurd c6 (by omega)
        · have z8 : T1 109 0 5 - 1 = (T 109 0 5 - 1) := by omega
          rw [z8]
          refine rg_i (by omega) ?_
          refine ix_i (by omega) ?_
          intro b9 b9b
          have e10 : T1 401 (T 109 0 5 - 1) (1 + j) = T 401 (T 109 0 5 - 1) (1 + j) := hf_61 401 (T 109 0 5 - 1) (1 + j) rfl
          rw [e10] at b9 b9b ⊢
          have e12 : T1 109 0 5 = T 109 0 5 := hf_61 109 0 5 rfl
          refine And.intro (fun c11 => ?_) (fun c11 => ?_)
          · exact absurd c11 (by omega)
          · have z13 : T1 109 0 5 - 1 = (T 109 0 5 - 1) := by omega
            rw [z13]
            refine rg_i (by omega) ?_
            refine ix_i (by omega) ?_
            intro b14 b14b
            have e15 : T1 401 (T 109 0 5 - 1) (3 - j) = T 401 (T 109 0 5 - 1) (3 - j) := hf_61 401 (T 109 0 5 - 1) (3 - j) rfl
            rw [e15] at b14 b14b ⊢
            refine ix_i (by omega) ?_
            intro b16 b16b
            intro w17 w17b
            refine iy_i (by omega) (by omega) ?_
            refine x_nm (fun U18 hU18 => ?_)
            have e19 := up_f hU18
            refine ix_i (by omega) ?_
            intro b20 b20b
            intro w21 w21b
            refine iy_i (by omega) (by omega) ?_
            refine x_nm (fun U22 hU22 => ?_)
            have e23 := up_f hU22
            intro b24 b24b
            have e25 : U22 102 (T 588 0 k) 1 = T 102 (T 588 0 k) 1 := (up_k hU22 (by exact Nat.ne_of_beq_eq_false rfl) (T 588 0 k) 1).trans ((up_k hU18 (by exact Nat.ne_of_beq_eq_false rfl) (T 588 0 k) 1).trans (hf_61 102 (T 588 0 k) 1 rfl))
            rw [e25] at b24 b24b ⊢
            refine iy_i (by omega) (by omega) ?_
            refine x_nm (fun U26 hU26 => ?_)
            have e27 := up_f hU26
            have nb := hkm (T 588 0 k) (by omega) (by omega)
            have gq9 : ∀ v, U22 587 0 v = T1 587 0 v + (if v = T 404 (T 109 0 5 - 1) (T 102 (T 588 0 k) 3) then T 401 (T 109 0 5 - 1) (1 + j) else 0) + (if v = T 404 (T 109 0 5 - 1) (T 102 (T 588 0 k) 4) then T 401 (T 109 0 5 - 1) (3 - j) else 0) := gp7_u hU18 hU22 rfl rfl (by rw [p1]; have y := hpb (T 404 (T 109 0 5 - 1) (T 102 (T 588 0 k) 3)) (by omega) (by omega); omega) (by rw [p1]; have y := hpb (T 404 (T 109 0 5 - 1) (T 102 (T 588 0 k) 4)) (by omega) (by omega); omega) (by have y : 0 ≤ T 401 (T 109 0 5 - 1) (1 + j) ∧ T 401 (T 109 0 5 - 1) (1 + j) ≤ 1000 := hru (1 + j) (by omega); omega) (by have y : 0 ≤ T 401 (T 109 0 5 - 1) (3 - j) ∧ T 401 (T 109 0 5 - 1) (3 - j) ≤ 1000 := hru (3 - j) (by omega); omega)
            have gh9 : U22 587 0 (T 404 (T 109 0 5 - 1) (T 102 (T 588 0 k) 3)) = gp7_ (fun w => T 401 (T 109 0 5 - 1) w) (hsx_ T k) (asx_ T k) j (fun v => T 587 0 v) (hsx_ T k) := (gq9 _).trans (by rw [p1]; rfl)
            have ga9 : U22 587 0 (T 404 (T 109 0 5 - 1) (T 102 (T 588 0 k) 4)) = gp7_ (fun w => T 401 (T 109 0 5 - 1) w) (hsx_ T k) (asx_ T k) j (fun v => T 587 0 v) (asx_ T k) := (gq9 _).trans (by rw [p1]; rfl)
            refine ix_i (by omega) ?_
            intro b28 b28b
            have e29 : U26 587 0 (T 404 (T 109 0 5 - 1) (T 102 (T 588 0 k) 3)) = U22 587 0 (T 404 (T 109 0 5 - 1) (T 102 (T 588 0 k) 3)) := up_k hU26 (by exact Nat.ne_of_beq_eq_false rfl) 0 (T 404 (T 109 0 5 - 1) (T 102 (T 588 0 k) 3))
            rw [e29] at b28 b28b ⊢
            intro b30 b30b
            have e31 : U26 109 0 6 = T 109 0 6 := (up_k hU26 (by exact Nat.ne_of_beq_eq_false rfl) 0 6).trans ((up_k hU22 (by exact Nat.ne_of_beq_eq_false rfl) 0 6).trans ((up_k hU18 (by exact Nat.ne_of_beq_eq_false rfl) 0 6).trans (hf_61 109 0 6 rfl)))
            rw [e31] at b30 b30b ⊢
            refine And.intro (fun c32 => ?_) (fun c32 => ?_)
            · refine hK 170 [some (vR 109 0), some (vI k), some (vR 102 (T 588 0 k)), some (vI (T 404 (T 109 0 5 - 1) (T 102 (T 588 0 k) 3))), some (vI (T 404 (T 109 0 5 - 1) (T 102 (T 588 0 k) 4))), some (vI j), some (vI (T 401 (T 109 0 5 - 1) (1 + j))), some (vI (T 401 (T 109 0 5 - 1) (3 - j))), none] [] U26 ?_
              refine j_blx (F := fX9) tb_X9 (nn_ _) bk_X9_search_e1_170 bs_X9_search_e1_170 hz (fun K hK => ?_)
              refine ix_i (by omega) ?_
              intro b33 b33b
              have e34 : U26 587 0 (T 404 (T 109 0 5 - 1) (T 102 (T 588 0 k) 3)) = U22 587 0 (T 404 (T 109 0 5 - 1) (T 102 (T 588 0 k) 3)) := up_k hU26 (by exact Nat.ne_of_beq_eq_false rfl) 0 (T 404 (T 109 0 5 - 1) (T 102 (T 588 0 k) 3))
              rw [e34] at b33 b33b ⊢
              intro w35 w35b
              refine iy_i (by omega) (by omega) ?_
              refine x_nm (fun U36 hU36 => ?_)
              have e37 := up_f hU36
              refine ix_i (by omega) ?_
              intro b38 b38b
              intro w39 w39b
              refine iy_i (by omega) (by omega) ?_
              refine x_nm (fun U40 hU40 => ?_)
              have e41 := up_f hU40
              refine And.intro (fun c42 => ?_) (fun c42 => ?_)
              · refine hK 203 [some (vR 109 0), some (vI k), some (vR 102 (T 588 0 k)), some (vI (T 404 (T 109 0 5 - 1) (T 102 (T 588 0 k) 3))), some (vI (T 404 (T 109 0 5 - 1) (T 102 (T 588 0 k) 4))), some (vI j), some (vI (T 401 (T 109 0 5 - 1) (1 + j))), some (vI (T 401 (T 109 0 5 - 1) (3 - j))), some (vI 0)] [] U40 ?_
                refine j_blx (F := fX9) tb_X9 (nn_ _) bk_X9_search_e1_203 bs_X9_search_e1_203 hz (fun K hK => ?_)
                refine rg_i (by omega) ?_
                refine hK 61 [some (vR 109 0), some (vI k), some (vR 102 (T 588 0 k)), some (vI (T 404 (T 109 0 5 - 1) (T 102 (T 588 0 k) 3))), some (vI (T 404 (T 109 0 5 - 1) (T 102 (T 588 0 k) 4))), some (vI (j + 1)), some (vI (T 401 (T 109 0 5 - 1) (1 + j))), some (vI (T 401 (T 109 0 5 - 1) (3 - j))), some (vI 0)] [] U40 ?_
                refine j_drq [some (vR 109 0), some (vI k), some (vR 102 (T 588 0 k)), some (vI (T 404 (T 109 0 5 - 1) (T 102 (T 588 0 k) 3))), some (vI (T 404 (T 109 0 5 - 1) (T 102 (T 588 0 k) 4))), some (vI (j + 1)), none, none, none] (drq_s (drq_s (drq_s (drq_s (drq_s (drq_s (drq_n (drq_n (drq_n drq_0))))))))) ?_
                refine ih_61 _ ?_ (j + 1) U40 (Nat.le_refl _) ?_ ?_ ?_ ?_ ?_ ?_
                · have hm_61 := hm_61 (); omega
                · exact fr_u (fr_u (fr_u (fr_u (fr_u (fr_t (fr_0 _ _) (fr_s hf_61 rfl)) hU18 rfl) hU22 rfl) hU26 rfl) hU36 rfl) hU40 rfl
                · omega
                · exact gp7_d (p := (fun v => T 587 0 v)) hU36 hU40 (by first | rfl | rw [up_k hU26 (by exact Nat.ne_of_beq_eq_false rfl)]) rfl (fun v => (up_k hU26 (by exact Nat.ne_of_beq_eq_false rfl) 0 v).trans ((gq9 v).trans (by rw [p1]))) (by have y := hpb (T 404 (T 109 0 5 - 1) (T 102 (T 588 0 k) 3)) (by omega) (by omega); exact ⟨by show _ ≤ T 587 0 _; omega, by show T 587 0 _ ≤ _; omega⟩) (by have y := hpb (T 404 (T 109 0 5 - 1) (T 102 (T 588 0 k) 4)) (by omega) (by omega); exact ⟨by show _ ≤ T 587 0 _; omega, by show T 587 0 _ ≤ _; omega⟩) (by have y : 0 ≤ T 401 (T 109 0 5 - 1) (1 + j) ∧ T 401 (T 109 0 5 - 1) (1 + j) ≤ 1000 := hru (1 + j) (by omega); omega) (by have y : 0 ≤ T 401 (T 109 0 5 - 1) (3 - j) ∧ T 401 (T 109 0 5 - 1) (3 - j) ≤ 1000 := hru (3 - j) (by omega); omega)
                · intro i a b
                  rw [show U40 584 0 (T 588 0 i) = U26 584 0 (T 588 0 i) from (up_k hU40 (by exact Nat.ne_of_beq_eq_false rfl) 0 _).trans (up_k hU36 (by exact Nat.ne_of_beq_eq_false rfl) 0 _), up_g hU26 (fun q => hop k i (by omega) (by omega) b (by omega)), up_k hU22 (by exact Nat.ne_of_beq_eq_false rfl), up_k hU18 (by exact Nat.ne_of_beq_eq_false rfl)]
                  exact r1 i a b
                · exact fun y hy => ((up_k hU40 (by exact Nat.ne_of_beq_eq_false rfl) 0 y).trans (up_k hU36 (by exact Nat.ne_of_beq_eq_false rfl) 0 y)).trans ((up_g hU26 (fun q => hy k (by omega) (by omega) (show y = T 588 0 k by omega))).trans ((up_k hU22 (by exact Nat.ne_of_beq_eq_false rfl) 0 y).trans ((up_k hU18 (by exact Nat.ne_of_beq_eq_false rfl) 0 y).trans (o1 y hy))))
                · intro r a b
                  by_cases z : r = j
                  · rw [z]
                    exact sq7_f (fun z => by have z1 := z.1; have z2 := z.2; omega)
                  · exact s1 r a (by omega)
              · refine (show po_X9_search_e1 T m k U40 (some (vI 1)) from ?_)
                exfalso; omega
            · refine ix_i (by omega) ?_
              intro b43 b43b
              have e44 : U26 587 0 (T 404 (T 109 0 5 - 1) (T 102 (T 588 0 k) 4)) = wr_ ((U18 587 0 (T 404 (T 109 0 5 - 1) (T 102 (T 588 0 k) 4))) + (T 401 (T 109 0 5 - 1) (3 - j))) := (up_k hU26 (by exact Nat.ne_of_beq_eq_false rfl) 0 (T 404 (T 109 0 5 - 1) (T 102 (T 588 0 k) 4))).trans (up_f hU22)
              rw [e44] at b43 b43b ⊢
              intro b45 b45b
              have e46 : U26 109 0 6 = T 109 0 6 := (up_k hU26 (by exact Nat.ne_of_beq_eq_false rfl) 0 6).trans ((up_k hU22 (by exact Nat.ne_of_beq_eq_false rfl) 0 6).trans ((up_k hU18 (by exact Nat.ne_of_beq_eq_false rfl) 0 6).trans (hf_61 109 0 6 rfl)))
              rw [e46] at b45 b45b ⊢
              refine And.intro (fun c47 => ?_) (fun c47 => ?_)
              · refine hK 170 _ [] U26 ?_
                refine j_blx (F := fX9) tb_X9 (nn_ _) bk_X9_search_e1_170 bs_X9_search_e1_170 hz (fun K hK => ?_)
                refine ix_i (by omega) ?_
                intro b48 b48b
                have e49 : U26 587 0 (T 404 (T 109 0 5 - 1) (T 102 (T 588 0 k) 3)) = U22 587 0 (T 404 (T 109 0 5 - 1) (T 102 (T 588 0 k) 3)) := up_k hU26 (by exact Nat.ne_of_beq_eq_false rfl) 0 (T 404 (T 109 0 5 - 1) (T 102 (T 588 0 k) 3))
                rw [e49] at b48 b48b ⊢
                intro w50 w50b
                refine iy_i (by omega) (by omega) ?_
                refine x_nm (fun U51 hU51 => ?_)
                have e52 := up_f hU51
                refine ix_i (by omega) ?_
                intro b53 b53b
                intro w54 w54b
                refine iy_i (by omega) (by omega) ?_
                refine x_nm (fun U55 hU55 => ?_)
                have e56 := up_f hU55
                refine And.intro (fun c57 => ?_) (fun c57 => ?_)
                · refine hK 203 [some (vR 109 0), some (vI k), some (vR 102 (T 588 0 k)), some (vI (T 404 (T 109 0 5 - 1) (T 102 (T 588 0 k) 3))), some (vI (T 404 (T 109 0 5 - 1) (T 102 (T 588 0 k) 4))), some (vI j), some (vI (T 401 (T 109 0 5 - 1) (1 + j))), some (vI (T 401 (T 109 0 5 - 1) (3 - j))), some (vI 0)] [] U55 ?_
                  refine j_blx (F := fX9) tb_X9 (nn_ _) bk_X9_search_e1_203 bs_X9_search_e1_203 hz (fun K hK => ?_)
                  refine rg_i (by omega) ?_
                  refine hK 61 [some (vR 109 0), some (vI k), some (vR 102 (T 588 0 k)), some (vI (T 404 (T 109 0 5 - 1) (T 102 (T 588 0 k) 3))), some (vI (T 404 (T 109 0 5 - 1) (T 102 (T 588 0 k) 4))), some (vI (j + 1)), some (vI (T 401 (T 109 0 5 - 1) (1 + j))), some (vI (T 401 (T 109 0 5 - 1) (3 - j))), some (vI 0)] [] U55 ?_
                  refine j_drq [some (vR 109 0), some (vI k), some (vR 102 (T 588 0 k)), some (vI (T 404 (T 109 0 5 - 1) (T 102 (T 588 0 k) 3))), some (vI (T 404 (T 109 0 5 - 1) (T 102 (T 588 0 k) 4))), some (vI (j + 1)), none, none, none] (drq_s (drq_s (drq_s (drq_s (drq_s (drq_s (drq_n (drq_n (drq_n drq_0))))))))) ?_
                  refine ih_61 _ ?_ (j + 1) U55 (Nat.le_refl _) ?_ ?_ ?_ ?_ ?_ ?_
                  · have hm_61 := hm_61 (); omega
                  · exact fr_u (fr_u (fr_u (fr_u (fr_u (fr_t (fr_0 _ _) (fr_s hf_61 rfl)) hU18 rfl) hU22 rfl) hU26 rfl) hU51 rfl) hU55 rfl
                  · omega
                  · exact gp7_d (p := (fun v => T 587 0 v)) hU51 hU55 (by first | rfl | rw [up_k hU26 (by exact Nat.ne_of_beq_eq_false rfl)]) rfl (fun v => (up_k hU26 (by exact Nat.ne_of_beq_eq_false rfl) 0 v).trans ((gq9 v).trans (by rw [p1]))) (by have y := hpb (T 404 (T 109 0 5 - 1) (T 102 (T 588 0 k) 3)) (by omega) (by omega); exact ⟨by show _ ≤ T 587 0 _; omega, by show T 587 0 _ ≤ _; omega⟩) (by have y := hpb (T 404 (T 109 0 5 - 1) (T 102 (T 588 0 k) 4)) (by omega) (by omega); exact ⟨by show _ ≤ T 587 0 _; omega, by show T 587 0 _ ≤ _; omega⟩) (by have y : 0 ≤ T 401 (T 109 0 5 - 1) (1 + j) ∧ T 401 (T 109 0 5 - 1) (1 + j) ≤ 1000 := hru (1 + j) (by omega); omega) (by have y : 0 ≤ T 401 (T 109 0 5 - 1) (3 - j) ∧ T 401 (T 109 0 5 - 1) (3 - j) ≤ 1000 := hru (3 - j) (by omega); omega)
                  · intro i a b
                    rw [show U55 584 0 (T 588 0 i) = U26 584 0 (T 588 0 i) from (up_k hU55 (by exact Nat.ne_of_beq_eq_false rfl) 0 _).trans (up_k hU51 (by exact Nat.ne_of_beq_eq_false rfl) 0 _), up_g hU26 (fun q => hop k i (by omega) (by omega) b (by omega)), up_k hU22 (by exact Nat.ne_of_beq_eq_false rfl), up_k hU18 (by exact Nat.ne_of_beq_eq_false rfl)]
                    exact r1 i a b
                  · exact fun y hy => ((up_k hU55 (by exact Nat.ne_of_beq_eq_false rfl) 0 y).trans (up_k hU51 (by exact Nat.ne_of_beq_eq_false rfl) 0 y)).trans ((up_g hU26 (fun q => hy k (by omega) (by omega) (show y = T 588 0 k by omega))).trans ((up_k hU22 (by exact Nat.ne_of_beq_eq_false rfl) 0 y).trans ((up_k hU18 (by exact Nat.ne_of_beq_eq_false rfl) 0 y).trans (o1 y hy))))
                  · intro r a b
                    by_cases z : r = j
                    · rw [z]
                      exact sq7_f (fun z => by have z1 := z.1; have z2 := z.2; omega)
                    · exact s1 r a (by omega)
                · refine (show po_X9_search_e1 T m k U55 (some (vI 1)) from ?_)
                  exfalso; omega
              · refine rg_i (by omega) ?_
                refine hK 160 _ [vI (k + 1), vR 109 0] U26 ?_
                have e58 : U26 109 0 9 = T 109 0 9 := (up_k hU26 (by exact Nat.ne_of_beq_eq_false rfl) 0 9).trans ((up_k hU22 (by exact Nat.ne_of_beq_eq_false rfl) 0 9).trans ((up_k hU18 (by exact Nat.ne_of_beq_eq_false rfl) 0 9).trans (hf_61 109 0 9 rfl)))
                have fq59 : fr_ [(584, []), (587, [])] T U26 := fr_u (fr_u (fr_u (fr_t (fr_0 _ _) (fr_s hf_61 rfl)) hU18 rfl) hU22 rfl) hU26 rfl
                have eh : hsx_ U26 = hsx_ T := funext (hsx_e fq59 ⟨fun _ _ => rfl, fun _ => rfl, rfl, rfl, rfl, rfl, rfl⟩)
                have ea : asx_ U26 = asx_ T := funext (asx_e fq59 ⟨fun _ _ => rfl, fun _ => rfl, rfl, rfl, rfl, rfl, rfl⟩)
                have en : U26 109 0 9 = T 109 0 9 := (up_k hU26 (by exact Nat.ne_of_beq_eq_false rfl) 0 9).trans ((up_k hU22 (by exact Nat.ne_of_beq_eq_false rfl) 0 9).trans ((up_k hU18 (by exact Nat.ne_of_beq_eq_false rfl) 0 9).trans (hf_61 109 0 9 rfl)))
                have eb : U26 109 0 6 = T 109 0 6 := (up_k hU26 (by exact Nat.ne_of_beq_eq_false rfl) 0 6).trans ((up_k hU22 (by exact Nat.ne_of_beq_eq_false rfl) 0 6).trans ((up_k hU18 (by exact Nat.ne_of_beq_eq_false rfl) 0 6).trans (hf_61 109 0 6 rfl)))
                have ec : U26 109 0 5 = T 109 0 5 := (up_k hU26 (by exact Nat.ne_of_beq_eq_false rfl) 0 5).trans ((up_k hU22 (by exact Nat.ne_of_beq_eq_false rfl) 0 5).trans ((up_k hU18 (by exact Nat.ne_of_beq_eq_false rfl) 0 5).trans (hf_61 109 0 5 rfl)))
                have er : (fun w => U26 401 (U26 109 0 5 - 1) w) = (fun w => T 401 (T 109 0 5 - 1) w) := by rw [ec]; exact funext (fun w => (up_k hU26 (by exact Nat.ne_of_beq_eq_false rfl) (T 109 0 5 - 1) w).trans ((up_k hU22 (by exact Nat.ne_of_beq_eq_false rfl) (T 109 0 5 - 1) w).trans ((up_k hU18 (by exact Nat.ne_of_beq_eq_false rfl) (T 109 0 5 - 1) w).trans (hf_61 401 (T 109 0 5 - 1) w rfl))))
                have eo : (fun j => U26 588 0 j) = (fun j => T 588 0 j) := funext (fun j => (up_k hU26 (by exact Nat.ne_of_beq_eq_false rfl) 0 j).trans ((up_k hU22 (by exact Nat.ne_of_beq_eq_false rfl) 0 j).trans ((up_k hU18 (by exact Nat.ne_of_beq_eq_false rfl) 0 j).trans (hf_61 588 0 j rfl))))
                have ep : (fun v => U26 587 0 v) = gp7_ (fun w => T 401 (T 109 0 5 - 1) w) (hsx_ T k) (asx_ T k) j (fun v => T 587 0 v) := funext (fun v => (up_k hU26 (by exact Nat.ne_of_beq_eq_false rfl) 0 v).trans ((gq9 v).trans (by rw [p1 v]; rfl)))
                refine j_callV (pc := 160) (y := yX9_search) (Yc := zX9_sq n) (rest := []) [vI (k + 1)] (IH (T := U26) (m := m) (q9_f hq9 fq59 ⟨fun _ _ => rfl, fun _ => rfl, rfl, rfl, rfl, rfl, rfl⟩) (KA__f (ws := [(584, []), (587, [])]) hka (fr_u (fr_u (fr_u (fr_t (fr_0 _ _) (fr_s hf_61 rfl)) hU18 rfl) hU22 rfl) hU26 rfl) ⟨fun _ => rfl, fun _ => rfl, rfl, rfl, trivial⟩) (KM__f (ws := [(584, []), (587, [])]) hkm (fr_u (fr_u (fr_u (fr_t (fr_0 _ _) (fr_s hf_61 rfl)) hU18 rfl) hU22 rfl) hU26 rfl) ⟨rfl, rfl, rfl, rfl, trivial⟩) (by omega) (by rw [en]; exact hn8) (by rw [en]; exact fun a b p q r => by rw [(up_k hU26 (by exact Nat.ne_of_beq_eq_false rfl) 0 a).trans ((up_k hU22 (by exact Nat.ne_of_beq_eq_false rfl) 0 a).trans ((up_k hU18 (by exact Nat.ne_of_beq_eq_false rfl) 0 a).trans (hf_61 588 0 a rfl))), (up_k hU26 (by exact Nat.ne_of_beq_eq_false rfl) 0 b).trans ((up_k hU22 (by exact Nat.ne_of_beq_eq_false rfl) 0 b).trans ((up_k hU18 (by exact Nat.ne_of_beq_eq_false rfl) 0 b).trans (hf_61 588 0 b rfl)))]; exact hop a b p q r) (by rw [en]; exact fun i a b => by rw [(up_k hU26 (by exact Nat.ne_of_beq_eq_false rfl) 0 i).trans ((up_k hU22 (by exact Nat.ne_of_beq_eq_false rfl) 0 i).trans ((up_k hU18 (by exact Nat.ne_of_beq_eq_false rfl) 0 i).trans (hf_61 588 0 i rfl))), up_g hU26 (fun q => hop k i (by omega) (by omega) b (by omega)), up_k hU22 (by exact Nat.ne_of_beq_eq_false rfl), up_k hU18 (by exact Nat.ne_of_beq_eq_false rfl)]; exact r1 i (by omega) b) (by exact fun v a b => by rw [show U26 587 0 v = _ from congrFun ep v]; have y1 := hpb v a b; have y2 := gp7_b (ru := (fun w => T 401 (T 109 0 5 - 1) w)) (a := hsx_ T k) (b := asx_ T k) (r := j) (p := (fun v => T 587 0 v)) (v := v) hru (by omega); omega) (by rw [er]; exact hru) (by rw [en, eh, ea]; exact hsm)) (cl_sq n) (by show decode cX9_search (Int.toNat 160) = _; decide +kernel) (by decide) rfl (rf_sq n) (Nat.le_of_ble_eq_true rfl) (Nat.le_of_ble_eq_true rfl) (Nat.le_of_ble_eq_true rfl) rfl ?_
                rintro U60 _ ⟨x61, rfl, fU60, qU60⟩
                rw [er, eh, ea, eo, en, eb] at qU60
                unfold PS7_ at qU60
                rw [ep] at qU60
                have x61b : x61 = 0 ∨ x61 = 1 := by rcases qU60.1 with ⟨z, -⟩ | ⟨z, -⟩ <;> omega
                show J_ (zX9_sq (n + 1)) T (po_X9_search_e1 T m k) 0 0 163 _ [vI x61] U60
                refine j_blx (F := fX9) tb_X9 (nn_ _) bk_X9_search_e1_163 bs_X9_search_e1_163 hz (fun K hK => ?_)
                refine And.intro (fun c62 => ?_) (fun c62 => ?_)
                · refine hK 170 _ [] U60 ?_
                  refine j_blx (F := fX9) tb_X9 (nn_ _) bk_X9_search_e1_170 bs_X9_search_e1_170 hz (fun K hK => ?_)
                  refine ix_i (by omega) ?_
                  intro b63 b63b
                  intro w64 w64b
                  refine iy_i (by omega) (by omega) ?_
                  refine x_nm (fun U65 hU65 => ?_)
                  have e66 := up_f hU65
                  refine ix_i (by omega) ?_
                  intro b67 b67b
                  intro w68 w68b
                  refine iy_i (by omega) (by omega) ?_
                  refine x_nm (fun U69 hU69 => ?_)
                  have e70 := up_f hU69
                  refine And.intro (fun c71 => ?_) (fun c71 => ?_)
                  · refine hK 203 [some (vR 109 0), some (vI k), some (vR 102 (T 588 0 k)), some (vI (T 404 (T 109 0 5 - 1) (T 102 (T 588 0 k) 3))), some (vI (T 404 (T 109 0 5 - 1) (T 102 (T 588 0 k) 4))), some (vI j), some (vI (T 401 (T 109 0 5 - 1) (1 + j))), some (vI (T 401 (T 109 0 5 - 1) (3 - j))), some (vI 0)] [] U69 ?_
                    refine j_blx (F := fX9) tb_X9 (nn_ _) bk_X9_search_e1_203 bs_X9_search_e1_203 hz (fun K hK => ?_)
                    refine rg_i (by omega) ?_
                    refine hK 61 [some (vR 109 0), some (vI k), some (vR 102 (T 588 0 k)), some (vI (T 404 (T 109 0 5 - 1) (T 102 (T 588 0 k) 3))), some (vI (T 404 (T 109 0 5 - 1) (T 102 (T 588 0 k) 4))), some (vI (j + 1)), some (vI (T 401 (T 109 0 5 - 1) (1 + j))), some (vI (T 401 (T 109 0 5 - 1) (3 - j))), some (vI 0)] [] U69 ?_
                    refine j_drq [some (vR 109 0), some (vI k), some (vR 102 (T 588 0 k)), some (vI (T 404 (T 109 0 5 - 1) (T 102 (T 588 0 k) 3))), some (vI (T 404 (T 109 0 5 - 1) (T 102 (T 588 0 k) 4))), some (vI (j + 1)), none, none, none] (drq_s (drq_s (drq_s (drq_s (drq_s (drq_s (drq_n (drq_n (drq_n drq_0))))))))) ?_
                    refine ih_61 _ ?_ (j + 1) U69 (Nat.le_refl _) ?_ ?_ ?_ ?_ ?_ ?_
                    · have hm_61 := hm_61 (); omega
                    · exact fr_u (fr_u (fr_t (fr_u (fr_u (fr_u (fr_t (fr_0 _ _) (fr_s hf_61 rfl)) hU18 rfl) hU22 rfl) hU26 rfl) (fr_s fU60 rfl)) hU65 rfl) hU69 rfl
                    · omega
                    · exact gp7_d (p := (fun v => T 587 0 v)) hU65 hU69 (by first | rfl | rw [up_k hU26 (by exact Nat.ne_of_beq_eq_false rfl)]) rfl (fun v => ((qU60.2.1 v).trans (up_k hU26 (by exact Nat.ne_of_beq_eq_false rfl) 0 v)).trans ((gq9 v).trans (by rw [p1]))) (by have y := hpb (T 404 (T 109 0 5 - 1) (T 102 (T 588 0 k) 3)) (by omega) (by omega); exact ⟨by show _ ≤ T 587 0 _; omega, by show T 587 0 _ ≤ _; omega⟩) (by have y := hpb (T 404 (T 109 0 5 - 1) (T 102 (T 588 0 k) 4)) (by omega) (by omega); exact ⟨by show _ ≤ T 587 0 _; omega, by show T 587 0 _ ≤ _; omega⟩) (by have y : 0 ≤ T 401 (T 109 0 5 - 1) (1 + j) ∧ T 401 (T 109 0 5 - 1) (1 + j) ≤ 1000 := hru (1 + j) (by omega); omega) (by have y : 0 ≤ T 401 (T 109 0 5 - 1) (3 - j) ∧ T 401 (T 109 0 5 - 1) (3 - j) ≤ 1000 := hru (3 - j) (by omega); omega)
                    · intro i a b
                      rw [show U69 584 0 (T 588 0 i) = U60 584 0 (T 588 0 i) from (up_k hU69 (by exact Nat.ne_of_beq_eq_false rfl) 0 _).trans (up_k hU65 (by exact Nat.ne_of_beq_eq_false rfl) 0 _)]
                      have z9 := qU60.1.resolve_left (fun z => by have y := z.1; omega)
                      exact z9.2.2 i (by omega) b
                    · exact fun y hy => ((up_k hU69 (by exact Nat.ne_of_beq_eq_false rfl) 0 y).trans (up_k hU65 (by exact Nat.ne_of_beq_eq_false rfl) 0 y)).trans ((qU60.2.2 y (fun i a b => hy i (by omega) b)).trans ((up_g hU26 (fun q => hy k (by omega) (by omega) (show y = T 588 0 k by omega))).trans ((up_k hU22 (by exact Nat.ne_of_beq_eq_false rfl) 0 y).trans ((up_k hU18 (by exact Nat.ne_of_beq_eq_false rfl) 0 y).trans (o1 y hy)))))
                    · intro r a b
                      by_cases z : r = j
                      · rw [z]
                        have z9 := qU60.1.resolve_left (fun z => by have y := z.1; omega)
                        rw [sq7_t ⟨by omega, by omega⟩, z9.2.1]
                        rfl
                      · exact s1 r a (by omega)
                  · refine (show po_X9_search_e1 T m k U69 (some (vI 1)) from ?_)
                    have nk : (T 109 0 9 - k).toNat = (T 109 0 9 - (k + 1)).toNat + 1 := by omega
                    have nb := hkm (T 588 0 k) (by omega) (by omega)
                    have z9 := qU60.1.resolve_right (fun z => by have y := z.1; omega)
                    have rr : U69 584 0 (T 588 0 k) = j := by
                      rw [show U69 584 0 (T 588 0 k) = U60 584 0 (T 588 0 k) from (up_k hU69 (by exact Nat.ne_of_beq_eq_false rfl) 0 _).trans (up_k hU65 (by exact Nat.ne_of_beq_eq_false rfl) 0 _), qU60.2.2 _ (fun i a b => hop k i (by omega) (by omega) b)]
                      have y9 := up_f hU26
                      rw [nb.1] at y9
                      exact y9
                    refine ⟨_, rfl, fr_u (fr_u (fr_t (fr_u (fr_u (fr_u (fr_t (fr_0 _ _) (fr_s hf_61 rfl)) hU18 rfl) hU22 rfl) hU26 rfl) (fr_s fU60 rfl)) hU65 rfl) hU69 rfl, Or.inl ⟨rfl, ?_⟩, gp7_d (p := (fun v => T 587 0 v)) hU65 hU69 (by first | rfl | rw [up_k hU26 (by exact Nat.ne_of_beq_eq_false rfl)]) rfl (fun v => ((qU60.2.1 v).trans (up_k hU26 (by exact Nat.ne_of_beq_eq_false rfl) 0 v)).trans ((gq9 v).trans (by rw [p1]))) (by have y := hpb (T 404 (T 109 0 5 - 1) (T 102 (T 588 0 k) 3)) (by omega) (by omega); exact ⟨by show _ ≤ T 587 0 _; omega, by show T 587 0 _ ≤ _; omega⟩) (by have y := hpb (T 404 (T 109 0 5 - 1) (T 102 (T 588 0 k) 4)) (by omega) (by omega); exact ⟨by show _ ≤ T 587 0 _; omega, by show T 587 0 _ ≤ _; omega⟩) (by have y : 0 ≤ T 401 (T 109 0 5 - 1) (1 + j) ∧ T 401 (T 109 0 5 - 1) (1 + j) ≤ 1000 := hru (1 + j) (by omega); omega) (by have y : 0 ≤ T 401 (T 109 0 5 - 1) (3 - j) ∧ T 401 (T 109 0 5 - 1) (3 - j) ≤ 1000 := hru (3 - j) (by omega); omega), fun y hy => ((up_k hU69 (by exact Nat.ne_of_beq_eq_false rfl) 0 y).trans (up_k hU65 (by exact Nat.ne_of_beq_eq_false rfl) 0 y)).trans ((qU60.2.2 y (fun i a b => hy i (by omega) b)).trans ((up_g hU26 (fun q => hy k (by omega) (by omega) (show y = T 588 0 k by omega))).trans ((up_k hU22 (by exact Nat.ne_of_beq_eq_false rfl) 0 y).trans ((up_k hU18 (by exact Nat.ne_of_beq_eq_false rfl) 0 y).trans (o1 y hy)))))⟩
                    rw [nk]
                    refine tr7_y (j := j) (by omega) s1 ?_
                    rw [sq7_t ⟨by omega, by omega⟩, z9.2]
                    show some (j :: rl7_ U60 (fun j => T 588 0 j) (T 109 0 9 - (k + 1)).toNat (k + 1)) = some (U69 584 0 (T 588 0 k) :: rl7_ U69 (fun j => T 588 0 j) (T 109 0 9 - (k + 1)).toNat (k + 1))
                    rw [rr, rl7_e (U := U69) (U' := U60) (op := (fun j => T 588 0 j)) _ (k + 1) (fun i a b => (up_k hU69 (by exact Nat.ne_of_beq_eq_false rfl) 0 _).trans (up_k hU65 (by exact Nat.ne_of_beq_eq_false rfl) 0 _))]
                · refine hK 171 _ [vI 1] U60 ?_
                  refine j_blx (F := fX9) tb_X9 (nn_ _) bk_X9_search_e1_171 bs_X9_search_e1_171 hz (fun K hK => ?_)
                  refine ix_i (by omega) ?_
                  intro b72 b72b
                  intro w73 w73b
                  refine iy_i (by omega) (by omega) ?_
                  refine x_nm (fun U74 hU74 => ?_)
                  have e75 := up_f hU74
                  refine ix_i (by omega) ?_
                  intro b76 b76b
                  intro w77 w77b
                  refine iy_i (by omega) (by omega) ?_
                  refine x_nm (fun U78 hU78 => ?_)
                  have e79 := up_f hU78
                  refine And.intro (fun c80 => ?_) (fun c80 => ?_)
                  · refine hK 203 [some (vR 109 0), some (vI k), some (vR 102 (T 588 0 k)), some (vI (T 404 (T 109 0 5 - 1) (T 102 (T 588 0 k) 3))), some (vI (T 404 (T 109 0 5 - 1) (T 102 (T 588 0 k) 4))), some (vI j), some (vI (T 401 (T 109 0 5 - 1) (1 + j))), some (vI (T 401 (T 109 0 5 - 1) (3 - j))), some (vI 1)] [] U78 ?_
                    refine j_blx (F := fX9) tb_X9 (nn_ _) bk_X9_search_e1_203 bs_X9_search_e1_203 hz (fun K hK => ?_)
                    refine rg_i (by omega) ?_
                    refine hK 61 [some (vR 109 0), some (vI k), some (vR 102 (T 588 0 k)), some (vI (T 404 (T 109 0 5 - 1) (T 102 (T 588 0 k) 3))), some (vI (T 404 (T 109 0 5 - 1) (T 102 (T 588 0 k) 4))), some (vI (j + 1)), some (vI (T 401 (T 109 0 5 - 1) (1 + j))), some (vI (T 401 (T 109 0 5 - 1) (3 - j))), some (vI 1)] [] U78 ?_
                    refine j_drq [some (vR 109 0), some (vI k), some (vR 102 (T 588 0 k)), some (vI (T 404 (T 109 0 5 - 1) (T 102 (T 588 0 k) 3))), some (vI (T 404 (T 109 0 5 - 1) (T 102 (T 588 0 k) 4))), some (vI (j + 1)), none, none, none] (drq_s (drq_s (drq_s (drq_s (drq_s (drq_s (drq_n (drq_n (drq_n drq_0))))))))) ?_
                    refine ih_61 _ ?_ (j + 1) U78 (Nat.le_refl _) ?_ ?_ ?_ ?_ ?_ ?_
                    · have hm_61 := hm_61 (); omega
                    · exact fr_u (fr_u (fr_t (fr_u (fr_u (fr_u (fr_t (fr_0 _ _) (fr_s hf_61 rfl)) hU18 rfl) hU22 rfl) hU26 rfl) (fr_s fU60 rfl)) hU74 rfl) hU78 rfl
                    · omega
                    · exact gp7_d (p := (fun v => T 587 0 v)) hU74 hU78 (by first | rfl | rw [up_k hU26 (by exact Nat.ne_of_beq_eq_false rfl)]) rfl (fun v => ((qU60.2.1 v).trans (up_k hU26 (by exact Nat.ne_of_beq_eq_false rfl) 0 v)).trans ((gq9 v).trans (by rw [p1]))) (by have y := hpb (T 404 (T 109 0 5 - 1) (T 102 (T 588 0 k) 3)) (by omega) (by omega); exact ⟨by show _ ≤ T 587 0 _; omega, by show T 587 0 _ ≤ _; omega⟩) (by have y := hpb (T 404 (T 109 0 5 - 1) (T 102 (T 588 0 k) 4)) (by omega) (by omega); exact ⟨by show _ ≤ T 587 0 _; omega, by show T 587 0 _ ≤ _; omega⟩) (by have y : 0 ≤ T 401 (T 109 0 5 - 1) (1 + j) ∧ T 401 (T 109 0 5 - 1) (1 + j) ≤ 1000 := hru (1 + j) (by omega); omega) (by have y : 0 ≤ T 401 (T 109 0 5 - 1) (3 - j) ∧ T 401 (T 109 0 5 - 1) (3 - j) ≤ 1000 := hru (3 - j) (by omega); omega)
                    · intro i a b
                      rw [show U78 584 0 (T 588 0 i) = U60 584 0 (T 588 0 i) from (up_k hU78 (by exact Nat.ne_of_beq_eq_false rfl) 0 _).trans (up_k hU74 (by exact Nat.ne_of_beq_eq_false rfl) 0 _)]
                      have z9 := qU60.1.resolve_left (fun z => by have y := z.1; omega)
                      exact z9.2.2 i (by omega) b
                    · exact fun y hy => ((up_k hU78 (by exact Nat.ne_of_beq_eq_false rfl) 0 y).trans (up_k hU74 (by exact Nat.ne_of_beq_eq_false rfl) 0 y)).trans ((qU60.2.2 y (fun i a b => hy i (by omega) b)).trans ((up_g hU26 (fun q => hy k (by omega) (by omega) (show y = T 588 0 k by omega))).trans ((up_k hU22 (by exact Nat.ne_of_beq_eq_false rfl) 0 y).trans ((up_k hU18 (by exact Nat.ne_of_beq_eq_false rfl) 0 y).trans (o1 y hy)))))
                    · intro r a b
                      by_cases z : r = j
                      · rw [z]
                        have z9 := qU60.1.resolve_left (fun z => by have y := z.1; omega)
                        rw [sq7_t ⟨by omega, by omega⟩, z9.2.1]
                        rfl
                      · exact s1 r a (by omega)
                  · refine (show po_X9_search_e1 T m k U78 (some (vI 1)) from ?_)
                    have nk : (T 109 0 9 - k).toNat = (T 109 0 9 - (k + 1)).toNat + 1 := by omega
                    have nb := hkm (T 588 0 k) (by omega) (by omega)
                    have z9 := qU60.1.resolve_right (fun z => by have y := z.1; omega)
                    have rr : U78 584 0 (T 588 0 k) = j := by
                      rw [show U78 584 0 (T 588 0 k) = U60 584 0 (T 588 0 k) from (up_k hU78 (by exact Nat.ne_of_beq_eq_false rfl) 0 _).trans (up_k hU74 (by exact Nat.ne_of_beq_eq_false rfl) 0 _), qU60.2.2 _ (fun i a b => hop k i (by omega) (by omega) b)]
                      have y9 := up_f hU26
                      rw [nb.1] at y9
                      exact y9
                    refine ⟨_, rfl, fr_u (fr_u (fr_t (fr_u (fr_u (fr_u (fr_t (fr_0 _ _) (fr_s hf_61 rfl)) hU18 rfl) hU22 rfl) hU26 rfl) (fr_s fU60 rfl)) hU74 rfl) hU78 rfl, Or.inl ⟨rfl, ?_⟩, gp7_d (p := (fun v => T 587 0 v)) hU74 hU78 (by first | rfl | rw [up_k hU26 (by exact Nat.ne_of_beq_eq_false rfl)]) rfl (fun v => ((qU60.2.1 v).trans (up_k hU26 (by exact Nat.ne_of_beq_eq_false rfl) 0 v)).trans ((gq9 v).trans (by rw [p1]))) (by have y := hpb (T 404 (T 109 0 5 - 1) (T 102 (T 588 0 k) 3)) (by omega) (by omega); exact ⟨by show _ ≤ T 587 0 _; omega, by show T 587 0 _ ≤ _; omega⟩) (by have y := hpb (T 404 (T 109 0 5 - 1) (T 102 (T 588 0 k) 4)) (by omega) (by omega); exact ⟨by show _ ≤ T 587 0 _; omega, by show T 587 0 _ ≤ _; omega⟩) (by have y : 0 ≤ T 401 (T 109 0 5 - 1) (1 + j) ∧ T 401 (T 109 0 5 - 1) (1 + j) ≤ 1000 := hru (1 + j) (by omega); omega) (by have y : 0 ≤ T 401 (T 109 0 5 - 1) (3 - j) ∧ T 401 (T 109 0 5 - 1) (3 - j) ≤ 1000 := hru (3 - j) (by omega); omega), fun y hy => ((up_k hU78 (by exact Nat.ne_of_beq_eq_false rfl) 0 y).trans (up_k hU74 (by exact Nat.ne_of_beq_eq_false rfl) 0 y)).trans ((qU60.2.2 y (fun i a b => hy i (by omega) b)).trans ((up_g hU26 (fun q => hy k (by omega) (by omega) (show y = T 588 0 k by omega))).trans ((up_k hU22 (by exact Nat.ne_of_beq_eq_false rfl) 0 y).trans ((up_k hU18 (by exact Nat.ne_of_beq_eq_false rfl) 0 y).trans (o1 y hy)))))⟩
                    rw [nk]
                    refine tr7_y (j := j) (by omega) s1 ?_
                    rw [sq7_t ⟨by omega, by omega⟩, z9.2]
                    show some (j :: rl7_ U60 (fun j => T 588 0 j) (T 109 0 9 - (k + 1)).toNat (k + 1)) = some (U78 584 0 (T 588 0 k) :: rl7_ U78 (fun j => T 588 0 j) (T 109 0 9 - (k + 1)).toNat (k + 1))
                    rw [rr, rl7_e (U := U78) (U' := U60) (op := (fun j => T 588 0 j)) _ (k + 1) (fun i a b => (up_k hU78 (by exact Nat.ne_of_beq_eq_false rfl) 0 _).trans (up_k hU74 (by exact Nat.ne_of_beq_eq_false rfl) 0 _))]
  refine j_blx (F := fX9) tb_X9 (nn_ _) bk_X9_search_e1_0 bs_X9_search_e1_0 hz (fun K hK => ?_)
  intro b81 b81b
  refine And.intro (fun c82 => ?_) (fun c82 => ?_)
  · refine hK 14 _ [] T ?_
    refine j_blx (F := fX9) tb_X9 (nn_ _) bk_X9_search_e1_14 bs_X9_search_e1_14 hz (fun K hK => ?_)
    refine (show po_X9_search_e1 T m k T (some (vI 1)) from ?_)
    refine ⟨_, rfl, fr_0 _ _, Or.inl ⟨rfl, ?_⟩, fun v => rfl, fun y _ => rfl⟩
    rw [show (T 109 0 9 - k).toNat = 0 by omega]
    rfl
  · refine And.intro (fun c83 => ?_) (fun c83 => ?_)
    · refine hK 16 _ [] T ?_
      have hqk := hq9.2 k (by omega) (by omega)
      have hsk := hsm k (by omega) (by omega)
      unfold hsx_ asx_ at hqk hsk
      refine j_blx (F := fX9) tb_X9 (nn_ _) bk_X9_search_e1_16 bs_X9_search_e1_16 hz (fun K hK => ?_)
      refine ix_i (by omega) ?_
      intro b84 b84b
      refine ix_i (by omega) ?_
      refine And.intro (fun c85 => ?_) (fun c85 => ?_)
      · exact absurd (show T 523 0 (T 588 0 k) = 0 by omega) (hka.2 _ hqk.1.1 hqk.1.2)
      · refine And.intro (fun c86 => ?_) (fun c86 => ?_)
        · exact absurd c86 (by omega)
        · have z87 : T 109 0 5 - 1 = (T 109 0 5 - 1) := by omega
          rw [z87]
          intro b88 b88b
          refine ix_i (by omega) ?_
          intro b89 b89b
          refine And.intro (fun c90 => ?_) (fun c90 => ?_)
          · exact absurd c90 (by omega)
          · have z91 : T 109 0 5 - 1 = (T 109 0 5 - 1) := by omega
            rw [z91]
            intro b92 b92b
            refine ix_i (by omega) ?_
            intro b93 b93b
            refine hK 61 [some (vR 109 0), some (vI k), some (vR 102 (T 588 0 k)), some (vI (T 404 (T 109 0 5 - 1) (T 102 (T 588 0 k) 3))), some (vI (T 404 (T 109 0 5 - 1) (T 102 (T 588 0 k) 4))), some (vI 0), none, none, none] [] T ?_
            refine c_61 _ 0 T (Nat.le_refl _) ?_ ?_ ?_ ?_ ?_ ?_
            · exact fr_0 _ _
            · omega
            · exact fun v => rfl
            · exact fun i a b => hrs i (by omega) b
            · exact fun y _ => rfl
            · intro r a b; omega
    · refine (show po_X9_search_e1 T m k T (some (vI 1)) from ?_)
      refine ⟨_, rfl, fr_0 _ _, Or.inl ⟨rfl, ?_⟩, fun v => rfl, fun y _ => rfl⟩
      rw [show (T 109 0 9 - k).toNat = 0 by omega]
      rfl
theorem ct_X9_search_eq (n : Nat) : ∀ {T : Zt} {m : Int} {k : Int} (hq9 : Q9_ T) (hka : KA_ T) (hkm : KM_ T) (hk : 0 ≤ k ∧ 8 - (n : Int) ≤ k) (hn8 : T 109 0 9 ≤ 8) (hop : ∀ a b, 0 ≤ a → a < b → b < T 109 0 9 → T 588 0 a ≠ T 588 0 b) (hrs : ∀ i, k ≤ i → i < T 109 0 9 → T 584 0 (T 588 0 i) = -1) (hpb : ∀ v, 0 ≤ v → v < m → -8000000 ≤ T 587 0 v ∧ T 587 0 v ≤ 8000000 + 2000 * k) (hru : ∀ w, 1 ≤ w ∧ w ≤ 3 → 0 ≤ (fun w => T 401 (T 109 0 5 - 1) w) w ∧ (fun w => T 401 (T 109 0 5 - 1) w) w ≤ 1000) (hsm : ∀ i, 0 ≤ i → i < T 109 0 9 → hsx_ T i < m ∧ asx_ T i < m), Ct_ yX9_search (zX9_sq n) T [vR 109 0, vI k] (po_X9_search_e1 T m k) := by
  induction n with
  | zero =>
    intro T m k hq9 hka hkm hk hn8 hop hrs hpb hru hsm
    exact ct_X9_search_e0 (T := T) (m := m) (k := k) hq9 hka hkm (by omega) hn8 hop hrs hpb hru hsm
  | succ n ih =>
    intro T m k hq9 hka hkm hk hn8 hop hrs hpb hru hsm
    exact ct_X9_search_es (n := n) (T := T) (m := m) (k := k) (fun {T} {m} {k} hq9 hka hkm hk hn8 hop hrs hpb hru hsm => ih (T := T) (m := m) (k := k) hq9 hka hkm hk hn8 hop hrs hpb hru hsm) hq9 hka hkm (by omega) hn8 hop hrs hpb hru hsm
abbrev po_X9_search_e8 (T : Zt) (m : Int) (k : Int) : Zt → Option Zv → Prop := fun T' r => ∃ x : Int, r = some (vI x) ∧ fr_ [(587, []), (584, [])] T T' ∧ (PS7_ (fun w => T 401 (T 109 0 5 - 1) w) (hsx_ T) (asx_ T) (fun j => T 588 0 j) (T 109 0 9) (T 109 0 6) k x T T')
set_option maxHeartbeats 4000000 in
theorem ct_X9_search_e8 {T : Zt} {m : Int} {k : Int} (hq9 : Q9_ T) (hka : KA_ T) (hkm : KM_ T) (hk : 0 ≤ k ∧ 0 ≤ k) (hn8 : T 109 0 9 ≤ 8) (hop : ∀ a b, 0 ≤ a → a < b → b < T 109 0 9 → T 588 0 a ≠ T 588 0 b) (hrs : ∀ i, k ≤ i → i < T 109 0 9 → T 584 0 (T 588 0 i) = -1) (hpb : ∀ v, 0 ≤ v → v < m → -8000000 ≤ T 587 0 v ∧ T 587 0 v ≤ 8000000 + 2000 * k) (hru : ∀ w, 1 ≤ w ∧ w ≤ 3 → 0 ≤ (fun w => T 401 (T 109 0 5 - 1) w) w ∧ (fun w => T 401 (T 109 0 5 - 1) w) w ≤ 1000) (hsm : ∀ i, 0 ≤ i → i < T 109 0 9 → hsx_ T i < m ∧ asx_ T i < m) : Ct_ yX9_search zX9_search_8 T [vR 109 0, vI k] (po_X9_search_e8 T m k) := ct_X9_search_eq 8 (T := T) (m := m) (k := k) hq9 hka hkm (by omega) hn8 hop hrs hpb hru hsm
-- who can be first: the first row of results that goes, by search and by counting
/-- a row of results goes from match k on: nobody of V passes be -/
def ok7_ (ru hs aw : Int → Int) (V : Int → Prop) (be : Int) : List Int → Int → (Int → Int) → Prop
  | [], _, p => ∀ v, V v → p v ≤ be
  | r :: l, k, p => ok7_ ru hs aw V be l (k + 1) (gp7_ ru (hs k) (aw k) r p)
def VD7_ (l : List Int) : Prop := ∀ r ∈ l, 0 ≤ r ∧ r ≤ 2
/-- the number of a row -/
def nu7_ : List Int → Int
  | [] => 0
  | r :: l => r * 3 ^ l.length + nu7_ l
theorem vd7_c {r : Int} {l : List Int} : VD7_ (r :: l) ↔ (0 ≤ r ∧ r ≤ 2) ∧ VD7_ l := ⟨fun h => ⟨h r (List.mem_cons_self ..), fun x hx => h x (List.mem_cons_of_mem _ hx)⟩, fun h x hx => by
  rcases List.mem_cons.mp hx with z | z
  · rw [z]; exact h.1
  · exact h.2 x z⟩
theorem p37_ (n : Nat) : 0 < (3 : Int) ^ n := by
  induction n with
  | zero => rw [Int.pow_zero]; decide
  | succ n ih => rw [Int.pow_succ]; omega
theorem nu7_b : ∀ l : List Int, VD7_ l → 0 ≤ nu7_ l ∧ nu7_ l < 3 ^ l.length
  | [], _ => by
    show (0 : Int) ≤ 0 ∧ (0 : Int) < 3 ^ 0
    rw [Int.pow_zero]
    decide
  | r :: l, h => by
    have g := vd7_c.mp h
    have ih := nu7_b l g.2
    have p := p37_ l.length
    show 0 ≤ r * 3 ^ l.length + nu7_ l ∧ r * 3 ^ l.length + nu7_ l < 3 ^ (l.length + 1)
    rw [Int.pow_succ]
    generalize (3 : Int) ^ l.length = P at *
    rcases (by omega : r = 0 ∨ r = 1 ∨ r = 2) with z | z | z <;> rw [z] <;> omega
theorem lx7_l {r r' P a b : Int} (h : 0 ≤ r ∧ r ≤ 2) (h' : 0 ≤ r' ∧ r' ≤ 2) (ha : 0 ≤ a ∧ a < P) (hb : 0 ≤ b) (l : r < r') : r * P + a ≤ r' * P + b := by
  rcases (by omega : r = 0 ∨ r = 1) with z | z
  · rcases (by omega : r' = 1 ∨ r' = 2) with y | y <;> rw [z, y] <;> omega
  · rw [z, show r' = 2 by omega]; omega
theorem ok7_m {ru hs aw : Int → Int} {V : Int → Prop} {be : Int} (hr : ∀ w, 1 ≤ w ∧ w ≤ 3 → 0 ≤ ru w ∧ ru w ≤ 1000) : ∀ (l : List Int) (k : Int) (p : Int → Int), VD7_ l → ok7_ ru hs aw V be l k p → ∀ v, V v → p v ≤ be
  | [], _, _, _, h, v, hv => h v hv
  | r :: l, k, p, d, h, v, hv => by
    have g := ok7_m hr l (k + 1) (gp7_ ru (hs k) (aw k) r p) (vd7_c.mp d).2 h v hv
    have b := gp7_b (ru := ru) (a := hs k) (b := aw k) (r := r) (v := v) (p := p) hr (vd7_c.mp d).1
    omega
/-- what the search finds is the first row that goes -/
def LR7_ (ru hs aw : Int → Int) (V : Int → Prop) (be : Int) (i : Nat) (k : Int) (p : Int → Int) (o : Option (List Int)) : Prop := (∀ l, o = some l → l.length = i ∧ VD7_ l ∧ ok7_ ru hs aw V be l k p ∧ ∀ l', l'.length = i → VD7_ l' → ok7_ ru hs aw V be l' k p → nu7_ l ≤ nu7_ l') ∧ (o = none → ∀ l', l'.length = i → VD7_ l' → ¬ ok7_ ru hs aw V be l' k p)
theorem tr7_c {ru hs aw : Int → Int} {V : Int → Prop} {be : Int} (hr : ∀ w, 1 ≤ w ∧ w ≤ 3 → 0 ≤ ru w ∧ ru w ≤ 1000) : ∀ (i : Nat) (k : Int) (p : Int → Int), (∀ v, V v → p v ≤ be) → (∀ j, k ≤ j → j < k + (i : Int) → V (hs j) ∧ V (aw j)) → LR7_ ru hs aw V be i k p (tr7_ ru hs aw be i k p)
  | 0, k, p, hp, _ => by
    refine ⟨fun l h => ?_, fun h => (Option.some_ne_none ([] : List Int) h).elim⟩
    have e : [] = l := Option.some.inj h
    rw [← e]
    refine ⟨rfl, fun r hr => (by cases hr), hp, fun l' h1 _ _ => ?_⟩
    rw [List.length_eq_zero_iff.mp h1]
    exact Int.le_refl _
  | i + 1, k, p, hp, hv => by
    have hk := hv k (Int.le_refl _) (by omega)
    have st : ∀ r, 0 ≤ r → r ≤ 2 → (∀ l, sq7_ ru hs aw be i k p r = some l → ∃ t, l = r :: t ∧ t.length = i ∧ VD7_ t ∧ ok7_ ru hs aw V be t (k + 1) (gp7_ ru (hs k) (aw k) r p) ∧ ∀ t', t'.length = i → VD7_ t' → ok7_ ru hs aw V be t' (k + 1) (gp7_ ru (hs k) (aw k) r p) → nu7_ t ≤ nu7_ t') ∧ (sq7_ ru hs aw be i k p r = none → ∀ t', t'.length = i → VD7_ t' → ¬ ok7_ ru hs aw V be t' (k + 1) (gp7_ ru (hs k) (aw k) r p)) := fun r r0 r1 => by
      by_cases c : gp7_ ru (hs k) (aw k) r p (hs k) ≤ be ∧ gp7_ ru (hs k) (aw k) r p (aw k) ≤ be
      · have hq : ∀ v, V v → gp7_ ru (hs k) (aw k) r p v ≤ be := fun v q => by
          by_cases z : v = hs k
          · rw [z]; exact c.1
          · by_cases y : v = aw k
            · rw [y]; exact c.2
            · have e : gp7_ ru (hs k) (aw k) r p v = p v := by
                unfold gp7_
                rw [if_neg z, if_neg y]
                omega
              rw [e]; exact hp v q
        have ih := tr7_c hr i (k + 1) (gp7_ ru (hs k) (aw k) r p) hq (fun j a b => hv j (by omega) (by omega))
        rw [sq7_t c]
        cases h : tr7_ ru hs aw be i (k + 1) (gp7_ ru (hs k) (aw k) r p) with
        | none =>
          refine ⟨fun l z => (Option.some_ne_none l z.symm).elim, fun _ => ?_⟩
          exact ih.2 h
        | some t =>
          refine ⟨fun l z => ?_, fun z => (Option.some_ne_none (r :: t) z).elim⟩
          have e : r :: t = l := Option.some.inj z
          have g := ih.1 t h
          exact ⟨t, e.symm, g.1, g.2.1, g.2.2.1, g.2.2.2⟩
      · rw [sq7_f c]
        refine ⟨fun l z => (by cases z), fun _ t' _ d q => c ?_⟩
        have g := ok7_m hr t' (k + 1) _ d q
        exact ⟨g _ hk.1, g _ hk.2⟩
    have fin : ∀ r l, 0 ≤ r → r ≤ 2 → (∀ r', 0 ≤ r' → r' < r → sq7_ ru hs aw be i k p r' = none) → sq7_ ru hs aw be i k p r = some l → l.length = i + 1 ∧ VD7_ l ∧ ok7_ ru hs aw V be l k p ∧ ∀ l', l'.length = i + 1 → VD7_ l' → ok7_ ru hs aw V be l' k p → nu7_ l ≤ nu7_ l' := fun r l r0 r1 hn h => by
      obtain ⟨t, e, t1, t2, t3, t4⟩ := (st r r0 r1).1 l h
      rw [e]
      refine ⟨by rw [List.length_cons, t1], vd7_c.mpr ⟨⟨r0, r1⟩, t2⟩, t3, fun l' h1 h2 h3 => ?_⟩
      match l', h1, h2, h3 with
      | [], h1, _, _ => exact absurd h1 (by rw [List.length_nil]; omega)
      | r' :: t', h1, h2, h3 =>
        have u1 : t'.length = i := by
          rw [List.length_cons] at h1
          omega
        have u2 := vd7_c.mp h2
        have b1 := nu7_b t t2
        have b2 := nu7_b t' u2.2
        show r * 3 ^ t.length + nu7_ t ≤ r' * 3 ^ t'.length + nu7_ t'
        rw [t1] at b1 ⊢
        rw [u1] at b2 ⊢
        rcases Int.lt_trichotomy r' r with z | z | z
        · exact absurd h3 ((st r' u2.1.1 u2.1.2).2 (hn r' u2.1.1 z) t' u1 u2.2)
        · rw [z] at h3 ⊢
          have w := t4 t' u1 u2.2 h3
          omega
        · exact lx7_l ⟨r0, r1⟩ u2.1 b1 b2.1 z
    rw [tr7_u]
    cases h0 : sq7_ ru hs aw be i k p 0 with
    | some l0 =>
      refine ⟨fun l z => ?_, fun z => (Option.some_ne_none l0 z).elim⟩
      have e : l0 = l := Option.some.inj z
      rw [← e]
      exact fin 0 l0 (by decide) (by decide) (fun r' a b => by omega) h0
    | none =>
      cases h1 : sq7_ ru hs aw be i k p 1 with
      | some l1 =>
        refine ⟨fun l z => ?_, fun z => (Option.some_ne_none l1 z).elim⟩
        have e : l1 = l := Option.some.inj z
        rw [← e]
        exact fin 1 l1 (by decide) (by decide) (fun r' a b => by rw [show r' = 0 by omega]; exact h0) h1
      | none =>
        cases h2 : sq7_ ru hs aw be i k p 2 with
        | some l2 =>
          refine ⟨fun l z => ?_, fun z => (Option.some_ne_none l2 z).elim⟩
          have e : l2 = l := Option.some.inj z
          rw [← e]
          exact fin 2 l2 (by decide) (by decide) (fun r' a b => by
            rcases (by omega : r' = 0 ∨ r' = 1) with y | y
            · rw [y]; exact h0
            · rw [y]; exact h1) h2
        | none =>
          refine ⟨fun l z => (Option.some_ne_none l z.symm).elim, fun _ l' g1 g2 g3 => ?_⟩
          match l', g1, g2, g3 with
          | [], g1, _, _ => exact absurd g1 (by rw [List.length_nil]; omega)
          | r' :: t', g1, g2, g3 =>
            have u1 : t'.length = i := by
              rw [List.length_cons] at g1
              omega
            have u2 := vd7_c.mp g2
            refine (st r' u2.1.1 u2.1.2).2 ?_ t' u1 u2.2 g3
            rcases (by omega : r' = 0 ∨ r' = 1 ∨ r' = 2) with y | y | y
            · rw [y]; exact h0
            · rw [y]; exact h1
            · rw [y]; exact h2
/-- the digits of row w of i matches -/
def dw7_ : Nat → Int → List Int
  | 0, _ => []
  | i + 1, w => (w / 3 ^ i) :: dw7_ i (w % 3 ^ i)
theorem dw7_l : ∀ (i : Nat) (w : Int), (dw7_ i w).length = i
  | 0, _ => rfl
  | i + 1, w => by
    show (dw7_ i (w % 3 ^ i)).length + 1 = i + 1
    rw [dw7_l i]
theorem dw7_v : ∀ (i : Nat) (w : Int), 0 ≤ w → w < 3 ^ i → VD7_ (dw7_ i w) ∧ nu7_ (dw7_ i w) = w
  | 0, w, a, b => by
    refine ⟨fun r h => (by cases h), ?_⟩
    rw [Int.pow_zero] at b
    show (0 : Int) = w
    omega
  | i + 1, w, a, b => by
    have p := p37_ i
    have m1 := Int.emod_nonneg w (show (3 : Int) ^ i ≠ 0 by omega)
    have m2 := Int.emod_lt_of_pos w p
    have ih := dw7_v i (w % 3 ^ i) m1 m2
    have d := Int.mul_ediv_add_emod w (3 ^ i)
    rw [Int.pow_succ] at b
    have d0 : 0 ≤ w / 3 ^ i := Int.ediv_nonneg a (by omega)
    have d1 : w / 3 ^ i < 3 := Int.ediv_lt_of_lt_mul p (by rw [Int.mul_comm]; exact b)
    refine ⟨vd7_c.mpr ⟨⟨d0, by omega⟩, ih.1⟩, ?_⟩
    show w / 3 ^ i * 3 ^ (dw7_ i (w % 3 ^ i)).length + nu7_ (dw7_ i (w % 3 ^ i)) = w
    rw [dw7_l, ih.2, Int.mul_comm]
    exact d
/-- a row is told by its number -/
theorem dw7_n : ∀ l : List Int, VD7_ l → dw7_ l.length (nu7_ l) = l
  | [], _ => rfl
  | r :: l, h => by
    have g := vd7_c.mp h
    have b := nu7_b l g.2
    have p := p37_ l.length
    have e1 : (r * 3 ^ l.length + nu7_ l) / 3 ^ l.length = r := by
      rw [Int.add_comm, Int.add_mul_ediv_right _ _ (by omega), Int.ediv_eq_zero_of_lt b.1 b.2, Int.zero_add]
    have e2 : (r * 3 ^ l.length + nu7_ l) % 3 ^ l.length = nu7_ l := by
      rw [Int.add_comm, Int.add_mul_emod_self_right, Int.emod_eq_of_lt b.1 b.2]
    show (r * 3 ^ l.length + nu7_ l) / 3 ^ l.length :: dw7_ l.length ((r * 3 ^ l.length + nu7_ l) % 3 ^ l.length) = r :: l
    rw [e1, e2, dw7_n l g.2]
/-- counting the rows up to the first that goes finds what the search finds -/
theorem tr7_r {ru hs aw : Int → Int} {V : Int → Prop} {be : Int} {i : Nat} {k : Int} {p : Int → Int} {o : Option (List Int)} (h : LR7_ ru hs aw V be i k p o) : (∀ w : Int, 0 ≤ w → w < 3 ^ i → ok7_ ru hs aw V be (dw7_ i w) k p → (∀ w' : Int, 0 ≤ w' → w' < w → ¬ ok7_ ru hs aw V be (dw7_ i w') k p) → o = some (dw7_ i w)) ∧ ((∀ w : Int, 0 ≤ w → w < 3 ^ i → ¬ ok7_ ru hs aw V be (dw7_ i w) k p) → o = none) := by
  refine ⟨fun w w0 w1 g n => ?_, fun n => ?_⟩
  · have dv := dw7_v i w w0 w1
    cases e : o with
    | none => exact absurd g (h.2 e _ (dw7_l i w) dv.1)
    | some l =>
      obtain ⟨l1, l2, l3, l4⟩ := h.1 l e
      have c := l4 _ (dw7_l i w) dv.1 g
      rw [dv.2] at c
      have b := nu7_b l l2
      rw [l1] at b
      have q := dw7_n l l2
      rw [l1] at q
      rcases (by omega : nu7_ l = w ∨ nu7_ l < w) with z | z
      · rw [z] at q
        rw [q]
      · exact absurd (by rw [q]; exact l3) (n (nu7_ l) b.1 z)
  · cases e : o with
    | none => rfl
    | some l =>
      obtain ⟨l1, l2, l3, -⟩ := h.1 l e
      have b := nu7_b l l2
      rw [l1] at b
      have q := dw7_n l l2
      rw [l1] at q
      exact absurd (by rw [q]; exact l3) (n (nu7_ l) b.1 b.2)
