theorem bk_X6_blockDays_f_132 : ck_ fX6 none cX6_blockDays 132 [.iload 6, .iload 5, .if_icmp .gt 153, .aload 0, .tableswitch 0 6 15 #[], .iload 6, .iconst 1, .iastore, .iinc 6 1, .goto 132] 153 = true := qck_r (nn_ _) (by decide +kernel)
theorem bs_X6_blockDays_f_132 {P : Zt → Option Zv → Prop} (K : Int → Zl → List Zv → Zt → Prop) : sx_ K P [.iload 6, .iload 5, .if_icmp .gt 153, .aload 0, .tableswitch 0 6 15 #[], .iload 6, .iconst 1, .iastore, .iinc 6 1, .goto 132] 153 = x_iload 6 (x_iload 5 (x_if_icmp .gt 153 K (x_aload 0 (x_g1 106 535 (x_iload 6 (x_iconst 1 (x_iastore (x_iinc 6 1 (x_goto 132 K))))))))) := ((xe_iload 6).trans (congrArg (x_iload 6) ((xe_iload 5).trans (congrArg (x_iload 5) ((xe_if_icmp .gt 153).trans (congrArg (x_if_icmp .gt 153 K) ((xe_aload 0).trans (congrArg (x_aload 0) ((xe_g1 (kk := 106) rfl tl_6_15).trans (congrArg (x_g1 106 535) ((xe_iload 6).trans (congrArg (x_iload 6) ((xe_iconst 1).trans (congrArg (x_iconst 1) ((xe_iastore).trans (congrArg (x_iastore) ((xe_iinc 6 1).trans (congrArg (x_iinc 6 1) (xe_goto 132)))))))))))))))))))
theorem bk_X6_blockDays_f_153 : ck_ fX6 none cX6_blockDays 153 [.iinc 2 1, .goto 10] 159 = true := qck_r (nn_ _) (by decide +kernel)
theorem bs_X6_blockDays_f_153 {P : Zt → Option Zv → Prop} (K : Int → Zl → List Zv → Zt → Prop) : sx_ K P [.iinc 2 1, .goto 10] 159 = x_iinc 2 1 (x_goto 10 K) := ((xe_iinc 2 1).trans (congrArg (x_iinc 2 1) (xe_goto 10)))
theorem bk_X6_blockDays_f_10 : ck_ fX6 none cX6_blockDays 10 [.iload 2, .aload 0, .tableswitch 0 6 4 #[], .if_icmp .ge 159, .aload 0, .tableswitch 0 6 3 #[], .iload 2, .aaload, .astore 3, .iload 2, .aload 1, .tableswitch 0 2 1 #[], .if_icmp .eq 153, .aload 3, .tableswitch 0 2 6 #[], .iconst (-1), .if_icmp .eq 44, .goto 153] 44 = true := qck_r (nn_ _) (by decide +kernel)
theorem bs_X6_blockDays_f_10 {P : Zt → Option Zv → Prop} (K : Int → Zl → List Zv → Zt → Prop) : sx_ K P [.iload 2, .aload 0, .tableswitch 0 6 4 #[], .if_icmp .ge 159, .aload 0, .tableswitch 0 6 3 #[], .iload 2, .aaload, .astore 3, .iload 2, .aload 1, .tableswitch 0 2 1 #[], .if_icmp .eq 153, .aload 3, .tableswitch 0 2 6 #[], .iconst (-1), .if_icmp .eq 44, .goto 153] 44 = x_iload 2 (x_aload 0 (x_g0 106 4 0 400 (x_if_icmp .ge 159 K (x_aload 0 (x_g1 106 523 (x_iload 2 (x_aaload (x_astore 3 (x_iload 2 (x_aload 1 (x_g0 102 1 0 399 (x_if_icmp .eq 153 K (x_aload 3 (x_g0 102 6 (-1) 1 (x_iconst (-1) (x_if_icmp .eq 44 K (x_goto 153 K))))))))))))))))) := ((xe_iload 2).trans (congrArg (x_iload 2) ((xe_aload 0).trans (congrArg (x_aload 0) ((xe_g0 (kk := 106) rfl tl_6_4).trans (congrArg (x_g0 106 4 0 400) ((xe_if_icmp .ge 159).trans (congrArg (x_if_icmp .ge 159 K) ((xe_aload 0).trans (congrArg (x_aload 0) ((xe_g1 (kk := 106) rfl tl_6_3).trans (congrArg (x_g1 106 523) ((xe_iload 2).trans (congrArg (x_iload 2) ((xe_aaload).trans (congrArg (x_aaload) ((xe_astore 3).trans (congrArg (x_astore 3) ((xe_iload 2).trans (congrArg (x_iload 2) ((xe_aload 1).trans (congrArg (x_aload 1) ((xe_g0 (kk := 102) rfl tl_2_1).trans (congrArg (x_g0 102 1 0 399) ((xe_if_icmp .eq 153).trans (congrArg (x_if_icmp .eq 153 K) ((xe_aload 3).trans (congrArg (x_aload 3) ((xe_g0 (kk := 102) rfl tl_2_6).trans (congrArg (x_g0 102 6 (-1) 1) ((xe_iconst (-1)).trans (congrArg (x_iconst (-1)) ((xe_if_icmp .eq 44).trans (congrArg (x_if_icmp .eq 44 K) (xe_goto 153)))))))))))))))))))))))))))))))))))
theorem bk_X6_blockDays_f_159 : ck_ fX6 none cX6_blockDays 159 [.return_] 160 = true := qck_r (nn_ _) (by decide +kernel)
theorem bs_X6_blockDays_f_159 {P : Zt → Option Zv → Prop} (K : Int → Zl → List Zv → Zt → Prop) : sx_ K P [.return_] 160 = x_return_ P := (xe_return_)
theorem bk_X6_blockDays_f_44 : ck_ fX6 none cX6_blockDays 44 [.aload 0, .tableswitch 0 6 0 #[], .tableswitch 0 8 0 #[], .aload 1, .tableswitch 0 2 3 #[], .iaload, .aload 0, .tableswitch 0 6 0 #[], .tableswitch 0 8 0 #[], .aload 3, .tableswitch 0 2 3 #[], .iaload, .if_icmp .ne 81, .aload 0, .tableswitch 0 6 15 #[], .aload 3, .tableswitch 0 2 5 #[], .iconst 1, .iastore, .aload 1, .aload 3] 83 = true := qck_r (nn_ _) (by decide +kernel)
theorem bs_X6_blockDays_f_44 {P : Zt → Option Zv → Prop} (K : Int → Zl → List Zv → Zt → Prop) : sx_ K P [.aload 0, .tableswitch 0 6 0 #[], .tableswitch 0 8 0 #[], .aload 1, .tableswitch 0 2 3 #[], .iaload, .aload 0, .tableswitch 0 6 0 #[], .tableswitch 0 8 0 #[], .aload 3, .tableswitch 0 2 3 #[], .iaload, .if_icmp .ne 81, .aload 0, .tableswitch 0 6 15 #[], .aload 3, .tableswitch 0 2 5 #[], .iconst 1, .iastore, .aload 1, .aload 3] 83 = x_aload 0 (x_g1 106 108 (x_g1 108 560 (x_aload 1 (x_g0 102 3 0 11 (x_iaload (x_aload 0 (x_g1 106 108 (x_g1 108 560 (x_aload 3 (x_g0 102 3 0 11 (x_iaload (x_if_icmp .ne 81 K (x_aload 0 (x_g1 106 535 (x_aload 3 (x_g0 102 5 0 999 (x_iconst 1 (x_iastore (x_aload 1 (x_aload 3 (K 83))))))))))))))))))))) := ((xe_aload 0).trans (congrArg (x_aload 0) ((xe_g1 (kk := 106) rfl tl_6_0).trans (congrArg (x_g1 106 108) ((xe_g1 (kk := 108) rfl tl_8_0).trans (congrArg (x_g1 108 560) ((xe_aload 1).trans (congrArg (x_aload 1) ((xe_g0 (kk := 102) rfl tl_2_3).trans (congrArg (x_g0 102 3 0 11) ((xe_iaload).trans (congrArg (x_iaload) ((xe_aload 0).trans (congrArg (x_aload 0) ((xe_g1 (kk := 106) rfl tl_6_0).trans (congrArg (x_g1 106 108) ((xe_g1 (kk := 108) rfl tl_8_0).trans (congrArg (x_g1 108 560) ((xe_aload 3).trans (congrArg (x_aload 3) ((xe_g0 (kk := 102) rfl tl_2_3).trans (congrArg (x_g0 102 3 0 11) ((xe_iaload).trans (congrArg (x_iaload) ((xe_if_icmp .ne 81).trans (congrArg (x_if_icmp .ne 81 K) ((xe_aload 0).trans (congrArg (x_aload 0) ((xe_g1 (kk := 106) rfl tl_6_15).trans (congrArg (x_g1 106 535) ((xe_aload 3).trans (congrArg (x_aload 3) ((xe_g0 (kk := 102) rfl tl_2_5).trans (congrArg (x_g0 102 5 0 999) ((xe_iconst 1).trans (congrArg (x_iconst 1) ((xe_iastore).trans (congrArg (x_iastore) ((xe_aload 1).trans (congrArg (x_aload 1) ((xe_aload 3).trans (congrArg (x_aload 3) xe_nil))))))))))))))))))))))))))))))))))))))))))
theorem bk_X6_blockDays_f_81 : ck_ fX6 none cX6_blockDays 81 [.aload 1, .aload 3] 83 = true := qck_r (nn_ _) (by decide +kernel)
theorem bs_X6_blockDays_f_81 {P : Zt → Option Zv → Prop} (K : Int → Zl → List Zv → Zt → Prop) : sx_ K P [.aload 1, .aload 3] 83 = x_aload 1 (x_aload 3 (K 83)) := ((xe_aload 1).trans (congrArg (x_aload 1) ((xe_aload 3).trans (congrArg (x_aload 3) xe_nil))))
theorem bk_X6_blockDays_f_86 : ck_ fX6 none cX6_blockDays 86 [.ifCond .eq 153, .aload 1] 90 = true := qck_r (nn_ _) (by decide +kernel)
theorem bs_X6_blockDays_f_86 {P : Zt → Option Zv → Prop} (K : Int → Zl → List Zv → Zt → Prop) : sx_ K P [.ifCond .eq 153, .aload 1] 90 = x_ifCond .eq 153 K (x_aload 1 (K 90)) := ((xe_ifCond .eq 153).trans (congrArg (x_ifCond .eq 153 K) ((xe_aload 1).trans (congrArg (x_aload 1) xe_nil))))
theorem bk_X6_blockDays_f_93 : ck_ fX6 none cX6_blockDays 93 [.aload 3] 94 = true := qck_r (nn_ _) (by decide +kernel)
theorem bs_X6_blockDays_f_93 {P : Zt → Option Zv → Prop} (K : Int → Zl → List Zv → Zt → Prop) : sx_ K P [.aload 3] 94 = x_aload 3 (K 94) := ((xe_aload 3).trans (congrArg (x_aload 3) xe_nil))
theorem bk_X6_blockDays_f_100 : ck_ fX6 none cX6_blockDays 100 [.iconst 1, .isub, .istore 4, .iconst 999, .aload 3, .tableswitch 0 2 5 #[], .iload 4, .iadd] 114 = true := qck_r (nn_ _) (by decide +kernel)
theorem bs_X6_blockDays_f_100 {P : Zt → Option Zv → Prop} (K : Int → Zl → List Zv → Zt → Prop) : sx_ K P [.iconst 1, .isub, .istore 4, .iconst 999, .aload 3, .tableswitch 0 2 5 #[], .iload 4, .iadd] 114 = x_iconst 1 (x_isub (x_istore 4 (x_iconst 999 (x_aload 3 (x_g0 102 5 0 999 (x_iload 4 (x_iadd (K 114)))))))) := ((xe_iconst 1).trans (congrArg (x_iconst 1) ((xe_isub).trans (congrArg (x_isub) ((xe_istore 4).trans (congrArg (x_istore 4) ((xe_iconst 999).trans (congrArg (x_iconst 999) ((xe_aload 3).trans (congrArg (x_aload 3) ((xe_g0 (kk := 102) rfl tl_2_5).trans (congrArg (x_g0 102 5 0 999) ((xe_iload 4).trans (congrArg (x_iload 4) ((xe_iadd).trans (congrArg (x_iadd) xe_nil))))))))))))))))
theorem bk_X6_blockDays_f_117 : ck_ fX6 none cX6_blockDays 117 [.istore 5, .iconst 0, .aload 3, .tableswitch 0 2 5 #[], .iload 4, .isub] 127 = true := qck_r (nn_ _) (by decide +kernel)
theorem bs_X6_blockDays_f_117 {P : Zt → Option Zv → Prop} (K : Int → Zl → List Zv → Zt → Prop) : sx_ K P [.istore 5, .iconst 0, .aload 3, .tableswitch 0 2 5 #[], .iload 4, .isub] 127 = x_istore 5 (x_iconst 0 (x_aload 3 (x_g0 102 5 0 999 (x_iload 4 (x_isub (K 127)))))) := ((xe_istore 5).trans (congrArg (x_istore 5) ((xe_iconst 0).trans (congrArg (x_iconst 0) ((xe_aload 3).trans (congrArg (x_aload 3) ((xe_g0 (kk := 102) rfl tl_2_5).trans (congrArg (x_g0 102 5 0 999) ((xe_iload 4).trans (congrArg (x_iload 4) ((xe_isub).trans (congrArg (x_isub) xe_nil))))))))))))
theorem bk_X6_blockDays_f_130 : ck_ fX6 none cX6_blockDays 130 [.istore 6] 132 = true := qck_r (nn_ _) (by decide +kernel)
theorem bs_X6_blockDays_f_130 {P : Zt → Option Zv → Prop} (K : Int → Zl → List Zv → Zt → Prop) : sx_ K P [.istore 6] 132 = x_istore 6 (K 132) := ((xe_istore 6).trans (congrArg (x_istore 6) xe_nil))
theorem bk_X6_blockDays_f_0 : ck_ fX6 none cX6_blockDays 0 [.aload 0, .tableswitch 0 6 15 #[], .iconst 0] 5 = true := qck_r (nn_ _) (by decide +kernel)
theorem bs_X6_blockDays_f_0 {P : Zt → Option Zv → Prop} (K : Int → Zl → List Zv → Zt → Prop) : sx_ K P [.aload 0, .tableswitch 0 6 15 #[], .iconst 0] 5 = x_aload 0 (x_g1 106 535 (x_iconst 0 (K 5))) := ((xe_aload 0).trans (congrArg (x_aload 0) ((xe_g1 (kk := 106) rfl tl_6_15).trans (congrArg (x_g1 106 535) ((xe_iconst 0).trans (congrArg (x_iconst 0) xe_nil))))))
theorem bk_X6_blockDays_f_8 : ck_ fX6 none cX6_blockDays 8 [.iconst 0, .istore 2] 10 = true := qck_r (nn_ _) (by decide +kernel)
theorem bs_X6_blockDays_f_8 {P : Zt → Option Zv → Prop} (K : Int → Zl → List Zv → Zt → Prop) : sx_ K P [.iconst 0, .istore 2] 10 = x_iconst 0 (x_istore 2 (K 10)) := ((xe_iconst 0).trans (congrArg (x_iconst 0) ((xe_istore 2).trans (congrArg (x_istore 2) xe_nil))))
abbrev po_X6_blockDays_f (T : Zt) (p : Int) : Zt → Option Zv → Prop := fun T' r => r = none ∧ fr_ [(535, [])] T T' ∧ (BR_ (fun e => T' 535 0 e) (BKH_ T (fun m => T 102 m 5) p))
theorem bkd_9 {sq hq A B C : Prop} {rp rk dk mx to lo d e : Int} (hA : A) (hB : B) (hC : C) (hh : hq) (hm : (mx = rp ∨ mx = rk) ∧ rp ≤ mx ∧ rk ≤ mx) (ht : (to = 999 ∨ to = dk + (mx - 1)) ∧ to ≤ 999 ∧ to ≤ dk + (mx - 1)) (hl : (lo = 0 ∨ lo = dk - (mx - 1)) ∧ 0 ≤ lo ∧ dk - (mx - 1) ≤ lo) (hd2 : d = lo ∨ d ≤ to + 1) (hc : to < d) (e0 : 0 ≤ e) (e9 : e ≤ 999) : ((e = dk ∧ sq) ∨ (lo ≤ e ∧ e < d)) ↔ (A ∧ B ∧ C ∧ ((e = dk ∧ sq) ∨ (((e - dk < rp ∧ dk - e < rp) ∨ (e - dk < rk ∧ dk - e < rk)) ∧ hq))) := by
  constructor
  · rintro (z | z)
    · exact ⟨hA, hB, hC, Or.inl z⟩
    · refine ⟨hA, hB, hC, Or.inr ⟨?_, hh⟩⟩
      have h1 : e ≤ to := by
        rcases hd2 with w | w
        · exact absurd (Int.lt_of_le_of_lt z.1 z.2) (by omega)
        · exact Int.le_of_lt_add_one (Int.lt_of_lt_of_le z.2 w)
      have h2 := z.1
      have h3 := ht.2.2
      have h4 := hl.2.2
      clear ht hl hd2 z
      rcases hm.1 with w | w
      · exact Or.inl ⟨by omega, by omega⟩
      · exact Or.inr ⟨by omega, by omega⟩
  · rintro ⟨-, -, -, z | z⟩
    · exact Or.inl z
    · refine Or.inr ?_
      have h1 : e - dk < mx ∧ dk - e < mx := by
        have h2 := hm.2
        clear ht hl hd2 hm
        rcases z.1 with w | w
        · exact ⟨by omega, by omega⟩
        · exact ⟨by omega, by omega⟩
      constructor
      · rcases hl.1 with w | w
        · rw [w]; exact e0
        · clear ht hl hd2 hm z
          omega
      · rcases ht.1 with w | w
        · exact Int.lt_of_le_of_lt (by rw [w]; exact e9) hc
        · clear ht hl hd2 hm z
          omega
