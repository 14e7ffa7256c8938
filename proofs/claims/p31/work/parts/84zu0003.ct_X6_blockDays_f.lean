theorem bk_X6_blockDays_f_132 : ck_ fX6 none cX6_blockDays 132 [.iload 6, .iload 5, .if_icmp .gt 153, .aload 0, .tableswitch 0 6 15 #[], .iload 6, .iconst 1, .iastore, .iinc 6 1, .goto 132] 153 = true := qck_r (nn_ _) (by decide +kernel)
theorem bs_X6_blockDays_f_132 {P : Zt → Option Zv → Prop} (K : Int → Zl → List Zv → Zt → Prop) : sx_ K P [.iload 6, .iload 5, .if_icmp .gt 153, .aload 0, .tableswitch 0 6 15 #[], .iload 6, .iconst 1, .iastore, .iinc 6 1, .goto 132] 153 = x_iload 6 (x_iload 5 (x_if_icmp .gt 153 K (x_aload 0 (x_g1 106 535 (x_iload 6 (x_iconst 1 (x_iastore (x_iinc 6 1 (x_goto 132 K))))))))) := ((xe_iload 6).trans (congrArg (x_iload 6) ((xe_iload 5).trans (congrArg (x_iload 5) ((xe_if_icmp .gt 153).trans (congrArg (x_if_icmp .gt 153 K) ((xe_aload 0).trans (congrArg (x_aload 0) ((xe_g1 (kk := 106) rfl tl_6_15).trans (congrArg (x_g1 106 535) ((xe_iload 6).trans (congrArg (x_iload 6) ((xe_iconst 1).trans (congrArg (x_iconst 1) ((xe_iastore).trans (congrArg (x_iastore) ((xe_iinc 6 1).trans (congrArg (x_iinc 6 1) (xe_goto 132)))))))))))))))))))
theorem bk_X6_blockDays_f_153 : ck_ fX6 none cX6_blockDays 153 [.iinc 2 1, .goto 10] 159 = true := qck_r (nn_ _) (by decide +kernel)
theorem bs_X6_blockDays_f_153 {P : Zt → Option Zv → Prop} (K : Int → Zl → List Zv → Zt → Prop) : sx_ K P [.iinc 2 1, .goto 10] 159 = x_iinc 2 1 (x_goto 10 K) := ((xe_iinc 2 1).trans (congrArg (x_iinc 2 1) (xe_goto 10)))
theorem bk_X6_blockDays_f_10 : ck_ fX6 none cX6_blockDays 10 [.iload 2, .aload 0, .tableswitch 0 6 4 #[], .if_icmp .ge 159, .aload 0, .tableswitch 0 6 3 #[], .iload 2, .aaload, .astore 3, .iload 2, .aload 1, .tableswitch 0 2 1 #[], .if_icmp .eq 153, .aload 3, .tableswitch 0 2 6 #[], .iconst (-1), .if_icmp .eq 44, .goto 153] 44 = true := qck_r (nn_ _) (by decide +kernel)
theorem bs_X6_blockDays_f_10 {P : Zt → Option Zv → Prop} (K : Int → Zl → List Zv → Zt → Prop) : sx_ K P [.iload 2, .aload 0, .tableswitch 0 6 4 #[], .if_icmp .ge 159, .aload 0, .tableswitch 0 6 3 #[], .iload 2, .aaload, .astore 3, .iload 2, .aload 1, .tableswitch 0 2 1 #[], .if_icmp .eq 153, .aload 3, .tableswitch 0 2 6 #[], .iconst (-1), .if_icmp .eq 44, .goto 153] 44 = x_iload 2 (x_aload 0 (x_g0 106 4 0 400 (x_if_icmp .ge 159 K (x_aload 0 (x_g1 106 523 (x_iload 2 (x_aaload (x_astore 3 (x_iload 2 (x_aload 1 (x_g0 102 1 0 399 (x_if_icmp .eq 153 K (x_aload 3 (x_g0 102 6 (-1) 1 (x_iconst (-1) (x_if_icmp .eq 44 K (x_goto 153 K))))))))))))))))) := ((xe_iload 2).trans (congrArg (x_iload 2) ((xe_aload 0).trans (congrArg (x_aload 0) ((xe_g0 (kk := 106) rfl tl_6_4).trans (congrArg (x_g0 106 4 0 400) ((xe_if_icmp .ge 159).trans (congrArg (x_if_icmp .ge 159 K) ((xe_aload 0).trans (congrArg (x_aload 0) ((xe_g1 (kk := 106) rfl tl_6_3).trans (congrArg (x_g1 106 523) ((xe_iload 2).trans (congrArg (x_iload 2) ((xe_aaload).trans (congrArg (x_aaload) ((xe_astore 3).trans (congrArg (x_astore 3) ((xe_iload 2).trans (congrArg (x_iload 2) ((xe_aload 1).trans (congrArg (x_aload 1) ((xe_g0 (kk := 102) rfl tl_2_1).trans (congrArg (x_g0 102 1 0 399) ((xe_if_icmp .eq 153).trans (congrArg (x_if_icmp .eq 153 K) ((xe_aload 3).trans (congrArg (x_aload 3) ((xe_g0 (kk := 102) rfl tl_2_6).trans (congrArg (x_g0 102 6 (-1) 1) ((xe_iconst (-1)).trans (congrArg (x_iconst (-1)) ((xe_if_icmp .eq 44).trans (congrArg (x_if_icmp .eq 44 K) (xe_goto 153)))))))))))))))))))))))))))))))))))
theorem bk_X6_blockDays_f_159 : ck_ fX6 none cX6_blockDays 159 [.return_] 160 = true := qck_r (nn_ _) (by decide +kernel)
theorem bs_X6_blockDays_f_159 {P : Zt → Option Zv → Prop} (K : Int → Zl → List Zv → Zt → Prop) : sx_ K P [.return_] 160 = x_return_ P := (xe_return_)
theorem bk_X6_blockDays_f_44 : ck_ fX6 none cX6_blockDays 44 [.aload 0, .tableswitch 0 6 0 #[], .tableswitch 0 8 0 #[], .aload 1, .tableswitch 0 2 3 #[], .iaload, .aload 0, .tableswitch 0 6 0 #[], .tableswitch 0 8 0 #[], .aload 3, .tableswitch 0 2 3 #[], .iaload, .if_icmp .ne 81, .aload 0, .tableswitch 0 6 15 #[], .aload 3, .tableswitch 0 2 5 #[], .iconst 1, .iastore, .aload 1, .aload 3] 83 = true := qck_r (nn_ _) (by decide +kernel)
theorem bs_X6_blockDays_f_44 {P : Zt → Option Zv → Prop} (K : Int → Zl → List Zv → Zt → Prop) : sx_ K P [.aload 0, .tableswitch 0 6 0 #[], .tableswitch 0 8 0 #[], .aload 1, .tableswitch 0 2 3 #[], .iaload, .aload 0, .tableswitch 0 6 0 #[], .tableswitch 0 8 0 #[], .aload 3, .tableswitch 0 2 3 #[], .iaload, .if_icmp .ne 81, .aload 0, .tableswitch 0 6 15 #[], .aload 3, .tableswitch 0 2 5 #[], .iconst 1, .iastore, .aload 1, .aload 3] 83 = x_aload 0 (x_g1 106 108 (x_g1 108 560 (x_aload 1 (x_g0 102 3 0 11 (x_iaload (x_aload 0 (x_g1 106 108 (x_g1 108 560 (x_aload 3 (x_g0 102 3 0 11 (x_iaload (x_if_icmp .ne 81 K (x_aload 0 (x_g1 106 535 (x_aload 3 (x_g0 102 5 0 999 (x_iconst 1 (x_iastore (x_aload 1 (x_aload 3 (K 83))))))))))))))))))))) := ((xe_aload 0).trans (congrArg (x_aload 0) ((xe_g1 (kk := 106) rfl tl_6_0).trans (congrArg (x_g1 106 108) ((xe_g1 (kk := 108) rfl tl_8_0).trans (congrArg (x_g1 108 560) ((xe_aload 1).trans (congrArg (x_aload 1) ((xe_g0 (kk := 102) rfl tl_2_3).trans (congrArg (x_g0 102 3 0 11) ((xe_iaload).trans (congrArg (x_iaload) ((xe_aload 0).trans (congrArg (x_aload 0) ((xe_g1 (kk := 106) rfl tl_6_0).trans (congrArg (x_g1 106 108) ((xe_g1 (kk := 108) rfl tl_8_0).trans (congrArg (x_g1 108 560) ((xe_aload 3).trans (congrArg (x_aload 3) ((xe_g0 (kk := 102) rfl tl_2_3).trans (congrArg (x_g0 102 3 0 11) ((xe_iaload).trans (congrArg (x_iaload) ((xe_if_icmp .ne 81).trans (congrArg (x_if_icmp .ne 81 K) ((xe_aload 0).trans (congrArg (x_aload 0) ((xe_g1 (kk := 106) rfl tl_6_15).trans (congrArg (x_g1 106 535) ((xe_aload 3).trans (congrArg (x_aload 3) ((xe_g0 (kk := 102) rfl tl_2_5).trans (congrArg (x_g0 102 5 0 999) ((xe_iconst 1).trans (congrArg (x_iconst 1) ((xe_iastore).trans (congrArg (x_iastore) ((xe_aload 1).trans (congrArg (x_aload 1) ((xe_aload 3).trans (congrArg (x_aload 3) xe_nil))))))))))))))))))))))))))))))))))))))))))
theorem bk_X6_blockDays_f_81 : ck_ fX6 none cX6_blockDays 81 [.aload 1, .aload 3] 83 = true := qck_r (nn_ _) (by decide +kernel)
theorem bs_X6_blockDays_f_81 {P : Zt → Option Zv → Prop} (K : Int → Zl → List Zv → Zt → Prop) : sx_ K P [.aload 1, .aload 3] 83 = x_aload 1 (x_aload 3 (K 83)) := ((xe_aload 1).trans (congrArg (x_aload 1) ((xe_aload 3).trans (congrArg (x_aload 3) xe_nil))))
theorem bk_X6_blockDays_f_86 : ck_ fX6 none cX6_blockDays 86 [.ifCond .eq 153, .aload 1] 90 = true := qck_r (nn_ _) (by decide +kernel)
theorem bs_X6_blockDays_f_86 {P : Zt → Option Zv → Prop} (K : Int → Zl → List Zv → Zt → Prop) : sx_ K P [.ifCond .eq 153, .aload 1] 90 = x_ifCond .eq 153 K (x_aload 1 (K 90)) := ((xe_ifCond .eq 153).trans (congrArg (x_ifCond .eq 153 K) ((xe_aload 1).trans (congrArg (x_aload 1) xe_nil))))
theorem bk_X6_blockDays_f_93 : ck_ fX6 none cX6_blockDays 93 [.aload 3] 94 = true := qck_r (nn_ _) (by decide +kernel)
theorem bs_X6_blockDays_f_93 {P : Zt → Option Zv → Prop} (K : Int → Zl → List Zv → Zt → Prop) : sx_ K P [.aload 3] 94 = x_aload 3 (K 94) := ((xe_aload 3).trans (congrArg (x_aload 3) xe_nil))
theorem bk_X6_blockDays_f_100 : ck_ fX6 none cX6_blockDays 100 [.iconst 1, .isub, .istore 4, .iconst 999, .aload 3, .tableswitch 0 2 5 #[], .iload 4, .iadd] 114 = true := qck_r (nn_ _) (by decide +kernel)
theorem bs_X6_blockDays_f_100 {P : Zt → Option Zv → Prop} (K : Int → Zl → List Zv → Zt → Prop) : sx_ K P [.iconst 1, .isub, .istore 4, .iconst 999, .aload 3, .tableswitch 0 2 5 #[], .iload 4, .iadd] 114 = x_iconst 1 (x_isub (x_istore 4 (x_iconst 999 (x_aload 3 (x_g0 102 5 0 999 (x_iload 4 (x_iadd (K 114)))))))) := ((xe_iconst 1).trans (congrArg (x_iconst 1) ((xe_isub).trans (congrArg (x_isub) ((xe_istore 4).trans (congrArg (x_istore 4) ((xe_iconst 999).trans (congrArg (x_iconst 999) ((xe_aload 3).trans (congrArg (x_aload 3) ((xe_g0 (kk := 102) rfl tl_2_5).trans (congrArg (x_g0 102 5 0 999) ((xe_iload 4).trans (congrArg (x_iload 4) ((xe_iadd).trans (congrArg (x_iadd) xe_nil))))))))))))))))
theorem bk_X6_blockDays_f_117 : ck_ fX6 none cX6_blockDays 117 [.istore 5, .iconst 0, .aload 3, .tableswitch 0 2 5 #[], .iload 4, .isub] 127 = true := qck_r (nn_ _) (by decide +kernel)
theorem bs_X6_blockDays_f_117 {P : Zt → Option Zv → Prop} (K : Int → Zl → List Zv → Zt → Prop) : sx_ K P [.istore 5, .iconst 0, .aload 3, .tableswitch 0 2 5 #[], .iload 4, .isub] 127 = x_istore 5 (x_iconst 0 (x_aload 3 (x_g0 102 5 0 999 (x_iload 4 (x_isub (K 127)))))) := ((xe_istore 5).trans (congrArg (x_istore 5) ((xe_iconst 0).trans (congrArg (x_iconst 0) ((xe_aload 3).trans (congrArg (x_aload 3) ((xe_g0 (kk := 102) rfl tl_2_5).trans (congrArg (x_g0 102 5 0 999) ((xe_iload 4).trans (congrArg (x_iload 4) ((xe_isub).trans (congrArg (x_isub) xe_nil))))))))))))
theorem bk_X6_blockDays_f_130 : ck_ fX6 none cX6_blockDays 130 [.istore 6] 132 = true := qck_r (nn_ _) (by decide +kernel)
theorem bs_X6_blockDays_f_130 {P : Zt → Option Zv → Prop} (K : Int → Zl → List Zv → Zt → Prop) : sx_ K P [.istore 6] 132 = x_istore 6 (K 132) := ((xe_istore 6).trans (congrArg (x_istore 6) xe_nil))
theorem bk_X6_blockDays_f_0 : ck_ fX6 none cX6_blockDays 0 [.aload 0, .tableswitch 0 6 15 #[], .iconst 0] 5 = true := qck_r (nn_ _) (by decide +kernel)
theorem bs_X6_blockDays_f_0 {P : Zt → Option Zv → Prop} (K : Int → Zl → List Zv → Zt → Prop) : sx_ K P [.aload 0, .tableswitch 0 6 15 #[], .iconst 0] 5 = x_aload 0 (x_g1 106 535 (x_iconst 0 (K 5))) := ((xe_aload 0).trans (congrArg (x_aload 0) ((xe_g1 (kk := 106) rfl tl_6_15).trans (congrArg (x_g1 106 535) ((xe_iconst 0).trans (congrArg (x_iconst 0) xe_nil))))))
theorem bk_X6_blockDays_f_8 : ck_ fX6 none cX6_blockDays 8 [.iconst 0, .istore 2] 10 = true := qck_r (nn_ _) (by decide +kernel)
theorem bs_X6_blockDays_f_8 {P : Zt → Option Zv → Prop} (K : Int → Zl → List Zv → Zt → Prop) : sx_ K P [.iconst 0, .istore 2] 10 = x_iconst 0 (x_istore 2 (K 10)) := ((xe_iconst 0).trans (congrArg (x_iconst 0) ((xe_istore 2).trans (congrArg (x_istore 2) xe_nil))))
abbrev po_X6_blockDays_f (T : Zt) (p : Int) : Zt → Option Zv → Prop := fun T' r => r = none ∧ fr_ [(535, [])] T T' ∧ (BR_ (fun e => T' 535 0 e) (BKH_ T (fun m => T 102 m 5) p))
theorem bkd_9 {sq hq A B C : Prop} {rp rk dk mx to lo d e : Int} (hA : A) (hB : B) (hC : C) (hh : hq) (hm : (mx = rp ∨ mx = rk) ∧ rp ≤ mx ∧ rk ≤ mx) (ht : (to = 999 ∨ to = dk + (mx - 1)) ∧ to ≤ 999 ∧ to ≤ dk + (mx - 1)) (hl : (lo = 0 ∨ lo = dk - (mx - 1)) ∧ 0 ≤ lo ∧ dk - (mx - 1) ≤ lo) (hd2 : d = lo ∨ d ≤ to + 1) (hc : to < d) (e0 : 0 ≤ e) (e9 : e ≤ 999) : ((e = dk ∧ sq) ∨ (lo ≤ e ∧ e < d)) ↔ (A ∧ B ∧ C ∧ ((e = dk ∧ sq) ∨ (((e - dk < rp ∧ dk - e < rp) ∨ (e - dk < rk ∧ dk - e < rk)) ∧ hq))) := by
  constructor
  · rintro (z | z)
    · exact ⟨hA, hB, hC, Or.inl z⟩
    · refine ⟨hA, hB, hC, Or.inr ⟨?_, hh⟩⟩
      have h1 : e ≤ to := by
        rcases hd2 with w | w
        · exact absurd (Int.lt_of_le_of_lt z.1 z.2) (by omega)
        · exact Int.le_of_lt_add_one (Int.lt_of_lt_of_le z.2 w)
      have h2 := z.1
      have h3 := ht.2.2
      have h4 := hl.2.2
      clear ht hl hd2 z
      rcases hm.1 with w | w
      · exact Or.inl ⟨by omega, by omega⟩
      · exact Or.inr ⟨by omega, by omega⟩
  · rintro ⟨-, -, -, z | z⟩
    · exact Or.inl z
    · refine Or.inr ?_
      have h1 : e - dk < mx ∧ dk - e < mx := by
        have h2 := hm.2
        clear ht hl hd2 hm
        rcases z.1 with w | w
        · exact ⟨by omega, by omega⟩
        · exact ⟨by omega, by omega⟩
      constructor
      · rcases hl.1 with w | w
        · rw [w]; exact e0
        · clear ht hl hd2 hm z
          omega
      · rcases ht.1 with w | w
        · exact Int.lt_of_le_of_lt (by rw [w]; exact e9) hc
        · clear ht hl hd2 hm z
          omega
set_option maxHeartbeats 4000000 in
theorem ct_X6_blockDays_f {T : Zt} {p : Int} (hka : KA_ T) (hkm : KM_ T) (hp : 0 ≤ p ∧ p < T 106 0 4) (hab : T 102 p 6 = -1) : Ct_ yX6_blockDays zX6_blockDays T [vR 106 0, vR 102 p] (po_X6_blockDays_f T p) := by
  refine ct_of pn_6 rfl rfl (Nat.le_of_ble_eq_true rfl) (fun hT hav => ?_)
  have hz : zX6_blockDays.2.2.2.1 = some .boolean → ∀ (T' : Zt) (x : Int), po_X6_blockDays_f T p T' (some (vI x)) → 0 ≤ x ∧ x ≤ 1 := fun h => by cases h
  have hb_matchCount : 0 ≤ T 106 0 4 ∧ T 106 0 4 ≤ 400 := bd_f hT 106 4 tl_6_4 0
  have hn1 := (hkm p hp.1 hp.2).1
  show J_ zX6_blockDays T (po_X6_blockDays_f T p) 0 0 0 [some (vR 106 0), some (vR 102 p), none, none, none, none, none] [] T
  have c_10 : ∀ (nn : Nat) (k : Int) (T1 : Zt), ((400 - k).toNat) ≤ nn → (fr_ [(535, [])] T T1) → (0 ≤ k ∧ k ≤ T 106 0 4) → (BR_ (fun e => T1 535 0 e) (BKn_ T p k)) → J_ zX6_blockDays T (po_X6_blockDays_f T p) 0 0 10 [some (vR 106 0), some (vR 102 p), some (vI k), none, none, none, none] [] T1 := by
    intro nn
    induction nn using Nat.strongRecOn with
    | _ nn ih_10 =>
      intro k T1 hm_10 hf_10 i1 br1
      replace hm_10 := fun (_ : Unit) => hm_10
      have c_132 : ∀ (nn : Nat) (to : Int) (d : Int) (lo : Int) (mx : Int) (T2 : Zt), ((1000 - d).toNat) ≤ nn → (fr_ [(535, [])] T T2) → (k < T 106 0 4 ∧ 0 ≤ k ∧ k ≠ p ∧ T 102 k 6 = -1 ∧ (T 102 p 3 = T 102 k 3 ∨ T 102 p 4 = T 102 k 3 ∨ T 102 p 3 = T 102 k 4 ∨ T 102 p 4 = T 102 k 4) ∧ ((mx = T 401 (T 102 p 0) 8 ∨ mx = T 401 (T 102 k 0) 8) ∧ T 401 (T 102 p 0) 8 ≤ mx ∧ T 401 (T 102 k 0) 8 ≤ mx) ∧ ((to = 999 ∨ to = T 102 k 5 + (mx - 1)) ∧ to ≤ 999 ∧ to ≤ T 102 k 5 + (mx - 1)) ∧ ((lo = 0 ∨ lo = T 102 k 5 - (mx - 1)) ∧ 0 ≤ lo ∧ T 102 k 5 - (mx - 1) ≤ lo) ∧ lo ≤ d ∧ (d = lo ∨ d ≤ to + 1)) → (BR_ (fun e => T2 535 0 e) (fun e => BKn_ T p k e ∨ ((e = T 102 k 5 ∧ T 560 0 (T 102 p 3) = T 560 0 (T 102 k 3)) ∨ (lo ≤ e ∧ e < d)))) → J_ zX6_blockDays T (po_X6_blockDays_f T p) 0 0 132 [some (vR 106 0), some (vR 102 p), some (vI k), none, none, some (vI to), some (vI d)] [] T2 := by
        intro nn
        induction nn using Nat.strongRecOn with
        | _ nn ih_132 =>
          intro to d lo mx T2 hm_132 hf_132 i2 br2
          replace hm_132 := fun (_ : Unit) => hm_132
          refine j_blx (F := fX6) tb_X6 (nn_ _) bk_X6_blockDays_f_132 bs_X6_blockDays_f_132 hz (fun K hK => ?_)
          refine And.intro (fun c1 => ?_) (fun c1 => ?_)
          · refine hK 153 _ [] T2 ?_
            refine j_blx (F := fX6) tb_X6 (nn_ _) bk_X6_blockDays_f_153 bs_X6_blockDays_f_153 hz (fun K hK => ?_)
            refine rg_i (by omega) ?_
            refine hK 10 [some (vR 106 0), some (vR 102 p), some (vI (k + 1)), none, none, some (vI to), some (vI d)] [] T2 ?_
            refine j_drop [some (vR 106 0), some (vR 102 p), some (vI (k + 1)), none, none, none, none] (fun k v hk => ?_) rfl ?_
            · match k, hk with
              | 0, hk => exact hk
              | 1, hk => exact hk
              | 2, hk => exact hk
              | 3, hk => cases hk
              | 4, hk => cases hk
              | 5, hk => cases hk
              | 6, hk => cases hk
              | k + 7, hk => cases hk
            refine ih_10 _ ?_ (k + 1) T2 (Nat.le_refl _) ?_ ?_ ?_
            · have hm_10 := hm_10 (); omega
            · exact fr_t (fr_0 _ _) (fr_s hf_132 rfl)
            · omega
            · exact br_e br2 (fun e a b => by
                rw [bkn_s (by omega)]
                refine or_congr Iff.rfl ?_
                unfold SAH_ SAG_ sqH_ hqH_ rsH_ abH_
                dsimp only
                obtain ⟨_, _, z3, z4, z5, z6, z7, z8, _, z10⟩ := i2
                exact bkd_9 (Ne.symm z3) hab z4 z5 z6 z7 z8 z10 (by clear z5 z6 z7 z8 z10; omega) a b)
          · refine iy_i (by omega) (by omega) ?_
            refine x_nm (fun U2 hU2 => ?_)
            have e3 := up_f hU2
            refine rg_i (by omega) ?_
            refine hK 132 [some (vR 106 0), some (vR 102 p), some (vI k), none, none, some (vI to), some (vI (d + 1))] [] U2 ?_
            refine ih_132 _ ?_ to (d + 1) lo mx U2 (Nat.le_refl _) ?_ ?_ ?_
            · have hm_132 := hm_132 (); omega
            · exact fr_u (fr_t (fr_0 _ _) (fr_s hf_132 rfl)) hU2 rfl
            · omega
            · exact br_e (br_u br2 (up_f hU2) (fun j hj => up_g hU2 (fun z => hj z.2.2))) (fun e a b => by
                by_cases y : BKn_ T p k e
                · exact ⟨fun _ => Or.inl y, fun _ => Or.inl (Or.inl y)⟩
                · refine ⟨fun z => Or.inr ?_, fun z => ?_⟩
                  · rcases z with (z | z) | z
                    · exact absurd z y
                    · omega
                    · omega
                  · rcases z with z | z
                    · exact absurd z y
                    · by_cases w : e = d
                      · exact Or.inr w
                      · exact Or.inl (Or.inr (by omega)))
      refine j_blx (F := fX6) tb_X6 (nn_ _) bk_X6_blockDays_f_10 bs_X6_blockDays_f_10 hz (fun K hK => ?_)
      intro b4 b4b
      have e5 : T1 106 0 4 = T 106 0 4 := hf_10 106 0 4 rfl
      rw [e5] at b4 b4b ⊢
      refine And.intro (fun c6 => ?_) (fun c6 => ?_)
      · refine hK 159 _ [] T1 ?_
        refine j_blx (F := fX6) tb_X6 (nn_ _) bk_X6_blockDays_f_159 bs_X6_blockDays_f_159 hz (fun K hK => ?_)
        refine (show po_X6_blockDays_f T p T1 (none) from ?_)
        have br9 : BR_ (fun e => T1 535 0 e) (BKn_ T p (T 106 0 4)) := by
          rw [show T 106 0 4 = k from Int.le_antisymm (by omega) (by omega)]
          exact br1
        exact ⟨rfl, fr_t (fr_0 _ _) (fr_s hf_10 rfl), br9⟩
      · refine ix_i (by omega) ?_
        have e8 : T1 523 0 k = T 523 0 k := hf_10 523 0 k rfl
        refine And.intro (fun c7 => ?_) (fun c7 => ?_)
        · exact absurd (show T 523 0 (k) = 0 from Int.le_antisymm (by omega) (by omega)) (hka.2 _ (by omega) (by omega))
        · have hdk : 0 ≤ T 102 k 5 ∧ T 102 k 5 ≤ 999 := bd_f hT 102 5 tl_2_5 k
          have hrk : 0 ≤ T 401 (T 102 k 0) 8 ∧ T 401 (T 102 k 0) 8 ≤ 999 := bd_a hT 401 (by decide +kernel : ta_ 401 = some (1, some 16, 0, 999)) (T 102 k 0) (by decide)
          intro b9 b9b
          have e10 : T1 102 p 1 = T 102 p 1 := hf_10 102 p 1 rfl
          rw [e10] at b9 b9b ⊢
          refine And.intro (fun c11 => ?_) (fun c11 => ?_)
          · refine hK 153 [some (vR 106 0), some (vR 102 p), some (vI k), some (vR 102 k), none, none, none] [] T1 ?_
            refine j_blx (F := fX6) tb_X6 (nn_ _) bk_X6_blockDays_f_153 bs_X6_blockDays_f_153 hz (fun K hK => ?_)
            refine rg_i (by omega) ?_
            refine hK 10 [some (vR 106 0), some (vR 102 p), some (vI (k + 1)), some (vR 102 k), none, none, none] [] T1 ?_
            refine j_drop [some (vR 106 0), some (vR 102 p), some (vI (k + 1)), none, none, none, none] (fun k v hk => ?_) rfl ?_
            · match k, hk with
              | 0, hk => exact hk
              | 1, hk => exact hk
              | 2, hk => exact hk
              | 3, hk => cases hk
              | 4, hk => cases hk
              | 5, hk => cases hk
              | 6, hk => cases hk
              | k + 7, hk => cases hk
            refine ih_10 _ ?_ (k + 1) T1 (Nat.le_refl _) ?_ ?_ ?_
            · have hm_10 := hm_10 (); omega
            · exact fr_t (fr_0 _ _) (fr_s hf_10 rfl)
            · omega
            · exact br_e br1 (fun e a b => by
                rw [bkn_s (by omega)]
                exact ⟨Or.inl, fun z => z.elim id (fun y => absurd y (by
                  unfold SAH_ SAG_ sqH_ hqH_ rsH_ abH_
                  dsimp only
                  omega))⟩)
          · intro b12 b12b
            have e13 : T1 102 k 6 = T 102 k 6 := hf_10 102 k 6 rfl
            rw [e13] at b12 b12b ⊢
            refine And.intro (fun c14 => ?_) (fun c14 => ?_)
            · refine hK 44 [some (vR 106 0), some (vR 102 p), some (vI k), some (vR 102 k), none, none, none] [] T1 ?_
              refine j_blx (F := fX6) tb_X6 (nn_ _) bk_X6_blockDays_f_44 bs_X6_blockDays_f_44 hz (fun K hK => ?_)
              intro b15 b15b
              have e16 : T1 102 p 3 = T 102 p 3 := hf_10 102 p 3 rfl
              rw [e16] at b15 b15b ⊢
              refine ix_i (by omega) ?_
              intro b17 b17b
              have e18 : T1 560 0 (T 102 p 3) = T 560 0 (T 102 p 3) := hf_10 560 0 (T 102 p 3) rfl
              rw [e18] at b17 b17b ⊢
              intro b19 b19b
              have e20 : T1 102 k 3 = T 102 k 3 := hf_10 102 k 3 rfl
              rw [e20] at b19 b19b ⊢
              refine ix_i (by omega) ?_
              intro b21 b21b
              have e22 : T1 560 0 (T 102 k 3) = T 560 0 (T 102 k 3) := hf_10 560 0 (T 102 k 3) rfl
              rw [e22] at b21 b21b ⊢
              refine And.intro (fun c23 => ?_) (fun c23 => ?_)
              · refine hK 81 _ [] T1 ?_
                refine j_blx (F := fX6) tb_X6 (nn_ _) bk_X6_blockDays_f_81 bs_X6_blockDays_f_81 hz (fun K hK => ?_)
                refine hK 83 _ [vR 102 k, vR 102 p] T1 ?_
                refine j_callS (y := yX6_shareClub) (Yc := zX6_shareClub) (rest := []) [vR 102 p, vR 102 k] (ct_X6_shareClub_f (T := T1)) cl_X6_140 (qd_c (by decide +kernel)) (nn_ _) rfl (rf_of rfl) (Nat.le_of_ble_eq_true rfl) (Nat.le_of_ble_eq_true rfl) (Nat.le_of_ble_eq_true rfl) rfl ?_
                rintro _ _ ⟨rfl, x24, rfl, hx24⟩
                have e25 : T1 102 p 3 = T 102 p 3 := hf_10 102 p 3 rfl
                have e26 : T1 102 p 4 = T 102 p 4 := hf_10 102 p 4 rfl
                have e27 : T1 102 k 3 = T 102 k 3 := hf_10 102 k 3 rfl
                have e28 : T1 102 k 4 = T 102 k 4 := hf_10 102 k 4 rfl
                show J_ zX6_blockDays T (po_X6_blockDays_f T p) 0 0 86 _ [vI x24] T1
                refine j_blx (F := fX6) tb_X6 (nn_ _) bk_X6_blockDays_f_86 bs_X6_blockDays_f_86 hz (fun K hK => ?_)
                refine And.intro (fun c29 => ?_) (fun c29 => ?_)
                · replace hx24 := hx24.resolve_left (fun z => absurd (c29.symm.trans z.1) (by decide))
                  clear c29
                  refine hK 153 _ [] T1 ?_
                  refine j_blx (F := fX6) tb_X6 (nn_ _) bk_X6_blockDays_f_153 bs_X6_blockDays_f_153 hz (fun K hK => ?_)
                  refine rg_i (by omega) ?_
                  refine hK 10 [some (vR 106 0), some (vR 102 p), some (vI (k + 1)), some (vR 102 k), none, none, none] [] T1 ?_
                  refine j_drop [some (vR 106 0), some (vR 102 p), some (vI (k + 1)), none, none, none, none] (fun k v hk => ?_) rfl ?_
                  · match k, hk with
                    | 0, hk => exact hk
                    | 1, hk => exact hk
                    | 2, hk => exact hk
                    | 3, hk => cases hk
                    | 4, hk => cases hk
                    | 5, hk => cases hk
                    | 6, hk => cases hk
                    | k + 7, hk => cases hk
                  refine ih_10 _ ?_ (k + 1) T1 (Nat.le_refl _) ?_ ?_ ?_
                  · have hm_10 := hm_10 (); omega
                  · exact fr_t (fr_0 _ _) (fr_s hf_10 rfl)
                  · omega
                  · exact br_e br1 (fun e a b => by
                      rw [bkn_s (by omega)]
                      exact ⟨Or.inl, fun z => z.elim id (fun y => absurd y (by
                        unfold SAH_ SAG_ sqH_ hqH_ rsH_ abH_
                        dsimp only
                        omega))⟩)
                · replace hx24 := hx24.resolve_right (fun z => c29 z.1)
                  clear c29
                  refine hK 90 [some (vR 106 0), some (vR 102 p), some (vI k), some (vR 102 k), none, none, none] [vR 102 p] T1 ?_
                  refine j_callV (y := yX2_rest) (Yc := zX2_rest) (rest := []) [] (ct_X2_rest_f (T := T1)) cl_X6_133 (qd_c (by decide +kernel)) (nn_ _) rfl (rf_of rfl) (Nat.le_of_ble_eq_true rfl) (Nat.le_of_ble_eq_true rfl) (Nat.le_of_ble_eq_true rfl) rfl ?_
                  rintro _ _ ⟨rfl, x30, rfl, hx30⟩
                  have e31 : T1 102 p 0 = T 102 p 0 := hf_10 102 p 0 rfl
                  have e32 : T1 401 (T 102 p 0) 8 = T 401 (T 102 p 0) 8 := hf_10 401 (T 102 p 0) 8 rfl
                  rw [e31, e32] at hx30
                  show J_ zX6_blockDays T (po_X6_blockDays_f T p) 0 0 93 _ [vI x30] T1
                  refine j_blx (F := fX6) tb_X6 (nn_ _) bk_X6_blockDays_f_93 bs_X6_blockDays_f_93 hz (fun K hK => ?_)
                  refine hK 94 _ [vR 102 k, vI x30] T1 ?_
                  refine j_callV (y := yX2_rest) (Yc := zX2_rest) (rest := [vI x30]) [] (ct_X2_rest_f (T := T1)) cl_X6_133 (qd_c (by decide +kernel)) (nn_ _) rfl (rf_of rfl) (Nat.le_of_ble_eq_true rfl) (Nat.le_of_ble_eq_true rfl) (Nat.le_of_ble_eq_true rfl) rfl ?_
                  rintro _ _ ⟨rfl, x33, rfl, hx33⟩
                  have e34 : T1 102 k 0 = T 102 k 0 := hf_10 102 k 0 rfl
                  have e35 : T1 401 (T 102 k 0) 8 = T 401 (T 102 k 0) 8 := hf_10 401 (T 102 k 0) 8 rfl
                  rw [e34, e35] at hx33
                  show J_ zX6_blockDays T (po_X6_blockDays_f T p) 0 0 97 _ [vI x33, vI x30] T1
                  obtain ⟨x36, e37, hx36⟩ : ∃ x36 : Int, (if x30 < x33 then x33 else x30) = x36 ∧ ((x36 = x30 ∨ x36 = x33) ∧ x30 ≤ x36 ∧ x33 ≤ x36) := ⟨_, rfl, by split <;> omega⟩
                  refine j_mx (pc := 97) (lwq_4 (dqc_m (dqc_m (dqc_m (List.mem_of_getElem? (i := 4) rfl)))) rfl : Cond.methodLink RX6 136 Lib.Math.max.name ∈ lw_g) (lwq_4 (dqc_m (dqc_m (dqc_m (List.mem_of_getElem? (i := 5) rfl)))) rfl : Cond.static Lib.Math.max.name ∈ lw_g) (lwq_1 (dqa_m (dqa_m (List.mem_of_getElem? (i := 1) rfl))) rfl : Cond.initialized "java/lang/Math" ∈ lw_g) (lwq_4 (dqc_m (dqc_m (dqc_m (List.mem_of_getElem? (i := 6) rfl)))) rfl : Cond.code Lib.Math.max.name Lib.Math.max.code 2 (some .int) ∈ lw_g) (by decide +kernel) (by decide) (by decide) (by decide) (Nat.le_of_ble_eq_true rfl) ?_
                  rw [e37]
                  clear e37
                  show J_ zX6_blockDays T (po_X6_blockDays_f T p) 0 0 100 _ [vI x36] T1
                  refine j_blx (F := fX6) tb_X6 (nn_ _) bk_X6_blockDays_f_100 bs_X6_blockDays_f_100 hz (fun K hK => ?_)
                  refine rg_i (by omega) ?_
                  intro b38 b38b
                  have e39 : T1 102 k 5 = T 102 k 5 := hf_10 102 k 5 rfl
                  rw [e39] at b38 b38b ⊢
                  refine rg_i (by omega) ?_
                  refine hK 114 [some (vR 106 0), some (vR 102 p), some (vI k), some (vR 102 k), some (vI (x36 - 1)), none, none] [vI ((T 102 k 5) + (x36 - 1)), vI 999] T1 ?_
                  obtain ⟨x40, e41, hx40⟩ : ∃ x40 : Int, (if ((T 102 k 5) + (x36 - 1)) < 999 then ((T 102 k 5) + (x36 - 1)) else 999) = x40 ∧ ((x40 = 999 ∨ x40 = (T 102 k 5) + (x36 - 1)) ∧ x40 ≤ 999 ∧ x40 ≤ (T 102 k 5) + (x36 - 1)) := ⟨_, rfl, by split <;> omega⟩
                  refine j_mn (pc := 114) (lwq_4 (dqc_m (dqc_m (dqc_m (dqa_m (dqa_m (List.mem_of_getElem? (i := 4) rfl)))))) rfl : Cond.methodLink RX6 156 Lib.Math.min.name ∈ lw_g) (lwq_4 (dqc_m (dqc_m (dqc_m (dqa_m (dqa_m (List.mem_of_getElem? (i := 5) rfl)))))) rfl : Cond.static Lib.Math.min.name ∈ lw_g) (lwq_1 (dqa_m (dqa_m (List.mem_of_getElem? (i := 1) rfl))) rfl : Cond.initialized "java/lang/Math" ∈ lw_g) (lwq_4 (dqc_m (dqc_m (dqc_m (dqa_m (dqa_m (List.mem_of_getElem? (i := 6) rfl)))))) rfl : Cond.code Lib.Math.min.name Lib.Math.min.code 2 (some .int) ∈ lw_g) (by decide +kernel) (by decide) (by decide) (by decide) (Nat.le_of_ble_eq_true rfl) ?_
                  rw [e41]
                  clear e41
                  show J_ zX6_blockDays T (po_X6_blockDays_f T p) 0 0 117 _ [vI x40] T1
                  refine j_blx (F := fX6) tb_X6 (nn_ _) bk_X6_blockDays_f_117 bs_X6_blockDays_f_117 hz (fun K hK => ?_)
                  intro b42 b42b
                  have e43 : T1 102 k 5 = T 102 k 5 := hf_10 102 k 5 rfl
                  rw [e43] at b42 b42b ⊢
                  refine rg_i (by omega) ?_
                  refine hK 127 [some (vR 106 0), some (vR 102 p), some (vI k), some (vR 102 k), some (vI (x36 - 1)), some (vI x40), none] [vI ((T 102 k 5) - (x36 - 1)), vI 0] T1 ?_
                  obtain ⟨x44, e45, hx44⟩ : ∃ x44 : Int, (if 0 < ((T 102 k 5) - (x36 - 1)) then ((T 102 k 5) - (x36 - 1)) else 0) = x44 ∧ ((x44 = 0 ∨ x44 = (T 102 k 5) - (x36 - 1)) ∧ 0 ≤ x44 ∧ (T 102 k 5) - (x36 - 1) ≤ x44) := ⟨_, rfl, by split <;> omega⟩
                  refine j_mx (pc := 127) (lwq_4 (dqc_m (dqc_m (dqc_m (List.mem_of_getElem? (i := 4) rfl)))) rfl : Cond.methodLink RX6 136 Lib.Math.max.name ∈ lw_g) (lwq_4 (dqc_m (dqc_m (dqc_m (List.mem_of_getElem? (i := 5) rfl)))) rfl : Cond.static Lib.Math.max.name ∈ lw_g) (lwq_1 (dqa_m (dqa_m (List.mem_of_getElem? (i := 1) rfl))) rfl : Cond.initialized "java/lang/Math" ∈ lw_g) (lwq_4 (dqc_m (dqc_m (dqc_m (List.mem_of_getElem? (i := 6) rfl)))) rfl : Cond.code Lib.Math.max.name Lib.Math.max.code 2 (some .int) ∈ lw_g) (by decide +kernel) (by decide) (by decide) (by decide) (Nat.le_of_ble_eq_true rfl) ?_
                  rw [e45]
                  clear e45
                  show J_ zX6_blockDays T (po_X6_blockDays_f T p) 0 0 130 _ [vI x44] T1
                  refine j_blx (F := fX6) tb_X6 (nn_ _) bk_X6_blockDays_f_130 bs_X6_blockDays_f_130 hz (fun K hK => ?_)
                  refine hK 132 [some (vR 106 0), some (vR 102 p), some (vI k), some (vR 102 k), some (vI (x36 - 1)), some (vI x40), some (vI x44)] [] T1 ?_
                  refine j_drop [some (vR 106 0), some (vR 102 p), some (vI k), none, none, some (vI x40), some (vI x44)] (fun k v hk => ?_) rfl ?_
                  · match k, hk with
                    | 0, hk => exact hk
                    | 1, hk => exact hk
                    | 2, hk => exact hk
                    | 3, hk => cases hk
                    | 4, hk => cases hk
                    | 5, hk => exact hk
                    | 6, hk => exact hk
                    | k + 7, hk => cases hk
                  refine c_132 _ x40 x44 x44 x36 T1 (Nat.le_refl _) ?_ ?_ ?_
                  · exact fr_t (fr_0 _ _) (fr_s hf_10 rfl)
                  · rw [e25, e26, e27, e28] at hx24
                    refine ⟨by clear hx24 hx40 hx44 hx36; omega, by clear hx24 hx40 hx44 hx36; omega, ?_, ?_, hx24.2, ?_, hx40, hx44, Int.le_refl _, Or.inl rfl⟩
                    · clear hx24 hx40 hx44 hx36
                      omega
                    · clear hx24 hx40 hx44 hx36
                      omega
                    · rw [← hx30.2.2, ← hx33.2.2]
                      exact hx36
                  · exact br_e br1 (fun e a b => ⟨Or.inl, fun z => z.elim id (fun y => y.elim (fun w => absurd w.2 (by clear hx24 hx40 hx44 hx36; omega)) (fun w => absurd (Int.lt_of_le_of_lt w.1 w.2) (Int.lt_irrefl _)))⟩)
              · intro b46 b46b
                have e47 : T1 102 k 5 = T 102 k 5 := hf_10 102 k 5 rfl
                rw [e47] at b46 b46b ⊢
                refine iy_i (by omega) (by omega) ?_
                refine x_nm (fun U48 hU48 => ?_)
                have e49 := up_f hU48
                refine hK 83 _ [vR 102 k, vR 102 p] U48 ?_
                refine j_callS (y := yX6_shareClub) (Yc := zX6_shareClub) (rest := []) [vR 102 p, vR 102 k] (ct_X6_shareClub_f (T := U48)) cl_X6_140 (qd_c (by decide +kernel)) (nn_ _) rfl (rf_of rfl) (Nat.le_of_ble_eq_true rfl) (Nat.le_of_ble_eq_true rfl) (Nat.le_of_ble_eq_true rfl) rfl ?_
                rintro _ _ ⟨rfl, x50, rfl, hx50⟩
                have e51 : U48 102 p 3 = T 102 p 3 := (up_k hU48 (by exact Nat.ne_of_beq_eq_false rfl) p 3).trans (hf_10 102 p 3 rfl)
                have e52 : U48 102 p 4 = T 102 p 4 := (up_k hU48 (by exact Nat.ne_of_beq_eq_false rfl) p 4).trans (hf_10 102 p 4 rfl)
                have e53 : U48 102 k 3 = T 102 k 3 := (up_k hU48 (by exact Nat.ne_of_beq_eq_false rfl) k 3).trans (hf_10 102 k 3 rfl)
                have e54 : U48 102 k 4 = T 102 k 4 := (up_k hU48 (by exact Nat.ne_of_beq_eq_false rfl) k 4).trans (hf_10 102 k 4 rfl)
                show J_ zX6_blockDays T (po_X6_blockDays_f T p) 0 0 86 _ [vI x50] U48
                refine j_blx (F := fX6) tb_X6 (nn_ _) bk_X6_blockDays_f_86 bs_X6_blockDays_f_86 hz (fun K hK => ?_)
                refine And.intro (fun c55 => ?_) (fun c55 => ?_)
                · replace hx50 := hx50.resolve_left (fun z => absurd (c55.symm.trans z.1) (by decide))
                  clear c55
                  refine hK 153 _ [] U48 ?_
                  refine j_blx (F := fX6) tb_X6 (nn_ _) bk_X6_blockDays_f_153 bs_X6_blockDays_f_153 hz (fun K hK => ?_)
                  refine rg_i (by omega) ?_
                  refine hK 10 [some (vR 106 0), some (vR 102 p), some (vI (k + 1)), some (vR 102 k), none, none, none] [] U48 ?_
                  refine j_drop [some (vR 106 0), some (vR 102 p), some (vI (k + 1)), none, none, none, none] (fun k v hk => ?_) rfl ?_
                  · match k, hk with
                    | 0, hk => exact hk
                    | 1, hk => exact hk
                    | 2, hk => exact hk
                    | 3, hk => cases hk
                    | 4, hk => cases hk
                    | 5, hk => cases hk
                    | 6, hk => cases hk
                    | k + 7, hk => cases hk
                  refine ih_10 _ ?_ (k + 1) U48 (Nat.le_refl _) ?_ ?_ ?_
                  · have hm_10 := hm_10 (); omega
                  · exact fr_u (fr_t (fr_0 _ _) (fr_s hf_10 rfl)) hU48 rfl
                  · omega
                  · exact br_e (br_u br1 (up_f hU48) (fun j hj => up_g hU48 (fun z => hj z.2.2))) (fun e a b => by
                      rw [bkn_s (by omega)]
                      refine or_congr Iff.rfl ?_
                      unfold SAH_ SAG_ sqH_ hqH_ rsH_ abH_
                      dsimp only
                      omega)
                · replace hx50 := hx50.resolve_right (fun z => c55 z.1)
                  clear c55
                  refine hK 90 [some (vR 106 0), some (vR 102 p), some (vI k), some (vR 102 k), none, none, none] [vR 102 p] U48 ?_
                  refine j_callV (y := yX2_rest) (Yc := zX2_rest) (rest := []) [] (ct_X2_rest_f (T := U48)) cl_X6_133 (qd_c (by decide +kernel)) (nn_ _) rfl (rf_of rfl) (Nat.le_of_ble_eq_true rfl) (Nat.le_of_ble_eq_true rfl) (Nat.le_of_ble_eq_true rfl) rfl ?_
                  rintro _ _ ⟨rfl, x56, rfl, hx56⟩
                  have e57 : U48 102 p 0 = T 102 p 0 := (up_k hU48 (by exact Nat.ne_of_beq_eq_false rfl) p 0).trans (hf_10 102 p 0 rfl)
                  have e58 : U48 401 (T 102 p 0) 8 = T 401 (T 102 p 0) 8 := (up_k hU48 (by exact Nat.ne_of_beq_eq_false rfl) (T 102 p 0) 8).trans (hf_10 401 (T 102 p 0) 8 rfl)
                  rw [e57, e58] at hx56
                  show J_ zX6_blockDays T (po_X6_blockDays_f T p) 0 0 93 _ [vI x56] U48
                  refine j_blx (F := fX6) tb_X6 (nn_ _) bk_X6_blockDays_f_93 bs_X6_blockDays_f_93 hz (fun K hK => ?_)
                  refine hK 94 _ [vR 102 k, vI x56] U48 ?_
                  refine j_callV (y := yX2_rest) (Yc := zX2_rest) (rest := [vI x56]) [] (ct_X2_rest_f (T := U48)) cl_X6_133 (qd_c (by decide +kernel)) (nn_ _) rfl (rf_of rfl) (Nat.le_of_ble_eq_true rfl) (Nat.le_of_ble_eq_true rfl) (Nat.le_of_ble_eq_true rfl) rfl ?_
                  rintro _ _ ⟨rfl, x59, rfl, hx59⟩
                  have e60 : U48 102 k 0 = T 102 k 0 := (up_k hU48 (by exact Nat.ne_of_beq_eq_false rfl) k 0).trans (hf_10 102 k 0 rfl)
                  have e61 : U48 401 (T 102 k 0) 8 = T 401 (T 102 k 0) 8 := (up_k hU48 (by exact Nat.ne_of_beq_eq_false rfl) (T 102 k 0) 8).trans (hf_10 401 (T 102 k 0) 8 rfl)
                  rw [e60, e61] at hx59
                  show J_ zX6_blockDays T (po_X6_blockDays_f T p) 0 0 97 _ [vI x59, vI x56] U48
                  obtain ⟨x62, e63, hx62⟩ : ∃ x62 : Int, (if x56 < x59 then x59 else x56) = x62 ∧ ((x62 = x56 ∨ x62 = x59) ∧ x56 ≤ x62 ∧ x59 ≤ x62) := ⟨_, rfl, by split <;> omega⟩
                  refine j_mx (pc := 97) (lwq_4 (dqc_m (dqc_m (dqc_m (List.mem_of_getElem? (i := 4) rfl)))) rfl : Cond.methodLink RX6 136 Lib.Math.max.name ∈ lw_g) (lwq_4 (dqc_m (dqc_m (dqc_m (List.mem_of_getElem? (i := 5) rfl)))) rfl : Cond.static Lib.Math.max.name ∈ lw_g) (lwq_1 (dqa_m (dqa_m (List.mem_of_getElem? (i := 1) rfl))) rfl : Cond.initialized "java/lang/Math" ∈ lw_g) (lwq_4 (dqc_m (dqc_m (dqc_m (List.mem_of_getElem? (i := 6) rfl)))) rfl : Cond.code Lib.Math.max.name Lib.Math.max.code 2 (some .int) ∈ lw_g) (by decide +kernel) (by decide) (by decide) (by decide) (Nat.le_of_ble_eq_true rfl) ?_
                  rw [e63]
                  clear e63
                  show J_ zX6_blockDays T (po_X6_blockDays_f T p) 0 0 100 _ [vI x62] U48
                  refine j_blx (F := fX6) tb_X6 (nn_ _) bk_X6_blockDays_f_100 bs_X6_blockDays_f_100 hz (fun K hK => ?_)
                  refine rg_i (by omega) ?_
                  intro b64 b64b
                  have e65 : U48 102 k 5 = T 102 k 5 := (up_k hU48 (by exact Nat.ne_of_beq_eq_false rfl) k 5).trans (hf_10 102 k 5 rfl)
                  rw [e65] at b64 b64b ⊢
                  refine rg_i (by omega) ?_
                  refine hK 114 [some (vR 106 0), some (vR 102 p), some (vI k), some (vR 102 k), some (vI (x62 - 1)), none, none] [vI ((T 102 k 5) + (x62 - 1)), vI 999] U48 ?_
                  obtain ⟨x66, e67, hx66⟩ : ∃ x66 : Int, (if ((T 102 k 5) + (x62 - 1)) < 999 then ((T 102 k 5) + (x62 - 1)) else 999) = x66 ∧ ((x66 = 999 ∨ x66 = (T 102 k 5) + (x62 - 1)) ∧ x66 ≤ 999 ∧ x66 ≤ (T 102 k 5) + (x62 - 1)) := ⟨_, rfl, by split <;> omega⟩
                  refine j_mn (pc := 114) (lwq_4 (dqc_m (dqc_m (dqc_m (dqa_m (dqa_m (List.mem_of_getElem? (i := 4) rfl)))))) rfl : Cond.methodLink RX6 156 Lib.Math.min.name ∈ lw_g) (lwq_4 (dqc_m (dqc_m (dqc_m (dqa_m (dqa_m (List.mem_of_getElem? (i := 5) rfl)))))) rfl : Cond.static Lib.Math.min.name ∈ lw_g) (lwq_1 (dqa_m (dqa_m (List.mem_of_getElem? (i := 1) rfl))) rfl : Cond.initialized "java/lang/Math" ∈ lw_g) (lwq_4 (dqc_m (dqc_m (dqc_m (dqa_m (dqa_m (List.mem_of_getElem? (i := 6) rfl)))))) rfl : Cond.code Lib.Math.min.name Lib.Math.min.code 2 (some .int) ∈ lw_g) (by decide +kernel) (by decide) (by decide) (by decide) (Nat.le_of_ble_eq_true rfl) ?_
                  rw [e67]
                  clear e67
                  show J_ zX6_blockDays T (po_X6_blockDays_f T p) 0 0 117 _ [vI x66] U48
                  refine j_blx (F := fX6) tb_X6 (nn_ _) bk_X6_blockDays_f_117 bs_X6_blockDays_f_117 hz (fun K hK => ?_)
                  intro b68 b68b
                  have e69 : U48 102 k 5 = T 102 k 5 := (up_k hU48 (by exact Nat.ne_of_beq_eq_false rfl) k 5).trans (hf_10 102 k 5 rfl)
                  rw [e69] at b68 b68b ⊢
                  refine rg_i (by omega) ?_
                  refine hK 127 [some (vR 106 0), some (vR 102 p), some (vI k), some (vR 102 k), some (vI (x62 - 1)), some (vI x66), none] [vI ((T 102 k 5) - (x62 - 1)), vI 0] U48 ?_
                  obtain ⟨x70, e71, hx70⟩ : ∃ x70 : Int, (if 0 < ((T 102 k 5) - (x62 - 1)) then ((T 102 k 5) - (x62 - 1)) else 0) = x70 ∧ ((x70 = 0 ∨ x70 = (T 102 k 5) - (x62 - 1)) ∧ 0 ≤ x70 ∧ (T 102 k 5) - (x62 - 1) ≤ x70) := ⟨_, rfl, by split <;> omega⟩
                  refine j_mx (pc := 127) (lwq_4 (dqc_m (dqc_m (dqc_m (List.mem_of_getElem? (i := 4) rfl)))) rfl : Cond.methodLink RX6 136 Lib.Math.max.name ∈ lw_g) (lwq_4 (dqc_m (dqc_m (dqc_m (List.mem_of_getElem? (i := 5) rfl)))) rfl : Cond.static Lib.Math.max.name ∈ lw_g) (lwq_1 (dqa_m (dqa_m (List.mem_of_getElem? (i := 1) rfl))) rfl : Cond.initialized "java/lang/Math" ∈ lw_g) (lwq_4 (dqc_m (dqc_m (dqc_m (List.mem_of_getElem? (i := 6) rfl)))) rfl : Cond.code Lib.Math.max.name Lib.Math.max.code 2 (some .int) ∈ lw_g) (by decide +kernel) (by decide) (by decide) (by decide) (Nat.le_of_ble_eq_true rfl) ?_
                  rw [e71]
                  clear e71
                  show J_ zX6_blockDays T (po_X6_blockDays_f T p) 0 0 130 _ [vI x70] U48
                  refine j_blx (F := fX6) tb_X6 (nn_ _) bk_X6_blockDays_f_130 bs_X6_blockDays_f_130 hz (fun K hK => ?_)
                  refine hK 132 [some (vR 106 0), some (vR 102 p), some (vI k), some (vR 102 k), some (vI (x62 - 1)), some (vI x66), some (vI x70)] [] U48 ?_
                  refine j_drop [some (vR 106 0), some (vR 102 p), some (vI k), none, none, some (vI x66), some (vI x70)] (fun k v hk => ?_) rfl ?_
                  · match k, hk with
                    | 0, hk => exact hk
                    | 1, hk => exact hk
                    | 2, hk => exact hk
                    | 3, hk => cases hk
                    | 4, hk => cases hk
                    | 5, hk => exact hk
                    | 6, hk => exact hk
                    | k + 7, hk => cases hk
                  refine c_132 _ x66 x70 x70 x62 U48 (Nat.le_refl _) ?_ ?_ ?_
                  · exact fr_u (fr_t (fr_0 _ _) (fr_s hf_10 rfl)) hU48 rfl
                  · rw [e51, e52, e53, e54] at hx50
                    refine ⟨by clear hx50 hx66 hx70 hx62; omega, by clear hx50 hx66 hx70 hx62; omega, ?_, ?_, hx50.2, ?_, hx66, hx70, Int.le_refl _, Or.inl rfl⟩
                    · clear hx50 hx66 hx70 hx62
                      omega
                    · clear hx50 hx66 hx70 hx62
                      omega
                    · rw [← hx56.2.2, ← hx59.2.2]
                      exact hx62
                  · exact br_e (br_u br1 (up_f hU48) (fun j hj => up_g hU48 (fun z => hj z.2.2))) (fun e a b => or_congr Iff.rfl ⟨fun z => Or.inl ⟨z, by clear hx50 hx66 hx70 hx62; omega⟩, fun z => z.elim And.left (fun w => absurd (Int.lt_of_le_of_lt w.1 w.2) (Int.lt_irrefl _))⟩)
            · refine hK 153 _ [] T1 ?_
              refine j_blx (F := fX6) tb_X6 (nn_ _) bk_X6_blockDays_f_153 bs_X6_blockDays_f_153 hz (fun K hK => ?_)
              refine rg_i (by omega) ?_
              refine hK 10 [some (vR 106 0), some (vR 102 p), some (vI (k + 1)), some (vR 102 k), none, none, none] [] T1 ?_
              refine j_drop [some (vR 106 0), some (vR 102 p), some (vI (k + 1)), none, none, none, none] (fun k v hk => ?_) rfl ?_
              · match k, hk with
                | 0, hk => exact hk
                | 1, hk => exact hk
                | 2, hk => exact hk
                | 3, hk => cases hk
                | 4, hk => cases hk
                | 5, hk => cases hk
                | 6, hk => cases hk
                | k + 7, hk => cases hk
              refine ih_10 _ ?_ (k + 1) T1 (Nat.le_refl _) ?_ ?_ ?_
              · have hm_10 := hm_10 (); omega
              · exact fr_t (fr_0 _ _) (fr_s hf_10 rfl)
              · omega
              · exact br_e br1 (fun e a b => by
                  rw [bkn_s (by omega)]
                  exact ⟨Or.inl, fun z => z.elim id (fun y => absurd y (by
                    unfold SAH_ SAG_ sqH_ hqH_ rsH_ abH_
                    dsimp only
                    omega))⟩)
  refine j_blx (F := fX6) tb_X6 (nn_ _) bk_X6_blockDays_f_0 bs_X6_blockDays_f_0 hz (fun K hK => ?_)
  refine hK 5 _ [vI 0, vR 535 0] T ?_
  refine j_callS (y := yJ7_fill_53178) (Yc := zJ7_fill_53178) (rest := []) [vR 535 0, vI 0] (ct_J7_fill_535 (T := T) (by omega)) cl_X6_150 (qd_c (by decide +kernel)) (nn_ _) rfl (rf_of rfl) (Nat.le_of_ble_eq_true rfl) (Nat.le_of_ble_eq_true rfl) (Nat.le_of_ble_eq_true rfl) rfl ?_
  rintro U72 _ ⟨rfl, fU72, qU72o, qU72⟩
  show J_ zX6_blockDays T (po_X6_blockDays_f T p) 0 0 8 _ [] U72
  refine j_blx (F := fX6) tb_X6 (nn_ _) bk_X6_blockDays_f_8 bs_X6_blockDays_f_8 hz (fun K hK => ?_)
  refine hK 10 [some (vR 106 0), some (vR 102 p), some (vI 0), none, none, none, none] [] U72 ?_
  refine c_10 _ 0 U72 (Nat.le_refl _) ?_ ?_ ?_
  · exact fr_t (fr_0 _ _) (fr_s fU72 rfl)
  · omega
  · exact fun d a b => Or.inr ⟨qU72 d a (by omega), bkn_0⟩
