theorem bk_X6_addRound_s_111 : ck_ fX6 none cX6_addRound 111 [.istore 11, .aload 0, .aload 1, .iload 2, .iload 11, .ifCond .eq 126, .iload 9, .goto 128] 126 = true := qck_r (nn_ _) (by decide +kernel)
theorem bs_X6_addRound_s_111 {P : Zt → Option Zv → Prop} (K : Int → Zl → List Zv → Zt → Prop) : sx_ K P [.istore 11, .aload 0, .aload 1, .iload 2, .iload 11, .ifCond .eq 126, .iload 9, .goto 128] 126 = x_istore 11 (x_aload 0 (x_aload 1 (x_iload 2 (x_iload 11 (x_ifCond .eq 126 K (x_iload 9 (x_goto 128 K))))))) := ((xe_istore 11).trans (congrArg (x_istore 11) ((xe_aload 0).trans (congrArg (x_aload 0) ((xe_aload 1).trans (congrArg (x_aload 1) ((xe_iload 2).trans (congrArg (x_iload 2) ((xe_iload 11).trans (congrArg (x_iload 11) ((xe_ifCond .eq 126).trans (congrArg (x_ifCond .eq 126 K) ((xe_iload 9).trans (congrArg (x_iload 9) (xe_goto 128)))))))))))))))
theorem bk_X6_addRound_s_126 : ck_ fX6 none cX6_addRound 126 [.iload 10, .iload 11, .ifCond .eq 138, .iload 10, .goto 140] 138 = true := qck_r (nn_ _) (by decide +kernel)
theorem bs_X6_addRound_s_126 {P : Zt → Option Zv → Prop} (K : Int → Zl → List Zv → Zt → Prop) : sx_ K P [.iload 10, .iload 11, .ifCond .eq 138, .iload 10, .goto 140] 138 = x_iload 10 (x_iload 11 (x_ifCond .eq 138 K (x_iload 10 (x_goto 140 K)))) := ((xe_iload 10).trans (congrArg (x_iload 10) ((xe_iload 11).trans (congrArg (x_iload 11) ((xe_ifCond .eq 138).trans (congrArg (x_ifCond .eq 138 K) ((xe_iload 10).trans (congrArg (x_iload 10) (xe_goto 140)))))))))
theorem bk_X6_addRound_s_138 : ck_ fX6 none cX6_addRound 138 [.iload 9, .iload 5] 142 = true := qck_r (nn_ _) (by decide +kernel)
theorem bs_X6_addRound_s_138 {P : Zt → Option Zv → Prop} (K : Int → Zl → List Zv → Zt → Prop) : sx_ K P [.iload 9, .iload 5] 142 = x_iload 9 (x_iload 5 (K 142)) := ((xe_iload 9).trans (congrArg (x_iload 9) ((xe_iload 5).trans (congrArg (x_iload 5) xe_nil))))
theorem bk_X6_addRound_s_145 : ck_ fX6 none cX6_addRound 145 [.iinc 8 1, .goto 58] 151 = true := qck_r (nn_ _) (by decide +kernel)
theorem bs_X6_addRound_s_145 {P : Zt → Option Zv → Prop} (K : Int → Zl → List Zv → Zt → Prop) : sx_ K P [.iinc 8 1, .goto 58] 151 = x_iinc 8 1 (x_goto 58 K) := ((xe_iinc 8 1).trans (congrArg (x_iinc 8 1) (xe_goto 58)))
theorem bk_X6_addRound_s_128 : ck_ fX6 none cX6_addRound 128 [.iload 11, .ifCond .eq 138, .iload 10, .goto 140] 138 = true := qck_r (nn_ _) (by decide +kernel)
theorem bs_X6_addRound_s_128 {P : Zt → Option Zv → Prop} (K : Int → Zl → List Zv → Zt → Prop) : sx_ K P [.iload 11, .ifCond .eq 138, .iload 10, .goto 140] 138 = x_iload 11 (x_ifCond .eq 138 K (x_iload 10 (x_goto 140 K))) := ((xe_iload 11).trans (congrArg (x_iload 11) ((xe_ifCond .eq 138).trans (congrArg (x_ifCond .eq 138 K) ((xe_iload 10).trans (congrArg (x_iload 10) (xe_goto 140)))))))
theorem bk_X6_addRound_s_140 : ck_ fX6 none cX6_addRound 140 [.iload 5] 142 = true := qck_r (nn_ _) (by decide +kernel)
theorem bs_X6_addRound_s_140 {P : Zt → Option Zv → Prop} (K : Int → Zl → List Zv → Zt → Prop) : sx_ K P [.iload 5] 142 = x_iload 5 (K 142) := ((xe_iload 5).trans (congrArg (x_iload 5) xe_nil))
theorem bk_X6_addRound_s_58 : ck_ fX6 none cX6_addRound 58 [.iload 8, .iload 6, .iconst 2, .idiv, .if_icmp .gt 151, .iload 3, .iload 8, .iadd, .iload 6, .irem, .istore 9, .iload 3, .iload 8, .isub, .iload 6, .iadd, .iload 6, .irem, .istore 10, .iload 8, .iconst 1, .iand, .iconst 1, .if_icmp .ne 100, .iconst 1, .goto 101] 100 = true := qck_r (nn_ _) (by decide +kernel)
theorem bs_X6_addRound_s_58 {P : Zt → Option Zv → Prop} (K : Int → Zl → List Zv → Zt → Prop) : sx_ K P [.iload 8, .iload 6, .iconst 2, .idiv, .if_icmp .gt 151, .iload 3, .iload 8, .iadd, .iload 6, .irem, .istore 9, .iload 3, .iload 8, .isub, .iload 6, .iadd, .iload 6, .irem, .istore 10, .iload 8, .iconst 1, .iand, .iconst 1, .if_icmp .ne 100, .iconst 1, .goto 101] 100 = x_iload 8 (x_iload 6 (x_iconst 2 (x_idiv (x_if_icmp .gt 151 K (x_iload 3 (x_iload 8 (x_iadd (x_iload 6 (x_irem (x_istore 9 (x_iload 3 (x_iload 8 (x_isub (x_iload 6 (x_iadd (x_iload 6 (x_irem (x_istore 10 (x_iload 8 (x_iconst 1 (x_iand (x_iconst 1 (x_if_icmp .ne 100 K (x_iconst 1 (x_goto 101 K))))))))))))))))))))))))) := ((xe_iload 8).trans (congrArg (x_iload 8) ((xe_iload 6).trans (congrArg (x_iload 6) ((xe_iconst 2).trans (congrArg (x_iconst 2) ((xe_idiv).trans (congrArg (x_idiv) ((xe_if_icmp .gt 151).trans (congrArg (x_if_icmp .gt 151 K) ((xe_iload 3).trans (congrArg (x_iload 3) ((xe_iload 8).trans (congrArg (x_iload 8) ((xe_iadd).trans (congrArg (x_iadd) ((xe_iload 6).trans (congrArg (x_iload 6) ((xe_irem).trans (congrArg (x_irem) ((xe_istore 9).trans (congrArg (x_istore 9) ((xe_iload 3).trans (congrArg (x_iload 3) ((xe_iload 8).trans (congrArg (x_iload 8) ((xe_isub).trans (congrArg (x_isub) ((xe_iload 6).trans (congrArg (x_iload 6) ((xe_iadd).trans (congrArg (x_iadd) ((xe_iload 6).trans (congrArg (x_iload 6) ((xe_irem).trans (congrArg (x_irem) ((xe_istore 10).trans (congrArg (x_istore 10) ((xe_iload 8).trans (congrArg (x_iload 8) ((xe_iconst 1).trans (congrArg (x_iconst 1) ((xe_iand).trans (congrArg (x_iand) ((xe_iconst 1).trans (congrArg (x_iconst 1) ((xe_if_icmp .ne 100).trans (congrArg (x_if_icmp .ne 100 K) ((xe_iconst 1).trans (congrArg (x_iconst 1) (xe_goto 101)))))))))))))))))))))))))))))))))))))))))))))))))))
theorem bk_X6_addRound_s_151 : ck_ fX6 none cX6_addRound 151 [.return_] 152 = true := qck_r (nn_ _) (by decide +kernel)
theorem bs_X6_addRound_s_151 {P : Zt → Option Zv → Prop} (K : Int → Zl → List Zv → Zt → Prop) : sx_ K P [.return_] 152 = x_return_ P := (xe_return_)
theorem bk_X6_addRound_s_100 : ck_ fX6 none cX6_addRound 100 [.iconst 0, .iload 4, .if_icmp .eq 110, .iconst 1, .goto 111] 110 = true := qck_r (nn_ _) (by decide +kernel)
theorem bs_X6_addRound_s_100 {P : Zt → Option Zv → Prop} (K : Int → Zl → List Zv → Zt → Prop) : sx_ K P [.iconst 0, .iload 4, .if_icmp .eq 110, .iconst 1, .goto 111] 110 = x_iconst 0 (x_iload 4 (x_if_icmp .eq 110 K (x_iconst 1 (x_goto 111 K)))) := ((xe_iconst 0).trans (congrArg (x_iconst 0) ((xe_iload 4).trans (congrArg (x_iload 4) ((xe_if_icmp .eq 110).trans (congrArg (x_if_icmp .eq 110 K) ((xe_iconst 1).trans (congrArg (x_iconst 1) (xe_goto 111)))))))))
theorem bk_X6_addRound_s_110 : ck_ fX6 none cX6_addRound 110 [.iconst 0] 111 = true := qck_r (nn_ _) (by decide +kernel)
theorem bs_X6_addRound_s_110 {P : Zt → Option Zv → Prop} (K : Int → Zl → List Zv → Zt → Prop) : sx_ K P [.iconst 0] 111 = x_iconst 0 (K 111) := ((xe_iconst 0).trans (congrArg (x_iconst 0) xe_nil))
theorem bk_X6_addRound_s_101 : ck_ fX6 none cX6_addRound 101 [.iload 4, .if_icmp .eq 110, .iconst 1, .goto 111] 110 = true := qck_r (nn_ _) (by decide +kernel)
theorem bs_X6_addRound_s_101 {P : Zt → Option Zv → Prop} (K : Int → Zl → List Zv → Zt → Prop) : sx_ K P [.iload 4, .if_icmp .eq 110, .iconst 1, .goto 111] 110 = x_iload 4 (x_if_icmp .eq 110 K (x_iconst 1 (x_goto 111 K))) := ((xe_iload 4).trans (congrArg (x_iload 4) ((xe_if_icmp .eq 110).trans (congrArg (x_if_icmp .eq 110 K) ((xe_iconst 1).trans (congrArg (x_iconst 1) (xe_goto 111)))))))
theorem bk_X6_addRound_s_0 : ck_ fX6 none cX6_addRound 0 [.aload 1] 1 = true := qck_r (nn_ _) (by decide +kernel)
theorem bs_X6_addRound_s_0 {P : Zt → Option Zv → Prop} (K : Int → Zl → List Zv → Zt → Prop) : sx_ K P [.aload 1] 1 = x_aload 1 (K 1) := ((xe_aload 1).trans (congrArg (x_aload 1) xe_nil))
theorem bk_X6_addRound_s_4 : ck_ fX6 none cX6_addRound 4 [.iconst 1, .isub, .istore 6, .iload 3, .iconst 1, .iand, .ifCond .ne 18, .iconst 1, .goto 19] 18 = true := qck_r (nn_ _) (by decide +kernel)
theorem bs_X6_addRound_s_4 {P : Zt → Option Zv → Prop} (K : Int → Zl → List Zv → Zt → Prop) : sx_ K P [.iconst 1, .isub, .istore 6, .iload 3, .iconst 1, .iand, .ifCond .ne 18, .iconst 1, .goto 19] 18 = x_iconst 1 (x_isub (x_istore 6 (x_iload 3 (x_iconst 1 (x_iand (x_ifCond .ne 18 K (x_iconst 1 (x_goto 19 K)))))))) := ((xe_iconst 1).trans (congrArg (x_iconst 1) ((xe_isub).trans (congrArg (x_isub) ((xe_istore 6).trans (congrArg (x_istore 6) ((xe_iload 3).trans (congrArg (x_iload 3) ((xe_iconst 1).trans (congrArg (x_iconst 1) ((xe_iand).trans (congrArg (x_iand) ((xe_ifCond .ne 18).trans (congrArg (x_ifCond .ne 18 K) ((xe_iconst 1).trans (congrArg (x_iconst 1) (xe_goto 19)))))))))))))))))
theorem bk_X6_addRound_s_18 : ck_ fX6 none cX6_addRound 18 [.iconst 0, .istore 7, .aload 0, .aload 1, .iload 2, .iload 7, .iload 4, .if_icmp .eq 35, .iload 3, .goto 37] 35 = true := qck_r (nn_ _) (by decide +kernel)
theorem bs_X6_addRound_s_18 {P : Zt → Option Zv → Prop} (K : Int → Zl → List Zv → Zt → Prop) : sx_ K P [.iconst 0, .istore 7, .aload 0, .aload 1, .iload 2, .iload 7, .iload 4, .if_icmp .eq 35, .iload 3, .goto 37] 35 = x_iconst 0 (x_istore 7 (x_aload 0 (x_aload 1 (x_iload 2 (x_iload 7 (x_iload 4 (x_if_icmp .eq 35 K (x_iload 3 (x_goto 37 K))))))))) := ((xe_iconst 0).trans (congrArg (x_iconst 0) ((xe_istore 7).trans (congrArg (x_istore 7) ((xe_aload 0).trans (congrArg (x_aload 0) ((xe_aload 1).trans (congrArg (x_aload 1) ((xe_iload 2).trans (congrArg (x_iload 2) ((xe_iload 7).trans (congrArg (x_iload 7) ((xe_iload 4).trans (congrArg (x_iload 4) ((xe_if_icmp .eq 35).trans (congrArg (x_if_icmp .eq 35 K) ((xe_iload 3).trans (congrArg (x_iload 3) (xe_goto 37)))))))))))))))))))
theorem bk_X6_addRound_s_35 : ck_ fX6 none cX6_addRound 35 [.iload 6, .iload 7, .iload 4, .if_icmp .eq 49, .iload 6, .goto 50] 49 = true := qck_r (nn_ _) (by decide +kernel)
theorem bs_X6_addRound_s_35 {P : Zt → Option Zv → Prop} (K : Int → Zl → List Zv → Zt → Prop) : sx_ K P [.iload 6, .iload 7, .iload 4, .if_icmp .eq 49, .iload 6, .goto 50] 49 = x_iload 6 (x_iload 7 (x_iload 4 (x_if_icmp .eq 49 K (x_iload 6 (x_goto 50 K))))) := ((xe_iload 6).trans (congrArg (x_iload 6) ((xe_iload 7).trans (congrArg (x_iload 7) ((xe_iload 4).trans (congrArg (x_iload 4) ((xe_if_icmp .eq 49).trans (congrArg (x_if_icmp .eq 49 K) ((xe_iload 6).trans (congrArg (x_iload 6) (xe_goto 50)))))))))))
theorem bk_X6_addRound_s_49 : ck_ fX6 none cX6_addRound 49 [.iload 3, .iload 5] 52 = true := qck_r (nn_ _) (by decide +kernel)
theorem bs_X6_addRound_s_49 {P : Zt → Option Zv → Prop} (K : Int → Zl → List Zv → Zt → Prop) : sx_ K P [.iload 3, .iload 5] 52 = x_iload 3 (x_iload 5 (K 52)) := ((xe_iload 3).trans (congrArg (x_iload 3) ((xe_iload 5).trans (congrArg (x_iload 5) xe_nil))))
theorem bk_X6_addRound_s_55 : ck_ fX6 none cX6_addRound 55 [.iconst 1, .istore 8] 58 = true := qck_r (nn_ _) (by decide +kernel)
theorem bs_X6_addRound_s_55 {P : Zt → Option Zv → Prop} (K : Int → Zl → List Zv → Zt → Prop) : sx_ K P [.iconst 1, .istore 8] 58 = x_iconst 1 (x_istore 8 (K 58)) := ((xe_iconst 1).trans (congrArg (x_iconst 1) ((xe_istore 8).trans (congrArg (x_istore 8) xe_nil))))
theorem bk_X6_addRound_s_37 : ck_ fX6 none cX6_addRound 37 [.iload 7, .iload 4, .if_icmp .eq 49, .iload 6, .goto 50] 49 = true := qck_r (nn_ _) (by decide +kernel)
theorem bs_X6_addRound_s_37 {P : Zt → Option Zv → Prop} (K : Int → Zl → List Zv → Zt → Prop) : sx_ K P [.iload 7, .iload 4, .if_icmp .eq 49, .iload 6, .goto 50] 49 = x_iload 7 (x_iload 4 (x_if_icmp .eq 49 K (x_iload 6 (x_goto 50 K)))) := ((xe_iload 7).trans (congrArg (x_iload 7) ((xe_iload 4).trans (congrArg (x_iload 4) ((xe_if_icmp .eq 49).trans (congrArg (x_if_icmp .eq 49 K) ((xe_iload 6).trans (congrArg (x_iload 6) (xe_goto 50)))))))))
theorem bk_X6_addRound_s_50 : ck_ fX6 none cX6_addRound 50 [.iload 5] 52 = true := qck_r (nn_ _) (by decide +kernel)
theorem bs_X6_addRound_s_50 {P : Zt → Option Zv → Prop} (K : Int → Zl → List Zv → Zt → Prop) : sx_ K P [.iload 5] 52 = x_iload 5 (K 52) := ((xe_iload 5).trans (congrArg (x_iload 5) xe_nil))
theorem bk_X6_addRound_s_19 : ck_ fX6 none cX6_addRound 19 [.istore 7, .aload 0, .aload 1, .iload 2, .iload 7, .iload 4, .if_icmp .eq 35, .iload 3, .goto 37] 35 = true := qck_r (nn_ _) (by decide +kernel)
theorem bs_X6_addRound_s_19 {P : Zt → Option Zv → Prop} (K : Int → Zl → List Zv → Zt → Prop) : sx_ K P [.istore 7, .aload 0, .aload 1, .iload 2, .iload 7, .iload 4, .if_icmp .eq 35, .iload 3, .goto 37] 35 = x_istore 7 (x_aload 0 (x_aload 1 (x_iload 2 (x_iload 7 (x_iload 4 (x_if_icmp .eq 35 K (x_iload 3 (x_goto 37 K)))))))) := ((xe_istore 7).trans (congrArg (x_istore 7) ((xe_aload 0).trans (congrArg (x_aload 0) ((xe_aload 1).trans (congrArg (x_aload 1) ((xe_iload 2).trans (congrArg (x_iload 2) ((xe_iload 7).trans (congrArg (x_iload 7) ((xe_iload 4).trans (congrArg (x_iload 4) ((xe_if_icmp .eq 35).trans (congrArg (x_if_icmp .eq 35 K) ((xe_iload 3).trans (congrArg (x_iload 3) (xe_goto 37)))))))))))))))))
abbrev po_X6_addRound_s (T : Zt) (c : Int) (f : Int) (u q w d : Int) : Zt → Option Zv → Prop := fun T' r => r = none ∧ fr_ [(106, [4]), (523, []), (152, []), (102, []), (448, []), (449, [])] T T' ∧ (RK_ T' c f (T 100 c 5 + an_ (T 100 c 5) 1 - 1) q 13 d ∧ (∀ i j, i < f → T' 102 i j = T 102 i j) ∧ T 106 0 4 ≤ T' 106 0 4 ∧ (∀ i j, i < T 106 0 4 → T' 102 i j = T 102 i j) ∧ SQ8_ T T' ∧ AP9_ T T' c (rl9_ (T 100 c 5) (T 100 c 5 + an_ (T 100 c 5) 1 - 1) q w u d ((T 100 c 5 + an_ (T 100 c 5) 1 - 1) / 2 + 1).toNat []))
set_option maxHeartbeats 4000000 in
theorem ct_X6_addRound_s {T : Zt} {c : Int} {f : Int} {u q w d : Int} (hc : 0 ≤ c ∧ c ≤ 3) (he : 2 ≤ T 100 c 5) (hr : 0 ≤ q ∧ q < T 100 c 5 + an_ (T 100 c 5) 1 - 1) (hd : 0 ≤ d ∧ d ≤ 999) (hke : KEc_ T c) (hrb : RK_ T c f (T 100 c 5 + an_ (T 100 c 5) 1 - 1) q 0 d) (hw : w = 0 ∨ w = 1) (hro : T 106 0 4 + (T 100 c 5 + an_ (T 100 c 5) 1 - 1) / 2 + 1 - T 100 c 5 % 2 ≤ 400) : Ct_ yX6_addRound zX6_addRound T [vR 106 0, vR 100 c, vI u, vI q, vI w, vI d] (po_X6_addRound_s T c f u q w d) := by
  refine ct_of pn_6 rfl rfl (Nat.le_of_ble_eq_true rfl) (fun hT hav => ?_)
  have hr_u : -2147483648 ≤ u ∧ u ≤ 2147483647 := hav (vI u) (List.mem_cons_of_mem _ (List.mem_cons_of_mem _ List.mem_cons_self))
  have hr_q : -2147483648 ≤ q ∧ q ≤ 2147483647 := hav (vI q) (List.mem_cons_of_mem _ (List.mem_cons_of_mem _ (List.mem_cons_of_mem _ List.mem_cons_self)))
  have hr_w : -2147483648 ≤ w ∧ w ≤ 2147483647 := hav (vI w) (List.mem_cons_of_mem _ (List.mem_cons_of_mem _ (List.mem_cons_of_mem _ (List.mem_cons_of_mem _ List.mem_cons_self))))
  have hr_d : -2147483648 ≤ d ∧ d ≤ 2147483647 := hav (vI d) (List.mem_cons_of_mem _ (List.mem_cons_of_mem _ (List.mem_cons_of_mem _ (List.mem_cons_of_mem _ (List.mem_cons_of_mem _ List.mem_cons_self)))))
  have hz : zX6_addRound.2.2.2.1 = some .boolean → ∀ (T' : Zt) (x : Int), po_X6_addRound_s T c f u q w d T' (some (vI x)) → 0 ≤ x ∧ x ≤ 1 := fun h => by cases h
  have hb_matchCount : 0 ≤ T 106 0 4 ∧ T 106 0 4 ≤ 400 := bd_f hT 106 4 tl_6_4 0
  have hb5 : 0 ≤ T 100 c 5 ∧ T 100 c 5 ≤ 12 := bd_f hT 100 5 tl_0_5 c
  have hp1 := an_1b (T 100 c 5)
  have hpm := an9_m (x := T 100 c 5) (by omega)
  have hpq := an9_m (x := q) (by omega)
  have hp2 : T 100 c 5 = 12 → an_ (T 100 c 5) 1 = 0 := fun h => by rw [h]; decide
  show J_ zX6_addRound T (po_X6_addRound_s T c f u q w d) 18 204 0 [some (vR 106 0), some (vR 100 c), some (vI u), some (vI q), some (vI w), some (vI d), none, none, none, none, none, none] [] T
  have c_58 : ∀ (nn : Nat) (k : Int) (T1 : Zt), ((13 - k).toNat) ≤ nn → (fr_ [(106, [4]), (523, []), (152, []), (102, []), (448, []), (449, [])] T T1) → (RK_ T1 c f (T 100 c 5 + an_ (T 100 c 5) 1 - 1) q k d) → ((∀ i j, i < f → T1 102 i j = T 102 i j) ∧ T 106 0 4 ≤ T1 106 0 4) → (1 ≤ k ∧ k ≤ (T 100 c 5 + an_ (T 100 c 5) 1 - 1) / 2 + 1) → (∀ i j, i < T 106 0 4 → T1 102 i j = T 102 i j) → (SQ8_ T T1) → (AP9_ T T1 c (rl9_ (T 100 c 5) (T 100 c 5 + an_ (T 100 c 5) 1 - 1) q w u d k.toNat [])) → J_ zX6_addRound T (po_X6_addRound_s T c f u q w d) ((3 * ((T 100 c 5 + an_ (T 100 c 5) 1 - 1) / 2 + 1 - k)).toNat) ((34 * ((T 100 c 5 + an_ (T 100 c 5) 1 - 1) / 2 + 1 - k)).toNat) 58 [some (vR 106 0), some (vR 100 c), some (vI u), some (vI q), some (vI w), some (vI d), some (vI (T 100 c 5 + an_ (T 100 c 5) 1 - 1)), none, some (vI k), none, none, none] [] T1 := by
    intro nn
    induction nn using Nat.strongRecOn with
    | _ nn ih_58 =>
      intro k T1 hm_58 hf_58 hrb1 od1 i1 oe1 sk1 ap1
      replace hm_58 := fun (_ : Unit) => hm_58
      have lq := rl9_l (e := T 100 c 5) (L := T 100 c 5 + an_ (T 100 c 5) 1 - 1) (r := q) (u := w) (rd := u) (dt := d) (q := (T 100 c 5 % 2).toNat) (l := []) (by omega) (k - 1).toNat
      rw [show (k - 1).toNat + 1 = k.toNat by omega] at lq
      have lq2 : (rl9_ (T 100 c 5) (T 100 c 5 + an_ (T 100 c 5) 1 - 1) q w u d k.toNat []).length + (T 100 c 5 % 2).toNat ≤ k.toNat := by have z : ([] : List Fx9_).length = 0 := rfl; omega
      have lq3 := ap1.1
      have hpk := an9_m (x := k) (by omega)
      have c_111 : ∀ (v : Int), (2 * k ≤ T 100 c 5 + an_ (T 100 c 5) 1 - 1) → ((v = 1 ∧ k % 2 ≠ w) ∨ (v = 0 ∧ k % 2 = w)) → J_ zX6_addRound T (po_X6_addRound_s T c f u q w d) ((3 * ((T 100 c 5 + an_ (T 100 c 5) 1 - 1) / 2 + 1 - k)).toNat) ((34 * ((T 100 c 5 + an_ (T 100 c 5) 1 - 1) / 2 + 1 - k)).toNat) 111 [some (vR 106 0), some (vR 100 c), some (vI u), some (vI q), some (vI w), some (vI d), some (vI (T 100 c 5 + an_ (T 100 c 5) 1 - 1)), none, some (vI k), some (vI ((q + k) % (T 100 c 5 + an_ (T 100 c 5) 1 - 1))), some (vI (((q - k) + (T 100 c 5 + an_ (T 100 c 5) 1 - 1)) % (T 100 c 5 + an_ (T 100 c 5) 1 - 1))), none] [vI v] T1 := by
        intro v i2 i3
        have y1 := em_2 (x := q + k) (R := T 100 c 5 + an_ (T 100 c 5) 1 - 1) (by omega) (by omega)
        have y2 := em_2 (x := q - k + (T 100 c 5 + an_ (T 100 c 5) 1 - 1)) (R := T 100 c 5 + an_ (T 100 c 5) 1 - 1) (by omega) (by omega)
        refine j_blx (F := fX6) tb_X6 (nn_ _) bk_X6_addRound_s_111 bs_X6_addRound_s_111 hz (fun K hK => ?_)
        refine And.intro (fun c1 => ?_) (fun c1 => ?_)
        · refine hK 126 [some (vR 106 0), some (vR 100 c), some (vI u), some (vI q), some (vI w), some (vI d), some (vI (T 100 c 5 + an_ (T 100 c 5) 1 - 1)), none, some (vI k), some (vI ((q + k) % (T 100 c 5 + an_ (T 100 c 5) 1 - 1))), some (vI (((q - k) + (T 100 c 5 + an_ (T 100 c 5) 1 - 1)) % (T 100 c 5 + an_ (T 100 c 5) 1 - 1))), some (vI v)] [vI u, vR 100 c, vR 106 0] T1 ?_
          refine j_blx (F := fX6) tb_X6 (nn_ _) bk_X6_addRound_s_126 bs_X6_addRound_s_126 hz (fun K hK => ?_)
          refine And.intro (fun c2 => ?_) (fun c2 => ?_)
          · refine hK 138 _ [vI (((q - k) + (T 100 c 5 + an_ (T 100 c 5) 1 - 1)) % (T 100 c 5 + an_ (T 100 c 5) 1 - 1)), vI u, vR 100 c, vR 106 0] T1 ?_
            refine j_blx (F := fX6) tb_X6 (nn_ _) bk_X6_addRound_s_138 bs_X6_addRound_s_138 hz (fun K hK => ?_)
            refine hK 142 _ [vI d, vI ((q + k) % (T 100 c 5 + an_ (T 100 c 5) 1 - 1)), vI (((q - k) + (T 100 c 5 + an_ (T 100 c 5) 1 - 1)) % (T 100 c 5 + an_ (T 100 c 5) 1 - 1)), vI u, vR 100 c, vR 106 0] T1 ?_
            refine j_callV (y := yX6_addFixture) (Yc := zX6_addFixture) (rest := []) [vR 100 c, vI u, vI (((q - k) + (T 100 c 5 + an_ (T 100 c 5) 1 - 1)) % (T 100 c 5 + an_ (T 100 c 5) 1 - 1)), vI ((q + k) % (T 100 c 5 + an_ (T 100 c 5) 1 - 1)), vI d] (ct_X6_addFixture_s (T := T1) hc (by omega) (hrb1.2.2.2.2)) cl_X6_75 (qd_c (by decide +kernel)) (by decide) rfl (by decide +kernel) (Nat.le_of_ble_eq_true rfl) (by show 3 ≤ (3 * ((T 100 c 5 + an_ (T 100 c 5) 1 - 1) / 2 + 1 - k)).toNat; omega) (by show 34 ≤ (34 * ((T 100 c 5 + an_ (T 100 c 5) 1 - 1) / 2 + 1 - k)).toNat; omega) rfl ?_
            rintro U3 _ ⟨rfl, fU3, qU3⟩
            show J_ zX6_addRound T (po_X6_addRound_s T c f u q w d) (((3 * ((T 100 c 5 + an_ (T 100 c 5) 1 - 1) / 2 + 1 - k)).toNat) - 3) (((34 * ((T 100 c 5 + an_ (T 100 c 5) 1 - 1) / 2 + 1 - k)).toNat) - 34) 145 _ [] U3
            refine j_blx (F := fX6) tb_X6 (nn_ _) bk_X6_addRound_s_145 bs_X6_addRound_s_145 hz (fun K hK => ?_)
            refine rg_i (by omega) ?_
            refine hK 58 [some (vR 106 0), some (vR 100 c), some (vI u), some (vI q), some (vI w), some (vI d), some (vI (T 100 c 5 + an_ (T 100 c 5) 1 - 1)), none, some (vI (k + 1)), some (vI ((q + k) % (T 100 c 5 + an_ (T 100 c 5) 1 - 1))), some (vI (((q - k) + (T 100 c 5 + an_ (T 100 c 5) 1 - 1)) % (T 100 c 5 + an_ (T 100 c 5) 1 - 1))), some (vI v)] [] U3 ?_
            refine j_drop [some (vR 106 0), some (vR 100 c), some (vI u), some (vI q), some (vI w), some (vI d), some (vI (T 100 c 5 + an_ (T 100 c 5) 1 - 1)), none, some (vI (k + 1)), none, none, none] (fun k v hk => ?_) rfl ?_
            · match k, hk with
              | 0, hk => exact hk
              | 1, hk => exact hk
              | 2, hk => exact hk
              | 3, hk => exact hk
              | 4, hk => exact hk
              | 5, hk => exact hk
              | 6, hk => exact hk
              | 7, hk => cases hk
              | 8, hk => exact hk
              | 9, hk => cases hk
              | 10, hk => cases hk
              | 11, hk => cases hk
              | k + 12, hk => cases hk
            refine j_mono (bc' := ((3 * ((T 100 c 5 + an_ (T 100 c 5) 1 - 1) / 2 + 1 - (k + 1))).toNat)) (bs' := ((34 * ((T 100 c 5 + an_ (T 100 c 5) 1 - 1) / 2 + 1 - (k + 1))).toNat)) (by omega) (by omega) ?_
            refine ih_58 _ ?_ (k + 1) U3 (Nat.le_refl _) ?_ ?_ ?_ ?_ ?_ ?_ ?_
            · have hm_58 := hm_58 (); omega
            · exact fr_t (fr_t (fr_0 _ _) (fr_s hf_58 rfl)) (fr_s fU3 rfl)
            · exact (rb_add hrb1 (KEc_f hke hf_58 ⟨rfl, fun _ => rfl, fun _ => rfl⟩) (by omega) (lv_b hr (by omega)) fU3 (qU3.imp id And.left)).1
            · have y9 := rb_add hrb1 (KEc_f hke hf_58 ⟨rfl, fun _ => rfl, fun _ => rfl⟩) (by omega) (lv_b hr (by omega)) fU3 (qU3.imp id And.left)
              exact ⟨fun i j hi => (y9.2.1 i j hi).trans (od1.1 i j hi), by have := y9.2.2; have := od1.2; omega⟩
            · omega
            · exact fun i j hi => (fx9_o (fw9_ qU3) i j (by have := od1.2; omega)).trans (oe1 i j hi)
            · exact sq8_f sk1 od1.2 qU3
            · have eh := hm9_b (L := (T 100 c 5 + an_ (T 100 c 5) 1 - 1)) (r := q) (u := w) (i := k) (by rw [pq9_i (by omega)]; omega)
              rw [pa9_i (by omega), pb9_i (by omega)] at eh
              rw [show (k + 1).toNat = k.toNat + 1 by omega]
              show AP9_ T U3 c (fa9_ (T 100 c 5) u d (hm9_ (T 100 c 5 + an_ (T 100 c 5) 1 - 1) q w (k.toNat : Int)) (aw9_ (T 100 c 5 + an_ (T 100 c 5) 1 - 1) q w (k.toNat : Int)) (rl9_ (T 100 c 5) (T 100 c 5 + an_ (T 100 c 5) 1 - 1) q w u d k.toNat []))
              rw [show ((k.toNat : Nat) : Int) = k by omega, eh.1, eh.2]
              exact ap9_f (T1 := T1) ap1 (by omega) (by omega) (hf_58 100 c 5 rfl) (fun j => hf_58 403 c j rfl) (fw9_ qU3)
          · exfalso; omega
        · refine hK 128 _ [vI ((q + k) % (T 100 c 5 + an_ (T 100 c 5) 1 - 1)), vI u, vR 100 c, vR 106 0] T1 ?_
          refine j_blx (F := fX6) tb_X6 (nn_ _) bk_X6_addRound_s_128 bs_X6_addRound_s_128 hz (fun K hK => ?_)
          refine And.intro (fun c5 => ?_) (fun c5 => ?_)
          · exfalso; omega
          · refine hK 140 _ [vI (((q - k) + (T 100 c 5 + an_ (T 100 c 5) 1 - 1)) % (T 100 c 5 + an_ (T 100 c 5) 1 - 1)), vI ((q + k) % (T 100 c 5 + an_ (T 100 c 5) 1 - 1)), vI u, vR 100 c, vR 106 0] T1 ?_
            refine j_blx (F := fX6) tb_X6 (nn_ _) bk_X6_addRound_s_140 bs_X6_addRound_s_140 hz (fun K hK => ?_)
            refine hK 142 _ [vI d, vI (((q - k) + (T 100 c 5 + an_ (T 100 c 5) 1 - 1)) % (T 100 c 5 + an_ (T 100 c 5) 1 - 1)), vI ((q + k) % (T 100 c 5 + an_ (T 100 c 5) 1 - 1)), vI u, vR 100 c, vR 106 0] T1 ?_
            refine j_callV (y := yX6_addFixture) (Yc := zX6_addFixture) (rest := []) [vR 100 c, vI u, vI ((q + k) % (T 100 c 5 + an_ (T 100 c 5) 1 - 1)), vI (((q - k) + (T 100 c 5 + an_ (T 100 c 5) 1 - 1)) % (T 100 c 5 + an_ (T 100 c 5) 1 - 1)), vI d] (ct_X6_addFixture_s (T := T1) hc (by omega) (hrb1.2.2.2.2)) cl_X6_75 (qd_c (by decide +kernel)) (by decide) rfl (by decide +kernel) (Nat.le_of_ble_eq_true rfl) (by show 3 ≤ (3 * ((T 100 c 5 + an_ (T 100 c 5) 1 - 1) / 2 + 1 - k)).toNat; omega) (by show 34 ≤ (34 * ((T 100 c 5 + an_ (T 100 c 5) 1 - 1) / 2 + 1 - k)).toNat; omega) rfl ?_
            rintro U6 _ ⟨rfl, fU6, qU6⟩
            show J_ zX6_addRound T (po_X6_addRound_s T c f u q w d) (((3 * ((T 100 c 5 + an_ (T 100 c 5) 1 - 1) / 2 + 1 - k)).toNat) - 3) (((34 * ((T 100 c 5 + an_ (T 100 c 5) 1 - 1) / 2 + 1 - k)).toNat) - 34) 145 _ [] U6
            refine j_blx (F := fX6) tb_X6 (nn_ _) bk_X6_addRound_s_145 bs_X6_addRound_s_145 hz (fun K hK => ?_)
            refine rg_i (by omega) ?_
            refine hK 58 [some (vR 106 0), some (vR 100 c), some (vI u), some (vI q), some (vI w), some (vI d), some (vI (T 100 c 5 + an_ (T 100 c 5) 1 - 1)), none, some (vI (k + 1)), some (vI ((q + k) % (T 100 c 5 + an_ (T 100 c 5) 1 - 1))), some (vI (((q - k) + (T 100 c 5 + an_ (T 100 c 5) 1 - 1)) % (T 100 c 5 + an_ (T 100 c 5) 1 - 1))), some (vI v)] [] U6 ?_
            refine j_drop [some (vR 106 0), some (vR 100 c), some (vI u), some (vI q), some (vI w), some (vI d), some (vI (T 100 c 5 + an_ (T 100 c 5) 1 - 1)), none, some (vI (k + 1)), none, none, none] (fun k v hk => ?_) rfl ?_
            · match k, hk with
              | 0, hk => exact hk
              | 1, hk => exact hk
              | 2, hk => exact hk
              | 3, hk => exact hk
              | 4, hk => exact hk
              | 5, hk => exact hk
              | 6, hk => exact hk
              | 7, hk => cases hk
              | 8, hk => exact hk
              | 9, hk => cases hk
              | 10, hk => cases hk
              | 11, hk => cases hk
              | k + 12, hk => cases hk
            refine j_mono (bc' := ((3 * ((T 100 c 5 + an_ (T 100 c 5) 1 - 1) / 2 + 1 - (k + 1))).toNat)) (bs' := ((34 * ((T 100 c 5 + an_ (T 100 c 5) 1 - 1) / 2 + 1 - (k + 1))).toNat)) (by omega) (by omega) ?_
            refine ih_58 _ ?_ (k + 1) U6 (Nat.le_refl _) ?_ ?_ ?_ ?_ ?_ ?_ ?_
            · have hm_58 := hm_58 (); omega
            · exact fr_t (fr_t (fr_0 _ _) (fr_s hf_58 rfl)) (fr_s fU6 rfl)
            · exact (rb_add hrb1 (KEc_f hke hf_58 ⟨rfl, fun _ => rfl, fun _ => rfl⟩) (by omega) (lv_a hr (by omega)) fU6 (qU6.imp id And.left)).1
            · have y9 := rb_add hrb1 (KEc_f hke hf_58 ⟨rfl, fun _ => rfl, fun _ => rfl⟩) (by omega) (lv_a hr (by omega)) fU6 (qU6.imp id And.left)
              exact ⟨fun i j hi => (y9.2.1 i j hi).trans (od1.1 i j hi), by have := y9.2.2; have := od1.2; omega⟩
            · omega
            · exact fun i j hi => (fx9_o (fw9_ qU6) i j (by have := od1.2; omega)).trans (oe1 i j hi)
            · exact sq8_f sk1 od1.2 qU6
            · have eh := hm9_a (L := (T 100 c 5 + an_ (T 100 c 5) 1 - 1)) (r := q) (u := w) (i := k) (by rw [pq9_i (by omega)]; omega)
              rw [pa9_i (by omega), pb9_i (by omega)] at eh
              rw [show (k + 1).toNat = k.toNat + 1 by omega]
              show AP9_ T U6 c (fa9_ (T 100 c 5) u d (hm9_ (T 100 c 5 + an_ (T 100 c 5) 1 - 1) q w (k.toNat : Int)) (aw9_ (T 100 c 5 + an_ (T 100 c 5) 1 - 1) q w (k.toNat : Int)) (rl9_ (T 100 c 5) (T 100 c 5 + an_ (T 100 c 5) 1 - 1) q w u d k.toNat []))
              rw [show ((k.toNat : Nat) : Int) = k by omega, eh.1, eh.2]
              exact ap9_f (T1 := T1) ap1 (by omega) (by omega) (hf_58 100 c 5 rfl) (fun j => hf_58 403 c j rfl) (fw9_ qU6)
      refine j_blx (F := fX6) tb_X6 (nn_ _) bk_X6_addRound_s_58 bs_X6_addRound_s_58 hz (fun K hK => ?_)
      refine dv_i (by omega) ?_
      refine And.intro (fun c8 => ?_) (fun c8 => ?_)
      · refine hK 151 _ [] T1 ?_
        refine j_blx (F := fX6) tb_X6 (nn_ _) bk_X6_addRound_s_151 bs_X6_addRound_s_151 hz (fun K hK => ?_)
        refine (show po_X6_addRound_s T c f u q w d T1 (none) from ?_)
        have ek : k = (T 100 c 5 + an_ (T 100 c 5) 1 - 1) / 2 + 1 := by omega
        rw [ek] at ap1
        exact ⟨rfl, hf_58, rb_mono hrb1 (by omega), od1.1, od1.2, oe1, sk1, ap1⟩
      · refine rg_i (by omega) ?_
        refine dv_i (by omega) ?_
        refine rg_i (by omega) ?_
        refine rg_i (by omega) ?_
        refine dv_i (by omega) ?_
        intro w9 w9b
        refine And.intro (fun c10 => ?_) (fun c10 => ?_)
        · refine hK 100 [some (vR 106 0), some (vR 100 c), some (vI u), some (vI q), some (vI w), some (vI d), some (vI (T 100 c 5 + an_ (T 100 c 5) 1 - 1)), none, some (vI k), some (vI ((q + k) % (T 100 c 5 + an_ (T 100 c 5) 1 - 1))), some (vI (((q - k) + (T 100 c 5 + an_ (T 100 c 5) 1 - 1)) % (T 100 c 5 + an_ (T 100 c 5) 1 - 1))), none] [] T1 ?_
          refine j_blx (F := fX6) tb_X6 (nn_ _) bk_X6_addRound_s_100 bs_X6_addRound_s_100 hz (fun K hK => ?_)
          refine And.intro (fun c11 => ?_) (fun c11 => ?_)
          · refine hK 110 _ [] T1 ?_
            refine j_blx (F := fX6) tb_X6 (nn_ _) bk_X6_addRound_s_110 bs_X6_addRound_s_110 hz (fun K hK => ?_)
            refine hK 111 _ [vI 0] T1 ?_
            refine c_111 0 ?_ ?_
            · omega
            · omega
          · refine hK 111 _ [vI 1] T1 ?_
            refine c_111 1 ?_ ?_
            · omega
            · omega
        · refine hK 101 _ [vI 1] T1 ?_
          refine j_blx (F := fX6) tb_X6 (nn_ _) bk_X6_addRound_s_101 bs_X6_addRound_s_101 hz (fun K hK => ?_)
          refine And.intro (fun c12 => ?_) (fun c12 => ?_)
          · refine hK 110 _ [] T1 ?_
            refine j_blx (F := fX6) tb_X6 (nn_ _) bk_X6_addRound_s_110 bs_X6_addRound_s_110 hz (fun K hK => ?_)
            refine hK 111 _ [vI 0] T1 ?_
            refine c_111 0 ?_ ?_
            · omega
            · omega
          · refine hK 111 _ [vI 1] T1 ?_
            refine c_111 1 ?_ ?_
            · omega
            · omega
  refine j_blx (F := fX6) tb_X6 (nn_ _) bk_X6_addRound_s_0 bs_X6_addRound_s_0 hz (fun K hK => ?_)
  refine hK 1 _ [vR 100 c] T ?_
  refine j_callV (y := yX0_placeCount) (Yc := zX0_placeCount) (rest := []) [] (ct_X0_placeCount (T := T)) cl_X6_63 (qd_c (by decide +kernel)) (nn_ _) rfl (rf_of rfl) (Nat.le_of_ble_eq_true rfl) (Nat.le_of_ble_eq_true rfl) (Nat.le_of_ble_eq_true rfl) rfl ?_
  rintro _ _ ⟨rfl, rfl⟩
  show J_ zX6_addRound T (po_X6_addRound_s T c f u q w d) 18 204 4 _ [vI (T 100 c 5 + an_ (T 100 c 5) 1)] T
  refine j_blx (F := fX6) tb_X6 (nn_ _) bk_X6_addRound_s_4 bs_X6_addRound_s_4 hz (fun K hK => ?_)
  refine rg_i (by omega) ?_
  intro w13 w13b
  refine And.intro (fun c14 => ?_) (fun c14 => ?_)
  · refine hK 18 [some (vR 106 0), some (vR 100 c), some (vI u), some (vI q), some (vI w), some (vI d), some (vI ((T 100 c 5 + an_ (T 100 c 5) 1) - 1)), none, none, none, none, none] [] T ?_
    refine j_blx (F := fX6) tb_X6 (nn_ _) bk_X6_addRound_s_18 bs_X6_addRound_s_18 hz (fun K hK => ?_)
    refine And.intro (fun c15 => ?_) (fun c15 => ?_)
    · refine hK 35 [some (vR 106 0), some (vR 100 c), some (vI u), some (vI q), some (vI w), some (vI d), some (vI ((T 100 c 5 + an_ (T 100 c 5) 1) - 1)), some (vI 0), none, none, none, none] [vI u, vR 100 c, vR 106 0] T ?_
      refine j_blx (F := fX6) tb_X6 (nn_ _) bk_X6_addRound_s_35 bs_X6_addRound_s_35 hz (fun K hK => ?_)
      refine And.intro (fun c16 => ?_) (fun c16 => ?_)
      · refine hK 49 _ [vI ((T 100 c 5 + an_ (T 100 c 5) 1) - 1), vI u, vR 100 c, vR 106 0] T ?_
        refine j_blx (F := fX6) tb_X6 (nn_ _) bk_X6_addRound_s_49 bs_X6_addRound_s_49 hz (fun K hK => ?_)
        refine hK 52 _ [vI d, vI q, vI ((T 100 c 5 + an_ (T 100 c 5) 1) - 1), vI u, vR 100 c, vR 106 0] T ?_
        refine j_callV (y := yX6_addFixture) (Yc := zX6_addFixture) (rest := []) [vR 100 c, vI u, vI ((T 100 c 5 + an_ (T 100 c 5) 1) - 1), vI q, vI d] (ct_X6_addFixture_s (T := T) hc (by omega) (hrb.2.2.2.2)) cl_X6_75 (qd_c (by decide +kernel)) (nn_ _) rfl (rf_of rfl) (Nat.le_of_ble_eq_true rfl) (Nat.le_of_ble_eq_true rfl) (Nat.le_of_ble_eq_true rfl) rfl ?_
        rintro U17 _ ⟨rfl, fU17, qU17⟩
        show J_ zX6_addRound T (po_X6_addRound_s T c f u q w d) 15 170 55 _ [] U17
        refine j_blx (F := fX6) tb_X6 (nn_ _) bk_X6_addRound_s_55 bs_X6_addRound_s_55 hz (fun K hK => ?_)
        refine hK 58 [some (vR 106 0), some (vR 100 c), some (vI u), some (vI q), some (vI w), some (vI d), some (vI ((T 100 c 5 + an_ (T 100 c 5) 1) - 1)), some (vI 0), some (vI 1), none, none, none] [] U17 ?_
        refine j_drop [some (vR 106 0), some (vR 100 c), some (vI u), some (vI q), some (vI w), some (vI d), some (vI ((T 100 c 5 + an_ (T 100 c 5) 1) - 1)), none, some (vI 1), none, none, none] (fun k v hk => ?_) rfl ?_
        · match k, hk with
          | 0, hk => exact hk
          | 1, hk => exact hk
          | 2, hk => exact hk
          | 3, hk => exact hk
          | 4, hk => exact hk
          | 5, hk => exact hk
          | 6, hk => exact hk
          | 7, hk => cases hk
          | 8, hk => exact hk
          | 9, hk => cases hk
          | 10, hk => cases hk
          | 11, hk => cases hk
          | k + 12, hk => cases hk
        refine j_mono (bc' := ((3 * ((T 100 c 5 + an_ (T 100 c 5) 1 - 1) / 2 + 1 - 1)).toNat)) (bs' := ((34 * ((T 100 c 5 + an_ (T 100 c 5) 1 - 1) / 2 + 1 - 1)).toNat)) (by omega) (by omega) ?_
        refine c_58 _ 1 U17 (Nat.le_refl _) ?_ ?_ ?_ ?_ ?_ ?_ ?_
        · exact fr_t (fr_0 _ _) (fr_s fU17 rfl)
        · exact (rb_add hrb hke (by omega) (lv_R _ _) fU17 (qU17.imp id And.left)).1
        · exact (rb_add hrb hke (by omega) (lv_R _ _) fU17 (qU17.imp id And.left)).2
        · omega
        · exact fun i j hi => fx9_o (fw9_ qU17) i j hi
        · exact sq8_f sq8_r (Int.le_refl _) qU17
        · have eh := hm9_a (L := (T 100 c 5 + an_ (T 100 c 5) 1 - 1)) (r := q) (u := w) (i := 0) (by rw [pq9_0]; omega)
          rw [pa9_0, pb9_0] at eh
          show AP9_ T U17 c (fa9_ (T 100 c 5) u d (hm9_ (T 100 c 5 + an_ (T 100 c 5) 1 - 1) q w 0) (aw9_ (T 100 c 5 + an_ (T 100 c 5) 1 - 1) q w 0) [])
          rw [eh.1, eh.2]
          exact ap9_f (T1 := T) (ap9_0 rfl) (by omega) (by omega) rfl (fun j => rfl) (fw9_ qU17)
      · exfalso; omega
    · refine hK 37 _ [vI q, vI u, vR 100 c, vR 106 0] T ?_
      refine j_blx (F := fX6) tb_X6 (nn_ _) bk_X6_addRound_s_37 bs_X6_addRound_s_37 hz (fun K hK => ?_)
      refine And.intro (fun c19 => ?_) (fun c19 => ?_)
      · exfalso; omega
      · refine hK 50 _ [vI ((T 100 c 5 + an_ (T 100 c 5) 1) - 1), vI q, vI u, vR 100 c, vR 106 0] T ?_
        refine j_blx (F := fX6) tb_X6 (nn_ _) bk_X6_addRound_s_50 bs_X6_addRound_s_50 hz (fun K hK => ?_)
        refine hK 52 _ [vI d, vI ((T 100 c 5 + an_ (T 100 c 5) 1) - 1), vI q, vI u, vR 100 c, vR 106 0] T ?_
        refine j_callV (y := yX6_addFixture) (Yc := zX6_addFixture) (rest := []) [vR 100 c, vI u, vI q, vI ((T 100 c 5 + an_ (T 100 c 5) 1) - 1), vI d] (ct_X6_addFixture_s (T := T) hc (by omega) (hrb.2.2.2.2)) cl_X6_75 (qd_c (by decide +kernel)) (nn_ _) rfl (rf_of rfl) (Nat.le_of_ble_eq_true rfl) (Nat.le_of_ble_eq_true rfl) (Nat.le_of_ble_eq_true rfl) rfl ?_
        rintro U20 _ ⟨rfl, fU20, qU20⟩
        show J_ zX6_addRound T (po_X6_addRound_s T c f u q w d) 15 170 55 _ [] U20
        refine j_blx (F := fX6) tb_X6 (nn_ _) bk_X6_addRound_s_55 bs_X6_addRound_s_55 hz (fun K hK => ?_)
        refine hK 58 [some (vR 106 0), some (vR 100 c), some (vI u), some (vI q), some (vI w), some (vI d), some (vI ((T 100 c 5 + an_ (T 100 c 5) 1) - 1)), some (vI 0), some (vI 1), none, none, none] [] U20 ?_
        refine j_drop [some (vR 106 0), some (vR 100 c), some (vI u), some (vI q), some (vI w), some (vI d), some (vI ((T 100 c 5 + an_ (T 100 c 5) 1) - 1)), none, some (vI 1), none, none, none] (fun k v hk => ?_) rfl ?_
        · match k, hk with
          | 0, hk => exact hk
          | 1, hk => exact hk
          | 2, hk => exact hk
          | 3, hk => exact hk
          | 4, hk => exact hk
          | 5, hk => exact hk
          | 6, hk => exact hk
          | 7, hk => cases hk
          | 8, hk => exact hk
          | 9, hk => cases hk
          | 10, hk => cases hk
          | 11, hk => cases hk
          | k + 12, hk => cases hk
        refine j_mono (bc' := ((3 * ((T 100 c 5 + an_ (T 100 c 5) 1 - 1) / 2 + 1 - 1)).toNat)) (bs' := ((34 * ((T 100 c 5 + an_ (T 100 c 5) 1 - 1) / 2 + 1 - 1)).toNat)) (by omega) (by omega) ?_
        refine c_58 _ 1 U20 (Nat.le_refl _) ?_ ?_ ?_ ?_ ?_ ?_ ?_
        · exact fr_t (fr_0 _ _) (fr_s fU20 rfl)
        · exact (rb_add hrb hke (by omega) (lv_r hr) fU20 (qU20.imp id And.left)).1
        · exact (rb_add hrb hke (by omega) (lv_r hr) fU20 (qU20.imp id And.left)).2
        · omega
        · exact fun i j hi => fx9_o (fw9_ qU20) i j hi
        · exact sq8_f sq8_r (Int.le_refl _) qU20
        · have eh := hm9_b (L := (T 100 c 5 + an_ (T 100 c 5) 1 - 1)) (r := q) (u := w) (i := 0) (by rw [pq9_0]; omega)
          rw [pa9_0, pb9_0] at eh
          show AP9_ T U20 c (fa9_ (T 100 c 5) u d (hm9_ (T 100 c 5 + an_ (T 100 c 5) 1 - 1) q w 0) (aw9_ (T 100 c 5 + an_ (T 100 c 5) 1 - 1) q w 0) [])
          rw [eh.1, eh.2]
          exact ap9_f (T1 := T) (ap9_0 rfl) (by omega) (by omega) rfl (fun j => rfl) (fw9_ qU20)
  · refine hK 19 _ [vI 1] T ?_
    refine j_blx (F := fX6) tb_X6 (nn_ _) bk_X6_addRound_s_19 bs_X6_addRound_s_19 hz (fun K hK => ?_)
    refine And.intro (fun c22 => ?_) (fun c22 => ?_)
    · refine hK 35 [some (vR 106 0), some (vR 100 c), some (vI u), some (vI q), some (vI w), some (vI d), some (vI ((T 100 c 5 + an_ (T 100 c 5) 1) - 1)), some (vI 1), none, none, none, none] [vI u, vR 100 c, vR 106 0] T ?_
      refine j_blx (F := fX6) tb_X6 (nn_ _) bk_X6_addRound_s_35 bs_X6_addRound_s_35 hz (fun K hK => ?_)
      refine And.intro (fun c23 => ?_) (fun c23 => ?_)
      · refine hK 49 _ [vI ((T 100 c 5 + an_ (T 100 c 5) 1) - 1), vI u, vR 100 c, vR 106 0] T ?_
        refine j_blx (F := fX6) tb_X6 (nn_ _) bk_X6_addRound_s_49 bs_X6_addRound_s_49 hz (fun K hK => ?_)
        refine hK 52 _ [vI d, vI q, vI ((T 100 c 5 + an_ (T 100 c 5) 1) - 1), vI u, vR 100 c, vR 106 0] T ?_
        refine j_callV (y := yX6_addFixture) (Yc := zX6_addFixture) (rest := []) [vR 100 c, vI u, vI ((T 100 c 5 + an_ (T 100 c 5) 1) - 1), vI q, vI d] (ct_X6_addFixture_s (T := T) hc (by omega) (hrb.2.2.2.2)) cl_X6_75 (qd_c (by decide +kernel)) (nn_ _) rfl (rf_of rfl) (Nat.le_of_ble_eq_true rfl) (Nat.le_of_ble_eq_true rfl) (Nat.le_of_ble_eq_true rfl) rfl ?_
        rintro U24 _ ⟨rfl, fU24, qU24⟩
        show J_ zX6_addRound T (po_X6_addRound_s T c f u q w d) 15 170 55 _ [] U24
        refine j_blx (F := fX6) tb_X6 (nn_ _) bk_X6_addRound_s_55 bs_X6_addRound_s_55 hz (fun K hK => ?_)
        refine hK 58 [some (vR 106 0), some (vR 100 c), some (vI u), some (vI q), some (vI w), some (vI d), some (vI ((T 100 c 5 + an_ (T 100 c 5) 1) - 1)), some (vI 1), some (vI 1), none, none, none] [] U24 ?_
        refine j_drop [some (vR 106 0), some (vR 100 c), some (vI u), some (vI q), some (vI w), some (vI d), some (vI ((T 100 c 5 + an_ (T 100 c 5) 1) - 1)), none, some (vI 1), none, none, none] (fun k v hk => ?_) rfl ?_
        · match k, hk with
          | 0, hk => exact hk
          | 1, hk => exact hk
          | 2, hk => exact hk
          | 3, hk => exact hk
          | 4, hk => exact hk
          | 5, hk => exact hk
          | 6, hk => exact hk
          | 7, hk => cases hk
          | 8, hk => exact hk
          | 9, hk => cases hk
          | 10, hk => cases hk
          | 11, hk => cases hk
          | k + 12, hk => cases hk
        refine j_mono (bc' := ((3 * ((T 100 c 5 + an_ (T 100 c 5) 1 - 1) / 2 + 1 - 1)).toNat)) (bs' := ((34 * ((T 100 c 5 + an_ (T 100 c 5) 1 - 1) / 2 + 1 - 1)).toNat)) (by omega) (by omega) ?_
        refine c_58 _ 1 U24 (Nat.le_refl _) ?_ ?_ ?_ ?_ ?_ ?_ ?_
        · exact fr_t (fr_0 _ _) (fr_s fU24 rfl)
        · exact (rb_add hrb hke (by omega) (lv_R _ _) fU24 (qU24.imp id And.left)).1
        · exact (rb_add hrb hke (by omega) (lv_R _ _) fU24 (qU24.imp id And.left)).2
        · omega
        · exact fun i j hi => fx9_o (fw9_ qU24) i j hi
        · exact sq8_f sq8_r (Int.le_refl _) qU24
        · have eh := hm9_a (L := (T 100 c 5 + an_ (T 100 c 5) 1 - 1)) (r := q) (u := w) (i := 0) (by rw [pq9_0]; omega)
          rw [pa9_0, pb9_0] at eh
          show AP9_ T U24 c (fa9_ (T 100 c 5) u d (hm9_ (T 100 c 5 + an_ (T 100 c 5) 1 - 1) q w 0) (aw9_ (T 100 c 5 + an_ (T 100 c 5) 1 - 1) q w 0) [])
          rw [eh.1, eh.2]
          exact ap9_f (T1 := T) (ap9_0 rfl) (by omega) (by omega) rfl (fun j => rfl) (fw9_ qU24)
      · exfalso; omega
    · refine hK 37 _ [vI q, vI u, vR 100 c, vR 106 0] T ?_
      refine j_blx (F := fX6) tb_X6 (nn_ _) bk_X6_addRound_s_37 bs_X6_addRound_s_37 hz (fun K hK => ?_)
      refine And.intro (fun c26 => ?_) (fun c26 => ?_)
      · exfalso; omega
      · refine hK 50 _ [vI ((T 100 c 5 + an_ (T 100 c 5) 1) - 1), vI q, vI u, vR 100 c, vR 106 0] T ?_
        refine j_blx (F := fX6) tb_X6 (nn_ _) bk_X6_addRound_s_50 bs_X6_addRound_s_50 hz (fun K hK => ?_)
        refine hK 52 _ [vI d, vI ((T 100 c 5 + an_ (T 100 c 5) 1) - 1), vI q, vI u, vR 100 c, vR 106 0] T ?_
        refine j_callV (y := yX6_addFixture) (Yc := zX6_addFixture) (rest := []) [vR 100 c, vI u, vI q, vI ((T 100 c 5 + an_ (T 100 c 5) 1) - 1), vI d] (ct_X6_addFixture_s (T := T) hc (by omega) (hrb.2.2.2.2)) cl_X6_75 (qd_c (by decide +kernel)) (nn_ _) rfl (rf_of rfl) (Nat.le_of_ble_eq_true rfl) (Nat.le_of_ble_eq_true rfl) (Nat.le_of_ble_eq_true rfl) rfl ?_
        rintro U27 _ ⟨rfl, fU27, qU27⟩
        show J_ zX6_addRound T (po_X6_addRound_s T c f u q w d) 15 170 55 _ [] U27
        refine j_blx (F := fX6) tb_X6 (nn_ _) bk_X6_addRound_s_55 bs_X6_addRound_s_55 hz (fun K hK => ?_)
        refine hK 58 [some (vR 106 0), some (vR 100 c), some (vI u), some (vI q), some (vI w), some (vI d), some (vI ((T 100 c 5 + an_ (T 100 c 5) 1) - 1)), some (vI 1), some (vI 1), none, none, none] [] U27 ?_
        refine j_drop [some (vR 106 0), some (vR 100 c), some (vI u), some (vI q), some (vI w), some (vI d), some (vI ((T 100 c 5 + an_ (T 100 c 5) 1) - 1)), none, some (vI 1), none, none, none] (fun k v hk => ?_) rfl ?_
        · match k, hk with
          | 0, hk => exact hk
          | 1, hk => exact hk
          | 2, hk => exact hk
          | 3, hk => exact hk
          | 4, hk => exact hk
          | 5, hk => exact hk
          | 6, hk => exact hk
          | 7, hk => cases hk
          | 8, hk => exact hk
          | 9, hk => cases hk
          | 10, hk => cases hk
          | 11, hk => cases hk
          | k + 12, hk => cases hk
        refine j_mono (bc' := ((3 * ((T 100 c 5 + an_ (T 100 c 5) 1 - 1) / 2 + 1 - 1)).toNat)) (bs' := ((34 * ((T 100 c 5 + an_ (T 100 c 5) 1 - 1) / 2 + 1 - 1)).toNat)) (by omega) (by omega) ?_
        refine c_58 _ 1 U27 (Nat.le_refl _) ?_ ?_ ?_ ?_ ?_ ?_ ?_
        · exact fr_t (fr_0 _ _) (fr_s fU27 rfl)
        · exact (rb_add hrb hke (by omega) (lv_r hr) fU27 (qU27.imp id And.left)).1
        · exact (rb_add hrb hke (by omega) (lv_r hr) fU27 (qU27.imp id And.left)).2
        · omega
        · exact fun i j hi => fx9_o (fw9_ qU27) i j hi
        · exact sq8_f sq8_r (Int.le_refl _) qU27
        · have eh := hm9_b (L := (T 100 c 5 + an_ (T 100 c 5) 1 - 1)) (r := q) (u := w) (i := 0) (by rw [pq9_0]; omega)
          rw [pa9_0, pb9_0] at eh
          show AP9_ T U27 c (fa9_ (T 100 c 5) u d (hm9_ (T 100 c 5 + an_ (T 100 c 5) 1 - 1) q w 0) (aw9_ (T 100 c 5 + an_ (T 100 c 5) 1 - 1) q w 0) [])
          rw [eh.1, eh.2]
          exact ap9_f (T1 := T) (ap9_0 rfl) (by omega) (by omega) rfl (fun j => rfl) (fw9_ qU27)
