theorem bk_X6_schedule_s_38 : ck_ fX6 none cX6_schedule 38 [.iload 5, .iload 3, .if_icmp .ge 93, .iload 4, .iload 3, .imul, .iload 5, .iadd, .istore 6, .aload 0, .aload 1, .iload 6, .iload 5, .iload 4, .iconst 1, .iand, .iconst 1, .if_icmp .ne 71, .iconst 1, .goto 72] 71 = true := qck_r (nn_ _) (by decide +kernel)
theorem bs_X6_schedule_s_38 {P : Zt → Option Zv → Prop} (K : Int → Zl → List Zv → Zt → Prop) : sx_ K P [.iload 5, .iload 3, .if_icmp .ge 93, .iload 4, .iload 3, .imul, .iload 5, .iadd, .istore 6, .aload 0, .aload 1, .iload 6, .iload 5, .iload 4, .iconst 1, .iand, .iconst 1, .if_icmp .ne 71, .iconst 1, .goto 72] 71 = x_iload 5 (x_iload 3 (x_if_icmp .ge 93 K (x_iload 4 (x_iload 3 (x_imul (x_iload 5 (x_iadd (x_istore 6 (x_aload 0 (x_aload 1 (x_iload 6 (x_iload 5 (x_iload 4 (x_iconst 1 (x_iand (x_iconst 1 (x_if_icmp .ne 71 K (x_iconst 1 (x_goto 72 K))))))))))))))))))) := ((xe_iload 5).trans (congrArg (x_iload 5) ((xe_iload 3).trans (congrArg (x_iload 3) ((xe_if_icmp .ge 93).trans (congrArg (x_if_icmp .ge 93 K) ((xe_iload 4).trans (congrArg (x_iload 4) ((xe_iload 3).trans (congrArg (x_iload 3) ((xe_imul).trans (congrArg (x_imul) ((xe_iload 5).trans (congrArg (x_iload 5) ((xe_iadd).trans (congrArg (x_iadd) ((xe_istore 6).trans (congrArg (x_istore 6) ((xe_aload 0).trans (congrArg (x_aload 0) ((xe_aload 1).trans (congrArg (x_aload 1) ((xe_iload 6).trans (congrArg (x_iload 6) ((xe_iload 5).trans (congrArg (x_iload 5) ((xe_iload 4).trans (congrArg (x_iload 4) ((xe_iconst 1).trans (congrArg (x_iconst 1) ((xe_iand).trans (congrArg (x_iand) ((xe_iconst 1).trans (congrArg (x_iconst 1) ((xe_if_icmp .ne 71).trans (congrArg (x_if_icmp .ne 71 K) ((xe_iconst 1).trans (congrArg (x_iconst 1) (xe_goto 72)))))))))))))))))))))))))))))))))))))))
theorem bk_X6_schedule_s_93 : ck_ fX6 none cX6_schedule 93 [.iinc 4 1, .goto 23] 99 = true := qck_r (nn_ _) (by decide +kernel)
theorem bs_X6_schedule_s_93 {P : Zt → Option Zv → Prop} (K : Int → Zl → List Zv → Zt → Prop) : sx_ K P [.iinc 4 1, .goto 23] 99 = x_iinc 4 1 (x_goto 23 K) := ((xe_iinc 4 1).trans (congrArg (x_iinc 4 1) (xe_goto 23)))
theorem bk_X6_schedule_s_71 : ck_ fX6 none cX6_schedule 71 [.iconst 0, .iload 2, .iload 6, .aload 1, .tableswitch 0 0 1 #[], .iconst 7, .iaload, .imul, .iadd] 84 = true := qck_r (nn_ _) (by decide +kernel)
theorem bs_X6_schedule_s_71 {P : Zt → Option Zv → Prop} (K : Int → Zl → List Zv → Zt → Prop) : sx_ K P [.iconst 0, .iload 2, .iload 6, .aload 1, .tableswitch 0 0 1 #[], .iconst 7, .iaload, .imul, .iadd] 84 = x_iconst 0 (x_iload 2 (x_iload 6 (x_aload 1 (x_g2 100 401 (x_iconst 7 (x_iaload (x_imul (x_iadd (K 84))))))))) := ((xe_iconst 0).trans (congrArg (x_iconst 0) ((xe_iload 2).trans (congrArg (x_iload 2) ((xe_iload 6).trans (congrArg (x_iload 6) ((xe_aload 1).trans (congrArg (x_aload 1) ((xe_g2 (kk := 100) rfl tl_0_1).trans (congrArg (x_g2 100 401) ((xe_iconst 7).trans (congrArg (x_iconst 7) ((xe_iaload).trans (congrArg (x_iaload) ((xe_imul).trans (congrArg (x_imul) ((xe_iadd).trans (congrArg (x_iadd) xe_nil))))))))))))))))))
theorem bk_X6_schedule_s_87 : ck_ fX6 none cX6_schedule 87 [.iinc 5 1, .goto 38] 93 = true := qck_r (nn_ _) (by decide +kernel)
theorem bs_X6_schedule_s_87 {P : Zt → Option Zv → Prop} (K : Int → Zl → List Zv → Zt → Prop) : sx_ K P [.iinc 5 1, .goto 38] 93 = x_iinc 5 1 (x_goto 38 K) := ((xe_iinc 5 1).trans (congrArg (x_iinc 5 1) (xe_goto 38)))
theorem bk_X6_schedule_s_72 : ck_ fX6 none cX6_schedule 72 [.iload 2, .iload 6, .aload 1, .tableswitch 0 0 1 #[], .iconst 7, .iaload, .imul, .iadd] 84 = true := qck_r (nn_ _) (by decide +kernel)
theorem bs_X6_schedule_s_72 {P : Zt → Option Zv → Prop} (K : Int → Zl → List Zv → Zt → Prop) : sx_ K P [.iload 2, .iload 6, .aload 1, .tableswitch 0 0 1 #[], .iconst 7, .iaload, .imul, .iadd] 84 = x_iload 2 (x_iload 6 (x_aload 1 (x_g2 100 401 (x_iconst 7 (x_iaload (x_imul (x_iadd (K 84)))))))) := ((xe_iload 2).trans (congrArg (x_iload 2) ((xe_iload 6).trans (congrArg (x_iload 6) ((xe_aload 1).trans (congrArg (x_aload 1) ((xe_g2 (kk := 100) rfl tl_0_1).trans (congrArg (x_g2 100 401) ((xe_iconst 7).trans (congrArg (x_iconst 7) ((xe_iaload).trans (congrArg (x_iaload) ((xe_imul).trans (congrArg (x_imul) ((xe_iadd).trans (congrArg (x_iadd) xe_nil))))))))))))))))
theorem bk_X6_schedule_s_23 : ck_ fX6 none cX6_schedule 23 [.iload 4, .aload 1, .tableswitch 0 0 1 #[], .iconst 6, .iaload, .if_icmp .ge 99, .iconst 0, .istore 5] 38 = true := qck_r (nn_ _) (by decide +kernel)
theorem bs_X6_schedule_s_23 {P : Zt → Option Zv → Prop} (K : Int → Zl → List Zv → Zt → Prop) : sx_ K P [.iload 4, .aload 1, .tableswitch 0 0 1 #[], .iconst 6, .iaload, .if_icmp .ge 99, .iconst 0, .istore 5] 38 = x_iload 4 (x_aload 1 (x_g2 100 401 (x_iconst 6 (x_iaload (x_if_icmp .ge 99 K (x_iconst 0 (x_istore 5 (K 38)))))))) := ((xe_iload 4).trans (congrArg (x_iload 4) ((xe_aload 1).trans (congrArg (x_aload 1) ((xe_g2 (kk := 100) rfl tl_0_1).trans (congrArg (x_g2 100 401) ((xe_iconst 6).trans (congrArg (x_iconst 6) ((xe_iaload).trans (congrArg (x_iaload) ((xe_if_icmp .ge 99).trans (congrArg (x_if_icmp .ge 99 K) ((xe_iconst 0).trans (congrArg (x_iconst 0) ((xe_istore 5).trans (congrArg (x_istore 5) xe_nil))))))))))))))))
theorem bk_X6_schedule_s_99 : ck_ fX6 none cX6_schedule 99 [.aload 1, .aload 0, .tableswitch 0 6 4 #[], .aload 1, .tableswitch 0 0 7 #[], .isub, .tableswitch 1 0 8 #[], .return_] 113 = true := qck_r (nn_ _) (by decide +kernel)
theorem bs_X6_schedule_s_99 {P : Zt → Option Zv → Prop} (K : Int → Zl → List Zv → Zt → Prop) : sx_ K P [.aload 1, .aload 0, .tableswitch 0 6 4 #[], .aload 1, .tableswitch 0 0 7 #[], .isub, .tableswitch 1 0 8 #[], .return_] 113 = x_aload 1 (x_aload 0 (x_g0 106 4 0 400 (x_aload 1 (x_g0 100 7 0 400 (x_isub (x_p 100 8 0 400 (x_return_ P))))))) := ((xe_aload 1).trans (congrArg (x_aload 1) ((xe_aload 0).trans (congrArg (x_aload 0) ((xe_g0 (kk := 106) rfl tl_6_4).trans (congrArg (x_g0 106 4 0 400) ((xe_aload 1).trans (congrArg (x_aload 1) ((xe_g0 (kk := 100) rfl tl_0_7).trans (congrArg (x_g0 100 7 0 400) ((xe_isub).trans (congrArg (x_isub) ((xe_p (kk := 100) rfl tl_0_8).trans (congrArg (x_p 100 8 0 400) (xe_return_)))))))))))))))
theorem bk_X6_schedule_s_0 : ck_ fX6 none cX6_schedule 0 [.aload 1, .iconst 1, .tableswitch 1 0 6 #[], .aload 1, .aload 0, .tableswitch 0 6 4 #[], .tableswitch 1 0 7 #[], .aload 1] 14 = true := qck_r (nn_ _) (by decide +kernel)
theorem bs_X6_schedule_s_0 {P : Zt → Option Zv → Prop} (K : Int → Zl → List Zv → Zt → Prop) : sx_ K P [.aload 1, .iconst 1, .tableswitch 1 0 6 #[], .aload 1, .aload 0, .tableswitch 0 6 4 #[], .tableswitch 1 0 7 #[], .aload 1] 14 = x_aload 1 (x_iconst 1 (x_p 100 6 0 1 (x_aload 1 (x_aload 0 (x_g0 106 4 0 400 (x_p 100 7 0 400 (x_aload 1 (K 14)))))))) := ((xe_aload 1).trans (congrArg (x_aload 1) ((xe_iconst 1).trans (congrArg (x_iconst 1) ((xe_p (kk := 100) rfl tl_0_6).trans (congrArg (x_p 100 6 0 1) ((xe_aload 1).trans (congrArg (x_aload 1) ((xe_aload 0).trans (congrArg (x_aload 0) ((xe_g0 (kk := 106) rfl tl_6_4).trans (congrArg (x_g0 106 4 0 400) ((xe_p (kk := 100) rfl tl_0_7).trans (congrArg (x_p 100 7 0 400) ((xe_aload 1).trans (congrArg (x_aload 1) xe_nil))))))))))))))))
theorem bk_X6_schedule_s_17 : ck_ fX6 none cX6_schedule 17 [.iconst 1, .isub, .istore 3, .iconst 0, .istore 4] 23 = true := qck_r (nn_ _) (by decide +kernel)
theorem bs_X6_schedule_s_17 {P : Zt → Option Zv → Prop} (K : Int → Zl → List Zv → Zt → Prop) : sx_ K P [.iconst 1, .isub, .istore 3, .iconst 0, .istore 4] 23 = x_iconst 1 (x_isub (x_istore 3 (x_iconst 0 (x_istore 4 (K 23))))) := ((xe_iconst 1).trans (congrArg (x_iconst 1) ((xe_isub).trans (congrArg (x_isub) ((xe_istore 3).trans (congrArg (x_istore 3) ((xe_iconst 0).trans (congrArg (x_iconst 0) ((xe_istore 4).trans (congrArg (x_istore 4) xe_nil))))))))))
abbrev po_X6_schedule_s (T : Zt) (c : Int) (b : Int) : Zt → Option Zv → Prop := fun T' r => r = none ∧ fr_ [(106, [4]), (523, []), (152, []), (102, []), (448, []), (449, []), (100, [6, 7, 8])] T T' ∧ ((∀ i j, i < T 106 0 4 → T' 102 i j = T 102 i j) ∧ RK_ T' c (T 106 0 4) (T 100 c 5 + an_ (T 100 c 5) 1 - 1) 0 0 2000000 ∧ (T' 100 c 6 = 1 ∧ T' 100 c 7 = T 106 0 4 ∧ T' 100 c 8 = T' 106 0 4 - T 106 0 4) ∧ (∀ i j, i ≠ c → T' 100 i j = T 100 i j) ∧ SQ8_ T T' ∧ AP9_ T T' c (pl9_ (T 100 c 5) (T 100 c 5 + an_ (T 100 c 5) 1 - 1) b (T 401 c 7) (T 401 c 6).toNat))
set_option maxHeartbeats 4000000 in
theorem ct_X6_schedule_s {T : Zt} {c : Int} {b : Int} (hc : 0 ≤ c ∧ c ≤ 3) (hl : 0 ≤ T 401 c 6 ∧ T 401 c 6 ≤ 4) (hE : 1 ≤ T 401 c 7 ∧ T 401 c 7 ≤ 30) (he : 2 ≤ T 100 c 5) (hb : 0 ≤ b ∧ b + ((T 100 c 5 + an_ (T 100 c 5) 1 - 1) * T 401 c 6 - 1) * T 401 c 7 ≤ 999) (hke : KEc_ T c) (hka : KA_ T) (hna : NA_ T) (hfx : T 106 0 4 + T 100 c 5 * (T 100 c 5 - 1) / 2 * T 401 c 6 ≤ 400) : Ct_ yX6_schedule zX6_schedule T [vR 106 0, vR 100 c, vI b] (po_X6_schedule_s T c b) := by
  refine ct_of pn_6 rfl rfl (Nat.le_of_ble_eq_true rfl) (fun hT hav => ?_)
  have hr_b : -2147483648 ≤ b ∧ b ≤ 2147483647 := hav (vI b) (List.mem_cons_of_mem _ (List.mem_cons_of_mem _ List.mem_cons_self))
  have hz : zX6_schedule.2.2.2.1 = some .boolean → ∀ (T' : Zt) (x : Int), po_X6_schedule_s T c b T' (some (vI x)) → 0 ≤ x ∧ x ≤ 1 := fun h => by cases h
  have hb_matchCount : 0 ≤ T 106 0 4 ∧ T 106 0 4 ≤ 400 := bd_f hT 106 4 tl_6_4 0
  have hb5 : 0 ≤ T 100 c 5 ∧ T 100 c 5 ≤ 12 := bd_f hT 100 5 tl_0_5 c
  have hp1 := an_1b (T 100 c 5)
  have hpm := an9_m (x := T 100 c 5) (by omega)
  have hp2 : T 100 c 5 = 12 → an_ (T 100 c 5) 1 = 0 := fun h => by rw [h]; decide
  have hbb : b ≤ 2000 := by have y := mlb (a := (T 100 c 5 + an_ (T 100 c 5) 1 - 1) * T 401 c 6) (b := T 401 c 7) (A := 48) (B := 30) (mlb (A := 12) (B := 4) (by omega) (by omega)) (by omega); have y2 := hb.2; rw [Int.sub_mul, Int.one_mul] at y2; omega
  show J_ zX6_schedule T (po_X6_schedule_s T c b) 792 8976 0 [some (vR 106 0), some (vR 100 c), some (vI b), none, none, none, none] [] T
  have c_23 : ∀ (nn : Nat) (l : Int) (T1 : Zt), ((4 - l).toNat) ≤ nn → (fr_ [(106, [4]), (523, []), (152, []), (102, []), (448, []), (449, []), (100, [6, 7, 8])] T T1) → (∀ z, RK_ T1 c (T 106 0 4) (T 100 c 5 + an_ (T 100 c 5) 1 - 1) z 0 (b + (l * (T 100 c 5 + an_ (T 100 c 5) 1 - 1) + 0) * T 401 c 7)) → (∀ i j, i < T 106 0 4 → T1 102 i j = T 102 i j) → (∀ i j, i ≠ c → T1 100 i j = T 100 i j) → (T1 100 c 7 = T 106 0 4 ∧ T1 100 c 6 = 1) → (0 ≤ l ∧ l ≤ 4 ∧ (l ≤ T 401 c 6 ∨ l = 0)) → (AP9_ T T1 c (pl9_ (T 100 c 5) (T 100 c 5 + an_ (T 100 c 5) 1 - 1) b (T 401 c 7) l.toNat)) → (SQ8_ T T1) → J_ zX6_schedule T (po_X6_schedule_s T c b) ((18 * (((4 : Int) - l) * 11)).toNat) ((204 * (((4 : Int) - l) * 11)).toNat) 23 [some (vR 106 0), some (vR 100 c), some (vI b), some (vI (T 100 c 5 + an_ (T 100 c 5) 1 - 1)), some (vI l), none, none] [] T1 := by
    intro nn
    induction nn using Nat.strongRecOn with
    | _ nn ih_23 =>
      intro l T1 hm_23 hf_23 hrb1 od1 oc1 s1 i1 ap1 sk1
      replace hm_23 := fun (_ : Unit) => hm_23
      have hpl := an9_m (x := l) (by omega)
      have hq1 := (hrb1 0).1
      have hm1 := mlb (a := l) (b := T 100 c 5 + an_ (T 100 c 5) 1 - 1) (A := 4) (B := 12) (by omega) (by omega)
      have hm2 := mlb (a := l * (T 100 c 5 + an_ (T 100 c 5) 1 - 1) + 0) (b := T 401 c 7) (A := 48) (B := 30) (by omega) (by omega)
      have hmx : (b + (l * (T 100 c 5 + an_ (T 100 c 5) 1 - 1) + 0) * T 401 c 7) ≤ 1000000 := by have := hb.1; have := hbb; omega
      have c_38 : ∀ (nn : Nat) (q : Int) (T2 : Zt), ((13 - q).toNat) ≤ nn → (fr_ [(106, [4]), (523, []), (152, []), (102, []), (448, []), (449, []), (100, [6, 7, 8])] T T2) → (∀ z, RK_ T2 c (T 106 0 4) (T 100 c 5 + an_ (T 100 c 5) 1 - 1) z 0 (b + (l * (T 100 c 5 + an_ (T 100 c 5) 1 - 1) + q) * T 401 c 7)) → (∀ i j, i < T 106 0 4 → T2 102 i j = T 102 i j) → (∀ i j, i ≠ c → T2 100 i j = T 100 i j) → (T2 100 c 7 = T 106 0 4 ∧ T2 100 c 6 = 1) → (0 ≤ q ∧ q ≤ T 100 c 5 + an_ (T 100 c 5) 1 - 1 ∧ l < T 401 c 6) → (AP9_ T T2 c (ll9_ (T 100 c 5) (T 100 c 5 + an_ (T 100 c 5) 1 - 1) l b (T 401 c 7) q.toNat (pl9_ (T 100 c 5) (T 100 c 5 + an_ (T 100 c 5) 1 - 1) b (T 401 c 7) l.toNat))) → (SQ8_ T T2) → J_ zX6_schedule T (po_X6_schedule_s T c b) ((18 * (((4 : Int) - l) * 11 - q)).toNat) ((204 * (((4 : Int) - l) * 11 - q)).toNat) 38 [some (vR 106 0), some (vR 100 c), some (vI b), some (vI (T 100 c 5 + an_ (T 100 c 5) 1 - 1)), some (vI l), some (vI q), none] [] T2 := by
        intro nn
        induction nn using Nat.strongRecOn with
        | _ nn ih_38 =>
          intro q T2 hm_38 hf_38 hrb2 od2 oc2 s2 i2 ap2 sk2
          replace hm_38 := fun (_ : Unit) => hm_38
          have hm3 := mlb (a := l * (T 100 c 5 + an_ (T 100 c 5) 1 - 1) + q) (b := T 401 c 7) (A := 60) (B := 30) (by omega) (by omega)
          refine j_blx (F := fX6) tb_X6 (nn_ _) bk_X6_schedule_s_38 bs_X6_schedule_s_38 hz (fun K hK => ?_)
          refine And.intro (fun c1 => ?_) (fun c1 => ?_)
          · refine hK 93 _ [] T2 ?_
            refine j_blx (F := fX6) tb_X6 (nn_ _) bk_X6_schedule_s_93 bs_X6_schedule_s_93 hz (fun K hK => ?_)
            refine rg_i (by omega) ?_
            refine hK 23 [some (vR 106 0), some (vR 100 c), some (vI b), some (vI (T 100 c 5 + an_ (T 100 c 5) 1 - 1)), some (vI (l + 1)), some (vI q), none] [] T2 ?_
            refine j_drop [some (vR 106 0), some (vR 100 c), some (vI b), some (vI (T 100 c 5 + an_ (T 100 c 5) 1 - 1)), some (vI (l + 1)), none, none] (fun k v hk => ?_) rfl ?_
            · match k, hk with
              | 0, hk => exact hk
              | 1, hk => exact hk
              | 2, hk => exact hk
              | 3, hk => exact hk
              | 4, hk => exact hk
              | 5, hk => cases hk
              | 6, hk => cases hk
              | k + 7, hk => cases hk
            refine j_mono (bc' := ((18 * (((4 : Int) - (l + 1)) * 11)).toNat)) (bs' := ((204 * (((4 : Int) - (l + 1)) * 11)).toNat)) (by omega) (by omega) ?_
            refine ih_23 _ ?_ (l + 1) T2 (Nat.le_refl _) ?_ ?_ ?_ ?_ ?_ ?_ ?_ ?_
            · have hm_23 := hm_23 (); omega
            · exact fr_t (fr_0 _ _) (fr_s hf_38 rfl)
            · intro z; rw [sc_l l q (T 100 c 5 + an_ (T 100 c 5) 1 - 1) (T 401 c 7) b (by omega)]; exact hrb2 z
            · exact od2
            · exact oc2
            · exact s2
            · omega
            · rw [show q = (T 100 c 5 + an_ (T 100 c 5) 1 - 1) by omega] at ap2
              rw [show (l + 1).toNat = l.toNat + 1 by omega]
              show AP9_ T T2 c (ll9_ (T 100 c 5) (T 100 c 5 + an_ (T 100 c 5) 1 - 1) (l.toNat : Int) b (T 401 c 7) ((T 100 c 5 + an_ (T 100 c 5) 1 - 1)).toNat (pl9_ (T 100 c 5) (T 100 c 5 + an_ (T 100 c 5) 1 - 1) b (T 401 c 7) l.toNat))
              rw [show ((l.toNat : Nat) : Int) = l by omega]
              exact ap2
            · exact sk2
          · refine rg_i (by omega) ?_
            refine rg_i (by omega) ?_
            intro w2 w2b
            refine And.intro (fun c3 => ?_) (fun c3 => ?_)
            · refine hK 71 [some (vR 106 0), some (vR 100 c), some (vI b), some (vI (T 100 c 5 + an_ (T 100 c 5) 1 - 1)), some (vI l), some (vI q), some (vI ((l * (T 100 c 5 + an_ (T 100 c 5) 1 - 1)) + q))] [vI q, vI ((l * (T 100 c 5 + an_ (T 100 c 5) 1 - 1)) + q), vR 100 c, vR 106 0] T2 ?_
              refine j_blx (F := fX6) tb_X6 (nn_ _) bk_X6_schedule_s_71 bs_X6_schedule_s_71 hz (fun K hK => ?_)
              refine ix_i (by omega) ?_
              intro b4 b4b
              have e5 : T2 401 c 7 = T 401 c 7 := hf_38 401 c 7 rfl
              rw [e5] at b4 b4b ⊢
              refine rg_i (by omega) ?_
              refine rg_i (by have y8 := sc_b (l := l) (q := q) (R := T 100 c 5 + an_ (T 100 c 5) 1 - 1) (L := T 401 c 6) (E := T 401 c 7) (b := b) (by omega) (by omega) (by omega) (by omega) hb.2; omega) ?_
              refine hK 84 _ [vI (b + (((l * (T 100 c 5 + an_ (T 100 c 5) 1 - 1)) + q) * (T 401 c 7))), vI 0, vI q, vI ((l * (T 100 c 5 + an_ (T 100 c 5) 1 - 1)) + q), vR 100 c, vR 106 0] T2 ?_
              have e6 : T2 100 c 5 = T 100 c 5 := hf_38 100 c 5 rfl
              have rb9 := rm9_b (e := T 100 c 5) (L := T 100 c 5 + an_ (T 100 c 5) 1 - 1) (f := b) (E := T 401 c 7) (M := T 106 0 4) (lg := T 401 c 6) (l := l) (q := q) (by omega) (by omega) hfx (by omega) (by omega)
              have ap3 := ap2.1
              have eR : T2 100 c 5 + an_ (T2 100 c 5) 1 - 1 = T 100 c 5 + an_ (T 100 c 5) 1 - 1 := by rw [e6]
              have y8 := sc_b (l := l) (q := q) (R := T 100 c 5 + an_ (T 100 c 5) 1 - 1) (L := T 401 c 6) (E := T 401 c 7) (b := b) (by omega) (by omega) (by omega) (by omega) hb.2
              refine j_callV (y := yX6_addRound) (Yc := zX6_addRound) (rest := []) [vR 100 c, vI ((l * (T 100 c 5 + an_ (T 100 c 5) 1 - 1)) + q), vI q, vI 0, vI (b + (((l * (T 100 c 5 + an_ (T 100 c 5) 1 - 1)) + q) * (T 401 c 7)))] (ct_X6_addRound_s (T := T2) (f := T 106 0 4) hc (by omega) (by omega) (by omega) (KEc_f hke hf_38 ⟨rfl, fun _ => rfl, fun _ => rfl⟩) (by rw [eR]; exact hrb2 q) (by omega) (by rw [e6]; omega)) cl_X6_70 (qd_c (by decide +kernel)) (by decide) rfl (by decide +kernel) (Nat.le_of_ble_eq_true rfl) (by show 18 ≤ (18 * ((4 - l) * 11 - q)).toNat; omega) (by show 204 ≤ (204 * ((4 - l) * 11 - q)).toNat; omega) rfl ?_
              rintro U7 _ ⟨rfl, fU7, qU7, odU7⟩
              show J_ zX6_schedule T (po_X6_schedule_s T c b) (((18 * (((4 : Int) - l) * 11 - q)).toNat) - 18) (((204 * (((4 : Int) - l) * 11 - q)).toNat) - 204) 87 _ [] U7
              refine j_blx (F := fX6) tb_X6 (nn_ _) bk_X6_schedule_s_87 bs_X6_schedule_s_87 hz (fun K hK => ?_)
              refine rg_i (by omega) ?_
              refine hK 38 [some (vR 106 0), some (vR 100 c), some (vI b), some (vI (T 100 c 5 + an_ (T 100 c 5) 1 - 1)), some (vI l), some (vI (q + 1)), some (vI ((l * (T 100 c 5 + an_ (T 100 c 5) 1 - 1)) + q))] [] U7 ?_
              refine j_drop [some (vR 106 0), some (vR 100 c), some (vI b), some (vI (T 100 c 5 + an_ (T 100 c 5) 1 - 1)), some (vI l), some (vI (q + 1)), none] (fun k v hk => ?_) rfl ?_
              · match k, hk with
                | 0, hk => exact hk
                | 1, hk => exact hk
                | 2, hk => exact hk
                | 3, hk => exact hk
                | 4, hk => exact hk
                | 5, hk => exact hk
                | 6, hk => cases hk
                | k + 7, hk => cases hk
              refine j_mono (bc' := ((18 * (((4 : Int) - l) * 11 - (q + 1))).toNat)) (bs' := ((204 * (((4 : Int) - l) * 11 - (q + 1))).toNat)) (by omega) (by omega) ?_
              refine ih_38 _ ?_ (q + 1) U7 (Nat.le_refl _) ?_ ?_ ?_ ?_ ?_ ?_ ?_ ?_
              · have hm_38 := hm_38 (); omega
              · exact fr_t (fr_t (fr_0 _ _) (fr_s hf_38 rfl)) (fr_s fU7 rfl)
              · intro z; rw [sc_n]; exact rb_next (r' := z) (by rw [eR] at qU7; exact qU7) (by omega)
              · exact fun i j hi => (odU7.1 i j hi).trans (od2 i j hi)
              · exact fun i j hi => (fU7 100 i j rfl).trans (oc2 i j hi)
              · exact ⟨(fU7 100 _ _ rfl).trans s2.1, (fU7 100 _ _ rfl).trans s2.2⟩
              · omega
              · have ap := odU7.2.2.2.2
                rw [e6] at ap
                rw [show (q + 1).toNat = q.toNat + 1 by omega]
                show AP9_ T U7 c (rl9_ (T 100 c 5) (T 100 c 5 + an_ (T 100 c 5) 1 - 1) (q.toNat : Int) (l % 2) (l * (T 100 c 5 + an_ (T 100 c 5) 1 - 1) + (q.toNat : Int)) (b + (l * (T 100 c 5 + an_ (T 100 c 5) 1 - 1) + (q.toNat : Int)) * (T 401 c 7)) (((T 100 c 5 + an_ (T 100 c 5) 1 - 1) + 1) / 2).toNat (ll9_ (T 100 c 5) (T 100 c 5 + an_ (T 100 c 5) 1 - 1) l b (T 401 c 7) q.toNat (pl9_ (T 100 c 5) (T 100 c 5 + an_ (T 100 c 5) 1 - 1) b (T 401 c 7) l.toNat)))
                rw [show ((q.toNat : Nat) : Int) = q by omega, rl9_a, show (((T 100 c 5 + an_ (T 100 c 5) 1 - 1) + 1) / 2).toNat = ((T 100 c 5 + an_ (T 100 c 5) 1 - 1) / 2 + 1).toNat by omega, show l % 2 = 0 by omega]
                exact ap9_t ap2 ap (by omega) odU7.2.2.1 (fun j => hf_38 403 c j rfl)
              · exact sq8_t sk2 odU7.2.2.2.1 (by have z := ap2.1; omega) odU7.2.1
            · refine hK 72 [some (vR 106 0), some (vR 100 c), some (vI b), some (vI (T 100 c 5 + an_ (T 100 c 5) 1 - 1)), some (vI l), some (vI q), some (vI ((l * (T 100 c 5 + an_ (T 100 c 5) 1 - 1)) + q))] [vI 1, vI q, vI ((l * (T 100 c 5 + an_ (T 100 c 5) 1 - 1)) + q), vR 100 c, vR 106 0] T2 ?_
              refine j_blx (F := fX6) tb_X6 (nn_ _) bk_X6_schedule_s_72 bs_X6_schedule_s_72 hz (fun K hK => ?_)
              refine ix_i (by omega) ?_
              intro b9 b9b
              have e10 : T2 401 c 7 = T 401 c 7 := hf_38 401 c 7 rfl
              rw [e10] at b9 b9b ⊢
              refine rg_i (by omega) ?_
              refine rg_i (by have y8 := sc_b (l := l) (q := q) (R := T 100 c 5 + an_ (T 100 c 5) 1 - 1) (L := T 401 c 6) (E := T 401 c 7) (b := b) (by omega) (by omega) (by omega) (by omega) hb.2; omega) ?_
              refine hK 84 _ [vI (b + (((l * (T 100 c 5 + an_ (T 100 c 5) 1 - 1)) + q) * (T 401 c 7))), vI 1, vI q, vI ((l * (T 100 c 5 + an_ (T 100 c 5) 1 - 1)) + q), vR 100 c, vR 106 0] T2 ?_
              have e11 : T2 100 c 5 = T 100 c 5 := hf_38 100 c 5 rfl
              have rb9 := rm9_b (e := T 100 c 5) (L := T 100 c 5 + an_ (T 100 c 5) 1 - 1) (f := b) (E := T 401 c 7) (M := T 106 0 4) (lg := T 401 c 6) (l := l) (q := q) (by omega) (by omega) hfx (by omega) (by omega)
              have ap3 := ap2.1
              have eR : T2 100 c 5 + an_ (T2 100 c 5) 1 - 1 = T 100 c 5 + an_ (T 100 c 5) 1 - 1 := by rw [e11]
              have y8 := sc_b (l := l) (q := q) (R := T 100 c 5 + an_ (T 100 c 5) 1 - 1) (L := T 401 c 6) (E := T 401 c 7) (b := b) (by omega) (by omega) (by omega) (by omega) hb.2
              refine j_callV (y := yX6_addRound) (Yc := zX6_addRound) (rest := []) [vR 100 c, vI ((l * (T 100 c 5 + an_ (T 100 c 5) 1 - 1)) + q), vI q, vI 1, vI (b + (((l * (T 100 c 5 + an_ (T 100 c 5) 1 - 1)) + q) * (T 401 c 7)))] (ct_X6_addRound_s (T := T2) (f := T 106 0 4) hc (by omega) (by omega) (by omega) (KEc_f hke hf_38 ⟨rfl, fun _ => rfl, fun _ => rfl⟩) (by rw [eR]; exact hrb2 q) (by omega) (by rw [e11]; omega)) cl_X6_70 (qd_c (by decide +kernel)) (by decide) rfl (by decide +kernel) (Nat.le_of_ble_eq_true rfl) (by show 18 ≤ (18 * ((4 - l) * 11 - q)).toNat; omega) (by show 204 ≤ (204 * ((4 - l) * 11 - q)).toNat; omega) rfl ?_
              rintro U12 _ ⟨rfl, fU12, qU12, odU12⟩
              show J_ zX6_schedule T (po_X6_schedule_s T c b) (((18 * (((4 : Int) - l) * 11 - q)).toNat) - 18) (((204 * (((4 : Int) - l) * 11 - q)).toNat) - 204) 87 _ [] U12
              refine j_blx (F := fX6) tb_X6 (nn_ _) bk_X6_schedule_s_87 bs_X6_schedule_s_87 hz (fun K hK => ?_)
              refine rg_i (by omega) ?_
              refine hK 38 [some (vR 106 0), some (vR 100 c), some (vI b), some (vI (T 100 c 5 + an_ (T 100 c 5) 1 - 1)), some (vI l), some (vI (q + 1)), some (vI ((l * (T 100 c 5 + an_ (T 100 c 5) 1 - 1)) + q))] [] U12 ?_
              refine j_drop [some (vR 106 0), some (vR 100 c), some (vI b), some (vI (T 100 c 5 + an_ (T 100 c 5) 1 - 1)), some (vI l), some (vI (q + 1)), none] (fun k v hk => ?_) rfl ?_
              · match k, hk with
                | 0, hk => exact hk
                | 1, hk => exact hk
                | 2, hk => exact hk
                | 3, hk => exact hk
                | 4, hk => exact hk
                | 5, hk => exact hk
                | 6, hk => cases hk
                | k + 7, hk => cases hk
              refine j_mono (bc' := ((18 * (((4 : Int) - l) * 11 - (q + 1))).toNat)) (bs' := ((204 * (((4 : Int) - l) * 11 - (q + 1))).toNat)) (by omega) (by omega) ?_
              refine ih_38 _ ?_ (q + 1) U12 (Nat.le_refl _) ?_ ?_ ?_ ?_ ?_ ?_ ?_ ?_
              · have hm_38 := hm_38 (); omega
              · exact fr_t (fr_t (fr_0 _ _) (fr_s hf_38 rfl)) (fr_s fU12 rfl)
              · intro z; rw [sc_n]; exact rb_next (r' := z) (by rw [eR] at qU12; exact qU12) (by omega)
              · exact fun i j hi => (odU12.1 i j hi).trans (od2 i j hi)
              · exact fun i j hi => (fU12 100 i j rfl).trans (oc2 i j hi)
              · exact ⟨(fU12 100 _ _ rfl).trans s2.1, (fU12 100 _ _ rfl).trans s2.2⟩
              · omega
              · have ap := odU12.2.2.2.2
                rw [e11] at ap
                rw [show (q + 1).toNat = q.toNat + 1 by omega]
                show AP9_ T U12 c (rl9_ (T 100 c 5) (T 100 c 5 + an_ (T 100 c 5) 1 - 1) (q.toNat : Int) (l % 2) (l * (T 100 c 5 + an_ (T 100 c 5) 1 - 1) + (q.toNat : Int)) (b + (l * (T 100 c 5 + an_ (T 100 c 5) 1 - 1) + (q.toNat : Int)) * (T 401 c 7)) (((T 100 c 5 + an_ (T 100 c 5) 1 - 1) + 1) / 2).toNat (ll9_ (T 100 c 5) (T 100 c 5 + an_ (T 100 c 5) 1 - 1) l b (T 401 c 7) q.toNat (pl9_ (T 100 c 5) (T 100 c 5 + an_ (T 100 c 5) 1 - 1) b (T 401 c 7) l.toNat)))
                rw [show ((q.toNat : Nat) : Int) = q by omega, rl9_a, show (((T 100 c 5 + an_ (T 100 c 5) 1 - 1) + 1) / 2).toNat = ((T 100 c 5 + an_ (T 100 c 5) 1 - 1) / 2 + 1).toNat by omega, show l % 2 = 1 by omega]
                exact ap9_t ap2 ap (by omega) odU12.2.2.1 (fun j => hf_38 403 c j rfl)
              · exact sq8_t sk2 odU12.2.2.2.1 (by have z := ap2.1; omega) odU12.2.1
      refine j_blx (F := fX6) tb_X6 (nn_ _) bk_X6_schedule_s_23 bs_X6_schedule_s_23 hz (fun K hK => ?_)
      refine ix_i (by omega) ?_
      intro b14 b14b
      have e15 : T1 401 c 6 = T 401 c 6 := hf_23 401 c 6 rfl
      rw [e15] at b14 b14b ⊢
      refine And.intro (fun c16 => ?_) (fun c16 => ?_)
      · refine hK 99 _ [] T1 ?_
        refine j_blx (F := fX6) tb_X6 (nn_ _) bk_X6_schedule_s_99 bs_X6_schedule_s_99 hz (fun K hK => ?_)
        intro b17 b17b
        intro b18 b18b
        refine rg_i (by omega) ?_
        refine bd_i (by omega) ?_
        refine x_nm (fun U19 hU19 => ?_)
        have e20 := up_f hU19
        refine (show po_X6_schedule_s T c b U19 (none) from ?_)
        have e21 : U19 106 0 4 = T1 106 0 4 := up_k hU19 (by exact Nat.ne_of_beq_eq_false rfl) 0 4
        have e22 : U19 106 0 4 = T1 106 0 4 := up_k hU19 (by exact Nat.ne_of_beq_eq_false rfl) 0 4
        have e23 : U19 100 c 7 = T1 100 c 7 := up_j hU19 (by decide) 100 c
        have e24 : U19 100 c 6 = T1 100 c 6 := up_j hU19 (by decide) 100 c
        have el : l = T 401 c 6 := by omega
        have ap7 := ap1
        rw [el] at ap7
        have ap8 : AP9_ T U19 c (pl9_ (T 100 c 5) (T 100 c 5 + an_ (T 100 c 5) 1 - 1) b (T 401 c 7) (T 401 c 6).toNat) := ⟨(up_k hU19 (by exact Nat.ne_of_beq_eq_false rfl) 0 4).trans ap7.1, fun k q hq => by have z := ap7.2 k q hq; have o : ∀ j, U19 102 (T 106 0 4 + k) j = T1 102 (T 106 0 4 + k) j := fun j => up_k hU19 (by exact Nat.ne_of_beq_eq_false rfl) _ _; rw [o 0, o 2, o 3, o 4, o 5, o 6, o 7, o 10]; exact z⟩
        have sk8 : SQ8_ T U19 := sq8_t sk1 (sq8_u hU19 (by decide)) (by have z := ap7.1; omega) (by have z : U19 106 0 4 = T1 106 0 4 := up_k hU19 (by exact Nat.ne_of_beq_eq_false rfl) 0 4; omega)
        have r1 := hrb1 0
        obtain ⟨r2, r3, r4, r5, r6⟩ := r1
        have k1 : ∀ k i j, k ≠ 100 → U19 k i j = T1 k i j := fun k i j hk => up_k hU19 hk _ _
        have r7 : RK_ U19 c (T 106 0 4) (T 100 c 5 + an_ (T 100 c 5) 1 - 1) 0 0 2000000 := by
          refine ⟨by rw [k1 106 0 4 (by decide)]; exact r2, fun i p q => ?_, fun i j p q w => ?_, fun i p q => ?_, NA_f r6 (show fr_ [(100, [6, 7, 8])] T1 U19 from fr_u (fr_0 _ _) hU19 rfl) ⟨rfl, rfl, rfl, rfl, rfl, rfl, rfl, rfl, rfl⟩⟩
          · rw [k1 106 0 4 (by decide)] at q
            obtain ⟨a1, a2, a3, a4, a5, a6⟩ := r3 i p q
            rw [k1 102 i 0 (by decide), k1 102 i 1 (by decide), k1 102 i 10 (by decide), k1 102 i 3 (by decide), k1 102 i 4 (by decide), k1 102 i 5 (by decide), k1 404 c _ (by decide), k1 404 c _ (by decide)]
            refine ⟨a1, a2, a3, a4, a5, Or.inl ?_⟩
            have y1 := a6
            have y2 : (b + (l * (T 100 c 5 + an_ (T 100 c 5) 1 - 1) + 0) * T 401 c 7) ≤ 1000000 := hmx
            omega
          · rw [k1 106 0 4 (by decide)] at w
            rw [k1 102 i 3 (by decide), k1 102 i 5 (by decide), k1 102 j 3 (by decide), k1 102 j 5 (by decide)]
            exact r4 i j p q w
          · rw [k1 106 0 4 (by decide)] at q
            rw [k1 523 0 i (by decide)]
            exact r5 i p q
        exact ⟨rfl, fr_u (fr_t (fr_0 _ _) (fr_s hf_23 rfl)) hU19 rfl, fun i j hi => (k1 102 i j (by decide)).trans (od1 i j hi), r7, by omega, fun i j hi => (up_g hU19 (fun z => hi z.2.1)).trans (oc1 i j hi), sk8, ap8⟩
      · refine hK 38 [some (vR 106 0), some (vR 100 c), some (vI b), some (vI (T 100 c 5 + an_ (T 100 c 5) 1 - 1)), some (vI l), some (vI 0), none] [] T1 ?_
        refine j_mono (bc' := ((18 * (((4 : Int) - l) * 11 - 0)).toNat)) (bs' := ((204 * (((4 : Int) - l) * 11 - 0)).toNat)) (by omega) (by omega) ?_
        refine c_38 _ 0 T1 (Nat.le_refl _) ?_ ?_ ?_ ?_ ?_ ?_ ?_ ?_
        · exact fr_t (fr_0 _ _) (fr_s hf_23 rfl)
        · exact hrb1
        · exact od1
        · exact oc1
        · exact s1
        · omega
        · exact ap1
        · exact sk1
  refine j_blx (F := fX6) tb_X6 (nn_ _) bk_X6_schedule_s_0 bs_X6_schedule_s_0 hz (fun K hK => ?_)
  refine bd_i (by omega) ?_
  refine x_nm (fun U25 hU25 => ?_)
  have e26 := up_f hU25
  intro b27 b27b
  have e28 : U25 106 0 4 = T 106 0 4 := up_k hU25 (by exact Nat.ne_of_beq_eq_false rfl) 0 4
  rw [e28] at b27 b27b ⊢
  refine bd_i (by omega) ?_
  refine x_nm (fun U29 hU29 => ?_)
  have e30 := up_f hU29
  refine hK 14 _ [vR 100 c] U29 ?_
  refine j_callV (y := yX0_placeCount) (Yc := zX0_placeCount) (rest := []) [] (ct_X0_placeCount (T := U29)) cl_X6_63 (qd_c (by decide +kernel)) (nn_ _) rfl (rf_of rfl) (Nat.le_of_ble_eq_true rfl) (Nat.le_of_ble_eq_true rfl) (Nat.le_of_ble_eq_true rfl) rfl ?_
  rintro _ _ ⟨rfl, rfl⟩
  have e31 : U29 100 c 5 + an_ (U29 100 c 5) 1 = T 100 c 5 + an_ (T 100 c 5) 1 := by rw [show _ = T 100 c 5 from (up_j hU29 (by decide) _ _).trans (up_j hU25 (by decide) _ _)]
  rw [e31]
  show J_ zX6_schedule T (po_X6_schedule_s T c b) 792 8976 17 _ [vI (T 100 c 5 + an_ (T 100 c 5) 1)] U29
  refine j_blx (F := fX6) tb_X6 (nn_ _) bk_X6_schedule_s_17 bs_X6_schedule_s_17 hz (fun K hK => ?_)
  refine rg_i (by omega) ?_
  refine hK 23 [some (vR 106 0), some (vR 100 c), some (vI b), some (vI ((T 100 c 5 + an_ (T 100 c 5) 1) - 1)), some (vI 0), none, none] [] U29 ?_
  refine j_mono (bc' := ((18 * (((4 : Int) - 0) * 11)).toNat)) (bs' := ((204 * (((4 : Int) - 0) * 11)).toNat)) (by omega) (by omega) ?_
  refine c_23 _ 0 U29 (Nat.le_refl _) ?_ ?_ ?_ ?_ ?_ ?_ ?_ ?_
  · exact fr_u (fr_u (fr_0 _ _) hU25 rfl) hU29 rfl
  · intro z; have y7 : U29 106 0 4 = T 106 0 4 := (up_k hU29 (by exact Nat.ne_of_beq_eq_false rfl) _ _).trans (up_k hU25 (by exact Nat.ne_of_beq_eq_false rfl) _ _); exact ⟨⟨by omega, by omega, by omega⟩, fun i p q => absurd q (by omega), fun i j p q w => absurd w (by omega), fun i p q => by rw [show _ = T 523 0 i from (up_k hU29 (by exact Nat.ne_of_beq_eq_false rfl) _ _).trans (up_k hU25 (by exact Nat.ne_of_beq_eq_false rfl) _ _)]; exact hka.2 i p (by omega), NA_f hna (show fr_ [(100, [6, 7, 8])] T U29 from fr_u (fr_u (fr_0 _ _) hU25 rfl) hU29 rfl) ⟨rfl, rfl, rfl, rfl, rfl, rfl, rfl, rfl, rfl⟩⟩
  · exact fun i j hi => (up_k hU29 (by exact Nat.ne_of_beq_eq_false rfl) _ _).trans (up_k hU25 (by exact Nat.ne_of_beq_eq_false rfl) _ _)
  · exact fun i j hi => (up_g hU29 (fun z => hi z.2.1)).trans (up_g hU25 (fun z => hi z.2.1))
  · exact ⟨up_f hU29, (up_j hU29 (by decide) _ _).trans (up_f hU25)⟩
  · omega
  · exact ap9_0 ((up_k hU29 (by exact Nat.ne_of_beq_eq_false rfl) _ _).trans (up_k hU25 (by exact Nat.ne_of_beq_eq_false rfl) _ _))
  · exact sq8_t (sq8_u hU25 (by decide)) (sq8_u hU29 (by decide)) (by have z : U25 106 0 4 = T 106 0 4 := up_k hU25 (by exact Nat.ne_of_beq_eq_false rfl) 0 4; omega) (by have z : U29 106 0 4 = U25 106 0 4 := up_k hU29 (by exact Nat.ne_of_beq_eq_false rfl) 0 4; omega)
