theorem bk_X6_shareClub_f_22 : ck_ fX6 (some .boolean) cX6_shareClub 22 [.iconst 1, .goto 27] 26 = true := qck_r (nn_ _) (by decide +kernel)
theorem bs_X6_shareClub_f_22 {P : Zt → Option Zv → Prop} (K : Int → Zl → List Zv → Zt → Prop) : sx_ K P [.iconst 1, .goto 27] 26 = x_iconst 1 (x_goto 27 K) := ((xe_iconst 1).trans (congrArg (x_iconst 1) (xe_goto 27)))
theorem bk_X6_shareClub_f_27 : ck_ fX6 (some .boolean) cX6_shareClub 27 [.ireturn] 28 = true := qck_r (nn_ _) (by decide +kernel)
theorem bs_X6_shareClub_f_27 {P : Zt → Option Zv → Prop} (K : Int → Zl → List Zv → Zt → Prop) : sx_ K P [.ireturn] 28 = x_ireturn P := (xe_ireturn)
theorem bk_X6_shareClub_f_19 : ck_ fX6 (some .boolean) cX6_shareClub 19 [.ifCond .eq 26, .iconst 1, .goto 27] 26 = true := qck_r (nn_ _) (by decide +kernel)
theorem bs_X6_shareClub_f_19 {P : Zt → Option Zv → Prop} (K : Int → Zl → List Zv → Zt → Prop) : sx_ K P [.ifCond .eq 26, .iconst 1, .goto 27] 26 = x_ifCond .eq 26 K (x_iconst 1 (x_goto 27 K)) := ((xe_ifCond .eq 26).trans (congrArg (x_ifCond .eq 26 K) ((xe_iconst 1).trans (congrArg (x_iconst 1) (xe_goto 27)))))
theorem bk_X6_shareClub_f_26 : ck_ fX6 (some .boolean) cX6_shareClub 26 [.iconst 0, .ireturn] 28 = true := qck_r (nn_ _) (by decide +kernel)
theorem bs_X6_shareClub_f_26 {P : Zt → Option Zv → Prop} (K : Int → Zl → List Zv → Zt → Prop) : sx_ K P [.iconst 0, .ireturn] 28 = x_iconst 0 (x_ireturn P) := ((xe_iconst 0).trans (congrArg (x_iconst 0) (xe_ireturn)))
abbrev po_X6_shareClub_f (T : Zt) (p : Int) (u : Int) : Zt → Option Zv → Prop := fun T' r => T = T' ∧ ∃ x : Int, r = some (vI x) ∧ ((x = 1 ∧ (T 102 p 3 = T 102 u 3 ∨ T 102 p 4 = T 102 u 3 ∨ T 102 p 3 = T 102 u 4 ∨ T 102 p 4 = T 102 u 4)) ∨ (x = 0 ∧ ¬ (T 102 p 3 = T 102 u 3 ∨ T 102 p 4 = T 102 u 3 ∨ T 102 p 3 = T 102 u 4 ∨ T 102 p 4 = T 102 u 4)))
set_option maxHeartbeats 4000000 in
theorem ct_X6_shareClub_f {T : Zt} {p : Int} {u : Int} : Ct_ yX6_shareClub zX6_shareClub T [vR 102 p, vR 102 u] (po_X6_shareClub_f T p u) := by
  refine ct_of pn_6 rfl rfl (Nat.le_of_ble_eq_true rfl) (fun hT hav => ?_)
  have hz : zX6_shareClub.2.2.2.1 = some .boolean → ∀ (T' : Zt) (x : Int), po_X6_shareClub_f T p u T' (some (vI x)) → 0 ≤ x ∧ x ≤ 1 := fun _ T' x h => by obtain ⟨-, y, e, hy⟩ := h; cases e; omega
  show J_ zX6_shareClub T (po_X6_shareClub_f T p u) 0 0 0 [some (vR 102 p), some (vR 102 u)] [] T
  refine j_blx (F := fX6) tb_X6 (nn_ _) bk_X6_shareClub_f_0 bs_X6_shareClub_f_0 hz (fun K hK => ?_)
  intro b1 b1b
  refine hK 5 _ [vI (T 102 u 3), vR 102 p] T ?_
  refine j_callV (y := yX2_has) (Yc := zX2_has) (rest := []) [vI (T 102 u 3)] (ct_X2_has_f (T := T)) cl_X6_88 (qd_c (by decide +kernel)) (nn_ _) rfl (rf_of rfl) (Nat.le_of_ble_eq_true rfl) (Nat.le_of_ble_eq_true rfl) (Nat.le_of_ble_eq_true rfl) rfl ?_
  rintro _ _ ⟨rfl, x2, rfl, hx2⟩
  show J_ zX6_shareClub T (po_X6_shareClub_f T p u) 0 0 8 _ [vI x2] T
  refine j_blx (F := fX6) tb_X6 (nn_ _) bk_X6_shareClub_f_8 bs_X6_shareClub_f_8 hz (fun K hK => ?_)
  refine And.intro (fun c3 => ?_) (fun c3 => ?_)
  · replace hx2 := hx2.resolve_right (fun z => c3 z.1)
    clear c3
    refine hK 22 _ [] T ?_
    refine j_blx (F := fX6) tb_X6 (nn_ _) bk_X6_shareClub_f_22 bs_X6_shareClub_f_22 hz (fun K hK => ?_)
    refine hK 27 _ [vI 1] T ?_
    refine j_blx (F := fX6) tb_X6 (nn_ _) bk_X6_shareClub_f_27 bs_X6_shareClub_f_27 hz (fun K hK => ?_)
    refine (show po_X6_shareClub_f T p u T (some (vI 1)) from ?_)
    exact ⟨rfl, _, rfl, Or.inl ⟨rfl, by omega⟩⟩
  · replace hx2 := hx2.resolve_left (fun z => absurd (c3.symm.trans z.1) (by decide))
    clear c3
    intro b4 b4b
    refine hK 16 _ [vI (T 102 u 4), vR 102 p] T ?_
    refine j_callV (y := yX2_has) (Yc := zX2_has) (rest := []) [vI (T 102 u 4)] (ct_X2_has_f (T := T)) cl_X6_88 (qd_c (by decide +kernel)) (nn_ _) rfl (rf_of rfl) (Nat.le_of_ble_eq_true rfl) (Nat.le_of_ble_eq_true rfl) (Nat.le_of_ble_eq_true rfl) rfl ?_
    rintro _ _ ⟨rfl, x5, rfl, hx5⟩
    show J_ zX6_shareClub T (po_X6_shareClub_f T p u) 0 0 19 _ [vI x5] T
    refine j_blx (F := fX6) tb_X6 (nn_ _) bk_X6_shareClub_f_19 bs_X6_shareClub_f_19 hz (fun K hK => ?_)
    refine And.intro (fun c6 => ?_) (fun c6 => ?_)
    · replace hx5 := hx5.resolve_left (fun z => absurd (c6.symm.trans z.1) (by decide))
      clear c6
      refine hK 26 _ [] T ?_
      refine j_blx (F := fX6) tb_X6 (nn_ _) bk_X6_shareClub_f_26 bs_X6_shareClub_f_26 hz (fun K hK => ?_)
      refine (show po_X6_shareClub_f T p u T (some (vI 0)) from ?_)
      exact ⟨rfl, _, rfl, Or.inr ⟨rfl, by omega⟩⟩
    · replace hx5 := hx5.resolve_right (fun z => c6 z.1)
      clear c6
      refine hK 27 _ [vI 1] T ?_
      refine j_blx (F := fX6) tb_X6 (nn_ _) bk_X6_shareClub_f_27 bs_X6_shareClub_f_27 hz (fun K hK => ?_)
      refine (show po_X6_shareClub_f T p u T (some (vI 1)) from ?_)
      exact ⟨rfl, _, rfl, Or.inl ⟨rfl, by omega⟩⟩
theorem bk_X6_standAgainst_f_0 : ck_ fX6 (some .boolean) cX6_standAgainst 0 [.aload 1, .tableswitch 0 2 6 #[], .iconst (-1), .if_icmp .ne 16, .aload 2, .tableswitch 0 2 6 #[], .iconst (-1), .if_icmp .eq 18, .iconst 0, .ireturn] 18 = true := qck_r (nn_ _) (by decide +kernel)
theorem bs_X6_standAgainst_f_0 {P : Zt → Option Zv → Prop} (K : Int → Zl → List Zv → Zt → Prop) : sx_ K P [.aload 1, .tableswitch 0 2 6 #[], .iconst (-1), .if_icmp .ne 16, .aload 2, .tableswitch 0 2 6 #[], .iconst (-1), .if_icmp .eq 18, .iconst 0, .ireturn] 18 = x_aload 1 (x_g0 102 6 (-1) 1 (x_iconst (-1) (x_if_icmp .ne 16 K (x_aload 2 (x_g0 102 6 (-1) 1 (x_iconst (-1) (x_if_icmp .eq 18 K (x_iconst 0 (x_ireturn P))))))))) := ((xe_aload 1).trans (congrArg (x_aload 1) ((xe_g0 (kk := 102) rfl tl_2_6).trans (congrArg (x_g0 102 6 (-1) 1) ((xe_iconst (-1)).trans (congrArg (x_iconst (-1)) ((xe_if_icmp .ne 16).trans (congrArg (x_if_icmp .ne 16 K) ((xe_aload 2).trans (congrArg (x_aload 2) ((xe_g0 (kk := 102) rfl tl_2_6).trans (congrArg (x_g0 102 6 (-1) 1) ((xe_iconst (-1)).trans (congrArg (x_iconst (-1)) ((xe_if_icmp .eq 18).trans (congrArg (x_if_icmp .eq 18 K) ((xe_iconst 0).trans (congrArg (x_iconst 0) (xe_ireturn)))))))))))))))))))
theorem bk_X6_standAgainst_f_16 : ck_ fX6 (some .boolean) cX6_standAgainst 16 [.iconst 0, .ireturn] 18 = true := qck_r (nn_ _) (by decide +kernel)
theorem bs_X6_standAgainst_f_16 {P : Zt → Option Zv → Prop} (K : Int → Zl → List Zv → Zt → Prop) : sx_ K P [.iconst 0, .ireturn] 18 = x_iconst 0 (x_ireturn P) := ((xe_iconst 0).trans (congrArg (x_iconst 0) (xe_ireturn)))
theorem bk_X6_standAgainst_f_18 : ck_ fX6 (some .boolean) cX6_standAgainst 18 [.aload 1, .tableswitch 0 2 5 #[], .aload 2, .tableswitch 0 2 5 #[], .isub] 27 = true := qck_r (nn_ _) (by decide +kernel)
theorem bs_X6_standAgainst_f_18 {P : Zt → Option Zv → Prop} (K : Int → Zl → List Zv → Zt → Prop) : sx_ K P [.aload 1, .tableswitch 0 2 5 #[], .aload 2, .tableswitch 0 2 5 #[], .isub] 27 = x_aload 1 (x_g0 102 5 0 999 (x_aload 2 (x_g0 102 5 0 999 (x_isub (K 27))))) := ((xe_aload 1).trans (congrArg (x_aload 1) ((xe_g0 (kk := 102) rfl tl_2_5).trans (congrArg (x_g0 102 5 0 999) ((xe_aload 2).trans (congrArg (x_aload 2) ((xe_g0 (kk := 102) rfl tl_2_5).trans (congrArg (x_g0 102 5 0 999) ((xe_isub).trans (congrArg (x_isub) xe_nil))))))))))
theorem bk_X6_standAgainst_f_30 : ck_ fX6 (some .boolean) cX6_standAgainst 30 [.istore 3, .iload 3, .ifCond .ne 64, .aload 0, .tableswitch 0 6 0 #[], .tableswitch 0 8 0 #[], .aload 1, .tableswitch 0 2 3 #[], .iaload, .aload 0, .tableswitch 0 6 0 #[], .tableswitch 0 8 0 #[], .aload 2, .tableswitch 0 2 3 #[], .iaload, .if_icmp .ne 64, .iconst 1, .ireturn] 64 = true := qck_r (nn_ _) (by decide +kernel)
theorem bs_X6_standAgainst_f_30 {P : Zt → Option Zv → Prop} (K : Int → Zl → List Zv → Zt → Prop) : sx_ K P [.istore 3, .iload 3, .ifCond .ne 64, .aload 0, .tableswitch 0 6 0 #[], .tableswitch 0 8 0 #[], .aload 1, .tableswitch 0 2 3 #[], .iaload, .aload 0, .tableswitch 0 6 0 #[], .tableswitch 0 8 0 #[], .aload 2, .tableswitch 0 2 3 #[], .iaload, .if_icmp .ne 64, .iconst 1, .ireturn] 64 = x_istore 3 (x_iload 3 (x_ifCond .ne 64 K (x_aload 0 (x_g1 106 108 (x_g1 108 560 (x_aload 1 (x_g0 102 3 0 11 (x_iaload (x_aload 0 (x_g1 106 108 (x_g1 108 560 (x_aload 2 (x_g0 102 3 0 11 (x_iaload (x_if_icmp .ne 64 K (x_iconst 1 (x_ireturn P))))))))))))))))) := ((xe_istore 3).trans (congrArg (x_istore 3) ((xe_iload 3).trans (congrArg (x_iload 3) ((xe_ifCond .ne 64).trans (congrArg (x_ifCond .ne 64 K) ((xe_aload 0).trans (congrArg (x_aload 0) ((xe_g1 (kk := 106) rfl tl_6_0).trans (congrArg (x_g1 106 108) ((xe_g1 (kk := 108) rfl tl_8_0).trans (congrArg (x_g1 108 560) ((xe_aload 1).trans (congrArg (x_aload 1) ((xe_g0 (kk := 102) rfl tl_2_3).trans (congrArg (x_g0 102 3 0 11) ((xe_iaload).trans (congrArg (x_iaload) ((xe_aload 0).trans (congrArg (x_aload 0) ((xe_g1 (kk := 106) rfl tl_6_0).trans (congrArg (x_g1 106 108) ((xe_g1 (kk := 108) rfl tl_8_0).trans (congrArg (x_g1 108 560) ((xe_aload 2).trans (congrArg (x_aload 2) ((xe_g0 (kk := 102) rfl tl_2_3).trans (congrArg (x_g0 102 3 0 11) ((xe_iaload).trans (congrArg (x_iaload) ((xe_if_icmp .ne 64).trans (congrArg (x_if_icmp .ne 64 K) ((xe_iconst 1).trans (congrArg (x_iconst 1) (xe_ireturn)))))))))))))))))))))))))))))))))))
theorem bk_X6_standAgainst_f_64 : ck_ fX6 (some .boolean) cX6_standAgainst 64 [.iload 3, .aload 1] 66 = true := qck_r (nn_ _) (by decide +kernel)
theorem bs_X6_standAgainst_f_64 {P : Zt → Option Zv → Prop} (K : Int → Zl → List Zv → Zt → Prop) : sx_ K P [.iload 3, .aload 1] 66 = x_iload 3 (x_aload 1 (K 66)) := ((xe_iload 3).trans (congrArg (x_iload 3) ((xe_aload 1).trans (congrArg (x_aload 1) xe_nil))))
theorem bk_X6_standAgainst_f_69 : ck_ fX6 (some .boolean) cX6_standAgainst 69 [.aload 2] 70 = true := qck_r (nn_ _) (by decide +kernel)
theorem bs_X6_standAgainst_f_69 {P : Zt → Option Zv → Prop} (K : Int → Zl → List Zv → Zt → Prop) : sx_ K P [.aload 2] 70 = x_aload 2 (K 70) := ((xe_aload 2).trans (congrArg (x_aload 2) xe_nil))
theorem bk_X6_standAgainst_f_76 : ck_ fX6 (some .boolean) cX6_standAgainst 76 [.if_icmp .ge 91, .aload 1, .aload 2] 81 = true := qck_r (nn_ _) (by decide +kernel)
theorem bs_X6_standAgainst_f_76 {P : Zt → Option Zv → Prop} (K : Int → Zl → List Zv → Zt → Prop) : sx_ K P [.if_icmp .ge 91, .aload 1, .aload 2] 81 = x_if_icmp .ge 91 K (x_aload 1 (x_aload 2 (K 81))) := ((xe_if_icmp .ge 91).trans (congrArg (x_if_icmp .ge 91 K) ((xe_aload 1).trans (congrArg (x_aload 1) ((xe_aload 2).trans (congrArg (x_aload 2) xe_nil))))))
theorem bk_X6_standAgainst_f_91 : ck_ fX6 (some .boolean) cX6_standAgainst 91 [.iconst 0, .ireturn] 93 = true := qck_r (nn_ _) (by decide +kernel)
theorem bs_X6_standAgainst_f_91 {P : Zt → Option Zv → Prop} (K : Int → Zl → List Zv → Zt → Prop) : sx_ K P [.iconst 0, .ireturn] 93 = x_iconst 0 (x_ireturn P) := ((xe_iconst 0).trans (congrArg (x_iconst 0) (xe_ireturn)))
theorem bk_X6_standAgainst_f_84 : ck_ fX6 (some .boolean) cX6_standAgainst 84 [.ifCond .eq 91, .iconst 1, .goto 92] 91 = true := qck_r (nn_ _) (by decide +kernel)
theorem bs_X6_standAgainst_f_84 {P : Zt → Option Zv → Prop} (K : Int → Zl → List Zv → Zt → Prop) : sx_ K P [.ifCond .eq 91, .iconst 1, .goto 92] 91 = x_ifCond .eq 91 K (x_iconst 1 (x_goto 92 K)) := ((xe_ifCond .eq 91).trans (congrArg (x_ifCond .eq 91 K) ((xe_iconst 1).trans (congrArg (x_iconst 1) (xe_goto 92)))))
theorem bk_X6_standAgainst_f_92 : ck_ fX6 (some .boolean) cX6_standAgainst 92 [.ireturn] 93 = true := qck_r (nn_ _) (by decide +kernel)
theorem bs_X6_standAgainst_f_92 {P : Zt → Option Zv → Prop} (K : Int → Zl → List Zv → Zt → Prop) : sx_ K P [.ireturn] 93 = x_ireturn P := (xe_ireturn)
abbrev po_X6_standAgainst_f (T : Zt) (p : Int) (u : Int) : Zt → Option Zv → Prop := fun T' r => T = T' ∧ ∃ x : Int, r = some (vI x) ∧ ((x = 1 ∧ (T 102 p 6 = -1 ∧ T 102 u 6 = -1 ∧ ((T 102 p 5 = T 102 u 5 ∧ T 560 0 (T 102 p 3) = T 560 0 (T 102 u 3)) ∨ (((T 102 p 5 - T 102 u 5 < T 401 (T 102 p 0) 8 ∧ T 102 u 5 - T 102 p 5 < T 401 (T 102 p 0) 8) ∨ (T 102 p 5 - T 102 u 5 < T 401 (T 102 u 0) 8 ∧ T 102 u 5 - T 102 p 5 < T 401 (T 102 u 0) 8)) ∧ (T 102 p 3 = T 102 u 3 ∨ T 102 p 4 = T 102 u 3 ∨ T 102 p 3 = T 102 u 4 ∨ T 102 p 4 = T 102 u 4))))) ∨ (x = 0 ∧ ¬ (T 102 p 6 = -1 ∧ T 102 u 6 = -1 ∧ ((T 102 p 5 = T 102 u 5 ∧ T 560 0 (T 102 p 3) = T 560 0 (T 102 u 3)) ∨ (((T 102 p 5 - T 102 u 5 < T 401 (T 102 p 0) 8 ∧ T 102 u 5 - T 102 p 5 < T 401 (T 102 p 0) 8) ∨ (T 102 p 5 - T 102 u 5 < T 401 (T 102 u 0) 8 ∧ T 102 u 5 - T 102 p 5 < T 401 (T 102 u 0) 8)) ∧ (T 102 p 3 = T 102 u 3 ∨ T 102 p 4 = T 102 u 3 ∨ T 102 p 3 = T 102 u 4 ∨ T 102 p 4 = T 102 u 4))))))
set_option maxHeartbeats 4000000 in
theorem ct_X6_standAgainst_f {T : Zt} {p : Int} {u : Int} : Ct_ yX6_standAgainst zX6_standAgainst T [vR 106 0, vR 102 p, vR 102 u] (po_X6_standAgainst_f T p u) := by
  refine ct_of pn_6 rfl rfl (Nat.le_of_ble_eq_true rfl) (fun hT hav => ?_)
  have hz : zX6_standAgainst.2.2.2.1 = some .boolean → ∀ (T' : Zt) (x : Int), po_X6_standAgainst_f T p u T' (some (vI x)) → 0 ≤ x ∧ x ≤ 1 := fun _ T' x h => by obtain ⟨-, y, e, hy⟩ := h; cases e; omega
  show J_ zX6_standAgainst T (po_X6_standAgainst_f T p u) 0 0 0 [some (vR 106 0), some (vR 102 p), some (vR 102 u), none] [] T
  refine j_blx (F := fX6) tb_X6 (nn_ _) bk_X6_standAgainst_f_0 bs_X6_standAgainst_f_0 hz (fun K hK => ?_)
  intro b1 b1b
  refine And.intro (fun c2 => ?_) (fun c2 => ?_)
  · refine hK 16 _ [] T ?_
    refine j_blx (F := fX6) tb_X6 (nn_ _) bk_X6_standAgainst_f_16 bs_X6_standAgainst_f_16 hz (fun K hK => ?_)
    refine (show po_X6_standAgainst_f T p u T (some (vI 0)) from ?_)
    exact ⟨rfl, _, rfl, Or.inr ⟨rfl, by omega⟩⟩
  · intro b3 b3b
    refine And.intro (fun c4 => ?_) (fun c4 => ?_)
    · refine hK 18 _ [] T ?_
      refine j_blx (F := fX6) tb_X6 (nn_ _) bk_X6_standAgainst_f_18 bs_X6_standAgainst_f_18 hz (fun K hK => ?_)
      intro b5 b5b
      intro b6 b6b
      refine rg_i (by omega) ?_
      refine hK 27 _ [vI ((T 102 p 5) - (T 102 u 5))] T ?_
      obtain ⟨x7, e8, hx7⟩ : ∃ x7 : Int, (if 0 ≤ ((T 102 p 5) - (T 102 u 5)) then ((T 102 p 5) - (T 102 u 5)) else -((T 102 p 5) - (T 102 u 5))) = x7 ∧ (0 ≤ x7 ∧ (x7 = (T 102 p 5) - (T 102 u 5) ∨ x7 = -((T 102 p 5) - (T 102 u 5)))) := ⟨_, rfl, by split <;> omega⟩
      refine j_ab (pc := 27) (by omega) (lwq_4 (dqc_m (dqc_m (dqa_m (dqa_m (dqa_m (List.mem_of_getElem? (i := 5) rfl)))))) rfl : Cond.methodLink RX6 122 Lib.Math.abs.name ∈ lw_g) (lwq_4 (dqc_m (dqc_m (dqa_m (dqa_m (dqa_m (List.mem_of_getElem? (i := 6) rfl)))))) rfl : Cond.static Lib.Math.abs.name ∈ lw_g) (lwq_1 (dqa_m (dqa_m (List.mem_of_getElem? (i := 1) rfl))) rfl : Cond.initialized "java/lang/Math" ∈ lw_g) (lwq_4 (dqc_m (dqc_m (dqa_m (dqa_m (dqa_m (List.mem_of_getElem? (i := 7) rfl)))))) rfl : Cond.code Lib.Math.abs.name Lib.Math.abs.code 1 (some .int) ∈ lw_g) (by decide +kernel) (by decide) (by decide) (by decide) (Nat.le_of_ble_eq_true rfl) ?_
      rw [e8]
      clear e8
      show J_ zX6_standAgainst T (po_X6_standAgainst_f T p u) 0 0 30 _ [vI x7] T
      refine j_blx (F := fX6) tb_X6 (nn_ _) bk_X6_standAgainst_f_30 bs_X6_standAgainst_f_30 hz (fun K hK => ?_)
      refine And.intro (fun c9 => ?_) (fun c9 => ?_)
      · refine hK 64 [some (vR 106 0), some (vR 102 p), some (vR 102 u), some (vI x7)] [] T ?_
        refine j_blx (F := fX6) tb_X6 (nn_ _) bk_X6_standAgainst_f_64 bs_X6_standAgainst_f_64 hz (fun K hK => ?_)
        refine hK 66 _ [vR 102 p, vI x7] T ?_
        refine j_callV (y := yX2_rest) (Yc := zX2_rest) (rest := [vI x7]) [] (ct_X2_rest_f (T := T)) cl_X6_133 (qd_c (by decide +kernel)) (nn_ _) rfl (rf_of rfl) (Nat.le_of_ble_eq_true rfl) (Nat.le_of_ble_eq_true rfl) (Nat.le_of_ble_eq_true rfl) rfl ?_
        rintro _ _ ⟨rfl, x10, rfl, hx10⟩
        show J_ zX6_standAgainst T (po_X6_standAgainst_f T p u) 0 0 69 _ [vI x10, vI x7] T
        refine j_blx (F := fX6) tb_X6 (nn_ _) bk_X6_standAgainst_f_69 bs_X6_standAgainst_f_69 hz (fun K hK => ?_)
        refine hK 70 _ [vR 102 u, vI x10, vI x7] T ?_
        refine j_callV (y := yX2_rest) (Yc := zX2_rest) (rest := [vI x10, vI x7]) [] (ct_X2_rest_f (T := T)) cl_X6_133 (qd_c (by decide +kernel)) (nn_ _) rfl (rf_of rfl) (Nat.le_of_ble_eq_true rfl) (Nat.le_of_ble_eq_true rfl) (Nat.le_of_ble_eq_true rfl) rfl ?_
        rintro _ _ ⟨rfl, x11, rfl, hx11⟩
        show J_ zX6_standAgainst T (po_X6_standAgainst_f T p u) 0 0 73 _ [vI x11, vI x10, vI x7] T
        obtain ⟨x12, e13, hx12⟩ : ∃ x12 : Int, (if x10 < x11 then x11 else x10) = x12 ∧ ((x12 = x10 ∨ x12 = x11) ∧ x10 ≤ x12 ∧ x11 ≤ x12) := ⟨_, rfl, by split <;> omega⟩
        refine j_mx (pc := 73) (lwq_4 (dqc_m (dqc_m (dqc_m (List.mem_of_getElem? (i := 4) rfl)))) rfl : Cond.methodLink RX6 136 Lib.Math.max.name ∈ lw_g) (lwq_4 (dqc_m (dqc_m (dqc_m (List.mem_of_getElem? (i := 5) rfl)))) rfl : Cond.static Lib.Math.max.name ∈ lw_g) (lwq_1 (dqa_m (dqa_m (List.mem_of_getElem? (i := 1) rfl))) rfl : Cond.initialized "java/lang/Math" ∈ lw_g) (lwq_4 (dqc_m (dqc_m (dqc_m (List.mem_of_getElem? (i := 6) rfl)))) rfl : Cond.code Lib.Math.max.name Lib.Math.max.code 2 (some .int) ∈ lw_g) (by decide +kernel) (by decide) (by decide) (by decide) (Nat.le_of_ble_eq_true rfl) ?_
        rw [e13]
        clear e13
        show J_ zX6_standAgainst T (po_X6_standAgainst_f T p u) 0 0 76 _ [vI x12, vI x7] T
        refine j_blx (F := fX6) tb_X6 (nn_ _) bk_X6_standAgainst_f_76 bs_X6_standAgainst_f_76 hz (fun K hK => ?_)
        refine And.intro (fun c14 => ?_) (fun c14 => ?_)
        · refine hK 91 _ [] T ?_
          refine j_blx (F := fX6) tb_X6 (nn_ _) bk_X6_standAgainst_f_91 bs_X6_standAgainst_f_91 hz (fun K hK => ?_)
          refine (show po_X6_standAgainst_f T p u T (some (vI 0)) from ?_)
          exact ⟨rfl, _, rfl, Or.inr ⟨rfl, by omega⟩⟩
        · refine hK 81 _ [vR 102 u, vR 102 p] T ?_
          refine j_callS (y := yX6_shareClub) (Yc := zX6_shareClub) (rest := []) [vR 102 p, vR 102 u] (ct_X6_shareClub_f (T := T)) cl_X6_140 (qd_c (by decide +kernel)) (nn_ _) rfl (rf_of rfl) (Nat.le_of_ble_eq_true rfl) (Nat.le_of_ble_eq_true rfl) (Nat.le_of_ble_eq_true rfl) rfl ?_
          rintro _ _ ⟨rfl, x15, rfl, hx15⟩
          show J_ zX6_standAgainst T (po_X6_standAgainst_f T p u) 0 0 84 _ [vI x15] T
          refine j_blx (F := fX6) tb_X6 (nn_ _) bk_X6_standAgainst_f_84 bs_X6_standAgainst_f_84 hz (fun K hK => ?_)
          refine And.intro (fun c16 => ?_) (fun c16 => ?_)
          · replace hx15 := hx15.resolve_left (fun z => absurd (c16.symm.trans z.1) (by decide))
            clear c16
            refine hK 91 _ [] T ?_
            refine j_blx (F := fX6) tb_X6 (nn_ _) bk_X6_standAgainst_f_91 bs_X6_standAgainst_f_91 hz (fun K hK => ?_)
            refine (show po_X6_standAgainst_f T p u T (some (vI 0)) from ?_)
            exact ⟨rfl, _, rfl, Or.inr ⟨rfl, by omega⟩⟩
          · replace hx15 := hx15.resolve_right (fun z => c16 z.1)
            clear c16
            refine hK 92 _ [vI 1] T ?_
            refine j_blx (F := fX6) tb_X6 (nn_ _) bk_X6_standAgainst_f_92 bs_X6_standAgainst_f_92 hz (fun K hK => ?_)
            refine (show po_X6_standAgainst_f T p u T (some (vI 1)) from ?_)
            exact ⟨rfl, _, rfl, Or.inl ⟨rfl, by omega⟩⟩
      · intro b17 b17b
        refine ix_i (by omega) ?_
        intro b18 b18b
        intro b19 b19b
        refine ix_i (by omega) ?_
        intro b20 b20b
        refine And.intro (fun c21 => ?_) (fun c21 => ?_)
        · refine hK 64 _ [] T ?_
          refine j_blx (F := fX6) tb_X6 (nn_ _) bk_X6_standAgainst_f_64 bs_X6_standAgainst_f_64 hz (fun K hK => ?_)
          refine hK 66 _ [vR 102 p, vI x7] T ?_
          refine j_callV (y := yX2_rest) (Yc := zX2_rest) (rest := [vI x7]) [] (ct_X2_rest_f (T := T)) cl_X6_133 (qd_c (by decide +kernel)) (nn_ _) rfl (rf_of rfl) (Nat.le_of_ble_eq_true rfl) (Nat.le_of_ble_eq_true rfl) (Nat.le_of_ble_eq_true rfl) rfl ?_
          rintro _ _ ⟨rfl, x22, rfl, hx22⟩
          show J_ zX6_standAgainst T (po_X6_standAgainst_f T p u) 0 0 69 _ [vI x22, vI x7] T
          refine j_blx (F := fX6) tb_X6 (nn_ _) bk_X6_standAgainst_f_69 bs_X6_standAgainst_f_69 hz (fun K hK => ?_)
          refine hK 70 _ [vR 102 u, vI x22, vI x7] T ?_
          refine j_callV (y := yX2_rest) (Yc := zX2_rest) (rest := [vI x22, vI x7]) [] (ct_X2_rest_f (T := T)) cl_X6_133 (qd_c (by decide +kernel)) (nn_ _) rfl (rf_of rfl) (Nat.le_of_ble_eq_true rfl) (Nat.le_of_ble_eq_true rfl) (Nat.le_of_ble_eq_true rfl) rfl ?_
          rintro _ _ ⟨rfl, x23, rfl, hx23⟩
          show J_ zX6_standAgainst T (po_X6_standAgainst_f T p u) 0 0 73 _ [vI x23, vI x22, vI x7] T
          obtain ⟨x24, e25, hx24⟩ : ∃ x24 : Int, (if x22 < x23 then x23 else x22) = x24 ∧ ((x24 = x22 ∨ x24 = x23) ∧ x22 ≤ x24 ∧ x23 ≤ x24) := ⟨_, rfl, by split <;> omega⟩
          refine j_mx (pc := 73) (lwq_4 (dqc_m (dqc_m (dqc_m (List.mem_of_getElem? (i := 4) rfl)))) rfl : Cond.methodLink RX6 136 Lib.Math.max.name ∈ lw_g) (lwq_4 (dqc_m (dqc_m (dqc_m (List.mem_of_getElem? (i := 5) rfl)))) rfl : Cond.static Lib.Math.max.name ∈ lw_g) (lwq_1 (dqa_m (dqa_m (List.mem_of_getElem? (i := 1) rfl))) rfl : Cond.initialized "java/lang/Math" ∈ lw_g) (lwq_4 (dqc_m (dqc_m (dqc_m (List.mem_of_getElem? (i := 6) rfl)))) rfl : Cond.code Lib.Math.max.name Lib.Math.max.code 2 (some .int) ∈ lw_g) (by decide +kernel) (by decide) (by decide) (by decide) (Nat.le_of_ble_eq_true rfl) ?_
          rw [e25]
          clear e25
          show J_ zX6_standAgainst T (po_X6_standAgainst_f T p u) 0 0 76 _ [vI x24, vI x7] T
          refine j_blx (F := fX6) tb_X6 (nn_ _) bk_X6_standAgainst_f_76 bs_X6_standAgainst_f_76 hz (fun K hK => ?_)
          refine And.intro (fun c26 => ?_) (fun c26 => ?_)
          · refine hK 91 _ [] T ?_
            refine j_blx (F := fX6) tb_X6 (nn_ _) bk_X6_standAgainst_f_91 bs_X6_standAgainst_f_91 hz (fun K hK => ?_)
            refine (show po_X6_standAgainst_f T p u T (some (vI 0)) from ?_)
            exact ⟨rfl, _, rfl, Or.inr ⟨rfl, by omega⟩⟩
          · refine hK 81 _ [vR 102 u, vR 102 p] T ?_
            refine j_callS (y := yX6_shareClub) (Yc := zX6_shareClub) (rest := []) [vR 102 p, vR 102 u] (ct_X6_shareClub_f (T := T)) cl_X6_140 (qd_c (by decide +kernel)) (nn_ _) rfl (rf_of rfl) (Nat.le_of_ble_eq_true rfl) (Nat.le_of_ble_eq_true rfl) (Nat.le_of_ble_eq_true rfl) rfl ?_
            rintro _ _ ⟨rfl, x27, rfl, hx27⟩
            show J_ zX6_standAgainst T (po_X6_standAgainst_f T p u) 0 0 84 _ [vI x27] T
            refine j_blx (F := fX6) tb_X6 (nn_ _) bk_X6_standAgainst_f_84 bs_X6_standAgainst_f_84 hz (fun K hK => ?_)
            refine And.intro (fun c28 => ?_) (fun c28 => ?_)
            · replace hx27 := hx27.resolve_left (fun z => absurd (c28.symm.trans z.1) (by decide))
              clear c28
              refine hK 91 _ [] T ?_
              refine j_blx (F := fX6) tb_X6 (nn_ _) bk_X6_standAgainst_f_91 bs_X6_standAgainst_f_91 hz (fun K hK => ?_)
              refine (show po_X6_standAgainst_f T p u T (some (vI 0)) from ?_)
              exact ⟨rfl, _, rfl, Or.inr ⟨rfl, by omega⟩⟩
            · replace hx27 := hx27.resolve_right (fun z => c28 z.1)
              clear c28
              refine hK 92 _ [vI 1] T ?_
              refine j_blx (F := fX6) tb_X6 (nn_ _) bk_X6_standAgainst_f_92 bs_X6_standAgainst_f_92 hz (fun K hK => ?_)
              refine (show po_X6_standAgainst_f T p u T (some (vI 1)) from ?_)
              exact ⟨rfl, _, rfl, Or.inl ⟨rfl, by omega⟩⟩
        · refine (show po_X6_standAgainst_f T p u T (some (vI 1)) from ?_)
          exact ⟨rfl, _, rfl, Or.inl ⟨rfl, by omega⟩⟩
    · refine (show po_X6_standAgainst_f T p u T (some (vI 0)) from ?_)
      exact ⟨rfl, _, rfl, Or.inr ⟨rfl, by omega⟩⟩
