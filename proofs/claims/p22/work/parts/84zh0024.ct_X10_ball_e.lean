theorem bk_X10_ball_e_0 : ck_ fX10 (some .int) cX10_ball 0 [.aload 0, .tableswitch 0 10 5 #[], .tableswitch 0 1 1 #[], .ifCond .eq 27, .aload 0, .tableswitch 0 10 5 #[], .tableswitch 0 1 4 #[], .aload 0, .tableswitch 0 10 5 #[], .tableswitch 0 1 3 #[], .if_icmp .lt 30, .iconst (-4), .ireturn] 30 = true := qck_r (nn_ _) (by decide +kernel)
theorem bs_X10_ball_e_0 {P : Zt → Option Zv → Prop} (K : Int → Zl → List Zv → Zt → Prop) : sx_ K P [.aload 0, .tableswitch 0 10 5 #[], .tableswitch 0 1 1 #[], .ifCond .eq 27, .aload 0, .tableswitch 0 10 5 #[], .tableswitch 0 1 4 #[], .aload 0, .tableswitch 0 10 5 #[], .tableswitch 0 1 3 #[], .if_icmp .lt 30, .iconst (-4), .ireturn] 30 = x_aload 0 (x_g1 110 101 (x_g0 101 1 0 4 (x_ifCond .eq 27 K (x_aload 0 (x_g1 110 101 (x_g0 101 4 (-2147483648) 2147483647 (x_aload 0 (x_g1 110 101 (x_g0 101 3 (-2147483648) 2147483647 (x_if_icmp .lt 30 K (x_iconst (-4) (x_ireturn P)))))))))))) := ((xe_aload 0).trans (congrArg (x_aload 0) ((xe_g1 (kk := 110) rfl tl_10_5).trans (congrArg (x_g1 110 101) ((xe_g0 (kk := 101) rfl tl_1_1).trans (congrArg (x_g0 101 1 0 4) ((xe_ifCond .eq 27).trans (congrArg (x_ifCond .eq 27 K) ((xe_aload 0).trans (congrArg (x_aload 0) ((xe_g1 (kk := 110) rfl tl_10_5).trans (congrArg (x_g1 110 101) ((xe_g0 (kk := 101) rfl tl_1_4).trans (congrArg (x_g0 101 4 (-2147483648) 2147483647) ((xe_aload 0).trans (congrArg (x_aload 0) ((xe_g1 (kk := 110) rfl tl_10_5).trans (congrArg (x_g1 110 101) ((xe_g0 (kk := 101) rfl tl_1_3).trans (congrArg (x_g0 101 3 (-2147483648) 2147483647) ((xe_if_icmp .lt 30).trans (congrArg (x_if_icmp .lt 30 K) ((xe_iconst (-4)).trans (congrArg (x_iconst (-4)) (xe_ireturn)))))))))))))))))))))))))
theorem bk_X10_ball_e_27 : ck_ fX10 (some .int) cX10_ball 27 [.iconst (-4), .ireturn] 30 = true := qck_r (nn_ _) (by decide +kernel)
theorem bs_X10_ball_e_27 {P : Zt → Option Zv → Prop} (K : Int → Zl → List Zv → Zt → Prop) : sx_ K P [.iconst (-4), .ireturn] 30 = x_iconst (-4) (x_ireturn P) := ((xe_iconst (-4)).trans (congrArg (x_iconst (-4)) (xe_ireturn)))
theorem bk_X10_ball_e_30 : ck_ fX10 (some .int) cX10_ball 30 [.aload 0, .tableswitch 0 10 5 #[]] 34 = true := qck_r (nn_ _) (by decide +kernel)
theorem bs_X10_ball_e_30 {P : Zt → Option Zv → Prop} (K : Int → Zl → List Zv → Zt → Prop) : sx_ K P [.aload 0, .tableswitch 0 10 5 #[]] 34 = x_aload 0 (x_g1 110 101 (K 34)) := ((xe_aload 0).trans (congrArg (x_aload 0) ((xe_g1 (kk := 110) rfl tl_10_5).trans (congrArg (x_g1 110 101) xe_nil))))
theorem bk_X10_ball_e_37 : ck_ fX10 (some .int) cX10_ball 37 [.aload 0, .tableswitch 0 10 5 #[], .tableswitch 0 1 6 #[], .ifCond .ne 50, .iconst (-4), .ireturn] 50 = true := qck_r (nn_ _) (by decide +kernel)
theorem bs_X10_ball_e_37 {P : Zt → Option Zv → Prop} (K : Int → Zl → List Zv → Zt → Prop) : sx_ K P [.aload 0, .tableswitch 0 10 5 #[], .tableswitch 0 1 6 #[], .ifCond .ne 50, .iconst (-4), .ireturn] 50 = x_aload 0 (x_g1 110 101 (x_g0 101 6 (-2147483648) 2147483647 (x_ifCond .ne 50 K (x_iconst (-4) (x_ireturn P))))) := ((xe_aload 0).trans (congrArg (x_aload 0) ((xe_g1 (kk := 110) rfl tl_10_5).trans (congrArg (x_g1 110 101) ((xe_g0 (kk := 101) rfl tl_1_6).trans (congrArg (x_g0 101 6 (-2147483648) 2147483647) ((xe_ifCond .ne 50).trans (congrArg (x_ifCond .ne 50 K) ((xe_iconst (-4)).trans (congrArg (x_iconst (-4)) (xe_ireturn)))))))))))
theorem bk_X10_ball_e_50 : ck_ fX10 (some .int) cX10_ball 50 [.iload 2, .ifCond .eq 62, .aload 0, .tableswitch 0 10 5 #[], .iload 1, .tableswitch 1 1 5 #[], .aload 0, .tableswitch 0 10 5 #[]] 66 = true := qck_r (nn_ _) (by decide +kernel)
theorem bs_X10_ball_e_50 {P : Zt → Option Zv → Prop} (K : Int → Zl → List Zv → Zt → Prop) : sx_ K P [.iload 2, .ifCond .eq 62, .aload 0, .tableswitch 0 10 5 #[], .iload 1, .tableswitch 1 1 5 #[], .aload 0, .tableswitch 0 10 5 #[]] 66 = x_iload 2 (x_ifCond .eq 62 K (x_aload 0 (x_g1 110 101 (x_iload 1 (x_p 101 5 (-2147483648) 2147483647 (x_aload 0 (x_g1 110 101 (K 66)))))))) := ((xe_iload 2).trans (congrArg (x_iload 2) ((xe_ifCond .eq 62).trans (congrArg (x_ifCond .eq 62 K) ((xe_aload 0).trans (congrArg (x_aload 0) ((xe_g1 (kk := 110) rfl tl_10_5).trans (congrArg (x_g1 110 101) ((xe_iload 1).trans (congrArg (x_iload 1) ((xe_p (kk := 101) rfl tl_1_5).trans (congrArg (x_p 101 5 (-2147483648) 2147483647) ((xe_aload 0).trans (congrArg (x_aload 0) ((xe_g1 (kk := 110) rfl tl_10_5).trans (congrArg (x_g1 110 101) xe_nil))))))))))))))))
theorem bk_X10_ball_e_62 : ck_ fX10 (some .int) cX10_ball 62 [.aload 0, .tableswitch 0 10 5 #[]] 66 = true := qck_r (nn_ _) (by decide +kernel)
theorem bs_X10_ball_e_62 {P : Zt → Option Zv → Prop} (K : Int → Zl → List Zv → Zt → Prop) : sx_ K P [.aload 0, .tableswitch 0 10 5 #[]] 66 = x_aload 0 (x_g1 110 101 (K 66)) := ((xe_aload 0).trans (congrArg (x_aload 0) ((xe_g1 (kk := 110) rfl tl_10_5).trans (congrArg (x_g1 110 101) xe_nil))))
theorem bk_X10_ball_e_69 : ck_ fX10 (some .int) cX10_ball 69 [.istore 3, .aload 0, .tableswitch 0 10 5 #[], .iload 3] 75 = true := qck_r (nn_ _) (by decide +kernel)
theorem bs_X10_ball_e_69 {P : Zt → Option Zv → Prop} (K : Int → Zl → List Zv → Zt → Prop) : sx_ K P [.istore 3, .aload 0, .tableswitch 0 10 5 #[], .iload 3] 75 = x_istore 3 (x_aload 0 (x_g1 110 101 (x_iload 3 (K 75)))) := ((xe_istore 3).trans (congrArg (x_istore 3) ((xe_aload 0).trans (congrArg (x_aload 0) ((xe_g1 (kk := 110) rfl tl_10_5).trans (congrArg (x_g1 110 101) ((xe_iload 3).trans (congrArg (x_iload 3) xe_nil))))))))
theorem bk_X10_ball_e_78 : ck_ fX10 (some .int) cX10_ball 78 [.iconst 8, .iload 3, .imul, .aload 0, .tableswitch 0 10 5 #[], .tableswitch 0 1 9 #[], .iload 3, .iaload, .iadd, .ireturn] 93 = true := qck_r (nn_ _) (by decide +kernel)
theorem bs_X10_ball_e_78 {P : Zt → Option Zv → Prop} (K : Int → Zl → List Zv → Zt → Prop) : sx_ K P [.iconst 8, .iload 3, .imul, .aload 0, .tableswitch 0 10 5 #[], .tableswitch 0 1 9 #[], .iload 3, .iaload, .iadd, .ireturn] 93 = x_iconst 8 (x_iload 3 (x_imul (x_aload 0 (x_g1 110 101 (x_g1 101 429 (x_iload 3 (x_iaload (x_iadd (x_ireturn P))))))))) := ((xe_iconst 8).trans (congrArg (x_iconst 8) ((xe_iload 3).trans (congrArg (x_iload 3) ((xe_imul).trans (congrArg (x_imul) ((xe_aload 0).trans (congrArg (x_aload 0) ((xe_g1 (kk := 110) rfl tl_10_5).trans (congrArg (x_g1 110 101) ((xe_g1 (kk := 101) rfl tl_1_9).trans (congrArg (x_g1 101 429) ((xe_iload 3).trans (congrArg (x_iload 3) ((xe_iaload).trans (congrArg (x_iaload) ((xe_iadd).trans (congrArg (x_iadd) (xe_ireturn)))))))))))))))))))
abbrev po_X10_ball_e (T : Zt) (s b : Int) : Zt → Option Zv → Prop := fun T' r => ∃ x : Int, r = some (vI x) ∧ fr_ [(101, [13, 6, 7, 5, 4]), (434, []), (435, []), (431, []), (432, []), (429, [])] T T' ∧ (x = x ∧ BLH_ T T' s b x)
set_option maxHeartbeats 4000000 in
theorem ct_X10_ball_e {T : Zt} {s b : Int} (hlo : LOR_ T) : Ct_ yX10_ball zX10_ball T [vR 110 0, vI s, vI b] (po_X10_ball_e T s b) := by
  refine ct_of pn_10 rfl rfl (Nat.le_of_ble_eq_true rfl) (fun hT hav => ?_)
  have hr_s : -2147483648 ≤ s ∧ s ≤ 2147483647 := hav (vI s) (List.mem_cons_of_mem _ List.mem_cons_self)
  have hr_b : -2147483648 ≤ b ∧ b ≤ 2147483647 := hav (vI b) (List.mem_cons_of_mem _ (List.mem_cons_of_mem _ List.mem_cons_self))
  have hz : zX10_ball.2.2.2.1 = some .boolean → ∀ (T' : Zt) (x : Int), po_X10_ball_e T s b T' (some (vI x)) → 0 ≤ x ∧ x ≤ 1 := fun h => by cases h
  have hgr : 0 ≤ T 101 0 1 ∧ T 101 0 1 ≤ 4 := bd_f hT 101 1 tl_1_1 0
  show J_ zX10_ball T (po_X10_ball_e T s b) 0 0 0 [some (vR 110 0), some (vI s), some (vI b), none] [] T
  refine j_blx (F := fX10) tb_X10 (nn_ _) bk_X10_ball_e_0 bs_X10_ball_e_0 hz (fun K hK => ?_)
  intro b1 b1b
  refine And.intro (fun c2 => ?_) (fun c2 => ?_)
  · refine hK 27 _ [] T ?_
    refine j_blx (F := fX10) tb_X10 (nn_ _) bk_X10_ball_e_27 bs_X10_ball_e_27 hz (fun K hK => ?_)
    refine (show po_X10_ball_e T s b T (some (vI (-4))) from ?_)
    exact ⟨_, rfl, fr_0 _ _, rfl, Or.inl ⟨rfl, rfl, by omega⟩⟩
  · intro b3 b3b
    intro b4 b4b
    refine And.intro (fun c5 => ?_) (fun c5 => ?_)
    · refine hK 30 _ [] T ?_
      refine j_blx (F := fX10) tb_X10 (nn_ _) bk_X10_ball_e_30 bs_X10_ball_e_30 hz (fun K hK => ?_)
      refine hK 34 _ [vR 101 0] T ?_
      refine j_callV (y := yX1_refresh) (Yc := zX1_refresh) (rest := []) [] (ct_X1_refresh_e (T := T)) cl_X10_399 (qd_c (by decide +kernel)) (nn_ _) rfl (rf_of rfl) (Nat.le_of_ble_eq_true rfl) (Nat.le_of_ble_eq_true rfl) (Nat.le_of_ble_eq_true rfl) rfl ?_
      rintro U6 _ ⟨rfl, fU6, qU6⟩
      show J_ zX10_ball T (po_X10_ball_e T s b) 0 0 37 _ [] U6
      refine j_blx (F := fX10) tb_X10 (nn_ _) bk_X10_ball_e_37 bs_X10_ball_e_37 hz (fun K hK => ?_)
      intro b7 b7b
      refine And.intro (fun c8 => ?_) (fun c8 => ?_)
      · refine hK 50 _ [] U6 ?_
        have hlh := (hlo.2.2).resolve_left (by omega)
        have hlb := lhw_b hlh
        have hfv : FV_ U6 := by
          rcases qU6 with ⟨z1, z2⟩ | ⟨z1, z2, z3⟩
          · rw [z2]; exact hlh.2.2.2.2.2.resolve_left z1
          · exact z3
        have hE : ∀ j, 0 ≤ j → -1 ≤ T 428 0 j ∧ T 428 0 j ≤ 2 := fun j a => bd_a hT 428 (by decide +kernel : ta_ 428 = some (1, some 12, -1, 2)) 0 a
        have hC : ∀ j, 0 ≤ j → 0 ≤ T 561 0 j ∧ T 561 0 j ≤ 7 := fun j a => bd_a hT 561 (by decide +kernel : ta_ 561 = some (1, some 12, 0, 7)) 0 a
        have hE2 : ∀ j, 0 ≤ j → -1 ≤ U6 428 0 j ∧ U6 428 0 j ≤ 2 := fun j a => by rw [fU6 428 0 j rfl]; exact hE j a
        have hC2 : ∀ j, 0 ≤ j → 0 ≤ U6 561 0 j ∧ U6 561 0 j ≤ 7 := fun j a => by rw [fU6 561 0 j rfl]; exact hC j a
        have ey3 := fU6 101 0 3 rfl
        have ey4 := fU6 101 0 4 rfl
        have ey1 := fU6 101 0 1 rfl
        have hw1 : 1 ≤ U6 101 0 13 := fv_w2 hE hlh (by omega) (fun k => fU6 428 0 k rfl) (fun k => fU6 429 0 k rfl) hfv
        have htb : 1 ≤ U6 101 0 6 ∧ U6 101 0 6 ≤ 13824 := by have y := fh_b (fx := -1) (gp := -1) hE2 hC2; have y2 := hfv.1; omega
        refine j_blx (F := fX10) tb_X10 (nn_ _) bk_X10_ball_e_50 bs_X10_ball_e_50 hz (fun K hK => ?_)
        refine And.intro (fun c9 => ?_) (fun c9 => ?_)
        · refine hK 62 _ [] U6 ?_
          refine j_blx (F := fX10) tb_X10 (nn_ _) bk_X10_ball_e_62 bs_X10_ball_e_62 hz (fun K hK => ?_)
          refine hK 66 _ [vR 101 0] U6 ?_
          have fb : fr_ [(101, [5])] U6 U6 := fr_0 _ _
          have hs0 : (b = 0 ∧ U6 101 0 5 = U6 101 0 5) ∨ (b ≠ 0 ∧ U6 101 0 5 = s) := Or.inl ⟨by omega, rfl⟩
          have hfv2 := fv_f hfv fb ⟨fun _ => rfl, fun _ => rfl, fun _ => rfl, fun _ => rfl, fun _ => rfl, rfl, rfl, rfl, rfl⟩
          have ey13 := fb 101 0 13 rfl
          have ey6 := fb 101 0 6 rfl
          have ey11 := fb 101 0 1 rfl
          have ey44 := fb 101 0 4 rfl
          refine j_callV (y := yX1_takeClub) (Yc := zX1_takeClub) (rest := []) [] (ct_X1_takeClub_e (T := U6) (by omega)) cl_X10_414 (qd_c (by decide +kernel)) (nn_ _) rfl (rf_of rfl) (Nat.le_of_ble_eq_true rfl) (Nat.le_of_ble_eq_true rfl) (Nat.le_of_ble_eq_true rfl) rfl ?_
          rintro U10 _ ⟨x11, rfl, fU10, qU10⟩
          show J_ zX10_ball T (po_X10_ball_e T s b) 0 0 69 _ [vI x11] U10
          have hpl := pl_h (T := U6) (U := U10) (fun j a => by rw [fb 428 0 j rfl]; exact hE2 j a) (fun j a => by rw [fb 561 0 j rfl]; exact hC2 j a) (by omega) hfv2 fU10 qU10.2.2.2.1
          rw [← qU10.1] at hpl
          have ey66 := fU10 101 0 6 rfl
          have ey444 := fU10 101 0 4 rfl
          refine j_blx (F := fX10) tb_X10 (nn_ _) bk_X10_ball_e_69 bs_X10_ball_e_69 hz (fun K hK => ?_)
          refine hK 75 [some (vR 110 0), some (vI s), some (vI b), some (vI x11)] [vI x11, vR 101 0] U10 ?_
          refine j_callV (y := yX1_place) (Yc := zX1_place) (rest := []) [vI x11] (ct_X1_place_e (T := U10) (by omega) (by omega) (by exact hpl.2.1) (by exact hpl.2.2) (by omega)) cl_X10_417 (qd_c (by decide +kernel)) (nn_ _) rfl (rf_of rfl) (Nat.le_of_ble_eq_true rfl) (Nat.le_of_ble_eq_true rfl) (Nat.le_of_ble_eq_true rfl) rfl ?_
          rintro U12 _ ⟨rfl, fU12, qU12⟩
          show J_ zX10_ball T (po_X10_ball_e T s b) 0 0 78 _ [] U12
          refine j_blx (F := fX10) tb_X10 (nn_ _) bk_X10_ball_e_78 bs_X10_ball_e_78 hz (fun K hK => ?_)
          refine rg_i (by omega) ?_
          refine ix_i (by omega) ?_
          intro b13 b13b
          refine rg_i (by omega) ?_
          refine (show po_X10_ball_e T s b U12 (some (vI ((8 * x11) + (U12 429 0 x11)))) from ?_)
          exact ⟨_, rfl, fr_t (fr_t (fr_t (fr_0 _ _) (fr_s fU6 rfl)) (fr_s fU10 rfl)) (fr_s fU12 rfl), rfl, Or.inr ⟨by omega, U6, qU6, fU6, Or.inr ⟨by omega, ba_i fb hs0 qU10.1 qU10.2.1 qU10.2.2.1 fU10 qU12 rfl⟩⟩⟩
        · refine bd_i (by omega) ?_
          refine x_nm (fun U14 hU14 => ?_)
          have e15 := up_f hU14
          refine hK 66 [some (vR 110 0), some (vI s), some (vI b), none] [vR 101 0] U14 ?_
          have e16 : U14 101 0 13 = U6 101 0 13 := up_j hU14 (by decide) 101 0
          have fb : fr_ [(101, [5])] U6 U14 := fr_u (fr_0 _ _) hU14 rfl
          have hs0 : (b = 0 ∧ U14 101 0 5 = U6 101 0 5) ∨ (b ≠ 0 ∧ U14 101 0 5 = s) := Or.inr ⟨by omega, up_f hU14⟩
          have hfv2 := fv_f hfv fb ⟨fun _ => rfl, fun _ => rfl, fun _ => rfl, fun _ => rfl, fun _ => rfl, rfl, rfl, rfl, rfl⟩
          have ey13 := fb 101 0 13 rfl
          have ey6 := fb 101 0 6 rfl
          have ey11 := fb 101 0 1 rfl
          have ey44 := fb 101 0 4 rfl
          refine j_callV (y := yX1_takeClub) (Yc := zX1_takeClub) (rest := []) [] (ct_X1_takeClub_e (T := U14) (by omega)) cl_X10_414 (qd_c (by decide +kernel)) (nn_ _) rfl (rf_of rfl) (Nat.le_of_ble_eq_true rfl) (Nat.le_of_ble_eq_true rfl) (Nat.le_of_ble_eq_true rfl) rfl ?_
          rintro U17 _ ⟨x18, rfl, fU17, qU17⟩
          show J_ zX10_ball T (po_X10_ball_e T s b) 0 0 69 _ [vI x18] U17
          have hpl := pl_h (T := U14) (U := U17) (fun j a => by rw [fb 428 0 j rfl]; exact hE2 j a) (fun j a => by rw [fb 561 0 j rfl]; exact hC2 j a) (by omega) hfv2 fU17 qU17.2.2.2.1
          rw [← qU17.1] at hpl
          have ey66 := fU17 101 0 6 rfl
          have ey444 := fU17 101 0 4 rfl
          refine j_blx (F := fX10) tb_X10 (nn_ _) bk_X10_ball_e_69 bs_X10_ball_e_69 hz (fun K hK => ?_)
          refine hK 75 [some (vR 110 0), some (vI s), some (vI b), some (vI x18)] [vI x18, vR 101 0] U17 ?_
          refine j_callV (y := yX1_place) (Yc := zX1_place) (rest := []) [vI x18] (ct_X1_place_e (T := U17) (by omega) (by omega) (by exact hpl.2.1) (by exact hpl.2.2) (by omega)) cl_X10_417 (qd_c (by decide +kernel)) (nn_ _) rfl (rf_of rfl) (Nat.le_of_ble_eq_true rfl) (Nat.le_of_ble_eq_true rfl) (Nat.le_of_ble_eq_true rfl) rfl ?_
          rintro U19 _ ⟨rfl, fU19, qU19⟩
          show J_ zX10_ball T (po_X10_ball_e T s b) 0 0 78 _ [] U19
          refine j_blx (F := fX10) tb_X10 (nn_ _) bk_X10_ball_e_78 bs_X10_ball_e_78 hz (fun K hK => ?_)
          refine rg_i (by omega) ?_
          refine ix_i (by omega) ?_
          intro b20 b20b
          refine rg_i (by omega) ?_
          refine (show po_X10_ball_e T s b U19 (some (vI ((8 * x18) + (U19 429 0 x18)))) from ?_)
          exact ⟨_, rfl, fr_t (fr_t (fr_u (fr_t (fr_0 _ _) (fr_s fU6 rfl)) hU14 rfl) (fr_s fU17 rfl)) (fr_s fU19 rfl), rfl, Or.inr ⟨by omega, U6, qU6, fU6, Or.inr ⟨by omega, ba_i fb hs0 qU17.1 qU17.2.1 qU17.2.2.1 fU17 qU19 rfl⟩⟩⟩
      · refine (show po_X10_ball_e T s b U6 (some (vI (-4))) from ?_)
        exact ⟨_, rfl, fr_t (fr_0 _ _) (fr_s fU6 rfl), rfl, Or.inr ⟨by omega, U6, qU6, fU6, Or.inl ⟨by omega, rfl, rfl⟩⟩⟩
    · refine (show po_X10_ball_e T s b T (some (vI (-4))) from ?_)
      exact ⟨_, rfl, fr_0 _ _, rfl, Or.inl ⟨rfl, rfl, by omega⟩⟩
