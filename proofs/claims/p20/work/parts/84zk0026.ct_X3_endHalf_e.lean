theorem bk_X3_endHalf_e_0 : ck_ fX3 none cX3_endHalf 0 [.aload 0, .tableswitch 0 3 5 #[], .iconst 1, .if_icmp .ne 44, .aload 0] 9 = true := qck_r (nn_ _) (by decide +kernel)
theorem bs_X3_endHalf_e_0 {P : Zt → Option Zv → Prop} (K : Int → Zl → List Zv → Zt → Prop) : sx_ K P [.aload 0, .tableswitch 0 3 5 #[], .iconst 1, .if_icmp .ne 44, .aload 0] 9 = x_aload 0 (x_g0 103 5 0 1 (x_iconst 1 (x_if_icmp .ne 44 K (x_aload 0 (K 9))))) := ((xe_aload 0).trans (congrArg (x_aload 0) ((xe_g0 (kk := 103) rfl tl_3_5).trans (congrArg (x_g0 103 5 0 1) ((xe_iconst 1).trans (congrArg (x_iconst 1) ((xe_if_icmp .ne 44).trans (congrArg (x_if_icmp .ne 44 K) ((xe_aload 0).trans (congrArg (x_aload 0) xe_nil))))))))))
theorem bk_X3_endHalf_e_44 : ck_ fX3 none cX3_endHalf 44 [.aload 0, .tableswitch 0 3 8 #[], .iconst 0, .iaload, .aload 0, .tableswitch 0 3 8 #[], .iconst 1, .iaload, .if_icmp .eq 63, .iconst 1, .goto 64] 63 = true := qck_r (nn_ _) (by decide +kernel)
theorem bs_X3_endHalf_e_44 {P : Zt → Option Zv → Prop} (K : Int → Zl → List Zv → Zt → Prop) : sx_ K P [.aload 0, .tableswitch 0 3 8 #[], .iconst 0, .iaload, .aload 0, .tableswitch 0 3 8 #[], .iconst 1, .iaload, .if_icmp .eq 63, .iconst 1, .goto 64] 63 = x_aload 0 (x_g2 103 468 (x_iconst 0 (x_iaload (x_aload 0 (x_g2 103 468 (x_iconst 1 (x_iaload (x_if_icmp .eq 63 K (x_iconst 1 (x_goto 64 K)))))))))) := ((xe_aload 0).trans (congrArg (x_aload 0) ((xe_g2 (kk := 103) rfl tl_3_8).trans (congrArg (x_g2 103 468) ((xe_iconst 0).trans (congrArg (x_iconst 0) ((xe_iaload).trans (congrArg (x_iaload) ((xe_aload 0).trans (congrArg (x_aload 0) ((xe_g2 (kk := 103) rfl tl_3_8).trans (congrArg (x_g2 103 468) ((xe_iconst 1).trans (congrArg (x_iconst 1) ((xe_iaload).trans (congrArg (x_iaload) ((xe_if_icmp .eq 63).trans (congrArg (x_if_icmp .eq 63 K) ((xe_iconst 1).trans (congrArg (x_iconst 1) (xe_goto 64)))))))))))))))))))))
theorem bk_X3_endHalf_e_63 : ck_ fX3 none cX3_endHalf 63 [.iconst 0, .istore 1, .aload 0] 66 = true := qck_r (nn_ _) (by decide +kernel)
theorem bs_X3_endHalf_e_63 {P : Zt → Option Zv → Prop} (K : Int → Zl → List Zv → Zt → Prop) : sx_ K P [.iconst 0, .istore 1, .aload 0] 66 = x_iconst 0 (x_istore 1 (x_aload 0 (K 66))) := ((xe_iconst 0).trans (congrArg (x_iconst 0) ((xe_istore 1).trans (congrArg (x_istore 1) ((xe_aload 0).trans (congrArg (x_aload 0) xe_nil))))))
theorem bk_X3_endHalf_e_69 : ck_ fX3 none cX3_endHalf 69 [.ifCond .eq 76, .iload 1, .ifCond .ne 95, .aload 0, .tableswitch 0 3 4 #[], .iconst 1, .fadd, .aload 0, .tableswitch 0 3 0 #[], .iconst 11, .iaload, .iconst 20, .fadd, .if_icmp .ne 101, .aload 0, .iconst 1, .tableswitch 1 3 3 #[], .return_] 101 = true := qck_r (nn_ _) (by decide +kernel)
theorem bs_X3_endHalf_e_69 {P : Zt → Option Zv → Prop} (K : Int → Zl → List Zv → Zt → Prop) : sx_ K P [.ifCond .eq 76, .iload 1, .ifCond .ne 95, .aload 0, .tableswitch 0 3 4 #[], .iconst 1, .fadd, .aload 0, .tableswitch 0 3 0 #[], .iconst 11, .iaload, .iconst 20, .fadd, .if_icmp .ne 101, .aload 0, .iconst 1, .tableswitch 1 3 3 #[], .return_] 101 = x_ifCond .eq 76 K (x_iload 1 (x_ifCond .ne 95 K (x_aload 0 (x_g0 103 4 (-2147483648) 2147483647 (x_iconst 1 (x_fadd (x_aload 0 (x_g3 103 401 0 (x_iconst 11 (x_iaload (x_iconst 20 (x_fadd (x_if_icmp .ne 101 K (x_aload 0 (x_iconst 1 (x_p 103 3 0 1 (x_return_ P))))))))))))))))) := ((xe_ifCond .eq 76).trans (congrArg (x_ifCond .eq 76 K) ((xe_iload 1).trans (congrArg (x_iload 1) ((xe_ifCond .ne 95).trans (congrArg (x_ifCond .ne 95 K) ((xe_aload 0).trans (congrArg (x_aload 0) ((xe_g0 (kk := 103) rfl tl_3_4).trans (congrArg (x_g0 103 4 (-2147483648) 2147483647) ((xe_iconst 1).trans (congrArg (x_iconst 1) ((xe_fadd).trans (congrArg (x_fadd) ((xe_aload 0).trans (congrArg (x_aload 0) ((xe_g3 (kk := 103) rfl tl_3_0).trans (congrArg (x_g3 103 401 0) ((xe_iconst 11).trans (congrArg (x_iconst 11) ((xe_iaload).trans (congrArg (x_iaload) ((xe_iconst 20).trans (congrArg (x_iconst 20) ((xe_fadd).trans (congrArg (x_fadd) ((xe_if_icmp .ne 101).trans (congrArg (x_if_icmp .ne 101 K) ((xe_aload 0).trans (congrArg (x_aload 0) ((xe_iconst 1).trans (congrArg (x_iconst 1) ((xe_p (kk := 103) rfl tl_3_3).trans (congrArg (x_p 103 3 0 1) (xe_return_)))))))))))))))))))))))))))))))))))
theorem bk_X3_endHalf_e_76 : ck_ fX3 none cX3_endHalf 76 [.aload 0, .tableswitch 0 3 4 #[], .iconst 1, .fadd, .aload 0, .tableswitch 0 3 0 #[], .iconst 11, .iaload, .iconst 20, .fadd, .if_icmp .ne 101, .aload 0, .iconst 1, .tableswitch 1 3 3 #[], .return_] 101 = true := qck_r (nn_ _) (by decide +kernel)
theorem bs_X3_endHalf_e_76 {P : Zt → Option Zv → Prop} (K : Int → Zl → List Zv → Zt → Prop) : sx_ K P [.aload 0, .tableswitch 0 3 4 #[], .iconst 1, .fadd, .aload 0, .tableswitch 0 3 0 #[], .iconst 11, .iaload, .iconst 20, .fadd, .if_icmp .ne 101, .aload 0, .iconst 1, .tableswitch 1 3 3 #[], .return_] 101 = x_aload 0 (x_g0 103 4 (-2147483648) 2147483647 (x_iconst 1 (x_fadd (x_aload 0 (x_g3 103 401 0 (x_iconst 11 (x_iaload (x_iconst 20 (x_fadd (x_if_icmp .ne 101 K (x_aload 0 (x_iconst 1 (x_p 103 3 0 1 (x_return_ P)))))))))))))) := ((xe_aload 0).trans (congrArg (x_aload 0) ((xe_g0 (kk := 103) rfl tl_3_4).trans (congrArg (x_g0 103 4 (-2147483648) 2147483647) ((xe_iconst 1).trans (congrArg (x_iconst 1) ((xe_fadd).trans (congrArg (x_fadd) ((xe_aload 0).trans (congrArg (x_aload 0) ((xe_g3 (kk := 103) rfl tl_3_0).trans (congrArg (x_g3 103 401 0) ((xe_iconst 11).trans (congrArg (x_iconst 11) ((xe_iaload).trans (congrArg (x_iaload) ((xe_iconst 20).trans (congrArg (x_iconst 20) ((xe_fadd).trans (congrArg (x_fadd) ((xe_if_icmp .ne 101).trans (congrArg (x_if_icmp .ne 101 K) ((xe_aload 0).trans (congrArg (x_aload 0) ((xe_iconst 1).trans (congrArg (x_iconst 1) ((xe_p (kk := 103) rfl tl_3_3).trans (congrArg (x_p 103 3 0 1) (xe_return_)))))))))))))))))))))))))))))
theorem bk_X3_endHalf_e_101 : ck_ fX3 none cX3_endHalf 101 [.aload 0, .dup, .tableswitch 0 3 4 #[], .iconst 1, .fadd, .tableswitch 1 3 4 #[], .aload 0, .iconst 1, .tableswitch 1 3 5 #[], .return_] 117 = true := qck_r (nn_ _) (by decide +kernel)
theorem bs_X3_endHalf_e_101 {P : Zt → Option Zv → Prop} (K : Int → Zl → List Zv → Zt → Prop) : sx_ K P [.aload 0, .dup, .tableswitch 0 3 4 #[], .iconst 1, .fadd, .tableswitch 1 3 4 #[], .aload 0, .iconst 1, .tableswitch 1 3 5 #[], .return_] 117 = x_aload 0 (x_dup (x_g0 103 4 (-2147483648) 2147483647 (x_iconst 1 (x_fadd (x_p 103 4 (-2147483648) 2147483647 (x_aload 0 (x_iconst 1 (x_p 103 5 0 1 (x_return_ P))))))))) := ((xe_aload 0).trans (congrArg (x_aload 0) ((xe_dup).trans (congrArg (x_dup) ((xe_g0 (kk := 103) rfl tl_3_4).trans (congrArg (x_g0 103 4 (-2147483648) 2147483647) ((xe_iconst 1).trans (congrArg (x_iconst 1) ((xe_fadd).trans (congrArg (x_fadd) ((xe_p (kk := 103) rfl tl_3_4).trans (congrArg (x_p 103 4 (-2147483648) 2147483647) ((xe_aload 0).trans (congrArg (x_aload 0) ((xe_iconst 1).trans (congrArg (x_iconst 1) ((xe_p (kk := 103) rfl tl_3_5).trans (congrArg (x_p 103 5 0 1) (xe_return_)))))))))))))))))))
theorem bk_X3_endHalf_e_95 : ck_ fX3 none cX3_endHalf 95 [.aload 0, .iconst 1, .tableswitch 1 3 3 #[], .return_] 101 = true := qck_r (nn_ _) (by decide +kernel)
theorem bs_X3_endHalf_e_95 {P : Zt → Option Zv → Prop} (K : Int → Zl → List Zv → Zt → Prop) : sx_ K P [.aload 0, .iconst 1, .tableswitch 1 3 3 #[], .return_] 101 = x_aload 0 (x_iconst 1 (x_p 103 3 0 1 (x_return_ P))) := ((xe_aload 0).trans (congrArg (x_aload 0) ((xe_iconst 1).trans (congrArg (x_iconst 1) ((xe_p (kk := 103) rfl tl_3_3).trans (congrArg (x_p 103 3 0 1) (xe_return_)))))))
theorem bk_X3_endHalf_e_64 : ck_ fX3 none cX3_endHalf 64 [.istore 1, .aload 0] 66 = true := qck_r (nn_ _) (by decide +kernel)
theorem bs_X3_endHalf_e_64 {P : Zt → Option Zv → Prop} (K : Int → Zl → List Zv → Zt → Prop) : sx_ K P [.istore 1, .aload 0] 66 = x_istore 1 (x_aload 0 (K 66)) := ((xe_istore 1).trans (congrArg (x_istore 1) ((xe_aload 0).trans (congrArg (x_aload 0) xe_nil))))
theorem bk_X3_endHalf_e_12 : ck_ fX3 none cX3_endHalf 12 [.ifCond .eq 38, .aload 0, .tableswitch 0 3 8 #[], .iconst 0, .iaload, .aload 0, .tableswitch 0 3 8 #[], .iconst 1, .iaload, .if_icmp .le 38, .aload 0, .iconst 1, .tableswitch 1 3 3 #[], .goto 43] 38 = true := qck_r (nn_ _) (by decide +kernel)
theorem bs_X3_endHalf_e_12 {P : Zt → Option Zv → Prop} (K : Int → Zl → List Zv → Zt → Prop) : sx_ K P [.ifCond .eq 38, .aload 0, .tableswitch 0 3 8 #[], .iconst 0, .iaload, .aload 0, .tableswitch 0 3 8 #[], .iconst 1, .iaload, .if_icmp .le 38, .aload 0, .iconst 1, .tableswitch 1 3 3 #[], .goto 43] 38 = x_ifCond .eq 38 K (x_aload 0 (x_g2 103 468 (x_iconst 0 (x_iaload (x_aload 0 (x_g2 103 468 (x_iconst 1 (x_iaload (x_if_icmp .le 38 K (x_aload 0 (x_iconst 1 (x_p 103 3 0 1 (x_goto 43 K))))))))))))) := ((xe_ifCond .eq 38).trans (congrArg (x_ifCond .eq 38 K) ((xe_aload 0).trans (congrArg (x_aload 0) ((xe_g2 (kk := 103) rfl tl_3_8).trans (congrArg (x_g2 103 468) ((xe_iconst 0).trans (congrArg (x_iconst 0) ((xe_iaload).trans (congrArg (x_iaload) ((xe_aload 0).trans (congrArg (x_aload 0) ((xe_g2 (kk := 103) rfl tl_3_8).trans (congrArg (x_g2 103 468) ((xe_iconst 1).trans (congrArg (x_iconst 1) ((xe_iaload).trans (congrArg (x_iaload) ((xe_if_icmp .le 38).trans (congrArg (x_if_icmp .le 38 K) ((xe_aload 0).trans (congrArg (x_aload 0) ((xe_iconst 1).trans (congrArg (x_iconst 1) ((xe_p (kk := 103) rfl tl_3_3).trans (congrArg (x_p 103 3 0 1) (xe_goto 43)))))))))))))))))))))))))))
theorem bk_X3_endHalf_e_38 : ck_ fX3 none cX3_endHalf 38 [.aload 0, .iconst 0, .tableswitch 1 3 5 #[], .return_] 44 = true := qck_r (nn_ _) (by decide +kernel)
theorem bs_X3_endHalf_e_38 {P : Zt → Option Zv → Prop} (K : Int → Zl → List Zv → Zt → Prop) : sx_ K P [.aload 0, .iconst 0, .tableswitch 1 3 5 #[], .return_] 44 = x_aload 0 (x_iconst 0 (x_p 103 5 0 1 (x_return_ P))) := ((xe_aload 0).trans (congrArg (x_aload 0) ((xe_iconst 0).trans (congrArg (x_iconst 0) ((xe_p (kk := 103) rfl tl_3_5).trans (congrArg (x_p 103 5 0 1) (xe_return_)))))))
theorem bk_X3_endHalf_e_43 : ck_ fX3 none cX3_endHalf 43 [.return_] 44 = true := qck_r (nn_ _) (by decide +kernel)
theorem bs_X3_endHalf_e_43 {P : Zt → Option Zv → Prop} (K : Int → Zl → List Zv → Zt → Prop) : sx_ K P [.return_] 44 = x_return_ P := (xe_return_)
abbrev po_X3_endHalf_e (T : Zt) (p : Int) (ru : Int → Int) : Zt → Option Zv → Prop := fun T' r => r = none ∧ fr_ [(103, [3, 4, 5])] T T' ∧ (oi_ T T' p ∧ (T' 103 p 3 = 0 → 1 ≤ T' 470 p 0 ∧ 1 ≤ T' 470 p 1) ∧ rs9_ T' p = eh9_ ru (rs9_ T p))
set_option maxHeartbeats 4000000 in
theorem ct_X3_endHalf_e {T : Zt} {p : Int} {ru : Int → Int} (hr : RLP_ T p ru) (hfd : 1 ≤ T 470 p 0 ∧ 1 ≤ T 470 p 1) : Ct_ yX3_endHalf zX3_endHalf T [vR 103 p] (po_X3_endHalf_e T p ru) := by
  refine ct_of pn_3 rfl rfl (Nat.le_of_ble_eq_true rfl) (fun hT hav => ?_)
  have hz : zX3_endHalf.2.2.2.1 = some .boolean → ∀ (T' : Zt) (x : Int), po_X3_endHalf_e T p ru T' (some (vI x)) → 0 ≤ x ∧ x ≤ 1 := fun h => by cases h
  have hr0 := hr 0 (by decide) (by decide)
  have hr9 := hr 9 (by decide) (by decide)
  have hr10 := hr 10 (by decide) (by decide)
  have hr11 := hr 11 (by decide) (by decide)
  have hr12 := hr 12 (by decide) (by decide)
  have hw20 : wr_ (T 401 (T 103 p 0) 11 + 20) = wr_ (ru 11 + 20) := by rw [hr11]
  show J_ zX3_endHalf T (po_X3_endHalf_e T p ru) 0 0 0 [some (vR 103 p), none] [] T
  refine j_blx (F := fX3) tb_X3 (nn_ _) bk_X3_endHalf_e_0 bs_X3_endHalf_e_0 hz (fun K hK => ?_)
  intro b1 b1b
  refine And.intro (fun c2 => ?_) (fun c2 => ?_)
  · refine hK 44 _ [] T ?_
    refine j_blx (F := fX3) tb_X3 (nn_ _) bk_X3_endHalf_e_44 bs_X3_endHalf_e_44 hz (fun K hK => ?_)
    refine ix_i (by omega) ?_
    intro b3 b3b
    refine ix_i (by omega) ?_
    intro b4 b4b
    refine And.intro (fun c5 => ?_) (fun c5 => ?_)
    · refine hK 63 _ [] T ?_
      refine j_blx (F := fX3) tb_X3 (nn_ _) bk_X3_endHalf_e_63 bs_X3_endHalf_e_63 hz (fun K hK => ?_)
      refine hK 66 [some (vR 103 p), some (vI 0)] [vR 103 p] T ?_
      refine j_callV (y := yX3_isLastInning) (Yc := zX3_isLastInning) (rest := []) [] (ct_X3_isLastInning_e (T := T) (ru := ru) (by exact hr)) cl_X3_147 (qd_c (by decide +kernel)) (nn_ _) rfl (rf_of rfl) (Nat.le_of_ble_eq_true rfl) (Nat.le_of_ble_eq_true rfl) (Nat.le_of_ble_eq_true rfl) rfl ?_
      rintro _ _ ⟨rfl, x6, rfl, hx6⟩
      show J_ zX3_endHalf T (po_X3_endHalf_e T p ru) 0 0 69 _ [vI x6] T
      refine j_blx (F := fX3) tb_X3 (nn_ _) bk_X3_endHalf_e_69 bs_X3_endHalf_e_69 hz (fun K hK => ?_)
      refine And.intro (fun c7 => ?_) (fun c7 => ?_)
      · replace hx6 := hx6.resolve_left (fun z => absurd (c7.symm.trans z.1) (by decide))
        clear c7
        refine hK 76 _ [] T ?_
        refine j_blx (F := fX3) tb_X3 (nn_ _) bk_X3_endHalf_e_76 bs_X3_endHalf_e_76 hz (fun K hK => ?_)
        intro b8 b8b
        intro w9 w9b
        refine ix_i (by omega) ?_
        intro b11 b11b
        intro w12 w12b
        refine And.intro (fun c13 => ?_) (fun c13 => ?_)
        · refine hK 101 _ [] T ?_
          refine j_blx (F := fX3) tb_X3 (nn_ _) bk_X3_endHalf_e_101 bs_X3_endHalf_e_101 hz (fun K hK => ?_)
          intro b14 b14b
          intro w15 w15b
          refine bd_i (by omega) ?_
          refine x_nm (fun U16 hU16 => ?_)
          have e17 := up_f hU16
          refine bd_i (by omega) ?_
          refine x_nm (fun U18 hU18 => ?_)
          have e19 := up_f hU18
          refine (show po_X3_endHalf_e T p ru U18 (none) from ?_)
          have e20 : U18 103 p 3 = T 103 p 3 := (up_j hU18 (by decide) 103 p).trans (up_j hU16 (by decide) 103 p)
          have e21 : U18 470 p 0 = T 470 p 0 := (up_k hU18 (by exact Nat.ne_of_beq_eq_false rfl) p 0).trans (up_k hU16 (by exact Nat.ne_of_beq_eq_false rfl) p 0)
          have e22 : U18 470 p 1 = T 470 p 1 := (up_k hU18 (by exact Nat.ne_of_beq_eq_false rfl) p 1).trans (up_k hU16 (by exact Nat.ne_of_beq_eq_false rfl) p 1)
          have g23 : U18 470 p 0 = T 470 p 0 := (up_k hU18 (by exact Nat.ne_of_beq_eq_false rfl) p 0).trans (up_k hU16 (by exact Nat.ne_of_beq_eq_false rfl) p 0)
          have g24 : U18 470 p 1 = T 470 p 1 := (up_k hU18 (by exact Nat.ne_of_beq_eq_false rfl) p 1).trans (up_k hU16 (by exact Nat.ne_of_beq_eq_false rfl) p 1)
          have e25 : U18 103 p 3 = T 103 p 3 := (up_j hU18 (by decide) 103 p).trans (up_j hU16 (by decide) 103 p)
          have rU16 : rs9_ U16 p = u2_ (rs9_ T p) 103 4 (wr_ ((T 103 p 4) + 1)) := rs_u hU16 rfl
          have rU18 : rs9_ U18 p = u2_ (u2_ (rs9_ T p) 103 4 (wr_ ((T 103 p 4) + 1))) 103 5 1 := by rw [rs_u hU18 rfl, rU16]
          exact ⟨rfl, fr_u (fr_u (fr_0 _ _) hU16 rfl) hU18 rfl, oi_u (oi_u (oi_r) hU16) hU18, by exact fun _ => by omega, Eq.trans rU18 (eh9__4 (r := ru) (a := (rs9_ T p)) (show ¬ (T 103 p 5 = 1) by omega) (show ¬ ((wr_ (ru 11 - 1) ≤ T 103 p 4 ∧ T 468 p 0 ≠ T 468 p 1) ∨ wr_ (T 103 p 4 + 1) = wr_ (ru 11 + 20)) by omega)).symm⟩
        · refine bd_i (by omega) ?_
          refine x_nm (fun U26 hU26 => ?_)
          have e27 := up_f hU26
          refine (show po_X3_endHalf_e T p ru U26 (none) from ?_)
          have e28 : U26 103 p 3 = 1 := up_f hU26
          have e29 : U26 470 p 0 = T 470 p 0 := up_k hU26 (by exact Nat.ne_of_beq_eq_false rfl) p 0
          have e30 : U26 470 p 1 = T 470 p 1 := up_k hU26 (by exact Nat.ne_of_beq_eq_false rfl) p 1
          have g31 : U26 470 p 0 = T 470 p 0 := up_k hU26 (by exact Nat.ne_of_beq_eq_false rfl) p 0
          have g32 : U26 470 p 1 = T 470 p 1 := up_k hU26 (by exact Nat.ne_of_beq_eq_false rfl) p 1
          have e33 : U26 103 p 3 = 1 := up_f hU26
          have rU26 : rs9_ U26 p = u2_ (rs9_ T p) 103 3 1 := rs_u hU26 rfl
          exact ⟨rfl, fr_u (fr_0 _ _) hU26 rfl, oi_u (oi_r) hU26, by exact fun _ => by omega, Eq.trans rU26 (eh9__3 (r := ru) (a := (rs9_ T p)) (show ¬ (T 103 p 5 = 1) by omega) (show (wr_ (ru 11 - 1) ≤ T 103 p 4 ∧ T 468 p 0 ≠ T 468 p 1) ∨ wr_ (T 103 p 4 + 1) = wr_ (ru 11 + 20) by omega)).symm⟩
      · replace hx6 := hx6.resolve_right (fun z => c7 z.1)
        clear c7
        refine And.intro (fun c34 => ?_) (fun c34 => ?_)
        · refine hK 95 _ [] T ?_
          refine j_blx (F := fX3) tb_X3 (nn_ _) bk_X3_endHalf_e_95 bs_X3_endHalf_e_95 hz (fun K hK => ?_)
          refine bd_i (by omega) ?_
          refine x_nm (fun U35 hU35 => ?_)
          have e36 := up_f hU35
          refine (show po_X3_endHalf_e T p ru U35 (none) from ?_)
          have e37 : U35 103 p 3 = 1 := up_f hU35
          have e38 : U35 470 p 0 = T 470 p 0 := up_k hU35 (by exact Nat.ne_of_beq_eq_false rfl) p 0
          have e39 : U35 470 p 1 = T 470 p 1 := up_k hU35 (by exact Nat.ne_of_beq_eq_false rfl) p 1
          have g40 : U35 470 p 0 = T 470 p 0 := up_k hU35 (by exact Nat.ne_of_beq_eq_false rfl) p 0
          have g41 : U35 470 p 1 = T 470 p 1 := up_k hU35 (by exact Nat.ne_of_beq_eq_false rfl) p 1
          have e42 : U35 103 p 3 = 1 := up_f hU35
          have rU35 : rs9_ U35 p = u2_ (rs9_ T p) 103 3 1 := rs_u hU35 rfl
          exact ⟨rfl, fr_u (fr_0 _ _) hU35 rfl, oi_u (oi_r) hU35, by exact fun _ => by omega, Eq.trans rU35 (eh9__1 (r := ru) (a := (rs9_ T p)) (show T 103 p 5 = 1 by omega) (show wr_ (ru 11 - 1) ≤ T 103 p 4 ∧ T 468 p 1 < T 468 p 0 by omega)).symm⟩
        · intro b43 b43b
          intro w44 w44b
          refine ix_i (by omega) ?_
          intro b46 b46b
          intro w47 w47b
          refine And.intro (fun c48 => ?_) (fun c48 => ?_)
          · refine hK 101 _ [] T ?_
            refine j_blx (F := fX3) tb_X3 (nn_ _) bk_X3_endHalf_e_101 bs_X3_endHalf_e_101 hz (fun K hK => ?_)
            intro b49 b49b
            intro w50 w50b
            refine bd_i (by omega) ?_
            refine x_nm (fun U51 hU51 => ?_)
            have e52 := up_f hU51
            refine bd_i (by omega) ?_
            refine x_nm (fun U53 hU53 => ?_)
            have e54 := up_f hU53
            refine (show po_X3_endHalf_e T p ru U53 (none) from ?_)
            have e55 : U53 103 p 3 = T 103 p 3 := (up_j hU53 (by decide) 103 p).trans (up_j hU51 (by decide) 103 p)
            have e56 : U53 470 p 0 = T 470 p 0 := (up_k hU53 (by exact Nat.ne_of_beq_eq_false rfl) p 0).trans (up_k hU51 (by exact Nat.ne_of_beq_eq_false rfl) p 0)
            have e57 : U53 470 p 1 = T 470 p 1 := (up_k hU53 (by exact Nat.ne_of_beq_eq_false rfl) p 1).trans (up_k hU51 (by exact Nat.ne_of_beq_eq_false rfl) p 1)
            have g58 : U53 470 p 0 = T 470 p 0 := (up_k hU53 (by exact Nat.ne_of_beq_eq_false rfl) p 0).trans (up_k hU51 (by exact Nat.ne_of_beq_eq_false rfl) p 0)
            have g59 : U53 470 p 1 = T 470 p 1 := (up_k hU53 (by exact Nat.ne_of_beq_eq_false rfl) p 1).trans (up_k hU51 (by exact Nat.ne_of_beq_eq_false rfl) p 1)
            have e60 : U53 103 p 3 = T 103 p 3 := (up_j hU53 (by decide) 103 p).trans (up_j hU51 (by decide) 103 p)
            have rU51 : rs9_ U51 p = u2_ (rs9_ T p) 103 4 (wr_ ((T 103 p 4) + 1)) := rs_u hU51 rfl
            have rU53 : rs9_ U53 p = u2_ (u2_ (rs9_ T p) 103 4 (wr_ ((T 103 p 4) + 1))) 103 5 1 := by rw [rs_u hU53 rfl, rU51]
            exact ⟨rfl, fr_u (fr_u (fr_0 _ _) hU51 rfl) hU53 rfl, oi_u (oi_u (oi_r) hU51) hU53, by exact fun _ => by omega, Eq.trans rU53 (eh9__4 (r := ru) (a := (rs9_ T p)) (show ¬ (T 103 p 5 = 1) by omega) (show ¬ ((wr_ (ru 11 - 1) ≤ T 103 p 4 ∧ T 468 p 0 ≠ T 468 p 1) ∨ wr_ (T 103 p 4 + 1) = wr_ (ru 11 + 20)) by omega)).symm⟩
          · refine bd_i (by omega) ?_
            refine x_nm (fun U61 hU61 => ?_)
            have e62 := up_f hU61
            refine (show po_X3_endHalf_e T p ru U61 (none) from ?_)
            have e63 : U61 103 p 3 = 1 := up_f hU61
            have e64 : U61 470 p 0 = T 470 p 0 := up_k hU61 (by exact Nat.ne_of_beq_eq_false rfl) p 0
            have e65 : U61 470 p 1 = T 470 p 1 := up_k hU61 (by exact Nat.ne_of_beq_eq_false rfl) p 1
            have g66 : U61 470 p 0 = T 470 p 0 := up_k hU61 (by exact Nat.ne_of_beq_eq_false rfl) p 0
            have g67 : U61 470 p 1 = T 470 p 1 := up_k hU61 (by exact Nat.ne_of_beq_eq_false rfl) p 1
            have e68 : U61 103 p 3 = 1 := up_f hU61
            have rU61 : rs9_ U61 p = u2_ (rs9_ T p) 103 3 1 := rs_u hU61 rfl
            exact ⟨rfl, fr_u (fr_0 _ _) hU61 rfl, oi_u (oi_r) hU61, by exact fun _ => by omega, Eq.trans rU61 (eh9__3 (r := ru) (a := (rs9_ T p)) (show ¬ (T 103 p 5 = 1) by omega) (show (wr_ (ru 11 - 1) ≤ T 103 p 4 ∧ T 468 p 0 ≠ T 468 p 1) ∨ wr_ (T 103 p 4 + 1) = wr_ (ru 11 + 20) by omega)).symm⟩
    · refine hK 64 [some (vR 103 p), none] [vI 1] T ?_
      refine j_blx (F := fX3) tb_X3 (nn_ _) bk_X3_endHalf_e_64 bs_X3_endHalf_e_64 hz (fun K hK => ?_)
      refine hK 66 [some (vR 103 p), some (vI 1)] [vR 103 p] T ?_
      refine j_callV (y := yX3_isLastInning) (Yc := zX3_isLastInning) (rest := []) [] (ct_X3_isLastInning_e (T := T) (ru := ru) (by exact hr)) cl_X3_147 (qd_c (by decide +kernel)) (nn_ _) rfl (rf_of rfl) (Nat.le_of_ble_eq_true rfl) (Nat.le_of_ble_eq_true rfl) (Nat.le_of_ble_eq_true rfl) rfl ?_
      rintro _ _ ⟨rfl, x69, rfl, hx69⟩
      show J_ zX3_endHalf T (po_X3_endHalf_e T p ru) 0 0 69 _ [vI x69] T
      refine j_blx (F := fX3) tb_X3 (nn_ _) bk_X3_endHalf_e_69 bs_X3_endHalf_e_69 hz (fun K hK => ?_)
      refine And.intro (fun c70 => ?_) (fun c70 => ?_)
      · replace hx69 := hx69.resolve_left (fun z => absurd (c70.symm.trans z.1) (by decide))
        clear c70
        refine hK 76 _ [] T ?_
        refine j_blx (F := fX3) tb_X3 (nn_ _) bk_X3_endHalf_e_76 bs_X3_endHalf_e_76 hz (fun K hK => ?_)
        intro b71 b71b
        intro w72 w72b
        refine ix_i (by omega) ?_
        intro b74 b74b
        intro w75 w75b
        refine And.intro (fun c76 => ?_) (fun c76 => ?_)
        · refine hK 101 _ [] T ?_
          refine j_blx (F := fX3) tb_X3 (nn_ _) bk_X3_endHalf_e_101 bs_X3_endHalf_e_101 hz (fun K hK => ?_)
          intro b77 b77b
          intro w78 w78b
          refine bd_i (by omega) ?_
          refine x_nm (fun U79 hU79 => ?_)
          have e80 := up_f hU79
          refine bd_i (by omega) ?_
          refine x_nm (fun U81 hU81 => ?_)
          have e82 := up_f hU81
          refine (show po_X3_endHalf_e T p ru U81 (none) from ?_)
          have e83 : U81 103 p 3 = T 103 p 3 := (up_j hU81 (by decide) 103 p).trans (up_j hU79 (by decide) 103 p)
          have e84 : U81 470 p 0 = T 470 p 0 := (up_k hU81 (by exact Nat.ne_of_beq_eq_false rfl) p 0).trans (up_k hU79 (by exact Nat.ne_of_beq_eq_false rfl) p 0)
          have e85 : U81 470 p 1 = T 470 p 1 := (up_k hU81 (by exact Nat.ne_of_beq_eq_false rfl) p 1).trans (up_k hU79 (by exact Nat.ne_of_beq_eq_false rfl) p 1)
          have g86 : U81 470 p 0 = T 470 p 0 := (up_k hU81 (by exact Nat.ne_of_beq_eq_false rfl) p 0).trans (up_k hU79 (by exact Nat.ne_of_beq_eq_false rfl) p 0)
          have g87 : U81 470 p 1 = T 470 p 1 := (up_k hU81 (by exact Nat.ne_of_beq_eq_false rfl) p 1).trans (up_k hU79 (by exact Nat.ne_of_beq_eq_false rfl) p 1)
          have e88 : U81 103 p 3 = T 103 p 3 := (up_j hU81 (by decide) 103 p).trans (up_j hU79 (by decide) 103 p)
          have rU79 : rs9_ U79 p = u2_ (rs9_ T p) 103 4 (wr_ ((T 103 p 4) + 1)) := rs_u hU79 rfl
          have rU81 : rs9_ U81 p = u2_ (u2_ (rs9_ T p) 103 4 (wr_ ((T 103 p 4) + 1))) 103 5 1 := by rw [rs_u hU81 rfl, rU79]
          exact ⟨rfl, fr_u (fr_u (fr_0 _ _) hU79 rfl) hU81 rfl, oi_u (oi_u (oi_r) hU79) hU81, by exact fun _ => by omega, Eq.trans rU81 (eh9__4 (r := ru) (a := (rs9_ T p)) (show ¬ (T 103 p 5 = 1) by omega) (show ¬ ((wr_ (ru 11 - 1) ≤ T 103 p 4 ∧ T 468 p 0 ≠ T 468 p 1) ∨ wr_ (T 103 p 4 + 1) = wr_ (ru 11 + 20)) by omega)).symm⟩
        · refine bd_i (by omega) ?_
          refine x_nm (fun U89 hU89 => ?_)
          have e90 := up_f hU89
          refine (show po_X3_endHalf_e T p ru U89 (none) from ?_)
          have e91 : U89 103 p 3 = 1 := up_f hU89
          have e92 : U89 470 p 0 = T 470 p 0 := up_k hU89 (by exact Nat.ne_of_beq_eq_false rfl) p 0
          have e93 : U89 470 p 1 = T 470 p 1 := up_k hU89 (by exact Nat.ne_of_beq_eq_false rfl) p 1
          have g94 : U89 470 p 0 = T 470 p 0 := up_k hU89 (by exact Nat.ne_of_beq_eq_false rfl) p 0
          have g95 : U89 470 p 1 = T 470 p 1 := up_k hU89 (by exact Nat.ne_of_beq_eq_false rfl) p 1
          have e96 : U89 103 p 3 = 1 := up_f hU89
          have rU89 : rs9_ U89 p = u2_ (rs9_ T p) 103 3 1 := rs_u hU89 rfl
          exact ⟨rfl, fr_u (fr_0 _ _) hU89 rfl, oi_u (oi_r) hU89, by exact fun _ => by omega, Eq.trans rU89 (eh9__3 (r := ru) (a := (rs9_ T p)) (show ¬ (T 103 p 5 = 1) by omega) (show (wr_ (ru 11 - 1) ≤ T 103 p 4 ∧ T 468 p 0 ≠ T 468 p 1) ∨ wr_ (T 103 p 4 + 1) = wr_ (ru 11 + 20) by omega)).symm⟩
      · replace hx69 := hx69.resolve_right (fun z => c70 z.1)
        clear c70
        refine And.intro (fun c97 => ?_) (fun c97 => ?_)
        · refine hK 95 _ [] T ?_
          refine j_blx (F := fX3) tb_X3 (nn_ _) bk_X3_endHalf_e_95 bs_X3_endHalf_e_95 hz (fun K hK => ?_)
          refine bd_i (by omega) ?_
          refine x_nm (fun U98 hU98 => ?_)
          have e99 := up_f hU98
          refine (show po_X3_endHalf_e T p ru U98 (none) from ?_)
          have e100 : U98 103 p 3 = 1 := up_f hU98
          have e101 : U98 470 p 0 = T 470 p 0 := up_k hU98 (by exact Nat.ne_of_beq_eq_false rfl) p 0
          have e102 : U98 470 p 1 = T 470 p 1 := up_k hU98 (by exact Nat.ne_of_beq_eq_false rfl) p 1
          have g103 : U98 470 p 0 = T 470 p 0 := up_k hU98 (by exact Nat.ne_of_beq_eq_false rfl) p 0
          have g104 : U98 470 p 1 = T 470 p 1 := up_k hU98 (by exact Nat.ne_of_beq_eq_false rfl) p 1
          have e105 : U98 103 p 3 = 1 := up_f hU98
          have rU98 : rs9_ U98 p = u2_ (rs9_ T p) 103 3 1 := rs_u hU98 rfl
          exact ⟨rfl, fr_u (fr_0 _ _) hU98 rfl, oi_u (oi_r) hU98, by exact fun _ => by omega, Eq.trans rU98 (eh9__3 (r := ru) (a := (rs9_ T p)) (show ¬ (T 103 p 5 = 1) by omega) (show (wr_ (ru 11 - 1) ≤ T 103 p 4 ∧ T 468 p 0 ≠ T 468 p 1) ∨ wr_ (T 103 p 4 + 1) = wr_ (ru 11 + 20) by omega)).symm⟩
        · intro b106 b106b
          intro w107 w107b
          refine ix_i (by omega) ?_
          intro b109 b109b
          intro w110 w110b
          refine And.intro (fun c111 => ?_) (fun c111 => ?_)
          · refine hK 101 _ [] T ?_
            refine j_blx (F := fX3) tb_X3 (nn_ _) bk_X3_endHalf_e_101 bs_X3_endHalf_e_101 hz (fun K hK => ?_)
            intro b112 b112b
            intro w113 w113b
            refine bd_i (by omega) ?_
            refine x_nm (fun U114 hU114 => ?_)
            have e115 := up_f hU114
            refine bd_i (by omega) ?_
            refine x_nm (fun U116 hU116 => ?_)
            have e117 := up_f hU116
            refine (show po_X3_endHalf_e T p ru U116 (none) from ?_)
            have e118 : U116 103 p 3 = T 103 p 3 := (up_j hU116 (by decide) 103 p).trans (up_j hU114 (by decide) 103 p)
            have e119 : U116 470 p 0 = T 470 p 0 := (up_k hU116 (by exact Nat.ne_of_beq_eq_false rfl) p 0).trans (up_k hU114 (by exact Nat.ne_of_beq_eq_false rfl) p 0)
            have e120 : U116 470 p 1 = T 470 p 1 := (up_k hU116 (by exact Nat.ne_of_beq_eq_false rfl) p 1).trans (up_k hU114 (by exact Nat.ne_of_beq_eq_false rfl) p 1)
            have g121 : U116 470 p 0 = T 470 p 0 := (up_k hU116 (by exact Nat.ne_of_beq_eq_false rfl) p 0).trans (up_k hU114 (by exact Nat.ne_of_beq_eq_false rfl) p 0)
            have g122 : U116 470 p 1 = T 470 p 1 := (up_k hU116 (by exact Nat.ne_of_beq_eq_false rfl) p 1).trans (up_k hU114 (by exact Nat.ne_of_beq_eq_false rfl) p 1)
            have e123 : U116 103 p 3 = T 103 p 3 := (up_j hU116 (by decide) 103 p).trans (up_j hU114 (by decide) 103 p)
            have rU114 : rs9_ U114 p = u2_ (rs9_ T p) 103 4 (wr_ ((T 103 p 4) + 1)) := rs_u hU114 rfl
            have rU116 : rs9_ U116 p = u2_ (u2_ (rs9_ T p) 103 4 (wr_ ((T 103 p 4) + 1))) 103 5 1 := by rw [rs_u hU116 rfl, rU114]
            exact ⟨rfl, fr_u (fr_u (fr_0 _ _) hU114 rfl) hU116 rfl, oi_u (oi_u (oi_r) hU114) hU116, by exact fun _ => by omega, Eq.trans rU116 (eh9__4 (r := ru) (a := (rs9_ T p)) (show ¬ (T 103 p 5 = 1) by omega) (show ¬ ((wr_ (ru 11 - 1) ≤ T 103 p 4 ∧ T 468 p 0 ≠ T 468 p 1) ∨ wr_ (T 103 p 4 + 1) = wr_ (ru 11 + 20)) by omega)).symm⟩
          · refine bd_i (by omega) ?_
            refine x_nm (fun U124 hU124 => ?_)
            have e125 := up_f hU124
            refine (show po_X3_endHalf_e T p ru U124 (none) from ?_)
            have e126 : U124 103 p 3 = 1 := up_f hU124
            have e127 : U124 470 p 0 = T 470 p 0 := up_k hU124 (by exact Nat.ne_of_beq_eq_false rfl) p 0
            have e128 : U124 470 p 1 = T 470 p 1 := up_k hU124 (by exact Nat.ne_of_beq_eq_false rfl) p 1
            have g129 : U124 470 p 0 = T 470 p 0 := up_k hU124 (by exact Nat.ne_of_beq_eq_false rfl) p 0
            have g130 : U124 470 p 1 = T 470 p 1 := up_k hU124 (by exact Nat.ne_of_beq_eq_false rfl) p 1
            have e131 : U124 103 p 3 = 1 := up_f hU124
            have rU124 : rs9_ U124 p = u2_ (rs9_ T p) 103 3 1 := rs_u hU124 rfl
            exact ⟨rfl, fr_u (fr_0 _ _) hU124 rfl, oi_u (oi_r) hU124, by exact fun _ => by omega, Eq.trans rU124 (eh9__1 (r := ru) (a := (rs9_ T p)) (show T 103 p 5 = 1 by omega) (show wr_ (ru 11 - 1) ≤ T 103 p 4 ∧ T 468 p 1 < T 468 p 0 by omega)).symm⟩
  · refine hK 9 _ [vR 103 p] T ?_
    refine j_callV (y := yX3_isLastInning) (Yc := zX3_isLastInning) (rest := []) [] (ct_X3_isLastInning_e (T := T) (ru := ru) (by exact hr)) cl_X3_147 (qd_c (by decide +kernel)) (nn_ _) rfl (rf_of rfl) (Nat.le_of_ble_eq_true rfl) (Nat.le_of_ble_eq_true rfl) (Nat.le_of_ble_eq_true rfl) rfl ?_
    rintro _ _ ⟨rfl, x132, rfl, hx132⟩
    show J_ zX3_endHalf T (po_X3_endHalf_e T p ru) 0 0 12 _ [vI x132] T
    refine j_blx (F := fX3) tb_X3 (nn_ _) bk_X3_endHalf_e_12 bs_X3_endHalf_e_12 hz (fun K hK => ?_)
    refine And.intro (fun c133 => ?_) (fun c133 => ?_)
    · replace hx132 := hx132.resolve_left (fun z => absurd (c133.symm.trans z.1) (by decide))
      clear c133
      refine hK 38 _ [] T ?_
      refine j_blx (F := fX3) tb_X3 (nn_ _) bk_X3_endHalf_e_38 bs_X3_endHalf_e_38 hz (fun K hK => ?_)
      refine bd_i (by omega) ?_
      refine x_nm (fun U134 hU134 => ?_)
      have e135 := up_f hU134
      refine (show po_X3_endHalf_e T p ru U134 (none) from ?_)
      have e136 : U134 103 p 3 = T 103 p 3 := up_j hU134 (by decide) 103 p
      have e137 : U134 470 p 0 = T 470 p 0 := up_k hU134 (by exact Nat.ne_of_beq_eq_false rfl) p 0
      have e138 : U134 470 p 1 = T 470 p 1 := up_k hU134 (by exact Nat.ne_of_beq_eq_false rfl) p 1
      have g139 : U134 470 p 0 = T 470 p 0 := up_k hU134 (by exact Nat.ne_of_beq_eq_false rfl) p 0
      have g140 : U134 470 p 1 = T 470 p 1 := up_k hU134 (by exact Nat.ne_of_beq_eq_false rfl) p 1
      have e141 : U134 103 p 3 = T 103 p 3 := up_j hU134 (by decide) 103 p
      have rU134 : rs9_ U134 p = u2_ (rs9_ T p) 103 5 0 := rs_u hU134 rfl
      exact ⟨rfl, fr_u (fr_0 _ _) hU134 rfl, oi_u (oi_r) hU134, by exact fun _ => by omega, Eq.trans rU134 (eh9__2 (r := ru) (a := (rs9_ T p)) (show T 103 p 5 = 1 by omega) (show ¬ (wr_ (ru 11 - 1) ≤ T 103 p 4 ∧ T 468 p 1 < T 468 p 0) by omega)).symm⟩
    · replace hx132 := hx132.resolve_right (fun z => c133 z.1)
      clear c133
      refine ix_i (by omega) ?_
      intro b142 b142b
      refine ix_i (by omega) ?_
      intro b143 b143b
      refine And.intro (fun c144 => ?_) (fun c144 => ?_)
      · refine hK 38 _ [] T ?_
        refine j_blx (F := fX3) tb_X3 (nn_ _) bk_X3_endHalf_e_38 bs_X3_endHalf_e_38 hz (fun K hK => ?_)
        refine bd_i (by omega) ?_
        refine x_nm (fun U145 hU145 => ?_)
        have e146 := up_f hU145
        refine (show po_X3_endHalf_e T p ru U145 (none) from ?_)
        have e147 : U145 103 p 3 = T 103 p 3 := up_j hU145 (by decide) 103 p
        have e148 : U145 470 p 0 = T 470 p 0 := up_k hU145 (by exact Nat.ne_of_beq_eq_false rfl) p 0
        have e149 : U145 470 p 1 = T 470 p 1 := up_k hU145 (by exact Nat.ne_of_beq_eq_false rfl) p 1
        have g150 : U145 470 p 0 = T 470 p 0 := up_k hU145 (by exact Nat.ne_of_beq_eq_false rfl) p 0
        have g151 : U145 470 p 1 = T 470 p 1 := up_k hU145 (by exact Nat.ne_of_beq_eq_false rfl) p 1
        have e152 : U145 103 p 3 = T 103 p 3 := up_j hU145 (by decide) 103 p
        have rU145 : rs9_ U145 p = u2_ (rs9_ T p) 103 5 0 := rs_u hU145 rfl
        exact ⟨rfl, fr_u (fr_0 _ _) hU145 rfl, oi_u (oi_r) hU145, by exact fun _ => by omega, Eq.trans rU145 (eh9__2 (r := ru) (a := (rs9_ T p)) (show T 103 p 5 = 1 by omega) (show ¬ (wr_ (ru 11 - 1) ≤ T 103 p 4 ∧ T 468 p 1 < T 468 p 0) by omega)).symm⟩
      · refine bd_i (by omega) ?_
        refine x_nm (fun U153 hU153 => ?_)
        have e154 := up_f hU153
        refine hK 43 _ [] U153 ?_
        refine j_blx (F := fX3) tb_X3 (nn_ _) bk_X3_endHalf_e_43 bs_X3_endHalf_e_43 hz (fun K hK => ?_)
        refine (show po_X3_endHalf_e T p ru U153 (none) from ?_)
        have e155 : U153 103 p 3 = 1 := up_f hU153
        have e156 : U153 470 p 0 = T 470 p 0 := up_k hU153 (by exact Nat.ne_of_beq_eq_false rfl) p 0
        have e157 : U153 470 p 1 = T 470 p 1 := up_k hU153 (by exact Nat.ne_of_beq_eq_false rfl) p 1
        have g158 : U153 470 p 0 = T 470 p 0 := up_k hU153 (by exact Nat.ne_of_beq_eq_false rfl) p 0
        have g159 : U153 470 p 1 = T 470 p 1 := up_k hU153 (by exact Nat.ne_of_beq_eq_false rfl) p 1
        have e160 : U153 103 p 3 = 1 := up_f hU153
        have rU153 : rs9_ U153 p = u2_ (rs9_ T p) 103 3 1 := rs_u hU153 rfl
        exact ⟨rfl, fr_u (fr_0 _ _) hU153 rfl, oi_u (oi_r) hU153, by exact fun _ => by omega, Eq.trans rU153 (eh9__1 (r := ru) (a := (rs9_ T p)) (show T 103 p 5 = 1 by omega) (show wr_ (ru 11 - 1) ≤ T 103 p 4 ∧ T 468 p 1 < T 468 p 0 by omega)).symm⟩
