-- readStatement and read of the house
def HS9_ (r : Qr9_ (Int × (Int → Int) × (Int → Int))) (T : Zt) : Prop := ∃ t v, r = Sum.inr (T 105 0 9, t, v) ∧ BT9_ (T 105 0 6) t ∧ VH9_ T v
def HV9_ (r : Qr9_ (Int → Int)) (T : Zt) : Prop := ∃ v, r = Sum.inr v ∧ VH9_ T v
theorem dv9_i {j : Int} (g : j < 16) : dv9_ j = (sa_ 0).getD j.toNat 0 := by
  unfold dv9_
  rw [if_neg (show ¬ j = 16 by omega), if_neg (show ¬ j = 17 by omega), if_neg (show ¬ 16 ≤ j by omega)]
theorem dv9_4 : dv9_ 4 = 2 := by decide +kernel
theorem dv9_16 : dv9_ (16 + 0) = 0 := by decide +kernel
theorem dv9_17 : dv9_ (16 + 1) = 1 := by decide +kernel
theorem VH9_p {T T' : Zt} {v : Int → Int} (h : VH9_ T v) (ho : ∀ j, j ≠ 1 → j ≠ 2 → j ≠ 3 → T' 504 0 j = T 504 0 j) (hk : ∀ j, T' 505 0 j = T 505 0 j) : VH9_ T' (u9_ (u9_ (u9_ v 1 (T' 504 0 1)) 2 (T' 504 0 2)) 3 (T' 504 0 3)) := by
  refine ⟨fun j a b => ?_, fun k a b => ?_⟩
  · by_cases z3 : j = 3
    · rw [z3, u9_e]
    · rw [u9_n z3]
      by_cases z2 : j = 2
      · rw [z2, u9_e]
      · rw [u9_n z2]
        by_cases z1 : j = 1
        · rw [z1, u9_e]
        · rw [u9_n z1, ho j z1 z2 z3]
          exact h.1 j a b
  · rw [u9_n (by decide), u9_n (by decide), u9_n (by decide)] at b
    rw [u9_n (show 16 + k ≠ 3 by omega), u9_n (show 16 + k ≠ 2 by omega), u9_n (show 16 + k ≠ 1 by omega), hk k]
    exact h.2 k a b
theorem bk_X5_readStatement_e_0 : ck_ fX5 (some .boolean) cX5_readStatement 0 [.aload 0] 1 = true := qck_r (nn_ _) (by decide +kernel)
theorem bs_X5_readStatement_e_0 {P : Zt → Option Zv → Prop} (K : Int → Zl → List Zv → Zt → Prop) : sx_ K P [.aload 0] 1 = x_aload 0 (K 1) := ((xe_aload 0).trans (congrArg (x_aload 0) xe_nil))
theorem bk_X5_readStatement_e_6 : ck_ fX5 (some .boolean) cX5_readStatement 6 [.istore 1, .iload 1, .iconst (-1), .if_icmp .ne 14, .iconst 0, .ireturn] 14 = true := qck_r (nn_ _) (by decide +kernel)
theorem bs_X5_readStatement_e_6 {P : Zt → Option Zv → Prop} (K : Int → Zl → List Zv → Zt → Prop) : sx_ K P [.istore 1, .iload 1, .iconst (-1), .if_icmp .ne 14, .iconst 0, .ireturn] 14 = x_istore 1 (x_iload 1 (x_iconst (-1) (x_if_icmp .ne 14 K (x_iconst 0 (x_ireturn P))))) := ((xe_istore 1).trans (congrArg (x_istore 1) ((xe_iload 1).trans (congrArg (x_iload 1) ((xe_iconst (-1)).trans (congrArg (x_iconst (-1)) ((xe_if_icmp .ne 14).trans (congrArg (x_if_icmp .ne 14 K) ((xe_iconst 0).trans (congrArg (x_iconst 0) (xe_ireturn)))))))))))
theorem bk_X5_readStatement_e_14 : ck_ fX5 (some .boolean) cX5_readStatement 14 [.aload 0, .tableswitch 0 5 6 #[], .iload 1, .ishr, .iconst 1, .iand, .ifCond .eq 31, .aload 0, .iconst 5] 27 = true := qck_r (nn_ _) (by decide +kernel)
theorem bs_X5_readStatement_e_14 {P : Zt → Option Zv → Prop} (K : Int → Zl → List Zv → Zt → Prop) : sx_ K P [.aload 0, .tableswitch 0 5 6 #[], .iload 1, .ishr, .iconst 1, .iand, .ifCond .eq 31, .aload 0, .iconst 5] 27 = x_aload 0 (x_g0 105 6 (-2147483648) 2147483647 (x_iload 1 (x_ishr (x_iconst 1 (x_iand (x_ifCond .eq 31 K (x_aload 0 (x_iconst 5 (K 27))))))))) := ((xe_aload 0).trans (congrArg (x_aload 0) ((xe_g0 (kk := 105) rfl tl_5_6).trans (congrArg (x_g0 105 6 (-2147483648) 2147483647) ((xe_iload 1).trans (congrArg (x_iload 1) ((xe_ishr).trans (congrArg (x_ishr) ((xe_iconst 1).trans (congrArg (x_iconst 1) ((xe_iand).trans (congrArg (x_iand) ((xe_ifCond .eq 31).trans (congrArg (x_ifCond .eq 31 K) ((xe_aload 0).trans (congrArg (x_aload 0) ((xe_iconst 5).trans (congrArg (x_iconst 5) xe_nil))))))))))))))))))
theorem bk_X5_readStatement_e_31 : ck_ fX5 (some .boolean) cX5_readStatement 31 [.aload 0, .dup, .tableswitch 0 5 6 #[], .iconst 1, .iload 1, .ishl, .ior, .tableswitch 1 5 6 #[], .iload 1] 44 = true := qck_r (nn_ _) (by decide +kernel)
theorem bs_X5_readStatement_e_31 {P : Zt → Option Zv → Prop} (K : Int → Zl → List Zv → Zt → Prop) : sx_ K P [.aload 0, .dup, .tableswitch 0 5 6 #[], .iconst 1, .iload 1, .ishl, .ior, .tableswitch 1 5 6 #[], .iload 1] 44 = x_aload 0 (x_dup (x_g0 105 6 (-2147483648) 2147483647 (x_iconst 1 (x_iload 1 (x_ishl (x_ior (x_p 105 6 (-2147483648) 2147483647 (x_iload 1 (K 44))))))))) := ((xe_aload 0).trans (congrArg (x_aload 0) ((xe_dup).trans (congrArg (x_dup) ((xe_g0 (kk := 105) rfl tl_5_6).trans (congrArg (x_g0 105 6 (-2147483648) 2147483647) ((xe_iconst 1).trans (congrArg (x_iconst 1) ((xe_iload 1).trans (congrArg (x_iload 1) ((xe_ishl).trans (congrArg (x_ishl) ((xe_ior).trans (congrArg (x_ior) ((xe_p (kk := 105) rfl tl_5_6).trans (congrArg (x_p 105 6 (-2147483648) 2147483647) ((xe_iload 1).trans (congrArg (x_iload 1) xe_nil))))))))))))))))))
theorem bk_X5_readStatement_e_76 : ck_ fX5 (some .boolean) cX5_readStatement 76 [.aload 0] 77 = true := qck_r (nn_ _) (by decide +kernel)
theorem bs_X5_readStatement_e_76 {P : Zt → Option Zv → Prop} (K : Int → Zl → List Zv → Zt → Prop) : sx_ K P [.aload 0] 77 = x_aload 0 (K 77) := ((xe_aload 0).trans (congrArg (x_aload 0) xe_nil))
theorem bk_X5_readStatement_e_80 : ck_ fX5 (some .boolean) cX5_readStatement 80 [.istore 2, .goto 124] 84 = true := qck_r (nn_ _) (by decide +kernel)
theorem bs_X5_readStatement_e_80 {P : Zt → Option Zv → Prop} (K : Int → Zl → List Zv → Zt → Prop) : sx_ K P [.istore 2, .goto 124] 84 = x_istore 2 (x_goto 124 K) := ((xe_istore 2).trans (congrArg (x_istore 2) (xe_goto 124)))
theorem bk_X5_readStatement_e_124 : ck_ fX5 (some .boolean) cX5_readStatement 124 [.iload 2, .ifCond .ne 130, .iconst 0, .ireturn] 130 = true := qck_r (nn_ _) (by decide +kernel)
theorem bs_X5_readStatement_e_124 {P : Zt → Option Zv → Prop} (K : Int → Zl → List Zv → Zt → Prop) : sx_ K P [.iload 2, .ifCond .ne 130, .iconst 0, .ireturn] 130 = x_iload 2 (x_ifCond .ne 130 K (x_iconst 0 (x_ireturn P))) := ((xe_iload 2).trans (congrArg (x_iload 2) ((xe_ifCond .ne 130).trans (congrArg (x_ifCond .ne 130 K) ((xe_iconst 0).trans (congrArg (x_iconst 0) (xe_ireturn)))))))
theorem bk_X5_readStatement_e_130 : ck_ fX5 (some .boolean) cX5_readStatement 130 [.aload 0] 131 = true := qck_r (nn_ _) (by decide +kernel)
theorem bs_X5_readStatement_e_130 {P : Zt → Option Zv → Prop} (K : Int → Zl → List Zv → Zt → Prop) : sx_ K P [.aload 0] 131 = x_aload 0 (K 131) := ((xe_aload 0).trans (congrArg (x_aload 0) xe_nil))
theorem bk_X5_readStatement_e_134 : ck_ fX5 (some .boolean) cX5_readStatement 134 [.aload 0, .iconst 3] 136 = true := qck_r (nn_ _) (by decide +kernel)
theorem bs_X5_readStatement_e_134 {P : Zt → Option Zv → Prop} (K : Int → Zl → List Zv → Zt → Prop) : sx_ K P [.aload 0, .iconst 3] 136 = x_aload 0 (x_iconst 3 (K 136)) := ((xe_aload 0).trans (congrArg (x_aload 0) ((xe_iconst 3).trans (congrArg (x_iconst 3) xe_nil))))
theorem bk_X5_readStatement_e_139 : ck_ fX5 (some .boolean) cX5_readStatement 139 [.ireturn] 140 = true := qck_r (nn_ _) (by decide +kernel)
theorem bs_X5_readStatement_e_139 {P : Zt → Option Zv → Prop} (K : Int → Zl → List Zv → Zt → Prop) : sx_ K P [.ireturn] 140 = x_ireturn P := (xe_ireturn)
theorem bk_X5_readStatement_e_84 : ck_ fX5 (some .boolean) cX5_readStatement 84 [.aload 0] 85 = true := qck_r (nn_ _) (by decide +kernel)
theorem bs_X5_readStatement_e_84 {P : Zt → Option Zv → Prop} (K : Int → Zl → List Zv → Zt → Prop) : sx_ K P [.aload 0] 85 = x_aload 0 (K 85) := ((xe_aload 0).trans (congrArg (x_aload 0) xe_nil))
theorem bk_X5_readStatement_e_88 : ck_ fX5 (some .boolean) cX5_readStatement 88 [.istore 2, .goto 124] 92 = true := qck_r (nn_ _) (by decide +kernel)
theorem bs_X5_readStatement_e_88 {P : Zt → Option Zv → Prop} (K : Int → Zl → List Zv → Zt → Prop) : sx_ K P [.istore 2, .goto 124] 92 = x_istore 2 (x_goto 124 K) := ((xe_istore 2).trans (congrArg (x_istore 2) (xe_goto 124)))
theorem bk_X5_readStatement_e_92 : ck_ fX5 (some .boolean) cX5_readStatement 92 [.aload 0] 93 = true := qck_r (nn_ _) (by decide +kernel)
theorem bs_X5_readStatement_e_92 {P : Zt → Option Zv → Prop} (K : Int → Zl → List Zv → Zt → Prop) : sx_ K P [.aload 0] 93 = x_aload 0 (K 93) := ((xe_aload 0).trans (congrArg (x_aload 0) xe_nil))
theorem bk_X5_readStatement_e_96 : ck_ fX5 (some .boolean) cX5_readStatement 96 [.ireturn] 97 = true := qck_r (nn_ _) (by decide +kernel)
theorem bs_X5_readStatement_e_96 {P : Zt → Option Zv → Prop} (K : Int → Zl → List Zv → Zt → Prop) : sx_ K P [.ireturn] 97 = x_ireturn P := (xe_ireturn)
theorem bk_X5_readStatement_e_97 : ck_ fX5 (some .boolean) cX5_readStatement 97 [.aload 0, .tableswitch 0 5 4 #[], .iconst 5, .iconst 1, .iastore, .iconst 1, .istore 2, .goto 124] 109 = true := qck_r (nn_ _) (by decide +kernel)
theorem bs_X5_readStatement_e_97 {P : Zt → Option Zv → Prop} (K : Int → Zl → List Zv → Zt → Prop) : sx_ K P [.aload 0, .tableswitch 0 5 4 #[], .iconst 5, .iconst 1, .iastore, .iconst 1, .istore 2, .goto 124] 109 = x_aload 0 (x_g1 105 504 (x_iconst 5 (x_iconst 1 (x_iastore (x_iconst 1 (x_istore 2 (x_goto 124 K))))))) := ((xe_aload 0).trans (congrArg (x_aload 0) ((xe_g1 (kk := 105) rfl tl_5_4).trans (congrArg (x_g1 105 504) ((xe_iconst 5).trans (congrArg (x_iconst 5) ((xe_iconst 1).trans (congrArg (x_iconst 1) ((xe_iastore).trans (congrArg (x_iastore) ((xe_iconst 1).trans (congrArg (x_iconst 1) ((xe_istore 2).trans (congrArg (x_istore 2) (xe_goto 124)))))))))))))))
theorem bk_X5_readStatement_e_109 : ck_ fX5 (some .boolean) cX5_readStatement 109 [.aload 0, .iload 1, .iconst 2, .iadd] 113 = true := qck_r (nn_ _) (by decide +kernel)
theorem bs_X5_readStatement_e_109 {P : Zt → Option Zv → Prop} (K : Int → Zl → List Zv → Zt → Prop) : sx_ K P [.aload 0, .iload 1, .iconst 2, .iadd] 113 = x_aload 0 (x_iload 1 (x_iconst 2 (x_iadd (K 113)))) := ((xe_aload 0).trans (congrArg (x_aload 0) ((xe_iload 1).trans (congrArg (x_iload 1) ((xe_iconst 2).trans (congrArg (x_iconst 2) ((xe_iadd).trans (congrArg (x_iadd) xe_nil))))))))
theorem bk_X5_readStatement_e_116 : ck_ fX5 (some .boolean) cX5_readStatement 116 [.iload 1, .iconst 2, .iadd] 119 = true := qck_r (nn_ _) (by decide +kernel)
theorem bs_X5_readStatement_e_116 {P : Zt → Option Zv → Prop} (K : Int → Zl → List Zv → Zt → Prop) : sx_ K P [.iload 1, .iconst 2, .iadd] 119 = x_iload 1 (x_iconst 2 (x_iadd (K 119))) := ((xe_iload 1).trans (congrArg (x_iload 1) ((xe_iconst 2).trans (congrArg (x_iconst 2) ((xe_iadd).trans (congrArg (x_iadd) xe_nil))))))
theorem bk_X5_readStatement_e_123 : ck_ fX5 (some .boolean) cX5_readStatement 123 [.istore 2, .iload 2, .ifCond .ne 130, .iconst 0, .ireturn] 130 = true := qck_r (nn_ _) (by decide +kernel)
theorem bs_X5_readStatement_e_123 {P : Zt → Option Zv → Prop} (K : Int → Zl → List Zv → Zt → Prop) : sx_ K P [.istore 2, .iload 2, .ifCond .ne 130, .iconst 0, .ireturn] 130 = x_istore 2 (x_iload 2 (x_ifCond .ne 130 K (x_iconst 0 (x_ireturn P)))) := ((xe_istore 2).trans (congrArg (x_istore 2) ((xe_iload 2).trans (congrArg (x_iload 2) ((xe_ifCond .ne 130).trans (congrArg (x_ifCond .ne 130 K) ((xe_iconst 0).trans (congrArg (x_iconst 0) (xe_ireturn)))))))))
theorem bk_X5_readStatement_e_30 : ck_ fX5 (some .boolean) cX5_readStatement 30 [.ireturn] 31 = true := qck_r (nn_ _) (by decide +kernel)
theorem bs_X5_readStatement_e_30 {P : Zt → Option Zv → Prop} (K : Int → Zl → List Zv → Zt → Prop) : sx_ K P [.ireturn] 31 = x_ireturn P := (xe_ireturn)
abbrev po_X5_readStatement_e (T : Zt) (a : Int) (t : Int → Int) (v : Int → Int) : Zt → Option Zv → Prop := fun T' r => ∃ x : Int, r = some (vI x) ∧ fr_ [(105, [7, 8, 9, 2, 3, 6]), (504, []), (505, [])] T T' ∧ ((x = 0 ∧ stf9_ (cl9_ (T 105 0 1) (fun j => T 500 0 j)) (T 105 0 1) a t v = Sum.inl (T' 105 0 2, T' 105 0 3)) ∨ (x = 1 ∧ HS9_ (stf9_ (cl9_ (T 105 0 1) (fun j => T 500 0 j)) (T 105 0 1) a t v) T' ∧ T' 105 0 2 = T 105 0 2 ∧ T' 105 0 3 = T 105 0 3 ∧ T 105 0 9 ≤ T' 105 0 9 ∧ T' 105 0 9 ≤ T 105 0 1))
set_option maxHeartbeats 4000000 in
theorem ct_X5_readStatement_e {T : Zt} {a : Int} {t : Int → Int} {v : Int → Int} (h0 : 0 ≤ a) (ht : TK9_ (fun j => T 500 0 j) (T 105 0 1) a (T 105 0 8) (T 105 0 9) (T 105 0 7)) (hb : BT9_ (T 105 0 6) t) (hv : VH9_ T v) : Ct_ yX5_readStatement zX5_readStatement T [vR 105 0] (po_X5_readStatement_e T a t v) := by
  refine ct_of pn_5 rfl rfl (Nat.le_of_ble_eq_true rfl) (fun hT hav => ?_)
  have hz : zX5_readStatement.2.2.2.1 = some .boolean → ∀ (T' : Zt) (x : Int), po_X5_readStatement_e T a t v T' (some (vI x)) → 0 ≤ x ∧ x ≤ 1 := fun _ T' x h => by obtain ⟨y, e, -, hy⟩ := h; cases e; omega
  have hln : 0 ≤ T 105 0 1 ∧ T 105 0 1 ≤ 400 := bd_f hT 105 1 tl_5_1 0
  have hte : 0 ≤ T 105 0 9 ∧ T 105 0 9 ≤ 400 := bd_f hT 105 9 tl_5_9 0
  have tr := tk9_r ht
  show J_ zX5_readStatement T (po_X5_readStatement_e T a t v) 0 0 0 [some (vR 105 0), none, none] [] T
  refine j_blx (F := fX5) tb_X5 (nn_ _) bk_X5_readStatement_e_0 bs_X5_readStatement_e_0 hz (fun K hK => ?_)
  refine hK 1 _ [vR 105 0] T ?_
  refine j_ldcS (pc := 1) (i := 0) (by decide) rfl (by decide) rfl (by decide +kernel) ?_
  show J_ zX5_readStatement T (po_X5_readStatement_e T a t v) 0 0 3 _ [vR 82 0, vR 105 0] T
  refine j_callV (y := yX5_wordOf) (Yc := zX5_wordOf) (rest := []) [vR 82 0] (ct_X5_wordOf_e0 (T := T) (by omega)) cl_X5_55 (qd_c (by decide +kernel)) (nn_ _) rfl (rf_of rfl) (Nat.le_of_ble_eq_true rfl) (Nat.le_of_ble_eq_true rfl) (Nat.le_of_ble_eq_true rfl) rfl ?_
  rintro U1 _ ⟨x2, rfl, fU1, qU1⟩
  show J_ zX5_readStatement T (po_X5_readStatement_e T a t v) 0 0 6 _ [vI x2] U1
  refine j_blx (F := fX5) tb_X5 (nn_ _) bk_X5_readStatement_e_6 bs_X5_readStatement_e_6 hz (fun K hK => ?_)
  refine And.intro (fun c3 => ?_) (fun c3 => ?_)
  · refine hK 14 [some (vR 105 0), some (vI x2), none] [] U1 ?_
    have hvw := wof9_h ds9_0 ht h0 qU1
    have hwi := (hvw.resolve_left (fun z => by omega)).2.1
    have hwj := (hvw.resolve_left (fun z => by omega)).1
    have hwk := (hvw.resolve_left (fun z => by omega)).2.2
    have hbx := hb.2 x2 (by omega) (by omega)
    refine j_blx (F := fX5) tb_X5 (nn_ _) bk_X5_readStatement_e_14 bs_X5_readStatement_e_14 hz (fun K hK => ?_)
    intro b4 b4b
    have e5 : U1 105 0 6 = T 105 0 6 := fU1 105 0 6 rfl
    rw [e5] at b4 b4b ⊢
    intro w6 w6b
    intro w7 w7b
    refine And.intro (fun c8 => ?_) (fun c8 => ?_)
    · refine hK 31 _ [] U1 ?_
      have hx0 : t x2 = 0 := by omega
      refine j_blx (F := fX5) tb_X5 (nn_ _) bk_X5_readStatement_e_31 bs_X5_readStatement_e_31 hz (fun K hK => ?_)
      intro b9 b9b
      have e10 : U1 105 0 6 = T 105 0 6 := fU1 105 0 6 rfl
      rw [e10] at b9 b9b ⊢
      intro w11 w11b
      intro w12 w12b
      refine bd_i (by omega) ?_
      refine x_nm (fun U13 hU13 => ?_)
      have e14 := up_f hU13
      refine hK 44 _ [vI x2] U13 ?_
      by_cases z15_0 : x2 = 0
      · refine j_tsI (pc := 44) 0 (off := 32) (tgt := 76) (by decide) ds_X5_readStatement_44 (by omega) (by decide) rfl (by decide) (by decide) ?_
        refine j_blx (F := fX5) tb_X5 (nn_ _) bk_X5_readStatement_e_76 bs_X5_readStatement_e_76 hz (fun K hK => ?_)
        refine hK 77 _ [vR 105 0] U13 ?_
        have e16 : U13 105 0 9 = T 105 0 9 := (up_j hU13 (by decide) 105 0).trans (fU1 105 0 9 rfl)
        have e17 : U13 105 0 1 = T 105 0 1 := (up_j hU13 (by decide) 105 0).trans (fU1 105 0 1 rfl)
        refine j_callV (y := yX5_readSport) (Yc := zX5_readSport) (rest := []) [] (ct_X5_readSport_e (T := U13) (by omega)) cl_X5_63 (qd_c (by decide +kernel)) (nn_ _) rfl (rf_of rfl) (Nat.le_of_ble_eq_true rfl) (Nat.le_of_ble_eq_true rfl) (Nat.le_of_ble_eq_true rfl) rfl ?_
        rintro U18 _ ⟨x19, rfl, fU18, qU18, oU18⟩
        show J_ zX5_readStatement T (po_X5_readStatement_e T a t v) 0 0 80 _ [vI x19] U18
        have hq := qU18
        have fb20 : fr_ [(105, [6, 2, 3])] T U13 := fr_u (fr_t (fr_0 _ _) (fr_s fU1 rfl)) hU13 rfl
        rw [show (fun j => U13 500 0 j) = fun j => T 500 0 j from funext fun j => fb20 500 0 j rfl, show U13 105 0 1 = T 105 0 1 from fb20 105 0 1 rfl, show U13 105 0 9 = T 105 0 9 from ((show fr_ [(105, [6, 2, 3])] T U13 from fr_u (fr_t (fr_0 _ _) (fr_s fU1 rfl)) hU13 rfl) 105 0 9 rfl)] at hq
        have hvh : VH9_ U18 (u9_ v 0 (U18 504 0 0)) := VH9_u (VH9_f hv (show fr_ [(105, [6, 2, 3])] T U13 from fr_u (fr_t (fr_0 _ _) (fr_s fU1 rfl)) hU13 rfl) (fun _ => rfl) (fun _ => rfl)) oU18 (fun j => fU18 505 0 j rfl) rfl (by decide) (by decide)
        have hbz : x19 = 0 → bdf9_ (cl9_ (T 105 0 1) (fun j => T 500 0 j)) (T 105 0 1) (T 105 0 9) x2 v = Sum.inl (U18 105 0 2, U18 105 0 3) := fun z => (bdf9_0 (by omega)).trans (bn9_l (hq.resolve_right (fun y => by omega)).2)
        have hbo : x19 = 1 → bdf9_ (cl9_ (T 105 0 1) (fun j => T 500 0 j)) (T 105 0 1) (T 105 0 9) x2 v = Sum.inr (U18 105 0 9, u9_ v 0 (U18 504 0 0)) := fun z => (bdf9_0 (by omega)).trans (bn9_r (hq.resolve_left (fun y => by omega)).2.1)
        have e21 : U13 105 0 2 = U1 105 0 2 := up_j hU13 (by decide) 105 0
        have e22 : U13 105 0 3 = U1 105 0 3 := up_j hU13 (by decide) 105 0
        have e23 : U18 105 0 1 = T 105 0 1 := (fU18 105 0 1 rfl).trans ((up_j hU13 (by decide) 105 0).trans (fU1 105 0 1 rfl))
        refine j_blx (F := fX5) tb_X5 (nn_ _) bk_X5_readStatement_e_80 bs_X5_readStatement_e_80 hz (fun K hK => ?_)
        refine hK 124 [some (vR 105 0), some (vI x2), some (vI x19)] [] U18 ?_
        refine j_blx (F := fX5) tb_X5 (nn_ _) bk_X5_readStatement_e_124 bs_X5_readStatement_e_124 hz (fun K hK => ?_)
        refine And.intro (fun c24 => ?_) (fun c24 => ?_)
        · refine hK 130 _ [] U18 ?_
          refine j_blx (F := fX5) tb_X5 (nn_ _) bk_X5_readStatement_e_130 bs_X5_readStatement_e_130 hz (fun K hK => ?_)
          refine hK 131 _ [vR 105 0] U18 ?_
          have hq2 := (hq.resolve_left (fun y => by omega)).2.2
          have e25 : U18 105 0 1 = T 105 0 1 := (fU18 105 0 1 rfl).trans ((up_j hU13 (by decide) 105 0).trans (fU1 105 0 1 rfl))
          refine j_callV (y := yX5_nextToken) (Yc := zX5_nextToken) (rest := []) [] (ct_X5_nextToken_e (T := U18) (by omega)) cl_X5_43 (qd_c (by decide +kernel)) (nn_ _) rfl (rf_of rfl) (Nat.le_of_ble_eq_true rfl) (Nat.le_of_ble_eq_true rfl) (Nat.le_of_ble_eq_true rfl) rfl ?_
          rintro U26 _ ⟨rfl, fU26, qU26⟩
          show J_ zX5_readStatement T (po_X5_readStatement_e T a t v) 0 0 134 _ [] U26
          have fb27 : fr_ [(105, [7, 8, 9, 2, 3, 6]), (504, [])] T U18 := fr_t (fr_u (fr_t (fr_0 _ _) (fr_s fU1 rfl)) hU13 rfl) (fr_s fU18 rfl)
          have toU26 := qU26
          rw [show (fun j => U18 500 0 j) = fun j => T 500 0 j from funext fun j => fb27 500 0 j rfl, show U18 105 0 1 = T 105 0 1 from fb27 105 0 1 rfl] at toU26
          have trU26 := tk9_r toU26
          refine j_blx (F := fX5) tb_X5 (nn_ _) bk_X5_readStatement_e_134 bs_X5_readStatement_e_134 hz (fun K hK => ?_)
          refine hK 136 _ [vI 3, vR 105 0] U26 ?_
          refine j_callV (y := yX5_isOfKind) (Yc := zX5_isOfKind) (rest := []) [vI 3] (ct_X5_isOfKind_e (T := U26)) cl_X5_79 (qd_c (by decide +kernel)) (nn_ _) rfl (rf_of rfl) (Nat.le_of_ble_eq_true rfl) (Nat.le_of_ble_eq_true rfl) (Nat.le_of_ble_eq_true rfl) rfl ?_
          rintro U28 _ ⟨x29, rfl, fU28, qU28⟩
          show J_ zX5_readStatement T (po_X5_readStatement_e T a t v) 0 0 139 _ [vI x29] U28
          refine j_blx (F := fX5) tb_X5 (nn_ _) bk_X5_readStatement_e_139 bs_X5_readStatement_e_139 hz (fun K hK => ?_)
          refine (show po_X5_readStatement_e T a t v U28 (some (vI x29)) from ?_)
          have e30 : U28 105 0 9 = U26 105 0 9 := fU28 105 0 9 rfl
          have hsm := smf9_h toU26 (by omega) qU28
          have hb1 := hbo (by omega)
          have hq1 := (hq.resolve_left (fun y => by omega)).2.2
          have st := (stf9_b hwi hx0 (by omega)).trans (bn9_r hb1)
          have e31 : U28 105 0 6 = or_ (T 105 0 6) (sl_ 1 x2) := (fU28 105 0 6 rfl).trans ((fU26 105 0 6 rfl).trans ((fU18 105 0 6 rfl).trans (up_f hU13)))
          have e32 : U26 105 0 2 = U18 105 0 2 := fU26 105 0 2 rfl
          have e33 : U26 105 0 3 = U18 105 0 3 := fU26 105 0 3 rfl
          have w9 : U28 105 0 9 = U26 105 0 9 := fU28 105 0 9 rfl
          rcases hsm with ⟨z1, z2⟩ | ⟨z1, z2, z3, z4⟩
          · exact ⟨_, rfl, fr_t (fr_t (fr_t (fr_u (fr_t (fr_0 _ _) (fr_s fU1 rfl)) hU13 rfl) (fr_s fU18 rfl)) (fr_s fU26 rfl)) (fr_s fU28 rfl), Or.inl ⟨z1, st.trans (bn9_l z2)⟩⟩
          · exact ⟨_, rfl, fr_t (fr_t (fr_t (fr_u (fr_t (fr_0 _ _) (fr_s fU1 rfl)) hU13 rfl) (fr_s fU18 rfl)) (fr_s fU26 rfl)) (fr_s fU28 rfl), Or.inr ⟨z1, ⟨u9_ t x2 1, u9_ v 0 (U18 504 0 0), by rw [w9]; exact st.trans (bn9_r z2), by rw [e31]; exact bt9_u hb (by omega) (by omega), VH9_f (VH9_f hvh fU26 (fun _ => rfl) (fun _ => rfl)) fU28 (fun _ => rfl) (fun _ => rfl)⟩, by omega, by omega, by omega, by omega⟩⟩
        · refine (show po_X5_readStatement_e T a t v U18 (some (vI 0)) from ?_)
          exact ⟨_, rfl, fr_t (fr_u (fr_t (fr_0 _ _) (fr_s fU1 rfl)) hU13 rfl) (fr_s fU18 rfl), Or.inl ⟨rfl, (stf9_b hwi hx0 (by omega)).trans (bn9_l (hbz (by omega)))⟩⟩
      by_cases z15_1 : x2 = 1
      · refine j_tsI (pc := 44) 1 (off := 40) (tgt := 84) (by decide) ds_X5_readStatement_44 (by omega) (by decide) rfl (by decide) (by decide) ?_
        refine j_blx (F := fX5) tb_X5 (nn_ _) bk_X5_readStatement_e_84 bs_X5_readStatement_e_84 hz (fun K hK => ?_)
        refine hK 85 _ [vR 105 0] U13 ?_
        have e34 : U13 105 0 9 = T 105 0 9 := (up_j hU13 (by decide) 105 0).trans (fU1 105 0 9 rfl)
        have e35 : U13 105 0 1 = T 105 0 1 := (up_j hU13 (by decide) 105 0).trans (fU1 105 0 1 rfl)
        refine j_callV (y := yX5_readPoints) (Yc := zX5_readPoints) (rest := []) [] (ct_X5_readPoints_e (T := U13) (by omega)) cl_X5_66 (qd_c (by decide +kernel)) (nn_ _) rfl (rf_of rfl) (Nat.le_of_ble_eq_true rfl) (Nat.le_of_ble_eq_true rfl) (Nat.le_of_ble_eq_true rfl) rfl ?_
        rintro U36 _ ⟨x37, rfl, fU36, qU36, oU36⟩
        show J_ zX5_readStatement T (po_X5_readStatement_e T a t v) 0 0 88 _ [vI x37] U36
        have hq := qU36
        have fb38 : fr_ [(105, [6, 2, 3])] T U13 := fr_u (fr_t (fr_0 _ _) (fr_s fU1 rfl)) hU13 rfl
        rw [show (fun j => U13 500 0 j) = fun j => T 500 0 j from funext fun j => fb38 500 0 j rfl, show U13 105 0 1 = T 105 0 1 from fb38 105 0 1 rfl, show U13 105 0 9 = T 105 0 9 from ((show fr_ [(105, [6, 2, 3])] T U13 from fr_u (fr_t (fr_0 _ _) (fr_s fU1 rfl)) hU13 rfl) 105 0 9 rfl)] at hq
        have hvh : VH9_ U36 (u9_ (u9_ (u9_ v 1 (U36 504 0 1)) 2 (U36 504 0 2)) 3 (U36 504 0 3)) := VH9_p (VH9_f hv (show fr_ [(105, [6, 2, 3])] T U13 from fr_u (fr_t (fr_0 _ _) (fr_s fU1 rfl)) hU13 rfl) (fun _ => rfl) (fun _ => rfl)) oU36 (fun j => fU36 505 0 j rfl)
        have hbz : x37 = 0 → bdf9_ (cl9_ (T 105 0 1) (fun j => T 500 0 j)) (T 105 0 1) (T 105 0 9) x2 v = Sum.inl (U36 105 0 2, U36 105 0 3) := fun z => (bdf9_1 (by omega)).trans (bn9_l (hq.resolve_right (fun y => by omega)).2)
        have hbo : x37 = 1 → bdf9_ (cl9_ (T 105 0 1) (fun j => T 500 0 j)) (T 105 0 1) (T 105 0 9) x2 v = Sum.inr (U36 105 0 9, u9_ (u9_ (u9_ v 1 (U36 504 0 1)) 2 (U36 504 0 2)) 3 (U36 504 0 3)) := fun z => (bdf9_1 (by omega)).trans (bn9_r (hq.resolve_left (fun y => by omega)).2.1)
        have e39 : U13 105 0 2 = U1 105 0 2 := up_j hU13 (by decide) 105 0
        have e40 : U13 105 0 3 = U1 105 0 3 := up_j hU13 (by decide) 105 0
        have e41 : U36 105 0 1 = T 105 0 1 := (fU36 105 0 1 rfl).trans ((up_j hU13 (by decide) 105 0).trans (fU1 105 0 1 rfl))
        refine j_blx (F := fX5) tb_X5 (nn_ _) bk_X5_readStatement_e_88 bs_X5_readStatement_e_88 hz (fun K hK => ?_)
        refine hK 124 [some (vR 105 0), some (vI x2), some (vI x37)] [] U36 ?_
        refine j_blx (F := fX5) tb_X5 (nn_ _) bk_X5_readStatement_e_124 bs_X5_readStatement_e_124 hz (fun K hK => ?_)
        refine And.intro (fun c42 => ?_) (fun c42 => ?_)
        · refine hK 130 _ [] U36 ?_
          refine j_blx (F := fX5) tb_X5 (nn_ _) bk_X5_readStatement_e_130 bs_X5_readStatement_e_130 hz (fun K hK => ?_)
          refine hK 131 _ [vR 105 0] U36 ?_
          have hq2 := (hq.resolve_left (fun y => by omega)).2.2
          have e43 : U36 105 0 1 = T 105 0 1 := (fU36 105 0 1 rfl).trans ((up_j hU13 (by decide) 105 0).trans (fU1 105 0 1 rfl))
          refine j_callV (y := yX5_nextToken) (Yc := zX5_nextToken) (rest := []) [] (ct_X5_nextToken_e (T := U36) (by omega)) cl_X5_43 (qd_c (by decide +kernel)) (nn_ _) rfl (rf_of rfl) (Nat.le_of_ble_eq_true rfl) (Nat.le_of_ble_eq_true rfl) (Nat.le_of_ble_eq_true rfl) rfl ?_
          rintro U44 _ ⟨rfl, fU44, qU44⟩
          show J_ zX5_readStatement T (po_X5_readStatement_e T a t v) 0 0 134 _ [] U44
          have fb45 : fr_ [(105, [7, 8, 9, 2, 3, 6]), (504, [])] T U36 := fr_t (fr_u (fr_t (fr_0 _ _) (fr_s fU1 rfl)) hU13 rfl) (fr_s fU36 rfl)
          have toU44 := qU44
          rw [show (fun j => U36 500 0 j) = fun j => T 500 0 j from funext fun j => fb45 500 0 j rfl, show U36 105 0 1 = T 105 0 1 from fb45 105 0 1 rfl] at toU44
          have trU44 := tk9_r toU44
          refine j_blx (F := fX5) tb_X5 (nn_ _) bk_X5_readStatement_e_134 bs_X5_readStatement_e_134 hz (fun K hK => ?_)
          refine hK 136 _ [vI 3, vR 105 0] U44 ?_
          refine j_callV (y := yX5_isOfKind) (Yc := zX5_isOfKind) (rest := []) [vI 3] (ct_X5_isOfKind_e (T := U44)) cl_X5_79 (qd_c (by decide +kernel)) (nn_ _) rfl (rf_of rfl) (Nat.le_of_ble_eq_true rfl) (Nat.le_of_ble_eq_true rfl) (Nat.le_of_ble_eq_true rfl) rfl ?_
          rintro U46 _ ⟨x47, rfl, fU46, qU46⟩
          show J_ zX5_readStatement T (po_X5_readStatement_e T a t v) 0 0 139 _ [vI x47] U46
          refine j_blx (F := fX5) tb_X5 (nn_ _) bk_X5_readStatement_e_139 bs_X5_readStatement_e_139 hz (fun K hK => ?_)
          refine (show po_X5_readStatement_e T a t v U46 (some (vI x47)) from ?_)
          have e48 : U46 105 0 9 = U44 105 0 9 := fU46 105 0 9 rfl
          have hsm := smf9_h toU44 (by omega) qU46
          have hb1 := hbo (by omega)
          have hq1 := (hq.resolve_left (fun y => by omega)).2.2
          have st := (stf9_b hwi hx0 (by omega)).trans (bn9_r hb1)
          have e49 : U46 105 0 6 = or_ (T 105 0 6) (sl_ 1 x2) := (fU46 105 0 6 rfl).trans ((fU44 105 0 6 rfl).trans ((fU36 105 0 6 rfl).trans (up_f hU13)))
          have e50 : U44 105 0 2 = U36 105 0 2 := fU44 105 0 2 rfl
          have e51 : U44 105 0 3 = U36 105 0 3 := fU44 105 0 3 rfl
          have w9 : U46 105 0 9 = U44 105 0 9 := fU46 105 0 9 rfl
          rcases hsm with ⟨z1, z2⟩ | ⟨z1, z2, z3, z4⟩
          · exact ⟨_, rfl, fr_t (fr_t (fr_t (fr_u (fr_t (fr_0 _ _) (fr_s fU1 rfl)) hU13 rfl) (fr_s fU36 rfl)) (fr_s fU44 rfl)) (fr_s fU46 rfl), Or.inl ⟨z1, st.trans (bn9_l z2)⟩⟩
          · exact ⟨_, rfl, fr_t (fr_t (fr_t (fr_u (fr_t (fr_0 _ _) (fr_s fU1 rfl)) hU13 rfl) (fr_s fU36 rfl)) (fr_s fU44 rfl)) (fr_s fU46 rfl), Or.inr ⟨z1, ⟨u9_ t x2 1, u9_ (u9_ (u9_ v 1 (U36 504 0 1)) 2 (U36 504 0 2)) 3 (U36 504 0 3), by rw [w9]; exact st.trans (bn9_r z2), by rw [e49]; exact bt9_u hb (by omega) (by omega), VH9_f (VH9_f hvh fU44 (fun _ => rfl) (fun _ => rfl)) fU46 (fun _ => rfl) (fun _ => rfl)⟩, by omega, by omega, by omega, by omega⟩⟩
        · refine (show po_X5_readStatement_e T a t v U36 (some (vI 0)) from ?_)
          exact ⟨_, rfl, fr_t (fr_u (fr_t (fr_0 _ _) (fr_s fU1 rfl)) hU13 rfl) (fr_s fU36 rfl), Or.inl ⟨rfl, (stf9_b hwi hx0 (by omega)).trans (bn9_l (hbz (by omega)))⟩⟩
      by_cases z15_2 : x2 = 2
      · refine j_tsI (pc := 44) 2 (off := 48) (tgt := 92) (by decide) ds_X5_readStatement_44 (by omega) (by decide) rfl (by decide) (by decide) ?_
        refine j_blx (F := fX5) tb_X5 (nn_ _) bk_X5_readStatement_e_92 bs_X5_readStatement_e_92 hz (fun K hK => ?_)
        refine hK 93 _ [vR 105 0] U13 ?_
        have e52 : U13 105 0 9 = T 105 0 9 := (up_j hU13 (by decide) 105 0).trans (fU1 105 0 9 rfl)
        have e53 : U13 105 0 1 = T 105 0 1 := (up_j hU13 (by decide) 105 0).trans (fU1 105 0 1 rfl)
        refine j_callV (y := yX5_readOrder) (Yc := zX5_readOrder) (rest := []) [] (ct_X5_readOrder_e (T := U13) (v := v) (by omega) (VH9_f hv (show fr_ [(105, [6, 2, 3])] T U13 from fr_u (fr_t (fr_0 _ _) (fr_s fU1 rfl)) hU13 rfl) (fun _ => rfl) (fun _ => rfl))) cl_X5_69 (qd_c (by decide +kernel)) (nn_ _) rfl (rf_of rfl) (Nat.le_of_ble_eq_true rfl) (Nat.le_of_ble_eq_true rfl) (Nat.le_of_ble_eq_true rfl) rfl ?_
        rintro U54 _ ⟨x55, rfl, fU54, qU54⟩
        show J_ zX5_readStatement T (po_X5_readStatement_e T a t v) 0 0 96 _ [vI x55] U54
        refine j_blx (F := fX5) tb_X5 (nn_ _) bk_X5_readStatement_e_96 bs_X5_readStatement_e_96 hz (fun K hK => ?_)
        refine (show po_X5_readStatement_e T a t v U54 (some (vI x55)) from ?_)
        have hq := qU54
        have fb56 : fr_ [(105, [6, 2, 3])] T U13 := fr_u (fr_t (fr_0 _ _) (fr_s fU1 rfl)) hU13 rfl
        rw [show (fun j => U13 500 0 j) = fun j => T 500 0 j from funext fun j => fb56 500 0 j rfl, show U13 105 0 1 = T 105 0 1 from fb56 105 0 1 rfl, show U13 105 0 9 = T 105 0 9 from ((show fr_ [(105, [6, 2, 3])] T U13 from fr_u (fr_t (fr_0 _ _) (fr_s fU1 rfl)) hU13 rfl) 105 0 9 rfl)] at hq
        have e57 : U54 105 0 6 = or_ (T 105 0 6) (sl_ 1 x2) := (fU54 105 0 6 rfl).trans (up_f hU13)
        have e58 : U13 105 0 2 = U1 105 0 2 := up_j hU13 (by decide) 105 0
        have e59 : U13 105 0 3 = U1 105 0 3 := up_j hU13 (by decide) 105 0
        rcases hq with ⟨z1, z2⟩ | ⟨z1, ⟨v9, z2, z3⟩, z4⟩
        · exact ⟨_, rfl, fr_t (fr_u (fr_t (fr_0 _ _) (fr_s fU1 rfl)) hU13 rfl) (fr_s fU54 rfl), Or.inl ⟨z1, (stf9_o hwi hx0 (by omega)).trans (bn9_l z2)⟩⟩
        · exact ⟨_, rfl, fr_t (fr_u (fr_t (fr_0 _ _) (fr_s fU1 rfl)) hU13 rfl) (fr_s fU54 rfl), Or.inr ⟨z1, ⟨u9_ t x2 1, v9, (stf9_o hwi hx0 (by omega)).trans (bn9_r z2), by rw [e57]; exact bt9_u hb (by omega) (by omega), z3⟩, by omega, by omega, by omega, by omega⟩⟩
      by_cases z15_3 : x2 = 3
      · refine j_tsI (pc := 44) 3 (off := 53) (tgt := 97) (by decide) ds_X5_readStatement_44 (by omega) (by decide) rfl (by decide) (by decide) ?_
        refine j_blx (F := fX5) tb_X5 (nn_ _) bk_X5_readStatement_e_97 bs_X5_readStatement_e_97 hz (fun K hK => ?_)
        refine iy_i (by omega) (by omega) ?_
        refine x_nm (fun U60 hU60 => ?_)
        have e61 := up_f hU60
        refine hK 124 [some (vR 105 0), some (vI x2), some (vI 1)] [] U60 ?_
        have hbd : bdf9_ (cl9_ (T 105 0 1) (fun j => T 500 0 j)) (T 105 0 1) (T 105 0 9) x2 v = Sum.inr (U60 105 0 9, u9_ v 5 1) := by
          rw [(up_k hU60 (by exact Nat.ne_of_beq_eq_false rfl) 0 9 : U60 105 0 9 = U13 105 0 9), show U13 105 0 9 = T 105 0 9 from (show fr_ [(105, [6, 2, 3])] T U13 from fr_u (fr_t (fr_0 _ _) (fr_s fU1 rfl)) hU13 rfl) 105 0 9 rfl]
          exact bdf9_3 (by omega)
        have hvh : VH9_ U60 (u9_ v 5 1) := VH9_u (VH9_f hv (show fr_ [(105, [6, 2, 3])] T U13 from fr_u (fr_t (fr_0 _ _) (fr_s fU1 rfl)) hU13 rfl) (fun _ => rfl) (fun _ => rfl)) (fun j hj => up_g hU60 (fun z => hj z.2.2)) (fun j => up_k hU60 (by exact Nat.ne_of_beq_eq_false rfl) 0 j) (up_f hU60) (by decide) (by decide)
        have e62 : U60 105 0 2 = U1 105 0 2 := (up_k hU60 (by exact Nat.ne_of_beq_eq_false rfl) 0 2).trans (up_j hU13 (by decide) 105 0)
        have e63 : U60 105 0 3 = U1 105 0 3 := (up_k hU60 (by exact Nat.ne_of_beq_eq_false rfl) 0 3).trans (up_j hU13 (by decide) 105 0)
        have e64 : U60 105 0 9 = T 105 0 9 := (up_k hU60 (by exact Nat.ne_of_beq_eq_false rfl) 0 9).trans ((up_j hU13 (by decide) 105 0).trans (fU1 105 0 9 rfl))
        have e65 : U60 105 0 1 = T 105 0 1 := (up_k hU60 (by exact Nat.ne_of_beq_eq_false rfl) 0 1).trans ((up_j hU13 (by decide) 105 0).trans (fU1 105 0 1 rfl))
        refine j_blx (F := fX5) tb_X5 (nn_ _) bk_X5_readStatement_e_124 bs_X5_readStatement_e_124 hz (fun K hK => ?_)
        refine And.intro (fun c66 => ?_) (fun c66 => ?_)
        · refine hK 130 _ [] U60 ?_
          refine j_blx (F := fX5) tb_X5 (nn_ _) bk_X5_readStatement_e_130 bs_X5_readStatement_e_130 hz (fun K hK => ?_)
          refine hK 131 _ [vR 105 0] U60 ?_
          have e67 : U60 105 0 9 = T 105 0 9 := (up_k hU60 (by exact Nat.ne_of_beq_eq_false rfl) 0 9).trans ((up_j hU13 (by decide) 105 0).trans (fU1 105 0 9 rfl))
          have e68 : U60 105 0 1 = T 105 0 1 := (up_k hU60 (by exact Nat.ne_of_beq_eq_false rfl) 0 1).trans ((up_j hU13 (by decide) 105 0).trans (fU1 105 0 1 rfl))
          refine j_callV (y := yX5_nextToken) (Yc := zX5_nextToken) (rest := []) [] (ct_X5_nextToken_e (T := U60) (by omega)) cl_X5_43 (qd_c (by decide +kernel)) (nn_ _) rfl (rf_of rfl) (Nat.le_of_ble_eq_true rfl) (Nat.le_of_ble_eq_true rfl) (Nat.le_of_ble_eq_true rfl) rfl ?_
          rintro U69 _ ⟨rfl, fU69, qU69⟩
          show J_ zX5_readStatement T (po_X5_readStatement_e T a t v) 0 0 134 _ [] U69
          have fb70 : fr_ [(504, []), (105, [6, 2, 3])] T U60 := fr_u (fr_u (fr_t (fr_0 _ _) (fr_s fU1 rfl)) hU13 rfl) hU60 rfl
          have toU69 := qU69
          rw [show (fun j => U60 500 0 j) = fun j => T 500 0 j from funext fun j => fb70 500 0 j rfl, show U60 105 0 1 = T 105 0 1 from fb70 105 0 1 rfl] at toU69
          have trU69 := tk9_r toU69
          refine j_blx (F := fX5) tb_X5 (nn_ _) bk_X5_readStatement_e_134 bs_X5_readStatement_e_134 hz (fun K hK => ?_)
          refine hK 136 _ [vI 3, vR 105 0] U69 ?_
          refine j_callV (y := yX5_isOfKind) (Yc := zX5_isOfKind) (rest := []) [vI 3] (ct_X5_isOfKind_e (T := U69)) cl_X5_79 (qd_c (by decide +kernel)) (nn_ _) rfl (rf_of rfl) (Nat.le_of_ble_eq_true rfl) (Nat.le_of_ble_eq_true rfl) (Nat.le_of_ble_eq_true rfl) rfl ?_
          rintro U71 _ ⟨x72, rfl, fU71, qU71⟩
          show J_ zX5_readStatement T (po_X5_readStatement_e T a t v) 0 0 139 _ [vI x72] U71
          refine j_blx (F := fX5) tb_X5 (nn_ _) bk_X5_readStatement_e_139 bs_X5_readStatement_e_139 hz (fun K hK => ?_)
          refine (show po_X5_readStatement_e T a t v U71 (some (vI x72)) from ?_)
          have e73 : U71 105 0 9 = U69 105 0 9 := fU71 105 0 9 rfl
          have hsm := smf9_h toU69 (by omega) qU71
          have hb1 := hbd
          have st := (stf9_b hwi hx0 (by omega)).trans (bn9_r hb1)
          have e74 : U71 105 0 6 = or_ (T 105 0 6) (sl_ 1 x2) := (fU71 105 0 6 rfl).trans ((fU69 105 0 6 rfl).trans ((up_k hU60 (by exact Nat.ne_of_beq_eq_false rfl) 0 6).trans (up_f hU13)))
          have e75 : U69 105 0 2 = U1 105 0 2 := (fU69 105 0 2 rfl).trans ((up_k hU60 (by exact Nat.ne_of_beq_eq_false rfl) 0 2).trans (up_j hU13 (by decide) 105 0))
          have e76 : U69 105 0 3 = U1 105 0 3 := (fU69 105 0 3 rfl).trans ((up_k hU60 (by exact Nat.ne_of_beq_eq_false rfl) 0 3).trans (up_j hU13 (by decide) 105 0))
          have w9 : U71 105 0 9 = U69 105 0 9 := fU71 105 0 9 rfl
          rcases hsm with ⟨z1, z2⟩ | ⟨z1, z2, z3, z4⟩
          · exact ⟨_, rfl, fr_t (fr_t (fr_u (fr_u (fr_t (fr_0 _ _) (fr_s fU1 rfl)) hU13 rfl) hU60 rfl) (fr_s fU69 rfl)) (fr_s fU71 rfl), Or.inl ⟨z1, st.trans (bn9_l z2)⟩⟩
          · exact ⟨_, rfl, fr_t (fr_t (fr_u (fr_u (fr_t (fr_0 _ _) (fr_s fU1 rfl)) hU13 rfl) hU60 rfl) (fr_s fU69 rfl)) (fr_s fU71 rfl), Or.inr ⟨z1, ⟨u9_ t x2 1, u9_ v 5 1, by rw [w9]; exact st.trans (bn9_r z2), by rw [e74]; exact bt9_u hb (by omega) (by omega), VH9_f (VH9_f hvh fU69 (fun _ => rfl) (fun _ => rfl)) fU71 (fun _ => rfl) (fun _ => rfl)⟩, by omega, by omega, by omega, by omega⟩⟩
        · exact absurd c66 (by decide)
      refine j_tsO (pc := 44) (tgt := 109) (by decide) ds_X5_readStatement_44 (by omega) (by decide) (by decide) ?_
      refine j_blx (F := fX5) tb_X5 (nn_ _) bk_X5_readStatement_e_109 bs_X5_readStatement_e_109 hz (fun K hK => ?_)
      refine rg_i (by omega) ?_
      refine hK 113 _ [vI (x2 + 2), vR 105 0] U13 ?_
      refine j_gs81 (pc := 113) (i := 2) (by decide) (by decide) (lwq_3 (dqc_m (dqa_m (dqa_m (List.mem_of_getElem? (i := 4) rfl)))) rfl : Cond.fieldLink RX5 72 "SportsHouse$RuleText" (sn_ 2) "[I" ∈ lw_g) (by decide +kernel) ?_
      show J_ zX5_readStatement T (po_X5_readStatement_e T a t v) 0 0 116 _ [vR 81 2, vI (x2 + 2), vR 105 0] U13
      refine j_blx (F := fX5) tb_X5 (nn_ _) bk_X5_readStatement_e_116 bs_X5_readStatement_e_116 hz (fun K hK => ?_)
      refine rg_i (by omega) ?_
      refine hK 119 _ [vI (x2 + 2), vR 81 2, vI (x2 + 2), vR 105 0] U13 ?_
      refine j_ld81 (pc := 119) (i := 2) (by decide) (by decide) (by omega) (by omega) (by decide +kernel) ?_
      have y77 := sa_b 2 (by decide) (x2 + 2).toNat (by omega)
      show J_ zX5_readStatement T (po_X5_readStatement_e T a t v) 0 0 120 _ [vI ((sa_ 2).getD (x2 + 2).toNat 0), vI (x2 + 2), vR 105 0] U13
      have e78 : U13 105 0 9 = T 105 0 9 := (up_j hU13 (by decide) 105 0).trans (fU1 105 0 9 rfl)
      have e79 : U13 105 0 1 = T 105 0 1 := (up_j hU13 (by decide) 105 0).trans (fU1 105 0 1 rfl)
      refine j_callV (y := yX5_readRule) (Yc := zX5_readRule) (rest := []) [vI (x2 + 2), vI ((sa_ 2).getD (x2 + 2).toNat 0)] (ct_X5_readRule_e (T := U13) (by omega) (by omega)) cl_X5_75 (qd_c (by decide +kernel)) (nn_ _) rfl (rf_of rfl) (Nat.le_of_ble_eq_true rfl) (Nat.le_of_ble_eq_true rfl) (Nat.le_of_ble_eq_true rfl) rfl ?_
      rintro U80 _ ⟨x81, rfl, fU80, qU80, oU80⟩
      show J_ zX5_readStatement T (po_X5_readStatement_e T a t v) 0 0 123 _ [vI x81] U80
      have hq := qU80
      have fb82 : fr_ [(105, [6, 2, 3])] T U13 := fr_u (fr_t (fr_0 _ _) (fr_s fU1 rfl)) hU13 rfl
      rw [show (fun j => U13 500 0 j) = fun j => T 500 0 j from funext fun j => fb82 500 0 j rfl, show U13 105 0 1 = T 105 0 1 from fb82 105 0 1 rfl, show U13 105 0 9 = T 105 0 9 from ((show fr_ [(105, [6, 2, 3])] T U13 from fr_u (fr_t (fr_0 _ _) (fr_s fU1 rfl)) hU13 rfl) 105 0 9 rfl)] at hq
      have hvh : VH9_ U80 (u9_ v (x2 + 2) (U80 504 0 (x2 + 2))) := VH9_u (VH9_f hv (show fr_ [(105, [6, 2, 3])] T U13 from fr_u (fr_t (fr_0 _ _) (fr_s fU1 rfl)) hU13 rfl) (fun _ => rfl) (fun _ => rfl)) oU80 (fun j => fU80 505 0 j rfl) rfl (by omega) (by omega)
      have hbz : x81 = 0 → bdf9_ (cl9_ (T 105 0 1) (fun j => T 500 0 j)) (T 105 0 1) (T 105 0 9) x2 v = Sum.inl (U80 105 0 2, U80 105 0 3) := fun z => (bdf9_4 (by omega)).trans (bn9_l (hq.resolve_right (fun y => by omega)).2)
      have hbo : x81 = 1 → bdf9_ (cl9_ (T 105 0 1) (fun j => T 500 0 j)) (T 105 0 1) (T 105 0 9) x2 v = Sum.inr (U80 105 0 9, u9_ v (x2 + 2) (U80 504 0 (x2 + 2))) := fun z => (bdf9_4 (by omega)).trans (bn9_r (hq.resolve_left (fun y => by omega)).2.1)
      have e83 : U13 105 0 2 = U1 105 0 2 := up_j hU13 (by decide) 105 0
      have e84 : U13 105 0 3 = U1 105 0 3 := up_j hU13 (by decide) 105 0
      have e85 : U80 105 0 1 = T 105 0 1 := (fU80 105 0 1 rfl).trans ((up_j hU13 (by decide) 105 0).trans (fU1 105 0 1 rfl))
      refine j_blx (F := fX5) tb_X5 (nn_ _) bk_X5_readStatement_e_123 bs_X5_readStatement_e_123 hz (fun K hK => ?_)
      refine And.intro (fun c86 => ?_) (fun c86 => ?_)
      · refine hK 130 [some (vR 105 0), some (vI x2), some (vI x81)] [] U80 ?_
        refine j_blx (F := fX5) tb_X5 (nn_ _) bk_X5_readStatement_e_130 bs_X5_readStatement_e_130 hz (fun K hK => ?_)
        refine hK 131 _ [vR 105 0] U80 ?_
        have hq2 := (hq.resolve_left (fun y => by omega)).2.2
        have e87 : U80 105 0 1 = T 105 0 1 := (fU80 105 0 1 rfl).trans ((up_j hU13 (by decide) 105 0).trans (fU1 105 0 1 rfl))
        refine j_callV (y := yX5_nextToken) (Yc := zX5_nextToken) (rest := []) [] (ct_X5_nextToken_e (T := U80) (by omega)) cl_X5_43 (qd_c (by decide +kernel)) (nn_ _) rfl (rf_of rfl) (Nat.le_of_ble_eq_true rfl) (Nat.le_of_ble_eq_true rfl) (Nat.le_of_ble_eq_true rfl) rfl ?_
        rintro U88 _ ⟨rfl, fU88, qU88⟩
        show J_ zX5_readStatement T (po_X5_readStatement_e T a t v) 0 0 134 _ [] U88
        have fb89 : fr_ [(105, [7, 8, 9, 2, 3, 6]), (504, [])] T U80 := fr_t (fr_u (fr_t (fr_0 _ _) (fr_s fU1 rfl)) hU13 rfl) (fr_s fU80 rfl)
        have toU88 := qU88
        rw [show (fun j => U80 500 0 j) = fun j => T 500 0 j from funext fun j => fb89 500 0 j rfl, show U80 105 0 1 = T 105 0 1 from fb89 105 0 1 rfl] at toU88
        have trU88 := tk9_r toU88
        refine j_blx (F := fX5) tb_X5 (nn_ _) bk_X5_readStatement_e_134 bs_X5_readStatement_e_134 hz (fun K hK => ?_)
        refine hK 136 _ [vI 3, vR 105 0] U88 ?_
        refine j_callV (y := yX5_isOfKind) (Yc := zX5_isOfKind) (rest := []) [vI 3] (ct_X5_isOfKind_e (T := U88)) cl_X5_79 (qd_c (by decide +kernel)) (nn_ _) rfl (rf_of rfl) (Nat.le_of_ble_eq_true rfl) (Nat.le_of_ble_eq_true rfl) (Nat.le_of_ble_eq_true rfl) rfl ?_
        rintro U90 _ ⟨x91, rfl, fU90, qU90⟩
        show J_ zX5_readStatement T (po_X5_readStatement_e T a t v) 0 0 139 _ [vI x91] U90
        refine j_blx (F := fX5) tb_X5 (nn_ _) bk_X5_readStatement_e_139 bs_X5_readStatement_e_139 hz (fun K hK => ?_)
        refine (show po_X5_readStatement_e T a t v U90 (some (vI x91)) from ?_)
        have e92 : U90 105 0 9 = U88 105 0 9 := fU90 105 0 9 rfl
        have hsm := smf9_h toU88 (by omega) qU90
        have hb1 := hbo (by omega)
        have hq1 := (hq.resolve_left (fun y => by omega)).2.2
        have st := (stf9_b hwi hx0 (by omega)).trans (bn9_r hb1)
        have e93 : U90 105 0 6 = or_ (T 105 0 6) (sl_ 1 x2) := (fU90 105 0 6 rfl).trans ((fU88 105 0 6 rfl).trans ((fU80 105 0 6 rfl).trans (up_f hU13)))
        have e94 : U88 105 0 2 = U80 105 0 2 := fU88 105 0 2 rfl
        have e95 : U88 105 0 3 = U80 105 0 3 := fU88 105 0 3 rfl
        have w9 : U90 105 0 9 = U88 105 0 9 := fU90 105 0 9 rfl
        rcases hsm with ⟨z1, z2⟩ | ⟨z1, z2, z3, z4⟩
        · exact ⟨_, rfl, fr_t (fr_t (fr_t (fr_u (fr_t (fr_0 _ _) (fr_s fU1 rfl)) hU13 rfl) (fr_s fU80 rfl)) (fr_s fU88 rfl)) (fr_s fU90 rfl), Or.inl ⟨z1, st.trans (bn9_l z2)⟩⟩
        · exact ⟨_, rfl, fr_t (fr_t (fr_t (fr_u (fr_t (fr_0 _ _) (fr_s fU1 rfl)) hU13 rfl) (fr_s fU80 rfl)) (fr_s fU88 rfl)) (fr_s fU90 rfl), Or.inr ⟨z1, ⟨u9_ t x2 1, u9_ v (x2 + 2) (U80 504 0 (x2 + 2)), by rw [w9]; exact st.trans (bn9_r z2), by rw [e93]; exact bt9_u hb (by omega) (by omega), VH9_f (VH9_f hvh fU88 (fun _ => rfl) (fun _ => rfl)) fU90 (fun _ => rfl) (fun _ => rfl)⟩, by omega, by omega, by omega, by omega⟩⟩
      · refine (show po_X5_readStatement_e T a t v U80 (some (vI 0)) from ?_)
        exact ⟨_, rfl, fr_t (fr_u (fr_t (fr_0 _ _) (fr_s fU1 rfl)) hU13 rfl) (fr_s fU80 rfl), Or.inl ⟨rfl, (stf9_b hwi hx0 (by omega)).trans (bn9_l (hbz (by omega)))⟩⟩
    · refine hK 27 _ [vI 5, vR 105 0] U1 ?_
      refine j_callV (y := yX5_fail) (Yc := zX5_fail) (rest := []) [vI 5] (ct_X5_fail_e (T := U1) (by omega)) cl_X5_59 (qd_c (by decide +kernel)) (nn_ _) rfl (rf_of rfl) (Nat.le_of_ble_eq_true rfl) (Nat.le_of_ble_eq_true rfl) (Nat.le_of_ble_eq_true rfl) rfl ?_
      rintro U96 _ ⟨x97, rfl, fU96, qU96⟩
      show J_ zX5_readStatement T (po_X5_readStatement_e T a t v) 0 0 30 _ [vI x97] U96
      refine j_blx (F := fX5) tb_X5 (nn_ _) bk_X5_readStatement_e_30 bs_X5_readStatement_e_30 hz (fun K hK => ?_)
      refine (show po_X5_readStatement_e T a t v U96 (some (vI x97)) from ?_)
      have e98 : U96 105 0 9 = T 105 0 9 := (fU96 105 0 9 rfl).trans (fU1 105 0 9 rfl)
      have hx1 : t x2 ≠ 0 := by omega
      have e8U1 : U1 105 0 8 = T 105 0 8 := fU1 105 0 8 rfl
      refine ⟨_, rfl, fr_t (fr_t (fr_0 _ _) (fr_s fU1 rfl)) (fr_s fU96 rfl), Or.inl ⟨by omega, ?_⟩⟩
      rw [show U96 105 0 2 = 5 by omega, show U96 105 0 3 = T 105 0 8 by omega]
      exact stf9_5 hwi ht h0 hx1
  · refine (show po_X5_readStatement_e T a t v U1 (some (vI 0)) from ?_)
    have e99 : U1 105 0 9 = T 105 0 9 := fU1 105 0 9 rfl
    have hvw := wof9_h ds9_0 ht h0 qU1
    exact ⟨_, rfl, fr_t (fr_0 _ _) (fr_s fU1 rfl), Or.inl ⟨rfl, stf9_w (hvw.resolve_right (fun z => by omega)).2⟩⟩
theorem bk_X5_read_e_73 : ck_ fX5 (some .boolean) cX5_read 73 [.aload 0, .tableswitch 0 5 7 #[], .ifCond .eq 106, .iload 1, .iconst 400, .if_icmp .gt 106, .aload 0] 88 = true := qck_r (nn_ _) (by decide +kernel)
theorem bs_X5_read_e_73 {P : Zt → Option Zv → Prop} (K : Int → Zl → List Zv → Zt → Prop) : sx_ K P [.aload 0, .tableswitch 0 5 7 #[], .ifCond .eq 106, .iload 1, .iconst 400, .if_icmp .gt 106, .aload 0] 88 = x_aload 0 (x_g0 105 7 0 5 (x_ifCond .eq 106 K (x_iload 1 (x_iconst 400 (x_if_icmp .gt 106 K (x_aload 0 (K 88))))))) := ((xe_aload 0).trans (congrArg (x_aload 0) ((xe_g0 (kk := 105) rfl tl_5_7).trans (congrArg (x_g0 105 7 0 5) ((xe_ifCond .eq 106).trans (congrArg (x_ifCond .eq 106 K) ((xe_iload 1).trans (congrArg (x_iload 1) ((xe_iconst 400).trans (congrArg (x_iconst 400) ((xe_if_icmp .gt 106).trans (congrArg (x_if_icmp .gt 106 K) ((xe_aload 0).trans (congrArg (x_aload 0) xe_nil))))))))))))))
theorem bk_X5_read_e_106 : ck_ fX5 (some .boolean) cX5_read 106 [.iconst 1, .ireturn] 108 = true := qck_r (nn_ _) (by decide +kernel)
theorem bs_X5_read_e_106 {P : Zt → Option Zv → Prop} (K : Int → Zl → List Zv → Zt → Prop) : sx_ K P [.iconst 1, .ireturn] 108 = x_iconst 1 (x_ireturn P) := ((xe_iconst 1).trans (congrArg (x_iconst 1) (xe_ireturn)))
theorem bk_X5_read_e_91 : ck_ fX5 (some .boolean) cX5_read 91 [.ifCond .ne 96, .iconst 0, .ireturn] 96 = true := qck_r (nn_ _) (by decide +kernel)
theorem bs_X5_read_e_91 {P : Zt → Option Zv → Prop} (K : Int → Zl → List Zv → Zt → Prop) : sx_ K P [.ifCond .ne 96, .iconst 0, .ireturn] 96 = x_ifCond .ne 96 K (x_iconst 0 (x_ireturn P)) := ((xe_ifCond .ne 96).trans (congrArg (x_ifCond .ne 96 K) ((xe_iconst 0).trans (congrArg (x_iconst 0) (xe_ireturn)))))
theorem bk_X5_read_e_96 : ck_ fX5 (some .boolean) cX5_read 96 [.aload 0] 97 = true := qck_r (nn_ _) (by decide +kernel)
theorem bs_X5_read_e_96 {P : Zt → Option Zv → Prop} (K : Int → Zl → List Zv → Zt → Prop) : sx_ K P [.aload 0] 97 = x_aload 0 (K 97) := ((xe_aload 0).trans (congrArg (x_aload 0) xe_nil))
theorem bk_X5_read_e_100 : ck_ fX5 (some .boolean) cX5_read 100 [.iinc 1 1, .goto 73] 106 = true := qck_r (nn_ _) (by decide +kernel)
theorem bs_X5_read_e_100 {P : Zt → Option Zv → Prop} (K : Int → Zl → List Zv → Zt → Prop) : sx_ K P [.iinc 1 1, .goto 73] 106 = x_iinc 1 1 (x_goto 73 K) := ((xe_iinc 1 1).trans (congrArg (x_iinc 1 1) (xe_goto 73)))
theorem bk_X5_read_e_22 : ck_ fX5 (some .boolean) cX5_read 22 [.iload 1, .iconst 16, .if_icmp .ge 45, .aload 0, .tableswitch 0 5 4 #[], .iload 1] 33 = true := qck_r (nn_ _) (by decide +kernel)
theorem bs_X5_read_e_22 {P : Zt → Option Zv → Prop} (K : Int → Zl → List Zv → Zt → Prop) : sx_ K P [.iload 1, .iconst 16, .if_icmp .ge 45, .aload 0, .tableswitch 0 5 4 #[], .iload 1] 33 = x_iload 1 (x_iconst 16 (x_if_icmp .ge 45 K (x_aload 0 (x_g1 105 504 (x_iload 1 (K 33)))))) := ((xe_iload 1).trans (congrArg (x_iload 1) ((xe_iconst 16).trans (congrArg (x_iconst 16) ((xe_if_icmp .ge 45).trans (congrArg (x_if_icmp .ge 45 K) ((xe_aload 0).trans (congrArg (x_aload 0) ((xe_g1 (kk := 105) rfl tl_5_4).trans (congrArg (x_g1 105 504) ((xe_iload 1).trans (congrArg (x_iload 1) xe_nil))))))))))))
theorem bk_X5_read_e_45 : ck_ fX5 (some .boolean) cX5_read 45 [.aload 0, .tableswitch 0 5 5 #[], .iconst (-1)] 50 = true := qck_r (nn_ _) (by decide +kernel)
theorem bs_X5_read_e_45 {P : Zt → Option Zv → Prop} (K : Int → Zl → List Zv → Zt → Prop) : sx_ K P [.aload 0, .tableswitch 0 5 5 #[], .iconst (-1)] 50 = x_aload 0 (x_g1 105 505 (x_iconst (-1) (K 50))) := ((xe_aload 0).trans (congrArg (x_aload 0) ((xe_g1 (kk := 105) rfl tl_5_5).trans (congrArg (x_g1 105 505) ((xe_iconst (-1)).trans (congrArg (x_iconst (-1)) xe_nil))))))
theorem bk_X5_read_e_53 : ck_ fX5 (some .boolean) cX5_read 53 [.aload 0, .tableswitch 0 5 5 #[], .iconst 0, .iconst 0, .iastore, .aload 0, .tableswitch 0 5 5 #[], .iconst 1, .iconst 1, .iastore, .aload 0] 68 = true := qck_r (nn_ _) (by decide +kernel)
theorem bs_X5_read_e_53 {P : Zt → Option Zv → Prop} (K : Int → Zl → List Zv → Zt → Prop) : sx_ K P [.aload 0, .tableswitch 0 5 5 #[], .iconst 0, .iconst 0, .iastore, .aload 0, .tableswitch 0 5 5 #[], .iconst 1, .iconst 1, .iastore, .aload 0] 68 = x_aload 0 (x_g1 105 505 (x_iconst 0 (x_iconst 0 (x_iastore (x_aload 0 (x_g1 105 505 (x_iconst 1 (x_iconst 1 (x_iastore (x_aload 0 (K 68))))))))))) := ((xe_aload 0).trans (congrArg (x_aload 0) ((xe_g1 (kk := 105) rfl tl_5_5).trans (congrArg (x_g1 105 505) ((xe_iconst 0).trans (congrArg (x_iconst 0) ((xe_iconst 0).trans (congrArg (x_iconst 0) ((xe_iastore).trans (congrArg (x_iastore) ((xe_aload 0).trans (congrArg (x_aload 0) ((xe_g1 (kk := 105) rfl tl_5_5).trans (congrArg (x_g1 105 505) ((xe_iconst 1).trans (congrArg (x_iconst 1) ((xe_iconst 1).trans (congrArg (x_iconst 1) ((xe_iastore).trans (congrArg (x_iastore) ((xe_aload 0).trans (congrArg (x_aload 0) xe_nil))))))))))))))))))))))
theorem bk_X5_read_e_71 : ck_ fX5 (some .boolean) cX5_read 71 [.iconst 0, .istore 1] 73 = true := qck_r (nn_ _) (by decide +kernel)
theorem bs_X5_read_e_71 {P : Zt → Option Zv → Prop} (K : Int → Zl → List Zv → Zt → Prop) : sx_ K P [.iconst 0, .istore 1] 73 = x_iconst 0 (x_istore 1 (K 73)) := ((xe_iconst 0).trans (congrArg (x_iconst 0) ((xe_istore 1).trans (congrArg (x_istore 1) xe_nil))))
theorem bk_X5_read_e_36 : ck_ fX5 (some .boolean) cX5_read 36 [.iload 1] 37 = true := qck_r (nn_ _) (by decide +kernel)
theorem bs_X5_read_e_36 {P : Zt → Option Zv → Prop} (K : Int → Zl → List Zv → Zt → Prop) : sx_ K P [.iload 1] 37 = x_iload 1 (K 37) := ((xe_iload 1).trans (congrArg (x_iload 1) xe_nil))
theorem bk_X5_read_e_38 : ck_ fX5 (some .boolean) cX5_read 38 [.iastore, .iinc 1 1, .goto 22] 45 = true := qck_r (nn_ _) (by decide +kernel)
theorem bs_X5_read_e_38 {P : Zt → Option Zv → Prop} (K : Int → Zl → List Zv → Zt → Prop) : sx_ K P [.iastore, .iinc 1 1, .goto 22] 45 = x_iastore (x_iinc 1 1 (x_goto 22 K)) := ((xe_iastore).trans (congrArg (x_iastore) ((xe_iinc 1 1).trans (congrArg (x_iinc 1 1) (xe_goto 22)))))
theorem bk_X5_read_e_0 : ck_ fX5 (some .boolean) cX5_read 0 [.aload 0, .iconst 0, .tableswitch 1 5 2 #[], .aload 0, .iconst (-1), .tableswitch 1 5 3 #[], .aload 0, .iconst 0, .tableswitch 1 5 6 #[], .aload 0, .iconst 0, .tableswitch 1 5 9 #[], .iconst 0, .istore 1] 22 = true := qck_r (nn_ _) (by decide +kernel)
theorem bs_X5_read_e_0 {P : Zt → Option Zv → Prop} (K : Int → Zl → List Zv → Zt → Prop) : sx_ K P [.aload 0, .iconst 0, .tableswitch 1 5 2 #[], .aload 0, .iconst (-1), .tableswitch 1 5 3 #[], .aload 0, .iconst 0, .tableswitch 1 5 6 #[], .aload 0, .iconst 0, .tableswitch 1 5 9 #[], .iconst 0, .istore 1] 22 = x_aload 0 (x_iconst 0 (x_p 105 2 0 5 (x_aload 0 (x_iconst (-1) (x_p 105 3 (-1) 400 (x_aload 0 (x_iconst 0 (x_p 105 6 (-2147483648) 2147483647 (x_aload 0 (x_iconst 0 (x_p 105 9 0 400 (x_iconst 0 (x_istore 1 (K 22)))))))))))))) := ((xe_aload 0).trans (congrArg (x_aload 0) ((xe_iconst 0).trans (congrArg (x_iconst 0) ((xe_p (kk := 105) rfl tl_5_2).trans (congrArg (x_p 105 2 0 5) ((xe_aload 0).trans (congrArg (x_aload 0) ((xe_iconst (-1)).trans (congrArg (x_iconst (-1)) ((xe_p (kk := 105) rfl tl_5_3).trans (congrArg (x_p 105 3 (-1) 400) ((xe_aload 0).trans (congrArg (x_aload 0) ((xe_iconst 0).trans (congrArg (x_iconst 0) ((xe_p (kk := 105) rfl tl_5_6).trans (congrArg (x_p 105 6 (-2147483648) 2147483647) ((xe_aload 0).trans (congrArg (x_aload 0) ((xe_iconst 0).trans (congrArg (x_iconst 0) ((xe_p (kk := 105) rfl tl_5_9).trans (congrArg (x_p 105 9 0 400) ((xe_iconst 0).trans (congrArg (x_iconst 0) ((xe_istore 1).trans (congrArg (x_istore 1) xe_nil))))))))))))))))))))))))))))
abbrev po_X5_read_e (T : Zt) : Zt → Option Zv → Prop := fun T' r => ∃ x : Int, r = some (vI x) ∧ fr_ [(105, [7, 8, 9, 2, 3, 6]), (504, []), (505, [])] T T' ∧ ((x = 0 ∧ rdf9_ 402 (cl9_ (T 105 0 1) (fun j => T 500 0 j)) (T 105 0 1) 0 (fun _ => 0) dv9_ = Sum.inl (T' 105 0 2, T' 105 0 3)) ∨ (x = 1 ∧ HV9_ (rdf9_ 402 (cl9_ (T 105 0 1) (fun j => T 500 0 j)) (T 105 0 1) 0 (fun _ => 0) dv9_) T' ∧ T' 105 0 3 = -1))
set_option maxHeartbeats 4000000 in
theorem ct_X5_read_e {T : Zt} : Ct_ yX5_read zX5_read T [vR 105 0] (po_X5_read_e T) := by
  refine ct_of pn_5 rfl rfl (Nat.le_of_ble_eq_true rfl) (fun hT hav => ?_)
  have hz : zX5_read.2.2.2.1 = some .boolean → ∀ (T' : Zt) (x : Int), po_X5_read_e T T' (some (vI x)) → 0 ≤ x ∧ x ≤ 1 := fun _ T' x h => by obtain ⟨y, e, -, hy⟩ := h; cases e; omega
  have hln : 0 ≤ T 105 0 1 ∧ T 105 0 1 ≤ 400 := bd_f hT 105 1 tl_5_1 0
  show J_ zX5_read T (po_X5_read_e T) 0 0 0 [some (vR 105 0), none] [] T
  have c_73 : ∀ (nn : Nat) (n : Int) (f : Nat) (a : Int) (t : Int → Int) (v : Int → Int) (T2 : Zt), ((401 - n).toNat) ≤ nn → (fr_ [(105, [7, 8, 9, 2, 3, 6]), (504, []), (505, [])] T T2) → (0 ≤ n ∧ n ≤ a ∧ 401 ≤ (f : Int) + a ∧ T2 105 0 2 = 0 ∧ T2 105 0 3 = -1) → (0 ≤ a) → (TK9_ (fun j => T 500 0 j) (T 105 0 1) a (T2 105 0 8) (T2 105 0 9) (T2 105 0 7)) → (BT9_ (T2 105 0 6) t) → (VH9_ T2 v) → (rdf9_ 402 (cl9_ (T 105 0 1) (fun j => T 500 0 j)) (T 105 0 1) 0 (fun _ => 0) dv9_ = rdf9_ (f + 1) (cl9_ (T 105 0 1) (fun j => T 500 0 j)) (T 105 0 1) a t v) → J_ zX5_read T (po_X5_read_e T) 0 0 73 [some (vR 105 0), some (vI n)] [] T2 := by
    intro nn
    induction nn using Nat.strongRecOn with
    | _ nn ih_73 =>
      intro n f a t v T2 hm_73 hf_73 i2 h0 tk hb hv ir
      replace hm_73 := fun (_ : Unit) => hm_73
      refine j_blx (F := fX5) tb_X5 (nn_ _) bk_X5_read_e_73 bs_X5_read_e_73 hz (fun K hK => ?_)
      intro b1 b1b
      refine And.intro (fun c2 => ?_) (fun c2 => ?_)
      · refine hK 106 _ [] T2 ?_
        refine j_blx (F := fX5) tb_X5 (nn_ _) bk_X5_read_e_106 bs_X5_read_e_106 hz (fun K hK => ?_)
        refine (show po_X5_read_e T T2 (some (vI 1)) from ?_)
        exact ⟨_, rfl, fr_t (fr_0 _ _) (fr_s hf_73 rfl), Or.inr ⟨rfl, ⟨_, ir.trans (rdf9_z tk h0 (by omega)), hv⟩, by omega⟩⟩
      · refine And.intro (fun c3 => ?_) (fun c3 => ?_)
        · exact absurd c3 (by have tr := tk9_r tk; omega)
        · refine hK 88 _ [vR 105 0] T2 ?_
          have tr := tk9_r tk
          have hk0 : T2 105 0 7 ≠ 0 := by omega
          have e4 : T2 105 0 1 = T 105 0 1 := hf_73 105 0 1 rfl
          refine j_callV (y := yX5_readStatement) (Yc := zX5_readStatement) (rest := []) [] (ct_X5_readStatement_e (T := T2) (a := a) (t := t) (v := v) h0 (by rw [show (fun j => T2 500 0 j) = fun j => T 500 0 j from funext fun j => hf_73 500 0 j rfl, show T2 105 0 1 = T 105 0 1 from hf_73 105 0 1 rfl]; exact tk) hb hv) cl_X5_49 (qd_c (by decide +kernel)) (nn_ _) rfl (rf_of rfl) (Nat.le_of_ble_eq_true rfl) (Nat.le_of_ble_eq_true rfl) (Nat.le_of_ble_eq_true rfl) rfl ?_
          rintro U5 _ ⟨x6, rfl, fU5, qU5⟩
          rw [show (fun j => T2 500 0 j) = fun j => T 500 0 j from funext fun j => hf_73 500 0 j rfl, show T2 105 0 1 = T 105 0 1 from hf_73 105 0 1 rfl] at qU5
          show J_ zX5_read T (po_X5_read_e T) 0 0 91 _ [vI x6] U5
          refine j_blx (F := fX5) tb_X5 (nn_ _) bk_X5_read_e_91 bs_X5_read_e_91 hz (fun K hK => ?_)
          refine And.intro (fun c7 => ?_) (fun c7 => ?_)
          · refine hK 96 _ [] U5 ?_
            obtain ⟨z1, ⟨t9, v9, z2, z3, z4⟩, z5⟩ := qU5.resolve_left (fun z => by omega)
            refine j_blx (F := fX5) tb_X5 (nn_ _) bk_X5_read_e_96 bs_X5_read_e_96 hz (fun K hK => ?_)
            refine hK 97 _ [vR 105 0] U5 ?_
            have e8 : U5 105 0 1 = T 105 0 1 := (fU5 105 0 1 rfl).trans (hf_73 105 0 1 rfl)
            refine j_callV (y := yX5_nextToken) (Yc := zX5_nextToken) (rest := []) [] (ct_X5_nextToken_e (T := U5) (by omega)) cl_X5_43 (qd_c (by decide +kernel)) (nn_ _) rfl (rf_of rfl) (Nat.le_of_ble_eq_true rfl) (Nat.le_of_ble_eq_true rfl) (Nat.le_of_ble_eq_true rfl) rfl ?_
            rintro U9 _ ⟨rfl, fU9, qU9⟩
            show J_ zX5_read T (po_X5_read_e T) 0 0 100 _ [] U9
            refine j_blx (F := fX5) tb_X5 (nn_ _) bk_X5_read_e_100 bs_X5_read_e_100 hz (fun K hK => ?_)
            refine rg_i (by omega) ?_
            refine hK 73 [some (vR 105 0), some (vI (n + 1))] [] U9 ?_
            have e10 : U9 105 0 2 = U5 105 0 2 := fU9 105 0 2 rfl
            have e11 : U9 105 0 3 = U5 105 0 3 := fU9 105 0 3 rfl
            have e12 : U9 105 0 6 = U5 105 0 6 := fU9 105 0 6 rfl
            refine ih_73 _ ?_ (n + 1) (f - 1) (U5 105 0 9) t9 v9 U9 (Nat.le_refl _) ?_ ?_ ?_ ?_ ?_ ?_ ?_
            · have hm_73 := hm_73 (); omega
            · exact fr_t (fr_t (fr_t (fr_0 _ _) (fr_s hf_73 rfl)) (fr_s fU5 rfl)) (fr_s fU9 rfl)
            · have tr2 := tk9_r qU9
              have y2 : U9 105 0 2 = U5 105 0 2 := fU9 105 0 2 rfl
              have y3 : U9 105 0 3 = U5 105 0 3 := fU9 105 0 3 rfl
              omega
            · omega
            have fb13 : fr_ [(105, [7, 8, 9, 2, 3, 6]), (504, []), (505, [])] T U5 := fr_t (fr_t (fr_0 _ _) (fr_s hf_73 rfl)) (fr_s fU5 rfl)
            · have z := qU9
              rw [show (fun j => U5 500 0 j) = fun j => T 500 0 j from funext fun j => fb13 500 0 j rfl, show U5 105 0 1 = T 105 0 1 from fb13 105 0 1 rfl] at z
              exact z
            · rw [show U9 105 0 6 = U5 105 0 6 from fU9 105 0 6 rfl]
              exact z3
            · exact VH9_f z4 fU9 (fun _ => rfl) (fun _ => rfl)
            · rw [show f - 1 + 1 = f by omega]
              exact ir.trans ((rdf9_s tk h0 hk0).trans (bn9_r z2))
          · refine (show po_X5_read_e T U5 (some (vI 0)) from ?_)
            exact ⟨_, rfl, fr_t (fr_t (fr_0 _ _) (fr_s hf_73 rfl)) (fr_s fU5 rfl), Or.inl ⟨rfl, ir.trans ((rdf9_s tk h0 hk0).trans (bn9_l (qU5.resolve_right (fun z => by omega)).2))⟩⟩
  have c_22 : ∀ (nn : Nat) (k : Int) (T1 : Zt), ((16 - k).toNat) ≤ nn → (fr_ [(105, [7, 8, 9, 2, 3, 6]), (504, []), (505, [])] T T1) → (0 ≤ k ∧ k ≤ 16 ∧ T1 105 0 2 = 0 ∧ T1 105 0 3 = -1 ∧ T1 105 0 6 = 0 ∧ T1 105 0 9 = 0) → (∀ j, 0 ≤ j → j < k → T1 504 0 j = (sa_ 0).getD j.toNat 0) → J_ zX5_read T (po_X5_read_e T) 0 0 22 [some (vR 105 0), some (vI k)] [] T1 := by
    intro nn
    induction nn using Nat.strongRecOn with
    | _ nn ih_22 =>
      intro k T1 hm_22 hf_22 i1 d1
      replace hm_22 := fun (_ : Unit) => hm_22
      refine j_blx (F := fX5) tb_X5 (nn_ _) bk_X5_read_e_22 bs_X5_read_e_22 hz (fun K hK => ?_)
      refine And.intro (fun c14 => ?_) (fun c14 => ?_)
      · refine hK 45 _ [] T1 ?_
        refine j_blx (F := fX5) tb_X5 (nn_ _) bk_X5_read_e_45 bs_X5_read_e_45 hz (fun K hK => ?_)
        refine hK 50 _ [vI (-1), vR 505 0] T1 ?_
        refine j_callS (y := yJ7_fill_53178) (Yc := zJ7_fill_53178) (rest := []) [vR 505 0, vI (-1)] (ct_J7_fill_505 (T := T1) (by omega)) cl_X5_37 (qd_c (by decide +kernel)) (nn_ _) rfl (rf_of rfl) (Nat.le_of_ble_eq_true rfl) (Nat.le_of_ble_eq_true rfl) (Nat.le_of_ble_eq_true rfl) rfl ?_
        rintro U15 _ ⟨rfl, fU15, qU15o, qU15⟩
        show J_ zX5_read T (po_X5_read_e T) 0 0 53 _ [] U15
        refine j_blx (F := fX5) tb_X5 (nn_ _) bk_X5_read_e_53 bs_X5_read_e_53 hz (fun K hK => ?_)
        refine iy_i (by omega) (by omega) ?_
        refine x_nm (fun U16 hU16 => ?_)
        have e17 := up_f hU16
        refine iy_i (by omega) (by omega) ?_
        refine x_nm (fun U18 hU18 => ?_)
        have e19 := up_f hU18
        refine hK 68 _ [vR 105 0] U18 ?_
        have e20 : U18 105 0 9 = T1 105 0 9 := (up_k hU18 (by exact Nat.ne_of_beq_eq_false rfl) 0 9).trans ((up_k hU16 (by exact Nat.ne_of_beq_eq_false rfl) 0 9).trans (fU15 105 0 9 rfl))
        have e21 : U18 105 0 1 = T 105 0 1 := (up_k hU18 (by exact Nat.ne_of_beq_eq_false rfl) 0 1).trans ((up_k hU16 (by exact Nat.ne_of_beq_eq_false rfl) 0 1).trans ((fU15 105 0 1 rfl).trans (hf_22 105 0 1 rfl)))
        refine j_callV (y := yX5_nextToken) (Yc := zX5_nextToken) (rest := []) [] (ct_X5_nextToken_e (T := U18) (by omega)) cl_X5_43 (qd_c (by decide +kernel)) (nn_ _) rfl (rf_of rfl) (Nat.le_of_ble_eq_true rfl) (Nat.le_of_ble_eq_true rfl) (Nat.le_of_ble_eq_true rfl) rfl ?_
        rintro U22 _ ⟨rfl, fU22, qU22⟩
        show J_ zX5_read T (po_X5_read_e T) 0 0 71 _ [] U22
        refine j_blx (F := fX5) tb_X5 (nn_ _) bk_X5_read_e_71 bs_X5_read_e_71 hz (fun K hK => ?_)
        refine hK 73 [some (vR 105 0), some (vI 0)] [] U22 ?_
        have e23 : U22 105 0 2 = T1 105 0 2 := (fU22 105 0 2 rfl).trans ((up_k hU18 (by exact Nat.ne_of_beq_eq_false rfl) 0 2).trans ((up_k hU16 (by exact Nat.ne_of_beq_eq_false rfl) 0 2).trans (fU15 105 0 2 rfl)))
        have e24 : U22 105 0 3 = T1 105 0 3 := (fU22 105 0 3 rfl).trans ((up_k hU18 (by exact Nat.ne_of_beq_eq_false rfl) 0 3).trans ((up_k hU16 (by exact Nat.ne_of_beq_eq_false rfl) 0 3).trans (fU15 105 0 3 rfl)))
        have e25 : U22 105 0 6 = T1 105 0 6 := (fU22 105 0 6 rfl).trans ((up_k hU18 (by exact Nat.ne_of_beq_eq_false rfl) 0 6).trans ((up_k hU16 (by exact Nat.ne_of_beq_eq_false rfl) 0 6).trans (fU15 105 0 6 rfl)))
        refine c_73 _ 0 401 0 (fun _ => 0) dv9_ U22 (Nat.le_refl _) ?_ ?_ ?_ ?_ ?_ ?_ ?_
        · exact fr_t (fr_u (fr_u (fr_t (fr_t (fr_0 _ _) (fr_s hf_22 rfl)) (fr_s fU15 rfl)) hU16 rfl) hU18 rfl) (fr_s fU22 rfl)
        · omega
        · omega
        have fb26 : fr_ [(505, []), (105, [7, 8, 9, 2, 3, 6]), (504, [])] T U18 := fr_u (fr_u (fr_t (fr_t (fr_0 _ _) (fr_s hf_22 rfl)) (fr_s fU15 rfl)) hU16 rfl) hU18 rfl
        have e27 : U18 105 0 9 = T1 105 0 9 := (up_k hU18 (by exact Nat.ne_of_beq_eq_false rfl) 0 9).trans ((up_k hU16 (by exact Nat.ne_of_beq_eq_false rfl) 0 9).trans (fU15 105 0 9 rfl))
        · have z := qU22
          rw [show (fun j => U18 500 0 j) = fun j => T 500 0 j from funext fun j => fb26 500 0 j rfl, show U18 105 0 1 = T 105 0 1 from fb26 105 0 1 rfl, show U18 105 0 9 = 0 by omega] at z
          exact z
        have e28 : U22 105 0 6 = T1 105 0 6 := (fU22 105 0 6 rfl).trans ((up_k hU18 (by exact Nat.ne_of_beq_eq_false rfl) 0 6).trans ((up_k hU16 (by exact Nat.ne_of_beq_eq_false rfl) 0 6).trans (fU15 105 0 6 rfl)))
        · rw [show U22 105 0 6 = 0 by omega]
          exact bt9_0
        · refine ⟨fun j a b => ?_, fun k9 a b => ?_⟩
          · rw [dv9_i b]
            exact ((fU22 504 0 j rfl).trans ((up_k hU18 (by exact Nat.ne_of_beq_eq_false rfl) 0 j).trans ((up_k hU16 (by exact Nat.ne_of_beq_eq_false rfl) 0 j).trans (fU15 504 0 j rfl)))).trans (d1 j a (by omega))
          · rw [dv9_4] at b
            rcases (by omega : k9 = 0 ∨ k9 = 1) with rfl | rfl
            · rw [dv9_16]
              exact (fU22 505 0 0 rfl).trans ((up_j hU18 (by decide) 505 0).trans (up_f hU16))
            · rw [dv9_17]
              exact (fU22 505 0 1 rfl).trans (up_f hU18)
        · rfl
      · refine hK 33 [some (vR 105 0), some (vI k)] [vI k, vR 504 0] T1 ?_
        refine j_gs81 (pc := 33) (i := 0) (by decide) (by decide) (lwq_2 (dqc_m (dqc_m (dqc_m (dqc_m (dqc_m (dqc_m (dqa_m (List.mem_of_getElem? (i := 3) rfl)))))))) rfl : Cond.fieldLink RX5 34 "SportsHouse$RuleText" (sn_ 0) "[I" ∈ lw_g) (by decide +kernel) ?_
        show J_ zX5_read T (po_X5_read_e T) 0 0 36 _ [vR 81 0, vI k, vR 504 0] T1
        refine j_blx (F := fX5) tb_X5 (nn_ _) bk_X5_read_e_36 bs_X5_read_e_36 hz (fun K hK => ?_)
        refine hK 37 _ [vI k, vR 81 0, vI k, vR 504 0] T1 ?_
        refine j_ld81 (pc := 37) (i := 0) (by decide) (by decide) (by omega) (by omega) (by decide +kernel) ?_
        have y29 := sa_b 0 (by decide) k.toNat (by omega)
        show J_ zX5_read T (po_X5_read_e T) 0 0 38 _ [vI ((sa_ 0).getD k.toNat 0), vI k, vR 504 0] T1
        refine j_blx (F := fX5) tb_X5 (nn_ _) bk_X5_read_e_38 bs_X5_read_e_38 hz (fun K hK => ?_)
        refine iy_i (by omega) (by omega) ?_
        refine x_nm (fun U30 hU30 => ?_)
        have e31 := up_f hU30
        refine rg_i (by omega) ?_
        refine hK 22 [some (vR 105 0), some (vI (k + 1))] [] U30 ?_
        have e32 : U30 105 0 2 = T1 105 0 2 := up_k hU30 (by exact Nat.ne_of_beq_eq_false rfl) 0 2
        have e33 : U30 105 0 3 = T1 105 0 3 := up_k hU30 (by exact Nat.ne_of_beq_eq_false rfl) 0 3
        have e34 : U30 105 0 6 = T1 105 0 6 := up_k hU30 (by exact Nat.ne_of_beq_eq_false rfl) 0 6
        have e35 : U30 105 0 9 = T1 105 0 9 := up_k hU30 (by exact Nat.ne_of_beq_eq_false rfl) 0 9
        refine ih_22 _ ?_ (k + 1) U30 (Nat.le_refl _) ?_ ?_ ?_
        · have hm_22 := hm_22 (); omega
        · exact fr_u (fr_t (fr_0 _ _) (fr_s hf_22 rfl)) hU30 rfl
        · omega
        · intro j a b
          by_cases z : j = k
          · rw [z]; exact up_f hU30
          · rw [up_g hU30 (fun q => z q.2.2)]; exact d1 j a (by omega)
  refine j_blx (F := fX5) tb_X5 (nn_ _) bk_X5_read_e_0 bs_X5_read_e_0 hz (fun K hK => ?_)
  refine bd_i (by omega) ?_
  refine x_nm (fun U36 hU36 => ?_)
  have e37 := up_f hU36
  refine bd_i (by omega) ?_
  refine x_nm (fun U38 hU38 => ?_)
  have e39 := up_f hU38
  refine bd_i (by omega) ?_
  refine x_nm (fun U40 hU40 => ?_)
  have e41 := up_f hU40
  refine bd_i (by omega) ?_
  refine x_nm (fun U42 hU42 => ?_)
  have e43 := up_f hU42
  refine hK 22 [some (vR 105 0), some (vI 0)] [] U42 ?_
  have e44 : U42 105 0 2 = 0 := (up_j hU42 (by decide) 105 0).trans ((up_j hU40 (by decide) 105 0).trans ((up_j hU38 (by decide) 105 0).trans (up_f hU36)))
  have e45 : U42 105 0 3 = (-1) := (up_j hU42 (by decide) 105 0).trans ((up_j hU40 (by decide) 105 0).trans (up_f hU38))
  have e46 : U42 105 0 6 = 0 := (up_j hU42 (by decide) 105 0).trans (up_f hU40)
  have e47 : U42 105 0 9 = 0 := up_f hU42
  refine c_22 _ 0 U42 (Nat.le_refl _) ?_ ?_ ?_
  · exact fr_u (fr_u (fr_u (fr_u (fr_0 _ _) hU36 rfl) hU38 rfl) hU40 rfl) hU42 rfl
  · omega
  · intro j a b; omega
-- wantNumber and readSport of the reference
theorem bk_X11_wantNumber_e_0 : ck_ fX11 none cX11_wantNumber 0 [.aload 0, .tableswitch 0 11 62 #[], .ifCond .eq 8, .return_] 8 = true := qck_r (nn_ _) (by decide +kernel)
theorem bs_X11_wantNumber_e_0 {P : Zt → Option Zv → Prop} (K : Int → Zl → List Zv → Zt → Prop) : sx_ K P [.aload 0, .tableswitch 0 11 62 #[], .ifCond .eq 8, .return_] 8 = x_aload 0 (x_g0 111 62 0 5 (x_ifCond .eq 8 K (x_return_ P))) := ((xe_aload 0).trans (congrArg (x_aload 0) ((xe_g0 (kk := 111) rfl tl_11_62).trans (congrArg (x_g0 111 62 0 5) ((xe_ifCond .eq 8).trans (congrArg (x_ifCond .eq 8 K) (xe_return_)))))))
theorem bk_X11_wantNumber_e_8 : ck_ fX11 none cX11_wantNumber 8 [.aload 0] 9 = true := qck_r (nn_ _) (by decide +kernel)
theorem bs_X11_wantNumber_e_8 {P : Zt → Option Zv → Prop} (K : Int → Zl → List Zv → Zt → Prop) : sx_ K P [.aload 0] 9 = x_aload 0 (K 9) := ((xe_aload 0).trans (congrArg (x_aload 0) xe_nil))
theorem bk_X11_wantNumber_e_12 : ck_ fX11 none cX11_wantNumber 12 [.aload 0, .tableswitch 0 11 62 #[], .ifCond .ne 36, .aload 0, .tableswitch 0 11 58 #[], .iconst 2, .if_icmp .eq 36, .aload 0, .iconst 2, .aload 0, .tableswitch 0 11 59 #[]] 33 = true := qck_r (nn_ _) (by decide +kernel)
theorem bs_X11_wantNumber_e_12 {P : Zt → Option Zv → Prop} (K : Int → Zl → List Zv → Zt → Prop) : sx_ K P [.aload 0, .tableswitch 0 11 62 #[], .ifCond .ne 36, .aload 0, .tableswitch 0 11 58 #[], .iconst 2, .if_icmp .eq 36, .aload 0, .iconst 2, .aload 0, .tableswitch 0 11 59 #[]] 33 = x_aload 0 (x_g0 111 62 0 5 (x_ifCond .ne 36 K (x_aload 0 (x_g0 111 58 0 4 (x_iconst 2 (x_if_icmp .eq 36 K (x_aload 0 (x_iconst 2 (x_aload 0 (x_g0 111 59 0 400 (K 33))))))))))) := ((xe_aload 0).trans (congrArg (x_aload 0) ((xe_g0 (kk := 111) rfl tl_11_62).trans (congrArg (x_g0 111 62 0 5) ((xe_ifCond .ne 36).trans (congrArg (x_ifCond .ne 36 K) ((xe_aload 0).trans (congrArg (x_aload 0) ((xe_g0 (kk := 111) rfl tl_11_58).trans (congrArg (x_g0 111 58 0 4) ((xe_iconst 2).trans (congrArg (x_iconst 2) ((xe_if_icmp .eq 36).trans (congrArg (x_if_icmp .eq 36 K) ((xe_aload 0).trans (congrArg (x_aload 0) ((xe_iconst 2).trans (congrArg (x_iconst 2) ((xe_aload 0).trans (congrArg (x_aload 0) ((xe_g0 (kk := 111) rfl tl_11_59).trans (congrArg (x_g0 111 59 0 400) xe_nil))))))))))))))))))))))
theorem bk_X11_wantNumber_e_36 : ck_ fX11 none cX11_wantNumber 36 [.aload 0, .tableswitch 0 11 62 #[], .ifCond .ne 64, .aload 0, .tableswitch 0 11 61 #[], .iload 1, .iload 2] 49 = true := qck_r (nn_ _) (by decide +kernel)
theorem bs_X11_wantNumber_e_36 {P : Zt → Option Zv → Prop} (K : Int → Zl → List Zv → Zt → Prop) : sx_ K P [.aload 0, .tableswitch 0 11 62 #[], .ifCond .ne 64, .aload 0, .tableswitch 0 11 61 #[], .iload 1, .iload 2] 49 = x_aload 0 (x_g0 111 62 0 5 (x_ifCond .ne 64 K (x_aload 0 (x_g0 111 61 (-2147483648) 2147483647 (x_iload 1 (x_iload 2 (K 49))))))) := ((xe_aload 0).trans (congrArg (x_aload 0) ((xe_g0 (kk := 111) rfl tl_11_62).trans (congrArg (x_g0 111 62 0 5) ((xe_ifCond .ne 64).trans (congrArg (x_ifCond .ne 64 K) ((xe_aload 0).trans (congrArg (x_aload 0) ((xe_g0 (kk := 111) rfl tl_11_61).trans (congrArg (x_g0 111 61 (-2147483648) 2147483647) ((xe_iload 1).trans (congrArg (x_iload 1) ((xe_iload 2).trans (congrArg (x_iload 2) xe_nil))))))))))))))
theorem bk_X11_wantNumber_e_64 : ck_ fX11 none cX11_wantNumber 64 [.aload 0, .tableswitch 0 11 62 #[], .ifCond .ne 81, .aload 0, .tableswitch 0 11 4 #[], .iload 3, .aload 0, .tableswitch 0 11 61 #[], .iastore, .return_] 82 = true := qck_r (nn_ _) (by decide +kernel)
theorem bs_X11_wantNumber_e_64 {P : Zt → Option Zv → Prop} (K : Int → Zl → List Zv → Zt → Prop) : sx_ K P [.aload 0, .tableswitch 0 11 62 #[], .ifCond .ne 81, .aload 0, .tableswitch 0 11 4 #[], .iload 3, .aload 0, .tableswitch 0 11 61 #[], .iastore, .return_] 82 = x_aload 0 (x_g0 111 62 0 5 (x_ifCond .ne 81 K (x_aload 0 (x_g1 111 204 (x_iload 3 (x_aload 0 (x_g0 111 61 (-2147483648) 2147483647 (x_iastore (x_return_ P))))))))) := ((xe_aload 0).trans (congrArg (x_aload 0) ((xe_g0 (kk := 111) rfl tl_11_62).trans (congrArg (x_g0 111 62 0 5) ((xe_ifCond .ne 81).trans (congrArg (x_ifCond .ne 81 K) ((xe_aload 0).trans (congrArg (x_aload 0) ((xe_g1 (kk := 111) rfl tl_11_4).trans (congrArg (x_g1 111 204) ((xe_iload 3).trans (congrArg (x_iload 3) ((xe_aload 0).trans (congrArg (x_aload 0) ((xe_g0 (kk := 111) rfl tl_11_61).trans (congrArg (x_g0 111 61 (-2147483648) 2147483647) ((xe_iastore).trans (congrArg (x_iastore) (xe_return_)))))))))))))))))))
theorem bk_X11_wantNumber_e_81 : ck_ fX11 none cX11_wantNumber 81 [.return_] 82 = true := qck_r (nn_ _) (by decide +kernel)
theorem bs_X11_wantNumber_e_81 {P : Zt → Option Zv → Prop} (K : Int → Zl → List Zv → Zt → Prop) : sx_ K P [.return_] 82 = x_return_ P := (xe_return_)
theorem bk_X11_wantNumber_e_52 : ck_ fX11 none cX11_wantNumber 52 [.ifCond .ne 64, .aload 0, .iconst 4, .aload 0, .tableswitch 0 11 59 #[]] 61 = true := qck_r (nn_ _) (by decide +kernel)
theorem bs_X11_wantNumber_e_52 {P : Zt → Option Zv → Prop} (K : Int → Zl → List Zv → Zt → Prop) : sx_ K P [.ifCond .ne 64, .aload 0, .iconst 4, .aload 0, .tableswitch 0 11 59 #[]] 61 = x_ifCond .ne 64 K (x_aload 0 (x_iconst 4 (x_aload 0 (x_g0 111 59 0 400 (K 61))))) := ((xe_ifCond .ne 64).trans (congrArg (x_ifCond .ne 64 K) ((xe_aload 0).trans (congrArg (x_aload 0) ((xe_iconst 4).trans (congrArg (x_iconst 4) ((xe_aload 0).trans (congrArg (x_aload 0) ((xe_g0 (kk := 111) rfl tl_11_59).trans (congrArg (x_g0 111 59 0 400) xe_nil))))))))))
abbrev po_X11_wantNumber_e (T : Zt) (least most rule : Int) : Zt → Option Zv → Prop := fun T' r => r = none ∧ fr_ [(111, [57, 58, 59, 60, 61, 62, 63]), (204, [])] T T' ∧ (((T 111 0 62 ≠ 0 ∧ T' 111 0 62 = T 111 0 62 ∧ T' 111 0 63 = T 111 0 63) ∨ (T 111 0 62 = 0 ∧ T' 111 0 62 ≠ 0 ∧ nrf9_ (cl9_ (T 111 0 1) (fun j => T 200 0 j)) (T 111 0 1) (T 111 0 57) least most = Sum.inl (T' 111 0 62, T' 111 0 63)) ∨ (T 111 0 62 = 0 ∧ T' 111 0 62 = 0 ∧ nrf9_ (cl9_ (T 111 0 1) (fun j => T 200 0 j)) (T 111 0 1) (T 111 0 57) least most = Sum.inr (T' 111 0 57, T' 204 0 rule) ∧ T' 111 0 63 = T 111 0 63 ∧ T 111 0 57 ≤ T' 111 0 57 ∧ T' 111 0 57 ≤ T 111 0 1)) ∧ ∀ j, j ≠ rule → T' 204 0 j = T 204 0 j)
set_option maxHeartbeats 4000000 in
theorem ct_X11_wantNumber_e {T : Zt} {least most rule : Int} (h1 : T 111 0 62 = 0 → T 111 0 57 ≤ T 111 0 1) (h2 : 0 ≤ rule ∧ rule < 23) (h3 : 0 ≤ least ∧ most ≤ 999) : Ct_ yX11_wantNumber zX11_wantNumber T [vR 111 0, vI least, vI most, vI rule] (po_X11_wantNumber_e T least most rule) := by
  refine ct_of pn_11 rfl rfl (Nat.le_of_ble_eq_true rfl) (fun hT hav => ?_)
  have hr_least : -2147483648 ≤ least ∧ least ≤ 2147483647 := hav (vI least) (List.mem_cons_of_mem _ List.mem_cons_self)
  have hr_most : -2147483648 ≤ most ∧ most ≤ 2147483647 := hav (vI most) (List.mem_cons_of_mem _ (List.mem_cons_of_mem _ List.mem_cons_self))
  have hr_rule : -2147483648 ≤ rule ∧ rule ≤ 2147483647 := hav (vI rule) (List.mem_cons_of_mem _ (List.mem_cons_of_mem _ (List.mem_cons_of_mem _ List.mem_cons_self)))
  have hz : zX11_wantNumber.2.2.2.1 = some .boolean → ∀ (T' : Zt) (x : Int), po_X11_wantNumber_e T least most rule T' (some (vI x)) → 0 ≤ x ∧ x ≤ 1 := fun h => by cases h
  have hb_1 : 0 ≤ T 111 0 1 ∧ T 111 0 1 ≤ 400 := bd_f hT 111 1 tl_11_1 0
  have hb_57 : 0 ≤ T 111 0 57 ∧ T 111 0 57 ≤ 400 := bd_f hT 111 57 tl_11_57 0
  show J_ zX11_wantNumber T (po_X11_wantNumber_e T least most rule) 0 0 0 [some (vR 111 0), some (vI least), some (vI most), some (vI rule)] [] T
  refine j_blx (F := fX11) tb_X11 (nn_ _) bk_X11_wantNumber_e_0 bs_X11_wantNumber_e_0 hz (fun K hK => ?_)
  intro b1 b1b
  refine And.intro (fun c2 => ?_) (fun c2 => ?_)
  · refine hK 8 _ [] T ?_
    refine j_blx (F := fX11) tb_X11 (nn_ _) bk_X11_wantNumber_e_8 bs_X11_wantNumber_e_8 hz (fun K hK => ?_)
    refine hK 9 _ [vR 111 0] T ?_
    refine j_callV (y := yX11_take) (Yc := zX11_take) (rest := []) [] (ct_X11_take_e (T := T) (by omega) (by omega)) cl_X11_291 (qd_c (by decide +kernel)) (nn_ _) rfl (rf_of rfl) (Nat.le_of_ble_eq_true rfl) (Nat.le_of_ble_eq_true rfl) (Nat.le_of_ble_eq_true rfl) rfl ?_
    rintro U3 _ ⟨rfl, fU3, qU3⟩
    show J_ zX11_wantNumber T (po_X11_wantNumber_e T least most rule) 0 0 12 _ [] U3
    have qka := qU3
    obtain ⟨qaa, ea, ka, hka, hqa⟩ := qka
    have tra := tk9_r hka
    refine j_blx (F := fX11) tb_X11 (nn_ _) bk_X11_wantNumber_e_12 bs_X11_wantNumber_e_12 hz (fun K hK => ?_)
    intro b4 b4b
    refine And.intro (fun c5 => ?_) (fun c5 => ?_)
    · refine hK 36 _ [] U3 ?_
      refine j_blx (F := fX11) tb_X11 (nn_ _) bk_X11_wantNumber_e_36 bs_X11_wantNumber_e_36 hz (fun K hK => ?_)
      intro b6 b6b
      refine And.intro (fun c7 => ?_) (fun c7 => ?_)
      · refine hK 64 _ [] U3 ?_
        refine j_blx (F := fX11) tb_X11 (nn_ _) bk_X11_wantNumber_e_64 bs_X11_wantNumber_e_64 hz (fun K hK => ?_)
        intro b8 b8b
        refine And.intro (fun c9 => ?_) (fun c9 => ?_)
        · refine hK 81 _ [] U3 ?_
          refine j_blx (F := fX11) tb_X11 (nn_ _) bk_X11_wantNumber_e_81 bs_X11_wantNumber_e_81 hz (fun K hK => ?_)
          refine (show po_X11_wantNumber_e T least most rule U3 (none) from ?_)
          have e10 : U3 204 0 rule = T 204 0 rule := fU3 204 0 rule rfl
          refine ⟨rfl, fr_t (fr_0 _ _) (fr_s fU3 rfl), Or.inr (Or.inl ⟨by omega, by omega, ?_⟩), fun j _ => (show fr_ [(111, [57, 58, 59, 60, 61, 62, 63])] T U3 from fr_t (fr_0 _ _) (fr_s fU3 rfl)) 204 0 j rfl⟩
          rw [show U3 111 0 62 = 1 by omega, show U3 111 0 63 = U3 111 0 59 by omega]
          exact nrf9_1 hka (by omega) (by omega)
        · exfalso; omega
      · exfalso; omega
    · intro b11 b11b
      refine And.intro (fun c12 => ?_) (fun c12 => ?_)
      · refine hK 36 _ [] U3 ?_
        refine j_blx (F := fX11) tb_X11 (nn_ _) bk_X11_wantNumber_e_36 bs_X11_wantNumber_e_36 hz (fun K hK => ?_)
        intro b13 b13b
        refine And.intro (fun c14 => ?_) (fun c14 => ?_)
        · exfalso; omega
        · intro b15 b15b
          refine hK 49 _ [vI most, vI least, vI (U3 111 0 61)] U3 ?_
          refine j_callS (y := yX11_in) (Yc := zX11_in) (rest := []) [vI (U3 111 0 61), vI least, vI most] (ct_X11_in (T := U3)) cl_X11_255 (qd_c (by decide +kernel)) (nn_ _) rfl (rf_of rfl) (Nat.le_of_ble_eq_true rfl) (Nat.le_of_ble_eq_true rfl) (Nat.le_of_ble_eq_true rfl) rfl ?_
          rintro _ _ ⟨rfl, x16, rfl, hx16⟩
          show J_ zX11_wantNumber T (po_X11_wantNumber_e T least most rule) 0 0 52 _ [vI x16] U3
          refine j_blx (F := fX11) tb_X11 (nn_ _) bk_X11_wantNumber_e_52 bs_X11_wantNumber_e_52 hz (fun K hK => ?_)
          refine And.intro (fun c17 => ?_) (fun c17 => ?_)
          · replace hx16 := hx16.resolve_right (fun z => c17 z.1)
            clear c17
            refine hK 64 _ [] U3 ?_
            refine j_blx (F := fX11) tb_X11 (nn_ _) bk_X11_wantNumber_e_64 bs_X11_wantNumber_e_64 hz (fun K hK => ?_)
            intro b18 b18b
            refine And.intro (fun c19 => ?_) (fun c19 => ?_)
            · exfalso; omega
            · intro b20 b20b
              refine iy_i (by omega) (by omega) ?_
              refine x_nm (fun U21 hU21 => ?_)
              have e22 := up_f hU21
              refine (show po_X11_wantNumber_e T least most rule U21 (none) from ?_)
              have e23 : U21 111 0 62 = U3 111 0 62 := up_k hU21 (by exact Nat.ne_of_beq_eq_false rfl) 0 62
              have e24 : U21 111 0 63 = U3 111 0 63 := up_k hU21 (by exact Nat.ne_of_beq_eq_false rfl) 0 63
              have e25 : U21 111 0 57 = U3 111 0 57 := up_k hU21 (by exact Nat.ne_of_beq_eq_false rfl) 0 57
              have e26 : U21 204 0 rule = U3 111 0 61 := up_f hU21
              have hv := (hqa.resolve_right (fun z => by omega)).2.2.2.2.2 (by omega)
              have ee : U3 111 0 60 = ea := by omega
              refine ⟨rfl, fr_u (fr_t (fr_0 _ _) (fr_s fU3 rfl)) hU21 rfl, Or.inr (Or.inr ⟨by omega, by omega, ?_, by omega, by omega, by omega⟩), fun j hj => (up_g hU21 (fun z => hj z.2.2)).trans ((show fr_ [(111, [57, 58, 59, 60, 61, 62, 63])] T U3 from fr_t (fr_0 _ _) (fr_s fU3 rfl)) 204 0 j rfl)⟩
              rw [show U21 111 0 57 = ea by omega, up_f hU21]
              exact nrf9_0 hka (by omega) (by omega) hv (by omega)
          · replace hx16 := hx16.resolve_left (fun z => absurd (c17.symm.trans z.1) (by decide))
            clear c17
            intro b27 b27b
            refine hK 61 _ [vI (U3 111 0 59), vI 4, vR 111 0] U3 ?_
            refine j_callV (y := yX11_bad) (Yc := zX11_bad) (rest := []) [vI 4, vI (U3 111 0 59)] (ct_X11_bad_e (T := U3) (by omega) (by omega)) cl_X11_281 (qd_c (by decide +kernel)) (nn_ _) rfl (rf_of rfl) (Nat.le_of_ble_eq_true rfl) (Nat.le_of_ble_eq_true rfl) (Nat.le_of_ble_eq_true rfl) rfl ?_
            rintro U28 _ ⟨rfl, fU28, qU28⟩
            show J_ zX11_wantNumber T (po_X11_wantNumber_e T least most rule) 0 0 64 _ [] U28
            refine j_blx (F := fX11) tb_X11 (nn_ _) bk_X11_wantNumber_e_64 bs_X11_wantNumber_e_64 hz (fun K hK => ?_)
            intro b29 b29b
            refine And.intro (fun c30 => ?_) (fun c30 => ?_)
            · refine hK 81 _ [] U28 ?_
              refine j_blx (F := fX11) tb_X11 (nn_ _) bk_X11_wantNumber_e_81 bs_X11_wantNumber_e_81 hz (fun K hK => ?_)
              refine (show po_X11_wantNumber_e T least most rule U28 (none) from ?_)
              have e31 : U28 111 0 57 = U3 111 0 57 := fU28 111 0 57 rfl
              have e32 : U28 204 0 rule = T 204 0 rule := (fU28 204 0 rule rfl).trans (fU3 204 0 rule rfl)
              refine ⟨rfl, fr_t (fr_t (fr_0 _ _) (fr_s fU3 rfl)) (fr_s fU28 rfl), Or.inr (Or.inl ⟨by omega, by omega, ?_⟩), fun j _ => (show fr_ [(111, [62, 63, 57, 58, 59, 60, 61])] T U28 from fr_t (fr_t (fr_0 _ _) (fr_s fU3 rfl)) (fr_s fU28 rfl)) 204 0 j rfl⟩
              rw [show U28 111 0 62 = 4 by omega, show U28 111 0 63 = U3 111 0 59 by omega]
              have hv := (hqa.resolve_right (fun z => by omega)).2.2.2.2.2 (by omega)
              exact nrf9_4 hka (by omega) (by omega) hv (by omega)
            · exfalso; omega
      · intro b33 b33b
        refine hK 33 _ [vI (U3 111 0 59), vI 2, vR 111 0] U3 ?_
        refine j_callV (y := yX11_bad) (Yc := zX11_bad) (rest := []) [vI 2, vI (U3 111 0 59)] (ct_X11_bad_e (T := U3) (by omega) (by omega)) cl_X11_281 (qd_c (by decide +kernel)) (nn_ _) rfl (rf_of rfl) (Nat.le_of_ble_eq_true rfl) (Nat.le_of_ble_eq_true rfl) (Nat.le_of_ble_eq_true rfl) rfl ?_
        rintro U34 _ ⟨rfl, fU34, qU34⟩
        show J_ zX11_wantNumber T (po_X11_wantNumber_e T least most rule) 0 0 36 _ [] U34
        refine j_blx (F := fX11) tb_X11 (nn_ _) bk_X11_wantNumber_e_36 bs_X11_wantNumber_e_36 hz (fun K hK => ?_)
        intro b35 b35b
        refine And.intro (fun c36 => ?_) (fun c36 => ?_)
        · refine hK 64 _ [] U34 ?_
          refine j_blx (F := fX11) tb_X11 (nn_ _) bk_X11_wantNumber_e_64 bs_X11_wantNumber_e_64 hz (fun K hK => ?_)
          intro b37 b37b
          refine And.intro (fun c38 => ?_) (fun c38 => ?_)
          · refine hK 81 _ [] U34 ?_
            refine j_blx (F := fX11) tb_X11 (nn_ _) bk_X11_wantNumber_e_81 bs_X11_wantNumber_e_81 hz (fun K hK => ?_)
            refine (show po_X11_wantNumber_e T least most rule U34 (none) from ?_)
            have e39 : U34 111 0 57 = U3 111 0 57 := fU34 111 0 57 rfl
            have e40 : U34 204 0 rule = T 204 0 rule := (fU34 204 0 rule rfl).trans (fU3 204 0 rule rfl)
            refine ⟨rfl, fr_t (fr_t (fr_0 _ _) (fr_s fU3 rfl)) (fr_s fU34 rfl), Or.inr (Or.inl ⟨by omega, by omega, ?_⟩), fun j _ => (show fr_ [(111, [62, 63, 57, 58, 59, 60, 61])] T U34 from fr_t (fr_t (fr_0 _ _) (fr_s fU3 rfl)) (fr_s fU34 rfl)) 204 0 j rfl⟩
            rw [show U34 111 0 62 = 2 by omega, show U34 111 0 63 = U3 111 0 59 by omega]
            exact nrf9_2 hka (by omega) (by omega) (by omega)
          · exfalso; omega
        · exfalso; omega
  · refine (show po_X11_wantNumber_e T least most rule T (none) from ?_)
    exact ⟨rfl, fr_0 _ _, Or.inl ⟨by omega, rfl, rfl⟩, fun j _ => rfl⟩
theorem bk_X11_readSport_e_0 : ck_ fX11 none cX11_readSport 0 [.aload 0] 1 = true := qck_r (nn_ _) (by decide +kernel)
theorem bs_X11_readSport_e_0 {P : Zt → Option Zv → Prop} (K : Int → Zl → List Zv → Zt → Prop) : sx_ K P [.aload 0] 1 = x_aload 0 (K 1) := ((xe_aload 0).trans (congrArg (x_aload 0) xe_nil))
theorem bk_X11_readSport_e_4 : ck_ fX11 none cX11_readSport 4 [.aload 0, .tableswitch 0 11 62 #[], .ifCond .ne 28, .aload 0, .tableswitch 0 11 58 #[], .iconst 1, .if_icmp .eq 28, .aload 0, .iconst 2, .aload 0, .tableswitch 0 11 59 #[]] 25 = true := qck_r (nn_ _) (by decide +kernel)
theorem bs_X11_readSport_e_4 {P : Zt → Option Zv → Prop} (K : Int → Zl → List Zv → Zt → Prop) : sx_ K P [.aload 0, .tableswitch 0 11 62 #[], .ifCond .ne 28, .aload 0, .tableswitch 0 11 58 #[], .iconst 1, .if_icmp .eq 28, .aload 0, .iconst 2, .aload 0, .tableswitch 0 11 59 #[]] 25 = x_aload 0 (x_g0 111 62 0 5 (x_ifCond .ne 28 K (x_aload 0 (x_g0 111 58 0 4 (x_iconst 1 (x_if_icmp .eq 28 K (x_aload 0 (x_iconst 2 (x_aload 0 (x_g0 111 59 0 400 (K 25))))))))))) := ((xe_aload 0).trans (congrArg (x_aload 0) ((xe_g0 (kk := 111) rfl tl_11_62).trans (congrArg (x_g0 111 62 0 5) ((xe_ifCond .ne 28).trans (congrArg (x_ifCond .ne 28 K) ((xe_aload 0).trans (congrArg (x_aload 0) ((xe_g0 (kk := 111) rfl tl_11_58).trans (congrArg (x_g0 111 58 0 4) ((xe_iconst 1).trans (congrArg (x_iconst 1) ((xe_if_icmp .eq 28).trans (congrArg (x_if_icmp .eq 28 K) ((xe_aload 0).trans (congrArg (x_aload 0) ((xe_iconst 2).trans (congrArg (x_iconst 2) ((xe_aload 0).trans (congrArg (x_aload 0) ((xe_g0 (kk := 111) rfl tl_11_59).trans (congrArg (x_g0 111 59 0 400) xe_nil))))))))))))))))))))))
theorem bk_X11_readSport_e_28 : ck_ fX11 none cX11_readSport 28 [.aload 0, .tableswitch 0 11 62 #[], .ifCond .ne 46, .aload 0, .aload 0, .tableswitch 0 11 65 #[]] 40 = true := qck_r (nn_ _) (by decide +kernel)
theorem bs_X11_readSport_e_28 {P : Zt → Option Zv → Prop} (K : Int → Zl → List Zv → Zt → Prop) : sx_ K P [.aload 0, .tableswitch 0 11 62 #[], .ifCond .ne 46, .aload 0, .aload 0, .tableswitch 0 11 65 #[]] 40 = x_aload 0 (x_g0 111 62 0 5 (x_ifCond .ne 46 K (x_aload 0 (x_aload 0 (x_g1 111 265 (K 40)))))) := ((xe_aload 0).trans (congrArg (x_aload 0) ((xe_g0 (kk := 111) rfl tl_11_62).trans (congrArg (x_g0 111 62 0 5) ((xe_ifCond .ne 46).trans (congrArg (x_ifCond .ne 46 K) ((xe_aload 0).trans (congrArg (x_aload 0) ((xe_aload 0).trans (congrArg (x_aload 0) ((xe_g1 (kk := 111) rfl tl_11_65).trans (congrArg (x_g1 111 265) xe_nil))))))))))))
theorem bk_X11_readSport_e_46 : ck_ fX11 none cX11_readSport 46 [.iconst (-1), .istore 1, .aload 0, .tableswitch 0 11 62 #[], .ifCond .ne 69, .iload 1, .iconst (-1), .if_icmp .ne 69, .aload 0, .iconst 3, .aload 0, .tableswitch 0 11 59 #[]] 66 = true := qck_r (nn_ _) (by decide +kernel)
theorem bs_X11_readSport_e_46 {P : Zt → Option Zv → Prop} (K : Int → Zl → List Zv → Zt → Prop) : sx_ K P [.iconst (-1), .istore 1, .aload 0, .tableswitch 0 11 62 #[], .ifCond .ne 69, .iload 1, .iconst (-1), .if_icmp .ne 69, .aload 0, .iconst 3, .aload 0, .tableswitch 0 11 59 #[]] 66 = x_iconst (-1) (x_istore 1 (x_aload 0 (x_g0 111 62 0 5 (x_ifCond .ne 69 K (x_iload 1 (x_iconst (-1) (x_if_icmp .ne 69 K (x_aload 0 (x_iconst 3 (x_aload 0 (x_g0 111 59 0 400 (K 66)))))))))))) := ((xe_iconst (-1)).trans (congrArg (x_iconst (-1)) ((xe_istore 1).trans (congrArg (x_istore 1) ((xe_aload 0).trans (congrArg (x_aload 0) ((xe_g0 (kk := 111) rfl tl_11_62).trans (congrArg (x_g0 111 62 0 5) ((xe_ifCond .ne 69).trans (congrArg (x_ifCond .ne 69 K) ((xe_iload 1).trans (congrArg (x_iload 1) ((xe_iconst (-1)).trans (congrArg (x_iconst (-1)) ((xe_if_icmp .ne 69).trans (congrArg (x_if_icmp .ne 69 K) ((xe_aload 0).trans (congrArg (x_aload 0) ((xe_iconst 3).trans (congrArg (x_iconst 3) ((xe_aload 0).trans (congrArg (x_aload 0) ((xe_g0 (kk := 111) rfl tl_11_59).trans (congrArg (x_g0 111 59 0 400) xe_nil))))))))))))))))))))))))
theorem bk_X11_readSport_e_69 : ck_ fX11 none cX11_readSport 69 [.aload 0, .tableswitch 0 11 62 #[], .ifCond .ne 83, .aload 0, .tableswitch 0 11 4 #[], .iconst 0, .iload 1, .iastore, .return_] 84 = true := qck_r (nn_ _) (by decide +kernel)
theorem bs_X11_readSport_e_69 {P : Zt → Option Zv → Prop} (K : Int → Zl → List Zv → Zt → Prop) : sx_ K P [.aload 0, .tableswitch 0 11 62 #[], .ifCond .ne 83, .aload 0, .tableswitch 0 11 4 #[], .iconst 0, .iload 1, .iastore, .return_] 84 = x_aload 0 (x_g0 111 62 0 5 (x_ifCond .ne 83 K (x_aload 0 (x_g1 111 204 (x_iconst 0 (x_iload 1 (x_iastore (x_return_ P)))))))) := ((xe_aload 0).trans (congrArg (x_aload 0) ((xe_g0 (kk := 111) rfl tl_11_62).trans (congrArg (x_g0 111 62 0 5) ((xe_ifCond .ne 83).trans (congrArg (x_ifCond .ne 83 K) ((xe_aload 0).trans (congrArg (x_aload 0) ((xe_g1 (kk := 111) rfl tl_11_4).trans (congrArg (x_g1 111 204) ((xe_iconst 0).trans (congrArg (x_iconst 0) ((xe_iload 1).trans (congrArg (x_iload 1) ((xe_iastore).trans (congrArg (x_iastore) (xe_return_)))))))))))))))))
theorem bk_X11_readSport_e_83 : ck_ fX11 none cX11_readSport 83 [.return_] 84 = true := qck_r (nn_ _) (by decide +kernel)
theorem bs_X11_readSport_e_83 {P : Zt → Option Zv → Prop} (K : Int → Zl → List Zv → Zt → Prop) : sx_ K P [.return_] 84 = x_return_ P := (xe_return_)
theorem bk_X11_readSport_e_43 : ck_ fX11 none cX11_readSport 43 [.goto 47] 46 = true := qck_r (nn_ _) (by decide +kernel)
theorem bs_X11_readSport_e_43 {P : Zt → Option Zv → Prop} (K : Int → Zl → List Zv → Zt → Prop) : sx_ K P [.goto 47] 46 = x_goto 47 K := (xe_goto 47)
theorem bk_X11_readSport_e_47 : ck_ fX11 none cX11_readSport 47 [.istore 1, .aload 0, .tableswitch 0 11 62 #[], .ifCond .ne 69, .iload 1, .iconst (-1), .if_icmp .ne 69, .aload 0, .iconst 3, .aload 0, .tableswitch 0 11 59 #[]] 66 = true := qck_r (nn_ _) (by decide +kernel)
theorem bs_X11_readSport_e_47 {P : Zt → Option Zv → Prop} (K : Int → Zl → List Zv → Zt → Prop) : sx_ K P [.istore 1, .aload 0, .tableswitch 0 11 62 #[], .ifCond .ne 69, .iload 1, .iconst (-1), .if_icmp .ne 69, .aload 0, .iconst 3, .aload 0, .tableswitch 0 11 59 #[]] 66 = x_istore 1 (x_aload 0 (x_g0 111 62 0 5 (x_ifCond .ne 69 K (x_iload 1 (x_iconst (-1) (x_if_icmp .ne 69 K (x_aload 0 (x_iconst 3 (x_aload 0 (x_g0 111 59 0 400 (K 66))))))))))) := ((xe_istore 1).trans (congrArg (x_istore 1) ((xe_aload 0).trans (congrArg (x_aload 0) ((xe_g0 (kk := 111) rfl tl_11_62).trans (congrArg (x_g0 111 62 0 5) ((xe_ifCond .ne 69).trans (congrArg (x_ifCond .ne 69 K) ((xe_iload 1).trans (congrArg (x_iload 1) ((xe_iconst (-1)).trans (congrArg (x_iconst (-1)) ((xe_if_icmp .ne 69).trans (congrArg (x_if_icmp .ne 69 K) ((xe_aload 0).trans (congrArg (x_aload 0) ((xe_iconst 3).trans (congrArg (x_iconst 3) ((xe_aload 0).trans (congrArg (x_aload 0) ((xe_g0 (kk := 111) rfl tl_11_59).trans (congrArg (x_g0 111 59 0 400) xe_nil))))))))))))))))))))))
abbrev po_X11_readSport_e (T : Zt) : Zt → Option Zv → Prop := fun T' r => r = none ∧ fr_ [(111, [57, 58, 59, 60, 61, 62, 63]), (204, [])] T T' ∧ (((T' 111 0 62 ≠ 0 ∧ wof9_ wl_265 wt_265 (cl9_ (T 111 0 1) (fun j => T 200 0 j)) (T 111 0 1) (T 111 0 57) = Sum.inl (T' 111 0 62, T' 111 0 63)) ∨ (T' 111 0 62 = 0 ∧ wof9_ wl_265 wt_265 (cl9_ (T 111 0 1) (fun j => T 200 0 j)) (T 111 0 1) (T 111 0 57) = Sum.inr (T' 111 0 57, T' 204 0 0) ∧ T' 111 0 63 = T 111 0 63 ∧ T 111 0 57 ≤ T' 111 0 57 ∧ T' 111 0 57 ≤ T 111 0 1)) ∧ ∀ j, j ≠ 0 → T' 204 0 j = T 204 0 j)
set_option maxHeartbeats 4000000 in
theorem ct_X11_readSport_e {T : Zt} (h1 : T 111 0 57 ≤ T 111 0 1) (h62 : T 111 0 62 = 0) (hC : CW_ T) : Ct_ yX11_readSport zX11_readSport T [vR 111 0] (po_X11_readSport_e T) := by
  refine ct_of pn_11 rfl rfl (Nat.le_of_ble_eq_true rfl) (fun hT hav => ?_)
  have hz : zX11_readSport.2.2.2.1 = some .boolean → ∀ (T' : Zt) (x : Int), po_X11_readSport_e T T' (some (vI x)) → 0 ≤ x ∧ x ≤ 1 := fun h => by cases h
  have hb_1 : 0 ≤ T 111 0 1 ∧ T 111 0 1 ≤ 400 := bd_f hT 111 1 tl_11_1 0
  have hb_57 : 0 ≤ T 111 0 57 ∧ T 111 0 57 ≤ 400 := bd_f hT 111 57 tl_11_57 0
  show J_ zX11_readSport T (po_X11_readSport_e T) 0 0 0 [some (vR 111 0), none] [] T
  refine j_blx (F := fX11) tb_X11 (nn_ _) bk_X11_readSport_e_0 bs_X11_readSport_e_0 hz (fun K hK => ?_)
  refine hK 1 _ [vR 111 0] T ?_
  refine j_callV (y := yX11_take) (Yc := zX11_take) (rest := []) [] (ct_X11_take_e (T := T) (by omega) (by omega)) cl_X11_291 (qd_c (by decide +kernel)) (nn_ _) rfl (rf_of rfl) (Nat.le_of_ble_eq_true rfl) (Nat.le_of_ble_eq_true rfl) (Nat.le_of_ble_eq_true rfl) rfl ?_
  rintro U1 _ ⟨rfl, fU1, qU1⟩
  show J_ zX11_readSport T (po_X11_readSport_e T) 0 0 4 _ [] U1
  have qka := qU1
  obtain ⟨qaa, ea, ka, hka, hqa⟩ := qka
  have tra := tk9_r hka
  refine j_blx (F := fX11) tb_X11 (nn_ _) bk_X11_readSport_e_4 bs_X11_readSport_e_4 hz (fun K hK => ?_)
  intro b2 b2b
  refine And.intro (fun c3 => ?_) (fun c3 => ?_)
  · refine hK 28 _ [] U1 ?_
    refine j_blx (F := fX11) tb_X11 (nn_ _) bk_X11_readSport_e_28 bs_X11_readSport_e_28 hz (fun K hK => ?_)
    intro b4 b4b
    refine And.intro (fun c5 => ?_) (fun c5 => ?_)
    · refine hK 46 _ [] U1 ?_
      refine j_blx (F := fX11) tb_X11 (nn_ _) bk_X11_readSport_e_46 bs_X11_readSport_e_46 hz (fun K hK => ?_)
      intro b6 b6b
      refine And.intro (fun c7 => ?_) (fun c7 => ?_)
      · refine hK 69 [some (vR 111 0), some (vI (-1))] [] U1 ?_
        refine j_blx (F := fX11) tb_X11 (nn_ _) bk_X11_readSport_e_69 bs_X11_readSport_e_69 hz (fun K hK => ?_)
        intro b8 b8b
        refine And.intro (fun c9 => ?_) (fun c9 => ?_)
        · refine hK 83 _ [] U1 ?_
          refine j_blx (F := fX11) tb_X11 (nn_ _) bk_X11_readSport_e_83 bs_X11_readSport_e_83 hz (fun K hK => ?_)
          refine (show po_X11_readSport_e T U1 (none) from ?_)
          have e10 : U1 204 0 0 = T 204 0 0 := fU1 204 0 0 rfl
          refine ⟨rfl, fr_t (fr_0 _ _) (fr_s fU1 rfl), Or.inl ⟨by omega, ?_⟩, fun j _ => (show fr_ [(111, [57, 58, 59, 60, 61, 62, 63])] T U1 from fr_t (fr_0 _ _) (fr_s fU1 rfl)) 204 0 j rfl⟩
          rw [show U1 111 0 62 = 1 by omega, show U1 111 0 63 = U1 111 0 59 by omega]
          exact wof9_1 hka (by omega) (by omega)
        · exfalso; omega
      · exfalso; omega
    · exfalso; omega
  · intro b11 b11b
    refine And.intro (fun c12 => ?_) (fun c12 => ?_)
    · refine hK 28 _ [] U1 ?_
      refine j_blx (F := fX11) tb_X11 (nn_ _) bk_X11_readSport_e_28 bs_X11_readSport_e_28 hz (fun K hK => ?_)
      intro b13 b13b
      refine And.intro (fun c14 => ?_) (fun c14 => ?_)
      · exfalso; omega
      · refine hK 40 _ [vR 265 0, vR 111 0] U1 ?_
        refine j_callV (y := yX11_whichOf) (Yc := zX11_whichOf) (rest := []) [vR 265 0] (ct_X11_whichOf_e1 (T := U1) (by omega) (by exact CX_f (ws := [(111, [57, 58, 59, 60, 61, 62, 63])]) hC (fr_t (fr_0 _ _) (fr_s fU1 rfl)) ⟨fun _ => rfl, fun _ => rfl, fun _ => rfl, fun _ => rfl, fun _ => rfl, trivial⟩)) cl_X11_294 (qd_c (by decide +kernel)) (nn_ _) rfl (rf_of rfl) (Nat.le_of_ble_eq_true rfl) (Nat.le_of_ble_eq_true rfl) (Nat.le_of_ble_eq_true rfl) rfl ?_
        rintro _ _ ⟨rfl, x15, rfl, hx15, wx15⟩
        have fb16 : fr_ [(111, [57, 58, 59, 60, 61, 62, 63])] T U1 := fr_t (fr_0 _ _) (fr_s fU1 rfl)
        rw [show (fun j => U1 200 0 j) = fun j => T 200 0 j from funext fun j => fb16 200 0 j rfl] at wx15
        show J_ zX11_readSport T (po_X11_readSport_e T) 0 0 43 _ [vI x15] U1
        refine j_blx (F := fX11) tb_X11 (nn_ _) bk_X11_readSport_e_43 bs_X11_readSport_e_43 hz (fun K hK => ?_)
        refine hK 47 _ [vI x15] U1 ?_
        refine j_blx (F := fX11) tb_X11 (nn_ _) bk_X11_readSport_e_47 bs_X11_readSport_e_47 hz (fun K hK => ?_)
        intro b17 b17b
        refine And.intro (fun c18 => ?_) (fun c18 => ?_)
        · exfalso; omega
        · refine And.intro (fun c19 => ?_) (fun c19 => ?_)
          · refine hK 69 [some (vR 111 0), some (vI x15)] [] U1 ?_
            refine j_blx (F := fX11) tb_X11 (nn_ _) bk_X11_readSport_e_69 bs_X11_readSport_e_69 hz (fun K hK => ?_)
            intro b20 b20b
            refine And.intro (fun c21 => ?_) (fun c21 => ?_)
            · exfalso; omega
            · refine iy_i (by omega) (by omega) ?_
              refine x_nm (fun U22 hU22 => ?_)
              have e23 := up_f hU22
              refine (show po_X11_readSport_e T U22 (none) from ?_)
              have e24 : U22 111 0 62 = U1 111 0 62 := up_k hU22 (by exact Nat.ne_of_beq_eq_false rfl) 0 62
              have e25 : U22 111 0 63 = U1 111 0 63 := up_k hU22 (by exact Nat.ne_of_beq_eq_false rfl) 0 63
              have e26 : U22 111 0 57 = U1 111 0 57 := up_k hU22 (by exact Nat.ne_of_beq_eq_false rfl) 0 57
              have e27 : U22 204 0 0 = x15 := up_f hU22
              have ee : U1 111 0 60 = ea := by omega
              refine ⟨rfl, fr_u (fr_t (fr_0 _ _) (fr_s fU1 rfl)) hU22 rfl, Or.inr ⟨by omega, ?_, by omega, by omega, by omega⟩, fun j hj => (up_g hU22 (fun z => hj z.2.2)).trans ((show fr_ [(111, [57, 58, 59, 60, 61, 62, 63])] T U1 from fr_t (fr_0 _ _) (fr_s fU1 rfl)) 204 0 j rfl)⟩
              rw [ee] at wx15
              rw [show U22 111 0 57 = ea by omega, up_f hU22]
              exact wof9_0 ds9_1 hka (by omega) (by omega) wx15 (by omega)
          · intro b28 b28b
            refine hK 66 _ [vI (U1 111 0 59), vI 3, vR 111 0] U1 ?_
            refine j_callV (y := yX11_bad) (Yc := zX11_bad) (rest := []) [vI 3, vI (U1 111 0 59)] (ct_X11_bad_e (T := U1) (by omega) (by omega)) cl_X11_281 (qd_c (by decide +kernel)) (nn_ _) rfl (rf_of rfl) (Nat.le_of_ble_eq_true rfl) (Nat.le_of_ble_eq_true rfl) (Nat.le_of_ble_eq_true rfl) rfl ?_
            rintro U29 _ ⟨rfl, fU29, qU29⟩
            show J_ zX11_readSport T (po_X11_readSport_e T) 0 0 69 _ [] U29
            refine j_blx (F := fX11) tb_X11 (nn_ _) bk_X11_readSport_e_69 bs_X11_readSport_e_69 hz (fun K hK => ?_)
            intro b30 b30b
            refine And.intro (fun c31 => ?_) (fun c31 => ?_)
            · refine hK 83 _ [] U29 ?_
              refine j_blx (F := fX11) tb_X11 (nn_ _) bk_X11_readSport_e_83 bs_X11_readSport_e_83 hz (fun K hK => ?_)
              refine (show po_X11_readSport_e T U29 (none) from ?_)
              have e32 : U29 111 0 57 = U1 111 0 57 := fU29 111 0 57 rfl
              have e33 : U29 204 0 0 = T 204 0 0 := (fU29 204 0 0 rfl).trans (fU1 204 0 0 rfl)
              refine ⟨rfl, fr_t (fr_t (fr_0 _ _) (fr_s fU1 rfl)) (fr_s fU29 rfl), Or.inl ⟨by omega, ?_⟩, fun j _ => (show fr_ [(111, [62, 63, 57, 58, 59, 60, 61])] T U29 from fr_t (fr_t (fr_0 _ _) (fr_s fU1 rfl)) (fr_s fU29 rfl)) 204 0 j rfl⟩
              rw [show U29 111 0 62 = 3 by omega, show U29 111 0 63 = U1 111 0 59 by omega]
              have ee : U1 111 0 60 = ea := by omega
              have ew : x15 = -1 := by omega
              rw [ee, ew] at wx15
              exact wof9_3 ds9_1 hka (by omega) (by omega) wx15
            · exfalso; omega
    · intro b34 b34b
      refine hK 25 _ [vI (U1 111 0 59), vI 2, vR 111 0] U1 ?_
      refine j_callV (y := yX11_bad) (Yc := zX11_bad) (rest := []) [vI 2, vI (U1 111 0 59)] (ct_X11_bad_e (T := U1) (by omega) (by omega)) cl_X11_281 (qd_c (by decide +kernel)) (nn_ _) rfl (rf_of rfl) (Nat.le_of_ble_eq_true rfl) (Nat.le_of_ble_eq_true rfl) (Nat.le_of_ble_eq_true rfl) rfl ?_
      rintro U35 _ ⟨rfl, fU35, qU35⟩
      show J_ zX11_readSport T (po_X11_readSport_e T) 0 0 28 _ [] U35
      refine j_blx (F := fX11) tb_X11 (nn_ _) bk_X11_readSport_e_28 bs_X11_readSport_e_28 hz (fun K hK => ?_)
      intro b36 b36b
      refine And.intro (fun c37 => ?_) (fun c37 => ?_)
      · refine hK 46 _ [] U35 ?_
        refine j_blx (F := fX11) tb_X11 (nn_ _) bk_X11_readSport_e_46 bs_X11_readSport_e_46 hz (fun K hK => ?_)
        intro b38 b38b
        refine And.intro (fun c39 => ?_) (fun c39 => ?_)
        · refine hK 69 [some (vR 111 0), some (vI (-1))] [] U35 ?_
          refine j_blx (F := fX11) tb_X11 (nn_ _) bk_X11_readSport_e_69 bs_X11_readSport_e_69 hz (fun K hK => ?_)
          intro b40 b40b
          refine And.intro (fun c41 => ?_) (fun c41 => ?_)
          · refine hK 83 _ [] U35 ?_
            refine j_blx (F := fX11) tb_X11 (nn_ _) bk_X11_readSport_e_83 bs_X11_readSport_e_83 hz (fun K hK => ?_)
            refine (show po_X11_readSport_e T U35 (none) from ?_)
            have e42 : U35 111 0 57 = U1 111 0 57 := fU35 111 0 57 rfl
            have e43 : U35 204 0 0 = T 204 0 0 := (fU35 204 0 0 rfl).trans (fU1 204 0 0 rfl)
            refine ⟨rfl, fr_t (fr_t (fr_0 _ _) (fr_s fU1 rfl)) (fr_s fU35 rfl), Or.inl ⟨by omega, ?_⟩, fun j _ => (show fr_ [(111, [62, 63, 57, 58, 59, 60, 61])] T U35 from fr_t (fr_t (fr_0 _ _) (fr_s fU1 rfl)) (fr_s fU35 rfl)) 204 0 j rfl⟩
            rw [show U35 111 0 62 = 2 by omega, show U35 111 0 63 = U1 111 0 59 by omega]
            exact wof9_2 hka (by omega) (by omega) (by omega)
          · exfalso; omega
        · exfalso; omega
      · exfalso; omega
-- readOrder of the reference
def MO9_ (r : Qr9_ (Int × (Int → Int))) (T : Zt) : Prop := ∃ v, r = Sum.inr (T 111 0 57, v) ∧ VR9_ T v
/-- the keys told so far, as the row has them -/
def KT9_ (T : Zt) (t : Int → Int) : Prop := ∀ j, 0 ≤ j → j < 7 → T 270 0 j = t j
/-- the fresh rules while k of the keys are wiped -/
def VW9_ (T : Zt) (v : Int → Int) (k : Int) : Prop := ∀ j, 0 ≤ j → j < 23 → (16 ≤ j ∧ j < 16 + k → T 204 0 j = -1) ∧ (¬ (16 ≤ j ∧ j < 16 + k) → T 204 0 j = v j)
theorem vw9_0 {T : Zt} {v : Int → Int} (h : VR9_ T v) : VW9_ T v 0 := fun j a b => ⟨fun z => by omega, fun _ => h j a b⟩
theorem vw9_s {T T' : Zt} {v : Int → Int} {k : Int} (h : VW9_ T v k) (h0 : 0 ≤ k) (ho : ∀ j, j ≠ 16 + k → T' 204 0 j = T 204 0 j) (hx : T' 204 0 (16 + k) = -1) : VW9_ T' v (k + 1) := fun j a b => by
  have hj := h j a b
  by_cases z : j = 16 + k
  · subst z
    exact ⟨fun _ => hx, fun y => absurd (by omega) y⟩
  · rw [ho j z]
    exact ⟨fun y => hj.1 (by omega), fun y => hj.2 (by omega)⟩
theorem vw9_e {T T' : Zt} {v : Int → Int} (h : VW9_ T v 7) (ho : ∀ j, j ≠ 4 → T' 204 0 j = T 204 0 j) (hx : T' 204 0 4 = 0) : VR9_ T' (ov9_ v) := fun j a b => by
  have hj := h j a b
  by_cases z : j = 4
  · rw [z, ov9_4]
    exact hx
  · rw [ho j z]
    by_cases y : 16 ≤ j
    · rw [ov9_k y]
      exact hj.1 (by omega)
    · rw [ov9_i z (by omega)]
      exact hj.2 (by omega)
theorem kt9_s {T T' : Zt} {t : Int → Int} {x : Int} (h : KT9_ T t) (ho : ∀ j, j ≠ x → T' 270 0 j = T 270 0 j) (hx : T' 270 0 x = 1) : KT9_ T' (u9_ t x 1) := fun j a b => by
  by_cases z : j = x
  · rw [z, u9_e]
    exact hx
  · rw [u9_n z, ho j z]
    exact h j a b
theorem bk_X11_readOrder_e_40 : ck_ fX11 none cX11_readOrder 40 [.iload 1, .ifCond .eq 237, .aload 0, .tableswitch 0 11 62 #[], .ifCond .ne 237, .aload 0] 52 = true := qck_r (nn_ _) (by decide +kernel)
theorem bs_X11_readOrder_e_40 {P : Zt → Option Zv → Prop} (K : Int → Zl → List Zv → Zt → Prop) : sx_ K P [.iload 1, .ifCond .eq 237, .aload 0, .tableswitch 0 11 62 #[], .ifCond .ne 237, .aload 0] 52 = x_iload 1 (x_ifCond .eq 237 K (x_aload 0 (x_g0 111 62 0 5 (x_ifCond .ne 237 K (x_aload 0 (K 52)))))) := ((xe_iload 1).trans (congrArg (x_iload 1) ((xe_ifCond .eq 237).trans (congrArg (x_ifCond .eq 237 K) ((xe_aload 0).trans (congrArg (x_aload 0) ((xe_g0 (kk := 111) rfl tl_11_62).trans (congrArg (x_g0 111 62 0 5) ((xe_ifCond .ne 237).trans (congrArg (x_ifCond .ne 237 K) ((xe_aload 0).trans (congrArg (x_aload 0) xe_nil))))))))))))
theorem bk_X11_readOrder_e_237 : ck_ fX11 none cX11_readOrder 237 [.return_] 238 = true := qck_r (nn_ _) (by decide +kernel)
theorem bs_X11_readOrder_e_237 {P : Zt → Option Zv → Prop} (K : Int → Zl → List Zv → Zt → Prop) : sx_ K P [.return_] 238 = x_return_ P := (xe_return_)
theorem bk_X11_readOrder_e_55 : ck_ fX11 none cX11_readOrder 55 [.aload 0, .tableswitch 0 11 62 #[], .ifCond .ne 79, .aload 0, .tableswitch 0 11 58 #[], .iconst 1, .if_icmp .eq 79, .aload 0, .iconst 2, .aload 0, .tableswitch 0 11 59 #[]] 76 = true := qck_r (nn_ _) (by decide +kernel)
theorem bs_X11_readOrder_e_55 {P : Zt → Option Zv → Prop} (K : Int → Zl → List Zv → Zt → Prop) : sx_ K P [.aload 0, .tableswitch 0 11 62 #[], .ifCond .ne 79, .aload 0, .tableswitch 0 11 58 #[], .iconst 1, .if_icmp .eq 79, .aload 0, .iconst 2, .aload 0, .tableswitch 0 11 59 #[]] 76 = x_aload 0 (x_g0 111 62 0 5 (x_ifCond .ne 79 K (x_aload 0 (x_g0 111 58 0 4 (x_iconst 1 (x_if_icmp .eq 79 K (x_aload 0 (x_iconst 2 (x_aload 0 (x_g0 111 59 0 400 (K 76))))))))))) := ((xe_aload 0).trans (congrArg (x_aload 0) ((xe_g0 (kk := 111) rfl tl_11_62).trans (congrArg (x_g0 111 62 0 5) ((xe_ifCond .ne 79).trans (congrArg (x_ifCond .ne 79 K) ((xe_aload 0).trans (congrArg (x_aload 0) ((xe_g0 (kk := 111) rfl tl_11_58).trans (congrArg (x_g0 111 58 0 4) ((xe_iconst 1).trans (congrArg (x_iconst 1) ((xe_if_icmp .eq 79).trans (congrArg (x_if_icmp .eq 79 K) ((xe_aload 0).trans (congrArg (x_aload 0) ((xe_iconst 2).trans (congrArg (x_iconst 2) ((xe_aload 0).trans (congrArg (x_aload 0) ((xe_g0 (kk := 111) rfl tl_11_59).trans (congrArg (x_g0 111 59 0 400) xe_nil))))))))))))))))))))))
theorem bk_X11_readOrder_e_79 : ck_ fX11 none cX11_readOrder 79 [.aload 0, .tableswitch 0 11 62 #[], .ifCond .ne 97, .aload 0, .aload 0, .tableswitch 0 11 66 #[]] 91 = true := qck_r (nn_ _) (by decide +kernel)
theorem bs_X11_readOrder_e_79 {P : Zt → Option Zv → Prop} (K : Int → Zl → List Zv → Zt → Prop) : sx_ K P [.aload 0, .tableswitch 0 11 62 #[], .ifCond .ne 97, .aload 0, .aload 0, .tableswitch 0 11 66 #[]] 91 = x_aload 0 (x_g0 111 62 0 5 (x_ifCond .ne 97 K (x_aload 0 (x_aload 0 (x_g1 111 266 (K 91)))))) := ((xe_aload 0).trans (congrArg (x_aload 0) ((xe_g0 (kk := 111) rfl tl_11_62).trans (congrArg (x_g0 111 62 0 5) ((xe_ifCond .ne 97).trans (congrArg (x_ifCond .ne 97 K) ((xe_aload 0).trans (congrArg (x_aload 0) ((xe_aload 0).trans (congrArg (x_aload 0) ((xe_g1 (kk := 111) rfl tl_11_66).trans (congrArg (x_g1 111 266) xe_nil))))))))))))
theorem bk_X11_readOrder_e_97 : ck_ fX11 none cX11_readOrder 97 [.iconst (-1), .istore 2, .aload 0, .tableswitch 0 11 62 #[], .ifCond .ne 120, .iload 2, .iconst (-1), .if_icmp .ne 120, .aload 0, .iconst 3, .aload 0, .tableswitch 0 11 59 #[]] 117 = true := qck_r (nn_ _) (by decide +kernel)
theorem bs_X11_readOrder_e_97 {P : Zt → Option Zv → Prop} (K : Int → Zl → List Zv → Zt → Prop) : sx_ K P [.iconst (-1), .istore 2, .aload 0, .tableswitch 0 11 62 #[], .ifCond .ne 120, .iload 2, .iconst (-1), .if_icmp .ne 120, .aload 0, .iconst 3, .aload 0, .tableswitch 0 11 59 #[]] 117 = x_iconst (-1) (x_istore 2 (x_aload 0 (x_g0 111 62 0 5 (x_ifCond .ne 120 K (x_iload 2 (x_iconst (-1) (x_if_icmp .ne 120 K (x_aload 0 (x_iconst 3 (x_aload 0 (x_g0 111 59 0 400 (K 117)))))))))))) := ((xe_iconst (-1)).trans (congrArg (x_iconst (-1)) ((xe_istore 2).trans (congrArg (x_istore 2) ((xe_aload 0).trans (congrArg (x_aload 0) ((xe_g0 (kk := 111) rfl tl_11_62).trans (congrArg (x_g0 111 62 0 5) ((xe_ifCond .ne 120).trans (congrArg (x_ifCond .ne 120 K) ((xe_iload 2).trans (congrArg (x_iload 2) ((xe_iconst (-1)).trans (congrArg (x_iconst (-1)) ((xe_if_icmp .ne 120).trans (congrArg (x_if_icmp .ne 120 K) ((xe_aload 0).trans (congrArg (x_aload 0) ((xe_iconst 3).trans (congrArg (x_iconst 3) ((xe_aload 0).trans (congrArg (x_aload 0) ((xe_g0 (kk := 111) rfl tl_11_59).trans (congrArg (x_g0 111 59 0 400) xe_nil))))))))))))))))))))))))
theorem bk_X11_readOrder_e_120 : ck_ fX11 none cX11_readOrder 120 [.aload 0, .tableswitch 0 11 62 #[], .ifCond .ne 145, .aload 0, .tableswitch 0 11 70 #[], .iload 2, .baload, .ifCond .eq 145, .aload 0, .iconst 5, .aload 0, .tableswitch 0 11 59 #[]] 142 = true := qck_r (nn_ _) (by decide +kernel)
theorem bs_X11_readOrder_e_120 {P : Zt → Option Zv → Prop} (K : Int → Zl → List Zv → Zt → Prop) : sx_ K P [.aload 0, .tableswitch 0 11 62 #[], .ifCond .ne 145, .aload 0, .tableswitch 0 11 70 #[], .iload 2, .baload, .ifCond .eq 145, .aload 0, .iconst 5, .aload 0, .tableswitch 0 11 59 #[]] 142 = x_aload 0 (x_g0 111 62 0 5 (x_ifCond .ne 145 K (x_aload 0 (x_g1 111 270 (x_iload 2 (x_baload (x_ifCond .eq 145 K (x_aload 0 (x_iconst 5 (x_aload 0 (x_g0 111 59 0 400 (K 142)))))))))))) := ((xe_aload 0).trans (congrArg (x_aload 0) ((xe_g0 (kk := 111) rfl tl_11_62).trans (congrArg (x_g0 111 62 0 5) ((xe_ifCond .ne 145).trans (congrArg (x_ifCond .ne 145 K) ((xe_aload 0).trans (congrArg (x_aload 0) ((xe_g1 (kk := 111) rfl tl_11_70).trans (congrArg (x_g1 111 270) ((xe_iload 2).trans (congrArg (x_iload 2) ((xe_baload).trans (congrArg (x_baload) ((xe_ifCond .eq 145).trans (congrArg (x_ifCond .eq 145 K) ((xe_aload 0).trans (congrArg (x_aload 0) ((xe_iconst 5).trans (congrArg (x_iconst 5) ((xe_aload 0).trans (congrArg (x_aload 0) ((xe_g0 (kk := 111) rfl tl_11_59).trans (congrArg (x_g0 111 59 0 400) xe_nil))))))))))))))))))))))))
theorem bk_X11_readOrder_e_145 : ck_ fX11 none cX11_readOrder 145 [.aload 0, .tableswitch 0 11 62 #[], .ifCond .ne 234, .aload 0, .tableswitch 0 11 70 #[], .iload 2, .iconst 1, .bastore, .aload 0, .tableswitch 0 11 4 #[], .iconst 16, .aload 0, .tableswitch 0 11 4 #[], .iconst 4, .iaload, .iadd, .iload 2, .iastore, .aload 0, .tableswitch 0 11 4 #[], .iconst 4, .dup2, .iaload, .iconst 1, .iadd, .iastore, .aload 0] 185 = true := qck_r (nn_ _) (by decide +kernel)
theorem bs_X11_readOrder_e_145 {P : Zt → Option Zv → Prop} (K : Int → Zl → List Zv → Zt → Prop) : sx_ K P [.aload 0, .tableswitch 0 11 62 #[], .ifCond .ne 234, .aload 0, .tableswitch 0 11 70 #[], .iload 2, .iconst 1, .bastore, .aload 0, .tableswitch 0 11 4 #[], .iconst 16, .aload 0, .tableswitch 0 11 4 #[], .iconst 4, .iaload, .iadd, .iload 2, .iastore, .aload 0, .tableswitch 0 11 4 #[], .iconst 4, .dup2, .iaload, .iconst 1, .iadd, .iastore, .aload 0] 185 = x_aload 0 (x_g0 111 62 0 5 (x_ifCond .ne 234 K (x_aload 0 (x_g1 111 270 (x_iload 2 (x_iconst 1 (x_bastore (x_aload 0 (x_g1 111 204 (x_iconst 16 (x_aload 0 (x_g1 111 204 (x_iconst 4 (x_iaload (x_iadd (x_iload 2 (x_iastore (x_aload 0 (x_g1 111 204 (x_iconst 4 (x_dup2 (x_iaload (x_iconst 1 (x_iadd (x_iastore (x_aload 0 (K 185))))))))))))))))))))))))))) := ((xe_aload 0).trans (congrArg (x_aload 0) ((xe_g0 (kk := 111) rfl tl_11_62).trans (congrArg (x_g0 111 62 0 5) ((xe_ifCond .ne 234).trans (congrArg (x_ifCond .ne 234 K) ((xe_aload 0).trans (congrArg (x_aload 0) ((xe_g1 (kk := 111) rfl tl_11_70).trans (congrArg (x_g1 111 270) ((xe_iload 2).trans (congrArg (x_iload 2) ((xe_iconst 1).trans (congrArg (x_iconst 1) ((xe_bastore).trans (congrArg (x_bastore) ((xe_aload 0).trans (congrArg (x_aload 0) ((xe_g1 (kk := 111) rfl tl_11_4).trans (congrArg (x_g1 111 204) ((xe_iconst 16).trans (congrArg (x_iconst 16) ((xe_aload 0).trans (congrArg (x_aload 0) ((xe_g1 (kk := 111) rfl tl_11_4).trans (congrArg (x_g1 111 204) ((xe_iconst 4).trans (congrArg (x_iconst 4) ((xe_iaload).trans (congrArg (x_iaload) ((xe_iadd).trans (congrArg (x_iadd) ((xe_iload 2).trans (congrArg (x_iload 2) ((xe_iastore).trans (congrArg (x_iastore) ((xe_aload 0).trans (congrArg (x_aload 0) ((xe_g1 (kk := 111) rfl tl_11_4).trans (congrArg (x_g1 111 204) ((xe_iconst 4).trans (congrArg (x_iconst 4) ((xe_dup2).trans (congrArg (x_dup2) ((xe_iaload).trans (congrArg (x_iaload) ((xe_iconst 1).trans (congrArg (x_iconst 1) ((xe_iadd).trans (congrArg (x_iadd) ((xe_iastore).trans (congrArg (x_iastore) ((xe_aload 0).trans (congrArg (x_aload 0) xe_nil))))))))))))))))))))))))))))))))))))))))))))))))))))))
theorem bk_X11_readOrder_e_234 : ck_ fX11 none cX11_readOrder 234 [.goto 40] 237 = true := qck_r (nn_ _) (by decide +kernel)
theorem bs_X11_readOrder_e_234 {P : Zt → Option Zv → Prop} (K : Int → Zl → List Zv → Zt → Prop) : sx_ K P [.goto 40] 237 = x_goto 40 K := (xe_goto 40)
theorem bk_X11_readOrder_e_94 : ck_ fX11 none cX11_readOrder 94 [.goto 98] 97 = true := qck_r (nn_ _) (by decide +kernel)
theorem bs_X11_readOrder_e_94 {P : Zt → Option Zv → Prop} (K : Int → Zl → List Zv → Zt → Prop) : sx_ K P [.goto 98] 97 = x_goto 98 K := (xe_goto 98)
theorem bk_X11_readOrder_e_98 : ck_ fX11 none cX11_readOrder 98 [.istore 2, .aload 0, .tableswitch 0 11 62 #[], .ifCond .ne 120, .iload 2, .iconst (-1), .if_icmp .ne 120, .aload 0, .iconst 3, .aload 0, .tableswitch 0 11 59 #[]] 117 = true := qck_r (nn_ _) (by decide +kernel)
theorem bs_X11_readOrder_e_98 {P : Zt → Option Zv → Prop} (K : Int → Zl → List Zv → Zt → Prop) : sx_ K P [.istore 2, .aload 0, .tableswitch 0 11 62 #[], .ifCond .ne 120, .iload 2, .iconst (-1), .if_icmp .ne 120, .aload 0, .iconst 3, .aload 0, .tableswitch 0 11 59 #[]] 117 = x_istore 2 (x_aload 0 (x_g0 111 62 0 5 (x_ifCond .ne 120 K (x_iload 2 (x_iconst (-1) (x_if_icmp .ne 120 K (x_aload 0 (x_iconst 3 (x_aload 0 (x_g0 111 59 0 400 (K 117))))))))))) := ((xe_istore 2).trans (congrArg (x_istore 2) ((xe_aload 0).trans (congrArg (x_aload 0) ((xe_g0 (kk := 111) rfl tl_11_62).trans (congrArg (x_g0 111 62 0 5) ((xe_ifCond .ne 120).trans (congrArg (x_ifCond .ne 120 K) ((xe_iload 2).trans (congrArg (x_iload 2) ((xe_iconst (-1)).trans (congrArg (x_iconst (-1)) ((xe_if_icmp .ne 120).trans (congrArg (x_if_icmp .ne 120 K) ((xe_aload 0).trans (congrArg (x_aload 0) ((xe_iconst 3).trans (congrArg (x_iconst 3) ((xe_aload 0).trans (congrArg (x_aload 0) ((xe_g0 (kk := 111) rfl tl_11_59).trans (congrArg (x_g0 111 59 0 400) xe_nil))))))))))))))))))))))
theorem bk_X11_readOrder_e_188 : ck_ fX11 none cX11_readOrder 188 [.aload 0, .tableswitch 0 11 62 #[], .ifCond .ne 220, .aload 0, .tableswitch 0 11 58 #[], .iconst 3, .if_icmp .eq 220, .aload 0, .tableswitch 0 11 58 #[], .iconst 4, .if_icmp .eq 220, .aload 0, .iconst 2, .aload 0, .tableswitch 0 11 59 #[]] 217 = true := qck_r (nn_ _) (by decide +kernel)
theorem bs_X11_readOrder_e_188 {P : Zt → Option Zv → Prop} (K : Int → Zl → List Zv → Zt → Prop) : sx_ K P [.aload 0, .tableswitch 0 11 62 #[], .ifCond .ne 220, .aload 0, .tableswitch 0 11 58 #[], .iconst 3, .if_icmp .eq 220, .aload 0, .tableswitch 0 11 58 #[], .iconst 4, .if_icmp .eq 220, .aload 0, .iconst 2, .aload 0, .tableswitch 0 11 59 #[]] 217 = x_aload 0 (x_g0 111 62 0 5 (x_ifCond .ne 220 K (x_aload 0 (x_g0 111 58 0 4 (x_iconst 3 (x_if_icmp .eq 220 K (x_aload 0 (x_g0 111 58 0 4 (x_iconst 4 (x_if_icmp .eq 220 K (x_aload 0 (x_iconst 2 (x_aload 0 (x_g0 111 59 0 400 (K 217))))))))))))))) := ((xe_aload 0).trans (congrArg (x_aload 0) ((xe_g0 (kk := 111) rfl tl_11_62).trans (congrArg (x_g0 111 62 0 5) ((xe_ifCond .ne 220).trans (congrArg (x_ifCond .ne 220 K) ((xe_aload 0).trans (congrArg (x_aload 0) ((xe_g0 (kk := 111) rfl tl_11_58).trans (congrArg (x_g0 111 58 0 4) ((xe_iconst 3).trans (congrArg (x_iconst 3) ((xe_if_icmp .eq 220).trans (congrArg (x_if_icmp .eq 220 K) ((xe_aload 0).trans (congrArg (x_aload 0) ((xe_g0 (kk := 111) rfl tl_11_58).trans (congrArg (x_g0 111 58 0 4) ((xe_iconst 4).trans (congrArg (x_iconst 4) ((xe_if_icmp .eq 220).trans (congrArg (x_if_icmp .eq 220 K) ((xe_aload 0).trans (congrArg (x_aload 0) ((xe_iconst 2).trans (congrArg (x_iconst 2) ((xe_aload 0).trans (congrArg (x_aload 0) ((xe_g0 (kk := 111) rfl tl_11_59).trans (congrArg (x_g0 111 59 0 400) xe_nil))))))))))))))))))))))))))))))
theorem bk_X11_readOrder_e_220 : ck_ fX11 none cX11_readOrder 220 [.aload 0, .tableswitch 0 11 58 #[], .iconst 4, .if_icmp .ne 232, .iconst 1, .goto 233] 232 = true := qck_r (nn_ _) (by decide +kernel)
theorem bs_X11_readOrder_e_220 {P : Zt → Option Zv → Prop} (K : Int → Zl → List Zv → Zt → Prop) : sx_ K P [.aload 0, .tableswitch 0 11 58 #[], .iconst 4, .if_icmp .ne 232, .iconst 1, .goto 233] 232 = x_aload 0 (x_g0 111 58 0 4 (x_iconst 4 (x_if_icmp .ne 232 K (x_iconst 1 (x_goto 233 K))))) := ((xe_aload 0).trans (congrArg (x_aload 0) ((xe_g0 (kk := 111) rfl tl_11_58).trans (congrArg (x_g0 111 58 0 4) ((xe_iconst 4).trans (congrArg (x_iconst 4) ((xe_if_icmp .ne 232).trans (congrArg (x_if_icmp .ne 232 K) ((xe_iconst 1).trans (congrArg (x_iconst 1) (xe_goto 233)))))))))))
theorem bk_X11_readOrder_e_232 : ck_ fX11 none cX11_readOrder 232 [.iconst 0, .istore 1, .goto 40] 237 = true := qck_r (nn_ _) (by decide +kernel)
theorem bs_X11_readOrder_e_232 {P : Zt → Option Zv → Prop} (K : Int → Zl → List Zv → Zt → Prop) : sx_ K P [.iconst 0, .istore 1, .goto 40] 237 = x_iconst 0 (x_istore 1 (x_goto 40 K)) := ((xe_iconst 0).trans (congrArg (x_iconst 0) ((xe_istore 1).trans (congrArg (x_istore 1) (xe_goto 40)))))
theorem bk_X11_readOrder_e_233 : ck_ fX11 none cX11_readOrder 233 [.istore 1, .goto 40] 237 = true := qck_r (nn_ _) (by decide +kernel)
theorem bs_X11_readOrder_e_233 {P : Zt → Option Zv → Prop} (K : Int → Zl → List Zv → Zt → Prop) : sx_ K P [.istore 1, .goto 40] 237 = x_istore 1 (x_goto 40 K) := ((xe_istore 1).trans (congrArg (x_istore 1) (xe_goto 40)))
theorem bk_X11_readOrder_e_2 : ck_ fX11 none cX11_readOrder 2 [.iload 1, .iconst 7, .if_icmp .ge 31, .aload 0, .tableswitch 0 11 70 #[], .iload 1, .iconst 0, .bastore, .aload 0, .tableswitch 0 11 4 #[], .iconst 16, .iload 1, .iadd, .iconst (-1), .iastore, .iinc 1 1, .goto 2] 31 = true := qck_r (nn_ _) (by decide +kernel)
theorem bs_X11_readOrder_e_2 {P : Zt → Option Zv → Prop} (K : Int → Zl → List Zv → Zt → Prop) : sx_ K P [.iload 1, .iconst 7, .if_icmp .ge 31, .aload 0, .tableswitch 0 11 70 #[], .iload 1, .iconst 0, .bastore, .aload 0, .tableswitch 0 11 4 #[], .iconst 16, .iload 1, .iadd, .iconst (-1), .iastore, .iinc 1 1, .goto 2] 31 = x_iload 1 (x_iconst 7 (x_if_icmp .ge 31 K (x_aload 0 (x_g1 111 270 (x_iload 1 (x_iconst 0 (x_bastore (x_aload 0 (x_g1 111 204 (x_iconst 16 (x_iload 1 (x_iadd (x_iconst (-1) (x_iastore (x_iinc 1 1 (x_goto 2 K)))))))))))))))) := ((xe_iload 1).trans (congrArg (x_iload 1) ((xe_iconst 7).trans (congrArg (x_iconst 7) ((xe_if_icmp .ge 31).trans (congrArg (x_if_icmp .ge 31 K) ((xe_aload 0).trans (congrArg (x_aload 0) ((xe_g1 (kk := 111) rfl tl_11_70).trans (congrArg (x_g1 111 270) ((xe_iload 1).trans (congrArg (x_iload 1) ((xe_iconst 0).trans (congrArg (x_iconst 0) ((xe_bastore).trans (congrArg (x_bastore) ((xe_aload 0).trans (congrArg (x_aload 0) ((xe_g1 (kk := 111) rfl tl_11_4).trans (congrArg (x_g1 111 204) ((xe_iconst 16).trans (congrArg (x_iconst 16) ((xe_iload 1).trans (congrArg (x_iload 1) ((xe_iadd).trans (congrArg (x_iadd) ((xe_iconst (-1)).trans (congrArg (x_iconst (-1)) ((xe_iastore).trans (congrArg (x_iastore) ((xe_iinc 1 1).trans (congrArg (x_iinc 1 1) (xe_goto 2)))))))))))))))))))))))))))))))))
theorem bk_X11_readOrder_e_31 : ck_ fX11 none cX11_readOrder 31 [.aload 0, .tableswitch 0 11 4 #[], .iconst 4, .iconst 0, .iastore, .iconst 1, .istore 1] 40 = true := qck_r (nn_ _) (by decide +kernel)
theorem bs_X11_readOrder_e_31 {P : Zt → Option Zv → Prop} (K : Int → Zl → List Zv → Zt → Prop) : sx_ K P [.aload 0, .tableswitch 0 11 4 #[], .iconst 4, .iconst 0, .iastore, .iconst 1, .istore 1] 40 = x_aload 0 (x_g1 111 204 (x_iconst 4 (x_iconst 0 (x_iastore (x_iconst 1 (x_istore 1 (K 40))))))) := ((xe_aload 0).trans (congrArg (x_aload 0) ((xe_g1 (kk := 111) rfl tl_11_4).trans (congrArg (x_g1 111 204) ((xe_iconst 4).trans (congrArg (x_iconst 4) ((xe_iconst 0).trans (congrArg (x_iconst 0) ((xe_iastore).trans (congrArg (x_iastore) ((xe_iconst 1).trans (congrArg (x_iconst 1) ((xe_istore 1).trans (congrArg (x_istore 1) xe_nil))))))))))))))
theorem bk_X11_readOrder_e_0 : ck_ fX11 none cX11_readOrder 0 [.iconst 0, .istore 1] 2 = true := qck_r (nn_ _) (by decide +kernel)
theorem bs_X11_readOrder_e_0 {P : Zt → Option Zv → Prop} (K : Int → Zl → List Zv → Zt → Prop) : sx_ K P [.iconst 0, .istore 1] 2 = x_iconst 0 (x_istore 1 (K 2)) := ((xe_iconst 0).trans (congrArg (x_iconst 0) ((xe_istore 1).trans (congrArg (x_istore 1) xe_nil))))
abbrev po_X11_readOrder_e (T : Zt) (v : Int → Int) : Zt → Option Zv → Prop := fun T' r => r = none ∧ fr_ [(111, [57, 58, 59, 60, 61, 62, 63]), (204, []), (270, [])] T T' ∧ ((T' 111 0 62 ≠ 0 ∧ orf9_ 9 (cl9_ (T 111 0 1) (fun j => T 200 0 j)) (T 111 0 1) (T 111 0 57) (fun _ => 0) 0 (ov9_ v) = Sum.inl (T' 111 0 62, T' 111 0 63)) ∨ (T' 111 0 62 = 0 ∧ MO9_ (orf9_ 9 (cl9_ (T 111 0 1) (fun j => T 200 0 j)) (T 111 0 1) (T 111 0 57) (fun _ => 0) 0 (ov9_ v)) T' ∧ T' 111 0 63 = T 111 0 63 ∧ T 111 0 57 ≤ T' 111 0 57 ∧ T' 111 0 57 ≤ T 111 0 1))
set_option maxHeartbeats 4000000 in
theorem ct_X11_readOrder_e {T : Zt} {v : Int → Int} (h1 : T 111 0 57 ≤ T 111 0 1) (h62 : T 111 0 62 = 0) (hC : CW_ T) (hv : VR9_ T v) : Ct_ yX11_readOrder zX11_readOrder T [vR 111 0] (po_X11_readOrder_e T v) := by
  refine ct_of pn_11 rfl rfl (Nat.le_of_ble_eq_true rfl) (fun hT hav => ?_)
  have hz : zX11_readOrder.2.2.2.1 = some .boolean → ∀ (T' : Zt) (x : Int), po_X11_readOrder_e T v T' (some (vI x)) → 0 ≤ x ∧ x ≤ 1 := fun h => by cases h
  have hb_1 : 0 ≤ T 111 0 1 ∧ T 111 0 1 ≤ 400 := bd_f hT 111 1 tl_11_1 0
  have hb_57 : 0 ≤ T 111 0 57 ∧ T 111 0 57 ≤ 400 := bd_f hT 111 57 tl_11_57 0
  show J_ zX11_readOrder T (po_X11_readOrder_e T v) 0 0 0 [some (vR 111 0), none, none] [] T
  have c_2 : ∀ (nn : Nat) (k : Int) (T1 : Zt), ((7 - k).toNat) ≤ nn → (fr_ [(204, []), (270, [])] T T1) → (0 ≤ k ∧ k ≤ 7) → (∀ j : Int, 0 ≤ j → j < k → T1 270 0 j = 0) → (VW9_ T1 v k) → J_ zX11_readOrder T (po_X11_readOrder_e T v) 0 0 2 [some (vR 111 0), some (vI k), none] [] T1 := by
    intro nn
    induction nn using Nat.strongRecOn with
    | _ nn ih_2 =>
      intro k T1 hm_2 hf_2 k1 l1 l2
      replace hm_2 := fun (_ : Unit) => hm_2
      have c_40 : ∀ (nn : Nat) (mo : Int) (c : Int) (t : Int → Int) (u : Int → Int) (T2 : Zt), ((9 - c).toNat) ≤ nn → (fr_ [(111, [57, 58, 59, 60, 61, 62, 63]), (204, []), (270, [])] T T2) → (0 ≤ c ∧ c ≤ 8) → ((T2 111 0 62 ≠ 0 ∧ orf9_ 9 (cl9_ (T 111 0 1) (fun j => T 200 0 j)) (T 111 0 1) (T 111 0 57) (fun _ => 0) 0 (ov9_ v) = Sum.inl (T2 111 0 62, T2 111 0 63)) ∨ (T2 111 0 62 = 0 ∧ mo = 0 ∧ orf9_ 9 (cl9_ (T 111 0 1) (fun j => T 200 0 j)) (T 111 0 1) (T 111 0 57) (fun _ => 0) 0 (ov9_ v) = Sum.inr (T2 111 0 57, u)) ∨ (T2 111 0 62 = 0 ∧ mo = 1 ∧ orf9_ 9 (cl9_ (T 111 0 1) (fun j => T 200 0 j)) (T 111 0 1) (T 111 0 57) (fun _ => 0) 0 (ov9_ v) = orf9_ ((8 - c).toNat + 1) (cl9_ (T 111 0 1) (fun j => T 200 0 j)) (T 111 0 1) (T2 111 0 57) t c u)) → (T2 111 0 62 = 0 → VR9_ T2 u) → (T2 111 0 62 = 0 → mo = 1 → c = T2 204 0 4 ∧ KS9_ t c ∧ KT9_ T2 t) → (T2 111 0 62 = 0 → T2 111 0 63 = T 111 0 63 ∧ T 111 0 57 ≤ T2 111 0 57 ∧ T2 111 0 57 ≤ T 111 0 1) → J_ zX11_readOrder T (po_X11_readOrder_e T v) 0 0 40 [some (vR 111 0), some (vI mo), none] [] T2 := by
        intro nn
        induction nn using Nat.strongRecOn with
        | _ nn ih_40 =>
          intro mo c t u T2 hm_40 hf_40 i1 jr jv jk jb
          replace hm_40 := fun (_ : Unit) => hm_40
          refine j_blx (F := fX11) tb_X11 (nn_ _) bk_X11_readOrder_e_40 bs_X11_readOrder_e_40 hz (fun K hK => ?_)
          refine And.intro (fun c1 => ?_) (fun c1 => ?_)
          · refine hK 237 _ [] T2 ?_
            refine j_blx (F := fX11) tb_X11 (nn_ _) bk_X11_readOrder_e_237 bs_X11_readOrder_e_237 hz (fun K hK => ?_)
            refine (show po_X11_readOrder_e T v T2 (none) from ?_)
            rcases jr with ⟨z1, z2⟩ | ⟨z1, z2, z3⟩ | ⟨z1, z2, z3⟩
            · exact ⟨rfl, fr_t (fr_0 _ _) (fr_s hf_40 rfl), Or.inl ⟨z1, z2⟩⟩
            · have jb1 := jb z1
              exact ⟨rfl, fr_t (fr_0 _ _) (fr_s hf_40 rfl), Or.inr ⟨z1, ⟨u, z3, jv z1⟩, by omega, by omega, by omega⟩⟩
            · exfalso; omega
          · intro b2 b2b
            refine And.intro (fun c3 => ?_) (fun c3 => ?_)
            · refine hK 237 _ [] T2 ?_
              refine j_blx (F := fX11) tb_X11 (nn_ _) bk_X11_readOrder_e_237 bs_X11_readOrder_e_237 hz (fun K hK => ?_)
              refine (show po_X11_readOrder_e T v T2 (none) from ?_)
              rcases jr with ⟨z1, z2⟩ | ⟨z1, z2, z3⟩ | ⟨z1, z2, z3⟩
              · exact ⟨rfl, fr_t (fr_0 _ _) (fr_s hf_40 rfl), Or.inl ⟨z1, z2⟩⟩
              · have jb1 := jb z1
                exact ⟨rfl, fr_t (fr_0 _ _) (fr_s hf_40 rfl), Or.inr ⟨z1, ⟨u, z3, jv z1⟩, by omega, by omega, by omega⟩⟩
              · exfalso; omega
            · have hj3 : T2 111 0 62 = 0 ∧ mo = 1 := by omega
              obtain ⟨hc, ik, ikt⟩ := jk hj3.1 hj3.2
              subst hc
              have ir := ((jr.resolve_left (fun z => by omega)).resolve_left (fun z => by omega)).2.2
              have ks := ks9_b ik
              have jb1 := jb hj3.1
              refine hK 52 _ [vR 111 0] T2 ?_
              have e4 : T2 111 0 1 = T 111 0 1 := hf_40 111 0 1 rfl
              refine j_callV (y := yX11_take) (Yc := zX11_take) (rest := []) [] (ct_X11_take_e (T := T2) (by omega) (by omega)) cl_X11_291 (qd_c (by decide +kernel)) (nn_ _) rfl (rf_of rfl) (Nat.le_of_ble_eq_true rfl) (Nat.le_of_ble_eq_true rfl) (Nat.le_of_ble_eq_true rfl) rfl ?_
              rintro U5 _ ⟨rfl, fU5, qU5⟩
              show J_ zX11_readOrder T (po_X11_readOrder_e T v) 0 0 55 _ [] U5
              have qka := qU5
              have fb6 : fr_ [(111, [57, 58, 59, 60, 61, 62, 63]), (204, []), (270, [])] T T2 := fr_t (fr_0 _ _) (fr_s hf_40 rfl)
              rw [show (fun j => T2 200 0 j) = fun j => T 200 0 j from funext fun j => fb6 200 0 j rfl, show T2 111 0 1 = T 111 0 1 from fb6 111 0 1 rfl] at qka
              obtain ⟨qaa, ea, ka, hka, hqa⟩ := qka
              have tra := tk9_r hka
              refine j_blx (F := fX11) tb_X11 (nn_ _) bk_X11_readOrder_e_55 bs_X11_readOrder_e_55 hz (fun K hK => ?_)
              intro b7 b7b
              refine And.intro (fun c8 => ?_) (fun c8 => ?_)
              · refine hK 79 _ [] U5 ?_
                refine j_blx (F := fX11) tb_X11 (nn_ _) bk_X11_readOrder_e_79 bs_X11_readOrder_e_79 hz (fun K hK => ?_)
                intro b9 b9b
                refine And.intro (fun c10 => ?_) (fun c10 => ?_)
                · refine hK 97 _ [] U5 ?_
                  refine j_blx (F := fX11) tb_X11 (nn_ _) bk_X11_readOrder_e_97 bs_X11_readOrder_e_97 hz (fun K hK => ?_)
                  intro b11 b11b
                  refine And.intro (fun c12 => ?_) (fun c12 => ?_)
                  · refine hK 120 [some (vR 111 0), some (vI mo), some (vI (-1))] [] U5 ?_
                    refine j_blx (F := fX11) tb_X11 (nn_ _) bk_X11_readOrder_e_120 bs_X11_readOrder_e_120 hz (fun K hK => ?_)
                    intro b13 b13b
                    refine And.intro (fun c14 => ?_) (fun c14 => ?_)
                    · refine hK 145 _ [] U5 ?_
                      refine j_blx (F := fX11) tb_X11 (nn_ _) bk_X11_readOrder_e_145 bs_X11_readOrder_e_145 hz (fun K hK => ?_)
                      intro b15 b15b
                      refine And.intro (fun c16 => ?_) (fun c16 => ?_)
                      · refine hK 234 _ [] U5 ?_
                        refine j_blx (F := fX11) tb_X11 (nn_ _) bk_X11_readOrder_e_234 bs_X11_readOrder_e_234 hz (fun K hK => ?_)
                        refine hK 40 _ [] U5 ?_
                        refine j_drq [some (vR 111 0), some (vI mo), none] (drq_s (drq_s (drq_n drq_0))) ?_
                        have e17 : U5 204 0 4 = T2 204 0 4 := fU5 204 0 4 rfl
                        refine ih_40 _ ?_ mo (T2 204 0 4 + 1) t u U5 (Nat.le_refl _) ?_ ?_ ?_ ?_ ?_ ?_
                        · have hm_40 := hm_40 (); omega
                        · exact fr_t (fr_t (fr_0 _ _) (fr_s hf_40 rfl)) (fr_s fU5 rfl)
                        · omega
                        · refine Or.inl ⟨by omega, ir.trans ?_⟩
                          rw [show U5 111 0 62 = 1 by omega, show U5 111 0 63 = U5 111 0 59 by omega]
                          exact orf9_w (wof9_1 hka (by omega) (by omega))
                        · exact fun z => absurd z (by omega)
                        · exact fun z => absurd z (by omega)
                        · exact fun z => absurd z (by omega)
                      · exfalso; omega
                    · exfalso; omega
                  · exfalso; omega
                · exfalso; omega
              · intro b18 b18b
                refine And.intro (fun c19 => ?_) (fun c19 => ?_)
                · refine hK 79 _ [] U5 ?_
                  refine j_blx (F := fX11) tb_X11 (nn_ _) bk_X11_readOrder_e_79 bs_X11_readOrder_e_79 hz (fun K hK => ?_)
                  intro b20 b20b
                  refine And.intro (fun c21 => ?_) (fun c21 => ?_)
                  · exfalso; omega
                  · refine hK 91 _ [vR 266 0, vR 111 0] U5 ?_
                    refine j_callV (y := yX11_whichOf) (Yc := zX11_whichOf) (rest := []) [vR 266 0] (ct_X11_whichOf_e2 (T := U5) (by omega) (by exact CX_f (ws := [(111, [57, 58, 59, 60, 61, 62, 63]), (204, []), (270, [])]) hC (fr_t (fr_t (fr_0 _ _) (fr_s hf_40 rfl)) (fr_s fU5 rfl)) ⟨fun _ => rfl, fun _ => rfl, fun _ => rfl, fun _ => rfl, fun _ => rfl, trivial⟩)) cl_X11_294 (qd_c (by decide +kernel)) (nn_ _) rfl (rf_of rfl) (Nat.le_of_ble_eq_true rfl) (Nat.le_of_ble_eq_true rfl) (Nat.le_of_ble_eq_true rfl) rfl ?_
                    rintro _ _ ⟨rfl, x22, rfl, hx22, wx22⟩
                    have fb23 : fr_ [(111, [57, 58, 59, 60, 61, 62, 63]), (204, []), (270, [])] T U5 := fr_t (fr_t (fr_0 _ _) (fr_s hf_40 rfl)) (fr_s fU5 rfl)
                    rw [show (fun j => U5 200 0 j) = fun j => T 200 0 j from funext fun j => fb23 200 0 j rfl] at wx22
                    show J_ zX11_readOrder T (po_X11_readOrder_e T v) 0 0 94 _ [vI x22] U5
                    refine j_blx (F := fX11) tb_X11 (nn_ _) bk_X11_readOrder_e_94 bs_X11_readOrder_e_94 hz (fun K hK => ?_)
                    refine hK 98 _ [vI x22] U5 ?_
                    refine j_blx (F := fX11) tb_X11 (nn_ _) bk_X11_readOrder_e_98 bs_X11_readOrder_e_98 hz (fun K hK => ?_)
                    intro b24 b24b
                    refine And.intro (fun c25 => ?_) (fun c25 => ?_)
                    · exfalso; omega
                    · refine And.intro (fun c26 => ?_) (fun c26 => ?_)
                      · have ee : U5 111 0 60 = ea := by omega
                        have hw1 := wx22
                        rw [ee] at hw1
                        have hwi := wof9_0 ds9_2 hka (by omega) (by omega) hw1 (by omega)
                        have hkx := ikt x22 (by omega) (by omega)
                        refine hK 120 [some (vR 111 0), some (vI mo), some (vI x22)] [] U5 ?_
                        refine j_blx (F := fX11) tb_X11 (nn_ _) bk_X11_readOrder_e_120 bs_X11_readOrder_e_120 hz (fun K hK => ?_)
                        intro b27 b27b
                        refine And.intro (fun c28 => ?_) (fun c28 => ?_)
                        · exfalso; omega
                        · refine ix_i (by omega) ?_
                          intro b29 b29b
                          have e30 : U5 270 0 x22 = T2 270 0 x22 := fU5 270 0 x22 rfl
                          rw [e30] at b29 b29b ⊢
                          refine And.intro (fun c31 => ?_) (fun c31 => ?_)
                          · have hx0 : t x22 = 0 := by omega
                            have hlt : T2 204 0 4 < 7 := Classical.byContradiction fun z => ks9_7 ik (by omega) (by omega) (by omega) hx0
                            refine hK 145 _ [] U5 ?_
                            refine j_blx (F := fX11) tb_X11 (nn_ _) bk_X11_readOrder_e_145 bs_X11_readOrder_e_145 hz (fun K hK => ?_)
                            intro b32 b32b
                            refine And.intro (fun c33 => ?_) (fun c33 => ?_)
                            · exfalso; omega
                            · refine iy_i (by omega) (by omega) ?_
                              refine x_nm (fun U34 hU34 => ?_)
                              have e35 := up_f hU34
                              refine ix_i (by omega) ?_
                              intro b36 b36b
                              have e37 : U34 204 0 4 = T2 204 0 4 := (up_k hU34 (by exact Nat.ne_of_beq_eq_false rfl) 0 4).trans (fU5 204 0 4 rfl)
                              rw [e37] at b36 b36b ⊢
                              refine rg_i (by omega) ?_
                              refine iy_i (by omega) (by omega) ?_
                              refine x_nm (fun U38 hU38 => ?_)
                              have e39 := up_f hU38
                              have ek4 : U38 204 0 4 = U34 204 0 4 := up_g hU38 (by omega)
                              refine ix_i (by omega) ?_
                              intro b40 b40b
                              refine rg_i (by omega) ?_
                              refine iy_i (by omega) (by omega) ?_
                              refine x_nm (fun U41 hU41 => ?_)
                              have e42 := up_f hU41
                              refine hK 185 _ [vR 111 0] U41 ?_
                              have v4 : U41 204 0 4 = T2 204 0 4 + 1 := by omega
                              have vr0 : VR9_ U34 u := VR9_f (jv hj3.1) (show fr_ [(270, []), (111, [57, 58, 59, 60, 61, 62, 63])] T2 U34 from fr_u (fr_t (fr_0 _ _) (fr_s fU5 rfl)) hU34 rfl) (fun _ => rfl)
                              have vr1 := VR9_u vr0 (T' := U38) (s := 16 + T2 204 0 4) (x := x22) (fun j hj => up_g hU38 (fun z => hj z.2.2)) (up_f hU38)
                              have vr := VR9_u vr1 (T' := U41) (s := 4) (x := T2 204 0 4 + 1) (fun j hj => up_g hU41 (fun z => hj z.2.2)) v4
                              have kt0 : KT9_ U5 t := fun j a b => ((show fr_ [(111, [57, 58, 59, 60, 61, 62, 63])] T2 U5 from fr_t (fr_0 _ _) (fr_s fU5 rfl)) 270 0 j rfl).trans (ikt j a b)
                              have kt1 := kt9_s kt0 (T' := U34) (x := x22) (fun j hj => up_g hU34 (fun z => hj z.2.2)) (up_f hU34)
                              have kt : KT9_ U41 (u9_ t x22 1) := fun j a b => (up_k hU41 (by exact Nat.ne_of_beq_eq_false rfl) 0 j).trans ((up_k hU38 (by exact Nat.ne_of_beq_eq_false rfl) 0 j).trans (kt1 j a b))
                              have e43 : U41 111 0 57 = U5 111 0 57 := (up_k hU41 (by exact Nat.ne_of_beq_eq_false rfl) 0 57).trans ((up_k hU38 (by exact Nat.ne_of_beq_eq_false rfl) 0 57).trans (up_k hU34 (by exact Nat.ne_of_beq_eq_false rfl) 0 57))
                              have e44 : U41 111 0 1 = T 111 0 1 := (up_k hU41 (by exact Nat.ne_of_beq_eq_false rfl) 0 1).trans ((up_k hU38 (by exact Nat.ne_of_beq_eq_false rfl) 0 1).trans ((up_k hU34 (by exact Nat.ne_of_beq_eq_false rfl) 0 1).trans ((fU5 111 0 1 rfl).trans (hf_40 111 0 1 rfl))))
                              have e45 : U41 111 0 62 = U5 111 0 62 := (up_k hU41 (by exact Nat.ne_of_beq_eq_false rfl) 0 62).trans ((up_k hU38 (by exact Nat.ne_of_beq_eq_false rfl) 0 62).trans (up_k hU34 (by exact Nat.ne_of_beq_eq_false rfl) 0 62))
                              refine j_callV (y := yX11_take) (Yc := zX11_take) (rest := []) [] (ct_X11_take_e (T := U41) (by omega) (by omega)) cl_X11_291 (qd_c (by decide +kernel)) (nn_ _) rfl (rf_of rfl) (Nat.le_of_ble_eq_true rfl) (Nat.le_of_ble_eq_true rfl) (Nat.le_of_ble_eq_true rfl) rfl ?_
                              rintro U46 _ ⟨rfl, fU46, qU46⟩
                              show J_ zX11_readOrder T (po_X11_readOrder_e T v) 0 0 188 _ [] U46
                              have qkb := qU46
                              have fb47 : fr_ [(204, []), (270, []), (111, [57, 58, 59, 60, 61, 62, 63])] T U41 := fr_u (fr_u (fr_u (fr_t (fr_t (fr_0 _ _) (fr_s hf_40 rfl)) (fr_s fU5 rfl)) hU34 rfl) hU38 rfl) hU41 rfl
                              rw [show (fun j => U41 200 0 j) = fun j => T 200 0 j from funext fun j => fb47 200 0 j rfl, show U41 111 0 1 = T 111 0 1 from fb47 111 0 1 rfl] at qkb
                              obtain ⟨qab, eb, kb, hkb, hqb⟩ := qkb
                              have trb := tk9_r hkb
                              have e48 : U41 111 0 57 = U5 111 0 57 := (up_k hU41 (by exact Nat.ne_of_beq_eq_false rfl) 0 57).trans ((up_k hU38 (by exact Nat.ne_of_beq_eq_false rfl) 0 57).trans (up_k hU34 (by exact Nat.ne_of_beq_eq_false rfl) 0 57))
                              have e57 : U41 111 0 57 = ea := by omega
                              rw [e57] at hkb
                              have w4 : U46 204 0 4 = T2 204 0 4 + 1 := (fU46 204 0 4 rfl).trans v4
                              have e49 : U41 111 0 63 = U5 111 0 63 := (up_k hU41 (by exact Nat.ne_of_beq_eq_false rfl) 0 63).trans ((up_k hU38 (by exact Nat.ne_of_beq_eq_false rfl) 0 63).trans (up_k hU34 (by exact Nat.ne_of_beq_eq_false rfl) 0 63))
                              refine j_blx (F := fX11) tb_X11 (nn_ _) bk_X11_readOrder_e_188 bs_X11_readOrder_e_188 hz (fun K hK => ?_)
                              intro b50 b50b
                              refine And.intro (fun c51 => ?_) (fun c51 => ?_)
                              · refine hK 220 _ [] U46 ?_
                                refine j_blx (F := fX11) tb_X11 (nn_ _) bk_X11_readOrder_e_220 bs_X11_readOrder_e_220 hz (fun K hK => ?_)
                                intro b52 b52b
                                refine And.intro (fun c53 => ?_) (fun c53 => ?_)
                                · refine hK 232 _ [] U46 ?_
                                  refine j_blx (F := fX11) tb_X11 (nn_ _) bk_X11_readOrder_e_232 bs_X11_readOrder_e_232 hz (fun K hK => ?_)
                                  refine hK 40 [some (vR 111 0), some (vI 0), some (vI x22)] [] U46 ?_
                                  refine j_drq [some (vR 111 0), some (vI 0), none] (drq_s (drq_s (drq_n drq_0))) ?_
                                  have e54 : U46 204 0 4 = (U38 204 0 4) + 1 := (fU46 204 0 4 rfl).trans (up_f hU41)
                                  refine ih_40 _ ?_ 0 (T2 204 0 4 + 1) (u9_ t x22 1) (u9_ (u9_ u (16 + T2 204 0 4) x22) 4 (T2 204 0 4 + 1)) U46 (Nat.le_refl _) ?_ ?_ ?_ ?_ ?_ ?_
                                  · have hm_40 := hm_40 (); omega
                                  · exact fr_t (fr_u (fr_u (fr_u (fr_t (fr_t (fr_0 _ _) (fr_s hf_40 rfl)) (fr_s fU5 rfl)) hU34 rfl) hU38 rfl) hU41 rfl) (fr_s fU46 rfl)
                                  · omega
                                  · refine Or.inl ⟨by omega, ir.trans ?_⟩
                                    rw [show U46 111 0 62 = 1 by omega, show U46 111 0 63 = U46 111 0 59 by omega]
                                    exact (orf9_s hwi hx0 hkb (by omega) (by omega)).trans (bn9_l (smf9_1 hkb (by omega) (by omega)))
                                  · exact fun z => absurd z (by omega)
                                  · exact fun z => absurd z (by omega)
                                  · exact fun z => absurd z (by omega)
                                · refine hK 233 [some (vR 111 0), some (vI mo), some (vI x22)] [vI 1] U46 ?_
                                  refine j_blx (F := fX11) tb_X11 (nn_ _) bk_X11_readOrder_e_233 bs_X11_readOrder_e_233 hz (fun K hK => ?_)
                                  refine hK 40 [some (vR 111 0), some (vI 1), some (vI x22)] [] U46 ?_
                                  refine j_drq [some (vR 111 0), some (vI 1), none] (drq_s (drq_s (drq_n drq_0))) ?_
                                  have e55 : U46 204 0 4 = (U38 204 0 4) + 1 := (fU46 204 0 4 rfl).trans (up_f hU41)
                                  refine ih_40 _ ?_ 1 (T2 204 0 4 + 1) (u9_ t x22 1) (u9_ (u9_ u (16 + T2 204 0 4) x22) 4 (T2 204 0 4 + 1)) U46 (Nat.le_refl _) ?_ ?_ ?_ ?_ ?_ ?_
                                  · have hm_40 := hm_40 (); omega
                                  · exact fr_t (fr_u (fr_u (fr_u (fr_t (fr_t (fr_0 _ _) (fr_s hf_40 rfl)) (fr_s fU5 rfl)) hU34 rfl) hU38 rfl) hU41 rfl) (fr_s fU46 rfl)
                                  · omega
                                  · refine Or.inl ⟨by omega, ir.trans ?_⟩
                                    rw [show U46 111 0 62 = 1 by omega, show U46 111 0 63 = U46 111 0 59 by omega]
                                    exact (orf9_s hwi hx0 hkb (by omega) (by omega)).trans (bn9_l (smf9_1 hkb (by omega) (by omega)))
                                  · exact fun z => absurd z (by omega)
                                  · exact fun z => absurd z (by omega)
                                  · exact fun z => absurd z (by omega)
                              · intro b56 b56b
                                refine And.intro (fun c57 => ?_) (fun c57 => ?_)
                                · refine hK 220 _ [] U46 ?_
                                  refine j_blx (F := fX11) tb_X11 (nn_ _) bk_X11_readOrder_e_220 bs_X11_readOrder_e_220 hz (fun K hK => ?_)
                                  intro b58 b58b
                                  refine And.intro (fun c59 => ?_) (fun c59 => ?_)
                                  · refine hK 232 _ [] U46 ?_
                                    refine j_blx (F := fX11) tb_X11 (nn_ _) bk_X11_readOrder_e_232 bs_X11_readOrder_e_232 hz (fun K hK => ?_)
                                    refine hK 40 [some (vR 111 0), some (vI 0), some (vI x22)] [] U46 ?_
                                    refine j_drq [some (vR 111 0), some (vI 0), none] (drq_s (drq_s (drq_n drq_0))) ?_
                                    have e60 : U46 204 0 4 = (U38 204 0 4) + 1 := (fU46 204 0 4 rfl).trans (up_f hU41)
                                    refine ih_40 _ ?_ 0 (T2 204 0 4 + 1) (u9_ t x22 1) (u9_ (u9_ u (16 + T2 204 0 4) x22) 4 (T2 204 0 4 + 1)) U46 (Nat.le_refl _) ?_ ?_ ?_ ?_ ?_ ?_
                                    · have hm_40 := hm_40 (); omega
                                    · exact fr_t (fr_u (fr_u (fr_u (fr_t (fr_t (fr_0 _ _) (fr_s hf_40 rfl)) (fr_s fU5 rfl)) hU34 rfl) hU38 rfl) hU41 rfl) (fr_s fU46 rfl)
                                    · omega
                                    · refine Or.inr (Or.inl ⟨by omega, rfl, ir.trans ?_⟩)
                                      rw [show U46 111 0 57 = eb by omega]
                                      exact (orf9_s hwi hx0 hkb (by omega) (by omega)).trans (bn9_r (smf9_0 hkb (by omega) (by omega)))
                                    · exact fun _ => VR9_f vr (show fr_ [(111, [57, 58, 59, 60, 61, 62, 63])] U41 U46 from fr_t (fr_0 _ _) (fr_s fU46 rfl)) (fun _ => rfl)
                                    · exact fun _ z => absurd z (by decide)
                                    · omega
                                  · exfalso; omega
                                · intro b61 b61b
                                  refine And.intro (fun c62 => ?_) (fun c62 => ?_)
                                  · refine hK 220 _ [] U46 ?_
                                    refine j_blx (F := fX11) tb_X11 (nn_ _) bk_X11_readOrder_e_220 bs_X11_readOrder_e_220 hz (fun K hK => ?_)
                                    intro b63 b63b
                                    refine And.intro (fun c64 => ?_) (fun c64 => ?_)
                                    · exfalso; omega
                                    · refine hK 233 _ [vI 1] U46 ?_
                                      refine j_blx (F := fX11) tb_X11 (nn_ _) bk_X11_readOrder_e_233 bs_X11_readOrder_e_233 hz (fun K hK => ?_)
                                      refine hK 40 [some (vR 111 0), some (vI 1), some (vI x22)] [] U46 ?_
                                      refine j_drq [some (vR 111 0), some (vI 1), none] (drq_s (drq_s (drq_n drq_0))) ?_
                                      have e65 : U46 204 0 4 = (U38 204 0 4) + 1 := (fU46 204 0 4 rfl).trans (up_f hU41)
                                      refine ih_40 _ ?_ 1 (T2 204 0 4 + 1) (u9_ t x22 1) (u9_ (u9_ u (16 + T2 204 0 4) x22) 4 (T2 204 0 4 + 1)) U46 (Nat.le_refl _) ?_ ?_ ?_ ?_ ?_ ?_
                                      · have hm_40 := hm_40 (); omega
                                      · exact fr_t (fr_u (fr_u (fr_u (fr_t (fr_t (fr_0 _ _) (fr_s hf_40 rfl)) (fr_s fU5 rfl)) hU34 rfl) hU38 rfl) hU41 rfl) (fr_s fU46 rfl)
                                      · omega
                                      · refine Or.inr (Or.inr ⟨by omega, rfl, ir.trans ?_⟩)
                                        rw [show U46 111 0 57 = eb by omega, orf9_k hwi hx0 hkb (by omega) (by omega), show (8 - T2 204 0 4).toNat = (8 - (T2 204 0 4 + 1)).toNat + 1 by omega]
                                      · exact fun _ => VR9_f vr (show fr_ [(111, [57, 58, 59, 60, 61, 62, 63])] U41 U46 from fr_t (fr_0 _ _) (fr_s fU46 rfl)) (fun _ => rfl)
                                      · exact fun _ _ => ⟨by omega, ks9_s ik (by omega) (by omega) hx0, fun j a b => ((show fr_ [(111, [57, 58, 59, 60, 61, 62, 63])] U41 U46 from fr_t (fr_0 _ _) (fr_s fU46 rfl)) 270 0 j rfl).trans (kt j a b)⟩
                                      · omega
                                  · intro b66 b66b
                                    refine hK 217 _ [vI (U46 111 0 59), vI 2, vR 111 0] U46 ?_
                                    refine j_callV (y := yX11_bad) (Yc := zX11_bad) (rest := []) [vI 2, vI (U46 111 0 59)] (ct_X11_bad_e (T := U46) (by omega) (by omega)) cl_X11_281 (qd_c (by decide +kernel)) (nn_ _) rfl (rf_of rfl) (Nat.le_of_ble_eq_true rfl) (Nat.le_of_ble_eq_true rfl) (Nat.le_of_ble_eq_true rfl) rfl ?_
                                    rintro U67 _ ⟨rfl, fU67, qU67⟩
                                    show J_ zX11_readOrder T (po_X11_readOrder_e T v) 0 0 220 _ [] U67
                                    refine j_blx (F := fX11) tb_X11 (nn_ _) bk_X11_readOrder_e_220 bs_X11_readOrder_e_220 hz (fun K hK => ?_)
                                    intro b68 b68b
                                    have e69 : U67 111 0 58 = U46 111 0 58 := fU67 111 0 58 rfl
                                    rw [e69] at b68 b68b ⊢
                                    refine And.intro (fun c70 => ?_) (fun c70 => ?_)
                                    · refine hK 232 _ [] U67 ?_
                                      refine j_blx (F := fX11) tb_X11 (nn_ _) bk_X11_readOrder_e_232 bs_X11_readOrder_e_232 hz (fun K hK => ?_)
                                      refine hK 40 [some (vR 111 0), some (vI 0), some (vI x22)] [] U67 ?_
                                      refine j_drq [some (vR 111 0), some (vI 0), none] (drq_s (drq_s (drq_n drq_0))) ?_
                                      have e71 : U67 111 0 57 = U46 111 0 57 := fU67 111 0 57 rfl
                                      have e72 : U67 204 0 4 = (U38 204 0 4) + 1 := (fU67 204 0 4 rfl).trans ((fU46 204 0 4 rfl).trans (up_f hU41))
                                      refine ih_40 _ ?_ 0 (T2 204 0 4 + 1) (u9_ t x22 1) (u9_ (u9_ u (16 + T2 204 0 4) x22) 4 (T2 204 0 4 + 1)) U67 (Nat.le_refl _) ?_ ?_ ?_ ?_ ?_ ?_
                                      · have hm_40 := hm_40 (); omega
                                      · exact fr_t (fr_t (fr_u (fr_u (fr_u (fr_t (fr_t (fr_0 _ _) (fr_s hf_40 rfl)) (fr_s fU5 rfl)) hU34 rfl) hU38 rfl) hU41 rfl) (fr_s fU46 rfl)) (fr_s fU67 rfl)
                                      · omega
                                      · refine Or.inl ⟨by omega, ir.trans ?_⟩
                                        rw [show U67 111 0 62 = 2 by omega, show U67 111 0 63 = U46 111 0 59 by omega]
                                        exact (orf9_s hwi hx0 hkb (by omega) (by omega)).trans (bn9_l (smf9_2 hkb (by omega) (by omega) (by omega)))
                                      · exact fun z => absurd z (by omega)
                                      · exact fun z => absurd z (by omega)
                                      · exact fun z => absurd z (by omega)
                                    · exfalso; omega
                          · have hx1 : t x22 ≠ 0 := by omega
                            intro b73 b73b
                            refine hK 142 _ [vI (U5 111 0 59), vI 5, vR 111 0] U5 ?_
                            refine j_callV (y := yX11_bad) (Yc := zX11_bad) (rest := []) [vI 5, vI (U5 111 0 59)] (ct_X11_bad_e (T := U5) (by omega) (by omega)) cl_X11_281 (qd_c (by decide +kernel)) (nn_ _) rfl (rf_of rfl) (Nat.le_of_ble_eq_true rfl) (Nat.le_of_ble_eq_true rfl) (Nat.le_of_ble_eq_true rfl) rfl ?_
                            rintro U74 _ ⟨rfl, fU74, qU74⟩
                            show J_ zX11_readOrder T (po_X11_readOrder_e T v) 0 0 145 _ [] U74
                            refine j_blx (F := fX11) tb_X11 (nn_ _) bk_X11_readOrder_e_145 bs_X11_readOrder_e_145 hz (fun K hK => ?_)
                            intro b75 b75b
                            refine And.intro (fun c76 => ?_) (fun c76 => ?_)
                            · refine hK 234 _ [] U74 ?_
                              refine j_blx (F := fX11) tb_X11 (nn_ _) bk_X11_readOrder_e_234 bs_X11_readOrder_e_234 hz (fun K hK => ?_)
                              refine hK 40 _ [] U74 ?_
                              refine j_drq [some (vR 111 0), some (vI mo), none] (drq_s (drq_s (drq_n drq_0))) ?_
                              have e77 : U74 111 0 57 = U5 111 0 57 := fU74 111 0 57 rfl
                              have e78 : U74 204 0 4 = T2 204 0 4 := (fU74 204 0 4 rfl).trans (fU5 204 0 4 rfl)
                              refine ih_40 _ ?_ mo (T2 204 0 4 + 1) t u U74 (Nat.le_refl _) ?_ ?_ ?_ ?_ ?_ ?_
                              · have hm_40 := hm_40 (); omega
                              · exact fr_t (fr_t (fr_t (fr_0 _ _) (fr_s hf_40 rfl)) (fr_s fU5 rfl)) (fr_s fU74 rfl)
                              · omega
                              · refine Or.inl ⟨by omega, ir.trans ?_⟩
                                rw [show U74 111 0 62 = 5 by omega, show U74 111 0 63 = U5 111 0 59 by omega]
                                exact orf9_5 hwi hka (by omega) hx1
                              · exact fun z => absurd z (by omega)
                              · exact fun z => absurd z (by omega)
                              · exact fun z => absurd z (by omega)
                            · exfalso; omega
                      · have ee : U5 111 0 60 = ea := by omega
                        have hwn := wx22
                        have ew : x22 = -1 := by omega
                        rw [ee, ew] at hwn
                        intro b79 b79b
                        refine hK 117 _ [vI (U5 111 0 59), vI 3, vR 111 0] U5 ?_
                        refine j_callV (y := yX11_bad) (Yc := zX11_bad) (rest := []) [vI 3, vI (U5 111 0 59)] (ct_X11_bad_e (T := U5) (by omega) (by omega)) cl_X11_281 (qd_c (by decide +kernel)) (nn_ _) rfl (rf_of rfl) (Nat.le_of_ble_eq_true rfl) (Nat.le_of_ble_eq_true rfl) (Nat.le_of_ble_eq_true rfl) rfl ?_
                        rintro U80 _ ⟨rfl, fU80, qU80⟩
                        show J_ zX11_readOrder T (po_X11_readOrder_e T v) 0 0 120 _ [] U80
                        refine j_blx (F := fX11) tb_X11 (nn_ _) bk_X11_readOrder_e_120 bs_X11_readOrder_e_120 hz (fun K hK => ?_)
                        intro b81 b81b
                        refine And.intro (fun c82 => ?_) (fun c82 => ?_)
                        · refine hK 145 _ [] U80 ?_
                          refine j_blx (F := fX11) tb_X11 (nn_ _) bk_X11_readOrder_e_145 bs_X11_readOrder_e_145 hz (fun K hK => ?_)
                          intro b83 b83b
                          refine And.intro (fun c84 => ?_) (fun c84 => ?_)
                          · refine hK 234 _ [] U80 ?_
                            refine j_blx (F := fX11) tb_X11 (nn_ _) bk_X11_readOrder_e_234 bs_X11_readOrder_e_234 hz (fun K hK => ?_)
                            refine hK 40 _ [] U80 ?_
                            refine j_drq [some (vR 111 0), some (vI mo), none] (drq_s (drq_s (drq_n drq_0))) ?_
                            have e85 : U80 111 0 57 = U5 111 0 57 := fU80 111 0 57 rfl
                            have e86 : U80 204 0 4 = T2 204 0 4 := (fU80 204 0 4 rfl).trans (fU5 204 0 4 rfl)
                            refine ih_40 _ ?_ mo (T2 204 0 4 + 1) t u U80 (Nat.le_refl _) ?_ ?_ ?_ ?_ ?_ ?_
                            · have hm_40 := hm_40 (); omega
                            · exact fr_t (fr_t (fr_t (fr_0 _ _) (fr_s hf_40 rfl)) (fr_s fU5 rfl)) (fr_s fU80 rfl)
                            · omega
                            · refine Or.inl ⟨by omega, ir.trans ?_⟩
                              rw [show U80 111 0 62 = 3 by omega, show U80 111 0 63 = U5 111 0 59 by omega]
                              exact orf9_w (wof9_3 ds9_2 hka (by omega) (by omega) hwn)
                            · exact fun z => absurd z (by omega)
                            · exact fun z => absurd z (by omega)
                            · exact fun z => absurd z (by omega)
                          · exfalso; omega
                        · exfalso; omega
                · intro b87 b87b
                  refine hK 76 _ [vI (U5 111 0 59), vI 2, vR 111 0] U5 ?_
                  refine j_callV (y := yX11_bad) (Yc := zX11_bad) (rest := []) [vI 2, vI (U5 111 0 59)] (ct_X11_bad_e (T := U5) (by omega) (by omega)) cl_X11_281 (qd_c (by decide +kernel)) (nn_ _) rfl (rf_of rfl) (Nat.le_of_ble_eq_true rfl) (Nat.le_of_ble_eq_true rfl) (Nat.le_of_ble_eq_true rfl) rfl ?_
                  rintro U88 _ ⟨rfl, fU88, qU88⟩
                  show J_ zX11_readOrder T (po_X11_readOrder_e T v) 0 0 79 _ [] U88
                  refine j_blx (F := fX11) tb_X11 (nn_ _) bk_X11_readOrder_e_79 bs_X11_readOrder_e_79 hz (fun K hK => ?_)
                  intro b89 b89b
                  refine And.intro (fun c90 => ?_) (fun c90 => ?_)
                  · refine hK 97 _ [] U88 ?_
                    refine j_blx (F := fX11) tb_X11 (nn_ _) bk_X11_readOrder_e_97 bs_X11_readOrder_e_97 hz (fun K hK => ?_)
                    intro b91 b91b
                    refine And.intro (fun c92 => ?_) (fun c92 => ?_)
                    · refine hK 120 [some (vR 111 0), some (vI mo), some (vI (-1))] [] U88 ?_
                      refine j_blx (F := fX11) tb_X11 (nn_ _) bk_X11_readOrder_e_120 bs_X11_readOrder_e_120 hz (fun K hK => ?_)
                      intro b93 b93b
                      refine And.intro (fun c94 => ?_) (fun c94 => ?_)
                      · refine hK 145 _ [] U88 ?_
                        refine j_blx (F := fX11) tb_X11 (nn_ _) bk_X11_readOrder_e_145 bs_X11_readOrder_e_145 hz (fun K hK => ?_)
                        intro b95 b95b
                        refine And.intro (fun c96 => ?_) (fun c96 => ?_)
                        · refine hK 234 _ [] U88 ?_
                          refine j_blx (F := fX11) tb_X11 (nn_ _) bk_X11_readOrder_e_234 bs_X11_readOrder_e_234 hz (fun K hK => ?_)
                          refine hK 40 _ [] U88 ?_
                          refine j_drq [some (vR 111 0), some (vI mo), none] (drq_s (drq_s (drq_n drq_0))) ?_
                          have e97 : U88 111 0 57 = U5 111 0 57 := fU88 111 0 57 rfl
                          have e98 : U88 204 0 4 = T2 204 0 4 := (fU88 204 0 4 rfl).trans (fU5 204 0 4 rfl)
                          refine ih_40 _ ?_ mo (T2 204 0 4 + 1) t u U88 (Nat.le_refl _) ?_ ?_ ?_ ?_ ?_ ?_
                          · have hm_40 := hm_40 (); omega
                          · exact fr_t (fr_t (fr_t (fr_0 _ _) (fr_s hf_40 rfl)) (fr_s fU5 rfl)) (fr_s fU88 rfl)
                          · omega
                          · refine Or.inl ⟨by omega, ir.trans ?_⟩
                            rw [show U88 111 0 62 = 2 by omega, show U88 111 0 63 = U5 111 0 59 by omega]
                            exact orf9_w (wof9_2 hka (by omega) (by omega) (by omega))
                          · exact fun z => absurd z (by omega)
                          · exact fun z => absurd z (by omega)
                          · exact fun z => absurd z (by omega)
                        · exfalso; omega
                      · exfalso; omega
                    · exfalso; omega
                  · exfalso; omega
      refine j_blx (F := fX11) tb_X11 (nn_ _) bk_X11_readOrder_e_2 bs_X11_readOrder_e_2 hz (fun K hK => ?_)
      refine And.intro (fun c99 => ?_) (fun c99 => ?_)
      · refine hK 31 _ [] T1 ?_
        refine j_blx (F := fX11) tb_X11 (nn_ _) bk_X11_readOrder_e_31 bs_X11_readOrder_e_31 hz (fun K hK => ?_)
        refine iy_i (by omega) (by omega) ?_
        refine x_nm (fun U100 hU100 => ?_)
        have e101 := up_f hU100
        refine hK 40 [some (vR 111 0), some (vI 1), none] [] U100 ?_
        have e102 : U100 111 0 62 = T 111 0 62 := (up_k hU100 (by exact Nat.ne_of_beq_eq_false rfl) 0 62).trans (hf_2 111 0 62 rfl)
        have e103 : U100 111 0 63 = T 111 0 63 := (up_k hU100 (by exact Nat.ne_of_beq_eq_false rfl) 0 63).trans (hf_2 111 0 63 rfl)
        have e104 : U100 111 0 57 = T 111 0 57 := (up_k hU100 (by exact Nat.ne_of_beq_eq_false rfl) 0 57).trans (hf_2 111 0 57 rfl)
        have e105 : U100 204 0 4 = 0 := up_f hU100
        refine c_40 _ 1 0 (fun _ => 0) (ov9_ v) U100 (Nat.le_refl _) ?_ ?_ ?_ ?_ ?_ ?_
        · exact fr_u (fr_t (fr_0 _ _) (fr_s hf_2 rfl)) hU100 rfl
        · omega
        · refine Or.inr (Or.inr ⟨by omega, rfl, ?_⟩)
          rw [show (((8 : Int) - 0).toNat + 1) = 9 from rfl, show U100 111 0 57 = T 111 0 57 by omega]
        · have z7 : k = 7 := by omega
          rw [z7] at l2
          exact fun _ => vw9_e l2 (fun j hj => up_g hU100 (fun z => hj z.2.2)) (up_f hU100)
        · exact fun _ _ => ⟨by omega, ks9_0, fun j a b => (up_k hU100 (by exact Nat.ne_of_beq_eq_false rfl) 0 j).trans (l1 j a (by omega))⟩
        · omega
      · refine iy_i (by omega) (by omega) ?_
        refine x_nm (fun U106 hU106 => ?_)
        have e107 := up_f hU106
        refine rg_i (by omega) ?_
        refine iy_i (by omega) (by omega) ?_
        refine x_nm (fun U108 hU108 => ?_)
        have e109 := up_f hU108
        refine rg_i (by omega) ?_
        refine hK 2 [some (vR 111 0), some (vI (k + 1)), none] [] U108 ?_
        refine ih_2 _ ?_ (k + 1) U108 (Nat.le_refl _) ?_ ?_ ?_ ?_
        · have hm_2 := hm_2 (); omega
        · exact fr_u (fr_u (fr_t (fr_0 _ _) (fr_s hf_2 rfl)) hU106 rfl) hU108 rfl
        · omega
        · intro j a b
          rw [up_k hU108 (by exact Nat.ne_of_beq_eq_false rfl)]
          by_cases z : j = k
          · subst z; exact up_f hU106
          · rw [up_g hU106 (by omega)]; exact l1 j a (by omega)
        · exact vw9_s l2 (by omega) (fun j hj => (up_g hU108 (fun z => hj z.2.2)).trans (up_k hU106 (by exact Nat.ne_of_beq_eq_false rfl) 0 j)) (up_f hU108)
  refine j_blx (F := fX11) tb_X11 (nn_ _) bk_X11_readOrder_e_0 bs_X11_readOrder_e_0 hz (fun K hK => ?_)
  refine hK 2 [some (vR 111 0), some (vI 0), none] [] T ?_
  refine c_2 _ 0 T (Nat.le_refl _) ?_ ?_ ?_ ?_
  · exact fr_0 _ _
  · omega
  · intro j a b; omega
  · exact vw9_0 hv
-- layDefaults and readStatement of the reference
def TA9_ (T : Zt) (t : Int → Int) : Prop := ∀ j, 0 ≤ j → j < 14 → T 269 0 j = t j
theorem ta9_s {T T' : Zt} {t : Int → Int} {x : Int} (h : TA9_ T t) (ho : ∀ j, j ≠ x → T' 269 0 j = T 269 0 j) (hx : T' 269 0 x = 1) : TA9_ T' (u9_ t x 1) := fun j a b => by
  by_cases z : j = x
  · rw [z, u9_e]
    exact hx
  · rw [u9_n z, ho j z]
    exact h j a b
theorem TA9_f {ws : List (Nat × List Int)} {T T' : Zt} {t : Int → Int} (h : TA9_ T t) (f : fr_ ws T T') (w : ∀ j, fw_ ws 269 j = false) : TA9_ T' t := fun j a b => (f 269 0 j (w j)).trans (h j a b)
def MS9_ (r : Qr9_ (Int × (Int → Int) × (Int → Int))) (T : Zt) : Prop := ∃ t v, r = Sum.inr (T 111 0 57, t, v) ∧ TA9_ T t ∧ VR9_ T v
/-- three numbers, one behind the other -/
theorem pnf9_h {b : Int → Int} {n a A0 B0 A1 B1 p1 v1 A2 B2 p2 v2 A3 B3 p3 v3 : Int} (h0 : A0 = 0)
  (q1 : (A0 ≠ 0 ∧ A1 = A0 ∧ B1 = B0) ∨ (A0 = 0 ∧ A1 ≠ 0 ∧ nrf9_ b n a 0 9 = Sum.inl (A1, B1)) ∨ (A0 = 0 ∧ A1 = 0 ∧ nrf9_ b n a 0 9 = Sum.inr (p1, v1) ∧ B1 = B0 ∧ a ≤ p1 ∧ p1 ≤ n))
  (q2 : (A1 ≠ 0 ∧ A2 = A1 ∧ B2 = B1) ∨ (A1 = 0 ∧ A2 ≠ 0 ∧ nrf9_ b n p1 0 v1 = Sum.inl (A2, B2)) ∨ (A1 = 0 ∧ A2 = 0 ∧ nrf9_ b n p1 0 v1 = Sum.inr (p2, v2) ∧ B2 = B1 ∧ p1 ≤ p2 ∧ p2 ≤ n))
  (q3 : (A2 ≠ 0 ∧ A3 = A2 ∧ B3 = B2) ∨ (A2 = 0 ∧ A3 ≠ 0 ∧ nrf9_ b n p2 0 v2 = Sum.inl (A3, B3)) ∨ (A2 = 0 ∧ A3 = 0 ∧ nrf9_ b n p2 0 v2 = Sum.inr (p3, v3) ∧ B3 = B2 ∧ p2 ≤ p3 ∧ p3 ≤ n)) :
  (A3 ≠ 0 ∧ pnf9_ b n a = Sum.inl (A3, B3)) ∨ (A3 = 0 ∧ pnf9_ b n a = Sum.inr (p3, v1, v2, v3) ∧ B3 = B0 ∧ a ≤ p3 ∧ p3 ≤ n) := by
  rcases q1 with ⟨x1, _⟩ | ⟨_, x2, x3⟩ | ⟨_, x2, x3, x4, x5, x6⟩
  · exact absurd h0 x1
  · rcases q2 with ⟨_, y2, y3⟩ | ⟨y1, _⟩ | ⟨y1, _⟩
    · rcases q3 with ⟨_, z2, z3⟩ | ⟨z1, _⟩ | ⟨z1, _⟩
      · refine Or.inl ⟨by omega, ?_⟩
        rw [z2, z3, y2, y3]
        exact bn9_l x3
      · exact absurd z1 (by omega)
      · exact absurd z1 (by omega)
    · exact absurd y1 x2
    · exact absurd y1 x2
  · rcases q2 with ⟨y1, _⟩ | ⟨_, y2, y3⟩ | ⟨_, y2, y3, y4, y5, y6⟩
    · exact absurd x2 y1
    · rcases q3 with ⟨_, z2, z3⟩ | ⟨z1, _⟩ | ⟨z1, _⟩
      · refine Or.inl ⟨by omega, ?_⟩
        rw [z2, z3]
        exact (bn9_r x3).trans (bn9_l y3)
      · exact absurd z1 y2
      · exact absurd z1 y2
    · rcases q3 with ⟨z1, _⟩ | ⟨_, z2, z3⟩ | ⟨_, z2, z3, z4, z5, z6⟩
      · exact absurd y2 z1
      · exact Or.inl ⟨z2, (bn9_r x3).trans ((bn9_r y3).trans (bn9_l z3))⟩
      · exact Or.inr ⟨z2, (bn9_r x3).trans ((bn9_r y3).trans (bn9_r z3)), by omega, by omega, by omega⟩
def sb9_c (k : Nat) : Bool := wl_267.getD k 0 == (sa_ 1).getD (k + 6) 0 && wl_268.getD k 0 == (sa_ 2).getD (k + 6) 0
theorem sb9_a : ∀ k, k < 10 → sb9_c k = true := by decide +kernel
theorem sb9_q {x : Int} (h0 : 4 ≤ x) (h1 : x < 14) : wl_267.getD (x - 4).toNat 0 = (sa_ 1).getD (x + 2).toNat 0 ∧ wl_268.getD (x - 4).toNat 0 = (sa_ 2).getD (x + 2).toNat 0 := by
  have h := sb9_a (x - 4).toNat (by omega)
  unfold sb9_c at h
  rw [Bool.and_eq_true, beq_iff_eq, beq_iff_eq, show (x - 4).toNat + 6 = (x + 2).toNat by omega] at h
  exact h
theorem bk_X11_layDefaults_e_143 : ck_ fX11 none cX11_layDefaults 143 [.iload 1, .iconst 14, .if_icmp .ge 162, .aload 0, .tableswitch 0 11 69 #[], .iload 1, .iconst 0, .bastore, .iinc 1 1, .goto 143] 162 = true := qck_r (nn_ _) (by decide +kernel)
theorem bs_X11_layDefaults_e_143 {P : Zt → Option Zv → Prop} (K : Int → Zl → List Zv → Zt → Prop) : sx_ K P [.iload 1, .iconst 14, .if_icmp .ge 162, .aload 0, .tableswitch 0 11 69 #[], .iload 1, .iconst 0, .bastore, .iinc 1 1, .goto 143] 162 = x_iload 1 (x_iconst 14 (x_if_icmp .ge 162 K (x_aload 0 (x_g1 111 269 (x_iload 1 (x_iconst 0 (x_bastore (x_iinc 1 1 (x_goto 143 K))))))))) := ((xe_iload 1).trans (congrArg (x_iload 1) ((xe_iconst 14).trans (congrArg (x_iconst 14) ((xe_if_icmp .ge 162).trans (congrArg (x_if_icmp .ge 162 K) ((xe_aload 0).trans (congrArg (x_aload 0) ((xe_g1 (kk := 111) rfl tl_11_69).trans (congrArg (x_g1 111 269) ((xe_iload 1).trans (congrArg (x_iload 1) ((xe_iconst 0).trans (congrArg (x_iconst 0) ((xe_bastore).trans (congrArg (x_bastore) ((xe_iinc 1 1).trans (congrArg (x_iinc 1 1) (xe_goto 143)))))))))))))))))))
theorem bk_X11_layDefaults_e_162 : ck_ fX11 none cX11_layDefaults 162 [.return_] 163 = true := qck_r (nn_ _) (by decide +kernel)
theorem bs_X11_layDefaults_e_162 {P : Zt → Option Zv → Prop} (K : Int → Zl → List Zv → Zt → Prop) : sx_ K P [.return_] 163 = x_return_ P := (xe_return_)
theorem bk_X11_layDefaults_e_2 : ck_ fX11 none cX11_layDefaults 2 [.iload 1, .iconst 23, .if_icmp .ge 31, .aload 0, .tableswitch 0 11 4 #[], .iload 1, .iload 1, .iconst 15, .if_icmp .le 23, .iconst (-1), .goto 24] 23 = true := qck_r (nn_ _) (by decide +kernel)
theorem bs_X11_layDefaults_e_2 {P : Zt → Option Zv → Prop} (K : Int → Zl → List Zv → Zt → Prop) : sx_ K P [.iload 1, .iconst 23, .if_icmp .ge 31, .aload 0, .tableswitch 0 11 4 #[], .iload 1, .iload 1, .iconst 15, .if_icmp .le 23, .iconst (-1), .goto 24] 23 = x_iload 1 (x_iconst 23 (x_if_icmp .ge 31 K (x_aload 0 (x_g1 111 204 (x_iload 1 (x_iload 1 (x_iconst 15 (x_if_icmp .le 23 K (x_iconst (-1) (x_goto 24 K)))))))))) := ((xe_iload 1).trans (congrArg (x_iload 1) ((xe_iconst 23).trans (congrArg (x_iconst 23) ((xe_if_icmp .ge 31).trans (congrArg (x_if_icmp .ge 31 K) ((xe_aload 0).trans (congrArg (x_aload 0) ((xe_g1 (kk := 111) rfl tl_11_4).trans (congrArg (x_g1 111 204) ((xe_iload 1).trans (congrArg (x_iload 1) ((xe_iload 1).trans (congrArg (x_iload 1) ((xe_iconst 15).trans (congrArg (x_iconst 15) ((xe_if_icmp .le 23).trans (congrArg (x_if_icmp .le 23 K) ((xe_iconst (-1)).trans (congrArg (x_iconst (-1)) (xe_goto 24)))))))))))))))))))))
theorem bk_X11_layDefaults_e_31 : ck_ fX11 none cX11_layDefaults 31 [.aload 0, .tableswitch 0 11 4 #[], .iconst 1, .iconst 3, .iastore, .aload 0, .tableswitch 0 11 4 #[], .iconst 2, .iconst 1, .iastore, .aload 0, .tableswitch 0 11 4 #[], .iconst 4, .iconst 2, .iastore, .aload 0, .tableswitch 0 11 4 #[], .iconst 6, .iconst 1, .iastore, .aload 0, .tableswitch 0 11 4 #[], .iconst 7, .iconst 7, .iastore, .aload 0, .tableswitch 0 11 4 #[], .iconst 8, .iconst 1, .iastore, .aload 0, .tableswitch 0 11 4 #[], .iconst 9, .iconst 2, .iastore, .aload 0, .tableswitch 0 11 4 #[], .iconst 10, .iconst 2, .iastore, .aload 0, .tableswitch 0 11 4 #[], .iconst 11, .iconst 3, .iastore, .aload 0, .tableswitch 0 11 4 #[], .iconst 12, .iconst 3, .iastore, .aload 0, .tableswitch 0 11 4 #[], .iconst 13, .iconst 3, .iastore, .aload 0, .tableswitch 0 11 4 #[], .iconst 14, .iconst 1, .iastore, .aload 0, .tableswitch 0 11 4 #[], .iconst 16, .iconst 0, .iastore, .aload 0, .tableswitch 0 11 4 #[], .iconst 17, .iconst 1, .iastore, .iconst 0, .istore 1] 143 = true := qck_r (nn_ _) (by decide +kernel)
theorem bs_X11_layDefaults_e_31 {P : Zt → Option Zv → Prop} (K : Int → Zl → List Zv → Zt → Prop) : sx_ K P [.aload 0, .tableswitch 0 11 4 #[], .iconst 1, .iconst 3, .iastore, .aload 0, .tableswitch 0 11 4 #[], .iconst 2, .iconst 1, .iastore, .aload 0, .tableswitch 0 11 4 #[], .iconst 4, .iconst 2, .iastore, .aload 0, .tableswitch 0 11 4 #[], .iconst 6, .iconst 1, .iastore, .aload 0, .tableswitch 0 11 4 #[], .iconst 7, .iconst 7, .iastore, .aload 0, .tableswitch 0 11 4 #[], .iconst 8, .iconst 1, .iastore, .aload 0, .tableswitch 0 11 4 #[], .iconst 9, .iconst 2, .iastore, .aload 0, .tableswitch 0 11 4 #[], .iconst 10, .iconst 2, .iastore, .aload 0, .tableswitch 0 11 4 #[], .iconst 11, .iconst 3, .iastore, .aload 0, .tableswitch 0 11 4 #[], .iconst 12, .iconst 3, .iastore, .aload 0, .tableswitch 0 11 4 #[], .iconst 13, .iconst 3, .iastore, .aload 0, .tableswitch 0 11 4 #[], .iconst 14, .iconst 1, .iastore, .aload 0, .tableswitch 0 11 4 #[], .iconst 16, .iconst 0, .iastore, .aload 0, .tableswitch 0 11 4 #[], .iconst 17, .iconst 1, .iastore, .iconst 0, .istore 1] 143 = x_aload 0 (x_g1 111 204 (x_iconst 1 (x_iconst 3 (x_iastore (x_aload 0 (x_g1 111 204 (x_iconst 2 (x_iconst 1 (x_iastore (x_aload 0 (x_g1 111 204 (x_iconst 4 (x_iconst 2 (x_iastore (x_aload 0 (x_g1 111 204 (x_iconst 6 (x_iconst 1 (x_iastore (x_aload 0 (x_g1 111 204 (x_iconst 7 (x_iconst 7 (x_iastore (x_aload 0 (x_g1 111 204 (x_iconst 8 (x_iconst 1 (x_iastore (x_aload 0 (x_g1 111 204 (x_iconst 9 (x_iconst 2 (x_iastore (x_aload 0 (x_g1 111 204 (x_iconst 10 (x_iconst 2 (x_iastore (x_aload 0 (x_g1 111 204 (x_iconst 11 (x_iconst 3 (x_iastore (x_aload 0 (x_g1 111 204 (x_iconst 12 (x_iconst 3 (x_iastore (x_aload 0 (x_g1 111 204 (x_iconst 13 (x_iconst 3 (x_iastore (x_aload 0 (x_g1 111 204 (x_iconst 14 (x_iconst 1 (x_iastore (x_aload 0 (x_g1 111 204 (x_iconst 16 (x_iconst 0 (x_iastore (x_aload 0 (x_g1 111 204 (x_iconst 17 (x_iconst 1 (x_iastore (x_iconst 0 (x_istore 1 (K 143)))))))))))))))))))))))))))))))))))))))))))))))))))))))))))))))))))))))) := ((xe_aload 0).trans (congrArg (x_aload 0) ((xe_g1 (kk := 111) rfl tl_11_4).trans (congrArg (x_g1 111 204) ((xe_iconst 1).trans (congrArg (x_iconst 1) ((xe_iconst 3).trans (congrArg (x_iconst 3) ((xe_iastore).trans (congrArg (x_iastore) ((xe_aload 0).trans (congrArg (x_aload 0) ((xe_g1 (kk := 111) rfl tl_11_4).trans (congrArg (x_g1 111 204) ((xe_iconst 2).trans (congrArg (x_iconst 2) ((xe_iconst 1).trans (congrArg (x_iconst 1) ((xe_iastore).trans (congrArg (x_iastore) ((xe_aload 0).trans (congrArg (x_aload 0) ((xe_g1 (kk := 111) rfl tl_11_4).trans (congrArg (x_g1 111 204) ((xe_iconst 4).trans (congrArg (x_iconst 4) ((xe_iconst 2).trans (congrArg (x_iconst 2) ((xe_iastore).trans (congrArg (x_iastore) ((xe_aload 0).trans (congrArg (x_aload 0) ((xe_g1 (kk := 111) rfl tl_11_4).trans (congrArg (x_g1 111 204) ((xe_iconst 6).trans (congrArg (x_iconst 6) ((xe_iconst 1).trans (congrArg (x_iconst 1) ((xe_iastore).trans (congrArg (x_iastore) ((xe_aload 0).trans (congrArg (x_aload 0) ((xe_g1 (kk := 111) rfl tl_11_4).trans (congrArg (x_g1 111 204) ((xe_iconst 7).trans (congrArg (x_iconst 7) ((xe_iconst 7).trans (congrArg (x_iconst 7) ((xe_iastore).trans (congrArg (x_iastore) ((xe_aload 0).trans (congrArg (x_aload 0) ((xe_g1 (kk := 111) rfl tl_11_4).trans (congrArg (x_g1 111 204) ((xe_iconst 8).trans (congrArg (x_iconst 8) ((xe_iconst 1).trans (congrArg (x_iconst 1) ((xe_iastore).trans (congrArg (x_iastore) ((xe_aload 0).trans (congrArg (x_aload 0) ((xe_g1 (kk := 111) rfl tl_11_4).trans (congrArg (x_g1 111 204) ((xe_iconst 9).trans (congrArg (x_iconst 9) ((xe_iconst 2).trans (congrArg (x_iconst 2) ((xe_iastore).trans (congrArg (x_iastore) ((xe_aload 0).trans (congrArg (x_aload 0) ((xe_g1 (kk := 111) rfl tl_11_4).trans (congrArg (x_g1 111 204) ((xe_iconst 10).trans (congrArg (x_iconst 10) ((xe_iconst 2).trans (congrArg (x_iconst 2) ((xe_iastore).trans (congrArg (x_iastore) ((xe_aload 0).trans (congrArg (x_aload 0) ((xe_g1 (kk := 111) rfl tl_11_4).trans (congrArg (x_g1 111 204) ((xe_iconst 11).trans (congrArg (x_iconst 11) ((xe_iconst 3).trans (congrArg (x_iconst 3) ((xe_iastore).trans (congrArg (x_iastore) ((xe_aload 0).trans (congrArg (x_aload 0) ((xe_g1 (kk := 111) rfl tl_11_4).trans (congrArg (x_g1 111 204) ((xe_iconst 12).trans (congrArg (x_iconst 12) ((xe_iconst 3).trans (congrArg (x_iconst 3) ((xe_iastore).trans (congrArg (x_iastore) ((xe_aload 0).trans (congrArg (x_aload 0) ((xe_g1 (kk := 111) rfl tl_11_4).trans (congrArg (x_g1 111 204) ((xe_iconst 13).trans (congrArg (x_iconst 13) ((xe_iconst 3).trans (congrArg (x_iconst 3) ((xe_iastore).trans (congrArg (x_iastore) ((xe_aload 0).trans (congrArg (x_aload 0) ((xe_g1 (kk := 111) rfl tl_11_4).trans (congrArg (x_g1 111 204) ((xe_iconst 14).trans (congrArg (x_iconst 14) ((xe_iconst 1).trans (congrArg (x_iconst 1) ((xe_iastore).trans (congrArg (x_iastore) ((xe_aload 0).trans (congrArg (x_aload 0) ((xe_g1 (kk := 111) rfl tl_11_4).trans (congrArg (x_g1 111 204) ((xe_iconst 16).trans (congrArg (x_iconst 16) ((xe_iconst 0).trans (congrArg (x_iconst 0) ((xe_iastore).trans (congrArg (x_iastore) ((xe_aload 0).trans (congrArg (x_aload 0) ((xe_g1 (kk := 111) rfl tl_11_4).trans (congrArg (x_g1 111 204) ((xe_iconst 17).trans (congrArg (x_iconst 17) ((xe_iconst 1).trans (congrArg (x_iconst 1) ((xe_iastore).trans (congrArg (x_iastore) ((xe_iconst 0).trans (congrArg (x_iconst 0) ((xe_istore 1).trans (congrArg (x_istore 1) xe_nil))))))))))))))))))))))))))))))))))))))))))))))))))))))))))))))))))))))))))))))))))))))))))))))))))))))))))))))))))))))))))))))))))))))))))))))))
theorem bk_X11_layDefaults_e_23 : ck_ fX11 none cX11_layDefaults 23 [.iconst 0, .iastore, .iinc 1 1, .goto 2] 31 = true := qck_r (nn_ _) (by decide +kernel)
theorem bs_X11_layDefaults_e_23 {P : Zt → Option Zv → Prop} (K : Int → Zl → List Zv → Zt → Prop) : sx_ K P [.iconst 0, .iastore, .iinc 1 1, .goto 2] 31 = x_iconst 0 (x_iastore (x_iinc 1 1 (x_goto 2 K))) := ((xe_iconst 0).trans (congrArg (x_iconst 0) ((xe_iastore).trans (congrArg (x_iastore) ((xe_iinc 1 1).trans (congrArg (x_iinc 1 1) (xe_goto 2)))))))
theorem bk_X11_layDefaults_e_24 : ck_ fX11 none cX11_layDefaults 24 [.iastore, .iinc 1 1, .goto 2] 31 = true := qck_r (nn_ _) (by decide +kernel)
theorem bs_X11_layDefaults_e_24 {P : Zt → Option Zv → Prop} (K : Int → Zl → List Zv → Zt → Prop) : sx_ K P [.iastore, .iinc 1 1, .goto 2] 31 = x_iastore (x_iinc 1 1 (x_goto 2 K)) := ((xe_iastore).trans (congrArg (x_iastore) ((xe_iinc 1 1).trans (congrArg (x_iinc 1 1) (xe_goto 2)))))
theorem bk_X11_layDefaults_e_0 : ck_ fX11 none cX11_layDefaults 0 [.iconst 0, .istore 1] 2 = true := qck_r (nn_ _) (by decide +kernel)
theorem bs_X11_layDefaults_e_0 {P : Zt → Option Zv → Prop} (K : Int → Zl → List Zv → Zt → Prop) : sx_ K P [.iconst 0, .istore 1] 2 = x_iconst 0 (x_istore 1 (K 2)) := ((xe_iconst 0).trans (congrArg (x_iconst 0) ((xe_istore 1).trans (congrArg (x_istore 1) xe_nil))))
abbrev po_X11_layDefaults_e (T : Zt) : Zt → Option Zv → Prop := fun T' r => r = none ∧ fr_ [(204, []), (269, [])] T T' ∧ (VR9_ T' dv9_ ∧ TA9_ T' (fun _ => 0))
set_option maxHeartbeats 4000000 in
theorem ct_X11_layDefaults_e {T : Zt} : Ct_ yX11_layDefaults zX11_layDefaults T [vR 111 0] (po_X11_layDefaults_e T) := by
  refine ct_of pn_11 rfl rfl (Nat.le_of_ble_eq_true rfl) (fun hT hav => ?_)
  have hz : zX11_layDefaults.2.2.2.1 = some .boolean → ∀ (T' : Zt) (x : Int), po_X11_layDefaults_e T T' (some (vI x)) → 0 ≤ x ∧ x ≤ 1 := fun h => by cases h
  show J_ zX11_layDefaults T (po_X11_layDefaults_e T) 0 0 0 [some (vR 111 0), none] [] T
  have c_2 : ∀ (nn : Nat) (k : Int) (T1 : Zt), ((23 - k).toNat) ≤ nn → (fr_ [(204, []), (269, [])] T T1) → (0 ≤ k ∧ k ≤ 23) → (∀ j : Int, 0 ≤ j → j < k → (j ≤ 15 → T1 204 0 j = 0)) → (∀ j : Int, 0 ≤ j → j < k → (15 < j → T1 204 0 j = -1)) → J_ zX11_layDefaults T (po_X11_layDefaults_e T) 0 0 2 [some (vR 111 0), some (vI k)] [] T1 := by
    intro nn
    induction nn using Nat.strongRecOn with
    | _ nn ih_2 =>
      intro k T1 hm_2 hf_2 k1 l1 l2
      replace hm_2 := fun (_ : Unit) => hm_2
      have c_143 : ∀ (nn : Nat) (k : Int) (T2 : Zt), ((14 - k).toNat) ≤ nn → (fr_ [(204, []), (269, [])] T T2) → (0 ≤ k ∧ k ≤ 14) → (VR9_ T2 dv9_) → (∀ j : Int, 0 ≤ j → j < k → T2 269 0 j = 0) → J_ zX11_layDefaults T (po_X11_layDefaults_e T) 0 0 143 [some (vR 111 0), some (vI k)] [] T2 := by
        intro nn
        induction nn using Nat.strongRecOn with
        | _ nn ih_143 =>
          intro k T2 hm_143 hf_143 k1 f1 tl
          replace hm_143 := fun (_ : Unit) => hm_143
          refine j_blx (F := fX11) tb_X11 (nn_ _) bk_X11_layDefaults_e_143 bs_X11_layDefaults_e_143 hz (fun K hK => ?_)
          refine And.intro (fun c1 => ?_) (fun c1 => ?_)
          · refine hK 162 _ [] T2 ?_
            refine j_blx (F := fX11) tb_X11 (nn_ _) bk_X11_layDefaults_e_162 bs_X11_layDefaults_e_162 hz (fun K hK => ?_)
            refine (show po_X11_layDefaults_e T T2 (none) from ?_)
            exact ⟨rfl, fr_t (fr_0 _ _) (fr_s hf_143 rfl), f1, fun j a b => tl j a (by omega)⟩
          · refine iy_i (by omega) (by omega) ?_
            refine x_nm (fun U2 hU2 => ?_)
            have e3 := up_f hU2
            refine rg_i (by omega) ?_
            refine hK 143 [some (vR 111 0), some (vI (k + 1))] [] U2 ?_
            refine ih_143 _ ?_ (k + 1) U2 (Nat.le_refl _) ?_ ?_ ?_ ?_
            · have hm_143 := hm_143 (); omega
            · exact fr_u (fr_t (fr_0 _ _) (fr_s hf_143 rfl)) hU2 rfl
            · omega
            · exact VR9_f f1 (show fr_ [(269, [])] T2 U2 from fr_u (fr_0 _ _) hU2 rfl) (fun _ => rfl)
            · intro j a b
              by_cases z : j = k
              · rw [z]; exact up_f hU2
              · rw [up_g hU2 (by omega)]; exact tl j a (by omega)
      refine j_blx (F := fX11) tb_X11 (nn_ _) bk_X11_layDefaults_e_2 bs_X11_layDefaults_e_2 hz (fun K hK => ?_)
      refine And.intro (fun c4 => ?_) (fun c4 => ?_)
      · refine hK 31 _ [] T1 ?_
        refine j_blx (F := fX11) tb_X11 (nn_ _) bk_X11_layDefaults_e_31 bs_X11_layDefaults_e_31 hz (fun K hK => ?_)
        refine iy_i (by omega) (by omega) ?_
        refine x_nm (fun U5 hU5 => ?_)
        have e6 := up_f hU5
        refine iy_i (by omega) (by omega) ?_
        refine x_nm (fun U7 hU7 => ?_)
        have e8 := up_f hU7
        refine iy_i (by omega) (by omega) ?_
        refine x_nm (fun U9 hU9 => ?_)
        have e10 := up_f hU9
        refine iy_i (by omega) (by omega) ?_
        refine x_nm (fun U11 hU11 => ?_)
        have e12 := up_f hU11
        refine iy_i (by omega) (by omega) ?_
        refine x_nm (fun U13 hU13 => ?_)
        have e14 := up_f hU13
        refine iy_i (by omega) (by omega) ?_
        refine x_nm (fun U15 hU15 => ?_)
        have e16 := up_f hU15
        refine iy_i (by omega) (by omega) ?_
        refine x_nm (fun U17 hU17 => ?_)
        have e18 := up_f hU17
        refine iy_i (by omega) (by omega) ?_
        refine x_nm (fun U19 hU19 => ?_)
        have e20 := up_f hU19
        refine iy_i (by omega) (by omega) ?_
        refine x_nm (fun U21 hU21 => ?_)
        have e22 := up_f hU21
        refine iy_i (by omega) (by omega) ?_
        refine x_nm (fun U23 hU23 => ?_)
        have e24 := up_f hU23
        refine iy_i (by omega) (by omega) ?_
        refine x_nm (fun U25 hU25 => ?_)
        have e26 := up_f hU25
        refine iy_i (by omega) (by omega) ?_
        refine x_nm (fun U27 hU27 => ?_)
        have e28 := up_f hU27
        refine iy_i (by omega) (by omega) ?_
        refine x_nm (fun U29 hU29 => ?_)
        have e30 := up_f hU29
        refine iy_i (by omega) (by omega) ?_
        refine x_nm (fun U31 hU31 => ?_)
        have e32 := up_f hU31
        refine hK 143 [some (vR 111 0), some (vI 0)] [] U31 ?_
        refine c_143 _ 0 U31 (Nat.le_refl _) ?_ ?_ ?_ ?_
        · exact fr_u (fr_u (fr_u (fr_u (fr_u (fr_u (fr_u (fr_u (fr_u (fr_u (fr_u (fr_u (fr_u (fr_u (fr_t (fr_0 _ _) (fr_s hf_2 rfl)) hU5 rfl) hU7 rfl) hU9 rfl) hU11 rfl) hU13 rfl) hU15 rfl) hU17 rfl) hU19 rfl) hU21 rfl) hU23 rfl) hU25 rfl) hU27 rfl) hU29 rfl) hU31 rfl
        · omega
        have e33 : U31 204 0 0 = T1 204 0 0 := (up_j hU31 (by decide) 204 0).trans ((up_j hU29 (by decide) 204 0).trans ((up_j hU27 (by decide) 204 0).trans ((up_j hU25 (by decide) 204 0).trans ((up_j hU23 (by decide) 204 0).trans ((up_j hU21 (by decide) 204 0).trans ((up_j hU19 (by decide) 204 0).trans ((up_j hU17 (by decide) 204 0).trans ((up_j hU15 (by decide) 204 0).trans ((up_j hU13 (by decide) 204 0).trans ((up_j hU11 (by decide) 204 0).trans ((up_j hU9 (by decide) 204 0).trans ((up_j hU7 (by decide) 204 0).trans (up_j hU5 (by decide) 204 0)))))))))))))
        have e34 : U31 204 0 1 = 3 := (up_j hU31 (by decide) 204 0).trans ((up_j hU29 (by decide) 204 0).trans ((up_j hU27 (by decide) 204 0).trans ((up_j hU25 (by decide) 204 0).trans ((up_j hU23 (by decide) 204 0).trans ((up_j hU21 (by decide) 204 0).trans ((up_j hU19 (by decide) 204 0).trans ((up_j hU17 (by decide) 204 0).trans ((up_j hU15 (by decide) 204 0).trans ((up_j hU13 (by decide) 204 0).trans ((up_j hU11 (by decide) 204 0).trans ((up_j hU9 (by decide) 204 0).trans ((up_j hU7 (by decide) 204 0).trans (up_f hU5)))))))))))))
        have e35 : U31 204 0 2 = 1 := (up_j hU31 (by decide) 204 0).trans ((up_j hU29 (by decide) 204 0).trans ((up_j hU27 (by decide) 204 0).trans ((up_j hU25 (by decide) 204 0).trans ((up_j hU23 (by decide) 204 0).trans ((up_j hU21 (by decide) 204 0).trans ((up_j hU19 (by decide) 204 0).trans ((up_j hU17 (by decide) 204 0).trans ((up_j hU15 (by decide) 204 0).trans ((up_j hU13 (by decide) 204 0).trans ((up_j hU11 (by decide) 204 0).trans ((up_j hU9 (by decide) 204 0).trans (up_f hU7))))))))))))
        have e36 : U31 204 0 3 = T1 204 0 3 := (up_j hU31 (by decide) 204 0).trans ((up_j hU29 (by decide) 204 0).trans ((up_j hU27 (by decide) 204 0).trans ((up_j hU25 (by decide) 204 0).trans ((up_j hU23 (by decide) 204 0).trans ((up_j hU21 (by decide) 204 0).trans ((up_j hU19 (by decide) 204 0).trans ((up_j hU17 (by decide) 204 0).trans ((up_j hU15 (by decide) 204 0).trans ((up_j hU13 (by decide) 204 0).trans ((up_j hU11 (by decide) 204 0).trans ((up_j hU9 (by decide) 204 0).trans ((up_j hU7 (by decide) 204 0).trans (up_j hU5 (by decide) 204 0)))))))))))))
        have e37 : U31 204 0 4 = 2 := (up_j hU31 (by decide) 204 0).trans ((up_j hU29 (by decide) 204 0).trans ((up_j hU27 (by decide) 204 0).trans ((up_j hU25 (by decide) 204 0).trans ((up_j hU23 (by decide) 204 0).trans ((up_j hU21 (by decide) 204 0).trans ((up_j hU19 (by decide) 204 0).trans ((up_j hU17 (by decide) 204 0).trans ((up_j hU15 (by decide) 204 0).trans ((up_j hU13 (by decide) 204 0).trans ((up_j hU11 (by decide) 204 0).trans (up_f hU9)))))))))))
        have e38 : U31 204 0 5 = T1 204 0 5 := (up_j hU31 (by decide) 204 0).trans ((up_j hU29 (by decide) 204 0).trans ((up_j hU27 (by decide) 204 0).trans ((up_j hU25 (by decide) 204 0).trans ((up_j hU23 (by decide) 204 0).trans ((up_j hU21 (by decide) 204 0).trans ((up_j hU19 (by decide) 204 0).trans ((up_j hU17 (by decide) 204 0).trans ((up_j hU15 (by decide) 204 0).trans ((up_j hU13 (by decide) 204 0).trans ((up_j hU11 (by decide) 204 0).trans ((up_j hU9 (by decide) 204 0).trans ((up_j hU7 (by decide) 204 0).trans (up_j hU5 (by decide) 204 0)))))))))))))
        have e39 : U31 204 0 6 = 1 := (up_j hU31 (by decide) 204 0).trans ((up_j hU29 (by decide) 204 0).trans ((up_j hU27 (by decide) 204 0).trans ((up_j hU25 (by decide) 204 0).trans ((up_j hU23 (by decide) 204 0).trans ((up_j hU21 (by decide) 204 0).trans ((up_j hU19 (by decide) 204 0).trans ((up_j hU17 (by decide) 204 0).trans ((up_j hU15 (by decide) 204 0).trans ((up_j hU13 (by decide) 204 0).trans (up_f hU11))))))))))
        have e40 : U31 204 0 7 = 7 := (up_j hU31 (by decide) 204 0).trans ((up_j hU29 (by decide) 204 0).trans ((up_j hU27 (by decide) 204 0).trans ((up_j hU25 (by decide) 204 0).trans ((up_j hU23 (by decide) 204 0).trans ((up_j hU21 (by decide) 204 0).trans ((up_j hU19 (by decide) 204 0).trans ((up_j hU17 (by decide) 204 0).trans ((up_j hU15 (by decide) 204 0).trans (up_f hU13)))))))))
        have e41 : U31 204 0 8 = 1 := (up_j hU31 (by decide) 204 0).trans ((up_j hU29 (by decide) 204 0).trans ((up_j hU27 (by decide) 204 0).trans ((up_j hU25 (by decide) 204 0).trans ((up_j hU23 (by decide) 204 0).trans ((up_j hU21 (by decide) 204 0).trans ((up_j hU19 (by decide) 204 0).trans ((up_j hU17 (by decide) 204 0).trans (up_f hU15))))))))
        have e42 : U31 204 0 9 = 2 := (up_j hU31 (by decide) 204 0).trans ((up_j hU29 (by decide) 204 0).trans ((up_j hU27 (by decide) 204 0).trans ((up_j hU25 (by decide) 204 0).trans ((up_j hU23 (by decide) 204 0).trans ((up_j hU21 (by decide) 204 0).trans ((up_j hU19 (by decide) 204 0).trans (up_f hU17)))))))
        have e43 : U31 204 0 10 = 2 := (up_j hU31 (by decide) 204 0).trans ((up_j hU29 (by decide) 204 0).trans ((up_j hU27 (by decide) 204 0).trans ((up_j hU25 (by decide) 204 0).trans ((up_j hU23 (by decide) 204 0).trans ((up_j hU21 (by decide) 204 0).trans (up_f hU19))))))
        have e44 : U31 204 0 11 = 3 := (up_j hU31 (by decide) 204 0).trans ((up_j hU29 (by decide) 204 0).trans ((up_j hU27 (by decide) 204 0).trans ((up_j hU25 (by decide) 204 0).trans ((up_j hU23 (by decide) 204 0).trans (up_f hU21)))))
        have e45 : U31 204 0 12 = 3 := (up_j hU31 (by decide) 204 0).trans ((up_j hU29 (by decide) 204 0).trans ((up_j hU27 (by decide) 204 0).trans ((up_j hU25 (by decide) 204 0).trans (up_f hU23))))
        have e46 : U31 204 0 13 = 3 := (up_j hU31 (by decide) 204 0).trans ((up_j hU29 (by decide) 204 0).trans ((up_j hU27 (by decide) 204 0).trans (up_f hU25)))
        have e47 : U31 204 0 14 = 1 := (up_j hU31 (by decide) 204 0).trans ((up_j hU29 (by decide) 204 0).trans (up_f hU27))
        have e48 : U31 204 0 15 = T1 204 0 15 := (up_j hU31 (by decide) 204 0).trans ((up_j hU29 (by decide) 204 0).trans ((up_j hU27 (by decide) 204 0).trans ((up_j hU25 (by decide) 204 0).trans ((up_j hU23 (by decide) 204 0).trans ((up_j hU21 (by decide) 204 0).trans ((up_j hU19 (by decide) 204 0).trans ((up_j hU17 (by decide) 204 0).trans ((up_j hU15 (by decide) 204 0).trans ((up_j hU13 (by decide) 204 0).trans ((up_j hU11 (by decide) 204 0).trans ((up_j hU9 (by decide) 204 0).trans ((up_j hU7 (by decide) 204 0).trans (up_j hU5 (by decide) 204 0)))))))))))))
        have e49 : U31 204 0 16 = 0 := (up_j hU31 (by decide) 204 0).trans (up_f hU29)
        have e50 : U31 204 0 17 = 1 := up_f hU31
        have e51 : U31 204 0 18 = T1 204 0 18 := (up_j hU31 (by decide) 204 0).trans ((up_j hU29 (by decide) 204 0).trans ((up_j hU27 (by decide) 204 0).trans ((up_j hU25 (by decide) 204 0).trans ((up_j hU23 (by decide) 204 0).trans ((up_j hU21 (by decide) 204 0).trans ((up_j hU19 (by decide) 204 0).trans ((up_j hU17 (by decide) 204 0).trans ((up_j hU15 (by decide) 204 0).trans ((up_j hU13 (by decide) 204 0).trans ((up_j hU11 (by decide) 204 0).trans ((up_j hU9 (by decide) 204 0).trans ((up_j hU7 (by decide) 204 0).trans (up_j hU5 (by decide) 204 0)))))))))))))
        have e52 : U31 204 0 19 = T1 204 0 19 := (up_j hU31 (by decide) 204 0).trans ((up_j hU29 (by decide) 204 0).trans ((up_j hU27 (by decide) 204 0).trans ((up_j hU25 (by decide) 204 0).trans ((up_j hU23 (by decide) 204 0).trans ((up_j hU21 (by decide) 204 0).trans ((up_j hU19 (by decide) 204 0).trans ((up_j hU17 (by decide) 204 0).trans ((up_j hU15 (by decide) 204 0).trans ((up_j hU13 (by decide) 204 0).trans ((up_j hU11 (by decide) 204 0).trans ((up_j hU9 (by decide) 204 0).trans ((up_j hU7 (by decide) 204 0).trans (up_j hU5 (by decide) 204 0)))))))))))))
        have e53 : U31 204 0 20 = T1 204 0 20 := (up_j hU31 (by decide) 204 0).trans ((up_j hU29 (by decide) 204 0).trans ((up_j hU27 (by decide) 204 0).trans ((up_j hU25 (by decide) 204 0).trans ((up_j hU23 (by decide) 204 0).trans ((up_j hU21 (by decide) 204 0).trans ((up_j hU19 (by decide) 204 0).trans ((up_j hU17 (by decide) 204 0).trans ((up_j hU15 (by decide) 204 0).trans ((up_j hU13 (by decide) 204 0).trans ((up_j hU11 (by decide) 204 0).trans ((up_j hU9 (by decide) 204 0).trans ((up_j hU7 (by decide) 204 0).trans (up_j hU5 (by decide) 204 0)))))))))))))
        have e54 : U31 204 0 21 = T1 204 0 21 := (up_j hU31 (by decide) 204 0).trans ((up_j hU29 (by decide) 204 0).trans ((up_j hU27 (by decide) 204 0).trans ((up_j hU25 (by decide) 204 0).trans ((up_j hU23 (by decide) 204 0).trans ((up_j hU21 (by decide) 204 0).trans ((up_j hU19 (by decide) 204 0).trans ((up_j hU17 (by decide) 204 0).trans ((up_j hU15 (by decide) 204 0).trans ((up_j hU13 (by decide) 204 0).trans ((up_j hU11 (by decide) 204 0).trans ((up_j hU9 (by decide) 204 0).trans ((up_j hU7 (by decide) 204 0).trans (up_j hU5 (by decide) 204 0)))))))))))))
        have e55 : U31 204 0 22 = T1 204 0 22 := (up_j hU31 (by decide) 204 0).trans ((up_j hU29 (by decide) 204 0).trans ((up_j hU27 (by decide) 204 0).trans ((up_j hU25 (by decide) 204 0).trans ((up_j hU23 (by decide) 204 0).trans ((up_j hU21 (by decide) 204 0).trans ((up_j hU19 (by decide) 204 0).trans ((up_j hU17 (by decide) 204 0).trans ((up_j hU15 (by decide) 204 0).trans ((up_j hU13 (by decide) 204 0).trans ((up_j hU11 (by decide) 204 0).trans ((up_j hU9 (by decide) 204 0).trans ((up_j hU7 (by decide) 204 0).trans (up_j hU5 (by decide) 204 0)))))))))))))
        · intro w h1 h2
          rcases (by omega : w = 0 ∨ w = 1 ∨ w = 2 ∨ w = 3 ∨ w = 4 ∨ w = 5 ∨ w = 6 ∨ w = 7 ∨ w = 8 ∨ w = 9 ∨ w = 10 ∨ w = 11 ∨ w = 12 ∨ w = 13 ∨ w = 14 ∨ w = 15 ∨ w = 16 ∨ w = 17 ∨ w = 18 ∨ w = 19 ∨ w = 20 ∨ w = 21 ∨ w = 22) with rfl | rfl | rfl | rfl | rfl | rfl | rfl | rfl | rfl | rfl | rfl | rfl | rfl | rfl | rfl | rfl | rfl | rfl | rfl | rfl | rfl | rfl | rfl
          · rw [show dv9_ 0 = 0 by decide +kernel]
            have z := l1 0 (by omega) (by omega)
            have z2 := l2 0 (by omega) (by omega)
            omega
          · rw [show dv9_ 1 = 3 by decide +kernel]
            have z := l1 1 (by omega) (by omega)
            have z2 := l2 1 (by omega) (by omega)
            omega
          · rw [show dv9_ 2 = 1 by decide +kernel]
            have z := l1 2 (by omega) (by omega)
            have z2 := l2 2 (by omega) (by omega)
            omega
          · rw [show dv9_ 3 = 0 by decide +kernel]
            have z := l1 3 (by omega) (by omega)
            have z2 := l2 3 (by omega) (by omega)
            omega
          · rw [show dv9_ 4 = 2 by decide +kernel]
            have z := l1 4 (by omega) (by omega)
            have z2 := l2 4 (by omega) (by omega)
            omega
          · rw [show dv9_ 5 = 0 by decide +kernel]
            have z := l1 5 (by omega) (by omega)
            have z2 := l2 5 (by omega) (by omega)
            omega
          · rw [show dv9_ 6 = 1 by decide +kernel]
            have z := l1 6 (by omega) (by omega)
            have z2 := l2 6 (by omega) (by omega)
            omega
          · rw [show dv9_ 7 = 7 by decide +kernel]
            have z := l1 7 (by omega) (by omega)
            have z2 := l2 7 (by omega) (by omega)
            omega
          · rw [show dv9_ 8 = 1 by decide +kernel]
            have z := l1 8 (by omega) (by omega)
            have z2 := l2 8 (by omega) (by omega)
            omega
          · rw [show dv9_ 9 = 2 by decide +kernel]
            have z := l1 9 (by omega) (by omega)
            have z2 := l2 9 (by omega) (by omega)
            omega
          · rw [show dv9_ 10 = 2 by decide +kernel]
            have z := l1 10 (by omega) (by omega)
            have z2 := l2 10 (by omega) (by omega)
            omega
          · rw [show dv9_ 11 = 3 by decide +kernel]
            have z := l1 11 (by omega) (by omega)
            have z2 := l2 11 (by omega) (by omega)
            omega
          · rw [show dv9_ 12 = 3 by decide +kernel]
            have z := l1 12 (by omega) (by omega)
            have z2 := l2 12 (by omega) (by omega)
            omega
          · rw [show dv9_ 13 = 3 by decide +kernel]
            have z := l1 13 (by omega) (by omega)
            have z2 := l2 13 (by omega) (by omega)
            omega
          · rw [show dv9_ 14 = 1 by decide +kernel]
            have z := l1 14 (by omega) (by omega)
            have z2 := l2 14 (by omega) (by omega)
            omega
          · rw [show dv9_ 15 = 0 by decide +kernel]
            have z := l1 15 (by omega) (by omega)
            have z2 := l2 15 (by omega) (by omega)
            omega
          · rw [show dv9_ 16 = 0 by decide +kernel]
            have z := l1 16 (by omega) (by omega)
            have z2 := l2 16 (by omega) (by omega)
            omega
          · rw [show dv9_ 17 = 1 by decide +kernel]
            have z := l1 17 (by omega) (by omega)
            have z2 := l2 17 (by omega) (by omega)
            omega
          · rw [show dv9_ 18 = (-1) by decide +kernel]
            have z := l1 18 (by omega) (by omega)
            have z2 := l2 18 (by omega) (by omega)
            omega
          · rw [show dv9_ 19 = (-1) by decide +kernel]
            have z := l1 19 (by omega) (by omega)
            have z2 := l2 19 (by omega) (by omega)
            omega
          · rw [show dv9_ 20 = (-1) by decide +kernel]
            have z := l1 20 (by omega) (by omega)
            have z2 := l2 20 (by omega) (by omega)
            omega
          · rw [show dv9_ 21 = (-1) by decide +kernel]
            have z := l1 21 (by omega) (by omega)
            have z2 := l2 21 (by omega) (by omega)
            omega
          · rw [show dv9_ 22 = (-1) by decide +kernel]
            have z := l1 22 (by omega) (by omega)
            have z2 := l2 22 (by omega) (by omega)
            omega
        · intro j a b; omega
      · refine And.intro (fun c56 => ?_) (fun c56 => ?_)
        · refine hK 23 [some (vR 111 0), some (vI k)] [vI k, vR 204 0] T1 ?_
          refine j_blx (F := fX11) tb_X11 (nn_ _) bk_X11_layDefaults_e_23 bs_X11_layDefaults_e_23 hz (fun K hK => ?_)
          refine iy_i (by omega) (by omega) ?_
          refine x_nm (fun U57 hU57 => ?_)
          have e58 := up_f hU57
          refine rg_i (by omega) ?_
          refine hK 2 [some (vR 111 0), some (vI (k + 1))] [] U57 ?_
          refine ih_2 _ ?_ (k + 1) U57 (Nat.le_refl _) ?_ ?_ ?_ ?_
          · have hm_2 := hm_2 (); omega
          · exact fr_u (fr_t (fr_0 _ _) (fr_s hf_2 rfl)) hU57 rfl
          · omega
          · intro j a b
            by_cases z : j = k
            · subst z; rw [up_f hU57]; omega
            · rw [up_g hU57 (by omega)]; exact l1 j a (by omega)
          · intro j a b
            by_cases z : j = k
            · subst z; rw [up_f hU57]; omega
            · rw [up_g hU57 (by omega)]; exact l2 j a (by omega)
        · refine hK 24 [some (vR 111 0), some (vI k)] [vI (-1), vI k, vR 204 0] T1 ?_
          refine j_blx (F := fX11) tb_X11 (nn_ _) bk_X11_layDefaults_e_24 bs_X11_layDefaults_e_24 hz (fun K hK => ?_)
          refine iy_i (by omega) (by omega) ?_
          refine x_nm (fun U59 hU59 => ?_)
          have e60 := up_f hU59
          refine rg_i (by omega) ?_
          refine hK 2 [some (vR 111 0), some (vI (k + 1))] [] U59 ?_
          refine ih_2 _ ?_ (k + 1) U59 (Nat.le_refl _) ?_ ?_ ?_ ?_
          · have hm_2 := hm_2 (); omega
          · exact fr_u (fr_t (fr_0 _ _) (fr_s hf_2 rfl)) hU59 rfl
          · omega
          · intro j a b
            by_cases z : j = k
            · subst z; rw [up_f hU59]; omega
            · rw [up_g hU59 (by omega)]; exact l1 j a (by omega)
          · intro j a b
            by_cases z : j = k
            · subst z; rw [up_f hU59]; omega
            · rw [up_g hU59 (by omega)]; exact l2 j a (by omega)
  refine j_blx (F := fX11) tb_X11 (nn_ _) bk_X11_layDefaults_e_0 bs_X11_layDefaults_e_0 hz (fun K hK => ?_)
  refine hK 2 [some (vR 111 0), some (vI 0)] [] T ?_
  refine c_2 _ 0 T (Nat.le_refl _) ?_ ?_ ?_ ?_
  · exact fr_0 _ _
  · omega
  · intro j a b; omega
  · intro j a b; omega
theorem bk_X11_readStatement_e_0 : ck_ fX11 none cX11_readStatement 0 [.aload 0, .tableswitch 0 11 58 #[], .iconst 1, .if_icmp .eq 17, .aload 0, .iconst 2, .aload 0, .tableswitch 0 11 59 #[]] 14 = true := qck_r (nn_ _) (by decide +kernel)
theorem bs_X11_readStatement_e_0 {P : Zt → Option Zv → Prop} (K : Int → Zl → List Zv → Zt → Prop) : sx_ K P [.aload 0, .tableswitch 0 11 58 #[], .iconst 1, .if_icmp .eq 17, .aload 0, .iconst 2, .aload 0, .tableswitch 0 11 59 #[]] 14 = x_aload 0 (x_g0 111 58 0 4 (x_iconst 1 (x_if_icmp .eq 17 K (x_aload 0 (x_iconst 2 (x_aload 0 (x_g0 111 59 0 400 (K 14)))))))) := ((xe_aload 0).trans (congrArg (x_aload 0) ((xe_g0 (kk := 111) rfl tl_11_58).trans (congrArg (x_g0 111 58 0 4) ((xe_iconst 1).trans (congrArg (x_iconst 1) ((xe_if_icmp .eq 17).trans (congrArg (x_if_icmp .eq 17 K) ((xe_aload 0).trans (congrArg (x_aload 0) ((xe_iconst 2).trans (congrArg (x_iconst 2) ((xe_aload 0).trans (congrArg (x_aload 0) ((xe_g0 (kk := 111) rfl tl_11_59).trans (congrArg (x_g0 111 59 0 400) xe_nil))))))))))))))))
theorem bk_X11_readStatement_e_17 : ck_ fX11 none cX11_readStatement 17 [.aload 0, .tableswitch 0 11 62 #[], .ifCond .ne 35, .aload 0, .aload 0, .tableswitch 0 11 64 #[]] 29 = true := qck_r (nn_ _) (by decide +kernel)
theorem bs_X11_readStatement_e_17 {P : Zt → Option Zv → Prop} (K : Int → Zl → List Zv → Zt → Prop) : sx_ K P [.aload 0, .tableswitch 0 11 62 #[], .ifCond .ne 35, .aload 0, .aload 0, .tableswitch 0 11 64 #[]] 29 = x_aload 0 (x_g0 111 62 0 5 (x_ifCond .ne 35 K (x_aload 0 (x_aload 0 (x_g1 111 264 (K 29)))))) := ((xe_aload 0).trans (congrArg (x_aload 0) ((xe_g0 (kk := 111) rfl tl_11_62).trans (congrArg (x_g0 111 62 0 5) ((xe_ifCond .ne 35).trans (congrArg (x_ifCond .ne 35 K) ((xe_aload 0).trans (congrArg (x_aload 0) ((xe_aload 0).trans (congrArg (x_aload 0) ((xe_g1 (kk := 111) rfl tl_11_64).trans (congrArg (x_g1 111 264) xe_nil))))))))))))
theorem bk_X11_readStatement_e_32 : ck_ fX11 none cX11_readStatement 32 [.goto 36] 35 = true := qck_r (nn_ _) (by decide +kernel)
theorem bs_X11_readStatement_e_32 {P : Zt → Option Zv → Prop} (K : Int → Zl → List Zv → Zt → Prop) : sx_ K P [.goto 36] 35 = x_goto 36 K := (xe_goto 36)
theorem bk_X11_readStatement_e_36 : ck_ fX11 none cX11_readStatement 36 [.istore 1, .aload 0, .tableswitch 0 11 62 #[], .ifCond .ne 58, .iload 1, .iconst (-1), .if_icmp .ne 58, .aload 0, .iconst 3, .aload 0, .tableswitch 0 11 59 #[]] 55 = true := qck_r (nn_ _) (by decide +kernel)
theorem bs_X11_readStatement_e_36 {P : Zt → Option Zv → Prop} (K : Int → Zl → List Zv → Zt → Prop) : sx_ K P [.istore 1, .aload 0, .tableswitch 0 11 62 #[], .ifCond .ne 58, .iload 1, .iconst (-1), .if_icmp .ne 58, .aload 0, .iconst 3, .aload 0, .tableswitch 0 11 59 #[]] 55 = x_istore 1 (x_aload 0 (x_g0 111 62 0 5 (x_ifCond .ne 58 K (x_iload 1 (x_iconst (-1) (x_if_icmp .ne 58 K (x_aload 0 (x_iconst 3 (x_aload 0 (x_g0 111 59 0 400 (K 55))))))))))) := ((xe_istore 1).trans (congrArg (x_istore 1) ((xe_aload 0).trans (congrArg (x_aload 0) ((xe_g0 (kk := 111) rfl tl_11_62).trans (congrArg (x_g0 111 62 0 5) ((xe_ifCond .ne 58).trans (congrArg (x_ifCond .ne 58 K) ((xe_iload 1).trans (congrArg (x_iload 1) ((xe_iconst (-1)).trans (congrArg (x_iconst (-1)) ((xe_if_icmp .ne 58).trans (congrArg (x_if_icmp .ne 58 K) ((xe_aload 0).trans (congrArg (x_aload 0) ((xe_iconst 3).trans (congrArg (x_iconst 3) ((xe_aload 0).trans (congrArg (x_aload 0) ((xe_g0 (kk := 111) rfl tl_11_59).trans (congrArg (x_g0 111 59 0 400) xe_nil))))))))))))))))))))))
theorem bk_X11_readStatement_e_58 : ck_ fX11 none cX11_readStatement 58 [.aload 0, .tableswitch 0 11 62 #[], .ifCond .ne 83, .aload 0, .tableswitch 0 11 69 #[], .iload 1, .baload, .ifCond .eq 83, .aload 0, .iconst 5, .aload 0, .tableswitch 0 11 59 #[]] 80 = true := qck_r (nn_ _) (by decide +kernel)
theorem bs_X11_readStatement_e_58 {P : Zt → Option Zv → Prop} (K : Int → Zl → List Zv → Zt → Prop) : sx_ K P [.aload 0, .tableswitch 0 11 62 #[], .ifCond .ne 83, .aload 0, .tableswitch 0 11 69 #[], .iload 1, .baload, .ifCond .eq 83, .aload 0, .iconst 5, .aload 0, .tableswitch 0 11 59 #[]] 80 = x_aload 0 (x_g0 111 62 0 5 (x_ifCond .ne 83 K (x_aload 0 (x_g1 111 269 (x_iload 1 (x_baload (x_ifCond .eq 83 K (x_aload 0 (x_iconst 5 (x_aload 0 (x_g0 111 59 0 400 (K 80)))))))))))) := ((xe_aload 0).trans (congrArg (x_aload 0) ((xe_g0 (kk := 111) rfl tl_11_62).trans (congrArg (x_g0 111 62 0 5) ((xe_ifCond .ne 83).trans (congrArg (x_ifCond .ne 83 K) ((xe_aload 0).trans (congrArg (x_aload 0) ((xe_g1 (kk := 111) rfl tl_11_69).trans (congrArg (x_g1 111 269) ((xe_iload 1).trans (congrArg (x_iload 1) ((xe_baload).trans (congrArg (x_baload) ((xe_ifCond .eq 83).trans (congrArg (x_ifCond .eq 83 K) ((xe_aload 0).trans (congrArg (x_aload 0) ((xe_iconst 5).trans (congrArg (x_iconst 5) ((xe_aload 0).trans (congrArg (x_aload 0) ((xe_g0 (kk := 111) rfl tl_11_59).trans (congrArg (x_g0 111 59 0 400) xe_nil))))))))))))))))))))))))
theorem bk_X11_readStatement_e_83 : ck_ fX11 none cX11_readStatement 83 [.aload 0, .tableswitch 0 11 62 #[], .ifCond .eq 91, .return_] 91 = true := qck_r (nn_ _) (by decide +kernel)
theorem bs_X11_readStatement_e_83 {P : Zt → Option Zv → Prop} (K : Int → Zl → List Zv → Zt → Prop) : sx_ K P [.aload 0, .tableswitch 0 11 62 #[], .ifCond .eq 91, .return_] 91 = x_aload 0 (x_g0 111 62 0 5 (x_ifCond .eq 91 K (x_return_ P))) := ((xe_aload 0).trans (congrArg (x_aload 0) ((xe_g0 (kk := 111) rfl tl_11_62).trans (congrArg (x_g0 111 62 0 5) ((xe_ifCond .eq 91).trans (congrArg (x_ifCond .eq 91 K) (xe_return_)))))))
theorem bk_X11_readStatement_e_91 : ck_ fX11 none cX11_readStatement 91 [.aload 0, .tableswitch 0 11 69 #[], .iload 1, .iconst 1, .bastore, .iload 1, .iconst 2, .if_icmp .ne 108, .aload 0] 104 = true := qck_r (nn_ _) (by decide +kernel)
theorem bs_X11_readStatement_e_91 {P : Zt → Option Zv → Prop} (K : Int → Zl → List Zv → Zt → Prop) : sx_ K P [.aload 0, .tableswitch 0 11 69 #[], .iload 1, .iconst 1, .bastore, .iload 1, .iconst 2, .if_icmp .ne 108, .aload 0] 104 = x_aload 0 (x_g1 111 269 (x_iload 1 (x_iconst 1 (x_bastore (x_iload 1 (x_iconst 2 (x_if_icmp .ne 108 K (x_aload 0 (K 104))))))))) := ((xe_aload 0).trans (congrArg (x_aload 0) ((xe_g1 (kk := 111) rfl tl_11_69).trans (congrArg (x_g1 111 269) ((xe_iload 1).trans (congrArg (x_iload 1) ((xe_iconst 1).trans (congrArg (x_iconst 1) ((xe_bastore).trans (congrArg (x_bastore) ((xe_iload 1).trans (congrArg (x_iload 1) ((xe_iconst 2).trans (congrArg (x_iconst 2) ((xe_if_icmp .ne 108).trans (congrArg (x_if_icmp .ne 108 K) ((xe_aload 0).trans (congrArg (x_aload 0) xe_nil))))))))))))))))))
theorem bk_X11_readStatement_e_108 : ck_ fX11 none cX11_readStatement 108 [.iload 1, .ifCond .ne 119, .aload 0] 113 = true := qck_r (nn_ _) (by decide +kernel)
theorem bs_X11_readStatement_e_108 {P : Zt → Option Zv → Prop} (K : Int → Zl → List Zv → Zt → Prop) : sx_ K P [.iload 1, .ifCond .ne 119, .aload 0] 113 = x_iload 1 (x_ifCond .ne 119 K (x_aload 0 (K 113))) := ((xe_iload 1).trans (congrArg (x_iload 1) ((xe_ifCond .ne 119).trans (congrArg (x_ifCond .ne 119 K) ((xe_aload 0).trans (congrArg (x_aload 0) xe_nil))))))
theorem bk_X11_readStatement_e_119 : ck_ fX11 none cX11_readStatement 119 [.iload 1, .iconst 1, .if_icmp .ne 159, .aload 0, .iconst 0, .iconst 9, .iconst 1] 129 = true := qck_r (nn_ _) (by decide +kernel)
theorem bs_X11_readStatement_e_119 {P : Zt → Option Zv → Prop} (K : Int → Zl → List Zv → Zt → Prop) : sx_ K P [.iload 1, .iconst 1, .if_icmp .ne 159, .aload 0, .iconst 0, .iconst 9, .iconst 1] 129 = x_iload 1 (x_iconst 1 (x_if_icmp .ne 159 K (x_aload 0 (x_iconst 0 (x_iconst 9 (x_iconst 1 (K 129))))))) := ((xe_iload 1).trans (congrArg (x_iload 1) ((xe_iconst 1).trans (congrArg (x_iconst 1) ((xe_if_icmp .ne 159).trans (congrArg (x_if_icmp .ne 159 K) ((xe_aload 0).trans (congrArg (x_aload 0) ((xe_iconst 0).trans (congrArg (x_iconst 0) ((xe_iconst 9).trans (congrArg (x_iconst 9) ((xe_iconst 1).trans (congrArg (x_iconst 1) xe_nil))))))))))))))
theorem bk_X11_readStatement_e_159 : ck_ fX11 none cX11_readStatement 159 [.iload 1, .iconst 3, .if_icmp .ne 174, .aload 0, .tableswitch 0 11 4 #[], .iconst 5, .iconst 1, .iastore, .goto 200] 174 = true := qck_r (nn_ _) (by decide +kernel)
theorem bs_X11_readStatement_e_159 {P : Zt → Option Zv → Prop} (K : Int → Zl → List Zv → Zt → Prop) : sx_ K P [.iload 1, .iconst 3, .if_icmp .ne 174, .aload 0, .tableswitch 0 11 4 #[], .iconst 5, .iconst 1, .iastore, .goto 200] 174 = x_iload 1 (x_iconst 3 (x_if_icmp .ne 174 K (x_aload 0 (x_g1 111 204 (x_iconst 5 (x_iconst 1 (x_iastore (x_goto 200 K)))))))) := ((xe_iload 1).trans (congrArg (x_iload 1) ((xe_iconst 3).trans (congrArg (x_iconst 3) ((xe_if_icmp .ne 174).trans (congrArg (x_if_icmp .ne 174 K) ((xe_aload 0).trans (congrArg (x_aload 0) ((xe_g1 (kk := 111) rfl tl_11_4).trans (congrArg (x_g1 111 204) ((xe_iconst 5).trans (congrArg (x_iconst 5) ((xe_iconst 1).trans (congrArg (x_iconst 1) ((xe_iastore).trans (congrArg (x_iastore) (xe_goto 200)))))))))))))))))
theorem bk_X11_readStatement_e_174 : ck_ fX11 none cX11_readStatement 174 [.aload 0, .aload 0, .tableswitch 0 11 67 #[], .iload 1, .iconst 4, .isub, .iaload, .aload 0, .tableswitch 0 11 68 #[], .iload 1, .iconst 4, .isub, .iaload, .iconst 6, .iload 1, .iadd, .iconst 4, .isub] 197 = true := qck_r (nn_ _) (by decide +kernel)
theorem bs_X11_readStatement_e_174 {P : Zt → Option Zv → Prop} (K : Int → Zl → List Zv → Zt → Prop) : sx_ K P [.aload 0, .aload 0, .tableswitch 0 11 67 #[], .iload 1, .iconst 4, .isub, .iaload, .aload 0, .tableswitch 0 11 68 #[], .iload 1, .iconst 4, .isub, .iaload, .iconst 6, .iload 1, .iadd, .iconst 4, .isub] 197 = x_aload 0 (x_aload 0 (x_g1 111 267 (x_iload 1 (x_iconst 4 (x_isub (x_iaload (x_aload 0 (x_g1 111 268 (x_iload 1 (x_iconst 4 (x_isub (x_iaload (x_iconst 6 (x_iload 1 (x_iadd (x_iconst 4 (x_isub (K 197)))))))))))))))))) := ((xe_aload 0).trans (congrArg (x_aload 0) ((xe_aload 0).trans (congrArg (x_aload 0) ((xe_g1 (kk := 111) rfl tl_11_67).trans (congrArg (x_g1 111 267) ((xe_iload 1).trans (congrArg (x_iload 1) ((xe_iconst 4).trans (congrArg (x_iconst 4) ((xe_isub).trans (congrArg (x_isub) ((xe_iaload).trans (congrArg (x_iaload) ((xe_aload 0).trans (congrArg (x_aload 0) ((xe_g1 (kk := 111) rfl tl_11_68).trans (congrArg (x_g1 111 268) ((xe_iload 1).trans (congrArg (x_iload 1) ((xe_iconst 4).trans (congrArg (x_iconst 4) ((xe_isub).trans (congrArg (x_isub) ((xe_iaload).trans (congrArg (x_iaload) ((xe_iconst 6).trans (congrArg (x_iconst 6) ((xe_iload 1).trans (congrArg (x_iload 1) ((xe_iadd).trans (congrArg (x_iadd) ((xe_iconst 4).trans (congrArg (x_iconst 4) ((xe_isub).trans (congrArg (x_isub) xe_nil))))))))))))))))))))))))))))))))))))
theorem bk_X11_readStatement_e_200 : ck_ fX11 none cX11_readStatement 200 [.aload 0, .tableswitch 0 11 62 #[], .ifCond .ne 235, .aload 0] 208 = true := qck_r (nn_ _) (by decide +kernel)
theorem bs_X11_readStatement_e_200 {P : Zt → Option Zv → Prop} (K : Int → Zl → List Zv → Zt → Prop) : sx_ K P [.aload 0, .tableswitch 0 11 62 #[], .ifCond .ne 235, .aload 0] 208 = x_aload 0 (x_g0 111 62 0 5 (x_ifCond .ne 235 K (x_aload 0 (K 208)))) := ((xe_aload 0).trans (congrArg (x_aload 0) ((xe_g0 (kk := 111) rfl tl_11_62).trans (congrArg (x_g0 111 62 0 5) ((xe_ifCond .ne 235).trans (congrArg (x_ifCond .ne 235 K) ((xe_aload 0).trans (congrArg (x_aload 0) xe_nil))))))))
theorem bk_X11_readStatement_e_235 : ck_ fX11 none cX11_readStatement 235 [.return_] 236 = true := qck_r (nn_ _) (by decide +kernel)
theorem bs_X11_readStatement_e_235 {P : Zt → Option Zv → Prop} (K : Int → Zl → List Zv → Zt → Prop) : sx_ K P [.return_] 236 = x_return_ P := (xe_return_)
theorem bk_X11_readStatement_e_211 : ck_ fX11 none cX11_readStatement 211 [.aload 0, .tableswitch 0 11 62 #[], .ifCond .ne 235, .aload 0, .tableswitch 0 11 58 #[], .iconst 3, .if_icmp .eq 235, .aload 0, .iconst 2, .aload 0, .tableswitch 0 11 59 #[]] 232 = true := qck_r (nn_ _) (by decide +kernel)
theorem bs_X11_readStatement_e_211 {P : Zt → Option Zv → Prop} (K : Int → Zl → List Zv → Zt → Prop) : sx_ K P [.aload 0, .tableswitch 0 11 62 #[], .ifCond .ne 235, .aload 0, .tableswitch 0 11 58 #[], .iconst 3, .if_icmp .eq 235, .aload 0, .iconst 2, .aload 0, .tableswitch 0 11 59 #[]] 232 = x_aload 0 (x_g0 111 62 0 5 (x_ifCond .ne 235 K (x_aload 0 (x_g0 111 58 0 4 (x_iconst 3 (x_if_icmp .eq 235 K (x_aload 0 (x_iconst 2 (x_aload 0 (x_g0 111 59 0 400 (K 232))))))))))) := ((xe_aload 0).trans (congrArg (x_aload 0) ((xe_g0 (kk := 111) rfl tl_11_62).trans (congrArg (x_g0 111 62 0 5) ((xe_ifCond .ne 235).trans (congrArg (x_ifCond .ne 235 K) ((xe_aload 0).trans (congrArg (x_aload 0) ((xe_g0 (kk := 111) rfl tl_11_58).trans (congrArg (x_g0 111 58 0 4) ((xe_iconst 3).trans (congrArg (x_iconst 3) ((xe_if_icmp .eq 235).trans (congrArg (x_if_icmp .eq 235 K) ((xe_aload 0).trans (congrArg (x_aload 0) ((xe_iconst 2).trans (congrArg (x_iconst 2) ((xe_aload 0).trans (congrArg (x_aload 0) ((xe_g0 (kk := 111) rfl tl_11_59).trans (congrArg (x_g0 111 59 0 400) xe_nil))))))))))))))))))))))
theorem bk_X11_readStatement_e_132 : ck_ fX11 none cX11_readStatement 132 [.aload 0, .iconst 0, .aload 0, .tableswitch 0 11 4 #[], .iconst 1, .iaload, .iconst 2] 141 = true := qck_r (nn_ _) (by decide +kernel)
theorem bs_X11_readStatement_e_132 {P : Zt → Option Zv → Prop} (K : Int → Zl → List Zv → Zt → Prop) : sx_ K P [.aload 0, .iconst 0, .aload 0, .tableswitch 0 11 4 #[], .iconst 1, .iaload, .iconst 2] 141 = x_aload 0 (x_iconst 0 (x_aload 0 (x_g1 111 204 (x_iconst 1 (x_iaload (x_iconst 2 (K 141))))))) := ((xe_aload 0).trans (congrArg (x_aload 0) ((xe_iconst 0).trans (congrArg (x_iconst 0) ((xe_aload 0).trans (congrArg (x_aload 0) ((xe_g1 (kk := 111) rfl tl_11_4).trans (congrArg (x_g1 111 204) ((xe_iconst 1).trans (congrArg (x_iconst 1) ((xe_iaload).trans (congrArg (x_iaload) ((xe_iconst 2).trans (congrArg (x_iconst 2) xe_nil))))))))))))))
theorem bk_X11_readStatement_e_144 : ck_ fX11 none cX11_readStatement 144 [.aload 0, .iconst 0, .aload 0, .tableswitch 0 11 4 #[], .iconst 2, .iaload, .iconst 3] 153 = true := qck_r (nn_ _) (by decide +kernel)
theorem bs_X11_readStatement_e_144 {P : Zt → Option Zv → Prop} (K : Int → Zl → List Zv → Zt → Prop) : sx_ K P [.aload 0, .iconst 0, .aload 0, .tableswitch 0 11 4 #[], .iconst 2, .iaload, .iconst 3] 153 = x_aload 0 (x_iconst 0 (x_aload 0 (x_g1 111 204 (x_iconst 2 (x_iaload (x_iconst 3 (K 153))))))) := ((xe_aload 0).trans (congrArg (x_aload 0) ((xe_iconst 0).trans (congrArg (x_iconst 0) ((xe_aload 0).trans (congrArg (x_aload 0) ((xe_g1 (kk := 111) rfl tl_11_4).trans (congrArg (x_g1 111 204) ((xe_iconst 2).trans (congrArg (x_iconst 2) ((xe_iaload).trans (congrArg (x_iaload) ((xe_iconst 3).trans (congrArg (x_iconst 3) xe_nil))))))))))))))
theorem bk_X11_readStatement_e_156 : ck_ fX11 none cX11_readStatement 156 [.goto 200] 159 = true := qck_r (nn_ _) (by decide +kernel)
theorem bs_X11_readStatement_e_156 {P : Zt → Option Zv → Prop} (K : Int → Zl → List Zv → Zt → Prop) : sx_ K P [.goto 200] 159 = x_goto 200 K := (xe_goto 200)
theorem bk_X11_readStatement_e_116 : ck_ fX11 none cX11_readStatement 116 [.goto 200] 119 = true := qck_r (nn_ _) (by decide +kernel)
theorem bs_X11_readStatement_e_116 {P : Zt → Option Zv → Prop} (K : Int → Zl → List Zv → Zt → Prop) : sx_ K P [.goto 200] 119 = x_goto 200 K := (xe_goto 200)
theorem bk_X11_readStatement_e_107 : ck_ fX11 none cX11_readStatement 107 [.return_] 108 = true := qck_r (nn_ _) (by decide +kernel)
theorem bs_X11_readStatement_e_107 {P : Zt → Option Zv → Prop} (K : Int → Zl → List Zv → Zt → Prop) : sx_ K P [.return_] 108 = x_return_ P := (xe_return_)
theorem bk_X11_readStatement_e_35 : ck_ fX11 none cX11_readStatement 35 [.iconst (-1), .istore 1, .aload 0, .tableswitch 0 11 62 #[], .ifCond .ne 58, .iload 1, .iconst (-1), .if_icmp .ne 58, .aload 0, .iconst 3, .aload 0, .tableswitch 0 11 59 #[]] 55 = true := qck_r (nn_ _) (by decide +kernel)
theorem bs_X11_readStatement_e_35 {P : Zt → Option Zv → Prop} (K : Int → Zl → List Zv → Zt → Prop) : sx_ K P [.iconst (-1), .istore 1, .aload 0, .tableswitch 0 11 62 #[], .ifCond .ne 58, .iload 1, .iconst (-1), .if_icmp .ne 58, .aload 0, .iconst 3, .aload 0, .tableswitch 0 11 59 #[]] 55 = x_iconst (-1) (x_istore 1 (x_aload 0 (x_g0 111 62 0 5 (x_ifCond .ne 58 K (x_iload 1 (x_iconst (-1) (x_if_icmp .ne 58 K (x_aload 0 (x_iconst 3 (x_aload 0 (x_g0 111 59 0 400 (K 55)))))))))))) := ((xe_iconst (-1)).trans (congrArg (x_iconst (-1)) ((xe_istore 1).trans (congrArg (x_istore 1) ((xe_aload 0).trans (congrArg (x_aload 0) ((xe_g0 (kk := 111) rfl tl_11_62).trans (congrArg (x_g0 111 62 0 5) ((xe_ifCond .ne 58).trans (congrArg (x_ifCond .ne 58 K) ((xe_iload 1).trans (congrArg (x_iload 1) ((xe_iconst (-1)).trans (congrArg (x_iconst (-1)) ((xe_if_icmp .ne 58).trans (congrArg (x_if_icmp .ne 58 K) ((xe_aload 0).trans (congrArg (x_aload 0) ((xe_iconst 3).trans (congrArg (x_iconst 3) ((xe_aload 0).trans (congrArg (x_aload 0) ((xe_g0 (kk := 111) rfl tl_11_59).trans (congrArg (x_g0 111 59 0 400) xe_nil))))))))))))))))))))))))
abbrev po_X11_readStatement_e (T : Zt) (a : Int) (t : Int → Int) (v : Int → Int) : Zt → Option Zv → Prop := fun T' r => r = none ∧ fr_ [(111, [57, 58, 59, 60, 61, 62, 63]), (204, []), (269, []), (270, [])] T T' ∧ ((T' 111 0 62 ≠ 0 ∧ stf9_ (cl9_ (T 111 0 1) (fun j => T 200 0 j)) (T 111 0 1) a t v = Sum.inl (T' 111 0 62, T' 111 0 63)) ∨ (T' 111 0 62 = 0 ∧ MS9_ (stf9_ (cl9_ (T 111 0 1) (fun j => T 200 0 j)) (T 111 0 1) a t v) T' ∧ T' 111 0 63 = T 111 0 63 ∧ T 111 0 60 ≤ T' 111 0 57 ∧ T' 111 0 57 ≤ T 111 0 1))
set_option maxHeartbeats 4000000 in
theorem ct_X11_readStatement_e {T : Zt} {a : Int} {t : Int → Int} {v : Int → Int} (h0 : 0 ≤ a) (hk : TK9_ (fun j => T 200 0 j) (T 111 0 1) a (T 111 0 59) (T 111 0 60) (T 111 0 58)) (h57 : T 111 0 57 = T 111 0 60) (h62 : T 111 0 62 = 0) (hC : CW_ T) (ht : TA9_ T t) (hv : VR9_ T v) : Ct_ yX11_readStatement zX11_readStatement T [vR 111 0] (po_X11_readStatement_e T a t v) := by
  refine ct_of pn_11 rfl rfl (Nat.le_of_ble_eq_true rfl) (fun hT hav => ?_)
  have hz : zX11_readStatement.2.2.2.1 = some .boolean → ∀ (T' : Zt) (x : Int), po_X11_readStatement_e T a t v T' (some (vI x)) → 0 ≤ x ∧ x ≤ 1 := fun h => by cases h
  have hb_1 : 0 ≤ T 111 0 1 ∧ T 111 0 1 ≤ 400 := bd_f hT 111 1 tl_11_1 0
  have hb_57 : 0 ≤ T 111 0 57 ∧ T 111 0 57 ≤ 400 := bd_f hT 111 57 tl_11_57 0
  have hb_58 : 0 ≤ T 111 0 58 ∧ T 111 0 58 ≤ 4 := bd_f hT 111 58 tl_11_58 0
  have tr := tk9_r hk
  show J_ zX11_readStatement T (po_X11_readStatement_e T a t v) 0 0 0 [some (vR 111 0), none] [] T
  refine j_blx (F := fX11) tb_X11 (nn_ _) bk_X11_readStatement_e_0 bs_X11_readStatement_e_0 hz (fun K hK => ?_)
  intro b1 b1b
  refine And.intro (fun c2 => ?_) (fun c2 => ?_)
  · refine hK 17 _ [] T ?_
    refine j_blx (F := fX11) tb_X11 (nn_ _) bk_X11_readStatement_e_17 bs_X11_readStatement_e_17 hz (fun K hK => ?_)
    intro b3 b3b
    refine And.intro (fun c4 => ?_) (fun c4 => ?_)
    · exfalso; omega
    · refine hK 29 _ [vR 264 0, vR 111 0] T ?_
      refine j_callV (y := yX11_whichOf) (Yc := zX11_whichOf) (rest := []) [vR 264 0] (ct_X11_whichOf_e0 (T := T) (by omega) (by exact hC)) cl_X11_294 (qd_c (by decide +kernel)) (nn_ _) rfl (rf_of rfl) (Nat.le_of_ble_eq_true rfl) (Nat.le_of_ble_eq_true rfl) (Nat.le_of_ble_eq_true rfl) rfl ?_
      rintro _ _ ⟨rfl, x5, rfl, hx5, wx5⟩
      show J_ zX11_readStatement T (po_X11_readStatement_e T a t v) 0 0 32 _ [vI x5] T
      refine j_blx (F := fX11) tb_X11 (nn_ _) bk_X11_readStatement_e_32 bs_X11_readStatement_e_32 hz (fun K hK => ?_)
      refine hK 36 _ [vI x5] T ?_
      refine j_blx (F := fX11) tb_X11 (nn_ _) bk_X11_readStatement_e_36 bs_X11_readStatement_e_36 hz (fun K hK => ?_)
      intro b6 b6b
      refine And.intro (fun c7 => ?_) (fun c7 => ?_)
      · exfalso; omega
      · refine And.intro (fun c8 => ?_) (fun c8 => ?_)
        · have hwi := wof9_0 ds9_0 hk h0 (by omega) wx5 (by omega)
          have htx := ht x5 (by omega) (by omega)
          refine hK 58 [some (vR 111 0), some (vI x5)] [] T ?_
          refine j_blx (F := fX11) tb_X11 (nn_ _) bk_X11_readStatement_e_58 bs_X11_readStatement_e_58 hz (fun K hK => ?_)
          intro b9 b9b
          refine And.intro (fun c10 => ?_) (fun c10 => ?_)
          · exfalso; omega
          · refine ix_i (by omega) ?_
            intro b11 b11b
            refine And.intro (fun c12 => ?_) (fun c12 => ?_)
            · have hx0 : t x5 = 0 := by omega
              refine hK 83 _ [] T ?_
              refine j_blx (F := fX11) tb_X11 (nn_ _) bk_X11_readStatement_e_83 bs_X11_readStatement_e_83 hz (fun K hK => ?_)
              intro b13 b13b
              refine And.intro (fun c14 => ?_) (fun c14 => ?_)
              · refine hK 91 _ [] T ?_
                refine j_blx (F := fX11) tb_X11 (nn_ _) bk_X11_readStatement_e_91 bs_X11_readStatement_e_91 hz (fun K hK => ?_)
                refine iy_i (by omega) (by omega) ?_
                refine x_nm (fun U15 hU15 => ?_)
                have e16 := up_f hU15
                have ta : TA9_ U15 (u9_ t x5 1) := ta9_s (T := T) (ht) (fun j hj => up_g hU15 (fun z => hj z.2.2)) (up_f hU15)
                have vr0 : VR9_ U15 v := VR9_f hv (show fr_ [(269, [])] T U15 from fr_u (fr_0 _ _) hU15 rfl) (fun _ => rfl)
                have e17 : U15 111 0 57 = T 111 0 57 := up_k hU15 (by exact Nat.ne_of_beq_eq_false rfl) 0 57
                have e18 : U15 111 0 62 = T 111 0 62 := up_k hU15 (by exact Nat.ne_of_beq_eq_false rfl) 0 62
                have e19 : U15 111 0 63 = T 111 0 63 := up_k hU15 (by exact Nat.ne_of_beq_eq_false rfl) 0 63
                have e20 : U15 111 0 1 = T 111 0 1 := up_k hU15 (by exact Nat.ne_of_beq_eq_false rfl) 0 1
                refine And.intro (fun c21 => ?_) (fun c21 => ?_)
                · refine hK 108 _ [] U15 ?_
                  refine j_blx (F := fX11) tb_X11 (nn_ _) bk_X11_readStatement_e_108 bs_X11_readStatement_e_108 hz (fun K hK => ?_)
                  refine And.intro (fun c22 => ?_) (fun c22 => ?_)
                  · refine hK 119 _ [] U15 ?_
                    refine j_blx (F := fX11) tb_X11 (nn_ _) bk_X11_readStatement_e_119 bs_X11_readStatement_e_119 hz (fun K hK => ?_)
                    refine And.intro (fun c23 => ?_) (fun c23 => ?_)
                    · refine hK 159 _ [] U15 ?_
                      refine j_blx (F := fX11) tb_X11 (nn_ _) bk_X11_readStatement_e_159 bs_X11_readStatement_e_159 hz (fun K hK => ?_)
                      refine And.intro (fun c24 => ?_) (fun c24 => ?_)
                      · refine hK 174 _ [] U15 ?_
                        refine j_blx (F := fX11) tb_X11 (nn_ _) bk_X11_readStatement_e_174 bs_X11_readStatement_e_174 hz (fun K hK => ?_)
                        refine rg_i (by omega) ?_
                        refine ix_i (by omega) ?_
                        intro b25 b25b
                        have e26 : U15 267 0 (x5 - 4) = T 267 0 (x5 - 4) := up_k hU15 (by exact Nat.ne_of_beq_eq_false rfl) 0 (x5 - 4)
                        rw [e26] at b25 b25b ⊢
                        have hl7 := hC.2.2.2.1 (x5 - 4) (by omega) (by omega)
                        refine rg_i (by omega) ?_
                        refine ix_i (by omega) ?_
                        intro b27 b27b
                        have e28 : U15 268 0 (x5 - 4) = T 268 0 (x5 - 4) := up_k hU15 (by exact Nat.ne_of_beq_eq_false rfl) 0 (x5 - 4)
                        rw [e28] at b27 b27b ⊢
                        have hl8 := hC.2.2.2.2 (x5 - 4) (by omega) (by omega)
                        refine rg_i (by omega) ?_
                        refine rg_i (by omega) ?_
                        refine hK 197 _ [vI ((6 + x5) - 4), vI (T 268 0 (x5 - 4)), vI (T 267 0 (x5 - 4)), vR 111 0] U15 ?_
                        have e29 : U15 111 0 57 = T 111 0 57 := up_k hU15 (by exact Nat.ne_of_beq_eq_false rfl) 0 57
                        have e30 : U15 111 0 1 = T 111 0 1 := up_k hU15 (by exact Nat.ne_of_beq_eq_false rfl) 0 1
                        have e31 : U15 111 0 62 = T 111 0 62 := up_k hU15 (by exact Nat.ne_of_beq_eq_false rfl) 0 62
                        refine j_callV (y := yX11_wantNumber) (Yc := zX11_wantNumber) (rest := []) [vI (T 267 0 (x5 - 4)), vI (T 268 0 (x5 - 4)), vI ((6 + x5) - 4)] (ct_X11_wantNumber_e (T := U15) (by omega) (by omega) (by omega)) cl_X11_304 (qd_c (by decide +kernel)) (nn_ _) rfl (rf_of rfl) (Nat.le_of_ble_eq_true rfl) (Nat.le_of_ble_eq_true rfl) (Nat.le_of_ble_eq_true rfl) rfl ?_
                        rintro U32 _ ⟨rfl, fU32, qU32, oU32⟩
                        show J_ zX11_readStatement T (po_X11_readStatement_e T a t v) 0 0 200 _ [] U32
                        have hq := qU32
                        have fb33 : fr_ [(269, [])] T U15 := fr_u (fr_0 _ _) hU15 rfl
                        rw [show (fun j => U15 200 0 j) = fun j => T 200 0 j from funext fun j => fb33 200 0 j rfl, show U15 111 0 1 = T 111 0 1 from fb33 111 0 1 rfl] at hq
                        have oq := oU32
                        have sb := sb9_q (x := x5) (by omega) (by omega)
                        rw [show U15 111 0 57 = T 111 0 60 by omega, show 6 + x5 - 4 = x5 + 2 by omega, show T 267 0 (x5 - 4) = (sa_ 1).getD (x5 + 2).toNat 0 by omega, show T 268 0 (x5 - 4) = (sa_ 2).getD (x5 + 2).toNat 0 by omega] at hq
                        rw [show 6 + x5 - 4 = x5 + 2 by omega] at oq
                        have hq := hq.resolve_left (fun z => by omega)
                        have hvr : VR9_ U32 (u9_ v (x5 + 2) (U32 204 0 (x5 + 2))) := VR9_u vr0 oq rfl
                        have hbz : U32 111 0 62 ≠ 0 → bdf9_ (cl9_ (T 111 0 1) (fun j => T 200 0 j)) (T 111 0 1) (T 111 0 60) x5 v = Sum.inl (U32 111 0 62, U32 111 0 63) := fun z => (bdf9_4 (by omega)).trans (bn9_l (hq.resolve_right (fun y => by omega)).2.2)
                        have hbo0 : U32 111 0 62 = 0 → bdf9_ (cl9_ (T 111 0 1) (fun j => T 200 0 j)) (T 111 0 1) (T 111 0 60) x5 v = Sum.inr (U32 111 0 57, u9_ v (x5 + 2) (U32 204 0 (x5 + 2))) := fun z => (bdf9_4 (by omega)).trans (bn9_r (hq.resolve_left (fun y => by omega)).2.2.1)
                        have hbb : U32 111 0 62 = 0 → U32 111 0 63 = T 111 0 63 ∧ T 111 0 60 ≤ U32 111 0 57 ∧ U32 111 0 57 ≤ T 111 0 1 := fun z => by have y := (hq.resolve_left (fun y => by omega)).2.2.2; omega
                        have e34 : U32 111 0 1 = T 111 0 1 := (fU32 111 0 1 rfl).trans (up_k hU15 (by exact Nat.ne_of_beq_eq_false rfl) 0 1)
                        refine j_blx (F := fX11) tb_X11 (nn_ _) bk_X11_readStatement_e_200 bs_X11_readStatement_e_200 hz (fun K hK => ?_)
                        intro b35 b35b
                        refine And.intro (fun c36 => ?_) (fun c36 => ?_)
                        · refine hK 235 _ [] U32 ?_
                          refine j_blx (F := fX11) tb_X11 (nn_ _) bk_X11_readStatement_e_235 bs_X11_readStatement_e_235 hz (fun K hK => ?_)
                          refine (show po_X11_readStatement_e T a t v U32 (none) from ?_)
                          exact ⟨rfl, fr_t (fr_u (fr_0 _ _) hU15 rfl) (fr_s fU32 rfl), Or.inl ⟨by omega, (stf9_b hwi hx0 (by omega)).trans (bn9_l (hbz (by omega)))⟩⟩
                        · have hbo := hbo0 (by omega)
                          have hb1 := hbb (by omega)
                          have st := (stf9_b hwi hx0 (by omega)).trans (bn9_r hbo)
                          refine hK 208 _ [vR 111 0] U32 ?_
                          have e37 : U32 111 0 1 = T 111 0 1 := (fU32 111 0 1 rfl).trans (up_k hU15 (by exact Nat.ne_of_beq_eq_false rfl) 0 1)
                          refine j_callV (y := yX11_take) (Yc := zX11_take) (rest := []) [] (ct_X11_take_e (T := U32) (by omega) (by omega)) cl_X11_291 (qd_c (by decide +kernel)) (nn_ _) rfl (rf_of rfl) (Nat.le_of_ble_eq_true rfl) (Nat.le_of_ble_eq_true rfl) (Nat.le_of_ble_eq_true rfl) rfl ?_
                          rintro U38 _ ⟨rfl, fU38, qU38⟩
                          show J_ zX11_readStatement T (po_X11_readStatement_e T a t v) 0 0 211 _ [] U38
                          have qkb := qU38
                          have fb39 : fr_ [(111, [57, 58, 59, 60, 61, 62, 63]), (204, []), (269, [])] T U32 := fr_t (fr_u (fr_0 _ _) hU15 rfl) (fr_s fU32 rfl)
                          rw [show (fun j => U32 200 0 j) = fun j => T 200 0 j from funext fun j => fb39 200 0 j rfl, show U32 111 0 1 = T 111 0 1 from fb39 111 0 1 rfl] at qkb
                          obtain ⟨qab, eb, kb, hkb, hqb⟩ := qkb
                          have trb := tk9_r hkb
                          have tab := TA9_f ta (show fr_ [(111, [57, 58, 59, 60, 61, 62, 63]), (204, [])] U15 U38 from fr_t (fr_t (fr_0 _ _) (fr_s fU32 rfl)) (fr_s fU38 rfl)) (fun _ => rfl)
                          have vrb := VR9_f hvr fU38 (fun _ => rfl)
                          refine j_blx (F := fX11) tb_X11 (nn_ _) bk_X11_readStatement_e_211 bs_X11_readStatement_e_211 hz (fun K hK => ?_)
                          intro b40 b40b
                          refine And.intro (fun c41 => ?_) (fun c41 => ?_)
                          · refine hK 235 _ [] U38 ?_
                            refine j_blx (F := fX11) tb_X11 (nn_ _) bk_X11_readStatement_e_235 bs_X11_readStatement_e_235 hz (fun K hK => ?_)
                            refine (show po_X11_readStatement_e T a t v U38 (none) from ?_)
                            refine ⟨rfl, fr_t (fr_t (fr_u (fr_0 _ _) hU15 rfl) (fr_s fU32 rfl)) (fr_s fU38 rfl), Or.inl ⟨by omega, ?_⟩⟩
                            rw [show U38 111 0 62 = 1 by omega, show U38 111 0 63 = U38 111 0 59 by omega]
                            exact st.trans (bn9_l (smf9_1 hkb (by omega) (by omega)))
                          · intro b42 b42b
                            refine And.intro (fun c43 => ?_) (fun c43 => ?_)
                            · refine hK 235 _ [] U38 ?_
                              refine j_blx (F := fX11) tb_X11 (nn_ _) bk_X11_readStatement_e_235 bs_X11_readStatement_e_235 hz (fun K hK => ?_)
                              refine (show po_X11_readStatement_e T a t v U38 (none) from ?_)
                              refine ⟨rfl, fr_t (fr_t (fr_u (fr_0 _ _) hU15 rfl) (fr_s fU32 rfl)) (fr_s fU38 rfl), Or.inr ⟨by omega, ⟨u9_ t x5 1, u9_ v (x5 + 2) (U32 204 0 (x5 + 2)), ?_, tab, vrb⟩, by omega, by omega, by omega⟩⟩
                              rw [show U38 111 0 57 = eb by omega]
                              exact st.trans (bn9_r (smf9_0 hkb (by omega) (by omega)))
                            · intro b44 b44b
                              refine hK 232 _ [vI (U38 111 0 59), vI 2, vR 111 0] U38 ?_
                              refine j_callV (y := yX11_bad) (Yc := zX11_bad) (rest := []) [vI 2, vI (U38 111 0 59)] (ct_X11_bad_e (T := U38) (by omega) (by omega)) cl_X11_281 (qd_c (by decide +kernel)) (nn_ _) rfl (rf_of rfl) (Nat.le_of_ble_eq_true rfl) (Nat.le_of_ble_eq_true rfl) (Nat.le_of_ble_eq_true rfl) rfl ?_
                              rintro U45 _ ⟨rfl, fU45, qU45⟩
                              show J_ zX11_readStatement T (po_X11_readStatement_e T a t v) 0 0 235 _ [] U45
                              refine j_blx (F := fX11) tb_X11 (nn_ _) bk_X11_readStatement_e_235 bs_X11_readStatement_e_235 hz (fun K hK => ?_)
                              refine (show po_X11_readStatement_e T a t v U45 (none) from ?_)
                              have e46 : U45 111 0 57 = U38 111 0 57 := fU45 111 0 57 rfl
                              refine ⟨rfl, fr_t (fr_t (fr_t (fr_u (fr_0 _ _) hU15 rfl) (fr_s fU32 rfl)) (fr_s fU38 rfl)) (fr_s fU45 rfl), Or.inl ⟨by omega, ?_⟩⟩
                              rw [show U45 111 0 62 = 2 by omega, show U45 111 0 63 = U38 111 0 59 by omega]
                              exact st.trans (bn9_l (smf9_2 hkb (by omega) (by omega) (by omega)))
                      · refine iy_i (by omega) (by omega) ?_
                        refine x_nm (fun U47 hU47 => ?_)
                        have e48 := up_f hU47
                        refine hK 200 _ [] U47 ?_
                        have e49 : U47 111 0 57 = T 111 0 57 := (up_k hU47 (by exact Nat.ne_of_beq_eq_false rfl) 0 57).trans (up_k hU15 (by exact Nat.ne_of_beq_eq_false rfl) 0 57)
                        have e50 : U47 111 0 62 = T 111 0 62 := (up_k hU47 (by exact Nat.ne_of_beq_eq_false rfl) 0 62).trans (up_k hU15 (by exact Nat.ne_of_beq_eq_false rfl) 0 62)
                        have e51 : U47 111 0 63 = T 111 0 63 := (up_k hU47 (by exact Nat.ne_of_beq_eq_false rfl) 0 63).trans (up_k hU15 (by exact Nat.ne_of_beq_eq_false rfl) 0 63)
                        have e52 : U47 111 0 1 = T 111 0 1 := (up_k hU47 (by exact Nat.ne_of_beq_eq_false rfl) 0 1).trans (up_k hU15 (by exact Nat.ne_of_beq_eq_false rfl) 0 1)
                        have hbo : bdf9_ (cl9_ (T 111 0 1) (fun j => T 200 0 j)) (T 111 0 1) (T 111 0 60) x5 v = Sum.inr (U47 111 0 57, u9_ v 5 1) := by
                          rw [show U47 111 0 57 = T 111 0 60 by omega]
                          exact bdf9_3 (by omega)
                        have hvr : VR9_ U47 (u9_ v 5 1) := VR9_u vr0 (fun j hj => up_g hU47 (fun z => hj z.2.2)) (up_f hU47)
                        refine j_blx (F := fX11) tb_X11 (nn_ _) bk_X11_readStatement_e_200 bs_X11_readStatement_e_200 hz (fun K hK => ?_)
                        intro b53 b53b
                        have e54 : U47 111 0 62 = T 111 0 62 := (up_k hU47 (by exact Nat.ne_of_beq_eq_false rfl) 0 62).trans (up_k hU15 (by exact Nat.ne_of_beq_eq_false rfl) 0 62)
                        rw [e54] at b53 b53b ⊢
                        refine And.intro (fun c55 => ?_) (fun c55 => ?_)
                        · exfalso; omega
                        · have st := (stf9_b hwi hx0 (by omega)).trans (bn9_r hbo)
                          refine hK 208 _ [vR 111 0] U47 ?_
                          have e56 : U47 111 0 57 = T 111 0 57 := (up_k hU47 (by exact Nat.ne_of_beq_eq_false rfl) 0 57).trans (up_k hU15 (by exact Nat.ne_of_beq_eq_false rfl) 0 57)
                          have e57 : U47 111 0 1 = T 111 0 1 := (up_k hU47 (by exact Nat.ne_of_beq_eq_false rfl) 0 1).trans (up_k hU15 (by exact Nat.ne_of_beq_eq_false rfl) 0 1)
                          have e58 : U47 111 0 62 = T 111 0 62 := (up_k hU47 (by exact Nat.ne_of_beq_eq_false rfl) 0 62).trans (up_k hU15 (by exact Nat.ne_of_beq_eq_false rfl) 0 62)
                          refine j_callV (y := yX11_take) (Yc := zX11_take) (rest := []) [] (ct_X11_take_e (T := U47) (by omega) (by omega)) cl_X11_291 (qd_c (by decide +kernel)) (nn_ _) rfl (rf_of rfl) (Nat.le_of_ble_eq_true rfl) (Nat.le_of_ble_eq_true rfl) (Nat.le_of_ble_eq_true rfl) rfl ?_
                          rintro U59 _ ⟨rfl, fU59, qU59⟩
                          show J_ zX11_readStatement T (po_X11_readStatement_e T a t v) 0 0 211 _ [] U59
                          have qkb := qU59
                          have fb60 : fr_ [(204, []), (269, [])] T U47 := fr_u (fr_u (fr_0 _ _) hU15 rfl) hU47 rfl
                          rw [show (fun j => U47 200 0 j) = fun j => T 200 0 j from funext fun j => fb60 200 0 j rfl, show U47 111 0 1 = T 111 0 1 from fb60 111 0 1 rfl] at qkb
                          obtain ⟨qab, eb, kb, hkb, hqb⟩ := qkb
                          have trb := tk9_r hkb
                          have tab := TA9_f ta (show fr_ [(111, [57, 58, 59, 60, 61, 62, 63]), (204, [])] U15 U59 from fr_t (fr_u (fr_0 _ _) hU47 rfl) (fr_s fU59 rfl)) (fun _ => rfl)
                          have vrb := VR9_f hvr fU59 (fun _ => rfl)
                          refine j_blx (F := fX11) tb_X11 (nn_ _) bk_X11_readStatement_e_211 bs_X11_readStatement_e_211 hz (fun K hK => ?_)
                          intro b61 b61b
                          refine And.intro (fun c62 => ?_) (fun c62 => ?_)
                          · refine hK 235 _ [] U59 ?_
                            refine j_blx (F := fX11) tb_X11 (nn_ _) bk_X11_readStatement_e_235 bs_X11_readStatement_e_235 hz (fun K hK => ?_)
                            refine (show po_X11_readStatement_e T a t v U59 (none) from ?_)
                            refine ⟨rfl, fr_t (fr_u (fr_u (fr_0 _ _) hU15 rfl) hU47 rfl) (fr_s fU59 rfl), Or.inl ⟨by omega, ?_⟩⟩
                            rw [show U59 111 0 62 = 1 by omega, show U59 111 0 63 = U59 111 0 59 by omega]
                            exact st.trans (bn9_l (smf9_1 hkb (by omega) (by omega)))
                          · intro b63 b63b
                            refine And.intro (fun c64 => ?_) (fun c64 => ?_)
                            · refine hK 235 _ [] U59 ?_
                              refine j_blx (F := fX11) tb_X11 (nn_ _) bk_X11_readStatement_e_235 bs_X11_readStatement_e_235 hz (fun K hK => ?_)
                              refine (show po_X11_readStatement_e T a t v U59 (none) from ?_)
                              refine ⟨rfl, fr_t (fr_u (fr_u (fr_0 _ _) hU15 rfl) hU47 rfl) (fr_s fU59 rfl), Or.inr ⟨by omega, ⟨u9_ t x5 1, u9_ v 5 1, ?_, tab, vrb⟩, by omega, by omega, by omega⟩⟩
                              rw [show U59 111 0 57 = eb by omega]
                              exact st.trans (bn9_r (smf9_0 hkb (by omega) (by omega)))
                            · intro b65 b65b
                              refine hK 232 _ [vI (U59 111 0 59), vI 2, vR 111 0] U59 ?_
                              refine j_callV (y := yX11_bad) (Yc := zX11_bad) (rest := []) [vI 2, vI (U59 111 0 59)] (ct_X11_bad_e (T := U59) (by omega) (by omega)) cl_X11_281 (qd_c (by decide +kernel)) (nn_ _) rfl (rf_of rfl) (Nat.le_of_ble_eq_true rfl) (Nat.le_of_ble_eq_true rfl) (Nat.le_of_ble_eq_true rfl) rfl ?_
                              rintro U66 _ ⟨rfl, fU66, qU66⟩
                              show J_ zX11_readStatement T (po_X11_readStatement_e T a t v) 0 0 235 _ [] U66
                              refine j_blx (F := fX11) tb_X11 (nn_ _) bk_X11_readStatement_e_235 bs_X11_readStatement_e_235 hz (fun K hK => ?_)
                              refine (show po_X11_readStatement_e T a t v U66 (none) from ?_)
                              have e67 : U66 111 0 57 = U59 111 0 57 := fU66 111 0 57 rfl
                              refine ⟨rfl, fr_t (fr_t (fr_u (fr_u (fr_0 _ _) hU15 rfl) hU47 rfl) (fr_s fU59 rfl)) (fr_s fU66 rfl), Or.inl ⟨by omega, ?_⟩⟩
                              rw [show U66 111 0 62 = 2 by omega, show U66 111 0 63 = U59 111 0 59 by omega]
                              exact st.trans (bn9_l (smf9_2 hkb (by omega) (by omega) (by omega)))
                    · refine hK 129 _ [vI 1, vI 9, vI 0, vR 111 0] U15 ?_
                      have e68 : U15 111 0 57 = T 111 0 57 := up_k hU15 (by exact Nat.ne_of_beq_eq_false rfl) 0 57
                      have e69 : U15 111 0 1 = T 111 0 1 := up_k hU15 (by exact Nat.ne_of_beq_eq_false rfl) 0 1
                      have e70 : U15 111 0 62 = T 111 0 62 := up_k hU15 (by exact Nat.ne_of_beq_eq_false rfl) 0 62
                      refine j_callV (y := yX11_wantNumber) (Yc := zX11_wantNumber) (rest := []) [vI 0, vI 9, vI 1] (ct_X11_wantNumber_e (T := U15) (by omega) (by omega) (by omega)) cl_X11_304 (qd_c (by decide +kernel)) (nn_ _) rfl (rf_of rfl) (Nat.le_of_ble_eq_true rfl) (Nat.le_of_ble_eq_true rfl) (Nat.le_of_ble_eq_true rfl) rfl ?_
                      rintro U71 _ ⟨rfl, fU71, qU71, oU71⟩
                      show J_ zX11_readStatement T (po_X11_readStatement_e T a t v) 0 0 132 _ [] U71
                      refine j_blx (F := fX11) tb_X11 (nn_ _) bk_X11_readStatement_e_132 bs_X11_readStatement_e_132 hz (fun K hK => ?_)
                      refine ix_i (by omega) ?_
                      intro b72 b72b
                      refine hK 141 _ [vI 2, vI (U71 204 0 1), vI 0, vR 111 0] U71 ?_
                      have e73 : U71 111 0 1 = T 111 0 1 := (fU71 111 0 1 rfl).trans (up_k hU15 (by exact Nat.ne_of_beq_eq_false rfl) 0 1)
                      refine j_callV (y := yX11_wantNumber) (Yc := zX11_wantNumber) (rest := []) [vI 0, vI (U71 204 0 1), vI 2] (ct_X11_wantNumber_e (T := U71) (by omega) (by omega) (by omega)) cl_X11_304 (qd_c (by decide +kernel)) (nn_ _) rfl (rf_of rfl) (Nat.le_of_ble_eq_true rfl) (Nat.le_of_ble_eq_true rfl) (Nat.le_of_ble_eq_true rfl) rfl ?_
                      rintro U74 _ ⟨rfl, fU74, qU74, oU74⟩
                      show J_ zX11_readStatement T (po_X11_readStatement_e T a t v) 0 0 144 _ [] U74
                      refine j_blx (F := fX11) tb_X11 (nn_ _) bk_X11_readStatement_e_144 bs_X11_readStatement_e_144 hz (fun K hK => ?_)
                      refine ix_i (by omega) ?_
                      intro b75 b75b
                      refine hK 153 _ [vI 3, vI (U74 204 0 2), vI 0, vR 111 0] U74 ?_
                      have e76 : U74 111 0 1 = T 111 0 1 := (fU74 111 0 1 rfl).trans ((fU71 111 0 1 rfl).trans (up_k hU15 (by exact Nat.ne_of_beq_eq_false rfl) 0 1))
                      refine j_callV (y := yX11_wantNumber) (Yc := zX11_wantNumber) (rest := []) [vI 0, vI (U74 204 0 2), vI 3] (ct_X11_wantNumber_e (T := U74) (by omega) (by omega) (by omega)) cl_X11_304 (qd_c (by decide +kernel)) (nn_ _) rfl (rf_of rfl) (Nat.le_of_ble_eq_true rfl) (Nat.le_of_ble_eq_true rfl) (Nat.le_of_ble_eq_true rfl) rfl ?_
                      rintro U77 _ ⟨rfl, fU77, qU77, oU77⟩
                      show J_ zX11_readStatement T (po_X11_readStatement_e T a t v) 0 0 156 _ [] U77
                      refine j_blx (F := fX11) tb_X11 (nn_ _) bk_X11_readStatement_e_156 bs_X11_readStatement_e_156 hz (fun K hK => ?_)
                      refine hK 200 _ [] U77 ?_
                      have q1 := qU71
                      have fb78 : fr_ [(269, [])] T U15 := fr_u (fr_0 _ _) hU15 rfl
                      rw [show (fun j => U15 200 0 j) = fun j => T 200 0 j from funext fun j => fb78 200 0 j rfl, show U15 111 0 1 = T 111 0 1 from fb78 111 0 1 rfl] at q1
                      rw [show U15 111 0 57 = T 111 0 60 by omega] at q1
                      have q2 := qU74
                      have fb79 : fr_ [(111, [57, 58, 59, 60, 61, 62, 63]), (204, []), (269, [])] T U71 := fr_t (fr_u (fr_0 _ _) hU15 rfl) (fr_s fU71 rfl)
                      rw [show (fun j => U71 200 0 j) = fun j => T 200 0 j from funext fun j => fb79 200 0 j rfl, show U71 111 0 1 = T 111 0 1 from fb79 111 0 1 rfl] at q2
                      have q3 := qU77
                      have fb80 : fr_ [(111, [57, 58, 59, 60, 61, 62, 63]), (204, []), (269, [])] T U74 := fr_t (fr_t (fr_u (fr_0 _ _) hU15 rfl) (fr_s fU71 rfl)) (fr_s fU74 rfl)
                      rw [show (fun j => U74 200 0 j) = fun j => T 200 0 j from funext fun j => fb80 200 0 j rfl, show U74 111 0 1 = T 111 0 1 from fb80 111 0 1 rfl] at q3
                      have hq := pnf9_h (show U15 111 0 62 = 0 by omega) q1 q2 q3
                      have hvr : VR9_ U77 (u9_ (u9_ (u9_ v 1 (U71 204 0 1)) 2 (U74 204 0 2)) 3 (U77 204 0 3)) := VR9_u (VR9_u (VR9_u vr0 oU71 rfl) oU74 rfl) oU77 rfl
                      have hbz : U77 111 0 62 ≠ 0 → bdf9_ (cl9_ (T 111 0 1) (fun j => T 200 0 j)) (T 111 0 1) (T 111 0 60) x5 v = Sum.inl (U77 111 0 62, U77 111 0 63) := fun z => (bdf9_1 (by omega)).trans (bn9_l (hq.resolve_right (fun y => by omega)).2)
                      have hbo0 : U77 111 0 62 = 0 → bdf9_ (cl9_ (T 111 0 1) (fun j => T 200 0 j)) (T 111 0 1) (T 111 0 60) x5 v = Sum.inr (U77 111 0 57, u9_ (u9_ (u9_ v 1 (U71 204 0 1)) 2 (U74 204 0 2)) 3 (U77 204 0 3)) := fun z => (bdf9_1 (by omega)).trans (bn9_r (hq.resolve_left (fun y => by omega)).2.1)
                      have hbb : U77 111 0 62 = 0 → U77 111 0 63 = T 111 0 63 ∧ T 111 0 60 ≤ U77 111 0 57 ∧ U77 111 0 57 ≤ T 111 0 1 := fun z => by have y := (hq.resolve_left (fun y => by omega)).2.2; omega
                      have e81 : U77 111 0 1 = T 111 0 1 := (fU77 111 0 1 rfl).trans ((fU74 111 0 1 rfl).trans ((fU71 111 0 1 rfl).trans (up_k hU15 (by exact Nat.ne_of_beq_eq_false rfl) 0 1)))
                      refine j_blx (F := fX11) tb_X11 (nn_ _) bk_X11_readStatement_e_200 bs_X11_readStatement_e_200 hz (fun K hK => ?_)
                      intro b82 b82b
                      refine And.intro (fun c83 => ?_) (fun c83 => ?_)
                      · refine hK 235 _ [] U77 ?_
                        refine j_blx (F := fX11) tb_X11 (nn_ _) bk_X11_readStatement_e_235 bs_X11_readStatement_e_235 hz (fun K hK => ?_)
                        refine (show po_X11_readStatement_e T a t v U77 (none) from ?_)
                        exact ⟨rfl, fr_t (fr_t (fr_t (fr_u (fr_0 _ _) hU15 rfl) (fr_s fU71 rfl)) (fr_s fU74 rfl)) (fr_s fU77 rfl), Or.inl ⟨by omega, (stf9_b hwi hx0 (by omega)).trans (bn9_l (hbz (by omega)))⟩⟩
                      · have hbo := hbo0 (by omega)
                        have hb1 := hbb (by omega)
                        have st := (stf9_b hwi hx0 (by omega)).trans (bn9_r hbo)
                        refine hK 208 _ [vR 111 0] U77 ?_
                        have e84 : U77 111 0 1 = T 111 0 1 := (fU77 111 0 1 rfl).trans ((fU74 111 0 1 rfl).trans ((fU71 111 0 1 rfl).trans (up_k hU15 (by exact Nat.ne_of_beq_eq_false rfl) 0 1)))
                        refine j_callV (y := yX11_take) (Yc := zX11_take) (rest := []) [] (ct_X11_take_e (T := U77) (by omega) (by omega)) cl_X11_291 (qd_c (by decide +kernel)) (nn_ _) rfl (rf_of rfl) (Nat.le_of_ble_eq_true rfl) (Nat.le_of_ble_eq_true rfl) (Nat.le_of_ble_eq_true rfl) rfl ?_
                        rintro U85 _ ⟨rfl, fU85, qU85⟩
                        show J_ zX11_readStatement T (po_X11_readStatement_e T a t v) 0 0 211 _ [] U85
                        have qkb := qU85
                        have fb86 : fr_ [(111, [57, 58, 59, 60, 61, 62, 63]), (204, []), (269, [])] T U77 := fr_t (fr_t (fr_t (fr_u (fr_0 _ _) hU15 rfl) (fr_s fU71 rfl)) (fr_s fU74 rfl)) (fr_s fU77 rfl)
                        rw [show (fun j => U77 200 0 j) = fun j => T 200 0 j from funext fun j => fb86 200 0 j rfl, show U77 111 0 1 = T 111 0 1 from fb86 111 0 1 rfl] at qkb
                        obtain ⟨qab, eb, kb, hkb, hqb⟩ := qkb
                        have trb := tk9_r hkb
                        have tab := TA9_f ta (show fr_ [(111, [57, 58, 59, 60, 61, 62, 63]), (204, [])] U15 U85 from fr_t (fr_t (fr_t (fr_t (fr_0 _ _) (fr_s fU71 rfl)) (fr_s fU74 rfl)) (fr_s fU77 rfl)) (fr_s fU85 rfl)) (fun _ => rfl)
                        have vrb := VR9_f hvr fU85 (fun _ => rfl)
                        refine j_blx (F := fX11) tb_X11 (nn_ _) bk_X11_readStatement_e_211 bs_X11_readStatement_e_211 hz (fun K hK => ?_)
                        intro b87 b87b
                        refine And.intro (fun c88 => ?_) (fun c88 => ?_)
                        · refine hK 235 _ [] U85 ?_
                          refine j_blx (F := fX11) tb_X11 (nn_ _) bk_X11_readStatement_e_235 bs_X11_readStatement_e_235 hz (fun K hK => ?_)
                          refine (show po_X11_readStatement_e T a t v U85 (none) from ?_)
                          refine ⟨rfl, fr_t (fr_t (fr_t (fr_t (fr_u (fr_0 _ _) hU15 rfl) (fr_s fU71 rfl)) (fr_s fU74 rfl)) (fr_s fU77 rfl)) (fr_s fU85 rfl), Or.inl ⟨by omega, ?_⟩⟩
                          rw [show U85 111 0 62 = 1 by omega, show U85 111 0 63 = U85 111 0 59 by omega]
                          exact st.trans (bn9_l (smf9_1 hkb (by omega) (by omega)))
                        · intro b89 b89b
                          refine And.intro (fun c90 => ?_) (fun c90 => ?_)
                          · refine hK 235 _ [] U85 ?_
                            refine j_blx (F := fX11) tb_X11 (nn_ _) bk_X11_readStatement_e_235 bs_X11_readStatement_e_235 hz (fun K hK => ?_)
                            refine (show po_X11_readStatement_e T a t v U85 (none) from ?_)
                            refine ⟨rfl, fr_t (fr_t (fr_t (fr_t (fr_u (fr_0 _ _) hU15 rfl) (fr_s fU71 rfl)) (fr_s fU74 rfl)) (fr_s fU77 rfl)) (fr_s fU85 rfl), Or.inr ⟨by omega, ⟨u9_ t x5 1, u9_ (u9_ (u9_ v 1 (U71 204 0 1)) 2 (U74 204 0 2)) 3 (U77 204 0 3), ?_, tab, vrb⟩, by omega, by omega, by omega⟩⟩
                            rw [show U85 111 0 57 = eb by omega]
                            exact st.trans (bn9_r (smf9_0 hkb (by omega) (by omega)))
                          · intro b91 b91b
                            refine hK 232 _ [vI (U85 111 0 59), vI 2, vR 111 0] U85 ?_
                            refine j_callV (y := yX11_bad) (Yc := zX11_bad) (rest := []) [vI 2, vI (U85 111 0 59)] (ct_X11_bad_e (T := U85) (by omega) (by omega)) cl_X11_281 (qd_c (by decide +kernel)) (nn_ _) rfl (rf_of rfl) (Nat.le_of_ble_eq_true rfl) (Nat.le_of_ble_eq_true rfl) (Nat.le_of_ble_eq_true rfl) rfl ?_
                            rintro U92 _ ⟨rfl, fU92, qU92⟩
                            show J_ zX11_readStatement T (po_X11_readStatement_e T a t v) 0 0 235 _ [] U92
                            refine j_blx (F := fX11) tb_X11 (nn_ _) bk_X11_readStatement_e_235 bs_X11_readStatement_e_235 hz (fun K hK => ?_)
                            refine (show po_X11_readStatement_e T a t v U92 (none) from ?_)
                            have e93 : U92 111 0 57 = U85 111 0 57 := fU92 111 0 57 rfl
                            refine ⟨rfl, fr_t (fr_t (fr_t (fr_t (fr_t (fr_u (fr_0 _ _) hU15 rfl) (fr_s fU71 rfl)) (fr_s fU74 rfl)) (fr_s fU77 rfl)) (fr_s fU85 rfl)) (fr_s fU92 rfl), Or.inl ⟨by omega, ?_⟩⟩
                            rw [show U92 111 0 62 = 2 by omega, show U92 111 0 63 = U85 111 0 59 by omega]
                            exact st.trans (bn9_l (smf9_2 hkb (by omega) (by omega) (by omega)))
                  · refine hK 113 _ [vR 111 0] U15 ?_
                    have e94 : U15 111 0 57 = T 111 0 57 := up_k hU15 (by exact Nat.ne_of_beq_eq_false rfl) 0 57
                    have e95 : U15 111 0 1 = T 111 0 1 := up_k hU15 (by exact Nat.ne_of_beq_eq_false rfl) 0 1
                    have e96 : U15 111 0 62 = T 111 0 62 := up_k hU15 (by exact Nat.ne_of_beq_eq_false rfl) 0 62
                    refine j_callV (y := yX11_readSport) (Yc := zX11_readSport) (rest := []) [] (ct_X11_readSport_e (T := U15) (by omega) (by omega) (by exact CX_f (ws := [(269, [])]) hC (fr_u (fr_0 _ _) hU15 rfl) ⟨fun _ => rfl, fun _ => rfl, fun _ => rfl, fun _ => rfl, fun _ => rfl, trivial⟩)) cl_X11_301 (qd_c (by decide +kernel)) (nn_ _) rfl (rf_of rfl) (Nat.le_of_ble_eq_true rfl) (Nat.le_of_ble_eq_true rfl) (Nat.le_of_ble_eq_true rfl) rfl ?_
                    rintro U97 _ ⟨rfl, fU97, qU97, oU97⟩
                    show J_ zX11_readStatement T (po_X11_readStatement_e T a t v) 0 0 116 _ [] U97
                    refine j_blx (F := fX11) tb_X11 (nn_ _) bk_X11_readStatement_e_116 bs_X11_readStatement_e_116 hz (fun K hK => ?_)
                    refine hK 200 _ [] U97 ?_
                    have hq := qU97
                    have fb98 : fr_ [(269, [])] T U15 := fr_u (fr_0 _ _) hU15 rfl
                    rw [show (fun j => U15 200 0 j) = fun j => T 200 0 j from funext fun j => fb98 200 0 j rfl, show U15 111 0 1 = T 111 0 1 from fb98 111 0 1 rfl] at hq
                    rw [show U15 111 0 57 = T 111 0 60 by omega] at hq
                    have hvr : VR9_ U97 (u9_ v 0 (U97 204 0 0)) := VR9_u vr0 oU97 rfl
                    have hbz : U97 111 0 62 ≠ 0 → bdf9_ (cl9_ (T 111 0 1) (fun j => T 200 0 j)) (T 111 0 1) (T 111 0 60) x5 v = Sum.inl (U97 111 0 62, U97 111 0 63) := fun z => (bdf9_0 (by omega)).trans (bn9_l (hq.resolve_right (fun y => by omega)).2)
                    have hbo0 : U97 111 0 62 = 0 → bdf9_ (cl9_ (T 111 0 1) (fun j => T 200 0 j)) (T 111 0 1) (T 111 0 60) x5 v = Sum.inr (U97 111 0 57, u9_ v 0 (U97 204 0 0)) := fun z => (bdf9_0 (by omega)).trans (bn9_r (hq.resolve_left (fun y => by omega)).2.1)
                    have hbb : U97 111 0 62 = 0 → U97 111 0 63 = T 111 0 63 ∧ T 111 0 60 ≤ U97 111 0 57 ∧ U97 111 0 57 ≤ T 111 0 1 := fun z => by have y := (hq.resolve_left (fun y => by omega)).2.2; omega
                    have e99 : U97 111 0 1 = T 111 0 1 := (fU97 111 0 1 rfl).trans (up_k hU15 (by exact Nat.ne_of_beq_eq_false rfl) 0 1)
                    refine j_blx (F := fX11) tb_X11 (nn_ _) bk_X11_readStatement_e_200 bs_X11_readStatement_e_200 hz (fun K hK => ?_)
                    intro b100 b100b
                    refine And.intro (fun c101 => ?_) (fun c101 => ?_)
                    · refine hK 235 _ [] U97 ?_
                      refine j_blx (F := fX11) tb_X11 (nn_ _) bk_X11_readStatement_e_235 bs_X11_readStatement_e_235 hz (fun K hK => ?_)
                      refine (show po_X11_readStatement_e T a t v U97 (none) from ?_)
                      exact ⟨rfl, fr_t (fr_u (fr_0 _ _) hU15 rfl) (fr_s fU97 rfl), Or.inl ⟨by omega, (stf9_b hwi hx0 (by omega)).trans (bn9_l (hbz (by omega)))⟩⟩
                    · have hbo := hbo0 (by omega)
                      have hb1 := hbb (by omega)
                      have st := (stf9_b hwi hx0 (by omega)).trans (bn9_r hbo)
                      refine hK 208 _ [vR 111 0] U97 ?_
                      have e102 : U97 111 0 1 = T 111 0 1 := (fU97 111 0 1 rfl).trans (up_k hU15 (by exact Nat.ne_of_beq_eq_false rfl) 0 1)
                      refine j_callV (y := yX11_take) (Yc := zX11_take) (rest := []) [] (ct_X11_take_e (T := U97) (by omega) (by omega)) cl_X11_291 (qd_c (by decide +kernel)) (nn_ _) rfl (rf_of rfl) (Nat.le_of_ble_eq_true rfl) (Nat.le_of_ble_eq_true rfl) (Nat.le_of_ble_eq_true rfl) rfl ?_
                      rintro U103 _ ⟨rfl, fU103, qU103⟩
                      show J_ zX11_readStatement T (po_X11_readStatement_e T a t v) 0 0 211 _ [] U103
                      have qkb := qU103
                      have fb104 : fr_ [(111, [57, 58, 59, 60, 61, 62, 63]), (204, []), (269, [])] T U97 := fr_t (fr_u (fr_0 _ _) hU15 rfl) (fr_s fU97 rfl)
                      rw [show (fun j => U97 200 0 j) = fun j => T 200 0 j from funext fun j => fb104 200 0 j rfl, show U97 111 0 1 = T 111 0 1 from fb104 111 0 1 rfl] at qkb
                      obtain ⟨qab, eb, kb, hkb, hqb⟩ := qkb
                      have trb := tk9_r hkb
                      have tab := TA9_f ta (show fr_ [(111, [57, 58, 59, 60, 61, 62, 63]), (204, [])] U15 U103 from fr_t (fr_t (fr_0 _ _) (fr_s fU97 rfl)) (fr_s fU103 rfl)) (fun _ => rfl)
                      have vrb := VR9_f hvr fU103 (fun _ => rfl)
                      refine j_blx (F := fX11) tb_X11 (nn_ _) bk_X11_readStatement_e_211 bs_X11_readStatement_e_211 hz (fun K hK => ?_)
                      intro b105 b105b
                      refine And.intro (fun c106 => ?_) (fun c106 => ?_)
                      · refine hK 235 _ [] U103 ?_
                        refine j_blx (F := fX11) tb_X11 (nn_ _) bk_X11_readStatement_e_235 bs_X11_readStatement_e_235 hz (fun K hK => ?_)
                        refine (show po_X11_readStatement_e T a t v U103 (none) from ?_)
                        refine ⟨rfl, fr_t (fr_t (fr_u (fr_0 _ _) hU15 rfl) (fr_s fU97 rfl)) (fr_s fU103 rfl), Or.inl ⟨by omega, ?_⟩⟩
                        rw [show U103 111 0 62 = 1 by omega, show U103 111 0 63 = U103 111 0 59 by omega]
                        exact st.trans (bn9_l (smf9_1 hkb (by omega) (by omega)))
                      · intro b107 b107b
                        refine And.intro (fun c108 => ?_) (fun c108 => ?_)
                        · refine hK 235 _ [] U103 ?_
                          refine j_blx (F := fX11) tb_X11 (nn_ _) bk_X11_readStatement_e_235 bs_X11_readStatement_e_235 hz (fun K hK => ?_)
                          refine (show po_X11_readStatement_e T a t v U103 (none) from ?_)
                          refine ⟨rfl, fr_t (fr_t (fr_u (fr_0 _ _) hU15 rfl) (fr_s fU97 rfl)) (fr_s fU103 rfl), Or.inr ⟨by omega, ⟨u9_ t x5 1, u9_ v 0 (U97 204 0 0), ?_, tab, vrb⟩, by omega, by omega, by omega⟩⟩
                          rw [show U103 111 0 57 = eb by omega]
                          exact st.trans (bn9_r (smf9_0 hkb (by omega) (by omega)))
                        · intro b109 b109b
                          refine hK 232 _ [vI (U103 111 0 59), vI 2, vR 111 0] U103 ?_
                          refine j_callV (y := yX11_bad) (Yc := zX11_bad) (rest := []) [vI 2, vI (U103 111 0 59)] (ct_X11_bad_e (T := U103) (by omega) (by omega)) cl_X11_281 (qd_c (by decide +kernel)) (nn_ _) rfl (rf_of rfl) (Nat.le_of_ble_eq_true rfl) (Nat.le_of_ble_eq_true rfl) (Nat.le_of_ble_eq_true rfl) rfl ?_
                          rintro U110 _ ⟨rfl, fU110, qU110⟩
                          show J_ zX11_readStatement T (po_X11_readStatement_e T a t v) 0 0 235 _ [] U110
                          refine j_blx (F := fX11) tb_X11 (nn_ _) bk_X11_readStatement_e_235 bs_X11_readStatement_e_235 hz (fun K hK => ?_)
                          refine (show po_X11_readStatement_e T a t v U110 (none) from ?_)
                          have e111 : U110 111 0 57 = U103 111 0 57 := fU110 111 0 57 rfl
                          refine ⟨rfl, fr_t (fr_t (fr_t (fr_u (fr_0 _ _) hU15 rfl) (fr_s fU97 rfl)) (fr_s fU103 rfl)) (fr_s fU110 rfl), Or.inl ⟨by omega, ?_⟩⟩
                          rw [show U110 111 0 62 = 2 by omega, show U110 111 0 63 = U103 111 0 59 by omega]
                          exact st.trans (bn9_l (smf9_2 hkb (by omega) (by omega) (by omega)))
                · refine hK 104 _ [vR 111 0] U15 ?_
                  have e112 : U15 111 0 57 = T 111 0 57 := up_k hU15 (by exact Nat.ne_of_beq_eq_false rfl) 0 57
                  have e113 : U15 111 0 1 = T 111 0 1 := up_k hU15 (by exact Nat.ne_of_beq_eq_false rfl) 0 1
                  have e114 : U15 111 0 62 = T 111 0 62 := up_k hU15 (by exact Nat.ne_of_beq_eq_false rfl) 0 62
                  refine j_callV (y := yX11_readOrder) (Yc := zX11_readOrder) (rest := []) [] (ct_X11_readOrder_e (T := U15) (v := v) (by omega) (by omega) (by exact CX_f (ws := [(269, [])]) hC (fr_u (fr_0 _ _) hU15 rfl) ⟨fun _ => rfl, fun _ => rfl, fun _ => rfl, fun _ => rfl, fun _ => rfl, trivial⟩) (VR9_f hv (show fr_ [(269, [])] T U15 from fr_u (fr_0 _ _) hU15 rfl) (fun _ => rfl))) cl_X11_298 (qd_c (by decide +kernel)) (nn_ _) rfl (rf_of rfl) (Nat.le_of_ble_eq_true rfl) (Nat.le_of_ble_eq_true rfl) (Nat.le_of_ble_eq_true rfl) rfl ?_
                  rintro U115 _ ⟨rfl, fU115, qU115⟩
                  show J_ zX11_readStatement T (po_X11_readStatement_e T a t v) 0 0 107 _ [] U115
                  refine j_blx (F := fX11) tb_X11 (nn_ _) bk_X11_readStatement_e_107 bs_X11_readStatement_e_107 hz (fun K hK => ?_)
                  refine (show po_X11_readStatement_e T a t v U115 (none) from ?_)
                  have hq := qU115
                  have fb116 : fr_ [(269, [])] T U15 := fr_u (fr_0 _ _) hU15 rfl
                  rw [show (fun j => U15 200 0 j) = fun j => T 200 0 j from funext fun j => fb116 200 0 j rfl, show U15 111 0 1 = T 111 0 1 from fb116 111 0 1 rfl] at hq
                  rw [show U15 111 0 57 = T 111 0 60 by omega] at hq
                  rcases hq with ⟨z1, z2⟩ | ⟨z1, ⟨v9, z2, z3⟩, z4⟩
                  · exact ⟨rfl, fr_t (fr_u (fr_0 _ _) hU15 rfl) (fr_s fU115 rfl), Or.inl ⟨z1, (stf9_o hwi hx0 (by omega)).trans (bn9_l z2)⟩⟩
                  · exact ⟨rfl, fr_t (fr_u (fr_0 _ _) hU15 rfl) (fr_s fU115 rfl), Or.inr ⟨z1, ⟨u9_ t x5 1, v9, (stf9_o hwi hx0 (by omega)).trans (bn9_r z2), TA9_f ta fU115 (fun _ => rfl), z3⟩, by omega, by omega, by omega⟩⟩
              · exfalso; omega
            · have hx1 : t x5 ≠ 0 := by omega
              intro b117 b117b
              refine hK 80 _ [vI (T 111 0 59), vI 5, vR 111 0] T ?_
              refine j_callV (y := yX11_bad) (Yc := zX11_bad) (rest := []) [vI 5, vI (T 111 0 59)] (ct_X11_bad_e (T := T) (by omega) (by omega)) cl_X11_281 (qd_c (by decide +kernel)) (nn_ _) rfl (rf_of rfl) (Nat.le_of_ble_eq_true rfl) (Nat.le_of_ble_eq_true rfl) (Nat.le_of_ble_eq_true rfl) rfl ?_
              rintro U118 _ ⟨rfl, fU118, qU118⟩
              show J_ zX11_readStatement T (po_X11_readStatement_e T a t v) 0 0 83 _ [] U118
              refine j_blx (F := fX11) tb_X11 (nn_ _) bk_X11_readStatement_e_83 bs_X11_readStatement_e_83 hz (fun K hK => ?_)
              intro b119 b119b
              refine And.intro (fun c120 => ?_) (fun c120 => ?_)
              · exfalso; omega
              · refine (show po_X11_readStatement_e T a t v U118 (none) from ?_)
                have e121 : U118 111 0 57 = T 111 0 57 := fU118 111 0 57 rfl
                refine ⟨rfl, fr_t (fr_0 _ _) (fr_s fU118 rfl), Or.inl ⟨by omega, ?_⟩⟩
                rw [show U118 111 0 62 = 5 by omega, show U118 111 0 63 = T 111 0 59 by omega]
                exact stf9_5 hwi hk h0 hx1
        · have hwn := wx5
          have ew : x5 = -1 := by omega
          rw [ew] at hwn
          intro b122 b122b
          refine hK 55 _ [vI (T 111 0 59), vI 3, vR 111 0] T ?_
          refine j_callV (y := yX11_bad) (Yc := zX11_bad) (rest := []) [vI 3, vI (T 111 0 59)] (ct_X11_bad_e (T := T) (by omega) (by omega)) cl_X11_281 (qd_c (by decide +kernel)) (nn_ _) rfl (rf_of rfl) (Nat.le_of_ble_eq_true rfl) (Nat.le_of_ble_eq_true rfl) (Nat.le_of_ble_eq_true rfl) rfl ?_
          rintro U123 _ ⟨rfl, fU123, qU123⟩
          show J_ zX11_readStatement T (po_X11_readStatement_e T a t v) 0 0 58 _ [] U123
          refine j_blx (F := fX11) tb_X11 (nn_ _) bk_X11_readStatement_e_58 bs_X11_readStatement_e_58 hz (fun K hK => ?_)
          intro b124 b124b
          refine And.intro (fun c125 => ?_) (fun c125 => ?_)
          · refine hK 83 _ [] U123 ?_
            refine j_blx (F := fX11) tb_X11 (nn_ _) bk_X11_readStatement_e_83 bs_X11_readStatement_e_83 hz (fun K hK => ?_)
            intro b126 b126b
            refine And.intro (fun c127 => ?_) (fun c127 => ?_)
            · exfalso; omega
            · refine (show po_X11_readStatement_e T a t v U123 (none) from ?_)
              have e128 : U123 111 0 57 = T 111 0 57 := fU123 111 0 57 rfl
              refine ⟨rfl, fr_t (fr_0 _ _) (fr_s fU123 rfl), Or.inl ⟨by omega, ?_⟩⟩
              rw [show U123 111 0 62 = 3 by omega, show U123 111 0 63 = T 111 0 59 by omega]
              exact stf9_w (wof9_3 ds9_0 hk h0 (by omega) hwn)
          · exfalso; omega
  · intro b129 b129b
    refine hK 14 _ [vI (T 111 0 59), vI 2, vR 111 0] T ?_
    refine j_callV (y := yX11_bad) (Yc := zX11_bad) (rest := []) [vI 2, vI (T 111 0 59)] (ct_X11_bad_e (T := T) (by omega) (by omega)) cl_X11_281 (qd_c (by decide +kernel)) (nn_ _) rfl (rf_of rfl) (Nat.le_of_ble_eq_true rfl) (Nat.le_of_ble_eq_true rfl) (Nat.le_of_ble_eq_true rfl) rfl ?_
    rintro U130 _ ⟨rfl, fU130, qU130⟩
    show J_ zX11_readStatement T (po_X11_readStatement_e T a t v) 0 0 17 _ [] U130
    refine j_blx (F := fX11) tb_X11 (nn_ _) bk_X11_readStatement_e_17 bs_X11_readStatement_e_17 hz (fun K hK => ?_)
    intro b131 b131b
    refine And.intro (fun c132 => ?_) (fun c132 => ?_)
    · refine hK 35 _ [] U130 ?_
      refine j_blx (F := fX11) tb_X11 (nn_ _) bk_X11_readStatement_e_35 bs_X11_readStatement_e_35 hz (fun K hK => ?_)
      intro b133 b133b
      refine And.intro (fun c134 => ?_) (fun c134 => ?_)
      · refine hK 58 [some (vR 111 0), some (vI (-1))] [] U130 ?_
        refine j_blx (F := fX11) tb_X11 (nn_ _) bk_X11_readStatement_e_58 bs_X11_readStatement_e_58 hz (fun K hK => ?_)
        intro b135 b135b
        refine And.intro (fun c136 => ?_) (fun c136 => ?_)
        · refine hK 83 _ [] U130 ?_
          refine j_blx (F := fX11) tb_X11 (nn_ _) bk_X11_readStatement_e_83 bs_X11_readStatement_e_83 hz (fun K hK => ?_)
          intro b137 b137b
          refine And.intro (fun c138 => ?_) (fun c138 => ?_)
          · exfalso; omega
          · refine (show po_X11_readStatement_e T a t v U130 (none) from ?_)
            have e139 : U130 111 0 57 = T 111 0 57 := fU130 111 0 57 rfl
            refine ⟨rfl, fr_t (fr_0 _ _) (fr_s fU130 rfl), Or.inl ⟨by omega, ?_⟩⟩
            rw [show U130 111 0 62 = 2 by omega, show U130 111 0 63 = T 111 0 59 by omega]
            exact stf9_w (wof9_2 hk h0 (by omega) (by omega))
        · exfalso; omega
      · exfalso; omega
    · exfalso; omega
