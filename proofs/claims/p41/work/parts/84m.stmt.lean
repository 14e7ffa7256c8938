-- readStatement and read of the house
def HS9_ (r : Qr9_ (Int × (Int → Int) × (Int → Int))) (T : Zt) : Prop := ∃ t v, r = Sum.inr (T 105 0 9, t, v) ∧ BT9_ (T 105 0 6) t ∧ VH9_ T v
def HV9_ (r : Qr9_ (Int → Int)) (T : Zt) : Prop := ∃ v, r = Sum.inr v ∧ VH9_ T v
theorem dv9_i {j : Int} (g : j < 16) : dv9_ j = (sa_ 0).getD j.toNat 0 := by
  unfold dv9_
  rw [if_neg (show ¬ j = 16 by omega), if_neg (show ¬ j = 17 by omega), if_neg (show ¬ 16 ≤ j by omega)]
theorem dv9_4 : dv9_ 4 = 2 := by decide +kernel
theorem dv9_16 : dv9_ (16 + 0) = 0 := by decide +kernel
theorem dv9_17 : dv9_ (16 + 1) = 1 := by decide +kernel
theorem VH9_p {T T' : Zt} {v : Int → Int} (h : VH9_ T v) (ho : ∀ j, j ≠ 1 → j ≠ 2 → j ≠ 3 → T' 504 0 j = T 504 0 j) (hk : ∀ j, T' 505 0 j = T 505 0 j) : VH9_ T' (u9_ (u9_ (u9_ v 1 (T' 504 0 1)) 2 (T' 504 0 2)) 3 (T' 504 0 3)) := by
  refine ⟨fun j a b => ?_, fun k a b => ?_⟩
  · by_cases z3 : j = 3
    · rw [z3, u9_e]
    · rw [u9_n z3]
      by_cases z2 : j = 2
      · rw [z2, u9_e]
      · rw [u9_n z2]
        by_cases z1 : j = 1
        · rw [z1, u9_e]
        · rw [u9_n z1, ho j z1 z2 z3]
          exact h.1 j a b
  · rw [u9_n (by decide), u9_n (by decide), u9_n (by decide)] at b
    rw [u9_n (show 16 + k ≠ 3 by omega), u9_n (show 16 + k ≠ 2 by omega), u9_n (show 16 + k ≠ 1 by omega), hk k]
    exact h.2 k a b
theorem bk_X5_readStatement_e_0 : ck_ fX5 (some .boolean) cX5_readStatement 0 [.aload 0] 1 = true := qck_r (by decide) (by decide +kernel)
theorem bs_X5_readStatement_e_0 {P : Zt → Option Zv → Prop} (K : Int → Zl → List Zv → Zt → Prop) : sx_ K P [.aload 0] 1 = x_aload 0 (K 1) := ((xe_aload 0).trans (congrArg (x_aload 0) xe_nil))
theorem bk_X5_readStatement_e_6 : ck_ fX5 (some .boolean) cX5_readStatement 6 [.istore 1, .iload 1, .iconst (-1), .if_icmp .ne 14, .iconst 0, .ireturn] 14 = true := qck_r (by decide) (by decide +kernel)
theorem bs_X5_readStatement_e_6 {P : Zt → Option Zv → Prop} (K : Int → Zl → List Zv → Zt → Prop) : sx_ K P [.istore 1, .iload 1, .iconst (-1), .if_icmp .ne 14, .iconst 0, .ireturn] 14 = x_istore 1 (x_iload 1 (x_iconst (-1) (x_if_icmp .ne 14 K (x_iconst 0 (x_ireturn P))))) := ((xe_istore 1).trans (congrArg (x_istore 1) ((xe_iload 1).trans (congrArg (x_iload 1) ((xe_iconst (-1)).trans (congrArg (x_iconst (-1)) ((xe_if_icmp .ne 14).trans (congrArg (x_if_icmp .ne 14 K) ((xe_iconst 0).trans (congrArg (x_iconst 0) (xe_ireturn)))))))))))
theorem bk_X5_readStatement_e_14 : ck_ fX5 (some .boolean) cX5_readStatement 14 [.aload 0, .tableswitch 0 5 6 #[], .iload 1, .ishr, .iconst 1, .iand, .ifCond .eq 31, .aload 0, .iconst 5] 27 = true := qck_r (by decide) (by decide +kernel)
theorem bs_X5_readStatement_e_14 {P : Zt → Option Zv → Prop} (K : Int → Zl → List Zv → Zt → Prop) : sx_ K P [.aload 0, .tableswitch 0 5 6 #[], .iload 1, .ishr, .iconst 1, .iand, .ifCond .eq 31, .aload 0, .iconst 5] 27 = x_aload 0 (x_g0 105 6 (-2147483648) 2147483647 (x_iload 1 (x_ishr (x_iconst 1 (x_iand (x_ifCond .eq 31 K (x_aload 0 (x_iconst 5 (K 27))))))))) := ((xe_aload 0).trans (congrArg (x_aload 0) ((xe_g0 (kk := 105) rfl tl_5_6).trans (congrArg (x_g0 105 6 (-2147483648) 2147483647) ((xe_iload 1).trans (congrArg (x_iload 1) ((xe_ishr).trans (congrArg (x_ishr) ((xe_iconst 1).trans (congrArg (x_iconst 1) ((xe_iand).trans (congrArg (x_iand) ((xe_ifCond .eq 31).trans (congrArg (x_ifCond .eq 31 K) ((xe_aload 0).trans (congrArg (x_aload 0) ((xe_iconst 5).trans (congrArg (x_iconst 5) xe_nil))))))))))))))))))
theorem bk_X5_readStatement_e_31 : ck_ fX5 (some .boolean) cX5_readStatement 31 [.aload 0, .dup, .tableswitch 0 5 6 #[], .iconst 1, .iload 1, .ishl, .ior, .tableswitch 1 5 6 #[], .iload 1] 44 = true := qck_r (by decide) (by decide +kernel)
theorem bs_X5_readStatement_e_31 {P : Zt → Option Zv → Prop} (K : Int → Zl → List Zv → Zt → Prop) : sx_ K P [.aload 0, .dup, .tableswitch 0 5 6 #[], .iconst 1, .iload 1, .ishl, .ior, .tableswitch 1 5 6 #[], .iload 1] 44 = x_aload 0 (x_dup (x_g0 105 6 (-2147483648) 2147483647 (x_iconst 1 (x_iload 1 (x_ishl (x_ior (x_p 105 6 (-2147483648) 2147483647 (x_iload 1 (K 44))))))))) := ((xe_aload 0).trans (congrArg (x_aload 0) ((xe_dup).trans (congrArg (x_dup) ((xe_g0 (kk := 105) rfl tl_5_6).trans (congrArg (x_g0 105 6 (-2147483648) 2147483647) ((xe_iconst 1).trans (congrArg (x_iconst 1) ((xe_iload 1).trans (congrArg (x_iload 1) ((xe_ishl).trans (congrArg (x_ishl) ((xe_ior).trans (congrArg (x_ior) ((xe_p (kk := 105) rfl tl_5_6).trans (congrArg (x_p 105 6 (-2147483648) 2147483647) ((xe_iload 1).trans (congrArg (x_iload 1) xe_nil))))))))))))))))))
theorem bk_X5_readStatement_e_76 : ck_ fX5 (some .boolean) cX5_readStatement 76 [.aload 0] 77 = true := qck_r (by decide) (by decide +kernel)
theorem bs_X5_readStatement_e_76 {P : Zt → Option Zv → Prop} (K : Int → Zl → List Zv → Zt → Prop) : sx_ K P [.aload 0] 77 = x_aload 0 (K 77) := ((xe_aload 0).trans (congrArg (x_aload 0) xe_nil))
theorem bk_X5_readStatement_e_80 : ck_ fX5 (some .boolean) cX5_readStatement 80 [.istore 2, .goto 124] 84 = true := qck_r (by decide) (by decide +kernel)
theorem bs_X5_readStatement_e_80 {P : Zt → Option Zv → Prop} (K : Int → Zl → List Zv → Zt → Prop) : sx_ K P [.istore 2, .goto 124] 84 = x_istore 2 (x_goto 124 K) := ((xe_istore 2).trans (congrArg (x_istore 2) (xe_goto 124)))
theorem bk_X5_readStatement_e_124 : ck_ fX5 (some .boolean) cX5_readStatement 124 [.iload 2, .ifCond .ne 130, .iconst 0, .ireturn] 130 = true := qck_r (by decide) (by decide +kernel)
theorem bs_X5_readStatement_e_124 {P : Zt → Option Zv → Prop} (K : Int → Zl → List Zv → Zt → Prop) : sx_ K P [.iload 2, .ifCond .ne 130, .iconst 0, .ireturn] 130 = x_iload 2 (x_ifCond .ne 130 K (x_iconst 0 (x_ireturn P))) := ((xe_iload 2).trans (congrArg (x_iload 2) ((xe_ifCond .ne 130).trans (congrArg (x_ifCond .ne 130 K) ((xe_iconst 0).trans (congrArg (x_iconst 0) (xe_ireturn)))))))
theorem bk_X5_readStatement_e_130 : ck_ fX5 (some .boolean) cX5_readStatement 130 [.aload 0] 131 = true := qck_r (by decide) (by decide +kernel)
theorem bs_X5_readStatement_e_130 {P : Zt → Option Zv → Prop} (K : Int → Zl → List Zv → Zt → Prop) : sx_ K P [.aload 0] 131 = x_aload 0 (K 131) := ((xe_aload 0).trans (congrArg (x_aload 0) xe_nil))
theorem bk_X5_readStatement_e_134 : ck_ fX5 (some .boolean) cX5_readStatement 134 [.aload 0, .iconst 3] 136 = true := qck_r (by decide) (by decide +kernel)
theorem bs_X5_readStatement_e_134 {P : Zt → Option Zv → Prop} (K : Int → Zl → List Zv → Zt → Prop) : sx_ K P [.aload 0, .iconst 3] 136 = x_aload 0 (x_iconst 3 (K 136)) := ((xe_aload 0).trans (congrArg (x_aload 0) ((xe_iconst 3).trans (congrArg (x_iconst 3) xe_nil))))
theorem bk_X5_readStatement_e_139 : ck_ fX5 (some .boolean) cX5_readStatement 139 [.ireturn] 140 = true := qck_r (by decide) (by decide +kernel)
theorem bs_X5_readStatement_e_139 {P : Zt → Option Zv → Prop} (K : Int → Zl → List Zv → Zt → Prop) : sx_ K P [.ireturn] 140 = x_ireturn P := (xe_ireturn)
theorem bk_X5_readStatement_e_84 : ck_ fX5 (some .boolean) cX5_readStatement 84 [.aload 0] 85 = true := qck_r (by decide) (by decide +kernel)
theorem bs_X5_readStatement_e_84 {P : Zt → Option Zv → Prop} (K : Int → Zl → List Zv → Zt → Prop) : sx_ K P [.aload 0] 85 = x_aload 0 (K 85) := ((xe_aload 0).trans (congrArg (x_aload 0) xe_nil))
theorem bk_X5_readStatement_e_88 : ck_ fX5 (some .boolean) cX5_readStatement 88 [.istore 2, .goto 124] 92 = true := qck_r (by decide) (by decide +kernel)
theorem bs_X5_readStatement_e_88 {P : Zt → Option Zv → Prop} (K : Int → Zl → List Zv → Zt → Prop) : sx_ K P [.istore 2, .goto 124] 92 = x_istore 2 (x_goto 124 K) := ((xe_istore 2).trans (congrArg (x_istore 2) (xe_goto 124)))
theorem bk_X5_readStatement_e_92 : ck_ fX5 (some .boolean) cX5_readStatement 92 [.aload 0] 93 = true := qck_r (by decide) (by decide +kernel)
theorem bs_X5_readStatement_e_92 {P : Zt → Option Zv → Prop} (K : Int → Zl → List Zv → Zt → Prop) : sx_ K P [.aload 0] 93 = x_aload 0 (K 93) := ((xe_aload 0).trans (congrArg (x_aload 0) xe_nil))
theorem bk_X5_readStatement_e_96 : ck_ fX5 (some .boolean) cX5_readStatement 96 [.ireturn] 97 = true := qck_r (by decide) (by decide +kernel)
theorem bs_X5_readStatement_e_96 {P : Zt → Option Zv → Prop} (K : Int → Zl → List Zv → Zt → Prop) : sx_ K P [.ireturn] 97 = x_ireturn P := (xe_ireturn)
theorem bk_X5_readStatement_e_97 : ck_ fX5 (some .boolean) cX5_readStatement 97 [.aload 0, .tableswitch 0 5 4 #[], .iconst 5, .iconst 1, .iastore, .iconst 1, .istore 2, .goto 124] 109 = true := qck_r (by decide) (by decide +kernel)
theorem bs_X5_readStatement_e_97 {P : Zt → Option Zv → Prop} (K : Int → Zl → List Zv → Zt → Prop) : sx_ K P [.aload 0, .tableswitch 0 5 4 #[], .iconst 5, .iconst 1, .iastore, .iconst 1, .istore 2, .goto 124] 109 = x_aload 0 (x_g1 105 504 (x_iconst 5 (x_iconst 1 (x_iastore (x_iconst 1 (x_istore 2 (x_goto 124 K))))))) := ((xe_aload 0).trans (congrArg (x_aload 0) ((xe_g1 (kk := 105) rfl tl_5_4).trans (congrArg (x_g1 105 504) ((xe_iconst 5).trans (congrArg (x_iconst 5) ((xe_iconst 1).trans (congrArg (x_iconst 1) ((xe_iastore).trans (congrArg (x_iastore) ((xe_iconst 1).trans (congrArg (x_iconst 1) ((xe_istore 2).trans (congrArg (x_istore 2) (xe_goto 124)))))))))))))))
theorem bk_X5_readStatement_e_109 : ck_ fX5 (some .boolean) cX5_readStatement 109 [.aload 0, .iload 1, .iconst 2, .iadd] 113 = true := qck_r (by decide) (by decide +kernel)
theorem bs_X5_readStatement_e_109 {P : Zt → Option Zv → Prop} (K : Int → Zl → List Zv → Zt → Prop) : sx_ K P [.aload 0, .iload 1, .iconst 2, .iadd] 113 = x_aload 0 (x_iload 1 (x_iconst 2 (x_iadd (K 113)))) := ((xe_aload 0).trans (congrArg (x_aload 0) ((xe_iload 1).trans (congrArg (x_iload 1) ((xe_iconst 2).trans (congrArg (x_iconst 2) ((xe_iadd).trans (congrArg (x_iadd) xe_nil))))))))
theorem bk_X5_readStatement_e_116 : ck_ fX5 (some .boolean) cX5_readStatement 116 [.iload 1, .iconst 2, .iadd] 119 = true := qck_r (by decide) (by decide +kernel)
theorem bs_X5_readStatement_e_116 {P : Zt → Option Zv → Prop} (K : Int → Zl → List Zv → Zt → Prop) : sx_ K P [.iload 1, .iconst 2, .iadd] 119 = x_iload 1 (x_iconst 2 (x_iadd (K 119))) := ((xe_iload 1).trans (congrArg (x_iload 1) ((xe_iconst 2).trans (congrArg (x_iconst 2) ((xe_iadd).trans (congrArg (x_iadd) xe_nil))))))
theorem bk_X5_readStatement_e_123 : ck_ fX5 (some .boolean) cX5_readStatement 123 [.istore 2, .iload 2, .ifCond .ne 130, .iconst 0, .ireturn] 130 = true := qck_r (by decide) (by decide +kernel)
theorem bs_X5_readStatement_e_123 {P : Zt → Option Zv → Prop} (K : Int → Zl → List Zv → Zt → Prop) : sx_ K P [.istore 2, .iload 2, .ifCond .ne 130, .iconst 0, .ireturn] 130 = x_istore 2 (x_iload 2 (x_ifCond .ne 130 K (x_iconst 0 (x_ireturn P)))) := ((xe_istore 2).trans (congrArg (x_istore 2) ((xe_iload 2).trans (congrArg (x_iload 2) ((xe_ifCond .ne 130).trans (congrArg (x_ifCond .ne 130 K) ((xe_iconst 0).trans (congrArg (x_iconst 0) (xe_ireturn)))))))))
theorem bk_X5_readStatement_e_30 : ck_ fX5 (some .boolean) cX5_readStatement 30 [.ireturn] 31 = true := qck_r (by decide) (by decide +kernel)
theorem bs_X5_readStatement_e_30 {P : Zt → Option Zv → Prop} (K : Int → Zl → List Zv → Zt → Prop) : sx_ K P [.ireturn] 31 = x_ireturn P := (xe_ireturn)
abbrev po_X5_readStatement_e (T : Zt) (a : Int) (t : Int → Int) (v : Int → Int) : Zt → Option Zv → Prop := fun T' r => ∃ x : Int, r = some (vI x) ∧ fr_ [(105, [7, 8, 9, 2, 3, 6]), (504, []), (505, [])] T T' ∧ ((x = 0 ∧ stf9_ (cl9_ (T 105 0 1) (fun j => T 500 0 j)) (T 105 0 1) a t v = Sum.inl (T' 105 0 2, T' 105 0 3)) ∨ (x = 1 ∧ HS9_ (stf9_ (cl9_ (T 105 0 1) (fun j => T 500 0 j)) (T 105 0 1) a t v) T' ∧ T' 105 0 2 = T 105 0 2 ∧ T' 105 0 3 = T 105 0 3 ∧ T 105 0 9 ≤ T' 105 0 9 ∧ T' 105 0 9 ≤ T 105 0 1))
set_option maxHeartbeats 4000000 in
theorem ct_X5_readStatement_e {T : Zt} {a : Int} {t : Int → Int} {v : Int → Int} (h0 : 0 ≤ a) (ht : TK9_ (fun j => T 500 0 j) (T 105 0 1) a (T 105 0 8) (T 105 0 9) (T 105 0 7)) (hb : BT9_ (T 105 0 6) t) (hv : VH9_ T v) : Ct_ yX5_readStatement zX5_readStatement T [vR 105 0] (po_X5_readStatement_e T a t v) := by
  refine ct_of (by decide) rfl rfl (Nat.le_of_ble_eq_true rfl) (fun hT hav => ?_)
  have hz : zX5_readStatement.2.2.2.1 = some .boolean → ∀ (T' : Zt) (x : Int), po_X5_readStatement_e T a t v T' (some (vI x)) → 0 ≤ x ∧ x ≤ 1 := fun _ T' x h => by obtain ⟨y, e, -, hy⟩ := h; cases e; omega
  have hln : 0 ≤ T 105 0 1 ∧ T 105 0 1 ≤ 400 := bd_f hT 105 1 (by decide +kernel : (tf_ 105)[1]? = some (0, 0, 0, 400)) 0
  have hte : 0 ≤ T 105 0 9 ∧ T 105 0 9 ≤ 400 := bd_f hT 105 9 (by decide +kernel : (tf_ 105)[9]? = some (0, 0, 0, 400)) 0
  have tr := tk9_r ht
  show J_ zX5_readStatement T (po_X5_readStatement_e T a t v) 0 0 0 [some (vR 105 0), none, none] [] T
  refine j_blx (F := fX5) tb_X5 (by decide) bk_X5_readStatement_e_0 bs_X5_readStatement_e_0 hz (fun K hK => ?_)
  refine hK 1 [some (vR 105 0), none, none] [vR 105 0] T ?_
  refine j_ldcS (pc := 1) (i := 0) (by decide) rfl (by decide) rfl (by decide +kernel) ?_
  show J_ zX5_readStatement T (po_X5_readStatement_e T a t v) 0 0 3 [some (vR 105 0), none, none] [vR 82 0, vR 105 0] T
  refine j_callV (y := yX5_wordOf) (Yc := zX5_wordOf) (rest := []) [vR 82 0] (ct_X5_wordOf_e0 (T := T) (by omega)) cl_X5_55 (qd_c (by decide +kernel)) (by decide) rfl (by decide +kernel) (Nat.le_of_ble_eq_true rfl) (by decide) (by decide) rfl ?_
  rintro U1 _ ⟨x2, rfl, fU1, qU1⟩
  show J_ zX5_readStatement T (po_X5_readStatement_e T a t v) 0 0 6 [some (vR 105 0), none, none] [vI x2] U1
  refine j_blx (F := fX5) tb_X5 (by decide) bk_X5_readStatement_e_6 bs_X5_readStatement_e_6 hz (fun K hK => ?_)
  refine And.intro (fun c3 => ?_) (fun c3 => ?_)
  · refine hK 14 [some (vR 105 0), some (vI x2), none] [] U1 ?_
    have hvw := wof9_h ds9_0 ht h0 qU1
    have hwi := (hvw.resolve_left (fun z => by omega)).2.1
    have hwj := (hvw.resolve_left (fun z => by omega)).1
    have hwk := (hvw.resolve_left (fun z => by omega)).2.2
    have hbx := hb.2 x2 (by omega) (by omega)
    refine j_blx (F := fX5) tb_X5 (by decide) bk_X5_readStatement_e_14 bs_X5_readStatement_e_14 hz (fun K hK => ?_)
    intro b4 b4b
    have e5 : U1 105 0 6 = T 105 0 6 := fU1 105 0 6 rfl
    rw [e5] at b4 b4b ⊢
    intro w6 w6b
    intro w7 w7b
    refine And.intro (fun c8 => ?_) (fun c8 => ?_)
    · refine hK 31 [some (vR 105 0), some (vI x2), none] [] U1 ?_
      have hx0 : t x2 = 0 := by omega
      refine j_blx (F := fX5) tb_X5 (by decide) bk_X5_readStatement_e_31 bs_X5_readStatement_e_31 hz (fun K hK => ?_)
      intro b9 b9b
      have e10 : U1 105 0 6 = T 105 0 6 := fU1 105 0 6 rfl
      rw [e10] at b9 b9b ⊢
      intro w11 w11b
      intro w12 w12b
      refine bd_i (by omega) ?_
      refine x_nm (fun U13 hU13 => ?_)
      have e14 := up_f hU13
      refine hK 44 [some (vR 105 0), some (vI x2), none] [vI x2] U13 ?_
      by_cases z15_0 : x2 = 0
      · refine j_tsI (pc := 44) 0 (off := 32) (tgt := 76) (by decide) ds_X5_readStatement_44 (by omega) (by decide) rfl (by decide) (by decide) ?_
        refine j_blx (F := fX5) tb_X5 (by decide) bk_X5_readStatement_e_76 bs_X5_readStatement_e_76 hz (fun K hK => ?_)
        refine hK 77 [some (vR 105 0), some (vI x2), none] [vR 105 0] U13 ?_
        have e16 : U13 105 0 9 = T 105 0 9 := (up_j hU13 (by decide) 105 0).trans (fU1 105 0 9 rfl)
        have e17 : U13 105 0 1 = T 105 0 1 := (up_j hU13 (by decide) 105 0).trans (fU1 105 0 1 rfl)
        refine j_callV (y := yX5_readSport) (Yc := zX5_readSport) (rest := []) [] (ct_X5_readSport_e (T := U13) (by omega)) cl_X5_63 (qd_c (by decide +kernel)) (by decide) rfl (by decide +kernel) (Nat.le_of_ble_eq_true rfl) (by decide) (by decide) rfl ?_
        rintro U18 _ ⟨x19, rfl, fU18, qU18, oU18⟩
        show J_ zX5_readStatement T (po_X5_readStatement_e T a t v) 0 0 80 [some (vR 105 0), some (vI x2), none] [vI x19] U18
        have hq := qU18
        have fb20 : fr_ [(105, [6, 2, 3])] T U13 := fr_u (fr_t (fr_0 _ _) (fr_s fU1 rfl)) hU13 rfl
        rw [show (fun j => U13 500 0 j) = fun j => T 500 0 j from funext fun j => fb20 500 0 j rfl, show U13 105 0 1 = T 105 0 1 from fb20 105 0 1 rfl, show U13 105 0 9 = T 105 0 9 from ((show fr_ [(105, [6, 2, 3])] T U13 from fr_u (fr_t (fr_0 _ _) (fr_s fU1 rfl)) hU13 rfl) 105 0 9 rfl)] at hq
        have hvh : VH9_ U18 (u9_ v 0 (U18 504 0 0)) := VH9_u (VH9_f hv (show fr_ [(105, [6, 2, 3])] T U13 from fr_u (fr_t (fr_0 _ _) (fr_s fU1 rfl)) hU13 rfl) (fun _ => rfl) (fun _ => rfl)) oU18 (fun j => fU18 505 0 j rfl) rfl (by decide) (by decide)
        have hbz : x19 = 0 → bdf9_ (cl9_ (T 105 0 1) (fun j => T 500 0 j)) (T 105 0 1) (T 105 0 9) x2 v = Sum.inl (U18 105 0 2, U18 105 0 3) := fun z => (bdf9_0 (by omega)).trans (bn9_l (hq.resolve_right (fun y => by omega)).2)
        have hbo : x19 = 1 → bdf9_ (cl9_ (T 105 0 1) (fun j => T 500 0 j)) (T 105 0 1) (T 105 0 9) x2 v = Sum.inr (U18 105 0 9, u9_ v 0 (U18 504 0 0)) := fun z => (bdf9_0 (by omega)).trans (bn9_r (hq.resolve_left (fun y => by omega)).2.1)
        have e21 : U13 105 0 2 = U1 105 0 2 := up_j hU13 (by decide) 105 0
        have e22 : U13 105 0 3 = U1 105 0 3 := up_j hU13 (by decide) 105 0
        have e23 : U18 105 0 1 = T 105 0 1 := (fU18 105 0 1 rfl).trans ((up_j hU13 (by decide) 105 0).trans (fU1 105 0 1 rfl))
        refine j_blx (F := fX5) tb_X5 (by decide) bk_X5_readStatement_e_80 bs_X5_readStatement_e_80 hz (fun K hK => ?_)
        refine hK 124 [some (vR 105 0), some (vI x2), some (vI x19)] [] U18 ?_
        refine j_blx (F := fX5) tb_X5 (by decide) bk_X5_readStatement_e_124 bs_X5_readStatement_e_124 hz (fun K hK => ?_)
        refine And.intro (fun c24 => ?_) (fun c24 => ?_)
        · refine hK 130 [some (vR 105 0), some (vI x2), some (vI x19)] [] U18 ?_
          refine j_blx (F := fX5) tb_X5 (by decide) bk_X5_readStatement_e_130 bs_X5_readStatement_e_130 hz (fun K hK => ?_)
          refine hK 131 [some (vR 105 0), some (vI x2), some (vI x19)] [vR 105 0] U18 ?_
          have hq2 := (hq.resolve_left (fun y => by omega)).2.2
          have e25 : U18 105 0 1 = T 105 0 1 := (fU18 105 0 1 rfl).trans ((up_j hU13 (by decide) 105 0).trans (fU1 105 0 1 rfl))
          refine j_callV (y := yX5_nextToken) (Yc := zX5_nextToken) (rest := []) [] (ct_X5_nextToken_e (T := U18) (by omega)) cl_X5_43 (qd_c (by decide +kernel)) (by decide) rfl (by decide +kernel) (Nat.le_of_ble_eq_true rfl) (by decide) (by decide) rfl ?_
          rintro U26 _ ⟨rfl, fU26, qU26⟩
          show J_ zX5_readStatement T (po_X5_readStatement_e T a t v) 0 0 134 [some (vR 105 0), some (vI x2), some (vI x19)] [] U26
          have fb27 : fr_ [(105, [7, 8, 9, 2, 3, 6]), (504, [])] T U18 := fr_t (fr_u (fr_t (fr_0 _ _) (fr_s fU1 rfl)) hU13 rfl) (fr_s fU18 rfl)
          have toU26 := qU26
          rw [show (fun j => U18 500 0 j) = fun j => T 500 0 j from funext fun j => fb27 500 0 j rfl, show U18 105 0 1 = T 105 0 1 from fb27 105 0 1 rfl] at toU26
          have trU26 := tk9_r toU26
          refine j_blx (F := fX5) tb_X5 (by decide) bk_X5_readStatement_e_134 bs_X5_readStatement_e_134 hz (fun K hK => ?_)
          refine hK 136 [some (vR 105 0), some (vI x2), some (vI x19)] [vI 3, vR 105 0] U26 ?_
          refine j_callV (y := yX5_isOfKind) (Yc := zX5_isOfKind) (rest := []) [vI 3] (ct_X5_isOfKind_e (T := U26)) cl_X5_79 (qd_c (by decide +kernel)) (by decide) rfl (by decide +kernel) (Nat.le_of_ble_eq_true rfl) (by decide) (by decide) rfl ?_
          rintro U28 _ ⟨x29, rfl, fU28, qU28⟩
          show J_ zX5_readStatement T (po_X5_readStatement_e T a t v) 0 0 139 [some (vR 105 0), some (vI x2), some (vI x19)] [vI x29] U28
          refine j_blx (F := fX5) tb_X5 (by decide) bk_X5_readStatement_e_139 bs_X5_readStatement_e_139 hz (fun K hK => ?_)
          refine (show po_X5_readStatement_e T a t v U28 (some (vI x29)) from ?_)
          have e30 : U28 105 0 9 = U26 105 0 9 := fU28 105 0 9 rfl
          have hsm := smf9_h toU26 (by omega) qU28
          have hb1 := hbo (by omega)
          have hq1 := (hq.resolve_left (fun y => by omega)).2.2
          have st := (stf9_b hwi hx0 (by omega)).trans (bn9_r hb1)
          have e31 : U28 105 0 6 = or_ (T 105 0 6) (sl_ 1 x2) := (fU28 105 0 6 rfl).trans ((fU26 105 0 6 rfl).trans ((fU18 105 0 6 rfl).trans (up_f hU13)))
          have e32 : U26 105 0 2 = U18 105 0 2 := fU26 105 0 2 rfl
          have e33 : U26 105 0 3 = U18 105 0 3 := fU26 105 0 3 rfl
          have w9 : U28 105 0 9 = U26 105 0 9 := fU28 105 0 9 rfl
          rcases hsm with ⟨z1, z2⟩ | ⟨z1, z2, z3, z4⟩
          · exact ⟨_, rfl, fr_t (fr_t (fr_t (fr_u (fr_t (fr_0 _ _) (fr_s fU1 rfl)) hU13 rfl) (fr_s fU18 rfl)) (fr_s fU26 rfl)) (fr_s fU28 rfl), Or.inl ⟨z1, st.trans (bn9_l z2)⟩⟩
          · exact ⟨_, rfl, fr_t (fr_t (fr_t (fr_u (fr_t (fr_0 _ _) (fr_s fU1 rfl)) hU13 rfl) (fr_s fU18 rfl)) (fr_s fU26 rfl)) (fr_s fU28 rfl), Or.inr ⟨z1, ⟨u9_ t x2 1, u9_ v 0 (U18 504 0 0), by rw [w9]; exact st.trans (bn9_r z2), by rw [e31]; exact bt9_u hb (by omega) (by omega), VH9_f (VH9_f hvh fU26 (fun _ => rfl) (fun _ => rfl)) fU28 (fun _ => rfl) (fun _ => rfl)⟩, by omega, by omega, by omega, by omega⟩⟩
        · refine (show po_X5_readStatement_e T a t v U18 (some (vI 0)) from ?_)
          exact ⟨_, rfl, fr_t (fr_u (fr_t (fr_0 _ _) (fr_s fU1 rfl)) hU13 rfl) (fr_s fU18 rfl), Or.inl ⟨rfl, (stf9_b hwi hx0 (by omega)).trans (bn9_l (hbz (by omega)))⟩⟩
      by_cases z15_1 : x2 = 1
      · refine j_tsI (pc := 44) 1 (off := 40) (tgt := 84) (by decide) ds_X5_readStatement_44 (by omega) (by decide) rfl (by decide) (by decide) ?_
        refine j_blx (F := fX5) tb_X5 (by decide) bk_X5_readStatement_e_84 bs_X5_readStatement_e_84 hz (fun K hK => ?_)
        refine hK 85 [some (vR 105 0), some (vI x2), none] [vR 105 0] U13 ?_
        have e34 : U13 105 0 9 = T 105 0 9 := (up_j hU13 (by decide) 105 0).trans (fU1 105 0 9 rfl)
        have e35 : U13 105 0 1 = T 105 0 1 := (up_j hU13 (by decide) 105 0).trans (fU1 105 0 1 rfl)
        refine j_callV (y := yX5_readPoints) (Yc := zX5_readPoints) (rest := []) [] (ct_X5_readPoints_e (T := U13) (by omega)) cl_X5_66 (qd_c (by decide +kernel)) (by decide) rfl (by decide +kernel) (Nat.le_of_ble_eq_true rfl) (by decide) (by decide) rfl ?_
        rintro U36 _ ⟨x37, rfl, fU36, qU36, oU36⟩
        show J_ zX5_readStatement T (po_X5_readStatement_e T a t v) 0 0 88 [some (vR 105 0), some (vI x2), none] [vI x37] U36
        have hq := qU36
        have fb38 : fr_ [(105, [6, 2, 3])] T U13 := fr_u (fr_t (fr_0 _ _) (fr_s fU1 rfl)) hU13 rfl
        rw [show (fun j => U13 500 0 j) = fun j => T 500 0 j from funext fun j => fb38 500 0 j rfl, show U13 105 0 1 = T 105 0 1 from fb38 105 0 1 rfl, show U13 105 0 9 = T 105 0 9 from ((show fr_ [(105, [6, 2, 3])] T U13 from fr_u (fr_t (fr_0 _ _) (fr_s fU1 rfl)) hU13 rfl) 105 0 9 rfl)] at hq
        have hvh : VH9_ U36 (u9_ (u9_ (u9_ v 1 (U36 504 0 1)) 2 (U36 504 0 2)) 3 (U36 504 0 3)) := VH9_p (VH9_f hv (show fr_ [(105, [6, 2, 3])] T U13 from fr_u (fr_t (fr_0 _ _) (fr_s fU1 rfl)) hU13 rfl) (fun _ => rfl) (fun _ => rfl)) oU36 (fun j => fU36 505 0 j rfl)
        have hbz : x37 = 0 → bdf9_ (cl9_ (T 105 0 1) (fun j => T 500 0 j)) (T 105 0 1) (T 105 0 9) x2 v = Sum.inl (U36 105 0 2, U36 105 0 3) := fun z => (bdf9_1 (by omega)).trans (bn9_l (hq.resolve_right (fun y => by omega)).2)
        have hbo : x37 = 1 → bdf9_ (cl9_ (T 105 0 1) (fun j => T 500 0 j)) (T 105 0 1) (T 105 0 9) x2 v = Sum.inr (U36 105 0 9, u9_ (u9_ (u9_ v 1 (U36 504 0 1)) 2 (U36 504 0 2)) 3 (U36 504 0 3)) := fun z => (bdf9_1 (by omega)).trans (bn9_r (hq.resolve_left (fun y => by omega)).2.1)
        have e39 : U13 105 0 2 = U1 105 0 2 := up_j hU13 (by decide) 105 0
        have e40 : U13 105 0 3 = U1 105 0 3 := up_j hU13 (by decide) 105 0
        have e41 : U36 105 0 1 = T 105 0 1 := (fU36 105 0 1 rfl).trans ((up_j hU13 (by decide) 105 0).trans (fU1 105 0 1 rfl))
        refine j_blx (F := fX5) tb_X5 (by decide) bk_X5_readStatement_e_88 bs_X5_readStatement_e_88 hz (fun K hK => ?_)
        refine hK 124 [some (vR 105 0), some (vI x2), some (vI x37)] [] U36 ?_
        refine j_blx (F := fX5) tb_X5 (by decide) bk_X5_readStatement_e_124 bs_X5_readStatement_e_124 hz (fun K hK => ?_)
        refine And.intro (fun c42 => ?_) (fun c42 => ?_)
        · refine hK 130 [some (vR 105 0), some (vI x2), some (vI x37)] [] U36 ?_
          refine j_blx (F := fX5) tb_X5 (by decide) bk_X5_readStatement_e_130 bs_X5_readStatement_e_130 hz (fun K hK => ?_)
          refine hK 131 [some (vR 105 0), some (vI x2), some (vI x37)] [vR 105 0] U36 ?_
          have hq2 := (hq.resolve_left (fun y => by omega)).2.2
          have e43 : U36 105 0 1 = T 105 0 1 := (fU36 105 0 1 rfl).trans ((up_j hU13 (by decide) 105 0).trans (fU1 105 0 1 rfl))
          refine j_callV (y := yX5_nextToken) (Yc := zX5_nextToken) (rest := []) [] (ct_X5_nextToken_e (T := U36) (by omega)) cl_X5_43 (qd_c (by decide +kernel)) (by decide) rfl (by decide +kernel) (Nat.le_of_ble_eq_true rfl) (by decide) (by decide) rfl ?_
          rintro U44 _ ⟨rfl, fU44, qU44⟩
          show J_ zX5_readStatement T (po_X5_readStatement_e T a t v) 0 0 134 [some (vR 105 0), some (vI x2), some (vI x37)] [] U44
          have fb45 : fr_ [(105, [7, 8, 9, 2, 3, 6]), (504, [])] T U36 := fr_t (fr_u (fr_t (fr_0 _ _) (fr_s fU1 rfl)) hU13 rfl) (fr_s fU36 rfl)
          have toU44 := qU44
          rw [show (fun j => U36 500 0 j) = fun j => T 500 0 j from funext fun j => fb45 500 0 j rfl, show U36 105 0 1 = T 105 0 1 from fb45 105 0 1 rfl] at toU44
          have trU44 := tk9_r toU44
          refine j_blx (F := fX5) tb_X5 (by decide) bk_X5_readStatement_e_134 bs_X5_readStatement_e_134 hz (fun K hK => ?_)
          refine hK 136 [some (vR 105 0), some (vI x2), some (vI x37)] [vI 3, vR 105 0] U44 ?_
          refine j_callV (y := yX5_isOfKind) (Yc := zX5_isOfKind) (rest := []) [vI 3] (ct_X5_isOfKind_e (T := U44)) cl_X5_79 (qd_c (by decide +kernel)) (by decide) rfl (by decide +kernel) (Nat.le_of_ble_eq_true rfl) (by decide) (by decide) rfl ?_
          rintro U46 _ ⟨x47, rfl, fU46, qU46⟩
          show J_ zX5_readStatement T (po_X5_readStatement_e T a t v) 0 0 139 [some (vR 105 0), some (vI x2), some (vI x37)] [vI x47] U46
          refine j_blx (F := fX5) tb_X5 (by decide) bk_X5_readStatement_e_139 bs_X5_readStatement_e_139 hz (fun K hK => ?_)
          refine (show po_X5_readStatement_e T a t v U46 (some (vI x47)) from ?_)
          have e48 : U46 105 0 9 = U44 105 0 9 := fU46 105 0 9 rfl
          have hsm := smf9_h toU44 (by omega) qU46
          have hb1 := hbo (by omega)
          have hq1 := (hq.resolve_left (fun y => by omega)).2.2
          have st := (stf9_b hwi hx0 (by omega)).trans (bn9_r hb1)
          have e49 : U46 105 0 6 = or_ (T 105 0 6) (sl_ 1 x2) := (fU46 105 0 6 rfl).trans ((fU44 105 0 6 rfl).trans ((fU36 105 0 6 rfl).trans (up_f hU13)))
          have e50 : U44 105 0 2 = U36 105 0 2 := fU44 105 0 2 rfl
          have e51 : U44 105 0 3 = U36 105 0 3 := fU44 105 0 3 rfl
          have w9 : U46 105 0 9 = U44 105 0 9 := fU46 105 0 9 rfl
          rcases hsm with ⟨z1, z2⟩ | ⟨z1, z2, z3, z4⟩
          · exact ⟨_, rfl, fr_t (fr_t (fr_t (fr_u (fr_t (fr_0 _ _) (fr_s fU1 rfl)) hU13 rfl) (fr_s fU36 rfl)) (fr_s fU44 rfl)) (fr_s fU46 rfl), Or.inl ⟨z1, st.trans (bn9_l z2)⟩⟩
          · exact ⟨_, rfl, fr_t (fr_t (fr_t (fr_u (fr_t (fr_0 _ _) (fr_s fU1 rfl)) hU13 rfl) (fr_s fU36 rfl)) (fr_s fU44 rfl)) (fr_s fU46 rfl), Or.inr ⟨z1, ⟨u9_ t x2 1, u9_ (u9_ (u9_ v 1 (U36 504 0 1)) 2 (U36 504 0 2)) 3 (U36 504 0 3), by rw [w9]; exact st.trans (bn9_r z2), by rw [e49]; exact bt9_u hb (by omega) (by omega), VH9_f (VH9_f hvh fU44 (fun _ => rfl) (fun _ => rfl)) fU46 (fun _ => rfl) (fun _ => rfl)⟩, by omega, by omega, by omega, by omega⟩⟩
        · refine (show po_X5_readStatement_e T a t v U36 (some (vI 0)) from ?_)
          exact ⟨_, rfl, fr_t (fr_u (fr_t (fr_0 _ _) (fr_s fU1 rfl)) hU13 rfl) (fr_s fU36 rfl), Or.inl ⟨rfl, (stf9_b hwi hx0 (by omega)).trans (bn9_l (hbz (by omega)))⟩⟩
      by_cases z15_2 : x2 = 2
      · refine j_tsI (pc := 44) 2 (off := 48) (tgt := 92) (by decide) ds_X5_readStatement_44 (by omega) (by decide) rfl (by decide) (by decide) ?_
        refine j_blx (F := fX5) tb_X5 (by decide) bk_X5_readStatement_e_92 bs_X5_readStatement_e_92 hz (fun K hK => ?_)
        refine hK 93 [some (vR 105 0), some (vI x2), none] [vR 105 0] U13 ?_
        have e52 : U13 105 0 9 = T 105 0 9 := (up_j hU13 (by decide) 105 0).trans (fU1 105 0 9 rfl)
        have e53 : U13 105 0 1 = T 105 0 1 := (up_j hU13 (by decide) 105 0).trans (fU1 105 0 1 rfl)
        refine j_callV (y := yX5_readOrder) (Yc := zX5_readOrder) (rest := []) [] (ct_X5_readOrder_e (T := U13) (v := v) (by omega) (VH9_f hv (show fr_ [(105, [6, 2, 3])] T U13 from fr_u (fr_t (fr_0 _ _) (fr_s fU1 rfl)) hU13 rfl) (fun _ => rfl) (fun _ => rfl))) cl_X5_69 (qd_c (by decide +kernel)) (by decide) rfl (by decide +kernel) (Nat.le_of_ble_eq_true rfl) (by decide) (by decide) rfl ?_
        rintro U54 _ ⟨x55, rfl, fU54, qU54⟩
        show J_ zX5_readStatement T (po_X5_readStatement_e T a t v) 0 0 96 [some (vR 105 0), some (vI x2), none] [vI x55] U54
        refine j_blx (F := fX5) tb_X5 (by decide) bk_X5_readStatement_e_96 bs_X5_readStatement_e_96 hz (fun K hK => ?_)
        refine (show po_X5_readStatement_e T a t v U54 (some (vI x55)) from ?_)
        have hq := qU54
        have fb56 : fr_ [(105, [6, 2, 3])] T U13 := fr_u (fr_t (fr_0 _ _) (fr_s fU1 rfl)) hU13 rfl
        rw [show (fun j => U13 500 0 j) = fun j => T 500 0 j from funext fun j => fb56 500 0 j rfl, show U13 105 0 1 = T 105 0 1 from fb56 105 0 1 rfl, show U13 105 0 9 = T 105 0 9 from ((show fr_ [(105, [6, 2, 3])] T U13 from fr_u (fr_t (fr_0 _ _) (fr_s fU1 rfl)) hU13 rfl) 105 0 9 rfl)] at hq
        have e57 : U54 105 0 6 = or_ (T 105 0 6) (sl_ 1 x2) := (fU54 105 0 6 rfl).trans (up_f hU13)
        have e58 : U13 105 0 2 = U1 105 0 2 := up_j hU13 (by decide) 105 0
        have e59 : U13 105 0 3 = U1 105 0 3 := up_j hU13 (by decide) 105 0
        rcases hq with ⟨z1, z2⟩ | ⟨z1, ⟨v9, z2, z3⟩, z4⟩
        · exact ⟨_, rfl, fr_t (fr_u (fr_t (fr_0 _ _) (fr_s fU1 rfl)) hU13 rfl) (fr_s fU54 rfl), Or.inl ⟨z1, (stf9_o hwi hx0 (by omega)).trans (bn9_l z2)⟩⟩
        · exact ⟨_, rfl, fr_t (fr_u (fr_t (fr_0 _ _) (fr_s fU1 rfl)) hU13 rfl) (fr_s fU54 rfl), Or.inr ⟨z1, ⟨u9_ t x2 1, v9, (stf9_o hwi hx0 (by omega)).trans (bn9_r z2), by rw [e57]; exact bt9_u hb (by omega) (by omega), z3⟩, by omega, by omega, by omega, by omega⟩⟩
      by_cases z15_3 : x2 = 3
      · refine j_tsI (pc := 44) 3 (off := 53) (tgt := 97) (by decide) ds_X5_readStatement_44 (by omega) (by decide) rfl (by decide) (by decide) ?_
        refine j_blx (F := fX5) tb_X5 (by decide) bk_X5_readStatement_e_97 bs_X5_readStatement_e_97 hz (fun K hK => ?_)
        refine iy_i (by omega) (by omega) ?_
        refine x_nm (fun U60 hU60 => ?_)
        have e61 := up_f hU60
        refine hK 124 [some (vR 105 0), some (vI x2), some (vI 1)] [] U60 ?_
        have hbd : bdf9_ (cl9_ (T 105 0 1) (fun j => T 500 0 j)) (T 105 0 1) (T 105 0 9) x2 v = Sum.inr (U60 105 0 9, u9_ v 5 1) := by
          rw [(up_k hU60 (by decide) 0 9 : U60 105 0 9 = U13 105 0 9), show U13 105 0 9 = T 105 0 9 from (show fr_ [(105, [6, 2, 3])] T U13 from fr_u (fr_t (fr_0 _ _) (fr_s fU1 rfl)) hU13 rfl) 105 0 9 rfl]
          exact bdf9_3 (by omega)
        have hvh : VH9_ U60 (u9_ v 5 1) := VH9_u (VH9_f hv (show fr_ [(105, [6, 2, 3])] T U13 from fr_u (fr_t (fr_0 _ _) (fr_s fU1 rfl)) hU13 rfl) (fun _ => rfl) (fun _ => rfl)) (fun j hj => up_g hU60 (fun z => hj z.2.2)) (fun j => up_k hU60 (by decide) 0 j) (up_f hU60) (by decide) (by decide)
        have e62 : U60 105 0 2 = U1 105 0 2 := (up_k hU60 (by decide) 0 2).trans (up_j hU13 (by decide) 105 0)
        have e63 : U60 105 0 3 = U1 105 0 3 := (up_k hU60 (by decide) 0 3).trans (up_j hU13 (by decide) 105 0)
        have e64 : U60 105 0 9 = T 105 0 9 := (up_k hU60 (by decide) 0 9).trans ((up_j hU13 (by decide) 105 0).trans (fU1 105 0 9 rfl))
        have e65 : U60 105 0 1 = T 105 0 1 := (up_k hU60 (by decide) 0 1).trans ((up_j hU13 (by decide) 105 0).trans (fU1 105 0 1 rfl))
        refine j_blx (F := fX5) tb_X5 (by decide) bk_X5_readStatement_e_124 bs_X5_readStatement_e_124 hz (fun K hK => ?_)
        refine And.intro (fun c66 => ?_) (fun c66 => ?_)
        · refine hK 130 [some (vR 105 0), some (vI x2), some (vI 1)] [] U60 ?_
          refine j_blx (F := fX5) tb_X5 (by decide) bk_X5_readStatement_e_130 bs_X5_readStatement_e_130 hz (fun K hK => ?_)
          refine hK 131 [some (vR 105 0), some (vI x2), some (vI 1)] [vR 105 0] U60 ?_
          have e67 : U60 105 0 9 = T 105 0 9 := (up_k hU60 (by decide) 0 9).trans ((up_j hU13 (by decide) 105 0).trans (fU1 105 0 9 rfl))
          have e68 : U60 105 0 1 = T 105 0 1 := (up_k hU60 (by decide) 0 1).trans ((up_j hU13 (by decide) 105 0).trans (fU1 105 0 1 rfl))
          refine j_callV (y := yX5_nextToken) (Yc := zX5_nextToken) (rest := []) [] (ct_X5_nextToken_e (T := U60) (by omega)) cl_X5_43 (qd_c (by decide +kernel)) (by decide) rfl (by decide +kernel) (Nat.le_of_ble_eq_true rfl) (by decide) (by decide) rfl ?_
          rintro U69 _ ⟨rfl, fU69, qU69⟩
          show J_ zX5_readStatement T (po_X5_readStatement_e T a t v) 0 0 134 [some (vR 105 0), some (vI x2), some (vI 1)] [] U69
          have fb70 : fr_ [(504, []), (105, [6, 2, 3])] T U60 := fr_u (fr_u (fr_t (fr_0 _ _) (fr_s fU1 rfl)) hU13 rfl) hU60 rfl
          have toU69 := qU69
          rw [show (fun j => U60 500 0 j) = fun j => T 500 0 j from funext fun j => fb70 500 0 j rfl, show U60 105 0 1 = T 105 0 1 from fb70 105 0 1 rfl] at toU69
          have trU69 := tk9_r toU69
          refine j_blx (F := fX5) tb_X5 (by decide) bk_X5_readStatement_e_134 bs_X5_readStatement_e_134 hz (fun K hK => ?_)
          refine hK 136 [some (vR 105 0), some (vI x2), some (vI 1)] [vI 3, vR 105 0] U69 ?_
          refine j_callV (y := yX5_isOfKind) (Yc := zX5_isOfKind) (rest := []) [vI 3] (ct_X5_isOfKind_e (T := U69)) cl_X5_79 (qd_c (by decide +kernel)) (by decide) rfl (by decide +kernel) (Nat.le_of_ble_eq_true rfl) (by decide) (by decide) rfl ?_
          rintro U71 _ ⟨x72, rfl, fU71, qU71⟩
          show J_ zX5_readStatement T (po_X5_readStatement_e T a t v) 0 0 139 [some (vR 105 0), some (vI x2), some (vI 1)] [vI x72] U71
          refine j_blx (F := fX5) tb_X5 (by decide) bk_X5_readStatement_e_139 bs_X5_readStatement_e_139 hz (fun K hK => ?_)
          refine (show po_X5_readStatement_e T a t v U71 (some (vI x72)) from ?_)
          have e73 : U71 105 0 9 = U69 105 0 9 := fU71 105 0 9 rfl
          have hsm := smf9_h toU69 (by omega) qU71
          have hb1 := hbd
          have st := (stf9_b hwi hx0 (by omega)).trans (bn9_r hb1)
          have e74 : U71 105 0 6 = or_ (T 105 0 6) (sl_ 1 x2) := (fU71 105 0 6 rfl).trans ((fU69 105 0 6 rfl).trans ((up_k hU60 (by decide) 0 6).trans (up_f hU13)))
          have e75 : U69 105 0 2 = U1 105 0 2 := (fU69 105 0 2 rfl).trans ((up_k hU60 (by decide) 0 2).trans (up_j hU13 (by decide) 105 0))
          have e76 : U69 105 0 3 = U1 105 0 3 := (fU69 105 0 3 rfl).trans ((up_k hU60 (by decide) 0 3).trans (up_j hU13 (by decide) 105 0))
          have w9 : U71 105 0 9 = U69 105 0 9 := fU71 105 0 9 rfl
          rcases hsm with ⟨z1, z2⟩ | ⟨z1, z2, z3, z4⟩
          · exact ⟨_, rfl, fr_t (fr_t (fr_u (fr_u (fr_t (fr_0 _ _) (fr_s fU1 rfl)) hU13 rfl) hU60 rfl) (fr_s fU69 rfl)) (fr_s fU71 rfl), Or.inl ⟨z1, st.trans (bn9_l z2)⟩⟩
          · exact ⟨_, rfl, fr_t (fr_t (fr_u (fr_u (fr_t (fr_0 _ _) (fr_s fU1 rfl)) hU13 rfl) hU60 rfl) (fr_s fU69 rfl)) (fr_s fU71 rfl), Or.inr ⟨z1, ⟨u9_ t x2 1, u9_ v 5 1, by rw [w9]; exact st.trans (bn9_r z2), by rw [e74]; exact bt9_u hb (by omega) (by omega), VH9_f (VH9_f hvh fU69 (fun _ => rfl) (fun _ => rfl)) fU71 (fun _ => rfl) (fun _ => rfl)⟩, by omega, by omega, by omega, by omega⟩⟩
        · exact absurd c66 (by decide)
      refine j_tsO (pc := 44) (tgt := 109) (by decide) ds_X5_readStatement_44 (by omega) (by decide) (by decide) ?_
      refine j_blx (F := fX5) tb_X5 (by decide) bk_X5_readStatement_e_109 bs_X5_readStatement_e_109 hz (fun K hK => ?_)
      refine rg_i (by omega) ?_
      refine hK 113 [some (vR 105 0), some (vI x2), none] [vI (x2 + 2), vR 105 0] U13 ?_
      refine j_gs81 (pc := 113) (i := 2) (by decide) (by decide) (lw_b3 52 (by decide +kernel) rfl : Cond.fieldLink RX5 72 "SportsHouse$RuleText" (sn_ 2) "[I" ∈ lw_g) (by decide +kernel) ?_
      show J_ zX5_readStatement T (po_X5_readStatement_e T a t v) 0 0 116 [some (vR 105 0), some (vI x2), none] [vR 81 2, vI (x2 + 2), vR 105 0] U13
      refine j_blx (F := fX5) tb_X5 (by decide) bk_X5_readStatement_e_116 bs_X5_readStatement_e_116 hz (fun K hK => ?_)
      refine rg_i (by omega) ?_
      refine hK 119 [some (vR 105 0), some (vI x2), none] [vI (x2 + 2), vR 81 2, vI (x2 + 2), vR 105 0] U13 ?_
      refine j_ld81 (pc := 119) (i := 2) (by decide) (by decide) (by omega) (by omega) (by decide +kernel) ?_
      have y77 := sa_b 2 (by decide) (x2 + 2).toNat (by omega)
      show J_ zX5_readStatement T (po_X5_readStatement_e T a t v) 0 0 120 [some (vR 105 0), some (vI x2), none] [vI ((sa_ 2).getD (x2 + 2).toNat 0), vI (x2 + 2), vR 105 0] U13
      have e78 : U13 105 0 9 = T 105 0 9 := (up_j hU13 (by decide) 105 0).trans (fU1 105 0 9 rfl)
      have e79 : U13 105 0 1 = T 105 0 1 := (up_j hU13 (by decide) 105 0).trans (fU1 105 0 1 rfl)
      refine j_callV (y := yX5_readRule) (Yc := zX5_readRule) (rest := []) [vI (x2 + 2), vI ((sa_ 2).getD (x2 + 2).toNat 0)] (ct_X5_readRule_e (T := U13) (by omega) (by omega)) cl_X5_75 (qd_c (by decide +kernel)) (by decide) rfl (by decide +kernel) (Nat.le_of_ble_eq_true rfl) (by decide) (by decide) rfl ?_
      rintro U80 _ ⟨x81, rfl, fU80, qU80, oU80⟩
      show J_ zX5_readStatement T (po_X5_readStatement_e T a t v) 0 0 123 [some (vR 105 0), some (vI x2), none] [vI x81] U80
      have hq := qU80
      have fb82 : fr_ [(105, [6, 2, 3])] T U13 := fr_u (fr_t (fr_0 _ _) (fr_s fU1 rfl)) hU13 rfl
      rw [show (fun j => U13 500 0 j) = fun j => T 500 0 j from funext fun j => fb82 500 0 j rfl, show U13 105 0 1 = T 105 0 1 from fb82 105 0 1 rfl, show U13 105 0 9 = T 105 0 9 from ((show fr_ [(105, [6, 2, 3])] T U13 from fr_u (fr_t (fr_0 _ _) (fr_s fU1 rfl)) hU13 rfl) 105 0 9 rfl)] at hq
      have hvh : VH9_ U80 (u9_ v (x2 + 2) (U80 504 0 (x2 + 2))) := VH9_u (VH9_f hv (show fr_ [(105, [6, 2, 3])] T U13 from fr_u (fr_t (fr_0 _ _) (fr_s fU1 rfl)) hU13 rfl) (fun _ => rfl) (fun _ => rfl)) oU80 (fun j => fU80 505 0 j rfl) rfl (by omega) (by omega)
      have hbz : x81 = 0 → bdf9_ (cl9_ (T 105 0 1) (fun j => T 500 0 j)) (T 105 0 1) (T 105 0 9) x2 v = Sum.inl (U80 105 0 2, U80 105 0 3) := fun z => (bdf9_4 (by omega)).trans (bn9_l (hq.resolve_right (fun y => by omega)).2)
      have hbo : x81 = 1 → bdf9_ (cl9_ (T 105 0 1) (fun j => T 500 0 j)) (T 105 0 1) (T 105 0 9) x2 v = Sum.inr (U80 105 0 9, u9_ v (x2 + 2) (U80 504 0 (x2 + 2))) := fun z => (bdf9_4 (by omega)).trans (bn9_r (hq.resolve_left (fun y => by omega)).2.1)
      have e83 : U13 105 0 2 = U1 105 0 2 := up_j hU13 (by decide) 105 0
      have e84 : U13 105 0 3 = U1 105 0 3 := up_j hU13 (by decide) 105 0
      have e85 : U80 105 0 1 = T 105 0 1 := (fU80 105 0 1 rfl).trans ((up_j hU13 (by decide) 105 0).trans (fU1 105 0 1 rfl))
      refine j_blx (F := fX5) tb_X5 (by decide) bk_X5_readStatement_e_123 bs_X5_readStatement_e_123 hz (fun K hK => ?_)
      refine And.intro (fun c86 => ?_) (fun c86 => ?_)
      · refine hK 130 [some (vR 105 0), some (vI x2), some (vI x81)] [] U80 ?_
        refine j_blx (F := fX5) tb_X5 (by decide) bk_X5_readStatement_e_130 bs_X5_readStatement_e_130 hz (fun K hK => ?_)
        refine hK 131 [some (vR 105 0), some (vI x2), some (vI x81)] [vR 105 0] U80 ?_
        have hq2 := (hq.resolve_left (fun y => by omega)).2.2
        have e87 : U80 105 0 1 = T 105 0 1 := (fU80 105 0 1 rfl).trans ((up_j hU13 (by decide) 105 0).trans (fU1 105 0 1 rfl))
        refine j_callV (y := yX5_nextToken) (Yc := zX5_nextToken) (rest := []) [] (ct_X5_nextToken_e (T := U80) (by omega)) cl_X5_43 (qd_c (by decide +kernel)) (by decide) rfl (by decide +kernel) (Nat.le_of_ble_eq_true rfl) (by decide) (by decide) rfl ?_
        rintro U88 _ ⟨rfl, fU88, qU88⟩
        show J_ zX5_readStatement T (po_X5_readStatement_e T a t v) 0 0 134 [some (vR 105 0), some (vI x2), some (vI x81)] [] U88
        have fb89 : fr_ [(105, [7, 8, 9, 2, 3, 6]), (504, [])] T U80 := fr_t (fr_u (fr_t (fr_0 _ _) (fr_s fU1 rfl)) hU13 rfl) (fr_s fU80 rfl)
        have toU88 := qU88
        rw [show (fun j => U80 500 0 j) = fun j => T 500 0 j from funext fun j => fb89 500 0 j rfl, show U80 105 0 1 = T 105 0 1 from fb89 105 0 1 rfl] at toU88
        have trU88 := tk9_r toU88
        refine j_blx (F := fX5) tb_X5 (by decide) bk_X5_readStatement_e_134 bs_X5_readStatement_e_134 hz (fun K hK => ?_)
        refine hK 136 [some (vR 105 0), some (vI x2), some (vI x81)] [vI 3, vR 105 0] U88 ?_
        refine j_callV (y := yX5_isOfKind) (Yc := zX5_isOfKind) (rest := []) [vI 3] (ct_X5_isOfKind_e (T := U88)) cl_X5_79 (qd_c (by decide +kernel)) (by decide) rfl (by decide +kernel) (Nat.le_of_ble_eq_true rfl) (by decide) (by decide) rfl ?_
        rintro U90 _ ⟨x91, rfl, fU90, qU90⟩
        show J_ zX5_readStatement T (po_X5_readStatement_e T a t v) 0 0 139 [some (vR 105 0), some (vI x2), some (vI x81)] [vI x91] U90
        refine j_blx (F := fX5) tb_X5 (by decide) bk_X5_readStatement_e_139 bs_X5_readStatement_e_139 hz (fun K hK => ?_)
        refine (show po_X5_readStatement_e T a t v U90 (some (vI x91)) from ?_)
        have e92 : U90 105 0 9 = U88 105 0 9 := fU90 105 0 9 rfl
        have hsm := smf9_h toU88 (by omega) qU90
        have hb1 := hbo (by omega)
        have hq1 := (hq.resolve_left (fun y => by omega)).2.2
        have st := (stf9_b hwi hx0 (by omega)).trans (bn9_r hb1)
        have e93 : U90 105 0 6 = or_ (T 105 0 6) (sl_ 1 x2) := (fU90 105 0 6 rfl).trans ((fU88 105 0 6 rfl).trans ((fU80 105 0 6 rfl).trans (up_f hU13)))
        have e94 : U88 105 0 2 = U80 105 0 2 := fU88 105 0 2 rfl
        have e95 : U88 105 0 3 = U80 105 0 3 := fU88 105 0 3 rfl
        have w9 : U90 105 0 9 = U88 105 0 9 := fU90 105 0 9 rfl
        rcases hsm with ⟨z1, z2⟩ | ⟨z1, z2, z3, z4⟩
        · exact ⟨_, rfl, fr_t (fr_t (fr_t (fr_u (fr_t (fr_0 _ _) (fr_s fU1 rfl)) hU13 rfl) (fr_s fU80 rfl)) (fr_s fU88 rfl)) (fr_s fU90 rfl), Or.inl ⟨z1, st.trans (bn9_l z2)⟩⟩
        · exact ⟨_, rfl, fr_t (fr_t (fr_t (fr_u (fr_t (fr_0 _ _) (fr_s fU1 rfl)) hU13 rfl) (fr_s fU80 rfl)) (fr_s fU88 rfl)) (fr_s fU90 rfl), Or.inr ⟨z1, ⟨u9_ t x2 1, u9_ v (x2 + 2) (U80 504 0 (x2 + 2)), by rw [w9]; exact st.trans (bn9_r z2), by rw [e93]; exact bt9_u hb (by omega) (by omega), VH9_f (VH9_f hvh fU88 (fun _ => rfl) (fun _ => rfl)) fU90 (fun _ => rfl) (fun _ => rfl)⟩, by omega, by omega, by omega, by omega⟩⟩
      · refine (show po_X5_readStatement_e T a t v U80 (some (vI 0)) from ?_)
        exact ⟨_, rfl, fr_t (fr_u (fr_t (fr_0 _ _) (fr_s fU1 rfl)) hU13 rfl) (fr_s fU80 rfl), Or.inl ⟨rfl, (stf9_b hwi hx0 (by omega)).trans (bn9_l (hbz (by omega)))⟩⟩
    · refine hK 27 [some (vR 105 0), some (vI x2), none] [vI 5, vR 105 0] U1 ?_
      refine j_callV (y := yX5_fail) (Yc := zX5_fail) (rest := []) [vI 5] (ct_X5_fail_e (T := U1) (by omega)) cl_X5_59 (qd_c (by decide +kernel)) (by decide) rfl (by decide +kernel) (Nat.le_of_ble_eq_true rfl) (by decide) (by decide) rfl ?_
      rintro U96 _ ⟨x97, rfl, fU96, qU96⟩
      show J_ zX5_readStatement T (po_X5_readStatement_e T a t v) 0 0 30 [some (vR 105 0), some (vI x2), none] [vI x97] U96
      refine j_blx (F := fX5) tb_X5 (by decide) bk_X5_readStatement_e_30 bs_X5_readStatement_e_30 hz (fun K hK => ?_)
      refine (show po_X5_readStatement_e T a t v U96 (some (vI x97)) from ?_)
      have e98 : U96 105 0 9 = T 105 0 9 := (fU96 105 0 9 rfl).trans (fU1 105 0 9 rfl)
      have hx1 : t x2 ≠ 0 := by omega
      have e8U1 : U1 105 0 8 = T 105 0 8 := fU1 105 0 8 rfl
      refine ⟨_, rfl, fr_t (fr_t (fr_0 _ _) (fr_s fU1 rfl)) (fr_s fU96 rfl), Or.inl ⟨by omega, ?_⟩⟩
      rw [show U96 105 0 2 = 5 by omega, show U96 105 0 3 = T 105 0 8 by omega]
      exact stf9_5 hwi ht h0 hx1
  · refine (show po_X5_readStatement_e T a t v U1 (some (vI 0)) from ?_)
    have e99 : U1 105 0 9 = T 105 0 9 := fU1 105 0 9 rfl
    have hvw := wof9_h ds9_0 ht h0 qU1
    exact ⟨_, rfl, fr_t (fr_0 _ _) (fr_s fU1 rfl), Or.inl ⟨rfl, stf9_w (hvw.resolve_right (fun z => by omega)).2⟩⟩
theorem bk_X5_read_e_73 : ck_ fX5 (some .boolean) cX5_read 73 [.aload 0, .tableswitch 0 5 7 #[], .ifCond .eq 106, .iload 1, .iconst 400, .if_icmp .gt 106, .aload 0] 88 = true := qck_r (by decide) (by decide +kernel)
theorem bs_X5_read_e_73 {P : Zt → Option Zv → Prop} (K : Int → Zl → List Zv → Zt → Prop) : sx_ K P [.aload 0, .tableswitch 0 5 7 #[], .ifCond .eq 106, .iload 1, .iconst 400, .if_icmp .gt 106, .aload 0] 88 = x_aload 0 (x_g0 105 7 0 5 (x_ifCond .eq 106 K (x_iload 1 (x_iconst 400 (x_if_icmp .gt 106 K (x_aload 0 (K 88))))))) := ((xe_aload 0).trans (congrArg (x_aload 0) ((xe_g0 (kk := 105) rfl tl_5_7).trans (congrArg (x_g0 105 7 0 5) ((xe_ifCond .eq 106).trans (congrArg (x_ifCond .eq 106 K) ((xe_iload 1).trans (congrArg (x_iload 1) ((xe_iconst 400).trans (congrArg (x_iconst 400) ((xe_if_icmp .gt 106).trans (congrArg (x_if_icmp .gt 106 K) ((xe_aload 0).trans (congrArg (x_aload 0) xe_nil))))))))))))))
theorem bk_X5_read_e_106 : ck_ fX5 (some .boolean) cX5_read 106 [.iconst 1, .ireturn] 108 = true := qck_r (by decide) (by decide +kernel)
theorem bs_X5_read_e_106 {P : Zt → Option Zv → Prop} (K : Int → Zl → List Zv → Zt → Prop) : sx_ K P [.iconst 1, .ireturn] 108 = x_iconst 1 (x_ireturn P) := ((xe_iconst 1).trans (congrArg (x_iconst 1) (xe_ireturn)))
theorem bk_X5_read_e_91 : ck_ fX5 (some .boolean) cX5_read 91 [.ifCond .ne 96, .iconst 0, .ireturn] 96 = true := qck_r (by decide) (by decide +kernel)
theorem bs_X5_read_e_91 {P : Zt → Option Zv → Prop} (K : Int → Zl → List Zv → Zt → Prop) : sx_ K P [.ifCond .ne 96, .iconst 0, .ireturn] 96 = x_ifCond .ne 96 K (x_iconst 0 (x_ireturn P)) := ((xe_ifCond .ne 96).trans (congrArg (x_ifCond .ne 96 K) ((xe_iconst 0).trans (congrArg (x_iconst 0) (xe_ireturn)))))
theorem bk_X5_read_e_96 : ck_ fX5 (some .boolean) cX5_read 96 [.aload 0] 97 = true := qck_r (by decide) (by decide +kernel)
theorem bs_X5_read_e_96 {P : Zt → Option Zv → Prop} (K : Int → Zl → List Zv → Zt → Prop) : sx_ K P [.aload 0] 97 = x_aload 0 (K 97) := ((xe_aload 0).trans (congrArg (x_aload 0) xe_nil))
theorem bk_X5_read_e_100 : ck_ fX5 (some .boolean) cX5_read 100 [.iinc 1 1, .goto 73] 106 = true := qck_r (by decide) (by decide +kernel)
theorem bs_X5_read_e_100 {P : Zt → Option Zv → Prop} (K : Int → Zl → List Zv → Zt → Prop) : sx_ K P [.iinc 1 1, .goto 73] 106 = x_iinc 1 1 (x_goto 73 K) := ((xe_iinc 1 1).trans (congrArg (x_iinc 1 1) (xe_goto 73)))
theorem bk_X5_read_e_22 : ck_ fX5 (some .boolean) cX5_read 22 [.iload 1, .iconst 16, .if_icmp .ge 45, .aload 0, .tableswitch 0 5 4 #[], .iload 1] 33 = true := qck_r (by decide) (by decide +kernel)
theorem bs_X5_read_e_22 {P : Zt → Option Zv → Prop} (K : Int → Zl → List Zv → Zt → Prop) : sx_ K P [.iload 1, .iconst 16, .if_icmp .ge 45, .aload 0, .tableswitch 0 5 4 #[], .iload 1] 33 = x_iload 1 (x_iconst 16 (x_if_icmp .ge 45 K (x_aload 0 (x_g1 105 504 (x_iload 1 (K 33)))))) := ((xe_iload 1).trans (congrArg (x_iload 1) ((xe_iconst 16).trans (congrArg (x_iconst 16) ((xe_if_icmp .ge 45).trans (congrArg (x_if_icmp .ge 45 K) ((xe_aload 0).trans (congrArg (x_aload 0) ((xe_g1 (kk := 105) rfl tl_5_4).trans (congrArg (x_g1 105 504) ((xe_iload 1).trans (congrArg (x_iload 1) xe_nil))))))))))))
theorem bk_X5_read_e_45 : ck_ fX5 (some .boolean) cX5_read 45 [.aload 0, .tableswitch 0 5 5 #[], .iconst (-1)] 50 = true := qck_r (by decide) (by decide +kernel)
theorem bs_X5_read_e_45 {P : Zt → Option Zv → Prop} (K : Int → Zl → List Zv → Zt → Prop) : sx_ K P [.aload 0, .tableswitch 0 5 5 #[], .iconst (-1)] 50 = x_aload 0 (x_g1 105 505 (x_iconst (-1) (K 50))) := ((xe_aload 0).trans (congrArg (x_aload 0) ((xe_g1 (kk := 105) rfl tl_5_5).trans (congrArg (x_g1 105 505) ((xe_iconst (-1)).trans (congrArg (x_iconst (-1)) xe_nil))))))
theorem bk_X5_read_e_53 : ck_ fX5 (some .boolean) cX5_read 53 [.aload 0, .tableswitch 0 5 5 #[], .iconst 0, .iconst 0, .iastore, .aload 0, .tableswitch 0 5 5 #[], .iconst 1, .iconst 1, .iastore, .aload 0] 68 = true := qck_r (by decide) (by decide +kernel)
theorem bs_X5_read_e_53 {P : Zt → Option Zv → Prop} (K : Int → Zl → List Zv → Zt → Prop) : sx_ K P [.aload 0, .tableswitch 0 5 5 #[], .iconst 0, .iconst 0, .iastore, .aload 0, .tableswitch 0 5 5 #[], .iconst 1, .iconst 1, .iastore, .aload 0] 68 = x_aload 0 (x_g1 105 505 (x_iconst 0 (x_iconst 0 (x_iastore (x_aload 0 (x_g1 105 505 (x_iconst 1 (x_iconst 1 (x_iastore (x_aload 0 (K 68))))))))))) := ((xe_aload 0).trans (congrArg (x_aload 0) ((xe_g1 (kk := 105) rfl tl_5_5).trans (congrArg (x_g1 105 505) ((xe_iconst 0).trans (congrArg (x_iconst 0) ((xe_iconst 0).trans (congrArg (x_iconst 0) ((xe_iastore).trans (congrArg (x_iastore) ((xe_aload 0).trans (congrArg (x_aload 0) ((xe_g1 (kk := 105) rfl tl_5_5).trans (congrArg (x_g1 105 505) ((xe_iconst 1).trans (congrArg (x_iconst 1) ((xe_iconst 1).trans (congrArg (x_iconst 1) ((xe_iastore).trans (congrArg (x_iastore) ((xe_aload 0).trans (congrArg (x_aload 0) xe_nil))))))))))))))))))))))
theorem bk_X5_read_e_71 : ck_ fX5 (some .boolean) cX5_read 71 [.iconst 0, .istore 1] 73 = true := qck_r (by decide) (by decide +kernel)
theorem bs_X5_read_e_71 {P : Zt → Option Zv → Prop} (K : Int → Zl → List Zv → Zt → Prop) : sx_ K P [.iconst 0, .istore 1] 73 = x_iconst 0 (x_istore 1 (K 73)) := ((xe_iconst 0).trans (congrArg (x_iconst 0) ((xe_istore 1).trans (congrArg (x_istore 1) xe_nil))))
theorem bk_X5_read_e_36 : ck_ fX5 (some .boolean) cX5_read 36 [.iload 1] 37 = true := qck_r (by decide) (by decide +kernel)
theorem bs_X5_read_e_36 {P : Zt → Option Zv → Prop} (K : Int → Zl → List Zv → Zt → Prop) : sx_ K P [.iload 1] 37 = x_iload 1 (K 37) := ((xe_iload 1).trans (congrArg (x_iload 1) xe_nil))
theorem bk_X5_read_e_38 : ck_ fX5 (some .boolean) cX5_read 38 [.iastore, .iinc 1 1, .goto 22] 45 = true := qck_r (by decide) (by decide +kernel)
theorem bs_X5_read_e_38 {P : Zt → Option Zv → Prop} (K : Int → Zl → List Zv → Zt → Prop) : sx_ K P [.iastore, .iinc 1 1, .goto 22] 45 = x_iastore (x_iinc 1 1 (x_goto 22 K)) := ((xe_iastore).trans (congrArg (x_iastore) ((xe_iinc 1 1).trans (congrArg (x_iinc 1 1) (xe_goto 22)))))
theorem bk_X5_read_e_0 : ck_ fX5 (some .boolean) cX5_read 0 [.aload 0, .iconst 0, .tableswitch 1 5 2 #[], .aload 0, .iconst (-1), .tableswitch 1 5 3 #[], .aload 0, .iconst 0, .tableswitch 1 5 6 #[], .aload 0, .iconst 0, .tableswitch 1 5 9 #[], .iconst 0, .istore 1] 22 = true := qck_r (by decide) (by decide +kernel)
theorem bs_X5_read_e_0 {P : Zt → Option Zv → Prop} (K : Int → Zl → List Zv → Zt → Prop) : sx_ K P [.aload 0, .iconst 0, .tableswitch 1 5 2 #[], .aload 0, .iconst (-1), .tableswitch 1 5 3 #[], .aload 0, .iconst 0, .tableswitch 1 5 6 #[], .aload 0, .iconst 0, .tableswitch 1 5 9 #[], .iconst 0, .istore 1] 22 = x_aload 0 (x_iconst 0 (x_p 105 2 0 5 (x_aload 0 (x_iconst (-1) (x_p 105 3 (-1) 400 (x_aload 0 (x_iconst 0 (x_p 105 6 (-2147483648) 2147483647 (x_aload 0 (x_iconst 0 (x_p 105 9 0 400 (x_iconst 0 (x_istore 1 (K 22)))))))))))))) := ((xe_aload 0).trans (congrArg (x_aload 0) ((xe_iconst 0).trans (congrArg (x_iconst 0) ((xe_p (kk := 105) rfl tl_5_2).trans (congrArg (x_p 105 2 0 5) ((xe_aload 0).trans (congrArg (x_aload 0) ((xe_iconst (-1)).trans (congrArg (x_iconst (-1)) ((xe_p (kk := 105) rfl tl_5_3).trans (congrArg (x_p 105 3 (-1) 400) ((xe_aload 0).trans (congrArg (x_aload 0) ((xe_iconst 0).trans (congrArg (x_iconst 0) ((xe_p (kk := 105) rfl tl_5_6).trans (congrArg (x_p 105 6 (-2147483648) 2147483647) ((xe_aload 0).trans (congrArg (x_aload 0) ((xe_iconst 0).trans (congrArg (x_iconst 0) ((xe_p (kk := 105) rfl tl_5_9).trans (congrArg (x_p 105 9 0 400) ((xe_iconst 0).trans (congrArg (x_iconst 0) ((xe_istore 1).trans (congrArg (x_istore 1) xe_nil))))))))))))))))))))))))))))
abbrev po_X5_read_e (T : Zt) : Zt → Option Zv → Prop := fun T' r => ∃ x : Int, r = some (vI x) ∧ fr_ [(105, [7, 8, 9, 2, 3, 6]), (504, []), (505, [])] T T' ∧ ((x = 0 ∧ rdf9_ 402 (cl9_ (T 105 0 1) (fun j => T 500 0 j)) (T 105 0 1) 0 (fun _ => 0) dv9_ = Sum.inl (T' 105 0 2, T' 105 0 3)) ∨ (x = 1 ∧ HV9_ (rdf9_ 402 (cl9_ (T 105 0 1) (fun j => T 500 0 j)) (T 105 0 1) 0 (fun _ => 0) dv9_) T' ∧ T' 105 0 3 = -1))
set_option maxHeartbeats 4000000 in
theorem ct_X5_read_e {T : Zt} : Ct_ yX5_read zX5_read T [vR 105 0] (po_X5_read_e T) := by
  refine ct_of (by decide) rfl rfl (Nat.le_of_ble_eq_true rfl) (fun hT hav => ?_)
  have hz : zX5_read.2.2.2.1 = some .boolean → ∀ (T' : Zt) (x : Int), po_X5_read_e T T' (some (vI x)) → 0 ≤ x ∧ x ≤ 1 := fun _ T' x h => by obtain ⟨y, e, -, hy⟩ := h; cases e; omega
  have hln : 0 ≤ T 105 0 1 ∧ T 105 0 1 ≤ 400 := bd_f hT 105 1 (by decide +kernel : (tf_ 105)[1]? = some (0, 0, 0, 400)) 0
  show J_ zX5_read T (po_X5_read_e T) 0 0 0 [some (vR 105 0), none] [] T
  have c_73 : ∀ (nn : Nat) (n : Int) (f : Nat) (a : Int) (t : Int → Int) (v : Int → Int) (T2 : Zt), ((401 - n).toNat) ≤ nn → (fr_ [(105, [7, 8, 9, 2, 3, 6]), (504, []), (505, [])] T T2) → (0 ≤ n ∧ n ≤ a ∧ 401 ≤ (f : Int) + a ∧ T2 105 0 2 = 0 ∧ T2 105 0 3 = -1) → (0 ≤ a) → (TK9_ (fun j => T 500 0 j) (T 105 0 1) a (T2 105 0 8) (T2 105 0 9) (T2 105 0 7)) → (BT9_ (T2 105 0 6) t) → (VH9_ T2 v) → (rdf9_ 402 (cl9_ (T 105 0 1) (fun j => T 500 0 j)) (T 105 0 1) 0 (fun _ => 0) dv9_ = rdf9_ (f + 1) (cl9_ (T 105 0 1) (fun j => T 500 0 j)) (T 105 0 1) a t v) → J_ zX5_read T (po_X5_read_e T) 0 0 73 [some (vR 105 0), some (vI n)] [] T2 := by
    intro nn
    induction nn using Nat.strongRecOn with
    | _ nn ih_73 =>
      intro n f a t v T2 hm_73 hf_73 i2 h0 tk hb hv ir
      refine j_blx (F := fX5) tb_X5 (by decide) bk_X5_read_e_73 bs_X5_read_e_73 hz (fun K hK => ?_)
      intro b1 b1b
      refine And.intro (fun c2 => ?_) (fun c2 => ?_)
      · refine hK 106 [some (vR 105 0), some (vI n)] [] T2 ?_
        refine j_blx (F := fX5) tb_X5 (by decide) bk_X5_read_e_106 bs_X5_read_e_106 hz (fun K hK => ?_)
        refine (show po_X5_read_e T T2 (some (vI 1)) from ?_)
        exact ⟨_, rfl, fr_t (fr_0 _ _) (fr_s hf_73 rfl), Or.inr ⟨rfl, ⟨_, ir.trans (rdf9_z tk h0 (by omega)), hv⟩, by omega⟩⟩
      · refine And.intro (fun c3 => ?_) (fun c3 => ?_)
        · exact absurd c3 (by have tr := tk9_r tk; omega)
        · refine hK 88 [some (vR 105 0), some (vI n)] [vR 105 0] T2 ?_
          have tr := tk9_r tk
          have hk0 : T2 105 0 7 ≠ 0 := by omega
          have e4 : T2 105 0 1 = T 105 0 1 := hf_73 105 0 1 rfl
          refine j_callV (y := yX5_readStatement) (Yc := zX5_readStatement) (rest := []) [] (ct_X5_readStatement_e (T := T2) (a := a) (t := t) (v := v) h0 (by rw [show (fun j => T2 500 0 j) = fun j => T 500 0 j from funext fun j => hf_73 500 0 j rfl, show T2 105 0 1 = T 105 0 1 from hf_73 105 0 1 rfl]; exact tk) hb hv) cl_X5_49 (qd_c (by decide +kernel)) (by decide) rfl (by decide +kernel) (Nat.le_of_ble_eq_true rfl) (by decide) (by decide) rfl ?_
          rintro U5 _ ⟨x6, rfl, fU5, qU5⟩
          rw [show (fun j => T2 500 0 j) = fun j => T 500 0 j from funext fun j => hf_73 500 0 j rfl, show T2 105 0 1 = T 105 0 1 from hf_73 105 0 1 rfl] at qU5
          show J_ zX5_read T (po_X5_read_e T) 0 0 91 [some (vR 105 0), some (vI n)] [vI x6] U5
          refine j_blx (F := fX5) tb_X5 (by decide) bk_X5_read_e_91 bs_X5_read_e_91 hz (fun K hK => ?_)
          refine And.intro (fun c7 => ?_) (fun c7 => ?_)
          · refine hK 96 [some (vR 105 0), some (vI n)] [] U5 ?_
            obtain ⟨z1, ⟨t9, v9, z2, z3, z4⟩, z5⟩ := qU5.resolve_left (fun z => by omega)
            refine j_blx (F := fX5) tb_X5 (by decide) bk_X5_read_e_96 bs_X5_read_e_96 hz (fun K hK => ?_)
            refine hK 97 [some (vR 105 0), some (vI n)] [vR 105 0] U5 ?_
            have e8 : U5 105 0 1 = T 105 0 1 := (fU5 105 0 1 rfl).trans (hf_73 105 0 1 rfl)
            refine j_callV (y := yX5_nextToken) (Yc := zX5_nextToken) (rest := []) [] (ct_X5_nextToken_e (T := U5) (by omega)) cl_X5_43 (qd_c (by decide +kernel)) (by decide) rfl (by decide +kernel) (Nat.le_of_ble_eq_true rfl) (by decide) (by decide) rfl ?_
            rintro U9 _ ⟨rfl, fU9, qU9⟩
            show J_ zX5_read T (po_X5_read_e T) 0 0 100 [some (vR 105 0), some (vI n)] [] U9
            refine j_blx (F := fX5) tb_X5 (by decide) bk_X5_read_e_100 bs_X5_read_e_100 hz (fun K hK => ?_)
            refine rg_i (by omega) ?_
            refine hK 73 [some (vR 105 0), some (vI (n + 1))] [] U9 ?_
            have e10 : U9 105 0 2 = U5 105 0 2 := fU9 105 0 2 rfl
            have e11 : U9 105 0 3 = U5 105 0 3 := fU9 105 0 3 rfl
            have e12 : U9 105 0 6 = U5 105 0 6 := fU9 105 0 6 rfl
            refine ih_73 _ ?_ (n + 1) (f - 1) (U5 105 0 9) t9 v9 U9 (Nat.le_refl _) ?_ ?_ ?_ ?_ ?_ ?_ ?_
            · omega
            · exact fr_t (fr_t (fr_t (fr_0 _ _) (fr_s hf_73 rfl)) (fr_s fU5 rfl)) (fr_s fU9 rfl)
            · have tr2 := tk9_r qU9
              have y2 : U9 105 0 2 = U5 105 0 2 := fU9 105 0 2 rfl
              have y3 : U9 105 0 3 = U5 105 0 3 := fU9 105 0 3 rfl
              omega
            · omega
            have fb13 : fr_ [(105, [7, 8, 9, 2, 3, 6]), (504, []), (505, [])] T U5 := fr_t (fr_t (fr_0 _ _) (fr_s hf_73 rfl)) (fr_s fU5 rfl)
            · have z := qU9
              rw [show (fun j => U5 500 0 j) = fun j => T 500 0 j from funext fun j => fb13 500 0 j rfl, show U5 105 0 1 = T 105 0 1 from fb13 105 0 1 rfl] at z
              exact z
            · rw [show U9 105 0 6 = U5 105 0 6 from fU9 105 0 6 rfl]
              exact z3
            · exact VH9_f z4 fU9 (fun _ => rfl) (fun _ => rfl)
            · rw [show f - 1 + 1 = f by omega]
              exact ir.trans ((rdf9_s tk h0 hk0).trans (bn9_r z2))
          · refine (show po_X5_read_e T U5 (some (vI 0)) from ?_)
            exact ⟨_, rfl, fr_t (fr_t (fr_0 _ _) (fr_s hf_73 rfl)) (fr_s fU5 rfl), Or.inl ⟨rfl, ir.trans ((rdf9_s tk h0 hk0).trans (bn9_l (qU5.resolve_right (fun z => by omega)).2))⟩⟩
  have c_22 : ∀ (nn : Nat) (k : Int) (T1 : Zt), ((16 - k).toNat) ≤ nn → (fr_ [(105, [7, 8, 9, 2, 3, 6]), (504, []), (505, [])] T T1) → (0 ≤ k ∧ k ≤ 16 ∧ T1 105 0 2 = 0 ∧ T1 105 0 3 = -1 ∧ T1 105 0 6 = 0 ∧ T1 105 0 9 = 0) → (∀ j, 0 ≤ j → j < k → T1 504 0 j = (sa_ 0).getD j.toNat 0) → J_ zX5_read T (po_X5_read_e T) 0 0 22 [some (vR 105 0), some (vI k)] [] T1 := by
    intro nn
    induction nn using Nat.strongRecOn with
    | _ nn ih_22 =>
      intro k T1 hm_22 hf_22 i1 d1
      refine j_blx (F := fX5) tb_X5 (by decide) bk_X5_read_e_22 bs_X5_read_e_22 hz (fun K hK => ?_)
      refine And.intro (fun c14 => ?_) (fun c14 => ?_)
      · refine hK 45 [some (vR 105 0), some (vI k)] [] T1 ?_
        refine j_blx (F := fX5) tb_X5 (by decide) bk_X5_read_e_45 bs_X5_read_e_45 hz (fun K hK => ?_)
        refine hK 50 [some (vR 105 0), some (vI k)] [vI (-1), vR 505 0] T1 ?_
        refine j_callS (y := yJ7_fill_53178) (Yc := zJ7_fill_53178) (rest := []) [vR 505 0, vI (-1)] (ct_J7_fill_505 (T := T1) (by omega)) cl_X5_37 (qd_c (by decide +kernel)) (by decide) rfl (by decide +kernel) (Nat.le_of_ble_eq_true rfl) (by decide) (by decide) rfl ?_
        rintro U15 _ ⟨rfl, fU15, qU15o, qU15⟩
        show J_ zX5_read T (po_X5_read_e T) 0 0 53 [some (vR 105 0), some (vI k)] [] U15
        refine j_blx (F := fX5) tb_X5 (by decide) bk_X5_read_e_53 bs_X5_read_e_53 hz (fun K hK => ?_)
        refine iy_i (by omega) (by omega) ?_
        refine x_nm (fun U16 hU16 => ?_)
        have e17 := up_f hU16
        refine iy_i (by omega) (by omega) ?_
        refine x_nm (fun U18 hU18 => ?_)
        have e19 := up_f hU18
        refine hK 68 [some (vR 105 0), some (vI k)] [vR 105 0] U18 ?_
        have e20 : U18 105 0 9 = T1 105 0 9 := (up_k hU18 (by decide) 0 9).trans ((up_k hU16 (by decide) 0 9).trans (fU15 105 0 9 rfl))
        have e21 : U18 105 0 1 = T 105 0 1 := (up_k hU18 (by decide) 0 1).trans ((up_k hU16 (by decide) 0 1).trans ((fU15 105 0 1 rfl).trans (hf_22 105 0 1 rfl)))
        refine j_callV (y := yX5_nextToken) (Yc := zX5_nextToken) (rest := []) [] (ct_X5_nextToken_e (T := U18) (by omega)) cl_X5_43 (qd_c (by decide +kernel)) (by decide) rfl (by decide +kernel) (Nat.le_of_ble_eq_true rfl) (by decide) (by decide) rfl ?_
        rintro U22 _ ⟨rfl, fU22, qU22⟩
        show J_ zX5_read T (po_X5_read_e T) 0 0 71 [some (vR 105 0), some (vI k)] [] U22
        refine j_blx (F := fX5) tb_X5 (by decide) bk_X5_read_e_71 bs_X5_read_e_71 hz (fun K hK => ?_)
        refine hK 73 [some (vR 105 0), some (vI 0)] [] U22 ?_
        have e23 : U22 105 0 2 = T1 105 0 2 := (fU22 105 0 2 rfl).trans ((up_k hU18 (by decide) 0 2).trans ((up_k hU16 (by decide) 0 2).trans (fU15 105 0 2 rfl)))
        have e24 : U22 105 0 3 = T1 105 0 3 := (fU22 105 0 3 rfl).trans ((up_k hU18 (by decide) 0 3).trans ((up_k hU16 (by decide) 0 3).trans (fU15 105 0 3 rfl)))
        have e25 : U22 105 0 6 = T1 105 0 6 := (fU22 105 0 6 rfl).trans ((up_k hU18 (by decide) 0 6).trans ((up_k hU16 (by decide) 0 6).trans (fU15 105 0 6 rfl)))
        refine c_73 _ 0 401 0 (fun _ => 0) dv9_ U22 (Nat.le_refl _) ?_ ?_ ?_ ?_ ?_ ?_ ?_
        · exact fr_t (fr_u (fr_u (fr_t (fr_t (fr_0 _ _) (fr_s hf_22 rfl)) (fr_s fU15 rfl)) hU16 rfl) hU18 rfl) (fr_s fU22 rfl)
        · omega
        · omega
        have fb26 : fr_ [(505, []), (105, [7, 8, 9, 2, 3, 6]), (504, [])] T U18 := fr_u (fr_u (fr_t (fr_t (fr_0 _ _) (fr_s hf_22 rfl)) (fr_s fU15 rfl)) hU16 rfl) hU18 rfl
        have e27 : U18 105 0 9 = T1 105 0 9 := (up_k hU18 (by decide) 0 9).trans ((up_k hU16 (by decide) 0 9).trans (fU15 105 0 9 rfl))
        · have z := qU22
          rw [show (fun j => U18 500 0 j) = fun j => T 500 0 j from funext fun j => fb26 500 0 j rfl, show U18 105 0 1 = T 105 0 1 from fb26 105 0 1 rfl, show U18 105 0 9 = 0 by omega] at z
          exact z
        have e28 : U22 105 0 6 = T1 105 0 6 := (fU22 105 0 6 rfl).trans ((up_k hU18 (by decide) 0 6).trans ((up_k hU16 (by decide) 0 6).trans (fU15 105 0 6 rfl)))
        · rw [show U22 105 0 6 = 0 by omega]
          exact bt9_0
        · refine ⟨fun j a b => ?_, fun k9 a b => ?_⟩
          · rw [dv9_i b]
            exact ((fU22 504 0 j rfl).trans ((up_k hU18 (by decide) 0 j).trans ((up_k hU16 (by decide) 0 j).trans (fU15 504 0 j rfl)))).trans (d1 j a (by omega))
          · rw [dv9_4] at b
            rcases (by omega : k9 = 0 ∨ k9 = 1) with rfl | rfl
            · rw [dv9_16]
              exact (fU22 505 0 0 rfl).trans ((up_j hU18 (by decide) 505 0).trans (up_f hU16))
            · rw [dv9_17]
              exact (fU22 505 0 1 rfl).trans (up_f hU18)
        · rfl
      · refine hK 33 [some (vR 105 0), some (vI k)] [vI k, vR 504 0] T1 ?_
        refine j_gs81 (pc := 33) (i := 0) (by decide) (by decide) (lw_b2 203 (by decide +kernel) rfl : Cond.fieldLink RX5 34 "SportsHouse$RuleText" (sn_ 0) "[I" ∈ lw_g) (by decide +kernel) ?_
        show J_ zX5_read T (po_X5_read_e T) 0 0 36 [some (vR 105 0), some (vI k)] [vR 81 0, vI k, vR 504 0] T1
        refine j_blx (F := fX5) tb_X5 (by decide) bk_X5_read_e_36 bs_X5_read_e_36 hz (fun K hK => ?_)
        refine hK 37 [some (vR 105 0), some (vI k)] [vI k, vR 81 0, vI k, vR 504 0] T1 ?_
        refine j_ld81 (pc := 37) (i := 0) (by decide) (by decide) (by omega) (by omega) (by decide +kernel) ?_
        have y29 := sa_b 0 (by decide) k.toNat (by omega)
        show J_ zX5_read T (po_X5_read_e T) 0 0 38 [some (vR 105 0), some (vI k)] [vI ((sa_ 0).getD k.toNat 0), vI k, vR 504 0] T1
        refine j_blx (F := fX5) tb_X5 (by decide) bk_X5_read_e_38 bs_X5_read_e_38 hz (fun K hK => ?_)
        refine iy_i (by omega) (by omega) ?_
        refine x_nm (fun U30 hU30 => ?_)
        have e31 := up_f hU30
        refine rg_i (by omega) ?_
        refine hK 22 [some (vR 105 0), some (vI (k + 1))] [] U30 ?_
        have e32 : U30 105 0 2 = T1 105 0 2 := up_k hU30 (by decide) 0 2
        have e33 : U30 105 0 3 = T1 105 0 3 := up_k hU30 (by decide) 0 3
        have e34 : U30 105 0 6 = T1 105 0 6 := up_k hU30 (by decide) 0 6
        have e35 : U30 105 0 9 = T1 105 0 9 := up_k hU30 (by decide) 0 9
        refine ih_22 _ ?_ (k + 1) U30 (Nat.le_refl _) ?_ ?_ ?_
        · omega
        · exact fr_u (fr_t (fr_0 _ _) (fr_s hf_22 rfl)) hU30 rfl
        · omega
        · intro j a b
          by_cases z : j = k
          · rw [z]; exact up_f hU30
          · rw [up_g hU30 (fun q => z q.2.2)]; exact d1 j a (by omega)
  refine j_blx (F := fX5) tb_X5 (by decide) bk_X5_read_e_0 bs_X5_read_e_0 hz (fun K hK => ?_)
  refine bd_i (by omega) ?_
  refine x_nm (fun U36 hU36 => ?_)
  have e37 := up_f hU36
  refine bd_i (by omega) ?_
  refine x_nm (fun U38 hU38 => ?_)
  have e39 := up_f hU38
  refine bd_i (by omega) ?_
  refine x_nm (fun U40 hU40 => ?_)
  have e41 := up_f hU40
  refine bd_i (by omega) ?_
  refine x_nm (fun U42 hU42 => ?_)
  have e43 := up_f hU42
  refine hK 22 [some (vR 105 0), some (vI 0)] [] U42 ?_
  have e44 : U42 105 0 2 = 0 := (up_j hU42 (by decide) 105 0).trans ((up_j hU40 (by decide) 105 0).trans ((up_j hU38 (by decide) 105 0).trans (up_f hU36)))
  have e45 : U42 105 0 3 = (-1) := (up_j hU42 (by decide) 105 0).trans ((up_j hU40 (by decide) 105 0).trans (up_f hU38))
  have e46 : U42 105 0 6 = 0 := (up_j hU42 (by decide) 105 0).trans (up_f hU40)
  have e47 : U42 105 0 9 = 0 := up_f hU42
  refine c_22 _ 0 U42 (Nat.le_refl _) ?_ ?_ ?_
  · exact fr_u (fr_u (fr_u (fr_u (fr_0 _ _) hU36 rfl) hU38 rfl) hU40 rfl) hU42 rfl
  · omega
  · intro j a b; omega

