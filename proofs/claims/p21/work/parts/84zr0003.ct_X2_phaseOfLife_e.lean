theorem bk_X2_phaseOfLife_e_0 : ck_ fX2 (some .int) cX2_phaseOfLife 0 [.aload 0, .tableswitch 0 2 6 #[], .iconst (-1), .if_icmp .eq 10, .iconst 3, .ireturn] 10 = true := qck_r (nn_ _) (by decide +kernel)
theorem bs_X2_phaseOfLife_e_0 {P : Zt → Option Zv → Prop} (K : Int → Zl → List Zv → Zt → Prop) : sx_ K P [.aload 0, .tableswitch 0 2 6 #[], .iconst (-1), .if_icmp .eq 10, .iconst 3, .ireturn] 10 = x_aload 0 (x_g0 102 6 (-1) 1 (x_iconst (-1) (x_if_icmp .eq 10 K (x_iconst 3 (x_ireturn P))))) := ((xe_aload 0).trans (congrArg (x_aload 0) ((xe_g0 (kk := 102) rfl tl_2_6).trans (congrArg (x_g0 102 6 (-1) 1) ((xe_iconst (-1)).trans (congrArg (x_iconst (-1)) ((xe_if_icmp .eq 10).trans (congrArg (x_if_icmp .eq 10 K) ((xe_iconst 3).trans (congrArg (x_iconst 3) (xe_ireturn)))))))))))
theorem bk_X2_phaseOfLife_e_10 : ck_ fX2 (some .int) cX2_phaseOfLife 10 [.aload 0, .tableswitch 0 2 10 #[], .ifnonnull 19, .iconst 0, .ireturn] 19 = true := qck_r (nn_ _) (by decide +kernel)
theorem bs_X2_phaseOfLife_e_10 {P : Zt → Option Zv → Prop} (K : Int → Zl → List Zv → Zt → Prop) : sx_ K P [.aload 0, .tableswitch 0 2 10 #[], .ifnonnull 19, .iconst 0, .ireturn] 19 = x_aload 0 (x_g4 102 103 10 (x_ifnonnull 19 K (x_iconst 0 (x_ireturn P)))) := ((xe_aload 0).trans (congrArg (x_aload 0) ((xe_g4 (kk := 102) rfl tl_2_10).trans (congrArg (x_g4 102 103 10) ((xe_ifnonnull 19).trans (congrArg (x_ifnonnull 19 K) ((xe_iconst 0).trans (congrArg (x_iconst 0) (xe_ireturn)))))))))
theorem bk_X2_phaseOfLife_e_19 : ck_ fX2 (some .int) cX2_phaseOfLife 19 [.aload 0, .tableswitch 0 2 10 #[], .tableswitch 0 3 3 #[], .ifCond .eq 33, .iconst 2, .goto 34] 33 = true := qck_r (nn_ _) (by decide +kernel)
theorem bs_X2_phaseOfLife_e_19 {P : Zt → Option Zv → Prop} (K : Int → Zl → List Zv → Zt → Prop) : sx_ K P [.aload 0, .tableswitch 0 2 10 #[], .tableswitch 0 3 3 #[], .ifCond .eq 33, .iconst 2, .goto 34] 33 = x_aload 0 (x_g4 102 103 10 (x_g0 103 3 0 1 (x_ifCond .eq 33 K (x_iconst 2 (x_goto 34 K))))) := ((xe_aload 0).trans (congrArg (x_aload 0) ((xe_g4 (kk := 102) rfl tl_2_10).trans (congrArg (x_g4 102 103 10) ((xe_g0 (kk := 103) rfl tl_3_3).trans (congrArg (x_g0 103 3 0 1) ((xe_ifCond .eq 33).trans (congrArg (x_ifCond .eq 33 K) ((xe_iconst 2).trans (congrArg (x_iconst 2) (xe_goto 34)))))))))))
theorem bk_X2_phaseOfLife_e_33 : ck_ fX2 (some .int) cX2_phaseOfLife 33 [.iconst 1, .ireturn] 35 = true := qck_r (nn_ _) (by decide +kernel)
theorem bs_X2_phaseOfLife_e_33 {P : Zt → Option Zv → Prop} (K : Int → Zl → List Zv → Zt → Prop) : sx_ K P [.iconst 1, .ireturn] 35 = x_iconst 1 (x_ireturn P) := ((xe_iconst 1).trans (congrArg (x_iconst 1) (xe_ireturn)))
theorem bk_X2_phaseOfLife_e_34 : ck_ fX2 (some .int) cX2_phaseOfLife 34 [.ireturn] 35 = true := qck_r (nn_ _) (by decide +kernel)
theorem bs_X2_phaseOfLife_e_34 {P : Zt → Option Zv → Prop} (K : Int → Zl → List Zv → Zt → Prop) : sx_ K P [.ireturn] 35 = x_ireturn P := (xe_ireturn)
abbrev po_X2_phaseOfLife_e (T : Zt) (p : Int) : Zt → Option Zv → Prop := fun T' r => T = T' ∧ ∃ x : Int, r = some (vI x) ∧ ((T 102 p 6 ≠ -1 ∧ x = 3) ∨ (T 102 p 6 = -1 ∧ ((T 102 p 10 = 0 ∧ x = 0) ∨ (T 102 p 10 ≠ 0 ∧ ((T 103 p 3 = 0 ∧ x = 1) ∨ (T 103 p 3 ≠ 0 ∧ x = 2))))))
set_option maxHeartbeats 4000000 in
theorem ct_X2_phaseOfLife_e {T : Zt} {p : Int} : Ct_ yX2_phaseOfLife zX2_phaseOfLife T [vR 102 p] (po_X2_phaseOfLife_e T p) := by
  refine ct_of pn_2 rfl rfl (Nat.le_of_ble_eq_true rfl) (fun hT hav => ?_)
  have hz : zX2_phaseOfLife.2.2.2.1 = some .boolean → ∀ (T' : Zt) (x : Int), po_X2_phaseOfLife_e T p T' (some (vI x)) → 0 ≤ x ∧ x ≤ 1 := fun h => by cases h
  show J_ zX2_phaseOfLife T (po_X2_phaseOfLife_e T p) 0 0 0 [some (vR 102 p)] [] T
  refine j_blx (F := fX2) tb_X2 (nn_ _) bk_X2_phaseOfLife_e_0 bs_X2_phaseOfLife_e_0 hz (fun K hK => ?_)
  intro b1 b1b
  refine And.intro (fun c2 => ?_) (fun c2 => ?_)
  · refine hK 10 _ [] T ?_
    refine j_blx (F := fX2) tb_X2 (nn_ _) bk_X2_phaseOfLife_e_10 bs_X2_phaseOfLife_e_10 hz (fun K hK => ?_)
    refine And.intro (fun c3 => ?_) (fun c3 => ?_)
    · refine (show po_X2_phaseOfLife_e T p T (some (vI 0)) from ?_)
      exact ⟨rfl, _, rfl, by omega⟩
    · refine hK 19 _ [] T ?_
      refine j_blx (F := fX2) tb_X2 (nn_ _) bk_X2_phaseOfLife_e_19 bs_X2_phaseOfLife_e_19 hz (fun K hK => ?_)
      refine And.intro (fun c4 => ?_) (fun c4 => ?_)
      · exact absurd c4 (by omega)
      · intro b5 b5b
        refine And.intro (fun c6 => ?_) (fun c6 => ?_)
        · refine hK 33 _ [] T ?_
          refine j_blx (F := fX2) tb_X2 (nn_ _) bk_X2_phaseOfLife_e_33 bs_X2_phaseOfLife_e_33 hz (fun K hK => ?_)
          refine (show po_X2_phaseOfLife_e T p T (some (vI 1)) from ?_)
          exact ⟨rfl, _, rfl, by omega⟩
        · refine hK 34 _ [vI 2] T ?_
          refine j_blx (F := fX2) tb_X2 (nn_ _) bk_X2_phaseOfLife_e_34 bs_X2_phaseOfLife_e_34 hz (fun K hK => ?_)
          refine (show po_X2_phaseOfLife_e T p T (some (vI 2)) from ?_)
          exact ⟨rfl, _, rfl, by omega⟩
  · refine (show po_X2_phaseOfLife_e T p T (some (vI 3)) from ?_)
    exact ⟨rfl, _, rfl, by omega⟩
