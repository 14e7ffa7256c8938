theorem bk_X10_drawing_e_0 : ck_ fX10 (some .int) cX10_drawing 0 [.iload 1, .iconst 1, .if_icmp .lt 20, .iload 1, .iconst 4, .if_icmp .gt 20, .iload 2, .iconst 1, .if_icmp .lt 20, .iload 2, .iconst 3, .if_icmp .le 23, .iconst (-3), .ireturn] 23 = true := qck_r (nn_ _) (by decide +kernel)
theorem bs_X10_drawing_e_0 {P : Zt → Option Zv → Prop} (K : Int → Zl → List Zv → Zt → Prop) : sx_ K P [.iload 1, .iconst 1, .if_icmp .lt 20, .iload 1, .iconst 4, .if_icmp .gt 20, .iload 2, .iconst 1, .if_icmp .lt 20, .iload 2, .iconst 3, .if_icmp .le 23, .iconst (-3), .ireturn] 23 = x_iload 1 (x_iconst 1 (x_if_icmp .lt 20 K (x_iload 1 (x_iconst 4 (x_if_icmp .gt 20 K (x_iload 2 (x_iconst 1 (x_if_icmp .lt 20 K (x_iload 2 (x_iconst 3 (x_if_icmp .le 23 K (x_iconst (-3) (x_ireturn P))))))))))))) := ((xe_iload 1).trans (congrArg (x_iload 1) ((xe_iconst 1).trans (congrArg (x_iconst 1) ((xe_if_icmp .lt 20).trans (congrArg (x_if_icmp .lt 20 K) ((xe_iload 1).trans (congrArg (x_iload 1) ((xe_iconst 4).trans (congrArg (x_iconst 4) ((xe_if_icmp .gt 20).trans (congrArg (x_if_icmp .gt 20 K) ((xe_iload 2).trans (congrArg (x_iload 2) ((xe_iconst 1).trans (congrArg (x_iconst 1) ((xe_if_icmp .lt 20).trans (congrArg (x_if_icmp .lt 20 K) ((xe_iload 2).trans (congrArg (x_iload 2) ((xe_iconst 3).trans (congrArg (x_iconst 3) ((xe_if_icmp .le 23).trans (congrArg (x_if_icmp .le 23 K) ((xe_iconst (-3)).trans (congrArg (x_iconst (-3)) (xe_ireturn)))))))))))))))))))))))))))
theorem bk_X10_drawing_e_20 : ck_ fX10 (some .int) cX10_drawing 20 [.iconst (-3), .ireturn] 23 = true := qck_r (nn_ _) (by decide +kernel)
theorem bs_X10_drawing_e_20 {P : Zt → Option Zv → Prop} (K : Int → Zl → List Zv → Zt → Prop) : sx_ K P [.iconst (-3), .ireturn] 23 = x_iconst (-3) (x_ireturn P) := ((xe_iconst (-3)).trans (congrArg (x_iconst (-3)) (xe_ireturn)))
theorem bk_X10_drawing_e_23 : ck_ fX10 (some .int) cX10_drawing 23 [.aload 0, .tableswitch 0 10 5 #[], .iload 1, .iload 2] 29 = true := qck_r (nn_ _) (by decide +kernel)
theorem bs_X10_drawing_e_23 {P : Zt → Option Zv → Prop} (K : Int → Zl → List Zv → Zt → Prop) : sx_ K P [.aload 0, .tableswitch 0 10 5 #[], .iload 1, .iload 2] 29 = x_aload 0 (x_g1 110 101 (x_iload 1 (x_iload 2 (K 29)))) := ((xe_aload 0).trans (congrArg (x_aload 0) ((xe_g1 (kk := 110) rfl tl_10_5).trans (congrArg (x_g1 110 101) ((xe_iload 1).trans (congrArg (x_iload 1) ((xe_iload 2).trans (congrArg (x_iload 2) xe_nil))))))))
theorem bk_X10_drawing_e_32 : ck_ fX10 (some .int) cX10_drawing 32 [.iconst 1, .ireturn] 34 = true := qck_r (nn_ _) (by decide +kernel)
theorem bs_X10_drawing_e_32 {P : Zt → Option Zv → Prop} (K : Int → Zl → List Zv → Zt → Prop) : sx_ K P [.iconst 1, .ireturn] 34 = x_iconst 1 (x_ireturn P) := ((xe_iconst 1).trans (congrArg (x_iconst 1) (xe_ireturn)))
abbrev po_X10_drawing_e (T : Zt) (g l : Int) : Zt → Option Zv → Prop := fun T' r => ∃ x : Int, r = some (vI x) ∧ fr_ [(101, [1, 2, 3, 4, 7]), (428, []), (429, []), (430, [])] T T' ∧ (((x = -3 ∧ ¬ (1 ≤ g ∧ g ≤ 4 ∧ 1 ≤ l ∧ l ≤ 3)) ∨ (x = 1 ∧ 1 ≤ g ∧ g ≤ 4 ∧ 1 ≤ l ∧ l ≤ 3)) ∧ NDH_ T T' g l x)
set_option maxHeartbeats 4000000 in
theorem ct_X10_drawing_e {T : Zt} {g l : Int} : Ct_ yX10_drawing zX10_drawing T [vR 110 0, vI g, vI l] (po_X10_drawing_e T g l) := by
  refine ct_of pn_10 rfl rfl (Nat.le_of_ble_eq_true rfl) (fun hT hav => ?_)
  have hr_g : -2147483648 ≤ g ∧ g ≤ 2147483647 := hav (vI g) (List.mem_cons_of_mem _ List.mem_cons_self)
  have hr_l : -2147483648 ≤ l ∧ l ≤ 2147483647 := hav (vI l) (List.mem_cons_of_mem _ (List.mem_cons_of_mem _ List.mem_cons_self))
  have hz : zX10_drawing.2.2.2.1 = some .boolean → ∀ (T' : Zt) (x : Int), po_X10_drawing_e T g l T' (some (vI x)) → 0 ≤ x ∧ x ≤ 1 := fun h => by cases h
  show J_ zX10_drawing T (po_X10_drawing_e T g l) 0 0 0 [some (vR 110 0), some (vI g), some (vI l)] [] T
  refine j_blx (F := fX10) tb_X10 (nn_ _) bk_X10_drawing_e_0 bs_X10_drawing_e_0 hz (fun K hK => ?_)
  refine And.intro (fun c1 => ?_) (fun c1 => ?_)
  · refine hK 20 _ [] T ?_
    refine j_blx (F := fX10) tb_X10 (nn_ _) bk_X10_drawing_e_20 bs_X10_drawing_e_20 hz (fun K hK => ?_)
    refine (show po_X10_drawing_e T g l T (some (vI (-3))) from ?_)
    exact ⟨_, rfl, fr_0 _ _, by omega, Or.inl ⟨rfl, rfl, by omega⟩⟩
  · refine And.intro (fun c2 => ?_) (fun c2 => ?_)
    · refine hK 20 _ [] T ?_
      refine j_blx (F := fX10) tb_X10 (nn_ _) bk_X10_drawing_e_20 bs_X10_drawing_e_20 hz (fun K hK => ?_)
      refine (show po_X10_drawing_e T g l T (some (vI (-3))) from ?_)
      exact ⟨_, rfl, fr_0 _ _, by omega, Or.inl ⟨rfl, rfl, by omega⟩⟩
    · refine And.intro (fun c3 => ?_) (fun c3 => ?_)
      · refine hK 20 _ [] T ?_
        refine j_blx (F := fX10) tb_X10 (nn_ _) bk_X10_drawing_e_20 bs_X10_drawing_e_20 hz (fun K hK => ?_)
        refine (show po_X10_drawing_e T g l T (some (vI (-3))) from ?_)
        exact ⟨_, rfl, fr_0 _ _, by omega, Or.inl ⟨rfl, rfl, by omega⟩⟩
      · refine And.intro (fun c4 => ?_) (fun c4 => ?_)
        · refine hK 23 _ [] T ?_
          refine j_blx (F := fX10) tb_X10 (nn_ _) bk_X10_drawing_e_23 bs_X10_drawing_e_23 hz (fun K hK => ?_)
          refine hK 29 _ [vI l, vI g, vR 101 0] T ?_
          refine j_callV (y := yX1_openNew) (Yc := zX1_openNew) (rest := []) [vI g, vI l] (ct_X1_openNew_e (T := T) (by omega) (by omega)) cl_X10_380 (qd_c (by decide +kernel)) (nn_ _) rfl (rf_of rfl) (Nat.le_of_ble_eq_true rfl) (Nat.le_of_ble_eq_true rfl) (Nat.le_of_ble_eq_true rfl) rfl ?_
          rintro U5 _ ⟨rfl, fU5, qU5⟩
          show J_ zX10_drawing T (po_X10_drawing_e T g l) 0 0 32 _ [] U5
          refine j_blx (F := fX10) tb_X10 (nn_ _) bk_X10_drawing_e_32 bs_X10_drawing_e_32 hz (fun K hK => ?_)
          refine (show po_X10_drawing_e T g l U5 (some (vI 1)) from ?_)
          exact ⟨_, rfl, fr_t (fr_0 _ _) (fr_s fU5 rfl), by omega, Or.inr ⟨by omega, rfl, qU5⟩⟩
        · refine (show po_X10_drawing_e T g l T (some (vI (-3))) from ?_)
          exact ⟨_, rfl, fr_0 _ _, by omega, Or.inl ⟨rfl, rfl, by omega⟩⟩
