theorem bk_X10_drawn_e_0 : ck_ fX10 (some .int) cX10_drawn 0 [.aload 0, .iload 1] 2 = true := qck_r (nn_ _) (by decide +kernel)
theorem bs_X10_drawn_e_0 {P : Zt → Option Zv → Prop} (K : Int → Zl → List Zv → Zt → Prop) : sx_ K P [.aload 0, .iload 1] 2 = x_aload 0 (x_iload 1 (K 2)) := ((xe_aload 0).trans (congrArg (x_aload 0) ((xe_iload 1).trans (congrArg (x_iload 1) xe_nil))))
theorem bk_X10_drawn_e_5 : ck_ fX10 (some .int) cX10_drawn 5 [.ifCond .ne 11, .iconst (-2), .ireturn] 11 = true := qck_r (nn_ _) (by decide +kernel)
theorem bs_X10_drawn_e_5 {P : Zt → Option Zv → Prop} (K : Int → Zl → List Zv → Zt → Prop) : sx_ K P [.ifCond .ne 11, .iconst (-2), .ireturn] 11 = x_ifCond .ne 11 K (x_iconst (-2) (x_ireturn P)) := ((xe_ifCond .ne 11).trans (congrArg (x_ifCond .ne 11 K) ((xe_iconst (-2)).trans (congrArg (x_iconst (-2)) (xe_ireturn)))))
theorem bk_X10_drawn_e_11 : ck_ fX10 (some .int) cX10_drawn 11 [.aload 0, .tableswitch 0 10 5 #[], .tableswitch 0 1 1 #[], .ifCond .ne 25, .iconst (-1), .goto 34] 25 = true := qck_r (nn_ _) (by decide +kernel)
theorem bs_X10_drawn_e_11 {P : Zt → Option Zv → Prop} (K : Int → Zl → List Zv → Zt → Prop) : sx_ K P [.aload 0, .tableswitch 0 10 5 #[], .tableswitch 0 1 1 #[], .ifCond .ne 25, .iconst (-1), .goto 34] 25 = x_aload 0 (x_g1 110 101 (x_g0 101 1 0 4 (x_ifCond .ne 25 K (x_iconst (-1) (x_goto 34 K))))) := ((xe_aload 0).trans (congrArg (x_aload 0) ((xe_g1 (kk := 110) rfl tl_10_5).trans (congrArg (x_g1 110 101) ((xe_g0 (kk := 101) rfl tl_1_1).trans (congrArg (x_g0 101 1 0 4) ((xe_ifCond .ne 25).trans (congrArg (x_ifCond .ne 25 K) ((xe_iconst (-1)).trans (congrArg (x_iconst (-1)) (xe_goto 34)))))))))))
theorem bk_X10_drawn_e_25 : ck_ fX10 (some .int) cX10_drawn 25 [.aload 0, .tableswitch 0 10 5 #[], .tableswitch 0 1 9 #[], .iload 1, .iaload, .ireturn] 35 = true := qck_r (nn_ _) (by decide +kernel)
theorem bs_X10_drawn_e_25 {P : Zt → Option Zv → Prop} (K : Int → Zl → List Zv → Zt → Prop) : sx_ K P [.aload 0, .tableswitch 0 10 5 #[], .tableswitch 0 1 9 #[], .iload 1, .iaload, .ireturn] 35 = x_aload 0 (x_g1 110 101 (x_g1 101 429 (x_iload 1 (x_iaload (x_ireturn P))))) := ((xe_aload 0).trans (congrArg (x_aload 0) ((xe_g1 (kk := 110) rfl tl_10_5).trans (congrArg (x_g1 110 101) ((xe_g1 (kk := 101) rfl tl_1_9).trans (congrArg (x_g1 101 429) ((xe_iload 1).trans (congrArg (x_iload 1) ((xe_iaload).trans (congrArg (x_iaload) (xe_ireturn)))))))))))
theorem bk_X10_drawn_e_34 : ck_ fX10 (some .int) cX10_drawn 34 [.ireturn] 35 = true := qck_r (nn_ _) (by decide +kernel)
theorem bs_X10_drawn_e_34 {P : Zt → Option Zv → Prop} (K : Int → Zl → List Zv → Zt → Prop) : sx_ K P [.ireturn] 35 = x_ireturn P := (xe_ireturn)
abbrev po_X10_drawn_e (T : Zt) (c : Int) : Zt → Option Zv → Prop := fun T' r => T = T' ∧ ∃ x : Int, r = some (vI x) ∧ (DWH_ T c x)
set_option maxHeartbeats 4000000 in
theorem ct_X10_drawn_e {T : Zt} {c : Int} : Ct_ yX10_drawn zX10_drawn T [vR 110 0, vI c] (po_X10_drawn_e T c) := by
  refine ct_of pn_10 rfl rfl (Nat.le_of_ble_eq_true rfl) (fun hT hav => ?_)
  have hr_c : -2147483648 ≤ c ∧ c ≤ 2147483647 := hav (vI c) (List.mem_cons_of_mem _ List.mem_cons_self)
  have hz : zX10_drawn.2.2.2.1 = some .boolean → ∀ (T' : Zt) (x : Int), po_X10_drawn_e T c T' (some (vI x)) → 0 ≤ x ∧ x ≤ 1 := fun h => by cases h
  have hb_clubs : 0 ≤ T 108 0 2 ∧ T 108 0 2 ≤ 12 := bd_f hT 108 2 tl_8_2 0
  show J_ zX10_drawn T (po_X10_drawn_e T c) 0 0 0 [some (vR 110 0), some (vI c)] [] T
  refine j_blx (F := fX10) tb_X10 (nn_ _) bk_X10_drawn_e_0 bs_X10_drawn_e_0 hz (fun K hK => ?_)
  refine hK 2 _ [vI c, vR 110 0] T ?_
  refine j_callV (y := yX10_isClub) (Yc := zX10_isClub) (rest := []) [vI c] (ct_X10_isClub (T := T)) cl_X10_137 (qd_c (by decide +kernel)) (nn_ _) rfl (rf_of rfl) (Nat.le_of_ble_eq_true rfl) (Nat.le_of_ble_eq_true rfl) (Nat.le_of_ble_eq_true rfl) rfl ?_
  rintro _ _ ⟨rfl, x1, rfl, hx1⟩
  show J_ zX10_drawn T (po_X10_drawn_e T c) 0 0 5 _ [vI x1] T
  refine j_blx (F := fX10) tb_X10 (nn_ _) bk_X10_drawn_e_5 bs_X10_drawn_e_5 hz (fun K hK => ?_)
  refine And.intro (fun c2 => ?_) (fun c2 => ?_)
  · replace hx1 := hx1.resolve_right (fun z => c2 z.1)
    clear c2
    refine hK 11 _ [] T ?_
    refine j_blx (F := fX10) tb_X10 (nn_ _) bk_X10_drawn_e_11 bs_X10_drawn_e_11 hz (fun K hK => ?_)
    intro b3 b3b
    refine And.intro (fun c4 => ?_) (fun c4 => ?_)
    · refine hK 25 _ [] T ?_
      refine j_blx (F := fX10) tb_X10 (nn_ _) bk_X10_drawn_e_25 bs_X10_drawn_e_25 hz (fun K hK => ?_)
      refine ix_i (by omega) ?_
      intro b5 b5b
      refine (show po_X10_drawn_e T c T (some (vI (T 429 0 c))) from ?_)
      exact ⟨rfl, _, rfl, Or.inr ⟨by omega, Or.inr ⟨by omega, rfl⟩⟩⟩
    · refine hK 34 _ [vI (-1)] T ?_
      refine j_blx (F := fX10) tb_X10 (nn_ _) bk_X10_drawn_e_34 bs_X10_drawn_e_34 hz (fun K hK => ?_)
      refine (show po_X10_drawn_e T c T (some (vI (-1))) from ?_)
      exact ⟨rfl, _, rfl, Or.inr ⟨by omega, Or.inl ⟨by omega, rfl⟩⟩⟩
  · replace hx1 := hx1.resolve_left (fun z => absurd (c2.symm.trans z.1) (by decide))
    clear c2
    refine (show po_X10_drawn_e T c T (some (vI (-2))) from ?_)
    exact ⟨rfl, _, rfl, Or.inl ⟨rfl, by omega⟩⟩
