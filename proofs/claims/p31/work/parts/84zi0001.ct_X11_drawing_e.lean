theorem bk_X11_ways_e_0 : ck_ fX11 (some .int) cX11_ways 0 [.aload 0, .tableswitch 0 11 98 #[], .ifCond .eq 16, .aload 0, .iconst (-1), .iconst (-1)] 10 = true := qck_r (nn_ _) (by decide +kernel)
theorem bs_X11_ways_e_0 {P : Zt → Option Zv → Prop} (K : Int → Zl → List Zv → Zt → Prop) : sx_ K P [.aload 0, .tableswitch 0 11 98 #[], .ifCond .eq 16, .aload 0, .iconst (-1), .iconst (-1)] 10 = x_aload 0 (x_g0 111 98 0 1 (x_ifCond .eq 16 K (x_aload 0 (x_iconst (-1) (x_iconst (-1) (K 10)))))) := ((xe_aload 0).trans (congrArg (x_aload 0) ((xe_g0 (kk := 111) rfl tl_11_98).trans (congrArg (x_g0 111 98 0 1) ((xe_ifCond .eq 16).trans (congrArg (x_ifCond .eq 16 K) ((xe_aload 0).trans (congrArg (x_aload 0) ((xe_iconst (-1)).trans (congrArg (x_iconst (-1)) ((xe_iconst (-1)).trans (congrArg (x_iconst (-1)) xe_nil))))))))))))
theorem bk_X11_ways_e_16 : ck_ fX11 (some .int) cX11_ways 16 [.iconst (-4), .ireturn] 19 = true := qck_r (nn_ _) (by decide +kernel)
theorem bs_X11_ways_e_16 {P : Zt → Option Zv → Prop} (K : Int → Zl → List Zv → Zt → Prop) : sx_ K P [.iconst (-4), .ireturn] 19 = x_iconst (-4) (x_ireturn P) := ((xe_iconst (-4)).trans (congrArg (x_iconst (-4)) (xe_ireturn)))
theorem bk_X11_ways_e_13 : ck_ fX11 (some .int) cX11_ways 13 [.goto 18] 16 = true := qck_r (nn_ _) (by decide +kernel)
theorem bs_X11_ways_e_13 {P : Zt → Option Zv → Prop} (K : Int → Zl → List Zv → Zt → Prop) : sx_ K P [.goto 18] 16 = x_goto 18 K := (xe_goto 18)
theorem bk_X11_ways_e_18 : ck_ fX11 (some .int) cX11_ways 18 [.ireturn] 19 = true := qck_r (nn_ _) (by decide +kernel)
theorem bs_X11_ways_e_18 {P : Zt → Option Zv → Prop} (K : Int → Zl → List Zv → Zt → Prop) : sx_ K P [.ireturn] 19 = x_ireturn P := (xe_ireturn)
abbrev po_X11_ways_e (T : Zt) : Zt → Option Zv → Prop := fun T' r => ∃ x : Int, r = some (vI x) ∧ fr_ [(304, []), (305, []), (302, [])] T T' ∧ (x = x ∧ WYR_ T T' x)
set_option maxHeartbeats 4000000 in
theorem ct_X11_ways_e {T : Zt} : Ct_ yX11_ways zX11_ways T [vR 111 0] (po_X11_ways_e T) := by
  refine ct_of pn_11 rfl rfl (Nat.le_of_ble_eq_true rfl) (fun hT hav => ?_)
  have hz : zX11_ways.2.2.2.1 = some .boolean → ∀ (T' : Zt) (x : Int), po_X11_ways_e T T' (some (vI x)) → 0 ≤ x ∧ x ≤ 1 := fun h => by cases h
  show J_ zX11_ways T (po_X11_ways_e T) 0 0 0 [some (vR 111 0)] [] T
  refine j_blx (F := fX11) tb_X11 (nn_ _) bk_X11_ways_e_0 bs_X11_ways_e_0 hz (fun K hK => ?_)
  intro b1 b1b
  refine And.intro (fun c2 => ?_) (fun c2 => ?_)
  · refine hK 16 _ [] T ?_
    refine j_blx (F := fX11) tb_X11 (nn_ _) bk_X11_ways_e_16 bs_X11_ways_e_16 hz (fun K hK => ?_)
    refine (show po_X11_ways_e T T (some (vI (-4))) from ?_)
    exact ⟨_, rfl, fr_0 _ _, rfl, Or.inl ⟨rfl, by omega, rfl⟩⟩
  · refine hK 10 _ [vI (-1), vI (-1), vR 111 0] T ?_
    refine j_callV (y := yX11_countWays) (Yc := zX11_countWays) (rest := []) [vI (-1), vI (-1)] (ct_X11_countWays (T := T)) cl_X11_591 (qd_c (by decide +kernel)) (nn_ _) rfl (rf_of rfl) (Nat.le_of_ble_eq_true rfl) (Nat.le_of_ble_eq_true rfl) (Nat.le_of_ble_eq_true rfl) rfl ?_
    rintro U3 _ ⟨x4, rfl, fU3, qU3⟩
    have bU3 := qU3.2.2
    show J_ zX11_ways T (po_X11_ways_e T) 0 0 13 _ [vI x4] U3
    refine j_blx (F := fX11) tb_X11 (nn_ _) bk_X11_ways_e_13 bs_X11_ways_e_13 hz (fun K hK => ?_)
    refine hK 18 _ [vI x4] U3 ?_
    refine j_blx (F := fX11) tb_X11 (nn_ _) bk_X11_ways_e_18 bs_X11_ways_e_18 hz (fun K hK => ?_)
    refine (show po_X11_ways_e T U3 (some (vI x4)) from ?_)
    exact ⟨_, rfl, fr_t (fr_0 _ _) (fr_s fU3 rfl), rfl, Or.inr ⟨by omega, qU3.2.1, qU3.1⟩⟩
theorem bk_X11_chanceOf_e_0 : ck_ fX11 (some .int) cX11_chanceOf 0 [.aload 0, .tableswitch 0 11 102 #[], .iload 1, .iaload, .iconst (-1), .if_icmp .eq 31, .aload 0, .tableswitch 0 11 102 #[], .iload 1, .iaload, .iload 2, .if_icmp .ne 29, .aload 0, .iconst (-1), .iconst (-1)] 23 = true := qck_r (nn_ _) (by decide +kernel)
theorem bs_X11_chanceOf_e_0 {P : Zt → Option Zv → Prop} (K : Int → Zl → List Zv → Zt → Prop) : sx_ K P [.aload 0, .tableswitch 0 11 102 #[], .iload 1, .iaload, .iconst (-1), .if_icmp .eq 31, .aload 0, .tableswitch 0 11 102 #[], .iload 1, .iaload, .iload 2, .if_icmp .ne 29, .aload 0, .iconst (-1), .iconst (-1)] 23 = x_aload 0 (x_g1 111 302 (x_iload 1 (x_iaload (x_iconst (-1) (x_if_icmp .eq 31 K (x_aload 0 (x_g1 111 302 (x_iload 1 (x_iaload (x_iload 2 (x_if_icmp .ne 29 K (x_aload 0 (x_iconst (-1) (x_iconst (-1) (K 23))))))))))))))) := ((xe_aload 0).trans (congrArg (x_aload 0) ((xe_g1 (kk := 111) rfl tl_11_102).trans (congrArg (x_g1 111 302) ((xe_iload 1).trans (congrArg (x_iload 1) ((xe_iaload).trans (congrArg (x_iaload) ((xe_iconst (-1)).trans (congrArg (x_iconst (-1)) ((xe_if_icmp .eq 31).trans (congrArg (x_if_icmp .eq 31 K) ((xe_aload 0).trans (congrArg (x_aload 0) ((xe_g1 (kk := 111) rfl tl_11_102).trans (congrArg (x_g1 111 302) ((xe_iload 1).trans (congrArg (x_iload 1) ((xe_iaload).trans (congrArg (x_iaload) ((xe_iload 2).trans (congrArg (x_iload 2) ((xe_if_icmp .ne 29).trans (congrArg (x_if_icmp .ne 29 K) ((xe_aload 0).trans (congrArg (x_aload 0) ((xe_iconst (-1)).trans (congrArg (x_iconst (-1)) ((xe_iconst (-1)).trans (congrArg (x_iconst (-1)) xe_nil))))))))))))))))))))))))))))))
theorem bk_X11_chanceOf_e_31 : ck_ fX11 (some .int) cX11_chanceOf 31 [.aload 0, .iload 1, .iload 2] 34 = true := qck_r (nn_ _) (by decide +kernel)
theorem bs_X11_chanceOf_e_31 {P : Zt → Option Zv → Prop} (K : Int → Zl → List Zv → Zt → Prop) : sx_ K P [.aload 0, .iload 1, .iload 2] 34 = x_aload 0 (x_iload 1 (x_iload 2 (K 34))) := ((xe_aload 0).trans (congrArg (x_aload 0) ((xe_iload 1).trans (congrArg (x_iload 1) ((xe_iload 2).trans (congrArg (x_iload 2) xe_nil))))))
theorem bk_X11_chanceOf_e_37 : ck_ fX11 (some .int) cX11_chanceOf 37 [.ireturn] 38 = true := qck_r (nn_ _) (by decide +kernel)
theorem bs_X11_chanceOf_e_37 {P : Zt → Option Zv → Prop} (K : Int → Zl → List Zv → Zt → Prop) : sx_ K P [.ireturn] 38 = x_ireturn P := (xe_ireturn)
theorem bk_X11_chanceOf_e_29 : ck_ fX11 (some .int) cX11_chanceOf 29 [.iconst 0, .ireturn] 31 = true := qck_r (nn_ _) (by decide +kernel)
theorem bs_X11_chanceOf_e_29 {P : Zt → Option Zv → Prop} (K : Int → Zl → List Zv → Zt → Prop) : sx_ K P [.iconst 0, .ireturn] 31 = x_iconst 0 (x_ireturn P) := ((xe_iconst 0).trans (congrArg (x_iconst 0) (xe_ireturn)))
theorem bk_X11_chanceOf_e_26 : ck_ fX11 (some .int) cX11_chanceOf 26 [.goto 30] 29 = true := qck_r (nn_ _) (by decide +kernel)
theorem bs_X11_chanceOf_e_26 {P : Zt → Option Zv → Prop} (K : Int → Zl → List Zv → Zt → Prop) : sx_ K P [.goto 30] 29 = x_goto 30 K := (xe_goto 30)
theorem bk_X11_chanceOf_e_30 : ck_ fX11 (some .int) cX11_chanceOf 30 [.ireturn] 31 = true := qck_r (nn_ _) (by decide +kernel)
theorem bs_X11_chanceOf_e_30 {P : Zt → Option Zv → Prop} (K : Int → Zl → List Zv → Zt → Prop) : sx_ K P [.ireturn] 31 = x_ireturn P := (xe_ireturn)
abbrev po_X11_chanceOf_e (T : Zt) (cl g : Int) : Zt → Option Zv → Prop := fun T' r => ∃ x : Int, r = some (vI x) ∧ fr_ [(304, []), (305, []), (302, [])] T T' ∧ (CO9_ T T' cl g x)
set_option maxHeartbeats 4000000 in
theorem ct_X11_chanceOf_e {T : Zt} {cl g : Int} (h1 : 0 ≤ cl ∧ cl < 12) : Ct_ yX11_chanceOf zX11_chanceOf T [vR 111 0, vI cl, vI g] (po_X11_chanceOf_e T cl g) := by
  refine ct_of pn_11 rfl rfl (Nat.le_of_ble_eq_true rfl) (fun hT hav => ?_)
  have hr_cl : -2147483648 ≤ cl ∧ cl ≤ 2147483647 := hav (vI cl) (List.mem_cons_of_mem _ List.mem_cons_self)
  have hr_g : -2147483648 ≤ g ∧ g ≤ 2147483647 := hav (vI g) (List.mem_cons_of_mem _ (List.mem_cons_of_mem _ List.mem_cons_self))
  have hz : zX11_chanceOf.2.2.2.1 = some .boolean → ∀ (T' : Zt) (x : Int), po_X11_chanceOf_e T cl g T' (some (vI x)) → 0 ≤ x ∧ x ≤ 1 := fun h => by cases h
  show J_ zX11_chanceOf T (po_X11_chanceOf_e T cl g) 0 0 0 [some (vR 111 0), some (vI cl), some (vI g)] [] T
  refine j_blx (F := fX11) tb_X11 (nn_ _) bk_X11_chanceOf_e_0 bs_X11_chanceOf_e_0 hz (fun K hK => ?_)
  refine ix_i (by omega) ?_
  intro b1 b1b
  refine And.intro (fun c2 => ?_) (fun c2 => ?_)
  · refine hK 31 _ [] T ?_
    refine j_blx (F := fX11) tb_X11 (nn_ _) bk_X11_chanceOf_e_31 bs_X11_chanceOf_e_31 hz (fun K hK => ?_)
    refine hK 34 _ [vI g, vI cl, vR 111 0] T ?_
    refine j_callV (y := yX11_countWays) (Yc := zX11_countWays) (rest := []) [vI cl, vI g] (ct_X11_countWays (T := T)) cl_X11_591 (qd_c (by decide +kernel)) (nn_ _) rfl (rf_of rfl) (Nat.le_of_ble_eq_true rfl) (Nat.le_of_ble_eq_true rfl) (Nat.le_of_ble_eq_true rfl) rfl ?_
    rintro U3 _ ⟨x4, rfl, fU3, qU3⟩
    have bU3 := qU3.2.2
    show J_ zX11_chanceOf T (po_X11_chanceOf_e T cl g) 0 0 37 _ [vI x4] U3
    refine j_blx (F := fX11) tb_X11 (nn_ _) bk_X11_chanceOf_e_37 bs_X11_chanceOf_e_37 hz (fun K hK => ?_)
    refine (show po_X11_chanceOf_e T cl g U3 (some (vI x4)) from ?_)
    first
    | exact ⟨_, rfl, fr_t (fr_0 _ _) (fr_s fU3 rfl), qU3.2.1, Or.inl ⟨by omega, Or.inl ⟨by omega, qU3.1⟩⟩⟩
    | exact ⟨_, rfl, fr_t (fr_0 _ _) (fr_s fU3 rfl), qU3.2.1, Or.inr ⟨by omega, qU3.1⟩⟩
  · refine ix_i (by omega) ?_
    intro b5 b5b
    refine And.intro (fun c6 => ?_) (fun c6 => ?_)
    · refine hK 29 _ [] T ?_
      refine j_blx (F := fX11) tb_X11 (nn_ _) bk_X11_chanceOf_e_29 bs_X11_chanceOf_e_29 hz (fun K hK => ?_)
      refine (show po_X11_chanceOf_e T cl g T (some (vI 0)) from ?_)
      exact ⟨_, rfl, fr_0 _ _, fun _ => rfl, Or.inl ⟨by omega, Or.inr ⟨by omega, rfl⟩⟩⟩
    · refine hK 23 _ [vI (-1), vI (-1), vR 111 0] T ?_
      refine j_callV (y := yX11_countWays) (Yc := zX11_countWays) (rest := []) [vI (-1), vI (-1)] (ct_X11_countWays (T := T)) cl_X11_591 (qd_c (by decide +kernel)) (nn_ _) rfl (rf_of rfl) (Nat.le_of_ble_eq_true rfl) (Nat.le_of_ble_eq_true rfl) (Nat.le_of_ble_eq_true rfl) rfl ?_
      rintro U7 _ ⟨x8, rfl, fU7, qU7⟩
      have bU7 := qU7.2.2
      show J_ zX11_chanceOf T (po_X11_chanceOf_e T cl g) 0 0 26 _ [vI x8] U7
      refine j_blx (F := fX11) tb_X11 (nn_ _) bk_X11_chanceOf_e_26 bs_X11_chanceOf_e_26 hz (fun K hK => ?_)
      refine hK 30 _ [vI x8] U7 ?_
      refine j_blx (F := fX11) tb_X11 (nn_ _) bk_X11_chanceOf_e_30 bs_X11_chanceOf_e_30 hz (fun K hK => ?_)
      refine (show po_X11_chanceOf_e T cl g U7 (some (vI x8)) from ?_)
      first
      | exact ⟨_, rfl, fr_t (fr_0 _ _) (fr_s fU7 rfl), qU7.2.1, Or.inl ⟨by omega, Or.inl ⟨by omega, qU7.1⟩⟩⟩
      | exact ⟨_, rfl, fr_t (fr_0 _ _) (fr_s fU7 rfl), qU7.2.1, Or.inr ⟨by omega, qU7.1⟩⟩
theorem bk_X11_chance_e_0 : ck_ fX11 (some .int) cX11_chance 0 [.iload 1, .aload 0, .tableswitch 0 11 12 #[]] 5 = true := qck_r (nn_ _) (by decide +kernel)
theorem bs_X11_chance_e_0 {P : Zt → Option Zv → Prop} (K : Int → Zl → List Zv → Zt → Prop) : sx_ K P [.iload 1, .aload 0, .tableswitch 0 11 12 #[]] 5 = x_iload 1 (x_aload 0 (x_g0 111 12 0 12 (K 5))) := ((xe_iload 1).trans (congrArg (x_iload 1) ((xe_aload 0).trans (congrArg (x_aload 0) ((xe_g0 (kk := 111) rfl tl_11_12).trans (congrArg (x_g0 111 12 0 12) xe_nil))))))
theorem bk_X11_chance_e_8 : ck_ fX11 (some .int) cX11_chance 8 [.ifCond .eq 19, .aload 0, .iload 1] 13 = true := qck_r (nn_ _) (by decide +kernel)
theorem bs_X11_chance_e_8 {P : Zt → Option Zv → Prop} (K : Int → Zl → List Zv → Zt → Prop) : sx_ K P [.ifCond .eq 19, .aload 0, .iload 1] 13 = x_ifCond .eq 19 K (x_aload 0 (x_iload 1 (K 13))) := ((xe_ifCond .eq 19).trans (congrArg (x_ifCond .eq 19 K) ((xe_aload 0).trans (congrArg (x_aload 0) ((xe_iload 1).trans (congrArg (x_iload 1) xe_nil))))))
theorem bk_X11_chance_e_19 : ck_ fX11 (some .int) cX11_chance 19 [.iconst (-2), .ireturn] 22 = true := qck_r (nn_ _) (by decide +kernel)
theorem bs_X11_chance_e_19 {P : Zt → Option Zv → Prop} (K : Int → Zl → List Zv → Zt → Prop) : sx_ K P [.iconst (-2), .ireturn] 22 = x_iconst (-2) (x_ireturn P) := ((xe_iconst (-2)).trans (congrArg (x_iconst (-2)) (xe_ireturn)))
theorem bk_X11_chance_e_16 : ck_ fX11 (some .int) cX11_chance 16 [.ifCond .ne 22, .iconst (-2), .ireturn] 22 = true := qck_r (nn_ _) (by decide +kernel)
theorem bs_X11_chance_e_16 {P : Zt → Option Zv → Prop} (K : Int → Zl → List Zv → Zt → Prop) : sx_ K P [.ifCond .ne 22, .iconst (-2), .ireturn] 22 = x_ifCond .ne 22 K (x_iconst (-2) (x_ireturn P)) := ((xe_ifCond .ne 22).trans (congrArg (x_ifCond .ne 22 K) ((xe_iconst (-2)).trans (congrArg (x_iconst (-2)) (xe_ireturn)))))
theorem bk_X11_chance_e_22 : ck_ fX11 (some .int) cX11_chance 22 [.iload 2, .aload 0, .tableswitch 0 11 99 #[]] 27 = true := qck_r (nn_ _) (by decide +kernel)
theorem bs_X11_chance_e_22 {P : Zt → Option Zv → Prop} (K : Int → Zl → List Zv → Zt → Prop) : sx_ K P [.iload 2, .aload 0, .tableswitch 0 11 99 #[]] 27 = x_iload 2 (x_aload 0 (x_g0 111 99 0 4 (K 27))) := ((xe_iload 2).trans (congrArg (x_iload 2) ((xe_aload 0).trans (congrArg (x_aload 0) ((xe_g0 (kk := 111) rfl tl_11_99).trans (congrArg (x_g0 111 99 0 4) xe_nil))))))
theorem bk_X11_chance_e_30 : ck_ fX11 (some .int) cX11_chance 30 [.ifCond .eq 42, .aload 0, .iload 1, .iload 2] 36 = true := qck_r (nn_ _) (by decide +kernel)
theorem bs_X11_chance_e_30 {P : Zt → Option Zv → Prop} (K : Int → Zl → List Zv → Zt → Prop) : sx_ K P [.ifCond .eq 42, .aload 0, .iload 1, .iload 2] 36 = x_ifCond .eq 42 K (x_aload 0 (x_iload 1 (x_iload 2 (K 36)))) := ((xe_ifCond .eq 42).trans (congrArg (x_ifCond .eq 42 K) ((xe_aload 0).trans (congrArg (x_aload 0) ((xe_iload 1).trans (congrArg (x_iload 1) ((xe_iload 2).trans (congrArg (x_iload 2) xe_nil))))))))
theorem bk_X11_chance_e_42 : ck_ fX11 (some .int) cX11_chance 42 [.iconst (-3), .ireturn] 45 = true := qck_r (nn_ _) (by decide +kernel)
theorem bs_X11_chance_e_42 {P : Zt → Option Zv → Prop} (K : Int → Zl → List Zv → Zt → Prop) : sx_ K P [.iconst (-3), .ireturn] 45 = x_iconst (-3) (x_ireturn P) := ((xe_iconst (-3)).trans (congrArg (x_iconst (-3)) (xe_ireturn)))
theorem bk_X11_chance_e_39 : ck_ fX11 (some .int) cX11_chance 39 [.goto 44] 42 = true := qck_r (nn_ _) (by decide +kernel)
theorem bs_X11_chance_e_39 {P : Zt → Option Zv → Prop} (K : Int → Zl → List Zv → Zt → Prop) : sx_ K P [.goto 44] 42 = x_goto 44 K := (xe_goto 44)
theorem bk_X11_chance_e_44 : ck_ fX11 (some .int) cX11_chance 44 [.ireturn] 45 = true := qck_r (nn_ _) (by decide +kernel)
theorem bs_X11_chance_e_44 {P : Zt → Option Zv → Prop} (K : Int → Zl → List Zv → Zt → Prop) : sx_ K P [.ireturn] 45 = x_ireturn P := (xe_ireturn)
abbrev po_X11_chance_e (T : Zt) (cl g : Int) : Zt → Option Zv → Prop := fun T' r => ∃ x : Int, r = some (vI x) ∧ fr_ [(304, []), (305, []), (302, [])] T T' ∧ (x = x ∧ CHR_ T T' cl g x)
set_option maxHeartbeats 4000000 in
theorem ct_X11_chance_e {T : Zt} {cl g : Int} : Ct_ yX11_chance zX11_chance T [vR 111 0, vI cl, vI g] (po_X11_chance_e T cl g) := by
  refine ct_of pn_11 rfl rfl (Nat.le_of_ble_eq_true rfl) (fun hT hav => ?_)
  have hr_cl : -2147483648 ≤ cl ∧ cl ≤ 2147483647 := hav (vI cl) (List.mem_cons_of_mem _ List.mem_cons_self)
  have hr_g : -2147483648 ≤ g ∧ g ≤ 2147483647 := hav (vI g) (List.mem_cons_of_mem _ (List.mem_cons_of_mem _ List.mem_cons_self))
  have hz : zX11_chance.2.2.2.1 = some .boolean → ∀ (T' : Zt) (x : Int), po_X11_chance_e T cl g T' (some (vI x)) → 0 ≤ x ∧ x ≤ 1 := fun h => by cases h
  have hb_12 : 0 ≤ T 111 0 12 ∧ T 111 0 12 ≤ 12 := bd_f hT 111 12 tl_11_12 0
  have hb_99 : 0 ≤ T 111 0 99 ∧ T 111 0 99 ≤ 4 := bd_f hT 111 99 tl_11_99 0
  show J_ zX11_chance T (po_X11_chance_e T cl g) 0 0 0 [some (vR 111 0), some (vI cl), some (vI g)] [] T
  refine j_blx (F := fX11) tb_X11 (nn_ _) bk_X11_chance_e_0 bs_X11_chance_e_0 hz (fun K hK => ?_)
  intro b1 b1b
  refine hK 5 _ [vI (T 111 0 12), vI cl] T ?_
  refine j_callS (y := yX11_isOf) (Yc := zX11_isOf) (rest := []) [vI cl, vI (T 111 0 12)] (ct_X11_isOf (T := T) (by omega)) cl_X11_317 (qd_c (by decide +kernel)) (nn_ _) rfl (rf_of rfl) (Nat.le_of_ble_eq_true rfl) (Nat.le_of_ble_eq_true rfl) (Nat.le_of_ble_eq_true rfl) rfl ?_
  rintro _ _ ⟨rfl, x2, rfl, hx2⟩
  show J_ zX11_chance T (po_X11_chance_e T cl g) 0 0 8 _ [vI x2] T
  refine j_blx (F := fX11) tb_X11 (nn_ _) bk_X11_chance_e_8 bs_X11_chance_e_8 hz (fun K hK => ?_)
  refine And.intro (fun c3 => ?_) (fun c3 => ?_)
  · replace hx2 := hx2.resolve_left (fun z => absurd (c3.symm.trans z.1) (by decide))
    clear c3
    refine hK 19 _ [] T ?_
    refine j_blx (F := fX11) tb_X11 (nn_ _) bk_X11_chance_e_19 bs_X11_chance_e_19 hz (fun K hK => ?_)
    refine (show po_X11_chance_e T cl g T (some (vI (-2))) from ?_)
    exact ⟨_, rfl, fr_0 _ _, rfl, Or.inl ⟨rfl, Or.inl ⟨rfl, by omega⟩⟩⟩
  · replace hx2 := hx2.resolve_right (fun z => c3 z.1)
    clear c3
    refine hK 13 _ [vI cl, vR 111 0] T ?_
    refine j_callV (y := yX11_isInDraw) (Yc := zX11_isInDraw) (rest := []) [vI cl] (ct_X11_isInDraw (T := T) (by omega)) cl_X11_585 (qd_c (by decide +kernel)) (nn_ _) rfl (rf_of rfl) (Nat.le_of_ble_eq_true rfl) (Nat.le_of_ble_eq_true rfl) (Nat.le_of_ble_eq_true rfl) rfl ?_
    rintro _ _ ⟨rfl, x4, rfl, hx4⟩
    show J_ zX11_chance T (po_X11_chance_e T cl g) 0 0 16 _ [vI x4] T
    refine j_blx (F := fX11) tb_X11 (nn_ _) bk_X11_chance_e_16 bs_X11_chance_e_16 hz (fun K hK => ?_)
    refine And.intro (fun c5 => ?_) (fun c5 => ?_)
    · replace hx4 := hx4.resolve_right (fun z => c5 z.1)
      clear c5
      refine hK 22 _ [] T ?_
      refine j_blx (F := fX11) tb_X11 (nn_ _) bk_X11_chance_e_22 bs_X11_chance_e_22 hz (fun K hK => ?_)
      intro b6 b6b
      refine hK 27 _ [vI (T 111 0 99), vI g] T ?_
      refine j_callS (y := yX11_isOf) (Yc := zX11_isOf) (rest := []) [vI g, vI (T 111 0 99)] (ct_X11_isOf (T := T) (by omega)) cl_X11_317 (qd_c (by decide +kernel)) (nn_ _) rfl (rf_of rfl) (Nat.le_of_ble_eq_true rfl) (Nat.le_of_ble_eq_true rfl) (Nat.le_of_ble_eq_true rfl) rfl ?_
      rintro _ _ ⟨rfl, x7, rfl, hx7⟩
      show J_ zX11_chance T (po_X11_chance_e T cl g) 0 0 30 _ [vI x7] T
      refine j_blx (F := fX11) tb_X11 (nn_ _) bk_X11_chance_e_30 bs_X11_chance_e_30 hz (fun K hK => ?_)
      refine And.intro (fun c8 => ?_) (fun c8 => ?_)
      · replace hx7 := hx7.resolve_left (fun z => absurd (c8.symm.trans z.1) (by decide))
        clear c8
        refine hK 42 _ [] T ?_
        refine j_blx (F := fX11) tb_X11 (nn_ _) bk_X11_chance_e_42 bs_X11_chance_e_42 hz (fun K hK => ?_)
        refine (show po_X11_chance_e T cl g T (some (vI (-3))) from ?_)
        exact ⟨_, rfl, fr_0 _ _, rfl, Or.inl ⟨rfl, Or.inr ⟨by omega, rfl, by omega⟩⟩⟩
      · replace hx7 := hx7.resolve_right (fun z => c8 z.1)
        clear c8
        refine hK 36 _ [vI g, vI cl, vR 111 0] T ?_
        refine j_callV (y := yX11_chanceOf) (Yc := zX11_chanceOf) (rest := []) [vI cl, vI g] (ct_X11_chanceOf_e (T := T) (by omega)) cl_X11_594 (qd_c (by decide +kernel)) (nn_ _) rfl (rf_of rfl) (Nat.le_of_ble_eq_true rfl) (Nat.le_of_ble_eq_true rfl) (Nat.le_of_ble_eq_true rfl) rfl ?_
        rintro U9 _ ⟨x10, rfl, fU9, qU9⟩
        show J_ zX11_chance T (po_X11_chance_e T cl g) 0 0 39 _ [vI x10] U9
        refine j_blx (F := fX11) tb_X11 (nn_ _) bk_X11_chance_e_39 bs_X11_chance_e_39 hz (fun K hK => ?_)
        refine hK 44 _ [vI x10] U9 ?_
        refine j_blx (F := fX11) tb_X11 (nn_ _) bk_X11_chance_e_44 bs_X11_chance_e_44 hz (fun K hK => ?_)
        refine (show po_X11_chance_e T cl g U9 (some (vI x10)) from ?_)
        exact ⟨_, rfl, fr_t (fr_0 _ _) (fr_s fU9 rfl), rfl, Or.inr ⟨by omega, by omega, qU9⟩⟩
    · replace hx4 := hx4.resolve_left (fun z => absurd (c5.symm.trans z.1) (by decide))
      clear c5
      refine (show po_X11_chance_e T cl g T (some (vI (-2))) from ?_)
      exact ⟨_, rfl, fr_0 _ _, rfl, Or.inl ⟨rfl, Or.inl ⟨rfl, by omega⟩⟩⟩
theorem bk_X11_drawn_e_0 : ck_ fX11 (some .int) cX11_drawn 0 [.iload 1, .aload 0, .tableswitch 0 11 12 #[]] 5 = true := qck_r (nn_ _) (by decide +kernel)
theorem bs_X11_drawn_e_0 {P : Zt → Option Zv → Prop} (K : Int → Zl → List Zv → Zt → Prop) : sx_ K P [.iload 1, .aload 0, .tableswitch 0 11 12 #[]] 5 = x_iload 1 (x_aload 0 (x_g0 111 12 0 12 (K 5))) := ((xe_iload 1).trans (congrArg (x_iload 1) ((xe_aload 0).trans (congrArg (x_aload 0) ((xe_g0 (kk := 111) rfl tl_11_12).trans (congrArg (x_g0 111 12 0 12) xe_nil))))))
theorem bk_X11_drawn_e_8 : ck_ fX11 (some .int) cX11_drawn 8 [.ifCond .ne 14, .iconst (-2), .ireturn] 14 = true := qck_r (nn_ _) (by decide +kernel)
theorem bs_X11_drawn_e_8 {P : Zt → Option Zv → Prop} (K : Int → Zl → List Zv → Zt → Prop) : sx_ K P [.ifCond .ne 14, .iconst (-2), .ireturn] 14 = x_ifCond .ne 14 K (x_iconst (-2) (x_ireturn P)) := ((xe_ifCond .ne 14).trans (congrArg (x_ifCond .ne 14 K) ((xe_iconst (-2)).trans (congrArg (x_iconst (-2)) (xe_ireturn)))))
theorem bk_X11_drawn_e_14 : ck_ fX11 (some .int) cX11_drawn 14 [.aload 0, .tableswitch 0 11 98 #[], .ifCond .eq 30, .aload 0, .tableswitch 0 11 102 #[], .iload 1, .iaload, .goto 31] 30 = true := qck_r (nn_ _) (by decide +kernel)
theorem bs_X11_drawn_e_14 {P : Zt → Option Zv → Prop} (K : Int → Zl → List Zv → Zt → Prop) : sx_ K P [.aload 0, .tableswitch 0 11 98 #[], .ifCond .eq 30, .aload 0, .tableswitch 0 11 102 #[], .iload 1, .iaload, .goto 31] 30 = x_aload 0 (x_g0 111 98 0 1 (x_ifCond .eq 30 K (x_aload 0 (x_g1 111 302 (x_iload 1 (x_iaload (x_goto 31 K))))))) := ((xe_aload 0).trans (congrArg (x_aload 0) ((xe_g0 (kk := 111) rfl tl_11_98).trans (congrArg (x_g0 111 98 0 1) ((xe_ifCond .eq 30).trans (congrArg (x_ifCond .eq 30 K) ((xe_aload 0).trans (congrArg (x_aload 0) ((xe_g1 (kk := 111) rfl tl_11_102).trans (congrArg (x_g1 111 302) ((xe_iload 1).trans (congrArg (x_iload 1) ((xe_iaload).trans (congrArg (x_iaload) (xe_goto 31)))))))))))))))
theorem bk_X11_drawn_e_30 : ck_ fX11 (some .int) cX11_drawn 30 [.iconst (-1), .ireturn] 32 = true := qck_r (nn_ _) (by decide +kernel)
theorem bs_X11_drawn_e_30 {P : Zt → Option Zv → Prop} (K : Int → Zl → List Zv → Zt → Prop) : sx_ K P [.iconst (-1), .ireturn] 32 = x_iconst (-1) (x_ireturn P) := ((xe_iconst (-1)).trans (congrArg (x_iconst (-1)) (xe_ireturn)))
theorem bk_X11_drawn_e_31 : ck_ fX11 (some .int) cX11_drawn 31 [.ireturn] 32 = true := qck_r (nn_ _) (by decide +kernel)
theorem bs_X11_drawn_e_31 {P : Zt → Option Zv → Prop} (K : Int → Zl → List Zv → Zt → Prop) : sx_ K P [.ireturn] 32 = x_ireturn P := (xe_ireturn)
abbrev po_X11_drawn_e (T : Zt) (c : Int) : Zt → Option Zv → Prop := fun T' r => T = T' ∧ ∃ x : Int, r = some (vI x) ∧ (DWR_ T c x)
set_option maxHeartbeats 4000000 in
theorem ct_X11_drawn_e {T : Zt} {c : Int} : Ct_ yX11_drawn zX11_drawn T [vR 111 0, vI c] (po_X11_drawn_e T c) := by
  refine ct_of pn_11 rfl rfl (Nat.le_of_ble_eq_true rfl) (fun hT hav => ?_)
  have hr_c : -2147483648 ≤ c ∧ c ≤ 2147483647 := hav (vI c) (List.mem_cons_of_mem _ List.mem_cons_self)
  have hz : zX11_drawn.2.2.2.1 = some .boolean → ∀ (T' : Zt) (x : Int), po_X11_drawn_e T c T' (some (vI x)) → 0 ≤ x ∧ x ≤ 1 := fun h => by cases h
  have hb_12 : 0 ≤ T 111 0 12 ∧ T 111 0 12 ≤ 12 := bd_f hT 111 12 tl_11_12 0
  show J_ zX11_drawn T (po_X11_drawn_e T c) 0 0 0 [some (vR 111 0), some (vI c)] [] T
  refine j_blx (F := fX11) tb_X11 (nn_ _) bk_X11_drawn_e_0 bs_X11_drawn_e_0 hz (fun K hK => ?_)
  intro b1 b1b
  refine hK 5 _ [vI (T 111 0 12), vI c] T ?_
  refine j_callS (y := yX11_isOf) (Yc := zX11_isOf) (rest := []) [vI c, vI (T 111 0 12)] (ct_X11_isOf (T := T) (by omega)) cl_X11_317 (qd_c (by decide +kernel)) (nn_ _) rfl (rf_of rfl) (Nat.le_of_ble_eq_true rfl) (Nat.le_of_ble_eq_true rfl) (Nat.le_of_ble_eq_true rfl) rfl ?_
  rintro _ _ ⟨rfl, x2, rfl, hx2⟩
  show J_ zX11_drawn T (po_X11_drawn_e T c) 0 0 8 _ [vI x2] T
  refine j_blx (F := fX11) tb_X11 (nn_ _) bk_X11_drawn_e_8 bs_X11_drawn_e_8 hz (fun K hK => ?_)
  refine And.intro (fun c3 => ?_) (fun c3 => ?_)
  · replace hx2 := hx2.resolve_right (fun z => c3 z.1)
    clear c3
    refine hK 14 _ [] T ?_
    refine j_blx (F := fX11) tb_X11 (nn_ _) bk_X11_drawn_e_14 bs_X11_drawn_e_14 hz (fun K hK => ?_)
    intro b4 b4b
    refine And.intro (fun c5 => ?_) (fun c5 => ?_)
    · refine hK 30 _ [] T ?_
      refine j_blx (F := fX11) tb_X11 (nn_ _) bk_X11_drawn_e_30 bs_X11_drawn_e_30 hz (fun K hK => ?_)
      refine (show po_X11_drawn_e T c T (some (vI (-1))) from ?_)
      exact ⟨rfl, _, rfl, Or.inr ⟨by omega, Or.inl ⟨by omega, rfl⟩⟩⟩
    · refine ix_i (by omega) ?_
      intro b6 b6b
      refine hK 31 _ [vI (T 302 0 c)] T ?_
      refine j_blx (F := fX11) tb_X11 (nn_ _) bk_X11_drawn_e_31 bs_X11_drawn_e_31 hz (fun K hK => ?_)
      refine (show po_X11_drawn_e T c T (some (vI (T 302 0 c))) from ?_)
      exact ⟨rfl, _, rfl, Or.inr ⟨by omega, Or.inr ⟨by omega, rfl⟩⟩⟩
  · replace hx2 := hx2.resolve_left (fun z => absurd (c3.symm.trans z.1) (by decide))
    clear c3
    refine (show po_X11_drawn_e T c T (some (vI (-2))) from ?_)
    exact ⟨rfl, _, rfl, Or.inl ⟨rfl, by omega⟩⟩
theorem bk_X11_drawing_e_38 : ck_ fX11 (some .int) cX11_drawing 38 [.iload 3, .iconst 12, .if_icmp .ge 64, .aload 0, .tableswitch 0 11 101 #[], .iload 3, .iconst (-1), .iastore, .aload 0, .tableswitch 0 11 102 #[], .iload 3, .iconst (-1), .iastore, .iinc 3 1, .goto 38] 64 = true := qck_r (nn_ _) (by decide +kernel)
theorem bs_X11_drawing_e_38 {P : Zt → Option Zv → Prop} (K : Int → Zl → List Zv → Zt → Prop) : sx_ K P [.iload 3, .iconst 12, .if_icmp .ge 64, .aload 0, .tableswitch 0 11 101 #[], .iload 3, .iconst (-1), .iastore, .aload 0, .tableswitch 0 11 102 #[], .iload 3, .iconst (-1), .iastore, .iinc 3 1, .goto 38] 64 = x_iload 3 (x_iconst 12 (x_if_icmp .ge 64 K (x_aload 0 (x_g1 111 301 (x_iload 3 (x_iconst (-1) (x_iastore (x_aload 0 (x_g1 111 302 (x_iload 3 (x_iconst (-1) (x_iastore (x_iinc 3 1 (x_goto 38 K)))))))))))))) := ((xe_iload 3).trans (congrArg (x_iload 3) ((xe_iconst 12).trans (congrArg (x_iconst 12) ((xe_if_icmp .ge 64).trans (congrArg (x_if_icmp .ge 64 K) ((xe_aload 0).trans (congrArg (x_aload 0) ((xe_g1 (kk := 111) rfl tl_11_101).trans (congrArg (x_g1 111 301) ((xe_iload 3).trans (congrArg (x_iload 3) ((xe_iconst (-1)).trans (congrArg (x_iconst (-1)) ((xe_iastore).trans (congrArg (x_iastore) ((xe_aload 0).trans (congrArg (x_aload 0) ((xe_g1 (kk := 111) rfl tl_11_102).trans (congrArg (x_g1 111 302) ((xe_iload 3).trans (congrArg (x_iload 3) ((xe_iconst (-1)).trans (congrArg (x_iconst (-1)) ((xe_iastore).trans (congrArg (x_iastore) ((xe_iinc 3 1).trans (congrArg (x_iinc 3 1) (xe_goto 38)))))))))))))))))))))))))))))
theorem bk_X11_drawing_e_64 : ck_ fX11 (some .int) cX11_drawing 64 [.iconst 1, .ireturn] 66 = true := qck_r (nn_ _) (by decide +kernel)
theorem bs_X11_drawing_e_64 {P : Zt → Option Zv → Prop} (K : Int → Zl → List Zv → Zt → Prop) : sx_ K P [.iconst 1, .ireturn] 66 = x_iconst 1 (x_ireturn P) := ((xe_iconst 1).trans (congrArg (x_iconst 1) (xe_ireturn)))
theorem bk_X11_drawing_e_0 : ck_ fX11 (some .int) cX11_drawing 0 [.iload 1, .iconst 1, .iconst 4] 3 = true := qck_r (nn_ _) (by decide +kernel)
theorem bs_X11_drawing_e_0 {P : Zt → Option Zv → Prop} (K : Int → Zl → List Zv → Zt → Prop) : sx_ K P [.iload 1, .iconst 1, .iconst 4] 3 = x_iload 1 (x_iconst 1 (x_iconst 4 (K 3))) := ((xe_iload 1).trans (congrArg (x_iload 1) ((xe_iconst 1).trans (congrArg (x_iconst 1) ((xe_iconst 4).trans (congrArg (x_iconst 4) xe_nil))))))
theorem bk_X11_drawing_e_6 : ck_ fX11 (some .int) cX11_drawing 6 [.ifCond .eq 18, .iload 2, .iconst 1, .iconst 3] 12 = true := qck_r (nn_ _) (by decide +kernel)
theorem bs_X11_drawing_e_6 {P : Zt → Option Zv → Prop} (K : Int → Zl → List Zv → Zt → Prop) : sx_ K P [.ifCond .eq 18, .iload 2, .iconst 1, .iconst 3] 12 = x_ifCond .eq 18 K (x_iload 2 (x_iconst 1 (x_iconst 3 (K 12)))) := ((xe_ifCond .eq 18).trans (congrArg (x_ifCond .eq 18 K) ((xe_iload 2).trans (congrArg (x_iload 2) ((xe_iconst 1).trans (congrArg (x_iconst 1) ((xe_iconst 3).trans (congrArg (x_iconst 3) xe_nil))))))))
theorem bk_X11_drawing_e_18 : ck_ fX11 (some .int) cX11_drawing 18 [.iconst (-3), .ireturn] 21 = true := qck_r (nn_ _) (by decide +kernel)
theorem bs_X11_drawing_e_18 {P : Zt → Option Zv → Prop} (K : Int → Zl → List Zv → Zt → Prop) : sx_ K P [.iconst (-3), .ireturn] 21 = x_iconst (-3) (x_ireturn P) := ((xe_iconst (-3)).trans (congrArg (x_iconst (-3)) (xe_ireturn)))
theorem bk_X11_drawing_e_15 : ck_ fX11 (some .int) cX11_drawing 15 [.ifCond .ne 21, .iconst (-3), .ireturn] 21 = true := qck_r (nn_ _) (by decide +kernel)
theorem bs_X11_drawing_e_15 {P : Zt → Option Zv → Prop} (K : Int → Zl → List Zv → Zt → Prop) : sx_ K P [.ifCond .ne 21, .iconst (-3), .ireturn] 21 = x_ifCond .ne 21 K (x_iconst (-3) (x_ireturn P)) := ((xe_ifCond .ne 21).trans (congrArg (x_ifCond .ne 21 K) ((xe_iconst (-3)).trans (congrArg (x_iconst (-3)) (xe_ireturn)))))
theorem bk_X11_drawing_e_21 : ck_ fX11 (some .int) cX11_drawing 21 [.aload 0, .iconst 1, .tableswitch 1 11 98 #[], .aload 0, .iload 1, .tableswitch 1 11 99 #[], .aload 0, .iload 2, .tableswitch 1 11 100 #[], .iconst 0, .istore 3] 38 = true := qck_r (nn_ _) (by decide +kernel)
theorem bs_X11_drawing_e_21 {P : Zt → Option Zv → Prop} (K : Int → Zl → List Zv → Zt → Prop) : sx_ K P [.aload 0, .iconst 1, .tableswitch 1 11 98 #[], .aload 0, .iload 1, .tableswitch 1 11 99 #[], .aload 0, .iload 2, .tableswitch 1 11 100 #[], .iconst 0, .istore 3] 38 = x_aload 0 (x_iconst 1 (x_p 111 98 0 1 (x_aload 0 (x_iload 1 (x_p 111 99 0 4 (x_aload 0 (x_iload 2 (x_p 111 100 0 3 (x_iconst 0 (x_istore 3 (K 38))))))))))) := ((xe_aload 0).trans (congrArg (x_aload 0) ((xe_iconst 1).trans (congrArg (x_iconst 1) ((xe_p (kk := 111) rfl tl_11_98).trans (congrArg (x_p 111 98 0 1) ((xe_aload 0).trans (congrArg (x_aload 0) ((xe_iload 1).trans (congrArg (x_iload 1) ((xe_p (kk := 111) rfl tl_11_99).trans (congrArg (x_p 111 99 0 4) ((xe_aload 0).trans (congrArg (x_aload 0) ((xe_iload 2).trans (congrArg (x_iload 2) ((xe_p (kk := 111) rfl tl_11_100).trans (congrArg (x_p 111 100 0 3) ((xe_iconst 0).trans (congrArg (x_iconst 0) ((xe_istore 3).trans (congrArg (x_istore 3) xe_nil))))))))))))))))))))))
abbrev po_X11_drawing_e (T : Zt) (g l : Int) : Zt → Option Zv → Prop := fun T' r => ∃ x : Int, r = some (vI x) ∧ fr_ [(111, [98, 99, 100]), (301, []), (302, [])] T T' ∧ (((x = -3 ∧ ¬ (1 ≤ g ∧ g ≤ 4 ∧ 1 ≤ l ∧ l ≤ 3)) ∨ (x = 1 ∧ 1 ≤ g ∧ g ≤ 4 ∧ 1 ≤ l ∧ l ≤ 3)) ∧ NDR_ T T' g l x)
set_option maxHeartbeats 4000000 in
theorem ct_X11_drawing_e {T : Zt} {g l : Int} : Ct_ yX11_drawing zX11_drawing T [vR 111 0, vI g, vI l] (po_X11_drawing_e T g l) := by
  refine ct_of pn_11 rfl rfl (Nat.le_of_ble_eq_true rfl) (fun hT hav => ?_)
  have hr_g : -2147483648 ≤ g ∧ g ≤ 2147483647 := hav (vI g) (List.mem_cons_of_mem _ List.mem_cons_self)
  have hr_l : -2147483648 ≤ l ∧ l ≤ 2147483647 := hav (vI l) (List.mem_cons_of_mem _ (List.mem_cons_of_mem _ List.mem_cons_self))
  have hz : zX11_drawing.2.2.2.1 = some .boolean → ∀ (T' : Zt) (x : Int), po_X11_drawing_e T g l T' (some (vI x)) → 0 ≤ x ∧ x ≤ 1 := fun h => by cases h
  show J_ zX11_drawing T (po_X11_drawing_e T g l) 0 0 0 [some (vR 111 0), some (vI g), some (vI l), none] [] T
  have c_38 : ∀ (nn : Nat) (k : Int) (T1 : Zt), ((12 - k).toNat) ≤ nn → (fr_ [(111, [98, 99, 100]), (301, []), (302, [])] T T1) → (0 ≤ k ∧ 1 ≤ g ∧ g ≤ 4 ∧ 1 ≤ l ∧ l ≤ 3) → (T1 111 0 98 = 1 ∧ T1 111 0 99 = g ∧ T1 111 0 100 = l) → (∀ j, 0 ≤ j → j < k → T1 301 0 j = -1 ∧ T1 302 0 j = -1) → J_ zX11_drawing T (po_X11_drawing_e T g l) 0 0 38 [some (vR 111 0), some (vI g), some (vI l), some (vI k)] [] T1 := by
    intro nn
    induction nn using Nat.strongRecOn with
    | _ nn ih_38 =>
      intro k T1 hm_38 hf_38 k1 fb fa
      replace hm_38 := fun (_ : Unit) => hm_38
      refine j_blx (F := fX11) tb_X11 (nn_ _) bk_X11_drawing_e_38 bs_X11_drawing_e_38 hz (fun K hK => ?_)
      refine And.intro (fun c1 => ?_) (fun c1 => ?_)
      · refine hK 64 _ [] T1 ?_
        refine j_blx (F := fX11) tb_X11 (nn_ _) bk_X11_drawing_e_64 bs_X11_drawing_e_64 hz (fun K hK => ?_)
        refine (show po_X11_drawing_e T g l T1 (some (vI 1)) from ?_)
        exact ⟨_, rfl, hf_38, by omega, Or.inr ⟨by omega, rfl, fb.1, fb.2.1, fb.2.2, fun j a b => fa j a (by omega)⟩⟩
      · refine iy_i (by omega) (by omega) ?_
        refine x_nm (fun U2 hU2 => ?_)
        have e3 := up_f hU2
        refine iy_i (by omega) (by omega) ?_
        refine x_nm (fun U4 hU4 => ?_)
        have e5 := up_f hU4
        refine rg_i (by omega) ?_
        refine hK 38 [some (vR 111 0), some (vI g), some (vI l), some (vI (k + 1))] [] U4 ?_
        have e6 : U4 111 0 98 = T1 111 0 98 := (up_k hU4 (by exact Nat.ne_of_beq_eq_false rfl) 0 98).trans (up_k hU2 (by exact Nat.ne_of_beq_eq_false rfl) 0 98)
        have e7 : U4 111 0 99 = T1 111 0 99 := (up_k hU4 (by exact Nat.ne_of_beq_eq_false rfl) 0 99).trans (up_k hU2 (by exact Nat.ne_of_beq_eq_false rfl) 0 99)
        have e8 : U4 111 0 100 = T1 111 0 100 := (up_k hU4 (by exact Nat.ne_of_beq_eq_false rfl) 0 100).trans (up_k hU2 (by exact Nat.ne_of_beq_eq_false rfl) 0 100)
        refine ih_38 _ ?_ (k + 1) U4 (Nat.le_refl _) ?_ ?_ ?_ ?_
        · have hm_38 := hm_38 (); omega
        · exact fr_u (fr_u (fr_t (fr_0 _ _) (fr_s hf_38 rfl)) hU2 rfl) hU4 rfl
        · omega
        · exact ⟨((up_k hU4 (by exact Nat.ne_of_beq_eq_false rfl) 0 98).trans ((up_k hU2 (by exact Nat.ne_of_beq_eq_false rfl) 0 98).trans fb.1)), ((up_k hU4 (by exact Nat.ne_of_beq_eq_false rfl) 0 99).trans ((up_k hU2 (by exact Nat.ne_of_beq_eq_false rfl) 0 99).trans fb.2.1)), ((up_k hU4 (by exact Nat.ne_of_beq_eq_false rfl) 0 100).trans ((up_k hU2 (by exact Nat.ne_of_beq_eq_false rfl) 0 100).trans fb.2.2))⟩
        · intro j a b
          by_cases z : j = k
          · rw [z]; exact ⟨(up_k hU4 (by exact Nat.ne_of_beq_eq_false rfl) 0 k).trans (up_f hU2), up_f hU4⟩
          · exact ⟨(up_k hU4 (by exact Nat.ne_of_beq_eq_false rfl) 0 j).trans ((up_g hU2 (fun q => z q.2.2)).trans (fa j a (by omega)).1), (up_g hU4 (fun q => z q.2.2)).trans ((up_k hU2 (by exact Nat.ne_of_beq_eq_false rfl) 0 j).trans (fa j a (by omega)).2)⟩
  refine j_blx (F := fX11) tb_X11 (nn_ _) bk_X11_drawing_e_0 bs_X11_drawing_e_0 hz (fun K hK => ?_)
  refine hK 3 _ [vI 4, vI 1, vI g] T ?_
  refine j_callS (y := yX11_in) (Yc := zX11_in) (rest := []) [vI g, vI 1, vI 4] (ct_X11_in (T := T)) cl_X11_255 (qd_c (by decide +kernel)) (nn_ _) rfl (rf_of rfl) (Nat.le_of_ble_eq_true rfl) (Nat.le_of_ble_eq_true rfl) (Nat.le_of_ble_eq_true rfl) rfl ?_
  rintro _ _ ⟨rfl, x9, rfl, hx9⟩
  show J_ zX11_drawing T (po_X11_drawing_e T g l) 0 0 6 _ [vI x9] T
  refine j_blx (F := fX11) tb_X11 (nn_ _) bk_X11_drawing_e_6 bs_X11_drawing_e_6 hz (fun K hK => ?_)
  refine And.intro (fun c10 => ?_) (fun c10 => ?_)
  · replace hx9 := hx9.resolve_left (fun z => absurd (c10.symm.trans z.1) (by decide))
    clear c10
    refine hK 18 _ [] T ?_
    refine j_blx (F := fX11) tb_X11 (nn_ _) bk_X11_drawing_e_18 bs_X11_drawing_e_18 hz (fun K hK => ?_)
    refine (show po_X11_drawing_e T g l T (some (vI (-3))) from ?_)
    exact ⟨_, rfl, fr_0 _ _, by omega, Or.inl ⟨rfl, rfl, by omega⟩⟩
  · replace hx9 := hx9.resolve_right (fun z => c10 z.1)
    clear c10
    refine hK 12 _ [vI 3, vI 1, vI l] T ?_
    refine j_callS (y := yX11_in) (Yc := zX11_in) (rest := []) [vI l, vI 1, vI 3] (ct_X11_in (T := T)) cl_X11_255 (qd_c (by decide +kernel)) (nn_ _) rfl (rf_of rfl) (Nat.le_of_ble_eq_true rfl) (Nat.le_of_ble_eq_true rfl) (Nat.le_of_ble_eq_true rfl) rfl ?_
    rintro _ _ ⟨rfl, x11, rfl, hx11⟩
    show J_ zX11_drawing T (po_X11_drawing_e T g l) 0 0 15 _ [vI x11] T
    refine j_blx (F := fX11) tb_X11 (nn_ _) bk_X11_drawing_e_15 bs_X11_drawing_e_15 hz (fun K hK => ?_)
    refine And.intro (fun c12 => ?_) (fun c12 => ?_)
    · replace hx11 := hx11.resolve_right (fun z => c12 z.1)
      clear c12
      refine hK 21 _ [] T ?_
      refine j_blx (F := fX11) tb_X11 (nn_ _) bk_X11_drawing_e_21 bs_X11_drawing_e_21 hz (fun K hK => ?_)
      refine bd_i (by omega) ?_
      refine x_nm (fun U13 hU13 => ?_)
      have e14 := up_f hU13
      refine bd_i (by omega) ?_
      refine x_nm (fun U15 hU15 => ?_)
      have e16 := up_f hU15
      refine bd_i (by omega) ?_
      refine x_nm (fun U17 hU17 => ?_)
      have e18 := up_f hU17
      refine hK 38 [some (vR 111 0), some (vI g), some (vI l), some (vI 0)] [] U17 ?_
      have e19 : U17 111 0 98 = 1 := (up_j hU17 (by decide) 111 0).trans ((up_j hU15 (by decide) 111 0).trans (up_f hU13))
      have e20 : U17 111 0 99 = g := (up_j hU17 (by decide) 111 0).trans (up_f hU15)
      have e21 : U17 111 0 100 = l := up_f hU17
      refine c_38 _ 0 U17 (Nat.le_refl _) ?_ ?_ ?_ ?_
      · exact fr_u (fr_u (fr_u (fr_0 _ _) hU13 rfl) hU15 rfl) hU17 rfl
      · omega
      · exact ⟨(up_j hU17 (by decide) 111 0).trans ((up_j hU15 (by decide) 111 0).trans (up_f hU13)), (up_j hU17 (by decide) 111 0).trans (up_f hU15), up_f hU17⟩
      · intro j a b; omega
    · replace hx11 := hx11.resolve_left (fun z => absurd (c12.symm.trans z.1) (by decide))
      clear c12
      refine (show po_X11_drawing_e T g l T (some (vI (-3))) from ?_)
      exact ⟨_, rfl, fr_0 _ _, by omega, Or.inl ⟨rfl, rfl, by omega⟩⟩
