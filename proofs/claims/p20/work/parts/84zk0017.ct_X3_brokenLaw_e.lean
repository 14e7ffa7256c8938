theorem bk_X3_brokenLaw_e_0 : ck_ fX3 (some .int) cX3_brokenLaw 0 [.aload 0, .tableswitch 0 3 3 #[], .ifCond .eq 9, .iconst 1, .ireturn] 9 = true := qck_r (nn_ _) (by decide +kernel)
theorem bs_X3_brokenLaw_e_0 {P : Zt → Option Zv → Prop} (K : Int → Zl → List Zv → Zt → Prop) : sx_ K P [.aload 0, .tableswitch 0 3 3 #[], .ifCond .eq 9, .iconst 1, .ireturn] 9 = x_aload 0 (x_g0 103 3 0 1 (x_ifCond .eq 9 K (x_iconst 1 (x_ireturn P)))) := ((xe_aload 0).trans (congrArg (x_aload 0) ((xe_g0 (kk := 103) rfl tl_3_3).trans (congrArg (x_g0 103 3 0 1) ((xe_ifCond .eq 9).trans (congrArg (x_ifCond .eq 9 K) ((xe_iconst 1).trans (congrArg (x_iconst 1) (xe_ireturn)))))))))
theorem bk_X3_brokenLaw_e_9 : ck_ fX3 (some .int) cX3_brokenLaw 9 [.aload 0, .iload 1, .iload 2] 12 = true := qck_r (nn_ _) (by decide +kernel)
theorem bs_X3_brokenLaw_e_9 {P : Zt → Option Zv → Prop} (K : Int → Zl → List Zv → Zt → Prop) : sx_ K P [.aload 0, .iload 1, .iload 2] 12 = x_aload 0 (x_iload 1 (x_iload 2 (K 12))) := ((xe_aload 0).trans (congrArg (x_aload 0) ((xe_iload 1).trans (congrArg (x_iload 1) ((xe_iload 2).trans (congrArg (x_iload 2) xe_nil))))))
theorem bk_X3_brokenLaw_e_15 : ck_ fX3 (some .int) cX3_brokenLaw 15 [.ifCond .ne 20, .iconst 2, .ireturn] 20 = true := qck_r (nn_ _) (by decide +kernel)
theorem bs_X3_brokenLaw_e_15 {P : Zt → Option Zv → Prop} (K : Int → Zl → List Zv → Zt → Prop) : sx_ K P [.ifCond .ne 20, .iconst 2, .ireturn] 20 = x_ifCond .ne 20 K (x_iconst 2 (x_ireturn P)) := ((xe_ifCond .ne 20).trans (congrArg (x_ifCond .ne 20 K) ((xe_iconst 2).trans (congrArg (x_iconst 2) (xe_ireturn)))))
theorem bk_X3_brokenLaw_e_20 : ck_ fX3 (some .int) cX3_brokenLaw 20 [.aload 0, .iload 1, .iload 2] 23 = true := qck_r (nn_ _) (by decide +kernel)
theorem bs_X3_brokenLaw_e_20 {P : Zt → Option Zv → Prop} (K : Int → Zl → List Zv → Zt → Prop) : sx_ K P [.aload 0, .iload 1, .iload 2] 23 = x_aload 0 (x_iload 1 (x_iload 2 (K 23))) := ((xe_aload 0).trans (congrArg (x_aload 0) ((xe_iload 1).trans (congrArg (x_iload 1) ((xe_iload 2).trans (congrArg (x_iload 2) xe_nil))))))
theorem bk_X3_brokenLaw_e_26 : ck_ fX3 (some .int) cX3_brokenLaw 26 [.ifCond .ne 31, .iconst 3, .ireturn] 31 = true := qck_r (nn_ _) (by decide +kernel)
theorem bs_X3_brokenLaw_e_26 {P : Zt → Option Zv → Prop} (K : Int → Zl → List Zv → Zt → Prop) : sx_ K P [.ifCond .ne 31, .iconst 3, .ireturn] 31 = x_ifCond .ne 31 K (x_iconst 3 (x_ireturn P)) := ((xe_ifCond .ne 31).trans (congrArg (x_ifCond .ne 31 K) ((xe_iconst 3).trans (congrArg (x_iconst 3) (xe_ireturn)))))
theorem bk_X3_brokenLaw_e_31 : ck_ fX3 (some .int) cX3_brokenLaw 31 [.aload 0, .iload 1] 33 = true := qck_r (nn_ _) (by decide +kernel)
theorem bs_X3_brokenLaw_e_31 {P : Zt → Option Zv → Prop} (K : Int → Zl → List Zv → Zt → Prop) : sx_ K P [.aload 0, .iload 1] 33 = x_aload 0 (x_iload 1 (K 33)) := ((xe_aload 0).trans (congrArg (x_aload 0) ((xe_iload 1).trans (congrArg (x_iload 1) xe_nil))))
theorem bk_X3_brokenLaw_e_36 : ck_ fX3 (some .int) cX3_brokenLaw 36 [.ifCond .eq 51, .aload 0, .iload 2, .iload 3] 42 = true := qck_r (nn_ _) (by decide +kernel)
theorem bs_X3_brokenLaw_e_36 {P : Zt → Option Zv → Prop} (K : Int → Zl → List Zv → Zt → Prop) : sx_ K P [.ifCond .eq 51, .aload 0, .iload 2, .iload 3] 42 = x_ifCond .eq 51 K (x_aload 0 (x_iload 2 (x_iload 3 (K 42)))) := ((xe_ifCond .eq 51).trans (congrArg (x_ifCond .eq 51 K) ((xe_aload 0).trans (congrArg (x_aload 0) ((xe_iload 2).trans (congrArg (x_iload 2) ((xe_iload 3).trans (congrArg (x_iload 3) xe_nil))))))))
theorem bk_X3_brokenLaw_e_51 : ck_ fX3 (some .int) cX3_brokenLaw 51 [.iload 1, .iconst 5, .if_icmp .ne 88, .aload 0, .iload 2, .iload 4] 60 = true := qck_r (nn_ _) (by decide +kernel)
theorem bs_X3_brokenLaw_e_51 {P : Zt → Option Zv → Prop} (K : Int → Zl → List Zv → Zt → Prop) : sx_ K P [.iload 1, .iconst 5, .if_icmp .ne 88, .aload 0, .iload 2, .iload 4] 60 = x_iload 1 (x_iconst 5 (x_if_icmp .ne 88 K (x_aload 0 (x_iload 2 (x_iload 4 (K 60)))))) := ((xe_iload 1).trans (congrArg (x_iload 1) ((xe_iconst 5).trans (congrArg (x_iconst 5) ((xe_if_icmp .ne 88).trans (congrArg (x_if_icmp .ne 88 K) ((xe_aload 0).trans (congrArg (x_aload 0) ((xe_iload 2).trans (congrArg (x_iload 2) ((xe_iload 4).trans (congrArg (x_iload 4) xe_nil))))))))))))
theorem bk_X3_brokenLaw_e_88 : ck_ fX3 (some .int) cX3_brokenLaw 88 [.aload 0, .iload 1, .iload 4] 92 = true := qck_r (nn_ _) (by decide +kernel)
theorem bs_X3_brokenLaw_e_88 {P : Zt → Option Zv → Prop} (K : Int → Zl → List Zv → Zt → Prop) : sx_ K P [.aload 0, .iload 1, .iload 4] 92 = x_aload 0 (x_iload 1 (x_iload 4 (K 92))) := ((xe_aload 0).trans (congrArg (x_aload 0) ((xe_iload 1).trans (congrArg (x_iload 1) ((xe_iload 4).trans (congrArg (x_iload 4) xe_nil))))))
theorem bk_X3_brokenLaw_e_95 : ck_ fX3 (some .int) cX3_brokenLaw 95 [.ifCond .eq 102, .iconst 0, .goto 104] 102 = true := qck_r (nn_ _) (by decide +kernel)
theorem bs_X3_brokenLaw_e_95 {P : Zt → Option Zv → Prop} (K : Int → Zl → List Zv → Zt → Prop) : sx_ K P [.ifCond .eq 102, .iconst 0, .goto 104] 102 = x_ifCond .eq 102 K (x_iconst 0 (x_goto 104 K)) := ((xe_ifCond .eq 102).trans (congrArg (x_ifCond .eq 102 K) ((xe_iconst 0).trans (congrArg (x_iconst 0) (xe_goto 104)))))
theorem bk_X3_brokenLaw_e_102 : ck_ fX3 (some .int) cX3_brokenLaw 102 [.iconst 7, .ireturn] 105 = true := qck_r (nn_ _) (by decide +kernel)
theorem bs_X3_brokenLaw_e_102 {P : Zt → Option Zv → Prop} (K : Int → Zl → List Zv → Zt → Prop) : sx_ K P [.iconst 7, .ireturn] 105 = x_iconst 7 (x_ireturn P) := ((xe_iconst 7).trans (congrArg (x_iconst 7) (xe_ireturn)))
theorem bk_X3_brokenLaw_e_104 : ck_ fX3 (some .int) cX3_brokenLaw 104 [.ireturn] 105 = true := qck_r (nn_ _) (by decide +kernel)
theorem bs_X3_brokenLaw_e_104 {P : Zt → Option Zv → Prop} (K : Int → Zl → List Zv → Zt → Prop) : sx_ K P [.ireturn] 105 = x_ireturn P := (xe_ireturn)
theorem bk_X3_brokenLaw_e_63 : ck_ fX3 (some .int) cX3_brokenLaw 63 [.iconst (-1), .if_icmp .ne 69, .iconst 5, .ireturn] 69 = true := qck_r (nn_ _) (by decide +kernel)
theorem bs_X3_brokenLaw_e_63 {P : Zt → Option Zv → Prop} (K : Int → Zl → List Zv → Zt → Prop) : sx_ K P [.iconst (-1), .if_icmp .ne 69, .iconst 5, .ireturn] 69 = x_iconst (-1) (x_if_icmp .ne 69 K (x_iconst 5 (x_ireturn P))) := ((xe_iconst (-1)).trans (congrArg (x_iconst (-1)) ((xe_if_icmp .ne 69).trans (congrArg (x_if_icmp .ne 69 K) ((xe_iconst 5).trans (congrArg (x_iconst 5) (xe_ireturn)))))))
theorem bk_X3_brokenLaw_e_69 : ck_ fX3 (some .int) cX3_brokenLaw 69 [.aload 0, .tableswitch 0 3 9 #[], .iload 2, .iaload, .aload 0, .tableswitch 0 3 0 #[], .iconst 10, .iaload, .if_icmp .lt 88, .iconst 6, .ireturn] 88 = true := qck_r (nn_ _) (by decide +kernel)
theorem bs_X3_brokenLaw_e_69 {P : Zt → Option Zv → Prop} (K : Int → Zl → List Zv → Zt → Prop) : sx_ K P [.aload 0, .tableswitch 0 3 9 #[], .iload 2, .iaload, .aload 0, .tableswitch 0 3 0 #[], .iconst 10, .iaload, .if_icmp .lt 88, .iconst 6, .ireturn] 88 = x_aload 0 (x_g2 103 469 (x_iload 2 (x_iaload (x_aload 0 (x_g3 103 401 0 (x_iconst 10 (x_iaload (x_if_icmp .lt 88 K (x_iconst 6 (x_ireturn P)))))))))) := ((xe_aload 0).trans (congrArg (x_aload 0) ((xe_g2 (kk := 103) rfl tl_3_9).trans (congrArg (x_g2 103 469) ((xe_iload 2).trans (congrArg (x_iload 2) ((xe_iaload).trans (congrArg (x_iaload) ((xe_aload 0).trans (congrArg (x_aload 0) ((xe_g3 (kk := 103) rfl tl_3_0).trans (congrArg (x_g3 103 401 0) ((xe_iconst 10).trans (congrArg (x_iconst 10) ((xe_iaload).trans (congrArg (x_iaload) ((xe_if_icmp .lt 88).trans (congrArg (x_if_icmp .lt 88 K) ((xe_iconst 6).trans (congrArg (x_iconst 6) (xe_ireturn)))))))))))))))))))))
theorem bk_X3_brokenLaw_e_45 : ck_ fX3 (some .int) cX3_brokenLaw 45 [.iconst (-1), .if_icmp .ne 51, .iconst 4, .ireturn] 51 = true := qck_r (nn_ _) (by decide +kernel)
theorem bs_X3_brokenLaw_e_45 {P : Zt → Option Zv → Prop} (K : Int → Zl → List Zv → Zt → Prop) : sx_ K P [.iconst (-1), .if_icmp .ne 51, .iconst 4, .ireturn] 51 = x_iconst (-1) (x_if_icmp .ne 51 K (x_iconst 4 (x_ireturn P))) := ((xe_iconst (-1)).trans (congrArg (x_iconst (-1)) ((xe_if_icmp .ne 51).trans (congrArg (x_if_icmp .ne 51 K) ((xe_iconst 4).trans (congrArg (x_iconst 4) (xe_ireturn)))))))
abbrev po_X3_brokenLaw_e (T : Zt) (p : Int) (ru : Int → Int) (k s q o : Int) : Zt → Option Zv → Prop := fun T' r => T = T' ∧ ∃ x : Int, r = some (vI x) ∧ ((0 ≤ x ∧ x ≤ 7 ∧ (x = 0 → (k = 0 ∨ (0 ≤ s ∧ s ≤ 1)) ∧ ((T 401 (T 103 p 0) 0 = 0 ∧ 0 ≤ k ∧ k ≤ 5) ∨ (T 401 (T 103 p 0) 0 = 1 ∧ (k = 1 ∨ k = 5)) ∨ (T 401 (T 103 p 0) 0 = 2 ∧ (k = 1 ∨ k = 6)) ∨ (¬ T 401 (T 103 p 0) 0 = 0 ∧ ¬ T 401 (T 103 p 0) 0 = 1 ∧ ¬ T 401 (T 103 p 0) 0 = 2 ∧ 1 ≤ k ∧ k ≤ 4)))) ∧ x = lw9_ ru (rs9_ T p) k s q o)
set_option maxHeartbeats 4000000 in
theorem ct_X3_brokenLaw_e {T : Zt} {p : Int} {ru : Int → Int} {k s q o : Int} (hr : RLP_ T p ru) : Ct_ yX3_brokenLaw zX3_brokenLaw T [vR 103 p, vI k, vI s, vI q, vI o] (po_X3_brokenLaw_e T p ru k s q o) := by
  refine ct_of pn_3 rfl rfl (Nat.le_of_ble_eq_true rfl) (fun hT hav => ?_)
  have hr_k : -2147483648 ≤ k ∧ k ≤ 2147483647 := hav (vI k) (List.mem_cons_of_mem _ List.mem_cons_self)
  have hr_s : -2147483648 ≤ s ∧ s ≤ 2147483647 := hav (vI s) (List.mem_cons_of_mem _ (List.mem_cons_of_mem _ List.mem_cons_self))
  have hr_q : -2147483648 ≤ q ∧ q ≤ 2147483647 := hav (vI q) (List.mem_cons_of_mem _ (List.mem_cons_of_mem _ (List.mem_cons_of_mem _ List.mem_cons_self)))
  have hr_o : -2147483648 ≤ o ∧ o ≤ 2147483647 := hav (vI o) (List.mem_cons_of_mem _ (List.mem_cons_of_mem _ (List.mem_cons_of_mem _ (List.mem_cons_of_mem _ List.mem_cons_self))))
  have hz : zX3_brokenLaw.2.2.2.1 = some .boolean → ∀ (T' : Zt) (x : Int), po_X3_brokenLaw_e T p ru k s q o T' (some (vI x)) → 0 ≤ x ∧ x ≤ 1 := fun h => by cases h
  have hr0 := hr 0 (by decide) (by decide)
  have hr9 := hr 9 (by decide) (by decide)
  have hr10 := hr 10 (by decide) (by decide)
  have hr11 := hr 11 (by decide) (by decide)
  have hr12 := hr 12 (by decide) (by decide)
  show J_ zX3_brokenLaw T (po_X3_brokenLaw_e T p ru k s q o) 0 0 0 [some (vR 103 p), some (vI k), some (vI s), some (vI q), some (vI o)] [] T
  refine j_blx (F := fX3) tb_X3 (nn_ _) bk_X3_brokenLaw_e_0 bs_X3_brokenLaw_e_0 hz (fun K hK => ?_)
  intro b1 b1b
  refine And.intro (fun c2 => ?_) (fun c2 => ?_)
  · refine hK 9 _ [] T ?_
    refine j_blx (F := fX3) tb_X3 (nn_ _) bk_X3_brokenLaw_e_9 bs_X3_brokenLaw_e_9 hz (fun K hK => ?_)
    refine hK 12 _ [vI s, vI k, vR 103 p] T ?_
    refine j_callV (y := yX3_isFormed) (Yc := zX3_isFormed) (rest := []) [vI k, vI s] (ct_X3_isFormed_e (T := T)) cl_X3_68 (qd_c (by decide +kernel)) (nn_ _) rfl (rf_of rfl) (Nat.le_of_ble_eq_true rfl) (Nat.le_of_ble_eq_true rfl) (Nat.le_of_ble_eq_true rfl) rfl ?_
    rintro _ _ ⟨rfl, x3, rfl, hx3⟩
    show J_ zX3_brokenLaw T (po_X3_brokenLaw_e T p ru k s q o) 0 0 15 _ [vI x3] T
    refine j_blx (F := fX3) tb_X3 (nn_ _) bk_X3_brokenLaw_e_15 bs_X3_brokenLaw_e_15 hz (fun K hK => ?_)
    refine And.intro (fun c4 => ?_) (fun c4 => ?_)
    · replace hx3 := hx3.resolve_right (fun z => c4 z.1)
      clear c4
      refine hK 20 _ [] T ?_
      refine j_blx (F := fX3) tb_X3 (nn_ _) bk_X3_brokenLaw_e_20 bs_X3_brokenLaw_e_20 hz (fun K hK => ?_)
      refine hK 23 _ [vI s, vI k, vR 103 p] T ?_
      refine j_callV (y := yX3_isAllowed) (Yc := zX3_isAllowed) (rest := []) [vI k, vI s] (ct_X3_isAllowed_e (T := T)) cl_X3_72 (qd_c (by decide +kernel)) (nn_ _) rfl (rf_of rfl) (Nat.le_of_ble_eq_true rfl) (Nat.le_of_ble_eq_true rfl) (Nat.le_of_ble_eq_true rfl) rfl ?_
      rintro _ _ ⟨rfl, x5, rfl, hx5⟩
      show J_ zX3_brokenLaw T (po_X3_brokenLaw_e T p ru k s q o) 0 0 26 _ [vI x5] T
      refine j_blx (F := fX3) tb_X3 (nn_ _) bk_X3_brokenLaw_e_26 bs_X3_brokenLaw_e_26 hz (fun K hK => ?_)
      refine And.intro (fun c6 => ?_) (fun c6 => ?_)
      · replace hx5 := hx5.resolve_right (fun z => c6 z.1)
        clear c6
        refine hK 31 _ [] T ?_
        refine j_blx (F := fX3) tb_X3 (nn_ _) bk_X3_brokenLaw_e_31 bs_X3_brokenLaw_e_31 hz (fun K hK => ?_)
        refine hK 33 _ [vI k, vR 103 p] T ?_
        refine j_callV (y := yX3_needsPerson) (Yc := zX3_needsPerson) (rest := []) [vI k] (ct_X3_needsPerson_e (T := T)) cl_X3_75 (qd_c (by decide +kernel)) (nn_ _) rfl (rf_of rfl) (Nat.le_of_ble_eq_true rfl) (Nat.le_of_ble_eq_true rfl) (Nat.le_of_ble_eq_true rfl) rfl ?_
        rintro _ _ ⟨rfl, x7, rfl, hx7⟩
        show J_ zX3_brokenLaw T (po_X3_brokenLaw_e T p ru k s q o) 0 0 36 _ [vI x7] T
        refine j_blx (F := fX3) tb_X3 (nn_ _) bk_X3_brokenLaw_e_36 bs_X3_brokenLaw_e_36 hz (fun K hK => ?_)
        refine And.intro (fun c8 => ?_) (fun c8 => ?_)
        · replace hx7 := hx7.resolve_left (fun z => absurd (c8.symm.trans z.1) (by decide))
          clear c8
          refine hK 51 _ [] T ?_
          refine j_blx (F := fX3) tb_X3 (nn_ _) bk_X3_brokenLaw_e_51 bs_X3_brokenLaw_e_51 hz (fun K hK => ?_)
          refine And.intro (fun c9 => ?_) (fun c9 => ?_)
          · refine hK 88 _ [] T ?_
            refine j_blx (F := fX3) tb_X3 (nn_ _) bk_X3_brokenLaw_e_88 bs_X3_brokenLaw_e_88 hz (fun K hK => ?_)
            refine hK 92 _ [vI o, vI k, vR 103 p] T ?_
            refine j_callV (y := yX3_isBounded) (Yc := zX3_isBounded) (rest := []) [vI k, vI o] (ct_X3_isBounded_e (T := T)) cl_X3_86 (qd_c (by decide +kernel)) (nn_ _) rfl (rf_of rfl) (Nat.le_of_ble_eq_true rfl) (Nat.le_of_ble_eq_true rfl) (Nat.le_of_ble_eq_true rfl) rfl ?_
            rintro _ _ ⟨rfl, x10, rfl, hx10⟩
            show J_ zX3_brokenLaw T (po_X3_brokenLaw_e T p ru k s q o) 0 0 95 _ [vI x10] T
            refine j_blx (F := fX3) tb_X3 (nn_ _) bk_X3_brokenLaw_e_95 bs_X3_brokenLaw_e_95 hz (fun K hK => ?_)
            refine And.intro (fun c11 => ?_) (fun c11 => ?_)
            · replace hx10 := hx10.resolve_left (fun z => absurd (c11.symm.trans z.1) (by decide))
              clear c11
              refine hK 102 _ [] T ?_
              refine j_blx (F := fX3) tb_X3 (nn_ _) bk_X3_brokenLaw_e_102 bs_X3_brokenLaw_e_102 hz (fun K hK => ?_)
              refine (show po_X3_brokenLaw_e T p ru k s q o T (some (vI 7)) from ?_)
              exact ⟨rfl, _, rfl, by omega, (lw9__10 (r := ru) (a := (rs9_ T p)) (k := k) (s := s) (q := q) (o := o) (show ¬ (T 103 p 3 ≠ 0) by omega) (show ¬ (¬ ((k = 0 ∨ (0 ≤ s ∧ s ≤ 1)) ∧ ((ru 0 = 0 ∧ 0 ≤ k ∧ k ≤ 5) ∨ (ru 0 = 1 ∧ (k = 1 ∨ k = 5)) ∨ (ru 0 = 2 ∧ (k = 1 ∨ k = 6)) ∨ (¬ ru 0 = 0 ∧ ¬ ru 0 = 1 ∧ ¬ ru 0 = 2 ∧ 1 ≤ k ∧ k ≤ 4)))) by omega) (show ¬ (¬ ((ru 0 = 0 ∧ (T 103 p 4 ≠ 1 ∨ (k ≠ 1 ∧ k ≠ 2))) ∨ (ru 0 ≠ 0 ∧ (ru 0 ≠ 3 ∨ s = T 103 p 5)))) by omega) (show ¬ ((k = 5 ∨ (ru 0 = 0 ∧ k ≠ 0)) ∧ fp9_ (rs9_ T p) s q = -1) by omega) (show ¬ (k = 5) by omega) (show ¬ (ru 0 ≠ 3 ∨ k ≠ 1 ∨ (1 ≤ o ∧ o ≤ 4)) by omega)).symm⟩
            · replace hx10 := hx10.resolve_right (fun z => c11 z.1)
              clear c11
              refine hK 104 _ [vI 0] T ?_
              refine j_blx (F := fX3) tb_X3 (nn_ _) bk_X3_brokenLaw_e_104 bs_X3_brokenLaw_e_104 hz (fun K hK => ?_)
              refine (show po_X3_brokenLaw_e T p ru k s q o T (some (vI 0)) from ?_)
              exact ⟨rfl, _, rfl, by omega, (lw9__9 (r := ru) (a := (rs9_ T p)) (k := k) (s := s) (q := q) (o := o) (show ¬ (T 103 p 3 ≠ 0) by omega) (show ¬ (¬ ((k = 0 ∨ (0 ≤ s ∧ s ≤ 1)) ∧ ((ru 0 = 0 ∧ 0 ≤ k ∧ k ≤ 5) ∨ (ru 0 = 1 ∧ (k = 1 ∨ k = 5)) ∨ (ru 0 = 2 ∧ (k = 1 ∨ k = 6)) ∨ (¬ ru 0 = 0 ∧ ¬ ru 0 = 1 ∧ ¬ ru 0 = 2 ∧ 1 ≤ k ∧ k ≤ 4)))) by omega) (show ¬ (¬ ((ru 0 = 0 ∧ (T 103 p 4 ≠ 1 ∨ (k ≠ 1 ∧ k ≠ 2))) ∨ (ru 0 ≠ 0 ∧ (ru 0 ≠ 3 ∨ s = T 103 p 5)))) by omega) (show ¬ ((k = 5 ∨ (ru 0 = 0 ∧ k ≠ 0)) ∧ fp9_ (rs9_ T p) s q = -1) by omega) (show ¬ (k = 5) by omega) (show ru 0 ≠ 3 ∨ k ≠ 1 ∨ (1 ≤ o ∧ o ≤ 4) by omega)).symm⟩
          · refine hK 60 _ [vI o, vI s, vR 103 p] T ?_
            refine j_callV (y := yX3_benchPlace) (Yc := zX3_benchPlace) (rest := []) [vI s, vI o] (ct_X3_benchPlace_e (T := T) (by omega)) cl_X3_83 (qd_c (by decide +kernel)) (nn_ _) rfl (rf_of rfl) (Nat.le_of_ble_eq_true rfl) (Nat.le_of_ble_eq_true rfl) (Nat.le_of_ble_eq_true rfl) rfl ?_
            rintro _ _ ⟨rfl, rfl⟩
            have n12 : bq9_ (rs9_ T p) s o = -1 ∨ (s * 10 ≤ bq9_ (rs9_ T p) s o ∧ bq9_ (rs9_ T p) s o < s * 10 + T 449 p s ∧ T 448 p (bq9_ (rs9_ T p) s o) = o ∧ T 472 p (bq9_ (rs9_ T p) s o) = 0) := bq9_b
            show J_ zX3_brokenLaw T (po_X3_brokenLaw_e T p ru k s q o) 0 0 63 _ [vI (bq9_ (rs9_ T p) s o)] T
            refine j_blx (F := fX3) tb_X3 (nn_ _) bk_X3_brokenLaw_e_63 bs_X3_brokenLaw_e_63 hz (fun K hK => ?_)
            refine And.intro (fun c13 => ?_) (fun c13 => ?_)
            · refine hK 69 _ [] T ?_
              refine j_blx (F := fX3) tb_X3 (nn_ _) bk_X3_brokenLaw_e_69 bs_X3_brokenLaw_e_69 hz (fun K hK => ?_)
              refine ix_i (by omega) ?_
              intro b14 b14b
              refine ix_i (by omega) ?_
              intro b16 b16b
              refine And.intro (fun c17 => ?_) (fun c17 => ?_)
              · refine hK 88 _ [] T ?_
                refine j_blx (F := fX3) tb_X3 (nn_ _) bk_X3_brokenLaw_e_88 bs_X3_brokenLaw_e_88 hz (fun K hK => ?_)
                refine hK 92 _ [vI o, vI k, vR 103 p] T ?_
                refine j_callV (y := yX3_isBounded) (Yc := zX3_isBounded) (rest := []) [vI k, vI o] (ct_X3_isBounded_e (T := T)) cl_X3_86 (qd_c (by decide +kernel)) (nn_ _) rfl (rf_of rfl) (Nat.le_of_ble_eq_true rfl) (Nat.le_of_ble_eq_true rfl) (Nat.le_of_ble_eq_true rfl) rfl ?_
                rintro _ _ ⟨rfl, x18, rfl, hx18⟩
                show J_ zX3_brokenLaw T (po_X3_brokenLaw_e T p ru k s q o) 0 0 95 _ [vI x18] T
                refine j_blx (F := fX3) tb_X3 (nn_ _) bk_X3_brokenLaw_e_95 bs_X3_brokenLaw_e_95 hz (fun K hK => ?_)
                refine And.intro (fun c19 => ?_) (fun c19 => ?_)
                · replace hx18 := hx18.resolve_left (fun z => absurd (c19.symm.trans z.1) (by decide))
                  clear c19
                  refine hK 102 _ [] T ?_
                  refine j_blx (F := fX3) tb_X3 (nn_ _) bk_X3_brokenLaw_e_102 bs_X3_brokenLaw_e_102 hz (fun K hK => ?_)
                  refine (show po_X3_brokenLaw_e T p ru k s q o T (some (vI 7)) from ?_)
                  exact ⟨rfl, _, rfl, by omega, (lw9__8 (r := ru) (a := (rs9_ T p)) (k := k) (s := s) (q := q) (o := o) (show ¬ (T 103 p 3 ≠ 0) by omega) (show ¬ (¬ ((k = 0 ∨ (0 ≤ s ∧ s ≤ 1)) ∧ ((ru 0 = 0 ∧ 0 ≤ k ∧ k ≤ 5) ∨ (ru 0 = 1 ∧ (k = 1 ∨ k = 5)) ∨ (ru 0 = 2 ∧ (k = 1 ∨ k = 6)) ∨ (¬ ru 0 = 0 ∧ ¬ ru 0 = 1 ∧ ¬ ru 0 = 2 ∧ 1 ≤ k ∧ k ≤ 4)))) by omega) (show ¬ (¬ ((ru 0 = 0 ∧ (T 103 p 4 ≠ 1 ∨ (k ≠ 1 ∧ k ≠ 2))) ∨ (ru 0 ≠ 0 ∧ (ru 0 ≠ 3 ∨ s = T 103 p 5)))) by omega) (show ¬ ((k = 5 ∨ (ru 0 = 0 ∧ k ≠ 0)) ∧ fp9_ (rs9_ T p) s q = -1) by omega) (show k = 5 by omega) (show ¬ (bq9_ (rs9_ T p) s o = -1) by omega) (show ¬ (ru 10 ≤ T 469 p s) by omega) (show ¬ (ru 0 ≠ 3 ∨ k ≠ 1 ∨ (1 ≤ o ∧ o ≤ 4)) by omega)).symm⟩
                · replace hx18 := hx18.resolve_right (fun z => c19 z.1)
                  clear c19
                  refine hK 104 _ [vI 0] T ?_
                  refine j_blx (F := fX3) tb_X3 (nn_ _) bk_X3_brokenLaw_e_104 bs_X3_brokenLaw_e_104 hz (fun K hK => ?_)
                  refine (show po_X3_brokenLaw_e T p ru k s q o T (some (vI 0)) from ?_)
                  exact ⟨rfl, _, rfl, by omega, (lw9__7 (r := ru) (a := (rs9_ T p)) (k := k) (s := s) (q := q) (o := o) (show ¬ (T 103 p 3 ≠ 0) by omega) (show ¬ (¬ ((k = 0 ∨ (0 ≤ s ∧ s ≤ 1)) ∧ ((ru 0 = 0 ∧ 0 ≤ k ∧ k ≤ 5) ∨ (ru 0 = 1 ∧ (k = 1 ∨ k = 5)) ∨ (ru 0 = 2 ∧ (k = 1 ∨ k = 6)) ∨ (¬ ru 0 = 0 ∧ ¬ ru 0 = 1 ∧ ¬ ru 0 = 2 ∧ 1 ≤ k ∧ k ≤ 4)))) by omega) (show ¬ (¬ ((ru 0 = 0 ∧ (T 103 p 4 ≠ 1 ∨ (k ≠ 1 ∧ k ≠ 2))) ∨ (ru 0 ≠ 0 ∧ (ru 0 ≠ 3 ∨ s = T 103 p 5)))) by omega) (show ¬ ((k = 5 ∨ (ru 0 = 0 ∧ k ≠ 0)) ∧ fp9_ (rs9_ T p) s q = -1) by omega) (show k = 5 by omega) (show ¬ (bq9_ (rs9_ T p) s o = -1) by omega) (show ¬ (ru 10 ≤ T 469 p s) by omega) (show ru 0 ≠ 3 ∨ k ≠ 1 ∨ (1 ≤ o ∧ o ≤ 4) by omega)).symm⟩
              · refine (show po_X3_brokenLaw_e T p ru k s q o T (some (vI 6)) from ?_)
                exact ⟨rfl, _, rfl, by omega, (lw9__6 (r := ru) (a := (rs9_ T p)) (k := k) (s := s) (q := q) (o := o) (show ¬ (T 103 p 3 ≠ 0) by omega) (show ¬ (¬ ((k = 0 ∨ (0 ≤ s ∧ s ≤ 1)) ∧ ((ru 0 = 0 ∧ 0 ≤ k ∧ k ≤ 5) ∨ (ru 0 = 1 ∧ (k = 1 ∨ k = 5)) ∨ (ru 0 = 2 ∧ (k = 1 ∨ k = 6)) ∨ (¬ ru 0 = 0 ∧ ¬ ru 0 = 1 ∧ ¬ ru 0 = 2 ∧ 1 ≤ k ∧ k ≤ 4)))) by omega) (show ¬ (¬ ((ru 0 = 0 ∧ (T 103 p 4 ≠ 1 ∨ (k ≠ 1 ∧ k ≠ 2))) ∨ (ru 0 ≠ 0 ∧ (ru 0 ≠ 3 ∨ s = T 103 p 5)))) by omega) (show ¬ ((k = 5 ∨ (ru 0 = 0 ∧ k ≠ 0)) ∧ fp9_ (rs9_ T p) s q = -1) by omega) (show k = 5 by omega) (show ¬ (bq9_ (rs9_ T p) s o = -1) by omega) (show ru 10 ≤ T 469 p s by omega)).symm⟩
            · refine (show po_X3_brokenLaw_e T p ru k s q o T (some (vI 5)) from ?_)
              exact ⟨rfl, _, rfl, by omega, (lw9__5 (r := ru) (a := (rs9_ T p)) (k := k) (s := s) (q := q) (o := o) (show ¬ (T 103 p 3 ≠ 0) by omega) (show ¬ (¬ ((k = 0 ∨ (0 ≤ s ∧ s ≤ 1)) ∧ ((ru 0 = 0 ∧ 0 ≤ k ∧ k ≤ 5) ∨ (ru 0 = 1 ∧ (k = 1 ∨ k = 5)) ∨ (ru 0 = 2 ∧ (k = 1 ∨ k = 6)) ∨ (¬ ru 0 = 0 ∧ ¬ ru 0 = 1 ∧ ¬ ru 0 = 2 ∧ 1 ≤ k ∧ k ≤ 4)))) by omega) (show ¬ (¬ ((ru 0 = 0 ∧ (T 103 p 4 ≠ 1 ∨ (k ≠ 1 ∧ k ≠ 2))) ∨ (ru 0 ≠ 0 ∧ (ru 0 ≠ 3 ∨ s = T 103 p 5)))) by omega) (show ¬ ((k = 5 ∨ (ru 0 = 0 ∧ k ≠ 0)) ∧ fp9_ (rs9_ T p) s q = -1) by omega) (show k = 5 by omega) (show bq9_ (rs9_ T p) s o = -1 by omega)).symm⟩
        · replace hx7 := hx7.resolve_right (fun z => c8 z.1)
          clear c8
          refine hK 42 _ [vI q, vI s, vR 103 p] T ?_
          refine j_callV (y := yX3_fieldPlace) (Yc := zX3_fieldPlace) (rest := []) [vI s, vI q] (ct_X3_fieldPlace_e (T := T) (by omega)) cl_X3_79 (qd_c (by decide +kernel)) (nn_ _) rfl (rf_of rfl) (Nat.le_of_ble_eq_true rfl) (Nat.le_of_ble_eq_true rfl) (Nat.le_of_ble_eq_true rfl) rfl ?_
          rintro _ _ ⟨rfl, rfl⟩
          have n20 : fp9_ (rs9_ T p) s q = -1 ∨ (0 ≤ fp9_ (rs9_ T p) s q ∧ fp9_ (rs9_ T p) s q < T 470 p s ∧ T 448 p (T 471 p (s * 6 + fp9_ (rs9_ T p) s q)) = q) := fp9_b
          show J_ zX3_brokenLaw T (po_X3_brokenLaw_e T p ru k s q o) 0 0 45 _ [vI (fp9_ (rs9_ T p) s q)] T
          refine j_blx (F := fX3) tb_X3 (nn_ _) bk_X3_brokenLaw_e_45 bs_X3_brokenLaw_e_45 hz (fun K hK => ?_)
          refine And.intro (fun c21 => ?_) (fun c21 => ?_)
          · refine hK 51 _ [] T ?_
            refine j_blx (F := fX3) tb_X3 (nn_ _) bk_X3_brokenLaw_e_51 bs_X3_brokenLaw_e_51 hz (fun K hK => ?_)
            refine And.intro (fun c22 => ?_) (fun c22 => ?_)
            · refine hK 88 _ [] T ?_
              refine j_blx (F := fX3) tb_X3 (nn_ _) bk_X3_brokenLaw_e_88 bs_X3_brokenLaw_e_88 hz (fun K hK => ?_)
              refine hK 92 _ [vI o, vI k, vR 103 p] T ?_
              refine j_callV (y := yX3_isBounded) (Yc := zX3_isBounded) (rest := []) [vI k, vI o] (ct_X3_isBounded_e (T := T)) cl_X3_86 (qd_c (by decide +kernel)) (nn_ _) rfl (rf_of rfl) (Nat.le_of_ble_eq_true rfl) (Nat.le_of_ble_eq_true rfl) (Nat.le_of_ble_eq_true rfl) rfl ?_
              rintro _ _ ⟨rfl, x23, rfl, hx23⟩
              show J_ zX3_brokenLaw T (po_X3_brokenLaw_e T p ru k s q o) 0 0 95 _ [vI x23] T
              refine j_blx (F := fX3) tb_X3 (nn_ _) bk_X3_brokenLaw_e_95 bs_X3_brokenLaw_e_95 hz (fun K hK => ?_)
              refine And.intro (fun c24 => ?_) (fun c24 => ?_)
              · replace hx23 := hx23.resolve_left (fun z => absurd (c24.symm.trans z.1) (by decide))
                clear c24
                refine hK 102 _ [] T ?_
                refine j_blx (F := fX3) tb_X3 (nn_ _) bk_X3_brokenLaw_e_102 bs_X3_brokenLaw_e_102 hz (fun K hK => ?_)
                refine (show po_X3_brokenLaw_e T p ru k s q o T (some (vI 7)) from ?_)
                exact ⟨rfl, _, rfl, by omega, (lw9__8 (r := ru) (a := (rs9_ T p)) (k := k) (s := s) (q := q) (o := o) (show ¬ (T 103 p 3 ≠ 0) by omega) (show ¬ (¬ ((k = 0 ∨ (0 ≤ s ∧ s ≤ 1)) ∧ ((ru 0 = 0 ∧ 0 ≤ k ∧ k ≤ 5) ∨ (ru 0 = 1 ∧ (k = 1 ∨ k = 5)) ∨ (ru 0 = 2 ∧ (k = 1 ∨ k = 6)) ∨ (¬ ru 0 = 0 ∧ ¬ ru 0 = 1 ∧ ¬ ru 0 = 2 ∧ 1 ≤ k ∧ k ≤ 4)))) by omega) (show ¬ (¬ ((ru 0 = 0 ∧ (T 103 p 4 ≠ 1 ∨ (k ≠ 1 ∧ k ≠ 2))) ∨ (ru 0 ≠ 0 ∧ (ru 0 ≠ 3 ∨ s = T 103 p 5)))) by omega) (show ¬ ((k = 5 ∨ (ru 0 = 0 ∧ k ≠ 0)) ∧ fp9_ (rs9_ T p) s q = -1) by omega) (show k = 5 by omega) (show ¬ (bq9_ (rs9_ T p) s o = -1) by omega) (show ¬ (ru 10 ≤ T 469 p s) by omega) (show ¬ (ru 0 ≠ 3 ∨ k ≠ 1 ∨ (1 ≤ o ∧ o ≤ 4)) by omega)).symm⟩
              · replace hx23 := hx23.resolve_right (fun z => c24 z.1)
                clear c24
                refine hK 104 _ [vI 0] T ?_
                refine j_blx (F := fX3) tb_X3 (nn_ _) bk_X3_brokenLaw_e_104 bs_X3_brokenLaw_e_104 hz (fun K hK => ?_)
                refine (show po_X3_brokenLaw_e T p ru k s q o T (some (vI 0)) from ?_)
                exact ⟨rfl, _, rfl, by omega, (lw9__9 (r := ru) (a := (rs9_ T p)) (k := k) (s := s) (q := q) (o := o) (show ¬ (T 103 p 3 ≠ 0) by omega) (show ¬ (¬ ((k = 0 ∨ (0 ≤ s ∧ s ≤ 1)) ∧ ((ru 0 = 0 ∧ 0 ≤ k ∧ k ≤ 5) ∨ (ru 0 = 1 ∧ (k = 1 ∨ k = 5)) ∨ (ru 0 = 2 ∧ (k = 1 ∨ k = 6)) ∨ (¬ ru 0 = 0 ∧ ¬ ru 0 = 1 ∧ ¬ ru 0 = 2 ∧ 1 ≤ k ∧ k ≤ 4)))) by omega) (show ¬ (¬ ((ru 0 = 0 ∧ (T 103 p 4 ≠ 1 ∨ (k ≠ 1 ∧ k ≠ 2))) ∨ (ru 0 ≠ 0 ∧ (ru 0 ≠ 3 ∨ s = T 103 p 5)))) by omega) (show ¬ ((k = 5 ∨ (ru 0 = 0 ∧ k ≠ 0)) ∧ fp9_ (rs9_ T p) s q = -1) by omega) (show ¬ (k = 5) by omega) (show ru 0 ≠ 3 ∨ k ≠ 1 ∨ (1 ≤ o ∧ o ≤ 4) by omega)).symm⟩
            · refine hK 60 _ [vI o, vI s, vR 103 p] T ?_
              refine j_callV (y := yX3_benchPlace) (Yc := zX3_benchPlace) (rest := []) [vI s, vI o] (ct_X3_benchPlace_e (T := T) (by omega)) cl_X3_83 (qd_c (by decide +kernel)) (nn_ _) rfl (rf_of rfl) (Nat.le_of_ble_eq_true rfl) (Nat.le_of_ble_eq_true rfl) (Nat.le_of_ble_eq_true rfl) rfl ?_
              rintro _ _ ⟨rfl, rfl⟩
              have n25 : bq9_ (rs9_ T p) s o = -1 ∨ (s * 10 ≤ bq9_ (rs9_ T p) s o ∧ bq9_ (rs9_ T p) s o < s * 10 + T 449 p s ∧ T 448 p (bq9_ (rs9_ T p) s o) = o ∧ T 472 p (bq9_ (rs9_ T p) s o) = 0) := bq9_b
              show J_ zX3_brokenLaw T (po_X3_brokenLaw_e T p ru k s q o) 0 0 63 _ [vI (bq9_ (rs9_ T p) s o)] T
              refine j_blx (F := fX3) tb_X3 (nn_ _) bk_X3_brokenLaw_e_63 bs_X3_brokenLaw_e_63 hz (fun K hK => ?_)
              refine And.intro (fun c26 => ?_) (fun c26 => ?_)
              · refine hK 69 _ [] T ?_
                refine j_blx (F := fX3) tb_X3 (nn_ _) bk_X3_brokenLaw_e_69 bs_X3_brokenLaw_e_69 hz (fun K hK => ?_)
                refine ix_i (by omega) ?_
                intro b27 b27b
                refine ix_i (by omega) ?_
                intro b29 b29b
                refine And.intro (fun c30 => ?_) (fun c30 => ?_)
                · refine hK 88 _ [] T ?_
                  refine j_blx (F := fX3) tb_X3 (nn_ _) bk_X3_brokenLaw_e_88 bs_X3_brokenLaw_e_88 hz (fun K hK => ?_)
                  refine hK 92 _ [vI o, vI k, vR 103 p] T ?_
                  refine j_callV (y := yX3_isBounded) (Yc := zX3_isBounded) (rest := []) [vI k, vI o] (ct_X3_isBounded_e (T := T)) cl_X3_86 (qd_c (by decide +kernel)) (nn_ _) rfl (rf_of rfl) (Nat.le_of_ble_eq_true rfl) (Nat.le_of_ble_eq_true rfl) (Nat.le_of_ble_eq_true rfl) rfl ?_
                  rintro _ _ ⟨rfl, x31, rfl, hx31⟩
                  show J_ zX3_brokenLaw T (po_X3_brokenLaw_e T p ru k s q o) 0 0 95 _ [vI x31] T
                  refine j_blx (F := fX3) tb_X3 (nn_ _) bk_X3_brokenLaw_e_95 bs_X3_brokenLaw_e_95 hz (fun K hK => ?_)
                  refine And.intro (fun c32 => ?_) (fun c32 => ?_)
                  · replace hx31 := hx31.resolve_left (fun z => absurd (c32.symm.trans z.1) (by decide))
                    clear c32
                    refine hK 102 _ [] T ?_
                    refine j_blx (F := fX3) tb_X3 (nn_ _) bk_X3_brokenLaw_e_102 bs_X3_brokenLaw_e_102 hz (fun K hK => ?_)
                    refine (show po_X3_brokenLaw_e T p ru k s q o T (some (vI 7)) from ?_)
                    exact ⟨rfl, _, rfl, by omega, (lw9__8 (r := ru) (a := (rs9_ T p)) (k := k) (s := s) (q := q) (o := o) (show ¬ (T 103 p 3 ≠ 0) by omega) (show ¬ (¬ ((k = 0 ∨ (0 ≤ s ∧ s ≤ 1)) ∧ ((ru 0 = 0 ∧ 0 ≤ k ∧ k ≤ 5) ∨ (ru 0 = 1 ∧ (k = 1 ∨ k = 5)) ∨ (ru 0 = 2 ∧ (k = 1 ∨ k = 6)) ∨ (¬ ru 0 = 0 ∧ ¬ ru 0 = 1 ∧ ¬ ru 0 = 2 ∧ 1 ≤ k ∧ k ≤ 4)))) by omega) (show ¬ (¬ ((ru 0 = 0 ∧ (T 103 p 4 ≠ 1 ∨ (k ≠ 1 ∧ k ≠ 2))) ∨ (ru 0 ≠ 0 ∧ (ru 0 ≠ 3 ∨ s = T 103 p 5)))) by omega) (show ¬ ((k = 5 ∨ (ru 0 = 0 ∧ k ≠ 0)) ∧ fp9_ (rs9_ T p) s q = -1) by omega) (show k = 5 by omega) (show ¬ (bq9_ (rs9_ T p) s o = -1) by omega) (show ¬ (ru 10 ≤ T 469 p s) by omega) (show ¬ (ru 0 ≠ 3 ∨ k ≠ 1 ∨ (1 ≤ o ∧ o ≤ 4)) by omega)).symm⟩
                  · replace hx31 := hx31.resolve_right (fun z => c32 z.1)
                    clear c32
                    refine hK 104 _ [vI 0] T ?_
                    refine j_blx (F := fX3) tb_X3 (nn_ _) bk_X3_brokenLaw_e_104 bs_X3_brokenLaw_e_104 hz (fun K hK => ?_)
                    refine (show po_X3_brokenLaw_e T p ru k s q o T (some (vI 0)) from ?_)
                    exact ⟨rfl, _, rfl, by omega, (lw9__7 (r := ru) (a := (rs9_ T p)) (k := k) (s := s) (q := q) (o := o) (show ¬ (T 103 p 3 ≠ 0) by omega) (show ¬ (¬ ((k = 0 ∨ (0 ≤ s ∧ s ≤ 1)) ∧ ((ru 0 = 0 ∧ 0 ≤ k ∧ k ≤ 5) ∨ (ru 0 = 1 ∧ (k = 1 ∨ k = 5)) ∨ (ru 0 = 2 ∧ (k = 1 ∨ k = 6)) ∨ (¬ ru 0 = 0 ∧ ¬ ru 0 = 1 ∧ ¬ ru 0 = 2 ∧ 1 ≤ k ∧ k ≤ 4)))) by omega) (show ¬ (¬ ((ru 0 = 0 ∧ (T 103 p 4 ≠ 1 ∨ (k ≠ 1 ∧ k ≠ 2))) ∨ (ru 0 ≠ 0 ∧ (ru 0 ≠ 3 ∨ s = T 103 p 5)))) by omega) (show ¬ ((k = 5 ∨ (ru 0 = 0 ∧ k ≠ 0)) ∧ fp9_ (rs9_ T p) s q = -1) by omega) (show k = 5 by omega) (show ¬ (bq9_ (rs9_ T p) s o = -1) by omega) (show ¬ (ru 10 ≤ T 469 p s) by omega) (show ru 0 ≠ 3 ∨ k ≠ 1 ∨ (1 ≤ o ∧ o ≤ 4) by omega)).symm⟩
                · refine (show po_X3_brokenLaw_e T p ru k s q o T (some (vI 6)) from ?_)
                  exact ⟨rfl, _, rfl, by omega, (lw9__6 (r := ru) (a := (rs9_ T p)) (k := k) (s := s) (q := q) (o := o) (show ¬ (T 103 p 3 ≠ 0) by omega) (show ¬ (¬ ((k = 0 ∨ (0 ≤ s ∧ s ≤ 1)) ∧ ((ru 0 = 0 ∧ 0 ≤ k ∧ k ≤ 5) ∨ (ru 0 = 1 ∧ (k = 1 ∨ k = 5)) ∨ (ru 0 = 2 ∧ (k = 1 ∨ k = 6)) ∨ (¬ ru 0 = 0 ∧ ¬ ru 0 = 1 ∧ ¬ ru 0 = 2 ∧ 1 ≤ k ∧ k ≤ 4)))) by omega) (show ¬ (¬ ((ru 0 = 0 ∧ (T 103 p 4 ≠ 1 ∨ (k ≠ 1 ∧ k ≠ 2))) ∨ (ru 0 ≠ 0 ∧ (ru 0 ≠ 3 ∨ s = T 103 p 5)))) by omega) (show ¬ ((k = 5 ∨ (ru 0 = 0 ∧ k ≠ 0)) ∧ fp9_ (rs9_ T p) s q = -1) by omega) (show k = 5 by omega) (show ¬ (bq9_ (rs9_ T p) s o = -1) by omega) (show ru 10 ≤ T 469 p s by omega)).symm⟩
              · refine (show po_X3_brokenLaw_e T p ru k s q o T (some (vI 5)) from ?_)
                exact ⟨rfl, _, rfl, by omega, (lw9__5 (r := ru) (a := (rs9_ T p)) (k := k) (s := s) (q := q) (o := o) (show ¬ (T 103 p 3 ≠ 0) by omega) (show ¬ (¬ ((k = 0 ∨ (0 ≤ s ∧ s ≤ 1)) ∧ ((ru 0 = 0 ∧ 0 ≤ k ∧ k ≤ 5) ∨ (ru 0 = 1 ∧ (k = 1 ∨ k = 5)) ∨ (ru 0 = 2 ∧ (k = 1 ∨ k = 6)) ∨ (¬ ru 0 = 0 ∧ ¬ ru 0 = 1 ∧ ¬ ru 0 = 2 ∧ 1 ≤ k ∧ k ≤ 4)))) by omega) (show ¬ (¬ ((ru 0 = 0 ∧ (T 103 p 4 ≠ 1 ∨ (k ≠ 1 ∧ k ≠ 2))) ∨ (ru 0 ≠ 0 ∧ (ru 0 ≠ 3 ∨ s = T 103 p 5)))) by omega) (show ¬ ((k = 5 ∨ (ru 0 = 0 ∧ k ≠ 0)) ∧ fp9_ (rs9_ T p) s q = -1) by omega) (show k = 5 by omega) (show bq9_ (rs9_ T p) s o = -1 by omega)).symm⟩
          · refine (show po_X3_brokenLaw_e T p ru k s q o T (some (vI 4)) from ?_)
            exact ⟨rfl, _, rfl, by omega, (lw9__4 (r := ru) (a := (rs9_ T p)) (k := k) (s := s) (q := q) (o := o) (show ¬ (T 103 p 3 ≠ 0) by omega) (show ¬ (¬ ((k = 0 ∨ (0 ≤ s ∧ s ≤ 1)) ∧ ((ru 0 = 0 ∧ 0 ≤ k ∧ k ≤ 5) ∨ (ru 0 = 1 ∧ (k = 1 ∨ k = 5)) ∨ (ru 0 = 2 ∧ (k = 1 ∨ k = 6)) ∨ (¬ ru 0 = 0 ∧ ¬ ru 0 = 1 ∧ ¬ ru 0 = 2 ∧ 1 ≤ k ∧ k ≤ 4)))) by omega) (show ¬ (¬ ((ru 0 = 0 ∧ (T 103 p 4 ≠ 1 ∨ (k ≠ 1 ∧ k ≠ 2))) ∨ (ru 0 ≠ 0 ∧ (ru 0 ≠ 3 ∨ s = T 103 p 5)))) by omega) (show (k = 5 ∨ (ru 0 = 0 ∧ k ≠ 0)) ∧ fp9_ (rs9_ T p) s q = -1 by omega)).symm⟩
      · replace hx5 := hx5.resolve_left (fun z => absurd (c6.symm.trans z.1) (by decide))
        clear c6
        refine (show po_X3_brokenLaw_e T p ru k s q o T (some (vI 3)) from ?_)
        exact ⟨rfl, _, rfl, by omega, (lw9__3 (r := ru) (a := (rs9_ T p)) (k := k) (s := s) (q := q) (o := o) (show ¬ (T 103 p 3 ≠ 0) by omega) (show ¬ (¬ ((k = 0 ∨ (0 ≤ s ∧ s ≤ 1)) ∧ ((ru 0 = 0 ∧ 0 ≤ k ∧ k ≤ 5) ∨ (ru 0 = 1 ∧ (k = 1 ∨ k = 5)) ∨ (ru 0 = 2 ∧ (k = 1 ∨ k = 6)) ∨ (¬ ru 0 = 0 ∧ ¬ ru 0 = 1 ∧ ¬ ru 0 = 2 ∧ 1 ≤ k ∧ k ≤ 4)))) by omega) (show ¬ ((ru 0 = 0 ∧ (T 103 p 4 ≠ 1 ∨ (k ≠ 1 ∧ k ≠ 2))) ∨ (ru 0 ≠ 0 ∧ (ru 0 ≠ 3 ∨ s = T 103 p 5))) by omega)).symm⟩
    · replace hx3 := hx3.resolve_left (fun z => absurd (c4.symm.trans z.1) (by decide))
      clear c4
      refine (show po_X3_brokenLaw_e T p ru k s q o T (some (vI 2)) from ?_)
      exact ⟨rfl, _, rfl, by omega, (lw9__2 (r := ru) (a := (rs9_ T p)) (k := k) (s := s) (q := q) (o := o) (show ¬ (T 103 p 3 ≠ 0) by omega) (show ¬ ((k = 0 ∨ (0 ≤ s ∧ s ≤ 1)) ∧ ((ru 0 = 0 ∧ 0 ≤ k ∧ k ≤ 5) ∨ (ru 0 = 1 ∧ (k = 1 ∨ k = 5)) ∨ (ru 0 = 2 ∧ (k = 1 ∨ k = 6)) ∨ (¬ ru 0 = 0 ∧ ¬ ru 0 = 1 ∧ ¬ ru 0 = 2 ∧ 1 ≤ k ∧ k ≤ 4))) by omega)).symm⟩
  · refine (show po_X3_brokenLaw_e T p ru k s q o T (some (vI 1)) from ?_)
    exact ⟨rfl, _, rfl, by omega, (lw9__1 (r := ru) (a := (rs9_ T p)) (k := k) (s := s) (q := q) (o := o) (show T 103 p 3 ≠ 0 by omega)).symm⟩
