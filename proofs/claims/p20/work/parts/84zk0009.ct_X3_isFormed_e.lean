theorem bk_X3_isFormed_e_105 : ck_ fX3 (some .boolean) cX3_isFormed 105 [.iload 3, .ifCond .eq 124, .iload 1, .ifCond .eq 120, .iload 2] 114 = true := qck_r (nn_ _) (by decide +kernel)
theorem bs_X3_isFormed_e_105 {P : Zt → Option Zv → Prop} (K : Int → Zl → List Zv → Zt → Prop) : sx_ K P [.iload 3, .ifCond .eq 124, .iload 1, .ifCond .eq 120, .iload 2] 114 = x_iload 3 (x_ifCond .eq 124 K (x_iload 1 (x_ifCond .eq 120 K (x_iload 2 (K 114))))) := ((xe_iload 3).trans (congrArg (x_iload 3) ((xe_ifCond .eq 124).trans (congrArg (x_ifCond .eq 124 K) ((xe_iload 1).trans (congrArg (x_iload 1) ((xe_ifCond .eq 120).trans (congrArg (x_ifCond .eq 120 K) ((xe_iload 2).trans (congrArg (x_iload 2) xe_nil))))))))))
theorem bk_X3_isFormed_e_124 : ck_ fX3 (some .boolean) cX3_isFormed 124 [.iconst 0, .ireturn] 126 = true := qck_r (nn_ _) (by decide +kernel)
theorem bs_X3_isFormed_e_124 {P : Zt → Option Zv → Prop} (K : Int → Zl → List Zv → Zt → Prop) : sx_ K P [.iconst 0, .ireturn] 126 = x_iconst 0 (x_ireturn P) := ((xe_iconst 0).trans (congrArg (x_iconst 0) (xe_ireturn)))
theorem bk_X3_isFormed_e_120 : ck_ fX3 (some .boolean) cX3_isFormed 120 [.iconst 1, .goto 125] 124 = true := qck_r (nn_ _) (by decide +kernel)
theorem bs_X3_isFormed_e_120 {P : Zt → Option Zv → Prop} (K : Int → Zl → List Zv → Zt → Prop) : sx_ K P [.iconst 1, .goto 125] 124 = x_iconst 1 (x_goto 125 K) := ((xe_iconst 1).trans (congrArg (x_iconst 1) (xe_goto 125)))
theorem bk_X3_isFormed_e_125 : ck_ fX3 (some .boolean) cX3_isFormed 125 [.ireturn] 126 = true := qck_r (nn_ _) (by decide +kernel)
theorem bs_X3_isFormed_e_125 {P : Zt → Option Zv → Prop} (K : Int → Zl → List Zv → Zt → Prop) : sx_ K P [.ireturn] 126 = x_ireturn P := (xe_ireturn)
theorem bk_X3_isFormed_e_117 : ck_ fX3 (some .boolean) cX3_isFormed 117 [.ifCond .eq 124, .iconst 1, .goto 125] 124 = true := qck_r (nn_ _) (by decide +kernel)
theorem bs_X3_isFormed_e_117 {P : Zt → Option Zv → Prop} (K : Int → Zl → List Zv → Zt → Prop) : sx_ K P [.ifCond .eq 124, .iconst 1, .goto 125] 124 = x_ifCond .eq 124 K (x_iconst 1 (x_goto 125 K)) := ((xe_ifCond .eq 124).trans (congrArg (x_ifCond .eq 124 K) ((xe_iconst 1).trans (congrArg (x_iconst 1) (xe_goto 125)))))
theorem bk_X3_isFormed_e_0 : ck_ fX3 (some .boolean) cX3_isFormed 0 [.aload 0, .tableswitch 0 3 0 #[], .iconst 0, .iaload] 6 = true := qck_r (nn_ _) (by decide +kernel)
theorem bs_X3_isFormed_e_0 {P : Zt → Option Zv → Prop} (K : Int → Zl → List Zv → Zt → Prop) : sx_ K P [.aload 0, .tableswitch 0 3 0 #[], .iconst 0, .iaload] 6 = x_aload 0 (x_g3 103 401 0 (x_iconst 0 (x_iaload (K 6)))) := ((xe_aload 0).trans (congrArg (x_aload 0) ((xe_g3 (kk := 103) rfl tl_3_0).trans (congrArg (x_g3 103 401 0) ((xe_iconst 0).trans (congrArg (x_iconst 0) ((xe_iaload).trans (congrArg (x_iaload) xe_nil))))))))
theorem bk_X3_isFormed_e_32 : ck_ fX3 (some .boolean) cX3_isFormed 32 [.iload 1, .ifCond .lt 45, .iload 1, .iconst 5, .if_icmp .gt 45, .iconst 1, .goto 46] 45 = true := qck_r (nn_ _) (by decide +kernel)
theorem bs_X3_isFormed_e_32 {P : Zt → Option Zv → Prop} (K : Int → Zl → List Zv → Zt → Prop) : sx_ K P [.iload 1, .ifCond .lt 45, .iload 1, .iconst 5, .if_icmp .gt 45, .iconst 1, .goto 46] 45 = x_iload 1 (x_ifCond .lt 45 K (x_iload 1 (x_iconst 5 (x_if_icmp .gt 45 K (x_iconst 1 (x_goto 46 K)))))) := ((xe_iload 1).trans (congrArg (x_iload 1) ((xe_ifCond .lt 45).trans (congrArg (x_ifCond .lt 45 K) ((xe_iload 1).trans (congrArg (x_iload 1) ((xe_iconst 5).trans (congrArg (x_iconst 5) ((xe_if_icmp .gt 45).trans (congrArg (x_if_icmp .gt 45 K) ((xe_iconst 1).trans (congrArg (x_iconst 1) (xe_goto 46)))))))))))))
theorem bk_X3_isFormed_e_45 : ck_ fX3 (some .boolean) cX3_isFormed 45 [.iconst 0, .istore 3, .goto 105] 50 = true := qck_r (nn_ _) (by decide +kernel)
theorem bs_X3_isFormed_e_45 {P : Zt → Option Zv → Prop} (K : Int → Zl → List Zv → Zt → Prop) : sx_ K P [.iconst 0, .istore 3, .goto 105] 50 = x_iconst 0 (x_istore 3 (x_goto 105 K)) := ((xe_iconst 0).trans (congrArg (x_iconst 0) ((xe_istore 3).trans (congrArg (x_istore 3) (xe_goto 105)))))
theorem bk_X3_isFormed_e_46 : ck_ fX3 (some .boolean) cX3_isFormed 46 [.istore 3, .goto 105] 50 = true := qck_r (nn_ _) (by decide +kernel)
theorem bs_X3_isFormed_e_46 {P : Zt → Option Zv → Prop} (K : Int → Zl → List Zv → Zt → Prop) : sx_ K P [.istore 3, .goto 105] 50 = x_istore 3 (x_goto 105 K) := ((xe_istore 3).trans (congrArg (x_istore 3) (xe_goto 105)))
theorem bk_X3_isFormed_e_50 : ck_ fX3 (some .boolean) cX3_isFormed 50 [.iload 1, .iconst 1, .if_icmp .eq 60, .iload 1, .iconst 5, .if_icmp .ne 64, .iconst 1, .goto 65] 64 = true := qck_r (nn_ _) (by decide +kernel)
theorem bs_X3_isFormed_e_50 {P : Zt → Option Zv → Prop} (K : Int → Zl → List Zv → Zt → Prop) : sx_ K P [.iload 1, .iconst 1, .if_icmp .eq 60, .iload 1, .iconst 5, .if_icmp .ne 64, .iconst 1, .goto 65] 64 = x_iload 1 (x_iconst 1 (x_if_icmp .eq 60 K (x_iload 1 (x_iconst 5 (x_if_icmp .ne 64 K (x_iconst 1 (x_goto 65 K))))))) := ((xe_iload 1).trans (congrArg (x_iload 1) ((xe_iconst 1).trans (congrArg (x_iconst 1) ((xe_if_icmp .eq 60).trans (congrArg (x_if_icmp .eq 60 K) ((xe_iload 1).trans (congrArg (x_iload 1) ((xe_iconst 5).trans (congrArg (x_iconst 5) ((xe_if_icmp .ne 64).trans (congrArg (x_if_icmp .ne 64 K) ((xe_iconst 1).trans (congrArg (x_iconst 1) (xe_goto 65)))))))))))))))
theorem bk_X3_isFormed_e_60 : ck_ fX3 (some .boolean) cX3_isFormed 60 [.iconst 1, .goto 65] 64 = true := qck_r (nn_ _) (by decide +kernel)
theorem bs_X3_isFormed_e_60 {P : Zt → Option Zv → Prop} (K : Int → Zl → List Zv → Zt → Prop) : sx_ K P [.iconst 1, .goto 65] 64 = x_iconst 1 (x_goto 65 K) := ((xe_iconst 1).trans (congrArg (x_iconst 1) (xe_goto 65)))
theorem bk_X3_isFormed_e_65 : ck_ fX3 (some .boolean) cX3_isFormed 65 [.istore 3, .goto 105] 69 = true := qck_r (nn_ _) (by decide +kernel)
theorem bs_X3_isFormed_e_65 {P : Zt → Option Zv → Prop} (K : Int → Zl → List Zv → Zt → Prop) : sx_ K P [.istore 3, .goto 105] 69 = x_istore 3 (x_goto 105 K) := ((xe_istore 3).trans (congrArg (x_istore 3) (xe_goto 105)))
theorem bk_X3_isFormed_e_64 : ck_ fX3 (some .boolean) cX3_isFormed 64 [.iconst 0, .istore 3, .goto 105] 69 = true := qck_r (nn_ _) (by decide +kernel)
theorem bs_X3_isFormed_e_64 {P : Zt → Option Zv → Prop} (K : Int → Zl → List Zv → Zt → Prop) : sx_ K P [.iconst 0, .istore 3, .goto 105] 69 = x_iconst 0 (x_istore 3 (x_goto 105 K)) := ((xe_iconst 0).trans (congrArg (x_iconst 0) ((xe_istore 3).trans (congrArg (x_istore 3) (xe_goto 105)))))
theorem bk_X3_isFormed_e_69 : ck_ fX3 (some .boolean) cX3_isFormed 69 [.iload 1, .iconst 1, .if_icmp .eq 80, .iload 1, .iconst 6, .if_icmp .ne 84, .iconst 1, .goto 85] 84 = true := qck_r (nn_ _) (by decide +kernel)
theorem bs_X3_isFormed_e_69 {P : Zt → Option Zv → Prop} (K : Int → Zl → List Zv → Zt → Prop) : sx_ K P [.iload 1, .iconst 1, .if_icmp .eq 80, .iload 1, .iconst 6, .if_icmp .ne 84, .iconst 1, .goto 85] 84 = x_iload 1 (x_iconst 1 (x_if_icmp .eq 80 K (x_iload 1 (x_iconst 6 (x_if_icmp .ne 84 K (x_iconst 1 (x_goto 85 K))))))) := ((xe_iload 1).trans (congrArg (x_iload 1) ((xe_iconst 1).trans (congrArg (x_iconst 1) ((xe_if_icmp .eq 80).trans (congrArg (x_if_icmp .eq 80 K) ((xe_iload 1).trans (congrArg (x_iload 1) ((xe_iconst 6).trans (congrArg (x_iconst 6) ((xe_if_icmp .ne 84).trans (congrArg (x_if_icmp .ne 84 K) ((xe_iconst 1).trans (congrArg (x_iconst 1) (xe_goto 85)))))))))))))))
theorem bk_X3_isFormed_e_80 : ck_ fX3 (some .boolean) cX3_isFormed 80 [.iconst 1, .goto 85] 84 = true := qck_r (nn_ _) (by decide +kernel)
theorem bs_X3_isFormed_e_80 {P : Zt → Option Zv → Prop} (K : Int → Zl → List Zv → Zt → Prop) : sx_ K P [.iconst 1, .goto 85] 84 = x_iconst 1 (x_goto 85 K) := ((xe_iconst 1).trans (congrArg (x_iconst 1) (xe_goto 85)))
theorem bk_X3_isFormed_e_85 : ck_ fX3 (some .boolean) cX3_isFormed 85 [.istore 3, .goto 105] 89 = true := qck_r (nn_ _) (by decide +kernel)
theorem bs_X3_isFormed_e_85 {P : Zt → Option Zv → Prop} (K : Int → Zl → List Zv → Zt → Prop) : sx_ K P [.istore 3, .goto 105] 89 = x_istore 3 (x_goto 105 K) := ((xe_istore 3).trans (congrArg (x_istore 3) (xe_goto 105)))
theorem bk_X3_isFormed_e_84 : ck_ fX3 (some .boolean) cX3_isFormed 84 [.iconst 0, .istore 3, .goto 105] 89 = true := qck_r (nn_ _) (by decide +kernel)
theorem bs_X3_isFormed_e_84 {P : Zt → Option Zv → Prop} (K : Int → Zl → List Zv → Zt → Prop) : sx_ K P [.iconst 0, .istore 3, .goto 105] 89 = x_iconst 0 (x_istore 3 (x_goto 105 K)) := ((xe_iconst 0).trans (congrArg (x_iconst 0) ((xe_istore 3).trans (congrArg (x_istore 3) (xe_goto 105)))))
theorem bk_X3_isFormed_e_89 : ck_ fX3 (some .boolean) cX3_isFormed 89 [.iload 1, .iconst 1, .if_icmp .lt 103, .iload 1, .iconst 4, .if_icmp .gt 103, .iconst 1, .goto 104] 103 = true := qck_r (nn_ _) (by decide +kernel)
theorem bs_X3_isFormed_e_89 {P : Zt → Option Zv → Prop} (K : Int → Zl → List Zv → Zt → Prop) : sx_ K P [.iload 1, .iconst 1, .if_icmp .lt 103, .iload 1, .iconst 4, .if_icmp .gt 103, .iconst 1, .goto 104] 103 = x_iload 1 (x_iconst 1 (x_if_icmp .lt 103 K (x_iload 1 (x_iconst 4 (x_if_icmp .gt 103 K (x_iconst 1 (x_goto 104 K))))))) := ((xe_iload 1).trans (congrArg (x_iload 1) ((xe_iconst 1).trans (congrArg (x_iconst 1) ((xe_if_icmp .lt 103).trans (congrArg (x_if_icmp .lt 103 K) ((xe_iload 1).trans (congrArg (x_iload 1) ((xe_iconst 4).trans (congrArg (x_iconst 4) ((xe_if_icmp .gt 103).trans (congrArg (x_if_icmp .gt 103 K) ((xe_iconst 1).trans (congrArg (x_iconst 1) (xe_goto 104)))))))))))))))
theorem bk_X3_isFormed_e_103 : ck_ fX3 (some .boolean) cX3_isFormed 103 [.iconst 0, .istore 3] 105 = true := qck_r (nn_ _) (by decide +kernel)
theorem bs_X3_isFormed_e_103 {P : Zt → Option Zv → Prop} (K : Int → Zl → List Zv → Zt → Prop) : sx_ K P [.iconst 0, .istore 3] 105 = x_iconst 0 (x_istore 3 (K 105)) := ((xe_iconst 0).trans (congrArg (x_iconst 0) ((xe_istore 3).trans (congrArg (x_istore 3) xe_nil))))
theorem bk_X3_isFormed_e_104 : ck_ fX3 (some .boolean) cX3_isFormed 104 [.istore 3] 105 = true := qck_r (nn_ _) (by decide +kernel)
theorem bs_X3_isFormed_e_104 {P : Zt → Option Zv → Prop} (K : Int → Zl → List Zv → Zt → Prop) : sx_ K P [.istore 3] 105 = x_istore 3 (K 105) := ((xe_istore 3).trans (congrArg (x_istore 3) xe_nil))
abbrev po_X3_isFormed_e (T : Zt) (p : Int) (k s : Int) : Zt → Option Zv → Prop := fun T' r => T = T' ∧ ∃ x : Int, r = some (vI x) ∧ ((x = 1 ∧ ((k = 0 ∨ (0 ≤ s ∧ s ≤ 1)) ∧ ((T 401 (T 103 p 0) 0 = 0 ∧ 0 ≤ k ∧ k ≤ 5) ∨ (T 401 (T 103 p 0) 0 = 1 ∧ (k = 1 ∨ k = 5)) ∨ (T 401 (T 103 p 0) 0 = 2 ∧ (k = 1 ∨ k = 6)) ∨ (¬ T 401 (T 103 p 0) 0 = 0 ∧ ¬ T 401 (T 103 p 0) 0 = 1 ∧ ¬ T 401 (T 103 p 0) 0 = 2 ∧ 1 ≤ k ∧ k ≤ 4)))) ∨ (x = 0 ∧ ¬ ((k = 0 ∨ (0 ≤ s ∧ s ≤ 1)) ∧ ((T 401 (T 103 p 0) 0 = 0 ∧ 0 ≤ k ∧ k ≤ 5) ∨ (T 401 (T 103 p 0) 0 = 1 ∧ (k = 1 ∨ k = 5)) ∨ (T 401 (T 103 p 0) 0 = 2 ∧ (k = 1 ∨ k = 6)) ∨ (¬ T 401 (T 103 p 0) 0 = 0 ∧ ¬ T 401 (T 103 p 0) 0 = 1 ∧ ¬ T 401 (T 103 p 0) 0 = 2 ∧ 1 ≤ k ∧ k ≤ 4)))))
set_option maxHeartbeats 4000000 in
theorem ct_X3_isFormed_e {T : Zt} {p : Int} {k s : Int} : Ct_ yX3_isFormed zX3_isFormed T [vR 103 p, vI k, vI s] (po_X3_isFormed_e T p k s) := by
  refine ct_of pn_3 rfl rfl (Nat.le_of_ble_eq_true rfl) (fun hT hav => ?_)
  have hr_k : -2147483648 ≤ k ∧ k ≤ 2147483647 := hav (vI k) (List.mem_cons_of_mem _ List.mem_cons_self)
  have hr_s : -2147483648 ≤ s ∧ s ≤ 2147483647 := hav (vI s) (List.mem_cons_of_mem _ (List.mem_cons_of_mem _ List.mem_cons_self))
  have hz : zX3_isFormed.2.2.2.1 = some .boolean → ∀ (T' : Zt) (x : Int), po_X3_isFormed_e T p k s T' (some (vI x)) → 0 ≤ x ∧ x ≤ 1 := fun _ T' x h => by obtain ⟨-, y, e, hy⟩ := h; cases e; omega
  show J_ zX3_isFormed T (po_X3_isFormed_e T p k s) 0 0 0 [some (vR 103 p), some (vI k), some (vI s), none] [] T
  have c_105 : ∀ (v : Int), ((v = 1 ∧ ((T 401 (T 103 p 0) 0 = 0 ∧ 0 ≤ k ∧ k ≤ 5) ∨ (T 401 (T 103 p 0) 0 = 1 ∧ (k = 1 ∨ k = 5)) ∨ (T 401 (T 103 p 0) 0 = 2 ∧ (k = 1 ∨ k = 6)) ∨ (¬ T 401 (T 103 p 0) 0 = 0 ∧ ¬ T 401 (T 103 p 0) 0 = 1 ∧ ¬ T 401 (T 103 p 0) 0 = 2 ∧ 1 ≤ k ∧ k ≤ 4))) ∨ (v = 0 ∧ ¬ ((T 401 (T 103 p 0) 0 = 0 ∧ 0 ≤ k ∧ k ≤ 5) ∨ (T 401 (T 103 p 0) 0 = 1 ∧ (k = 1 ∨ k = 5)) ∨ (T 401 (T 103 p 0) 0 = 2 ∧ (k = 1 ∨ k = 6)) ∨ (¬ T 401 (T 103 p 0) 0 = 0 ∧ ¬ T 401 (T 103 p 0) 0 = 1 ∧ ¬ T 401 (T 103 p 0) 0 = 2 ∧ 1 ≤ k ∧ k ≤ 4)))) → J_ zX3_isFormed T (po_X3_isFormed_e T p k s) 0 0 105 [some (vR 103 p), some (vI k), some (vI s), some (vI v)] [] T := by
    intro v i1
    refine j_blx (F := fX3) tb_X3 (nn_ _) bk_X3_isFormed_e_105 bs_X3_isFormed_e_105 hz (fun K hK => ?_)
    refine And.intro (fun c1 => ?_) (fun c1 => ?_)
    · refine hK 124 _ [] T ?_
      refine j_blx (F := fX3) tb_X3 (nn_ _) bk_X3_isFormed_e_124 bs_X3_isFormed_e_124 hz (fun K hK => ?_)
      refine (show po_X3_isFormed_e T p k s T (some (vI 0)) from ?_)
      exact ⟨rfl, _, rfl, Or.inr ⟨rfl, by omega⟩⟩
    · refine And.intro (fun c2 => ?_) (fun c2 => ?_)
      · refine hK 120 _ [] T ?_
        refine j_blx (F := fX3) tb_X3 (nn_ _) bk_X3_isFormed_e_120 bs_X3_isFormed_e_120 hz (fun K hK => ?_)
        refine hK 125 _ [vI 1] T ?_
        refine j_blx (F := fX3) tb_X3 (nn_ _) bk_X3_isFormed_e_125 bs_X3_isFormed_e_125 hz (fun K hK => ?_)
        refine (show po_X3_isFormed_e T p k s T (some (vI 1)) from ?_)
        exact ⟨rfl, _, rfl, Or.inl ⟨rfl, by omega⟩⟩
      · refine hK 114 _ [vI s] T ?_
        refine j_callN (Yc := zX10_isSide) (rest := []) [vI s] rfl (ct_X10_isSide (T := T)) cn_X3_89 (qd_c (by decide +kernel)) (nn_ _) rfl (rf_of rfl) (Nat.le_of_ble_eq_true rfl) (Nat.le_of_ble_eq_true rfl) (Nat.le_of_ble_eq_true rfl) rfl ?_
        rintro _ _ ⟨rfl, x3, rfl, hx3⟩
        show J_ zX3_isFormed T (po_X3_isFormed_e T p k s) 0 0 117 _ [vI x3] T
        refine j_blx (F := fX3) tb_X3 (nn_ _) bk_X3_isFormed_e_117 bs_X3_isFormed_e_117 hz (fun K hK => ?_)
        refine And.intro (fun c4 => ?_) (fun c4 => ?_)
        · replace hx3 := hx3.resolve_left (fun z => absurd (c4.symm.trans z.1) (by decide))
          clear c4
          refine hK 124 _ [] T ?_
          refine j_blx (F := fX3) tb_X3 (nn_ _) bk_X3_isFormed_e_124 bs_X3_isFormed_e_124 hz (fun K hK => ?_)
          refine (show po_X3_isFormed_e T p k s T (some (vI 0)) from ?_)
          exact ⟨rfl, _, rfl, Or.inr ⟨rfl, by omega⟩⟩
        · replace hx3 := hx3.resolve_right (fun z => c4 z.1)
          clear c4
          refine hK 125 _ [vI 1] T ?_
          refine j_blx (F := fX3) tb_X3 (nn_ _) bk_X3_isFormed_e_125 bs_X3_isFormed_e_125 hz (fun K hK => ?_)
          refine (show po_X3_isFormed_e T p k s T (some (vI 1)) from ?_)
          exact ⟨rfl, _, rfl, Or.inl ⟨rfl, by omega⟩⟩
  refine j_blx (F := fX3) tb_X3 (nn_ _) bk_X3_isFormed_e_0 bs_X3_isFormed_e_0 hz (fun K hK => ?_)
  refine ix_i (by omega) ?_
  intro b6 b6b
  refine hK 6 _ [vI (T 401 (T 103 p 0) 0)] T ?_
  by_cases z7_0 : (T 401 (T 103 p 0) 0) = 0
  · refine j_tsI (pc := 6) 0 (off := 26) (tgt := 32) (by decide) ds_X3_isFormed_6 (by omega) (by decide) rfl (by decide) (by decide) ?_
    refine j_blx (F := fX3) tb_X3 (nn_ _) bk_X3_isFormed_e_32 bs_X3_isFormed_e_32 hz (fun K hK => ?_)
    refine And.intro (fun c8 => ?_) (fun c8 => ?_)
    · refine hK 45 _ [] T ?_
      refine j_blx (F := fX3) tb_X3 (nn_ _) bk_X3_isFormed_e_45 bs_X3_isFormed_e_45 hz (fun K hK => ?_)
      refine hK 105 [some (vR 103 p), some (vI k), some (vI s), some (vI 0)] [] T ?_
      refine c_105 0 ?_
      · omega
    · refine And.intro (fun c9 => ?_) (fun c9 => ?_)
      · refine hK 45 [some (vR 103 p), some (vI k), some (vI s), none] [] T ?_
        refine j_blx (F := fX3) tb_X3 (nn_ _) bk_X3_isFormed_e_45 bs_X3_isFormed_e_45 hz (fun K hK => ?_)
        refine hK 105 [some (vR 103 p), some (vI k), some (vI s), some (vI 0)] [] T ?_
        refine c_105 0 ?_
        · omega
      · refine hK 46 [some (vR 103 p), some (vI k), some (vI s), none] [vI 1] T ?_
        refine j_blx (F := fX3) tb_X3 (nn_ _) bk_X3_isFormed_e_46 bs_X3_isFormed_e_46 hz (fun K hK => ?_)
        refine hK 105 [some (vR 103 p), some (vI k), some (vI s), some (vI 1)] [] T ?_
        refine c_105 1 ?_
        · omega
  by_cases z7_1 : (T 401 (T 103 p 0) 0) = 1
  · refine j_tsI (pc := 6) 1 (off := 44) (tgt := 50) (by decide) ds_X3_isFormed_6 (by omega) (by decide) rfl (by decide) (by decide) ?_
    refine j_blx (F := fX3) tb_X3 (nn_ _) bk_X3_isFormed_e_50 bs_X3_isFormed_e_50 hz (fun K hK => ?_)
    refine And.intro (fun c10 => ?_) (fun c10 => ?_)
    · refine hK 60 _ [] T ?_
      refine j_blx (F := fX3) tb_X3 (nn_ _) bk_X3_isFormed_e_60 bs_X3_isFormed_e_60 hz (fun K hK => ?_)
      refine hK 65 _ [vI 1] T ?_
      refine j_blx (F := fX3) tb_X3 (nn_ _) bk_X3_isFormed_e_65 bs_X3_isFormed_e_65 hz (fun K hK => ?_)
      refine hK 105 [some (vR 103 p), some (vI k), some (vI s), some (vI 1)] [] T ?_
      refine c_105 1 ?_
      · omega
    · refine And.intro (fun c11 => ?_) (fun c11 => ?_)
      · refine hK 64 [some (vR 103 p), some (vI k), some (vI s), none] [] T ?_
        refine j_blx (F := fX3) tb_X3 (nn_ _) bk_X3_isFormed_e_64 bs_X3_isFormed_e_64 hz (fun K hK => ?_)
        refine hK 105 [some (vR 103 p), some (vI k), some (vI s), some (vI 0)] [] T ?_
        refine c_105 0 ?_
        · omega
      · refine hK 65 [some (vR 103 p), some (vI k), some (vI s), none] [vI 1] T ?_
        refine j_blx (F := fX3) tb_X3 (nn_ _) bk_X3_isFormed_e_65 bs_X3_isFormed_e_65 hz (fun K hK => ?_)
        refine hK 105 [some (vR 103 p), some (vI k), some (vI s), some (vI 1)] [] T ?_
        refine c_105 1 ?_
        · omega
  by_cases z7_2 : (T 401 (T 103 p 0) 0) = 2
  · refine j_tsI (pc := 6) 2 (off := 63) (tgt := 69) (by decide) ds_X3_isFormed_6 (by omega) (by decide) rfl (by decide) (by decide) ?_
    refine j_blx (F := fX3) tb_X3 (nn_ _) bk_X3_isFormed_e_69 bs_X3_isFormed_e_69 hz (fun K hK => ?_)
    refine And.intro (fun c12 => ?_) (fun c12 => ?_)
    · refine hK 80 _ [] T ?_
      refine j_blx (F := fX3) tb_X3 (nn_ _) bk_X3_isFormed_e_80 bs_X3_isFormed_e_80 hz (fun K hK => ?_)
      refine hK 85 _ [vI 1] T ?_
      refine j_blx (F := fX3) tb_X3 (nn_ _) bk_X3_isFormed_e_85 bs_X3_isFormed_e_85 hz (fun K hK => ?_)
      refine hK 105 [some (vR 103 p), some (vI k), some (vI s), some (vI 1)] [] T ?_
      refine c_105 1 ?_
      · omega
    · refine And.intro (fun c13 => ?_) (fun c13 => ?_)
      · refine hK 84 [some (vR 103 p), some (vI k), some (vI s), none] [] T ?_
        refine j_blx (F := fX3) tb_X3 (nn_ _) bk_X3_isFormed_e_84 bs_X3_isFormed_e_84 hz (fun K hK => ?_)
        refine hK 105 [some (vR 103 p), some (vI k), some (vI s), some (vI 0)] [] T ?_
        refine c_105 0 ?_
        · omega
      · refine hK 85 [some (vR 103 p), some (vI k), some (vI s), none] [vI 1] T ?_
        refine j_blx (F := fX3) tb_X3 (nn_ _) bk_X3_isFormed_e_85 bs_X3_isFormed_e_85 hz (fun K hK => ?_)
        refine hK 105 [some (vR 103 p), some (vI k), some (vI s), some (vI 1)] [] T ?_
        refine c_105 1 ?_
        · omega
  refine j_tsO (pc := 6) (tgt := 89) (by decide) ds_X3_isFormed_6 (by omega) (by decide) (by decide) ?_
  refine j_blx (F := fX3) tb_X3 (nn_ _) bk_X3_isFormed_e_89 bs_X3_isFormed_e_89 hz (fun K hK => ?_)
  refine And.intro (fun c14 => ?_) (fun c14 => ?_)
  · refine hK 103 _ [] T ?_
    refine j_blx (F := fX3) tb_X3 (nn_ _) bk_X3_isFormed_e_103 bs_X3_isFormed_e_103 hz (fun K hK => ?_)
    refine hK 105 [some (vR 103 p), some (vI k), some (vI s), some (vI 0)] [] T ?_
    refine c_105 0 ?_
    · omega
  · refine And.intro (fun c15 => ?_) (fun c15 => ?_)
    · refine hK 103 [some (vR 103 p), some (vI k), some (vI s), none] [] T ?_
      refine j_blx (F := fX3) tb_X3 (nn_ _) bk_X3_isFormed_e_103 bs_X3_isFormed_e_103 hz (fun K hK => ?_)
      refine hK 105 [some (vR 103 p), some (vI k), some (vI s), some (vI 0)] [] T ?_
      refine c_105 0 ?_
      · omega
    · refine hK 104 [some (vR 103 p), some (vI k), some (vI s), none] [vI 1] T ?_
      refine j_blx (F := fX3) tb_X3 (nn_ _) bk_X3_isFormed_e_104 bs_X3_isFormed_e_104 hz (fun K hK => ?_)
      refine hK 105 [some (vR 103 p), some (vI k), some (vI s), some (vI 1)] [] T ?_
      refine c_105 1 ?_
      · omega
