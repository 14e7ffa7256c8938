theorem bk_X3_needsPerson_e_0 : ck_ fX3 (some .boolean) cX3_needsPerson 0 [.iload 1, .iconst 5, .if_icmp .eq 18, .aload 0, .tableswitch 0 3 0 #[], .iconst 0, .iaload, .ifCond .ne 22, .iload 1, .ifCond .eq 22, .iconst 1, .goto 23] 22 = true := qck_r (nn_ _) (by decide +kernel)
theorem bs_X3_needsPerson_e_0 {P : Zt → Option Zv → Prop} (K : Int → Zl → List Zv → Zt → Prop) : sx_ K P [.iload 1, .iconst 5, .if_icmp .eq 18, .aload 0, .tableswitch 0 3 0 #[], .iconst 0, .iaload, .ifCond .ne 22, .iload 1, .ifCond .eq 22, .iconst 1, .goto 23] 22 = x_iload 1 (x_iconst 5 (x_if_icmp .eq 18 K (x_aload 0 (x_g3 103 401 0 (x_iconst 0 (x_iaload (x_ifCond .ne 22 K (x_iload 1 (x_ifCond .eq 22 K (x_iconst 1 (x_goto 23 K))))))))))) := ((xe_iload 1).trans (congrArg (x_iload 1) ((xe_iconst 5).trans (congrArg (x_iconst 5) ((xe_if_icmp .eq 18).trans (congrArg (x_if_icmp .eq 18 K) ((xe_aload 0).trans (congrArg (x_aload 0) ((xe_g3 (kk := 103) rfl tl_3_0).trans (congrArg (x_g3 103 401 0) ((xe_iconst 0).trans (congrArg (x_iconst 0) ((xe_iaload).trans (congrArg (x_iaload) ((xe_ifCond .ne 22).trans (congrArg (x_ifCond .ne 22 K) ((xe_iload 1).trans (congrArg (x_iload 1) ((xe_ifCond .eq 22).trans (congrArg (x_ifCond .eq 22 K) ((xe_iconst 1).trans (congrArg (x_iconst 1) (xe_goto 23)))))))))))))))))))))))
theorem bk_X3_needsPerson_e_18 : ck_ fX3 (some .boolean) cX3_needsPerson 18 [.iconst 1, .goto 23] 22 = true := qck_r (nn_ _) (by decide +kernel)
theorem bs_X3_needsPerson_e_18 {P : Zt → Option Zv → Prop} (K : Int → Zl → List Zv → Zt → Prop) : sx_ K P [.iconst 1, .goto 23] 22 = x_iconst 1 (x_goto 23 K) := ((xe_iconst 1).trans (congrArg (x_iconst 1) (xe_goto 23)))
theorem bk_X3_needsPerson_e_23 : ck_ fX3 (some .boolean) cX3_needsPerson 23 [.ireturn] 24 = true := qck_r (nn_ _) (by decide +kernel)
theorem bs_X3_needsPerson_e_23 {P : Zt → Option Zv → Prop} (K : Int → Zl → List Zv → Zt → Prop) : sx_ K P [.ireturn] 24 = x_ireturn P := (xe_ireturn)
theorem bk_X3_needsPerson_e_22 : ck_ fX3 (some .boolean) cX3_needsPerson 22 [.iconst 0, .ireturn] 24 = true := qck_r (nn_ _) (by decide +kernel)
theorem bs_X3_needsPerson_e_22 {P : Zt → Option Zv → Prop} (K : Int → Zl → List Zv → Zt → Prop) : sx_ K P [.iconst 0, .ireturn] 24 = x_iconst 0 (x_ireturn P) := ((xe_iconst 0).trans (congrArg (x_iconst 0) (xe_ireturn)))
abbrev po_X3_needsPerson_e (T : Zt) (p : Int) (k : Int) : Zt → Option Zv → Prop := fun T' r => T = T' ∧ ∃ x : Int, r = some (vI x) ∧ ((x = 1 ∧ (k = 5 ∨ (T 401 (T 103 p 0) 0 = 0 ∧ k ≠ 0))) ∨ (x = 0 ∧ ¬ (k = 5 ∨ (T 401 (T 103 p 0) 0 = 0 ∧ k ≠ 0))))
set_option maxHeartbeats 4000000 in
theorem ct_X3_needsPerson_e {T : Zt} {p : Int} {k : Int} : Ct_ yX3_needsPerson zX3_needsPerson T [vR 103 p, vI k] (po_X3_needsPerson_e T p k) := by
  refine ct_of pn_3 rfl rfl (Nat.le_of_ble_eq_true rfl) (fun hT hav => ?_)
  have hr_k : -2147483648 ≤ k ∧ k ≤ 2147483647 := hav (vI k) (List.mem_cons_of_mem _ List.mem_cons_self)
  have hz : zX3_needsPerson.2.2.2.1 = some .boolean → ∀ (T' : Zt) (x : Int), po_X3_needsPerson_e T p k T' (some (vI x)) → 0 ≤ x ∧ x ≤ 1 := fun _ T' x h => by obtain ⟨-, y, e, hy⟩ := h; cases e; omega
  show J_ zX3_needsPerson T (po_X3_needsPerson_e T p k) 0 0 0 [some (vR 103 p), some (vI k)] [] T
  refine j_blx (F := fX3) tb_X3 (nn_ _) bk_X3_needsPerson_e_0 bs_X3_needsPerson_e_0 hz (fun K hK => ?_)
  refine And.intro (fun c1 => ?_) (fun c1 => ?_)
  · refine hK 18 _ [] T ?_
    refine j_blx (F := fX3) tb_X3 (nn_ _) bk_X3_needsPerson_e_18 bs_X3_needsPerson_e_18 hz (fun K hK => ?_)
    refine hK 23 _ [vI 1] T ?_
    refine j_blx (F := fX3) tb_X3 (nn_ _) bk_X3_needsPerson_e_23 bs_X3_needsPerson_e_23 hz (fun K hK => ?_)
    refine (show po_X3_needsPerson_e T p k T (some (vI 1)) from ?_)
    exact ⟨rfl, _, rfl, Or.inl ⟨rfl, by omega⟩⟩
  · refine ix_i (by omega) ?_
    intro b3 b3b
    refine And.intro (fun c4 => ?_) (fun c4 => ?_)
    · refine hK 22 _ [] T ?_
      refine j_blx (F := fX3) tb_X3 (nn_ _) bk_X3_needsPerson_e_22 bs_X3_needsPerson_e_22 hz (fun K hK => ?_)
      refine (show po_X3_needsPerson_e T p k T (some (vI 0)) from ?_)
      exact ⟨rfl, _, rfl, Or.inr ⟨rfl, by omega⟩⟩
    · refine And.intro (fun c5 => ?_) (fun c5 => ?_)
      · refine hK 22 _ [] T ?_
        refine j_blx (F := fX3) tb_X3 (nn_ _) bk_X3_needsPerson_e_22 bs_X3_needsPerson_e_22 hz (fun K hK => ?_)
        refine (show po_X3_needsPerson_e T p k T (some (vI 0)) from ?_)
        exact ⟨rfl, _, rfl, Or.inr ⟨rfl, by omega⟩⟩
      · refine hK 23 _ [vI 1] T ?_
        refine j_blx (F := fX3) tb_X3 (nn_ _) bk_X3_needsPerson_e_23 bs_X3_needsPerson_e_23 hz (fun K hK => ?_)
        refine (show po_X3_needsPerson_e T p k T (some (vI 1)) from ?_)
        exact ⟨rfl, _, rfl, Or.inl ⟨rfl, by omega⟩⟩
