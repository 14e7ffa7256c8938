theorem bk_X3_isBounded_e_0 : ck_ fX3 (some .boolean) cX3_isBounded 0 [.aload 0, .tableswitch 0 3 0 #[], .iconst 0, .iaload, .iconst 3, .if_icmp .ne 25, .iload 1, .iconst 1, .if_icmp .ne 25, .iload 2, .iconst 1, .if_icmp .lt 29, .iload 2, .iconst 4, .if_icmp .gt 29, .iconst 1, .goto 30] 29 = true := qck_r (nn_ _) (by decide +kernel)
theorem bs_X3_isBounded_e_0 {P : Zt → Option Zv → Prop} (K : Int → Zl → List Zv → Zt → Prop) : sx_ K P [.aload 0, .tableswitch 0 3 0 #[], .iconst 0, .iaload, .iconst 3, .if_icmp .ne 25, .iload 1, .iconst 1, .if_icmp .ne 25, .iload 2, .iconst 1, .if_icmp .lt 29, .iload 2, .iconst 4, .if_icmp .gt 29, .iconst 1, .goto 30] 29 = x_aload 0 (x_g3 103 401 0 (x_iconst 0 (x_iaload (x_iconst 3 (x_if_icmp .ne 25 K (x_iload 1 (x_iconst 1 (x_if_icmp .ne 25 K (x_iload 2 (x_iconst 1 (x_if_icmp .lt 29 K (x_iload 2 (x_iconst 4 (x_if_icmp .gt 29 K (x_iconst 1 (x_goto 30 K)))))))))))))))) := ((xe_aload 0).trans (congrArg (x_aload 0) ((xe_g3 (kk := 103) rfl tl_3_0).trans (congrArg (x_g3 103 401 0) ((xe_iconst 0).trans (congrArg (x_iconst 0) ((xe_iaload).trans (congrArg (x_iaload) ((xe_iconst 3).trans (congrArg (x_iconst 3) ((xe_if_icmp .ne 25).trans (congrArg (x_if_icmp .ne 25 K) ((xe_iload 1).trans (congrArg (x_iload 1) ((xe_iconst 1).trans (congrArg (x_iconst 1) ((xe_if_icmp .ne 25).trans (congrArg (x_if_icmp .ne 25 K) ((xe_iload 2).trans (congrArg (x_iload 2) ((xe_iconst 1).trans (congrArg (x_iconst 1) ((xe_if_icmp .lt 29).trans (congrArg (x_if_icmp .lt 29 K) ((xe_iload 2).trans (congrArg (x_iload 2) ((xe_iconst 4).trans (congrArg (x_iconst 4) ((xe_if_icmp .gt 29).trans (congrArg (x_if_icmp .gt 29 K) ((xe_iconst 1).trans (congrArg (x_iconst 1) (xe_goto 30)))))))))))))))))))))))))))))))))
theorem bk_X3_isBounded_e_25 : ck_ fX3 (some .boolean) cX3_isBounded 25 [.iconst 1, .goto 30] 29 = true := qck_r (nn_ _) (by decide +kernel)
theorem bs_X3_isBounded_e_25 {P : Zt → Option Zv → Prop} (K : Int → Zl → List Zv → Zt → Prop) : sx_ K P [.iconst 1, .goto 30] 29 = x_iconst 1 (x_goto 30 K) := ((xe_iconst 1).trans (congrArg (x_iconst 1) (xe_goto 30)))
theorem bk_X3_isBounded_e_30 : ck_ fX3 (some .boolean) cX3_isBounded 30 [.ireturn] 31 = true := qck_r (nn_ _) (by decide +kernel)
theorem bs_X3_isBounded_e_30 {P : Zt → Option Zv → Prop} (K : Int → Zl → List Zv → Zt → Prop) : sx_ K P [.ireturn] 31 = x_ireturn P := (xe_ireturn)
theorem bk_X3_isBounded_e_29 : ck_ fX3 (some .boolean) cX3_isBounded 29 [.iconst 0, .ireturn] 31 = true := qck_r (nn_ _) (by decide +kernel)
theorem bs_X3_isBounded_e_29 {P : Zt → Option Zv → Prop} (K : Int → Zl → List Zv → Zt → Prop) : sx_ K P [.iconst 0, .ireturn] 31 = x_iconst 0 (x_ireturn P) := ((xe_iconst 0).trans (congrArg (x_iconst 0) (xe_ireturn)))
abbrev po_X3_isBounded_e (T : Zt) (p : Int) (k o : Int) : Zt → Option Zv → Prop := fun T' r => T = T' ∧ ∃ x : Int, r = some (vI x) ∧ ((x = 1 ∧ (T 401 (T 103 p 0) 0 ≠ 3 ∨ k ≠ 1 ∨ (1 ≤ o ∧ o ≤ 4))) ∨ (x = 0 ∧ ¬ (T 401 (T 103 p 0) 0 ≠ 3 ∨ k ≠ 1 ∨ (1 ≤ o ∧ o ≤ 4))))
set_option maxHeartbeats 4000000 in
theorem ct_X3_isBounded_e {T : Zt} {p : Int} {k o : Int} : Ct_ yX3_isBounded zX3_isBounded T [vR 103 p, vI k, vI o] (po_X3_isBounded_e T p k o) := by
  refine ct_of pn_3 rfl rfl (Nat.le_of_ble_eq_true rfl) (fun hT hav => ?_)
  have hr_k : -2147483648 ≤ k ∧ k ≤ 2147483647 := hav (vI k) (List.mem_cons_of_mem _ List.mem_cons_self)
  have hr_o : -2147483648 ≤ o ∧ o ≤ 2147483647 := hav (vI o) (List.mem_cons_of_mem _ (List.mem_cons_of_mem _ List.mem_cons_self))
  have hz : zX3_isBounded.2.2.2.1 = some .boolean → ∀ (T' : Zt) (x : Int), po_X3_isBounded_e T p k o T' (some (vI x)) → 0 ≤ x ∧ x ≤ 1 := fun _ T' x h => by obtain ⟨-, y, e, hy⟩ := h; cases e; omega
  show J_ zX3_isBounded T (po_X3_isBounded_e T p k o) 0 0 0 [some (vR 103 p), some (vI k), some (vI o)] [] T
  refine j_blx (F := fX3) tb_X3 (nn_ _) bk_X3_isBounded_e_0 bs_X3_isBounded_e_0 hz (fun K hK => ?_)
  refine ix_i (by omega) ?_
  intro b2 b2b
  refine And.intro (fun c3 => ?_) (fun c3 => ?_)
  · refine hK 25 _ [] T ?_
    refine j_blx (F := fX3) tb_X3 (nn_ _) bk_X3_isBounded_e_25 bs_X3_isBounded_e_25 hz (fun K hK => ?_)
    refine hK 30 _ [vI 1] T ?_
    refine j_blx (F := fX3) tb_X3 (nn_ _) bk_X3_isBounded_e_30 bs_X3_isBounded_e_30 hz (fun K hK => ?_)
    refine (show po_X3_isBounded_e T p k o T (some (vI 1)) from ?_)
    exact ⟨rfl, _, rfl, Or.inl ⟨rfl, by omega⟩⟩
  · refine And.intro (fun c4 => ?_) (fun c4 => ?_)
    · refine hK 25 _ [] T ?_
      refine j_blx (F := fX3) tb_X3 (nn_ _) bk_X3_isBounded_e_25 bs_X3_isBounded_e_25 hz (fun K hK => ?_)
      refine hK 30 _ [vI 1] T ?_
      refine j_blx (F := fX3) tb_X3 (nn_ _) bk_X3_isBounded_e_30 bs_X3_isBounded_e_30 hz (fun K hK => ?_)
      refine (show po_X3_isBounded_e T p k o T (some (vI 1)) from ?_)
      exact ⟨rfl, _, rfl, Or.inl ⟨rfl, by omega⟩⟩
    · refine And.intro (fun c5 => ?_) (fun c5 => ?_)
      · refine hK 29 _ [] T ?_
        refine j_blx (F := fX3) tb_X3 (nn_ _) bk_X3_isBounded_e_29 bs_X3_isBounded_e_29 hz (fun K hK => ?_)
        refine (show po_X3_isBounded_e T p k o T (some (vI 0)) from ?_)
        exact ⟨rfl, _, rfl, Or.inr ⟨rfl, by omega⟩⟩
      · refine And.intro (fun c6 => ?_) (fun c6 => ?_)
        · refine hK 29 _ [] T ?_
          refine j_blx (F := fX3) tb_X3 (nn_ _) bk_X3_isBounded_e_29 bs_X3_isBounded_e_29 hz (fun K hK => ?_)
          refine (show po_X3_isBounded_e T p k o T (some (vI 0)) from ?_)
          exact ⟨rfl, _, rfl, Or.inr ⟨rfl, by omega⟩⟩
        · refine hK 30 _ [vI 1] T ?_
          refine j_blx (F := fX3) tb_X3 (nn_ _) bk_X3_isBounded_e_30 bs_X3_isBounded_e_30 hz (fun K hK => ?_)
          refine (show po_X3_isBounded_e T p k o T (some (vI 1)) from ?_)
          exact ⟨rfl, _, rfl, Or.inl ⟨rfl, by omega⟩⟩
