theorem bk_X3_isAllowed_e_0 : ck_ fX3 (some .boolean) cX3_isAllowed 0 [.aload 0, .tableswitch 0 3 0 #[], .iconst 0, .iaload, .ifCond .ne 33, .aload 0, .tableswitch 0 3 4 #[], .iconst 1, .if_icmp .ne 27, .iload 1, .iconst 1, .if_icmp .eq 31, .iload 1, .iconst 2, .if_icmp .eq 31, .iconst 1, .goto 32] 31 = true := qck_r (nn_ _) (by decide +kernel)
theorem bs_X3_isAllowed_e_0 {P : Zt → Option Zv → Prop} (K : Int → Zl → List Zv → Zt → Prop) : sx_ K P [.aload 0, .tableswitch 0 3 0 #[], .iconst 0, .iaload, .ifCond .ne 33, .aload 0, .tableswitch 0 3 4 #[], .iconst 1, .if_icmp .ne 27, .iload 1, .iconst 1, .if_icmp .eq 31, .iload 1, .iconst 2, .if_icmp .eq 31, .iconst 1, .goto 32] 31 = x_aload 0 (x_g3 103 401 0 (x_iconst 0 (x_iaload (x_ifCond .ne 33 K (x_aload 0 (x_g0 103 4 (-2147483648) 2147483647 (x_iconst 1 (x_if_icmp .ne 27 K (x_iload 1 (x_iconst 1 (x_if_icmp .eq 31 K (x_iload 1 (x_iconst 2 (x_if_icmp .eq 31 K (x_iconst 1 (x_goto 32 K)))))))))))))))) := ((xe_aload 0).trans (congrArg (x_aload 0) ((xe_g3 (kk := 103) rfl tl_3_0).trans (congrArg (x_g3 103 401 0) ((xe_iconst 0).trans (congrArg (x_iconst 0) ((xe_iaload).trans (congrArg (x_iaload) ((xe_ifCond .ne 33).trans (congrArg (x_ifCond .ne 33 K) ((xe_aload 0).trans (congrArg (x_aload 0) ((xe_g0 (kk := 103) rfl tl_3_4).trans (congrArg (x_g0 103 4 (-2147483648) 2147483647) ((xe_iconst 1).trans (congrArg (x_iconst 1) ((xe_if_icmp .ne 27).trans (congrArg (x_if_icmp .ne 27 K) ((xe_iload 1).trans (congrArg (x_iload 1) ((xe_iconst 1).trans (congrArg (x_iconst 1) ((xe_if_icmp .eq 31).trans (congrArg (x_if_icmp .eq 31 K) ((xe_iload 1).trans (congrArg (x_iload 1) ((xe_iconst 2).trans (congrArg (x_iconst 2) ((xe_if_icmp .eq 31).trans (congrArg (x_if_icmp .eq 31 K) ((xe_iconst 1).trans (congrArg (x_iconst 1) (xe_goto 32)))))))))))))))))))))))))))))))))
theorem bk_X3_isAllowed_e_33 : ck_ fX3 (some .boolean) cX3_isAllowed 33 [.aload 0, .tableswitch 0 3 0 #[], .iconst 0, .iaload, .iconst 3, .if_icmp .ne 51, .iload 2, .aload 0, .tableswitch 0 3 5 #[], .if_icmp .ne 55, .iconst 1, .goto 56] 55 = true := qck_r (nn_ _) (by decide +kernel)
theorem bs_X3_isAllowed_e_33 {P : Zt → Option Zv → Prop} (K : Int → Zl → List Zv → Zt → Prop) : sx_ K P [.aload 0, .tableswitch 0 3 0 #[], .iconst 0, .iaload, .iconst 3, .if_icmp .ne 51, .iload 2, .aload 0, .tableswitch 0 3 5 #[], .if_icmp .ne 55, .iconst 1, .goto 56] 55 = x_aload 0 (x_g3 103 401 0 (x_iconst 0 (x_iaload (x_iconst 3 (x_if_icmp .ne 51 K (x_iload 2 (x_aload 0 (x_g0 103 5 0 1 (x_if_icmp .ne 55 K (x_iconst 1 (x_goto 56 K))))))))))) := ((xe_aload 0).trans (congrArg (x_aload 0) ((xe_g3 (kk := 103) rfl tl_3_0).trans (congrArg (x_g3 103 401 0) ((xe_iconst 0).trans (congrArg (x_iconst 0) ((xe_iaload).trans (congrArg (x_iaload) ((xe_iconst 3).trans (congrArg (x_iconst 3) ((xe_if_icmp .ne 51).trans (congrArg (x_if_icmp .ne 51 K) ((xe_iload 2).trans (congrArg (x_iload 2) ((xe_aload 0).trans (congrArg (x_aload 0) ((xe_g0 (kk := 103) rfl tl_3_5).trans (congrArg (x_g0 103 5 0 1) ((xe_if_icmp .ne 55).trans (congrArg (x_if_icmp .ne 55 K) ((xe_iconst 1).trans (congrArg (x_iconst 1) (xe_goto 56)))))))))))))))))))))))
theorem bk_X3_isAllowed_e_51 : ck_ fX3 (some .boolean) cX3_isAllowed 51 [.iconst 1, .goto 56] 55 = true := qck_r (nn_ _) (by decide +kernel)
theorem bs_X3_isAllowed_e_51 {P : Zt → Option Zv → Prop} (K : Int → Zl → List Zv → Zt → Prop) : sx_ K P [.iconst 1, .goto 56] 55 = x_iconst 1 (x_goto 56 K) := ((xe_iconst 1).trans (congrArg (x_iconst 1) (xe_goto 56)))
theorem bk_X3_isAllowed_e_56 : ck_ fX3 (some .boolean) cX3_isAllowed 56 [.ireturn] 57 = true := qck_r (nn_ _) (by decide +kernel)
theorem bs_X3_isAllowed_e_56 {P : Zt → Option Zv → Prop} (K : Int → Zl → List Zv → Zt → Prop) : sx_ K P [.ireturn] 57 = x_ireturn P := (xe_ireturn)
theorem bk_X3_isAllowed_e_55 : ck_ fX3 (some .boolean) cX3_isAllowed 55 [.iconst 0, .ireturn] 57 = true := qck_r (nn_ _) (by decide +kernel)
theorem bs_X3_isAllowed_e_55 {P : Zt → Option Zv → Prop} (K : Int → Zl → List Zv → Zt → Prop) : sx_ K P [.iconst 0, .ireturn] 57 = x_iconst 0 (x_ireturn P) := ((xe_iconst 0).trans (congrArg (x_iconst 0) (xe_ireturn)))
theorem bk_X3_isAllowed_e_27 : ck_ fX3 (some .boolean) cX3_isAllowed 27 [.iconst 1, .goto 32] 31 = true := qck_r (nn_ _) (by decide +kernel)
theorem bs_X3_isAllowed_e_27 {P : Zt → Option Zv → Prop} (K : Int → Zl → List Zv → Zt → Prop) : sx_ K P [.iconst 1, .goto 32] 31 = x_iconst 1 (x_goto 32 K) := ((xe_iconst 1).trans (congrArg (x_iconst 1) (xe_goto 32)))
theorem bk_X3_isAllowed_e_32 : ck_ fX3 (some .boolean) cX3_isAllowed 32 [.ireturn] 33 = true := qck_r (nn_ _) (by decide +kernel)
theorem bs_X3_isAllowed_e_32 {P : Zt → Option Zv → Prop} (K : Int → Zl → List Zv → Zt → Prop) : sx_ K P [.ireturn] 33 = x_ireturn P := (xe_ireturn)
theorem bk_X3_isAllowed_e_31 : ck_ fX3 (some .boolean) cX3_isAllowed 31 [.iconst 0, .ireturn] 33 = true := qck_r (nn_ _) (by decide +kernel)
theorem bs_X3_isAllowed_e_31 {P : Zt → Option Zv → Prop} (K : Int → Zl → List Zv → Zt → Prop) : sx_ K P [.iconst 0, .ireturn] 33 = x_iconst 0 (x_ireturn P) := ((xe_iconst 0).trans (congrArg (x_iconst 0) (xe_ireturn)))
abbrev po_X3_isAllowed_e (T : Zt) (p : Int) (k s : Int) : Zt → Option Zv → Prop := fun T' r => T = T' ∧ ∃ x : Int, r = some (vI x) ∧ ((x = 1 ∧ ((T 401 (T 103 p 0) 0 = 0 ∧ (T 103 p 4 ≠ 1 ∨ (k ≠ 1 ∧ k ≠ 2))) ∨ (T 401 (T 103 p 0) 0 ≠ 0 ∧ (T 401 (T 103 p 0) 0 ≠ 3 ∨ s = T 103 p 5)))) ∨ (x = 0 ∧ ¬ ((T 401 (T 103 p 0) 0 = 0 ∧ (T 103 p 4 ≠ 1 ∨ (k ≠ 1 ∧ k ≠ 2))) ∨ (T 401 (T 103 p 0) 0 ≠ 0 ∧ (T 401 (T 103 p 0) 0 ≠ 3 ∨ s = T 103 p 5)))))
set_option maxHeartbeats 4000000 in
theorem ct_X3_isAllowed_e {T : Zt} {p : Int} {k s : Int} : Ct_ yX3_isAllowed zX3_isAllowed T [vR 103 p, vI k, vI s] (po_X3_isAllowed_e T p k s) := by
  refine ct_of pn_3 rfl rfl (Nat.le_of_ble_eq_true rfl) (fun hT hav => ?_)
  have hr_k : -2147483648 ≤ k ∧ k ≤ 2147483647 := hav (vI k) (List.mem_cons_of_mem _ List.mem_cons_self)
  have hr_s : -2147483648 ≤ s ∧ s ≤ 2147483647 := hav (vI s) (List.mem_cons_of_mem _ (List.mem_cons_of_mem _ List.mem_cons_self))
  have hz : zX3_isAllowed.2.2.2.1 = some .boolean → ∀ (T' : Zt) (x : Int), po_X3_isAllowed_e T p k s T' (some (vI x)) → 0 ≤ x ∧ x ≤ 1 := fun _ T' x h => by obtain ⟨-, y, e, hy⟩ := h; cases e; omega
  show J_ zX3_isAllowed T (po_X3_isAllowed_e T p k s) 0 0 0 [some (vR 103 p), some (vI k), some (vI s)] [] T
  refine j_blx (F := fX3) tb_X3 (nn_ _) bk_X3_isAllowed_e_0 bs_X3_isAllowed_e_0 hz (fun K hK => ?_)
  refine ix_i (by omega) ?_
  intro b2 b2b
  refine And.intro (fun c3 => ?_) (fun c3 => ?_)
  · refine hK 33 _ [] T ?_
    refine j_blx (F := fX3) tb_X3 (nn_ _) bk_X3_isAllowed_e_33 bs_X3_isAllowed_e_33 hz (fun K hK => ?_)
    refine ix_i (by omega) ?_
    intro b5 b5b
    refine And.intro (fun c6 => ?_) (fun c6 => ?_)
    · refine hK 51 _ [] T ?_
      refine j_blx (F := fX3) tb_X3 (nn_ _) bk_X3_isAllowed_e_51 bs_X3_isAllowed_e_51 hz (fun K hK => ?_)
      refine hK 56 _ [vI 1] T ?_
      refine j_blx (F := fX3) tb_X3 (nn_ _) bk_X3_isAllowed_e_56 bs_X3_isAllowed_e_56 hz (fun K hK => ?_)
      refine (show po_X3_isAllowed_e T p k s T (some (vI 1)) from ?_)
      exact ⟨rfl, _, rfl, Or.inl ⟨rfl, by omega⟩⟩
    · intro b7 b7b
      refine And.intro (fun c8 => ?_) (fun c8 => ?_)
      · refine hK 55 _ [] T ?_
        refine j_blx (F := fX3) tb_X3 (nn_ _) bk_X3_isAllowed_e_55 bs_X3_isAllowed_e_55 hz (fun K hK => ?_)
        refine (show po_X3_isAllowed_e T p k s T (some (vI 0)) from ?_)
        exact ⟨rfl, _, rfl, Or.inr ⟨rfl, by omega⟩⟩
      · refine hK 56 _ [vI 1] T ?_
        refine j_blx (F := fX3) tb_X3 (nn_ _) bk_X3_isAllowed_e_56 bs_X3_isAllowed_e_56 hz (fun K hK => ?_)
        refine (show po_X3_isAllowed_e T p k s T (some (vI 1)) from ?_)
        exact ⟨rfl, _, rfl, Or.inl ⟨rfl, by omega⟩⟩
  · intro b9 b9b
    refine And.intro (fun c10 => ?_) (fun c10 => ?_)
    · refine hK 27 _ [] T ?_
      refine j_blx (F := fX3) tb_X3 (nn_ _) bk_X3_isAllowed_e_27 bs_X3_isAllowed_e_27 hz (fun K hK => ?_)
      refine hK 32 _ [vI 1] T ?_
      refine j_blx (F := fX3) tb_X3 (nn_ _) bk_X3_isAllowed_e_32 bs_X3_isAllowed_e_32 hz (fun K hK => ?_)
      refine (show po_X3_isAllowed_e T p k s T (some (vI 1)) from ?_)
      exact ⟨rfl, _, rfl, Or.inl ⟨rfl, by omega⟩⟩
    · refine And.intro (fun c11 => ?_) (fun c11 => ?_)
      · refine hK 31 _ [] T ?_
        refine j_blx (F := fX3) tb_X3 (nn_ _) bk_X3_isAllowed_e_31 bs_X3_isAllowed_e_31 hz (fun K hK => ?_)
        refine (show po_X3_isAllowed_e T p k s T (some (vI 0)) from ?_)
        exact ⟨rfl, _, rfl, Or.inr ⟨rfl, by omega⟩⟩
      · refine And.intro (fun c12 => ?_) (fun c12 => ?_)
        · refine hK 31 _ [] T ?_
          refine j_blx (F := fX3) tb_X3 (nn_ _) bk_X3_isAllowed_e_31 bs_X3_isAllowed_e_31 hz (fun K hK => ?_)
          refine (show po_X3_isAllowed_e T p k s T (some (vI 0)) from ?_)
          exact ⟨rfl, _, rfl, Or.inr ⟨rfl, by omega⟩⟩
        · refine hK 32 _ [vI 1] T ?_
          refine j_blx (F := fX3) tb_X3 (nn_ _) bk_X3_isAllowed_e_32 bs_X3_isAllowed_e_32 hz (fun K hK => ?_)
          refine (show po_X3_isAllowed_e T p k s T (some (vI 1)) from ?_)
          exact ⟨rfl, _, rfl, Or.inl ⟨rfl, by omega⟩⟩
