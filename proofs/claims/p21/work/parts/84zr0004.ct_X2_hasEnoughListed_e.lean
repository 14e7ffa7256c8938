theorem bk_X2_hasEnoughListed_e_0 : ck_ fX2 (some .boolean) cX2_hasEnoughListed 0 [.aload 0, .tableswitch 0 2 9 #[], .iconst 0, .iaload, .aload 0, .tableswitch 0 2 0 #[], .tableswitch 0 0 1 #[], .iconst 9, .iaload, .if_icmp .lt 42, .aload 0, .tableswitch 0 2 9 #[], .iconst 1, .iaload, .aload 0, .tableswitch 0 2 0 #[], .tableswitch 0 0 1 #[], .iconst 9, .iaload, .if_icmp .lt 42, .iconst 1, .goto 43] 42 = true := qck_r (nn_ _) (by decide +kernel)
theorem bs_X2_hasEnoughListed_e_0 {P : Zt → Option Zv → Prop} (K : Int → Zl → List Zv → Zt → Prop) : sx_ K P [.aload 0, .tableswitch 0 2 9 #[], .iconst 0, .iaload, .aload 0, .tableswitch 0 2 0 #[], .tableswitch 0 0 1 #[], .iconst 9, .iaload, .if_icmp .lt 42, .aload 0, .tableswitch 0 2 9 #[], .iconst 1, .iaload, .aload 0, .tableswitch 0 2 0 #[], .tableswitch 0 0 1 #[], .iconst 9, .iaload, .if_icmp .lt 42, .iconst 1, .goto 43] 42 = x_aload 0 (x_g2 102 449 (x_iconst 0 (x_iaload (x_aload 0 (x_g3 102 100 0 (x_g2 100 401 (x_iconst 9 (x_iaload (x_if_icmp .lt 42 K (x_aload 0 (x_g2 102 449 (x_iconst 1 (x_iaload (x_aload 0 (x_g3 102 100 0 (x_g2 100 401 (x_iconst 9 (x_iaload (x_if_icmp .lt 42 K (x_iconst 1 (x_goto 43 K))))))))))))))))))))) := ((xe_aload 0).trans (congrArg (x_aload 0) ((xe_g2 (kk := 102) rfl tl_2_9).trans (congrArg (x_g2 102 449) ((xe_iconst 0).trans (congrArg (x_iconst 0) ((xe_iaload).trans (congrArg (x_iaload) ((xe_aload 0).trans (congrArg (x_aload 0) ((xe_g3 (kk := 102) rfl tl_2_0).trans (congrArg (x_g3 102 100 0) ((xe_g2 (kk := 100) rfl tl_0_1).trans (congrArg (x_g2 100 401) ((xe_iconst 9).trans (congrArg (x_iconst 9) ((xe_iaload).trans (congrArg (x_iaload) ((xe_if_icmp .lt 42).trans (congrArg (x_if_icmp .lt 42 K) ((xe_aload 0).trans (congrArg (x_aload 0) ((xe_g2 (kk := 102) rfl tl_2_9).trans (congrArg (x_g2 102 449) ((xe_iconst 1).trans (congrArg (x_iconst 1) ((xe_iaload).trans (congrArg (x_iaload) ((xe_aload 0).trans (congrArg (x_aload 0) ((xe_g3 (kk := 102) rfl tl_2_0).trans (congrArg (x_g3 102 100 0) ((xe_g2 (kk := 100) rfl tl_0_1).trans (congrArg (x_g2 100 401) ((xe_iconst 9).trans (congrArg (x_iconst 9) ((xe_iaload).trans (congrArg (x_iaload) ((xe_if_icmp .lt 42).trans (congrArg (x_if_icmp .lt 42 K) ((xe_iconst 1).trans (congrArg (x_iconst 1) (xe_goto 43)))))))))))))))))))))))))))))))))))))))))))
theorem bk_X2_hasEnoughListed_e_42 : ck_ fX2 (some .boolean) cX2_hasEnoughListed 42 [.iconst 0, .ireturn] 44 = true := qck_r (nn_ _) (by decide +kernel)
theorem bs_X2_hasEnoughListed_e_42 {P : Zt → Option Zv → Prop} (K : Int → Zl → List Zv → Zt → Prop) : sx_ K P [.iconst 0, .ireturn] 44 = x_iconst 0 (x_ireturn P) := ((xe_iconst 0).trans (congrArg (x_iconst 0) (xe_ireturn)))
theorem bk_X2_hasEnoughListed_e_43 : ck_ fX2 (some .boolean) cX2_hasEnoughListed 43 [.ireturn] 44 = true := qck_r (nn_ _) (by decide +kernel)
theorem bs_X2_hasEnoughListed_e_43 {P : Zt → Option Zv → Prop} (K : Int → Zl → List Zv → Zt → Prop) : sx_ K P [.ireturn] 44 = x_ireturn P := (xe_ireturn)
abbrev po_X2_hasEnoughListed_e (T : Zt) (p : Int) : Zt → Option Zv → Prop := fun T' r => T = T' ∧ ∃ x : Int, r = some (vI x) ∧ ((x = 1 ∧ (T 401 (T 102 p 0) 9 ≤ T 449 p 0 ∧ T 401 (T 102 p 0) 9 ≤ T 449 p 1)) ∨ (x = 0 ∧ ¬ (T 401 (T 102 p 0) 9 ≤ T 449 p 0 ∧ T 401 (T 102 p 0) 9 ≤ T 449 p 1)))
set_option maxHeartbeats 4000000 in
theorem ct_X2_hasEnoughListed_e {T : Zt} {p : Int} : Ct_ yX2_hasEnoughListed zX2_hasEnoughListed T [vR 102 p] (po_X2_hasEnoughListed_e T p) := by
  refine ct_of pn_2 rfl rfl (Nat.le_of_ble_eq_true rfl) (fun hT hav => ?_)
  have hz : zX2_hasEnoughListed.2.2.2.1 = some .boolean → ∀ (T' : Zt) (x : Int), po_X2_hasEnoughListed_e T p T' (some (vI x)) → 0 ≤ x ∧ x ≤ 1 := fun _ T' x h => by obtain ⟨-, y, e, hy⟩ := h; cases e; omega
  show J_ zX2_hasEnoughListed T (po_X2_hasEnoughListed_e T p) 0 0 0 [some (vR 102 p)] [] T
  refine j_blx (F := fX2) tb_X2 (nn_ _) bk_X2_hasEnoughListed_e_0 bs_X2_hasEnoughListed_e_0 hz (fun K hK => ?_)
  refine ix_i (by omega) ?_
  intro b1 b1b
  refine ix_i (by omega) ?_
  intro b3 b3b
  refine And.intro (fun c4 => ?_) (fun c4 => ?_)
  · refine hK 42 _ [] T ?_
    refine j_blx (F := fX2) tb_X2 (nn_ _) bk_X2_hasEnoughListed_e_42 bs_X2_hasEnoughListed_e_42 hz (fun K hK => ?_)
    refine (show po_X2_hasEnoughListed_e T p T (some (vI 0)) from ?_)
    exact ⟨rfl, _, rfl, Or.inr ⟨rfl, by omega⟩⟩
  · refine ix_i (by omega) ?_
    intro b5 b5b
    refine ix_i (by omega) ?_
    intro b7 b7b
    refine And.intro (fun c8 => ?_) (fun c8 => ?_)
    · refine hK 42 _ [] T ?_
      refine j_blx (F := fX2) tb_X2 (nn_ _) bk_X2_hasEnoughListed_e_42 bs_X2_hasEnoughListed_e_42 hz (fun K hK => ?_)
      refine (show po_X2_hasEnoughListed_e T p T (some (vI 0)) from ?_)
      exact ⟨rfl, _, rfl, Or.inr ⟨rfl, by omega⟩⟩
    · refine hK 43 _ [vI 1] T ?_
      refine j_blx (F := fX2) tb_X2 (nn_ _) bk_X2_hasEnoughListed_e_43 bs_X2_hasEnoughListed_e_43 hz (fun K hK => ?_)
      refine (show po_X2_hasEnoughListed_e T p T (some (vI 1)) from ?_)
      exact ⟨rfl, _, rfl, Or.inl ⟨rfl, by omega⟩⟩
