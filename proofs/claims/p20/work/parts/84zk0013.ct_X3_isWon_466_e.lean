theorem bk_X3_isLastInning_e_0 : ck_ fX3 (some .boolean) cX3_isLastInning 0 [.aload 0, .tableswitch 0 3 4 #[], .aload 0, .tableswitch 0 3 0 #[], .iconst 11, .iaload, .iconst 1, .fsub, .if_icmp .lt 20, .iconst 1, .goto 21] 20 = true := qck_r (nn_ _) (by decide +kernel)
theorem bs_X3_isLastInning_e_0 {P : Zt → Option Zv → Prop} (K : Int → Zl → List Zv → Zt → Prop) : sx_ K P [.aload 0, .tableswitch 0 3 4 #[], .aload 0, .tableswitch 0 3 0 #[], .iconst 11, .iaload, .iconst 1, .fsub, .if_icmp .lt 20, .iconst 1, .goto 21] 20 = x_aload 0 (x_g0 103 4 (-2147483648) 2147483647 (x_aload 0 (x_g3 103 401 0 (x_iconst 11 (x_iaload (x_iconst 1 (x_fsub (x_if_icmp .lt 20 K (x_iconst 1 (x_goto 21 K)))))))))) := ((xe_aload 0).trans (congrArg (x_aload 0) ((xe_g0 (kk := 103) rfl tl_3_4).trans (congrArg (x_g0 103 4 (-2147483648) 2147483647) ((xe_aload 0).trans (congrArg (x_aload 0) ((xe_g3 (kk := 103) rfl tl_3_0).trans (congrArg (x_g3 103 401 0) ((xe_iconst 11).trans (congrArg (x_iconst 11) ((xe_iaload).trans (congrArg (x_iaload) ((xe_iconst 1).trans (congrArg (x_iconst 1) ((xe_fsub).trans (congrArg (x_fsub) ((xe_if_icmp .lt 20).trans (congrArg (x_if_icmp .lt 20 K) ((xe_iconst 1).trans (congrArg (x_iconst 1) (xe_goto 21)))))))))))))))))))))
theorem bk_X3_isLastInning_e_20 : ck_ fX3 (some .boolean) cX3_isLastInning 20 [.iconst 0, .ireturn] 22 = true := qck_r (nn_ _) (by decide +kernel)
theorem bs_X3_isLastInning_e_20 {P : Zt → Option Zv → Prop} (K : Int → Zl → List Zv → Zt → Prop) : sx_ K P [.iconst 0, .ireturn] 22 = x_iconst 0 (x_ireturn P) := ((xe_iconst 0).trans (congrArg (x_iconst 0) (xe_ireturn)))
theorem bk_X3_isLastInning_e_21 : ck_ fX3 (some .boolean) cX3_isLastInning 21 [.ireturn] 22 = true := qck_r (nn_ _) (by decide +kernel)
theorem bs_X3_isLastInning_e_21 {P : Zt → Option Zv → Prop} (K : Int → Zl → List Zv → Zt → Prop) : sx_ K P [.ireturn] 22 = x_ireturn P := (xe_ireturn)
abbrev po_X3_isLastInning_e (T : Zt) (p : Int) (ru : Int → Int) : Zt → Option Zv → Prop := fun T' r => T = T' ∧ ∃ x : Int, r = some (vI x) ∧ ((x = 1 ∧ (wr_ (ru 11 - 1) ≤ T 103 p 4)) ∨ (x = 0 ∧ ¬ (wr_ (ru 11 - 1) ≤ T 103 p 4)))
set_option maxHeartbeats 4000000 in
theorem ct_X3_isLastInning_e {T : Zt} {p : Int} {ru : Int → Int} (hr : RLP_ T p ru) : Ct_ yX3_isLastInning zX3_isLastInning T [vR 103 p] (po_X3_isLastInning_e T p ru) := by
  refine ct_of pn_3 rfl rfl (Nat.le_of_ble_eq_true rfl) (fun hT hav => ?_)
  have hz : zX3_isLastInning.2.2.2.1 = some .boolean → ∀ (T' : Zt) (x : Int), po_X3_isLastInning_e T p ru T' (some (vI x)) → 0 ≤ x ∧ x ≤ 1 := fun _ T' x h => by obtain ⟨-, y, e, hy⟩ := h; cases e; omega
  have hr11 := hr 11 (by decide) (by decide)
  have hw1 : wr_ (T 401 (T 103 p 0) 11 - 1) = wr_ (ru 11 - 1) := by rw [hr11]
  show J_ zX3_isLastInning T (po_X3_isLastInning_e T p ru) 0 0 0 [some (vR 103 p)] [] T
  refine j_blx (F := fX3) tb_X3 (nn_ _) bk_X3_isLastInning_e_0 bs_X3_isLastInning_e_0 hz (fun K hK => ?_)
  intro b1 b1b
  refine ix_i (by omega) ?_
  intro b3 b3b
  intro w4 w4b
  refine And.intro (fun c5 => ?_) (fun c5 => ?_)
  · refine hK 20 _ [] T ?_
    refine j_blx (F := fX3) tb_X3 (nn_ _) bk_X3_isLastInning_e_20 bs_X3_isLastInning_e_20 hz (fun K hK => ?_)
    refine (show po_X3_isLastInning_e T p ru T (some (vI 0)) from ?_)
    exact ⟨rfl, _, rfl, Or.inr ⟨rfl, by omega⟩⟩
  · refine hK 21 _ [vI 1] T ?_
    refine j_blx (F := fX3) tb_X3 (nn_ _) bk_X3_isLastInning_e_21 bs_X3_isLastInning_e_21 hz (fun K hK => ?_)
    refine (show po_X3_isLastInning_e T p ru T (some (vI 1)) from ?_)
    exact ⟨rfl, _, rfl, Or.inl ⟨rfl, by omega⟩⟩
theorem bk_X3_isWon_466_e_0 : ck_ fX3 (some .boolean) cX3_isWon 0 [.aload 0, .iload 1, .iaload, .iload 2, .if_icmp .lt 24, .aload 0, .iload 1, .iaload, .aload 0, .iconst 1, .iload 1, .isub, .iaload, .fsub, .iconst 2, .if_icmp .lt 24, .iconst 1, .goto 25] 24 = true := qck_r (nn_ _) (by decide +kernel)
theorem bs_X3_isWon_466_e_0 {P : Zt → Option Zv → Prop} (K : Int → Zl → List Zv → Zt → Prop) : sx_ K P [.aload 0, .iload 1, .iaload, .iload 2, .if_icmp .lt 24, .aload 0, .iload 1, .iaload, .aload 0, .iconst 1, .iload 1, .isub, .iaload, .fsub, .iconst 2, .if_icmp .lt 24, .iconst 1, .goto 25] 24 = x_aload 0 (x_iload 1 (x_iaload (x_iload 2 (x_if_icmp .lt 24 K (x_aload 0 (x_iload 1 (x_iaload (x_aload 0 (x_iconst 1 (x_iload 1 (x_isub (x_iaload (x_fsub (x_iconst 2 (x_if_icmp .lt 24 K (x_iconst 1 (x_goto 25 K))))))))))))))))) := ((xe_aload 0).trans (congrArg (x_aload 0) ((xe_iload 1).trans (congrArg (x_iload 1) ((xe_iaload).trans (congrArg (x_iaload) ((xe_iload 2).trans (congrArg (x_iload 2) ((xe_if_icmp .lt 24).trans (congrArg (x_if_icmp .lt 24 K) ((xe_aload 0).trans (congrArg (x_aload 0) ((xe_iload 1).trans (congrArg (x_iload 1) ((xe_iaload).trans (congrArg (x_iaload) ((xe_aload 0).trans (congrArg (x_aload 0) ((xe_iconst 1).trans (congrArg (x_iconst 1) ((xe_iload 1).trans (congrArg (x_iload 1) ((xe_isub).trans (congrArg (x_isub) ((xe_iaload).trans (congrArg (x_iaload) ((xe_fsub).trans (congrArg (x_fsub) ((xe_iconst 2).trans (congrArg (x_iconst 2) ((xe_if_icmp .lt 24).trans (congrArg (x_if_icmp .lt 24 K) ((xe_iconst 1).trans (congrArg (x_iconst 1) (xe_goto 25)))))))))))))))))))))))))))))))))))
theorem bk_X3_isWon_466_e_24 : ck_ fX3 (some .boolean) cX3_isWon 24 [.iconst 0, .ireturn] 26 = true := qck_r (nn_ _) (by decide +kernel)
theorem bs_X3_isWon_466_e_24 {P : Zt → Option Zv → Prop} (K : Int → Zl → List Zv → Zt → Prop) : sx_ K P [.iconst 0, .ireturn] 26 = x_iconst 0 (x_ireturn P) := ((xe_iconst 0).trans (congrArg (x_iconst 0) (xe_ireturn)))
theorem bk_X3_isWon_466_e_25 : ck_ fX3 (some .boolean) cX3_isWon 25 [.ireturn] 26 = true := qck_r (nn_ _) (by decide +kernel)
theorem bs_X3_isWon_466_e_25 {P : Zt → Option Zv → Prop} (K : Int → Zl → List Zv → Zt → Prop) : sx_ K P [.ireturn] 26 = x_ireturn P := (xe_ireturn)
abbrev po_X3_isWon_466_e (T : Zt) (p : Int) (s m : Int) : Zt → Option Zv → Prop := fun T' r => T = T' ∧ ∃ x : Int, r = some (vI x) ∧ ((x = 1 ∧ (m ≤ T 466 p s ∧ 2 ≤ wr_ (T 466 p s - T 466 p (1 - s)))) ∨ (x = 0 ∧ ¬ (m ≤ T 466 p s ∧ 2 ≤ wr_ (T 466 p s - T 466 p (1 - s)))))
set_option maxHeartbeats 4000000 in
theorem ct_X3_isWon_466_e {T : Zt} {p : Int} {s m : Int} (hs : 0 ≤ s ∧ s ≤ 1) : Ct_ yX3_isWon zX3_isWon T [vR 466 p, vI s, vI m] (po_X3_isWon_466_e T p s m) := by
  refine ct_of pn_3 rfl rfl (Nat.le_of_ble_eq_true rfl) (fun hT hav => ?_)
  have hr_s : -2147483648 ≤ s ∧ s ≤ 2147483647 := hav (vI s) (List.mem_cons_of_mem _ List.mem_cons_self)
  have hr_m : -2147483648 ≤ m ∧ m ≤ 2147483647 := hav (vI m) (List.mem_cons_of_mem _ (List.mem_cons_of_mem _ List.mem_cons_self))
  have hz : zX3_isWon.2.2.2.1 = some .boolean → ∀ (T' : Zt) (x : Int), po_X3_isWon_466_e T p s m T' (some (vI x)) → 0 ≤ x ∧ x ≤ 1 := fun _ T' x h => by obtain ⟨-, y, e, hy⟩ := h; cases e; omega
  show J_ zX3_isWon T (po_X3_isWon_466_e T p s m) 0 0 0 [some (vR 466 p), some (vI s), some (vI m)] [] T
  refine j_blx (F := fX3) tb_X3 (nn_ _) bk_X3_isWon_466_e_0 bs_X3_isWon_466_e_0 hz (fun K hK => ?_)
  refine ix_i (by omega) ?_
  intro b1 b1b
  refine And.intro (fun c2 => ?_) (fun c2 => ?_)
  · refine hK 24 _ [] T ?_
    refine j_blx (F := fX3) tb_X3 (nn_ _) bk_X3_isWon_466_e_24 bs_X3_isWon_466_e_24 hz (fun K hK => ?_)
    refine (show po_X3_isWon_466_e T p s m T (some (vI 0)) from ?_)
    exact ⟨rfl, _, rfl, Or.inr ⟨rfl, by omega⟩⟩
  · refine ix_i (by omega) ?_
    intro b3 b3b
    refine rg_i (by omega) ?_
    refine ix_i (by omega) ?_
    intro b4 b4b
    intro w5 w5b
    refine And.intro (fun c6 => ?_) (fun c6 => ?_)
    · refine hK 24 _ [] T ?_
      refine j_blx (F := fX3) tb_X3 (nn_ _) bk_X3_isWon_466_e_24 bs_X3_isWon_466_e_24 hz (fun K hK => ?_)
      refine (show po_X3_isWon_466_e T p s m T (some (vI 0)) from ?_)
      exact ⟨rfl, _, rfl, Or.inr ⟨rfl, by omega⟩⟩
    · refine hK 25 _ [vI 1] T ?_
      refine j_blx (F := fX3) tb_X3 (nn_ _) bk_X3_isWon_466_e_25 bs_X3_isWon_466_e_25 hz (fun K hK => ?_)
      refine (show po_X3_isWon_466_e T p s m T (some (vI 1)) from ?_)
      exact ⟨rfl, _, rfl, Or.inl ⟨rfl, by omega⟩⟩
