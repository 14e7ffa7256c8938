theorem els_n {T : Zt} {p m : Int} (h : ∀ j, 0 ≤ j → j < T 111 0 29 → ¬ (j ≠ m ∧ T 234 0 j = T 234 0 m ∧ T 235 0 j ≠ 3 ∧ slc_ T j p ≠ -1)) : ¬ elsR_ T p m := fun ⟨k, a1, a2, a3, a4, a5, a6⟩ => h k a1 a2 ⟨a3, a4, a5, a6⟩
theorem bk_X11_isElsewhere_f_84 : ck_ fX11 (some .boolean) cX11_isElsewhere 84 [.istore 3, .iinc 4 1, .goto 5] 91 = true := qck_r (nn_ _) (by decide +kernel)
theorem bs_X11_isElsewhere_f_84 {P : Zt → Option Zv → Prop} (K : Int → Zl → List Zv → Zt → Prop) : sx_ K P [.istore 3, .iinc 4 1, .goto 5] 91 = x_istore 3 (x_iinc 4 1 (x_goto 5 K)) := ((xe_istore 3).trans (congrArg (x_istore 3) ((xe_iinc 4 1).trans (congrArg (x_iinc 4 1) (xe_goto 5)))))
theorem bk_X11_isElsewhere_f_5 : ck_ fX11 (some .boolean) cX11_isElsewhere 5 [.iload 4, .aload 0, .tableswitch 0 11 29 #[], .if_icmp .ge 91, .iload 3, .ifCond .ne 91, .iload 4, .iload 2, .if_icmp .eq 83, .aload 0, .tableswitch 0 11 34 #[], .iload 4, .iaload, .aload 0, .tableswitch 0 11 34 #[], .iload 2, .iaload, .if_icmp .ne 83, .aload 0, .tableswitch 0 11 35 #[], .iload 4, .iaload, .iconst 3, .if_icmp .eq 83, .aload 0, .iconst 2, .iload 4, .imul, .iload 1] 57 = true := qck_r (nn_ _) (by decide +kernel)
theorem bs_X11_isElsewhere_f_5 {P : Zt → Option Zv → Prop} (K : Int → Zl → List Zv → Zt → Prop) : sx_ K P [.iload 4, .aload 0, .tableswitch 0 11 29 #[], .if_icmp .ge 91, .iload 3, .ifCond .ne 91, .iload 4, .iload 2, .if_icmp .eq 83, .aload 0, .tableswitch 0 11 34 #[], .iload 4, .iaload, .aload 0, .tableswitch 0 11 34 #[], .iload 2, .iaload, .if_icmp .ne 83, .aload 0, .tableswitch 0 11 35 #[], .iload 4, .iaload, .iconst 3, .if_icmp .eq 83, .aload 0, .iconst 2, .iload 4, .imul, .iload 1] 57 = x_iload 4 (x_aload 0 (x_g0 111 29 0 400 (x_if_icmp .ge 91 K (x_iload 3 (x_ifCond .ne 91 K (x_iload 4 (x_iload 2 (x_if_icmp .eq 83 K (x_aload 0 (x_g1 111 234 (x_iload 4 (x_iaload (x_aload 0 (x_g1 111 234 (x_iload 2 (x_iaload (x_if_icmp .ne 83 K (x_aload 0 (x_g1 111 235 (x_iload 4 (x_iaload (x_iconst 3 (x_if_icmp .eq 83 K (x_aload 0 (x_iconst 2 (x_iload 4 (x_imul (x_iload 1 (K 57))))))))))))))))))))))))))))) := ((xe_iload 4).trans (congrArg (x_iload 4) ((xe_aload 0).trans (congrArg (x_aload 0) ((xe_g0 (kk := 111) rfl tl_11_29).trans (congrArg (x_g0 111 29 0 400) ((xe_if_icmp .ge 91).trans (congrArg (x_if_icmp .ge 91 K) ((xe_iload 3).trans (congrArg (x_iload 3) ((xe_ifCond .ne 91).trans (congrArg (x_ifCond .ne 91 K) ((xe_iload 4).trans (congrArg (x_iload 4) ((xe_iload 2).trans (congrArg (x_iload 2) ((xe_if_icmp .eq 83).trans (congrArg (x_if_icmp .eq 83 K) ((xe_aload 0).trans (congrArg (x_aload 0) ((xe_g1 (kk := 111) rfl tl_11_34).trans (congrArg (x_g1 111 234) ((xe_iload 4).trans (congrArg (x_iload 4) ((xe_iaload).trans (congrArg (x_iaload) ((xe_aload 0).trans (congrArg (x_aload 0) ((xe_g1 (kk := 111) rfl tl_11_34).trans (congrArg (x_g1 111 234) ((xe_iload 2).trans (congrArg (x_iload 2) ((xe_iaload).trans (congrArg (x_iaload) ((xe_if_icmp .ne 83).trans (congrArg (x_if_icmp .ne 83 K) ((xe_aload 0).trans (congrArg (x_aload 0) ((xe_g1 (kk := 111) rfl tl_11_35).trans (congrArg (x_g1 111 235) ((xe_iload 4).trans (congrArg (x_iload 4) ((xe_iaload).trans (congrArg (x_iaload) ((xe_iconst 3).trans (congrArg (x_iconst 3) ((xe_if_icmp .eq 83).trans (congrArg (x_if_icmp .eq 83 K) ((xe_aload 0).trans (congrArg (x_aload 0) ((xe_iconst 2).trans (congrArg (x_iconst 2) ((xe_iload 4).trans (congrArg (x_iload 4) ((xe_imul).trans (congrArg (x_imul) ((xe_iload 1).trans (congrArg (x_iload 1) xe_nil))))))))))))))))))))))))))))))))))))))))))))))))))))))))))
theorem bk_X11_isElsewhere_f_91 : ck_ fX11 (some .boolean) cX11_isElsewhere 91 [.iload 3, .ireturn] 93 = true := qck_r (nn_ _) (by decide +kernel)
theorem bs_X11_isElsewhere_f_91 {P : Zt → Option Zv → Prop} (K : Int → Zl → List Zv → Zt → Prop) : sx_ K P [.iload 3, .ireturn] 93 = x_iload 3 (x_ireturn P) := ((xe_iload 3).trans (congrArg (x_iload 3) (xe_ireturn)))
theorem bk_X11_isElsewhere_f_83 : ck_ fX11 (some .boolean) cX11_isElsewhere 83 [.iconst 0] 84 = true := qck_r (nn_ _) (by decide +kernel)
theorem bs_X11_isElsewhere_f_83 {P : Zt → Option Zv → Prop} (K : Int → Zl → List Zv → Zt → Prop) : sx_ K P [.iconst 0] 84 = x_iconst 0 (K 84) := ((xe_iconst 0).trans (congrArg (x_iconst 0) xe_nil))
theorem bk_X11_isElsewhere_f_60 : ck_ fX11 (some .boolean) cX11_isElsewhere 60 [.iconst (-1), .if_icmp .ne 79, .aload 0, .iconst 2, .iload 4, .imul, .iconst 1, .iadd, .iload 1] 72 = true := qck_r (nn_ _) (by decide +kernel)
theorem bs_X11_isElsewhere_f_60 {P : Zt → Option Zv → Prop} (K : Int → Zl → List Zv → Zt → Prop) : sx_ K P [.iconst (-1), .if_icmp .ne 79, .aload 0, .iconst 2, .iload 4, .imul, .iconst 1, .iadd, .iload 1] 72 = x_iconst (-1) (x_if_icmp .ne 79 K (x_aload 0 (x_iconst 2 (x_iload 4 (x_imul (x_iconst 1 (x_iadd (x_iload 1 (K 72))))))))) := ((xe_iconst (-1)).trans (congrArg (x_iconst (-1)) ((xe_if_icmp .ne 79).trans (congrArg (x_if_icmp .ne 79 K) ((xe_aload 0).trans (congrArg (x_aload 0) ((xe_iconst 2).trans (congrArg (x_iconst 2) ((xe_iload 4).trans (congrArg (x_iload 4) ((xe_imul).trans (congrArg (x_imul) ((xe_iconst 1).trans (congrArg (x_iconst 1) ((xe_iadd).trans (congrArg (x_iadd) ((xe_iload 1).trans (congrArg (x_iload 1) xe_nil))))))))))))))))))
theorem bk_X11_isElsewhere_f_79 : ck_ fX11 (some .boolean) cX11_isElsewhere 79 [.iconst 1, .goto 84] 83 = true := qck_r (nn_ _) (by decide +kernel)
theorem bs_X11_isElsewhere_f_79 {P : Zt → Option Zv → Prop} (K : Int → Zl → List Zv → Zt → Prop) : sx_ K P [.iconst 1, .goto 84] 83 = x_iconst 1 (x_goto 84 K) := ((xe_iconst 1).trans (congrArg (x_iconst 1) (xe_goto 84)))
theorem bk_X11_isElsewhere_f_75 : ck_ fX11 (some .boolean) cX11_isElsewhere 75 [.iconst (-1), .if_icmp .eq 83, .iconst 1, .goto 84] 83 = true := qck_r (nn_ _) (by decide +kernel)
theorem bs_X11_isElsewhere_f_75 {P : Zt → Option Zv → Prop} (K : Int → Zl → List Zv → Zt → Prop) : sx_ K P [.iconst (-1), .if_icmp .eq 83, .iconst 1, .goto 84] 83 = x_iconst (-1) (x_if_icmp .eq 83 K (x_iconst 1 (x_goto 84 K))) := ((xe_iconst (-1)).trans (congrArg (x_iconst (-1)) ((xe_if_icmp .eq 83).trans (congrArg (x_if_icmp .eq 83 K) ((xe_iconst 1).trans (congrArg (x_iconst 1) (xe_goto 84)))))))
theorem bk_X11_isElsewhere_f_0 : ck_ fX11 (some .boolean) cX11_isElsewhere 0 [.iconst 0, .istore 3, .iconst 0, .istore 4] 5 = true := qck_r (nn_ _) (by decide +kernel)
theorem bs_X11_isElsewhere_f_0 {P : Zt → Option Zv → Prop} (K : Int → Zl → List Zv → Zt → Prop) : sx_ K P [.iconst 0, .istore 3, .iconst 0, .istore 4] 5 = x_iconst 0 (x_istore 3 (x_iconst 0 (x_istore 4 (K 5)))) := ((xe_iconst 0).trans (congrArg (x_iconst 0) ((xe_istore 3).trans (congrArg (x_istore 3) ((xe_iconst 0).trans (congrArg (x_iconst 0) ((xe_istore 4).trans (congrArg (x_istore 4) xe_nil))))))))
abbrev po_X11_isElsewhere_f (T : Zt) (p m : Int) : Zt → Option Zv → Prop := fun T' r => T = T' ∧ ∃ x : Int, r = some (vI x) ∧ ((x = 1 ∧ elsR_ T p m) ∨ (x = 0 ∧ ¬ elsR_ T p m))
set_option maxHeartbeats 4000000 in
theorem ct_X11_isElsewhere_f {T : Zt} {p m : Int} (h1 : 0 ≤ m ∧ m < 400) : Ct_ yX11_isElsewhere zX11_isElsewhere T [vR 111 0, vI p, vI m] (po_X11_isElsewhere_f T p m) := by
  refine ct_of pn_11 rfl rfl (Nat.le_of_ble_eq_true rfl) (fun hT hav => ?_)
  have hr_p : -2147483648 ≤ p ∧ p ≤ 2147483647 := hav (vI p) (List.mem_cons_of_mem _ List.mem_cons_self)
  have hr_m : -2147483648 ≤ m ∧ m ≤ 2147483647 := hav (vI m) (List.mem_cons_of_mem _ (List.mem_cons_of_mem _ List.mem_cons_self))
  have hz : zX11_isElsewhere.2.2.2.1 = some .boolean → ∀ (T' : Zt) (x : Int), po_X11_isElsewhere_f T p m T' (some (vI x)) → 0 ≤ x ∧ x ≤ 1 := fun _ T' x h => by obtain ⟨-, y, e, hy⟩ := h; cases e; rcases hy with z | z <;> omega
  have hb_29 : 0 ≤ T 111 0 29 ∧ T 111 0 29 ≤ 400 := bd_f hT 111 29 tl_11_29 0
  show J_ zX11_isElsewhere T (po_X11_isElsewhere_f T p m) 0 0 0 [some (vR 111 0), some (vI p), some (vI m), none, none] [] T
  have c_5 : ∀ (nn : Nat) (is : Int) (k : Int), ((400 - k).toNat) ≤ nn → (0 ≤ k ∧ (k = 0 ∨ k ≤ T 111 0 29) ∧ 0 ≤ is ∧ is ≤ 1) → ((is = 1 ∧ elsR_ T p m) ∨ (is = 0 ∧ ∀ j, 0 ≤ j → j < k → ¬ (j ≠ m ∧ T 234 0 j = T 234 0 m ∧ T 235 0 j ≠ 3 ∧ slc_ T j p ≠ -1))) → J_ zX11_isElsewhere T (po_X11_isElsewhere_f T p m) 0 0 5 [some (vR 111 0), some (vI p), some (vI m), some (vI is), some (vI k)] [] T := by
    intro nn
    induction nn using Nat.strongRecOn with
    | _ nn ih_5 =>
      intro is k hm_5 i1 i2
      replace hm_5 := fun (_ : Unit) => hm_5
      have c_84 : ∀ (v : Int), (0 ≤ k ∧ k < T 111 0 29 ∧ 0 ≤ v ∧ v ≤ 1 ∧ is = 0) → ((v = 1 ∧ elsR_ T p m) ∨ (v = 0 ∧ ∀ j, 0 ≤ j → j < k + 1 → ¬ (j ≠ m ∧ T 234 0 j = T 234 0 m ∧ T 235 0 j ≠ 3 ∧ slc_ T j p ≠ -1))) → J_ zX11_isElsewhere T (po_X11_isElsewhere_f T p m) 0 0 84 [some (vR 111 0), some (vI p), some (vI m), some (vI is), some (vI k)] [vI v] T := by
        intro v v83 v84
        refine j_blx (F := fX11) tb_X11 (nn_ _) bk_X11_isElsewhere_f_84 bs_X11_isElsewhere_f_84 hz (fun K hK => ?_)
        refine rg_i (by omega) ?_
        refine hK 5 [some (vR 111 0), some (vI p), some (vI m), some (vI v), some (vI (k + 1))] [] T ?_
        refine ih_5 _ ?_ v (k + 1) (Nat.le_refl _) ?_ ?_
        · have hm_5 := hm_5 (); omega
        · omega
        · exact v84
      refine j_blx (F := fX11) tb_X11 (nn_ _) bk_X11_isElsewhere_f_5 bs_X11_isElsewhere_f_5 hz (fun K hK => ?_)
      intro b1 b1b
      refine And.intro (fun c2 => ?_) (fun c2 => ?_)
      · refine hK 91 _ [] T ?_
        refine j_blx (F := fX11) tb_X11 (nn_ _) bk_X11_isElsewhere_f_91 bs_X11_isElsewhere_f_91 hz (fun K hK => ?_)
        refine (show po_X11_isElsewhere_f T p m T (some (vI is)) from ?_)
        rcases i2 with z | z
        · exact ⟨rfl, _, rfl, Or.inl ⟨z.1, z.2⟩⟩
        · exact ⟨rfl, _, rfl, Or.inr ⟨z.1, els_n (fun j a b => z.2 j a (by omega))⟩⟩
      · refine And.intro (fun c3 => ?_) (fun c3 => ?_)
        · refine hK 91 _ [] T ?_
          refine j_blx (F := fX11) tb_X11 (nn_ _) bk_X11_isElsewhere_f_91 bs_X11_isElsewhere_f_91 hz (fun K hK => ?_)
          refine (show po_X11_isElsewhere_f T p m T (some (vI is)) from ?_)
          rcases i2 with z | z
          · exact ⟨rfl, _, rfl, Or.inl ⟨z.1, z.2⟩⟩
          · exact ⟨rfl, _, rfl, Or.inr ⟨z.1, els_n (fun j a b => z.2 j a (by omega))⟩⟩
        · refine And.intro (fun c4 => ?_) (fun c4 => ?_)
          · refine hK 83 _ [] T ?_
            refine j_blx (F := fX11) tb_X11 (nn_ _) bk_X11_isElsewhere_f_83 bs_X11_isElsewhere_f_83 hz (fun K hK => ?_)
            refine hK 84 _ [vI 0] T ?_
            refine c_84 0 ?_ ?_
            · omega
            · refine Or.inr ⟨rfl, fun j a b c => ?_⟩
              by_cases z : j = k
              · rw [z] at c
                first
                | omega
                | (have y9 := c; omega)
              · exact (i2.resolve_left (fun y => by omega)).2 j a (by omega) c
          · refine ix_i (by omega) ?_
            intro b5 b5b
            refine ix_i (by omega) ?_
            intro b6 b6b
            refine And.intro (fun c7 => ?_) (fun c7 => ?_)
            · refine hK 83 _ [] T ?_
              refine j_blx (F := fX11) tb_X11 (nn_ _) bk_X11_isElsewhere_f_83 bs_X11_isElsewhere_f_83 hz (fun K hK => ?_)
              refine hK 84 _ [vI 0] T ?_
              refine c_84 0 ?_ ?_
              · omega
              · refine Or.inr ⟨rfl, fun j a b c => ?_⟩
                by_cases z : j = k
                · rw [z] at c
                  first
                  | omega
                  | (have y9 := c; omega)
                · exact (i2.resolve_left (fun y => by omega)).2 j a (by omega) c
            · refine ix_i (by omega) ?_
              intro b8 b8b
              refine And.intro (fun c9 => ?_) (fun c9 => ?_)
              · refine hK 83 _ [] T ?_
                refine j_blx (F := fX11) tb_X11 (nn_ _) bk_X11_isElsewhere_f_83 bs_X11_isElsewhere_f_83 hz (fun K hK => ?_)
                refine hK 84 _ [vI 0] T ?_
                refine c_84 0 ?_ ?_
                · omega
                · refine Or.inr ⟨rfl, fun j a b c => ?_⟩
                  by_cases z : j = k
                  · rw [z] at c
                    first
                    | omega
                    | (have y9 := c; omega)
                  · exact (i2.resolve_left (fun y => by omega)).2 j a (by omega) c
              · refine rg_i (by omega) ?_
                refine hK 57 _ [vI p, vI (2 * k), vR 111 0] T ?_
                refine j_callV (y := yX11_slotOf) (Yc := zX11_slotOf) (rest := []) [vI (2 * k), vI p] (ct_X11_slotOf_e (T := T) (m := k) (s := 0) (by omega) ⟨by omega, by decide, by decide⟩) cl_X11_378 (qd_c (by decide +kernel)) (nn_ _) rfl (rf_of rfl) (Nat.le_of_ble_eq_true rfl) (Nat.le_of_ble_eq_true rfl) (Nat.le_of_ble_eq_true rfl) rfl ?_
                rintro _ _ ⟨rfl, x10, rfl, hx10, hx10e⟩
                have bx10 : x10 = -1 ∨ (10 * (2 * k) ≤ x10 ∧ x10 < 10 * (2 * k) + 10) := by
                  rcases hx10 with z | z
                  · exact Or.inl z.1
                  · exact Or.inr ⟨z.1, z.2.1⟩
                clear hx10
                show J_ zX11_isElsewhere T (po_X11_isElsewhere_f T p m) 0 0 60 _ [vI x10] T
                refine j_blx (F := fX11) tb_X11 (nn_ _) bk_X11_isElsewhere_f_60 bs_X11_isElsewhere_f_60 hz (fun K hK => ?_)
                refine And.intro (fun c11 => ?_) (fun c11 => ?_)
                · refine hK 79 _ [] T ?_
                  refine j_blx (F := fX11) tb_X11 (nn_ _) bk_X11_isElsewhere_f_79 bs_X11_isElsewhere_f_79 hz (fun K hK => ?_)
                  refine hK 84 _ [vI 1] T ?_
                  refine c_84 1 ?_ ?_
                  · omega
                  · have sq : slc_ T k p ≠ -1 := by rw [slc_0 hx10e (by omega)]; omega
                    exact Or.inl ⟨rfl, ⟨k, by omega, by omega, by omega, by omega, by omega, sq⟩⟩
                · refine rg_i (by omega) ?_
                  refine rg_i (by omega) ?_
                  refine hK 72 _ [vI p, vI ((2 * k) + 1), vR 111 0] T ?_
                  refine j_callV (y := yX11_slotOf) (Yc := zX11_slotOf) (rest := []) [vI ((2 * k) + 1), vI p] (ct_X11_slotOf_e (T := T) (m := k) (s := 1) (by omega) ⟨by omega, by decide, by decide⟩) cl_X11_378 (qd_c (by decide +kernel)) (nn_ _) rfl (rf_of rfl) (Nat.le_of_ble_eq_true rfl) (Nat.le_of_ble_eq_true rfl) (Nat.le_of_ble_eq_true rfl) rfl ?_
                  rintro _ _ ⟨rfl, x12, rfl, hx12, hx12e⟩
                  have bx12 : x12 = -1 ∨ (10 * ((2 * k) + 1) ≤ x12 ∧ x12 < 10 * ((2 * k) + 1) + 10) := by
                    rcases hx12 with z | z
                    · exact Or.inl z.1
                    · exact Or.inr ⟨z.1, z.2.1⟩
                  clear hx12
                  show J_ zX11_isElsewhere T (po_X11_isElsewhere_f T p m) 0 0 75 _ [vI x12] T
                  refine j_blx (F := fX11) tb_X11 (nn_ _) bk_X11_isElsewhere_f_75 bs_X11_isElsewhere_f_75 hz (fun K hK => ?_)
                  refine And.intro (fun c13 => ?_) (fun c13 => ?_)
                  · have sq8 : slc_ T k p = -1 := by rw [slc_1 hx10e (by omega) hx12e]; omega
                    refine hK 83 _ [] T ?_
                    refine j_blx (F := fX11) tb_X11 (nn_ _) bk_X11_isElsewhere_f_83 bs_X11_isElsewhere_f_83 hz (fun K hK => ?_)
                    refine hK 84 _ [vI 0] T ?_
                    refine c_84 0 ?_ ?_
                    · omega
                    · refine Or.inr ⟨rfl, fun j a b c => ?_⟩
                      by_cases z : j = k
                      · rw [z] at c
                        first
                        | omega
                        | (have y9 := c; omega)
                      · exact (i2.resolve_left (fun y => by omega)).2 j a (by omega) c
                  · refine hK 84 _ [vI 1] T ?_
                    refine c_84 1 ?_ ?_
                    · omega
                    · have sq : slc_ T k p ≠ -1 := by rw [slc_1 hx10e (by omega) hx12e]; omega
                      exact Or.inl ⟨rfl, ⟨k, by omega, by omega, by omega, by omega, by omega, sq⟩⟩
  refine j_blx (F := fX11) tb_X11 (nn_ _) bk_X11_isElsewhere_f_0 bs_X11_isElsewhere_f_0 hz (fun K hK => ?_)
  refine hK 5 [some (vR 111 0), some (vI p), some (vI m), some (vI 0), some (vI 0)] [] T ?_
  refine c_5 _ 0 0 (Nat.le_refl _) ?_ ?_
  · omega
  · exact Or.inr ⟨rfl, fun j a b => by omega⟩
