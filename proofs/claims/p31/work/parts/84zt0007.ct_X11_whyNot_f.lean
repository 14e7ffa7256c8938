theorem els_n {T : Zt} {p m : Int} (h : ∀ j, 0 ≤ j → j < T 111 0 29 → ¬ (j ≠ m ∧ T 234 0 j = T 234 0 m ∧ T 235 0 j ≠ 3 ∧ slc_ T j p ≠ -1)) : ¬ elsR_ T p m := fun ⟨k, a1, a2, a3, a4, a5, a6⟩ => h k a1 a2 ⟨a3, a4, a5, a6⟩
theorem bk_X11_isElsewhere_f_84 : ck_ fX11 (some .boolean) cX11_isElsewhere 84 [.istore 3, .iinc 4 1, .goto 5] 91 = true := qck_r (nn_ _) (by decide +kernel)
theorem bs_X11_isElsewhere_f_84 {P : Zt → Option Zv → Prop} (K : Int → Zl → List Zv → Zt → Prop) : sx_ K P [.istore 3, .iinc 4 1, .goto 5] 91 = x_istore 3 (x_iinc 4 1 (x_goto 5 K)) := ((xe_istore 3).trans (congrArg (x_istore 3) ((xe_iinc 4 1).trans (congrArg (x_iinc 4 1) (xe_goto 5)))))
theorem bk_X11_isElsewhere_f_5 : ck_ fX11 (some .boolean) cX11_isElsewhere 5 [.iload 4, .aload 0, .tableswitch 0 11 29 #[], .if_icmp .ge 91, .iload 3, .ifCond .ne 91, .iload 4, .iload 2, .if_icmp .eq 83, .aload 0, .tableswitch 0 11 34 #[], .iload 4, .iaload, .aload 0, .tableswitch 0 11 34 #[], .iload 2, .iaload, .if_icmp .ne 83, .aload 0, .tableswitch 0 11 35 #[], .iload 4, .iaload, .iconst 3, .if_icmp .eq 83, .aload 0, .iconst 2, .iload 4, .imul, .iload 1] 57 = true := qck_r (nn_ _) (by decide +kernel)
theorem bs_X11_isElsewhere_f_5 {P : Zt → Option Zv → Prop} (K : Int → Zl → List Zv → Zt → Prop) : sx_ K P [.iload 4, .aload 0, .tableswitch 0 11 29 #[], .if_icmp .ge 91, .iload 3, .ifCond .ne 91, .iload 4, .iload 2, .if_icmp .eq 83, .aload 0, .tableswitch 0 11 34 #[], .iload 4, .iaload, .aload 0, .tableswitch 0 11 34 #[], .iload 2, .iaload, .if_icmp .ne 83, .aload 0, .tableswitch 0 11 35 #[], .iload 4, .iaload, .iconst 3, .if_icmp .eq 83, .aload 0, .iconst 2, .iload 4, .imul, .iload 1] 57 = x_iload 4 (x_aload 0 (x_g0 111 29 0 400 (x_if_icmp .ge 91 K (x_iload 3 (x_ifCond .ne 91 K (x_iload 4 (x_iload 2 (x_if_icmp .eq 83 K (x_aload 0 (x_g1 111 234 (x_iload 4 (x_iaload (x_aload 0 (x_g1 111 234 (x_iload 2 (x_iaload (x_if_icmp .ne 83 K (x_aload 0 (x_g1 111 235 (x_iload 4 (x_iaload (x_iconst 3 (x_if_icmp .eq 83 K (x_aload 0 (x_iconst 2 (x_iload 4 (x_imul (x_iload 1 (K 57))))))))))))))))))))))))))))) := ((xe_iload 4).trans (congrArg (x_iload 4) ((xe_aload 0).trans (congrArg (x_aload 0) ((xe_g0 (kk := 111) rfl tl_11_29).trans (congrArg (x_g0 111 29 0 400) ((xe_if_icmp .ge 91).trans (congrArg (x_if_icmp .ge 91 K) ((xe_iload 3).trans (congrArg (x_iload 3) ((xe_ifCond .ne 91).trans (congrArg (x_ifCond .ne 91 K) ((xe_iload 4).trans (congrArg (x_iload 4) ((xe_iload 2).trans (congrArg (x_iload 2) ((xe_if_icmp .eq 83).trans (congrArg (x_if_icmp .eq 83 K) ((xe_aload 0).trans (congrArg (x_aload 0) ((xe_g1 (kk := 111) rfl tl_11_34).trans (congrArg (x_g1 111 234) ((xe_iload 4).trans (congrArg (x_iload 4) ((xe_iaload).trans (congrArg (x_iaload) ((xe_aload 0).trans (congrArg (x_aload 0) ((xe_g1 (kk := 111) rfl tl_11_34).trans (congrArg (x_g1 111 234) ((xe_iload 2).trans (congrArg (x_iload 2) ((xe_iaload).trans (congrArg (x_iaload) ((xe_if_icmp .ne 83).trans (congrArg (x_if_icmp .ne 83 K) ((xe_aload 0).trans (congrArg (x_aload 0) ((xe_g1 (kk := 111) rfl tl_11_35).trans (congrArg (x_g1 111 235) ((xe_iload 4).trans (congrArg (x_iload 4) ((xe_iaload).trans (congrArg (x_iaload) ((xe_iconst 3).trans (congrArg (x_iconst 3) ((xe_if_icmp .eq 83).trans (congrArg (x_if_icmp .eq 83 K) ((xe_aload 0).trans (congrArg (x_aload 0) ((xe_iconst 2).trans (congrArg (x_iconst 2) ((xe_iload 4).trans (congrArg (x_iload 4) ((xe_imul).trans (congrArg (x_imul) ((xe_iload 1).trans (congrArg (x_iload 1) xe_nil))))))))))))))))))))))))))))))))))))))))))))))))))))))))))
theorem bk_X11_isElsewhere_f_91 : ck_ fX11 (some .boolean) cX11_isElsewhere 91 [.iload 3, .ireturn] 93 = true := qck_r (nn_ _) (by decide +kernel)
theorem bs_X11_isElsewhere_f_91 {P : Zt → Option Zv → Prop} (K : Int → Zl → List Zv → Zt → Prop) : sx_ K P [.iload 3, .ireturn] 93 = x_iload 3 (x_ireturn P) := ((xe_iload 3).trans (congrArg (x_iload 3) (xe_ireturn)))
theorem bk_X11_isElsewhere_f_83 : ck_ fX11 (some .boolean) cX11_isElsewhere 83 [.iconst 0] 84 = true := qck_r (nn_ _) (by decide +kernel)
theorem bs_X11_isElsewhere_f_83 {P : Zt → Option Zv → Prop} (K : Int → Zl → List Zv → Zt → Prop) : sx_ K P [.iconst 0] 84 = x_iconst 0 (K 84) := ((xe_iconst 0).trans (congrArg (x_iconst 0) xe_nil))
theorem bk_X11_isElsewhere_f_60 : ck_ fX11 (some .boolean) cX11_isElsewhere 60 [.iconst (-1), .if_icmp .ne 79, .aload 0, .iconst 2, .iload 4, .imul, .iconst 1, .iadd, .iload 1] 72 = true := qck_r (nn_ _) (by decide +kernel)
theorem bs_X11_isElsewhere_f_60 {P : Zt → Option Zv → Prop} (K : Int → Zl → List Zv → Zt → Prop) : sx_ K P [.iconst (-1), .if_icmp .ne 79, .aload 0, .iconst 2, .iload 4, .imul, .iconst 1, .iadd, .iload 1] 72 = x_iconst (-1) (x_if_icmp .ne 79 K (x_aload 0 (x_iconst 2 (x_iload 4 (x_imul (x_iconst 1 (x_iadd (x_iload 1 (K 72))))))))) := ((xe_iconst (-1)).trans (congrArg (x_iconst (-1)) ((xe_if_icmp .ne 79).trans (congrArg (x_if_icmp .ne 79 K) ((xe_aload 0).trans (congrArg (x_aload 0) ((xe_iconst 2).trans (congrArg (x_iconst 2) ((xe_iload 4).trans (congrArg (x_iload 4) ((xe_imul).trans (congrArg (x_imul) ((xe_iconst 1).trans (congrArg (x_iconst 1) ((xe_iadd).trans (congrArg (x_iadd) ((xe_iload 1).trans (congrArg (x_iload 1) xe_nil))))))))))))))))))
theorem bk_X11_isElsewhere_f_79 : ck_ fX11 (some .boolean) cX11_isElsewhere 79 [.iconst 1, .goto 84] 83 = true := qck_r (nn_ _) (by decide +kernel)
theorem bs_X11_isElsewhere_f_79 {P : Zt → Option Zv → Prop} (K : Int → Zl → List Zv → Zt → Prop) : sx_ K P [.iconst 1, .goto 84] 83 = x_iconst 1 (x_goto 84 K) := ((xe_iconst 1).trans (congrArg (x_iconst 1) (xe_goto 84)))
theorem bk_X11_isElsewhere_f_75 : ck_ fX11 (some .boolean) cX11_isElsewhere 75 [.iconst (-1), .if_icmp .eq 83, .iconst 1, .goto 84] 83 = true := qck_r (nn_ _) (by decide +kernel)
theorem bs_X11_isElsewhere_f_75 {P : Zt → Option Zv → Prop} (K : Int → Zl → List Zv → Zt → Prop) : sx_ K P [.iconst (-1), .if_icmp .eq 83, .iconst 1, .goto 84] 83 = x_iconst (-1) (x_if_icmp .eq 83 K (x_iconst 1 (x_goto 84 K))) := ((xe_iconst (-1)).trans (congrArg (x_iconst (-1)) ((xe_if_icmp .eq 83).trans (congrArg (x_if_icmp .eq 83 K) ((xe_iconst 1).trans (congrArg (x_iconst 1) (xe_goto 84)))))))
theorem bk_X11_isElsewhere_f_0 : ck_ fX11 (some .boolean) cX11_isElsewhere 0 [.iconst 0, .istore 3, .iconst 0, .istore 4] 5 = true := qck_r (nn_ _) (by decide +kernel)
theorem bs_X11_isElsewhere_f_0 {P : Zt → Option Zv → Prop} (K : Int → Zl → List Zv → Zt → Prop) : sx_ K P [.iconst 0, .istore 3, .iconst 0, .istore 4] 5 = x_iconst 0 (x_istore 3 (x_iconst 0 (x_istore 4 (K 5)))) := ((xe_iconst 0).trans (congrArg (x_iconst 0) ((xe_istore 3).trans (congrArg (x_istore 3) ((xe_iconst 0).trans (congrArg (x_iconst 0) ((xe_istore 4).trans (congrArg (x_istore 4) xe_nil))))))))
abbrev po_X11_isElsewhere_f (T : Zt) (p m : Int) : Zt → Option Zv → Prop := fun T' r => T = T' ∧ ∃ x : Int, r = some (vI x) ∧ ((x = 1 ∧ elsR_ T p m) ∨ (x = 0 ∧ ¬ elsR_ T p m))
set_option maxHeartbeats 4000000 in
theorem ct_X11_isElsewhere_f {T : Zt} {p m : Int} (h1 : 0 ≤ m ∧ m < 400) : Ct_ yX11_isElsewhere zX11_isElsewhere T [vR 111 0, vI p, vI m] (po_X11_isElsewhere_f T p m) := by
  refine ct_of pn_11 rfl rfl (Nat.le_of_ble_eq_true rfl) (fun hT hav => ?_)
  have hr_p : -2147483648 ≤ p ∧ p ≤ 2147483647 := hav (vI p) (List.mem_cons_of_mem _ List.mem_cons_self)
  have hr_m : -2147483648 ≤ m ∧ m ≤ 2147483647 := hav (vI m) (List.mem_cons_of_mem _ (List.mem_cons_of_mem _ List.mem_cons_self))
  have hz : zX11_isElsewhere.2.2.2.1 = some .boolean → ∀ (T' : Zt) (x : Int), po_X11_isElsewhere_f T p m T' (some (vI x)) → 0 ≤ x ∧ x ≤ 1 := fun _ T' x h => by obtain ⟨-, y, e, hy⟩ := h; cases e; rcases hy with z | z <;> omega
  have hb_29 : 0 ≤ T 111 0 29 ∧ T 111 0 29 ≤ 400 := bd_f hT 111 29 tl_11_29 0
  show J_ zX11_isElsewhere T (po_X11_isElsewhere_f T p m) 0 0 0 [some (vR 111 0), some (vI p), some (vI m), none, none] [] T
  have c_5 : ∀ (nn : Nat) (is : Int) (k : Int), ((400 - k).toNat) ≤ nn → (0 ≤ k ∧ (k = 0 ∨ k ≤ T 111 0 29) ∧ 0 ≤ is ∧ is ≤ 1) → ((is = 1 ∧ elsR_ T p m) ∨ (is = 0 ∧ ∀ j, 0 ≤ j → j < k → ¬ (j ≠ m ∧ T 234 0 j = T 234 0 m ∧ T 235 0 j ≠ 3 ∧ slc_ T j p ≠ -1))) → J_ zX11_isElsewhere T (po_X11_isElsewhere_f T p m) 0 0 5 [some (vR 111 0), some (vI p), some (vI m), some (vI is), some (vI k)] [] T := by
    intro nn
    induction nn using Nat.strongRecOn with
    | _ nn ih_5 =>
      intro is k hm_5 i1 i2
      replace hm_5 := fun (_ : Unit) => hm_5
      have c_84 : ∀ (v : Int), (0 ≤ k ∧ k < T 111 0 29 ∧ 0 ≤ v ∧ v ≤ 1 ∧ is = 0) → ((v = 1 ∧ elsR_ T p m) ∨ (v = 0 ∧ ∀ j, 0 ≤ j → j < k + 1 → ¬ (j ≠ m ∧ T 234 0 j = T 234 0 m ∧ T 235 0 j ≠ 3 ∧ slc_ T j p ≠ -1))) → J_ zX11_isElsewhere T (po_X11_isElsewhere_f T p m) 0 0 84 [some (vR 111 0), some (vI p), some (vI m), some (vI is), some (vI k)] [vI v] T := by
        intro v v83 v84
        refine j_blx (F := fX11) tb_X11 (nn_ _) bk_X11_isElsewhere_f_84 bs_X11_isElsewhere_f_84 hz (fun K hK => ?_)
        refine rg_i (by omega) ?_
        refine hK 5 [some (vR 111 0), some (vI p), some (vI m), some (vI v), some (vI (k + 1))] [] T ?_
        refine ih_5 _ ?_ v (k + 1) (Nat.le_refl _) ?_ ?_
        · have hm_5 := hm_5 (); omega
        · omega
        · exact v84
      refine j_blx (F := fX11) tb_X11 (nn_ _) bk_X11_isElsewhere_f_5 bs_X11_isElsewhere_f_5 hz (fun K hK => ?_)
      intro b1 b1b
      refine And.intro (fun c2 => ?_) (fun c2 => ?_)
      · refine hK 91 _ [] T ?_
        refine j_blx (F := fX11) tb_X11 (nn_ _) bk_X11_isElsewhere_f_91 bs_X11_isElsewhere_f_91 hz (fun K hK => ?_)
        refine (show po_X11_isElsewhere_f T p m T (some (vI is)) from ?_)
        rcases i2 with z | z
        · exact ⟨rfl, _, rfl, Or.inl ⟨z.1, z.2⟩⟩
        · exact ⟨rfl, _, rfl, Or.inr ⟨z.1, els_n (fun j a b => z.2 j a (by omega))⟩⟩
      · refine And.intro (fun c3 => ?_) (fun c3 => ?_)
        · refine hK 91 _ [] T ?_
          refine j_blx (F := fX11) tb_X11 (nn_ _) bk_X11_isElsewhere_f_91 bs_X11_isElsewhere_f_91 hz (fun K hK => ?_)
          refine (show po_X11_isElsewhere_f T p m T (some (vI is)) from ?_)
          rcases i2 with z | z
          · exact ⟨rfl, _, rfl, Or.inl ⟨z.1, z.2⟩⟩
          · exact ⟨rfl, _, rfl, Or.inr ⟨z.1, els_n (fun j a b => z.2 j a (by omega))⟩⟩
        · refine And.intro (fun c4 => ?_) (fun c4 => ?_)
          · refine hK 83 _ [] T ?_
            refine j_blx (F := fX11) tb_X11 (nn_ _) bk_X11_isElsewhere_f_83 bs_X11_isElsewhere_f_83 hz (fun K hK => ?_)
            refine hK 84 _ [vI 0] T ?_
            refine c_84 0 ?_ ?_
            · omega
            · refine Or.inr ⟨rfl, fun j a b c => ?_⟩
              by_cases z : j = k
              · rw [z] at c
                first
                | omega
                | (have y9 := c; omega)
              · exact (i2.resolve_left (fun y => by omega)).2 j a (by omega) c
          · refine ix_i (by omega) ?_
            intro b5 b5b
            refine ix_i (by omega) ?_
            intro b6 b6b
            refine And.intro (fun c7 => ?_) (fun c7 => ?_)
            · refine hK 83 _ [] T ?_
              refine j_blx (F := fX11) tb_X11 (nn_ _) bk_X11_isElsewhere_f_83 bs_X11_isElsewhere_f_83 hz (fun K hK => ?_)
              refine hK 84 _ [vI 0] T ?_
              refine c_84 0 ?_ ?_
              · omega
              · refine Or.inr ⟨rfl, fun j a b c => ?_⟩
                by_cases z : j = k
                · rw [z] at c
                  first
                  | omega
                  | (have y9 := c; omega)
                · exact (i2.resolve_left (fun y => by omega)).2 j a (by omega) c
            · refine ix_i (by omega) ?_
              intro b8 b8b
              refine And.intro (fun c9 => ?_) (fun c9 => ?_)
              · refine hK 83 _ [] T ?_
                refine j_blx (F := fX11) tb_X11 (nn_ _) bk_X11_isElsewhere_f_83 bs_X11_isElsewhere_f_83 hz (fun K hK => ?_)
                refine hK 84 _ [vI 0] T ?_
                refine c_84 0 ?_ ?_
                · omega
                · refine Or.inr ⟨rfl, fun j a b c => ?_⟩
                  by_cases z : j = k
                  · rw [z] at c
                    first
                    | omega
                    | (have y9 := c; omega)
                  · exact (i2.resolve_left (fun y => by omega)).2 j a (by omega) c
              · refine rg_i (by omega) ?_
                refine hK 57 _ [vI p, vI (2 * k), vR 111 0] T ?_
                refine j_callV (y := yX11_slotOf) (Yc := zX11_slotOf) (rest := []) [vI (2 * k), vI p] (ct_X11_slotOf_e (T := T) (m := k) (s := 0) (by omega) ⟨by omega, by decide, by decide⟩) cl_X11_378 (qd_c (by decide +kernel)) (nn_ _) rfl (rf_of rfl) (Nat.le_of_ble_eq_true rfl) (Nat.le_of_ble_eq_true rfl) (Nat.le_of_ble_eq_true rfl) rfl ?_
                rintro _ _ ⟨rfl, x10, rfl, hx10, hx10e⟩
                have bx10 : x10 = -1 ∨ (10 * (2 * k) ≤ x10 ∧ x10 < 10 * (2 * k) + 10) := by
                  rcases hx10 with z | z
                  · exact Or.inl z.1
                  · exact Or.inr ⟨z.1, z.2.1⟩
                clear hx10
                show J_ zX11_isElsewhere T (po_X11_isElsewhere_f T p m) 0 0 60 _ [vI x10] T
                refine j_blx (F := fX11) tb_X11 (nn_ _) bk_X11_isElsewhere_f_60 bs_X11_isElsewhere_f_60 hz (fun K hK => ?_)
                refine And.intro (fun c11 => ?_) (fun c11 => ?_)
                · refine hK 79 _ [] T ?_
                  refine j_blx (F := fX11) tb_X11 (nn_ _) bk_X11_isElsewhere_f_79 bs_X11_isElsewhere_f_79 hz (fun K hK => ?_)
                  refine hK 84 _ [vI 1] T ?_
                  refine c_84 1 ?_ ?_
                  · omega
                  · have sq : slc_ T k p ≠ -1 := by rw [slc_0 hx10e (by omega)]; omega
                    exact Or.inl ⟨rfl, ⟨k, by omega, by omega, by omega, by omega, by omega, sq⟩⟩
                · refine rg_i (by omega) ?_
                  refine rg_i (by omega) ?_
                  refine hK 72 _ [vI p, vI ((2 * k) + 1), vR 111 0] T ?_
                  refine j_callV (y := yX11_slotOf) (Yc := zX11_slotOf) (rest := []) [vI ((2 * k) + 1), vI p] (ct_X11_slotOf_e (T := T) (m := k) (s := 1) (by omega) ⟨by omega, by decide, by decide⟩) cl_X11_378 (qd_c (by decide +kernel)) (nn_ _) rfl (rf_of rfl) (Nat.le_of_ble_eq_true rfl) (Nat.le_of_ble_eq_true rfl) (Nat.le_of_ble_eq_true rfl) rfl ?_
                  rintro _ _ ⟨rfl, x12, rfl, hx12, hx12e⟩
                  have bx12 : x12 = -1 ∨ (10 * ((2 * k) + 1) ≤ x12 ∧ x12 < 10 * ((2 * k) + 1) + 10) := by
                    rcases hx12 with z | z
                    · exact Or.inl z.1
                    · exact Or.inr ⟨z.1, z.2.1⟩
                  clear hx12
                  show J_ zX11_isElsewhere T (po_X11_isElsewhere_f T p m) 0 0 75 _ [vI x12] T
                  refine j_blx (F := fX11) tb_X11 (nn_ _) bk_X11_isElsewhere_f_75 bs_X11_isElsewhere_f_75 hz (fun K hK => ?_)
                  refine And.intro (fun c13 => ?_) (fun c13 => ?_)
                  · have sq8 : slc_ T k p = -1 := by rw [slc_1 hx10e (by omega) hx12e]; omega
                    refine hK 83 _ [] T ?_
                    refine j_blx (F := fX11) tb_X11 (nn_ _) bk_X11_isElsewhere_f_83 bs_X11_isElsewhere_f_83 hz (fun K hK => ?_)
                    refine hK 84 _ [vI 0] T ?_
                    refine c_84 0 ?_ ?_
                    · omega
                    · refine Or.inr ⟨rfl, fun j a b c => ?_⟩
                      by_cases z : j = k
                      · rw [z] at c
                        first
                        | omega
                        | (have y9 := c; omega)
                      · exact (i2.resolve_left (fun y => by omega)).2 j a (by omega) c
                  · refine hK 84 _ [vI 1] T ?_
                    refine c_84 1 ?_ ?_
                    · omega
                    · have sq : slc_ T k p ≠ -1 := by rw [slc_1 hx10e (by omega) hx12e]; omega
                      exact Or.inl ⟨rfl, ⟨k, by omega, by omega, by omega, by omega, by omega, sq⟩⟩
  refine j_blx (F := fX11) tb_X11 (nn_ _) bk_X11_isElsewhere_f_0 bs_X11_isElsewhere_f_0 hz (fun K hK => ?_)
  refine hK 5 [some (vR 111 0), some (vI p), some (vI m), some (vI 0), some (vI 0)] [] T ?_
  refine c_5 _ 0 0 (Nat.le_refl _) ?_ ?_
  · omega
  · exact Or.inr ⟨rfl, fun j a b => by omega⟩
theorem bk_X11_whyNot_f_30 : ck_ fX11 (some .int) cX11_whyNot 30 [.if_icmp .eq 35, .iconst 1, .ireturn] 35 = true := qck_r (nn_ _) (by decide +kernel)
theorem bs_X11_whyNot_f_30 {P : Zt → Option Zv → Prop} (K : Int → Zl → List Zv → Zt → Prop) : sx_ K P [.if_icmp .eq 35, .iconst 1, .ireturn] 35 = x_if_icmp .eq 35 K (x_iconst 1 (x_ireturn P)) := ((xe_if_icmp .eq 35).trans (congrArg (x_if_icmp .eq 35 K) ((xe_iconst 1).trans (congrArg (x_iconst 1) (xe_ireturn)))))
theorem bk_X11_whyNot_f_35 : ck_ fX11 (some .int) cX11_whyNot 35 [.aload 0, .iload 1, .iload 2] 38 = true := qck_r (nn_ _) (by decide +kernel)
theorem bs_X11_whyNot_f_35 {P : Zt → Option Zv → Prop} (K : Int → Zl → List Zv → Zt → Prop) : sx_ K P [.aload 0, .iload 1, .iload 2] 38 = x_aload 0 (x_iload 1 (x_iload 2 (K 38))) := ((xe_aload 0).trans (congrArg (x_aload 0) ((xe_iload 1).trans (congrArg (x_iload 1) ((xe_iload 2).trans (congrArg (x_iload 2) xe_nil))))))
theorem bk_X11_whyNot_f_41 : ck_ fX11 (some .int) cX11_whyNot 41 [.ifCond .eq 46, .iconst 2, .ireturn] 46 = true := qck_r (nn_ _) (by decide +kernel)
theorem bs_X11_whyNot_f_41 {P : Zt → Option Zv → Prop} (K : Int → Zl → List Zv → Zt → Prop) : sx_ K P [.ifCond .eq 46, .iconst 2, .ireturn] 46 = x_ifCond .eq 46 K (x_iconst 2 (x_ireturn P)) := ((xe_ifCond .eq 46).trans (congrArg (x_ifCond .eq 46 K) ((xe_iconst 2).trans (congrArg (x_iconst 2) (xe_ireturn)))))
theorem bk_X11_whyNot_f_46 : ck_ fX11 (some .int) cX11_whyNot 46 [.aload 0, .iconst 2, .iload 2, .imul, .iload 1] 51 = true := qck_r (nn_ _) (by decide +kernel)
theorem bs_X11_whyNot_f_46 {P : Zt → Option Zv → Prop} (K : Int → Zl → List Zv → Zt → Prop) : sx_ K P [.aload 0, .iconst 2, .iload 2, .imul, .iload 1] 51 = x_aload 0 (x_iconst 2 (x_iload 2 (x_imul (x_iload 1 (K 51))))) := ((xe_aload 0).trans (congrArg (x_aload 0) ((xe_iconst 2).trans (congrArg (x_iconst 2) ((xe_iload 2).trans (congrArg (x_iload 2) ((xe_imul).trans (congrArg (x_imul) ((xe_iload 1).trans (congrArg (x_iload 1) xe_nil))))))))))
theorem bk_X11_whyNot_f_54 : ck_ fX11 (some .int) cX11_whyNot 54 [.iconst (-1), .if_icmp .ne 72, .aload 0, .iconst 2, .iload 2, .imul, .iconst 1, .iadd, .iload 1] 65 = true := qck_r (nn_ _) (by decide +kernel)
theorem bs_X11_whyNot_f_54 {P : Zt → Option Zv → Prop} (K : Int → Zl → List Zv → Zt → Prop) : sx_ K P [.iconst (-1), .if_icmp .ne 72, .aload 0, .iconst 2, .iload 2, .imul, .iconst 1, .iadd, .iload 1] 65 = x_iconst (-1) (x_if_icmp .ne 72 K (x_aload 0 (x_iconst 2 (x_iload 2 (x_imul (x_iconst 1 (x_iadd (x_iload 1 (K 65))))))))) := ((xe_iconst (-1)).trans (congrArg (x_iconst (-1)) ((xe_if_icmp .ne 72).trans (congrArg (x_if_icmp .ne 72 K) ((xe_aload 0).trans (congrArg (x_aload 0) ((xe_iconst 2).trans (congrArg (x_iconst 2) ((xe_iload 2).trans (congrArg (x_iload 2) ((xe_imul).trans (congrArg (x_imul) ((xe_iconst 1).trans (congrArg (x_iconst 1) ((xe_iadd).trans (congrArg (x_iadd) ((xe_iload 1).trans (congrArg (x_iload 1) xe_nil))))))))))))))))))
theorem bk_X11_whyNot_f_72 : ck_ fX11 (some .int) cX11_whyNot 72 [.iconst 3, .ireturn] 74 = true := qck_r (nn_ _) (by decide +kernel)
theorem bs_X11_whyNot_f_72 {P : Zt → Option Zv → Prop} (K : Int → Zl → List Zv → Zt → Prop) : sx_ K P [.iconst 3, .ireturn] 74 = x_iconst 3 (x_ireturn P) := ((xe_iconst 3).trans (congrArg (x_iconst 3) (xe_ireturn)))
theorem bk_X11_whyNot_f_68 : ck_ fX11 (some .int) cX11_whyNot 68 [.iconst (-1), .if_icmp .eq 74, .iconst 3, .ireturn] 74 = true := qck_r (nn_ _) (by decide +kernel)
theorem bs_X11_whyNot_f_68 {P : Zt → Option Zv → Prop} (K : Int → Zl → List Zv → Zt → Prop) : sx_ K P [.iconst (-1), .if_icmp .eq 74, .iconst 3, .ireturn] 74 = x_iconst (-1) (x_if_icmp .eq 74 K (x_iconst 3 (x_ireturn P))) := ((xe_iconst (-1)).trans (congrArg (x_iconst (-1)) ((xe_if_icmp .eq 74).trans (congrArg (x_if_icmp .eq 74 K) ((xe_iconst 3).trans (congrArg (x_iconst 3) (xe_ireturn)))))))
theorem bk_X11_whyNot_f_74 : ck_ fX11 (some .int) cX11_whyNot 74 [.aload 0, .iload 1, .iload 2] 77 = true := qck_r (nn_ _) (by decide +kernel)
theorem bs_X11_whyNot_f_74 {P : Zt → Option Zv → Prop} (K : Int → Zl → List Zv → Zt → Prop) : sx_ K P [.aload 0, .iload 1, .iload 2] 77 = x_aload 0 (x_iload 1 (x_iload 2 (K 77))) := ((xe_aload 0).trans (congrArg (x_aload 0) ((xe_iload 1).trans (congrArg (x_iload 1) ((xe_iload 2).trans (congrArg (x_iload 2) xe_nil))))))
theorem bk_X11_whyNot_f_80 : ck_ fX11 (some .int) cX11_whyNot 80 [.ifCond .eq 87, .iconst 4, .goto 88] 87 = true := qck_r (nn_ _) (by decide +kernel)
theorem bs_X11_whyNot_f_80 {P : Zt → Option Zv → Prop} (K : Int → Zl → List Zv → Zt → Prop) : sx_ K P [.ifCond .eq 87, .iconst 4, .goto 88] 87 = x_ifCond .eq 87 K (x_iconst 4 (x_goto 88 K)) := ((xe_ifCond .eq 87).trans (congrArg (x_ifCond .eq 87 K) ((xe_iconst 4).trans (congrArg (x_iconst 4) (xe_goto 88)))))
theorem bk_X11_whyNot_f_87 : ck_ fX11 (some .int) cX11_whyNot 87 [.iconst 0, .ireturn] 89 = true := qck_r (nn_ _) (by decide +kernel)
theorem bs_X11_whyNot_f_87 {P : Zt → Option Zv → Prop} (K : Int → Zl → List Zv → Zt → Prop) : sx_ K P [.iconst 0, .ireturn] 89 = x_iconst 0 (x_ireturn P) := ((xe_iconst 0).trans (congrArg (x_iconst 0) (xe_ireturn)))
theorem bk_X11_whyNot_f_88 : ck_ fX11 (some .int) cX11_whyNot 88 [.ireturn] 89 = true := qck_r (nn_ _) (by decide +kernel)
theorem bs_X11_whyNot_f_88 {P : Zt → Option Zv → Prop} (K : Int → Zl → List Zv → Zt → Prop) : sx_ K P [.ireturn] 89 = x_ireturn P := (xe_ireturn)
theorem bk_X11_whyNot_f_0 : ck_ fX11 (some .int) cX11_whyNot 0 [.aload 0, .iload 1, .aload 0, .tableswitch 0 11 34 #[], .iload 2, .iaload] 8 = true := qck_r (nn_ _) (by decide +kernel)
theorem bs_X11_whyNot_f_0 {P : Zt → Option Zv → Prop} (K : Int → Zl → List Zv → Zt → Prop) : sx_ K P [.aload 0, .iload 1, .aload 0, .tableswitch 0 11 34 #[], .iload 2, .iaload] 8 = x_aload 0 (x_iload 1 (x_aload 0 (x_g1 111 234 (x_iload 2 (x_iaload (K 8)))))) := ((xe_aload 0).trans (congrArg (x_aload 0) ((xe_iload 1).trans (congrArg (x_iload 1) ((xe_aload 0).trans (congrArg (x_aload 0) ((xe_g1 (kk := 111) rfl tl_11_34).trans (congrArg (x_g1 111 234) ((xe_iload 2).trans (congrArg (x_iload 2) ((xe_iaload).trans (congrArg (x_iaload) xe_nil))))))))))))
theorem bk_X11_whyNot_f_11 : ck_ fX11 (some .int) cX11_whyNot 11 [.iload 3, .ifCond .ne 24, .aload 0, .tableswitch 0 11 32 #[], .iload 2, .iaload, .goto 30] 24 = true := qck_r (nn_ _) (by decide +kernel)
theorem bs_X11_whyNot_f_11 {P : Zt → Option Zv → Prop} (K : Int → Zl → List Zv → Zt → Prop) : sx_ K P [.iload 3, .ifCond .ne 24, .aload 0, .tableswitch 0 11 32 #[], .iload 2, .iaload, .goto 30] 24 = x_iload 3 (x_ifCond .ne 24 K (x_aload 0 (x_g1 111 232 (x_iload 2 (x_iaload (x_goto 30 K)))))) := ((xe_iload 3).trans (congrArg (x_iload 3) ((xe_ifCond .ne 24).trans (congrArg (x_ifCond .ne 24 K) ((xe_aload 0).trans (congrArg (x_aload 0) ((xe_g1 (kk := 111) rfl tl_11_32).trans (congrArg (x_g1 111 232) ((xe_iload 2).trans (congrArg (x_iload 2) ((xe_iaload).trans (congrArg (x_iaload) (xe_goto 30)))))))))))))
theorem bk_X11_whyNot_f_24 : ck_ fX11 (some .int) cX11_whyNot 24 [.aload 0, .tableswitch 0 11 33 #[], .iload 2, .iaload] 30 = true := qck_r (nn_ _) (by decide +kernel)
theorem bs_X11_whyNot_f_24 {P : Zt → Option Zv → Prop} (K : Int → Zl → List Zv → Zt → Prop) : sx_ K P [.aload 0, .tableswitch 0 11 33 #[], .iload 2, .iaload] 30 = x_aload 0 (x_g1 111 233 (x_iload 2 (x_iaload (K 30)))) := ((xe_aload 0).trans (congrArg (x_aload 0) ((xe_g1 (kk := 111) rfl tl_11_33).trans (congrArg (x_g1 111 233) ((xe_iload 2).trans (congrArg (x_iload 2) ((xe_iaload).trans (congrArg (x_iaload) xe_nil))))))))
abbrev po_X11_whyNot_f (T : Zt) (p m sd : Int) : Zt → Option Zv → Prop := fun T' r => T = T' ∧ ∃ x : Int, r = some (vI x) ∧ (x = wyR_ T p m sd)
set_option maxHeartbeats 4000000 in
theorem ct_X11_whyNot_f {T : Zt} {p m sd : Int} (h1 : 0 ≤ m ∧ m < T 111 0 29) (hml : ML_ T) (hmc : MC_ T) (hri : RI_ T) : Ct_ yX11_whyNot zX11_whyNot T [vR 111 0, vI p, vI m, vI sd] (po_X11_whyNot_f T p m sd) := by
  refine ct_of pn_11 rfl rfl (Nat.le_of_ble_eq_true rfl) (fun hT hav => ?_)
  have hr_p : -2147483648 ≤ p ∧ p ≤ 2147483647 := hav (vI p) (List.mem_cons_of_mem _ List.mem_cons_self)
  have hr_m : -2147483648 ≤ m ∧ m ≤ 2147483647 := hav (vI m) (List.mem_cons_of_mem _ (List.mem_cons_of_mem _ List.mem_cons_self))
  have hr_sd : -2147483648 ≤ sd ∧ sd ≤ 2147483647 := hav (vI sd) (List.mem_cons_of_mem _ (List.mem_cons_of_mem _ (List.mem_cons_of_mem _ List.mem_cons_self)))
  have hz : zX11_whyNot.2.2.2.1 = some .boolean → ∀ (T' : Zt) (x : Int), po_X11_whyNot_f T p m sd T' (some (vI x)) → 0 ≤ x ∧ x ≤ 1 := fun h => by cases h
  have hb_29 : 0 ≤ T 111 0 29 ∧ T 111 0 29 ≤ 400 := bd_f hT 111 29 tl_11_29 0
  show J_ zX11_whyNot T (po_X11_whyNot_f T p m sd) 0 0 0 [some (vR 111 0), some (vI p), some (vI m), some (vI sd)] [] T
  have c_30 : ∀ (v : Int) (w : Int), (v = co9_c T p (T 234 0 m)) → ((sd = 0 ∧ w = T 232 0 m) ∨ (sd ≠ 0 ∧ w = T 233 0 m)) → J_ zX11_whyNot T (po_X11_whyNot_f T p m sd) 0 0 30 [some (vR 111 0), some (vI p), some (vI m), some (vI sd)] [vI w, vI v] T := by
    intro v w hcl hsd
    refine j_blx (F := fX11) tb_X11 (nn_ _) bk_X11_whyNot_f_30 bs_X11_whyNot_f_30 hz (fun K hK => ?_)
    refine And.intro (fun c1 => ?_) (fun c1 => ?_)
    · have wsd := (sd_r hcl hsd).mp c1
      refine hK 35 _ [] T ?_
      refine j_blx (F := fX11) tb_X11 (nn_ _) bk_X11_whyNot_f_35 bs_X11_whyNot_f_35 hz (fun K hK => ?_)
      refine hK 38 _ [vI m, vI p, vR 111 0] T ?_
      refine j_callV (y := yX11_isBanned) (Yc := zX11_isBanned) (rest := []) [vI p, vI m] (ct_X11_isBanned_f (T := T) (by omega) hml hmc hri) cl_X11_381 (qd_c (by decide +kernel)) (nn_ _) rfl (rf_of rfl) (Nat.le_of_ble_eq_true rfl) (Nat.le_of_ble_eq_true rfl) (Nat.le_of_ble_eq_true rfl) rfl ?_
      rintro _ _ ⟨rfl, x2, rfl, hx2⟩
      show J_ zX11_whyNot T (po_X11_whyNot_f T p m sd) 0 0 41 _ [vI x2] T
      refine j_blx (F := fX11) tb_X11 (nn_ _) bk_X11_whyNot_f_41 bs_X11_whyNot_f_41 hz (fun K hK => ?_)
      refine And.intro (fun c3 => ?_) (fun c3 => ?_)
      · refine hK 46 _ [] T ?_
        refine j_blx (F := fX11) tb_X11 (nn_ _) bk_X11_whyNot_f_46 bs_X11_whyNot_f_46 hz (fun K hK => ?_)
        refine rg_i (by omega) ?_
        refine hK 51 _ [vI p, vI (2 * m), vR 111 0] T ?_
        refine j_callV (y := yX11_slotOf) (Yc := zX11_slotOf) (rest := []) [vI (2 * m), vI p] (ct_X11_slotOf_e (T := T) (m := m) (s := 0) (by omega) ⟨by omega, by decide, by decide⟩) cl_X11_378 (qd_c (by decide +kernel)) (nn_ _) rfl (rf_of rfl) (Nat.le_of_ble_eq_true rfl) (Nat.le_of_ble_eq_true rfl) (Nat.le_of_ble_eq_true rfl) rfl ?_
        rintro _ _ ⟨rfl, x4, rfl, hx4, hx4e⟩
        have bx4 : x4 = -1 ∨ (10 * (2 * m) ≤ x4 ∧ x4 < 10 * (2 * m) + 10) := by
          rcases hx4 with z | z
          · exact Or.inl z.1
          · exact Or.inr ⟨z.1, z.2.1⟩
        clear hx4
        show J_ zX11_whyNot T (po_X11_whyNot_f T p m sd) 0 0 54 _ [vI x4] T
        refine j_blx (F := fX11) tb_X11 (nn_ _) bk_X11_whyNot_f_54 bs_X11_whyNot_f_54 hz (fun K hK => ?_)
        refine And.intro (fun c5 => ?_) (fun c5 => ?_)
        · refine hK 72 _ [] T ?_
          refine j_blx (F := fX11) tb_X11 (nn_ _) bk_X11_whyNot_f_72 bs_X11_whyNot_f_72 hz (fun K hK => ?_)
          refine (show po_X11_whyNot_f T p m sd T (some (vI 3)) from ?_)
          have sq : slc_ T m p ≠ -1 := by rw [slc_0 hx4e (by omega)]; omega
          exact ⟨rfl, _, rfl, (wyR_3 wsd (by omega) sq).symm⟩
        · refine rg_i (by omega) ?_
          refine rg_i (by omega) ?_
          refine hK 65 _ [vI p, vI ((2 * m) + 1), vR 111 0] T ?_
          refine j_callV (y := yX11_slotOf) (Yc := zX11_slotOf) (rest := []) [vI ((2 * m) + 1), vI p] (ct_X11_slotOf_e (T := T) (m := m) (s := 1) (by omega) ⟨by omega, by decide, by decide⟩) cl_X11_378 (qd_c (by decide +kernel)) (nn_ _) rfl (rf_of rfl) (Nat.le_of_ble_eq_true rfl) (Nat.le_of_ble_eq_true rfl) (Nat.le_of_ble_eq_true rfl) rfl ?_
          rintro _ _ ⟨rfl, x6, rfl, hx6, hx6e⟩
          have bx6 : x6 = -1 ∨ (10 * ((2 * m) + 1) ≤ x6 ∧ x6 < 10 * ((2 * m) + 1) + 10) := by
            rcases hx6 with z | z
            · exact Or.inl z.1
            · exact Or.inr ⟨z.1, z.2.1⟩
          clear hx6
          show J_ zX11_whyNot T (po_X11_whyNot_f T p m sd) 0 0 68 _ [vI x6] T
          refine j_blx (F := fX11) tb_X11 (nn_ _) bk_X11_whyNot_f_68 bs_X11_whyNot_f_68 hz (fun K hK => ?_)
          refine And.intro (fun c7 => ?_) (fun c7 => ?_)
          · refine hK 74 _ [] T ?_
            refine j_blx (F := fX11) tb_X11 (nn_ _) bk_X11_whyNot_f_74 bs_X11_whyNot_f_74 hz (fun K hK => ?_)
            refine hK 77 _ [vI m, vI p, vR 111 0] T ?_
            refine j_callV (y := yX11_isElsewhere) (Yc := zX11_isElsewhere) (rest := []) [vI p, vI m] (ct_X11_isElsewhere_f (T := T) (by omega)) cl_X11_384 (qd_c (by decide +kernel)) (nn_ _) rfl (rf_of rfl) (Nat.le_of_ble_eq_true rfl) (Nat.le_of_ble_eq_true rfl) (Nat.le_of_ble_eq_true rfl) rfl ?_
            rintro _ _ ⟨rfl, x8, rfl, hx8⟩
            show J_ zX11_whyNot T (po_X11_whyNot_f T p m sd) 0 0 80 _ [vI x8] T
            refine j_blx (F := fX11) tb_X11 (nn_ _) bk_X11_whyNot_f_80 bs_X11_whyNot_f_80 hz (fun K hK => ?_)
            refine And.intro (fun c9 => ?_) (fun c9 => ?_)
            · refine hK 87 _ [] T ?_
              refine j_blx (F := fX11) tb_X11 (nn_ _) bk_X11_whyNot_f_87 bs_X11_whyNot_f_87 hz (fun K hK => ?_)
              refine (show po_X11_whyNot_f T p m sd T (some (vI 0)) from ?_)
              have sq : ¬ slc_ T m p ≠ -1 := by rw [slc_1 hx4e (by omega) hx6e]; omega
              rcases hx8 with z | z
              · omega
              · exact ⟨rfl, _, rfl, (wyR_0 wsd (by omega) sq z.2).symm⟩
            · refine hK 88 _ [vI 4] T ?_
              refine j_blx (F := fX11) tb_X11 (nn_ _) bk_X11_whyNot_f_88 bs_X11_whyNot_f_88 hz (fun K hK => ?_)
              refine (show po_X11_whyNot_f T p m sd T (some (vI 4)) from ?_)
              have sq : ¬ slc_ T m p ≠ -1 := by rw [slc_1 hx4e (by omega) hx6e]; omega
              rcases hx8 with z | z
              · exact ⟨rfl, _, rfl, (wyR_4 wsd (by omega) sq z.2).symm⟩
              · omega
          · refine (show po_X11_whyNot_f T p m sd T (some (vI 3)) from ?_)
            have sq : slc_ T m p ≠ -1 := by rw [slc_1 hx4e (by omega) hx6e]; omega
            exact ⟨rfl, _, rfl, (wyR_3 wsd (by omega) sq).symm⟩
      · refine (show po_X11_whyNot_f T p m sd T (some (vI 2)) from ?_)
        exact ⟨rfl, _, rfl, (wyR_2 wsd (by omega)).symm⟩
    · refine (show po_X11_whyNot_f T p m sd T (some (vI 1)) from ?_)
      have w9 : co9_c T p (T 234 0 m) ≠ cz_ (sd = 0) (T 232 0 m) (T 233 0 m) := fun z => by
        have y9 := (sd_r hcl hsd).mpr (fun t => t z)
        omega
      exact ⟨rfl, _, rfl, (wyR_1 w9).symm⟩
  refine j_blx (F := fX11) tb_X11 (nn_ _) bk_X11_whyNot_f_0 bs_X11_whyNot_f_0 hz (fun K hK => ?_)
  refine ix_i (by omega) ?_
  intro b10 b10b
  refine hK 8 _ [vI (T 234 0 m), vI p, vR 111 0] T ?_
  refine j_callV (y := yX11_clubOf) (Yc := zX11_clubOf) (rest := []) [vI p, vI (T 234 0 m)] (ct_X11_clubOf_e (T := T)) cl_X11_375 (qd_c (by decide +kernel)) (nn_ _) rfl (rf_of rfl) (Nat.le_of_ble_eq_true rfl) (Nat.le_of_ble_eq_true rfl) (Nat.le_of_ble_eq_true rfl) rfl ?_
  rintro _ _ ⟨rfl, x11, rfl, hx11⟩
  have bx11 := cnn_b hT (p := p) (d := (T 234 0 m)) (T 111 0 16).toNat
  have gx11 : -1 ≤ co9_c T p (T 234 0 m) ∧ co9_c T p (T 234 0 m) ≤ 11 := bx11
  show J_ zX11_whyNot T (po_X11_whyNot_f T p m sd) 0 0 11 _ [vI x11] T
  refine j_blx (F := fX11) tb_X11 (nn_ _) bk_X11_whyNot_f_11 bs_X11_whyNot_f_11 hz (fun K hK => ?_)
  refine And.intro (fun c12 => ?_) (fun c12 => ?_)
  · refine hK 24 _ [vI x11] T ?_
    refine j_blx (F := fX11) tb_X11 (nn_ _) bk_X11_whyNot_f_24 bs_X11_whyNot_f_24 hz (fun K hK => ?_)
    refine ix_i (by omega) ?_
    intro b13 b13b
    refine hK 30 _ [vI (T 233 0 m), vI x11] T ?_
    refine c_30 x11 (T 233 0 m) ?_ ?_
    · omega
    · omega
  · refine ix_i (by omega) ?_
    intro b14 b14b
    refine hK 30 _ [vI (T 232 0 m), vI x11] T ?_
    refine c_30 x11 (T 232 0 m) ?_ ?_
    · omega
    · omega
