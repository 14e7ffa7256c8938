theorem bk_X11_nothingAgainst_f_4 : ck_ fX11 (some .boolean) cX11_nothingAgainst 4 [.iload 3, .aload 0, .tableswitch 0 11 29 #[], .if_icmp .ge 37, .iload 2, .ifCond .eq 37, .aload 0, .iload 1, .iload 3] 19 = true := qck_r (nn_ _) (by decide +kernel)
theorem bs_X11_nothingAgainst_f_4 {P : Zt → Option Zv → Prop} (K : Int → Zl → List Zv → Zt → Prop) : sx_ K P [.iload 3, .aload 0, .tableswitch 0 11 29 #[], .if_icmp .ge 37, .iload 2, .ifCond .eq 37, .aload 0, .iload 1, .iload 3] 19 = x_iload 3 (x_aload 0 (x_g0 111 29 0 400 (x_if_icmp .ge 37 K (x_iload 2 (x_ifCond .eq 37 K (x_aload 0 (x_iload 1 (x_iload 3 (K 19))))))))) := ((xe_iload 3).trans (congrArg (x_iload 3) ((xe_aload 0).trans (congrArg (x_aload 0) ((xe_g0 (kk := 111) rfl tl_11_29).trans (congrArg (x_g0 111 29 0 400) ((xe_if_icmp .ge 37).trans (congrArg (x_if_icmp .ge 37 K) ((xe_iload 2).trans (congrArg (x_iload 2) ((xe_ifCond .eq 37).trans (congrArg (x_ifCond .eq 37 K) ((xe_aload 0).trans (congrArg (x_aload 0) ((xe_iload 1).trans (congrArg (x_iload 1) ((xe_iload 3).trans (congrArg (x_iload 3) xe_nil))))))))))))))))))
theorem bk_X11_nothingAgainst_f_37 : ck_ fX11 (some .boolean) cX11_nothingAgainst 37 [.iload 2, .ireturn] 39 = true := qck_r (nn_ _) (by decide +kernel)
theorem bs_X11_nothingAgainst_f_37 {P : Zt → Option Zv → Prop} (K : Int → Zl → List Zv → Zt → Prop) : sx_ K P [.iload 2, .ireturn] 39 = x_iload 2 (x_ireturn P) := ((xe_iload 2).trans (congrArg (x_iload 2) (xe_ireturn)))
theorem bk_X11_nothingAgainst_f_22 : ck_ fX11 (some .boolean) cX11_nothingAgainst 22 [.ifCond .ne 29, .iconst 1, .goto 30] 29 = true := qck_r (nn_ _) (by decide +kernel)
theorem bs_X11_nothingAgainst_f_22 {P : Zt → Option Zv → Prop} (K : Int → Zl → List Zv → Zt → Prop) : sx_ K P [.ifCond .ne 29, .iconst 1, .goto 30] 29 = x_ifCond .ne 29 K (x_iconst 1 (x_goto 30 K)) := ((xe_ifCond .ne 29).trans (congrArg (x_ifCond .ne 29 K) ((xe_iconst 1).trans (congrArg (x_iconst 1) (xe_goto 30)))))
theorem bk_X11_nothingAgainst_f_29 : ck_ fX11 (some .boolean) cX11_nothingAgainst 29 [.iconst 0, .istore 2, .iinc 3 1, .goto 4] 37 = true := qck_r (nn_ _) (by decide +kernel)
theorem bs_X11_nothingAgainst_f_29 {P : Zt → Option Zv → Prop} (K : Int → Zl → List Zv → Zt → Prop) : sx_ K P [.iconst 0, .istore 2, .iinc 3 1, .goto 4] 37 = x_iconst 0 (x_istore 2 (x_iinc 3 1 (x_goto 4 K))) := ((xe_iconst 0).trans (congrArg (x_iconst 0) ((xe_istore 2).trans (congrArg (x_istore 2) ((xe_iinc 3 1).trans (congrArg (x_iinc 3 1) (xe_goto 4)))))))
theorem bk_X11_nothingAgainst_f_30 : ck_ fX11 (some .boolean) cX11_nothingAgainst 30 [.istore 2, .iinc 3 1, .goto 4] 37 = true := qck_r (nn_ _) (by decide +kernel)
theorem bs_X11_nothingAgainst_f_30 {P : Zt → Option Zv → Prop} (K : Int → Zl → List Zv → Zt → Prop) : sx_ K P [.istore 2, .iinc 3 1, .goto 4] 37 = x_istore 2 (x_iinc 3 1 (x_goto 4 K)) := ((xe_istore 2).trans (congrArg (x_istore 2) ((xe_iinc 3 1).trans (congrArg (x_iinc 3 1) (xe_goto 4)))))
theorem bk_X11_nothingAgainst_f_0 : ck_ fX11 (some .boolean) cX11_nothingAgainst 0 [.iconst 1, .istore 2, .iconst 0, .istore 3] 4 = true := qck_r (nn_ _) (by decide +kernel)
theorem bs_X11_nothingAgainst_f_0 {P : Zt → Option Zv → Prop} (K : Int → Zl → List Zv → Zt → Prop) : sx_ K P [.iconst 1, .istore 2, .iconst 0, .istore 3] 4 = x_iconst 1 (x_istore 2 (x_iconst 0 (x_istore 3 (K 4)))) := ((xe_iconst 1).trans (congrArg (x_iconst 1) ((xe_istore 2).trans (congrArg (x_istore 2) ((xe_iconst 0).trans (congrArg (x_iconst 0) ((xe_istore 3).trans (congrArg (x_istore 3) xe_nil))))))))
abbrev po_X11_nothingAgainst_f (T : Zt) (m : Int) : Zt → Option Zv → Prop := fun T' r => T = T' ∧ ∃ x : Int, r = some (vI x) ∧ ((x = 1 ∧ ¬ BKR_ T (fun m => T 234 0 m) m (T 234 0 m)) ∨ (x = 0 ∧ BKR_ T (fun m => T 234 0 m) m (T 234 0 m)))
set_option maxHeartbeats 4000000 in
theorem ct_X11_nothingAgainst_f {T : Zt} {m : Int} (h1 : 0 ≤ m ∧ m < 400) : Ct_ yX11_nothingAgainst zX11_nothingAgainst T [vR 111 0, vI m] (po_X11_nothingAgainst_f T m) := by
  refine ct_of pn_11 rfl rfl (Nat.le_of_ble_eq_true rfl) (fun hT hav => ?_)
  have hr_m : -2147483648 ≤ m ∧ m ≤ 2147483647 := hav (vI m) (List.mem_cons_of_mem _ List.mem_cons_self)
  have hz : zX11_nothingAgainst.2.2.2.1 = some .boolean → ∀ (T' : Zt) (x : Int), po_X11_nothingAgainst_f T m T' (some (vI x)) → 0 ≤ x ∧ x ≤ 1 := fun _ T' x h => by obtain ⟨-, y, e, hy⟩ := h; cases e; rcases hy with z | z <;> (have := z.1; omega)
  have hb_29 : 0 ≤ T 111 0 29 ∧ T 111 0 29 ≤ 400 := bd_f hT 111 29 tl_11_29 0
  show J_ zX11_nothingAgainst T (po_X11_nothingAgainst_f T m) 0 0 0 [some (vR 111 0), some (vI m), none, none] [] T
  have c_4 : ∀ (nn : Nat) (no : Int) (k : Int), ((400 - k).toNat) ≤ nn → (0 ≤ k ∧ (k = 0 ∨ k ≤ T 111 0 29) ∧ 0 ≤ no ∧ no ≤ 1) → ((no = 1 ∧ (∀ j, 0 ≤ j → j < k → ¬ SAR_ T (fun m => T 234 0 m) m j (T 234 0 m))) ∨ (no = 0 ∧ BKR_ T (fun m => T 234 0 m) m (T 234 0 m))) → J_ zX11_nothingAgainst T (po_X11_nothingAgainst_f T m) 0 0 4 [some (vR 111 0), some (vI m), some (vI no), some (vI k)] [] T := by
    intro nn
    induction nn using Nat.strongRecOn with
    | _ nn ih_4 =>
      intro no k hm_4 i1 n1
      replace hm_4 := fun (_ : Unit) => hm_4
      refine j_blx (F := fX11) tb_X11 (nn_ _) bk_X11_nothingAgainst_f_4 bs_X11_nothingAgainst_f_4 hz (fun K hK => ?_)
      intro b1 b1b
      refine And.intro (fun c2 => ?_) (fun c2 => ?_)
      · refine hK 37 _ [] T ?_
        refine j_blx (F := fX11) tb_X11 (nn_ _) bk_X11_nothingAgainst_f_37 bs_X11_nothingAgainst_f_37 hz (fun K hK => ?_)
        refine (show po_X11_nothingAgainst_f T m T (some (vI no)) from ?_)
        refine ⟨rfl, _, rfl, ?_⟩
        rcases n1 with z | z
        · exact Or.inl ⟨z.1, fun ⟨j, a, b, c⟩ => z.2 j a (by omega) c⟩
        · exact Or.inr z
      · refine And.intro (fun c3 => ?_) (fun c3 => ?_)
        · refine hK 37 _ [] T ?_
          refine j_blx (F := fX11) tb_X11 (nn_ _) bk_X11_nothingAgainst_f_37 bs_X11_nothingAgainst_f_37 hz (fun K hK => ?_)
          refine (show po_X11_nothingAgainst_f T m T (some (vI no)) from ?_)
          refine ⟨rfl, _, rfl, ?_⟩
          rcases n1 with z | z
          · exact Or.inl ⟨z.1, fun ⟨j, a, b, c⟩ => z.2 j a (by omega) c⟩
          · exact Or.inr z
        · refine hK 19 _ [vI k, vI m, vR 111 0] T ?_
          refine j_callV (y := yX11_standAgainst) (Yc := zX11_standAgainst) (rest := []) [vI m, vI k] (ct_X11_standAgainst_f (T := T) (by omega) (by omega)) cl_X11_353 (qd_c (by decide +kernel)) (nn_ _) rfl (rf_of rfl) (Nat.le_of_ble_eq_true rfl) (Nat.le_of_ble_eq_true rfl) (Nat.le_of_ble_eq_true rfl) rfl ?_
          rintro _ _ ⟨rfl, x4, rfl, hx4⟩
          have bx4 : 0 ≤ x4 ∧ x4 ≤ 1 := by rcases hx4 with z | z <;> (have := z.1; omega)
          show J_ zX11_nothingAgainst T (po_X11_nothingAgainst_f T m) 0 0 22 _ [vI x4] T
          refine j_blx (F := fX11) tb_X11 (nn_ _) bk_X11_nothingAgainst_f_22 bs_X11_nothingAgainst_f_22 hz (fun K hK => ?_)
          refine And.intro (fun c5 => ?_) (fun c5 => ?_)
          · refine hK 29 _ [] T ?_
            refine j_blx (F := fX11) tb_X11 (nn_ _) bk_X11_nothingAgainst_f_29 bs_X11_nothingAgainst_f_29 hz (fun K hK => ?_)
            refine rg_i (by omega) ?_
            refine hK 4 [some (vR 111 0), some (vI m), some (vI 0), some (vI (k + 1))] [] T ?_
            refine ih_4 _ ?_ 0 (k + 1) (Nat.le_refl _) ?_ ?_
            · have hm_4 := hm_4 (); omega
            · omega
            · refine Or.inr ⟨rfl, k, by omega, by omega, ?_⟩
              rcases hx4 with y | y
              · exact y.2
              · omega
          · refine hK 30 [some (vR 111 0), some (vI m), some (vI no), some (vI k)] [vI 1] T ?_
            refine j_blx (F := fX11) tb_X11 (nn_ _) bk_X11_nothingAgainst_f_30 bs_X11_nothingAgainst_f_30 hz (fun K hK => ?_)
            refine rg_i (by omega) ?_
            refine hK 4 [some (vR 111 0), some (vI m), some (vI 1), some (vI (k + 1))] [] T ?_
            refine ih_4 _ ?_ 1 (k + 1) (Nat.le_refl _) ?_ ?_
            · have hm_4 := hm_4 (); omega
            · omega
            · refine Or.inl ⟨rfl, fun j a b c => ?_⟩
              by_cases z : j = k
              · rw [z] at c
                rcases hx4 with y | y
                · omega
                · exact y.2 c
              · exact (n1.resolve_right (fun y => by have := y.1; omega)).2 j a (by omega) c
  refine j_blx (F := fX11) tb_X11 (nn_ _) bk_X11_nothingAgainst_f_0 bs_X11_nothingAgainst_f_0 hz (fun K hK => ?_)
  refine hK 4 [some (vR 111 0), some (vI m), some (vI 1), some (vI 0)] [] T ?_
  refine c_4 _ 1 0 (Nat.le_refl _) ?_ ?_
  · omega
  · exact Or.inl ⟨rfl, fun j a b => by omega⟩
