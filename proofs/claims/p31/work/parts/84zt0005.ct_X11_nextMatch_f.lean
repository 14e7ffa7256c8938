theorem bk_X11_nextMatch_f_88 : ck_ fX11 (some .int) cX11_nextMatch 88 [.iload 4] 90 = true := qck_r (nn_ _) (by decide +kernel)
theorem bs_X11_nextMatch_f_88 {P : Zt → Option Zv → Prop} (K : Int → Zl → List Zv → Zt → Prop) : sx_ K P [.iload 4] 90 = x_iload 4 (K 90) := ((xe_iload 4).trans (congrArg (x_iload 4) xe_nil))
theorem bk_X11_nextMatch_f_83 : ck_ fX11 (some .int) cX11_nextMatch 83 [.iload 5, .goto 90] 88 = true := qck_r (nn_ _) (by decide +kernel)
theorem bs_X11_nextMatch_f_83 {P : Zt → Option Zv → Prop} (K : Int → Zl → List Zv → Zt → Prop) : sx_ K P [.iload 5, .goto 90] 88 = x_iload 5 (x_goto 90 K) := ((xe_iload 5).trans (congrArg (x_iload 5) (xe_goto 90)))
theorem bk_X11_nextMatch_f_80 : ck_ fX11 (some .int) cX11_nextMatch 80 [.ifCond .eq 88, .iload 5, .goto 90] 88 = true := qck_r (nn_ _) (by decide +kernel)
theorem bs_X11_nextMatch_f_80 {P : Zt → Option Zv → Prop} (K : Int → Zl → List Zv → Zt → Prop) : sx_ K P [.ifCond .eq 88, .iload 5, .goto 90] 88 = x_ifCond .eq 88 K (x_iload 5 (x_goto 90 K)) := ((xe_ifCond .eq 88).trans (congrArg (x_ifCond .eq 88 K) ((xe_iload 5).trans (congrArg (x_iload 5) (xe_goto 90)))))
theorem bk_X11_nextMatch_f_11 : ck_ fX11 (some .int) cX11_nextMatch 11 [.iload 5, .aload 0, .tableswitch 0 11 10 #[], .iload 1, .iaload, .aload 0, .tableswitch 0 11 11 #[], .iload 1, .iaload, .iadd, .if_icmp .ge 98, .iload 2, .iconst (-1), .if_icmp .eq 44, .aload 0, .iload 2, .iload 5] 38 = true := qck_r (nn_ _) (by decide +kernel)
theorem bs_X11_nextMatch_f_11 {P : Zt → Option Zv → Prop} (K : Int → Zl → List Zv → Zt → Prop) : sx_ K P [.iload 5, .aload 0, .tableswitch 0 11 10 #[], .iload 1, .iaload, .aload 0, .tableswitch 0 11 11 #[], .iload 1, .iaload, .iadd, .if_icmp .ge 98, .iload 2, .iconst (-1), .if_icmp .eq 44, .aload 0, .iload 2, .iload 5] 38 = x_iload 5 (x_aload 0 (x_g1 111 210 (x_iload 1 (x_iaload (x_aload 0 (x_g1 111 211 (x_iload 1 (x_iaload (x_iadd (x_if_icmp .ge 98 K (x_iload 2 (x_iconst (-1) (x_if_icmp .eq 44 K (x_aload 0 (x_iload 2 (x_iload 5 (K 38))))))))))))))))) := ((xe_iload 5).trans (congrArg (x_iload 5) ((xe_aload 0).trans (congrArg (x_aload 0) ((xe_g1 (kk := 111) rfl tl_11_10).trans (congrArg (x_g1 111 210) ((xe_iload 1).trans (congrArg (x_iload 1) ((xe_iaload).trans (congrArg (x_iaload) ((xe_aload 0).trans (congrArg (x_aload 0) ((xe_g1 (kk := 111) rfl tl_11_11).trans (congrArg (x_g1 111 211) ((xe_iload 1).trans (congrArg (x_iload 1) ((xe_iaload).trans (congrArg (x_iaload) ((xe_iadd).trans (congrArg (x_iadd) ((xe_if_icmp .ge 98).trans (congrArg (x_if_icmp .ge 98 K) ((xe_iload 2).trans (congrArg (x_iload 2) ((xe_iconst (-1)).trans (congrArg (x_iconst (-1)) ((xe_if_icmp .eq 44).trans (congrArg (x_if_icmp .eq 44 K) ((xe_aload 0).trans (congrArg (x_aload 0) ((xe_iload 2).trans (congrArg (x_iload 2) ((xe_iload 5).trans (congrArg (x_iload 5) xe_nil))))))))))))))))))))))))))))))))))
theorem bk_X11_nextMatch_f_98 : ck_ fX11 (some .int) cX11_nextMatch 98 [.iload 4, .ireturn] 101 = true := qck_r (nn_ _) (by decide +kernel)
theorem bs_X11_nextMatch_f_98 {P : Zt → Option Zv → Prop} (K : Int → Zl → List Zv → Zt → Prop) : sx_ K P [.iload 4, .ireturn] 101 = x_iload 4 (x_ireturn P) := ((xe_iload 4).trans (congrArg (x_iload 4) (xe_ireturn)))
theorem bk_X11_nextMatch_f_44 : ck_ fX11 (some .int) cX11_nextMatch 44 [.aload 0, .iload 5, .iload 3] 48 = true := qck_r (nn_ _) (by decide +kernel)
theorem bs_X11_nextMatch_f_44 {P : Zt → Option Zv → Prop} (K : Int → Zl → List Zv → Zt → Prop) : sx_ K P [.aload 0, .iload 5, .iload 3] 48 = x_aload 0 (x_iload 5 (x_iload 3 (K 48))) := ((xe_aload 0).trans (congrArg (x_aload 0) ((xe_iload 5).trans (congrArg (x_iload 5) ((xe_iload 3).trans (congrArg (x_iload 3) xe_nil))))))
theorem bk_X11_nextMatch_f_51 : ck_ fX11 (some .int) cX11_nextMatch 51 [.ifCond .eq 58, .iconst 1, .goto 59] 58 = true := qck_r (nn_ _) (by decide +kernel)
theorem bs_X11_nextMatch_f_51 {P : Zt → Option Zv → Prop} (K : Int → Zl → List Zv → Zt → Prop) : sx_ K P [.ifCond .eq 58, .iconst 1, .goto 59] 58 = x_ifCond .eq 58 K (x_iconst 1 (x_goto 59 K)) := ((xe_ifCond .eq 58).trans (congrArg (x_ifCond .eq 58 K) ((xe_iconst 1).trans (congrArg (x_iconst 1) (xe_goto 59)))))
theorem bk_X11_nextMatch_f_58 : ck_ fX11 (some .int) cX11_nextMatch 58 [.iconst 0] 59 = true := qck_r (nn_ _) (by decide +kernel)
theorem bs_X11_nextMatch_f_58 {P : Zt → Option Zv → Prop} (K : Int → Zl → List Zv → Zt → Prop) : sx_ K P [.iconst 0] 59 = x_iconst 0 (K 59) := ((xe_iconst 0).trans (congrArg (x_iconst 0) xe_nil))
theorem bk_X11_nextMatch_f_41 : ck_ fX11 (some .int) cX11_nextMatch 41 [.ifCond .eq 58, .aload 0, .iload 5, .iload 3] 48 = true := qck_r (nn_ _) (by decide +kernel)
theorem bs_X11_nextMatch_f_41 {P : Zt → Option Zv → Prop} (K : Int → Zl → List Zv → Zt → Prop) : sx_ K P [.ifCond .eq 58, .aload 0, .iload 5, .iload 3] 48 = x_ifCond .eq 58 K (x_aload 0 (x_iload 5 (x_iload 3 (K 48)))) := ((xe_ifCond .eq 58).trans (congrArg (x_ifCond .eq 58 K) ((xe_aload 0).trans (congrArg (x_aload 0) ((xe_iload 5).trans (congrArg (x_iload 5) ((xe_iload 3).trans (congrArg (x_iload 3) xe_nil))))))))
theorem bk_X11_nextMatch_f_0 : ck_ fX11 (some .int) cX11_nextMatch 0 [.iconst (-1), .istore 4, .aload 0, .tableswitch 0 11 10 #[], .iload 1, .iaload, .istore 5] 11 = true := qck_r (nn_ _) (by decide +kernel)
theorem bs_X11_nextMatch_f_0 {P : Zt → Option Zv → Prop} (K : Int → Zl → List Zv → Zt → Prop) : sx_ K P [.iconst (-1), .istore 4, .aload 0, .tableswitch 0 11 10 #[], .iload 1, .iaload, .istore 5] 11 = x_iconst (-1) (x_istore 4 (x_aload 0 (x_g1 111 210 (x_iload 1 (x_iaload (x_istore 5 (K 11))))))) := ((xe_iconst (-1)).trans (congrArg (x_iconst (-1)) ((xe_istore 4).trans (congrArg (x_istore 4) ((xe_aload 0).trans (congrArg (x_aload 0) ((xe_g1 (kk := 111) rfl tl_11_10).trans (congrArg (x_g1 111 210) ((xe_iload 1).trans (congrArg (x_iload 1) ((xe_iaload).trans (congrArg (x_iaload) ((xe_istore 5).trans (congrArg (x_istore 5) xe_nil))))))))))))))
abbrev po_X11_nextMatch_f (T : Zt) (c be ah : Int) : Zt → Option Zv → Prop := fun T' r => T = T' ∧ ∃ x : Int, r = some (vI x) ∧ ((x = -1 ∨ (0 ≤ x ∧ x < 400)) ∧ NXM_ (fun m => T 234 0 m) (T 210 0 c) (T 211 0 c) (cz_ (be = -1) (-1) (T 234 0 be * 400 + be)) (T 234 0 ah * 400 + ah) x)
set_option maxHeartbeats 4000000 in
theorem ct_X11_nextMatch_f {T : Zt} {c be ah : Int} (h1 : 0 ≤ c ∧ c < 4) (h2 : T 210 0 c + T 211 0 c ≤ 400) (h3 : -1 ≤ be ∧ be < 400) (h4 : 0 ≤ ah ∧ ah < 400) : Ct_ yX11_nextMatch zX11_nextMatch T [vR 111 0, vI c, vI be, vI ah] (po_X11_nextMatch_f T c be ah) := by
  refine ct_of pn_11 rfl rfl (Nat.le_of_ble_eq_true rfl) (fun hT hav => ?_)
  have hr_c : -2147483648 ≤ c ∧ c ≤ 2147483647 := hav (vI c) (List.mem_cons_of_mem _ List.mem_cons_self)
  have hr_be : -2147483648 ≤ be ∧ be ≤ 2147483647 := hav (vI be) (List.mem_cons_of_mem _ (List.mem_cons_of_mem _ List.mem_cons_self))
  have hr_ah : -2147483648 ≤ ah ∧ ah ≤ 2147483647 := hav (vI ah) (List.mem_cons_of_mem _ (List.mem_cons_of_mem _ (List.mem_cons_of_mem _ List.mem_cons_self)))
  have hz : zX11_nextMatch.2.2.2.1 = some .boolean → ∀ (T' : Zt) (x : Int), po_X11_nextMatch_f T c be ah T' (some (vI x)) → 0 ≤ x ∧ x ≤ 1 := fun h => by cases h
  have hfo : 0 ≤ T 210 0 c ∧ T 210 0 c ≤ 400 := bd_a hT 210 (by decide +kernel : ta_ 210 = some (1, some 4, 0, 400)) 0 (by omega)
  have hmo : 0 ≤ T 211 0 c ∧ T 211 0 c ≤ 400 := bd_a hT 211 (by decide +kernel : ta_ 211 = some (1, some 4, 0, 400)) 0 (by omega)
  have hlo : (be = -1 ∧ (cz_ (be = -1) (-1) (T 234 0 be * 400 + be)) = -1) ∨ (be ≠ -1 ∧ 0 ≤ be ∧ (cz_ (be = -1) (-1) (T 234 0 be * 400 + be)) = T 234 0 be * 400 + be) := by
    by_cases z : be = -1
    · exact Or.inl ⟨z, cz_t z⟩
    · exact Or.inr ⟨z, by omega, cz_f z⟩
  have hda : 0 ≤ T 234 0 ah ∧ T 234 0 ah ≤ 999 := bd_a hT 234 (by decide +kernel : ta_ 234 = some (1, some 400, 0, 999)) 0 (by omega)
  have hde : be = -1 ∨ (0 ≤ T 234 0 be ∧ T 234 0 be ≤ 999) := by
    by_cases z : be = -1
    · exact Or.inl z
    · exact Or.inr (bd_a hT 234 (by decide +kernel : ta_ 234 = some (1, some 400, 0, 999)) 0 (by omega))
  show J_ zX11_nextMatch T (po_X11_nextMatch_f T c be ah) 0 0 0 [some (vR 111 0), some (vI c), some (vI be), some (vI ah), none, none, none] [] T
  have c_11 : ∀ (nn : Nat) (bs : Int) (m : Int), ((400 - m).toNat) ≤ nn → (T 210 0 c ≤ m ∧ 0 ≤ m ∧ -1 ≤ bs ∧ bs < 400 ∧ m ≤ T 210 0 c + T 211 0 c) → (NXM_ (fun m => T 234 0 m) (T 210 0 c) (m - T 210 0 c) (cz_ (be = -1) (-1) (T 234 0 be * 400 + be)) (T 234 0 ah * 400 + ah) bs) → J_ zX11_nextMatch T (po_X11_nextMatch_f T c be ah) 0 0 11 [some (vR 111 0), some (vI c), some (vI be), some (vI ah), some (vI bs), some (vI m), none] [] T := by
    intro nn
    induction nn using Nat.strongRecOn with
    | _ nn ih_11 =>
      intro bs m hm_11 i1 i3
      replace hm_11 := fun (_ : Unit) => hm_11
      have c_90 : ∀ (w : Int), (m < T 210 0 c + T 211 0 c ∧ -1 ≤ w ∧ w < 400) → (NXM_ (fun m => T 234 0 m) (T 210 0 c) (m + 1 - T 210 0 c) (cz_ (be = -1) (-1) (T 234 0 be * 400 + be)) (T 234 0 ah * 400 + ah) w) → J_ zX11_nextMatch T (po_X11_nextMatch_f T c be ah) 0 0 90 [some (vR 111 0), some (vI c), some (vI be), some (vI ah), some (vI bs), some (vI m), none] [vI w] T := by
        intro w w0 w3
        refine j_blx (F := fX11) tb_X11 (nn_ _) bk_X11_nextMatch_f_90 bs_X11_nextMatch_f_90 hz (fun K hK => ?_)
        refine rg_i (by omega) ?_
        refine hK 11 [some (vR 111 0), some (vI c), some (vI be), some (vI ah), some (vI w), some (vI (m + 1)), none] [] T ?_
        refine ih_11 _ ?_ w (m + 1) (Nat.le_refl _) ?_ ?_
        · have hm_11 := hm_11 (); omega
        · omega
        · exact w3
      have c_59 : ∀ (v : Int), (m < T 210 0 c + T 211 0 c) → ((v = 1 ∧ ((cz_ (be = -1) (-1) (T 234 0 be * 400 + be)) < T 234 0 m * 400 + m ∧ T 234 0 m * 400 + m < T 234 0 ah * 400 + ah)) ∨ (v = 0 ∧ ¬ ((cz_ (be = -1) (-1) (T 234 0 be * 400 + be)) < T 234 0 m * 400 + m ∧ T 234 0 m * 400 + m < T 234 0 ah * 400 + ah))) → J_ zX11_nextMatch T (po_X11_nextMatch_f T c be ah) 0 0 59 [some (vR 111 0), some (vI c), some (vI be), some (vI ah), some (vI bs), some (vI m), none] [vI v] T := by
        intro v v0 v1
        refine j_blx (F := fX11) tb_X11 (nn_ _) bk_X11_nextMatch_f_59 bs_X11_nextMatch_f_59 hz (fun K hK => ?_)
        refine And.intro (fun c1 => ?_) (fun c1 => ?_)
        · refine hK 88 [some (vR 111 0), some (vI c), some (vI be), some (vI ah), some (vI bs), some (vI m), some (vI v)] [] T ?_
          refine j_blx (F := fX11) tb_X11 (nn_ _) bk_X11_nextMatch_f_88 bs_X11_nextMatch_f_88 hz (fun K hK => ?_)
          refine hK 90 _ [vI bs] T ?_
          refine j_drop [some (vR 111 0), some (vI c), some (vI be), some (vI ah), some (vI bs), some (vI m), none] (fun k v hk => ?_) rfl ?_
          · match k, hk with
            | 0, hk => exact hk
            | 1, hk => exact hk
            | 2, hk => exact hk
            | 3, hk => exact hk
            | 4, hk => exact hk
            | 5, hk => exact hk
            | 6, hk => cases hk
            | k + 7, hk => cases hk
          refine c_90 bs ?_ ?_
          · omega
          · have z9 : NXM_ (fun m => T 234 0 m) (T 210 0 c) (m - T 210 0 c + 1) (cz_ (be = -1) (-1) (T 234 0 be * 400 + be)) (T 234 0 ah * 400 + ah) bs := nxm_k i3 (by rw [show T 210 0 c + (m - T 210 0 c) = m from Int.le_antisymm (by omega) (by omega)]; omega)
            rw [show m + 1 - T 210 0 c = m - T 210 0 c + 1 from Int.le_antisymm (by omega) (by omega)]
            exact z9
        · refine And.intro (fun c2 => ?_) (fun c2 => ?_)
          · refine hK 83 [some (vR 111 0), some (vI c), some (vI be), some (vI ah), some (vI bs), some (vI m), some (vI v)] [] T ?_
            refine j_blx (F := fX11) tb_X11 (nn_ _) bk_X11_nextMatch_f_83 bs_X11_nextMatch_f_83 hz (fun K hK => ?_)
            refine hK 90 _ [vI m] T ?_
            refine j_drop [some (vR 111 0), some (vI c), some (vI be), some (vI ah), some (vI bs), some (vI m), none] (fun k v hk => ?_) rfl ?_
            · match k, hk with
              | 0, hk => exact hk
              | 1, hk => exact hk
              | 2, hk => exact hk
              | 3, hk => exact hk
              | 4, hk => exact hk
              | 5, hk => exact hk
              | 6, hk => cases hk
              | k + 7, hk => cases hk
            refine c_90 m ?_ ?_
            · omega
            · have z9 : NXM_ (fun m => T 234 0 m) (T 210 0 c) (m - T 210 0 c + 1) (cz_ (be = -1) (-1) (T 234 0 be * 400 + be)) (T 234 0 ah * 400 + ah) (T 210 0 c + (m - T 210 0 c)) := nxm_t i3 (by omega) (by omega) (by rw [show T 210 0 c + (m - T 210 0 c) = m from Int.le_antisymm (by omega) (by omega)]; omega) (by rw [show T 210 0 c + (m - T 210 0 c) = m from Int.le_antisymm (by omega) (by omega)]; omega)
              rw [show T 210 0 c + (m - T 210 0 c) = m from Int.le_antisymm (by omega) (by omega)] at z9
              rw [show m + 1 - T 210 0 c = m - T 210 0 c + 1 from Int.le_antisymm (by omega) (by omega)]
              exact z9
          · refine hK 77 [some (vR 111 0), some (vI c), some (vI be), some (vI ah), some (vI bs), some (vI m), some (vI v)] [vI bs, vI m, vR 111 0] T ?_
            refine j_callV (y := yX11_isAhead) (Yc := zX11_isAhead) (rest := []) [vI m, vI bs] (ct_X11_isAhead (T := T) (by omega) (by omega)) cl_X11_368 (qd_c (by decide +kernel)) (nn_ _) rfl (rf_of rfl) (Nat.le_of_ble_eq_true rfl) (Nat.le_of_ble_eq_true rfl) (Nat.le_of_ble_eq_true rfl) rfl ?_
            rintro _ _ ⟨rfl, x3, rfl, hx3⟩
            show J_ zX11_nextMatch T (po_X11_nextMatch_f T c be ah) 0 0 80 _ [vI x3] T
            refine j_blx (F := fX11) tb_X11 (nn_ _) bk_X11_nextMatch_f_80 bs_X11_nextMatch_f_80 hz (fun K hK => ?_)
            refine And.intro (fun c4 => ?_) (fun c4 => ?_)
            · replace hx3 := hx3.resolve_left (fun z => absurd (c4.symm.trans z.1) (by decide))
              clear c4
              refine hK 88 _ [] T ?_
              refine j_blx (F := fX11) tb_X11 (nn_ _) bk_X11_nextMatch_f_88 bs_X11_nextMatch_f_88 hz (fun K hK => ?_)
              refine hK 90 _ [vI bs] T ?_
              refine j_drop [some (vR 111 0), some (vI c), some (vI be), some (vI ah), some (vI bs), some (vI m), none] (fun k v hk => ?_) rfl ?_
              · match k, hk with
                | 0, hk => exact hk
                | 1, hk => exact hk
                | 2, hk => exact hk
                | 3, hk => exact hk
                | 4, hk => exact hk
                | 5, hk => exact hk
                | 6, hk => cases hk
                | k + 7, hk => cases hk
              refine c_90 bs ?_ ?_
              · omega
              · have z9 : NXM_ (fun m => T 234 0 m) (T 210 0 c) (m - T 210 0 c + 1) (cz_ (be = -1) (-1) (T 234 0 be * 400 + be)) (T 234 0 ah * 400 + ah) bs := nxm_k i3 (by rw [show T 210 0 c + (m - T 210 0 c) = m from Int.le_antisymm (by omega) (by omega)]; omega)
                rw [show m + 1 - T 210 0 c = m - T 210 0 c + 1 from Int.le_antisymm (by omega) (by omega)]
                exact z9
            · replace hx3 := hx3.resolve_right (fun z => c4 z.1)
              clear c4
              refine hK 90 [some (vR 111 0), some (vI c), some (vI be), some (vI ah), some (vI bs), some (vI m), some (vI v)] [vI m] T ?_
              refine j_drop [some (vR 111 0), some (vI c), some (vI be), some (vI ah), some (vI bs), some (vI m), none] (fun k v hk => ?_) rfl ?_
              · match k, hk with
                | 0, hk => exact hk
                | 1, hk => exact hk
                | 2, hk => exact hk
                | 3, hk => exact hk
                | 4, hk => exact hk
                | 5, hk => exact hk
                | 6, hk => cases hk
                | k + 7, hk => cases hk
              refine c_90 m ?_ ?_
              · omega
              · have z9 : NXM_ (fun m => T 234 0 m) (T 210 0 c) (m - T 210 0 c + 1) (cz_ (be = -1) (-1) (T 234 0 be * 400 + be)) (T 234 0 ah * 400 + ah) (T 210 0 c + (m - T 210 0 c)) := nxm_t i3 (by omega) (by omega) (by rw [show T 210 0 c + (m - T 210 0 c) = m from Int.le_antisymm (by omega) (by omega)]; omega) (by rw [show T 210 0 c + (m - T 210 0 c) = m from Int.le_antisymm (by omega) (by omega)]; omega)
                rw [show T 210 0 c + (m - T 210 0 c) = m from Int.le_antisymm (by omega) (by omega)] at z9
                rw [show m + 1 - T 210 0 c = m - T 210 0 c + 1 from Int.le_antisymm (by omega) (by omega)]
                exact z9
      refine j_blx (F := fX11) tb_X11 (nn_ _) bk_X11_nextMatch_f_11 bs_X11_nextMatch_f_11 hz (fun K hK => ?_)
      refine ix_i (by omega) ?_
      intro b5 b5b
      refine ix_i (by omega) ?_
      intro b6 b6b
      refine rg_i (by omega) ?_
      refine And.intro (fun c7 => ?_) (fun c7 => ?_)
      · refine hK 98 _ [] T ?_
        refine j_blx (F := fX11) tb_X11 (nn_ _) bk_X11_nextMatch_f_98 bs_X11_nextMatch_f_98 hz (fun K hK => ?_)
        refine (show po_X11_nextMatch_f T c be ah T (some (vI bs)) from ?_)
        have z9 : NXM_ (fun m => T 234 0 m) (T 210 0 c) (T 211 0 c) (cz_ (be = -1) (-1) (T 234 0 be * 400 + be)) (T 234 0 ah * 400 + ah) bs := by rw [show T 211 0 c = m - T 210 0 c from Int.le_antisymm (by omega) (by omega)]; exact i3
        exact ⟨rfl, _, rfl, by omega, z9⟩
      · have hdm : 0 ≤ T 234 0 m ∧ T 234 0 m ≤ 999 := bd_a hT 234 (by decide +kernel : ta_ 234 = some (1, some 400, 0, 999)) 0 (by omega)
        have hdb : bs = -1 ∨ (0 ≤ T 234 0 bs ∧ T 234 0 bs ≤ 999) := by
          by_cases z : bs = -1
          · exact Or.inl z
          · exact Or.inr (bd_a hT 234 (by decide +kernel : ta_ 234 = some (1, some 400, 0, 999)) 0 (by omega))
        refine And.intro (fun c8 => ?_) (fun c8 => ?_)
        · refine hK 44 _ [] T ?_
          refine j_blx (F := fX11) tb_X11 (nn_ _) bk_X11_nextMatch_f_44 bs_X11_nextMatch_f_44 hz (fun K hK => ?_)
          refine hK 48 _ [vI ah, vI m, vR 111 0] T ?_
          refine j_callV (y := yX11_isAhead) (Yc := zX11_isAhead) (rest := []) [vI m, vI ah] (ct_X11_isAhead (T := T) (by omega) (by omega)) cl_X11_368 (qd_c (by decide +kernel)) (nn_ _) rfl (rf_of rfl) (Nat.le_of_ble_eq_true rfl) (Nat.le_of_ble_eq_true rfl) (Nat.le_of_ble_eq_true rfl) rfl ?_
          rintro _ _ ⟨rfl, x9, rfl, hx9⟩
          show J_ zX11_nextMatch T (po_X11_nextMatch_f T c be ah) 0 0 51 _ [vI x9] T
          refine j_blx (F := fX11) tb_X11 (nn_ _) bk_X11_nextMatch_f_51 bs_X11_nextMatch_f_51 hz (fun K hK => ?_)
          refine And.intro (fun c10 => ?_) (fun c10 => ?_)
          · replace hx9 := hx9.resolve_left (fun z => absurd (c10.symm.trans z.1) (by decide))
            clear c10
            refine hK 58 _ [] T ?_
            refine j_blx (F := fX11) tb_X11 (nn_ _) bk_X11_nextMatch_f_58 bs_X11_nextMatch_f_58 hz (fun K hK => ?_)
            refine hK 59 _ [vI 0] T ?_
            refine c_59 0 ?_ ?_
            · omega
            · omega
          · replace hx9 := hx9.resolve_right (fun z => c10 z.1)
            clear c10
            refine hK 59 _ [vI 1] T ?_
            refine c_59 1 ?_ ?_
            · omega
            · omega
        · refine hK 38 _ [vI m, vI be, vR 111 0] T ?_
          refine j_callV (y := yX11_isAhead) (Yc := zX11_isAhead) (rest := []) [vI be, vI m] (ct_X11_isAhead (T := T) (by omega) (by omega)) cl_X11_368 (qd_c (by decide +kernel)) (nn_ _) rfl (rf_of rfl) (Nat.le_of_ble_eq_true rfl) (Nat.le_of_ble_eq_true rfl) (Nat.le_of_ble_eq_true rfl) rfl ?_
          rintro _ _ ⟨rfl, x11, rfl, hx11⟩
          show J_ zX11_nextMatch T (po_X11_nextMatch_f T c be ah) 0 0 41 _ [vI x11] T
          refine j_blx (F := fX11) tb_X11 (nn_ _) bk_X11_nextMatch_f_41 bs_X11_nextMatch_f_41 hz (fun K hK => ?_)
          refine And.intro (fun c12 => ?_) (fun c12 => ?_)
          · replace hx11 := hx11.resolve_left (fun z => absurd (c12.symm.trans z.1) (by decide))
            clear c12
            refine hK 58 _ [] T ?_
            refine j_blx (F := fX11) tb_X11 (nn_ _) bk_X11_nextMatch_f_58 bs_X11_nextMatch_f_58 hz (fun K hK => ?_)
            refine hK 59 _ [vI 0] T ?_
            refine c_59 0 ?_ ?_
            · omega
            · omega
          · replace hx11 := hx11.resolve_right (fun z => c12 z.1)
            clear c12
            refine hK 48 _ [vI ah, vI m, vR 111 0] T ?_
            refine j_callV (y := yX11_isAhead) (Yc := zX11_isAhead) (rest := []) [vI m, vI ah] (ct_X11_isAhead (T := T) (by omega) (by omega)) cl_X11_368 (qd_c (by decide +kernel)) (nn_ _) rfl (rf_of rfl) (Nat.le_of_ble_eq_true rfl) (Nat.le_of_ble_eq_true rfl) (Nat.le_of_ble_eq_true rfl) rfl ?_
            rintro _ _ ⟨rfl, x13, rfl, hx13⟩
            show J_ zX11_nextMatch T (po_X11_nextMatch_f T c be ah) 0 0 51 _ [vI x13] T
            refine j_blx (F := fX11) tb_X11 (nn_ _) bk_X11_nextMatch_f_51 bs_X11_nextMatch_f_51 hz (fun K hK => ?_)
            refine And.intro (fun c14 => ?_) (fun c14 => ?_)
            · replace hx13 := hx13.resolve_left (fun z => absurd (c14.symm.trans z.1) (by decide))
              clear c14
              refine hK 58 _ [] T ?_
              refine j_blx (F := fX11) tb_X11 (nn_ _) bk_X11_nextMatch_f_58 bs_X11_nextMatch_f_58 hz (fun K hK => ?_)
              refine hK 59 _ [vI 0] T ?_
              refine c_59 0 ?_ ?_
              · omega
              · omega
            · replace hx13 := hx13.resolve_right (fun z => c14 z.1)
              clear c14
              refine hK 59 _ [vI 1] T ?_
              refine c_59 1 ?_ ?_
              · omega
              · omega
  refine j_blx (F := fX11) tb_X11 (nn_ _) bk_X11_nextMatch_f_0 bs_X11_nextMatch_f_0 hz (fun K hK => ?_)
  refine ix_i (by omega) ?_
  intro b15 b15b
  refine hK 11 [some (vR 111 0), some (vI c), some (vI be), some (vI ah), some (vI (-1)), some (vI (T 210 0 c)), none] [] T ?_
  refine c_11 _ (-1) (T 210 0 c) (Nat.le_refl _) ?_ ?_
  · omega
  · rw [show T 210 0 c - T 210 0 c = 0 from Int.le_antisymm (by omega) (by omega)]
    exact nxm_0
