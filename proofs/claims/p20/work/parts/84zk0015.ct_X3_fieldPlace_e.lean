theorem bk_X3_personAt_e_0 : ck_ fX3 (some .int) cX3_personAt 0 [.aload 0, .tableswitch 0 3 1 #[], .aload 0, .tableswitch 0 3 11 #[], .iload 1, .iconst 6, .imul, .iload 2, .iadd, .iaload, .iaload, .ireturn] 17 = true := qck_r (nn_ _) (by decide +kernel)
theorem bs_X3_personAt_e_0 {P : Zt → Option Zv → Prop} (K : Int → Zl → List Zv → Zt → Prop) : sx_ K P [.aload 0, .tableswitch 0 3 1 #[], .aload 0, .tableswitch 0 3 11 #[], .iload 1, .iconst 6, .imul, .iload 2, .iadd, .iaload, .iaload, .ireturn] 17 = x_aload 0 (x_g2 103 448 (x_aload 0 (x_g2 103 471 (x_iload 1 (x_iconst 6 (x_imul (x_iload 2 (x_iadd (x_iaload (x_iaload (x_ireturn P))))))))))) := ((xe_aload 0).trans (congrArg (x_aload 0) ((xe_g2 (kk := 103) rfl tl_3_1).trans (congrArg (x_g2 103 448) ((xe_aload 0).trans (congrArg (x_aload 0) ((xe_g2 (kk := 103) rfl tl_3_11).trans (congrArg (x_g2 103 471) ((xe_iload 1).trans (congrArg (x_iload 1) ((xe_iconst 6).trans (congrArg (x_iconst 6) ((xe_imul).trans (congrArg (x_imul) ((xe_iload 2).trans (congrArg (x_iload 2) ((xe_iadd).trans (congrArg (x_iadd) ((xe_iaload).trans (congrArg (x_iaload) ((xe_iaload).trans (congrArg (x_iaload) (xe_ireturn)))))))))))))))))))))))
abbrev po_X3_personAt_e (T : Zt) (p : Int) (s k : Int) : Zt → Option Zv → Prop := fun T' r => T = T' ∧ r = some (vI (T 448 p (T 471 p (s * 6 + k))))
set_option maxHeartbeats 4000000 in
theorem ct_X3_personAt_e {T : Zt} {p : Int} {s k : Int} (hs : 0 ≤ s ∧ s ≤ 1) (h1 : 0 ≤ k ∧ k < 6) : Ct_ yX3_personAt zX3_personAt T [vR 103 p, vI s, vI k] (po_X3_personAt_e T p s k) := by
  refine ct_of pn_3 rfl rfl (Nat.le_of_ble_eq_true rfl) (fun hT hav => ?_)
  have hr_s : -2147483648 ≤ s ∧ s ≤ 2147483647 := hav (vI s) (List.mem_cons_of_mem _ List.mem_cons_self)
  have hr_k : -2147483648 ≤ k ∧ k ≤ 2147483647 := hav (vI k) (List.mem_cons_of_mem _ (List.mem_cons_of_mem _ List.mem_cons_self))
  have hz : zX3_personAt.2.2.2.1 = some .boolean → ∀ (T' : Zt) (x : Int), po_X3_personAt_e T p s k T' (some (vI x)) → 0 ≤ x ∧ x ≤ 1 := fun h => by cases h
  show J_ zX3_personAt T (po_X3_personAt_e T p s k) 0 0 0 [some (vR 103 p), some (vI s), some (vI k)] [] T
  refine j_blx (F := fX3) tb_X3 (nn_ _) bk_X3_personAt_e_0 bs_X3_personAt_e_0 hz (fun K hK => ?_)
  refine rg_i (by omega) ?_
  refine rg_i (by omega) ?_
  refine ix_i (by omega) ?_
  intro b1 b1b
  refine ix_i (by omega) ?_
  intro b2 b2b
  refine (show po_X3_personAt_e T p s k T (some (vI (T 448 p (T 471 p ((s * 6) + k))))) from ?_)
  exact ⟨rfl, rfl⟩
theorem bk_X3_fieldPlace_e_2 : ck_ fX3 (some .int) cX3_fieldPlace 2 [.iload 3, .aload 0, .tableswitch 0 3 10 #[], .iload 1, .iaload, .if_icmp .ge 30, .aload 0, .iload 1, .iload 3] 15 = true := qck_r (nn_ _) (by decide +kernel)
theorem bs_X3_fieldPlace_e_2 {P : Zt → Option Zv → Prop} (K : Int → Zl → List Zv → Zt → Prop) : sx_ K P [.iload 3, .aload 0, .tableswitch 0 3 10 #[], .iload 1, .iaload, .if_icmp .ge 30, .aload 0, .iload 1, .iload 3] 15 = x_iload 3 (x_aload 0 (x_g2 103 470 (x_iload 1 (x_iaload (x_if_icmp .ge 30 K (x_aload 0 (x_iload 1 (x_iload 3 (K 15))))))))) := ((xe_iload 3).trans (congrArg (x_iload 3) ((xe_aload 0).trans (congrArg (x_aload 0) ((xe_g2 (kk := 103) rfl tl_3_10).trans (congrArg (x_g2 103 470) ((xe_iload 1).trans (congrArg (x_iload 1) ((xe_iaload).trans (congrArg (x_iaload) ((xe_if_icmp .ge 30).trans (congrArg (x_if_icmp .ge 30 K) ((xe_aload 0).trans (congrArg (x_aload 0) ((xe_iload 1).trans (congrArg (x_iload 1) ((xe_iload 3).trans (congrArg (x_iload 3) xe_nil))))))))))))))))))
theorem bk_X3_fieldPlace_e_30 : ck_ fX3 (some .int) cX3_fieldPlace 30 [.iconst (-1), .ireturn] 32 = true := qck_r (nn_ _) (by decide +kernel)
theorem bs_X3_fieldPlace_e_30 {P : Zt → Option Zv → Prop} (K : Int → Zl → List Zv → Zt → Prop) : sx_ K P [.iconst (-1), .ireturn] 32 = x_iconst (-1) (x_ireturn P) := ((xe_iconst (-1)).trans (congrArg (x_iconst (-1)) (xe_ireturn)))
theorem bk_X3_fieldPlace_e_18 : ck_ fX3 (some .int) cX3_fieldPlace 18 [.iload 2, .if_icmp .ne 24, .iload 3, .ireturn] 24 = true := qck_r (nn_ _) (by decide +kernel)
theorem bs_X3_fieldPlace_e_18 {P : Zt → Option Zv → Prop} (K : Int → Zl → List Zv → Zt → Prop) : sx_ K P [.iload 2, .if_icmp .ne 24, .iload 3, .ireturn] 24 = x_iload 2 (x_if_icmp .ne 24 K (x_iload 3 (x_ireturn P))) := ((xe_iload 2).trans (congrArg (x_iload 2) ((xe_if_icmp .ne 24).trans (congrArg (x_if_icmp .ne 24 K) ((xe_iload 3).trans (congrArg (x_iload 3) (xe_ireturn)))))))
theorem bk_X3_fieldPlace_e_24 : ck_ fX3 (some .int) cX3_fieldPlace 24 [.iinc 3 1, .goto 2] 30 = true := qck_r (nn_ _) (by decide +kernel)
theorem bs_X3_fieldPlace_e_24 {P : Zt → Option Zv → Prop} (K : Int → Zl → List Zv → Zt → Prop) : sx_ K P [.iinc 3 1, .goto 2] 30 = x_iinc 3 1 (x_goto 2 K) := ((xe_iinc 3 1).trans (congrArg (x_iinc 3 1) (xe_goto 2)))
theorem bk_X3_fieldPlace_e_0 : ck_ fX3 (some .int) cX3_fieldPlace 0 [.iconst 0, .istore 3] 2 = true := qck_r (nn_ _) (by decide +kernel)
theorem bs_X3_fieldPlace_e_0 {P : Zt → Option Zv → Prop} (K : Int → Zl → List Zv → Zt → Prop) : sx_ K P [.iconst 0, .istore 3] 2 = x_iconst 0 (x_istore 3 (K 2)) := ((xe_iconst 0).trans (congrArg (x_iconst 0) ((xe_istore 3).trans (congrArg (x_istore 3) xe_nil))))
abbrev po_X3_fieldPlace_e (T : Zt) (p : Int) (s q : Int) : Zt → Option Zv → Prop := fun T' r => T = T' ∧ r = some (vI (fp9_ (rs9_ T p) s q))
set_option maxHeartbeats 4000000 in
theorem ct_X3_fieldPlace_e {T : Zt} {p : Int} {s q : Int} (hs : 0 ≤ s ∧ s ≤ 1) : Ct_ yX3_fieldPlace zX3_fieldPlace T [vR 103 p, vI s, vI q] (po_X3_fieldPlace_e T p s q) := by
  refine ct_of pn_3 rfl rfl (Nat.le_of_ble_eq_true rfl) (fun hT hav => ?_)
  have hr_s : -2147483648 ≤ s ∧ s ≤ 2147483647 := hav (vI s) (List.mem_cons_of_mem _ List.mem_cons_self)
  have hr_q : -2147483648 ≤ q ∧ q ≤ 2147483647 := hav (vI q) (List.mem_cons_of_mem _ (List.mem_cons_of_mem _ List.mem_cons_self))
  have hz : zX3_fieldPlace.2.2.2.1 = some .boolean → ∀ (T' : Zt) (x : Int), po_X3_fieldPlace_e T p s q T' (some (vI x)) → 0 ≤ x ∧ x ≤ 1 := fun h => by cases h
  have hfd : 0 ≤ T 470 p s ∧ T 470 p s ≤ 6 := bd_a hT 470 (by decide +kernel : ta_ 470 = some (1, some 2, 0, 6)) p (by omega)
  show J_ zX3_fieldPlace T (po_X3_fieldPlace_e T p s q) 0 0 0 [some (vR 103 p), some (vI s), some (vI q), none] [] T
  have c_2 : ∀ (nn : Nat) (k : Int), ((6 - k).toNat) ≤ nn → (0 ≤ k) → (fp9_ (rs9_ T p) s q = fpn_ (rs9_ T p) s q (T 470 p s - k).toNat k) → J_ zX3_fieldPlace T (po_X3_fieldPlace_e T p s q) 0 0 2 [some (vR 103 p), some (vI s), some (vI q), some (vI k)] [] T := by
    intro nn
    induction nn using Nat.strongRecOn with
    | _ nn ih_2 =>
      intro k hm_2 i1 ifp
      replace hm_2 := fun (_ : Unit) => hm_2
      refine j_blx (F := fX3) tb_X3 (nn_ _) bk_X3_fieldPlace_e_2 bs_X3_fieldPlace_e_2 hz (fun K hK => ?_)
      refine ix_i (by omega) ?_
      intro b1 b1b
      refine And.intro (fun c2 => ?_) (fun c2 => ?_)
      · refine hK 30 _ [] T ?_
        refine j_blx (F := fX3) tb_X3 (nn_ _) bk_X3_fieldPlace_e_30 bs_X3_fieldPlace_e_30 hz (fun K hK => ?_)
        refine (show po_X3_fieldPlace_e T p s q T (some (vI (-1))) from ?_)
        have e9 : fp9_ (rs9_ T p) s q = -1 := by rw [ifp, show (T 470 p s - k).toNat = 0 by omega]; rfl
        exact ⟨rfl, by rw [e9]⟩
      · refine hK 15 _ [vI k, vI s, vR 103 p] T ?_
        refine j_callV (y := yX3_personAt) (Yc := zX3_personAt) (rest := []) [vI s, vI k] (ct_X3_personAt_e (T := T) (by omega) (by omega)) cl_X3_92 (qd_c (by decide +kernel)) (nn_ _) rfl (rf_of rfl) (Nat.le_of_ble_eq_true rfl) (Nat.le_of_ble_eq_true rfl) (Nat.le_of_ble_eq_true rfl) rfl ?_
        rintro _ _ ⟨rfl, rfl⟩
        show J_ zX3_fieldPlace T (po_X3_fieldPlace_e T p s q) 0 0 18 _ [vI (T 448 p (T 471 p (s * 6 + k)))] T
        refine j_blx (F := fX3) tb_X3 (nn_ _) bk_X3_fieldPlace_e_18 bs_X3_fieldPlace_e_18 hz (fun K hK => ?_)
        refine And.intro (fun c3 => ?_) (fun c3 => ?_)
        · refine hK 24 _ [] T ?_
          refine j_blx (F := fX3) tb_X3 (nn_ _) bk_X3_fieldPlace_e_24 bs_X3_fieldPlace_e_24 hz (fun K hK => ?_)
          refine rg_i (by omega) ?_
          refine hK 2 [some (vR 103 p), some (vI s), some (vI q), some (vI (k + 1))] [] T ?_
          refine ih_2 _ ?_ (k + 1) (Nat.le_refl _) ?_ ?_
          · have hm_2 := hm_2 (); omega
          · omega
          · rw [ifp, show (T 470 p s - k).toNat = (T 470 p s - (k + 1)).toNat + 1 by omega]
            exact fpn_f (a := rs9_ T p) (show T 448 p (T 471 p (s * 6 + k)) ≠ q by omega)
        · refine (show po_X3_fieldPlace_e T p s q T (some (vI k)) from ?_)
          have e9 : fp9_ (rs9_ T p) s q = k := by rw [ifp, show (T 470 p s - k).toNat = (T 470 p s - (k + 1)).toNat + 1 by omega]; exact fpn_t (a := rs9_ T p) (show T 448 p (T 471 p (s * 6 + k)) = q by omega)
          exact ⟨rfl, by rw [e9]⟩
  refine j_blx (F := fX3) tb_X3 (nn_ _) bk_X3_fieldPlace_e_0 bs_X3_fieldPlace_e_0 hz (fun K hK => ?_)
  refine hK 2 [some (vR 103 p), some (vI s), some (vI q), some (vI 0)] [] T ?_
  refine c_2 _ 0 (Nat.le_refl _) ?_ ?_
  · omega
  · rw [show T 470 p s - 0 = T 470 p s by omega]
    (try rfl)
