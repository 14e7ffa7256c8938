theorem bk_X3_backToBeginning_e_99 : ck_ fX3 none cX3_backToBeginning 99 [.iload 2, .aload 0, .tableswitch 0 3 0 #[], .iconst 9, .iaload, .if_icmp .ge 145, .aload 0, .tableswitch 0 3 11 #[], .iload 1, .iconst 6, .imul, .iload 2, .iadd, .iload 1, .iconst 10, .imul, .iload 2, .iadd, .iastore, .aload 0, .tableswitch 0 3 12 #[], .iload 1, .iconst 10, .imul, .iload 2, .iadd, .iconst 1, .iastore, .iinc 2 1, .goto 99] 145 = true := qck_r (nn_ _) (by decide +kernel)
theorem bs_X3_backToBeginning_e_99 {P : Zt → Option Zv → Prop} (K : Int → Zl → List Zv → Zt → Prop) : sx_ K P [.iload 2, .aload 0, .tableswitch 0 3 0 #[], .iconst 9, .iaload, .if_icmp .ge 145, .aload 0, .tableswitch 0 3 11 #[], .iload 1, .iconst 6, .imul, .iload 2, .iadd, .iload 1, .iconst 10, .imul, .iload 2, .iadd, .iastore, .aload 0, .tableswitch 0 3 12 #[], .iload 1, .iconst 10, .imul, .iload 2, .iadd, .iconst 1, .iastore, .iinc 2 1, .goto 99] 145 = x_iload 2 (x_aload 0 (x_g3 103 401 0 (x_iconst 9 (x_iaload (x_if_icmp .ge 145 K (x_aload 0 (x_g2 103 471 (x_iload 1 (x_iconst 6 (x_imul (x_iload 2 (x_iadd (x_iload 1 (x_iconst 10 (x_imul (x_iload 2 (x_iadd (x_iastore (x_aload 0 (x_g2 103 472 (x_iload 1 (x_iconst 10 (x_imul (x_iload 2 (x_iadd (x_iconst 1 (x_iastore (x_iinc 2 1 (x_goto 99 K))))))))))))))))))))))))))))) := ((xe_iload 2).trans (congrArg (x_iload 2) ((xe_aload 0).trans (congrArg (x_aload 0) ((xe_g3 (kk := 103) rfl tl_3_0).trans (congrArg (x_g3 103 401 0) ((xe_iconst 9).trans (congrArg (x_iconst 9) ((xe_iaload).trans (congrArg (x_iaload) ((xe_if_icmp .ge 145).trans (congrArg (x_if_icmp .ge 145 K) ((xe_aload 0).trans (congrArg (x_aload 0) ((xe_g2 (kk := 103) rfl tl_3_11).trans (congrArg (x_g2 103 471) ((xe_iload 1).trans (congrArg (x_iload 1) ((xe_iconst 6).trans (congrArg (x_iconst 6) ((xe_imul).trans (congrArg (x_imul) ((xe_iload 2).trans (congrArg (x_iload 2) ((xe_iadd).trans (congrArg (x_iadd) ((xe_iload 1).trans (congrArg (x_iload 1) ((xe_iconst 10).trans (congrArg (x_iconst 10) ((xe_imul).trans (congrArg (x_imul) ((xe_iload 2).trans (congrArg (x_iload 2) ((xe_iadd).trans (congrArg (x_iadd) ((xe_iastore).trans (congrArg (x_iastore) ((xe_aload 0).trans (congrArg (x_aload 0) ((xe_g2 (kk := 103) rfl tl_3_12).trans (congrArg (x_g2 103 472) ((xe_iload 1).trans (congrArg (x_iload 1) ((xe_iconst 10).trans (congrArg (x_iconst 10) ((xe_imul).trans (congrArg (x_imul) ((xe_iload 2).trans (congrArg (x_iload 2) ((xe_iadd).trans (congrArg (x_iadd) ((xe_iconst 1).trans (congrArg (x_iconst 1) ((xe_iastore).trans (congrArg (x_iastore) ((xe_iinc 2 1).trans (congrArg (x_iinc 2 1) (xe_goto 99)))))))))))))))))))))))))))))))))))))))))))))))))))))))))))
theorem bk_X3_backToBeginning_e_145 : ck_ fX3 none cX3_backToBeginning 145 [.iinc 1 1, .goto 79] 151 = true := qck_r (nn_ _) (by decide +kernel)
theorem bs_X3_backToBeginning_e_145 {P : Zt → Option Zv → Prop} (K : Int → Zl → List Zv → Zt → Prop) : sx_ K P [.iinc 1 1, .goto 79] 151 = x_iinc 1 1 (x_goto 79 K) := ((xe_iinc 1 1).trans (congrArg (x_iinc 1 1) (xe_goto 79)))
theorem bk_X3_backToBeginning_e_79 : ck_ fX3 none cX3_backToBeginning 79 [.iload 1, .iconst 2, .if_icmp .ge 151, .aload 0, .tableswitch 0 3 10 #[], .iload 1, .aload 0, .tableswitch 0 3 0 #[], .iconst 9, .iaload, .iastore, .iconst 0, .istore 2] 99 = true := qck_r (nn_ _) (by decide +kernel)
theorem bs_X3_backToBeginning_e_79 {P : Zt → Option Zv → Prop} (K : Int → Zl → List Zv → Zt → Prop) : sx_ K P [.iload 1, .iconst 2, .if_icmp .ge 151, .aload 0, .tableswitch 0 3 10 #[], .iload 1, .aload 0, .tableswitch 0 3 0 #[], .iconst 9, .iaload, .iastore, .iconst 0, .istore 2] 99 = x_iload 1 (x_iconst 2 (x_if_icmp .ge 151 K (x_aload 0 (x_g2 103 470 (x_iload 1 (x_aload 0 (x_g3 103 401 0 (x_iconst 9 (x_iaload (x_iastore (x_iconst 0 (x_istore 2 (K 99))))))))))))) := ((xe_iload 1).trans (congrArg (x_iload 1) ((xe_iconst 2).trans (congrArg (x_iconst 2) ((xe_if_icmp .ge 151).trans (congrArg (x_if_icmp .ge 151 K) ((xe_aload 0).trans (congrArg (x_aload 0) ((xe_g2 (kk := 103) rfl tl_3_10).trans (congrArg (x_g2 103 470) ((xe_iload 1).trans (congrArg (x_iload 1) ((xe_aload 0).trans (congrArg (x_aload 0) ((xe_g3 (kk := 103) rfl tl_3_0).trans (congrArg (x_g3 103 401 0) ((xe_iconst 9).trans (congrArg (x_iconst 9) ((xe_iaload).trans (congrArg (x_iaload) ((xe_iastore).trans (congrArg (x_iastore) ((xe_iconst 0).trans (congrArg (x_iconst 0) ((xe_istore 2).trans (congrArg (x_istore 2) xe_nil))))))))))))))))))))))))))
theorem bk_X3_backToBeginning_e_151 : ck_ fX3 none cX3_backToBeginning 151 [.return_] 152 = true := qck_r (nn_ _) (by decide +kernel)
theorem bs_X3_backToBeginning_e_151 {P : Zt → Option Zv → Prop} (K : Int → Zl → List Zv → Zt → Prop) : sx_ K P [.return_] 152 = x_return_ P := (xe_return_)
theorem bk_X3_backToBeginning_e_0 : ck_ fX3 none cX3_backToBeginning 0 [.aload 0, .iconst 0, .tableswitch 1 3 3 #[], .aload 0, .iconst 0, .tableswitch 1 3 4 #[], .aload 0, .aload 0, .tableswitch 0 3 0 #[], .iconst 0, .iaload, .iconst 3, .if_icmp .ne 25, .iconst 1, .goto 26] 25 = true := qck_r (nn_ _) (by decide +kernel)
theorem bs_X3_backToBeginning_e_0 {P : Zt → Option Zv → Prop} (K : Int → Zl → List Zv → Zt → Prop) : sx_ K P [.aload 0, .iconst 0, .tableswitch 1 3 3 #[], .aload 0, .iconst 0, .tableswitch 1 3 4 #[], .aload 0, .aload 0, .tableswitch 0 3 0 #[], .iconst 0, .iaload, .iconst 3, .if_icmp .ne 25, .iconst 1, .goto 26] 25 = x_aload 0 (x_iconst 0 (x_p 103 3 0 1 (x_aload 0 (x_iconst 0 (x_p 103 4 (-2147483648) 2147483647 (x_aload 0 (x_aload 0 (x_g3 103 401 0 (x_iconst 0 (x_iaload (x_iconst 3 (x_if_icmp .ne 25 K (x_iconst 1 (x_goto 26 K)))))))))))))) := ((xe_aload 0).trans (congrArg (x_aload 0) ((xe_iconst 0).trans (congrArg (x_iconst 0) ((xe_p (kk := 103) rfl tl_3_3).trans (congrArg (x_p 103 3 0 1) ((xe_aload 0).trans (congrArg (x_aload 0) ((xe_iconst 0).trans (congrArg (x_iconst 0) ((xe_p (kk := 103) rfl tl_3_4).trans (congrArg (x_p 103 4 (-2147483648) 2147483647) ((xe_aload 0).trans (congrArg (x_aload 0) ((xe_aload 0).trans (congrArg (x_aload 0) ((xe_g3 (kk := 103) rfl tl_3_0).trans (congrArg (x_g3 103 401 0) ((xe_iconst 0).trans (congrArg (x_iconst 0) ((xe_iaload).trans (congrArg (x_iaload) ((xe_iconst 3).trans (congrArg (x_iconst 3) ((xe_if_icmp .ne 25).trans (congrArg (x_if_icmp .ne 25 K) ((xe_iconst 1).trans (congrArg (x_iconst 1) (xe_goto 26)))))))))))))))))))))))))))))
theorem bk_X3_backToBeginning_e_25 : ck_ fX3 none cX3_backToBeginning 25 [.iconst 0, .tableswitch 1 3 5 #[], .aload 0, .tableswitch 0 3 6 #[], .iconst 0] 34 = true := qck_r (nn_ _) (by decide +kernel)
theorem bs_X3_backToBeginning_e_25 {P : Zt → Option Zv → Prop} (K : Int → Zl → List Zv → Zt → Prop) : sx_ K P [.iconst 0, .tableswitch 1 3 5 #[], .aload 0, .tableswitch 0 3 6 #[], .iconst 0] 34 = x_iconst 0 (x_p 103 5 0 1 (x_aload 0 (x_g2 103 466 (x_iconst 0 (K 34))))) := ((xe_iconst 0).trans (congrArg (x_iconst 0) ((xe_p (kk := 103) rfl tl_3_5).trans (congrArg (x_p 103 5 0 1) ((xe_aload 0).trans (congrArg (x_aload 0) ((xe_g2 (kk := 103) rfl tl_3_6).trans (congrArg (x_g2 103 466) ((xe_iconst 0).trans (congrArg (x_iconst 0) xe_nil))))))))))
theorem bk_X3_backToBeginning_e_37 : ck_ fX3 none cX3_backToBeginning 37 [.aload 0, .tableswitch 0 3 7 #[], .iconst 0] 42 = true := qck_r (nn_ _) (by decide +kernel)
theorem bs_X3_backToBeginning_e_37 {P : Zt → Option Zv → Prop} (K : Int → Zl → List Zv → Zt → Prop) : sx_ K P [.aload 0, .tableswitch 0 3 7 #[], .iconst 0] 42 = x_aload 0 (x_g2 103 467 (x_iconst 0 (K 42))) := ((xe_aload 0).trans (congrArg (x_aload 0) ((xe_g2 (kk := 103) rfl tl_3_7).trans (congrArg (x_g2 103 467) ((xe_iconst 0).trans (congrArg (x_iconst 0) xe_nil))))))
theorem bk_X3_backToBeginning_e_45 : ck_ fX3 none cX3_backToBeginning 45 [.aload 0, .tableswitch 0 3 8 #[], .iconst 0] 50 = true := qck_r (nn_ _) (by decide +kernel)
theorem bs_X3_backToBeginning_e_45 {P : Zt → Option Zv → Prop} (K : Int → Zl → List Zv → Zt → Prop) : sx_ K P [.aload 0, .tableswitch 0 3 8 #[], .iconst 0] 50 = x_aload 0 (x_g2 103 468 (x_iconst 0 (K 50))) := ((xe_aload 0).trans (congrArg (x_aload 0) ((xe_g2 (kk := 103) rfl tl_3_8).trans (congrArg (x_g2 103 468) ((xe_iconst 0).trans (congrArg (x_iconst 0) xe_nil))))))
theorem bk_X3_backToBeginning_e_53 : ck_ fX3 none cX3_backToBeginning 53 [.aload 0, .tableswitch 0 3 9 #[], .iconst 0] 58 = true := qck_r (nn_ _) (by decide +kernel)
theorem bs_X3_backToBeginning_e_53 {P : Zt → Option Zv → Prop} (K : Int → Zl → List Zv → Zt → Prop) : sx_ K P [.aload 0, .tableswitch 0 3 9 #[], .iconst 0] 58 = x_aload 0 (x_g2 103 469 (x_iconst 0 (K 58))) := ((xe_aload 0).trans (congrArg (x_aload 0) ((xe_g2 (kk := 103) rfl tl_3_9).trans (congrArg (x_g2 103 469) ((xe_iconst 0).trans (congrArg (x_iconst 0) xe_nil))))))
theorem bk_X3_backToBeginning_e_61 : ck_ fX3 none cX3_backToBeginning 61 [.aload 0, .tableswitch 0 3 12 #[], .iconst 0] 66 = true := qck_r (nn_ _) (by decide +kernel)
theorem bs_X3_backToBeginning_e_61 {P : Zt → Option Zv → Prop} (K : Int → Zl → List Zv → Zt → Prop) : sx_ K P [.aload 0, .tableswitch 0 3 12 #[], .iconst 0] 66 = x_aload 0 (x_g2 103 472 (x_iconst 0 (K 66))) := ((xe_aload 0).trans (congrArg (x_aload 0) ((xe_g2 (kk := 103) rfl tl_3_12).trans (congrArg (x_g2 103 472) ((xe_iconst 0).trans (congrArg (x_iconst 0) xe_nil))))))
theorem bk_X3_backToBeginning_e_69 : ck_ fX3 none cX3_backToBeginning 69 [.aload 0, .tableswitch 0 3 13 #[], .iconst 0] 74 = true := qck_r (nn_ _) (by decide +kernel)
theorem bs_X3_backToBeginning_e_69 {P : Zt → Option Zv → Prop} (K : Int → Zl → List Zv → Zt → Prop) : sx_ K P [.aload 0, .tableswitch 0 3 13 #[], .iconst 0] 74 = x_aload 0 (x_g2 103 473 (x_iconst 0 (K 74))) := ((xe_aload 0).trans (congrArg (x_aload 0) ((xe_g2 (kk := 103) rfl tl_3_13).trans (congrArg (x_g2 103 473) ((xe_iconst 0).trans (congrArg (x_iconst 0) xe_nil))))))
theorem bk_X3_backToBeginning_e_77 : ck_ fX3 none cX3_backToBeginning 77 [.iconst 0, .istore 1] 79 = true := qck_r (nn_ _) (by decide +kernel)
theorem bs_X3_backToBeginning_e_77 {P : Zt → Option Zv → Prop} (K : Int → Zl → List Zv → Zt → Prop) : sx_ K P [.iconst 0, .istore 1] 79 = x_iconst 0 (x_istore 1 (K 79)) := ((xe_iconst 0).trans (congrArg (x_iconst 0) ((xe_istore 1).trans (congrArg (x_istore 1) xe_nil))))
theorem bk_X3_backToBeginning_e_26 : ck_ fX3 none cX3_backToBeginning 26 [.tableswitch 1 3 5 #[], .aload 0, .tableswitch 0 3 6 #[], .iconst 0] 34 = true := qck_r (nn_ _) (by decide +kernel)
theorem bs_X3_backToBeginning_e_26 {P : Zt → Option Zv → Prop} (K : Int → Zl → List Zv → Zt → Prop) : sx_ K P [.tableswitch 1 3 5 #[], .aload 0, .tableswitch 0 3 6 #[], .iconst 0] 34 = x_p 103 5 0 1 (x_aload 0 (x_g2 103 466 (x_iconst 0 (K 34)))) := ((xe_p (kk := 103) rfl tl_3_5).trans (congrArg (x_p 103 5 0 1) ((xe_aload 0).trans (congrArg (x_aload 0) ((xe_g2 (kk := 103) rfl tl_3_6).trans (congrArg (x_g2 103 466) ((xe_iconst 0).trans (congrArg (x_iconst 0) xe_nil))))))))
abbrev po_X3_backToBeginning_e (T : Zt) (p : Int) (ru : Int → Int) : Zt → Option Zv → Prop := fun T' r => r = none ∧ fr_ [(103, [3, 4, 5]), (466, []), (467, []), (468, []), (469, []), (472, []), (473, []), (470, []), (471, [])] T T' ∧ (oi_ T T' p ∧ ((1 ≤ T' 470 p 0 ∧ 1 ≤ T' 470 p 1) ∧ T' 103 p 3 = 0) ∧ rs9_ T' p = bb9_ ru (rs9_ T p))
set_option maxHeartbeats 4000000 in
theorem ct_X3_backToBeginning_e {T : Zt} {p : Int} {ru : Int → Int} (hr : RLP_ T p ru) (hf : 1 ≤ T 401 (T 103 p 0) 9 ∧ T 401 (T 103 p 0) 9 ≤ 6) : Ct_ yX3_backToBeginning zX3_backToBeginning T [vR 103 p] (po_X3_backToBeginning_e T p ru) := by
  refine ct_of pn_3 rfl rfl (Nat.le_of_ble_eq_true rfl) (fun hT hav => ?_)
  have hz : zX3_backToBeginning.2.2.2.1 = some .boolean → ∀ (T' : Zt) (x : Int), po_X3_backToBeginning_e T p ru T' (some (vI x)) → 0 ≤ x ∧ x ≤ 1 := fun h => by cases h
  have hr0 := hr 0 (by decide) (by decide)
  have hr9 := hr 9 (by decide) (by decide)
  have hr10 := hr 10 (by decide) (by decide)
  have hr11 := hr 11 (by decide) (by decide)
  have hr12 := hr 12 (by decide) (by decide)
  show J_ zX3_backToBeginning T (po_X3_backToBeginning_e T p ru) 0 0 0 [some (vR 103 p), none, none] [] T
  have c_79 : ∀ (nn : Nat) (s : Int) (T1 : Zt), ((2 - s).toNat) ≤ nn → (fr_ [(103, [3, 4, 5]), (466, []), (467, []), (468, []), (469, []), (472, []), (473, []), (470, []), (471, [])] T T1) → (0 ≤ s ∧ s ≤ 2 ∧ T1 103 p 3 = 0) → (oi_ T T1 p) → (∀ j, 0 ≤ j → j < s → 1 ≤ T1 470 p j) → (rs9_ T1 p = os9_ (bi9_ (rs9_ T p) (cz_ (ru 0 = 3) 1 0)) (ru 9) s.toNat) → J_ zX3_backToBeginning T (po_X3_backToBeginning_e T p ru) 0 0 79 [some (vR 103 p), some (vI s), none] [] T1 := by
    intro nn
    induction nn using Nat.strongRecOn with
    | _ nn ih_79 =>
      intro s T1 hm_79 hf_79 i1 o1 fb1 ob1
      replace hm_79 := fun (_ : Unit) => hm_79
      have c_99 : ∀ (nn : Nat) (k : Int) (T2 : Zt), ((6 - k).toNat) ≤ nn → (fr_ [(103, [3, 4, 5]), (466, []), (467, []), (468, []), (469, []), (472, []), (473, []), (470, []), (471, [])] T T2) → (0 ≤ k ∧ s < 2 ∧ T2 103 p 3 = 0 ∧ k ≤ ru 9) → (oi_ T T2 p) → (∀ j, 0 ≤ j → j < s + 1 → 1 ≤ T2 470 p j) → (rs9_ T2 p = bl9_ (u2_ (os9_ (bi9_ (rs9_ T p) (cz_ (ru 0 = 3) 1 0)) (ru 9) s.toNat) 470 s (ru 9)) s k) → J_ zX3_backToBeginning T (po_X3_backToBeginning_e T p ru) 0 0 99 [some (vR 103 p), some (vI s), some (vI k)] [] T2 := by
        intro nn
        induction nn using Nat.strongRecOn with
        | _ nn ih_99 =>
          intro k T2 hm_99 hf_99 i2 o2 fb2 ob2
          replace hm_99 := fun (_ : Unit) => hm_99
          refine j_blx (F := fX3) tb_X3 (nn_ _) bk_X3_backToBeginning_e_99 bs_X3_backToBeginning_e_99 hz (fun K hK => ?_)
          have e2 : T2 103 p 0 = T 103 p 0 := hf_99 103 p 0 rfl
          refine ix_i (by omega) ?_
          intro b3 b3b
          have e4 : T2 401 (T 103 p 0) 9 = T 401 (T 103 p 0) 9 := hf_99 401 (T 103 p 0) 9 rfl
          have e5 : T2 401 (T2 103 p 0) 9 = T 401 (T 103 p 0) 9 := by rw [e2]; exact e4
          rw [e5] at b3 b3b ⊢
          refine And.intro (fun c6 => ?_) (fun c6 => ?_)
          · refine hK 145 _ [] T2 ?_
            refine j_blx (F := fX3) tb_X3 (nn_ _) bk_X3_backToBeginning_e_145 bs_X3_backToBeginning_e_145 hz (fun K hK => ?_)
            refine rg_i (by omega) ?_
            refine hK 79 [some (vR 103 p), some (vI (s + 1)), some (vI k)] [] T2 ?_
            refine j_drop [some (vR 103 p), some (vI (s + 1)), none] (fun k v hk => ?_) rfl ?_
            · match k, hk with
              | 0, hk => exact hk
              | 1, hk => exact hk
              | 2, hk => cases hk
              | k + 3, hk => cases hk
            refine ih_79 _ ?_ (s + 1) T2 (Nat.le_refl _) ?_ ?_ ?_ ?_ ?_
            · have hm_79 := hm_79 (); omega
            · exact fr_t (fr_0 _ _) (fr_s hf_99 rfl)
            · omega
            · exact o2
            · intro j a b
              exact fb2 j a (by omega)
            · rw [os9_s (by omega)]
              rw [show k = ru 9 by omega] at ob2
              exact ob2
          · refine rg_i (by omega) ?_
            refine rg_i (by omega) ?_
            refine rg_i (by omega) ?_
            refine rg_i (by omega) ?_
            refine iy_i (by omega) (by omega) ?_
            refine x_nm (fun U7 hU7 => ?_)
            have e8 := up_f hU7
            refine rg_i (by omega) ?_
            refine rg_i (by omega) ?_
            refine iy_i (by omega) (by omega) ?_
            refine x_nm (fun U9 hU9 => ?_)
            have e10 := up_f hU9
            refine rg_i (by omega) ?_
            refine hK 99 [some (vR 103 p), some (vI s), some (vI (k + 1))] [] U9 ?_
            have e11 : U9 103 p 3 = T2 103 p 3 := (up_k hU9 (by exact Nat.ne_of_beq_eq_false rfl) p 3).trans (up_k hU7 (by exact Nat.ne_of_beq_eq_false rfl) p 3)
            refine ih_99 _ ?_ (k + 1) U9 (Nat.le_refl _) ?_ ?_ ?_ ?_ ?_
            · have hm_99 := hm_99 (); omega
            · exact fr_u (fr_u (fr_t (fr_0 _ _) (fr_s hf_99 rfl)) hU7 rfl) hU9 rfl
            · omega
            · exact oi_u (oi_u (o2) hU7) hU9
            · intro j a b
              rw [(up_k hU9 (by exact Nat.ne_of_beq_eq_false rfl) p j).trans (up_k hU7 (by exact Nat.ne_of_beq_eq_false rfl) p j)]
              exact fb2 j a b
            · rw [rs_u hU9 rfl, rs_u hU7 rfl, ob2]
              exact bl9_s (by omega)
      refine j_blx (F := fX3) tb_X3 (nn_ _) bk_X3_backToBeginning_e_79 bs_X3_backToBeginning_e_79 hz (fun K hK => ?_)
      refine And.intro (fun c12 => ?_) (fun c12 => ?_)
      · refine hK 151 _ [] T1 ?_
        refine j_blx (F := fX3) tb_X3 (nn_ _) bk_X3_backToBeginning_e_151 bs_X3_backToBeginning_e_151 hz (fun K hK => ?_)
        refine (show po_X3_backToBeginning_e T p ru T1 (none) from ?_)
        have es : s = 2 := by omega
        rw [es] at ob1
        exact ⟨rfl, fr_t (fr_0 _ _) (fr_s hf_79 rfl), o1, ⟨⟨fb1 0 (by omega) (by omega), fb1 1 (by omega) (by omega)⟩, by omega⟩, ob1⟩
      · have e14 : T1 103 p 0 = T 103 p 0 := hf_79 103 p 0 rfl
        refine ix_i (by omega) ?_
        intro b15 b15b
        have e16 : T1 401 (T 103 p 0) 9 = T 401 (T 103 p 0) 9 := hf_79 401 (T 103 p 0) 9 rfl
        have e17 : T1 401 (T1 103 p 0) 9 = T 401 (T 103 p 0) 9 := by rw [e14]; exact e16
        rw [e17] at b15 b15b ⊢
        refine iy_i (by omega) (by omega) ?_
        refine x_nm (fun U18 hU18 => ?_)
        have e19 := up_f hU18
        refine hK 99 [some (vR 103 p), some (vI s), some (vI 0)] [] U18 ?_
        have e20 : U18 103 p 3 = T1 103 p 3 := up_k hU18 (by exact Nat.ne_of_beq_eq_false rfl) p 3
        refine c_99 _ 0 U18 (Nat.le_refl _) ?_ ?_ ?_ ?_ ?_
        · exact fr_u (fr_t (fr_0 _ _) (fr_s hf_79 rfl)) hU18 rfl
        · omega
        · exact oi_u (o1) hU18
        · intro j a b
          by_cases z : j = s
          · rw [z, up_f hU18]; omega
          · rw [up_g hU18 (fun y => z y.2.2)]; exact fb1 j a (by omega)
        · rw [rs_u hU18 rfl, ob1, bl9_0, hr9]
  refine j_blx (F := fX3) tb_X3 (nn_ _) bk_X3_backToBeginning_e_0 bs_X3_backToBeginning_e_0 hz (fun K hK => ?_)
  refine bd_i (by omega) ?_
  refine x_nm (fun U21 hU21 => ?_)
  have e22 := up_f hU21
  refine bd_i (by omega) ?_
  refine x_nm (fun U23 hU23 => ?_)
  have e24 := up_f hU23
  have e26 : U23 103 p 0 = T 103 p 0 := (up_j hU23 (by decide) 103 p).trans (up_j hU21 (by decide) 103 p)
  refine ix_i (by omega) ?_
  intro b27 b27b
  have e28 : U23 401 (T 103 p 0) 0 = T 401 (T 103 p 0) 0 := (up_k hU23 (by exact Nat.ne_of_beq_eq_false rfl) (T 103 p 0) 0).trans (up_k hU21 (by exact Nat.ne_of_beq_eq_false rfl) (T 103 p 0) 0)
  have e29 : U23 401 (U23 103 p 0) 0 = T 401 (T 103 p 0) 0 := by rw [e26]; exact e28
  rw [e29] at b27 b27b ⊢
  refine And.intro (fun c30 => ?_) (fun c30 => ?_)
  · refine hK 25 _ [vR 103 p] U23 ?_
    refine j_blx (F := fX3) tb_X3 (nn_ _) bk_X3_backToBeginning_e_25 bs_X3_backToBeginning_e_25 hz (fun K hK => ?_)
    refine bd_i (by omega) ?_
    refine x_nm (fun U31 hU31 => ?_)
    have e32 := up_f hU31
    refine hK 34 _ [vI 0, vR 466 p] U31 ?_
    refine j_callS (y := yJ7_fill_53178) (Yc := zJ7_fill_53178) (rest := []) [vR 466 p, vI 0] (ct_J7_fill_466_e (T := U31) (by omega)) cl_X3_62 (qd_c (by decide +kernel)) (nn_ _) rfl (rf_of rfl) (Nat.le_of_ble_eq_true rfl) (Nat.le_of_ble_eq_true rfl) (Nat.le_of_ble_eq_true rfl) rfl ?_
    rintro U33 _ ⟨rfl, fU33, qU33o, qU33, qU33e⟩
    show J_ zX3_backToBeginning T (po_X3_backToBeginning_e T p ru) 0 0 37 _ [] U33
    refine j_blx (F := fX3) tb_X3 (nn_ _) bk_X3_backToBeginning_e_37 bs_X3_backToBeginning_e_37 hz (fun K hK => ?_)
    refine hK 42 _ [vI 0, vR 467 p] U33 ?_
    refine j_callS (y := yJ7_fill_53178) (Yc := zJ7_fill_53178) (rest := []) [vR 467 p, vI 0] (ct_J7_fill_467_e (T := U33) (by omega)) cl_X3_62 (qd_c (by decide +kernel)) (nn_ _) rfl (rf_of rfl) (Nat.le_of_ble_eq_true rfl) (Nat.le_of_ble_eq_true rfl) (Nat.le_of_ble_eq_true rfl) rfl ?_
    rintro U34 _ ⟨rfl, fU34, qU34o, qU34, qU34e⟩
    show J_ zX3_backToBeginning T (po_X3_backToBeginning_e T p ru) 0 0 45 _ [] U34
    refine j_blx (F := fX3) tb_X3 (nn_ _) bk_X3_backToBeginning_e_45 bs_X3_backToBeginning_e_45 hz (fun K hK => ?_)
    refine hK 50 _ [vI 0, vR 468 p] U34 ?_
    refine j_callS (y := yJ7_fill_53178) (Yc := zJ7_fill_53178) (rest := []) [vR 468 p, vI 0] (ct_J7_fill_468_e (T := U34) (by omega)) cl_X3_62 (qd_c (by decide +kernel)) (nn_ _) rfl (rf_of rfl) (Nat.le_of_ble_eq_true rfl) (Nat.le_of_ble_eq_true rfl) (Nat.le_of_ble_eq_true rfl) rfl ?_
    rintro U35 _ ⟨rfl, fU35, qU35o, qU35, qU35e⟩
    show J_ zX3_backToBeginning T (po_X3_backToBeginning_e T p ru) 0 0 53 _ [] U35
    refine j_blx (F := fX3) tb_X3 (nn_ _) bk_X3_backToBeginning_e_53 bs_X3_backToBeginning_e_53 hz (fun K hK => ?_)
    refine hK 58 _ [vI 0, vR 469 p] U35 ?_
    refine j_callS (y := yJ7_fill_53178) (Yc := zJ7_fill_53178) (rest := []) [vR 469 p, vI 0] (ct_J7_fill_469_e (T := U35) (by omega)) cl_X3_62 (qd_c (by decide +kernel)) (nn_ _) rfl (rf_of rfl) (Nat.le_of_ble_eq_true rfl) (Nat.le_of_ble_eq_true rfl) (Nat.le_of_ble_eq_true rfl) rfl ?_
    rintro U36 _ ⟨rfl, fU36, qU36o, qU36, qU36e⟩
    show J_ zX3_backToBeginning T (po_X3_backToBeginning_e T p ru) 0 0 61 _ [] U36
    refine j_blx (F := fX3) tb_X3 (nn_ _) bk_X3_backToBeginning_e_61 bs_X3_backToBeginning_e_61 hz (fun K hK => ?_)
    refine hK 66 _ [vI 0, vR 472 p] U36 ?_
    refine j_callS (y := yJ7_fill_53178) (Yc := zJ7_fill_53178) (rest := []) [vR 472 p, vI 0] (ct_J7_fill_472_e (T := U36) (by omega)) cl_X3_62 (qd_c (by decide +kernel)) (nn_ _) rfl (rf_of rfl) (Nat.le_of_ble_eq_true rfl) (Nat.le_of_ble_eq_true rfl) (Nat.le_of_ble_eq_true rfl) rfl ?_
    rintro U37 _ ⟨rfl, fU37, qU37o, qU37, qU37e⟩
    show J_ zX3_backToBeginning T (po_X3_backToBeginning_e T p ru) 0 0 69 _ [] U37
    refine j_blx (F := fX3) tb_X3 (nn_ _) bk_X3_backToBeginning_e_69 bs_X3_backToBeginning_e_69 hz (fun K hK => ?_)
    refine hK 74 _ [vI 0, vR 473 p] U37 ?_
    refine j_callS (y := yJ7_fill_53178) (Yc := zJ7_fill_53178) (rest := []) [vR 473 p, vI 0] (ct_J7_fill_473_e (T := U37) (by omega)) cl_X3_62 (qd_c (by decide +kernel)) (nn_ _) rfl (rf_of rfl) (Nat.le_of_ble_eq_true rfl) (Nat.le_of_ble_eq_true rfl) (Nat.le_of_ble_eq_true rfl) rfl ?_
    rintro U38 _ ⟨rfl, fU38, qU38o, qU38, qU38e⟩
    show J_ zX3_backToBeginning T (po_X3_backToBeginning_e T p ru) 0 0 77 _ [] U38
    refine j_blx (F := fX3) tb_X3 (nn_ _) bk_X3_backToBeginning_e_77 bs_X3_backToBeginning_e_77 hz (fun K hK => ?_)
    refine hK 79 [some (vR 103 p), some (vI 0), none] [] U38 ?_
    have e39 : U38 103 p 3 = 0 := (fU38 103 p 3 rfl).trans ((fU37 103 p 3 rfl).trans ((fU36 103 p 3 rfl).trans ((fU35 103 p 3 rfl).trans ((fU34 103 p 3 rfl).trans ((fU33 103 p 3 rfl).trans ((up_j hU31 (by decide) 103 p).trans ((up_j hU23 (by decide) 103 p).trans (up_f hU21))))))))
    refine c_79 _ 0 U38 (Nat.le_refl _) ?_ ?_ ?_ ?_ ?_
    · exact fr_t (fr_t (fr_t (fr_t (fr_t (fr_t (fr_u (fr_u (fr_u (fr_0 _ _) hU21 rfl) hU23 rfl) hU31 rfl) (fr_s fU33 rfl)) (fr_s fU34 rfl)) (fr_s fU35 rfl)) (fr_s fU36 rfl)) (fr_s fU37 rfl)) (fr_s fU38 rfl)
    · omega
    · exact oi_t (oi_t (oi_t (oi_t (oi_t (oi_t (oi_u (oi_u (oi_u (oi_r) hU21) hU23) hU31) qU33o) qU34o) qU35o) qU36o) qU37o) qU38o
    · intro j a b; omega
    have rU21 : rs9_ U21 p = u2_ (rs9_ T p) 103 3 0 := rs_u hU21 rfl
    have rU23 : rs9_ U23 p = u2_ (u2_ (rs9_ T p) 103 3 0) 103 4 0 := by rw [rs_u hU23 rfl, rU21]
    have rU31 : rs9_ U31 p = u2_ (u2_ (u2_ (rs9_ T p) 103 3 0) 103 4 0) 103 5 0 := by rw [rs_u hU31 rfl, rU23]
    have rU33 : rs9_ U33 p = fy2_ (u2_ (u2_ (u2_ (rs9_ T p) 103 3 0) 103 4 0) 103 5 0) 466 2 0 := by rw [qU33e, rU31]
    have rU34 : rs9_ U34 p = fy2_ (fy2_ (u2_ (u2_ (u2_ (rs9_ T p) 103 3 0) 103 4 0) 103 5 0) 466 2 0) 467 2 0 := by rw [qU34e, rU33]
    have rU35 : rs9_ U35 p = fy2_ (fy2_ (fy2_ (u2_ (u2_ (u2_ (rs9_ T p) 103 3 0) 103 4 0) 103 5 0) 466 2 0) 467 2 0) 468 2 0 := by rw [qU35e, rU34]
    have rU36 : rs9_ U36 p = fy2_ (fy2_ (fy2_ (fy2_ (u2_ (u2_ (u2_ (rs9_ T p) 103 3 0) 103 4 0) 103 5 0) 466 2 0) 467 2 0) 468 2 0) 469 2 0 := by rw [qU36e, rU35]
    have rU37 : rs9_ U37 p = fy2_ (fy2_ (fy2_ (fy2_ (fy2_ (u2_ (u2_ (u2_ (rs9_ T p) 103 3 0) 103 4 0) 103 5 0) 466 2 0) 467 2 0) 468 2 0) 469 2 0) 472 20 0 := by rw [qU37e, rU36]
    have rU38 : rs9_ U38 p = fy2_ (fy2_ (fy2_ (fy2_ (fy2_ (fy2_ (u2_ (u2_ (u2_ (rs9_ T p) 103 3 0) 103 4 0) 103 5 0) 466 2 0) 467 2 0) 468 2 0) 469 2 0) 472 20 0) 473 20 0 := by rw [qU38e, rU37]
    · rw [rU38]
      show bi9_ (rs9_ T p) 0 = bi9_ (rs9_ T p) (cz_ (ru 0 = 3) 1 0)
      rw [cz_f (show ¬ (ru 0 = 3) by omega)]
  · refine hK 26 [some (vR 103 p), none, none] [vI 1, vR 103 p] U23 ?_
    refine j_blx (F := fX3) tb_X3 (nn_ _) bk_X3_backToBeginning_e_26 bs_X3_backToBeginning_e_26 hz (fun K hK => ?_)
    refine bd_i (by omega) ?_
    refine x_nm (fun U40 hU40 => ?_)
    have e41 := up_f hU40
    refine hK 34 _ [vI 0, vR 466 p] U40 ?_
    refine j_callS (y := yJ7_fill_53178) (Yc := zJ7_fill_53178) (rest := []) [vR 466 p, vI 0] (ct_J7_fill_466_e (T := U40) (by omega)) cl_X3_62 (qd_c (by decide +kernel)) (nn_ _) rfl (rf_of rfl) (Nat.le_of_ble_eq_true rfl) (Nat.le_of_ble_eq_true rfl) (Nat.le_of_ble_eq_true rfl) rfl ?_
    rintro U42 _ ⟨rfl, fU42, qU42o, qU42, qU42e⟩
    show J_ zX3_backToBeginning T (po_X3_backToBeginning_e T p ru) 0 0 37 _ [] U42
    refine j_blx (F := fX3) tb_X3 (nn_ _) bk_X3_backToBeginning_e_37 bs_X3_backToBeginning_e_37 hz (fun K hK => ?_)
    refine hK 42 _ [vI 0, vR 467 p] U42 ?_
    refine j_callS (y := yJ7_fill_53178) (Yc := zJ7_fill_53178) (rest := []) [vR 467 p, vI 0] (ct_J7_fill_467_e (T := U42) (by omega)) cl_X3_62 (qd_c (by decide +kernel)) (nn_ _) rfl (rf_of rfl) (Nat.le_of_ble_eq_true rfl) (Nat.le_of_ble_eq_true rfl) (Nat.le_of_ble_eq_true rfl) rfl ?_
    rintro U43 _ ⟨rfl, fU43, qU43o, qU43, qU43e⟩
    show J_ zX3_backToBeginning T (po_X3_backToBeginning_e T p ru) 0 0 45 _ [] U43
    refine j_blx (F := fX3) tb_X3 (nn_ _) bk_X3_backToBeginning_e_45 bs_X3_backToBeginning_e_45 hz (fun K hK => ?_)
    refine hK 50 _ [vI 0, vR 468 p] U43 ?_
    refine j_callS (y := yJ7_fill_53178) (Yc := zJ7_fill_53178) (rest := []) [vR 468 p, vI 0] (ct_J7_fill_468_e (T := U43) (by omega)) cl_X3_62 (qd_c (by decide +kernel)) (nn_ _) rfl (rf_of rfl) (Nat.le_of_ble_eq_true rfl) (Nat.le_of_ble_eq_true rfl) (Nat.le_of_ble_eq_true rfl) rfl ?_
    rintro U44 _ ⟨rfl, fU44, qU44o, qU44, qU44e⟩
    show J_ zX3_backToBeginning T (po_X3_backToBeginning_e T p ru) 0 0 53 _ [] U44
    refine j_blx (F := fX3) tb_X3 (nn_ _) bk_X3_backToBeginning_e_53 bs_X3_backToBeginning_e_53 hz (fun K hK => ?_)
    refine hK 58 _ [vI 0, vR 469 p] U44 ?_
    refine j_callS (y := yJ7_fill_53178) (Yc := zJ7_fill_53178) (rest := []) [vR 469 p, vI 0] (ct_J7_fill_469_e (T := U44) (by omega)) cl_X3_62 (qd_c (by decide +kernel)) (nn_ _) rfl (rf_of rfl) (Nat.le_of_ble_eq_true rfl) (Nat.le_of_ble_eq_true rfl) (Nat.le_of_ble_eq_true rfl) rfl ?_
    rintro U45 _ ⟨rfl, fU45, qU45o, qU45, qU45e⟩
    show J_ zX3_backToBeginning T (po_X3_backToBeginning_e T p ru) 0 0 61 _ [] U45
    refine j_blx (F := fX3) tb_X3 (nn_ _) bk_X3_backToBeginning_e_61 bs_X3_backToBeginning_e_61 hz (fun K hK => ?_)
    refine hK 66 _ [vI 0, vR 472 p] U45 ?_
    refine j_callS (y := yJ7_fill_53178) (Yc := zJ7_fill_53178) (rest := []) [vR 472 p, vI 0] (ct_J7_fill_472_e (T := U45) (by omega)) cl_X3_62 (qd_c (by decide +kernel)) (nn_ _) rfl (rf_of rfl) (Nat.le_of_ble_eq_true rfl) (Nat.le_of_ble_eq_true rfl) (Nat.le_of_ble_eq_true rfl) rfl ?_
    rintro U46 _ ⟨rfl, fU46, qU46o, qU46, qU46e⟩
    show J_ zX3_backToBeginning T (po_X3_backToBeginning_e T p ru) 0 0 69 _ [] U46
    refine j_blx (F := fX3) tb_X3 (nn_ _) bk_X3_backToBeginning_e_69 bs_X3_backToBeginning_e_69 hz (fun K hK => ?_)
    refine hK 74 _ [vI 0, vR 473 p] U46 ?_
    refine j_callS (y := yJ7_fill_53178) (Yc := zJ7_fill_53178) (rest := []) [vR 473 p, vI 0] (ct_J7_fill_473_e (T := U46) (by omega)) cl_X3_62 (qd_c (by decide +kernel)) (nn_ _) rfl (rf_of rfl) (Nat.le_of_ble_eq_true rfl) (Nat.le_of_ble_eq_true rfl) (Nat.le_of_ble_eq_true rfl) rfl ?_
    rintro U47 _ ⟨rfl, fU47, qU47o, qU47, qU47e⟩
    show J_ zX3_backToBeginning T (po_X3_backToBeginning_e T p ru) 0 0 77 _ [] U47
    refine j_blx (F := fX3) tb_X3 (nn_ _) bk_X3_backToBeginning_e_77 bs_X3_backToBeginning_e_77 hz (fun K hK => ?_)
    refine hK 79 [some (vR 103 p), some (vI 0), none] [] U47 ?_
    have e48 : U47 103 p 3 = 0 := (fU47 103 p 3 rfl).trans ((fU46 103 p 3 rfl).trans ((fU45 103 p 3 rfl).trans ((fU44 103 p 3 rfl).trans ((fU43 103 p 3 rfl).trans ((fU42 103 p 3 rfl).trans ((up_j hU40 (by decide) 103 p).trans ((up_j hU23 (by decide) 103 p).trans (up_f hU21))))))))
    refine c_79 _ 0 U47 (Nat.le_refl _) ?_ ?_ ?_ ?_ ?_
    · exact fr_t (fr_t (fr_t (fr_t (fr_t (fr_t (fr_u (fr_u (fr_u (fr_0 _ _) hU21 rfl) hU23 rfl) hU40 rfl) (fr_s fU42 rfl)) (fr_s fU43 rfl)) (fr_s fU44 rfl)) (fr_s fU45 rfl)) (fr_s fU46 rfl)) (fr_s fU47 rfl)
    · omega
    · exact oi_t (oi_t (oi_t (oi_t (oi_t (oi_t (oi_u (oi_u (oi_u (oi_r) hU21) hU23) hU40) qU42o) qU43o) qU44o) qU45o) qU46o) qU47o
    · intro j a b; omega
    have rU21 : rs9_ U21 p = u2_ (rs9_ T p) 103 3 0 := rs_u hU21 rfl
    have rU23 : rs9_ U23 p = u2_ (u2_ (rs9_ T p) 103 3 0) 103 4 0 := by rw [rs_u hU23 rfl, rU21]
    have rU40 : rs9_ U40 p = u2_ (u2_ (u2_ (rs9_ T p) 103 3 0) 103 4 0) 103 5 1 := by rw [rs_u hU40 rfl, rU23]
    have rU42 : rs9_ U42 p = fy2_ (u2_ (u2_ (u2_ (rs9_ T p) 103 3 0) 103 4 0) 103 5 1) 466 2 0 := by rw [qU42e, rU40]
    have rU43 : rs9_ U43 p = fy2_ (fy2_ (u2_ (u2_ (u2_ (rs9_ T p) 103 3 0) 103 4 0) 103 5 1) 466 2 0) 467 2 0 := by rw [qU43e, rU42]
    have rU44 : rs9_ U44 p = fy2_ (fy2_ (fy2_ (u2_ (u2_ (u2_ (rs9_ T p) 103 3 0) 103 4 0) 103 5 1) 466 2 0) 467 2 0) 468 2 0 := by rw [qU44e, rU43]
    have rU45 : rs9_ U45 p = fy2_ (fy2_ (fy2_ (fy2_ (u2_ (u2_ (u2_ (rs9_ T p) 103 3 0) 103 4 0) 103 5 1) 466 2 0) 467 2 0) 468 2 0) 469 2 0 := by rw [qU45e, rU44]
    have rU46 : rs9_ U46 p = fy2_ (fy2_ (fy2_ (fy2_ (fy2_ (u2_ (u2_ (u2_ (rs9_ T p) 103 3 0) 103 4 0) 103 5 1) 466 2 0) 467 2 0) 468 2 0) 469 2 0) 472 20 0 := by rw [qU46e, rU45]
    have rU47 : rs9_ U47 p = fy2_ (fy2_ (fy2_ (fy2_ (fy2_ (fy2_ (u2_ (u2_ (u2_ (rs9_ T p) 103 3 0) 103 4 0) 103 5 1) 466 2 0) 467 2 0) 468 2 0) 469 2 0) 472 20 0) 473 20 0 := by rw [qU47e, rU46]
    · rw [rU47]
      show bi9_ (rs9_ T p) 1 = bi9_ (rs9_ T p) (cz_ (ru 0 = 3) 1 0)
      rw [cz_t (show ru 0 = 3 by omega)]
