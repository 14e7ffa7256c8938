theorem bk_X3_closeGap_e_4 : ck_ fX3 none cX3_closeGap 4 [.iload 3, .aload 0, .tableswitch 0 3 10 #[], .iload 1, .iaload, .if_icmp .ge 44, .aload 0, .tableswitch 0 3 11 #[], .iload 1, .iconst 6, .imul, .iload 3, .iadd, .iconst 1, .isub, .aload 0, .tableswitch 0 3 11 #[], .iload 1, .iconst 6, .imul, .iload 3, .iadd, .iaload, .iastore, .iinc 3 1, .goto 4] 44 = true := qck_r (nn_ _) (by decide +kernel)
theorem bs_X3_closeGap_e_4 {P : Zt → Option Zv → Prop} (K : Int → Zl → List Zv → Zt → Prop) : sx_ K P [.iload 3, .aload 0, .tableswitch 0 3 10 #[], .iload 1, .iaload, .if_icmp .ge 44, .aload 0, .tableswitch 0 3 11 #[], .iload 1, .iconst 6, .imul, .iload 3, .iadd, .iconst 1, .isub, .aload 0, .tableswitch 0 3 11 #[], .iload 1, .iconst 6, .imul, .iload 3, .iadd, .iaload, .iastore, .iinc 3 1, .goto 4] 44 = x_iload 3 (x_aload 0 (x_g2 103 470 (x_iload 1 (x_iaload (x_if_icmp .ge 44 K (x_aload 0 (x_g2 103 471 (x_iload 1 (x_iconst 6 (x_imul (x_iload 3 (x_iadd (x_iconst 1 (x_isub (x_aload 0 (x_g2 103 471 (x_iload 1 (x_iconst 6 (x_imul (x_iload 3 (x_iadd (x_iaload (x_iastore (x_iinc 3 1 (x_goto 4 K))))))))))))))))))))))))) := ((xe_iload 3).trans (congrArg (x_iload 3) ((xe_aload 0).trans (congrArg (x_aload 0) ((xe_g2 (kk := 103) rfl tl_3_10).trans (congrArg (x_g2 103 470) ((xe_iload 1).trans (congrArg (x_iload 1) ((xe_iaload).trans (congrArg (x_iaload) ((xe_if_icmp .ge 44).trans (congrArg (x_if_icmp .ge 44 K) ((xe_aload 0).trans (congrArg (x_aload 0) ((xe_g2 (kk := 103) rfl tl_3_11).trans (congrArg (x_g2 103 471) ((xe_iload 1).trans (congrArg (x_iload 1) ((xe_iconst 6).trans (congrArg (x_iconst 6) ((xe_imul).trans (congrArg (x_imul) ((xe_iload 3).trans (congrArg (x_iload 3) ((xe_iadd).trans (congrArg (x_iadd) ((xe_iconst 1).trans (congrArg (x_iconst 1) ((xe_isub).trans (congrArg (x_isub) ((xe_aload 0).trans (congrArg (x_aload 0) ((xe_g2 (kk := 103) rfl tl_3_11).trans (congrArg (x_g2 103 471) ((xe_iload 1).trans (congrArg (x_iload 1) ((xe_iconst 6).trans (congrArg (x_iconst 6) ((xe_imul).trans (congrArg (x_imul) ((xe_iload 3).trans (congrArg (x_iload 3) ((xe_iadd).trans (congrArg (x_iadd) ((xe_iaload).trans (congrArg (x_iaload) ((xe_iastore).trans (congrArg (x_iastore) ((xe_iinc 3 1).trans (congrArg (x_iinc 3 1) (xe_goto 4)))))))))))))))))))))))))))))))))))))))))))))))))))
theorem bk_X3_closeGap_e_44 : ck_ fX3 none cX3_closeGap 44 [.return_] 45 = true := qck_r (nn_ _) (by decide +kernel)
theorem bs_X3_closeGap_e_44 {P : Zt → Option Zv → Prop} (K : Int → Zl → List Zv → Zt → Prop) : sx_ K P [.return_] 45 = x_return_ P := (xe_return_)
theorem bk_X3_closeGap_e_0 : ck_ fX3 none cX3_closeGap 0 [.iload 2, .iconst 1, .iadd, .istore 3] 4 = true := qck_r (nn_ _) (by decide +kernel)
theorem bs_X3_closeGap_e_0 {P : Zt → Option Zv → Prop} (K : Int → Zl → List Zv → Zt → Prop) : sx_ K P [.iload 2, .iconst 1, .iadd, .istore 3] 4 = x_iload 2 (x_iconst 1 (x_iadd (x_istore 3 (K 4)))) := ((xe_iload 2).trans (congrArg (x_iload 2) ((xe_iconst 1).trans (congrArg (x_iconst 1) ((xe_iadd).trans (congrArg (x_iadd) ((xe_istore 3).trans (congrArg (x_istore 3) xe_nil))))))))
abbrev po_X3_closeGap_e (T : Zt) (p : Int) (ru : Int → Int) (s k : Int) : Zt → Option Zv → Prop := fun T' r => r = none ∧ fr_ [(471, [])] T T' ∧ (oi_ T T' p ∧ (0 = (0 : Int)) ∧ rs9_ T' p = cg9_ (rs9_ T p) s k)
set_option maxHeartbeats 4000000 in
theorem ct_X3_closeGap_e {T : Zt} {p : Int} {ru : Int → Int} {s k : Int} (hr : RLP_ T p ru) (hs : 0 ≤ s ∧ s ≤ 1) (h1 : 0 ≤ k ∧ k < 6) : Ct_ yX3_closeGap zX3_closeGap T [vR 103 p, vI s, vI k] (po_X3_closeGap_e T p ru s k) := by
  refine ct_of pn_3 rfl rfl (Nat.le_of_ble_eq_true rfl) (fun hT hav => ?_)
  have hr_s : -2147483648 ≤ s ∧ s ≤ 2147483647 := hav (vI s) (List.mem_cons_of_mem _ List.mem_cons_self)
  have hr_k : -2147483648 ≤ k ∧ k ≤ 2147483647 := hav (vI k) (List.mem_cons_of_mem _ (List.mem_cons_of_mem _ List.mem_cons_self))
  have hz : zX3_closeGap.2.2.2.1 = some .boolean → ∀ (T' : Zt) (x : Int), po_X3_closeGap_e T p ru s k T' (some (vI x)) → 0 ≤ x ∧ x ≤ 1 := fun h => by cases h
  have hfd : 0 ≤ T 470 p s ∧ T 470 p s ≤ 6 := bd_a hT 470 (by decide +kernel : ta_ 470 = some (1, some 2, 0, 6)) p (by omega)
  show J_ zX3_closeGap T (po_X3_closeGap_e T p ru s k) 0 0 0 [some (vR 103 p), some (vI s), some (vI k), none] [] T
  have c_4 : ∀ (nn : Nat) (j : Int) (T1 : Zt), ((7 - j).toNat) ≤ nn → (fr_ [(471, [])] T T1) → (k + 1 ≤ j ∧ j ≤ 7 ∧ (j = k + 1 ∨ j ≤ T 470 p s)) → (oi_ T T1 p) → (rs9_ T1 p = cgp_ (rs9_ T p) s k j) → J_ zX3_closeGap T (po_X3_closeGap_e T p ru s k) 0 0 4 [some (vR 103 p), some (vI s), some (vI k), some (vI j)] [] T1 := by
    intro nn
    induction nn using Nat.strongRecOn with
    | _ nn ih_4 =>
      intro j T1 hm_4 hf_4 i1 o1 rc
      replace hm_4 := fun (_ : Unit) => hm_4
      refine j_blx (F := fX3) tb_X3 (nn_ _) bk_X3_closeGap_e_4 bs_X3_closeGap_e_4 hz (fun K hK => ?_)
      refine ix_i (by omega) ?_
      intro b1 b1b
      have e2 : T1 470 p s = T 470 p s := hf_4 470 p s rfl
      rw [e2] at b1 b1b ⊢
      refine And.intro (fun c3 => ?_) (fun c3 => ?_)
      · refine hK 44 _ [] T1 ?_
        refine j_blx (F := fX3) tb_X3 (nn_ _) bk_X3_closeGap_e_44 bs_X3_closeGap_e_44 hz (fun K hK => ?_)
        refine (show po_X3_closeGap_e T p ru s k T1 (none) from ?_)
        exact ⟨rfl, fr_t (fr_0 _ _) (fr_s hf_4 rfl), o1, by rfl, rc.trans (cgp_e (a := rs9_ T p) (show T 470 p s ≤ j by omega) (show j = k + 1 ∨ j ≤ T 470 p s by omega))⟩
      · refine rg_i (by omega) ?_
        refine rg_i (by omega) ?_
        refine rg_i (by omega) ?_
        refine rg_i (by omega) ?_
        refine rg_i (by omega) ?_
        refine ix_i (by omega) ?_
        intro b4 b4b
        refine iy_i (by omega) (by omega) ?_
        refine x_nm (fun U5 hU5 => ?_)
        have e6 := up_f hU5
        refine rg_i (by omega) ?_
        refine hK 4 [some (vR 103 p), some (vI s), some (vI k), some (vI (j + 1))] [] U5 ?_
        refine ih_4 _ ?_ (j + 1) U5 (Nat.le_refl _) ?_ ?_ ?_ ?_
        · have hm_4 := hm_4 (); omega
        · exact fr_u (fr_t (fr_0 _ _) (fr_s hf_4 rfl)) hU5 rfl
        · omega
        · exact oi_u (o1) hU5
        · have e8 : T1 471 p (s * 6 + j) = T 471 p (s * 6 + j) := by
            have e7 := congrFun (congrFun rc 471) (s * 6 + j)
            exact e7.trans (cgp_g (a := rs9_ T p) (by omega))
          rw [rs_u hU5 rfl, rc, e8]
          exact cgp_s (a := rs9_ T p) (by omega)
  refine j_blx (F := fX3) tb_X3 (nn_ _) bk_X3_closeGap_e_0 bs_X3_closeGap_e_0 hz (fun K hK => ?_)
  refine rg_i (by omega) ?_
  refine hK 4 [some (vR 103 p), some (vI s), some (vI k), some (vI (k + 1))] [] T ?_
  refine c_4 _ (k + 1) T (Nat.le_refl _) ?_ ?_ ?_ ?_
  · exact fr_0 _ _
  · omega
  · exact oi_r
  · exact cgp_0.symm
