-- readRule, readPoints, readSport of the house
theorem bk_X5_readRule_e_22 : ck_ fX5 (some .boolean) cX5_readRule 22 [.iload 4, .aload 0, .tableswitch 0 5 9 #[], .if_icmp .ge 53, .iload 3, .iconst 10, .imul, .aload 0, .tableswitch 0 5 0 #[], .iload 4, .iaload, .iadd, .iconst 48, .isub, .istore 3, .iinc 4 1, .goto 22] 53 = true := qck_r (by decide) (by decide +kernel)
theorem bs_X5_readRule_e_22 {P : Zt → Option Zv → Prop} (K : Int → Zl → List Zv → Zt → Prop) : sx_ K P [.iload 4, .aload 0, .tableswitch 0 5 9 #[], .if_icmp .ge 53, .iload 3, .iconst 10, .imul, .aload 0, .tableswitch 0 5 0 #[], .iload 4, .iaload, .iadd, .iconst 48, .isub, .istore 3, .iinc 4 1, .goto 22] 53 = x_iload 4 (x_aload 0 (x_g0 105 9 0 400 (x_if_icmp .ge 53 K (x_iload 3 (x_iconst 10 (x_imul (x_aload 0 (x_g1 105 500 (x_iload 4 (x_iaload (x_iadd (x_iconst 48 (x_isub (x_istore 3 (x_iinc 4 1 (x_goto 22 K)))))))))))))))) := ((xe_iload 4).trans (congrArg (x_iload 4) ((xe_aload 0).trans (congrArg (x_aload 0) ((xe_g0 (kk := 105) rfl tl_5_9).trans (congrArg (x_g0 105 9 0 400) ((xe_if_icmp .ge 53).trans (congrArg (x_if_icmp .ge 53 K) ((xe_iload 3).trans (congrArg (x_iload 3) ((xe_iconst 10).trans (congrArg (x_iconst 10) ((xe_imul).trans (congrArg (x_imul) ((xe_aload 0).trans (congrArg (x_aload 0) ((xe_g1 (kk := 105) rfl tl_5_0).trans (congrArg (x_g1 105 500) ((xe_iload 4).trans (congrArg (x_iload 4) ((xe_iaload).trans (congrArg (x_iaload) ((xe_iadd).trans (congrArg (x_iadd) ((xe_iconst 48).trans (congrArg (x_iconst 48) ((xe_isub).trans (congrArg (x_isub) ((xe_istore 3).trans (congrArg (x_istore 3) ((xe_iinc 4 1).trans (congrArg (x_iinc 4 1) (xe_goto 22)))))))))))))))))))))))))))))))))
theorem bk_X5_readRule_e_53 : ck_ fX5 (some .boolean) cX5_readRule 53 [.iload 3] 54 = true := qck_r (by decide) (by decide +kernel)
theorem bs_X5_readRule_e_53 {P : Zt → Option Zv → Prop} (K : Int → Zl → List Zv → Zt → Prop) : sx_ K P [.iload 3] 54 = x_iload 3 (K 54) := ((xe_iload 3).trans (congrArg (x_iload 3) xe_nil))
theorem bk_X5_readRule_e_57 : ck_ fX5 (some .boolean) cX5_readRule 57 [.iload 1] 58 = true := qck_r (by decide) (by decide +kernel)
theorem bs_X5_readRule_e_57 {P : Zt → Option Zv → Prop} (K : Int → Zl → List Zv → Zt → Prop) : sx_ K P [.iload 1] 58 = x_iload 1 (K 58) := ((xe_iload 1).trans (congrArg (x_iload 1) xe_nil))
theorem bk_X5_readRule_e_59 : ck_ fX5 (some .boolean) cX5_readRule 59 [.if_icmp .lt 67, .iload 3, .iload 2, .if_icmp .le 73, .aload 0, .iconst 4] 69 = true := qck_r (by decide) (by decide +kernel)
theorem bs_X5_readRule_e_59 {P : Zt → Option Zv → Prop} (K : Int → Zl → List Zv → Zt → Prop) : sx_ K P [.if_icmp .lt 67, .iload 3, .iload 2, .if_icmp .le 73, .aload 0, .iconst 4] 69 = x_if_icmp .lt 67 K (x_iload 3 (x_iload 2 (x_if_icmp .le 73 K (x_aload 0 (x_iconst 4 (K 69)))))) := ((xe_if_icmp .lt 67).trans (congrArg (x_if_icmp .lt 67 K) ((xe_iload 3).trans (congrArg (x_iload 3) ((xe_iload 2).trans (congrArg (x_iload 2) ((xe_if_icmp .le 73).trans (congrArg (x_if_icmp .le 73 K) ((xe_aload 0).trans (congrArg (x_aload 0) ((xe_iconst 4).trans (congrArg (x_iconst 4) xe_nil))))))))))))
theorem bk_X5_readRule_e_67 : ck_ fX5 (some .boolean) cX5_readRule 67 [.aload 0, .iconst 4] 69 = true := qck_r (by decide) (by decide +kernel)
theorem bs_X5_readRule_e_67 {P : Zt → Option Zv → Prop} (K : Int → Zl → List Zv → Zt → Prop) : sx_ K P [.aload 0, .iconst 4] 69 = x_aload 0 (x_iconst 4 (K 69)) := ((xe_aload 0).trans (congrArg (x_aload 0) ((xe_iconst 4).trans (congrArg (x_iconst 4) xe_nil))))
theorem bk_X5_readRule_e_72 : ck_ fX5 (some .boolean) cX5_readRule 72 [.ireturn] 73 = true := qck_r (by decide) (by decide +kernel)
theorem bs_X5_readRule_e_72 {P : Zt → Option Zv → Prop} (K : Int → Zl → List Zv → Zt → Prop) : sx_ K P [.ireturn] 73 = x_ireturn P := (xe_ireturn)
theorem bk_X5_readRule_e_73 : ck_ fX5 (some .boolean) cX5_readRule 73 [.aload 0, .tableswitch 0 5 4 #[], .iload 1, .iload 3, .iastore, .iconst 1, .ireturn] 82 = true := qck_r (by decide) (by decide +kernel)
theorem bs_X5_readRule_e_73 {P : Zt → Option Zv → Prop} (K : Int → Zl → List Zv → Zt → Prop) : sx_ K P [.aload 0, .tableswitch 0 5 4 #[], .iload 1, .iload 3, .iastore, .iconst 1, .ireturn] 82 = x_aload 0 (x_g1 105 504 (x_iload 1 (x_iload 3 (x_iastore (x_iconst 1 (x_ireturn P)))))) := ((xe_aload 0).trans (congrArg (x_aload 0) ((xe_g1 (kk := 105) rfl tl_5_4).trans (congrArg (x_g1 105 504) ((xe_iload 1).trans (congrArg (x_iload 1) ((xe_iload 3).trans (congrArg (x_iload 3) ((xe_iastore).trans (congrArg (x_iastore) ((xe_iconst 1).trans (congrArg (x_iconst 1) (xe_ireturn)))))))))))))
theorem bk_X5_readRule_e_0 : ck_ fX5 (some .boolean) cX5_readRule 0 [.aload 0] 1 = true := qck_r (by decide) (by decide +kernel)
theorem bs_X5_readRule_e_0 {P : Zt → Option Zv → Prop} (K : Int → Zl → List Zv → Zt → Prop) : sx_ K P [.aload 0] 1 = x_aload 0 (K 1) := ((xe_aload 0).trans (congrArg (x_aload 0) xe_nil))
theorem bk_X5_readRule_e_4 : ck_ fX5 (some .boolean) cX5_readRule 4 [.aload 0, .iconst 2] 6 = true := qck_r (by decide) (by decide +kernel)
theorem bs_X5_readRule_e_4 {P : Zt → Option Zv → Prop} (K : Int → Zl → List Zv → Zt → Prop) : sx_ K P [.aload 0, .iconst 2] 6 = x_aload 0 (x_iconst 2 (K 6)) := ((xe_aload 0).trans (congrArg (x_aload 0) ((xe_iconst 2).trans (congrArg (x_iconst 2) xe_nil))))
theorem bk_X5_readRule_e_9 : ck_ fX5 (some .boolean) cX5_readRule 9 [.ifCond .ne 14, .iconst 0, .ireturn] 14 = true := qck_r (by decide) (by decide +kernel)
theorem bs_X5_readRule_e_9 {P : Zt → Option Zv → Prop} (K : Int → Zl → List Zv → Zt → Prop) : sx_ K P [.ifCond .ne 14, .iconst 0, .ireturn] 14 = x_ifCond .ne 14 K (x_iconst 0 (x_ireturn P)) := ((xe_ifCond .ne 14).trans (congrArg (x_ifCond .ne 14 K) ((xe_iconst 0).trans (congrArg (x_iconst 0) (xe_ireturn)))))
theorem bk_X5_readRule_e_14 : ck_ fX5 (some .boolean) cX5_readRule 14 [.iconst 0, .istore 3, .aload 0, .tableswitch 0 5 8 #[], .istore 4] 22 = true := qck_r (by decide) (by decide +kernel)
theorem bs_X5_readRule_e_14 {P : Zt → Option Zv → Prop} (K : Int → Zl → List Zv → Zt → Prop) : sx_ K P [.iconst 0, .istore 3, .aload 0, .tableswitch 0 5 8 #[], .istore 4] 22 = x_iconst 0 (x_istore 3 (x_aload 0 (x_g0 105 8 0 400 (x_istore 4 (K 22))))) := ((xe_iconst 0).trans (congrArg (x_iconst 0) ((xe_istore 3).trans (congrArg (x_istore 3) ((xe_aload 0).trans (congrArg (x_aload 0) ((xe_g0 (kk := 105) rfl tl_5_8).trans (congrArg (x_g0 105 8 0 400) ((xe_istore 4).trans (congrArg (x_istore 4) xe_nil))))))))))
abbrev po_X5_readRule_e (T : Zt) (s m : Int) : Zt → Option Zv → Prop := fun T' r => ∃ x : Int, r = some (vI x) ∧ fr_ [(105, [7, 8, 9, 2, 3]), (504, [])] T T' ∧ (((x = 0 ∧ nrf9_ (cl9_ (T 105 0 1) (fun j => T 500 0 j)) (T 105 0 1) (T 105 0 9) ((sa_ 1).getD s.toNat 0) m = Sum.inl (T' 105 0 2, T' 105 0 3)) ∨ (x = 1 ∧ nrf9_ (cl9_ (T 105 0 1) (fun j => T 500 0 j)) (T 105 0 1) (T 105 0 9) ((sa_ 1).getD s.toNat 0) m = Sum.inr (T' 105 0 9, T' 504 0 s) ∧ T' 105 0 2 = T 105 0 2 ∧ T' 105 0 3 = T 105 0 3 ∧ T 105 0 9 ≤ T' 105 0 9 ∧ T' 105 0 9 ≤ T 105 0 1)) ∧ ∀ j, j ≠ s → T' 504 0 j = T 504 0 j)
set_option maxHeartbeats 4000000 in
theorem ct_X5_readRule_e {T : Zt} {s m : Int} (hs : 0 ≤ s ∧ s < 16) (h9 : T 105 0 9 ≤ T 105 0 1) : Ct_ yX5_readRule zX5_readRule T [vR 105 0, vI s, vI m] (po_X5_readRule_e T s m) := by
  refine ct_of (by decide) rfl rfl (Nat.le_of_ble_eq_true rfl) (fun hT hav => ?_)
  have hr_s : -2147483648 ≤ s ∧ s ≤ 2147483647 := hav (vI s) (by simp)
  have hr_m : -2147483648 ≤ m ∧ m ≤ 2147483647 := hav (vI m) (by simp)
  have hz : zX5_readRule.2.2.2.1 = some .boolean → ∀ (T' : Zt) (x : Int), po_X5_readRule_e T s m T' (some (vI x)) → 0 ≤ x ∧ x ≤ 1 := fun _ T' x h => by obtain ⟨y, e, -, hy, -⟩ := h; cases e; omega
  have hln : 0 ≤ T 105 0 1 ∧ T 105 0 1 ≤ 400 := bd_f hT 105 1 (by decide +kernel : (tf_ 105)[1]? = some (0, 0, 0, 400)) 0
  have hte : 0 ≤ T 105 0 9 ∧ T 105 0 9 ≤ 400 := bd_f hT 105 9 (by decide +kernel : (tf_ 105)[9]? = some (0, 0, 0, 400)) 0
  have hb1 := sa_b 1 (by decide) s.toNat (by omega)
  show J_ zX5_readRule T (po_X5_readRule_e T s m) 0 0 0 [some (vR 105 0), some (vI s), some (vI m), none, none] [] T
  have c_22 : ∀ (nn : Nat) (n : Int) (k : Int) (T1 : Zt), ((T1 105 0 9 - k).toNat) ≤ nn → (fr_ [(105, [7, 8, 9, 2, 3])] T T1) → (T1 105 0 8 ≤ k ∧ k ≤ T1 105 0 9 ∧ T1 105 0 7 = 2 ∧ T1 105 0 2 = T 105 0 2 ∧ T1 105 0 3 = T 105 0 3) → (TK9_ (fun j => T 500 0 j) (T 105 0 1) (T 105 0 9) (T1 105 0 8) (T1 105 0 9) (T1 105 0 7)) → (0 ≤ n ∧ n ≤ 999 ∧ (k - T1 105 0 8 = 0 → n = 0) ∧ (k - T1 105 0 8 = 1 → n ≤ 9) ∧ (k - T1 105 0 8 = 2 → n ≤ 99)) → (n = nv9_ (fun j => T 500 0 j) (T1 105 0 8) (k - T1 105 0 8).toNat) → J_ zX5_readRule T (po_X5_readRule_e T s m) 0 0 22 [some (vR 105 0), some (vI s), some (vI m), some (vI n), some (vI k)] [] T1 := by
    intro nn
    induction nn using Nat.strongRecOn with
    | _ nn ih_22 =>
      intro n k T1 hm_22 hf_22 i1 tk nb nv
      have tr := tk9_r tk
      have td := tk9_d tk (by omega)
      refine j_blx (F := fX5) tb_X5 (by decide) bk_X5_readRule_e_22 bs_X5_readRule_e_22 hz (fun K hK => ?_)
      intro b1 b1b
      refine And.intro (fun c2 => ?_) (fun c2 => ?_)
      · refine hK 53 [some (vR 105 0), some (vI s), some (vI m), some (vI n), some (vI k)] [] T1 ?_
        refine j_blx (F := fX5) tb_X5 (by decide) bk_X5_readRule_e_53 bs_X5_readRule_e_53 hz (fun K hK => ?_)
        refine hK 54 [some (vR 105 0), some (vI s), some (vI m), some (vI n), some (vI k)] [vI n] T1 ?_
        refine j_gs81 (pc := 54) (i := 1) (by decide) (by decide) (lw_b3 58 (by decide +kernel) rfl : Cond.fieldLink RX5 87 "SportsHouse$RuleText" (sn_ 1) "[I" ∈ lw_g) (by decide +kernel) ?_
        show J_ zX5_readRule T (po_X5_readRule_e T s m) 0 0 57 [some (vR 105 0), some (vI s), some (vI m), some (vI n), some (vI k)] [vR 81 1, vI n] T1
        refine j_blx (F := fX5) tb_X5 (by decide) bk_X5_readRule_e_57 bs_X5_readRule_e_57 hz (fun K hK => ?_)
        refine hK 58 [some (vR 105 0), some (vI s), some (vI m), some (vI n), some (vI k)] [vI s, vR 81 1, vI n] T1 ?_
        refine j_ld81 (pc := 58) (i := 1) (by decide) (by decide) (by omega) (by omega) (by decide +kernel) ?_
        have y3 := sa_b 1 (by decide) s.toNat (by omega)
        show J_ zX5_readRule T (po_X5_readRule_e T s m) 0 0 59 [some (vR 105 0), some (vI s), some (vI m), some (vI n), some (vI k)] [vI ((sa_ 1).getD s.toNat 0), vI n] T1
        refine j_blx (F := fX5) tb_X5 (by decide) bk_X5_readRule_e_59 bs_X5_readRule_e_59 hz (fun K hK => ?_)
        refine And.intro (fun c4 => ?_) (fun c4 => ?_)
        · refine hK 67 [some (vR 105 0), some (vI s), some (vI m), some (vI n), some (vI k)] [] T1 ?_
          refine j_blx (F := fX5) tb_X5 (by decide) bk_X5_readRule_e_67 bs_X5_readRule_e_67 hz (fun K hK => ?_)
          refine hK 69 [some (vR 105 0), some (vI s), some (vI m), some (vI n), some (vI k)] [vI 4, vR 105 0] T1 ?_
          refine j_callV (y := yX5_fail) (Yc := zX5_fail) (rest := []) [vI 4] (ct_X5_fail_e (T := T1) (by omega)) cl_X5_59 (qd_c (by decide +kernel)) (by decide) rfl (by decide +kernel) (Nat.le_of_ble_eq_true rfl) (by decide) (by decide) rfl ?_
          rintro U5 _ ⟨x6, rfl, fU5, qU5⟩
          show J_ zX5_readRule T (po_X5_readRule_e T s m) 0 0 72 [some (vR 105 0), some (vI s), some (vI m), some (vI n), some (vI k)] [vI x6] U5
          refine j_blx (F := fX5) tb_X5 (by decide) bk_X5_readRule_e_72 bs_X5_readRule_e_72 hz (fun K hK => ?_)
          refine (show po_X5_readRule_e T s m U5 (some (vI x6)) from ?_)
          have e7 : U5 105 0 9 = T1 105 0 9 := fU5 105 0 9 rfl
          have e8 : U5 504 0 s = T 504 0 s := (fU5 504 0 s rfl).trans (hf_22 504 0 s rfl)
          have ek : k = T1 105 0 9 := by omega
          rw [ek] at nv
          refine ⟨_, rfl, fr_t (fr_t (fr_0 _ _) (fr_s hf_22 rfl)) (fr_s fU5 rfl), Or.inl ⟨by omega, ?_⟩, fun j _ => (show fr_ [(105, [2, 3, 7, 8, 9])] T U5 from fr_t (fr_t (fr_0 _ _) (fr_s hf_22 rfl)) (fr_s fU5 rfl)) 504 0 j rfl⟩
          rw [show U5 105 0 2 = 4 by omega, show U5 105 0 3 = T1 105 0 8 by omega]
          exact nrf9_4 tk (by omega) (by omega) nv (by omega)
        · refine And.intro (fun c9 => ?_) (fun c9 => ?_)
          · refine hK 73 [some (vR 105 0), some (vI s), some (vI m), some (vI n), some (vI k)] [] T1 ?_
            refine j_blx (F := fX5) tb_X5 (by decide) bk_X5_readRule_e_73 bs_X5_readRule_e_73 hz (fun K hK => ?_)
            refine iy_i (by omega) (by omega) ?_
            refine x_nm (fun U10 hU10 => ?_)
            have e11 := up_f hU10
            refine (show po_X5_readRule_e T s m U10 (some (vI 1)) from ?_)
            have e12 : U10 105 0 2 = T1 105 0 2 := up_k hU10 (by decide) 0 2
            have e13 : U10 105 0 3 = T1 105 0 3 := up_k hU10 (by decide) 0 3
            have e14 : U10 105 0 9 = T1 105 0 9 := up_k hU10 (by decide) 0 9
            have e15 : U10 504 0 s = n := up_f hU10
            have ek : k = T1 105 0 9 := by omega
            rw [ek] at nv
            have w2 : U10 105 0 2 = T1 105 0 2 := up_k hU10 (by decide) 0 2
            have w3 : U10 105 0 3 = T1 105 0 3 := up_k hU10 (by decide) 0 3
            have w9 : U10 105 0 9 = T1 105 0 9 := up_k hU10 (by decide) 0 9
            refine ⟨_, rfl, fr_u (fr_t (fr_0 _ _) (fr_s hf_22 rfl)) hU10 rfl, Or.inr ⟨rfl, ?_, by omega, by omega, by omega, by omega⟩, fun j hj => (up_g hU10 (fun z => hj z.2.2)).trans (hf_22 504 0 j rfl)⟩
            rw [w9, up_f hU10]
            exact nrf9_0 tk (by omega) (by omega) nv (by omega)
          · refine hK 69 [some (vR 105 0), some (vI s), some (vI m), some (vI n), some (vI k)] [vI 4, vR 105 0] T1 ?_
            refine j_callV (y := yX5_fail) (Yc := zX5_fail) (rest := []) [vI 4] (ct_X5_fail_e (T := T1) (by omega)) cl_X5_59 (qd_c (by decide +kernel)) (by decide) rfl (by decide +kernel) (Nat.le_of_ble_eq_true rfl) (by decide) (by decide) rfl ?_
            rintro U16 _ ⟨x17, rfl, fU16, qU16⟩
            show J_ zX5_readRule T (po_X5_readRule_e T s m) 0 0 72 [some (vR 105 0), some (vI s), some (vI m), some (vI n), some (vI k)] [vI x17] U16
            refine j_blx (F := fX5) tb_X5 (by decide) bk_X5_readRule_e_72 bs_X5_readRule_e_72 hz (fun K hK => ?_)
            refine (show po_X5_readRule_e T s m U16 (some (vI x17)) from ?_)
            have e18 : U16 105 0 9 = T1 105 0 9 := fU16 105 0 9 rfl
            have e19 : U16 504 0 s = T 504 0 s := (fU16 504 0 s rfl).trans (hf_22 504 0 s rfl)
            have ek : k = T1 105 0 9 := by omega
            rw [ek] at nv
            refine ⟨_, rfl, fr_t (fr_t (fr_0 _ _) (fr_s hf_22 rfl)) (fr_s fU16 rfl), Or.inl ⟨by omega, ?_⟩, fun j _ => (show fr_ [(105, [2, 3, 7, 8, 9])] T U16 from fr_t (fr_t (fr_0 _ _) (fr_s hf_22 rfl)) (fr_s fU16 rfl)) 504 0 j rfl⟩
            rw [show U16 105 0 2 = 4 by omega, show U16 105 0 3 = T1 105 0 8 by omega]
            exact nrf9_4 tk (by omega) (by omega) nv (by omega)
      · refine rg_i (by omega) ?_
        refine ix_i (by omega) ?_
        intro b20 b20b
        have e21 : T1 500 0 k = T 500 0 k := hf_22 500 0 k rfl
        rw [e21] at b20 b20b ⊢
        have dg := td.2 k (by omega) (by omega)
        have dg1 : 48 ≤ T 500 0 k ∧ T 500 0 k ≤ 57 := dg
        refine rg_i (by omega) ?_
        refine rg_i (by omega) ?_
        refine rg_i (by omega) ?_
        refine hK 22 [some (vR 105 0), some (vI s), some (vI m), some (vI (((n * 10) + (T 500 0 k)) - 48)), some (vI (k + 1))] [] T1 ?_
        refine ih_22 _ ?_ (((n * 10) + (T 500 0 k)) - 48) (k + 1) T1 (Nat.le_refl _) ?_ ?_ ?_ ?_ ?_
        · omega
        · exact fr_t (fr_0 _ _) (fr_s hf_22 rfl)
        · omega
        · exact tk
        · omega
        · refine nv9_s (b := (fun j => T 500 0 j)) (by omega) ?_
          rw [← nv]
          show _ = 10 * n + T 500 0 k - 48
          omega
  refine j_blx (F := fX5) tb_X5 (by decide) bk_X5_readRule_e_0 bs_X5_readRule_e_0 hz (fun K hK => ?_)
  refine hK 1 [some (vR 105 0), some (vI s), some (vI m), none, none] [vR 105 0] T ?_
  refine j_callV (y := yX5_nextToken) (Yc := zX5_nextToken) (rest := []) [] (ct_X5_nextToken_e (T := T) (by omega)) cl_X5_43 (qd_c (by decide +kernel)) (by decide) rfl (by decide +kernel) (Nat.le_of_ble_eq_true rfl) (by decide) (by decide) rfl ?_
  rintro U22 _ ⟨rfl, fU22, qU22⟩
  show J_ zX5_readRule T (po_X5_readRule_e T s m) 0 0 4 [some (vR 105 0), some (vI s), some (vI m), none, none] [] U22
  refine j_blx (F := fX5) tb_X5 (by decide) bk_X5_readRule_e_4 bs_X5_readRule_e_4 hz (fun K hK => ?_)
  refine hK 6 [some (vR 105 0), some (vI s), some (vI m), none, none] [vI 2, vR 105 0] U22 ?_
  refine j_callV (y := yX5_isOfKind) (Yc := zX5_isOfKind) (rest := []) [vI 2] (ct_X5_isOfKind_e (T := U22)) cl_X5_79 (qd_c (by decide +kernel)) (by decide) rfl (by decide +kernel) (Nat.le_of_ble_eq_true rfl) (by decide) (by decide) rfl ?_
  rintro U23 _ ⟨x24, rfl, fU23, qU23⟩
  show J_ zX5_readRule T (po_X5_readRule_e T s m) 0 0 9 [some (vR 105 0), some (vI s), some (vI m), none, none] [vI x24] U23
  refine j_blx (F := fX5) tb_X5 (by decide) bk_X5_readRule_e_9 bs_X5_readRule_e_9 hz (fun K hK => ?_)
  refine And.intro (fun c25 => ?_) (fun c25 => ?_)
  · refine hK 14 [some (vR 105 0), some (vI s), some (vI m), none, none] [] U23 ?_
    refine j_blx (F := fX5) tb_X5 (by decide) bk_X5_readRule_e_14 bs_X5_readRule_e_14 hz (fun K hK => ?_)
    intro b26 b26b
    have e27 : U23 105 0 8 = U22 105 0 8 := fU23 105 0 8 rfl
    rw [e27] at b26 b26b ⊢
    refine hK 22 [some (vR 105 0), some (vI s), some (vI m), some (vI 0), some (vI (U22 105 0 8))] [] U23 ?_
    have e28 : U23 105 0 8 = U22 105 0 8 := fU23 105 0 8 rfl
    have e29 : U23 105 0 9 = U22 105 0 9 := fU23 105 0 9 rfl
    have e30 : U23 105 0 7 = U22 105 0 7 := fU23 105 0 7 rfl
    refine c_22 _ 0 (U22 105 0 8) U23 (Nat.le_refl _) ?_ ?_ ?_ ?_ ?_
    · exact fr_t (fr_t (fr_0 _ _) (fr_s fU22 rfl)) (fr_s fU23 rfl)
    · have tr := tk9_r qU22
      have y2 := fU22 105 0 2 rfl
      have y3 := fU22 105 0 3 rfl
      omega
    · rw [fU23 105 0 8 rfl, fU23 105 0 9 rfl, fU23 105 0 7 rfl]
      exact qU22
    · omega
    · rw [show (U22 105 0 8 - U23 105 0 8 : Int) = 0 by omega]
      rfl
  · refine (show po_X5_readRule_e T s m U23 (some (vI 0)) from ?_)
    have e31 : U23 105 0 9 = U22 105 0 9 := fU23 105 0 9 rfl
    have e32 : U23 504 0 s = T 504 0 s := (fU23 504 0 s rfl).trans (fU22 504 0 s rfl)
    exact ⟨_, rfl, fr_t (fr_t (fr_0 _ _) (fr_s fU22 rfl)) (fr_s fU23 rfl), Or.inl ⟨rfl, nrf9_h qU22 (by omega) (by omega) qU23⟩, fun j _ => (show fr_ [(105, [2, 3, 7, 8, 9])] T U23 from fr_t (fr_t (fr_0 _ _) (fr_s fU22 rfl)) (fr_s fU23 rfl)) 504 0 j rfl⟩
theorem bk_X5_readPoints_e_0 : ck_ fX5 (some .boolean) cX5_readPoints 0 [.aload 0, .iconst 1] 2 = true := qck_r (by decide) (by decide +kernel)
theorem bs_X5_readPoints_e_0 {P : Zt → Option Zv → Prop} (K : Int → Zl → List Zv → Zt → Prop) : sx_ K P [.aload 0, .iconst 1] 2 = x_aload 0 (x_iconst 1 (K 2)) := ((xe_aload 0).trans (congrArg (x_aload 0) ((xe_iconst 1).trans (congrArg (x_iconst 1) xe_nil))))
theorem bk_X5_readPoints_e_5 : ck_ fX5 (some .boolean) cX5_readPoints 5 [.iconst 1] 6 = true := qck_r (by decide) (by decide +kernel)
theorem bs_X5_readPoints_e_5 {P : Zt → Option Zv → Prop} (K : Int → Zl → List Zv → Zt → Prop) : sx_ K P [.iconst 1] 6 = x_iconst 1 (K 6) := ((xe_iconst 1).trans (congrArg (x_iconst 1) xe_nil))
theorem bk_X5_readPoints_e_10 : ck_ fX5 (some .boolean) cX5_readPoints 10 [.ifCond .eq 45, .aload 0, .iconst 2, .aload 0, .tableswitch 0 5 4 #[], .iconst 1, .iaload] 21 = true := qck_r (by decide) (by decide +kernel)
theorem bs_X5_readPoints_e_10 {P : Zt → Option Zv → Prop} (K : Int → Zl → List Zv → Zt → Prop) : sx_ K P [.ifCond .eq 45, .aload 0, .iconst 2, .aload 0, .tableswitch 0 5 4 #[], .iconst 1, .iaload] 21 = x_ifCond .eq 45 K (x_aload 0 (x_iconst 2 (x_aload 0 (x_g1 105 504 (x_iconst 1 (x_iaload (K 21))))))) := ((xe_ifCond .eq 45).trans (congrArg (x_ifCond .eq 45 K) ((xe_aload 0).trans (congrArg (x_aload 0) ((xe_iconst 2).trans (congrArg (x_iconst 2) ((xe_aload 0).trans (congrArg (x_aload 0) ((xe_g1 (kk := 105) rfl tl_5_4).trans (congrArg (x_g1 105 504) ((xe_iconst 1).trans (congrArg (x_iconst 1) ((xe_iaload).trans (congrArg (x_iaload) xe_nil))))))))))))))
theorem bk_X5_readPoints_e_45 : ck_ fX5 (some .boolean) cX5_readPoints 45 [.iconst 0, .ireturn] 47 = true := qck_r (by decide) (by decide +kernel)
theorem bs_X5_readPoints_e_45 {P : Zt → Option Zv → Prop} (K : Int → Zl → List Zv → Zt → Prop) : sx_ K P [.iconst 0, .ireturn] 47 = x_iconst 0 (x_ireturn P) := ((xe_iconst 0).trans (congrArg (x_iconst 0) (xe_ireturn)))
theorem bk_X5_readPoints_e_24 : ck_ fX5 (some .boolean) cX5_readPoints 24 [.ifCond .eq 45, .aload 0, .iconst 3, .aload 0, .tableswitch 0 5 4 #[], .iconst 2, .iaload] 35 = true := qck_r (by decide) (by decide +kernel)
theorem bs_X5_readPoints_e_24 {P : Zt → Option Zv → Prop} (K : Int → Zl → List Zv → Zt → Prop) : sx_ K P [.ifCond .eq 45, .aload 0, .iconst 3, .aload 0, .tableswitch 0 5 4 #[], .iconst 2, .iaload] 35 = x_ifCond .eq 45 K (x_aload 0 (x_iconst 3 (x_aload 0 (x_g1 105 504 (x_iconst 2 (x_iaload (K 35))))))) := ((xe_ifCond .eq 45).trans (congrArg (x_ifCond .eq 45 K) ((xe_aload 0).trans (congrArg (x_aload 0) ((xe_iconst 3).trans (congrArg (x_iconst 3) ((xe_aload 0).trans (congrArg (x_aload 0) ((xe_g1 (kk := 105) rfl tl_5_4).trans (congrArg (x_g1 105 504) ((xe_iconst 2).trans (congrArg (x_iconst 2) ((xe_iaload).trans (congrArg (x_iaload) xe_nil))))))))))))))
theorem bk_X5_readPoints_e_38 : ck_ fX5 (some .boolean) cX5_readPoints 38 [.ifCond .eq 45, .iconst 1, .goto 46] 45 = true := qck_r (by decide) (by decide +kernel)
theorem bs_X5_readPoints_e_38 {P : Zt → Option Zv → Prop} (K : Int → Zl → List Zv → Zt → Prop) : sx_ K P [.ifCond .eq 45, .iconst 1, .goto 46] 45 = x_ifCond .eq 45 K (x_iconst 1 (x_goto 46 K)) := ((xe_ifCond .eq 45).trans (congrArg (x_ifCond .eq 45 K) ((xe_iconst 1).trans (congrArg (x_iconst 1) (xe_goto 46)))))
theorem bk_X5_readPoints_e_46 : ck_ fX5 (some .boolean) cX5_readPoints 46 [.ireturn] 47 = true := qck_r (by decide) (by decide +kernel)
theorem bs_X5_readPoints_e_46 {P : Zt → Option Zv → Prop} (K : Int → Zl → List Zv → Zt → Prop) : sx_ K P [.ireturn] 47 = x_ireturn P := (xe_ireturn)
abbrev po_X5_readPoints_e (T : Zt) : Zt → Option Zv → Prop := fun T' r => ∃ x : Int, r = some (vI x) ∧ fr_ [(105, [7, 8, 9, 2, 3]), (504, [])] T T' ∧ (((x = 0 ∧ pnf9_ (cl9_ (T 105 0 1) (fun j => T 500 0 j)) (T 105 0 1) (T 105 0 9) = Sum.inl (T' 105 0 2, T' 105 0 3)) ∨ (x = 1 ∧ pnf9_ (cl9_ (T 105 0 1) (fun j => T 500 0 j)) (T 105 0 1) (T 105 0 9) = Sum.inr (T' 105 0 9, T' 504 0 1, T' 504 0 2, T' 504 0 3) ∧ T' 105 0 2 = T 105 0 2 ∧ T' 105 0 3 = T 105 0 3 ∧ T 105 0 9 ≤ T' 105 0 9 ∧ T' 105 0 9 ≤ T 105 0 1)) ∧ ∀ j, j ≠ 1 → j ≠ 2 → j ≠ 3 → T' 504 0 j = T 504 0 j)
set_option maxHeartbeats 4000000 in
theorem ct_X5_readPoints_e {T : Zt} (h9 : T 105 0 9 ≤ T 105 0 1) : Ct_ yX5_readPoints zX5_readPoints T [vR 105 0] (po_X5_readPoints_e T) := by
  refine ct_of (by decide) rfl rfl (Nat.le_of_ble_eq_true rfl) (fun hT hav => ?_)
  have hz : zX5_readPoints.2.2.2.1 = some .boolean → ∀ (T' : Zt) (x : Int), po_X5_readPoints_e T T' (some (vI x)) → 0 ≤ x ∧ x ≤ 1 := fun _ T' x h => by obtain ⟨y, e, -, hy, -⟩ := h; cases e; omega
  have hln : 0 ≤ T 105 0 1 ∧ T 105 0 1 ≤ 400 := bd_f hT 105 1 (by decide +kernel : (tf_ 105)[1]? = some (0, 0, 0, 400)) 0
  have hte : 0 ≤ T 105 0 9 ∧ T 105 0 9 ≤ 400 := bd_f hT 105 9 (by decide +kernel : (tf_ 105)[9]? = some (0, 0, 0, 400)) 0
  show J_ zX5_readPoints T (po_X5_readPoints_e T) 0 0 0 [some (vR 105 0)] [] T
  refine j_blx (F := fX5) tb_X5 (by decide) bk_X5_readPoints_e_0 bs_X5_readPoints_e_0 hz (fun K hK => ?_)
  refine hK 2 [some (vR 105 0)] [vI 1, vR 105 0] T ?_
  refine j_gs81 (pc := 2) (i := 2) (by decide) (by decide) (lw_b3 52 (by decide +kernel) rfl : Cond.fieldLink RX5 72 "SportsHouse$RuleText" (sn_ 2) "[I" ∈ lw_g) (by decide +kernel) ?_
  show J_ zX5_readPoints T (po_X5_readPoints_e T) 0 0 5 [some (vR 105 0)] [vR 81 2, vI 1, vR 105 0] T
  refine j_blx (F := fX5) tb_X5 (by decide) bk_X5_readPoints_e_5 bs_X5_readPoints_e_5 hz (fun K hK => ?_)
  refine hK 6 [some (vR 105 0)] [vI 1, vR 81 2, vI 1, vR 105 0] T ?_
  refine j_ld81 (pc := 6) (i := 2) (by decide) (by decide) (by omega) (by omega) (by decide +kernel) ?_
  have y1 := sa_b 2 (by decide) (1 : Int).toNat (by omega)
  show J_ zX5_readPoints T (po_X5_readPoints_e T) 0 0 7 [some (vR 105 0)] [vI ((sa_ 2).getD (1 : Int).toNat 0), vI 1, vR 105 0] T
  refine j_callV (y := yX5_readRule) (Yc := zX5_readRule) (rest := []) [vI 1, vI ((sa_ 2).getD (1 : Int).toNat 0)] (ct_X5_readRule_e (T := T) (by omega) (by omega)) cl_X5_75 (qd_c (by decide +kernel)) (by decide) rfl (by decide +kernel) (Nat.le_of_ble_eq_true rfl) (by decide) (by decide) rfl ?_
  rintro U2 _ ⟨x3, rfl, fU2, qU2, oU2⟩
  show J_ zX5_readPoints T (po_X5_readPoints_e T) 0 0 10 [some (vR 105 0)] [vI x3] U2
  refine j_blx (F := fX5) tb_X5 (by decide) bk_X5_readPoints_e_10 bs_X5_readPoints_e_10 hz (fun K hK => ?_)
  refine And.intro (fun c4 => ?_) (fun c4 => ?_)
  · refine hK 45 [some (vR 105 0)] [] U2 ?_
    refine j_blx (F := fX5) tb_X5 (by decide) bk_X5_readPoints_e_45 bs_X5_readPoints_e_45 hz (fun K hK => ?_)
    refine (show po_X5_readPoints_e T U2 (some (vI 0)) from ?_)
    have g0 := qU2
    rw [show (sa_ 1).getD (Int.toNat 1) 0 = 0 by decide, show (sa_ 2).getD (Int.toNat 1) 0 = 9 by decide] at g0
    have b0 := (g0.resolve_right (fun z => by omega)).2
    exact ⟨_, rfl, fr_t (fr_0 _ _) (fr_s fU2 rfl), Or.inl ⟨rfl, bn9_l b0⟩, fun j h1 h2 h3 => oU2 j h1⟩
  · refine ix_i (by omega) ?_
    intro b5 b5b
    refine hK 21 [some (vR 105 0)] [vI (U2 504 0 1), vI 2, vR 105 0] U2 ?_
    have e6 : U2 105 0 1 = T 105 0 1 := (show fr_ [(105, [7, 8, 9, 2, 3]), (504, [])] T U2 from fr_t (fr_0 _ _) (fr_s fU2 rfl)) 105 0 1 rfl
    have y7 := (qU2.resolve_left (fun z => by omega)).2.2
    have e8 : U2 105 0 1 = T 105 0 1 := fU2 105 0 1 rfl
    refine j_callV (y := yX5_readRule) (Yc := zX5_readRule) (rest := []) [vI 2, vI (U2 504 0 1)] (ct_X5_readRule_e (T := U2) (by omega) (by omega)) cl_X5_75 (qd_c (by decide +kernel)) (by decide) rfl (by decide +kernel) (Nat.le_of_ble_eq_true rfl) (by decide) (by decide) rfl ?_
    rintro U9 _ ⟨x10, rfl, fU9, qU9, oU9⟩
    show J_ zX5_readPoints T (po_X5_readPoints_e T) 0 0 24 [some (vR 105 0)] [vI x10] U9
    refine j_blx (F := fX5) tb_X5 (by decide) bk_X5_readPoints_e_24 bs_X5_readPoints_e_24 hz (fun K hK => ?_)
    refine And.intro (fun c11 => ?_) (fun c11 => ?_)
    · refine hK 45 [some (vR 105 0)] [] U9 ?_
      refine j_blx (F := fX5) tb_X5 (by decide) bk_X5_readPoints_e_45 bs_X5_readPoints_e_45 hz (fun K hK => ?_)
      refine (show po_X5_readPoints_e T U9 (some (vI 0)) from ?_)
      have g0 := qU2
      rw [show (sa_ 1).getD (Int.toNat 1) 0 = 0 by decide, show (sa_ 2).getD (Int.toNat 1) 0 = 9 by decide] at g0
      have fb12 : fr_ [(105, [7, 8, 9, 2, 3]), (504, [])] T U2 := fr_t (fr_0 _ _) (fr_s fU2 rfl)
      have g1 := qU9
      rw [show (sa_ 1).getD (Int.toNat 2) 0 = 0 by decide, show (fun j => U2 500 0 j) = fun j => T 500 0 j from funext fun j => fb12 500 0 j rfl, show U2 105 0 1 = T 105 0 1 from fb12 105 0 1 rfl] at g1
      have b0 := (g0.resolve_left (fun z => by omega)).2.1
      have b1 := (g1.resolve_right (fun z => by omega)).2
      exact ⟨_, rfl, fr_t (fr_t (fr_0 _ _) (fr_s fU2 rfl)) (fr_s fU9 rfl), Or.inl ⟨rfl, (bn9_r b0).trans (bn9_l b1)⟩, fun j h1 h2 h3 => (oU9 j h2).trans (oU2 j h1)⟩
    · refine ix_i (by omega) ?_
      intro b13 b13b
      refine hK 35 [some (vR 105 0)] [vI (U9 504 0 2), vI 3, vR 105 0] U9 ?_
      have e14 : U9 105 0 1 = T 105 0 1 := (show fr_ [(105, [7, 8, 9, 2, 3]), (504, [])] T U9 from fr_t (fr_t (fr_0 _ _) (fr_s fU2 rfl)) (fr_s fU9 rfl)) 105 0 1 rfl
      have y15 := (qU9.resolve_left (fun z => by omega)).2.2
      have e16 : U9 105 0 1 = T 105 0 1 := (fU9 105 0 1 rfl).trans (fU2 105 0 1 rfl)
      refine j_callV (y := yX5_readRule) (Yc := zX5_readRule) (rest := []) [vI 3, vI (U9 504 0 2)] (ct_X5_readRule_e (T := U9) (by omega) (by omega)) cl_X5_75 (qd_c (by decide +kernel)) (by decide) rfl (by decide +kernel) (Nat.le_of_ble_eq_true rfl) (by decide) (by decide) rfl ?_
      rintro U17 _ ⟨x18, rfl, fU17, qU17, oU17⟩
      show J_ zX5_readPoints T (po_X5_readPoints_e T) 0 0 38 [some (vR 105 0)] [vI x18] U17
      refine j_blx (F := fX5) tb_X5 (by decide) bk_X5_readPoints_e_38 bs_X5_readPoints_e_38 hz (fun K hK => ?_)
      refine And.intro (fun c19 => ?_) (fun c19 => ?_)
      · refine hK 45 [some (vR 105 0)] [] U17 ?_
        refine j_blx (F := fX5) tb_X5 (by decide) bk_X5_readPoints_e_45 bs_X5_readPoints_e_45 hz (fun K hK => ?_)
        refine (show po_X5_readPoints_e T U17 (some (vI 0)) from ?_)
        have g0 := qU2
        rw [show (sa_ 1).getD (Int.toNat 1) 0 = 0 by decide, show (sa_ 2).getD (Int.toNat 1) 0 = 9 by decide] at g0
        have fb20 : fr_ [(105, [7, 8, 9, 2, 3]), (504, [])] T U2 := fr_t (fr_0 _ _) (fr_s fU2 rfl)
        have g1 := qU9
        rw [show (sa_ 1).getD (Int.toNat 2) 0 = 0 by decide, show (fun j => U2 500 0 j) = fun j => T 500 0 j from funext fun j => fb20 500 0 j rfl, show U2 105 0 1 = T 105 0 1 from fb20 105 0 1 rfl] at g1
        have fb21 : fr_ [(105, [7, 8, 9, 2, 3]), (504, [])] T U9 := fr_t (fr_t (fr_0 _ _) (fr_s fU2 rfl)) (fr_s fU9 rfl)
        have g2 := qU17
        rw [show (sa_ 1).getD (Int.toNat 3) 0 = 0 by decide, show (fun j => U9 500 0 j) = fun j => T 500 0 j from funext fun j => fb21 500 0 j rfl, show U9 105 0 1 = T 105 0 1 from fb21 105 0 1 rfl] at g2
        have b0 := (g0.resolve_left (fun z => by omega)).2.1
        have b1 := (g1.resolve_left (fun z => by omega)).2.1
        have b2 := (g2.resolve_right (fun z => by omega)).2
        exact ⟨_, rfl, fr_t (fr_t (fr_t (fr_0 _ _) (fr_s fU2 rfl)) (fr_s fU9 rfl)) (fr_s fU17 rfl), Or.inl ⟨rfl, (bn9_r b0).trans ((bn9_r b1).trans (bn9_l b2))⟩, fun j h1 h2 h3 => (oU17 j h3).trans ((oU9 j h2).trans (oU2 j h1))⟩
      · refine hK 46 [some (vR 105 0)] [vI 1] U17 ?_
        refine j_blx (F := fX5) tb_X5 (by decide) bk_X5_readPoints_e_46 bs_X5_readPoints_e_46 hz (fun K hK => ?_)
        refine (show po_X5_readPoints_e T U17 (some (vI 1)) from ?_)
        have g0 := qU2
        rw [show (sa_ 1).getD (Int.toNat 1) 0 = 0 by decide, show (sa_ 2).getD (Int.toNat 1) 0 = 9 by decide] at g0
        have fb22 : fr_ [(105, [7, 8, 9, 2, 3]), (504, [])] T U2 := fr_t (fr_0 _ _) (fr_s fU2 rfl)
        have g1 := qU9
        rw [show (sa_ 1).getD (Int.toNat 2) 0 = 0 by decide, show (fun j => U2 500 0 j) = fun j => T 500 0 j from funext fun j => fb22 500 0 j rfl, show U2 105 0 1 = T 105 0 1 from fb22 105 0 1 rfl] at g1
        have fb23 : fr_ [(105, [7, 8, 9, 2, 3]), (504, [])] T U9 := fr_t (fr_t (fr_0 _ _) (fr_s fU2 rfl)) (fr_s fU9 rfl)
        have g2 := qU17
        rw [show (sa_ 1).getD (Int.toNat 3) 0 = 0 by decide, show (fun j => U9 500 0 j) = fun j => T 500 0 j from funext fun j => fb23 500 0 j rfl, show U9 105 0 1 = T 105 0 1 from fb23 105 0 1 rfl] at g2
        have b0 := (g0.resolve_left (fun z => by omega)).2
        have b1 := (g1.resolve_left (fun z => by omega)).2
        have b2 := (g2.resolve_left (fun z => by omega)).2
        have w1 : U17 504 0 1 = U2 504 0 1 := (oU17 1 (by decide)).trans (oU9 1 (by decide))
        have w2 : U17 504 0 2 = U9 504 0 2 := oU17 2 (by decide)
        refine ⟨_, rfl, fr_t (fr_t (fr_t (fr_0 _ _) (fr_s fU2 rfl)) (fr_s fU9 rfl)) (fr_s fU17 rfl), Or.inr ⟨rfl, ?_, by omega, by omega, by omega, by omega⟩, fun j h1 h2 h3 => (oU17 j h3).trans ((oU9 j h2).trans (oU2 j h1))⟩
        rw [w1, w2]
        exact (bn9_r b0.1).trans ((bn9_r b1.1).trans (bn9_r b2.1))
theorem bk_X5_readSport_e_0 : ck_ fX5 (some .boolean) cX5_readSport 0 [.aload 0] 1 = true := qck_r (by decide) (by decide +kernel)
theorem bs_X5_readSport_e_0 {P : Zt → Option Zv → Prop} (K : Int → Zl → List Zv → Zt → Prop) : sx_ K P [.aload 0] 1 = x_aload 0 (K 1) := ((xe_aload 0).trans (congrArg (x_aload 0) xe_nil))
theorem bk_X5_readSport_e_4 : ck_ fX5 (some .boolean) cX5_readSport 4 [.aload 0] 5 = true := qck_r (by decide) (by decide +kernel)
theorem bs_X5_readSport_e_4 {P : Zt → Option Zv → Prop} (K : Int → Zl → List Zv → Zt → Prop) : sx_ K P [.aload 0] 5 = x_aload 0 (K 5) := ((xe_aload 0).trans (congrArg (x_aload 0) xe_nil))
theorem bk_X5_readSport_e_10 : ck_ fX5 (some .boolean) cX5_readSport 10 [.istore 1, .iload 1, .iconst (-1), .if_icmp .ne 18, .iconst 0, .ireturn] 18 = true := qck_r (by decide) (by decide +kernel)
theorem bs_X5_readSport_e_10 {P : Zt → Option Zv → Prop} (K : Int → Zl → List Zv → Zt → Prop) : sx_ K P [.istore 1, .iload 1, .iconst (-1), .if_icmp .ne 18, .iconst 0, .ireturn] 18 = x_istore 1 (x_iload 1 (x_iconst (-1) (x_if_icmp .ne 18 K (x_iconst 0 (x_ireturn P))))) := ((xe_istore 1).trans (congrArg (x_istore 1) ((xe_iload 1).trans (congrArg (x_iload 1) ((xe_iconst (-1)).trans (congrArg (x_iconst (-1)) ((xe_if_icmp .ne 18).trans (congrArg (x_if_icmp .ne 18 K) ((xe_iconst 0).trans (congrArg (x_iconst 0) (xe_ireturn)))))))))))
theorem bk_X5_readSport_e_18 : ck_ fX5 (some .boolean) cX5_readSport 18 [.aload 0, .tableswitch 0 5 4 #[], .iconst 0, .iload 1, .iastore, .iconst 1, .ireturn] 27 = true := qck_r (by decide) (by decide +kernel)
theorem bs_X5_readSport_e_18 {P : Zt → Option Zv → Prop} (K : Int → Zl → List Zv → Zt → Prop) : sx_ K P [.aload 0, .tableswitch 0 5 4 #[], .iconst 0, .iload 1, .iastore, .iconst 1, .ireturn] 27 = x_aload 0 (x_g1 105 504 (x_iconst 0 (x_iload 1 (x_iastore (x_iconst 1 (x_ireturn P)))))) := ((xe_aload 0).trans (congrArg (x_aload 0) ((xe_g1 (kk := 105) rfl tl_5_4).trans (congrArg (x_g1 105 504) ((xe_iconst 0).trans (congrArg (x_iconst 0) ((xe_iload 1).trans (congrArg (x_iload 1) ((xe_iastore).trans (congrArg (x_iastore) ((xe_iconst 1).trans (congrArg (x_iconst 1) (xe_ireturn)))))))))))))
abbrev po_X5_readSport_e (T : Zt) : Zt → Option Zv → Prop := fun T' r => ∃ x : Int, r = some (vI x) ∧ fr_ [(105, [7, 8, 9, 2, 3]), (504, [])] T T' ∧ (((x = 0 ∧ wof9_ wl_265 wt_265 (cl9_ (T 105 0 1) (fun j => T 500 0 j)) (T 105 0 1) (T 105 0 9) = Sum.inl (T' 105 0 2, T' 105 0 3)) ∨ (x = 1 ∧ wof9_ wl_265 wt_265 (cl9_ (T 105 0 1) (fun j => T 500 0 j)) (T 105 0 1) (T 105 0 9) = Sum.inr (T' 105 0 9, T' 504 0 0) ∧ T' 105 0 2 = T 105 0 2 ∧ T' 105 0 3 = T 105 0 3 ∧ T 105 0 9 ≤ T' 105 0 9 ∧ T' 105 0 9 ≤ T 105 0 1)) ∧ ∀ j, j ≠ 0 → T' 504 0 j = T 504 0 j)
set_option maxHeartbeats 4000000 in
theorem ct_X5_readSport_e {T : Zt} (h9 : T 105 0 9 ≤ T 105 0 1) : Ct_ yX5_readSport zX5_readSport T [vR 105 0] (po_X5_readSport_e T) := by
  refine ct_of (by decide) rfl rfl (Nat.le_of_ble_eq_true rfl) (fun hT hav => ?_)
  have hz : zX5_readSport.2.2.2.1 = some .boolean → ∀ (T' : Zt) (x : Int), po_X5_readSport_e T T' (some (vI x)) → 0 ≤ x ∧ x ≤ 1 := fun _ T' x h => by obtain ⟨y, e, -, hy, -⟩ := h; cases e; omega
  have hln : 0 ≤ T 105 0 1 ∧ T 105 0 1 ≤ 400 := bd_f hT 105 1 (by decide +kernel : (tf_ 105)[1]? = some (0, 0, 0, 400)) 0
  have hte : 0 ≤ T 105 0 9 ∧ T 105 0 9 ≤ 400 := bd_f hT 105 9 (by decide +kernel : (tf_ 105)[9]? = some (0, 0, 0, 400)) 0
  show J_ zX5_readSport T (po_X5_readSport_e T) 0 0 0 [some (vR 105 0), none] [] T
  refine j_blx (F := fX5) tb_X5 (by decide) bk_X5_readSport_e_0 bs_X5_readSport_e_0 hz (fun K hK => ?_)
  refine hK 1 [some (vR 105 0), none] [vR 105 0] T ?_
  refine j_callV (y := yX5_nextToken) (Yc := zX5_nextToken) (rest := []) [] (ct_X5_nextToken_e (T := T) (by omega)) cl_X5_43 (qd_c (by decide +kernel)) (by decide) rfl (by decide +kernel) (Nat.le_of_ble_eq_true rfl) (by decide) (by decide) rfl ?_
  rintro U1 _ ⟨rfl, fU1, qU1⟩
  show J_ zX5_readSport T (po_X5_readSport_e T) 0 0 4 [some (vR 105 0), none] [] U1
  have toU1 := qU1
  have trU1 := tk9_r toU1
  refine j_blx (F := fX5) tb_X5 (by decide) bk_X5_readSport_e_4 bs_X5_readSport_e_4 hz (fun K hK => ?_)
  refine hK 5 [some (vR 105 0), none] [vR 105 0] U1 ?_
  refine j_ldcS (pc := 5) (i := 1) (by decide) rfl (by decide) rfl (by decide +kernel) ?_
  show J_ zX5_readSport T (po_X5_readSport_e T) 0 0 7 [some (vR 105 0), none] [vR 82 1, vR 105 0] U1
  refine j_callV (y := yX5_wordOf) (Yc := zX5_wordOf) (rest := []) [vR 82 1] (ct_X5_wordOf_e1 (T := U1) (by omega)) cl_X5_55 (qd_c (by decide +kernel)) (by decide) rfl (by decide +kernel) (Nat.le_of_ble_eq_true rfl) (by decide) (by decide) rfl ?_
  rintro U2 _ ⟨x3, rfl, fU2, qU2⟩
  show J_ zX5_readSport T (po_X5_readSport_e T) 0 0 10 [some (vR 105 0), none] [vI x3] U2
  refine j_blx (F := fX5) tb_X5 (by decide) bk_X5_readSport_e_10 bs_X5_readSport_e_10 hz (fun K hK => ?_)
  refine And.intro (fun c4 => ?_) (fun c4 => ?_)
  · refine hK 18 [some (vR 105 0), some (vI x3)] [] U2 ?_
    refine j_blx (F := fX5) tb_X5 (by decide) bk_X5_readSport_e_18 bs_X5_readSport_e_18 hz (fun K hK => ?_)
    refine iy_i (by omega) (by omega) ?_
    refine x_nm (fun U5 hU5 => ?_)
    have e6 := up_f hU5
    refine (show po_X5_readSport_e T U5 (some (vI 1)) from ?_)
    have e7 : U5 105 0 2 = U2 105 0 2 := up_k hU5 (by decide) 0 2
    have e8 : U5 105 0 3 = U2 105 0 3 := up_k hU5 (by decide) 0 3
    have e9 : U5 105 0 9 = U1 105 0 9 := (up_k hU5 (by decide) 0 9).trans (fU2 105 0 9 rfl)
    have e10 : U5 504 0 0 = x3 := up_f hU5
    have hw := qU2
    have fb11 : fr_ [(105, [7, 8, 9])] T U1 := fr_t (fr_0 _ _) (fr_s fU1 rfl)
    rw [show (fun j => U1 500 0 j) = fun j => T 500 0 j from funext fun j => fb11 500 0 j rfl] at hw
    have hv := wof9_h ds9_1 toU1 (by omega) hw
    have b0 := (hv.resolve_left (fun z => by omega)).2
    have b1 := b0.2
    have w9 : U5 105 0 9 = U1 105 0 9 := (up_k hU5 (by decide) 0 9).trans (fU2 105 0 9 rfl)
    have w2 : U5 105 0 2 = U2 105 0 2 := up_k hU5 (by decide) 0 2
    have y2 : U1 105 0 2 = T 105 0 2 := fU1 105 0 2 rfl
    have w3 : U5 105 0 3 = U2 105 0 3 := up_k hU5 (by decide) 0 3
    have y3 : U1 105 0 3 = T 105 0 3 := fU1 105 0 3 rfl
    refine ⟨_, rfl, fr_u (fr_t (fr_t (fr_0 _ _) (fr_s fU1 rfl)) (fr_s fU2 rfl)) hU5 rfl, Or.inr ⟨rfl, ?_, by omega, by omega, by omega, by omega⟩, fun j hj => (up_g hU5 (fun z => hj z.2.2)).trans ((show fr_ [(105, [2, 3, 7, 8, 9])] T U2 from fr_t (fr_t (fr_0 _ _) (fr_s fU1 rfl)) (fr_s fU2 rfl)) 504 0 j rfl)⟩
    rw [w9, up_f hU5]
    exact b0.1
  · refine (show po_X5_readSport_e T U2 (some (vI 0)) from ?_)
    have e12 : U2 105 0 9 = U1 105 0 9 := fU2 105 0 9 rfl
    have e13 : U2 504 0 0 = T 504 0 0 := (fU2 504 0 0 rfl).trans (fU1 504 0 0 rfl)
    have hw := qU2
    have fb14 : fr_ [(105, [7, 8, 9])] T U1 := fr_t (fr_0 _ _) (fr_s fU1 rfl)
    rw [show (fun j => U1 500 0 j) = fun j => T 500 0 j from funext fun j => fb14 500 0 j rfl] at hw
    have hv := wof9_h ds9_1 toU1 (by omega) hw
    exact ⟨_, rfl, fr_t (fr_t (fr_0 _ _) (fr_s fU1 rfl)) (fr_s fU2 rfl), Or.inl ⟨rfl, (hv.resolve_right (fun z => by omega)).2⟩, fun j _ => (show fr_ [(105, [2, 3, 7, 8, 9])] T U2 from fr_t (fr_t (fr_0 _ _) (fr_s fU1 rfl)) (fr_s fU2 rfl)) 504 0 j rfl⟩

