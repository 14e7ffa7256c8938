theorem bk_X6_whyNot_f_57 : ck_ fX6 (some .int) cX6_whyNot 57 [.iload 4, .aload 0, .tableswitch 0 6 4 #[], .if_icmp .ge 123, .aload 0, .tableswitch 0 6 3 #[], .iload 4, .aaload, .astore 5, .iload 4, .aload 2, .tableswitch 0 2 1 #[], .if_icmp .eq 117, .aload 5, .tableswitch 0 2 5 #[], .aload 2, .tableswitch 0 2 5 #[], .if_icmp .ne 117, .aload 5, .tableswitch 0 2 6 #[], .iconst (-1), .if_icmp .ne 117, .aload 5, .iload 1] 108 = true := qck_r (nn_ _) (by decide +kernel)
theorem bs_X6_whyNot_f_57 {P : Zt → Option Zv → Prop} (K : Int → Zl → List Zv → Zt → Prop) : sx_ K P [.iload 4, .aload 0, .tableswitch 0 6 4 #[], .if_icmp .ge 123, .aload 0, .tableswitch 0 6 3 #[], .iload 4, .aaload, .astore 5, .iload 4, .aload 2, .tableswitch 0 2 1 #[], .if_icmp .eq 117, .aload 5, .tableswitch 0 2 5 #[], .aload 2, .tableswitch 0 2 5 #[], .if_icmp .ne 117, .aload 5, .tableswitch 0 2 6 #[], .iconst (-1), .if_icmp .ne 117, .aload 5, .iload 1] 108 = x_iload 4 (x_aload 0 (x_g0 106 4 0 400 (x_if_icmp .ge 123 K (x_aload 0 (x_g1 106 523 (x_iload 4 (x_aaload (x_astore 5 (x_iload 4 (x_aload 2 (x_g0 102 1 0 399 (x_if_icmp .eq 117 K (x_aload 5 (x_g0 102 5 0 999 (x_aload 2 (x_g0 102 5 0 999 (x_if_icmp .ne 117 K (x_aload 5 (x_g0 102 6 (-1) 1 (x_iconst (-1) (x_if_icmp .ne 117 K (x_aload 5 (x_iload 1 (K 108)))))))))))))))))))))))) := ((xe_iload 4).trans (congrArg (x_iload 4) ((xe_aload 0).trans (congrArg (x_aload 0) ((xe_g0 (kk := 106) rfl tl_6_4).trans (congrArg (x_g0 106 4 0 400) ((xe_if_icmp .ge 123).trans (congrArg (x_if_icmp .ge 123 K) ((xe_aload 0).trans (congrArg (x_aload 0) ((xe_g1 (kk := 106) rfl tl_6_3).trans (congrArg (x_g1 106 523) ((xe_iload 4).trans (congrArg (x_iload 4) ((xe_aaload).trans (congrArg (x_aaload) ((xe_astore 5).trans (congrArg (x_astore 5) ((xe_iload 4).trans (congrArg (x_iload 4) ((xe_aload 2).trans (congrArg (x_aload 2) ((xe_g0 (kk := 102) rfl tl_2_1).trans (congrArg (x_g0 102 1 0 399) ((xe_if_icmp .eq 117).trans (congrArg (x_if_icmp .eq 117 K) ((xe_aload 5).trans (congrArg (x_aload 5) ((xe_g0 (kk := 102) rfl tl_2_5).trans (congrArg (x_g0 102 5 0 999) ((xe_aload 2).trans (congrArg (x_aload 2) ((xe_g0 (kk := 102) rfl tl_2_5).trans (congrArg (x_g0 102 5 0 999) ((xe_if_icmp .ne 117).trans (congrArg (x_if_icmp .ne 117 K) ((xe_aload 5).trans (congrArg (x_aload 5) ((xe_g0 (kk := 102) rfl tl_2_6).trans (congrArg (x_g0 102 6 (-1) 1) ((xe_iconst (-1)).trans (congrArg (x_iconst (-1)) ((xe_if_icmp .ne 117).trans (congrArg (x_if_icmp .ne 117 K) ((xe_aload 5).trans (congrArg (x_aload 5) ((xe_iload 1).trans (congrArg (x_iload 1) xe_nil))))))))))))))))))))))))))))))))))))))))))))))))
theorem bk_X6_whyNot_f_123 : ck_ fX6 (some .int) cX6_whyNot 123 [.iconst 0, .ireturn] 125 = true := qck_r (nn_ _) (by decide +kernel)
theorem bs_X6_whyNot_f_123 {P : Zt → Option Zv → Prop} (K : Int → Zl → List Zv → Zt → Prop) : sx_ K P [.iconst 0, .ireturn] 125 = x_iconst 0 (x_ireturn P) := ((xe_iconst 0).trans (congrArg (x_iconst 0) (xe_ireturn)))
theorem bk_X6_whyNot_f_117 : ck_ fX6 (some .int) cX6_whyNot 117 [.iinc 4 1, .goto 57] 123 = true := qck_r (nn_ _) (by decide +kernel)
theorem bs_X6_whyNot_f_117 {P : Zt → Option Zv → Prop} (K : Int → Zl → List Zv → Zt → Prop) : sx_ K P [.iinc 4 1, .goto 57] 123 = x_iinc 4 1 (x_goto 57 K) := ((xe_iinc 4 1).trans (congrArg (x_iinc 4 1) (xe_goto 57)))
theorem bk_X6_whyNot_f_111 : ck_ fX6 (some .int) cX6_whyNot 111 [.iconst (-1), .if_icmp .eq 117, .iconst 4, .ireturn] 117 = true := qck_r (nn_ _) (by decide +kernel)
theorem bs_X6_whyNot_f_111 {P : Zt → Option Zv → Prop} (K : Int → Zl → List Zv → Zt → Prop) : sx_ K P [.iconst (-1), .if_icmp .eq 117, .iconst 4, .ireturn] 117 = x_iconst (-1) (x_if_icmp .eq 117 K (x_iconst 4 (x_ireturn P))) := ((xe_iconst (-1)).trans (congrArg (x_iconst (-1)) ((xe_if_icmp .eq 117).trans (congrArg (x_if_icmp .eq 117 K) ((xe_iconst 4).trans (congrArg (x_iconst 4) (xe_ireturn)))))))
theorem bk_X6_whyNot_f_27 : ck_ fX6 (some .int) cX6_whyNot 27 [.if_icmp .eq 32, .iconst 1, .ireturn] 32 = true := qck_r (nn_ _) (by decide +kernel)
theorem bs_X6_whyNot_f_27 {P : Zt → Option Zv → Prop} (K : Int → Zl → List Zv → Zt → Prop) : sx_ K P [.if_icmp .eq 32, .iconst 1, .ireturn] 32 = x_if_icmp .eq 32 K (x_iconst 1 (x_ireturn P)) := ((xe_if_icmp .eq 32).trans (congrArg (x_if_icmp .eq 32 K) ((xe_iconst 1).trans (congrArg (x_iconst 1) (xe_ireturn)))))
theorem bk_X6_whyNot_f_32 : ck_ fX6 (some .int) cX6_whyNot 32 [.aload 0, .iload 1, .aload 2] 35 = true := qck_r (nn_ _) (by decide +kernel)
theorem bs_X6_whyNot_f_32 {P : Zt → Option Zv → Prop} (K : Int → Zl → List Zv → Zt → Prop) : sx_ K P [.aload 0, .iload 1, .aload 2] 35 = x_aload 0 (x_iload 1 (x_aload 2 (K 35))) := ((xe_aload 0).trans (congrArg (x_aload 0) ((xe_iload 1).trans (congrArg (x_iload 1) ((xe_aload 2).trans (congrArg (x_aload 2) xe_nil))))))
theorem bk_X6_whyNot_f_38 : ck_ fX6 (some .int) cX6_whyNot 38 [.ifCond .eq 43, .iconst 2, .ireturn] 43 = true := qck_r (nn_ _) (by decide +kernel)
theorem bs_X6_whyNot_f_38 {P : Zt → Option Zv → Prop} (K : Int → Zl → List Zv → Zt → Prop) : sx_ K P [.ifCond .eq 43, .iconst 2, .ireturn] 43 = x_ifCond .eq 43 K (x_iconst 2 (x_ireturn P)) := ((xe_ifCond .eq 43).trans (congrArg (x_ifCond .eq 43 K) ((xe_iconst 2).trans (congrArg (x_iconst 2) (xe_ireturn)))))
theorem bk_X6_whyNot_f_43 : ck_ fX6 (some .int) cX6_whyNot 43 [.aload 2, .iload 1] 45 = true := qck_r (nn_ _) (by decide +kernel)
theorem bs_X6_whyNot_f_43 {P : Zt → Option Zv → Prop} (K : Int → Zl → List Zv → Zt → Prop) : sx_ K P [.aload 2, .iload 1] 45 = x_aload 2 (x_iload 1 (K 45)) := ((xe_aload 2).trans (congrArg (x_aload 2) ((xe_iload 1).trans (congrArg (x_iload 1) xe_nil))))
theorem bk_X6_whyNot_f_48 : ck_ fX6 (some .int) cX6_whyNot 48 [.iconst (-1), .if_icmp .eq 54, .iconst 3, .ireturn] 54 = true := qck_r (nn_ _) (by decide +kernel)
theorem bs_X6_whyNot_f_48 {P : Zt → Option Zv → Prop} (K : Int → Zl → List Zv → Zt → Prop) : sx_ K P [.iconst (-1), .if_icmp .eq 54, .iconst 3, .ireturn] 54 = x_iconst (-1) (x_if_icmp .eq 54 K (x_iconst 3 (x_ireturn P))) := ((xe_iconst (-1)).trans (congrArg (x_iconst (-1)) ((xe_if_icmp .eq 54).trans (congrArg (x_if_icmp .eq 54 K) ((xe_iconst 3).trans (congrArg (x_iconst 3) (xe_ireturn)))))))
theorem bk_X6_whyNot_f_54 : ck_ fX6 (some .int) cX6_whyNot 54 [.iconst 0, .istore 4] 57 = true := qck_r (nn_ _) (by decide +kernel)
theorem bs_X6_whyNot_f_54 {P : Zt → Option Zv → Prop} (K : Int → Zl → List Zv → Zt → Prop) : sx_ K P [.iconst 0, .istore 4] 57 = x_iconst 0 (x_istore 4 (K 57)) := ((xe_iconst 0).trans (congrArg (x_iconst 0) ((xe_istore 4).trans (congrArg (x_istore 4) xe_nil))))
theorem bk_X6_whyNot_f_0 : ck_ fX6 (some .int) cX6_whyNot 0 [.aload 0, .tableswitch 0 6 0 #[], .iload 1, .aload 2, .tableswitch 0 2 5 #[]] 9 = true := qck_r (nn_ _) (by decide +kernel)
theorem bs_X6_whyNot_f_0 {P : Zt → Option Zv → Prop} (K : Int → Zl → List Zv → Zt → Prop) : sx_ K P [.aload 0, .tableswitch 0 6 0 #[], .iload 1, .aload 2, .tableswitch 0 2 5 #[]] 9 = x_aload 0 (x_g1 106 108 (x_iload 1 (x_aload 2 (x_g0 102 5 0 999 (K 9))))) := ((xe_aload 0).trans (congrArg (x_aload 0) ((xe_g1 (kk := 106) rfl tl_6_0).trans (congrArg (x_g1 106 108) ((xe_iload 1).trans (congrArg (x_iload 1) ((xe_aload 2).trans (congrArg (x_aload 2) ((xe_g0 (kk := 102) rfl tl_2_5).trans (congrArg (x_g0 102 5 0 999) xe_nil))))))))))
theorem bk_X6_whyNot_f_12 : ck_ fX6 (some .int) cX6_whyNot 12 [.iload 3, .ifCond .ne 23, .aload 2, .tableswitch 0 2 3 #[], .goto 27] 23 = true := qck_r (nn_ _) (by decide +kernel)
theorem bs_X6_whyNot_f_12 {P : Zt → Option Zv → Prop} (K : Int → Zl → List Zv → Zt → Prop) : sx_ K P [.iload 3, .ifCond .ne 23, .aload 2, .tableswitch 0 2 3 #[], .goto 27] 23 = x_iload 3 (x_ifCond .ne 23 K (x_aload 2 (x_g0 102 3 0 11 (x_goto 27 K)))) := ((xe_iload 3).trans (congrArg (x_iload 3) ((xe_ifCond .ne 23).trans (congrArg (x_ifCond .ne 23 K) ((xe_aload 2).trans (congrArg (x_aload 2) ((xe_g0 (kk := 102) rfl tl_2_3).trans (congrArg (x_g0 102 3 0 11) (xe_goto 27)))))))))
theorem bk_X6_whyNot_f_23 : ck_ fX6 (some .int) cX6_whyNot 23 [.aload 2, .tableswitch 0 2 4 #[]] 27 = true := qck_r (nn_ _) (by decide +kernel)
theorem bs_X6_whyNot_f_23 {P : Zt → Option Zv → Prop} (K : Int → Zl → List Zv → Zt → Prop) : sx_ K P [.aload 2, .tableswitch 0 2 4 #[]] 27 = x_aload 2 (x_g0 102 4 0 11 (K 27)) := ((xe_aload 2).trans (congrArg (x_aload 2) ((xe_g0 (kk := 102) rfl tl_2_4).trans (congrArg (x_g0 102 4 0 11) xe_nil))))
abbrev po_X6_whyNot_f (T : Zt) (p : Int) (q d : Int) : Zt → Option Zv → Prop := fun T' r => ∃ x : Int, r = some (vI x) ∧ fr_ [(533, [])] T T' ∧ (x = wyH_ T q p d)
set_option maxHeartbeats 4000000 in
theorem ct_X6_whyNot_f {T : Zt} {p : Int} {q d : Int} (hka : KA_ T) (hkm : KM_ T) (hkc : KC_ T) (hq : 0 ≤ q ∧ q < 200) (hp : 0 ≤ p ∧ p < T 106 0 4) (hq2 : q < T 108 0 3) (hsp : SPR_ T) : Ct_ yX6_whyNot zX6_whyNot T [vR 106 0, vI q, vR 102 p, vI d] (po_X6_whyNot_f T p q d) := by
  refine ct_of pn_6 rfl rfl (Nat.le_of_ble_eq_true rfl) (fun hT hav => ?_)
  have hr_q : -2147483648 ≤ q ∧ q ≤ 2147483647 := hav (vI q) (List.mem_cons_of_mem _ List.mem_cons_self)
  have hr_d : -2147483648 ≤ d ∧ d ≤ 2147483647 := hav (vI d) (List.mem_cons_of_mem _ (List.mem_cons_of_mem _ (List.mem_cons_of_mem _ List.mem_cons_self)))
  have hz : zX6_whyNot.2.2.2.1 = some .boolean → ∀ (T' : Zt) (x : Int), po_X6_whyNot_f T p q d T' (some (vI x)) → 0 ≤ x ∧ x ≤ 1 := fun h => by cases h
  have hb_matchCount : 0 ≤ T 106 0 4 ∧ T 106 0 4 ≤ 400 := bd_f hT 106 4 tl_6_4 0
  have hmp := hkm p (by omega) (by omega)
  have hcp := hkc (T 102 p 0) (by omega) (by omega)
  have hb7 : 0 ≤ T 100 (T 102 p 0) 7 ∧ T 100 (T 102 p 0) 7 ≤ 400 := bd_f hT 100 7 tl_0_7 (T 102 p 0)
  have hb8 : 0 ≤ T 100 (T 102 p 0) 8 ∧ T 100 (T 102 p 0) 8 ≤ 400 := bd_f hT 100 8 tl_0_8 (T 102 p 0)
  show J_ zX6_whyNot T (po_X6_whyNot_f T p q d) 0 0 0 [some (vR 106 0), some (vI q), some (vR 102 p), some (vI d), none, none] [] T
  have c_57 : ∀ (nn : Nat) (k : Int) (T1 : Zt), ((400 - k).toNat) ≤ nn → (fr_ [(533, [])] T T1) → (0 ≤ k ∧ (k = 0 ∨ k ≤ T 106 0 4)) → (¬ co9_c T q (T 102 p 5) ≠ cz_ (d = 0) (T 102 p 3) (T 102 p 4)) → (¬ 0 < bnH_ T q p) → (¬ plc_ T p q ≠ -1) → (∀ j, 0 ≤ j → j < k → j ≠ p → ¬ (T 102 j 5 = T 102 p 5 ∧ T 102 j 6 = -1 ∧ plc_ T j q ≠ -1)) → J_ zX6_whyNot T (po_X6_whyNot_f T p q d) 0 0 57 [some (vR 106 0), some (vI q), some (vR 102 p), some (vI d), some (vI k), none] [] T1 := by
    intro nn
    induction nn using Nat.strongRecOn with
    | _ nn ih_57 =>
      intro k T1 hm_57 hf_57 i1 wsd nb9 np9 ne9
      replace hm_57 := fun (_ : Unit) => hm_57
      refine j_blx (F := fX6) tb_X6 (nn_ _) bk_X6_whyNot_f_57 bs_X6_whyNot_f_57 hz (fun K hK => ?_)
      intro b1 b1b
      have e2 : T1 106 0 4 = T 106 0 4 := hf_57 106 0 4 rfl
      rw [e2] at b1 b1b ⊢
      refine And.intro (fun c3 => ?_) (fun c3 => ?_)
      · refine hK 123 _ [] T1 ?_
        refine j_blx (F := fX6) tb_X6 (nn_ _) bk_X6_whyNot_f_123 bs_X6_whyNot_f_123 hz (fun K hK => ?_)
        refine (show po_X6_whyNot_f T p q d T1 (some (vI 0)) from ?_)
        refine ⟨_, rfl, fr_t (fr_0 _ _) (fr_s hf_57 rfl), (wyH_0 wsd nb9 np9 ?_).symm⟩
        rintro ⟨j, a1, a2, a3, a4, a5, a6⟩
        exact ne9 j a1 (by omega) a3 ⟨a4, a5, a6⟩
      · refine ix_i (by omega) ?_
        have e5 : T1 523 0 k = T 523 0 k := hf_57 523 0 k rfl
        refine And.intro (fun c4 => ?_) (fun c4 => ?_)
        · exact absurd (show T 523 0 (k) = 0 from Int.le_antisymm (by omega) (by omega)) (hka.2 _ (by omega) (by omega))
        · intro b6 b6b
          have e7 : T1 102 p 1 = T 102 p 1 := hf_57 102 p 1 rfl
          rw [e7] at b6 b6b ⊢
          refine And.intro (fun c8 => ?_) (fun c8 => ?_)
          · refine hK 117 [some (vR 106 0), some (vI q), some (vR 102 p), some (vI d), some (vI k), some (vR 102 k)] [] T1 ?_
            refine j_blx (F := fX6) tb_X6 (nn_ _) bk_X6_whyNot_f_117 bs_X6_whyNot_f_117 hz (fun K hK => ?_)
            refine rg_i (by omega) ?_
            refine hK 57 [some (vR 106 0), some (vI q), some (vR 102 p), some (vI d), some (vI (k + 1)), some (vR 102 k)] [] T1 ?_
            refine j_drop [some (vR 106 0), some (vI q), some (vR 102 p), some (vI d), some (vI (k + 1)), none] (fun k v hk => ?_) rfl ?_
            · match k, hk with
              | 0, hk => exact hk
              | 1, hk => exact hk
              | 2, hk => exact hk
              | 3, hk => exact hk
              | 4, hk => exact hk
              | 5, hk => cases hk
              | k + 6, hk => cases hk
            refine ih_57 _ ?_ (k + 1) T1 (Nat.le_refl _) ?_ ?_ ?_ ?_ ?_ ?_
            · have hm_57 := hm_57 (); omega
            · exact fr_t (fr_0 _ _) (fr_s hf_57 rfl)
            · omega
            · exact wsd
            · exact nb9
            · exact np9
            · intro j a b c e
              by_cases z : j = k
              · rw [z] at c e; omega
              · exact ne9 j a (by omega) c e
          · intro b9 b9b
            have e10 : T1 102 k 5 = T 102 k 5 := hf_57 102 k 5 rfl
            rw [e10] at b9 b9b ⊢
            intro b11 b11b
            have e12 : T1 102 p 5 = T 102 p 5 := hf_57 102 p 5 rfl
            rw [e12] at b11 b11b ⊢
            refine And.intro (fun c13 => ?_) (fun c13 => ?_)
            · refine hK 117 [some (vR 106 0), some (vI q), some (vR 102 p), some (vI d), some (vI k), some (vR 102 k)] [] T1 ?_
              refine j_blx (F := fX6) tb_X6 (nn_ _) bk_X6_whyNot_f_117 bs_X6_whyNot_f_117 hz (fun K hK => ?_)
              refine rg_i (by omega) ?_
              refine hK 57 [some (vR 106 0), some (vI q), some (vR 102 p), some (vI d), some (vI (k + 1)), some (vR 102 k)] [] T1 ?_
              refine j_drop [some (vR 106 0), some (vI q), some (vR 102 p), some (vI d), some (vI (k + 1)), none] (fun k v hk => ?_) rfl ?_
              · match k, hk with
                | 0, hk => exact hk
                | 1, hk => exact hk
                | 2, hk => exact hk
                | 3, hk => exact hk
                | 4, hk => exact hk
                | 5, hk => cases hk
                | k + 6, hk => cases hk
              refine ih_57 _ ?_ (k + 1) T1 (Nat.le_refl _) ?_ ?_ ?_ ?_ ?_ ?_
              · have hm_57 := hm_57 (); omega
              · exact fr_t (fr_0 _ _) (fr_s hf_57 rfl)
              · omega
              · exact wsd
              · exact nb9
              · exact np9
              · intro j a b c e
                by_cases z : j = k
                · rw [z] at c e; omega
                · exact ne9 j a (by omega) c e
            · intro b14 b14b
              have e15 : T1 102 k 6 = T 102 k 6 := hf_57 102 k 6 rfl
              rw [e15] at b14 b14b ⊢
              refine And.intro (fun c16 => ?_) (fun c16 => ?_)
              · refine hK 117 [some (vR 106 0), some (vI q), some (vR 102 p), some (vI d), some (vI k), some (vR 102 k)] [] T1 ?_
                refine j_blx (F := fX6) tb_X6 (nn_ _) bk_X6_whyNot_f_117 bs_X6_whyNot_f_117 hz (fun K hK => ?_)
                refine rg_i (by omega) ?_
                refine hK 57 [some (vR 106 0), some (vI q), some (vR 102 p), some (vI d), some (vI (k + 1)), some (vR 102 k)] [] T1 ?_
                refine j_drop [some (vR 106 0), some (vI q), some (vR 102 p), some (vI d), some (vI (k + 1)), none] (fun k v hk => ?_) rfl ?_
                · match k, hk with
                  | 0, hk => exact hk
                  | 1, hk => exact hk
                  | 2, hk => exact hk
                  | 3, hk => exact hk
                  | 4, hk => exact hk
                  | 5, hk => cases hk
                  | k + 6, hk => cases hk
                refine ih_57 _ ?_ (k + 1) T1 (Nat.le_refl _) ?_ ?_ ?_ ?_ ?_ ?_
                · have hm_57 := hm_57 (); omega
                · exact fr_t (fr_0 _ _) (fr_s hf_57 rfl)
                · omega
                · exact wsd
                · exact nb9
                · exact np9
                · intro j a b c e
                  by_cases z : j = k
                  · rw [z] at c e; omega
                  · exact ne9 j a (by omega) c e
              · refine hK 108 [some (vR 106 0), some (vI q), some (vR 102 p), some (vI d), some (vI k), some (vR 102 k)] [vI q, vR 102 k] T1 ?_
                refine j_callV (y := yX2_placeOf) (Yc := zX2_placeOf) (rest := []) [vI q] (ct_X2_placeOf_f (T := T1)) cl_X6_172 (qd_c (by decide +kernel)) (nn_ _) rfl (rf_of rfl) (Nat.le_of_ble_eq_true rfl) (Nat.le_of_ble_eq_true rfl) (Nat.le_of_ble_eq_true rfl) rfl ?_
                rintro _ _ ⟨rfl, x17, rfl, hx17⟩
                rw [plc_k (T := T) (fr_t (fr_0 _ _) (fr_s hf_57 rfl))] at hx17
                have bx17 := plc_b (T := T) (m := k) (q := q) (bd_a hT 449 (by decide +kernel : ta_ 449 = some (1, some 2, 0, 10)) k (show (0 : Int) ≤ 0 by decide)).2 (bd_a hT 449 (by decide +kernel : ta_ 449 = some (1, some 2, 0, 10)) k (show (0 : Int) ≤ 1 by decide)).2
                show J_ zX6_whyNot T (po_X6_whyNot_f T p q d) 0 0 111 _ [vI x17] T1
                refine j_blx (F := fX6) tb_X6 (nn_ _) bk_X6_whyNot_f_111 bs_X6_whyNot_f_111 hz (fun K hK => ?_)
                refine And.intro (fun c18 => ?_) (fun c18 => ?_)
                · refine hK 117 _ [] T1 ?_
                  refine j_blx (F := fX6) tb_X6 (nn_ _) bk_X6_whyNot_f_117 bs_X6_whyNot_f_117 hz (fun K hK => ?_)
                  refine rg_i (by omega) ?_
                  refine hK 57 [some (vR 106 0), some (vI q), some (vR 102 p), some (vI d), some (vI (k + 1)), some (vR 102 k)] [] T1 ?_
                  refine j_drop [some (vR 106 0), some (vI q), some (vR 102 p), some (vI d), some (vI (k + 1)), none] (fun k v hk => ?_) rfl ?_
                  · match k, hk with
                    | 0, hk => exact hk
                    | 1, hk => exact hk
                    | 2, hk => exact hk
                    | 3, hk => exact hk
                    | 4, hk => exact hk
                    | 5, hk => cases hk
                    | k + 6, hk => cases hk
                  refine ih_57 _ ?_ (k + 1) T1 (Nat.le_refl _) ?_ ?_ ?_ ?_ ?_ ?_
                  · have hm_57 := hm_57 (); omega
                  · exact fr_t (fr_0 _ _) (fr_s hf_57 rfl)
                  · omega
                  · exact wsd
                  · exact nb9
                  · exact np9
                  · intro j a b c e
                    by_cases z : j = k
                    · rw [z] at c e; omega
                    · exact ne9 j a (by omega) c e
                · refine (show po_X6_whyNot_f T p q d T1 (some (vI 4)) from ?_)
                  exact ⟨_, rfl, fr_t (fr_0 _ _) (fr_s hf_57 rfl), (wyH_4 wsd nb9 np9 ⟨k, by omega, by omega, by omega, by omega, by omega, by omega⟩).symm⟩
  have c_27 : ∀ (v : Int) (w : Int), (v = co9_c T q (T 102 p 5)) → ((d = 0 ∧ w = T 102 p 3) ∨ (d ≠ 0 ∧ w = T 102 p 4)) → J_ zX6_whyNot T (po_X6_whyNot_f T p q d) 0 0 27 [some (vR 106 0), some (vI q), some (vR 102 p), some (vI d), none, none] [vI w, vI v] T := by
    intro v w hcl hsd
    refine j_blx (F := fX6) tb_X6 (nn_ _) bk_X6_whyNot_f_27 bs_X6_whyNot_f_27 hz (fun K hK => ?_)
    refine And.intro (fun c19 => ?_) (fun c19 => ?_)
    · have wsd := (sd_h hcl hsd).mp c19
      refine hK 32 _ [] T ?_
      refine j_blx (F := fX6) tb_X6 (nn_ _) bk_X6_whyNot_f_32 bs_X6_whyNot_f_32 hz (fun K hK => ?_)
      refine hK 35 _ [vR 102 p, vI q, vR 106 0] T ?_
      refine j_callV (y := yX6_isBanned) (Yc := zX6_isBanned) (rest := []) [vI q, vR 102 p] (ct_X6_isBanned_f (T := T) (hka) (hkm) (hkc) (by omega) (by omega) (by omega) hsp) cl_X6_168 (qd_c (by decide +kernel)) (nn_ _) rfl (rf_of rfl) (Nat.le_of_ble_eq_true rfl) (Nat.le_of_ble_eq_true rfl) (Nat.le_of_ble_eq_true rfl) rfl ?_
      rintro U20 _ ⟨x21, rfl, fU20, qU20⟩
      show J_ zX6_whyNot T (po_X6_whyNot_f T p q d) 0 0 38 _ [vI x21] U20
      refine j_blx (F := fX6) tb_X6 (nn_ _) bk_X6_whyNot_f_38 bs_X6_whyNot_f_38 hz (fun K hK => ?_)
      refine And.intro (fun c22 => ?_) (fun c22 => ?_)
      · refine hK 43 _ [] U20 ?_
        refine j_blx (F := fX6) tb_X6 (nn_ _) bk_X6_whyNot_f_43 bs_X6_whyNot_f_43 hz (fun K hK => ?_)
        refine hK 45 _ [vI q, vR 102 p] U20 ?_
        refine j_callV (y := yX2_placeOf) (Yc := zX2_placeOf) (rest := []) [vI q] (ct_X2_placeOf_f (T := U20)) cl_X6_172 (qd_c (by decide +kernel)) (nn_ _) rfl (rf_of rfl) (Nat.le_of_ble_eq_true rfl) (Nat.le_of_ble_eq_true rfl) (Nat.le_of_ble_eq_true rfl) rfl ?_
        rintro _ _ ⟨rfl, x23, rfl, hx23⟩
        rw [plc_k (T := T) (fr_t (fr_0 _ _) (fr_s fU20 rfl))] at hx23
        have bx23 := plc_b (T := T) (m := p) (q := q) (bd_a hT 449 (by decide +kernel : ta_ 449 = some (1, some 2, 0, 10)) p (show (0 : Int) ≤ 0 by decide)).2 (bd_a hT 449 (by decide +kernel : ta_ 449 = some (1, some 2, 0, 10)) p (show (0 : Int) ≤ 1 by decide)).2
        show J_ zX6_whyNot T (po_X6_whyNot_f T p q d) 0 0 48 _ [vI x23] U20
        refine j_blx (F := fX6) tb_X6 (nn_ _) bk_X6_whyNot_f_48 bs_X6_whyNot_f_48 hz (fun K hK => ?_)
        refine And.intro (fun c24 => ?_) (fun c24 => ?_)
        · refine hK 54 _ [] U20 ?_
          refine j_blx (F := fX6) tb_X6 (nn_ _) bk_X6_whyNot_f_54 bs_X6_whyNot_f_54 hz (fun K hK => ?_)
          refine hK 57 [some (vR 106 0), some (vI q), some (vR 102 p), some (vI d), some (vI 0), none] [] U20 ?_
          refine c_57 _ 0 U20 (Nat.le_refl _) ?_ ?_ ?_ ?_ ?_ ?_
          · exact fr_t (fr_0 _ _) (fr_s fU20 rfl)
          · omega
          · exact wsd
          · omega
          · omega
          · intro j a b; omega
        · refine (show po_X6_whyNot_f T p q d U20 (some (vI 3)) from ?_)
          exact ⟨_, rfl, fr_t (fr_0 _ _) (fr_s fU20 rfl), (wyH_3 wsd (by omega) (by omega)).symm⟩
      · refine (show po_X6_whyNot_f T p q d U20 (some (vI 2)) from ?_)
        exact ⟨_, rfl, fr_t (fr_0 _ _) (fr_s fU20 rfl), (wyH_2 wsd (by omega)).symm⟩
    · refine (show po_X6_whyNot_f T p q d T (some (vI 1)) from ?_)
      have w9 : co9_c T q (T 102 p 5) ≠ cz_ (d = 0) (T 102 p 3) (T 102 p 4) := fun z => by
        have y9 := (sd_h hcl hsd).mpr (fun t => t z)
        omega
      exact ⟨_, rfl, fr_0 _ _, (wyH_1 w9).symm⟩
  refine j_blx (F := fX6) tb_X6 (nn_ _) bk_X6_whyNot_f_0 bs_X6_whyNot_f_0 hz (fun K hK => ?_)
  intro b25 b25b
  refine hK 9 _ [vI (T 102 p 5), vI q, vR 108 0] T ?_
  refine j_callV (y := yX8_clubOn) (Yc := zX8_clubOn) (rest := []) [vI q, vI (T 102 p 5)] (ct_X8_clubOn_e (T := T) (by omega) (by omega) (hsp)) cl_X6_165 (qd_c (by decide +kernel)) (nn_ _) rfl (rf_of rfl) (Nat.le_of_ble_eq_true rfl) (Nat.le_of_ble_eq_true rfl) (Nat.le_of_ble_eq_true rfl) rfl ?_
  rintro _ _ ⟨rfl, x26, rfl, hx26⟩
  show J_ zX6_whyNot T (po_X6_whyNot_f T p q d) 0 0 12 _ [vI x26] T
  refine j_blx (F := fX6) tb_X6 (nn_ _) bk_X6_whyNot_f_12 bs_X6_whyNot_f_12 hz (fun K hK => ?_)
  refine And.intro (fun c27 => ?_) (fun c27 => ?_)
  · refine hK 23 _ [vI x26] T ?_
    refine j_blx (F := fX6) tb_X6 (nn_ _) bk_X6_whyNot_f_23 bs_X6_whyNot_f_23 hz (fun K hK => ?_)
    intro b28 b28b
    refine hK 27 _ [vI (T 102 p 4), vI x26] T ?_
    refine c_27 x26 (T 102 p 4) ?_ ?_
    · omega
    · omega
  · intro b29 b29b
    refine hK 27 _ [vI (T 102 p 3), vI x26] T ?_
    refine c_27 x26 (T 102 p 3) ?_ ?_
    · omega
    · omega
