theorem bs_X1_takeBelow_e_24 {P : Zt → Option Zv → Prop} (K : Int → Zl → List Zv → Zt → Prop) : sx_ K P [.iload 7, .iconst 1000000, .if_icmp .ge 71, .aload 0, .aload 0, .tableswitch 0 1 5 #[], .iconst 1664525, .fmul, .iconst 1013904223, .fadd, .tableswitch 1 1 5 #[], .aload 0, .tableswitch 0 1 5 #[], .iconst 1, .iushr, .istore 6, .iload 6, .i2l, .lload 4, .lcmp, .ifCond .ge 65, .goto 71] 65 = x_iload 7 (x_iconst 1000000 (x_if_icmp .ge 71 K (x_aload 0 (x_aload 0 (x_g0 101 5 (-2147483648) 2147483647 (x_iconst 1664525 (x_fmul (x_iconst 1013904223 (x_fadd (x_p 101 5 (-2147483648) 2147483647 (x_aload 0 (x_g0 101 5 (-2147483648) 2147483647 (x_iconst 1 (x_iushr (x_istore 6 (x_iload 6 (x_i2l (x_lload 4 (x_lcmp (x_ifCond .ge 65 K (x_goto 71 K))))))))))))))))))))) := ((xe_iload 7).trans (congrArg (x_iload 7) ((xe_iconst 1000000).trans (congrArg (x_iconst 1000000) ((xe_if_icmp .ge 71).trans (congrArg (x_if_icmp .ge 71 K) ((xe_aload 0).trans (congrArg (x_aload 0) ((xe_aload 0).trans (congrArg (x_aload 0) ((xe_g0 (kk := 101) rfl tl_1_5).trans (congrArg (x_g0 101 5 (-2147483648) 2147483647) ((xe_iconst 1664525).trans (congrArg (x_iconst 1664525) ((xe_fmul).trans (congrArg (x_fmul) ((xe_iconst 1013904223).trans (congrArg (x_iconst 1013904223) ((xe_fadd).trans (congrArg (x_fadd) ((xe_p (kk := 101) rfl tl_1_5).trans (congrArg (x_p 101 5 (-2147483648) 2147483647) ((xe_aload 0).trans (congrArg (x_aload 0) ((xe_g0 (kk := 101) rfl tl_1_5).trans (congrArg (x_g0 101 5 (-2147483648) 2147483647) ((xe_iconst 1).trans (congrArg (x_iconst 1) ((xe_iushr).trans (congrArg (x_iushr) ((xe_istore 6).trans (congrArg (x_istore 6) ((xe_iload 6).trans (congrArg (x_iload 6) ((xe_i2l).trans (congrArg (x_i2l) ((xe_lload 4).trans (congrArg (x_lload 4) ((xe_lcmp).trans (congrArg (x_lcmp) ((xe_ifCond .ge 65).trans (congrArg (x_ifCond .ge 65 K) (xe_goto 71)))))))))))))))))))))))))))))))))))))))))))
theorem bk_X1_takeBelow_e_65 : ck_ fX1 (some .int) cX1_takeBelow 65 [.iinc 7 1, .goto 24] 71 = true := qck_r (nn_ _) (by decide +kernel)
theorem bs_X1_takeBelow_e_65 {P : Zt → Option Zv → Prop} (K : Int → Zl → List Zv → Zt → Prop) : sx_ K P [.iinc 7 1, .goto 24] 71 = x_iinc 7 1 (x_goto 24 K) := ((xe_iinc 7 1).trans (congrArg (x_iinc 7 1) (xe_goto 24)))
theorem bk_X1_takeBelow_e_0 : ck_ fX1 (some .int) cX1_takeBelow 0 [.iload 1, .ifCond .gt 6, .iconst 0, .ireturn] 6 = true := qck_r (nn_ _) (by decide +kernel)
theorem bs_X1_takeBelow_e_0 {P : Zt → Option Zv → Prop} (K : Int → Zl → List Zv → Zt → Prop) : sx_ K P [.iload 1, .ifCond .gt 6, .iconst 0, .ireturn] 6 = x_iload 1 (x_ifCond .gt 6 K (x_iconst 0 (x_ireturn P))) := ((xe_iload 1).trans (congrArg (x_iload 1) ((xe_ifCond .gt 6).trans (congrArg (x_ifCond .gt 6 K) ((xe_iconst 0).trans (congrArg (x_iconst 0) (xe_ireturn)))))))
theorem bk_X1_takeBelow_e_6 : ck_ fX1 (some .int) cX1_takeBelow 6 [.sipush 2147483648, .lstore 2, .lload 2, .lload 2, .iload 1, .i2l, .lrem, .lsub, .lstore 4, .iconst 0, .istore 6, .iconst 0, .istore 7] 24 = true := qck_r (nn_ _) (by decide +kernel)
theorem bs_X1_takeBelow_e_6 {P : Zt → Option Zv → Prop} (K : Int → Zl → List Zv → Zt → Prop) : sx_ K P [.sipush 2147483648, .lstore 2, .lload 2, .lload 2, .iload 1, .i2l, .lrem, .lsub, .lstore 4, .iconst 0, .istore 6, .iconst 0, .istore 7] 24 = x_sipush 2147483648 (x_lstore 2 (x_lload 2 (x_lload 2 (x_iload 1 (x_i2l (x_lrem (x_lsub (x_lstore 4 (x_iconst 0 (x_istore 6 (x_iconst 0 (x_istore 7 (K 24))))))))))))) := ((xe_sipush 2147483648).trans (congrArg (x_sipush 2147483648) ((xe_lstore 2).trans (congrArg (x_lstore 2) ((xe_lload 2).trans (congrArg (x_lload 2) ((xe_lload 2).trans (congrArg (x_lload 2) ((xe_iload 1).trans (congrArg (x_iload 1) ((xe_i2l).trans (congrArg (x_i2l) ((xe_lrem).trans (congrArg (x_lrem) ((xe_lsub).trans (congrArg (x_lsub) ((xe_lstore 4).trans (congrArg (x_lstore 4) ((xe_iconst 0).trans (congrArg (x_iconst 0) ((xe_istore 6).trans (congrArg (x_istore 6) ((xe_iconst 0).trans (congrArg (x_iconst 0) ((xe_istore 7).trans (congrArg (x_istore 7) xe_nil))))))))))))))))))))))))))
abbrev po_X1_takeBelow_e (T : Zt) (m : Int) : Zt → Option Zv → Prop := fun T' r => ∃ x : Int, r = some (vI x) ∧ fr_ [(101, [5])] T T' ∧ (x = (tb9_ m (T 101 0 5)).1 ∧ T' 101 0 5 = (tb9_ m (T 101 0 5)).2 ∧ 0 ≤ x ∧ x < m)
set_option maxHeartbeats 4000000 in
theorem ct_X1_takeBelow_e {T : Zt} {m : Int} (h1 : 1 ≤ m ∧ m ≤ 13824) : Ct_ yX1_takeBelow zX1_takeBelow T [vR 101 0, vI m] (po_X1_takeBelow_e T m) := by
  refine ct_of pn_1 rfl rfl (Nat.le_of_ble_eq_true rfl) (fun hT hav => ?_)
  have hr_m : -2147483648 ≤ m ∧ m ≤ 2147483647 := hav (vI m) (List.mem_cons_of_mem _ List.mem_cons_self)
  have hz : zX1_takeBelow.2.2.2.1 = some .boolean → ∀ (T' : Zt) (x : Int), po_X1_takeBelow_e T m T' (some (vI x)) → 0 ≤ x ∧ x ≤ 1 := fun h => by cases h
  have hr1 := Int.emod_nonneg 2147483648 (b := m)
  have hr2 := Int.emod_lt_of_pos 2147483648 (b := m)
  show J_ zX1_takeBelow T (po_X1_takeBelow_e T m) 0 0 0 [some (vR 101 0), some (vI m), none, none, none, none, none, none] [] T
  have c_71 : ∀ (v : Int) (T2 : Zt), (fr_ [(101, [5])] T T2) → (0 ≤ v ∧ 0 < m) → (v % m = (tb9_ m (T 101 0 5)).1 ∧ T2 101 0 5 = (tb9_ m (T 101 0 5)).2) → J_ zX1_takeBelow T (po_X1_takeBelow_e T m) 0 0 71 [some (vR 101 0), some (vI m), none, none, none, none, some (vI v), none] [] T2 := by
    intro v T2 hf_71 i2 t2
    refine j_blx (F := fX1) tb_X1 (nn_ _) bk_X1_takeBelow_e_71 bs_X1_takeBelow_e_71 hz (fun K hK => ?_)
    have hv1 := Int.emod_nonneg v (show m ≠ 0 by omega)
    have hv2 := Int.emod_lt_of_pos v (show 0 < m by omega)
    refine dv_i (by omega) ?_
    refine (show po_X1_takeBelow_e T m T2 (some (vI (v % m))) from ?_)
    exact ⟨_, rfl, hf_71, t2.1, t2.2, hv1, hv2⟩
  have c_24 : ∀ (nn : Nat) (v : Int) (n : Int) (fa : Int) (T1 : Zt), ((1000000 - n).toNat) ≤ nn → (fr_ [(101, [5])] T T1) → (0 ≤ v ∧ 0 ≤ n ∧ fa = 2147483648 - 2147483648 % m) → ((n = 0 ∧ T1 101 0 5 = (T 101 0 5)) ∨ (n = 1 ∧ T1 101 0 5 = ns9_ (T 101 0 5) ∧ ¬ us_ (ns9_ (T 101 0 5)) 1 < 2147483648 - 2147483648 % m)) → J_ zX1_takeBelow T (po_X1_takeBelow_e T m) 0 0 24 [some (vR 101 0), some (vI m), none, none, some (vL fa), none, some (vI v), some (vI n)] [] T1 := by
    intro nn
    induction nn using Nat.strongRecOn with
    | _ nn ih_24 =>
      intro v n fa T1 hm_24 hf_24 i1 t1
      replace hm_24 := fun (_ : Unit) => hm_24
      refine j_blx (F := fX1) tb_X1 (nn_ _) bk_X1_takeBelow_e_24 bs_X1_takeBelow_e_24 hz (fun K hK => ?_)
      refine And.intro (fun c1 => ?_) (fun c1 => ?_)
      · exact absurd c1 (by omega)
      · intro b2 b2b
        intro w3 w3b
        intro w4 w4b
        refine bd_i (by omega) ?_
        refine x_nm (fun U5 hU5 => ?_)
        have e6 := up_f hU5
        intro b7 b7b
        have e8 : U5 101 0 5 = wr_ ((wr_ ((T1 101 0 5) * 1664525)) + 1013904223) := up_f hU5
        rw [e8] at b7 b7b ⊢
        intro w9 w9b
        have u10 := us_1c (x := (wr_ ((wr_ ((T1 101 0 5) * 1664525)) + 1013904223)))
        refine And.intro (fun c11 => ?_) (And.intro (fun c11 => ?_) (fun c11 => ?_))
        · refine And.intro (fun c12 => ?_) (fun c12 => ?_)
          · exact absurd c12 (by decide)
          · refine hK 71 [some (vR 101 0), some (vI m), none, none, some (vL fa), none, some (vI (us_ (wr_ ((wr_ ((T1 101 0 5) * 1664525)) + 1013904223)) 1)), some (vI n)] [] U5 ?_
            refine j_drop [some (vR 101 0), some (vI m), none, none, none, none, some (vI (us_ (wr_ ((wr_ ((T1 101 0 5) * 1664525)) + 1013904223)) 1)), none] (fun k v hk => ?_) rfl ?_
            · match k, hk with
              | 0, hk => exact hk
              | 1, hk => exact hk
              | 2, hk => cases hk
              | 3, hk => cases hk
              | 4, hk => cases hk
              | 5, hk => cases hk
              | 6, hk => exact hk
              | 7, hk => cases hk
              | k + 8, hk => cases hk
            have e13 : U5 101 0 5 = wr_ ((wr_ ((T1 101 0 5) * 1664525)) + 1013904223) := up_f hU5
            refine c_71 (us_ (wr_ ((wr_ ((T1 101 0 5) * 1664525)) + 1013904223)) 1) U5 ?_ ?_ ?_
            · exact fr_u (fr_t (fr_0 _ _) (fr_s hf_24 rfl)) hU5 rfl
            · omega
            · have y := tb9_a (m := m) (s := (T 101 0 5)) (r := T1 101 0 5) (v := us_ (wr_ ((wr_ ((T1 101 0 5) * 1664525)) + 1013904223)) 1) rfl (by omega) (t1.imp (fun z => z.2) (fun z => z.2))
              exact ⟨y.1, (up_f hU5).trans y.2⟩
        · refine And.intro (fun c14 => ?_) (fun c14 => ?_)
          · refine hK 65 [some (vR 101 0), some (vI m), none, none, some (vL fa), none, some (vI (us_ (wr_ ((wr_ ((T1 101 0 5) * 1664525)) + 1013904223)) 1)), some (vI n)] [] U5 ?_
            refine j_blx (F := fX1) tb_X1 (nn_ _) bk_X1_takeBelow_e_65 bs_X1_takeBelow_e_65 hz (fun K hK => ?_)
            refine rg_i (by omega) ?_
            refine hK 24 [some (vR 101 0), some (vI m), none, none, some (vL fa), none, some (vI (us_ (wr_ ((wr_ ((T1 101 0 5) * 1664525)) + 1013904223)) 1)), some (vI (n + 1))] [] U5 ?_
            have e15 : U5 101 0 5 = wr_ ((wr_ ((T1 101 0 5) * 1664525)) + 1013904223) := up_f hU5
            refine ih_24 _ ?_ (us_ (wr_ ((wr_ ((T1 101 0 5) * 1664525)) + 1013904223)) 1) (n + 1) fa U5 (Nat.le_refl _) ?_ ?_ ?_
            · have hm_24 := hm_24 (); omega
            · exact fr_u (fr_t (fr_0 _ _) (fr_s hf_24 rfl)) hU5 rfl
            · omega
            · rcases t1 with ⟨z1, z2⟩ | ⟨z1, z2, z3⟩
              · refine Or.inr ⟨by omega, ?_, ?_⟩
                · rw [up_f hU5, z2]; rfl
                · have e9 : us_ (ns9_ (T 101 0 5)) 1 = us_ (wr_ ((wr_ ((T1 101 0 5) * 1664525)) + 1013904223)) 1 := by rw [← z2]; rfl
                  rw [e9]; omega
              · exfalso
                have e9 : us_ (ns9_ (ns9_ (T 101 0 5))) 1 = us_ (wr_ ((wr_ ((T1 101 0 5) * 1664525)) + 1013904223)) 1 := by rw [← z2]; rfl
                have e8 := tb9_b h1 z3
                rw [e9] at e8
                omega
          · exact absurd c14 (by decide)
        · refine And.intro (fun c16 => ?_) (fun c16 => ?_)
          · refine hK 65 [some (vR 101 0), some (vI m), none, none, some (vL fa), none, some (vI (us_ (wr_ ((wr_ ((T1 101 0 5) * 1664525)) + 1013904223)) 1)), some (vI n)] [] U5 ?_
            refine j_blx (F := fX1) tb_X1 (nn_ _) bk_X1_takeBelow_e_65 bs_X1_takeBelow_e_65 hz (fun K hK => ?_)
            refine rg_i (by omega) ?_
            refine hK 24 [some (vR 101 0), some (vI m), none, none, some (vL fa), none, some (vI (us_ (wr_ ((wr_ ((T1 101 0 5) * 1664525)) + 1013904223)) 1)), some (vI (n + 1))] [] U5 ?_
            have e17 : U5 101 0 5 = wr_ ((wr_ ((T1 101 0 5) * 1664525)) + 1013904223) := up_f hU5
            refine ih_24 _ ?_ (us_ (wr_ ((wr_ ((T1 101 0 5) * 1664525)) + 1013904223)) 1) (n + 1) fa U5 (Nat.le_refl _) ?_ ?_ ?_
            · have hm_24 := hm_24 (); omega
            · exact fr_u (fr_t (fr_0 _ _) (fr_s hf_24 rfl)) hU5 rfl
            · omega
            · rcases t1 with ⟨z1, z2⟩ | ⟨z1, z2, z3⟩
              · refine Or.inr ⟨by omega, ?_, ?_⟩
                · rw [up_f hU5, z2]; rfl
                · have e9 : us_ (ns9_ (T 101 0 5)) 1 = us_ (wr_ ((wr_ ((T1 101 0 5) * 1664525)) + 1013904223)) 1 := by rw [← z2]; rfl
                  rw [e9]; omega
              · exfalso
                have e9 : us_ (ns9_ (ns9_ (T 101 0 5))) 1 = us_ (wr_ ((wr_ ((T1 101 0 5) * 1664525)) + 1013904223)) 1 := by rw [← z2]; rfl
                have e8 := tb9_b h1 z3
                rw [e9] at e8
                omega
          · exact absurd c16 (by decide)
  refine j_blx (F := fX1) tb_X1 (nn_ _) bk_X1_takeBelow_e_0 bs_X1_takeBelow_e_0 hz (fun K hK => ?_)
  refine And.intro (fun c18 => ?_) (fun c18 => ?_)
  · refine hK 6 _ [] T ?_
    refine j_blx (F := fX1) tb_X1 (nn_ _) bk_X1_takeBelow_e_6 bs_X1_takeBelow_e_6 hz (fun K hK => ?_)
    refine dv_i (by omega) ?_
    refine rl_i (by omega) ?_
    refine hK 24 [some (vR 101 0), some (vI m), some (vL 2147483648), none, some (vL (2147483648 - (2147483648 % m))), none, some (vI 0), some (vI 0)] [] T ?_
    refine j_drop [some (vR 101 0), some (vI m), none, none, some (vL (2147483648 - (2147483648 % m))), none, some (vI 0), some (vI 0)] (fun k v hk => ?_) rfl ?_
    · match k, hk with
      | 0, hk => exact hk
      | 1, hk => exact hk
      | 2, hk => cases hk
      | 3, hk => cases hk
      | 4, hk => exact hk
      | 5, hk => cases hk
      | 6, hk => exact hk
      | 7, hk => exact hk
      | k + 8, hk => cases hk
    refine c_24 _ 0 0 (2147483648 - (2147483648 % m)) T (Nat.le_refl _) ?_ ?_ ?_
    · exact fr_0 _ _
    · omega
    · exact Or.inl ⟨rfl, rfl⟩
  · exact absurd c18 (by omega)
