theorem bs_X1_place_e_14 {P : Zt → Option Zv → Prop} (K : Int → Zl → List Zv → Zt → Prop) : sx_ K P [.iload 4, .aload 0, .tableswitch 0 1 1 #[], .if_icmp .ge 72, .iload 3, .aload 0, .tableswitch 0 1 11 #[], .iload 1, .iconst 4, .imul, .iload 4, .iadd, .iaload, .iadd, .istore 3, .iload 3, .iload 2, .if_icmp .le 66, .aload 0, .tableswitch 0 1 9 #[], .iload 1, .iload 4, .iastore, .aload 0, .dup, .tableswitch 0 1 4 #[], .iconst 1, .iadd, .tableswitch 1 1 4 #[], .aload 0, .iconst 0, .tableswitch 1 1 7 #[], .return_] 66 = x_iload 4 (x_aload 0 (x_g0 101 1 0 4 (x_if_icmp .ge 72 K (x_iload 3 (x_aload 0 (x_g1 101 431 (x_iload 1 (x_iconst 4 (x_imul (x_iload 4 (x_iadd (x_iaload (x_iadd (x_istore 3 (x_iload 3 (x_iload 2 (x_if_icmp .le 66 K (x_aload 0 (x_g1 101 429 (x_iload 1 (x_iload 4 (x_iastore (x_aload 0 (x_dup (x_g0 101 4 (-2147483648) 2147483647 (x_iconst 1 (x_iadd (x_p 101 4 (-2147483648) 2147483647 (x_aload 0 (x_iconst 0 (x_p 101 7 0 1 (x_return_ P)))))))))))))))))))))))))))))))) := ((xe_iload 4).trans (congrArg (x_iload 4) ((xe_aload 0).trans (congrArg (x_aload 0) ((xe_g0 (kk := 101) rfl tl_1_1).trans (congrArg (x_g0 101 1 0 4) ((xe_if_icmp .ge 72).trans (congrArg (x_if_icmp .ge 72 K) ((xe_iload 3).trans (congrArg (x_iload 3) ((xe_aload 0).trans (congrArg (x_aload 0) ((xe_g1 (kk := 101) rfl tl_1_11).trans (congrArg (x_g1 101 431) ((xe_iload 1).trans (congrArg (x_iload 1) ((xe_iconst 4).trans (congrArg (x_iconst 4) ((xe_imul).trans (congrArg (x_imul) ((xe_iload 4).trans (congrArg (x_iload 4) ((xe_iadd).trans (congrArg (x_iadd) ((xe_iaload).trans (congrArg (x_iaload) ((xe_iadd).trans (congrArg (x_iadd) ((xe_istore 3).trans (congrArg (x_istore 3) ((xe_iload 3).trans (congrArg (x_iload 3) ((xe_iload 2).trans (congrArg (x_iload 2) ((xe_if_icmp .le 66).trans (congrArg (x_if_icmp .le 66 K) ((xe_aload 0).trans (congrArg (x_aload 0) ((xe_g1 (kk := 101) rfl tl_1_9).trans (congrArg (x_g1 101 429) ((xe_iload 1).trans (congrArg (x_iload 1) ((xe_iload 4).trans (congrArg (x_iload 4) ((xe_iastore).trans (congrArg (x_iastore) ((xe_aload 0).trans (congrArg (x_aload 0) ((xe_dup).trans (congrArg (x_dup) ((xe_g0 (kk := 101) rfl tl_1_4).trans (congrArg (x_g0 101 4 (-2147483648) 2147483647) ((xe_iconst 1).trans (congrArg (x_iconst 1) ((xe_iadd).trans (congrArg (x_iadd) ((xe_p (kk := 101) rfl tl_1_4).trans (congrArg (x_p 101 4 (-2147483648) 2147483647) ((xe_aload 0).trans (congrArg (x_aload 0) ((xe_iconst 0).trans (congrArg (x_iconst 0) ((xe_p (kk := 101) rfl tl_1_7).trans (congrArg (x_p 101 7 0 1) (xe_return_)))))))))))))))))))))))))))))))))))))))))))))))))))))))))))))))))
theorem bk_X1_place_e_66 : ck_ fX1 none cX1_place 66 [.iinc 4 1, .goto 14] 72 = true := qck_r (nn_ _) (by decide +kernel)
theorem bs_X1_place_e_66 {P : Zt → Option Zv → Prop} (K : Int → Zl → List Zv → Zt → Prop) : sx_ K P [.iinc 4 1, .goto 14] 72 = x_iinc 4 1 (x_goto 14 K) := ((xe_iinc 4 1).trans (congrArg (x_iinc 4 1) (xe_goto 14)))
theorem bk_X1_place_e_0 : ck_ fX1 none cX1_place 0 [.aload 0, .aload 0, .tableswitch 0 1 6 #[]] 5 = true := qck_r (nn_ _) (by decide +kernel)
theorem bs_X1_place_e_0 {P : Zt → Option Zv → Prop} (K : Int → Zl → List Zv → Zt → Prop) : sx_ K P [.aload 0, .aload 0, .tableswitch 0 1 6 #[]] 5 = x_aload 0 (x_aload 0 (x_g0 101 6 (-2147483648) 2147483647 (K 5))) := ((xe_aload 0).trans (congrArg (x_aload 0) ((xe_aload 0).trans (congrArg (x_aload 0) ((xe_g0 (kk := 101) rfl tl_1_6).trans (congrArg (x_g0 101 6 (-2147483648) 2147483647) xe_nil))))))
theorem bk_X1_place_e_8 : ck_ fX1 none cX1_place 8 [.istore 2, .iconst 0, .istore 3, .iconst 0, .istore 4] 14 = true := qck_r (nn_ _) (by decide +kernel)
theorem bs_X1_place_e_8 {P : Zt → Option Zv → Prop} (K : Int → Zl → List Zv → Zt → Prop) : sx_ K P [.istore 2, .iconst 0, .istore 3, .iconst 0, .istore 4] 14 = x_istore 2 (x_iconst 0 (x_istore 3 (x_iconst 0 (x_istore 4 (K 14))))) := ((xe_istore 2).trans (congrArg (x_istore 2) ((xe_iconst 0).trans (congrArg (x_iconst 0) ((xe_istore 3).trans (congrArg (x_istore 3) ((xe_iconst 0).trans (congrArg (x_iconst 0) ((xe_istore 4).trans (congrArg (x_istore 4) xe_nil))))))))))
abbrev po_X1_place_e (T : Zt) (c : Int) : Zt → Option Zv → Prop := fun T' r => r = none ∧ fr_ [(101, [5, 4, 7]), (429, [])] T T' ∧ (PL9_ T T' c)
set_option maxHeartbeats 4000000 in
theorem ct_X1_place_e {T : Zt} {c : Int} (h1 : 0 ≤ c ∧ c < 12) (ht : 1 ≤ T 101 0 6 ∧ T 101 0 6 ≤ 13824) (hw : ∀ u, 0 ≤ u → u < 4 → 0 ≤ T 431 0 (c * 4 + u) ∧ T 431 0 (c * 4 + u) ≤ 13824) (hs : T 101 0 6 = swn_ T c (T 101 0 1).toNat) (hdr : 0 ≤ T 101 0 4 ∧ T 101 0 4 ≤ 12) : Ct_ yX1_place zX1_place T [vR 101 0, vI c] (po_X1_place_e T c) := by
  refine ct_of pn_1 rfl rfl (Nat.le_of_ble_eq_true rfl) (fun hT hav => ?_)
  have hr_c : -2147483648 ≤ c ∧ c ≤ 2147483647 := hav (vI c) (List.mem_cons_of_mem _ List.mem_cons_self)
  have hz : zX1_place.2.2.2.1 = some .boolean → ∀ (T' : Zt) (x : Int), po_X1_place_e T c T' (some (vI x)) → 0 ≤ x ∧ x ≤ 1 := fun h => by cases h
  have hgr : 0 ≤ T 101 0 1 ∧ T 101 0 1 ≤ 4 := bd_f hT 101 1 tl_1_1 0
  show J_ zX1_place T (po_X1_place_e T c) 0 0 0 [some (vR 101 0), some (vI c), none, none, none] [] T
  have c_14 : ∀ (nn : Nat) (t : Int) (u : Int) (g : Int) (T1 : Zt), ((4 - g).toNat) ≤ nn → (fr_ [(101, [5])] T T1) → (0 ≤ g ∧ g ≤ T 101 0 1 ∧ 0 ≤ u ∧ u ≤ 60000) → (u = swn_ T c g.toNat ∧ t = (tb9_ (T 101 0 6) (T 101 0 5)).1 ∧ T1 101 0 5 = (tb9_ (T 101 0 6) (T 101 0 5)).2 ∧ u ≤ t) → J_ zX1_place T (po_X1_place_e T c) 0 0 14 [some (vR 101 0), some (vI c), some (vI t), some (vI u), some (vI g)] [] T1 := by
    intro nn
    induction nn using Nat.strongRecOn with
    | _ nn ih_14 =>
      intro t u g T1 hm_14 hf_14 i1 i2
      replace hm_14 := fun (_ : Unit) => hm_14
      refine j_blx (F := fX1) tb_X1 (nn_ _) bk_X1_place_e_14 bs_X1_place_e_14 hz (fun K hK => ?_)
      intro b1 b1b
      have e2 : T1 101 0 1 = T 101 0 1 := hf_14 101 0 1 rfl
      rw [e2] at b1 b1b ⊢
      refine And.intro (fun c3 => ?_) (fun c3 => ?_)
      · exfalso; have y := i2.1; rw [show g = T 101 0 1 by omega, ← hs] at y; have y2 := tb9_r (m := T 101 0 6) (s := T 101 0 5) (by omega); omega
      · have hbw := hw g (by omega) (by omega)
        have hbs := swn_b hw g.toNat (by omega)
        refine rg_i (by omega) ?_
        refine rg_i (by omega) ?_
        refine ix_i (by omega) ?_
        intro b4 b4b
        have e5 : T1 431 0 ((c * 4) + g) = T 431 0 ((c * 4) + g) := hf_14 431 0 ((c * 4) + g) rfl
        rw [e5] at b4 b4b ⊢
        refine rg_i (by omega) ?_
        refine And.intro (fun c6 => ?_) (fun c6 => ?_)
        · refine hK 66 [some (vR 101 0), some (vI c), some (vI t), some (vI (u + (T 431 0 ((c * 4) + g)))), some (vI g)] [] T1 ?_
          refine j_blx (F := fX1) tb_X1 (nn_ _) bk_X1_place_e_66 bs_X1_place_e_66 hz (fun K hK => ?_)
          refine rg_i (by omega) ?_
          refine hK 14 [some (vR 101 0), some (vI c), some (vI t), some (vI (u + (T 431 0 ((c * 4) + g)))), some (vI (g + 1))] [] T1 ?_
          refine ih_14 _ ?_ t (u + (T 431 0 ((c * 4) + g))) (g + 1) T1 (Nat.le_refl _) ?_ ?_ ?_
          · have hm_14 := hm_14 (); omega
          · exact fr_t (fr_0 _ _) (fr_s hf_14 rfl)
          · omega
          · rw [swn_s (by omega)]
            exact ⟨by omega, i2.2.1, i2.2.2.1, by omega⟩
        · refine iy_i (by omega) (by omega) ?_
          refine x_nm (fun U7 hU7 => ?_)
          have e8 := up_f hU7
          intro b9 b9b
          have e10 : U7 101 0 4 = T 101 0 4 := (up_k hU7 (by exact Nat.ne_of_beq_eq_false rfl) 0 4).trans (hf_14 101 0 4 rfl)
          rw [e10] at b9 b9b ⊢
          refine rg_i (by omega) ?_
          refine bd_i (by omega) ?_
          refine x_nm (fun U11 hU11 => ?_)
          have e12 := up_f hU11
          refine bd_i (by omega) ?_
          refine x_nm (fun U13 hU13 => ?_)
          have e14 := up_f hU13
          refine (show po_X1_place_e T c U13 (none) from ?_)
          have hss := swn_s (T := T) (c := c) (g := g) (by omega)
          exact ⟨rfl, fr_u (fr_u (fr_u (fr_t (fr_0 _ _) (fr_s hf_14 rfl)) hU7 rfl) hU11 rfl) hU13 rfl, g, by omega, ⟨by omega, by omega⟩, (up_k hU13 (by exact Nat.ne_of_beq_eq_false rfl) 0 c).trans ((up_k hU11 (by exact Nat.ne_of_beq_eq_false rfl) 0 c).trans (up_f hU7)), fun j hj => (up_k hU13 (by exact Nat.ne_of_beq_eq_false rfl) 0 j).trans ((up_k hU11 (by exact Nat.ne_of_beq_eq_false rfl) 0 j).trans ((up_g hU7 (fun q => hj q.2.2)).trans (hf_14 429 0 j rfl))), (up_j hU13 (by decide) 101 0).trans (up_f hU11), up_f hU13, (up_j hU13 (by decide) 101 0).trans ((up_j hU11 (by decide) 101 0).trans ((up_k hU7 (by exact Nat.ne_of_beq_eq_false rfl) 0 5).trans i2.2.2.1))⟩
  refine j_blx (F := fX1) tb_X1 (nn_ _) bk_X1_place_e_0 bs_X1_place_e_0 hz (fun K hK => ?_)
  intro b15 b15b
  refine hK 5 _ [vI (T 101 0 6), vR 101 0] T ?_
  refine j_callV (y := yX1_takeBelow) (Yc := zX1_takeBelow) (rest := []) [vI (T 101 0 6)] (ct_X1_takeBelow_e (T := T) (by omega)) cl_X1_75 (qd_c (by decide +kernel)) (nn_ _) rfl (rf_of rfl) (Nat.le_of_ble_eq_true rfl) (Nat.le_of_ble_eq_true rfl) (Nat.le_of_ble_eq_true rfl) rfl ?_
  rintro U16 _ ⟨x17, rfl, fU16, qU16⟩
  show J_ zX1_place T (po_X1_place_e T c) 0 0 8 _ [vI x17] U16
  refine j_blx (F := fX1) tb_X1 (nn_ _) bk_X1_place_e_8 bs_X1_place_e_8 hz (fun K hK => ?_)
  refine hK 14 [some (vR 101 0), some (vI c), some (vI x17), some (vI 0), some (vI 0)] [] U16 ?_
  refine c_14 _ x17 0 0 U16 (Nat.le_refl _) ?_ ?_ ?_
  · exact fr_t (fr_0 _ _) (fr_s fU16 rfl)
  · omega
  · exact ⟨rfl, qU16.1, qU16.2.1, by show (0 : Int) ≤ _; omega⟩
