abbrev po_X5_nextToken_e (T : Zt) : Zt → Option Zv → Prop := fun T' r => r = none ∧ fr_ [(105, [7, 8, 9])] T T' ∧ (TK9_ (fun j => T 500 0 j) (T 105 0 1) (T 105 0 9) (T' 105 0 8) (T' 105 0 9) (T' 105 0 7))
set_option maxHeartbeats 4000000 in
theorem ct_X5_nextToken_e {T : Zt} (h9 : T 105 0 9 ≤ T 105 0 1) : Ct_ yX5_nextToken zX5_nextToken T [vR 105 0] (po_X5_nextToken_e T) := by
  refine ct_of pn_5 rfl rfl (Nat.le_of_ble_eq_true rfl) (fun hT hav => ?_)
  have hz : zX5_nextToken.2.2.2.1 = some .boolean → ∀ (T' : Zt) (x : Int), po_X5_nextToken_e T T' (some (vI x)) → 0 ≤ x ∧ x ≤ 1 := fun h => by cases h
  have hln : 0 ≤ T 105 0 1 ∧ T 105 0 1 ≤ 400 := bd_f hT 105 1 tl_5_1 0
  have hte : 0 ≤ T 105 0 9 ∧ T 105 0 9 ≤ 400 := bd_f hT 105 9 tl_5_9 0
  show J_ zX5_nextToken T (po_X5_nextToken_e T) 0 0 0 [some (vR 105 0), none] [] T
  have c_5 : ∀ (nn : Nat) (a : Int), ((400 - a).toNat) ≤ nn → (T 105 0 9 ≤ a ∧ a ≤ T 105 0 1) → (BP9_ (fun j => T 500 0 j) (T 105 0 9) a) → J_ zX5_nextToken T (po_X5_nextToken_e T) 0 0 5 [some (vR 105 0), some (vI a)] [] T := by
    intro nn
    induction nn using Nat.strongRecOn with
    | _ nn ih_5 =>
      intro a hm_5 i1 i2
      replace hm_5 := fun (_ : Unit) => hm_5
      refine j_blx (F := fX5) tb_X5 (nn_ _) bk_X5_nextToken_5 bs_X5_nextToken_5 hz (fun K hK => ?_)
      intro b1 b1b
      refine And.intro (fun c2 => ?_) (fun c2 => ?_)
      · refine hK 41 _ [] T ?_
        have sk : SK9_ (fun j => T 500 0 j) (T 105 0 1) (T 105 0 9) a := ⟨i1.1, i1.2, i2, fun g => (show ¬ (T 500 0 a = 10 ∨ T 500 0 a = 32) by omega)⟩
        refine j_blx (F := fX5) tb_X5 (nn_ _) bk_X5_nextToken_41 bs_X5_nextToken_41 hz (fun K hK => ?_)
        refine bd_i (by omega) ?_
        refine x_nm (fun U3 hU3 => ?_)
        have e4 := up_f hU3
        refine bd_i (by omega) ?_
        refine x_nm (fun U5 hU5 => ?_)
        have e6 := up_f hU5
        intro b7 b7b
        have e8 : U5 105 0 1 = T 105 0 1 := (up_j hU5 (by decide) 105 0).trans (up_j hU3 (by decide) 105 0)
        rw [e8] at b7 b7b ⊢
        refine And.intro (fun c9 => ?_) (fun c9 => ?_)
        · refine hK 67 _ [] U5 ?_
          refine j_blx (F := fX5) tb_X5 (nn_ _) bk_X5_nextToken_67 bs_X5_nextToken_67 hz (fun K hK => ?_)
          refine hK 73 _ [vI 122, vI 97, vI a, vR 105 0] U5 ?_
          refine j_callV (y := yX5_isBetween) (Yc := zX5_isBetween) (rest := []) [vI a, vI 97, vI 122] (ct_X5_isBetween_e (T := U5) (by omega)) cl_X5_104 (qd_c (by decide +kernel)) (nn_ _) rfl (rf_of rfl) (Nat.le_of_ble_eq_true rfl) (Nat.le_of_ble_eq_true rfl) (Nat.le_of_ble_eq_true rfl) rfl ?_
          rintro _ _ ⟨rfl, x10, rfl, hx10⟩
          show J_ zX5_nextToken T (po_X5_nextToken_e T) 0 0 76 _ [vI x10] U5
          have ea9 : U5 500 0 a = T 500 0 a := (show fr_ [(105, [8, 9])] T U5 from fr_u (fr_u (fr_0 _ _) hU3 rfl) hU5 rfl) 500 0 a rfl
          refine j_blx (F := fX5) tb_X5 (nn_ _) bk_X5_nextToken_76 bs_X5_nextToken_76 hz (fun K hK => ?_)
          refine And.intro (fun c11 => ?_) (fun c11 => ?_)
          · refine hK 93 _ [] U5 ?_
            refine j_blx (F := fX5) tb_X5 (nn_ _) bk_X5_nextToken_93 bs_X5_nextToken_93 hz (fun K hK => ?_)
            refine hK 99 _ [vI 57, vI 48, vI a, vR 105 0] U5 ?_
            refine j_callV (y := yX5_isBetween) (Yc := zX5_isBetween) (rest := []) [vI a, vI 48, vI 57] (ct_X5_isBetween_e (T := U5) (by omega)) cl_X5_104 (qd_c (by decide +kernel)) (nn_ _) rfl (rf_of rfl) (Nat.le_of_ble_eq_true rfl) (Nat.le_of_ble_eq_true rfl) (Nat.le_of_ble_eq_true rfl) rfl ?_
            rintro _ _ ⟨rfl, x12, rfl, hx12⟩
            show J_ zX5_nextToken T (po_X5_nextToken_e T) 0 0 102 _ [vI x12] U5
            refine j_blx (F := fX5) tb_X5 (nn_ _) bk_X5_nextToken_102 bs_X5_nextToken_102 hz (fun K hK => ?_)
            refine And.intro (fun c13 => ?_) (fun c13 => ?_)
            · replace hx12 := hx12.resolve_left (fun z => absurd (c13.symm.trans z.1) (by decide))
              clear c13
              refine hK 118 _ [] U5 ?_
              refine j_blx (F := fX5) tb_X5 (nn_ _) bk_X5_nextToken_118 bs_X5_nextToken_118 hz (fun K hK => ?_)
              refine rg_i (by omega) ?_
              refine bd_i (by omega) ?_
              refine x_nm (fun U14 hU14 => ?_)
              have e15 := up_f hU14
              refine ix_i (by omega) ?_
              intro b16 b16b
              have e17 : U14 500 0 a = T 500 0 a := (up_k hU14 (by exact Nat.ne_of_beq_eq_false rfl) 0 a).trans ((up_k hU5 (by exact Nat.ne_of_beq_eq_false rfl) 0 a).trans (up_k hU3 (by exact Nat.ne_of_beq_eq_false rfl) 0 a))
              rw [e17] at b16 b16b ⊢
              refine And.intro (fun c18 => ?_) (fun c18 => ?_)
              · refine hK 141 _ [vR 105 0] U14 ?_
                refine j_blx (F := fX5) tb_X5 (nn_ _) bk_X5_nextToken_141 bs_X5_nextToken_141 hz (fun K hK => ?_)
                refine ix_i (by omega) ?_
                intro b19 b19b
                have e20 : U14 500 0 a = T 500 0 a := (up_k hU14 (by exact Nat.ne_of_beq_eq_false rfl) 0 a).trans ((up_k hU5 (by exact Nat.ne_of_beq_eq_false rfl) 0 a).trans (up_k hU3 (by exact Nat.ne_of_beq_eq_false rfl) 0 a))
                rw [e20] at b19 b19b ⊢
                refine And.intro (fun c21 => ?_) (fun c21 => ?_)
                · refine hK 156 _ [vR 105 0] U14 ?_
                  refine j_blx (F := fX5) tb_X5 (nn_ _) bk_X5_nextToken_156 bs_X5_nextToken_156 hz (fun K hK => ?_)
                  refine bd_i (by omega) ?_
                  refine x_nm (fun U22 hU22 => ?_)
                  have e23 := up_f hU22
                  refine (show po_X5_nextToken_e T U22 (none) from ?_)
                  have e24 : U22 105 0 8 = a := (up_j hU22 (by decide) 105 0).trans ((up_j hU14 (by decide) 105 0).trans ((up_j hU5 (by decide) 105 0).trans (up_f hU3)))
                  have e25 : U22 105 0 9 = a + 1 := (up_j hU22 (by decide) 105 0).trans (up_f hU14)
                  have e26 : U22 105 0 7 = 5 := up_f hU22
                  have fv : fr_ [(105, [7, 8, 9])] T U22 := fr_u (fr_u (fr_u (fr_u (fr_0 _ _) hU3 rfl) hU5 rfl) hU14 rfl) hU22 rfl
                  refine ⟨rfl, fr_u (fr_u (fr_u (fr_u (fr_0 _ _) hU3 rfl) hU5 rfl) hU14 rfl) hU22 rfl, ?_⟩
                  have e7 := up_f hU22
                  have e9 := (up_j hU22 (by decide) 105 0).trans (up_f hU14)
                  have e8 : U22 105 0 8 = a := (up_j hU22 (by decide) 105 0).trans ((up_j hU14 (by decide) 105 0).trans ((up_j hU5 (by decide) 105 0).trans ((up_f hU3))))
                  exact tk9_3 sk e8 (by omega) (show ¬ (97 ≤ T 500 0 a ∧ T 500 0 a ≤ 122) by omega) (show ¬ (48 ≤ T 500 0 a ∧ T 500 0 a ≤ 57) by omega) e9 (show (T 500 0 a = 59 ∧ _) ∨ (T 500 0 a = 44 ∧ _) ∨ (T 500 0 a ≠ 59 ∧ T 500 0 a ≠ 44 ∧ _) by omega)
                · refine hK 157 _ [vI 4, vR 105 0] U14 ?_
                  refine j_blx (F := fX5) tb_X5 (nn_ _) bk_X5_nextToken_157 bs_X5_nextToken_157 hz (fun K hK => ?_)
                  refine bd_i (by omega) ?_
                  refine x_nm (fun U27 hU27 => ?_)
                  have e28 := up_f hU27
                  refine (show po_X5_nextToken_e T U27 (none) from ?_)
                  have e29 : U27 105 0 8 = a := (up_j hU27 (by decide) 105 0).trans ((up_j hU14 (by decide) 105 0).trans ((up_j hU5 (by decide) 105 0).trans (up_f hU3)))
                  have e30 : U27 105 0 9 = a + 1 := (up_j hU27 (by decide) 105 0).trans (up_f hU14)
                  have e31 : U27 105 0 7 = 4 := up_f hU27
                  have fv : fr_ [(105, [7, 8, 9])] T U27 := fr_u (fr_u (fr_u (fr_u (fr_0 _ _) hU3 rfl) hU5 rfl) hU14 rfl) hU27 rfl
                  refine ⟨rfl, fr_u (fr_u (fr_u (fr_u (fr_0 _ _) hU3 rfl) hU5 rfl) hU14 rfl) hU27 rfl, ?_⟩
                  have e7 := up_f hU27
                  have e9 := (up_j hU27 (by decide) 105 0).trans (up_f hU14)
                  have e8 : U27 105 0 8 = a := (up_j hU27 (by decide) 105 0).trans ((up_j hU14 (by decide) 105 0).trans ((up_j hU5 (by decide) 105 0).trans ((up_f hU3))))
                  exact tk9_3 sk e8 (by omega) (show ¬ (97 ≤ T 500 0 a ∧ T 500 0 a ≤ 122) by omega) (show ¬ (48 ≤ T 500 0 a ∧ T 500 0 a ≤ 57) by omega) e9 (show (T 500 0 a = 59 ∧ _) ∨ (T 500 0 a = 44 ∧ _) ∨ (T 500 0 a ≠ 59 ∧ T 500 0 a ≠ 44 ∧ _) by omega)
              · refine hK 157 _ [vI 3, vR 105 0] U14 ?_
                refine j_blx (F := fX5) tb_X5 (nn_ _) bk_X5_nextToken_157 bs_X5_nextToken_157 hz (fun K hK => ?_)
                refine bd_i (by omega) ?_
                refine x_nm (fun U32 hU32 => ?_)
                have e33 := up_f hU32
                refine (show po_X5_nextToken_e T U32 (none) from ?_)
                have e34 : U32 105 0 8 = a := (up_j hU32 (by decide) 105 0).trans ((up_j hU14 (by decide) 105 0).trans ((up_j hU5 (by decide) 105 0).trans (up_f hU3)))
                have e35 : U32 105 0 9 = a + 1 := (up_j hU32 (by decide) 105 0).trans (up_f hU14)
                have e36 : U32 105 0 7 = 3 := up_f hU32
                have fv : fr_ [(105, [7, 8, 9])] T U32 := fr_u (fr_u (fr_u (fr_u (fr_0 _ _) hU3 rfl) hU5 rfl) hU14 rfl) hU32 rfl
                refine ⟨rfl, fr_u (fr_u (fr_u (fr_u (fr_0 _ _) hU3 rfl) hU5 rfl) hU14 rfl) hU32 rfl, ?_⟩
                have e7 := up_f hU32
                have e9 := (up_j hU32 (by decide) 105 0).trans (up_f hU14)
                have e8 : U32 105 0 8 = a := (up_j hU32 (by decide) 105 0).trans ((up_j hU14 (by decide) 105 0).trans ((up_j hU5 (by decide) 105 0).trans ((up_f hU3))))
                exact tk9_3 sk e8 (by omega) (show ¬ (97 ≤ T 500 0 a ∧ T 500 0 a ≤ 122) by omega) (show ¬ (48 ≤ T 500 0 a ∧ T 500 0 a ≤ 57) by omega) e9 (show (T 500 0 a = 59 ∧ _) ∨ (T 500 0 a = 44 ∧ _) ∨ (T 500 0 a ≠ 59 ∧ T 500 0 a ≠ 44 ∧ _) by omega)
            · replace hx12 := hx12.resolve_right (fun z => c13 z.1)
              clear c13
              refine hK 112 _ [vI 3, vI 2, vI 57, vI 48, vR 105 0] U5 ?_
              have e37 : U5 105 0 9 = a := up_f hU5
              have e38 : U5 105 0 1 = T 105 0 1 := (up_j hU5 (by decide) 105 0).trans (up_j hU3 (by decide) 105 0)
              refine j_callV (y := yX5_takeRun) (Yc := zX5_takeRun) (rest := []) [vI 48, vI 57, vI 2, vI 3] (ct_X5_takeRun_e (T := U5) (by omega) (by omega)) cl_X5_108 (qd_c (by decide +kernel)) (nn_ _) rfl (rf_of rfl) (Nat.le_of_ble_eq_true rfl) (Nat.le_of_ble_eq_true rfl) (Nat.le_of_ble_eq_true rfl) rfl ?_
              rintro U39 _ ⟨rfl, fU39, qU39⟩
              show J_ zX5_nextToken T (po_X5_nextToken_e T) 0 0 115 _ [] U39
              refine j_blx (F := fX5) tb_X5 (nn_ _) bk_X5_nextToken_115 bs_X5_nextToken_115 hz (fun K hK => ?_)
              refine hK 160 _ [] U39 ?_
              refine j_blx (F := fX5) tb_X5 (nn_ _) bk_X5_nextToken_160 bs_X5_nextToken_160 hz (fun K hK => ?_)
              refine (show po_X5_nextToken_e T U39 (none) from ?_)
              have e40 : U39 105 0 8 = a := (fU39 105 0 8 rfl).trans ((up_j hU5 (by decide) 105 0).trans (up_f hU3))
              have fv : fr_ [(105, [8, 9])] T U5 := fr_u (fr_u (fr_0 _ _) hU3 rfl) hU5 rfl
              have eb : (fun j => U5 500 0 j) = fun j => T 500 0 j := funext fun j => fv 500 0 j rfl
              have el := fv 105 0 1 rfl
              have ea : T 500 0 a = U5 500 0 a := (fv 500 0 a rfl).symm
              have e9 := up_f hU5
              have e8 : U5 105 0 8 = a := (up_j hU5 (by decide) 105 0).trans (up_f hU3)
              have e8b : U39 105 0 8 = U5 105 0 8 := fU39 105 0 8 rfl
              rw [eb, el, e9] at qU39
              refine ⟨rfl, fr_t (fr_u (fr_u (fr_0 _ _) hU3 rfl) hU5 rfl) (fr_s fU39 rfl), ?_⟩
              exact tk9_2 sk (by omega) (by omega) (show _ ≤ T 500 0 a ∧ T 500 0 a ≤ _ by omega) qU39.1 (by omega)
          · refine hK 87 _ [vI 12, vI 1, vI 122, vI 97, vR 105 0] U5 ?_
            have e41 : U5 105 0 9 = a := up_f hU5
            have e42 : U5 105 0 1 = T 105 0 1 := (up_j hU5 (by decide) 105 0).trans (up_j hU3 (by decide) 105 0)
            refine j_callV (y := yX5_takeRun) (Yc := zX5_takeRun) (rest := []) [vI 97, vI 122, vI 1, vI 12] (ct_X5_takeRun_e (T := U5) (by omega) (by omega)) cl_X5_108 (qd_c (by decide +kernel)) (nn_ _) rfl (rf_of rfl) (Nat.le_of_ble_eq_true rfl) (Nat.le_of_ble_eq_true rfl) (Nat.le_of_ble_eq_true rfl) rfl ?_
            rintro U43 _ ⟨rfl, fU43, qU43⟩
            show J_ zX5_nextToken T (po_X5_nextToken_e T) 0 0 90 _ [] U43
            refine j_blx (F := fX5) tb_X5 (nn_ _) bk_X5_nextToken_90 bs_X5_nextToken_90 hz (fun K hK => ?_)
            refine hK 160 _ [] U43 ?_
            refine j_blx (F := fX5) tb_X5 (nn_ _) bk_X5_nextToken_160 bs_X5_nextToken_160 hz (fun K hK => ?_)
            refine (show po_X5_nextToken_e T U43 (none) from ?_)
            have e44 : U43 105 0 8 = a := (fU43 105 0 8 rfl).trans ((up_j hU5 (by decide) 105 0).trans (up_f hU3))
            have fv : fr_ [(105, [8, 9])] T U5 := fr_u (fr_u (fr_0 _ _) hU3 rfl) hU5 rfl
            have eb : (fun j => U5 500 0 j) = fun j => T 500 0 j := funext fun j => fv 500 0 j rfl
            have el := fv 105 0 1 rfl
            have ea : T 500 0 a = U5 500 0 a := (fv 500 0 a rfl).symm
            have e9 := up_f hU5
            have e8 : U5 105 0 8 = a := (up_j hU5 (by decide) 105 0).trans (up_f hU3)
            have e8b : U43 105 0 8 = U5 105 0 8 := fU43 105 0 8 rfl
            rw [eb, el, e9] at qU43
            refine ⟨rfl, fr_t (fr_u (fr_u (fr_0 _ _) hU3 rfl) hU5 rfl) (fr_s fU43 rfl), ?_⟩
            exact tk9_1 sk (by omega) (by omega) (show _ ≤ T 500 0 a ∧ T 500 0 a ≤ _ by omega) qU43.1 (by omega)
        · refine bd_i (by omega) ?_
          refine x_nm (fun U45 hU45 => ?_)
          have e46 := up_f hU45
          refine hK 160 _ [] U45 ?_
          refine j_blx (F := fX5) tb_X5 (nn_ _) bk_X5_nextToken_160 bs_X5_nextToken_160 hz (fun K hK => ?_)
          refine (show po_X5_nextToken_e T U45 (none) from ?_)
          have e47 : U45 105 0 8 = a := (up_j hU45 (by decide) 105 0).trans ((up_j hU5 (by decide) 105 0).trans (up_f hU3))
          have e48 : U45 105 0 9 = a := (up_j hU45 (by decide) 105 0).trans (up_f hU5)
          have e49 : U45 105 0 7 = 0 := up_f hU45
          have fv : fr_ [(105, [7, 8, 9])] T U45 := fr_u (fr_u (fr_u (fr_0 _ _) hU3 rfl) hU5 rfl) hU45 rfl
          refine ⟨rfl, fr_u (fr_u (fr_u (fr_0 _ _) hU3 rfl) hU5 rfl) hU45 rfl, ?_⟩
          have e7 := up_f hU45
          have e9 := (up_j hU45 (by decide) 105 0).trans (up_f hU5)
          have e8 : U45 105 0 8 = a := (up_j hU45 (by decide) 105 0).trans ((up_j hU5 (by decide) 105 0).trans ((up_f hU3)))
          exact tk9_0 sk e8 (by omega) e9 e7
      · refine ix_i (by omega) ?_
        intro b50 b50b
        refine And.intro (fun c51 => ?_) (fun c51 => ?_)
        · refine hK 35 _ [] T ?_
          refine j_blx (F := fX5) tb_X5 (nn_ _) bk_X5_nextToken_35 bs_X5_nextToken_35 hz (fun K hK => ?_)
          refine rg_i (by omega) ?_
          refine hK 5 [some (vR 105 0), some (vI (a + 1))] [] T ?_
          refine ih_5 _ ?_ (a + 1) (Nat.le_refl _) ?_ ?_
          · have hm_5 := hm_5 (); omega
          · omega
          · exact bp9_s i2 (show T 500 0 a = 10 ∨ T 500 0 a = 32 by omega)
        · refine ix_i (by omega) ?_
          intro b52 b52b
          refine And.intro (fun c53 => ?_) (fun c53 => ?_)
          · refine hK 41 [some (vR 105 0), some (vI a)] [] T ?_
            have sk : SK9_ (fun j => T 500 0 j) (T 105 0 1) (T 105 0 9) a := ⟨i1.1, i1.2, i2, fun g => (show ¬ (T 500 0 a = 10 ∨ T 500 0 a = 32) by omega)⟩
            refine j_blx (F := fX5) tb_X5 (nn_ _) bk_X5_nextToken_41 bs_X5_nextToken_41 hz (fun K hK => ?_)
            refine bd_i (by omega) ?_
            refine x_nm (fun U54 hU54 => ?_)
            have e55 := up_f hU54
            refine bd_i (by omega) ?_
            refine x_nm (fun U56 hU56 => ?_)
            have e57 := up_f hU56
            intro b58 b58b
            have e59 : U56 105 0 1 = T 105 0 1 := (up_j hU56 (by decide) 105 0).trans (up_j hU54 (by decide) 105 0)
            rw [e59] at b58 b58b ⊢
            refine And.intro (fun c60 => ?_) (fun c60 => ?_)
            · refine hK 67 _ [] U56 ?_
              refine j_blx (F := fX5) tb_X5 (nn_ _) bk_X5_nextToken_67 bs_X5_nextToken_67 hz (fun K hK => ?_)
              refine hK 73 _ [vI 122, vI 97, vI a, vR 105 0] U56 ?_
              refine j_callV (y := yX5_isBetween) (Yc := zX5_isBetween) (rest := []) [vI a, vI 97, vI 122] (ct_X5_isBetween_e (T := U56) (by omega)) cl_X5_104 (qd_c (by decide +kernel)) (nn_ _) rfl (rf_of rfl) (Nat.le_of_ble_eq_true rfl) (Nat.le_of_ble_eq_true rfl) (Nat.le_of_ble_eq_true rfl) rfl ?_
              rintro _ _ ⟨rfl, x61, rfl, hx61⟩
              show J_ zX5_nextToken T (po_X5_nextToken_e T) 0 0 76 _ [vI x61] U56
              have ea9 : U56 500 0 a = T 500 0 a := (show fr_ [(105, [8, 9])] T U56 from fr_u (fr_u (fr_0 _ _) hU54 rfl) hU56 rfl) 500 0 a rfl
              refine j_blx (F := fX5) tb_X5 (nn_ _) bk_X5_nextToken_76 bs_X5_nextToken_76 hz (fun K hK => ?_)
              refine And.intro (fun c62 => ?_) (fun c62 => ?_)
              · refine hK 93 _ [] U56 ?_
                refine j_blx (F := fX5) tb_X5 (nn_ _) bk_X5_nextToken_93 bs_X5_nextToken_93 hz (fun K hK => ?_)
                refine hK 99 _ [vI 57, vI 48, vI a, vR 105 0] U56 ?_
                refine j_callV (y := yX5_isBetween) (Yc := zX5_isBetween) (rest := []) [vI a, vI 48, vI 57] (ct_X5_isBetween_e (T := U56) (by omega)) cl_X5_104 (qd_c (by decide +kernel)) (nn_ _) rfl (rf_of rfl) (Nat.le_of_ble_eq_true rfl) (Nat.le_of_ble_eq_true rfl) (Nat.le_of_ble_eq_true rfl) rfl ?_
                rintro _ _ ⟨rfl, x63, rfl, hx63⟩
                show J_ zX5_nextToken T (po_X5_nextToken_e T) 0 0 102 _ [vI x63] U56
                refine j_blx (F := fX5) tb_X5 (nn_ _) bk_X5_nextToken_102 bs_X5_nextToken_102 hz (fun K hK => ?_)
                refine And.intro (fun c64 => ?_) (fun c64 => ?_)
                · replace hx63 := hx63.resolve_left (fun z => absurd (c64.symm.trans z.1) (by decide))
                  clear c64
                  refine hK 118 _ [] U56 ?_
                  refine j_blx (F := fX5) tb_X5 (nn_ _) bk_X5_nextToken_118 bs_X5_nextToken_118 hz (fun K hK => ?_)
                  refine rg_i (by omega) ?_
                  refine bd_i (by omega) ?_
                  refine x_nm (fun U65 hU65 => ?_)
                  have e66 := up_f hU65
                  refine ix_i (by omega) ?_
                  intro b67 b67b
                  have e68 : U65 500 0 a = T 500 0 a := (up_k hU65 (by exact Nat.ne_of_beq_eq_false rfl) 0 a).trans ((up_k hU56 (by exact Nat.ne_of_beq_eq_false rfl) 0 a).trans (up_k hU54 (by exact Nat.ne_of_beq_eq_false rfl) 0 a))
                  rw [e68] at b67 b67b ⊢
                  refine And.intro (fun c69 => ?_) (fun c69 => ?_)
                  · refine hK 141 _ [vR 105 0] U65 ?_
                    refine j_blx (F := fX5) tb_X5 (nn_ _) bk_X5_nextToken_141 bs_X5_nextToken_141 hz (fun K hK => ?_)
                    refine ix_i (by omega) ?_
                    intro b70 b70b
                    have e71 : U65 500 0 a = T 500 0 a := (up_k hU65 (by exact Nat.ne_of_beq_eq_false rfl) 0 a).trans ((up_k hU56 (by exact Nat.ne_of_beq_eq_false rfl) 0 a).trans (up_k hU54 (by exact Nat.ne_of_beq_eq_false rfl) 0 a))
                    rw [e71] at b70 b70b ⊢
                    refine And.intro (fun c72 => ?_) (fun c72 => ?_)
                    · refine hK 156 _ [vR 105 0] U65 ?_
                      refine j_blx (F := fX5) tb_X5 (nn_ _) bk_X5_nextToken_156 bs_X5_nextToken_156 hz (fun K hK => ?_)
                      refine bd_i (by omega) ?_
                      refine x_nm (fun U73 hU73 => ?_)
                      have e74 := up_f hU73
                      refine (show po_X5_nextToken_e T U73 (none) from ?_)
                      have e75 : U73 105 0 8 = a := (up_j hU73 (by decide) 105 0).trans ((up_j hU65 (by decide) 105 0).trans ((up_j hU56 (by decide) 105 0).trans (up_f hU54)))
                      have e76 : U73 105 0 9 = a + 1 := (up_j hU73 (by decide) 105 0).trans (up_f hU65)
                      have e77 : U73 105 0 7 = 5 := up_f hU73
                      have fv : fr_ [(105, [7, 8, 9])] T U73 := fr_u (fr_u (fr_u (fr_u (fr_0 _ _) hU54 rfl) hU56 rfl) hU65 rfl) hU73 rfl
                      refine ⟨rfl, fr_u (fr_u (fr_u (fr_u (fr_0 _ _) hU54 rfl) hU56 rfl) hU65 rfl) hU73 rfl, ?_⟩
                      have e7 := up_f hU73
                      have e9 := (up_j hU73 (by decide) 105 0).trans (up_f hU65)
                      have e8 : U73 105 0 8 = a := (up_j hU73 (by decide) 105 0).trans ((up_j hU65 (by decide) 105 0).trans ((up_j hU56 (by decide) 105 0).trans ((up_f hU54))))
                      exact tk9_3 sk e8 (by omega) (show ¬ (97 ≤ T 500 0 a ∧ T 500 0 a ≤ 122) by omega) (show ¬ (48 ≤ T 500 0 a ∧ T 500 0 a ≤ 57) by omega) e9 (show (T 500 0 a = 59 ∧ _) ∨ (T 500 0 a = 44 ∧ _) ∨ (T 500 0 a ≠ 59 ∧ T 500 0 a ≠ 44 ∧ _) by omega)
                    · refine hK 157 _ [vI 4, vR 105 0] U65 ?_
                      refine j_blx (F := fX5) tb_X5 (nn_ _) bk_X5_nextToken_157 bs_X5_nextToken_157 hz (fun K hK => ?_)
                      refine bd_i (by omega) ?_
                      refine x_nm (fun U78 hU78 => ?_)
                      have e79 := up_f hU78
                      refine (show po_X5_nextToken_e T U78 (none) from ?_)
                      have e80 : U78 105 0 8 = a := (up_j hU78 (by decide) 105 0).trans ((up_j hU65 (by decide) 105 0).trans ((up_j hU56 (by decide) 105 0).trans (up_f hU54)))
                      have e81 : U78 105 0 9 = a + 1 := (up_j hU78 (by decide) 105 0).trans (up_f hU65)
                      have e82 : U78 105 0 7 = 4 := up_f hU78
                      have fv : fr_ [(105, [7, 8, 9])] T U78 := fr_u (fr_u (fr_u (fr_u (fr_0 _ _) hU54 rfl) hU56 rfl) hU65 rfl) hU78 rfl
                      refine ⟨rfl, fr_u (fr_u (fr_u (fr_u (fr_0 _ _) hU54 rfl) hU56 rfl) hU65 rfl) hU78 rfl, ?_⟩
                      have e7 := up_f hU78
                      have e9 := (up_j hU78 (by decide) 105 0).trans (up_f hU65)
                      have e8 : U78 105 0 8 = a := (up_j hU78 (by decide) 105 0).trans ((up_j hU65 (by decide) 105 0).trans ((up_j hU56 (by decide) 105 0).trans ((up_f hU54))))
                      exact tk9_3 sk e8 (by omega) (show ¬ (97 ≤ T 500 0 a ∧ T 500 0 a ≤ 122) by omega) (show ¬ (48 ≤ T 500 0 a ∧ T 500 0 a ≤ 57) by omega) e9 (show (T 500 0 a = 59 ∧ _) ∨ (T 500 0 a = 44 ∧ _) ∨ (T 500 0 a ≠ 59 ∧ T 500 0 a ≠ 44 ∧ _) by omega)
                  · refine hK 157 _ [vI 3, vR 105 0] U65 ?_
                    refine j_blx (F := fX5) tb_X5 (nn_ _) bk_X5_nextToken_157 bs_X5_nextToken_157 hz (fun K hK => ?_)
                    refine bd_i (by omega) ?_
                    refine x_nm (fun U83 hU83 => ?_)
                    have e84 := up_f hU83
                    refine (show po_X5_nextToken_e T U83 (none) from ?_)
                    have e85 : U83 105 0 8 = a := (up_j hU83 (by decide) 105 0).trans ((up_j hU65 (by decide) 105 0).trans ((up_j hU56 (by decide) 105 0).trans (up_f hU54)))
                    have e86 : U83 105 0 9 = a + 1 := (up_j hU83 (by decide) 105 0).trans (up_f hU65)
                    have e87 : U83 105 0 7 = 3 := up_f hU83
                    have fv : fr_ [(105, [7, 8, 9])] T U83 := fr_u (fr_u (fr_u (fr_u (fr_0 _ _) hU54 rfl) hU56 rfl) hU65 rfl) hU83 rfl
                    refine ⟨rfl, fr_u (fr_u (fr_u (fr_u (fr_0 _ _) hU54 rfl) hU56 rfl) hU65 rfl) hU83 rfl, ?_⟩
                    have e7 := up_f hU83
                    have e9 := (up_j hU83 (by decide) 105 0).trans (up_f hU65)
                    have e8 : U83 105 0 8 = a := (up_j hU83 (by decide) 105 0).trans ((up_j hU65 (by decide) 105 0).trans ((up_j hU56 (by decide) 105 0).trans ((up_f hU54))))
                    exact tk9_3 sk e8 (by omega) (show ¬ (97 ≤ T 500 0 a ∧ T 500 0 a ≤ 122) by omega) (show ¬ (48 ≤ T 500 0 a ∧ T 500 0 a ≤ 57) by omega) e9 (show (T 500 0 a = 59 ∧ _) ∨ (T 500 0 a = 44 ∧ _) ∨ (T 500 0 a ≠ 59 ∧ T 500 0 a ≠ 44 ∧ _) by omega)
                · replace hx63 := hx63.resolve_right (fun z => c64 z.1)
                  clear c64
                  refine hK 112 _ [vI 3, vI 2, vI 57, vI 48, vR 105 0] U56 ?_
                  have e88 : U56 105 0 9 = a := up_f hU56
                  have e89 : U56 105 0 1 = T 105 0 1 := (up_j hU56 (by decide) 105 0).trans (up_j hU54 (by decide) 105 0)
                  refine j_callV (y := yX5_takeRun) (Yc := zX5_takeRun) (rest := []) [vI 48, vI 57, vI 2, vI 3] (ct_X5_takeRun_e (T := U56) (by omega) (by omega)) cl_X5_108 (qd_c (by decide +kernel)) (nn_ _) rfl (rf_of rfl) (Nat.le_of_ble_eq_true rfl) (Nat.le_of_ble_eq_true rfl) (Nat.le_of_ble_eq_true rfl) rfl ?_
                  rintro U90 _ ⟨rfl, fU90, qU90⟩
                  show J_ zX5_nextToken T (po_X5_nextToken_e T) 0 0 115 _ [] U90
                  refine j_blx (F := fX5) tb_X5 (nn_ _) bk_X5_nextToken_115 bs_X5_nextToken_115 hz (fun K hK => ?_)
                  refine hK 160 _ [] U90 ?_
                  refine j_blx (F := fX5) tb_X5 (nn_ _) bk_X5_nextToken_160 bs_X5_nextToken_160 hz (fun K hK => ?_)
                  refine (show po_X5_nextToken_e T U90 (none) from ?_)
                  have e91 : U90 105 0 8 = a := (fU90 105 0 8 rfl).trans ((up_j hU56 (by decide) 105 0).trans (up_f hU54))
                  have fv : fr_ [(105, [8, 9])] T U56 := fr_u (fr_u (fr_0 _ _) hU54 rfl) hU56 rfl
                  have eb : (fun j => U56 500 0 j) = fun j => T 500 0 j := funext fun j => fv 500 0 j rfl
                  have el := fv 105 0 1 rfl
                  have ea : T 500 0 a = U56 500 0 a := (fv 500 0 a rfl).symm
                  have e9 := up_f hU56
                  have e8 : U56 105 0 8 = a := (up_j hU56 (by decide) 105 0).trans (up_f hU54)
                  have e8b : U90 105 0 8 = U56 105 0 8 := fU90 105 0 8 rfl
                  rw [eb, el, e9] at qU90
                  refine ⟨rfl, fr_t (fr_u (fr_u (fr_0 _ _) hU54 rfl) hU56 rfl) (fr_s fU90 rfl), ?_⟩
                  exact tk9_2 sk (by omega) (by omega) (show _ ≤ T 500 0 a ∧ T 500 0 a ≤ _ by omega) qU90.1 (by omega)
              · refine hK 87 _ [vI 12, vI 1, vI 122, vI 97, vR 105 0] U56 ?_
                have e92 : U56 105 0 9 = a := up_f hU56
                have e93 : U56 105 0 1 = T 105 0 1 := (up_j hU56 (by decide) 105 0).trans (up_j hU54 (by decide) 105 0)
                refine j_callV (y := yX5_takeRun) (Yc := zX5_takeRun) (rest := []) [vI 97, vI 122, vI 1, vI 12] (ct_X5_takeRun_e (T := U56) (by omega) (by omega)) cl_X5_108 (qd_c (by decide +kernel)) (nn_ _) rfl (rf_of rfl) (Nat.le_of_ble_eq_true rfl) (Nat.le_of_ble_eq_true rfl) (Nat.le_of_ble_eq_true rfl) rfl ?_
                rintro U94 _ ⟨rfl, fU94, qU94⟩
                show J_ zX5_nextToken T (po_X5_nextToken_e T) 0 0 90 _ [] U94
                refine j_blx (F := fX5) tb_X5 (nn_ _) bk_X5_nextToken_90 bs_X5_nextToken_90 hz (fun K hK => ?_)
                refine hK 160 _ [] U94 ?_
                refine j_blx (F := fX5) tb_X5 (nn_ _) bk_X5_nextToken_160 bs_X5_nextToken_160 hz (fun K hK => ?_)
                refine (show po_X5_nextToken_e T U94 (none) from ?_)
                have e95 : U94 105 0 8 = a := (fU94 105 0 8 rfl).trans ((up_j hU56 (by decide) 105 0).trans (up_f hU54))
                have fv : fr_ [(105, [8, 9])] T U56 := fr_u (fr_u (fr_0 _ _) hU54 rfl) hU56 rfl
                have eb : (fun j => U56 500 0 j) = fun j => T 500 0 j := funext fun j => fv 500 0 j rfl
                have el := fv 105 0 1 rfl
                have ea : T 500 0 a = U56 500 0 a := (fv 500 0 a rfl).symm
                have e9 := up_f hU56
                have e8 : U56 105 0 8 = a := (up_j hU56 (by decide) 105 0).trans (up_f hU54)
                have e8b : U94 105 0 8 = U56 105 0 8 := fU94 105 0 8 rfl
                rw [eb, el, e9] at qU94
                refine ⟨rfl, fr_t (fr_u (fr_u (fr_0 _ _) hU54 rfl) hU56 rfl) (fr_s fU94 rfl), ?_⟩
                exact tk9_1 sk (by omega) (by omega) (show _ ≤ T 500 0 a ∧ T 500 0 a ≤ _ by omega) qU94.1 (by omega)
            · refine bd_i (by omega) ?_
              refine x_nm (fun U96 hU96 => ?_)
              have e97 := up_f hU96
              refine hK 160 _ [] U96 ?_
              refine j_blx (F := fX5) tb_X5 (nn_ _) bk_X5_nextToken_160 bs_X5_nextToken_160 hz (fun K hK => ?_)
              refine (show po_X5_nextToken_e T U96 (none) from ?_)
              have e98 : U96 105 0 8 = a := (up_j hU96 (by decide) 105 0).trans ((up_j hU56 (by decide) 105 0).trans (up_f hU54))
              have e99 : U96 105 0 9 = a := (up_j hU96 (by decide) 105 0).trans (up_f hU56)
              have e100 : U96 105 0 7 = 0 := up_f hU96
              have fv : fr_ [(105, [7, 8, 9])] T U96 := fr_u (fr_u (fr_u (fr_0 _ _) hU54 rfl) hU56 rfl) hU96 rfl
              refine ⟨rfl, fr_u (fr_u (fr_u (fr_0 _ _) hU54 rfl) hU56 rfl) hU96 rfl, ?_⟩
              have e7 := up_f hU96
              have e9 := (up_j hU96 (by decide) 105 0).trans (up_f hU56)
              have e8 : U96 105 0 8 = a := (up_j hU96 (by decide) 105 0).trans ((up_j hU56 (by decide) 105 0).trans ((up_f hU54)))
              exact tk9_0 sk e8 (by omega) e9 e7
          · refine rg_i (by omega) ?_
            refine hK 5 [some (vR 105 0), some (vI (a + 1))] [] T ?_
            refine ih_5 _ ?_ (a + 1) (Nat.le_refl _) ?_ ?_
            · have hm_5 := hm_5 (); omega
            · omega
            · exact bp9_s i2 (show T 500 0 a = 10 ∨ T 500 0 a = 32 by omega)
  refine j_blx (F := fX5) tb_X5 (nn_ _) bk_X5_nextToken_0 bs_X5_nextToken_0 hz (fun K hK => ?_)
  intro b101 b101b
  refine hK 5 [some (vR 105 0), some (vI (T 105 0 9))] [] T ?_
  refine c_5 _ (T 105 0 9) (Nat.le_refl _) ?_ ?_
  · omega
  · exact bp9_z
