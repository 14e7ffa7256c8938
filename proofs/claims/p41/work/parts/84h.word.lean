-- wordOf of the house
abbrev po_X5_fail_e (T : Zt) (k : Int) : Zt → Option Zv → Prop := fun T' r => ∃ x : Int, r = some (vI x) ∧ fr_ [(105, [2, 3])] T T' ∧ (x = 0 ∧ T' 105 0 2 = k ∧ T' 105 0 3 = T 105 0 8)
set_option maxHeartbeats 4000000 in
theorem ct_X5_fail_e {T : Zt} {k : Int} (hk : 0 ≤ k ∧ k ≤ 5) : Ct_ yX5_fail zX5_fail T [vR 105 0, vI k] (po_X5_fail_e T k) := by
  refine ct_of (by decide) rfl rfl (Nat.le_of_ble_eq_true rfl) (fun hT hav => ?_)
  have hr_k : -2147483648 ≤ k ∧ k ≤ 2147483647 := hav (vI k) (by simp)
  have hz : zX5_fail.2.2.2.1 = some .boolean → ∀ (T' : Zt) (x : Int), po_X5_fail_e T k T' (some (vI x)) → 0 ≤ x ∧ x ≤ 1 := fun _ T' x h => by obtain ⟨y, e, -, hy, -⟩ := h; cases e; omega
  have hts : 0 ≤ T 105 0 8 ∧ T 105 0 8 ≤ 400 := bd_f hT 105 8 (by decide +kernel : (tf_ 105)[8]? = some (0, 0, 0, 400)) 0
  show J_ zX5_fail T (po_X5_fail_e T k) 0 0 0 [some (vR 105 0), some (vI k)] [] T
  refine j_blx (F := fX5) tb_X5 (by decide) bk_X5_fail_0 bs_X5_fail_0 hz (fun K hK => ?_)
  refine bd_i (by omega) ?_
  refine x_nm (fun U1 hU1 => ?_)
  have e2 := up_f hU1
  intro b3 b3b
  have e4 : U1 105 0 8 = T 105 0 8 := up_j hU1 (by decide) 105 0
  rw [e4] at b3 b3b ⊢
  refine bd_i (by omega) ?_
  refine x_nm (fun U5 hU5 => ?_)
  have e6 := up_f hU5
  refine (show po_X5_fail_e T k U5 (some (vI 0)) from ?_)
  have e7 : U5 105 0 2 = k := (up_j hU5 (by decide) 105 0).trans (up_f hU1)
  have e8 : U5 105 0 3 = T 105 0 8 := up_f hU5
  exact ⟨_, rfl, fr_u (fr_u (fr_0 _ _) hU1 rfl) hU5 rfl, by omega⟩
abbrev po_X5_isOfKind_e (T : Zt) (k : Int) : Zt → Option Zv → Prop := fun T' r => ∃ x : Int, r = some (vI x) ∧ fr_ [(105, [2, 3])] T T' ∧ ((T 105 0 7 = 5 ∧ x = 0 ∧ T' 105 0 2 = 1 ∧ T' 105 0 3 = T 105 0 8) ∨ (T 105 0 7 ≠ 5 ∧ T 105 0 7 = k ∧ x = 1 ∧ T' 105 0 2 = T 105 0 2 ∧ T' 105 0 3 = T 105 0 3) ∨ (T 105 0 7 ≠ 5 ∧ T 105 0 7 ≠ k ∧ x = 0 ∧ T' 105 0 2 = 2 ∧ T' 105 0 3 = T 105 0 8))
set_option maxHeartbeats 4000000 in
theorem ct_X5_isOfKind_e {T : Zt} {k : Int} : Ct_ yX5_isOfKind zX5_isOfKind T [vR 105 0, vI k] (po_X5_isOfKind_e T k) := by
  refine ct_of (by decide) rfl rfl (Nat.le_of_ble_eq_true rfl) (fun hT hav => ?_)
  have hr_k : -2147483648 ≤ k ∧ k ≤ 2147483647 := hav (vI k) (by simp)
  have hz : zX5_isOfKind.2.2.2.1 = some .boolean → ∀ (T' : Zt) (x : Int), po_X5_isOfKind_e T k T' (some (vI x)) → 0 ≤ x ∧ x ≤ 1 := fun _ T' x h => by obtain ⟨y, e, -, hy⟩ := h; cases e; omega
  show J_ zX5_isOfKind T (po_X5_isOfKind_e T k) 0 0 0 [some (vR 105 0), some (vI k)] [] T
  refine j_blx (F := fX5) tb_X5 (by decide) bk_X5_isOfKind_0 bs_X5_isOfKind_0 hz (fun K hK => ?_)
  intro b1 b1b
  refine And.intro (fun c2 => ?_) (fun c2 => ?_)
  · refine hK 14 [some (vR 105 0), some (vI k)] [] T ?_
    refine j_blx (F := fX5) tb_X5 (by decide) bk_X5_isOfKind_14 bs_X5_isOfKind_14 hz (fun K hK => ?_)
    intro b3 b3b
    refine And.intro (fun c4 => ?_) (fun c4 => ?_)
    · refine hK 30 [some (vR 105 0), some (vI k)] [] T ?_
      refine j_blx (F := fX5) tb_X5 (by decide) bk_X5_isOfKind_30 bs_X5_isOfKind_30 hz (fun K hK => ?_)
      refine hK 35 [some (vR 105 0), some (vI k)] [vI 1] T ?_
      refine j_blx (F := fX5) tb_X5 (by decide) bk_X5_isOfKind_35 bs_X5_isOfKind_35 hz (fun K hK => ?_)
      refine (show po_X5_isOfKind_e T k T (some (vI 1)) from ?_)
      exact ⟨_, rfl, fr_0 _ _, by omega⟩
    · refine hK 24 [some (vR 105 0), some (vI k)] [vI 2, vR 105 0] T ?_
      refine j_callV (y := yX5_fail) (Yc := zX5_fail) (rest := []) [vI 2] (ct_X5_fail_e (T := T) (by omega)) cl_X5_59 (qd_c (by decide +kernel)) (by decide) rfl (by decide +kernel) (Nat.le_of_ble_eq_true rfl) (by decide) (by decide) rfl ?_
      rintro U5 _ ⟨x6, rfl, fU5, qU5⟩
      show J_ zX5_isOfKind T (po_X5_isOfKind_e T k) 0 0 27 [some (vR 105 0), some (vI k)] [vI x6] U5
      refine j_blx (F := fX5) tb_X5 (by decide) bk_X5_isOfKind_27 bs_X5_isOfKind_27 hz (fun K hK => ?_)
      refine And.intro (fun c7 => ?_) (fun c7 => ?_)
      · refine hK 34 [some (vR 105 0), some (vI k)] [] U5 ?_
        refine j_blx (F := fX5) tb_X5 (by decide) bk_X5_isOfKind_34 bs_X5_isOfKind_34 hz (fun K hK => ?_)
        refine (show po_X5_isOfKind_e T k U5 (some (vI 0)) from ?_)
        exact ⟨_, rfl, fr_t (fr_0 _ _) (fr_s fU5 rfl), by omega⟩
      · refine hK 35 [some (vR 105 0), some (vI k)] [vI 1] U5 ?_
        refine j_blx (F := fX5) tb_X5 (by decide) bk_X5_isOfKind_35 bs_X5_isOfKind_35 hz (fun K hK => ?_)
        refine (show po_X5_isOfKind_e T k U5 (some (vI 1)) from ?_)
        exact ⟨_, rfl, fr_t (fr_0 _ _) (fr_s fU5 rfl), by omega⟩
  · refine hK 10 [some (vR 105 0), some (vI k)] [vI 1, vR 105 0] T ?_
    refine j_callV (y := yX5_fail) (Yc := zX5_fail) (rest := []) [vI 1] (ct_X5_fail_e (T := T) (by omega)) cl_X5_59 (qd_c (by decide +kernel)) (by decide) rfl (by decide +kernel) (Nat.le_of_ble_eq_true rfl) (by decide) (by decide) rfl ?_
    rintro U8 _ ⟨x9, rfl, fU8, qU8⟩
    show J_ zX5_isOfKind T (po_X5_isOfKind_e T k) 0 0 13 [some (vR 105 0), some (vI k)] [vI x9] U8
    refine j_blx (F := fX5) tb_X5 (by decide) bk_X5_isOfKind_13 bs_X5_isOfKind_13 hz (fun K hK => ?_)
    refine (show po_X5_isOfKind_e T k U8 (some (vI x9)) from ?_)
    exact ⟨_, rfl, fr_t (fr_0 _ _) (fr_s fU8 rfl), by omega⟩
abbrev po_X5_wordOf_e0 (T : Zt) : Zt → Option Zv → Prop := fun T' r => ∃ x : Int, r = some (vI x) ∧ fr_ [(105, [2, 3])] T T' ∧ ((T 105 0 7 ≠ 1 ∧ x = -1 ∧ T' 105 0 2 = (if T 105 0 7 = 5 then 1 else 2) ∧ T' 105 0 3 = T 105 0 8) ∨ (T 105 0 7 = 1 ∧ (0 ≤ x ∧ x < 14) ∧ WD9_ wl_264 wt_264 (fun j => T 500 0 j) (T 105 0 8) (T 105 0 9) x ∧ T' 105 0 2 = T 105 0 2 ∧ T' 105 0 3 = T 105 0 3) ∨ (T 105 0 7 = 1 ∧ x = -1 ∧ WD9_ wl_264 wt_264 (fun j => T 500 0 j) (T 105 0 8) (T 105 0 9) (-1) ∧ T' 105 0 2 = 3 ∧ T' 105 0 3 = T 105 0 8))
set_option maxHeartbeats 4000000 in
theorem ct_X5_wordOf_e0 {T : Zt} (hse : T 105 0 8 ≤ T 105 0 9) : Ct_ yX5_wordOf zX5_wordOf T [vR 105 0, vR 82 0] (po_X5_wordOf_e0 T) := by
  refine ct_of (by decide) rfl rfl (Nat.le_of_ble_eq_true rfl) (fun hT hav => ?_)
  have hz : zX5_wordOf.2.2.2.1 = some .boolean → ∀ (T' : Zt) (x : Int), po_X5_wordOf_e0 T T' (some (vI x)) → 0 ≤ x ∧ x ≤ 1 := fun h => by cases h
  have hts : 0 ≤ T 105 0 8 ∧ T 105 0 8 ≤ 400 := bd_f hT 105 8 (by decide +kernel : (tf_ 105)[8]? = some (0, 0, 0, 400)) 0
  have hte : 0 ≤ T 105 0 9 ∧ T 105 0 9 ≤ 400 := bd_f hT 105 9 (by decide +kernel : (tf_ 105)[9]? = some (0, 0, 0, 400)) 0
  show J_ zX5_wordOf T (po_X5_wordOf_e0 T) 0 0 0 [some (vR 105 0), some (vR 82 0), none, none, none, none] [] T
  have c_17 : ∀ (nn : Nat) (p : Int) (q : Int) (k : Int) (T1 : Zt), ((82 - k).toNat) ≤ nn → (fr_ [(105, [2, 3])] T T1) → (0 ≤ p ∧ p ≤ k ∧ -1 ≤ q ∧ q ≤ k ∧ 0 ≤ k ∧ k ≤ 82) → (T 105 0 7 = 1) → (T1 105 0 2 = T 105 0 2 ∧ T1 105 0 3 = T 105 0 3) → (WI9_ wl_264 wt_264 (fun j => T 500 0 j) (T 105 0 8) (T 105 0 9) 82 14 p q k) → J_ zX5_wordOf T (po_X5_wordOf_e0 T) 0 0 17 [some (vR 105 0), some (vR 82 0), some (vI p), some (vI q), some (vI k), none] [] T1 := by
    intro nn
    induction nn using Nat.strongRecOn with
    | _ nn ih_17 =>
      intro p q k T1 hm_17 hf_17 i1 hkd it iw
      have ip : k < 82 → p < 14 := fun z => by obtain ⟨k0, e0, hm, -⟩ := wi9_b tb9_0 iw z; have := (tb9_0.1 _ _ _ hm).1; omega
      refine j_blx (F := fX5) tb_X5 (by decide) bk_X5_wordOf_17 bs_X5_wordOf_17 hz (fun K hK => ?_)
      refine hK 20 [some (vR 105 0), some (vR 82 0), some (vI p), some (vI q), some (vI k), none] [vR 82 0, vI k] T1 ?_
      refine j_callK (i := 0) (y := yJ0_length_8abf5) (Yc := zJ0_length_8abf5) (rest := [vI k]) [] (by decide) (ct_J0_length_0 (T := T1)) ck82_X5_92 (by decide +kernel) (by decide) rfl (by decide +kernel) (Nat.le_of_ble_eq_true rfl) (by decide) (by decide) rfl ?_
      rintro _ _ ⟨rfl, rfl⟩
      show J_ zX5_wordOf T (po_X5_wordOf_e0 T) 0 0 23 [some (vR 105 0), some (vR 82 0), some (vI p), some (vI q), some (vI k), none] [vI 82, vI k] T1
      refine j_blx (F := fX5) tb_X5 (by decide) bk_X5_wordOf_23 bs_X5_wordOf_23 hz (fun K hK => ?_)
      refine And.intro (fun c1 => ?_) (fun c1 => ?_)
      · refine hK 111 [some (vR 105 0), some (vR 82 0), some (vI p), some (vI q), some (vI k), none] [] T1 ?_
        refine j_blx (F := fX5) tb_X5 (by decide) bk_X5_wordOf_111 bs_X5_wordOf_111 hz (fun K hK => ?_)
        refine hK 113 [some (vR 105 0), some (vR 82 0), some (vI p), some (vI q), some (vI k), none] [vI 3, vR 105 0] T1 ?_
        refine j_callV (y := yX5_fail) (Yc := zX5_fail) (rest := []) [vI 3] (ct_X5_fail_e (T := T1) (by omega)) cl_X5_59 (qd_c (by decide +kernel)) (by decide) rfl (by decide +kernel) (Nat.le_of_ble_eq_true rfl) (by decide) (by decide) rfl ?_
        rintro U2 _ ⟨x3, rfl, fU2, qU2⟩
        show J_ zX5_wordOf T (po_X5_wordOf_e0 T) 0 0 116 [some (vR 105 0), some (vR 82 0), some (vI p), some (vI q), some (vI k), none] [vI x3] U2
        refine j_blx (F := fX5) tb_X5 (by decide) bk_X5_wordOf_116 bs_X5_wordOf_116 hz (fun K hK => ?_)
        refine (show po_X5_wordOf_e0 T U2 (some (vI (-1))) from ?_)
        have t8 := hf_17 105 0 8 rfl
        exact ⟨_, rfl, fr_t (fr_t (fr_0 _ _) (fr_s hf_17 rfl)) (fr_s fU2 rfl), Or.inr (Or.inr ⟨hkd, rfl, wi9_e tb9_0 iw (by omega), by omega, by omega⟩)⟩
      · refine hK 29 [some (vR 105 0), some (vR 82 0), some (vI p), some (vI q), some (vI k), none] [vI k, vR 82 0] T1 ?_
        refine j_callK (i := 0) (y := yJ0_charAt_5068e) (Yc := zJ0_charAt_5068e) (rest := []) [vI k] (by decide) (ct_J0_charAt_0 (T := T1) (by omega)) ck82_X5_98 (by decide +kernel) (by decide) rfl (by decide +kernel) (Nat.le_of_ble_eq_true rfl) (by decide) (by decide) rfl ?_
        rintro _ _ ⟨rfl, rfl⟩
        show J_ zX5_wordOf T (po_X5_wordOf_e0 T) 0 0 32 [some (vR 105 0), some (vR 82 0), some (vI p), some (vI q), some (vI k), none] [vI (cb8_ 0 k)] T1
        have hcb := cb8_b (i := 0) (by decide) k
        refine j_blx (F := fX5) tb_X5 (by decide) bk_X5_wordOf_32 bs_X5_wordOf_32 hz (fun K hK => ?_)
        refine And.intro (fun c4 => ?_) (fun c4 => ?_)
        · refine hK 64 [some (vR 105 0), some (vR 82 0), some (vI p), some (vI q), some (vI k), some (vI (cb8_ 0 k))] [] T1 ?_
          refine j_blx (F := fX5) tb_X5 (by decide) bk_X5_wordOf_64 bs_X5_wordOf_64 hz (fun K hK => ?_)
          refine And.intro (fun c5 => ?_) (fun c5 => ?_)
          · refine hK 103 [some (vR 105 0), some (vR 82 0), some (vI p), some (vI q), some (vI k), some (vI (cb8_ 0 k))] [] T1 ?_
            refine j_blx (F := fX5) tb_X5 (by decide) bk_X5_wordOf_103 bs_X5_wordOf_103 hz (fun K hK => ?_)
            refine rg_i (by omega) ?_
            refine hK 17 [some (vR 105 0), some (vR 82 0), some (vI p), some (vI (-1)), some (vI (k + 1)), some (vI (cb8_ 0 k))] [] T1 ?_
            refine j_drop [some (vR 105 0), some (vR 82 0), some (vI p), some (vI (-1)), some (vI (k + 1)), none] (fun k v hk => ?_) rfl ?_
            · match k, hk with
              | 0, hk => exact hk
              | 1, hk => exact hk
              | 2, hk => exact hk
              | 3, hk => exact hk
              | 4, hk => exact hk
              | 5, hk => cases hk
              | k + 6, hk => cases hk
            refine ih_17 _ ?_ p (-1) (k + 1) T1 (Nat.le_refl _) ?_ ?_ ?_ ?_ ?_
            · omega
            · exact fr_t (fr_0 _ _) (fr_s hf_17 rfl)
            · omega
            · omega
            · omega
            · exact wi9_x tb9_0 iw (by omega) (by omega) (show ¬ (0 ≤ q ∧ T 105 0 8 + q < T 105 0 9 ∧ T 500 0 (T 105 0 8 + q) = cb8_ 0 k) by omega)
          · intro b6 b6b
            have e7 : T1 105 0 8 = T 105 0 8 := hf_17 105 0 8 rfl
            rw [e7] at b6 b6b ⊢
            refine rg_i (by omega) ?_
            intro b8 b8b
            have e9 : T1 105 0 9 = T 105 0 9 := hf_17 105 0 9 rfl
            rw [e9] at b8 b8b ⊢
            refine And.intro (fun c10 => ?_) (fun c10 => ?_)
            · refine hK 103 [some (vR 105 0), some (vR 82 0), some (vI p), some (vI q), some (vI k), some (vI (cb8_ 0 k))] [] T1 ?_
              refine j_blx (F := fX5) tb_X5 (by decide) bk_X5_wordOf_103 bs_X5_wordOf_103 hz (fun K hK => ?_)
              refine rg_i (by omega) ?_
              refine hK 17 [some (vR 105 0), some (vR 82 0), some (vI p), some (vI (-1)), some (vI (k + 1)), some (vI (cb8_ 0 k))] [] T1 ?_
              refine j_drop [some (vR 105 0), some (vR 82 0), some (vI p), some (vI (-1)), some (vI (k + 1)), none] (fun k v hk => ?_) rfl ?_
              · match k, hk with
                | 0, hk => exact hk
                | 1, hk => exact hk
                | 2, hk => exact hk
                | 3, hk => exact hk
                | 4, hk => exact hk
                | 5, hk => cases hk
                | k + 6, hk => cases hk
              refine ih_17 _ ?_ p (-1) (k + 1) T1 (Nat.le_refl _) ?_ ?_ ?_ ?_ ?_
              · omega
              · exact fr_t (fr_0 _ _) (fr_s hf_17 rfl)
              · omega
              · omega
              · omega
              · exact wi9_x tb9_0 iw (by omega) (by omega) (show ¬ (0 ≤ q ∧ T 105 0 8 + q < T 105 0 9 ∧ T 500 0 (T 105 0 8 + q) = cb8_ 0 k) by omega)
            · intro b11 b11b
              have e12 : T1 105 0 8 = T 105 0 8 := hf_17 105 0 8 rfl
              rw [e12] at b11 b11b ⊢
              refine rg_i (by omega) ?_
              refine ix_i (by omega) ?_
              intro b13 b13b
              have e14 : T1 500 0 ((T 105 0 8) + q) = T 500 0 ((T 105 0 8) + q) := hf_17 500 0 ((T 105 0 8) + q) rfl
              rw [e14] at b13 b13b ⊢
              refine And.intro (fun c15 => ?_) (fun c15 => ?_)
              · refine hK 103 [some (vR 105 0), some (vR 82 0), some (vI p), some (vI q), some (vI k), some (vI (cb8_ 0 k))] [] T1 ?_
                refine j_blx (F := fX5) tb_X5 (by decide) bk_X5_wordOf_103 bs_X5_wordOf_103 hz (fun K hK => ?_)
                refine rg_i (by omega) ?_
                refine hK 17 [some (vR 105 0), some (vR 82 0), some (vI p), some (vI (-1)), some (vI (k + 1)), some (vI (cb8_ 0 k))] [] T1 ?_
                refine j_drop [some (vR 105 0), some (vR 82 0), some (vI p), some (vI (-1)), some (vI (k + 1)), none] (fun k v hk => ?_) rfl ?_
                · match k, hk with
                  | 0, hk => exact hk
                  | 1, hk => exact hk
                  | 2, hk => exact hk
                  | 3, hk => exact hk
                  | 4, hk => exact hk
                  | 5, hk => cases hk
                  | k + 6, hk => cases hk
                refine ih_17 _ ?_ p (-1) (k + 1) T1 (Nat.le_refl _) ?_ ?_ ?_ ?_ ?_
                · omega
                · exact fr_t (fr_0 _ _) (fr_s hf_17 rfl)
                · omega
                · omega
                · omega
                · exact wi9_x tb9_0 iw (by omega) (by omega) (show ¬ (0 ≤ q ∧ T 105 0 8 + q < T 105 0 9 ∧ T 500 0 (T 105 0 8 + q) = cb8_ 0 k) by omega)
              · refine rg_i (by omega) ?_
                refine hK 105 [some (vR 105 0), some (vR 82 0), some (vI p), some (vI (q + 1)), some (vI k), some (vI (cb8_ 0 k))] [] T1 ?_
                refine j_blx (F := fX5) tb_X5 (by decide) bk_X5_wordOf_105 bs_X5_wordOf_105 hz (fun K hK => ?_)
                refine rg_i (by omega) ?_
                refine hK 17 [some (vR 105 0), some (vR 82 0), some (vI p), some (vI (q + 1)), some (vI (k + 1)), some (vI (cb8_ 0 k))] [] T1 ?_
                refine j_drop [some (vR 105 0), some (vR 82 0), some (vI p), some (vI (q + 1)), some (vI (k + 1)), none] (fun k v hk => ?_) rfl ?_
                · match k, hk with
                  | 0, hk => exact hk
                  | 1, hk => exact hk
                  | 2, hk => exact hk
                  | 3, hk => exact hk
                  | 4, hk => exact hk
                  | 5, hk => cases hk
                  | k + 6, hk => cases hk
                refine ih_17 _ ?_ p (q + 1) (k + 1) T1 (Nat.le_refl _) ?_ ?_ ?_ ?_ ?_
                · omega
                · exact fr_t (fr_0 _ _) (fr_s hf_17 rfl)
                · omega
                · omega
                · omega
                · exact wi9_y tb9_0 iw (by omega) (by omega) (by omega) (by omega) (show T 500 0 (T 105 0 8 + q) = cb8_ 0 k by omega)
        · intro b16 b16b
          have e17 : T1 105 0 9 = T 105 0 9 := hf_17 105 0 9 rfl
          rw [e17] at b16 b16b ⊢
          intro b18 b18b
          have e19 : T1 105 0 8 = T 105 0 8 := hf_17 105 0 8 rfl
          rw [e19] at b18 b18b ⊢
          refine rg_i (by omega) ?_
          refine And.intro (fun c20 => ?_) (fun c20 => ?_)
          · refine hK 56 [some (vR 105 0), some (vR 82 0), some (vI p), some (vI q), some (vI k), some (vI (cb8_ 0 k))] [] T1 ?_
            refine j_blx (F := fX5) tb_X5 (by decide) bk_X5_wordOf_56 bs_X5_wordOf_56 hz (fun K hK => ?_)
            refine rg_i (by omega) ?_
            refine hK 105 [some (vR 105 0), some (vR 82 0), some (vI (p + 1)), some (vI 0), some (vI k), some (vI (cb8_ 0 k))] [] T1 ?_
            refine j_blx (F := fX5) tb_X5 (by decide) bk_X5_wordOf_105 bs_X5_wordOf_105 hz (fun K hK => ?_)
            refine rg_i (by omega) ?_
            refine hK 17 [some (vR 105 0), some (vR 82 0), some (vI (p + 1)), some (vI 0), some (vI (k + 1)), some (vI (cb8_ 0 k))] [] T1 ?_
            refine j_drop [some (vR 105 0), some (vR 82 0), some (vI (p + 1)), some (vI 0), some (vI (k + 1)), none] (fun k v hk => ?_) rfl ?_
            · match k, hk with
              | 0, hk => exact hk
              | 1, hk => exact hk
              | 2, hk => exact hk
              | 3, hk => exact hk
              | 4, hk => exact hk
              | 5, hk => cases hk
              | k + 6, hk => cases hk
            refine ih_17 _ ?_ (p + 1) 0 (k + 1) T1 (Nat.le_refl _) ?_ ?_ ?_ ?_ ?_
            · omega
            · exact fr_t (fr_0 _ _) (fr_s hf_17 rfl)
            · omega
            · omega
            · omega
            · exact wi9_n tb9_0 iw (by omega) (by omega) (by omega) (by omega)
          · refine (show po_X5_wordOf_e0 T T1 (some (vI p)) from ?_)
            exact ⟨_, rfl, fr_t (fr_0 _ _) (fr_s hf_17 rfl), Or.inr (Or.inl ⟨hkd, by omega, wi9_m tb9_0 iw (by omega) (by omega) (by omega) (by omega), by omega, by omega⟩)⟩
  refine j_blx (F := fX5) tb_X5 (by decide) bk_X5_wordOf_0 bs_X5_wordOf_0 hz (fun K hK => ?_)
  refine hK 2 [some (vR 105 0), some (vR 82 0), none, none, none, none] [vI 1, vR 105 0] T ?_
  refine j_callV (y := yX5_isOfKind) (Yc := zX5_isOfKind) (rest := []) [vI 1] (ct_X5_isOfKind_e (T := T)) cl_X5_79 (qd_c (by decide +kernel)) (by decide) rfl (by decide +kernel) (Nat.le_of_ble_eq_true rfl) (by decide) (by decide) rfl ?_
  rintro U21 _ ⟨x22, rfl, fU21, qU21⟩
  show J_ zX5_wordOf T (po_X5_wordOf_e0 T) 0 0 5 [some (vR 105 0), some (vR 82 0), none, none, none, none] [vI x22] U21
  refine j_blx (F := fX5) tb_X5 (by decide) bk_X5_wordOf_5 bs_X5_wordOf_5 hz (fun K hK => ?_)
  refine And.intro (fun c23 => ?_) (fun c23 => ?_)
  · refine hK 10 [some (vR 105 0), some (vR 82 0), none, none, none, none] [] U21 ?_
    refine j_blx (F := fX5) tb_X5 (by decide) bk_X5_wordOf_10 bs_X5_wordOf_10 hz (fun K hK => ?_)
    refine hK 17 [some (vR 105 0), some (vR 82 0), some (vI 0), some (vI 0), some (vI 0), none] [] U21 ?_
    refine c_17 _ 0 0 0 U21 (Nat.le_refl _) ?_ ?_ ?_ ?_ ?_
    · exact fr_t (fr_0 _ _) (fr_s fU21 rfl)
    · omega
    · omega
    · omega
    · exact wi9_0 tb9_0 (by omega)
  · refine (show po_X5_wordOf_e0 T U21 (some (vI (-1))) from ?_)
    refine ⟨_, rfl, fr_t (fr_0 _ _) (fr_s fU21 rfl), Or.inl ⟨by omega, rfl, ?_, by omega⟩⟩
    split <;> omega
abbrev po_X5_wordOf_e1 (T : Zt) : Zt → Option Zv → Prop := fun T' r => ∃ x : Int, r = some (vI x) ∧ fr_ [(105, [2, 3])] T T' ∧ ((T 105 0 7 ≠ 1 ∧ x = -1 ∧ T' 105 0 2 = (if T 105 0 7 = 5 then 1 else 2) ∧ T' 105 0 3 = T 105 0 8) ∨ (T 105 0 7 = 1 ∧ (0 ≤ x ∧ x < 4) ∧ WD9_ wl_265 wt_265 (fun j => T 500 0 j) (T 105 0 8) (T 105 0 9) x ∧ T' 105 0 2 = T 105 0 2 ∧ T' 105 0 3 = T 105 0 3) ∨ (T 105 0 7 = 1 ∧ x = -1 ∧ WD9_ wl_265 wt_265 (fun j => T 500 0 j) (T 105 0 8) (T 105 0 9) (-1) ∧ T' 105 0 2 = 3 ∧ T' 105 0 3 = T 105 0 8))
set_option maxHeartbeats 4000000 in
theorem ct_X5_wordOf_e1 {T : Zt} (hse : T 105 0 8 ≤ T 105 0 9) : Ct_ yX5_wordOf zX5_wordOf T [vR 105 0, vR 82 1] (po_X5_wordOf_e1 T) := by
  refine ct_of (by decide) rfl rfl (Nat.le_of_ble_eq_true rfl) (fun hT hav => ?_)
  have hz : zX5_wordOf.2.2.2.1 = some .boolean → ∀ (T' : Zt) (x : Int), po_X5_wordOf_e1 T T' (some (vI x)) → 0 ≤ x ∧ x ≤ 1 := fun h => by cases h
  have hts : 0 ≤ T 105 0 8 ∧ T 105 0 8 ≤ 400 := bd_f hT 105 8 (by decide +kernel : (tf_ 105)[8]? = some (0, 0, 0, 400)) 0
  have hte : 0 ≤ T 105 0 9 ∧ T 105 0 9 ≤ 400 := bd_f hT 105 9 (by decide +kernel : (tf_ 105)[9]? = some (0, 0, 0, 400)) 0
  show J_ zX5_wordOf T (po_X5_wordOf_e1 T) 0 0 0 [some (vR 105 0), some (vR 82 1), none, none, none, none] [] T
  have c_17 : ∀ (nn : Nat) (p : Int) (q : Int) (k : Int) (T1 : Zt), ((36 - k).toNat) ≤ nn → (fr_ [(105, [2, 3])] T T1) → (0 ≤ p ∧ p ≤ k ∧ -1 ≤ q ∧ q ≤ k ∧ 0 ≤ k ∧ k ≤ 36) → (T 105 0 7 = 1) → (T1 105 0 2 = T 105 0 2 ∧ T1 105 0 3 = T 105 0 3) → (WI9_ wl_265 wt_265 (fun j => T 500 0 j) (T 105 0 8) (T 105 0 9) 36 4 p q k) → J_ zX5_wordOf T (po_X5_wordOf_e1 T) 0 0 17 [some (vR 105 0), some (vR 82 1), some (vI p), some (vI q), some (vI k), none] [] T1 := by
    intro nn
    induction nn using Nat.strongRecOn with
    | _ nn ih_17 =>
      intro p q k T1 hm_17 hf_17 i1 hkd it iw
      have ip : k < 36 → p < 4 := fun z => by obtain ⟨k0, e0, hm, -⟩ := wi9_b tb9_1 iw z; have := (tb9_1.1 _ _ _ hm).1; omega
      refine j_blx (F := fX5) tb_X5 (by decide) bk_X5_wordOf_17 bs_X5_wordOf_17 hz (fun K hK => ?_)
      refine hK 20 [some (vR 105 0), some (vR 82 1), some (vI p), some (vI q), some (vI k), none] [vR 82 1, vI k] T1 ?_
      refine j_callK (i := 1) (y := yJ0_length_8abf5) (Yc := zJ0_length_8abf5) (rest := [vI k]) [] (by decide) (ct_J0_length_1 (T := T1)) ck82_X5_92 (by decide +kernel) (by decide) rfl (by decide +kernel) (Nat.le_of_ble_eq_true rfl) (by decide) (by decide) rfl ?_
      rintro _ _ ⟨rfl, rfl⟩
      show J_ zX5_wordOf T (po_X5_wordOf_e1 T) 0 0 23 [some (vR 105 0), some (vR 82 1), some (vI p), some (vI q), some (vI k), none] [vI 36, vI k] T1
      refine j_blx (F := fX5) tb_X5 (by decide) bk_X5_wordOf_23 bs_X5_wordOf_23 hz (fun K hK => ?_)
      refine And.intro (fun c1 => ?_) (fun c1 => ?_)
      · refine hK 111 [some (vR 105 0), some (vR 82 1), some (vI p), some (vI q), some (vI k), none] [] T1 ?_
        refine j_blx (F := fX5) tb_X5 (by decide) bk_X5_wordOf_111 bs_X5_wordOf_111 hz (fun K hK => ?_)
        refine hK 113 [some (vR 105 0), some (vR 82 1), some (vI p), some (vI q), some (vI k), none] [vI 3, vR 105 0] T1 ?_
        refine j_callV (y := yX5_fail) (Yc := zX5_fail) (rest := []) [vI 3] (ct_X5_fail_e (T := T1) (by omega)) cl_X5_59 (qd_c (by decide +kernel)) (by decide) rfl (by decide +kernel) (Nat.le_of_ble_eq_true rfl) (by decide) (by decide) rfl ?_
        rintro U2 _ ⟨x3, rfl, fU2, qU2⟩
        show J_ zX5_wordOf T (po_X5_wordOf_e1 T) 0 0 116 [some (vR 105 0), some (vR 82 1), some (vI p), some (vI q), some (vI k), none] [vI x3] U2
        refine j_blx (F := fX5) tb_X5 (by decide) bk_X5_wordOf_116 bs_X5_wordOf_116 hz (fun K hK => ?_)
        refine (show po_X5_wordOf_e1 T U2 (some (vI (-1))) from ?_)
        have t8 := hf_17 105 0 8 rfl
        exact ⟨_, rfl, fr_t (fr_t (fr_0 _ _) (fr_s hf_17 rfl)) (fr_s fU2 rfl), Or.inr (Or.inr ⟨hkd, rfl, wi9_e tb9_1 iw (by omega), by omega, by omega⟩)⟩
      · refine hK 29 [some (vR 105 0), some (vR 82 1), some (vI p), some (vI q), some (vI k), none] [vI k, vR 82 1] T1 ?_
        refine j_callK (i := 1) (y := yJ0_charAt_5068e) (Yc := zJ0_charAt_5068e) (rest := []) [vI k] (by decide) (ct_J0_charAt_1 (T := T1) (by omega)) ck82_X5_98 (by decide +kernel) (by decide) rfl (by decide +kernel) (Nat.le_of_ble_eq_true rfl) (by decide) (by decide) rfl ?_
        rintro _ _ ⟨rfl, rfl⟩
        show J_ zX5_wordOf T (po_X5_wordOf_e1 T) 0 0 32 [some (vR 105 0), some (vR 82 1), some (vI p), some (vI q), some (vI k), none] [vI (cb8_ 1 k)] T1
        have hcb := cb8_b (i := 1) (by decide) k
        refine j_blx (F := fX5) tb_X5 (by decide) bk_X5_wordOf_32 bs_X5_wordOf_32 hz (fun K hK => ?_)
        refine And.intro (fun c4 => ?_) (fun c4 => ?_)
        · refine hK 64 [some (vR 105 0), some (vR 82 1), some (vI p), some (vI q), some (vI k), some (vI (cb8_ 1 k))] [] T1 ?_
          refine j_blx (F := fX5) tb_X5 (by decide) bk_X5_wordOf_64 bs_X5_wordOf_64 hz (fun K hK => ?_)
          refine And.intro (fun c5 => ?_) (fun c5 => ?_)
          · refine hK 103 [some (vR 105 0), some (vR 82 1), some (vI p), some (vI q), some (vI k), some (vI (cb8_ 1 k))] [] T1 ?_
            refine j_blx (F := fX5) tb_X5 (by decide) bk_X5_wordOf_103 bs_X5_wordOf_103 hz (fun K hK => ?_)
            refine rg_i (by omega) ?_
            refine hK 17 [some (vR 105 0), some (vR 82 1), some (vI p), some (vI (-1)), some (vI (k + 1)), some (vI (cb8_ 1 k))] [] T1 ?_
            refine j_drop [some (vR 105 0), some (vR 82 1), some (vI p), some (vI (-1)), some (vI (k + 1)), none] (fun k v hk => ?_) rfl ?_
            · match k, hk with
              | 0, hk => exact hk
              | 1, hk => exact hk
              | 2, hk => exact hk
              | 3, hk => exact hk
              | 4, hk => exact hk
              | 5, hk => cases hk
              | k + 6, hk => cases hk
            refine ih_17 _ ?_ p (-1) (k + 1) T1 (Nat.le_refl _) ?_ ?_ ?_ ?_ ?_
            · omega
            · exact fr_t (fr_0 _ _) (fr_s hf_17 rfl)
            · omega
            · omega
            · omega
            · exact wi9_x tb9_1 iw (by omega) (by omega) (show ¬ (0 ≤ q ∧ T 105 0 8 + q < T 105 0 9 ∧ T 500 0 (T 105 0 8 + q) = cb8_ 1 k) by omega)
          · intro b6 b6b
            have e7 : T1 105 0 8 = T 105 0 8 := hf_17 105 0 8 rfl
            rw [e7] at b6 b6b ⊢
            refine rg_i (by omega) ?_
            intro b8 b8b
            have e9 : T1 105 0 9 = T 105 0 9 := hf_17 105 0 9 rfl
            rw [e9] at b8 b8b ⊢
            refine And.intro (fun c10 => ?_) (fun c10 => ?_)
            · refine hK 103 [some (vR 105 0), some (vR 82 1), some (vI p), some (vI q), some (vI k), some (vI (cb8_ 1 k))] [] T1 ?_
              refine j_blx (F := fX5) tb_X5 (by decide) bk_X5_wordOf_103 bs_X5_wordOf_103 hz (fun K hK => ?_)
              refine rg_i (by omega) ?_
              refine hK 17 [some (vR 105 0), some (vR 82 1), some (vI p), some (vI (-1)), some (vI (k + 1)), some (vI (cb8_ 1 k))] [] T1 ?_
              refine j_drop [some (vR 105 0), some (vR 82 1), some (vI p), some (vI (-1)), some (vI (k + 1)), none] (fun k v hk => ?_) rfl ?_
              · match k, hk with
                | 0, hk => exact hk
                | 1, hk => exact hk
                | 2, hk => exact hk
                | 3, hk => exact hk
                | 4, hk => exact hk
                | 5, hk => cases hk
                | k + 6, hk => cases hk
              refine ih_17 _ ?_ p (-1) (k + 1) T1 (Nat.le_refl _) ?_ ?_ ?_ ?_ ?_
              · omega
              · exact fr_t (fr_0 _ _) (fr_s hf_17 rfl)
              · omega
              · omega
              · omega
              · exact wi9_x tb9_1 iw (by omega) (by omega) (show ¬ (0 ≤ q ∧ T 105 0 8 + q < T 105 0 9 ∧ T 500 0 (T 105 0 8 + q) = cb8_ 1 k) by omega)
            · intro b11 b11b
              have e12 : T1 105 0 8 = T 105 0 8 := hf_17 105 0 8 rfl
              rw [e12] at b11 b11b ⊢
              refine rg_i (by omega) ?_
              refine ix_i (by omega) ?_
              intro b13 b13b
              have e14 : T1 500 0 ((T 105 0 8) + q) = T 500 0 ((T 105 0 8) + q) := hf_17 500 0 ((T 105 0 8) + q) rfl
              rw [e14] at b13 b13b ⊢
              refine And.intro (fun c15 => ?_) (fun c15 => ?_)
              · refine hK 103 [some (vR 105 0), some (vR 82 1), some (vI p), some (vI q), some (vI k), some (vI (cb8_ 1 k))] [] T1 ?_
                refine j_blx (F := fX5) tb_X5 (by decide) bk_X5_wordOf_103 bs_X5_wordOf_103 hz (fun K hK => ?_)
                refine rg_i (by omega) ?_
                refine hK 17 [some (vR 105 0), some (vR 82 1), some (vI p), some (vI (-1)), some (vI (k + 1)), some (vI (cb8_ 1 k))] [] T1 ?_
                refine j_drop [some (vR 105 0), some (vR 82 1), some (vI p), some (vI (-1)), some (vI (k + 1)), none] (fun k v hk => ?_) rfl ?_
                · match k, hk with
                  | 0, hk => exact hk
                  | 1, hk => exact hk
                  | 2, hk => exact hk
                  | 3, hk => exact hk
                  | 4, hk => exact hk
                  | 5, hk => cases hk
                  | k + 6, hk => cases hk
                refine ih_17 _ ?_ p (-1) (k + 1) T1 (Nat.le_refl _) ?_ ?_ ?_ ?_ ?_
                · omega
                · exact fr_t (fr_0 _ _) (fr_s hf_17 rfl)
                · omega
                · omega
                · omega
                · exact wi9_x tb9_1 iw (by omega) (by omega) (show ¬ (0 ≤ q ∧ T 105 0 8 + q < T 105 0 9 ∧ T 500 0 (T 105 0 8 + q) = cb8_ 1 k) by omega)
              · refine rg_i (by omega) ?_
                refine hK 105 [some (vR 105 0), some (vR 82 1), some (vI p), some (vI (q + 1)), some (vI k), some (vI (cb8_ 1 k))] [] T1 ?_
                refine j_blx (F := fX5) tb_X5 (by decide) bk_X5_wordOf_105 bs_X5_wordOf_105 hz (fun K hK => ?_)
                refine rg_i (by omega) ?_
                refine hK 17 [some (vR 105 0), some (vR 82 1), some (vI p), some (vI (q + 1)), some (vI (k + 1)), some (vI (cb8_ 1 k))] [] T1 ?_
                refine j_drop [some (vR 105 0), some (vR 82 1), some (vI p), some (vI (q + 1)), some (vI (k + 1)), none] (fun k v hk => ?_) rfl ?_
                · match k, hk with
                  | 0, hk => exact hk
                  | 1, hk => exact hk
                  | 2, hk => exact hk
                  | 3, hk => exact hk
                  | 4, hk => exact hk
                  | 5, hk => cases hk
                  | k + 6, hk => cases hk
                refine ih_17 _ ?_ p (q + 1) (k + 1) T1 (Nat.le_refl _) ?_ ?_ ?_ ?_ ?_
                · omega
                · exact fr_t (fr_0 _ _) (fr_s hf_17 rfl)
                · omega
                · omega
                · omega
                · exact wi9_y tb9_1 iw (by omega) (by omega) (by omega) (by omega) (show T 500 0 (T 105 0 8 + q) = cb8_ 1 k by omega)
        · intro b16 b16b
          have e17 : T1 105 0 9 = T 105 0 9 := hf_17 105 0 9 rfl
          rw [e17] at b16 b16b ⊢
          intro b18 b18b
          have e19 : T1 105 0 8 = T 105 0 8 := hf_17 105 0 8 rfl
          rw [e19] at b18 b18b ⊢
          refine rg_i (by omega) ?_
          refine And.intro (fun c20 => ?_) (fun c20 => ?_)
          · refine hK 56 [some (vR 105 0), some (vR 82 1), some (vI p), some (vI q), some (vI k), some (vI (cb8_ 1 k))] [] T1 ?_
            refine j_blx (F := fX5) tb_X5 (by decide) bk_X5_wordOf_56 bs_X5_wordOf_56 hz (fun K hK => ?_)
            refine rg_i (by omega) ?_
            refine hK 105 [some (vR 105 0), some (vR 82 1), some (vI (p + 1)), some (vI 0), some (vI k), some (vI (cb8_ 1 k))] [] T1 ?_
            refine j_blx (F := fX5) tb_X5 (by decide) bk_X5_wordOf_105 bs_X5_wordOf_105 hz (fun K hK => ?_)
            refine rg_i (by omega) ?_
            refine hK 17 [some (vR 105 0), some (vR 82 1), some (vI (p + 1)), some (vI 0), some (vI (k + 1)), some (vI (cb8_ 1 k))] [] T1 ?_
            refine j_drop [some (vR 105 0), some (vR 82 1), some (vI (p + 1)), some (vI 0), some (vI (k + 1)), none] (fun k v hk => ?_) rfl ?_
            · match k, hk with
              | 0, hk => exact hk
              | 1, hk => exact hk
              | 2, hk => exact hk
              | 3, hk => exact hk
              | 4, hk => exact hk
              | 5, hk => cases hk
              | k + 6, hk => cases hk
            refine ih_17 _ ?_ (p + 1) 0 (k + 1) T1 (Nat.le_refl _) ?_ ?_ ?_ ?_ ?_
            · omega
            · exact fr_t (fr_0 _ _) (fr_s hf_17 rfl)
            · omega
            · omega
            · omega
            · exact wi9_n tb9_1 iw (by omega) (by omega) (by omega) (by omega)
          · refine (show po_X5_wordOf_e1 T T1 (some (vI p)) from ?_)
            exact ⟨_, rfl, fr_t (fr_0 _ _) (fr_s hf_17 rfl), Or.inr (Or.inl ⟨hkd, by omega, wi9_m tb9_1 iw (by omega) (by omega) (by omega) (by omega), by omega, by omega⟩)⟩
  refine j_blx (F := fX5) tb_X5 (by decide) bk_X5_wordOf_0 bs_X5_wordOf_0 hz (fun K hK => ?_)
  refine hK 2 [some (vR 105 0), some (vR 82 1), none, none, none, none] [vI 1, vR 105 0] T ?_
  refine j_callV (y := yX5_isOfKind) (Yc := zX5_isOfKind) (rest := []) [vI 1] (ct_X5_isOfKind_e (T := T)) cl_X5_79 (qd_c (by decide +kernel)) (by decide) rfl (by decide +kernel) (Nat.le_of_ble_eq_true rfl) (by decide) (by decide) rfl ?_
  rintro U21 _ ⟨x22, rfl, fU21, qU21⟩
  show J_ zX5_wordOf T (po_X5_wordOf_e1 T) 0 0 5 [some (vR 105 0), some (vR 82 1), none, none, none, none] [vI x22] U21
  refine j_blx (F := fX5) tb_X5 (by decide) bk_X5_wordOf_5 bs_X5_wordOf_5 hz (fun K hK => ?_)
  refine And.intro (fun c23 => ?_) (fun c23 => ?_)
  · refine hK 10 [some (vR 105 0), some (vR 82 1), none, none, none, none] [] U21 ?_
    refine j_blx (F := fX5) tb_X5 (by decide) bk_X5_wordOf_10 bs_X5_wordOf_10 hz (fun K hK => ?_)
    refine hK 17 [some (vR 105 0), some (vR 82 1), some (vI 0), some (vI 0), some (vI 0), none] [] U21 ?_
    refine c_17 _ 0 0 0 U21 (Nat.le_refl _) ?_ ?_ ?_ ?_ ?_
    · exact fr_t (fr_0 _ _) (fr_s fU21 rfl)
    · omega
    · omega
    · omega
    · exact wi9_0 tb9_1 (by omega)
  · refine (show po_X5_wordOf_e1 T U21 (some (vI (-1))) from ?_)
    refine ⟨_, rfl, fr_t (fr_0 _ _) (fr_s fU21 rfl), Or.inl ⟨by omega, rfl, ?_, by omega⟩⟩
    split <;> omega
abbrev po_X5_wordOf_e2 (T : Zt) : Zt → Option Zv → Prop := fun T' r => ∃ x : Int, r = some (vI x) ∧ fr_ [(105, [2, 3])] T T' ∧ ((T 105 0 7 ≠ 1 ∧ x = -1 ∧ T' 105 0 2 = (if T 105 0 7 = 5 then 1 else 2) ∧ T' 105 0 3 = T 105 0 8) ∨ (T 105 0 7 = 1 ∧ (0 ≤ x ∧ x < 7) ∧ WD9_ wl_266 wt_266 (fun j => T 500 0 j) (T 105 0 8) (T 105 0 9) x ∧ T' 105 0 2 = T 105 0 2 ∧ T' 105 0 3 = T 105 0 3) ∨ (T 105 0 7 = 1 ∧ x = -1 ∧ WD9_ wl_266 wt_266 (fun j => T 500 0 j) (T 105 0 8) (T 105 0 9) (-1) ∧ T' 105 0 2 = 3 ∧ T' 105 0 3 = T 105 0 8))
set_option maxHeartbeats 4000000 in
theorem ct_X5_wordOf_e2 {T : Zt} (hse : T 105 0 8 ≤ T 105 0 9) : Ct_ yX5_wordOf zX5_wordOf T [vR 105 0, vR 82 2] (po_X5_wordOf_e2 T) := by
  refine ct_of (by decide) rfl rfl (Nat.le_of_ble_eq_true rfl) (fun hT hav => ?_)
  have hz : zX5_wordOf.2.2.2.1 = some .boolean → ∀ (T' : Zt) (x : Int), po_X5_wordOf_e2 T T' (some (vI x)) → 0 ≤ x ∧ x ≤ 1 := fun h => by cases h
  have hts : 0 ≤ T 105 0 8 ∧ T 105 0 8 ≤ 400 := bd_f hT 105 8 (by decide +kernel : (tf_ 105)[8]? = some (0, 0, 0, 400)) 0
  have hte : 0 ≤ T 105 0 9 ∧ T 105 0 9 ≤ 400 := bd_f hT 105 9 (by decide +kernel : (tf_ 105)[9]? = some (0, 0, 0, 400)) 0
  show J_ zX5_wordOf T (po_X5_wordOf_e2 T) 0 0 0 [some (vR 105 0), some (vR 82 2), none, none, none, none] [] T
  have c_17 : ∀ (nn : Nat) (p : Int) (q : Int) (k : Int) (T1 : Zt), ((37 - k).toNat) ≤ nn → (fr_ [(105, [2, 3])] T T1) → (0 ≤ p ∧ p ≤ k ∧ -1 ≤ q ∧ q ≤ k ∧ 0 ≤ k ∧ k ≤ 37) → (T 105 0 7 = 1) → (T1 105 0 2 = T 105 0 2 ∧ T1 105 0 3 = T 105 0 3) → (WI9_ wl_266 wt_266 (fun j => T 500 0 j) (T 105 0 8) (T 105 0 9) 37 7 p q k) → J_ zX5_wordOf T (po_X5_wordOf_e2 T) 0 0 17 [some (vR 105 0), some (vR 82 2), some (vI p), some (vI q), some (vI k), none] [] T1 := by
    intro nn
    induction nn using Nat.strongRecOn with
    | _ nn ih_17 =>
      intro p q k T1 hm_17 hf_17 i1 hkd it iw
      have ip : k < 37 → p < 7 := fun z => by obtain ⟨k0, e0, hm, -⟩ := wi9_b tb9_2 iw z; have := (tb9_2.1 _ _ _ hm).1; omega
      refine j_blx (F := fX5) tb_X5 (by decide) bk_X5_wordOf_17 bs_X5_wordOf_17 hz (fun K hK => ?_)
      refine hK 20 [some (vR 105 0), some (vR 82 2), some (vI p), some (vI q), some (vI k), none] [vR 82 2, vI k] T1 ?_
      refine j_callK (i := 2) (y := yJ0_length_8abf5) (Yc := zJ0_length_8abf5) (rest := [vI k]) [] (by decide) (ct_J0_length_2 (T := T1)) ck82_X5_92 (by decide +kernel) (by decide) rfl (by decide +kernel) (Nat.le_of_ble_eq_true rfl) (by decide) (by decide) rfl ?_
      rintro _ _ ⟨rfl, rfl⟩
      show J_ zX5_wordOf T (po_X5_wordOf_e2 T) 0 0 23 [some (vR 105 0), some (vR 82 2), some (vI p), some (vI q), some (vI k), none] [vI 37, vI k] T1
      refine j_blx (F := fX5) tb_X5 (by decide) bk_X5_wordOf_23 bs_X5_wordOf_23 hz (fun K hK => ?_)
      refine And.intro (fun c1 => ?_) (fun c1 => ?_)
      · refine hK 111 [some (vR 105 0), some (vR 82 2), some (vI p), some (vI q), some (vI k), none] [] T1 ?_
        refine j_blx (F := fX5) tb_X5 (by decide) bk_X5_wordOf_111 bs_X5_wordOf_111 hz (fun K hK => ?_)
        refine hK 113 [some (vR 105 0), some (vR 82 2), some (vI p), some (vI q), some (vI k), none] [vI 3, vR 105 0] T1 ?_
        refine j_callV (y := yX5_fail) (Yc := zX5_fail) (rest := []) [vI 3] (ct_X5_fail_e (T := T1) (by omega)) cl_X5_59 (qd_c (by decide +kernel)) (by decide) rfl (by decide +kernel) (Nat.le_of_ble_eq_true rfl) (by decide) (by decide) rfl ?_
        rintro U2 _ ⟨x3, rfl, fU2, qU2⟩
        show J_ zX5_wordOf T (po_X5_wordOf_e2 T) 0 0 116 [some (vR 105 0), some (vR 82 2), some (vI p), some (vI q), some (vI k), none] [vI x3] U2
        refine j_blx (F := fX5) tb_X5 (by decide) bk_X5_wordOf_116 bs_X5_wordOf_116 hz (fun K hK => ?_)
        refine (show po_X5_wordOf_e2 T U2 (some (vI (-1))) from ?_)
        have t8 := hf_17 105 0 8 rfl
        exact ⟨_, rfl, fr_t (fr_t (fr_0 _ _) (fr_s hf_17 rfl)) (fr_s fU2 rfl), Or.inr (Or.inr ⟨hkd, rfl, wi9_e tb9_2 iw (by omega), by omega, by omega⟩)⟩
      · refine hK 29 [some (vR 105 0), some (vR 82 2), some (vI p), some (vI q), some (vI k), none] [vI k, vR 82 2] T1 ?_
        refine j_callK (i := 2) (y := yJ0_charAt_5068e) (Yc := zJ0_charAt_5068e) (rest := []) [vI k] (by decide) (ct_J0_charAt_2 (T := T1) (by omega)) ck82_X5_98 (by decide +kernel) (by decide) rfl (by decide +kernel) (Nat.le_of_ble_eq_true rfl) (by decide) (by decide) rfl ?_
        rintro _ _ ⟨rfl, rfl⟩
        show J_ zX5_wordOf T (po_X5_wordOf_e2 T) 0 0 32 [some (vR 105 0), some (vR 82 2), some (vI p), some (vI q), some (vI k), none] [vI (cb8_ 2 k)] T1
        have hcb := cb8_b (i := 2) (by decide) k
        refine j_blx (F := fX5) tb_X5 (by decide) bk_X5_wordOf_32 bs_X5_wordOf_32 hz (fun K hK => ?_)
        refine And.intro (fun c4 => ?_) (fun c4 => ?_)
        · refine hK 64 [some (vR 105 0), some (vR 82 2), some (vI p), some (vI q), some (vI k), some (vI (cb8_ 2 k))] [] T1 ?_
          refine j_blx (F := fX5) tb_X5 (by decide) bk_X5_wordOf_64 bs_X5_wordOf_64 hz (fun K hK => ?_)
          refine And.intro (fun c5 => ?_) (fun c5 => ?_)
          · refine hK 103 [some (vR 105 0), some (vR 82 2), some (vI p), some (vI q), some (vI k), some (vI (cb8_ 2 k))] [] T1 ?_
            refine j_blx (F := fX5) tb_X5 (by decide) bk_X5_wordOf_103 bs_X5_wordOf_103 hz (fun K hK => ?_)
            refine rg_i (by omega) ?_
            refine hK 17 [some (vR 105 0), some (vR 82 2), some (vI p), some (vI (-1)), some (vI (k + 1)), some (vI (cb8_ 2 k))] [] T1 ?_
            refine j_drop [some (vR 105 0), some (vR 82 2), some (vI p), some (vI (-1)), some (vI (k + 1)), none] (fun k v hk => ?_) rfl ?_
            · match k, hk with
              | 0, hk => exact hk
              | 1, hk => exact hk
              | 2, hk => exact hk
              | 3, hk => exact hk
              | 4, hk => exact hk
              | 5, hk => cases hk
              | k + 6, hk => cases hk
            refine ih_17 _ ?_ p (-1) (k + 1) T1 (Nat.le_refl _) ?_ ?_ ?_ ?_ ?_
            · omega
            · exact fr_t (fr_0 _ _) (fr_s hf_17 rfl)
            · omega
            · omega
            · omega
            · exact wi9_x tb9_2 iw (by omega) (by omega) (show ¬ (0 ≤ q ∧ T 105 0 8 + q < T 105 0 9 ∧ T 500 0 (T 105 0 8 + q) = cb8_ 2 k) by omega)
          · intro b6 b6b
            have e7 : T1 105 0 8 = T 105 0 8 := hf_17 105 0 8 rfl
            rw [e7] at b6 b6b ⊢
            refine rg_i (by omega) ?_
            intro b8 b8b
            have e9 : T1 105 0 9 = T 105 0 9 := hf_17 105 0 9 rfl
            rw [e9] at b8 b8b ⊢
            refine And.intro (fun c10 => ?_) (fun c10 => ?_)
            · refine hK 103 [some (vR 105 0), some (vR 82 2), some (vI p), some (vI q), some (vI k), some (vI (cb8_ 2 k))] [] T1 ?_
              refine j_blx (F := fX5) tb_X5 (by decide) bk_X5_wordOf_103 bs_X5_wordOf_103 hz (fun K hK => ?_)
              refine rg_i (by omega) ?_
              refine hK 17 [some (vR 105 0), some (vR 82 2), some (vI p), some (vI (-1)), some (vI (k + 1)), some (vI (cb8_ 2 k))] [] T1 ?_
              refine j_drop [some (vR 105 0), some (vR 82 2), some (vI p), some (vI (-1)), some (vI (k + 1)), none] (fun k v hk => ?_) rfl ?_
              · match k, hk with
                | 0, hk => exact hk
                | 1, hk => exact hk
                | 2, hk => exact hk
                | 3, hk => exact hk
                | 4, hk => exact hk
                | 5, hk => cases hk
                | k + 6, hk => cases hk
              refine ih_17 _ ?_ p (-1) (k + 1) T1 (Nat.le_refl _) ?_ ?_ ?_ ?_ ?_
              · omega
              · exact fr_t (fr_0 _ _) (fr_s hf_17 rfl)
              · omega
              · omega
              · omega
              · exact wi9_x tb9_2 iw (by omega) (by omega) (show ¬ (0 ≤ q ∧ T 105 0 8 + q < T 105 0 9 ∧ T 500 0 (T 105 0 8 + q) = cb8_ 2 k) by omega)
            · intro b11 b11b
              have e12 : T1 105 0 8 = T 105 0 8 := hf_17 105 0 8 rfl
              rw [e12] at b11 b11b ⊢
              refine rg_i (by omega) ?_
              refine ix_i (by omega) ?_
              intro b13 b13b
              have e14 : T1 500 0 ((T 105 0 8) + q) = T 500 0 ((T 105 0 8) + q) := hf_17 500 0 ((T 105 0 8) + q) rfl
              rw [e14] at b13 b13b ⊢
              refine And.intro (fun c15 => ?_) (fun c15 => ?_)
              · refine hK 103 [some (vR 105 0), some (vR 82 2), some (vI p), some (vI q), some (vI k), some (vI (cb8_ 2 k))] [] T1 ?_
                refine j_blx (F := fX5) tb_X5 (by decide) bk_X5_wordOf_103 bs_X5_wordOf_103 hz (fun K hK => ?_)
                refine rg_i (by omega) ?_
                refine hK 17 [some (vR 105 0), some (vR 82 2), some (vI p), some (vI (-1)), some (vI (k + 1)), some (vI (cb8_ 2 k))] [] T1 ?_
                refine j_drop [some (vR 105 0), some (vR 82 2), some (vI p), some (vI (-1)), some (vI (k + 1)), none] (fun k v hk => ?_) rfl ?_
                · match k, hk with
                  | 0, hk => exact hk
                  | 1, hk => exact hk
                  | 2, hk => exact hk
                  | 3, hk => exact hk
                  | 4, hk => exact hk
                  | 5, hk => cases hk
                  | k + 6, hk => cases hk
                refine ih_17 _ ?_ p (-1) (k + 1) T1 (Nat.le_refl _) ?_ ?_ ?_ ?_ ?_
                · omega
                · exact fr_t (fr_0 _ _) (fr_s hf_17 rfl)
                · omega
                · omega
                · omega
                · exact wi9_x tb9_2 iw (by omega) (by omega) (show ¬ (0 ≤ q ∧ T 105 0 8 + q < T 105 0 9 ∧ T 500 0 (T 105 0 8 + q) = cb8_ 2 k) by omega)
              · refine rg_i (by omega) ?_
                refine hK 105 [some (vR 105 0), some (vR 82 2), some (vI p), some (vI (q + 1)), some (vI k), some (vI (cb8_ 2 k))] [] T1 ?_
                refine j_blx (F := fX5) tb_X5 (by decide) bk_X5_wordOf_105 bs_X5_wordOf_105 hz (fun K hK => ?_)
                refine rg_i (by omega) ?_
                refine hK 17 [some (vR 105 0), some (vR 82 2), some (vI p), some (vI (q + 1)), some (vI (k + 1)), some (vI (cb8_ 2 k))] [] T1 ?_
                refine j_drop [some (vR 105 0), some (vR 82 2), some (vI p), some (vI (q + 1)), some (vI (k + 1)), none] (fun k v hk => ?_) rfl ?_
                · match k, hk with
                  | 0, hk => exact hk
                  | 1, hk => exact hk
                  | 2, hk => exact hk
                  | 3, hk => exact hk
                  | 4, hk => exact hk
                  | 5, hk => cases hk
                  | k + 6, hk => cases hk
                refine ih_17 _ ?_ p (q + 1) (k + 1) T1 (Nat.le_refl _) ?_ ?_ ?_ ?_ ?_
                · omega
                · exact fr_t (fr_0 _ _) (fr_s hf_17 rfl)
                · omega
                · omega
                · omega
                · exact wi9_y tb9_2 iw (by omega) (by omega) (by omega) (by omega) (show T 500 0 (T 105 0 8 + q) = cb8_ 2 k by omega)
        · intro b16 b16b
          have e17 : T1 105 0 9 = T 105 0 9 := hf_17 105 0 9 rfl
          rw [e17] at b16 b16b ⊢
          intro b18 b18b
          have e19 : T1 105 0 8 = T 105 0 8 := hf_17 105 0 8 rfl
          rw [e19] at b18 b18b ⊢
          refine rg_i (by omega) ?_
          refine And.intro (fun c20 => ?_) (fun c20 => ?_)
          · refine hK 56 [some (vR 105 0), some (vR 82 2), some (vI p), some (vI q), some (vI k), some (vI (cb8_ 2 k))] [] T1 ?_
            refine j_blx (F := fX5) tb_X5 (by decide) bk_X5_wordOf_56 bs_X5_wordOf_56 hz (fun K hK => ?_)
            refine rg_i (by omega) ?_
            refine hK 105 [some (vR 105 0), some (vR 82 2), some (vI (p + 1)), some (vI 0), some (vI k), some (vI (cb8_ 2 k))] [] T1 ?_
            refine j_blx (F := fX5) tb_X5 (by decide) bk_X5_wordOf_105 bs_X5_wordOf_105 hz (fun K hK => ?_)
            refine rg_i (by omega) ?_
            refine hK 17 [some (vR 105 0), some (vR 82 2), some (vI (p + 1)), some (vI 0), some (vI (k + 1)), some (vI (cb8_ 2 k))] [] T1 ?_
            refine j_drop [some (vR 105 0), some (vR 82 2), some (vI (p + 1)), some (vI 0), some (vI (k + 1)), none] (fun k v hk => ?_) rfl ?_
            · match k, hk with
              | 0, hk => exact hk
              | 1, hk => exact hk
              | 2, hk => exact hk
              | 3, hk => exact hk
              | 4, hk => exact hk
              | 5, hk => cases hk
              | k + 6, hk => cases hk
            refine ih_17 _ ?_ (p + 1) 0 (k + 1) T1 (Nat.le_refl _) ?_ ?_ ?_ ?_ ?_
            · omega
            · exact fr_t (fr_0 _ _) (fr_s hf_17 rfl)
            · omega
            · omega
            · omega
            · exact wi9_n tb9_2 iw (by omega) (by omega) (by omega) (by omega)
          · refine (show po_X5_wordOf_e2 T T1 (some (vI p)) from ?_)
            exact ⟨_, rfl, fr_t (fr_0 _ _) (fr_s hf_17 rfl), Or.inr (Or.inl ⟨hkd, by omega, wi9_m tb9_2 iw (by omega) (by omega) (by omega) (by omega), by omega, by omega⟩)⟩
  refine j_blx (F := fX5) tb_X5 (by decide) bk_X5_wordOf_0 bs_X5_wordOf_0 hz (fun K hK => ?_)
  refine hK 2 [some (vR 105 0), some (vR 82 2), none, none, none, none] [vI 1, vR 105 0] T ?_
  refine j_callV (y := yX5_isOfKind) (Yc := zX5_isOfKind) (rest := []) [vI 1] (ct_X5_isOfKind_e (T := T)) cl_X5_79 (qd_c (by decide +kernel)) (by decide) rfl (by decide +kernel) (Nat.le_of_ble_eq_true rfl) (by decide) (by decide) rfl ?_
  rintro U21 _ ⟨x22, rfl, fU21, qU21⟩
  show J_ zX5_wordOf T (po_X5_wordOf_e2 T) 0 0 5 [some (vR 105 0), some (vR 82 2), none, none, none, none] [vI x22] U21
  refine j_blx (F := fX5) tb_X5 (by decide) bk_X5_wordOf_5 bs_X5_wordOf_5 hz (fun K hK => ?_)
  refine And.intro (fun c23 => ?_) (fun c23 => ?_)
  · refine hK 10 [some (vR 105 0), some (vR 82 2), none, none, none, none] [] U21 ?_
    refine j_blx (F := fX5) tb_X5 (by decide) bk_X5_wordOf_10 bs_X5_wordOf_10 hz (fun K hK => ?_)
    refine hK 17 [some (vR 105 0), some (vR 82 2), some (vI 0), some (vI 0), some (vI 0), none] [] U21 ?_
    refine c_17 _ 0 0 0 U21 (Nat.le_refl _) ?_ ?_ ?_ ?_ ?_
    · exact fr_t (fr_0 _ _) (fr_s fU21 rfl)
    · omega
    · omega
    · omega
    · exact wi9_0 tb9_2 (by omega)
  · refine (show po_X5_wordOf_e2 T U21 (some (vI (-1))) from ?_)
    refine ⟨_, rfl, fr_t (fr_0 _ _) (fr_s fU21 rfl), Or.inl ⟨by omega, rfl, ?_, by omega⟩⟩
    split <;> omega

