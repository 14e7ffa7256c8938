/-- the list of what stands against p; -1 where one of these is not told -/
def LAG_ (T T' : Zt) (p x : Int) : Prop := (x = -1 ∧ ∃ k, 0 ≤ k ∧ k < T 106 0 4 ∧ SAH_ T (fun m => T 102 m 5) p k (T 102 p 5) ∧ ¬ (T 102 k 6 = -1 ∧ T 102 k 10 = 0)) ∨ (0 ≤ x ∧ (∀ k, 0 ≤ k → k < T 106 0 4 → SAH_ T (fun m => T 102 m 5) p k (T 102 p 5) → T 102 k 6 = -1 ∧ T 102 k 10 = 0) ∧ LHD_ (fun _ => 0) (fun k => SAH_ T (fun m => T 102 m 5) p k (T 102 p 5)) (fun j => T' 533 0 j) 0 (T 106 0 4) 400 x)
theorem bk_X6_listAgainst_f_4 : ck_ fX6 (some .int) cX6_listAgainst 4 [.iload 3, .aload 0, .tableswitch 0 6 4 #[], .if_icmp .ge 64, .aload 0, .tableswitch 0 6 3 #[], .iload 3, .aaload, .astore 4, .iload 3, .aload 1, .tableswitch 0 2 1 #[], .if_icmp .eq 58, .aload 0, .aload 1, .aload 4] 32 = true := qck_r (nn_ _) (by decide +kernel)
theorem bs_X6_listAgainst_f_4 {P : Zt → Option Zv → Prop} (K : Int → Zl → List Zv → Zt → Prop) : sx_ K P [.iload 3, .aload 0, .tableswitch 0 6 4 #[], .if_icmp .ge 64, .aload 0, .tableswitch 0 6 3 #[], .iload 3, .aaload, .astore 4, .iload 3, .aload 1, .tableswitch 0 2 1 #[], .if_icmp .eq 58, .aload 0, .aload 1, .aload 4] 32 = x_iload 3 (x_aload 0 (x_g0 106 4 0 400 (x_if_icmp .ge 64 K (x_aload 0 (x_g1 106 523 (x_iload 3 (x_aaload (x_astore 4 (x_iload 3 (x_aload 1 (x_g0 102 1 0 399 (x_if_icmp .eq 58 K (x_aload 0 (x_aload 1 (x_aload 4 (K 32)))))))))))))))) := ((xe_iload 3).trans (congrArg (x_iload 3) ((xe_aload 0).trans (congrArg (x_aload 0) ((xe_g0 (kk := 106) rfl tl_6_4).trans (congrArg (x_g0 106 4 0 400) ((xe_if_icmp .ge 64).trans (congrArg (x_if_icmp .ge 64 K) ((xe_aload 0).trans (congrArg (x_aload 0) ((xe_g1 (kk := 106) rfl tl_6_3).trans (congrArg (x_g1 106 523) ((xe_iload 3).trans (congrArg (x_iload 3) ((xe_aaload).trans (congrArg (x_aaload) ((xe_astore 4).trans (congrArg (x_astore 4) ((xe_iload 3).trans (congrArg (x_iload 3) ((xe_aload 1).trans (congrArg (x_aload 1) ((xe_g0 (kk := 102) rfl tl_2_1).trans (congrArg (x_g0 102 1 0 399) ((xe_if_icmp .eq 58).trans (congrArg (x_if_icmp .eq 58 K) ((xe_aload 0).trans (congrArg (x_aload 0) ((xe_aload 1).trans (congrArg (x_aload 1) ((xe_aload 4).trans (congrArg (x_aload 4) xe_nil))))))))))))))))))))))))))))))))
theorem bk_X6_listAgainst_f_64 : ck_ fX6 (some .int) cX6_listAgainst 64 [.iload 2, .ireturn] 66 = true := qck_r (nn_ _) (by decide +kernel)
theorem bs_X6_listAgainst_f_64 {P : Zt → Option Zv → Prop} (K : Int → Zl → List Zv → Zt → Prop) : sx_ K P [.iload 2, .ireturn] 66 = x_iload 2 (x_ireturn P) := ((xe_iload 2).trans (congrArg (x_iload 2) (xe_ireturn)))
theorem bk_X6_listAgainst_f_58 : ck_ fX6 (some .int) cX6_listAgainst 58 [.iinc 3 1, .goto 4] 64 = true := qck_r (nn_ _) (by decide +kernel)
theorem bs_X6_listAgainst_f_58 {P : Zt → Option Zv → Prop} (K : Int → Zl → List Zv → Zt → Prop) : sx_ K P [.iinc 3 1, .goto 4] 64 = x_iinc 3 1 (x_goto 4 K) := ((xe_iinc 3 1).trans (congrArg (x_iinc 3 1) (xe_goto 4)))
theorem bk_X6_listAgainst_f_35 : ck_ fX6 (some .int) cX6_listAgainst 35 [.ifCond .eq 58, .aload 4] 40 = true := qck_r (nn_ _) (by decide +kernel)
theorem bs_X6_listAgainst_f_35 {P : Zt → Option Zv → Prop} (K : Int → Zl → List Zv → Zt → Prop) : sx_ K P [.ifCond .eq 58, .aload 4] 40 = x_ifCond .eq 58 K (x_aload 4 (K 40)) := ((xe_ifCond .eq 58).trans (congrArg (x_ifCond .eq 58 K) ((xe_aload 4).trans (congrArg (x_aload 4) xe_nil))))
theorem bk_X6_listAgainst_f_43 : ck_ fX6 (some .int) cX6_listAgainst 43 [.ifCond .eq 48, .iconst (-1), .ireturn] 48 = true := qck_r (nn_ _) (by decide +kernel)
theorem bs_X6_listAgainst_f_43 {P : Zt → Option Zv → Prop} (K : Int → Zl → List Zv → Zt → Prop) : sx_ K P [.ifCond .eq 48, .iconst (-1), .ireturn] 48 = x_ifCond .eq 48 K (x_iconst (-1) (x_ireturn P)) := ((xe_ifCond .eq 48).trans (congrArg (x_ifCond .eq 48 K) ((xe_iconst (-1)).trans (congrArg (x_iconst (-1)) (xe_ireturn)))))
theorem bk_X6_listAgainst_f_48 : ck_ fX6 (some .int) cX6_listAgainst 48 [.aload 0, .tableswitch 0 6 13 #[], .iload 2, .iload 3, .iastore, .iinc 2 1, .iinc 3 1, .goto 4] 64 = true := qck_r (nn_ _) (by decide +kernel)
theorem bs_X6_listAgainst_f_48 {P : Zt → Option Zv → Prop} (K : Int → Zl → List Zv → Zt → Prop) : sx_ K P [.aload 0, .tableswitch 0 6 13 #[], .iload 2, .iload 3, .iastore, .iinc 2 1, .iinc 3 1, .goto 4] 64 = x_aload 0 (x_g1 106 533 (x_iload 2 (x_iload 3 (x_iastore (x_iinc 2 1 (x_iinc 3 1 (x_goto 4 K))))))) := ((xe_aload 0).trans (congrArg (x_aload 0) ((xe_g1 (kk := 106) rfl tl_6_13).trans (congrArg (x_g1 106 533) ((xe_iload 2).trans (congrArg (x_iload 2) ((xe_iload 3).trans (congrArg (x_iload 3) ((xe_iastore).trans (congrArg (x_iastore) ((xe_iinc 2 1).trans (congrArg (x_iinc 2 1) ((xe_iinc 3 1).trans (congrArg (x_iinc 3 1) (xe_goto 4)))))))))))))))
theorem bk_X6_listAgainst_f_0 : ck_ fX6 (some .int) cX6_listAgainst 0 [.iconst 0, .istore 2, .iconst 0, .istore 3] 4 = true := qck_r (nn_ _) (by decide +kernel)
theorem bs_X6_listAgainst_f_0 {P : Zt → Option Zv → Prop} (K : Int → Zl → List Zv → Zt → Prop) : sx_ K P [.iconst 0, .istore 2, .iconst 0, .istore 3] 4 = x_iconst 0 (x_istore 2 (x_iconst 0 (x_istore 3 (K 4)))) := ((xe_iconst 0).trans (congrArg (x_iconst 0) ((xe_istore 2).trans (congrArg (x_istore 2) ((xe_iconst 0).trans (congrArg (x_iconst 0) ((xe_istore 3).trans (congrArg (x_istore 3) xe_nil))))))))
abbrev po_X6_listAgainst_f (T : Zt) (p : Int) : Zt → Option Zv → Prop := fun T' r => ∃ x : Int, r = some (vI x) ∧ fr_ [(533, [])] T T' ∧ ((-1 ≤ x ∧ x ≤ 400) ∧ (∀ j : Int, 0 ≤ j → j < x → 0 ≤ T' 533 0 j ∧ T' 533 0 j < T 106 0 4) ∧ LAG_ T T' p x)
set_option maxHeartbeats 4000000 in
theorem ct_X6_listAgainst_f {T : Zt} {p : Int} (hka : KA_ T) (hkm : KM_ T) (hp : 0 ≤ p ∧ p < T 106 0 4) : Ct_ yX6_listAgainst zX6_listAgainst T [vR 106 0, vR 102 p] (po_X6_listAgainst_f T p) := by
  refine ct_of pn_6 rfl rfl (Nat.le_of_ble_eq_true rfl) (fun hT hav => ?_)
  have hz : zX6_listAgainst.2.2.2.1 = some .boolean → ∀ (T' : Zt) (x : Int), po_X6_listAgainst_f T p T' (some (vI x)) → 0 ≤ x ∧ x ≤ 1 := fun h => by cases h
  have hb_matchCount : 0 ≤ T 106 0 4 ∧ T 106 0 4 ≤ 400 := bd_f hT 106 4 tl_6_4 0
  have hn1 := (hkm p hp.1 hp.2).1
  show J_ zX6_listAgainst T (po_X6_listAgainst_f T p) 0 0 0 [some (vR 106 0), some (vR 102 p), none, none, none] [] T
  have c_4 : ∀ (nn : Nat) (f : Int) (k : Int) (T1 : Zt), ((400 - k).toNat) ≤ nn → (fr_ [(533, [])] T T1) → (0 ≤ f ∧ f ≤ k ∧ 0 ≤ k ∧ k ≤ T 106 0 4) → (∀ j : Int, 0 ≤ j → j < f → 0 ≤ T1 533 0 j ∧ T1 533 0 j < T 106 0 4) → (∀ j, 0 ≤ j → j < k → SAH_ T (fun m => T 102 m 5) p j (T 102 p 5) → T 102 j 6 = -1 ∧ T 102 j 10 = 0) → (LHD_ (fun _ => 0) (fun k => SAH_ T (fun m => T 102 m 5) p k (T 102 p 5)) (fun j => T1 533 0 j) 0 k 400 f) → J_ zX6_listAgainst T (po_X6_listAgainst_f T p) 0 0 4 [some (vR 106 0), some (vR 102 p), some (vI f), some (vI k), none] [] T1 := by
    intro nn
    induction nn using Nat.strongRecOn with
    | _ nn ih_4 =>
      intro f k T1 hm_4 hf_4 i1 li1 tl1 lh1
      replace hm_4 := fun (_ : Unit) => hm_4
      refine j_blx (F := fX6) tb_X6 (nn_ _) bk_X6_listAgainst_f_4 bs_X6_listAgainst_f_4 hz (fun K hK => ?_)
      intro b1 b1b
      have e2 : T1 106 0 4 = T 106 0 4 := hf_4 106 0 4 rfl
      rw [e2] at b1 b1b ⊢
      refine And.intro (fun c3 => ?_) (fun c3 => ?_)
      · refine hK 64 _ [] T1 ?_
        refine j_blx (F := fX6) tb_X6 (nn_ _) bk_X6_listAgainst_f_64 bs_X6_listAgainst_f_64 hz (fun K hK => ?_)
        refine (show po_X6_listAgainst_f T p T1 (some (vI f)) from ?_)
        rw [show k = T 106 0 4 from Int.le_antisymm (by omega) (by omega)] at lh1
        exact ⟨_, rfl, fr_t (fr_0 _ _) (fr_s hf_4 rfl), by omega, li1, Or.inr ⟨by omega, fun k9 a b c => tl1 k9 a (by omega) c, lh1⟩⟩
      · refine ix_i (by omega) ?_
        have e5 : T1 523 0 k = T 523 0 k := hf_4 523 0 k rfl
        refine And.intro (fun c4 => ?_) (fun c4 => ?_)
        · exact absurd (show T 523 0 (k) = 0 from Int.le_antisymm (by omega) (by omega)) (hka.2 _ (by omega) (by omega))
        · intro b6 b6b
          have e7 : T1 102 p 1 = T 102 p 1 := hf_4 102 p 1 rfl
          rw [e7] at b6 b6b ⊢
          refine And.intro (fun c8 => ?_) (fun c8 => ?_)
          · refine hK 58 [some (vR 106 0), some (vR 102 p), some (vI f), some (vI k), some (vR 102 k)] [] T1 ?_
            refine j_blx (F := fX6) tb_X6 (nn_ _) bk_X6_listAgainst_f_58 bs_X6_listAgainst_f_58 hz (fun K hK => ?_)
            refine rg_i (by omega) ?_
            refine hK 4 [some (vR 106 0), some (vR 102 p), some (vI f), some (vI (k + 1)), some (vR 102 k)] [] T1 ?_
            refine j_drop [some (vR 106 0), some (vR 102 p), some (vI f), some (vI (k + 1)), none] (fun k v hk => ?_) rfl ?_
            · match k, hk with
              | 0, hk => exact hk
              | 1, hk => exact hk
              | 2, hk => exact hk
              | 3, hk => exact hk
              | 4, hk => cases hk
              | k + 5, hk => cases hk
            refine ih_4 _ ?_ f (k + 1) T1 (Nat.le_refl _) ?_ ?_ ?_ ?_ ?_
            · have hm_4 := hm_4 (); omega
            · exact fr_t (fr_0 _ _) (fr_s hf_4 rfl)
            · omega
            · exact li1
            · intro j a b c
              by_cases z : j = k
              · rw [z] at c
                refine absurd c (fun z1 => ?_)
                unfold SAH_ SAG_ at z1
                exact z1.1 (by omega)
              · exact tl1 j a (by omega) c
            · have y9 := lhd_n lh1 (fun z => by
                have z1 : SAH_ T (fun m => T 102 m 5) p (0 + k) (T 102 p 5) := z.1
                rw [Int.zero_add] at z1
                unfold SAH_ SAG_ at z1
                exact z1.1 (by omega))
              exact y9
          · refine hK 32 [some (vR 106 0), some (vR 102 p), some (vI f), some (vI k), some (vR 102 k)] [vR 102 k, vR 102 p, vR 106 0] T1 ?_
            refine j_callV (y := yX6_standAgainst) (Yc := zX6_standAgainst) (rest := []) [vR 102 p, vR 102 k] (ct_X6_standAgainst_f (T := T1)) cl_X6_112 (qd_c (by decide +kernel)) (nn_ _) rfl (rf_of rfl) (Nat.le_of_ble_eq_true rfl) (Nat.le_of_ble_eq_true rfl) (Nat.le_of_ble_eq_true rfl) rfl ?_
            rintro _ _ ⟨rfl, x9, rfl, hx9⟩
            have e10 : T1 102 p 0 = T 102 p 0 := hf_4 102 p 0 rfl
            have e11 : T1 102 p 3 = T 102 p 3 := hf_4 102 p 3 rfl
            have e12 : T1 102 p 4 = T 102 p 4 := hf_4 102 p 4 rfl
            have e13 : T1 102 p 5 = T 102 p 5 := hf_4 102 p 5 rfl
            have e14 : T1 102 p 6 = T 102 p 6 := hf_4 102 p 6 rfl
            have e15 : T1 102 k 0 = T 102 k 0 := hf_4 102 k 0 rfl
            have e16 : T1 102 k 3 = T 102 k 3 := hf_4 102 k 3 rfl
            have e17 : T1 102 k 4 = T 102 k 4 := hf_4 102 k 4 rfl
            have e18 : T1 102 k 5 = T 102 k 5 := hf_4 102 k 5 rfl
            have e19 : T1 102 k 6 = T 102 k 6 := hf_4 102 k 6 rfl
            have e20 : T1 102 p 0 = T 102 p 0 := hf_4 102 p 0 rfl
            have e21 : T1 401 (T 102 p 0) 8 = T 401 (T 102 p 0) 8 := hf_4 401 (T 102 p 0) 8 rfl
            have r21 : T1 401 (T1 102 p 0) 8 = T 401 (T 102 p 0) 8 := by rw [e20]; exact e21
            have e22 : T1 102 p 3 = T 102 p 3 := hf_4 102 p 3 rfl
            have e23 : T1 560 0 (T 102 p 3) = T 560 0 (T 102 p 3) := hf_4 560 0 (T 102 p 3) rfl
            have r23 : T1 560 0 (T1 102 p 3) = T 560 0 (T 102 p 3) := by rw [e22]; exact e23
            have e24 : T1 102 k 0 = T 102 k 0 := hf_4 102 k 0 rfl
            have e25 : T1 401 (T 102 k 0) 8 = T 401 (T 102 k 0) 8 := hf_4 401 (T 102 k 0) 8 rfl
            have r25 : T1 401 (T1 102 k 0) 8 = T 401 (T 102 k 0) 8 := by rw [e24]; exact e25
            have e26 : T1 102 k 3 = T 102 k 3 := hf_4 102 k 3 rfl
            have e27 : T1 560 0 (T 102 k 3) = T 560 0 (T 102 k 3) := hf_4 560 0 (T 102 k 3) rfl
            have r27 : T1 560 0 (T1 102 k 3) = T 560 0 (T 102 k 3) := by rw [e26]; exact e27
            have sx9 : (x9 = 1 ∧ SAH_ T (fun m => T 102 m 5) p k (T 102 p 5)) ∨ (x9 = 0 ∧ ¬ SAH_ T (fun m => T 102 m 5) p k (T 102 p 5)) := by
              unfold SAH_ SAG_ sqH_ hqH_ rsH_ abH_
              dsimp only
              omega
            clear hx9
            show J_ zX6_listAgainst T (po_X6_listAgainst_f T p) 0 0 35 _ [vI x9] T1
            refine j_blx (F := fX6) tb_X6 (nn_ _) bk_X6_listAgainst_f_35 bs_X6_listAgainst_f_35 hz (fun K hK => ?_)
            refine And.intro (fun c28 => ?_) (fun c28 => ?_)
            · refine hK 58 _ [] T1 ?_
              refine j_blx (F := fX6) tb_X6 (nn_ _) bk_X6_listAgainst_f_58 bs_X6_listAgainst_f_58 hz (fun K hK => ?_)
              refine rg_i (by omega) ?_
              refine hK 4 [some (vR 106 0), some (vR 102 p), some (vI f), some (vI (k + 1)), some (vR 102 k)] [] T1 ?_
              refine j_drop [some (vR 106 0), some (vR 102 p), some (vI f), some (vI (k + 1)), none] (fun k v hk => ?_) rfl ?_
              · match k, hk with
                | 0, hk => exact hk
                | 1, hk => exact hk
                | 2, hk => exact hk
                | 3, hk => exact hk
                | 4, hk => cases hk
                | k + 5, hk => cases hk
              refine ih_4 _ ?_ f (k + 1) T1 (Nat.le_refl _) ?_ ?_ ?_ ?_ ?_
              · have hm_4 := hm_4 (); omega
              · exact fr_t (fr_0 _ _) (fr_s hf_4 rfl)
              · omega
              · exact li1
              · intro j a b c
                by_cases z : j = k
                · rw [z] at c
                  refine absurd c (fun z1 => ?_)
                  rcases sx9 with y | y
                  · omega
                  · exact y.2 z1
                · exact tl1 j a (by omega) c
              · have y9 := lhd_n lh1 (fun z => by
                  have z1 : SAH_ T (fun m => T 102 m 5) p (0 + k) (T 102 p 5) := z.1
                  rw [Int.zero_add] at z1
                  rcases sx9 with y | y
                  · omega
                  · exact y.2 z1)
                exact y9
            · refine hK 40 [some (vR 106 0), some (vR 102 p), some (vI f), some (vI k), some (vR 102 k)] [vR 102 k] T1 ?_
              refine j_callV (y := yX2_phaseOfLife) (Yc := zX2_phaseOfLife) (rest := []) [] (ct_X2_phaseOfLife_e (T := T1)) cl_X6_116 (qd_c (by decide +kernel)) (nn_ _) rfl (rf_of rfl) (Nat.le_of_ble_eq_true rfl) (Nat.le_of_ble_eq_true rfl) (Nat.le_of_ble_eq_true rfl) rfl ?_
              rintro _ _ ⟨rfl, x29, rfl, hx29⟩
              have e30 : T1 102 k 6 = T 102 k 6 := hf_4 102 k 6 rfl
              have e31 : T1 102 k 10 = T 102 k 10 := hf_4 102 k 10 rfl
              have e32 : T1 103 k 3 = T 103 k 3 := hf_4 103 k 3 rfl
              show J_ zX6_listAgainst T (po_X6_listAgainst_f T p) 0 0 43 _ [vI x29] T1
              refine j_blx (F := fX6) tb_X6 (nn_ _) bk_X6_listAgainst_f_43 bs_X6_listAgainst_f_43 hz (fun K hK => ?_)
              refine And.intro (fun c33 => ?_) (fun c33 => ?_)
              · refine hK 48 _ [] T1 ?_
                have sag9 := (sx9.resolve_right (fun z => by omega)).2
                refine j_blx (F := fX6) tb_X6 (nn_ _) bk_X6_listAgainst_f_48 bs_X6_listAgainst_f_48 hz (fun K hK => ?_)
                refine iy_i (by omega) (by omega) ?_
                refine x_nm (fun U34 hU34 => ?_)
                have e35 := up_f hU34
                refine rg_i (by omega) ?_
                refine rg_i (by omega) ?_
                refine hK 4 [some (vR 106 0), some (vR 102 p), some (vI (f + 1)), some (vI (k + 1)), some (vR 102 k)] [] U34 ?_
                refine j_drop [some (vR 106 0), some (vR 102 p), some (vI (f + 1)), some (vI (k + 1)), none] (fun k v hk => ?_) rfl ?_
                · match k, hk with
                  | 0, hk => exact hk
                  | 1, hk => exact hk
                  | 2, hk => exact hk
                  | 3, hk => exact hk
                  | 4, hk => cases hk
                  | k + 5, hk => cases hk
                refine ih_4 _ ?_ (f + 1) (k + 1) U34 (Nat.le_refl _) ?_ ?_ ?_ ?_ ?_
                · have hm_4 := hm_4 (); omega
                · exact fr_u (fr_t (fr_0 _ _) (fr_s hf_4 rfl)) hU34 rfl
                · omega
                · intro j a b
                  by_cases z : j = f
                  · rw [z, up_f hU34]; omega
                  · rw [up_g hU34 (fun q => z q.2.2)]; exact li1 j a (by omega)
                · intro j a b c
                  by_cases z : j = k
                  · rw [z]; omega
                  · exact tl1 j a (by omega) c
                · exact lhd_i (t := f) (m := k) lh1 (by omega) (by omega) (by omega) (by omega) sag9 (by show (0 : Int) * 400 + k < 400; omega) (by omega) (by omega) (fun j a b => by omega) (by first | exact Or.inl (by omega) | exact Or.inr (Int.le_refl _)) (fun j a b => up_g hU34 (fun z => by omega)) (up_f hU34) (fun j a b => by omega)
              · refine (show po_X6_listAgainst_f T p T1 (some (vI (-1))) from ?_)
                have sag9 := (sx9.resolve_right (fun z => by omega)).2
                exact ⟨_, rfl, fr_t (fr_0 _ _) (fr_s hf_4 rfl), by omega, fun j a b => by omega, Or.inl ⟨rfl, k, by omega, by omega, sag9, by omega⟩⟩
  refine j_blx (F := fX6) tb_X6 (nn_ _) bk_X6_listAgainst_f_0 bs_X6_listAgainst_f_0 hz (fun K hK => ?_)
  refine hK 4 [some (vR 106 0), some (vR 102 p), some (vI 0), some (vI 0), none] [] T ?_
  refine c_4 _ 0 0 T (Nat.le_refl _) ?_ ?_ ?_ ?_ ?_
  · exact fr_0 _ _
  · omega
  · intro j a b; omega
  · intro j a b; omega
  · exact lhd_0
