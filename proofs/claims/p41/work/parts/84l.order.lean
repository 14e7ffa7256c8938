-- readOrder of the house
/-- what was read stands in the house's rows -/
def HO9_ (r : Qr9_ (Int × (Int → Int))) (T : Zt) : Prop := ∃ v, r = Sum.inr (T 105 0 9, v) ∧ VH9_ T v
theorem bk_X5_readOrder_e_4 : ck_ fX5 (some .boolean) cX5_readOrder 4 [.iload 2, .iconst 7, .if_icmp .gt 94, .aload 0] 11 = true := qck_r (by decide) (by decide +kernel)
theorem bs_X5_readOrder_e_4 {P : Zt → Option Zv → Prop} (K : Int → Zl → List Zv → Zt → Prop) : sx_ K P [.iload 2, .iconst 7, .if_icmp .gt 94, .aload 0] 11 = x_iload 2 (x_iconst 7 (x_if_icmp .gt 94 K (x_aload 0 (K 11)))) := ((xe_iload 2).trans (congrArg (x_iload 2) ((xe_iconst 7).trans (congrArg (x_iconst 7) ((xe_if_icmp .gt 94).trans (congrArg (x_if_icmp .gt 94 K) ((xe_aload 0).trans (congrArg (x_aload 0) xe_nil))))))))
theorem bk_X5_readOrder_e_14 : ck_ fX5 (some .boolean) cX5_readOrder 14 [.aload 0] 15 = true := qck_r (by decide) (by decide +kernel)
theorem bs_X5_readOrder_e_14 {P : Zt → Option Zv → Prop} (K : Int → Zl → List Zv → Zt → Prop) : sx_ K P [.aload 0] 15 = x_aload 0 (K 15) := ((xe_aload 0).trans (congrArg (x_aload 0) xe_nil))
theorem bk_X5_readOrder_e_20 : ck_ fX5 (some .boolean) cX5_readOrder 20 [.istore 3, .iload 3, .iconst (-1), .if_icmp .ne 28, .iconst 0, .ireturn] 28 = true := qck_r (by decide) (by decide +kernel)
theorem bs_X5_readOrder_e_20 {P : Zt → Option Zv → Prop} (K : Int → Zl → List Zv → Zt → Prop) : sx_ K P [.istore 3, .iload 3, .iconst (-1), .if_icmp .ne 28, .iconst 0, .ireturn] 28 = x_istore 3 (x_iload 3 (x_iconst (-1) (x_if_icmp .ne 28 K (x_iconst 0 (x_ireturn P))))) := ((xe_istore 3).trans (congrArg (x_istore 3) ((xe_iload 3).trans (congrArg (x_iload 3) ((xe_iconst (-1)).trans (congrArg (x_iconst (-1)) ((xe_if_icmp .ne 28).trans (congrArg (x_if_icmp .ne 28 K) ((xe_iconst 0).trans (congrArg (x_iconst 0) (xe_ireturn)))))))))))
theorem bk_X5_readOrder_e_28 : ck_ fX5 (some .boolean) cX5_readOrder 28 [.iload 1, .iload 3, .ishr, .iconst 1, .iand, .ifCond .ne 42, .iload 2, .iconst 7, .if_icmp .lt 48, .aload 0, .iconst 5] 44 = true := qck_r (by decide) (by decide +kernel)
theorem bs_X5_readOrder_e_28 {P : Zt → Option Zv → Prop} (K : Int → Zl → List Zv → Zt → Prop) : sx_ K P [.iload 1, .iload 3, .ishr, .iconst 1, .iand, .ifCond .ne 42, .iload 2, .iconst 7, .if_icmp .lt 48, .aload 0, .iconst 5] 44 = x_iload 1 (x_iload 3 (x_ishr (x_iconst 1 (x_iand (x_ifCond .ne 42 K (x_iload 2 (x_iconst 7 (x_if_icmp .lt 48 K (x_aload 0 (x_iconst 5 (K 44))))))))))) := ((xe_iload 1).trans (congrArg (x_iload 1) ((xe_iload 3).trans (congrArg (x_iload 3) ((xe_ishr).trans (congrArg (x_ishr) ((xe_iconst 1).trans (congrArg (x_iconst 1) ((xe_iand).trans (congrArg (x_iand) ((xe_ifCond .ne 42).trans (congrArg (x_ifCond .ne 42 K) ((xe_iload 2).trans (congrArg (x_iload 2) ((xe_iconst 7).trans (congrArg (x_iconst 7) ((xe_if_icmp .lt 48).trans (congrArg (x_if_icmp .lt 48 K) ((xe_aload 0).trans (congrArg (x_aload 0) ((xe_iconst 5).trans (congrArg (x_iconst 5) xe_nil))))))))))))))))))))))
theorem bk_X5_readOrder_e_42 : ck_ fX5 (some .boolean) cX5_readOrder 42 [.aload 0, .iconst 5] 44 = true := qck_r (by decide) (by decide +kernel)
theorem bs_X5_readOrder_e_42 {P : Zt → Option Zv → Prop} (K : Int → Zl → List Zv → Zt → Prop) : sx_ K P [.aload 0, .iconst 5] 44 = x_aload 0 (x_iconst 5 (K 44)) := ((xe_aload 0).trans (congrArg (x_aload 0) ((xe_iconst 5).trans (congrArg (x_iconst 5) xe_nil))))
theorem bk_X5_readOrder_e_47 : ck_ fX5 (some .boolean) cX5_readOrder 47 [.ireturn] 48 = true := qck_r (by decide) (by decide +kernel)
theorem bs_X5_readOrder_e_47 {P : Zt → Option Zv → Prop} (K : Int → Zl → List Zv → Zt → Prop) : sx_ K P [.ireturn] 48 = x_ireturn P := (xe_ireturn)
theorem bk_X5_readOrder_e_48 : ck_ fX5 (some .boolean) cX5_readOrder 48 [.iload 1, .iconst 1, .iload 3, .ishl, .ior, .istore 1, .aload 0, .tableswitch 0 5 5 #[], .iload 2, .iload 3, .iastore, .aload 0, .tableswitch 0 5 4 #[], .iconst 4, .iload 2, .iconst 1, .iadd, .iastore, .aload 0] 71 = true := qck_r (by decide) (by decide +kernel)
theorem bs_X5_readOrder_e_48 {P : Zt → Option Zv → Prop} (K : Int → Zl → List Zv → Zt → Prop) : sx_ K P [.iload 1, .iconst 1, .iload 3, .ishl, .ior, .istore 1, .aload 0, .tableswitch 0 5 5 #[], .iload 2, .iload 3, .iastore, .aload 0, .tableswitch 0 5 4 #[], .iconst 4, .iload 2, .iconst 1, .iadd, .iastore, .aload 0] 71 = x_iload 1 (x_iconst 1 (x_iload 3 (x_ishl (x_ior (x_istore 1 (x_aload 0 (x_g1 105 505 (x_iload 2 (x_iload 3 (x_iastore (x_aload 0 (x_g1 105 504 (x_iconst 4 (x_iload 2 (x_iconst 1 (x_iadd (x_iastore (x_aload 0 (K 71))))))))))))))))))) := ((xe_iload 1).trans (congrArg (x_iload 1) ((xe_iconst 1).trans (congrArg (x_iconst 1) ((xe_iload 3).trans (congrArg (x_iload 3) ((xe_ishl).trans (congrArg (x_ishl) ((xe_ior).trans (congrArg (x_ior) ((xe_istore 1).trans (congrArg (x_istore 1) ((xe_aload 0).trans (congrArg (x_aload 0) ((xe_g1 (kk := 105) rfl tl_5_5).trans (congrArg (x_g1 105 505) ((xe_iload 2).trans (congrArg (x_iload 2) ((xe_iload 3).trans (congrArg (x_iload 3) ((xe_iastore).trans (congrArg (x_iastore) ((xe_aload 0).trans (congrArg (x_aload 0) ((xe_g1 (kk := 105) rfl tl_5_4).trans (congrArg (x_g1 105 504) ((xe_iconst 4).trans (congrArg (x_iconst 4) ((xe_iload 2).trans (congrArg (x_iload 2) ((xe_iconst 1).trans (congrArg (x_iconst 1) ((xe_iadd).trans (congrArg (x_iadd) ((xe_iastore).trans (congrArg (x_iastore) ((xe_aload 0).trans (congrArg (x_aload 0) xe_nil))))))))))))))))))))))))))))))))))))))
theorem bk_X5_readOrder_e_74 : ck_ fX5 (some .boolean) cX5_readOrder 74 [.aload 0, .tableswitch 0 5 7 #[], .iconst 4, .if_icmp .eq 88, .aload 0, .iconst 3] 84 = true := qck_r (by decide) (by decide +kernel)
theorem bs_X5_readOrder_e_74 {P : Zt → Option Zv → Prop} (K : Int → Zl → List Zv → Zt → Prop) : sx_ K P [.aload 0, .tableswitch 0 5 7 #[], .iconst 4, .if_icmp .eq 88, .aload 0, .iconst 3] 84 = x_aload 0 (x_g0 105 7 0 5 (x_iconst 4 (x_if_icmp .eq 88 K (x_aload 0 (x_iconst 3 (K 84)))))) := ((xe_aload 0).trans (congrArg (x_aload 0) ((xe_g0 (kk := 105) rfl tl_5_7).trans (congrArg (x_g0 105 7 0 5) ((xe_iconst 4).trans (congrArg (x_iconst 4) ((xe_if_icmp .eq 88).trans (congrArg (x_if_icmp .eq 88 K) ((xe_aload 0).trans (congrArg (x_aload 0) ((xe_iconst 3).trans (congrArg (x_iconst 3) xe_nil))))))))))))
theorem bk_X5_readOrder_e_88 : ck_ fX5 (some .boolean) cX5_readOrder 88 [.iinc 2 1, .goto 4] 94 = true := qck_r (by decide) (by decide +kernel)
theorem bs_X5_readOrder_e_88 {P : Zt → Option Zv → Prop} (K : Int → Zl → List Zv → Zt → Prop) : sx_ K P [.iinc 2 1, .goto 4] 94 = x_iinc 2 1 (x_goto 4 K) := ((xe_iinc 2 1).trans (congrArg (x_iinc 2 1) (xe_goto 4)))
theorem bk_X5_readOrder_e_87 : ck_ fX5 (some .boolean) cX5_readOrder 87 [.ireturn] 88 = true := qck_r (by decide) (by decide +kernel)
theorem bs_X5_readOrder_e_87 {P : Zt → Option Zv → Prop} (K : Int → Zl → List Zv → Zt → Prop) : sx_ K P [.ireturn] 88 = x_ireturn P := (xe_ireturn)
theorem bk_X5_readOrder_e_0 : ck_ fX5 (some .boolean) cX5_readOrder 0 [.iconst 0, .istore 1, .iconst 0, .istore 2] 4 = true := qck_r (by decide) (by decide +kernel)
theorem bs_X5_readOrder_e_0 {P : Zt → Option Zv → Prop} (K : Int → Zl → List Zv → Zt → Prop) : sx_ K P [.iconst 0, .istore 1, .iconst 0, .istore 2] 4 = x_iconst 0 (x_istore 1 (x_iconst 0 (x_istore 2 (K 4)))) := ((xe_iconst 0).trans (congrArg (x_iconst 0) ((xe_istore 1).trans (congrArg (x_istore 1) ((xe_iconst 0).trans (congrArg (x_iconst 0) ((xe_istore 2).trans (congrArg (x_istore 2) xe_nil))))))))
abbrev po_X5_readOrder_e (T : Zt) (v : Int → Int) : Zt → Option Zv → Prop := fun T' r => ∃ x : Int, r = some (vI x) ∧ fr_ [(105, [7, 8, 9, 2, 3]), (504, []), (505, [])] T T' ∧ ((x = 0 ∧ orf9_ 9 (cl9_ (T 105 0 1) (fun j => T 500 0 j)) (T 105 0 1) (T 105 0 9) (fun _ => 0) 0 (ov9_ v) = Sum.inl (T' 105 0 2, T' 105 0 3)) ∨ (x = 1 ∧ HO9_ (orf9_ 9 (cl9_ (T 105 0 1) (fun j => T 500 0 j)) (T 105 0 1) (T 105 0 9) (fun _ => 0) 0 (ov9_ v)) T' ∧ T' 105 0 2 = T 105 0 2 ∧ T' 105 0 3 = T 105 0 3 ∧ T 105 0 9 ≤ T' 105 0 9 ∧ T' 105 0 9 ≤ T 105 0 1))
set_option maxHeartbeats 4000000 in
theorem ct_X5_readOrder_e {T : Zt} {v : Int → Int} (h9 : T 105 0 9 ≤ T 105 0 1) (hv : VH9_ T v) : Ct_ yX5_readOrder zX5_readOrder T [vR 105 0] (po_X5_readOrder_e T v) := by
  refine ct_of (by decide) rfl rfl (Nat.le_of_ble_eq_true rfl) (fun hT hav => ?_)
  have hz : zX5_readOrder.2.2.2.1 = some .boolean → ∀ (T' : Zt) (x : Int), po_X5_readOrder_e T v T' (some (vI x)) → 0 ≤ x ∧ x ≤ 1 := fun _ T' x h => by obtain ⟨y, e, -, hy⟩ := h; cases e; omega
  have hln : 0 ≤ T 105 0 1 ∧ T 105 0 1 ≤ 400 := bd_f hT 105 1 (by decide +kernel : (tf_ 105)[1]? = some (0, 0, 0, 400)) 0
  have hte : 0 ≤ T 105 0 9 ∧ T 105 0 9 ≤ 400 := bd_f hT 105 9 (by decide +kernel : (tf_ 105)[9]? = some (0, 0, 0, 400)) 0
  show J_ zX5_readOrder T (po_X5_readOrder_e T v) 0 0 0 [some (vR 105 0), none, none, none] [] T
  have c_4 : ∀ (nn : Nat) (kb : Int) (k : Int) (t : Int → Int) (u : Int → Int) (T1 : Zt), ((8 - k).toNat) ≤ nn → (fr_ [(105, [7, 8, 9, 2, 3]), (504, []), (505, [])] T T1) → (0 ≤ k ∧ k ≤ 7 ∧ T1 105 0 9 ≤ T 105 0 1 ∧ T 105 0 9 ≤ T1 105 0 9 ∧ T1 105 0 2 = T 105 0 2 ∧ T1 105 0 3 = T 105 0 3) → (BT9_ kb t) → (KS9_ t k) → (VO9_ T1 u k) → (orf9_ 9 (cl9_ (T 105 0 1) (fun j => T 500 0 j)) (T 105 0 1) (T 105 0 9) (fun _ => 0) 0 (ov9_ v) = orf9_ ((8 - k).toNat + 1) (cl9_ (T 105 0 1) (fun j => T 500 0 j)) (T 105 0 1) (T1 105 0 9) t k u) → J_ zX5_readOrder T (po_X5_readOrder_e T v) 0 0 4 [some (vR 105 0), some (vI kb), some (vI k), none] [] T1 := by
    intro nn
    induction nn using Nat.strongRecOn with
    | _ nn ih_4 =>
      intro kb k t u T1 hm_4 hf_4 i1 ib ik io ir
      refine j_blx (F := fX5) tb_X5 (by decide) bk_X5_readOrder_e_4 bs_X5_readOrder_e_4 hz (fun K hK => ?_)
      refine And.intro (fun c1 => ?_) (fun c1 => ?_)
      · exact absurd c1 (by omega)
      · refine hK 11 [some (vR 105 0), some (vI kb), some (vI k), none] [vR 105 0] T1 ?_
        have e2 : T1 105 0 1 = T 105 0 1 := hf_4 105 0 1 rfl
        refine j_callV (y := yX5_nextToken) (Yc := zX5_nextToken) (rest := []) [] (ct_X5_nextToken_e (T := T1) (by omega)) cl_X5_43 (qd_c (by decide +kernel)) (by decide) rfl (by decide +kernel) (Nat.le_of_ble_eq_true rfl) (by decide) (by decide) rfl ?_
        rintro U3 _ ⟨rfl, fU3, qU3⟩
        show J_ zX5_readOrder T (po_X5_readOrder_e T v) 0 0 14 [some (vR 105 0), some (vI kb), some (vI k), none] [] U3
        have fb4 : fr_ [(105, [7, 8, 9, 2, 3]), (504, []), (505, [])] T T1 := fr_t (fr_0 _ _) (fr_s hf_4 rfl)
        have toU3 := qU3
        rw [show (fun j => T1 500 0 j) = fun j => T 500 0 j from funext fun j => fb4 500 0 j rfl, show T1 105 0 1 = T 105 0 1 from fb4 105 0 1 rfl] at toU3
        have trU3 := tk9_r toU3
        refine j_blx (F := fX5) tb_X5 (by decide) bk_X5_readOrder_e_14 bs_X5_readOrder_e_14 hz (fun K hK => ?_)
        refine hK 15 [some (vR 105 0), some (vI kb), some (vI k), none] [vR 105 0] U3 ?_
        refine j_ldcS (pc := 15) (i := 2) (by decide) rfl (by decide) rfl (by decide +kernel) ?_
        show J_ zX5_readOrder T (po_X5_readOrder_e T v) 0 0 17 [some (vR 105 0), some (vI kb), some (vI k), none] [vR 82 2, vR 105 0] U3
        refine j_callV (y := yX5_wordOf) (Yc := zX5_wordOf) (rest := []) [vR 82 2] (ct_X5_wordOf_e2 (T := U3) (by omega)) cl_X5_55 (qd_c (by decide +kernel)) (by decide) rfl (by decide +kernel) (Nat.le_of_ble_eq_true rfl) (by decide) (by decide) rfl ?_
        rintro U5 _ ⟨x6, rfl, fU5, qU5⟩
        show J_ zX5_readOrder T (po_X5_readOrder_e T v) 0 0 20 [some (vR 105 0), some (vI kb), some (vI k), none] [vI x6] U5
        refine j_blx (F := fX5) tb_X5 (by decide) bk_X5_readOrder_e_20 bs_X5_readOrder_e_20 hz (fun K hK => ?_)
        refine And.intro (fun c7 => ?_) (fun c7 => ?_)
        · refine hK 28 [some (vR 105 0), some (vI kb), some (vI k), some (vI x6)] [] U5 ?_
          have hw := qU5
          have fb8 : fr_ [(105, [7, 8, 9, 2, 3]), (504, []), (505, [])] T U3 := fr_t (fr_t (fr_0 _ _) (fr_s hf_4 rfl)) (fr_s fU3 rfl)
          rw [show (fun j => U3 500 0 j) = fun j => T 500 0 j from funext fun j => fb8 500 0 j rfl] at hw
          have hvw := wof9_h ds9_2 toU3 (by omega) hw
          have hwi := (hvw.resolve_left (fun z => by omega)).2.1
          have hwj := (hvw.resolve_left (fun z => by omega)).1
          have hbx := ib.2 x6 (by omega) (by omega)
          have hks := ks9_b ik
          refine j_blx (F := fX5) tb_X5 (by decide) bk_X5_readOrder_e_28 bs_X5_readOrder_e_28 hz (fun K hK => ?_)
          intro w9 w9b
          intro w10 w10b
          refine And.intro (fun c11 => ?_) (fun c11 => ?_)
          · refine hK 42 [some (vR 105 0), some (vI kb), some (vI k), some (vI x6)] [] U5 ?_
            refine j_blx (F := fX5) tb_X5 (by decide) bk_X5_readOrder_e_42 bs_X5_readOrder_e_42 hz (fun K hK => ?_)
            refine hK 44 [some (vR 105 0), some (vI kb), some (vI k), some (vI x6)] [vI 5, vR 105 0] U5 ?_
            refine j_callV (y := yX5_fail) (Yc := zX5_fail) (rest := []) [vI 5] (ct_X5_fail_e (T := U5) (by omega)) cl_X5_59 (qd_c (by decide +kernel)) (by decide) rfl (by decide +kernel) (Nat.le_of_ble_eq_true rfl) (by decide) (by decide) rfl ?_
            rintro U12 _ ⟨x13, rfl, fU12, qU12⟩
            show J_ zX5_readOrder T (po_X5_readOrder_e T v) 0 0 47 [some (vR 105 0), some (vI kb), some (vI k), some (vI x6)] [vI x13] U12
            refine j_blx (F := fX5) tb_X5 (by decide) bk_X5_readOrder_e_47 bs_X5_readOrder_e_47 hz (fun K hK => ?_)
            refine (show po_X5_readOrder_e T v U12 (some (vI x13)) from ?_)
            have e14 : U12 105 0 9 = U3 105 0 9 := (fU12 105 0 9 rfl).trans (fU5 105 0 9 rfl)
            have e8U5 := fU5 105 0 8 rfl
            have hx1 : t x6 ≠ 0 := by first | omega | exact ks9_7 ik (by omega) (by omega) (by omega)
            refine ⟨_, rfl, fr_t (fr_t (fr_t (fr_t (fr_0 _ _) (fr_s hf_4 rfl)) (fr_s fU3 rfl)) (fr_s fU5 rfl)) (fr_s fU12 rfl), Or.inl ⟨by omega, ir.trans ?_⟩⟩
            rw [show U12 105 0 2 = 5 by omega, show U12 105 0 3 = U3 105 0 8 by omega]
            exact orf9_5 hwi toU3 (by omega) hx1
          · refine And.intro (fun c15 => ?_) (fun c15 => ?_)
            · refine hK 48 [some (vR 105 0), some (vI kb), some (vI k), some (vI x6)] [] U5 ?_
              have hx0 : t x6 = 0 := by omega
              have hbu := bt9_u ib (s := x6) (by omega) (by omega)
              refine j_blx (F := fX5) tb_X5 (by decide) bk_X5_readOrder_e_48 bs_X5_readOrder_e_48 hz (fun K hK => ?_)
              intro w16 w16b
              intro w17 w17b
              refine iy_i (by omega) (by omega) ?_
              refine x_nm (fun U18 hU18 => ?_)
              have e19 := up_f hU18
              refine rg_i (by omega) ?_
              refine iy_i (by omega) (by omega) ?_
              refine x_nm (fun U20 hU20 => ?_)
              have e21 := up_f hU20
              refine hK 71 [some (vR 105 0), some (vI (or_ kb (sl_ 1 x6))), some (vI k), some (vI x6)] [vR 105 0] U20 ?_
              have vo := vo9_s (T' := U20) (x := x6) io (by omega) (fun j hj => (up_g hU20 (fun z => hj z.2.2)).trans ((up_k hU18 (by decide) 0 j).trans ((show fr_ [(105, [2, 3, 7, 8, 9])] T1 U5 from fr_t (fr_t (fr_0 _ _) (fr_s fU3 rfl)) (fr_s fU5 rfl)) 504 0 j rfl))) (up_f hU20) (fun j hj => (up_k hU20 (by decide) 0 j).trans ((up_g hU18 (fun z => hj z.2.2)).trans ((show fr_ [(105, [2, 3, 7, 8, 9])] T1 U5 from fr_t (fr_t (fr_0 _ _) (fr_s fU3 rfl)) (fr_s fU5 rfl)) 505 0 j rfl))) ((up_k hU20 (by decide) 0 k).trans (up_f hU18))
              have e22 : U20 105 0 9 = U3 105 0 9 := (up_k hU20 (by decide) 0 9).trans ((up_k hU18 (by decide) 0 9).trans (fU5 105 0 9 rfl))
              have e23 : U20 105 0 1 = T 105 0 1 := (up_k hU20 (by decide) 0 1).trans ((up_k hU18 (by decide) 0 1).trans ((fU5 105 0 1 rfl).trans ((fU3 105 0 1 rfl).trans (hf_4 105 0 1 rfl))))
              refine j_callV (y := yX5_nextToken) (Yc := zX5_nextToken) (rest := []) [] (ct_X5_nextToken_e (T := U20) (by omega)) cl_X5_43 (qd_c (by decide +kernel)) (by decide) rfl (by decide +kernel) (Nat.le_of_ble_eq_true rfl) (by decide) (by decide) rfl ?_
              rintro U24 _ ⟨rfl, fU24, qU24⟩
              show J_ zX5_readOrder T (po_X5_readOrder_e T v) 0 0 74 [some (vR 105 0), some (vI (or_ kb (sl_ 1 x6))), some (vI k), some (vI x6)] [] U24
              have fb25 : fr_ [(504, []), (505, []), (105, [2, 3, 7, 8, 9])] T U20 := fr_u (fr_u (fr_t (fr_t (fr_t (fr_0 _ _) (fr_s hf_4 rfl)) (fr_s fU3 rfl)) (fr_s fU5 rfl)) hU18 rfl) hU20 rfl
              have toU24 := qU24
              rw [show (fun j => U20 500 0 j) = fun j => T 500 0 j from funext fun j => fb25 500 0 j rfl, show U20 105 0 1 = T 105 0 1 from fb25 105 0 1 rfl] at toU24
              have trU24 := tk9_r toU24
              have e9U24 : U20 105 0 9 = U3 105 0 9 := by omega
              rw [e9U24] at toU24
              refine j_blx (F := fX5) tb_X5 (by decide) bk_X5_readOrder_e_74 bs_X5_readOrder_e_74 hz (fun K hK => ?_)
              intro b26 b26b
              refine And.intro (fun c27 => ?_) (fun c27 => ?_)
              · refine hK 88 [some (vR 105 0), some (vI (or_ kb (sl_ 1 x6))), some (vI k), some (vI x6)] [] U24 ?_
                refine j_blx (F := fX5) tb_X5 (by decide) bk_X5_readOrder_e_88 bs_X5_readOrder_e_88 hz (fun K hK => ?_)
                refine rg_i (by omega) ?_
                refine hK 4 [some (vR 105 0), some (vI (or_ kb (sl_ 1 x6))), some (vI (k + 1)), some (vI x6)] [] U24 ?_
                refine j_drop [some (vR 105 0), some (vI (or_ kb (sl_ 1 x6))), some (vI (k + 1)), none] (fun k v hk => ?_) rfl ?_
                · match k, hk with
                  | 0, hk => exact hk
                  | 1, hk => exact hk
                  | 2, hk => exact hk
                  | 3, hk => cases hk
                  | k + 4, hk => cases hk
                have e28 : U24 105 0 2 = U5 105 0 2 := (fU24 105 0 2 rfl).trans ((up_k hU20 (by decide) 0 2).trans (up_k hU18 (by decide) 0 2))
                have e29 : U24 105 0 3 = U5 105 0 3 := (fU24 105 0 3 rfl).trans ((up_k hU20 (by decide) 0 3).trans (up_k hU18 (by decide) 0 3))
                refine ih_4 _ ?_ (or_ kb (sl_ 1 x6)) (k + 1) (u9_ t x6 1) (u9_ (u9_ u (16 + k) x6) 4 (k + 1)) U24 (Nat.le_refl _) ?_ ?_ ?_ ?_ ?_ ?_
                · omega
                · exact fr_t (fr_u (fr_u (fr_t (fr_t (fr_t (fr_0 _ _) (fr_s hf_4 rfl)) (fr_s fU3 rfl)) (fr_s fU5 rfl)) hU18 rfl) hU20 rfl) (fr_s fU24 rfl)
                · have y2 : U24 105 0 2 = U5 105 0 2 := (fU24 105 0 2 rfl).trans ((up_k hU20 (by decide) 0 2).trans (up_k hU18 (by decide) 0 2))
                  have z2 : U3 105 0 2 = T1 105 0 2 := fU3 105 0 2 rfl
                  have y3 : U24 105 0 3 = U5 105 0 3 := (fU24 105 0 3 rfl).trans ((up_k hU20 (by decide) 0 3).trans (up_k hU18 (by decide) 0 3))
                  have z3 : U3 105 0 3 = T1 105 0 3 := fU3 105 0 3 rfl
                  have y1 := (hvw.resolve_left (fun z => by omega)).2.2
                  omega
                · exact bt9_u ib (by omega) (by omega)
                · exact ks9_s ik (by omega) (by omega) hx0
                · exact VO9_f vo fU24 (fun _ => rfl) (fun _ => rfl)
                · rw [ir, orf9_k hwi hx0 toU24 (by omega) (by omega), show (8 - k).toNat = (8 - (k + 1)).toNat + 1 by omega]
              · refine hK 84 [some (vR 105 0), some (vI (or_ kb (sl_ 1 x6))), some (vI k), some (vI x6)] [vI 3, vR 105 0] U24 ?_
                refine j_callV (y := yX5_isOfKind) (Yc := zX5_isOfKind) (rest := []) [vI 3] (ct_X5_isOfKind_e (T := U24)) cl_X5_79 (qd_c (by decide +kernel)) (by decide) rfl (by decide +kernel) (Nat.le_of_ble_eq_true rfl) (by decide) (by decide) rfl ?_
                rintro U30 _ ⟨x31, rfl, fU30, qU30⟩
                show J_ zX5_readOrder T (po_X5_readOrder_e T v) 0 0 87 [some (vR 105 0), some (vI (or_ kb (sl_ 1 x6))), some (vI k), some (vI x6)] [vI x31] U30
                refine j_blx (F := fX5) tb_X5 (by decide) bk_X5_readOrder_e_87 bs_X5_readOrder_e_87 hz (fun K hK => ?_)
                refine (show po_X5_readOrder_e T v U30 (some (vI x31)) from ?_)
                have e32 : U30 105 0 9 = U24 105 0 9 := fU30 105 0 9 rfl
                have hsm := smf9_h toU24 (by omega) qU30
                have os := orf9_s (c := k) (v := u) (f := (8 - k).toNat) hwi hx0 toU24 (by omega) (by omega)
                rcases hsm with ⟨z1, z2⟩ | ⟨z1, z2, z3, z4⟩
                · exact ⟨_, rfl, fr_t (fr_t (fr_u (fr_u (fr_t (fr_t (fr_t (fr_0 _ _) (fr_s hf_4 rfl)) (fr_s fU3 rfl)) (fr_s fU5 rfl)) hU18 rfl) hU20 rfl) (fr_s fU24 rfl)) (fr_s fU30 rfl), Or.inl ⟨z1, ir.trans (os.trans (bn9_l z2))⟩⟩
                · have w9 : U30 105 0 9 = U24 105 0 9 := fU30 105 0 9 rfl
                  have vh := vo9_e (VO9_f (VO9_f vo fU24 (fun _ => rfl) (fun _ => rfl)) fU30 (fun _ => rfl) (fun _ => rfl)) (by omega)
                  refine ⟨_, rfl, fr_t (fr_t (fr_u (fr_u (fr_t (fr_t (fr_t (fr_0 _ _) (fr_s hf_4 rfl)) (fr_s fU3 rfl)) (fr_s fU5 rfl)) hU18 rfl) hU20 rfl) (fr_s fU24 rfl)) (fr_s fU30 rfl), Or.inr ⟨z1, ⟨_, ?_, vh⟩, ?_, ?_, by omega, by omega⟩⟩
                  · rw [w9]
                    exact ir.trans (os.trans (bn9_r z2))
                  · have y0 : U24 105 0 2 = U5 105 0 2 := (fU24 105 0 2 rfl).trans ((up_k hU20 (by decide) 0 2).trans (up_k hU18 (by decide) 0 2))
                    have y1 := (hvw.resolve_left (fun z => by omega)).2.2
                    have y2 : U3 105 0 2 = T1 105 0 2 := fU3 105 0 2 rfl
                    omega
                  · have y0 : U24 105 0 3 = U5 105 0 3 := (fU24 105 0 3 rfl).trans ((up_k hU20 (by decide) 0 3).trans (up_k hU18 (by decide) 0 3))
                    have y1 := (hvw.resolve_left (fun z => by omega)).2.2
                    have y2 : U3 105 0 3 = T1 105 0 3 := fU3 105 0 3 rfl
                    omega
            · refine hK 44 [some (vR 105 0), some (vI kb), some (vI k), some (vI x6)] [vI 5, vR 105 0] U5 ?_
              refine j_callV (y := yX5_fail) (Yc := zX5_fail) (rest := []) [vI 5] (ct_X5_fail_e (T := U5) (by omega)) cl_X5_59 (qd_c (by decide +kernel)) (by decide) rfl (by decide +kernel) (Nat.le_of_ble_eq_true rfl) (by decide) (by decide) rfl ?_
              rintro U33 _ ⟨x34, rfl, fU33, qU33⟩
              show J_ zX5_readOrder T (po_X5_readOrder_e T v) 0 0 47 [some (vR 105 0), some (vI kb), some (vI k), some (vI x6)] [vI x34] U33
              refine j_blx (F := fX5) tb_X5 (by decide) bk_X5_readOrder_e_47 bs_X5_readOrder_e_47 hz (fun K hK => ?_)
              refine (show po_X5_readOrder_e T v U33 (some (vI x34)) from ?_)
              have e35 : U33 105 0 9 = U3 105 0 9 := (fU33 105 0 9 rfl).trans (fU5 105 0 9 rfl)
              have e8U5 := fU5 105 0 8 rfl
              have hx1 : t x6 ≠ 0 := by first | omega | exact ks9_7 ik (by omega) (by omega) (by omega)
              refine ⟨_, rfl, fr_t (fr_t (fr_t (fr_t (fr_0 _ _) (fr_s hf_4 rfl)) (fr_s fU3 rfl)) (fr_s fU5 rfl)) (fr_s fU33 rfl), Or.inl ⟨by omega, ir.trans ?_⟩⟩
              rw [show U33 105 0 2 = 5 by omega, show U33 105 0 3 = U3 105 0 8 by omega]
              exact orf9_5 hwi toU3 (by omega) hx1
        · refine (show po_X5_readOrder_e T v U5 (some (vI 0)) from ?_)
          have e36 : U5 105 0 9 = U3 105 0 9 := fU5 105 0 9 rfl
          have hw := qU5
          have fb37 : fr_ [(105, [7, 8, 9, 2, 3]), (504, []), (505, [])] T U3 := fr_t (fr_t (fr_0 _ _) (fr_s hf_4 rfl)) (fr_s fU3 rfl)
          rw [show (fun j => U3 500 0 j) = fun j => T 500 0 j from funext fun j => fb37 500 0 j rfl] at hw
          have hvw := wof9_h ds9_2 toU3 (by omega) hw
          exact ⟨_, rfl, fr_t (fr_t (fr_t (fr_0 _ _) (fr_s hf_4 rfl)) (fr_s fU3 rfl)) (fr_s fU5 rfl), Or.inl ⟨rfl, ir.trans (orf9_w (hvw.resolve_right (fun z => by omega)).2)⟩⟩
  refine j_blx (F := fX5) tb_X5 (by decide) bk_X5_readOrder_e_0 bs_X5_readOrder_e_0 hz (fun K hK => ?_)
  refine hK 4 [some (vR 105 0), some (vI 0), some (vI 0), none] [] T ?_
  refine c_4 _ 0 0 (fun _ => 0) (ov9_ v) T (Nat.le_refl _) ?_ ?_ ?_ ?_ ?_ ?_
  · exact fr_0 _ _
  · omega
  · exact bt9_0
  · exact ks9_0
  · exact vo9_0 hv
  · rw [show (((8 : Int) - 0).toNat + 1) = 9 from rfl]

