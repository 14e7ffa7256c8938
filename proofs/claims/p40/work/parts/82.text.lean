abbrev cX5_readStatement : ByteArray := prog_7_method_3_code
def yX5_readStatement : MethodName := ⟨RX5, "readStatement", "()Z"⟩
def zX5_readStatement : Zm := (RX5, cX5_readStatement, 3, (some .boolean), { frames := 6, cells := 0, slots := 0, locals := 133 })
theorem bk_X5_readStatement_124 : ck_ fX5 (some .boolean) cX5_readStatement 124 [.iload 2, .ifCond .ne 130, .iconst 0, .ireturn] 130 = true := by decide +kernel
theorem bk_X5_readStatement_130 : ck_ fX5 (some .boolean) cX5_readStatement 130 [.aload 0] 131 = true := by decide +kernel
theorem bk_X5_readStatement_134 : ck_ fX5 (some .boolean) cX5_readStatement 134 [.aload 0, .iconst 3] 136 = true := by decide +kernel
theorem bk_X5_readStatement_139 : ck_ fX5 (some .boolean) cX5_readStatement 139 [.ireturn] 140 = true := by decide +kernel
theorem bk_X5_readStatement_0 : ck_ fX5 (some .boolean) cX5_readStatement 0 [.aload 0] 1 = true := by decide +kernel
theorem bk_X5_readStatement_6 : ck_ fX5 (some .boolean) cX5_readStatement 6 [.istore 1, .iload 1, .iconst (-1), .if_icmp .ne 14, .iconst 0, .ireturn] 14 = true := by decide +kernel
theorem bk_X5_readStatement_14 : ck_ fX5 (some .boolean) cX5_readStatement 14 [.aload 0, .tableswitch 0 5 6 #[], .iload 1, .ishr, .iconst 1, .iand, .ifCond .eq 31, .aload 0, .iconst 5] 27 = true := by decide +kernel
theorem bk_X5_readStatement_31 : ck_ fX5 (some .boolean) cX5_readStatement 31 [.aload 0, .dup, .tableswitch 0 5 6 #[], .iconst 1, .iload 1, .ishl, .ior, .tableswitch 1 5 6 #[], .iload 1] 44 = true := by decide +kernel
theorem ds_X5_readStatement_44 : decode cX5_readStatement 44 = .ok (.tableswitch 65 0 3 #[32, 40, 48, 53], 32) := by decide +kernel
theorem bk_X5_readStatement_76 : ck_ fX5 (some .boolean) cX5_readStatement 76 [.aload 0] 77 = true := by decide +kernel
theorem cl_X5_63 : cv_ RX5 63 yX5_readSport zX5_readSport 5 0 := ⟨gi_V (lw_at 523 (by decide +kernel) rfl : Cond.methodLink RX5 63 yX5_readSport ∈ lw_g) (lw_at 525 (by decide +kernel) rfl : Cond.instanceMethod yX5_readSport ∈ lw_g) (lw_sel 115 rfl : Cond.selects yX5_readSport.cls yX5_readSport yX5_readSport ∈ lw_g) (lw_at 2 (by decide +kernel) rfl : Cond.initialized yX5_readSport.cls ∈ lw_g) (lw_at 526 (by decide +kernel) rfl : Cond.code yX5_readSport cX5_readSport 2 (some .boolean) ∈ lw_g), ⟨by decide, by decide, by decide +kernel⟩, ⟨_, _, rfl⟩⟩
theorem bk_X5_readStatement_80 : ck_ fX5 (some .boolean) cX5_readStatement 80 [.istore 2, .goto 124] 84 = true := by decide +kernel
theorem bk_X5_readStatement_84 : ck_ fX5 (some .boolean) cX5_readStatement 84 [.aload 0] 85 = true := by decide +kernel
theorem cl_X5_66 : cv_ RX5 66 yX5_readPoints zX5_readPoints 5 0 := ⟨gi_V (lw_at 528 (by decide +kernel) rfl : Cond.methodLink RX5 66 yX5_readPoints ∈ lw_g) (lw_at 530 (by decide +kernel) rfl : Cond.instanceMethod yX5_readPoints ∈ lw_g) (lw_sel 113 rfl : Cond.selects yX5_readPoints.cls yX5_readPoints yX5_readPoints ∈ lw_g) (lw_at 2 (by decide +kernel) rfl : Cond.initialized yX5_readPoints.cls ∈ lw_g) (lw_at 531 (by decide +kernel) rfl : Cond.code yX5_readPoints cX5_readPoints 1 (some .boolean) ∈ lw_g), ⟨by decide, by decide, by decide +kernel⟩, ⟨_, _, rfl⟩⟩
theorem bk_X5_readStatement_88 : ck_ fX5 (some .boolean) cX5_readStatement 88 [.istore 2, .goto 124] 92 = true := by decide +kernel
theorem bk_X5_readStatement_92 : ck_ fX5 (some .boolean) cX5_readStatement 92 [.aload 0] 93 = true := by decide +kernel
theorem cl_X5_69 : cv_ RX5 69 yX5_readOrder zX5_readOrder 5 0 := ⟨gi_V (lw_at 540 (by decide +kernel) rfl : Cond.methodLink RX5 69 yX5_readOrder ∈ lw_g) (lw_at 542 (by decide +kernel) rfl : Cond.instanceMethod yX5_readOrder ∈ lw_g) (lw_sel 112 rfl : Cond.selects yX5_readOrder.cls yX5_readOrder yX5_readOrder ∈ lw_g) (lw_at 2 (by decide +kernel) rfl : Cond.initialized yX5_readOrder.cls ∈ lw_g) (lw_at 543 (by decide +kernel) rfl : Cond.code yX5_readOrder cX5_readOrder 4 (some .boolean) ∈ lw_g), ⟨by decide, by decide, by decide +kernel⟩, ⟨_, _, rfl⟩⟩
theorem bk_X5_readStatement_96 : ck_ fX5 (some .boolean) cX5_readStatement 96 [.ireturn] 97 = true := by decide +kernel
theorem bk_X5_readStatement_97 : ck_ fX5 (some .boolean) cX5_readStatement 97 [.aload 0, .tableswitch 0 5 4 #[], .iconst 5, .iconst 1, .iastore, .iconst 1, .istore 2, .goto 124] 109 = true := by decide +kernel
theorem bk_X5_readStatement_109 : ck_ fX5 (some .boolean) cX5_readStatement 109 [.aload 0, .iload 1, .iconst 2, .iadd] 113 = true := by decide +kernel
theorem bk_X5_readStatement_116 : ck_ fX5 (some .boolean) cX5_readStatement 116 [.iload 1, .iconst 2, .iadd] 119 = true := by decide +kernel
theorem bk_X5_readStatement_123 : ck_ fX5 (some .boolean) cX5_readStatement 123 [.istore 2] 124 = true := by decide +kernel
theorem bk_X5_readStatement_30 : ck_ fX5 (some .boolean) cX5_readStatement 30 [.ireturn] 31 = true := by decide +kernel
abbrev po_X5_readStatement (T : Zt) : Zt → Option Zv → Prop := fun T' r => ∃ x : Int, r = some (vI x) ∧ fr_ [(105, [7, 8, 9, 2, 3, 6]), (504, []), (505, [])] T T' ∧ ((0 ≤ x ∧ x ≤ 1) ∧ (x = 1 → VC8_ T'))
set_option maxHeartbeats 4000000 in
theorem ct_X5_readStatement {T : Zt} (hvc : VC8_ T) : Ct_ yX5_readStatement zX5_readStatement T [vR 105 0] (po_X5_readStatement T) := by
  refine ct_of (by decide) rfl rfl (Nat.le_of_ble_eq_true rfl) (fun hT hav => ?_)
  have hz : zX5_readStatement.2.2.2.1 = some .boolean → ∀ (T' : Zt) (x : Int), po_X5_readStatement T T' (some (vI x)) → 0 ≤ x ∧ x ≤ 1 := fun _ T' x h => by obtain ⟨y, e, -, hy, -⟩ := h; cases e; omega
  show J_ zX5_readStatement T (po_X5_readStatement T) 0 0 0 [some (vR 105 0), none, none] [] T
  have c_124 : ∀ (v : Int) (T2 : Zt), (fr_ [(105, [7, 8, 9, 2, 3, 6]), (504, []), (505, [])] T T2) → (0 ≤ v ∧ v ≤ 1) → (v = 1 → VC8_ T2) → J_ zX5_readStatement T (po_X5_readStatement T) 0 0 124 [some (vR 105 0), none, some (vI v)] [] T2 := by
    intro v T2 hf_124 i2 vc2
    refine j_blk (F := fX5) tb_X5 (by decide) bk_X5_readStatement_124 hz (fun K hK => ?_)
    refine And.intro (fun c1 => ?_) (fun c1 => ?_)
    · refine hK 130 [some (vR 105 0), none, some (vI v)] [] T2 ?_
      refine j_blk (F := fX5) tb_X5 (by decide) bk_X5_readStatement_130 hz (fun K hK => ?_)
      refine hK 131 [some (vR 105 0), none, some (vI v)] [vR 105 0] T2 ?_
      refine j_callV (y := yX5_nextToken) (Yc := zX5_nextToken) (rest := []) [] (ct_X5_nextToken (T := T2)) cl_X5_43 (by decide +kernel) (by decide) rfl (by decide +kernel) (Nat.le_of_ble_eq_true rfl) (by decide) (by decide) rfl ?_
      rintro U2 _ ⟨rfl, fU2, qU2⟩
      show J_ zX5_readStatement T (po_X5_readStatement T) 0 0 134 [some (vR 105 0), none, some (vI v)] [] U2
      refine j_blk (F := fX5) tb_X5 (by decide) bk_X5_readStatement_134 hz (fun K hK => ?_)
      refine hK 136 [some (vR 105 0), none, some (vI v)] [vI 3, vR 105 0] U2 ?_
      refine j_callV (y := yX5_isOfKind) (Yc := zX5_isOfKind) (rest := []) [vI 3] (ct_X5_isOfKind (T := U2)) cl_X5_79 (by decide +kernel) (by decide) rfl (by decide +kernel) (Nat.le_of_ble_eq_true rfl) (by decide) (by decide) rfl ?_
      rintro U3 _ ⟨x4, rfl, fU3, qU3⟩
      show J_ zX5_readStatement T (po_X5_readStatement T) 0 0 139 [some (vR 105 0), none, some (vI v)] [vI x4] U3
      refine j_blk (F := fX5) tb_X5 (by decide) bk_X5_readStatement_139 hz (fun K hK => ?_)
      refine (show po_X5_readStatement T U3 (some (vI x4)) from ?_)
      exact ⟨_, rfl, fr_t (fr_t (fr_t (fr_0 _ _) (fr_s hf_124 rfl)) (fr_s fU2 rfl)) (fr_s fU3 rfl), by omega, fun _ => VC8_f (vc2 (by omega)) (show fr_ [(105, [7, 8, 9, 2, 3, 6])] T2 U3 from fr_t (fr_t (fr_0 _ _) (fr_s fU2 rfl)) (fr_s fU3 rfl)) (fun _ => rfl)⟩
    · refine (show po_X5_readStatement T T2 (some (vI 0)) from ?_)
      exact ⟨_, rfl, fr_t (fr_0 _ _) (fr_s hf_124 rfl), by omega, fun h => by omega⟩
  refine j_blk (F := fX5) tb_X5 (by decide) bk_X5_readStatement_0 hz (fun K hK => ?_)
  refine hK 1 [some (vR 105 0), none, none] [vR 105 0] T ?_
  refine j_ldcS (pc := 1) (i := 0) (by decide) rfl (by decide) rfl (by decide +kernel) ?_
  show J_ zX5_readStatement T (po_X5_readStatement T) 0 0 3 [some (vR 105 0), none, none] [vR 82 0, vR 105 0] T
  refine j_callV (y := yX5_wordOf) (Yc := zX5_wordOf) (rest := []) [vR 82 0] (ct_X5_wordOf_0 (T := T)) cl_X5_55 (by decide +kernel) (by decide) rfl (by decide +kernel) (Nat.le_of_ble_eq_true rfl) (by decide) (by decide) rfl ?_
  rintro U5 _ ⟨x6, rfl, fU5, qU5⟩
  show J_ zX5_readStatement T (po_X5_readStatement T) 0 0 6 [some (vR 105 0), none, none] [vI x6] U5
  refine j_blk (F := fX5) tb_X5 (by decide) bk_X5_readStatement_6 hz (fun K hK => ?_)
  refine And.intro (fun c7 => ?_) (fun c7 => ?_)
  · refine hK 14 [some (vR 105 0), some (vI x6), none] [] U5 ?_
    refine j_blk (F := fX5) tb_X5 (by decide) bk_X5_readStatement_14 hz (fun K hK => ?_)
    intro b8 b8b
    have e9 : U5 105 0 6 = T 105 0 6 := fU5 105 0 6 rfl
    rw [e9] at b8 b8b ⊢
    intro w10 w10b
    intro w11 w11b
    refine And.intro (fun c12 => ?_) (fun c12 => ?_)
    · refine hK 31 [some (vR 105 0), some (vI x6), none] [] U5 ?_
      refine j_blk (F := fX5) tb_X5 (by decide) bk_X5_readStatement_31 hz (fun K hK => ?_)
      intro b13 b13b
      have e14 : U5 105 0 6 = T 105 0 6 := fU5 105 0 6 rfl
      rw [e14] at b13 b13b ⊢
      intro w15 w15b
      intro w16 w16b
      refine bd_i (by omega) ?_
      refine sx_nm (fun U17 hU17 => ?_)
      have e18 := up_f hU17
      refine hK 44 [some (vR 105 0), some (vI x6), none] [vI x6] U17 ?_
      by_cases z19_0 : x6 = 0
      · refine j_tsI (pc := 44) 0 (off := 32) (tgt := 76) (by decide) ds_X5_readStatement_44 (by omega) (by decide) rfl (by decide) (by decide) ?_
        refine j_blk (F := fX5) tb_X5 (by decide) bk_X5_readStatement_76 hz (fun K hK => ?_)
        refine hK 77 [some (vR 105 0), some (vI x6), none] [vR 105 0] U17 ?_
        refine j_callV (y := yX5_readSport) (Yc := zX5_readSport) (rest := []) [] (ct_X5_readSport (T := U17) (VC8_f hvc (show fr_ [(105, [7, 8, 9, 2, 3, 6])] T U17 from fr_u (fr_t (fr_0 _ _) (fr_s fU5 rfl)) hU17 rfl) (fun _ => rfl))) cl_X5_63 (by decide +kernel) (by decide) rfl (by decide +kernel) (Nat.le_of_ble_eq_true rfl) (by decide) (by decide) rfl ?_
        rintro U20 _ ⟨x21, rfl, fU20, hx21, qU20⟩
        show J_ zX5_readStatement T (po_X5_readStatement T) 0 0 80 [some (vR 105 0), some (vI x6), none] [vI x21] U20
        refine j_blk (F := fX5) tb_X5 (by decide) bk_X5_readStatement_80 hz (fun K hK => ?_)
        refine hK 124 [some (vR 105 0), some (vI x6), some (vI x21)] [] U20 ?_
        refine j_drop [some (vR 105 0), none, some (vI x21)] (fun k v hk => ?_) rfl ?_
        · match k, hk with
          | 0, hk => exact hk
          | 1, hk => cases hk
          | 2, hk => exact hk
          | k + 3, hk => cases hk
        refine c_124 x21 U20 ?_ ?_ ?_
        · exact fr_t (fr_u (fr_t (fr_0 _ _) (fr_s fU5 rfl)) hU17 rfl) (fr_s fU20 rfl)
        · omega
        · exact qU20
      by_cases z19_1 : x6 = 1
      · refine j_tsI (pc := 44) 1 (off := 40) (tgt := 84) (by decide) ds_X5_readStatement_44 (by omega) (by decide) rfl (by decide) (by decide) ?_
        refine j_blk (F := fX5) tb_X5 (by decide) bk_X5_readStatement_84 hz (fun K hK => ?_)
        refine hK 85 [some (vR 105 0), some (vI x6), none] [vR 105 0] U17 ?_
        refine j_callV (y := yX5_readPoints) (Yc := zX5_readPoints) (rest := []) [] (ct_X5_readPoints (T := U17) (VC8_f hvc (show fr_ [(105, [7, 8, 9, 2, 3, 6])] T U17 from fr_u (fr_t (fr_0 _ _) (fr_s fU5 rfl)) hU17 rfl) (fun _ => rfl))) cl_X5_66 (by decide +kernel) (by decide) rfl (by decide +kernel) (Nat.le_of_ble_eq_true rfl) (by decide) (by decide) rfl ?_
        rintro U22 _ ⟨x23, rfl, fU22, hx23, qU22⟩
        show J_ zX5_readStatement T (po_X5_readStatement T) 0 0 88 [some (vR 105 0), some (vI x6), none] [vI x23] U22
        refine j_blk (F := fX5) tb_X5 (by decide) bk_X5_readStatement_88 hz (fun K hK => ?_)
        refine hK 124 [some (vR 105 0), some (vI x6), some (vI x23)] [] U22 ?_
        refine j_drop [some (vR 105 0), none, some (vI x23)] (fun k v hk => ?_) rfl ?_
        · match k, hk with
          | 0, hk => exact hk
          | 1, hk => cases hk
          | 2, hk => exact hk
          | k + 3, hk => cases hk
        refine c_124 x23 U22 ?_ ?_ ?_
        · exact fr_t (fr_u (fr_t (fr_0 _ _) (fr_s fU5 rfl)) hU17 rfl) (fr_s fU22 rfl)
        · omega
        · exact qU22
      by_cases z19_2 : x6 = 2
      · refine j_tsI (pc := 44) 2 (off := 48) (tgt := 92) (by decide) ds_X5_readStatement_44 (by omega) (by decide) rfl (by decide) (by decide) ?_
        refine j_blk (F := fX5) tb_X5 (by decide) bk_X5_readStatement_92 hz (fun K hK => ?_)
        refine hK 93 [some (vR 105 0), some (vI x6), none] [vR 105 0] U17 ?_
        refine j_callV (y := yX5_readOrder) (Yc := zX5_readOrder) (rest := []) [] (ct_X5_readOrder (T := U17) (VC8_f hvc (show fr_ [(105, [7, 8, 9, 2, 3, 6])] T U17 from fr_u (fr_t (fr_0 _ _) (fr_s fU5 rfl)) hU17 rfl) (fun _ => rfl))) cl_X5_69 (by decide +kernel) (by decide) rfl (by decide +kernel) (Nat.le_of_ble_eq_true rfl) (by decide) (by decide) rfl ?_
        rintro U24 _ ⟨x25, rfl, fU24, hx25, qU24⟩
        show J_ zX5_readStatement T (po_X5_readStatement T) 0 0 96 [some (vR 105 0), some (vI x6), none] [vI x25] U24
        refine j_blk (F := fX5) tb_X5 (by decide) bk_X5_readStatement_96 hz (fun K hK => ?_)
        refine (show po_X5_readStatement T U24 (some (vI x25)) from ?_)
        exact ⟨_, rfl, fr_t (fr_u (fr_t (fr_0 _ _) (fr_s fU5 rfl)) hU17 rfl) (fr_s fU24 rfl), by omega, qU24⟩
      by_cases z19_3 : x6 = 3
      · refine j_tsI (pc := 44) 3 (off := 53) (tgt := 97) (by decide) ds_X5_readStatement_44 (by omega) (by decide) rfl (by decide) (by decide) ?_
        refine j_blk (F := fX5) tb_X5 (by decide) bk_X5_readStatement_97 hz (fun K hK => ?_)
        refine iy_i (by omega) (by omega) ?_
        refine sx_nm (fun U26 hU26 => ?_)
        have e27 := up_f hU26
        refine hK 124 [some (vR 105 0), some (vI x6), some (vI 1)] [] U26 ?_
        refine j_drop [some (vR 105 0), none, some (vI 1)] (fun k v hk => ?_) rfl ?_
        · match k, hk with
          | 0, hk => exact hk
          | 1, hk => cases hk
          | 2, hk => exact hk
          | k + 3, hk => cases hk
        refine c_124 1 U26 ?_ ?_ ?_
        · exact fr_u (fr_u (fr_t (fr_0 _ _) (fr_s fU5 rfl)) hU17 rfl) hU26 rfl
        · omega
        · intro _
          have g0 := VC8_f hvc (show fr_ [(105, [7, 8, 9, 2, 3, 6])] T U17 from fr_u (fr_t (fr_0 _ _) (fr_s fU5 rfl)) hU17 rfl) (fun _ => rfl)
          exact ⟨VB8_u g0.1 hU26 ⟨by decide, by decide⟩, by rw [up_g hU26 (fun z => by omega), up_g hU26 (fun z => by omega)]; exact g0.2⟩
      refine j_tsO (pc := 44) (tgt := 109) (by decide) ds_X5_readStatement_44 (by omega) (by decide) (by decide) ?_
      refine j_blk (F := fX5) tb_X5 (by decide) bk_X5_readStatement_109 hz (fun K hK => ?_)
      refine rg_i (by omega) ?_
      refine hK 113 [some (vR 105 0), some (vI x6), none] [vI (x6 + 2), vR 105 0] U17 ?_
      refine j_gs81 (pc := 113) (i := 2) (by decide) (by decide) (lw_at 532 (by decide +kernel) rfl : Cond.fieldLink RX5 72 "SportsHouse$RuleText" (sn_ 2) "[I" ∈ lw_g) (by decide +kernel) ?_
      show J_ zX5_readStatement T (po_X5_readStatement T) 0 0 116 [some (vR 105 0), some (vI x6), none] [vR 81 2, vI (x6 + 2), vR 105 0] U17
      refine j_blk (F := fX5) tb_X5 (by decide) bk_X5_readStatement_116 hz (fun K hK => ?_)
      refine rg_i (by omega) ?_
      refine hK 119 [some (vR 105 0), some (vI x6), none] [vI (x6 + 2), vR 81 2, vI (x6 + 2), vR 105 0] U17 ?_
      refine j_ld81 (pc := 119) (i := 2) (by decide) (by decide) (by omega) (by omega) (by decide +kernel) ?_
      have y28 := sa_b 2 (by decide) (x6 + 2).toNat (by omega)
      show J_ zX5_readStatement T (po_X5_readStatement T) 0 0 120 [some (vR 105 0), some (vI x6), none] [vI ((sa_ 2).getD (x6 + 2).toNat 0), vI (x6 + 2), vR 105 0] U17
      refine j_callV (y := yX5_readRule) (Yc := zX5_readRule) (rest := []) [vI (x6 + 2), vI ((sa_ 2).getD (x6 + 2).toNat 0)] (ct_X5_readRule (T := U17) (by omega) (Int.le_refl _) (VC8_f hvc (show fr_ [(105, [7, 8, 9, 2, 3, 6])] T U17 from fr_u (fr_t (fr_0 _ _) (fr_s fU5 rfl)) hU17 rfl) (fun _ => rfl)).1) cl_X5_75 (by decide +kernel) (by decide) rfl (by decide +kernel) (Nat.le_of_ble_eq_true rfl) (by decide) (by decide) rfl ?_
      rintro U29 _ ⟨x30, rfl, fU29, hx30, qU29⟩
      show J_ zX5_readStatement T (po_X5_readStatement T) 0 0 123 [some (vR 105 0), some (vI x6), none] [vI x30] U29
      refine j_blk (F := fX5) tb_X5 (by decide) bk_X5_readStatement_123 hz (fun K hK => ?_)
      refine hK 124 [some (vR 105 0), some (vI x6), some (vI x30)] [] U29 ?_
      refine j_drop [some (vR 105 0), none, some (vI x30)] (fun k v hk => ?_) rfl ?_
      · match k, hk with
        | 0, hk => exact hk
        | 1, hk => cases hk
        | 2, hk => exact hk
        | k + 3, hk => cases hk
      refine c_124 x30 U29 ?_ ?_ ?_
      · exact fr_t (fr_u (fr_t (fr_0 _ _) (fr_s fU5 rfl)) hU17 rfl) (fr_s fU29 rfl)
      · omega
      · intro h
        obtain ⟨g1, g2, g3⟩ := qU29 h
        have g0 := VC8_f hvc (show fr_ [(105, [7, 8, 9, 2, 3, 6])] T U17 from fr_u (fr_t (fr_0 _ _) (fr_s fU5 rfl)) hU17 rfl) (fun _ => rfl)
        exact ⟨g1, by rw [g3 2 (by omega), g3 1 (by omega)]; exact g0.2⟩
    · refine hK 27 [some (vR 105 0), some (vI x6), none] [vI 5, vR 105 0] U5 ?_
      refine j_callV (y := yX5_fail) (Yc := zX5_fail) (rest := []) [vI 5] (ct_X5_fail (T := U5) (by omega)) cl_X5_59 (by decide +kernel) (by decide) rfl (by decide +kernel) (Nat.le_of_ble_eq_true rfl) (by decide) (by decide) rfl ?_
      rintro U31 _ ⟨x32, rfl, fU31, qU31⟩
      show J_ zX5_readStatement T (po_X5_readStatement T) 0 0 30 [some (vR 105 0), some (vI x6), none] [vI x32] U31
      refine j_blk (F := fX5) tb_X5 (by decide) bk_X5_readStatement_30 hz (fun K hK => ?_)
      refine (show po_X5_readStatement T U31 (some (vI x32)) from ?_)
      exact ⟨_, rfl, fr_t (fr_t (fr_0 _ _) (fr_s fU5 rfl)) (fr_s fU31 rfl), by omega, fun h => by omega⟩
  · refine (show po_X5_readStatement T U5 (some (vI 0)) from ?_)
    exact ⟨_, rfl, fr_t (fr_0 _ _) (fr_s fU5 rfl), by omega, fun h => by omega⟩
abbrev po_J7_fill_505 (T : Zt) (p : Int) (v : Int) : Zt → Option Zv → Prop := fun T' r => r = none ∧ fr_ [(505, [])] T T' ∧ oi_ T T' p ∧ ∀ j, 0 ≤ j → j < 7 → T' 505 p j = v
set_option maxHeartbeats 4000000 in
theorem ct_J7_fill_505 {T : Zt} {p : Int} {v : Int} (h1 : (-1) ≤ v ∧ v ≤ 6) : Ct_ yJ7_fill_53178 zJ7_fill_53178 T [vR 505 p, vI v] (po_J7_fill_505 T p v) := by
  refine ct_of (by decide) rfl rfl (Nat.le_of_ble_eq_true rfl) (fun hT hav => ?_)
  have hr_v : -2147483648 ≤ v ∧ v ≤ 2147483647 := hav (vI v) (by simp)
  have hz : zJ7_fill_53178.2.2.2.1 = some .boolean → ∀ (T' : Zt) (x : Int), po_J7_fill_505 T p v T' (some (vI x)) → 0 ≤ x ∧ x ≤ 1 := fun h => by cases h
  show J_ zJ7_fill_53178 T (po_J7_fill_505 T p v) 0 0 0 [some (vR 505 p), some (vI v), none, none] [] T
  have c_5 : ∀ (nn : Nat) (j : Int) (T1 : Zt), ((7 - j).toNat) ≤ nn → (fr_ [(505, [])] T T1) → (0 ≤ j ∧ j ≤ 7) → (oi_ T T1 p) → (∀ q, 0 ≤ q → q < j → T1 505 p q = v) → J_ zJ7_fill_53178 T (po_J7_fill_505 T p v) 0 0 5 [some (vR 505 p), some (vI v), some (vI j), some (vI 7)] [] T1 := by
    intro nn
    induction nn using Nat.strongRecOn with
    | _ nn ih_5 =>
      intro j T1 hm_5 hf_5 i1 o1 f1
      refine j_blk (F := fJ7) tb_J7 (by decide) bk_J7_fill_53178_5 hz (fun K hK => ?_)
      refine And.intro (fun c1 => ?_) (fun c1 => ?_)
      · refine hK 20 [some (vR 505 p), some (vI v), some (vI j), some (vI 7)] [] T1 ?_
        refine j_blk (F := fJ7) tb_J7 (by decide) bk_J7_fill_53178_20 hz (fun K hK => ?_)
        refine (show po_J7_fill_505 T p v T1 (none) from ?_)
        exact ⟨rfl, fr_t (fr_0 _ _) (fr_s hf_5 rfl), o1, fun q a b => f1 q a (by omega)⟩
      · refine iy_i (by omega) (by omega) ?_
        refine sx_nm (fun U2 hU2 => ?_)
        have e3 := up_f hU2
        refine rg_i (by omega) ?_
        refine hK 5 [some (vR 505 p), some (vI v), some (vI (j + 1)), some (vI 7)] [] U2 ?_
        refine ih_5 _ ?_ (j + 1) U2 (Nat.le_refl _) ?_ ?_ ?_ ?_
        · omega
        · exact fr_u (fr_t (fr_0 _ _) (fr_s hf_5 rfl)) hU2 rfl
        · omega
        · exact oi_u o1 hU2
        · intro q a b
          by_cases z : q = j
          · rw [z]; exact up_f hU2
          · rw [up_g hU2 (fun y => z y.2.2)]; exact f1 q a (by omega)
  refine j_blk (F := fJ7) tb_J7 (by decide) bk_J7_fill_53178_0 hz (fun K hK => ?_)
  refine hK 5 [some (vR 505 p), some (vI v), some (vI 0), some (vI 7)] [] T ?_
  refine c_5 _ 0 T (Nat.le_refl _) ?_ ?_ ?_ ?_
  · exact fr_0 _ _
  · omega
  · exact oi_r
  · intro q a b; omega
abbrev cX5_read : ByteArray := prog_7_method_2_code
def yX5_read : MethodName := ⟨RX5, "read", "()Z"⟩
def zX5_read : Zm := (RX5, cX5_read, 2, (some .boolean), { frames := 7, cells := 0, slots := 0, locals := 155 })
theorem bk_X5_read_73 : ck_ fX5 (some .boolean) cX5_read 73 [.aload 0, .tableswitch 0 5 7 #[], .ifCond .eq 106, .iload 1, .iconst 400, .if_icmp .gt 106, .aload 0] 88 = true := by decide +kernel
theorem bk_X5_read_106 : ck_ fX5 (some .boolean) cX5_read 106 [.iconst 1, .ireturn] 108 = true := by decide +kernel
theorem cl_X5_49 : cv_ RX5 49 yX5_readStatement zX5_readStatement 5 0 := ⟨gi_V (lw_at 458 (by decide +kernel) rfl : Cond.methodLink RX5 49 yX5_readStatement ∈ lw_g) (lw_at 460 (by decide +kernel) rfl : Cond.instanceMethod yX5_readStatement ∈ lw_g) (lw_sel 116 rfl : Cond.selects yX5_readStatement.cls yX5_readStatement yX5_readStatement ∈ lw_g) (lw_at 2 (by decide +kernel) rfl : Cond.initialized yX5_readStatement.cls ∈ lw_g) (lw_at 461 (by decide +kernel) rfl : Cond.code yX5_readStatement cX5_readStatement 3 (some .boolean) ∈ lw_g), ⟨by decide, by decide, by decide +kernel⟩, ⟨_, _, rfl⟩⟩
theorem bk_X5_read_91 : ck_ fX5 (some .boolean) cX5_read 91 [.ifCond .ne 96, .iconst 0, .ireturn] 96 = true := by decide +kernel
theorem bk_X5_read_96 : ck_ fX5 (some .boolean) cX5_read 96 [.aload 0] 97 = true := by decide +kernel
theorem bk_X5_read_100 : ck_ fX5 (some .boolean) cX5_read 100 [.iinc 1 1, .goto 73] 106 = true := by decide +kernel
theorem bk_X5_read_22 : ck_ fX5 (some .boolean) cX5_read 22 [.iload 1, .iconst 16, .if_icmp .ge 45, .aload 0, .tableswitch 0 5 4 #[], .iload 1] 33 = true := by decide +kernel
theorem bk_X5_read_45 : ck_ fX5 (some .boolean) cX5_read 45 [.aload 0, .tableswitch 0 5 5 #[], .iconst (-1)] 50 = true := by decide +kernel
theorem cl_X5_37 : cs_ RX5 37 yJ7_fill_53178 zJ7_fill_53178 2 := ⟨gi_S (lw_at 445 (by decide +kernel) rfl : Cond.methodLink RX5 37 yJ7_fill_53178 ∈ lw_g) (lw_at 266 (by decide +kernel) rfl : Cond.static yJ7_fill_53178 ∈ lw_g) (lw_at 7 (by decide +kernel) rfl : Cond.initialized yJ7_fill_53178.cls ∈ lw_g) (lw_at 267 (by decide +kernel) rfl : Cond.code yJ7_fill_53178 cJ7_fill_53178 4 none ∈ lw_g), ⟨by decide, by decide, by decide +kernel⟩⟩
theorem bk_X5_read_53 : ck_ fX5 (some .boolean) cX5_read 53 [.aload 0, .tableswitch 0 5 5 #[], .iconst 0, .iconst 0, .iastore, .aload 0, .tableswitch 0 5 5 #[], .iconst 1, .iconst 1, .iastore, .aload 0] 68 = true := by decide +kernel
theorem bk_X5_read_71 : ck_ fX5 (some .boolean) cX5_read 71 [.iconst 0, .istore 1] 73 = true := by decide +kernel
theorem bk_X5_read_36 : ck_ fX5 (some .boolean) cX5_read 36 [.iload 1] 37 = true := by decide +kernel
theorem bk_X5_read_38 : ck_ fX5 (some .boolean) cX5_read 38 [.iastore, .iinc 1 1, .goto 22] 45 = true := by decide +kernel
theorem bk_X5_read_0 : ck_ fX5 (some .boolean) cX5_read 0 [.aload 0, .iconst 0, .tableswitch 1 5 2 #[], .aload 0, .iconst (-1), .tableswitch 1 5 3 #[], .aload 0, .iconst 0, .tableswitch 1 5 6 #[], .aload 0, .iconst 0, .tableswitch 1 5 9 #[], .iconst 0, .istore 1] 22 = true := by decide +kernel
abbrev po_X5_read (T : Zt) : Zt → Option Zv → Prop := fun T' r => ∃ x : Int, r = some (vI x) ∧ fr_ [(105, [7, 8, 9, 2, 3, 6]), (504, []), (505, [])] T T' ∧ ((0 ≤ x ∧ x ≤ 1) ∧ (x = 1 → VC8_ T'))
set_option maxHeartbeats 4000000 in
theorem ct_X5_read {T : Zt} : Ct_ yX5_read zX5_read T [vR 105 0] (po_X5_read T) := by
  refine ct_of (by decide) rfl rfl (Nat.le_of_ble_eq_true rfl) (fun hT hav => ?_)
  have hz : zX5_read.2.2.2.1 = some .boolean → ∀ (T' : Zt) (x : Int), po_X5_read T T' (some (vI x)) → 0 ≤ x ∧ x ≤ 1 := fun _ T' x h => by obtain ⟨y, e, -, hy, -⟩ := h; cases e; omega
  show J_ zX5_read T (po_X5_read T) 0 0 0 [some (vR 105 0), none] [] T
  have c_73 : ∀ (nn : Nat) (n : Int) (T2 : Zt), ((401 - n).toNat) ≤ nn → (fr_ [(105, [7, 8, 9, 2, 3, 6]), (504, []), (505, [])] T T2) → (0 ≤ n) → (VC8_ T2) → J_ zX5_read T (po_X5_read T) 0 0 73 [some (vR 105 0), some (vI n)] [] T2 := by
    intro nn
    induction nn using Nat.strongRecOn with
    | _ nn ih_73 =>
      intro n T2 hm_73 hf_73 i2 vc2
      refine j_blk (F := fX5) tb_X5 (by decide) bk_X5_read_73 hz (fun K hK => ?_)
      intro b1 b1b
      refine And.intro (fun c2 => ?_) (fun c2 => ?_)
      · refine hK 106 [some (vR 105 0), some (vI n)] [] T2 ?_
        refine j_blk (F := fX5) tb_X5 (by decide) bk_X5_read_106 hz (fun K hK => ?_)
        refine (show po_X5_read T T2 (some (vI 1)) from ?_)
        exact ⟨_, rfl, hf_73, by omega, fun _ => vc2⟩
      · refine And.intro (fun c3 => ?_) (fun c3 => ?_)
        · refine hK 106 [some (vR 105 0), some (vI n)] [] T2 ?_
          refine j_blk (F := fX5) tb_X5 (by decide) bk_X5_read_106 hz (fun K hK => ?_)
          refine (show po_X5_read T T2 (some (vI 1)) from ?_)
          exact ⟨_, rfl, hf_73, by omega, fun _ => vc2⟩
        · refine hK 88 [some (vR 105 0), some (vI n)] [vR 105 0] T2 ?_
          refine j_callV (y := yX5_readStatement) (Yc := zX5_readStatement) (rest := []) [] (ct_X5_readStatement (T := T2) vc2) cl_X5_49 (by decide +kernel) (by decide) rfl (by decide +kernel) (Nat.le_of_ble_eq_true rfl) (by decide) (by decide) rfl ?_
          rintro U4 _ ⟨x5, rfl, fU4, hx5, qU4⟩
          show J_ zX5_read T (po_X5_read T) 0 0 91 [some (vR 105 0), some (vI n)] [vI x5] U4
          refine j_blk (F := fX5) tb_X5 (by decide) bk_X5_read_91 hz (fun K hK => ?_)
          refine And.intro (fun c6 => ?_) (fun c6 => ?_)
          · refine hK 96 [some (vR 105 0), some (vI n)] [] U4 ?_
            refine j_blk (F := fX5) tb_X5 (by decide) bk_X5_read_96 hz (fun K hK => ?_)
            refine hK 97 [some (vR 105 0), some (vI n)] [vR 105 0] U4 ?_
            refine j_callV (y := yX5_nextToken) (Yc := zX5_nextToken) (rest := []) [] (ct_X5_nextToken (T := U4)) cl_X5_43 (by decide +kernel) (by decide) rfl (by decide +kernel) (Nat.le_of_ble_eq_true rfl) (by decide) (by decide) rfl ?_
            rintro U7 _ ⟨rfl, fU7, qU7⟩
            show J_ zX5_read T (po_X5_read T) 0 0 100 [some (vR 105 0), some (vI n)] [] U7
            refine j_blk (F := fX5) tb_X5 (by decide) bk_X5_read_100 hz (fun K hK => ?_)
            refine rg_i (by omega) ?_
            refine hK 73 [some (vR 105 0), some (vI (n + 1))] [] U7 ?_
            refine ih_73 _ ?_ (n + 1) U7 (Nat.le_refl _) ?_ ?_ ?_
            · omega
            · exact fr_t (fr_t (fr_t (fr_0 _ _) (fr_s hf_73 rfl)) (fr_s fU4 rfl)) (fr_s fU7 rfl)
            · omega
            · exact VC8_f (qU4 (by omega)) (show fr_ [(105, [7, 8, 9, 2, 3, 6])] U4 U7 from fr_t (fr_0 _ _) (fr_s fU7 rfl)) (fun _ => rfl)
          · refine (show po_X5_read T U4 (some (vI 0)) from ?_)
            exact ⟨_, rfl, fr_t (fr_t (fr_0 _ _) (fr_s hf_73 rfl)) (fr_s fU4 rfl), by omega, fun h => by omega⟩
  have c_22 : ∀ (nn : Nat) (k : Int) (T1 : Zt), ((16 - k).toNat) ≤ nn → (fr_ [(105, [7, 8, 9, 2, 3, 6]), (504, []), (505, [])] T T1) → (0 ≤ k ∧ k ≤ 16) → (∀ j, 0 ≤ j → j < k → T1 504 0 j = (sa_ 0).getD j.toNat 0) → J_ zX5_read T (po_X5_read T) 0 0 22 [some (vR 105 0), some (vI k)] [] T1 := by
    intro nn
    induction nn using Nat.strongRecOn with
    | _ nn ih_22 =>
      intro k T1 hm_22 hf_22 i1 d1
      refine j_blk (F := fX5) tb_X5 (by decide) bk_X5_read_22 hz (fun K hK => ?_)
      refine And.intro (fun c8 => ?_) (fun c8 => ?_)
      · refine hK 45 [some (vR 105 0), some (vI k)] [] T1 ?_
        refine j_blk (F := fX5) tb_X5 (by decide) bk_X5_read_45 hz (fun K hK => ?_)
        refine hK 50 [some (vR 105 0), some (vI k)] [vI (-1), vR 505 0] T1 ?_
        refine j_callS (y := yJ7_fill_53178) (Yc := zJ7_fill_53178) (rest := []) [vR 505 0, vI (-1)] (ct_J7_fill_505 (T := T1) (by omega)) cl_X5_37 (by decide +kernel) (by decide) rfl (by decide +kernel) (Nat.le_of_ble_eq_true rfl) (by decide) (by decide) rfl ?_
        rintro U9 _ ⟨rfl, fU9, qU9o, qU9⟩
        show J_ zX5_read T (po_X5_read T) 0 0 53 [some (vR 105 0), some (vI k)] [] U9
        refine j_blk (F := fX5) tb_X5 (by decide) bk_X5_read_53 hz (fun K hK => ?_)
        refine iy_i (by omega) (by omega) ?_
        refine sx_nm (fun U10 hU10 => ?_)
        have e11 := up_f hU10
        refine iy_i (by omega) (by omega) ?_
        refine sx_nm (fun U12 hU12 => ?_)
        have e13 := up_f hU12
        refine hK 68 [some (vR 105 0), some (vI k)] [vR 105 0] U12 ?_
        refine j_callV (y := yX5_nextToken) (Yc := zX5_nextToken) (rest := []) [] (ct_X5_nextToken (T := U12)) cl_X5_43 (by decide +kernel) (by decide) rfl (by decide +kernel) (Nat.le_of_ble_eq_true rfl) (by decide) (by decide) rfl ?_
        rintro U14 _ ⟨rfl, fU14, qU14⟩
        show J_ zX5_read T (po_X5_read T) 0 0 71 [some (vR 105 0), some (vI k)] [] U14
        refine j_blk (F := fX5) tb_X5 (by decide) bk_X5_read_71 hz (fun K hK => ?_)
        refine hK 73 [some (vR 105 0), some (vI 0)] [] U14 ?_
        refine c_73 _ 0 U14 (Nat.le_refl _) ?_ ?_ ?_
        · exact fr_t (fr_u (fr_u (fr_t (fr_t (fr_0 _ _) (fr_s hf_22 rfl)) (fr_s fU9 rfl)) hU10 rfl) hU12 rfl) (fr_s fU14 rfl)
        · omega
        · have k0 : ∀ j, U14 504 0 j = T1 504 0 j := fun j => (show fr_ [(105, [7, 8, 9, 2, 3, 6]), (505, [])] T1 U14 from fr_t (fr_u (fr_u (fr_t (fr_0 _ _) (fr_s fU9 rfl)) hU10 rfl) hU12 rfl) (fr_s fU14 rfl)) 504 0 j rfl
          refine ⟨fun j a b => ?_, ?_⟩
          · rw [k0, d1 j a (by omega)]; exact at_q ⟨a, b⟩
          · rw [k0, k0, d1 2 (by omega) (by omega), d1 1 (by omega) (by omega)]; decide
      · refine hK 33 [some (vR 105 0), some (vI k)] [vI k, vR 504 0] T1 ?_
        refine j_gs81 (pc := 33) (i := 0) (by decide) (by decide) (lw_at 443 (by decide +kernel) rfl : Cond.fieldLink RX5 34 "SportsHouse$RuleText" (sn_ 0) "[I" ∈ lw_g) (by decide +kernel) ?_
        show J_ zX5_read T (po_X5_read T) 0 0 36 [some (vR 105 0), some (vI k)] [vR 81 0, vI k, vR 504 0] T1
        refine j_blk (F := fX5) tb_X5 (by decide) bk_X5_read_36 hz (fun K hK => ?_)
        refine hK 37 [some (vR 105 0), some (vI k)] [vI k, vR 81 0, vI k, vR 504 0] T1 ?_
        refine j_ld81 (pc := 37) (i := 0) (by decide) (by decide) (by omega) (by omega) (by decide +kernel) ?_
        have y15 := sa_b 0 (by decide) k.toNat (by omega)
        show J_ zX5_read T (po_X5_read T) 0 0 38 [some (vR 105 0), some (vI k)] [vI ((sa_ 0).getD k.toNat 0), vI k, vR 504 0] T1
        refine j_blk (F := fX5) tb_X5 (by decide) bk_X5_read_38 hz (fun K hK => ?_)
        refine iy_i (by omega) (by omega) ?_
        refine sx_nm (fun U16 hU16 => ?_)
        have e17 := up_f hU16
        refine rg_i (by omega) ?_
        refine hK 22 [some (vR 105 0), some (vI (k + 1))] [] U16 ?_
        refine ih_22 _ ?_ (k + 1) U16 (Nat.le_refl _) ?_ ?_ ?_
        · omega
        · exact fr_u (fr_t (fr_0 _ _) (fr_s hf_22 rfl)) hU16 rfl
        · omega
        · intro j a b
          by_cases z : j = k
          · rw [z]; exact up_f hU16
          · rw [up_g hU16 (fun q => z q.2.2)]; exact d1 j a (by omega)
  refine j_blk (F := fX5) tb_X5 (by decide) bk_X5_read_0 hz (fun K hK => ?_)
  refine bd_i (by omega) ?_
  refine sx_nm (fun U18 hU18 => ?_)
  have e19 := up_f hU18
  refine bd_i (by omega) ?_
  refine sx_nm (fun U20 hU20 => ?_)
  have e21 := up_f hU20
  refine bd_i (by omega) ?_
  refine sx_nm (fun U22 hU22 => ?_)
  have e23 := up_f hU22
  refine bd_i (by omega) ?_
  refine sx_nm (fun U24 hU24 => ?_)
  have e25 := up_f hU24
  refine hK 22 [some (vR 105 0), some (vI 0)] [] U24 ?_
  refine c_22 _ 0 U24 (Nat.le_refl _) ?_ ?_ ?_
  · exact fr_u (fr_u (fr_u (fr_u (fr_0 _ _) hU18 rfl) hU20 rfl) hU22 rfl) hU24 rfl
  · omega
  · intro j a b; omega
