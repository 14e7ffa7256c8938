abbrev cX9_listOpen : ByteArray := prog_11_method_3_code
def yX9_listOpen : MethodName := ⟨RX9, "listOpen", "(II)Z"⟩
def zX9_listOpen : Zm := (RX9, cX9_listOpen, 5, (some .boolean), { frames := 2, cells := 0, slots := 0, locals := 40 })
theorem bk_X9_listOpen_7 : ck_ fX9 (some .boolean) cX9_listOpen 7 [.iload 3, .aload 0, .tableswitch 0 9 5 #[], .tableswitch 0 0 8 #[], .if_icmp .ge 124, .aload 0, .tableswitch 0 9 0 #[], .tableswitch 0 6 3 #[], .aload 0, .tableswitch 0 9 5 #[], .tableswitch 0 0 7 #[], .iload 3, .iadd, .aaload, .astore 4, .aload 4] 39 = true := qck_r (nn_ _) (by decide +kernel)
theorem bs_X9_listOpen_7 {P : Zt → Option Zv → Prop} (K : Int → Zl → List Zv → Zt → Prop) : sx_ K P [.iload 3, .aload 0, .tableswitch 0 9 5 #[], .tableswitch 0 0 8 #[], .if_icmp .ge 124, .aload 0, .tableswitch 0 9 0 #[], .tableswitch 0 6 3 #[], .aload 0, .tableswitch 0 9 5 #[], .tableswitch 0 0 7 #[], .iload 3, .iadd, .aaload, .astore 4, .aload 4] 39 = x_iload 3 (x_aload 0 (x_g5 109 100 5 (x_g0 100 8 0 400 (x_if_icmp .ge 124 K (x_aload 0 (x_g1 109 106 (x_g1 106 523 (x_aload 0 (x_g5 109 100 5 (x_g0 100 7 0 400 (x_iload 3 (x_iadd (x_aaload (x_astore 4 (x_aload 4 (K 39)))))))))))))))) := ((xe_iload 3).trans (congrArg (x_iload 3) ((xe_aload 0).trans (congrArg (x_aload 0) ((xe_g5 (kk := 109) rfl tl_9_5).trans (congrArg (x_g5 109 100 5) ((xe_g0 (kk := 100) rfl tl_0_8).trans (congrArg (x_g0 100 8 0 400) ((xe_if_icmp .ge 124).trans (congrArg (x_if_icmp .ge 124 K) ((xe_aload 0).trans (congrArg (x_aload 0) ((xe_g1 (kk := 109) rfl tl_9_0).trans (congrArg (x_g1 109 106) ((xe_g1 (kk := 106) rfl tl_6_3).trans (congrArg (x_g1 106 523) ((xe_aload 0).trans (congrArg (x_aload 0) ((xe_g5 (kk := 109) rfl tl_9_5).trans (congrArg (x_g5 109 100 5) ((xe_g0 (kk := 100) rfl tl_0_7).trans (congrArg (x_g0 100 7 0 400) ((xe_iload 3).trans (congrArg (x_iload 3) ((xe_iadd).trans (congrArg (x_iadd) ((xe_aaload).trans (congrArg (x_aaload) ((xe_astore 4).trans (congrArg (x_astore 4) ((xe_aload 4).trans (congrArg (x_aload 4) xe_nil))))))))))))))))))))))))))))))))
theorem bk_X9_listOpen_124 : ck_ fX9 (some .boolean) cX9_listOpen 124 [.iconst 1, .ireturn] 126 = true := qck_r (nn_ _) (by decide +kernel)
theorem bs_X9_listOpen_124 {P : Zt → Option Zv → Prop} (K : Int → Zl → List Zv → Zt → Prop) : sx_ K P [.iconst 1, .ireturn] 126 = x_iconst 1 (x_ireturn P) := ((xe_iconst 1).trans (congrArg (x_iconst 1) (xe_ireturn)))
theorem bk_X9_listOpen_42 : ck_ fX9 (some .boolean) cX9_listOpen 42 [.ifCond .eq 48, .goto 118] 48 = true := qck_r (nn_ _) (by decide +kernel)
theorem bs_X9_listOpen_42 {P : Zt → Option Zv → Prop} (K : Int → Zl → List Zv → Zt → Prop) : sx_ K P [.ifCond .eq 48, .goto 118] 48 = x_ifCond .eq 48 K (x_goto 118 K) := ((xe_ifCond .eq 48).trans (congrArg (x_ifCond .eq 48 K) (xe_goto 118)))
theorem bk_X9_listOpen_48 : ck_ fX9 (some .boolean) cX9_listOpen 48 [.aload 4, .iload 1] 51 = true := qck_r (nn_ _) (by decide +kernel)
theorem bs_X9_listOpen_48 {P : Zt → Option Zv → Prop} (K : Int → Zl → List Zv → Zt → Prop) : sx_ K P [.aload 4, .iload 1] 51 = x_aload 4 (x_iload 1 (K 51)) := ((xe_aload 4).trans (congrArg (x_aload 4) ((xe_iload 1).trans (congrArg (x_iload 1) xe_nil))))
theorem bk_X9_listOpen_54 : ck_ fX9 (some .boolean) cX9_listOpen 54 [.ifCond .eq 84, .aload 0, .tableswitch 0 9 4 #[], .aload 4, .tableswitch 0 2 1 #[], .aload 4, .tableswitch 0 2 3 #[], .iload 1, .if_icmp .ne 79, .iconst 0, .goto 80] 79 = true := qck_r (nn_ _) (by decide +kernel)
theorem bs_X9_listOpen_54 {P : Zt → Option Zv → Prop} (K : Int → Zl → List Zv → Zt → Prop) : sx_ K P [.ifCond .eq 84, .aload 0, .tableswitch 0 9 4 #[], .aload 4, .tableswitch 0 2 1 #[], .aload 4, .tableswitch 0 2 3 #[], .iload 1, .if_icmp .ne 79, .iconst 0, .goto 80] 79 = x_ifCond .eq 84 K (x_aload 0 (x_g1 109 584 (x_aload 4 (x_g0 102 1 0 399 (x_aload 4 (x_g0 102 3 0 11 (x_iload 1 (x_if_icmp .ne 79 K (x_iconst 0 (x_goto 80 K)))))))))) := ((xe_ifCond .eq 84).trans (congrArg (x_ifCond .eq 84 K) ((xe_aload 0).trans (congrArg (x_aload 0) ((xe_g1 (kk := 109) rfl tl_9_4).trans (congrArg (x_g1 109 584) ((xe_aload 4).trans (congrArg (x_aload 4) ((xe_g0 (kk := 102) rfl tl_2_1).trans (congrArg (x_g0 102 1 0 399) ((xe_aload 4).trans (congrArg (x_aload 4) ((xe_g0 (kk := 102) rfl tl_2_3).trans (congrArg (x_g0 102 3 0 11) ((xe_iload 1).trans (congrArg (x_iload 1) ((xe_if_icmp .ne 79).trans (congrArg (x_if_icmp .ne 79 K) ((xe_iconst 0).trans (congrArg (x_iconst 0) (xe_goto 80)))))))))))))))))))))
theorem bk_X9_listOpen_84 : ck_ fX9 (some .boolean) cX9_listOpen 84 [.aload 0, .tableswitch 0 9 9 #[], .iload 2, .if_icmp .lt 94, .iconst 0, .ireturn] 94 = true := qck_r (nn_ _) (by decide +kernel)
theorem bs_X9_listOpen_84 {P : Zt → Option Zv → Prop} (K : Int → Zl → List Zv → Zt → Prop) : sx_ K P [.aload 0, .tableswitch 0 9 9 #[], .iload 2, .if_icmp .lt 94, .iconst 0, .ireturn] 94 = x_aload 0 (x_g0 109 9 0 40 (x_iload 2 (x_if_icmp .lt 94 K (x_iconst 0 (x_ireturn P))))) := ((xe_aload 0).trans (congrArg (x_aload 0) ((xe_g0 (kk := 109) rfl tl_9_9).trans (congrArg (x_g0 109 9 0 40) ((xe_iload 2).trans (congrArg (x_iload 2) ((xe_if_icmp .lt 94).trans (congrArg (x_if_icmp .lt 94 K) ((xe_iconst 0).trans (congrArg (x_iconst 0) (xe_ireturn)))))))))))
theorem bk_X9_listOpen_94 : ck_ fX9 (some .boolean) cX9_listOpen 94 [.aload 0, .tableswitch 0 9 8 #[], .aload 0, .tableswitch 0 9 9 #[], .aload 4, .tableswitch 0 2 1 #[], .iastore, .aload 0, .dup, .tableswitch 0 9 9 #[], .iconst 1, .iadd, .tableswitch 1 9 9 #[], .iinc 3 1, .goto 7] 124 = true := qck_r (nn_ _) (by decide +kernel)
theorem bs_X9_listOpen_94 {P : Zt → Option Zv → Prop} (K : Int → Zl → List Zv → Zt → Prop) : sx_ K P [.aload 0, .tableswitch 0 9 8 #[], .aload 0, .tableswitch 0 9 9 #[], .aload 4, .tableswitch 0 2 1 #[], .iastore, .aload 0, .dup, .tableswitch 0 9 9 #[], .iconst 1, .iadd, .tableswitch 1 9 9 #[], .iinc 3 1, .goto 7] 124 = x_aload 0 (x_g1 109 588 (x_aload 0 (x_g0 109 9 0 40 (x_aload 4 (x_g0 102 1 0 399 (x_iastore (x_aload 0 (x_dup (x_g0 109 9 0 40 (x_iconst 1 (x_iadd (x_p 109 9 0 40 (x_iinc 3 1 (x_goto 7 K)))))))))))))) := ((xe_aload 0).trans (congrArg (x_aload 0) ((xe_g1 (kk := 109) rfl tl_9_8).trans (congrArg (x_g1 109 588) ((xe_aload 0).trans (congrArg (x_aload 0) ((xe_g0 (kk := 109) rfl tl_9_9).trans (congrArg (x_g0 109 9 0 40) ((xe_aload 4).trans (congrArg (x_aload 4) ((xe_g0 (kk := 102) rfl tl_2_1).trans (congrArg (x_g0 102 1 0 399) ((xe_iastore).trans (congrArg (x_iastore) ((xe_aload 0).trans (congrArg (x_aload 0) ((xe_dup).trans (congrArg (x_dup) ((xe_g0 (kk := 109) rfl tl_9_9).trans (congrArg (x_g0 109 9 0 40) ((xe_iconst 1).trans (congrArg (x_iconst 1) ((xe_iadd).trans (congrArg (x_iadd) ((xe_p (kk := 109) rfl tl_9_9).trans (congrArg (x_p 109 9 0 40) ((xe_iinc 3 1).trans (congrArg (x_iinc 3 1) (xe_goto 7)))))))))))))))))))))))))))))
theorem bk_X9_listOpen_79 : ck_ fX9 (some .boolean) cX9_listOpen 79 [.iconst 2, .iastore, .goto 118] 84 = true := qck_r (nn_ _) (by decide +kernel)
theorem bs_X9_listOpen_79 {P : Zt → Option Zv → Prop} (K : Int → Zl → List Zv → Zt → Prop) : sx_ K P [.iconst 2, .iastore, .goto 118] 84 = x_iconst 2 (x_iastore (x_goto 118 K)) := ((xe_iconst 2).trans (congrArg (x_iconst 2) ((xe_iastore).trans (congrArg (x_iastore) (xe_goto 118)))))
theorem bk_X9_listOpen_118 : ck_ fX9 (some .boolean) cX9_listOpen 118 [.iinc 3 1, .goto 7] 124 = true := qck_r (nn_ _) (by decide +kernel)
theorem bs_X9_listOpen_118 {P : Zt → Option Zv → Prop} (K : Int → Zl → List Zv → Zt → Prop) : sx_ K P [.iinc 3 1, .goto 7] 124 = x_iinc 3 1 (x_goto 7 K) := ((xe_iinc 3 1).trans (congrArg (x_iinc 3 1) (xe_goto 7)))
theorem bk_X9_listOpen_80 : ck_ fX9 (some .boolean) cX9_listOpen 80 [.iastore, .goto 118] 84 = true := qck_r (nn_ _) (by decide +kernel)
theorem bs_X9_listOpen_80 {P : Zt → Option Zv → Prop} (K : Int → Zl → List Zv → Zt → Prop) : sx_ K P [.iastore, .goto 118] 84 = x_iastore (x_goto 118 K) := ((xe_iastore).trans (congrArg (x_iastore) (xe_goto 118)))
theorem bk_X9_listOpen_0 : ck_ fX9 (some .boolean) cX9_listOpen 0 [.aload 0, .iconst 0, .tableswitch 1 9 9 #[], .iconst 0, .istore 3] 7 = true := qck_r (nn_ _) (by decide +kernel)
theorem bs_X9_listOpen_0 {P : Zt → Option Zv → Prop} (K : Int → Zl → List Zv → Zt → Prop) : sx_ K P [.aload 0, .iconst 0, .tableswitch 1 9 9 #[], .iconst 0, .istore 3] 7 = x_aload 0 (x_iconst 0 (x_p 109 9 0 40 (x_iconst 0 (x_istore 3 (K 7))))) := ((xe_aload 0).trans (congrArg (x_aload 0) ((xe_iconst 0).trans (congrArg (x_iconst 0) ((xe_p (kk := 109) rfl tl_9_9).trans (congrArg (x_p 109 9 0 40) ((xe_iconst 0).trans (congrArg (x_iconst 0) ((xe_istore 3).trans (congrArg (x_istore 3) xe_nil))))))))))
abbrev po_X9_listOpen (T : Zt) (b n : Int) : Zt → Option Zv → Prop := fun T' r => ∃ x : Int, r = some (vI x) ∧ fr_ [(109, [9]), (584, []), (588, [])] T T' ∧ ((0 ≤ x ∧ x ≤ 1) ∧ ∀ j : Int, 0 ≤ j → j < T' 109 0 9 → T 100 (T 109 0 5 - 1) 7 ≤ T' 588 0 j ∧ T' 588 0 j < T 100 (T 109 0 5 - 1) 7 + T 100 (T 109 0 5 - 1) 8)
set_option maxHeartbeats 4000000 in
theorem ct_X9_listOpen {T : Zt} {b n : Int} (hka : KA_ T) (hkm : KM_ T) (hkc : KC_ T) (hc9 : 1 ≤ T 109 0 5 ∧ T 109 0 5 ≤ T 106 0 2) (hn : n ≤ 40) : Ct_ yX9_listOpen zX9_listOpen T [vR 109 0, vI b, vI n] (po_X9_listOpen T b n) := by
  refine ct_of pn_9 rfl rfl (Nat.le_of_ble_eq_true rfl) (fun hT hav => ?_)
  have hr_b : -2147483648 ≤ b ∧ b ≤ 2147483647 := hav (vI b) (by simp)
  have hr_n : -2147483648 ≤ n ∧ n ≤ 2147483647 := hav (vI n) (by simp)
  have hz : zX9_listOpen.2.2.2.1 = some .boolean → ∀ (T' : Zt) (x : Int), po_X9_listOpen T b n T' (some (vI x)) → 0 ≤ x ∧ x ≤ 1 := fun _ T' x h => by obtain ⟨y, e, -, hy, -⟩ := h; cases e; omega
  have hk2 := hkc (T 109 0 5 - 1) (by omega) (by omega)
  have hb_matchCount : 0 ≤ T 106 0 4 ∧ T 106 0 4 ≤ 400 := bd_f hT 106 4 (by decide +kernel : (tf_ 106)[4]? = some (0, 0, 0, 400)) 0
  have hfm : 0 ≤ T 100 (T 109 0 5 - 1) 7 ∧ T 100 (T 109 0 5 - 1) 7 ≤ 400 := bd_f hT 100 7 (by decide +kernel : (tf_ 100)[7]? = some (0, 0, 0, 400)) (T 109 0 5 - 1)
  have hmc : 0 ≤ T 100 (T 109 0 5 - 1) 8 ∧ T 100 (T 109 0 5 - 1) 8 ≤ 400 := bd_f hT 100 8 (by decide +kernel : (tf_ 100)[8]? = some (0, 0, 0, 400)) (T 109 0 5 - 1)
  show J_ zX9_listOpen T (po_X9_listOpen T b n) 0 0 0 [some (vR 109 0), some (vI b), some (vI n), none, none] [] T
  have c_7 : ∀ (nn : Nat) (k : Int) (T1 : Zt), ((T 100 (T 109 0 5 - 1) 8 - k).toNat) ≤ nn → (fr_ [(109, [9]), (584, []), (588, [])] T T1) → (0 ≤ k ∧ k ≤ T 100 (T 109 0 5 - 1) 8 ∧ 0 ≤ T1 109 0 9 ∧ T1 109 0 9 ≤ 40) → (∀ j : Int, 0 ≤ j → j < T1 109 0 9 → T 100 (T 109 0 5 - 1) 7 ≤ T1 588 0 j ∧ T1 588 0 j < T 100 (T 109 0 5 - 1) 7 + T 100 (T 109 0 5 - 1) 8) → J_ zX9_listOpen T (po_X9_listOpen T b n) 0 0 7 [some (vR 109 0), some (vI b), some (vI n), some (vI k), none] [] T1 := by
    intro nn
    induction nn using Nat.strongRecOn with
    | _ nn ih_7 =>
      intro k T1 hm_7 hf_7 i1 ol1
      refine j_blx (F := fX9) tb_X9 (nn_ _) bk_X9_listOpen_7 bs_X9_listOpen_7 hz (fun K hK => ?_)
      have e2 : T1 109 0 5 = T 109 0 5 := hf_7 109 0 5 rfl
      refine And.intro (fun c1 => ?_) (fun c1 => ?_)
      · exact absurd c1 (by omega)
      · intro b3 b3b
        have e4 : T1 100 (T 109 0 5 - 1) 8 = T 100 (T 109 0 5 - 1) 8 := hf_7 100 (T 109 0 5 - 1) 8 rfl
        have e5 : T1 100 (T1 109 0 5 - 1) 8 = T 100 (T 109 0 5 - 1) 8 := by rw [e2]; exact e4
        rw [e5] at b3 b3b ⊢
        refine And.intro (fun c6 => ?_) (fun c6 => ?_)
        · refine hK 124 _ [] T1 ?_
          refine j_blx (F := fX9) tb_X9 (nn_ _) bk_X9_listOpen_124 bs_X9_listOpen_124 hz (fun K hK => ?_)
          refine (show po_X9_listOpen T b n T1 (some (vI 1)) from ?_)
          exact ⟨_, rfl, fr_t (fr_0 _ _) (fr_s hf_7 rfl), ⟨by omega, by omega⟩, ol1⟩
        · have e8 : T1 109 0 5 = T 109 0 5 := hf_7 109 0 5 rfl
          refine And.intro (fun c7 => ?_) (fun c7 => ?_)
          · exact absurd c7 (by omega)
          · intro b9 b9b
            have e10 : T1 100 (T 109 0 5 - 1) 7 = T 100 (T 109 0 5 - 1) 7 := hf_7 100 (T 109 0 5 - 1) 7 rfl
            have e11 : T1 100 (T1 109 0 5 - 1) 7 = T 100 (T 109 0 5 - 1) 7 := by rw [e8]; exact e10
            rw [e11] at b9 b9b ⊢
            refine rg_i (by omega) ?_
            refine ix_i (by omega) ?_
            have e13 : T1 523 0 ((T 100 (T 109 0 5 - 1) 7) + k) = T 523 0 ((T 100 (T 109 0 5 - 1) 7) + k) := hf_7 523 0 ((T 100 (T 109 0 5 - 1) 7) + k) rfl
            refine And.intro (fun c12 => ?_) (fun c12 => ?_)
            · exact absurd (show T 523 0 (T 100 (T 109 0 5 - 1) 7 + k) = 0 by omega) (hka.2 _ (by omega) (by omega))
            · refine hK 39 [some (vR 109 0), some (vI b), some (vI n), some (vI k), some (vR 102 ((T 100 (T 109 0 5 - 1) 7) + k))] [vR 102 ((T 100 (T 109 0 5 - 1) 7) + k)] T1 ?_
              refine j_callV (y := yX2_isDecided) (Yc := zX2_isDecided) (rest := []) [] (ct_X2_isDecided (T := T1)) cl_X9_109 (qd_c (by decide +kernel)) (nn_ _) rfl (rf_of rfl) (Nat.le_of_ble_eq_true rfl) (Nat.le_of_ble_eq_true rfl) (Nat.le_of_ble_eq_true rfl) rfl ?_
              rintro _ _ ⟨rfl, x14, rfl, hx14⟩
              show J_ zX9_listOpen T (po_X9_listOpen T b n) 0 0 42 _ [vI x14] T1
              refine j_blx (F := fX9) tb_X9 (nn_ _) bk_X9_listOpen_42 bs_X9_listOpen_42 hz (fun K hK => ?_)
              refine And.intro (fun c15 => ?_) (fun c15 => ?_)
              · refine hK 48 _ [] T1 ?_
                refine j_blx (F := fX9) tb_X9 (nn_ _) bk_X9_listOpen_48 bs_X9_listOpen_48 hz (fun K hK => ?_)
                refine hK 51 _ [vI b, vR 102 ((T 100 (T 109 0 5 - 1) 7) + k)] T1 ?_
                refine j_callV (y := yX2_has) (Yc := zX2_has) (rest := []) [vI b] (ct_X2_has (T := T1)) cl_X9_115 (qd_c (by decide +kernel)) (nn_ _) rfl (rf_of rfl) (Nat.le_of_ble_eq_true rfl) (Nat.le_of_ble_eq_true rfl) (Nat.le_of_ble_eq_true rfl) rfl ?_
                rintro _ _ ⟨rfl, x16, rfl, hx16⟩
                show J_ zX9_listOpen T (po_X9_listOpen T b n) 0 0 54 _ [vI x16] T1
                refine j_blx (F := fX9) tb_X9 (nn_ _) bk_X9_listOpen_54 bs_X9_listOpen_54 hz (fun K hK => ?_)
                refine And.intro (fun c17 => ?_) (fun c17 => ?_)
                · refine hK 84 _ [] T1 ?_
                  refine j_blx (F := fX9) tb_X9 (nn_ _) bk_X9_listOpen_84 bs_X9_listOpen_84 hz (fun K hK => ?_)
                  intro b18 b18b
                  refine And.intro (fun c19 => ?_) (fun c19 => ?_)
                  · refine hK 94 _ [] T1 ?_
                    refine j_blx (F := fX9) tb_X9 (nn_ _) bk_X9_listOpen_94 bs_X9_listOpen_94 hz (fun K hK => ?_)
                    intro b20 b20b
                    intro b21 b21b
                    have e22 : T1 102 ((T 100 (T 109 0 5 - 1) 7) + k) 1 = T 102 ((T 100 (T 109 0 5 - 1) 7) + k) 1 := hf_7 102 ((T 100 (T 109 0 5 - 1) 7) + k) 1 rfl
                    rw [e22] at b21 b21b ⊢
                    refine iy_i (by omega) (by omega) ?_
                    refine x_nm (fun U23 hU23 => ?_)
                    have e24 := up_f hU23
                    intro b25 b25b
                    have e26 : U23 109 0 9 = T1 109 0 9 := up_k hU23 (by exact Nat.ne_of_beq_eq_false rfl) 0 9
                    rw [e26] at b25 b25b ⊢
                    refine rg_i (by omega) ?_
                    refine bd_i (by omega) ?_
                    refine x_nm (fun U27 hU27 => ?_)
                    have e28 := up_f hU27
                    refine rg_i (by omega) ?_
                    refine hK 7 [some (vR 109 0), some (vI b), some (vI n), some (vI (k + 1)), some (vR 102 ((T 100 (T 109 0 5 - 1) 7) + k))] [] U27 ?_
                    refine j_drop [some (vR 109 0), some (vI b), some (vI n), some (vI (k + 1)), none] (fun k v hk => ?_) rfl ?_
                    · match k, hk with
                      | 0, hk => exact hk
                      | 1, hk => exact hk
                      | 2, hk => exact hk
                      | 3, hk => exact hk
                      | 4, hk => cases hk
                      | k + 5, hk => cases hk
                    have e29 : U27 109 0 9 = (T1 109 0 9) + 1 := up_f hU27
                    refine ih_7 _ ?_ (k + 1) U27 (Nat.le_refl _) ?_ ?_ ?_
                    · omega
                    · exact fr_u (fr_u (fr_t (fr_0 _ _) (fr_s hf_7 rfl)) hU23 rfl) hU27 rfl
                    · omega
                    · intro j a b
                      rw [up_k hU27 (by exact Nat.ne_of_beq_eq_false rfl) 0 j]
                      by_cases z : j = T1 109 0 9
                      · rw [z, up_f hU23]; have y := (hkm (T 100 (T 109 0 5 - 1) 7 + k) (by omega) (by omega)).1; omega
                      · rw [up_g hU23 (fun y => z y.2.2)]; exact ol1 j a (by omega)
                  · refine (show po_X9_listOpen T b n T1 (some (vI 0)) from ?_)
                    exact ⟨_, rfl, fr_t (fr_0 _ _) (fr_s hf_7 rfl), ⟨by omega, by omega⟩, ol1⟩
                · intro b30 b30b
                  have e31 : T1 102 ((T 100 (T 109 0 5 - 1) 7) + k) 1 = T 102 ((T 100 (T 109 0 5 - 1) 7) + k) 1 := hf_7 102 ((T 100 (T 109 0 5 - 1) 7) + k) 1 rfl
                  rw [e31] at b30 b30b ⊢
                  intro b32 b32b
                  have e33 : T1 102 ((T 100 (T 109 0 5 - 1) 7) + k) 3 = T 102 ((T 100 (T 109 0 5 - 1) 7) + k) 3 := hf_7 102 ((T 100 (T 109 0 5 - 1) 7) + k) 3 rfl
                  rw [e33] at b32 b32b ⊢
                  refine And.intro (fun c34 => ?_) (fun c34 => ?_)
                  · refine hK 79 _ [vI (T 102 ((T 100 (T 109 0 5 - 1) 7) + k) 1), vR 584 0] T1 ?_
                    refine j_blx (F := fX9) tb_X9 (nn_ _) bk_X9_listOpen_79 bs_X9_listOpen_79 hz (fun K hK => ?_)
                    refine iy_i (by omega) (by omega) ?_
                    refine x_nm (fun U35 hU35 => ?_)
                    have e36 := up_f hU35
                    refine hK 118 _ [] U35 ?_
                    refine j_blx (F := fX9) tb_X9 (nn_ _) bk_X9_listOpen_118 bs_X9_listOpen_118 hz (fun K hK => ?_)
                    refine rg_i (by omega) ?_
                    refine hK 7 [some (vR 109 0), some (vI b), some (vI n), some (vI (k + 1)), some (vR 102 ((T 100 (T 109 0 5 - 1) 7) + k))] [] U35 ?_
                    refine j_drop [some (vR 109 0), some (vI b), some (vI n), some (vI (k + 1)), none] (fun k v hk => ?_) rfl ?_
                    · match k, hk with
                      | 0, hk => exact hk
                      | 1, hk => exact hk
                      | 2, hk => exact hk
                      | 3, hk => exact hk
                      | 4, hk => cases hk
                      | k + 5, hk => cases hk
                    have e37 : U35 109 0 9 = T1 109 0 9 := up_k hU35 (by exact Nat.ne_of_beq_eq_false rfl) 0 9
                    refine ih_7 _ ?_ (k + 1) U35 (Nat.le_refl _) ?_ ?_ ?_
                    · omega
                    · exact fr_u (fr_t (fr_0 _ _) (fr_s hf_7 rfl)) hU35 rfl
                    · omega
                    · intro j a b
                      rw [up_k hU35 (by exact Nat.ne_of_beq_eq_false rfl) 0 j]
                      exact ol1 j a (by have y := up_k hU35 (by decide : (109 : Nat) ≠ 584) 0 9; omega)
                  · refine hK 80 [some (vR 109 0), some (vI b), some (vI n), some (vI k), some (vR 102 ((T 100 (T 109 0 5 - 1) 7) + k))] [vI 0, vI (T 102 ((T 100 (T 109 0 5 - 1) 7) + k) 1), vR 584 0] T1 ?_
                    refine j_blx (F := fX9) tb_X9 (nn_ _) bk_X9_listOpen_80 bs_X9_listOpen_80 hz (fun K hK => ?_)
                    refine iy_i (by omega) (by omega) ?_
                    refine x_nm (fun U38 hU38 => ?_)
                    have e39 := up_f hU38
                    refine hK 118 _ [] U38 ?_
                    refine j_blx (F := fX9) tb_X9 (nn_ _) bk_X9_listOpen_118 bs_X9_listOpen_118 hz (fun K hK => ?_)
                    refine rg_i (by omega) ?_
                    refine hK 7 [some (vR 109 0), some (vI b), some (vI n), some (vI (k + 1)), some (vR 102 ((T 100 (T 109 0 5 - 1) 7) + k))] [] U38 ?_
                    refine j_drop [some (vR 109 0), some (vI b), some (vI n), some (vI (k + 1)), none] (fun k v hk => ?_) rfl ?_
                    · match k, hk with
                      | 0, hk => exact hk
                      | 1, hk => exact hk
                      | 2, hk => exact hk
                      | 3, hk => exact hk
                      | 4, hk => cases hk
                      | k + 5, hk => cases hk
                    have e40 : U38 109 0 9 = T1 109 0 9 := up_k hU38 (by exact Nat.ne_of_beq_eq_false rfl) 0 9
                    refine ih_7 _ ?_ (k + 1) U38 (Nat.le_refl _) ?_ ?_ ?_
                    · omega
                    · exact fr_u (fr_t (fr_0 _ _) (fr_s hf_7 rfl)) hU38 rfl
                    · omega
                    · intro j a b
                      rw [up_k hU38 (by exact Nat.ne_of_beq_eq_false rfl) 0 j]
                      exact ol1 j a (by have y := up_k hU38 (by decide : (109 : Nat) ≠ 584) 0 9; omega)
              · refine hK 118 _ [] T1 ?_
                refine j_blx (F := fX9) tb_X9 (nn_ _) bk_X9_listOpen_118 bs_X9_listOpen_118 hz (fun K hK => ?_)
                refine rg_i (by omega) ?_
                refine hK 7 [some (vR 109 0), some (vI b), some (vI n), some (vI (k + 1)), some (vR 102 ((T 100 (T 109 0 5 - 1) 7) + k))] [] T1 ?_
                refine j_drop [some (vR 109 0), some (vI b), some (vI n), some (vI (k + 1)), none] (fun k v hk => ?_) rfl ?_
                · match k, hk with
                  | 0, hk => exact hk
                  | 1, hk => exact hk
                  | 2, hk => exact hk
                  | 3, hk => exact hk
                  | 4, hk => cases hk
                  | k + 5, hk => cases hk
                refine ih_7 _ ?_ (k + 1) T1 (Nat.le_refl _) ?_ ?_ ?_
                · omega
                · exact fr_t (fr_0 _ _) (fr_s hf_7 rfl)
                · omega
                · exact ol1
  refine j_blx (F := fX9) tb_X9 (nn_ _) bk_X9_listOpen_0 bs_X9_listOpen_0 hz (fun K hK => ?_)
  refine bd_i (by omega) ?_
  refine x_nm (fun U41 hU41 => ?_)
  have e42 := up_f hU41
  refine hK 7 [some (vR 109 0), some (vI b), some (vI n), some (vI 0), none] [] U41 ?_
  have e43 : U41 109 0 9 = 0 := up_f hU41
  refine c_7 _ 0 U41 (Nat.le_refl _) ?_ ?_ ?_
  · exact fr_u (fr_0 _ _) hU41 rfl
  · omega
  · intro j a b; omega
def KO_ (T : Zt) : Prop := ∀ c : Int, 0 ≤ c → c < T 106 0 2 → T 401 c 4 ≤ 7
theorem KO__f {ws : List (Nat × List Int)} {T T' : Zt} (h : KO_ T) (f : fr_ ws T T') (w : (∀ j, fw_ ws 401 j = false) ∧ fw_ ws 106 2 = false ∧ True) : KO_ T' := by
  have e0 : ∀ i j, T' 401 i j = T 401 i j := fun i j => f 401 i j (w.1 j)
  have e1 : ∀ i, T' 106 i 2 = T 106 i 2 := fun i => f 106 i 2 w.2.1
  simp only [KO_, e0, e1] at h ⊢
  exact h
abbrev cX10_firsts : ByteArray := prog_1_method_35_code
def yX10_firsts : MethodName := ⟨RX10, "firsts", "(II)I"⟩
def zX10_firsts : Zm := (RX10, cX10_firsts, 4, (some .int), { frames := 7, cells := 0, slots := 0, locals := 179 })
theorem bk_X10_firsts_0 : ck_ fX10 (some .int) cX10_firsts 0 [.aload 0, .iload 1] 2 = true := qck_r (nn_ _) (by decide +kernel)
theorem bs_X10_firsts_0 {P : Zt → Option Zv → Prop} (K : Int → Zl → List Zv → Zt → Prop) : sx_ K P [.aload 0, .iload 1] 2 = x_aload 0 (x_iload 1 (K 2)) := ((xe_aload 0).trans (congrArg (x_aload 0) ((xe_iload 1).trans (congrArg (x_iload 1) xe_nil))))
theorem bk_X10_firsts_5 : ck_ fX10 (some .int) cX10_firsts 5 [.ifCond .eq 16, .aload 0, .iload 2] 10 = true := qck_r (nn_ _) (by decide +kernel)
theorem bs_X10_firsts_5 {P : Zt → Option Zv → Prop} (K : Int → Zl → List Zv → Zt → Prop) : sx_ K P [.ifCond .eq 16, .aload 0, .iload 2] 10 = x_ifCond .eq 16 K (x_aload 0 (x_iload 2 (K 10))) := ((xe_ifCond .eq 16).trans (congrArg (x_ifCond .eq 16 K) ((xe_aload 0).trans (congrArg (x_aload 0) ((xe_iload 2).trans (congrArg (x_iload 2) xe_nil))))))
theorem bk_X10_firsts_16 : ck_ fX10 (some .int) cX10_firsts 16 [.iconst (-2), .ireturn] 19 = true := qck_r (nn_ _) (by decide +kernel)
theorem bs_X10_firsts_16 {P : Zt → Option Zv → Prop} (K : Int → Zl → List Zv → Zt → Prop) : sx_ K P [.iconst (-2), .ireturn] 19 = x_iconst (-2) (x_ireturn P) := ((xe_iconst (-2)).trans (congrArg (x_iconst (-2)) (xe_ireturn)))
theorem bk_X10_firsts_13 : ck_ fX10 (some .int) cX10_firsts 13 [.ifCond .ne 19, .iconst (-2), .ireturn] 19 = true := qck_r (nn_ _) (by decide +kernel)
theorem bs_X10_firsts_13 {P : Zt → Option Zv → Prop} (K : Int → Zl → List Zv → Zt → Prop) : sx_ K P [.ifCond .ne 19, .iconst (-2), .ireturn] 19 = x_ifCond .ne 19 K (x_iconst (-2) (x_ireturn P)) := ((xe_ifCond .ne 19).trans (congrArg (x_ifCond .ne 19 K) ((xe_iconst (-2)).trans (congrArg (x_iconst (-2)) (xe_ireturn)))))
theorem bk_X10_firsts_19 : ck_ fX10 (some .int) cX10_firsts 19 [.aload 0, .tableswitch 0 10 2 #[], .tableswitch 0 6 1 #[], .iload 1, .aaload, .astore 3, .aload 3, .tableswitch 0 0 4 #[], .iload 2, .iaload, .iconst (-1), .if_icmp .eq 46, .aload 3, .tableswitch 0 0 6 #[], .ifCond .ne 49, .iconst (-4), .ireturn] 49 = true := qck_r (nn_ _) (by decide +kernel)
theorem bs_X10_firsts_19 {P : Zt → Option Zv → Prop} (K : Int → Zl → List Zv → Zt → Prop) : sx_ K P [.aload 0, .tableswitch 0 10 2 #[], .tableswitch 0 6 1 #[], .iload 1, .aaload, .astore 3, .aload 3, .tableswitch 0 0 4 #[], .iload 2, .iaload, .iconst (-1), .if_icmp .eq 46, .aload 3, .tableswitch 0 0 6 #[], .ifCond .ne 49, .iconst (-4), .ireturn] 49 = x_aload 0 (x_g1 110 106 (x_g1 106 521 (x_iload 1 (x_aaload (x_astore 3 (x_aload 3 (x_g2 100 404 (x_iload 2 (x_iaload (x_iconst (-1) (x_if_icmp .eq 46 K (x_aload 3 (x_g0 100 6 0 1 (x_ifCond .ne 49 K (x_iconst (-4) (x_ireturn P)))))))))))))))) := ((xe_aload 0).trans (congrArg (x_aload 0) ((xe_g1 (kk := 110) rfl tl_10_2).trans (congrArg (x_g1 110 106) ((xe_g1 (kk := 106) rfl tl_6_1).trans (congrArg (x_g1 106 521) ((xe_iload 1).trans (congrArg (x_iload 1) ((xe_aaload).trans (congrArg (x_aaload) ((xe_astore 3).trans (congrArg (x_astore 3) ((xe_aload 3).trans (congrArg (x_aload 3) ((xe_g2 (kk := 100) rfl tl_0_4).trans (congrArg (x_g2 100 404) ((xe_iload 2).trans (congrArg (x_iload 2) ((xe_iaload).trans (congrArg (x_iaload) ((xe_iconst (-1)).trans (congrArg (x_iconst (-1)) ((xe_if_icmp .eq 46).trans (congrArg (x_if_icmp .eq 46 K) ((xe_aload 3).trans (congrArg (x_aload 3) ((xe_g0 (kk := 100) rfl tl_0_6).trans (congrArg (x_g0 100 6 0 1) ((xe_ifCond .ne 49).trans (congrArg (x_ifCond .ne 49 K) ((xe_iconst (-4)).trans (congrArg (x_iconst (-4)) (xe_ireturn)))))))))))))))))))))))))))))))))
theorem bk_X10_firsts_46 : ck_ fX10 (some .int) cX10_firsts 46 [.iconst (-4), .ireturn] 49 = true := qck_r (nn_ _) (by decide +kernel)
theorem bs_X10_firsts_46 {P : Zt → Option Zv → Prop} (K : Int → Zl → List Zv → Zt → Prop) : sx_ K P [.iconst (-4), .ireturn] 49 = x_iconst (-4) (x_ireturn P) := ((xe_iconst (-4)).trans (congrArg (x_iconst (-4)) (xe_ireturn)))
theorem bk_X10_firsts_49 : ck_ fX10 (some .int) cX10_firsts 49 [.aload 0, .tableswitch 0 10 4 #[], .aload 3, .aload 3, .tableswitch 0 0 4 #[], .iload 2, .iaload] 60 = true := qck_r (nn_ _) (by decide +kernel)
theorem bs_X10_firsts_49 {P : Zt → Option Zv → Prop} (K : Int → Zl → List Zv → Zt → Prop) : sx_ K P [.aload 0, .tableswitch 0 10 4 #[], .aload 3, .aload 3, .tableswitch 0 0 4 #[], .iload 2, .iaload] 60 = x_aload 0 (x_g1 110 109 (x_aload 3 (x_aload 3 (x_g2 100 404 (x_iload 2 (x_iaload (K 60))))))) := ((xe_aload 0).trans (congrArg (x_aload 0) ((xe_g1 (kk := 110) rfl tl_10_4).trans (congrArg (x_g1 110 109) ((xe_aload 3).trans (congrArg (x_aload 3) ((xe_aload 3).trans (congrArg (x_aload 3) ((xe_g2 (kk := 100) rfl tl_0_4).trans (congrArg (x_g2 100 404) ((xe_iload 2).trans (congrArg (x_iload 2) ((xe_iaload).trans (congrArg (x_iaload) xe_nil))))))))))))))
set_option maxRecDepth 100000 in
theorem cl_X10_377 : cv_ RX10 377 yX9_countFirsts zX9_countFirsts 9 2 := ⟨gi_V (lw_b6 111 (by decide +kernel) rfl : Cond.methodLink RX10 377 yX9_countFirsts ∈ lw_g) (lw_b6 112 (by decide +kernel) rfl : Cond.instanceMethod yX9_countFirsts ∈ lw_g) (lw_b6 113 (by decide +kernel) rfl : Cond.selects yX9_countFirsts.cls yX9_countFirsts yX9_countFirsts ∈ lw_g) (lw_b1 6 (by decide +kernel) rfl : Cond.initialized yX9_countFirsts.cls ∈ lw_g) (lw_b6 114 rfl rfl : Cond.code yX9_countFirsts cX9_countFirsts 7 (some .int) ∈ lw_g), ⟨by decide, by decide, by decide +kernel⟩, ⟨_, _, rfl⟩⟩
theorem bk_X10_firsts_63 : ck_ fX10 (some .int) cX10_firsts 63 [.ireturn] 64 = true := qck_r (nn_ _) (by decide +kernel)
theorem bs_X10_firsts_63 {P : Zt → Option Zv → Prop} (K : Int → Zl → List Zv → Zt → Prop) : sx_ K P [.ireturn] 64 = x_ireturn P := (xe_ireturn)
abbrev po_X10_firsts (T : Zt) (c b : Int) : Zt → Option Zv → Prop := fun T' r => ∃ x : Int, r = some (vI x) ∧ fr_ [(109, [5]), (588, []), (107, [1, 13]), (542, []), (543, []), (544, []), (545, []), (546, []), (550, []), (551, []), (552, []), (549, []), (547, []), (548, [])] T T' ∧ (-4 ≤ x ∧ x ≤ 27)
set_option maxHeartbeats 4000000 in
theorem ct_X10_firsts {T : Zt} {c b : Int} (hka : KA_ T) (hkm : KM_ T) (hkc : KC_ T) (hko : KO_ T) : Ct_ yX10_firsts zX10_firsts T [vR 110 0, vI c, vI b] (po_X10_firsts T c b) := by
  refine ct_of pn_10 rfl rfl (Nat.le_of_ble_eq_true rfl) (fun hT hav => ?_)
  have hr_c : -2147483648 ≤ c ∧ c ≤ 2147483647 := hav (vI c) (by simp)
  have hr_b : -2147483648 ≤ b ∧ b ≤ 2147483647 := hav (vI b) (by simp)
  have hz : zX10_firsts.2.2.2.1 = some .boolean → ∀ (T' : Zt) (x : Int), po_X10_firsts T c b T' (some (vI x)) → 0 ≤ x ∧ x ≤ 1 := fun h => by cases h
  have hcc : 0 ≤ T 106 0 2 ∧ T 106 0 2 ≤ 4 := bd_f hT 106 2 (by decide +kernel : (tf_ 106)[2]? = some (0, 0, 0, 4)) 0
  have hb_clubs : 0 ≤ T 108 0 2 ∧ T 108 0 2 ≤ 12 := bd_f hT 108 2 (by decide +kernel : (tf_ 108)[2]? = some (0, 0, 0, 12)) 0
  show J_ zX10_firsts T (po_X10_firsts T c b) 0 0 0 [some (vR 110 0), some (vI c), some (vI b), none] [] T
  refine j_blx (F := fX10) tb_X10 (nn_ _) bk_X10_firsts_0 bs_X10_firsts_0 hz (fun K hK => ?_)
  refine hK 2 _ [vI c, vR 110 0] T ?_
  refine j_callV (y := yX10_isCompetition) (Yc := zX10_isCompetition) (rest := []) [vI c] (ct_X10_isCompetition (T := T)) cl_X10_107 (qd_c (by decide +kernel)) (nn_ _) rfl (rf_of rfl) (Nat.le_of_ble_eq_true rfl) (Nat.le_of_ble_eq_true rfl) (Nat.le_of_ble_eq_true rfl) rfl ?_
  rintro _ _ ⟨rfl, x1, rfl, hx1⟩
  show J_ zX10_firsts T (po_X10_firsts T c b) 0 0 5 _ [vI x1] T
  refine j_blx (F := fX10) tb_X10 (nn_ _) bk_X10_firsts_5 bs_X10_firsts_5 hz (fun K hK => ?_)
  refine And.intro (fun c2 => ?_) (fun c2 => ?_)
  · refine hK 16 _ [] T ?_
    refine j_blx (F := fX10) tb_X10 (nn_ _) bk_X10_firsts_16 bs_X10_firsts_16 hz (fun K hK => ?_)
    refine (show po_X10_firsts T c b T (some (vI (-2))) from ?_)
    exact ⟨_, rfl, fr_0 _ _, by omega⟩
  · refine hK 10 _ [vI b, vR 110 0] T ?_
    refine j_callV (y := yX10_isClub) (Yc := zX10_isClub) (rest := []) [vI b] (ct_X10_isClub (T := T)) cl_X10_137 (qd_c (by decide +kernel)) (nn_ _) rfl (rf_of rfl) (Nat.le_of_ble_eq_true rfl) (Nat.le_of_ble_eq_true rfl) (Nat.le_of_ble_eq_true rfl) rfl ?_
    rintro _ _ ⟨rfl, x3, rfl, hx3⟩
    show J_ zX10_firsts T (po_X10_firsts T c b) 0 0 13 _ [vI x3] T
    refine j_blx (F := fX10) tb_X10 (nn_ _) bk_X10_firsts_13 bs_X10_firsts_13 hz (fun K hK => ?_)
    refine And.intro (fun c4 => ?_) (fun c4 => ?_)
    · refine hK 19 _ [] T ?_
      refine j_blx (F := fX10) tb_X10 (nn_ _) bk_X10_firsts_19 bs_X10_firsts_19 hz (fun K hK => ?_)
      refine ix_i (by omega) ?_
      refine And.intro (fun c5 => ?_) (fun c5 => ?_)
      · exact absurd (show T 521 0 c = 0 by omega) (hka.1 _ (by omega) (by omega))
      · refine ix_i (by omega) ?_
        intro b6 b6b
        refine And.intro (fun c7 => ?_) (fun c7 => ?_)
        · refine hK 46 [some (vR 110 0), some (vI c), some (vI b), some (vR 100 c)] [] T ?_
          refine j_blx (F := fX10) tb_X10 (nn_ _) bk_X10_firsts_46 bs_X10_firsts_46 hz (fun K hK => ?_)
          refine (show po_X10_firsts T c b T (some (vI (-4))) from ?_)
          exact ⟨_, rfl, fr_0 _ _, by omega⟩
        · intro b8 b8b
          refine And.intro (fun c9 => ?_) (fun c9 => ?_)
          · refine hK 49 _ [] T ?_
            refine j_blx (F := fX10) tb_X10 (nn_ _) bk_X10_firsts_49 bs_X10_firsts_49 hz (fun K hK => ?_)
            refine ix_i (by omega) ?_
            intro b10 b10b
            refine hK 60 _ [vI (T 404 c b), vR 100 c, vR 109 0] T ?_
            refine j_callV (y := yX9_countFirsts) (Yc := zX9_countFirsts) (rest := []) [vR 100 c, vI (T 404 c b)] (ct_X9_countFirsts (T := T) (by exact hka) (by exact hkm) (by exact hkc) (by omega) (by omega) (by exact hko c (by omega) (by omega))) cl_X10_377 (qd_c (by decide +kernel)) (nn_ _) rfl (rf_of rfl) (Nat.le_of_ble_eq_true rfl) (Nat.le_of_ble_eq_true rfl) (Nat.le_of_ble_eq_true rfl) rfl ?_
            rintro U11 _ ⟨x12, rfl, fU11, qU11⟩
            show J_ zX10_firsts T (po_X10_firsts T c b) 0 0 63 _ [vI x12] U11
            refine j_blx (F := fX10) tb_X10 (nn_ _) bk_X10_firsts_63 bs_X10_firsts_63 hz (fun K hK => ?_)
            refine (show po_X10_firsts T c b U11 (some (vI x12)) from ?_)
            exact ⟨_, rfl, fr_t (fr_0 _ _) (fr_s fU11 rfl), by omega⟩
          · refine (show po_X10_firsts T c b T (some (vI (-4))) from ?_)
            exact ⟨_, rfl, fr_0 _ _, by omega⟩
    · refine (show po_X10_firsts T c b T (some (vI (-2))) from ?_)
      exact ⟨_, rfl, fr_0 _ _, by omega⟩
abbrev cX10_table : ByteArray := prog_1_method_29_code
def yX10_table : MethodName := ⟨RX10, "table", "(IIII)I"⟩
def zX10_table : Zm := (RX10, cX10_table, 7, (some .int), { frames := 5, cells := 0, slots := 0, locals := 127 })
theorem bk_X10_table_0 : ck_ fX10 (some .int) cX10_table 0 [.aload 0, .iload 1] 2 = true := qck_r (nn_ _) (by decide +kernel)
theorem bs_X10_table_0 {P : Zt → Option Zv → Prop} (K : Int → Zl → List Zv → Zt → Prop) : sx_ K P [.aload 0, .iload 1] 2 = x_aload 0 (x_iload 1 (K 2)) := ((xe_aload 0).trans (congrArg (x_aload 0) ((xe_iload 1).trans (congrArg (x_iload 1) xe_nil))))
theorem bk_X10_table_5 : ck_ fX10 (some .int) cX10_table 5 [.ifCond .eq 16, .aload 0, .iload 3] 10 = true := qck_r (nn_ _) (by decide +kernel)
theorem bs_X10_table_5 {P : Zt → Option Zv → Prop} (K : Int → Zl → List Zv → Zt → Prop) : sx_ K P [.ifCond .eq 16, .aload 0, .iload 3] 10 = x_ifCond .eq 16 K (x_aload 0 (x_iload 3 (K 10))) := ((xe_ifCond .eq 16).trans (congrArg (x_ifCond .eq 16 K) ((xe_aload 0).trans (congrArg (x_aload 0) ((xe_iload 3).trans (congrArg (x_iload 3) xe_nil))))))
theorem bk_X10_table_16 : ck_ fX10 (some .int) cX10_table 16 [.iconst (-2), .ireturn] 19 = true := qck_r (nn_ _) (by decide +kernel)
theorem bs_X10_table_16 {P : Zt → Option Zv → Prop} (K : Int → Zl → List Zv → Zt → Prop) : sx_ K P [.iconst (-2), .ireturn] 19 = x_iconst (-2) (x_ireturn P) := ((xe_iconst (-2)).trans (congrArg (x_iconst (-2)) (xe_ireturn)))
theorem bk_X10_table_13 : ck_ fX10 (some .int) cX10_table 13 [.ifCond .ne 19, .iconst (-2), .ireturn] 19 = true := qck_r (nn_ _) (by decide +kernel)
theorem bs_X10_table_13 {P : Zt → Option Zv → Prop} (K : Int → Zl → List Zv → Zt → Prop) : sx_ K P [.ifCond .ne 19, .iconst (-2), .ireturn] 19 = x_ifCond .ne 19 K (x_iconst (-2) (x_ireturn P)) := ((xe_ifCond .ne 19).trans (congrArg (x_ifCond .ne 19 K) ((xe_iconst (-2)).trans (congrArg (x_iconst (-2)) (xe_ireturn)))))
theorem bk_X10_table_19 : ck_ fX10 (some .int) cX10_table 19 [.iload 2] 20 = true := qck_r (nn_ _) (by decide +kernel)
theorem bs_X10_table_19 {P : Zt → Option Zv → Prop} (K : Int → Zl → List Zv → Zt → Prop) : sx_ K P [.iload 2] 20 = x_iload 2 (K 20) := ((xe_iload 2).trans (congrArg (x_iload 2) xe_nil))
theorem bk_X10_table_23 : ck_ fX10 (some .int) cX10_table 23 [.ifCond .eq 38, .iload 4, .ifCond .lt 38, .iload 4, .iconst 7, .if_icmp .le 41, .iconst (-3), .ireturn] 41 = true := qck_r (nn_ _) (by decide +kernel)
theorem bs_X10_table_23 {P : Zt → Option Zv → Prop} (K : Int → Zl → List Zv → Zt → Prop) : sx_ K P [.ifCond .eq 38, .iload 4, .ifCond .lt 38, .iload 4, .iconst 7, .if_icmp .le 41, .iconst (-3), .ireturn] 41 = x_ifCond .eq 38 K (x_iload 4 (x_ifCond .lt 38 K (x_iload 4 (x_iconst 7 (x_if_icmp .le 41 K (x_iconst (-3) (x_ireturn P))))))) := ((xe_ifCond .eq 38).trans (congrArg (x_ifCond .eq 38 K) ((xe_iload 4).trans (congrArg (x_iload 4) ((xe_ifCond .lt 38).trans (congrArg (x_ifCond .lt 38 K) ((xe_iload 4).trans (congrArg (x_iload 4) ((xe_iconst 7).trans (congrArg (x_iconst 7) ((xe_if_icmp .le 41).trans (congrArg (x_if_icmp .le 41 K) ((xe_iconst (-3)).trans (congrArg (x_iconst (-3)) (xe_ireturn)))))))))))))))
theorem bk_X10_table_38 : ck_ fX10 (some .int) cX10_table 38 [.iconst (-3), .ireturn] 41 = true := qck_r (nn_ _) (by decide +kernel)
theorem bs_X10_table_38 {P : Zt → Option Zv → Prop} (K : Int → Zl → List Zv → Zt → Prop) : sx_ K P [.iconst (-3), .ireturn] 41 = x_iconst (-3) (x_ireturn P) := ((xe_iconst (-3)).trans (congrArg (x_iconst (-3)) (xe_ireturn)))
theorem bk_X10_table_41 : ck_ fX10 (some .int) cX10_table 41 [.aload 0, .tableswitch 0 10 2 #[], .tableswitch 0 6 1 #[], .iload 1, .aaload, .astore 5, .aload 5, .tableswitch 0 0 4 #[], .iload 3, .iaload, .istore 6, .iload 6, .iconst (-1), .if_icmp .ne 70, .iconst (-4), .ireturn] 70 = true := qck_r (nn_ _) (by decide +kernel)
theorem bs_X10_table_41 {P : Zt → Option Zv → Prop} (K : Int → Zl → List Zv → Zt → Prop) : sx_ K P [.aload 0, .tableswitch 0 10 2 #[], .tableswitch 0 6 1 #[], .iload 1, .aaload, .astore 5, .aload 5, .tableswitch 0 0 4 #[], .iload 3, .iaload, .istore 6, .iload 6, .iconst (-1), .if_icmp .ne 70, .iconst (-4), .ireturn] 70 = x_aload 0 (x_g1 110 106 (x_g1 106 521 (x_iload 1 (x_aaload (x_astore 5 (x_aload 5 (x_g2 100 404 (x_iload 3 (x_iaload (x_istore 6 (x_iload 6 (x_iconst (-1) (x_if_icmp .ne 70 K (x_iconst (-4) (x_ireturn P))))))))))))))) := ((xe_aload 0).trans (congrArg (x_aload 0) ((xe_g1 (kk := 110) rfl tl_10_2).trans (congrArg (x_g1 110 106) ((xe_g1 (kk := 106) rfl tl_6_1).trans (congrArg (x_g1 106 521) ((xe_iload 1).trans (congrArg (x_iload 1) ((xe_aaload).trans (congrArg (x_aaload) ((xe_astore 5).trans (congrArg (x_astore 5) ((xe_aload 5).trans (congrArg (x_aload 5) ((xe_g2 (kk := 100) rfl tl_0_4).trans (congrArg (x_g2 100 404) ((xe_iload 3).trans (congrArg (x_iload 3) ((xe_iaload).trans (congrArg (x_iaload) ((xe_istore 6).trans (congrArg (x_istore 6) ((xe_iload 6).trans (congrArg (x_iload 6) ((xe_iconst (-1)).trans (congrArg (x_iconst (-1)) ((xe_if_icmp .ne 70).trans (congrArg (x_if_icmp .ne 70 K) ((xe_iconst (-4)).trans (congrArg (x_iconst (-4)) (xe_ireturn)))))))))))))))))))))))))))))))
theorem bk_X10_table_70 : ck_ fX10 (some .int) cX10_table 70 [.aload 0, .tableswitch 0 10 3 #[], .aload 5, .iload 2] 77 = true := qck_r (nn_ _) (by decide +kernel)
theorem bs_X10_table_70 {P : Zt → Option Zv → Prop} (K : Int → Zl → List Zv → Zt → Prop) : sx_ K P [.aload 0, .tableswitch 0 10 3 #[], .aload 5, .iload 2] 77 = x_aload 0 (x_g1 110 107 (x_aload 5 (x_iload 2 (K 77)))) := ((xe_aload 0).trans (congrArg (x_aload 0) ((xe_g1 (kk := 110) rfl tl_10_3).trans (congrArg (x_g1 110 107) ((xe_aload 5).trans (congrArg (x_aload 5) ((xe_iload 2).trans (congrArg (x_iload 2) xe_nil))))))))
set_option maxRecDepth 100000 in
theorem cl_X10_350 : cv_ RX10 350 yX7_tally zX7_tally 7 2 := ⟨gi_V (lw_b5 200 (by decide +kernel) rfl : Cond.methodLink RX10 350 yX7_tally ∈ lw_g) (lw_b5 201 (by decide +kernel) rfl : Cond.instanceMethod yX7_tally ∈ lw_g) (lw_b5 202 (by decide +kernel) rfl : Cond.selects yX7_tally.cls yX7_tally yX7_tally ∈ lw_g) (lw_b1 5 (by decide +kernel) rfl : Cond.initialized yX7_tally.cls ∈ lw_g) (lw_b5 203 rfl rfl : Cond.code yX7_tally cX7_tally 5 none ∈ lw_g), ⟨by decide, by decide, by decide +kernel⟩, ⟨_, _, rfl⟩⟩
theorem bk_X10_table_80 : ck_ fX10 (some .int) cX10_table 80 [.aload 0, .tableswitch 0 10 3 #[]] 84 = true := qck_r (nn_ _) (by decide +kernel)
theorem bs_X10_table_80 {P : Zt → Option Zv → Prop} (K : Int → Zl → List Zv → Zt → Prop) : sx_ K P [.aload 0, .tableswitch 0 10 3 #[]] 84 = x_aload 0 (x_g1 110 107 (K 84)) := ((xe_aload 0).trans (congrArg (x_aload 0) ((xe_g1 (kk := 110) rfl tl_10_3).trans (congrArg (x_g1 110 107) xe_nil))))
set_option maxRecDepth 100000 in
theorem cl_X10_353 : cv_ RX10 353 yX7_rank zX7_rank 7 0 := ⟨gi_V (lw_b5 224 (by decide +kernel) rfl : Cond.methodLink RX10 353 yX7_rank ∈ lw_g) (lw_b5 225 (by decide +kernel) rfl : Cond.instanceMethod yX7_rank ∈ lw_g) (lw_b5 226 (by decide +kernel) rfl : Cond.selects yX7_rank.cls yX7_rank yX7_rank ∈ lw_g) (lw_b1 5 (by decide +kernel) rfl : Cond.initialized yX7_rank.cls ∈ lw_g) (lw_b5 227 rfl rfl : Cond.code yX7_rank cX7_rank 3 none ∈ lw_g), ⟨by decide, by decide, by decide +kernel⟩, ⟨_, _, rfl⟩⟩
theorem bk_X10_table_87 : ck_ fX10 (some .int) cX10_table 87 [.aload 0, .tableswitch 0 10 3 #[], .tableswitch 0 7 2 #[], .iload 6, .iconst 8, .imul, .iload 4, .iadd, .iaload, .ireturn] 104 = true := qck_r (nn_ _) (by decide +kernel)
theorem bs_X10_table_87 {P : Zt → Option Zv → Prop} (K : Int → Zl → List Zv → Zt → Prop) : sx_ K P [.aload 0, .tableswitch 0 10 3 #[], .tableswitch 0 7 2 #[], .iload 6, .iconst 8, .imul, .iload 4, .iadd, .iaload, .ireturn] 104 = x_aload 0 (x_g1 110 107 (x_g1 107 542 (x_iload 6 (x_iconst 8 (x_imul (x_iload 4 (x_iadd (x_iaload (x_ireturn P))))))))) := ((xe_aload 0).trans (congrArg (x_aload 0) ((xe_g1 (kk := 110) rfl tl_10_3).trans (congrArg (x_g1 110 107) ((xe_g1 (kk := 107) rfl tl_7_2).trans (congrArg (x_g1 107 542) ((xe_iload 6).trans (congrArg (x_iload 6) ((xe_iconst 8).trans (congrArg (x_iconst 8) ((xe_imul).trans (congrArg (x_imul) ((xe_iload 4).trans (congrArg (x_iload 4) ((xe_iadd).trans (congrArg (x_iadd) ((xe_iaload).trans (congrArg (x_iaload) (xe_ireturn)))))))))))))))))))
abbrev po_X10_table (T : Zt) (c d b w : Int) : Zt → Option Zv → Prop := fun T' r => ∃ x : Int, r = some (vI x) ∧ fr_ [(107, [1, 13]), (542, []), (543, []), (544, []), (545, []), (546, []), (550, []), (551, []), (552, []), (549, []), (547, []), (548, [])] T T' ∧ (0 = (0 : Int))
set_option maxHeartbeats 4000000 in
theorem ct_X10_table {T : Zt} {c d b w : Int} (hka : KA_ T) (hkm : KM_ T) (hkc : KC_ T) (hko : KO_ T) : Ct_ yX10_table zX10_table T [vR 110 0, vI c, vI d, vI b, vI w] (po_X10_table T c d b w) := by
  refine ct_of pn_10 rfl rfl (Nat.le_of_ble_eq_true rfl) (fun hT hav => ?_)
  have hr_c : -2147483648 ≤ c ∧ c ≤ 2147483647 := hav (vI c) (by simp)
  have hr_d : -2147483648 ≤ d ∧ d ≤ 2147483647 := hav (vI d) (by simp)
  have hr_b : -2147483648 ≤ b ∧ b ≤ 2147483647 := hav (vI b) (by simp)
  have hr_w : -2147483648 ≤ w ∧ w ≤ 2147483647 := hav (vI w) (by simp)
  have hz : zX10_table.2.2.2.1 = some .boolean → ∀ (T' : Zt) (x : Int), po_X10_table T c d b w T' (some (vI x)) → 0 ≤ x ∧ x ≤ 1 := fun h => by cases h
  have hcc : 0 ≤ T 106 0 2 ∧ T 106 0 2 ≤ 4 := bd_f hT 106 2 (by decide +kernel : (tf_ 106)[2]? = some (0, 0, 0, 4)) 0
  have hb_clubs : 0 ≤ T 108 0 2 ∧ T 108 0 2 ≤ 12 := bd_f hT 108 2 (by decide +kernel : (tf_ 108)[2]? = some (0, 0, 0, 12)) 0
  show J_ zX10_table T (po_X10_table T c d b w) 0 0 0 [some (vR 110 0), some (vI c), some (vI d), some (vI b), some (vI w), none, none] [] T
  refine j_blx (F := fX10) tb_X10 (nn_ _) bk_X10_table_0 bs_X10_table_0 hz (fun K hK => ?_)
  refine hK 2 _ [vI c, vR 110 0] T ?_
  refine j_callV (y := yX10_isCompetition) (Yc := zX10_isCompetition) (rest := []) [vI c] (ct_X10_isCompetition (T := T)) cl_X10_107 (qd_c (by decide +kernel)) (nn_ _) rfl (rf_of rfl) (Nat.le_of_ble_eq_true rfl) (Nat.le_of_ble_eq_true rfl) (Nat.le_of_ble_eq_true rfl) rfl ?_
  rintro _ _ ⟨rfl, x1, rfl, hx1⟩
  show J_ zX10_table T (po_X10_table T c d b w) 0 0 5 _ [vI x1] T
  refine j_blx (F := fX10) tb_X10 (nn_ _) bk_X10_table_5 bs_X10_table_5 hz (fun K hK => ?_)
  refine And.intro (fun c2 => ?_) (fun c2 => ?_)
  · refine hK 16 _ [] T ?_
    refine j_blx (F := fX10) tb_X10 (nn_ _) bk_X10_table_16 bs_X10_table_16 hz (fun K hK => ?_)
    refine (show po_X10_table T c d b w T (some (vI (-2))) from ?_)
    exact ⟨_, rfl, fr_0 _ _, by rfl⟩
  · refine hK 10 _ [vI b, vR 110 0] T ?_
    refine j_callV (y := yX10_isClub) (Yc := zX10_isClub) (rest := []) [vI b] (ct_X10_isClub (T := T)) cl_X10_137 (qd_c (by decide +kernel)) (nn_ _) rfl (rf_of rfl) (Nat.le_of_ble_eq_true rfl) (Nat.le_of_ble_eq_true rfl) (Nat.le_of_ble_eq_true rfl) rfl ?_
    rintro _ _ ⟨rfl, x3, rfl, hx3⟩
    show J_ zX10_table T (po_X10_table T c d b w) 0 0 13 _ [vI x3] T
    refine j_blx (F := fX10) tb_X10 (nn_ _) bk_X10_table_13 bs_X10_table_13 hz (fun K hK => ?_)
    refine And.intro (fun c4 => ?_) (fun c4 => ?_)
    · refine hK 19 _ [] T ?_
      refine j_blx (F := fX10) tb_X10 (nn_ _) bk_X10_table_19 bs_X10_table_19 hz (fun K hK => ?_)
      refine hK 20 _ [vI d] T ?_
      refine j_callS (y := yX10_isDay) (Yc := zX10_isDay) (rest := []) [vI d] (ct_X10_isDay (T := T)) cl_X10_140 (qd_c (by decide +kernel)) (nn_ _) rfl (rf_of rfl) (Nat.le_of_ble_eq_true rfl) (Nat.le_of_ble_eq_true rfl) (Nat.le_of_ble_eq_true rfl) rfl ?_
      rintro _ _ ⟨rfl, x5, rfl, hx5⟩
      show J_ zX10_table T (po_X10_table T c d b w) 0 0 23 _ [vI x5] T
      refine j_blx (F := fX10) tb_X10 (nn_ _) bk_X10_table_23 bs_X10_table_23 hz (fun K hK => ?_)
      refine And.intro (fun c6 => ?_) (fun c6 => ?_)
      · refine hK 38 _ [] T ?_
        refine j_blx (F := fX10) tb_X10 (nn_ _) bk_X10_table_38 bs_X10_table_38 hz (fun K hK => ?_)
        refine (show po_X10_table T c d b w T (some (vI (-3))) from ?_)
        exact ⟨_, rfl, fr_0 _ _, by rfl⟩
      · refine And.intro (fun c7 => ?_) (fun c7 => ?_)
        · refine hK 38 _ [] T ?_
          refine j_blx (F := fX10) tb_X10 (nn_ _) bk_X10_table_38 bs_X10_table_38 hz (fun K hK => ?_)
          refine (show po_X10_table T c d b w T (some (vI (-3))) from ?_)
          exact ⟨_, rfl, fr_0 _ _, by rfl⟩
        · refine And.intro (fun c8 => ?_) (fun c8 => ?_)
          · refine hK 41 _ [] T ?_
            refine j_blx (F := fX10) tb_X10 (nn_ _) bk_X10_table_41 bs_X10_table_41 hz (fun K hK => ?_)
            refine ix_i (by omega) ?_
            refine And.intro (fun c9 => ?_) (fun c9 => ?_)
            · exact absurd (show T 521 0 c = 0 by omega) (hka.1 _ (by omega) (by omega))
            · refine ix_i (by omega) ?_
              intro b10 b10b
              refine And.intro (fun c11 => ?_) (fun c11 => ?_)
              · refine hK 70 [some (vR 110 0), some (vI c), some (vI d), some (vI b), some (vI w), some (vR 100 c), some (vI (T 404 c b))] [] T ?_
                refine j_blx (F := fX10) tb_X10 (nn_ _) bk_X10_table_70 bs_X10_table_70 hz (fun K hK => ?_)
                refine hK 77 _ [vI d, vR 100 c, vR 107 0] T ?_
                refine j_callV (y := yX7_tally) (Yc := zX7_tally) (rest := []) [vR 100 c, vI d] (ct_X7_tally (T := T) (hka) (hkc) (by omega)) cl_X10_350 (qd_c (by decide +kernel)) (nn_ _) rfl (rf_of rfl) (Nat.le_of_ble_eq_true rfl) (Nat.le_of_ble_eq_true rfl) (Nat.le_of_ble_eq_true rfl) rfl ?_
                rintro U12 _ ⟨rfl, fU12, qU12⟩
                show J_ zX10_table T (po_X10_table T c d b w) 0 0 80 _ [] U12
                refine j_blx (F := fX10) tb_X10 (nn_ _) bk_X10_table_80 bs_X10_table_80 hz (fun K hK => ?_)
                refine hK 84 _ [vR 107 0] U12 ?_
                have e13 : U12 401 c 4 = T 401 c 4 := fU12 401 c 4 rfl
                have y14 := hko c (by omega) (by omega)
                refine j_callV (y := yX7_rank) (Yc := zX7_rank) (rest := []) [] (ct_X7_rank (T := U12) (by omega) (by rw [show U12 107 0 1 - 1 = c by omega]; omega)) cl_X10_353 (qd_c (by decide +kernel)) (nn_ _) rfl (rf_of rfl) (Nat.le_of_ble_eq_true rfl) (Nat.le_of_ble_eq_true rfl) (Nat.le_of_ble_eq_true rfl) rfl ?_
                rintro U15 _ ⟨rfl, fU15, qU15⟩
                show J_ zX10_table T (po_X10_table T c d b w) 0 0 87 _ [] U15
                refine j_blx (F := fX10) tb_X10 (nn_ _) bk_X10_table_87 bs_X10_table_87 hz (fun K hK => ?_)
                refine rg_i (by omega) ?_
                refine rg_i (by omega) ?_
                refine ix_i (by omega) ?_
                intro b16 b16b
                refine (show po_X10_table T c d b w U15 (some (vI (U15 542 0 (((T 404 c b) * 8) + w)))) from ?_)
                exact ⟨_, rfl, fr_t (fr_t (fr_0 _ _) (fr_s fU12 rfl)) (fr_s fU15 rfl), by rfl⟩
              · refine (show po_X10_table T c d b w T (some (vI (-4))) from ?_)
                exact ⟨_, rfl, fr_0 _ _, by rfl⟩
          · refine (show po_X10_table T c d b w T (some (vI (-3))) from ?_)
            exact ⟨_, rfl, fr_0 _ _, by rfl⟩
    · refine (show po_X10_table T c d b w T (some (vI (-2))) from ?_)
      exact ⟨_, rfl, fr_0 _ _, by rfl⟩
abbrev cX10_parted : ByteArray := prog_1_method_31_code
def yX10_parted : MethodName := ⟨RX10, "parted", "(III)I"⟩
def zX10_parted : Zm := (RX10, cX10_parted, 5, (some .int), { frames := 5, cells := 0, slots := 0, locals := 127 })
theorem bk_X10_parted_0 : ck_ fX10 (some .int) cX10_parted 0 [.aload 0, .iload 1] 2 = true := qck_r (nn_ _) (by decide +kernel)
theorem bs_X10_parted_0 {P : Zt → Option Zv → Prop} (K : Int → Zl → List Zv → Zt → Prop) : sx_ K P [.aload 0, .iload 1] 2 = x_aload 0 (x_iload 1 (K 2)) := ((xe_aload 0).trans (congrArg (x_aload 0) ((xe_iload 1).trans (congrArg (x_iload 1) xe_nil))))
theorem bk_X10_parted_5 : ck_ fX10 (some .int) cX10_parted 5 [.ifCond .ne 11, .iconst (-2), .ireturn] 11 = true := qck_r (nn_ _) (by decide +kernel)
theorem bs_X10_parted_5 {P : Zt → Option Zv → Prop} (K : Int → Zl → List Zv → Zt → Prop) : sx_ K P [.ifCond .ne 11, .iconst (-2), .ireturn] 11 = x_ifCond .ne 11 K (x_iconst (-2) (x_ireturn P)) := ((xe_ifCond .ne 11).trans (congrArg (x_ifCond .ne 11 K) ((xe_iconst (-2)).trans (congrArg (x_iconst (-2)) (xe_ireturn)))))
theorem bk_X10_parted_11 : ck_ fX10 (some .int) cX10_parted 11 [.iload 2] 12 = true := qck_r (nn_ _) (by decide +kernel)
theorem bs_X10_parted_11 {P : Zt → Option Zv → Prop} (K : Int → Zl → List Zv → Zt → Prop) : sx_ K P [.iload 2] 12 = x_iload 2 (K 12) := ((xe_iload 2).trans (congrArg (x_iload 2) xe_nil))
theorem bk_X10_parted_15 : ck_ fX10 (some .int) cX10_parted 15 [.ifCond .ne 21, .iconst (-3), .ireturn] 21 = true := qck_r (nn_ _) (by decide +kernel)
theorem bs_X10_parted_15 {P : Zt → Option Zv → Prop} (K : Int → Zl → List Zv → Zt → Prop) : sx_ K P [.ifCond .ne 21, .iconst (-3), .ireturn] 21 = x_ifCond .ne 21 K (x_iconst (-3) (x_ireturn P)) := ((xe_ifCond .ne 21).trans (congrArg (x_ifCond .ne 21 K) ((xe_iconst (-3)).trans (congrArg (x_iconst (-3)) (xe_ireturn)))))
theorem bk_X10_parted_21 : ck_ fX10 (some .int) cX10_parted 21 [.aload 0, .tableswitch 0 10 2 #[], .tableswitch 0 6 1 #[], .iload 1, .aaload, .astore 4, .iload 3, .aload 4, .tableswitch 0 0 5 #[], .iconst 1, .isub] 40 = true := qck_r (nn_ _) (by decide +kernel)
theorem bs_X10_parted_21 {P : Zt → Option Zv → Prop} (K : Int → Zl → List Zv → Zt → Prop) : sx_ K P [.aload 0, .tableswitch 0 10 2 #[], .tableswitch 0 6 1 #[], .iload 1, .aaload, .astore 4, .iload 3, .aload 4, .tableswitch 0 0 5 #[], .iconst 1, .isub] 40 = x_aload 0 (x_g1 110 106 (x_g1 106 521 (x_iload 1 (x_aaload (x_astore 4 (x_iload 3 (x_aload 4 (x_g0 100 5 0 12 (x_iconst 1 (x_isub (K 40))))))))))) := ((xe_aload 0).trans (congrArg (x_aload 0) ((xe_g1 (kk := 110) rfl tl_10_2).trans (congrArg (x_g1 110 106) ((xe_g1 (kk := 106) rfl tl_6_1).trans (congrArg (x_g1 106 521) ((xe_iload 1).trans (congrArg (x_iload 1) ((xe_aaload).trans (congrArg (x_aaload) ((xe_astore 4).trans (congrArg (x_astore 4) ((xe_iload 3).trans (congrArg (x_iload 3) ((xe_aload 4).trans (congrArg (x_aload 4) ((xe_g0 (kk := 100) rfl tl_0_5).trans (congrArg (x_g0 100 5 0 12) ((xe_iconst 1).trans (congrArg (x_iconst 1) ((xe_isub).trans (congrArg (x_isub) xe_nil))))))))))))))))))))))
theorem bk_X10_parted_43 : ck_ fX10 (some .int) cX10_parted 43 [.ifCond .ne 48, .iconst (-1), .ireturn] 48 = true := qck_r (nn_ _) (by decide +kernel)
theorem bs_X10_parted_43 {P : Zt → Option Zv → Prop} (K : Int → Zl → List Zv → Zt → Prop) : sx_ K P [.ifCond .ne 48, .iconst (-1), .ireturn] 48 = x_ifCond .ne 48 K (x_iconst (-1) (x_ireturn P)) := ((xe_ifCond .ne 48).trans (congrArg (x_ifCond .ne 48 K) ((xe_iconst (-1)).trans (congrArg (x_iconst (-1)) (xe_ireturn)))))
theorem bk_X10_parted_48 : ck_ fX10 (some .int) cX10_parted 48 [.aload 0, .tableswitch 0 10 3 #[], .aload 4, .iload 2] 55 = true := qck_r (nn_ _) (by decide +kernel)
theorem bs_X10_parted_48 {P : Zt → Option Zv → Prop} (K : Int → Zl → List Zv → Zt → Prop) : sx_ K P [.aload 0, .tableswitch 0 10 3 #[], .aload 4, .iload 2] 55 = x_aload 0 (x_g1 110 107 (x_aload 4 (x_iload 2 (K 55)))) := ((xe_aload 0).trans (congrArg (x_aload 0) ((xe_g1 (kk := 110) rfl tl_10_3).trans (congrArg (x_g1 110 107) ((xe_aload 4).trans (congrArg (x_aload 4) ((xe_iload 2).trans (congrArg (x_iload 2) xe_nil))))))))
theorem bk_X10_parted_58 : ck_ fX10 (some .int) cX10_parted 58 [.aload 0, .tableswitch 0 10 3 #[]] 62 = true := qck_r (nn_ _) (by decide +kernel)
theorem bs_X10_parted_58 {P : Zt → Option Zv → Prop} (K : Int → Zl → List Zv → Zt → Prop) : sx_ K P [.aload 0, .tableswitch 0 10 3 #[]] 62 = x_aload 0 (x_g1 110 107 (K 62)) := ((xe_aload 0).trans (congrArg (x_aload 0) ((xe_g1 (kk := 110) rfl tl_10_3).trans (congrArg (x_g1 110 107) xe_nil))))
theorem bk_X10_parted_65 : ck_ fX10 (some .int) cX10_parted 65 [.aload 0, .tableswitch 0 10 3 #[], .tableswitch 0 7 8 #[], .iload 3, .iaload, .ireturn] 75 = true := qck_r (nn_ _) (by decide +kernel)
theorem bs_X10_parted_65 {P : Zt → Option Zv → Prop} (K : Int → Zl → List Zv → Zt → Prop) : sx_ K P [.aload 0, .tableswitch 0 10 3 #[], .tableswitch 0 7 8 #[], .iload 3, .iaload, .ireturn] 75 = x_aload 0 (x_g1 110 107 (x_g1 107 548 (x_iload 3 (x_iaload (x_ireturn P))))) := ((xe_aload 0).trans (congrArg (x_aload 0) ((xe_g1 (kk := 110) rfl tl_10_3).trans (congrArg (x_g1 110 107) ((xe_g1 (kk := 107) rfl tl_7_8).trans (congrArg (x_g1 107 548) ((xe_iload 3).trans (congrArg (x_iload 3) ((xe_iaload).trans (congrArg (x_iaload) (xe_ireturn)))))))))))
abbrev po_X10_parted (T : Zt) (c d k : Int) : Zt → Option Zv → Prop := fun T' r => ∃ x : Int, r = some (vI x) ∧ fr_ [(107, [1, 13]), (542, []), (543, []), (544, []), (545, []), (546, []), (550, []), (551, []), (552, []), (549, []), (547, []), (548, [])] T T' ∧ (0 = (0 : Int))
set_option maxHeartbeats 4000000 in
theorem ct_X10_parted {T : Zt} {c d k : Int} (hka : KA_ T) (hkm : KM_ T) (hkc : KC_ T) (hko : KO_ T) : Ct_ yX10_parted zX10_parted T [vR 110 0, vI c, vI d, vI k] (po_X10_parted T c d k) := by
  refine ct_of pn_10 rfl rfl (Nat.le_of_ble_eq_true rfl) (fun hT hav => ?_)
  have hr_c : -2147483648 ≤ c ∧ c ≤ 2147483647 := hav (vI c) (by simp)
  have hr_d : -2147483648 ≤ d ∧ d ≤ 2147483647 := hav (vI d) (by simp)
  have hr_k : -2147483648 ≤ k ∧ k ≤ 2147483647 := hav (vI k) (by simp)
  have hz : zX10_parted.2.2.2.1 = some .boolean → ∀ (T' : Zt) (x : Int), po_X10_parted T c d k T' (some (vI x)) → 0 ≤ x ∧ x ≤ 1 := fun h => by cases h
  have hcc : 0 ≤ T 106 0 2 ∧ T 106 0 2 ≤ 4 := bd_f hT 106 2 (by decide +kernel : (tf_ 106)[2]? = some (0, 0, 0, 4)) 0
  have hb_clubs : 0 ≤ T 108 0 2 ∧ T 108 0 2 ≤ 12 := bd_f hT 108 2 (by decide +kernel : (tf_ 108)[2]? = some (0, 0, 0, 12)) 0
  show J_ zX10_parted T (po_X10_parted T c d k) 0 0 0 [some (vR 110 0), some (vI c), some (vI d), some (vI k), none] [] T
  refine j_blx (F := fX10) tb_X10 (nn_ _) bk_X10_parted_0 bs_X10_parted_0 hz (fun K hK => ?_)
  refine hK 2 _ [vI c, vR 110 0] T ?_
  refine j_callV (y := yX10_isCompetition) (Yc := zX10_isCompetition) (rest := []) [vI c] (ct_X10_isCompetition (T := T)) cl_X10_107 (qd_c (by decide +kernel)) (nn_ _) rfl (rf_of rfl) (Nat.le_of_ble_eq_true rfl) (Nat.le_of_ble_eq_true rfl) (Nat.le_of_ble_eq_true rfl) rfl ?_
  rintro _ _ ⟨rfl, x1, rfl, hx1⟩
  show J_ zX10_parted T (po_X10_parted T c d k) 0 0 5 _ [vI x1] T
  refine j_blx (F := fX10) tb_X10 (nn_ _) bk_X10_parted_5 bs_X10_parted_5 hz (fun K hK => ?_)
  refine And.intro (fun c2 => ?_) (fun c2 => ?_)
  · refine hK 11 _ [] T ?_
    refine j_blx (F := fX10) tb_X10 (nn_ _) bk_X10_parted_11 bs_X10_parted_11 hz (fun K hK => ?_)
    refine hK 12 _ [vI d] T ?_
    refine j_callS (y := yX10_isDay) (Yc := zX10_isDay) (rest := []) [vI d] (ct_X10_isDay (T := T)) cl_X10_140 (qd_c (by decide +kernel)) (nn_ _) rfl (rf_of rfl) (Nat.le_of_ble_eq_true rfl) (Nat.le_of_ble_eq_true rfl) (Nat.le_of_ble_eq_true rfl) rfl ?_
    rintro _ _ ⟨rfl, x3, rfl, hx3⟩
    show J_ zX10_parted T (po_X10_parted T c d k) 0 0 15 _ [vI x3] T
    refine j_blx (F := fX10) tb_X10 (nn_ _) bk_X10_parted_15 bs_X10_parted_15 hz (fun K hK => ?_)
    refine And.intro (fun c4 => ?_) (fun c4 => ?_)
    · refine hK 21 _ [] T ?_
      refine j_blx (F := fX10) tb_X10 (nn_ _) bk_X10_parted_21 bs_X10_parted_21 hz (fun K hK => ?_)
      refine ix_i (by omega) ?_
      refine And.intro (fun c5 => ?_) (fun c5 => ?_)
      · exact absurd (show T 521 0 c = 0 by omega) (hka.1 _ (by omega) (by omega))
      · intro b6 b6b
        refine rg_i (by omega) ?_
        refine hK 40 [some (vR 110 0), some (vI c), some (vI d), some (vI k), some (vR 100 c)] [vI ((T 100 c 5) - 1), vI k] T ?_
        refine j_callS (y := yX10_isBelow) (Yc := zX10_isBelow) (rest := []) [vI k, vI ((T 100 c 5) - 1)] (ct_X10_isBelow (T := T)) cl_X10_115 (qd_c (by decide +kernel)) (nn_ _) rfl (rf_of rfl) (Nat.le_of_ble_eq_true rfl) (Nat.le_of_ble_eq_true rfl) (Nat.le_of_ble_eq_true rfl) rfl ?_
        rintro _ _ ⟨rfl, x7, rfl, hx7⟩
        show J_ zX10_parted T (po_X10_parted T c d k) 0 0 43 _ [vI x7] T
        refine j_blx (F := fX10) tb_X10 (nn_ _) bk_X10_parted_43 bs_X10_parted_43 hz (fun K hK => ?_)
        refine And.intro (fun c8 => ?_) (fun c8 => ?_)
        · refine hK 48 _ [] T ?_
          refine j_blx (F := fX10) tb_X10 (nn_ _) bk_X10_parted_48 bs_X10_parted_48 hz (fun K hK => ?_)
          refine hK 55 _ [vI d, vR 100 c, vR 107 0] T ?_
          refine j_callV (y := yX7_tally) (Yc := zX7_tally) (rest := []) [vR 100 c, vI d] (ct_X7_tally (T := T) (hka) (hkc) (by omega)) cl_X10_350 (qd_c (by decide +kernel)) (nn_ _) rfl (rf_of rfl) (Nat.le_of_ble_eq_true rfl) (Nat.le_of_ble_eq_true rfl) (Nat.le_of_ble_eq_true rfl) rfl ?_
          rintro U9 _ ⟨rfl, fU9, qU9⟩
          show J_ zX10_parted T (po_X10_parted T c d k) 0 0 58 _ [] U9
          refine j_blx (F := fX10) tb_X10 (nn_ _) bk_X10_parted_58 bs_X10_parted_58 hz (fun K hK => ?_)
          refine hK 62 _ [vR 107 0] U9 ?_
          have e10 : U9 401 c 4 = T 401 c 4 := fU9 401 c 4 rfl
          have y11 := hko c (by omega) (by omega)
          refine j_callV (y := yX7_rank) (Yc := zX7_rank) (rest := []) [] (ct_X7_rank (T := U9) (by omega) (by rw [show U9 107 0 1 - 1 = c by omega]; omega)) cl_X10_353 (qd_c (by decide +kernel)) (nn_ _) rfl (rf_of rfl) (Nat.le_of_ble_eq_true rfl) (Nat.le_of_ble_eq_true rfl) (Nat.le_of_ble_eq_true rfl) rfl ?_
          rintro U12 _ ⟨rfl, fU12, qU12⟩
          show J_ zX10_parted T (po_X10_parted T c d k) 0 0 65 _ [] U12
          refine j_blx (F := fX10) tb_X10 (nn_ _) bk_X10_parted_65 bs_X10_parted_65 hz (fun K hK => ?_)
          refine ix_i (by omega) ?_
          intro b13 b13b
          refine (show po_X10_parted T c d k U12 (some (vI (U12 548 0 k))) from ?_)
          exact ⟨_, rfl, fr_t (fr_t (fr_0 _ _) (fr_s fU9 rfl)) (fr_s fU12 rfl), by rfl⟩
        · refine (show po_X10_parted T c d k T (some (vI (-1))) from ?_)
          exact ⟨_, rfl, fr_0 _ _, by rfl⟩
    · refine (show po_X10_parted T c d k T (some (vI (-3))) from ?_)
      exact ⟨_, rfl, fr_0 _ _, by rfl⟩
  · refine (show po_X10_parted T c d k T (some (vI (-2))) from ?_)
    exact ⟨_, rfl, fr_0 _ _, by rfl⟩
abbrev cX10_standing : ByteArray := prog_1_method_30_code
def yX10_standing : MethodName := ⟨RX10, "standing", "(III)I"⟩
def zX10_standing : Zm := (RX10, cX10_standing, 5, (some .int), { frames := 5, cells := 0, slots := 0, locals := 127 })
theorem bk_X10_standing_0 : ck_ fX10 (some .int) cX10_standing 0 [.aload 0, .iload 1] 2 = true := qck_r (nn_ _) (by decide +kernel)
theorem bs_X10_standing_0 {P : Zt → Option Zv → Prop} (K : Int → Zl → List Zv → Zt → Prop) : sx_ K P [.aload 0, .iload 1] 2 = x_aload 0 (x_iload 1 (K 2)) := ((xe_aload 0).trans (congrArg (x_aload 0) ((xe_iload 1).trans (congrArg (x_iload 1) xe_nil))))
theorem bk_X10_standing_5 : ck_ fX10 (some .int) cX10_standing 5 [.ifCond .ne 11, .iconst (-2), .ireturn] 11 = true := qck_r (nn_ _) (by decide +kernel)
theorem bs_X10_standing_5 {P : Zt → Option Zv → Prop} (K : Int → Zl → List Zv → Zt → Prop) : sx_ K P [.ifCond .ne 11, .iconst (-2), .ireturn] 11 = x_ifCond .ne 11 K (x_iconst (-2) (x_ireturn P)) := ((xe_ifCond .ne 11).trans (congrArg (x_ifCond .ne 11 K) ((xe_iconst (-2)).trans (congrArg (x_iconst (-2)) (xe_ireturn)))))
theorem bk_X10_standing_11 : ck_ fX10 (some .int) cX10_standing 11 [.iload 2] 12 = true := qck_r (nn_ _) (by decide +kernel)
theorem bs_X10_standing_11 {P : Zt → Option Zv → Prop} (K : Int → Zl → List Zv → Zt → Prop) : sx_ K P [.iload 2] 12 = x_iload 2 (K 12) := ((xe_iload 2).trans (congrArg (x_iload 2) xe_nil))
theorem bk_X10_standing_15 : ck_ fX10 (some .int) cX10_standing 15 [.ifCond .ne 21, .iconst (-3), .ireturn] 21 = true := qck_r (nn_ _) (by decide +kernel)
theorem bs_X10_standing_15 {P : Zt → Option Zv → Prop} (K : Int → Zl → List Zv → Zt → Prop) : sx_ K P [.ifCond .ne 21, .iconst (-3), .ireturn] 21 = x_ifCond .ne 21 K (x_iconst (-3) (x_ireturn P)) := ((xe_ifCond .ne 21).trans (congrArg (x_ifCond .ne 21 K) ((xe_iconst (-3)).trans (congrArg (x_iconst (-3)) (xe_ireturn)))))
theorem bk_X10_standing_21 : ck_ fX10 (some .int) cX10_standing 21 [.aload 0, .tableswitch 0 10 2 #[], .tableswitch 0 6 1 #[], .iload 1, .aaload, .astore 4, .iload 3, .aload 4, .tableswitch 0 0 5 #[]] 38 = true := qck_r (nn_ _) (by decide +kernel)
theorem bs_X10_standing_21 {P : Zt → Option Zv → Prop} (K : Int → Zl → List Zv → Zt → Prop) : sx_ K P [.aload 0, .tableswitch 0 10 2 #[], .tableswitch 0 6 1 #[], .iload 1, .aaload, .astore 4, .iload 3, .aload 4, .tableswitch 0 0 5 #[]] 38 = x_aload 0 (x_g1 110 106 (x_g1 106 521 (x_iload 1 (x_aaload (x_astore 4 (x_iload 3 (x_aload 4 (x_g0 100 5 0 12 (K 38))))))))) := ((xe_aload 0).trans (congrArg (x_aload 0) ((xe_g1 (kk := 110) rfl tl_10_2).trans (congrArg (x_g1 110 106) ((xe_g1 (kk := 106) rfl tl_6_1).trans (congrArg (x_g1 106 521) ((xe_iload 1).trans (congrArg (x_iload 1) ((xe_aaload).trans (congrArg (x_aaload) ((xe_astore 4).trans (congrArg (x_astore 4) ((xe_iload 3).trans (congrArg (x_iload 3) ((xe_aload 4).trans (congrArg (x_aload 4) ((xe_g0 (kk := 100) rfl tl_0_5).trans (congrArg (x_g0 100 5 0 12) xe_nil))))))))))))))))))
theorem bk_X10_standing_41 : ck_ fX10 (some .int) cX10_standing 41 [.ifCond .ne 46, .iconst (-1), .ireturn] 46 = true := qck_r (nn_ _) (by decide +kernel)
theorem bs_X10_standing_41 {P : Zt → Option Zv → Prop} (K : Int → Zl → List Zv → Zt → Prop) : sx_ K P [.ifCond .ne 46, .iconst (-1), .ireturn] 46 = x_ifCond .ne 46 K (x_iconst (-1) (x_ireturn P)) := ((xe_ifCond .ne 46).trans (congrArg (x_ifCond .ne 46 K) ((xe_iconst (-1)).trans (congrArg (x_iconst (-1)) (xe_ireturn)))))
theorem bk_X10_standing_46 : ck_ fX10 (some .int) cX10_standing 46 [.aload 0, .tableswitch 0 10 3 #[], .aload 4, .iload 2] 53 = true := qck_r (nn_ _) (by decide +kernel)
theorem bs_X10_standing_46 {P : Zt → Option Zv → Prop} (K : Int → Zl → List Zv → Zt → Prop) : sx_ K P [.aload 0, .tableswitch 0 10 3 #[], .aload 4, .iload 2] 53 = x_aload 0 (x_g1 110 107 (x_aload 4 (x_iload 2 (K 53)))) := ((xe_aload 0).trans (congrArg (x_aload 0) ((xe_g1 (kk := 110) rfl tl_10_3).trans (congrArg (x_g1 110 107) ((xe_aload 4).trans (congrArg (x_aload 4) ((xe_iload 2).trans (congrArg (x_iload 2) xe_nil))))))))
theorem bk_X10_standing_56 : ck_ fX10 (some .int) cX10_standing 56 [.aload 0, .tableswitch 0 10 3 #[]] 60 = true := qck_r (nn_ _) (by decide +kernel)
theorem bs_X10_standing_56 {P : Zt → Option Zv → Prop} (K : Int → Zl → List Zv → Zt → Prop) : sx_ K P [.aload 0, .tableswitch 0 10 3 #[]] 60 = x_aload 0 (x_g1 110 107 (K 60)) := ((xe_aload 0).trans (congrArg (x_aload 0) ((xe_g1 (kk := 110) rfl tl_10_3).trans (congrArg (x_g1 110 107) xe_nil))))
theorem bk_X10_standing_63 : ck_ fX10 (some .int) cX10_standing 63 [.aload 4, .tableswitch 0 0 3 #[], .aload 0, .tableswitch 0 10 3 #[], .tableswitch 0 7 7 #[], .iload 3, .iaload, .iaload, .ireturn] 79 = true := qck_r (nn_ _) (by decide +kernel)
theorem bs_X10_standing_63 {P : Zt → Option Zv → Prop} (K : Int → Zl → List Zv → Zt → Prop) : sx_ K P [.aload 4, .tableswitch 0 0 3 #[], .aload 0, .tableswitch 0 10 3 #[], .tableswitch 0 7 7 #[], .iload 3, .iaload, .iaload, .ireturn] 79 = x_aload 4 (x_g2 100 403 (x_aload 0 (x_g1 110 107 (x_g1 107 547 (x_iload 3 (x_iaload (x_iaload (x_ireturn P)))))))) := ((xe_aload 4).trans (congrArg (x_aload 4) ((xe_g2 (kk := 100) rfl tl_0_3).trans (congrArg (x_g2 100 403) ((xe_aload 0).trans (congrArg (x_aload 0) ((xe_g1 (kk := 110) rfl tl_10_3).trans (congrArg (x_g1 110 107) ((xe_g1 (kk := 107) rfl tl_7_7).trans (congrArg (x_g1 107 547) ((xe_iload 3).trans (congrArg (x_iload 3) ((xe_iaload).trans (congrArg (x_iaload) ((xe_iaload).trans (congrArg (x_iaload) (xe_ireturn)))))))))))))))))
abbrev po_X10_standing (T : Zt) (c d k : Int) : Zt → Option Zv → Prop := fun T' r => ∃ x : Int, r = some (vI x) ∧ fr_ [(107, [1, 13]), (542, []), (543, []), (544, []), (545, []), (546, []), (550, []), (551, []), (552, []), (549, []), (547, []), (548, [])] T T' ∧ (0 = (0 : Int))
set_option maxHeartbeats 4000000 in
theorem ct_X10_standing {T : Zt} {c d k : Int} (hka : KA_ T) (hkm : KM_ T) (hkc : KC_ T) (hko : KO_ T) : Ct_ yX10_standing zX10_standing T [vR 110 0, vI c, vI d, vI k] (po_X10_standing T c d k) := by
  refine ct_of pn_10 rfl rfl (Nat.le_of_ble_eq_true rfl) (fun hT hav => ?_)
  have hr_c : -2147483648 ≤ c ∧ c ≤ 2147483647 := hav (vI c) (by simp)
  have hr_d : -2147483648 ≤ d ∧ d ≤ 2147483647 := hav (vI d) (by simp)
  have hr_k : -2147483648 ≤ k ∧ k ≤ 2147483647 := hav (vI k) (by simp)
  have hz : zX10_standing.2.2.2.1 = some .boolean → ∀ (T' : Zt) (x : Int), po_X10_standing T c d k T' (some (vI x)) → 0 ≤ x ∧ x ≤ 1 := fun h => by cases h
  have hcc : 0 ≤ T 106 0 2 ∧ T 106 0 2 ≤ 4 := bd_f hT 106 2 (by decide +kernel : (tf_ 106)[2]? = some (0, 0, 0, 4)) 0
  have hb_clubs : 0 ≤ T 108 0 2 ∧ T 108 0 2 ≤ 12 := bd_f hT 108 2 (by decide +kernel : (tf_ 108)[2]? = some (0, 0, 0, 12)) 0
  show J_ zX10_standing T (po_X10_standing T c d k) 0 0 0 [some (vR 110 0), some (vI c), some (vI d), some (vI k), none] [] T
  refine j_blx (F := fX10) tb_X10 (nn_ _) bk_X10_standing_0 bs_X10_standing_0 hz (fun K hK => ?_)
  refine hK 2 _ [vI c, vR 110 0] T ?_
  refine j_callV (y := yX10_isCompetition) (Yc := zX10_isCompetition) (rest := []) [vI c] (ct_X10_isCompetition (T := T)) cl_X10_107 (qd_c (by decide +kernel)) (nn_ _) rfl (rf_of rfl) (Nat.le_of_ble_eq_true rfl) (Nat.le_of_ble_eq_true rfl) (Nat.le_of_ble_eq_true rfl) rfl ?_
  rintro _ _ ⟨rfl, x1, rfl, hx1⟩
  show J_ zX10_standing T (po_X10_standing T c d k) 0 0 5 _ [vI x1] T
  refine j_blx (F := fX10) tb_X10 (nn_ _) bk_X10_standing_5 bs_X10_standing_5 hz (fun K hK => ?_)
  refine And.intro (fun c2 => ?_) (fun c2 => ?_)
  · refine hK 11 _ [] T ?_
    refine j_blx (F := fX10) tb_X10 (nn_ _) bk_X10_standing_11 bs_X10_standing_11 hz (fun K hK => ?_)
    refine hK 12 _ [vI d] T ?_
    refine j_callS (y := yX10_isDay) (Yc := zX10_isDay) (rest := []) [vI d] (ct_X10_isDay (T := T)) cl_X10_140 (qd_c (by decide +kernel)) (nn_ _) rfl (rf_of rfl) (Nat.le_of_ble_eq_true rfl) (Nat.le_of_ble_eq_true rfl) (Nat.le_of_ble_eq_true rfl) rfl ?_
    rintro _ _ ⟨rfl, x3, rfl, hx3⟩
    show J_ zX10_standing T (po_X10_standing T c d k) 0 0 15 _ [vI x3] T
    refine j_blx (F := fX10) tb_X10 (nn_ _) bk_X10_standing_15 bs_X10_standing_15 hz (fun K hK => ?_)
    refine And.intro (fun c4 => ?_) (fun c4 => ?_)
    · refine hK 21 _ [] T ?_
      refine j_blx (F := fX10) tb_X10 (nn_ _) bk_X10_standing_21 bs_X10_standing_21 hz (fun K hK => ?_)
      refine ix_i (by omega) ?_
      refine And.intro (fun c5 => ?_) (fun c5 => ?_)
      · exact absurd (show T 521 0 c = 0 by omega) (hka.1 _ (by omega) (by omega))
      · intro b6 b6b
        refine hK 38 [some (vR 110 0), some (vI c), some (vI d), some (vI k), some (vR 100 c)] [vI (T 100 c 5), vI k] T ?_
        refine j_callS (y := yX10_isBelow) (Yc := zX10_isBelow) (rest := []) [vI k, vI (T 100 c 5)] (ct_X10_isBelow (T := T)) cl_X10_115 (qd_c (by decide +kernel)) (nn_ _) rfl (rf_of rfl) (Nat.le_of_ble_eq_true rfl) (Nat.le_of_ble_eq_true rfl) (Nat.le_of_ble_eq_true rfl) rfl ?_
        rintro _ _ ⟨rfl, x7, rfl, hx7⟩
        show J_ zX10_standing T (po_X10_standing T c d k) 0 0 41 _ [vI x7] T
        refine j_blx (F := fX10) tb_X10 (nn_ _) bk_X10_standing_41 bs_X10_standing_41 hz (fun K hK => ?_)
        refine And.intro (fun c8 => ?_) (fun c8 => ?_)
        · refine hK 46 _ [] T ?_
          refine j_blx (F := fX10) tb_X10 (nn_ _) bk_X10_standing_46 bs_X10_standing_46 hz (fun K hK => ?_)
          refine hK 53 _ [vI d, vR 100 c, vR 107 0] T ?_
          refine j_callV (y := yX7_tally) (Yc := zX7_tally) (rest := []) [vR 100 c, vI d] (ct_X7_tally (T := T) (hka) (hkc) (by omega)) cl_X10_350 (qd_c (by decide +kernel)) (nn_ _) rfl (rf_of rfl) (Nat.le_of_ble_eq_true rfl) (Nat.le_of_ble_eq_true rfl) (Nat.le_of_ble_eq_true rfl) rfl ?_
          rintro U9 _ ⟨rfl, fU9, qU9⟩
          show J_ zX10_standing T (po_X10_standing T c d k) 0 0 56 _ [] U9
          refine j_blx (F := fX10) tb_X10 (nn_ _) bk_X10_standing_56 bs_X10_standing_56 hz (fun K hK => ?_)
          refine hK 60 _ [vR 107 0] U9 ?_
          have e10 : U9 401 c 4 = T 401 c 4 := fU9 401 c 4 rfl
          have y11 := hko c (by omega) (by omega)
          refine j_callV (y := yX7_rank) (Yc := zX7_rank) (rest := []) [] (ct_X7_rank (T := U9) (by omega) (by rw [show U9 107 0 1 - 1 = c by omega]; omega)) cl_X10_353 (qd_c (by decide +kernel)) (nn_ _) rfl (rf_of rfl) (Nat.le_of_ble_eq_true rfl) (Nat.le_of_ble_eq_true rfl) (Nat.le_of_ble_eq_true rfl) rfl ?_
          rintro U12 _ ⟨rfl, fU12, qU12⟩
          show J_ zX10_standing T (po_X10_standing T c d k) 0 0 63 _ [] U12
          refine j_blx (F := fX10) tb_X10 (nn_ _) bk_X10_standing_63 bs_X10_standing_63 hz (fun K hK => ?_)
          refine ix_i (by omega) ?_
          intro b13 b13b
          refine ix_i (by omega) ?_
          intro b14 b14b
          have e15 : U12 403 c (U12 547 0 k) = T 403 c (U12 547 0 k) := (fU12 403 c (U12 547 0 k) rfl).trans (fU9 403 c (U12 547 0 k) rfl)
          rw [e15] at b14 b14b ⊢
          refine (show po_X10_standing T c d k U12 (some (vI (T 403 c (U12 547 0 k)))) from ?_)
          exact ⟨_, rfl, fr_t (fr_t (fr_0 _ _) (fr_s fU9 rfl)) (fr_s fU12 rfl), by rfl⟩
        · refine (show po_X10_standing T c d k T (some (vI (-1))) from ?_)
          exact ⟨_, rfl, fr_0 _ _, by rfl⟩
    · refine (show po_X10_standing T c d k T (some (vI (-3))) from ?_)
      exact ⟨_, rfl, fr_0 _ _, by rfl⟩
  · refine (show po_X10_standing T c d k T (some (vI (-2))) from ?_)
    exact ⟨_, rfl, fr_0 _ _, by rfl⟩
abbrev cX10_lineUp : ByteArray := prog_1_method_20_code
def yX10_lineUp : MethodName := ⟨RX10, "lineUp", "(III)I"⟩
def zX10_lineUp : Zm := (RX10, cX10_lineUp, 6, (some .int), { frames := 5, cells := 0, slots := 0, locals := 122 })
theorem bk_X10_lineUp_0 : ck_ fX10 (some .int) cX10_lineUp 0 [.aload 0, .iload 1] 2 = true := qck_r (nn_ _) (by decide +kernel)
theorem bs_X10_lineUp_0 {P : Zt → Option Zv → Prop} (K : Int → Zl → List Zv → Zt → Prop) : sx_ K P [.aload 0, .iload 1] 2 = x_aload 0 (x_iload 1 (K 2)) := ((xe_aload 0).trans (congrArg (x_aload 0) ((xe_iload 1).trans (congrArg (x_iload 1) xe_nil))))
theorem bk_X10_lineUp_5 : ck_ fX10 (some .int) cX10_lineUp 5 [.ifCond .eq 16, .aload 0, .iload 2] 10 = true := qck_r (nn_ _) (by decide +kernel)
theorem bs_X10_lineUp_5 {P : Zt → Option Zv → Prop} (K : Int → Zl → List Zv → Zt → Prop) : sx_ K P [.ifCond .eq 16, .aload 0, .iload 2] 10 = x_ifCond .eq 16 K (x_aload 0 (x_iload 2 (K 10))) := ((xe_ifCond .eq 16).trans (congrArg (x_ifCond .eq 16 K) ((xe_aload 0).trans (congrArg (x_aload 0) ((xe_iload 2).trans (congrArg (x_iload 2) xe_nil))))))
theorem bk_X10_lineUp_16 : ck_ fX10 (some .int) cX10_lineUp 16 [.iconst (-2), .ireturn] 19 = true := qck_r (nn_ _) (by decide +kernel)
theorem bs_X10_lineUp_16 {P : Zt → Option Zv → Prop} (K : Int → Zl → List Zv → Zt → Prop) : sx_ K P [.iconst (-2), .ireturn] 19 = x_iconst (-2) (x_ireturn P) := ((xe_iconst (-2)).trans (congrArg (x_iconst (-2)) (xe_ireturn)))
theorem bk_X10_lineUp_13 : ck_ fX10 (some .int) cX10_lineUp 13 [.ifCond .ne 19, .iconst (-2), .ireturn] 19 = true := qck_r (nn_ _) (by decide +kernel)
theorem bs_X10_lineUp_13 {P : Zt → Option Zv → Prop} (K : Int → Zl → List Zv → Zt → Prop) : sx_ K P [.ifCond .ne 19, .iconst (-2), .ireturn] 19 = x_ifCond .ne 19 K (x_iconst (-2) (x_ireturn P)) := ((xe_ifCond .ne 19).trans (congrArg (x_ifCond .ne 19 K) ((xe_iconst (-2)).trans (congrArg (x_iconst (-2)) (xe_ireturn)))))
theorem bk_X10_lineUp_19 : ck_ fX10 (some .int) cX10_lineUp 19 [.iload 3] 20 = true := qck_r (nn_ _) (by decide +kernel)
theorem bs_X10_lineUp_19 {P : Zt → Option Zv → Prop} (K : Int → Zl → List Zv → Zt → Prop) : sx_ K P [.iload 3] 20 = x_iload 3 (K 20) := ((xe_iload 3).trans (congrArg (x_iload 3) xe_nil))
theorem bk_X10_lineUp_23 : ck_ fX10 (some .int) cX10_lineUp 23 [.ifCond .ne 29, .iconst (-3), .ireturn] 29 = true := qck_r (nn_ _) (by decide +kernel)
theorem bs_X10_lineUp_23 {P : Zt → Option Zv → Prop} (K : Int → Zl → List Zv → Zt → Prop) : sx_ K P [.ifCond .ne 29, .iconst (-3), .ireturn] 29 = x_ifCond .ne 29 K (x_iconst (-3) (x_ireturn P)) := ((xe_ifCond .ne 29).trans (congrArg (x_ifCond .ne 29 K) ((xe_iconst (-3)).trans (congrArg (x_iconst (-3)) (xe_ireturn)))))
theorem bk_X10_lineUp_29 : ck_ fX10 (some .int) cX10_lineUp 29 [.aload 0, .tableswitch 0 10 2 #[], .tableswitch 0 6 3 #[], .iload 2, .aaload, .astore 4, .aload 4] 42 = true := qck_r (nn_ _) (by decide +kernel)
theorem bs_X10_lineUp_29 {P : Zt → Option Zv → Prop} (K : Int → Zl → List Zv → Zt → Prop) : sx_ K P [.aload 0, .tableswitch 0 10 2 #[], .tableswitch 0 6 3 #[], .iload 2, .aaload, .astore 4, .aload 4] 42 = x_aload 0 (x_g1 110 106 (x_g1 106 523 (x_iload 2 (x_aaload (x_astore 4 (x_aload 4 (K 42))))))) := ((xe_aload 0).trans (congrArg (x_aload 0) ((xe_g1 (kk := 110) rfl tl_10_2).trans (congrArg (x_g1 110 106) ((xe_g1 (kk := 106) rfl tl_6_3).trans (congrArg (x_g1 106 523) ((xe_iload 2).trans (congrArg (x_iload 2) ((xe_aaload).trans (congrArg (x_aaload) ((xe_astore 4).trans (congrArg (x_astore 4) ((xe_aload 4).trans (congrArg (x_aload 4) xe_nil))))))))))))))
theorem bk_X10_lineUp_45 : ck_ fX10 (some .int) cX10_lineUp 45 [.ifCond .eq 51, .iconst (-4), .ireturn] 51 = true := qck_r (nn_ _) (by decide +kernel)
theorem bs_X10_lineUp_45 {P : Zt → Option Zv → Prop} (K : Int → Zl → List Zv → Zt → Prop) : sx_ K P [.ifCond .eq 51, .iconst (-4), .ireturn] 51 = x_ifCond .eq 51 K (x_iconst (-4) (x_ireturn P)) := ((xe_ifCond .eq 51).trans (congrArg (x_ifCond .eq 51 K) ((xe_iconst (-4)).trans (congrArg (x_iconst (-4)) (xe_ireturn)))))
theorem bk_X10_lineUp_51 : ck_ fX10 (some .int) cX10_lineUp 51 [.aload 4, .tableswitch 0 2 9 #[], .iload 3, .iaload, .aload 4, .tableswitch 0 2 0 #[], .tableswitch 0 0 1 #[], .iconst 9, .iaload, .iconst 4, .iadd, .if_icmp .lt 77, .iconst (-5), .ireturn] 77 = true := qck_r (nn_ _) (by decide +kernel)
theorem bs_X10_lineUp_51 {P : Zt → Option Zv → Prop} (K : Int → Zl → List Zv → Zt → Prop) : sx_ K P [.aload 4, .tableswitch 0 2 9 #[], .iload 3, .iaload, .aload 4, .tableswitch 0 2 0 #[], .tableswitch 0 0 1 #[], .iconst 9, .iaload, .iconst 4, .iadd, .if_icmp .lt 77, .iconst (-5), .ireturn] 77 = x_aload 4 (x_g2 102 449 (x_iload 3 (x_iaload (x_aload 4 (x_g3 102 100 0 (x_g2 100 401 (x_iconst 9 (x_iaload (x_iconst 4 (x_iadd (x_if_icmp .lt 77 K (x_iconst (-5) (x_ireturn P))))))))))))) := ((xe_aload 4).trans (congrArg (x_aload 4) ((xe_g2 (kk := 102) rfl tl_2_9).trans (congrArg (x_g2 102 449) ((xe_iload 3).trans (congrArg (x_iload 3) ((xe_iaload).trans (congrArg (x_iaload) ((xe_aload 4).trans (congrArg (x_aload 4) ((xe_g3 (kk := 102) rfl tl_2_0).trans (congrArg (x_g3 102 100 0) ((xe_g2 (kk := 100) rfl tl_0_1).trans (congrArg (x_g2 100 401) ((xe_iconst 9).trans (congrArg (x_iconst 9) ((xe_iaload).trans (congrArg (x_iaload) ((xe_iconst 4).trans (congrArg (x_iconst 4) ((xe_iadd).trans (congrArg (x_iadd) ((xe_if_icmp .lt 77).trans (congrArg (x_if_icmp .lt 77 K) ((xe_iconst (-5)).trans (congrArg (x_iconst (-5)) (xe_ireturn)))))))))))))))))))))))))))
theorem bk_X10_lineUp_77 : ck_ fX10 (some .int) cX10_lineUp 77 [.aload 0, .tableswitch 0 10 2 #[], .iload 1, .aload 4, .iload 3] 85 = true := qck_r (nn_ _) (by decide +kernel)
theorem bs_X10_lineUp_77 {P : Zt → Option Zv → Prop} (K : Int → Zl → List Zv → Zt → Prop) : sx_ K P [.aload 0, .tableswitch 0 10 2 #[], .iload 1, .aload 4, .iload 3] 85 = x_aload 0 (x_g1 110 106 (x_iload 1 (x_aload 4 (x_iload 3 (K 85))))) := ((xe_aload 0).trans (congrArg (x_aload 0) ((xe_g1 (kk := 110) rfl tl_10_2).trans (congrArg (x_g1 110 106) ((xe_iload 1).trans (congrArg (x_iload 1) ((xe_aload 4).trans (congrArg (x_aload 4) ((xe_iload 3).trans (congrArg (x_iload 3) xe_nil))))))))))
theorem bk_X10_lineUp_88 : ck_ fX10 (some .int) cX10_lineUp 88 [.istore 5, .iload 5, .ifCond .eq 101, .iconst (-10), .iload 5, .fsub, .ireturn] 101 = true := qck_r (nn_ _) (by decide +kernel)
theorem bs_X10_lineUp_88 {P : Zt → Option Zv → Prop} (K : Int → Zl → List Zv → Zt → Prop) : sx_ K P [.istore 5, .iload 5, .ifCond .eq 101, .iconst (-10), .iload 5, .fsub, .ireturn] 101 = x_istore 5 (x_iload 5 (x_ifCond .eq 101 K (x_iconst (-10) (x_iload 5 (x_fsub (x_ireturn P)))))) := ((xe_istore 5).trans (congrArg (x_istore 5) ((xe_iload 5).trans (congrArg (x_iload 5) ((xe_ifCond .eq 101).trans (congrArg (x_ifCond .eq 101 K) ((xe_iconst (-10)).trans (congrArg (x_iconst (-10)) ((xe_iload 5).trans (congrArg (x_iload 5) ((xe_fsub).trans (congrArg (x_fsub) (xe_ireturn)))))))))))))
theorem bk_X10_lineUp_101 : ck_ fX10 (some .int) cX10_lineUp 101 [.aload 4, .tableswitch 0 2 8 #[], .iload 3, .iconst 10, .imul, .aload 4, .tableswitch 0 2 9 #[], .iload 3, .iaload, .iadd, .iload 1, .iastore, .aload 4, .tableswitch 0 2 9 #[], .iload 3, .dup2, .iaload, .iconst 1, .iadd, .iastore, .aload 4, .tableswitch 0 2 9 #[], .iload 3, .iaload, .ireturn] 139 = true := qck_r (nn_ _) (by decide +kernel)
theorem bs_X10_lineUp_101 {P : Zt → Option Zv → Prop} (K : Int → Zl → List Zv → Zt → Prop) : sx_ K P [.aload 4, .tableswitch 0 2 8 #[], .iload 3, .iconst 10, .imul, .aload 4, .tableswitch 0 2 9 #[], .iload 3, .iaload, .iadd, .iload 1, .iastore, .aload 4, .tableswitch 0 2 9 #[], .iload 3, .dup2, .iaload, .iconst 1, .iadd, .iastore, .aload 4, .tableswitch 0 2 9 #[], .iload 3, .iaload, .ireturn] 139 = x_aload 4 (x_g2 102 448 (x_iload 3 (x_iconst 10 (x_imul (x_aload 4 (x_g2 102 449 (x_iload 3 (x_iaload (x_iadd (x_iload 1 (x_iastore (x_aload 4 (x_g2 102 449 (x_iload 3 (x_dup2 (x_iaload (x_iconst 1 (x_iadd (x_iastore (x_aload 4 (x_g2 102 449 (x_iload 3 (x_iaload (x_ireturn P)))))))))))))))))))))))) := ((xe_aload 4).trans (congrArg (x_aload 4) ((xe_g2 (kk := 102) rfl tl_2_8).trans (congrArg (x_g2 102 448) ((xe_iload 3).trans (congrArg (x_iload 3) ((xe_iconst 10).trans (congrArg (x_iconst 10) ((xe_imul).trans (congrArg (x_imul) ((xe_aload 4).trans (congrArg (x_aload 4) ((xe_g2 (kk := 102) rfl tl_2_9).trans (congrArg (x_g2 102 449) ((xe_iload 3).trans (congrArg (x_iload 3) ((xe_iaload).trans (congrArg (x_iaload) ((xe_iadd).trans (congrArg (x_iadd) ((xe_iload 1).trans (congrArg (x_iload 1) ((xe_iastore).trans (congrArg (x_iastore) ((xe_aload 4).trans (congrArg (x_aload 4) ((xe_g2 (kk := 102) rfl tl_2_9).trans (congrArg (x_g2 102 449) ((xe_iload 3).trans (congrArg (x_iload 3) ((xe_dup2).trans (congrArg (x_dup2) ((xe_iaload).trans (congrArg (x_iaload) ((xe_iconst 1).trans (congrArg (x_iconst 1) ((xe_iadd).trans (congrArg (x_iadd) ((xe_iastore).trans (congrArg (x_iastore) ((xe_aload 4).trans (congrArg (x_aload 4) ((xe_g2 (kk := 102) rfl tl_2_9).trans (congrArg (x_g2 102 449) ((xe_iload 3).trans (congrArg (x_iload 3) ((xe_iaload).trans (congrArg (x_iaload) (xe_ireturn)))))))))))))))))))))))))))))))))))))))))))))))))
abbrev po_X10_lineUp (T : Zt) (q b s : Int) : Zt → Option Zv → Prop := fun T' r => ∃ x : Int, r = some (vI x) ∧ fr_ [(448, []), (449, []), (533, [])] T T' ∧ (0 = (0 : Int))
set_option maxHeartbeats 4000000 in
theorem ct_X10_lineUp {T : Zt} {q b s : Int} (hka : KA_ T) (hkm : KM_ T) (hkc : KC_ T) (hkr : KR_ T) : Ct_ yX10_lineUp zX10_lineUp T [vR 110 0, vI q, vI b, vI s] (po_X10_lineUp T q b s) := by
  refine ct_of pn_10 rfl rfl (Nat.le_of_ble_eq_true rfl) (fun hT hav => ?_)
  have hr_q : -2147483648 ≤ q ∧ q ≤ 2147483647 := hav (vI q) (by simp)
  have hr_b : -2147483648 ≤ b ∧ b ≤ 2147483647 := hav (vI b) (by simp)
  have hr_s : -2147483648 ≤ s ∧ s ≤ 2147483647 := hav (vI s) (by simp)
  have hz : zX10_lineUp.2.2.2.1 = some .boolean → ∀ (T' : Zt) (x : Int), po_X10_lineUp T q b s T' (some (vI x)) → 0 ≤ x ∧ x ≤ 1 := fun h => by cases h
  have hb_matchCount : 0 ≤ T 106 0 4 ∧ T 106 0 4 ≤ 400 := bd_f hT 106 4 (by decide +kernel : (tf_ 106)[4]? = some (0, 0, 0, 400)) 0
  have hb_persons : 0 ≤ T 108 0 3 ∧ T 108 0 3 ≤ 200 := bd_f hT 108 3 (by decide +kernel : (tf_ 108)[3]? = some (0, 0, 0, 200)) 0
  show J_ zX10_lineUp T (po_X10_lineUp T q b s) 0 0 0 [some (vR 110 0), some (vI q), some (vI b), some (vI s), none, none] [] T
  refine j_blx (F := fX10) tb_X10 (nn_ _) bk_X10_lineUp_0 bs_X10_lineUp_0 hz (fun K hK => ?_)
  refine hK 2 _ [vI q, vR 110 0] T ?_
  refine j_callV (y := yX10_isPerson) (Yc := zX10_isPerson) (rest := []) [vI q] (ct_X10_isPerson (T := T)) cl_X10_134 (qd_c (by decide +kernel)) (nn_ _) rfl (rf_of rfl) (Nat.le_of_ble_eq_true rfl) (Nat.le_of_ble_eq_true rfl) (Nat.le_of_ble_eq_true rfl) rfl ?_
  rintro _ _ ⟨rfl, x1, rfl, hx1⟩
  show J_ zX10_lineUp T (po_X10_lineUp T q b s) 0 0 5 _ [vI x1] T
  refine j_blx (F := fX10) tb_X10 (nn_ _) bk_X10_lineUp_5 bs_X10_lineUp_5 hz (fun K hK => ?_)
  refine And.intro (fun c2 => ?_) (fun c2 => ?_)
  · refine hK 16 _ [] T ?_
    refine j_blx (F := fX10) tb_X10 (nn_ _) bk_X10_lineUp_16 bs_X10_lineUp_16 hz (fun K hK => ?_)
    refine (show po_X10_lineUp T q b s T (some (vI (-2))) from ?_)
    exact ⟨_, rfl, fr_0 _ _, by rfl⟩
  · refine hK 10 _ [vI b, vR 110 0] T ?_
    refine j_callV (y := yX10_isMatch) (Yc := zX10_isMatch) (rest := []) [vI b] (ct_X10_isMatch (T := T)) cl_X10_195 (qd_c (by decide +kernel)) (nn_ _) rfl (rf_of rfl) (Nat.le_of_ble_eq_true rfl) (Nat.le_of_ble_eq_true rfl) (Nat.le_of_ble_eq_true rfl) rfl ?_
    rintro _ _ ⟨rfl, x3, rfl, hx3⟩
    show J_ zX10_lineUp T (po_X10_lineUp T q b s) 0 0 13 _ [vI x3] T
    refine j_blx (F := fX10) tb_X10 (nn_ _) bk_X10_lineUp_13 bs_X10_lineUp_13 hz (fun K hK => ?_)
    refine And.intro (fun c4 => ?_) (fun c4 => ?_)
    · refine hK 19 _ [] T ?_
      refine j_blx (F := fX10) tb_X10 (nn_ _) bk_X10_lineUp_19 bs_X10_lineUp_19 hz (fun K hK => ?_)
      refine hK 20 _ [vI s] T ?_
      refine j_callS (y := yX10_isSide) (Yc := zX10_isSide) (rest := []) [vI s] (ct_X10_isSide (T := T)) cl_X10_251 (qd_c (by decide +kernel)) (nn_ _) rfl (rf_of rfl) (Nat.le_of_ble_eq_true rfl) (Nat.le_of_ble_eq_true rfl) (Nat.le_of_ble_eq_true rfl) rfl ?_
      rintro _ _ ⟨rfl, x5, rfl, hx5⟩
      show J_ zX10_lineUp T (po_X10_lineUp T q b s) 0 0 23 _ [vI x5] T
      refine j_blx (F := fX10) tb_X10 (nn_ _) bk_X10_lineUp_23 bs_X10_lineUp_23 hz (fun K hK => ?_)
      refine And.intro (fun c6 => ?_) (fun c6 => ?_)
      · refine hK 29 _ [] T ?_
        refine j_blx (F := fX10) tb_X10 (nn_ _) bk_X10_lineUp_29 bs_X10_lineUp_29 hz (fun K hK => ?_)
        refine ix_i (by omega) ?_
        refine And.intro (fun c7 => ?_) (fun c7 => ?_)
        · exact absurd (show T 523 0 b = 0 by omega) (hka.2 _ (by omega) (by omega))
        · refine hK 42 [some (vR 110 0), some (vI q), some (vI b), some (vI s), some (vR 102 b), none] [vR 102 b] T ?_
          refine j_callV (y := yX2_phaseOfLife) (Yc := zX2_phaseOfLife) (rest := []) [] (ct_X2_phaseOfLife (T := T)) cl_X10_223 (qd_c (by decide +kernel)) (nn_ _) rfl (rf_of rfl) (Nat.le_of_ble_eq_true rfl) (Nat.le_of_ble_eq_true rfl) (Nat.le_of_ble_eq_true rfl) rfl ?_
          rintro _ _ ⟨rfl, x8, rfl, hx8⟩
          show J_ zX10_lineUp T (po_X10_lineUp T q b s) 0 0 45 _ [vI x8] T
          refine j_blx (F := fX10) tb_X10 (nn_ _) bk_X10_lineUp_45 bs_X10_lineUp_45 hz (fun K hK => ?_)
          refine And.intro (fun c9 => ?_) (fun c9 => ?_)
          · refine hK 51 _ [] T ?_
            refine j_blx (F := fX10) tb_X10 (nn_ _) bk_X10_lineUp_51 bs_X10_lineUp_51 hz (fun K hK => ?_)
            have hy9 := hkm b (by omega) (by omega)
            have hr9 := hkr (T 102 b 0) (by omega) (by omega)
            have hl9 : 0 ≤ T 449 b s ∧ T 449 b s ≤ 10 := bd_a hT 449 (by decide +kernel : ta_ 449 = some (1, some 2, 0, 10)) b (by omega)
            refine ix_i (by omega) ?_
            intro b10 b10b
            refine ix_i (by omega) ?_
            intro b12 b12b
            refine rg_i (by omega) ?_
            refine And.intro (fun c13 => ?_) (fun c13 => ?_)
            · refine hK 77 _ [] T ?_
              refine j_blx (F := fX10) tb_X10 (nn_ _) bk_X10_lineUp_77 bs_X10_lineUp_77 hz (fun K hK => ?_)
              refine hK 85 _ [vI s, vR 102 b, vI q, vR 106 0] T ?_
              refine j_callV (y := yX6_whyNot) (Yc := zX6_whyNot) (rest := []) [vI q, vR 102 b, vI s] (ct_X6_whyNot (T := T) (hka) (hkm) (hkc) (by omega) (by omega)) cl_X10_254 (qd_c (by decide +kernel)) (nn_ _) rfl (rf_of rfl) (Nat.le_of_ble_eq_true rfl) (Nat.le_of_ble_eq_true rfl) (Nat.le_of_ble_eq_true rfl) rfl ?_
              rintro U14 _ ⟨x15, rfl, fU14, qU14⟩
              show J_ zX10_lineUp T (po_X10_lineUp T q b s) 0 0 88 _ [vI x15] U14
              refine j_blx (F := fX10) tb_X10 (nn_ _) bk_X10_lineUp_88 bs_X10_lineUp_88 hz (fun K hK => ?_)
              refine And.intro (fun c16 => ?_) (fun c16 => ?_)
              · refine hK 101 [some (vR 110 0), some (vI q), some (vI b), some (vI s), some (vR 102 b), some (vI x15)] [] U14 ?_
                refine j_blx (F := fX10) tb_X10 (nn_ _) bk_X10_lineUp_101 bs_X10_lineUp_101 hz (fun K hK => ?_)
                refine rg_i (by omega) ?_
                refine ix_i (by omega) ?_
                intro b17 b17b
                have e18 : U14 449 b s = T 449 b s := fU14 449 b s rfl
                rw [e18] at b17 b17b ⊢
                refine rg_i (by omega) ?_
                refine iy_i (by omega) (by omega) ?_
                refine x_nm (fun U19 hU19 => ?_)
                have e20 := up_f hU19
                refine ix_i (by omega) ?_
                intro b21 b21b
                have e22 : U19 449 b s = T 449 b s := (up_k hU19 (by exact Nat.ne_of_beq_eq_false rfl) b s).trans (fU14 449 b s rfl)
                rw [e22] at b21 b21b ⊢
                refine rg_i (by omega) ?_
                refine iy_i (by omega) (by omega) ?_
                refine x_nm (fun U23 hU23 => ?_)
                have e24 := up_f hU23
                refine ix_i (by omega) ?_
                intro b25 b25b
                have e26 : U23 449 b s = (T 449 b s) + 1 := up_f hU23
                rw [e26] at b25 b25b ⊢
                refine (show po_X10_lineUp T q b s U23 (some (vI ((T 449 b s) + 1))) from ?_)
                exact ⟨_, rfl, fr_u (fr_u (fr_t (fr_0 _ _) (fr_s fU14 rfl)) hU19 rfl) hU23 rfl, by rfl⟩
              · intro w27 w27b
                refine (show po_X10_lineUp T q b s U14 (some (vI (wr_ ((-10) - x15)))) from ?_)
                exact ⟨_, rfl, fr_t (fr_0 _ _) (fr_s fU14 rfl), by rfl⟩
            · refine (show po_X10_lineUp T q b s T (some (vI (-5))) from ?_)
              exact ⟨_, rfl, fr_0 _ _, by rfl⟩
          · refine (show po_X10_lineUp T q b s T (some (vI (-4))) from ?_)
            exact ⟨_, rfl, fr_0 _ _, by rfl⟩
      · refine (show po_X10_lineUp T q b s T (some (vI (-3))) from ?_)
        exact ⟨_, rfl, fr_0 _ _, by rfl⟩
    · refine (show po_X10_lineUp T q b s T (some (vI (-2))) from ?_)
      exact ⟨_, rfl, fr_0 _ _, by rfl⟩
def KE_ (T : Zt) : Prop := ∀ c : Int, 0 ≤ c → c < T 106 0 2 → ∀ j : Int, 0 ≤ j → j < T 100 c 5 → T 404 c (T 403 c j) = j
theorem KE__f {ws : List (Nat × List Int)} {T T' : Zt} (h : KE_ T) (f : fr_ ws T T') (w : (∀ j, fw_ ws 403 j = false) ∧ (∀ j, fw_ ws 404 j = false) ∧ fw_ ws 100 5 = false ∧ fw_ ws 106 2 = false ∧ True) : KE_ T' := by
  have e0 : ∀ i j, T' 403 i j = T 403 i j := fun i j => f 403 i j (w.1 j)
  have e1 : ∀ i j, T' 404 i j = T 404 i j := fun i j => f 404 i j (w.2.1 j)
  have e2 : ∀ i, T' 100 i 5 = T 100 i 5 := fun i => f 100 i 5 w.2.2.1
  have e3 : ∀ i, T' 106 i 2 = T 106 i 2 := fun i => f 106 i 2 w.2.2.2.1
  simp only [KE_, e0, e1, e2, e3] at h ⊢
  exact h
abbrev cX10_enter : ByteArray := prog_1_method_12_code
def yX10_enter : MethodName := ⟨RX10, "enter", "(II)I"⟩
def zX10_enter : Zm := (RX10, cX10_enter, 4, (some .int), { frames := 2, cells := 0, slots := 0, locals := 42 })
theorem bk_X10_enter_0 : ck_ fX10 (some .int) cX10_enter 0 [.aload 0, .iload 1] 2 = true := qck_r (nn_ _) (by decide +kernel)
theorem bs_X10_enter_0 {P : Zt → Option Zv → Prop} (K : Int → Zl → List Zv → Zt → Prop) : sx_ K P [.aload 0, .iload 1] 2 = x_aload 0 (x_iload 1 (K 2)) := ((xe_aload 0).trans (congrArg (x_aload 0) ((xe_iload 1).trans (congrArg (x_iload 1) xe_nil))))
theorem bk_X10_enter_5 : ck_ fX10 (some .int) cX10_enter 5 [.ifCond .eq 16, .aload 0, .iload 2] 10 = true := qck_r (nn_ _) (by decide +kernel)
theorem bs_X10_enter_5 {P : Zt → Option Zv → Prop} (K : Int → Zl → List Zv → Zt → Prop) : sx_ K P [.ifCond .eq 16, .aload 0, .iload 2] 10 = x_ifCond .eq 16 K (x_aload 0 (x_iload 2 (K 10))) := ((xe_ifCond .eq 16).trans (congrArg (x_ifCond .eq 16 K) ((xe_aload 0).trans (congrArg (x_aload 0) ((xe_iload 2).trans (congrArg (x_iload 2) xe_nil))))))
theorem bk_X10_enter_16 : ck_ fX10 (some .int) cX10_enter 16 [.iconst (-2), .ireturn] 19 = true := qck_r (nn_ _) (by decide +kernel)
theorem bs_X10_enter_16 {P : Zt → Option Zv → Prop} (K : Int → Zl → List Zv → Zt → Prop) : sx_ K P [.iconst (-2), .ireturn] 19 = x_iconst (-2) (x_ireturn P) := ((xe_iconst (-2)).trans (congrArg (x_iconst (-2)) (xe_ireturn)))
theorem bk_X10_enter_13 : ck_ fX10 (some .int) cX10_enter 13 [.ifCond .ne 19, .iconst (-2), .ireturn] 19 = true := qck_r (nn_ _) (by decide +kernel)
theorem bs_X10_enter_13 {P : Zt → Option Zv → Prop} (K : Int → Zl → List Zv → Zt → Prop) : sx_ K P [.ifCond .ne 19, .iconst (-2), .ireturn] 19 = x_ifCond .ne 19 K (x_iconst (-2) (x_ireturn P)) := ((xe_ifCond .ne 19).trans (congrArg (x_ifCond .ne 19 K) ((xe_iconst (-2)).trans (congrArg (x_iconst (-2)) (xe_ireturn)))))
theorem bk_X10_enter_19 : ck_ fX10 (some .int) cX10_enter 19 [.aload 0, .tableswitch 0 10 2 #[], .tableswitch 0 6 1 #[], .iload 1, .aaload, .astore 3, .aload 3, .tableswitch 0 0 6 #[], .ifCond .ne 46, .aload 3, .tableswitch 0 0 4 #[], .iload 2, .iaload, .iconst (-1), .if_icmp .eq 49, .iconst (-4), .ireturn] 49 = true := qck_r (nn_ _) (by decide +kernel)
theorem bs_X10_enter_19 {P : Zt → Option Zv → Prop} (K : Int → Zl → List Zv → Zt → Prop) : sx_ K P [.aload 0, .tableswitch 0 10 2 #[], .tableswitch 0 6 1 #[], .iload 1, .aaload, .astore 3, .aload 3, .tableswitch 0 0 6 #[], .ifCond .ne 46, .aload 3, .tableswitch 0 0 4 #[], .iload 2, .iaload, .iconst (-1), .if_icmp .eq 49, .iconst (-4), .ireturn] 49 = x_aload 0 (x_g1 110 106 (x_g1 106 521 (x_iload 1 (x_aaload (x_astore 3 (x_aload 3 (x_g0 100 6 0 1 (x_ifCond .ne 46 K (x_aload 3 (x_g2 100 404 (x_iload 2 (x_iaload (x_iconst (-1) (x_if_icmp .eq 49 K (x_iconst (-4) (x_ireturn P)))))))))))))))) := ((xe_aload 0).trans (congrArg (x_aload 0) ((xe_g1 (kk := 110) rfl tl_10_2).trans (congrArg (x_g1 110 106) ((xe_g1 (kk := 106) rfl tl_6_1).trans (congrArg (x_g1 106 521) ((xe_iload 1).trans (congrArg (x_iload 1) ((xe_aaload).trans (congrArg (x_aaload) ((xe_astore 3).trans (congrArg (x_astore 3) ((xe_aload 3).trans (congrArg (x_aload 3) ((xe_g0 (kk := 100) rfl tl_0_6).trans (congrArg (x_g0 100 6 0 1) ((xe_ifCond .ne 46).trans (congrArg (x_ifCond .ne 46 K) ((xe_aload 3).trans (congrArg (x_aload 3) ((xe_g2 (kk := 100) rfl tl_0_4).trans (congrArg (x_g2 100 404) ((xe_iload 2).trans (congrArg (x_iload 2) ((xe_iaload).trans (congrArg (x_iaload) ((xe_iconst (-1)).trans (congrArg (x_iconst (-1)) ((xe_if_icmp .eq 49).trans (congrArg (x_if_icmp .eq 49 K) ((xe_iconst (-4)).trans (congrArg (x_iconst (-4)) (xe_ireturn)))))))))))))))))))))))))))))))))
theorem bk_X10_enter_46 : ck_ fX10 (some .int) cX10_enter 46 [.iconst (-4), .ireturn] 49 = true := qck_r (nn_ _) (by decide +kernel)
theorem bs_X10_enter_46 {P : Zt → Option Zv → Prop} (K : Int → Zl → List Zv → Zt → Prop) : sx_ K P [.iconst (-4), .ireturn] 49 = x_iconst (-4) (x_ireturn P) := ((xe_iconst (-4)).trans (congrArg (x_iconst (-4)) (xe_ireturn)))
theorem bk_X10_enter_49 : ck_ fX10 (some .int) cX10_enter 49 [.aload 3, .tableswitch 0 0 4 #[], .iload 2, .aload 3, .tableswitch 0 0 5 #[], .iastore, .aload 3, .tableswitch 0 0 3 #[], .aload 3, .tableswitch 0 0 5 #[], .iload 2, .iastore, .aload 3, .dup, .tableswitch 0 0 5 #[], .iconst 1, .iadd, .tableswitch 1 0 5 #[], .aload 3, .tableswitch 0 0 5 #[], .ireturn] 84 = true := qck_r (nn_ _) (by decide +kernel)
theorem bs_X10_enter_49 {P : Zt → Option Zv → Prop} (K : Int → Zl → List Zv → Zt → Prop) : sx_ K P [.aload 3, .tableswitch 0 0 4 #[], .iload 2, .aload 3, .tableswitch 0 0 5 #[], .iastore, .aload 3, .tableswitch 0 0 3 #[], .aload 3, .tableswitch 0 0 5 #[], .iload 2, .iastore, .aload 3, .dup, .tableswitch 0 0 5 #[], .iconst 1, .iadd, .tableswitch 1 0 5 #[], .aload 3, .tableswitch 0 0 5 #[], .ireturn] 84 = x_aload 3 (x_g2 100 404 (x_iload 2 (x_aload 3 (x_g0 100 5 0 12 (x_iastore (x_aload 3 (x_g2 100 403 (x_aload 3 (x_g0 100 5 0 12 (x_iload 2 (x_iastore (x_aload 3 (x_dup (x_g0 100 5 0 12 (x_iconst 1 (x_iadd (x_p 100 5 0 12 (x_aload 3 (x_g0 100 5 0 12 (x_ireturn P)))))))))))))))))))) := ((xe_aload 3).trans (congrArg (x_aload 3) ((xe_g2 (kk := 100) rfl tl_0_4).trans (congrArg (x_g2 100 404) ((xe_iload 2).trans (congrArg (x_iload 2) ((xe_aload 3).trans (congrArg (x_aload 3) ((xe_g0 (kk := 100) rfl tl_0_5).trans (congrArg (x_g0 100 5 0 12) ((xe_iastore).trans (congrArg (x_iastore) ((xe_aload 3).trans (congrArg (x_aload 3) ((xe_g2 (kk := 100) rfl tl_0_3).trans (congrArg (x_g2 100 403) ((xe_aload 3).trans (congrArg (x_aload 3) ((xe_g0 (kk := 100) rfl tl_0_5).trans (congrArg (x_g0 100 5 0 12) ((xe_iload 2).trans (congrArg (x_iload 2) ((xe_iastore).trans (congrArg (x_iastore) ((xe_aload 3).trans (congrArg (x_aload 3) ((xe_dup).trans (congrArg (x_dup) ((xe_g0 (kk := 100) rfl tl_0_5).trans (congrArg (x_g0 100 5 0 12) ((xe_iconst 1).trans (congrArg (x_iconst 1) ((xe_iadd).trans (congrArg (x_iadd) ((xe_p (kk := 100) rfl tl_0_5).trans (congrArg (x_p 100 5 0 12) ((xe_aload 3).trans (congrArg (x_aload 3) ((xe_g0 (kk := 100) rfl tl_0_5).trans (congrArg (x_g0 100 5 0 12) (xe_ireturn)))))))))))))))))))))))))))))))))))))))))
-- things are made: rows, objects, copies
section JN
variable {Y : Zm} {T0 T : Zt} {P : Zt → Option Zv → Prop} {bc bs bc' bs' : Nat} {pc pc' : Int} {ls : Zl} {st : List Zv}
def nu_ (T : Zt) (k : Nat) (i n : Int) (f : Int → Int) : Zt := fun k' i' j' => if k' = k ∧ i' = i then (if j' = -1 then 1 else if j' = -2 then n else f j') else T k' i' j'
def aq_ (ad : Nat → Int → Nat) (k : Nat) (i : Int) (q : Nat) : Nat → Int → Nat := fun k' i' => if k' = k ∧ i' = i then q else ad k' i'
theorem nu_o {k k' : Nat} {i i' n : Int} {f : Int → Int} (h : ¬ (k' = k ∧ i' = i)) : nu_ T k i n f k' i' = T k' i' := by
  funext j
  unfold nu_
  rw [if_neg h]
theorem nu_s {k : Nat} {i n : Int} {f : Int → Int} (j : Int) : nu_ T k i n f k i j = if j = -1 then 1 else if j = -2 then n else f j := by
  unfold nu_
  rw [if_pos ⟨rfl, rfl⟩]
theorem nu_p {k : Nat} {i n : Int} {f : Int → Int} {j : Int} (h : 0 ≤ j) : nu_ T k i n f k i j = f j := by
  rw [nu_s, if_neg (by omega), if_neg (by omega)]
theorem nu_l {k : Nat} {i n : Int} {f : Int → Int} : nu_ T k i n f k i (-2) = n := by
  rw [nu_s, if_neg (by omega), if_pos rfl]
theorem al_nu {k : Nat} {i n : Int} {f : Int → Int} (k' : Nat) (i' : Int) : al_ (nu_ T k i n f) k' i' ↔ (k' = k ∧ i' = i) ∨ al_ T k' i' := by
  unfold al_
  by_cases h : k' = k ∧ i' = i
  · obtain ⟨rfl, rfl⟩ := h
    rw [nu_s, if_pos rfl]
    simp
  · rw [nu_o h]
    simp [h]
theorem aq_s {ad : Nat → Int → Nat} {k q : Nat} {i : Int} : aq_ ad k i q k i = q := by
  unfold aq_
  rw [if_pos ⟨rfl, rfl⟩]
theorem aq_n {ad : Nat → Int → Nat} {k q k' : Nat} {i i' : Int} (h : ¬ (k' = k ∧ i' = i)) : aq_ ad k i q k' i' = ad k' i' := by
  unfold aq_
  rw [if_neg h]
theorem aq_e {ad : Nat → Int → Nat} {k q : Nat} {i : Int} (hk : 100 ≤ k) (hfr : ¬ al_ T k i) (k' : Nat) (i' : Int) (h : k' < 100 ∨ al_ T k' i') : aq_ ad k i q k' i' = ad k' i' := by
  refine aq_n (fun z => ?_)
  obtain ⟨rfl, rfl⟩ := z
  rcases h with h | h
  · omega
  · exact hfr h
theorem tf_ky : ∀ k, k < 154 → ∀ q ∈ tf_ k, ¬ (150 ≤ q.2.1 ∧ q.2.1 < 154) := by decide +kernel
theorem zi_at {k : Nat} {q : (Nat × Nat × Int × Int) × Nat} (h : q ∈ (tf_ k).zipIdx) : (tf_ k)[q.2]? = some q.1 := by
  obtain ⟨n, hn⟩ := List.getElem?_of_mem h
  rw [List.getElem?_zipIdx] at hn
  cases hz : (tf_ k)[n]? with
  | none => rw [hz] at hn; cases hn
  | some z =>
    rw [hz] at hn
    simp only [Option.map_some, Nat.zero_add, Option.some.injEq] at hn
    rw [← hn]
    exact hz
theorem ce_ad {cA : Nat → ClassId} {ad ad' : Nat → Int → Nat} (hT : ok_T T) (h : ∀ k i, k < 100 ∨ al_ T k i → ad' k i = ad k i) {k : Nat} {i : Int} (ha : al_ T k i) : ce_ cA ad' T k i = ce_ cA ad T k i := by
  unfold ce_
  cases hk : ta_ k with
  | none =>
    have e : ((tf_ k).zipIdx.map fun q => en_v ad' (fv_ q.1.1 q.1.2.1 (T k i (q.2 : Int)) i)) = (tf_ k).zipIdx.map fun q => en_v ad (fv_ q.1.1 q.1.2.1 (T k i (q.2 : Int)) i) := by
      apply List.map_congr_left
      rintro ⟨⟨c, k', lo, hi⟩, j⟩ hq
      exact en_congr h (hT.2.2.2.1 k i ha j c k' lo hi (zi_at hq))
    simp only [e]
  | some q =>
    obtain ⟨t, n, lo, hi⟩ := q
    have hc := tc_of hk
    have hlt : k < 640 := by
      by_cases z : k < 640
      · exact z
      · rw [ta_no (by omega)] at hk; cases hk
    match t, hk, hc with
    | 0, hk, hc => simp [tc_] at hc
    | 1, hk, hc => rfl
    | 2, hk, hc => rfl
    | 3, hk, hc => rfl
    | 4, hk, hc =>
      obtain rfl := ta_4_k k hlt n lo hi hk
      have e : (fun x : Nat => if T 521 i (x : Int) = 0 then none else some (ad' 100 x)) = fun x : Nat => if T 521 i (x : Int) = 0 then none else some (ad 100 x) := by
        funext x
        by_cases z : T 521 i (x : Int) = 0
        · rw [if_pos z, if_pos z]
        · rw [if_neg z, if_neg z, h 100 x (Or.inr (hT.2.2.2.2.1 i x (by omega) z))]
      simp only [e]
    | 5, hk, hc =>
      obtain rfl := ta_5_k k hlt n lo hi hk
      have e : (fun x : Nat => if T 523 i (x : Int) = 0 then none else some (ad' 102 x)) = fun x : Nat => if T 523 i (x : Int) = 0 then none else some (ad 102 x) := by
        funext x
        by_cases z : T 523 i (x : Int) = 0
        · rw [if_pos z, if_pos z]
        · rw [if_neg z, if_neg z, h 102 x (Or.inr (hT.2.2.2.2.2.1 i x (by omega) z))]
      simp only [e]
    | t + 6, hk, hc => simp [tc_] at hc
theorem ok_nu (hT : ok_T T) {k : Nat} {i n : Int} {f : Int → Int} (hk9 : k ≠ 190 ∧ k ≠ 191) (hk : 100 ≤ k) (hn : 0 ≤ n ∧ n ≤ 2147483647) (h1 : ∀ t m lo hi, ta_ k = some (t, m, lo, hi) → t ≤ 3 ∧ ∀ x, 0 ≤ x → lo ≤ f x ∧ f x ≤ hi) (h2 : ∀ (j c k' : Nat) (lo hi : Int), (tf_ k)[j]? = some (c, k', lo, hi) → lo ≤ f j ∧ f j ≤ hi ∧ ok_v T (fv_ c k' (f j) i)) (h3 : ∀ o, ow_ k = some o → al_ T o i ∨ al_ T (o + 50) i) : ok_T (nu_ T k i n f) := by
  obtain ⟨a1, a2, a3, a4, a5, a6, a7, a8, a9⟩ := hT
  have mo : ∀ k' i', al_ T k' i' → al_ (nu_ T k i n f) k' i' := fun k' i' h => (al_nu k' i').mpr (Or.inr h)
  refine ⟨fun k' t' n' lo' hi' h i' x' hx => ?_, fun k' j' c k'' lo' hi' h i' => ?_, fun i' => ?_, fun k' i' hl j' c k'' lo' hi' h => ?_, fun i' x' hx h => ?_, fun i' x' hx h => ?_, fun k' i' h q => ?_, fun k' i' o h q => ?_, fun i' h q => ?_⟩
  · by_cases e : k' = k ∧ i' = i
    · obtain ⟨rfl, rfl⟩ := e
      rw [nu_p hx]
      exact (h1 _ _ _ _ h).2 x' hx
    · rw [nu_o e]
      exact a1 k' t' n' lo' hi' h i' x' hx
  · by_cases e : k' = k ∧ i' = i
    · obtain ⟨rfl, rfl⟩ := e
      rw [nu_p (by omega)]
      exact ⟨(h2 _ _ _ _ _ h).1, (h2 _ _ _ _ _ h).2.1⟩
    · rw [nu_o e]
      exact a2 k' j' c k'' lo' hi' h i'
  · by_cases e : 190 = k ∧ i' = i
    · obtain ⟨rfl, rfl⟩ := e
      rw [nu_l]
      exact hn
    · rw [nu_o e]
      exact a3 i'
  · by_cases e : k' = k ∧ i' = i
    · obtain ⟨rfl, rfl⟩ := e
      rw [nu_p (by omega)]
      exact okv_mono mo (h2 _ _ _ _ _ h).2.2
    · rw [nu_o e]
      exact okv_mono mo (a4 k' i' (((al_nu k' i').mp hl).resolve_left e) j' c k'' lo' hi' h)
  · by_cases e : 521 = k ∧ i' = i
    · obtain ⟨rfl, rfl⟩ := e
      exact absurd (h1 _ _ _ _ ta_521).1 (by omega)
    · rw [nu_o e] at h
      exact mo _ _ (a5 i' x' hx h)
  · by_cases e : 523 = k ∧ i' = i
    · obtain ⟨rfl, rfl⟩ := e
      exact absurd (h1 _ _ _ _ ta_523).1 (by omega)
    · rw [nu_o e] at h
      exact mo _ _ (a6 i' x' hx h)
  · rcases (al_nu k' i').mp q with e | e
    · omega
    · exact a7 k' i' h e
  · rcases (al_nu k' i').mp q with e | e
    · obtain ⟨rfl, rfl⟩ := e
      exact (h3 o h).imp (mo _ _) (mo _ _)
    · exact (a8 k' i' o h e).imp (mo _ _) (mo _ _)
  · rw [nu_o (fun e => hk9.2 e.1.symm)] at h
    rcases (al_nu 190 i').mp q with e | e
    · exact hk9.1 e.1.symm
    · exact a9 i' h e
/-- a row of kind 190 is made, and counted -/
def nv_ (T : Zt) (n : Int) : Zt := up_ (nu_ T 190 (T 191 0 0) n (fun _ => 0)) 191 0 0 (T 191 0 0 + 1)
theorem nv_o {k' : Nat} {i' n : Int} (h : ¬ (k' = 190 ∧ i' = T 191 0 0)) (h2 : k' ≠ 191) : nv_ T n k' i' = T k' i' := by
  unfold nv_
  rw [up_o (fun e => h2 (Prod.mk.inj e).1), nu_o h]
theorem nv_9 {n : Int} : nv_ T n 191 0 0 = T 191 0 0 + 1 := up_s _ _ _ _ _
theorem nv_s {n : Int} : nv_ T n 190 (T 191 0 0) = nu_ T 190 (T 191 0 0) n (fun _ => 0) 190 (T 191 0 0) := by
  unfold nv_
  rw [up_o (fun e => absurd (Prod.mk.inj e).1 (by decide))]
theorem al_nv {n : Int} (k' : Nat) (i' : Int) : al_ (nv_ T n) k' i' ↔ (k' = 190 ∧ i' = T 191 0 0) ∨ al_ T k' i' := by
  unfold nv_
  rw [al_up (by omega), al_nu]
theorem ta_191 : ta_ 191 = none := by decide +kernel
theorem ok_nv (hT : ok_T T) {n : Int} (hn : 0 ≤ n ∧ n ≤ 2147483647) : ok_T (nv_ T n) := by
  obtain ⟨a1, a2, a3, a4, a5, a6, a7, a8, a9⟩ := hT
  have mo : ∀ k' i', al_ T k' i' → al_ (nv_ T n) k' i' := fun k' i' h => (al_nv k' i').mpr (Or.inr h)
  have hf : ∀ {k j : Nat} {q : Nat × Nat × Int × Int}, (tf_ k)[j]? = some q → k < 154 := fun h => tf_lt h
  refine ⟨fun k' t' n' lo' hi' h i' x' hx => ?_, fun k' j' c k'' lo' hi' h i' => ?_, fun i' => ?_, fun k' i' hl j' c k'' lo' hi' h => ?_, fun i' x' hx h => ?_, fun i' x' hx h => ?_, fun k' i' h q => ?_, fun k' i' o h q => ?_, fun i' h q => ?_⟩
  · by_cases e : k' = 190 ∧ i' = T 191 0 0
    · obtain ⟨rfl, rfl⟩ := e
      rw [nv_s, nu_p hx]
      rw [ta_190] at h
      cases h
      omega
    · rw [nv_o e (fun z => by rw [z, ta_191] at h; cases h)]
      exact a1 k' t' n' lo' hi' h i' x' hx
  · have := hf h
    rw [nv_o (fun e => by omega) (by omega)]
    exact a2 k' j' c k'' lo' hi' h i'
  · by_cases e : i' = T 191 0 0
    · subst e
      rw [nv_s, nu_l]
      exact hn
    · rw [nv_o (fun z => e z.2) (by omega)]
      exact a3 i'
  · have := hf h
    rw [nv_o (fun e => by omega) (by omega)]
    exact okv_mono mo (a4 k' i' (((al_nv k' i').mp hl).resolve_left (fun e => by omega)) j' c k'' lo' hi' h)
  · rw [nv_o (fun e => by omega) (by omega)] at h
    exact mo _ _ (a5 i' x' hx h)
  · rw [nv_o (fun e => by omega) (by omega)] at h
    exact mo _ _ (a6 i' x' hx h)
  · rcases (al_nv k' i').mp q with e | e
    · omega
    · exact a7 k' i' h e
  · rcases (al_nv k' i').mp q with e | e
    · rw [e.1] at h
      rw [show ow_ 190 = none by decide] at h
      cases h
    · exact (a8 k' i' o h e).imp (mo _ _) (mo _ _)
  · rw [nv_9] at h
    rcases (al_nv 190 i').mp q with e | e
    · omega
    · exact a9 i' (by omega) e
theorem no_191 {D : va_G} {cA : Nat → ClassId} {ad : Nat → Int → Nat} {A : Nat → Prop} {H : Heap} (h : Rp_ D cA ad T A H) (i : Int) : ¬ al_ T 191 i := fun ha => by
  obtain ⟨ids, q0, hq, -, hP, -⟩ := rp_at h ha
  have h1 := hP q0 _ (wd_get hq)
  unfold ce_ at h1
  rw [ta_191] at h1
  obtain ⟨r, hr, -⟩ := h1
  have e : vwCl[kc_ 191]? = none := by decide +kernel
  rw [show (kc_ 191) = (kc_ 191) from rfl, e] at hr
  cases hr
theorem rp_nu {D : va_G} {cA : Nat → ClassId} {ad : Nat → Int → Nat} {A : Nat → Prop} {H1 : Heap} (hT : ok_T T) {ids : List (Nat × Int)} (hids : ∀ k i, al_ T k i ↔ (k, i) ∈ ids) {k q : Nat} {i : Int} {T1 : Zt} {e : va_E} (hk : 100 ≤ k) (hfr : ¬ al_ T k i) (hs1 : ∀ k' i', al_ T k' i' → T1 k' i' = T k' i') (hal : ∀ k' i', al_ T1 k' i' ↔ (k' = k ∧ i' = i) ∨ al_ T k' i') (he : ce_ cA (aq_ ad k i q) T1 k i = e) (hP : va_P D vwCl (wd_ cA ad T ids ++ [(q, e)]) H1) (hD : va_D A (wd_ cA ad T ids ++ [(q, e)])) : Rp_ D cA (aq_ ad k i q) T1 A H1 := by
  have hw : wd_ cA (aq_ ad k i q) T1 (ids ++ [(k, i)]) = wd_ cA ad T ids ++ [(q, e)] := by
    unfold wd_
    rw [List.map_append]
    congr 1
    · apply List.map_congr_left
      rintro ⟨k', i'⟩ hm
      have ha := (hids k' i').mpr hm
      have hne : ¬ (k' = k ∧ i' = i) := fun z => hfr (by rw [← z.1, ← z.2]; exact ha)
      show (aq_ ad k i q k' i', ce_ cA (aq_ ad k i q) T1 k' i') = (ad k' i', ce_ cA ad T k' i')
      rw [ce_congr (hs1 k' i' ha), ce_ad hT (aq_e hk hfr) ha, aq_n hne]
    · show [(aq_ ad k i q k i, ce_ cA (aq_ ad k i q) T1 k i)] = _
      rw [he, aq_s]
  refine ⟨ids ++ [(k, i)], fun k' i' => ?_, by rw [hw]; exact hP, by rw [hw]; exact hD⟩
  rw [hal, hids, List.mem_append, List.mem_singleton, Prod.mk.injEq]
  exact or_comm
theorem j_nu {l : Launch} {p : Program} {e : Env} {s : State} {m : MethodId} {args : Array Value} {below : List Frame} {meth : Method} {c : Code} {D : va_G} {cA : Nat → ClassId} {ad0 : Nat → Int → Nat} {A : Nat → Prop} (X : Cx_ Y p s m args meth c D cA ad0 A) {ad : Nat → Int → Nat} {H1 : Heap} {locs : List Loc} {cells slots : Nat} {lsC : Array Slot} {k q : Nat} {i : Int} {T1 : Zt} {ev : va_E} {ids : List (Nat × Int)} (kk : J_ Y T0 P bc' bs' pc' ls (vR k i :: st) T1) (hc : cells + bc' ≤ Y.2.2.2.2.cells) (hs : slots + bs' ≤ Y.2.2.2.2.slots) (hk : 100 ≤ k) (hfr : ¬ al_ T k i) (hs1 : ∀ k' i', al_ T k' i' → T1 k' i' = T k' i') (hal : ∀ k' i', al_ T1 k' i' ↔ (k' = k ∧ i' = i) ∨ al_ T k' i') (hok : ok_T T1) (hids : ∀ k i, al_ T k i ↔ (k, i) ∈ ids) (he : ce_ cA (aq_ ad k i q) T1 k i = ev) (hP : va_P D vwCl (wd_ cA ad T ids ++ [(q, ev)]) H1) (hD : va_D A (wd_ cA ad T ids ++ [(q, ev)])) (hS : va_S A s.heap H1 locs) (hB : Sb_ ad0 ad T0 T) (hT : ok_T T) (hL : ok_l T ls st) (hl : lv_has lsC Y.2.2.1 (lp_ ad 0 ls)) (hn : ls.length = Y.2.2.1) :
    W p l e Y.2.2.2.2 s m args below meth c H1 locs cells slots (MQ below (Qc_ D cA ad0 T0 A P) args s Y.2.2.2.2.cells Y.2.2.2.2.slots A) (F0 m pc'.toNat lsC (.ref q :: st.map (en_v ad))) := by
  have mo : ∀ k' i', al_ T k' i' → al_ T1 k' i' := fun k' i' h => (hal k' i').mpr (Or.inr h)
  have hee : ∀ v, ok_v T v → en_v (aq_ ad k i q) v = en_v ad v := fun v hv => en_congr (aq_e hk hfr) hv
  have el : lp_ (aq_ ad k i q) 0 ls = lp_ ad 0 ls := lp_congr (fun k v hk => hee v (hL.1 k v hk))
  have es : st.map (en_v (aq_ ad k i q)) = st.map (en_v ad) := List.map_congr_left (fun v hv => hee v (hL.2 v hv))
  have k2 := kk l p e s m args below meth c D cA ad0 A X (aq_ ad k i q) H1 locs cells slots lsC hc hs (rp_nu hT hids hk hfr hs1 hal he hP hD) hS ⟨fun k' i' h => mo _ _ (hB.1 k' i' h), fun k' i' h => by rw [aq_e hk hfr k' i' (h.imp id (hB.1 k' i'))]; exact hB.2 k' i' h⟩ hok (ok_push (Or.inr ((hal k i).mpr (Or.inl ⟨rfl, rfl⟩))) ⟨fun k v hk => okv_mono mo (hL.1 k v hk), fun v hv => okv_mono mo (hL.2 v hv)⟩) (by rw [el]; exact hl) hn
  have e2 : (vR k i :: st).map (en_v (aq_ ad k i q)) = Value.ref q :: st.map (en_v ad) := by
    rw [List.map_cons, es]
    show Value.ref (aq_ ad k i q k i) :: _ = _
    rw [aq_s]
  rw [e2] at k2
  exact k2
theorem rp_ids {D : va_G} {cA : Nat → ClassId} {ad : Nat → Int → Nat} {A : Nat → Prop} {H : Heap} (h : Rp_ D cA ad T A H) : ∃ ids : List (Nat × Int), (∀ k i, al_ T k i ↔ (k, i) ∈ ids) ∧ va_P D vwCl (wd_ cA ad T ids) H ∧ va_D A (wd_ cA ad T ids) := h
theorem nu_a {k : Nat} {i n : Int} {f : Int → Int} (hfr : ¬ al_ T k i) (k' : Nat) (i' : Int) (h : al_ T k' i') : nu_ T k i n f k' i' = T k' i' := nu_o (fun z => hfr (by rw [← z.1, ← z.2]; exact h))
theorem ce_i {cA : Nat → ClassId} {ad : Nat → Int → Nat} {T1 : Zt} {k : Nat} {mo : Option Int} {lo hi i n : Int} (ha : ta_ k = some (1, mo, lo, hi)) (hmo : mo = none ∧ T1 k i (-2) = n ∨ mo = some n) : ce_ cA ad T1 k i = .inl (cA 0, n.toNat, .inl fun x => Int32.ofInt (T1 k i (x : Int))) := by
  unfold ce_ ln_
  rw [ha]
  rcases hmo with ⟨rfl, h⟩ | rfl
  · simp only [h]
  · rfl
theorem j_newX {k : Nat} {mo : Option Int} {lo hi i n : Int} {T1 : Zt} (hp : 0 ≤ pc) (ha : ta_ k = some (1, mo, lo, hi)) (hmo : mo = none ∧ T1 k i (-2) = n ∨ mo = some n) (hz : ∀ x : Nat, T1 k i (x : Int) = 0) (h0 : 0 ≤ n) (h1 : n ≤ 100000000) (hfr : ok_T T → ¬ al_ T k i) (hok : ok_T T → ok_T T1) (hs1 : (∀ i, ¬ al_ T 191 i) → ¬ al_ T k i → ∀ k' i', al_ T k' i' → T1 k' i' = T k' i') (hal : ∀ k' i', al_ T1 k' i' ↔ (k' = k ∧ i' = i) ∨ al_ T k' i') (hb : bc' + 1 ≤ bc) (hbs : bs' + n.toNat ≤ bs) (hd : decode Y.2.1 pc.toNat = .ok (.newarray .int, 2)) (hac : Cond.arrayClass .int ∈ lw_g) (kk : J_ Y T0 P bc' bs' (pc + 2) ls (vR k i :: st) T1) : J_ Y T0 P bc bs pc ls (vI n :: st) T := by
  intro l p e s m args below meth c D cA ad0 A X ad H locs cells slots lsC hc hs hR hS hB hT hL hl hln
  have hfr := hfr hT
  have hok := hok hT
  have hs1 := hs1 (no_191 hR) hfr
  obtain ⟨ids, hids, hP, hD⟩ := rp_ids hR
  have hk := ta_ge ha
  have hcl := i3_cl h0 (show n ≤ 2147483647 by omega)
  have hin := i3_in h0 (show n < n + 1 by omega) (show n ≤ 2147483647 by omega)
  refine va_newa (atype := .int) (ty := .int) (N' := n.toNat) (a0 := (n.toNat, .inl fun _ => 0)) X.1 X.2.1 (X.2.2.2.2.2.1 _ hac) rfl X.2.2.2.2.2.2.2.1 hP hD hS X.2.2.2.2.2.2.2.2.2.1 (fun _ => rfl) (fun z => hin (Or.inl z)) (by omega) (by show n.toNat * 4 ≤ _; omega) (by omega) (by omega) hd (fun q cN H1 hK1 hP1 hD1 hS1 => ?_)
  have ec : cN = cA 0 := by
    have q1 := va_nm_int (hK1.2 5 (cN, .int) rfl).2
    have q2 := va_nm_int (hK1.2 0 (cA 0, .int) rfl).2
    exact Option.some.inj (q1.symm.trans q2)
  subst ec
  have he : ce_ cA (aq_ ad k i q) T1 k i = .inl (cA 0, n.toNat, .inl fun _ => 0) := by
    rw [ce_i ha hmo]
    have e1 : (fun x : Nat => Int32.ofInt (T1 k i (x : Int))) = fun _ => 0 := by
      funext x
      rw [hz x]
      rfl
    rw [e1]
  have k2 := j_nu (l := l) (e := e) (below := below) (pc' := pc + 2) X kk (cells := cells + 1) (slots := slots + n.toNat) (by omega) (by omega) (by omega) hfr hs1 hal hok hids he hP1 hD1 hS1 hB hT (ok_tail hL) hl hln
  rw [show (pc + 2).toNat = pc.toNat + 2 by omega] at k2
  exact k2
/-- an int row of the tables is made -/
theorem j_newI {k : Nat} {lo hi i n : Int} (hp : 0 ≤ pc) (ha : ta_ k = some (1, some n, lo, hi)) (hl0 : lo ≤ 0 ∧ 0 ≤ hi) (hn : 0 ≤ n ∧ n ≤ 100000000) (hfr : ¬ al_ T k i) (hb : bc' + 1 ≤ bc) (hbs : bs' + n.toNat ≤ bs) (hd : decode Y.2.1 pc.toNat = .ok (.newarray .int, 2)) (hac : Cond.arrayClass .int ∈ lw_g) (how : ∀ o, ow_ k = some o → al_ T o i ∨ al_ T (o + 50) i) (kk : J_ Y T0 P bc' bs' (pc + 2) ls (vR k i :: st) (nu_ T k i n (fun _ => 0))) : J_ Y T0 P bc bs pc ls (vI n :: st) T := by
  refine j_newX hp ha (Or.inr rfl) (fun x => nu_p (by omega)) hn.1 hn.2 (fun _ => hfr) (fun hT => ok_nu hT ⟨fun z => ?_, fun z => ?_⟩ (by have := ta_ge ha; omega) ⟨hn.1, by omega⟩ (fun t m' lo' hi' h => by rw [ha] at h; cases h; exact ⟨by omega, fun x _ => hl0⟩) (fun j c k' lo' hi' h => by rw [ta_tf ha] at h; simp at h) how) (fun _ hfr => nu_a hfr) al_nu hb hbs hd hac kk
  · rw [z, ta_190] at ha; cases ha
  · rw [z, ta_191] at ha; cases ha
/-- an int row of any length is made -/
theorem j_newL {n : Int} (hp : 0 ≤ pc) (hn : 0 ≤ n ∧ n ≤ 100000000) (hb : bc' + 1 ≤ bc) (hbs : bs' + n.toNat ≤ bs) (hd : decode Y.2.1 pc.toNat = .ok (.newarray .int, 2)) (hac : Cond.arrayClass .int ∈ lw_g) (kk : J_ Y T0 P bc' bs' (pc + 2) ls (vR 190 (T 191 0 0) :: st) (nv_ T n)) : J_ Y T0 P bc bs pc ls (vI n :: st) T := by
  refine j_newX hp ta_190 (Or.inl ⟨rfl, by rw [nv_s, nu_l]⟩) (fun x => by rw [nv_s]; exact nu_p (by omega)) hn.1 hn.2 (fun hT => hT.2.2.2.2.2.2.2.2 _ (by omega)) (fun hT => ok_nv hT ⟨hn.1, by omega⟩) (fun h9 hfr k' i' h => nv_o (fun z => hfr (by rw [← z.1, ← z.2]; exact h)) (fun z => h9 i' (by rw [← z]; exact h))) al_nv hb hbs hd hac kk
/-- raw objects: what new makes, until its constructor has run -/
theorem ce_rw {cA : Nat → ClassId} {ad : Nat → Int → Nat} {ci : Nat} {i : Int} (h : ci < 4) : ce_ cA ad T (150 + ci) i = .inr (ci, (tf_ (150 + ci)).zipIdx.map fun q => en_v ad (fv_ q.1.1 q.1.2.1 (T (150 + ci) i (q.2 : Int)) i)) := by
  unfold ce_
  rw [tk_no _ (by omega)]
  simp only [kc_]
  rw [if_neg (by omega), Nat.add_sub_cancel_left]
theorem rw_ok {ci : Nat} (h : ci < 4) : ∀ q ∈ tf_ (150 + ci), q.2.2.1 ≤ 0 ∧ 0 ≤ q.2.2.2 ∧ (q.1 = 0 ∨ q.1 = 5) := by
  match ci, h with
  | 0, _ => decide +kernel
  | 1, _ => decide +kernel
  | 2, _ => decide +kernel
  | 3, _ => decide +kernel
def rw_fs (ci : Nat) (ad : Nat → Int → Nat) (i : Int) : List Value := (tf_ (150 + ci)).zipIdx.map fun q => en_v ad (fv_ q.1.1 q.1.2.1 0 i)
/-- an object is made -/
theorem j_newO {ci idx N : Nat} {C : String} {Tb : u_T} {ty0 : Nat → FieldType} {i : Int} (hp : 0 ≤ pc) (h4 : ci < 4) (hC : vwCl[ci]? = some (C, Tb, N)) (hty : ∀ k, k < N → parseFieldDescriptor (Tb k).2.2.1 = some (ty0 k)) (hfs : ∀ (ad : Nat → Int → Nat) (j : Nat), j < N → defaultValue (ty0 j) = vp_V (rw_fs ci ad i) j) (hcl : Cond.classLink Y.1 idx C ∈ lw_g) (hinst : Cond.instantiable C N ∈ lw_g) (hini : Cond.initialized C ∈ lw_g) (hfr : ¬ al_ T (150 + ci) i) (hb : bc' + 1 ≤ bc) (hbs : bs' + N ≤ bs) (hd : decode Y.2.1 pc.toNat = .ok (.new idx, 3)) (kk : J_ Y T0 P bc' bs' (pc + 3) ls (vR (150 + ci) i :: st) (nu_ T (150 + ci) i 0 (fun _ => 0))) : J_ Y T0 P bc bs pc ls st T := by
  intro l p e s m args below meth c D cA ad0 A X ad H locs cells slots lsC hc hs hR hS hB hT hL hl hln
  obtain ⟨ids, hids, hP, hD⟩ := rp_ids hR
  obtain ⟨hin, -, -⟩ := cl_in hC
  refine va_new (D := D) (ci := ci) (C := C) (T := Tb) (N := N) (own := Y.1) (index := idx) (fs := rw_fs ci ad i) X.1 X.2.1 X.2.2.2.2.2.1 hin ty0 hty X.2.2.2.2.2.2.1 (X.2.2.2.2.2.1 _ hcl) (X.2.2.2.2.2.1 _ hinst) (X.2.2.2.2.2.1 _ hini) X.2.2.2.2.2.2.2.1 hP hD hS X.2.2.2.2.2.2.2.2.2.1 hC (hfs ad) (by omega) (by omega) hd (fun q H1 hP1 hD1 hS1 => ?_)
  have hr := rw_ok h4
  have hv : ∀ (j c k' : Nat) (lo hi : Int), (tf_ (150 + ci))[j]? = some (c, k', lo, hi) → lo ≤ 0 ∧ 0 ≤ hi ∧ ok_v T (fv_ c k' 0 i) ∧ ∀ ad2 : Nat → Int → Nat, en_v ad2 (fv_ c k' 0 i) = en_v ad (fv_ c k' 0 i) := fun j c k' lo hi h => by
    obtain ⟨q1, q2, q3⟩ := hr _ (List.mem_of_getElem? h)
    refine ⟨q1, q2, ?_⟩
    rcases q3 with q3 | q3
    · have q4 : c = 0 := q3
      subst q4
      exact ⟨⟨by omega, by omega⟩, fun _ => rfl⟩
    · have q4 : c = 5 := q3
      subst q4
      exact ⟨trivial, fun _ => rfl⟩
  have hok : ok_T (nu_ T (150 + ci) i 0 (fun _ => 0)) := ok_nu hT ⟨by omega, by omega⟩ (by omega) ⟨by omega, by omega⟩ (fun t m' lo' hi' h => by rw [tk_no _ (by omega)] at h; cases h) (fun j c k' lo' hi' h => ⟨(hv j c k' lo' hi' h).1, (hv j c k' lo' hi' h).2.1, (hv j c k' lo' hi' h).2.2.1⟩) (fun o h => by
    have : ow_ (150 + ci) = none := by
      unfold ow_
      rw [if_neg (by omega), if_neg (by omega), if_neg (by omega)]
    rw [this] at h
    cases h)
  have he : ce_ cA (aq_ ad (150 + ci) i q) (nu_ T (150 + ci) i 0 (fun _ => 0)) (150 + ci) i = .inr (ci, rw_fs ci ad i) := by
    rw [ce_rw h4]
    unfold rw_fs
    have e2 : ((tf_ (150 + ci)).zipIdx.map fun z => en_v (aq_ ad (150 + ci) i q) (fv_ z.1.1 z.1.2.1 (nu_ T (150 + ci) i 0 (fun _ => 0) (150 + ci) i (z.2 : Int)) i)) = (tf_ (150 + ci)).zipIdx.map fun z => en_v ad (fv_ z.1.1 z.1.2.1 0 i) := by
      apply List.map_congr_left
      rintro ⟨⟨c, k', lo, hi⟩, j⟩ hq
      rw [nu_p (by omega)]
      exact (hv j c k' lo hi (zi_at hq)).2.2.2 _
    rw [e2]
  have k2 := j_nu (l := l) (e := e) (below := below) (pc' := pc + 3) X kk (cells := cells + 1) (slots := slots + N) (by omega) (by omega) (by omega) hfr (nu_a hfr) al_nu hok hids he hP1 hD1 hS1 hB hT hL hl hln
  rw [show (pc + 3).toNat = pc.toNat + 3 by omega] at k2
  exact k2
end JN
