abbrev cX9_listOpen : ByteArray := prog_11_method_3_code
def yX9_listOpen : MethodName := ⟨RX9, "listOpen", "(II)Z"⟩
def zX9_listOpen : Zm := (RX9, cX9_listOpen, 5, (some .boolean), { frames := 2, cells := 0, slots := 0, locals := 40 })
theorem bk_X9_listOpen_7 : ck_ fX9 (some .boolean) cX9_listOpen 7 [.iload 3, .aload 0, .tableswitch 0 9 5 #[], .tableswitch 0 0 8 #[], .if_icmp .ge 124, .aload 0, .tableswitch 0 9 0 #[], .tableswitch 0 6 3 #[], .aload 0, .tableswitch 0 9 5 #[], .tableswitch 0 0 7 #[], .iload 3, .iadd, .aaload, .astore 4, .aload 4] 39 = true := qck_r (by decide) (by decide +kernel)
theorem bs_X9_listOpen_7 {P : Zt → Option Zv → Prop} (K : Int → Zl → List Zv → Zt → Prop) : sx_ K P [.iload 3, .aload 0, .tableswitch 0 9 5 #[], .tableswitch 0 0 8 #[], .if_icmp .ge 124, .aload 0, .tableswitch 0 9 0 #[], .tableswitch 0 6 3 #[], .aload 0, .tableswitch 0 9 5 #[], .tableswitch 0 0 7 #[], .iload 3, .iadd, .aaload, .astore 4, .aload 4] 39 = x_iload 3 (x_aload 0 (x_g5 109 100 5 (x_g0 100 8 0 400 (x_if_icmp .ge 124 K (x_aload 0 (x_g1 109 106 (x_g1 106 523 (x_aload 0 (x_g5 109 100 5 (x_g0 100 7 0 400 (x_iload 3 (x_iadd (x_aaload (x_astore 4 (x_aload 4 (K 39)))))))))))))))) := ((xe_iload 3).trans (congrArg (x_iload 3) ((xe_aload 0).trans (congrArg (x_aload 0) ((xe_g5 (kk := 109) rfl tl_9_5).trans (congrArg (x_g5 109 100 5) ((xe_g0 (kk := 100) rfl tl_0_8).trans (congrArg (x_g0 100 8 0 400) ((xe_if_icmp .ge 124).trans (congrArg (x_if_icmp .ge 124 K) ((xe_aload 0).trans (congrArg (x_aload 0) ((xe_g1 (kk := 109) rfl tl_9_0).trans (congrArg (x_g1 109 106) ((xe_g1 (kk := 106) rfl tl_6_3).trans (congrArg (x_g1 106 523) ((xe_aload 0).trans (congrArg (x_aload 0) ((xe_g5 (kk := 109) rfl tl_9_5).trans (congrArg (x_g5 109 100 5) ((xe_g0 (kk := 100) rfl tl_0_7).trans (congrArg (x_g0 100 7 0 400) ((xe_iload 3).trans (congrArg (x_iload 3) ((xe_iadd).trans (congrArg (x_iadd) ((xe_aaload).trans (congrArg (x_aaload) ((xe_astore 4).trans (congrArg (x_astore 4) ((xe_aload 4).trans (congrArg (x_aload 4) xe_nil))))))))))))))))))))))))))))))))
theorem bk_X9_listOpen_124 : ck_ fX9 (some .boolean) cX9_listOpen 124 [.iconst 1, .ireturn] 126 = true := qck_r (by decide) (by decide +kernel)
theorem bs_X9_listOpen_124 {P : Zt → Option Zv → Prop} (K : Int → Zl → List Zv → Zt → Prop) : sx_ K P [.iconst 1, .ireturn] 126 = x_iconst 1 (x_ireturn P) := ((xe_iconst 1).trans (congrArg (x_iconst 1) (xe_ireturn)))
theorem bk_X9_listOpen_42 : ck_ fX9 (some .boolean) cX9_listOpen 42 [.ifCond .eq 48, .goto 118] 48 = true := qck_r (by decide) (by decide +kernel)
theorem bs_X9_listOpen_42 {P : Zt → Option Zv → Prop} (K : Int → Zl → List Zv → Zt → Prop) : sx_ K P [.ifCond .eq 48, .goto 118] 48 = x_ifCond .eq 48 K (x_goto 118 K) := ((xe_ifCond .eq 48).trans (congrArg (x_ifCond .eq 48 K) (xe_goto 118)))
theorem bk_X9_listOpen_48 : ck_ fX9 (some .boolean) cX9_listOpen 48 [.aload 4, .iload 1] 51 = true := qck_r (by decide) (by decide +kernel)
theorem bs_X9_listOpen_48 {P : Zt → Option Zv → Prop} (K : Int → Zl → List Zv → Zt → Prop) : sx_ K P [.aload 4, .iload 1] 51 = x_aload 4 (x_iload 1 (K 51)) := ((xe_aload 4).trans (congrArg (x_aload 4) ((xe_iload 1).trans (congrArg (x_iload 1) xe_nil))))
theorem bk_X9_listOpen_54 : ck_ fX9 (some .boolean) cX9_listOpen 54 [.ifCond .eq 84, .aload 0, .tableswitch 0 9 4 #[], .aload 4, .tableswitch 0 2 1 #[], .aload 4, .tableswitch 0 2 3 #[], .iload 1, .if_icmp .ne 79, .iconst 0, .goto 80] 79 = true := qck_r (by decide) (by decide +kernel)
theorem bs_X9_listOpen_54 {P : Zt → Option Zv → Prop} (K : Int → Zl → List Zv → Zt → Prop) : sx_ K P [.ifCond .eq 84, .aload 0, .tableswitch 0 9 4 #[], .aload 4, .tableswitch 0 2 1 #[], .aload 4, .tableswitch 0 2 3 #[], .iload 1, .if_icmp .ne 79, .iconst 0, .goto 80] 79 = x_ifCond .eq 84 K (x_aload 0 (x_g1 109 584 (x_aload 4 (x_g0 102 1 0 399 (x_aload 4 (x_g0 102 3 0 11 (x_iload 1 (x_if_icmp .ne 79 K (x_iconst 0 (x_goto 80 K)))))))))) := ((xe_ifCond .eq 84).trans (congrArg (x_ifCond .eq 84 K) ((xe_aload 0).trans (congrArg (x_aload 0) ((xe_g1 (kk := 109) rfl tl_9_4).trans (congrArg (x_g1 109 584) ((xe_aload 4).trans (congrArg (x_aload 4) ((xe_g0 (kk := 102) rfl tl_2_1).trans (congrArg (x_g0 102 1 0 399) ((xe_aload 4).trans (congrArg (x_aload 4) ((xe_g0 (kk := 102) rfl tl_2_3).trans (congrArg (x_g0 102 3 0 11) ((xe_iload 1).trans (congrArg (x_iload 1) ((xe_if_icmp .ne 79).trans (congrArg (x_if_icmp .ne 79 K) ((xe_iconst 0).trans (congrArg (x_iconst 0) (xe_goto 80)))))))))))))))))))))
theorem bk_X9_listOpen_84 : ck_ fX9 (some .boolean) cX9_listOpen 84 [.aload 0, .tableswitch 0 9 9 #[], .iload 2, .if_icmp .lt 94, .iconst 0, .ireturn] 94 = true := qck_r (by decide) (by decide +kernel)
theorem bs_X9_listOpen_84 {P : Zt → Option Zv → Prop} (K : Int → Zl → List Zv → Zt → Prop) : sx_ K P [.aload 0, .tableswitch 0 9 9 #[], .iload 2, .if_icmp .lt 94, .iconst 0, .ireturn] 94 = x_aload 0 (x_g0 109 9 0 40 (x_iload 2 (x_if_icmp .lt 94 K (x_iconst 0 (x_ireturn P))))) := ((xe_aload 0).trans (congrArg (x_aload 0) ((xe_g0 (kk := 109) rfl tl_9_9).trans (congrArg (x_g0 109 9 0 40) ((xe_iload 2).trans (congrArg (x_iload 2) ((xe_if_icmp .lt 94).trans (congrArg (x_if_icmp .lt 94 K) ((xe_iconst 0).trans (congrArg (x_iconst 0) (xe_ireturn)))))))))))
theorem bk_X9_listOpen_94 : ck_ fX9 (some .boolean) cX9_listOpen 94 [.aload 0, .tableswitch 0 9 8 #[], .aload 0, .tableswitch 0 9 9 #[], .aload 4, .tableswitch 0 2 1 #[], .iastore, .aload 0, .dup, .tableswitch 0 9 9 #[], .iconst 1, .iadd, .tableswitch 1 9 9 #[], .iinc 3 1, .goto 7] 124 = true := qck_r (by decide) (by decide +kernel)
theorem bs_X9_listOpen_94 {P : Zt → Option Zv → Prop} (K : Int → Zl → List Zv → Zt → Prop) : sx_ K P [.aload 0, .tableswitch 0 9 8 #[], .aload 0, .tableswitch 0 9 9 #[], .aload 4, .tableswitch 0 2 1 #[], .iastore, .aload 0, .dup, .tableswitch 0 9 9 #[], .iconst 1, .iadd, .tableswitch 1 9 9 #[], .iinc 3 1, .goto 7] 124 = x_aload 0 (x_g1 109 588 (x_aload 0 (x_g0 109 9 0 40 (x_aload 4 (x_g0 102 1 0 399 (x_iastore (x_aload 0 (x_dup (x_g0 109 9 0 40 (x_iconst 1 (x_iadd (x_p 109 9 0 40 (x_iinc 3 1 (x_goto 7 K)))))))))))))) := ((xe_aload 0).trans (congrArg (x_aload 0) ((xe_g1 (kk := 109) rfl tl_9_8).trans (congrArg (x_g1 109 588) ((xe_aload 0).trans (congrArg (x_aload 0) ((xe_g0 (kk := 109) rfl tl_9_9).trans (congrArg (x_g0 109 9 0 40) ((xe_aload 4).trans (congrArg (x_aload 4) ((xe_g0 (kk := 102) rfl tl_2_1).trans (congrArg (x_g0 102 1 0 399) ((xe_iastore).trans (congrArg (x_iastore) ((xe_aload 0).trans (congrArg (x_aload 0) ((xe_dup).trans (congrArg (x_dup) ((xe_g0 (kk := 109) rfl tl_9_9).trans (congrArg (x_g0 109 9 0 40) ((xe_iconst 1).trans (congrArg (x_iconst 1) ((xe_iadd).trans (congrArg (x_iadd) ((xe_p (kk := 109) rfl tl_9_9).trans (congrArg (x_p 109 9 0 40) ((xe_iinc 3 1).trans (congrArg (x_iinc 3 1) (xe_goto 7)))))))))))))))))))))))))))))
theorem bk_X9_listOpen_79 : ck_ fX9 (some .boolean) cX9_listOpen 79 [.iconst 2, .iastore, .goto 118] 84 = true := qck_r (by decide) (by decide +kernel)
theorem bs_X9_listOpen_79 {P : Zt → Option Zv → Prop} (K : Int → Zl → List Zv → Zt → Prop) : sx_ K P [.iconst 2, .iastore, .goto 118] 84 = x_iconst 2 (x_iastore (x_goto 118 K)) := ((xe_iconst 2).trans (congrArg (x_iconst 2) ((xe_iastore).trans (congrArg (x_iastore) (xe_goto 118)))))
theorem bk_X9_listOpen_118 : ck_ fX9 (some .boolean) cX9_listOpen 118 [.iinc 3 1, .goto 7] 124 = true := qck_r (by decide) (by decide +kernel)
theorem bs_X9_listOpen_118 {P : Zt → Option Zv → Prop} (K : Int → Zl → List Zv → Zt → Prop) : sx_ K P [.iinc 3 1, .goto 7] 124 = x_iinc 3 1 (x_goto 7 K) := ((xe_iinc 3 1).trans (congrArg (x_iinc 3 1) (xe_goto 7)))
theorem bk_X9_listOpen_80 : ck_ fX9 (some .boolean) cX9_listOpen 80 [.iastore, .goto 118] 84 = true := qck_r (by decide) (by decide +kernel)
theorem bs_X9_listOpen_80 {P : Zt → Option Zv → Prop} (K : Int → Zl → List Zv → Zt → Prop) : sx_ K P [.iastore, .goto 118] 84 = x_iastore (x_goto 118 K) := ((xe_iastore).trans (congrArg (x_iastore) (xe_goto 118)))
theorem bk_X9_listOpen_0 : ck_ fX9 (some .boolean) cX9_listOpen 0 [.aload 0, .iconst 0, .tableswitch 1 9 9 #[], .iconst 0, .istore 3] 7 = true := qck_r (by decide) (by decide +kernel)
theorem bs_X9_listOpen_0 {P : Zt → Option Zv → Prop} (K : Int → Zl → List Zv → Zt → Prop) : sx_ K P [.aload 0, .iconst 0, .tableswitch 1 9 9 #[], .iconst 0, .istore 3] 7 = x_aload 0 (x_iconst 0 (x_p 109 9 0 40 (x_iconst 0 (x_istore 3 (K 7))))) := ((xe_aload 0).trans (congrArg (x_aload 0) ((xe_iconst 0).trans (congrArg (x_iconst 0) ((xe_p (kk := 109) rfl tl_9_9).trans (congrArg (x_p 109 9 0 40) ((xe_iconst 0).trans (congrArg (x_iconst 0) ((xe_istore 3).trans (congrArg (x_istore 3) xe_nil))))))))))
abbrev po_X9_listOpen (T : Zt) (b n : Int) : Zt → Option Zv → Prop := fun T' r => ∃ x : Int, r = some (vI x) ∧ fr_ [(109, [9]), (584, []), (588, [])] T T' ∧ ((0 ≤ x ∧ x ≤ 1) ∧ ∀ j : Int, 0 ≤ j → j < T' 109 0 9 → T 100 (T 109 0 5 - 1) 7 ≤ T' 588 0 j ∧ T' 588 0 j < T 100 (T 109 0 5 - 1) 7 + T 100 (T 109 0 5 - 1) 8)
set_option maxHeartbeats 4000000 in
theorem ct_X9_listOpen {T : Zt} {b n : Int} (hka : KA_ T) (hkm : KM_ T) (hkc : KC_ T) (hc9 : 1 ≤ T 109 0 5 ∧ T 109 0 5 ≤ T 106 0 2) (hn : n ≤ 40) : Ct_ yX9_listOpen zX9_listOpen T [vR 109 0, vI b, vI n] (po_X9_listOpen T b n) := by
  refine ct_of (by decide) rfl rfl (Nat.le_of_ble_eq_true rfl) (fun hT hav => ?_)
  have hr_b : -2147483648 ≤ b ∧ b ≤ 2147483647 := hav (vI b) (by simp)
  have hr_n : -2147483648 ≤ n ∧ n ≤ 2147483647 := hav (vI n) (by simp)
  have hz : zX9_listOpen.2.2.2.1 = some .boolean → ∀ (T' : Zt) (x : Int), po_X9_listOpen T b n T' (some (vI x)) → 0 ≤ x ∧ x ≤ 1 := fun _ T' x h => by obtain ⟨y, e, -, hy, -⟩ := h; cases e; omega
  have hk2 := hkc (T 109 0 5 - 1) (by omega) (by omega)
  have hb_matchCount : 0 ≤ T 106 0 4 ∧ T 106 0 4 ≤ 400 := bd_f hT 106 4 (by decide +kernel : (tf_ 106)[4]? = some (0, 0, 0, 400)) 0
  have hfm : 0 ≤ T 100 (T 109 0 5 - 1) 7 ∧ T 100 (T 109 0 5 - 1) 7 ≤ 400 := bd_f hT 100 7 (by decide +kernel : (tf_ 100)[7]? = some (0, 0, 0, 400)) (T 109 0 5 - 1)
  have hmc : 0 ≤ T 100 (T 109 0 5 - 1) 8 ∧ T 100 (T 109 0 5 - 1) 8 ≤ 400 := bd_f hT 100 8 (by decide +kernel : (tf_ 100)[8]? = some (0, 0, 0, 400)) (T 109 0 5 - 1)
  show J_ zX9_listOpen T (po_X9_listOpen T b n) 0 0 0 [some (vR 109 0), some (vI b), some (vI n), none, none] [] T
  have c_7 : ∀ (nn : Nat) (k : Int) (T1 : Zt), ((T 100 (T 109 0 5 - 1) 8 - k).toNat) ≤ nn → (fr_ [(109, [9]), (584, []), (588, [])] T T1) → (0 ≤ k ∧ k ≤ T 100 (T 109 0 5 - 1) 8 ∧ 0 ≤ T1 109 0 9 ∧ T1 109 0 9 ≤ 40) → (∀ j : Int, 0 ≤ j → j < T1 109 0 9 → T 100 (T 109 0 5 - 1) 7 ≤ T1 588 0 j ∧ T1 588 0 j < T 100 (T 109 0 5 - 1) 7 + T 100 (T 109 0 5 - 1) 8) → J_ zX9_listOpen T (po_X9_listOpen T b n) 0 0 7 [some (vR 109 0), some (vI b), some (vI n), some (vI k), none] [] T1 := by
    intro nn
    induction nn using Nat.strongRecOn with
    | _ nn ih_7 =>
      intro k T1 hm_7 hf_7 i1 ol1
      refine j_blx (F := fX9) tb_X9 (by decide) bk_X9_listOpen_7 bs_X9_listOpen_7 hz (fun K hK => ?_)
      have e2 : T1 109 0 5 = T 109 0 5 := hf_7 109 0 5 rfl
      refine And.intro (fun c1 => ?_) (fun c1 => ?_)
      · exact absurd c1 (by omega)
      · intro b3 b3b
        have e4 : T1 100 (T 109 0 5 - 1) 8 = T 100 (T 109 0 5 - 1) 8 := hf_7 100 (T 109 0 5 - 1) 8 rfl
        have e5 : T1 100 (T1 109 0 5 - 1) 8 = T 100 (T 109 0 5 - 1) 8 := by rw [e2]; exact e4
        rw [e5] at b3 b3b ⊢
        refine And.intro (fun c6 => ?_) (fun c6 => ?_)
        · refine hK 124 [some (vR 109 0), some (vI b), some (vI n), some (vI k), none] [] T1 ?_
          refine j_blx (F := fX9) tb_X9 (by decide) bk_X9_listOpen_124 bs_X9_listOpen_124 hz (fun K hK => ?_)
          refine (show po_X9_listOpen T b n T1 (some (vI 1)) from ?_)
          exact ⟨_, rfl, fr_t (fr_0 _ _) (fr_s hf_7 rfl), ⟨by omega, by omega⟩, ol1⟩
        · have e8 : T1 109 0 5 = T 109 0 5 := hf_7 109 0 5 rfl
          refine And.intro (fun c7 => ?_) (fun c7 => ?_)
          · exact absurd c7 (by omega)
          · intro b9 b9b
            have e10 : T1 100 (T 109 0 5 - 1) 7 = T 100 (T 109 0 5 - 1) 7 := hf_7 100 (T 109 0 5 - 1) 7 rfl
            have e11 : T1 100 (T1 109 0 5 - 1) 7 = T 100 (T 109 0 5 - 1) 7 := by rw [e8]; exact e10
            rw [e11] at b9 b9b ⊢
            refine rg_i (by omega) ?_
            refine ix_i (by omega) ?_
            have e13 : T1 523 0 ((T 100 (T 109 0 5 - 1) 7) + k) = T 523 0 ((T 100 (T 109 0 5 - 1) 7) + k) := hf_7 523 0 ((T 100 (T 109 0 5 - 1) 7) + k) rfl
            refine And.intro (fun c12 => ?_) (fun c12 => ?_)
            · exact absurd (show T 523 0 (T 100 (T 109 0 5 - 1) 7 + k) = 0 by omega) (hka.2 _ (by omega) (by omega))
            · refine hK 39 [some (vR 109 0), some (vI b), some (vI n), some (vI k), some (vR 102 ((T 100 (T 109 0 5 - 1) 7) + k))] [vR 102 ((T 100 (T 109 0 5 - 1) 7) + k)] T1 ?_
              refine j_callV (y := yX2_isDecided) (Yc := zX2_isDecided) (rest := []) [] (ct_X2_isDecided (T := T1)) cl_X9_109 (qd_c (by decide +kernel)) (by decide) rfl (by decide +kernel) (Nat.le_of_ble_eq_true rfl) (by decide) (by decide) rfl ?_
              rintro _ _ ⟨rfl, x14, rfl, hx14⟩
              show J_ zX9_listOpen T (po_X9_listOpen T b n) 0 0 42 [some (vR 109 0), some (vI b), some (vI n), some (vI k), some (vR 102 ((T 100 (T 109 0 5 - 1) 7) + k))] [vI x14] T1
              refine j_blx (F := fX9) tb_X9 (by decide) bk_X9_listOpen_42 bs_X9_listOpen_42 hz (fun K hK => ?_)
              refine And.intro (fun c15 => ?_) (fun c15 => ?_)
              · refine hK 48 [some (vR 109 0), some (vI b), some (vI n), some (vI k), some (vR 102 ((T 100 (T 109 0 5 - 1) 7) + k))] [] T1 ?_
                refine j_blx (F := fX9) tb_X9 (by decide) bk_X9_listOpen_48 bs_X9_listOpen_48 hz (fun K hK => ?_)
                refine hK 51 [some (vR 109 0), some (vI b), some (vI n), some (vI k), some (vR 102 ((T 100 (T 109 0 5 - 1) 7) + k))] [vI b, vR 102 ((T 100 (T 109 0 5 - 1) 7) + k)] T1 ?_
                refine j_callV (y := yX2_has) (Yc := zX2_has) (rest := []) [vI b] (ct_X2_has (T := T1)) cl_X9_115 (qd_c (by decide +kernel)) (by decide) rfl (by decide +kernel) (Nat.le_of_ble_eq_true rfl) (by decide) (by decide) rfl ?_
                rintro _ _ ⟨rfl, x16, rfl, hx16⟩
                show J_ zX9_listOpen T (po_X9_listOpen T b n) 0 0 54 [some (vR 109 0), some (vI b), some (vI n), some (vI k), some (vR 102 ((T 100 (T 109 0 5 - 1) 7) + k))] [vI x16] T1
                refine j_blx (F := fX9) tb_X9 (by decide) bk_X9_listOpen_54 bs_X9_listOpen_54 hz (fun K hK => ?_)
                refine And.intro (fun c17 => ?_) (fun c17 => ?_)
                · refine hK 84 [some (vR 109 0), some (vI b), some (vI n), some (vI k), some (vR 102 ((T 100 (T 109 0 5 - 1) 7) + k))] [] T1 ?_
                  refine j_blx (F := fX9) tb_X9 (by decide) bk_X9_listOpen_84 bs_X9_listOpen_84 hz (fun K hK => ?_)
                  intro b18 b18b
                  refine And.intro (fun c19 => ?_) (fun c19 => ?_)
                  · refine hK 94 [some (vR 109 0), some (vI b), some (vI n), some (vI k), some (vR 102 ((T 100 (T 109 0 5 - 1) 7) + k))] [] T1 ?_
                    refine j_blx (F := fX9) tb_X9 (by decide) bk_X9_listOpen_94 bs_X9_listOpen_94 hz (fun K hK => ?_)
                    intro b20 b20b
                    intro b21 b21b
                    have e22 : T1 102 ((T 100 (T 109 0 5 - 1) 7) + k) 1 = T 102 ((T 100 (T 109 0 5 - 1) 7) + k) 1 := hf_7 102 ((T 100 (T 109 0 5 - 1) 7) + k) 1 rfl
                    rw [e22] at b21 b21b ⊢
                    refine iy_i (by omega) (by omega) ?_
                    refine x_nm (fun U23 hU23 => ?_)
                    have e24 := up_f hU23
                    intro b25 b25b
                    have e26 : U23 109 0 9 = T1 109 0 9 := up_k hU23 (by decide) 0 9
                    rw [e26] at b25 b25b ⊢
                    refine rg_i (by omega) ?_
                    refine bd_i (by omega) ?_
                    refine x_nm (fun U27 hU27 => ?_)
                    have e28 := up_f hU27
                    refine rg_i (by omega) ?_
                    refine hK 7 [some (vR 109 0), some (vI b), some (vI n), some (vI (k + 1)), some (vR 102 ((T 100 (T 109 0 5 - 1) 7) + k))] [] U27 ?_
                    refine j_drop [some (vR 109 0), some (vI b), some (vI n), some (vI (k + 1)), none] (fun k v hk => ?_) rfl ?_
                    · match k, hk with
                      | 0, hk => exact hk
                      | 1, hk => exact hk
                      | 2, hk => exact hk
                      | 3, hk => exact hk
                      | 4, hk => cases hk
                      | k + 5, hk => cases hk
                    have e29 : U27 109 0 9 = (T1 109 0 9) + 1 := up_f hU27
                    refine ih_7 _ ?_ (k + 1) U27 (Nat.le_refl _) ?_ ?_ ?_
                    · omega
                    · exact fr_u (fr_u (fr_t (fr_0 _ _) (fr_s hf_7 rfl)) hU23 rfl) hU27 rfl
                    · omega
                    · intro j a b
                      rw [up_k hU27 (by decide) 0 j]
                      by_cases z : j = T1 109 0 9
                      · rw [z, up_f hU23]; have y := (hkm (T 100 (T 109 0 5 - 1) 7 + k) (by omega) (by omega)).1; omega
                      · rw [up_g hU23 (fun y => z y.2.2)]; exact ol1 j a (by omega)
                  · refine (show po_X9_listOpen T b n T1 (some (vI 0)) from ?_)
                    exact ⟨_, rfl, fr_t (fr_0 _ _) (fr_s hf_7 rfl), ⟨by omega, by omega⟩, ol1⟩
                · intro b30 b30b
                  have e31 : T1 102 ((T 100 (T 109 0 5 - 1) 7) + k) 1 = T 102 ((T 100 (T 109 0 5 - 1) 7) + k) 1 := hf_7 102 ((T 100 (T 109 0 5 - 1) 7) + k) 1 rfl
                  rw [e31] at b30 b30b ⊢
                  intro b32 b32b
                  have e33 : T1 102 ((T 100 (T 109 0 5 - 1) 7) + k) 3 = T 102 ((T 100 (T 109 0 5 - 1) 7) + k) 3 := hf_7 102 ((T 100 (T 109 0 5 - 1) 7) + k) 3 rfl
                  rw [e33] at b32 b32b ⊢
                  refine And.intro (fun c34 => ?_) (fun c34 => ?_)
                  · refine hK 79 [some (vR 109 0), some (vI b), some (vI n), some (vI k), some (vR 102 ((T 100 (T 109 0 5 - 1) 7) + k))] [vI (T 102 ((T 100 (T 109 0 5 - 1) 7) + k) 1), vR 584 0] T1 ?_
                    refine j_blx (F := fX9) tb_X9 (by decide) bk_X9_listOpen_79 bs_X9_listOpen_79 hz (fun K hK => ?_)
                    refine iy_i (by omega) (by omega) ?_
                    refine x_nm (fun U35 hU35 => ?_)
                    have e36 := up_f hU35
                    refine hK 118 [some (vR 109 0), some (vI b), some (vI n), some (vI k), some (vR 102 ((T 100 (T 109 0 5 - 1) 7) + k))] [] U35 ?_
                    refine j_blx (F := fX9) tb_X9 (by decide) bk_X9_listOpen_118 bs_X9_listOpen_118 hz (fun K hK => ?_)
                    refine rg_i (by omega) ?_
                    refine hK 7 [some (vR 109 0), some (vI b), some (vI n), some (vI (k + 1)), some (vR 102 ((T 100 (T 109 0 5 - 1) 7) + k))] [] U35 ?_
                    refine j_drop [some (vR 109 0), some (vI b), some (vI n), some (vI (k + 1)), none] (fun k v hk => ?_) rfl ?_
                    · match k, hk with
                      | 0, hk => exact hk
                      | 1, hk => exact hk
                      | 2, hk => exact hk
                      | 3, hk => exact hk
                      | 4, hk => cases hk
                      | k + 5, hk => cases hk
                    have e37 : U35 109 0 9 = T1 109 0 9 := up_k hU35 (by decide) 0 9
                    refine ih_7 _ ?_ (k + 1) U35 (Nat.le_refl _) ?_ ?_ ?_
                    · omega
                    · exact fr_u (fr_t (fr_0 _ _) (fr_s hf_7 rfl)) hU35 rfl
                    · omega
                    · intro j a b
                      rw [up_k hU35 (by decide) 0 j]
                      exact ol1 j a (by have y := up_k hU35 (by decide : (109 : Nat) ≠ 584) 0 9; omega)
                  · refine hK 80 [some (vR 109 0), some (vI b), some (vI n), some (vI k), some (vR 102 ((T 100 (T 109 0 5 - 1) 7) + k))] [vI 0, vI (T 102 ((T 100 (T 109 0 5 - 1) 7) + k) 1), vR 584 0] T1 ?_
                    refine j_blx (F := fX9) tb_X9 (by decide) bk_X9_listOpen_80 bs_X9_listOpen_80 hz (fun K hK => ?_)
                    refine iy_i (by omega) (by omega) ?_
                    refine x_nm (fun U38 hU38 => ?_)
                    have e39 := up_f hU38
                    refine hK 118 [some (vR 109 0), some (vI b), some (vI n), some (vI k), some (vR 102 ((T 100 (T 109 0 5 - 1) 7) + k))] [] U38 ?_
                    refine j_blx (F := fX9) tb_X9 (by decide) bk_X9_listOpen_118 bs_X9_listOpen_118 hz (fun K hK => ?_)
                    refine rg_i (by omega) ?_
                    refine hK 7 [some (vR 109 0), some (vI b), some (vI n), some (vI (k + 1)), some (vR 102 ((T 100 (T 109 0 5 - 1) 7) + k))] [] U38 ?_
                    refine j_drop [some (vR 109 0), some (vI b), some (vI n), some (vI (k + 1)), none] (fun k v hk => ?_) rfl ?_
                    · match k, hk with
                      | 0, hk => exact hk
                      | 1, hk => exact hk
                      | 2, hk => exact hk
                      | 3, hk => exact hk
                      | 4, hk => cases hk
                      | k + 5, hk => cases hk
                    have e40 : U38 109 0 9 = T1 109 0 9 := up_k hU38 (by decide) 0 9
                    refine ih_7 _ ?_ (k + 1) U38 (Nat.le_refl _) ?_ ?_ ?_
                    · omega
                    · exact fr_u (fr_t (fr_0 _ _) (fr_s hf_7 rfl)) hU38 rfl
                    · omega
                    · intro j a b
                      rw [up_k hU38 (by decide) 0 j]
                      exact ol1 j a (by have y := up_k hU38 (by decide : (109 : Nat) ≠ 584) 0 9; omega)
              · refine hK 118 [some (vR 109 0), some (vI b), some (vI n), some (vI k), some (vR 102 ((T 100 (T 109 0 5 - 1) 7) + k))] [] T1 ?_
                refine j_blx (F := fX9) tb_X9 (by decide) bk_X9_listOpen_118 bs_X9_listOpen_118 hz (fun K hK => ?_)
                refine rg_i (by omega) ?_
                refine hK 7 [some (vR 109 0), some (vI b), some (vI n), some (vI (k + 1)), some (vR 102 ((T 100 (T 109 0 5 - 1) 7) + k))] [] T1 ?_
                refine j_drop [some (vR 109 0), some (vI b), some (vI n), some (vI (k + 1)), none] (fun k v hk => ?_) rfl ?_
                · match k, hk with
                  | 0, hk => exact hk
                  | 1, hk => exact hk
                  | 2, hk => exact hk
                  | 3, hk => exact hk
                  | 4, hk => cases hk
                  | k + 5, hk => cases hk
                refine ih_7 _ ?_ (k + 1) T1 (Nat.le_refl _) ?_ ?_ ?_
                · omega
                · exact fr_t (fr_0 _ _) (fr_s hf_7 rfl)
                · omega
                · exact ol1
  refine j_blx (F := fX9) tb_X9 (by decide) bk_X9_listOpen_0 bs_X9_listOpen_0 hz (fun K hK => ?_)
  refine bd_i (by omega) ?_
  refine x_nm (fun U41 hU41 => ?_)
  have e42 := up_f hU41
  refine hK 7 [some (vR 109 0), some (vI b), some (vI n), some (vI 0), none] [] U41 ?_
  have e43 : U41 109 0 9 = 0 := up_f hU41
  refine c_7 _ 0 U41 (Nat.le_refl _) ?_ ?_ ?_
  · exact fr_u (fr_0 _ _) hU41 rfl
  · omega
  · intro j a b; omega

