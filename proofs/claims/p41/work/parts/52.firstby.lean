abbrev cX9_isFirstBy : ByteArray := prog_11_method_18_code
def yX9_isFirstBy : MethodName := ⟨RX9, "isFirstBy", "(III)Z"⟩
def zX9_isFirstBy : Zm := (RX9, cX9_isFirstBy, 7, (some .boolean), { frames := 5, cells := 0, slots := 0, locals := 127 })
theorem bk_X9_isFirstBy_20 : ck_ fX9 (some .boolean) cX9_isFirstBy 20 [.iload 5, .iload 2, .if_icmp .ge 87, .iload 4, .iconst 3, .frem, .istore 6, .iload 4, .iconst 3, .fdiv, .istore 4, .aload 0, .tableswitch 0 9 1 #[], .aload 0, .tableswitch 0 9 0 #[], .tableswitch 0 6 3 #[], .aload 0, .tableswitch 0 9 8 #[], .iload 5, .iaload, .aaload, .iload 6, .ifCond .ne 66, .iconst 1, .goto 67] 66 = true := qck_r (by decide) (by decide +kernel)
theorem bs_X9_isFirstBy_20 {P : Zt → Option Zv → Prop} (K : Int → Zl → List Zv → Zt → Prop) : sx_ K P [.iload 5, .iload 2, .if_icmp .ge 87, .iload 4, .iconst 3, .frem, .istore 6, .iload 4, .iconst 3, .fdiv, .istore 4, .aload 0, .tableswitch 0 9 1 #[], .aload 0, .tableswitch 0 9 0 #[], .tableswitch 0 6 3 #[], .aload 0, .tableswitch 0 9 8 #[], .iload 5, .iaload, .aaload, .iload 6, .ifCond .ne 66, .iconst 1, .goto 67] 66 = x_iload 5 (x_iload 2 (x_if_icmp .ge 87 K (x_iload 4 (x_iconst 3 (x_frem (x_istore 6 (x_iload 4 (x_iconst 3 (x_fdiv (x_istore 4 (x_aload 0 (x_g1 109 107 (x_aload 0 (x_g1 109 106 (x_g1 106 523 (x_aload 0 (x_g1 109 588 (x_iload 5 (x_iaload (x_aaload (x_iload 6 (x_ifCond .ne 66 K (x_iconst 1 (x_goto 67 K)))))))))))))))))))))))) := ((xe_iload 5).trans (congrArg (x_iload 5) ((xe_iload 2).trans (congrArg (x_iload 2) ((xe_if_icmp .ge 87).trans (congrArg (x_if_icmp .ge 87 K) ((xe_iload 4).trans (congrArg (x_iload 4) ((xe_iconst 3).trans (congrArg (x_iconst 3) ((xe_frem).trans (congrArg (x_frem) ((xe_istore 6).trans (congrArg (x_istore 6) ((xe_iload 4).trans (congrArg (x_iload 4) ((xe_iconst 3).trans (congrArg (x_iconst 3) ((xe_fdiv).trans (congrArg (x_fdiv) ((xe_istore 4).trans (congrArg (x_istore 4) ((xe_aload 0).trans (congrArg (x_aload 0) ((xe_g1 (kk := 109) rfl tl_9_1).trans (congrArg (x_g1 109 107) ((xe_aload 0).trans (congrArg (x_aload 0) ((xe_g1 (kk := 109) rfl tl_9_0).trans (congrArg (x_g1 109 106) ((xe_g1 (kk := 106) rfl tl_6_3).trans (congrArg (x_g1 106 523) ((xe_aload 0).trans (congrArg (x_aload 0) ((xe_g1 (kk := 109) rfl tl_9_8).trans (congrArg (x_g1 109 588) ((xe_iload 5).trans (congrArg (x_iload 5) ((xe_iaload).trans (congrArg (x_iaload) ((xe_aaload).trans (congrArg (x_aaload) ((xe_iload 6).trans (congrArg (x_iload 6) ((xe_ifCond .ne 66).trans (congrArg (x_ifCond .ne 66 K) ((xe_iconst 1).trans (congrArg (x_iconst 1) (xe_goto 67)))))))))))))))))))))))))))))))))))))))))))))))))
theorem bk_X9_isFirstBy_87 : ck_ fX9 (some .boolean) cX9_isFirstBy 87 [.aload 0, .tableswitch 0 9 1 #[]] 91 = true := qck_r (by decide) (by decide +kernel)
theorem bs_X9_isFirstBy_87 {P : Zt → Option Zv → Prop} (K : Int → Zl → List Zv → Zt → Prop) : sx_ K P [.aload 0, .tableswitch 0 9 1 #[]] 91 = x_aload 0 (x_g1 109 107 (K 91)) := ((xe_aload 0).trans (congrArg (x_aload 0) ((xe_g1 (kk := 109) rfl tl_9_1).trans (congrArg (x_g1 109 107) xe_nil))))
set_option maxRecDepth 100000 in
theorem cl_X9_184 : cv_ RX9 184 yX7_rank zX7_rank 7 0 := ⟨gi_V (lw_b6 120 (by decide +kernel) rfl : Cond.methodLink RX9 184 yX7_rank ∈ lw_g) (lw_b5 225 (by decide +kernel) rfl : Cond.instanceMethod yX7_rank ∈ lw_g) (lw_b5 226 (by decide +kernel) rfl : Cond.selects yX7_rank.cls yX7_rank yX7_rank ∈ lw_g) (lw_b1 5 (by decide +kernel) rfl : Cond.initialized yX7_rank.cls ∈ lw_g) (lw_b5 227 rfl rfl : Cond.code yX7_rank cX7_rank 3 none ∈ lw_g), ⟨by decide, by decide, by decide +kernel⟩, ⟨_, _, rfl⟩⟩
theorem bk_X9_isFirstBy_94 : ck_ fX9 (some .boolean) cX9_isFirstBy 94 [.aload 0, .tableswitch 0 9 1 #[], .tableswitch 0 7 2 #[], .iload 3, .iconst 8, .imul, .iconst 7, .iadd, .iaload, .iconst 1, .if_icmp .ne 117, .iconst 1, .goto 118] 117 = true := qck_r (by decide) (by decide +kernel)
theorem bs_X9_isFirstBy_94 {P : Zt → Option Zv → Prop} (K : Int → Zl → List Zv → Zt → Prop) : sx_ K P [.aload 0, .tableswitch 0 9 1 #[], .tableswitch 0 7 2 #[], .iload 3, .iconst 8, .imul, .iconst 7, .iadd, .iaload, .iconst 1, .if_icmp .ne 117, .iconst 1, .goto 118] 117 = x_aload 0 (x_g1 109 107 (x_g1 107 542 (x_iload 3 (x_iconst 8 (x_imul (x_iconst 7 (x_iadd (x_iaload (x_iconst 1 (x_if_icmp .ne 117 K (x_iconst 1 (x_goto 118 K)))))))))))) := ((xe_aload 0).trans (congrArg (x_aload 0) ((xe_g1 (kk := 109) rfl tl_9_1).trans (congrArg (x_g1 109 107) ((xe_g1 (kk := 107) rfl tl_7_2).trans (congrArg (x_g1 107 542) ((xe_iload 3).trans (congrArg (x_iload 3) ((xe_iconst 8).trans (congrArg (x_iconst 8) ((xe_imul).trans (congrArg (x_imul) ((xe_iconst 7).trans (congrArg (x_iconst 7) ((xe_iadd).trans (congrArg (x_iadd) ((xe_iaload).trans (congrArg (x_iaload) ((xe_iconst 1).trans (congrArg (x_iconst 1) ((xe_if_icmp .ne 117).trans (congrArg (x_if_icmp .ne 117 K) ((xe_iconst 1).trans (congrArg (x_iconst 1) (xe_goto 118)))))))))))))))))))))))))
theorem bk_X9_isFirstBy_117 : ck_ fX9 (some .boolean) cX9_isFirstBy 117 [.iconst 0, .ireturn] 119 = true := qck_r (by decide) (by decide +kernel)
theorem bs_X9_isFirstBy_117 {P : Zt → Option Zv → Prop} (K : Int → Zl → List Zv → Zt → Prop) : sx_ K P [.iconst 0, .ireturn] 119 = x_iconst 0 (x_ireturn P) := ((xe_iconst 0).trans (congrArg (x_iconst 0) (xe_ireturn)))
theorem bk_X9_isFirstBy_118 : ck_ fX9 (some .boolean) cX9_isFirstBy 118 [.ireturn] 119 = true := qck_r (by decide) (by decide +kernel)
theorem bs_X9_isFirstBy_118 {P : Zt → Option Zv → Prop} (K : Int → Zl → List Zv → Zt → Prop) : sx_ K P [.ireturn] 119 = x_ireturn P := (xe_ireturn)
theorem bk_X9_isFirstBy_66 : ck_ fX9 (some .boolean) cX9_isFirstBy 66 [.iconst 0, .iload 6, .iconst 2, .if_icmp .ne 77, .iconst 1, .goto 78] 77 = true := qck_r (by decide) (by decide +kernel)
theorem bs_X9_isFirstBy_66 {P : Zt → Option Zv → Prop} (K : Int → Zl → List Zv → Zt → Prop) : sx_ K P [.iconst 0, .iload 6, .iconst 2, .if_icmp .ne 77, .iconst 1, .goto 78] 77 = x_iconst 0 (x_iload 6 (x_iconst 2 (x_if_icmp .ne 77 K (x_iconst 1 (x_goto 78 K))))) := ((xe_iconst 0).trans (congrArg (x_iconst 0) ((xe_iload 6).trans (congrArg (x_iload 6) ((xe_iconst 2).trans (congrArg (x_iconst 2) ((xe_if_icmp .ne 77).trans (congrArg (x_if_icmp .ne 77 K) ((xe_iconst 1).trans (congrArg (x_iconst 1) (xe_goto 78)))))))))))
theorem bk_X9_isFirstBy_77 : ck_ fX9 (some .boolean) cX9_isFirstBy 77 [.iconst 0] 78 = true := qck_r (by decide) (by decide +kernel)
theorem bs_X9_isFirstBy_77 {P : Zt → Option Zv → Prop} (K : Int → Zl → List Zv → Zt → Prop) : sx_ K P [.iconst 0] 78 = x_iconst 0 (K 78) := ((xe_iconst 0).trans (congrArg (x_iconst 0) xe_nil))
set_option maxRecDepth 100000 in
theorem cl_X9_180 : cv_ RX9 180 yX7_addResult zX7_addResult 7 3 := ⟨gi_V (lw_b6 119 (by decide +kernel) rfl : Cond.methodLink RX9 180 yX7_addResult ∈ lw_g) (lw_b5 208 (by decide +kernel) rfl : Cond.instanceMethod yX7_addResult ∈ lw_g) (lw_b5 209 (by decide +kernel) rfl : Cond.selects yX7_addResult.cls yX7_addResult yX7_addResult ∈ lw_g) (lw_b1 5 (by decide +kernel) rfl : Cond.initialized yX7_addResult.cls ∈ lw_g) (lw_b5 210 rfl rfl : Cond.code yX7_addResult cX7_addResult 6 none ∈ lw_g), ⟨by decide, by decide, by decide +kernel⟩, ⟨_, _, rfl⟩⟩
theorem bk_X9_isFirstBy_81 : ck_ fX9 (some .boolean) cX9_isFirstBy 81 [.iinc 5 1, .goto 20] 87 = true := qck_r (by decide) (by decide +kernel)
theorem bs_X9_isFirstBy_81 {P : Zt → Option Zv → Prop} (K : Int → Zl → List Zv → Zt → Prop) : sx_ K P [.iinc 5 1, .goto 20] 87 = x_iinc 5 1 (x_goto 20 K) := ((xe_iinc 5 1).trans (congrArg (x_iinc 5 1) (xe_goto 20)))
theorem bk_X9_isFirstBy_67 : ck_ fX9 (some .boolean) cX9_isFirstBy 67 [.iload 6, .iconst 2, .if_icmp .ne 77, .iconst 1, .goto 78] 77 = true := qck_r (by decide) (by decide +kernel)
theorem bs_X9_isFirstBy_67 {P : Zt → Option Zv → Prop} (K : Int → Zl → List Zv → Zt → Prop) : sx_ K P [.iload 6, .iconst 2, .if_icmp .ne 77, .iconst 1, .goto 78] 77 = x_iload 6 (x_iconst 2 (x_if_icmp .ne 77 K (x_iconst 1 (x_goto 78 K)))) := ((xe_iload 6).trans (congrArg (x_iload 6) ((xe_iconst 2).trans (congrArg (x_iconst 2) ((xe_if_icmp .ne 77).trans (congrArg (x_if_icmp .ne 77 K) ((xe_iconst 1).trans (congrArg (x_iconst 1) (xe_goto 78)))))))))
theorem bk_X9_isFirstBy_0 : ck_ fX9 (some .boolean) cX9_isFirstBy 0 [.aload 0, .tableswitch 0 9 1 #[], .aload 0, .tableswitch 0 9 5 #[], .iconst 999] 11 = true := qck_r (by decide) (by decide +kernel)
theorem bs_X9_isFirstBy_0 {P : Zt → Option Zv → Prop} (K : Int → Zl → List Zv → Zt → Prop) : sx_ K P [.aload 0, .tableswitch 0 9 1 #[], .aload 0, .tableswitch 0 9 5 #[], .iconst 999] 11 = x_aload 0 (x_g1 109 107 (x_aload 0 (x_g5 109 100 5 (x_iconst 999 (K 11))))) := ((xe_aload 0).trans (congrArg (x_aload 0) ((xe_g1 (kk := 109) rfl tl_9_1).trans (congrArg (x_g1 109 107) ((xe_aload 0).trans (congrArg (x_aload 0) ((xe_g5 (kk := 109) rfl tl_9_5).trans (congrArg (x_g5 109 100 5) ((xe_iconst 999).trans (congrArg (x_iconst 999) xe_nil))))))))))
theorem bk_X9_isFirstBy_14 : ck_ fX9 (some .boolean) cX9_isFirstBy 14 [.iload 1, .istore 4, .iconst 0, .istore 5] 20 = true := qck_r (by decide) (by decide +kernel)
theorem bs_X9_isFirstBy_14 {P : Zt → Option Zv → Prop} (K : Int → Zl → List Zv → Zt → Prop) : sx_ K P [.iload 1, .istore 4, .iconst 0, .istore 5] 20 = x_iload 1 (x_istore 4 (x_iconst 0 (x_istore 5 (K 20)))) := ((xe_iload 1).trans (congrArg (x_iload 1) ((xe_istore 4).trans (congrArg (x_istore 4) ((xe_iconst 0).trans (congrArg (x_iconst 0) ((xe_istore 5).trans (congrArg (x_istore 5) xe_nil))))))))
abbrev po_X9_isFirstBy (T : Zt) (a n s : Int) : Zt → Option Zv → Prop := fun T' r => ∃ x : Int, r = some (vI x) ∧ fr_ [(107, [1, 13]), (542, []), (543, []), (544, []), (545, []), (546, []), (550, []), (551, []), (552, []), (549, []), (547, []), (548, [])] T T' ∧ (0 ≤ x ∧ x ≤ 1)
set_option maxHeartbeats 4000000 in
theorem ct_X9_isFirstBy {T : Zt} {a n s : Int} (hka : KA_ T) (hkc : KC_ T) (hc9 : 1 ≤ T 109 0 5 ∧ T 109 0 5 ≤ T 106 0 2) (hs : 0 ≤ s ∧ s ≤ 11) (hn : 0 ≤ n ∧ n ≤ 40) (hop : ∀ j : Int, 0 ≤ j → j < n → 0 ≤ T 588 0 j ∧ T 588 0 j < T 106 0 4) (hrk : T 401 (T 109 0 5 - 1) 4 ≤ 7) : Ct_ yX9_isFirstBy zX9_isFirstBy T [vR 109 0, vI a, vI n, vI s] (po_X9_isFirstBy T a n s) := by
  refine ct_of (by decide) rfl rfl (Nat.le_of_ble_eq_true rfl) (fun hT hav => ?_)
  have hr_a : -2147483648 ≤ a ∧ a ≤ 2147483647 := hav (vI a) (by simp)
  have hr_n : -2147483648 ≤ n ∧ n ≤ 2147483647 := hav (vI n) (by simp)
  have hr_s : -2147483648 ≤ s ∧ s ≤ 2147483647 := hav (vI s) (by simp)
  have hz : zX9_isFirstBy.2.2.2.1 = some .boolean → ∀ (T' : Zt) (x : Int), po_X9_isFirstBy T a n s T' (some (vI x)) → 0 ≤ x ∧ x ≤ 1 := fun _ T' x h => by obtain ⟨y, e, -, hy⟩ := h; cases e; omega
  show J_ zX9_isFirstBy T (po_X9_isFirstBy T a n s) 0 0 0 [some (vR 109 0), some (vI a), some (vI n), some (vI s), none, none, none] [] T
  have c_20 : ∀ (nn : Nat) (g : Int) (u : Int) (T1 : Zt), ((n - u).toNat) ≤ nn → (fr_ [(107, [1]), (542, []), (543, []), (544, []), (545, []), (546, [])] T T1) → (0 ≤ u) → (T1 107 0 1 = T 109 0 5) → J_ zX9_isFirstBy T (po_X9_isFirstBy T a n s) 0 0 20 [some (vR 109 0), some (vI a), some (vI n), some (vI s), some (vI g), some (vI u), none] [] T1 := by
    intro nn
    induction nn using Nat.strongRecOn with
    | _ nn ih_20 =>
      intro g u T1 hm_20 hf_20 i1 i0
      refine j_blx (F := fX9) tb_X9 (by decide) bk_X9_isFirstBy_20 bs_X9_isFirstBy_20 hz (fun K hK => ?_)
      refine And.intro (fun c1 => ?_) (fun c1 => ?_)
      · refine hK 87 [some (vR 109 0), some (vI a), some (vI n), some (vI s), some (vI g), some (vI u), none] [] T1 ?_
        refine j_blx (F := fX9) tb_X9 (by decide) bk_X9_isFirstBy_87 bs_X9_isFirstBy_87 hz (fun K hK => ?_)
        refine hK 91 [some (vR 109 0), some (vI a), some (vI n), some (vI s), some (vI g), some (vI u), none] [vR 107 0] T1 ?_
        have e2 : T1 401 (T 109 0 5 - 1) 4 = T 401 (T 109 0 5 - 1) 4 := hf_20 401 (T 109 0 5 - 1) 4 rfl
        refine j_callV (y := yX7_rank) (Yc := zX7_rank) (rest := []) [] (ct_X7_rank (T := T1) (by omega) (by rw [show T1 107 0 1 - 1 = (T 109 0 5 - 1) by omega]; omega)) cl_X9_184 (qd_c (by decide +kernel)) (by decide) rfl (by decide +kernel) (Nat.le_of_ble_eq_true rfl) (by decide) (by decide) rfl ?_
        rintro U3 _ ⟨rfl, fU3, qU3⟩
        show J_ zX9_isFirstBy T (po_X9_isFirstBy T a n s) 0 0 94 [some (vR 109 0), some (vI a), some (vI n), some (vI s), some (vI g), some (vI u), none] [] U3
        refine j_blx (F := fX9) tb_X9 (by decide) bk_X9_isFirstBy_94 bs_X9_isFirstBy_94 hz (fun K hK => ?_)
        refine rg_i (by omega) ?_
        refine rg_i (by omega) ?_
        refine ix_i (by omega) ?_
        intro b4 b4b
        refine And.intro (fun c5 => ?_) (fun c5 => ?_)
        · refine hK 117 [some (vR 109 0), some (vI a), some (vI n), some (vI s), some (vI g), some (vI u), none] [] U3 ?_
          refine j_blx (F := fX9) tb_X9 (by decide) bk_X9_isFirstBy_117 bs_X9_isFirstBy_117 hz (fun K hK => ?_)
          refine (show po_X9_isFirstBy T a n s U3 (some (vI 0)) from ?_)
          exact ⟨_, rfl, fr_t (fr_t (fr_0 _ _) (fr_s hf_20 rfl)) (fr_s fU3 rfl), by omega⟩
        · refine hK 118 [some (vR 109 0), some (vI a), some (vI n), some (vI s), some (vI g), some (vI u), none] [vI 1] U3 ?_
          refine j_blx (F := fX9) tb_X9 (by decide) bk_X9_isFirstBy_118 bs_X9_isFirstBy_118 hz (fun K hK => ?_)
          refine (show po_X9_isFirstBy T a n s U3 (some (vI 1)) from ?_)
          exact ⟨_, rfl, fr_t (fr_t (fr_0 _ _) (fr_s hf_20 rfl)) (fr_s fU3 rfl), by omega⟩
      · refine And.intro (by omega) (fun w6 w6b => ?_)
        refine And.intro (by omega) (fun w7 w7b => ?_)
        refine ix_i (by omega) ?_
        intro b8 b8b
        have e9 : T1 588 0 u = T 588 0 u := hf_20 588 0 u rfl
        rw [e9] at b8 b8b ⊢
        refine ix_i (by omega) ?_
        have e11 : T1 523 0 (T 588 0 u) = T 523 0 (T 588 0 u) := hf_20 523 0 (T 588 0 u) rfl
        refine And.intro (fun c10 => ?_) (fun c10 => ?_)
        · exact absurd (show T 523 0 (T 588 0 u) = 0 by omega) (hka.2 _ (by have z := hop u (by omega) (by omega); omega) (by have z := hop u (by omega) (by omega); omega))
        · refine And.intro (fun c12 => ?_) (fun c12 => ?_)
          · refine hK 66 [some (vR 109 0), some (vI a), some (vI n), some (vI s), some (vI (dq_ g 3)), some (vI u), some (vI (dr_ g 3))] [vR 102 (T 588 0 u), vR 107 0] T1 ?_
            refine j_blx (F := fX9) tb_X9 (by decide) bk_X9_isFirstBy_66 bs_X9_isFirstBy_66 hz (fun K hK => ?_)
            refine And.intro (fun c13 => ?_) (fun c13 => ?_)
            · refine hK 77 [some (vR 109 0), some (vI a), some (vI n), some (vI s), some (vI (dq_ g 3)), some (vI u), some (vI (dr_ g 3))] [vI 0, vR 102 (T 588 0 u), vR 107 0] T1 ?_
              refine j_blx (F := fX9) tb_X9 (by decide) bk_X9_isFirstBy_77 bs_X9_isFirstBy_77 hz (fun K hK => ?_)
              refine hK 78 [some (vR 109 0), some (vI a), some (vI n), some (vI s), some (vI (dq_ g 3)), some (vI u), some (vI (dr_ g 3))] [vI 0, vI 0, vR 102 (T 588 0 u), vR 107 0] T1 ?_
              refine j_callV (y := yX7_addResult) (Yc := zX7_addResult) (rest := []) [vR 102 (T 588 0 u), vI 0, vI 0] (ct_X7_addResult (T := T1) (by omega)) cl_X9_180 (qd_c (by decide +kernel)) (by decide) rfl (by decide +kernel) (Nat.le_of_ble_eq_true rfl) (by decide) (by decide) rfl ?_
              rintro U14 _ ⟨rfl, fU14, qU14⟩
              show J_ zX9_isFirstBy T (po_X9_isFirstBy T a n s) 0 0 81 [some (vR 109 0), some (vI a), some (vI n), some (vI s), some (vI (dq_ g 3)), some (vI u), some (vI (dr_ g 3))] [] U14
              refine j_blx (F := fX9) tb_X9 (by decide) bk_X9_isFirstBy_81 bs_X9_isFirstBy_81 hz (fun K hK => ?_)
              refine rg_i (by omega) ?_
              refine hK 20 [some (vR 109 0), some (vI a), some (vI n), some (vI s), some (vI (dq_ g 3)), some (vI (u + 1)), some (vI (dr_ g 3))] [] U14 ?_
              refine j_drop [some (vR 109 0), some (vI a), some (vI n), some (vI s), some (vI (dq_ g 3)), some (vI (u + 1)), none] (fun k v hk => ?_) rfl ?_
              · match k, hk with
                | 0, hk => exact hk
                | 1, hk => exact hk
                | 2, hk => exact hk
                | 3, hk => exact hk
                | 4, hk => exact hk
                | 5, hk => exact hk
                | 6, hk => cases hk
                | k + 7, hk => cases hk
              have e15 : U14 107 0 1 = T1 107 0 1 := fU14 107 0 1 rfl
              refine ih_20 _ ?_ (dq_ g 3) (u + 1) U14 (Nat.le_refl _) ?_ ?_ ?_
              · omega
              · exact fr_t (fr_t (fr_0 _ _) (fr_s hf_20 rfl)) (fr_s fU14 rfl)
              · omega
              · omega
            · refine hK 78 [some (vR 109 0), some (vI a), some (vI n), some (vI s), some (vI (dq_ g 3)), some (vI u), some (vI (dr_ g 3))] [vI 1, vI 0, vR 102 (T 588 0 u), vR 107 0] T1 ?_
              refine j_callV (y := yX7_addResult) (Yc := zX7_addResult) (rest := []) [vR 102 (T 588 0 u), vI 0, vI 1] (ct_X7_addResult (T := T1) (by omega)) cl_X9_180 (qd_c (by decide +kernel)) (by decide) rfl (by decide +kernel) (Nat.le_of_ble_eq_true rfl) (by decide) (by decide) rfl ?_
              rintro U16 _ ⟨rfl, fU16, qU16⟩
              show J_ zX9_isFirstBy T (po_X9_isFirstBy T a n s) 0 0 81 [some (vR 109 0), some (vI a), some (vI n), some (vI s), some (vI (dq_ g 3)), some (vI u), some (vI (dr_ g 3))] [] U16
              refine j_blx (F := fX9) tb_X9 (by decide) bk_X9_isFirstBy_81 bs_X9_isFirstBy_81 hz (fun K hK => ?_)
              refine rg_i (by omega) ?_
              refine hK 20 [some (vR 109 0), some (vI a), some (vI n), some (vI s), some (vI (dq_ g 3)), some (vI (u + 1)), some (vI (dr_ g 3))] [] U16 ?_
              refine j_drop [some (vR 109 0), some (vI a), some (vI n), some (vI s), some (vI (dq_ g 3)), some (vI (u + 1)), none] (fun k v hk => ?_) rfl ?_
              · match k, hk with
                | 0, hk => exact hk
                | 1, hk => exact hk
                | 2, hk => exact hk
                | 3, hk => exact hk
                | 4, hk => exact hk
                | 5, hk => exact hk
                | 6, hk => cases hk
                | k + 7, hk => cases hk
              have e17 : U16 107 0 1 = T1 107 0 1 := fU16 107 0 1 rfl
              refine ih_20 _ ?_ (dq_ g 3) (u + 1) U16 (Nat.le_refl _) ?_ ?_ ?_
              · omega
              · exact fr_t (fr_t (fr_0 _ _) (fr_s hf_20 rfl)) (fr_s fU16 rfl)
              · omega
              · omega
          · refine hK 67 [some (vR 109 0), some (vI a), some (vI n), some (vI s), some (vI (dq_ g 3)), some (vI u), some (vI (dr_ g 3))] [vI 1, vR 102 (T 588 0 u), vR 107 0] T1 ?_
            refine j_blx (F := fX9) tb_X9 (by decide) bk_X9_isFirstBy_67 bs_X9_isFirstBy_67 hz (fun K hK => ?_)
            refine And.intro (fun c18 => ?_) (fun c18 => ?_)
            · refine hK 77 [some (vR 109 0), some (vI a), some (vI n), some (vI s), some (vI (dq_ g 3)), some (vI u), some (vI (dr_ g 3))] [vI 1, vR 102 (T 588 0 u), vR 107 0] T1 ?_
              refine j_blx (F := fX9) tb_X9 (by decide) bk_X9_isFirstBy_77 bs_X9_isFirstBy_77 hz (fun K hK => ?_)
              refine hK 78 [some (vR 109 0), some (vI a), some (vI n), some (vI s), some (vI (dq_ g 3)), some (vI u), some (vI (dr_ g 3))] [vI 0, vI 1, vR 102 (T 588 0 u), vR 107 0] T1 ?_
              refine j_callV (y := yX7_addResult) (Yc := zX7_addResult) (rest := []) [vR 102 (T 588 0 u), vI 1, vI 0] (ct_X7_addResult (T := T1) (by omega)) cl_X9_180 (qd_c (by decide +kernel)) (by decide) rfl (by decide +kernel) (Nat.le_of_ble_eq_true rfl) (by decide) (by decide) rfl ?_
              rintro U19 _ ⟨rfl, fU19, qU19⟩
              show J_ zX9_isFirstBy T (po_X9_isFirstBy T a n s) 0 0 81 [some (vR 109 0), some (vI a), some (vI n), some (vI s), some (vI (dq_ g 3)), some (vI u), some (vI (dr_ g 3))] [] U19
              refine j_blx (F := fX9) tb_X9 (by decide) bk_X9_isFirstBy_81 bs_X9_isFirstBy_81 hz (fun K hK => ?_)
              refine rg_i (by omega) ?_
              refine hK 20 [some (vR 109 0), some (vI a), some (vI n), some (vI s), some (vI (dq_ g 3)), some (vI (u + 1)), some (vI (dr_ g 3))] [] U19 ?_
              refine j_drop [some (vR 109 0), some (vI a), some (vI n), some (vI s), some (vI (dq_ g 3)), some (vI (u + 1)), none] (fun k v hk => ?_) rfl ?_
              · match k, hk with
                | 0, hk => exact hk
                | 1, hk => exact hk
                | 2, hk => exact hk
                | 3, hk => exact hk
                | 4, hk => exact hk
                | 5, hk => exact hk
                | 6, hk => cases hk
                | k + 7, hk => cases hk
              have e20 : U19 107 0 1 = T1 107 0 1 := fU19 107 0 1 rfl
              refine ih_20 _ ?_ (dq_ g 3) (u + 1) U19 (Nat.le_refl _) ?_ ?_ ?_
              · omega
              · exact fr_t (fr_t (fr_0 _ _) (fr_s hf_20 rfl)) (fr_s fU19 rfl)
              · omega
              · omega
            · refine hK 78 [some (vR 109 0), some (vI a), some (vI n), some (vI s), some (vI (dq_ g 3)), some (vI u), some (vI (dr_ g 3))] [vI 1, vI 1, vR 102 (T 588 0 u), vR 107 0] T1 ?_
              refine j_callV (y := yX7_addResult) (Yc := zX7_addResult) (rest := []) [vR 102 (T 588 0 u), vI 1, vI 1] (ct_X7_addResult (T := T1) (by omega)) cl_X9_180 (qd_c (by decide +kernel)) (by decide) rfl (by decide +kernel) (Nat.le_of_ble_eq_true rfl) (by decide) (by decide) rfl ?_
              rintro U21 _ ⟨rfl, fU21, qU21⟩
              show J_ zX9_isFirstBy T (po_X9_isFirstBy T a n s) 0 0 81 [some (vR 109 0), some (vI a), some (vI n), some (vI s), some (vI (dq_ g 3)), some (vI u), some (vI (dr_ g 3))] [] U21
              refine j_blx (F := fX9) tb_X9 (by decide) bk_X9_isFirstBy_81 bs_X9_isFirstBy_81 hz (fun K hK => ?_)
              refine rg_i (by omega) ?_
              refine hK 20 [some (vR 109 0), some (vI a), some (vI n), some (vI s), some (vI (dq_ g 3)), some (vI (u + 1)), some (vI (dr_ g 3))] [] U21 ?_
              refine j_drop [some (vR 109 0), some (vI a), some (vI n), some (vI s), some (vI (dq_ g 3)), some (vI (u + 1)), none] (fun k v hk => ?_) rfl ?_
              · match k, hk with
                | 0, hk => exact hk
                | 1, hk => exact hk
                | 2, hk => exact hk
                | 3, hk => exact hk
                | 4, hk => exact hk
                | 5, hk => exact hk
                | 6, hk => cases hk
                | k + 7, hk => cases hk
              have e22 : U21 107 0 1 = T1 107 0 1 := fU21 107 0 1 rfl
              refine ih_20 _ ?_ (dq_ g 3) (u + 1) U21 (Nat.le_refl _) ?_ ?_ ?_
              · omega
              · exact fr_t (fr_t (fr_0 _ _) (fr_s hf_20 rfl)) (fr_s fU21 rfl)
              · omega
              · omega
  refine j_blx (F := fX9) tb_X9 (by decide) bk_X9_isFirstBy_0 bs_X9_isFirstBy_0 hz (fun K hK => ?_)
  refine And.intro (fun c23 => ?_) (fun c23 => ?_)
  · exact absurd c23 (by omega)
  · refine hK 11 [some (vR 109 0), some (vI a), some (vI n), some (vI s), none, none, none] [vI 999, vR 100 (T 109 0 5 - 1), vR 107 0] T ?_
    refine j_callV (y := yX7_tally) (Yc := zX7_tally) (rest := []) [vR 100 (T 109 0 5 - 1), vI 999] (ct_X7_tally (T := T) (hka) (hkc) (by omega)) cl_X9_124 (qd_c (by decide +kernel)) (by decide) rfl (by decide +kernel) (Nat.le_of_ble_eq_true rfl) (by decide) (by decide) rfl ?_
    rintro U24 _ ⟨rfl, fU24, qU24⟩
    show J_ zX9_isFirstBy T (po_X9_isFirstBy T a n s) 0 0 14 [some (vR 109 0), some (vI a), some (vI n), some (vI s), none, none, none] [] U24
    refine j_blx (F := fX9) tb_X9 (by decide) bk_X9_isFirstBy_14 bs_X9_isFirstBy_14 hz (fun K hK => ?_)
    refine hK 20 [some (vR 109 0), some (vI a), some (vI n), some (vI s), some (vI a), some (vI 0), none] [] U24 ?_
    refine c_20 _ a 0 U24 (Nat.le_refl _) ?_ ?_ ?_
    · exact fr_t (fr_0 _ _) (fr_s fU24 rfl)
    · omega
    · omega

