abbrev po_X3_brokenLaw_k (T : Zt) (p : Int) (k s a b : Int) : Zt → Option Zv → Prop := fun T' r => T = T' ∧ ∃ x : Int, r = some (vI x) ∧ (0 ≤ x ∧ x ≤ 7 ∧ (x = 0 → ((k = 0 ∨ (0 ≤ s ∧ s ≤ 1)) ∧ ((T 401 (T 103 p 0) 0 = 0 ∧ 0 ≤ k ∧ k ≤ 5) ∨ (T 401 (T 103 p 0) 0 = 1 ∧ (k = 1 ∨ k = 5)) ∨ (T 401 (T 103 p 0) 0 = 2 ∧ (k = 1 ∨ k = 6)) ∨ (¬ T 401 (T 103 p 0) 0 = 0 ∧ ¬ T 401 (T 103 p 0) 0 = 1 ∧ ¬ T 401 (T 103 p 0) 0 = 2 ∧ 1 ≤ k ∧ k ≤ 4))) ∧ T 103 p 3 = 0))
set_option maxHeartbeats 4000000 in
theorem ct_X3_brokenLaw_k {T : Zt} {p : Int} {k s a b : Int} : Ct_ yX3_brokenLaw zX3_brokenLaw T [vR 103 p, vI k, vI s, vI a, vI b] (po_X3_brokenLaw_k T p k s a b) := by
  refine ct_of (by decide) rfl rfl (Nat.le_of_ble_eq_true rfl) (fun hT hav => ?_)
  have hr_k : -2147483648 ≤ k ∧ k ≤ 2147483647 := hav (vI k) (by simp)
  have hr_s : -2147483648 ≤ s ∧ s ≤ 2147483647 := hav (vI s) (by simp)
  have hr_a : -2147483648 ≤ a ∧ a ≤ 2147483647 := hav (vI a) (by simp)
  have hr_b : -2147483648 ≤ b ∧ b ≤ 2147483647 := hav (vI b) (by simp)
  have hz : zX3_brokenLaw.2.2.2.1 = some .boolean → ∀ (T' : Zt) (x : Int), po_X3_brokenLaw_k T p k s a b T' (some (vI x)) → 0 ≤ x ∧ x ≤ 1 := fun h => by cases h
  show J_ zX3_brokenLaw T (po_X3_brokenLaw_k T p k s a b) 0 0 0 [some (vR 103 p), some (vI k), some (vI s), some (vI a), some (vI b)] [] T
  have c_51 : ((k = 0 ∨ (0 ≤ s ∧ s ≤ 1)) ∧ ((T 401 (T 103 p 0) 0 = 0 ∧ 0 ≤ k ∧ k ≤ 5) ∨ (T 401 (T 103 p 0) 0 = 1 ∧ (k = 1 ∨ k = 5)) ∨ (T 401 (T 103 p 0) 0 = 2 ∧ (k = 1 ∨ k = 6)) ∨ (¬ T 401 (T 103 p 0) 0 = 0 ∧ ¬ T 401 (T 103 p 0) 0 = 1 ∧ ¬ T 401 (T 103 p 0) 0 = 2 ∧ 1 ≤ k ∧ k ≤ 4))) → (T 103 p 3 = 0) → J_ zX3_brokenLaw T (po_X3_brokenLaw_k T p k s a b) 0 0 51 [some (vR 103 p), some (vI k), some (vI s), some (vI a), some (vI b)] [] T := by
    intro  i1 i2
    refine j_blx (F := fX3) tb_X3 (by decide) bk_X3_brokenLaw_51 bs_X3_brokenLaw_51 hz (fun K hK => ?_)
    refine And.intro (fun c1 => ?_) (fun c1 => ?_)
    · refine hK 88 [some (vR 103 p), some (vI k), some (vI s), some (vI a), some (vI b)] [] T ?_
      refine j_blx (F := fX3) tb_X3 (by decide) bk_X3_brokenLaw_88 bs_X3_brokenLaw_88 hz (fun K hK => ?_)
      refine hK 92 [some (vR 103 p), some (vI k), some (vI s), some (vI a), some (vI b)] [vI b, vI k, vR 103 p] T ?_
      refine j_callV (y := yX3_isBounded) (Yc := zX3_isBounded) (rest := []) [vI k, vI b] (ct_X3_isBounded (T := T)) cl_X3_86 (qd_c (by decide +kernel)) (by decide) rfl (by decide +kernel) (Nat.le_of_ble_eq_true rfl) (by decide) (by decide) rfl ?_
      rintro _ _ ⟨rfl, x2, rfl, hx2⟩
      show J_ zX3_brokenLaw T (po_X3_brokenLaw_k T p k s a b) 0 0 95 [some (vR 103 p), some (vI k), some (vI s), some (vI a), some (vI b)] [vI x2] T
      refine j_blx (F := fX3) tb_X3 (by decide) bk_X3_brokenLaw_95 bs_X3_brokenLaw_95 hz (fun K hK => ?_)
      refine And.intro (fun c3 => ?_) (fun c3 => ?_)
      · refine hK 102 [some (vR 103 p), some (vI k), some (vI s), some (vI a), some (vI b)] [] T ?_
        refine j_blx (F := fX3) tb_X3 (by decide) bk_X3_brokenLaw_102 bs_X3_brokenLaw_102 hz (fun K hK => ?_)
        refine (show po_X3_brokenLaw_k T p k s a b T (some (vI 7)) from ?_)
        exact ⟨rfl, _, rfl, by omega⟩
      · refine hK 104 [some (vR 103 p), some (vI k), some (vI s), some (vI a), some (vI b)] [vI 0] T ?_
        refine j_blx (F := fX3) tb_X3 (by decide) bk_X3_brokenLaw_104 bs_X3_brokenLaw_104 hz (fun K hK => ?_)
        refine (show po_X3_brokenLaw_k T p k s a b T (some (vI 0)) from ?_)
        exact ⟨rfl, _, rfl, by omega⟩
    · refine hK 60 [some (vR 103 p), some (vI k), some (vI s), some (vI a), some (vI b)] [vI b, vI s, vR 103 p] T ?_
      refine j_callV (y := yX3_benchPlace) (Yc := zX3_benchPlace) (rest := []) [vI s, vI b] (ct_X3_benchPlace (T := T) (by omega)) cl_X3_83 (qd_c (by decide +kernel)) (by decide) rfl (by decide +kernel) (Nat.le_of_ble_eq_true rfl) (by decide) (by decide) rfl ?_
      rintro _ _ ⟨rfl, x4, rfl, hx4⟩
      show J_ zX3_brokenLaw T (po_X3_brokenLaw_k T p k s a b) 0 0 63 [some (vR 103 p), some (vI k), some (vI s), some (vI a), some (vI b)] [vI x4] T
      refine j_blx (F := fX3) tb_X3 (by decide) bk_X3_brokenLaw_63 bs_X3_brokenLaw_63 hz (fun K hK => ?_)
      refine And.intro (fun c5 => ?_) (fun c5 => ?_)
      · refine hK 69 [some (vR 103 p), some (vI k), some (vI s), some (vI a), some (vI b)] [] T ?_
        refine j_blx (F := fX3) tb_X3 (by decide) bk_X3_brokenLaw_69 bs_X3_brokenLaw_69 hz (fun K hK => ?_)
        refine ix_i (by omega) ?_
        intro b6 b6b
        refine ix_i (by omega) ?_
        intro b8 b8b
        refine And.intro (fun c9 => ?_) (fun c9 => ?_)
        · refine hK 88 [some (vR 103 p), some (vI k), some (vI s), some (vI a), some (vI b)] [] T ?_
          refine j_blx (F := fX3) tb_X3 (by decide) bk_X3_brokenLaw_88 bs_X3_brokenLaw_88 hz (fun K hK => ?_)
          refine hK 92 [some (vR 103 p), some (vI k), some (vI s), some (vI a), some (vI b)] [vI b, vI k, vR 103 p] T ?_
          refine j_callV (y := yX3_isBounded) (Yc := zX3_isBounded) (rest := []) [vI k, vI b] (ct_X3_isBounded (T := T)) cl_X3_86 (qd_c (by decide +kernel)) (by decide) rfl (by decide +kernel) (Nat.le_of_ble_eq_true rfl) (by decide) (by decide) rfl ?_
          rintro _ _ ⟨rfl, x10, rfl, hx10⟩
          show J_ zX3_brokenLaw T (po_X3_brokenLaw_k T p k s a b) 0 0 95 [some (vR 103 p), some (vI k), some (vI s), some (vI a), some (vI b)] [vI x10] T
          refine j_blx (F := fX3) tb_X3 (by decide) bk_X3_brokenLaw_95 bs_X3_brokenLaw_95 hz (fun K hK => ?_)
          refine And.intro (fun c11 => ?_) (fun c11 => ?_)
          · refine hK 102 [some (vR 103 p), some (vI k), some (vI s), some (vI a), some (vI b)] [] T ?_
            refine j_blx (F := fX3) tb_X3 (by decide) bk_X3_brokenLaw_102 bs_X3_brokenLaw_102 hz (fun K hK => ?_)
            refine (show po_X3_brokenLaw_k T p k s a b T (some (vI 7)) from ?_)
            exact ⟨rfl, _, rfl, by omega⟩
          · refine hK 104 [some (vR 103 p), some (vI k), some (vI s), some (vI a), some (vI b)] [vI 0] T ?_
            refine j_blx (F := fX3) tb_X3 (by decide) bk_X3_brokenLaw_104 bs_X3_brokenLaw_104 hz (fun K hK => ?_)
            refine (show po_X3_brokenLaw_k T p k s a b T (some (vI 0)) from ?_)
            exact ⟨rfl, _, rfl, by omega⟩
        · refine (show po_X3_brokenLaw_k T p k s a b T (some (vI 6)) from ?_)
          exact ⟨rfl, _, rfl, by omega⟩
      · refine (show po_X3_brokenLaw_k T p k s a b T (some (vI 5)) from ?_)
        exact ⟨rfl, _, rfl, by omega⟩
  refine j_blx (F := fX3) tb_X3 (by decide) bk_X3_brokenLaw_0 bs_X3_brokenLaw_0 hz (fun K hK => ?_)
  intro b12 b12b
  refine And.intro (fun c13 => ?_) (fun c13 => ?_)
  · refine hK 9 [some (vR 103 p), some (vI k), some (vI s), some (vI a), some (vI b)] [] T ?_
    refine j_blx (F := fX3) tb_X3 (by decide) bk_X3_brokenLaw_9 bs_X3_brokenLaw_9 hz (fun K hK => ?_)
    refine hK 12 [some (vR 103 p), some (vI k), some (vI s), some (vI a), some (vI b)] [vI s, vI k, vR 103 p] T ?_
    refine j_callV (y := yX3_isFormed) (Yc := zX3_isFormed) (rest := []) [vI k, vI s] (ct_X3_isFormed (T := T)) cl_X3_68 (qd_c (by decide +kernel)) (by decide) rfl (by decide +kernel) (Nat.le_of_ble_eq_true rfl) (by decide) (by decide) rfl ?_
    rintro _ _ ⟨rfl, x14, rfl, hx14⟩
    show J_ zX3_brokenLaw T (po_X3_brokenLaw_k T p k s a b) 0 0 15 [some (vR 103 p), some (vI k), some (vI s), some (vI a), some (vI b)] [vI x14] T
    refine j_blx (F := fX3) tb_X3 (by decide) bk_X3_brokenLaw_15 bs_X3_brokenLaw_15 hz (fun K hK => ?_)
    refine And.intro (fun c15 => ?_) (fun c15 => ?_)
    · refine hK 20 [some (vR 103 p), some (vI k), some (vI s), some (vI a), some (vI b)] [] T ?_
      refine j_blx (F := fX3) tb_X3 (by decide) bk_X3_brokenLaw_20 bs_X3_brokenLaw_20 hz (fun K hK => ?_)
      refine hK 23 [some (vR 103 p), some (vI k), some (vI s), some (vI a), some (vI b)] [vI s, vI k, vR 103 p] T ?_
      refine j_callV (y := yX3_isAllowed) (Yc := zX3_isAllowed) (rest := []) [vI k, vI s] (ct_X3_isAllowed (T := T)) cl_X3_72 (qd_c (by decide +kernel)) (by decide) rfl (by decide +kernel) (Nat.le_of_ble_eq_true rfl) (by decide) (by decide) rfl ?_
      rintro _ _ ⟨rfl, x16, rfl, hx16⟩
      show J_ zX3_brokenLaw T (po_X3_brokenLaw_k T p k s a b) 0 0 26 [some (vR 103 p), some (vI k), some (vI s), some (vI a), some (vI b)] [vI x16] T
      refine j_blx (F := fX3) tb_X3 (by decide) bk_X3_brokenLaw_26 bs_X3_brokenLaw_26 hz (fun K hK => ?_)
      refine And.intro (fun c17 => ?_) (fun c17 => ?_)
      · refine hK 31 [some (vR 103 p), some (vI k), some (vI s), some (vI a), some (vI b)] [] T ?_
        refine j_blx (F := fX3) tb_X3 (by decide) bk_X3_brokenLaw_31 bs_X3_brokenLaw_31 hz (fun K hK => ?_)
        refine hK 33 [some (vR 103 p), some (vI k), some (vI s), some (vI a), some (vI b)] [vI k, vR 103 p] T ?_
        refine j_callV (y := yX3_needsPerson) (Yc := zX3_needsPerson) (rest := []) [vI k] (ct_X3_needsPerson_k (T := T)) cl_X3_75 (qd_c (by decide +kernel)) (by decide) rfl (by decide +kernel) (Nat.le_of_ble_eq_true rfl) (by decide) (by decide) rfl ?_
        rintro _ _ ⟨rfl, x18, rfl, hx18⟩
        show J_ zX3_brokenLaw T (po_X3_brokenLaw_k T p k s a b) 0 0 36 [some (vR 103 p), some (vI k), some (vI s), some (vI a), some (vI b)] [vI x18] T
        refine j_blx (F := fX3) tb_X3 (by decide) bk_X3_brokenLaw_36 bs_X3_brokenLaw_36 hz (fun K hK => ?_)
        refine And.intro (fun c19 => ?_) (fun c19 => ?_)
        · refine hK 51 [some (vR 103 p), some (vI k), some (vI s), some (vI a), some (vI b)] [] T ?_
          refine c_51  ?_ ?_
          · omega
          · omega
        · refine hK 42 [some (vR 103 p), some (vI k), some (vI s), some (vI a), some (vI b)] [vI a, vI s, vR 103 p] T ?_
          refine j_callV (y := yX3_fieldPlace) (Yc := zX3_fieldPlace) (rest := []) [vI s, vI a] (ct_X3_fieldPlace (T := T) (by omega)) cl_X3_79 (qd_c (by decide +kernel)) (by decide) rfl (by decide +kernel) (Nat.le_of_ble_eq_true rfl) (by decide) (by decide) rfl ?_
          rintro _ _ ⟨rfl, x20, rfl, hx20⟩
          show J_ zX3_brokenLaw T (po_X3_brokenLaw_k T p k s a b) 0 0 45 [some (vR 103 p), some (vI k), some (vI s), some (vI a), some (vI b)] [vI x20] T
          refine j_blx (F := fX3) tb_X3 (by decide) bk_X3_brokenLaw_45 bs_X3_brokenLaw_45 hz (fun K hK => ?_)
          refine And.intro (fun c21 => ?_) (fun c21 => ?_)
          · refine hK 51 [some (vR 103 p), some (vI k), some (vI s), some (vI a), some (vI b)] [] T ?_
            refine c_51  ?_ ?_
            · omega
            · omega
          · refine (show po_X3_brokenLaw_k T p k s a b T (some (vI 4)) from ?_)
            exact ⟨rfl, _, rfl, by omega⟩
      · refine (show po_X3_brokenLaw_k T p k s a b T (some (vI 3)) from ?_)
        exact ⟨rfl, _, rfl, by omega⟩
    · refine (show po_X3_brokenLaw_k T p k s a b T (some (vI 2)) from ?_)
      exact ⟨rfl, _, rfl, by omega⟩
  · refine (show po_X3_brokenLaw_k T p k s a b T (some (vI 1)) from ?_)
    exact ⟨rfl, _, rfl, by omega⟩
abbrev cX3_isSameRow : ByteArray := prog_5_method_32_code
def yX3_isSameRow : MethodName := ⟨RX3, "isSameRow", "(IIIII)Z"⟩
def zX3_isSameRow : Zm := (RX3, cX3_isSameRow, 6, (some .boolean), { frames := 0, cells := 0, slots := 0, locals := 0 })
theorem bk_X3_isSameRow_0 : ck_ fX3 (some .boolean) cX3_isSameRow 0 [.aload 0, .tableswitch 0 3 14 #[], .iload 1, .iconst 4, .imul, .iaload, .iload 2, .if_icmp .ne 60, .aload 0, .tableswitch 0 3 14 #[], .iload 1, .iconst 4, .imul, .iconst 1, .iadd, .iaload, .iload 3, .if_icmp .ne 60, .aload 0, .tableswitch 0 3 14 #[], .iload 1, .iconst 4, .imul, .iconst 2, .iadd, .iaload, .iload 4, .if_icmp .ne 60, .aload 0, .tableswitch 0 3 14 #[], .iload 1, .iconst 4, .imul, .iconst 3, .iadd, .iaload, .iload 5, .if_icmp .ne 60, .iconst 1, .goto 61] 60 = true := qck_r (by decide) (by decide +kernel)
theorem bs_X3_isSameRow_0 {P : Zt → Option Zv → Prop} (K : Int → Zl → List Zv → Zt → Prop) : sx_ K P [.aload 0, .tableswitch 0 3 14 #[], .iload 1, .iconst 4, .imul, .iaload, .iload 2, .if_icmp .ne 60, .aload 0, .tableswitch 0 3 14 #[], .iload 1, .iconst 4, .imul, .iconst 1, .iadd, .iaload, .iload 3, .if_icmp .ne 60, .aload 0, .tableswitch 0 3 14 #[], .iload 1, .iconst 4, .imul, .iconst 2, .iadd, .iaload, .iload 4, .if_icmp .ne 60, .aload 0, .tableswitch 0 3 14 #[], .iload 1, .iconst 4, .imul, .iconst 3, .iadd, .iaload, .iload 5, .if_icmp .ne 60, .iconst 1, .goto 61] 60 = x_aload 0 (x_g3 103 190 14 (x_iload 1 (x_iconst 4 (x_imul (x_iaload (x_iload 2 (x_if_icmp .ne 60 K (x_aload 0 (x_g3 103 190 14 (x_iload 1 (x_iconst 4 (x_imul (x_iconst 1 (x_iadd (x_iaload (x_iload 3 (x_if_icmp .ne 60 K (x_aload 0 (x_g3 103 190 14 (x_iload 1 (x_iconst 4 (x_imul (x_iconst 2 (x_iadd (x_iaload (x_iload 4 (x_if_icmp .ne 60 K (x_aload 0 (x_g3 103 190 14 (x_iload 1 (x_iconst 4 (x_imul (x_iconst 3 (x_iadd (x_iaload (x_iload 5 (x_if_icmp .ne 60 K (x_iconst 1 (x_goto 61 K))))))))))))))))))))))))))))))))))))))) := ((xe_aload 0).trans (congrArg (x_aload 0) ((xe_g3 (kk := 103) rfl tl_3_14).trans (congrArg (x_g3 103 190 14) ((xe_iload 1).trans (congrArg (x_iload 1) ((xe_iconst 4).trans (congrArg (x_iconst 4) ((xe_imul).trans (congrArg (x_imul) ((xe_iaload).trans (congrArg (x_iaload) ((xe_iload 2).trans (congrArg (x_iload 2) ((xe_if_icmp .ne 60).trans (congrArg (x_if_icmp .ne 60 K) ((xe_aload 0).trans (congrArg (x_aload 0) ((xe_g3 (kk := 103) rfl tl_3_14).trans (congrArg (x_g3 103 190 14) ((xe_iload 1).trans (congrArg (x_iload 1) ((xe_iconst 4).trans (congrArg (x_iconst 4) ((xe_imul).trans (congrArg (x_imul) ((xe_iconst 1).trans (congrArg (x_iconst 1) ((xe_iadd).trans (congrArg (x_iadd) ((xe_iaload).trans (congrArg (x_iaload) ((xe_iload 3).trans (congrArg (x_iload 3) ((xe_if_icmp .ne 60).trans (congrArg (x_if_icmp .ne 60 K) ((xe_aload 0).trans (congrArg (x_aload 0) ((xe_g3 (kk := 103) rfl tl_3_14).trans (congrArg (x_g3 103 190 14) ((xe_iload 1).trans (congrArg (x_iload 1) ((xe_iconst 4).trans (congrArg (x_iconst 4) ((xe_imul).trans (congrArg (x_imul) ((xe_iconst 2).trans (congrArg (x_iconst 2) ((xe_iadd).trans (congrArg (x_iadd) ((xe_iaload).trans (congrArg (x_iaload) ((xe_iload 4).trans (congrArg (x_iload 4) ((xe_if_icmp .ne 60).trans (congrArg (x_if_icmp .ne 60 K) ((xe_aload 0).trans (congrArg (x_aload 0) ((xe_g3 (kk := 103) rfl tl_3_14).trans (congrArg (x_g3 103 190 14) ((xe_iload 1).trans (congrArg (x_iload 1) ((xe_iconst 4).trans (congrArg (x_iconst 4) ((xe_imul).trans (congrArg (x_imul) ((xe_iconst 3).trans (congrArg (x_iconst 3) ((xe_iadd).trans (congrArg (x_iadd) ((xe_iaload).trans (congrArg (x_iaload) ((xe_iload 5).trans (congrArg (x_iload 5) ((xe_if_icmp .ne 60).trans (congrArg (x_if_icmp .ne 60 K) ((xe_iconst 1).trans (congrArg (x_iconst 1) (xe_goto 61)))))))))))))))))))))))))))))))))))))))))))))))))))))))))))))))))))))))))))))))
theorem bk_X3_isSameRow_60 : ck_ fX3 (some .boolean) cX3_isSameRow 60 [.iconst 0, .ireturn] 62 = true := qck_r (by decide) (by decide +kernel)
theorem bs_X3_isSameRow_60 {P : Zt → Option Zv → Prop} (K : Int → Zl → List Zv → Zt → Prop) : sx_ K P [.iconst 0, .ireturn] 62 = x_iconst 0 (x_ireturn P) := ((xe_iconst 0).trans (congrArg (x_iconst 0) (xe_ireturn)))
theorem bk_X3_isSameRow_61 : ck_ fX3 (some .boolean) cX3_isSameRow 61 [.ireturn] 62 = true := qck_r (by decide) (by decide +kernel)
theorem bs_X3_isSameRow_61 {P : Zt → Option Zv → Prop} (K : Int → Zl → List Zv → Zt → Prop) : sx_ K P [.ireturn] 62 = x_ireturn P := (xe_ireturn)
abbrev po_X3_isSameRow (T : Zt) (p : Int) (i k s v w : Int) : Zt → Option Zv → Prop := fun T' r => T = T' ∧ ∃ x : Int, r = some (vI x) ∧ (0 ≤ x ∧ x ≤ 1)
set_option maxHeartbeats 4000000 in
theorem ct_X3_isSameRow {T : Zt} {p : Int} {i k s v w : Int} (h1 : 0 ≤ i ∧ i ≤ 1000 ∧ i * 4 + 3 < T 190 (T 103 p 14) (-2)) : Ct_ yX3_isSameRow zX3_isSameRow T [vR 103 p, vI i, vI k, vI s, vI v, vI w] (po_X3_isSameRow T p i k s v w) := by
  refine ct_of (by decide) rfl rfl (Nat.le_of_ble_eq_true rfl) (fun hT hav => ?_)
  have hr_i : -2147483648 ≤ i ∧ i ≤ 2147483647 := hav (vI i) (by simp)
  have hr_k : -2147483648 ≤ k ∧ k ≤ 2147483647 := hav (vI k) (by simp)
  have hr_s : -2147483648 ≤ s ∧ s ≤ 2147483647 := hav (vI s) (by simp)
  have hr_v : -2147483648 ≤ v ∧ v ≤ 2147483647 := hav (vI v) (by simp)
  have hr_w : -2147483648 ≤ w ∧ w ≤ 2147483647 := hav (vI w) (by simp)
  have hz : zX3_isSameRow.2.2.2.1 = some .boolean → ∀ (T' : Zt) (x : Int), po_X3_isSameRow T p i k s v w T' (some (vI x)) → 0 ≤ x ∧ x ≤ 1 := fun _ T' x h => by obtain ⟨-, y, e, hy⟩ := h; cases e; omega
  show J_ zX3_isSameRow T (po_X3_isSameRow T p i k s v w) 0 0 0 [some (vR 103 p), some (vI i), some (vI k), some (vI s), some (vI v), some (vI w)] [] T
  refine j_blx (F := fX3) tb_X3 (by decide) bk_X3_isSameRow_0 bs_X3_isSameRow_0 hz (fun K hK => ?_)
  refine rg_i (by omega) ?_
  refine ix_i (by omega) ?_
  intro b2 b2b
  refine And.intro (fun c3 => ?_) (fun c3 => ?_)
  · refine hK 60 [some (vR 103 p), some (vI i), some (vI k), some (vI s), some (vI v), some (vI w)] [] T ?_
    refine j_blx (F := fX3) tb_X3 (by decide) bk_X3_isSameRow_60 bs_X3_isSameRow_60 hz (fun K hK => ?_)
    refine (show po_X3_isSameRow T p i k s v w T (some (vI 0)) from ?_)
    exact ⟨rfl, _, rfl, by omega⟩
  · refine rg_i (by omega) ?_
    refine rg_i (by omega) ?_
    refine ix_i (by omega) ?_
    intro b5 b5b
    refine And.intro (fun c6 => ?_) (fun c6 => ?_)
    · refine hK 60 [some (vR 103 p), some (vI i), some (vI k), some (vI s), some (vI v), some (vI w)] [] T ?_
      refine j_blx (F := fX3) tb_X3 (by decide) bk_X3_isSameRow_60 bs_X3_isSameRow_60 hz (fun K hK => ?_)
      refine (show po_X3_isSameRow T p i k s v w T (some (vI 0)) from ?_)
      exact ⟨rfl, _, rfl, by omega⟩
    · refine rg_i (by omega) ?_
      refine rg_i (by omega) ?_
      refine ix_i (by omega) ?_
      intro b8 b8b
      refine And.intro (fun c9 => ?_) (fun c9 => ?_)
      · refine hK 60 [some (vR 103 p), some (vI i), some (vI k), some (vI s), some (vI v), some (vI w)] [] T ?_
        refine j_blx (F := fX3) tb_X3 (by decide) bk_X3_isSameRow_60 bs_X3_isSameRow_60 hz (fun K hK => ?_)
        refine (show po_X3_isSameRow T p i k s v w T (some (vI 0)) from ?_)
        exact ⟨rfl, _, rfl, by omega⟩
      · refine rg_i (by omega) ?_
        refine rg_i (by omega) ?_
        refine ix_i (by omega) ?_
        intro b11 b11b
        refine And.intro (fun c12 => ?_) (fun c12 => ?_)
        · refine hK 60 [some (vR 103 p), some (vI i), some (vI k), some (vI s), some (vI v), some (vI w)] [] T ?_
          refine j_blx (F := fX3) tb_X3 (by decide) bk_X3_isSameRow_60 bs_X3_isSameRow_60 hz (fun K hK => ?_)
          refine (show po_X3_isSameRow T p i k s v w T (some (vI 0)) from ?_)
          exact ⟨rfl, _, rfl, by omega⟩
        · refine hK 61 [some (vR 103 p), some (vI i), some (vI k), some (vI s), some (vI v), some (vI w)] [vI 1] T ?_
          refine j_blx (F := fX3) tb_X3 (by decide) bk_X3_isSameRow_61 bs_X3_isSameRow_61 hz (fun K hK => ?_)
          refine (show po_X3_isSameRow T p i k s v w T (some (vI 1)) from ?_)
          exact ⟨rfl, _, rfl, by omega⟩
abbrev cX3_takeOut : ByteArray := prog_5_method_33_code
def yX3_takeOut : MethodName := ⟨RX3, "takeOut", "(I)V"⟩
def zX3_takeOut : Zm := (RX3, cX3_takeOut, 3, none, { frames := 0, cells := 0, slots := 0, locals := 0 })
theorem bk_X3_takeOut_6 : ck_ fX3 none cX3_takeOut 6 [.iload 2, .aload 0, .tableswitch 0 3 15 #[], .iconst 4, .imul, .if_icmp .ge 36, .aload 0, .tableswitch 0 3 14 #[], .iload 2, .iconst 4, .isub, .aload 0, .tableswitch 0 3 14 #[], .iload 2, .iaload, .iastore, .iinc 2 1, .goto 6] 36 = true := qck_r (by decide) (by decide +kernel)
theorem bs_X3_takeOut_6 {P : Zt → Option Zv → Prop} (K : Int → Zl → List Zv → Zt → Prop) : sx_ K P [.iload 2, .aload 0, .tableswitch 0 3 15 #[], .iconst 4, .imul, .if_icmp .ge 36, .aload 0, .tableswitch 0 3 14 #[], .iload 2, .iconst 4, .isub, .aload 0, .tableswitch 0 3 14 #[], .iload 2, .iaload, .iastore, .iinc 2 1, .goto 6] 36 = x_iload 2 (x_aload 0 (x_g0 103 15 0 3000 (x_iconst 4 (x_imul (x_if_icmp .ge 36 K (x_aload 0 (x_g3 103 190 14 (x_iload 2 (x_iconst 4 (x_isub (x_aload 0 (x_g3 103 190 14 (x_iload 2 (x_iaload (x_iastore (x_iinc 2 1 (x_goto 6 K))))))))))))))))) := ((xe_iload 2).trans (congrArg (x_iload 2) ((xe_aload 0).trans (congrArg (x_aload 0) ((xe_g0 (kk := 103) rfl tl_3_15).trans (congrArg (x_g0 103 15 0 3000) ((xe_iconst 4).trans (congrArg (x_iconst 4) ((xe_imul).trans (congrArg (x_imul) ((xe_if_icmp .ge 36).trans (congrArg (x_if_icmp .ge 36 K) ((xe_aload 0).trans (congrArg (x_aload 0) ((xe_g3 (kk := 103) rfl tl_3_14).trans (congrArg (x_g3 103 190 14) ((xe_iload 2).trans (congrArg (x_iload 2) ((xe_iconst 4).trans (congrArg (x_iconst 4) ((xe_isub).trans (congrArg (x_isub) ((xe_aload 0).trans (congrArg (x_aload 0) ((xe_g3 (kk := 103) rfl tl_3_14).trans (congrArg (x_g3 103 190 14) ((xe_iload 2).trans (congrArg (x_iload 2) ((xe_iaload).trans (congrArg (x_iaload) ((xe_iastore).trans (congrArg (x_iastore) ((xe_iinc 2 1).trans (congrArg (x_iinc 2 1) (xe_goto 6)))))))))))))))))))))))))))))))))))
theorem bk_X3_takeOut_36 : ck_ fX3 none cX3_takeOut 36 [.aload 0, .dup, .tableswitch 0 3 15 #[], .iconst 1, .isub, .tableswitch 1 3 15 #[], .return_] 47 = true := qck_r (by decide) (by decide +kernel)
theorem bs_X3_takeOut_36 {P : Zt → Option Zv → Prop} (K : Int → Zl → List Zv → Zt → Prop) : sx_ K P [.aload 0, .dup, .tableswitch 0 3 15 #[], .iconst 1, .isub, .tableswitch 1 3 15 #[], .return_] 47 = x_aload 0 (x_dup (x_g0 103 15 0 3000 (x_iconst 1 (x_isub (x_p 103 15 0 3000 (x_return_ P)))))) := ((xe_aload 0).trans (congrArg (x_aload 0) ((xe_dup).trans (congrArg (x_dup) ((xe_g0 (kk := 103) rfl tl_3_15).trans (congrArg (x_g0 103 15 0 3000) ((xe_iconst 1).trans (congrArg (x_iconst 1) ((xe_isub).trans (congrArg (x_isub) ((xe_p (kk := 103) rfl tl_3_15).trans (congrArg (x_p 103 15 0 3000) (xe_return_)))))))))))))
theorem bk_X3_takeOut_0 : ck_ fX3 none cX3_takeOut 0 [.iload 1, .iconst 4, .imul, .iconst 4, .iadd, .istore 2] 6 = true := qck_r (by decide) (by decide +kernel)
theorem bs_X3_takeOut_0 {P : Zt → Option Zv → Prop} (K : Int → Zl → List Zv → Zt → Prop) : sx_ K P [.iload 1, .iconst 4, .imul, .iconst 4, .iadd, .istore 2] 6 = x_iload 1 (x_iconst 4 (x_imul (x_iconst 4 (x_iadd (x_istore 2 (K 6)))))) := ((xe_iload 1).trans (congrArg (x_iload 1) ((xe_iconst 4).trans (congrArg (x_iconst 4) ((xe_imul).trans (congrArg (x_imul) ((xe_iconst 4).trans (congrArg (x_iconst 4) ((xe_iadd).trans (congrArg (x_iadd) ((xe_istore 2).trans (congrArg (x_istore 2) xe_nil))))))))))))
abbrev po_X3_takeOut (T : Zt) (p : Int) (i : Int) : Zt → Option Zv → Prop := fun T' r => r = none ∧ fr_ [(103, [15]), (190, [])] T T' ∧ (oq_ T T' p ∧ T' 103 p 15 = T 103 p 15 - 1 ∧ ∀ x, T' 190 x (-2) = T 190 x (-2))
set_option maxHeartbeats 4000000 in
theorem ct_X3_takeOut {T : Zt} {p : Int} {i : Int} (h1 : 0 ≤ i ∧ i < T 103 p 15 ∧ T 103 p 15 ≤ 1000 ∧ 4 * T 103 p 15 ≤ T 190 (T 103 p 14) (-2)) : Ct_ yX3_takeOut zX3_takeOut T [vR 103 p, vI i] (po_X3_takeOut T p i) := by
  refine ct_of (by decide) rfl rfl (Nat.le_of_ble_eq_true rfl) (fun hT hav => ?_)
  have hr_i : -2147483648 ≤ i ∧ i ≤ 2147483647 := hav (vI i) (by simp)
  have hz : zX3_takeOut.2.2.2.1 = some .boolean → ∀ (T' : Zt) (x : Int), po_X3_takeOut T p i T' (some (vI x)) → 0 ≤ x ∧ x ≤ 1 := fun h => by cases h
  show J_ zX3_takeOut T (po_X3_takeOut T p i) 0 0 0 [some (vR 103 p), some (vI i), none] [] T
  have c_6 : ∀ (nn : Nat) (j : Int) (T1 : Zt), ((4 * T 103 p 15 - j).toNat) ≤ nn → (fr_ [(190, [])] T T1) → (∀ x, T1 190 x (-2) = T 190 x (-2)) → (oq_ T T1 p) → (4 ≤ j ∧ j ≤ 4 * T 103 p 15) → J_ zX3_takeOut T (po_X3_takeOut T p i) 0 0 6 [some (vR 103 p), some (vI i), some (vI j)] [] T1 := by
    intro nn
    induction nn using Nat.strongRecOn with
    | _ nn ih_6 =>
      intro j T1 hm_6 hf_6 lT1 oT1 i1
      refine j_blx (F := fX3) tb_X3 (by decide) bk_X3_takeOut_6 bs_X3_takeOut_6 hz (fun K hK => ?_)
      intro b1 b1b
      have e2 : T1 103 p 15 = T 103 p 15 := hf_6 103 p 15 rfl
      rw [e2] at b1 b1b ⊢
      refine rg_i (by omega) ?_
      refine And.intro (fun c3 => ?_) (fun c3 => ?_)
      · refine hK 36 [some (vR 103 p), some (vI i), some (vI j)] [] T1 ?_
        refine j_blx (F := fX3) tb_X3 (by decide) bk_X3_takeOut_36 bs_X3_takeOut_36 hz (fun K hK => ?_)
        intro b4 b4b
        have e5 : T1 103 p 15 = T 103 p 15 := hf_6 103 p 15 rfl
        rw [e5] at b4 b4b ⊢
        refine rg_i (by omega) ?_
        refine bd_i (by omega) ?_
        refine x_nm (fun U6 hU6 => ?_)
        have e7 := up_f hU6
        refine (show po_X3_takeOut T p i U6 (none) from ?_)
        have e8 : U6 103 p 15 = (T 103 p 15) - 1 := up_f hU6
        have e9 : U6 103 p 15 = (T 103 p 15) - 1 := up_f hU6
        exact ⟨rfl, fr_u (fr_t (fr_0 _ _) (fr_s hf_6 rfl)) hU6 rfl, oq_u (oT1) hU6, by omega, fun x => (up_k hU6 (by decide) _ (-2)).trans (lT1 x)⟩
      · have e11 : T1 103 p 14 = T 103 p 14 := hf_6 103 p 14 rfl
        refine rg_i (by omega) ?_
        have e13 : T1 103 p 14 = T 103 p 14 := hf_6 103 p 14 rfl
        have y14 : T1 190 (T1 103 p 14) (-2) = T 190 (T 103 p 14) (-2) := by rw [e13]; exact lT1 _
        refine ix_i (by omega) ?_
        intro b15 b15b
        have e16 : T1 190 (T1 103 p 14) j = T1 190 (T 103 p 14) j := by rw [e13]
        rw [e16] at b15 b15b ⊢
        have y17 : T1 190 (T1 103 p 14) (-2) = T 190 (T 103 p 14) (-2) := by rw [e13]; exact lT1 _
        refine iy_i (by omega) (by omega) ?_
        refine x_nm (fun U18 hU18 => ?_)
        have e19 := up_f hU18
        refine rg_i (by omega) ?_
        refine hK 6 [some (vR 103 p), some (vI i), some (vI (j + 1))] [] U18 ?_
        refine ih_6 _ ?_ (j + 1) U18 (Nat.le_refl _) ?_ ?_ ?_ ?_
        · omega
        · exact fr_u (fr_t (fr_0 _ _) (fr_s hf_6 rfl)) hU18 rfl
        · exact fun x => (up_g hU18 (fun z => by omega)).trans (lT1 x)
        · exact oq_w (oT1) hU18
        · omega
  refine j_blx (F := fX3) tb_X3 (by decide) bk_X3_takeOut_0 bs_X3_takeOut_0 hz (fun K hK => ?_)
  refine rg_i (by omega) ?_
  refine rg_i (by omega) ?_
  refine hK 6 [some (vR 103 p), some (vI i), some (vI ((i * 4) + 4))] [] T ?_
  refine c_6 _ ((i * 4) + 4) T (Nat.le_refl _) ?_ ?_ ?_ ?_
  · exact fr_0 _ _
  · exact fun x => rfl
  · exact oq_r
  · omega
abbrev cX3_putInPlace : ByteArray := prog_5_method_34_code
def yX3_putInPlace : MethodName := ⟨RX3, "putInPlace", "(IIIII)V"⟩
def zX3_putInPlace : Zm := (RX3, cX3_putInPlace, 6, none, { frames := 1, cells := 0, slots := 0, locals := 25 })
theorem bk_X3_putInPlace_0 : ck_ fX3 none cX3_putInPlace 0 [.aload 0, .tableswitch 0 3 14 #[], .iload 1, .iload 2, .iload 3, .iload 4, .iload 5] 11 = true := qck_r (by decide) (by decide +kernel)
theorem bs_X3_putInPlace_0 {P : Zt → Option Zv → Prop} (K : Int → Zl → List Zv → Zt → Prop) : sx_ K P [.aload 0, .tableswitch 0 3 14 #[], .iload 1, .iload 2, .iload 3, .iload 4, .iload 5] 11 = x_aload 0 (x_g3 103 190 14 (x_iload 1 (x_iload 2 (x_iload 3 (x_iload 4 (x_iload 5 (K 11))))))) := ((xe_aload 0).trans (congrArg (x_aload 0) ((xe_g3 (kk := 103) rfl tl_3_14).trans (congrArg (x_g3 103 190 14) ((xe_iload 1).trans (congrArg (x_iload 1) ((xe_iload 2).trans (congrArg (x_iload 2) ((xe_iload 3).trans (congrArg (x_iload 3) ((xe_iload 4).trans (congrArg (x_iload 4) ((xe_iload 5).trans (congrArg (x_iload 5) xe_nil))))))))))))))
theorem bk_X3_putInPlace_14 : ck_ fX3 none cX3_putInPlace 14 [.return_] 15 = true := qck_r (by decide) (by decide +kernel)
theorem bs_X3_putInPlace_14 {P : Zt → Option Zv → Prop} (K : Int → Zl → List Zv → Zt → Prop) : sx_ K P [.return_] 15 = x_return_ P := (xe_return_)
abbrev po_X3_putInPlace (T : Zt) (p : Int) (i k s v w : Int) : Zt → Option Zv → Prop := fun T' r => r = none ∧ fr_ [(190, [])] T T' ∧ ∀ x, T' 190 x (-2) = T 190 x (-2)
set_option maxHeartbeats 4000000 in
theorem ct_X3_putInPlace {T : Zt} {p : Int} {i k s v w : Int} (h1 : 0 ≤ i ∧ i ≤ 1000 ∧ i * 4 + 3 < T 190 (T 103 p 14) (-2)) : Ct_ yX3_putInPlace zX3_putInPlace T [vR 103 p, vI i, vI k, vI s, vI v, vI w] (po_X3_putInPlace T p i k s v w) := by
  refine ct_of (by decide) rfl rfl (Nat.le_of_ble_eq_true rfl) (fun hT hav => ?_)
  have hr_i : -2147483648 ≤ i ∧ i ≤ 2147483647 := hav (vI i) (by simp)
  have hr_k : -2147483648 ≤ k ∧ k ≤ 2147483647 := hav (vI k) (by simp)
  have hr_s : -2147483648 ≤ s ∧ s ≤ 2147483647 := hav (vI s) (by simp)
  have hr_v : -2147483648 ≤ v ∧ v ≤ 2147483647 := hav (vI v) (by simp)
  have hr_w : -2147483648 ≤ w ∧ w ≤ 2147483647 := hav (vI w) (by simp)
  have hz : zX3_putInPlace.2.2.2.1 = some .boolean → ∀ (T' : Zt) (x : Int), po_X3_putInPlace T p i k s v w T' (some (vI x)) → 0 ≤ x ∧ x ≤ 1 := fun h => by cases h
  show J_ zX3_putInPlace T (po_X3_putInPlace T p i k s v w) 0 0 0 [some (vR 103 p), some (vI i), some (vI k), some (vI s), some (vI v), some (vI w)] [] T
  refine j_blx (F := fX3) tb_X3 (by decide) bk_X3_putInPlace_0 bs_X3_putInPlace_0 hz (fun K hK => ?_)
  refine hK 11 [some (vR 103 p), some (vI i), some (vI k), some (vI s), some (vI v), some (vI w)] [vI w, vI v, vI s, vI k, vI i, vR 190 (T 103 p 14)] T ?_
  refine j_callS (y := yX3_writeRow) (Yc := zX3_writeRow) (rest := []) [vR 190 (T 103 p 14), vI i, vI k, vI s, vI v, vI w] (ct_X3_writeRow (T := T) (by omega)) cl_X3_161 (qd_c (by decide +kernel)) (by decide) rfl (by decide +kernel) (Nat.le_of_ble_eq_true rfl) (by decide) (by decide) rfl ?_
  rintro U2 _ ⟨rfl, fU2, lU2, oU2⟩
  show J_ zX3_putInPlace T (po_X3_putInPlace T p i k s v w) 0 0 14 [some (vR 103 p), some (vI i), some (vI k), some (vI s), some (vI v), some (vI w)] [] U2
  refine j_blx (F := fX3) tb_X3 (by decide) bk_X3_putInPlace_14 bs_X3_putInPlace_14 hz (fun K hK => ?_)
  refine (show po_X3_putInPlace T p i k s v w U2 (none) from ?_)
  exact ⟨rfl, fU2, lU2⟩

