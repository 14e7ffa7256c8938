abbrev cX3_isFormed : ByteArray := prog_5_method_6_code
def yX3_isFormed : MethodName := ⟨RX3, "isFormed", "(II)Z"⟩
def zX3_isFormed : Zm := (RX3, cX3_isFormed, 4, (some .boolean), { frames := 1, cells := 0, slots := 0, locals := 20 })
theorem bk_X3_isFormed_105 : ck_ fX3 (some .boolean) cX3_isFormed 105 [.iload 3, .ifCond .eq 124, .iload 1, .ifCond .eq 120, .iload 2] 114 = true := qck_r (by decide) (by decide +kernel)
theorem bs_X3_isFormed_105 {P : Zt → Option Zv → Prop} (K : Int → Zl → List Zv → Zt → Prop) : sx_ K P [.iload 3, .ifCond .eq 124, .iload 1, .ifCond .eq 120, .iload 2] 114 = x_iload 3 (x_ifCond .eq 124 K (x_iload 1 (x_ifCond .eq 120 K (x_iload 2 (K 114))))) := ((xe_iload 3).trans (congrArg (x_iload 3) ((xe_ifCond .eq 124).trans (congrArg (x_ifCond .eq 124 K) ((xe_iload 1).trans (congrArg (x_iload 1) ((xe_ifCond .eq 120).trans (congrArg (x_ifCond .eq 120 K) ((xe_iload 2).trans (congrArg (x_iload 2) xe_nil))))))))))
theorem bk_X3_isFormed_124 : ck_ fX3 (some .boolean) cX3_isFormed 124 [.iconst 0, .ireturn] 126 = true := qck_r (by decide) (by decide +kernel)
theorem bs_X3_isFormed_124 {P : Zt → Option Zv → Prop} (K : Int → Zl → List Zv → Zt → Prop) : sx_ K P [.iconst 0, .ireturn] 126 = x_iconst 0 (x_ireturn P) := ((xe_iconst 0).trans (congrArg (x_iconst 0) (xe_ireturn)))
theorem bk_X3_isFormed_120 : ck_ fX3 (some .boolean) cX3_isFormed 120 [.iconst 1, .goto 125] 124 = true := qck_r (by decide) (by decide +kernel)
theorem bs_X3_isFormed_120 {P : Zt → Option Zv → Prop} (K : Int → Zl → List Zv → Zt → Prop) : sx_ K P [.iconst 1, .goto 125] 124 = x_iconst 1 (x_goto 125 K) := ((xe_iconst 1).trans (congrArg (x_iconst 1) (xe_goto 125)))
theorem bk_X3_isFormed_125 : ck_ fX3 (some .boolean) cX3_isFormed 125 [.ireturn] 126 = true := qck_r (by decide) (by decide +kernel)
theorem bs_X3_isFormed_125 {P : Zt → Option Zv → Prop} (K : Int → Zl → List Zv → Zt → Prop) : sx_ K P [.ireturn] 126 = x_ireturn P := (xe_ireturn)
set_option maxRecDepth 100000 in
theorem cn_X3_89 : cn_ zX10_isSide 1 := ⟨gi_c (lw_b4 137 rfl rfl : Cond.code yX10_isSide cX10_isSide 1 (some .boolean) ∈ lw_g), (lw_b4 136 (by decide +kernel) rfl : Cond.static yX10_isSide ∈ lw_g), (lw_b1 1 (by decide +kernel) rfl : Cond.initialized "SportsHouse" ∈ lw_g), ⟨by decide, by decide, by decide +kernel⟩⟩
theorem bk_X3_isFormed_117 : ck_ fX3 (some .boolean) cX3_isFormed 117 [.ifCond .eq 124, .iconst 1, .goto 125] 124 = true := qck_r (by decide) (by decide +kernel)
theorem bs_X3_isFormed_117 {P : Zt → Option Zv → Prop} (K : Int → Zl → List Zv → Zt → Prop) : sx_ K P [.ifCond .eq 124, .iconst 1, .goto 125] 124 = x_ifCond .eq 124 K (x_iconst 1 (x_goto 125 K)) := ((xe_ifCond .eq 124).trans (congrArg (x_ifCond .eq 124 K) ((xe_iconst 1).trans (congrArg (x_iconst 1) (xe_goto 125)))))
theorem bk_X3_isFormed_0 : ck_ fX3 (some .boolean) cX3_isFormed 0 [.aload 0, .tableswitch 0 3 0 #[], .iconst 0, .iaload] 6 = true := qck_r (by decide) (by decide +kernel)
theorem bs_X3_isFormed_0 {P : Zt → Option Zv → Prop} (K : Int → Zl → List Zv → Zt → Prop) : sx_ K P [.aload 0, .tableswitch 0 3 0 #[], .iconst 0, .iaload] 6 = x_aload 0 (x_g3 103 401 0 (x_iconst 0 (x_iaload (K 6)))) := ((xe_aload 0).trans (congrArg (x_aload 0) ((xe_g3 (kk := 103) rfl tl_3_0).trans (congrArg (x_g3 103 401 0) ((xe_iconst 0).trans (congrArg (x_iconst 0) ((xe_iaload).trans (congrArg (x_iaload) xe_nil))))))))
theorem ds_X3_isFormed_6 : decode cX3_isFormed 6 = .ok (.tableswitch 83 0 2 #[26, 44, 63], 26) := by decide +kernel
theorem bk_X3_isFormed_32 : ck_ fX3 (some .boolean) cX3_isFormed 32 [.iload 1, .ifCond .lt 45, .iload 1, .iconst 5, .if_icmp .gt 45, .iconst 1, .goto 46] 45 = true := qck_r (by decide) (by decide +kernel)
theorem bs_X3_isFormed_32 {P : Zt → Option Zv → Prop} (K : Int → Zl → List Zv → Zt → Prop) : sx_ K P [.iload 1, .ifCond .lt 45, .iload 1, .iconst 5, .if_icmp .gt 45, .iconst 1, .goto 46] 45 = x_iload 1 (x_ifCond .lt 45 K (x_iload 1 (x_iconst 5 (x_if_icmp .gt 45 K (x_iconst 1 (x_goto 46 K)))))) := ((xe_iload 1).trans (congrArg (x_iload 1) ((xe_ifCond .lt 45).trans (congrArg (x_ifCond .lt 45 K) ((xe_iload 1).trans (congrArg (x_iload 1) ((xe_iconst 5).trans (congrArg (x_iconst 5) ((xe_if_icmp .gt 45).trans (congrArg (x_if_icmp .gt 45 K) ((xe_iconst 1).trans (congrArg (x_iconst 1) (xe_goto 46)))))))))))))
theorem bk_X3_isFormed_45 : ck_ fX3 (some .boolean) cX3_isFormed 45 [.iconst 0, .istore 3, .goto 105] 50 = true := qck_r (by decide) (by decide +kernel)
theorem bs_X3_isFormed_45 {P : Zt → Option Zv → Prop} (K : Int → Zl → List Zv → Zt → Prop) : sx_ K P [.iconst 0, .istore 3, .goto 105] 50 = x_iconst 0 (x_istore 3 (x_goto 105 K)) := ((xe_iconst 0).trans (congrArg (x_iconst 0) ((xe_istore 3).trans (congrArg (x_istore 3) (xe_goto 105)))))
theorem bk_X3_isFormed_46 : ck_ fX3 (some .boolean) cX3_isFormed 46 [.istore 3, .goto 105] 50 = true := qck_r (by decide) (by decide +kernel)
theorem bs_X3_isFormed_46 {P : Zt → Option Zv → Prop} (K : Int → Zl → List Zv → Zt → Prop) : sx_ K P [.istore 3, .goto 105] 50 = x_istore 3 (x_goto 105 K) := ((xe_istore 3).trans (congrArg (x_istore 3) (xe_goto 105)))
theorem bk_X3_isFormed_50 : ck_ fX3 (some .boolean) cX3_isFormed 50 [.iload 1, .iconst 1, .if_icmp .eq 60, .iload 1, .iconst 5, .if_icmp .ne 64, .iconst 1, .goto 65] 64 = true := qck_r (by decide) (by decide +kernel)
theorem bs_X3_isFormed_50 {P : Zt → Option Zv → Prop} (K : Int → Zl → List Zv → Zt → Prop) : sx_ K P [.iload 1, .iconst 1, .if_icmp .eq 60, .iload 1, .iconst 5, .if_icmp .ne 64, .iconst 1, .goto 65] 64 = x_iload 1 (x_iconst 1 (x_if_icmp .eq 60 K (x_iload 1 (x_iconst 5 (x_if_icmp .ne 64 K (x_iconst 1 (x_goto 65 K))))))) := ((xe_iload 1).trans (congrArg (x_iload 1) ((xe_iconst 1).trans (congrArg (x_iconst 1) ((xe_if_icmp .eq 60).trans (congrArg (x_if_icmp .eq 60 K) ((xe_iload 1).trans (congrArg (x_iload 1) ((xe_iconst 5).trans (congrArg (x_iconst 5) ((xe_if_icmp .ne 64).trans (congrArg (x_if_icmp .ne 64 K) ((xe_iconst 1).trans (congrArg (x_iconst 1) (xe_goto 65)))))))))))))))
theorem bk_X3_isFormed_60 : ck_ fX3 (some .boolean) cX3_isFormed 60 [.iconst 1, .goto 65] 64 = true := qck_r (by decide) (by decide +kernel)
theorem bs_X3_isFormed_60 {P : Zt → Option Zv → Prop} (K : Int → Zl → List Zv → Zt → Prop) : sx_ K P [.iconst 1, .goto 65] 64 = x_iconst 1 (x_goto 65 K) := ((xe_iconst 1).trans (congrArg (x_iconst 1) (xe_goto 65)))
theorem bk_X3_isFormed_65 : ck_ fX3 (some .boolean) cX3_isFormed 65 [.istore 3, .goto 105] 69 = true := qck_r (by decide) (by decide +kernel)
theorem bs_X3_isFormed_65 {P : Zt → Option Zv → Prop} (K : Int → Zl → List Zv → Zt → Prop) : sx_ K P [.istore 3, .goto 105] 69 = x_istore 3 (x_goto 105 K) := ((xe_istore 3).trans (congrArg (x_istore 3) (xe_goto 105)))
theorem bk_X3_isFormed_64 : ck_ fX3 (some .boolean) cX3_isFormed 64 [.iconst 0, .istore 3, .goto 105] 69 = true := qck_r (by decide) (by decide +kernel)
theorem bs_X3_isFormed_64 {P : Zt → Option Zv → Prop} (K : Int → Zl → List Zv → Zt → Prop) : sx_ K P [.iconst 0, .istore 3, .goto 105] 69 = x_iconst 0 (x_istore 3 (x_goto 105 K)) := ((xe_iconst 0).trans (congrArg (x_iconst 0) ((xe_istore 3).trans (congrArg (x_istore 3) (xe_goto 105)))))
theorem bk_X3_isFormed_69 : ck_ fX3 (some .boolean) cX3_isFormed 69 [.iload 1, .iconst 1, .if_icmp .eq 80, .iload 1, .iconst 6, .if_icmp .ne 84, .iconst 1, .goto 85] 84 = true := qck_r (by decide) (by decide +kernel)
theorem bs_X3_isFormed_69 {P : Zt → Option Zv → Prop} (K : Int → Zl → List Zv → Zt → Prop) : sx_ K P [.iload 1, .iconst 1, .if_icmp .eq 80, .iload 1, .iconst 6, .if_icmp .ne 84, .iconst 1, .goto 85] 84 = x_iload 1 (x_iconst 1 (x_if_icmp .eq 80 K (x_iload 1 (x_iconst 6 (x_if_icmp .ne 84 K (x_iconst 1 (x_goto 85 K))))))) := ((xe_iload 1).trans (congrArg (x_iload 1) ((xe_iconst 1).trans (congrArg (x_iconst 1) ((xe_if_icmp .eq 80).trans (congrArg (x_if_icmp .eq 80 K) ((xe_iload 1).trans (congrArg (x_iload 1) ((xe_iconst 6).trans (congrArg (x_iconst 6) ((xe_if_icmp .ne 84).trans (congrArg (x_if_icmp .ne 84 K) ((xe_iconst 1).trans (congrArg (x_iconst 1) (xe_goto 85)))))))))))))))
theorem bk_X3_isFormed_80 : ck_ fX3 (some .boolean) cX3_isFormed 80 [.iconst 1, .goto 85] 84 = true := qck_r (by decide) (by decide +kernel)
theorem bs_X3_isFormed_80 {P : Zt → Option Zv → Prop} (K : Int → Zl → List Zv → Zt → Prop) : sx_ K P [.iconst 1, .goto 85] 84 = x_iconst 1 (x_goto 85 K) := ((xe_iconst 1).trans (congrArg (x_iconst 1) (xe_goto 85)))
theorem bk_X3_isFormed_85 : ck_ fX3 (some .boolean) cX3_isFormed 85 [.istore 3, .goto 105] 89 = true := qck_r (by decide) (by decide +kernel)
theorem bs_X3_isFormed_85 {P : Zt → Option Zv → Prop} (K : Int → Zl → List Zv → Zt → Prop) : sx_ K P [.istore 3, .goto 105] 89 = x_istore 3 (x_goto 105 K) := ((xe_istore 3).trans (congrArg (x_istore 3) (xe_goto 105)))
theorem bk_X3_isFormed_84 : ck_ fX3 (some .boolean) cX3_isFormed 84 [.iconst 0, .istore 3, .goto 105] 89 = true := qck_r (by decide) (by decide +kernel)
theorem bs_X3_isFormed_84 {P : Zt → Option Zv → Prop} (K : Int → Zl → List Zv → Zt → Prop) : sx_ K P [.iconst 0, .istore 3, .goto 105] 89 = x_iconst 0 (x_istore 3 (x_goto 105 K)) := ((xe_iconst 0).trans (congrArg (x_iconst 0) ((xe_istore 3).trans (congrArg (x_istore 3) (xe_goto 105)))))
theorem bk_X3_isFormed_89 : ck_ fX3 (some .boolean) cX3_isFormed 89 [.iload 1, .iconst 1, .if_icmp .lt 103, .iload 1, .iconst 4, .if_icmp .gt 103, .iconst 1, .goto 104] 103 = true := qck_r (by decide) (by decide +kernel)
theorem bs_X3_isFormed_89 {P : Zt → Option Zv → Prop} (K : Int → Zl → List Zv → Zt → Prop) : sx_ K P [.iload 1, .iconst 1, .if_icmp .lt 103, .iload 1, .iconst 4, .if_icmp .gt 103, .iconst 1, .goto 104] 103 = x_iload 1 (x_iconst 1 (x_if_icmp .lt 103 K (x_iload 1 (x_iconst 4 (x_if_icmp .gt 103 K (x_iconst 1 (x_goto 104 K))))))) := ((xe_iload 1).trans (congrArg (x_iload 1) ((xe_iconst 1).trans (congrArg (x_iconst 1) ((xe_if_icmp .lt 103).trans (congrArg (x_if_icmp .lt 103 K) ((xe_iload 1).trans (congrArg (x_iload 1) ((xe_iconst 4).trans (congrArg (x_iconst 4) ((xe_if_icmp .gt 103).trans (congrArg (x_if_icmp .gt 103 K) ((xe_iconst 1).trans (congrArg (x_iconst 1) (xe_goto 104)))))))))))))))
theorem bk_X3_isFormed_103 : ck_ fX3 (some .boolean) cX3_isFormed 103 [.iconst 0, .istore 3] 105 = true := qck_r (by decide) (by decide +kernel)
theorem bs_X3_isFormed_103 {P : Zt → Option Zv → Prop} (K : Int → Zl → List Zv → Zt → Prop) : sx_ K P [.iconst 0, .istore 3] 105 = x_iconst 0 (x_istore 3 (K 105)) := ((xe_iconst 0).trans (congrArg (x_iconst 0) ((xe_istore 3).trans (congrArg (x_istore 3) xe_nil))))
theorem bk_X3_isFormed_104 : ck_ fX3 (some .boolean) cX3_isFormed 104 [.istore 3] 105 = true := qck_r (by decide) (by decide +kernel)
theorem bs_X3_isFormed_104 {P : Zt → Option Zv → Prop} (K : Int → Zl → List Zv → Zt → Prop) : sx_ K P [.istore 3] 105 = x_istore 3 (K 105) := ((xe_istore 3).trans (congrArg (x_istore 3) xe_nil))
abbrev po_X3_isFormed (T : Zt) (p : Int) (k s : Int) : Zt → Option Zv → Prop := fun T' r => T = T' ∧ ∃ x : Int, r = some (vI x) ∧ (0 ≤ x ∧ x ≤ 1 ∧ (x = 1 → (k = 0 ∨ (0 ≤ s ∧ s ≤ 1)) ∧ ((T 401 (T 103 p 0) 0 = 0 ∧ 0 ≤ k ∧ k ≤ 5) ∨ (T 401 (T 103 p 0) 0 = 1 ∧ (k = 1 ∨ k = 5)) ∨ (T 401 (T 103 p 0) 0 = 2 ∧ (k = 1 ∨ k = 6)) ∨ (¬ T 401 (T 103 p 0) 0 = 0 ∧ ¬ T 401 (T 103 p 0) 0 = 1 ∧ ¬ T 401 (T 103 p 0) 0 = 2 ∧ 1 ≤ k ∧ k ≤ 4))))
set_option maxHeartbeats 4000000 in
theorem ct_X3_isFormed {T : Zt} {p : Int} {k s : Int} : Ct_ yX3_isFormed zX3_isFormed T [vR 103 p, vI k, vI s] (po_X3_isFormed T p k s) := by
  refine ct_of (by decide) rfl rfl (Nat.le_of_ble_eq_true rfl) (fun hT hav => ?_)
  have hr_k : -2147483648 ≤ k ∧ k ≤ 2147483647 := hav (vI k) (by simp)
  have hr_s : -2147483648 ≤ s ∧ s ≤ 2147483647 := hav (vI s) (by simp)
  have hz : zX3_isFormed.2.2.2.1 = some .boolean → ∀ (T' : Zt) (x : Int), po_X3_isFormed T p k s T' (some (vI x)) → 0 ≤ x ∧ x ≤ 1 := fun _ T' x h => by obtain ⟨-, y, e, hy⟩ := h; cases e; omega
  show J_ zX3_isFormed T (po_X3_isFormed T p k s) 0 0 0 [some (vR 103 p), some (vI k), some (vI s), none] [] T
  have c_105 : ∀ (v : Int), (0 ≤ v ∧ v ≤ 1 ∧ (v = 1 → (T 401 (T 103 p 0) 0 = 0 ∧ 0 ≤ k ∧ k ≤ 5) ∨ (T 401 (T 103 p 0) 0 = 1 ∧ (k = 1 ∨ k = 5)) ∨ (T 401 (T 103 p 0) 0 = 2 ∧ (k = 1 ∨ k = 6)) ∨ (¬ T 401 (T 103 p 0) 0 = 0 ∧ ¬ T 401 (T 103 p 0) 0 = 1 ∧ ¬ T 401 (T 103 p 0) 0 = 2 ∧ 1 ≤ k ∧ k ≤ 4))) → J_ zX3_isFormed T (po_X3_isFormed T p k s) 0 0 105 [some (vR 103 p), some (vI k), some (vI s), some (vI v)] [] T := by
    intro v i1
    refine j_blx (F := fX3) tb_X3 (by decide) bk_X3_isFormed_105 bs_X3_isFormed_105 hz (fun K hK => ?_)
    refine And.intro (fun c1 => ?_) (fun c1 => ?_)
    · refine hK 124 [some (vR 103 p), some (vI k), some (vI s), some (vI v)] [] T ?_
      refine j_blx (F := fX3) tb_X3 (by decide) bk_X3_isFormed_124 bs_X3_isFormed_124 hz (fun K hK => ?_)
      refine (show po_X3_isFormed T p k s T (some (vI 0)) from ?_)
      exact ⟨rfl, _, rfl, by omega⟩
    · refine And.intro (fun c2 => ?_) (fun c2 => ?_)
      · refine hK 120 [some (vR 103 p), some (vI k), some (vI s), some (vI v)] [] T ?_
        refine j_blx (F := fX3) tb_X3 (by decide) bk_X3_isFormed_120 bs_X3_isFormed_120 hz (fun K hK => ?_)
        refine hK 125 [some (vR 103 p), some (vI k), some (vI s), some (vI v)] [vI 1] T ?_
        refine j_blx (F := fX3) tb_X3 (by decide) bk_X3_isFormed_125 bs_X3_isFormed_125 hz (fun K hK => ?_)
        refine (show po_X3_isFormed T p k s T (some (vI 1)) from ?_)
        exact ⟨rfl, _, rfl, by omega⟩
      · refine hK 114 [some (vR 103 p), some (vI k), some (vI s), some (vI v)] [vI s] T ?_
        refine j_callN (Yc := zX10_isSide) (rest := []) [vI s] rfl (ct_X10_isSide (T := T)) cn_X3_89 (qd_c (by decide +kernel)) (by decide) rfl (by decide +kernel) (Nat.le_of_ble_eq_true rfl) (by decide) (by decide) rfl ?_
        rintro _ _ ⟨rfl, x3, rfl, hx3⟩
        show J_ zX3_isFormed T (po_X3_isFormed T p k s) 0 0 117 [some (vR 103 p), some (vI k), some (vI s), some (vI v)] [vI x3] T
        refine j_blx (F := fX3) tb_X3 (by decide) bk_X3_isFormed_117 bs_X3_isFormed_117 hz (fun K hK => ?_)
        refine And.intro (fun c4 => ?_) (fun c4 => ?_)
        · refine hK 124 [some (vR 103 p), some (vI k), some (vI s), some (vI v)] [] T ?_
          refine j_blx (F := fX3) tb_X3 (by decide) bk_X3_isFormed_124 bs_X3_isFormed_124 hz (fun K hK => ?_)
          refine (show po_X3_isFormed T p k s T (some (vI 0)) from ?_)
          exact ⟨rfl, _, rfl, by omega⟩
        · refine hK 125 [some (vR 103 p), some (vI k), some (vI s), some (vI v)] [vI 1] T ?_
          refine j_blx (F := fX3) tb_X3 (by decide) bk_X3_isFormed_125 bs_X3_isFormed_125 hz (fun K hK => ?_)
          refine (show po_X3_isFormed T p k s T (some (vI 1)) from ?_)
          exact ⟨rfl, _, rfl, by omega⟩
  refine j_blx (F := fX3) tb_X3 (by decide) bk_X3_isFormed_0 bs_X3_isFormed_0 hz (fun K hK => ?_)
  refine ix_i (by omega) ?_
  intro b6 b6b
  refine hK 6 [some (vR 103 p), some (vI k), some (vI s), none] [vI (T 401 (T 103 p 0) 0)] T ?_
  by_cases z7_0 : (T 401 (T 103 p 0) 0) = 0
  · refine j_tsI (pc := 6) 0 (off := 26) (tgt := 32) (by decide) ds_X3_isFormed_6 (by omega) (by decide) rfl (by decide) (by decide) ?_
    refine j_blx (F := fX3) tb_X3 (by decide) bk_X3_isFormed_32 bs_X3_isFormed_32 hz (fun K hK => ?_)
    refine And.intro (fun c8 => ?_) (fun c8 => ?_)
    · refine hK 45 [some (vR 103 p), some (vI k), some (vI s), none] [] T ?_
      refine j_blx (F := fX3) tb_X3 (by decide) bk_X3_isFormed_45 bs_X3_isFormed_45 hz (fun K hK => ?_)
      refine hK 105 [some (vR 103 p), some (vI k), some (vI s), some (vI 0)] [] T ?_
      refine c_105 0 ?_
      · omega
    · refine And.intro (fun c9 => ?_) (fun c9 => ?_)
      · refine hK 45 [some (vR 103 p), some (vI k), some (vI s), none] [] T ?_
        refine j_blx (F := fX3) tb_X3 (by decide) bk_X3_isFormed_45 bs_X3_isFormed_45 hz (fun K hK => ?_)
        refine hK 105 [some (vR 103 p), some (vI k), some (vI s), some (vI 0)] [] T ?_
        refine c_105 0 ?_
        · omega
      · refine hK 46 [some (vR 103 p), some (vI k), some (vI s), none] [vI 1] T ?_
        refine j_blx (F := fX3) tb_X3 (by decide) bk_X3_isFormed_46 bs_X3_isFormed_46 hz (fun K hK => ?_)
        refine hK 105 [some (vR 103 p), some (vI k), some (vI s), some (vI 1)] [] T ?_
        refine c_105 1 ?_
        · omega
  by_cases z7_1 : (T 401 (T 103 p 0) 0) = 1
  · refine j_tsI (pc := 6) 1 (off := 44) (tgt := 50) (by decide) ds_X3_isFormed_6 (by omega) (by decide) rfl (by decide) (by decide) ?_
    refine j_blx (F := fX3) tb_X3 (by decide) bk_X3_isFormed_50 bs_X3_isFormed_50 hz (fun K hK => ?_)
    refine And.intro (fun c10 => ?_) (fun c10 => ?_)
    · refine hK 60 [some (vR 103 p), some (vI k), some (vI s), none] [] T ?_
      refine j_blx (F := fX3) tb_X3 (by decide) bk_X3_isFormed_60 bs_X3_isFormed_60 hz (fun K hK => ?_)
      refine hK 65 [some (vR 103 p), some (vI k), some (vI s), none] [vI 1] T ?_
      refine j_blx (F := fX3) tb_X3 (by decide) bk_X3_isFormed_65 bs_X3_isFormed_65 hz (fun K hK => ?_)
      refine hK 105 [some (vR 103 p), some (vI k), some (vI s), some (vI 1)] [] T ?_
      refine c_105 1 ?_
      · omega
    · refine And.intro (fun c11 => ?_) (fun c11 => ?_)
      · refine hK 64 [some (vR 103 p), some (vI k), some (vI s), none] [] T ?_
        refine j_blx (F := fX3) tb_X3 (by decide) bk_X3_isFormed_64 bs_X3_isFormed_64 hz (fun K hK => ?_)
        refine hK 105 [some (vR 103 p), some (vI k), some (vI s), some (vI 0)] [] T ?_
        refine c_105 0 ?_
        · omega
      · refine hK 65 [some (vR 103 p), some (vI k), some (vI s), none] [vI 1] T ?_
        refine j_blx (F := fX3) tb_X3 (by decide) bk_X3_isFormed_65 bs_X3_isFormed_65 hz (fun K hK => ?_)
        refine hK 105 [some (vR 103 p), some (vI k), some (vI s), some (vI 1)] [] T ?_
        refine c_105 1 ?_
        · omega
  by_cases z7_2 : (T 401 (T 103 p 0) 0) = 2
  · refine j_tsI (pc := 6) 2 (off := 63) (tgt := 69) (by decide) ds_X3_isFormed_6 (by omega) (by decide) rfl (by decide) (by decide) ?_
    refine j_blx (F := fX3) tb_X3 (by decide) bk_X3_isFormed_69 bs_X3_isFormed_69 hz (fun K hK => ?_)
    refine And.intro (fun c12 => ?_) (fun c12 => ?_)
    · refine hK 80 [some (vR 103 p), some (vI k), some (vI s), none] [] T ?_
      refine j_blx (F := fX3) tb_X3 (by decide) bk_X3_isFormed_80 bs_X3_isFormed_80 hz (fun K hK => ?_)
      refine hK 85 [some (vR 103 p), some (vI k), some (vI s), none] [vI 1] T ?_
      refine j_blx (F := fX3) tb_X3 (by decide) bk_X3_isFormed_85 bs_X3_isFormed_85 hz (fun K hK => ?_)
      refine hK 105 [some (vR 103 p), some (vI k), some (vI s), some (vI 1)] [] T ?_
      refine c_105 1 ?_
      · omega
    · refine And.intro (fun c13 => ?_) (fun c13 => ?_)
      · refine hK 84 [some (vR 103 p), some (vI k), some (vI s), none] [] T ?_
        refine j_blx (F := fX3) tb_X3 (by decide) bk_X3_isFormed_84 bs_X3_isFormed_84 hz (fun K hK => ?_)
        refine hK 105 [some (vR 103 p), some (vI k), some (vI s), some (vI 0)] [] T ?_
        refine c_105 0 ?_
        · omega
      · refine hK 85 [some (vR 103 p), some (vI k), some (vI s), none] [vI 1] T ?_
        refine j_blx (F := fX3) tb_X3 (by decide) bk_X3_isFormed_85 bs_X3_isFormed_85 hz (fun K hK => ?_)
        refine hK 105 [some (vR 103 p), some (vI k), some (vI s), some (vI 1)] [] T ?_
        refine c_105 1 ?_
        · omega
  refine j_tsO (pc := 6) (tgt := 89) (by decide) ds_X3_isFormed_6 (by omega) (by decide) (by decide) ?_
  refine j_blx (F := fX3) tb_X3 (by decide) bk_X3_isFormed_89 bs_X3_isFormed_89 hz (fun K hK => ?_)
  refine And.intro (fun c14 => ?_) (fun c14 => ?_)
  · refine hK 103 [some (vR 103 p), some (vI k), some (vI s), none] [] T ?_
    refine j_blx (F := fX3) tb_X3 (by decide) bk_X3_isFormed_103 bs_X3_isFormed_103 hz (fun K hK => ?_)
    refine hK 105 [some (vR 103 p), some (vI k), some (vI s), some (vI 0)] [] T ?_
    refine c_105 0 ?_
    · omega
  · refine And.intro (fun c15 => ?_) (fun c15 => ?_)
    · refine hK 103 [some (vR 103 p), some (vI k), some (vI s), none] [] T ?_
      refine j_blx (F := fX3) tb_X3 (by decide) bk_X3_isFormed_103 bs_X3_isFormed_103 hz (fun K hK => ?_)
      refine hK 105 [some (vR 103 p), some (vI k), some (vI s), some (vI 0)] [] T ?_
      refine c_105 0 ?_
      · omega
    · refine hK 104 [some (vR 103 p), some (vI k), some (vI s), none] [vI 1] T ?_
      refine j_blx (F := fX3) tb_X3 (by decide) bk_X3_isFormed_104 bs_X3_isFormed_104 hz (fun K hK => ?_)
      refine hK 105 [some (vR 103 p), some (vI k), some (vI s), some (vI 1)] [] T ?_
      refine c_105 1 ?_
      · omega
abbrev po_X3_needsPerson_k (T : Zt) (p : Int) (k : Int) : Zt → Option Zv → Prop := fun T' r => T = T' ∧ ∃ x : Int, r = some (vI x) ∧ (0 ≤ x ∧ x ≤ 1 ∧ (x = 1 → k ≠ 0))
set_option maxHeartbeats 4000000 in
theorem ct_X3_needsPerson_k {T : Zt} {p : Int} {k : Int} : Ct_ yX3_needsPerson zX3_needsPerson T [vR 103 p, vI k] (po_X3_needsPerson_k T p k) := by
  refine ct_of (by decide) rfl rfl (Nat.le_of_ble_eq_true rfl) (fun hT hav => ?_)
  have hr_k : -2147483648 ≤ k ∧ k ≤ 2147483647 := hav (vI k) (by simp)
  have hz : zX3_needsPerson.2.2.2.1 = some .boolean → ∀ (T' : Zt) (x : Int), po_X3_needsPerson_k T p k T' (some (vI x)) → 0 ≤ x ∧ x ≤ 1 := fun _ T' x h => by obtain ⟨-, y, e, hy⟩ := h; cases e; omega
  show J_ zX3_needsPerson T (po_X3_needsPerson_k T p k) 0 0 0 [some (vR 103 p), some (vI k)] [] T
  refine j_blx (F := fX3) tb_X3 (by decide) bk_X3_needsPerson_0 bs_X3_needsPerson_0 hz (fun K hK => ?_)
  refine And.intro (fun c1 => ?_) (fun c1 => ?_)
  · refine hK 18 [some (vR 103 p), some (vI k)] [] T ?_
    refine j_blx (F := fX3) tb_X3 (by decide) bk_X3_needsPerson_18 bs_X3_needsPerson_18 hz (fun K hK => ?_)
    refine hK 23 [some (vR 103 p), some (vI k)] [vI 1] T ?_
    refine j_blx (F := fX3) tb_X3 (by decide) bk_X3_needsPerson_23 bs_X3_needsPerson_23 hz (fun K hK => ?_)
    refine (show po_X3_needsPerson_k T p k T (some (vI 1)) from ?_)
    exact ⟨rfl, _, rfl, by omega⟩
  · refine ix_i (by omega) ?_
    intro b3 b3b
    refine And.intro (fun c4 => ?_) (fun c4 => ?_)
    · refine hK 22 [some (vR 103 p), some (vI k)] [] T ?_
      refine j_blx (F := fX3) tb_X3 (by decide) bk_X3_needsPerson_22 bs_X3_needsPerson_22 hz (fun K hK => ?_)
      refine (show po_X3_needsPerson_k T p k T (some (vI 0)) from ?_)
      exact ⟨rfl, _, rfl, by omega⟩
    · refine And.intro (fun c5 => ?_) (fun c5 => ?_)
      · refine hK 22 [some (vR 103 p), some (vI k)] [] T ?_
        refine j_blx (F := fX3) tb_X3 (by decide) bk_X3_needsPerson_22 bs_X3_needsPerson_22 hz (fun K hK => ?_)
        refine (show po_X3_needsPerson_k T p k T (some (vI 0)) from ?_)
        exact ⟨rfl, _, rfl, by omega⟩
      · refine hK 23 [some (vR 103 p), some (vI k)] [vI 1] T ?_
        refine j_blx (F := fX3) tb_X3 (by decide) bk_X3_needsPerson_23 bs_X3_needsPerson_23 hz (fun K hK => ?_)
        refine (show po_X3_needsPerson_k T p k T (some (vI 1)) from ?_)
        exact ⟨rfl, _, rfl, by omega⟩
abbrev cX3_brokenLaw : ByteArray := prog_5_method_5_code
def yX3_brokenLaw : MethodName := ⟨RX3, "brokenLaw", "(IIII)I"⟩
def zX3_brokenLaw : Zm := (RX3, cX3_brokenLaw, 5, (some .int), { frames := 2, cells := 0, slots := 0, locals := 45 })
theorem bk_X3_brokenLaw_51 : ck_ fX3 (some .int) cX3_brokenLaw 51 [.iload 1, .iconst 5, .if_icmp .ne 88, .aload 0, .iload 2, .iload 4] 60 = true := qck_r (by decide) (by decide +kernel)
theorem bs_X3_brokenLaw_51 {P : Zt → Option Zv → Prop} (K : Int → Zl → List Zv → Zt → Prop) : sx_ K P [.iload 1, .iconst 5, .if_icmp .ne 88, .aload 0, .iload 2, .iload 4] 60 = x_iload 1 (x_iconst 5 (x_if_icmp .ne 88 K (x_aload 0 (x_iload 2 (x_iload 4 (K 60)))))) := ((xe_iload 1).trans (congrArg (x_iload 1) ((xe_iconst 5).trans (congrArg (x_iconst 5) ((xe_if_icmp .ne 88).trans (congrArg (x_if_icmp .ne 88 K) ((xe_aload 0).trans (congrArg (x_aload 0) ((xe_iload 2).trans (congrArg (x_iload 2) ((xe_iload 4).trans (congrArg (x_iload 4) xe_nil))))))))))))
theorem bk_X3_brokenLaw_88 : ck_ fX3 (some .int) cX3_brokenLaw 88 [.aload 0, .iload 1, .iload 4] 92 = true := qck_r (by decide) (by decide +kernel)
theorem bs_X3_brokenLaw_88 {P : Zt → Option Zv → Prop} (K : Int → Zl → List Zv → Zt → Prop) : sx_ K P [.aload 0, .iload 1, .iload 4] 92 = x_aload 0 (x_iload 1 (x_iload 4 (K 92))) := ((xe_aload 0).trans (congrArg (x_aload 0) ((xe_iload 1).trans (congrArg (x_iload 1) ((xe_iload 4).trans (congrArg (x_iload 4) xe_nil))))))
set_option maxRecDepth 100000 in
theorem cl_X3_86 : cv_ RX3 86 yX3_isBounded zX3_isBounded 3 2 := ⟨gi_V (lw_b5 56 (by decide +kernel) rfl : Cond.methodLink RX3 86 yX3_isBounded ∈ lw_g) (lw_b5 57 (by decide +kernel) rfl : Cond.instanceMethod yX3_isBounded ∈ lw_g) (lw_b5 58 (by decide +kernel) rfl : Cond.selects yX3_isBounded.cls yX3_isBounded yX3_isBounded ∈ lw_g) (lw_b1 18 (by decide +kernel) rfl : Cond.initialized yX3_isBounded.cls ∈ lw_g) (lw_b5 59 rfl rfl : Cond.code yX3_isBounded cX3_isBounded 3 (some .boolean) ∈ lw_g), ⟨by decide, by decide, by decide +kernel⟩, ⟨_, _, rfl⟩⟩
theorem bk_X3_brokenLaw_95 : ck_ fX3 (some .int) cX3_brokenLaw 95 [.ifCond .eq 102, .iconst 0, .goto 104] 102 = true := qck_r (by decide) (by decide +kernel)
theorem bs_X3_brokenLaw_95 {P : Zt → Option Zv → Prop} (K : Int → Zl → List Zv → Zt → Prop) : sx_ K P [.ifCond .eq 102, .iconst 0, .goto 104] 102 = x_ifCond .eq 102 K (x_iconst 0 (x_goto 104 K)) := ((xe_ifCond .eq 102).trans (congrArg (x_ifCond .eq 102 K) ((xe_iconst 0).trans (congrArg (x_iconst 0) (xe_goto 104)))))
theorem bk_X3_brokenLaw_102 : ck_ fX3 (some .int) cX3_brokenLaw 102 [.iconst 7, .ireturn] 105 = true := qck_r (by decide) (by decide +kernel)
theorem bs_X3_brokenLaw_102 {P : Zt → Option Zv → Prop} (K : Int → Zl → List Zv → Zt → Prop) : sx_ K P [.iconst 7, .ireturn] 105 = x_iconst 7 (x_ireturn P) := ((xe_iconst 7).trans (congrArg (x_iconst 7) (xe_ireturn)))
theorem bk_X3_brokenLaw_104 : ck_ fX3 (some .int) cX3_brokenLaw 104 [.ireturn] 105 = true := qck_r (by decide) (by decide +kernel)
theorem bs_X3_brokenLaw_104 {P : Zt → Option Zv → Prop} (K : Int → Zl → List Zv → Zt → Prop) : sx_ K P [.ireturn] 105 = x_ireturn P := (xe_ireturn)
theorem bk_X3_brokenLaw_63 : ck_ fX3 (some .int) cX3_brokenLaw 63 [.iconst (-1), .if_icmp .ne 69, .iconst 5, .ireturn] 69 = true := qck_r (by decide) (by decide +kernel)
theorem bs_X3_brokenLaw_63 {P : Zt → Option Zv → Prop} (K : Int → Zl → List Zv → Zt → Prop) : sx_ K P [.iconst (-1), .if_icmp .ne 69, .iconst 5, .ireturn] 69 = x_iconst (-1) (x_if_icmp .ne 69 K (x_iconst 5 (x_ireturn P))) := ((xe_iconst (-1)).trans (congrArg (x_iconst (-1)) ((xe_if_icmp .ne 69).trans (congrArg (x_if_icmp .ne 69 K) ((xe_iconst 5).trans (congrArg (x_iconst 5) (xe_ireturn)))))))
theorem bk_X3_brokenLaw_69 : ck_ fX3 (some .int) cX3_brokenLaw 69 [.aload 0, .tableswitch 0 3 9 #[], .iload 2, .iaload, .aload 0, .tableswitch 0 3 0 #[], .iconst 10, .iaload, .if_icmp .lt 88, .iconst 6, .ireturn] 88 = true := qck_r (by decide) (by decide +kernel)
theorem bs_X3_brokenLaw_69 {P : Zt → Option Zv → Prop} (K : Int → Zl → List Zv → Zt → Prop) : sx_ K P [.aload 0, .tableswitch 0 3 9 #[], .iload 2, .iaload, .aload 0, .tableswitch 0 3 0 #[], .iconst 10, .iaload, .if_icmp .lt 88, .iconst 6, .ireturn] 88 = x_aload 0 (x_g2 103 469 (x_iload 2 (x_iaload (x_aload 0 (x_g3 103 401 0 (x_iconst 10 (x_iaload (x_if_icmp .lt 88 K (x_iconst 6 (x_ireturn P)))))))))) := ((xe_aload 0).trans (congrArg (x_aload 0) ((xe_g2 (kk := 103) rfl tl_3_9).trans (congrArg (x_g2 103 469) ((xe_iload 2).trans (congrArg (x_iload 2) ((xe_iaload).trans (congrArg (x_iaload) ((xe_aload 0).trans (congrArg (x_aload 0) ((xe_g3 (kk := 103) rfl tl_3_0).trans (congrArg (x_g3 103 401 0) ((xe_iconst 10).trans (congrArg (x_iconst 10) ((xe_iaload).trans (congrArg (x_iaload) ((xe_if_icmp .lt 88).trans (congrArg (x_if_icmp .lt 88 K) ((xe_iconst 6).trans (congrArg (x_iconst 6) (xe_ireturn)))))))))))))))))))))
theorem bk_X3_brokenLaw_0 : ck_ fX3 (some .int) cX3_brokenLaw 0 [.aload 0, .tableswitch 0 3 3 #[], .ifCond .eq 9, .iconst 1, .ireturn] 9 = true := qck_r (by decide) (by decide +kernel)
theorem bs_X3_brokenLaw_0 {P : Zt → Option Zv → Prop} (K : Int → Zl → List Zv → Zt → Prop) : sx_ K P [.aload 0, .tableswitch 0 3 3 #[], .ifCond .eq 9, .iconst 1, .ireturn] 9 = x_aload 0 (x_g0 103 3 0 1 (x_ifCond .eq 9 K (x_iconst 1 (x_ireturn P)))) := ((xe_aload 0).trans (congrArg (x_aload 0) ((xe_g0 (kk := 103) rfl tl_3_3).trans (congrArg (x_g0 103 3 0 1) ((xe_ifCond .eq 9).trans (congrArg (x_ifCond .eq 9 K) ((xe_iconst 1).trans (congrArg (x_iconst 1) (xe_ireturn)))))))))
theorem bk_X3_brokenLaw_9 : ck_ fX3 (some .int) cX3_brokenLaw 9 [.aload 0, .iload 1, .iload 2] 12 = true := qck_r (by decide) (by decide +kernel)
theorem bs_X3_brokenLaw_9 {P : Zt → Option Zv → Prop} (K : Int → Zl → List Zv → Zt → Prop) : sx_ K P [.aload 0, .iload 1, .iload 2] 12 = x_aload 0 (x_iload 1 (x_iload 2 (K 12))) := ((xe_aload 0).trans (congrArg (x_aload 0) ((xe_iload 1).trans (congrArg (x_iload 1) ((xe_iload 2).trans (congrArg (x_iload 2) xe_nil))))))
set_option maxRecDepth 100000 in
theorem cl_X3_68 : cv_ RX3 68 yX3_isFormed zX3_isFormed 3 2 := ⟨gi_V (lw_b5 31 (by decide +kernel) rfl : Cond.methodLink RX3 68 yX3_isFormed ∈ lw_g) (lw_b5 32 (by decide +kernel) rfl : Cond.instanceMethod yX3_isFormed ∈ lw_g) (lw_b5 33 (by decide +kernel) rfl : Cond.selects yX3_isFormed.cls yX3_isFormed yX3_isFormed ∈ lw_g) (lw_b1 18 (by decide +kernel) rfl : Cond.initialized yX3_isFormed.cls ∈ lw_g) (lw_b5 34 rfl rfl : Cond.code yX3_isFormed cX3_isFormed 4 (some .boolean) ∈ lw_g), ⟨by decide, by decide, by decide +kernel⟩, ⟨_, _, rfl⟩⟩
theorem bk_X3_brokenLaw_15 : ck_ fX3 (some .int) cX3_brokenLaw 15 [.ifCond .ne 20, .iconst 2, .ireturn] 20 = true := qck_r (by decide) (by decide +kernel)
theorem bs_X3_brokenLaw_15 {P : Zt → Option Zv → Prop} (K : Int → Zl → List Zv → Zt → Prop) : sx_ K P [.ifCond .ne 20, .iconst 2, .ireturn] 20 = x_ifCond .ne 20 K (x_iconst 2 (x_ireturn P)) := ((xe_ifCond .ne 20).trans (congrArg (x_ifCond .ne 20 K) ((xe_iconst 2).trans (congrArg (x_iconst 2) (xe_ireturn)))))
theorem bk_X3_brokenLaw_20 : ck_ fX3 (some .int) cX3_brokenLaw 20 [.aload 0, .iload 1, .iload 2] 23 = true := qck_r (by decide) (by decide +kernel)
theorem bs_X3_brokenLaw_20 {P : Zt → Option Zv → Prop} (K : Int → Zl → List Zv → Zt → Prop) : sx_ K P [.aload 0, .iload 1, .iload 2] 23 = x_aload 0 (x_iload 1 (x_iload 2 (K 23))) := ((xe_aload 0).trans (congrArg (x_aload 0) ((xe_iload 1).trans (congrArg (x_iload 1) ((xe_iload 2).trans (congrArg (x_iload 2) xe_nil))))))
set_option maxRecDepth 100000 in
theorem cl_X3_72 : cv_ RX3 72 yX3_isAllowed zX3_isAllowed 3 2 := ⟨gi_V (lw_b5 36 (by decide +kernel) rfl : Cond.methodLink RX3 72 yX3_isAllowed ∈ lw_g) (lw_b5 38 (by decide +kernel) rfl : Cond.instanceMethod yX3_isAllowed ∈ lw_g) (lw_sel 90 rfl : Cond.selects yX3_isAllowed.cls yX3_isAllowed yX3_isAllowed ∈ lw_g) (lw_b1 18 (by decide +kernel) rfl : Cond.initialized yX3_isAllowed.cls ∈ lw_g) (lw_b5 39 rfl rfl : Cond.code yX3_isAllowed cX3_isAllowed 3 (some .boolean) ∈ lw_g), ⟨by decide, by decide, by decide +kernel⟩, ⟨_, _, rfl⟩⟩
theorem bk_X3_brokenLaw_26 : ck_ fX3 (some .int) cX3_brokenLaw 26 [.ifCond .ne 31, .iconst 3, .ireturn] 31 = true := qck_r (by decide) (by decide +kernel)
theorem bs_X3_brokenLaw_26 {P : Zt → Option Zv → Prop} (K : Int → Zl → List Zv → Zt → Prop) : sx_ K P [.ifCond .ne 31, .iconst 3, .ireturn] 31 = x_ifCond .ne 31 K (x_iconst 3 (x_ireturn P)) := ((xe_ifCond .ne 31).trans (congrArg (x_ifCond .ne 31 K) ((xe_iconst 3).trans (congrArg (x_iconst 3) (xe_ireturn)))))
theorem bk_X3_brokenLaw_31 : ck_ fX3 (some .int) cX3_brokenLaw 31 [.aload 0, .iload 1] 33 = true := qck_r (by decide) (by decide +kernel)
theorem bs_X3_brokenLaw_31 {P : Zt → Option Zv → Prop} (K : Int → Zl → List Zv → Zt → Prop) : sx_ K P [.aload 0, .iload 1] 33 = x_aload 0 (x_iload 1 (K 33)) := ((xe_aload 0).trans (congrArg (x_aload 0) ((xe_iload 1).trans (congrArg (x_iload 1) xe_nil))))
set_option maxRecDepth 100000 in
theorem cl_X3_75 : cv_ RX3 75 yX3_needsPerson zX3_needsPerson 3 1 := ⟨gi_V (lw_b5 40 (by decide +kernel) rfl : Cond.methodLink RX3 75 yX3_needsPerson ∈ lw_g) (lw_b5 42 (by decide +kernel) rfl : Cond.instanceMethod yX3_needsPerson ∈ lw_g) (lw_sel 92 rfl : Cond.selects yX3_needsPerson.cls yX3_needsPerson yX3_needsPerson ∈ lw_g) (lw_b1 18 (by decide +kernel) rfl : Cond.initialized yX3_needsPerson.cls ∈ lw_g) (lw_b5 43 rfl rfl : Cond.code yX3_needsPerson cX3_needsPerson 2 (some .boolean) ∈ lw_g), ⟨by decide, by decide, by decide +kernel⟩, ⟨_, _, rfl⟩⟩
theorem bk_X3_brokenLaw_36 : ck_ fX3 (some .int) cX3_brokenLaw 36 [.ifCond .eq 51, .aload 0, .iload 2, .iload 3] 42 = true := qck_r (by decide) (by decide +kernel)
theorem bs_X3_brokenLaw_36 {P : Zt → Option Zv → Prop} (K : Int → Zl → List Zv → Zt → Prop) : sx_ K P [.ifCond .eq 51, .aload 0, .iload 2, .iload 3] 42 = x_ifCond .eq 51 K (x_aload 0 (x_iload 2 (x_iload 3 (K 42)))) := ((xe_ifCond .eq 51).trans (congrArg (x_ifCond .eq 51 K) ((xe_aload 0).trans (congrArg (x_aload 0) ((xe_iload 2).trans (congrArg (x_iload 2) ((xe_iload 3).trans (congrArg (x_iload 3) xe_nil))))))))
theorem bk_X3_brokenLaw_45 : ck_ fX3 (some .int) cX3_brokenLaw 45 [.iconst (-1), .if_icmp .ne 51, .iconst 4, .ireturn] 51 = true := qck_r (by decide) (by decide +kernel)
theorem bs_X3_brokenLaw_45 {P : Zt → Option Zv → Prop} (K : Int → Zl → List Zv → Zt → Prop) : sx_ K P [.iconst (-1), .if_icmp .ne 51, .iconst 4, .ireturn] 51 = x_iconst (-1) (x_if_icmp .ne 51 K (x_iconst 4 (x_ireturn P))) := ((xe_iconst (-1)).trans (congrArg (x_iconst (-1)) ((xe_if_icmp .ne 51).trans (congrArg (x_if_icmp .ne 51 K) ((xe_iconst 4).trans (congrArg (x_iconst 4) (xe_ireturn)))))))
