abbrev cX3_isFormed : ByteArray := prog_5_method_6_code
def yX3_isFormed : MethodName := ⟨RX3, "isFormed", "(II)Z"⟩
def zX3_isFormed : Zm := (RX3, cX3_isFormed, 4, (some .boolean), { frames := 1, cells := 0, slots := 0, locals := 20 })
theorem bk_X3_isFormed_105 : ck_ fX3 (some .boolean) cX3_isFormed 105 [.iload 3, .ifCond .eq 124, .iload 1, .ifCond .eq 120, .iload 2] 114 = true := qck_r (nn_ _) (by decide +kernel)
theorem bs_X3_isFormed_105 {P : Zt → Option Zv → Prop} (K : Int → Zl → List Zv → Zt → Prop) : sx_ K P [.iload 3, .ifCond .eq 124, .iload 1, .ifCond .eq 120, .iload 2] 114 = x_iload 3 (x_ifCond .eq 124 K (x_iload 1 (x_ifCond .eq 120 K (x_iload 2 (K 114))))) := ((xe_iload 3).trans (congrArg (x_iload 3) ((xe_ifCond .eq 124).trans (congrArg (x_ifCond .eq 124 K) ((xe_iload 1).trans (congrArg (x_iload 1) ((xe_ifCond .eq 120).trans (congrArg (x_ifCond .eq 120 K) ((xe_iload 2).trans (congrArg (x_iload 2) xe_nil))))))))))
theorem bk_X3_isFormed_124 : ck_ fX3 (some .boolean) cX3_isFormed 124 [.iconst 0, .ireturn] 126 = true := qck_r (nn_ _) (by decide +kernel)
theorem bs_X3_isFormed_124 {P : Zt → Option Zv → Prop} (K : Int → Zl → List Zv → Zt → Prop) : sx_ K P [.iconst 0, .ireturn] 126 = x_iconst 0 (x_ireturn P) := ((xe_iconst 0).trans (congrArg (x_iconst 0) (xe_ireturn)))
theorem bk_X3_isFormed_120 : ck_ fX3 (some .boolean) cX3_isFormed 120 [.iconst 1, .goto 125] 124 = true := qck_r (nn_ _) (by decide +kernel)
theorem bs_X3_isFormed_120 {P : Zt → Option Zv → Prop} (K : Int → Zl → List Zv → Zt → Prop) : sx_ K P [.iconst 1, .goto 125] 124 = x_iconst 1 (x_goto 125 K) := ((xe_iconst 1).trans (congrArg (x_iconst 1) (xe_goto 125)))
theorem bk_X3_isFormed_125 : ck_ fX3 (some .boolean) cX3_isFormed 125 [.ireturn] 126 = true := qck_r (nn_ _) (by decide +kernel)
theorem bs_X3_isFormed_125 {P : Zt → Option Zv → Prop} (K : Int → Zl → List Zv → Zt → Prop) : sx_ K P [.ireturn] 126 = x_ireturn P := (xe_ireturn)
set_option maxRecDepth 100000 in
theorem cn_X3_89 : cn_ zX10_isSide 1 := ⟨gi_c (lw_b4 137 rfl rfl : Cond.code yX10_isSide cX10_isSide 1 (some .boolean) ∈ lw_g), (lw_b4 136 (by decide +kernel) rfl : Cond.static yX10_isSide ∈ lw_g), (lw_b1 1 (by decide +kernel) rfl : Cond.initialized "SportsHouse" ∈ lw_g), ⟨by decide, by decide, by decide +kernel⟩⟩
theorem bk_X3_isFormed_117 : ck_ fX3 (some .boolean) cX3_isFormed 117 [.ifCond .eq 124, .iconst 1, .goto 125] 124 = true := qck_r (nn_ _) (by decide +kernel)
theorem bs_X3_isFormed_117 {P : Zt → Option Zv → Prop} (K : Int → Zl → List Zv → Zt → Prop) : sx_ K P [.ifCond .eq 124, .iconst 1, .goto 125] 124 = x_ifCond .eq 124 K (x_iconst 1 (x_goto 125 K)) := ((xe_ifCond .eq 124).trans (congrArg (x_ifCond .eq 124 K) ((xe_iconst 1).trans (congrArg (x_iconst 1) (xe_goto 125)))))
theorem bk_X3_isFormed_0 : ck_ fX3 (some .boolean) cX3_isFormed 0 [.aload 0, .tableswitch 0 3 0 #[], .iconst 0, .iaload] 6 = true := qck_r (nn_ _) (by decide +kernel)
theorem bs_X3_isFormed_0 {P : Zt → Option Zv → Prop} (K : Int → Zl → List Zv → Zt → Prop) : sx_ K P [.aload 0, .tableswitch 0 3 0 #[], .iconst 0, .iaload] 6 = x_aload 0 (x_g3 103 401 0 (x_iconst 0 (x_iaload (K 6)))) := ((xe_aload 0).trans (congrArg (x_aload 0) ((xe_g3 (kk := 103) rfl tl_3_0).trans (congrArg (x_g3 103 401 0) ((xe_iconst 0).trans (congrArg (x_iconst 0) ((xe_iaload).trans (congrArg (x_iaload) xe_nil))))))))
theorem ds_X3_isFormed_6 : decode cX3_isFormed 6 = .ok (.tableswitch 83 0 2 #[26, 44, 63], 26) := by decide +kernel
theorem bk_X3_isFormed_32 : ck_ fX3 (some .boolean) cX3_isFormed 32 [.iload 1, .ifCond .lt 45, .iload 1, .iconst 5, .if_icmp .gt 45, .iconst 1, .goto 46] 45 = true := qck_r (nn_ _) (by decide +kernel)
theorem bs_X3_isFormed_32 {P : Zt → Option Zv → Prop} (K : Int → Zl → List Zv → Zt → Prop) : sx_ K P [.iload 1, .ifCond .lt 45, .iload 1, .iconst 5, .if_icmp .gt 45, .iconst 1, .goto 46] 45 = x_iload 1 (x_ifCond .lt 45 K (x_iload 1 (x_iconst 5 (x_if_icmp .gt 45 K (x_iconst 1 (x_goto 46 K)))))) := ((xe_iload 1).trans (congrArg (x_iload 1) ((xe_ifCond .lt 45).trans (congrArg (x_ifCond .lt 45 K) ((xe_iload 1).trans (congrArg (x_iload 1) ((xe_iconst 5).trans (congrArg (x_iconst 5) ((xe_if_icmp .gt 45).trans (congrArg (x_if_icmp .gt 45 K) ((xe_iconst 1).trans (congrArg (x_iconst 1) (xe_goto 46)))))))))))))
theorem bk_X3_isFormed_45 : ck_ fX3 (some .boolean) cX3_isFormed 45 [.iconst 0, .istore 3, .goto 105] 50 = true := qck_r (nn_ _) (by decide +kernel)
theorem bs_X3_isFormed_45 {P : Zt → Option Zv → Prop} (K : Int → Zl → List Zv → Zt → Prop) : sx_ K P [.iconst 0, .istore 3, .goto 105] 50 = x_iconst 0 (x_istore 3 (x_goto 105 K)) := ((xe_iconst 0).trans (congrArg (x_iconst 0) ((xe_istore 3).trans (congrArg (x_istore 3) (xe_goto 105)))))
theorem bk_X3_isFormed_46 : ck_ fX3 (some .boolean) cX3_isFormed 46 [.istore 3, .goto 105] 50 = true := qck_r (nn_ _) (by decide +kernel)
theorem bs_X3_isFormed_46 {P : Zt → Option Zv → Prop} (K : Int → Zl → List Zv → Zt → Prop) : sx_ K P [.istore 3, .goto 105] 50 = x_istore 3 (x_goto 105 K) := ((xe_istore 3).trans (congrArg (x_istore 3) (xe_goto 105)))
theorem bk_X3_isFormed_50 : ck_ fX3 (some .boolean) cX3_isFormed 50 [.iload 1, .iconst 1, .if_icmp .eq 60, .iload 1, .iconst 5, .if_icmp .ne 64, .iconst 1, .goto 65] 64 = true := qck_r (nn_ _) (by decide +kernel)
theorem bs_X3_isFormed_50 {P : Zt → Option Zv → Prop} (K : Int → Zl → List Zv → Zt → Prop) : sx_ K P [.iload 1, .iconst 1, .if_icmp .eq 60, .iload 1, .iconst 5, .if_icmp .ne 64, .iconst 1, .goto 65] 64 = x_iload 1 (x_iconst 1 (x_if_icmp .eq 60 K (x_iload 1 (x_iconst 5 (x_if_icmp .ne 64 K (x_iconst 1 (x_goto 65 K))))))) := ((xe_iload 1).trans (congrArg (x_iload 1) ((xe_iconst 1).trans (congrArg (x_iconst 1) ((xe_if_icmp .eq 60).trans (congrArg (x_if_icmp .eq 60 K) ((xe_iload 1).trans (congrArg (x_iload 1) ((xe_iconst 5).trans (congrArg (x_iconst 5) ((xe_if_icmp .ne 64).trans (congrArg (x_if_icmp .ne 64 K) ((xe_iconst 1).trans (congrArg (x_iconst 1) (xe_goto 65)))))))))))))))
theorem bk_X3_isFormed_60 : ck_ fX3 (some .boolean) cX3_isFormed 60 [.iconst 1, .goto 65] 64 = true := qck_r (nn_ _) (by decide +kernel)
theorem bs_X3_isFormed_60 {P : Zt → Option Zv → Prop} (K : Int → Zl → List Zv → Zt → Prop) : sx_ K P [.iconst 1, .goto 65] 64 = x_iconst 1 (x_goto 65 K) := ((xe_iconst 1).trans (congrArg (x_iconst 1) (xe_goto 65)))
theorem bk_X3_isFormed_65 : ck_ fX3 (some .boolean) cX3_isFormed 65 [.istore 3, .goto 105] 69 = true := qck_r (nn_ _) (by decide +kernel)
theorem bs_X3_isFormed_65 {P : Zt → Option Zv → Prop} (K : Int → Zl → List Zv → Zt → Prop) : sx_ K P [.istore 3, .goto 105] 69 = x_istore 3 (x_goto 105 K) := ((xe_istore 3).trans (congrArg (x_istore 3) (xe_goto 105)))
theorem bk_X3_isFormed_64 : ck_ fX3 (some .boolean) cX3_isFormed 64 [.iconst 0, .istore 3, .goto 105] 69 = true := qck_r (nn_ _) (by decide +kernel)
theorem bs_X3_isFormed_64 {P : Zt → Option Zv → Prop} (K : Int → Zl → List Zv → Zt → Prop) : sx_ K P [.iconst 0, .istore 3, .goto 105] 69 = x_iconst 0 (x_istore 3 (x_goto 105 K)) := ((xe_iconst 0).trans (congrArg (x_iconst 0) ((xe_istore 3).trans (congrArg (x_istore 3) (xe_goto 105)))))
theorem bk_X3_isFormed_69 : ck_ fX3 (some .boolean) cX3_isFormed 69 [.iload 1, .iconst 1, .if_icmp .eq 80, .iload 1, .iconst 6, .if_icmp .ne 84, .iconst 1, .goto 85] 84 = true := qck_r (nn_ _) (by decide +kernel)
theorem bs_X3_isFormed_69 {P : Zt → Option Zv → Prop} (K : Int → Zl → List Zv → Zt → Prop) : sx_ K P [.iload 1, .iconst 1, .if_icmp .eq 80, .iload 1, .iconst 6, .if_icmp .ne 84, .iconst 1, .goto 85] 84 = x_iload 1 (x_iconst 1 (x_if_icmp .eq 80 K (x_iload 1 (x_iconst 6 (x_if_icmp .ne 84 K (x_iconst 1 (x_goto 85 K))))))) := ((xe_iload 1).trans (congrArg (x_iload 1) ((xe_iconst 1).trans (congrArg (x_iconst 1) ((xe_if_icmp .eq 80).trans (congrArg (x_if_icmp .eq 80 K) ((xe_iload 1).trans (congrArg (x_iload 1) ((xe_iconst 6).trans (congrArg (x_iconst 6) ((xe_if_icmp .ne 84).trans (congrArg (x_if_icmp .ne 84 K) ((xe_iconst 1).trans (congrArg (x_iconst 1) (xe_goto 85)))))))))))))))
theorem bk_X3_isFormed_80 : ck_ fX3 (some .boolean) cX3_isFormed 80 [.iconst 1, .goto 85] 84 = true := qck_r (nn_ _) (by decide +kernel)
theorem bs_X3_isFormed_80 {P : Zt → Option Zv → Prop} (K : Int → Zl → List Zv → Zt → Prop) : sx_ K P [.iconst 1, .goto 85] 84 = x_iconst 1 (x_goto 85 K) := ((xe_iconst 1).trans (congrArg (x_iconst 1) (xe_goto 85)))
theorem bk_X3_isFormed_85 : ck_ fX3 (some .boolean) cX3_isFormed 85 [.istore 3, .goto 105] 89 = true := qck_r (nn_ _) (by decide +kernel)
theorem bs_X3_isFormed_85 {P : Zt → Option Zv → Prop} (K : Int → Zl → List Zv → Zt → Prop) : sx_ K P [.istore 3, .goto 105] 89 = x_istore 3 (x_goto 105 K) := ((xe_istore 3).trans (congrArg (x_istore 3) (xe_goto 105)))
theorem bk_X3_isFormed_84 : ck_ fX3 (some .boolean) cX3_isFormed 84 [.iconst 0, .istore 3, .goto 105] 89 = true := qck_r (nn_ _) (by decide +kernel)
theorem bs_X3_isFormed_84 {P : Zt → Option Zv → Prop} (K : Int → Zl → List Zv → Zt → Prop) : sx_ K P [.iconst 0, .istore 3, .goto 105] 89 = x_iconst 0 (x_istore 3 (x_goto 105 K)) := ((xe_iconst 0).trans (congrArg (x_iconst 0) ((xe_istore 3).trans (congrArg (x_istore 3) (xe_goto 105)))))
theorem bk_X3_isFormed_89 : ck_ fX3 (some .boolean) cX3_isFormed 89 [.iload 1, .iconst 1, .if_icmp .lt 103, .iload 1, .iconst 4, .if_icmp .gt 103, .iconst 1, .goto 104] 103 = true := qck_r (nn_ _) (by decide +kernel)
theorem bs_X3_isFormed_89 {P : Zt → Option Zv → Prop} (K : Int → Zl → List Zv → Zt → Prop) : sx_ K P [.iload 1, .iconst 1, .if_icmp .lt 103, .iload 1, .iconst 4, .if_icmp .gt 103, .iconst 1, .goto 104] 103 = x_iload 1 (x_iconst 1 (x_if_icmp .lt 103 K (x_iload 1 (x_iconst 4 (x_if_icmp .gt 103 K (x_iconst 1 (x_goto 104 K))))))) := ((xe_iload 1).trans (congrArg (x_iload 1) ((xe_iconst 1).trans (congrArg (x_iconst 1) ((xe_if_icmp .lt 103).trans (congrArg (x_if_icmp .lt 103 K) ((xe_iload 1).trans (congrArg (x_iload 1) ((xe_iconst 4).trans (congrArg (x_iconst 4) ((xe_if_icmp .gt 103).trans (congrArg (x_if_icmp .gt 103 K) ((xe_iconst 1).trans (congrArg (x_iconst 1) (xe_goto 104)))))))))))))))
theorem bk_X3_isFormed_103 : ck_ fX3 (some .boolean) cX3_isFormed 103 [.iconst 0, .istore 3] 105 = true := qck_r (nn_ _) (by decide +kernel)
theorem bs_X3_isFormed_103 {P : Zt → Option Zv → Prop} (K : Int → Zl → List Zv → Zt → Prop) : sx_ K P [.iconst 0, .istore 3] 105 = x_iconst 0 (x_istore 3 (K 105)) := ((xe_iconst 0).trans (congrArg (x_iconst 0) ((xe_istore 3).trans (congrArg (x_istore 3) xe_nil))))
theorem bk_X3_isFormed_104 : ck_ fX3 (some .boolean) cX3_isFormed 104 [.istore 3] 105 = true := qck_r (nn_ _) (by decide +kernel)
theorem bs_X3_isFormed_104 {P : Zt → Option Zv → Prop} (K : Int → Zl → List Zv → Zt → Prop) : sx_ K P [.istore 3] 105 = x_istore 3 (K 105) := ((xe_istore 3).trans (congrArg (x_istore 3) xe_nil))
abbrev po_X3_isFormed (T : Zt) (p : Int) (k s : Int) : Zt → Option Zv → Prop := fun T' r => T = T' ∧ ∃ x : Int, r = some (vI x) ∧ (0 ≤ x ∧ x ≤ 1 ∧ (x = 1 → (k = 0 ∨ (0 ≤ s ∧ s ≤ 1)) ∧ ((T 401 (T 103 p 0) 0 = 0 ∧ 0 ≤ k ∧ k ≤ 5) ∨ (T 401 (T 103 p 0) 0 = 1 ∧ (k = 1 ∨ k = 5)) ∨ (T 401 (T 103 p 0) 0 = 2 ∧ (k = 1 ∨ k = 6)) ∨ (¬ T 401 (T 103 p 0) 0 = 0 ∧ ¬ T 401 (T 103 p 0) 0 = 1 ∧ ¬ T 401 (T 103 p 0) 0 = 2 ∧ 1 ≤ k ∧ k ≤ 4))))
set_option maxHeartbeats 4000000 in
theorem ct_X3_isFormed {T : Zt} {p : Int} {k s : Int} : Ct_ yX3_isFormed zX3_isFormed T [vR 103 p, vI k, vI s] (po_X3_isFormed T p k s) := by
  refine ct_of pn_3 rfl rfl (Nat.le_of_ble_eq_true rfl) (fun hT hav => ?_)
  have hr_k : -2147483648 ≤ k ∧ k ≤ 2147483647 := hav (vI k) (by simp)
  have hr_s : -2147483648 ≤ s ∧ s ≤ 2147483647 := hav (vI s) (by simp)
  have hz : zX3_isFormed.2.2.2.1 = some .boolean → ∀ (T' : Zt) (x : Int), po_X3_isFormed T p k s T' (some (vI x)) → 0 ≤ x ∧ x ≤ 1 := fun _ T' x h => by obtain ⟨-, y, e, hy⟩ := h; cases e; omega
  show J_ zX3_isFormed T (po_X3_isFormed T p k s) 0 0 0 [some (vR 103 p), some (vI k), some (vI s), none] [] T
  have c_105 : ∀ (v : Int), (0 ≤ v ∧ v ≤ 1 ∧ (v = 1 → (T 401 (T 103 p 0) 0 = 0 ∧ 0 ≤ k ∧ k ≤ 5) ∨ (T 401 (T 103 p 0) 0 = 1 ∧ (k = 1 ∨ k = 5)) ∨ (T 401 (T 103 p 0) 0 = 2 ∧ (k = 1 ∨ k = 6)) ∨ (¬ T 401 (T 103 p 0) 0 = 0 ∧ ¬ T 401 (T 103 p 0) 0 = 1 ∧ ¬ T 401 (T 103 p 0) 0 = 2 ∧ 1 ≤ k ∧ k ≤ 4))) → J_ zX3_isFormed T (po_X3_isFormed T p k s) 0 0 105 [some (vR 103 p), some (vI k), some (vI s), some (vI v)] [] T := by
    intro v i1
    refine j_blx (F := fX3) tb_X3 (nn_ _) bk_X3_isFormed_105 bs_X3_isFormed_105 hz (fun K hK => ?_)
    refine And.intro (fun c1 => ?_) (fun c1 => ?_)
    · refine hK 124 _ [] T ?_
      refine j_blx (F := fX3) tb_X3 (nn_ _) bk_X3_isFormed_124 bs_X3_isFormed_124 hz (fun K hK => ?_)
      refine (show po_X3_isFormed T p k s T (some (vI 0)) from ?_)
      exact ⟨rfl, _, rfl, by omega⟩
    · refine And.intro (fun c2 => ?_) (fun c2 => ?_)
      · refine hK 120 _ [] T ?_
        refine j_blx (F := fX3) tb_X3 (nn_ _) bk_X3_isFormed_120 bs_X3_isFormed_120 hz (fun K hK => ?_)
        refine hK 125 _ [vI 1] T ?_
        refine j_blx (F := fX3) tb_X3 (nn_ _) bk_X3_isFormed_125 bs_X3_isFormed_125 hz (fun K hK => ?_)
        refine (show po_X3_isFormed T p k s T (some (vI 1)) from ?_)
        exact ⟨rfl, _, rfl, by omega⟩
      · refine hK 114 _ [vI s] T ?_
        refine j_callN (Yc := zX10_isSide) (rest := []) [vI s] rfl (ct_X10_isSide (T := T)) cn_X3_89 (qd_c (by decide +kernel)) (nn_ _) rfl (rf_of rfl) (Nat.le_of_ble_eq_true rfl) (Nat.le_of_ble_eq_true rfl) (Nat.le_of_ble_eq_true rfl) rfl ?_
        rintro _ _ ⟨rfl, x3, rfl, hx3⟩
        show J_ zX3_isFormed T (po_X3_isFormed T p k s) 0 0 117 _ [vI x3] T
        refine j_blx (F := fX3) tb_X3 (nn_ _) bk_X3_isFormed_117 bs_X3_isFormed_117 hz (fun K hK => ?_)
        refine And.intro (fun c4 => ?_) (fun c4 => ?_)
        · refine hK 124 _ [] T ?_
          refine j_blx (F := fX3) tb_X3 (nn_ _) bk_X3_isFormed_124 bs_X3_isFormed_124 hz (fun K hK => ?_)
          refine (show po_X3_isFormed T p k s T (some (vI 0)) from ?_)
          exact ⟨rfl, _, rfl, by omega⟩
        · refine hK 125 _ [vI 1] T ?_
          refine j_blx (F := fX3) tb_X3 (nn_ _) bk_X3_isFormed_125 bs_X3_isFormed_125 hz (fun K hK => ?_)
          refine (show po_X3_isFormed T p k s T (some (vI 1)) from ?_)
          exact ⟨rfl, _, rfl, by omega⟩
  refine j_blx (F := fX3) tb_X3 (nn_ _) bk_X3_isFormed_0 bs_X3_isFormed_0 hz (fun K hK => ?_)
  refine ix_i (by omega) ?_
  intro b6 b6b
  refine hK 6 _ [vI (T 401 (T 103 p 0) 0)] T ?_
  by_cases z7_0 : (T 401 (T 103 p 0) 0) = 0
  · refine j_tsI (pc := 6) 0 (off := 26) (tgt := 32) (by decide) ds_X3_isFormed_6 (by omega) (by decide) rfl (by decide) (by decide) ?_
    refine j_blx (F := fX3) tb_X3 (nn_ _) bk_X3_isFormed_32 bs_X3_isFormed_32 hz (fun K hK => ?_)
    refine And.intro (fun c8 => ?_) (fun c8 => ?_)
    · refine hK 45 _ [] T ?_
      refine j_blx (F := fX3) tb_X3 (nn_ _) bk_X3_isFormed_45 bs_X3_isFormed_45 hz (fun K hK => ?_)
      refine hK 105 [some (vR 103 p), some (vI k), some (vI s), some (vI 0)] [] T ?_
      refine c_105 0 ?_
      · omega
    · refine And.intro (fun c9 => ?_) (fun c9 => ?_)
      · refine hK 45 [some (vR 103 p), some (vI k), some (vI s), none] [] T ?_
        refine j_blx (F := fX3) tb_X3 (nn_ _) bk_X3_isFormed_45 bs_X3_isFormed_45 hz (fun K hK => ?_)
        refine hK 105 [some (vR 103 p), some (vI k), some (vI s), some (vI 0)] [] T ?_
        refine c_105 0 ?_
        · omega
      · refine hK 46 [some (vR 103 p), some (vI k), some (vI s), none] [vI 1] T ?_
        refine j_blx (F := fX3) tb_X3 (nn_ _) bk_X3_isFormed_46 bs_X3_isFormed_46 hz (fun K hK => ?_)
        refine hK 105 [some (vR 103 p), some (vI k), some (vI s), some (vI 1)] [] T ?_
        refine c_105 1 ?_
        · omega
  by_cases z7_1 : (T 401 (T 103 p 0) 0) = 1
  · refine j_tsI (pc := 6) 1 (off := 44) (tgt := 50) (by decide) ds_X3_isFormed_6 (by omega) (by decide) rfl (by decide) (by decide) ?_
    refine j_blx (F := fX3) tb_X3 (nn_ _) bk_X3_isFormed_50 bs_X3_isFormed_50 hz (fun K hK => ?_)
    refine And.intro (fun c10 => ?_) (fun c10 => ?_)
    · refine hK 60 _ [] T ?_
      refine j_blx (F := fX3) tb_X3 (nn_ _) bk_X3_isFormed_60 bs_X3_isFormed_60 hz (fun K hK => ?_)
      refine hK 65 _ [vI 1] T ?_
      refine j_blx (F := fX3) tb_X3 (nn_ _) bk_X3_isFormed_65 bs_X3_isFormed_65 hz (fun K hK => ?_)
      refine hK 105 [some (vR 103 p), some (vI k), some (vI s), some (vI 1)] [] T ?_
      refine c_105 1 ?_
      · omega
    · refine And.intro (fun c11 => ?_) (fun c11 => ?_)
      · refine hK 64 [some (vR 103 p), some (vI k), some (vI s), none] [] T ?_
        refine j_blx (F := fX3) tb_X3 (nn_ _) bk_X3_isFormed_64 bs_X3_isFormed_64 hz (fun K hK => ?_)
        refine hK 105 [some (vR 103 p), some (vI k), some (vI s), some (vI 0)] [] T ?_
        refine c_105 0 ?_
        · omega
      · refine hK 65 [some (vR 103 p), some (vI k), some (vI s), none] [vI 1] T ?_
        refine j_blx (F := fX3) tb_X3 (nn_ _) bk_X3_isFormed_65 bs_X3_isFormed_65 hz (fun K hK => ?_)
        refine hK 105 [some (vR 103 p), some (vI k), some (vI s), some (vI 1)] [] T ?_
        refine c_105 1 ?_
        · omega
  by_cases z7_2 : (T 401 (T 103 p 0) 0) = 2
  · refine j_tsI (pc := 6) 2 (off := 63) (tgt := 69) (by decide) ds_X3_isFormed_6 (by omega) (by decide) rfl (by decide) (by decide) ?_
    refine j_blx (F := fX3) tb_X3 (nn_ _) bk_X3_isFormed_69 bs_X3_isFormed_69 hz (fun K hK => ?_)
    refine And.intro (fun c12 => ?_) (fun c12 => ?_)
    · refine hK 80 _ [] T ?_
      refine j_blx (F := fX3) tb_X3 (nn_ _) bk_X3_isFormed_80 bs_X3_isFormed_80 hz (fun K hK => ?_)
      refine hK 85 _ [vI 1] T ?_
      refine j_blx (F := fX3) tb_X3 (nn_ _) bk_X3_isFormed_85 bs_X3_isFormed_85 hz (fun K hK => ?_)
      refine hK 105 [some (vR 103 p), some (vI k), some (vI s), some (vI 1)] [] T ?_
      refine c_105 1 ?_
      · omega
    · refine And.intro (fun c13 => ?_) (fun c13 => ?_)
      · refine hK 84 [some (vR 103 p), some (vI k), some (vI s), none] [] T ?_
        refine j_blx (F := fX3) tb_X3 (nn_ _) bk_X3_isFormed_84 bs_X3_isFormed_84 hz (fun K hK => ?_)
        refine hK 105 [some (vR 103 p), some (vI k), some (vI s), some (vI 0)] [] T ?_
        refine c_105 0 ?_
        · omega
      · refine hK 85 [some (vR 103 p), some (vI k), some (vI s), none] [vI 1] T ?_
        refine j_blx (F := fX3) tb_X3 (nn_ _) bk_X3_isFormed_85 bs_X3_isFormed_85 hz (fun K hK => ?_)
        refine hK 105 [some (vR 103 p), some (vI k), some (vI s), some (vI 1)] [] T ?_
        refine c_105 1 ?_
        · omega
  refine j_tsO (pc := 6) (tgt := 89) (by decide) ds_X3_isFormed_6 (by omega) (by decide) (by decide) ?_
  refine j_blx (F := fX3) tb_X3 (nn_ _) bk_X3_isFormed_89 bs_X3_isFormed_89 hz (fun K hK => ?_)
  refine And.intro (fun c14 => ?_) (fun c14 => ?_)
  · refine hK 103 _ [] T ?_
    refine j_blx (F := fX3) tb_X3 (nn_ _) bk_X3_isFormed_103 bs_X3_isFormed_103 hz (fun K hK => ?_)
    refine hK 105 [some (vR 103 p), some (vI k), some (vI s), some (vI 0)] [] T ?_
    refine c_105 0 ?_
    · omega
  · refine And.intro (fun c15 => ?_) (fun c15 => ?_)
    · refine hK 103 [some (vR 103 p), some (vI k), some (vI s), none] [] T ?_
      refine j_blx (F := fX3) tb_X3 (nn_ _) bk_X3_isFormed_103 bs_X3_isFormed_103 hz (fun K hK => ?_)
      refine hK 105 [some (vR 103 p), some (vI k), some (vI s), some (vI 0)] [] T ?_
      refine c_105 0 ?_
      · omega
    · refine hK 104 [some (vR 103 p), some (vI k), some (vI s), none] [vI 1] T ?_
      refine j_blx (F := fX3) tb_X3 (nn_ _) bk_X3_isFormed_104 bs_X3_isFormed_104 hz (fun K hK => ?_)
      refine hK 105 [some (vR 103 p), some (vI k), some (vI s), some (vI 1)] [] T ?_
      refine c_105 1 ?_
      · omega
abbrev po_X3_needsPerson_k (T : Zt) (p : Int) (k : Int) : Zt → Option Zv → Prop := fun T' r => T = T' ∧ ∃ x : Int, r = some (vI x) ∧ (0 ≤ x ∧ x ≤ 1 ∧ (x = 1 → k ≠ 0))
set_option maxHeartbeats 4000000 in
theorem ct_X3_needsPerson_k {T : Zt} {p : Int} {k : Int} : Ct_ yX3_needsPerson zX3_needsPerson T [vR 103 p, vI k] (po_X3_needsPerson_k T p k) := by
  refine ct_of pn_3 rfl rfl (Nat.le_of_ble_eq_true rfl) (fun hT hav => ?_)
  have hr_k : -2147483648 ≤ k ∧ k ≤ 2147483647 := hav (vI k) (by simp)
  have hz : zX3_needsPerson.2.2.2.1 = some .boolean → ∀ (T' : Zt) (x : Int), po_X3_needsPerson_k T p k T' (some (vI x)) → 0 ≤ x ∧ x ≤ 1 := fun _ T' x h => by obtain ⟨-, y, e, hy⟩ := h; cases e; omega
  show J_ zX3_needsPerson T (po_X3_needsPerson_k T p k) 0 0 0 [some (vR 103 p), some (vI k)] [] T
  refine j_blx (F := fX3) tb_X3 (nn_ _) bk_X3_needsPerson_0 bs_X3_needsPerson_0 hz (fun K hK => ?_)
  refine And.intro (fun c1 => ?_) (fun c1 => ?_)
  · refine hK 18 _ [] T ?_
    refine j_blx (F := fX3) tb_X3 (nn_ _) bk_X3_needsPerson_18 bs_X3_needsPerson_18 hz (fun K hK => ?_)
    refine hK 23 _ [vI 1] T ?_
    refine j_blx (F := fX3) tb_X3 (nn_ _) bk_X3_needsPerson_23 bs_X3_needsPerson_23 hz (fun K hK => ?_)
    refine (show po_X3_needsPerson_k T p k T (some (vI 1)) from ?_)
    exact ⟨rfl, _, rfl, by omega⟩
  · refine ix_i (by omega) ?_
    intro b3 b3b
    refine And.intro (fun c4 => ?_) (fun c4 => ?_)
    · refine hK 22 _ [] T ?_
      refine j_blx (F := fX3) tb_X3 (nn_ _) bk_X3_needsPerson_22 bs_X3_needsPerson_22 hz (fun K hK => ?_)
      refine (show po_X3_needsPerson_k T p k T (some (vI 0)) from ?_)
      exact ⟨rfl, _, rfl, by omega⟩
    · refine And.intro (fun c5 => ?_) (fun c5 => ?_)
      · refine hK 22 _ [] T ?_
        refine j_blx (F := fX3) tb_X3 (nn_ _) bk_X3_needsPerson_22 bs_X3_needsPerson_22 hz (fun K hK => ?_)
        refine (show po_X3_needsPerson_k T p k T (some (vI 0)) from ?_)
        exact ⟨rfl, _, rfl, by omega⟩
      · refine hK 23 _ [vI 1] T ?_
        refine j_blx (F := fX3) tb_X3 (nn_ _) bk_X3_needsPerson_23 bs_X3_needsPerson_23 hz (fun K hK => ?_)
        refine (show po_X3_needsPerson_k T p k T (some (vI 1)) from ?_)
        exact ⟨rfl, _, rfl, by omega⟩
abbrev cX3_brokenLaw : ByteArray := prog_5_method_5_code
def yX3_brokenLaw : MethodName := ⟨RX3, "brokenLaw", "(IIII)I"⟩
def zX3_brokenLaw : Zm := (RX3, cX3_brokenLaw, 5, (some .int), { frames := 2, cells := 0, slots := 0, locals := 45 })
theorem bk_X3_brokenLaw_51 : ck_ fX3 (some .int) cX3_brokenLaw 51 [.iload 1, .iconst 5, .if_icmp .ne 88, .aload 0, .iload 2, .iload 4] 60 = true := qck_r (nn_ _) (by decide +kernel)
theorem bs_X3_brokenLaw_51 {P : Zt → Option Zv → Prop} (K : Int → Zl → List Zv → Zt → Prop) : sx_ K P [.iload 1, .iconst 5, .if_icmp .ne 88, .aload 0, .iload 2, .iload 4] 60 = x_iload 1 (x_iconst 5 (x_if_icmp .ne 88 K (x_aload 0 (x_iload 2 (x_iload 4 (K 60)))))) := ((xe_iload 1).trans (congrArg (x_iload 1) ((xe_iconst 5).trans (congrArg (x_iconst 5) ((xe_if_icmp .ne 88).trans (congrArg (x_if_icmp .ne 88 K) ((xe_aload 0).trans (congrArg (x_aload 0) ((xe_iload 2).trans (congrArg (x_iload 2) ((xe_iload 4).trans (congrArg (x_iload 4) xe_nil))))))))))))
theorem bk_X3_brokenLaw_88 : ck_ fX3 (some .int) cX3_brokenLaw 88 [.aload 0, .iload 1, .iload 4] 92 = true := qck_r (nn_ _) (by decide +kernel)
theorem bs_X3_brokenLaw_88 {P : Zt → Option Zv → Prop} (K : Int → Zl → List Zv → Zt → Prop) : sx_ K P [.aload 0, .iload 1, .iload 4] 92 = x_aload 0 (x_iload 1 (x_iload 4 (K 92))) := ((xe_aload 0).trans (congrArg (x_aload 0) ((xe_iload 1).trans (congrArg (x_iload 1) ((xe_iload 4).trans (congrArg (x_iload 4) xe_nil))))))
set_option maxRecDepth 100000 in
theorem cl_X3_86 : cv_ RX3 86 yX3_isBounded zX3_isBounded 3 2 := ⟨gi_V (lw_b5 56 (by decide +kernel) rfl : Cond.methodLink RX3 86 yX3_isBounded ∈ lw_g) (lw_b5 57 (by decide +kernel) rfl : Cond.instanceMethod yX3_isBounded ∈ lw_g) (lw_b5 58 (by decide +kernel) rfl : Cond.selects yX3_isBounded.cls yX3_isBounded yX3_isBounded ∈ lw_g) (lw_b1 18 (by decide +kernel) rfl : Cond.initialized yX3_isBounded.cls ∈ lw_g) (lw_b5 59 rfl rfl : Cond.code yX3_isBounded cX3_isBounded 3 (some .boolean) ∈ lw_g), ⟨by decide, by decide, by decide +kernel⟩, ⟨_, _, rfl⟩⟩
theorem bk_X3_brokenLaw_95 : ck_ fX3 (some .int) cX3_brokenLaw 95 [.ifCond .eq 102, .iconst 0, .goto 104] 102 = true := qck_r (nn_ _) (by decide +kernel)
theorem bs_X3_brokenLaw_95 {P : Zt → Option Zv → Prop} (K : Int → Zl → List Zv → Zt → Prop) : sx_ K P [.ifCond .eq 102, .iconst 0, .goto 104] 102 = x_ifCond .eq 102 K (x_iconst 0 (x_goto 104 K)) := ((xe_ifCond .eq 102).trans (congrArg (x_ifCond .eq 102 K) ((xe_iconst 0).trans (congrArg (x_iconst 0) (xe_goto 104)))))
theorem bk_X3_brokenLaw_102 : ck_ fX3 (some .int) cX3_brokenLaw 102 [.iconst 7, .ireturn] 105 = true := qck_r (nn_ _) (by decide +kernel)
theorem bs_X3_brokenLaw_102 {P : Zt → Option Zv → Prop} (K : Int → Zl → List Zv → Zt → Prop) : sx_ K P [.iconst 7, .ireturn] 105 = x_iconst 7 (x_ireturn P) := ((xe_iconst 7).trans (congrArg (x_iconst 7) (xe_ireturn)))
theorem bk_X3_brokenLaw_104 : ck_ fX3 (some .int) cX3_brokenLaw 104 [.ireturn] 105 = true := qck_r (nn_ _) (by decide +kernel)
theorem bs_X3_brokenLaw_104 {P : Zt → Option Zv → Prop} (K : Int → Zl → List Zv → Zt → Prop) : sx_ K P [.ireturn] 105 = x_ireturn P := (xe_ireturn)
theorem bk_X3_brokenLaw_63 : ck_ fX3 (some .int) cX3_brokenLaw 63 [.iconst (-1), .if_icmp .ne 69, .iconst 5, .ireturn] 69 = true := qck_r (nn_ _) (by decide +kernel)
theorem bs_X3_brokenLaw_63 {P : Zt → Option Zv → Prop} (K : Int → Zl → List Zv → Zt → Prop) : sx_ K P [.iconst (-1), .if_icmp .ne 69, .iconst 5, .ireturn] 69 = x_iconst (-1) (x_if_icmp .ne 69 K (x_iconst 5 (x_ireturn P))) := ((xe_iconst (-1)).trans (congrArg (x_iconst (-1)) ((xe_if_icmp .ne 69).trans (congrArg (x_if_icmp .ne 69 K) ((xe_iconst 5).trans (congrArg (x_iconst 5) (xe_ireturn)))))))
theorem bk_X3_brokenLaw_69 : ck_ fX3 (some .int) cX3_brokenLaw 69 [.aload 0, .tableswitch 0 3 9 #[], .iload 2, .iaload, .aload 0, .tableswitch 0 3 0 #[], .iconst 10, .iaload, .if_icmp .lt 88, .iconst 6, .ireturn] 88 = true := qck_r (nn_ _) (by decide +kernel)
theorem bs_X3_brokenLaw_69 {P : Zt → Option Zv → Prop} (K : Int → Zl → List Zv → Zt → Prop) : sx_ K P [.aload 0, .tableswitch 0 3 9 #[], .iload 2, .iaload, .aload 0, .tableswitch 0 3 0 #[], .iconst 10, .iaload, .if_icmp .lt 88, .iconst 6, .ireturn] 88 = x_aload 0 (x_g2 103 469 (x_iload 2 (x_iaload (x_aload 0 (x_g3 103 401 0 (x_iconst 10 (x_iaload (x_if_icmp .lt 88 K (x_iconst 6 (x_ireturn P)))))))))) := ((xe_aload 0).trans (congrArg (x_aload 0) ((xe_g2 (kk := 103) rfl tl_3_9).trans (congrArg (x_g2 103 469) ((xe_iload 2).trans (congrArg (x_iload 2) ((xe_iaload).trans (congrArg (x_iaload) ((xe_aload 0).trans (congrArg (x_aload 0) ((xe_g3 (kk := 103) rfl tl_3_0).trans (congrArg (x_g3 103 401 0) ((xe_iconst 10).trans (congrArg (x_iconst 10) ((xe_iaload).trans (congrArg (x_iaload) ((xe_if_icmp .lt 88).trans (congrArg (x_if_icmp .lt 88 K) ((xe_iconst 6).trans (congrArg (x_iconst 6) (xe_ireturn)))))))))))))))))))))
theorem bk_X3_brokenLaw_0 : ck_ fX3 (some .int) cX3_brokenLaw 0 [.aload 0, .tableswitch 0 3 3 #[], .ifCond .eq 9, .iconst 1, .ireturn] 9 = true := qck_r (nn_ _) (by decide +kernel)
theorem bs_X3_brokenLaw_0 {P : Zt → Option Zv → Prop} (K : Int → Zl → List Zv → Zt → Prop) : sx_ K P [.aload 0, .tableswitch 0 3 3 #[], .ifCond .eq 9, .iconst 1, .ireturn] 9 = x_aload 0 (x_g0 103 3 0 1 (x_ifCond .eq 9 K (x_iconst 1 (x_ireturn P)))) := ((xe_aload 0).trans (congrArg (x_aload 0) ((xe_g0 (kk := 103) rfl tl_3_3).trans (congrArg (x_g0 103 3 0 1) ((xe_ifCond .eq 9).trans (congrArg (x_ifCond .eq 9 K) ((xe_iconst 1).trans (congrArg (x_iconst 1) (xe_ireturn)))))))))
theorem bk_X3_brokenLaw_9 : ck_ fX3 (some .int) cX3_brokenLaw 9 [.aload 0, .iload 1, .iload 2] 12 = true := qck_r (nn_ _) (by decide +kernel)
theorem bs_X3_brokenLaw_9 {P : Zt → Option Zv → Prop} (K : Int → Zl → List Zv → Zt → Prop) : sx_ K P [.aload 0, .iload 1, .iload 2] 12 = x_aload 0 (x_iload 1 (x_iload 2 (K 12))) := ((xe_aload 0).trans (congrArg (x_aload 0) ((xe_iload 1).trans (congrArg (x_iload 1) ((xe_iload 2).trans (congrArg (x_iload 2) xe_nil))))))
set_option maxRecDepth 100000 in
theorem cl_X3_68 : cv_ RX3 68 yX3_isFormed zX3_isFormed 3 2 := ⟨gi_V (lw_b5 31 (by decide +kernel) rfl : Cond.methodLink RX3 68 yX3_isFormed ∈ lw_g) (lw_b5 32 (by decide +kernel) rfl : Cond.instanceMethod yX3_isFormed ∈ lw_g) (lw_b5 33 (by decide +kernel) rfl : Cond.selects yX3_isFormed.cls yX3_isFormed yX3_isFormed ∈ lw_g) (lw_b1 18 (by decide +kernel) rfl : Cond.initialized yX3_isFormed.cls ∈ lw_g) (lw_b5 34 rfl rfl : Cond.code yX3_isFormed cX3_isFormed 4 (some .boolean) ∈ lw_g), ⟨by decide, by decide, by decide +kernel⟩, ⟨_, _, rfl⟩⟩
theorem bk_X3_brokenLaw_15 : ck_ fX3 (some .int) cX3_brokenLaw 15 [.ifCond .ne 20, .iconst 2, .ireturn] 20 = true := qck_r (nn_ _) (by decide +kernel)
theorem bs_X3_brokenLaw_15 {P : Zt → Option Zv → Prop} (K : Int → Zl → List Zv → Zt → Prop) : sx_ K P [.ifCond .ne 20, .iconst 2, .ireturn] 20 = x_ifCond .ne 20 K (x_iconst 2 (x_ireturn P)) := ((xe_ifCond .ne 20).trans (congrArg (x_ifCond .ne 20 K) ((xe_iconst 2).trans (congrArg (x_iconst 2) (xe_ireturn)))))
theorem bk_X3_brokenLaw_20 : ck_ fX3 (some .int) cX3_brokenLaw 20 [.aload 0, .iload 1, .iload 2] 23 = true := qck_r (nn_ _) (by decide +kernel)
theorem bs_X3_brokenLaw_20 {P : Zt → Option Zv → Prop} (K : Int → Zl → List Zv → Zt → Prop) : sx_ K P [.aload 0, .iload 1, .iload 2] 23 = x_aload 0 (x_iload 1 (x_iload 2 (K 23))) := ((xe_aload 0).trans (congrArg (x_aload 0) ((xe_iload 1).trans (congrArg (x_iload 1) ((xe_iload 2).trans (congrArg (x_iload 2) xe_nil))))))
set_option maxRecDepth 100000 in
theorem cl_X3_72 : cv_ RX3 72 yX3_isAllowed zX3_isAllowed 3 2 := ⟨gi_V (lw_b5 36 (by decide +kernel) rfl : Cond.methodLink RX3 72 yX3_isAllowed ∈ lw_g) (lw_b5 38 (by decide +kernel) rfl : Cond.instanceMethod yX3_isAllowed ∈ lw_g) (lw_sel 90 rfl : Cond.selects yX3_isAllowed.cls yX3_isAllowed yX3_isAllowed ∈ lw_g) (lw_b1 18 (by decide +kernel) rfl : Cond.initialized yX3_isAllowed.cls ∈ lw_g) (lw_b5 39 rfl rfl : Cond.code yX3_isAllowed cX3_isAllowed 3 (some .boolean) ∈ lw_g), ⟨by decide, by decide, by decide +kernel⟩, ⟨_, _, rfl⟩⟩
theorem bk_X3_brokenLaw_26 : ck_ fX3 (some .int) cX3_brokenLaw 26 [.ifCond .ne 31, .iconst 3, .ireturn] 31 = true := qck_r (nn_ _) (by decide +kernel)
theorem bs_X3_brokenLaw_26 {P : Zt → Option Zv → Prop} (K : Int → Zl → List Zv → Zt → Prop) : sx_ K P [.ifCond .ne 31, .iconst 3, .ireturn] 31 = x_ifCond .ne 31 K (x_iconst 3 (x_ireturn P)) := ((xe_ifCond .ne 31).trans (congrArg (x_ifCond .ne 31 K) ((xe_iconst 3).trans (congrArg (x_iconst 3) (xe_ireturn)))))
theorem bk_X3_brokenLaw_31 : ck_ fX3 (some .int) cX3_brokenLaw 31 [.aload 0, .iload 1] 33 = true := qck_r (nn_ _) (by decide +kernel)
theorem bs_X3_brokenLaw_31 {P : Zt → Option Zv → Prop} (K : Int → Zl → List Zv → Zt → Prop) : sx_ K P [.aload 0, .iload 1] 33 = x_aload 0 (x_iload 1 (K 33)) := ((xe_aload 0).trans (congrArg (x_aload 0) ((xe_iload 1).trans (congrArg (x_iload 1) xe_nil))))
set_option maxRecDepth 100000 in
theorem cl_X3_75 : cv_ RX3 75 yX3_needsPerson zX3_needsPerson 3 1 := ⟨gi_V (lw_b5 40 (by decide +kernel) rfl : Cond.methodLink RX3 75 yX3_needsPerson ∈ lw_g) (lw_b5 42 (by decide +kernel) rfl : Cond.instanceMethod yX3_needsPerson ∈ lw_g) (lw_sel 92 rfl : Cond.selects yX3_needsPerson.cls yX3_needsPerson yX3_needsPerson ∈ lw_g) (lw_b1 18 (by decide +kernel) rfl : Cond.initialized yX3_needsPerson.cls ∈ lw_g) (lw_b5 43 rfl rfl : Cond.code yX3_needsPerson cX3_needsPerson 2 (some .boolean) ∈ lw_g), ⟨by decide, by decide, by decide +kernel⟩, ⟨_, _, rfl⟩⟩
theorem bk_X3_brokenLaw_36 : ck_ fX3 (some .int) cX3_brokenLaw 36 [.ifCond .eq 51, .aload 0, .iload 2, .iload 3] 42 = true := qck_r (nn_ _) (by decide +kernel)
theorem bs_X3_brokenLaw_36 {P : Zt → Option Zv → Prop} (K : Int → Zl → List Zv → Zt → Prop) : sx_ K P [.ifCond .eq 51, .aload 0, .iload 2, .iload 3] 42 = x_ifCond .eq 51 K (x_aload 0 (x_iload 2 (x_iload 3 (K 42)))) := ((xe_ifCond .eq 51).trans (congrArg (x_ifCond .eq 51 K) ((xe_aload 0).trans (congrArg (x_aload 0) ((xe_iload 2).trans (congrArg (x_iload 2) ((xe_iload 3).trans (congrArg (x_iload 3) xe_nil))))))))
theorem bk_X3_brokenLaw_45 : ck_ fX3 (some .int) cX3_brokenLaw 45 [.iconst (-1), .if_icmp .ne 51, .iconst 4, .ireturn] 51 = true := qck_r (nn_ _) (by decide +kernel)
theorem bs_X3_brokenLaw_45 {P : Zt → Option Zv → Prop} (K : Int → Zl → List Zv → Zt → Prop) : sx_ K P [.iconst (-1), .if_icmp .ne 51, .iconst 4, .ireturn] 51 = x_iconst (-1) (x_if_icmp .ne 51 K (x_iconst 4 (x_ireturn P))) := ((xe_iconst (-1)).trans (congrArg (x_iconst (-1)) ((xe_if_icmp .ne 51).trans (congrArg (x_if_icmp .ne 51 K) ((xe_iconst 4).trans (congrArg (x_iconst 4) (xe_ireturn)))))))
abbrev po_J7_fill_542 (T : Zt) (p : Int) (v : Int) : Zt → Option Zv → Prop := fun T' r => r = none ∧ fr_ [(542, [])] T T' ∧ oi_ T T' p ∧ ∀ j, 0 ≤ j → j < 96 → T' 542 p j = v
set_option maxHeartbeats 4000000 in
theorem ct_J7_fill_542 {T : Zt} {p : Int} {v : Int} (h1 : (-2147483648) ≤ v ∧ v ≤ 2147483647) : Ct_ yJ7_fill_53178 zJ7_fill_53178 T [vR 542 p, vI v] (po_J7_fill_542 T p v) := by
  refine ct_of (by decide) rfl rfl (Nat.le_of_ble_eq_true rfl) (fun hT hav => ?_)
  have hr_v : -2147483648 ≤ v ∧ v ≤ 2147483647 := hav (vI v) (by simp)
  have hz : zJ7_fill_53178.2.2.2.1 = some .boolean → ∀ (T' : Zt) (x : Int), po_J7_fill_542 T p v T' (some (vI x)) → 0 ≤ x ∧ x ≤ 1 := fun h => by cases h
  show J_ zJ7_fill_53178 T (po_J7_fill_542 T p v) 0 0 0 [some (vR 542 p), some (vI v), none, none] [] T
  have c_5 : ∀ (nn : Nat) (j : Int) (T1 : Zt), ((96 - j).toNat) ≤ nn → (fr_ [(542, [])] T T1) → (0 ≤ j ∧ j ≤ 96) → (oi_ T T1 p) → (∀ q, 0 ≤ q → q < j → T1 542 p q = v) → J_ zJ7_fill_53178 T (po_J7_fill_542 T p v) 0 0 5 [some (vR 542 p), some (vI v), some (vI j), some (vI 96)] [] T1 := by
    intro nn
    induction nn using Nat.strongRecOn with
    | _ nn ih_5 =>
      intro j T1 hm_5 hf_5 i1 o1 f1
      refine j_blx (F := fJ7) tb_J7 (nn_ _) bk_J7_fill_53178_5 bs_J7_fill_53178_5 hz (fun K hK => ?_)
      refine And.intro (fun c1 => ?_) (fun c1 => ?_)
      · refine hK 20 _ [] T1 ?_
        refine j_blx (F := fJ7) tb_J7 (nn_ _) bk_J7_fill_53178_20 bs_J7_fill_53178_20 hz (fun K hK => ?_)
        refine (show po_J7_fill_542 T p v T1 (none) from ?_)
        exact ⟨rfl, fr_t (fr_0 _ _) (fr_s hf_5 rfl), o1, fun q a b => f1 q a (by omega)⟩
      · refine iy_i (by omega) (by omega) ?_
        refine x_nm (fun U2 hU2 => ?_)
        have e3 := up_f hU2
        refine rg_i (by omega) ?_
        refine hK 5 [some (vR 542 p), some (vI v), some (vI (j + 1)), some (vI 96)] [] U2 ?_
        refine ih_5 _ ?_ (j + 1) U2 (Nat.le_refl _) ?_ ?_ ?_ ?_
        · omega
        · exact fr_u (fr_t (fr_0 _ _) (fr_s hf_5 rfl)) hU2 rfl
        · omega
        · exact oi_u o1 hU2
        · intro q a b
          by_cases z : q = j
          · rw [z]; exact up_f hU2
          · rw [up_g hU2 (fun y => z y.2.2)]; exact f1 q a (by omega)
  refine j_blx (F := fJ7) tb_J7 (nn_ _) bk_J7_fill_53178_0 bs_J7_fill_53178_0 hz (fun K hK => ?_)
  refine hK 5 [some (vR 542 p), some (vI v), some (vI 0), some (vI 96)] [] T ?_
  refine c_5 _ 0 T (Nat.le_refl _) ?_ ?_ ?_ ?_
  · exact fr_0 _ _
  · omega
  · exact oi_r
  · intro q a b; omega
abbrev po_J7_fill_543 (T : Zt) (p : Int) (v : Int) : Zt → Option Zv → Prop := fun T' r => r = none ∧ fr_ [(543, [])] T T' ∧ oi_ T T' p ∧ ∀ j, 0 ≤ j → j < 12 → T' 543 p j = v
set_option maxHeartbeats 4000000 in
theorem ct_J7_fill_543 {T : Zt} {p : Int} {v : Int} (h1 : (-2147483648) ≤ v ∧ v ≤ 2147483647) : Ct_ yJ7_fill_53178 zJ7_fill_53178 T [vR 543 p, vI v] (po_J7_fill_543 T p v) := by
  refine ct_of (by decide) rfl rfl (Nat.le_of_ble_eq_true rfl) (fun hT hav => ?_)
  have hr_v : -2147483648 ≤ v ∧ v ≤ 2147483647 := hav (vI v) (by simp)
  have hz : zJ7_fill_53178.2.2.2.1 = some .boolean → ∀ (T' : Zt) (x : Int), po_J7_fill_543 T p v T' (some (vI x)) → 0 ≤ x ∧ x ≤ 1 := fun h => by cases h
  show J_ zJ7_fill_53178 T (po_J7_fill_543 T p v) 0 0 0 [some (vR 543 p), some (vI v), none, none] [] T
  have c_5 : ∀ (nn : Nat) (j : Int) (T1 : Zt), ((12 - j).toNat) ≤ nn → (fr_ [(543, [])] T T1) → (0 ≤ j ∧ j ≤ 12) → (oi_ T T1 p) → (∀ q, 0 ≤ q → q < j → T1 543 p q = v) → J_ zJ7_fill_53178 T (po_J7_fill_543 T p v) 0 0 5 [some (vR 543 p), some (vI v), some (vI j), some (vI 12)] [] T1 := by
    intro nn
    induction nn using Nat.strongRecOn with
    | _ nn ih_5 =>
      intro j T1 hm_5 hf_5 i1 o1 f1
      refine j_blx (F := fJ7) tb_J7 (nn_ _) bk_J7_fill_53178_5 bs_J7_fill_53178_5 hz (fun K hK => ?_)
      refine And.intro (fun c1 => ?_) (fun c1 => ?_)
      · refine hK 20 _ [] T1 ?_
        refine j_blx (F := fJ7) tb_J7 (nn_ _) bk_J7_fill_53178_20 bs_J7_fill_53178_20 hz (fun K hK => ?_)
        refine (show po_J7_fill_543 T p v T1 (none) from ?_)
        exact ⟨rfl, fr_t (fr_0 _ _) (fr_s hf_5 rfl), o1, fun q a b => f1 q a (by omega)⟩
      · refine iy_i (by omega) (by omega) ?_
        refine x_nm (fun U2 hU2 => ?_)
        have e3 := up_f hU2
        refine rg_i (by omega) ?_
        refine hK 5 [some (vR 543 p), some (vI v), some (vI (j + 1)), some (vI 12)] [] U2 ?_
        refine ih_5 _ ?_ (j + 1) U2 (Nat.le_refl _) ?_ ?_ ?_ ?_
        · omega
        · exact fr_u (fr_t (fr_0 _ _) (fr_s hf_5 rfl)) hU2 rfl
        · omega
        · exact oi_u o1 hU2
        · intro q a b
          by_cases z : q = j
          · rw [z]; exact up_f hU2
          · rw [up_g hU2 (fun y => z y.2.2)]; exact f1 q a (by omega)
  refine j_blx (F := fJ7) tb_J7 (nn_ _) bk_J7_fill_53178_0 bs_J7_fill_53178_0 hz (fun K hK => ?_)
  refine hK 5 [some (vR 543 p), some (vI v), some (vI 0), some (vI 12)] [] T ?_
  refine c_5 _ 0 T (Nat.le_refl _) ?_ ?_ ?_ ?_
  · exact fr_0 _ _
  · omega
  · exact oi_r
  · intro q a b; omega
abbrev po_J7_fill_544 (T : Zt) (p : Int) (v : Int) : Zt → Option Zv → Prop := fun T' r => r = none ∧ fr_ [(544, [])] T T' ∧ oi_ T T' p ∧ ∀ j, 0 ≤ j → j < 12 → T' 544 p j = v
set_option maxHeartbeats 4000000 in
theorem ct_J7_fill_544 {T : Zt} {p : Int} {v : Int} (h1 : (-2147483648) ≤ v ∧ v ≤ 2147483647) : Ct_ yJ7_fill_53178 zJ7_fill_53178 T [vR 544 p, vI v] (po_J7_fill_544 T p v) := by
  refine ct_of (by decide) rfl rfl (Nat.le_of_ble_eq_true rfl) (fun hT hav => ?_)
  have hr_v : -2147483648 ≤ v ∧ v ≤ 2147483647 := hav (vI v) (by simp)
  have hz : zJ7_fill_53178.2.2.2.1 = some .boolean → ∀ (T' : Zt) (x : Int), po_J7_fill_544 T p v T' (some (vI x)) → 0 ≤ x ∧ x ≤ 1 := fun h => by cases h
  show J_ zJ7_fill_53178 T (po_J7_fill_544 T p v) 0 0 0 [some (vR 544 p), some (vI v), none, none] [] T
  have c_5 : ∀ (nn : Nat) (j : Int) (T1 : Zt), ((12 - j).toNat) ≤ nn → (fr_ [(544, [])] T T1) → (0 ≤ j ∧ j ≤ 12) → (oi_ T T1 p) → (∀ q, 0 ≤ q → q < j → T1 544 p q = v) → J_ zJ7_fill_53178 T (po_J7_fill_544 T p v) 0 0 5 [some (vR 544 p), some (vI v), some (vI j), some (vI 12)] [] T1 := by
    intro nn
    induction nn using Nat.strongRecOn with
    | _ nn ih_5 =>
      intro j T1 hm_5 hf_5 i1 o1 f1
      refine j_blx (F := fJ7) tb_J7 (nn_ _) bk_J7_fill_53178_5 bs_J7_fill_53178_5 hz (fun K hK => ?_)
      refine And.intro (fun c1 => ?_) (fun c1 => ?_)
      · refine hK 20 _ [] T1 ?_
        refine j_blx (F := fJ7) tb_J7 (nn_ _) bk_J7_fill_53178_20 bs_J7_fill_53178_20 hz (fun K hK => ?_)
        refine (show po_J7_fill_544 T p v T1 (none) from ?_)
        exact ⟨rfl, fr_t (fr_0 _ _) (fr_s hf_5 rfl), o1, fun q a b => f1 q a (by omega)⟩
      · refine iy_i (by omega) (by omega) ?_
        refine x_nm (fun U2 hU2 => ?_)
        have e3 := up_f hU2
        refine rg_i (by omega) ?_
        refine hK 5 [some (vR 544 p), some (vI v), some (vI (j + 1)), some (vI 12)] [] U2 ?_
        refine ih_5 _ ?_ (j + 1) U2 (Nat.le_refl _) ?_ ?_ ?_ ?_
        · omega
        · exact fr_u (fr_t (fr_0 _ _) (fr_s hf_5 rfl)) hU2 rfl
        · omega
        · exact oi_u o1 hU2
        · intro q a b
          by_cases z : q = j
          · rw [z]; exact up_f hU2
          · rw [up_g hU2 (fun y => z y.2.2)]; exact f1 q a (by omega)
  refine j_blx (F := fJ7) tb_J7 (nn_ _) bk_J7_fill_53178_0 bs_J7_fill_53178_0 hz (fun K hK => ?_)
  refine hK 5 [some (vR 544 p), some (vI v), some (vI 0), some (vI 12)] [] T ?_
  refine c_5 _ 0 T (Nat.le_refl _) ?_ ?_ ?_ ?_
  · exact fr_0 _ _
  · omega
  · exact oi_r
  · intro q a b; omega
abbrev po_J7_fill_545 (T : Zt) (p : Int) (v : Int) : Zt → Option Zv → Prop := fun T' r => r = none ∧ fr_ [(545, [])] T T' ∧ oi_ T T' p ∧ ∀ j, 0 ≤ j → j < 144 → T' 545 p j = v
set_option maxHeartbeats 4000000 in
theorem ct_J7_fill_545 {T : Zt} {p : Int} {v : Int} (h1 : (-2147483648) ≤ v ∧ v ≤ 2147483647) : Ct_ yJ7_fill_53178 zJ7_fill_53178 T [vR 545 p, vI v] (po_J7_fill_545 T p v) := by
  refine ct_of (by decide) rfl rfl (Nat.le_of_ble_eq_true rfl) (fun hT hav => ?_)
  have hr_v : -2147483648 ≤ v ∧ v ≤ 2147483647 := hav (vI v) (by simp)
  have hz : zJ7_fill_53178.2.2.2.1 = some .boolean → ∀ (T' : Zt) (x : Int), po_J7_fill_545 T p v T' (some (vI x)) → 0 ≤ x ∧ x ≤ 1 := fun h => by cases h
  show J_ zJ7_fill_53178 T (po_J7_fill_545 T p v) 0 0 0 [some (vR 545 p), some (vI v), none, none] [] T
  have c_5 : ∀ (nn : Nat) (j : Int) (T1 : Zt), ((144 - j).toNat) ≤ nn → (fr_ [(545, [])] T T1) → (0 ≤ j ∧ j ≤ 144) → (oi_ T T1 p) → (∀ q, 0 ≤ q → q < j → T1 545 p q = v) → J_ zJ7_fill_53178 T (po_J7_fill_545 T p v) 0 0 5 [some (vR 545 p), some (vI v), some (vI j), some (vI 144)] [] T1 := by
    intro nn
    induction nn using Nat.strongRecOn with
    | _ nn ih_5 =>
      intro j T1 hm_5 hf_5 i1 o1 f1
      refine j_blx (F := fJ7) tb_J7 (nn_ _) bk_J7_fill_53178_5 bs_J7_fill_53178_5 hz (fun K hK => ?_)
      refine And.intro (fun c1 => ?_) (fun c1 => ?_)
      · refine hK 20 _ [] T1 ?_
        refine j_blx (F := fJ7) tb_J7 (nn_ _) bk_J7_fill_53178_20 bs_J7_fill_53178_20 hz (fun K hK => ?_)
        refine (show po_J7_fill_545 T p v T1 (none) from ?_)
        exact ⟨rfl, fr_t (fr_0 _ _) (fr_s hf_5 rfl), o1, fun q a b => f1 q a (by omega)⟩
      · refine iy_i (by omega) (by omega) ?_
        refine x_nm (fun U2 hU2 => ?_)
        have e3 := up_f hU2
        refine rg_i (by omega) ?_
        refine hK 5 [some (vR 545 p), some (vI v), some (vI (j + 1)), some (vI 144)] [] U2 ?_
        refine ih_5 _ ?_ (j + 1) U2 (Nat.le_refl _) ?_ ?_ ?_ ?_
        · omega
        · exact fr_u (fr_t (fr_0 _ _) (fr_s hf_5 rfl)) hU2 rfl
        · omega
        · exact oi_u o1 hU2
        · intro q a b
          by_cases z : q = j
          · rw [z]; exact up_f hU2
          · rw [up_g hU2 (fun y => z y.2.2)]; exact f1 q a (by omega)
  refine j_blx (F := fJ7) tb_J7 (nn_ _) bk_J7_fill_53178_0 bs_J7_fill_53178_0 hz (fun K hK => ?_)
  refine hK 5 [some (vR 545 p), some (vI v), some (vI 0), some (vI 144)] [] T ?_
  refine c_5 _ 0 T (Nat.le_refl _) ?_ ?_ ?_ ?_
  · exact fr_0 _ _
  · omega
  · exact oi_r
  · intro q a b; omega
abbrev po_J7_fill_546 (T : Zt) (p : Int) (v : Int) : Zt → Option Zv → Prop := fun T' r => r = none ∧ fr_ [(546, [])] T T' ∧ oi_ T T' p ∧ ∀ j, 0 ≤ j → j < 144 → T' 546 p j = v
set_option maxHeartbeats 4000000 in
theorem ct_J7_fill_546 {T : Zt} {p : Int} {v : Int} (h1 : (-2147483648) ≤ v ∧ v ≤ 2147483647) : Ct_ yJ7_fill_53178 zJ7_fill_53178 T [vR 546 p, vI v] (po_J7_fill_546 T p v) := by
  refine ct_of (by decide) rfl rfl (Nat.le_of_ble_eq_true rfl) (fun hT hav => ?_)
  have hr_v : -2147483648 ≤ v ∧ v ≤ 2147483647 := hav (vI v) (by simp)
  have hz : zJ7_fill_53178.2.2.2.1 = some .boolean → ∀ (T' : Zt) (x : Int), po_J7_fill_546 T p v T' (some (vI x)) → 0 ≤ x ∧ x ≤ 1 := fun h => by cases h
  show J_ zJ7_fill_53178 T (po_J7_fill_546 T p v) 0 0 0 [some (vR 546 p), some (vI v), none, none] [] T
  have c_5 : ∀ (nn : Nat) (j : Int) (T1 : Zt), ((144 - j).toNat) ≤ nn → (fr_ [(546, [])] T T1) → (0 ≤ j ∧ j ≤ 144) → (oi_ T T1 p) → (∀ q, 0 ≤ q → q < j → T1 546 p q = v) → J_ zJ7_fill_53178 T (po_J7_fill_546 T p v) 0 0 5 [some (vR 546 p), some (vI v), some (vI j), some (vI 144)] [] T1 := by
    intro nn
    induction nn using Nat.strongRecOn with
    | _ nn ih_5 =>
      intro j T1 hm_5 hf_5 i1 o1 f1
      refine j_blx (F := fJ7) tb_J7 (nn_ _) bk_J7_fill_53178_5 bs_J7_fill_53178_5 hz (fun K hK => ?_)
      refine And.intro (fun c1 => ?_) (fun c1 => ?_)
      · refine hK 20 _ [] T1 ?_
        refine j_blx (F := fJ7) tb_J7 (nn_ _) bk_J7_fill_53178_20 bs_J7_fill_53178_20 hz (fun K hK => ?_)
        refine (show po_J7_fill_546 T p v T1 (none) from ?_)
        exact ⟨rfl, fr_t (fr_0 _ _) (fr_s hf_5 rfl), o1, fun q a b => f1 q a (by omega)⟩
      · refine iy_i (by omega) (by omega) ?_
        refine x_nm (fun U2 hU2 => ?_)
        have e3 := up_f hU2
        refine rg_i (by omega) ?_
        refine hK 5 [some (vR 546 p), some (vI v), some (vI (j + 1)), some (vI 144)] [] U2 ?_
        refine ih_5 _ ?_ (j + 1) U2 (Nat.le_refl _) ?_ ?_ ?_ ?_
        · omega
        · exact fr_u (fr_t (fr_0 _ _) (fr_s hf_5 rfl)) hU2 rfl
        · omega
        · exact oi_u o1 hU2
        · intro q a b
          by_cases z : q = j
          · rw [z]; exact up_f hU2
          · rw [up_g hU2 (fun y => z y.2.2)]; exact f1 q a (by omega)
  refine j_blx (F := fJ7) tb_J7 (nn_ _) bk_J7_fill_53178_0 bs_J7_fill_53178_0 hz (fun K hK => ?_)
  refine hK 5 [some (vR 546 p), some (vI v), some (vI 0), some (vI 144)] [] T ?_
  refine c_5 _ 0 T (Nat.le_refl _) ?_ ?_ ?_ ?_
  · exact fr_0 _ _
  · omega
  · exact oi_r
  · intro q a b; omega
abbrev cX7_tally : ByteArray := prog_9_method_2_code
def yX7_tally : MethodName := ⟨RX7, "tally", "(LSportsHouse$Competition;I)V"⟩
def zX7_tally : Zm := (RX7, cX7_tally, 5, none, { frames := 2, cells := 0, slots := 0, locals := 52 })
theorem bk_X7_tally_126 : ck_ fX7 none cX7_tally 126 [.iload 3, .aload 0, .tableswitch 0 7 1 #[], .tableswitch 0 0 5 #[], .if_icmp .ge 182, .aload 0, .tableswitch 0 7 2 #[], .iload 3, .iconst 8, .imul, .iconst 6, .iadd, .dup2, .iaload, .aload 0, .tableswitch 0 7 0 #[], .iload 2, .aload 0, .tableswitch 0 7 1 #[], .tableswitch 0 0 0 #[], .aload 0, .tableswitch 0 7 1 #[], .tableswitch 0 0 3 #[], .iload 3, .iaload] 171 = true := qck_r (nn_ _) (by decide +kernel)
theorem bs_X7_tally_126 {P : Zt → Option Zv → Prop} (K : Int → Zl → List Zv → Zt → Prop) : sx_ K P [.iload 3, .aload 0, .tableswitch 0 7 1 #[], .tableswitch 0 0 5 #[], .if_icmp .ge 182, .aload 0, .tableswitch 0 7 2 #[], .iload 3, .iconst 8, .imul, .iconst 6, .iadd, .dup2, .iaload, .aload 0, .tableswitch 0 7 0 #[], .iload 2, .aload 0, .tableswitch 0 7 1 #[], .tableswitch 0 0 0 #[], .aload 0, .tableswitch 0 7 1 #[], .tableswitch 0 0 3 #[], .iload 3, .iaload] 171 = x_iload 3 (x_aload 0 (x_g5 107 100 1 (x_g0 100 5 0 12 (x_if_icmp .ge 182 K (x_aload 0 (x_g1 107 542 (x_iload 3 (x_iconst 8 (x_imul (x_iconst 6 (x_iadd (x_dup2 (x_iaload (x_aload 0 (x_g1 107 106 (x_iload 2 (x_aload 0 (x_g5 107 100 1 (x_g0 100 0 0 3 (x_aload 0 (x_g5 107 100 1 (x_g2 100 403 (x_iload 3 (x_iaload (K 171))))))))))))))))))))))))) := ((xe_iload 3).trans (congrArg (x_iload 3) ((xe_aload 0).trans (congrArg (x_aload 0) ((xe_g5 (kk := 107) rfl tl_7_1).trans (congrArg (x_g5 107 100 1) ((xe_g0 (kk := 100) rfl tl_0_5).trans (congrArg (x_g0 100 5 0 12) ((xe_if_icmp .ge 182).trans (congrArg (x_if_icmp .ge 182 K) ((xe_aload 0).trans (congrArg (x_aload 0) ((xe_g1 (kk := 107) rfl tl_7_2).trans (congrArg (x_g1 107 542) ((xe_iload 3).trans (congrArg (x_iload 3) ((xe_iconst 8).trans (congrArg (x_iconst 8) ((xe_imul).trans (congrArg (x_imul) ((xe_iconst 6).trans (congrArg (x_iconst 6) ((xe_iadd).trans (congrArg (x_iadd) ((xe_dup2).trans (congrArg (x_dup2) ((xe_iaload).trans (congrArg (x_iaload) ((xe_aload 0).trans (congrArg (x_aload 0) ((xe_g1 (kk := 107) rfl tl_7_0).trans (congrArg (x_g1 107 106) ((xe_iload 2).trans (congrArg (x_iload 2) ((xe_aload 0).trans (congrArg (x_aload 0) ((xe_g5 (kk := 107) rfl tl_7_1).trans (congrArg (x_g5 107 100 1) ((xe_g0 (kk := 100) rfl tl_0_0).trans (congrArg (x_g0 100 0 0 3) ((xe_aload 0).trans (congrArg (x_aload 0) ((xe_g5 (kk := 107) rfl tl_7_1).trans (congrArg (x_g5 107 100 1) ((xe_g2 (kk := 100) rfl tl_0_3).trans (congrArg (x_g2 100 403) ((xe_iload 3).trans (congrArg (x_iload 3) ((xe_iaload).trans (congrArg (x_iaload) xe_nil))))))))))))))))))))))))))))))))))))))))))))))))))
theorem bk_X7_tally_182 : ck_ fX7 none cX7_tally 182 [.return_] 183 = true := qck_r (nn_ _) (by decide +kernel)
theorem bs_X7_tally_182 {P : Zt → Option Zv → Prop} (K : Int → Zl → List Zv → Zt → Prop) : sx_ K P [.return_] 183 = x_return_ P := (xe_return_)
set_option maxRecDepth 100000 in
theorem cl_X7_105 : cv_ RX7 105 yX6_deductedUpTo zX6_deductedUpTo 6 3 := ⟨gi_V (lw_b5 220 (by decide +kernel) rfl : Cond.methodLink RX7 105 yX6_deductedUpTo ∈ lw_g) (lw_b5 221 (by decide +kernel) rfl : Cond.instanceMethod yX6_deductedUpTo ∈ lw_g) (lw_b5 222 (by decide +kernel) rfl : Cond.selects yX6_deductedUpTo.cls yX6_deductedUpTo yX6_deductedUpTo ∈ lw_g) (lw_b1 4 (by decide +kernel) rfl : Cond.initialized yX6_deductedUpTo.cls ∈ lw_g) (lw_b5 223 rfl rfl : Cond.code yX6_deductedUpTo cX6_deductedUpTo 6 (some .int) ∈ lw_g), ⟨by decide, by decide, by decide +kernel⟩, ⟨_, _, rfl⟩⟩
theorem bk_X7_tally_174 : ck_ fX7 none cX7_tally 174 [.fsub, .iastore, .iinc 3 1, .goto 126] 182 = true := qck_r (nn_ _) (by decide +kernel)
theorem bs_X7_tally_174 {P : Zt → Option Zv → Prop} (K : Int → Zl → List Zv → Zt → Prop) : sx_ K P [.fsub, .iastore, .iinc 3 1, .goto 126] 182 = x_fsub (x_iastore (x_iinc 3 1 (x_goto 126 K))) := ((xe_fsub).trans (congrArg (x_fsub) ((xe_iastore).trans (congrArg (x_iastore) ((xe_iinc 3 1).trans (congrArg (x_iinc 3 1) (xe_goto 126)))))))
theorem bk_X7_tally_47 : ck_ fX7 none cX7_tally 47 [.iload 3, .aload 0, .tableswitch 0 7 1 #[], .tableswitch 0 0 8 #[], .if_icmp .ge 124, .aload 0, .tableswitch 0 7 0 #[], .tableswitch 0 6 3 #[], .aload 0, .tableswitch 0 7 1 #[], .tableswitch 0 0 7 #[], .iload 3, .iadd, .aaload, .astore 4, .aload 4, .tableswitch 0 2 5 #[], .iload 2, .if_icmp .gt 118, .aload 4] 88 = true := qck_r (nn_ _) (by decide +kernel)
theorem bs_X7_tally_47 {P : Zt → Option Zv → Prop} (K : Int → Zl → List Zv → Zt → Prop) : sx_ K P [.iload 3, .aload 0, .tableswitch 0 7 1 #[], .tableswitch 0 0 8 #[], .if_icmp .ge 124, .aload 0, .tableswitch 0 7 0 #[], .tableswitch 0 6 3 #[], .aload 0, .tableswitch 0 7 1 #[], .tableswitch 0 0 7 #[], .iload 3, .iadd, .aaload, .astore 4, .aload 4, .tableswitch 0 2 5 #[], .iload 2, .if_icmp .gt 118, .aload 4] 88 = x_iload 3 (x_aload 0 (x_g5 107 100 1 (x_g0 100 8 0 400 (x_if_icmp .ge 124 K (x_aload 0 (x_g1 107 106 (x_g1 106 523 (x_aload 0 (x_g5 107 100 1 (x_g0 100 7 0 400 (x_iload 3 (x_iadd (x_aaload (x_astore 4 (x_aload 4 (x_g0 102 5 0 999 (x_iload 2 (x_if_icmp .gt 118 K (x_aload 4 (K 88)))))))))))))))))))) := ((xe_iload 3).trans (congrArg (x_iload 3) ((xe_aload 0).trans (congrArg (x_aload 0) ((xe_g5 (kk := 107) rfl tl_7_1).trans (congrArg (x_g5 107 100 1) ((xe_g0 (kk := 100) rfl tl_0_8).trans (congrArg (x_g0 100 8 0 400) ((xe_if_icmp .ge 124).trans (congrArg (x_if_icmp .ge 124 K) ((xe_aload 0).trans (congrArg (x_aload 0) ((xe_g1 (kk := 107) rfl tl_7_0).trans (congrArg (x_g1 107 106) ((xe_g1 (kk := 106) rfl tl_6_3).trans (congrArg (x_g1 106 523) ((xe_aload 0).trans (congrArg (x_aload 0) ((xe_g5 (kk := 107) rfl tl_7_1).trans (congrArg (x_g5 107 100 1) ((xe_g0 (kk := 100) rfl tl_0_7).trans (congrArg (x_g0 100 7 0 400) ((xe_iload 3).trans (congrArg (x_iload 3) ((xe_iadd).trans (congrArg (x_iadd) ((xe_aaload).trans (congrArg (x_aaload) ((xe_astore 4).trans (congrArg (x_astore 4) ((xe_aload 4).trans (congrArg (x_aload 4) ((xe_g0 (kk := 102) rfl tl_2_5).trans (congrArg (x_g0 102 5 0 999) ((xe_iload 2).trans (congrArg (x_iload 2) ((xe_if_icmp .gt 118).trans (congrArg (x_if_icmp .gt 118 K) ((xe_aload 4).trans (congrArg (x_aload 4) xe_nil))))))))))))))))))))))))))))))))))))))))
theorem bk_X7_tally_124 : ck_ fX7 none cX7_tally 124 [.iconst 0, .istore 3] 126 = true := qck_r (nn_ _) (by decide +kernel)
theorem bs_X7_tally_124 {P : Zt → Option Zv → Prop} (K : Int → Zl → List Zv → Zt → Prop) : sx_ K P [.iconst 0, .istore 3] 126 = x_iconst 0 (x_istore 3 (K 126)) := ((xe_iconst 0).trans (congrArg (x_iconst 0) ((xe_istore 3).trans (congrArg (x_istore 3) xe_nil))))
theorem bk_X7_tally_118 : ck_ fX7 none cX7_tally 118 [.iinc 3 1, .goto 47] 124 = true := qck_r (nn_ _) (by decide +kernel)
theorem bs_X7_tally_118 {P : Zt → Option Zv → Prop} (K : Int → Zl → List Zv → Zt → Prop) : sx_ K P [.iinc 3 1, .goto 47] 124 = x_iinc 3 1 (x_goto 47 K) := ((xe_iinc 3 1).trans (congrArg (x_iinc 3 1) (xe_goto 47)))
set_option maxRecDepth 100000 in
theorem cl_X7_80 : cv_ RX7 80 yX2_isDecided zX2_isDecided 2 0 := ⟨gi_V (lw_b5 205 (by decide +kernel) rfl : Cond.methodLink RX7 80 yX2_isDecided ∈ lw_g) (lw_b4 155 (by decide +kernel) rfl : Cond.instanceMethod yX2_isDecided ∈ lw_g) (lw_b4 156 (by decide +kernel) rfl : Cond.selects yX2_isDecided.cls yX2_isDecided yX2_isDecided ∈ lw_g) (lw_b1 16 (by decide +kernel) rfl : Cond.initialized yX2_isDecided.cls ∈ lw_g) (lw_b4 157 rfl rfl : Cond.code yX2_isDecided cX2_isDecided 1 (some .boolean) ∈ lw_g), ⟨by decide, by decide, by decide +kernel⟩, ⟨_, _, rfl⟩⟩
theorem bk_X7_tally_91 : ck_ fX7 none cX7_tally 91 [.ifCond .eq 118, .aload 0, .aload 4, .aload 4, .iconst 0] 100 = true := qck_r (nn_ _) (by decide +kernel)
theorem bs_X7_tally_91 {P : Zt → Option Zv → Prop} (K : Int → Zl → List Zv → Zt → Prop) : sx_ K P [.ifCond .eq 118, .aload 0, .aload 4, .aload 4, .iconst 0] 100 = x_ifCond .eq 118 K (x_aload 0 (x_aload 4 (x_aload 4 (x_iconst 0 (K 100))))) := ((xe_ifCond .eq 118).trans (congrArg (x_ifCond .eq 118 K) ((xe_aload 0).trans (congrArg (x_aload 0) ((xe_aload 4).trans (congrArg (x_aload 4) ((xe_aload 4).trans (congrArg (x_aload 4) ((xe_iconst 0).trans (congrArg (x_iconst 0) xe_nil))))))))))
set_option maxRecDepth 100000 in
theorem cl_X7_84 : cv_ RX7 84 yX2_scoreOf zX2_scoreOf 2 1 := ⟨gi_V (lw_b5 206 (by decide +kernel) rfl : Cond.methodLink RX7 84 yX2_scoreOf ∈ lw_g) (lw_b4 62 (by decide +kernel) rfl : Cond.instanceMethod yX2_scoreOf ∈ lw_g) (lw_b4 63 (by decide +kernel) rfl : Cond.selects yX2_scoreOf.cls yX2_scoreOf yX2_scoreOf ∈ lw_g) (lw_b1 16 (by decide +kernel) rfl : Cond.initialized yX2_scoreOf.cls ∈ lw_g) (lw_b4 64 rfl rfl : Cond.code yX2_scoreOf cX2_scoreOf 2 (some .int) ∈ lw_g), ⟨by decide, by decide, by decide +kernel⟩, ⟨_, _, rfl⟩⟩
theorem bk_X7_tally_103 : ck_ fX7 none cX7_tally 103 [.aload 4, .iconst 1] 106 = true := qck_r (nn_ _) (by decide +kernel)
theorem bs_X7_tally_103 {P : Zt → Option Zv → Prop} (K : Int → Zl → List Zv → Zt → Prop) : sx_ K P [.aload 4, .iconst 1] 106 = x_aload 4 (x_iconst 1 (K 106)) := ((xe_aload 4).trans (congrArg (x_aload 4) ((xe_iconst 1).trans (congrArg (x_iconst 1) xe_nil))))
set_option maxRecDepth 100000 in
theorem cl_X7_88 : cv_ RX7 88 yX7_addResult zX7_addResult 7 3 := ⟨gi_V (lw_b5 207 (by decide +kernel) rfl : Cond.methodLink RX7 88 yX7_addResult ∈ lw_g) (lw_b5 208 (by decide +kernel) rfl : Cond.instanceMethod yX7_addResult ∈ lw_g) (lw_b5 209 (by decide +kernel) rfl : Cond.selects yX7_addResult.cls yX7_addResult yX7_addResult ∈ lw_g) (lw_b1 5 (by decide +kernel) rfl : Cond.initialized yX7_addResult.cls ∈ lw_g) (lw_b5 210 rfl rfl : Cond.code yX7_addResult cX7_addResult 6 none ∈ lw_g), ⟨by decide, by decide, by decide +kernel⟩, ⟨_, _, rfl⟩⟩
theorem bk_X7_tally_112 : ck_ fX7 none cX7_tally 112 [.aload 0, .aload 4] 115 = true := qck_r (nn_ _) (by decide +kernel)
theorem bs_X7_tally_112 {P : Zt → Option Zv → Prop} (K : Int → Zl → List Zv → Zt → Prop) : sx_ K P [.aload 0, .aload 4] 115 = x_aload 0 (x_aload 4 (K 115)) := ((xe_aload 0).trans (congrArg (x_aload 0) ((xe_aload 4).trans (congrArg (x_aload 4) xe_nil))))
set_option maxRecDepth 100000 in
theorem cl_X7_92 : cv_ RX7 92 yX7_addCards zX7_addCards 7 1 := ⟨gi_V (lw_b5 215 (by decide +kernel) rfl : Cond.methodLink RX7 92 yX7_addCards ∈ lw_g) (lw_b5 217 (by decide +kernel) rfl : Cond.instanceMethod yX7_addCards ∈ lw_g) (lw_sel 127 rfl : Cond.selects yX7_addCards.cls yX7_addCards yX7_addCards ∈ lw_g) (lw_b1 5 (by decide +kernel) rfl : Cond.initialized yX7_addCards.cls ∈ lw_g) (lw_b5 218 rfl rfl : Cond.code yX7_addCards cX7_addCards 6 none ∈ lw_g), ⟨by decide, by decide, by decide +kernel⟩, ⟨_, _, rfl⟩⟩
theorem bk_X7_tally_0 : ck_ fX7 none cX7_tally 0 [.aload 0, .aload 1] 2 = true := qck_r (nn_ _) (by decide +kernel)
theorem bs_X7_tally_0 {P : Zt → Option Zv → Prop} (K : Int → Zl → List Zv → Zt → Prop) : sx_ K P [.aload 0, .aload 1] 2 = x_aload 0 (x_aload 1 (K 2)) := ((xe_aload 0).trans (congrArg (x_aload 0) ((xe_aload 1).trans (congrArg (x_aload 1) xe_nil))))
theorem fr5_X7_50 : fr5_ RX7 50 7 1 := ⟨_, _, _, rfl, by decide, by decide, (lw_b1 212 (by decide +kernel) rfl : Cond.fieldLink RX7 50 _ _ _ ∈ lw_g), rfl, fun a => ⟨.object "SportsHouse$Competition", by decide +kernel, rfl, rfl⟩⟩
theorem bk_X7_tally_5 : ck_ fX7 none cX7_tally 5 [.aload 0, .tableswitch 0 7 2 #[], .iconst 0] 10 = true := qck_r (nn_ _) (by decide +kernel)
theorem bs_X7_tally_5 {P : Zt → Option Zv → Prop} (K : Int → Zl → List Zv → Zt → Prop) : sx_ K P [.aload 0, .tableswitch 0 7 2 #[], .iconst 0] 10 = x_aload 0 (x_g1 107 542 (x_iconst 0 (K 10))) := ((xe_aload 0).trans (congrArg (x_aload 0) ((xe_g1 (kk := 107) rfl tl_7_2).trans (congrArg (x_g1 107 542) ((xe_iconst 0).trans (congrArg (x_iconst 0) xe_nil))))))
set_option maxRecDepth 100000 in
theorem cl_X7_54 : cs_ RX7 54 yJ7_fill_53178 zJ7_fill_53178 2 := ⟨gi_S (lw_b5 204 (by decide +kernel) rfl : Cond.methodLink RX7 54 yJ7_fill_53178 ∈ lw_g) (lw_b2 26 (by decide +kernel) rfl : Cond.static yJ7_fill_53178 ∈ lw_g) (lw_b1 7 (by decide +kernel) rfl : Cond.initialized yJ7_fill_53178.cls ∈ lw_g) (lw_b2 27 rfl rfl : Cond.code yJ7_fill_53178 cJ7_fill_53178 4 none ∈ lw_g), ⟨by decide, by decide, by decide +kernel⟩⟩
theorem bk_X7_tally_13 : ck_ fX7 none cX7_tally 13 [.aload 0, .tableswitch 0 7 3 #[], .iconst 0] 18 = true := qck_r (nn_ _) (by decide +kernel)
theorem bs_X7_tally_13 {P : Zt → Option Zv → Prop} (K : Int → Zl → List Zv → Zt → Prop) : sx_ K P [.aload 0, .tableswitch 0 7 3 #[], .iconst 0] 18 = x_aload 0 (x_g1 107 543 (x_iconst 0 (K 18))) := ((xe_aload 0).trans (congrArg (x_aload 0) ((xe_g1 (kk := 107) rfl tl_7_3).trans (congrArg (x_g1 107 543) ((xe_iconst 0).trans (congrArg (x_iconst 0) xe_nil))))))
theorem bk_X7_tally_21 : ck_ fX7 none cX7_tally 21 [.aload 0, .tableswitch 0 7 4 #[], .iconst 0] 26 = true := qck_r (nn_ _) (by decide +kernel)
theorem bs_X7_tally_21 {P : Zt → Option Zv → Prop} (K : Int → Zl → List Zv → Zt → Prop) : sx_ K P [.aload 0, .tableswitch 0 7 4 #[], .iconst 0] 26 = x_aload 0 (x_g1 107 544 (x_iconst 0 (K 26))) := ((xe_aload 0).trans (congrArg (x_aload 0) ((xe_g1 (kk := 107) rfl tl_7_4).trans (congrArg (x_g1 107 544) ((xe_iconst 0).trans (congrArg (x_iconst 0) xe_nil))))))
theorem bk_X7_tally_29 : ck_ fX7 none cX7_tally 29 [.aload 0, .tableswitch 0 7 5 #[], .iconst 0] 34 = true := qck_r (nn_ _) (by decide +kernel)
theorem bs_X7_tally_29 {P : Zt → Option Zv → Prop} (K : Int → Zl → List Zv → Zt → Prop) : sx_ K P [.aload 0, .tableswitch 0 7 5 #[], .iconst 0] 34 = x_aload 0 (x_g1 107 545 (x_iconst 0 (K 34))) := ((xe_aload 0).trans (congrArg (x_aload 0) ((xe_g1 (kk := 107) rfl tl_7_5).trans (congrArg (x_g1 107 545) ((xe_iconst 0).trans (congrArg (x_iconst 0) xe_nil))))))
theorem bk_X7_tally_37 : ck_ fX7 none cX7_tally 37 [.aload 0, .tableswitch 0 7 6 #[], .iconst 0] 42 = true := qck_r (nn_ _) (by decide +kernel)
theorem bs_X7_tally_37 {P : Zt → Option Zv → Prop} (K : Int → Zl → List Zv → Zt → Prop) : sx_ K P [.aload 0, .tableswitch 0 7 6 #[], .iconst 0] 42 = x_aload 0 (x_g1 107 546 (x_iconst 0 (K 42))) := ((xe_aload 0).trans (congrArg (x_aload 0) ((xe_g1 (kk := 107) rfl tl_7_6).trans (congrArg (x_g1 107 546) ((xe_iconst 0).trans (congrArg (x_iconst 0) xe_nil))))))
theorem bk_X7_tally_45 : ck_ fX7 none cX7_tally 45 [.iconst 0, .istore 3] 47 = true := qck_r (nn_ _) (by decide +kernel)
theorem bs_X7_tally_45 {P : Zt → Option Zv → Prop} (K : Int → Zl → List Zv → Zt → Prop) : sx_ K P [.iconst 0, .istore 3] 47 = x_iconst 0 (x_istore 3 (K 47)) := ((xe_iconst 0).trans (congrArg (x_iconst 0) ((xe_istore 3).trans (congrArg (x_istore 3) xe_nil))))
abbrev po_X7_tally (T : Zt) (c : Int) (d : Int) : Zt → Option Zv → Prop := fun T' r => r = none ∧ fr_ [(107, [1]), (542, []), (543, []), (544, []), (545, []), (546, [])] T T' ∧ (T' 107 0 1 = c + 1)
set_option maxHeartbeats 4000000 in
theorem ct_X7_tally {T : Zt} {c : Int} {d : Int} (hka : KA_ T) (hkc : KC_ T) (hc : 0 ≤ c ∧ c < T 106 0 2) : Ct_ yX7_tally zX7_tally T [vR 107 0, vR 100 c, vI d] (po_X7_tally T c d) := by
  refine ct_of pn_7 rfl rfl (Nat.le_of_ble_eq_true rfl) (fun hT hav => ?_)
  have hr_d : -2147483648 ≤ d ∧ d ≤ 2147483647 := hav (vI d) (by simp)
  have hz : zX7_tally.2.2.2.1 = some .boolean → ∀ (T' : Zt) (x : Int), po_X7_tally T c d T' (some (vI x)) → 0 ≤ x ∧ x ≤ 1 := fun h => by cases h
  have hk2 := hkc c hc.1 hc.2
  have hb_matchCount : 0 ≤ T 106 0 4 ∧ T 106 0 4 ≤ 400 := bd_f hT 106 4 (by decide +kernel : (tf_ 106)[4]? = some (0, 0, 0, 400)) 0
  have hcc : 0 ≤ T 106 0 2 ∧ T 106 0 2 ≤ 4 := bd_f hT 106 2 (by decide +kernel : (tf_ 106)[2]? = some (0, 0, 0, 4)) 0
  have hfm : 0 ≤ T 100 c 7 ∧ T 100 c 7 ≤ 400 := bd_f hT 100 7 (by decide +kernel : (tf_ 100)[7]? = some (0, 0, 0, 400)) c
  have hmc : 0 ≤ T 100 c 8 ∧ T 100 c 8 ≤ 400 := bd_f hT 100 8 (by decide +kernel : (tf_ 100)[8]? = some (0, 0, 0, 400)) c
  have hen : 0 ≤ T 100 c 5 ∧ T 100 c 5 ≤ 12 := bd_f hT 100 5 (by decide +kernel : (tf_ 100)[5]? = some (0, 0, 0, 12)) c
  show J_ zX7_tally T (po_X7_tally T c d) 0 0 0 [some (vR 107 0), some (vR 100 c), some (vI d), none, none] [] T
  have c_126 : ∀ (nn : Nat) (k : Int) (T2 : Zt), ((12 - k).toNat) ≤ nn → (fr_ [(107, [1]), (542, []), (543, []), (544, []), (545, []), (546, [])] T T2) → (0 ≤ k ∧ k ≤ 12) → (T2 107 0 1 = c + 1) → J_ zX7_tally T (po_X7_tally T c d) 0 0 126 [some (vR 107 0), some (vR 100 c), some (vI d), some (vI k), none] [] T2 := by
    intro nn
    induction nn using Nat.strongRecOn with
    | _ nn ih_126 =>
      intro k T2 hm_126 hf_126 i2 i3
      refine j_blx (F := fX7) tb_X7 (nn_ _) bk_X7_tally_126 bs_X7_tally_126 hz (fun K hK => ?_)
      refine And.intro (fun c1 => ?_) (fun c1 => ?_)
      · exact absurd c1 (by omega)
      · have z2 : T2 107 0 1 - 1 = c := by omega
        rw [z2]
        intro b3 b3b
        have e4 : T2 100 c 5 = T 100 c 5 := hf_126 100 c 5 rfl
        rw [e4] at b3 b3b ⊢
        refine And.intro (fun c5 => ?_) (fun c5 => ?_)
        · refine hK 182 _ [] T2 ?_
          refine j_blx (F := fX7) tb_X7 (nn_ _) bk_X7_tally_182 bs_X7_tally_182 hz (fun K hK => ?_)
          refine (show po_X7_tally T c d T2 (none) from ?_)
          exact ⟨rfl, fr_t (fr_0 _ _) (fr_s hf_126 rfl), by omega⟩
        · refine rg_i (by omega) ?_
          refine rg_i (by omega) ?_
          refine ix_i (by omega) ?_
          intro b6 b6b
          refine And.intro (fun c7 => ?_) (fun c7 => ?_)
          · exact absurd c7 (by omega)
          · have z8 : T2 107 0 1 - 1 = c := by omega
            rw [z8]
            intro b9 b9b
            have e10 : T2 100 c 0 = T 100 c 0 := hf_126 100 c 0 rfl
            rw [e10] at b9 b9b ⊢
            refine And.intro (fun c11 => ?_) (fun c11 => ?_)
            · exact absurd c11 (by omega)
            · have z12 : T2 107 0 1 - 1 = c := by omega
              rw [z12]
              refine ix_i (by omega) ?_
              intro b13 b13b
              have e14 : T2 403 c k = T 403 c k := hf_126 403 c k rfl
              rw [e14] at b13 b13b ⊢
              refine hK 171 _ [vI (T 403 c k), vI (T 100 c 0), vI d, vR 106 0, vI (T2 542 0 ((k * 8) + 6)), vI ((k * 8) + 6), vR 542 0] T2 ?_
              refine j_callV (y := yX6_deductedUpTo) (Yc := zX6_deductedUpTo) (rest := [vI (T2 542 0 ((k * 8) + 6)), vI ((k * 8) + 6), vR 542 0]) [vI d, vI (T 100 c 0), vI (T 403 c k)] (ct_X6_deductedUpTo (T := T2)) cl_X7_105 (qd_c (by decide +kernel)) (nn_ _) rfl (rf_of rfl) (Nat.le_of_ble_eq_true rfl) (Nat.le_of_ble_eq_true rfl) (Nat.le_of_ble_eq_true rfl) rfl ?_
              rintro _ _ ⟨rfl, x15, rfl, hx15⟩
              show J_ zX7_tally T (po_X7_tally T c d) 0 0 174 _ [vI x15, vI (T2 542 0 ((k * 8) + 6)), vI ((k * 8) + 6), vR 542 0] T2
              refine j_blx (F := fX7) tb_X7 (nn_ _) bk_X7_tally_174 bs_X7_tally_174 hz (fun K hK => ?_)
              intro w16 w16b
              refine iy_i (by omega) (by omega) ?_
              refine x_nm (fun U17 hU17 => ?_)
              have e18 := up_f hU17
              refine rg_i (by omega) ?_
              refine hK 126 [some (vR 107 0), some (vR 100 c), some (vI d), some (vI (k + 1)), none] [] U17 ?_
              have e19 : U17 107 0 1 = T2 107 0 1 := up_k hU17 (by exact Nat.ne_of_beq_eq_false rfl) 0 1
              refine ih_126 _ ?_ (k + 1) U17 (Nat.le_refl _) ?_ ?_ ?_
              · omega
              · exact fr_u (fr_t (fr_0 _ _) (fr_s hf_126 rfl)) hU17 rfl
              · omega
              · omega
  have c_47 : ∀ (nn : Nat) (k : Int) (T1 : Zt), ((T 100 c 8 - k).toNat) ≤ nn → (fr_ [(107, [1]), (542, []), (543, []), (544, []), (545, []), (546, [])] T T1) → (0 ≤ k ∧ k ≤ T 100 c 8) → (T1 107 0 1 = c + 1) → J_ zX7_tally T (po_X7_tally T c d) 0 0 47 [some (vR 107 0), some (vR 100 c), some (vI d), some (vI k), none] [] T1 := by
    intro nn
    induction nn using Nat.strongRecOn with
    | _ nn ih_47 =>
      intro k T1 hm_47 hf_47 i1 i0
      refine j_blx (F := fX7) tb_X7 (nn_ _) bk_X7_tally_47 bs_X7_tally_47 hz (fun K hK => ?_)
      refine And.intro (fun c20 => ?_) (fun c20 => ?_)
      · exact absurd c20 (by omega)
      · have z21 : T1 107 0 1 - 1 = c := by omega
        rw [z21]
        intro b22 b22b
        have e23 : T1 100 c 8 = T 100 c 8 := hf_47 100 c 8 rfl
        rw [e23] at b22 b22b ⊢
        refine And.intro (fun c24 => ?_) (fun c24 => ?_)
        · refine hK 124 _ [] T1 ?_
          refine j_blx (F := fX7) tb_X7 (nn_ _) bk_X7_tally_124 bs_X7_tally_124 hz (fun K hK => ?_)
          refine hK 126 [some (vR 107 0), some (vR 100 c), some (vI d), some (vI 0), none] [] T1 ?_
          refine c_126 _ 0 T1 (Nat.le_refl _) ?_ ?_ ?_
          · exact fr_t (fr_0 _ _) (fr_s hf_47 rfl)
          · omega
          · omega
        · refine And.intro (fun c25 => ?_) (fun c25 => ?_)
          · exact absurd c25 (by omega)
          · have z26 : T1 107 0 1 - 1 = c := by omega
            rw [z26]
            intro b27 b27b
            have e28 : T1 100 c 7 = T 100 c 7 := hf_47 100 c 7 rfl
            rw [e28] at b27 b27b ⊢
            refine rg_i (by omega) ?_
            refine ix_i (by omega) ?_
            have e30 : T1 523 0 ((T 100 c 7) + k) = T 523 0 ((T 100 c 7) + k) := hf_47 523 0 ((T 100 c 7) + k) rfl
            refine And.intro (fun c29 => ?_) (fun c29 => ?_)
            · exact absurd (show T 523 0 (T 100 c 7 + k) = 0 by omega) (hka.2 _ (by omega) (by omega))
            · intro b31 b31b
              have e32 : T1 102 ((T 100 c 7) + k) 5 = T 102 ((T 100 c 7) + k) 5 := hf_47 102 ((T 100 c 7) + k) 5 rfl
              rw [e32] at b31 b31b ⊢
              refine And.intro (fun c33 => ?_) (fun c33 => ?_)
              · refine hK 118 [some (vR 107 0), some (vR 100 c), some (vI d), some (vI k), some (vR 102 ((T 100 c 7) + k))] [] T1 ?_
                refine j_blx (F := fX7) tb_X7 (nn_ _) bk_X7_tally_118 bs_X7_tally_118 hz (fun K hK => ?_)
                refine rg_i (by omega) ?_
                refine hK 47 [some (vR 107 0), some (vR 100 c), some (vI d), some (vI (k + 1)), some (vR 102 ((T 100 c 7) + k))] [] T1 ?_
                refine j_drop [some (vR 107 0), some (vR 100 c), some (vI d), some (vI (k + 1)), none] (fun k v hk => ?_) rfl ?_
                · match k, hk with
                  | 0, hk => exact hk
                  | 1, hk => exact hk
                  | 2, hk => exact hk
                  | 3, hk => exact hk
                  | 4, hk => cases hk
                  | k + 5, hk => cases hk
                refine ih_47 _ ?_ (k + 1) T1 (Nat.le_refl _) ?_ ?_ ?_
                · omega
                · exact fr_t (fr_0 _ _) (fr_s hf_47 rfl)
                · omega
                · omega
              · refine hK 88 [some (vR 107 0), some (vR 100 c), some (vI d), some (vI k), some (vR 102 ((T 100 c 7) + k))] [vR 102 ((T 100 c 7) + k)] T1 ?_
                refine j_callV (y := yX2_isDecided) (Yc := zX2_isDecided) (rest := []) [] (ct_X2_isDecided (T := T1)) cl_X7_80 (qd_c (by decide +kernel)) (nn_ _) rfl (rf_of rfl) (Nat.le_of_ble_eq_true rfl) (Nat.le_of_ble_eq_true rfl) (Nat.le_of_ble_eq_true rfl) rfl ?_
                rintro _ _ ⟨rfl, x34, rfl, hx34⟩
                show J_ zX7_tally T (po_X7_tally T c d) 0 0 91 _ [vI x34] T1
                refine j_blx (F := fX7) tb_X7 (nn_ _) bk_X7_tally_91 bs_X7_tally_91 hz (fun K hK => ?_)
                refine And.intro (fun c35 => ?_) (fun c35 => ?_)
                · refine hK 118 _ [] T1 ?_
                  refine j_blx (F := fX7) tb_X7 (nn_ _) bk_X7_tally_118 bs_X7_tally_118 hz (fun K hK => ?_)
                  refine rg_i (by omega) ?_
                  refine hK 47 [some (vR 107 0), some (vR 100 c), some (vI d), some (vI (k + 1)), some (vR 102 ((T 100 c 7) + k))] [] T1 ?_
                  refine j_drop [some (vR 107 0), some (vR 100 c), some (vI d), some (vI (k + 1)), none] (fun k v hk => ?_) rfl ?_
                  · match k, hk with
                    | 0, hk => exact hk
                    | 1, hk => exact hk
                    | 2, hk => exact hk
                    | 3, hk => exact hk
                    | 4, hk => cases hk
                    | k + 5, hk => cases hk
                  refine ih_47 _ ?_ (k + 1) T1 (Nat.le_refl _) ?_ ?_ ?_
                  · omega
                  · exact fr_t (fr_0 _ _) (fr_s hf_47 rfl)
                  · omega
                  · omega
                · refine hK 100 [some (vR 107 0), some (vR 100 c), some (vI d), some (vI k), some (vR 102 ((T 100 c 7) + k))] [vI 0, vR 102 ((T 100 c 7) + k), vR 102 ((T 100 c 7) + k), vR 107 0] T1 ?_
                  refine j_callV (y := yX2_scoreOf) (Yc := zX2_scoreOf) (rest := [vR 102 ((T 100 c 7) + k), vR 107 0]) [vI 0] (ct_X2_scoreOf (T := T1) (by omega)) cl_X7_84 (qd_c (by decide +kernel)) (nn_ _) rfl (rf_of rfl) (Nat.le_of_ble_eq_true rfl) (Nat.le_of_ble_eq_true rfl) (Nat.le_of_ble_eq_true rfl) rfl ?_
                  rintro _ _ ⟨rfl, x36, rfl, hx36⟩
                  show J_ zX7_tally T (po_X7_tally T c d) 0 0 103 _ [vI x36, vR 102 ((T 100 c 7) + k), vR 107 0] T1
                  refine j_blx (F := fX7) tb_X7 (nn_ _) bk_X7_tally_103 bs_X7_tally_103 hz (fun K hK => ?_)
                  refine hK 106 _ [vI 1, vR 102 ((T 100 c 7) + k), vI x36, vR 102 ((T 100 c 7) + k), vR 107 0] T1 ?_
                  refine j_callV (y := yX2_scoreOf) (Yc := zX2_scoreOf) (rest := [vI x36, vR 102 ((T 100 c 7) + k), vR 107 0]) [vI 1] (ct_X2_scoreOf (T := T1) (by omega)) cl_X7_84 (qd_c (by decide +kernel)) (nn_ _) rfl (rf_of rfl) (Nat.le_of_ble_eq_true rfl) (Nat.le_of_ble_eq_true rfl) (Nat.le_of_ble_eq_true rfl) rfl ?_
                  rintro _ _ ⟨rfl, x37, rfl, hx37⟩
                  show J_ zX7_tally T (po_X7_tally T c d) 0 0 109 _ [vI x37, vI x36, vR 102 ((T 100 c 7) + k), vR 107 0] T1
                  refine j_callV (y := yX7_addResult) (Yc := zX7_addResult) (rest := []) [vR 102 ((T 100 c 7) + k), vI x36, vI x37] (ct_X7_addResult (T := T1) (by omega)) cl_X7_88 (qd_c (by decide +kernel)) (nn_ _) rfl (rf_of rfl) (Nat.le_of_ble_eq_true rfl) (Nat.le_of_ble_eq_true rfl) (Nat.le_of_ble_eq_true rfl) rfl ?_
                  rintro U38 _ ⟨rfl, fU38, qU38⟩
                  show J_ zX7_tally T (po_X7_tally T c d) 0 0 112 _ [] U38
                  refine j_blx (F := fX7) tb_X7 (nn_ _) bk_X7_tally_112 bs_X7_tally_112 hz (fun K hK => ?_)
                  refine hK 115 _ [vR 102 ((T 100 c 7) + k), vR 107 0] U38 ?_
                  have e39 : U38 107 0 1 = T1 107 0 1 := fU38 107 0 1 rfl
                  refine j_callV (y := yX7_addCards) (Yc := zX7_addCards) (rest := []) [vR 102 ((T 100 c 7) + k)] (ct_X7_addCards (T := U38) (by omega)) cl_X7_92 (qd_c (by decide +kernel)) (nn_ _) rfl (rf_of rfl) (Nat.le_of_ble_eq_true rfl) (Nat.le_of_ble_eq_true rfl) (Nat.le_of_ble_eq_true rfl) rfl ?_
                  rintro U40 _ ⟨rfl, fU40, qU40⟩
                  show J_ zX7_tally T (po_X7_tally T c d) 0 0 118 _ [] U40
                  refine j_blx (F := fX7) tb_X7 (nn_ _) bk_X7_tally_118 bs_X7_tally_118 hz (fun K hK => ?_)
                  refine rg_i (by omega) ?_
                  refine hK 47 [some (vR 107 0), some (vR 100 c), some (vI d), some (vI (k + 1)), some (vR 102 ((T 100 c 7) + k))] [] U40 ?_
                  refine j_drop [some (vR 107 0), some (vR 100 c), some (vI d), some (vI (k + 1)), none] (fun k v hk => ?_) rfl ?_
                  · match k, hk with
                    | 0, hk => exact hk
                    | 1, hk => exact hk
                    | 2, hk => exact hk
                    | 3, hk => exact hk
                    | 4, hk => cases hk
                    | k + 5, hk => cases hk
                  have e41 : U40 107 0 1 = T1 107 0 1 := (fU40 107 0 1 rfl).trans (fU38 107 0 1 rfl)
                  refine ih_47 _ ?_ (k + 1) U40 (Nat.le_refl _) ?_ ?_ ?_
                  · omega
                  · exact fr_t (fr_t (fr_t (fr_0 _ _) (fr_s hf_47 rfl)) (fr_s fU38 rfl)) (fr_s fU40 rfl)
                  · omega
                  · omega
  refine j_blx (F := fX7) tb_X7 (nn_ _) bk_X7_tally_0 bs_X7_tally_0 hz (fun K hK => ?_)
  refine hK 2 _ [vR 100 c, vR 107 0] T ?_
  refine j_putR (pc := 2) (ci := 7) (j := 1) (by decide) fr5_X7_50 rfl (by decide +kernel) (by omega) (by omega) (by omega) ?_
  refine j_nm (fun U42 hU42 => ?_)
  have e43 := up_f hU42
  show J_ zX7_tally T (po_X7_tally T c d) 0 0 5 _ [] U42
  refine j_blx (F := fX7) tb_X7 (nn_ _) bk_X7_tally_5 bs_X7_tally_5 hz (fun K hK => ?_)
  refine hK 10 _ [vI 0, vR 542 0] U42 ?_
  refine j_callS (y := yJ7_fill_53178) (Yc := zJ7_fill_53178) (rest := []) [vR 542 0, vI 0] (ct_J7_fill_542 (T := U42) (by omega)) cl_X7_54 (qd_c (by decide +kernel)) (nn_ _) rfl (rf_of rfl) (Nat.le_of_ble_eq_true rfl) (Nat.le_of_ble_eq_true rfl) (Nat.le_of_ble_eq_true rfl) rfl ?_
  rintro U44 _ ⟨rfl, fU44, qU44o, qU44⟩
  show J_ zX7_tally T (po_X7_tally T c d) 0 0 13 _ [] U44
  refine j_blx (F := fX7) tb_X7 (nn_ _) bk_X7_tally_13 bs_X7_tally_13 hz (fun K hK => ?_)
  refine hK 18 _ [vI 0, vR 543 0] U44 ?_
  refine j_callS (y := yJ7_fill_53178) (Yc := zJ7_fill_53178) (rest := []) [vR 543 0, vI 0] (ct_J7_fill_543 (T := U44) (by omega)) cl_X7_54 (qd_c (by decide +kernel)) (nn_ _) rfl (rf_of rfl) (Nat.le_of_ble_eq_true rfl) (Nat.le_of_ble_eq_true rfl) (Nat.le_of_ble_eq_true rfl) rfl ?_
  rintro U45 _ ⟨rfl, fU45, qU45o, qU45⟩
  show J_ zX7_tally T (po_X7_tally T c d) 0 0 21 _ [] U45
  refine j_blx (F := fX7) tb_X7 (nn_ _) bk_X7_tally_21 bs_X7_tally_21 hz (fun K hK => ?_)
  refine hK 26 _ [vI 0, vR 544 0] U45 ?_
  refine j_callS (y := yJ7_fill_53178) (Yc := zJ7_fill_53178) (rest := []) [vR 544 0, vI 0] (ct_J7_fill_544 (T := U45) (by omega)) cl_X7_54 (qd_c (by decide +kernel)) (nn_ _) rfl (rf_of rfl) (Nat.le_of_ble_eq_true rfl) (Nat.le_of_ble_eq_true rfl) (Nat.le_of_ble_eq_true rfl) rfl ?_
  rintro U46 _ ⟨rfl, fU46, qU46o, qU46⟩
  show J_ zX7_tally T (po_X7_tally T c d) 0 0 29 _ [] U46
  refine j_blx (F := fX7) tb_X7 (nn_ _) bk_X7_tally_29 bs_X7_tally_29 hz (fun K hK => ?_)
  refine hK 34 _ [vI 0, vR 545 0] U46 ?_
  refine j_callS (y := yJ7_fill_53178) (Yc := zJ7_fill_53178) (rest := []) [vR 545 0, vI 0] (ct_J7_fill_545 (T := U46) (by omega)) cl_X7_54 (qd_c (by decide +kernel)) (nn_ _) rfl (rf_of rfl) (Nat.le_of_ble_eq_true rfl) (Nat.le_of_ble_eq_true rfl) (Nat.le_of_ble_eq_true rfl) rfl ?_
  rintro U47 _ ⟨rfl, fU47, qU47o, qU47⟩
  show J_ zX7_tally T (po_X7_tally T c d) 0 0 37 _ [] U47
  refine j_blx (F := fX7) tb_X7 (nn_ _) bk_X7_tally_37 bs_X7_tally_37 hz (fun K hK => ?_)
  refine hK 42 _ [vI 0, vR 546 0] U47 ?_
  refine j_callS (y := yJ7_fill_53178) (Yc := zJ7_fill_53178) (rest := []) [vR 546 0, vI 0] (ct_J7_fill_546 (T := U47) (by omega)) cl_X7_54 (qd_c (by decide +kernel)) (nn_ _) rfl (rf_of rfl) (Nat.le_of_ble_eq_true rfl) (Nat.le_of_ble_eq_true rfl) (Nat.le_of_ble_eq_true rfl) rfl ?_
  rintro U48 _ ⟨rfl, fU48, qU48o, qU48⟩
  show J_ zX7_tally T (po_X7_tally T c d) 0 0 45 _ [] U48
  refine j_blx (F := fX7) tb_X7 (nn_ _) bk_X7_tally_45 bs_X7_tally_45 hz (fun K hK => ?_)
  refine hK 47 [some (vR 107 0), some (vR 100 c), some (vI d), some (vI 0), none] [] U48 ?_
  have e49 : U48 107 0 1 = c + 1 := (fU48 107 0 1 rfl).trans ((fU47 107 0 1 rfl).trans ((fU46 107 0 1 rfl).trans ((fU45 107 0 1 rfl).trans ((fU44 107 0 1 rfl).trans (up_f hU42)))))
  refine c_47 _ 0 U48 (Nat.le_refl _) ?_ ?_ ?_
  · exact fr_t (fr_t (fr_t (fr_t (fr_t (fr_u (fr_0 _ _) hU42 rfl) (fr_s fU44 rfl)) (fr_s fU45 rfl)) (fr_s fU46 rfl)) (fr_s fU47 rfl)) (fr_s fU48 rfl)
  · omega
  · omega
abbrev RJ6 : String := "java/lang/Integer"
def fJ6 : Zf := ([], [], [(265, 1431655765), (266, 858993459), (267, 252645135), (264, 65536)], [])
set_option maxRecDepth 100000 in
set_option maxHeartbeats 4000000 in
theorem tg_J6 : ∀ q ∈ fJ6.1, fl_ RJ6 q.1 q.2.1 q.2.2 := fun _ h => absurd h List.not_mem_nil
set_option maxRecDepth 100000 in
set_option maxHeartbeats 4000000 in
theorem tp_J6 : ∀ q ∈ fJ6.2.1, fp_ RJ6 q.1 q.2.1 q.2.2 := fun _ h => absurd h List.not_mem_nil
theorem tb_J6 : tb_ RJ6 fJ6 := ⟨tg_J6, tp_J6, List.forall_mem_cons.mpr ⟨⟨lw_b5 110 (by decide +kernel) rfl, by decide, by decide⟩, List.forall_mem_cons.mpr ⟨⟨lw_b5 111 (by decide +kernel) rfl, by decide, by decide⟩, List.forall_mem_cons.mpr ⟨⟨lw_b5 112 (by decide +kernel) rfl, by decide, by decide⟩, List.forall_mem_cons.mpr ⟨⟨lw_b6 86 (by decide +kernel) rfl, by decide, by decide⟩, fun _ h => absurd h List.not_mem_nil⟩⟩⟩⟩, fun _ h => absurd h List.not_mem_nil⟩
theorem an_63b (x : Int) : 0 ≤ an_ x 63 ∧ an_ x 63 ≤ 63 := by
  have h : ((Int32.ofInt x).toBitVec &&& (Int32.ofInt 63).toBitVec).toNat ≤ 63 := by
    rw [BitVec.toNat_and]; exact Nat.and_le_right
  show 0 ≤ ((Int32.ofInt x).toBitVec &&& (Int32.ofInt 63).toBitVec).toInt ∧ ((Int32.ofInt x).toBitVec &&& (Int32.ofInt 63).toBitVec).toInt ≤ 63
  rw [BitVec.toInt_eq_toNat_cond]
  split <;> omega
abbrev cJ6_bitCount_0f7a4 : ByteArray := prog_15_method_49_code
def yJ6_bitCount_0f7a4 : MethodName := ⟨RJ6, "bitCount", "(I)I"⟩
def zJ6_bitCount_0f7a4 : Zm := (RJ6, cJ6_bitCount_0f7a4, 1, (some .int), { frames := 0, cells := 0, slots := 0, locals := 0 })
theorem bk_J6_bitCount_0f7a4_0 : ck_ fJ6 (some .int) cJ6_bitCount_0f7a4 0 [.iload 0, .iload 0, .iconst 1, .iushr, .iconst 1431655765, .iand, .fsub, .istore 0, .iload 0, .iconst 858993459, .iand, .iload 0, .iconst 2, .iushr, .iconst 858993459, .iand, .fadd, .istore 0, .iload 0, .iload 0, .iconst 4, .iushr, .fadd, .iconst 252645135, .iand, .istore 0, .iload 0, .iload 0, .iconst 8, .iushr, .fadd, .istore 0, .iload 0, .iload 0, .iconst 16, .iushr, .fadd, .istore 0, .iload 0, .iconst 63, .iand, .ireturn] 53 = true := qck_r (nn_ _) (by decide +kernel)
theorem bs_J6_bitCount_0f7a4_0 {P : Zt → Option Zv → Prop} (K : Int → Zl → List Zv → Zt → Prop) : sx_ K P [.iload 0, .iload 0, .iconst 1, .iushr, .iconst 1431655765, .iand, .fsub, .istore 0, .iload 0, .iconst 858993459, .iand, .iload 0, .iconst 2, .iushr, .iconst 858993459, .iand, .fadd, .istore 0, .iload 0, .iload 0, .iconst 4, .iushr, .fadd, .iconst 252645135, .iand, .istore 0, .iload 0, .iload 0, .iconst 8, .iushr, .fadd, .istore 0, .iload 0, .iload 0, .iconst 16, .iushr, .fadd, .istore 0, .iload 0, .iconst 63, .iand, .ireturn] 53 = x_iload 0 (x_iload 0 (x_iconst 1 (x_iushr (x_iconst 1431655765 (x_iand (x_fsub (x_istore 0 (x_iload 0 (x_iconst 858993459 (x_iand (x_iload 0 (x_iconst 2 (x_iushr (x_iconst 858993459 (x_iand (x_fadd (x_istore 0 (x_iload 0 (x_iload 0 (x_iconst 4 (x_iushr (x_fadd (x_iconst 252645135 (x_iand (x_istore 0 (x_iload 0 (x_iload 0 (x_iconst 8 (x_iushr (x_fadd (x_istore 0 (x_iload 0 (x_iload 0 (x_iconst 16 (x_iushr (x_fadd (x_istore 0 (x_iload 0 (x_iconst 63 (x_iand (x_ireturn P))))))))))))))))))))))))))))))))))))))))) := ((xe_iload 0).trans (congrArg (x_iload 0) ((xe_iload 0).trans (congrArg (x_iload 0) ((xe_iconst 1).trans (congrArg (x_iconst 1) ((xe_iushr).trans (congrArg (x_iushr) ((xe_iconst 1431655765).trans (congrArg (x_iconst 1431655765) ((xe_iand).trans (congrArg (x_iand) ((xe_fsub).trans (congrArg (x_fsub) ((xe_istore 0).trans (congrArg (x_istore 0) ((xe_iload 0).trans (congrArg (x_iload 0) ((xe_iconst 858993459).trans (congrArg (x_iconst 858993459) ((xe_iand).trans (congrArg (x_iand) ((xe_iload 0).trans (congrArg (x_iload 0) ((xe_iconst 2).trans (congrArg (x_iconst 2) ((xe_iushr).trans (congrArg (x_iushr) ((xe_iconst 858993459).trans (congrArg (x_iconst 858993459) ((xe_iand).trans (congrArg (x_iand) ((xe_fadd).trans (congrArg (x_fadd) ((xe_istore 0).trans (congrArg (x_istore 0) ((xe_iload 0).trans (congrArg (x_iload 0) ((xe_iload 0).trans (congrArg (x_iload 0) ((xe_iconst 4).trans (congrArg (x_iconst 4) ((xe_iushr).trans (congrArg (x_iushr) ((xe_fadd).trans (congrArg (x_fadd) ((xe_iconst 252645135).trans (congrArg (x_iconst 252645135) ((xe_iand).trans (congrArg (x_iand) ((xe_istore 0).trans (congrArg (x_istore 0) ((xe_iload 0).trans (congrArg (x_iload 0) ((xe_iload 0).trans (congrArg (x_iload 0) ((xe_iconst 8).trans (congrArg (x_iconst 8) ((xe_iushr).trans (congrArg (x_iushr) ((xe_fadd).trans (congrArg (x_fadd) ((xe_istore 0).trans (congrArg (x_istore 0) ((xe_iload 0).trans (congrArg (x_iload 0) ((xe_iload 0).trans (congrArg (x_iload 0) ((xe_iconst 16).trans (congrArg (x_iconst 16) ((xe_iushr).trans (congrArg (x_iushr) ((xe_fadd).trans (congrArg (x_fadd) ((xe_istore 0).trans (congrArg (x_istore 0) ((xe_iload 0).trans (congrArg (x_iload 0) ((xe_iconst 63).trans (congrArg (x_iconst 63) ((xe_iand).trans (congrArg (x_iand) (xe_ireturn)))))))))))))))))))))))))))))))))))))))))))))))))))))))))))))))))))))))))))))))))))
abbrev po_J6_bitCount_0f7a4 (T : Zt) (a : Int) : Zt → Option Zv → Prop := fun T' r => T = T' ∧ ∃ x : Int, r = some (vI x) ∧ (0 ≤ x ∧ x ≤ 63)
set_option maxHeartbeats 4000000 in
theorem ct_J6_bitCount_0f7a4 {T : Zt} {a : Int} : Ct_ yJ6_bitCount_0f7a4 zJ6_bitCount_0f7a4 T [vI a] (po_J6_bitCount_0f7a4 T a) := by
  refine ct_of (by decide) rfl rfl (Nat.le_of_ble_eq_true rfl) (fun hT hav => ?_)
  have hr_a : -2147483648 ≤ a ∧ a ≤ 2147483647 := hav (vI a) (by simp)
  have hz : zJ6_bitCount_0f7a4.2.2.2.1 = some .boolean → ∀ (T' : Zt) (x : Int), po_J6_bitCount_0f7a4 T a T' (some (vI x)) → 0 ≤ x ∧ x ≤ 1 := fun h => by cases h
  show J_ zJ6_bitCount_0f7a4 T (po_J6_bitCount_0f7a4 T a) 0 0 0 [some (vI a)] [] T
  refine j_blx (F := fJ6) tb_J6 (nn_ _) bk_J6_bitCount_0f7a4_0 bs_J6_bitCount_0f7a4_0 hz (fun K hK => ?_)
  intro w1 w1b
  intro w2 w2b
  intro w3 w3b
  intro w4 w4b
  intro w5 w5b
  intro w6 w6b
  intro w7 w7b
  intro w8 w8b
  intro w9 w9b
  intro w10 w10b
  intro w11 w11b
  intro w12 w12b
  intro w13 w13b
  intro w14 w14b
  intro w15 w15b
  refine (show po_J6_bitCount_0f7a4 T a T (some (vI (an_ (wr_ ((wr_ ((an_ (wr_ ((wr_ ((an_ (wr_ (a - (an_ (us_ a 1) 1431655765))) 858993459) + (an_ (us_ (wr_ (a - (an_ (us_ a 1) 1431655765))) 2) 858993459))) + (us_ (wr_ ((an_ (wr_ (a - (an_ (us_ a 1) 1431655765))) 858993459) + (an_ (us_ (wr_ (a - (an_ (us_ a 1) 1431655765))) 2) 858993459))) 4))) 252645135) + (us_ (an_ (wr_ ((wr_ ((an_ (wr_ (a - (an_ (us_ a 1) 1431655765))) 858993459) + (an_ (us_ (wr_ (a - (an_ (us_ a 1) 1431655765))) 2) 858993459))) + (us_ (wr_ ((an_ (wr_ (a - (an_ (us_ a 1) 1431655765))) 858993459) + (an_ (us_ (wr_ (a - (an_ (us_ a 1) 1431655765))) 2) 858993459))) 4))) 252645135) 8))) + (us_ (wr_ ((an_ (wr_ ((wr_ ((an_ (wr_ (a - (an_ (us_ a 1) 1431655765))) 858993459) + (an_ (us_ (wr_ (a - (an_ (us_ a 1) 1431655765))) 2) 858993459))) + (us_ (wr_ ((an_ (wr_ (a - (an_ (us_ a 1) 1431655765))) 858993459) + (an_ (us_ (wr_ (a - (an_ (us_ a 1) 1431655765))) 2) 858993459))) 4))) 252645135) + (us_ (an_ (wr_ ((wr_ ((an_ (wr_ (a - (an_ (us_ a 1) 1431655765))) 858993459) + (an_ (us_ (wr_ (a - (an_ (us_ a 1) 1431655765))) 2) 858993459))) + (us_ (wr_ ((an_ (wr_ (a - (an_ (us_ a 1) 1431655765))) 858993459) + (an_ (us_ (wr_ (a - (an_ (us_ a 1) 1431655765))) 2) 858993459))) 4))) 252645135) 8))) 16))) 63))) from ?_)
  exact ⟨rfl, _, rfl, an_63b _⟩
abbrev cX3_hit : ByteArray := prog_5_method_23_code
def yX3_hit : MethodName := ⟨RX3, "hit", "(II)V"⟩
def zX3_hit : Zm := (RX3, cX3_hit, 4, none, { frames := 2, cells := 0, slots := 0, locals := 45 })
theorem bk_X3_hit_0 : ck_ fX3 none cX3_hit 0 [.aload 0, .tableswitch 0 3 7 #[], .iconst 1, .iaload, .iload 2, .ishl, .iconst 1, .iload 2, .iconst 1, .fsub, .ishl, .ior, .istore 3, .aload 0, .tableswitch 0 3 7 #[], .iconst 1, .iload 3, .iconst 7, .iand, .iastore, .aload 0, .iload 1, .iload 3, .iconst 3, .ishr] 30 = true := qck_r (nn_ _) (by decide +kernel)
theorem bs_X3_hit_0 {P : Zt → Option Zv → Prop} (K : Int → Zl → List Zv → Zt → Prop) : sx_ K P [.aload 0, .tableswitch 0 3 7 #[], .iconst 1, .iaload, .iload 2, .ishl, .iconst 1, .iload 2, .iconst 1, .fsub, .ishl, .ior, .istore 3, .aload 0, .tableswitch 0 3 7 #[], .iconst 1, .iload 3, .iconst 7, .iand, .iastore, .aload 0, .iload 1, .iload 3, .iconst 3, .ishr] 30 = x_aload 0 (x_g2 103 467 (x_iconst 1 (x_iaload (x_iload 2 (x_ishl (x_iconst 1 (x_iload 2 (x_iconst 1 (x_fsub (x_ishl (x_ior (x_istore 3 (x_aload 0 (x_g2 103 467 (x_iconst 1 (x_iload 3 (x_iconst 7 (x_iand (x_iastore (x_aload 0 (x_iload 1 (x_iload 3 (x_iconst 3 (x_ishr (K 30))))))))))))))))))))))))) := ((xe_aload 0).trans (congrArg (x_aload 0) ((xe_g2 (kk := 103) rfl tl_3_7).trans (congrArg (x_g2 103 467) ((xe_iconst 1).trans (congrArg (x_iconst 1) ((xe_iaload).trans (congrArg (x_iaload) ((xe_iload 2).trans (congrArg (x_iload 2) ((xe_ishl).trans (congrArg (x_ishl) ((xe_iconst 1).trans (congrArg (x_iconst 1) ((xe_iload 2).trans (congrArg (x_iload 2) ((xe_iconst 1).trans (congrArg (x_iconst 1) ((xe_fsub).trans (congrArg (x_fsub) ((xe_ishl).trans (congrArg (x_ishl) ((xe_ior).trans (congrArg (x_ior) ((xe_istore 3).trans (congrArg (x_istore 3) ((xe_aload 0).trans (congrArg (x_aload 0) ((xe_g2 (kk := 103) rfl tl_3_7).trans (congrArg (x_g2 103 467) ((xe_iconst 1).trans (congrArg (x_iconst 1) ((xe_iload 3).trans (congrArg (x_iload 3) ((xe_iconst 7).trans (congrArg (x_iconst 7) ((xe_iand).trans (congrArg (x_iand) ((xe_iastore).trans (congrArg (x_iastore) ((xe_aload 0).trans (congrArg (x_aload 0) ((xe_iload 1).trans (congrArg (x_iload 1) ((xe_iload 3).trans (congrArg (x_iload 3) ((xe_iconst 3).trans (congrArg (x_iconst 3) ((xe_ishr).trans (congrArg (x_ishr) xe_nil))))))))))))))))))))))))))))))))))))))))))))))))))
set_option maxRecDepth 100000 in
theorem cl_X3_138 : cs_ RX3 138 yJ6_bitCount_0f7a4 zJ6_bitCount_0f7a4 1 := ⟨gi_S (lw_b5 107 (by decide +kernel) rfl : Cond.methodLink RX3 138 yJ6_bitCount_0f7a4 ∈ lw_g) (lw_b5 108 (by decide +kernel) rfl : Cond.static yJ6_bitCount_0f7a4 ∈ lw_g) (lw_b1 19 (by decide +kernel) rfl : Cond.initialized yJ6_bitCount_0f7a4.cls ∈ lw_g) (lw_b5 109 rfl rfl : Cond.code yJ6_bitCount_0f7a4 cJ6_bitCount_0f7a4 1 (some .int) ∈ lw_g), ⟨by decide, by decide, by decide +kernel⟩⟩
theorem bk_X3_hit_36 : ck_ fX3 none cX3_hit 36 [.return_] 37 = true := qck_r (nn_ _) (by decide +kernel)
theorem bs_X3_hit_36 {P : Zt → Option Zv → Prop} (K : Int → Zl → List Zv → Zt → Prop) : sx_ K P [.return_] 37 = x_return_ P := (xe_return_)
abbrev po_X3_hit (T : Zt) (p : Int) (s v : Int) : Zt → Option Zv → Prop := fun T' r => r = none ∧ fr_ [(103, [3]), (466, []), (468, []), (467, [])] T T' ∧ (oi_ T T' p ∧ (T' 103 p 3 = 0 → 1 ≤ T' 470 p 0 ∧ 1 ≤ T' 470 p 1))
set_option maxHeartbeats 4000000 in
theorem ct_X3_hit {T : Zt} {p : Int} {s v : Int} (hs : 0 ≤ s ∧ s ≤ 1) (hfd : 1 ≤ T 470 p 0 ∧ 1 ≤ T 470 p 1) : Ct_ yX3_hit zX3_hit T [vR 103 p, vI s, vI v] (po_X3_hit T p s v) := by
  refine ct_of pn_3 rfl rfl (Nat.le_of_ble_eq_true rfl) (fun hT hav => ?_)
  have hr_s : -2147483648 ≤ s ∧ s ≤ 2147483647 := hav (vI s) (by simp)
  have hr_v : -2147483648 ≤ v ∧ v ≤ 2147483647 := hav (vI v) (by simp)
  have hz : zX3_hit.2.2.2.1 = some .boolean → ∀ (T' : Zt) (x : Int), po_X3_hit T p s v T' (some (vI x)) → 0 ≤ x ∧ x ≤ 1 := fun h => by cases h
  show J_ zX3_hit T (po_X3_hit T p s v) 0 0 0 [some (vR 103 p), some (vI s), some (vI v), none] [] T
  refine j_blx (F := fX3) tb_X3 (nn_ _) bk_X3_hit_0 bs_X3_hit_0 hz (fun K hK => ?_)
  refine ix_i (by omega) ?_
  intro b1 b1b
  intro w2 w2b
  intro w3 w3b
  intro w4 w4b
  intro w5 w5b
  intro w6 w6b
  refine iy_i (by omega) (by omega) ?_
  refine x_nm (fun U7 hU7 => ?_)
  have e8 := up_f hU7
  intro w9 w9b
  refine hK 30 [some (vR 103 p), some (vI s), some (vI v), some (vI (or_ (sl_ (T 467 p 1) v) (sl_ 1 (wr_ (v - 1)))))] [vI (sr_ (or_ (sl_ (T 467 p 1) v) (sl_ 1 (wr_ (v - 1)))) 3), vI s, vR 103 p] U7 ?_
  refine j_callS (y := yJ6_bitCount_0f7a4) (Yc := zJ6_bitCount_0f7a4) (rest := [vI s, vR 103 p]) [vI (sr_ (or_ (sl_ (T 467 p 1) v) (sl_ 1 (wr_ (v - 1)))) 3)] (ct_J6_bitCount_0f7a4 (T := U7)) cl_X3_138 (qd_c (by decide +kernel)) (nn_ _) rfl (rf_of rfl) (Nat.le_of_ble_eq_true rfl) (Nat.le_of_ble_eq_true rfl) (Nat.le_of_ble_eq_true rfl) rfl ?_
  rintro _ _ ⟨rfl, x10, rfl, hx10⟩
  show J_ zX3_hit T (po_X3_hit T p s v) 0 0 33 _ [vI x10, vI s, vR 103 p] U7
  have e11 : U7 470 p 0 = T 470 p 0 := up_k hU7 (by exact Nat.ne_of_beq_eq_false rfl) p 0
  have e12 : U7 470 p 1 = T 470 p 1 := up_k hU7 (by exact Nat.ne_of_beq_eq_false rfl) p 1
  refine j_callV (y := yX3_goOnBase) (Yc := zX3_goOnBase) (rest := []) [vI s, vI x10] (ct_X3_goOnBase (T := U7) (by omega) (by omega)) cl_X3_144 (qd_c (by decide +kernel)) (nn_ _) rfl (rf_of rfl) (Nat.le_of_ble_eq_true rfl) (Nat.le_of_ble_eq_true rfl) (Nat.le_of_ble_eq_true rfl) rfl ?_
  rintro U13 _ ⟨rfl, fU13, qU13o, qU13⟩
  show J_ zX3_hit T (po_X3_hit T p s v) 0 0 36 _ [] U13
  refine j_blx (F := fX3) tb_X3 (nn_ _) bk_X3_hit_36 bs_X3_hit_36 hz (fun K hK => ?_)
  refine (show po_X3_hit T p s v U13 (none) from ?_)
  have e14 : U13 470 p 0 = T 470 p 0 := (fU13 470 p 0 rfl).trans (up_k hU7 (by exact Nat.ne_of_beq_eq_false rfl) p 0)
  have e15 : U13 470 p 1 = T 470 p 1 := (fU13 470 p 1 rfl).trans (up_k hU7 (by exact Nat.ne_of_beq_eq_false rfl) p 1)
  have g16 : U13 470 p 0 = T 470 p 0 := (fU13 470 p 0 rfl).trans (up_k hU7 (by exact Nat.ne_of_beq_eq_false rfl) p 0)
  have g17 : U13 470 p 1 = T 470 p 1 := (fU13 470 p 1 rfl).trans (up_k hU7 (by exact Nat.ne_of_beq_eq_false rfl) p 1)
  exact ⟨rfl, fr_t (fr_u (fr_0 _ _) hU7 rfl) (fr_s fU13 rfl), oi_t (oi_u (oi_r) hU7) qU13o, by exact fun _ => by omega⟩
abbrev cX3_playBaseball : ByteArray := prog_5_method_22_code
def yX3_playBaseball : MethodName := ⟨RX3, "playBaseball", "(III)V"⟩
def zX3_playBaseball : Zm := (RX3, cX3_playBaseball, 4, none, { frames := 3, cells := 0, slots := 0, locals := 68 })
theorem bk_X3_playBaseball_0 : ck_ fX3 none cX3_playBaseball 0 [.iload 1] 1 = true := qck_r (nn_ _) (by decide +kernel)
theorem bs_X3_playBaseball_0 {P : Zt → Option Zv → Prop} (K : Int → Zl → List Zv → Zt → Prop) : sx_ K P [.iload 1] 1 = x_iload 1 (K 1) := ((xe_iload 1).trans (congrArg (x_iload 1) xe_nil))
theorem ds_X3_playBaseball_1 : decode cX3_playBaseball 1 = .ok (.tableswitch 91 1 3 #[27, 36, 64], 27) := by decide +kernel
theorem bk_X3_playBaseball_28 : ck_ fX3 none cX3_playBaseball 28 [.aload 0, .iload 2, .iload 3] 31 = true := qck_r (nn_ _) (by decide +kernel)
theorem bs_X3_playBaseball_28 {P : Zt → Option Zv → Prop} (K : Int → Zl → List Zv → Zt → Prop) : sx_ K P [.aload 0, .iload 2, .iload 3] 31 = x_aload 0 (x_iload 2 (x_iload 3 (K 31))) := ((xe_aload 0).trans (congrArg (x_aload 0) ((xe_iload 2).trans (congrArg (x_iload 2) ((xe_iload 3).trans (congrArg (x_iload 3) xe_nil))))))
set_option maxRecDepth 100000 in
theorem cl_X3_129 : cv_ RX3 129 yX3_hit zX3_hit 3 2 := ⟨gi_V (lw_b5 103 (by decide +kernel) rfl : Cond.methodLink RX3 129 yX3_hit ∈ lw_g) (lw_b5 105 (by decide +kernel) rfl : Cond.instanceMethod yX3_hit ∈ lw_g) (lw_sel 89 rfl : Cond.selects yX3_hit.cls yX3_hit yX3_hit ∈ lw_g) (lw_b1 18 (by decide +kernel) rfl : Cond.initialized yX3_hit.cls ∈ lw_g) (lw_b5 106 rfl rfl : Cond.code yX3_hit cX3_hit 4 none ∈ lw_g), ⟨by decide, by decide, by decide +kernel⟩, ⟨_, _, rfl⟩⟩
theorem bk_X3_playBaseball_34 : ck_ fX3 none cX3_playBaseball 34 [.goto 96] 37 = true := qck_r (nn_ _) (by decide +kernel)
theorem bs_X3_playBaseball_34 {P : Zt → Option Zv → Prop} (K : Int → Zl → List Zv → Zt → Prop) : sx_ K P [.goto 96] 37 = x_goto 96 K := (xe_goto 96)
theorem bk_X3_playBaseball_96 : ck_ fX3 none cX3_playBaseball 96 [.return_] 97 = true := qck_r (nn_ _) (by decide +kernel)
theorem bs_X3_playBaseball_96 {P : Zt → Option Zv → Prop} (K : Int → Zl → List Zv → Zt → Prop) : sx_ K P [.return_] 97 = x_return_ P := (xe_return_)
theorem bk_X3_playBaseball_37 : ck_ fX3 none cX3_playBaseball 37 [.aload 0, .tableswitch 0 3 6 #[], .iconst 0, .dup2, .iaload, .iconst 1, .fadd, .iastore, .aload 0, .tableswitch 0 3 6 #[], .iconst 0, .iaload, .iconst 4, .if_icmp .ne 96, .aload 0, .iload 2] 59 = true := qck_r (nn_ _) (by decide +kernel)
theorem bs_X3_playBaseball_37 {P : Zt → Option Zv → Prop} (K : Int → Zl → List Zv → Zt → Prop) : sx_ K P [.aload 0, .tableswitch 0 3 6 #[], .iconst 0, .dup2, .iaload, .iconst 1, .fadd, .iastore, .aload 0, .tableswitch 0 3 6 #[], .iconst 0, .iaload, .iconst 4, .if_icmp .ne 96, .aload 0, .iload 2] 59 = x_aload 0 (x_g2 103 466 (x_iconst 0 (x_dup2 (x_iaload (x_iconst 1 (x_fadd (x_iastore (x_aload 0 (x_g2 103 466 (x_iconst 0 (x_iaload (x_iconst 4 (x_if_icmp .ne 96 K (x_aload 0 (x_iload 2 (K 59)))))))))))))))) := ((xe_aload 0).trans (congrArg (x_aload 0) ((xe_g2 (kk := 103) rfl tl_3_6).trans (congrArg (x_g2 103 466) ((xe_iconst 0).trans (congrArg (x_iconst 0) ((xe_dup2).trans (congrArg (x_dup2) ((xe_iaload).trans (congrArg (x_iaload) ((xe_iconst 1).trans (congrArg (x_iconst 1) ((xe_fadd).trans (congrArg (x_fadd) ((xe_iastore).trans (congrArg (x_iastore) ((xe_aload 0).trans (congrArg (x_aload 0) ((xe_g2 (kk := 103) rfl tl_3_6).trans (congrArg (x_g2 103 466) ((xe_iconst 0).trans (congrArg (x_iconst 0) ((xe_iaload).trans (congrArg (x_iaload) ((xe_iconst 4).trans (congrArg (x_iconst 4) ((xe_if_icmp .ne 96).trans (congrArg (x_if_icmp .ne 96 K) ((xe_aload 0).trans (congrArg (x_aload 0) ((xe_iload 2).trans (congrArg (x_iload 2) xe_nil))))))))))))))))))))))))))))))))
set_option maxRecDepth 100000 in
theorem cl_X3_132 : cv_ RX3 132 yX3_walk zX3_walk 3 1 := ⟨gi_V (lw_b5 121 (by decide +kernel) rfl : Cond.methodLink RX3 132 yX3_walk ∈ lw_g) (lw_b5 123 (by decide +kernel) rfl : Cond.instanceMethod yX3_walk ∈ lw_g) (lw_sel 102 rfl : Cond.selects yX3_walk.cls yX3_walk yX3_walk ∈ lw_g) (lw_b1 18 (by decide +kernel) rfl : Cond.initialized yX3_walk.cls ∈ lw_g) (lw_b5 124 rfl rfl : Cond.code yX3_walk cX3_walk 3 none ∈ lw_g), ⟨by decide, by decide, by decide +kernel⟩, ⟨_, _, rfl⟩⟩
theorem bk_X3_playBaseball_62 : ck_ fX3 none cX3_playBaseball 62 [.goto 96] 65 = true := qck_r (nn_ _) (by decide +kernel)
theorem bs_X3_playBaseball_62 {P : Zt → Option Zv → Prop} (K : Int → Zl → List Zv → Zt → Prop) : sx_ K P [.goto 96] 65 = x_goto 96 K := (xe_goto 96)
theorem bk_X3_playBaseball_65 : ck_ fX3 none cX3_playBaseball 65 [.aload 0, .tableswitch 0 3 6 #[], .iconst 1, .dup2, .iaload, .iconst 1, .fadd, .iastore, .aload 0, .tableswitch 0 3 6 #[], .iconst 1, .iaload, .iconst 3, .if_icmp .ne 96, .aload 0] 86 = true := qck_r (nn_ _) (by decide +kernel)
theorem bs_X3_playBaseball_65 {P : Zt → Option Zv → Prop} (K : Int → Zl → List Zv → Zt → Prop) : sx_ K P [.aload 0, .tableswitch 0 3 6 #[], .iconst 1, .dup2, .iaload, .iconst 1, .fadd, .iastore, .aload 0, .tableswitch 0 3 6 #[], .iconst 1, .iaload, .iconst 3, .if_icmp .ne 96, .aload 0] 86 = x_aload 0 (x_g2 103 466 (x_iconst 1 (x_dup2 (x_iaload (x_iconst 1 (x_fadd (x_iastore (x_aload 0 (x_g2 103 466 (x_iconst 1 (x_iaload (x_iconst 3 (x_if_icmp .ne 96 K (x_aload 0 (K 86))))))))))))))) := ((xe_aload 0).trans (congrArg (x_aload 0) ((xe_g2 (kk := 103) rfl tl_3_6).trans (congrArg (x_g2 103 466) ((xe_iconst 1).trans (congrArg (x_iconst 1) ((xe_dup2).trans (congrArg (x_dup2) ((xe_iaload).trans (congrArg (x_iaload) ((xe_iconst 1).trans (congrArg (x_iconst 1) ((xe_fadd).trans (congrArg (x_fadd) ((xe_iastore).trans (congrArg (x_iastore) ((xe_aload 0).trans (congrArg (x_aload 0) ((xe_g2 (kk := 103) rfl tl_3_6).trans (congrArg (x_g2 103 466) ((xe_iconst 1).trans (congrArg (x_iconst 1) ((xe_iaload).trans (congrArg (x_iaload) ((xe_iconst 3).trans (congrArg (x_iconst 3) ((xe_if_icmp .ne 96).trans (congrArg (x_if_icmp .ne 96 K) ((xe_aload 0).trans (congrArg (x_aload 0) xe_nil))))))))))))))))))))))))))))))
set_option maxRecDepth 100000 in
theorem cl_X3_135 : cv_ RX3 135 yX3_countOut zX3_countOut 3 0 := ⟨gi_V (lw_b5 125 (by decide +kernel) rfl : Cond.methodLink RX3 135 yX3_countOut ∈ lw_g) (lw_b5 127 (by decide +kernel) rfl : Cond.instanceMethod yX3_countOut ∈ lw_g) (lw_sel 85 rfl : Cond.selects yX3_countOut.cls yX3_countOut yX3_countOut ∈ lw_g) (lw_b1 18 (by decide +kernel) rfl : Cond.initialized yX3_countOut.cls ∈ lw_g) (lw_b5 128 rfl rfl : Cond.code yX3_countOut cX3_countOut 1 none ∈ lw_g), ⟨by decide, by decide, by decide +kernel⟩, ⟨_, _, rfl⟩⟩
theorem bk_X3_playBaseball_89 : ck_ fX3 none cX3_playBaseball 89 [.goto 96] 92 = true := qck_r (nn_ _) (by decide +kernel)
theorem bs_X3_playBaseball_89 {P : Zt → Option Zv → Prop} (K : Int → Zl → List Zv → Zt → Prop) : sx_ K P [.goto 96] 92 = x_goto 96 K := (xe_goto 96)
theorem bk_X3_playBaseball_92 : ck_ fX3 none cX3_playBaseball 92 [.aload 0] 93 = true := qck_r (nn_ _) (by decide +kernel)
theorem bs_X3_playBaseball_92 {P : Zt → Option Zv → Prop} (K : Int → Zl → List Zv → Zt → Prop) : sx_ K P [.aload 0] 93 = x_aload 0 (K 93) := ((xe_aload 0).trans (congrArg (x_aload 0) xe_nil))
abbrev po_X3_playBaseball (T : Zt) (p : Int) (k s v : Int) : Zt → Option Zv → Prop := fun T' r => r = none ∧ fr_ [(103, [3, 4, 5]), (466, []), (467, []), (468, [])] T T' ∧ (oi_ T T' p ∧ (T' 103 p 3 = 0 → 1 ≤ T' 470 p 0 ∧ 1 ≤ T' 470 p 1))
set_option maxHeartbeats 4000000 in
theorem ct_X3_playBaseball {T : Zt} {p : Int} {k s v : Int} (hs : 0 ≤ s ∧ s ≤ 1) (hfd : 1 ≤ T 470 p 0 ∧ 1 ≤ T 470 p 1) : Ct_ yX3_playBaseball zX3_playBaseball T [vR 103 p, vI k, vI s, vI v] (po_X3_playBaseball T p k s v) := by
  refine ct_of pn_3 rfl rfl (Nat.le_of_ble_eq_true rfl) (fun hT hav => ?_)
  have hr_k : -2147483648 ≤ k ∧ k ≤ 2147483647 := hav (vI k) (by simp)
  have hr_s : -2147483648 ≤ s ∧ s ≤ 2147483647 := hav (vI s) (by simp)
  have hr_v : -2147483648 ≤ v ∧ v ≤ 2147483647 := hav (vI v) (by simp)
  have hz : zX3_playBaseball.2.2.2.1 = some .boolean → ∀ (T' : Zt) (x : Int), po_X3_playBaseball T p k s v T' (some (vI x)) → 0 ≤ x ∧ x ≤ 1 := fun h => by cases h
  show J_ zX3_playBaseball T (po_X3_playBaseball T p k s v) 0 0 0 [some (vR 103 p), some (vI k), some (vI s), some (vI v)] [] T
  refine j_blx (F := fX3) tb_X3 (nn_ _) bk_X3_playBaseball_0 bs_X3_playBaseball_0 hz (fun K hK => ?_)
  refine hK 1 _ [vI k] T ?_
  by_cases z1_0 : k = 1
  · refine j_tsI (pc := 1) 0 (off := 27) (tgt := 28) (by decide) ds_X3_playBaseball_1 (by omega) (by decide) rfl (by decide) (by decide) ?_
    refine j_blx (F := fX3) tb_X3 (nn_ _) bk_X3_playBaseball_28 bs_X3_playBaseball_28 hz (fun K hK => ?_)
    refine hK 31 _ [vI v, vI s, vR 103 p] T ?_
    refine j_callV (y := yX3_hit) (Yc := zX3_hit) (rest := []) [vI s, vI v] (ct_X3_hit (T := T) (by omega) (by omega)) cl_X3_129 (qd_c (by decide +kernel)) (nn_ _) rfl (rf_of rfl) (Nat.le_of_ble_eq_true rfl) (Nat.le_of_ble_eq_true rfl) (Nat.le_of_ble_eq_true rfl) rfl ?_
    rintro U2 _ ⟨rfl, fU2, qU2o, qU2⟩
    show J_ zX3_playBaseball T (po_X3_playBaseball T p k s v) 0 0 34 _ [] U2
    refine j_blx (F := fX3) tb_X3 (nn_ _) bk_X3_playBaseball_34 bs_X3_playBaseball_34 hz (fun K hK => ?_)
    refine hK 96 _ [] U2 ?_
    refine j_blx (F := fX3) tb_X3 (nn_ _) bk_X3_playBaseball_96 bs_X3_playBaseball_96 hz (fun K hK => ?_)
    refine (show po_X3_playBaseball T p k s v U2 (none) from ?_)
    have e3 : U2 470 p 0 = T 470 p 0 := fU2 470 p 0 rfl
    have e4 : U2 470 p 1 = T 470 p 1 := fU2 470 p 1 rfl
    have g5 : U2 470 p 0 = T 470 p 0 := fU2 470 p 0 rfl
    have g6 : U2 470 p 1 = T 470 p 1 := fU2 470 p 1 rfl
    exact ⟨rfl, fr_t (fr_0 _ _) (fr_s fU2 rfl), oi_t (oi_r) qU2o, by exact fun _ => by omega⟩
  by_cases z1_1 : k = 2
  · refine j_tsI (pc := 1) 1 (off := 36) (tgt := 37) (by decide) ds_X3_playBaseball_1 (by omega) (by decide) rfl (by decide) (by decide) ?_
    refine j_blx (F := fX3) tb_X3 (nn_ _) bk_X3_playBaseball_37 bs_X3_playBaseball_37 hz (fun K hK => ?_)
    refine ix_i (by omega) ?_
    intro b7 b7b
    intro w8 w8b
    refine iy_i (by omega) (by omega) ?_
    refine x_nm (fun U9 hU9 => ?_)
    have e10 := up_f hU9
    refine ix_i (by omega) ?_
    intro b11 b11b
    have e12 : U9 466 p 0 = wr_ ((T 466 p 0) + 1) := up_f hU9
    rw [e12] at b11 b11b ⊢
    refine And.intro (fun c13 => ?_) (fun c13 => ?_)
    · refine hK 96 _ [] U9 ?_
      refine j_blx (F := fX3) tb_X3 (nn_ _) bk_X3_playBaseball_96 bs_X3_playBaseball_96 hz (fun K hK => ?_)
      refine (show po_X3_playBaseball T p k s v U9 (none) from ?_)
      have e14 : U9 103 p 3 = T 103 p 3 := up_k hU9 (by exact Nat.ne_of_beq_eq_false rfl) p 3
      have e15 : U9 470 p 0 = T 470 p 0 := up_k hU9 (by exact Nat.ne_of_beq_eq_false rfl) p 0
      have e16 : U9 470 p 1 = T 470 p 1 := up_k hU9 (by exact Nat.ne_of_beq_eq_false rfl) p 1
      have g17 : U9 470 p 0 = T 470 p 0 := up_k hU9 (by exact Nat.ne_of_beq_eq_false rfl) p 0
      have g18 : U9 470 p 1 = T 470 p 1 := up_k hU9 (by exact Nat.ne_of_beq_eq_false rfl) p 1
      have e19 : U9 103 p 3 = T 103 p 3 := up_k hU9 (by exact Nat.ne_of_beq_eq_false rfl) p 3
      exact ⟨rfl, fr_u (fr_0 _ _) hU9 rfl, oi_u (oi_r) hU9, by exact fun _ => by omega⟩
    · refine hK 59 _ [vI s, vR 103 p] U9 ?_
      have e20 : U9 470 p 0 = T 470 p 0 := up_k hU9 (by exact Nat.ne_of_beq_eq_false rfl) p 0
      have e21 : U9 470 p 1 = T 470 p 1 := up_k hU9 (by exact Nat.ne_of_beq_eq_false rfl) p 1
      refine j_callV (y := yX3_walk) (Yc := zX3_walk) (rest := []) [vI s] (ct_X3_walk (T := U9) (by omega) (by omega)) cl_X3_132 (qd_c (by decide +kernel)) (nn_ _) rfl (rf_of rfl) (Nat.le_of_ble_eq_true rfl) (Nat.le_of_ble_eq_true rfl) (Nat.le_of_ble_eq_true rfl) rfl ?_
      rintro U22 _ ⟨rfl, fU22, qU22o, qU22⟩
      show J_ zX3_playBaseball T (po_X3_playBaseball T p k s v) 0 0 62 _ [] U22
      refine j_blx (F := fX3) tb_X3 (nn_ _) bk_X3_playBaseball_62 bs_X3_playBaseball_62 hz (fun K hK => ?_)
      refine hK 96 _ [] U22 ?_
      refine j_blx (F := fX3) tb_X3 (nn_ _) bk_X3_playBaseball_96 bs_X3_playBaseball_96 hz (fun K hK => ?_)
      refine (show po_X3_playBaseball T p k s v U22 (none) from ?_)
      have e23 : U22 470 p 0 = T 470 p 0 := (fU22 470 p 0 rfl).trans (up_k hU9 (by exact Nat.ne_of_beq_eq_false rfl) p 0)
      have e24 : U22 470 p 1 = T 470 p 1 := (fU22 470 p 1 rfl).trans (up_k hU9 (by exact Nat.ne_of_beq_eq_false rfl) p 1)
      have g25 : U22 470 p 0 = T 470 p 0 := (fU22 470 p 0 rfl).trans (up_k hU9 (by exact Nat.ne_of_beq_eq_false rfl) p 0)
      have g26 : U22 470 p 1 = T 470 p 1 := (fU22 470 p 1 rfl).trans (up_k hU9 (by exact Nat.ne_of_beq_eq_false rfl) p 1)
      exact ⟨rfl, fr_t (fr_u (fr_0 _ _) hU9 rfl) (fr_s fU22 rfl), oi_t (oi_u (oi_r) hU9) qU22o, by exact fun _ => by omega⟩
  by_cases z1_2 : k = 3
  · refine j_tsI (pc := 1) 2 (off := 64) (tgt := 65) (by decide) ds_X3_playBaseball_1 (by omega) (by decide) rfl (by decide) (by decide) ?_
    refine j_blx (F := fX3) tb_X3 (nn_ _) bk_X3_playBaseball_65 bs_X3_playBaseball_65 hz (fun K hK => ?_)
    refine ix_i (by omega) ?_
    intro b27 b27b
    intro w28 w28b
    refine iy_i (by omega) (by omega) ?_
    refine x_nm (fun U29 hU29 => ?_)
    have e30 := up_f hU29
    refine ix_i (by omega) ?_
    intro b31 b31b
    have e32 : U29 466 p 1 = wr_ ((T 466 p 1) + 1) := up_f hU29
    rw [e32] at b31 b31b ⊢
    refine And.intro (fun c33 => ?_) (fun c33 => ?_)
    · refine hK 96 _ [] U29 ?_
      refine j_blx (F := fX3) tb_X3 (nn_ _) bk_X3_playBaseball_96 bs_X3_playBaseball_96 hz (fun K hK => ?_)
      refine (show po_X3_playBaseball T p k s v U29 (none) from ?_)
      have e34 : U29 103 p 3 = T 103 p 3 := up_k hU29 (by exact Nat.ne_of_beq_eq_false rfl) p 3
      have e35 : U29 470 p 0 = T 470 p 0 := up_k hU29 (by exact Nat.ne_of_beq_eq_false rfl) p 0
      have e36 : U29 470 p 1 = T 470 p 1 := up_k hU29 (by exact Nat.ne_of_beq_eq_false rfl) p 1
      have g37 : U29 470 p 0 = T 470 p 0 := up_k hU29 (by exact Nat.ne_of_beq_eq_false rfl) p 0
      have g38 : U29 470 p 1 = T 470 p 1 := up_k hU29 (by exact Nat.ne_of_beq_eq_false rfl) p 1
      have e39 : U29 103 p 3 = T 103 p 3 := up_k hU29 (by exact Nat.ne_of_beq_eq_false rfl) p 3
      exact ⟨rfl, fr_u (fr_0 _ _) hU29 rfl, oi_u (oi_r) hU29, by exact fun _ => by omega⟩
    · refine hK 86 _ [vR 103 p] U29 ?_
      have e40 : U29 470 p 0 = T 470 p 0 := up_k hU29 (by exact Nat.ne_of_beq_eq_false rfl) p 0
      have e41 : U29 470 p 1 = T 470 p 1 := up_k hU29 (by exact Nat.ne_of_beq_eq_false rfl) p 1
      refine j_callV (y := yX3_countOut) (Yc := zX3_countOut) (rest := []) [] (ct_X3_countOut (T := U29) (by omega)) cl_X3_135 (qd_c (by decide +kernel)) (nn_ _) rfl (rf_of rfl) (Nat.le_of_ble_eq_true rfl) (Nat.le_of_ble_eq_true rfl) (Nat.le_of_ble_eq_true rfl) rfl ?_
      rintro U42 _ ⟨rfl, fU42, qU42o, qU42⟩
      show J_ zX3_playBaseball T (po_X3_playBaseball T p k s v) 0 0 89 _ [] U42
      refine j_blx (F := fX3) tb_X3 (nn_ _) bk_X3_playBaseball_89 bs_X3_playBaseball_89 hz (fun K hK => ?_)
      refine hK 96 _ [] U42 ?_
      refine j_blx (F := fX3) tb_X3 (nn_ _) bk_X3_playBaseball_96 bs_X3_playBaseball_96 hz (fun K hK => ?_)
      refine (show po_X3_playBaseball T p k s v U42 (none) from ?_)
      have e43 : U42 470 p 0 = T 470 p 0 := (fU42 470 p 0 rfl).trans (up_k hU29 (by exact Nat.ne_of_beq_eq_false rfl) p 0)
      have e44 : U42 470 p 1 = T 470 p 1 := (fU42 470 p 1 rfl).trans (up_k hU29 (by exact Nat.ne_of_beq_eq_false rfl) p 1)
      have g45 : U42 470 p 0 = T 470 p 0 := (fU42 470 p 0 rfl).trans (up_k hU29 (by exact Nat.ne_of_beq_eq_false rfl) p 0)
      have g46 : U42 470 p 1 = T 470 p 1 := (fU42 470 p 1 rfl).trans (up_k hU29 (by exact Nat.ne_of_beq_eq_false rfl) p 1)
      exact ⟨rfl, fr_t (fr_u (fr_0 _ _) hU29 rfl) (fr_s fU42 rfl), oi_t (oi_u (oi_r) hU29) qU42o, by exact fun _ => by omega⟩
  refine j_tsO (pc := 1) (tgt := 92) (by decide) ds_X3_playBaseball_1 (by omega) (by decide) (by decide) ?_
  refine j_blx (F := fX3) tb_X3 (nn_ _) bk_X3_playBaseball_92 bs_X3_playBaseball_92 hz (fun K hK => ?_)
  refine hK 93 _ [vR 103 p] T ?_
  refine j_callV (y := yX3_countOut) (Yc := zX3_countOut) (rest := []) [] (ct_X3_countOut (T := T) (by omega)) cl_X3_135 (qd_c (by decide +kernel)) (nn_ _) rfl (rf_of rfl) (Nat.le_of_ble_eq_true rfl) (Nat.le_of_ble_eq_true rfl) (Nat.le_of_ble_eq_true rfl) rfl ?_
  rintro U47 _ ⟨rfl, fU47, qU47o, qU47⟩
  show J_ zX3_playBaseball T (po_X3_playBaseball T p k s v) 0 0 96 _ [] U47
  refine j_blx (F := fX3) tb_X3 (nn_ _) bk_X3_playBaseball_96 bs_X3_playBaseball_96 hz (fun K hK => ?_)
  refine (show po_X3_playBaseball T p k s v U47 (none) from ?_)
  have e48 : U47 470 p 0 = T 470 p 0 := fU47 470 p 0 rfl
  have e49 : U47 470 p 1 = T 470 p 1 := fU47 470 p 1 rfl
  have g50 : U47 470 p 0 = T 470 p 0 := fU47 470 p 0 rfl
  have g51 : U47 470 p 1 = T 470 p 1 := fU47 470 p 1 rfl
  exact ⟨rfl, fr_t (fr_0 _ _) (fr_s fU47 rfl), oi_t (oi_r) qU47o, by exact fun _ => by omega⟩
abbrev cX3_carryOut : ByteArray := prog_5_method_12_code
def yX3_carryOut : MethodName := ⟨RX3, "carryOut", "(IIII)V"⟩
def zX3_carryOut : Zm := (RX3, cX3_carryOut, 5, none, { frames := 4, cells := 0, slots := 0, locals := 91 })
theorem bk_X3_carryOut_0 : ck_ fX3 none cX3_carryOut 0 [.iload 1, .iconst 5, .if_icmp .ne 14, .aload 0, .iload 2, .iload 3, .iload 4] 10 = true := qck_r (nn_ _) (by decide +kernel)
theorem bs_X3_carryOut_0 {P : Zt → Option Zv → Prop} (K : Int → Zl → List Zv → Zt → Prop) : sx_ K P [.iload 1, .iconst 5, .if_icmp .ne 14, .aload 0, .iload 2, .iload 3, .iload 4] 10 = x_iload 1 (x_iconst 5 (x_if_icmp .ne 14 K (x_aload 0 (x_iload 2 (x_iload 3 (x_iload 4 (K 10))))))) := ((xe_iload 1).trans (congrArg (x_iload 1) ((xe_iconst 5).trans (congrArg (x_iconst 5) ((xe_if_icmp .ne 14).trans (congrArg (x_if_icmp .ne 14 K) ((xe_aload 0).trans (congrArg (x_aload 0) ((xe_iload 2).trans (congrArg (x_iload 2) ((xe_iload 3).trans (congrArg (x_iload 3) ((xe_iload 4).trans (congrArg (x_iload 4) xe_nil))))))))))))))
theorem bk_X3_carryOut_14 : ck_ fX3 none cX3_carryOut 14 [.aload 0, .tableswitch 0 3 0 #[], .iconst 0, .iaload] 20 = true := qck_r (nn_ _) (by decide +kernel)
theorem bs_X3_carryOut_14 {P : Zt → Option Zv → Prop} (K : Int → Zl → List Zv → Zt → Prop) : sx_ K P [.aload 0, .tableswitch 0 3 0 #[], .iconst 0, .iaload] 20 = x_aload 0 (x_g3 103 401 0 (x_iconst 0 (x_iaload (K 20)))) := ((xe_aload 0).trans (congrArg (x_aload 0) ((xe_g3 (kk := 103) rfl tl_3_0).trans (congrArg (x_g3 103 401 0) ((xe_iconst 0).trans (congrArg (x_iconst 0) ((xe_iaload).trans (congrArg (x_iaload) xe_nil))))))))
theorem ds_X3_carryOut_20 : decode cX3_carryOut 20 = .ok (.tableswitch 55 0 2 #[28, 38, 46], 28) := by decide +kernel
theorem bk_X3_carryOut_48 : ck_ fX3 none cX3_carryOut 48 [.aload 0, .iload 1, .iload 2, .iload 3] 52 = true := qck_r (nn_ _) (by decide +kernel)
theorem bs_X3_carryOut_48 {P : Zt → Option Zv → Prop} (K : Int → Zl → List Zv → Zt → Prop) : sx_ K P [.aload 0, .iload 1, .iload 2, .iload 3] 52 = x_aload 0 (x_iload 1 (x_iload 2 (x_iload 3 (K 52)))) := ((xe_aload 0).trans (congrArg (x_aload 0) ((xe_iload 1).trans (congrArg (x_iload 1) ((xe_iload 2).trans (congrArg (x_iload 2) ((xe_iload 3).trans (congrArg (x_iload 3) xe_nil))))))))
set_option maxRecDepth 100000 in
theorem cl_X3_99 : cv_ RX3 99 yX3_playFootball zX3_playFootball 3 3 := ⟨gi_V (lw_b5 68 (by decide +kernel) rfl : Cond.methodLink RX3 99 yX3_playFootball ∈ lw_g) (lw_b5 70 (by decide +kernel) rfl : Cond.instanceMethod yX3_playFootball ∈ lw_g) (lw_sel 94 rfl : Cond.selects yX3_playFootball.cls yX3_playFootball yX3_playFootball ∈ lw_g) (lw_b1 18 (by decide +kernel) rfl : Cond.initialized yX3_playFootball.cls ∈ lw_g) (lw_b5 71 rfl rfl : Cond.code yX3_playFootball cX3_playFootball 4 none ∈ lw_g), ⟨by decide, by decide, by decide +kernel⟩, ⟨_, _, rfl⟩⟩
theorem bk_X3_carryOut_55 : ck_ fX3 none cX3_carryOut 55 [.goto 83] 58 = true := qck_r (nn_ _) (by decide +kernel)
theorem bs_X3_carryOut_55 {P : Zt → Option Zv → Prop} (K : Int → Zl → List Zv → Zt → Prop) : sx_ K P [.goto 83] 58 = x_goto 83 K := (xe_goto 83)
theorem bk_X3_carryOut_83 : ck_ fX3 none cX3_carryOut 83 [.return_] 84 = true := qck_r (nn_ _) (by decide +kernel)
theorem bs_X3_carryOut_83 {P : Zt → Option Zv → Prop} (K : Int → Zl → List Zv → Zt → Prop) : sx_ K P [.return_] 84 = x_return_ P := (xe_return_)
theorem bk_X3_carryOut_58 : ck_ fX3 none cX3_carryOut 58 [.aload 0, .iload 2] 60 = true := qck_r (nn_ _) (by decide +kernel)
theorem bs_X3_carryOut_58 {P : Zt → Option Zv → Prop} (K : Int → Zl → List Zv → Zt → Prop) : sx_ K P [.aload 0, .iload 2] 60 = x_aload 0 (x_iload 2 (K 60)) := ((xe_aload 0).trans (congrArg (x_aload 0) ((xe_iload 2).trans (congrArg (x_iload 2) xe_nil))))
set_option maxRecDepth 100000 in
theorem cl_X3_102 : cv_ RX3 102 yX3_playVolleyball zX3_playVolleyball 3 1 := ⟨gi_V (lw_b5 84 (by decide +kernel) rfl : Cond.methodLink RX3 102 yX3_playVolleyball ∈ lw_g) (lw_b5 86 (by decide +kernel) rfl : Cond.instanceMethod yX3_playVolleyball ∈ lw_g) (lw_sel 96 rfl : Cond.selects yX3_playVolleyball.cls yX3_playVolleyball yX3_playVolleyball ∈ lw_g) (lw_b1 18 (by decide +kernel) rfl : Cond.initialized yX3_playVolleyball.cls ∈ lw_g) (lw_b5 87 rfl rfl : Cond.code yX3_playVolleyball cX3_playVolleyball 3 none ∈ lw_g), ⟨by decide, by decide, by decide +kernel⟩, ⟨_, _, rfl⟩⟩
theorem bk_X3_carryOut_63 : ck_ fX3 none cX3_carryOut 63 [.goto 83] 66 = true := qck_r (nn_ _) (by decide +kernel)
theorem bs_X3_carryOut_63 {P : Zt → Option Zv → Prop} (K : Int → Zl → List Zv → Zt → Prop) : sx_ K P [.goto 83] 66 = x_goto 83 K := (xe_goto 83)
theorem bk_X3_carryOut_66 : ck_ fX3 none cX3_carryOut 66 [.aload 0, .iload 1, .iload 2] 69 = true := qck_r (nn_ _) (by decide +kernel)
theorem bs_X3_carryOut_66 {P : Zt → Option Zv → Prop} (K : Int → Zl → List Zv → Zt → Prop) : sx_ K P [.aload 0, .iload 1, .iload 2] 69 = x_aload 0 (x_iload 1 (x_iload 2 (K 69))) := ((xe_aload 0).trans (congrArg (x_aload 0) ((xe_iload 1).trans (congrArg (x_iload 1) ((xe_iload 2).trans (congrArg (x_iload 2) xe_nil))))))
set_option maxRecDepth 100000 in
theorem cl_X3_106 : cv_ RX3 106 yX3_playTennis zX3_playTennis 3 2 := ⟨gi_V (lw_b5 95 (by decide +kernel) rfl : Cond.methodLink RX3 106 yX3_playTennis ∈ lw_g) (lw_b5 97 (by decide +kernel) rfl : Cond.instanceMethod yX3_playTennis ∈ lw_g) (lw_sel 95 rfl : Cond.selects yX3_playTennis.cls yX3_playTennis yX3_playTennis ∈ lw_g) (lw_b1 18 (by decide +kernel) rfl : Cond.initialized yX3_playTennis.cls ∈ lw_g) (lw_b5 98 rfl rfl : Cond.code yX3_playTennis cX3_playTennis 5 none ∈ lw_g), ⟨by decide, by decide, by decide +kernel⟩, ⟨_, _, rfl⟩⟩
theorem bk_X3_carryOut_72 : ck_ fX3 none cX3_carryOut 72 [.goto 83] 75 = true := qck_r (nn_ _) (by decide +kernel)
theorem bs_X3_carryOut_72 {P : Zt → Option Zv → Prop} (K : Int → Zl → List Zv → Zt → Prop) : sx_ K P [.goto 83] 75 = x_goto 83 K := (xe_goto 83)
theorem bk_X3_carryOut_75 : ck_ fX3 none cX3_carryOut 75 [.aload 0, .iload 1, .iload 2, .iload 4] 80 = true := qck_r (nn_ _) (by decide +kernel)
theorem bs_X3_carryOut_75 {P : Zt → Option Zv → Prop} (K : Int → Zl → List Zv → Zt → Prop) : sx_ K P [.aload 0, .iload 1, .iload 2, .iload 4] 80 = x_aload 0 (x_iload 1 (x_iload 2 (x_iload 4 (K 80)))) := ((xe_aload 0).trans (congrArg (x_aload 0) ((xe_iload 1).trans (congrArg (x_iload 1) ((xe_iload 2).trans (congrArg (x_iload 2) ((xe_iload 4).trans (congrArg (x_iload 4) xe_nil))))))))
set_option maxRecDepth 100000 in
theorem cl_X3_110 : cv_ RX3 110 yX3_playBaseball zX3_playBaseball 3 3 := ⟨gi_V (lw_b5 99 (by decide +kernel) rfl : Cond.methodLink RX3 110 yX3_playBaseball ∈ lw_g) (lw_b5 101 (by decide +kernel) rfl : Cond.instanceMethod yX3_playBaseball ∈ lw_g) (lw_sel 93 rfl : Cond.selects yX3_playBaseball.cls yX3_playBaseball yX3_playBaseball ∈ lw_g) (lw_b1 18 (by decide +kernel) rfl : Cond.initialized yX3_playBaseball.cls ∈ lw_g) (lw_b5 102 rfl rfl : Cond.code yX3_playBaseball cX3_playBaseball 4 none ∈ lw_g), ⟨by decide, by decide, by decide +kernel⟩, ⟨_, _, rfl⟩⟩
set_option maxRecDepth 100000 in
theorem cl_X3_95 : cv_ RX3 95 yX3_substitute zX3_substitute 3 3 := ⟨gi_V (lw_b5 64 (by decide +kernel) rfl : Cond.methodLink RX3 95 yX3_substitute ∈ lw_g) (lw_b5 66 (by decide +kernel) rfl : Cond.instanceMethod yX3_substitute ∈ lw_g) (lw_sel 101 rfl : Cond.selects yX3_substitute.cls yX3_substitute yX3_substitute ∈ lw_g) (lw_b1 18 (by decide +kernel) rfl : Cond.initialized yX3_substitute.cls ∈ lw_g) (lw_b5 67 rfl rfl : Cond.code yX3_substitute cX3_substitute 6 none ∈ lw_g), ⟨by decide, by decide, by decide +kernel⟩, ⟨_, _, rfl⟩⟩
theorem bk_X3_carryOut_13 : ck_ fX3 none cX3_carryOut 13 [.return_] 14 = true := qck_r (nn_ _) (by decide +kernel)
theorem bs_X3_carryOut_13 {P : Zt → Option Zv → Prop} (K : Int → Zl → List Zv → Zt → Prop) : sx_ K P [.return_] 14 = x_return_ P := (xe_return_)
abbrev po_X3_carryOut (T : Zt) (p : Int) (k s a b : Int) : Zt → Option Zv → Prop := fun T' r => r = none ∧ fr_ [(103, [3, 4, 5]), (466, []), (467, []), (468, []), (472, []), (471, []), (469, []), (470, []), (473, [])] T T' ∧ (oi_ T T' p ∧ (T' 103 p 3 = 0 → 1 ≤ T' 470 p 0 ∧ 1 ≤ T' 470 p 1))
set_option maxHeartbeats 4000000 in
theorem ct_X3_carryOut {T : Zt} {p : Int} {k s a b : Int} (hfm : (k = 0 ∨ (0 ≤ s ∧ s ≤ 1)) ∧ ((T 401 (T 103 p 0) 0 = 0 ∧ 0 ≤ k ∧ k ≤ 5) ∨ (T 401 (T 103 p 0) 0 = 1 ∧ (k = 1 ∨ k = 5)) ∨ (T 401 (T 103 p 0) 0 = 2 ∧ (k = 1 ∨ k = 6)) ∨ (¬ T 401 (T 103 p 0) 0 = 0 ∧ ¬ T 401 (T 103 p 0) 0 = 1 ∧ ¬ T 401 (T 103 p 0) 0 = 2 ∧ 1 ≤ k ∧ k ≤ 4))) (hf : 1 ≤ T 401 (T 103 p 0) 9 ∧ T 401 (T 103 p 0) 9 ≤ 6) (hfd : 1 ≤ T 470 p 0 ∧ 1 ≤ T 470 p 1) : Ct_ yX3_carryOut zX3_carryOut T [vR 103 p, vI k, vI s, vI a, vI b] (po_X3_carryOut T p k s a b) := by
  refine ct_of pn_3 rfl rfl (Nat.le_of_ble_eq_true rfl) (fun hT hav => ?_)
  have hr_k : -2147483648 ≤ k ∧ k ≤ 2147483647 := hav (vI k) (by simp)
  have hr_s : -2147483648 ≤ s ∧ s ≤ 2147483647 := hav (vI s) (by simp)
  have hr_a : -2147483648 ≤ a ∧ a ≤ 2147483647 := hav (vI a) (by simp)
  have hr_b : -2147483648 ≤ b ∧ b ≤ 2147483647 := hav (vI b) (by simp)
  have hz : zX3_carryOut.2.2.2.1 = some .boolean → ∀ (T' : Zt) (x : Int), po_X3_carryOut T p k s a b T' (some (vI x)) → 0 ≤ x ∧ x ≤ 1 := fun h => by cases h
  show J_ zX3_carryOut T (po_X3_carryOut T p k s a b) 0 0 0 [some (vR 103 p), some (vI k), some (vI s), some (vI a), some (vI b)] [] T
  refine j_blx (F := fX3) tb_X3 (nn_ _) bk_X3_carryOut_0 bs_X3_carryOut_0 hz (fun K hK => ?_)
  refine And.intro (fun c1 => ?_) (fun c1 => ?_)
  · refine hK 14 _ [] T ?_
    refine j_blx (F := fX3) tb_X3 (nn_ _) bk_X3_carryOut_14 bs_X3_carryOut_14 hz (fun K hK => ?_)
    refine ix_i (by omega) ?_
    intro b3 b3b
    refine hK 20 _ [vI (T 401 (T 103 p 0) 0)] T ?_
    by_cases z4_0 : (T 401 (T 103 p 0) 0) = 0
    · refine j_tsI (pc := 20) 0 (off := 28) (tgt := 48) (by decide) ds_X3_carryOut_20 (by omega) (by decide) rfl (by decide) (by decide) ?_
      refine j_blx (F := fX3) tb_X3 (nn_ _) bk_X3_carryOut_48 bs_X3_carryOut_48 hz (fun K hK => ?_)
      refine hK 52 _ [vI a, vI s, vI k, vR 103 p] T ?_
      refine j_callV (y := yX3_playFootball) (Yc := zX3_playFootball) (rest := []) [vI k, vI s, vI a] (ct_X3_playFootball (T := T) (by omega) (by omega) (by omega) (by omega)) cl_X3_99 (qd_c (by decide +kernel)) (nn_ _) rfl (rf_of rfl) (Nat.le_of_ble_eq_true rfl) (Nat.le_of_ble_eq_true rfl) (Nat.le_of_ble_eq_true rfl) rfl ?_
      rintro U5 _ ⟨rfl, fU5, qU5o, qU5⟩
      show J_ zX3_carryOut T (po_X3_carryOut T p k s a b) 0 0 55 _ [] U5
      refine j_blx (F := fX3) tb_X3 (nn_ _) bk_X3_carryOut_55 bs_X3_carryOut_55 hz (fun K hK => ?_)
      refine hK 83 _ [] U5 ?_
      refine j_blx (F := fX3) tb_X3 (nn_ _) bk_X3_carryOut_83 bs_X3_carryOut_83 hz (fun K hK => ?_)
      refine (show po_X3_carryOut T p k s a b U5 (none) from ?_)
      exact ⟨rfl, fr_t (fr_0 _ _) (fr_s fU5 rfl), oi_t (oi_r) qU5o, by exact fun z9 => by have y9 := qU5; omega⟩
    by_cases z4_1 : (T 401 (T 103 p 0) 0) = 1
    · refine j_tsI (pc := 20) 1 (off := 38) (tgt := 58) (by decide) ds_X3_carryOut_20 (by omega) (by decide) rfl (by decide) (by decide) ?_
      refine j_blx (F := fX3) tb_X3 (nn_ _) bk_X3_carryOut_58 bs_X3_carryOut_58 hz (fun K hK => ?_)
      refine hK 60 _ [vI s, vR 103 p] T ?_
      refine j_callV (y := yX3_playVolleyball) (Yc := zX3_playVolleyball) (rest := []) [vI s] (ct_X3_playVolleyball (T := T) (by omega) (by omega)) cl_X3_102 (qd_c (by decide +kernel)) (nn_ _) rfl (rf_of rfl) (Nat.le_of_ble_eq_true rfl) (Nat.le_of_ble_eq_true rfl) (Nat.le_of_ble_eq_true rfl) rfl ?_
      rintro U6 _ ⟨rfl, fU6, qU6o, qU6⟩
      show J_ zX3_carryOut T (po_X3_carryOut T p k s a b) 0 0 63 _ [] U6
      refine j_blx (F := fX3) tb_X3 (nn_ _) bk_X3_carryOut_63 bs_X3_carryOut_63 hz (fun K hK => ?_)
      refine hK 83 _ [] U6 ?_
      refine j_blx (F := fX3) tb_X3 (nn_ _) bk_X3_carryOut_83 bs_X3_carryOut_83 hz (fun K hK => ?_)
      refine (show po_X3_carryOut T p k s a b U6 (none) from ?_)
      have e7 : U6 470 p 0 = T 470 p 0 := fU6 470 p 0 rfl
      have e8 : U6 470 p 1 = T 470 p 1 := fU6 470 p 1 rfl
      have g9 : U6 470 p 0 = T 470 p 0 := fU6 470 p 0 rfl
      have g10 : U6 470 p 1 = T 470 p 1 := fU6 470 p 1 rfl
      exact ⟨rfl, fr_t (fr_0 _ _) (fr_s fU6 rfl), oi_t (oi_r) qU6o, by exact fun _ => by omega⟩
    by_cases z4_2 : (T 401 (T 103 p 0) 0) = 2
    · refine j_tsI (pc := 20) 2 (off := 46) (tgt := 66) (by decide) ds_X3_carryOut_20 (by omega) (by decide) rfl (by decide) (by decide) ?_
      refine j_blx (F := fX3) tb_X3 (nn_ _) bk_X3_carryOut_66 bs_X3_carryOut_66 hz (fun K hK => ?_)
      refine hK 69 _ [vI s, vI k, vR 103 p] T ?_
      refine j_callV (y := yX3_playTennis) (Yc := zX3_playTennis) (rest := []) [vI k, vI s] (ct_X3_playTennis (T := T) (by omega) (by omega)) cl_X3_106 (qd_c (by decide +kernel)) (nn_ _) rfl (rf_of rfl) (Nat.le_of_ble_eq_true rfl) (Nat.le_of_ble_eq_true rfl) (Nat.le_of_ble_eq_true rfl) rfl ?_
      rintro U11 _ ⟨rfl, fU11, qU11o, qU11⟩
      show J_ zX3_carryOut T (po_X3_carryOut T p k s a b) 0 0 72 _ [] U11
      refine j_blx (F := fX3) tb_X3 (nn_ _) bk_X3_carryOut_72 bs_X3_carryOut_72 hz (fun K hK => ?_)
      refine hK 83 _ [] U11 ?_
      refine j_blx (F := fX3) tb_X3 (nn_ _) bk_X3_carryOut_83 bs_X3_carryOut_83 hz (fun K hK => ?_)
      refine (show po_X3_carryOut T p k s a b U11 (none) from ?_)
      have e12 : U11 470 p 0 = T 470 p 0 := fU11 470 p 0 rfl
      have e13 : U11 470 p 1 = T 470 p 1 := fU11 470 p 1 rfl
      have g14 : U11 470 p 0 = T 470 p 0 := fU11 470 p 0 rfl
      have g15 : U11 470 p 1 = T 470 p 1 := fU11 470 p 1 rfl
      exact ⟨rfl, fr_t (fr_0 _ _) (fr_s fU11 rfl), oi_t (oi_r) qU11o, by exact fun _ => by omega⟩
    refine j_tsO (pc := 20) (tgt := 75) (by decide) ds_X3_carryOut_20 (by omega) (by decide) (by decide) ?_
    refine j_blx (F := fX3) tb_X3 (nn_ _) bk_X3_carryOut_75 bs_X3_carryOut_75 hz (fun K hK => ?_)
    refine hK 80 _ [vI b, vI s, vI k, vR 103 p] T ?_
    refine j_callV (y := yX3_playBaseball) (Yc := zX3_playBaseball) (rest := []) [vI k, vI s, vI b] (ct_X3_playBaseball (T := T) (by omega) (by omega)) cl_X3_110 (qd_c (by decide +kernel)) (nn_ _) rfl (rf_of rfl) (Nat.le_of_ble_eq_true rfl) (Nat.le_of_ble_eq_true rfl) (Nat.le_of_ble_eq_true rfl) rfl ?_
    rintro U16 _ ⟨rfl, fU16, qU16o, qU16⟩
    show J_ zX3_carryOut T (po_X3_carryOut T p k s a b) 0 0 83 _ [] U16
    refine j_blx (F := fX3) tb_X3 (nn_ _) bk_X3_carryOut_83 bs_X3_carryOut_83 hz (fun K hK => ?_)
    refine (show po_X3_carryOut T p k s a b U16 (none) from ?_)
    have e17 : U16 470 p 0 = T 470 p 0 := fU16 470 p 0 rfl
    have e18 : U16 470 p 1 = T 470 p 1 := fU16 470 p 1 rfl
    have g19 : U16 470 p 0 = T 470 p 0 := fU16 470 p 0 rfl
    have g20 : U16 470 p 1 = T 470 p 1 := fU16 470 p 1 rfl
    exact ⟨rfl, fr_t (fr_0 _ _) (fr_s fU16 rfl), oi_t (oi_r) qU16o, by exact fun _ => by omega⟩
  · refine hK 10 _ [vI b, vI a, vI s, vR 103 p] T ?_
    refine j_callV (y := yX3_substitute) (Yc := zX3_substitute) (rest := []) [vI s, vI a, vI b] (ct_X3_substitute (T := T) (by omega)) cl_X3_95 (qd_c (by decide +kernel)) (nn_ _) rfl (rf_of rfl) (Nat.le_of_ble_eq_true rfl) (Nat.le_of_ble_eq_true rfl) (Nat.le_of_ble_eq_true rfl) rfl ?_
    rintro U21 _ ⟨rfl, fU21, qU21o, qU21⟩
    show J_ zX3_carryOut T (po_X3_carryOut T p k s a b) 0 0 13 _ [] U21
    refine j_blx (F := fX3) tb_X3 (nn_ _) bk_X3_carryOut_13 bs_X3_carryOut_13 hz (fun K hK => ?_)
    refine (show po_X3_carryOut T p k s a b U21 (none) from ?_)
    have e22 : U21 103 p 3 = T 103 p 3 := fU21 103 p 3 rfl
    have e23 : U21 470 p 0 = T 470 p 0 := fU21 470 p 0 rfl
    have e24 : U21 470 p 1 = T 470 p 1 := fU21 470 p 1 rfl
    have g25 : U21 470 p 0 = T 470 p 0 := fU21 470 p 0 rfl
    have g26 : U21 470 p 1 = T 470 p 1 := fU21 470 p 1 rfl
    have e27 : U21 103 p 3 = T 103 p 3 := fU21 103 p 3 rfl
    exact ⟨rfl, fr_t (fr_0 _ _) (fr_s fU21 rfl), oi_t (oi_r) qU21o, by exact fun _ => by omega⟩
