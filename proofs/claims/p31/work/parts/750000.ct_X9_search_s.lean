abbrev cX9_search : ByteArray := prog_11_method_6_code
def yX9_search : MethodName := ⟨RX9, "search", "(I)Z"⟩
def zX9_search_0 : Zm := (RX9, cX9_search, 9, (some .boolean), { frames := 1, cells := 0, slots := 0, locals := 28 })
theorem bk_X9_search_0 : ck_ fX9 (some .boolean) cX9_search 0 [.iload 1, .aload 0, .tableswitch 0 9 9 #[], .if_icmp .ge 14, .iload 1, .iconst 8, .if_icmp .lt 16, .iconst 1, .ireturn] 16 = true := qck_r (nn_ _) (by decide +kernel)
theorem bs_X9_search_0 {P : Zt → Option Zv → Prop} (K : Int → Zl → List Zv → Zt → Prop) : sx_ K P [.iload 1, .aload 0, .tableswitch 0 9 9 #[], .if_icmp .ge 14, .iload 1, .iconst 8, .if_icmp .lt 16, .iconst 1, .ireturn] 16 = x_iload 1 (x_aload 0 (x_g0 109 9 0 40 (x_if_icmp .ge 14 K (x_iload 1 (x_iconst 8 (x_if_icmp .lt 16 K (x_iconst 1 (x_ireturn P)))))))) := ((xe_iload 1).trans (congrArg (x_iload 1) ((xe_aload 0).trans (congrArg (x_aload 0) ((xe_g0 (kk := 109) rfl tl_9_9).trans (congrArg (x_g0 109 9 0 40) ((xe_if_icmp .ge 14).trans (congrArg (x_if_icmp .ge 14 K) ((xe_iload 1).trans (congrArg (x_iload 1) ((xe_iconst 8).trans (congrArg (x_iconst 8) ((xe_if_icmp .lt 16).trans (congrArg (x_if_icmp .lt 16 K) ((xe_iconst 1).trans (congrArg (x_iconst 1) (xe_ireturn)))))))))))))))))
theorem bk_X9_search_14 : ck_ fX9 (some .boolean) cX9_search 14 [.iconst 1, .ireturn] 16 = true := qck_r (nn_ _) (by decide +kernel)
theorem bs_X9_search_14 {P : Zt → Option Zv → Prop} (K : Int → Zl → List Zv → Zt → Prop) : sx_ K P [.iconst 1, .ireturn] 16 = x_iconst 1 (x_ireturn P) := ((xe_iconst 1).trans (congrArg (x_iconst 1) (xe_ireturn)))
abbrev po_X9_search_0 (T : Zt) (k : Int) : Zt → Option Zv → Prop := fun T' r => ∃ x : Int, r = some (vI x) ∧ fr_ [(587, []), (584, [])] T T' ∧ (0 ≤ x ∧ x ≤ 1)
set_option maxHeartbeats 4000000 in
theorem ct_X9_search_0 {T : Zt} {k : Int} (hq9 : Q9_ T) (hka : KA_ T) (hk : 0 ≤ k ∧ 8 ≤ k) : Ct_ yX9_search zX9_search_0 T [vR 109 0, vI k] (po_X9_search_0 T k) := by
  refine ct_of pn_9 rfl rfl (Nat.le_of_ble_eq_true rfl) (fun hT hav => ?_)
  have hr_k : -2147483648 ≤ k ∧ k ≤ 2147483647 := hav (vI k) (List.mem_cons_of_mem _ List.mem_cons_self)
  have hz : zX9_search_0.2.2.2.1 = some .boolean → ∀ (T' : Zt) (x : Int), po_X9_search_0 T k T' (some (vI x)) → 0 ≤ x ∧ x ≤ 1 := fun _ T' x h => by obtain ⟨y, e, -, hy⟩ := h; cases e; omega
  have hct := hq9.1
  have hbo : 0 ≤ T 109 0 9 ∧ T 109 0 9 ≤ 40 := bd_f hT 109 9 tl_9_9 0
  show J_ zX9_search_0 T (po_X9_search_0 T k) 0 0 0 [some (vR 109 0), some (vI k), none, none, none, none, none, none, none] [] T
  refine j_blx (F := fX9) tb_X9 (nn_ _) bk_X9_search_0 bs_X9_search_0 hz (fun K hK => ?_)
  intro b1 b1b
  refine And.intro (fun c2 => ?_) (fun c2 => ?_)
  · refine hK 14 _ [] T ?_
    refine j_blx (F := fX9) tb_X9 (nn_ _) bk_X9_search_14 bs_X9_search_14 hz (fun K hK => ?_)
    refine (show po_X9_search_0 T k T (some (vI 1)) from ?_)
    exact ⟨_, rfl, fr_0 _ _, by omega⟩
  · refine And.intro (fun c3 => ?_) (fun c3 => ?_)
    · exact absurd c3 (by omega)
    · refine (show po_X9_search_0 T k T (some (vI 1)) from ?_)
      exact ⟨_, rfl, fr_0 _ _, by omega⟩
theorem bk_X9_search_61 : ck_ fX9 (some .boolean) cX9_search 61 [.iload 5, .iconst 2, .if_icmp .gt 209, .aload 0, .tableswitch 0 9 5 #[], .tableswitch 0 0 1 #[], .iconst 1, .iload 5, .iadd, .iaload, .istore 6, .aload 0, .tableswitch 0 9 5 #[], .tableswitch 0 0 1 #[], .iconst 3, .iload 5, .isub, .iaload, .istore 7, .aload 0, .tableswitch 0 9 7 #[], .iload 3, .dup2, .iaload, .iload 6, .fadd, .iastore, .aload 0, .tableswitch 0 9 7 #[], .iload 4, .dup2, .iaload, .iload 7, .fadd, .iastore, .aload 0, .tableswitch 0 9 4 #[], .aload 2, .tableswitch 0 2 1 #[], .iload 5, .iastore, .aload 0, .tableswitch 0 9 7 #[], .iload 3, .iaload, .aload 0, .tableswitch 0 9 6 #[], .if_icmp .gt 170, .aload 0, .tableswitch 0 9 7 #[], .iload 4, .iaload, .aload 0, .tableswitch 0 9 6 #[], .if_icmp .gt 170, .aload 0, .iload 1, .iconst 1, .iadd] 160 = true := qck_r (nn_ _) (by decide +kernel)
theorem bs_X9_search_61 {P : Zt → Option Zv → Prop} (K : Int → Zl → List Zv → Zt → Prop) : sx_ K P [.iload 5, .iconst 2, .if_icmp .gt 209, .aload 0, .tableswitch 0 9 5 #[], .tableswitch 0 0 1 #[], .iconst 1, .iload 5, .iadd, .iaload, .istore 6, .aload 0, .tableswitch 0 9 5 #[], .tableswitch 0 0 1 #[], .iconst 3, .iload 5, .isub, .iaload, .istore 7, .aload 0, .tableswitch 0 9 7 #[], .iload 3, .dup2, .iaload, .iload 6, .fadd, .iastore, .aload 0, .tableswitch 0 9 7 #[], .iload 4, .dup2, .iaload, .iload 7, .fadd, .iastore, .aload 0, .tableswitch 0 9 4 #[], .aload 2, .tableswitch 0 2 1 #[], .iload 5, .iastore, .aload 0, .tableswitch 0 9 7 #[], .iload 3, .iaload, .aload 0, .tableswitch 0 9 6 #[], .if_icmp .gt 170, .aload 0, .tableswitch 0 9 7 #[], .iload 4, .iaload, .aload 0, .tableswitch 0 9 6 #[], .if_icmp .gt 170, .aload 0, .iload 1, .iconst 1, .iadd] 160 = x_iload 5 (x_iconst 2 (x_if_icmp .gt 209 K (x_aload 0 (x_g5 109 100 5 (x_g2 100 401 (x_iconst 1 (x_iload 5 (x_iadd (x_iaload (x_istore 6 (x_aload 0 (x_g5 109 100 5 (x_g2 100 401 (x_iconst 3 (x_iload 5 (x_isub (x_iaload (x_istore 7 (x_aload 0 (x_g1 109 587 (x_iload 3 (x_dup2 (x_iaload (x_iload 6 (x_fadd (x_iastore (x_aload 0 (x_g1 109 587 (x_iload 4 (x_dup2 (x_iaload (x_iload 7 (x_fadd (x_iastore (x_aload 0 (x_g1 109 584 (x_aload 2 (x_g0 102 1 0 399 (x_iload 5 (x_iastore (x_aload 0 (x_g1 109 587 (x_iload 3 (x_iaload (x_aload 0 (x_g0 109 6 (-2147483648) 2147483647 (x_if_icmp .gt 170 K (x_aload 0 (x_g1 109 587 (x_iload 4 (x_iaload (x_aload 0 (x_g0 109 6 (-2147483648) 2147483647 (x_if_icmp .gt 170 K (x_aload 0 (x_iload 1 (x_iconst 1 (x_iadd (K 160))))))))))))))))))))))))))))))))))))))))))))))))))))))))))) := ((xe_iload 5).trans (congrArg (x_iload 5) ((xe_iconst 2).trans (congrArg (x_iconst 2) ((xe_if_icmp .gt 209).trans (congrArg (x_if_icmp .gt 209 K) ((xe_aload 0).trans (congrArg (x_aload 0) ((xe_g5 (kk := 109) rfl tl_9_5).trans (congrArg (x_g5 109 100 5) ((xe_g2 (kk := 100) rfl tl_0_1).trans (congrArg (x_g2 100 401) ((xe_iconst 1).trans (congrArg (x_iconst 1) ((xe_iload 5).trans (congrArg (x_iload 5) ((xe_iadd).trans (congrArg (x_iadd) ((xe_iaload).trans (congrArg (x_iaload) ((xe_istore 6).trans (congrArg (x_istore 6) ((xe_aload 0).trans (congrArg (x_aload 0) ((xe_g5 (kk := 109) rfl tl_9_5).trans (congrArg (x_g5 109 100 5) ((xe_g2 (kk := 100) rfl tl_0_1).trans (congrArg (x_g2 100 401) ((xe_iconst 3).trans (congrArg (x_iconst 3) ((xe_iload 5).trans (congrArg (x_iload 5) ((xe_isub).trans (congrArg (x_isub) ((xe_iaload).trans (congrArg (x_iaload) ((xe_istore 7).trans (congrArg (x_istore 7) ((xe_aload 0).trans (congrArg (x_aload 0) ((xe_g1 (kk := 109) rfl tl_9_7).trans (congrArg (x_g1 109 587) ((xe_iload 3).trans (congrArg (x_iload 3) ((xe_dup2).trans (congrArg (x_dup2) ((xe_iaload).trans (congrArg (x_iaload) ((xe_iload 6).trans (congrArg (x_iload 6) ((xe_fadd).trans (congrArg (x_fadd) ((xe_iastore).trans (congrArg (x_iastore) ((xe_aload 0).trans (congrArg (x_aload 0) ((xe_g1 (kk := 109) rfl tl_9_7).trans (congrArg (x_g1 109 587) ((xe_iload 4).trans (congrArg (x_iload 4) ((xe_dup2).trans (congrArg (x_dup2) ((xe_iaload).trans (congrArg (x_iaload) ((xe_iload 7).trans (congrArg (x_iload 7) ((xe_fadd).trans (congrArg (x_fadd) ((xe_iastore).trans (congrArg (x_iastore) ((xe_aload 0).trans (congrArg (x_aload 0) ((xe_g1 (kk := 109) rfl tl_9_4).trans (congrArg (x_g1 109 584) ((xe_aload 2).trans (congrArg (x_aload 2) ((xe_g0 (kk := 102) rfl tl_2_1).trans (congrArg (x_g0 102 1 0 399) ((xe_iload 5).trans (congrArg (x_iload 5) ((xe_iastore).trans (congrArg (x_iastore) ((xe_aload 0).trans (congrArg (x_aload 0) ((xe_g1 (kk := 109) rfl tl_9_7).trans (congrArg (x_g1 109 587) ((xe_iload 3).trans (congrArg (x_iload 3) ((xe_iaload).trans (congrArg (x_iaload) ((xe_aload 0).trans (congrArg (x_aload 0) ((xe_g0 (kk := 109) rfl tl_9_6).trans (congrArg (x_g0 109 6 (-2147483648) 2147483647) ((xe_if_icmp .gt 170).trans (congrArg (x_if_icmp .gt 170 K) ((xe_aload 0).trans (congrArg (x_aload 0) ((xe_g1 (kk := 109) rfl tl_9_7).trans (congrArg (x_g1 109 587) ((xe_iload 4).trans (congrArg (x_iload 4) ((xe_iaload).trans (congrArg (x_iaload) ((xe_aload 0).trans (congrArg (x_aload 0) ((xe_g0 (kk := 109) rfl tl_9_6).trans (congrArg (x_g0 109 6 (-2147483648) 2147483647) ((xe_if_icmp .gt 170).trans (congrArg (x_if_icmp .gt 170 K) ((xe_aload 0).trans (congrArg (x_aload 0) ((xe_iload 1).trans (congrArg (x_iload 1) ((xe_iconst 1).trans (congrArg (x_iconst 1) ((xe_iadd).trans (congrArg (x_iadd) xe_nil))))))))))))))))))))))))))))))))))))))))))))))))))))))))))))))))))))))))))))))))))))))))))))))))))))))))))))))))))))))
theorem bk_X9_search_209 : ck_ fX9 (some .boolean) cX9_search 209 [.aload 0, .tableswitch 0 9 4 #[], .aload 2, .tableswitch 0 2 1 #[], .iconst (-1), .iastore, .iconst 0, .ireturn] 221 = true := qck_r (nn_ _) (by decide +kernel)
theorem bs_X9_search_209 {P : Zt → Option Zv → Prop} (K : Int → Zl → List Zv → Zt → Prop) : sx_ K P [.aload 0, .tableswitch 0 9 4 #[], .aload 2, .tableswitch 0 2 1 #[], .iconst (-1), .iastore, .iconst 0, .ireturn] 221 = x_aload 0 (x_g1 109 584 (x_aload 2 (x_g0 102 1 0 399 (x_iconst (-1) (x_iastore (x_iconst 0 (x_ireturn P))))))) := ((xe_aload 0).trans (congrArg (x_aload 0) ((xe_g1 (kk := 109) rfl tl_9_4).trans (congrArg (x_g1 109 584) ((xe_aload 2).trans (congrArg (x_aload 2) ((xe_g0 (kk := 102) rfl tl_2_1).trans (congrArg (x_g0 102 1 0 399) ((xe_iconst (-1)).trans (congrArg (x_iconst (-1)) ((xe_iastore).trans (congrArg (x_iastore) ((xe_iconst 0).trans (congrArg (x_iconst 0) (xe_ireturn)))))))))))))))
theorem bk_X9_search_170 : ck_ fX9 (some .boolean) cX9_search 170 [.iconst 0, .istore 8, .aload 0, .tableswitch 0 9 7 #[], .iload 3, .dup2, .iaload, .iload 6, .fsub, .iastore, .aload 0, .tableswitch 0 9 7 #[], .iload 4, .dup2, .iaload, .iload 7, .fsub, .iastore, .iload 8, .ifCond .eq 203, .iconst 1, .ireturn] 203 = true := qck_r (nn_ _) (by decide +kernel)
theorem bs_X9_search_170 {P : Zt → Option Zv → Prop} (K : Int → Zl → List Zv → Zt → Prop) : sx_ K P [.iconst 0, .istore 8, .aload 0, .tableswitch 0 9 7 #[], .iload 3, .dup2, .iaload, .iload 6, .fsub, .iastore, .aload 0, .tableswitch 0 9 7 #[], .iload 4, .dup2, .iaload, .iload 7, .fsub, .iastore, .iload 8, .ifCond .eq 203, .iconst 1, .ireturn] 203 = x_iconst 0 (x_istore 8 (x_aload 0 (x_g1 109 587 (x_iload 3 (x_dup2 (x_iaload (x_iload 6 (x_fsub (x_iastore (x_aload 0 (x_g1 109 587 (x_iload 4 (x_dup2 (x_iaload (x_iload 7 (x_fsub (x_iastore (x_iload 8 (x_ifCond .eq 203 K (x_iconst 1 (x_ireturn P))))))))))))))))))))) := ((xe_iconst 0).trans (congrArg (x_iconst 0) ((xe_istore 8).trans (congrArg (x_istore 8) ((xe_aload 0).trans (congrArg (x_aload 0) ((xe_g1 (kk := 109) rfl tl_9_7).trans (congrArg (x_g1 109 587) ((xe_iload 3).trans (congrArg (x_iload 3) ((xe_dup2).trans (congrArg (x_dup2) ((xe_iaload).trans (congrArg (x_iaload) ((xe_iload 6).trans (congrArg (x_iload 6) ((xe_fsub).trans (congrArg (x_fsub) ((xe_iastore).trans (congrArg (x_iastore) ((xe_aload 0).trans (congrArg (x_aload 0) ((xe_g1 (kk := 109) rfl tl_9_7).trans (congrArg (x_g1 109 587) ((xe_iload 4).trans (congrArg (x_iload 4) ((xe_dup2).trans (congrArg (x_dup2) ((xe_iaload).trans (congrArg (x_iaload) ((xe_iload 7).trans (congrArg (x_iload 7) ((xe_fsub).trans (congrArg (x_fsub) ((xe_iastore).trans (congrArg (x_iastore) ((xe_iload 8).trans (congrArg (x_iload 8) ((xe_ifCond .eq 203).trans (congrArg (x_ifCond .eq 203 K) ((xe_iconst 1).trans (congrArg (x_iconst 1) (xe_ireturn)))))))))))))))))))))))))))))))))))))))))))
theorem bk_X9_search_203 : ck_ fX9 (some .boolean) cX9_search 203 [.iinc 5 1, .goto 61] 209 = true := qck_r (nn_ _) (by decide +kernel)
theorem bs_X9_search_203 {P : Zt → Option Zv → Prop} (K : Int → Zl → List Zv → Zt → Prop) : sx_ K P [.iinc 5 1, .goto 61] 209 = x_iinc 5 1 (x_goto 61 K) := ((xe_iinc 5 1).trans (congrArg (x_iinc 5 1) (xe_goto 61)))
def zX9_sq (n : Nat) : Zm := (RX9, cX9_search, 9, (some .boolean), { frames := n + 1, cells := 0, slots := 0, locals := 28 * (n + 1) })
theorem rf_sq (n : Nat) : rf_ (zX9_sq n) (zX9_sq (n + 1)) = true := by
  unfold rf_
  rw [Bool.and_eq_true, decide_eq_true_eq, decide_eq_true_eq]
  show n + 1 + 1 ≤ n + 1 + 1 ∧ 8 + (9 + 11) + 28 * (n + 1) ≤ 28 * (n + 1 + 1)
  omega
set_option maxRecDepth 100000 in
theorem cl_sq (n : Nat) : cv_ RX9 91 yX9_search (zX9_sq n) 9 1 := ⟨gi_V (lwq_6 (dqc_m (dqc_m (dqa_m (dqa_m (dqa_m (List.mem_of_getElem? (i := 7) rfl)))))) rfl : Cond.methodLink RX9 91 yX9_search ∈ lw_g) (lwq_6 (dqc_m (dqc_m (dqc_m (List.mem_of_getElem? (i := 1) rfl)))) rfl : Cond.instanceMethod yX9_search ∈ lw_g) (lw_sel 144 rfl : Cond.selects yX9_search.cls yX9_search yX9_search ∈ lw_g) (lwq_1 (List.mem_of_getElem? (i := 6) rfl) rfl : Cond.initialized yX9_search.cls ∈ lw_g) (lwq_6 (dqc_m (dqc_m (dqc_m (List.mem_of_getElem? (i := 2) rfl)))) rfl : Cond.code yX9_search cX9_search 9 (some .boolean) ∈ lw_g), ⟨nmh_8.1, nmh_8.2, pdq_7⟩, ⟨_, _, rfl⟩⟩
theorem bk_X9_search_163 : ck_ fX9 (some .boolean) cX9_search 163 [.ifCond .eq 170, .iconst 1, .goto 171] 170 = true := qck_r (nn_ _) (by decide +kernel)
theorem bs_X9_search_163 {P : Zt → Option Zv → Prop} (K : Int → Zl → List Zv → Zt → Prop) : sx_ K P [.ifCond .eq 170, .iconst 1, .goto 171] 170 = x_ifCond .eq 170 K (x_iconst 1 (x_goto 171 K)) := ((xe_ifCond .eq 170).trans (congrArg (x_ifCond .eq 170 K) ((xe_iconst 1).trans (congrArg (x_iconst 1) (xe_goto 171)))))
theorem bk_X9_search_171 : ck_ fX9 (some .boolean) cX9_search 171 [.istore 8, .aload 0, .tableswitch 0 9 7 #[], .iload 3, .dup2, .iaload, .iload 6, .fsub, .iastore, .aload 0, .tableswitch 0 9 7 #[], .iload 4, .dup2, .iaload, .iload 7, .fsub, .iastore, .iload 8, .ifCond .eq 203, .iconst 1, .ireturn] 203 = true := qck_r (nn_ _) (by decide +kernel)
theorem bs_X9_search_171 {P : Zt → Option Zv → Prop} (K : Int → Zl → List Zv → Zt → Prop) : sx_ K P [.istore 8, .aload 0, .tableswitch 0 9 7 #[], .iload 3, .dup2, .iaload, .iload 6, .fsub, .iastore, .aload 0, .tableswitch 0 9 7 #[], .iload 4, .dup2, .iaload, .iload 7, .fsub, .iastore, .iload 8, .ifCond .eq 203, .iconst 1, .ireturn] 203 = x_istore 8 (x_aload 0 (x_g1 109 587 (x_iload 3 (x_dup2 (x_iaload (x_iload 6 (x_fsub (x_iastore (x_aload 0 (x_g1 109 587 (x_iload 4 (x_dup2 (x_iaload (x_iload 7 (x_fsub (x_iastore (x_iload 8 (x_ifCond .eq 203 K (x_iconst 1 (x_ireturn P)))))))))))))))))))) := ((xe_istore 8).trans (congrArg (x_istore 8) ((xe_aload 0).trans (congrArg (x_aload 0) ((xe_g1 (kk := 109) rfl tl_9_7).trans (congrArg (x_g1 109 587) ((xe_iload 3).trans (congrArg (x_iload 3) ((xe_dup2).trans (congrArg (x_dup2) ((xe_iaload).trans (congrArg (x_iaload) ((xe_iload 6).trans (congrArg (x_iload 6) ((xe_fsub).trans (congrArg (x_fsub) ((xe_iastore).trans (congrArg (x_iastore) ((xe_aload 0).trans (congrArg (x_aload 0) ((xe_g1 (kk := 109) rfl tl_9_7).trans (congrArg (x_g1 109 587) ((xe_iload 4).trans (congrArg (x_iload 4) ((xe_dup2).trans (congrArg (x_dup2) ((xe_iaload).trans (congrArg (x_iaload) ((xe_iload 7).trans (congrArg (x_iload 7) ((xe_fsub).trans (congrArg (x_fsub) ((xe_iastore).trans (congrArg (x_iastore) ((xe_iload 8).trans (congrArg (x_iload 8) ((xe_ifCond .eq 203).trans (congrArg (x_ifCond .eq 203 K) ((xe_iconst 1).trans (congrArg (x_iconst 1) (xe_ireturn)))))))))))))))))))))))))))))))))))))))))
theorem bk_X9_search_16 : ck_ fX9 (some .boolean) cX9_search 16 [.aload 0, .tableswitch 0 9 0 #[], .tableswitch 0 6 3 #[], .aload 0, .tableswitch 0 9 8 #[], .iload 1, .iaload, .aaload, .astore 2, .aload 0, .tableswitch 0 9 5 #[], .tableswitch 0 0 4 #[], .aload 2, .tableswitch 0 2 3 #[], .iaload, .istore 3, .aload 0, .tableswitch 0 9 5 #[], .tableswitch 0 0 4 #[], .aload 2, .tableswitch 0 2 4 #[], .iaload, .istore 4, .iconst 0, .istore 5] 61 = true := qck_r (nn_ _) (by decide +kernel)
theorem bs_X9_search_16 {P : Zt → Option Zv → Prop} (K : Int → Zl → List Zv → Zt → Prop) : sx_ K P [.aload 0, .tableswitch 0 9 0 #[], .tableswitch 0 6 3 #[], .aload 0, .tableswitch 0 9 8 #[], .iload 1, .iaload, .aaload, .astore 2, .aload 0, .tableswitch 0 9 5 #[], .tableswitch 0 0 4 #[], .aload 2, .tableswitch 0 2 3 #[], .iaload, .istore 3, .aload 0, .tableswitch 0 9 5 #[], .tableswitch 0 0 4 #[], .aload 2, .tableswitch 0 2 4 #[], .iaload, .istore 4, .iconst 0, .istore 5] 61 = x_aload 0 (x_g1 109 106 (x_g1 106 523 (x_aload 0 (x_g1 109 588 (x_iload 1 (x_iaload (x_aaload (x_astore 2 (x_aload 0 (x_g5 109 100 5 (x_g2 100 404 (x_aload 2 (x_g0 102 3 0 11 (x_iaload (x_istore 3 (x_aload 0 (x_g5 109 100 5 (x_g2 100 404 (x_aload 2 (x_g0 102 4 0 11 (x_iaload (x_istore 4 (x_iconst 0 (x_istore 5 (K 61))))))))))))))))))))))))) := ((xe_aload 0).trans (congrArg (x_aload 0) ((xe_g1 (kk := 109) rfl tl_9_0).trans (congrArg (x_g1 109 106) ((xe_g1 (kk := 106) rfl tl_6_3).trans (congrArg (x_g1 106 523) ((xe_aload 0).trans (congrArg (x_aload 0) ((xe_g1 (kk := 109) rfl tl_9_8).trans (congrArg (x_g1 109 588) ((xe_iload 1).trans (congrArg (x_iload 1) ((xe_iaload).trans (congrArg (x_iaload) ((xe_aaload).trans (congrArg (x_aaload) ((xe_astore 2).trans (congrArg (x_astore 2) ((xe_aload 0).trans (congrArg (x_aload 0) ((xe_g5 (kk := 109) rfl tl_9_5).trans (congrArg (x_g5 109 100 5) ((xe_g2 (kk := 100) rfl tl_0_4).trans (congrArg (x_g2 100 404) ((xe_aload 2).trans (congrArg (x_aload 2) ((xe_g0 (kk := 102) rfl tl_2_3).trans (congrArg (x_g0 102 3 0 11) ((xe_iaload).trans (congrArg (x_iaload) ((xe_istore 3).trans (congrArg (x_istore 3) ((xe_aload 0).trans (congrArg (x_aload 0) ((xe_g5 (kk := 109) rfl tl_9_5).trans (congrArg (x_g5 109 100 5) ((xe_g2 (kk := 100) rfl tl_0_4).trans (congrArg (x_g2 100 404) ((xe_aload 2).trans (congrArg (x_aload 2) ((xe_g0 (kk := 102) rfl tl_2_4).trans (congrArg (x_g0 102 4 0 11) ((xe_iaload).trans (congrArg (x_iaload) ((xe_istore 4).trans (congrArg (x_istore 4) ((xe_iconst 0).trans (congrArg (x_iconst 0) ((xe_istore 5).trans (congrArg (x_istore 5) xe_nil))))))))))))))))))))))))))))))))))))))))))))))))))
abbrev po_X9_search_1 (T : Zt) (k : Int) : Zt → Option Zv → Prop := fun T' r => ∃ x : Int, r = some (vI x) ∧ fr_ [(587, []), (584, [])] T T' ∧ (0 ≤ x ∧ x ≤ 1)
set_option maxHeartbeats 4000000 in
theorem ct_X9_search_s {n : Nat} {T : Zt} {k : Int} (IH : ∀ {T : Zt} {k : Int} (hq9 : Q9_ T) (hka : KA_ T) (hk : 0 ≤ k ∧ 8 - (n : Int) ≤ k), Ct_ yX9_search (zX9_sq n) T [vR 109 0, vI k] (po_X9_search_1 T k)) (hq9 : Q9_ T) (hka : KA_ T) (hk : 0 ≤ k ∧ 7 - (n : Int) ≤ k) : Ct_ yX9_search (zX9_sq (n + 1)) T [vR 109 0, vI k] (po_X9_search_1 T k) := by
  refine ct_of pn_9 rfl rfl (Nat.le_of_ble_eq_true rfl) (fun hT hav => ?_) (hi := fun h => absurd (show im_ 0 = true from h) (by decide))
  have hr_k : -2147483648 ≤ k ∧ k ≤ 2147483647 := hav (vI k) (List.mem_cons_of_mem _ List.mem_cons_self)
  have hz : (zX9_sq (n + 1)).2.2.2.1 = some .boolean → ∀ (T' : Zt) (x : Int), po_X9_search_1 T k T' (some (vI x)) → 0 ≤ x ∧ x ≤ 1 := fun _ T' x h => by obtain ⟨y, e, -, hy⟩ := h; cases e; omega
  have hct := hq9.1
  have hbo : 0 ≤ T 109 0 9 ∧ T 109 0 9 ≤ 40 := bd_f hT 109 9 tl_9_9 0
  show J_ (zX9_sq (n + 1)) T (po_X9_search_1 T k) 0 0 0 [some (vR 109 0), some (vI k), none, none, none, none, none, none, none] [] T
  have c_61 : ∀ (nn : Nat) (j : Int) (T1 : Zt), ((3 - j).toNat) ≤ nn → (fr_ [(587, []), (584, [])] T T1) → (0 ≤ j ∧ j ≤ 3 ∧ k < T 109 0 9 ∧ k < 8) → J_ (zX9_sq (n + 1)) T (po_X9_search_1 T k) 0 0 61 [some (vR 109 0), some (vI k), some (vR 102 (T 588 0 k)), some (vI (T 404 (T 109 0 5 - 1) (T 102 (T 588 0 k) 3))), some (vI (T 404 (T 109 0 5 - 1) (T 102 (T 588 0 k) 4))), some (vI j), none, none, none] [] T1 := by
    intro nn
    induction nn using Nat.strongRecOn with
    | _ nn ih_61 =>
      intro j T1 hm_61 hf_61 i1
      replace hm_61 := fun (_ : Unit) => hm_61
      have hqk := hq9.2 k (by omega) (by omega)
      unfold hsx_ asx_ at hqk
      refine j_blx (F := fX9) tb_X9 (nn_ _) bk_X9_search_61 bs_X9_search_61 hz (fun K hK => ?_)
      refine And.intro (fun c1 => ?_) (fun c1 => ?_)
      · refine hK 209 _ [] T1 ?_
        refine j_blx (F := fX9) tb_X9 (nn_ _) bk_X9_search_209 bs_X9_search_209 hz (fun K hK => ?_)
        intro b2 b2b
        have e3 : T1 102 (T 588 0 k) 1 = T 102 (T 588 0 k) 1 := hf_61 102 (T 588 0 k) 1 rfl
        rw [e3] at b2 b2b ⊢
        refine iy_i (by omega) (by omega) ?_
        refine x_nm (fun U4 hU4 => ?_)
        have e5 := up_f hU4
        refine (show po_X9_search_1 T k U4 (some (vI 0)) from ?_)
        exact ⟨_, rfl, fr_u (fr_t (fr_0 _ _) (fr_s hf_61 rfl)) hU4 rfl, by omega⟩
      · have e7 : T1 109 0 5 = T 109 0 5 := hf_61 109 0 5 rfl
        refine And.intro (fun c6 => ?_) (fun c6 => ?_)
        · exact absurd c6 (by omega)
        · have z8 : T1 109 0 5 - 1 = (T 109 0 5 - 1) := by omega
          rw [z8]
          refine rg_i (by omega) ?_
          refine ix_i (by omega) ?_
          intro b9 b9b
          have e10 : T1 401 (T 109 0 5 - 1) (1 + j) = T 401 (T 109 0 5 - 1) (1 + j) := hf_61 401 (T 109 0 5 - 1) (1 + j) rfl
          rw [e10] at b9 b9b ⊢
          have e12 : T1 109 0 5 = T 109 0 5 := hf_61 109 0 5 rfl
          refine And.intro (fun c11 => ?_) (fun c11 => ?_)
          · exact absurd c11 (by omega)
          · have z13 : T1 109 0 5 - 1 = (T 109 0 5 - 1) := by omega
            rw [z13]
            refine rg_i (by omega) ?_
            refine ix_i (by omega) ?_
            intro b14 b14b
            have e15 : T1 401 (T 109 0 5 - 1) (3 - j) = T 401 (T 109 0 5 - 1) (3 - j) := hf_61 401 (T 109 0 5 - 1) (3 - j) rfl
            rw [e15] at b14 b14b ⊢
            refine ix_i (by omega) ?_
            intro b16 b16b
            intro w17 w17b
            refine iy_i (by omega) (by omega) ?_
            refine x_nm (fun U18 hU18 => ?_)
            have e19 := up_f hU18
            refine ix_i (by omega) ?_
            intro b20 b20b
            intro w21 w21b
            refine iy_i (by omega) (by omega) ?_
            refine x_nm (fun U22 hU22 => ?_)
            have e23 := up_f hU22
            intro b24 b24b
            have e25 : U22 102 (T 588 0 k) 1 = T 102 (T 588 0 k) 1 := (up_k hU22 (by exact Nat.ne_of_beq_eq_false rfl) (T 588 0 k) 1).trans ((up_k hU18 (by exact Nat.ne_of_beq_eq_false rfl) (T 588 0 k) 1).trans (hf_61 102 (T 588 0 k) 1 rfl))
            rw [e25] at b24 b24b ⊢
            refine iy_i (by omega) (by omega) ?_
            refine x_nm (fun U26 hU26 => ?_)
            have e27 := up_f hU26
            refine ix_i (by omega) ?_
            intro b28 b28b
            have e29 : U26 587 0 (T 404 (T 109 0 5 - 1) (T 102 (T 588 0 k) 3)) = U22 587 0 (T 404 (T 109 0 5 - 1) (T 102 (T 588 0 k) 3)) := up_k hU26 (by exact Nat.ne_of_beq_eq_false rfl) 0 (T 404 (T 109 0 5 - 1) (T 102 (T 588 0 k) 3))
            rw [e29] at b28 b28b ⊢
            intro b30 b30b
            have e31 : U26 109 0 6 = T 109 0 6 := (up_k hU26 (by exact Nat.ne_of_beq_eq_false rfl) 0 6).trans ((up_k hU22 (by exact Nat.ne_of_beq_eq_false rfl) 0 6).trans ((up_k hU18 (by exact Nat.ne_of_beq_eq_false rfl) 0 6).trans (hf_61 109 0 6 rfl)))
            rw [e31] at b30 b30b ⊢
            refine And.intro (fun c32 => ?_) (fun c32 => ?_)
            · refine hK 170 [some (vR 109 0), some (vI k), some (vR 102 (T 588 0 k)), some (vI (T 404 (T 109 0 5 - 1) (T 102 (T 588 0 k) 3))), some (vI (T 404 (T 109 0 5 - 1) (T 102 (T 588 0 k) 4))), some (vI j), some (vI (T 401 (T 109 0 5 - 1) (1 + j))), some (vI (T 401 (T 109 0 5 - 1) (3 - j))), none] [] U26 ?_
              refine j_blx (F := fX9) tb_X9 (nn_ _) bk_X9_search_170 bs_X9_search_170 hz (fun K hK => ?_)
              refine ix_i (by omega) ?_
              intro b33 b33b
              have e34 : U26 587 0 (T 404 (T 109 0 5 - 1) (T 102 (T 588 0 k) 3)) = U22 587 0 (T 404 (T 109 0 5 - 1) (T 102 (T 588 0 k) 3)) := up_k hU26 (by exact Nat.ne_of_beq_eq_false rfl) 0 (T 404 (T 109 0 5 - 1) (T 102 (T 588 0 k) 3))
              rw [e34] at b33 b33b ⊢
              intro w35 w35b
              refine iy_i (by omega) (by omega) ?_
              refine x_nm (fun U36 hU36 => ?_)
              have e37 := up_f hU36
              refine ix_i (by omega) ?_
              intro b38 b38b
              intro w39 w39b
              refine iy_i (by omega) (by omega) ?_
              refine x_nm (fun U40 hU40 => ?_)
              have e41 := up_f hU40
              refine And.intro (fun c42 => ?_) (fun c42 => ?_)
              · refine hK 203 [some (vR 109 0), some (vI k), some (vR 102 (T 588 0 k)), some (vI (T 404 (T 109 0 5 - 1) (T 102 (T 588 0 k) 3))), some (vI (T 404 (T 109 0 5 - 1) (T 102 (T 588 0 k) 4))), some (vI j), some (vI (T 401 (T 109 0 5 - 1) (1 + j))), some (vI (T 401 (T 109 0 5 - 1) (3 - j))), some (vI 0)] [] U40 ?_
                refine j_blx (F := fX9) tb_X9 (nn_ _) bk_X9_search_203 bs_X9_search_203 hz (fun K hK => ?_)
                refine rg_i (by omega) ?_
                refine hK 61 [some (vR 109 0), some (vI k), some (vR 102 (T 588 0 k)), some (vI (T 404 (T 109 0 5 - 1) (T 102 (T 588 0 k) 3))), some (vI (T 404 (T 109 0 5 - 1) (T 102 (T 588 0 k) 4))), some (vI (j + 1)), some (vI (T 401 (T 109 0 5 - 1) (1 + j))), some (vI (T 401 (T 109 0 5 - 1) (3 - j))), some (vI 0)] [] U40 ?_
                refine j_drop [some (vR 109 0), some (vI k), some (vR 102 (T 588 0 k)), some (vI (T 404 (T 109 0 5 - 1) (T 102 (T 588 0 k) 3))), some (vI (T 404 (T 109 0 5 - 1) (T 102 (T 588 0 k) 4))), some (vI (j + 1)), none, none, none] (fun k v hk => ?_) rfl ?_
                · match k, hk with
                  | 0, hk => exact hk
                  | 1, hk => exact hk
                  | 2, hk => exact hk
                  | 3, hk => exact hk
                  | 4, hk => exact hk
                  | 5, hk => exact hk
                  | 6, hk => cases hk
                  | 7, hk => cases hk
                  | 8, hk => cases hk
                  | k + 9, hk => cases hk
                refine ih_61 _ ?_ (j + 1) U40 (Nat.le_refl _) ?_ ?_
                · have hm_61 := hm_61 (); omega
                · exact fr_u (fr_u (fr_u (fr_u (fr_u (fr_t (fr_0 _ _) (fr_s hf_61 rfl)) hU18 rfl) hU22 rfl) hU26 rfl) hU36 rfl) hU40 rfl
                · omega
              · refine (show po_X9_search_1 T k U40 (some (vI 1)) from ?_)
                exact ⟨_, rfl, fr_u (fr_u (fr_u (fr_u (fr_u (fr_t (fr_0 _ _) (fr_s hf_61 rfl)) hU18 rfl) hU22 rfl) hU26 rfl) hU36 rfl) hU40 rfl, by omega⟩
            · refine ix_i (by omega) ?_
              intro b43 b43b
              have e44 : U26 587 0 (T 404 (T 109 0 5 - 1) (T 102 (T 588 0 k) 4)) = wr_ ((U18 587 0 (T 404 (T 109 0 5 - 1) (T 102 (T 588 0 k) 4))) + (T 401 (T 109 0 5 - 1) (3 - j))) := (up_k hU26 (by exact Nat.ne_of_beq_eq_false rfl) 0 (T 404 (T 109 0 5 - 1) (T 102 (T 588 0 k) 4))).trans (up_f hU22)
              rw [e44] at b43 b43b ⊢
              intro b45 b45b
              have e46 : U26 109 0 6 = T 109 0 6 := (up_k hU26 (by exact Nat.ne_of_beq_eq_false rfl) 0 6).trans ((up_k hU22 (by exact Nat.ne_of_beq_eq_false rfl) 0 6).trans ((up_k hU18 (by exact Nat.ne_of_beq_eq_false rfl) 0 6).trans (hf_61 109 0 6 rfl)))
              rw [e46] at b45 b45b ⊢
              refine And.intro (fun c47 => ?_) (fun c47 => ?_)
              · refine hK 170 _ [] U26 ?_
                refine j_blx (F := fX9) tb_X9 (nn_ _) bk_X9_search_170 bs_X9_search_170 hz (fun K hK => ?_)
                refine ix_i (by omega) ?_
                intro b48 b48b
                have e49 : U26 587 0 (T 404 (T 109 0 5 - 1) (T 102 (T 588 0 k) 3)) = U22 587 0 (T 404 (T 109 0 5 - 1) (T 102 (T 588 0 k) 3)) := up_k hU26 (by exact Nat.ne_of_beq_eq_false rfl) 0 (T 404 (T 109 0 5 - 1) (T 102 (T 588 0 k) 3))
                rw [e49] at b48 b48b ⊢
                intro w50 w50b
                refine iy_i (by omega) (by omega) ?_
                refine x_nm (fun U51 hU51 => ?_)
                have e52 := up_f hU51
                refine ix_i (by omega) ?_
                intro b53 b53b
                intro w54 w54b
                refine iy_i (by omega) (by omega) ?_
                refine x_nm (fun U55 hU55 => ?_)
                have e56 := up_f hU55
                refine And.intro (fun c57 => ?_) (fun c57 => ?_)
                · refine hK 203 [some (vR 109 0), some (vI k), some (vR 102 (T 588 0 k)), some (vI (T 404 (T 109 0 5 - 1) (T 102 (T 588 0 k) 3))), some (vI (T 404 (T 109 0 5 - 1) (T 102 (T 588 0 k) 4))), some (vI j), some (vI (T 401 (T 109 0 5 - 1) (1 + j))), some (vI (T 401 (T 109 0 5 - 1) (3 - j))), some (vI 0)] [] U55 ?_
                  refine j_blx (F := fX9) tb_X9 (nn_ _) bk_X9_search_203 bs_X9_search_203 hz (fun K hK => ?_)
                  refine rg_i (by omega) ?_
                  refine hK 61 [some (vR 109 0), some (vI k), some (vR 102 (T 588 0 k)), some (vI (T 404 (T 109 0 5 - 1) (T 102 (T 588 0 k) 3))), some (vI (T 404 (T 109 0 5 - 1) (T 102 (T 588 0 k) 4))), some (vI (j + 1)), some (vI (T 401 (T 109 0 5 - 1) (1 + j))), some (vI (T 401 (T 109 0 5 - 1) (3 - j))), some (vI 0)] [] U55 ?_
                  refine j_drop [some (vR 109 0), some (vI k), some (vR 102 (T 588 0 k)), some (vI (T 404 (T 109 0 5 - 1) (T 102 (T 588 0 k) 3))), some (vI (T 404 (T 109 0 5 - 1) (T 102 (T 588 0 k) 4))), some (vI (j + 1)), none, none, none] (fun k v hk => ?_) rfl ?_
                  · match k, hk with
                    | 0, hk => exact hk
                    | 1, hk => exact hk
                    | 2, hk => exact hk
                    | 3, hk => exact hk
                    | 4, hk => exact hk
                    | 5, hk => exact hk
                    | 6, hk => cases hk
                    | 7, hk => cases hk
                    | 8, hk => cases hk
                    | k + 9, hk => cases hk
                  refine ih_61 _ ?_ (j + 1) U55 (Nat.le_refl _) ?_ ?_
                  · have hm_61 := hm_61 (); omega
                  · exact fr_u (fr_u (fr_u (fr_u (fr_u (fr_t (fr_0 _ _) (fr_s hf_61 rfl)) hU18 rfl) hU22 rfl) hU26 rfl) hU51 rfl) hU55 rfl
                  · omega
                · refine (show po_X9_search_1 T k U55 (some (vI 1)) from ?_)
                  exact ⟨_, rfl, fr_u (fr_u (fr_u (fr_u (fr_u (fr_t (fr_0 _ _) (fr_s hf_61 rfl)) hU18 rfl) hU22 rfl) hU26 rfl) hU51 rfl) hU55 rfl, by omega⟩
              · refine rg_i (by omega) ?_
                refine hK 160 _ [vI (k + 1), vR 109 0] U26 ?_
                have e58 : U26 109 0 9 = T 109 0 9 := (up_k hU26 (by exact Nat.ne_of_beq_eq_false rfl) 0 9).trans ((up_k hU22 (by exact Nat.ne_of_beq_eq_false rfl) 0 9).trans ((up_k hU18 (by exact Nat.ne_of_beq_eq_false rfl) 0 9).trans (hf_61 109 0 9 rfl)))
                refine j_callV (pc := 160) (y := yX9_search) (Yc := zX9_sq n) (rest := []) [vI (k + 1)] (IH (T := U26) (q9_f hq9 (show fr_ [(587, []), (584, [])] T U26 from fr_u (fr_u (fr_u (fr_t (fr_0 _ _) (fr_s hf_61 rfl)) hU18 rfl) hU22 rfl) hU26 rfl) ⟨fun _ _ => rfl, fun _ => rfl, rfl, rfl, rfl, rfl, rfl⟩) (KA__f hka (show fr_ [(587, []), (584, [])] T U26 from fr_u (fr_u (fr_u (fr_t (fr_0 _ _) (fr_s hf_61 rfl)) hU18 rfl) hU22 rfl) hU26 rfl) ⟨fun _ => rfl, fun _ => rfl, rfl, rfl, trivial⟩) (by omega)) (cl_sq n) (by show decode cX9_search (Int.toNat 160) = _; decide +kernel) (by decide) rfl (rf_sq n) (Nat.le_of_ble_eq_true rfl) (Nat.le_of_ble_eq_true rfl) (Nat.le_of_ble_eq_true rfl) rfl ?_
                rintro U59 _ ⟨x60, rfl, fU59, qU59⟩
                show J_ (zX9_sq (n + 1)) T (po_X9_search_1 T k) 0 0 163 _ [vI x60] U59
                refine j_blx (F := fX9) tb_X9 (nn_ _) bk_X9_search_163 bs_X9_search_163 hz (fun K hK => ?_)
                refine And.intro (fun c61 => ?_) (fun c61 => ?_)
                · refine hK 170 _ [] U59 ?_
                  refine j_blx (F := fX9) tb_X9 (nn_ _) bk_X9_search_170 bs_X9_search_170 hz (fun K hK => ?_)
                  refine ix_i (by omega) ?_
                  intro b62 b62b
                  intro w63 w63b
                  refine iy_i (by omega) (by omega) ?_
                  refine x_nm (fun U64 hU64 => ?_)
                  have e65 := up_f hU64
                  refine ix_i (by omega) ?_
                  intro b66 b66b
                  intro w67 w67b
                  refine iy_i (by omega) (by omega) ?_
                  refine x_nm (fun U68 hU68 => ?_)
                  have e69 := up_f hU68
                  refine And.intro (fun c70 => ?_) (fun c70 => ?_)
                  · refine hK 203 [some (vR 109 0), some (vI k), some (vR 102 (T 588 0 k)), some (vI (T 404 (T 109 0 5 - 1) (T 102 (T 588 0 k) 3))), some (vI (T 404 (T 109 0 5 - 1) (T 102 (T 588 0 k) 4))), some (vI j), some (vI (T 401 (T 109 0 5 - 1) (1 + j))), some (vI (T 401 (T 109 0 5 - 1) (3 - j))), some (vI 0)] [] U68 ?_
                    refine j_blx (F := fX9) tb_X9 (nn_ _) bk_X9_search_203 bs_X9_search_203 hz (fun K hK => ?_)
                    refine rg_i (by omega) ?_
                    refine hK 61 [some (vR 109 0), some (vI k), some (vR 102 (T 588 0 k)), some (vI (T 404 (T 109 0 5 - 1) (T 102 (T 588 0 k) 3))), some (vI (T 404 (T 109 0 5 - 1) (T 102 (T 588 0 k) 4))), some (vI (j + 1)), some (vI (T 401 (T 109 0 5 - 1) (1 + j))), some (vI (T 401 (T 109 0 5 - 1) (3 - j))), some (vI 0)] [] U68 ?_
                    refine j_drop [some (vR 109 0), some (vI k), some (vR 102 (T 588 0 k)), some (vI (T 404 (T 109 0 5 - 1) (T 102 (T 588 0 k) 3))), some (vI (T 404 (T 109 0 5 - 1) (T 102 (T 588 0 k) 4))), some (vI (j + 1)), none, none, none] (fun k v hk => ?_) rfl ?_
                    · match k, hk with
                      | 0, hk => exact hk
                      | 1, hk => exact hk
                      | 2, hk => exact hk
                      | 3, hk => exact hk
                      | 4, hk => exact hk
                      | 5, hk => exact hk
                      | 6, hk => cases hk
                      | 7, hk => cases hk
                      | 8, hk => cases hk
                      | k + 9, hk => cases hk
                    refine ih_61 _ ?_ (j + 1) U68 (Nat.le_refl _) ?_ ?_
                    · have hm_61 := hm_61 (); omega
                    · exact fr_u (fr_u (fr_t (fr_u (fr_u (fr_u (fr_t (fr_0 _ _) (fr_s hf_61 rfl)) hU18 rfl) hU22 rfl) hU26 rfl) (fr_s fU59 rfl)) hU64 rfl) hU68 rfl
                    · omega
                  · refine (show po_X9_search_1 T k U68 (some (vI 1)) from ?_)
                    exact ⟨_, rfl, fr_u (fr_u (fr_t (fr_u (fr_u (fr_u (fr_t (fr_0 _ _) (fr_s hf_61 rfl)) hU18 rfl) hU22 rfl) hU26 rfl) (fr_s fU59 rfl)) hU64 rfl) hU68 rfl, by omega⟩
                · refine hK 171 _ [vI 1] U59 ?_
                  refine j_blx (F := fX9) tb_X9 (nn_ _) bk_X9_search_171 bs_X9_search_171 hz (fun K hK => ?_)
                  refine ix_i (by omega) ?_
                  intro b71 b71b
                  intro w72 w72b
                  refine iy_i (by omega) (by omega) ?_
                  refine x_nm (fun U73 hU73 => ?_)
                  have e74 := up_f hU73
                  refine ix_i (by omega) ?_
                  intro b75 b75b
                  intro w76 w76b
                  refine iy_i (by omega) (by omega) ?_
                  refine x_nm (fun U77 hU77 => ?_)
                  have e78 := up_f hU77
                  refine And.intro (fun c79 => ?_) (fun c79 => ?_)
                  · refine hK 203 [some (vR 109 0), some (vI k), some (vR 102 (T 588 0 k)), some (vI (T 404 (T 109 0 5 - 1) (T 102 (T 588 0 k) 3))), some (vI (T 404 (T 109 0 5 - 1) (T 102 (T 588 0 k) 4))), some (vI j), some (vI (T 401 (T 109 0 5 - 1) (1 + j))), some (vI (T 401 (T 109 0 5 - 1) (3 - j))), some (vI 1)] [] U77 ?_
                    refine j_blx (F := fX9) tb_X9 (nn_ _) bk_X9_search_203 bs_X9_search_203 hz (fun K hK => ?_)
                    refine rg_i (by omega) ?_
                    refine hK 61 [some (vR 109 0), some (vI k), some (vR 102 (T 588 0 k)), some (vI (T 404 (T 109 0 5 - 1) (T 102 (T 588 0 k) 3))), some (vI (T 404 (T 109 0 5 - 1) (T 102 (T 588 0 k) 4))), some (vI (j + 1)), some (vI (T 401 (T 109 0 5 - 1) (1 + j))), some (vI (T 401 (T 109 0 5 - 1) (3 - j))), some (vI 1)] [] U77 ?_
                    refine j_drop [some (vR 109 0), some (vI k), some (vR 102 (T 588 0 k)), some (vI (T 404 (T 109 0 5 - 1) (T 102 (T 588 0 k) 3))), some (vI (T 404 (T 109 0 5 - 1) (T 102 (T 588 0 k) 4))), some (vI (j + 1)), none, none, none] (fun k v hk => ?_) rfl ?_
                    · match k, hk with
                      | 0, hk => exact hk
                      | 1, hk => exact hk
                      | 2, hk => exact hk
                      | 3, hk => exact hk
                      | 4, hk => exact hk
                      | 5, hk => exact hk
                      | 6, hk => cases hk
                      | 7, hk => cases hk
                      | 8, hk => cases hk
                      | k + 9, hk => cases hk
                    refine ih_61 _ ?_ (j + 1) U77 (Nat.le_refl _) ?_ ?_
                    · have hm_61 := hm_61 (); omega
                    · exact fr_u (fr_u (fr_t (fr_u (fr_u (fr_u (fr_t (fr_0 _ _) (fr_s hf_61 rfl)) hU18 rfl) hU22 rfl) hU26 rfl) (fr_s fU59 rfl)) hU73 rfl) hU77 rfl
                    · omega
                  · refine (show po_X9_search_1 T k U77 (some (vI 1)) from ?_)
                    exact ⟨_, rfl, fr_u (fr_u (fr_t (fr_u (fr_u (fr_u (fr_t (fr_0 _ _) (fr_s hf_61 rfl)) hU18 rfl) hU22 rfl) hU26 rfl) (fr_s fU59 rfl)) hU73 rfl) hU77 rfl, by omega⟩
  refine j_blx (F := fX9) tb_X9 (nn_ _) bk_X9_search_0 bs_X9_search_0 hz (fun K hK => ?_)
  intro b80 b80b
  refine And.intro (fun c81 => ?_) (fun c81 => ?_)
  · refine hK 14 _ [] T ?_
    refine j_blx (F := fX9) tb_X9 (nn_ _) bk_X9_search_14 bs_X9_search_14 hz (fun K hK => ?_)
    refine (show po_X9_search_1 T k T (some (vI 1)) from ?_)
    exact ⟨_, rfl, fr_0 _ _, by omega⟩
  · refine And.intro (fun c82 => ?_) (fun c82 => ?_)
    · refine hK 16 _ [] T ?_
      have hqk := hq9.2 k (by omega) (by omega)
      unfold hsx_ asx_ at hqk
      refine j_blx (F := fX9) tb_X9 (nn_ _) bk_X9_search_16 bs_X9_search_16 hz (fun K hK => ?_)
      refine ix_i (by omega) ?_
      intro b83 b83b
      refine ix_i (by omega) ?_
      refine And.intro (fun c84 => ?_) (fun c84 => ?_)
      · exact absurd (show T 523 0 (T 588 0 k) = 0 by omega) (hka.2 _ hqk.1.1 hqk.1.2)
      · refine And.intro (fun c85 => ?_) (fun c85 => ?_)
        · exact absurd c85 (by omega)
        · have z86 : T 109 0 5 - 1 = (T 109 0 5 - 1) := by omega
          rw [z86]
          intro b87 b87b
          refine ix_i (by omega) ?_
          intro b88 b88b
          refine And.intro (fun c89 => ?_) (fun c89 => ?_)
          · exact absurd c89 (by omega)
          · have z90 : T 109 0 5 - 1 = (T 109 0 5 - 1) := by omega
            rw [z90]
            intro b91 b91b
            refine ix_i (by omega) ?_
            intro b92 b92b
            refine hK 61 [some (vR 109 0), some (vI k), some (vR 102 (T 588 0 k)), some (vI (T 404 (T 109 0 5 - 1) (T 102 (T 588 0 k) 3))), some (vI (T 404 (T 109 0 5 - 1) (T 102 (T 588 0 k) 4))), some (vI 0), none, none, none] [] T ?_
            refine c_61 _ 0 T (Nat.le_refl _) ?_ ?_
            · exact fr_0 _ _
            · omega
    · refine (show po_X9_search_1 T k T (some (vI 1)) from ?_)
      exact ⟨_, rfl, fr_0 _ _, by omega⟩
