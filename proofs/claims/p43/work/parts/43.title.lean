/-- the seats of an open match's clubs -/
def hsx_ (T : Zt) (k : Int) : Int := T 404 (T 109 0 5 - 1) (T 102 (T 588 0 k) 3)
def asx_ (T : Zt) (k : Int) : Int := T 404 (T 109 0 5 - 1) (T 102 (T 588 0 k) 4)
/-- the open matches are there, and their clubs have seats -/
def Q9_ (T : Zt) : Prop := T 109 0 5 ≠ 0 ∧ ∀ k, 0 ≤ k → k < T 109 0 9 → (0 ≤ T 588 0 k ∧ T 588 0 k < T 106 0 4) ∧ (0 ≤ hsx_ T k ∧ hsx_ T k ≤ 11) ∧ (0 ≤ asx_ T k ∧ asx_ T k ≤ 11)
abbrev qw_ (ws : List (Nat × List Int)) : Prop := (∀ (_ : Nat) j, fw_ ws 404 j = false) ∧ (∀ j, fw_ ws 588 j = false) ∧ fw_ ws 109 5 = false ∧ fw_ ws 109 9 = false ∧ fw_ ws 106 4 = false ∧ fw_ ws 102 3 = false ∧ fw_ ws 102 4 = false
theorem hsx_e {ws : List (Nat × List Int)} {T T1 : Zt} (f : fr_ ws T T1) (w : qw_ ws) (k : Int) : hsx_ T1 k = hsx_ T k := by
  unfold hsx_
  rw [f 109 0 _ w.2.2.1, f _ 0 k (w.2.1 k), f 102 _ _ w.2.2.2.2.2.1, f _ _ _ (w.1 0 _)]
theorem asx_e {ws : List (Nat × List Int)} {T T1 : Zt} (f : fr_ ws T T1) (w : qw_ ws) (k : Int) : asx_ T1 k = asx_ T k := by
  unfold asx_
  rw [f 109 0 _ w.2.2.1, f _ 0 k (w.2.1 k), f 102 _ _ w.2.2.2.2.2.2, f _ _ _ (w.1 0 _)]
theorem q9_f {ws : List (Nat × List Int)} {T T1 : Zt} (h : Q9_ T) (f : fr_ ws T T1) (w : qw_ ws) : Q9_ T1 := by
  refine ⟨by rw [f 109 0 _ w.2.2.1]; exact h.1, fun k a b => ?_⟩
  rw [f 109 0 _ w.2.2.2.1] at b
  rw [hsx_e f w, asx_e f w, f _ 0 k (w.2.1 k), f 106 0 _ w.2.2.2.2.1]
  exact h.2 k a b
abbrev cX9_homeSeatOf : ByteArray := prog_11_method_10_code
def yX9_homeSeatOf : MethodName := ⟨RX9, "homeSeatOf", "(I)I"⟩
def zX9_homeSeatOf : Zm := (RX9, cX9_homeSeatOf, 2, (some .int), { frames := 0, cells := 0, slots := 0, locals := 0 })
theorem bk_X9_homeSeatOf_0 : ck_ fX9 (some .int) cX9_homeSeatOf 0 [.aload 0, .tableswitch 0 9 5 #[], .tableswitch 0 0 4 #[], .aload 0, .tableswitch 0 9 0 #[], .tableswitch 0 6 3 #[], .aload 0, .tableswitch 0 9 8 #[], .iload 1, .iaload, .aaload, .tableswitch 0 2 3 #[], .iaload, .ireturn] 26 = true := qck_r (nn_ _) (by decide +kernel)
theorem bs_X9_homeSeatOf_0 {P : Zt → Option Zv → Prop} (K : Int → Zl → List Zv → Zt → Prop) : sx_ K P [.aload 0, .tableswitch 0 9 5 #[], .tableswitch 0 0 4 #[], .aload 0, .tableswitch 0 9 0 #[], .tableswitch 0 6 3 #[], .aload 0, .tableswitch 0 9 8 #[], .iload 1, .iaload, .aaload, .tableswitch 0 2 3 #[], .iaload, .ireturn] 26 = x_aload 0 (x_g5 109 100 5 (x_g2 100 404 (x_aload 0 (x_g1 109 106 (x_g1 106 523 (x_aload 0 (x_g1 109 588 (x_iload 1 (x_iaload (x_aaload (x_g0 102 3 0 11 (x_iaload (x_ireturn P))))))))))))) := ((xe_aload 0).trans (congrArg (x_aload 0) ((xe_g5 (kk := 109) rfl tl_9_5).trans (congrArg (x_g5 109 100 5) ((xe_g2 (kk := 100) rfl tl_0_4).trans (congrArg (x_g2 100 404) ((xe_aload 0).trans (congrArg (x_aload 0) ((xe_g1 (kk := 109) rfl tl_9_0).trans (congrArg (x_g1 109 106) ((xe_g1 (kk := 106) rfl tl_6_3).trans (congrArg (x_g1 106 523) ((xe_aload 0).trans (congrArg (x_aload 0) ((xe_g1 (kk := 109) rfl tl_9_8).trans (congrArg (x_g1 109 588) ((xe_iload 1).trans (congrArg (x_iload 1) ((xe_iaload).trans (congrArg (x_iaload) ((xe_aaload).trans (congrArg (x_aaload) ((xe_g0 (kk := 102) rfl tl_2_3).trans (congrArg (x_g0 102 3 0 11) ((xe_iaload).trans (congrArg (x_iaload) (xe_ireturn)))))))))))))))))))))))))))
abbrev po_X9_homeSeatOf (T : Zt) (k : Int) : Zt → Option Zv → Prop := fun T' r => T = T' ∧ ∃ x : Int, r = some (vI x) ∧ (x = hsx_ T k ∧ 0 ≤ x ∧ x ≤ 11)
set_option maxHeartbeats 4000000 in
theorem ct_X9_homeSeatOf {T : Zt} {k : Int} (hq9 : Q9_ T) (hka : KA_ T) (hk : 0 ≤ k ∧ k < T 109 0 9) : Ct_ yX9_homeSeatOf zX9_homeSeatOf T [vR 109 0, vI k] (po_X9_homeSeatOf T k) := by
  refine ct_of pn_9 rfl rfl (Nat.le_of_ble_eq_true rfl) (fun hT hav => ?_)
  have hr_k : -2147483648 ≤ k ∧ k ≤ 2147483647 := hav (vI k) (List.mem_cons_of_mem _ List.mem_cons_self)
  have hz : zX9_homeSeatOf.2.2.2.1 = some .boolean → ∀ (T' : Zt) (x : Int), po_X9_homeSeatOf T k T' (some (vI x)) → 0 ≤ x ∧ x ≤ 1 := fun h => by cases h
  have hct := hq9.1
  have hqk := hq9.2 k (by omega) (by omega)
  have hbo : 0 ≤ T 109 0 9 ∧ T 109 0 9 ≤ 40 := bd_f hT 109 9 tl_9_9 0
  show J_ zX9_homeSeatOf T (po_X9_homeSeatOf T k) 0 0 0 [some (vR 109 0), some (vI k)] [] T
  refine j_blx (F := fX9) tb_X9 (nn_ _) bk_X9_homeSeatOf_0 bs_X9_homeSeatOf_0 hz (fun K hK => ?_)
  refine And.intro (fun c1 => ?_) (fun c1 => ?_)
  · exact absurd c1 (by omega)
  · refine ix_i (by omega) ?_
    intro b2 b2b
    refine ix_i (by omega) ?_
    refine And.intro (fun c3 => ?_) (fun c3 => ?_)
    · exact absurd c3 (hka.2 _ (by omega) (by omega))
    · intro b4 b4b
      refine ix_i (by omega) ?_
      intro b5 b5b
      refine (show po_X9_homeSeatOf T k T (some (vI (T 404 (T 109 0 5 - 1) (T 102 (T 588 0 k) 3)))) from ?_)
      exact ⟨rfl, _, rfl, rfl, hqk.2.1⟩
abbrev cX9_awaySeatOf : ByteArray := prog_11_method_11_code
def yX9_awaySeatOf : MethodName := ⟨RX9, "awaySeatOf", "(I)I"⟩
def zX9_awaySeatOf : Zm := (RX9, cX9_awaySeatOf, 2, (some .int), { frames := 0, cells := 0, slots := 0, locals := 0 })
theorem bk_X9_awaySeatOf_0 : ck_ fX9 (some .int) cX9_awaySeatOf 0 [.aload 0, .tableswitch 0 9 5 #[], .tableswitch 0 0 4 #[], .aload 0, .tableswitch 0 9 0 #[], .tableswitch 0 6 3 #[], .aload 0, .tableswitch 0 9 8 #[], .iload 1, .iaload, .aaload, .tableswitch 0 2 4 #[], .iaload, .ireturn] 26 = true := qck_r (nn_ _) (by decide +kernel)
theorem bs_X9_awaySeatOf_0 {P : Zt → Option Zv → Prop} (K : Int → Zl → List Zv → Zt → Prop) : sx_ K P [.aload 0, .tableswitch 0 9 5 #[], .tableswitch 0 0 4 #[], .aload 0, .tableswitch 0 9 0 #[], .tableswitch 0 6 3 #[], .aload 0, .tableswitch 0 9 8 #[], .iload 1, .iaload, .aaload, .tableswitch 0 2 4 #[], .iaload, .ireturn] 26 = x_aload 0 (x_g5 109 100 5 (x_g2 100 404 (x_aload 0 (x_g1 109 106 (x_g1 106 523 (x_aload 0 (x_g1 109 588 (x_iload 1 (x_iaload (x_aaload (x_g0 102 4 0 11 (x_iaload (x_ireturn P))))))))))))) := ((xe_aload 0).trans (congrArg (x_aload 0) ((xe_g5 (kk := 109) rfl tl_9_5).trans (congrArg (x_g5 109 100 5) ((xe_g2 (kk := 100) rfl tl_0_4).trans (congrArg (x_g2 100 404) ((xe_aload 0).trans (congrArg (x_aload 0) ((xe_g1 (kk := 109) rfl tl_9_0).trans (congrArg (x_g1 109 106) ((xe_g1 (kk := 106) rfl tl_6_3).trans (congrArg (x_g1 106 523) ((xe_aload 0).trans (congrArg (x_aload 0) ((xe_g1 (kk := 109) rfl tl_9_8).trans (congrArg (x_g1 109 588) ((xe_iload 1).trans (congrArg (x_iload 1) ((xe_iaload).trans (congrArg (x_iaload) ((xe_aaload).trans (congrArg (x_aaload) ((xe_g0 (kk := 102) rfl tl_2_4).trans (congrArg (x_g0 102 4 0 11) ((xe_iaload).trans (congrArg (x_iaload) (xe_ireturn)))))))))))))))))))))))))))
abbrev po_X9_awaySeatOf (T : Zt) (k : Int) : Zt → Option Zv → Prop := fun T' r => T = T' ∧ ∃ x : Int, r = some (vI x) ∧ (x = asx_ T k ∧ 0 ≤ x ∧ x ≤ 11)
set_option maxHeartbeats 4000000 in
theorem ct_X9_awaySeatOf {T : Zt} {k : Int} (hq9 : Q9_ T) (hka : KA_ T) (hk : 0 ≤ k ∧ k < T 109 0 9) : Ct_ yX9_awaySeatOf zX9_awaySeatOf T [vR 109 0, vI k] (po_X9_awaySeatOf T k) := by
  refine ct_of pn_9 rfl rfl (Nat.le_of_ble_eq_true rfl) (fun hT hav => ?_)
  have hr_k : -2147483648 ≤ k ∧ k ≤ 2147483647 := hav (vI k) (List.mem_cons_of_mem _ List.mem_cons_self)
  have hz : zX9_awaySeatOf.2.2.2.1 = some .boolean → ∀ (T' : Zt) (x : Int), po_X9_awaySeatOf T k T' (some (vI x)) → 0 ≤ x ∧ x ≤ 1 := fun h => by cases h
  have hct := hq9.1
  have hqk := hq9.2 k (by omega) (by omega)
  have hbo : 0 ≤ T 109 0 9 ∧ T 109 0 9 ≤ 40 := bd_f hT 109 9 tl_9_9 0
  show J_ zX9_awaySeatOf T (po_X9_awaySeatOf T k) 0 0 0 [some (vR 109 0), some (vI k)] [] T
  refine j_blx (F := fX9) tb_X9 (nn_ _) bk_X9_awaySeatOf_0 bs_X9_awaySeatOf_0 hz (fun K hK => ?_)
  refine And.intro (fun c1 => ?_) (fun c1 => ?_)
  · exact absurd c1 (by omega)
  · refine ix_i (by omega) ?_
    intro b2 b2b
    refine ix_i (by omega) ?_
    refine And.intro (fun c3 => ?_) (fun c3 => ?_)
    · exact absurd c3 (hka.2 _ (by omega) (by omega))
    · intro b4 b4b
      refine ix_i (by omega) ?_
      intro b5 b5b
      refine (show po_X9_awaySeatOf T k T (some (vI (T 404 (T 109 0 5 - 1) (T 102 (T 588 0 k) 4)))) from ?_)
      exact ⟨rfl, _, rfl, rfl, hqk.2.2⟩
abbrev cX9_takerOf : ByteArray := prog_11_method_13_code
def yX9_takerOf : MethodName := ⟨RX9, "takerOf", "(II)I"⟩
def zX9_takerOf : Zm := (RX9, cX9_takerOf, 3, (some .int), { frames := 1, cells := 0, slots := 0, locals := 21 })
theorem bk_X9_takerOf_0 : ck_ fX9 (some .int) cX9_takerOf 0 [.aload 0, .iload 1] 2 = true := qck_r (nn_ _) (by decide +kernel)
theorem bs_X9_takerOf_0 {P : Zt → Option Zv → Prop} (K : Int → Zl → List Zv → Zt → Prop) : sx_ K P [.aload 0, .iload 1] 2 = x_aload 0 (x_iload 1 (K 2)) := ((xe_aload 0).trans (congrArg (x_aload 0) ((xe_iload 1).trans (congrArg (x_iload 1) xe_nil))))
set_option maxRecDepth 100000 in
theorem cl_X9_145 : cv_ RX9 145 yX9_homeSeatOf zX9_homeSeatOf 9 1 := ⟨gi_V (lwq_6 (dqc_m (dqa_m (dqa_m (List.mem_of_getElem? (i := 7) rfl)))) rfl : Cond.methodLink RX9 145 yX9_homeSeatOf ∈ lw_g) (lwq_6 (dqc_m (dqa_m (dqa_m (dqa_m (List.mem_of_getElem? (i := 1) rfl))))) rfl : Cond.instanceMethod yX9_homeSeatOf ∈ lw_g) (lw_sel 137 rfl : Cond.selects yX9_homeSeatOf.cls yX9_homeSeatOf yX9_homeSeatOf ∈ lw_g) (lwq_1 (List.mem_of_getElem? (i := 6) rfl) rfl : Cond.initialized yX9_homeSeatOf.cls ∈ lw_g) (lwq_6 (dqc_m (dqa_m (dqa_m (dqa_m (List.mem_of_getElem? (i := 2) rfl))))) rfl : Cond.code yX9_homeSeatOf cX9_homeSeatOf 2 (some .int) ∈ lw_g), ⟨nmh_8.1, nmh_8.2, pdq_15⟩, ⟨_, _, rfl⟩⟩
theorem bk_X9_takerOf_5 : ck_ fX9 (some .int) cX9_takerOf 5 [.iload 2, .if_icmp .ne 28, .aload 0, .tableswitch 0 9 10 #[], .iload 1, .iaload, .ifCond .le 26, .aload 0, .iload 1] 20 = true := qck_r (nn_ _) (by decide +kernel)
theorem bs_X9_takerOf_5 {P : Zt → Option Zv → Prop} (K : Int → Zl → List Zv → Zt → Prop) : sx_ K P [.iload 2, .if_icmp .ne 28, .aload 0, .tableswitch 0 9 10 #[], .iload 1, .iaload, .ifCond .le 26, .aload 0, .iload 1] 20 = x_iload 2 (x_if_icmp .ne 28 K (x_aload 0 (x_g1 109 590 (x_iload 1 (x_iaload (x_ifCond .le 26 K (x_aload 0 (x_iload 1 (K 20))))))))) := ((xe_iload 2).trans (congrArg (x_iload 2) ((xe_if_icmp .ne 28).trans (congrArg (x_if_icmp .ne 28 K) ((xe_aload 0).trans (congrArg (x_aload 0) ((xe_g1 (kk := 109) rfl tl_9_10).trans (congrArg (x_g1 109 590) ((xe_iload 1).trans (congrArg (x_iload 1) ((xe_iaload).trans (congrArg (x_iaload) ((xe_ifCond .le 26).trans (congrArg (x_ifCond .le 26 K) ((xe_aload 0).trans (congrArg (x_aload 0) ((xe_iload 1).trans (congrArg (x_iload 1) xe_nil))))))))))))))))))
theorem bk_X9_takerOf_28 : ck_ fX9 (some .int) cX9_takerOf 28 [.aload 0, .iload 1] 30 = true := qck_r (nn_ _) (by decide +kernel)
theorem bs_X9_takerOf_28 {P : Zt → Option Zv → Prop} (K : Int → Zl → List Zv → Zt → Prop) : sx_ K P [.aload 0, .iload 1] 30 = x_aload 0 (x_iload 1 (K 30)) := ((xe_aload 0).trans (congrArg (x_aload 0) ((xe_iload 1).trans (congrArg (x_iload 1) xe_nil))))
set_option maxRecDepth 100000 in
theorem cl_X9_154 : cv_ RX9 154 yX9_awaySeatOf zX9_awaySeatOf 9 1 := ⟨gi_V (lwq_6 (dqc_m (dqc_m (List.mem_of_getElem? (i := 3) rfl))) rfl : Cond.methodLink RX9 154 yX9_awaySeatOf ∈ lw_g) (lwq_6 (dqc_m (dqc_m (List.mem_of_getElem? (i := 5) rfl))) rfl : Cond.instanceMethod yX9_awaySeatOf ∈ lw_g) (lw_sel 136 rfl : Cond.selects yX9_awaySeatOf.cls yX9_awaySeatOf yX9_awaySeatOf ∈ lw_g) (lwq_1 (List.mem_of_getElem? (i := 6) rfl) rfl : Cond.initialized yX9_awaySeatOf.cls ∈ lw_g) (lwq_6 (dqc_m (dqc_m (List.mem_of_getElem? (i := 6) rfl))) rfl : Cond.code yX9_awaySeatOf cX9_awaySeatOf 2 (some .int) ∈ lw_g), ⟨nmh_8.1, nmh_8.2, pdq_15⟩, ⟨_, _, rfl⟩⟩
theorem bk_X9_takerOf_33 : ck_ fX9 (some .int) cX9_takerOf 33 [.iload 2, .if_icmp .ne 55, .aload 0, .tableswitch 0 9 10 #[], .iload 1, .iaload, .iconst 2, .if_icmp .ge 55, .aload 0, .iload 1] 49 = true := qck_r (nn_ _) (by decide +kernel)
theorem bs_X9_takerOf_33 {P : Zt → Option Zv → Prop} (K : Int → Zl → List Zv → Zt → Prop) : sx_ K P [.iload 2, .if_icmp .ne 55, .aload 0, .tableswitch 0 9 10 #[], .iload 1, .iaload, .iconst 2, .if_icmp .ge 55, .aload 0, .iload 1] 49 = x_iload 2 (x_if_icmp .ne 55 K (x_aload 0 (x_g1 109 590 (x_iload 1 (x_iaload (x_iconst 2 (x_if_icmp .ge 55 K (x_aload 0 (x_iload 1 (K 49)))))))))) := ((xe_iload 2).trans (congrArg (x_iload 2) ((xe_if_icmp .ne 55).trans (congrArg (x_if_icmp .ne 55 K) ((xe_aload 0).trans (congrArg (x_aload 0) ((xe_g1 (kk := 109) rfl tl_9_10).trans (congrArg (x_g1 109 590) ((xe_iload 1).trans (congrArg (x_iload 1) ((xe_iaload).trans (congrArg (x_iaload) ((xe_iconst 2).trans (congrArg (x_iconst 2) ((xe_if_icmp .ge 55).trans (congrArg (x_if_icmp .ge 55 K) ((xe_aload 0).trans (congrArg (x_aload 0) ((xe_iload 1).trans (congrArg (x_iload 1) xe_nil))))))))))))))))))))
theorem bk_X9_takerOf_55 : ck_ fX9 (some .int) cX9_takerOf 55 [.iconst (-1), .ireturn] 57 = true := qck_r (nn_ _) (by decide +kernel)
theorem bs_X9_takerOf_55 {P : Zt → Option Zv → Prop} (K : Int → Zl → List Zv → Zt → Prop) : sx_ K P [.iconst (-1), .ireturn] 57 = x_iconst (-1) (x_ireturn P) := ((xe_iconst (-1)).trans (congrArg (x_iconst (-1)) (xe_ireturn)))
theorem bk_X9_takerOf_52 : ck_ fX9 (some .int) cX9_takerOf 52 [.goto 56] 55 = true := qck_r (nn_ _) (by decide +kernel)
theorem bs_X9_takerOf_52 {P : Zt → Option Zv → Prop} (K : Int → Zl → List Zv → Zt → Prop) : sx_ K P [.goto 56] 55 = x_goto 56 K := (xe_goto 56)
theorem bk_X9_takerOf_56 : ck_ fX9 (some .int) cX9_takerOf 56 [.ireturn] 57 = true := qck_r (nn_ _) (by decide +kernel)
theorem bs_X9_takerOf_56 {P : Zt → Option Zv → Prop} (K : Int → Zl → List Zv → Zt → Prop) : sx_ K P [.ireturn] 57 = x_ireturn P := (xe_ireturn)
theorem bk_X9_takerOf_26 : ck_ fX9 (some .int) cX9_takerOf 26 [.iconst (-1), .ireturn] 28 = true := qck_r (nn_ _) (by decide +kernel)
theorem bs_X9_takerOf_26 {P : Zt → Option Zv → Prop} (K : Int → Zl → List Zv → Zt → Prop) : sx_ K P [.iconst (-1), .ireturn] 28 = x_iconst (-1) (x_ireturn P) := ((xe_iconst (-1)).trans (congrArg (x_iconst (-1)) (xe_ireturn)))
theorem bk_X9_takerOf_23 : ck_ fX9 (some .int) cX9_takerOf 23 [.goto 27] 26 = true := qck_r (nn_ _) (by decide +kernel)
theorem bs_X9_takerOf_23 {P : Zt → Option Zv → Prop} (K : Int → Zl → List Zv → Zt → Prop) : sx_ K P [.goto 27] 26 = x_goto 27 K := (xe_goto 27)
theorem bk_X9_takerOf_27 : ck_ fX9 (some .int) cX9_takerOf 27 [.ireturn] 28 = true := qck_r (nn_ _) (by decide +kernel)
theorem bs_X9_takerOf_27 {P : Zt → Option Zv → Prop} (K : Int → Zl → List Zv → Zt → Prop) : sx_ K P [.ireturn] 28 = x_ireturn P := (xe_ireturn)
abbrev po_X9_takerOf (T : Zt) (k s : Int) : Zt → Option Zv → Prop := fun T' r => T = T' ∧ ∃ x : Int, r = some (vI x) ∧ (x = -1 ∨ (0 ≤ x ∧ x ≤ 11 ∧ ((hsx_ T k = s ∧ x = asx_ T k) ∨ (asx_ T k = s ∧ x = hsx_ T k))))
set_option maxHeartbeats 4000000 in
theorem ct_X9_takerOf {T : Zt} {k s : Int} (hq9 : Q9_ T) (hka : KA_ T) (hk : 0 ≤ k ∧ k < T 109 0 9) : Ct_ yX9_takerOf zX9_takerOf T [vR 109 0, vI k, vI s] (po_X9_takerOf T k s) := by
  refine ct_of pn_9 rfl rfl (Nat.le_of_ble_eq_true rfl) (fun hT hav => ?_)
  have hr_k : -2147483648 ≤ k ∧ k ≤ 2147483647 := hav (vI k) (List.mem_cons_of_mem _ List.mem_cons_self)
  have hr_s : -2147483648 ≤ s ∧ s ≤ 2147483647 := hav (vI s) (List.mem_cons_of_mem _ (List.mem_cons_of_mem _ List.mem_cons_self))
  have hz : zX9_takerOf.2.2.2.1 = some .boolean → ∀ (T' : Zt) (x : Int), po_X9_takerOf T k s T' (some (vI x)) → 0 ≤ x ∧ x ≤ 1 := fun h => by cases h
  have hbo : 0 ≤ T 109 0 9 ∧ T 109 0 9 ≤ 40 := bd_f hT 109 9 tl_9_9 0
  show J_ zX9_takerOf T (po_X9_takerOf T k s) 0 0 0 [some (vR 109 0), some (vI k), some (vI s)] [] T
  refine j_blx (F := fX9) tb_X9 (nn_ _) bk_X9_takerOf_0 bs_X9_takerOf_0 hz (fun K hK => ?_)
  refine hK 2 _ [vI k, vR 109 0] T ?_
  refine j_callV (y := yX9_homeSeatOf) (Yc := zX9_homeSeatOf) (rest := []) [vI k] (ct_X9_homeSeatOf (T := T) hq9 hka (by omega)) cl_X9_145 (qd_c (by decide +kernel)) (nn_ _) rfl (rf_of rfl) (Nat.le_of_ble_eq_true rfl) (Nat.le_of_ble_eq_true rfl) (Nat.le_of_ble_eq_true rfl) rfl ?_
  rintro _ _ ⟨rfl, x1, rfl, hx1⟩
  show J_ zX9_takerOf T (po_X9_takerOf T k s) 0 0 5 _ [vI x1] T
  refine j_blx (F := fX9) tb_X9 (nn_ _) bk_X9_takerOf_5 bs_X9_takerOf_5 hz (fun K hK => ?_)
  refine And.intro (fun c2 => ?_) (fun c2 => ?_)
  · refine hK 28 _ [] T ?_
    refine j_blx (F := fX9) tb_X9 (nn_ _) bk_X9_takerOf_28 bs_X9_takerOf_28 hz (fun K hK => ?_)
    refine hK 30 _ [vI k, vR 109 0] T ?_
    refine j_callV (y := yX9_awaySeatOf) (Yc := zX9_awaySeatOf) (rest := []) [vI k] (ct_X9_awaySeatOf (T := T) hq9 hka (by omega)) cl_X9_154 (qd_c (by decide +kernel)) (nn_ _) rfl (rf_of rfl) (Nat.le_of_ble_eq_true rfl) (Nat.le_of_ble_eq_true rfl) (Nat.le_of_ble_eq_true rfl) rfl ?_
    rintro _ _ ⟨rfl, x3, rfl, hx3⟩
    show J_ zX9_takerOf T (po_X9_takerOf T k s) 0 0 33 _ [vI x3] T
    refine j_blx (F := fX9) tb_X9 (nn_ _) bk_X9_takerOf_33 bs_X9_takerOf_33 hz (fun K hK => ?_)
    refine And.intro (fun c4 => ?_) (fun c4 => ?_)
    · refine hK 55 _ [] T ?_
      refine j_blx (F := fX9) tb_X9 (nn_ _) bk_X9_takerOf_55 bs_X9_takerOf_55 hz (fun K hK => ?_)
      refine (show po_X9_takerOf T k s T (some (vI (-1))) from ?_)
      exact ⟨rfl, _, rfl, by omega⟩
    · refine ix_i (by omega) ?_
      intro b5 b5b
      refine And.intro (fun c6 => ?_) (fun c6 => ?_)
      · refine hK 55 _ [] T ?_
        refine j_blx (F := fX9) tb_X9 (nn_ _) bk_X9_takerOf_55 bs_X9_takerOf_55 hz (fun K hK => ?_)
        refine (show po_X9_takerOf T k s T (some (vI (-1))) from ?_)
        exact ⟨rfl, _, rfl, by omega⟩
      · refine hK 49 _ [vI k, vR 109 0] T ?_
        refine j_callV (y := yX9_homeSeatOf) (Yc := zX9_homeSeatOf) (rest := []) [vI k] (ct_X9_homeSeatOf (T := T) hq9 hka (by omega)) cl_X9_145 (qd_c (by decide +kernel)) (nn_ _) rfl (rf_of rfl) (Nat.le_of_ble_eq_true rfl) (Nat.le_of_ble_eq_true rfl) (Nat.le_of_ble_eq_true rfl) rfl ?_
        rintro _ _ ⟨rfl, x7, rfl, hx7⟩
        show J_ zX9_takerOf T (po_X9_takerOf T k s) 0 0 52 _ [vI x7] T
        refine j_blx (F := fX9) tb_X9 (nn_ _) bk_X9_takerOf_52 bs_X9_takerOf_52 hz (fun K hK => ?_)
        refine hK 56 _ [vI x7] T ?_
        refine j_blx (F := fX9) tb_X9 (nn_ _) bk_X9_takerOf_56 bs_X9_takerOf_56 hz (fun K hK => ?_)
        refine (show po_X9_takerOf T k s T (some (vI x7)) from ?_)
        exact ⟨rfl, _, rfl, by omega⟩
  · refine ix_i (by omega) ?_
    intro b8 b8b
    refine And.intro (fun c9 => ?_) (fun c9 => ?_)
    · refine hK 26 _ [] T ?_
      refine j_blx (F := fX9) tb_X9 (nn_ _) bk_X9_takerOf_26 bs_X9_takerOf_26 hz (fun K hK => ?_)
      refine (show po_X9_takerOf T k s T (some (vI (-1))) from ?_)
      exact ⟨rfl, _, rfl, by omega⟩
    · refine hK 20 _ [vI k, vR 109 0] T ?_
      refine j_callV (y := yX9_awaySeatOf) (Yc := zX9_awaySeatOf) (rest := []) [vI k] (ct_X9_awaySeatOf (T := T) hq9 hka (by omega)) cl_X9_154 (qd_c (by decide +kernel)) (nn_ _) rfl (rf_of rfl) (Nat.le_of_ble_eq_true rfl) (Nat.le_of_ble_eq_true rfl) (Nat.le_of_ble_eq_true rfl) rfl ?_
      rintro _ _ ⟨rfl, x10, rfl, hx10⟩
      show J_ zX9_takerOf T (po_X9_takerOf T k s) 0 0 23 _ [vI x10] T
      refine j_blx (F := fX9) tb_X9 (nn_ _) bk_X9_takerOf_23 bs_X9_takerOf_23 hz (fun K hK => ?_)
      refine hK 27 _ [vI x10] T ?_
      refine j_blx (F := fX9) tb_X9 (nn_ _) bk_X9_takerOf_27 bs_X9_takerOf_27 hz (fun K hK => ?_)
      refine (show po_X9_takerOf T k s T (some (vI x10)) from ?_)
      exact ⟨rfl, _, rfl, by omega⟩
abbrev cX9_openBetween : ByteArray := prog_11_method_16_code
def yX9_openBetween : MethodName := ⟨RX9, "openBetween", "(II)I"⟩
def zX9_openBetween : Zm := (RX9, cX9_openBetween, 6, (some .int), { frames := 0, cells := 0, slots := 0, locals := 0 })
theorem bk_X9_openBetween_76 : ck_ fX9 (some .int) cX9_openBetween 76 [.iinc 4 1, .goto 5] 82 = true := qck_r (nn_ _) (by decide +kernel)
theorem bs_X9_openBetween_76 {P : Zt → Option Zv → Prop} (K : Int → Zl → List Zv → Zt → Prop) : sx_ K P [.iinc 4 1, .goto 5] 82 = x_iinc 4 1 (x_goto 5 K) := ((xe_iinc 4 1).trans (congrArg (x_iinc 4 1) (xe_goto 5)))
theorem bk_X9_openBetween_73 : ck_ fX9 (some .int) cX9_openBetween 73 [.iinc 3 1] 76 = true := qck_r (nn_ _) (by decide +kernel)
theorem bs_X9_openBetween_73 {P : Zt → Option Zv → Prop} (K : Int → Zl → List Zv → Zt → Prop) : sx_ K P [.iinc 3 1] 76 = x_iinc 3 1 (K 76) := ((xe_iinc 3 1).trans (congrArg (x_iinc 3 1) xe_nil))
theorem bk_X9_openBetween_5 : ck_ fX9 (some .int) cX9_openBetween 5 [.iload 4, .aload 0, .tableswitch 0 9 9 #[], .if_icmp .ge 82, .aload 0, .tableswitch 0 9 0 #[], .tableswitch 0 6 3 #[], .aload 0, .tableswitch 0 9 8 #[], .iload 4, .iaload, .aaload, .astore 5, .aload 5, .tableswitch 0 2 3 #[], .iload 1, .if_icmp .ne 52, .iload 2, .aload 5, .tableswitch 0 2 4 #[], .ishr, .iconst 1, .iand, .ifCond .ne 73, .aload 5, .tableswitch 0 2 4 #[], .iload 1, .if_icmp .ne 76, .iload 2, .aload 5, .tableswitch 0 2 3 #[], .ishr, .iconst 1, .iand, .ifCond .eq 76] 73 = true := qck_r (nn_ _) (by decide +kernel)
theorem bs_X9_openBetween_5 {P : Zt → Option Zv → Prop} (K : Int → Zl → List Zv → Zt → Prop) : sx_ K P [.iload 4, .aload 0, .tableswitch 0 9 9 #[], .if_icmp .ge 82, .aload 0, .tableswitch 0 9 0 #[], .tableswitch 0 6 3 #[], .aload 0, .tableswitch 0 9 8 #[], .iload 4, .iaload, .aaload, .astore 5, .aload 5, .tableswitch 0 2 3 #[], .iload 1, .if_icmp .ne 52, .iload 2, .aload 5, .tableswitch 0 2 4 #[], .ishr, .iconst 1, .iand, .ifCond .ne 73, .aload 5, .tableswitch 0 2 4 #[], .iload 1, .if_icmp .ne 76, .iload 2, .aload 5, .tableswitch 0 2 3 #[], .ishr, .iconst 1, .iand, .ifCond .eq 76] 73 = x_iload 4 (x_aload 0 (x_g0 109 9 0 40 (x_if_icmp .ge 82 K (x_aload 0 (x_g1 109 106 (x_g1 106 523 (x_aload 0 (x_g1 109 588 (x_iload 4 (x_iaload (x_aaload (x_astore 5 (x_aload 5 (x_g0 102 3 0 11 (x_iload 1 (x_if_icmp .ne 52 K (x_iload 2 (x_aload 5 (x_g0 102 4 0 11 (x_ishr (x_iconst 1 (x_iand (x_ifCond .ne 73 K (x_aload 5 (x_g0 102 4 0 11 (x_iload 1 (x_if_icmp .ne 76 K (x_iload 2 (x_aload 5 (x_g0 102 3 0 11 (x_ishr (x_iconst 1 (x_iand (x_ifCond .eq 76 K (K 73))))))))))))))))))))))))))))))))))) := ((xe_iload 4).trans (congrArg (x_iload 4) ((xe_aload 0).trans (congrArg (x_aload 0) ((xe_g0 (kk := 109) rfl tl_9_9).trans (congrArg (x_g0 109 9 0 40) ((xe_if_icmp .ge 82).trans (congrArg (x_if_icmp .ge 82 K) ((xe_aload 0).trans (congrArg (x_aload 0) ((xe_g1 (kk := 109) rfl tl_9_0).trans (congrArg (x_g1 109 106) ((xe_g1 (kk := 106) rfl tl_6_3).trans (congrArg (x_g1 106 523) ((xe_aload 0).trans (congrArg (x_aload 0) ((xe_g1 (kk := 109) rfl tl_9_8).trans (congrArg (x_g1 109 588) ((xe_iload 4).trans (congrArg (x_iload 4) ((xe_iaload).trans (congrArg (x_iaload) ((xe_aaload).trans (congrArg (x_aaload) ((xe_astore 5).trans (congrArg (x_astore 5) ((xe_aload 5).trans (congrArg (x_aload 5) ((xe_g0 (kk := 102) rfl tl_2_3).trans (congrArg (x_g0 102 3 0 11) ((xe_iload 1).trans (congrArg (x_iload 1) ((xe_if_icmp .ne 52).trans (congrArg (x_if_icmp .ne 52 K) ((xe_iload 2).trans (congrArg (x_iload 2) ((xe_aload 5).trans (congrArg (x_aload 5) ((xe_g0 (kk := 102) rfl tl_2_4).trans (congrArg (x_g0 102 4 0 11) ((xe_ishr).trans (congrArg (x_ishr) ((xe_iconst 1).trans (congrArg (x_iconst 1) ((xe_iand).trans (congrArg (x_iand) ((xe_ifCond .ne 73).trans (congrArg (x_ifCond .ne 73 K) ((xe_aload 5).trans (congrArg (x_aload 5) ((xe_g0 (kk := 102) rfl tl_2_4).trans (congrArg (x_g0 102 4 0 11) ((xe_iload 1).trans (congrArg (x_iload 1) ((xe_if_icmp .ne 76).trans (congrArg (x_if_icmp .ne 76 K) ((xe_iload 2).trans (congrArg (x_iload 2) ((xe_aload 5).trans (congrArg (x_aload 5) ((xe_g0 (kk := 102) rfl tl_2_3).trans (congrArg (x_g0 102 3 0 11) ((xe_ishr).trans (congrArg (x_ishr) ((xe_iconst 1).trans (congrArg (x_iconst 1) ((xe_iand).trans (congrArg (x_iand) ((xe_ifCond .eq 76).trans (congrArg (x_ifCond .eq 76 K) xe_nil))))))))))))))))))))))))))))))))))))))))))))))))))))))))))))))))))))))
theorem bk_X9_openBetween_82 : ck_ fX9 (some .int) cX9_openBetween 82 [.iload 3, .ireturn] 84 = true := qck_r (nn_ _) (by decide +kernel)
theorem bs_X9_openBetween_82 {P : Zt → Option Zv → Prop} (K : Int → Zl → List Zv → Zt → Prop) : sx_ K P [.iload 3, .ireturn] 84 = x_iload 3 (x_ireturn P) := ((xe_iload 3).trans (congrArg (x_iload 3) (xe_ireturn)))
theorem bk_X9_openBetween_52 : ck_ fX9 (some .int) cX9_openBetween 52 [.aload 5, .tableswitch 0 2 4 #[], .iload 1, .if_icmp .ne 76, .iload 2, .aload 5, .tableswitch 0 2 3 #[], .ishr, .iconst 1, .iand, .ifCond .eq 76] 73 = true := qck_r (nn_ _) (by decide +kernel)
theorem bs_X9_openBetween_52 {P : Zt → Option Zv → Prop} (K : Int → Zl → List Zv → Zt → Prop) : sx_ K P [.aload 5, .tableswitch 0 2 4 #[], .iload 1, .if_icmp .ne 76, .iload 2, .aload 5, .tableswitch 0 2 3 #[], .ishr, .iconst 1, .iand, .ifCond .eq 76] 73 = x_aload 5 (x_g0 102 4 0 11 (x_iload 1 (x_if_icmp .ne 76 K (x_iload 2 (x_aload 5 (x_g0 102 3 0 11 (x_ishr (x_iconst 1 (x_iand (x_ifCond .eq 76 K (K 73))))))))))) := ((xe_aload 5).trans (congrArg (x_aload 5) ((xe_g0 (kk := 102) rfl tl_2_4).trans (congrArg (x_g0 102 4 0 11) ((xe_iload 1).trans (congrArg (x_iload 1) ((xe_if_icmp .ne 76).trans (congrArg (x_if_icmp .ne 76 K) ((xe_iload 2).trans (congrArg (x_iload 2) ((xe_aload 5).trans (congrArg (x_aload 5) ((xe_g0 (kk := 102) rfl tl_2_3).trans (congrArg (x_g0 102 3 0 11) ((xe_ishr).trans (congrArg (x_ishr) ((xe_iconst 1).trans (congrArg (x_iconst 1) ((xe_iand).trans (congrArg (x_iand) ((xe_ifCond .eq 76).trans (congrArg (x_ifCond .eq 76 K) xe_nil))))))))))))))))))))))
theorem bk_X9_openBetween_0 : ck_ fX9 (some .int) cX9_openBetween 0 [.iconst 0, .istore 3, .iconst 0, .istore 4] 5 = true := qck_r (nn_ _) (by decide +kernel)
theorem bs_X9_openBetween_0 {P : Zt → Option Zv → Prop} (K : Int → Zl → List Zv → Zt → Prop) : sx_ K P [.iconst 0, .istore 3, .iconst 0, .istore 4] 5 = x_iconst 0 (x_istore 3 (x_iconst 0 (x_istore 4 (K 5)))) := ((xe_iconst 0).trans (congrArg (x_iconst 0) ((xe_istore 3).trans (congrArg (x_istore 3) ((xe_iconst 0).trans (congrArg (x_iconst 0) ((xe_istore 4).trans (congrArg (x_istore 4) xe_nil))))))))
abbrev po_X9_openBetween (T : Zt) (c g : Int) : Zt → Option Zv → Prop := fun T' r => T = T' ∧ ∃ x : Int, r = some (vI x) ∧ (0 ≤ x ∧ x ≤ 40)
set_option maxHeartbeats 4000000 in
theorem ct_X9_openBetween {T : Zt} {c g : Int} (hq9 : Q9_ T) (hka : KA_ T) : Ct_ yX9_openBetween zX9_openBetween T [vR 109 0, vI c, vI g] (po_X9_openBetween T c g) := by
  refine ct_of pn_9 rfl rfl (Nat.le_of_ble_eq_true rfl) (fun hT hav => ?_)
  have hr_c : -2147483648 ≤ c ∧ c ≤ 2147483647 := hav (vI c) (List.mem_cons_of_mem _ List.mem_cons_self)
  have hr_g : -2147483648 ≤ g ∧ g ≤ 2147483647 := hav (vI g) (List.mem_cons_of_mem _ (List.mem_cons_of_mem _ List.mem_cons_self))
  have hz : zX9_openBetween.2.2.2.1 = some .boolean → ∀ (T' : Zt) (x : Int), po_X9_openBetween T c g T' (some (vI x)) → 0 ≤ x ∧ x ≤ 1 := fun h => by cases h
  have hct := hq9.1
  have hbo : 0 ≤ T 109 0 9 ∧ T 109 0 9 ≤ 40 := bd_f hT 109 9 tl_9_9 0
  show J_ zX9_openBetween T (po_X9_openBetween T c g) 0 0 0 [some (vR 109 0), some (vI c), some (vI g), none, none, none] [] T
  have c_5 : ∀ (nn : Nat) (u : Int) (i : Int), ((40 - i).toNat) ≤ nn → (0 ≤ i ∧ i ≤ 40 ∧ 0 ≤ u ∧ u ≤ i) → J_ zX9_openBetween T (po_X9_openBetween T c g) 0 0 5 [some (vR 109 0), some (vI c), some (vI g), some (vI u), some (vI i), none] [] T := by
    intro nn
    induction nn using Nat.strongRecOn with
    | _ nn ih_5 =>
      intro u i hm_5 i1
      replace hm_5 := fun (_ : Unit) => hm_5
      have c_76 : ∀ (w : Int), (i < 40 ∧ 0 ≤ w ∧ w ≤ i + 1) → J_ zX9_openBetween T (po_X9_openBetween T c g) 0 0 76 [some (vR 109 0), some (vI c), some (vI g), some (vI w), some (vI i), none] [] T := by
        intro w i3
        refine j_blx (F := fX9) tb_X9 (nn_ _) bk_X9_openBetween_76 bs_X9_openBetween_76 hz (fun K hK => ?_)
        refine rg_i (by omega) ?_
        refine hK 5 [some (vR 109 0), some (vI c), some (vI g), some (vI w), some (vI (i + 1)), none] [] T ?_
        refine ih_5 _ ?_ w (i + 1) (Nat.le_refl _) ?_
        · have hm_5 := hm_5 (); omega
        · omega
      have c_73 : (i < 40) → J_ zX9_openBetween T (po_X9_openBetween T c g) 0 0 73 [some (vR 109 0), some (vI c), some (vI g), some (vI u), some (vI i), none] [] T := by
        intro  i2
        refine j_blx (F := fX9) tb_X9 (nn_ _) bk_X9_openBetween_73 bs_X9_openBetween_73 hz (fun K hK => ?_)
        refine rg_i (by omega) ?_
        refine hK 76 [some (vR 109 0), some (vI c), some (vI g), some (vI (u + 1)), some (vI i), none] [] T ?_
        refine c_76 (u + 1) ?_
        · omega
      refine j_blx (F := fX9) tb_X9 (nn_ _) bk_X9_openBetween_5 bs_X9_openBetween_5 hz (fun K hK => ?_)
      intro b1 b1b
      refine And.intro (fun c2 => ?_) (fun c2 => ?_)
      · refine hK 82 _ [] T ?_
        refine j_blx (F := fX9) tb_X9 (nn_ _) bk_X9_openBetween_82 bs_X9_openBetween_82 hz (fun K hK => ?_)
        refine (show po_X9_openBetween T c g T (some (vI u)) from ?_)
        exact ⟨rfl, _, rfl, by omega⟩
      · refine ix_i (by omega) ?_
        intro b3 b3b
        refine ix_i (by omega) ?_
        refine And.intro (fun c4 => ?_) (fun c4 => ?_)
        · exact absurd c4 (hka.2 _ (by have := hq9.2 i (by omega) (by omega); omega) (by have := hq9.2 i (by omega) (by omega); omega))
        · intro b5 b5b
          refine And.intro (fun c6 => ?_) (fun c6 => ?_)
          · refine hK 52 [some (vR 109 0), some (vI c), some (vI g), some (vI u), some (vI i), some (vR 102 (T 588 0 i))] [] T ?_
            refine j_blx (F := fX9) tb_X9 (nn_ _) bk_X9_openBetween_52 bs_X9_openBetween_52 hz (fun K hK => ?_)
            intro b7 b7b
            refine And.intro (fun c8 => ?_) (fun c8 => ?_)
            · refine hK 76 _ [] T ?_
              refine j_drq [some (vR 109 0), some (vI c), some (vI g), some (vI u), some (vI i), none] (drq_s (drq_s (drq_s (drq_s (drq_s (drq_n drq_0)))))) ?_
              refine c_76 u ?_
              · omega
            · intro b9 b9b
              intro w10 w10b
              intro w11 w11b
              refine And.intro (fun c12 => ?_) (fun c12 => ?_)
              · refine hK 76 [some (vR 109 0), some (vI c), some (vI g), some (vI u), some (vI i), some (vR 102 (T 588 0 i))] [] T ?_
                refine j_drq [some (vR 109 0), some (vI c), some (vI g), some (vI u), some (vI i), none] (drq_s (drq_s (drq_s (drq_s (drq_s (drq_n drq_0)))))) ?_
                refine c_76 u ?_
                · omega
              · refine hK 73 [some (vR 109 0), some (vI c), some (vI g), some (vI u), some (vI i), some (vR 102 (T 588 0 i))] [] T ?_
                refine j_drq [some (vR 109 0), some (vI c), some (vI g), some (vI u), some (vI i), none] (drq_s (drq_s (drq_s (drq_s (drq_s (drq_n drq_0)))))) ?_
                refine c_73  ?_
                · omega
          · intro b13 b13b
            intro w14 w14b
            intro w15 w15b
            refine And.intro (fun c16 => ?_) (fun c16 => ?_)
            · refine hK 73 _ [] T ?_
              refine j_drq [some (vR 109 0), some (vI c), some (vI g), some (vI u), some (vI i), none] (drq_s (drq_s (drq_s (drq_s (drq_s (drq_n drq_0)))))) ?_
              refine c_73  ?_
              · omega
            · intro b17 b17b
              refine And.intro (fun c18 => ?_) (fun c18 => ?_)
              · refine hK 76 [some (vR 109 0), some (vI c), some (vI g), some (vI u), some (vI i), some (vR 102 (T 588 0 i))] [] T ?_
                refine j_drq [some (vR 109 0), some (vI c), some (vI g), some (vI u), some (vI i), none] (drq_s (drq_s (drq_s (drq_s (drq_s (drq_n drq_0)))))) ?_
                refine c_76 u ?_
                · omega
              · intro b19 b19b
                intro w20 w20b
                intro w21 w21b
                refine And.intro (fun c22 => ?_) (fun c22 => ?_)
                · refine hK 76 [some (vR 109 0), some (vI c), some (vI g), some (vI u), some (vI i), some (vR 102 (T 588 0 i))] [] T ?_
                  refine j_drq [some (vR 109 0), some (vI c), some (vI g), some (vI u), some (vI i), none] (drq_s (drq_s (drq_s (drq_s (drq_s (drq_n drq_0)))))) ?_
                  refine c_76 u ?_
                  · omega
                · refine hK 73 [some (vR 109 0), some (vI c), some (vI g), some (vI u), some (vI i), some (vR 102 (T 588 0 i))] [] T ?_
                  refine j_drq [some (vR 109 0), some (vI c), some (vI g), some (vI u), some (vI i), none] (drq_s (drq_s (drq_s (drq_s (drq_s (drq_n drq_0)))))) ?_
                  refine c_73  ?_
                  · omega
  refine j_blx (F := fX9) tb_X9 (nn_ _) bk_X9_openBetween_0 bs_X9_openBetween_0 hz (fun K hK => ?_)
  refine hK 5 [some (vR 109 0), some (vI c), some (vI g), some (vI 0), some (vI 0), none] [] T ?_
  refine c_5 _ 0 0 (Nat.le_refl _) ?_
  · omega
abbrev cX9_noneAbove : ByteArray := prog_11_method_5_code
def yX9_noneAbove : MethodName := ⟨RX9, "noneAbove", "(I)Z"⟩
def zX9_noneAbove : Zm := (RX9, cX9_noneAbove, 3, (some .boolean), { frames := 0, cells := 0, slots := 0, locals := 0 })
theorem bk_X9_noneAbove_2 : ck_ fX9 (some .boolean) cX9_noneAbove 2 [.iload 2, .aload 0, .tableswitch 0 9 5 #[], .tableswitch 0 0 5 #[], .if_icmp .ge 39, .iload 2, .iload 1, .if_icmp .eq 33, .aload 0, .tableswitch 0 9 7 #[], .iload 2, .iaload, .aload 0, .tableswitch 0 9 6 #[], .if_icmp .le 33, .iconst 0, .ireturn] 33 = true := qck_r (nn_ _) (by decide +kernel)
theorem bs_X9_noneAbove_2 {P : Zt → Option Zv → Prop} (K : Int → Zl → List Zv → Zt → Prop) : sx_ K P [.iload 2, .aload 0, .tableswitch 0 9 5 #[], .tableswitch 0 0 5 #[], .if_icmp .ge 39, .iload 2, .iload 1, .if_icmp .eq 33, .aload 0, .tableswitch 0 9 7 #[], .iload 2, .iaload, .aload 0, .tableswitch 0 9 6 #[], .if_icmp .le 33, .iconst 0, .ireturn] 33 = x_iload 2 (x_aload 0 (x_g5 109 100 5 (x_g0 100 5 0 12 (x_if_icmp .ge 39 K (x_iload 2 (x_iload 1 (x_if_icmp .eq 33 K (x_aload 0 (x_g1 109 587 (x_iload 2 (x_iaload (x_aload 0 (x_g0 109 6 (-2147483648) 2147483647 (x_if_icmp .le 33 K (x_iconst 0 (x_ireturn P)))))))))))))))) := ((xe_iload 2).trans (congrArg (x_iload 2) ((xe_aload 0).trans (congrArg (x_aload 0) ((xe_g5 (kk := 109) rfl tl_9_5).trans (congrArg (x_g5 109 100 5) ((xe_g0 (kk := 100) rfl tl_0_5).trans (congrArg (x_g0 100 5 0 12) ((xe_if_icmp .ge 39).trans (congrArg (x_if_icmp .ge 39 K) ((xe_iload 2).trans (congrArg (x_iload 2) ((xe_iload 1).trans (congrArg (x_iload 1) ((xe_if_icmp .eq 33).trans (congrArg (x_if_icmp .eq 33 K) ((xe_aload 0).trans (congrArg (x_aload 0) ((xe_g1 (kk := 109) rfl tl_9_7).trans (congrArg (x_g1 109 587) ((xe_iload 2).trans (congrArg (x_iload 2) ((xe_iaload).trans (congrArg (x_iaload) ((xe_aload 0).trans (congrArg (x_aload 0) ((xe_g0 (kk := 109) rfl tl_9_6).trans (congrArg (x_g0 109 6 (-2147483648) 2147483647) ((xe_if_icmp .le 33).trans (congrArg (x_if_icmp .le 33 K) ((xe_iconst 0).trans (congrArg (x_iconst 0) (xe_ireturn)))))))))))))))))))))))))))))))))
theorem bk_X9_noneAbove_39 : ck_ fX9 (some .boolean) cX9_noneAbove 39 [.iconst 1, .ireturn] 41 = true := qck_r (nn_ _) (by decide +kernel)
theorem bs_X9_noneAbove_39 {P : Zt → Option Zv → Prop} (K : Int → Zl → List Zv → Zt → Prop) : sx_ K P [.iconst 1, .ireturn] 41 = x_iconst 1 (x_ireturn P) := ((xe_iconst 1).trans (congrArg (x_iconst 1) (xe_ireturn)))
theorem bk_X9_noneAbove_33 : ck_ fX9 (some .boolean) cX9_noneAbove 33 [.iinc 2 1, .goto 2] 39 = true := qck_r (nn_ _) (by decide +kernel)
theorem bs_X9_noneAbove_33 {P : Zt → Option Zv → Prop} (K : Int → Zl → List Zv → Zt → Prop) : sx_ K P [.iinc 2 1, .goto 2] 39 = x_iinc 2 1 (x_goto 2 K) := ((xe_iinc 2 1).trans (congrArg (x_iinc 2 1) (xe_goto 2)))
theorem bk_X9_noneAbove_0 : ck_ fX9 (some .boolean) cX9_noneAbove 0 [.iconst 0, .istore 2] 2 = true := qck_r (nn_ _) (by decide +kernel)
theorem bs_X9_noneAbove_0 {P : Zt → Option Zv → Prop} (K : Int → Zl → List Zv → Zt → Prop) : sx_ K P [.iconst 0, .istore 2] 2 = x_iconst 0 (x_istore 2 (K 2)) := ((xe_iconst 0).trans (congrArg (x_iconst 0) ((xe_istore 2).trans (congrArg (x_istore 2) xe_nil))))
abbrev po_X9_noneAbove (T : Zt) (s : Int) : Zt → Option Zv → Prop := fun T' r => T = T' ∧ ∃ x : Int, r = some (vI x) ∧ (0 ≤ x ∧ x ≤ 1)
set_option maxHeartbeats 4000000 in
theorem ct_X9_noneAbove {T : Zt} {s : Int} (hct : T 109 0 5 ≠ 0) : Ct_ yX9_noneAbove zX9_noneAbove T [vR 109 0, vI s] (po_X9_noneAbove T s) := by
  refine ct_of pn_9 rfl rfl (Nat.le_of_ble_eq_true rfl) (fun hT hav => ?_)
  have hr_s : -2147483648 ≤ s ∧ s ≤ 2147483647 := hav (vI s) (List.mem_cons_of_mem _ List.mem_cons_self)
  have hz : zX9_noneAbove.2.2.2.1 = some .boolean → ∀ (T' : Zt) (x : Int), po_X9_noneAbove T s T' (some (vI x)) → 0 ≤ x ∧ x ≤ 1 := fun _ T' x h => by obtain ⟨-, y, e, hy⟩ := h; cases e; omega
  show J_ zX9_noneAbove T (po_X9_noneAbove T s) 0 0 0 [some (vR 109 0), some (vI s), none] [] T
  have c_2 : ∀ (nn : Nat) (i : Int), ((12 - i).toNat) ≤ nn → (0 ≤ i) → J_ zX9_noneAbove T (po_X9_noneAbove T s) 0 0 2 [some (vR 109 0), some (vI s), some (vI i)] [] T := by
    intro nn
    induction nn using Nat.strongRecOn with
    | _ nn ih_2 =>
      intro i hm_2 i1
      replace hm_2 := fun (_ : Unit) => hm_2
      refine j_blx (F := fX9) tb_X9 (nn_ _) bk_X9_noneAbove_2 bs_X9_noneAbove_2 hz (fun K hK => ?_)
      refine And.intro (fun c1 => ?_) (fun c1 => ?_)
      · exact absurd c1 (by omega)
      · intro b2 b2b
        refine And.intro (fun c3 => ?_) (fun c3 => ?_)
        · refine hK 39 _ [] T ?_
          refine j_blx (F := fX9) tb_X9 (nn_ _) bk_X9_noneAbove_39 bs_X9_noneAbove_39 hz (fun K hK => ?_)
          refine (show po_X9_noneAbove T s T (some (vI 1)) from ?_)
          exact ⟨rfl, _, rfl, by omega⟩
        · refine And.intro (fun c4 => ?_) (fun c4 => ?_)
          · refine hK 33 _ [] T ?_
            refine j_blx (F := fX9) tb_X9 (nn_ _) bk_X9_noneAbove_33 bs_X9_noneAbove_33 hz (fun K hK => ?_)
            refine rg_i (by omega) ?_
            refine hK 2 [some (vR 109 0), some (vI s), some (vI (i + 1))] [] T ?_
            refine ih_2 _ ?_ (i + 1) (Nat.le_refl _) ?_
            · have hm_2 := hm_2 (); omega
            · omega
          · refine ix_i (by omega) ?_
            intro b5 b5b
            intro b6 b6b
            refine And.intro (fun c7 => ?_) (fun c7 => ?_)
            · refine hK 33 [some (vR 109 0), some (vI s), some (vI i)] [] T ?_
              refine j_blx (F := fX9) tb_X9 (nn_ _) bk_X9_noneAbove_33 bs_X9_noneAbove_33 hz (fun K hK => ?_)
              refine rg_i (by omega) ?_
              refine hK 2 [some (vR 109 0), some (vI s), some (vI (i + 1))] [] T ?_
              refine ih_2 _ ?_ (i + 1) (Nat.le_refl _) ?_
              · have hm_2 := hm_2 (); omega
              · omega
            · refine (show po_X9_noneAbove T s T (some (vI 0)) from ?_)
              exact ⟨rfl, _, rfl, by omega⟩
  refine j_blx (F := fX9) tb_X9 (nn_ _) bk_X9_noneAbove_0 bs_X9_noneAbove_0 hz (fun K hK => ?_)
  refine hK 2 [some (vR 109 0), some (vI s), some (vI 0)] [] T ?_
  refine c_2 _ 0 (Nat.le_refl _) ?_
  · omega
abbrev cX9_shiftAlong : ByteArray := prog_11_method_14_code
def yX9_shiftAlong : MethodName := ⟨RX9, "shiftAlong", "(II)V"⟩
def zX9_shiftAlong : Zm := (RX9, cX9_shiftAlong, 6, none, { frames := 1, cells := 0, slots := 0, locals := 21 })
theorem bk_X9_shiftAlong_25 : ck_ fX9 none cX9_shiftAlong 25 [.iload 3, .iload 1, .if_icmp .eq 100, .iload 4, .iconst 12, .if_icmp .ge 100, .aload 0, .tableswitch 0 9 13 #[], .iload 3, .iaload, .istore 5, .aload 0, .iload 5] 48 = true := qck_r (nn_ _) (by decide +kernel)
theorem bs_X9_shiftAlong_25 {P : Zt → Option Zv → Prop} (K : Int → Zl → List Zv → Zt → Prop) : sx_ K P [.iload 3, .iload 1, .if_icmp .eq 100, .iload 4, .iconst 12, .if_icmp .ge 100, .aload 0, .tableswitch 0 9 13 #[], .iload 3, .iaload, .istore 5, .aload 0, .iload 5] 48 = x_iload 3 (x_iload 1 (x_if_icmp .eq 100 K (x_iload 4 (x_iconst 12 (x_if_icmp .ge 100 K (x_aload 0 (x_g1 109 593 (x_iload 3 (x_iaload (x_istore 5 (x_aload 0 (x_iload 5 (K 48))))))))))))) := ((xe_iload 3).trans (congrArg (x_iload 3) ((xe_iload 1).trans (congrArg (x_iload 1) ((xe_if_icmp .eq 100).trans (congrArg (x_if_icmp .eq 100 K) ((xe_iload 4).trans (congrArg (x_iload 4) ((xe_iconst 12).trans (congrArg (x_iconst 12) ((xe_if_icmp .ge 100).trans (congrArg (x_if_icmp .ge 100 K) ((xe_aload 0).trans (congrArg (x_aload 0) ((xe_g1 (kk := 109) rfl tl_9_13).trans (congrArg (x_g1 109 593) ((xe_iload 3).trans (congrArg (x_iload 3) ((xe_iaload).trans (congrArg (x_iaload) ((xe_istore 5).trans (congrArg (x_istore 5) ((xe_aload 0).trans (congrArg (x_aload 0) ((xe_iload 5).trans (congrArg (x_iload 5) xe_nil))))))))))))))))))))))))))
theorem bk_X9_shiftAlong_100 : ck_ fX9 none cX9_shiftAlong 100 [.return_] 101 = true := qck_r (nn_ _) (by decide +kernel)
theorem bs_X9_shiftAlong_100 {P : Zt → Option Zv → Prop} (K : Int → Zl → List Zv → Zt → Prop) : sx_ K P [.return_] 101 = x_return_ P := (xe_return_)
theorem bk_X9_shiftAlong_51 : ck_ fX9 none cX9_shiftAlong 51 [.iload 3, .if_icmp .ne 76, .aload 0, .tableswitch 0 9 10 #[], .iload 5, .dup2, .iaload, .iconst 1, .fadd, .iastore, .aload 0, .iload 5] 69 = true := qck_r (nn_ _) (by decide +kernel)
theorem bs_X9_shiftAlong_51 {P : Zt → Option Zv → Prop} (K : Int → Zl → List Zv → Zt → Prop) : sx_ K P [.iload 3, .if_icmp .ne 76, .aload 0, .tableswitch 0 9 10 #[], .iload 5, .dup2, .iaload, .iconst 1, .fadd, .iastore, .aload 0, .iload 5] 69 = x_iload 3 (x_if_icmp .ne 76 K (x_aload 0 (x_g1 109 590 (x_iload 5 (x_dup2 (x_iaload (x_iconst 1 (x_fadd (x_iastore (x_aload 0 (x_iload 5 (K 69)))))))))))) := ((xe_iload 3).trans (congrArg (x_iload 3) ((xe_if_icmp .ne 76).trans (congrArg (x_if_icmp .ne 76 K) ((xe_aload 0).trans (congrArg (x_aload 0) ((xe_g1 (kk := 109) rfl tl_9_10).trans (congrArg (x_g1 109 590) ((xe_iload 5).trans (congrArg (x_iload 5) ((xe_dup2).trans (congrArg (x_dup2) ((xe_iaload).trans (congrArg (x_iaload) ((xe_iconst 1).trans (congrArg (x_iconst 1) ((xe_fadd).trans (congrArg (x_fadd) ((xe_iastore).trans (congrArg (x_iastore) ((xe_aload 0).trans (congrArg (x_aload 0) ((xe_iload 5).trans (congrArg (x_iload 5) xe_nil))))))))))))))))))))))))
theorem bk_X9_shiftAlong_76 : ck_ fX9 none cX9_shiftAlong 76 [.aload 0, .tableswitch 0 9 10 #[], .iload 5, .dup2, .iaload, .iconst 1, .fsub, .iastore, .aload 0, .iload 5] 90 = true := qck_r (nn_ _) (by decide +kernel)
theorem bs_X9_shiftAlong_76 {P : Zt → Option Zv → Prop} (K : Int → Zl → List Zv → Zt → Prop) : sx_ K P [.aload 0, .tableswitch 0 9 10 #[], .iload 5, .dup2, .iaload, .iconst 1, .fsub, .iastore, .aload 0, .iload 5] 90 = x_aload 0 (x_g1 109 590 (x_iload 5 (x_dup2 (x_iaload (x_iconst 1 (x_fsub (x_iastore (x_aload 0 (x_iload 5 (K 90)))))))))) := ((xe_aload 0).trans (congrArg (x_aload 0) ((xe_g1 (kk := 109) rfl tl_9_10).trans (congrArg (x_g1 109 590) ((xe_iload 5).trans (congrArg (x_iload 5) ((xe_dup2).trans (congrArg (x_dup2) ((xe_iaload).trans (congrArg (x_iaload) ((xe_iconst 1).trans (congrArg (x_iconst 1) ((xe_fsub).trans (congrArg (x_fsub) ((xe_iastore).trans (congrArg (x_iastore) ((xe_aload 0).trans (congrArg (x_aload 0) ((xe_iload 5).trans (congrArg (x_iload 5) xe_nil))))))))))))))))))))
theorem bk_X9_shiftAlong_93 : ck_ fX9 none cX9_shiftAlong 93 [.istore 3, .iinc 4 1, .goto 25] 100 = true := qck_r (nn_ _) (by decide +kernel)
theorem bs_X9_shiftAlong_93 {P : Zt → Option Zv → Prop} (K : Int → Zl → List Zv → Zt → Prop) : sx_ K P [.istore 3, .iinc 4 1, .goto 25] 100 = x_istore 3 (x_iinc 4 1 (x_goto 25 K)) := ((xe_istore 3).trans (congrArg (x_istore 3) ((xe_iinc 4 1).trans (congrArg (x_iinc 4 1) (xe_goto 25)))))
theorem bk_X9_shiftAlong_72 : ck_ fX9 none cX9_shiftAlong 72 [.istore 3, .goto 94] 76 = true := qck_r (nn_ _) (by decide +kernel)
theorem bs_X9_shiftAlong_72 {P : Zt → Option Zv → Prop} (K : Int → Zl → List Zv → Zt → Prop) : sx_ K P [.istore 3, .goto 94] 76 = x_istore 3 (x_goto 94 K) := ((xe_istore 3).trans (congrArg (x_istore 3) (xe_goto 94)))
theorem bk_X9_shiftAlong_94 : ck_ fX9 none cX9_shiftAlong 94 [.iinc 4 1, .goto 25] 100 = true := qck_r (nn_ _) (by decide +kernel)
theorem bs_X9_shiftAlong_94 {P : Zt → Option Zv → Prop} (K : Int → Zl → List Zv → Zt → Prop) : sx_ K P [.iinc 4 1, .goto 25] 100 = x_iinc 4 1 (x_goto 25 K) := ((xe_iinc 4 1).trans (congrArg (x_iinc 4 1) (xe_goto 25)))
theorem bk_X9_shiftAlong_0 : ck_ fX9 none cX9_shiftAlong 0 [.aload 0, .tableswitch 0 9 12 #[], .iload 1, .dup2, .iaload, .iconst 1, .fsub, .iastore, .aload 0, .tableswitch 0 9 12 #[], .iload 2, .dup2, .iaload, .iconst 1, .fadd, .iastore, .iload 2, .istore 3, .iconst 0, .istore 4] 25 = true := qck_r (nn_ _) (by decide +kernel)
theorem bs_X9_shiftAlong_0 {P : Zt → Option Zv → Prop} (K : Int → Zl → List Zv → Zt → Prop) : sx_ K P [.aload 0, .tableswitch 0 9 12 #[], .iload 1, .dup2, .iaload, .iconst 1, .fsub, .iastore, .aload 0, .tableswitch 0 9 12 #[], .iload 2, .dup2, .iaload, .iconst 1, .fadd, .iastore, .iload 2, .istore 3, .iconst 0, .istore 4] 25 = x_aload 0 (x_g1 109 592 (x_iload 1 (x_dup2 (x_iaload (x_iconst 1 (x_fsub (x_iastore (x_aload 0 (x_g1 109 592 (x_iload 2 (x_dup2 (x_iaload (x_iconst 1 (x_fadd (x_iastore (x_iload 2 (x_istore 3 (x_iconst 0 (x_istore 4 (K 25)))))))))))))))))))) := ((xe_aload 0).trans (congrArg (x_aload 0) ((xe_g1 (kk := 109) rfl tl_9_12).trans (congrArg (x_g1 109 592) ((xe_iload 1).trans (congrArg (x_iload 1) ((xe_dup2).trans (congrArg (x_dup2) ((xe_iaload).trans (congrArg (x_iaload) ((xe_iconst 1).trans (congrArg (x_iconst 1) ((xe_fsub).trans (congrArg (x_fsub) ((xe_iastore).trans (congrArg (x_iastore) ((xe_aload 0).trans (congrArg (x_aload 0) ((xe_g1 (kk := 109) rfl tl_9_12).trans (congrArg (x_g1 109 592) ((xe_iload 2).trans (congrArg (x_iload 2) ((xe_dup2).trans (congrArg (x_dup2) ((xe_iaload).trans (congrArg (x_iaload) ((xe_iconst 1).trans (congrArg (x_iconst 1) ((xe_fadd).trans (congrArg (x_fadd) ((xe_iastore).trans (congrArg (x_iastore) ((xe_iload 2).trans (congrArg (x_iload 2) ((xe_istore 3).trans (congrArg (x_istore 3) ((xe_iconst 0).trans (congrArg (x_iconst 0) ((xe_istore 4).trans (congrArg (x_istore 4) xe_nil))))))))))))))))))))))))))))))))))))))))
abbrev po_X9_shiftAlong (T : Zt) (s e : Int) : Zt → Option Zv → Prop := fun T' r => r = none ∧ fr_ [(592, []), (590, [])] T T' ∧ (0 = (0 : Int))
set_option maxHeartbeats 4000000 in
theorem ct_X9_shiftAlong {T : Zt} {s e : Int} (hq9 : Q9_ T) (hka : KA_ T) (hs : 0 ≤ s ∧ s < 12) (he : 0 ≤ e ∧ e < 12 ∧ T 593 0 e ≠ -1) (hvi : ∀ v, 0 ≤ v → v < 12 → T 593 0 v ≠ -1 → v = s ∨ ((0 ≤ T 593 0 v ∧ T 593 0 v < T 109 0 9) ∧ ((hsx_ T (T 593 0 v) = v ∧ T 593 0 (asx_ T (T 593 0 v)) ≠ -1) ∨ (hsx_ T (T 593 0 v) ≠ v ∧ T 593 0 (hsx_ T (T 593 0 v)) ≠ -1)))) : Ct_ yX9_shiftAlong zX9_shiftAlong T [vR 109 0, vI s, vI e] (po_X9_shiftAlong T s e) := by
  refine ct_of pn_9 rfl rfl (Nat.le_of_ble_eq_true rfl) (fun hT hav => ?_)
  have hr_s : -2147483648 ≤ s ∧ s ≤ 2147483647 := hav (vI s) (List.mem_cons_of_mem _ List.mem_cons_self)
  have hr_e : -2147483648 ≤ e ∧ e ≤ 2147483647 := hav (vI e) (List.mem_cons_of_mem _ (List.mem_cons_of_mem _ List.mem_cons_self))
  have hz : zX9_shiftAlong.2.2.2.1 = some .boolean → ∀ (T' : Zt) (x : Int), po_X9_shiftAlong T s e T' (some (vI x)) → 0 ≤ x ∧ x ≤ 1 := fun h => by cases h
  have hbo : 0 ≤ T 109 0 9 ∧ T 109 0 9 ≤ 40 := bd_f hT 109 9 tl_9_9 0
  show J_ zX9_shiftAlong T (po_X9_shiftAlong T s e) 0 0 0 [some (vR 109 0), some (vI s), some (vI e), none, none, none] [] T
  have c_25 : ∀ (nn : Nat) (a : Int) (n : Int) (T1 : Zt), ((12 - n).toNat) ≤ nn → (fr_ [(592, []), (590, [])] T T1) → (0 ≤ n ∧ 0 ≤ a ∧ a < 12 ∧ T 593 0 a ≠ -1) → J_ zX9_shiftAlong T (po_X9_shiftAlong T s e) 0 0 25 [some (vR 109 0), some (vI s), some (vI e), some (vI a), some (vI n), none] [] T1 := by
    intro nn
    induction nn using Nat.strongRecOn with
    | _ nn ih_25 =>
      intro a n T1 hm_25 hf_25 i1
      replace hm_25 := fun (_ : Unit) => hm_25
      refine j_blx (F := fX9) tb_X9 (nn_ _) bk_X9_shiftAlong_25 bs_X9_shiftAlong_25 hz (fun K hK => ?_)
      refine And.intro (fun c1 => ?_) (fun c1 => ?_)
      · refine hK 100 _ [] T1 ?_
        refine j_blx (F := fX9) tb_X9 (nn_ _) bk_X9_shiftAlong_100 bs_X9_shiftAlong_100 hz (fun K hK => ?_)
        refine (show po_X9_shiftAlong T s e T1 (none) from ?_)
        exact ⟨rfl, fr_t (fr_0 _ _) (fr_s hf_25 rfl), by rfl⟩
      · refine And.intro (fun c2 => ?_) (fun c2 => ?_)
        · refine hK 100 _ [] T1 ?_
          refine j_blx (F := fX9) tb_X9 (nn_ _) bk_X9_shiftAlong_100 bs_X9_shiftAlong_100 hz (fun K hK => ?_)
          refine (show po_X9_shiftAlong T s e T1 (none) from ?_)
          exact ⟨rfl, fr_t (fr_0 _ _) (fr_s hf_25 rfl), by rfl⟩
        · refine ix_i (by omega) ?_
          intro b3 b3b
          have e4 : T1 593 0 a = T 593 0 a := hf_25 593 0 a rfl
          rw [e4] at b3 b3b ⊢
          refine hK 48 [some (vR 109 0), some (vI s), some (vI e), some (vI a), some (vI n), some (vI (T 593 0 a))] [vI (T 593 0 a), vR 109 0] T1 ?_
          have hv9 := hvi a (by omega) (by omega) (by omega)
          have hv8 := hv9.resolve_left (by omega)
          have fq5 : fr_ [(592, []), (590, [])] T T1 := fr_t (fr_0 _ _) (fr_s hf_25 rfl)
          have e6 : T1 109 0 9 = T 109 0 9 := hf_25 109 0 9 rfl
          refine j_callV (y := yX9_homeSeatOf) (Yc := zX9_homeSeatOf) (rest := []) [vI (T 593 0 a)] (ct_X9_homeSeatOf (T := T1) (q9_f hq9 fq5 ⟨fun _ _ => rfl, fun _ => rfl, rfl, rfl, rfl, rfl, rfl⟩) (KA__f (ws := [(592, []), (590, [])]) hka (fr_t (fr_0 _ _) (fr_s hf_25 rfl)) ⟨fun _ => rfl, fun _ => rfl, rfl, rfl, trivial⟩) (by omega)) cl_X9_145 (qd_c (by decide +kernel)) (nn_ _) rfl (rf_of rfl) (Nat.le_of_ble_eq_true rfl) (Nat.le_of_ble_eq_true rfl) (Nat.le_of_ble_eq_true rfl) rfl ?_
          rintro _ _ ⟨rfl, x7, rfl, hx7⟩
          have e8 : hsx_ T1 (T 593 0 a) = hsx_ T (T 593 0 a) := hsx_e fq5 ⟨fun _ _ => rfl, fun _ => rfl, rfl, rfl, rfl, rfl, rfl⟩ _
          show J_ zX9_shiftAlong T (po_X9_shiftAlong T s e) 0 0 51 _ [vI x7] T1
          refine j_blx (F := fX9) tb_X9 (nn_ _) bk_X9_shiftAlong_51 bs_X9_shiftAlong_51 hz (fun K hK => ?_)
          refine And.intro (fun c9 => ?_) (fun c9 => ?_)
          · refine hK 76 _ [] T1 ?_
            refine j_blx (F := fX9) tb_X9 (nn_ _) bk_X9_shiftAlong_76 bs_X9_shiftAlong_76 hz (fun K hK => ?_)
            refine ix_i (by omega) ?_
            intro b10 b10b
            intro w11 w11b
            refine iy_i (by omega) (by omega) ?_
            refine x_nm (fun U12 hU12 => ?_)
            have e13 := up_f hU12
            refine hK 90 _ [vI (T 593 0 a), vR 109 0] U12 ?_
            have fq14 : fr_ [(590, []), (592, [])] T U12 := fr_u (fr_t (fr_0 _ _) (fr_s hf_25 rfl)) hU12 rfl
            have e15 : U12 109 0 9 = T 109 0 9 := (up_k hU12 (by exact Nat.ne_of_beq_eq_false rfl) 0 9).trans (hf_25 109 0 9 rfl)
            refine j_callV (y := yX9_homeSeatOf) (Yc := zX9_homeSeatOf) (rest := []) [vI (T 593 0 a)] (ct_X9_homeSeatOf (T := U12) (q9_f hq9 fq14 ⟨fun _ _ => rfl, fun _ => rfl, rfl, rfl, rfl, rfl, rfl⟩) (KA__f (ws := [(590, []), (592, [])]) hka (fr_u (fr_t (fr_0 _ _) (fr_s hf_25 rfl)) hU12 rfl) ⟨fun _ => rfl, fun _ => rfl, rfl, rfl, trivial⟩) (by omega)) cl_X9_145 (qd_c (by decide +kernel)) (nn_ _) rfl (rf_of rfl) (Nat.le_of_ble_eq_true rfl) (Nat.le_of_ble_eq_true rfl) (Nat.le_of_ble_eq_true rfl) rfl ?_
            rintro _ _ ⟨rfl, x16, rfl, hx16⟩
            have e17 : hsx_ U12 (T 593 0 a) = hsx_ T (T 593 0 a) := hsx_e fq14 ⟨fun _ _ => rfl, fun _ => rfl, rfl, rfl, rfl, rfl, rfl⟩ _
            show J_ zX9_shiftAlong T (po_X9_shiftAlong T s e) 0 0 93 _ [vI x16] U12
            refine j_blx (F := fX9) tb_X9 (nn_ _) bk_X9_shiftAlong_93 bs_X9_shiftAlong_93 hz (fun K hK => ?_)
            refine rg_i (by omega) ?_
            refine hK 25 [some (vR 109 0), some (vI s), some (vI e), some (vI x16), some (vI (n + 1)), some (vI (T 593 0 a))] [] U12 ?_
            refine j_drq [some (vR 109 0), some (vI s), some (vI e), some (vI x16), some (vI (n + 1)), none] (drq_s (drq_s (drq_s (drq_s (drq_s (drq_n drq_0)))))) ?_
            refine ih_25 _ ?_ x16 (n + 1) U12 (Nat.le_refl _) ?_ ?_
            · have hm_25 := hm_25 (); omega
            · exact fr_u (fr_t (fr_0 _ _) (fr_s hf_25 rfl)) hU12 rfl
            · refine ⟨by omega, by omega, by omega, ?_⟩
              rw [show x16 = hsx_ T (T 593 0 a) by omega]
              omega
          · refine ix_i (by omega) ?_
            intro b18 b18b
            intro w19 w19b
            refine iy_i (by omega) (by omega) ?_
            refine x_nm (fun U20 hU20 => ?_)
            have e21 := up_f hU20
            refine hK 69 [some (vR 109 0), some (vI s), some (vI e), some (vI a), some (vI n), some (vI (T 593 0 a))] [vI (T 593 0 a), vR 109 0] U20 ?_
            have fq22 : fr_ [(590, []), (592, [])] T U20 := fr_u (fr_t (fr_0 _ _) (fr_s hf_25 rfl)) hU20 rfl
            have e23 : U20 109 0 9 = T 109 0 9 := (up_k hU20 (by exact Nat.ne_of_beq_eq_false rfl) 0 9).trans (hf_25 109 0 9 rfl)
            refine j_callV (y := yX9_awaySeatOf) (Yc := zX9_awaySeatOf) (rest := []) [vI (T 593 0 a)] (ct_X9_awaySeatOf (T := U20) (q9_f hq9 fq22 ⟨fun _ _ => rfl, fun _ => rfl, rfl, rfl, rfl, rfl, rfl⟩) (KA__f (ws := [(590, []), (592, [])]) hka (fr_u (fr_t (fr_0 _ _) (fr_s hf_25 rfl)) hU20 rfl) ⟨fun _ => rfl, fun _ => rfl, rfl, rfl, trivial⟩) (by omega)) cl_X9_154 (qd_c (by decide +kernel)) (nn_ _) rfl (rf_of rfl) (Nat.le_of_ble_eq_true rfl) (Nat.le_of_ble_eq_true rfl) (Nat.le_of_ble_eq_true rfl) rfl ?_
            rintro _ _ ⟨rfl, x24, rfl, hx24⟩
            have e25 : asx_ U20 (T 593 0 a) = asx_ T (T 593 0 a) := asx_e fq22 ⟨fun _ _ => rfl, fun _ => rfl, rfl, rfl, rfl, rfl, rfl⟩ _
            show J_ zX9_shiftAlong T (po_X9_shiftAlong T s e) 0 0 72 _ [vI x24] U20
            refine j_blx (F := fX9) tb_X9 (nn_ _) bk_X9_shiftAlong_72 bs_X9_shiftAlong_72 hz (fun K hK => ?_)
            refine hK 94 [some (vR 109 0), some (vI s), some (vI e), some (vI x24), some (vI n), some (vI (T 593 0 a))] [] U20 ?_
            refine j_blx (F := fX9) tb_X9 (nn_ _) bk_X9_shiftAlong_94 bs_X9_shiftAlong_94 hz (fun K hK => ?_)
            refine rg_i (by omega) ?_
            refine hK 25 [some (vR 109 0), some (vI s), some (vI e), some (vI x24), some (vI (n + 1)), some (vI (T 593 0 a))] [] U20 ?_
            refine j_drq [some (vR 109 0), some (vI s), some (vI e), some (vI x24), some (vI (n + 1)), none] (drq_s (drq_s (drq_s (drq_s (drq_s (drq_n drq_0)))))) ?_
            refine ih_25 _ ?_ x24 (n + 1) U20 (Nat.le_refl _) ?_ ?_
            · have hm_25 := hm_25 (); omega
            · exact fr_u (fr_t (fr_0 _ _) (fr_s hf_25 rfl)) hU20 rfl
            · refine ⟨by omega, by omega, by omega, ?_⟩
              rw [show x24 = asx_ T (T 593 0 a) by omega]
              omega
  refine j_blx (F := fX9) tb_X9 (nn_ _) bk_X9_shiftAlong_0 bs_X9_shiftAlong_0 hz (fun K hK => ?_)
  refine ix_i (by omega) ?_
  intro b26 b26b
  intro w27 w27b
  refine iy_i (by omega) (by omega) ?_
  refine x_nm (fun U28 hU28 => ?_)
  have e29 := up_f hU28
  refine ix_i (by omega) ?_
  intro b30 b30b
  intro w31 w31b
  refine iy_i (by omega) (by omega) ?_
  refine x_nm (fun U32 hU32 => ?_)
  have e33 := up_f hU32
  refine hK 25 [some (vR 109 0), some (vI s), some (vI e), some (vI e), some (vI 0), none] [] U32 ?_
  refine c_25 _ e 0 U32 (Nat.le_refl _) ?_ ?_
  · exact fr_u (fr_u (fr_0 _ _) hU28 rfl) hU32 rfl
  · omega
abbrev po_J7_fill_593 (T : Zt) (p : Int) (v : Int) : Zt → Option Zv → Prop := fun T' r => r = none ∧ fr_ [(593, [])] T T' ∧ oi_ T T' p ∧ ∀ j, 0 ≤ j → j < 12 → T' 593 p j = v
set_option maxHeartbeats 4000000 in
theorem ct_J7_fill_593 {T : Zt} {p : Int} {v : Int} (h1 : (-1) ≤ v ∧ v ≤ 40) : Ct_ yJ7_fill_53178 zJ7_fill_53178 T [vR 593 p, vI v] (po_J7_fill_593 T p v) := by
  refine ct_of (by decide) rfl rfl (Nat.le_of_ble_eq_true rfl) (fun hT hav => ?_)
  have hr_v : -2147483648 ≤ v ∧ v ≤ 2147483647 := hav (vI v) (List.mem_cons_of_mem _ List.mem_cons_self)
  have hz : zJ7_fill_53178.2.2.2.1 = some .boolean → ∀ (T' : Zt) (x : Int), po_J7_fill_593 T p v T' (some (vI x)) → 0 ≤ x ∧ x ≤ 1 := fun h => by cases h
  show J_ zJ7_fill_53178 T (po_J7_fill_593 T p v) 0 0 0 [some (vR 593 p), some (vI v), none, none] [] T
  have c_5 : ∀ (nn : Nat) (j : Int) (T1 : Zt), ((12 - j).toNat) ≤ nn → (fr_ [(593, [])] T T1) → (0 ≤ j ∧ j ≤ 12) → (oi_ T T1 p) → (∀ q, 0 ≤ q → q < j → T1 593 p q = v) → J_ zJ7_fill_53178 T (po_J7_fill_593 T p v) 0 0 5 [some (vR 593 p), some (vI v), some (vI j), some (vI 12)] [] T1 := by
    intro nn
    induction nn using Nat.strongRecOn with
    | _ nn ih_5 =>
      intro j T1 hm_5 hf_5 i1 o1 f1
      replace hm_5 := fun (_ : Unit) => hm_5
      refine j_blx (F := fJ7) tb_J7 (nn_ _) bk_J7_fill_53178_5 bs_J7_fill_53178_5 hz (fun K hK => ?_)
      refine And.intro (fun c1 => ?_) (fun c1 => ?_)
      · refine hK 20 _ [] T1 ?_
        refine j_blx (F := fJ7) tb_J7 (nn_ _) bk_J7_fill_53178_20 bs_J7_fill_53178_20 hz (fun K hK => ?_)
        refine (show po_J7_fill_593 T p v T1 (none) from ?_)
        exact ⟨rfl, fr_t (fr_0 _ _) (fr_s hf_5 rfl), o1, fun q a b => f1 q a (by omega)⟩
      · refine iy_i (by omega) (by omega) ?_
        refine x_nm (fun U2 hU2 => ?_)
        have e3 := up_f hU2
        refine rg_i (by omega) ?_
        refine hK 5 [some (vR 593 p), some (vI v), some (vI (j + 1)), some (vI 12)] [] U2 ?_
        refine ih_5 _ ?_ (j + 1) U2 (Nat.le_refl _) ?_ ?_ ?_ ?_
        · have hm_5 := hm_5 (); omega
        · exact fr_u (fr_t (fr_0 _ _) (fr_s hf_5 rfl)) hU2 rfl
        · omega
        · exact oi_u o1 hU2
        · intro q a b
          by_cases z : q = j
          · rw [z]; exact up_f hU2
          · rw [up_g hU2 (fun y => z y.2.2)]; exact f1 q a (by omega)
  refine j_blx (F := fJ7) tb_J7 (nn_ _) bk_J7_fill_53178_0 bs_J7_fill_53178_0 hz (fun K hK => ?_)
  refine hK 5 [some (vR 593 p), some (vI v), some (vI 0), some (vI 12)] [] T ?_
  refine c_5 _ 0 T (Nat.le_refl _) ?_ ?_ ?_ ?_
  · exact fr_0 _ _
  · omega
  · exact oi_r
  · intro q a b; omega
abbrev cX9_relieve : ByteArray := prog_11_method_12_code
def yX9_relieve : MethodName := ⟨RX9, "relieve", "(II)Z"⟩
def zX9_relieve : Zm := (RX9, cX9_relieve, 8, (some .boolean), { frames := 2, cells := 0, slots := 0, locals := 46 })
theorem bk_X9_relieve_82 : ck_ fX9 (some .boolean) cX9_relieve 82 [.iload 6, .aload 0, .tableswitch 0 9 9 #[], .if_icmp .ge 152, .aload 0, .iload 6, .iload 5] 96 = true := qck_r (nn_ _) (by decide +kernel)
theorem bs_X9_relieve_82 {P : Zt → Option Zv → Prop} (K : Int → Zl → List Zv → Zt → Prop) : sx_ K P [.iload 6, .aload 0, .tableswitch 0 9 9 #[], .if_icmp .ge 152, .aload 0, .iload 6, .iload 5] 96 = x_iload 6 (x_aload 0 (x_g0 109 9 0 40 (x_if_icmp .ge 152 K (x_aload 0 (x_iload 6 (x_iload 5 (K 96))))))) := ((xe_iload 6).trans (congrArg (x_iload 6) ((xe_aload 0).trans (congrArg (x_aload 0) ((xe_g0 (kk := 109) rfl tl_9_9).trans (congrArg (x_g0 109 9 0 40) ((xe_if_icmp .ge 152).trans (congrArg (x_if_icmp .ge 152 K) ((xe_aload 0).trans (congrArg (x_aload 0) ((xe_iload 6).trans (congrArg (x_iload 6) ((xe_iload 5).trans (congrArg (x_iload 5) xe_nil))))))))))))))
theorem bk_X9_relieve_152 : ck_ fX9 (some .boolean) cX9_relieve 152 [.goto 30] 155 = true := qck_r (nn_ _) (by decide +kernel)
theorem bs_X9_relieve_152 {P : Zt → Option Zv → Prop} (K : Int → Zl → List Zv → Zt → Prop) : sx_ K P [.goto 30] 155 = x_goto 30 K := (xe_goto 30)
set_option maxRecDepth 100000 in
theorem cl_X9_161 : cv_ RX9 161 yX9_takerOf zX9_takerOf 9 2 := ⟨gi_V (lwq_6 (dqc_m (dqc_m (List.mem_of_getElem? (i := 7) rfl))) rfl : Cond.methodLink RX9 161 yX9_takerOf ∈ lw_g) (lwq_6 (dqc_m (dqc_m (dqa_m (List.mem_of_getElem? (i := 1) rfl)))) rfl : Cond.instanceMethod yX9_takerOf ∈ lw_g) (lw_sel 150 rfl : Cond.selects yX9_takerOf.cls yX9_takerOf yX9_takerOf ∈ lw_g) (lwq_1 (List.mem_of_getElem? (i := 6) rfl) rfl : Cond.initialized yX9_takerOf.cls ∈ lw_g) (lwq_6 (dqc_m (dqc_m (dqa_m (List.mem_of_getElem? (i := 2) rfl)))) rfl : Cond.code yX9_takerOf cX9_takerOf 3 (some .int) ∈ lw_g), ⟨nmh_8.1, nmh_8.2, pdq_4⟩, ⟨_, _, rfl⟩⟩
theorem bk_X9_relieve_99 : ck_ fX9 (some .boolean) cX9_relieve 99 [.istore 7, .iload 7, .iconst (-1), .if_icmp .eq 146, .aload 0, .tableswitch 0 9 13 #[], .iload 7, .iaload, .iconst (-1), .if_icmp .ne 146, .iload 4, .iconst 12, .if_icmp .ge 146, .aload 0, .tableswitch 0 9 13 #[], .iload 7, .iload 6, .iastore, .aload 0, .tableswitch 0 9 14 #[], .iload 4, .iload 7, .iastore, .iinc 4 1, .iinc 6 1, .goto 82] 152 = true := qck_r (nn_ _) (by decide +kernel)
theorem bs_X9_relieve_99 {P : Zt → Option Zv → Prop} (K : Int → Zl → List Zv → Zt → Prop) : sx_ K P [.istore 7, .iload 7, .iconst (-1), .if_icmp .eq 146, .aload 0, .tableswitch 0 9 13 #[], .iload 7, .iaload, .iconst (-1), .if_icmp .ne 146, .iload 4, .iconst 12, .if_icmp .ge 146, .aload 0, .tableswitch 0 9 13 #[], .iload 7, .iload 6, .iastore, .aload 0, .tableswitch 0 9 14 #[], .iload 4, .iload 7, .iastore, .iinc 4 1, .iinc 6 1, .goto 82] 152 = x_istore 7 (x_iload 7 (x_iconst (-1) (x_if_icmp .eq 146 K (x_aload 0 (x_g1 109 593 (x_iload 7 (x_iaload (x_iconst (-1) (x_if_icmp .ne 146 K (x_iload 4 (x_iconst 12 (x_if_icmp .ge 146 K (x_aload 0 (x_g1 109 593 (x_iload 7 (x_iload 6 (x_iastore (x_aload 0 (x_g1 109 594 (x_iload 4 (x_iload 7 (x_iastore (x_iinc 4 1 (x_iinc 6 1 (x_goto 82 K))))))))))))))))))))))))) := ((xe_istore 7).trans (congrArg (x_istore 7) ((xe_iload 7).trans (congrArg (x_iload 7) ((xe_iconst (-1)).trans (congrArg (x_iconst (-1)) ((xe_if_icmp .eq 146).trans (congrArg (x_if_icmp .eq 146 K) ((xe_aload 0).trans (congrArg (x_aload 0) ((xe_g1 (kk := 109) rfl tl_9_13).trans (congrArg (x_g1 109 593) ((xe_iload 7).trans (congrArg (x_iload 7) ((xe_iaload).trans (congrArg (x_iaload) ((xe_iconst (-1)).trans (congrArg (x_iconst (-1)) ((xe_if_icmp .ne 146).trans (congrArg (x_if_icmp .ne 146 K) ((xe_iload 4).trans (congrArg (x_iload 4) ((xe_iconst 12).trans (congrArg (x_iconst 12) ((xe_if_icmp .ge 146).trans (congrArg (x_if_icmp .ge 146 K) ((xe_aload 0).trans (congrArg (x_aload 0) ((xe_g1 (kk := 109) rfl tl_9_13).trans (congrArg (x_g1 109 593) ((xe_iload 7).trans (congrArg (x_iload 7) ((xe_iload 6).trans (congrArg (x_iload 6) ((xe_iastore).trans (congrArg (x_iastore) ((xe_aload 0).trans (congrArg (x_aload 0) ((xe_g1 (kk := 109) rfl tl_9_14).trans (congrArg (x_g1 109 594) ((xe_iload 4).trans (congrArg (x_iload 4) ((xe_iload 7).trans (congrArg (x_iload 7) ((xe_iastore).trans (congrArg (x_iastore) ((xe_iinc 4 1).trans (congrArg (x_iinc 4 1) ((xe_iinc 6 1).trans (congrArg (x_iinc 6 1) (xe_goto 82)))))))))))))))))))))))))))))))))))))))))))))))))))
theorem bk_X9_relieve_146 : ck_ fX9 (some .boolean) cX9_relieve 146 [.iinc 6 1, .goto 82] 152 = true := qck_r (nn_ _) (by decide +kernel)
theorem bs_X9_relieve_146 {P : Zt → Option Zv → Prop} (K : Int → Zl → List Zv → Zt → Prop) : sx_ K P [.iinc 6 1, .goto 82] 152 = x_iinc 6 1 (x_goto 82 K) := ((xe_iinc 6 1).trans (congrArg (x_iinc 6 1) (xe_goto 82)))
theorem bk_X9_relieve_30 : ck_ fX9 (some .boolean) cX9_relieve 30 [.iload 3, .iload 4, .if_icmp .ge 155, .iload 3, .iconst 12, .if_icmp .ge 155, .aload 0, .tableswitch 0 9 14 #[], .iload 3, .iaload, .istore 5, .iinc 3 1, .aload 0, .tableswitch 0 9 12 #[], .iload 5, .iaload, .aload 0, .tableswitch 0 9 11 #[], .iload 5, .iaload, .if_icmp .ge 79, .aload 0, .iload 1, .iload 5] 74 = true := qck_r (nn_ _) (by decide +kernel)
theorem bs_X9_relieve_30 {P : Zt → Option Zv → Prop} (K : Int → Zl → List Zv → Zt → Prop) : sx_ K P [.iload 3, .iload 4, .if_icmp .ge 155, .iload 3, .iconst 12, .if_icmp .ge 155, .aload 0, .tableswitch 0 9 14 #[], .iload 3, .iaload, .istore 5, .iinc 3 1, .aload 0, .tableswitch 0 9 12 #[], .iload 5, .iaload, .aload 0, .tableswitch 0 9 11 #[], .iload 5, .iaload, .if_icmp .ge 79, .aload 0, .iload 1, .iload 5] 74 = x_iload 3 (x_iload 4 (x_if_icmp .ge 155 K (x_iload 3 (x_iconst 12 (x_if_icmp .ge 155 K (x_aload 0 (x_g1 109 594 (x_iload 3 (x_iaload (x_istore 5 (x_iinc 3 1 (x_aload 0 (x_g1 109 592 (x_iload 5 (x_iaload (x_aload 0 (x_g1 109 591 (x_iload 5 (x_iaload (x_if_icmp .ge 79 K (x_aload 0 (x_iload 1 (x_iload 5 (K 74)))))))))))))))))))))))) := ((xe_iload 3).trans (congrArg (x_iload 3) ((xe_iload 4).trans (congrArg (x_iload 4) ((xe_if_icmp .ge 155).trans (congrArg (x_if_icmp .ge 155 K) ((xe_iload 3).trans (congrArg (x_iload 3) ((xe_iconst 12).trans (congrArg (x_iconst 12) ((xe_if_icmp .ge 155).trans (congrArg (x_if_icmp .ge 155 K) ((xe_aload 0).trans (congrArg (x_aload 0) ((xe_g1 (kk := 109) rfl tl_9_14).trans (congrArg (x_g1 109 594) ((xe_iload 3).trans (congrArg (x_iload 3) ((xe_iaload).trans (congrArg (x_iaload) ((xe_istore 5).trans (congrArg (x_istore 5) ((xe_iinc 3 1).trans (congrArg (x_iinc 3 1) ((xe_aload 0).trans (congrArg (x_aload 0) ((xe_g1 (kk := 109) rfl tl_9_12).trans (congrArg (x_g1 109 592) ((xe_iload 5).trans (congrArg (x_iload 5) ((xe_iaload).trans (congrArg (x_iaload) ((xe_aload 0).trans (congrArg (x_aload 0) ((xe_g1 (kk := 109) rfl tl_9_11).trans (congrArg (x_g1 109 591) ((xe_iload 5).trans (congrArg (x_iload 5) ((xe_iaload).trans (congrArg (x_iaload) ((xe_if_icmp .ge 79).trans (congrArg (x_if_icmp .ge 79 K) ((xe_aload 0).trans (congrArg (x_aload 0) ((xe_iload 1).trans (congrArg (x_iload 1) ((xe_iload 5).trans (congrArg (x_iload 5) xe_nil))))))))))))))))))))))))))))))))))))))))))))))))
theorem bk_X9_relieve_155 : ck_ fX9 (some .boolean) cX9_relieve 155 [.iconst 0, .ireturn] 157 = true := qck_r (nn_ _) (by decide +kernel)
theorem bs_X9_relieve_155 {P : Zt → Option Zv → Prop} (K : Int → Zl → List Zv → Zt → Prop) : sx_ K P [.iconst 0, .ireturn] 157 = x_iconst 0 (x_ireturn P) := ((xe_iconst 0).trans (congrArg (x_iconst 0) (xe_ireturn)))
theorem bk_X9_relieve_79 : ck_ fX9 (some .boolean) cX9_relieve 79 [.iload 2, .istore 6] 82 = true := qck_r (nn_ _) (by decide +kernel)
theorem bs_X9_relieve_79 {P : Zt → Option Zv → Prop} (K : Int → Zl → List Zv → Zt → Prop) : sx_ K P [.iload 2, .istore 6] 82 = x_iload 2 (x_istore 6 (K 82)) := ((xe_iload 2).trans (congrArg (x_iload 2) ((xe_istore 6).trans (congrArg (x_istore 6) xe_nil))))
set_option maxRecDepth 100000 in
theorem cl_X9_157 : cv_ RX9 157 yX9_shiftAlong zX9_shiftAlong 9 2 := ⟨gi_V (lwq_6 (dqc_m (dqa_m (dqa_m (dqa_m (List.mem_of_getElem? (i := 7) rfl))))) rfl : Cond.methodLink RX9 157 yX9_shiftAlong ∈ lw_g) (lwq_6 (dqc_m (dqc_m (List.mem_of_getElem? (i := 1) rfl))) rfl : Cond.instanceMethod yX9_shiftAlong ∈ lw_g) (lw_sel 146 rfl : Cond.selects yX9_shiftAlong.cls yX9_shiftAlong yX9_shiftAlong ∈ lw_g) (lwq_1 (List.mem_of_getElem? (i := 6) rfl) rfl : Cond.initialized yX9_shiftAlong.cls ∈ lw_g) (lwq_6 (dqc_m (dqc_m (List.mem_of_getElem? (i := 2) rfl))) rfl : Cond.code yX9_shiftAlong cX9_shiftAlong 6 none ∈ lw_g), ⟨nmh_8.1, nmh_8.2, pdq_0⟩, ⟨_, _, rfl⟩⟩
theorem bk_X9_relieve_77 : ck_ fX9 (some .boolean) cX9_relieve 77 [.iconst 1, .ireturn] 79 = true := qck_r (nn_ _) (by decide +kernel)
theorem bs_X9_relieve_77 {P : Zt → Option Zv → Prop} (K : Int → Zl → List Zv → Zt → Prop) : sx_ K P [.iconst 1, .ireturn] 79 = x_iconst 1 (x_ireturn P) := ((xe_iconst 1).trans (congrArg (x_iconst 1) (xe_ireturn)))
theorem bk_X9_relieve_0 : ck_ fX9 (some .boolean) cX9_relieve 0 [.aload 0, .tableswitch 0 9 13 #[], .iconst (-1)] 5 = true := qck_r (nn_ _) (by decide +kernel)
theorem bs_X9_relieve_0 {P : Zt → Option Zv → Prop} (K : Int → Zl → List Zv → Zt → Prop) : sx_ K P [.aload 0, .tableswitch 0 9 13 #[], .iconst (-1)] 5 = x_aload 0 (x_g1 109 593 (x_iconst (-1) (K 5))) := ((xe_aload 0).trans (congrArg (x_aload 0) ((xe_g1 (kk := 109) rfl tl_9_13).trans (congrArg (x_g1 109 593) ((xe_iconst (-1)).trans (congrArg (x_iconst (-1)) xe_nil))))))
set_option maxRecDepth 100000 in
theorem cl_X9_48 : cs_ RX9 48 yJ7_fill_53178 zJ7_fill_53178 2 := ⟨gi_S (lwq_2 (dqa_m (dqa_m (dqa_m (List.mem_of_getElem? (i := 1) rfl)))) rfl : Cond.methodLink RX9 48 yJ7_fill_53178 ∈ lw_g) (lwq_2 (dqa_m (dqa_m (dqa_m (List.mem_of_getElem? (i := 2) rfl)))) rfl : Cond.static yJ7_fill_53178 ∈ lw_g) (lwq_1 (List.mem_of_getElem? (i := 7) rfl) rfl : Cond.initialized yJ7_fill_53178.cls ∈ lw_g) (lwq_2 (dqa_m (dqa_m (dqa_m (List.mem_of_getElem? (i := 3) rfl)))) rfl : Cond.code yJ7_fill_53178 cJ7_fill_53178 4 none ∈ lw_g), ⟨by decide, by decide, by decide +kernel⟩⟩
theorem bk_X9_relieve_8 : ck_ fX9 (some .boolean) cX9_relieve 8 [.iconst 0, .istore 3, .iconst 1, .istore 4, .aload 0, .tableswitch 0 9 14 #[], .iconst 0, .iload 1, .iastore, .aload 0, .tableswitch 0 9 13 #[], .iload 1, .aload 0, .tableswitch 0 9 9 #[], .iastore] 30 = true := qck_r (nn_ _) (by decide +kernel)
theorem bs_X9_relieve_8 {P : Zt → Option Zv → Prop} (K : Int → Zl → List Zv → Zt → Prop) : sx_ K P [.iconst 0, .istore 3, .iconst 1, .istore 4, .aload 0, .tableswitch 0 9 14 #[], .iconst 0, .iload 1, .iastore, .aload 0, .tableswitch 0 9 13 #[], .iload 1, .aload 0, .tableswitch 0 9 9 #[], .iastore] 30 = x_iconst 0 (x_istore 3 (x_iconst 1 (x_istore 4 (x_aload 0 (x_g1 109 594 (x_iconst 0 (x_iload 1 (x_iastore (x_aload 0 (x_g1 109 593 (x_iload 1 (x_aload 0 (x_g0 109 9 0 40 (x_iastore (K 30))))))))))))))) := ((xe_iconst 0).trans (congrArg (x_iconst 0) ((xe_istore 3).trans (congrArg (x_istore 3) ((xe_iconst 1).trans (congrArg (x_iconst 1) ((xe_istore 4).trans (congrArg (x_istore 4) ((xe_aload 0).trans (congrArg (x_aload 0) ((xe_g1 (kk := 109) rfl tl_9_14).trans (congrArg (x_g1 109 594) ((xe_iconst 0).trans (congrArg (x_iconst 0) ((xe_iload 1).trans (congrArg (x_iload 1) ((xe_iastore).trans (congrArg (x_iastore) ((xe_aload 0).trans (congrArg (x_aload 0) ((xe_g1 (kk := 109) rfl tl_9_13).trans (congrArg (x_g1 109 593) ((xe_iload 1).trans (congrArg (x_iload 1) ((xe_aload 0).trans (congrArg (x_aload 0) ((xe_g0 (kk := 109) rfl tl_9_9).trans (congrArg (x_g0 109 9 0 40) ((xe_iastore).trans (congrArg (x_iastore) xe_nil))))))))))))))))))))))))))))))
abbrev po_X9_relieve (T : Zt) (s f : Int) : Zt → Option Zv → Prop := fun T' r => ∃ x : Int, r = some (vI x) ∧ fr_ [(593, []), (594, []), (592, []), (590, [])] T T' ∧ (0 ≤ x ∧ x ≤ 1)
set_option maxHeartbeats 4000000 in
theorem ct_X9_relieve {T : Zt} {s f : Int} (hq9 : Q9_ T) (hka : KA_ T) (hs : 0 ≤ s ∧ s < 12) (h0 : 0 ≤ f) : Ct_ yX9_relieve zX9_relieve T [vR 109 0, vI s, vI f] (po_X9_relieve T s f) := by
  refine ct_of pn_9 rfl rfl (Nat.le_of_ble_eq_true rfl) (fun hT hav => ?_)
  have hr_s : -2147483648 ≤ s ∧ s ≤ 2147483647 := hav (vI s) (List.mem_cons_of_mem _ List.mem_cons_self)
  have hr_f : -2147483648 ≤ f ∧ f ≤ 2147483647 := hav (vI f) (List.mem_cons_of_mem _ (List.mem_cons_of_mem _ List.mem_cons_self))
  have hz : zX9_relieve.2.2.2.1 = some .boolean → ∀ (T' : Zt) (x : Int), po_X9_relieve T s f T' (some (vI x)) → 0 ≤ x ∧ x ≤ 1 := fun _ T' x h => by obtain ⟨y, e, -, hy⟩ := h; cases e; omega
  have hbo : 0 ≤ T 109 0 9 ∧ T 109 0 9 ≤ 40 := bd_f hT 109 9 tl_9_9 0
  show J_ zX9_relieve T (po_X9_relieve T s f) 0 0 0 [some (vR 109 0), some (vI s), some (vI f), none, none, none, none, none] [] T
  have c_30 : ∀ (nn : Nat) (hd : Int) (tl : Int) (T1 : Zt), ((12 - hd).toNat) ≤ nn → (fr_ [(593, []), (594, [])] T T1) → (0 ≤ hd ∧ hd ≤ 12 ∧ 1 ≤ tl ∧ tl ≤ 12) → (∀ v, 0 ≤ v → v < 12 → T1 593 0 v ≠ -1 → v = s ∨ ((0 ≤ T1 593 0 v ∧ T1 593 0 v < T 109 0 9) ∧ ((hsx_ T (T1 593 0 v) = v ∧ T1 593 0 (asx_ T (T1 593 0 v)) ≠ -1) ∨ (hsx_ T (T1 593 0 v) ≠ v ∧ T1 593 0 (hsx_ T (T1 593 0 v)) ≠ -1)))) → (∀ j, 0 ≤ j → j < tl → T1 593 0 (T1 594 0 j) ≠ -1) → J_ zX9_relieve T (po_X9_relieve T s f) 0 0 30 [some (vR 109 0), some (vI s), some (vI f), some (vI hd), some (vI tl), none, none, none] [] T1 := by
    intro nn
    induction nn using Nat.strongRecOn with
    | _ nn ih_30 =>
      intro hd tl T1 hm_30 hf_30 i1 vi1 qi1
      replace hm_30 := fun (_ : Unit) => hm_30
      have c_82 : ∀ (nn : Nat) (tl2 : Int) (at9 : Int) (k : Int) (T2 : Zt), ((40 - k).toNat) ≤ nn → (fr_ [(593, []), (594, [])] T T2) → (hd < 12 ∧ 1 ≤ tl2 ∧ tl2 ≤ 12 ∧ 0 ≤ k ∧ 0 ≤ at9 ∧ at9 < 12) → (T2 593 0 at9 ≠ -1) → (∀ v, 0 ≤ v → v < 12 → T2 593 0 v ≠ -1 → v = s ∨ ((0 ≤ T2 593 0 v ∧ T2 593 0 v < T 109 0 9) ∧ ((hsx_ T (T2 593 0 v) = v ∧ T2 593 0 (asx_ T (T2 593 0 v)) ≠ -1) ∨ (hsx_ T (T2 593 0 v) ≠ v ∧ T2 593 0 (hsx_ T (T2 593 0 v)) ≠ -1)))) → (∀ j, 0 ≤ j → j < tl2 → T2 593 0 (T2 594 0 j) ≠ -1) → J_ zX9_relieve T (po_X9_relieve T s f) 0 0 82 [some (vR 109 0), some (vI s), some (vI f), some (vI (hd + 1)), some (vI tl2), some (vI at9), some (vI k), none] [] T2 := by
        intro nn
        induction nn using Nat.strongRecOn with
        | _ nn ih_82 =>
          intro tl2 at9 k T2 hm_82 hf_82 i2 hat vi2 qi2
          replace hm_82 := fun (_ : Unit) => hm_82
          refine j_blx (F := fX9) tb_X9 (nn_ _) bk_X9_relieve_82 bs_X9_relieve_82 hz (fun K hK => ?_)
          intro b1 b1b
          have e2 : T2 109 0 9 = T 109 0 9 := hf_82 109 0 9 rfl
          rw [e2] at b1 b1b ⊢
          refine And.intro (fun c3 => ?_) (fun c3 => ?_)
          · refine hK 152 _ [] T2 ?_
            refine j_blx (F := fX9) tb_X9 (nn_ _) bk_X9_relieve_152 bs_X9_relieve_152 hz (fun K hK => ?_)
            refine hK 30 _ [] T2 ?_
            refine j_drq [some (vR 109 0), some (vI s), some (vI f), some (vI (hd + 1)), some (vI tl2), none, none, none] (drq_s (drq_s (drq_s (drq_s (drq_s (drq_n (drq_n (drq_n drq_0)))))))) ?_
            refine ih_30 _ ?_ (hd + 1) tl2 T2 (Nat.le_refl _) ?_ ?_ ?_ ?_
            · have hm_30 := hm_30 (); omega
            · exact fr_t (fr_0 _ _) (fr_s hf_82 rfl)
            · omega
            · exact vi2
            · exact qi2
          · refine hK 96 [some (vR 109 0), some (vI s), some (vI f), some (vI (hd + 1)), some (vI tl2), some (vI at9), some (vI k), none] [vI at9, vI k, vR 109 0] T2 ?_
            have fq4 : fr_ [(593, []), (594, [])] T T2 := fr_t (fr_0 _ _) (fr_s hf_82 rfl)
            have e5 : T2 109 0 9 = T 109 0 9 := hf_82 109 0 9 rfl
            refine j_callV (y := yX9_takerOf) (Yc := zX9_takerOf) (rest := []) [vI k, vI at9] (ct_X9_takerOf (T := T2) (q9_f hq9 fq4 ⟨fun _ _ => rfl, fun _ => rfl, rfl, rfl, rfl, rfl, rfl⟩) (KA__f (ws := [(593, []), (594, [])]) hka (fr_t (fr_0 _ _) (fr_s hf_82 rfl)) ⟨fun _ => rfl, fun _ => rfl, rfl, rfl, trivial⟩) (by omega)) cl_X9_161 (qd_c (by decide +kernel)) (nn_ _) rfl (rf_of rfl) (Nat.le_of_ble_eq_true rfl) (Nat.le_of_ble_eq_true rfl) (Nat.le_of_ble_eq_true rfl) rfl ?_
            rintro _ _ ⟨rfl, x6, rfl, hx6⟩
            rw [hsx_e fq4 ⟨fun _ _ => rfl, fun _ => rfl, rfl, rfl, rfl, rfl, rfl⟩, asx_e fq4 ⟨fun _ _ => rfl, fun _ => rfl, rfl, rfl, rfl, rfl, rfl⟩] at hx6
            show J_ zX9_relieve T (po_X9_relieve T s f) 0 0 99 _ [vI x6] T2
            refine j_blx (F := fX9) tb_X9 (nn_ _) bk_X9_relieve_99 bs_X9_relieve_99 hz (fun K hK => ?_)
            refine And.intro (fun c7 => ?_) (fun c7 => ?_)
            · refine hK 146 [some (vR 109 0), some (vI s), some (vI f), some (vI (hd + 1)), some (vI tl2), some (vI at9), some (vI k), some (vI x6)] [] T2 ?_
              refine j_blx (F := fX9) tb_X9 (nn_ _) bk_X9_relieve_146 bs_X9_relieve_146 hz (fun K hK => ?_)
              refine rg_i (by omega) ?_
              refine hK 82 [some (vR 109 0), some (vI s), some (vI f), some (vI (hd + 1)), some (vI tl2), some (vI at9), some (vI (k + 1)), some (vI x6)] [] T2 ?_
              refine j_drq [some (vR 109 0), some (vI s), some (vI f), some (vI (hd + 1)), some (vI tl2), some (vI at9), some (vI (k + 1)), none] (drq_s (drq_s (drq_s (drq_s (drq_s (drq_s (drq_s (drq_n drq_0)))))))) ?_
              refine ih_82 _ ?_ tl2 at9 (k + 1) T2 (Nat.le_refl _) ?_ ?_ ?_ ?_ ?_
              · have hm_82 := hm_82 (); omega
              · exact fr_t (fr_0 _ _) (fr_s hf_82 rfl)
              · omega
              · exact hat
              · exact vi2
              · exact qi2
            · refine ix_i (by omega) ?_
              intro b8 b8b
              refine And.intro (fun c9 => ?_) (fun c9 => ?_)
              · refine hK 146 [some (vR 109 0), some (vI s), some (vI f), some (vI (hd + 1)), some (vI tl2), some (vI at9), some (vI k), some (vI x6)] [] T2 ?_
                refine j_blx (F := fX9) tb_X9 (nn_ _) bk_X9_relieve_146 bs_X9_relieve_146 hz (fun K hK => ?_)
                refine rg_i (by omega) ?_
                refine hK 82 [some (vR 109 0), some (vI s), some (vI f), some (vI (hd + 1)), some (vI tl2), some (vI at9), some (vI (k + 1)), some (vI x6)] [] T2 ?_
                refine j_drq [some (vR 109 0), some (vI s), some (vI f), some (vI (hd + 1)), some (vI tl2), some (vI at9), some (vI (k + 1)), none] (drq_s (drq_s (drq_s (drq_s (drq_s (drq_s (drq_s (drq_n drq_0)))))))) ?_
                refine ih_82 _ ?_ tl2 at9 (k + 1) T2 (Nat.le_refl _) ?_ ?_ ?_ ?_ ?_
                · have hm_82 := hm_82 (); omega
                · exact fr_t (fr_0 _ _) (fr_s hf_82 rfl)
                · omega
                · exact hat
                · exact vi2
                · exact qi2
              · refine And.intro (fun c10 => ?_) (fun c10 => ?_)
                · refine hK 146 [some (vR 109 0), some (vI s), some (vI f), some (vI (hd + 1)), some (vI tl2), some (vI at9), some (vI k), some (vI x6)] [] T2 ?_
                  refine j_blx (F := fX9) tb_X9 (nn_ _) bk_X9_relieve_146 bs_X9_relieve_146 hz (fun K hK => ?_)
                  refine rg_i (by omega) ?_
                  refine hK 82 [some (vR 109 0), some (vI s), some (vI f), some (vI (hd + 1)), some (vI tl2), some (vI at9), some (vI (k + 1)), some (vI x6)] [] T2 ?_
                  refine j_drq [some (vR 109 0), some (vI s), some (vI f), some (vI (hd + 1)), some (vI tl2), some (vI at9), some (vI (k + 1)), none] (drq_s (drq_s (drq_s (drq_s (drq_s (drq_s (drq_s (drq_n drq_0)))))))) ?_
                  refine ih_82 _ ?_ tl2 at9 (k + 1) T2 (Nat.le_refl _) ?_ ?_ ?_ ?_ ?_
                  · have hm_82 := hm_82 (); omega
                  · exact fr_t (fr_0 _ _) (fr_s hf_82 rfl)
                  · omega
                  · exact hat
                  · exact vi2
                  · exact qi2
                · refine iy_i (by omega) (by omega) ?_
                  refine x_nm (fun U11 hU11 => ?_)
                  have e12 := up_f hU11
                  refine iy_i (by omega) (by omega) ?_
                  refine x_nm (fun U13 hU13 => ?_)
                  have e14 := up_f hU13
                  refine rg_i (by omega) ?_
                  refine rg_i (by omega) ?_
                  refine hK 82 [some (vR 109 0), some (vI s), some (vI f), some (vI (hd + 1)), some (vI (tl2 + 1)), some (vI at9), some (vI (k + 1)), some (vI x6)] [] U13 ?_
                  refine j_drq [some (vR 109 0), some (vI s), some (vI f), some (vI (hd + 1)), some (vI (tl2 + 1)), some (vI at9), some (vI (k + 1)), none] (drq_s (drq_s (drq_s (drq_s (drq_s (drq_s (drq_s (drq_n drq_0)))))))) ?_
                  refine ih_82 _ ?_ (tl2 + 1) at9 (k + 1) U13 (Nat.le_refl _) ?_ ?_ ?_ ?_ ?_
                  · have hm_82 := hm_82 (); omega
                  · exact fr_u (fr_u (fr_t (fr_0 _ _) (fr_s hf_82 rfl)) hU11 rfl) hU13 rfl
                  · omega
                  · rw [up_k hU13 (by exact Nat.ne_of_beq_eq_false rfl), up_g hU11 (fun q => by rw [q.2.2] at hat; omega)]; exact hat
                  · have ev : ∀ z, z ≠ x6 → U13 593 0 z = T2 593 0 z := fun z hz => (up_k hU13 (by exact Nat.ne_of_beq_eq_false rfl) 0 z).trans (up_g hU11 (fun q => hz q.2.2))
                    have ex : U13 593 0 x6 = k := (up_k hU13 (by exact Nat.ne_of_beq_eq_false rfl) 0 _).trans (up_f hU11)
                    intro v a b d
                    by_cases z : v = x6
                    · right
                      rw [z, ex]
                      refine ⟨by omega, ?_⟩
                      have ha : U13 593 0 at9 ≠ -1 := by rw [ev at9 (fun q => by rw [q] at hat; omega)]; exact hat
                      rcases hx6.resolve_left (by omega) with ⟨_, _, ⟨y1, y2⟩ | ⟨y1, y2⟩⟩
                      · by_cases w : hsx_ T k = x6
                        · exact Or.inl ⟨w, fun q => hat (by rw [show at9 = x6 by omega]; omega)⟩
                        · exact Or.inr ⟨w, by rw [y1]; exact ha⟩
                      · exact Or.inl ⟨y2.symm, by rw [y1]; exact ha⟩
                    · rw [ev v z] at d ⊢
                      rcases vi2 v a b d with y | ⟨y1, y2⟩
                      · exact Or.inl y
                      · refine Or.inr ⟨y1, ?_⟩
                        rcases y2 with ⟨u1, u2⟩ | ⟨u1, u2⟩
                        · refine Or.inl ⟨u1, ?_⟩
                          by_cases t : asx_ T (T2 593 0 v) = x6
                          · rw [t, ex]; omega
                          · rw [ev _ t]; exact u2
                        · refine Or.inr ⟨u1, ?_⟩
                          by_cases t : hsx_ T (T2 593 0 v) = x6
                          · rw [t, ex]; omega
                          · rw [ev _ t]; exact u2
                  · have ev : ∀ z, z ≠ x6 → U13 593 0 z = T2 593 0 z := fun z hz => (up_k hU13 (by exact Nat.ne_of_beq_eq_false rfl) 0 z).trans (up_g hU11 (fun q => hz q.2.2))
                    have ex : U13 593 0 x6 = k := (up_k hU13 (by exact Nat.ne_of_beq_eq_false rfl) 0 _).trans (up_f hU11)
                    intro j a b
                    by_cases z : j = tl2
                    · rw [z, up_f hU13, ex]; omega
                    · rw [up_g hU13 (fun q => z q.2.2), up_k hU11 (by exact Nat.ne_of_beq_eq_false rfl)]
                      by_cases w : T2 594 0 j = x6
                      · rw [w, ex]; omega
                      · rw [ev _ w]; exact qi2 j a (by omega)
      refine j_blx (F := fX9) tb_X9 (nn_ _) bk_X9_relieve_30 bs_X9_relieve_30 hz (fun K hK => ?_)
      refine And.intro (fun c15 => ?_) (fun c15 => ?_)
      · refine hK 155 _ [] T1 ?_
        refine j_blx (F := fX9) tb_X9 (nn_ _) bk_X9_relieve_155 bs_X9_relieve_155 hz (fun K hK => ?_)
        refine (show po_X9_relieve T s f T1 (some (vI 0)) from ?_)
        exact ⟨_, rfl, fr_t (fr_0 _ _) (fr_s hf_30 rfl), by omega⟩
      · refine And.intro (fun c16 => ?_) (fun c16 => ?_)
        · refine hK 155 _ [] T1 ?_
          refine j_blx (F := fX9) tb_X9 (nn_ _) bk_X9_relieve_155 bs_X9_relieve_155 hz (fun K hK => ?_)
          refine (show po_X9_relieve T s f T1 (some (vI 0)) from ?_)
          exact ⟨_, rfl, fr_t (fr_0 _ _) (fr_s hf_30 rfl), by omega⟩
        · have hqh := qi1 hd (by omega) (by omega)
          refine ix_i (by omega) ?_
          intro b17 b17b
          refine rg_i (by omega) ?_
          refine ix_i (by omega) ?_
          intro b18 b18b
          have e19 : T1 592 0 (T1 594 0 hd) = T 592 0 (T1 594 0 hd) := hf_30 592 0 (T1 594 0 hd) rfl
          rw [e19] at b18 b18b ⊢
          refine ix_i (by omega) ?_
          intro b20 b20b
          have e21 : T1 591 0 (T1 594 0 hd) = T 591 0 (T1 594 0 hd) := hf_30 591 0 (T1 594 0 hd) rfl
          rw [e21] at b20 b20b ⊢
          refine And.intro (fun c22 => ?_) (fun c22 => ?_)
          · refine hK 79 [some (vR 109 0), some (vI s), some (vI f), some (vI (hd + 1)), some (vI tl), some (vI (T1 594 0 hd)), none, none] [] T1 ?_
            refine j_blx (F := fX9) tb_X9 (nn_ _) bk_X9_relieve_79 bs_X9_relieve_79 hz (fun K hK => ?_)
            refine hK 82 [some (vR 109 0), some (vI s), some (vI f), some (vI (hd + 1)), some (vI tl), some (vI (T1 594 0 hd)), some (vI f), none] [] T1 ?_
            refine c_82 _ tl (T1 594 0 hd) f T1 (Nat.le_refl _) ?_ ?_ ?_ ?_ ?_
            · exact fr_t (fr_0 _ _) (fr_s hf_30 rfl)
            · omega
            · exact hqh
            · exact vi1
            · exact qi1
          · refine hK 74 [some (vR 109 0), some (vI s), some (vI f), some (vI (hd + 1)), some (vI tl), some (vI (T1 594 0 hd)), none, none] [vI (T1 594 0 hd), vI s, vR 109 0] T1 ?_
            have e23 : T1 109 0 9 = T 109 0 9 := hf_30 109 0 9 rfl
            have fq24 : fr_ [(593, []), (594, [])] T T1 := fr_t (fr_0 _ _) (fr_s hf_30 rfl)
            have e25 : T1 109 0 9 = T 109 0 9 := hf_30 109 0 9 rfl
            refine j_callV (y := yX9_shiftAlong) (Yc := zX9_shiftAlong) (rest := []) [vI s, vI (T1 594 0 hd)] (ct_X9_shiftAlong (T := T1) (by exact q9_f hq9 fq24 ⟨fun _ _ => rfl, fun _ => rfl, rfl, rfl, rfl, rfl, rfl⟩) (by exact KA__f (ws := [(593, []), (594, [])]) hka (fr_t (fr_0 _ _) (fr_s hf_30 rfl)) ⟨fun _ => rfl, fun _ => rfl, rfl, rfl, trivial⟩) (by omega) (by omega) (by rw [hf_30 109 0 9 rfl]; simp only [hsx_e fq24 ⟨fun _ _ => rfl, fun _ => rfl, rfl, rfl, rfl, rfl, rfl⟩, asx_e fq24 ⟨fun _ _ => rfl, fun _ => rfl, rfl, rfl, rfl, rfl, rfl⟩]; exact vi1)) cl_X9_157 (qd_c (by decide +kernel)) (nn_ _) rfl (rf_of rfl) (Nat.le_of_ble_eq_true rfl) (Nat.le_of_ble_eq_true rfl) (Nat.le_of_ble_eq_true rfl) rfl ?_
            rintro U26 _ ⟨rfl, fU26, qU26⟩
            show J_ zX9_relieve T (po_X9_relieve T s f) 0 0 77 _ [] U26
            refine j_blx (F := fX9) tb_X9 (nn_ _) bk_X9_relieve_77 bs_X9_relieve_77 hz (fun K hK => ?_)
            refine (show po_X9_relieve T s f U26 (some (vI 1)) from ?_)
            exact ⟨_, rfl, fr_t (fr_t (fr_0 _ _) (fr_s hf_30 rfl)) (fr_s fU26 rfl), by omega⟩
  refine j_blx (F := fX9) tb_X9 (nn_ _) bk_X9_relieve_0 bs_X9_relieve_0 hz (fun K hK => ?_)
  refine hK 5 _ [vI (-1), vR 593 0] T ?_
  refine j_callS (y := yJ7_fill_53178) (Yc := zJ7_fill_53178) (rest := []) [vR 593 0, vI (-1)] (ct_J7_fill_593 (T := T) (by omega)) cl_X9_48 (qd_c (by decide +kernel)) (nn_ _) rfl (rf_of rfl) (Nat.le_of_ble_eq_true rfl) (Nat.le_of_ble_eq_true rfl) (Nat.le_of_ble_eq_true rfl) rfl ?_
  rintro U27 _ ⟨rfl, fU27, qU27o, qU27⟩
  show J_ zX9_relieve T (po_X9_relieve T s f) 0 0 8 _ [] U27
  refine j_blx (F := fX9) tb_X9 (nn_ _) bk_X9_relieve_8 bs_X9_relieve_8 hz (fun K hK => ?_)
  refine iy_i (by omega) (by omega) ?_
  refine x_nm (fun U28 hU28 => ?_)
  have e29 := up_f hU28
  intro b30 b30b
  have e31 : U28 109 0 9 = T 109 0 9 := (up_k hU28 (by exact Nat.ne_of_beq_eq_false rfl) 0 9).trans (fU27 109 0 9 rfl)
  rw [e31] at b30 b30b ⊢
  refine iy_i (by omega) (by omega) ?_
  refine x_nm (fun U32 hU32 => ?_)
  have e33 := up_f hU32
  refine hK 30 [some (vR 109 0), some (vI s), some (vI f), some (vI 0), some (vI 1), none, none, none] [] U32 ?_
  refine c_30 _ 0 1 U32 (Nat.le_refl _) ?_ ?_ ?_ ?_
  · exact fr_u (fr_u (fr_t (fr_0 _ _) (fr_s fU27 rfl)) hU28 rfl) hU32 rfl
  · omega
  · intro v a b d
    left
    apply Classical.byContradiction
    intro z
    exact d (((up_g hU32 (by omega)).trans (up_k hU28 (by exact Nat.ne_of_beq_eq_false rfl) 0 v)).trans (qU27 v a b))
  · intro j a b
    have e9 : U32 594 0 0 = s := (up_k hU32 (by exact Nat.ne_of_beq_eq_false rfl) 0 0).trans (up_f hU28)
    rw [show j = 0 by omega, e9, up_f hU32]; omega
abbrev cX9_takePartHome : ByteArray := prog_11_method_9_code
def yX9_takePartHome : MethodName := ⟨RX9, "takePartHome", "(I)Z"⟩
def zX9_takePartHome : Zm := (RX9, cX9_takePartHome, 4, (some .boolean), { frames := 3, cells := 0, slots := 0, locals := 73 })
theorem bk_X9_takePartHome_0 : ck_ fX9 (some .boolean) cX9_takePartHome 0 [.aload 0, .iload 1] 2 = true := qck_r (nn_ _) (by decide +kernel)
theorem bs_X9_takePartHome_0 {P : Zt → Option Zv → Prop} (K : Int → Zl → List Zv → Zt → Prop) : sx_ K P [.aload 0, .iload 1] 2 = x_aload 0 (x_iload 1 (K 2)) := ((xe_aload 0).trans (congrArg (x_aload 0) ((xe_iload 1).trans (congrArg (x_iload 1) xe_nil))))
theorem bk_X9_takePartHome_5 : ck_ fX9 (some .boolean) cX9_takePartHome 5 [.istore 2, .aload 0, .iload 1] 8 = true := qck_r (nn_ _) (by decide +kernel)
theorem bs_X9_takePartHome_5 {P : Zt → Option Zv → Prop} (K : Int → Zl → List Zv → Zt → Prop) : sx_ K P [.istore 2, .aload 0, .iload 1] 8 = x_istore 2 (x_aload 0 (x_iload 1 (K 8))) := ((xe_istore 2).trans (congrArg (x_istore 2) ((xe_aload 0).trans (congrArg (x_aload 0) ((xe_iload 1).trans (congrArg (x_iload 1) xe_nil))))))
theorem bk_X9_takePartHome_11 : ck_ fX9 (some .boolean) cX9_takePartHome 11 [.istore 3, .aload 0, .tableswitch 0 9 12 #[], .iload 2, .dup2, .iaload, .iconst 1, .fadd, .iastore, .aload 0, .tableswitch 0 9 12 #[], .iload 3, .dup2, .iaload, .iconst 1, .fsub, .iastore, .aload 0, .tableswitch 0 9 12 #[], .iload 2, .iaload, .aload 0, .tableswitch 0 9 11 #[], .iload 2, .iaload, .if_icmp .le 58, .aload 0, .iload 2, .iload 1, .iconst 1, .iadd] 52 = true := qck_r (nn_ _) (by decide +kernel)
theorem bs_X9_takePartHome_11 {P : Zt → Option Zv → Prop} (K : Int → Zl → List Zv → Zt → Prop) : sx_ K P [.istore 3, .aload 0, .tableswitch 0 9 12 #[], .iload 2, .dup2, .iaload, .iconst 1, .fadd, .iastore, .aload 0, .tableswitch 0 9 12 #[], .iload 3, .dup2, .iaload, .iconst 1, .fsub, .iastore, .aload 0, .tableswitch 0 9 12 #[], .iload 2, .iaload, .aload 0, .tableswitch 0 9 11 #[], .iload 2, .iaload, .if_icmp .le 58, .aload 0, .iload 2, .iload 1, .iconst 1, .iadd] 52 = x_istore 3 (x_aload 0 (x_g1 109 592 (x_iload 2 (x_dup2 (x_iaload (x_iconst 1 (x_fadd (x_iastore (x_aload 0 (x_g1 109 592 (x_iload 3 (x_dup2 (x_iaload (x_iconst 1 (x_fsub (x_iastore (x_aload 0 (x_g1 109 592 (x_iload 2 (x_iaload (x_aload 0 (x_g1 109 591 (x_iload 2 (x_iaload (x_if_icmp .le 58 K (x_aload 0 (x_iload 2 (x_iload 1 (x_iconst 1 (x_iadd (K 52))))))))))))))))))))))))))))))) := ((xe_istore 3).trans (congrArg (x_istore 3) ((xe_aload 0).trans (congrArg (x_aload 0) ((xe_g1 (kk := 109) rfl tl_9_12).trans (congrArg (x_g1 109 592) ((xe_iload 2).trans (congrArg (x_iload 2) ((xe_dup2).trans (congrArg (x_dup2) ((xe_iaload).trans (congrArg (x_iaload) ((xe_iconst 1).trans (congrArg (x_iconst 1) ((xe_fadd).trans (congrArg (x_fadd) ((xe_iastore).trans (congrArg (x_iastore) ((xe_aload 0).trans (congrArg (x_aload 0) ((xe_g1 (kk := 109) rfl tl_9_12).trans (congrArg (x_g1 109 592) ((xe_iload 3).trans (congrArg (x_iload 3) ((xe_dup2).trans (congrArg (x_dup2) ((xe_iaload).trans (congrArg (x_iaload) ((xe_iconst 1).trans (congrArg (x_iconst 1) ((xe_fsub).trans (congrArg (x_fsub) ((xe_iastore).trans (congrArg (x_iastore) ((xe_aload 0).trans (congrArg (x_aload 0) ((xe_g1 (kk := 109) rfl tl_9_12).trans (congrArg (x_g1 109 592) ((xe_iload 2).trans (congrArg (x_iload 2) ((xe_iaload).trans (congrArg (x_iaload) ((xe_aload 0).trans (congrArg (x_aload 0) ((xe_g1 (kk := 109) rfl tl_9_11).trans (congrArg (x_g1 109 591) ((xe_iload 2).trans (congrArg (x_iload 2) ((xe_iaload).trans (congrArg (x_iaload) ((xe_if_icmp .le 58).trans (congrArg (x_if_icmp .le 58 K) ((xe_aload 0).trans (congrArg (x_aload 0) ((xe_iload 2).trans (congrArg (x_iload 2) ((xe_iload 1).trans (congrArg (x_iload 1) ((xe_iconst 1).trans (congrArg (x_iconst 1) ((xe_iadd).trans (congrArg (x_iadd) xe_nil))))))))))))))))))))))))))))))))))))))))))))))))))))))))))))))
theorem bk_X9_takePartHome_58 : ck_ fX9 (some .boolean) cX9_takePartHome 58 [.iconst 1, .ireturn] 60 = true := qck_r (nn_ _) (by decide +kernel)
theorem bs_X9_takePartHome_58 {P : Zt → Option Zv → Prop} (K : Int → Zl → List Zv → Zt → Prop) : sx_ K P [.iconst 1, .ireturn] 60 = x_iconst 1 (x_ireturn P) := ((xe_iconst 1).trans (congrArg (x_iconst 1) (xe_ireturn)))
set_option maxRecDepth 100000 in
theorem cl_X9_148 : cv_ RX9 148 yX9_relieve zX9_relieve 9 2 := ⟨gi_V (lwq_6 (dqc_m (dqa_m (dqa_m (dqa_m (List.mem_of_getElem? (i := 3) rfl))))) rfl : Cond.methodLink RX9 148 yX9_relieve ∈ lw_g) (lwq_6 (dqc_m (dqa_m (dqa_m (dqa_m (List.mem_of_getElem? (i := 5) rfl))))) rfl : Cond.instanceMethod yX9_relieve ∈ lw_g) (lw_sel 143 rfl : Cond.selects yX9_relieve.cls yX9_relieve yX9_relieve ∈ lw_g) (lwq_1 (List.mem_of_getElem? (i := 6) rfl) rfl : Cond.initialized yX9_relieve.cls ∈ lw_g) (lwq_6 (dqc_m (dqa_m (dqa_m (dqa_m (List.mem_of_getElem? (i := 6) rfl))))) rfl : Cond.code yX9_relieve cX9_relieve 8 (some .boolean) ∈ lw_g), ⟨nmh_8.1, nmh_8.2, pdq_5⟩, ⟨_, _, rfl⟩⟩
theorem bk_X9_takePartHome_55 : ck_ fX9 (some .boolean) cX9_takePartHome 55 [.ifCond .eq 60, .iconst 1, .ireturn] 60 = true := qck_r (nn_ _) (by decide +kernel)
theorem bs_X9_takePartHome_55 {P : Zt → Option Zv → Prop} (K : Int → Zl → List Zv → Zt → Prop) : sx_ K P [.ifCond .eq 60, .iconst 1, .ireturn] 60 = x_ifCond .eq 60 K (x_iconst 1 (x_ireturn P)) := ((xe_ifCond .eq 60).trans (congrArg (x_ifCond .eq 60 K) ((xe_iconst 1).trans (congrArg (x_iconst 1) (xe_ireturn)))))
theorem bk_X9_takePartHome_60 : ck_ fX9 (some .boolean) cX9_takePartHome 60 [.aload 0, .tableswitch 0 9 12 #[], .iload 2, .dup2, .iaload, .iconst 1, .fsub, .iastore, .aload 0, .tableswitch 0 9 12 #[], .iload 3, .dup2, .iaload, .iconst 1, .fadd, .iastore, .iconst 0, .ireturn] 82 = true := qck_r (nn_ _) (by decide +kernel)
theorem bs_X9_takePartHome_60 {P : Zt → Option Zv → Prop} (K : Int → Zl → List Zv → Zt → Prop) : sx_ K P [.aload 0, .tableswitch 0 9 12 #[], .iload 2, .dup2, .iaload, .iconst 1, .fsub, .iastore, .aload 0, .tableswitch 0 9 12 #[], .iload 3, .dup2, .iaload, .iconst 1, .fadd, .iastore, .iconst 0, .ireturn] 82 = x_aload 0 (x_g1 109 592 (x_iload 2 (x_dup2 (x_iaload (x_iconst 1 (x_fsub (x_iastore (x_aload 0 (x_g1 109 592 (x_iload 3 (x_dup2 (x_iaload (x_iconst 1 (x_fadd (x_iastore (x_iconst 0 (x_ireturn P))))))))))))))))) := ((xe_aload 0).trans (congrArg (x_aload 0) ((xe_g1 (kk := 109) rfl tl_9_12).trans (congrArg (x_g1 109 592) ((xe_iload 2).trans (congrArg (x_iload 2) ((xe_dup2).trans (congrArg (x_dup2) ((xe_iaload).trans (congrArg (x_iaload) ((xe_iconst 1).trans (congrArg (x_iconst 1) ((xe_fsub).trans (congrArg (x_fsub) ((xe_iastore).trans (congrArg (x_iastore) ((xe_aload 0).trans (congrArg (x_aload 0) ((xe_g1 (kk := 109) rfl tl_9_12).trans (congrArg (x_g1 109 592) ((xe_iload 3).trans (congrArg (x_iload 3) ((xe_dup2).trans (congrArg (x_dup2) ((xe_iaload).trans (congrArg (x_iaload) ((xe_iconst 1).trans (congrArg (x_iconst 1) ((xe_fadd).trans (congrArg (x_fadd) ((xe_iastore).trans (congrArg (x_iastore) ((xe_iconst 0).trans (congrArg (x_iconst 0) (xe_ireturn)))))))))))))))))))))))))))))))))))
abbrev po_X9_takePartHome (T : Zt) (k : Int) : Zt → Option Zv → Prop := fun T' r => ∃ x : Int, r = some (vI x) ∧ fr_ [(593, []), (594, []), (592, []), (590, [])] T T' ∧ (0 ≤ x ∧ x ≤ 1)
set_option maxHeartbeats 4000000 in
theorem ct_X9_takePartHome {T : Zt} {k : Int} (hq9 : Q9_ T) (hka : KA_ T) (hk : 0 ≤ k ∧ k < T 109 0 9) : Ct_ yX9_takePartHome zX9_takePartHome T [vR 109 0, vI k] (po_X9_takePartHome T k) := by
  refine ct_of pn_9 rfl rfl (Nat.le_of_ble_eq_true rfl) (fun hT hav => ?_)
  have hr_k : -2147483648 ≤ k ∧ k ≤ 2147483647 := hav (vI k) (List.mem_cons_of_mem _ List.mem_cons_self)
  have hz : zX9_takePartHome.2.2.2.1 = some .boolean → ∀ (T' : Zt) (x : Int), po_X9_takePartHome T k T' (some (vI x)) → 0 ≤ x ∧ x ≤ 1 := fun _ T' x h => by obtain ⟨y, e, -, hy⟩ := h; cases e; omega
  have hbo : 0 ≤ T 109 0 9 ∧ T 109 0 9 ≤ 40 := bd_f hT 109 9 tl_9_9 0
  show J_ zX9_takePartHome T (po_X9_takePartHome T k) 0 0 0 [some (vR 109 0), some (vI k), none, none] [] T
  refine j_blx (F := fX9) tb_X9 (nn_ _) bk_X9_takePartHome_0 bs_X9_takePartHome_0 hz (fun K hK => ?_)
  refine hK 2 _ [vI k, vR 109 0] T ?_
  refine j_callV (y := yX9_homeSeatOf) (Yc := zX9_homeSeatOf) (rest := []) [vI k] (ct_X9_homeSeatOf (T := T) hq9 hka (by omega)) cl_X9_145 (qd_c (by decide +kernel)) (nn_ _) rfl (rf_of rfl) (Nat.le_of_ble_eq_true rfl) (Nat.le_of_ble_eq_true rfl) (Nat.le_of_ble_eq_true rfl) rfl ?_
  rintro _ _ ⟨rfl, x1, rfl, hx1⟩
  show J_ zX9_takePartHome T (po_X9_takePartHome T k) 0 0 5 _ [vI x1] T
  refine j_blx (F := fX9) tb_X9 (nn_ _) bk_X9_takePartHome_5 bs_X9_takePartHome_5 hz (fun K hK => ?_)
  refine hK 8 [some (vR 109 0), some (vI k), some (vI x1), none] [vI k, vR 109 0] T ?_
  refine j_callV (y := yX9_awaySeatOf) (Yc := zX9_awaySeatOf) (rest := []) [vI k] (ct_X9_awaySeatOf (T := T) hq9 hka (by omega)) cl_X9_154 (qd_c (by decide +kernel)) (nn_ _) rfl (rf_of rfl) (Nat.le_of_ble_eq_true rfl) (Nat.le_of_ble_eq_true rfl) (Nat.le_of_ble_eq_true rfl) rfl ?_
  rintro _ _ ⟨rfl, x2, rfl, hx2⟩
  show J_ zX9_takePartHome T (po_X9_takePartHome T k) 0 0 11 _ [vI x2] T
  refine j_blx (F := fX9) tb_X9 (nn_ _) bk_X9_takePartHome_11 bs_X9_takePartHome_11 hz (fun K hK => ?_)
  refine ix_i (by omega) ?_
  intro b3 b3b
  intro w4 w4b
  refine iy_i (by omega) (by omega) ?_
  refine x_nm (fun U5 hU5 => ?_)
  have e6 := up_f hU5
  refine ix_i (by omega) ?_
  intro b7 b7b
  intro w8 w8b
  refine iy_i (by omega) (by omega) ?_
  refine x_nm (fun U9 hU9 => ?_)
  have e10 := up_f hU9
  refine ix_i (by omega) ?_
  intro b11 b11b
  refine ix_i (by omega) ?_
  intro b12 b12b
  have e13 : U9 591 0 x1 = T 591 0 x1 := (up_k hU9 (by exact Nat.ne_of_beq_eq_false rfl) 0 x1).trans (up_k hU5 (by exact Nat.ne_of_beq_eq_false rfl) 0 x1)
  rw [e13] at b12 b12b ⊢
  refine And.intro (fun c14 => ?_) (fun c14 => ?_)
  · refine hK 58 [some (vR 109 0), some (vI k), some (vI x1), some (vI x2)] [] U9 ?_
    refine j_blx (F := fX9) tb_X9 (nn_ _) bk_X9_takePartHome_58 bs_X9_takePartHome_58 hz (fun K hK => ?_)
    refine (show po_X9_takePartHome T k U9 (some (vI 1)) from ?_)
    exact ⟨_, rfl, fr_u (fr_u (fr_0 _ _) hU5 rfl) hU9 rfl, by omega⟩
  · refine rg_i (by omega) ?_
    refine hK 52 _ [vI (k + 1), vI x1, vR 109 0] U9 ?_
    have fq15 : fr_ [(592, [])] T U9 := fr_u (fr_u (fr_0 _ _) hU5 rfl) hU9 rfl
    have e16 : U9 109 0 9 = T 109 0 9 := (up_k hU9 (by exact Nat.ne_of_beq_eq_false rfl) 0 9).trans (up_k hU5 (by exact Nat.ne_of_beq_eq_false rfl) 0 9)
    refine j_callV (y := yX9_relieve) (Yc := zX9_relieve) (rest := []) [vI x1, vI (k + 1)] (ct_X9_relieve (T := U9) (by exact q9_f hq9 fq15 ⟨fun _ _ => rfl, fun _ => rfl, rfl, rfl, rfl, rfl, rfl⟩) (by exact KA__f (ws := [(592, [])]) hka (fr_u (fr_u (fr_0 _ _) hU5 rfl) hU9 rfl) ⟨fun _ => rfl, fun _ => rfl, rfl, rfl, trivial⟩) (by omega) (by omega)) cl_X9_148 (qd_c (by decide +kernel)) (nn_ _) rfl (rf_of rfl) (Nat.le_of_ble_eq_true rfl) (Nat.le_of_ble_eq_true rfl) (Nat.le_of_ble_eq_true rfl) rfl ?_
    rintro U17 _ ⟨x18, rfl, fU17, qU17⟩
    show J_ zX9_takePartHome T (po_X9_takePartHome T k) 0 0 55 _ [vI x18] U17
    refine j_blx (F := fX9) tb_X9 (nn_ _) bk_X9_takePartHome_55 bs_X9_takePartHome_55 hz (fun K hK => ?_)
    refine And.intro (fun c19 => ?_) (fun c19 => ?_)
    · refine hK 60 _ [] U17 ?_
      refine j_blx (F := fX9) tb_X9 (nn_ _) bk_X9_takePartHome_60 bs_X9_takePartHome_60 hz (fun K hK => ?_)
      refine ix_i (by omega) ?_
      intro b20 b20b
      intro w21 w21b
      refine iy_i (by omega) (by omega) ?_
      refine x_nm (fun U22 hU22 => ?_)
      have e23 := up_f hU22
      refine ix_i (by omega) ?_
      intro b24 b24b
      intro w25 w25b
      refine iy_i (by omega) (by omega) ?_
      refine x_nm (fun U26 hU26 => ?_)
      have e27 := up_f hU26
      refine (show po_X9_takePartHome T k U26 (some (vI 0)) from ?_)
      exact ⟨_, rfl, fr_u (fr_u (fr_t (fr_u (fr_u (fr_0 _ _) hU5 rfl) hU9 rfl) (fr_s fU17 rfl)) hU22 rfl) hU26 rfl, by omega⟩
    · refine (show po_X9_takePartHome T k U17 (some (vI 1)) from ?_)
      exact ⟨_, rfl, fr_t (fr_u (fr_u (fr_0 _ _) hU5 rfl) hU9 rfl) (fr_s fU17 rfl), by omega⟩
abbrev cX9_spreadParts : ByteArray := prog_11_method_8_code
def yX9_spreadParts : MethodName := ⟨RX9, "spreadParts", "(I)Z"⟩
def zX9_spreadParts : Zm := (RX9, cX9_spreadParts, 5, (some .boolean), { frames := 4, cells := 0, slots := 0, locals := 96 })
theorem bk_X9_spreadParts_122 : ck_ fX9 (some .boolean) cX9_spreadParts 122 [.iload 3, .iconst 2, .if_icmp .ge 150, .aload 0, .iload 2] 129 = true := qck_r (nn_ _) (by decide +kernel)
theorem bs_X9_spreadParts_122 {P : Zt → Option Zv → Prop} (K : Int → Zl → List Zv → Zt → Prop) : sx_ K P [.iload 3, .iconst 2, .if_icmp .ge 150, .aload 0, .iload 2] 129 = x_iload 3 (x_iconst 2 (x_if_icmp .ge 150 K (x_aload 0 (x_iload 2 (K 129))))) := ((xe_iload 3).trans (congrArg (x_iload 3) ((xe_iconst 2).trans (congrArg (x_iconst 2) ((xe_if_icmp .ge 150).trans (congrArg (x_if_icmp .ge 150 K) ((xe_aload 0).trans (congrArg (x_aload 0) ((xe_iload 2).trans (congrArg (x_iload 2) xe_nil))))))))))
theorem bk_X9_spreadParts_150 : ck_ fX9 (some .boolean) cX9_spreadParts 150 [.aload 0, .tableswitch 0 9 4 #[], .aload 0, .tableswitch 0 9 8 #[], .iload 2, .iaload, .iconst 2, .aload 0, .tableswitch 0 9 10 #[], .iload 2, .iaload, .fsub, .iastore, .iinc 2 1, .goto 107] 175 = true := qck_r (nn_ _) (by decide +kernel)
theorem bs_X9_spreadParts_150 {P : Zt → Option Zv → Prop} (K : Int → Zl → List Zv → Zt → Prop) : sx_ K P [.aload 0, .tableswitch 0 9 4 #[], .aload 0, .tableswitch 0 9 8 #[], .iload 2, .iaload, .iconst 2, .aload 0, .tableswitch 0 9 10 #[], .iload 2, .iaload, .fsub, .iastore, .iinc 2 1, .goto 107] 175 = x_aload 0 (x_g1 109 584 (x_aload 0 (x_g1 109 588 (x_iload 2 (x_iaload (x_iconst 2 (x_aload 0 (x_g1 109 590 (x_iload 2 (x_iaload (x_fsub (x_iastore (x_iinc 2 1 (x_goto 107 K)))))))))))))) := ((xe_aload 0).trans (congrArg (x_aload 0) ((xe_g1 (kk := 109) rfl tl_9_4).trans (congrArg (x_g1 109 584) ((xe_aload 0).trans (congrArg (x_aload 0) ((xe_g1 (kk := 109) rfl tl_9_8).trans (congrArg (x_g1 109 588) ((xe_iload 2).trans (congrArg (x_iload 2) ((xe_iaload).trans (congrArg (x_iaload) ((xe_iconst 2).trans (congrArg (x_iconst 2) ((xe_aload 0).trans (congrArg (x_aload 0) ((xe_g1 (kk := 109) rfl tl_9_10).trans (congrArg (x_g1 109 590) ((xe_iload 2).trans (congrArg (x_iload 2) ((xe_iaload).trans (congrArg (x_iaload) ((xe_fsub).trans (congrArg (x_fsub) ((xe_iastore).trans (congrArg (x_iastore) ((xe_iinc 2 1).trans (congrArg (x_iinc 2 1) (xe_goto 107)))))))))))))))))))))))))))))
set_option maxRecDepth 100000 in
theorem cl_X9_151 : cv_ RX9 151 yX9_takePartHome zX9_takePartHome 9 1 := ⟨gi_V (lwq_6 (dqc_m (dqc_m (dqa_m (List.mem_of_getElem? (i := 3) rfl)))) rfl : Cond.methodLink RX9 151 yX9_takePartHome ∈ lw_g) (lwq_6 (dqc_m (dqc_m (dqa_m (List.mem_of_getElem? (i := 5) rfl)))) rfl : Cond.instanceMethod yX9_takePartHome ∈ lw_g) (lw_sel 148 rfl : Cond.selects yX9_takePartHome.cls yX9_takePartHome yX9_takePartHome ∈ lw_g) (lwq_1 (List.mem_of_getElem? (i := 6) rfl) rfl : Cond.initialized yX9_takePartHome.cls ∈ lw_g) (lwq_6 (dqc_m (dqc_m (dqa_m (List.mem_of_getElem? (i := 6) rfl)))) rfl : Cond.code yX9_takePartHome cX9_takePartHome 4 (some .boolean) ∈ lw_g), ⟨nmh_8.1, nmh_8.2, pdq_7⟩, ⟨_, _, rfl⟩⟩
theorem bk_X9_spreadParts_132 : ck_ fX9 (some .boolean) cX9_spreadParts 132 [.ifCond .eq 150, .aload 0, .tableswitch 0 9 10 #[], .iload 2, .iload 3, .iconst 1, .fadd, .iastore, .iinc 3 1, .goto 122] 150 = true := qck_r (nn_ _) (by decide +kernel)
theorem bs_X9_spreadParts_132 {P : Zt → Option Zv → Prop} (K : Int → Zl → List Zv → Zt → Prop) : sx_ K P [.ifCond .eq 150, .aload 0, .tableswitch 0 9 10 #[], .iload 2, .iload 3, .iconst 1, .fadd, .iastore, .iinc 3 1, .goto 122] 150 = x_ifCond .eq 150 K (x_aload 0 (x_g1 109 590 (x_iload 2 (x_iload 3 (x_iconst 1 (x_fadd (x_iastore (x_iinc 3 1 (x_goto 122 K))))))))) := ((xe_ifCond .eq 150).trans (congrArg (x_ifCond .eq 150 K) ((xe_aload 0).trans (congrArg (x_aload 0) ((xe_g1 (kk := 109) rfl tl_9_10).trans (congrArg (x_g1 109 590) ((xe_iload 2).trans (congrArg (x_iload 2) ((xe_iload 3).trans (congrArg (x_iload 3) ((xe_iconst 1).trans (congrArg (x_iconst 1) ((xe_fadd).trans (congrArg (x_fadd) ((xe_iastore).trans (congrArg (x_iastore) ((xe_iinc 3 1).trans (congrArg (x_iinc 3 1) (xe_goto 122)))))))))))))))))))
theorem bk_X9_spreadParts_107 : ck_ fX9 (some .boolean) cX9_spreadParts 107 [.iload 2, .aload 0, .tableswitch 0 9 9 #[], .if_icmp .ge 175, .aload 0, .tableswitch 0 9 10 #[], .iload 2, .iaload, .istore 3] 122 = true := qck_r (nn_ _) (by decide +kernel)
theorem bs_X9_spreadParts_107 {P : Zt → Option Zv → Prop} (K : Int → Zl → List Zv → Zt → Prop) : sx_ K P [.iload 2, .aload 0, .tableswitch 0 9 9 #[], .if_icmp .ge 175, .aload 0, .tableswitch 0 9 10 #[], .iload 2, .iaload, .istore 3] 122 = x_iload 2 (x_aload 0 (x_g0 109 9 0 40 (x_if_icmp .ge 175 K (x_aload 0 (x_g1 109 590 (x_iload 2 (x_iaload (x_istore 3 (K 122))))))))) := ((xe_iload 2).trans (congrArg (x_iload 2) ((xe_aload 0).trans (congrArg (x_aload 0) ((xe_g0 (kk := 109) rfl tl_9_9).trans (congrArg (x_g0 109 9 0 40) ((xe_if_icmp .ge 175).trans (congrArg (x_if_icmp .ge 175 K) ((xe_aload 0).trans (congrArg (x_aload 0) ((xe_g1 (kk := 109) rfl tl_9_10).trans (congrArg (x_g1 109 590) ((xe_iload 2).trans (congrArg (x_iload 2) ((xe_iaload).trans (congrArg (x_iaload) ((xe_istore 3).trans (congrArg (x_istore 3) xe_nil))))))))))))))))))
theorem bk_X9_spreadParts_175 : ck_ fX9 (some .boolean) cX9_spreadParts 175 [.iconst 1, .ireturn] 177 = true := qck_r (nn_ _) (by decide +kernel)
theorem bs_X9_spreadParts_175 {P : Zt → Option Zv → Prop} (K : Int → Zl → List Zv → Zt → Prop) : sx_ K P [.iconst 1, .ireturn] 177 = x_iconst 1 (x_ireturn P) := ((xe_iconst 1).trans (congrArg (x_iconst 1) (xe_ireturn)))
theorem bk_X9_spreadParts_76 : ck_ fX9 (some .boolean) cX9_spreadParts 76 [.iload 4, .iload 3, .if_icmp .ge 99, .aload 0, .iload 2, .iconst 0] 85 = true := qck_r (nn_ _) (by decide +kernel)
theorem bs_X9_spreadParts_76 {P : Zt → Option Zv → Prop} (K : Int → Zl → List Zv → Zt → Prop) : sx_ K P [.iload 4, .iload 3, .if_icmp .ge 99, .aload 0, .iload 2, .iconst 0] 85 = x_iload 4 (x_iload 3 (x_if_icmp .ge 99 K (x_aload 0 (x_iload 2 (x_iconst 0 (K 85)))))) := ((xe_iload 4).trans (congrArg (x_iload 4) ((xe_iload 3).trans (congrArg (x_iload 3) ((xe_if_icmp .ge 99).trans (congrArg (x_if_icmp .ge 99 K) ((xe_aload 0).trans (congrArg (x_aload 0) ((xe_iload 2).trans (congrArg (x_iload 2) ((xe_iconst 0).trans (congrArg (x_iconst 0) xe_nil))))))))))))
theorem bk_X9_spreadParts_99 : ck_ fX9 (some .boolean) cX9_spreadParts 99 [.iinc 2 1, .goto 39] 105 = true := qck_r (nn_ _) (by decide +kernel)
theorem bs_X9_spreadParts_99 {P : Zt → Option Zv → Prop} (K : Int → Zl → List Zv → Zt → Prop) : sx_ K P [.iinc 2 1, .goto 39] 105 = x_iinc 2 1 (x_goto 39 K) := ((xe_iinc 2 1).trans (congrArg (x_iinc 2 1) (xe_goto 39)))
theorem bk_X9_spreadParts_88 : ck_ fX9 (some .boolean) cX9_spreadParts 88 [.ifCond .ne 93, .iconst 0, .ireturn] 93 = true := qck_r (nn_ _) (by decide +kernel)
theorem bs_X9_spreadParts_88 {P : Zt → Option Zv → Prop} (K : Int → Zl → List Zv → Zt → Prop) : sx_ K P [.ifCond .ne 93, .iconst 0, .ireturn] 93 = x_ifCond .ne 93 K (x_iconst 0 (x_ireturn P)) := ((xe_ifCond .ne 93).trans (congrArg (x_ifCond .ne 93 K) ((xe_iconst 0).trans (congrArg (x_iconst 0) (xe_ireturn)))))
theorem bk_X9_spreadParts_93 : ck_ fX9 (some .boolean) cX9_spreadParts 93 [.iinc 4 1, .goto 76] 99 = true := qck_r (nn_ _) (by decide +kernel)
theorem bs_X9_spreadParts_93 {P : Zt → Option Zv → Prop} (K : Int → Zl → List Zv → Zt → Prop) : sx_ K P [.iinc 4 1, .goto 76] 99 = x_iinc 4 1 (x_goto 76 K) := ((xe_iinc 4 1).trans (congrArg (x_iinc 4 1) (xe_goto 76)))
theorem bk_X9_spreadParts_39 : ck_ fX9 (some .boolean) cX9_spreadParts 39 [.iload 2, .aload 0, .tableswitch 0 9 5 #[], .tableswitch 0 0 5 #[], .if_icmp .ge 105, .iload 2, .iload 1, .if_icmp .ne 59, .iconst 0, .goto 72] 59 = true := qck_r (nn_ _) (by decide +kernel)
theorem bs_X9_spreadParts_39 {P : Zt → Option Zv → Prop} (K : Int → Zl → List Zv → Zt → Prop) : sx_ K P [.iload 2, .aload 0, .tableswitch 0 9 5 #[], .tableswitch 0 0 5 #[], .if_icmp .ge 105, .iload 2, .iload 1, .if_icmp .ne 59, .iconst 0, .goto 72] 59 = x_iload 2 (x_aload 0 (x_g5 109 100 5 (x_g0 100 5 0 12 (x_if_icmp .ge 105 K (x_iload 2 (x_iload 1 (x_if_icmp .ne 59 K (x_iconst 0 (x_goto 72 K))))))))) := ((xe_iload 2).trans (congrArg (x_iload 2) ((xe_aload 0).trans (congrArg (x_aload 0) ((xe_g5 (kk := 109) rfl tl_9_5).trans (congrArg (x_g5 109 100 5) ((xe_g0 (kk := 100) rfl tl_0_5).trans (congrArg (x_g0 100 5 0 12) ((xe_if_icmp .ge 105).trans (congrArg (x_if_icmp .ge 105 K) ((xe_iload 2).trans (congrArg (x_iload 2) ((xe_iload 1).trans (congrArg (x_iload 1) ((xe_if_icmp .ne 59).trans (congrArg (x_if_icmp .ne 59 K) ((xe_iconst 0).trans (congrArg (x_iconst 0) (xe_goto 72)))))))))))))))))))
theorem bk_X9_spreadParts_105 : ck_ fX9 (some .boolean) cX9_spreadParts 105 [.iconst 0, .istore 2] 107 = true := qck_r (nn_ _) (by decide +kernel)
theorem bs_X9_spreadParts_105 {P : Zt → Option Zv → Prop} (K : Int → Zl → List Zv → Zt → Prop) : sx_ K P [.iconst 0, .istore 2] 107 = x_iconst 0 (x_istore 2 (K 107)) := ((xe_iconst 0).trans (congrArg (x_iconst 0) ((xe_istore 2).trans (congrArg (x_istore 2) xe_nil))))
theorem bk_X9_spreadParts_59 : ck_ fX9 (some .boolean) cX9_spreadParts 59 [.aload 0, .tableswitch 0 9 12 #[], .iload 2, .iaload, .aload 0, .tableswitch 0 9 11 #[], .iload 2, .iaload, .fsub, .istore 3, .iconst 0, .istore 4] 76 = true := qck_r (nn_ _) (by decide +kernel)
theorem bs_X9_spreadParts_59 {P : Zt → Option Zv → Prop} (K : Int → Zl → List Zv → Zt → Prop) : sx_ K P [.aload 0, .tableswitch 0 9 12 #[], .iload 2, .iaload, .aload 0, .tableswitch 0 9 11 #[], .iload 2, .iaload, .fsub, .istore 3, .iconst 0, .istore 4] 76 = x_aload 0 (x_g1 109 592 (x_iload 2 (x_iaload (x_aload 0 (x_g1 109 591 (x_iload 2 (x_iaload (x_fsub (x_istore 3 (x_iconst 0 (x_istore 4 (K 76)))))))))))) := ((xe_aload 0).trans (congrArg (x_aload 0) ((xe_g1 (kk := 109) rfl tl_9_12).trans (congrArg (x_g1 109 592) ((xe_iload 2).trans (congrArg (x_iload 2) ((xe_iaload).trans (congrArg (x_iaload) ((xe_aload 0).trans (congrArg (x_aload 0) ((xe_g1 (kk := 109) rfl tl_9_11).trans (congrArg (x_g1 109 591) ((xe_iload 2).trans (congrArg (x_iload 2) ((xe_iaload).trans (congrArg (x_iaload) ((xe_fsub).trans (congrArg (x_fsub) ((xe_istore 3).trans (congrArg (x_istore 3) ((xe_iconst 0).trans (congrArg (x_iconst 0) ((xe_istore 4).trans (congrArg (x_istore 4) xe_nil))))))))))))))))))))))))
theorem bk_X9_spreadParts_72 : ck_ fX9 (some .boolean) cX9_spreadParts 72 [.istore 3, .iconst 0, .istore 4] 76 = true := qck_r (nn_ _) (by decide +kernel)
theorem bs_X9_spreadParts_72 {P : Zt → Option Zv → Prop} (K : Int → Zl → List Zv → Zt → Prop) : sx_ K P [.istore 3, .iconst 0, .istore 4] 76 = x_istore 3 (x_iconst 0 (x_istore 4 (K 76))) := ((xe_istore 3).trans (congrArg (x_istore 3) ((xe_iconst 0).trans (congrArg (x_iconst 0) ((xe_istore 4).trans (congrArg (x_istore 4) xe_nil))))))
theorem bk_X9_spreadParts_2 : ck_ fX9 (some .boolean) cX9_spreadParts 2 [.iload 2, .aload 0, .tableswitch 0 9 9 #[], .if_icmp .ge 37, .aload 0, .tableswitch 0 9 10 #[], .iload 2, .iconst 2, .iastore, .aload 0, .tableswitch 0 9 12 #[], .aload 0, .iload 2] 23 = true := qck_r (nn_ _) (by decide +kernel)
theorem bs_X9_spreadParts_2 {P : Zt → Option Zv → Prop} (K : Int → Zl → List Zv → Zt → Prop) : sx_ K P [.iload 2, .aload 0, .tableswitch 0 9 9 #[], .if_icmp .ge 37, .aload 0, .tableswitch 0 9 10 #[], .iload 2, .iconst 2, .iastore, .aload 0, .tableswitch 0 9 12 #[], .aload 0, .iload 2] 23 = x_iload 2 (x_aload 0 (x_g0 109 9 0 40 (x_if_icmp .ge 37 K (x_aload 0 (x_g1 109 590 (x_iload 2 (x_iconst 2 (x_iastore (x_aload 0 (x_g1 109 592 (x_aload 0 (x_iload 2 (K 23))))))))))))) := ((xe_iload 2).trans (congrArg (x_iload 2) ((xe_aload 0).trans (congrArg (x_aload 0) ((xe_g0 (kk := 109) rfl tl_9_9).trans (congrArg (x_g0 109 9 0 40) ((xe_if_icmp .ge 37).trans (congrArg (x_if_icmp .ge 37 K) ((xe_aload 0).trans (congrArg (x_aload 0) ((xe_g1 (kk := 109) rfl tl_9_10).trans (congrArg (x_g1 109 590) ((xe_iload 2).trans (congrArg (x_iload 2) ((xe_iconst 2).trans (congrArg (x_iconst 2) ((xe_iastore).trans (congrArg (x_iastore) ((xe_aload 0).trans (congrArg (x_aload 0) ((xe_g1 (kk := 109) rfl tl_9_12).trans (congrArg (x_g1 109 592) ((xe_aload 0).trans (congrArg (x_aload 0) ((xe_iload 2).trans (congrArg (x_iload 2) xe_nil))))))))))))))))))))))))))
theorem bk_X9_spreadParts_37 : ck_ fX9 (some .boolean) cX9_spreadParts 37 [.iconst 0, .istore 2] 39 = true := qck_r (nn_ _) (by decide +kernel)
theorem bs_X9_spreadParts_37 {P : Zt → Option Zv → Prop} (K : Int → Zl → List Zv → Zt → Prop) : sx_ K P [.iconst 0, .istore 2] 39 = x_iconst 0 (x_istore 2 (K 39)) := ((xe_iconst 0).trans (congrArg (x_iconst 0) ((xe_istore 2).trans (congrArg (x_istore 2) xe_nil))))
theorem bk_X9_spreadParts_26 : ck_ fX9 (some .boolean) cX9_spreadParts 26 [.dup2, .iaload, .iconst 2, .fadd, .iastore, .iinc 2 1, .goto 2] 37 = true := qck_r (nn_ _) (by decide +kernel)
theorem bs_X9_spreadParts_26 {P : Zt → Option Zv → Prop} (K : Int → Zl → List Zv → Zt → Prop) : sx_ K P [.dup2, .iaload, .iconst 2, .fadd, .iastore, .iinc 2 1, .goto 2] 37 = x_dup2 (x_iaload (x_iconst 2 (x_fadd (x_iastore (x_iinc 2 1 (x_goto 2 K)))))) := ((xe_dup2).trans (congrArg (x_dup2) ((xe_iaload).trans (congrArg (x_iaload) ((xe_iconst 2).trans (congrArg (x_iconst 2) ((xe_fadd).trans (congrArg (x_fadd) ((xe_iastore).trans (congrArg (x_iastore) ((xe_iinc 2 1).trans (congrArg (x_iinc 2 1) (xe_goto 2)))))))))))))
theorem bk_X9_spreadParts_0 : ck_ fX9 (some .boolean) cX9_spreadParts 0 [.iconst 0, .istore 2] 2 = true := qck_r (nn_ _) (by decide +kernel)
theorem bs_X9_spreadParts_0 {P : Zt → Option Zv → Prop} (K : Int → Zl → List Zv → Zt → Prop) : sx_ K P [.iconst 0, .istore 2] 2 = x_iconst 0 (x_istore 2 (K 2)) := ((xe_iconst 0).trans (congrArg (x_iconst 0) ((xe_istore 2).trans (congrArg (x_istore 2) xe_nil))))
abbrev po_X9_spreadParts (T : Zt) (s : Int) : Zt → Option Zv → Prop := fun T' r => ∃ x : Int, r = some (vI x) ∧ fr_ [(593, []), (594, []), (592, []), (590, []), (584, [])] T T' ∧ (0 ≤ x ∧ x ≤ 1)
set_option maxHeartbeats 4000000 in
theorem ct_X9_spreadParts {T : Zt} {s : Int} (hq9 : Q9_ T) (hka : KA_ T) (hs : 0 ≤ s ∧ s < 12) : Ct_ yX9_spreadParts zX9_spreadParts T [vR 109 0, vI s] (po_X9_spreadParts T s) := by
  refine ct_of pn_9 rfl rfl (Nat.le_of_ble_eq_true rfl) (fun hT hav => ?_)
  have hr_s : -2147483648 ≤ s ∧ s ≤ 2147483647 := hav (vI s) (List.mem_cons_of_mem _ List.mem_cons_self)
  have hz : zX9_spreadParts.2.2.2.1 = some .boolean → ∀ (T' : Zt) (x : Int), po_X9_spreadParts T s T' (some (vI x)) → 0 ≤ x ∧ x ≤ 1 := fun _ T' x h => by obtain ⟨y, e, -, hy⟩ := h; cases e; omega
  have hbo : 0 ≤ T 109 0 9 ∧ T 109 0 9 ≤ 40 := bd_f hT 109 9 tl_9_9 0
  have hct := hq9.1
  show J_ zX9_spreadParts T (po_X9_spreadParts T s) 0 0 0 [some (vR 109 0), some (vI s), none, none, none] [] T
  have c_107 : ∀ (nn : Nat) (k : Int) (T4 : Zt), ((40 - k).toNat) ≤ nn → (fr_ [(593, []), (594, []), (592, []), (590, []), (584, [])] T T4) → (0 ≤ k ∧ k ≤ 40) → J_ zX9_spreadParts T (po_X9_spreadParts T s) 0 0 107 [some (vR 109 0), some (vI s), some (vI k), none, none] [] T4 := by
    intro nn
    induction nn using Nat.strongRecOn with
    | _ nn ih_107 =>
      intro k T4 hm_107 hf_107 i4
      replace hm_107 := fun (_ : Unit) => hm_107
      have c_122 : ∀ (nn : Nat) (n : Int) (T5 : Zt), ((2 - n).toNat) ≤ nn → (fr_ [(593, []), (594, []), (592, []), (590, []), (584, [])] T T5) → (k < T 109 0 9 ∧ -2147483648 ≤ n ∧ n ≤ 2147483647) → J_ zX9_spreadParts T (po_X9_spreadParts T s) 0 0 122 [some (vR 109 0), some (vI s), some (vI k), some (vI n), none] [] T5 := by
        intro nn
        induction nn using Nat.strongRecOn with
        | _ nn ih_122 =>
          intro n T5 hm_122 hf_122 i5
          replace hm_122 := fun (_ : Unit) => hm_122
          refine j_blx (F := fX9) tb_X9 (nn_ _) bk_X9_spreadParts_122 bs_X9_spreadParts_122 hz (fun K hK => ?_)
          refine And.intro (fun c1 => ?_) (fun c1 => ?_)
          · refine hK 150 _ [] T5 ?_
            refine j_blx (F := fX9) tb_X9 (nn_ _) bk_X9_spreadParts_150 bs_X9_spreadParts_150 hz (fun K hK => ?_)
            refine ix_i (by omega) ?_
            intro b2 b2b
            have e3 : T5 588 0 k = T 588 0 k := hf_122 588 0 k rfl
            rw [e3] at b2 b2b ⊢
            refine ix_i (by omega) ?_
            intro b4 b4b
            intro w5 w5b
            refine iy_i (by omega) (by omega) ?_
            refine x_nm (fun U6 hU6 => ?_)
            have e7 := up_f hU6
            refine rg_i (by omega) ?_
            refine hK 107 [some (vR 109 0), some (vI s), some (vI (k + 1)), some (vI n), none] [] U6 ?_
            refine j_drq [some (vR 109 0), some (vI s), some (vI (k + 1)), none, none] (drq_s (drq_s (drq_s (drq_n (drq_n drq_0))))) ?_
            refine ih_107 _ ?_ (k + 1) U6 (Nat.le_refl _) ?_ ?_
            · have hm_107 := hm_107 (); omega
            · exact fr_u (fr_t (fr_0 _ _) (fr_s hf_122 rfl)) hU6 rfl
            · omega
          · refine hK 129 [some (vR 109 0), some (vI s), some (vI k), some (vI n), none] [vI k, vR 109 0] T5 ?_
            have e8 : T5 109 0 9 = T 109 0 9 := hf_122 109 0 9 rfl
            have fq9 : fr_ [(593, []), (594, []), (592, []), (590, []), (584, [])] T T5 := fr_t (fr_0 _ _) (fr_s hf_122 rfl)
            have e10 : T5 109 0 9 = T 109 0 9 := hf_122 109 0 9 rfl
            refine j_callV (y := yX9_takePartHome) (Yc := zX9_takePartHome) (rest := []) [vI k] (ct_X9_takePartHome (T := T5) (by exact q9_f hq9 fq9 ⟨fun _ _ => rfl, fun _ => rfl, rfl, rfl, rfl, rfl, rfl⟩) (by exact KA__f (ws := [(593, []), (594, []), (592, []), (590, []), (584, [])]) hka (fr_t (fr_0 _ _) (fr_s hf_122 rfl)) ⟨fun _ => rfl, fun _ => rfl, rfl, rfl, trivial⟩) (by omega)) cl_X9_151 (qd_c (by decide +kernel)) (nn_ _) rfl (rf_of rfl) (Nat.le_of_ble_eq_true rfl) (Nat.le_of_ble_eq_true rfl) (Nat.le_of_ble_eq_true rfl) rfl ?_
            rintro U11 _ ⟨x12, rfl, fU11, qU11⟩
            show J_ zX9_spreadParts T (po_X9_spreadParts T s) 0 0 132 _ [vI x12] U11
            refine j_blx (F := fX9) tb_X9 (nn_ _) bk_X9_spreadParts_132 bs_X9_spreadParts_132 hz (fun K hK => ?_)
            refine And.intro (fun c13 => ?_) (fun c13 => ?_)
            · refine hK 150 _ [] U11 ?_
              refine j_blx (F := fX9) tb_X9 (nn_ _) bk_X9_spreadParts_150 bs_X9_spreadParts_150 hz (fun K hK => ?_)
              refine ix_i (by omega) ?_
              intro b14 b14b
              have e15 : U11 588 0 k = T 588 0 k := (fU11 588 0 k rfl).trans (hf_122 588 0 k rfl)
              rw [e15] at b14 b14b ⊢
              refine ix_i (by omega) ?_
              intro b16 b16b
              intro w17 w17b
              refine iy_i (by omega) (by omega) ?_
              refine x_nm (fun U18 hU18 => ?_)
              have e19 := up_f hU18
              refine rg_i (by omega) ?_
              refine hK 107 [some (vR 109 0), some (vI s), some (vI (k + 1)), some (vI n), none] [] U18 ?_
              refine j_drq [some (vR 109 0), some (vI s), some (vI (k + 1)), none, none] (drq_s (drq_s (drq_s (drq_n (drq_n drq_0))))) ?_
              refine ih_107 _ ?_ (k + 1) U18 (Nat.le_refl _) ?_ ?_
              · have hm_107 := hm_107 (); omega
              · exact fr_u (fr_t (fr_t (fr_0 _ _) (fr_s hf_122 rfl)) (fr_s fU11 rfl)) hU18 rfl
              · omega
            · intro w20 w20b
              refine iy_i (by omega) (by omega) ?_
              refine x_nm (fun U21 hU21 => ?_)
              have e22 := up_f hU21
              refine rg_i (by omega) ?_
              refine hK 122 [some (vR 109 0), some (vI s), some (vI k), some (vI (n + 1)), none] [] U21 ?_
              refine ih_122 _ ?_ (n + 1) U21 (Nat.le_refl _) ?_ ?_
              · have hm_122 := hm_122 (); omega
              · exact fr_u (fr_t (fr_t (fr_0 _ _) (fr_s hf_122 rfl)) (fr_s fU11 rfl)) hU21 rfl
              · omega
      refine j_blx (F := fX9) tb_X9 (nn_ _) bk_X9_spreadParts_107 bs_X9_spreadParts_107 hz (fun K hK => ?_)
      intro b23 b23b
      have e24 : T4 109 0 9 = T 109 0 9 := hf_107 109 0 9 rfl
      rw [e24] at b23 b23b ⊢
      refine And.intro (fun c25 => ?_) (fun c25 => ?_)
      · refine hK 175 _ [] T4 ?_
        refine j_blx (F := fX9) tb_X9 (nn_ _) bk_X9_spreadParts_175 bs_X9_spreadParts_175 hz (fun K hK => ?_)
        refine (show po_X9_spreadParts T s T4 (some (vI 1)) from ?_)
        exact ⟨_, rfl, fr_t (fr_0 _ _) (fr_s hf_107 rfl), by omega⟩
      · refine ix_i (by omega) ?_
        intro b26 b26b
        refine hK 122 [some (vR 109 0), some (vI s), some (vI k), some (vI (T4 590 0 k)), none] [] T4 ?_
        refine c_122 _ (T4 590 0 k) T4 (Nat.le_refl _) ?_ ?_
        · exact fr_t (fr_0 _ _) (fr_s hf_107 rfl)
        · omega
  have c_39 : ∀ (nn : Nat) (i : Int) (T2 : Zt), ((12 - i).toNat) ≤ nn → (fr_ [(593, []), (594, []), (592, []), (590, [])] T T2) → (0 ≤ i ∧ i ≤ 12) → J_ zX9_spreadParts T (po_X9_spreadParts T s) 0 0 39 [some (vR 109 0), some (vI s), some (vI i), none, none] [] T2 := by
    intro nn
    induction nn using Nat.strongRecOn with
    | _ nn ih_39 =>
      intro i T2 hm_39 hf_39 i2
      replace hm_39 := fun (_ : Unit) => hm_39
      have c_76 : ∀ (nn : Nat) (ov : Int) (n : Int) (T3 : Zt), ((ov - n).toNat) ≤ nn → (fr_ [(593, []), (594, []), (592, []), (590, [])] T T3) → (i < 12 ∧ 0 ≤ n ∧ ov ≤ 2147483647) → J_ zX9_spreadParts T (po_X9_spreadParts T s) 0 0 76 [some (vR 109 0), some (vI s), some (vI i), some (vI ov), some (vI n)] [] T3 := by
        intro nn
        induction nn using Nat.strongRecOn with
        | _ nn ih_76 =>
          intro ov n T3 hm_76 hf_76 i3
          replace hm_76 := fun (_ : Unit) => hm_76
          refine j_blx (F := fX9) tb_X9 (nn_ _) bk_X9_spreadParts_76 bs_X9_spreadParts_76 hz (fun K hK => ?_)
          refine And.intro (fun c27 => ?_) (fun c27 => ?_)
          · refine hK 99 _ [] T3 ?_
            refine j_blx (F := fX9) tb_X9 (nn_ _) bk_X9_spreadParts_99 bs_X9_spreadParts_99 hz (fun K hK => ?_)
            refine rg_i (by omega) ?_
            refine hK 39 [some (vR 109 0), some (vI s), some (vI (i + 1)), some (vI ov), some (vI n)] [] T3 ?_
            refine j_drq [some (vR 109 0), some (vI s), some (vI (i + 1)), none, none] (drq_s (drq_s (drq_s (drq_n (drq_n drq_0))))) ?_
            refine ih_39 _ ?_ (i + 1) T3 (Nat.le_refl _) ?_ ?_
            · have hm_39 := hm_39 (); omega
            · exact fr_t (fr_0 _ _) (fr_s hf_76 rfl)
            · omega
          · refine hK 85 [some (vR 109 0), some (vI s), some (vI i), some (vI ov), some (vI n)] [vI 0, vI i, vR 109 0] T3 ?_
            have fq28 : fr_ [(593, []), (594, []), (592, []), (590, [])] T T3 := fr_t (fr_0 _ _) (fr_s hf_76 rfl)
            have e29 : T3 109 0 9 = T 109 0 9 := hf_76 109 0 9 rfl
            refine j_callV (y := yX9_relieve) (Yc := zX9_relieve) (rest := []) [vI i, vI 0] (ct_X9_relieve (T := T3) (by exact q9_f hq9 fq28 ⟨fun _ _ => rfl, fun _ => rfl, rfl, rfl, rfl, rfl, rfl⟩) (by exact KA__f (ws := [(593, []), (594, []), (592, []), (590, [])]) hka (fr_t (fr_0 _ _) (fr_s hf_76 rfl)) ⟨fun _ => rfl, fun _ => rfl, rfl, rfl, trivial⟩) (by omega) (by omega)) cl_X9_148 (qd_c (by decide +kernel)) (nn_ _) rfl (rf_of rfl) (Nat.le_of_ble_eq_true rfl) (Nat.le_of_ble_eq_true rfl) (Nat.le_of_ble_eq_true rfl) rfl ?_
            rintro U30 _ ⟨x31, rfl, fU30, qU30⟩
            show J_ zX9_spreadParts T (po_X9_spreadParts T s) 0 0 88 _ [vI x31] U30
            refine j_blx (F := fX9) tb_X9 (nn_ _) bk_X9_spreadParts_88 bs_X9_spreadParts_88 hz (fun K hK => ?_)
            refine And.intro (fun c32 => ?_) (fun c32 => ?_)
            · refine hK 93 _ [] U30 ?_
              refine j_blx (F := fX9) tb_X9 (nn_ _) bk_X9_spreadParts_93 bs_X9_spreadParts_93 hz (fun K hK => ?_)
              refine rg_i (by omega) ?_
              refine hK 76 [some (vR 109 0), some (vI s), some (vI i), some (vI ov), some (vI (n + 1))] [] U30 ?_
              refine ih_76 _ ?_ ov (n + 1) U30 (Nat.le_refl _) ?_ ?_
              · have hm_76 := hm_76 (); omega
              · exact fr_t (fr_t (fr_0 _ _) (fr_s hf_76 rfl)) (fr_s fU30 rfl)
              · omega
            · refine (show po_X9_spreadParts T s U30 (some (vI 0)) from ?_)
              exact ⟨_, rfl, fr_t (fr_t (fr_0 _ _) (fr_s hf_76 rfl)) (fr_s fU30 rfl), by omega⟩
      refine j_blx (F := fX9) tb_X9 (nn_ _) bk_X9_spreadParts_39 bs_X9_spreadParts_39 hz (fun K hK => ?_)
      have e34 : T2 109 0 5 = T 109 0 5 := hf_39 109 0 5 rfl
      refine And.intro (fun c33 => ?_) (fun c33 => ?_)
      · exact absurd c33 (by omega)
      · intro b35 b35b
        have e36 : T2 100 (T2 109 0 5 - 1) 5 = T 100 (T2 109 0 5 - 1) 5 := hf_39 100 (T2 109 0 5 - 1) 5 rfl
        rw [e36] at b35 b35b ⊢
        refine And.intro (fun c37 => ?_) (fun c37 => ?_)
        · refine hK 105 _ [] T2 ?_
          refine j_blx (F := fX9) tb_X9 (nn_ _) bk_X9_spreadParts_105 bs_X9_spreadParts_105 hz (fun K hK => ?_)
          refine hK 107 [some (vR 109 0), some (vI s), some (vI 0), none, none] [] T2 ?_
          refine c_107 _ 0 T2 (Nat.le_refl _) ?_ ?_
          · exact fr_t (fr_0 _ _) (fr_s hf_39 rfl)
          · omega
        · refine And.intro (fun c38 => ?_) (fun c38 => ?_)
          · refine hK 59 [some (vR 109 0), some (vI s), some (vI i), none, none] [] T2 ?_
            refine j_blx (F := fX9) tb_X9 (nn_ _) bk_X9_spreadParts_59 bs_X9_spreadParts_59 hz (fun K hK => ?_)
            refine ix_i (by omega) ?_
            intro b39 b39b
            refine ix_i (by omega) ?_
            intro b40 b40b
            have e41 : T2 591 0 i = T 591 0 i := hf_39 591 0 i rfl
            rw [e41] at b40 b40b ⊢
            intro w42 w42b
            refine hK 76 [some (vR 109 0), some (vI s), some (vI i), some (vI (wr_ ((T2 592 0 i) - (T 591 0 i)))), some (vI 0)] [] T2 ?_
            refine c_76 _ (wr_ ((T2 592 0 i) - (T 591 0 i))) 0 T2 (Nat.le_refl _) ?_ ?_
            · exact fr_t (fr_0 _ _) (fr_s hf_39 rfl)
            · omega
          · refine hK 72 [some (vR 109 0), some (vI s), some (vI i), none, none] [vI 0] T2 ?_
            refine j_blx (F := fX9) tb_X9 (nn_ _) bk_X9_spreadParts_72 bs_X9_spreadParts_72 hz (fun K hK => ?_)
            refine hK 76 [some (vR 109 0), some (vI s), some (vI i), some (vI 0), some (vI 0)] [] T2 ?_
            refine c_76 _ 0 0 T2 (Nat.le_refl _) ?_ ?_
            · exact fr_t (fr_0 _ _) (fr_s hf_39 rfl)
            · omega
  have c_2 : ∀ (nn : Nat) (k : Int) (T1 : Zt), ((40 - k).toNat) ≤ nn → (fr_ [(593, []), (594, []), (592, []), (590, [])] T T1) → (0 ≤ k ∧ k ≤ 40) → J_ zX9_spreadParts T (po_X9_spreadParts T s) 0 0 2 [some (vR 109 0), some (vI s), some (vI k), none, none] [] T1 := by
    intro nn
    induction nn using Nat.strongRecOn with
    | _ nn ih_2 =>
      intro k T1 hm_2 hf_2 i1
      replace hm_2 := fun (_ : Unit) => hm_2
      refine j_blx (F := fX9) tb_X9 (nn_ _) bk_X9_spreadParts_2 bs_X9_spreadParts_2 hz (fun K hK => ?_)
      intro b43 b43b
      have e44 : T1 109 0 9 = T 109 0 9 := hf_2 109 0 9 rfl
      rw [e44] at b43 b43b ⊢
      refine And.intro (fun c45 => ?_) (fun c45 => ?_)
      · refine hK 37 _ [] T1 ?_
        refine j_blx (F := fX9) tb_X9 (nn_ _) bk_X9_spreadParts_37 bs_X9_spreadParts_37 hz (fun K hK => ?_)
        refine hK 39 [some (vR 109 0), some (vI s), some (vI 0), none, none] [] T1 ?_
        refine c_39 _ 0 T1 (Nat.le_refl _) ?_ ?_
        · exact fr_t (fr_0 _ _) (fr_s hf_2 rfl)
        · omega
      · refine iy_i (by omega) (by omega) ?_
        refine x_nm (fun U46 hU46 => ?_)
        have e47 := up_f hU46
        refine hK 23 [some (vR 109 0), some (vI s), some (vI k), none, none] [vI k, vR 109 0, vR 592 0] U46 ?_
        have fq48 : fr_ [(590, []), (593, []), (594, []), (592, [])] T U46 := fr_u (fr_t (fr_0 _ _) (fr_s hf_2 rfl)) hU46 rfl
        have e49 : U46 109 0 9 = T 109 0 9 := (up_k hU46 (by exact Nat.ne_of_beq_eq_false rfl) 0 9).trans (hf_2 109 0 9 rfl)
        refine j_callV (y := yX9_homeSeatOf) (Yc := zX9_homeSeatOf) (rest := [vR 592 0]) [vI k] (ct_X9_homeSeatOf (T := U46) (q9_f hq9 fq48 ⟨fun _ _ => rfl, fun _ => rfl, rfl, rfl, rfl, rfl, rfl⟩) (KA__f (ws := [(590, []), (593, []), (594, []), (592, [])]) hka (fr_u (fr_t (fr_0 _ _) (fr_s hf_2 rfl)) hU46 rfl) ⟨fun _ => rfl, fun _ => rfl, rfl, rfl, trivial⟩) (by omega)) cl_X9_145 (qd_c (by decide +kernel)) (nn_ _) rfl (rf_of rfl) (Nat.le_of_ble_eq_true rfl) (Nat.le_of_ble_eq_true rfl) (Nat.le_of_ble_eq_true rfl) rfl ?_
        rintro _ _ ⟨rfl, x50, rfl, hx50⟩
        have e51 : hsx_ U46 k = hsx_ T k := hsx_e fq48 ⟨fun _ _ => rfl, fun _ => rfl, rfl, rfl, rfl, rfl, rfl⟩ _
        show J_ zX9_spreadParts T (po_X9_spreadParts T s) 0 0 26 _ [vI x50, vR 592 0] U46
        refine j_blx (F := fX9) tb_X9 (nn_ _) bk_X9_spreadParts_26 bs_X9_spreadParts_26 hz (fun K hK => ?_)
        refine ix_i (by omega) ?_
        intro b52 b52b
        have e53 : U46 592 0 x50 = T1 592 0 x50 := up_k hU46 (by exact Nat.ne_of_beq_eq_false rfl) 0 x50
        rw [e53] at b52 b52b ⊢
        intro w54 w54b
        refine iy_i (by omega) (by omega) ?_
        refine x_nm (fun U55 hU55 => ?_)
        have e56 := up_f hU55
        refine rg_i (by omega) ?_
        refine hK 2 [some (vR 109 0), some (vI s), some (vI (k + 1)), none, none] [] U55 ?_
        refine ih_2 _ ?_ (k + 1) U55 (Nat.le_refl _) ?_ ?_
        · have hm_2 := hm_2 (); omega
        · exact fr_u (fr_u (fr_t (fr_0 _ _) (fr_s hf_2 rfl)) hU46 rfl) hU55 rfl
        · omega
  refine j_blx (F := fX9) tb_X9 (nn_ _) bk_X9_spreadParts_0 bs_X9_spreadParts_0 hz (fun K hK => ?_)
  refine hK 2 [some (vR 109 0), some (vI s), some (vI 0), none, none] [] T ?_
  refine c_2 _ 0 T (Nat.le_refl _) ?_ ?_
  · exact fr_0 _ _
  · omega
def KM_ (T : Zt) : Prop := ∀ m : Int, 0 ≤ m → m < T 106 0 4 → T 102 m 1 = m ∧ 0 ≤ T 102 m 0 ∧ T 102 m 0 < T 106 0 2
theorem KM__f {ws : List (Nat × List Int)} {T T' : Zt} (h : KM_ T) (f : fr_ ws T T') (w : fw_ ws 102 1 = false ∧ fw_ ws 102 0 = false ∧ fw_ ws 106 4 = false ∧ fw_ ws 106 2 = false ∧ True) : KM_ T' := by
  have e0 : ∀ i, T' 102 i 1 = T 102 i 1 := fun i => f 102 i 1 w.1
  have e1 : ∀ i, T' 102 i 0 = T 102 i 0 := fun i => f 102 i 0 w.2.1
  have e2 : ∀ i, T' 106 i 4 = T 106 i 4 := fun i => f 106 i 4 w.2.2.1
  have e3 : ∀ i, T' 106 i 2 = T 106 i 2 := fun i => f 106 i 2 w.2.2.2.1
  simp only [KM_, e0, e1, e2, e3] at h ⊢
  exact h
def KC_ (T : Zt) : Prop := ∀ c : Int, 0 ≤ c → c < T 106 0 2 → T 100 c 7 + T 100 c 8 ≤ T 106 0 4
theorem KC__f {ws : List (Nat × List Int)} {T T' : Zt} (h : KC_ T) (f : fr_ ws T T') (w : fw_ ws 100 7 = false ∧ fw_ ws 100 8 = false ∧ fw_ ws 106 4 = false ∧ fw_ ws 106 2 = false ∧ True) : KC_ T' := by
  have e0 : ∀ i, T' 100 i 7 = T 100 i 7 := fun i => f 100 i 7 w.1
  have e1 : ∀ i, T' 100 i 8 = T 100 i 8 := fun i => f 100 i 8 w.2.1
  have e2 : ∀ i, T' 106 i 4 = T 106 i 4 := fun i => f 106 i 4 w.2.2.1
  have e3 : ∀ i, T' 106 i 2 = T 106 i 2 := fun i => f 106 i 2 w.2.2.2.1
  simp only [KC_, e0, e1, e2, e3] at h ⊢
  exact h
def KR_ (T : Zt) : Prop := ∀ c : Int, 0 ≤ c → c < T 106 0 2 → 1 ≤ T 401 c 9 ∧ T 401 c 9 ≤ 6
theorem KR__f {ws : List (Nat × List Int)} {T T' : Zt} (h : KR_ T) (f : fr_ ws T T') (w : (∀ j, fw_ ws 401 j = false) ∧ fw_ ws 106 2 = false ∧ True) : KR_ T' := by
  have e0 : ∀ i j, T' 401 i j = T 401 i j := fun i j => f 401 i j (w.1 j)
  have e1 : ∀ i, T' 106 i 2 = T 106 i 2 := fun i => f 106 i 2 w.2.1
  simp only [KR_, e0, e1] at h ⊢
  exact h
abbrev cX6_shareClub : ByteArray := prog_8_method_9_code
def yX6_shareClub : MethodName := ⟨RX6, "shareClub", "(LSportsHouse$Match;LSportsHouse$Match;)Z"⟩
def zX6_shareClub : Zm := (RX6, cX6_shareClub, 2, (some .boolean), { frames := 1, cells := 0, slots := 0, locals := 21 })
set_option maxRecDepth 100000 in
theorem cl_X6_88 : cv_ RX6 88 yX2_has zX2_has 2 1 := ⟨gi_V (lwq_4 (dqc_m (dqc_m (dqa_m (List.mem_of_getElem? (i := 1) rfl)))) rfl : Cond.methodLink RX6 88 yX2_has ∈ lw_g) (lwq_4 (dqc_m (dqc_m (dqa_m (List.mem_of_getElem? (i := 2) rfl)))) rfl : Cond.instanceMethod yX2_has ∈ lw_g) (lwq_4 (dqc_m (dqc_m (dqa_m (List.mem_of_getElem? (i := 3) rfl)))) rfl : Cond.selects yX2_has.cls yX2_has yX2_has ∈ lw_g) (lwq_1 (dqa_m (dqa_m (List.mem_of_getElem? (i := 0) rfl))) rfl : Cond.initialized yX2_has.cls ∈ lw_g) (lwq_4 (dqc_m (dqc_m (dqa_m (List.mem_of_getElem? (i := 4) rfl)))) rfl : Cond.code yX2_has cX2_has 2 (some .boolean) ∈ lw_g), ⟨nmh_10.1, nmh_10.2, pdq_7⟩, ⟨_, _, rfl⟩⟩
abbrev cX6_countBreaks : ByteArray := prog_8_method_5_code
def yX6_countBreaks : MethodName := ⟨RX6, "countBreaks", "(LSportsHouse$Competition;I)I"⟩
def zX6_countBreaks : Zm := (RX6, cX6_countBreaks, 9, (some .int), { frames := 1, cells := 0, slots := 0, locals := 21 })
abbrev cX6_listAhead : ByteArray := prog_8_method_16_code
def yX6_listAhead : MethodName := ⟨RX6, "listAhead", "(ILSportsHouse$Match;)I"⟩
def zX6_listAhead : Zm := (RX6, cX6_listAhead, 8, (some .int), { frames := 2, cells := 0, slots := 0, locals := 40 })
set_option maxRecDepth 100000 in
theorem cl_X6_195 : cv_ RX6 195 yX2_isDecided zX2_isDecided 2 0 := ⟨gi_V (lwq_4 (dqc_m (dqc_m (dqc_m (dqc_m (dqa_m (dqa_m (dqa_m (List.mem_of_getElem? (i := 2) rfl)))))))) rfl : Cond.methodLink RX6 195 yX2_isDecided ∈ lw_g) (lwq_4 (dqc_m (dqc_m (dqc_m (dqc_m (dqa_m (dqa_m (dqa_m (List.mem_of_getElem? (i := 3) rfl)))))))) rfl : Cond.instanceMethod yX2_isDecided ∈ lw_g) (lwq_4 (dqc_m (dqc_m (dqc_m (dqc_m (dqa_m (dqa_m (dqa_m (List.mem_of_getElem? (i := 4) rfl)))))))) rfl : Cond.selects yX2_isDecided.cls yX2_isDecided yX2_isDecided ∈ lw_g) (lwq_1 (dqa_m (dqa_m (List.mem_of_getElem? (i := 0) rfl))) rfl : Cond.initialized yX2_isDecided.cls ∈ lw_g) (lwq_4 (dqc_m (dqc_m (dqc_m (dqc_m (dqa_m (dqa_m (dqa_m (List.mem_of_getElem? (i := 5) rfl)))))))) rfl : Cond.code yX2_isDecided cX2_isDecided 1 (some .boolean) ∈ lw_g), ⟨nmh_10.1, nmh_10.2, pdq_18⟩, ⟨_, _, rfl⟩⟩
set_option maxRecDepth 100000 in
theorem cl_X6_165 : cv_ RX6 165 yX8_clubOn zX8_clubOn 8 2 := ⟨gi_V (lwq_4 (dqc_m (dqc_m (dqc_m (dqc_m (dqa_m (List.mem_of_getElem? (i := 6) rfl)))))) rfl : Cond.methodLink RX6 165 yX8_clubOn ∈ lw_g) (lwq_4 (dqc_m (dqc_m (dqc_m (dqc_m (dqa_m (List.mem_of_getElem? (i := 7) rfl)))))) rfl : Cond.instanceMethod yX8_clubOn ∈ lw_g) (lwq_4 (dqc_m (dqc_m (dqc_m (dqc_m (dqa_m (dqa_m (List.mem_of_getElem? (i := 0) rfl))))))) rfl : Cond.selects yX8_clubOn.cls yX8_clubOn yX8_clubOn ∈ lw_g) (lwq_1 (List.mem_of_getElem? (i := 3) rfl) rfl : Cond.initialized yX8_clubOn.cls ∈ lw_g) (lwq_4 (dqc_m (dqc_m (dqc_m (dqc_m (dqa_m (dqa_m (List.mem_of_getElem? (i := 1) rfl))))))) rfl : Cond.code yX8_clubOn cX8_clubOn 5 (some .int) ∈ lw_g), ⟨nmh_9.1, nmh_9.2, pdq_4⟩, ⟨_, _, rfl⟩⟩
abbrev cX6_isBanned : ByteArray := prog_8_method_15_code
def yX6_isBanned : MethodName := ⟨RX6, "isBanned", "(ILSportsHouse$Match;)Z"⟩
def zX6_isBanned : Zm := (RX6, cX6_isBanned, 11, (some .boolean), { frames := 3, cells := 0, slots := 0, locals := 67 })
set_option maxRecDepth 100000 in
theorem cl_X6_172 : cv_ RX6 172 yX2_placeOf zX2_placeOf 2 1 := ⟨gi_V (lwq_4 (dqc_m (dqc_m (dqc_m (dqc_m (dqa_m (dqa_m (dqa_m (List.mem_of_getElem? (i := 7) rfl)))))))) rfl : Cond.methodLink RX6 172 yX2_placeOf ∈ lw_g) (lwq_4 (dqc_m (dqc_m (dqc_m (dqc_m (dqc_m (List.mem_of_getElem? (i := 0) rfl)))))) rfl : Cond.instanceMethod yX2_placeOf ∈ lw_g) (lwq_4 (dqc_m (dqc_m (dqc_m (dqc_m (dqc_m (List.mem_of_getElem? (i := 1) rfl)))))) rfl : Cond.selects yX2_placeOf.cls yX2_placeOf yX2_placeOf ∈ lw_g) (lwq_1 (dqa_m (dqa_m (List.mem_of_getElem? (i := 0) rfl))) rfl : Cond.initialized yX2_placeOf.cls ∈ lw_g) (lwq_4 (dqc_m (dqc_m (dqc_m (dqc_m (dqc_m (List.mem_of_getElem? (i := 2) rfl)))))) rfl : Cond.code yX2_placeOf cX2_placeOf 4 (some .int) ∈ lw_g), ⟨nmh_10.1, nmh_10.2, pdq_15⟩, ⟨_, _, rfl⟩⟩
set_option maxRecDepth 100000 in
theorem cl_X6_187 : cv_ RX6 187 yX3_isSentOff zX3_isSentOff 3 1 := ⟨gi_V (lwq_4 (dqc_m (dqc_m (dqc_m (dqc_m (dqc_m (List.mem_of_getElem? (i := 3) rfl)))))) rfl : Cond.methodLink RX6 187 yX3_isSentOff ∈ lw_g) (lwq_4 (dqc_m (dqc_m (dqc_m (dqc_m (dqc_m (List.mem_of_getElem? (i := 4) rfl)))))) rfl : Cond.instanceMethod yX3_isSentOff ∈ lw_g) (lwq_4 (dqc_m (dqc_m (dqc_m (dqc_m (dqc_m (List.mem_of_getElem? (i := 5) rfl)))))) rfl : Cond.selects yX3_isSentOff.cls yX3_isSentOff yX3_isSentOff ∈ lw_g) (lwq_1 (dqa_m (dqa_m (List.mem_of_getElem? (i := 2) rfl))) rfl : Cond.initialized yX3_isSentOff.cls ∈ lw_g) (lwq_4 (dqc_m (dqc_m (dqc_m (dqc_m (dqc_m (List.mem_of_getElem? (i := 6) rfl)))))) rfl : Cond.code yX3_isSentOff cX3_isSentOff 2 (some .boolean) ∈ lw_g), ⟨nmh_3.1, nmh_3.2, pdq_7⟩, ⟨_, _, rfl⟩⟩
set_option maxRecDepth 100000 in
theorem cl_X6_175 : cv_ RX6 175 yX6_listAhead zX6_listAhead 6 2 := ⟨gi_V (lwq_4 (dqc_m (dqc_m (dqc_m (dqc_m (dqa_m (dqa_m (List.mem_of_getElem? (i := 6) rfl))))))) rfl : Cond.methodLink RX6 175 yX6_listAhead ∈ lw_g) (lwq_4 (dqc_m (dqc_m (dqc_m (dqc_m (dqa_m (dqa_m (dqa_m (List.mem_of_getElem? (i := 0) rfl)))))))) rfl : Cond.instanceMethod yX6_listAhead ∈ lw_g) (lw_sel 125 rfl : Cond.selects yX6_listAhead.cls yX6_listAhead yX6_listAhead ∈ lw_g) (lwq_1 (List.mem_of_getElem? (i := 4) rfl) rfl : Cond.initialized yX6_listAhead.cls ∈ lw_g) (lwq_4 (dqc_m (dqc_m (dqc_m (dqc_m (dqa_m (dqa_m (dqa_m (List.mem_of_getElem? (i := 1) rfl)))))))) rfl : Cond.code yX6_listAhead cX6_listAhead 8 (some .int) ∈ lw_g), ⟨nmh_6.1, nmh_6.2, pdq_21⟩, ⟨_, _, rfl⟩⟩
abbrev cX6_whyNot : ByteArray := prog_8_method_14_code
def yX6_whyNot : MethodName := ⟨RX6, "whyNot", "(ILSportsHouse$Match;I)I"⟩
def zX6_whyNot : Zm := (RX6, cX6_whyNot, 6, (some .int), { frames := 4, cells := 0, slots := 0, locals := 97 })
set_option maxRecDepth 100000 in
theorem cl_X6_168 : cv_ RX6 168 yX6_isBanned zX6_isBanned 6 2 := ⟨gi_V (lwq_4 (dqc_m (dqc_m (dqc_m (dqc_m (dqa_m (dqa_m (List.mem_of_getElem? (i := 2) rfl))))))) rfl : Cond.methodLink RX6 168 yX6_isBanned ∈ lw_g) (lwq_4 (dqc_m (dqc_m (dqc_m (dqc_m (dqa_m (dqa_m (List.mem_of_getElem? (i := 4) rfl))))))) rfl : Cond.instanceMethod yX6_isBanned ∈ lw_g) (lw_sel 123 rfl : Cond.selects yX6_isBanned.cls yX6_isBanned yX6_isBanned ∈ lw_g) (lwq_1 (List.mem_of_getElem? (i := 4) rfl) rfl : Cond.initialized yX6_isBanned.cls ∈ lw_g) (lwq_4 (dqc_m (dqc_m (dqc_m (dqc_m (dqa_m (dqa_m (List.mem_of_getElem? (i := 5) rfl))))))) rfl : Cond.code yX6_isBanned cX6_isBanned 11 (some .boolean) ∈ lw_g), ⟨nmh_6.1, nmh_6.2, pdq_22⟩, ⟨_, _, rfl⟩⟩
abbrev cX10_eligible : ByteArray := prog_1_method_19_code
def yX10_eligible : MethodName := ⟨RX10, "eligible", "(III)I"⟩
def zX10_eligible : Zm := (RX10, cX10_eligible, 4, (some .int), { frames := 5, cells := 0, slots := 0, locals := 122 })
set_option maxRecDepth 100000 in
theorem cl_X10_251 : cs_ RX10 251 yX10_isSide zX10_isSide 1 := ⟨gi_S (lwq_4 (dqc_m (dqc_m (dqc_m (dqc_m (List.mem_of_getElem? (i := 7) rfl))))) rfl : Cond.methodLink RX10 251 yX10_isSide ∈ lw_g) (lwq_4 (dqc_m (dqc_m (dqc_m (dqc_m (dqa_m (List.mem_of_getElem? (i := 0) rfl)))))) rfl : Cond.static yX10_isSide ∈ lw_g) (lwq_1 (List.mem_of_getElem? (i := 1) rfl) rfl : Cond.initialized yX10_isSide.cls ∈ lw_g) (lwq_4 (dqc_m (dqc_m (dqc_m (dqc_m (dqa_m (List.mem_of_getElem? (i := 1) rfl)))))) rfl : Cond.code yX10_isSide cX10_isSide 1 (some .boolean) ∈ lw_g), ⟨by decide, by decide, by decide +kernel⟩⟩
set_option maxRecDepth 100000 in
theorem cl_X10_254 : cv_ RX10 254 yX6_whyNot zX6_whyNot 6 3 := ⟨gi_V (lwq_4 (dqc_m (dqc_m (dqc_m (dqc_m (dqa_m (List.mem_of_getElem? (i := 2) rfl)))))) rfl : Cond.methodLink RX10 254 yX6_whyNot ∈ lw_g) (lwq_4 (dqc_m (dqc_m (dqc_m (dqc_m (dqa_m (List.mem_of_getElem? (i := 3) rfl)))))) rfl : Cond.instanceMethod yX6_whyNot ∈ lw_g) (lwq_4 (dqc_m (dqc_m (dqc_m (dqc_m (dqa_m (List.mem_of_getElem? (i := 4) rfl)))))) rfl : Cond.selects yX6_whyNot.cls yX6_whyNot yX6_whyNot ∈ lw_g) (lwq_1 (List.mem_of_getElem? (i := 4) rfl) rfl : Cond.initialized yX6_whyNot.cls ∈ lw_g) (lwq_4 (dqc_m (dqc_m (dqc_m (dqc_m (dqa_m (List.mem_of_getElem? (i := 5) rfl)))))) rfl : Cond.code yX6_whyNot cX6_whyNot 6 (some .int) ∈ lw_g), ⟨nmh_6.1, nmh_6.2, pdq_23⟩, ⟨_, _, rfl⟩⟩
abbrev po_X10_eligible (T : Zt) (q m d : Int) : Zt → Option Zv → Prop := fun T' r => ∃ x : Int, r = some (vI x) ∧ fr_ [(533, [])] T T' ∧ (x = x)
abbrev cX10_match : ByteArray := prog_1_method_14_code
def yX10_match : MethodName := ⟨RX10, "match", "(II)I"⟩
def zX10_match : Zm := (RX10, cX10_match, 4, (some .int), { frames := 2, cells := 0, slots := 0, locals := 42 })
theorem ds_X10_match_22 : decode cX10_match 22 = .ok (.tableswitch 91 0 7 #[46, 54, 59, 64, 69, 74, 79, 85], 46) := by decide +kernel
set_option maxRecDepth 100000 in
theorem cl_X10_223 : cv_ RX10 223 yX2_phaseOfLife zX2_phaseOfLife 2 0 := ⟨gi_V (lwq_4 (dqc_m (dqa_m (dqa_m (dqa_m (List.mem_of_getElem? (i := 1) rfl))))) rfl : Cond.methodLink RX10 223 yX2_phaseOfLife ∈ lw_g) (lwq_4 (dqc_m (dqa_m (dqa_m (dqa_m (List.mem_of_getElem? (i := 2) rfl))))) rfl : Cond.instanceMethod yX2_phaseOfLife ∈ lw_g) (lwq_4 (dqc_m (dqa_m (dqa_m (dqa_m (List.mem_of_getElem? (i := 3) rfl))))) rfl : Cond.selects yX2_phaseOfLife.cls yX2_phaseOfLife yX2_phaseOfLife ∈ lw_g) (lwq_1 (dqa_m (dqa_m (List.mem_of_getElem? (i := 0) rfl))) rfl : Cond.initialized yX2_phaseOfLife.cls ∈ lw_g) (lwq_4 (dqc_m (dqa_m (dqa_m (dqa_m (List.mem_of_getElem? (i := 4) rfl))))) rfl : Cond.code yX2_phaseOfLife cX2_phaseOfLife 1 (some .int) ∈ lw_g), ⟨nmh_10.1, nmh_10.2, pdq_17⟩, ⟨_, _, rfl⟩⟩
set_option maxRecDepth 100000 in
theorem cl_X10_226 : cv_ RX10 226 yX2_scoreOf zX2_scoreOf 2 1 := ⟨gi_V (lwq_4 (dqc_m (dqa_m (dqa_m (dqa_m (List.mem_of_getElem? (i := 5) rfl))))) rfl : Cond.methodLink RX10 226 yX2_scoreOf ∈ lw_g) (lwq_4 (dqc_m (dqa_m (dqa_m (dqa_m (List.mem_of_getElem? (i := 6) rfl))))) rfl : Cond.instanceMethod yX2_scoreOf ∈ lw_g) (lwq_4 (dqc_m (dqa_m (dqa_m (dqa_m (List.mem_of_getElem? (i := 7) rfl))))) rfl : Cond.selects yX2_scoreOf.cls yX2_scoreOf yX2_scoreOf ∈ lw_g) (lwq_1 (dqa_m (dqa_m (List.mem_of_getElem? (i := 0) rfl))) rfl : Cond.initialized yX2_scoreOf.cls ∈ lw_g) (lwq_4 (dqc_m (dqc_m (List.mem_of_getElem? (i := 0) rfl))) rfl : Cond.code yX2_scoreOf cX2_scoreOf 2 (some .int) ∈ lw_g), ⟨nmh_10.1, nmh_10.2, pdq_15⟩, ⟨_, _, rfl⟩⟩
abbrev cX10_walkOver : ByteArray := prog_1_method_22_code
def yX10_walkOver : MethodName := ⟨RX10, "walkOver", "(II)I"⟩
def zX10_walkOver : Zm := (RX10, cX10_walkOver, 4, (some .int), { frames := 2, cells := 0, slots := 0, locals := 42 })
abbrev cX10_rows : ByteArray := prog_1_method_25_code
def yX10_rows : MethodName := ⟨RX10, "rows", "(II)I"⟩
def zX10_rows : Zm := (RX10, cX10_rows, 4, (some .int), { frames := 2, cells := 0, slots := 0, locals := 42 })
abbrev cX10_state : ByteArray := prog_1_method_27_code
def yX10_state : MethodName := ⟨RX10, "state", "(II)I"⟩
def zX10_state : Zm := (RX10, cX10_state, 4, (some .int), { frames := 2, cells := 0, slots := 0, locals := 42 })
theorem ds_X10_state_45 : decode cX10_state 45 = .ok (.tableswitch 67 0 5 #[39, 44, 44, 53, 53, 62], 39) := by decide +kernel
abbrev cX10_onField : ByteArray := prog_1_method_28_code
def yX10_onField : MethodName := ⟨RX10, "onField", "(III)I"⟩
def zX10_onField : Zm := (RX10, cX10_onField, 5, (some .int), { frames := 2, cells := 0, slots := 0, locals := 42 })
set_option maxRecDepth 100000 in
theorem cl_X10_346 : cv_ RX10 346 yX3_personAt zX3_personAt 3 2 := ⟨gi_V (lwq_5 (dqc_m (dqc_m (dqc_m (dqc_m (dqc_m (dqc_m (List.mem_of_getElem? (i := 3) rfl))))))) rfl : Cond.methodLink RX10 346 yX3_personAt ∈ lw_g) (lwq_5 (dqc_m (dqa_m (dqa_m (List.mem_of_getElem? (i := 1) rfl)))) rfl : Cond.instanceMethod yX3_personAt ∈ lw_g) (lwq_5 (dqc_m (dqa_m (dqa_m (List.mem_of_getElem? (i := 2) rfl)))) rfl : Cond.selects yX3_personAt.cls yX3_personAt yX3_personAt ∈ lw_g) (lwq_1 (dqa_m (dqa_m (List.mem_of_getElem? (i := 2) rfl))) rfl : Cond.initialized yX3_personAt.cls ∈ lw_g) (lwq_5 (dqc_m (dqa_m (dqa_m (List.mem_of_getElem? (i := 3) rfl)))) rfl : Cond.code yX3_personAt cX3_personAt 3 (some .int) ∈ lw_g), ⟨nmh_3.1, nmh_3.2, pdq_4⟩, ⟨_, _, rfl⟩⟩
abbrev cX10_breaks : ByteArray := prog_1_method_15_code
def yX10_breaks : MethodName := ⟨RX10, "breaks", "(II)I"⟩
def zX10_breaks : Zm := (RX10, cX10_breaks, 4, (some .int), { frames := 2, cells := 0, slots := 0, locals := 49 })
set_option maxRecDepth 100000 in
theorem cl_X10_230 : cv_ RX10 230 yX6_countBreaks zX6_countBreaks 6 2 := ⟨gi_V (lwq_4 (dqc_m (dqc_m (List.mem_of_getElem? (i := 5) rfl))) rfl : Cond.methodLink RX10 230 yX6_countBreaks ∈ lw_g) (lwq_4 (dqc_m (dqc_m (List.mem_of_getElem? (i := 6) rfl))) rfl : Cond.instanceMethod yX6_countBreaks ∈ lw_g) (lwq_4 (dqc_m (dqc_m (List.mem_of_getElem? (i := 7) rfl))) rfl : Cond.selects yX6_countBreaks.cls yX6_countBreaks yX6_countBreaks ∈ lw_g) (lwq_1 (List.mem_of_getElem? (i := 4) rfl) rfl : Cond.initialized yX6_countBreaks.cls ∈ lw_g) (lwq_4 (dqc_m (dqc_m (dqa_m (List.mem_of_getElem? (i := 0) rfl)))) rfl : Cond.code yX6_countBreaks cX6_countBreaks 9 (some .int) ∈ lw_g), ⟨nmh_6.1, nmh_6.2, pdq_24⟩, ⟨_, _, rfl⟩⟩
abbrev cX6_standAgainst : ByteArray := prog_8_method_8_code
def yX6_standAgainst : MethodName := ⟨RX6, "standAgainst", "(LSportsHouse$Match;LSportsHouse$Match;)Z"⟩
def zX6_standAgainst : Zm := (RX6, cX6_standAgainst, 4, (some .boolean), { frames := 2, cells := 0, slots := 0, locals := 42 })
set_option maxRecDepth 100000 in
theorem cl_X6_133 : cv_ RX6 133 yX2_rest zX2_rest 2 0 := ⟨gi_V (lwq_4 (dqc_m (dqc_m (dqc_m (List.mem_of_getElem? (i := 0) rfl)))) rfl : Cond.methodLink RX6 133 yX2_rest ∈ lw_g) (lwq_4 (dqc_m (dqc_m (dqc_m (List.mem_of_getElem? (i := 1) rfl)))) rfl : Cond.instanceMethod yX2_rest ∈ lw_g) (lwq_4 (dqc_m (dqc_m (dqc_m (List.mem_of_getElem? (i := 2) rfl)))) rfl : Cond.selects yX2_rest.cls yX2_rest yX2_rest ∈ lw_g) (lwq_1 (dqa_m (dqa_m (List.mem_of_getElem? (i := 0) rfl))) rfl : Cond.initialized yX2_rest.cls ∈ lw_g) (lwq_4 (dqc_m (dqc_m (dqc_m (List.mem_of_getElem? (i := 3) rfl)))) rfl : Cond.code yX2_rest cX2_rest 1 (some .int) ∈ lw_g), ⟨nmh_10.1, nmh_10.2, pdq_17⟩, ⟨_, _, rfl⟩⟩
set_option maxRecDepth 100000 in
theorem cl_X6_140 : cs_ RX6 140 yX6_shareClub zX6_shareClub 2 := ⟨gi_S (lwq_4 (dqc_m (dqc_m (dqc_m (List.mem_of_getElem? (i := 7) rfl)))) rfl : Cond.methodLink RX6 140 yX6_shareClub ∈ lw_g) (lwq_4 (dqc_m (dqc_m (dqc_m (dqa_m (List.mem_of_getElem? (i := 0) rfl))))) rfl : Cond.static yX6_shareClub ∈ lw_g) (lwq_1 (List.mem_of_getElem? (i := 4) rfl) rfl : Cond.initialized yX6_shareClub.cls ∈ lw_g) (lwq_4 (dqc_m (dqc_m (dqc_m (dqa_m (List.mem_of_getElem? (i := 1) rfl))))) rfl : Cond.code yX6_shareClub cX6_shareClub 2 (some .boolean) ∈ lw_g), ⟨by decide, by decide, by decide +kernel⟩⟩
abbrev cX6_listAgainst : ByteArray := prog_8_method_7_code
def yX6_listAgainst : MethodName := ⟨RX6, "listAgainst", "(LSportsHouse$Match;)I"⟩
def zX6_listAgainst : Zm := (RX6, cX6_listAgainst, 5, (some .int), { frames := 3, cells := 0, slots := 0, locals := 65 })
set_option maxRecDepth 100000 in
theorem cl_X6_112 : cv_ RX6 112 yX6_standAgainst zX6_standAgainst 6 2 := ⟨gi_V (lwq_4 (dqc_m (dqc_m (dqa_m (dqa_m (dqa_m (List.mem_of_getElem? (i := 1) rfl)))))) rfl : Cond.methodLink RX6 112 yX6_standAgainst ∈ lw_g) (lwq_4 (dqc_m (dqc_m (dqa_m (dqa_m (dqa_m (List.mem_of_getElem? (i := 3) rfl)))))) rfl : Cond.instanceMethod yX6_standAgainst ∈ lw_g) (lw_sel 126 rfl : Cond.selects yX6_standAgainst.cls yX6_standAgainst yX6_standAgainst ∈ lw_g) (lwq_1 (List.mem_of_getElem? (i := 4) rfl) rfl : Cond.initialized yX6_standAgainst.cls ∈ lw_g) (lwq_4 (dqc_m (dqc_m (dqa_m (dqa_m (dqa_m (List.mem_of_getElem? (i := 4) rfl)))))) rfl : Cond.code yX6_standAgainst cX6_standAgainst 4 (some .boolean) ∈ lw_g), ⟨nmh_6.1, nmh_6.2, pdq_25⟩, ⟨_, _, rfl⟩⟩
set_option maxRecDepth 100000 in
theorem cl_X6_116 : cv_ RX6 116 yX2_phaseOfLife zX2_phaseOfLife 2 0 := ⟨gi_V (lwq_4 (dqc_m (dqc_m (dqc_m (dqa_m (List.mem_of_getElem? (i := 2) rfl))))) rfl : Cond.methodLink RX6 116 yX2_phaseOfLife ∈ lw_g) (lwq_4 (dqc_m (dqa_m (dqa_m (dqa_m (List.mem_of_getElem? (i := 2) rfl))))) rfl : Cond.instanceMethod yX2_phaseOfLife ∈ lw_g) (lwq_4 (dqc_m (dqa_m (dqa_m (dqa_m (List.mem_of_getElem? (i := 3) rfl))))) rfl : Cond.selects yX2_phaseOfLife.cls yX2_phaseOfLife yX2_phaseOfLife ∈ lw_g) (lwq_1 (dqa_m (dqa_m (List.mem_of_getElem? (i := 0) rfl))) rfl : Cond.initialized yX2_phaseOfLife.cls ∈ lw_g) (lwq_4 (dqc_m (dqa_m (dqa_m (dqa_m (List.mem_of_getElem? (i := 4) rfl))))) rfl : Cond.code yX2_phaseOfLife cX2_phaseOfLife 1 (some .int) ∈ lw_g), ⟨nmh_10.1, nmh_10.2, pdq_17⟩, ⟨_, _, rfl⟩⟩
abbrev po_J7_fill_535 (T : Zt) (p : Int) (v : Int) : Zt → Option Zv → Prop := fun T' r => r = none ∧ fr_ [(535, [])] T T' ∧ oi_ T T' p ∧ ∀ j, 0 ≤ j → j < 1000 → T' 535 p j = v
set_option maxHeartbeats 4000000 in
theorem ct_J7_fill_535 {T : Zt} {p : Int} {v : Int} (h1 : 0 ≤ v ∧ v ≤ 1) : Ct_ yJ7_fill_53178 zJ7_fill_53178 T [vR 535 p, vI v] (po_J7_fill_535 T p v) := by
  refine ct_of (by decide) rfl rfl (Nat.le_of_ble_eq_true rfl) (fun hT hav => ?_)
  have hr_v : -2147483648 ≤ v ∧ v ≤ 2147483647 := hav (vI v) (List.mem_cons_of_mem _ List.mem_cons_self)
  have hz : zJ7_fill_53178.2.2.2.1 = some .boolean → ∀ (T' : Zt) (x : Int), po_J7_fill_535 T p v T' (some (vI x)) → 0 ≤ x ∧ x ≤ 1 := fun h => by cases h
  show J_ zJ7_fill_53178 T (po_J7_fill_535 T p v) 0 0 0 [some (vR 535 p), some (vI v), none, none] [] T
  have c_5 : ∀ (nn : Nat) (j : Int) (T1 : Zt), ((1000 - j).toNat) ≤ nn → (fr_ [(535, [])] T T1) → (0 ≤ j ∧ j ≤ 1000) → (oi_ T T1 p) → (∀ q, 0 ≤ q → q < j → T1 535 p q = v) → J_ zJ7_fill_53178 T (po_J7_fill_535 T p v) 0 0 5 [some (vR 535 p), some (vI v), some (vI j), some (vI 1000)] [] T1 := by
    intro nn
    induction nn using Nat.strongRecOn with
    | _ nn ih_5 =>
      intro j T1 hm_5 hf_5 i1 o1 f1
      replace hm_5 := fun (_ : Unit) => hm_5
      refine j_blx (F := fJ7) tb_J7 (nn_ _) bk_J7_fill_53178_5 bs_J7_fill_53178_5 hz (fun K hK => ?_)
      refine And.intro (fun c1 => ?_) (fun c1 => ?_)
      · refine hK 20 _ [] T1 ?_
        refine j_blx (F := fJ7) tb_J7 (nn_ _) bk_J7_fill_53178_20 bs_J7_fill_53178_20 hz (fun K hK => ?_)
        refine (show po_J7_fill_535 T p v T1 (none) from ?_)
        exact ⟨rfl, fr_t (fr_0 _ _) (fr_s hf_5 rfl), o1, fun q a b => f1 q a (by omega)⟩
      · refine iy_i (by omega) (by omega) ?_
        refine x_nm (fun U2 hU2 => ?_)
        have e3 := up_f hU2
        refine rg_i (by omega) ?_
        refine hK 5 [some (vR 535 p), some (vI v), some (vI (j + 1)), some (vI 1000)] [] U2 ?_
        refine ih_5 _ ?_ (j + 1) U2 (Nat.le_refl _) ?_ ?_ ?_ ?_
        · have hm_5 := hm_5 (); omega
        · exact fr_u (fr_t (fr_0 _ _) (fr_s hf_5 rfl)) hU2 rfl
        · omega
        · exact oi_u o1 hU2
        · intro q a b
          by_cases z : q = j
          · rw [z]; exact up_f hU2
          · rw [up_g hU2 (fun y => z y.2.2)]; exact f1 q a (by omega)
  refine j_blx (F := fJ7) tb_J7 (nn_ _) bk_J7_fill_53178_0 bs_J7_fill_53178_0 hz (fun K hK => ?_)
  refine hK 5 [some (vR 535 p), some (vI v), some (vI 0), some (vI 1000)] [] T ?_
  refine c_5 _ 0 T (Nat.le_refl _) ?_ ?_ ?_ ?_
  · exact fr_0 _ _
  · omega
  · exact oi_r
  · intro q a b; omega
abbrev cX6_blockDays : ByteArray := prog_8_method_11_code
def yX6_blockDays : MethodName := ⟨RX6, "blockDays", "(LSportsHouse$Match;)V"⟩
def zX6_blockDays : Zm := (RX6, cX6_blockDays, 7, none, { frames := 2, cells := 0, slots := 0, locals := 42 })
set_option maxRecDepth 100000 in
theorem cl_X6_150 : cs_ RX6 150 yJ7_fill_53178 zJ7_fill_53178 2 := ⟨gi_S (lwq_4 (dqc_m (dqc_m (dqc_m (dqa_m (dqa_m (List.mem_of_getElem? (i := 3) rfl)))))) rfl : Cond.methodLink RX6 150 yJ7_fill_53178 ∈ lw_g) (lwq_2 (dqa_m (dqa_m (dqa_m (List.mem_of_getElem? (i := 2) rfl)))) rfl : Cond.static yJ7_fill_53178 ∈ lw_g) (lwq_1 (List.mem_of_getElem? (i := 7) rfl) rfl : Cond.initialized yJ7_fill_53178.cls ∈ lw_g) (lwq_2 (dqa_m (dqa_m (dqa_m (List.mem_of_getElem? (i := 3) rfl)))) rfl : Cond.code yJ7_fill_53178 cJ7_fill_53178 4 none ∈ lw_g), ⟨by decide, by decide, by decide +kernel⟩⟩
abbrev cX6_goBehind : ByteArray := prog_8_method_10_code
def yX6_goBehind : MethodName := ⟨RX6, "goBehind", "(LSportsHouse$Match;II)Z"⟩
def zX6_goBehind : Zm := (RX6, cX6_goBehind, 5, (some .boolean), { frames := 3, cells := 0, slots := 0, locals := 68 })
set_option maxRecDepth 100000 in
theorem cl_X6_146 : cv_ RX6 146 yX6_blockDays zX6_blockDays 6 1 := ⟨gi_V (lwq_4 (dqc_m (dqc_m (dqc_m (dqa_m (List.mem_of_getElem? (i := 7) rfl))))) rfl : Cond.methodLink RX6 146 yX6_blockDays ∈ lw_g) (lwq_4 (dqc_m (dqc_m (dqc_m (dqa_m (dqa_m (List.mem_of_getElem? (i := 1) rfl)))))) rfl : Cond.instanceMethod yX6_blockDays ∈ lw_g) (lw_sel 121 rfl : Cond.selects yX6_blockDays.cls yX6_blockDays yX6_blockDays ∈ lw_g) (lwq_1 (List.mem_of_getElem? (i := 4) rfl) rfl : Cond.initialized yX6_blockDays.cls ∈ lw_g) (lwq_4 (dqc_m (dqc_m (dqc_m (dqa_m (dqa_m (List.mem_of_getElem? (i := 2) rfl)))))) rfl : Cond.code yX6_blockDays cX6_blockDays 7 none ∈ lw_g), ⟨nmh_6.1, nmh_6.2, pdq_26⟩, ⟨_, _, rfl⟩⟩
abbrev cX6_putOff : ByteArray := prog_8_method_6_code
def yX6_putOff : MethodName := ⟨RX6, "putOff", "(LSportsHouse$Match;I)I"⟩
def zX6_putOff : Zm := (RX6, cX6_putOff, 7, (some .int), { frames := 4, cells := 0, slots := 0, locals := 92 })
set_option maxRecDepth 100000 in
theorem cl_X6_102 : cv_ RX6 102 yX6_goBehind zX6_goBehind 6 3 := ⟨gi_V (lwq_4 (dqc_m (dqc_m (dqc_m (dqa_m (List.mem_of_getElem? (i := 3) rfl))))) rfl : Cond.methodLink RX6 102 yX6_goBehind ∈ lw_g) (lwq_4 (dqc_m (dqc_m (dqc_m (dqa_m (List.mem_of_getElem? (i := 5) rfl))))) rfl : Cond.instanceMethod yX6_goBehind ∈ lw_g) (lw_sel 122 rfl : Cond.selects yX6_goBehind.cls yX6_goBehind yX6_goBehind ∈ lw_g) (lwq_1 (List.mem_of_getElem? (i := 4) rfl) rfl : Cond.initialized yX6_goBehind.cls ∈ lw_g) (lwq_4 (dqc_m (dqc_m (dqc_m (dqa_m (List.mem_of_getElem? (i := 6) rfl))))) rfl : Cond.code yX6_goBehind cX6_goBehind 5 (some .boolean) ∈ lw_g), ⟨nmh_6.1, nmh_6.2, pdq_27⟩, ⟨_, _, rfl⟩⟩
set_option maxRecDepth 100000 in
theorem cl_X6_98 : cv_ RX6 98 yX6_listAgainst zX6_listAgainst 6 1 := ⟨gi_V (lwq_4 (dqc_m (dqc_m (dqa_m (dqa_m (List.mem_of_getElem? (i := 5) rfl))))) rfl : Cond.methodLink RX6 98 yX6_listAgainst ∈ lw_g) (lwq_4 (dqc_m (dqc_m (dqa_m (dqa_m (List.mem_of_getElem? (i := 7) rfl))))) rfl : Cond.instanceMethod yX6_listAgainst ∈ lw_g) (lw_sel 124 rfl : Cond.selects yX6_listAgainst.cls yX6_listAgainst yX6_listAgainst ∈ lw_g) (lwq_1 (List.mem_of_getElem? (i := 4) rfl) rfl : Cond.initialized yX6_listAgainst.cls ∈ lw_g) (lwq_4 (dqc_m (dqc_m (dqa_m (dqa_m (dqa_m (List.mem_of_getElem? (i := 0) rfl)))))) rfl : Cond.code yX6_listAgainst cX6_listAgainst 5 (some .int) ∈ lw_g), ⟨nmh_6.1, nmh_6.2, pdq_28⟩, ⟨_, _, rfl⟩⟩
abbrev cX10_postpone : ByteArray := prog_1_method_16_code
def yX10_postpone : MethodName := ⟨RX10, "postpone", "(II)I"⟩
def zX10_postpone : Zm := (RX10, cX10_postpone, 4, (some .int), { frames := 5, cells := 0, slots := 0, locals := 118 })
set_option maxRecDepth 100000 in
theorem cl_X10_234 : cv_ RX10 234 yX6_putOff zX6_putOff 6 2 := ⟨gi_V (lwq_4 (dqc_m (dqc_m (dqa_m (dqa_m (List.mem_of_getElem? (i := 1) rfl))))) rfl : Cond.methodLink RX10 234 yX6_putOff ∈ lw_g) (lwq_4 (dqc_m (dqc_m (dqa_m (dqa_m (List.mem_of_getElem? (i := 2) rfl))))) rfl : Cond.instanceMethod yX6_putOff ∈ lw_g) (lwq_4 (dqc_m (dqc_m (dqa_m (dqa_m (List.mem_of_getElem? (i := 3) rfl))))) rfl : Cond.selects yX6_putOff.cls yX6_putOff yX6_putOff ∈ lw_g) (lwq_1 (List.mem_of_getElem? (i := 4) rfl) rfl : Cond.initialized yX6_putOff.cls ∈ lw_g) (lwq_4 (dqc_m (dqc_m (dqa_m (dqa_m (List.mem_of_getElem? (i := 4) rfl))))) rfl : Cond.code yX6_putOff cX6_putOff 7 (some .int) ∈ lw_g), ⟨nmh_6.1, nmh_6.2, pdq_29⟩, ⟨_, _, rfl⟩⟩
theorem us_1c {x : Int} : us_ x 1 = x % 4294967296 / 2 := by
  have a : ((Int32.ofInt x).toUInt32.toBitVec).toNat = (x % 4294967296).toNat := by
    show (BitVec.ofInt 32 x).toNat = _
    rw [BitVec.toNat_ofInt]; rfl
  have s : ((Int32.ofInt 1).toUInt32 &&& Int32.toUInt32 31) = 1 := by decide
  unfold us_
  rw [s]
  have b : (((Int32.ofInt x).toUInt32 >>> (1 : UInt32)).toBitVec).toNat = (x % 4294967296).toNat / 2 := by
    show ((Int32.ofInt x).toUInt32.toBitVec >>> (1 : BitVec 32)).toNat = _
    rw [BitVec.ushiftRight_eq', BitVec.toNat_ushiftRight, a]
    show (x % 4294967296).toNat >>> 1 = _
    rw [Nat.shiftRight_eq_div_pow]
  show (((Int32.ofInt x).toUInt32 >>> (1 : UInt32)).toBitVec).toInt = _
  rw [BitVec.toInt_eq_toNat_cond, b]
  split <;> omega
abbrev cX1_openNew : ByteArray := prog_3_method_2_code
def yX1_openNew : MethodName := ⟨RX1, "openNew", "(II)V"⟩
def zX1_openNew : Zm := (RX1, cX1_openNew, 3, none, { frames := 1, cells := 0, slots := 0, locals := 23 })
theorem bk_X1_openNew_0 : ck_ fX1 none cX1_openNew 0 [.aload 0, .iload 1, .tableswitch 1 1 1 #[], .aload 0, .iload 2, .tableswitch 1 1 2 #[], .aload 0, .iconst 0, .tableswitch 1 1 3 #[], .aload 0, .iconst 0, .tableswitch 1 1 4 #[], .aload 0, .iconst 0, .tableswitch 1 1 7 #[], .aload 0, .tableswitch 0 1 8 #[], .iconst (-1)] 30 = true := qck_r (nn_ _) (by decide +kernel)
theorem bs_X1_openNew_0 {P : Zt → Option Zv → Prop} (K : Int → Zl → List Zv → Zt → Prop) : sx_ K P [.aload 0, .iload 1, .tableswitch 1 1 1 #[], .aload 0, .iload 2, .tableswitch 1 1 2 #[], .aload 0, .iconst 0, .tableswitch 1 1 3 #[], .aload 0, .iconst 0, .tableswitch 1 1 4 #[], .aload 0, .iconst 0, .tableswitch 1 1 7 #[], .aload 0, .tableswitch 0 1 8 #[], .iconst (-1)] 30 = x_aload 0 (x_iload 1 (x_p 101 1 0 4 (x_aload 0 (x_iload 2 (x_p 101 2 0 3 (x_aload 0 (x_iconst 0 (x_p 101 3 (-2147483648) 2147483647 (x_aload 0 (x_iconst 0 (x_p 101 4 (-2147483648) 2147483647 (x_aload 0 (x_iconst 0 (x_p 101 7 0 1 (x_aload 0 (x_g1 101 428 (x_iconst (-1) (K 30)))))))))))))))))) := ((xe_aload 0).trans (congrArg (x_aload 0) ((xe_iload 1).trans (congrArg (x_iload 1) ((xe_p (kk := 101) rfl tl_1_1).trans (congrArg (x_p 101 1 0 4) ((xe_aload 0).trans (congrArg (x_aload 0) ((xe_iload 2).trans (congrArg (x_iload 2) ((xe_p (kk := 101) rfl tl_1_2).trans (congrArg (x_p 101 2 0 3) ((xe_aload 0).trans (congrArg (x_aload 0) ((xe_iconst 0).trans (congrArg (x_iconst 0) ((xe_p (kk := 101) rfl tl_1_3).trans (congrArg (x_p 101 3 (-2147483648) 2147483647) ((xe_aload 0).trans (congrArg (x_aload 0) ((xe_iconst 0).trans (congrArg (x_iconst 0) ((xe_p (kk := 101) rfl tl_1_4).trans (congrArg (x_p 101 4 (-2147483648) 2147483647) ((xe_aload 0).trans (congrArg (x_aload 0) ((xe_iconst 0).trans (congrArg (x_iconst 0) ((xe_p (kk := 101) rfl tl_1_7).trans (congrArg (x_p 101 7 0 1) ((xe_aload 0).trans (congrArg (x_aload 0) ((xe_g1 (kk := 101) rfl tl_1_8).trans (congrArg (x_g1 101 428) ((xe_iconst (-1)).trans (congrArg (x_iconst (-1)) xe_nil))))))))))))))))))))))))))))))))))))
set_option maxRecDepth 100000 in
theorem cl_X1_54 : cs_ RX1 54 yJ7_fill_53178 zJ7_fill_53178 2 := ⟨gi_S (lwq_6 (dqc_m (dqc_m (dqc_m (dqc_m (List.mem_of_getElem? (i := 1) rfl))))) rfl : Cond.methodLink RX1 54 yJ7_fill_53178 ∈ lw_g) (lwq_2 (dqa_m (dqa_m (dqa_m (List.mem_of_getElem? (i := 2) rfl)))) rfl : Cond.static yJ7_fill_53178 ∈ lw_g) (lwq_1 (List.mem_of_getElem? (i := 7) rfl) rfl : Cond.initialized yJ7_fill_53178.cls ∈ lw_g) (lwq_2 (dqa_m (dqa_m (dqa_m (List.mem_of_getElem? (i := 3) rfl)))) rfl : Cond.code yJ7_fill_53178 cJ7_fill_53178 4 none ∈ lw_g), ⟨by decide, by decide, by decide +kernel⟩⟩
theorem bk_X1_openNew_33 : ck_ fX1 none cX1_openNew 33 [.aload 0, .tableswitch 0 1 9 #[], .iconst (-1)] 38 = true := qck_r (nn_ _) (by decide +kernel)
theorem bs_X1_openNew_33 {P : Zt → Option Zv → Prop} (K : Int → Zl → List Zv → Zt → Prop) : sx_ K P [.aload 0, .tableswitch 0 1 9 #[], .iconst (-1)] 38 = x_aload 0 (x_g1 101 429 (x_iconst (-1) (K 38))) := ((xe_aload 0).trans (congrArg (x_aload 0) ((xe_g1 (kk := 101) rfl tl_1_9).trans (congrArg (x_g1 101 429) ((xe_iconst (-1)).trans (congrArg (x_iconst (-1)) xe_nil))))))
theorem bk_X1_openNew_41 : ck_ fX1 none cX1_openNew 41 [.aload 0, .tableswitch 0 1 10 #[], .iconst 0] 46 = true := qck_r (nn_ _) (by decide +kernel)
theorem bs_X1_openNew_41 {P : Zt → Option Zv → Prop} (K : Int → Zl → List Zv → Zt → Prop) : sx_ K P [.aload 0, .tableswitch 0 1 10 #[], .iconst 0] 46 = x_aload 0 (x_g1 101 430 (x_iconst 0 (K 46))) := ((xe_aload 0).trans (congrArg (x_aload 0) ((xe_g1 (kk := 101) rfl tl_1_10).trans (congrArg (x_g1 101 430) ((xe_iconst 0).trans (congrArg (x_iconst 0) xe_nil))))))
theorem bk_X1_openNew_49 : ck_ fX1 none cX1_openNew 49 [.return_] 50 = true := qck_r (nn_ _) (by decide +kernel)
theorem bs_X1_openNew_49 {P : Zt → Option Zv → Prop} (K : Int → Zl → List Zv → Zt → Prop) : sx_ K P [.return_] 50 = x_return_ P := (xe_return_)
abbrev po_X1_openNew (T : Zt) (g l : Int) : Zt → Option Zv → Prop := fun T' r => r = none ∧ fr_ [(101, [1, 2, 3, 4, 7]), (428, []), (429, []), (430, [])] T T' ∧ (T' 101 0 1 = g)
set_option maxHeartbeats 4000000 in
theorem ct_X1_openNew {T : Zt} {g l : Int} (h1 : 0 ≤ g ∧ g ≤ 4) (h2 : 0 ≤ l ∧ l ≤ 3) : Ct_ yX1_openNew zX1_openNew T [vR 101 0, vI g, vI l] (po_X1_openNew T g l) := by
  refine ct_of pn_1 rfl rfl (Nat.le_of_ble_eq_true rfl) (fun hT hav => ?_)
  have hr_g : -2147483648 ≤ g ∧ g ≤ 2147483647 := hav (vI g) (List.mem_cons_of_mem _ List.mem_cons_self)
  have hr_l : -2147483648 ≤ l ∧ l ≤ 2147483647 := hav (vI l) (List.mem_cons_of_mem _ (List.mem_cons_of_mem _ List.mem_cons_self))
  have hz : zX1_openNew.2.2.2.1 = some .boolean → ∀ (T' : Zt) (x : Int), po_X1_openNew T g l T' (some (vI x)) → 0 ≤ x ∧ x ≤ 1 := fun h => by cases h
  show J_ zX1_openNew T (po_X1_openNew T g l) 0 0 0 [some (vR 101 0), some (vI g), some (vI l)] [] T
  refine j_blx (F := fX1) tb_X1 (nn_ _) bk_X1_openNew_0 bs_X1_openNew_0 hz (fun K hK => ?_)
  refine bd_i (by omega) ?_
  refine x_nm (fun U1 hU1 => ?_)
  have e2 := up_f hU1
  refine bd_i (by omega) ?_
  refine x_nm (fun U3 hU3 => ?_)
  have e4 := up_f hU3
  refine bd_i (by omega) ?_
  refine x_nm (fun U5 hU5 => ?_)
  have e6 := up_f hU5
  refine bd_i (by omega) ?_
  refine x_nm (fun U7 hU7 => ?_)
  have e8 := up_f hU7
  refine bd_i (by omega) ?_
  refine x_nm (fun U9 hU9 => ?_)
  have e10 := up_f hU9
  refine hK 30 _ [vI (-1), vR 428 0] U9 ?_
  refine j_callS (y := yJ7_fill_53178) (Yc := zJ7_fill_53178) (rest := []) [vR 428 0, vI (-1)] (ct_J7_fill_428 (T := U9) (by omega)) cl_X1_54 (qd_c (by decide +kernel)) (nn_ _) rfl (rf_of rfl) (Nat.le_of_ble_eq_true rfl) (Nat.le_of_ble_eq_true rfl) (Nat.le_of_ble_eq_true rfl) rfl ?_
  rintro U11 _ ⟨rfl, fU11, qU11o, qU11⟩
  show J_ zX1_openNew T (po_X1_openNew T g l) 0 0 33 _ [] U11
  refine j_blx (F := fX1) tb_X1 (nn_ _) bk_X1_openNew_33 bs_X1_openNew_33 hz (fun K hK => ?_)
  refine hK 38 _ [vI (-1), vR 429 0] U11 ?_
  refine j_callS (y := yJ7_fill_53178) (Yc := zJ7_fill_53178) (rest := []) [vR 429 0, vI (-1)] (ct_J7_fill_429 (T := U11) (by omega)) cl_X1_54 (qd_c (by decide +kernel)) (nn_ _) rfl (rf_of rfl) (Nat.le_of_ble_eq_true rfl) (Nat.le_of_ble_eq_true rfl) (Nat.le_of_ble_eq_true rfl) rfl ?_
  rintro U12 _ ⟨rfl, fU12, qU12o, qU12⟩
  show J_ zX1_openNew T (po_X1_openNew T g l) 0 0 41 _ [] U12
  refine j_blx (F := fX1) tb_X1 (nn_ _) bk_X1_openNew_41 bs_X1_openNew_41 hz (fun K hK => ?_)
  refine hK 46 _ [vI 0, vR 430 0] U12 ?_
  refine j_callS (y := yJ7_fill_53178) (Yc := zJ7_fill_53178) (rest := []) [vR 430 0, vI 0] (ct_J7_fill_430 (T := U12) (by omega)) cl_X1_54 (qd_c (by decide +kernel)) (nn_ _) rfl (rf_of rfl) (Nat.le_of_ble_eq_true rfl) (Nat.le_of_ble_eq_true rfl) (Nat.le_of_ble_eq_true rfl) rfl ?_
  rintro U13 _ ⟨rfl, fU13, qU13o, qU13⟩
  show J_ zX1_openNew T (po_X1_openNew T g l) 0 0 49 _ [] U13
  refine j_blx (F := fX1) tb_X1 (nn_ _) bk_X1_openNew_49 bs_X1_openNew_49 hz (fun K hK => ?_)
  refine (show po_X1_openNew T g l U13 (none) from ?_)
  have e14 : U13 101 0 1 = g := (fU13 101 0 1 rfl).trans ((fU12 101 0 1 rfl).trans ((fU11 101 0 1 rfl).trans ((up_j hU9 (by exact ni_ rfl) 101 0).trans ((up_j hU7 (by exact ni_ rfl) 101 0).trans ((up_j hU5 (by exact ni_ rfl) 101 0).trans ((up_j hU3 (by exact ni_ rfl) 101 0).trans (up_f hU1)))))))
  exact ⟨rfl, fr_t (fr_t (fr_t (fr_u (fr_u (fr_u (fr_u (fr_u (fr_0 _ _) hU1 rfl) hU3 rfl) hU5 rfl) hU7 rfl) hU9 rfl) (fr_s fU11 rfl)) (fr_s fU12 rfl)) (fr_s fU13 rfl), by omega⟩
abbrev cX10_drawing : ByteArray := prog_1_method_36_code
def yX10_drawing : MethodName := ⟨RX10, "drawing", "(II)I"⟩
def zX10_drawing : Zm := (RX10, cX10_drawing, 3, (some .int), { frames := 2, cells := 0, slots := 0, locals := 45 })
theorem bk_X10_drawing_0 : ck_ fX10 (some .int) cX10_drawing 0 [.iload 1, .iconst 1, .if_icmp .lt 20, .iload 1, .iconst 4, .if_icmp .gt 20, .iload 2, .iconst 1, .if_icmp .lt 20, .iload 2, .iconst 3, .if_icmp .le 23, .iconst (-3), .ireturn] 23 = true := qck_r (nn_ _) (by decide +kernel)
theorem bs_X10_drawing_0 {P : Zt → Option Zv → Prop} (K : Int → Zl → List Zv → Zt → Prop) : sx_ K P [.iload 1, .iconst 1, .if_icmp .lt 20, .iload 1, .iconst 4, .if_icmp .gt 20, .iload 2, .iconst 1, .if_icmp .lt 20, .iload 2, .iconst 3, .if_icmp .le 23, .iconst (-3), .ireturn] 23 = x_iload 1 (x_iconst 1 (x_if_icmp .lt 20 K (x_iload 1 (x_iconst 4 (x_if_icmp .gt 20 K (x_iload 2 (x_iconst 1 (x_if_icmp .lt 20 K (x_iload 2 (x_iconst 3 (x_if_icmp .le 23 K (x_iconst (-3) (x_ireturn P))))))))))))) := ((xe_iload 1).trans (congrArg (x_iload 1) ((xe_iconst 1).trans (congrArg (x_iconst 1) ((xe_if_icmp .lt 20).trans (congrArg (x_if_icmp .lt 20 K) ((xe_iload 1).trans (congrArg (x_iload 1) ((xe_iconst 4).trans (congrArg (x_iconst 4) ((xe_if_icmp .gt 20).trans (congrArg (x_if_icmp .gt 20 K) ((xe_iload 2).trans (congrArg (x_iload 2) ((xe_iconst 1).trans (congrArg (x_iconst 1) ((xe_if_icmp .lt 20).trans (congrArg (x_if_icmp .lt 20 K) ((xe_iload 2).trans (congrArg (x_iload 2) ((xe_iconst 3).trans (congrArg (x_iconst 3) ((xe_if_icmp .le 23).trans (congrArg (x_if_icmp .le 23 K) ((xe_iconst (-3)).trans (congrArg (x_iconst (-3)) (xe_ireturn)))))))))))))))))))))))))))
theorem bk_X10_drawing_20 : ck_ fX10 (some .int) cX10_drawing 20 [.iconst (-3), .ireturn] 23 = true := qck_r (nn_ _) (by decide +kernel)
theorem bs_X10_drawing_20 {P : Zt → Option Zv → Prop} (K : Int → Zl → List Zv → Zt → Prop) : sx_ K P [.iconst (-3), .ireturn] 23 = x_iconst (-3) (x_ireturn P) := ((xe_iconst (-3)).trans (congrArg (x_iconst (-3)) (xe_ireturn)))
theorem bk_X10_drawing_23 : ck_ fX10 (some .int) cX10_drawing 23 [.aload 0, .tableswitch 0 10 5 #[], .iload 1, .iload 2] 29 = true := qck_r (nn_ _) (by decide +kernel)
theorem bs_X10_drawing_23 {P : Zt → Option Zv → Prop} (K : Int → Zl → List Zv → Zt → Prop) : sx_ K P [.aload 0, .tableswitch 0 10 5 #[], .iload 1, .iload 2] 29 = x_aload 0 (x_g1 110 101 (x_iload 1 (x_iload 2 (K 29)))) := ((xe_aload 0).trans (congrArg (x_aload 0) ((xe_g1 (kk := 110) rfl tl_10_5).trans (congrArg (x_g1 110 101) ((xe_iload 1).trans (congrArg (x_iload 1) ((xe_iload 2).trans (congrArg (x_iload 2) xe_nil))))))))
set_option maxRecDepth 100000 in
theorem cl_X10_380 : cv_ RX10 380 yX1_openNew zX1_openNew 1 2 := ⟨gi_V (lwq_6 (dqc_m (dqc_m (dqc_m (dqa_m (dqa_m (dqa_m (List.mem_of_getElem? (i := 5) rfl))))))) rfl : Cond.methodLink RX10 380 yX1_openNew ∈ lw_g) (lwq_6 (dqc_m (dqc_m (dqc_m (dqa_m (dqa_m (dqa_m (List.mem_of_getElem? (i := 6) rfl))))))) rfl : Cond.instanceMethod yX1_openNew ∈ lw_g) (lwq_6 (dqc_m (dqc_m (dqc_m (dqa_m (dqa_m (dqa_m (List.mem_of_getElem? (i := 7) rfl))))))) rfl : Cond.selects yX1_openNew.cls yX1_openNew yX1_openNew ∈ lw_g) (lwq_1 (dqa_m (List.mem_of_getElem? (i := 0) rfl)) rfl : Cond.initialized yX1_openNew.cls ∈ lw_g) (lwq_6 (dqc_m (dqc_m (dqc_m (dqc_m (List.mem_of_getElem? (i := 0) rfl))))) rfl : Cond.code yX1_openNew cX1_openNew 3 none ∈ lw_g), ⟨nmh_2.1, nmh_2.2, pdq_0⟩, ⟨_, _, rfl⟩⟩
theorem bk_X10_drawing_32 : ck_ fX10 (some .int) cX10_drawing 32 [.iconst 1, .ireturn] 34 = true := qck_r (nn_ _) (by decide +kernel)
theorem bs_X10_drawing_32 {P : Zt → Option Zv → Prop} (K : Int → Zl → List Zv → Zt → Prop) : sx_ K P [.iconst 1, .ireturn] 34 = x_iconst 1 (x_ireturn P) := ((xe_iconst 1).trans (congrArg (x_iconst 1) (xe_ireturn)))
abbrev po_X10_drawing (T : Zt) (g l : Int) : Zt → Option Zv → Prop := fun T' r => ∃ x : Int, r = some (vI x) ∧ fr_ [(101, [1, 2, 3, 4, 7]), (428, []), (429, []), (430, [])] T T' ∧ ((x = -3 ∧ ¬ (1 ≤ g ∧ g ≤ 4 ∧ 1 ≤ l ∧ l ≤ 3)) ∨ (x = 1 ∧ 1 ≤ g ∧ g ≤ 4 ∧ 1 ≤ l ∧ l ≤ 3))
set_option maxHeartbeats 4000000 in
theorem ct_X10_drawing {T : Zt} {g l : Int} : Ct_ yX10_drawing zX10_drawing T [vR 110 0, vI g, vI l] (po_X10_drawing T g l) := by
  refine ct_of pn_10 rfl rfl (Nat.le_of_ble_eq_true rfl) (fun hT hav => ?_)
  have hr_g : -2147483648 ≤ g ∧ g ≤ 2147483647 := hav (vI g) (List.mem_cons_of_mem _ List.mem_cons_self)
  have hr_l : -2147483648 ≤ l ∧ l ≤ 2147483647 := hav (vI l) (List.mem_cons_of_mem _ (List.mem_cons_of_mem _ List.mem_cons_self))
  have hz : zX10_drawing.2.2.2.1 = some .boolean → ∀ (T' : Zt) (x : Int), po_X10_drawing T g l T' (some (vI x)) → 0 ≤ x ∧ x ≤ 1 := fun h => by cases h
  show J_ zX10_drawing T (po_X10_drawing T g l) 0 0 0 [some (vR 110 0), some (vI g), some (vI l)] [] T
  refine j_blx (F := fX10) tb_X10 (nn_ _) bk_X10_drawing_0 bs_X10_drawing_0 hz (fun K hK => ?_)
  refine And.intro (fun c1 => ?_) (fun c1 => ?_)
  · refine hK 20 _ [] T ?_
    refine j_blx (F := fX10) tb_X10 (nn_ _) bk_X10_drawing_20 bs_X10_drawing_20 hz (fun K hK => ?_)
    refine (show po_X10_drawing T g l T (some (vI (-3))) from ?_)
    exact ⟨_, rfl, fr_0 _ _, by omega⟩
  · refine And.intro (fun c2 => ?_) (fun c2 => ?_)
    · refine hK 20 _ [] T ?_
      refine j_blx (F := fX10) tb_X10 (nn_ _) bk_X10_drawing_20 bs_X10_drawing_20 hz (fun K hK => ?_)
      refine (show po_X10_drawing T g l T (some (vI (-3))) from ?_)
      exact ⟨_, rfl, fr_0 _ _, by omega⟩
    · refine And.intro (fun c3 => ?_) (fun c3 => ?_)
      · refine hK 20 _ [] T ?_
        refine j_blx (F := fX10) tb_X10 (nn_ _) bk_X10_drawing_20 bs_X10_drawing_20 hz (fun K hK => ?_)
        refine (show po_X10_drawing T g l T (some (vI (-3))) from ?_)
        exact ⟨_, rfl, fr_0 _ _, by omega⟩
      · refine And.intro (fun c4 => ?_) (fun c4 => ?_)
        · refine hK 23 _ [] T ?_
          refine j_blx (F := fX10) tb_X10 (nn_ _) bk_X10_drawing_23 bs_X10_drawing_23 hz (fun K hK => ?_)
          refine hK 29 _ [vI l, vI g, vR 101 0] T ?_
          refine j_callV (y := yX1_openNew) (Yc := zX1_openNew) (rest := []) [vI g, vI l] (ct_X1_openNew (T := T) (by omega) (by omega)) cl_X10_380 (qd_c (by decide +kernel)) (nn_ _) rfl (rf_of rfl) (Nat.le_of_ble_eq_true rfl) (Nat.le_of_ble_eq_true rfl) (Nat.le_of_ble_eq_true rfl) rfl ?_
          rintro U5 _ ⟨rfl, fU5, qU5⟩
          show J_ zX10_drawing T (po_X10_drawing T g l) 0 0 32 _ [] U5
          refine j_blx (F := fX10) tb_X10 (nn_ _) bk_X10_drawing_32 bs_X10_drawing_32 hz (fun K hK => ?_)
          refine (show po_X10_drawing T g l U5 (some (vI 1)) from ?_)
          exact ⟨_, rfl, fr_t (fr_0 _ _) (fr_s fU5 rfl), by omega⟩
        · refine (show po_X10_drawing T g l T (some (vI (-3))) from ?_)
          exact ⟨_, rfl, fr_0 _ _, by omega⟩
abbrev cX1_putIn : ByteArray := prog_3_method_3_code
def yX1_putIn : MethodName := ⟨RX1, "putIn", "(II)V"⟩
def zX1_putIn : Zm := (RX1, cX1_putIn, 3, none, { frames := 0, cells := 0, slots := 0, locals := 0 })
theorem bk_X1_putIn_0 : ck_ fX1 none cX1_putIn 0 [.aload 0, .tableswitch 0 1 8 #[], .iload 1, .iload 2, .iastore, .aload 0, .tableswitch 0 1 10 #[], .iload 2, .dup2, .iaload, .iconst 1, .iadd, .iastore, .aload 0, .dup, .tableswitch 0 1 3 #[], .iconst 1, .fadd, .tableswitch 1 1 3 #[], .aload 0, .iconst 0, .tableswitch 1 1 7 #[], .return_] 33 = true := qck_r (nn_ _) (by decide +kernel)
theorem bs_X1_putIn_0 {P : Zt → Option Zv → Prop} (K : Int → Zl → List Zv → Zt → Prop) : sx_ K P [.aload 0, .tableswitch 0 1 8 #[], .iload 1, .iload 2, .iastore, .aload 0, .tableswitch 0 1 10 #[], .iload 2, .dup2, .iaload, .iconst 1, .iadd, .iastore, .aload 0, .dup, .tableswitch 0 1 3 #[], .iconst 1, .fadd, .tableswitch 1 1 3 #[], .aload 0, .iconst 0, .tableswitch 1 1 7 #[], .return_] 33 = x_aload 0 (x_g1 101 428 (x_iload 1 (x_iload 2 (x_iastore (x_aload 0 (x_g1 101 430 (x_iload 2 (x_dup2 (x_iaload (x_iconst 1 (x_iadd (x_iastore (x_aload 0 (x_dup (x_g0 101 3 (-2147483648) 2147483647 (x_iconst 1 (x_fadd (x_p 101 3 (-2147483648) 2147483647 (x_aload 0 (x_iconst 0 (x_p 101 7 0 1 (x_return_ P)))))))))))))))))))))) := ((xe_aload 0).trans (congrArg (x_aload 0) ((xe_g1 (kk := 101) rfl tl_1_8).trans (congrArg (x_g1 101 428) ((xe_iload 1).trans (congrArg (x_iload 1) ((xe_iload 2).trans (congrArg (x_iload 2) ((xe_iastore).trans (congrArg (x_iastore) ((xe_aload 0).trans (congrArg (x_aload 0) ((xe_g1 (kk := 101) rfl tl_1_10).trans (congrArg (x_g1 101 430) ((xe_iload 2).trans (congrArg (x_iload 2) ((xe_dup2).trans (congrArg (x_dup2) ((xe_iaload).trans (congrArg (x_iaload) ((xe_iconst 1).trans (congrArg (x_iconst 1) ((xe_iadd).trans (congrArg (x_iadd) ((xe_iastore).trans (congrArg (x_iastore) ((xe_aload 0).trans (congrArg (x_aload 0) ((xe_dup).trans (congrArg (x_dup) ((xe_g0 (kk := 101) rfl tl_1_3).trans (congrArg (x_g0 101 3 (-2147483648) 2147483647) ((xe_iconst 1).trans (congrArg (x_iconst 1) ((xe_fadd).trans (congrArg (x_fadd) ((xe_p (kk := 101) rfl tl_1_3).trans (congrArg (x_p 101 3 (-2147483648) 2147483647) ((xe_aload 0).trans (congrArg (x_aload 0) ((xe_iconst 0).trans (congrArg (x_iconst 0) ((xe_p (kk := 101) rfl tl_1_7).trans (congrArg (x_p 101 7 0 1) (xe_return_)))))))))))))))))))))))))))))))))))))))))))))
abbrev po_X1_putIn (T : Zt) (c k : Int) : Zt → Option Zv → Prop := fun T' r => r = none ∧ fr_ [(428, []), (430, []), (101, [3, 7])] T T' ∧ (0 = (0 : Int))
set_option maxHeartbeats 4000000 in
theorem ct_X1_putIn {T : Zt} {c k : Int} (h1 : 0 ≤ c ∧ c < 12) (h2 : 0 ≤ k ∧ k ≤ 2) (h3 : T 430 0 k < 4) : Ct_ yX1_putIn zX1_putIn T [vR 101 0, vI c, vI k] (po_X1_putIn T c k) := by
  refine ct_of pn_1 rfl rfl (Nat.le_of_ble_eq_true rfl) (fun hT hav => ?_)
  have hr_c : -2147483648 ≤ c ∧ c ≤ 2147483647 := hav (vI c) (List.mem_cons_of_mem _ List.mem_cons_self)
  have hr_k : -2147483648 ≤ k ∧ k ≤ 2147483647 := hav (vI k) (List.mem_cons_of_mem _ (List.mem_cons_of_mem _ List.mem_cons_self))
  have hz : zX1_putIn.2.2.2.1 = some .boolean → ∀ (T' : Zt) (x : Int), po_X1_putIn T c k T' (some (vI x)) → 0 ≤ x ∧ x ≤ 1 := fun h => by cases h
  have hps : 0 ≤ T 430 0 k ∧ T 430 0 k ≤ 4 := bd_a hT 430 (by decide +kernel : ta_ 430 = some (1, some 3, 0, 4)) 0 (by omega)
  show J_ zX1_putIn T (po_X1_putIn T c k) 0 0 0 [some (vR 101 0), some (vI c), some (vI k)] [] T
  refine j_blx (F := fX1) tb_X1 (nn_ _) bk_X1_putIn_0 bs_X1_putIn_0 hz (fun K hK => ?_)
  refine iy_i (by omega) (by omega) ?_
  refine x_nm (fun U1 hU1 => ?_)
  have e2 := up_f hU1
  refine ix_i (by omega) ?_
  intro b3 b3b
  have e4 : U1 430 0 k = T 430 0 k := up_k hU1 (by exact Nat.ne_of_beq_eq_false rfl) 0 k
  rw [e4] at b3 b3b ⊢
  refine rg_i (by omega) ?_
  refine iy_i (by omega) (by omega) ?_
  refine x_nm (fun U5 hU5 => ?_)
  have e6 := up_f hU5
  intro b7 b7b
  have e8 : U5 101 0 3 = T 101 0 3 := (up_k hU5 (by exact Nat.ne_of_beq_eq_false rfl) 0 3).trans (up_k hU1 (by exact Nat.ne_of_beq_eq_false rfl) 0 3)
  rw [e8] at b7 b7b ⊢
  intro w9 w9b
  refine bd_i (by omega) ?_
  refine x_nm (fun U10 hU10 => ?_)
  have e11 := up_f hU10
  refine bd_i (by omega) ?_
  refine x_nm (fun U12 hU12 => ?_)
  have e13 := up_f hU12
  refine (show po_X1_putIn T c k U12 (none) from ?_)
  exact ⟨rfl, fr_u (fr_u (fr_u (fr_u (fr_0 _ _) hU1 rfl) hU5 rfl) hU10 rfl) hU12 rfl, by rfl⟩
abbrev cX10_pot : ByteArray := prog_1_method_37_code
def yX10_pot : MethodName := ⟨RX10, "pot", "(II)I"⟩
def zX10_pot : Zm := (RX10, cX10_pot, 3, (some .int), { frames := 2, cells := 0, slots := 0, locals := 42 })
theorem bk_X10_pot_0 : ck_ fX10 (some .int) cX10_pot 0 [.aload 0, .iload 1] 2 = true := qck_r (nn_ _) (by decide +kernel)
theorem bs_X10_pot_0 {P : Zt → Option Zv → Prop} (K : Int → Zl → List Zv → Zt → Prop) : sx_ K P [.aload 0, .iload 1] 2 = x_aload 0 (x_iload 1 (K 2)) := ((xe_aload 0).trans (congrArg (x_aload 0) ((xe_iload 1).trans (congrArg (x_iload 1) xe_nil))))
theorem bk_X10_pot_5 : ck_ fX10 (some .int) cX10_pot 5 [.ifCond .ne 11, .iconst (-2), .ireturn] 11 = true := qck_r (nn_ _) (by decide +kernel)
theorem bs_X10_pot_5 {P : Zt → Option Zv → Prop} (K : Int → Zl → List Zv → Zt → Prop) : sx_ K P [.ifCond .ne 11, .iconst (-2), .ireturn] 11 = x_ifCond .ne 11 K (x_iconst (-2) (x_ireturn P)) := ((xe_ifCond .ne 11).trans (congrArg (x_ifCond .ne 11 K) ((xe_iconst (-2)).trans (congrArg (x_iconst (-2)) (xe_ireturn)))))
theorem bk_X10_pot_11 : ck_ fX10 (some .int) cX10_pot 11 [.iload 2, .ifCond .lt 20, .iload 2, .iconst 3, .if_icmp .lt 23, .iconst (-3), .ireturn] 23 = true := qck_r (nn_ _) (by decide +kernel)
theorem bs_X10_pot_11 {P : Zt → Option Zv → Prop} (K : Int → Zl → List Zv → Zt → Prop) : sx_ K P [.iload 2, .ifCond .lt 20, .iload 2, .iconst 3, .if_icmp .lt 23, .iconst (-3), .ireturn] 23 = x_iload 2 (x_ifCond .lt 20 K (x_iload 2 (x_iconst 3 (x_if_icmp .lt 23 K (x_iconst (-3) (x_ireturn P)))))) := ((xe_iload 2).trans (congrArg (x_iload 2) ((xe_ifCond .lt 20).trans (congrArg (x_ifCond .lt 20 K) ((xe_iload 2).trans (congrArg (x_iload 2) ((xe_iconst 3).trans (congrArg (x_iconst 3) ((xe_if_icmp .lt 23).trans (congrArg (x_if_icmp .lt 23 K) ((xe_iconst (-3)).trans (congrArg (x_iconst (-3)) (xe_ireturn)))))))))))))
theorem bk_X10_pot_20 : ck_ fX10 (some .int) cX10_pot 20 [.iconst (-3), .ireturn] 23 = true := qck_r (nn_ _) (by decide +kernel)
theorem bs_X10_pot_20 {P : Zt → Option Zv → Prop} (K : Int → Zl → List Zv → Zt → Prop) : sx_ K P [.iconst (-3), .ireturn] 23 = x_iconst (-3) (x_ireturn P) := ((xe_iconst (-3)).trans (congrArg (x_iconst (-3)) (xe_ireturn)))
theorem bk_X10_pot_23 : ck_ fX10 (some .int) cX10_pot 23 [.aload 0, .tableswitch 0 10 5 #[], .tableswitch 0 1 1 #[], .ifCond .eq 56, .aload 0, .tableswitch 0 10 5 #[], .tableswitch 0 1 8 #[], .iload 1, .iaload, .iconst (-1), .if_icmp .ne 56, .aload 0, .tableswitch 0 10 5 #[], .tableswitch 0 1 4 #[], .ifCond .le 59, .iconst (-4), .ireturn] 59 = true := qck_r (nn_ _) (by decide +kernel)
theorem bs_X10_pot_23 {P : Zt → Option Zv → Prop} (K : Int → Zl → List Zv → Zt → Prop) : sx_ K P [.aload 0, .tableswitch 0 10 5 #[], .tableswitch 0 1 1 #[], .ifCond .eq 56, .aload 0, .tableswitch 0 10 5 #[], .tableswitch 0 1 8 #[], .iload 1, .iaload, .iconst (-1), .if_icmp .ne 56, .aload 0, .tableswitch 0 10 5 #[], .tableswitch 0 1 4 #[], .ifCond .le 59, .iconst (-4), .ireturn] 59 = x_aload 0 (x_g1 110 101 (x_g0 101 1 0 4 (x_ifCond .eq 56 K (x_aload 0 (x_g1 110 101 (x_g1 101 428 (x_iload 1 (x_iaload (x_iconst (-1) (x_if_icmp .ne 56 K (x_aload 0 (x_g1 110 101 (x_g0 101 4 (-2147483648) 2147483647 (x_ifCond .le 59 K (x_iconst (-4) (x_ireturn P)))))))))))))))) := ((xe_aload 0).trans (congrArg (x_aload 0) ((xe_g1 (kk := 110) rfl tl_10_5).trans (congrArg (x_g1 110 101) ((xe_g0 (kk := 101) rfl tl_1_1).trans (congrArg (x_g0 101 1 0 4) ((xe_ifCond .eq 56).trans (congrArg (x_ifCond .eq 56 K) ((xe_aload 0).trans (congrArg (x_aload 0) ((xe_g1 (kk := 110) rfl tl_10_5).trans (congrArg (x_g1 110 101) ((xe_g1 (kk := 101) rfl tl_1_8).trans (congrArg (x_g1 101 428) ((xe_iload 1).trans (congrArg (x_iload 1) ((xe_iaload).trans (congrArg (x_iaload) ((xe_iconst (-1)).trans (congrArg (x_iconst (-1)) ((xe_if_icmp .ne 56).trans (congrArg (x_if_icmp .ne 56 K) ((xe_aload 0).trans (congrArg (x_aload 0) ((xe_g1 (kk := 110) rfl tl_10_5).trans (congrArg (x_g1 110 101) ((xe_g0 (kk := 101) rfl tl_1_4).trans (congrArg (x_g0 101 4 (-2147483648) 2147483647) ((xe_ifCond .le 59).trans (congrArg (x_ifCond .le 59 K) ((xe_iconst (-4)).trans (congrArg (x_iconst (-4)) (xe_ireturn)))))))))))))))))))))))))))))))))
theorem bk_X10_pot_56 : ck_ fX10 (some .int) cX10_pot 56 [.iconst (-4), .ireturn] 59 = true := qck_r (nn_ _) (by decide +kernel)
theorem bs_X10_pot_56 {P : Zt → Option Zv → Prop} (K : Int → Zl → List Zv → Zt → Prop) : sx_ K P [.iconst (-4), .ireturn] 59 = x_iconst (-4) (x_ireturn P) := ((xe_iconst (-4)).trans (congrArg (x_iconst (-4)) (xe_ireturn)))
theorem bk_X10_pot_59 : ck_ fX10 (some .int) cX10_pot 59 [.aload 0, .tableswitch 0 10 5 #[], .tableswitch 0 1 10 #[], .iload 2, .iaload, .aload 0, .tableswitch 0 10 5 #[], .tableswitch 0 1 1 #[], .if_icmp .lt 81, .iconst (-5), .ireturn] 81 = true := qck_r (nn_ _) (by decide +kernel)
theorem bs_X10_pot_59 {P : Zt → Option Zv → Prop} (K : Int → Zl → List Zv → Zt → Prop) : sx_ K P [.aload 0, .tableswitch 0 10 5 #[], .tableswitch 0 1 10 #[], .iload 2, .iaload, .aload 0, .tableswitch 0 10 5 #[], .tableswitch 0 1 1 #[], .if_icmp .lt 81, .iconst (-5), .ireturn] 81 = x_aload 0 (x_g1 110 101 (x_g1 101 430 (x_iload 2 (x_iaload (x_aload 0 (x_g1 110 101 (x_g0 101 1 0 4 (x_if_icmp .lt 81 K (x_iconst (-5) (x_ireturn P)))))))))) := ((xe_aload 0).trans (congrArg (x_aload 0) ((xe_g1 (kk := 110) rfl tl_10_5).trans (congrArg (x_g1 110 101) ((xe_g1 (kk := 101) rfl tl_1_10).trans (congrArg (x_g1 101 430) ((xe_iload 2).trans (congrArg (x_iload 2) ((xe_iaload).trans (congrArg (x_iaload) ((xe_aload 0).trans (congrArg (x_aload 0) ((xe_g1 (kk := 110) rfl tl_10_5).trans (congrArg (x_g1 110 101) ((xe_g0 (kk := 101) rfl tl_1_1).trans (congrArg (x_g0 101 1 0 4) ((xe_if_icmp .lt 81).trans (congrArg (x_if_icmp .lt 81 K) ((xe_iconst (-5)).trans (congrArg (x_iconst (-5)) (xe_ireturn)))))))))))))))))))))
theorem bk_X10_pot_81 : ck_ fX10 (some .int) cX10_pot 81 [.aload 0, .tableswitch 0 10 5 #[], .iload 1, .iload 2] 87 = true := qck_r (nn_ _) (by decide +kernel)
theorem bs_X10_pot_81 {P : Zt → Option Zv → Prop} (K : Int → Zl → List Zv → Zt → Prop) : sx_ K P [.aload 0, .tableswitch 0 10 5 #[], .iload 1, .iload 2] 87 = x_aload 0 (x_g1 110 101 (x_iload 1 (x_iload 2 (K 87)))) := ((xe_aload 0).trans (congrArg (x_aload 0) ((xe_g1 (kk := 110) rfl tl_10_5).trans (congrArg (x_g1 110 101) ((xe_iload 1).trans (congrArg (x_iload 1) ((xe_iload 2).trans (congrArg (x_iload 2) xe_nil))))))))
set_option maxRecDepth 100000 in
theorem cl_X10_396 : cv_ RX10 396 yX1_putIn zX1_putIn 1 2 := ⟨gi_V (lwq_6 (dqc_m (dqc_m (dqc_m (dqc_m (List.mem_of_getElem? (i := 6) rfl))))) rfl : Cond.methodLink RX10 396 yX1_putIn ∈ lw_g) (lwq_6 (dqc_m (dqc_m (dqc_m (dqc_m (List.mem_of_getElem? (i := 7) rfl))))) rfl : Cond.instanceMethod yX1_putIn ∈ lw_g) (lwq_6 (dqc_m (dqc_m (dqc_m (dqc_m (dqa_m (List.mem_of_getElem? (i := 0) rfl)))))) rfl : Cond.selects yX1_putIn.cls yX1_putIn yX1_putIn ∈ lw_g) (lwq_1 (dqa_m (List.mem_of_getElem? (i := 0) rfl)) rfl : Cond.initialized yX1_putIn.cls ∈ lw_g) (lwq_6 (dqc_m (dqc_m (dqc_m (dqc_m (dqa_m (List.mem_of_getElem? (i := 1) rfl)))))) rfl : Cond.code yX1_putIn cX1_putIn 3 none ∈ lw_g), ⟨nmh_2.1, nmh_2.2, pdq_0⟩, ⟨_, _, rfl⟩⟩
theorem bk_X10_pot_90 : ck_ fX10 (some .int) cX10_pot 90 [.aload 0, .tableswitch 0 10 5 #[], .tableswitch 0 1 10 #[], .iload 2, .iaload, .ireturn] 100 = true := qck_r (nn_ _) (by decide +kernel)
theorem bs_X10_pot_90 {P : Zt → Option Zv → Prop} (K : Int → Zl → List Zv → Zt → Prop) : sx_ K P [.aload 0, .tableswitch 0 10 5 #[], .tableswitch 0 1 10 #[], .iload 2, .iaload, .ireturn] 100 = x_aload 0 (x_g1 110 101 (x_g1 101 430 (x_iload 2 (x_iaload (x_ireturn P))))) := ((xe_aload 0).trans (congrArg (x_aload 0) ((xe_g1 (kk := 110) rfl tl_10_5).trans (congrArg (x_g1 110 101) ((xe_g1 (kk := 101) rfl tl_1_10).trans (congrArg (x_g1 101 430) ((xe_iload 2).trans (congrArg (x_iload 2) ((xe_iaload).trans (congrArg (x_iaload) (xe_ireturn)))))))))))
abbrev po_X10_pot (T : Zt) (c k : Int) : Zt → Option Zv → Prop := fun T' r => ∃ x : Int, r = some (vI x) ∧ fr_ [(428, []), (430, []), (101, [3, 7])] T T' ∧ (x = x)
set_option maxHeartbeats 4000000 in
theorem ct_X10_pot {T : Zt} {c k : Int} : Ct_ yX10_pot zX10_pot T [vR 110 0, vI c, vI k] (po_X10_pot T c k) := by
  refine ct_of pn_10 rfl rfl (Nat.le_of_ble_eq_true rfl) (fun hT hav => ?_)
  have hr_c : -2147483648 ≤ c ∧ c ≤ 2147483647 := hav (vI c) (List.mem_cons_of_mem _ List.mem_cons_self)
  have hr_k : -2147483648 ≤ k ∧ k ≤ 2147483647 := hav (vI k) (List.mem_cons_of_mem _ (List.mem_cons_of_mem _ List.mem_cons_self))
  have hz : zX10_pot.2.2.2.1 = some .boolean → ∀ (T' : Zt) (x : Int), po_X10_pot T c k T' (some (vI x)) → 0 ≤ x ∧ x ≤ 1 := fun h => by cases h
  have hb_clubs : 0 ≤ T 108 0 2 ∧ T 108 0 2 ≤ 12 := bd_f hT 108 2 tl_8_2 0
  have hgr : 0 ≤ T 101 0 1 ∧ T 101 0 1 ≤ 4 := bd_f hT 101 1 tl_1_1 0
  show J_ zX10_pot T (po_X10_pot T c k) 0 0 0 [some (vR 110 0), some (vI c), some (vI k)] [] T
  refine j_blx (F := fX10) tb_X10 (nn_ _) bk_X10_pot_0 bs_X10_pot_0 hz (fun K hK => ?_)
  refine hK 2 _ [vI c, vR 110 0] T ?_
  refine j_callV (y := yX10_isClub) (Yc := zX10_isClub) (rest := []) [vI c] (ct_X10_isClub (T := T)) cl_X10_137 (qd_c (by decide +kernel)) (nn_ _) rfl (rf_of rfl) (Nat.le_of_ble_eq_true rfl) (Nat.le_of_ble_eq_true rfl) (Nat.le_of_ble_eq_true rfl) rfl ?_
  rintro _ _ ⟨rfl, x1, rfl, hx1⟩
  show J_ zX10_pot T (po_X10_pot T c k) 0 0 5 _ [vI x1] T
  refine j_blx (F := fX10) tb_X10 (nn_ _) bk_X10_pot_5 bs_X10_pot_5 hz (fun K hK => ?_)
  refine And.intro (fun c2 => ?_) (fun c2 => ?_)
  · replace hx1 := hx1.resolve_right (fun z => c2 z.1)
    clear c2
    refine hK 11 _ [] T ?_
    refine j_blx (F := fX10) tb_X10 (nn_ _) bk_X10_pot_11 bs_X10_pot_11 hz (fun K hK => ?_)
    refine And.intro (fun c3 => ?_) (fun c3 => ?_)
    · refine hK 20 _ [] T ?_
      refine j_blx (F := fX10) tb_X10 (nn_ _) bk_X10_pot_20 bs_X10_pot_20 hz (fun K hK => ?_)
      refine (show po_X10_pot T c k T (some (vI (-3))) from ?_)
      exact ⟨_, rfl, fr_0 _ _, by rfl⟩
    · refine And.intro (fun c4 => ?_) (fun c4 => ?_)
      · refine hK 23 _ [] T ?_
        refine j_blx (F := fX10) tb_X10 (nn_ _) bk_X10_pot_23 bs_X10_pot_23 hz (fun K hK => ?_)
        intro b5 b5b
        refine And.intro (fun c6 => ?_) (fun c6 => ?_)
        · refine hK 56 _ [] T ?_
          refine j_blx (F := fX10) tb_X10 (nn_ _) bk_X10_pot_56 bs_X10_pot_56 hz (fun K hK => ?_)
          refine (show po_X10_pot T c k T (some (vI (-4))) from ?_)
          exact ⟨_, rfl, fr_0 _ _, by rfl⟩
        · refine ix_i (by omega) ?_
          intro b7 b7b
          refine And.intro (fun c8 => ?_) (fun c8 => ?_)
          · refine hK 56 _ [] T ?_
            refine j_blx (F := fX10) tb_X10 (nn_ _) bk_X10_pot_56 bs_X10_pot_56 hz (fun K hK => ?_)
            refine (show po_X10_pot T c k T (some (vI (-4))) from ?_)
            exact ⟨_, rfl, fr_0 _ _, by rfl⟩
          · intro b9 b9b
            refine And.intro (fun c10 => ?_) (fun c10 => ?_)
            · refine hK 59 _ [] T ?_
              refine j_blx (F := fX10) tb_X10 (nn_ _) bk_X10_pot_59 bs_X10_pot_59 hz (fun K hK => ?_)
              refine ix_i (by omega) ?_
              intro b11 b11b
              intro b12 b12b
              refine And.intro (fun c13 => ?_) (fun c13 => ?_)
              · refine hK 81 _ [] T ?_
                refine j_blx (F := fX10) tb_X10 (nn_ _) bk_X10_pot_81 bs_X10_pot_81 hz (fun K hK => ?_)
                refine hK 87 _ [vI k, vI c, vR 101 0] T ?_
                refine j_callV (y := yX1_putIn) (Yc := zX1_putIn) (rest := []) [vI c, vI k] (ct_X1_putIn (T := T) (by omega) (by omega) (by omega)) cl_X10_396 (qd_c (by decide +kernel)) (nn_ _) rfl (rf_of rfl) (Nat.le_of_ble_eq_true rfl) (Nat.le_of_ble_eq_true rfl) (Nat.le_of_ble_eq_true rfl) rfl ?_
                rintro U14 _ ⟨rfl, fU14, qU14⟩
                show J_ zX10_pot T (po_X10_pot T c k) 0 0 90 _ [] U14
                refine j_blx (F := fX10) tb_X10 (nn_ _) bk_X10_pot_90 bs_X10_pot_90 hz (fun K hK => ?_)
                refine ix_i (by omega) ?_
                intro b15 b15b
                refine (show po_X10_pot T c k U14 (some (vI (U14 430 0 k))) from ?_)
                exact ⟨_, rfl, fr_t (fr_0 _ _) (fr_s fU14 rfl), by rfl⟩
              · refine (show po_X10_pot T c k T (some (vI (-5))) from ?_)
                exact ⟨_, rfl, fr_0 _ _, by rfl⟩
            · refine (show po_X10_pot T c k T (some (vI (-4))) from ?_)
              exact ⟨_, rfl, fr_0 _ _, by rfl⟩
      · refine (show po_X10_pot T c k T (some (vI (-3))) from ?_)
        exact ⟨_, rfl, fr_0 _ _, by rfl⟩
  · replace hx1 := hx1.resolve_left (fun z => absurd (c2.symm.trans z.1) (by decide))
    clear c2
    refine (show po_X10_pot T c k T (some (vI (-2))) from ?_)
    exact ⟨_, rfl, fr_0 _ _, by rfl⟩
abbrev cX1_waysWith : ByteArray := prog_3_method_6_code
def yX1_waysWith : MethodName := ⟨RX1, "waysWith", "(II)I"⟩
def zX1_waysWith : Zm := (RX1, cX1_waysWith, 3, (some .int), { frames := 0, cells := 0, slots := 0, locals := 0 })
theorem bk_X1_waysWith_0 : ck_ fX1 (some .int) cX1_waysWith 0 [.aload 0, .tableswitch 0 1 9 #[], .iload 1, .iaload, .iconst (-1), .if_icmp .eq 29, .aload 0, .tableswitch 0 1 9 #[], .iload 1, .iaload, .iload 2, .if_icmp .ne 27, .aload 0, .tableswitch 0 1 6 #[], .goto 28] 27 = true := qck_r (nn_ _) (by decide +kernel)
theorem bs_X1_waysWith_0 {P : Zt → Option Zv → Prop} (K : Int → Zl → List Zv → Zt → Prop) : sx_ K P [.aload 0, .tableswitch 0 1 9 #[], .iload 1, .iaload, .iconst (-1), .if_icmp .eq 29, .aload 0, .tableswitch 0 1 9 #[], .iload 1, .iaload, .iload 2, .if_icmp .ne 27, .aload 0, .tableswitch 0 1 6 #[], .goto 28] 27 = x_aload 0 (x_g1 101 429 (x_iload 1 (x_iaload (x_iconst (-1) (x_if_icmp .eq 29 K (x_aload 0 (x_g1 101 429 (x_iload 1 (x_iaload (x_iload 2 (x_if_icmp .ne 27 K (x_aload 0 (x_g0 101 6 (-2147483648) 2147483647 (x_goto 28 K)))))))))))))) := ((xe_aload 0).trans (congrArg (x_aload 0) ((xe_g1 (kk := 101) rfl tl_1_9).trans (congrArg (x_g1 101 429) ((xe_iload 1).trans (congrArg (x_iload 1) ((xe_iaload).trans (congrArg (x_iaload) ((xe_iconst (-1)).trans (congrArg (x_iconst (-1)) ((xe_if_icmp .eq 29).trans (congrArg (x_if_icmp .eq 29 K) ((xe_aload 0).trans (congrArg (x_aload 0) ((xe_g1 (kk := 101) rfl tl_1_9).trans (congrArg (x_g1 101 429) ((xe_iload 1).trans (congrArg (x_iload 1) ((xe_iaload).trans (congrArg (x_iaload) ((xe_iload 2).trans (congrArg (x_iload 2) ((xe_if_icmp .ne 27).trans (congrArg (x_if_icmp .ne 27 K) ((xe_aload 0).trans (congrArg (x_aload 0) ((xe_g0 (kk := 101) rfl tl_1_6).trans (congrArg (x_g0 101 6 (-2147483648) 2147483647) (xe_goto 28)))))))))))))))))))))))))))))
theorem bk_X1_waysWith_29 : ck_ fX1 (some .int) cX1_waysWith 29 [.aload 0, .tableswitch 0 1 11 #[], .iload 1, .iconst 4, .imul, .iload 2, .iadd, .iaload, .ireturn] 40 = true := qck_r (nn_ _) (by decide +kernel)
theorem bs_X1_waysWith_29 {P : Zt → Option Zv → Prop} (K : Int → Zl → List Zv → Zt → Prop) : sx_ K P [.aload 0, .tableswitch 0 1 11 #[], .iload 1, .iconst 4, .imul, .iload 2, .iadd, .iaload, .ireturn] 40 = x_aload 0 (x_g1 101 431 (x_iload 1 (x_iconst 4 (x_imul (x_iload 2 (x_iadd (x_iaload (x_ireturn P)))))))) := ((xe_aload 0).trans (congrArg (x_aload 0) ((xe_g1 (kk := 101) rfl tl_1_11).trans (congrArg (x_g1 101 431) ((xe_iload 1).trans (congrArg (x_iload 1) ((xe_iconst 4).trans (congrArg (x_iconst 4) ((xe_imul).trans (congrArg (x_imul) ((xe_iload 2).trans (congrArg (x_iload 2) ((xe_iadd).trans (congrArg (x_iadd) ((xe_iaload).trans (congrArg (x_iaload) (xe_ireturn)))))))))))))))))
theorem bk_X1_waysWith_27 : ck_ fX1 (some .int) cX1_waysWith 27 [.iconst 0, .ireturn] 29 = true := qck_r (nn_ _) (by decide +kernel)
theorem bs_X1_waysWith_27 {P : Zt → Option Zv → Prop} (K : Int → Zl → List Zv → Zt → Prop) : sx_ K P [.iconst 0, .ireturn] 29 = x_iconst 0 (x_ireturn P) := ((xe_iconst 0).trans (congrArg (x_iconst 0) (xe_ireturn)))
theorem bk_X1_waysWith_28 : ck_ fX1 (some .int) cX1_waysWith 28 [.ireturn] 29 = true := qck_r (nn_ _) (by decide +kernel)
theorem bs_X1_waysWith_28 {P : Zt → Option Zv → Prop} (K : Int → Zl → List Zv → Zt → Prop) : sx_ K P [.ireturn] 29 = x_ireturn P := (xe_ireturn)
abbrev po_X1_waysWith (T : Zt) (c g : Int) : Zt → Option Zv → Prop := fun T' r => T = T' ∧ ∃ x : Int, r = some (vI x) ∧ (True)
set_option maxHeartbeats 4000000 in
theorem ct_X1_waysWith {T : Zt} {c g : Int} (h1 : 0 ≤ c ∧ c < 12) (h2 : 0 ≤ g ∧ g < 4) : Ct_ yX1_waysWith zX1_waysWith T [vR 101 0, vI c, vI g] (po_X1_waysWith T c g) := by
  refine ct_of pn_1 rfl rfl (Nat.le_of_ble_eq_true rfl) (fun hT hav => ?_)
  have hr_c : -2147483648 ≤ c ∧ c ≤ 2147483647 := hav (vI c) (List.mem_cons_of_mem _ List.mem_cons_self)
  have hr_g : -2147483648 ≤ g ∧ g ≤ 2147483647 := hav (vI g) (List.mem_cons_of_mem _ (List.mem_cons_of_mem _ List.mem_cons_self))
  have hz : zX1_waysWith.2.2.2.1 = some .boolean → ∀ (T' : Zt) (x : Int), po_X1_waysWith T c g T' (some (vI x)) → 0 ≤ x ∧ x ≤ 1 := fun h => by cases h
  show J_ zX1_waysWith T (po_X1_waysWith T c g) 0 0 0 [some (vR 101 0), some (vI c), some (vI g)] [] T
  refine j_blx (F := fX1) tb_X1 (nn_ _) bk_X1_waysWith_0 bs_X1_waysWith_0 hz (fun K hK => ?_)
  refine ix_i (by omega) ?_
  intro b1 b1b
  refine And.intro (fun c2 => ?_) (fun c2 => ?_)
  · refine hK 29 _ [] T ?_
    refine j_blx (F := fX1) tb_X1 (nn_ _) bk_X1_waysWith_29 bs_X1_waysWith_29 hz (fun K hK => ?_)
    refine rg_i (by omega) ?_
    refine rg_i (by omega) ?_
    refine ix_i (by omega) ?_
    intro b3 b3b
    refine (show po_X1_waysWith T c g T (some (vI (T 431 0 ((c * 4) + g)))) from ?_)
    exact ⟨rfl, _, rfl, by trivial⟩
  · refine ix_i (by omega) ?_
    intro b4 b4b
    refine And.intro (fun c5 => ?_) (fun c5 => ?_)
    · refine hK 27 _ [] T ?_
      refine j_blx (F := fX1) tb_X1 (nn_ _) bk_X1_waysWith_27 bs_X1_waysWith_27 hz (fun K hK => ?_)
      refine (show po_X1_waysWith T c g T (some (vI 0)) from ?_)
      exact ⟨rfl, _, rfl, by trivial⟩
    · intro b6 b6b
      refine hK 28 _ [vI (T 101 0 6)] T ?_
      refine j_blx (F := fX1) tb_X1 (nn_ _) bk_X1_waysWith_28 bs_X1_waysWith_28 hz (fun K hK => ?_)
      refine (show po_X1_waysWith T c g T (some (vI (T 101 0 6))) from ?_)
      exact ⟨rfl, _, rfl, by trivial⟩
abbrev cX1_takeBelow : ByteArray := prog_3_method_9_code
def yX1_takeBelow : MethodName := ⟨RX1, "takeBelow", "(I)I"⟩
def zX1_takeBelow : Zm := (RX1, cX1_takeBelow, 8, (some .int), { frames := 0, cells := 0, slots := 0, locals := 0 })
theorem bk_X1_takeBelow_71 : ck_ fX1 (some .int) cX1_takeBelow 71 [.iload 6, .iload 1, .irem, .ireturn] 76 = true := qck_r (nn_ _) (by decide +kernel)
theorem bs_X1_takeBelow_71 {P : Zt → Option Zv → Prop} (K : Int → Zl → List Zv → Zt → Prop) : sx_ K P [.iload 6, .iload 1, .irem, .ireturn] 76 = x_iload 6 (x_iload 1 (x_irem (x_ireturn P))) := ((xe_iload 6).trans (congrArg (x_iload 6) ((xe_iload 1).trans (congrArg (x_iload 1) ((xe_irem).trans (congrArg (x_irem) (xe_ireturn)))))))
theorem bk_X1_takeBelow_24 : ck_ fX1 (some .int) cX1_takeBelow 24 [.iload 7, .iconst 1000000, .if_icmp .ge 71, .aload 0, .aload 0, .tableswitch 0 1 5 #[], .iconst 1664525, .fmul, .iconst 1013904223, .fadd, .tableswitch 1 1 5 #[], .aload 0, .tableswitch 0 1 5 #[], .iconst 1, .iushr, .istore 6, .iload 6, .i2l, .lload 4, .lcmp, .ifCond .ge 65, .goto 71] 65 = true := qck_r (nn_ _) (by decide +kernel)
theorem bs_X1_takeBelow_24 {P : Zt → Option Zv → Prop} (K : Int → Zl → List Zv → Zt → Prop) : sx_ K P [.iload 7, .iconst 1000000, .if_icmp .ge 71, .aload 0, .aload 0, .tableswitch 0 1 5 #[], .iconst 1664525, .fmul, .iconst 1013904223, .fadd, .tableswitch 1 1 5 #[], .aload 0, .tableswitch 0 1 5 #[], .iconst 1, .iushr, .istore 6, .iload 6, .i2l, .lload 4, .lcmp, .ifCond .ge 65, .goto 71] 65 = x_iload 7 (x_iconst 1000000 (x_if_icmp .ge 71 K (x_aload 0 (x_aload 0 (x_g0 101 5 (-2147483648) 2147483647 (x_iconst 1664525 (x_fmul (x_iconst 1013904223 (x_fadd (x_p 101 5 (-2147483648) 2147483647 (x_aload 0 (x_g0 101 5 (-2147483648) 2147483647 (x_iconst 1 (x_iushr (x_istore 6 (x_iload 6 (x_i2l (x_lload 4 (x_lcmp (x_ifCond .ge 65 K (x_goto 71 K))))))))))))))))))))) := ((xe_iload 7).trans (congrArg (x_iload 7) ((xe_iconst 1000000).trans (congrArg (x_iconst 1000000) ((xe_if_icmp .ge 71).trans (congrArg (x_if_icmp .ge 71 K) ((xe_aload 0).trans (congrArg (x_aload 0) ((xe_aload 0).trans (congrArg (x_aload 0) ((xe_g0 (kk := 101) rfl tl_1_5).trans (congrArg (x_g0 101 5 (-2147483648) 2147483647) ((xe_iconst 1664525).trans (congrArg (x_iconst 1664525) ((xe_fmul).trans (congrArg (x_fmul) ((xe_iconst 1013904223).trans (congrArg (x_iconst 1013904223) ((xe_fadd).trans (congrArg (x_fadd) ((xe_p (kk := 101) rfl tl_1_5).trans (congrArg (x_p 101 5 (-2147483648) 2147483647) ((xe_aload 0).trans (congrArg (x_aload 0) ((xe_g0 (kk := 101) rfl tl_1_5).trans (congrArg (x_g0 101 5 (-2147483648) 2147483647) ((xe_iconst 1).trans (congrArg (x_iconst 1) ((xe_iushr).trans (congrArg (x_iushr) ((xe_istore 6).trans (congrArg (x_istore 6) ((xe_iload 6).trans (congrArg (x_iload 6) ((xe_i2l).trans (congrArg (x_i2l) ((xe_lload 4).trans (congrArg (x_lload 4) ((xe_lcmp).trans (congrArg (x_lcmp) ((xe_ifCond .ge 65).trans (congrArg (x_ifCond .ge 65 K) (xe_goto 71)))))))))))))))))))))))))))))))))))))))))))
theorem bk_X1_takeBelow_65 : ck_ fX1 (some .int) cX1_takeBelow 65 [.iinc 7 1, .goto 24] 71 = true := qck_r (nn_ _) (by decide +kernel)
theorem bs_X1_takeBelow_65 {P : Zt → Option Zv → Prop} (K : Int → Zl → List Zv → Zt → Prop) : sx_ K P [.iinc 7 1, .goto 24] 71 = x_iinc 7 1 (x_goto 24 K) := ((xe_iinc 7 1).trans (congrArg (x_iinc 7 1) (xe_goto 24)))
theorem bk_X1_takeBelow_0 : ck_ fX1 (some .int) cX1_takeBelow 0 [.iload 1, .ifCond .gt 6, .iconst 0, .ireturn] 6 = true := qck_r (nn_ _) (by decide +kernel)
theorem bs_X1_takeBelow_0 {P : Zt → Option Zv → Prop} (K : Int → Zl → List Zv → Zt → Prop) : sx_ K P [.iload 1, .ifCond .gt 6, .iconst 0, .ireturn] 6 = x_iload 1 (x_ifCond .gt 6 K (x_iconst 0 (x_ireturn P))) := ((xe_iload 1).trans (congrArg (x_iload 1) ((xe_ifCond .gt 6).trans (congrArg (x_ifCond .gt 6 K) ((xe_iconst 0).trans (congrArg (x_iconst 0) (xe_ireturn)))))))
theorem bk_X1_takeBelow_6 : ck_ fX1 (some .int) cX1_takeBelow 6 [.sipush 2147483648, .lstore 2, .lload 2, .lload 2, .iload 1, .i2l, .lrem, .lsub, .lstore 4, .iconst 0, .istore 6, .iconst 0, .istore 7] 24 = true := qck_r (nn_ _) (by decide +kernel)
theorem bs_X1_takeBelow_6 {P : Zt → Option Zv → Prop} (K : Int → Zl → List Zv → Zt → Prop) : sx_ K P [.sipush 2147483648, .lstore 2, .lload 2, .lload 2, .iload 1, .i2l, .lrem, .lsub, .lstore 4, .iconst 0, .istore 6, .iconst 0, .istore 7] 24 = x_sipush 2147483648 (x_lstore 2 (x_lload 2 (x_lload 2 (x_iload 1 (x_i2l (x_lrem (x_lsub (x_lstore 4 (x_iconst 0 (x_istore 6 (x_iconst 0 (x_istore 7 (K 24))))))))))))) := ((xe_sipush 2147483648).trans (congrArg (x_sipush 2147483648) ((xe_lstore 2).trans (congrArg (x_lstore 2) ((xe_lload 2).trans (congrArg (x_lload 2) ((xe_lload 2).trans (congrArg (x_lload 2) ((xe_iload 1).trans (congrArg (x_iload 1) ((xe_i2l).trans (congrArg (x_i2l) ((xe_lrem).trans (congrArg (x_lrem) ((xe_lsub).trans (congrArg (x_lsub) ((xe_lstore 4).trans (congrArg (x_lstore 4) ((xe_iconst 0).trans (congrArg (x_iconst 0) ((xe_istore 6).trans (congrArg (x_istore 6) ((xe_iconst 0).trans (congrArg (x_iconst 0) ((xe_istore 7).trans (congrArg (x_istore 7) xe_nil))))))))))))))))))))))))))
abbrev po_X1_takeBelow (T : Zt) (m : Int) : Zt → Option Zv → Prop := fun T' r => ∃ x : Int, r = some (vI x) ∧ fr_ [(101, [5])] T T' ∧ ((m ≤ 0 ∧ x = 0) ∨ (0 < m ∧ 0 ≤ x ∧ x < m))
set_option maxHeartbeats 4000000 in
theorem ct_X1_takeBelow {T : Zt} {m : Int} : Ct_ yX1_takeBelow zX1_takeBelow T [vR 101 0, vI m] (po_X1_takeBelow T m) := by
  refine ct_of pn_1 rfl rfl (Nat.le_of_ble_eq_true rfl) (fun hT hav => ?_)
  have hr_m : -2147483648 ≤ m ∧ m ≤ 2147483647 := hav (vI m) (List.mem_cons_of_mem _ List.mem_cons_self)
  have hz : zX1_takeBelow.2.2.2.1 = some .boolean → ∀ (T' : Zt) (x : Int), po_X1_takeBelow T m T' (some (vI x)) → 0 ≤ x ∧ x ≤ 1 := fun h => by cases h
  have hr1 := Int.emod_nonneg 2147483648 (b := m)
  have hr2 := Int.emod_lt_of_pos 2147483648 (b := m)
  show J_ zX1_takeBelow T (po_X1_takeBelow T m) 0 0 0 [some (vR 101 0), some (vI m), none, none, none, none, none, none] [] T
  have c_71 : ∀ (v : Int) (T2 : Zt), (fr_ [(101, [5])] T T2) → (0 ≤ v ∧ 0 < m) → J_ zX1_takeBelow T (po_X1_takeBelow T m) 0 0 71 [some (vR 101 0), some (vI m), none, none, none, none, some (vI v), none] [] T2 := by
    intro v T2 hf_71 i2
    refine j_blx (F := fX1) tb_X1 (nn_ _) bk_X1_takeBelow_71 bs_X1_takeBelow_71 hz (fun K hK => ?_)
    have hv1 := Int.emod_nonneg (v) (show m ≠ 0 by omega)
    have hv2 := Int.emod_lt_of_pos (v) (show 0 < m by omega)
    refine dv_i (by omega) ?_
    refine (show po_X1_takeBelow T m T2 (some (vI (v % m))) from ?_)
    exact ⟨_, rfl, fr_t (fr_0 _ _) (fr_s hf_71 rfl), by omega⟩
  have c_24 : ∀ (nn : Nat) (v : Int) (n : Int) (fa : Int) (T1 : Zt), ((1000000 - n).toNat) ≤ nn → (fr_ [(101, [5])] T T1) → (0 ≤ v ∧ 0 ≤ n ∧ 0 < m) → J_ zX1_takeBelow T (po_X1_takeBelow T m) 0 0 24 [some (vR 101 0), some (vI m), none, none, some (vL fa), none, some (vI v), some (vI n)] [] T1 := by
    intro nn
    induction nn using Nat.strongRecOn with
    | _ nn ih_24 =>
      intro v n fa T1 hm_24 hf_24 i1
      replace hm_24 := fun (_ : Unit) => hm_24
      refine j_blx (F := fX1) tb_X1 (nn_ _) bk_X1_takeBelow_24 bs_X1_takeBelow_24 hz (fun K hK => ?_)
      refine And.intro (fun c1 => ?_) (fun c1 => ?_)
      · refine hK 71 _ [] T1 ?_
        refine j_drq [some (vR 101 0), some (vI m), none, none, none, none, some (vI v), none] (drq_s (drq_s (drq_n (drq_n (drq_n (drq_n (drq_s (drq_n drq_0)))))))) ?_
        refine c_71 v T1 ?_ ?_
        · exact fr_t (fr_0 _ _) (fr_s hf_24 rfl)
        · omega
      · intro b2 b2b
        intro w3 w3b
        intro w4 w4b
        refine bd_i (by omega) ?_
        refine x_nm (fun U5 hU5 => ?_)
        have e6 := up_f hU5
        intro b7 b7b
        have e8 : U5 101 0 5 = wr_ ((wr_ ((T1 101 0 5) * 1664525)) + 1013904223) := up_f hU5
        rw [e8] at b7 b7b ⊢
        intro w9 w9b
        have u10 := us_1c (x := (wr_ ((wr_ ((T1 101 0 5) * 1664525)) + 1013904223)))
        refine And.intro (fun c11 => ?_) (And.intro (fun c11 => ?_) (fun c11 => ?_))
        · refine And.intro (fun c12 => ?_) (fun c12 => ?_)
          · exact absurd c12 (by decide)
          · refine hK 71 [some (vR 101 0), some (vI m), none, none, some (vL fa), none, some (vI (us_ (wr_ ((wr_ ((T1 101 0 5) * 1664525)) + 1013904223)) 1)), some (vI n)] [] U5 ?_
            refine j_drq [some (vR 101 0), some (vI m), none, none, none, none, some (vI (us_ (wr_ ((wr_ ((T1 101 0 5) * 1664525)) + 1013904223)) 1)), none] (drq_s (drq_s (drq_n (drq_n (drq_n (drq_n (drq_s (drq_n drq_0)))))))) ?_
            refine c_71 (us_ (wr_ ((wr_ ((T1 101 0 5) * 1664525)) + 1013904223)) 1) U5 ?_ ?_
            · exact fr_u (fr_t (fr_0 _ _) (fr_s hf_24 rfl)) hU5 rfl
            · omega
        · refine And.intro (fun c13 => ?_) (fun c13 => ?_)
          · refine hK 65 [some (vR 101 0), some (vI m), none, none, some (vL fa), none, some (vI (us_ (wr_ ((wr_ ((T1 101 0 5) * 1664525)) + 1013904223)) 1)), some (vI n)] [] U5 ?_
            refine j_blx (F := fX1) tb_X1 (nn_ _) bk_X1_takeBelow_65 bs_X1_takeBelow_65 hz (fun K hK => ?_)
            refine rg_i (by omega) ?_
            refine hK 24 [some (vR 101 0), some (vI m), none, none, some (vL fa), none, some (vI (us_ (wr_ ((wr_ ((T1 101 0 5) * 1664525)) + 1013904223)) 1)), some (vI (n + 1))] [] U5 ?_
            refine ih_24 _ ?_ (us_ (wr_ ((wr_ ((T1 101 0 5) * 1664525)) + 1013904223)) 1) (n + 1) fa U5 (Nat.le_refl _) ?_ ?_
            · have hm_24 := hm_24 (); omega
            · exact fr_u (fr_t (fr_0 _ _) (fr_s hf_24 rfl)) hU5 rfl
            · omega
          · exact absurd c13 (by decide)
        · refine And.intro (fun c14 => ?_) (fun c14 => ?_)
          · refine hK 65 [some (vR 101 0), some (vI m), none, none, some (vL fa), none, some (vI (us_ (wr_ ((wr_ ((T1 101 0 5) * 1664525)) + 1013904223)) 1)), some (vI n)] [] U5 ?_
            refine j_blx (F := fX1) tb_X1 (nn_ _) bk_X1_takeBelow_65 bs_X1_takeBelow_65 hz (fun K hK => ?_)
            refine rg_i (by omega) ?_
            refine hK 24 [some (vR 101 0), some (vI m), none, none, some (vL fa), none, some (vI (us_ (wr_ ((wr_ ((T1 101 0 5) * 1664525)) + 1013904223)) 1)), some (vI (n + 1))] [] U5 ?_
            refine ih_24 _ ?_ (us_ (wr_ ((wr_ ((T1 101 0 5) * 1664525)) + 1013904223)) 1) (n + 1) fa U5 (Nat.le_refl _) ?_ ?_
            · have hm_24 := hm_24 (); omega
            · exact fr_u (fr_t (fr_0 _ _) (fr_s hf_24 rfl)) hU5 rfl
            · omega
          · exact absurd c14 (by decide)
  refine j_blx (F := fX1) tb_X1 (nn_ _) bk_X1_takeBelow_0 bs_X1_takeBelow_0 hz (fun K hK => ?_)
  refine And.intro (fun c15 => ?_) (fun c15 => ?_)
  · refine hK 6 _ [] T ?_
    refine j_blx (F := fX1) tb_X1 (nn_ _) bk_X1_takeBelow_6 bs_X1_takeBelow_6 hz (fun K hK => ?_)
    refine dv_i (by omega) ?_
    refine rl_i (by omega) ?_
    refine hK 24 [some (vR 101 0), some (vI m), some (vL 2147483648), none, some (vL (2147483648 - (2147483648 % m))), none, some (vI 0), some (vI 0)] [] T ?_
    refine j_drq [some (vR 101 0), some (vI m), none, none, some (vL (2147483648 - (2147483648 % m))), none, some (vI 0), some (vI 0)] (drq_s (drq_s (drq_n (drq_n (drq_s (drq_n (drq_s (drq_s drq_0)))))))) ?_
    refine c_24 _ 0 0 (2147483648 - (2147483648 % m)) T (Nat.le_refl _) ?_ ?_
    · exact fr_0 _ _
    · omega
  · refine (show po_X1_takeBelow T m T (some (vI 0)) from ?_)
    exact ⟨_, rfl, fr_0 _ _, by omega⟩
abbrev cX1_takeClub : ByteArray := prog_3_method_7_code
def yX1_takeClub : MethodName := ⟨RX1, "takeClub", "()I"⟩
def zX1_takeClub : Zm := (RX1, cX1_takeClub, 4, (some .int), { frames := 1, cells := 0, slots := 0, locals := 27 })
theorem bk_X1_takeClub_16 : ck_ fX1 (some .int) cX1_takeClub 16 [.iload 3, .aload 0, .tableswitch 0 1 13 #[], .if_icmp .ge 48, .aload 0, .tableswitch 0 1 8 #[], .aload 0, .tableswitch 0 1 12 #[], .iload 3, .iaload, .iaload, .iload 1, .if_icmp .ne 42, .iinc 2 1, .iinc 3 1, .goto 16] 48 = true := qck_r (nn_ _) (by decide +kernel)
theorem bs_X1_takeClub_16 {P : Zt → Option Zv → Prop} (K : Int → Zl → List Zv → Zt → Prop) : sx_ K P [.iload 3, .aload 0, .tableswitch 0 1 13 #[], .if_icmp .ge 48, .aload 0, .tableswitch 0 1 8 #[], .aload 0, .tableswitch 0 1 12 #[], .iload 3, .iaload, .iaload, .iload 1, .if_icmp .ne 42, .iinc 2 1, .iinc 3 1, .goto 16] 48 = x_iload 3 (x_aload 0 (x_g0 101 13 0 12 (x_if_icmp .ge 48 K (x_aload 0 (x_g1 101 428 (x_aload 0 (x_g1 101 432 (x_iload 3 (x_iaload (x_iaload (x_iload 1 (x_if_icmp .ne 42 K (x_iinc 2 1 (x_iinc 3 1 (x_goto 16 K))))))))))))))) := ((xe_iload 3).trans (congrArg (x_iload 3) ((xe_aload 0).trans (congrArg (x_aload 0) ((xe_g0 (kk := 101) rfl tl_1_13).trans (congrArg (x_g0 101 13 0 12) ((xe_if_icmp .ge 48).trans (congrArg (x_if_icmp .ge 48 K) ((xe_aload 0).trans (congrArg (x_aload 0) ((xe_g1 (kk := 101) rfl tl_1_8).trans (congrArg (x_g1 101 428) ((xe_aload 0).trans (congrArg (x_aload 0) ((xe_g1 (kk := 101) rfl tl_1_12).trans (congrArg (x_g1 101 432) ((xe_iload 3).trans (congrArg (x_iload 3) ((xe_iaload).trans (congrArg (x_iaload) ((xe_iaload).trans (congrArg (x_iaload) ((xe_iload 1).trans (congrArg (x_iload 1) ((xe_if_icmp .ne 42).trans (congrArg (x_if_icmp .ne 42 K) ((xe_iinc 2 1).trans (congrArg (x_iinc 2 1) ((xe_iinc 3 1).trans (congrArg (x_iinc 3 1) (xe_goto 16)))))))))))))))))))))))))))))))
theorem bk_X1_takeClub_48 : ck_ fX1 (some .int) cX1_takeClub 48 [.aload 0, .tableswitch 0 1 12 #[], .aload 0, .iload 2] 54 = true := qck_r (nn_ _) (by decide +kernel)
theorem bs_X1_takeClub_48 {P : Zt → Option Zv → Prop} (K : Int → Zl → List Zv → Zt → Prop) : sx_ K P [.aload 0, .tableswitch 0 1 12 #[], .aload 0, .iload 2] 54 = x_aload 0 (x_g1 101 432 (x_aload 0 (x_iload 2 (K 54)))) := ((xe_aload 0).trans (congrArg (x_aload 0) ((xe_g1 (kk := 101) rfl tl_1_12).trans (congrArg (x_g1 101 432) ((xe_aload 0).trans (congrArg (x_aload 0) ((xe_iload 2).trans (congrArg (x_iload 2) xe_nil))))))))
set_option maxRecDepth 100000 in
theorem cl_X1_75 : cv_ RX1 75 yX1_takeBelow zX1_takeBelow 1 1 := ⟨gi_V (lwq_6 (dqc_m (dqc_m (dqc_m (dqc_m (dqc_m (List.mem_of_getElem? (i := 6) rfl)))))) rfl : Cond.methodLink RX1 75 yX1_takeBelow ∈ lw_g) (lwq_6 (dqc_m (dqc_m (dqc_m (dqc_m (dqc_m (dqa_m (List.mem_of_getElem? (i := 0) rfl))))))) rfl : Cond.instanceMethod yX1_takeBelow ∈ lw_g) (lw_sel 82 rfl : Cond.selects yX1_takeBelow.cls yX1_takeBelow yX1_takeBelow ∈ lw_g) (lwq_1 (dqa_m (List.mem_of_getElem? (i := 0) rfl)) rfl : Cond.initialized yX1_takeBelow.cls ∈ lw_g) (lwq_6 (dqc_m (dqc_m (dqc_m (dqc_m (dqc_m (dqa_m (List.mem_of_getElem? (i := 1) rfl))))))) rfl : Cond.code yX1_takeBelow cX1_takeBelow 8 (some .int) ∈ lw_g), ⟨nmh_2.1, nmh_2.2, pdq_15⟩, ⟨_, _, rfl⟩⟩
theorem bk_X1_takeClub_57 : ck_ fX1 (some .int) cX1_takeClub 57 [.iaload, .ireturn] 59 = true := qck_r (nn_ _) (by decide +kernel)
theorem bs_X1_takeClub_57 {P : Zt → Option Zv → Prop} (K : Int → Zl → List Zv → Zt → Prop) : sx_ K P [.iaload, .ireturn] 59 = x_iaload (x_ireturn P) := ((xe_iaload).trans (congrArg (x_iaload) (xe_ireturn)))
theorem bk_X1_takeClub_42 : ck_ fX1 (some .int) cX1_takeClub 42 [.iinc 3 1, .goto 16] 48 = true := qck_r (nn_ _) (by decide +kernel)
theorem bs_X1_takeClub_42 {P : Zt → Option Zv → Prop} (K : Int → Zl → List Zv → Zt → Prop) : sx_ K P [.iinc 3 1, .goto 16] 48 = x_iinc 3 1 (x_goto 16 K) := ((xe_iinc 3 1).trans (congrArg (x_iinc 3 1) (xe_goto 16)))
theorem bk_X1_takeClub_0 : ck_ fX1 (some .int) cX1_takeClub 0 [.aload 0, .tableswitch 0 1 8 #[], .aload 0, .tableswitch 0 1 12 #[], .iconst 0, .iaload, .iaload, .istore 1, .iconst 0, .istore 2, .iconst 0, .istore 3] 16 = true := qck_r (nn_ _) (by decide +kernel)
theorem bs_X1_takeClub_0 {P : Zt → Option Zv → Prop} (K : Int → Zl → List Zv → Zt → Prop) : sx_ K P [.aload 0, .tableswitch 0 1 8 #[], .aload 0, .tableswitch 0 1 12 #[], .iconst 0, .iaload, .iaload, .istore 1, .iconst 0, .istore 2, .iconst 0, .istore 3] 16 = x_aload 0 (x_g1 101 428 (x_aload 0 (x_g1 101 432 (x_iconst 0 (x_iaload (x_iaload (x_istore 1 (x_iconst 0 (x_istore 2 (x_iconst 0 (x_istore 3 (K 16)))))))))))) := ((xe_aload 0).trans (congrArg (x_aload 0) ((xe_g1 (kk := 101) rfl tl_1_8).trans (congrArg (x_g1 101 428) ((xe_aload 0).trans (congrArg (x_aload 0) ((xe_g1 (kk := 101) rfl tl_1_12).trans (congrArg (x_g1 101 432) ((xe_iconst 0).trans (congrArg (x_iconst 0) ((xe_iaload).trans (congrArg (x_iaload) ((xe_iaload).trans (congrArg (x_iaload) ((xe_istore 1).trans (congrArg (x_istore 1) ((xe_iconst 0).trans (congrArg (x_iconst 0) ((xe_istore 2).trans (congrArg (x_istore 2) ((xe_iconst 0).trans (congrArg (x_iconst 0) ((xe_istore 3).trans (congrArg (x_istore 3) xe_nil))))))))))))))))))))))))
abbrev po_X1_takeClub (T : Zt) : Zt → Option Zv → Prop := fun T' r => ∃ x : Int, r = some (vI x) ∧ fr_ [(101, [5])] T T' ∧ (0 ≤ x ∧ x ≤ 11)
set_option maxHeartbeats 4000000 in
theorem ct_X1_takeClub {T : Zt} : Ct_ yX1_takeClub zX1_takeClub T [vR 101 0] (po_X1_takeClub T) := by
  refine ct_of pn_1 rfl rfl (Nat.le_of_ble_eq_true rfl) (fun hT hav => ?_)
  have hz : zX1_takeClub.2.2.2.1 = some .boolean → ∀ (T' : Zt) (x : Int), po_X1_takeClub T T' (some (vI x)) → 0 ≤ x ∧ x ≤ 1 := fun h => by cases h
  have hwc : 0 ≤ T 101 0 13 ∧ T 101 0 13 ≤ 12 := bd_f hT 101 13 tl_1_13 0
  show J_ zX1_takeClub T (po_X1_takeClub T) 0 0 0 [some (vR 101 0), none, none, none] [] T
  have c_16 : ∀ (nn : Nat) (n : Int) (k : Int) (q : Int), ((12 - k).toNat) ≤ nn → (0 ≤ n ∧ n ≤ k ∧ 0 ≤ k ∧ k ≤ 12) → J_ zX1_takeClub T (po_X1_takeClub T) 0 0 16 [some (vR 101 0), some (vI q), some (vI n), some (vI k)] [] T := by
    intro nn
    induction nn using Nat.strongRecOn with
    | _ nn ih_16 =>
      intro n k q hm_16 i1
      replace hm_16 := fun (_ : Unit) => hm_16
      refine j_blx (F := fX1) tb_X1 (nn_ _) bk_X1_takeClub_16 bs_X1_takeClub_16 hz (fun K hK => ?_)
      intro b1 b1b
      refine And.intro (fun c2 => ?_) (fun c2 => ?_)
      · refine hK 48 _ [] T ?_
        refine j_blx (F := fX1) tb_X1 (nn_ _) bk_X1_takeClub_48 bs_X1_takeClub_48 hz (fun K hK => ?_)
        refine hK 54 _ [vI n, vR 101 0, vR 432 0] T ?_
        refine j_callV (y := yX1_takeBelow) (Yc := zX1_takeBelow) (rest := [vR 432 0]) [vI n] (ct_X1_takeBelow (T := T)) cl_X1_75 (qd_c (by decide +kernel)) (nn_ _) rfl (rf_of rfl) (Nat.le_of_ble_eq_true rfl) (Nat.le_of_ble_eq_true rfl) (Nat.le_of_ble_eq_true rfl) rfl ?_
        rintro U3 _ ⟨x4, rfl, fU3, qU3⟩
        show J_ zX1_takeClub T (po_X1_takeClub T) 0 0 57 _ [vI x4, vR 432 0] U3
        refine j_blx (F := fX1) tb_X1 (nn_ _) bk_X1_takeClub_57 bs_X1_takeClub_57 hz (fun K hK => ?_)
        refine ix_i (by omega) ?_
        intro b5 b5b
        have e6 : U3 432 0 x4 = T 432 0 x4 := fU3 432 0 x4 rfl
        rw [e6] at b5 b5b ⊢
        refine (show po_X1_takeClub T U3 (some (vI (T 432 0 x4))) from ?_)
        exact ⟨_, rfl, fr_t (fr_0 _ _) (fr_s fU3 rfl), by omega⟩
      · refine ix_i (by omega) ?_
        intro b7 b7b
        refine ix_i (by omega) ?_
        intro b8 b8b
        refine And.intro (fun c9 => ?_) (fun c9 => ?_)
        · refine hK 42 _ [] T ?_
          refine j_blx (F := fX1) tb_X1 (nn_ _) bk_X1_takeClub_42 bs_X1_takeClub_42 hz (fun K hK => ?_)
          refine rg_i (by omega) ?_
          refine hK 16 [some (vR 101 0), some (vI q), some (vI n), some (vI (k + 1))] [] T ?_
          refine ih_16 _ ?_ n (k + 1) q (Nat.le_refl _) ?_
          · have hm_16 := hm_16 (); omega
          · omega
        · refine rg_i (by omega) ?_
          refine rg_i (by omega) ?_
          refine hK 16 [some (vR 101 0), some (vI q), some (vI (n + 1)), some (vI (k + 1))] [] T ?_
          refine ih_16 _ ?_ (n + 1) (k + 1) q (Nat.le_refl _) ?_
          · have hm_16 := hm_16 (); omega
          · omega
  refine j_blx (F := fX1) tb_X1 (nn_ _) bk_X1_takeClub_0 bs_X1_takeClub_0 hz (fun K hK => ?_)
  refine ix_i (by omega) ?_
  intro b10 b10b
  refine ix_i (by omega) ?_
  intro b11 b11b
  refine hK 16 [some (vR 101 0), some (vI (T 428 0 (T 432 0 0))), some (vI 0), some (vI 0)] [] T ?_
  refine c_16 _ 0 0 (T 428 0 (T 432 0 0)) (Nat.le_refl _) ?_
  · omega
abbrev cX1_place : ByteArray := prog_3_method_8_code
def yX1_place : MethodName := ⟨RX1, "place", "(I)V"⟩
def zX1_place : Zm := (RX1, cX1_place, 5, none, { frames := 1, cells := 0, slots := 0, locals := 27 })
theorem bk_X1_place_14 : ck_ fX1 none cX1_place 14 [.iload 4, .aload 0, .tableswitch 0 1 1 #[], .if_icmp .ge 72, .iload 3, .aload 0, .tableswitch 0 1 11 #[], .iload 1, .iconst 4, .imul, .iload 4, .iadd, .iaload, .fadd, .istore 3, .iload 3, .iload 2, .if_icmp .le 66, .aload 0, .tableswitch 0 1 9 #[], .iload 1, .iload 4, .iastore, .aload 0, .dup, .tableswitch 0 1 4 #[], .iconst 1, .fadd, .tableswitch 1 1 4 #[], .aload 0, .iconst 0, .tableswitch 1 1 7 #[], .return_] 66 = true := qck_r (nn_ _) (by decide +kernel)
theorem bs_X1_place_14 {P : Zt → Option Zv → Prop} (K : Int → Zl → List Zv → Zt → Prop) : sx_ K P [.iload 4, .aload 0, .tableswitch 0 1 1 #[], .if_icmp .ge 72, .iload 3, .aload 0, .tableswitch 0 1 11 #[], .iload 1, .iconst 4, .imul, .iload 4, .iadd, .iaload, .fadd, .istore 3, .iload 3, .iload 2, .if_icmp .le 66, .aload 0, .tableswitch 0 1 9 #[], .iload 1, .iload 4, .iastore, .aload 0, .dup, .tableswitch 0 1 4 #[], .iconst 1, .fadd, .tableswitch 1 1 4 #[], .aload 0, .iconst 0, .tableswitch 1 1 7 #[], .return_] 66 = x_iload 4 (x_aload 0 (x_g0 101 1 0 4 (x_if_icmp .ge 72 K (x_iload 3 (x_aload 0 (x_g1 101 431 (x_iload 1 (x_iconst 4 (x_imul (x_iload 4 (x_iadd (x_iaload (x_fadd (x_istore 3 (x_iload 3 (x_iload 2 (x_if_icmp .le 66 K (x_aload 0 (x_g1 101 429 (x_iload 1 (x_iload 4 (x_iastore (x_aload 0 (x_dup (x_g0 101 4 (-2147483648) 2147483647 (x_iconst 1 (x_fadd (x_p 101 4 (-2147483648) 2147483647 (x_aload 0 (x_iconst 0 (x_p 101 7 0 1 (x_return_ P)))))))))))))))))))))))))))))))) := ((xe_iload 4).trans (congrArg (x_iload 4) ((xe_aload 0).trans (congrArg (x_aload 0) ((xe_g0 (kk := 101) rfl tl_1_1).trans (congrArg (x_g0 101 1 0 4) ((xe_if_icmp .ge 72).trans (congrArg (x_if_icmp .ge 72 K) ((xe_iload 3).trans (congrArg (x_iload 3) ((xe_aload 0).trans (congrArg (x_aload 0) ((xe_g1 (kk := 101) rfl tl_1_11).trans (congrArg (x_g1 101 431) ((xe_iload 1).trans (congrArg (x_iload 1) ((xe_iconst 4).trans (congrArg (x_iconst 4) ((xe_imul).trans (congrArg (x_imul) ((xe_iload 4).trans (congrArg (x_iload 4) ((xe_iadd).trans (congrArg (x_iadd) ((xe_iaload).trans (congrArg (x_iaload) ((xe_fadd).trans (congrArg (x_fadd) ((xe_istore 3).trans (congrArg (x_istore 3) ((xe_iload 3).trans (congrArg (x_iload 3) ((xe_iload 2).trans (congrArg (x_iload 2) ((xe_if_icmp .le 66).trans (congrArg (x_if_icmp .le 66 K) ((xe_aload 0).trans (congrArg (x_aload 0) ((xe_g1 (kk := 101) rfl tl_1_9).trans (congrArg (x_g1 101 429) ((xe_iload 1).trans (congrArg (x_iload 1) ((xe_iload 4).trans (congrArg (x_iload 4) ((xe_iastore).trans (congrArg (x_iastore) ((xe_aload 0).trans (congrArg (x_aload 0) ((xe_dup).trans (congrArg (x_dup) ((xe_g0 (kk := 101) rfl tl_1_4).trans (congrArg (x_g0 101 4 (-2147483648) 2147483647) ((xe_iconst 1).trans (congrArg (x_iconst 1) ((xe_fadd).trans (congrArg (x_fadd) ((xe_p (kk := 101) rfl tl_1_4).trans (congrArg (x_p 101 4 (-2147483648) 2147483647) ((xe_aload 0).trans (congrArg (x_aload 0) ((xe_iconst 0).trans (congrArg (x_iconst 0) ((xe_p (kk := 101) rfl tl_1_7).trans (congrArg (x_p 101 7 0 1) (xe_return_)))))))))))))))))))))))))))))))))))))))))))))))))))))))))))))))))
theorem bk_X1_place_72 : ck_ fX1 none cX1_place 72 [.return_] 73 = true := qck_r (nn_ _) (by decide +kernel)
theorem bs_X1_place_72 {P : Zt → Option Zv → Prop} (K : Int → Zl → List Zv → Zt → Prop) : sx_ K P [.return_] 73 = x_return_ P := (xe_return_)
theorem bk_X1_place_66 : ck_ fX1 none cX1_place 66 [.iinc 4 1, .goto 14] 72 = true := qck_r (nn_ _) (by decide +kernel)
theorem bs_X1_place_66 {P : Zt → Option Zv → Prop} (K : Int → Zl → List Zv → Zt → Prop) : sx_ K P [.iinc 4 1, .goto 14] 72 = x_iinc 4 1 (x_goto 14 K) := ((xe_iinc 4 1).trans (congrArg (x_iinc 4 1) (xe_goto 14)))
theorem bk_X1_place_0 : ck_ fX1 none cX1_place 0 [.aload 0, .aload 0, .tableswitch 0 1 6 #[]] 5 = true := qck_r (nn_ _) (by decide +kernel)
theorem bs_X1_place_0 {P : Zt → Option Zv → Prop} (K : Int → Zl → List Zv → Zt → Prop) : sx_ K P [.aload 0, .aload 0, .tableswitch 0 1 6 #[]] 5 = x_aload 0 (x_aload 0 (x_g0 101 6 (-2147483648) 2147483647 (K 5))) := ((xe_aload 0).trans (congrArg (x_aload 0) ((xe_aload 0).trans (congrArg (x_aload 0) ((xe_g0 (kk := 101) rfl tl_1_6).trans (congrArg (x_g0 101 6 (-2147483648) 2147483647) xe_nil))))))
theorem bk_X1_place_8 : ck_ fX1 none cX1_place 8 [.istore 2, .iconst 0, .istore 3, .iconst 0, .istore 4] 14 = true := qck_r (nn_ _) (by decide +kernel)
theorem bs_X1_place_8 {P : Zt → Option Zv → Prop} (K : Int → Zl → List Zv → Zt → Prop) : sx_ K P [.istore 2, .iconst 0, .istore 3, .iconst 0, .istore 4] 14 = x_istore 2 (x_iconst 0 (x_istore 3 (x_iconst 0 (x_istore 4 (K 14))))) := ((xe_istore 2).trans (congrArg (x_istore 2) ((xe_iconst 0).trans (congrArg (x_iconst 0) ((xe_istore 3).trans (congrArg (x_istore 3) ((xe_iconst 0).trans (congrArg (x_iconst 0) ((xe_istore 4).trans (congrArg (x_istore 4) xe_nil))))))))))
abbrev po_X1_place (T : Zt) (c : Int) : Zt → Option Zv → Prop := fun T' r => r = none ∧ fr_ [(101, [5, 4, 7]), (429, [])] T T' ∧ (0 = (0 : Int))
set_option maxHeartbeats 4000000 in
theorem ct_X1_place {T : Zt} {c : Int} (h1 : 0 ≤ c ∧ c < 12) : Ct_ yX1_place zX1_place T [vR 101 0, vI c] (po_X1_place T c) := by
  refine ct_of pn_1 rfl rfl (Nat.le_of_ble_eq_true rfl) (fun hT hav => ?_)
  have hr_c : -2147483648 ≤ c ∧ c ≤ 2147483647 := hav (vI c) (List.mem_cons_of_mem _ List.mem_cons_self)
  have hz : zX1_place.2.2.2.1 = some .boolean → ∀ (T' : Zt) (x : Int), po_X1_place T c T' (some (vI x)) → 0 ≤ x ∧ x ≤ 1 := fun h => by cases h
  have hgr : 0 ≤ T 101 0 1 ∧ T 101 0 1 ≤ 4 := bd_f hT 101 1 tl_1_1 0
  show J_ zX1_place T (po_X1_place T c) 0 0 0 [some (vR 101 0), some (vI c), none, none, none] [] T
  have c_14 : ∀ (nn : Nat) (t : Int) (u : Int) (g : Int) (T1 : Zt), ((4 - g).toNat) ≤ nn → (fr_ [(101, [5])] T T1) → (0 ≤ g) → J_ zX1_place T (po_X1_place T c) 0 0 14 [some (vR 101 0), some (vI c), some (vI t), some (vI u), some (vI g)] [] T1 := by
    intro nn
    induction nn using Nat.strongRecOn with
    | _ nn ih_14 =>
      intro t u g T1 hm_14 hf_14 i1
      replace hm_14 := fun (_ : Unit) => hm_14
      refine j_blx (F := fX1) tb_X1 (nn_ _) bk_X1_place_14 bs_X1_place_14 hz (fun K hK => ?_)
      intro b1 b1b
      have e2 : T1 101 0 1 = T 101 0 1 := hf_14 101 0 1 rfl
      rw [e2] at b1 b1b ⊢
      refine And.intro (fun c3 => ?_) (fun c3 => ?_)
      · refine hK 72 _ [] T1 ?_
        refine j_blx (F := fX1) tb_X1 (nn_ _) bk_X1_place_72 bs_X1_place_72 hz (fun K hK => ?_)
        refine (show po_X1_place T c T1 (none) from ?_)
        exact ⟨rfl, fr_t (fr_0 _ _) (fr_s hf_14 rfl), by rfl⟩
      · refine rg_i (by omega) ?_
        refine rg_i (by omega) ?_
        refine ix_i (by omega) ?_
        intro b4 b4b
        have e5 : T1 431 0 ((c * 4) + g) = T 431 0 ((c * 4) + g) := hf_14 431 0 ((c * 4) + g) rfl
        rw [e5] at b4 b4b ⊢
        intro w6 w6b
        refine And.intro (fun c7 => ?_) (fun c7 => ?_)
        · refine hK 66 [some (vR 101 0), some (vI c), some (vI t), some (vI (wr_ (u + (T 431 0 ((c * 4) + g))))), some (vI g)] [] T1 ?_
          refine j_blx (F := fX1) tb_X1 (nn_ _) bk_X1_place_66 bs_X1_place_66 hz (fun K hK => ?_)
          refine rg_i (by omega) ?_
          refine hK 14 [some (vR 101 0), some (vI c), some (vI t), some (vI (wr_ (u + (T 431 0 ((c * 4) + g))))), some (vI (g + 1))] [] T1 ?_
          refine ih_14 _ ?_ t (wr_ (u + (T 431 0 ((c * 4) + g)))) (g + 1) T1 (Nat.le_refl _) ?_ ?_
          · have hm_14 := hm_14 (); omega
          · exact fr_t (fr_0 _ _) (fr_s hf_14 rfl)
          · omega
        · refine iy_i (by omega) (by omega) ?_
          refine x_nm (fun U8 hU8 => ?_)
          have e9 := up_f hU8
          intro b10 b10b
          have e11 : U8 101 0 4 = T 101 0 4 := (up_k hU8 (by exact Nat.ne_of_beq_eq_false rfl) 0 4).trans (hf_14 101 0 4 rfl)
          rw [e11] at b10 b10b ⊢
          intro w12 w12b
          refine bd_i (by omega) ?_
          refine x_nm (fun U13 hU13 => ?_)
          have e14 := up_f hU13
          refine bd_i (by omega) ?_
          refine x_nm (fun U15 hU15 => ?_)
          have e16 := up_f hU15
          refine (show po_X1_place T c U15 (none) from ?_)
          exact ⟨rfl, fr_u (fr_u (fr_u (fr_t (fr_0 _ _) (fr_s hf_14 rfl)) hU8 rfl) hU13 rfl) hU15 rfl, by rfl⟩
  refine j_blx (F := fX1) tb_X1 (nn_ _) bk_X1_place_0 bs_X1_place_0 hz (fun K hK => ?_)
  intro b17 b17b
  refine hK 5 _ [vI (T 101 0 6), vR 101 0] T ?_
  refine j_callV (y := yX1_takeBelow) (Yc := zX1_takeBelow) (rest := []) [vI (T 101 0 6)] (ct_X1_takeBelow (T := T)) cl_X1_75 (qd_c (by decide +kernel)) (nn_ _) rfl (rf_of rfl) (Nat.le_of_ble_eq_true rfl) (Nat.le_of_ble_eq_true rfl) (Nat.le_of_ble_eq_true rfl) rfl ?_
  rintro U18 _ ⟨x19, rfl, fU18, qU18⟩
  show J_ zX1_place T (po_X1_place T c) 0 0 8 _ [vI x19] U18
  refine j_blx (F := fX1) tb_X1 (nn_ _) bk_X1_place_8 bs_X1_place_8 hz (fun K hK => ?_)
  refine hK 14 [some (vR 101 0), some (vI c), some (vI x19), some (vI 0), some (vI 0)] [] U18 ?_
  refine c_14 _ x19 0 0 U18 (Nat.le_refl _) ?_ ?_
  · exact fr_t (fr_0 _ _) (fr_s fU18 rfl)
  · omega
abbrev cX3_isFormed : ByteArray := prog_5_method_6_code
def yX3_isFormed : MethodName := ⟨RX3, "isFormed", "(II)Z"⟩
def zX3_isFormed : Zm := (RX3, cX3_isFormed, 4, (some .boolean), { frames := 1, cells := 0, slots := 0, locals := 20 })
set_option maxRecDepth 100000 in
theorem cn_X3_89 : cn_ zX10_isSide 1 := ⟨gi_c (lwq_4 (dqc_m (dqc_m (dqc_m (dqc_m (dqa_m (List.mem_of_getElem? (i := 1) rfl)))))) rfl : Cond.code yX10_isSide cX10_isSide 1 (some .boolean) ∈ lw_g), (lwq_4 (dqc_m (dqc_m (dqc_m (dqc_m (dqa_m (List.mem_of_getElem? (i := 0) rfl)))))) rfl : Cond.static yX10_isSide ∈ lw_g), (lwq_1 (List.mem_of_getElem? (i := 1) rfl) rfl : Cond.initialized "SportsHouse" ∈ lw_g), ⟨by decide, by decide, by decide +kernel⟩⟩
theorem ds_X3_isFormed_6 : decode cX3_isFormed 6 = .ok (.tableswitch 83 0 2 #[26, 44, 63], 26) := by decide +kernel
abbrev cX3_brokenLaw : ByteArray := prog_5_method_5_code
def yX3_brokenLaw : MethodName := ⟨RX3, "brokenLaw", "(IIII)I"⟩
def zX3_brokenLaw : Zm := (RX3, cX3_brokenLaw, 5, (some .int), { frames := 2, cells := 0, slots := 0, locals := 45 })
set_option maxRecDepth 100000 in
theorem cl_X3_86 : cv_ RX3 86 yX3_isBounded zX3_isBounded 3 2 := ⟨gi_V (lwq_5 (dqc_m (dqa_m (dqa_m (dqa_m (List.mem_of_getElem? (i := 0) rfl))))) rfl : Cond.methodLink RX3 86 yX3_isBounded ∈ lw_g) (lwq_5 (dqc_m (dqa_m (dqa_m (dqa_m (List.mem_of_getElem? (i := 1) rfl))))) rfl : Cond.instanceMethod yX3_isBounded ∈ lw_g) (lwq_5 (dqc_m (dqa_m (dqa_m (dqa_m (List.mem_of_getElem? (i := 2) rfl))))) rfl : Cond.selects yX3_isBounded.cls yX3_isBounded yX3_isBounded ∈ lw_g) (lwq_1 (dqa_m (dqa_m (List.mem_of_getElem? (i := 2) rfl))) rfl : Cond.initialized yX3_isBounded.cls ∈ lw_g) (lwq_5 (dqc_m (dqa_m (dqa_m (dqa_m (List.mem_of_getElem? (i := 3) rfl))))) rfl : Cond.code yX3_isBounded cX3_isBounded 3 (some .boolean) ∈ lw_g), ⟨nmh_3.1, nmh_3.2, pdq_5⟩, ⟨_, _, rfl⟩⟩
set_option maxRecDepth 100000 in
theorem cl_X3_68 : cv_ RX3 68 yX3_isFormed zX3_isFormed 3 2 := ⟨gi_V (lwq_5 (dqa_m (dqa_m (dqa_m (List.mem_of_getElem? (i := 7) rfl)))) rfl : Cond.methodLink RX3 68 yX3_isFormed ∈ lw_g) (lwq_5 (dqc_m (List.mem_of_getElem? (i := 0) rfl)) rfl : Cond.instanceMethod yX3_isFormed ∈ lw_g) (lwq_5 (dqc_m (List.mem_of_getElem? (i := 1) rfl)) rfl : Cond.selects yX3_isFormed.cls yX3_isFormed yX3_isFormed ∈ lw_g) (lwq_1 (dqa_m (dqa_m (List.mem_of_getElem? (i := 2) rfl))) rfl : Cond.initialized yX3_isFormed.cls ∈ lw_g) (lwq_5 (dqc_m (List.mem_of_getElem? (i := 2) rfl)) rfl : Cond.code yX3_isFormed cX3_isFormed 4 (some .boolean) ∈ lw_g), ⟨nmh_3.1, nmh_3.2, pdq_5⟩, ⟨_, _, rfl⟩⟩
set_option maxRecDepth 100000 in
theorem cl_X3_72 : cv_ RX3 72 yX3_isAllowed zX3_isAllowed 3 2 := ⟨gi_V (lwq_5 (dqc_m (List.mem_of_getElem? (i := 4) rfl)) rfl : Cond.methodLink RX3 72 yX3_isAllowed ∈ lw_g) (lwq_5 (dqc_m (List.mem_of_getElem? (i := 6) rfl)) rfl : Cond.instanceMethod yX3_isAllowed ∈ lw_g) (lw_sel 90 rfl : Cond.selects yX3_isAllowed.cls yX3_isAllowed yX3_isAllowed ∈ lw_g) (lwq_1 (dqa_m (dqa_m (List.mem_of_getElem? (i := 2) rfl))) rfl : Cond.initialized yX3_isAllowed.cls ∈ lw_g) (lwq_5 (dqc_m (List.mem_of_getElem? (i := 7) rfl)) rfl : Cond.code yX3_isAllowed cX3_isAllowed 3 (some .boolean) ∈ lw_g), ⟨nmh_3.1, nmh_3.2, pdq_5⟩, ⟨_, _, rfl⟩⟩
set_option maxRecDepth 100000 in
theorem cl_X3_75 : cv_ RX3 75 yX3_needsPerson zX3_needsPerson 3 1 := ⟨gi_V (lwq_5 (dqc_m (dqa_m (List.mem_of_getElem? (i := 0) rfl))) rfl : Cond.methodLink RX3 75 yX3_needsPerson ∈ lw_g) (lwq_5 (dqc_m (dqa_m (List.mem_of_getElem? (i := 2) rfl))) rfl : Cond.instanceMethod yX3_needsPerson ∈ lw_g) (lw_sel 92 rfl : Cond.selects yX3_needsPerson.cls yX3_needsPerson yX3_needsPerson ∈ lw_g) (lwq_1 (dqa_m (dqa_m (List.mem_of_getElem? (i := 2) rfl))) rfl : Cond.initialized yX3_needsPerson.cls ∈ lw_g) (lwq_5 (dqc_m (dqa_m (List.mem_of_getElem? (i := 3) rfl))) rfl : Cond.code yX3_needsPerson cX3_needsPerson 2 (some .boolean) ∈ lw_g), ⟨nmh_3.1, nmh_3.2, pdq_7⟩, ⟨_, _, rfl⟩⟩
