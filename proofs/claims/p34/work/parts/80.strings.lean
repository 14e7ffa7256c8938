theorem bv_all : ∀ i, i < 3 → ∀ v ∈ sby_.getD i [], 0 ≤ v.toInt ∧ v.toInt ≤ 127 := by decide +kernel
/-- a byte of a text -/
def cb8_ (i : Nat) (x : Int) : Int := ((sby_.getD i []).getD x.toNat 0).toInt
theorem bv_k {i : Nat} (hi : i < 3) (k : Nat) : 0 ≤ ((sby_.getD i []).getD k 0).toInt ∧ ((sby_.getD i []).getD k 0).toInt ≤ 127 := by
  rw [List.getD_eq_getElem?_getD (l := sby_.getD i [])]
  cases h : (sby_.getD i [])[k]? with
  | none => exact ⟨by decide, by decide⟩
  | some v => exact bv_all i hi v (List.mem_of_getElem? h)
theorem cb8_b {i : Nat} (hi : i < 3) (x : Int) : 0 ≤ cb8_ i x ∧ cb8_ i x ≤ 127 := bv_k hi _
theorem an_255 : ∀ n : Nat, n < 128 → an_ (n : Int) 255 = (n : Int) := by decide +kernel
theorem an_25 {x : Int} (h : 0 ≤ x ∧ x ≤ 127) : an_ x 255 = x := by
  have h1 := an_255 x.toNat (by omega)
  rw [show ((x.toNat : Nat) : Int) = x by omega] at h1
  exact h1
abbrev RJ0 : String := "java/lang/String"
def fJ0 : Zf := ([], [], [], [])
theorem tb_J0 : tb_ RJ0 fJ0 := ⟨fun _ h => absurd h List.not_mem_nil, fun _ h => absurd h List.not_mem_nil, fun _ h => absurd h List.not_mem_nil, fun _ h => absurd h List.not_mem_nil⟩
abbrev RJ1 : String := "java/lang/StringLatin1"
def fJ1 : Zf := ([], [], [], [])
theorem tb_J1 : tb_ RJ1 fJ1 := ⟨fun _ h => absurd h List.not_mem_nil, fun _ h => absurd h List.not_mem_nil, fun _ h => absurd h List.not_mem_nil, fun _ h => absurd h List.not_mem_nil⟩
abbrev RJ3 : String := "jdk/internal/util/Preconditions"
def fJ3 : Zf := ([], [], [], [])
theorem tb_J3 : tb_ RJ3 fJ3 := ⟨fun _ h => absurd h List.not_mem_nil, fun _ h => absurd h List.not_mem_nil, fun _ h => absurd h List.not_mem_nil, fun _ h => absurd h List.not_mem_nil⟩
abbrev cJ3_checkIndex_8e157 : ByteArray := prog_22_method_11_code
def yJ3_checkIndex_8e157 : MethodName := ⟨RJ3, "checkIndex", "(IILjava/util/function/BiFunction;)I"⟩
def zJ3_checkIndex_8e157 : Zm := (RJ3, cJ3_checkIndex_8e157, 3, (some .int), { frames := 0, cells := 0, slots := 0, locals := 0 })
theorem bk_J3_checkIndex_8e157_0 : ck_ fJ3 (some .int) cJ3_checkIndex_8e157 0 [.iload 0, .ifCond .lt 9, .iload 0, .iload 1, .if_icmp .lt 16, .aload 2, .iload 0, .iload 1] 12 = true := qck_r (nn_ _) (by decide +kernel)
theorem bs_J3_checkIndex_8e157_0 {P : Zt → Option Zv → Prop} (K : Int → Zl → List Zv → Zt → Prop) : sx_ K P [.iload 0, .ifCond .lt 9, .iload 0, .iload 1, .if_icmp .lt 16, .aload 2, .iload 0, .iload 1] 12 = x_iload 0 (x_ifCond .lt 9 K (x_iload 0 (x_iload 1 (x_if_icmp .lt 16 K (x_aload 2 (x_iload 0 (x_iload 1 (K 12)))))))) := ((xe_iload 0).trans (congrArg (x_iload 0) ((xe_ifCond .lt 9).trans (congrArg (x_ifCond .lt 9 K) ((xe_iload 0).trans (congrArg (x_iload 0) ((xe_iload 1).trans (congrArg (x_iload 1) ((xe_if_icmp .lt 16).trans (congrArg (x_if_icmp .lt 16 K) ((xe_aload 2).trans (congrArg (x_aload 2) ((xe_iload 0).trans (congrArg (x_iload 0) ((xe_iload 1).trans (congrArg (x_iload 1) xe_nil))))))))))))))))
theorem bk_J3_checkIndex_8e157_16 : ck_ fJ3 (some .int) cJ3_checkIndex_8e157 16 [.iload 0, .ireturn] 18 = true := qck_r (nn_ _) (by decide +kernel)
theorem bs_J3_checkIndex_8e157_16 {P : Zt → Option Zv → Prop} (K : Int → Zl → List Zv → Zt → Prop) : sx_ K P [.iload 0, .ireturn] 18 = x_iload 0 (x_ireturn P) := ((xe_iload 0).trans (congrArg (x_iload 0) (xe_ireturn)))
abbrev po_J3_checkIndex_n (T : Zt) (a n : Int) : Zt → Option Zv → Prop := fun T' r => T = T' ∧ r = some (vI (a))
set_option maxHeartbeats 4000000 in
theorem ct_J3_checkIndex_n {T : Zt} {a n : Int} (h1 : 0 ≤ a ∧ a < n) : Ct_ yJ3_checkIndex_8e157 zJ3_checkIndex_8e157 T [vI a, vI n, vN] (po_J3_checkIndex_n T a n) := by
  refine ct_of (by decide) rfl rfl (Nat.le_of_ble_eq_true rfl) (fun hT hav => ?_)
  have hr_a : -2147483648 ≤ a ∧ a ≤ 2147483647 := hav (vI a) List.mem_cons_self
  have hr_n : -2147483648 ≤ n ∧ n ≤ 2147483647 := hav (vI n) (List.mem_cons_of_mem _ List.mem_cons_self)
  have hz : zJ3_checkIndex_8e157.2.2.2.1 = some .boolean → ∀ (T' : Zt) (x : Int), po_J3_checkIndex_n T a n T' (some (vI x)) → 0 ≤ x ∧ x ≤ 1 := fun h => by cases h
  show J_ zJ3_checkIndex_8e157 T (po_J3_checkIndex_n T a n) 0 0 0 [some (vI a), some (vI n), some (vN)] [] T
  refine j_blx (F := fJ3) tb_J3 (nn_ _) bk_J3_checkIndex_8e157_0 bs_J3_checkIndex_8e157_0 hz (fun K hK => ?_)
  refine And.intro (fun c1 => ?_) (fun c1 => ?_)
  · exact absurd c1 (by omega)
  · refine And.intro (fun c2 => ?_) (fun c2 => ?_)
    · refine hK 16 _ [] T ?_
      refine j_blx (F := fJ3) tb_J3 (nn_ _) bk_J3_checkIndex_8e157_16 bs_J3_checkIndex_8e157_16 hz (fun K hK => ?_)
      refine (show po_J3_checkIndex_n T a n T (some (vI a)) from ?_)
      exact ⟨rfl, rfl⟩
    · exact absurd c2 (by omega)
abbrev po_J3_checkIndex_r (T : Zt) (a n : Int) : Zt → Option Zv → Prop := fun T' r => T = T' ∧ r = some (vI (a))
set_option maxHeartbeats 4000000 in
theorem ct_J3_checkIndex_r {T : Zt} {a n : Int} (h1 : 0 ≤ a ∧ a < n) : Ct_ yJ3_checkIndex_8e157 zJ3_checkIndex_8e157 T [vI a, vI n, vR 84 0] (po_J3_checkIndex_r T a n) := by
  refine ct_of (by decide) rfl rfl (Nat.le_of_ble_eq_true rfl) (fun hT hav => ?_)
  have hr_a : -2147483648 ≤ a ∧ a ≤ 2147483647 := hav (vI a) List.mem_cons_self
  have hr_n : -2147483648 ≤ n ∧ n ≤ 2147483647 := hav (vI n) (List.mem_cons_of_mem _ List.mem_cons_self)
  have hz : zJ3_checkIndex_8e157.2.2.2.1 = some .boolean → ∀ (T' : Zt) (x : Int), po_J3_checkIndex_r T a n T' (some (vI x)) → 0 ≤ x ∧ x ≤ 1 := fun h => by cases h
  show J_ zJ3_checkIndex_8e157 T (po_J3_checkIndex_r T a n) 0 0 0 [some (vI a), some (vI n), some (vR 84 0)] [] T
  refine j_blx (F := fJ3) tb_J3 (nn_ _) bk_J3_checkIndex_8e157_0 bs_J3_checkIndex_8e157_0 hz (fun K hK => ?_)
  refine And.intro (fun c1 => ?_) (fun c1 => ?_)
  · exact absurd c1 (by omega)
  · refine And.intro (fun c2 => ?_) (fun c2 => ?_)
    · refine hK 16 _ [] T ?_
      refine j_blx (F := fJ3) tb_J3 (nn_ _) bk_J3_checkIndex_8e157_16 bs_J3_checkIndex_8e157_16 hz (fun K hK => ?_)
      refine (show po_J3_checkIndex_r T a n T (some (vI a)) from ?_)
      exact ⟨rfl, rfl⟩
    · exact absurd c2 (by omega)
abbrev cJ0_checkIndex_df160 : ByteArray := prog_17_method_155_code
def yJ0_checkIndex_df160 : MethodName := ⟨RJ0, "checkIndex", "(II)V"⟩
def zJ0_checkIndex_df160 : Zm := (RJ0, cJ0_checkIndex_df160, 2, none, { frames := 1, cells := 0, slots := 0, locals := 22 })
theorem bk_J0_checkIndex_df160_0 : ck_ fJ0 none cJ0_checkIndex_df160 0 [.iload 0, .iload 1] 2 = true := qck_r (nn_ _) (by decide +kernel)
theorem bs_J0_checkIndex_df160_0 {P : Zt → Option Zv → Prop} (K : Int → Zl → List Zv → Zt → Prop) : sx_ K P [.iload 0, .iload 1] 2 = x_iload 0 (x_iload 1 (K 2)) := ((xe_iload 0).trans (congrArg (x_iload 0) ((xe_iload 1).trans (congrArg (x_iload 1) xe_nil))))
set_option maxRecDepth 100000 in
theorem cl_J0_1059 : cs_ RJ0 1059 yJ3_checkIndex_8e157 zJ3_checkIndex_8e157 3 := ⟨gi_S (lwq_3 (dqa_m (dqa_m (List.mem_of_getElem? (i := 5) rfl))) rfl : Cond.methodLink RJ0 1059 yJ3_checkIndex_8e157 ∈ lw_g) (lwq_3 (dqa_m (dqa_m (List.mem_of_getElem? (i := 6) rfl))) rfl : Cond.static yJ3_checkIndex_8e157 ∈ lw_g) (lwq_1 (dqa_m (List.mem_of_getElem? (i := 5) rfl)) rfl : Cond.initialized yJ3_checkIndex_8e157.cls ∈ lw_g) (lwq_3 (dqa_m (dqa_m (List.mem_of_getElem? (i := 7) rfl))) rfl : Cond.code yJ3_checkIndex_8e157 cJ3_checkIndex_8e157 3 (some .int) ∈ lw_g), ⟨by decide, by decide, by decide +kernel⟩⟩
theorem bk_J0_checkIndex_df160_8 : ck_ fJ0 none cJ0_checkIndex_df160 8 [.pop, .return_] 10 = true := qck_r (nn_ _) (by decide +kernel)
theorem bs_J0_checkIndex_df160_8 {P : Zt → Option Zv → Prop} (K : Int → Zl → List Zv → Zt → Prop) : sx_ K P [.pop, .return_] 10 = x_pop (x_return_ P) := ((xe_pop).trans (congrArg (x_pop) (xe_return_)))
abbrev po_J0_checkIndex_df160 (T : Zt) (a n : Int) : Zt → Option Zv → Prop := fun T' r => T = T' ∧ r = none
set_option maxHeartbeats 4000000 in
theorem ct_J0_checkIndex_df160 {T : Zt} {a n : Int} (h1 : 0 ≤ a ∧ a < n) : Ct_ yJ0_checkIndex_df160 zJ0_checkIndex_df160 T [vI a, vI n] (po_J0_checkIndex_df160 T a n) := by
  refine ct_of (by decide) rfl rfl (Nat.le_of_ble_eq_true rfl) (fun hT hav => ?_)
  have hr_a : -2147483648 ≤ a ∧ a ≤ 2147483647 := hav (vI a) List.mem_cons_self
  have hr_n : -2147483648 ≤ n ∧ n ≤ 2147483647 := hav (vI n) (List.mem_cons_of_mem _ List.mem_cons_self)
  have hz : zJ0_checkIndex_df160.2.2.2.1 = some .boolean → ∀ (T' : Zt) (x : Int), po_J0_checkIndex_df160 T a n T' (some (vI x)) → 0 ≤ x ∧ x ≤ 1 := fun h => by cases h
  show J_ zJ0_checkIndex_df160 T (po_J0_checkIndex_df160 T a n) 0 0 0 [some (vI a), some (vI n)] [] T
  refine j_blx (F := fJ0) tb_J0 (nn_ _) bk_J0_checkIndex_df160_0 bs_J0_checkIndex_df160_0 hz (fun K hK => ?_)
  refine hK 2 _ [vI n, vI a] T ?_
  refine j_gsF (pc := 2) (by decide) (lwq_3 (dqa_m (dqa_m (List.mem_of_getElem? (i := 3) rfl))) rfl : Cond.fieldLink RJ0 1053 "jdk/internal/util/Preconditions" "SIOOBE_FORMATTER" "Ljava/util/function/BiFunction;" ∈ lw_g) (by decide +kernel) ?_ ?_
  · show J_ zJ0_checkIndex_df160 T (po_J0_checkIndex_df160 T a n) 0 0 5 _ [vN, vI n, vI a] T
    refine j_callS (y := yJ3_checkIndex_8e157) (Yc := zJ3_checkIndex_8e157) (rest := []) [vI a, vI n, vN] (ct_J3_checkIndex_n (T := T) (by omega)) cl_J0_1059 (qd_c (by decide +kernel)) (nn_ _) rfl (rf_of rfl) (Nat.le_of_ble_eq_true rfl) (Nat.le_of_ble_eq_true rfl) (Nat.le_of_ble_eq_true rfl) rfl ?_
    rintro _ _ ⟨rfl, rfl⟩
    show J_ zJ0_checkIndex_df160 T (po_J0_checkIndex_df160 T a n) 0 0 8 _ [vI a] T
    refine j_blx (F := fJ0) tb_J0 (nn_ _) bk_J0_checkIndex_df160_8 bs_J0_checkIndex_df160_8 hz (fun K hK => ?_)
    refine (show po_J0_checkIndex_df160 T a n T (none) from ?_)
    exact ⟨rfl, rfl⟩
  · show J_ zJ0_checkIndex_df160 T (po_J0_checkIndex_df160 T a n) 0 0 5 _ [vR 84 0, vI n, vI a] T
    refine j_callS (y := yJ3_checkIndex_8e157) (Yc := zJ3_checkIndex_8e157) (rest := []) [vI a, vI n, vR 84 0] (ct_J3_checkIndex_r (T := T) (by omega)) cl_J0_1059 (qd_c (by decide +kernel)) (nn_ _) rfl (rf_of rfl) (Nat.le_of_ble_eq_true rfl) (Nat.le_of_ble_eq_true rfl) (Nat.le_of_ble_eq_true rfl) rfl ?_
    rintro _ _ ⟨rfl, rfl⟩
    show J_ zJ0_checkIndex_df160 T (po_J0_checkIndex_df160 T a n) 0 0 8 _ [vI a] T
    refine j_blx (F := fJ0) tb_J0 (nn_ _) bk_J0_checkIndex_df160_8 bs_J0_checkIndex_df160_8 hz (fun K hK => ?_)
    refine (show po_J0_checkIndex_df160 T a n T (none) from ?_)
    exact ⟨rfl, rfl⟩
abbrev cJ0_coder_7d493 : ByteArray := prog_17_method_152_code
def yJ0_coder_7d493 : MethodName := ⟨RJ0, "coder", "()B"⟩
def zJ0_coder_7d493 : Zm := (RJ0, cJ0_coder_7d493, 1, (some .byte), { frames := 0, cells := 0, slots := 0, locals := 0 })
theorem bk_J0_coder_7d493_3 : ck_ fJ0 (some .byte) cJ0_coder_7d493 3 [.ifCond .eq 13, .aload 0] 7 = true := qck_r (nn_ _) (by decide +kernel)
theorem bs_J0_coder_7d493_3 {P : Zt → Option Zv → Prop} (K : Int → Zl → List Zv → Zt → Prop) : sx_ K P [.ifCond .eq 13, .aload 0] 7 = x_ifCond .eq 13 K (x_aload 0 (K 7)) := ((xe_ifCond .eq 13).trans (congrArg (x_ifCond .eq 13 K) ((xe_aload 0).trans (congrArg (x_aload 0) xe_nil))))
theorem bk_J0_coder_7d493_10 : ck_ fJ0 (some .byte) cJ0_coder_7d493 10 [.goto 14] 13 = true := qck_r (nn_ _) (by decide +kernel)
theorem bs_J0_coder_7d493_10 {P : Zt → Option Zv → Prop} (K : Int → Zl → List Zv → Zt → Prop) : sx_ K P [.goto 14] 13 = x_goto 14 K := (xe_goto 14)
abbrev po_J0_coder_0 (T : Zt) : Zt → Option Zv → Prop := fun T' r => T = T' ∧ r = some (vI (0))
set_option maxHeartbeats 4000000 in
theorem ct_J0_coder_0 {T : Zt} : Ct_ yJ0_coder_7d493 zJ0_coder_7d493 T [vR 82 0] (po_J0_coder_0 T) := by
  refine ct_of (by decide) rfl rfl (Nat.le_of_ble_eq_true rfl) (fun hT hav => ?_)
  have hz : zJ0_coder_7d493.2.2.2.1 = some .boolean → ∀ (T' : Zt) (x : Int), po_J0_coder_0 T T' (some (vI x)) → 0 ≤ x ∧ x ≤ 1 := fun h => by cases h
  show J_ zJ0_coder_7d493 T (po_J0_coder_0 T) 0 0 0 [some (vR 82 0)] [] T
  refine j_gsC (pc := 0) (by decide) (lwq_3 (List.mem_of_getElem? (i := 3) rfl) rfl : Cond.fieldLink RJ0 38 "java/lang/String" "COMPACT_STRINGS" "Z" ∈ lw_g) (by decide +kernel) ?_
  show J_ zJ0_coder_7d493 T (po_J0_coder_0 T) 0 0 3 _ [vI 1] T
  refine j_blx (F := fJ0) tb_J0 (nn_ _) bk_J0_coder_7d493_3 bs_J0_coder_7d493_3 hz (fun K hK => ?_)
  refine And.intro (fun c1 => ?_) (fun c1 => ?_)
  · exact absurd c1 (by decide)
  · refine hK 7 _ [vR 82 0] T ?_
    refine j_gfC (pc := 7) (i := 0) (by decide) (by decide) (lwq_10 (dqc_m (dqc_m (dqc_m (dqa_m (dqa_m (List.mem_of_getElem? (i := 7) rfl)))))) rfl : Cond.fieldLink RJ0 15 "java/lang/String" "coder" "B" ∈ lw_g) (by decide +kernel) ?_
    show J_ zJ0_coder_7d493 T (po_J0_coder_0 T) 0 0 10 _ [vI 0] T
    refine j_blx (F := fJ0) tb_J0 (nn_ _) bk_J0_coder_7d493_10 bs_J0_coder_7d493_10 hz (fun K hK => ?_)
    refine hK 14 _ [vI 0] T ?_
    refine j_iretN (pc := 14) (Or.inr rfl) ⟨by decide, by decide⟩ (by decide +kernel) ?_
    refine (show po_J0_coder_0 T T (some (vI 0)) from ?_)
    exact ⟨rfl, rfl⟩
abbrev cJ0_isLatin1_aae02 : ByteArray := prog_17_method_154_code
def yJ0_isLatin1_aae02 : MethodName := ⟨RJ0, "isLatin1", "()Z"⟩
def zJ0_isLatin1_aae02 : Zm := (RJ0, cJ0_isLatin1_aae02, 1, (some .boolean), { frames := 0, cells := 0, slots := 0, locals := 0 })
theorem bk_J0_isLatin1_aae02_3 : ck_ fJ0 (some .boolean) cJ0_isLatin1_aae02 3 [.ifCond .eq 17, .aload 0] 7 = true := qck_r (nn_ _) (by decide +kernel)
theorem bs_J0_isLatin1_aae02_3 {P : Zt → Option Zv → Prop} (K : Int → Zl → List Zv → Zt → Prop) : sx_ K P [.ifCond .eq 17, .aload 0] 7 = x_ifCond .eq 17 K (x_aload 0 (K 7)) := ((xe_ifCond .eq 17).trans (congrArg (x_ifCond .eq 17 K) ((xe_aload 0).trans (congrArg (x_aload 0) xe_nil))))
theorem bk_J0_isLatin1_aae02_10 : ck_ fJ0 (some .boolean) cJ0_isLatin1_aae02 10 [.ifCond .ne 17, .iconst 1, .goto 18] 17 = true := qck_r (nn_ _) (by decide +kernel)
theorem bs_J0_isLatin1_aae02_10 {P : Zt → Option Zv → Prop} (K : Int → Zl → List Zv → Zt → Prop) : sx_ K P [.ifCond .ne 17, .iconst 1, .goto 18] 17 = x_ifCond .ne 17 K (x_iconst 1 (x_goto 18 K)) := ((xe_ifCond .ne 17).trans (congrArg (x_ifCond .ne 17 K) ((xe_iconst 1).trans (congrArg (x_iconst 1) (xe_goto 18)))))
theorem bk_J0_isLatin1_aae02_18 : ck_ fJ0 (some .boolean) cJ0_isLatin1_aae02 18 [.ireturn] 19 = true := qck_r (nn_ _) (by decide +kernel)
theorem bs_J0_isLatin1_aae02_18 {P : Zt → Option Zv → Prop} (K : Int → Zl → List Zv → Zt → Prop) : sx_ K P [.ireturn] 19 = x_ireturn P := (xe_ireturn)
abbrev po_J0_isLatin1_0 (T : Zt) : Zt → Option Zv → Prop := fun T' r => T = T' ∧ r = some (vI (1))
set_option maxHeartbeats 4000000 in
theorem ct_J0_isLatin1_0 {T : Zt} : Ct_ yJ0_isLatin1_aae02 zJ0_isLatin1_aae02 T [vR 82 0] (po_J0_isLatin1_0 T) := by
  refine ct_of (by decide) rfl rfl (Nat.le_of_ble_eq_true rfl) (fun hT hav => ?_)
  have hz : zJ0_isLatin1_aae02.2.2.2.1 = some .boolean → ∀ (T' : Zt) (x : Int), po_J0_isLatin1_0 T T' (some (vI x)) → 0 ≤ x ∧ x ≤ 1 := fun _ T' x h => by obtain ⟨-, e⟩ := h; cases e; omega
  show J_ zJ0_isLatin1_aae02 T (po_J0_isLatin1_0 T) 0 0 0 [some (vR 82 0)] [] T
  refine j_gsC (pc := 0) (by decide) (lwq_3 (List.mem_of_getElem? (i := 3) rfl) rfl : Cond.fieldLink RJ0 38 "java/lang/String" "COMPACT_STRINGS" "Z" ∈ lw_g) (by decide +kernel) ?_
  show J_ zJ0_isLatin1_aae02 T (po_J0_isLatin1_0 T) 0 0 3 _ [vI 1] T
  refine j_blx (F := fJ0) tb_J0 (nn_ _) bk_J0_isLatin1_aae02_3 bs_J0_isLatin1_aae02_3 hz (fun K hK => ?_)
  refine And.intro (fun c1 => ?_) (fun c1 => ?_)
  · exact absurd c1 (by decide)
  · refine hK 7 _ [vR 82 0] T ?_
    refine j_gfC (pc := 7) (i := 0) (by decide) (by decide) (lwq_10 (dqc_m (dqc_m (dqc_m (dqa_m (dqa_m (List.mem_of_getElem? (i := 7) rfl)))))) rfl : Cond.fieldLink RJ0 15 "java/lang/String" "coder" "B" ∈ lw_g) (by decide +kernel) ?_
    show J_ zJ0_isLatin1_aae02 T (po_J0_isLatin1_0 T) 0 0 10 _ [vI 0] T
    refine j_blx (F := fJ0) tb_J0 (nn_ _) bk_J0_isLatin1_aae02_10 bs_J0_isLatin1_aae02_10 hz (fun K hK => ?_)
    refine And.intro (fun c2 => ?_) (fun c2 => ?_)
    · exact absurd c2 (by decide)
    · refine hK 18 _ [vI 1] T ?_
      refine j_blx (F := fJ0) tb_J0 (nn_ _) bk_J0_isLatin1_aae02_18 bs_J0_isLatin1_aae02_18 hz (fun K hK => ?_)
      refine (show po_J0_isLatin1_0 T T (some (vI 1)) from ?_)
      exact ⟨rfl, rfl⟩
abbrev cJ0_length_8abf5 : ByteArray := prog_17_method_54_code
def yJ0_length_8abf5 : MethodName := ⟨RJ0, "length", "()I"⟩
def zJ0_length_8abf5 : Zm := (RJ0, cJ0_length_8abf5, 1, (some .int), { frames := 1, cells := 0, slots := 0, locals := 20 })
theorem bk_J0_length_8abf5_0 : ck_ fJ0 (some .int) cJ0_length_8abf5 0 [.aload 0] 1 = true := qck_r (nn_ _) (by decide +kernel)
theorem bs_J0_length_8abf5_0 {P : Zt → Option Zv → Prop} (K : Int → Zl → List Zv → Zt → Prop) : sx_ K P [.aload 0] 1 = x_aload 0 (K 1) := ((xe_aload 0).trans (congrArg (x_aload 0) xe_nil))
theorem bk_J0_length_8abf5_5 : ck_ fJ0 (some .int) cJ0_length_8abf5 5 [.aload 0] 6 = true := qck_r (nn_ _) (by decide +kernel)
theorem bs_J0_length_8abf5_5 {P : Zt → Option Zv → Prop} (K : Int → Zl → List Zv → Zt → Prop) : sx_ K P [.aload 0] 6 = x_aload 0 (K 6) := ((xe_aload 0).trans (congrArg (x_aload 0) xe_nil))
set_option maxRecDepth 100000 in
theorem ck82_J0_335 : ck82_ RJ0 335 yJ0_coder_7d493 zJ0_coder_7d493 0 := ⟨gi_V (lwq_2 (dqc_m (dqc_m (dqc_m (dqc_m (dqc_m (dqc_m (dqc_m (dqa_m (List.mem_of_getElem? (i := 7) rfl))))))))) rfl : Cond.methodLink RJ0 335 yJ0_coder_7d493 ∈ lw_g) (lwq_3 (List.mem_of_getElem? (i := 0) rfl) rfl : Cond.instanceMethod yJ0_coder_7d493 ∈ lw_g) (lwq_3 (List.mem_of_getElem? (i := 1) rfl) rfl : Cond.selects yJ0_coder_7d493.cls yJ0_coder_7d493 yJ0_coder_7d493 ∈ lw_g) (lwq_1 (dqa_m (List.mem_of_getElem? (i := 3) rfl)) rfl : Cond.initialized yJ0_coder_7d493.cls ∈ lw_g) (lwq_3 (List.mem_of_getElem? (i := 2) rfl) rfl : Cond.code yJ0_coder_7d493 cJ0_coder_7d493 1 (some .byte) ∈ lw_g), ⟨by decide, by decide, by decide +kernel⟩, rfl⟩
theorem bk_J0_length_8abf5_9 : ck_ fJ0 (some .int) cJ0_length_8abf5 9 [.ishr, .ireturn] 11 = true := qck_r (nn_ _) (by decide +kernel)
theorem bs_J0_length_8abf5_9 {P : Zt → Option Zv → Prop} (K : Int → Zl → List Zv → Zt → Prop) : sx_ K P [.ishr, .ireturn] 11 = x_ishr (x_ireturn P) := ((xe_ishr).trans (congrArg (x_ishr) (xe_ireturn)))
abbrev po_J0_length_0 (T : Zt) : Zt → Option Zv → Prop := fun T' r => T = T' ∧ r = some (vI (82))
set_option maxHeartbeats 4000000 in
theorem ct_J0_length_0 {T : Zt} : Ct_ yJ0_length_8abf5 zJ0_length_8abf5 T [vR 82 0] (po_J0_length_0 T) := by
  refine ct_of (by decide) rfl rfl (Nat.le_of_ble_eq_true rfl) (fun hT hav => ?_)
  have hz : zJ0_length_8abf5.2.2.2.1 = some .boolean → ∀ (T' : Zt) (x : Int), po_J0_length_0 T T' (some (vI x)) → 0 ≤ x ∧ x ≤ 1 := fun h => by cases h
  show J_ zJ0_length_8abf5 T (po_J0_length_0 T) 0 0 0 [some (vR 82 0)] [] T
  refine j_blx (F := fJ0) tb_J0 (nn_ _) bk_J0_length_8abf5_0 bs_J0_length_8abf5_0 hz (fun K hK => ?_)
  refine hK 1 _ [vR 82 0] T ?_
  refine j_gfV (pc := 1) (i := 0) (by decide) (by decide) (lwq_10 (dqc_m (dqc_m (dqc_m (dqa_m (dqa_m (List.mem_of_getElem? (i := 6) rfl)))))) rfl : Cond.fieldLink RJ0 9 "java/lang/String" "value" "[B" ∈ lw_g) (by decide +kernel) ?_
  show J_ zJ0_length_8abf5 T (po_J0_length_0 T) 0 0 4 _ [vR 83 0] T
  refine j_len83 (pc := 4) (i := 0) (n := 82) (by decide) (by decide) (by decide) (by decide) (by decide +kernel) ?_
  show J_ zJ0_length_8abf5 T (po_J0_length_0 T) 0 0 5 _ [vI 82] T
  refine j_blx (F := fJ0) tb_J0 (nn_ _) bk_J0_length_8abf5_5 bs_J0_length_8abf5_5 hz (fun K hK => ?_)
  refine hK 6 _ [vR 82 0, vI 82] T ?_
  refine j_callK (i := 0) (y := yJ0_coder_7d493) (Yc := zJ0_coder_7d493) (rest := [vI 82]) [] (by decide) (ct_J0_coder_0 (T := T)) ck82_J0_335 (by decide +kernel) (by decide) rfl (by decide +kernel) (Nat.le_of_ble_eq_true rfl) (by decide) (by decide) rfl ?_
  rintro _ _ ⟨rfl, rfl⟩
  show J_ zJ0_length_8abf5 T (po_J0_length_0 T) 0 0 9 _ [vI 0, vI 82] T
  refine j_blx (F := fJ0) tb_J0 (nn_ _) bk_J0_length_8abf5_9 bs_J0_length_8abf5_9 hz (fun K hK => ?_)
  intro w1 w1b
  refine (show po_J0_length_0 T T (some (vI (sr_ 82 0))) from ?_)
  exact ⟨rfl, by rw [show sr_ 82 0 = 82 by decide]⟩
abbrev cJ1_charAt_3b067 : ByteArray := prog_18_method_2_code
def yJ1_charAt_3b067 : MethodName := ⟨RJ1, "charAt", "([BI)C"⟩
def zJ1_charAt_3b067 : Zm := (RJ1, cJ1_charAt_3b067, 2, (some .char), { frames := 2, cells := 0, slots := 0, locals := 43 })
theorem bk_J1_charAt_3b067_0 : ck_ fJ1 (some .char) cJ1_charAt_3b067 0 [.iload 1, .aload 0] 2 = true := qck_r (nn_ _) (by decide +kernel)
theorem bs_J1_charAt_3b067_0 {P : Zt → Option Zv → Prop} (K : Int → Zl → List Zv → Zt → Prop) : sx_ K P [.iload 1, .aload 0] 2 = x_iload 1 (x_aload 0 (K 2)) := ((xe_iload 1).trans (congrArg (x_iload 1) ((xe_aload 0).trans (congrArg (x_aload 0) xe_nil))))
set_option maxRecDepth 100000 in
theorem cl_J1_9 : cs_ RJ1 9 yJ0_checkIndex_df160 zJ0_checkIndex_df160 2 := ⟨gi_S (lwq_3 (dqa_m (dqa_m (List.mem_of_getElem? (i := 0) rfl))) rfl : Cond.methodLink RJ1 9 yJ0_checkIndex_df160 ∈ lw_g) (lwq_3 (dqa_m (dqa_m (List.mem_of_getElem? (i := 1) rfl))) rfl : Cond.static yJ0_checkIndex_df160 ∈ lw_g) (lwq_1 (dqa_m (List.mem_of_getElem? (i := 3) rfl)) rfl : Cond.initialized yJ0_checkIndex_df160.cls ∈ lw_g) (lwq_3 (dqa_m (dqa_m (List.mem_of_getElem? (i := 2) rfl))) rfl : Cond.code yJ0_checkIndex_df160 cJ0_checkIndex_df160 2 none ∈ lw_g), ⟨by decide, by decide, by decide +kernel⟩⟩
theorem bk_J1_charAt_3b067_6 : ck_ fJ1 (some .char) cJ1_charAt_3b067 6 [.aload 0, .iload 1] 8 = true := qck_r (nn_ _) (by decide +kernel)
theorem bs_J1_charAt_3b067_6 {P : Zt → Option Zv → Prop} (K : Int → Zl → List Zv → Zt → Prop) : sx_ K P [.aload 0, .iload 1] 8 = x_aload 0 (x_iload 1 (K 8)) := ((xe_aload 0).trans (congrArg (x_aload 0) ((xe_iload 1).trans (congrArg (x_iload 1) xe_nil))))
theorem bk_J1_charAt_3b067_9 : ck_ fJ1 (some .char) cJ1_charAt_3b067 9 [.iconst 255, .iand] 13 = true := qck_r (nn_ _) (by decide +kernel)
theorem bs_J1_charAt_3b067_9 {P : Zt → Option Zv → Prop} (K : Int → Zl → List Zv → Zt → Prop) : sx_ K P [.iconst 255, .iand] 13 = x_iconst 255 (x_iand (K 13)) := ((xe_iconst 255).trans (congrArg (x_iconst 255) ((xe_iand).trans (congrArg (x_iand) xe_nil))))
abbrev po_J1_charAt_0 (T : Zt) (a : Int) : Zt → Option Zv → Prop := fun T' r => T = T' ∧ r = some (vI (cb8_ 0 a))
set_option maxHeartbeats 4000000 in
theorem ct_J1_charAt_0 {T : Zt} {a : Int} (h1 : 0 ≤ a ∧ a < 82) : Ct_ yJ1_charAt_3b067 zJ1_charAt_3b067 T [vR 83 0, vI a] (po_J1_charAt_0 T a) := by
  refine ct_of (by decide) rfl rfl (Nat.le_of_ble_eq_true rfl) (fun hT hav => ?_)
  have hr_a : -2147483648 ≤ a ∧ a ≤ 2147483647 := hav (vI a) (List.mem_cons_of_mem _ List.mem_cons_self)
  have hz : zJ1_charAt_3b067.2.2.2.1 = some .boolean → ∀ (T' : Zt) (x : Int), po_J1_charAt_0 T a T' (some (vI x)) → 0 ≤ x ∧ x ≤ 1 := fun h => by cases h
  show J_ zJ1_charAt_3b067 T (po_J1_charAt_0 T a) 0 0 0 [some (vR 83 0), some (vI a)] [] T
  refine j_blx (F := fJ1) tb_J1 (nn_ _) bk_J1_charAt_3b067_0 bs_J1_charAt_3b067_0 hz (fun K hK => ?_)
  refine hK 2 _ [vR 83 0, vI a] T ?_
  refine j_len83 (pc := 2) (i := 0) (n := 82) (by decide) (by decide) (by decide) (by decide) (by decide +kernel) ?_
  show J_ zJ1_charAt_3b067 T (po_J1_charAt_0 T a) 0 0 3 _ [vI 82, vI a] T
  refine j_callS (y := yJ0_checkIndex_df160) (Yc := zJ0_checkIndex_df160) (rest := []) [vI a, vI 82] (ct_J0_checkIndex_df160 (T := T) (by omega)) cl_J1_9 (qd_c (by decide +kernel)) (nn_ _) rfl (rf_of rfl) (Nat.le_of_ble_eq_true rfl) (Nat.le_of_ble_eq_true rfl) (Nat.le_of_ble_eq_true rfl) rfl ?_
  rintro _ _ ⟨rfl, rfl⟩
  show J_ zJ1_charAt_3b067 T (po_J1_charAt_0 T a) 0 0 6 _ [] T
  refine j_blx (F := fJ1) tb_J1 (nn_ _) bk_J1_charAt_3b067_6 bs_J1_charAt_3b067_6 hz (fun K hK => ?_)
  refine hK 8 _ [vI a, vR 83 0] T ?_
  refine j_ba83 (pc := 8) (i := 0) (n := 82) (by decide) (by decide) (by decide) (by omega) (by omega) (by decide) (fun k _ => ⟨i3_b _, bv_k (by decide) k⟩) (by decide +kernel) ?_
  have hcb := cb8_b (i := 0) (by decide) a
  show J_ zJ1_charAt_3b067 T (po_J1_charAt_0 T a) 0 0 9 _ [vI (cb8_ 0 a)] T
  refine j_blx (F := fJ1) tb_J1 (nn_ _) bk_J1_charAt_3b067_9 bs_J1_charAt_3b067_9 hz (fun K hK => ?_)
  intro w1 w1b
  refine hK 13 _ [vI (an_ (cb8_ 0 a) 255)] T ?_
  rw [an_25 hcb]
  refine j_i2c (pc := 13) (by decide) hcb (by decide +kernel) ?_
  show J_ zJ1_charAt_3b067 T (po_J1_charAt_0 T a) 0 0 14 _ [vI (cb8_ 0 a)] T
  refine j_iretN (pc := 14) (Or.inl rfl) hcb (by decide +kernel) ?_
  refine (show po_J1_charAt_0 T a T (some (vI (cb8_ 0 a))) from ?_)
  exact ⟨rfl, rfl⟩
abbrev cJ0_charAt_5068e : ByteArray := prog_17_method_56_code
def yJ0_charAt_5068e : MethodName := ⟨RJ0, "charAt", "(I)C"⟩
def zJ0_charAt_5068e : Zm := (RJ0, cJ0_charAt_5068e, 2, (some .char), { frames := 3, cells := 0, slots := 0, locals := 64 })
theorem bk_J0_charAt_5068e_0 : ck_ fJ0 (some .char) cJ0_charAt_5068e 0 [.aload 0] 1 = true := qck_r (nn_ _) (by decide +kernel)
theorem bs_J0_charAt_5068e_0 {P : Zt → Option Zv → Prop} (K : Int → Zl → List Zv → Zt → Prop) : sx_ K P [.aload 0] 1 = x_aload 0 (K 1) := ((xe_aload 0).trans (congrArg (x_aload 0) xe_nil))
set_option maxRecDepth 100000 in
theorem ck82_J0_492 : ck82_ RJ0 492 yJ0_isLatin1_aae02 zJ0_isLatin1_aae02 0 := ⟨gi_V (lwq_3 (dqa_m (List.mem_of_getElem? (i := 1) rfl)) rfl : Cond.methodLink RJ0 492 yJ0_isLatin1_aae02 ∈ lw_g) (lwq_3 (dqa_m (List.mem_of_getElem? (i := 2) rfl)) rfl : Cond.instanceMethod yJ0_isLatin1_aae02 ∈ lw_g) (lwq_3 (dqa_m (List.mem_of_getElem? (i := 3) rfl)) rfl : Cond.selects yJ0_isLatin1_aae02.cls yJ0_isLatin1_aae02 yJ0_isLatin1_aae02 ∈ lw_g) (lwq_1 (dqa_m (List.mem_of_getElem? (i := 3) rfl)) rfl : Cond.initialized yJ0_isLatin1_aae02.cls ∈ lw_g) (lwq_3 (dqa_m (List.mem_of_getElem? (i := 4) rfl)) rfl : Cond.code yJ0_isLatin1_aae02 cJ0_isLatin1_aae02 1 (some .boolean) ∈ lw_g), ⟨by decide, by decide, by decide +kernel⟩, rfl⟩
theorem bk_J0_charAt_5068e_4 : ck_ fJ0 (some .char) cJ0_charAt_5068e 4 [.ifCond .eq 16, .aload 0] 8 = true := qck_r (nn_ _) (by decide +kernel)
theorem bs_J0_charAt_5068e_4 {P : Zt → Option Zv → Prop} (K : Int → Zl → List Zv → Zt → Prop) : sx_ K P [.ifCond .eq 16, .aload 0] 8 = x_ifCond .eq 16 K (x_aload 0 (K 8)) := ((xe_ifCond .eq 16).trans (congrArg (x_ifCond .eq 16 K) ((xe_aload 0).trans (congrArg (x_aload 0) xe_nil))))
theorem bk_J0_charAt_5068e_11 : ck_ fJ0 (some .char) cJ0_charAt_5068e 11 [.iload 1] 12 = true := qck_r (nn_ _) (by decide +kernel)
theorem bs_J0_charAt_5068e_11 {P : Zt → Option Zv → Prop} (K : Int → Zl → List Zv → Zt → Prop) : sx_ K P [.iload 1] 12 = x_iload 1 (K 12) := ((xe_iload 1).trans (congrArg (x_iload 1) xe_nil))
set_option maxRecDepth 100000 in
theorem cl_J0_495 : cs_ RJ0 495 yJ1_charAt_3b067 zJ1_charAt_3b067 2 := ⟨gi_S (lwq_3 (dqa_m (List.mem_of_getElem? (i := 5) rfl)) rfl : Cond.methodLink RJ0 495 yJ1_charAt_3b067 ∈ lw_g) (lwq_3 (dqa_m (List.mem_of_getElem? (i := 6) rfl)) rfl : Cond.static yJ1_charAt_3b067 ∈ lw_g) (lwq_1 (dqa_m (List.mem_of_getElem? (i := 4) rfl)) rfl : Cond.initialized yJ1_charAt_3b067.cls ∈ lw_g) (lwq_3 (dqa_m (List.mem_of_getElem? (i := 7) rfl)) rfl : Cond.code yJ1_charAt_3b067 cJ1_charAt_3b067 2 (some .char) ∈ lw_g), ⟨by decide, by decide, by decide +kernel⟩⟩
abbrev po_J0_charAt_0 (T : Zt) (a : Int) : Zt → Option Zv → Prop := fun T' r => T = T' ∧ r = some (vI (cb8_ 0 a))
set_option maxHeartbeats 4000000 in
theorem ct_J0_charAt_0 {T : Zt} {a : Int} (h1 : 0 ≤ a ∧ a < 82) : Ct_ yJ0_charAt_5068e zJ0_charAt_5068e T [vR 82 0, vI a] (po_J0_charAt_0 T a) := by
  refine ct_of (by decide) rfl rfl (Nat.le_of_ble_eq_true rfl) (fun hT hav => ?_)
  have hr_a : -2147483648 ≤ a ∧ a ≤ 2147483647 := hav (vI a) (List.mem_cons_of_mem _ List.mem_cons_self)
  have hz : zJ0_charAt_5068e.2.2.2.1 = some .boolean → ∀ (T' : Zt) (x : Int), po_J0_charAt_0 T a T' (some (vI x)) → 0 ≤ x ∧ x ≤ 1 := fun h => by cases h
  show J_ zJ0_charAt_5068e T (po_J0_charAt_0 T a) 0 0 0 [some (vR 82 0), some (vI a)] [] T
  refine j_blx (F := fJ0) tb_J0 (nn_ _) bk_J0_charAt_5068e_0 bs_J0_charAt_5068e_0 hz (fun K hK => ?_)
  refine hK 1 _ [vR 82 0] T ?_
  refine j_callK (i := 0) (y := yJ0_isLatin1_aae02) (Yc := zJ0_isLatin1_aae02) (rest := []) [] (by decide) (ct_J0_isLatin1_0 (T := T)) ck82_J0_492 (by decide +kernel) (by decide) rfl (by decide +kernel) (Nat.le_of_ble_eq_true rfl) (by decide) (by decide) rfl ?_
  rintro _ _ ⟨rfl, rfl⟩
  show J_ zJ0_charAt_5068e T (po_J0_charAt_0 T a) 0 0 4 _ [vI 1] T
  refine j_blx (F := fJ0) tb_J0 (nn_ _) bk_J0_charAt_5068e_4 bs_J0_charAt_5068e_4 hz (fun K hK => ?_)
  refine And.intro (fun c1 => ?_) (fun c1 => ?_)
  · exact absurd c1 (by decide)
  · refine hK 8 _ [vR 82 0] T ?_
    refine j_gfV (pc := 8) (i := 0) (by decide) (by decide) (lwq_10 (dqc_m (dqc_m (dqc_m (dqa_m (dqa_m (List.mem_of_getElem? (i := 6) rfl)))))) rfl : Cond.fieldLink RJ0 9 "java/lang/String" "value" "[B" ∈ lw_g) (by decide +kernel) ?_
    show J_ zJ0_charAt_5068e T (po_J0_charAt_0 T a) 0 0 11 _ [vR 83 0] T
    refine j_blx (F := fJ0) tb_J0 (nn_ _) bk_J0_charAt_5068e_11 bs_J0_charAt_5068e_11 hz (fun K hK => ?_)
    refine hK 12 _ [vI a, vR 83 0] T ?_
    refine j_callS (y := yJ1_charAt_3b067) (Yc := zJ1_charAt_3b067) (rest := []) [vR 83 0, vI a] (ct_J1_charAt_0 (T := T) (by omega)) cl_J0_495 (qd_c (by decide +kernel)) (nn_ _) rfl (rf_of rfl) (Nat.le_of_ble_eq_true rfl) (Nat.le_of_ble_eq_true rfl) (Nat.le_of_ble_eq_true rfl) rfl ?_
    rintro _ _ ⟨rfl, rfl⟩
    show J_ zJ0_charAt_5068e T (po_J0_charAt_0 T a) 0 0 15 _ [vI (cb8_ 0 a)] T
    refine j_iretN (pc := 15) (Or.inl rfl) (cb8_b (by decide) a) (by decide +kernel) ?_
    refine (show po_J0_charAt_0 T a T (some (vI (cb8_ 0 a))) from ?_)
    exact ⟨rfl, rfl⟩
abbrev po_J0_coder_1 (T : Zt) : Zt → Option Zv → Prop := fun T' r => T = T' ∧ r = some (vI (0))
set_option maxHeartbeats 4000000 in
theorem ct_J0_coder_1 {T : Zt} : Ct_ yJ0_coder_7d493 zJ0_coder_7d493 T [vR 82 1] (po_J0_coder_1 T) := by
  refine ct_of (by decide) rfl rfl (Nat.le_of_ble_eq_true rfl) (fun hT hav => ?_)
  have hz : zJ0_coder_7d493.2.2.2.1 = some .boolean → ∀ (T' : Zt) (x : Int), po_J0_coder_1 T T' (some (vI x)) → 0 ≤ x ∧ x ≤ 1 := fun h => by cases h
  show J_ zJ0_coder_7d493 T (po_J0_coder_1 T) 0 0 0 [some (vR 82 1)] [] T
  refine j_gsC (pc := 0) (by decide) (lwq_3 (List.mem_of_getElem? (i := 3) rfl) rfl : Cond.fieldLink RJ0 38 "java/lang/String" "COMPACT_STRINGS" "Z" ∈ lw_g) (by decide +kernel) ?_
  show J_ zJ0_coder_7d493 T (po_J0_coder_1 T) 0 0 3 _ [vI 1] T
  refine j_blx (F := fJ0) tb_J0 (nn_ _) bk_J0_coder_7d493_3 bs_J0_coder_7d493_3 hz (fun K hK => ?_)
  refine And.intro (fun c1 => ?_) (fun c1 => ?_)
  · exact absurd c1 (by decide)
  · refine hK 7 _ [vR 82 1] T ?_
    refine j_gfC (pc := 7) (i := 1) (by decide) (by decide) (lwq_10 (dqc_m (dqc_m (dqc_m (dqa_m (dqa_m (List.mem_of_getElem? (i := 7) rfl)))))) rfl : Cond.fieldLink RJ0 15 "java/lang/String" "coder" "B" ∈ lw_g) (by decide +kernel) ?_
    show J_ zJ0_coder_7d493 T (po_J0_coder_1 T) 0 0 10 _ [vI 0] T
    refine j_blx (F := fJ0) tb_J0 (nn_ _) bk_J0_coder_7d493_10 bs_J0_coder_7d493_10 hz (fun K hK => ?_)
    refine hK 14 _ [vI 0] T ?_
    refine j_iretN (pc := 14) (Or.inr rfl) ⟨by decide, by decide⟩ (by decide +kernel) ?_
    refine (show po_J0_coder_1 T T (some (vI 0)) from ?_)
    exact ⟨rfl, rfl⟩
abbrev po_J0_isLatin1_1 (T : Zt) : Zt → Option Zv → Prop := fun T' r => T = T' ∧ r = some (vI (1))
set_option maxHeartbeats 4000000 in
theorem ct_J0_isLatin1_1 {T : Zt} : Ct_ yJ0_isLatin1_aae02 zJ0_isLatin1_aae02 T [vR 82 1] (po_J0_isLatin1_1 T) := by
  refine ct_of (by decide) rfl rfl (Nat.le_of_ble_eq_true rfl) (fun hT hav => ?_)
  have hz : zJ0_isLatin1_aae02.2.2.2.1 = some .boolean → ∀ (T' : Zt) (x : Int), po_J0_isLatin1_1 T T' (some (vI x)) → 0 ≤ x ∧ x ≤ 1 := fun _ T' x h => by obtain ⟨-, e⟩ := h; cases e; omega
  show J_ zJ0_isLatin1_aae02 T (po_J0_isLatin1_1 T) 0 0 0 [some (vR 82 1)] [] T
  refine j_gsC (pc := 0) (by decide) (lwq_3 (List.mem_of_getElem? (i := 3) rfl) rfl : Cond.fieldLink RJ0 38 "java/lang/String" "COMPACT_STRINGS" "Z" ∈ lw_g) (by decide +kernel) ?_
  show J_ zJ0_isLatin1_aae02 T (po_J0_isLatin1_1 T) 0 0 3 _ [vI 1] T
  refine j_blx (F := fJ0) tb_J0 (nn_ _) bk_J0_isLatin1_aae02_3 bs_J0_isLatin1_aae02_3 hz (fun K hK => ?_)
  refine And.intro (fun c1 => ?_) (fun c1 => ?_)
  · exact absurd c1 (by decide)
  · refine hK 7 _ [vR 82 1] T ?_
    refine j_gfC (pc := 7) (i := 1) (by decide) (by decide) (lwq_10 (dqc_m (dqc_m (dqc_m (dqa_m (dqa_m (List.mem_of_getElem? (i := 7) rfl)))))) rfl : Cond.fieldLink RJ0 15 "java/lang/String" "coder" "B" ∈ lw_g) (by decide +kernel) ?_
    show J_ zJ0_isLatin1_aae02 T (po_J0_isLatin1_1 T) 0 0 10 _ [vI 0] T
    refine j_blx (F := fJ0) tb_J0 (nn_ _) bk_J0_isLatin1_aae02_10 bs_J0_isLatin1_aae02_10 hz (fun K hK => ?_)
    refine And.intro (fun c2 => ?_) (fun c2 => ?_)
    · exact absurd c2 (by decide)
    · refine hK 18 _ [vI 1] T ?_
      refine j_blx (F := fJ0) tb_J0 (nn_ _) bk_J0_isLatin1_aae02_18 bs_J0_isLatin1_aae02_18 hz (fun K hK => ?_)
      refine (show po_J0_isLatin1_1 T T (some (vI 1)) from ?_)
      exact ⟨rfl, rfl⟩
abbrev po_J0_length_1 (T : Zt) : Zt → Option Zv → Prop := fun T' r => T = T' ∧ r = some (vI (36))
set_option maxHeartbeats 4000000 in
theorem ct_J0_length_1 {T : Zt} : Ct_ yJ0_length_8abf5 zJ0_length_8abf5 T [vR 82 1] (po_J0_length_1 T) := by
  refine ct_of (by decide) rfl rfl (Nat.le_of_ble_eq_true rfl) (fun hT hav => ?_)
  have hz : zJ0_length_8abf5.2.2.2.1 = some .boolean → ∀ (T' : Zt) (x : Int), po_J0_length_1 T T' (some (vI x)) → 0 ≤ x ∧ x ≤ 1 := fun h => by cases h
  show J_ zJ0_length_8abf5 T (po_J0_length_1 T) 0 0 0 [some (vR 82 1)] [] T
  refine j_blx (F := fJ0) tb_J0 (nn_ _) bk_J0_length_8abf5_0 bs_J0_length_8abf5_0 hz (fun K hK => ?_)
  refine hK 1 _ [vR 82 1] T ?_
  refine j_gfV (pc := 1) (i := 1) (by decide) (by decide) (lwq_10 (dqc_m (dqc_m (dqc_m (dqa_m (dqa_m (List.mem_of_getElem? (i := 6) rfl)))))) rfl : Cond.fieldLink RJ0 9 "java/lang/String" "value" "[B" ∈ lw_g) (by decide +kernel) ?_
  show J_ zJ0_length_8abf5 T (po_J0_length_1 T) 0 0 4 _ [vR 83 1] T
  refine j_len83 (pc := 4) (i := 1) (n := 36) (by decide) (by decide) (by decide) (by decide) (by decide +kernel) ?_
  show J_ zJ0_length_8abf5 T (po_J0_length_1 T) 0 0 5 _ [vI 36] T
  refine j_blx (F := fJ0) tb_J0 (nn_ _) bk_J0_length_8abf5_5 bs_J0_length_8abf5_5 hz (fun K hK => ?_)
  refine hK 6 _ [vR 82 1, vI 36] T ?_
  refine j_callK (i := 1) (y := yJ0_coder_7d493) (Yc := zJ0_coder_7d493) (rest := [vI 36]) [] (by decide) (ct_J0_coder_1 (T := T)) ck82_J0_335 (by decide +kernel) (by decide) rfl (by decide +kernel) (Nat.le_of_ble_eq_true rfl) (by decide) (by decide) rfl ?_
  rintro _ _ ⟨rfl, rfl⟩
  show J_ zJ0_length_8abf5 T (po_J0_length_1 T) 0 0 9 _ [vI 0, vI 36] T
  refine j_blx (F := fJ0) tb_J0 (nn_ _) bk_J0_length_8abf5_9 bs_J0_length_8abf5_9 hz (fun K hK => ?_)
  intro w1 w1b
  refine (show po_J0_length_1 T T (some (vI (sr_ 36 0))) from ?_)
  exact ⟨rfl, by rw [show sr_ 36 0 = 36 by decide]⟩
abbrev po_J1_charAt_1 (T : Zt) (a : Int) : Zt → Option Zv → Prop := fun T' r => T = T' ∧ r = some (vI (cb8_ 1 a))
set_option maxHeartbeats 4000000 in
theorem ct_J1_charAt_1 {T : Zt} {a : Int} (h1 : 0 ≤ a ∧ a < 36) : Ct_ yJ1_charAt_3b067 zJ1_charAt_3b067 T [vR 83 1, vI a] (po_J1_charAt_1 T a) := by
  refine ct_of (by decide) rfl rfl (Nat.le_of_ble_eq_true rfl) (fun hT hav => ?_)
  have hr_a : -2147483648 ≤ a ∧ a ≤ 2147483647 := hav (vI a) (List.mem_cons_of_mem _ List.mem_cons_self)
  have hz : zJ1_charAt_3b067.2.2.2.1 = some .boolean → ∀ (T' : Zt) (x : Int), po_J1_charAt_1 T a T' (some (vI x)) → 0 ≤ x ∧ x ≤ 1 := fun h => by cases h
  show J_ zJ1_charAt_3b067 T (po_J1_charAt_1 T a) 0 0 0 [some (vR 83 1), some (vI a)] [] T
  refine j_blx (F := fJ1) tb_J1 (nn_ _) bk_J1_charAt_3b067_0 bs_J1_charAt_3b067_0 hz (fun K hK => ?_)
  refine hK 2 _ [vR 83 1, vI a] T ?_
  refine j_len83 (pc := 2) (i := 1) (n := 36) (by decide) (by decide) (by decide) (by decide) (by decide +kernel) ?_
  show J_ zJ1_charAt_3b067 T (po_J1_charAt_1 T a) 0 0 3 _ [vI 36, vI a] T
  refine j_callS (y := yJ0_checkIndex_df160) (Yc := zJ0_checkIndex_df160) (rest := []) [vI a, vI 36] (ct_J0_checkIndex_df160 (T := T) (by omega)) cl_J1_9 (qd_c (by decide +kernel)) (nn_ _) rfl (rf_of rfl) (Nat.le_of_ble_eq_true rfl) (Nat.le_of_ble_eq_true rfl) (Nat.le_of_ble_eq_true rfl) rfl ?_
  rintro _ _ ⟨rfl, rfl⟩
  show J_ zJ1_charAt_3b067 T (po_J1_charAt_1 T a) 0 0 6 _ [] T
  refine j_blx (F := fJ1) tb_J1 (nn_ _) bk_J1_charAt_3b067_6 bs_J1_charAt_3b067_6 hz (fun K hK => ?_)
  refine hK 8 _ [vI a, vR 83 1] T ?_
  refine j_ba83 (pc := 8) (i := 1) (n := 36) (by decide) (by decide) (by decide) (by omega) (by omega) (by decide) (fun k _ => ⟨i3_b _, bv_k (by decide) k⟩) (by decide +kernel) ?_
  have hcb := cb8_b (i := 1) (by decide) a
  show J_ zJ1_charAt_3b067 T (po_J1_charAt_1 T a) 0 0 9 _ [vI (cb8_ 1 a)] T
  refine j_blx (F := fJ1) tb_J1 (nn_ _) bk_J1_charAt_3b067_9 bs_J1_charAt_3b067_9 hz (fun K hK => ?_)
  intro w1 w1b
  refine hK 13 _ [vI (an_ (cb8_ 1 a) 255)] T ?_
  rw [an_25 hcb]
  refine j_i2c (pc := 13) (by decide) hcb (by decide +kernel) ?_
  show J_ zJ1_charAt_3b067 T (po_J1_charAt_1 T a) 0 0 14 _ [vI (cb8_ 1 a)] T
  refine j_iretN (pc := 14) (Or.inl rfl) hcb (by decide +kernel) ?_
  refine (show po_J1_charAt_1 T a T (some (vI (cb8_ 1 a))) from ?_)
  exact ⟨rfl, rfl⟩
abbrev po_J0_charAt_1 (T : Zt) (a : Int) : Zt → Option Zv → Prop := fun T' r => T = T' ∧ r = some (vI (cb8_ 1 a))
set_option maxHeartbeats 4000000 in
theorem ct_J0_charAt_1 {T : Zt} {a : Int} (h1 : 0 ≤ a ∧ a < 36) : Ct_ yJ0_charAt_5068e zJ0_charAt_5068e T [vR 82 1, vI a] (po_J0_charAt_1 T a) := by
  refine ct_of (by decide) rfl rfl (Nat.le_of_ble_eq_true rfl) (fun hT hav => ?_)
  have hr_a : -2147483648 ≤ a ∧ a ≤ 2147483647 := hav (vI a) (List.mem_cons_of_mem _ List.mem_cons_self)
  have hz : zJ0_charAt_5068e.2.2.2.1 = some .boolean → ∀ (T' : Zt) (x : Int), po_J0_charAt_1 T a T' (some (vI x)) → 0 ≤ x ∧ x ≤ 1 := fun h => by cases h
  show J_ zJ0_charAt_5068e T (po_J0_charAt_1 T a) 0 0 0 [some (vR 82 1), some (vI a)] [] T
  refine j_blx (F := fJ0) tb_J0 (nn_ _) bk_J0_charAt_5068e_0 bs_J0_charAt_5068e_0 hz (fun K hK => ?_)
  refine hK 1 _ [vR 82 1] T ?_
  refine j_callK (i := 1) (y := yJ0_isLatin1_aae02) (Yc := zJ0_isLatin1_aae02) (rest := []) [] (by decide) (ct_J0_isLatin1_1 (T := T)) ck82_J0_492 (by decide +kernel) (by decide) rfl (by decide +kernel) (Nat.le_of_ble_eq_true rfl) (by decide) (by decide) rfl ?_
  rintro _ _ ⟨rfl, rfl⟩
  show J_ zJ0_charAt_5068e T (po_J0_charAt_1 T a) 0 0 4 _ [vI 1] T
  refine j_blx (F := fJ0) tb_J0 (nn_ _) bk_J0_charAt_5068e_4 bs_J0_charAt_5068e_4 hz (fun K hK => ?_)
  refine And.intro (fun c1 => ?_) (fun c1 => ?_)
  · exact absurd c1 (by decide)
  · refine hK 8 _ [vR 82 1] T ?_
    refine j_gfV (pc := 8) (i := 1) (by decide) (by decide) (lwq_10 (dqc_m (dqc_m (dqc_m (dqa_m (dqa_m (List.mem_of_getElem? (i := 6) rfl)))))) rfl : Cond.fieldLink RJ0 9 "java/lang/String" "value" "[B" ∈ lw_g) (by decide +kernel) ?_
    show J_ zJ0_charAt_5068e T (po_J0_charAt_1 T a) 0 0 11 _ [vR 83 1] T
    refine j_blx (F := fJ0) tb_J0 (nn_ _) bk_J0_charAt_5068e_11 bs_J0_charAt_5068e_11 hz (fun K hK => ?_)
    refine hK 12 _ [vI a, vR 83 1] T ?_
    refine j_callS (y := yJ1_charAt_3b067) (Yc := zJ1_charAt_3b067) (rest := []) [vR 83 1, vI a] (ct_J1_charAt_1 (T := T) (by omega)) cl_J0_495 (qd_c (by decide +kernel)) (nn_ _) rfl (rf_of rfl) (Nat.le_of_ble_eq_true rfl) (Nat.le_of_ble_eq_true rfl) (Nat.le_of_ble_eq_true rfl) rfl ?_
    rintro _ _ ⟨rfl, rfl⟩
    show J_ zJ0_charAt_5068e T (po_J0_charAt_1 T a) 0 0 15 _ [vI (cb8_ 1 a)] T
    refine j_iretN (pc := 15) (Or.inl rfl) (cb8_b (by decide) a) (by decide +kernel) ?_
    refine (show po_J0_charAt_1 T a T (some (vI (cb8_ 1 a))) from ?_)
    exact ⟨rfl, rfl⟩
abbrev po_J0_coder_2 (T : Zt) : Zt → Option Zv → Prop := fun T' r => T = T' ∧ r = some (vI (0))
set_option maxHeartbeats 4000000 in
theorem ct_J0_coder_2 {T : Zt} : Ct_ yJ0_coder_7d493 zJ0_coder_7d493 T [vR 82 2] (po_J0_coder_2 T) := by
  refine ct_of (by decide) rfl rfl (Nat.le_of_ble_eq_true rfl) (fun hT hav => ?_)
  have hz : zJ0_coder_7d493.2.2.2.1 = some .boolean → ∀ (T' : Zt) (x : Int), po_J0_coder_2 T T' (some (vI x)) → 0 ≤ x ∧ x ≤ 1 := fun h => by cases h
  show J_ zJ0_coder_7d493 T (po_J0_coder_2 T) 0 0 0 [some (vR 82 2)] [] T
  refine j_gsC (pc := 0) (by decide) (lwq_3 (List.mem_of_getElem? (i := 3) rfl) rfl : Cond.fieldLink RJ0 38 "java/lang/String" "COMPACT_STRINGS" "Z" ∈ lw_g) (by decide +kernel) ?_
  show J_ zJ0_coder_7d493 T (po_J0_coder_2 T) 0 0 3 _ [vI 1] T
  refine j_blx (F := fJ0) tb_J0 (nn_ _) bk_J0_coder_7d493_3 bs_J0_coder_7d493_3 hz (fun K hK => ?_)
  refine And.intro (fun c1 => ?_) (fun c1 => ?_)
  · exact absurd c1 (by decide)
  · refine hK 7 _ [vR 82 2] T ?_
    refine j_gfC (pc := 7) (i := 2) (by decide) (by decide) (lwq_10 (dqc_m (dqc_m (dqc_m (dqa_m (dqa_m (List.mem_of_getElem? (i := 7) rfl)))))) rfl : Cond.fieldLink RJ0 15 "java/lang/String" "coder" "B" ∈ lw_g) (by decide +kernel) ?_
    show J_ zJ0_coder_7d493 T (po_J0_coder_2 T) 0 0 10 _ [vI 0] T
    refine j_blx (F := fJ0) tb_J0 (nn_ _) bk_J0_coder_7d493_10 bs_J0_coder_7d493_10 hz (fun K hK => ?_)
    refine hK 14 _ [vI 0] T ?_
    refine j_iretN (pc := 14) (Or.inr rfl) ⟨by decide, by decide⟩ (by decide +kernel) ?_
    refine (show po_J0_coder_2 T T (some (vI 0)) from ?_)
    exact ⟨rfl, rfl⟩
abbrev po_J0_isLatin1_2 (T : Zt) : Zt → Option Zv → Prop := fun T' r => T = T' ∧ r = some (vI (1))
set_option maxHeartbeats 4000000 in
theorem ct_J0_isLatin1_2 {T : Zt} : Ct_ yJ0_isLatin1_aae02 zJ0_isLatin1_aae02 T [vR 82 2] (po_J0_isLatin1_2 T) := by
  refine ct_of (by decide) rfl rfl (Nat.le_of_ble_eq_true rfl) (fun hT hav => ?_)
  have hz : zJ0_isLatin1_aae02.2.2.2.1 = some .boolean → ∀ (T' : Zt) (x : Int), po_J0_isLatin1_2 T T' (some (vI x)) → 0 ≤ x ∧ x ≤ 1 := fun _ T' x h => by obtain ⟨-, e⟩ := h; cases e; omega
  show J_ zJ0_isLatin1_aae02 T (po_J0_isLatin1_2 T) 0 0 0 [some (vR 82 2)] [] T
  refine j_gsC (pc := 0) (by decide) (lwq_3 (List.mem_of_getElem? (i := 3) rfl) rfl : Cond.fieldLink RJ0 38 "java/lang/String" "COMPACT_STRINGS" "Z" ∈ lw_g) (by decide +kernel) ?_
  show J_ zJ0_isLatin1_aae02 T (po_J0_isLatin1_2 T) 0 0 3 _ [vI 1] T
  refine j_blx (F := fJ0) tb_J0 (nn_ _) bk_J0_isLatin1_aae02_3 bs_J0_isLatin1_aae02_3 hz (fun K hK => ?_)
  refine And.intro (fun c1 => ?_) (fun c1 => ?_)
  · exact absurd c1 (by decide)
  · refine hK 7 _ [vR 82 2] T ?_
    refine j_gfC (pc := 7) (i := 2) (by decide) (by decide) (lwq_10 (dqc_m (dqc_m (dqc_m (dqa_m (dqa_m (List.mem_of_getElem? (i := 7) rfl)))))) rfl : Cond.fieldLink RJ0 15 "java/lang/String" "coder" "B" ∈ lw_g) (by decide +kernel) ?_
    show J_ zJ0_isLatin1_aae02 T (po_J0_isLatin1_2 T) 0 0 10 _ [vI 0] T
    refine j_blx (F := fJ0) tb_J0 (nn_ _) bk_J0_isLatin1_aae02_10 bs_J0_isLatin1_aae02_10 hz (fun K hK => ?_)
    refine And.intro (fun c2 => ?_) (fun c2 => ?_)
    · exact absurd c2 (by decide)
    · refine hK 18 _ [vI 1] T ?_
      refine j_blx (F := fJ0) tb_J0 (nn_ _) bk_J0_isLatin1_aae02_18 bs_J0_isLatin1_aae02_18 hz (fun K hK => ?_)
      refine (show po_J0_isLatin1_2 T T (some (vI 1)) from ?_)
      exact ⟨rfl, rfl⟩
abbrev po_J0_length_2 (T : Zt) : Zt → Option Zv → Prop := fun T' r => T = T' ∧ r = some (vI (37))
set_option maxHeartbeats 4000000 in
theorem ct_J0_length_2 {T : Zt} : Ct_ yJ0_length_8abf5 zJ0_length_8abf5 T [vR 82 2] (po_J0_length_2 T) := by
  refine ct_of (by decide) rfl rfl (Nat.le_of_ble_eq_true rfl) (fun hT hav => ?_)
  have hz : zJ0_length_8abf5.2.2.2.1 = some .boolean → ∀ (T' : Zt) (x : Int), po_J0_length_2 T T' (some (vI x)) → 0 ≤ x ∧ x ≤ 1 := fun h => by cases h
  show J_ zJ0_length_8abf5 T (po_J0_length_2 T) 0 0 0 [some (vR 82 2)] [] T
  refine j_blx (F := fJ0) tb_J0 (nn_ _) bk_J0_length_8abf5_0 bs_J0_length_8abf5_0 hz (fun K hK => ?_)
  refine hK 1 _ [vR 82 2] T ?_
  refine j_gfV (pc := 1) (i := 2) (by decide) (by decide) (lwq_10 (dqc_m (dqc_m (dqc_m (dqa_m (dqa_m (List.mem_of_getElem? (i := 6) rfl)))))) rfl : Cond.fieldLink RJ0 9 "java/lang/String" "value" "[B" ∈ lw_g) (by decide +kernel) ?_
  show J_ zJ0_length_8abf5 T (po_J0_length_2 T) 0 0 4 _ [vR 83 2] T
  refine j_len83 (pc := 4) (i := 2) (n := 37) (by decide) (by decide) (by decide) (by decide) (by decide +kernel) ?_
  show J_ zJ0_length_8abf5 T (po_J0_length_2 T) 0 0 5 _ [vI 37] T
  refine j_blx (F := fJ0) tb_J0 (nn_ _) bk_J0_length_8abf5_5 bs_J0_length_8abf5_5 hz (fun K hK => ?_)
  refine hK 6 _ [vR 82 2, vI 37] T ?_
  refine j_callK (i := 2) (y := yJ0_coder_7d493) (Yc := zJ0_coder_7d493) (rest := [vI 37]) [] (by decide) (ct_J0_coder_2 (T := T)) ck82_J0_335 (by decide +kernel) (by decide) rfl (by decide +kernel) (Nat.le_of_ble_eq_true rfl) (by decide) (by decide) rfl ?_
  rintro _ _ ⟨rfl, rfl⟩
  show J_ zJ0_length_8abf5 T (po_J0_length_2 T) 0 0 9 _ [vI 0, vI 37] T
  refine j_blx (F := fJ0) tb_J0 (nn_ _) bk_J0_length_8abf5_9 bs_J0_length_8abf5_9 hz (fun K hK => ?_)
  intro w1 w1b
  refine (show po_J0_length_2 T T (some (vI (sr_ 37 0))) from ?_)
  exact ⟨rfl, by rw [show sr_ 37 0 = 37 by decide]⟩
abbrev po_J1_charAt_2 (T : Zt) (a : Int) : Zt → Option Zv → Prop := fun T' r => T = T' ∧ r = some (vI (cb8_ 2 a))
set_option maxHeartbeats 4000000 in
theorem ct_J1_charAt_2 {T : Zt} {a : Int} (h1 : 0 ≤ a ∧ a < 37) : Ct_ yJ1_charAt_3b067 zJ1_charAt_3b067 T [vR 83 2, vI a] (po_J1_charAt_2 T a) := by
  refine ct_of (by decide) rfl rfl (Nat.le_of_ble_eq_true rfl) (fun hT hav => ?_)
  have hr_a : -2147483648 ≤ a ∧ a ≤ 2147483647 := hav (vI a) (List.mem_cons_of_mem _ List.mem_cons_self)
  have hz : zJ1_charAt_3b067.2.2.2.1 = some .boolean → ∀ (T' : Zt) (x : Int), po_J1_charAt_2 T a T' (some (vI x)) → 0 ≤ x ∧ x ≤ 1 := fun h => by cases h
  show J_ zJ1_charAt_3b067 T (po_J1_charAt_2 T a) 0 0 0 [some (vR 83 2), some (vI a)] [] T
  refine j_blx (F := fJ1) tb_J1 (nn_ _) bk_J1_charAt_3b067_0 bs_J1_charAt_3b067_0 hz (fun K hK => ?_)
  refine hK 2 _ [vR 83 2, vI a] T ?_
  refine j_len83 (pc := 2) (i := 2) (n := 37) (by decide) (by decide) (by decide) (by decide) (by decide +kernel) ?_
  show J_ zJ1_charAt_3b067 T (po_J1_charAt_2 T a) 0 0 3 _ [vI 37, vI a] T
  refine j_callS (y := yJ0_checkIndex_df160) (Yc := zJ0_checkIndex_df160) (rest := []) [vI a, vI 37] (ct_J0_checkIndex_df160 (T := T) (by omega)) cl_J1_9 (qd_c (by decide +kernel)) (nn_ _) rfl (rf_of rfl) (Nat.le_of_ble_eq_true rfl) (Nat.le_of_ble_eq_true rfl) (Nat.le_of_ble_eq_true rfl) rfl ?_
  rintro _ _ ⟨rfl, rfl⟩
  show J_ zJ1_charAt_3b067 T (po_J1_charAt_2 T a) 0 0 6 _ [] T
  refine j_blx (F := fJ1) tb_J1 (nn_ _) bk_J1_charAt_3b067_6 bs_J1_charAt_3b067_6 hz (fun K hK => ?_)
  refine hK 8 _ [vI a, vR 83 2] T ?_
  refine j_ba83 (pc := 8) (i := 2) (n := 37) (by decide) (by decide) (by decide) (by omega) (by omega) (by decide) (fun k _ => ⟨i3_b _, bv_k (by decide) k⟩) (by decide +kernel) ?_
  have hcb := cb8_b (i := 2) (by decide) a
  show J_ zJ1_charAt_3b067 T (po_J1_charAt_2 T a) 0 0 9 _ [vI (cb8_ 2 a)] T
  refine j_blx (F := fJ1) tb_J1 (nn_ _) bk_J1_charAt_3b067_9 bs_J1_charAt_3b067_9 hz (fun K hK => ?_)
  intro w1 w1b
  refine hK 13 _ [vI (an_ (cb8_ 2 a) 255)] T ?_
  rw [an_25 hcb]
  refine j_i2c (pc := 13) (by decide) hcb (by decide +kernel) ?_
  show J_ zJ1_charAt_3b067 T (po_J1_charAt_2 T a) 0 0 14 _ [vI (cb8_ 2 a)] T
  refine j_iretN (pc := 14) (Or.inl rfl) hcb (by decide +kernel) ?_
  refine (show po_J1_charAt_2 T a T (some (vI (cb8_ 2 a))) from ?_)
  exact ⟨rfl, rfl⟩
abbrev po_J0_charAt_2 (T : Zt) (a : Int) : Zt → Option Zv → Prop := fun T' r => T = T' ∧ r = some (vI (cb8_ 2 a))
set_option maxHeartbeats 4000000 in
theorem ct_J0_charAt_2 {T : Zt} {a : Int} (h1 : 0 ≤ a ∧ a < 37) : Ct_ yJ0_charAt_5068e zJ0_charAt_5068e T [vR 82 2, vI a] (po_J0_charAt_2 T a) := by
  refine ct_of (by decide) rfl rfl (Nat.le_of_ble_eq_true rfl) (fun hT hav => ?_)
  have hr_a : -2147483648 ≤ a ∧ a ≤ 2147483647 := hav (vI a) (List.mem_cons_of_mem _ List.mem_cons_self)
  have hz : zJ0_charAt_5068e.2.2.2.1 = some .boolean → ∀ (T' : Zt) (x : Int), po_J0_charAt_2 T a T' (some (vI x)) → 0 ≤ x ∧ x ≤ 1 := fun h => by cases h
  show J_ zJ0_charAt_5068e T (po_J0_charAt_2 T a) 0 0 0 [some (vR 82 2), some (vI a)] [] T
  refine j_blx (F := fJ0) tb_J0 (nn_ _) bk_J0_charAt_5068e_0 bs_J0_charAt_5068e_0 hz (fun K hK => ?_)
  refine hK 1 _ [vR 82 2] T ?_
  refine j_callK (i := 2) (y := yJ0_isLatin1_aae02) (Yc := zJ0_isLatin1_aae02) (rest := []) [] (by decide) (ct_J0_isLatin1_2 (T := T)) ck82_J0_492 (by decide +kernel) (by decide) rfl (by decide +kernel) (Nat.le_of_ble_eq_true rfl) (by decide) (by decide) rfl ?_
  rintro _ _ ⟨rfl, rfl⟩
  show J_ zJ0_charAt_5068e T (po_J0_charAt_2 T a) 0 0 4 _ [vI 1] T
  refine j_blx (F := fJ0) tb_J0 (nn_ _) bk_J0_charAt_5068e_4 bs_J0_charAt_5068e_4 hz (fun K hK => ?_)
  refine And.intro (fun c1 => ?_) (fun c1 => ?_)
  · exact absurd c1 (by decide)
  · refine hK 8 _ [vR 82 2] T ?_
    refine j_gfV (pc := 8) (i := 2) (by decide) (by decide) (lwq_10 (dqc_m (dqc_m (dqc_m (dqa_m (dqa_m (List.mem_of_getElem? (i := 6) rfl)))))) rfl : Cond.fieldLink RJ0 9 "java/lang/String" "value" "[B" ∈ lw_g) (by decide +kernel) ?_
    show J_ zJ0_charAt_5068e T (po_J0_charAt_2 T a) 0 0 11 _ [vR 83 2] T
    refine j_blx (F := fJ0) tb_J0 (nn_ _) bk_J0_charAt_5068e_11 bs_J0_charAt_5068e_11 hz (fun K hK => ?_)
    refine hK 12 _ [vI a, vR 83 2] T ?_
    refine j_callS (y := yJ1_charAt_3b067) (Yc := zJ1_charAt_3b067) (rest := []) [vR 83 2, vI a] (ct_J1_charAt_2 (T := T) (by omega)) cl_J0_495 (qd_c (by decide +kernel)) (nn_ _) rfl (rf_of rfl) (Nat.le_of_ble_eq_true rfl) (Nat.le_of_ble_eq_true rfl) (Nat.le_of_ble_eq_true rfl) rfl ?_
    rintro _ _ ⟨rfl, rfl⟩
    show J_ zJ0_charAt_5068e T (po_J0_charAt_2 T a) 0 0 15 _ [vI (cb8_ 2 a)] T
    refine j_iretN (pc := 15) (Or.inl rfl) (cb8_b (by decide) a) (by decide +kernel) ?_
    refine (show po_J0_charAt_2 T a T (some (vI (cb8_ 2 a))) from ?_)
    exact ⟨rfl, rfl⟩
abbrev cX5_isBetween : ByteArray := prog_7_method_13_code
def yX5_isBetween : MethodName := ⟨RX5, "isBetween", "(III)Z"⟩
def zX5_isBetween : Zm := (RX5, cX5_isBetween, 4, (some .boolean), { frames := 0, cells := 0, slots := 0, locals := 0 })
theorem bk_X5_isBetween_0 : ck_ fX5 (some .boolean) cX5_isBetween 0 [.aload 0, .tableswitch 0 5 0 #[], .iload 1, .iaload, .iload 2, .if_icmp .lt 24, .aload 0, .tableswitch 0 5 0 #[], .iload 1, .iaload, .iload 3, .if_icmp .gt 24, .iconst 1, .goto 25] 24 = true := qck_r (nn_ _) (by decide +kernel)
theorem bs_X5_isBetween_0 {P : Zt → Option Zv → Prop} (K : Int → Zl → List Zv → Zt → Prop) : sx_ K P [.aload 0, .tableswitch 0 5 0 #[], .iload 1, .iaload, .iload 2, .if_icmp .lt 24, .aload 0, .tableswitch 0 5 0 #[], .iload 1, .iaload, .iload 3, .if_icmp .gt 24, .iconst 1, .goto 25] 24 = x_aload 0 (x_g1 105 500 (x_iload 1 (x_iaload (x_iload 2 (x_if_icmp .lt 24 K (x_aload 0 (x_g1 105 500 (x_iload 1 (x_iaload (x_iload 3 (x_if_icmp .gt 24 K (x_iconst 1 (x_goto 25 K))))))))))))) := ((xe_aload 0).trans (congrArg (x_aload 0) ((xe_g1 (kk := 105) rfl tl_5_0).trans (congrArg (x_g1 105 500) ((xe_iload 1).trans (congrArg (x_iload 1) ((xe_iaload).trans (congrArg (x_iaload) ((xe_iload 2).trans (congrArg (x_iload 2) ((xe_if_icmp .lt 24).trans (congrArg (x_if_icmp .lt 24 K) ((xe_aload 0).trans (congrArg (x_aload 0) ((xe_g1 (kk := 105) rfl tl_5_0).trans (congrArg (x_g1 105 500) ((xe_iload 1).trans (congrArg (x_iload 1) ((xe_iaload).trans (congrArg (x_iaload) ((xe_iload 3).trans (congrArg (x_iload 3) ((xe_if_icmp .gt 24).trans (congrArg (x_if_icmp .gt 24 K) ((xe_iconst 1).trans (congrArg (x_iconst 1) (xe_goto 25)))))))))))))))))))))))))))
theorem bk_X5_isBetween_24 : ck_ fX5 (some .boolean) cX5_isBetween 24 [.iconst 0, .ireturn] 26 = true := qck_r (nn_ _) (by decide +kernel)
theorem bs_X5_isBetween_24 {P : Zt → Option Zv → Prop} (K : Int → Zl → List Zv → Zt → Prop) : sx_ K P [.iconst 0, .ireturn] 26 = x_iconst 0 (x_ireturn P) := ((xe_iconst 0).trans (congrArg (x_iconst 0) (xe_ireturn)))
theorem bk_X5_isBetween_25 : ck_ fX5 (some .boolean) cX5_isBetween 25 [.ireturn] 26 = true := qck_r (nn_ _) (by decide +kernel)
theorem bs_X5_isBetween_25 {P : Zt → Option Zv → Prop} (K : Int → Zl → List Zv → Zt → Prop) : sx_ K P [.ireturn] 26 = x_ireturn P := (xe_ireturn)
abbrev cX5_takeRun : ByteArray := prog_7_method_12_code
def yX5_takeRun : MethodName := ⟨RX5, "takeRun", "(IIII)V"⟩
def zX5_takeRun : Zm := (RX5, cX5_takeRun, 5, none, { frames := 1, cells := 0, slots := 0, locals := 23 })
theorem bk_X5_takeRun_0 : ck_ fX5 none cX5_takeRun 0 [.aload 0, .tableswitch 0 5 9 #[], .aload 0, .tableswitch 0 5 1 #[], .if_icmp .ge 37, .aload 0, .aload 0, .tableswitch 0 5 9 #[], .iload 1, .iload 2] 18 = true := qck_r (nn_ _) (by decide +kernel)
theorem bs_X5_takeRun_0 {P : Zt → Option Zv → Prop} (K : Int → Zl → List Zv → Zt → Prop) : sx_ K P [.aload 0, .tableswitch 0 5 9 #[], .aload 0, .tableswitch 0 5 1 #[], .if_icmp .ge 37, .aload 0, .aload 0, .tableswitch 0 5 9 #[], .iload 1, .iload 2] 18 = x_aload 0 (x_g0 105 9 0 400 (x_aload 0 (x_g0 105 1 0 400 (x_if_icmp .ge 37 K (x_aload 0 (x_aload 0 (x_g0 105 9 0 400 (x_iload 1 (x_iload 2 (K 18)))))))))) := ((xe_aload 0).trans (congrArg (x_aload 0) ((xe_g0 (kk := 105) rfl tl_5_9).trans (congrArg (x_g0 105 9 0 400) ((xe_aload 0).trans (congrArg (x_aload 0) ((xe_g0 (kk := 105) rfl tl_5_1).trans (congrArg (x_g0 105 1 0 400) ((xe_if_icmp .ge 37).trans (congrArg (x_if_icmp .ge 37 K) ((xe_aload 0).trans (congrArg (x_aload 0) ((xe_aload 0).trans (congrArg (x_aload 0) ((xe_g0 (kk := 105) rfl tl_5_9).trans (congrArg (x_g0 105 9 0 400) ((xe_iload 1).trans (congrArg (x_iload 1) ((xe_iload 2).trans (congrArg (x_iload 2) xe_nil))))))))))))))))))))
theorem bk_X5_takeRun_37 : ck_ fX5 none cX5_takeRun 37 [.aload 0, .aload 0, .tableswitch 0 5 9 #[], .aload 0, .tableswitch 0 5 8 #[], .isub, .iload 4, .if_icmp .le 56, .iconst 5, .goto 57] 56 = true := qck_r (nn_ _) (by decide +kernel)
theorem bs_X5_takeRun_37 {P : Zt → Option Zv → Prop} (K : Int → Zl → List Zv → Zt → Prop) : sx_ K P [.aload 0, .aload 0, .tableswitch 0 5 9 #[], .aload 0, .tableswitch 0 5 8 #[], .isub, .iload 4, .if_icmp .le 56, .iconst 5, .goto 57] 56 = x_aload 0 (x_aload 0 (x_g0 105 9 0 400 (x_aload 0 (x_g0 105 8 0 400 (x_isub (x_iload 4 (x_if_icmp .le 56 K (x_iconst 5 (x_goto 57 K))))))))) := ((xe_aload 0).trans (congrArg (x_aload 0) ((xe_aload 0).trans (congrArg (x_aload 0) ((xe_g0 (kk := 105) rfl tl_5_9).trans (congrArg (x_g0 105 9 0 400) ((xe_aload 0).trans (congrArg (x_aload 0) ((xe_g0 (kk := 105) rfl tl_5_8).trans (congrArg (x_g0 105 8 0 400) ((xe_isub).trans (congrArg (x_isub) ((xe_iload 4).trans (congrArg (x_iload 4) ((xe_if_icmp .le 56).trans (congrArg (x_if_icmp .le 56 K) ((xe_iconst 5).trans (congrArg (x_iconst 5) (xe_goto 57)))))))))))))))))))
theorem bk_X5_takeRun_56 : ck_ fX5 none cX5_takeRun 56 [.iload 3, .tableswitch 1 5 7 #[], .return_] 61 = true := qck_r (nn_ _) (by decide +kernel)
theorem bs_X5_takeRun_56 {P : Zt → Option Zv → Prop} (K : Int → Zl → List Zv → Zt → Prop) : sx_ K P [.iload 3, .tableswitch 1 5 7 #[], .return_] 61 = x_iload 3 (x_p 105 7 0 5 (x_return_ P)) := ((xe_iload 3).trans (congrArg (x_iload 3) ((xe_p (kk := 105) rfl tl_5_7).trans (congrArg (x_p 105 7 0 5) (xe_return_)))))
theorem bk_X5_takeRun_57 : ck_ fX5 none cX5_takeRun 57 [.tableswitch 1 5 7 #[], .return_] 61 = true := qck_r (nn_ _) (by decide +kernel)
theorem bs_X5_takeRun_57 {P : Zt → Option Zv → Prop} (K : Int → Zl → List Zv → Zt → Prop) : sx_ K P [.tableswitch 1 5 7 #[], .return_] 61 = x_p 105 7 0 5 (x_return_ P) := ((xe_p (kk := 105) rfl tl_5_7).trans (congrArg (x_p 105 7 0 5) (xe_return_)))
set_option maxRecDepth 100000 in
theorem cl_X5_104 : cv_ RX5 104 yX5_isBetween zX5_isBetween 5 3 := ⟨gi_V (lwq_2 (dqc_m (dqc_m (dqc_m (dqc_m (dqc_m (dqc_m (dqa_m (dqa_m (List.mem_of_getElem? (i := 2) rfl))))))))) rfl : Cond.methodLink RX5 104 yX5_isBetween ∈ lw_g) (lwq_2 (dqc_m (dqc_m (dqc_m (dqc_m (dqc_m (dqc_m (dqa_m (dqa_m (List.mem_of_getElem? (i := 4) rfl))))))))) rfl : Cond.instanceMethod yX5_isBetween ∈ lw_g) (lw_sel 109 rfl : Cond.selects yX5_isBetween.cls yX5_isBetween yX5_isBetween ∈ lw_g) (lwq_1 (List.mem_of_getElem? (i := 2) rfl) rfl : Cond.initialized yX5_isBetween.cls ∈ lw_g) (lwq_2 (dqc_m (dqc_m (dqc_m (dqc_m (dqc_m (dqc_m (dqa_m (dqa_m (List.mem_of_getElem? (i := 5) rfl))))))))) rfl : Cond.code yX5_isBetween cX5_isBetween 4 (some .boolean) ∈ lw_g), ⟨nmh_5.1, nmh_5.2, pdq_11⟩, ⟨_, _, rfl⟩⟩
theorem bk_X5_takeRun_21 : ck_ fX5 none cX5_takeRun 21 [.ifCond .eq 37, .aload 0, .dup, .tableswitch 0 5 9 #[], .iconst 1, .iadd, .tableswitch 1 5 9 #[], .goto 0] 37 = true := qck_r (nn_ _) (by decide +kernel)
theorem bs_X5_takeRun_21 {P : Zt → Option Zv → Prop} (K : Int → Zl → List Zv → Zt → Prop) : sx_ K P [.ifCond .eq 37, .aload 0, .dup, .tableswitch 0 5 9 #[], .iconst 1, .iadd, .tableswitch 1 5 9 #[], .goto 0] 37 = x_ifCond .eq 37 K (x_aload 0 (x_dup (x_g0 105 9 0 400 (x_iconst 1 (x_iadd (x_p 105 9 0 400 (x_goto 0 K))))))) := ((xe_ifCond .eq 37).trans (congrArg (x_ifCond .eq 37 K) ((xe_aload 0).trans (congrArg (x_aload 0) ((xe_dup).trans (congrArg (x_dup) ((xe_g0 (kk := 105) rfl tl_5_9).trans (congrArg (x_g0 105 9 0 400) ((xe_iconst 1).trans (congrArg (x_iconst 1) ((xe_iadd).trans (congrArg (x_iadd) ((xe_p (kk := 105) rfl tl_5_9).trans (congrArg (x_p 105 9 0 400) (xe_goto 0)))))))))))))))
abbrev cX5_nextToken : ByteArray := prog_7_method_11_code
def yX5_nextToken : MethodName := ⟨RX5, "nextToken", "()V"⟩
def zX5_nextToken : Zm := (RX5, cX5_nextToken, 2, none, { frames := 2, cells := 0, slots := 0, locals := 47 })
theorem bk_X5_nextToken_5 : ck_ fX5 none cX5_nextToken 5 [.iload 1, .aload 0, .tableswitch 0 5 1 #[], .if_icmp .ge 41, .aload 0, .tableswitch 0 5 0 #[], .iload 1, .iaload, .iconst 10, .if_icmp .eq 35, .aload 0, .tableswitch 0 5 0 #[], .iload 1, .iaload, .iconst 32, .if_icmp .ne 41, .iinc 1 1, .goto 5] 41 = true := qck_r (nn_ _) (by decide +kernel)
theorem bs_X5_nextToken_5 {P : Zt → Option Zv → Prop} (K : Int → Zl → List Zv → Zt → Prop) : sx_ K P [.iload 1, .aload 0, .tableswitch 0 5 1 #[], .if_icmp .ge 41, .aload 0, .tableswitch 0 5 0 #[], .iload 1, .iaload, .iconst 10, .if_icmp .eq 35, .aload 0, .tableswitch 0 5 0 #[], .iload 1, .iaload, .iconst 32, .if_icmp .ne 41, .iinc 1 1, .goto 5] 41 = x_iload 1 (x_aload 0 (x_g0 105 1 0 400 (x_if_icmp .ge 41 K (x_aload 0 (x_g1 105 500 (x_iload 1 (x_iaload (x_iconst 10 (x_if_icmp .eq 35 K (x_aload 0 (x_g1 105 500 (x_iload 1 (x_iaload (x_iconst 32 (x_if_icmp .ne 41 K (x_iinc 1 1 (x_goto 5 K))))))))))))))))) := ((xe_iload 1).trans (congrArg (x_iload 1) ((xe_aload 0).trans (congrArg (x_aload 0) ((xe_g0 (kk := 105) rfl tl_5_1).trans (congrArg (x_g0 105 1 0 400) ((xe_if_icmp .ge 41).trans (congrArg (x_if_icmp .ge 41 K) ((xe_aload 0).trans (congrArg (x_aload 0) ((xe_g1 (kk := 105) rfl tl_5_0).trans (congrArg (x_g1 105 500) ((xe_iload 1).trans (congrArg (x_iload 1) ((xe_iaload).trans (congrArg (x_iaload) ((xe_iconst 10).trans (congrArg (x_iconst 10) ((xe_if_icmp .eq 35).trans (congrArg (x_if_icmp .eq 35 K) ((xe_aload 0).trans (congrArg (x_aload 0) ((xe_g1 (kk := 105) rfl tl_5_0).trans (congrArg (x_g1 105 500) ((xe_iload 1).trans (congrArg (x_iload 1) ((xe_iaload).trans (congrArg (x_iaload) ((xe_iconst 32).trans (congrArg (x_iconst 32) ((xe_if_icmp .ne 41).trans (congrArg (x_if_icmp .ne 41 K) ((xe_iinc 1 1).trans (congrArg (x_iinc 1 1) (xe_goto 5)))))))))))))))))))))))))))))))))))
theorem bk_X5_nextToken_41 : ck_ fX5 none cX5_nextToken 41 [.aload 0, .iload 1, .tableswitch 1 5 8 #[], .aload 0, .iload 1, .tableswitch 1 5 9 #[], .iload 1, .aload 0, .tableswitch 0 5 1 #[], .if_icmp .lt 67, .aload 0, .iconst 0, .tableswitch 1 5 7 #[], .goto 160] 67 = true := qck_r (nn_ _) (by decide +kernel)
theorem bs_X5_nextToken_41 {P : Zt → Option Zv → Prop} (K : Int → Zl → List Zv → Zt → Prop) : sx_ K P [.aload 0, .iload 1, .tableswitch 1 5 8 #[], .aload 0, .iload 1, .tableswitch 1 5 9 #[], .iload 1, .aload 0, .tableswitch 0 5 1 #[], .if_icmp .lt 67, .aload 0, .iconst 0, .tableswitch 1 5 7 #[], .goto 160] 67 = x_aload 0 (x_iload 1 (x_p 105 8 0 400 (x_aload 0 (x_iload 1 (x_p 105 9 0 400 (x_iload 1 (x_aload 0 (x_g0 105 1 0 400 (x_if_icmp .lt 67 K (x_aload 0 (x_iconst 0 (x_p 105 7 0 5 (x_goto 160 K))))))))))))) := ((xe_aload 0).trans (congrArg (x_aload 0) ((xe_iload 1).trans (congrArg (x_iload 1) ((xe_p (kk := 105) rfl tl_5_8).trans (congrArg (x_p 105 8 0 400) ((xe_aload 0).trans (congrArg (x_aload 0) ((xe_iload 1).trans (congrArg (x_iload 1) ((xe_p (kk := 105) rfl tl_5_9).trans (congrArg (x_p 105 9 0 400) ((xe_iload 1).trans (congrArg (x_iload 1) ((xe_aload 0).trans (congrArg (x_aload 0) ((xe_g0 (kk := 105) rfl tl_5_1).trans (congrArg (x_g0 105 1 0 400) ((xe_if_icmp .lt 67).trans (congrArg (x_if_icmp .lt 67 K) ((xe_aload 0).trans (congrArg (x_aload 0) ((xe_iconst 0).trans (congrArg (x_iconst 0) ((xe_p (kk := 105) rfl tl_5_7).trans (congrArg (x_p 105 7 0 5) (xe_goto 160)))))))))))))))))))))))))))
theorem bk_X5_nextToken_67 : ck_ fX5 none cX5_nextToken 67 [.aload 0, .iload 1, .iconst 97, .iconst 122] 73 = true := qck_r (nn_ _) (by decide +kernel)
theorem bs_X5_nextToken_67 {P : Zt → Option Zv → Prop} (K : Int → Zl → List Zv → Zt → Prop) : sx_ K P [.aload 0, .iload 1, .iconst 97, .iconst 122] 73 = x_aload 0 (x_iload 1 (x_iconst 97 (x_iconst 122 (K 73)))) := ((xe_aload 0).trans (congrArg (x_aload 0) ((xe_iload 1).trans (congrArg (x_iload 1) ((xe_iconst 97).trans (congrArg (x_iconst 97) ((xe_iconst 122).trans (congrArg (x_iconst 122) xe_nil))))))))
theorem bk_X5_nextToken_76 : ck_ fX5 none cX5_nextToken 76 [.ifCond .eq 93, .aload 0, .iconst 97, .iconst 122, .iconst 1, .iconst 12] 87 = true := qck_r (nn_ _) (by decide +kernel)
theorem bs_X5_nextToken_76 {P : Zt → Option Zv → Prop} (K : Int → Zl → List Zv → Zt → Prop) : sx_ K P [.ifCond .eq 93, .aload 0, .iconst 97, .iconst 122, .iconst 1, .iconst 12] 87 = x_ifCond .eq 93 K (x_aload 0 (x_iconst 97 (x_iconst 122 (x_iconst 1 (x_iconst 12 (K 87)))))) := ((xe_ifCond .eq 93).trans (congrArg (x_ifCond .eq 93 K) ((xe_aload 0).trans (congrArg (x_aload 0) ((xe_iconst 97).trans (congrArg (x_iconst 97) ((xe_iconst 122).trans (congrArg (x_iconst 122) ((xe_iconst 1).trans (congrArg (x_iconst 1) ((xe_iconst 12).trans (congrArg (x_iconst 12) xe_nil))))))))))))
theorem bk_X5_nextToken_93 : ck_ fX5 none cX5_nextToken 93 [.aload 0, .iload 1, .iconst 48, .iconst 57] 99 = true := qck_r (nn_ _) (by decide +kernel)
theorem bs_X5_nextToken_93 {P : Zt → Option Zv → Prop} (K : Int → Zl → List Zv → Zt → Prop) : sx_ K P [.aload 0, .iload 1, .iconst 48, .iconst 57] 99 = x_aload 0 (x_iload 1 (x_iconst 48 (x_iconst 57 (K 99)))) := ((xe_aload 0).trans (congrArg (x_aload 0) ((xe_iload 1).trans (congrArg (x_iload 1) ((xe_iconst 48).trans (congrArg (x_iconst 48) ((xe_iconst 57).trans (congrArg (x_iconst 57) xe_nil))))))))
theorem bk_X5_nextToken_102 : ck_ fX5 none cX5_nextToken 102 [.ifCond .eq 118, .aload 0, .iconst 48, .iconst 57, .iconst 2, .iconst 3] 112 = true := qck_r (nn_ _) (by decide +kernel)
theorem bs_X5_nextToken_102 {P : Zt → Option Zv → Prop} (K : Int → Zl → List Zv → Zt → Prop) : sx_ K P [.ifCond .eq 118, .aload 0, .iconst 48, .iconst 57, .iconst 2, .iconst 3] 112 = x_ifCond .eq 118 K (x_aload 0 (x_iconst 48 (x_iconst 57 (x_iconst 2 (x_iconst 3 (K 112)))))) := ((xe_ifCond .eq 118).trans (congrArg (x_ifCond .eq 118 K) ((xe_aload 0).trans (congrArg (x_aload 0) ((xe_iconst 48).trans (congrArg (x_iconst 48) ((xe_iconst 57).trans (congrArg (x_iconst 57) ((xe_iconst 2).trans (congrArg (x_iconst 2) ((xe_iconst 3).trans (congrArg (x_iconst 3) xe_nil))))))))))))
theorem bk_X5_nextToken_118 : ck_ fX5 none cX5_nextToken 118 [.aload 0, .iload 1, .iconst 1, .iadd, .tableswitch 1 5 9 #[], .aload 0, .aload 0, .tableswitch 0 5 0 #[], .iload 1, .iaload, .iconst 59, .if_icmp .ne 141, .iconst 3, .goto 157] 141 = true := qck_r (nn_ _) (by decide +kernel)
theorem bs_X5_nextToken_118 {P : Zt → Option Zv → Prop} (K : Int → Zl → List Zv → Zt → Prop) : sx_ K P [.aload 0, .iload 1, .iconst 1, .iadd, .tableswitch 1 5 9 #[], .aload 0, .aload 0, .tableswitch 0 5 0 #[], .iload 1, .iaload, .iconst 59, .if_icmp .ne 141, .iconst 3, .goto 157] 141 = x_aload 0 (x_iload 1 (x_iconst 1 (x_iadd (x_p 105 9 0 400 (x_aload 0 (x_aload 0 (x_g1 105 500 (x_iload 1 (x_iaload (x_iconst 59 (x_if_icmp .ne 141 K (x_iconst 3 (x_goto 157 K))))))))))))) := ((xe_aload 0).trans (congrArg (x_aload 0) ((xe_iload 1).trans (congrArg (x_iload 1) ((xe_iconst 1).trans (congrArg (x_iconst 1) ((xe_iadd).trans (congrArg (x_iadd) ((xe_p (kk := 105) rfl tl_5_9).trans (congrArg (x_p 105 9 0 400) ((xe_aload 0).trans (congrArg (x_aload 0) ((xe_aload 0).trans (congrArg (x_aload 0) ((xe_g1 (kk := 105) rfl tl_5_0).trans (congrArg (x_g1 105 500) ((xe_iload 1).trans (congrArg (x_iload 1) ((xe_iaload).trans (congrArg (x_iaload) ((xe_iconst 59).trans (congrArg (x_iconst 59) ((xe_if_icmp .ne 141).trans (congrArg (x_if_icmp .ne 141 K) ((xe_iconst 3).trans (congrArg (x_iconst 3) (xe_goto 157)))))))))))))))))))))))))))
theorem bk_X5_nextToken_141 : ck_ fX5 none cX5_nextToken 141 [.aload 0, .tableswitch 0 5 0 #[], .iload 1, .iaload, .iconst 44, .if_icmp .ne 156, .iconst 4, .goto 157] 156 = true := qck_r (nn_ _) (by decide +kernel)
theorem bs_X5_nextToken_141 {P : Zt → Option Zv → Prop} (K : Int → Zl → List Zv → Zt → Prop) : sx_ K P [.aload 0, .tableswitch 0 5 0 #[], .iload 1, .iaload, .iconst 44, .if_icmp .ne 156, .iconst 4, .goto 157] 156 = x_aload 0 (x_g1 105 500 (x_iload 1 (x_iaload (x_iconst 44 (x_if_icmp .ne 156 K (x_iconst 4 (x_goto 157 K))))))) := ((xe_aload 0).trans (congrArg (x_aload 0) ((xe_g1 (kk := 105) rfl tl_5_0).trans (congrArg (x_g1 105 500) ((xe_iload 1).trans (congrArg (x_iload 1) ((xe_iaload).trans (congrArg (x_iaload) ((xe_iconst 44).trans (congrArg (x_iconst 44) ((xe_if_icmp .ne 156).trans (congrArg (x_if_icmp .ne 156 K) ((xe_iconst 4).trans (congrArg (x_iconst 4) (xe_goto 157)))))))))))))))
theorem bk_X5_nextToken_156 : ck_ fX5 none cX5_nextToken 156 [.iconst 5, .tableswitch 1 5 7 #[], .return_] 161 = true := qck_r (nn_ _) (by decide +kernel)
theorem bs_X5_nextToken_156 {P : Zt → Option Zv → Prop} (K : Int → Zl → List Zv → Zt → Prop) : sx_ K P [.iconst 5, .tableswitch 1 5 7 #[], .return_] 161 = x_iconst 5 (x_p 105 7 0 5 (x_return_ P)) := ((xe_iconst 5).trans (congrArg (x_iconst 5) ((xe_p (kk := 105) rfl tl_5_7).trans (congrArg (x_p 105 7 0 5) (xe_return_)))))
theorem bk_X5_nextToken_157 : ck_ fX5 none cX5_nextToken 157 [.tableswitch 1 5 7 #[], .return_] 161 = true := qck_r (nn_ _) (by decide +kernel)
theorem bs_X5_nextToken_157 {P : Zt → Option Zv → Prop} (K : Int → Zl → List Zv → Zt → Prop) : sx_ K P [.tableswitch 1 5 7 #[], .return_] 161 = x_p 105 7 0 5 (x_return_ P) := ((xe_p (kk := 105) rfl tl_5_7).trans (congrArg (x_p 105 7 0 5) (xe_return_)))
set_option maxRecDepth 100000 in
theorem cl_X5_108 : cv_ RX5 108 yX5_takeRun zX5_takeRun 5 4 := ⟨gi_V (lwq_2 (dqc_m (dqc_m (dqc_m (dqc_m (dqc_m (dqc_m (dqa_m (dqa_m (List.mem_of_getElem? (i := 6) rfl))))))))) rfl : Cond.methodLink RX5 108 yX5_takeRun ∈ lw_g) (lwq_2 (dqc_m (dqc_m (dqc_m (dqc_m (dqc_m (dqc_m (dqa_m (dqa_m (dqa_m (List.mem_of_getElem? (i := 0) rfl)))))))))) rfl : Cond.instanceMethod yX5_takeRun ∈ lw_g) (lw_sel 117 rfl : Cond.selects yX5_takeRun.cls yX5_takeRun yX5_takeRun ∈ lw_g) (lwq_1 (List.mem_of_getElem? (i := 2) rfl) rfl : Cond.initialized yX5_takeRun.cls ∈ lw_g) (lwq_2 (dqc_m (dqc_m (dqc_m (dqc_m (dqc_m (dqc_m (dqa_m (dqa_m (dqa_m (List.mem_of_getElem? (i := 1) rfl)))))))))) rfl : Cond.code yX5_takeRun cX5_takeRun 5 none ∈ lw_g), ⟨nmh_5.1, nmh_5.2, pdq_12⟩, ⟨_, _, rfl⟩⟩
theorem bk_X5_nextToken_115 : ck_ fX5 none cX5_nextToken 115 [.goto 160] 118 = true := qck_r (nn_ _) (by decide +kernel)
theorem bs_X5_nextToken_115 {P : Zt → Option Zv → Prop} (K : Int → Zl → List Zv → Zt → Prop) : sx_ K P [.goto 160] 118 = x_goto 160 K := (xe_goto 160)
theorem bk_X5_nextToken_160 : ck_ fX5 none cX5_nextToken 160 [.return_] 161 = true := qck_r (nn_ _) (by decide +kernel)
theorem bs_X5_nextToken_160 {P : Zt → Option Zv → Prop} (K : Int → Zl → List Zv → Zt → Prop) : sx_ K P [.return_] 161 = x_return_ P := (xe_return_)
theorem bk_X5_nextToken_90 : ck_ fX5 none cX5_nextToken 90 [.goto 160] 93 = true := qck_r (nn_ _) (by decide +kernel)
theorem bs_X5_nextToken_90 {P : Zt → Option Zv → Prop} (K : Int → Zl → List Zv → Zt → Prop) : sx_ K P [.goto 160] 93 = x_goto 160 K := (xe_goto 160)
theorem bk_X5_nextToken_35 : ck_ fX5 none cX5_nextToken 35 [.iinc 1 1, .goto 5] 41 = true := qck_r (nn_ _) (by decide +kernel)
theorem bs_X5_nextToken_35 {P : Zt → Option Zv → Prop} (K : Int → Zl → List Zv → Zt → Prop) : sx_ K P [.iinc 1 1, .goto 5] 41 = x_iinc 1 1 (x_goto 5 K) := ((xe_iinc 1 1).trans (congrArg (x_iinc 1 1) (xe_goto 5)))
theorem bk_X5_nextToken_0 : ck_ fX5 none cX5_nextToken 0 [.aload 0, .tableswitch 0 5 9 #[], .istore 1] 5 = true := qck_r (nn_ _) (by decide +kernel)
theorem bs_X5_nextToken_0 {P : Zt → Option Zv → Prop} (K : Int → Zl → List Zv → Zt → Prop) : sx_ K P [.aload 0, .tableswitch 0 5 9 #[], .istore 1] 5 = x_aload 0 (x_g0 105 9 0 400 (x_istore 1 (K 5))) := ((xe_aload 0).trans (congrArg (x_aload 0) ((xe_g0 (kk := 105) rfl tl_5_9).trans (congrArg (x_g0 105 9 0 400) ((xe_istore 1).trans (congrArg (x_istore 1) xe_nil))))))
abbrev cX5_fail : ByteArray := prog_7_method_8_code
def yX5_fail : MethodName := ⟨RX5, "fail", "(I)Z"⟩
def zX5_fail : Zm := (RX5, cX5_fail, 2, (some .boolean), { frames := 0, cells := 0, slots := 0, locals := 0 })
theorem bk_X5_fail_0 : ck_ fX5 (some .boolean) cX5_fail 0 [.aload 0, .iload 1, .tableswitch 1 5 2 #[], .aload 0, .aload 0, .tableswitch 0 5 8 #[], .tableswitch 1 5 3 #[], .iconst 0, .ireturn] 15 = true := qck_r (nn_ _) (by decide +kernel)
theorem bs_X5_fail_0 {P : Zt → Option Zv → Prop} (K : Int → Zl → List Zv → Zt → Prop) : sx_ K P [.aload 0, .iload 1, .tableswitch 1 5 2 #[], .aload 0, .aload 0, .tableswitch 0 5 8 #[], .tableswitch 1 5 3 #[], .iconst 0, .ireturn] 15 = x_aload 0 (x_iload 1 (x_p 105 2 0 5 (x_aload 0 (x_aload 0 (x_g0 105 8 0 400 (x_p 105 3 (-1) 400 (x_iconst 0 (x_ireturn P)))))))) := ((xe_aload 0).trans (congrArg (x_aload 0) ((xe_iload 1).trans (congrArg (x_iload 1) ((xe_p (kk := 105) rfl tl_5_2).trans (congrArg (x_p 105 2 0 5) ((xe_aload 0).trans (congrArg (x_aload 0) ((xe_aload 0).trans (congrArg (x_aload 0) ((xe_g0 (kk := 105) rfl tl_5_8).trans (congrArg (x_g0 105 8 0 400) ((xe_p (kk := 105) rfl tl_5_3).trans (congrArg (x_p 105 3 (-1) 400) ((xe_iconst 0).trans (congrArg (x_iconst 0) (xe_ireturn)))))))))))))))))
abbrev cX5_isOfKind : ByteArray := prog_7_method_9_code
def yX5_isOfKind : MethodName := ⟨RX5, "isOfKind", "(I)Z"⟩
def zX5_isOfKind : Zm := (RX5, cX5_isOfKind, 2, (some .boolean), { frames := 1, cells := 0, slots := 0, locals := 21 })
theorem bk_X5_isOfKind_0 : ck_ fX5 (some .boolean) cX5_isOfKind 0 [.aload 0, .tableswitch 0 5 7 #[], .iconst 5, .if_icmp .ne 14, .aload 0, .iconst 1] 10 = true := qck_r (nn_ _) (by decide +kernel)
theorem bs_X5_isOfKind_0 {P : Zt → Option Zv → Prop} (K : Int → Zl → List Zv → Zt → Prop) : sx_ K P [.aload 0, .tableswitch 0 5 7 #[], .iconst 5, .if_icmp .ne 14, .aload 0, .iconst 1] 10 = x_aload 0 (x_g0 105 7 0 5 (x_iconst 5 (x_if_icmp .ne 14 K (x_aload 0 (x_iconst 1 (K 10)))))) := ((xe_aload 0).trans (congrArg (x_aload 0) ((xe_g0 (kk := 105) rfl tl_5_7).trans (congrArg (x_g0 105 7 0 5) ((xe_iconst 5).trans (congrArg (x_iconst 5) ((xe_if_icmp .ne 14).trans (congrArg (x_if_icmp .ne 14 K) ((xe_aload 0).trans (congrArg (x_aload 0) ((xe_iconst 1).trans (congrArg (x_iconst 1) xe_nil))))))))))))
theorem bk_X5_isOfKind_14 : ck_ fX5 (some .boolean) cX5_isOfKind 14 [.aload 0, .tableswitch 0 5 7 #[], .iload 1, .if_icmp .eq 30, .aload 0, .iconst 2] 24 = true := qck_r (nn_ _) (by decide +kernel)
theorem bs_X5_isOfKind_14 {P : Zt → Option Zv → Prop} (K : Int → Zl → List Zv → Zt → Prop) : sx_ K P [.aload 0, .tableswitch 0 5 7 #[], .iload 1, .if_icmp .eq 30, .aload 0, .iconst 2] 24 = x_aload 0 (x_g0 105 7 0 5 (x_iload 1 (x_if_icmp .eq 30 K (x_aload 0 (x_iconst 2 (K 24)))))) := ((xe_aload 0).trans (congrArg (x_aload 0) ((xe_g0 (kk := 105) rfl tl_5_7).trans (congrArg (x_g0 105 7 0 5) ((xe_iload 1).trans (congrArg (x_iload 1) ((xe_if_icmp .eq 30).trans (congrArg (x_if_icmp .eq 30 K) ((xe_aload 0).trans (congrArg (x_aload 0) ((xe_iconst 2).trans (congrArg (x_iconst 2) xe_nil))))))))))))
theorem bk_X5_isOfKind_30 : ck_ fX5 (some .boolean) cX5_isOfKind 30 [.iconst 1, .goto 35] 34 = true := qck_r (nn_ _) (by decide +kernel)
theorem bs_X5_isOfKind_30 {P : Zt → Option Zv → Prop} (K : Int → Zl → List Zv → Zt → Prop) : sx_ K P [.iconst 1, .goto 35] 34 = x_iconst 1 (x_goto 35 K) := ((xe_iconst 1).trans (congrArg (x_iconst 1) (xe_goto 35)))
theorem bk_X5_isOfKind_35 : ck_ fX5 (some .boolean) cX5_isOfKind 35 [.ireturn] 36 = true := qck_r (nn_ _) (by decide +kernel)
theorem bs_X5_isOfKind_35 {P : Zt → Option Zv → Prop} (K : Int → Zl → List Zv → Zt → Prop) : sx_ K P [.ireturn] 36 = x_ireturn P := (xe_ireturn)
set_option maxRecDepth 100000 in
theorem cl_X5_59 : cv_ RX5 59 yX5_fail zX5_fail 5 1 := ⟨gi_V (lwq_2 (dqc_m (dqc_m (dqc_m (dqc_m (dqc_m (dqc_m (dqc_m (List.mem_of_getElem? (i := 7) rfl)))))))) rfl : Cond.methodLink RX5 59 yX5_fail ∈ lw_g) (lwq_2 (dqc_m (dqc_m (dqc_m (dqc_m (dqc_m (dqc_m (dqc_m (dqa_m (List.mem_of_getElem? (i := 1) rfl))))))))) rfl : Cond.instanceMethod yX5_fail ∈ lw_g) (lw_sel 108 rfl : Cond.selects yX5_fail.cls yX5_fail yX5_fail ∈ lw_g) (lwq_1 (List.mem_of_getElem? (i := 2) rfl) rfl : Cond.initialized yX5_fail.cls ∈ lw_g) (lwq_2 (dqc_m (dqc_m (dqc_m (dqc_m (dqc_m (dqc_m (dqc_m (dqa_m (List.mem_of_getElem? (i := 2) rfl))))))))) rfl : Cond.code yX5_fail cX5_fail 2 (some .boolean) ∈ lw_g), ⟨nmh_5.1, nmh_5.2, pdq_7⟩, ⟨_, _, rfl⟩⟩
theorem bk_X5_isOfKind_27 : ck_ fX5 (some .boolean) cX5_isOfKind 27 [.ifCond .eq 34, .iconst 1, .goto 35] 34 = true := qck_r (nn_ _) (by decide +kernel)
theorem bs_X5_isOfKind_27 {P : Zt → Option Zv → Prop} (K : Int → Zl → List Zv → Zt → Prop) : sx_ K P [.ifCond .eq 34, .iconst 1, .goto 35] 34 = x_ifCond .eq 34 K (x_iconst 1 (x_goto 35 K)) := ((xe_ifCond .eq 34).trans (congrArg (x_ifCond .eq 34 K) ((xe_iconst 1).trans (congrArg (x_iconst 1) (xe_goto 35)))))
theorem bk_X5_isOfKind_34 : ck_ fX5 (some .boolean) cX5_isOfKind 34 [.iconst 0, .ireturn] 36 = true := qck_r (nn_ _) (by decide +kernel)
theorem bs_X5_isOfKind_34 {P : Zt → Option Zv → Prop} (K : Int → Zl → List Zv → Zt → Prop) : sx_ K P [.iconst 0, .ireturn] 36 = x_iconst 0 (x_ireturn P) := ((xe_iconst 0).trans (congrArg (x_iconst 0) (xe_ireturn)))
theorem bk_X5_isOfKind_13 : ck_ fX5 (some .boolean) cX5_isOfKind 13 [.ireturn] 14 = true := qck_r (nn_ _) (by decide +kernel)
theorem bs_X5_isOfKind_13 {P : Zt → Option Zv → Prop} (K : Int → Zl → List Zv → Zt → Prop) : sx_ K P [.ireturn] 14 = x_ireturn P := (xe_ireturn)
abbrev cX5_wordOf : ByteArray := prog_7_method_10_code
def yX5_wordOf : MethodName := ⟨RX5, "wordOf", "(Ljava/lang/String;)I"⟩
def zX5_wordOf : Zm := (RX5, cX5_wordOf, 6, (some .int), { frames := 4, cells := 0, slots := 0, locals := 85 })
theorem bk_X5_wordOf_17 : ck_ fX5 (some .int) cX5_wordOf 17 [.iload 4, .aload 1] 20 = true := qck_r (nn_ _) (by decide +kernel)
theorem bs_X5_wordOf_17 {P : Zt → Option Zv → Prop} (K : Int → Zl → List Zv → Zt → Prop) : sx_ K P [.iload 4, .aload 1] 20 = x_iload 4 (x_aload 1 (K 20)) := ((xe_iload 4).trans (congrArg (x_iload 4) ((xe_aload 1).trans (congrArg (x_aload 1) xe_nil))))
set_option maxRecDepth 100000 in
theorem ck82_X5_92 : ck82_ RX5 92 yJ0_length_8abf5 zJ0_length_8abf5 0 := ⟨gi_V (lwq_2 (dqc_m (dqc_m (dqc_m (dqc_m (dqc_m (dqc_m (dqc_m (dqa_m (List.mem_of_getElem? (i := 3) rfl))))))))) rfl : Cond.methodLink RX5 92 yJ0_length_8abf5 ∈ lw_g) (lwq_2 (dqc_m (dqc_m (dqc_m (dqc_m (dqc_m (dqc_m (dqc_m (dqa_m (List.mem_of_getElem? (i := 4) rfl))))))))) rfl : Cond.instanceMethod yJ0_length_8abf5 ∈ lw_g) (lwq_2 (dqc_m (dqc_m (dqc_m (dqc_m (dqc_m (dqc_m (dqc_m (dqa_m (List.mem_of_getElem? (i := 5) rfl))))))))) rfl : Cond.selects yJ0_length_8abf5.cls yJ0_length_8abf5 yJ0_length_8abf5 ∈ lw_g) (lwq_1 (dqa_m (List.mem_of_getElem? (i := 3) rfl)) rfl : Cond.initialized yJ0_length_8abf5.cls ∈ lw_g) (lwq_2 (dqc_m (dqc_m (dqc_m (dqc_m (dqc_m (dqc_m (dqc_m (dqa_m (List.mem_of_getElem? (i := 6) rfl))))))))) rfl : Cond.code yJ0_length_8abf5 cJ0_length_8abf5 1 (some .int) ∈ lw_g), ⟨by decide, by decide, by decide +kernel⟩, rfl⟩
theorem bk_X5_wordOf_23 : ck_ fX5 (some .int) cX5_wordOf 23 [.if_icmp .ge 111, .aload 1, .iload 4] 29 = true := qck_r (nn_ _) (by decide +kernel)
theorem bs_X5_wordOf_23 {P : Zt → Option Zv → Prop} (K : Int → Zl → List Zv → Zt → Prop) : sx_ K P [.if_icmp .ge 111, .aload 1, .iload 4] 29 = x_if_icmp .ge 111 K (x_aload 1 (x_iload 4 (K 29))) := ((xe_if_icmp .ge 111).trans (congrArg (x_if_icmp .ge 111 K) ((xe_aload 1).trans (congrArg (x_aload 1) ((xe_iload 4).trans (congrArg (x_iload 4) xe_nil))))))
theorem bk_X5_wordOf_111 : ck_ fX5 (some .int) cX5_wordOf 111 [.aload 0, .iconst 3] 113 = true := qck_r (nn_ _) (by decide +kernel)
theorem bs_X5_wordOf_111 {P : Zt → Option Zv → Prop} (K : Int → Zl → List Zv → Zt → Prop) : sx_ K P [.aload 0, .iconst 3] 113 = x_aload 0 (x_iconst 3 (K 113)) := ((xe_aload 0).trans (congrArg (x_aload 0) ((xe_iconst 3).trans (congrArg (x_iconst 3) xe_nil))))
theorem bk_X5_wordOf_116 : ck_ fX5 (some .int) cX5_wordOf 116 [.pop, .iconst (-1), .ireturn] 119 = true := qck_r (nn_ _) (by decide +kernel)
theorem bs_X5_wordOf_116 {P : Zt → Option Zv → Prop} (K : Int → Zl → List Zv → Zt → Prop) : sx_ K P [.pop, .iconst (-1), .ireturn] 119 = x_pop (x_iconst (-1) (x_ireturn P)) := ((xe_pop).trans (congrArg (x_pop) ((xe_iconst (-1)).trans (congrArg (x_iconst (-1)) (xe_ireturn)))))
set_option maxRecDepth 100000 in
theorem ck82_X5_98 : ck82_ RX5 98 yJ0_charAt_5068e zJ0_charAt_5068e 1 := ⟨gi_V (lwq_3 (List.mem_of_getElem? (i := 5) rfl) rfl : Cond.methodLink RX5 98 yJ0_charAt_5068e ∈ lw_g) (lwq_3 (List.mem_of_getElem? (i := 6) rfl) rfl : Cond.instanceMethod yJ0_charAt_5068e ∈ lw_g) (lwq_3 (List.mem_of_getElem? (i := 7) rfl) rfl : Cond.selects yJ0_charAt_5068e.cls yJ0_charAt_5068e yJ0_charAt_5068e ∈ lw_g) (lwq_1 (dqa_m (List.mem_of_getElem? (i := 3) rfl)) rfl : Cond.initialized yJ0_charAt_5068e.cls ∈ lw_g) (lwq_3 (dqa_m (List.mem_of_getElem? (i := 0) rfl)) rfl : Cond.code yJ0_charAt_5068e cJ0_charAt_5068e 2 (some .char) ∈ lw_g), ⟨by decide, by decide, by decide +kernel⟩, rfl⟩
theorem bk_X5_wordOf_32 : ck_ fX5 (some .int) cX5_wordOf 32 [.istore 5, .iload 5, .iconst 59, .if_icmp .ne 64, .iload 3, .aload 0, .tableswitch 0 5 9 #[], .aload 0, .tableswitch 0 5 8 #[], .isub, .if_icmp .ne 56, .iload 2, .ireturn] 56 = true := qck_r (nn_ _) (by decide +kernel)
theorem bs_X5_wordOf_32 {P : Zt → Option Zv → Prop} (K : Int → Zl → List Zv → Zt → Prop) : sx_ K P [.istore 5, .iload 5, .iconst 59, .if_icmp .ne 64, .iload 3, .aload 0, .tableswitch 0 5 9 #[], .aload 0, .tableswitch 0 5 8 #[], .isub, .if_icmp .ne 56, .iload 2, .ireturn] 56 = x_istore 5 (x_iload 5 (x_iconst 59 (x_if_icmp .ne 64 K (x_iload 3 (x_aload 0 (x_g0 105 9 0 400 (x_aload 0 (x_g0 105 8 0 400 (x_isub (x_if_icmp .ne 56 K (x_iload 2 (x_ireturn P)))))))))))) := ((xe_istore 5).trans (congrArg (x_istore 5) ((xe_iload 5).trans (congrArg (x_iload 5) ((xe_iconst 59).trans (congrArg (x_iconst 59) ((xe_if_icmp .ne 64).trans (congrArg (x_if_icmp .ne 64 K) ((xe_iload 3).trans (congrArg (x_iload 3) ((xe_aload 0).trans (congrArg (x_aload 0) ((xe_g0 (kk := 105) rfl tl_5_9).trans (congrArg (x_g0 105 9 0 400) ((xe_aload 0).trans (congrArg (x_aload 0) ((xe_g0 (kk := 105) rfl tl_5_8).trans (congrArg (x_g0 105 8 0 400) ((xe_isub).trans (congrArg (x_isub) ((xe_if_icmp .ne 56).trans (congrArg (x_if_icmp .ne 56 K) ((xe_iload 2).trans (congrArg (x_iload 2) (xe_ireturn)))))))))))))))))))))))))
theorem bk_X5_wordOf_64 : ck_ fX5 (some .int) cX5_wordOf 64 [.iload 3, .ifCond .lt 103, .aload 0, .tableswitch 0 5 8 #[], .iload 3, .iadd, .aload 0, .tableswitch 0 5 9 #[], .if_icmp .ge 103, .aload 0, .tableswitch 0 5 0 #[], .aload 0, .tableswitch 0 5 8 #[], .iload 3, .iadd, .iaload, .iload 5, .if_icmp .ne 103, .iinc 3 1, .goto 105] 103 = true := qck_r (nn_ _) (by decide +kernel)
theorem bs_X5_wordOf_64 {P : Zt → Option Zv → Prop} (K : Int → Zl → List Zv → Zt → Prop) : sx_ K P [.iload 3, .ifCond .lt 103, .aload 0, .tableswitch 0 5 8 #[], .iload 3, .iadd, .aload 0, .tableswitch 0 5 9 #[], .if_icmp .ge 103, .aload 0, .tableswitch 0 5 0 #[], .aload 0, .tableswitch 0 5 8 #[], .iload 3, .iadd, .iaload, .iload 5, .if_icmp .ne 103, .iinc 3 1, .goto 105] 103 = x_iload 3 (x_ifCond .lt 103 K (x_aload 0 (x_g0 105 8 0 400 (x_iload 3 (x_iadd (x_aload 0 (x_g0 105 9 0 400 (x_if_icmp .ge 103 K (x_aload 0 (x_g1 105 500 (x_aload 0 (x_g0 105 8 0 400 (x_iload 3 (x_iadd (x_iaload (x_iload 5 (x_if_icmp .ne 103 K (x_iinc 3 1 (x_goto 105 K))))))))))))))))))) := ((xe_iload 3).trans (congrArg (x_iload 3) ((xe_ifCond .lt 103).trans (congrArg (x_ifCond .lt 103 K) ((xe_aload 0).trans (congrArg (x_aload 0) ((xe_g0 (kk := 105) rfl tl_5_8).trans (congrArg (x_g0 105 8 0 400) ((xe_iload 3).trans (congrArg (x_iload 3) ((xe_iadd).trans (congrArg (x_iadd) ((xe_aload 0).trans (congrArg (x_aload 0) ((xe_g0 (kk := 105) rfl tl_5_9).trans (congrArg (x_g0 105 9 0 400) ((xe_if_icmp .ge 103).trans (congrArg (x_if_icmp .ge 103 K) ((xe_aload 0).trans (congrArg (x_aload 0) ((xe_g1 (kk := 105) rfl tl_5_0).trans (congrArg (x_g1 105 500) ((xe_aload 0).trans (congrArg (x_aload 0) ((xe_g0 (kk := 105) rfl tl_5_8).trans (congrArg (x_g0 105 8 0 400) ((xe_iload 3).trans (congrArg (x_iload 3) ((xe_iadd).trans (congrArg (x_iadd) ((xe_iaload).trans (congrArg (x_iaload) ((xe_iload 5).trans (congrArg (x_iload 5) ((xe_if_icmp .ne 103).trans (congrArg (x_if_icmp .ne 103 K) ((xe_iinc 3 1).trans (congrArg (x_iinc 3 1) (xe_goto 105)))))))))))))))))))))))))))))))))))))))
theorem bk_X5_wordOf_103 : ck_ fX5 (some .int) cX5_wordOf 103 [.iconst (-1), .istore 3, .iinc 4 1, .goto 17] 111 = true := qck_r (nn_ _) (by decide +kernel)
theorem bs_X5_wordOf_103 {P : Zt → Option Zv → Prop} (K : Int → Zl → List Zv → Zt → Prop) : sx_ K P [.iconst (-1), .istore 3, .iinc 4 1, .goto 17] 111 = x_iconst (-1) (x_istore 3 (x_iinc 4 1 (x_goto 17 K))) := ((xe_iconst (-1)).trans (congrArg (x_iconst (-1)) ((xe_istore 3).trans (congrArg (x_istore 3) ((xe_iinc 4 1).trans (congrArg (x_iinc 4 1) (xe_goto 17)))))))
theorem bk_X5_wordOf_105 : ck_ fX5 (some .int) cX5_wordOf 105 [.iinc 4 1, .goto 17] 111 = true := qck_r (nn_ _) (by decide +kernel)
theorem bs_X5_wordOf_105 {P : Zt → Option Zv → Prop} (K : Int → Zl → List Zv → Zt → Prop) : sx_ K P [.iinc 4 1, .goto 17] 111 = x_iinc 4 1 (x_goto 17 K) := ((xe_iinc 4 1).trans (congrArg (x_iinc 4 1) (xe_goto 17)))
theorem bk_X5_wordOf_56 : ck_ fX5 (some .int) cX5_wordOf 56 [.iinc 2 1, .iconst 0, .istore 3, .goto 105] 64 = true := qck_r (nn_ _) (by decide +kernel)
theorem bs_X5_wordOf_56 {P : Zt → Option Zv → Prop} (K : Int → Zl → List Zv → Zt → Prop) : sx_ K P [.iinc 2 1, .iconst 0, .istore 3, .goto 105] 64 = x_iinc 2 1 (x_iconst 0 (x_istore 3 (x_goto 105 K))) := ((xe_iinc 2 1).trans (congrArg (x_iinc 2 1) ((xe_iconst 0).trans (congrArg (x_iconst 0) ((xe_istore 3).trans (congrArg (x_istore 3) (xe_goto 105)))))))
theorem bk_X5_wordOf_0 : ck_ fX5 (some .int) cX5_wordOf 0 [.aload 0, .iconst 1] 2 = true := qck_r (nn_ _) (by decide +kernel)
theorem bs_X5_wordOf_0 {P : Zt → Option Zv → Prop} (K : Int → Zl → List Zv → Zt → Prop) : sx_ K P [.aload 0, .iconst 1] 2 = x_aload 0 (x_iconst 1 (K 2)) := ((xe_aload 0).trans (congrArg (x_aload 0) ((xe_iconst 1).trans (congrArg (x_iconst 1) xe_nil))))
set_option maxRecDepth 100000 in
theorem cl_X5_79 : cv_ RX5 79 yX5_isOfKind zX5_isOfKind 5 1 := ⟨gi_V (lwq_2 (dqc_m (dqc_m (dqc_m (dqc_m (dqc_m (dqc_m (dqc_m (List.mem_of_getElem? (i := 3) rfl)))))))) rfl : Cond.methodLink RX5 79 yX5_isOfKind ∈ lw_g) (lwq_2 (dqc_m (dqc_m (dqc_m (dqc_m (dqc_m (dqc_m (dqc_m (List.mem_of_getElem? (i := 5) rfl)))))))) rfl : Cond.instanceMethod yX5_isOfKind ∈ lw_g) (lw_sel 110 rfl : Cond.selects yX5_isOfKind.cls yX5_isOfKind yX5_isOfKind ∈ lw_g) (lwq_1 (List.mem_of_getElem? (i := 2) rfl) rfl : Cond.initialized yX5_isOfKind.cls ∈ lw_g) (lwq_2 (dqc_m (dqc_m (dqc_m (dqc_m (dqc_m (dqc_m (dqc_m (List.mem_of_getElem? (i := 6) rfl)))))))) rfl : Cond.code yX5_isOfKind cX5_isOfKind 2 (some .boolean) ∈ lw_g), ⟨nmh_5.1, nmh_5.2, pdq_7⟩, ⟨_, _, rfl⟩⟩
theorem bk_X5_wordOf_5 : ck_ fX5 (some .int) cX5_wordOf 5 [.ifCond .ne 10, .iconst (-1), .ireturn] 10 = true := qck_r (nn_ _) (by decide +kernel)
theorem bs_X5_wordOf_5 {P : Zt → Option Zv → Prop} (K : Int → Zl → List Zv → Zt → Prop) : sx_ K P [.ifCond .ne 10, .iconst (-1), .ireturn] 10 = x_ifCond .ne 10 K (x_iconst (-1) (x_ireturn P)) := ((xe_ifCond .ne 10).trans (congrArg (x_ifCond .ne 10 K) ((xe_iconst (-1)).trans (congrArg (x_iconst (-1)) (xe_ireturn)))))
theorem bk_X5_wordOf_10 : ck_ fX5 (some .int) cX5_wordOf 10 [.iconst 0, .istore 2, .iconst 0, .istore 3, .iconst 0, .istore 4] 17 = true := qck_r (nn_ _) (by decide +kernel)
theorem bs_X5_wordOf_10 {P : Zt → Option Zv → Prop} (K : Int → Zl → List Zv → Zt → Prop) : sx_ K P [.iconst 0, .istore 2, .iconst 0, .istore 3, .iconst 0, .istore 4] 17 = x_iconst 0 (x_istore 2 (x_iconst 0 (x_istore 3 (x_iconst 0 (x_istore 4 (K 17)))))) := ((xe_iconst 0).trans (congrArg (x_iconst 0) ((xe_istore 2).trans (congrArg (x_istore 2) ((xe_iconst 0).trans (congrArg (x_iconst 0) ((xe_istore 3).trans (congrArg (x_istore 3) ((xe_iconst 0).trans (congrArg (x_iconst 0) ((xe_istore 4).trans (congrArg (x_istore 4) xe_nil))))))))))))
/-- the values that were told are within their bounds -/
def VB8_ (T : Zt) : Prop := ∀ k : Int, 0 ≤ k → k < 16 → (sa_ 1).getD k.toNat 0 ≤ T 504 0 k ∧ T 504 0 k ≤ (sa_ 2).getD k.toNat 0
def VC8_ (T : Zt) : Prop := VB8_ T ∧ T 504 0 2 ≤ T 504 0 1
abbrev cX5_readRule : ByteArray := prog_7_method_6_code
def yX5_readRule : MethodName := ⟨RX5, "readRule", "(II)Z"⟩
def zX5_readRule : Zm := (RX5, cX5_readRule, 5, (some .boolean), { frames := 3, cells := 0, slots := 0, locals := 68 })
set_option maxRecDepth 100000 in
theorem cl_X5_43 : cv_ RX5 43 yX5_nextToken zX5_nextToken 5 0 := ⟨gi_V (lwq_2 (dqc_m (dqc_m (dqc_m (dqc_m (dqc_m (dqc_m (dqa_m (List.mem_of_getElem? (i := 6) rfl)))))))) rfl : Cond.methodLink RX5 43 yX5_nextToken ∈ lw_g) (lwq_2 (dqc_m (dqc_m (dqc_m (dqc_m (dqc_m (dqc_m (dqa_m (dqa_m (List.mem_of_getElem? (i := 0) rfl))))))))) rfl : Cond.instanceMethod yX5_nextToken ∈ lw_g) (lw_sel 111 rfl : Cond.selects yX5_nextToken.cls yX5_nextToken yX5_nextToken ∈ lw_g) (lwq_1 (List.mem_of_getElem? (i := 2) rfl) rfl : Cond.initialized yX5_nextToken.cls ∈ lw_g) (lwq_2 (dqc_m (dqc_m (dqc_m (dqc_m (dqc_m (dqc_m (dqa_m (dqa_m (List.mem_of_getElem? (i := 1) rfl))))))))) rfl : Cond.code yX5_nextToken cX5_nextToken 2 none ∈ lw_g), ⟨nmh_5.1, nmh_5.2, pdq_1⟩, ⟨_, _, rfl⟩⟩
abbrev cX5_readPoints : ByteArray := prog_7_method_5_code
def yX5_readPoints : MethodName := ⟨RX5, "readPoints", "()Z"⟩
def zX5_readPoints : Zm := (RX5, cX5_readPoints, 1, (some .boolean), { frames := 4, cells := 0, slots := 0, locals := 92 })
set_option maxRecDepth 100000 in
theorem cl_X5_75 : cv_ RX5 75 yX5_readRule zX5_readRule 5 2 := ⟨gi_V (lwq_3 (dqc_m (dqa_m (dqa_m (List.mem_of_getElem? (i := 6) rfl)))) rfl : Cond.methodLink RX5 75 yX5_readRule ∈ lw_g) (lwq_3 (dqc_m (dqa_m (dqa_m (dqa_m (List.mem_of_getElem? (i := 0) rfl))))) rfl : Cond.instanceMethod yX5_readRule ∈ lw_g) (lw_sel 114 rfl : Cond.selects yX5_readRule.cls yX5_readRule yX5_readRule ∈ lw_g) (lwq_1 (List.mem_of_getElem? (i := 2) rfl) rfl : Cond.initialized yX5_readRule.cls ∈ lw_g) (lwq_3 (dqc_m (dqa_m (dqa_m (dqa_m (List.mem_of_getElem? (i := 1) rfl))))) rfl : Cond.code yX5_readRule cX5_readRule 5 (some .boolean) ∈ lw_g), ⟨nmh_5.1, nmh_5.2, pdq_5⟩, ⟨_, _, rfl⟩⟩
abbrev cX5_readSport : ByteArray := prog_7_method_4_code
def yX5_readSport : MethodName := ⟨RX5, "readSport", "()Z"⟩
def zX5_readSport : Zm := (RX5, cX5_readSport, 2, (some .boolean), { frames := 5, cells := 0, slots := 0, locals := 110 })
set_option maxRecDepth 100000 in
theorem cl_X5_55 : cv_ RX5 55 yX5_wordOf zX5_wordOf 5 1 := ⟨gi_V (lwq_2 (dqc_m (dqc_m (dqc_m (dqc_m (dqc_m (dqc_m (dqa_m (dqa_m (dqa_m (List.mem_of_getElem? (i := 7) rfl)))))))))) rfl : Cond.methodLink RX5 55 yX5_wordOf ∈ lw_g) (lwq_2 (dqc_m (dqc_m (dqc_m (dqc_m (dqc_m (dqc_m (dqc_m (List.mem_of_getElem? (i := 1) rfl)))))))) rfl : Cond.instanceMethod yX5_wordOf ∈ lw_g) (lw_sel 118 rfl : Cond.selects yX5_wordOf.cls yX5_wordOf yX5_wordOf ∈ lw_g) (lwq_1 (List.mem_of_getElem? (i := 2) rfl) rfl : Cond.initialized yX5_wordOf.cls ∈ lw_g) (lwq_2 (dqc_m (dqc_m (dqc_m (dqc_m (dqc_m (dqc_m (dqc_m (List.mem_of_getElem? (i := 2) rfl)))))))) rfl : Cond.code yX5_wordOf cX5_wordOf 6 (some .int) ∈ lw_g), ⟨nmh_5.1, nmh_5.2, pdq_38⟩, ⟨_, _, rfl⟩⟩
abbrev cX5_readOrder : ByteArray := prog_7_method_7_code
def yX5_readOrder : MethodName := ⟨RX5, "readOrder", "()Z"⟩
def zX5_readOrder : Zm := (RX5, cX5_readOrder, 4, (some .boolean), { frames := 5, cells := 0, slots := 0, locals := 110 })
abbrev cX5_readStatement : ByteArray := prog_7_method_3_code
def yX5_readStatement : MethodName := ⟨RX5, "readStatement", "()Z"⟩
def zX5_readStatement : Zm := (RX5, cX5_readStatement, 3, (some .boolean), { frames := 6, cells := 0, slots := 0, locals := 133 })
theorem ds_X5_readStatement_44 : decode cX5_readStatement 44 = .ok (.tableswitch 65 0 3 #[32, 40, 48, 53], 32) := by decide +kernel
set_option maxRecDepth 100000 in
theorem cl_X5_63 : cv_ RX5 63 yX5_readSport zX5_readSport 5 0 := ⟨gi_V (lwq_3 (dqc_m (dqa_m (List.mem_of_getElem? (i := 3) rfl))) rfl : Cond.methodLink RX5 63 yX5_readSport ∈ lw_g) (lwq_3 (dqc_m (dqa_m (List.mem_of_getElem? (i := 5) rfl))) rfl : Cond.instanceMethod yX5_readSport ∈ lw_g) (lw_sel 115 rfl : Cond.selects yX5_readSport.cls yX5_readSport yX5_readSport ∈ lw_g) (lwq_1 (List.mem_of_getElem? (i := 2) rfl) rfl : Cond.initialized yX5_readSport.cls ∈ lw_g) (lwq_3 (dqc_m (dqa_m (List.mem_of_getElem? (i := 6) rfl))) rfl : Cond.code yX5_readSport cX5_readSport 2 (some .boolean) ∈ lw_g), ⟨nmh_5.1, nmh_5.2, pdq_18⟩, ⟨_, _, rfl⟩⟩
set_option maxRecDepth 100000 in
theorem cl_X5_66 : cv_ RX5 66 yX5_readPoints zX5_readPoints 5 0 := ⟨gi_V (lwq_3 (dqc_m (dqa_m (dqa_m (List.mem_of_getElem? (i := 0) rfl)))) rfl : Cond.methodLink RX5 66 yX5_readPoints ∈ lw_g) (lwq_3 (dqc_m (dqa_m (dqa_m (List.mem_of_getElem? (i := 2) rfl)))) rfl : Cond.instanceMethod yX5_readPoints ∈ lw_g) (lw_sel 113 rfl : Cond.selects yX5_readPoints.cls yX5_readPoints yX5_readPoints ∈ lw_g) (lwq_1 (List.mem_of_getElem? (i := 2) rfl) rfl : Cond.initialized yX5_readPoints.cls ∈ lw_g) (lwq_3 (dqc_m (dqa_m (dqa_m (List.mem_of_getElem? (i := 3) rfl)))) rfl : Cond.code yX5_readPoints cX5_readPoints 1 (some .boolean) ∈ lw_g), ⟨nmh_5.1, nmh_5.2, pdq_18⟩, ⟨_, _, rfl⟩⟩
set_option maxRecDepth 100000 in
theorem cl_X5_69 : cv_ RX5 69 yX5_readOrder zX5_readOrder 5 0 := ⟨gi_V (lwq_3 (dqc_m (dqa_m (dqa_m (dqa_m (List.mem_of_getElem? (i := 4) rfl))))) rfl : Cond.methodLink RX5 69 yX5_readOrder ∈ lw_g) (lwq_3 (dqc_m (dqa_m (dqa_m (dqa_m (List.mem_of_getElem? (i := 6) rfl))))) rfl : Cond.instanceMethod yX5_readOrder ∈ lw_g) (lw_sel 112 rfl : Cond.selects yX5_readOrder.cls yX5_readOrder yX5_readOrder ∈ lw_g) (lwq_1 (List.mem_of_getElem? (i := 2) rfl) rfl : Cond.initialized yX5_readOrder.cls ∈ lw_g) (lwq_3 (dqc_m (dqa_m (dqa_m (dqa_m (List.mem_of_getElem? (i := 7) rfl))))) rfl : Cond.code yX5_readOrder cX5_readOrder 4 (some .boolean) ∈ lw_g), ⟨nmh_5.1, nmh_5.2, pdq_18⟩, ⟨_, _, rfl⟩⟩
abbrev po_J7_fill_505 (T : Zt) (p : Int) (v : Int) : Zt → Option Zv → Prop := fun T' r => r = none ∧ fr_ [(505, [])] T T' ∧ oi_ T T' p ∧ ∀ j, 0 ≤ j → j < 7 → T' 505 p j = v
set_option maxHeartbeats 4000000 in
theorem ct_J7_fill_505 {T : Zt} {p : Int} {v : Int} (h1 : (-1) ≤ v ∧ v ≤ 6) : Ct_ yJ7_fill_53178 zJ7_fill_53178 T [vR 505 p, vI v] (po_J7_fill_505 T p v) := by
  refine ct_of (by decide) rfl rfl (Nat.le_of_ble_eq_true rfl) (fun hT hav => ?_)
  have hr_v : -2147483648 ≤ v ∧ v ≤ 2147483647 := hav (vI v) (List.mem_cons_of_mem _ List.mem_cons_self)
  have hz : zJ7_fill_53178.2.2.2.1 = some .boolean → ∀ (T' : Zt) (x : Int), po_J7_fill_505 T p v T' (some (vI x)) → 0 ≤ x ∧ x ≤ 1 := fun h => by cases h
  show J_ zJ7_fill_53178 T (po_J7_fill_505 T p v) 0 0 0 [some (vR 505 p), some (vI v), none, none] [] T
  have c_5 : ∀ (nn : Nat) (j : Int) (T1 : Zt), ((7 - j).toNat) ≤ nn → (fr_ [(505, [])] T T1) → (0 ≤ j ∧ j ≤ 7) → (oi_ T T1 p) → (∀ q, 0 ≤ q → q < j → T1 505 p q = v) → J_ zJ7_fill_53178 T (po_J7_fill_505 T p v) 0 0 5 [some (vR 505 p), some (vI v), some (vI j), some (vI 7)] [] T1 := by
    intro nn
    induction nn using Nat.strongRecOn with
    | _ nn ih_5 =>
      intro j T1 hm_5 hf_5 i1 o1 f1
      replace hm_5 := fun (_ : Unit) => hm_5
      refine j_blx (F := fJ7) tb_J7 (nn_ _) bk_J7_fill_53178_5 bs_J7_fill_53178_5 hz (fun K hK => ?_)
      refine And.intro (fun c1 => ?_) (fun c1 => ?_)
      · refine hK 20 _ [] T1 ?_
        refine j_blx (F := fJ7) tb_J7 (nn_ _) bk_J7_fill_53178_20 bs_J7_fill_53178_20 hz (fun K hK => ?_)
        refine (show po_J7_fill_505 T p v T1 (none) from ?_)
        exact ⟨rfl, fr_t (fr_0 _ _) (fr_s hf_5 rfl), o1, fun q a b => f1 q a (by omega)⟩
      · refine iy_i (by omega) (by omega) ?_
        refine x_nm (fun U2 hU2 => ?_)
        have e3 := up_f hU2
        refine rg_i (by omega) ?_
        refine hK 5 [some (vR 505 p), some (vI v), some (vI (j + 1)), some (vI 7)] [] U2 ?_
        refine ih_5 _ ?_ (j + 1) U2 (Nat.le_refl _) ?_ ?_ ?_ ?_
        · have hm_5 := hm_5 (); omega
        · exact fr_u (fr_t (fr_0 _ _) (fr_s hf_5 rfl)) hU2 rfl
        · omega
        · exact oi_u o1 hU2
        · intro q a b
          by_cases z : q = j
          · rw [z]; exact up_f hU2
          · rw [up_g hU2 (fun y => z y.2.2)]; exact f1 q a (by omega)
  refine j_blx (F := fJ7) tb_J7 (nn_ _) bk_J7_fill_53178_0 bs_J7_fill_53178_0 hz (fun K hK => ?_)
  refine hK 5 [some (vR 505 p), some (vI v), some (vI 0), some (vI 7)] [] T ?_
  refine c_5 _ 0 T (Nat.le_refl _) ?_ ?_ ?_ ?_
  · exact fr_0 _ _
  · omega
  · exact oi_r
  · intro q a b; omega
abbrev cX5_read : ByteArray := prog_7_method_2_code
def yX5_read : MethodName := ⟨RX5, "read", "()Z"⟩
def zX5_read : Zm := (RX5, cX5_read, 2, (some .boolean), { frames := 7, cells := 0, slots := 0, locals := 155 })
set_option maxRecDepth 100000 in
theorem cl_X5_49 : cv_ RX5 49 yX5_readStatement zX5_readStatement 5 0 := ⟨gi_V (lwq_2 (dqc_m (dqc_m (dqc_m (dqc_m (dqc_m (dqc_m (dqa_m (dqa_m (dqa_m (List.mem_of_getElem? (i := 2) rfl)))))))))) rfl : Cond.methodLink RX5 49 yX5_readStatement ∈ lw_g) (lwq_2 (dqc_m (dqc_m (dqc_m (dqc_m (dqc_m (dqc_m (dqa_m (dqa_m (dqa_m (List.mem_of_getElem? (i := 4) rfl)))))))))) rfl : Cond.instanceMethod yX5_readStatement ∈ lw_g) (lw_sel 116 rfl : Cond.selects yX5_readStatement.cls yX5_readStatement yX5_readStatement ∈ lw_g) (lwq_1 (List.mem_of_getElem? (i := 2) rfl) rfl : Cond.initialized yX5_readStatement.cls ∈ lw_g) (lwq_2 (dqc_m (dqc_m (dqc_m (dqc_m (dqc_m (dqc_m (dqa_m (dqa_m (dqa_m (List.mem_of_getElem? (i := 5) rfl)))))))))) rfl : Cond.code yX5_readStatement cX5_readStatement 3 (some .boolean) ∈ lw_g), ⟨nmh_5.1, nmh_5.2, pdq_18⟩, ⟨_, _, rfl⟩⟩
set_option maxRecDepth 100000 in
theorem cl_X5_37 : cs_ RX5 37 yJ7_fill_53178 zJ7_fill_53178 2 := ⟨gi_S (lwq_2 (dqc_m (dqc_m (dqc_m (dqc_m (dqc_m (dqc_m (dqa_m (List.mem_of_getElem? (i := 5) rfl)))))))) rfl : Cond.methodLink RX5 37 yJ7_fill_53178 ∈ lw_g) (lwq_2 (dqa_m (dqa_m (dqa_m (List.mem_of_getElem? (i := 2) rfl)))) rfl : Cond.static yJ7_fill_53178 ∈ lw_g) (lwq_1 (List.mem_of_getElem? (i := 7) rfl) rfl : Cond.initialized yJ7_fill_53178.cls ∈ lw_g) (lwq_2 (dqa_m (dqa_m (dqa_m (List.mem_of_getElem? (i := 3) rfl)))) rfl : Cond.code yJ7_fill_53178 cJ7_fill_53178 4 none ∈ lw_g), ⟨by decide, by decide, by decide +kernel⟩⟩
section JQ2
variable {Y Yc : Zm} {T0 T : Zt} {P : Zt → Option Zv → Prop} {bc bs bc' bs' : Nat} {pc : Int} {ls : Zl} {st rest : List Zv}
/-- a clone of an int row of the tables -/
theorem j_clone2 {idx k k0 : Nat} {lo hi lo0 hi0 i i0 n : Int} (hp : 0 ≤ pc) (ha0 : ta_ k0 = some (1, some n, lo0, hi0)) (ha : ta_ k = some (1, some n, lo, hi)) (hlo : lo ≤ lo0 ∧ hi0 ≤ hi) (hn : 0 ≤ n ∧ n ≤ 100000000) (hfr : ¬ al_ T k i) (how : ∀ o, ow_ k = some o → al_ T o i ∨ al_ T (o + 50) i) (hml : Cond.methodLink Y.1 idx ⟨"[I", "clone", "()Ljava/lang/Object;"⟩ ∈ lw_g) (hsm : Cond.sameMethod "[I" "java/lang/Object" "clone" "()Ljava/lang/Object;" ∈ lw_g) (hna : Cond.native ⟨"java/lang/Object", "clone", "()Ljava/lang/Object;"⟩ ∈ lw_g) (hin : Cond.instanceMethod ⟨"java/lang/Object", "clone", "()Ljava/lang/Object;"⟩ ∈ lw_g) (hse : Cond.selects "[I" ⟨"[I", "clone", "()Ljava/lang/Object;"⟩ ⟨"java/lang/Object", "clone", "()Ljava/lang/Object;"⟩ ∈ lw_g) (hf : 1 ≤ Y.2.2.2.2.frames) (hlo2 : 30 ≤ Y.2.2.2.2.locals) (hrest : st.length ≤ 8) (hb : bc' + 1 ≤ bc) (hbs : bs' + n.toNat ≤ bs) (hd : decode Y.2.1 pc.toNat = .ok (.invokevirtual idx, 3)) (kk : J_ Y T0 P bc' bs' (pc + 3) ls (vR k i :: st) (nu_ T k i n (T k0 i0))) : J_ Y T0 P bc bs pc ls (vR k0 i0 :: st) T := by
  intro l p e s m args below meth c D cA ad0 A X ad H locs cells slots lsC hc hs hR hS hB hT hL hl hln
  have hal : al_ T k0 i0 := ok_al (v := none) (by have := ta_ge ha0; omega) (ok_head hL)
  obtain ⟨ids, q0, hq, hids, hP, hD⟩ := rp_at hR hal
  have hw := wd_get (cA := cA) (ad := ad) (T := T) hq
  rw [ce_i ha0 (Or.inr rfl)] at hw
  have sm := en_sum (ad := ad) st
  have w := X.2.2.2.2.2.1
  have hk := ta_ge ha
  have hok : ok_T (nu_ T k i n (T k0 i0)) := ok_nu hT ⟨fun z => (by rw [z, ta_190] at ha; cases ha), fun z => (by rw [z, ta_191] at ha; cases ha)⟩ (by omega) ⟨hn.1, by omega⟩ (fun t m' lo' hi' h => by
    rw [ha] at h; cases h
    exact ⟨by omega, fun x hx => by have := hT.1 _ _ _ _ _ ha0 i0 x hx; omega⟩) (fun j c k' lo' hi' h => by rw [ta_tf ha] at h; simp at h) how
  have he : ∀ q : Nat, ce_ cA (aq_ ad k i q) (nu_ T k i n (T k0 i0)) k i = .inl (cA 0, n.toNat, .inl fun x => Int32.ofInt (T k0 i0 (x : Int))) := fun q => by
    rw [ce_i ha (Or.inr rfl)]
    have e1 : (fun x : Nat => Int32.ofInt (nu_ T k i n (T k0 i0) k i (x : Int))) = fun x : Nat => Int32.ofInt (T k0 i0 (x : Int)) := by
      funext x
      rw [nu_p (by omega)]
    rw [e1]
  refine va_clone (ad := "[I") (ty := .int) X.1 X.2.1 (X.2.2.1.trans hl.1.symm) X.2.2.2.2.2.2.1 (w _ hml) (w _ hsm) (w _ hna) (w _ hin) (w _ hse) X.2.2.2.2.2.2.2.2.1.2.2.1 X.2.2.2.2.2.2.2.1 hP hD hS X.2.2.2.2.2.2.2.2.2.1 q0 0 hw rfl (va_nm_int (X.2.2.2.2.2.2.2.1.2 0 (cA 0, .int) rfl).2) (va_fit (fun _ _ => rfl)) hf (by omega) (by omega) (by show slots + n.toNat ≤ _; omega) hd (fun q H1 _ hP1 hD1 hS1 => ?_)
  have k2 := j_nu (l := l) (e := e) (below := below) (pc' := pc + 3) X kk (cells := cells + 1) (slots := slots + n.toNat) (by omega) (by omega) (by omega) hfr (nu_a hfr) al_nu hok hids (he q) hP1 hD1 hS1 hB hT (ok_tail hL) hl hln
  rw [show (pc + 3).toNat = pc.toNat + 3 by omega] at k2
  exact k2
end JQ2
theorem nu_tc {T U : Zt} {k : Nat} {i n : Int} {f : Int → Int} (h : U = nu_ T k i n f) (j : Int) (hj : 0 ≤ j) : U k i j = f j := by rw [h, nu_p hj]

/-- a competition is new -/
def nc_ (T T' : Zt) : Prop := fr_ [(105, [7, 8, 9, 2, 3, 6, 1]), (504, []), (505, []), (106, [2]), (521, []), (150, []), (100, []), (401, []), (402, []), (403, []), (404, [])] T T' ∧ (T' 106 0 2 = T 106 0 2 + 1 ∧ T 106 0 2 < 4) ∧ (∀ (k : Nat) (i j : Int), k = 100 ∨ k = 150 ∨ k = 401 ∨ k = 403 ∨ k = 404 → i ≠ T 106 0 2 → T' k i j = T k i j) ∧ (∀ j, j ≠ T 106 0 2 → T' 521 0 j = T 521 0 j) ∧ T' 521 0 (T 106 0 2) = 1 ∧ (T' 100 (T 106 0 2) 5 = 0 ∧ T' 100 (T 106 0 2) 6 = 0 ∧ T' 100 (T 106 0 2) 7 = 0 ∧ T' 100 (T 106 0 2) 8 = 0) ∧ (∀ j, 0 ≤ j → j < 16 → (sa_ 1).getD j.toNat 0 ≤ T' 401 (T 106 0 2) j ∧ T' 401 (T 106 0 2) j ≤ (sa_ 2).getD j.toNat 0) ∧ T' 401 (T 106 0 2) 2 ≤ T' 401 (T 106 0 2) 1 ∧ NA_ T'
abbrev cX10_competition : ByteArray := prog_1_method_4_code
def yX10_competition : MethodName := ⟨RX10, "competition", "()I"⟩
def zX10_competition : Zm := (RX10, cX10_competition, 3, (some .int), { frames := 8, cells := 5, slots := 57, locals := 176 })
set_option maxRecDepth 100000 in
theorem cl_X10_80 : cv_ RX10 80 yX5_read zX5_read 5 0 := ⟨gi_V (lwq_2 (dqc_m (dqc_m (dqc_m (dqc_m (dqc_m (dqc_m (List.mem_of_getElem? (i := 7) rfl))))))) rfl : Cond.methodLink RX10 80 yX5_read ∈ lw_g) (lwq_2 (dqc_m (dqc_m (dqc_m (dqc_m (dqc_m (dqc_m (dqa_m (List.mem_of_getElem? (i := 0) rfl)))))))) rfl : Cond.instanceMethod yX5_read ∈ lw_g) (lwq_2 (dqc_m (dqc_m (dqc_m (dqc_m (dqc_m (dqc_m (dqa_m (List.mem_of_getElem? (i := 1) rfl)))))))) rfl : Cond.selects yX5_read.cls yX5_read yX5_read ∈ lw_g) (lwq_1 (List.mem_of_getElem? (i := 2) rfl) rfl : Cond.initialized yX5_read.cls ∈ lw_g) (lwq_2 (dqc_m (dqc_m (dqc_m (dqc_m (dqc_m (dqc_m (dqa_m (List.mem_of_getElem? (i := 2) rfl)))))))) rfl : Cond.code yX5_read cX5_read 2 (some .boolean) ∈ lw_g), ⟨nmh_5.1, nmh_5.2, pdq_18⟩, ⟨_, _, rfl⟩⟩
set_option maxRecDepth 100000 in
theorem ci_X10_104 : ci_ RX10 104 yX0_init zX0_init 3 := ⟨gi_c (lwq_3 (dqc_m (dqc_m (dqa_m (List.mem_of_getElem? (i := 4) rfl)))) rfl : Cond.code yX0_init cX0_init 4 none ∈ lw_g), (lwq_1 (dqa_m (List.mem_of_getElem? (i := 7) rfl)) rfl : Cond.initialized yX0_init.cls ∈ lw_g), (lwq_3 (dqc_m (dqc_m (dqa_m (List.mem_of_getElem? (i := 2) rfl)))) rfl : Cond.methodLink RX10 104 yX0_init ∈ lw_g), (lwq_3 (dqc_m (dqc_m (dqa_m (List.mem_of_getElem? (i := 3) rfl)))) rfl : Cond.instanceMethod yX0_init ∈ lw_g), rfl, rfl, ⟨by decide, by decide, by decide +kernel⟩⟩
abbrev po_X10_competition (T : Zt) : Zt → Option Zv → Prop := fun T' r => ∃ x : Int, r = some (vI x) ∧ (fr_ [(105, [7, 8, 9, 2, 3, 6, 1]), (504, []), (505, [])] T T' ∨ nc_ T T')
abbrev po_X10_enter_k (T : Zt) (c b : Int) : Zt → Option Zv → Prop := fun T' r => ∃ x : Int, r = some (vI x) ∧ fr_ [(404, []), (403, []), (100, [5])] T T' ∧ (KE_ T' ∧ ∀ d z, 0 ≤ T 404 d z → 0 ≤ T' 404 d z)
abbrev po_X10_walkOver_k (T : Zt) (m d : Int) : Zt → Option Zv → Prop := fun T' r => ∃ x : Int, r = some (vI x) ∧ fr_ [(102, [6])] T T' ∧ (∀ i, T' 102 i 6 = T 102 i 6 ∨ T' 102 i 6 ≠ -1)
/-- what holds of the house between the calls; N: how many there were -/
def IC_ (N : Int) (T : Zt) : Prop := (KA_ T ∧ KM_ T ∧ KC_ T ∧ KR_ T ∧ KS_ T ∧ KO_ T ∧ KE_ T ∧ KB_ T ∧ KP_ T ∧ KW_ T) ∧ DD_ T ∧ NA_ T ∧ LP_ N T ∧ (T 109 0 15 ≠ 0 → T 190 (T 109 0 15 - 1) (-2) = 4096 ∧ 1 ≤ T 109 0 15) ∧ 0 ≤ T 191 0 0 ∧ T 191 0 0 ≤ 1 + 600 * N
abbrev wt8_ (ws : List (Nat × List Int)) : Prop := ((∀ j, fw_ ws 521 j = false) ∧ (∀ j, fw_ ws 523 j = false) ∧ (∀ j, fw_ ws 401 j = false) ∧ (∀ j, fw_ ws 403 j = false) ∧ (∀ j, fw_ ws 404 j = false)) ∧ (fw_ ws 106 2 = false ∧ fw_ ws 106 4 = false) ∧ (fw_ ws 102 0 = false ∧ fw_ ws 102 1 = false ∧ fw_ ws 102 3 = false ∧ fw_ ws 102 4 = false) ∧ fw_ ws 100 5 = false ∧ fw_ ws 100 6 = false ∧ fw_ ws 100 7 = false ∧ fw_ ws 100 8 = false
theorem ic_t {ws : List (Nat × List Int)} {T T' : Zt} (h : KA_ T ∧ KM_ T ∧ KC_ T ∧ KR_ T ∧ KS_ T ∧ KO_ T ∧ KE_ T ∧ KB_ T ∧ KP_ T ∧ KW_ T) (f : fr_ ws T T') (w : wt8_ ws) : KA_ T' ∧ KM_ T' ∧ KC_ T' ∧ KR_ T' ∧ KS_ T' ∧ KO_ T' ∧ KE_ T' ∧ KB_ T' ∧ KP_ T' ∧ KW_ T' := by
  obtain ⟨k1, k2, k3, k4, k5, k6, k7, k8, k9, k10⟩ := h
  obtain ⟨⟨a1, a2, a3, a4, a5⟩, ⟨b1, b2⟩, ⟨c0, c1, c3, c4⟩, d5, d6, d7, d8⟩ := w
  exact ⟨KA__f k1 f ⟨a1, a2, b1, b2, trivial⟩, KM__f k2 f ⟨c1, c0, b2, b1, trivial⟩, KC__f k3 f ⟨d7, d8, b2, b1, trivial⟩, KR__f k4 f ⟨a3, b1, trivial⟩, KS__f k5 f ⟨a5, d7, d8, c0, c3, c4, b1, trivial⟩, KO__f k6 f ⟨a3, b1, trivial⟩, KE__f k7 f ⟨a4, a5, d5, b1, trivial⟩, KB__f k8 f ⟨a3, b1, trivial⟩, KP__f k9 f ⟨c0, d6, b2, trivial⟩, KW__f k10 f ⟨a3, b1, trivial⟩⟩
abbrev wn_ (ws : List (Nat × List Int)) : Prop := fw_ ws 150 (-1) = false ∧ fw_ ws 152 (-1) = false ∧ fw_ ws 153 (-1) = false ∧ fw_ ws 100 (-1) = false ∧ fw_ ws 102 (-1) = false ∧ fw_ ws 103 (-1) = false ∧ fw_ ws 102 10 = false ∧ fw_ ws 106 4 = false ∧ fw_ ws 106 2 = false
abbrev wl_ (ws : List (Nat × List Int)) : Prop := fw_ ws 106 4 = false ∧ fw_ ws 106 2 = false ∧ fw_ ws 102 10 = false ∧ fw_ ws 103 0 = false ∧ fw_ ws 103 3 = false ∧ fw_ ws 103 14 = false ∧ fw_ ws 103 15 = false ∧ fw_ ws 103 16 = false ∧ fw_ ws 103 17 = false ∧ fw_ ws 470 0 = false ∧ fw_ ws 470 1 = false
/-- a slack row that is there was counted -/
theorem sx_9 {T : Zt} (hT : ok_T T) (ha : al_ T 109 0) (h : T 109 0 15 ≠ 0) : T 109 0 15 - 1 < T 191 0 0 := by
  have h1 := hT.2.2.2.1 109 0 ha 15 5 190 (-2147483648) 2147483647 (by decide +kernel)
  have e : fv_ 5 190 (T 109 0 ((15 : Nat) : Int)) 0 = vR 190 (T 109 0 15 - 1) := by
    show (if T 109 0 15 = 0 then vN else vR 190 (T 109 0 15 - 1)) = _
    rw [if_neg h]
  rw [e] at h1
  have h2 : al_ T 190 (T 109 0 15 - 1) := ok_al (v := none) (by decide) h1
  by_cases z : T 191 0 0 ≤ T 109 0 15 - 1
  · exact absurd h2 (hT.2.2.2.2.2.2.2.2 _ z)
  · omega
theorem sk_l {T T' : Zt} (hT : ok_T T) (ha : al_ T 109 0) (h : T 109 0 15 ≠ 0 → T 190 (T 109 0 15 - 1) (-2) = 4096 ∧ 1 ≤ T 109 0 15) (l : lh_ T T') (e : T' 109 0 15 = T 109 0 15) : T' 109 0 15 ≠ 0 → T' 190 (T' 109 0 15 - 1) (-2) = 4096 ∧ 1 ≤ T' 109 0 15 := by
  rw [e]
  intro z
  rw [l.1 _ (sx_9 hT ha z)]
  exact h z
/-- a call that keeps away from all of it -/
theorem ic_f {N : Int} {ws : List (Nat × List Int)} {T T' : Zt} (h : IC_ N T) (f : fr_ ws T T') (w : wt8_ ws) (w2 : fw_ ws 102 5 = false ∧ fw_ ws 102 6 = false) (wn : wn_ ws) (wl : wl_ ws) (w9 : fw_ ws 109 15 = false ∧ fw_ ws 190 (-2) = false ∧ fw_ ws 191 0 = false) : IC_ (N + 1) T' := by
  obtain ⟨k, d, n, l, s, b1, b2⟩ := h
  have e9 := f 191 0 0 w9.2.2
  refine ⟨ic_t k f w, DD__f d f ⟨w.2.2.1.1, w.2.2.1.2.2.1, w2.1, w2.2, w.2.1.2, trivial⟩, NA_f n f wn, LP_f l (by omega) (lh_f lh_r f w9.2.1 w9.2.2) f wl, ?_, by omega, by omega⟩
  rw [f 109 0 15 w9.1, f 190 _ _ w9.2.1]
  exact s
theorem ic_e {N : Int} {T : Zt} (h : IC_ N T) : IC_ (N + 1) T := ic_f (ws := []) h (fr_0 _ _) ⟨⟨fun _ => rfl, fun _ => rfl, fun _ => rfl, fun _ => rfl, fun _ => rfl⟩, ⟨rfl, rfl⟩, ⟨rfl, rfl, rfl, rfl⟩, rfl, rfl, rfl, rfl⟩ ⟨rfl, rfl⟩ ⟨rfl, rfl, rfl, rfl, rfl, rfl, rfl, rfl, rfl⟩ ⟨rfl, rfl, rfl, rfl, rfl, rfl, rfl, rfl, rfl, rfl, rfl⟩ ⟨rfl, rfl, rfl⟩
theorem ic_person {N : Int} {T T' : Zt} {r : Option Zv} (h : IC_ N T) (q : po_X10_person T T' r) : IC_ (N + 1) T' := by
  obtain ⟨_, -, f, -⟩ := q
  exact ic_f h f ⟨⟨fun _ => rfl, fun _ => rfl, fun _ => rfl, fun _ => rfl, fun _ => rfl⟩, ⟨rfl, rfl⟩, ⟨rfl, rfl, rfl, rfl⟩, rfl, rfl, rfl, rfl⟩ ⟨rfl, rfl⟩ ⟨rfl, rfl, rfl, rfl, rfl, rfl, rfl, rfl, rfl⟩ ⟨rfl, rfl, rfl, rfl, rfl, rfl, rfl, rfl, rfl, rfl, rfl⟩ ⟨rfl, rfl, rfl⟩
theorem ic_club {N : Int} {T T' : Zt} {r : Option Zv} {s c : Int} (h : IC_ N T) (q : po_X10_club T s c T' r) : IC_ (N + 1) T' := by
  obtain ⟨_, -, f, -⟩ := q
  exact ic_f h f ⟨⟨fun _ => rfl, fun _ => rfl, fun _ => rfl, fun _ => rfl, fun _ => rfl⟩, ⟨rfl, rfl⟩, ⟨rfl, rfl, rfl, rfl⟩, rfl, rfl, rfl, rfl⟩ ⟨rfl, rfl⟩ ⟨rfl, rfl, rfl, rfl, rfl, rfl, rfl, rfl, rfl⟩ ⟨rfl, rfl, rfl, rfl, rfl, rfl, rfl, rfl, rfl, rfl, rfl⟩ ⟨rfl, rfl, rfl⟩
theorem ic_official {N : Int} {T T' : Zt} {r : Option Zv} {s c : Int} (h : IC_ N T) (q : po_X10_official T s c T' r) : IC_ (N + 1) T' := by
  obtain ⟨_, -, f, -⟩ := q
  exact ic_f h f ⟨⟨fun _ => rfl, fun _ => rfl, fun _ => rfl, fun _ => rfl, fun _ => rfl⟩, ⟨rfl, rfl⟩, ⟨rfl, rfl, rfl, rfl⟩, rfl, rfl, rfl, rfl⟩ ⟨rfl, rfl⟩ ⟨rfl, rfl, rfl, rfl, rfl, rfl, rfl, rfl, rfl⟩ ⟨rfl, rfl, rfl, rfl, rfl, rfl, rfl, rfl, rfl, rfl, rfl⟩ ⟨rfl, rfl, rfl⟩
theorem ic_day {N : Int} {T T' : Zt} {r : Option Zv} {d : Int} (h : IC_ N T) (q : po_X10_day T d T' r) : IC_ (N + 1) T' := by
  obtain ⟨_, -, f, -⟩ := q
  exact ic_f h f ⟨⟨fun _ => rfl, fun _ => rfl, fun _ => rfl, fun _ => rfl, fun _ => rfl⟩, ⟨rfl, rfl⟩, ⟨rfl, rfl, rfl, rfl⟩, rfl, rfl, rfl, rfl⟩ ⟨rfl, rfl⟩ ⟨rfl, rfl, rfl, rfl, rfl, rfl, rfl, rfl, rfl⟩ ⟨rfl, rfl, rfl, rfl, rfl, rfl, rfl, rfl, rfl, rfl, rfl⟩ ⟨rfl, rfl, rfl⟩
theorem ic_sign {N : Int} {T T' : Zt} {r : Option Zv} {c : Int} (h : IC_ N T) (q : po_X10_sign T c T' r) : IC_ (N + 1) T' := by
  obtain ⟨_, -, f, -⟩ := q
  exact ic_f h f ⟨⟨fun _ => rfl, fun _ => rfl, fun _ => rfl, fun _ => rfl, fun _ => rfl⟩, ⟨rfl, rfl⟩, ⟨rfl, rfl, rfl, rfl⟩, rfl, rfl, rfl, rfl⟩ ⟨rfl, rfl⟩ ⟨rfl, rfl, rfl, rfl, rfl, rfl, rfl, rfl, rfl⟩ ⟨rfl, rfl, rfl, rfl, rfl, rfl, rfl, rfl, rfl, rfl, rfl⟩ ⟨rfl, rfl, rfl⟩
theorem ic_wipe {N : Int} {T T' : Zt} {r : Option Zv} (h : IC_ N T) (q : po_X10_wipe T T' r) : IC_ (N + 1) T' := by
  obtain ⟨_, -, f, -⟩ := q
  exact ic_f h f ⟨⟨fun _ => rfl, fun _ => rfl, fun _ => rfl, fun _ => rfl, fun _ => rfl⟩, ⟨rfl, rfl⟩, ⟨rfl, rfl, rfl, rfl⟩, rfl, rfl, rfl, rfl⟩ ⟨rfl, rfl⟩ ⟨rfl, rfl, rfl, rfl, rfl, rfl, rfl, rfl, rfl⟩ ⟨rfl, rfl, rfl, rfl, rfl, rfl, rfl, rfl, rfl, rfl, rfl⟩ ⟨rfl, rfl, rfl⟩
theorem ic_register {N : Int} {T T' : Zt} {r : Option Zv} {p cl a b : Int} (h : IC_ N T) (q : po_X10_register T p cl a b T' r) : IC_ (N + 1) T' := by
  obtain ⟨_, -, f, -⟩ := q
  exact ic_f h f ⟨⟨fun _ => rfl, fun _ => rfl, fun _ => rfl, fun _ => rfl, fun _ => rfl⟩, ⟨rfl, rfl⟩, ⟨rfl, rfl, rfl, rfl⟩, rfl, rfl, rfl, rfl⟩ ⟨rfl, rfl⟩ ⟨rfl, rfl, rfl, rfl, rfl, rfl, rfl, rfl, rfl⟩ ⟨rfl, rfl, rfl, rfl, rfl, rfl, rfl, rfl, rfl, rfl, rfl⟩ ⟨rfl, rfl, rfl⟩
theorem ic_deduct {N : Int} {T T' : Zt} {r : Option Zv} {c cl p : Int} (h : IC_ N T) (q : po_X10_deduct T c cl p T' r) : IC_ (N + 1) T' := by
  obtain ⟨_, -, f, -⟩ := q
  exact ic_f h f ⟨⟨fun _ => rfl, fun _ => rfl, fun _ => rfl, fun _ => rfl, fun _ => rfl⟩, ⟨rfl, rfl⟩, ⟨rfl, rfl, rfl, rfl⟩, rfl, rfl, rfl, rfl⟩ ⟨rfl, rfl⟩ ⟨rfl, rfl, rfl, rfl, rfl, rfl, rfl, rfl, rfl⟩ ⟨rfl, rfl, rfl, rfl, rfl, rfl, rfl, rfl, rfl, rfl, rfl⟩ ⟨rfl, rfl, rfl⟩
theorem ic_eligible {N : Int} {T T' : Zt} {r : Option Zv} {q m d : Int} (h : IC_ N T) (q : po_X10_eligible T q m d T' r) : IC_ (N + 1) T' := by
  obtain ⟨_, -, f, -⟩ := q
  exact ic_f h f ⟨⟨fun _ => rfl, fun _ => rfl, fun _ => rfl, fun _ => rfl, fun _ => rfl⟩, ⟨rfl, rfl⟩, ⟨rfl, rfl, rfl, rfl⟩, rfl, rfl, rfl, rfl⟩ ⟨rfl, rfl⟩ ⟨rfl, rfl, rfl, rfl, rfl, rfl, rfl, rfl, rfl⟩ ⟨rfl, rfl, rfl, rfl, rfl, rfl, rfl, rfl, rfl, rfl, rfl⟩ ⟨rfl, rfl, rfl⟩
theorem ic_drawing {N : Int} {T T' : Zt} {r : Option Zv} {g l : Int} (h : IC_ N T) (q : po_X10_drawing T g l T' r) : IC_ (N + 1) T' := by
  obtain ⟨_, -, f, -⟩ := q
  exact ic_f h f ⟨⟨fun _ => rfl, fun _ => rfl, fun _ => rfl, fun _ => rfl, fun _ => rfl⟩, ⟨rfl, rfl⟩, ⟨rfl, rfl, rfl, rfl⟩, rfl, rfl, rfl, rfl⟩ ⟨rfl, rfl⟩ ⟨rfl, rfl, rfl, rfl, rfl, rfl, rfl, rfl, rfl⟩ ⟨rfl, rfl, rfl, rfl, rfl, rfl, rfl, rfl, rfl, rfl, rfl⟩ ⟨rfl, rfl, rfl⟩
theorem ic_pot {N : Int} {T T' : Zt} {r : Option Zv} {c k : Int} (h : IC_ N T) (q : po_X10_pot T c k T' r) : IC_ (N + 1) T' := by
  obtain ⟨_, -, f, -⟩ := q
  exact ic_f h f ⟨⟨fun _ => rfl, fun _ => rfl, fun _ => rfl, fun _ => rfl, fun _ => rfl⟩, ⟨rfl, rfl⟩, ⟨rfl, rfl, rfl, rfl⟩, rfl, rfl, rfl, rfl⟩ ⟨rfl, rfl⟩ ⟨rfl, rfl, rfl, rfl, rfl, rfl, rfl, rfl, rfl⟩ ⟨rfl, rfl, rfl, rfl, rfl, rfl, rfl, rfl, rfl, rfl, rfl⟩ ⟨rfl, rfl, rfl⟩
theorem ic_firsts {N : Int} {T T' : Zt} {r : Option Zv} {c b : Int} (h : IC_ N T) (q : po_X10_firsts T c b T' r) : IC_ (N + 1) T' := by
  obtain ⟨_, -, f, -⟩ := q
  exact ic_f h f ⟨⟨fun _ => rfl, fun _ => rfl, fun _ => rfl, fun _ => rfl, fun _ => rfl⟩, ⟨rfl, rfl⟩, ⟨rfl, rfl, rfl, rfl⟩, rfl, rfl, rfl, rfl⟩ ⟨rfl, rfl⟩ ⟨rfl, rfl, rfl, rfl, rfl, rfl, rfl, rfl, rfl⟩ ⟨rfl, rfl, rfl, rfl, rfl, rfl, rfl, rfl, rfl, rfl, rfl⟩ ⟨rfl, rfl, rfl⟩
theorem ic_table {N : Int} {T T' : Zt} {r : Option Zv} {c d b w : Int} (h : IC_ N T) (q : po_X10_table T c d b w T' r) : IC_ (N + 1) T' := by
  obtain ⟨_, -, f, -⟩ := q
  exact ic_f h f ⟨⟨fun _ => rfl, fun _ => rfl, fun _ => rfl, fun _ => rfl, fun _ => rfl⟩, ⟨rfl, rfl⟩, ⟨rfl, rfl, rfl, rfl⟩, rfl, rfl, rfl, rfl⟩ ⟨rfl, rfl⟩ ⟨rfl, rfl, rfl, rfl, rfl, rfl, rfl, rfl, rfl⟩ ⟨rfl, rfl, rfl, rfl, rfl, rfl, rfl, rfl, rfl, rfl, rfl⟩ ⟨rfl, rfl, rfl⟩
theorem ic_parted {N : Int} {T T' : Zt} {r : Option Zv} {c d k : Int} (h : IC_ N T) (q : po_X10_parted T c d k T' r) : IC_ (N + 1) T' := by
  obtain ⟨_, -, f, -⟩ := q
  exact ic_f h f ⟨⟨fun _ => rfl, fun _ => rfl, fun _ => rfl, fun _ => rfl, fun _ => rfl⟩, ⟨rfl, rfl⟩, ⟨rfl, rfl, rfl, rfl⟩, rfl, rfl, rfl, rfl⟩ ⟨rfl, rfl⟩ ⟨rfl, rfl, rfl, rfl, rfl, rfl, rfl, rfl, rfl⟩ ⟨rfl, rfl, rfl, rfl, rfl, rfl, rfl, rfl, rfl, rfl, rfl⟩ ⟨rfl, rfl, rfl⟩
theorem ic_standing {N : Int} {T T' : Zt} {r : Option Zv} {c d k : Int} (h : IC_ N T) (q : po_X10_standing T c d k T' r) : IC_ (N + 1) T' := by
  obtain ⟨_, -, f, -⟩ := q
  exact ic_f h f ⟨⟨fun _ => rfl, fun _ => rfl, fun _ => rfl, fun _ => rfl, fun _ => rfl⟩, ⟨rfl, rfl⟩, ⟨rfl, rfl, rfl, rfl⟩, rfl, rfl, rfl, rfl⟩ ⟨rfl, rfl⟩ ⟨rfl, rfl, rfl, rfl, rfl, rfl, rfl, rfl, rfl⟩ ⟨rfl, rfl, rfl, rfl, rfl, rfl, rfl, rfl, rfl, rfl, rfl⟩ ⟨rfl, rfl, rfl⟩
theorem ic_lineUp {N : Int} {T T' : Zt} {r : Option Zv} {q b s : Int} (h : IC_ N T) (q : po_X10_lineUp T q b s T' r) : IC_ (N + 1) T' := by
  obtain ⟨_, -, f, -⟩ := q
  exact ic_f h f ⟨⟨fun _ => rfl, fun _ => rfl, fun _ => rfl, fun _ => rfl, fun _ => rfl⟩, ⟨rfl, rfl⟩, ⟨rfl, rfl, rfl, rfl⟩, rfl, rfl, rfl, rfl⟩ ⟨rfl, rfl⟩ ⟨rfl, rfl, rfl, rfl, rfl, rfl, rfl, rfl, rfl⟩ ⟨rfl, rfl, rfl, rfl, rfl, rfl, rfl, rfl, rfl, rfl, rfl⟩ ⟨rfl, rfl, rfl⟩
theorem ic_ways {N : Int} {T T' : Zt} {r : Option Zv} (h : IC_ N T) (q : po_X10_ways T T' r) : IC_ (N + 1) T' := by
  obtain ⟨_, -, f, -⟩ := q
  exact ic_f h f ⟨⟨fun _ => rfl, fun _ => rfl, fun _ => rfl, fun _ => rfl, fun _ => rfl⟩, ⟨rfl, rfl⟩, ⟨rfl, rfl, rfl, rfl⟩, rfl, rfl, rfl, rfl⟩ ⟨rfl, rfl⟩ ⟨rfl, rfl, rfl, rfl, rfl, rfl, rfl, rfl, rfl⟩ ⟨rfl, rfl, rfl, rfl, rfl, rfl, rfl, rfl, rfl, rfl, rfl⟩ ⟨rfl, rfl, rfl⟩
theorem ic_chance {N : Int} {T T' : Zt} {r : Option Zv} {c g : Int} (h : IC_ N T) (q : po_X10_chance T c g T' r) : IC_ (N + 1) T' := by
  obtain ⟨_, -, f, -⟩ := q
  exact ic_f h f ⟨⟨fun _ => rfl, fun _ => rfl, fun _ => rfl, fun _ => rfl, fun _ => rfl⟩, ⟨rfl, rfl⟩, ⟨rfl, rfl, rfl, rfl⟩, rfl, rfl, rfl, rfl⟩ ⟨rfl, rfl⟩ ⟨rfl, rfl, rfl, rfl, rfl, rfl, rfl, rfl, rfl⟩ ⟨rfl, rfl, rfl, rfl, rfl, rfl, rfl, rfl, rfl, rfl, rfl⟩ ⟨rfl, rfl, rfl⟩
theorem ic_ball {N : Int} {T T' : Zt} {r : Option Zv} {s b : Int} (h : IC_ N T) (q : po_X10_ball T s b T' r) : IC_ (N + 1) T' := by
  obtain ⟨_, -, f, -⟩ := q
  exact ic_f h f ⟨⟨fun _ => rfl, fun _ => rfl, fun _ => rfl, fun _ => rfl, fun _ => rfl⟩, ⟨rfl, rfl⟩, ⟨rfl, rfl, rfl, rfl⟩, rfl, rfl, rfl, rfl⟩ ⟨rfl, rfl⟩ ⟨rfl, rfl, rfl, rfl, rfl, rfl, rfl, rfl, rfl⟩ ⟨rfl, rfl, rfl, rfl, rfl, rfl, rfl, rfl, rfl, rfl, rfl⟩ ⟨rfl, rfl, rfl⟩
theorem ic_event {N : Int} {T T' : Zt} {r : Option Zv} {m k s a b : Int} (hT : ok_T T) (ha : al_ T 109 0) (h : IC_ N T) (q : po_X10_event T N m k s a b T' r) : IC_ (N + 1) T' := by
  obtain ⟨k, d, n, l, s, b1, b2⟩ := h
  obtain ⟨_, -, f, q1, q2, q3⟩ := q
  have q4 := q2.2
  exact ⟨ic_t k f ⟨⟨fun _ => rfl, fun _ => rfl, fun _ => rfl, fun _ => rfl, fun _ => rfl⟩, ⟨rfl, rfl⟩, ⟨rfl, rfl, rfl, rfl⟩, rfl, rfl, rfl, rfl⟩, DD__f d f ⟨rfl, rfl, rfl, rfl, rfl, trivial⟩, NA_f n f ⟨rfl, rfl, rfl, rfl, rfl, rfl, rfl, rfl, rfl⟩, q1, sk_l hT ha s q2 (f 109 0 15 rfl), by omega, by omega⟩
theorem ic_review {N : Int} {T T' : Zt} {r : Option Zv} {m i k s a b : Int} (hT : ok_T T) (ha : al_ T 109 0) (h : IC_ N T) (q : po_X10_review T N m i k s a b T' r) : IC_ (N + 1) T' := by
  obtain ⟨k, d, n, l, s, b1, b2⟩ := h
  obtain ⟨_, -, f, q1, q2, q3⟩ := q
  have q4 := q2.2
  exact ⟨ic_t k f ⟨⟨fun _ => rfl, fun _ => rfl, fun _ => rfl, fun _ => rfl, fun _ => rfl⟩, ⟨rfl, rfl⟩, ⟨rfl, rfl, rfl, rfl⟩, rfl, rfl, rfl, rfl⟩, DD__f d f ⟨rfl, rfl, rfl, rfl, rfl, trivial⟩, NA_f n f ⟨rfl, rfl, rfl, rfl, rfl, rfl, rfl, rfl, rfl⟩, q1, sk_l hT ha s q2 (f 109 0 15 rfl), by omega, by omega⟩
theorem LP_m {N N2 : Int} {T : Zt} (h : LP_ N T) (g : N ≤ N2) : LP_ N2 T := LP_f (ws := []) h g lh_r (fr_0 _ _) ⟨rfl, rfl, rfl, rfl, rfl, rfl, rfl, rfl, rfl, rfl, rfl⟩
theorem ic_start {N : Int} {T T' : Zt} {r : Option Zv} {m : Int} (hT : ok_T T) (ha : al_ T 109 0) (h : IC_ N T) (q : po_X10_start T N m T' r) : IC_ (N + 1) T' := by
  obtain ⟨k, d, n, l, s, b1, b2⟩ := h
  obtain ⟨_, -, f, q1, q2, q3, q5, -⟩ := q
  have q4 := q2.2
  exact ⟨ic_t k f ⟨⟨fun _ => rfl, fun _ => rfl, fun _ => rfl, fun _ => rfl, fun _ => rfl⟩, ⟨rfl, rfl⟩, ⟨rfl, rfl, rfl, rfl⟩, rfl, rfl, rfl, rfl⟩, DD__f d f ⟨rfl, rfl, rfl, rfl, rfl, trivial⟩, q5, LP_m q1 (by omega), sk_l hT ha s q2 (f 109 0 15 rfl), by omega, by omega⟩
theorem ic_assign {N : Int} {T T' : Zt} {r : Option Zv} {d9 : Int} (hT : ok_T T) (ha : al_ T 109 0) (h : IC_ N T) (q : po_X10_assign T d9 T' r) : IC_ (N + 1) T' := by
  obtain ⟨k, d, n, l, s, b1, b2⟩ := h
  obtain ⟨_, -, f, q2, q3⟩ := q
  have q4 := q2.2
  exact ⟨ic_t k f ⟨⟨fun _ => rfl, fun _ => rfl, fun _ => rfl, fun _ => rfl, fun _ => rfl⟩, ⟨rfl, rfl⟩, ⟨rfl, rfl, rfl, rfl⟩, rfl, rfl, rfl, rfl⟩, DD__f d f ⟨rfl, rfl, rfl, rfl, rfl, trivial⟩, NA_f n f ⟨rfl, rfl, rfl, rfl, rfl, rfl, rfl, rfl, rfl⟩, LP_f l (by omega) q2 f ⟨rfl, rfl, rfl, rfl, rfl, rfl, rfl, rfl, rfl, rfl, rfl⟩, sk_l hT ha s q2 (f 109 0 15 rfl), by omega, by omega⟩
theorem ic_can {N : Int} {T T' : Zt} {r : Option Zv} {c b : Int} (hT : ok_T T) (ha : al_ T 109 0) (h : IC_ N T) (q : po_X10_can T c b T' r) : IC_ (N + 1) T' := by
  obtain ⟨k, d, n, l, s, b1, b2⟩ := h
  obtain ⟨_, -, f, q1, q2, q3⟩ := q
  have q4 := q2.2
  exact ⟨ic_t k f ⟨⟨fun _ => rfl, fun _ => rfl, fun _ => rfl, fun _ => rfl, fun _ => rfl⟩, ⟨rfl, rfl⟩, ⟨rfl, rfl, rfl, rfl⟩, rfl, rfl, rfl, rfl⟩, DD__f d f ⟨rfl, rfl, rfl, rfl, rfl, trivial⟩, NA_f n f ⟨rfl, rfl, rfl, rfl, rfl, rfl, rfl, rfl, rfl⟩, LP_f l (by omega) q2 f ⟨rfl, rfl, rfl, rfl, rfl, rfl, rfl, rfl, rfl, rfl, rfl⟩, q1, by omega, by omega⟩
theorem ic_postpone {N : Int} {T T' : Zt} {r : Option Zv} {m d9 : Int} (h : IC_ N T) (q : po_X10_postpone_k T m d9 T' r) : IC_ (N + 1) T' := by
  obtain ⟨k, d, n, l, s, b1, b2⟩ := h
  obtain ⟨_, -, f, q1⟩ := q
  have e9 := f 191 0 0 rfl
  refine ⟨ic_t k f ⟨⟨fun _ => rfl, fun _ => rfl, fun _ => rfl, fun _ => rfl, fun _ => rfl⟩, ⟨rfl, rfl⟩, ⟨rfl, rfl, rfl, rfl⟩, rfl, rfl, rfl, rfl⟩, q1, NA_f n f ⟨rfl, rfl, rfl, rfl, rfl, rfl, rfl, rfl, rfl⟩, LP_f l (by omega) (lh_f lh_r f rfl rfl) f ⟨rfl, rfl, rfl, rfl, rfl, rfl, rfl, rfl, rfl, rfl, rfl⟩, ?_, by omega, by omega⟩
  rw [f 109 0 15 rfl, f 190 _ _ rfl]
  exact s
theorem ic_walkOver {N : Int} {T T' : Zt} {r : Option Zv} {m d9 : Int} (h : IC_ N T) (q : po_X10_walkOver_k T m d9 T' r) : IC_ (N + 1) T' := by
  obtain ⟨k, d, n, l, s, b1, b2⟩ := h
  obtain ⟨_, -, f, q1⟩ := q
  have e9 := f 191 0 0 rfl
  refine ⟨ic_t k f ⟨⟨fun _ => rfl, fun _ => rfl, fun _ => rfl, fun _ => rfl, fun _ => rfl⟩, ⟨rfl, rfl⟩, ⟨rfl, rfl, rfl, rfl⟩, rfl, rfl, rfl, rfl⟩, fun i j a b c e1 e2 => ?_, NA_f n f ⟨rfl, rfl, rfl, rfl, rfl, rfl, rfl, rfl, rfl⟩, LP_f l (by omega) (lh_f lh_r f rfl rfl) f ⟨rfl, rfl, rfl, rfl, rfl, rfl, rfl, rfl, rfl, rfl, rfl⟩, ?_, by omega, by omega⟩
  · rw [f 106 0 4 rfl] at c
    rw [f 102 i 0 rfl, f 102 j 0 rfl, f 102 i 3 rfl, f 102 j 3 rfl, f 102 i 5 rfl, f 102 j 5 rfl]
    exact d i j a b c (by rcases q1 i with z | z <;> omega) (by rcases q1 j with z | z <;> omega)
  · rw [f 109 0 15 rfl, f 190 _ _ rfl]
    exact s
theorem ic_enter {N : Int} {T T' : Zt} {r : Option Zv} {c9 b9 : Int} (h : IC_ N T) (q : po_X10_enter_k T c9 b9 T' r) : IC_ (N + 1) T' := by
  obtain ⟨⟨k1, k2, k3, k4, k5, k6, k7, k8, k9, k10⟩, d, n, l, s, b1, b2⟩ := h
  obtain ⟨_, -, f, q1, q2⟩ := q
  have e9 := f 191 0 0 rfl
  refine ⟨⟨KA__f k1 f ⟨fun _ => rfl, fun _ => rfl, rfl, rfl, trivial⟩, KM__f k2 f ⟨rfl, rfl, rfl, rfl, trivial⟩, KC__f k3 f ⟨rfl, rfl, rfl, rfl, trivial⟩, KR__f k4 f ⟨fun _ => rfl, rfl, trivial⟩, fun c a b m p q => ?_, KO__f k6 f ⟨fun _ => rfl, rfl, trivial⟩, q1, KB__f k8 f ⟨fun _ => rfl, rfl, trivial⟩, KP__f k9 f ⟨rfl, rfl, rfl, trivial⟩, KW__f k10 f ⟨fun _ => rfl, rfl, trivial⟩⟩, DD__f d f ⟨rfl, rfl, rfl, rfl, rfl, trivial⟩, NA_f n f ⟨rfl, rfl, rfl, rfl, rfl, rfl, rfl, rfl, rfl⟩, LP_f l (by omega) (lh_f lh_r f rfl rfl) f ⟨rfl, rfl, rfl, rfl, rfl, rfl, rfl, rfl, rfl, rfl, rfl⟩, ?_, by omega, by omega⟩
  · rw [f 106 0 2 rfl] at b
    rw [f 100 c 7 rfl] at p
    rw [f 100 c 7 rfl, f 100 c 8 rfl] at q
    rw [f 102 m 0 rfl, f 102 m 3 rfl, f 102 m 4 rfl]
    have y := k5 c a b m p q
    exact ⟨y.1, q2 _ _ y.2.1, q2 _ _ y.2.2⟩
  · rw [f 109 0 15 rfl, f 190 _ _ rfl]
    exact s
theorem ic_plan {N : Int} {T T' : Zt} {r : Option Zv} {c b : Int} (hT : ok_T T) (h : IC_ N T) (q : po_X10_plan T c b T' r) : IC_ (N + 1) T' := by
  obtain ⟨_, -, q⟩ := q
  rcases q with q | q
  · rw [q]; exact ic_e h
  · obtain ⟨⟨k1, k2, k3, k4, k5, k6, k7, k8, k9, k10⟩, d, n, l, s, b1, b2⟩ := h
    have f := q.2.1
    obtain ⟨g1, g2, g3, g4, g5, g6, g7, g8⟩ := sc_ic q k1 k2 k3 k5 k9 d (LP_m l (show N ≤ N + 1 by omega)) (fun i => (bd_f hT 100 7 tl_0_7 i).1) (bd_f hT 106 4 tl_6_4 0).1
    have e9 := f 191 0 0 rfl
    refine ⟨⟨g1, g2, g3, KR__f k4 f ⟨fun _ => rfl, rfl, trivial⟩, g4, KO__f k6 f ⟨fun _ => rfl, rfl, trivial⟩, KE__f k7 f ⟨fun _ => rfl, fun _ => rfl, rfl, rfl, trivial⟩, KB__f k8 f ⟨fun _ => rfl, rfl, trivial⟩, g5, KW__f k10 f ⟨fun _ => rfl, rfl, trivial⟩⟩, g6, g7, g8, ?_, by omega, by omega⟩
    rw [f 109 0 15 rfl, f 190 _ _ rfl]
    exact s
theorem ic_competition {N : Int} {T T' : Zt} {r : Option Zv} (hT : ok_T T) (h : IC_ N T) (q : po_X10_competition T T' r) : IC_ (N + 1) T' := by
  obtain ⟨_, -, q⟩ := q
  rcases q with f | ⟨f, ⟨e2, e4⟩, q1, q2, q3, ⟨z5, z6, z7, z8⟩, q4, q5, q6⟩
  · exact ic_f h f ⟨⟨fun _ => rfl, fun _ => rfl, fun _ => rfl, fun _ => rfl, fun _ => rfl⟩, ⟨rfl, rfl⟩, ⟨rfl, rfl, rfl, rfl⟩, rfl, rfl, rfl, rfl⟩ ⟨rfl, rfl⟩ ⟨rfl, rfl, rfl, rfl, rfl, rfl, rfl, rfl, rfl⟩ ⟨rfl, rfl, rfl, rfl, rfl, rfl, rfl, rfl, rfl, rfl, rfl⟩ ⟨rfl, rfl, rfl⟩
  · obtain ⟨⟨k1, k2, k3, k4, k5, k6, k7, k8, k9, k10⟩, d, n, l, s, b1, b2⟩ := h
    have e9 := f 191 0 0 rfl
    have em := f 106 0 4 rfl
    have hm : 0 ≤ T 106 0 4 := (bd_f hT 106 4 tl_6_4 0).1
    have hc : 0 ≤ T 106 0 2 := (bd_f hT 106 2 tl_6_2 0).1
    have o401 : ∀ c j, c ≠ T 106 0 2 → T' 401 c j = T 401 c j := fun c j h => q1 401 c j (Or.inr (Or.inr (Or.inl rfl))) h
    have o100 : ∀ c j, c ≠ T 106 0 2 → T' 100 c j = T 100 c j := fun c j h => q1 100 c j (Or.inl rfl) h
    have o403 : ∀ c j, c ≠ T 106 0 2 → T' 403 c j = T 403 c j := fun c j h => q1 403 c j (Or.inr (Or.inr (Or.inr (Or.inl rfl)))) h
    have o404 : ∀ c j, c ≠ T 106 0 2 → T' 404 c j = T 404 c j := fun c j h => q1 404 c j (Or.inr (Or.inr (Or.inr (Or.inr rfl)))) h
    have e02 : ∀ i j, T' 102 i j = T 102 i j := fun i j => f 102 i j rfl
    refine ⟨⟨⟨fun i a b => ?_, fun i a b => ?_⟩, fun m a b => ?_, fun c a b => ?_, fun c a b => ?_, fun c a b m p q => ?_, fun c a b => ?_, fun c a b j p q => ?_, fun c a b => ?_, fun m a b => ?_, fun c a b => ?_⟩, DD__f d f ⟨rfl, rfl, rfl, rfl, rfl, trivial⟩, q6, fun p a b g => ?_, ?_, by omega, by omega⟩
    · by_cases z : i = T 106 0 2
      · rw [z, q3]; decide
      · rw [q2 i z]; exact k1.1 i a (by omega)
    · rw [f 523 0 i rfl]; exact k1.2 i a (by omega)
    · have y := k2 m a (by omega)
      rw [e02, e02]
      omega
    · by_cases z : c = T 106 0 2
      · rw [z, z7, z8]; omega
      · rw [o100 c 7 z, o100 c 8 z, em]; exact k3 c a (by omega)
    · by_cases z : c = T 106 0 2
      · rw [z]; exact q4 9 (by omega) (by omega)
      · rw [o401 c 9 z]; exact k4 c a (by omega)
    · by_cases z : c = T 106 0 2
      · rw [z, z7] at p; rw [z, z7, z8] at q; omega
      · rw [o100 c 7 z] at p
        rw [o100 c 7 z, o100 c 8 z] at q
        rw [e02, e02, e02, o404 c _ z, o404 c _ z]
        exact k5 c a (by omega) m p q
    · by_cases z : c = T 106 0 2
      · rw [z]; exact (q4 4 (by omega) (by omega)).2
      · rw [o401 c 4 z]; exact k6 c a (by omega)
    · by_cases z : c = T 106 0 2
      · rw [z, z5] at q; omega
      · rw [o100 c 5 z] at q
        rw [o403 c j z, o404 c _ z]
        exact k7 c a (by omega) j p q
    · by_cases z : c = T 106 0 2
      · rw [z]
        have y6 := q4 6 (by omega) (by omega)
        have y7 := q4 7 (by omega) (by omega)
        have w1 : (sa_ 1).getD (Int.toNat 6) 0 = 1 := by decide
        have w2 : (sa_ 2).getD (Int.toNat 6) 0 = 4 := by decide
        have w3 : (sa_ 1).getD (Int.toNat 7) 0 = 1 := by decide
        have w4 : (sa_ 2).getD (Int.toNat 7) 0 = 30 := by decide
        omega
      · rw [o401 c 6 z, o401 c 7 z]; exact k8 c a (by omega)
    · have y := k2 m a (by omega)
      rw [e02, o100 _ 6 (by omega)]
      exact k9 m a (by omega)
    · by_cases z : c = T 106 0 2
      · rw [z]; exact q5
      · rw [o401 c 2 z, o401 c 1 z]; exact k10 c a (by omega)
    · rw [e02] at g
      exact Lp_o (l p a (by omega) g) (by omega) ⟨fun x _ => f 190 x _ rfl, by omega⟩ (by omega) ⟨f _ _ _ rfl, f _ _ _ rfl, f _ _ _ rfl, f _ _ _ rfl, f _ _ _ rfl, f _ _ _ rfl, f _ _ _ rfl, f _ _ _ rfl⟩
    · rw [f 109 0 15 rfl, f 190 _ _ rfl]
      exact s
-- spans, told exactly
/-- v is the last below m of those that are p's, or -1 -/
def lpz_ (T : Zt) (p m v : Int) : Prop := (v = -1 ∧ ∀ j, 0 ≤ j → j < m → T 217 0 j ≠ p) ∨ (0 ≤ v ∧ v < m ∧ T 217 0 v = p ∧ ∀ j, v < j → j < m → T 217 0 j ≠ p)
/-- both sides keep the same spans; the house's are chained by person -/
def SPR_ (T : Zt) : Prop := T 108 0 5 = T 111 0 16 ∧ (∀ s, 0 ≤ s → s < T 108 0 5 → T 566 0 s = T 218 0 s ∧ T 567 0 s = T 219 0 s ∧ T 568 0 s = T 220 0 s) ∧ (∀ p, 0 ≤ p → p < T 108 0 3 → lpz_ T p (T 108 0 5) (T 564 0 p)) ∧ (∀ s, 0 ≤ s → s < T 108 0 5 → lpz_ T (T 217 0 s) s (T 569 0 s)) ∧ (∀ s, 0 ≤ s → s < T 108 0 5 → 0 ≤ T 217 0 s ∧ T 217 0 s < T 108 0 3)
/-- from m on no span of p meets a to b -/
def FSP_ (T : Zt) (p a b m : Int) : Prop := ∀ j, m ≤ j → j < T 108 0 5 → T 217 0 j = p → ¬ (T 567 0 j ≤ b ∧ a ≤ T 568 0 j)
theorem lpz_lt {T : Zt} {p m v : Int} (h : lpz_ T p m v) (hv : v ≠ -1) : 0 ≤ v ∧ v < m ∧ T 217 0 v = p := by
  rcases h with h | h
  · exact absurd h.1 hv
  · exact ⟨h.1, h.2.1, h.2.2.1⟩
theorem lpz_n {T : Zt} {p m v : Int} (hs : SPR_ T) (h : lpz_ T p m v) (hv : v ≠ -1) (hm : m ≤ T 108 0 5) : lpz_ T p v (T 569 0 v) := by
  obtain ⟨h1, h2, h3⟩ := lpz_lt h hv
  have h4 := hs.2.2.2.1 v h1 (by omega)
  rw [h3] at h4
  exact h4
theorem fsp_z {T : Zt} {p a b : Int} : FSP_ T p a b (T 108 0 5) := fun j h1 h2 => by omega
theorem fsp_s {T : Zt} {p a b m v : Int} (h : lpz_ T p m v) (hf : FSP_ T p a b m) (hv : v ≠ -1) (hn : ¬ (T 567 0 v ≤ b ∧ a ≤ T 568 0 v)) : FSP_ T p a b v := fun j h1 h2 h3 => by
  rcases h with h | ⟨_, _, _, h4⟩
  · exact absurd h.1 hv
  · by_cases e : j = v
    · rw [e]
      exact hn
    · by_cases g : j < m
      · exact absurd h3 (h4 j (by omega) g)
      · exact hf j (by omega) h2 h3
theorem fsp_0 {T : Zt} {p a b m v : Int} (h : lpz_ T p m v) (hf : FSP_ T p a b m) (hv : v = -1 ∨ m ≤ 0) : FSP_ T p a b 0 := fun j h1 h2 h3 => by
  by_cases g : m ≤ j
  · exact hf j g h2 h3
  · rcases h with ⟨_, h4⟩ | ⟨h5, h6, _⟩
    · exact absurd h3 (h4 j h1 (by omega))
    · exfalso
      omega
theorem fsp_1 {T : Zt} {p a b m v : Int} (h : lpz_ T p m v) (hv : v ≠ -1) (hm : m ≤ T 108 0 5) (h1 : T 567 0 v ≤ b) (h2 : a ≤ T 568 0 v) : ¬ FSP_ T p a b 0 := fun hf => by
  obtain ⟨g1, g2, g3⟩ := lpz_lt h hv
  exact hf v g1 (by omega) g3 ⟨h1, h2⟩
/-- a span more, the house's -/
def AS_ (T T' : Zt) (p cl a b : Int) : Prop := T' 108 0 5 = T 108 0 5 + 1 ∧ (T' 566 0 (T 108 0 5) = cl ∧ T' 567 0 (T 108 0 5) = a ∧ T' 568 0 (T 108 0 5) = b ∧ T' 569 0 (T 108 0 5) = T 564 0 p ∧ T' 564 0 p = T 108 0 5) ∧ (∀ j, j ≠ T 108 0 5 → T' 566 0 j = T 566 0 j ∧ T' 567 0 j = T 567 0 j ∧ T' 568 0 j = T 568 0 j ∧ T' 569 0 j = T 569 0 j) ∧ (∀ j, j ≠ p → T' 564 0 j = T 564 0 j)
theorem as_e {T : Zt} {p cl a b : Int} : AS_ T (up_ (up_ (up_ (up_ (up_ (up_ T 566 0 (T 108 0 5) cl) 567 0 (T 108 0 5) a) 568 0 (T 108 0 5) b) 569 0 (T 108 0 5) (T 564 0 p)) 564 0 p (T 108 0 5)) 108 0 5 (T 108 0 5 + 1)) p cl a b := by
  refine ⟨?_, ⟨?_, ?_, ?_, ?_, ?_⟩, fun j hj => ⟨?_, ?_, ?_, ?_⟩, fun j hj => ?_⟩ <;> simp [up_] <;> (intro e; exact absurd e hj)
/-- a span more, the reference's -/
def AM_ (T T' : Zt) (p cl a b : Int) : Prop := T' 111 0 16 = T 111 0 16 + 1 ∧ (T' 217 0 (T 111 0 16) = p ∧ T' 218 0 (T 111 0 16) = cl ∧ T' 219 0 (T 111 0 16) = a ∧ T' 220 0 (T 111 0 16) = b) ∧ (∀ j, j ≠ T 111 0 16 → T' 217 0 j = T 217 0 j ∧ T' 218 0 j = T 218 0 j ∧ T' 219 0 j = T 219 0 j ∧ T' 220 0 j = T 220 0 j)
theorem am_e {T : Zt} {p cl a b : Int} : AM_ T (up_ (up_ (up_ (up_ (up_ T 217 0 (T 111 0 16) p) 218 0 (T 111 0 16) cl) 219 0 (T 111 0 16) a) 220 0 (T 111 0 16) b) 111 0 16 (T 111 0 16 + 1)) p cl a b := by
  refine ⟨?_, ⟨?_, ?_, ?_, ?_⟩, fun j hj => ⟨?_, ?_, ?_, ?_⟩⟩ <;> simp [up_] <;> (intro e; exact absurd e hj)
/-- below m no span of p meets a to b, the reference's -/
def FSR_ (T : Zt) (p a b m : Int) : Prop := ∀ j, 0 ≤ j → j < m → T 217 0 j = p → ¬ (T 219 0 j ≤ b ∧ a ≤ T 220 0 j)
theorem fsr_s {T : Zt} {p a b s : Int} (h : FSR_ T p a b s) (hn : ¬ (T 217 0 s = p ∧ T 219 0 s ≤ b ∧ a ≤ T 220 0 s)) : FSR_ T p a b (s + 1) := fun j h1 h2 h3 h4 => by
  by_cases e : j = s
  · rw [e] at h3 h4
    exact hn ⟨h3, h4⟩
  · exact h j h1 (by omega) h3 h4
theorem fsr_m {T : Zt} {p a b s n : Int} (h : FSR_ T p a b s) (e : n ≤ s) : FSR_ T p a b n := fun j h1 h2 => h j h1 (by omega)
theorem fsr_w {T : Zt} {p a b s n : Int} (h0 : 0 ≤ s) (h1 : s < n) (h2 : T 217 0 s = p) (h3 : T 219 0 s ≤ b) (h4 : a ≤ T 220 0 s) : ¬ FSR_ T p a b n := fun h => h s h0 h1 h2 ⟨h3, h4⟩
theorem fs_eq {T : Zt} {p a b : Int} (h : SPR_ T) : FSP_ T p a b 0 ↔ FSR_ T p a b (T 111 0 16) := by
  obtain ⟨e, h1, -⟩ := h
  constructor
  · intro g j a1 a2 a3
    obtain ⟨-, e2, e3⟩ := h1 j a1 (by omega)
    rw [← e2, ← e3]
    exact g j a1 (by omega) a3
  · intro g j a1 a2 a3
    obtain ⟨-, e2, e3⟩ := h1 j a1 a2
    rw [e2, e3]
    exact g j a1 (by omega) a3
abbrev OKP_ (p cl np nc : Int) : Prop := 0 ≤ p ∧ p < np ∧ 0 ≤ cl ∧ cl < nc
abbrev OKD_ (a b : Int) : Prop := 0 ≤ a ∧ a ≤ 999 ∧ 0 ≤ b ∧ b ≤ 999 ∧ a ≤ b
def QR_ (T T' : Zt) (p cl a b x : Int) : Prop := (x = -2 ∧ ¬ OKP_ p cl (T 108 0 3) (T 108 0 2) ∧ T' = T) ∨ (x = -3 ∧ OKP_ p cl (T 108 0 3) (T 108 0 2) ∧ ¬ OKD_ a b ∧ T' = T) ∨ (x = -4 ∧ OKP_ p cl (T 108 0 3) (T 108 0 2) ∧ OKD_ a b ∧ ¬ FSP_ T p a b 0 ∧ T' = T) ∨ (x = -5 ∧ OKP_ p cl (T 108 0 3) (T 108 0 2) ∧ OKD_ a b ∧ FSP_ T p a b 0 ∧ T 108 0 5 = 300 ∧ T' = T) ∨ (x = T 108 0 5 + 1 ∧ OKP_ p cl (T 108 0 3) (T 108 0 2) ∧ OKD_ a b ∧ FSP_ T p a b 0 ∧ T 108 0 5 < 300 ∧ AS_ T T' p cl a b)
def QM_ (T T' : Zt) (p cl a b x : Int) : Prop := (x = -2 ∧ ¬ OKP_ p cl (T 111 0 15) (T 111 0 12) ∧ T' = T) ∨ (x = -3 ∧ OKP_ p cl (T 111 0 15) (T 111 0 12) ∧ ¬ OKD_ a b ∧ T' = T) ∨ (x = -4 ∧ OKP_ p cl (T 111 0 15) (T 111 0 12) ∧ OKD_ a b ∧ ¬ FSR_ T p a b (T 111 0 16) ∧ T' = T) ∨ (x = -5 ∧ OKP_ p cl (T 111 0 15) (T 111 0 12) ∧ OKD_ a b ∧ FSR_ T p a b (T 111 0 16) ∧ T 111 0 16 = 300 ∧ T' = T) ∨ (x = T 111 0 16 + 1 ∧ OKP_ p cl (T 111 0 15) (T 111 0 12) ∧ OKD_ a b ∧ FSR_ T p a b (T 111 0 16) ∧ T 111 0 16 < 300 ∧ AM_ T T' p cl a b)
/-- a person more: the house's chain of it is empty -/
def QP_ (T T' : Zt) (x : Int) : Prop := (T 108 0 3 = 200 ∧ x = -5 ∧ T' = T) ∨ (T 108 0 3 < 200 ∧ x = T 108 0 3 ∧ T' 108 0 3 = T 108 0 3 + 1 ∧ T' 564 0 (T 108 0 3) = -1 ∧ ∀ j, j ≠ T 108 0 3 → T' 564 0 j = T 564 0 j)
theorem qp_e {T : Zt} (h : T 108 0 3 < 200) : QP_ T (up_ (up_ T 564 0 (T 108 0 3) (-1)) 108 0 3 (T 108 0 3 + 1)) (T 108 0 3) := by
  refine Or.inr ⟨h, rfl, ?_, ?_, fun j hj => ?_⟩ <;> simp [up_] <;> (intro e; exact absurd e hj)
abbrev po_X8_isRegisteredWithin_e (T : Zt) (p a b : Int) : Zt → Option Zv → Prop := fun T' r => T = T' ∧ ∃ x : Int, r = some (vI x) ∧ ((x = 1 ∧ ¬ FSP_ T p a b 0) ∨ (x = 0 ∧ FSP_ T p a b 0))
set_option maxHeartbeats 4000000 in
theorem ct_X8_isRegisteredWithin_e {T : Zt} {p a b : Int} (h1 : 0 ≤ p ∧ p < 200) (h2 : p < T 108 0 3) (hsp : SPR_ T) : Ct_ yX8_isRegisteredWithin zX8_isRegisteredWithin T [vR 108 0, vI p, vI a, vI b] (po_X8_isRegisteredWithin_e T p a b) := by
  refine ct_of pn_8 rfl rfl (Nat.le_of_ble_eq_true rfl) (fun hT hav => ?_)
  have hr_p : -2147483648 ≤ p ∧ p ≤ 2147483647 := hav (vI p) (List.mem_cons_of_mem _ List.mem_cons_self)
  have hr_a : -2147483648 ≤ a ∧ a ≤ 2147483647 := hav (vI a) (List.mem_cons_of_mem _ (List.mem_cons_of_mem _ List.mem_cons_self))
  have hr_b : -2147483648 ≤ b ∧ b ≤ 2147483647 := hav (vI b) (List.mem_cons_of_mem _ (List.mem_cons_of_mem _ (List.mem_cons_of_mem _ List.mem_cons_self)))
  have hz : zX8_isRegisteredWithin.2.2.2.1 = some .boolean → ∀ (T' : Zt) (x : Int), po_X8_isRegisteredWithin_e T p a b T' (some (vI x)) → 0 ≤ x ∧ x ≤ 1 := fun _ T' x h => by obtain ⟨-, y, e, hy⟩ := h; cases e; omega
  have hb_spans : 0 ≤ T 108 0 5 ∧ T 108 0 5 ≤ 300 := bd_f hT 108 5 tl_8_5 0
  show J_ zX8_isRegisteredWithin T (po_X8_isRegisteredWithin_e T p a b) 0 0 0 [some (vR 108 0), some (vI p), some (vI a), some (vI b), none, none] [] T
  have c_11 : ∀ (nn : Nat) (s : Int) (n : Int) (g : Int), ((300 - n).toNat) ≤ nn → (-1 ≤ s ∧ s ≤ 299 ∧ 0 ≤ n ∧ 0 ≤ g ∧ g + n ≤ T 108 0 5) → (lpz_ T p g s) → (FSP_ T p a b g) → J_ zX8_isRegisteredWithin T (po_X8_isRegisteredWithin_e T p a b) 0 0 11 [some (vR 108 0), some (vI p), some (vI a), some (vI b), some (vI s), some (vI n)] [] T := by
    intro nn
    induction nn using Nat.strongRecOn with
    | _ nn ih_11 =>
      intro s n g hm_11 i1 i2 i3
      replace hm_11 := fun (_ : Unit) => hm_11
      refine j_blx (F := fX8) tb_X8 (nn_ _) bk_X8_isRegisteredWithin_11 bs_X8_isRegisteredWithin_11 hz (fun K hK => ?_)
      refine And.intro (fun c1 => ?_) (fun c1 => ?_)
      · refine hK 64 _ [] T ?_
        refine j_blx (F := fX8) tb_X8 (nn_ _) bk_X8_isRegisteredWithin_64 bs_X8_isRegisteredWithin_64 hz (fun K hK => ?_)
        refine (show po_X8_isRegisteredWithin_e T p a b T (some (vI 0)) from ?_)
        exact ⟨rfl, _, rfl, by exact Or.inr ⟨rfl, fsp_0 i2 i3 (by omega)⟩⟩
      · have hlt := lpz_lt i2 (by omega)
        refine And.intro (fun c2 => ?_) (fun c2 => ?_)
        · refine hK 64 _ [] T ?_
          refine j_blx (F := fX8) tb_X8 (nn_ _) bk_X8_isRegisteredWithin_64 bs_X8_isRegisteredWithin_64 hz (fun K hK => ?_)
          refine (show po_X8_isRegisteredWithin_e T p a b T (some (vI 0)) from ?_)
          exact ⟨rfl, _, rfl, by exact Or.inr ⟨rfl, fsp_0 i2 i3 (by omega)⟩⟩
        · refine ix_i (by omega) ?_
          intro b3 b3b
          refine And.intro (fun c4 => ?_) (fun c4 => ?_)
          · refine hK 49 _ [] T ?_
            refine j_blx (F := fX8) tb_X8 (nn_ _) bk_X8_isRegisteredWithin_49 bs_X8_isRegisteredWithin_49 hz (fun K hK => ?_)
            refine ix_i (by omega) ?_
            intro b5 b5b
            refine rg_i (by omega) ?_
            refine hK 11 [some (vR 108 0), some (vI p), some (vI a), some (vI b), some (vI (T 569 0 s)), some (vI (n + 1))] [] T ?_
            refine ih_11 _ ?_ (T 569 0 s) (n + 1) s (Nat.le_refl _) ?_ ?_ ?_
            · have hm_11 := hm_11 (); omega
            · omega
            · exact lpz_n hsp i2 (by omega) (by omega)
            · exact fsp_s i2 i3 (by omega) (by omega)
          · refine ix_i (by omega) ?_
            intro b6 b6b
            refine And.intro (fun c7 => ?_) (fun c7 => ?_)
            · refine hK 49 [some (vR 108 0), some (vI p), some (vI a), some (vI b), some (vI s), some (vI n)] [] T ?_
              refine j_blx (F := fX8) tb_X8 (nn_ _) bk_X8_isRegisteredWithin_49 bs_X8_isRegisteredWithin_49 hz (fun K hK => ?_)
              refine ix_i (by omega) ?_
              intro b8 b8b
              refine rg_i (by omega) ?_
              refine hK 11 [some (vR 108 0), some (vI p), some (vI a), some (vI b), some (vI (T 569 0 s)), some (vI (n + 1))] [] T ?_
              refine ih_11 _ ?_ (T 569 0 s) (n + 1) s (Nat.le_refl _) ?_ ?_ ?_
              · have hm_11 := hm_11 (); omega
              · omega
              · exact lpz_n hsp i2 (by omega) (by omega)
              · exact fsp_s i2 i3 (by omega) (by omega)
            · refine (show po_X8_isRegisteredWithin_e T p a b T (some (vI 1)) from ?_)
              exact ⟨rfl, _, rfl, by exact Or.inl ⟨rfl, fsp_1 i2 (by omega) (by omega) (by omega) (by omega)⟩⟩
  refine j_blx (F := fX8) tb_X8 (nn_ _) bk_X8_isRegisteredWithin_0 bs_X8_isRegisteredWithin_0 hz (fun K hK => ?_)
  refine ix_i (by omega) ?_
  intro b9 b9b
  refine hK 11 [some (vR 108 0), some (vI p), some (vI a), some (vI b), some (vI (T 564 0 p)), some (vI 0)] [] T ?_
  refine c_11 _ (T 564 0 p) 0 (T 108 0 5) (Nat.le_refl _) ?_ ?_ ?_
  · omega
  · exact hsp.2.2.1 p (by omega) (by omega)
  · exact fsp_z
abbrev po_X8_addSpan_e (T : Zt) (p cl a b : Int) : Zt → Option Zv → Prop := fun T' r => r = none ∧ fr_ [(108, [5]), (566, []), (567, []), (568, []), (569, []), (564, [])] T T' ∧ (AS_ T T' p cl a b)
set_option maxHeartbeats 4000000 in
theorem ct_X8_addSpan_e {T : Zt} {p cl a b : Int} (h1 : 0 ≤ p ∧ p < 200) (h2 : 0 ≤ cl ∧ cl < 12) (h3 : 0 ≤ a ∧ a ≤ 999) (h4 : 0 ≤ b ∧ b ≤ 999) (h5 : T 108 0 5 < 300) : Ct_ yX8_addSpan zX8_addSpan T [vR 108 0, vI p, vI cl, vI a, vI b] (po_X8_addSpan_e T p cl a b) := by
  refine ct_of pn_8 rfl rfl (Nat.le_of_ble_eq_true rfl) (fun hT hav => ?_)
  have hr_p : -2147483648 ≤ p ∧ p ≤ 2147483647 := hav (vI p) (List.mem_cons_of_mem _ List.mem_cons_self)
  have hr_cl : -2147483648 ≤ cl ∧ cl ≤ 2147483647 := hav (vI cl) (List.mem_cons_of_mem _ (List.mem_cons_of_mem _ List.mem_cons_self))
  have hr_a : -2147483648 ≤ a ∧ a ≤ 2147483647 := hav (vI a) (List.mem_cons_of_mem _ (List.mem_cons_of_mem _ (List.mem_cons_of_mem _ List.mem_cons_self)))
  have hr_b : -2147483648 ≤ b ∧ b ≤ 2147483647 := hav (vI b) (List.mem_cons_of_mem _ (List.mem_cons_of_mem _ (List.mem_cons_of_mem _ (List.mem_cons_of_mem _ List.mem_cons_self))))
  have hz : zX8_addSpan.2.2.2.1 = some .boolean → ∀ (T' : Zt) (x : Int), po_X8_addSpan_e T p cl a b T' (some (vI x)) → 0 ≤ x ∧ x ≤ 1 := fun h => by cases h
  have hb_spans : 0 ≤ T 108 0 5 ∧ T 108 0 5 ≤ 300 := bd_f hT 108 5 tl_8_5 0
  show J_ zX8_addSpan T (po_X8_addSpan_e T p cl a b) 0 0 0 [some (vR 108 0), some (vI p), some (vI cl), some (vI a), some (vI b)] [] T
  refine j_blx (F := fX8) tb_X8 (nn_ _) bk_X8_addSpan_0 bs_X8_addSpan_0 hz (fun K hK => ?_)
  intro b1 b1b
  refine iy_i (by omega) (by omega) ?_
  refine x_nm (fun U2 hU2 => ?_)
  have e3 := up_f hU2
  intro b4 b4b
  have e5 : U2 108 0 5 = T 108 0 5 := up_k hU2 (by exact Nat.ne_of_beq_eq_false rfl) 0 5
  rw [e5] at b4 b4b ⊢
  refine iy_i (by omega) (by omega) ?_
  refine x_nm (fun U6 hU6 => ?_)
  have e7 := up_f hU6
  intro b8 b8b
  have e9 : U6 108 0 5 = T 108 0 5 := (up_k hU6 (by exact Nat.ne_of_beq_eq_false rfl) 0 5).trans (up_k hU2 (by exact Nat.ne_of_beq_eq_false rfl) 0 5)
  rw [e9] at b8 b8b ⊢
  refine iy_i (by omega) (by omega) ?_
  refine x_nm (fun U10 hU10 => ?_)
  have e11 := up_f hU10
  intro b12 b12b
  have e13 : U10 108 0 5 = T 108 0 5 := (up_k hU10 (by exact Nat.ne_of_beq_eq_false rfl) 0 5).trans ((up_k hU6 (by exact Nat.ne_of_beq_eq_false rfl) 0 5).trans (up_k hU2 (by exact Nat.ne_of_beq_eq_false rfl) 0 5))
  rw [e13] at b12 b12b ⊢
  refine ix_i (by omega) ?_
  intro b14 b14b
  have e15 : U10 564 0 p = T 564 0 p := (up_k hU10 (by exact Nat.ne_of_beq_eq_false rfl) 0 p).trans ((up_k hU6 (by exact Nat.ne_of_beq_eq_false rfl) 0 p).trans (up_k hU2 (by exact Nat.ne_of_beq_eq_false rfl) 0 p))
  rw [e15] at b14 b14b ⊢
  refine iy_i (by omega) (by omega) ?_
  refine x_nm (fun U16 hU16 => ?_)
  have e17 := up_f hU16
  intro b18 b18b
  have e19 : U16 108 0 5 = T 108 0 5 := (up_k hU16 (by exact Nat.ne_of_beq_eq_false rfl) 0 5).trans ((up_k hU10 (by exact Nat.ne_of_beq_eq_false rfl) 0 5).trans ((up_k hU6 (by exact Nat.ne_of_beq_eq_false rfl) 0 5).trans (up_k hU2 (by exact Nat.ne_of_beq_eq_false rfl) 0 5)))
  rw [e19] at b18 b18b ⊢
  refine iy_i (by omega) (by omega) ?_
  refine x_nm (fun U20 hU20 => ?_)
  have e21 := up_f hU20
  intro b22 b22b
  have e23 : U20 108 0 5 = T 108 0 5 := (up_k hU20 (by exact Nat.ne_of_beq_eq_false rfl) 0 5).trans ((up_k hU16 (by exact Nat.ne_of_beq_eq_false rfl) 0 5).trans ((up_k hU10 (by exact Nat.ne_of_beq_eq_false rfl) 0 5).trans ((up_k hU6 (by exact Nat.ne_of_beq_eq_false rfl) 0 5).trans (up_k hU2 (by exact Nat.ne_of_beq_eq_false rfl) 0 5))))
  rw [e23] at b22 b22b ⊢
  refine rg_i (by omega) ?_
  refine bd_i (by omega) ?_
  refine x_nm (fun U24 hU24 => ?_)
  have e25 := up_f hU24
  refine (show po_X8_addSpan_e T p cl a b U24 (none) from ?_)
  exact ⟨rfl, fr_u (fr_u (fr_u (fr_u (fr_u (fr_u (fr_0 _ _) hU2 rfl) hU6 rfl) hU10 rfl) hU16 rfl) hU20 rfl) hU24 rfl, by rw [hU24, hU20, hU16, hU10, hU6, hU2]; exact as_e⟩
abbrev po_X10_register_e (T : Zt) (p cl a b : Int) : Zt → Option Zv → Prop := fun T' r => ∃ x : Int, r = some (vI x) ∧ fr_ [(108, [5]), (566, []), (567, []), (568, []), (569, []), (564, [])] T T' ∧ (QR_ T T' p cl a b x)
set_option maxHeartbeats 4000000 in
theorem ct_X10_register_e {T : Zt} {p cl a b : Int} (hsp : SPR_ T) : Ct_ yX10_register zX10_register T [vR 110 0, vI p, vI cl, vI a, vI b] (po_X10_register_e T p cl a b) := by
  refine ct_of pn_10 rfl rfl (Nat.le_of_ble_eq_true rfl) (fun hT hav => ?_)
  have hr_p : -2147483648 ≤ p ∧ p ≤ 2147483647 := hav (vI p) (List.mem_cons_of_mem _ List.mem_cons_self)
  have hr_cl : -2147483648 ≤ cl ∧ cl ≤ 2147483647 := hav (vI cl) (List.mem_cons_of_mem _ (List.mem_cons_of_mem _ List.mem_cons_self))
  have hr_a : -2147483648 ≤ a ∧ a ≤ 2147483647 := hav (vI a) (List.mem_cons_of_mem _ (List.mem_cons_of_mem _ (List.mem_cons_of_mem _ List.mem_cons_self)))
  have hr_b : -2147483648 ≤ b ∧ b ≤ 2147483647 := hav (vI b) (List.mem_cons_of_mem _ (List.mem_cons_of_mem _ (List.mem_cons_of_mem _ (List.mem_cons_of_mem _ List.mem_cons_self))))
  have hz : zX10_register.2.2.2.1 = some .boolean → ∀ (T' : Zt) (x : Int), po_X10_register_e T p cl a b T' (some (vI x)) → 0 ≤ x ∧ x ≤ 1 := fun h => by cases h
  have hb_spans : 0 ≤ T 108 0 5 ∧ T 108 0 5 ≤ 300 := bd_f hT 108 5 tl_8_5 0
  have hb_persons : 0 ≤ T 108 0 3 ∧ T 108 0 3 ≤ 200 := bd_f hT 108 3 tl_8_3 0
  have hb_clubs : 0 ≤ T 108 0 2 ∧ T 108 0 2 ≤ 12 := bd_f hT 108 2 tl_8_2 0
  show J_ zX10_register T (po_X10_register_e T p cl a b) 0 0 0 [some (vR 110 0), some (vI p), some (vI cl), some (vI a), some (vI b)] [] T
  refine j_blx (F := fX10) tb_X10 (nn_ _) bk_X10_register_0 bs_X10_register_0 hz (fun K hK => ?_)
  refine hK 2 _ [vI p, vR 110 0] T ?_
  refine j_callV (y := yX10_isPerson) (Yc := zX10_isPerson) (rest := []) [vI p] (ct_X10_isPerson (T := T)) cl_X10_134 (qd_c (by decide +kernel)) (nn_ _) rfl (rf_of rfl) (Nat.le_of_ble_eq_true rfl) (Nat.le_of_ble_eq_true rfl) (Nat.le_of_ble_eq_true rfl) rfl ?_
  rintro _ _ ⟨rfl, x1, rfl, hx1⟩
  show J_ zX10_register T (po_X10_register_e T p cl a b) 0 0 5 _ [vI x1] T
  refine j_blx (F := fX10) tb_X10 (nn_ _) bk_X10_register_5 bs_X10_register_5 hz (fun K hK => ?_)
  refine And.intro (fun c2 => ?_) (fun c2 => ?_)
  · replace hx1 := hx1.resolve_left (fun z => absurd (c2.symm.trans z.1) (by decide))
    clear c2
    refine hK 16 _ [] T ?_
    refine j_blx (F := fX10) tb_X10 (nn_ _) bk_X10_register_16 bs_X10_register_16 hz (fun K hK => ?_)
    refine (show po_X10_register_e T p cl a b T (some (vI (-2))) from ?_)
    exact ⟨_, rfl, fr_0 _ _, Or.inl ⟨rfl, by omega, rfl⟩⟩
  · replace hx1 := hx1.resolve_right (fun z => c2 z.1)
    clear c2
    refine hK 10 _ [vI cl, vR 110 0] T ?_
    refine j_callV (y := yX10_isClub) (Yc := zX10_isClub) (rest := []) [vI cl] (ct_X10_isClub (T := T)) cl_X10_137 (qd_c (by decide +kernel)) (nn_ _) rfl (rf_of rfl) (Nat.le_of_ble_eq_true rfl) (Nat.le_of_ble_eq_true rfl) (Nat.le_of_ble_eq_true rfl) rfl ?_
    rintro _ _ ⟨rfl, x3, rfl, hx3⟩
    show J_ zX10_register T (po_X10_register_e T p cl a b) 0 0 13 _ [vI x3] T
    refine j_blx (F := fX10) tb_X10 (nn_ _) bk_X10_register_13 bs_X10_register_13 hz (fun K hK => ?_)
    refine And.intro (fun c4 => ?_) (fun c4 => ?_)
    · replace hx3 := hx3.resolve_right (fun z => c4 z.1)
      clear c4
      refine hK 19 _ [] T ?_
      refine j_blx (F := fX10) tb_X10 (nn_ _) bk_X10_register_19 bs_X10_register_19 hz (fun K hK => ?_)
      refine hK 20 _ [vI a] T ?_
      refine j_callS (y := yX10_isDay) (Yc := zX10_isDay) (rest := []) [vI a] (ct_X10_isDay (T := T)) cl_X10_140 (qd_c (by decide +kernel)) (nn_ _) rfl (rf_of rfl) (Nat.le_of_ble_eq_true rfl) (Nat.le_of_ble_eq_true rfl) (Nat.le_of_ble_eq_true rfl) rfl ?_
      rintro _ _ ⟨rfl, x5, rfl, hx5⟩
      show J_ zX10_register T (po_X10_register_e T p cl a b) 0 0 23 _ [vI x5] T
      refine j_blx (F := fX10) tb_X10 (nn_ _) bk_X10_register_23 bs_X10_register_23 hz (fun K hK => ?_)
      refine And.intro (fun c6 => ?_) (fun c6 => ?_)
      · replace hx5 := hx5.resolve_left (fun z => absurd (c6.symm.trans z.1) (by decide))
        clear c6
        refine hK 40 _ [] T ?_
        refine j_blx (F := fX10) tb_X10 (nn_ _) bk_X10_register_40 bs_X10_register_40 hz (fun K hK => ?_)
        refine (show po_X10_register_e T p cl a b T (some (vI (-3))) from ?_)
        exact ⟨_, rfl, fr_0 _ _, Or.inr (Or.inl ⟨rfl, by omega, by omega, rfl⟩)⟩
      · replace hx5 := hx5.resolve_right (fun z => c6 z.1)
        clear c6
        refine hK 28 _ [vI b] T ?_
        refine j_callS (y := yX10_isDay) (Yc := zX10_isDay) (rest := []) [vI b] (ct_X10_isDay (T := T)) cl_X10_140 (qd_c (by decide +kernel)) (nn_ _) rfl (rf_of rfl) (Nat.le_of_ble_eq_true rfl) (Nat.le_of_ble_eq_true rfl) (Nat.le_of_ble_eq_true rfl) rfl ?_
        rintro _ _ ⟨rfl, x7, rfl, hx7⟩
        show J_ zX10_register T (po_X10_register_e T p cl a b) 0 0 31 _ [vI x7] T
        refine j_blx (F := fX10) tb_X10 (nn_ _) bk_X10_register_31 bs_X10_register_31 hz (fun K hK => ?_)
        refine And.intro (fun c8 => ?_) (fun c8 => ?_)
        · replace hx7 := hx7.resolve_left (fun z => absurd (c8.symm.trans z.1) (by decide))
          clear c8
          refine hK 40 _ [] T ?_
          refine j_blx (F := fX10) tb_X10 (nn_ _) bk_X10_register_40 bs_X10_register_40 hz (fun K hK => ?_)
          refine (show po_X10_register_e T p cl a b T (some (vI (-3))) from ?_)
          exact ⟨_, rfl, fr_0 _ _, Or.inr (Or.inl ⟨rfl, by omega, by omega, rfl⟩)⟩
        · replace hx7 := hx7.resolve_right (fun z => c8 z.1)
          clear c8
          refine And.intro (fun c9 => ?_) (fun c9 => ?_)
          · refine hK 43 _ [] T ?_
            refine j_blx (F := fX10) tb_X10 (nn_ _) bk_X10_register_43 bs_X10_register_43 hz (fun K hK => ?_)
            refine hK 51 _ [vI b, vI a, vI p, vR 108 0] T ?_
            refine j_callV (y := yX8_isRegisteredWithin) (Yc := zX8_isRegisteredWithin) (rest := []) [vI p, vI a, vI b] (ct_X8_isRegisteredWithin_e (T := T) (by omega) (by omega) (hsp)) cl_X10_143 (qd_c (by decide +kernel)) (nn_ _) rfl (rf_of rfl) (Nat.le_of_ble_eq_true rfl) (Nat.le_of_ble_eq_true rfl) (Nat.le_of_ble_eq_true rfl) rfl ?_
            rintro _ _ ⟨rfl, x10, rfl, hx10⟩
            show J_ zX10_register T (po_X10_register_e T p cl a b) 0 0 54 _ [vI x10] T
            have hreg := hx10
            refine j_blx (F := fX10) tb_X10 (nn_ _) bk_X10_register_54 bs_X10_register_54 hz (fun K hK => ?_)
            refine And.intro (fun c11 => ?_) (fun c11 => ?_)
            · refine hK 60 _ [] T ?_
              refine j_blx (F := fX10) tb_X10 (nn_ _) bk_X10_register_60 bs_X10_register_60 hz (fun K hK => ?_)
              intro b12 b12b
              refine And.intro (fun c13 => ?_) (fun c13 => ?_)
              · refine hK 76 _ [] T ?_
                refine j_blx (F := fX10) tb_X10 (nn_ _) bk_X10_register_76 bs_X10_register_76 hz (fun K hK => ?_)
                refine hK 85 _ [vI b, vI a, vI cl, vI p, vR 108 0] T ?_
                refine j_callV (y := yX8_addSpan) (Yc := zX8_addSpan) (rest := []) [vI p, vI cl, vI a, vI b] (ct_X8_addSpan_e (T := T) (by omega) (by omega) (by omega) (by omega) (by omega)) cl_X10_150 (qd_c (by decide +kernel)) (nn_ _) rfl (rf_of rfl) (Nat.le_of_ble_eq_true rfl) (Nat.le_of_ble_eq_true rfl) (Nat.le_of_ble_eq_true rfl) rfl ?_
                rintro U14 _ ⟨rfl, fU14, qU14⟩
                show J_ zX10_register T (po_X10_register_e T p cl a b) 0 0 88 _ [] U14
                refine j_blx (F := fX10) tb_X10 (nn_ _) bk_X10_register_88 bs_X10_register_88 hz (fun K hK => ?_)
                intro b15 b15b
                refine (show po_X10_register_e T p cl a b U14 (some (vI (U14 108 0 5))) from ?_)
                exact ⟨_, rfl, fr_t (fr_0 _ _) (fr_s fU14 rfl), Or.inr (Or.inr (Or.inr (Or.inr ⟨qU14.1, by omega, by omega, (hreg.elim (fun h => absurd h.1 (by omega)) (fun h => h.2)), by omega, qU14⟩)))⟩
              · refine (show po_X10_register_e T p cl a b T (some (vI (-5))) from ?_)
                exact ⟨_, rfl, fr_0 _ _, Or.inr (Or.inr (Or.inr (Or.inl ⟨rfl, by omega, by omega, (hreg.elim (fun h => absurd h.1 (by omega)) (fun h => h.2)), by omega, rfl⟩)))⟩
            · refine (show po_X10_register_e T p cl a b T (some (vI (-4))) from ?_)
              exact ⟨_, rfl, fr_0 _ _, Or.inr (Or.inr (Or.inl ⟨rfl, by omega, by omega, (hreg.elim (fun h => h.2) (fun h => absurd h.1 (by omega))), rfl⟩))⟩
          · refine (show po_X10_register_e T p cl a b T (some (vI (-3))) from ?_)
            exact ⟨_, rfl, fr_0 _ _, Or.inr (Or.inl ⟨rfl, by omega, by omega, rfl⟩)⟩
    · replace hx3 := hx3.resolve_left (fun z => absurd (c4.symm.trans z.1) (by decide))
      clear c4
      refine (show po_X10_register_e T p cl a b T (some (vI (-2))) from ?_)
      exact ⟨_, rfl, fr_0 _ _, Or.inl ⟨rfl, by omega, rfl⟩⟩
abbrev po_X10_person_e (T : Zt) : Zt → Option Zv → Prop := fun T' r => ∃ x : Int, r = some (vI x) ∧ fr_ [(108, [3]), (564, [])] T T' ∧ (QP_ T T' x)
set_option maxHeartbeats 4000000 in
theorem ct_X10_person_e {T : Zt} : Ct_ yX10_person zX10_person T [vR 110 0] (po_X10_person_e T) := by
  refine ct_of pn_10 rfl rfl (Nat.le_of_ble_eq_true rfl) (fun hT hav => ?_)
  have hz : zX10_person.2.2.2.1 = some .boolean → ∀ (T' : Zt) (x : Int), po_X10_person_e T T' (some (vI x)) → 0 ≤ x ∧ x ≤ 1 := fun h => by cases h
  have hb_persons : 0 ≤ T 108 0 3 ∧ T 108 0 3 ≤ 200 := bd_f hT 108 3 tl_8_3 0
  show J_ zX10_person T (po_X10_person_e T) 0 0 0 [some (vR 110 0), none] [] T
  refine j_blx (F := fX10) tb_X10 (nn_ _) bk_X10_person_0 bs_X10_person_0 hz (fun K hK => ?_)
  intro b1 b1b
  refine And.intro (fun c2 => ?_) (fun c2 => ?_)
  · refine hK 16 _ [] T ?_
    refine j_blx (F := fX10) tb_X10 (nn_ _) bk_X10_person_16 bs_X10_person_16 hz (fun K hK => ?_)
    intro b3 b3b
    refine iy_i (by omega) (by omega) ?_
    refine x_nm (fun U4 hU4 => ?_)
    have e5 := up_f hU4
    intro b6 b6b
    have e7 : U4 108 0 3 = T 108 0 3 := up_k hU4 (by exact Nat.ne_of_beq_eq_false rfl) 0 3
    rw [e7] at b6 b6b ⊢
    refine rg_i (by omega) ?_
    refine bd_i (by omega) ?_
    refine x_nm (fun U8 hU8 => ?_)
    have e9 := up_f hU8
    refine (show po_X10_person_e T U8 (some (vI (T 108 0 3))) from ?_)
    exact ⟨_, rfl, fr_u (fr_u (fr_0 _ _) hU4 rfl) hU8 rfl, by rw [hU8, hU4]; exact qp_e (by omega)⟩
  · refine (show po_X10_person_e T T (some (vI (-5))) from ?_)
    exact ⟨_, rfl, fr_0 _ _, Or.inl ⟨by omega, rfl, rfl⟩⟩
abbrev po_X11_register_e (T : Zt) (p c f t : Int) : Zt → Option Zv → Prop := fun T' r => ∃ x : Int, r = some (vI x) ∧ fr_ [(111, [16]), (217, []), (218, []), (219, []), (220, [])] T T' ∧ (QM_ T T' p c f t x)
set_option maxHeartbeats 4000000 in
theorem ct_X11_register_e {T : Zt} {p c f t : Int} : Ct_ yX11_register zX11_register T [vR 111 0, vI p, vI c, vI f, vI t] (po_X11_register_e T p c f t) := by
  refine ct_of pn_11 rfl rfl (Nat.le_of_ble_eq_true rfl) (fun hT hav => ?_)
  have hr_p : -2147483648 ≤ p ∧ p ≤ 2147483647 := hav (vI p) (List.mem_cons_of_mem _ List.mem_cons_self)
  have hr_c : -2147483648 ≤ c ∧ c ≤ 2147483647 := hav (vI c) (List.mem_cons_of_mem _ (List.mem_cons_of_mem _ List.mem_cons_self))
  have hr_f : -2147483648 ≤ f ∧ f ≤ 2147483647 := hav (vI f) (List.mem_cons_of_mem _ (List.mem_cons_of_mem _ (List.mem_cons_of_mem _ List.mem_cons_self)))
  have hr_t : -2147483648 ≤ t ∧ t ≤ 2147483647 := hav (vI t) (List.mem_cons_of_mem _ (List.mem_cons_of_mem _ (List.mem_cons_of_mem _ (List.mem_cons_of_mem _ List.mem_cons_self))))
  have hz : zX11_register.2.2.2.1 = some .boolean → ∀ (T' : Zt) (x : Int), po_X11_register_e T p c f t T' (some (vI x)) → 0 ≤ x ∧ x ≤ 1 := fun h => by cases h
  have hb_16 : 0 ≤ T 111 0 16 ∧ T 111 0 16 ≤ 300 := bd_f hT 111 16 tl_11_16 0
  have hb_15 : 0 ≤ T 111 0 15 ∧ T 111 0 15 ≤ 200 := bd_f hT 111 15 tl_11_15 0
  have hb_12 : 0 ≤ T 111 0 12 ∧ T 111 0 12 ≤ 12 := bd_f hT 111 12 tl_11_12 0
  show J_ zX11_register T (po_X11_register_e T p c f t) 0 0 0 [some (vR 111 0), some (vI p), some (vI c), some (vI f), some (vI t), none] [] T
  have c_60 : ∀ (nn : Nat) (s : Int), ((300 - s).toNat) ≤ nn → (0 ≤ s) → (OKP_ p c (T 111 0 15) (T 111 0 12) ∧ OKD_ f t) → (FSR_ T p f t s) → J_ zX11_register T (po_X11_register_e T p c f t) 0 0 60 [some (vR 111 0), some (vI p), some (vI c), some (vI f), some (vI t), some (vI s)] [] T := by
    intro nn
    induction nn using Nat.strongRecOn with
    | _ nn ih_60 =>
      intro s hm_60 i1 i2 i3
      replace hm_60 := fun (_ : Unit) => hm_60
      refine j_blx (F := fX11) tb_X11 (nn_ _) bk_X11_register_60 bs_X11_register_60 hz (fun K hK => ?_)
      intro b1 b1b
      refine And.intro (fun c2 => ?_) (fun c2 => ?_)
      · refine hK 112 _ [] T ?_
        refine j_blx (F := fX11) tb_X11 (nn_ _) bk_X11_register_112 bs_X11_register_112 hz (fun K hK => ?_)
        intro b3 b3b
        refine And.intro (fun c4 => ?_) (fun c4 => ?_)
        · refine hK 125 _ [] T ?_
          refine j_blx (F := fX11) tb_X11 (nn_ _) bk_X11_register_125 bs_X11_register_125 hz (fun K hK => ?_)
          intro b5 b5b
          refine iy_i (by omega) (by omega) ?_
          refine x_nm (fun U6 hU6 => ?_)
          have e7 := up_f hU6
          intro b8 b8b
          have e9 : U6 111 0 16 = T 111 0 16 := up_k hU6 (by exact Nat.ne_of_beq_eq_false rfl) 0 16
          rw [e9] at b8 b8b ⊢
          refine iy_i (by omega) (by omega) ?_
          refine x_nm (fun U10 hU10 => ?_)
          have e11 := up_f hU10
          intro b12 b12b
          have e13 : U10 111 0 16 = T 111 0 16 := (up_k hU10 (by exact Nat.ne_of_beq_eq_false rfl) 0 16).trans (up_k hU6 (by exact Nat.ne_of_beq_eq_false rfl) 0 16)
          rw [e13] at b12 b12b ⊢
          refine iy_i (by omega) (by omega) ?_
          refine x_nm (fun U14 hU14 => ?_)
          have e15 := up_f hU14
          intro b16 b16b
          have e17 : U14 111 0 16 = T 111 0 16 := (up_k hU14 (by exact Nat.ne_of_beq_eq_false rfl) 0 16).trans ((up_k hU10 (by exact Nat.ne_of_beq_eq_false rfl) 0 16).trans (up_k hU6 (by exact Nat.ne_of_beq_eq_false rfl) 0 16))
          rw [e17] at b16 b16b ⊢
          refine iy_i (by omega) (by omega) ?_
          refine x_nm (fun U18 hU18 => ?_)
          have e19 := up_f hU18
          intro b20 b20b
          have e21 : U18 111 0 16 = T 111 0 16 := (up_k hU18 (by exact Nat.ne_of_beq_eq_false rfl) 0 16).trans ((up_k hU14 (by exact Nat.ne_of_beq_eq_false rfl) 0 16).trans ((up_k hU10 (by exact Nat.ne_of_beq_eq_false rfl) 0 16).trans (up_k hU6 (by exact Nat.ne_of_beq_eq_false rfl) 0 16)))
          rw [e21] at b20 b20b ⊢
          refine rg_i (by omega) ?_
          refine bd_i (by omega) ?_
          refine x_nm (fun U22 hU22 => ?_)
          have e23 := up_f hU22
          intro b24 b24b
          have e25 : U22 111 0 16 = (T 111 0 16) + 1 := up_f hU22
          rw [e25] at b24 b24b ⊢
          refine (show po_X11_register_e T p c f t U22 (some (vI ((T 111 0 16) + 1))) from ?_)
          exact ⟨_, rfl, fr_u (fr_u (fr_u (fr_u (fr_u (fr_0 _ _) hU6 rfl) hU10 rfl) hU14 rfl) hU18 rfl) hU22 rfl, Or.inr (Or.inr (Or.inr (Or.inr ⟨by omega, by omega, by omega, fsr_m i3 (by omega), by omega, by rw [hU22, hU18, hU14, hU10, hU6]; exact am_e⟩)))⟩
        · refine (show po_X11_register_e T p c f t T (some (vI (-5))) from ?_)
          exact ⟨_, rfl, fr_0 _ _, Or.inr (Or.inr (Or.inr (Or.inl ⟨rfl, by omega, by omega, fsr_m i3 (by omega), by omega, rfl⟩)))⟩
      · refine ix_i (by omega) ?_
        intro b26 b26b
        refine And.intro (fun c27 => ?_) (fun c27 => ?_)
        · refine hK 106 _ [] T ?_
          refine j_blx (F := fX11) tb_X11 (nn_ _) bk_X11_register_106 bs_X11_register_106 hz (fun K hK => ?_)
          refine rg_i (by omega) ?_
          refine hK 60 [some (vR 111 0), some (vI p), some (vI c), some (vI f), some (vI t), some (vI (s + 1))] [] T ?_
          refine ih_60 _ ?_ (s + 1) (Nat.le_refl _) ?_ ?_ ?_
          · have hm_60 := hm_60 (); omega
          · omega
          · omega
          · exact fsr_s i3 (by omega)
        · refine ix_i (by omega) ?_
          intro b28 b28b
          refine And.intro (fun c29 => ?_) (fun c29 => ?_)
          · refine hK 106 [some (vR 111 0), some (vI p), some (vI c), some (vI f), some (vI t), some (vI s)] [] T ?_
            refine j_blx (F := fX11) tb_X11 (nn_ _) bk_X11_register_106 bs_X11_register_106 hz (fun K hK => ?_)
            refine rg_i (by omega) ?_
            refine hK 60 [some (vR 111 0), some (vI p), some (vI c), some (vI f), some (vI t), some (vI (s + 1))] [] T ?_
            refine ih_60 _ ?_ (s + 1) (Nat.le_refl _) ?_ ?_ ?_
            · have hm_60 := hm_60 (); omega
            · omega
            · omega
            · exact fsr_s i3 (by omega)
          · refine ix_i (by omega) ?_
            intro b30 b30b
            refine And.intro (fun c31 => ?_) (fun c31 => ?_)
            · refine hK 106 [some (vR 111 0), some (vI p), some (vI c), some (vI f), some (vI t), some (vI s)] [] T ?_
              refine j_blx (F := fX11) tb_X11 (nn_ _) bk_X11_register_106 bs_X11_register_106 hz (fun K hK => ?_)
              refine rg_i (by omega) ?_
              refine hK 60 [some (vR 111 0), some (vI p), some (vI c), some (vI f), some (vI t), some (vI (s + 1))] [] T ?_
              refine ih_60 _ ?_ (s + 1) (Nat.le_refl _) ?_ ?_ ?_
              · have hm_60 := hm_60 (); omega
              · omega
              · omega
              · exact fsr_s i3 (by omega)
            · refine (show po_X11_register_e T p c f t T (some (vI (-4))) from ?_)
              exact ⟨_, rfl, fr_0 _ _, Or.inr (Or.inr (Or.inl ⟨rfl, by omega, by omega, fsr_w (s := s) (by omega) (by omega) (by omega) (by omega) (by omega), rfl⟩))⟩
  refine j_blx (F := fX11) tb_X11 (nn_ _) bk_X11_register_0 bs_X11_register_0 hz (fun K hK => ?_)
  intro b32 b32b
  refine hK 5 _ [vI (T 111 0 15), vI p] T ?_
  refine j_callS (y := yX11_isOf) (Yc := zX11_isOf) (rest := []) [vI p, vI (T 111 0 15)] (ct_X11_isOf (T := T) (by omega)) cl_X11_317 (qd_c (by decide +kernel)) (nn_ _) rfl (rf_of rfl) (Nat.le_of_ble_eq_true rfl) (Nat.le_of_ble_eq_true rfl) (Nat.le_of_ble_eq_true rfl) rfl ?_
  rintro _ _ ⟨rfl, x33, rfl, hx33⟩
  show J_ zX11_register T (po_X11_register_e T p c f t) 0 0 8 _ [vI x33] T
  refine j_blx (F := fX11) tb_X11 (nn_ _) bk_X11_register_8 bs_X11_register_8 hz (fun K hK => ?_)
  refine And.intro (fun c34 => ?_) (fun c34 => ?_)
  · replace hx33 := hx33.resolve_left (fun z => absurd (c34.symm.trans z.1) (by decide))
    clear c34
    refine hK 22 _ [] T ?_
    refine j_blx (F := fX11) tb_X11 (nn_ _) bk_X11_register_22 bs_X11_register_22 hz (fun K hK => ?_)
    refine (show po_X11_register_e T p c f t T (some (vI (-2))) from ?_)
    exact ⟨_, rfl, fr_0 _ _, Or.inl ⟨rfl, by omega, rfl⟩⟩
  · replace hx33 := hx33.resolve_right (fun z => c34 z.1)
    clear c34
    intro b35 b35b
    refine hK 16 _ [vI (T 111 0 12), vI c] T ?_
    refine j_callS (y := yX11_isOf) (Yc := zX11_isOf) (rest := []) [vI c, vI (T 111 0 12)] (ct_X11_isOf (T := T) (by omega)) cl_X11_317 (qd_c (by decide +kernel)) (nn_ _) rfl (rf_of rfl) (Nat.le_of_ble_eq_true rfl) (Nat.le_of_ble_eq_true rfl) (Nat.le_of_ble_eq_true rfl) rfl ?_
    rintro _ _ ⟨rfl, x36, rfl, hx36⟩
    show J_ zX11_register T (po_X11_register_e T p c f t) 0 0 19 _ [vI x36] T
    refine j_blx (F := fX11) tb_X11 (nn_ _) bk_X11_register_19 bs_X11_register_19 hz (fun K hK => ?_)
    refine And.intro (fun c37 => ?_) (fun c37 => ?_)
    · replace hx36 := hx36.resolve_right (fun z => c37 z.1)
      clear c37
      refine hK 25 _ [] T ?_
      refine j_blx (F := fX11) tb_X11 (nn_ _) bk_X11_register_25 bs_X11_register_25 hz (fun K hK => ?_)
      refine hK 30 _ [vI 999, vI 0, vI f] T ?_
      refine j_callS (y := yX11_in) (Yc := zX11_in) (rest := []) [vI f, vI 0, vI 999] (ct_X11_in (T := T)) cl_X11_255 (qd_c (by decide +kernel)) (nn_ _) rfl (rf_of rfl) (Nat.le_of_ble_eq_true rfl) (Nat.le_of_ble_eq_true rfl) (Nat.le_of_ble_eq_true rfl) rfl ?_
      rintro _ _ ⟨rfl, x38, rfl, hx38⟩
      show J_ zX11_register T (po_X11_register_e T p c f t) 0 0 33 _ [vI x38] T
      refine j_blx (F := fX11) tb_X11 (nn_ _) bk_X11_register_33 bs_X11_register_33 hz (fun K hK => ?_)
      refine And.intro (fun c39 => ?_) (fun c39 => ?_)
      · replace hx38 := hx38.resolve_left (fun z => absurd (c39.symm.trans z.1) (by decide))
        clear c39
        refine hK 54 _ [] T ?_
        refine j_blx (F := fX11) tb_X11 (nn_ _) bk_X11_register_54 bs_X11_register_54 hz (fun K hK => ?_)
        refine (show po_X11_register_e T p c f t T (some (vI (-3))) from ?_)
        exact ⟨_, rfl, fr_0 _ _, Or.inr (Or.inl ⟨rfl, by omega, by omega, rfl⟩)⟩
      · replace hx38 := hx38.resolve_right (fun z => c39 z.1)
        clear c39
        refine hK 42 _ [vI 999, vI 0, vI t] T ?_
        refine j_callS (y := yX11_in) (Yc := zX11_in) (rest := []) [vI t, vI 0, vI 999] (ct_X11_in (T := T)) cl_X11_255 (qd_c (by decide +kernel)) (nn_ _) rfl (rf_of rfl) (Nat.le_of_ble_eq_true rfl) (Nat.le_of_ble_eq_true rfl) (Nat.le_of_ble_eq_true rfl) rfl ?_
        rintro _ _ ⟨rfl, x40, rfl, hx40⟩
        show J_ zX11_register T (po_X11_register_e T p c f t) 0 0 45 _ [vI x40] T
        refine j_blx (F := fX11) tb_X11 (nn_ _) bk_X11_register_45 bs_X11_register_45 hz (fun K hK => ?_)
        refine And.intro (fun c41 => ?_) (fun c41 => ?_)
        · replace hx40 := hx40.resolve_left (fun z => absurd (c41.symm.trans z.1) (by decide))
          clear c41
          refine hK 54 _ [] T ?_
          refine j_blx (F := fX11) tb_X11 (nn_ _) bk_X11_register_54 bs_X11_register_54 hz (fun K hK => ?_)
          refine (show po_X11_register_e T p c f t T (some (vI (-3))) from ?_)
          exact ⟨_, rfl, fr_0 _ _, Or.inr (Or.inl ⟨rfl, by omega, by omega, rfl⟩)⟩
        · replace hx40 := hx40.resolve_right (fun z => c41 z.1)
          clear c41
          refine And.intro (fun c42 => ?_) (fun c42 => ?_)
          · refine hK 57 _ [] T ?_
            refine j_blx (F := fX11) tb_X11 (nn_ _) bk_X11_register_57 bs_X11_register_57 hz (fun K hK => ?_)
            refine hK 60 [some (vR 111 0), some (vI p), some (vI c), some (vI f), some (vI t), some (vI 0)] [] T ?_
            refine c_60 _ 0 (Nat.le_refl _) ?_ ?_ ?_
            · omega
            · omega
            · exact fun j a b => by omega
          · refine (show po_X11_register_e T p c f t T (some (vI (-3))) from ?_)
            exact ⟨_, rfl, fr_0 _ _, Or.inr (Or.inl ⟨rfl, by omega, by omega, rfl⟩)⟩
    · replace hx36 := hx36.resolve_left (fun z => absurd (c37.symm.trans z.1) (by decide))
      clear c37
      refine (show po_X11_register_e T p c f t T (some (vI (-2))) from ?_)
      exact ⟨_, rfl, fr_0 _ _, Or.inl ⟨rfl, by omega, rfl⟩⟩
-- spans: what keeps them alike
def krc_ (T T' : Zt) : Prop := T' 108 0 5 = T 108 0 5 ∧ (∀ j, T' 566 0 j = T 566 0 j) ∧ (∀ j, T' 567 0 j = T 567 0 j) ∧ (∀ j, T' 568 0 j = T 568 0 j) ∧ (∀ j, T' 569 0 j = T 569 0 j)
def kfs_ (T T' : Zt) : Prop := ∀ j, T' 564 0 j = T 564 0 j
def krm_ (T T' : Zt) : Prop := T' 111 0 16 = T 111 0 16 ∧ (∀ j, T' 217 0 j = T 217 0 j) ∧ (∀ j, T' 218 0 j = T 218 0 j) ∧ (∀ j, T' 219 0 j = T 219 0 j) ∧ (∀ j, T' 220 0 j = T 220 0 j)
theorem lpz_c {T T' : Zt} {p m v : Int} (h : lpz_ T p m v) (e : ∀ j, 0 ≤ j → j < m → T' 217 0 j = T 217 0 j) : lpz_ T' p m v := by
  rcases h with ⟨h1, h2⟩ | ⟨h1, h2, h3, h4⟩
  · exact Or.inl ⟨h1, fun j a b => by rw [e j a b]; exact h2 j a b⟩
  · exact Or.inr ⟨h1, h2, by rw [e v h1 h2]; exact h3, fun j a b => by rw [e j (by omega) b]; exact h4 j a b⟩
theorem spr_k {T T' : Zt} (h : SPR_ T) (e : T' 108 0 3 = T 108 0 3) (k : krc_ T T') (f : kfs_ T T') (m : krm_ T T') : SPR_ T' := by
  obtain ⟨h1, h2, h3, h4, h5⟩ := h
  obtain ⟨c0, c1, c2, c3, c4⟩ := k
  obtain ⟨m0, m1, m2, m3, m4⟩ := m
  refine ⟨by omega, fun s a b => ?_, fun p a b => ?_, fun s a b => ?_, fun s a b => ?_⟩
  · rw [c1, c2, c3, m2, m3, m4]
    exact h2 s a (by omega)
  · rw [c0, f p]
    exact lpz_c (h3 p a (by omega)) (fun j _ _ => m1 j)
  · rw [m1 s, c4 s]
    exact lpz_c (h4 s a (by omega)) (fun j _ _ => m1 j)
  · rw [m1 s, e]
    exact h5 s a (by omega)
/-- a person more on the house's side, then on the reference's -/
theorem spr_p {T T1 T2 : Zt} {x : Int} (h : SPR_ T) (q : QP_ T T1 x) (k : krc_ T T1) (m : krm_ T T1) (e2 : T2 108 0 3 = T1 108 0 3) (k2 : krc_ T1 T2) (f2 : kfs_ T1 T2) (m2 : krm_ T1 T2) : SPR_ T2 := by
  refine spr_k (T := T1) ?_ e2 k2 f2 m2
  rcases q with ⟨-, -, rfl⟩ | ⟨q1, q2, q3, q4, q5⟩
  · exact h
  · obtain ⟨h1, h2, h3, h4, h5⟩ := h
    obtain ⟨c0, c1, c2, c3, c4⟩ := k
    obtain ⟨n0, n1, n2, n3, n4⟩ := m
    refine ⟨by omega, fun s a b => ?_, fun p a b => ?_, fun s a b => ?_, fun s a b => ?_⟩
    · rw [c1, c2, c3, n2, n3, n4]
      exact h2 s a (by omega)
    · by_cases ep : p = T 108 0 3
      · subst ep
        rw [q4]
        refine Or.inl ⟨rfl, fun j u v => ?_⟩
        rw [n1 j]
        have := (h5 j u (by omega)).2
        omega
      · rw [c0, q5 p ep]
        exact lpz_c (h3 p a (by omega)) (fun j _ _ => n1 j)
    · rw [n1 s, c4 s]
      exact lpz_c (h4 s a (by omega)) (fun j _ _ => n1 j)
    · rw [n1 s, q3]
      have := h5 s a (by omega)
      omega
/-- a span more on both sides -/
theorem spr_a {T T1 T2 : Zt} {p cl a b : Int} (h : SPR_ T) (hp : 0 ≤ p ∧ p < T 108 0 3) (hn : 0 ≤ T 108 0 5) (A : AS_ T T1 p cl a b) (m : krm_ T T1) (e1 : T1 108 0 3 = T 108 0 3) (B : AM_ T1 T2 p cl a b) (k : krc_ T1 T2) (f : kfs_ T1 T2) (e2 : T2 108 0 3 = T1 108 0 3) : SPR_ T2 := by
  obtain ⟨h1, h2, h3, h4, h5⟩ := h
  obtain ⟨a0, ⟨a1, a2, a3, a4, a5⟩, a6, a7⟩ := A
  obtain ⟨m0, m1, m2, m3, m4⟩ := m
  obtain ⟨c0, c1, c2, c3, c4⟩ := k
  obtain ⟨b0, ⟨b1, b2, b3, b4⟩, b5⟩ := B
  have en : T1 111 0 16 = T 108 0 5 := by omega
  rw [en] at b0 b1 b2 b3 b4 b5
  have r1 : ∀ j, j ≠ T 108 0 5 → T2 217 0 j = T 217 0 j := fun j hj => ((b5 j hj).1).trans (m1 j)
  have lo : ∀ s, s < T 108 0 5 → s ≠ T 108 0 5 := fun s hs => by omega
  refine ⟨by omega, fun s u v => ?_, fun q u v => ?_, fun s u v => ?_, fun s u v => ?_⟩
  · by_cases es : s = T 108 0 5
    · subst es
      rw [c1, c2, c3, a1, a2, a3, b2, b3, b4]
      exact ⟨rfl, rfl, rfl⟩
    · obtain ⟨g1, g2, g3, -⟩ := a6 s es
      obtain ⟨-, g5, g6, g7⟩ := b5 s es
      rw [c1, c2, c3, g1, g2, g3, g5, g6, g7, m2, m3, m4]
      exact h2 s u (by omega)
  · rw [c0, a0, f q]
    by_cases eq : q = p
    · subst eq
      rw [a5]
      exact Or.inr ⟨hn, by omega, b1, fun j x y => by omega⟩
    · rw [a7 q eq]
      rcases h3 q u (by omega) with ⟨g1, g2⟩ | ⟨g1, g2, g3, g4⟩
      · refine Or.inl ⟨g1, fun j x y => ?_⟩
        by_cases ej : j = T 108 0 5
        · rw [ej, b1]
          exact fun z => eq z.symm
        · rw [r1 j ej]
          exact g2 j x (by omega)
      · refine Or.inr ⟨g1, by omega, by rw [r1 _ (lo _ g2)]; exact g3, fun j x y => ?_⟩
        by_cases ej : j = T 108 0 5
        · rw [ej, b1]
          exact fun z => eq z.symm
        · rw [r1 j ej]
          exact g4 j x (by omega)
  · by_cases es : s = T 108 0 5
    · subst es
      rw [b1, c4, a4]
      exact lpz_c (h3 p hp.1 hp.2) (fun j _ y => r1 j (lo j y))
    · rw [r1 s es, c4 s, (a6 s es).2.2.2]
      exact lpz_c (h4 s u (by omega)) (fun j _ y => r1 j (by omega))
  · by_cases es : s = T 108 0 5
    · subst es
      rw [b1]
      omega
    · rw [r1 s es]
      have := h5 s u (by omega)
      omega
/-- register on both sides: the same answer, and the spans stay alike -/
theorem spr_r {T T1 T2 : Zt} {p cl a b x1 x2 : Int} (h : SPR_ T) (hn : 0 ≤ T 108 0 5) (ep : T 108 0 3 = T 111 0 15) (ec : T 108 0 2 = T 111 0 12) (A : QR_ T T1 p cl a b x1) (m : krm_ T T1) (e1 : T1 108 0 3 = T 108 0 3) (e3 : T1 111 0 15 = T 111 0 15) (e4 : T1 111 0 12 = T 111 0 12) (B : QM_ T1 T2 p cl a b x2) (k : krc_ T1 T2) (f : kfs_ T1 T2) (e2 : T2 108 0 3 = T1 108 0 3) : x1 = x2 ∧ SPR_ T2 := by
  have hf := fs_eq (p := p) (a := a) (b := b) h
  have hm : FSR_ T1 p a b (T1 111 0 16) ↔ FSR_ T p a b (T 111 0 16) := by
    obtain ⟨m0, m1, m2, m3, m4⟩ := m
    unfold FSR_
    rw [m0]
    simp only [m1, m3, m4]
  have es := h.1
  have em := m.1
  have keepB : T1 = T → (x2 = -2 ∨ x2 = -3 ∨ x2 = -4 ∨ x2 = -5) → T2 = T1 → SPR_ T2 := fun z _ y => by
    rw [y, z]
    exact h
  rcases A with ⟨A1, A2, rfl⟩ | ⟨A1, A2, A3, rfl⟩ | ⟨A1, A2, A3, A4, rfl⟩ | ⟨A1, A2, A3, A4, A5, rfl⟩ | ⟨A1, A2, A3, A4, A5, A6⟩
  · rcases B with ⟨B1, B2, B3⟩ | ⟨B1, B2, B3⟩ | ⟨B1, B2, B3⟩ | ⟨B1, B2, B3⟩ | ⟨B1, B2, B3⟩
    · exact ⟨by omega, by rw [B3]; exact h⟩
    all_goals exact absurd (show OKP_ p cl (T1 108 0 3) (T1 108 0 2) by rw [ep, ec]; exact B2) A2
  · rcases B with ⟨B1, B2, B3⟩ | ⟨B1, B2, B3, B4⟩ | ⟨B1, B2, B3, B4⟩ | ⟨B1, B2, B3, B4⟩ | ⟨B1, B2, B3, B4⟩
    · exact absurd (show OKP_ p cl (T1 111 0 15) (T1 111 0 12) by rw [← ep, ← ec]; exact A2) B2
    · exact ⟨by omega, by rw [B4]; exact h⟩
    all_goals exact absurd B3 A3
  · rcases B with ⟨B1, B2, B3⟩ | ⟨B1, B2, B3, B4⟩ | ⟨B1, B2, B3, B4, B5⟩ | ⟨B1, B2, B3, B4, B5⟩ | ⟨B1, B2, B3, B4, B5⟩
    · exact absurd (show OKP_ p cl (T1 111 0 15) (T1 111 0 12) by rw [← ep, ← ec]; exact A2) B2
    · exact absurd A3 B3
    · exact ⟨by omega, by rw [B5]; exact h⟩
    all_goals exact absurd (hf.mpr B4) A4
  · rcases B with ⟨B1, B2, B3⟩ | ⟨B1, B2, B3, B4⟩ | ⟨B1, B2, B3, B4, B5⟩ | ⟨B1, B2, B3, B4, B5, B6⟩ | ⟨B1, B2, B3, B4, B5, B6⟩
    · exact absurd (show OKP_ p cl (T1 111 0 15) (T1 111 0 12) by rw [← ep, ← ec]; exact A2) B2
    · exact absurd A3 B3
    · exact absurd (hf.mp A4) B4
    · exact ⟨by omega, by rw [B6]; exact h⟩
    · omega
  · have q1 : OKP_ p cl (T1 111 0 15) (T1 111 0 12) := by
      rw [e3, e4, ← ep, ← ec]
      exact A2
    rcases B with ⟨B1, B2, B3⟩ | ⟨B1, B2, B3, B4⟩ | ⟨B1, B2, B3, B4, B5⟩ | ⟨B1, B2, B3, B4, B5, B6⟩ | ⟨B1, B2, B3, B4, B5, B6⟩
    · exact absurd q1 B2
    · exact absurd A3 B3
    · exact absurd (hm.mpr (hf.mp A4)) B4
    · omega
    · exact ⟨by omega, spr_a h ⟨A2.1, A2.2.1⟩ hn A6 m e1 B6 k f e2⟩
-- the tokens of a text
abbrev lt9_ (c : Int) : Prop := 97 ≤ c ∧ c ≤ 122
abbrev dg9_ (c : Int) : Prop := 48 ≤ c ∧ c ≤ 57
def BP9_ (b : Int → Int) (a s : Int) : Prop := ∀ i, a ≤ i → i < s → b i = 10 ∨ b i = 32
def RP9_ (b : Int → Int) (lo hi s e : Int) : Prop := ∀ i, s ≤ i → i < e → lo ≤ b i ∧ b i ≤ hi
/-- the token behind a begins at s -/
def SK9_ (b : Int → Int) (n a s : Int) : Prop := a ≤ s ∧ s ≤ n ∧ BP9_ b a s ∧ (s < n → ¬ (b s = 10 ∨ b s = 32))
/-- from s the run of such signs ends at e -/
def RN9_ (b : Int → Int) (n lo hi s e : Int) : Prop := s ≤ e ∧ e ≤ n ∧ RP9_ b lo hi s e ∧ (e < n → ¬ (lo ≤ b e ∧ b e ≤ hi))
/-- the token behind a: from s to e, of kind k -/
def TK9_ (b : Int → Int) (n a s e k : Int) : Prop := SK9_ b n a s ∧ ((¬ s < n ∧ e = s ∧ k = 0) ∨ (s < n ∧ lt9_ (b s) ∧ RN9_ b n 97 122 s e ∧ ((e - s ≤ 12 ∧ k = 1) ∨ (12 < e - s ∧ k = 5))) ∨ (s < n ∧ dg9_ (b s) ∧ RN9_ b n 48 57 s e ∧ ((e - s ≤ 3 ∧ k = 2) ∨ (3 < e - s ∧ k = 5))) ∨ (s < n ∧ ¬ lt9_ (b s) ∧ ¬ dg9_ (b s) ∧ e = s + 1 ∧ ((b s = 59 ∧ k = 3) ∨ (b s = 44 ∧ k = 4) ∨ (b s ≠ 59 ∧ b s ≠ 44 ∧ k = 5))))
theorem bp9_z {b : Int → Int} {a : Int} : BP9_ b a a := fun i h1 h2 => by omega
theorem bp9_s {b : Int → Int} {a s : Int} (h : BP9_ b a s) (g : b s = 10 ∨ b s = 32) : BP9_ b a (s + 1) := fun i h1 h2 => by
  by_cases e : i = s
  · rw [e]
    exact g
  · exact h i h1 (by omega)
theorem rp9_z {b : Int → Int} {lo hi s : Int} : RP9_ b lo hi s s := fun i h1 h2 => by omega
theorem rp9_s {b : Int → Int} {lo hi s e : Int} (h : RP9_ b lo hi s e) (g : lo ≤ b e ∧ b e ≤ hi) : RP9_ b lo hi s (e + 1) := fun i h1 h2 => by
  by_cases z : i = e
  · rw [z]
    exact g
  · exact h i h1 (by omega)
theorem sk9_u {b : Int → Int} {n a s s' : Int} (h : SK9_ b n a s) (g : SK9_ b n a s') : s = s' := by
  obtain ⟨h1, h2, h3, h4⟩ := h
  obtain ⟨g1, g2, g3, g4⟩ := g
  rcases Int.lt_trichotomy s s' with c | c | c
  · exact absurd (g3 s h1 c) (h4 (by omega))
  · exact c
  · exact absurd (h3 s' g1 c) (g4 (by omega))
theorem rn9_u {b : Int → Int} {n lo hi s e e' : Int} (h : RN9_ b n lo hi s e) (g : RN9_ b n lo hi s e') : e = e' := by
  obtain ⟨h1, h2, h3, h4⟩ := h
  obtain ⟨g1, g2, g3, g4⟩ := g
  rcases Int.lt_trichotomy e e' with c | c | c
  · exact absurd (g3 e h1 c) (h4 (by omega))
  · exact c
  · exact absurd (h3 e' g1 c) (g4 (by omega))
/-- there is but one next token -/
theorem tk9_u {b : Int → Int} {n a s e k s' e' k' : Int} (h : TK9_ b n a s e k) (g : TK9_ b n a s' e' k') : s = s' ∧ e = e' ∧ k = k' := by
  obtain ⟨h1, h2⟩ := h
  obtain ⟨g1, g2⟩ := g
  have es := sk9_u h1 g1
  subst es
  refine ⟨rfl, ?_⟩
  rcases h2 with h2 | ⟨h2, h3, h4, h5⟩ | ⟨h2, h3, h4, h5⟩ | h2 <;> rcases g2 with g2 | ⟨g2, g3, g4, g5⟩ | ⟨g2, g3, g4, g5⟩ | g2
  all_goals first
    | omega
    | (have ee := rn9_u h4 g4; omega)
theorem tk9_0 {b : Int → Int} {n a s s' e k : Int} (h : SK9_ b n a s) (e1 : s' = s) (h1 : ¬ s < n) (h2 : e = s) (h3 : k = 0) : TK9_ b n a s' e k := by
  subst e1
  exact ⟨h, Or.inl ⟨h1, h2, h3⟩⟩
theorem tk9_1 {b : Int → Int} {n a s s' e k : Int} (h : SK9_ b n a s) (e1 : s' = s) (h1 : s < n) (h2 : lt9_ (b s)) (h3 : RN9_ b n 97 122 s e) (h4 : (e - s ≤ 12 ∧ k = 1) ∨ (12 < e - s ∧ k = 5)) : TK9_ b n a s' e k := by
  subst e1
  exact ⟨h, Or.inr (Or.inl ⟨h1, h2, h3, h4⟩)⟩
theorem tk9_2 {b : Int → Int} {n a s s' e k : Int} (h : SK9_ b n a s) (e1 : s' = s) (h1 : s < n) (h2 : dg9_ (b s)) (h3 : RN9_ b n 48 57 s e) (h4 : (e - s ≤ 3 ∧ k = 2) ∨ (3 < e - s ∧ k = 5)) : TK9_ b n a s' e k := by
  subst e1
  exact ⟨h, Or.inr (Or.inr (Or.inl ⟨h1, h2, h3, h4⟩))⟩
theorem tk9_3 {b : Int → Int} {n a s s' e k : Int} (h : SK9_ b n a s) (e1 : s' = s) (h1 : s < n) (h2 : ¬ lt9_ (b s)) (h3 : ¬ dg9_ (b s)) (h4 : e = s + 1) (h5 : (b s = 59 ∧ k = 3) ∨ (b s = 44 ∧ k = 4) ∨ (b s ≠ 59 ∧ b s ≠ 44 ∧ k = 5)) : TK9_ b n a s' e k := by
  subst e1
  exact ⟨h, Or.inr (Or.inr (Or.inr ⟨h1, h2, h3, h4, h5⟩))⟩
abbrev po_X5_isBetween_e (T : Zt) (a l h : Int) : Zt → Option Zv → Prop := fun T' r => T = T' ∧ ∃ x : Int, r = some (vI x) ∧ ((x = 1 ∧ l ≤ T 500 0 a ∧ T 500 0 a ≤ h) ∨ (x = 0 ∧ ¬ (l ≤ T 500 0 a ∧ T 500 0 a ≤ h)))
set_option maxHeartbeats 4000000 in
theorem ct_X5_isBetween_e {T : Zt} {a l h : Int} (h1 : 0 ≤ a ∧ a < 400) : Ct_ yX5_isBetween zX5_isBetween T [vR 105 0, vI a, vI l, vI h] (po_X5_isBetween_e T a l h) := by
  refine ct_of pn_5 rfl rfl (Nat.le_of_ble_eq_true rfl) (fun hT hav => ?_)
  have hr_a : -2147483648 ≤ a ∧ a ≤ 2147483647 := hav (vI a) (List.mem_cons_of_mem _ List.mem_cons_self)
  have hr_l : -2147483648 ≤ l ∧ l ≤ 2147483647 := hav (vI l) (List.mem_cons_of_mem _ (List.mem_cons_of_mem _ List.mem_cons_self))
  have hr_h : -2147483648 ≤ h ∧ h ≤ 2147483647 := hav (vI h) (List.mem_cons_of_mem _ (List.mem_cons_of_mem _ (List.mem_cons_of_mem _ List.mem_cons_self)))
  have hz : zX5_isBetween.2.2.2.1 = some .boolean → ∀ (T' : Zt) (x : Int), po_X5_isBetween_e T a l h T' (some (vI x)) → 0 ≤ x ∧ x ≤ 1 := fun _ T' x h => by obtain ⟨-, y, e, hy⟩ := h; cases e; omega
  show J_ zX5_isBetween T (po_X5_isBetween_e T a l h) 0 0 0 [some (vR 105 0), some (vI a), some (vI l), some (vI h)] [] T
  refine j_blx (F := fX5) tb_X5 (nn_ _) bk_X5_isBetween_0 bs_X5_isBetween_0 hz (fun K hK => ?_)
  refine ix_i (by omega) ?_
  intro b1 b1b
  refine And.intro (fun c2 => ?_) (fun c2 => ?_)
  · refine hK 24 _ [] T ?_
    refine j_blx (F := fX5) tb_X5 (nn_ _) bk_X5_isBetween_24 bs_X5_isBetween_24 hz (fun K hK => ?_)
    refine (show po_X5_isBetween_e T a l h T (some (vI 0)) from ?_)
    exact ⟨rfl, _, rfl, Or.inr ⟨rfl, by omega⟩⟩
  · refine ix_i (by omega) ?_
    intro b3 b3b
    refine And.intro (fun c4 => ?_) (fun c4 => ?_)
    · refine hK 24 _ [] T ?_
      refine j_blx (F := fX5) tb_X5 (nn_ _) bk_X5_isBetween_24 bs_X5_isBetween_24 hz (fun K hK => ?_)
      refine (show po_X5_isBetween_e T a l h T (some (vI 0)) from ?_)
      exact ⟨rfl, _, rfl, Or.inr ⟨rfl, by omega⟩⟩
    · refine hK 25 _ [vI 1] T ?_
      refine j_blx (F := fX5) tb_X5 (nn_ _) bk_X5_isBetween_25 bs_X5_isBetween_25 hz (fun K hK => ?_)
      refine (show po_X5_isBetween_e T a l h T (some (vI 1)) from ?_)
      exact ⟨rfl, _, rfl, Or.inl ⟨rfl, by omega⟩⟩
abbrev po_X5_takeRun_e (T : Zt) (l h k m : Int) : Zt → Option Zv → Prop := fun T' r => r = none ∧ fr_ [(105, [7, 9])] T T' ∧ (RN9_ (fun j => T 500 0 j) (T 105 0 1) l h (T 105 0 9) (T' 105 0 9) ∧ ((T' 105 0 9 - T 105 0 8 ≤ m ∧ T' 105 0 7 = k) ∨ (m < T' 105 0 9 - T 105 0 8 ∧ T' 105 0 7 = 5)))
set_option maxHeartbeats 4000000 in
theorem ct_X5_takeRun_e {T : Zt} {l h k m : Int} (hk : 0 ≤ k ∧ k ≤ 5) (h9 : T 105 0 9 ≤ T 105 0 1) : Ct_ yX5_takeRun zX5_takeRun T [vR 105 0, vI l, vI h, vI k, vI m] (po_X5_takeRun_e T l h k m) := by
  refine ct_of pn_5 rfl rfl (Nat.le_of_ble_eq_true rfl) (fun hT hav => ?_)
  have hr_l : -2147483648 ≤ l ∧ l ≤ 2147483647 := hav (vI l) (List.mem_cons_of_mem _ List.mem_cons_self)
  have hr_h : -2147483648 ≤ h ∧ h ≤ 2147483647 := hav (vI h) (List.mem_cons_of_mem _ (List.mem_cons_of_mem _ List.mem_cons_self))
  have hr_k : -2147483648 ≤ k ∧ k ≤ 2147483647 := hav (vI k) (List.mem_cons_of_mem _ (List.mem_cons_of_mem _ (List.mem_cons_of_mem _ List.mem_cons_self)))
  have hr_m : -2147483648 ≤ m ∧ m ≤ 2147483647 := hav (vI m) (List.mem_cons_of_mem _ (List.mem_cons_of_mem _ (List.mem_cons_of_mem _ (List.mem_cons_of_mem _ List.mem_cons_self))))
  have hz : zX5_takeRun.2.2.2.1 = some .boolean → ∀ (T' : Zt) (x : Int), po_X5_takeRun_e T l h k m T' (some (vI x)) → 0 ≤ x ∧ x ≤ 1 := fun h => by cases h
  have hln : 0 ≤ T 105 0 1 ∧ T 105 0 1 ≤ 400 := bd_f hT 105 1 tl_5_1 0
  have hte : 0 ≤ T 105 0 9 ∧ T 105 0 9 ≤ 400 := bd_f hT 105 9 tl_5_9 0
  have hts : 0 ≤ T 105 0 8 ∧ T 105 0 8 ≤ 400 := bd_f hT 105 8 tl_5_8 0
  show J_ zX5_takeRun T (po_X5_takeRun_e T l h k m) 0 0 0 [some (vR 105 0), some (vI l), some (vI h), some (vI k), some (vI m)] [] T
  have c_0 : ∀ (nn : Nat) (T1 : Zt), ((400 - T1 105 0 9).toNat) ≤ nn → (fr_ [(105, [9])] T T1) → (T 105 0 9 ≤ T1 105 0 9 ∧ T1 105 0 9 ≤ T 105 0 1) → (RP9_ (fun j => T 500 0 j) l h (T 105 0 9) (T1 105 0 9)) → J_ zX5_takeRun T (po_X5_takeRun_e T l h k m) 0 0 0 [some (vR 105 0), some (vI l), some (vI h), some (vI k), some (vI m)] [] T1 := by
    intro nn
    induction nn using Nat.strongRecOn with
    | _ nn ih_0 =>
      intro T1 hm_0 hf_0 i1 i2
      replace hm_0 := fun (_ : Unit) => hm_0
      refine j_blx (F := fX5) tb_X5 (nn_ _) bk_X5_takeRun_0 bs_X5_takeRun_0 hz (fun K hK => ?_)
      intro b1 b1b
      intro b2 b2b
      have e3 : T1 105 0 1 = T 105 0 1 := hf_0 105 0 1 rfl
      rw [e3] at b2 b2b ⊢
      refine And.intro (fun c4 => ?_) (fun c4 => ?_)
      · refine hK 37 _ [] T1 ?_
        refine j_blx (F := fX5) tb_X5 (nn_ _) bk_X5_takeRun_37 bs_X5_takeRun_37 hz (fun K hK => ?_)
        intro b5 b5b
        intro b6 b6b
        have e7 : T1 105 0 8 = T 105 0 8 := hf_0 105 0 8 rfl
        rw [e7] at b6 b6b ⊢
        refine rg_i (by omega) ?_
        refine And.intro (fun c8 => ?_) (fun c8 => ?_)
        · refine hK 56 _ [vR 105 0] T1 ?_
          refine j_blx (F := fX5) tb_X5 (nn_ _) bk_X5_takeRun_56 bs_X5_takeRun_56 hz (fun K hK => ?_)
          refine bd_i (by omega) ?_
          refine x_nm (fun U9 hU9 => ?_)
          have e10 := up_f hU9
          refine (show po_X5_takeRun_e T l h k m U9 (none) from ?_)
          have e11 : U9 105 0 9 = T1 105 0 9 := up_j hU9 (by decide) 105 0
          have e12 : U9 105 0 7 = k := up_f hU9
          have e0 := hf_0 500 0 (T1 105 0 9) rfl
          have e1 := hf_0 105 0 1 rfl
          have e2 := hf_0 105 0 8 rfl
          have e9 : U9 105 0 9 = T1 105 0 9 := up_j hU9 (by decide) 105 0
          have e7 := up_f hU9
          refine ⟨rfl, fr_u (fr_t (fr_0 _ _) (fr_s hf_0 rfl)) hU9 rfl, ?_, ?_⟩
          · rw [e9]
            exact ⟨i1.1, i1.2, i2, fun g => (show ¬ (l ≤ T 500 0 (T1 105 0 9) ∧ T 500 0 (T1 105 0 9) ≤ h) by omega)⟩
          · omega
        · refine hK 57 _ [vI 5, vR 105 0] T1 ?_
          refine j_blx (F := fX5) tb_X5 (nn_ _) bk_X5_takeRun_57 bs_X5_takeRun_57 hz (fun K hK => ?_)
          refine bd_i (by omega) ?_
          refine x_nm (fun U13 hU13 => ?_)
          have e14 := up_f hU13
          refine (show po_X5_takeRun_e T l h k m U13 (none) from ?_)
          have e15 : U13 105 0 9 = T1 105 0 9 := up_j hU13 (by decide) 105 0
          have e16 : U13 105 0 7 = 5 := up_f hU13
          have e0 := hf_0 500 0 (T1 105 0 9) rfl
          have e1 := hf_0 105 0 1 rfl
          have e2 := hf_0 105 0 8 rfl
          have e9 : U13 105 0 9 = T1 105 0 9 := up_j hU13 (by decide) 105 0
          have e7 := up_f hU13
          refine ⟨rfl, fr_u (fr_t (fr_0 _ _) (fr_s hf_0 rfl)) hU13 rfl, ?_, ?_⟩
          · rw [e9]
            exact ⟨i1.1, i1.2, i2, fun g => (show ¬ (l ≤ T 500 0 (T1 105 0 9) ∧ T 500 0 (T1 105 0 9) ≤ h) by omega)⟩
          · omega
      · intro b17 b17b
        refine hK 18 _ [vI h, vI l, vI (T1 105 0 9), vR 105 0] T1 ?_
        refine j_callV (y := yX5_isBetween) (Yc := zX5_isBetween) (rest := []) [vI (T1 105 0 9), vI l, vI h] (ct_X5_isBetween_e (T := T1) (by omega)) cl_X5_104 (qd_c (by decide +kernel)) (nn_ _) rfl (rf_of rfl) (Nat.le_of_ble_eq_true rfl) (Nat.le_of_ble_eq_true rfl) (Nat.le_of_ble_eq_true rfl) rfl ?_
        rintro _ _ ⟨rfl, x18, rfl, hx18⟩
        show J_ zX5_takeRun T (po_X5_takeRun_e T l h k m) 0 0 21 _ [vI x18] T1
        refine j_blx (F := fX5) tb_X5 (nn_ _) bk_X5_takeRun_21 bs_X5_takeRun_21 hz (fun K hK => ?_)
        refine And.intro (fun c19 => ?_) (fun c19 => ?_)
        · replace hx18 := hx18.resolve_left (fun z => absurd (c19.symm.trans z.1) (by decide))
          clear c19
          refine hK 37 _ [] T1 ?_
          refine j_blx (F := fX5) tb_X5 (nn_ _) bk_X5_takeRun_37 bs_X5_takeRun_37 hz (fun K hK => ?_)
          intro b20 b20b
          intro b21 b21b
          have e22 : T1 105 0 8 = T 105 0 8 := hf_0 105 0 8 rfl
          rw [e22] at b21 b21b ⊢
          refine rg_i (by omega) ?_
          refine And.intro (fun c23 => ?_) (fun c23 => ?_)
          · refine hK 56 _ [vR 105 0] T1 ?_
            refine j_blx (F := fX5) tb_X5 (nn_ _) bk_X5_takeRun_56 bs_X5_takeRun_56 hz (fun K hK => ?_)
            refine bd_i (by omega) ?_
            refine x_nm (fun U24 hU24 => ?_)
            have e25 := up_f hU24
            refine (show po_X5_takeRun_e T l h k m U24 (none) from ?_)
            have e26 : U24 105 0 9 = T1 105 0 9 := up_j hU24 (by decide) 105 0
            have e27 : U24 105 0 7 = k := up_f hU24
            have e0 := hf_0 500 0 (T1 105 0 9) rfl
            have e1 := hf_0 105 0 1 rfl
            have e2 := hf_0 105 0 8 rfl
            have e9 : U24 105 0 9 = T1 105 0 9 := up_j hU24 (by decide) 105 0
            have e7 := up_f hU24
            refine ⟨rfl, fr_u (fr_t (fr_0 _ _) (fr_s hf_0 rfl)) hU24 rfl, ?_, ?_⟩
            · rw [e9]
              exact ⟨i1.1, i1.2, i2, fun g => (show ¬ (l ≤ T 500 0 (T1 105 0 9) ∧ T 500 0 (T1 105 0 9) ≤ h) by omega)⟩
            · omega
          · refine hK 57 _ [vI 5, vR 105 0] T1 ?_
            refine j_blx (F := fX5) tb_X5 (nn_ _) bk_X5_takeRun_57 bs_X5_takeRun_57 hz (fun K hK => ?_)
            refine bd_i (by omega) ?_
            refine x_nm (fun U28 hU28 => ?_)
            have e29 := up_f hU28
            refine (show po_X5_takeRun_e T l h k m U28 (none) from ?_)
            have e30 : U28 105 0 9 = T1 105 0 9 := up_j hU28 (by decide) 105 0
            have e31 : U28 105 0 7 = 5 := up_f hU28
            have e0 := hf_0 500 0 (T1 105 0 9) rfl
            have e1 := hf_0 105 0 1 rfl
            have e2 := hf_0 105 0 8 rfl
            have e9 : U28 105 0 9 = T1 105 0 9 := up_j hU28 (by decide) 105 0
            have e7 := up_f hU28
            refine ⟨rfl, fr_u (fr_t (fr_0 _ _) (fr_s hf_0 rfl)) hU28 rfl, ?_, ?_⟩
            · rw [e9]
              exact ⟨i1.1, i1.2, i2, fun g => (show ¬ (l ≤ T 500 0 (T1 105 0 9) ∧ T 500 0 (T1 105 0 9) ≤ h) by omega)⟩
            · omega
        · replace hx18 := hx18.resolve_right (fun z => c19 z.1)
          clear c19
          intro b32 b32b
          refine rg_i (by omega) ?_
          refine bd_i (by omega) ?_
          refine x_nm (fun U33 hU33 => ?_)
          have e34 := up_f hU33
          refine hK 0 _ [] U33 ?_
          have e35 : U33 105 0 9 = (T1 105 0 9) + 1 := up_f hU33
          refine ih_0 _ ?_ U33 (Nat.le_refl _) ?_ ?_ ?_
          · have hm_0 := hm_0 (); omega
          · exact fr_u (fr_t (fr_0 _ _) (fr_s hf_0 rfl)) hU33 rfl
          · omega
          · have e0 := hf_0 500 0 (T1 105 0 9) rfl
            rw [up_f hU33]
            exact rp9_s i2 (show l ≤ T 500 0 (T1 105 0 9) ∧ T 500 0 (T1 105 0 9) ≤ h by omega)
  refine c_0 _ T (Nat.le_refl _) ?_ ?_ ?_
  · exact fr_0 _ _
  · omega
  · exact rp9_z
abbrev po_X5_nextToken_e (T : Zt) : Zt → Option Zv → Prop := fun T' r => r = none ∧ fr_ [(105, [7, 8, 9])] T T' ∧ (TK9_ (fun j => T 500 0 j) (T 105 0 1) (T 105 0 9) (T' 105 0 8) (T' 105 0 9) (T' 105 0 7))
set_option maxHeartbeats 4000000 in
theorem ct_X5_nextToken_e {T : Zt} (h9 : T 105 0 9 ≤ T 105 0 1) : Ct_ yX5_nextToken zX5_nextToken T [vR 105 0] (po_X5_nextToken_e T) := by
  refine ct_of pn_5 rfl rfl (Nat.le_of_ble_eq_true rfl) (fun hT hav => ?_)
  have hz : zX5_nextToken.2.2.2.1 = some .boolean → ∀ (T' : Zt) (x : Int), po_X5_nextToken_e T T' (some (vI x)) → 0 ≤ x ∧ x ≤ 1 := fun h => by cases h
  have hln : 0 ≤ T 105 0 1 ∧ T 105 0 1 ≤ 400 := bd_f hT 105 1 tl_5_1 0
  have hte : 0 ≤ T 105 0 9 ∧ T 105 0 9 ≤ 400 := bd_f hT 105 9 tl_5_9 0
  show J_ zX5_nextToken T (po_X5_nextToken_e T) 0 0 0 [some (vR 105 0), none] [] T
  have c_5 : ∀ (nn : Nat) (a : Int), ((400 - a).toNat) ≤ nn → (T 105 0 9 ≤ a ∧ a ≤ T 105 0 1) → (BP9_ (fun j => T 500 0 j) (T 105 0 9) a) → J_ zX5_nextToken T (po_X5_nextToken_e T) 0 0 5 [some (vR 105 0), some (vI a)] [] T := by
    intro nn
    induction nn using Nat.strongRecOn with
    | _ nn ih_5 =>
      intro a hm_5 i1 i2
      replace hm_5 := fun (_ : Unit) => hm_5
      refine j_blx (F := fX5) tb_X5 (nn_ _) bk_X5_nextToken_5 bs_X5_nextToken_5 hz (fun K hK => ?_)
      intro b1 b1b
      refine And.intro (fun c2 => ?_) (fun c2 => ?_)
      · refine hK 41 _ [] T ?_
        have sk : SK9_ (fun j => T 500 0 j) (T 105 0 1) (T 105 0 9) a := ⟨i1.1, i1.2, i2, fun g => (show ¬ (T 500 0 a = 10 ∨ T 500 0 a = 32) by omega)⟩
        refine j_blx (F := fX5) tb_X5 (nn_ _) bk_X5_nextToken_41 bs_X5_nextToken_41 hz (fun K hK => ?_)
        refine bd_i (by omega) ?_
        refine x_nm (fun U3 hU3 => ?_)
        have e4 := up_f hU3
        refine bd_i (by omega) ?_
        refine x_nm (fun U5 hU5 => ?_)
        have e6 := up_f hU5
        intro b7 b7b
        have e8 : U5 105 0 1 = T 105 0 1 := (up_j hU5 (by decide) 105 0).trans (up_j hU3 (by decide) 105 0)
        rw [e8] at b7 b7b ⊢
        refine And.intro (fun c9 => ?_) (fun c9 => ?_)
        · refine hK 67 _ [] U5 ?_
          refine j_blx (F := fX5) tb_X5 (nn_ _) bk_X5_nextToken_67 bs_X5_nextToken_67 hz (fun K hK => ?_)
          refine hK 73 _ [vI 122, vI 97, vI a, vR 105 0] U5 ?_
          refine j_callV (y := yX5_isBetween) (Yc := zX5_isBetween) (rest := []) [vI a, vI 97, vI 122] (ct_X5_isBetween_e (T := U5) (by omega)) cl_X5_104 (qd_c (by decide +kernel)) (nn_ _) rfl (rf_of rfl) (Nat.le_of_ble_eq_true rfl) (Nat.le_of_ble_eq_true rfl) (Nat.le_of_ble_eq_true rfl) rfl ?_
          rintro _ _ ⟨rfl, x10, rfl, hx10⟩
          show J_ zX5_nextToken T (po_X5_nextToken_e T) 0 0 76 _ [vI x10] U5
          have ea9 : U5 500 0 a = T 500 0 a := (show fr_ [(105, [8, 9])] T U5 from fr_u (fr_u (fr_0 _ _) hU3 rfl) hU5 rfl) 500 0 a rfl
          refine j_blx (F := fX5) tb_X5 (nn_ _) bk_X5_nextToken_76 bs_X5_nextToken_76 hz (fun K hK => ?_)
          refine And.intro (fun c11 => ?_) (fun c11 => ?_)
          · refine hK 93 _ [] U5 ?_
            refine j_blx (F := fX5) tb_X5 (nn_ _) bk_X5_nextToken_93 bs_X5_nextToken_93 hz (fun K hK => ?_)
            refine hK 99 _ [vI 57, vI 48, vI a, vR 105 0] U5 ?_
            refine j_callV (y := yX5_isBetween) (Yc := zX5_isBetween) (rest := []) [vI a, vI 48, vI 57] (ct_X5_isBetween_e (T := U5) (by omega)) cl_X5_104 (qd_c (by decide +kernel)) (nn_ _) rfl (rf_of rfl) (Nat.le_of_ble_eq_true rfl) (Nat.le_of_ble_eq_true rfl) (Nat.le_of_ble_eq_true rfl) rfl ?_
            rintro _ _ ⟨rfl, x12, rfl, hx12⟩
            show J_ zX5_nextToken T (po_X5_nextToken_e T) 0 0 102 _ [vI x12] U5
            refine j_blx (F := fX5) tb_X5 (nn_ _) bk_X5_nextToken_102 bs_X5_nextToken_102 hz (fun K hK => ?_)
            refine And.intro (fun c13 => ?_) (fun c13 => ?_)
            · replace hx12 := hx12.resolve_left (fun z => absurd (c13.symm.trans z.1) (by decide))
              clear c13
              refine hK 118 _ [] U5 ?_
              refine j_blx (F := fX5) tb_X5 (nn_ _) bk_X5_nextToken_118 bs_X5_nextToken_118 hz (fun K hK => ?_)
              refine rg_i (by omega) ?_
              refine bd_i (by omega) ?_
              refine x_nm (fun U14 hU14 => ?_)
              have e15 := up_f hU14
              refine ix_i (by omega) ?_
              intro b16 b16b
              have e17 : U14 500 0 a = T 500 0 a := (up_k hU14 (by exact Nat.ne_of_beq_eq_false rfl) 0 a).trans ((up_k hU5 (by exact Nat.ne_of_beq_eq_false rfl) 0 a).trans (up_k hU3 (by exact Nat.ne_of_beq_eq_false rfl) 0 a))
              rw [e17] at b16 b16b ⊢
              refine And.intro (fun c18 => ?_) (fun c18 => ?_)
              · refine hK 141 _ [vR 105 0] U14 ?_
                refine j_blx (F := fX5) tb_X5 (nn_ _) bk_X5_nextToken_141 bs_X5_nextToken_141 hz (fun K hK => ?_)
                refine ix_i (by omega) ?_
                intro b19 b19b
                have e20 : U14 500 0 a = T 500 0 a := (up_k hU14 (by exact Nat.ne_of_beq_eq_false rfl) 0 a).trans ((up_k hU5 (by exact Nat.ne_of_beq_eq_false rfl) 0 a).trans (up_k hU3 (by exact Nat.ne_of_beq_eq_false rfl) 0 a))
                rw [e20] at b19 b19b ⊢
                refine And.intro (fun c21 => ?_) (fun c21 => ?_)
                · refine hK 156 _ [vR 105 0] U14 ?_
                  refine j_blx (F := fX5) tb_X5 (nn_ _) bk_X5_nextToken_156 bs_X5_nextToken_156 hz (fun K hK => ?_)
                  refine bd_i (by omega) ?_
                  refine x_nm (fun U22 hU22 => ?_)
                  have e23 := up_f hU22
                  refine (show po_X5_nextToken_e T U22 (none) from ?_)
                  have e24 : U22 105 0 8 = a := (up_j hU22 (by decide) 105 0).trans ((up_j hU14 (by decide) 105 0).trans ((up_j hU5 (by decide) 105 0).trans (up_f hU3)))
                  have e25 : U22 105 0 9 = a + 1 := (up_j hU22 (by decide) 105 0).trans (up_f hU14)
                  have e26 : U22 105 0 7 = 5 := up_f hU22
                  have fv : fr_ [(105, [7, 8, 9])] T U22 := fr_u (fr_u (fr_u (fr_u (fr_0 _ _) hU3 rfl) hU5 rfl) hU14 rfl) hU22 rfl
                  refine ⟨rfl, fr_u (fr_u (fr_u (fr_u (fr_0 _ _) hU3 rfl) hU5 rfl) hU14 rfl) hU22 rfl, ?_⟩
                  have e7 := up_f hU22
                  have e9 := (up_j hU22 (by decide) 105 0).trans (up_f hU14)
                  have e8 : U22 105 0 8 = a := (up_j hU22 (by decide) 105 0).trans ((up_j hU14 (by decide) 105 0).trans ((up_j hU5 (by decide) 105 0).trans ((up_f hU3))))
                  exact tk9_3 sk e8 (by omega) (show ¬ (97 ≤ T 500 0 a ∧ T 500 0 a ≤ 122) by omega) (show ¬ (48 ≤ T 500 0 a ∧ T 500 0 a ≤ 57) by omega) e9 (show (T 500 0 a = 59 ∧ _) ∨ (T 500 0 a = 44 ∧ _) ∨ (T 500 0 a ≠ 59 ∧ T 500 0 a ≠ 44 ∧ _) by omega)
                · refine hK 157 _ [vI 4, vR 105 0] U14 ?_
                  refine j_blx (F := fX5) tb_X5 (nn_ _) bk_X5_nextToken_157 bs_X5_nextToken_157 hz (fun K hK => ?_)
                  refine bd_i (by omega) ?_
                  refine x_nm (fun U27 hU27 => ?_)
                  have e28 := up_f hU27
                  refine (show po_X5_nextToken_e T U27 (none) from ?_)
                  have e29 : U27 105 0 8 = a := (up_j hU27 (by decide) 105 0).trans ((up_j hU14 (by decide) 105 0).trans ((up_j hU5 (by decide) 105 0).trans (up_f hU3)))
                  have e30 : U27 105 0 9 = a + 1 := (up_j hU27 (by decide) 105 0).trans (up_f hU14)
                  have e31 : U27 105 0 7 = 4 := up_f hU27
                  have fv : fr_ [(105, [7, 8, 9])] T U27 := fr_u (fr_u (fr_u (fr_u (fr_0 _ _) hU3 rfl) hU5 rfl) hU14 rfl) hU27 rfl
                  refine ⟨rfl, fr_u (fr_u (fr_u (fr_u (fr_0 _ _) hU3 rfl) hU5 rfl) hU14 rfl) hU27 rfl, ?_⟩
                  have e7 := up_f hU27
                  have e9 := (up_j hU27 (by decide) 105 0).trans (up_f hU14)
                  have e8 : U27 105 0 8 = a := (up_j hU27 (by decide) 105 0).trans ((up_j hU14 (by decide) 105 0).trans ((up_j hU5 (by decide) 105 0).trans ((up_f hU3))))
                  exact tk9_3 sk e8 (by omega) (show ¬ (97 ≤ T 500 0 a ∧ T 500 0 a ≤ 122) by omega) (show ¬ (48 ≤ T 500 0 a ∧ T 500 0 a ≤ 57) by omega) e9 (show (T 500 0 a = 59 ∧ _) ∨ (T 500 0 a = 44 ∧ _) ∨ (T 500 0 a ≠ 59 ∧ T 500 0 a ≠ 44 ∧ _) by omega)
              · refine hK 157 _ [vI 3, vR 105 0] U14 ?_
                refine j_blx (F := fX5) tb_X5 (nn_ _) bk_X5_nextToken_157 bs_X5_nextToken_157 hz (fun K hK => ?_)
                refine bd_i (by omega) ?_
                refine x_nm (fun U32 hU32 => ?_)
                have e33 := up_f hU32
                refine (show po_X5_nextToken_e T U32 (none) from ?_)
                have e34 : U32 105 0 8 = a := (up_j hU32 (by decide) 105 0).trans ((up_j hU14 (by decide) 105 0).trans ((up_j hU5 (by decide) 105 0).trans (up_f hU3)))
                have e35 : U32 105 0 9 = a + 1 := (up_j hU32 (by decide) 105 0).trans (up_f hU14)
                have e36 : U32 105 0 7 = 3 := up_f hU32
                have fv : fr_ [(105, [7, 8, 9])] T U32 := fr_u (fr_u (fr_u (fr_u (fr_0 _ _) hU3 rfl) hU5 rfl) hU14 rfl) hU32 rfl
                refine ⟨rfl, fr_u (fr_u (fr_u (fr_u (fr_0 _ _) hU3 rfl) hU5 rfl) hU14 rfl) hU32 rfl, ?_⟩
                have e7 := up_f hU32
                have e9 := (up_j hU32 (by decide) 105 0).trans (up_f hU14)
                have e8 : U32 105 0 8 = a := (up_j hU32 (by decide) 105 0).trans ((up_j hU14 (by decide) 105 0).trans ((up_j hU5 (by decide) 105 0).trans ((up_f hU3))))
                exact tk9_3 sk e8 (by omega) (show ¬ (97 ≤ T 500 0 a ∧ T 500 0 a ≤ 122) by omega) (show ¬ (48 ≤ T 500 0 a ∧ T 500 0 a ≤ 57) by omega) e9 (show (T 500 0 a = 59 ∧ _) ∨ (T 500 0 a = 44 ∧ _) ∨ (T 500 0 a ≠ 59 ∧ T 500 0 a ≠ 44 ∧ _) by omega)
            · replace hx12 := hx12.resolve_right (fun z => c13 z.1)
              clear c13
              refine hK 112 _ [vI 3, vI 2, vI 57, vI 48, vR 105 0] U5 ?_
              have e37 : U5 105 0 9 = a := up_f hU5
              have e38 : U5 105 0 1 = T 105 0 1 := (up_j hU5 (by decide) 105 0).trans (up_j hU3 (by decide) 105 0)
              refine j_callV (y := yX5_takeRun) (Yc := zX5_takeRun) (rest := []) [vI 48, vI 57, vI 2, vI 3] (ct_X5_takeRun_e (T := U5) (by omega) (by omega)) cl_X5_108 (qd_c (by decide +kernel)) (nn_ _) rfl (rf_of rfl) (Nat.le_of_ble_eq_true rfl) (Nat.le_of_ble_eq_true rfl) (Nat.le_of_ble_eq_true rfl) rfl ?_
              rintro U39 _ ⟨rfl, fU39, qU39⟩
              show J_ zX5_nextToken T (po_X5_nextToken_e T) 0 0 115 _ [] U39
              refine j_blx (F := fX5) tb_X5 (nn_ _) bk_X5_nextToken_115 bs_X5_nextToken_115 hz (fun K hK => ?_)
              refine hK 160 _ [] U39 ?_
              refine j_blx (F := fX5) tb_X5 (nn_ _) bk_X5_nextToken_160 bs_X5_nextToken_160 hz (fun K hK => ?_)
              refine (show po_X5_nextToken_e T U39 (none) from ?_)
              have e40 : U39 105 0 8 = a := (fU39 105 0 8 rfl).trans ((up_j hU5 (by decide) 105 0).trans (up_f hU3))
              have fv : fr_ [(105, [8, 9])] T U5 := fr_u (fr_u (fr_0 _ _) hU3 rfl) hU5 rfl
              have eb : (fun j => U5 500 0 j) = fun j => T 500 0 j := funext fun j => fv 500 0 j rfl
              have el := fv 105 0 1 rfl
              have ea : T 500 0 a = U5 500 0 a := (fv 500 0 a rfl).symm
              have e9 := up_f hU5
              have e8 : U5 105 0 8 = a := (up_j hU5 (by decide) 105 0).trans (up_f hU3)
              have e8b : U39 105 0 8 = U5 105 0 8 := fU39 105 0 8 rfl
              rw [eb, el, e9] at qU39
              refine ⟨rfl, fr_t (fr_u (fr_u (fr_0 _ _) hU3 rfl) hU5 rfl) (fr_s fU39 rfl), ?_⟩
              exact tk9_2 sk (by omega) (by omega) (show _ ≤ T 500 0 a ∧ T 500 0 a ≤ _ by omega) qU39.1 (by omega)
          · refine hK 87 _ [vI 12, vI 1, vI 122, vI 97, vR 105 0] U5 ?_
            have e41 : U5 105 0 9 = a := up_f hU5
            have e42 : U5 105 0 1 = T 105 0 1 := (up_j hU5 (by decide) 105 0).trans (up_j hU3 (by decide) 105 0)
            refine j_callV (y := yX5_takeRun) (Yc := zX5_takeRun) (rest := []) [vI 97, vI 122, vI 1, vI 12] (ct_X5_takeRun_e (T := U5) (by omega) (by omega)) cl_X5_108 (qd_c (by decide +kernel)) (nn_ _) rfl (rf_of rfl) (Nat.le_of_ble_eq_true rfl) (Nat.le_of_ble_eq_true rfl) (Nat.le_of_ble_eq_true rfl) rfl ?_
            rintro U43 _ ⟨rfl, fU43, qU43⟩
            show J_ zX5_nextToken T (po_X5_nextToken_e T) 0 0 90 _ [] U43
            refine j_blx (F := fX5) tb_X5 (nn_ _) bk_X5_nextToken_90 bs_X5_nextToken_90 hz (fun K hK => ?_)
            refine hK 160 _ [] U43 ?_
            refine j_blx (F := fX5) tb_X5 (nn_ _) bk_X5_nextToken_160 bs_X5_nextToken_160 hz (fun K hK => ?_)
            refine (show po_X5_nextToken_e T U43 (none) from ?_)
            have e44 : U43 105 0 8 = a := (fU43 105 0 8 rfl).trans ((up_j hU5 (by decide) 105 0).trans (up_f hU3))
            have fv : fr_ [(105, [8, 9])] T U5 := fr_u (fr_u (fr_0 _ _) hU3 rfl) hU5 rfl
            have eb : (fun j => U5 500 0 j) = fun j => T 500 0 j := funext fun j => fv 500 0 j rfl
            have el := fv 105 0 1 rfl
            have ea : T 500 0 a = U5 500 0 a := (fv 500 0 a rfl).symm
            have e9 := up_f hU5
            have e8 : U5 105 0 8 = a := (up_j hU5 (by decide) 105 0).trans (up_f hU3)
            have e8b : U43 105 0 8 = U5 105 0 8 := fU43 105 0 8 rfl
            rw [eb, el, e9] at qU43
            refine ⟨rfl, fr_t (fr_u (fr_u (fr_0 _ _) hU3 rfl) hU5 rfl) (fr_s fU43 rfl), ?_⟩
            exact tk9_1 sk (by omega) (by omega) (show _ ≤ T 500 0 a ∧ T 500 0 a ≤ _ by omega) qU43.1 (by omega)
        · refine bd_i (by omega) ?_
          refine x_nm (fun U45 hU45 => ?_)
          have e46 := up_f hU45
          refine hK 160 _ [] U45 ?_
          refine j_blx (F := fX5) tb_X5 (nn_ _) bk_X5_nextToken_160 bs_X5_nextToken_160 hz (fun K hK => ?_)
          refine (show po_X5_nextToken_e T U45 (none) from ?_)
          have e47 : U45 105 0 8 = a := (up_j hU45 (by decide) 105 0).trans ((up_j hU5 (by decide) 105 0).trans (up_f hU3))
          have e48 : U45 105 0 9 = a := (up_j hU45 (by decide) 105 0).trans (up_f hU5)
          have e49 : U45 105 0 7 = 0 := up_f hU45
          have fv : fr_ [(105, [7, 8, 9])] T U45 := fr_u (fr_u (fr_u (fr_0 _ _) hU3 rfl) hU5 rfl) hU45 rfl
          refine ⟨rfl, fr_u (fr_u (fr_u (fr_0 _ _) hU3 rfl) hU5 rfl) hU45 rfl, ?_⟩
          have e7 := up_f hU45
          have e9 := (up_j hU45 (by decide) 105 0).trans (up_f hU5)
          have e8 : U45 105 0 8 = a := (up_j hU45 (by decide) 105 0).trans ((up_j hU5 (by decide) 105 0).trans ((up_f hU3)))
          exact tk9_0 sk e8 (by omega) e9 e7
      · refine ix_i (by omega) ?_
        intro b50 b50b
        refine And.intro (fun c51 => ?_) (fun c51 => ?_)
        · refine hK 35 _ [] T ?_
          refine j_blx (F := fX5) tb_X5 (nn_ _) bk_X5_nextToken_35 bs_X5_nextToken_35 hz (fun K hK => ?_)
          refine rg_i (by omega) ?_
          refine hK 5 [some (vR 105 0), some (vI (a + 1))] [] T ?_
          refine ih_5 _ ?_ (a + 1) (Nat.le_refl _) ?_ ?_
          · have hm_5 := hm_5 (); omega
          · omega
          · exact bp9_s i2 (show T 500 0 a = 10 ∨ T 500 0 a = 32 by omega)
        · refine ix_i (by omega) ?_
          intro b52 b52b
          refine And.intro (fun c53 => ?_) (fun c53 => ?_)
          · refine hK 41 [some (vR 105 0), some (vI a)] [] T ?_
            have sk : SK9_ (fun j => T 500 0 j) (T 105 0 1) (T 105 0 9) a := ⟨i1.1, i1.2, i2, fun g => (show ¬ (T 500 0 a = 10 ∨ T 500 0 a = 32) by omega)⟩
            refine j_blx (F := fX5) tb_X5 (nn_ _) bk_X5_nextToken_41 bs_X5_nextToken_41 hz (fun K hK => ?_)
            refine bd_i (by omega) ?_
            refine x_nm (fun U54 hU54 => ?_)
            have e55 := up_f hU54
            refine bd_i (by omega) ?_
            refine x_nm (fun U56 hU56 => ?_)
            have e57 := up_f hU56
            intro b58 b58b
            have e59 : U56 105 0 1 = T 105 0 1 := (up_j hU56 (by decide) 105 0).trans (up_j hU54 (by decide) 105 0)
            rw [e59] at b58 b58b ⊢
            refine And.intro (fun c60 => ?_) (fun c60 => ?_)
            · refine hK 67 _ [] U56 ?_
              refine j_blx (F := fX5) tb_X5 (nn_ _) bk_X5_nextToken_67 bs_X5_nextToken_67 hz (fun K hK => ?_)
              refine hK 73 _ [vI 122, vI 97, vI a, vR 105 0] U56 ?_
              refine j_callV (y := yX5_isBetween) (Yc := zX5_isBetween) (rest := []) [vI a, vI 97, vI 122] (ct_X5_isBetween_e (T := U56) (by omega)) cl_X5_104 (qd_c (by decide +kernel)) (nn_ _) rfl (rf_of rfl) (Nat.le_of_ble_eq_true rfl) (Nat.le_of_ble_eq_true rfl) (Nat.le_of_ble_eq_true rfl) rfl ?_
              rintro _ _ ⟨rfl, x61, rfl, hx61⟩
              show J_ zX5_nextToken T (po_X5_nextToken_e T) 0 0 76 _ [vI x61] U56
              have ea9 : U56 500 0 a = T 500 0 a := (show fr_ [(105, [8, 9])] T U56 from fr_u (fr_u (fr_0 _ _) hU54 rfl) hU56 rfl) 500 0 a rfl
              refine j_blx (F := fX5) tb_X5 (nn_ _) bk_X5_nextToken_76 bs_X5_nextToken_76 hz (fun K hK => ?_)
              refine And.intro (fun c62 => ?_) (fun c62 => ?_)
              · refine hK 93 _ [] U56 ?_
                refine j_blx (F := fX5) tb_X5 (nn_ _) bk_X5_nextToken_93 bs_X5_nextToken_93 hz (fun K hK => ?_)
                refine hK 99 _ [vI 57, vI 48, vI a, vR 105 0] U56 ?_
                refine j_callV (y := yX5_isBetween) (Yc := zX5_isBetween) (rest := []) [vI a, vI 48, vI 57] (ct_X5_isBetween_e (T := U56) (by omega)) cl_X5_104 (qd_c (by decide +kernel)) (nn_ _) rfl (rf_of rfl) (Nat.le_of_ble_eq_true rfl) (Nat.le_of_ble_eq_true rfl) (Nat.le_of_ble_eq_true rfl) rfl ?_
                rintro _ _ ⟨rfl, x63, rfl, hx63⟩
                show J_ zX5_nextToken T (po_X5_nextToken_e T) 0 0 102 _ [vI x63] U56
                refine j_blx (F := fX5) tb_X5 (nn_ _) bk_X5_nextToken_102 bs_X5_nextToken_102 hz (fun K hK => ?_)
                refine And.intro (fun c64 => ?_) (fun c64 => ?_)
                · replace hx63 := hx63.resolve_left (fun z => absurd (c64.symm.trans z.1) (by decide))
                  clear c64
                  refine hK 118 _ [] U56 ?_
                  refine j_blx (F := fX5) tb_X5 (nn_ _) bk_X5_nextToken_118 bs_X5_nextToken_118 hz (fun K hK => ?_)
                  refine rg_i (by omega) ?_
                  refine bd_i (by omega) ?_
                  refine x_nm (fun U65 hU65 => ?_)
                  have e66 := up_f hU65
                  refine ix_i (by omega) ?_
                  intro b67 b67b
                  have e68 : U65 500 0 a = T 500 0 a := (up_k hU65 (by exact Nat.ne_of_beq_eq_false rfl) 0 a).trans ((up_k hU56 (by exact Nat.ne_of_beq_eq_false rfl) 0 a).trans (up_k hU54 (by exact Nat.ne_of_beq_eq_false rfl) 0 a))
                  rw [e68] at b67 b67b ⊢
                  refine And.intro (fun c69 => ?_) (fun c69 => ?_)
                  · refine hK 141 _ [vR 105 0] U65 ?_
                    refine j_blx (F := fX5) tb_X5 (nn_ _) bk_X5_nextToken_141 bs_X5_nextToken_141 hz (fun K hK => ?_)
                    refine ix_i (by omega) ?_
                    intro b70 b70b
                    have e71 : U65 500 0 a = T 500 0 a := (up_k hU65 (by exact Nat.ne_of_beq_eq_false rfl) 0 a).trans ((up_k hU56 (by exact Nat.ne_of_beq_eq_false rfl) 0 a).trans (up_k hU54 (by exact Nat.ne_of_beq_eq_false rfl) 0 a))
                    rw [e71] at b70 b70b ⊢
                    refine And.intro (fun c72 => ?_) (fun c72 => ?_)
                    · refine hK 156 _ [vR 105 0] U65 ?_
                      refine j_blx (F := fX5) tb_X5 (nn_ _) bk_X5_nextToken_156 bs_X5_nextToken_156 hz (fun K hK => ?_)
                      refine bd_i (by omega) ?_
                      refine x_nm (fun U73 hU73 => ?_)
                      have e74 := up_f hU73
                      refine (show po_X5_nextToken_e T U73 (none) from ?_)
                      have e75 : U73 105 0 8 = a := (up_j hU73 (by decide) 105 0).trans ((up_j hU65 (by decide) 105 0).trans ((up_j hU56 (by decide) 105 0).trans (up_f hU54)))
                      have e76 : U73 105 0 9 = a + 1 := (up_j hU73 (by decide) 105 0).trans (up_f hU65)
                      have e77 : U73 105 0 7 = 5 := up_f hU73
                      have fv : fr_ [(105, [7, 8, 9])] T U73 := fr_u (fr_u (fr_u (fr_u (fr_0 _ _) hU54 rfl) hU56 rfl) hU65 rfl) hU73 rfl
                      refine ⟨rfl, fr_u (fr_u (fr_u (fr_u (fr_0 _ _) hU54 rfl) hU56 rfl) hU65 rfl) hU73 rfl, ?_⟩
                      have e7 := up_f hU73
                      have e9 := (up_j hU73 (by decide) 105 0).trans (up_f hU65)
                      have e8 : U73 105 0 8 = a := (up_j hU73 (by decide) 105 0).trans ((up_j hU65 (by decide) 105 0).trans ((up_j hU56 (by decide) 105 0).trans ((up_f hU54))))
                      exact tk9_3 sk e8 (by omega) (show ¬ (97 ≤ T 500 0 a ∧ T 500 0 a ≤ 122) by omega) (show ¬ (48 ≤ T 500 0 a ∧ T 500 0 a ≤ 57) by omega) e9 (show (T 500 0 a = 59 ∧ _) ∨ (T 500 0 a = 44 ∧ _) ∨ (T 500 0 a ≠ 59 ∧ T 500 0 a ≠ 44 ∧ _) by omega)
                    · refine hK 157 _ [vI 4, vR 105 0] U65 ?_
                      refine j_blx (F := fX5) tb_X5 (nn_ _) bk_X5_nextToken_157 bs_X5_nextToken_157 hz (fun K hK => ?_)
                      refine bd_i (by omega) ?_
                      refine x_nm (fun U78 hU78 => ?_)
                      have e79 := up_f hU78
                      refine (show po_X5_nextToken_e T U78 (none) from ?_)
                      have e80 : U78 105 0 8 = a := (up_j hU78 (by decide) 105 0).trans ((up_j hU65 (by decide) 105 0).trans ((up_j hU56 (by decide) 105 0).trans (up_f hU54)))
                      have e81 : U78 105 0 9 = a + 1 := (up_j hU78 (by decide) 105 0).trans (up_f hU65)
                      have e82 : U78 105 0 7 = 4 := up_f hU78
                      have fv : fr_ [(105, [7, 8, 9])] T U78 := fr_u (fr_u (fr_u (fr_u (fr_0 _ _) hU54 rfl) hU56 rfl) hU65 rfl) hU78 rfl
                      refine ⟨rfl, fr_u (fr_u (fr_u (fr_u (fr_0 _ _) hU54 rfl) hU56 rfl) hU65 rfl) hU78 rfl, ?_⟩
                      have e7 := up_f hU78
                      have e9 := (up_j hU78 (by decide) 105 0).trans (up_f hU65)
                      have e8 : U78 105 0 8 = a := (up_j hU78 (by decide) 105 0).trans ((up_j hU65 (by decide) 105 0).trans ((up_j hU56 (by decide) 105 0).trans ((up_f hU54))))
                      exact tk9_3 sk e8 (by omega) (show ¬ (97 ≤ T 500 0 a ∧ T 500 0 a ≤ 122) by omega) (show ¬ (48 ≤ T 500 0 a ∧ T 500 0 a ≤ 57) by omega) e9 (show (T 500 0 a = 59 ∧ _) ∨ (T 500 0 a = 44 ∧ _) ∨ (T 500 0 a ≠ 59 ∧ T 500 0 a ≠ 44 ∧ _) by omega)
                  · refine hK 157 _ [vI 3, vR 105 0] U65 ?_
                    refine j_blx (F := fX5) tb_X5 (nn_ _) bk_X5_nextToken_157 bs_X5_nextToken_157 hz (fun K hK => ?_)
                    refine bd_i (by omega) ?_
                    refine x_nm (fun U83 hU83 => ?_)
                    have e84 := up_f hU83
                    refine (show po_X5_nextToken_e T U83 (none) from ?_)
                    have e85 : U83 105 0 8 = a := (up_j hU83 (by decide) 105 0).trans ((up_j hU65 (by decide) 105 0).trans ((up_j hU56 (by decide) 105 0).trans (up_f hU54)))
                    have e86 : U83 105 0 9 = a + 1 := (up_j hU83 (by decide) 105 0).trans (up_f hU65)
                    have e87 : U83 105 0 7 = 3 := up_f hU83
                    have fv : fr_ [(105, [7, 8, 9])] T U83 := fr_u (fr_u (fr_u (fr_u (fr_0 _ _) hU54 rfl) hU56 rfl) hU65 rfl) hU83 rfl
                    refine ⟨rfl, fr_u (fr_u (fr_u (fr_u (fr_0 _ _) hU54 rfl) hU56 rfl) hU65 rfl) hU83 rfl, ?_⟩
                    have e7 := up_f hU83
                    have e9 := (up_j hU83 (by decide) 105 0).trans (up_f hU65)
                    have e8 : U83 105 0 8 = a := (up_j hU83 (by decide) 105 0).trans ((up_j hU65 (by decide) 105 0).trans ((up_j hU56 (by decide) 105 0).trans ((up_f hU54))))
                    exact tk9_3 sk e8 (by omega) (show ¬ (97 ≤ T 500 0 a ∧ T 500 0 a ≤ 122) by omega) (show ¬ (48 ≤ T 500 0 a ∧ T 500 0 a ≤ 57) by omega) e9 (show (T 500 0 a = 59 ∧ _) ∨ (T 500 0 a = 44 ∧ _) ∨ (T 500 0 a ≠ 59 ∧ T 500 0 a ≠ 44 ∧ _) by omega)
                · replace hx63 := hx63.resolve_right (fun z => c64 z.1)
                  clear c64
                  refine hK 112 _ [vI 3, vI 2, vI 57, vI 48, vR 105 0] U56 ?_
                  have e88 : U56 105 0 9 = a := up_f hU56
                  have e89 : U56 105 0 1 = T 105 0 1 := (up_j hU56 (by decide) 105 0).trans (up_j hU54 (by decide) 105 0)
                  refine j_callV (y := yX5_takeRun) (Yc := zX5_takeRun) (rest := []) [vI 48, vI 57, vI 2, vI 3] (ct_X5_takeRun_e (T := U56) (by omega) (by omega)) cl_X5_108 (qd_c (by decide +kernel)) (nn_ _) rfl (rf_of rfl) (Nat.le_of_ble_eq_true rfl) (Nat.le_of_ble_eq_true rfl) (Nat.le_of_ble_eq_true rfl) rfl ?_
                  rintro U90 _ ⟨rfl, fU90, qU90⟩
                  show J_ zX5_nextToken T (po_X5_nextToken_e T) 0 0 115 _ [] U90
                  refine j_blx (F := fX5) tb_X5 (nn_ _) bk_X5_nextToken_115 bs_X5_nextToken_115 hz (fun K hK => ?_)
                  refine hK 160 _ [] U90 ?_
                  refine j_blx (F := fX5) tb_X5 (nn_ _) bk_X5_nextToken_160 bs_X5_nextToken_160 hz (fun K hK => ?_)
                  refine (show po_X5_nextToken_e T U90 (none) from ?_)
                  have e91 : U90 105 0 8 = a := (fU90 105 0 8 rfl).trans ((up_j hU56 (by decide) 105 0).trans (up_f hU54))
                  have fv : fr_ [(105, [8, 9])] T U56 := fr_u (fr_u (fr_0 _ _) hU54 rfl) hU56 rfl
                  have eb : (fun j => U56 500 0 j) = fun j => T 500 0 j := funext fun j => fv 500 0 j rfl
                  have el := fv 105 0 1 rfl
                  have ea : T 500 0 a = U56 500 0 a := (fv 500 0 a rfl).symm
                  have e9 := up_f hU56
                  have e8 : U56 105 0 8 = a := (up_j hU56 (by decide) 105 0).trans (up_f hU54)
                  have e8b : U90 105 0 8 = U56 105 0 8 := fU90 105 0 8 rfl
                  rw [eb, el, e9] at qU90
                  refine ⟨rfl, fr_t (fr_u (fr_u (fr_0 _ _) hU54 rfl) hU56 rfl) (fr_s fU90 rfl), ?_⟩
                  exact tk9_2 sk (by omega) (by omega) (show _ ≤ T 500 0 a ∧ T 500 0 a ≤ _ by omega) qU90.1 (by omega)
              · refine hK 87 _ [vI 12, vI 1, vI 122, vI 97, vR 105 0] U56 ?_
                have e92 : U56 105 0 9 = a := up_f hU56
                have e93 : U56 105 0 1 = T 105 0 1 := (up_j hU56 (by decide) 105 0).trans (up_j hU54 (by decide) 105 0)
                refine j_callV (y := yX5_takeRun) (Yc := zX5_takeRun) (rest := []) [vI 97, vI 122, vI 1, vI 12] (ct_X5_takeRun_e (T := U56) (by omega) (by omega)) cl_X5_108 (qd_c (by decide +kernel)) (nn_ _) rfl (rf_of rfl) (Nat.le_of_ble_eq_true rfl) (Nat.le_of_ble_eq_true rfl) (Nat.le_of_ble_eq_true rfl) rfl ?_
                rintro U94 _ ⟨rfl, fU94, qU94⟩
                show J_ zX5_nextToken T (po_X5_nextToken_e T) 0 0 90 _ [] U94
                refine j_blx (F := fX5) tb_X5 (nn_ _) bk_X5_nextToken_90 bs_X5_nextToken_90 hz (fun K hK => ?_)
                refine hK 160 _ [] U94 ?_
                refine j_blx (F := fX5) tb_X5 (nn_ _) bk_X5_nextToken_160 bs_X5_nextToken_160 hz (fun K hK => ?_)
                refine (show po_X5_nextToken_e T U94 (none) from ?_)
                have e95 : U94 105 0 8 = a := (fU94 105 0 8 rfl).trans ((up_j hU56 (by decide) 105 0).trans (up_f hU54))
                have fv : fr_ [(105, [8, 9])] T U56 := fr_u (fr_u (fr_0 _ _) hU54 rfl) hU56 rfl
                have eb : (fun j => U56 500 0 j) = fun j => T 500 0 j := funext fun j => fv 500 0 j rfl
                have el := fv 105 0 1 rfl
                have ea : T 500 0 a = U56 500 0 a := (fv 500 0 a rfl).symm
                have e9 := up_f hU56
                have e8 : U56 105 0 8 = a := (up_j hU56 (by decide) 105 0).trans (up_f hU54)
                have e8b : U94 105 0 8 = U56 105 0 8 := fU94 105 0 8 rfl
                rw [eb, el, e9] at qU94
                refine ⟨rfl, fr_t (fr_u (fr_u (fr_0 _ _) hU54 rfl) hU56 rfl) (fr_s fU94 rfl), ?_⟩
                exact tk9_1 sk (by omega) (by omega) (show _ ≤ T 500 0 a ∧ T 500 0 a ≤ _ by omega) qU94.1 (by omega)
            · refine bd_i (by omega) ?_
              refine x_nm (fun U96 hU96 => ?_)
              have e97 := up_f hU96
              refine hK 160 _ [] U96 ?_
              refine j_blx (F := fX5) tb_X5 (nn_ _) bk_X5_nextToken_160 bs_X5_nextToken_160 hz (fun K hK => ?_)
              refine (show po_X5_nextToken_e T U96 (none) from ?_)
              have e98 : U96 105 0 8 = a := (up_j hU96 (by decide) 105 0).trans ((up_j hU56 (by decide) 105 0).trans (up_f hU54))
              have e99 : U96 105 0 9 = a := (up_j hU96 (by decide) 105 0).trans (up_f hU56)
              have e100 : U96 105 0 7 = 0 := up_f hU96
              have fv : fr_ [(105, [7, 8, 9])] T U96 := fr_u (fr_u (fr_u (fr_0 _ _) hU54 rfl) hU56 rfl) hU96 rfl
              refine ⟨rfl, fr_u (fr_u (fr_u (fr_0 _ _) hU54 rfl) hU56 rfl) hU96 rfl, ?_⟩
              have e7 := up_f hU96
              have e9 := (up_j hU96 (by decide) 105 0).trans (up_f hU56)
              have e8 : U96 105 0 8 = a := (up_j hU96 (by decide) 105 0).trans ((up_j hU56 (by decide) 105 0).trans ((up_f hU54)))
              exact tk9_0 sk e8 (by omega) e9 e7
          · refine rg_i (by omega) ?_
            refine hK 5 [some (vR 105 0), some (vI (a + 1))] [] T ?_
            refine ih_5 _ ?_ (a + 1) (Nat.le_refl _) ?_ ?_
            · have hm_5 := hm_5 (); omega
            · omega
            · exact bp9_s i2 (show T 500 0 a = 10 ∨ T 500 0 a = 32 by omega)
  refine j_blx (F := fX5) tb_X5 (nn_ _) bk_X5_nextToken_0 bs_X5_nextToken_0 hz (fun K hK => ?_)
  intro b101 b101b
  refine hK 5 [some (vR 105 0), some (vI (T 105 0 9))] [] T ?_
  refine c_5 _ (T 105 0 9) (Nat.le_refl _) ?_ ?_
  · omega
  · exact bp9_z
