abbrev cX11_in : ByteArray := prog_13_method_3_code
def yX11_in : MethodName := ⟨RX11, "in", "(III)Z"⟩
def zX11_in : Zm := (RX11, cX11_in, 3, (some .boolean), { frames := 0, cells := 0, slots := 0, locals := 0 })
theorem bk_X11_in_0 : ck_ fX11 (some .boolean) cX11_in 0 [.iload 0, .iload 1, .if_icmp .lt 14, .iload 0, .iload 2, .if_icmp .gt 14, .iconst 1, .goto 15] 14 = true := qck_r (nn_ _) (by decide +kernel)
theorem bs_X11_in_0 {P : Zt → Option Zv → Prop} (K : Int → Zl → List Zv → Zt → Prop) : sx_ K P [.iload 0, .iload 1, .if_icmp .lt 14, .iload 0, .iload 2, .if_icmp .gt 14, .iconst 1, .goto 15] 14 = x_iload 0 (x_iload 1 (x_if_icmp .lt 14 K (x_iload 0 (x_iload 2 (x_if_icmp .gt 14 K (x_iconst 1 (x_goto 15 K))))))) := ((xe_iload 0).trans (congrArg (x_iload 0) ((xe_iload 1).trans (congrArg (x_iload 1) ((xe_if_icmp .lt 14).trans (congrArg (x_if_icmp .lt 14 K) ((xe_iload 0).trans (congrArg (x_iload 0) ((xe_iload 2).trans (congrArg (x_iload 2) ((xe_if_icmp .gt 14).trans (congrArg (x_if_icmp .gt 14 K) ((xe_iconst 1).trans (congrArg (x_iconst 1) (xe_goto 15)))))))))))))))
theorem bk_X11_in_14 : ck_ fX11 (some .boolean) cX11_in 14 [.iconst 0, .ireturn] 16 = true := qck_r (nn_ _) (by decide +kernel)
theorem bs_X11_in_14 {P : Zt → Option Zv → Prop} (K : Int → Zl → List Zv → Zt → Prop) : sx_ K P [.iconst 0, .ireturn] 16 = x_iconst 0 (x_ireturn P) := ((xe_iconst 0).trans (congrArg (x_iconst 0) (xe_ireturn)))
theorem bk_X11_in_15 : ck_ fX11 (some .boolean) cX11_in 15 [.ireturn] 16 = true := qck_r (nn_ _) (by decide +kernel)
theorem bs_X11_in_15 {P : Zt → Option Zv → Prop} (K : Int → Zl → List Zv → Zt → Prop) : sx_ K P [.ireturn] 16 = x_ireturn P := (xe_ireturn)
abbrev po_X11_in (T : Zt) (v lo hi : Int) : Zt → Option Zv → Prop := fun T' r => T = T' ∧ ∃ x : Int, r = some (vI x) ∧ (x = 1 ∧ lo ≤ v ∧ v ≤ hi ∨ x = 0 ∧ ¬ (lo ≤ v ∧ v ≤ hi))
set_option maxHeartbeats 4000000 in
theorem ct_X11_in {T : Zt} {v lo hi : Int} : Ct_ yX11_in zX11_in T [vI v, vI lo, vI hi] (po_X11_in T v lo hi) := by
  refine ct_of pn_11 rfl rfl (Nat.le_of_ble_eq_true rfl) (fun hT hav => ?_)
  have hr_v : -2147483648 ≤ v ∧ v ≤ 2147483647 := hav (vI v) List.mem_cons_self
  have hr_lo : -2147483648 ≤ lo ∧ lo ≤ 2147483647 := hav (vI lo) (List.mem_cons_of_mem _ List.mem_cons_self)
  have hr_hi : -2147483648 ≤ hi ∧ hi ≤ 2147483647 := hav (vI hi) (List.mem_cons_of_mem _ (List.mem_cons_of_mem _ List.mem_cons_self))
  have hz : zX11_in.2.2.2.1 = some .boolean → ∀ (T' : Zt) (x : Int), po_X11_in T v lo hi T' (some (vI x)) → 0 ≤ x ∧ x ≤ 1 := fun _ T' x h => by obtain ⟨-, y, e, hy⟩ := h; cases e; omega
  show J_ zX11_in T (po_X11_in T v lo hi) 0 0 0 [some (vI v), some (vI lo), some (vI hi)] [] T
  refine j_blx (F := fX11) tb_X11 (nn_ _) bk_X11_in_0 bs_X11_in_0 hz (fun K hK => ?_)
  refine And.intro (fun c1 => ?_) (fun c1 => ?_)
  · refine hK 14 _ [] T ?_
    refine j_blx (F := fX11) tb_X11 (nn_ _) bk_X11_in_14 bs_X11_in_14 hz (fun K hK => ?_)
    refine (show po_X11_in T v lo hi T (some (vI 0)) from ?_)
    exact ⟨rfl, _, rfl, Or.inr ⟨rfl, by omega⟩⟩
  · refine And.intro (fun c2 => ?_) (fun c2 => ?_)
    · refine hK 14 _ [] T ?_
      refine j_blx (F := fX11) tb_X11 (nn_ _) bk_X11_in_14 bs_X11_in_14 hz (fun K hK => ?_)
      refine (show po_X11_in T v lo hi T (some (vI 0)) from ?_)
      exact ⟨rfl, _, rfl, Or.inr ⟨rfl, by omega⟩⟩
    · refine hK 15 _ [vI 1] T ?_
      refine j_blx (F := fX11) tb_X11 (nn_ _) bk_X11_in_15 bs_X11_in_15 hz (fun K hK => ?_)
      refine (show po_X11_in T v lo hi T (some (vI 1)) from ?_)
      exact ⟨rfl, _, rfl, Or.inl ⟨rfl, by omega⟩⟩
abbrev cX11_isOf : ByteArray := prog_13_method_4_code
def yX11_isOf : MethodName := ⟨RX11, "isOf", "(II)Z"⟩
def zX11_isOf : Zm := (RX11, cX11_isOf, 2, (some .boolean), { frames := 1, cells := 0, slots := 0, locals := 22 })
theorem bk_X11_isOf_0 : ck_ fX11 (some .boolean) cX11_isOf 0 [.iload 0, .iconst 0, .iload 1, .iconst 1, .isub] 5 = true := qck_r (nn_ _) (by decide +kernel)
theorem bs_X11_isOf_0 {P : Zt → Option Zv → Prop} (K : Int → Zl → List Zv → Zt → Prop) : sx_ K P [.iload 0, .iconst 0, .iload 1, .iconst 1, .isub] 5 = x_iload 0 (x_iconst 0 (x_iload 1 (x_iconst 1 (x_isub (K 5))))) := ((xe_iload 0).trans (congrArg (x_iload 0) ((xe_iconst 0).trans (congrArg (x_iconst 0) ((xe_iload 1).trans (congrArg (x_iload 1) ((xe_iconst 1).trans (congrArg (x_iconst 1) ((xe_isub).trans (congrArg (x_isub) xe_nil))))))))))
set_option maxRecDepth 100000 in
theorem cl_X11_255 : cs_ RX11 255 yX11_in zX11_in 3 := ⟨gi_S (lwq_8 (dqc_m (dqc_m (dqa_m (dqa_m (dqa_m (List.mem_of_getElem? (i := 7) rfl)))))) rfl : Cond.methodLink RX11 255 yX11_in ∈ lw_g) (lwq_8 (dqc_m (dqc_m (dqc_m (List.mem_of_getElem? (i := 0) rfl)))) rfl : Cond.static yX11_in ∈ lw_g) (lwq_1 (dqa_m (List.mem_of_getElem? (i := 2) rfl)) rfl : Cond.initialized yX11_in.cls ∈ lw_g) (lwq_8 (dqc_m (dqc_m (dqc_m (List.mem_of_getElem? (i := 1) rfl)))) rfl : Cond.code yX11_in cX11_in 3 (some .boolean) ∈ lw_g), ⟨by decide, by decide, by decide +kernel⟩⟩
theorem bk_X11_isOf_8 : ck_ fX11 (some .boolean) cX11_isOf 8 [.ireturn] 9 = true := qck_r (nn_ _) (by decide +kernel)
theorem bs_X11_isOf_8 {P : Zt → Option Zv → Prop} (K : Int → Zl → List Zv → Zt → Prop) : sx_ K P [.ireturn] 9 = x_ireturn P := (xe_ireturn)
abbrev po_X11_isOf (T : Zt) (v n : Int) : Zt → Option Zv → Prop := fun T' r => T = T' ∧ ∃ x : Int, r = some (vI x) ∧ (x = 1 ∧ 0 ≤ v ∧ v < n ∨ x = 0 ∧ ¬ (0 ≤ v ∧ v < n))
set_option maxHeartbeats 4000000 in
theorem ct_X11_isOf {T : Zt} {v n : Int} (hn : -1 ≤ n) : Ct_ yX11_isOf zX11_isOf T [vI v, vI n] (po_X11_isOf T v n) := by
  refine ct_of pn_11 rfl rfl (Nat.le_of_ble_eq_true rfl) (fun hT hav => ?_)
  have hr_v : -2147483648 ≤ v ∧ v ≤ 2147483647 := hav (vI v) List.mem_cons_self
  have hr_n : -2147483648 ≤ n ∧ n ≤ 2147483647 := hav (vI n) (List.mem_cons_of_mem _ List.mem_cons_self)
  have hz : zX11_isOf.2.2.2.1 = some .boolean → ∀ (T' : Zt) (x : Int), po_X11_isOf T v n T' (some (vI x)) → 0 ≤ x ∧ x ≤ 1 := fun _ T' x h => by obtain ⟨-, y, e, hy⟩ := h; cases e; omega
  show J_ zX11_isOf T (po_X11_isOf T v n) 0 0 0 [some (vI v), some (vI n)] [] T
  refine j_blx (F := fX11) tb_X11 (nn_ _) bk_X11_isOf_0 bs_X11_isOf_0 hz (fun K hK => ?_)
  refine rg_i (by omega) ?_
  refine hK 5 _ [vI (n - 1), vI 0, vI v] T ?_
  refine j_callS (y := yX11_in) (Yc := zX11_in) (rest := []) [vI v, vI 0, vI (n - 1)] (ct_X11_in (T := T)) cl_X11_255 (qd_c (by decide +kernel)) (nn_ _) rfl (rf_of rfl) (Nat.le_of_ble_eq_true rfl) (Nat.le_of_ble_eq_true rfl) (Nat.le_of_ble_eq_true rfl) rfl ?_
  rintro _ _ ⟨rfl, x1, rfl, hx1⟩
  show J_ zX11_isOf T (po_X11_isOf T v n) 0 0 8 _ [vI x1] T
  refine j_blx (F := fX11) tb_X11 (nn_ _) bk_X11_isOf_8 bs_X11_isOf_8 hz (fun K hK => ?_)
  refine (show po_X11_isOf T v n T (some (vI x1)) from ?_)
  exact ⟨rfl, _, rfl, by omega⟩
abbrev cX11_isLetter : ByteArray := prog_13_method_9_code
def yX11_isLetter : MethodName := ⟨RX11, "isLetter", "(I)Z"⟩
def zX11_isLetter : Zm := (RX11, cX11_isLetter, 1, (some .boolean), { frames := 1, cells := 0, slots := 0, locals := 22 })
theorem bk_X11_isLetter_0 : ck_ fX11 (some .boolean) cX11_isLetter 0 [.iload 0, .iconst 97, .iconst 122] 5 = true := qck_r (nn_ _) (by decide +kernel)
theorem bs_X11_isLetter_0 {P : Zt → Option Zv → Prop} (K : Int → Zl → List Zv → Zt → Prop) : sx_ K P [.iload 0, .iconst 97, .iconst 122] 5 = x_iload 0 (x_iconst 97 (x_iconst 122 (K 5))) := ((xe_iload 0).trans (congrArg (x_iload 0) ((xe_iconst 97).trans (congrArg (x_iconst 97) ((xe_iconst 122).trans (congrArg (x_iconst 122) xe_nil))))))
theorem bk_X11_isLetter_8 : ck_ fX11 (some .boolean) cX11_isLetter 8 [.ireturn] 9 = true := qck_r (nn_ _) (by decide +kernel)
theorem bs_X11_isLetter_8 {P : Zt → Option Zv → Prop} (K : Int → Zl → List Zv → Zt → Prop) : sx_ K P [.ireturn] 9 = x_ireturn P := (xe_ireturn)
abbrev po_X11_isLetter (T : Zt) (c : Int) : Zt → Option Zv → Prop := fun T' r => T = T' ∧ ∃ x : Int, r = some (vI x) ∧ (x = 1 ∧ 97 ≤ c ∧ c ≤ 122 ∨ x = 0 ∧ ¬ (97 ≤ c ∧ c ≤ 122))
set_option maxHeartbeats 4000000 in
theorem ct_X11_isLetter {T : Zt} {c : Int} : Ct_ yX11_isLetter zX11_isLetter T [vI c] (po_X11_isLetter T c) := by
  refine ct_of pn_11 rfl rfl (Nat.le_of_ble_eq_true rfl) (fun hT hav => ?_)
  have hr_c : -2147483648 ≤ c ∧ c ≤ 2147483647 := hav (vI c) List.mem_cons_self
  have hz : zX11_isLetter.2.2.2.1 = some .boolean → ∀ (T' : Zt) (x : Int), po_X11_isLetter T c T' (some (vI x)) → 0 ≤ x ∧ x ≤ 1 := fun _ T' x h => by obtain ⟨-, y, e, hy⟩ := h; cases e; omega
  show J_ zX11_isLetter T (po_X11_isLetter T c) 0 0 0 [some (vI c)] [] T
  refine j_blx (F := fX11) tb_X11 (nn_ _) bk_X11_isLetter_0 bs_X11_isLetter_0 hz (fun K hK => ?_)
  refine hK 5 _ [vI 122, vI 97, vI c] T ?_
  refine j_callS (y := yX11_in) (Yc := zX11_in) (rest := []) [vI c, vI 97, vI 122] (ct_X11_in (T := T)) cl_X11_255 (qd_c (by decide +kernel)) (nn_ _) rfl (rf_of rfl) (Nat.le_of_ble_eq_true rfl) (Nat.le_of_ble_eq_true rfl) (Nat.le_of_ble_eq_true rfl) rfl ?_
  rintro _ _ ⟨rfl, x1, rfl, hx1⟩
  show J_ zX11_isLetter T (po_X11_isLetter T c) 0 0 8 _ [vI x1] T
  refine j_blx (F := fX11) tb_X11 (nn_ _) bk_X11_isLetter_8 bs_X11_isLetter_8 hz (fun K hK => ?_)
  refine (show po_X11_isLetter T c T (some (vI x1)) from ?_)
  exact ⟨rfl, _, rfl, by omega⟩
abbrev cX11_isDigit : ByteArray := prog_13_method_10_code
def yX11_isDigit : MethodName := ⟨RX11, "isDigit", "(I)Z"⟩
def zX11_isDigit : Zm := (RX11, cX11_isDigit, 1, (some .boolean), { frames := 1, cells := 0, slots := 0, locals := 22 })
theorem bk_X11_isDigit_0 : ck_ fX11 (some .boolean) cX11_isDigit 0 [.iload 0, .iconst 48, .iconst 57] 5 = true := qck_r (nn_ _) (by decide +kernel)
theorem bs_X11_isDigit_0 {P : Zt → Option Zv → Prop} (K : Int → Zl → List Zv → Zt → Prop) : sx_ K P [.iload 0, .iconst 48, .iconst 57] 5 = x_iload 0 (x_iconst 48 (x_iconst 57 (K 5))) := ((xe_iload 0).trans (congrArg (x_iload 0) ((xe_iconst 48).trans (congrArg (x_iconst 48) ((xe_iconst 57).trans (congrArg (x_iconst 57) xe_nil))))))
theorem bk_X11_isDigit_8 : ck_ fX11 (some .boolean) cX11_isDigit 8 [.ireturn] 9 = true := qck_r (nn_ _) (by decide +kernel)
theorem bs_X11_isDigit_8 {P : Zt → Option Zv → Prop} (K : Int → Zl → List Zv → Zt → Prop) : sx_ K P [.ireturn] 9 = x_ireturn P := (xe_ireturn)
abbrev po_X11_isDigit (T : Zt) (c : Int) : Zt → Option Zv → Prop := fun T' r => T = T' ∧ ∃ x : Int, r = some (vI x) ∧ (x = 1 ∧ 48 ≤ c ∧ c ≤ 57 ∨ x = 0 ∧ ¬ (48 ≤ c ∧ c ≤ 57))
set_option maxHeartbeats 4000000 in
theorem ct_X11_isDigit {T : Zt} {c : Int} : Ct_ yX11_isDigit zX11_isDigit T [vI c] (po_X11_isDigit T c) := by
  refine ct_of pn_11 rfl rfl (Nat.le_of_ble_eq_true rfl) (fun hT hav => ?_)
  have hr_c : -2147483648 ≤ c ∧ c ≤ 2147483647 := hav (vI c) List.mem_cons_self
  have hz : zX11_isDigit.2.2.2.1 = some .boolean → ∀ (T' : Zt) (x : Int), po_X11_isDigit T c T' (some (vI x)) → 0 ≤ x ∧ x ≤ 1 := fun _ T' x h => by obtain ⟨-, y, e, hy⟩ := h; cases e; omega
  show J_ zX11_isDigit T (po_X11_isDigit T c) 0 0 0 [some (vI c)] [] T
  refine j_blx (F := fX11) tb_X11 (nn_ _) bk_X11_isDigit_0 bs_X11_isDigit_0 hz (fun K hK => ?_)
  refine hK 5 _ [vI 57, vI 48, vI c] T ?_
  refine j_callS (y := yX11_in) (Yc := zX11_in) (rest := []) [vI c, vI 48, vI 57] (ct_X11_in (T := T)) cl_X11_255 (qd_c (by decide +kernel)) (nn_ _) rfl (rf_of rfl) (Nat.le_of_ble_eq_true rfl) (Nat.le_of_ble_eq_true rfl) (Nat.le_of_ble_eq_true rfl) rfl ?_
  rintro _ _ ⟨rfl, x1, rfl, hx1⟩
  show J_ zX11_isDigit T (po_X11_isDigit T c) 0 0 8 _ [vI x1] T
  refine j_blx (F := fX11) tb_X11 (nn_ _) bk_X11_isDigit_8 bs_X11_isDigit_8 hz (fun K hK => ?_)
  refine (show po_X11_isDigit T c T (some (vI x1)) from ?_)
  exact ⟨rfl, _, rfl, by omega⟩
abbrev cX11_rule0 : ByteArray := prog_13_method_5_code
def yX11_rule0 : MethodName := ⟨RX11, "rule0", "(II)I"⟩
def zX11_rule0 : Zm := (RX11, cX11_rule0, 3, (some .int), { frames := 0, cells := 0, slots := 0, locals := 0 })
theorem bk_X11_rule0_0 : ck_ fX11 (some .int) cX11_rule0 0 [.aload 0, .tableswitch 0 11 5 #[], .iconst 23, .iload 1, .imul, .iload 2, .iadd, .iaload, .ireturn] 12 = true := qck_r (nn_ _) (by decide +kernel)
theorem bs_X11_rule0_0 {P : Zt → Option Zv → Prop} (K : Int → Zl → List Zv → Zt → Prop) : sx_ K P [.aload 0, .tableswitch 0 11 5 #[], .iconst 23, .iload 1, .imul, .iload 2, .iadd, .iaload, .ireturn] 12 = x_aload 0 (x_g1 111 205 (x_iconst 23 (x_iload 1 (x_imul (x_iload 2 (x_iadd (x_iaload (x_ireturn P)))))))) := ((xe_aload 0).trans (congrArg (x_aload 0) ((xe_g1 (kk := 111) rfl tl_11_5).trans (congrArg (x_g1 111 205) ((xe_iconst 23).trans (congrArg (x_iconst 23) ((xe_iload 1).trans (congrArg (x_iload 1) ((xe_imul).trans (congrArg (x_imul) ((xe_iload 2).trans (congrArg (x_iload 2) ((xe_iadd).trans (congrArg (x_iadd) ((xe_iaload).trans (congrArg (x_iaload) (xe_ireturn)))))))))))))))))
abbrev po_X11_rule0 (T : Zt) (c w : Int) : Zt → Option Zv → Prop := fun T' r => T = T' ∧ r = some (vI (T 205 0 (23 * c + w)))
set_option maxHeartbeats 4000000 in
theorem ct_X11_rule0 {T : Zt} {c w : Int} (h1 : 0 ≤ c ∧ c < 4) (h2 : 0 ≤ w ∧ w < 23) : Ct_ yX11_rule0 zX11_rule0 T [vR 111 0, vI c, vI w] (po_X11_rule0 T c w) := by
  refine ct_of pn_11 rfl rfl (Nat.le_of_ble_eq_true rfl) (fun hT hav => ?_)
  have hr_c : -2147483648 ≤ c ∧ c ≤ 2147483647 := hav (vI c) (List.mem_cons_of_mem _ List.mem_cons_self)
  have hr_w : -2147483648 ≤ w ∧ w ≤ 2147483647 := hav (vI w) (List.mem_cons_of_mem _ (List.mem_cons_of_mem _ List.mem_cons_self))
  have hz : zX11_rule0.2.2.2.1 = some .boolean → ∀ (T' : Zt) (x : Int), po_X11_rule0 T c w T' (some (vI x)) → 0 ≤ x ∧ x ≤ 1 := fun h => by cases h
  show J_ zX11_rule0 T (po_X11_rule0 T c w) 0 0 0 [some (vR 111 0), some (vI c), some (vI w)] [] T
  refine j_blx (F := fX11) tb_X11 (nn_ _) bk_X11_rule0_0 bs_X11_rule0_0 hz (fun K hK => ?_)
  refine rg_i (by omega) ?_
  refine rg_i (by omega) ?_
  refine ix_i (by omega) ?_
  intro b1 b1b
  refine (show po_X11_rule0 T c w T (some (vI (T 205 0 ((23 * c) + w)))) from ?_)
  exact ⟨rfl, rfl⟩
abbrev cX11_liveOf : ByteArray := prog_13_method_50_code
def yX11_liveOf : MethodName := ⟨RX11, "liveOf", "(II)I"⟩
def zX11_liveOf : Zm := (RX11, cX11_liveOf, 3, (some .int), { frames := 0, cells := 0, slots := 0, locals := 0 })
theorem bk_X11_liveOf_0 : ck_ fX11 (some .int) cX11_liveOf 0 [.aload 0, .tableswitch 0 11 46 #[], .iconst 8, .iload 1, .imul, .iload 2, .iadd, .iaload, .ireturn] 12 = true := qck_r (nn_ _) (by decide +kernel)
theorem bs_X11_liveOf_0 {P : Zt → Option Zv → Prop} (K : Int → Zl → List Zv → Zt → Prop) : sx_ K P [.aload 0, .tableswitch 0 11 46 #[], .iconst 8, .iload 1, .imul, .iload 2, .iadd, .iaload, .ireturn] 12 = x_aload 0 (x_g1 111 246 (x_iconst 8 (x_iload 1 (x_imul (x_iload 2 (x_iadd (x_iaload (x_ireturn P)))))))) := ((xe_aload 0).trans (congrArg (x_aload 0) ((xe_g1 (kk := 111) rfl tl_11_46).trans (congrArg (x_g1 111 246) ((xe_iconst 8).trans (congrArg (x_iconst 8) ((xe_iload 1).trans (congrArg (x_iload 1) ((xe_imul).trans (congrArg (x_imul) ((xe_iload 2).trans (congrArg (x_iload 2) ((xe_iadd).trans (congrArg (x_iadd) ((xe_iaload).trans (congrArg (x_iaload) (xe_ireturn)))))))))))))))))
abbrev po_X11_liveOf (T : Zt) (m k : Int) : Zt → Option Zv → Prop := fun T' r => T = T' ∧ r = some (vI (T 246 0 (8 * m + k)))
set_option maxHeartbeats 4000000 in
theorem ct_X11_liveOf {T : Zt} {m k : Int} (h1 : 0 ≤ m ∧ m < 400) (h2 : 0 ≤ k ∧ k < 8) : Ct_ yX11_liveOf zX11_liveOf T [vR 111 0, vI m, vI k] (po_X11_liveOf T m k) := by
  refine ct_of pn_11 rfl rfl (Nat.le_of_ble_eq_true rfl) (fun hT hav => ?_)
  have hr_m : -2147483648 ≤ m ∧ m ≤ 2147483647 := hav (vI m) (List.mem_cons_of_mem _ List.mem_cons_self)
  have hr_k : -2147483648 ≤ k ∧ k ≤ 2147483647 := hav (vI k) (List.mem_cons_of_mem _ (List.mem_cons_of_mem _ List.mem_cons_self))
  have hz : zX11_liveOf.2.2.2.1 = some .boolean → ∀ (T' : Zt) (x : Int), po_X11_liveOf T m k T' (some (vI x)) → 0 ≤ x ∧ x ≤ 1 := fun h => by cases h
  show J_ zX11_liveOf T (po_X11_liveOf T m k) 0 0 0 [some (vR 111 0), some (vI m), some (vI k)] [] T
  refine j_blx (F := fX11) tb_X11 (nn_ _) bk_X11_liveOf_0 bs_X11_liveOf_0 hz (fun K hK => ?_)
  refine rg_i (by omega) ?_
  refine rg_i (by omega) ?_
  refine ix_i (by omega) ?_
  intro b1 b1b
  refine (show po_X11_liveOf T m k T (some (vI (T 246 0 ((8 * m) + k)))) from ?_)
  exact ⟨rfl, rfl⟩
abbrev cX11_wipe : ByteArray := prog_13_method_7_code
def yX11_wipe : MethodName := ⟨RX11, "wipe", "()I"⟩
def zX11_wipe : Zm := (RX11, cX11_wipe, 2, (some .int), { frames := 0, cells := 0, slots := 0, locals := 0 })
theorem bk_X11_wipe_0 : ck_ fX11 (some .int) cX11_wipe 0 [.aload 0, .tableswitch 0 11 1 #[], .istore 1, .aload 0, .iconst 0, .tableswitch 1 11 1 #[], .iload 1, .ireturn] 12 = true := qck_r (nn_ _) (by decide +kernel)
theorem bs_X11_wipe_0 {P : Zt → Option Zv → Prop} (K : Int → Zl → List Zv → Zt → Prop) : sx_ K P [.aload 0, .tableswitch 0 11 1 #[], .istore 1, .aload 0, .iconst 0, .tableswitch 1 11 1 #[], .iload 1, .ireturn] 12 = x_aload 0 (x_g0 111 1 0 400 (x_istore 1 (x_aload 0 (x_iconst 0 (x_p 111 1 0 400 (x_iload 1 (x_ireturn P))))))) := ((xe_aload 0).trans (congrArg (x_aload 0) ((xe_g0 (kk := 111) rfl tl_11_1).trans (congrArg (x_g0 111 1 0 400) ((xe_istore 1).trans (congrArg (x_istore 1) ((xe_aload 0).trans (congrArg (x_aload 0) ((xe_iconst 0).trans (congrArg (x_iconst 0) ((xe_p (kk := 111) rfl tl_11_1).trans (congrArg (x_p 111 1 0 400) ((xe_iload 1).trans (congrArg (x_iload 1) (xe_ireturn)))))))))))))))
abbrev po_X11_wipe (T : Zt) : Zt → Option Zv → Prop := fun T' r => ∃ x : Int, r = some (vI x) ∧ fr_ [(111, [1])] T T' ∧ (T' 111 0 1 = 0 ∧ x = T 111 0 1)
set_option maxHeartbeats 4000000 in
theorem ct_X11_wipe {T : Zt} : Ct_ yX11_wipe zX11_wipe T [vR 111 0] (po_X11_wipe T) := by
  refine ct_of pn_11 rfl rfl (Nat.le_of_ble_eq_true rfl) (fun hT hav => ?_)
  have hz : zX11_wipe.2.2.2.1 = some .boolean → ∀ (T' : Zt) (x : Int), po_X11_wipe T T' (some (vI x)) → 0 ≤ x ∧ x ≤ 1 := fun h => by cases h
  show J_ zX11_wipe T (po_X11_wipe T) 0 0 0 [some (vR 111 0), none] [] T
  refine j_blx (F := fX11) tb_X11 (nn_ _) bk_X11_wipe_0 bs_X11_wipe_0 hz (fun K hK => ?_)
  intro b1 b1b
  refine bd_i (by omega) ?_
  refine x_nm (fun U2 hU2 => ?_)
  have e3 := up_f hU2
  refine (show po_X11_wipe T U2 (some (vI (T 111 0 1))) from ?_)
  have e4 : U2 111 0 1 = 0 := up_f hU2
  exact ⟨_, rfl, fr_u (fr_0 _ _) hU2 rfl, by exact ⟨by omega, rfl⟩⟩
abbrev cX11_sign : ByteArray := prog_13_method_6_code
def yX11_sign : MethodName := ⟨RX11, "sign", "(I)I"⟩
def zX11_sign : Zm := (RX11, cX11_sign, 2, (some .int), { frames := 1, cells := 0, slots := 0, locals := 22 })
abbrev po_X11_sign (T : Zt) (c : Int) : Zt → Option Zv → Prop := fun T' r => ∃ x : Int, r = some (vI x) ∧ fr_ [(111, [1]), (200, [])] T T' ∧ ((x = -3 ∧ T' 111 0 1 = T 111 0 1 ∧ ¬ (c = 10 ∨ 32 ≤ c ∧ c ≤ 126)) ∨ ((c = 10 ∨ 32 ≤ c ∧ c ≤ 126) ∧ (T 111 0 1 = 400 ∧ x = -5 ∧ T' 111 0 1 = 400 ∨ T 111 0 1 < 400 ∧ x = T 111 0 1 + 1 ∧ T' 111 0 1 = x)))
def wl_264 : List Int := [115, 112, 111, 114, 116, 32, 112, 111, 105, 110, 116, 115, 32, 111, 114, 100, 101, 114, 32, 114, 101, 100, 111, 32, 108, 101, 103, 115, 32, 101, 118, 101, 114, 121, 32, 114, 101, 115, 116, 32, 102, 105, 101, 108, 100, 32, 115, 117, 98, 115, 32, 116, 97, 114, 103, 101, 116, 32, 119, 97, 108, 107, 111, 118, 101, 114, 32, 99, 97, 114, 100, 115, 32, 114, 101, 100, 32, 115, 101, 101, 100, 32]
def wl_265 : List Int := [102, 111, 111, 116, 98, 97, 108, 108, 32, 118, 111, 108, 108, 101, 121, 98, 97, 108, 108, 32, 116, 101, 110, 110, 105, 115, 32, 98, 97, 115, 101, 98, 97, 108, 108, 32]
def wl_266 : List Int := [100, 105, 102, 102, 32, 115, 99, 111, 114, 101, 100, 32, 119, 105, 110, 115, 32, 97, 119, 97, 121, 32, 104, 101, 97, 100, 32, 102, 97, 105, 114, 32, 108, 111, 116, 115, 32]
def wl_267 : List Int := [1, 1, 1, 1, 0, 2, 1, 1, 1, 0]
def wl_268 : List Int := [4, 30, 9, 6, 5, 25, 9, 9, 9, 999]
/-- the reference's constant rows hold their words -/
def CW_ (T : Zt) : Prop := (∀ i : Int, 0 ≤ i → i < 82 → T 264 0 i = wl_264.getD i.toNat 0) ∧ (∀ i : Int, 0 ≤ i → i < 36 → T 265 0 i = wl_265.getD i.toNat 0) ∧ (∀ i : Int, 0 ≤ i → i < 37 → T 266 0 i = wl_266.getD i.toNat 0) ∧ (∀ i : Int, 0 ≤ i → i < 10 → T 267 0 i = wl_267.getD i.toNat 0) ∧ (∀ i : Int, 0 ≤ i → i < 10 → T 268 0 i = wl_268.getD i.toNat 0)
theorem CW_f {ws : List (Nat × List Int)} {T T' : Zt} (h : CW_ T) (f : fr_ ws T T') (w : (∀ j, fw_ ws 264 j = false) ∧ (∀ j, fw_ ws 265 j = false) ∧ (∀ j, fw_ ws 266 j = false) ∧ (∀ j, fw_ ws 267 j = false) ∧ (∀ j, fw_ ws 268 j = false)) : CW_ T' := ⟨fun i a b => (f 264 0 i (w.1 i)).trans (h.1 i a b), fun i a b => (f 265 0 i (w.2.1 i)).trans (h.2.1 i a b), fun i a b => (f 266 0 i (w.2.2.1 i)).trans (h.2.2.1 i a b), fun i a b => (f 267 0 i (w.2.2.2.1 i)).trans (h.2.2.2.1 i a b), fun i a b => (f 268 0 i (w.2.2.2.2 i)).trans (h.2.2.2.2 i a b)⟩
def ws_ok (w : List Int) (ts : List (Int × Int × Int)) : Bool := ts.all fun q => decide (0 ≤ q.1) && decide (q.1 ≤ q.2.2) && decide (q.2.2 < w.length) && ((List.range w.length).all fun i => if q.1 ≤ (i : Int) ∧ (i : Int) < q.2.2 then w.getD i 0 != 32 else true) && (w.getD q.2.2.toNat 0 == 32)
def wt_264 : List (Int × Int × Int) := [(0, 0, 5), (6, 1, 12), (13, 2, 18), (19, 3, 23), (24, 4, 28), (29, 5, 34), (35, 6, 39), (40, 7, 45), (46, 8, 50), (51, 9, 57), (58, 10, 66), (67, 11, 72), (73, 12, 76), (77, 13, 81)]
/-- at the start of word nr, or behind the last -/
def wp_264 (k nr : Int) : Prop := (∃ e, (k, nr, e) ∈ wt_264) ∨ (k = 82 ∧ nr = 14)
theorem wn_264 : ∀ q ∈ wt_264, 0 ≤ q.2.1 ∧ q.2.1 < 14 ∧ ((∃ e, (q.2.2 + 1, q.2.1 + 1, e) ∈ wt_264) ∨ (q.2.2 + 1 = 82 ∧ q.2.1 + 1 = 14)) := by
  have h : ∀ q ∈ wt_264, 0 ≤ q.2.1 ∧ q.2.1 < 14 ∧ ((wt_264.any fun z => z.1 == q.2.2 + 1 && z.2.1 == q.2.1 + 1) = true ∨ (q.2.2 + 1 = 82 ∧ q.2.1 + 1 = 14)) := by decide +kernel
  intro q hq
  refine ⟨(h q hq).1, (h q hq).2.1, (h q hq).2.2.imp (fun z => ?_) id⟩
  obtain ⟨⟨a, b, e⟩, h1, h2⟩ := List.any_eq_true.mp z
  simp only [Bool.and_eq_true, beq_iff_eq] at h2
  obtain ⟨rfl, rfl⟩ := h2
  exact ⟨e, h1⟩
theorem wc_264 : ws_ok wl_264 wt_264 = true := by decide +kernel
def wt_265 : List (Int × Int × Int) := [(0, 0, 8), (9, 1, 19), (20, 2, 26), (27, 3, 35)]
/-- at the start of word nr, or behind the last -/
def wp_265 (k nr : Int) : Prop := (∃ e, (k, nr, e) ∈ wt_265) ∨ (k = 36 ∧ nr = 4)
theorem wn_265 : ∀ q ∈ wt_265, 0 ≤ q.2.1 ∧ q.2.1 < 4 ∧ ((∃ e, (q.2.2 + 1, q.2.1 + 1, e) ∈ wt_265) ∨ (q.2.2 + 1 = 36 ∧ q.2.1 + 1 = 4)) := by
  have h : ∀ q ∈ wt_265, 0 ≤ q.2.1 ∧ q.2.1 < 4 ∧ ((wt_265.any fun z => z.1 == q.2.2 + 1 && z.2.1 == q.2.1 + 1) = true ∨ (q.2.2 + 1 = 36 ∧ q.2.1 + 1 = 4)) := by decide +kernel
  intro q hq
  refine ⟨(h q hq).1, (h q hq).2.1, (h q hq).2.2.imp (fun z => ?_) id⟩
  obtain ⟨⟨a, b, e⟩, h1, h2⟩ := List.any_eq_true.mp z
  simp only [Bool.and_eq_true, beq_iff_eq] at h2
  obtain ⟨rfl, rfl⟩ := h2
  exact ⟨e, h1⟩
theorem wc_265 : ws_ok wl_265 wt_265 = true := by decide +kernel
def wt_266 : List (Int × Int × Int) := [(0, 0, 4), (5, 1, 11), (12, 2, 16), (17, 3, 21), (22, 4, 26), (27, 5, 31), (32, 6, 36)]
/-- at the start of word nr, or behind the last -/
def wp_266 (k nr : Int) : Prop := (∃ e, (k, nr, e) ∈ wt_266) ∨ (k = 37 ∧ nr = 7)
theorem wn_266 : ∀ q ∈ wt_266, 0 ≤ q.2.1 ∧ q.2.1 < 7 ∧ ((∃ e, (q.2.2 + 1, q.2.1 + 1, e) ∈ wt_266) ∨ (q.2.2 + 1 = 37 ∧ q.2.1 + 1 = 7)) := by
  have h : ∀ q ∈ wt_266, 0 ≤ q.2.1 ∧ q.2.1 < 7 ∧ ((wt_266.any fun z => z.1 == q.2.2 + 1 && z.2.1 == q.2.1 + 1) = true ∨ (q.2.2 + 1 = 37 ∧ q.2.1 + 1 = 7)) := by decide +kernel
  intro q hq
  refine ⟨(h q hq).1, (h q hq).2.1, (h q hq).2.2.imp (fun z => ?_) id⟩
  obtain ⟨⟨a, b, e⟩, h1, h2⟩ := List.any_eq_true.mp z
  simp only [Bool.and_eq_true, beq_iff_eq] at h2
  obtain ⟨rfl, rfl⟩ := h2
  exact ⟨e, h1⟩
theorem wc_266 : ws_ok wl_266 wt_266 = true := by decide +kernel
abbrev cX11_bad : ByteArray := prog_13_method_8_code
def yX11_bad : MethodName := ⟨RX11, "bad", "(II)V"⟩
def zX11_bad : Zm := (RX11, cX11_bad, 3, none, { frames := 0, cells := 0, slots := 0, locals := 0 })
theorem bk_X11_bad_0 : ck_ fX11 none cX11_bad 0 [.aload 0, .tableswitch 0 11 62 #[], .ifCond .ne 17, .aload 0, .iload 1, .tableswitch 1 11 62 #[], .aload 0, .iload 2, .tableswitch 1 11 63 #[], .return_] 18 = true := qck_r (nn_ _) (by decide +kernel)
theorem bs_X11_bad_0 {P : Zt → Option Zv → Prop} (K : Int → Zl → List Zv → Zt → Prop) : sx_ K P [.aload 0, .tableswitch 0 11 62 #[], .ifCond .ne 17, .aload 0, .iload 1, .tableswitch 1 11 62 #[], .aload 0, .iload 2, .tableswitch 1 11 63 #[], .return_] 18 = x_aload 0 (x_g0 111 62 0 5 (x_ifCond .ne 17 K (x_aload 0 (x_iload 1 (x_p 111 62 0 5 (x_aload 0 (x_iload 2 (x_p 111 63 (-1) 400 (x_return_ P))))))))) := ((xe_aload 0).trans (congrArg (x_aload 0) ((xe_g0 (kk := 111) rfl tl_11_62).trans (congrArg (x_g0 111 62 0 5) ((xe_ifCond .ne 17).trans (congrArg (x_ifCond .ne 17 K) ((xe_aload 0).trans (congrArg (x_aload 0) ((xe_iload 1).trans (congrArg (x_iload 1) ((xe_p (kk := 111) rfl tl_11_62).trans (congrArg (x_p 111 62 0 5) ((xe_aload 0).trans (congrArg (x_aload 0) ((xe_iload 2).trans (congrArg (x_iload 2) ((xe_p (kk := 111) rfl tl_11_63).trans (congrArg (x_p 111 63 (-1) 400) (xe_return_)))))))))))))))))))
theorem bk_X11_bad_17 : ck_ fX11 none cX11_bad 17 [.return_] 18 = true := qck_r (nn_ _) (by decide +kernel)
theorem bs_X11_bad_17 {P : Zt → Option Zv → Prop} (K : Int → Zl → List Zv → Zt → Prop) : sx_ K P [.return_] 18 = x_return_ P := (xe_return_)
abbrev cX11_take : ByteArray := prog_13_method_11_code
def yX11_take : MethodName := ⟨RX11, "take", "()V"⟩
def zX11_take : Zm := (RX11, cX11_take, 2, none, { frames := 2, cells := 0, slots := 0, locals := 42 })
set_option maxRecDepth 100000 in
theorem cl_X11_281 : cv_ RX11 281 yX11_bad zX11_bad 11 2 := ⟨gi_V (lwq_8 (dqc_m (dqc_m (dqc_m (dqa_m (dqa_m (List.mem_of_getElem? (i := 5) rfl)))))) rfl : Cond.methodLink RX11 281 yX11_bad ∈ lw_g) (lwq_8 (dqc_m (dqc_m (dqc_m (dqa_m (dqa_m (List.mem_of_getElem? (i := 7) rfl)))))) rfl : Cond.instanceMethod yX11_bad ∈ lw_g) (lw_sel 7 rfl : Cond.selects yX11_bad.cls yX11_bad yX11_bad ∈ lw_g) (lwq_1 (dqa_m (List.mem_of_getElem? (i := 2) rfl)) rfl : Cond.initialized yX11_bad.cls ∈ lw_g) (lwq_8 (dqc_m (dqc_m (dqc_m (dqa_m (dqa_m (dqa_m (List.mem_of_getElem? (i := 0) rfl))))))) rfl : Cond.code yX11_bad cX11_bad 3 none ∈ lw_g), ⟨nmh_1.1, nmh_1.2, pdq_0⟩, ⟨_, _, rfl⟩⟩
set_option maxRecDepth 100000 in
theorem cl_X11_277 : cs_ RX11 277 yX11_isLetter zX11_isLetter 1 := ⟨gi_S (lwq_8 (dqc_m (dqc_m (dqc_m (dqa_m (dqa_m (List.mem_of_getElem? (i := 2) rfl)))))) rfl : Cond.methodLink RX11 277 yX11_isLetter ∈ lw_g) (lwq_8 (dqc_m (dqc_m (dqc_m (dqa_m (dqa_m (List.mem_of_getElem? (i := 3) rfl)))))) rfl : Cond.static yX11_isLetter ∈ lw_g) (lwq_1 (dqa_m (List.mem_of_getElem? (i := 2) rfl)) rfl : Cond.initialized yX11_isLetter.cls ∈ lw_g) (lwq_8 (dqc_m (dqc_m (dqc_m (dqa_m (dqa_m (List.mem_of_getElem? (i := 4) rfl)))))) rfl : Cond.code yX11_isLetter cX11_isLetter 1 (some .boolean) ∈ lw_g), ⟨by decide, by decide, by decide +kernel⟩⟩
set_option maxRecDepth 100000 in
theorem cl_X11_285 : cs_ RX11 285 yX11_isDigit zX11_isDigit 1 := ⟨gi_S (lwq_8 (dqc_m (dqc_m (dqc_m (dqa_m (dqa_m (dqa_m (List.mem_of_getElem? (i := 1) rfl))))))) rfl : Cond.methodLink RX11 285 yX11_isDigit ∈ lw_g) (lwq_8 (dqc_m (dqc_m (dqc_m (dqa_m (dqa_m (dqa_m (List.mem_of_getElem? (i := 2) rfl))))))) rfl : Cond.static yX11_isDigit ∈ lw_g) (lwq_1 (dqa_m (List.mem_of_getElem? (i := 2) rfl)) rfl : Cond.initialized yX11_isDigit.cls ∈ lw_g) (lwq_8 (dqc_m (dqc_m (dqc_m (dqa_m (dqa_m (dqa_m (List.mem_of_getElem? (i := 3) rfl))))))) rfl : Cond.code yX11_isDigit cX11_isDigit 1 (some .boolean) ∈ lw_g), ⟨by decide, by decide, by decide +kernel⟩⟩
-- whichOf over the row 264
abbrev cX11_whichOf : ByteArray := prog_13_method_12_code
def yX11_whichOf : MethodName := ⟨RX11, "whichOf", "([I)I"⟩
def zX11_whichOf : Zm := (RX11, cX11_whichOf, 7, (some .int), { frames := 0, cells := 0, slots := 0, locals := 0 })
theorem bk_X11_whichOf_7 : ck_ fX11 (some .int) cX11_whichOf 7 [.iload 4, .aload 1, .arraylength, .if_icmp .ge 126, .iconst 0, .istore 5, .iconst 1, .istore 6] 20 = true := qck_r (nn_ _) (by decide +kernel)
theorem bs_X11_whichOf_7 {P : Zt → Option Zv → Prop} (K : Int → Zl → List Zv → Zt → Prop) : sx_ K P [.iload 4, .aload 1, .arraylength, .if_icmp .ge 126, .iconst 0, .istore 5, .iconst 1, .istore 6] 20 = x_iload 4 (x_aload 1 (x_arraylength (x_if_icmp .ge 126 K (x_iconst 0 (x_istore 5 (x_iconst 1 (x_istore 6 (K 20)))))))) := ((xe_iload 4).trans (congrArg (x_iload 4) ((xe_aload 1).trans (congrArg (x_aload 1) ((xe_arraylength).trans (congrArg (x_arraylength) ((xe_if_icmp .ge 126).trans (congrArg (x_if_icmp .ge 126 K) ((xe_iconst 0).trans (congrArg (x_iconst 0) ((xe_istore 5).trans (congrArg (x_istore 5) ((xe_iconst 1).trans (congrArg (x_iconst 1) ((xe_istore 6).trans (congrArg (x_istore 6) xe_nil))))))))))))))))
theorem bk_X11_whichOf_126 : ck_ fX11 (some .int) cX11_whichOf 126 [.iload 2, .ireturn] 128 = true := qck_r (nn_ _) (by decide +kernel)
theorem bs_X11_whichOf_126 {P : Zt → Option Zv → Prop} (K : Int → Zl → List Zv → Zt → Prop) : sx_ K P [.iload 2, .ireturn] 128 = x_iload 2 (x_ireturn P) := ((xe_iload 2).trans (congrArg (x_iload 2) (xe_ireturn)))
theorem bk_X11_whichOf_78 : ck_ fX11 (some .int) cX11_whichOf 78 [.istore 6, .iinc 5 1, .goto 20] 86 = true := qck_r (nn_ _) (by decide +kernel)
theorem bs_X11_whichOf_78 {P : Zt → Option Zv → Prop} (K : Int → Zl → List Zv → Zt → Prop) : sx_ K P [.istore 6, .iinc 5 1, .goto 20] 86 = x_istore 6 (x_iinc 5 1 (x_goto 20 K)) := ((xe_istore 6).trans (congrArg (x_istore 6) ((xe_iinc 5 1).trans (congrArg (x_iinc 5 1) (xe_goto 20)))))
theorem bk_X11_whichOf_110 : ck_ fX11 (some .int) cX11_whichOf 110 [.istore 2, .iinc 3 1, .iload 4, .iload 5, .iconst 1, .iadd, .iadd, .istore 4, .goto 7] 126 = true := qck_r (nn_ _) (by decide +kernel)
theorem bs_X11_whichOf_110 {P : Zt → Option Zv → Prop} (K : Int → Zl → List Zv → Zt → Prop) : sx_ K P [.istore 2, .iinc 3 1, .iload 4, .iload 5, .iconst 1, .iadd, .iadd, .istore 4, .goto 7] 126 = x_istore 2 (x_iinc 3 1 (x_iload 4 (x_iload 5 (x_iconst 1 (x_iadd (x_iadd (x_istore 4 (x_goto 7 K)))))))) := ((xe_istore 2).trans (congrArg (x_istore 2) ((xe_iinc 3 1).trans (congrArg (x_iinc 3 1) ((xe_iload 4).trans (congrArg (x_iload 4) ((xe_iload 5).trans (congrArg (x_iload 5) ((xe_iconst 1).trans (congrArg (x_iconst 1) ((xe_iadd).trans (congrArg (x_iadd) ((xe_iadd).trans (congrArg (x_iadd) ((xe_istore 4).trans (congrArg (x_istore 4) (xe_goto 7)))))))))))))))))
theorem bk_X11_whichOf_20 : ck_ fX11 (some .int) cX11_whichOf 20 [.aload 1, .iload 4, .iload 5, .iadd, .iaload, .iconst 32, .if_icmp .eq 86, .iload 6, .ifCond .eq 77, .aload 0, .tableswitch 0 11 59 #[], .iload 5, .iadd, .aload 0, .tableswitch 0 11 60 #[], .if_icmp .ge 77, .aload 0, .tableswitch 0 11 0 #[], .aload 0, .tableswitch 0 11 59 #[], .iload 5, .iadd, .iaload, .aload 1, .iload 4, .iload 5, .iadd, .iaload, .if_icmp .ne 77, .iconst 1, .goto 78] 77 = true := qck_r (nn_ _) (by decide +kernel)
theorem bs_X11_whichOf_20 {P : Zt → Option Zv → Prop} (K : Int → Zl → List Zv → Zt → Prop) : sx_ K P [.aload 1, .iload 4, .iload 5, .iadd, .iaload, .iconst 32, .if_icmp .eq 86, .iload 6, .ifCond .eq 77, .aload 0, .tableswitch 0 11 59 #[], .iload 5, .iadd, .aload 0, .tableswitch 0 11 60 #[], .if_icmp .ge 77, .aload 0, .tableswitch 0 11 0 #[], .aload 0, .tableswitch 0 11 59 #[], .iload 5, .iadd, .iaload, .aload 1, .iload 4, .iload 5, .iadd, .iaload, .if_icmp .ne 77, .iconst 1, .goto 78] 77 = x_aload 1 (x_iload 4 (x_iload 5 (x_iadd (x_iaload (x_iconst 32 (x_if_icmp .eq 86 K (x_iload 6 (x_ifCond .eq 77 K (x_aload 0 (x_g0 111 59 0 400 (x_iload 5 (x_iadd (x_aload 0 (x_g0 111 60 0 400 (x_if_icmp .ge 77 K (x_aload 0 (x_g1 111 200 (x_aload 0 (x_g0 111 59 0 400 (x_iload 5 (x_iadd (x_iaload (x_aload 1 (x_iload 4 (x_iload 5 (x_iadd (x_iaload (x_if_icmp .ne 77 K (x_iconst 1 (x_goto 78 K)))))))))))))))))))))))))))))) := ((xe_aload 1).trans (congrArg (x_aload 1) ((xe_iload 4).trans (congrArg (x_iload 4) ((xe_iload 5).trans (congrArg (x_iload 5) ((xe_iadd).trans (congrArg (x_iadd) ((xe_iaload).trans (congrArg (x_iaload) ((xe_iconst 32).trans (congrArg (x_iconst 32) ((xe_if_icmp .eq 86).trans (congrArg (x_if_icmp .eq 86 K) ((xe_iload 6).trans (congrArg (x_iload 6) ((xe_ifCond .eq 77).trans (congrArg (x_ifCond .eq 77 K) ((xe_aload 0).trans (congrArg (x_aload 0) ((xe_g0 (kk := 111) rfl tl_11_59).trans (congrArg (x_g0 111 59 0 400) ((xe_iload 5).trans (congrArg (x_iload 5) ((xe_iadd).trans (congrArg (x_iadd) ((xe_aload 0).trans (congrArg (x_aload 0) ((xe_g0 (kk := 111) rfl tl_11_60).trans (congrArg (x_g0 111 60 0 400) ((xe_if_icmp .ge 77).trans (congrArg (x_if_icmp .ge 77 K) ((xe_aload 0).trans (congrArg (x_aload 0) ((xe_g1 (kk := 111) rfl tl_11_0).trans (congrArg (x_g1 111 200) ((xe_aload 0).trans (congrArg (x_aload 0) ((xe_g0 (kk := 111) rfl tl_11_59).trans (congrArg (x_g0 111 59 0 400) ((xe_iload 5).trans (congrArg (x_iload 5) ((xe_iadd).trans (congrArg (x_iadd) ((xe_iaload).trans (congrArg (x_iaload) ((xe_aload 1).trans (congrArg (x_aload 1) ((xe_iload 4).trans (congrArg (x_iload 4) ((xe_iload 5).trans (congrArg (x_iload 5) ((xe_iadd).trans (congrArg (x_iadd) ((xe_iaload).trans (congrArg (x_iaload) ((xe_if_icmp .ne 77).trans (congrArg (x_if_icmp .ne 77 K) ((xe_iconst 1).trans (congrArg (x_iconst 1) (xe_goto 78)))))))))))))))))))))))))))))))))))))))))))))))))))))))))))))
theorem bk_X11_whichOf_86 : ck_ fX11 (some .int) cX11_whichOf 86 [.iload 6, .ifCond .eq 109, .iload 5, .aload 0, .tableswitch 0 11 60 #[], .aload 0, .tableswitch 0 11 59 #[], .isub, .if_icmp .ne 109, .iload 3, .goto 110] 109 = true := qck_r (nn_ _) (by decide +kernel)
theorem bs_X11_whichOf_86 {P : Zt → Option Zv → Prop} (K : Int → Zl → List Zv → Zt → Prop) : sx_ K P [.iload 6, .ifCond .eq 109, .iload 5, .aload 0, .tableswitch 0 11 60 #[], .aload 0, .tableswitch 0 11 59 #[], .isub, .if_icmp .ne 109, .iload 3, .goto 110] 109 = x_iload 6 (x_ifCond .eq 109 K (x_iload 5 (x_aload 0 (x_g0 111 60 0 400 (x_aload 0 (x_g0 111 59 0 400 (x_isub (x_if_icmp .ne 109 K (x_iload 3 (x_goto 110 K)))))))))) := ((xe_iload 6).trans (congrArg (x_iload 6) ((xe_ifCond .eq 109).trans (congrArg (x_ifCond .eq 109 K) ((xe_iload 5).trans (congrArg (x_iload 5) ((xe_aload 0).trans (congrArg (x_aload 0) ((xe_g0 (kk := 111) rfl tl_11_60).trans (congrArg (x_g0 111 60 0 400) ((xe_aload 0).trans (congrArg (x_aload 0) ((xe_g0 (kk := 111) rfl tl_11_59).trans (congrArg (x_g0 111 59 0 400) ((xe_isub).trans (congrArg (x_isub) ((xe_if_icmp .ne 109).trans (congrArg (x_if_icmp .ne 109 K) ((xe_iload 3).trans (congrArg (x_iload 3) (xe_goto 110)))))))))))))))))))))
theorem bk_X11_whichOf_109 : ck_ fX11 (some .int) cX11_whichOf 109 [.iload 2] 110 = true := qck_r (nn_ _) (by decide +kernel)
theorem bs_X11_whichOf_109 {P : Zt → Option Zv → Prop} (K : Int → Zl → List Zv → Zt → Prop) : sx_ K P [.iload 2] 110 = x_iload 2 (K 110) := ((xe_iload 2).trans (congrArg (x_iload 2) xe_nil))
theorem bk_X11_whichOf_77 : ck_ fX11 (some .int) cX11_whichOf 77 [.iconst 0] 78 = true := qck_r (nn_ _) (by decide +kernel)
theorem bs_X11_whichOf_77 {P : Zt → Option Zv → Prop} (K : Int → Zl → List Zv → Zt → Prop) : sx_ K P [.iconst 0] 78 = x_iconst 0 (K 78) := ((xe_iconst 0).trans (congrArg (x_iconst 0) xe_nil))
theorem bk_X11_whichOf_0 : ck_ fX11 (some .int) cX11_whichOf 0 [.iconst (-1), .istore 2, .iconst 0, .istore 3, .iconst 0, .istore 4] 7 = true := qck_r (nn_ _) (by decide +kernel)
theorem bs_X11_whichOf_0 {P : Zt → Option Zv → Prop} (K : Int → Zl → List Zv → Zt → Prop) : sx_ K P [.iconst (-1), .istore 2, .iconst 0, .istore 3, .iconst 0, .istore 4] 7 = x_iconst (-1) (x_istore 2 (x_iconst 0 (x_istore 3 (x_iconst 0 (x_istore 4 (K 7)))))) := ((xe_iconst (-1)).trans (congrArg (x_iconst (-1)) ((xe_istore 2).trans (congrArg (x_istore 2) ((xe_iconst 0).trans (congrArg (x_iconst 0) ((xe_istore 3).trans (congrArg (x_istore 3) ((xe_iconst 0).trans (congrArg (x_iconst 0) ((xe_istore 4).trans (congrArg (x_istore 4) xe_nil))))))))))))
def rb_l : List (Int × Int) := [(0, 3), (0, 9), (0, 9), (0, 9), (0, 7), (0, 1), (1, 4), (1, 30), (1, 9), (1, 6), (0, 5), (2, 25), (1, 9), (1, 9), (1, 9), (0, 999), ((-1), 6), ((-1), 6), ((-1), 6), ((-1), 6), ((-1), 6), ((-1), 6), ((-1), 6)]
/-- the bounds of a rule -/
def rb_ (w : Int) : Int × Int := rb_l.getD w.toNat (-1, 999)
def RI_ (T : Zt) : Prop := ∀ c w : Int, 0 ≤ c → c < T 111 0 6 → 0 ≤ w → w < 23 → (rb_ w).1 ≤ T 205 0 (23 * c + w) ∧ T 205 0 (23 * c + w) ≤ (rb_ w).2
theorem RI__f {ws : List (Nat × List Int)} {T T' : Zt} (h : RI_ T) (f : fr_ ws T T') (w : (∀ j, fw_ ws 205 j = false) ∧ fw_ ws 111 6 = false ∧ True) : RI_ T' := by
  have e0 : ∀ i j, T' 205 i j = T 205 i j := fun i j => f 205 i j (w.1 j)
  have e1 : ∀ i, T' 111 i 6 = T 111 i 6 := fun i => f 111 i 6 w.2.1
  simp only [RI_, e0, e1] at h ⊢
  exact h
def RW_ (T : Zt) : Prop := ∀ c : Int, 0 ≤ c → c < T 111 0 6 → T 205 0 (23 * c + 2) ≤ T 205 0 (23 * c + 1) ∧ T 205 0 (23 * c + 3) ≤ T 205 0 (23 * c + 2)
theorem RW__f {ws : List (Nat × List Int)} {T T' : Zt} (h : RW_ T) (f : fr_ ws T T') (w : (∀ j, fw_ ws 205 j = false) ∧ fw_ ws 111 6 = false ∧ True) : RW_ T' := by
  have e0 : ∀ i j, T' 205 i j = T 205 i j := fun i j => f 205 i j (w.1 j)
  have e1 : ∀ i, T' 111 i 6 = T 111 i 6 := fun i => f 111 i 6 w.2.1
  simp only [RW_, e0, e1] at h ⊢
  exact h
theorem CX_f {ws : List (Nat × List Int)} {T T' : Zt} (h : CW_ T) (f : fr_ ws T T') (w : (∀ j, fw_ ws 264 j = false) ∧ (∀ j, fw_ ws 265 j = false) ∧ (∀ j, fw_ ws 266 j = false) ∧ (∀ j, fw_ ws 267 j = false) ∧ (∀ j, fw_ ws 268 j = false) ∧ True) : CW_ T' := CW_f h f ⟨w.1, w.2.1, w.2.2.1, w.2.2.2.1, w.2.2.2.2.1⟩
abbrev cX11_layDefaults : ByteArray := prog_13_method_13_code
def yX11_layDefaults : MethodName := ⟨RX11, "layDefaults", "()V"⟩
def zX11_layDefaults : Zm := (RX11, cX11_layDefaults, 2, none, { frames := 0, cells := 0, slots := 0, locals := 0 })
abbrev cX11_wantNumber : ByteArray := prog_13_method_14_code
def yX11_wantNumber : MethodName := ⟨RX11, "wantNumber", "(III)V"⟩
def zX11_wantNumber : Zm := (RX11, cX11_wantNumber, 4, none, { frames := 3, cells := 0, slots := 0, locals := 63 })
set_option maxRecDepth 100000 in
theorem cl_X11_291 : cv_ RX11 291 yX11_take zX11_take 11 0 := ⟨gi_V (lwq_8 (dqc_m (dqc_m (dqc_m (dqa_m (List.mem_of_getElem? (i := 6) rfl))))) rfl : Cond.methodLink RX11 291 yX11_take ∈ lw_g) (lwq_8 (dqc_m (dqc_m (dqc_m (dqa_m (dqa_m (List.mem_of_getElem? (i := 0) rfl)))))) rfl : Cond.instanceMethod yX11_take ∈ lw_g) (lw_sel 72 rfl : Cond.selects yX11_take.cls yX11_take yX11_take ∈ lw_g) (lwq_1 (dqa_m (List.mem_of_getElem? (i := 2) rfl)) rfl : Cond.initialized yX11_take.cls ∈ lw_g) (lwq_8 (dqc_m (dqc_m (dqc_m (dqa_m (dqa_m (List.mem_of_getElem? (i := 1) rfl)))))) rfl : Cond.code yX11_take cX11_take 2 none ∈ lw_g), ⟨nmh_1.1, nmh_1.2, pdq_1⟩, ⟨_, _, rfl⟩⟩
abbrev cX11_readSport : ByteArray := prog_13_method_15_code
def yX11_readSport : MethodName := ⟨RX11, "readSport", "()V"⟩
def zX11_readSport : Zm := (RX11, cX11_readSport, 2, none, { frames := 3, cells := 0, slots := 0, locals := 63 })
set_option maxRecDepth 100000 in
theorem cl_X11_294 : cv_ RX11 294 yX11_whichOf zX11_whichOf 11 1 := ⟨gi_V (lwq_8 (dqc_m (dqc_m (dqc_m (dqc_m (List.mem_of_getElem? (i := 0) rfl))))) rfl : Cond.methodLink RX11 294 yX11_whichOf ∈ lw_g) (lwq_8 (dqc_m (dqc_m (dqc_m (dqc_m (List.mem_of_getElem? (i := 2) rfl))))) rfl : Cond.instanceMethod yX11_whichOf ∈ lw_g) (lw_sel 79 rfl : Cond.selects yX11_whichOf.cls yX11_whichOf yX11_whichOf ∈ lw_g) (lwq_1 (dqa_m (List.mem_of_getElem? (i := 2) rfl)) rfl : Cond.initialized yX11_whichOf.cls ∈ lw_g) (lwq_8 (dqc_m (dqc_m (dqc_m (dqc_m (List.mem_of_getElem? (i := 3) rfl))))) rfl : Cond.code yX11_whichOf cX11_whichOf 7 (some .int) ∈ lw_g), ⟨nmh_1.1, nmh_1.2, pdq_2⟩, ⟨_, _, rfl⟩⟩
abbrev cX11_readOrder : ByteArray := prog_13_method_16_code
def yX11_readOrder : MethodName := ⟨RX11, "readOrder", "()V"⟩
def zX11_readOrder : Zm := (RX11, cX11_readOrder, 3, none, { frames := 3, cells := 0, slots := 0, locals := 63 })
abbrev cX11_readStatement : ByteArray := prog_13_method_17_code
def yX11_readStatement : MethodName := ⟨RX11, "readStatement", "()V"⟩
def zX11_readStatement : Zm := (RX11, cX11_readStatement, 2, none, { frames := 4, cells := 0, slots := 0, locals := 86 })
set_option maxRecDepth 100000 in
theorem cl_X11_304 : cv_ RX11 304 yX11_wantNumber zX11_wantNumber 11 3 := ⟨gi_V (lwq_8 (dqc_m (dqc_m (dqc_m (dqc_m (dqa_m (List.mem_of_getElem? (i := 4) rfl)))))) rfl : Cond.methodLink RX11 304 yX11_wantNumber ∈ lw_g) (lwq_8 (dqc_m (dqc_m (dqc_m (dqc_m (dqa_m (List.mem_of_getElem? (i := 6) rfl)))))) rfl : Cond.instanceMethod yX11_wantNumber ∈ lw_g) (lw_sel 78 rfl : Cond.selects yX11_wantNumber.cls yX11_wantNumber yX11_wantNumber ∈ lw_g) (lwq_1 (dqa_m (List.mem_of_getElem? (i := 2) rfl)) rfl : Cond.initialized yX11_wantNumber.cls ∈ lw_g) (lwq_8 (dqc_m (dqc_m (dqc_m (dqc_m (dqa_m (List.mem_of_getElem? (i := 7) rfl)))))) rfl : Cond.code yX11_wantNumber cX11_wantNumber 4 none ∈ lw_g), ⟨nmh_1.1, nmh_1.2, pdq_3⟩, ⟨_, _, rfl⟩⟩
set_option maxRecDepth 100000 in
theorem cl_X11_301 : cv_ RX11 301 yX11_readSport zX11_readSport 11 0 := ⟨gi_V (lwq_8 (dqc_m (dqc_m (dqc_m (dqc_m (dqa_m (List.mem_of_getElem? (i := 0) rfl)))))) rfl : Cond.methodLink RX11 301 yX11_readSport ∈ lw_g) (lwq_8 (dqc_m (dqc_m (dqc_m (dqc_m (dqa_m (List.mem_of_getElem? (i := 2) rfl)))))) rfl : Cond.instanceMethod yX11_readSport ∈ lw_g) (lw_sel 55 rfl : Cond.selects yX11_readSport.cls yX11_readSport yX11_readSport ∈ lw_g) (lwq_1 (dqa_m (List.mem_of_getElem? (i := 2) rfl)) rfl : Cond.initialized yX11_readSport.cls ∈ lw_g) (lwq_8 (dqc_m (dqc_m (dqc_m (dqc_m (dqa_m (List.mem_of_getElem? (i := 3) rfl)))))) rfl : Cond.code yX11_readSport cX11_readSport 2 none ∈ lw_g), ⟨nmh_1.1, nmh_1.2, pdq_1⟩, ⟨_, _, rfl⟩⟩
set_option maxRecDepth 100000 in
theorem cl_X11_298 : cv_ RX11 298 yX11_readOrder zX11_readOrder 11 0 := ⟨gi_V (lwq_8 (dqc_m (dqc_m (dqc_m (dqc_m (List.mem_of_getElem? (i := 4) rfl))))) rfl : Cond.methodLink RX11 298 yX11_readOrder ∈ lw_g) (lwq_8 (dqc_m (dqc_m (dqc_m (dqc_m (List.mem_of_getElem? (i := 6) rfl))))) rfl : Cond.instanceMethod yX11_readOrder ∈ lw_g) (lw_sel 54 rfl : Cond.selects yX11_readOrder.cls yX11_readOrder yX11_readOrder ∈ lw_g) (lwq_1 (dqa_m (List.mem_of_getElem? (i := 2) rfl)) rfl : Cond.initialized yX11_readOrder.cls ∈ lw_g) (lwq_8 (dqc_m (dqc_m (dqc_m (dqc_m (List.mem_of_getElem? (i := 7) rfl))))) rfl : Cond.code yX11_readOrder cX11_readOrder 3 none ∈ lw_g), ⟨nmh_1.1, nmh_1.2, pdq_1⟩, ⟨_, _, rfl⟩⟩
abbrev cX11_competition : ByteArray := prog_13_method_18_code
def yX11_competition : MethodName := ⟨RX11, "competition", "()I"⟩
def zX11_competition : Zm := (RX11, cX11_competition, 3, (some .int), { frames := 5, cells := 0, slots := 0, locals := 107 })
set_option maxRecDepth 100000 in
theorem cl_X11_314 : cv_ RX11 314 yX11_readStatement zX11_readStatement 11 0 := ⟨gi_V (lwq_8 (dqc_m (dqc_m (dqc_m (dqa_m (dqa_m (dqa_m (List.mem_of_getElem? (i := 4) rfl))))))) rfl : Cond.methodLink RX11 314 yX11_readStatement ∈ lw_g) (lwq_8 (dqc_m (dqc_m (dqc_m (dqa_m (dqa_m (dqa_m (List.mem_of_getElem? (i := 6) rfl))))))) rfl : Cond.instanceMethod yX11_readStatement ∈ lw_g) (lw_sel 56 rfl : Cond.selects yX11_readStatement.cls yX11_readStatement yX11_readStatement ∈ lw_g) (lwq_1 (dqa_m (List.mem_of_getElem? (i := 2) rfl)) rfl : Cond.initialized yX11_readStatement.cls ∈ lw_g) (lwq_8 (dqc_m (dqc_m (dqc_m (dqa_m (dqa_m (dqa_m (List.mem_of_getElem? (i := 7) rfl))))))) rfl : Cond.code yX11_readStatement cX11_readStatement 2 none ∈ lw_g), ⟨nmh_1.1, nmh_1.2, pdq_1⟩, ⟨_, _, rfl⟩⟩
set_option maxRecDepth 100000 in
theorem cl_X11_311 : cv_ RX11 311 yX11_layDefaults zX11_layDefaults 11 0 := ⟨gi_V (lwq_8 (dqc_m (dqc_m (dqc_m (dqa_m (List.mem_of_getElem? (i := 2) rfl))))) rfl : Cond.methodLink RX11 311 yX11_layDefaults ∈ lw_g) (lwq_8 (dqc_m (dqc_m (dqc_m (dqa_m (List.mem_of_getElem? (i := 4) rfl))))) rfl : Cond.instanceMethod yX11_layDefaults ∈ lw_g) (lw_sel 33 rfl : Cond.selects yX11_layDefaults.cls yX11_layDefaults yX11_layDefaults ∈ lw_g) (lwq_1 (dqa_m (List.mem_of_getElem? (i := 2) rfl)) rfl : Cond.initialized yX11_layDefaults.cls ∈ lw_g) (lwq_8 (dqc_m (dqc_m (dqc_m (dqa_m (List.mem_of_getElem? (i := 5) rfl))))) rfl : Cond.code yX11_layDefaults cX11_layDefaults 2 none ∈ lw_g), ⟨nmh_1.1, nmh_1.2, pdq_1⟩, ⟨_, _, rfl⟩⟩
abbrev cX11_fault : ByteArray := prog_13_method_19_code
def yX11_fault : MethodName := ⟨RX11, "fault", "()I"⟩
def zX11_fault : Zm := (RX11, cX11_fault, 1, (some .int), { frames := 0, cells := 0, slots := 0, locals := 0 })
abbrev cX11_rule : ByteArray := prog_13_method_20_code
def yX11_rule : MethodName := ⟨RX11, "rule", "(II)I"⟩
def zX11_rule : Zm := (RX11, cX11_rule, 3, (some .int), { frames := 2, cells := 0, slots := 0, locals := 43 })
set_option maxRecDepth 100000 in
theorem cl_X11_317 : cs_ RX11 317 yX11_isOf zX11_isOf 2 := ⟨gi_S (lwq_8 (dqc_m (dqc_m (dqc_m (dqc_m (dqa_m (dqa_m (dqa_m (List.mem_of_getElem? (i := 0) rfl)))))))) rfl : Cond.methodLink RX11 317 yX11_isOf ∈ lw_g) (lwq_8 (dqc_m (dqc_m (dqc_m (dqc_m (dqa_m (dqa_m (dqa_m (List.mem_of_getElem? (i := 1) rfl)))))))) rfl : Cond.static yX11_isOf ∈ lw_g) (lwq_1 (dqa_m (List.mem_of_getElem? (i := 2) rfl)) rfl : Cond.initialized yX11_isOf.cls ∈ lw_g) (lwq_8 (dqc_m (dqc_m (dqc_m (dqc_m (dqa_m (dqa_m (dqa_m (List.mem_of_getElem? (i := 2) rfl)))))))) rfl : Cond.code yX11_isOf cX11_isOf 2 (some .boolean) ∈ lw_g), ⟨by decide, by decide, by decide +kernel⟩⟩
set_option maxRecDepth 100000 in
theorem cl_X11_321 : cv_ RX11 321 yX11_rule0 zX11_rule0 11 2 := ⟨gi_V (lwq_8 (dqc_m (dqc_m (dqc_m (dqc_m (dqa_m (dqa_m (dqa_m (List.mem_of_getElem? (i := 3) rfl)))))))) rfl : Cond.methodLink RX11 321 yX11_rule0 ∈ lw_g) (lwq_8 (dqc_m (dqc_m (dqc_m (dqc_m (dqa_m (dqa_m (dqa_m (List.mem_of_getElem? (i := 5) rfl)))))))) rfl : Cond.instanceMethod yX11_rule0 ∈ lw_g) (lw_sel 59 rfl : Cond.selects yX11_rule0.cls yX11_rule0 yX11_rule0 ∈ lw_g) (lwq_1 (dqa_m (List.mem_of_getElem? (i := 2) rfl)) rfl : Cond.initialized yX11_rule0.cls ∈ lw_g) (lwq_8 (dqc_m (dqc_m (dqc_m (dqc_m (dqa_m (dqa_m (dqa_m (List.mem_of_getElem? (i := 6) rfl)))))))) rfl : Cond.code yX11_rule0 cX11_rule0 3 (some .int) ∈ lw_g), ⟨nmh_1.1, nmh_1.2, pdq_4⟩, ⟨_, _, rfl⟩⟩
abbrev cX11_club : ByteArray := prog_13_method_21_code
def yX11_club : MethodName := ⟨RX11, "club", "(II)I"⟩
def zX11_club : Zm := (RX11, cX11_club, 3, (some .int), { frames := 1, cells := 0, slots := 0, locals := 22 })
abbrev po_X11_club (T : Zt) (s c : Int) : Zt → Option Zv → Prop := fun T' r => ∃ x : Int, r = some (vI x) ∧ fr_ [(111, [12]), (213, []), (214, [])] T T' ∧ ((x = -3 ∧ ¬ (0 ≤ s ∧ s ≤ 11 ∧ 0 ≤ c ∧ c ≤ 7) ∧ T' 111 0 12 = T 111 0 12) ∨ ((0 ≤ s ∧ s ≤ 11 ∧ 0 ≤ c ∧ c ≤ 7) ∧ T 111 0 12 = 12 ∧ x = -5 ∧ T' 111 0 12 = T 111 0 12) ∨ ((0 ≤ s ∧ s ≤ 11 ∧ 0 ≤ c ∧ c ≤ 7) ∧ T 111 0 12 < 12 ∧ x = T 111 0 12 ∧ T' 111 0 12 = T 111 0 12 + 1))
abbrev cX11_person : ByteArray := prog_13_method_22_code
def yX11_person : MethodName := ⟨RX11, "person", "()I"⟩
def zX11_person : Zm := (RX11, cX11_person, 1, (some .int), { frames := 0, cells := 0, slots := 0, locals := 0 })
theorem bk_X11_person_0 : ck_ fX11 (some .int) cX11_person 0 [.aload 0, .tableswitch 0 11 15 #[], .iconst 200, .if_icmp .ne 13, .iconst (-5), .ireturn] 13 = true := qck_r (nn_ _) (by decide +kernel)
theorem bs_X11_person_0 {P : Zt → Option Zv → Prop} (K : Int → Zl → List Zv → Zt → Prop) : sx_ K P [.aload 0, .tableswitch 0 11 15 #[], .iconst 200, .if_icmp .ne 13, .iconst (-5), .ireturn] 13 = x_aload 0 (x_g0 111 15 0 200 (x_iconst 200 (x_if_icmp .ne 13 K (x_iconst (-5) (x_ireturn P))))) := ((xe_aload 0).trans (congrArg (x_aload 0) ((xe_g0 (kk := 111) rfl tl_11_15).trans (congrArg (x_g0 111 15 0 200) ((xe_iconst 200).trans (congrArg (x_iconst 200) ((xe_if_icmp .ne 13).trans (congrArg (x_if_icmp .ne 13 K) ((xe_iconst (-5)).trans (congrArg (x_iconst (-5)) (xe_ireturn)))))))))))
theorem bk_X11_person_13 : ck_ fX11 (some .int) cX11_person 13 [.aload 0, .dup, .tableswitch 0 11 15 #[], .iconst 1, .iadd, .tableswitch 1 11 15 #[], .aload 0, .tableswitch 0 11 15 #[], .iconst 1, .isub, .ireturn] 30 = true := qck_r (nn_ _) (by decide +kernel)
theorem bs_X11_person_13 {P : Zt → Option Zv → Prop} (K : Int → Zl → List Zv → Zt → Prop) : sx_ K P [.aload 0, .dup, .tableswitch 0 11 15 #[], .iconst 1, .iadd, .tableswitch 1 11 15 #[], .aload 0, .tableswitch 0 11 15 #[], .iconst 1, .isub, .ireturn] 30 = x_aload 0 (x_dup (x_g0 111 15 0 200 (x_iconst 1 (x_iadd (x_p 111 15 0 200 (x_aload 0 (x_g0 111 15 0 200 (x_iconst 1 (x_isub (x_ireturn P)))))))))) := ((xe_aload 0).trans (congrArg (x_aload 0) ((xe_dup).trans (congrArg (x_dup) ((xe_g0 (kk := 111) rfl tl_11_15).trans (congrArg (x_g0 111 15 0 200) ((xe_iconst 1).trans (congrArg (x_iconst 1) ((xe_iadd).trans (congrArg (x_iadd) ((xe_p (kk := 111) rfl tl_11_15).trans (congrArg (x_p 111 15 0 200) ((xe_aload 0).trans (congrArg (x_aload 0) ((xe_g0 (kk := 111) rfl tl_11_15).trans (congrArg (x_g0 111 15 0 200) ((xe_iconst 1).trans (congrArg (x_iconst 1) ((xe_isub).trans (congrArg (x_isub) (xe_ireturn)))))))))))))))))))))
abbrev po_X11_person (T : Zt) : Zt → Option Zv → Prop := fun T' r => ∃ x : Int, r = some (vI x) ∧ fr_ [(111, [15])] T T' ∧ ((x = -3 ∧ ¬ (0 = (0 : Int)) ∧ T' 111 0 15 = T 111 0 15) ∨ ((0 = (0 : Int)) ∧ T 111 0 15 = 200 ∧ x = -5 ∧ T' 111 0 15 = T 111 0 15) ∨ ((0 = (0 : Int)) ∧ T 111 0 15 < 200 ∧ x = T 111 0 15 ∧ T' 111 0 15 = T 111 0 15 + 1))
set_option maxHeartbeats 4000000 in
theorem ct_X11_person {T : Zt} : Ct_ yX11_person zX11_person T [vR 111 0] (po_X11_person T) := by
  refine ct_of pn_11 rfl rfl (Nat.le_of_ble_eq_true rfl) (fun hT hav => ?_)
  have hz : zX11_person.2.2.2.1 = some .boolean → ∀ (T' : Zt) (x : Int), po_X11_person T T' (some (vI x)) → 0 ≤ x ∧ x ≤ 1 := fun h => by cases h
  show J_ zX11_person T (po_X11_person T) 0 0 0 [some (vR 111 0)] [] T
  refine j_blx (F := fX11) tb_X11 (nn_ _) bk_X11_person_0 bs_X11_person_0 hz (fun K hK => ?_)
  intro b1 b1b
  refine And.intro (fun c2 => ?_) (fun c2 => ?_)
  · refine hK 13 _ [] T ?_
    refine j_blx (F := fX11) tb_X11 (nn_ _) bk_X11_person_13 bs_X11_person_13 hz (fun K hK => ?_)
    intro b3 b3b
    refine rg_i (by omega) ?_
    refine bd_i (by omega) ?_
    refine x_nm (fun U4 hU4 => ?_)
    have e5 := up_f hU4
    intro b6 b6b
    have e7 : U4 111 0 15 = (T 111 0 15) + 1 := up_f hU4
    rw [e7] at b6 b6b ⊢
    refine rg_i (by omega) ?_
    refine (show po_X11_person T U4 (some (vI (((T 111 0 15) + 1) - 1))) from ?_)
    have e8 : U4 111 0 15 = (T 111 0 15) + 1 := up_f hU4
    exact ⟨_, rfl, fr_u (fr_0 _ _) hU4 rfl, by omega⟩
  · refine (show po_X11_person T T (some (vI (-5))) from ?_)
    exact ⟨_, rfl, fr_0 _ _, by omega⟩
abbrev cX11_official : ByteArray := prog_13_method_25_code
def yX11_official : MethodName := ⟨RX11, "official", "(II)I"⟩
def zX11_official : Zm := (RX11, cX11_official, 3, (some .int), { frames := 1, cells := 0, slots := 0, locals := 22 })
abbrev po_X11_official (T : Zt) (s c : Int) : Zt → Option Zv → Prop := fun T' r => ∃ x : Int, r = some (vI x) ∧ fr_ [(111, [21]), (222, []), (223, [])] T T' ∧ ((x = -3 ∧ ¬ (0 ≤ s ∧ s ≤ 11 ∧ 0 ≤ c ∧ c ≤ 7) ∧ T' 111 0 21 = T 111 0 21) ∨ ((0 ≤ s ∧ s ≤ 11 ∧ 0 ≤ c ∧ c ≤ 7) ∧ T 111 0 21 = 8 ∧ x = -5 ∧ T' 111 0 21 = T 111 0 21) ∨ ((0 ≤ s ∧ s ≤ 11 ∧ 0 ≤ c ∧ c ≤ 7) ∧ T 111 0 21 < 8 ∧ x = T 111 0 21 ∧ T' 111 0 21 = T 111 0 21 + 1))
abbrev cX11_day : ByteArray := prog_13_method_26_code
def yX11_day : MethodName := ⟨RX11, "day", "(I)I"⟩
def zX11_day : Zm := (RX11, cX11_day, 3, (some .int), { frames := 1, cells := 0, slots := 0, locals := 22 })
theorem bk_X11_day_0 : ck_ fX11 (some .int) cX11_day 0 [.iload 1, .aload 0, .tableswitch 0 11 3 #[], .iconst 1, .iadd, .iconst 999] 10 = true := qck_r (nn_ _) (by decide +kernel)
theorem bs_X11_day_0 {P : Zt → Option Zv → Prop} (K : Int → Zl → List Zv → Zt → Prop) : sx_ K P [.iload 1, .aload 0, .tableswitch 0 11 3 #[], .iconst 1, .iadd, .iconst 999] 10 = x_iload 1 (x_aload 0 (x_g0 111 3 0 999 (x_iconst 1 (x_iadd (x_iconst 999 (K 10)))))) := ((xe_iload 1).trans (congrArg (x_iload 1) ((xe_aload 0).trans (congrArg (x_aload 0) ((xe_g0 (kk := 111) rfl tl_11_3).trans (congrArg (x_g0 111 3 0 999) ((xe_iconst 1).trans (congrArg (x_iconst 1) ((xe_iadd).trans (congrArg (x_iadd) ((xe_iconst 999).trans (congrArg (x_iconst 999) xe_nil))))))))))))
theorem bk_X11_day_13 : ck_ fX11 (some .int) cX11_day 13 [.ifCond .ne 19, .iconst (-3), .ireturn] 19 = true := qck_r (nn_ _) (by decide +kernel)
theorem bs_X11_day_13 {P : Zt → Option Zv → Prop} (K : Int → Zl → List Zv → Zt → Prop) : sx_ K P [.ifCond .ne 19, .iconst (-3), .ireturn] 19 = x_ifCond .ne 19 K (x_iconst (-3) (x_ireturn P)) := ((xe_ifCond .ne 19).trans (congrArg (x_ifCond .ne 19 K) ((xe_iconst (-3)).trans (congrArg (x_iconst (-3)) (xe_ireturn)))))
theorem bk_X11_day_19 : ck_ fX11 (some .int) cX11_day 19 [.aload 0, .tableswitch 0 11 3 #[], .istore 2, .aload 0, .iload 1, .tableswitch 1 11 3 #[], .iload 2, .ireturn] 31 = true := qck_r (nn_ _) (by decide +kernel)
theorem bs_X11_day_19 {P : Zt → Option Zv → Prop} (K : Int → Zl → List Zv → Zt → Prop) : sx_ K P [.aload 0, .tableswitch 0 11 3 #[], .istore 2, .aload 0, .iload 1, .tableswitch 1 11 3 #[], .iload 2, .ireturn] 31 = x_aload 0 (x_g0 111 3 0 999 (x_istore 2 (x_aload 0 (x_iload 1 (x_p 111 3 0 999 (x_iload 2 (x_ireturn P))))))) := ((xe_aload 0).trans (congrArg (x_aload 0) ((xe_g0 (kk := 111) rfl tl_11_3).trans (congrArg (x_g0 111 3 0 999) ((xe_istore 2).trans (congrArg (x_istore 2) ((xe_aload 0).trans (congrArg (x_aload 0) ((xe_iload 1).trans (congrArg (x_iload 1) ((xe_p (kk := 111) rfl tl_11_3).trans (congrArg (x_p 111 3 0 999) ((xe_iload 2).trans (congrArg (x_iload 2) (xe_ireturn)))))))))))))))
abbrev po_X11_day (T : Zt) (d : Int) : Zt → Option Zv → Prop := fun T' r => ∃ x : Int, r = some (vI x) ∧ fr_ [(111, [3])] T T' ∧ ((x = -3 ∧ ¬ (T 111 0 3 < d ∧ d ≤ 999) ∧ T' 111 0 3 = T 111 0 3) ∨ (T 111 0 3 < d ∧ d ≤ 999 ∧ x = T 111 0 3 ∧ T' 111 0 3 = d))
set_option maxHeartbeats 4000000 in
theorem ct_X11_day {T : Zt} {d : Int} : Ct_ yX11_day zX11_day T [vR 111 0, vI d] (po_X11_day T d) := by
  refine ct_of pn_11 rfl rfl (Nat.le_of_ble_eq_true rfl) (fun hT hav => ?_)
  have hr_d : -2147483648 ≤ d ∧ d ≤ 2147483647 := hav (vI d) (List.mem_cons_of_mem _ List.mem_cons_self)
  have hz : zX11_day.2.2.2.1 = some .boolean → ∀ (T' : Zt) (x : Int), po_X11_day T d T' (some (vI x)) → 0 ≤ x ∧ x ≤ 1 := fun h => by cases h
  show J_ zX11_day T (po_X11_day T d) 0 0 0 [some (vR 111 0), some (vI d), none] [] T
  refine j_blx (F := fX11) tb_X11 (nn_ _) bk_X11_day_0 bs_X11_day_0 hz (fun K hK => ?_)
  intro b1 b1b
  refine rg_i (by omega) ?_
  refine hK 10 _ [vI 999, vI ((T 111 0 3) + 1), vI d] T ?_
  refine j_callS (y := yX11_in) (Yc := zX11_in) (rest := []) [vI d, vI ((T 111 0 3) + 1), vI 999] (ct_X11_in (T := T)) cl_X11_255 (qd_c (by decide +kernel)) (nn_ _) rfl (rf_of rfl) (Nat.le_of_ble_eq_true rfl) (Nat.le_of_ble_eq_true rfl) (Nat.le_of_ble_eq_true rfl) rfl ?_
  rintro _ _ ⟨rfl, x2, rfl, hx2⟩
  show J_ zX11_day T (po_X11_day T d) 0 0 13 _ [vI x2] T
  refine j_blx (F := fX11) tb_X11 (nn_ _) bk_X11_day_13 bs_X11_day_13 hz (fun K hK => ?_)
  refine And.intro (fun c3 => ?_) (fun c3 => ?_)
  · replace hx2 := hx2.resolve_right (fun z => c3 z.1)
    clear c3
    refine hK 19 _ [] T ?_
    refine j_blx (F := fX11) tb_X11 (nn_ _) bk_X11_day_19 bs_X11_day_19 hz (fun K hK => ?_)
    intro b4 b4b
    refine bd_i (by omega) ?_
    refine x_nm (fun U5 hU5 => ?_)
    have e6 := up_f hU5
    refine (show po_X11_day T d U5 (some (vI (T 111 0 3))) from ?_)
    have e7 : U5 111 0 3 = d := up_f hU5
    exact ⟨_, rfl, fr_u (fr_0 _ _) hU5 rfl, by omega⟩
  · replace hx2 := hx2.resolve_left (fun z => absurd (c3.symm.trans z.1) (by decide))
    clear c3
    refine (show po_X11_day T d T (some (vI (-3))) from ?_)
    exact ⟨_, rfl, fr_0 _ _, by omega⟩
abbrev cX11_clubOf : ByteArray := prog_13_method_23_code
def yX11_clubOf : MethodName := ⟨RX11, "clubOf", "(II)I"⟩
def zX11_clubOf : Zm := (RX11, cX11_clubOf, 5, (some .int), { frames := 1, cells := 0, slots := 0, locals := 22 })
abbrev cX11_register : ByteArray := prog_13_method_24_code
def yX11_register : MethodName := ⟨RX11, "register", "(IIII)I"⟩
def zX11_register : Zm := (RX11, cX11_register, 6, (some .int), { frames := 2, cells := 0, slots := 0, locals := 43 })
theorem bk_X11_register_60 : ck_ fX11 (some .int) cX11_register 60 [.iload 5, .aload 0, .tableswitch 0 11 16 #[], .if_icmp .ge 112, .aload 0, .tableswitch 0 11 17 #[], .iload 5, .iaload, .iload 1, .if_icmp .ne 106, .aload 0, .tableswitch 0 11 19 #[], .iload 5, .iaload, .iload 4, .if_icmp .gt 106, .aload 0, .tableswitch 0 11 20 #[], .iload 5, .iaload, .iload 3, .if_icmp .lt 106, .iconst (-4), .ireturn] 106 = true := qck_r (nn_ _) (by decide +kernel)
theorem bs_X11_register_60 {P : Zt → Option Zv → Prop} (K : Int → Zl → List Zv → Zt → Prop) : sx_ K P [.iload 5, .aload 0, .tableswitch 0 11 16 #[], .if_icmp .ge 112, .aload 0, .tableswitch 0 11 17 #[], .iload 5, .iaload, .iload 1, .if_icmp .ne 106, .aload 0, .tableswitch 0 11 19 #[], .iload 5, .iaload, .iload 4, .if_icmp .gt 106, .aload 0, .tableswitch 0 11 20 #[], .iload 5, .iaload, .iload 3, .if_icmp .lt 106, .iconst (-4), .ireturn] 106 = x_iload 5 (x_aload 0 (x_g0 111 16 0 300 (x_if_icmp .ge 112 K (x_aload 0 (x_g1 111 217 (x_iload 5 (x_iaload (x_iload 1 (x_if_icmp .ne 106 K (x_aload 0 (x_g1 111 219 (x_iload 5 (x_iaload (x_iload 4 (x_if_icmp .gt 106 K (x_aload 0 (x_g1 111 220 (x_iload 5 (x_iaload (x_iload 3 (x_if_icmp .lt 106 K (x_iconst (-4) (x_ireturn P))))))))))))))))))))))) := ((xe_iload 5).trans (congrArg (x_iload 5) ((xe_aload 0).trans (congrArg (x_aload 0) ((xe_g0 (kk := 111) rfl tl_11_16).trans (congrArg (x_g0 111 16 0 300) ((xe_if_icmp .ge 112).trans (congrArg (x_if_icmp .ge 112 K) ((xe_aload 0).trans (congrArg (x_aload 0) ((xe_g1 (kk := 111) rfl tl_11_17).trans (congrArg (x_g1 111 217) ((xe_iload 5).trans (congrArg (x_iload 5) ((xe_iaload).trans (congrArg (x_iaload) ((xe_iload 1).trans (congrArg (x_iload 1) ((xe_if_icmp .ne 106).trans (congrArg (x_if_icmp .ne 106 K) ((xe_aload 0).trans (congrArg (x_aload 0) ((xe_g1 (kk := 111) rfl tl_11_19).trans (congrArg (x_g1 111 219) ((xe_iload 5).trans (congrArg (x_iload 5) ((xe_iaload).trans (congrArg (x_iaload) ((xe_iload 4).trans (congrArg (x_iload 4) ((xe_if_icmp .gt 106).trans (congrArg (x_if_icmp .gt 106 K) ((xe_aload 0).trans (congrArg (x_aload 0) ((xe_g1 (kk := 111) rfl tl_11_20).trans (congrArg (x_g1 111 220) ((xe_iload 5).trans (congrArg (x_iload 5) ((xe_iaload).trans (congrArg (x_iaload) ((xe_iload 3).trans (congrArg (x_iload 3) ((xe_if_icmp .lt 106).trans (congrArg (x_if_icmp .lt 106 K) ((xe_iconst (-4)).trans (congrArg (x_iconst (-4)) (xe_ireturn)))))))))))))))))))))))))))))))))))))))))))))))
theorem bk_X11_register_112 : ck_ fX11 (some .int) cX11_register 112 [.aload 0, .tableswitch 0 11 16 #[], .iconst 300, .if_icmp .ne 125, .iconst (-5), .ireturn] 125 = true := qck_r (nn_ _) (by decide +kernel)
theorem bs_X11_register_112 {P : Zt → Option Zv → Prop} (K : Int → Zl → List Zv → Zt → Prop) : sx_ K P [.aload 0, .tableswitch 0 11 16 #[], .iconst 300, .if_icmp .ne 125, .iconst (-5), .ireturn] 125 = x_aload 0 (x_g0 111 16 0 300 (x_iconst 300 (x_if_icmp .ne 125 K (x_iconst (-5) (x_ireturn P))))) := ((xe_aload 0).trans (congrArg (x_aload 0) ((xe_g0 (kk := 111) rfl tl_11_16).trans (congrArg (x_g0 111 16 0 300) ((xe_iconst 300).trans (congrArg (x_iconst 300) ((xe_if_icmp .ne 125).trans (congrArg (x_if_icmp .ne 125 K) ((xe_iconst (-5)).trans (congrArg (x_iconst (-5)) (xe_ireturn)))))))))))
theorem bk_X11_register_125 : ck_ fX11 (some .int) cX11_register 125 [.aload 0, .tableswitch 0 11 17 #[], .aload 0, .tableswitch 0 11 16 #[], .iload 1, .iastore, .aload 0, .tableswitch 0 11 18 #[], .aload 0, .tableswitch 0 11 16 #[], .iload 2, .iastore, .aload 0, .tableswitch 0 11 19 #[], .aload 0, .tableswitch 0 11 16 #[], .iload 3, .iastore, .aload 0, .tableswitch 0 11 20 #[], .aload 0, .tableswitch 0 11 16 #[], .iload 4, .iastore, .aload 0, .dup, .tableswitch 0 11 16 #[], .iconst 1, .iadd, .tableswitch 1 11 16 #[], .aload 0, .tableswitch 0 11 16 #[], .ireturn] 181 = true := qck_r (nn_ _) (by decide +kernel)
theorem bs_X11_register_125 {P : Zt → Option Zv → Prop} (K : Int → Zl → List Zv → Zt → Prop) : sx_ K P [.aload 0, .tableswitch 0 11 17 #[], .aload 0, .tableswitch 0 11 16 #[], .iload 1, .iastore, .aload 0, .tableswitch 0 11 18 #[], .aload 0, .tableswitch 0 11 16 #[], .iload 2, .iastore, .aload 0, .tableswitch 0 11 19 #[], .aload 0, .tableswitch 0 11 16 #[], .iload 3, .iastore, .aload 0, .tableswitch 0 11 20 #[], .aload 0, .tableswitch 0 11 16 #[], .iload 4, .iastore, .aload 0, .dup, .tableswitch 0 11 16 #[], .iconst 1, .iadd, .tableswitch 1 11 16 #[], .aload 0, .tableswitch 0 11 16 #[], .ireturn] 181 = x_aload 0 (x_g1 111 217 (x_aload 0 (x_g0 111 16 0 300 (x_iload 1 (x_iastore (x_aload 0 (x_g1 111 218 (x_aload 0 (x_g0 111 16 0 300 (x_iload 2 (x_iastore (x_aload 0 (x_g1 111 219 (x_aload 0 (x_g0 111 16 0 300 (x_iload 3 (x_iastore (x_aload 0 (x_g1 111 220 (x_aload 0 (x_g0 111 16 0 300 (x_iload 4 (x_iastore (x_aload 0 (x_dup (x_g0 111 16 0 300 (x_iconst 1 (x_iadd (x_p 111 16 0 300 (x_aload 0 (x_g0 111 16 0 300 (x_ireturn P)))))))))))))))))))))))))))))))) := ((xe_aload 0).trans (congrArg (x_aload 0) ((xe_g1 (kk := 111) rfl tl_11_17).trans (congrArg (x_g1 111 217) ((xe_aload 0).trans (congrArg (x_aload 0) ((xe_g0 (kk := 111) rfl tl_11_16).trans (congrArg (x_g0 111 16 0 300) ((xe_iload 1).trans (congrArg (x_iload 1) ((xe_iastore).trans (congrArg (x_iastore) ((xe_aload 0).trans (congrArg (x_aload 0) ((xe_g1 (kk := 111) rfl tl_11_18).trans (congrArg (x_g1 111 218) ((xe_aload 0).trans (congrArg (x_aload 0) ((xe_g0 (kk := 111) rfl tl_11_16).trans (congrArg (x_g0 111 16 0 300) ((xe_iload 2).trans (congrArg (x_iload 2) ((xe_iastore).trans (congrArg (x_iastore) ((xe_aload 0).trans (congrArg (x_aload 0) ((xe_g1 (kk := 111) rfl tl_11_19).trans (congrArg (x_g1 111 219) ((xe_aload 0).trans (congrArg (x_aload 0) ((xe_g0 (kk := 111) rfl tl_11_16).trans (congrArg (x_g0 111 16 0 300) ((xe_iload 3).trans (congrArg (x_iload 3) ((xe_iastore).trans (congrArg (x_iastore) ((xe_aload 0).trans (congrArg (x_aload 0) ((xe_g1 (kk := 111) rfl tl_11_20).trans (congrArg (x_g1 111 220) ((xe_aload 0).trans (congrArg (x_aload 0) ((xe_g0 (kk := 111) rfl tl_11_16).trans (congrArg (x_g0 111 16 0 300) ((xe_iload 4).trans (congrArg (x_iload 4) ((xe_iastore).trans (congrArg (x_iastore) ((xe_aload 0).trans (congrArg (x_aload 0) ((xe_dup).trans (congrArg (x_dup) ((xe_g0 (kk := 111) rfl tl_11_16).trans (congrArg (x_g0 111 16 0 300) ((xe_iconst 1).trans (congrArg (x_iconst 1) ((xe_iadd).trans (congrArg (x_iadd) ((xe_p (kk := 111) rfl tl_11_16).trans (congrArg (x_p 111 16 0 300) ((xe_aload 0).trans (congrArg (x_aload 0) ((xe_g0 (kk := 111) rfl tl_11_16).trans (congrArg (x_g0 111 16 0 300) (xe_ireturn)))))))))))))))))))))))))))))))))))))))))))))))))))))))))))))))))
theorem bk_X11_register_106 : ck_ fX11 (some .int) cX11_register 106 [.iinc 5 1, .goto 60] 112 = true := qck_r (nn_ _) (by decide +kernel)
theorem bs_X11_register_106 {P : Zt → Option Zv → Prop} (K : Int → Zl → List Zv → Zt → Prop) : sx_ K P [.iinc 5 1, .goto 60] 112 = x_iinc 5 1 (x_goto 60 K) := ((xe_iinc 5 1).trans (congrArg (x_iinc 5 1) (xe_goto 60)))
theorem bk_X11_register_0 : ck_ fX11 (some .int) cX11_register 0 [.iload 1, .aload 0, .tableswitch 0 11 15 #[]] 5 = true := qck_r (nn_ _) (by decide +kernel)
theorem bs_X11_register_0 {P : Zt → Option Zv → Prop} (K : Int → Zl → List Zv → Zt → Prop) : sx_ K P [.iload 1, .aload 0, .tableswitch 0 11 15 #[]] 5 = x_iload 1 (x_aload 0 (x_g0 111 15 0 200 (K 5))) := ((xe_iload 1).trans (congrArg (x_iload 1) ((xe_aload 0).trans (congrArg (x_aload 0) ((xe_g0 (kk := 111) rfl tl_11_15).trans (congrArg (x_g0 111 15 0 200) xe_nil))))))
theorem bk_X11_register_8 : ck_ fX11 (some .int) cX11_register 8 [.ifCond .eq 22, .iload 2, .aload 0, .tableswitch 0 11 12 #[]] 16 = true := qck_r (nn_ _) (by decide +kernel)
theorem bs_X11_register_8 {P : Zt → Option Zv → Prop} (K : Int → Zl → List Zv → Zt → Prop) : sx_ K P [.ifCond .eq 22, .iload 2, .aload 0, .tableswitch 0 11 12 #[]] 16 = x_ifCond .eq 22 K (x_iload 2 (x_aload 0 (x_g0 111 12 0 12 (K 16)))) := ((xe_ifCond .eq 22).trans (congrArg (x_ifCond .eq 22 K) ((xe_iload 2).trans (congrArg (x_iload 2) ((xe_aload 0).trans (congrArg (x_aload 0) ((xe_g0 (kk := 111) rfl tl_11_12).trans (congrArg (x_g0 111 12 0 12) xe_nil))))))))
theorem bk_X11_register_22 : ck_ fX11 (some .int) cX11_register 22 [.iconst (-2), .ireturn] 25 = true := qck_r (nn_ _) (by decide +kernel)
theorem bs_X11_register_22 {P : Zt → Option Zv → Prop} (K : Int → Zl → List Zv → Zt → Prop) : sx_ K P [.iconst (-2), .ireturn] 25 = x_iconst (-2) (x_ireturn P) := ((xe_iconst (-2)).trans (congrArg (x_iconst (-2)) (xe_ireturn)))
theorem bk_X11_register_19 : ck_ fX11 (some .int) cX11_register 19 [.ifCond .ne 25, .iconst (-2), .ireturn] 25 = true := qck_r (nn_ _) (by decide +kernel)
theorem bs_X11_register_19 {P : Zt → Option Zv → Prop} (K : Int → Zl → List Zv → Zt → Prop) : sx_ K P [.ifCond .ne 25, .iconst (-2), .ireturn] 25 = x_ifCond .ne 25 K (x_iconst (-2) (x_ireturn P)) := ((xe_ifCond .ne 25).trans (congrArg (x_ifCond .ne 25 K) ((xe_iconst (-2)).trans (congrArg (x_iconst (-2)) (xe_ireturn)))))
theorem bk_X11_register_25 : ck_ fX11 (some .int) cX11_register 25 [.iload 3, .iconst 0, .iconst 999] 30 = true := qck_r (nn_ _) (by decide +kernel)
theorem bs_X11_register_25 {P : Zt → Option Zv → Prop} (K : Int → Zl → List Zv → Zt → Prop) : sx_ K P [.iload 3, .iconst 0, .iconst 999] 30 = x_iload 3 (x_iconst 0 (x_iconst 999 (K 30))) := ((xe_iload 3).trans (congrArg (x_iload 3) ((xe_iconst 0).trans (congrArg (x_iconst 0) ((xe_iconst 999).trans (congrArg (x_iconst 999) xe_nil))))))
theorem bk_X11_register_33 : ck_ fX11 (some .int) cX11_register 33 [.ifCond .eq 54, .iload 4, .iconst 0, .iconst 999] 42 = true := qck_r (nn_ _) (by decide +kernel)
theorem bs_X11_register_33 {P : Zt → Option Zv → Prop} (K : Int → Zl → List Zv → Zt → Prop) : sx_ K P [.ifCond .eq 54, .iload 4, .iconst 0, .iconst 999] 42 = x_ifCond .eq 54 K (x_iload 4 (x_iconst 0 (x_iconst 999 (K 42)))) := ((xe_ifCond .eq 54).trans (congrArg (x_ifCond .eq 54 K) ((xe_iload 4).trans (congrArg (x_iload 4) ((xe_iconst 0).trans (congrArg (x_iconst 0) ((xe_iconst 999).trans (congrArg (x_iconst 999) xe_nil))))))))
theorem bk_X11_register_54 : ck_ fX11 (some .int) cX11_register 54 [.iconst (-3), .ireturn] 57 = true := qck_r (nn_ _) (by decide +kernel)
theorem bs_X11_register_54 {P : Zt → Option Zv → Prop} (K : Int → Zl → List Zv → Zt → Prop) : sx_ K P [.iconst (-3), .ireturn] 57 = x_iconst (-3) (x_ireturn P) := ((xe_iconst (-3)).trans (congrArg (x_iconst (-3)) (xe_ireturn)))
theorem bk_X11_register_45 : ck_ fX11 (some .int) cX11_register 45 [.ifCond .eq 54, .iload 3, .iload 4, .if_icmp .le 57, .iconst (-3), .ireturn] 57 = true := qck_r (nn_ _) (by decide +kernel)
theorem bs_X11_register_45 {P : Zt → Option Zv → Prop} (K : Int → Zl → List Zv → Zt → Prop) : sx_ K P [.ifCond .eq 54, .iload 3, .iload 4, .if_icmp .le 57, .iconst (-3), .ireturn] 57 = x_ifCond .eq 54 K (x_iload 3 (x_iload 4 (x_if_icmp .le 57 K (x_iconst (-3) (x_ireturn P))))) := ((xe_ifCond .eq 54).trans (congrArg (x_ifCond .eq 54 K) ((xe_iload 3).trans (congrArg (x_iload 3) ((xe_iload 4).trans (congrArg (x_iload 4) ((xe_if_icmp .le 57).trans (congrArg (x_if_icmp .le 57 K) ((xe_iconst (-3)).trans (congrArg (x_iconst (-3)) (xe_ireturn)))))))))))
theorem bk_X11_register_57 : ck_ fX11 (some .int) cX11_register 57 [.iconst 0, .istore 5] 60 = true := qck_r (nn_ _) (by decide +kernel)
theorem bs_X11_register_57 {P : Zt → Option Zv → Prop} (K : Int → Zl → List Zv → Zt → Prop) : sx_ K P [.iconst 0, .istore 5] 60 = x_iconst 0 (x_istore 5 (K 60)) := ((xe_iconst 0).trans (congrArg (x_iconst 0) ((xe_istore 5).trans (congrArg (x_istore 5) xe_nil))))
abbrev po_X11_register (T : Zt) (p c f t : Int) : Zt → Option Zv → Prop := fun T' r => ∃ x : Int, r = some (vI x) ∧ fr_ [(111, [16]), (217, []), (218, []), (219, []), (220, [])] T T' ∧ (x = -2 ∨ x = -3 ∨ x = -4 ∨ x = -5 ∨ x = T' 111 0 16)
/-- a club has entered -/
def HE_ (T : Zt) (c cl : Int) : Prop := ∃ j, 0 ≤ j ∧ j < T 208 0 c ∧ T 207 0 (12 * c + j) = cl
abbrev cX11_hasEntered : ByteArray := prog_13_method_27_code
def yX11_hasEntered : MethodName := ⟨RX11, "hasEntered", "(II)Z"⟩
def zX11_hasEntered : Zm := (RX11, cX11_hasEntered, 5, (some .boolean), { frames := 0, cells := 0, slots := 0, locals := 0 })
theorem bk_X11_hasEntered_41 : ck_ fX11 (some .boolean) cX11_hasEntered 41 [.istore 3, .iinc 4 1, .goto 5] 48 = true := qck_r (nn_ _) (by decide +kernel)
theorem bs_X11_hasEntered_41 {P : Zt → Option Zv → Prop} (K : Int → Zl → List Zv → Zt → Prop) : sx_ K P [.istore 3, .iinc 4 1, .goto 5] 48 = x_istore 3 (x_iinc 4 1 (x_goto 5 K)) := ((xe_istore 3).trans (congrArg (x_istore 3) ((xe_iinc 4 1).trans (congrArg (x_iinc 4 1) (xe_goto 5)))))
theorem bk_X11_hasEntered_5 : ck_ fX11 (some .boolean) cX11_hasEntered 5 [.iload 4, .aload 0, .tableswitch 0 11 8 #[], .iload 1, .iaload, .if_icmp .ge 48, .iload 3, .ifCond .ne 36, .aload 0, .tableswitch 0 11 7 #[], .iconst 12, .iload 1, .imul, .iload 4, .iadd, .iaload, .iload 2, .if_icmp .ne 40, .iconst 1, .goto 41] 40 = true := qck_r (nn_ _) (by decide +kernel)
theorem bs_X11_hasEntered_5 {P : Zt → Option Zv → Prop} (K : Int → Zl → List Zv → Zt → Prop) : sx_ K P [.iload 4, .aload 0, .tableswitch 0 11 8 #[], .iload 1, .iaload, .if_icmp .ge 48, .iload 3, .ifCond .ne 36, .aload 0, .tableswitch 0 11 7 #[], .iconst 12, .iload 1, .imul, .iload 4, .iadd, .iaload, .iload 2, .if_icmp .ne 40, .iconst 1, .goto 41] 40 = x_iload 4 (x_aload 0 (x_g1 111 208 (x_iload 1 (x_iaload (x_if_icmp .ge 48 K (x_iload 3 (x_ifCond .ne 36 K (x_aload 0 (x_g1 111 207 (x_iconst 12 (x_iload 1 (x_imul (x_iload 4 (x_iadd (x_iaload (x_iload 2 (x_if_icmp .ne 40 K (x_iconst 1 (x_goto 41 K))))))))))))))))))) := ((xe_iload 4).trans (congrArg (x_iload 4) ((xe_aload 0).trans (congrArg (x_aload 0) ((xe_g1 (kk := 111) rfl tl_11_8).trans (congrArg (x_g1 111 208) ((xe_iload 1).trans (congrArg (x_iload 1) ((xe_iaload).trans (congrArg (x_iaload) ((xe_if_icmp .ge 48).trans (congrArg (x_if_icmp .ge 48 K) ((xe_iload 3).trans (congrArg (x_iload 3) ((xe_ifCond .ne 36).trans (congrArg (x_ifCond .ne 36 K) ((xe_aload 0).trans (congrArg (x_aload 0) ((xe_g1 (kk := 111) rfl tl_11_7).trans (congrArg (x_g1 111 207) ((xe_iconst 12).trans (congrArg (x_iconst 12) ((xe_iload 1).trans (congrArg (x_iload 1) ((xe_imul).trans (congrArg (x_imul) ((xe_iload 4).trans (congrArg (x_iload 4) ((xe_iadd).trans (congrArg (x_iadd) ((xe_iaload).trans (congrArg (x_iaload) ((xe_iload 2).trans (congrArg (x_iload 2) ((xe_if_icmp .ne 40).trans (congrArg (x_if_icmp .ne 40 K) ((xe_iconst 1).trans (congrArg (x_iconst 1) (xe_goto 41)))))))))))))))))))))))))))))))))))))))
theorem bk_X11_hasEntered_48 : ck_ fX11 (some .boolean) cX11_hasEntered 48 [.iload 3, .ireturn] 50 = true := qck_r (nn_ _) (by decide +kernel)
theorem bs_X11_hasEntered_48 {P : Zt → Option Zv → Prop} (K : Int → Zl → List Zv → Zt → Prop) : sx_ K P [.iload 3, .ireturn] 50 = x_iload 3 (x_ireturn P) := ((xe_iload 3).trans (congrArg (x_iload 3) (xe_ireturn)))
theorem bk_X11_hasEntered_36 : ck_ fX11 (some .boolean) cX11_hasEntered 36 [.iconst 1, .goto 41] 40 = true := qck_r (nn_ _) (by decide +kernel)
theorem bs_X11_hasEntered_36 {P : Zt → Option Zv → Prop} (K : Int → Zl → List Zv → Zt → Prop) : sx_ K P [.iconst 1, .goto 41] 40 = x_iconst 1 (x_goto 41 K) := ((xe_iconst 1).trans (congrArg (x_iconst 1) (xe_goto 41)))
theorem bk_X11_hasEntered_40 : ck_ fX11 (some .boolean) cX11_hasEntered 40 [.iconst 0] 41 = true := qck_r (nn_ _) (by decide +kernel)
theorem bs_X11_hasEntered_40 {P : Zt → Option Zv → Prop} (K : Int → Zl → List Zv → Zt → Prop) : sx_ K P [.iconst 0] 41 = x_iconst 0 (K 41) := ((xe_iconst 0).trans (congrArg (x_iconst 0) xe_nil))
theorem bk_X11_hasEntered_0 : ck_ fX11 (some .boolean) cX11_hasEntered 0 [.iconst 0, .istore 3, .iconst 0, .istore 4] 5 = true := qck_r (nn_ _) (by decide +kernel)
theorem bs_X11_hasEntered_0 {P : Zt → Option Zv → Prop} (K : Int → Zl → List Zv → Zt → Prop) : sx_ K P [.iconst 0, .istore 3, .iconst 0, .istore 4] 5 = x_iconst 0 (x_istore 3 (x_iconst 0 (x_istore 4 (K 5)))) := ((xe_iconst 0).trans (congrArg (x_iconst 0) ((xe_istore 3).trans (congrArg (x_istore 3) ((xe_iconst 0).trans (congrArg (x_iconst 0) ((xe_istore 4).trans (congrArg (x_istore 4) xe_nil))))))))
abbrev po_X11_hasEntered (T : Zt) (c cl : Int) : Zt → Option Zv → Prop := fun T' r => T = T' ∧ ∃ x : Int, r = some (vI x) ∧ ((x = 1 ∧ HE_ T c cl) ∨ (x = 0 ∧ ¬ HE_ T c cl))
set_option maxHeartbeats 4000000 in
theorem ct_X11_hasEntered {T : Zt} {c cl : Int} (h1 : 0 ≤ c ∧ c < 4) : Ct_ yX11_hasEntered zX11_hasEntered T [vR 111 0, vI c, vI cl] (po_X11_hasEntered T c cl) := by
  refine ct_of pn_11 rfl rfl (Nat.le_of_ble_eq_true rfl) (fun hT hav => ?_)
  have hr_c : -2147483648 ≤ c ∧ c ≤ 2147483647 := hav (vI c) (List.mem_cons_of_mem _ List.mem_cons_self)
  have hr_cl : -2147483648 ≤ cl ∧ cl ≤ 2147483647 := hav (vI cl) (List.mem_cons_of_mem _ (List.mem_cons_of_mem _ List.mem_cons_self))
  have hz : zX11_hasEntered.2.2.2.1 = some .boolean → ∀ (T' : Zt) (x : Int), po_X11_hasEntered T c cl T' (some (vI x)) → 0 ≤ x ∧ x ≤ 1 := fun _ T' x h => by obtain ⟨-, y, e, hy⟩ := h; cases e; omega
  show J_ zX11_hasEntered T (po_X11_hasEntered T c cl) 0 0 0 [some (vR 111 0), some (vI c), some (vI cl), none, none] [] T
  have c_5 : ∀ (nn : Nat) (h : Int) (k : Int), ((12 - k).toNat) ≤ nn → (0 ≤ k) → ((h = 1 ∧ ∃ j, 0 ≤ j ∧ j < T 208 0 c ∧ T 207 0 (12 * c + j) = cl) ∨ (h = 0 ∧ ∀ j, 0 ≤ j → j < k → T 207 0 (12 * c + j) ≠ cl)) → J_ zX11_hasEntered T (po_X11_hasEntered T c cl) 0 0 5 [some (vR 111 0), some (vI c), some (vI cl), some (vI h), some (vI k)] [] T := by
    intro nn
    induction nn using Nat.strongRecOn with
    | _ nn ih_5 =>
      intro h k hm_5 k1 k2
      replace hm_5 := fun (_ : Unit) => hm_5
      have c_41 : ∀ (v : Int), (k < T 208 0 c ∧ T 208 0 c ≤ 12) → ((v = 1 ∧ ∃ j, 0 ≤ j ∧ j < T 208 0 c ∧ T 207 0 (12 * c + j) = cl) ∨ (v = 0 ∧ ∀ j, 0 ≤ j → j < k + 1 → T 207 0 (12 * c + j) ≠ cl)) → J_ zX11_hasEntered T (po_X11_hasEntered T c cl) 0 0 41 [some (vR 111 0), some (vI c), some (vI cl), some (vI h), some (vI k)] [vI v] T := by
        intro v v0 v1
        refine j_blx (F := fX11) tb_X11 (nn_ _) bk_X11_hasEntered_41 bs_X11_hasEntered_41 hz (fun K hK => ?_)
        refine rg_i (by omega) ?_
        refine hK 5 [some (vR 111 0), some (vI c), some (vI cl), some (vI v), some (vI (k + 1))] [] T ?_
        refine ih_5 _ ?_ v (k + 1) (Nat.le_refl _) ?_ ?_
        · have hm_5 := hm_5 (); clear k2 v1; omega
        · omega
        · exact v1
      refine j_blx (F := fX11) tb_X11 (nn_ _) bk_X11_hasEntered_5 bs_X11_hasEntered_5 hz (fun K hK => ?_)
      refine ix_i (by omega) ?_
      intro b1 b1b
      refine And.intro (fun c2 => ?_) (fun c2 => ?_)
      · refine hK 48 _ [] T ?_
        refine j_blx (F := fX11) tb_X11 (nn_ _) bk_X11_hasEntered_48 bs_X11_hasEntered_48 hz (fun K hK => ?_)
        refine (show po_X11_hasEntered T c cl T (some (vI h)) from ?_)
        exact ⟨rfl, _, rfl, k2.imp id (fun z => ⟨z.1, fun ⟨j, a, b, e9⟩ => z.2 j a (by omega) e9⟩)⟩
      · refine And.intro (fun c3 => ?_) (fun c3 => ?_)
        · refine hK 36 _ [] T ?_
          refine j_blx (F := fX11) tb_X11 (nn_ _) bk_X11_hasEntered_36 bs_X11_hasEntered_36 hz (fun K hK => ?_)
          refine hK 41 _ [vI 1] T ?_
          refine c_41 1 ?_ ?_
          · omega
          · first | exact Or.inl ⟨rfl, k, k1, by omega, by omega⟩ | (rcases k2 with z | z; exact Or.inl ⟨rfl, z.2⟩; omega)
        · refine rg_i (by omega) ?_
          refine rg_i (by omega) ?_
          refine ix_i (by omega) ?_
          intro b4 b4b
          refine And.intro (fun c5 => ?_) (fun c5 => ?_)
          · refine hK 40 _ [] T ?_
            refine j_blx (F := fX11) tb_X11 (nn_ _) bk_X11_hasEntered_40 bs_X11_hasEntered_40 hz (fun K hK => ?_)
            refine hK 41 _ [vI 0] T ?_
            refine c_41 0 ?_ ?_
            · omega
            · refine Or.inr ⟨rfl, fun j a b => ?_⟩
              rcases k2 with z | z
              · omega
              · by_cases e : j = k
                · subst e; omega
                · exact z.2 j a (by omega)
          · refine hK 41 _ [vI 1] T ?_
            refine c_41 1 ?_ ?_
            · omega
            · first | exact Or.inl ⟨rfl, k, k1, by omega, by omega⟩ | (rcases k2 with z | z; exact Or.inl ⟨rfl, z.2⟩; omega)
  refine j_blx (F := fX11) tb_X11 (nn_ _) bk_X11_hasEntered_0 bs_X11_hasEntered_0 hz (fun K hK => ?_)
  refine hK 5 [some (vR 111 0), some (vI c), some (vI cl), some (vI 0), some (vI 0)] [] T ?_
  refine c_5 _ 0 0 (Nat.le_refl _) ?_ ?_
  · omega
  · exact Or.inr ⟨rfl, fun j a b => by omega⟩
theorem ph_n : ∀ (m n : Nat) (f : Nat → Nat), (∀ i, i < n → f i < m) → (∀ i j, i < n → j < n → f i = f j → i = j) → n ≤ m
  | 0, 0, _, _, _ => Nat.le_refl 0
  | 0, n + 1, f, h, _ => absurd (h 0 (by omega)) (by omega)
  | m + 1, 0, _, _, _ => by omega
  | m + 1, k + 1, f, h, g => by
    have := ph_n m k (fun i => if f i = m then f k else f i) (fun i hi => by
      have hk := h k (by omega)
      have h1 := h i (by omega)
      by_cases e : f i = m
      · simp only [e, if_true]
        have : f k ≠ m := fun z => absurd (g i k (by omega) (by omega) (e.trans z.symm)) (by omega)
        omega
      · simp only [e, if_false]; omega) (fun i j hi hj e => by
      by_cases a : f i = m <;> by_cases b : f j = m
      · exact g i j (by omega) (by omega) (a.trans b.symm)
      · simp only [a, b, if_true, if_false] at e
        exact absurd (g k j (by omega) (by omega) e) (by omega)
      · simp only [a, b, if_true, if_false] at e
        exact absurd (g i k (by omega) (by omega) e) (by omega)
      · simp only [a, b, if_false] at e
        exact g i j (by omega) (by omega) e)
    omega
theorem ph_i {n m : Int} (f : Int → Int) (h0 : 0 ≤ n) (hm : 0 ≤ m) (h : ∀ i, 0 ≤ i → i < n → 0 ≤ f i ∧ f i < m) (g : ∀ i j, 0 ≤ i → i < j → j < n → f i ≠ f j) : n ≤ m := by
  have := ph_n m.toNat n.toNat (fun i => (f i).toNat) (fun i hi => by have := h i (by omega) (by omega); omega) (fun i j hi hj e => by
    have h1 := h i (by omega) (by omega)
    have h2 := h j (by omega) (by omega)
    have e2 : f i = f j := by omega
    rcases Nat.lt_trichotomy i j with z | z | z
    · exact absurd e2 (g i j (by omega) (by omega) (by omega))
    · exact z
    · exact absurd e2.symm (g j i (by omega) (by omega) (by omega)))
  omega
def EN_ (T : Zt) : Prop := ∀ c : Int, 0 ≤ c → c < 4 → (∀ j : Int, 0 ≤ j → j < T 208 0 c → 0 ≤ T 207 0 (12 * c + j) ∧ T 207 0 (12 * c + j) < T 111 0 12) ∧ (∀ i j : Int, 0 ≤ i → i < j → j < T 208 0 c → T 207 0 (12 * c + i) ≠ T 207 0 (12 * c + j))
theorem EN__f {ws : List (Nat × List Int)} {T T' : Zt} (h : EN_ T) (f : fr_ ws T T') (w : (∀ j, fw_ ws 208 j = false) ∧ (∀ j, fw_ ws 207 j = false) ∧ fw_ ws 111 12 = false ∧ True) : EN_ T' := by
  have e0 : ∀ i j, T' 208 i j = T 208 i j := fun i j => f 208 i j (w.1 j)
  have e1 : ∀ i j, T' 207 i j = T 207 i j := fun i j => f 207 i j (w.2.1 j)
  have e2 : ∀ i, T' 111 i 12 = T 111 i 12 := fun i => f 111 i 12 w.2.2.1
  simp only [EN_, e0, e1, e2] at h ⊢
  exact h
abbrev cX11_enter : ByteArray := prog_13_method_28_code
def yX11_enter : MethodName := ⟨RX11, "enter", "(II)I"⟩
def zX11_enter : Zm := (RX11, cX11_enter, 3, (some .int), { frames := 2, cells := 0, slots := 0, locals := 43 })
set_option maxRecDepth 100000 in
theorem cl_X11_340 : cv_ RX11 340 yX11_hasEntered zX11_hasEntered 11 2 := ⟨gi_V (lwq_8 (dqc_m (dqc_m (dqc_m (dqc_m (dqc_m (dqa_m (dqa_m (List.mem_of_getElem? (i := 7) rfl)))))))) rfl : Cond.methodLink RX11 340 yX11_hasEntered ∈ lw_g) (lwq_8 (dqc_m (dqc_m (dqc_m (dqc_m (dqc_m (dqa_m (dqa_m (dqa_m (List.mem_of_getElem? (i := 1) rfl))))))))) rfl : Cond.instanceMethod yX11_hasEntered ∈ lw_g) (lw_sel 19 rfl : Cond.selects yX11_hasEntered.cls yX11_hasEntered yX11_hasEntered ∈ lw_g) (lwq_1 (dqa_m (List.mem_of_getElem? (i := 2) rfl)) rfl : Cond.initialized yX11_hasEntered.cls ∈ lw_g) (lwq_8 (dqc_m (dqc_m (dqc_m (dqc_m (dqc_m (dqa_m (dqa_m (dqa_m (List.mem_of_getElem? (i := 2) rfl))))))))) rfl : Cond.code yX11_hasEntered cX11_hasEntered 5 (some .boolean) ∈ lw_g), ⟨nmh_1.1, nmh_1.2, pdq_5⟩, ⟨_, _, rfl⟩⟩
abbrev po_X11_enter (T : Zt) (c cl : Int) : Zt → Option Zv → Prop := fun T' r => ∃ x : Int, r = some (vI x) ∧ fr_ [(207, []), (208, [])] T T' ∧ (EN_ T')
abbrev cX11_match : ByteArray := prog_13_method_31_code
def yX11_match : MethodName := ⟨RX11, "match", "(II)I"⟩
def zX11_match : Zm := (RX11, cX11_match, 3, (some .int), { frames := 2, cells := 0, slots := 0, locals := 43 })
theorem ds_X11_match_15 : decode cX11_match 15 = .ok (.tableswitch 90 0 6 #[41, 48, 55, 62, 69, 76, 83], 41) := by decide +kernel
abbrev cX11_moved : ByteArray := prog_13_method_37_code
def yX11_moved : MethodName := ⟨RX11, "moved", "(I)I"⟩
def zX11_moved : Zm := (RX11, cX11_moved, 2, (some .int), { frames := 2, cells := 0, slots := 0, locals := 43 })
abbrev cX11_officialOf : ByteArray := prog_13_method_128_code
def yX11_officialOf : MethodName := ⟨RX11, "officialOf", "(I)I"⟩
def zX11_officialOf : Zm := (RX11, cX11_officialOf, 2, (some .int), { frames := 2, cells := 0, slots := 0, locals := 43 })
theorem bk_X11_officialOf_0 : ck_ fX11 (some .int) cX11_officialOf 0 [.iload 1, .aload 0, .tableswitch 0 11 29 #[]] 5 = true := qck_r (nn_ _) (by decide +kernel)
theorem bs_X11_officialOf_0 {P : Zt → Option Zv → Prop} (K : Int → Zl → List Zv → Zt → Prop) : sx_ K P [.iload 1, .aload 0, .tableswitch 0 11 29 #[]] 5 = x_iload 1 (x_aload 0 (x_g0 111 29 0 400 (K 5))) := ((xe_iload 1).trans (congrArg (x_iload 1) ((xe_aload 0).trans (congrArg (x_aload 0) ((xe_g0 (kk := 111) rfl tl_11_29).trans (congrArg (x_g0 111 29 0 400) xe_nil))))))
theorem bk_X11_officialOf_8 : ck_ fX11 (some .int) cX11_officialOf 8 [.ifCond .eq 20, .aload 0, .tableswitch 0 11 38 #[], .iload 1, .iaload, .goto 22] 20 = true := qck_r (nn_ _) (by decide +kernel)
theorem bs_X11_officialOf_8 {P : Zt → Option Zv → Prop} (K : Int → Zl → List Zv → Zt → Prop) : sx_ K P [.ifCond .eq 20, .aload 0, .tableswitch 0 11 38 #[], .iload 1, .iaload, .goto 22] 20 = x_ifCond .eq 20 K (x_aload 0 (x_g1 111 238 (x_iload 1 (x_iaload (x_goto 22 K))))) := ((xe_ifCond .eq 20).trans (congrArg (x_ifCond .eq 20 K) ((xe_aload 0).trans (congrArg (x_aload 0) ((xe_g1 (kk := 111) rfl tl_11_38).trans (congrArg (x_g1 111 238) ((xe_iload 1).trans (congrArg (x_iload 1) ((xe_iaload).trans (congrArg (x_iaload) (xe_goto 22)))))))))))
theorem bk_X11_officialOf_20 : ck_ fX11 (some .int) cX11_officialOf 20 [.iconst (-2), .ireturn] 23 = true := qck_r (nn_ _) (by decide +kernel)
theorem bs_X11_officialOf_20 {P : Zt → Option Zv → Prop} (K : Int → Zl → List Zv → Zt → Prop) : sx_ K P [.iconst (-2), .ireturn] 23 = x_iconst (-2) (x_ireturn P) := ((xe_iconst (-2)).trans (congrArg (x_iconst (-2)) (xe_ireturn)))
theorem bk_X11_officialOf_22 : ck_ fX11 (some .int) cX11_officialOf 22 [.ireturn] 23 = true := qck_r (nn_ _) (by decide +kernel)
theorem bs_X11_officialOf_22 {P : Zt → Option Zv → Prop} (K : Int → Zl → List Zv → Zt → Prop) : sx_ K P [.ireturn] 23 = x_ireturn P := (xe_ireturn)
abbrev po_X11_officialOf (T : Zt) (m : Int) : Zt → Option Zv → Prop := fun T' r => T = T' ∧ ∃ x : Int, r = some (vI x) ∧ (True)
set_option maxHeartbeats 4000000 in
theorem ct_X11_officialOf {T : Zt} {m : Int} : Ct_ yX11_officialOf zX11_officialOf T [vR 111 0, vI m] (po_X11_officialOf T m) := by
  refine ct_of pn_11 rfl rfl (Nat.le_of_ble_eq_true rfl) (fun hT hav => ?_)
  have hr_m : -2147483648 ≤ m ∧ m ≤ 2147483647 := hav (vI m) (List.mem_cons_of_mem _ List.mem_cons_self)
  have hz : zX11_officialOf.2.2.2.1 = some .boolean → ∀ (T' : Zt) (x : Int), po_X11_officialOf T m T' (some (vI x)) → 0 ≤ x ∧ x ≤ 1 := fun h => by cases h
  show J_ zX11_officialOf T (po_X11_officialOf T m) 0 0 0 [some (vR 111 0), some (vI m)] [] T
  refine j_blx (F := fX11) tb_X11 (nn_ _) bk_X11_officialOf_0 bs_X11_officialOf_0 hz (fun K hK => ?_)
  intro b1 b1b
  refine hK 5 _ [vI (T 111 0 29), vI m] T ?_
  refine j_callS (y := yX11_isOf) (Yc := zX11_isOf) (rest := []) [vI m, vI (T 111 0 29)] (ct_X11_isOf (T := T) (by omega)) cl_X11_317 (qd_c (by decide +kernel)) (nn_ _) rfl (rf_of rfl) (Nat.le_of_ble_eq_true rfl) (Nat.le_of_ble_eq_true rfl) (Nat.le_of_ble_eq_true rfl) rfl ?_
  rintro _ _ ⟨rfl, x2, rfl, hx2⟩
  show J_ zX11_officialOf T (po_X11_officialOf T m) 0 0 8 _ [vI x2] T
  refine j_blx (F := fX11) tb_X11 (nn_ _) bk_X11_officialOf_8 bs_X11_officialOf_8 hz (fun K hK => ?_)
  refine And.intro (fun c3 => ?_) (fun c3 => ?_)
  · replace hx2 := hx2.resolve_left (fun z => absurd (c3.symm.trans z.1) (by decide))
    clear c3
    refine hK 20 _ [] T ?_
    refine j_blx (F := fX11) tb_X11 (nn_ _) bk_X11_officialOf_20 bs_X11_officialOf_20 hz (fun K hK => ?_)
    refine (show po_X11_officialOf T m T (some (vI (-2))) from ?_)
    exact ⟨rfl, _, rfl, by trivial⟩
  · replace hx2 := hx2.resolve_right (fun z => c3 z.1)
    clear c3
    refine ix_i (by omega) ?_
    intro b4 b4b
    refine hK 22 _ [vI (T 238 0 m)] T ?_
    refine j_blx (F := fX11) tb_X11 (nn_ _) bk_X11_officialOf_22 bs_X11_officialOf_22 hz (fun K hK => ?_)
    refine (show po_X11_officialOf T m T (some (vI (T 238 0 m))) from ?_)
    exact ⟨rfl, _, rfl, by trivial⟩
abbrev cX11_count : ByteArray := prog_13_method_129_code
def yX11_count : MethodName := ⟨RX11, "count", "(I)I"⟩
def zX11_count : Zm := (RX11, cX11_count, 2, (some .int), { frames := 0, cells := 0, slots := 0, locals := 0 })
theorem ds_X11_count_1 : decode cX11_count 1 = .ok (.tableswitch 78 0 6 #[43, 48, 53, 58, 63, 68, 73], 43) := by decide +kernel
abbrev cX11_cut : ByteArray := prog_13_method_109_code
def yX11_cut : MethodName := ⟨RX11, "cut", "()I"⟩
def zX11_cut : Zm := (RX11, cX11_cut, 1, (some .int), { frames := 0, cells := 0, slots := 0, locals := 0 })
abbrev cX11_drawn : ByteArray := prog_13_method_121_code
def yX11_drawn : MethodName := ⟨RX11, "drawn", "(I)I"⟩
def zX11_drawn : Zm := (RX11, cX11_drawn, 2, (some .int), { frames := 2, cells := 0, slots := 0, locals := 43 })
theorem bk_X11_drawn_0 : ck_ fX11 (some .int) cX11_drawn 0 [.iload 1, .aload 0, .tableswitch 0 11 12 #[]] 5 = true := qck_r (nn_ _) (by decide +kernel)
theorem bs_X11_drawn_0 {P : Zt → Option Zv → Prop} (K : Int → Zl → List Zv → Zt → Prop) : sx_ K P [.iload 1, .aload 0, .tableswitch 0 11 12 #[]] 5 = x_iload 1 (x_aload 0 (x_g0 111 12 0 12 (K 5))) := ((xe_iload 1).trans (congrArg (x_iload 1) ((xe_aload 0).trans (congrArg (x_aload 0) ((xe_g0 (kk := 111) rfl tl_11_12).trans (congrArg (x_g0 111 12 0 12) xe_nil))))))
theorem bk_X11_drawn_8 : ck_ fX11 (some .int) cX11_drawn 8 [.ifCond .ne 14, .iconst (-2), .ireturn] 14 = true := qck_r (nn_ _) (by decide +kernel)
theorem bs_X11_drawn_8 {P : Zt → Option Zv → Prop} (K : Int → Zl → List Zv → Zt → Prop) : sx_ K P [.ifCond .ne 14, .iconst (-2), .ireturn] 14 = x_ifCond .ne 14 K (x_iconst (-2) (x_ireturn P)) := ((xe_ifCond .ne 14).trans (congrArg (x_ifCond .ne 14 K) ((xe_iconst (-2)).trans (congrArg (x_iconst (-2)) (xe_ireturn)))))
theorem bk_X11_drawn_14 : ck_ fX11 (some .int) cX11_drawn 14 [.aload 0, .tableswitch 0 11 98 #[], .ifCond .eq 30, .aload 0, .tableswitch 0 11 102 #[], .iload 1, .iaload, .goto 31] 30 = true := qck_r (nn_ _) (by decide +kernel)
theorem bs_X11_drawn_14 {P : Zt → Option Zv → Prop} (K : Int → Zl → List Zv → Zt → Prop) : sx_ K P [.aload 0, .tableswitch 0 11 98 #[], .ifCond .eq 30, .aload 0, .tableswitch 0 11 102 #[], .iload 1, .iaload, .goto 31] 30 = x_aload 0 (x_g0 111 98 0 1 (x_ifCond .eq 30 K (x_aload 0 (x_g1 111 302 (x_iload 1 (x_iaload (x_goto 31 K))))))) := ((xe_aload 0).trans (congrArg (x_aload 0) ((xe_g0 (kk := 111) rfl tl_11_98).trans (congrArg (x_g0 111 98 0 1) ((xe_ifCond .eq 30).trans (congrArg (x_ifCond .eq 30 K) ((xe_aload 0).trans (congrArg (x_aload 0) ((xe_g1 (kk := 111) rfl tl_11_102).trans (congrArg (x_g1 111 302) ((xe_iload 1).trans (congrArg (x_iload 1) ((xe_iaload).trans (congrArg (x_iaload) (xe_goto 31)))))))))))))))
theorem bk_X11_drawn_30 : ck_ fX11 (some .int) cX11_drawn 30 [.iconst (-1), .ireturn] 32 = true := qck_r (nn_ _) (by decide +kernel)
theorem bs_X11_drawn_30 {P : Zt → Option Zv → Prop} (K : Int → Zl → List Zv → Zt → Prop) : sx_ K P [.iconst (-1), .ireturn] 32 = x_iconst (-1) (x_ireturn P) := ((xe_iconst (-1)).trans (congrArg (x_iconst (-1)) (xe_ireturn)))
theorem bk_X11_drawn_31 : ck_ fX11 (some .int) cX11_drawn 31 [.ireturn] 32 = true := qck_r (nn_ _) (by decide +kernel)
theorem bs_X11_drawn_31 {P : Zt → Option Zv → Prop} (K : Int → Zl → List Zv → Zt → Prop) : sx_ K P [.ireturn] 32 = x_ireturn P := (xe_ireturn)
abbrev po_X11_drawn (T : Zt) (c : Int) : Zt → Option Zv → Prop := fun T' r => T = T' ∧ ∃ x : Int, r = some (vI x) ∧ (True)
set_option maxHeartbeats 4000000 in
theorem ct_X11_drawn {T : Zt} {c : Int} : Ct_ yX11_drawn zX11_drawn T [vR 111 0, vI c] (po_X11_drawn T c) := by
  refine ct_of pn_11 rfl rfl (Nat.le_of_ble_eq_true rfl) (fun hT hav => ?_)
  have hr_c : -2147483648 ≤ c ∧ c ≤ 2147483647 := hav (vI c) (List.mem_cons_of_mem _ List.mem_cons_self)
  have hz : zX11_drawn.2.2.2.1 = some .boolean → ∀ (T' : Zt) (x : Int), po_X11_drawn T c T' (some (vI x)) → 0 ≤ x ∧ x ≤ 1 := fun h => by cases h
  show J_ zX11_drawn T (po_X11_drawn T c) 0 0 0 [some (vR 111 0), some (vI c)] [] T
  refine j_blx (F := fX11) tb_X11 (nn_ _) bk_X11_drawn_0 bs_X11_drawn_0 hz (fun K hK => ?_)
  intro b1 b1b
  refine hK 5 _ [vI (T 111 0 12), vI c] T ?_
  refine j_callS (y := yX11_isOf) (Yc := zX11_isOf) (rest := []) [vI c, vI (T 111 0 12)] (ct_X11_isOf (T := T) (by omega)) cl_X11_317 (qd_c (by decide +kernel)) (nn_ _) rfl (rf_of rfl) (Nat.le_of_ble_eq_true rfl) (Nat.le_of_ble_eq_true rfl) (Nat.le_of_ble_eq_true rfl) rfl ?_
  rintro _ _ ⟨rfl, x2, rfl, hx2⟩
  show J_ zX11_drawn T (po_X11_drawn T c) 0 0 8 _ [vI x2] T
  refine j_blx (F := fX11) tb_X11 (nn_ _) bk_X11_drawn_8 bs_X11_drawn_8 hz (fun K hK => ?_)
  refine And.intro (fun c3 => ?_) (fun c3 => ?_)
  · replace hx2 := hx2.resolve_right (fun z => c3 z.1)
    clear c3
    refine hK 14 _ [] T ?_
    refine j_blx (F := fX11) tb_X11 (nn_ _) bk_X11_drawn_14 bs_X11_drawn_14 hz (fun K hK => ?_)
    intro b4 b4b
    refine And.intro (fun c5 => ?_) (fun c5 => ?_)
    · refine hK 30 _ [] T ?_
      refine j_blx (F := fX11) tb_X11 (nn_ _) bk_X11_drawn_30 bs_X11_drawn_30 hz (fun K hK => ?_)
      refine (show po_X11_drawn T c T (some (vI (-1))) from ?_)
      exact ⟨rfl, _, rfl, by trivial⟩
    · refine ix_i (by omega) ?_
      intro b6 b6b
      refine hK 31 _ [vI (T 302 0 c)] T ?_
      refine j_blx (F := fX11) tb_X11 (nn_ _) bk_X11_drawn_31 bs_X11_drawn_31 hz (fun K hK => ?_)
      refine (show po_X11_drawn T c T (some (vI (T 302 0 c))) from ?_)
      exact ⟨rfl, _, rfl, by trivial⟩
  · replace hx2 := hx2.resolve_left (fun z => absurd (c3.symm.trans z.1) (by decide))
    clear c3
    refine (show po_X11_drawn T c T (some (vI (-2))) from ?_)
    exact ⟨rfl, _, rfl, by trivial⟩
abbrev cX11_witness : ByteArray := prog_13_method_108_code
def yX11_witness : MethodName := ⟨RX11, "witness", "(I)I"⟩
def zX11_witness : Zm := (RX11, cX11_witness, 2, (some .int), { frames := 2, cells := 0, slots := 0, locals := 43 })
abbrev cX11_drawing : ByteArray := prog_13_method_111_code
def yX11_drawing : MethodName := ⟨RX11, "drawing", "(II)I"⟩
def zX11_drawing : Zm := (RX11, cX11_drawing, 4, (some .int), { frames := 1, cells := 0, slots := 0, locals := 22 })
theorem bk_X11_drawing_38 : ck_ fX11 (some .int) cX11_drawing 38 [.iload 3, .iconst 12, .if_icmp .ge 64, .aload 0, .tableswitch 0 11 101 #[], .iload 3, .iconst (-1), .iastore, .aload 0, .tableswitch 0 11 102 #[], .iload 3, .iconst (-1), .iastore, .iinc 3 1, .goto 38] 64 = true := qck_r (nn_ _) (by decide +kernel)
theorem bs_X11_drawing_38 {P : Zt → Option Zv → Prop} (K : Int → Zl → List Zv → Zt → Prop) : sx_ K P [.iload 3, .iconst 12, .if_icmp .ge 64, .aload 0, .tableswitch 0 11 101 #[], .iload 3, .iconst (-1), .iastore, .aload 0, .tableswitch 0 11 102 #[], .iload 3, .iconst (-1), .iastore, .iinc 3 1, .goto 38] 64 = x_iload 3 (x_iconst 12 (x_if_icmp .ge 64 K (x_aload 0 (x_g1 111 301 (x_iload 3 (x_iconst (-1) (x_iastore (x_aload 0 (x_g1 111 302 (x_iload 3 (x_iconst (-1) (x_iastore (x_iinc 3 1 (x_goto 38 K)))))))))))))) := ((xe_iload 3).trans (congrArg (x_iload 3) ((xe_iconst 12).trans (congrArg (x_iconst 12) ((xe_if_icmp .ge 64).trans (congrArg (x_if_icmp .ge 64 K) ((xe_aload 0).trans (congrArg (x_aload 0) ((xe_g1 (kk := 111) rfl tl_11_101).trans (congrArg (x_g1 111 301) ((xe_iload 3).trans (congrArg (x_iload 3) ((xe_iconst (-1)).trans (congrArg (x_iconst (-1)) ((xe_iastore).trans (congrArg (x_iastore) ((xe_aload 0).trans (congrArg (x_aload 0) ((xe_g1 (kk := 111) rfl tl_11_102).trans (congrArg (x_g1 111 302) ((xe_iload 3).trans (congrArg (x_iload 3) ((xe_iconst (-1)).trans (congrArg (x_iconst (-1)) ((xe_iastore).trans (congrArg (x_iastore) ((xe_iinc 3 1).trans (congrArg (x_iinc 3 1) (xe_goto 38)))))))))))))))))))))))))))))
theorem bk_X11_drawing_64 : ck_ fX11 (some .int) cX11_drawing 64 [.iconst 1, .ireturn] 66 = true := qck_r (nn_ _) (by decide +kernel)
theorem bs_X11_drawing_64 {P : Zt → Option Zv → Prop} (K : Int → Zl → List Zv → Zt → Prop) : sx_ K P [.iconst 1, .ireturn] 66 = x_iconst 1 (x_ireturn P) := ((xe_iconst 1).trans (congrArg (x_iconst 1) (xe_ireturn)))
theorem bk_X11_drawing_0 : ck_ fX11 (some .int) cX11_drawing 0 [.iload 1, .iconst 1, .iconst 4] 3 = true := qck_r (nn_ _) (by decide +kernel)
theorem bs_X11_drawing_0 {P : Zt → Option Zv → Prop} (K : Int → Zl → List Zv → Zt → Prop) : sx_ K P [.iload 1, .iconst 1, .iconst 4] 3 = x_iload 1 (x_iconst 1 (x_iconst 4 (K 3))) := ((xe_iload 1).trans (congrArg (x_iload 1) ((xe_iconst 1).trans (congrArg (x_iconst 1) ((xe_iconst 4).trans (congrArg (x_iconst 4) xe_nil))))))
theorem bk_X11_drawing_6 : ck_ fX11 (some .int) cX11_drawing 6 [.ifCond .eq 18, .iload 2, .iconst 1, .iconst 3] 12 = true := qck_r (nn_ _) (by decide +kernel)
theorem bs_X11_drawing_6 {P : Zt → Option Zv → Prop} (K : Int → Zl → List Zv → Zt → Prop) : sx_ K P [.ifCond .eq 18, .iload 2, .iconst 1, .iconst 3] 12 = x_ifCond .eq 18 K (x_iload 2 (x_iconst 1 (x_iconst 3 (K 12)))) := ((xe_ifCond .eq 18).trans (congrArg (x_ifCond .eq 18 K) ((xe_iload 2).trans (congrArg (x_iload 2) ((xe_iconst 1).trans (congrArg (x_iconst 1) ((xe_iconst 3).trans (congrArg (x_iconst 3) xe_nil))))))))
theorem bk_X11_drawing_18 : ck_ fX11 (some .int) cX11_drawing 18 [.iconst (-3), .ireturn] 21 = true := qck_r (nn_ _) (by decide +kernel)
theorem bs_X11_drawing_18 {P : Zt → Option Zv → Prop} (K : Int → Zl → List Zv → Zt → Prop) : sx_ K P [.iconst (-3), .ireturn] 21 = x_iconst (-3) (x_ireturn P) := ((xe_iconst (-3)).trans (congrArg (x_iconst (-3)) (xe_ireturn)))
theorem bk_X11_drawing_15 : ck_ fX11 (some .int) cX11_drawing 15 [.ifCond .ne 21, .iconst (-3), .ireturn] 21 = true := qck_r (nn_ _) (by decide +kernel)
theorem bs_X11_drawing_15 {P : Zt → Option Zv → Prop} (K : Int → Zl → List Zv → Zt → Prop) : sx_ K P [.ifCond .ne 21, .iconst (-3), .ireturn] 21 = x_ifCond .ne 21 K (x_iconst (-3) (x_ireturn P)) := ((xe_ifCond .ne 21).trans (congrArg (x_ifCond .ne 21 K) ((xe_iconst (-3)).trans (congrArg (x_iconst (-3)) (xe_ireturn)))))
theorem bk_X11_drawing_21 : ck_ fX11 (some .int) cX11_drawing 21 [.aload 0, .iconst 1, .tableswitch 1 11 98 #[], .aload 0, .iload 1, .tableswitch 1 11 99 #[], .aload 0, .iload 2, .tableswitch 1 11 100 #[], .iconst 0, .istore 3] 38 = true := qck_r (nn_ _) (by decide +kernel)
theorem bs_X11_drawing_21 {P : Zt → Option Zv → Prop} (K : Int → Zl → List Zv → Zt → Prop) : sx_ K P [.aload 0, .iconst 1, .tableswitch 1 11 98 #[], .aload 0, .iload 1, .tableswitch 1 11 99 #[], .aload 0, .iload 2, .tableswitch 1 11 100 #[], .iconst 0, .istore 3] 38 = x_aload 0 (x_iconst 1 (x_p 111 98 0 1 (x_aload 0 (x_iload 1 (x_p 111 99 0 4 (x_aload 0 (x_iload 2 (x_p 111 100 0 3 (x_iconst 0 (x_istore 3 (K 38))))))))))) := ((xe_aload 0).trans (congrArg (x_aload 0) ((xe_iconst 1).trans (congrArg (x_iconst 1) ((xe_p (kk := 111) rfl tl_11_98).trans (congrArg (x_p 111 98 0 1) ((xe_aload 0).trans (congrArg (x_aload 0) ((xe_iload 1).trans (congrArg (x_iload 1) ((xe_p (kk := 111) rfl tl_11_99).trans (congrArg (x_p 111 99 0 4) ((xe_aload 0).trans (congrArg (x_aload 0) ((xe_iload 2).trans (congrArg (x_iload 2) ((xe_p (kk := 111) rfl tl_11_100).trans (congrArg (x_p 111 100 0 3) ((xe_iconst 0).trans (congrArg (x_iconst 0) ((xe_istore 3).trans (congrArg (x_istore 3) xe_nil))))))))))))))))))))))
abbrev po_X11_drawing (T : Zt) (g l : Int) : Zt → Option Zv → Prop := fun T' r => ∃ x : Int, r = some (vI x) ∧ fr_ [(111, [98, 99, 100]), (301, []), (302, [])] T T' ∧ ((x = -3 ∧ ¬ (1 ≤ g ∧ g ≤ 4 ∧ 1 ≤ l ∧ l ≤ 3)) ∨ (x = 1 ∧ 1 ≤ g ∧ g ≤ 4 ∧ 1 ≤ l ∧ l ≤ 3))
set_option maxHeartbeats 4000000 in
theorem ct_X11_drawing {T : Zt} {g l : Int} : Ct_ yX11_drawing zX11_drawing T [vR 111 0, vI g, vI l] (po_X11_drawing T g l) := by
  refine ct_of pn_11 rfl rfl (Nat.le_of_ble_eq_true rfl) (fun hT hav => ?_)
  have hr_g : -2147483648 ≤ g ∧ g ≤ 2147483647 := hav (vI g) (List.mem_cons_of_mem _ List.mem_cons_self)
  have hr_l : -2147483648 ≤ l ∧ l ≤ 2147483647 := hav (vI l) (List.mem_cons_of_mem _ (List.mem_cons_of_mem _ List.mem_cons_self))
  have hz : zX11_drawing.2.2.2.1 = some .boolean → ∀ (T' : Zt) (x : Int), po_X11_drawing T g l T' (some (vI x)) → 0 ≤ x ∧ x ≤ 1 := fun h => by cases h
  show J_ zX11_drawing T (po_X11_drawing T g l) 0 0 0 [some (vR 111 0), some (vI g), some (vI l), none] [] T
  have c_38 : ∀ (nn : Nat) (k : Int) (T1 : Zt), ((12 - k).toNat) ≤ nn → (fr_ [(111, [98, 99, 100]), (301, []), (302, [])] T T1) → (0 ≤ k ∧ 1 ≤ g ∧ g ≤ 4 ∧ 1 ≤ l ∧ l ≤ 3) → J_ zX11_drawing T (po_X11_drawing T g l) 0 0 38 [some (vR 111 0), some (vI g), some (vI l), some (vI k)] [] T1 := by
    intro nn
    induction nn using Nat.strongRecOn with
    | _ nn ih_38 =>
      intro k T1 hm_38 hf_38 k1
      replace hm_38 := fun (_ : Unit) => hm_38
      refine j_blx (F := fX11) tb_X11 (nn_ _) bk_X11_drawing_38 bs_X11_drawing_38 hz (fun K hK => ?_)
      refine And.intro (fun c1 => ?_) (fun c1 => ?_)
      · refine hK 64 _ [] T1 ?_
        refine j_blx (F := fX11) tb_X11 (nn_ _) bk_X11_drawing_64 bs_X11_drawing_64 hz (fun K hK => ?_)
        refine (show po_X11_drawing T g l T1 (some (vI 1)) from ?_)
        exact ⟨_, rfl, fr_t (fr_0 _ _) (fr_s hf_38 rfl), by omega⟩
      · refine iy_i (by omega) (by omega) ?_
        refine x_nm (fun U2 hU2 => ?_)
        have e3 := up_f hU2
        refine iy_i (by omega) (by omega) ?_
        refine x_nm (fun U4 hU4 => ?_)
        have e5 := up_f hU4
        refine rg_i (by omega) ?_
        refine hK 38 [some (vR 111 0), some (vI g), some (vI l), some (vI (k + 1))] [] U4 ?_
        refine ih_38 _ ?_ (k + 1) U4 (Nat.le_refl _) ?_ ?_
        · have hm_38 := hm_38 (); omega
        · exact fr_u (fr_u (fr_t (fr_0 _ _) (fr_s hf_38 rfl)) hU2 rfl) hU4 rfl
        · omega
  refine j_blx (F := fX11) tb_X11 (nn_ _) bk_X11_drawing_0 bs_X11_drawing_0 hz (fun K hK => ?_)
  refine hK 3 _ [vI 4, vI 1, vI g] T ?_
  refine j_callS (y := yX11_in) (Yc := zX11_in) (rest := []) [vI g, vI 1, vI 4] (ct_X11_in (T := T)) cl_X11_255 (qd_c (by decide +kernel)) (nn_ _) rfl (rf_of rfl) (Nat.le_of_ble_eq_true rfl) (Nat.le_of_ble_eq_true rfl) (Nat.le_of_ble_eq_true rfl) rfl ?_
  rintro _ _ ⟨rfl, x6, rfl, hx6⟩
  show J_ zX11_drawing T (po_X11_drawing T g l) 0 0 6 _ [vI x6] T
  refine j_blx (F := fX11) tb_X11 (nn_ _) bk_X11_drawing_6 bs_X11_drawing_6 hz (fun K hK => ?_)
  refine And.intro (fun c7 => ?_) (fun c7 => ?_)
  · replace hx6 := hx6.resolve_left (fun z => absurd (c7.symm.trans z.1) (by decide))
    clear c7
    refine hK 18 _ [] T ?_
    refine j_blx (F := fX11) tb_X11 (nn_ _) bk_X11_drawing_18 bs_X11_drawing_18 hz (fun K hK => ?_)
    refine (show po_X11_drawing T g l T (some (vI (-3))) from ?_)
    exact ⟨_, rfl, fr_0 _ _, by omega⟩
  · replace hx6 := hx6.resolve_right (fun z => c7 z.1)
    clear c7
    refine hK 12 _ [vI 3, vI 1, vI l] T ?_
    refine j_callS (y := yX11_in) (Yc := zX11_in) (rest := []) [vI l, vI 1, vI 3] (ct_X11_in (T := T)) cl_X11_255 (qd_c (by decide +kernel)) (nn_ _) rfl (rf_of rfl) (Nat.le_of_ble_eq_true rfl) (Nat.le_of_ble_eq_true rfl) (Nat.le_of_ble_eq_true rfl) rfl ?_
    rintro _ _ ⟨rfl, x8, rfl, hx8⟩
    show J_ zX11_drawing T (po_X11_drawing T g l) 0 0 15 _ [vI x8] T
    refine j_blx (F := fX11) tb_X11 (nn_ _) bk_X11_drawing_15 bs_X11_drawing_15 hz (fun K hK => ?_)
    refine And.intro (fun c9 => ?_) (fun c9 => ?_)
    · replace hx8 := hx8.resolve_right (fun z => c9 z.1)
      clear c9
      refine hK 21 _ [] T ?_
      refine j_blx (F := fX11) tb_X11 (nn_ _) bk_X11_drawing_21 bs_X11_drawing_21 hz (fun K hK => ?_)
      refine bd_i (by omega) ?_
      refine x_nm (fun U10 hU10 => ?_)
      have e11 := up_f hU10
      refine bd_i (by omega) ?_
      refine x_nm (fun U12 hU12 => ?_)
      have e13 := up_f hU12
      refine bd_i (by omega) ?_
      refine x_nm (fun U14 hU14 => ?_)
      have e15 := up_f hU14
      refine hK 38 [some (vR 111 0), some (vI g), some (vI l), some (vI 0)] [] U14 ?_
      refine c_38 _ 0 U14 (Nat.le_refl _) ?_ ?_
      · exact fr_u (fr_u (fr_u (fr_0 _ _) hU10 rfl) hU12 rfl) hU14 rfl
      · omega
    · replace hx8 := hx8.resolve_left (fun z => absurd (c9.symm.trans z.1) (by decide))
      clear c9
      refine (show po_X11_drawing T g l T (some (vI (-3))) from ?_)
      exact ⟨_, rfl, fr_0 _ _, by omega⟩
abbrev cX11_isInDraw : ByteArray := prog_13_method_112_code
def yX11_isInDraw : MethodName := ⟨RX11, "isInDraw", "(I)Z"⟩
def zX11_isInDraw : Zm := (RX11, cX11_isInDraw, 2, (some .boolean), { frames := 0, cells := 0, slots := 0, locals := 0 })
theorem bk_X11_isInDraw_0 : ck_ fX11 (some .boolean) cX11_isInDraw 0 [.aload 0, .tableswitch 0 11 98 #[], .ifCond .eq 21, .aload 0, .tableswitch 0 11 101 #[], .iload 1, .iaload, .iconst (-1), .if_icmp .eq 21, .iconst 1, .goto 22] 21 = true := qck_r (nn_ _) (by decide +kernel)
theorem bs_X11_isInDraw_0 {P : Zt → Option Zv → Prop} (K : Int → Zl → List Zv → Zt → Prop) : sx_ K P [.aload 0, .tableswitch 0 11 98 #[], .ifCond .eq 21, .aload 0, .tableswitch 0 11 101 #[], .iload 1, .iaload, .iconst (-1), .if_icmp .eq 21, .iconst 1, .goto 22] 21 = x_aload 0 (x_g0 111 98 0 1 (x_ifCond .eq 21 K (x_aload 0 (x_g1 111 301 (x_iload 1 (x_iaload (x_iconst (-1) (x_if_icmp .eq 21 K (x_iconst 1 (x_goto 22 K)))))))))) := ((xe_aload 0).trans (congrArg (x_aload 0) ((xe_g0 (kk := 111) rfl tl_11_98).trans (congrArg (x_g0 111 98 0 1) ((xe_ifCond .eq 21).trans (congrArg (x_ifCond .eq 21 K) ((xe_aload 0).trans (congrArg (x_aload 0) ((xe_g1 (kk := 111) rfl tl_11_101).trans (congrArg (x_g1 111 301) ((xe_iload 1).trans (congrArg (x_iload 1) ((xe_iaload).trans (congrArg (x_iaload) ((xe_iconst (-1)).trans (congrArg (x_iconst (-1)) ((xe_if_icmp .eq 21).trans (congrArg (x_if_icmp .eq 21 K) ((xe_iconst 1).trans (congrArg (x_iconst 1) (xe_goto 22)))))))))))))))))))))
theorem bk_X11_isInDraw_21 : ck_ fX11 (some .boolean) cX11_isInDraw 21 [.iconst 0, .ireturn] 23 = true := qck_r (nn_ _) (by decide +kernel)
theorem bs_X11_isInDraw_21 {P : Zt → Option Zv → Prop} (K : Int → Zl → List Zv → Zt → Prop) : sx_ K P [.iconst 0, .ireturn] 23 = x_iconst 0 (x_ireturn P) := ((xe_iconst 0).trans (congrArg (x_iconst 0) (xe_ireturn)))
theorem bk_X11_isInDraw_22 : ck_ fX11 (some .boolean) cX11_isInDraw 22 [.ireturn] 23 = true := qck_r (nn_ _) (by decide +kernel)
theorem bs_X11_isInDraw_22 {P : Zt → Option Zv → Prop} (K : Int → Zl → List Zv → Zt → Prop) : sx_ K P [.ireturn] 23 = x_ireturn P := (xe_ireturn)
abbrev po_X11_isInDraw (T : Zt) (c : Int) : Zt → Option Zv → Prop := fun T' r => T = T' ∧ ∃ x : Int, r = some (vI x) ∧ ((x = 1 ∧ T 111 0 98 ≠ 0 ∧ T 301 0 c ≠ -1) ∨ (x = 0 ∧ ¬ (T 111 0 98 ≠ 0 ∧ T 301 0 c ≠ -1)))
set_option maxHeartbeats 4000000 in
theorem ct_X11_isInDraw {T : Zt} {c : Int} (h1 : 0 ≤ c ∧ c < 12) : Ct_ yX11_isInDraw zX11_isInDraw T [vR 111 0, vI c] (po_X11_isInDraw T c) := by
  refine ct_of pn_11 rfl rfl (Nat.le_of_ble_eq_true rfl) (fun hT hav => ?_)
  have hr_c : -2147483648 ≤ c ∧ c ≤ 2147483647 := hav (vI c) (List.mem_cons_of_mem _ List.mem_cons_self)
  have hz : zX11_isInDraw.2.2.2.1 = some .boolean → ∀ (T' : Zt) (x : Int), po_X11_isInDraw T c T' (some (vI x)) → 0 ≤ x ∧ x ≤ 1 := fun _ T' x h => by obtain ⟨-, y, e, hy⟩ := h; cases e; omega
  show J_ zX11_isInDraw T (po_X11_isInDraw T c) 0 0 0 [some (vR 111 0), some (vI c)] [] T
  refine j_blx (F := fX11) tb_X11 (nn_ _) bk_X11_isInDraw_0 bs_X11_isInDraw_0 hz (fun K hK => ?_)
  intro b1 b1b
  refine And.intro (fun c2 => ?_) (fun c2 => ?_)
  · refine hK 21 _ [] T ?_
    refine j_blx (F := fX11) tb_X11 (nn_ _) bk_X11_isInDraw_21 bs_X11_isInDraw_21 hz (fun K hK => ?_)
    refine (show po_X11_isInDraw T c T (some (vI 0)) from ?_)
    exact ⟨rfl, _, rfl, Or.inr ⟨rfl, by omega⟩⟩
  · refine ix_i (by omega) ?_
    intro b3 b3b
    refine And.intro (fun c4 => ?_) (fun c4 => ?_)
    · refine hK 21 _ [] T ?_
      refine j_blx (F := fX11) tb_X11 (nn_ _) bk_X11_isInDraw_21 bs_X11_isInDraw_21 hz (fun K hK => ?_)
      refine (show po_X11_isInDraw T c T (some (vI 0)) from ?_)
      exact ⟨rfl, _, rfl, Or.inr ⟨rfl, by omega⟩⟩
    · refine hK 22 _ [vI 1] T ?_
      refine j_blx (F := fX11) tb_X11 (nn_ _) bk_X11_isInDraw_22 bs_X11_isInDraw_22 hz (fun K hK => ?_)
      refine (show po_X11_isInDraw T c T (some (vI 1)) from ?_)
      exact ⟨rfl, _, rfl, Or.inl ⟨rfl, by omega⟩⟩
/-- a match is added -/
def am1_ (T T' : Zt) (c : Int) : Prop := T' 111 0 29 = T 111 0 29 + 1 ∧ (∀ j, j ≠ T 111 0 29 → T' 230 0 j = T 230 0 j ∧ T' 231 0 j = T 231 0 j ∧ T' 232 0 j = T 232 0 j ∧ T' 233 0 j = T 233 0 j ∧ T' 234 0 j = T 234 0 j ∧ T' 235 0 j = T 235 0 j ∧ T' 238 0 j = T 238 0 j ∧ T' 253 0 j = T 253 0 j ∧ T' 255 0 j = T 255 0 j) ∧ T' 230 0 (T 111 0 29) = c ∧ T' 235 0 (T 111 0 29) = 0 ∧ T' 253 0 (T 111 0 29) = -1 ∧ T' 255 0 (T 111 0 29) = -1
/-- matches of c are added -/
def am_ (T T' : Zt) (c : Int) : Prop := T 111 0 29 ≤ T' 111 0 29 ∧ (∀ j, j < T 111 0 29 → T' 230 0 j = T 230 0 j ∧ T' 231 0 j = T 231 0 j ∧ T' 232 0 j = T 232 0 j ∧ T' 233 0 j = T 233 0 j ∧ T' 234 0 j = T 234 0 j ∧ T' 235 0 j = T 235 0 j ∧ T' 238 0 j = T 238 0 j ∧ T' 253 0 j = T 253 0 j ∧ T' 255 0 j = T 255 0 j) ∧ (∀ j, T 111 0 29 ≤ j → j < T' 111 0 29 → T' 230 0 j = c ∧ T' 235 0 j = 0 ∧ T' 253 0 j = -1 ∧ T' 255 0 j = -1)
theorem am_s {T T1 T2 : Zt} {c : Int} (h : am_ T T1 c) (g : am1_ T1 T2 c) : am_ T T2 c := by
  obtain ⟨h1, h2, h3⟩ := h
  obtain ⟨g1, g2, g3, g4, g5, g6⟩ := g
  refine ⟨by omega, fun j a => ?_, fun j a b => ?_⟩
  · have x := g2 j (by omega)
    have y := h2 j a
    exact ⟨x.1.trans y.1, x.2.1.trans y.2.1, x.2.2.1.trans y.2.2.1, x.2.2.2.1.trans y.2.2.2.1, x.2.2.2.2.1.trans y.2.2.2.2.1, x.2.2.2.2.2.1.trans y.2.2.2.2.2.1, x.2.2.2.2.2.2.1.trans y.2.2.2.2.2.2.1, x.2.2.2.2.2.2.2.1.trans y.2.2.2.2.2.2.2.1, x.2.2.2.2.2.2.2.2.trans y.2.2.2.2.2.2.2.2⟩
  · by_cases z : j = T1 111 0 29
    · subst z; exact ⟨g3, g4, g5, g6⟩
    · have x := g2 j z
      have y := h3 j a (by omega)
      exact ⟨x.1.trans y.1, x.2.2.2.2.2.1.trans y.2.1, x.2.2.2.2.2.2.2.1.trans y.2.2.1, x.2.2.2.2.2.2.2.2.trans y.2.2.2⟩
theorem mb_ {a b A B : Int} (h1 : 0 ≤ a) (h2 : a ≤ A) (h3 : 0 ≤ b) (h4 : b ≤ B) : 0 ≤ a * b ∧ a * b ≤ A * B := ⟨Int.mul_nonneg h1 h3, Int.mul_le_mul h2 h4 h3 (by omega)⟩
theorem pl_1 {e : Int} (h1 : 2 ≤ e) (h2 : e ≤ 12) : (e + e % 2 - 1) * ((e + e % 2) / 2 - e % 2) = e * (e - 1) / 2 := by
  rcases (by omega : e = 2 ∨ e = 3 ∨ e = 4 ∨ e = 5 ∨ e = 6 ∨ e = 7 ∨ e = 8 ∨ e = 9 ∨ e = 10 ∨ e = 11 ∨ e = 12) with rfl | rfl | rfl | rfl | rfl | rfl | rfl | rfl | rfl | rfl | rfl <;> rfl
abbrev cX11_addMatch : ByteArray := prog_13_method_29_code
def yX11_addMatch : MethodName := ⟨RX11, "addMatch", "(IIIII)V"⟩
def zX11_addMatch : Zm := (RX11, cX11_addMatch, 7, none, { frames := 0, cells := 0, slots := 0, locals := 0 })
abbrev cX11_plan : ByteArray := prog_13_method_30_code
def yX11_plan : MethodName := ⟨RX11, "plan", "(II)I"⟩
def zX11_plan : Zm := (RX11, cX11_plan, 15, (some .int), { frames := 2, cells := 0, slots := 0, locals := 43 })
set_option maxRecDepth 100000 in
theorem cl_X11_346 : cv_ RX11 346 yX11_addMatch zX11_addMatch 11 5 := ⟨gi_V (lwq_8 (dqc_m (dqc_m (dqc_m (dqc_m (dqc_m (dqa_m (dqa_m (dqa_m (List.mem_of_getElem? (i := 7) rfl))))))))) rfl : Cond.methodLink RX11 346 yX11_addMatch ∈ lw_g) (lwq_8 (dqc_m (dqc_m (dqc_m (dqc_m (dqc_m (dqc_m (List.mem_of_getElem? (i := 1) rfl))))))) rfl : Cond.instanceMethod yX11_addMatch ∈ lw_g) (lw_sel 4 rfl : Cond.selects yX11_addMatch.cls yX11_addMatch yX11_addMatch ∈ lw_g) (lwq_1 (dqa_m (List.mem_of_getElem? (i := 2) rfl)) rfl : Cond.initialized yX11_addMatch.cls ∈ lw_g) (lwq_8 (dqc_m (dqc_m (dqc_m (dqc_m (dqc_m (dqc_m (List.mem_of_getElem? (i := 2) rfl))))))) rfl : Cond.code yX11_addMatch cX11_addMatch 7 none ∈ lw_g), ⟨nmh_1.1, nmh_1.2, pdq_6⟩, ⟨_, _, rfl⟩⟩
def ML_ (T : Zt) : Prop := ∀ c : Int, 0 ≤ c → c < 4 → T 210 0 c + T 211 0 c ≤ T 111 0 29
theorem ML__f {ws : List (Nat × List Int)} {T T' : Zt} (h : ML_ T) (f : fr_ ws T T') (w : (∀ j, fw_ ws 210 j = false) ∧ (∀ j, fw_ ws 211 j = false) ∧ fw_ ws 111 29 = false ∧ True) : ML_ T' := by
  have e0 : ∀ i j, T' 210 i j = T 210 i j := fun i j => f 210 i j (w.1 j)
  have e1 : ∀ i j, T' 211 i j = T 211 i j := fun i j => f 211 i j (w.2.1 j)
  have e2 : ∀ i, T' 111 i 29 = T 111 i 29 := fun i => f 111 i 29 w.2.2.1
  simp only [ML_, e0, e1, e2] at h ⊢
  exact h
abbrev cX11_breaks : ByteArray := prog_13_method_32_code
def yX11_breaks : MethodName := ⟨RX11, "breaks", "(II)I"⟩
def zX11_breaks : Zm := (RX11, cX11_breaks, 7, (some .int), { frames := 2, cells := 0, slots := 0, locals := 43 })
abbrev cX11_shareClub : ByteArray := prog_13_method_33_code
def yX11_shareClub : MethodName := ⟨RX11, "shareClub", "(II)Z"⟩
def zX11_shareClub : Zm := (RX11, cX11_shareClub, 3, (some .boolean), { frames := 0, cells := 0, slots := 0, locals := 0 })
abbrev cX11_standAgainst : ByteArray := prog_13_method_34_code
def yX11_standAgainst : MethodName := ⟨RX11, "standAgainst", "(II)Z"⟩
def zX11_standAgainst : Zm := (RX11, cX11_standAgainst, 5, (some .boolean), { frames := 1, cells := 0, slots := 0, locals := 22 })
set_option maxRecDepth 100000 in
theorem cl_X11_350 : cv_ RX11 350 yX11_shareClub zX11_shareClub 11 2 := ⟨gi_V (lwq_8 (dqc_m (dqc_m (dqc_m (dqc_m (dqc_m (dqc_m (dqa_m (dqa_m (List.mem_of_getElem? (i := 3) rfl))))))))) rfl : Cond.methodLink RX11 350 yX11_shareClub ∈ lw_g) (lwq_8 (dqc_m (dqc_m (dqc_m (dqc_m (dqc_m (dqc_m (dqa_m (dqa_m (List.mem_of_getElem? (i := 5) rfl))))))))) rfl : Cond.instanceMethod yX11_shareClub ∈ lw_g) (lw_sel 66 rfl : Cond.selects yX11_shareClub.cls yX11_shareClub yX11_shareClub ∈ lw_g) (lwq_1 (dqa_m (List.mem_of_getElem? (i := 2) rfl)) rfl : Cond.initialized yX11_shareClub.cls ∈ lw_g) (lwq_8 (dqc_m (dqc_m (dqc_m (dqc_m (dqc_m (dqc_m (dqa_m (dqa_m (List.mem_of_getElem? (i := 6) rfl))))))))) rfl : Cond.code yX11_shareClub cX11_shareClub 3 (some .boolean) ∈ lw_g), ⟨nmh_1.1, nmh_1.2, pdq_5⟩, ⟨_, _, rfl⟩⟩
abbrev cX11_nothingAgainst : ByteArray := prog_13_method_35_code
def yX11_nothingAgainst : MethodName := ⟨RX11, "nothingAgainst", "(I)Z"⟩
def zX11_nothingAgainst : Zm := (RX11, cX11_nothingAgainst, 4, (some .boolean), { frames := 2, cells := 0, slots := 0, locals := 46 })
set_option maxRecDepth 100000 in
theorem cl_X11_353 : cv_ RX11 353 yX11_standAgainst zX11_standAgainst 11 2 := ⟨gi_V (lwq_8 (dqc_m (dqc_m (dqc_m (dqc_m (dqc_m (dqc_m (dqa_m (List.mem_of_getElem? (i := 7) rfl)))))))) rfl : Cond.methodLink RX11 353 yX11_standAgainst ∈ lw_g) (lwq_8 (dqc_m (dqc_m (dqc_m (dqc_m (dqc_m (dqc_m (dqa_m (dqa_m (List.mem_of_getElem? (i := 1) rfl))))))))) rfl : Cond.instanceMethod yX11_standAgainst ∈ lw_g) (lw_sel 69 rfl : Cond.selects yX11_standAgainst.cls yX11_standAgainst yX11_standAgainst ∈ lw_g) (lwq_1 (dqa_m (List.mem_of_getElem? (i := 2) rfl)) rfl : Cond.initialized yX11_standAgainst.cls ∈ lw_g) (lwq_8 (dqc_m (dqc_m (dqc_m (dqc_m (dqc_m (dqc_m (dqa_m (dqa_m (List.mem_of_getElem? (i := 2) rfl))))))))) rfl : Cond.code yX11_standAgainst cX11_standAgainst 5 (some .boolean) ∈ lw_g), ⟨nmh_1.1, nmh_1.2, pdq_5⟩, ⟨_, _, rfl⟩⟩
abbrev cX11_postpone : ByteArray := prog_13_method_36_code
def yX11_postpone : MethodName := ⟨RX11, "postpone", "(II)I"⟩
def zX11_postpone : Zm := (RX11, cX11_postpone, 9, (some .int), { frames := 3, cells := 0, slots := 0, locals := 69 })
set_option maxRecDepth 100000 in
theorem cl_X11_359 : cv_ RX11 359 yX11_nothingAgainst zX11_nothingAgainst 11 1 := ⟨gi_V (lwq_8 (dqc_m (dqc_m (dqc_m (dqc_m (dqc_m (dqc_m (dqa_m (dqa_m (List.mem_of_getElem? (i := 7) rfl))))))))) rfl : Cond.methodLink RX11 359 yX11_nothingAgainst ∈ lw_g) (lwq_8 (dqc_m (dqc_m (dqc_m (dqc_m (dqc_m (dqc_m (dqa_m (dqa_m (dqa_m (List.mem_of_getElem? (i := 1) rfl)))))))))) rfl : Cond.instanceMethod yX11_nothingAgainst ∈ lw_g) (lw_sel 40 rfl : Cond.selects yX11_nothingAgainst.cls yX11_nothingAgainst yX11_nothingAgainst ∈ lw_g) (lwq_1 (dqa_m (List.mem_of_getElem? (i := 2) rfl)) rfl : Cond.initialized yX11_nothingAgainst.cls ∈ lw_g) (lwq_8 (dqc_m (dqc_m (dqc_m (dqc_m (dqc_m (dqc_m (dqa_m (dqa_m (dqa_m (List.mem_of_getElem? (i := 2) rfl)))))))))) rfl : Cond.code yX11_nothingAgainst cX11_nothingAgainst 4 (some .boolean) ∈ lw_g), ⟨nmh_1.1, nmh_1.2, pdq_7⟩, ⟨_, _, rfl⟩⟩
abbrev po_X11_postpone (T : Zt) (m d : Int) : Zt → Option Zv → Prop := fun T' r => ∃ x : Int, r = some (vI x) ∧ fr_ [(234, []), (271, []), (272, []), (111, [73, 75]), (274, [])] T T' ∧ (x = x)
abbrev cX11_deduct : ByteArray := prog_13_method_38_code
def yX11_deduct : MethodName := ⟨RX11, "deduct", "(III)I"⟩
def zX11_deduct : Zm := (RX11, cX11_deduct, 4, (some .int), { frames := 2, cells := 0, slots := 0, locals := 43 })
abbrev po_X11_deduct (T : Zt) (c cl p : Int) : Zt → Option Zv → Prop := fun T' r => ∃ x : Int, r = some (vI x) ∧ fr_ [(225, []), (226, []), (227, []), (228, []), (111, [24])] T T' ∧ (x = x)
/-- a person is on the sheet -/
def SL_ (T : Zt) (sh p : Int) : Prop := ∃ j, 0 ≤ j ∧ j < T 239 0 sh ∧ T 240 0 (10 * sh + j) = p
theorem SL_f {T T' : Zt} {sh p : Int} (h : SL_ T sh p) (e1 : ∀ j, T' 239 0 j = T 239 0 j) (e2 : ∀ j, T' 240 0 j = T 240 0 j) : SL_ T' sh p := by
  obtain ⟨j, a, b, c⟩ := h
  exact ⟨j, a, by rw [e1]; exact b, by rw [e2]; exact c⟩
abbrev cX11_slotOf : ByteArray := prog_13_method_39_code
def yX11_slotOf : MethodName := ⟨RX11, "slotOf", "(II)I"⟩
def zX11_slotOf : Zm := (RX11, cX11_slotOf, 5, (some .int), { frames := 0, cells := 0, slots := 0, locals := 0 })
abbrev cX11_isAhead : ByteArray := prog_13_method_40_code
def yX11_isAhead : MethodName := ⟨RX11, "isAhead", "(II)Z"⟩
def zX11_isAhead : Zm := (RX11, cX11_isAhead, 3, (some .boolean), { frames := 0, cells := 0, slots := 0, locals := 0 })
theorem bk_X11_isAhead_0 : ck_ fX11 (some .boolean) cX11_isAhead 0 [.aload 0, .tableswitch 0 11 34 #[], .iload 1, .iaload, .aload 0, .tableswitch 0 11 34 #[], .iload 2, .iaload, .if_icmp .lt 35, .aload 0, .tableswitch 0 11 34 #[], .iload 1, .iaload, .aload 0, .tableswitch 0 11 34 #[], .iload 2, .iaload, .if_icmp .ne 39, .iload 1, .iload 2, .if_icmp .ge 39, .iconst 1, .goto 40] 39 = true := qck_r (nn_ _) (by decide +kernel)
theorem bs_X11_isAhead_0 {P : Zt → Option Zv → Prop} (K : Int → Zl → List Zv → Zt → Prop) : sx_ K P [.aload 0, .tableswitch 0 11 34 #[], .iload 1, .iaload, .aload 0, .tableswitch 0 11 34 #[], .iload 2, .iaload, .if_icmp .lt 35, .aload 0, .tableswitch 0 11 34 #[], .iload 1, .iaload, .aload 0, .tableswitch 0 11 34 #[], .iload 2, .iaload, .if_icmp .ne 39, .iload 1, .iload 2, .if_icmp .ge 39, .iconst 1, .goto 40] 39 = x_aload 0 (x_g1 111 234 (x_iload 1 (x_iaload (x_aload 0 (x_g1 111 234 (x_iload 2 (x_iaload (x_if_icmp .lt 35 K (x_aload 0 (x_g1 111 234 (x_iload 1 (x_iaload (x_aload 0 (x_g1 111 234 (x_iload 2 (x_iaload (x_if_icmp .ne 39 K (x_iload 1 (x_iload 2 (x_if_icmp .ge 39 K (x_iconst 1 (x_goto 40 K)))))))))))))))))))))) := ((xe_aload 0).trans (congrArg (x_aload 0) ((xe_g1 (kk := 111) rfl tl_11_34).trans (congrArg (x_g1 111 234) ((xe_iload 1).trans (congrArg (x_iload 1) ((xe_iaload).trans (congrArg (x_iaload) ((xe_aload 0).trans (congrArg (x_aload 0) ((xe_g1 (kk := 111) rfl tl_11_34).trans (congrArg (x_g1 111 234) ((xe_iload 2).trans (congrArg (x_iload 2) ((xe_iaload).trans (congrArg (x_iaload) ((xe_if_icmp .lt 35).trans (congrArg (x_if_icmp .lt 35 K) ((xe_aload 0).trans (congrArg (x_aload 0) ((xe_g1 (kk := 111) rfl tl_11_34).trans (congrArg (x_g1 111 234) ((xe_iload 1).trans (congrArg (x_iload 1) ((xe_iaload).trans (congrArg (x_iaload) ((xe_aload 0).trans (congrArg (x_aload 0) ((xe_g1 (kk := 111) rfl tl_11_34).trans (congrArg (x_g1 111 234) ((xe_iload 2).trans (congrArg (x_iload 2) ((xe_iaload).trans (congrArg (x_iaload) ((xe_if_icmp .ne 39).trans (congrArg (x_if_icmp .ne 39 K) ((xe_iload 1).trans (congrArg (x_iload 1) ((xe_iload 2).trans (congrArg (x_iload 2) ((xe_if_icmp .ge 39).trans (congrArg (x_if_icmp .ge 39 K) ((xe_iconst 1).trans (congrArg (x_iconst 1) (xe_goto 40)))))))))))))))))))))))))))))))))))))))))))))
theorem bk_X11_isAhead_35 : ck_ fX11 (some .boolean) cX11_isAhead 35 [.iconst 1, .goto 40] 39 = true := qck_r (nn_ _) (by decide +kernel)
theorem bs_X11_isAhead_35 {P : Zt → Option Zv → Prop} (K : Int → Zl → List Zv → Zt → Prop) : sx_ K P [.iconst 1, .goto 40] 39 = x_iconst 1 (x_goto 40 K) := ((xe_iconst 1).trans (congrArg (x_iconst 1) (xe_goto 40)))
theorem bk_X11_isAhead_40 : ck_ fX11 (some .boolean) cX11_isAhead 40 [.ireturn] 41 = true := qck_r (nn_ _) (by decide +kernel)
theorem bs_X11_isAhead_40 {P : Zt → Option Zv → Prop} (K : Int → Zl → List Zv → Zt → Prop) : sx_ K P [.ireturn] 41 = x_ireturn P := (xe_ireturn)
theorem bk_X11_isAhead_39 : ck_ fX11 (some .boolean) cX11_isAhead 39 [.iconst 0, .ireturn] 41 = true := qck_r (nn_ _) (by decide +kernel)
theorem bs_X11_isAhead_39 {P : Zt → Option Zv → Prop} (K : Int → Zl → List Zv → Zt → Prop) : sx_ K P [.iconst 0, .ireturn] 41 = x_iconst 0 (x_ireturn P) := ((xe_iconst 0).trans (congrArg (x_iconst 0) (xe_ireturn)))
abbrev po_X11_isAhead (T : Zt) (a b : Int) : Zt → Option Zv → Prop := fun T' r => T = T' ∧ ∃ x : Int, r = some (vI x) ∧ ((x = 1 ∧ (T 234 0 a < T 234 0 b ∨ (T 234 0 a = T 234 0 b ∧ a < b))) ∨ (x = 0 ∧ ¬ (T 234 0 a < T 234 0 b ∨ (T 234 0 a = T 234 0 b ∧ a < b))))
set_option maxHeartbeats 4000000 in
theorem ct_X11_isAhead {T : Zt} {a b : Int} (h1 : 0 ≤ a ∧ a < 400) (h2 : 0 ≤ b ∧ b < 400) : Ct_ yX11_isAhead zX11_isAhead T [vR 111 0, vI a, vI b] (po_X11_isAhead T a b) := by
  refine ct_of pn_11 rfl rfl (Nat.le_of_ble_eq_true rfl) (fun hT hav => ?_)
  have hr_a : -2147483648 ≤ a ∧ a ≤ 2147483647 := hav (vI a) (List.mem_cons_of_mem _ List.mem_cons_self)
  have hr_b : -2147483648 ≤ b ∧ b ≤ 2147483647 := hav (vI b) (List.mem_cons_of_mem _ (List.mem_cons_of_mem _ List.mem_cons_self))
  have hz : zX11_isAhead.2.2.2.1 = some .boolean → ∀ (T' : Zt) (x : Int), po_X11_isAhead T a b T' (some (vI x)) → 0 ≤ x ∧ x ≤ 1 := fun _ T' x h => by obtain ⟨-, y, e, hy⟩ := h; cases e; omega
  show J_ zX11_isAhead T (po_X11_isAhead T a b) 0 0 0 [some (vR 111 0), some (vI a), some (vI b)] [] T
  refine j_blx (F := fX11) tb_X11 (nn_ _) bk_X11_isAhead_0 bs_X11_isAhead_0 hz (fun K hK => ?_)
  refine ix_i (by omega) ?_
  intro b1 b1b
  refine ix_i (by omega) ?_
  intro b2 b2b
  refine And.intro (fun c3 => ?_) (fun c3 => ?_)
  · refine hK 35 _ [] T ?_
    refine j_blx (F := fX11) tb_X11 (nn_ _) bk_X11_isAhead_35 bs_X11_isAhead_35 hz (fun K hK => ?_)
    refine hK 40 _ [vI 1] T ?_
    refine j_blx (F := fX11) tb_X11 (nn_ _) bk_X11_isAhead_40 bs_X11_isAhead_40 hz (fun K hK => ?_)
    refine (show po_X11_isAhead T a b T (some (vI 1)) from ?_)
    exact ⟨rfl, _, rfl, Or.inl ⟨rfl, by omega⟩⟩
  · refine ix_i (by omega) ?_
    intro b4 b4b
    refine ix_i (by omega) ?_
    intro b5 b5b
    refine And.intro (fun c6 => ?_) (fun c6 => ?_)
    · refine hK 39 _ [] T ?_
      refine j_blx (F := fX11) tb_X11 (nn_ _) bk_X11_isAhead_39 bs_X11_isAhead_39 hz (fun K hK => ?_)
      refine (show po_X11_isAhead T a b T (some (vI 0)) from ?_)
      exact ⟨rfl, _, rfl, Or.inr ⟨rfl, by omega⟩⟩
    · refine And.intro (fun c7 => ?_) (fun c7 => ?_)
      · refine hK 39 _ [] T ?_
        refine j_blx (F := fX11) tb_X11 (nn_ _) bk_X11_isAhead_39 bs_X11_isAhead_39 hz (fun K hK => ?_)
        refine (show po_X11_isAhead T a b T (some (vI 0)) from ?_)
        exact ⟨rfl, _, rfl, Or.inr ⟨rfl, by omega⟩⟩
      · refine hK 40 _ [vI 1] T ?_
        refine j_blx (F := fX11) tb_X11 (nn_ _) bk_X11_isAhead_40 bs_X11_isAhead_40 hz (fun K hK => ?_)
        refine (show po_X11_isAhead T a b T (some (vI 1)) from ?_)
        exact ⟨rfl, _, rfl, Or.inl ⟨rfl, by omega⟩⟩
abbrev cX11_nextMatch : ByteArray := prog_13_method_41_code
def yX11_nextMatch : MethodName := ⟨RX11, "nextMatch", "(III)I"⟩
def zX11_nextMatch : Zm := (RX11, cX11_nextMatch, 7, (some .int), { frames := 1, cells := 0, slots := 0, locals := 22 })
set_option maxRecDepth 100000 in
theorem cl_X11_368 : cv_ RX11 368 yX11_isAhead zX11_isAhead 11 2 := ⟨gi_V (lwq_9 (List.mem_of_getElem? (i := 7) rfl) rfl : Cond.methodLink RX11 368 yX11_isAhead ∈ lw_g) (lwq_9 (dqa_m (List.mem_of_getElem? (i := 1) rfl)) rfl : Cond.instanceMethod yX11_isAhead ∈ lw_g) (lw_sel 21 rfl : Cond.selects yX11_isAhead.cls yX11_isAhead yX11_isAhead ∈ lw_g) (lwq_1 (dqa_m (List.mem_of_getElem? (i := 2) rfl)) rfl : Cond.initialized yX11_isAhead.cls ∈ lw_g) (lwq_9 (dqa_m (List.mem_of_getElem? (i := 2) rfl)) rfl : Cond.code yX11_isAhead cX11_isAhead 3 (some .boolean) ∈ lw_g), ⟨nmh_1.1, nmh_1.2, pdq_5⟩, ⟨_, _, rfl⟩⟩
def MC_ (T : Zt) : Prop := ∀ m : Int, 0 ≤ m → m < T 111 0 29 → T 230 0 m < T 111 0 6
theorem MC__f {ws : List (Nat × List Int)} {T T' : Zt} (h : MC_ T) (f : fr_ ws T T') (w : (∀ j, fw_ ws 230 j = false) ∧ fw_ ws 111 29 = false ∧ fw_ ws 111 6 = false ∧ True) : MC_ T' := by
  have e0 : ∀ i j, T' 230 i j = T 230 i j := fun i j => f 230 i j (w.1 j)
  have e1 : ∀ i, T' 111 i 29 = T 111 i 29 := fun i => f 111 i 29 w.2.1
  have e2 : ∀ i, T' 111 i 6 = T 111 i 6 := fun i => f 111 i 6 w.2.2.1
  simp only [MC_, e0, e1, e2] at h ⊢
  exact h
abbrev cX11_isBanned : ByteArray := prog_13_method_42_code
def yX11_isBanned : MethodName := ⟨RX11, "isBanned", "(II)Z"⟩
def zX11_isBanned : Zm := (RX11, cX11_isBanned, 10, (some .boolean), { frames := 2, cells := 0, slots := 0, locals := 48 })
set_option maxRecDepth 100000 in
theorem cl_X11_371 : cv_ RX11 371 yX11_nextMatch zX11_nextMatch 11 3 := ⟨gi_V (lwq_9 (List.mem_of_getElem? (i := 3) rfl) rfl : Cond.methodLink RX11 371 yX11_nextMatch ∈ lw_g) (lwq_9 (List.mem_of_getElem? (i := 5) rfl) rfl : Cond.instanceMethod yX11_nextMatch ∈ lw_g) (lw_sel 39 rfl : Cond.selects yX11_nextMatch.cls yX11_nextMatch yX11_nextMatch ∈ lw_g) (lwq_1 (dqa_m (List.mem_of_getElem? (i := 2) rfl)) rfl : Cond.initialized yX11_nextMatch.cls ∈ lw_g) (lwq_9 (List.mem_of_getElem? (i := 6) rfl) rfl : Cond.code yX11_nextMatch cX11_nextMatch 7 (some .int) ∈ lw_g), ⟨nmh_1.1, nmh_1.2, pdq_8⟩, ⟨_, _, rfl⟩⟩
set_option maxRecDepth 100000 in
theorem cl_X11_378 : cv_ RX11 378 yX11_slotOf zX11_slotOf 11 2 := ⟨gi_V (lwq_9 (dqa_m (List.mem_of_getElem? (i := 3) rfl)) rfl : Cond.methodLink RX11 378 yX11_slotOf ∈ lw_g) (lwq_9 (dqa_m (List.mem_of_getElem? (i := 5) rfl)) rfl : Cond.instanceMethod yX11_slotOf ∈ lw_g) (lw_sel 67 rfl : Cond.selects yX11_slotOf.cls yX11_slotOf yX11_slotOf ∈ lw_g) (lwq_1 (dqa_m (List.mem_of_getElem? (i := 2) rfl)) rfl : Cond.initialized yX11_slotOf.cls ∈ lw_g) (lwq_9 (dqa_m (List.mem_of_getElem? (i := 6) rfl)) rfl : Cond.code yX11_slotOf cX11_slotOf 5 (some .int) ∈ lw_g), ⟨nmh_1.1, nmh_1.2, pdq_4⟩, ⟨_, _, rfl⟩⟩
set_option maxRecDepth 100000 in
theorem cl_X11_375 : cv_ RX11 375 yX11_clubOf zX11_clubOf 11 2 := ⟨gi_V (lwq_8 (dqc_m (dqc_m (dqc_m (dqc_m (dqc_m (dqc_m (dqc_m (dqa_m (List.mem_of_getElem? (i := 3) rfl))))))))) rfl : Cond.methodLink RX11 375 yX11_clubOf ∈ lw_g) (lwq_8 (dqc_m (dqc_m (dqc_m (dqc_m (dqc_m (dqc_m (dqc_m (dqa_m (List.mem_of_getElem? (i := 5) rfl))))))))) rfl : Cond.instanceMethod yX11_clubOf ∈ lw_g) (lw_sel 11 rfl : Cond.selects yX11_clubOf.cls yX11_clubOf yX11_clubOf ∈ lw_g) (lwq_1 (dqa_m (List.mem_of_getElem? (i := 2) rfl)) rfl : Cond.initialized yX11_clubOf.cls ∈ lw_g) (lwq_8 (dqc_m (dqc_m (dqc_m (dqc_m (dqc_m (dqc_m (dqc_m (dqa_m (List.mem_of_getElem? (i := 6) rfl))))))))) rfl : Cond.code yX11_clubOf cX11_clubOf 5 (some .int) ∈ lw_g), ⟨nmh_1.1, nmh_1.2, pdq_4⟩, ⟨_, _, rfl⟩⟩
abbrev cX11_isElsewhere : ByteArray := prog_13_method_43_code
def yX11_isElsewhere : MethodName := ⟨RX11, "isElsewhere", "(II)Z"⟩
def zX11_isElsewhere : Zm := (RX11, cX11_isElsewhere, 5, (some .boolean), { frames := 1, cells := 0, slots := 0, locals := 24 })
abbrev cX11_whyNot : ByteArray := prog_13_method_44_code
def yX11_whyNot : MethodName := ⟨RX11, "whyNot", "(III)I"⟩
def zX11_whyNot : Zm := (RX11, cX11_whyNot, 4, (some .int), { frames := 3, cells := 0, slots := 0, locals := 77 })
set_option maxRecDepth 100000 in
theorem cl_X11_381 : cv_ RX11 381 yX11_isBanned zX11_isBanned 11 2 := ⟨gi_V (lwq_8 (dqc_m (dqc_m (dqc_m (dqc_m (dqc_m (dqc_m (dqc_m (dqa_m (List.mem_of_getElem? (i := 7) rfl))))))))) rfl : Cond.methodLink RX11 381 yX11_isBanned ∈ lw_g) (lwq_9 (List.mem_of_getElem? (i := 1) rfl) rfl : Cond.instanceMethod yX11_isBanned ∈ lw_g) (lw_sel 22 rfl : Cond.selects yX11_isBanned.cls yX11_isBanned yX11_isBanned ∈ lw_g) (lwq_1 (dqa_m (List.mem_of_getElem? (i := 2) rfl)) rfl : Cond.initialized yX11_isBanned.cls ∈ lw_g) (lwq_9 (List.mem_of_getElem? (i := 2) rfl) rfl : Cond.code yX11_isBanned cX11_isBanned 10 (some .boolean) ∈ lw_g), ⟨nmh_1.1, nmh_1.2, pdq_5⟩, ⟨_, _, rfl⟩⟩
set_option maxRecDepth 100000 in
theorem cl_X11_384 : cv_ RX11 384 yX11_isElsewhere zX11_isElsewhere 11 2 := ⟨gi_V (lwq_9 (dqa_m (List.mem_of_getElem? (i := 7) rfl)) rfl : Cond.methodLink RX11 384 yX11_isElsewhere ∈ lw_g) (lwq_9 (dqa_m (dqa_m (List.mem_of_getElem? (i := 1) rfl))) rfl : Cond.instanceMethod yX11_isElsewhere ∈ lw_g) (lw_sel 23 rfl : Cond.selects yX11_isElsewhere.cls yX11_isElsewhere yX11_isElsewhere ∈ lw_g) (lwq_1 (dqa_m (List.mem_of_getElem? (i := 2) rfl)) rfl : Cond.initialized yX11_isElsewhere.cls ∈ lw_g) (lwq_9 (dqa_m (dqa_m (List.mem_of_getElem? (i := 2) rfl))) rfl : Cond.code yX11_isElsewhere cX11_isElsewhere 5 (some .boolean) ∈ lw_g), ⟨nmh_1.1, nmh_1.2, pdq_5⟩, ⟨_, _, rfl⟩⟩
abbrev cX11_eligible : ByteArray := prog_13_method_45_code
def yX11_eligible : MethodName := ⟨RX11, "eligible", "(III)I"⟩
def zX11_eligible : Zm := (RX11, cX11_eligible, 4, (some .int), { frames := 4, cells := 0, slots := 0, locals := 100 })
set_option maxRecDepth 100000 in
theorem cl_X11_387 : cv_ RX11 387 yX11_whyNot zX11_whyNot 11 3 := ⟨gi_V (lwq_8 (dqc_m (dqc_m (dqc_m (dqc_m (dqc_m (dqc_m (dqc_m (List.mem_of_getElem? (i := 7) rfl)))))))) rfl : Cond.methodLink RX11 387 yX11_whyNot ∈ lw_g) (lwq_8 (dqc_m (dqc_m (dqc_m (dqc_m (dqc_m (dqc_m (dqc_m (dqa_m (List.mem_of_getElem? (i := 1) rfl))))))))) rfl : Cond.instanceMethod yX11_whyNot ∈ lw_g) (lw_sel 80 rfl : Cond.selects yX11_whyNot.cls yX11_whyNot yX11_whyNot ∈ lw_g) (lwq_1 (dqa_m (List.mem_of_getElem? (i := 2) rfl)) rfl : Cond.initialized yX11_whyNot.cls ∈ lw_g) (lwq_8 (dqc_m (dqc_m (dqc_m (dqc_m (dqc_m (dqc_m (dqc_m (dqa_m (List.mem_of_getElem? (i := 2) rfl))))))))) rfl : Cond.code yX11_whyNot cX11_whyNot 4 (some .int) ∈ lw_g), ⟨nmh_1.1, nmh_1.2, pdq_8⟩, ⟨_, _, rfl⟩⟩
def SH_ (T : Zt) : Prop := ∀ m s : Int, 0 ≤ m → m < 400 → 0 ≤ s → s ≤ 1 → (m < T 111 0 29 → T 239 0 (2 * m + s) ≤ T 205 0 (23 * T 230 0 m + 9) + 4) ∧ (T 111 0 29 ≤ m → T 239 0 (2 * m + s) = 0)
theorem SH__f {ws : List (Nat × List Int)} {T T' : Zt} (h : SH_ T) (f : fr_ ws T T') (w : (∀ j, fw_ ws 239 j = false) ∧ (∀ j, fw_ ws 205 j = false) ∧ (∀ j, fw_ ws 230 j = false) ∧ fw_ ws 111 29 = false ∧ True) : SH_ T' := by
  have e0 : ∀ i j, T' 239 i j = T 239 i j := fun i j => f 239 i j (w.1 j)
  have e1 : ∀ i j, T' 205 i j = T 205 i j := fun i j => f 205 i j (w.2.1 j)
  have e2 : ∀ i j, T' 230 i j = T 230 i j := fun i j => f 230 i j (w.2.2.1 j)
  have e3 : ∀ i, T' 111 i 29 = T 111 i 29 := fun i => f 111 i 29 w.2.2.2.1
  simp only [SH_, e0, e1, e2, e3] at h ⊢
  exact h
abbrev cX11_lineUp : ByteArray := prog_13_method_46_code
def yX11_lineUp : MethodName := ⟨RX11, "lineUp", "(III)I"⟩
def zX11_lineUp : Zm := (RX11, cX11_lineUp, 6, (some .int), { frames := 4, cells := 0, slots := 0, locals := 100 })
/-- of the scores and the yellow cards only match m's, and only on its sheets, have changed -/
def SO_ (T T1 : Zt) (m : Int) : Prop := (∀ j, j ≠ m → T1 236 0 j = T 236 0 j ∧ T1 237 0 j = T 237 0 j) ∧ ∀ j, ¬ (20 * m ≤ j ∧ j < 20 * m + 20 ∧ j % 10 < T 239 0 (j / 10)) → T1 242 0 j = T 242 0 j
theorem so_r {T : Zt} {m : Int} : SO_ T T m := ⟨fun _ _ => ⟨rfl, rfl⟩, fun _ _ => rfl⟩
theorem so_0 {T T1 T2 : Zt} {m v : Int} (h : SO_ T T1 m) (e : T2 = up_ T1 236 0 m v) : SO_ T T2 m := ⟨fun j hj => ⟨by rw [up_g e (fun q => hj q.2.2)]; exact (h.1 j hj).1, by rw [up_k e (by exact Nat.ne_of_beq_eq_false rfl)]; exact (h.1 j hj).2⟩, fun j hj => by rw [up_k e (by exact Nat.ne_of_beq_eq_false rfl)]; exact h.2 j hj⟩
theorem so_1 {T T1 T2 : Zt} {m v : Int} (h : SO_ T T1 m) (e : T2 = up_ T1 237 0 m v) : SO_ T T2 m := ⟨fun j hj => ⟨by rw [up_k e (by exact Nat.ne_of_beq_eq_false rfl)]; exact (h.1 j hj).1, by rw [up_g e (fun q => hj q.2.2)]; exact (h.1 j hj).2⟩, fun j hj => by rw [up_k e (by exact Nat.ne_of_beq_eq_false rfl)]; exact h.2 j hj⟩
theorem so_y {T T1 T2 : Zt} {m v x : Int} (h : SO_ T T1 m) (e : T2 = up_ T1 242 0 x v) (sh : Int) (hx : 2 * m ≤ sh ∧ sh ≤ 2 * m + 1 ∧ 10 * sh ≤ x ∧ x < 10 * sh + 10 ∧ x < 10 * sh + T 239 0 sh) : SO_ T T2 m := ⟨fun j hj => ⟨by rw [up_k e (by exact Nat.ne_of_beq_eq_false rfl)]; exact (h.1 j hj).1, by rw [up_k e (by exact Nat.ne_of_beq_eq_false rfl)]; exact (h.1 j hj).2⟩, fun j hj => by
  by_cases z : j = x
  · refine absurd ⟨by omega, by omega, ?_⟩ hj
    rw [show j / 10 = sh by omega]; omega
  · rw [up_g e (fun q => z q.2.2)]; exact h.2 j hj⟩
theorem so_f {ws : List (Nat × List Int)} {T T1 T2 : Zt} {m : Int} (h : SO_ T T1 m) (f : fr_ ws T1 T2) (w : (∀ j, fw_ ws 236 j = false) ∧ (∀ j, fw_ ws 237 j = false) ∧ ∀ j, fw_ ws 242 j = false) : SO_ T T2 m := ⟨fun j hj => ⟨(f 236 0 j (w.1 j)).trans (h.1 j hj).1, (f 237 0 j (w.2.1 j)).trans (h.1 j hj).2⟩, fun j hj => (f 242 0 j (w.2.2 j)).trans (h.2 j hj)⟩
theorem so_t {T T1 T2 : Zt} {m : Int} (h : SO_ T T1 m) (g : SO_ T1 T2 m) (e : ∀ j, T1 239 0 j = T 239 0 j) : SO_ T T2 m := ⟨fun j hj => ⟨(g.1 j hj).1.trans (h.1 j hj).1, (g.1 j hj).2.trans (h.1 j hj).2⟩, fun j hj => (g.2 j (by rw [e]; exact hj)).trans (h.2 j hj)⟩
/-- match m's scores, and four times its yellow cards, are within b -/
def SB1_ (T : Zt) (m b : Int) : Prop := (0 ≤ T 236 0 m ∧ T 236 0 m ≤ b) ∧ (0 ≤ T 237 0 m ∧ T 237 0 m ≤ b) ∧ ∀ j, 20 * m ≤ j → j < 20 * m + 20 → 0 ≤ T 242 0 j ∧ 4 * T 242 0 j ≤ b
theorem sb1_0 {T T1 : Zt} {m b v : Int} (h : SB1_ T m b) (e : T1 = up_ T 236 0 m v) (hv : 0 ≤ v ∧ v ≤ b) : SB1_ T1 m b := ⟨by rw [up_f e]; exact hv, by rw [up_k e (by exact Nat.ne_of_beq_eq_false rfl)]; exact h.2.1, fun j p q => by rw [up_k e (by exact Nat.ne_of_beq_eq_false rfl)]; exact h.2.2 j p q⟩
theorem sb1_1 {T T1 : Zt} {m b v : Int} (h : SB1_ T m b) (e : T1 = up_ T 237 0 m v) (hv : 0 ≤ v ∧ v ≤ b) : SB1_ T1 m b := ⟨by rw [up_k e (by exact Nat.ne_of_beq_eq_false rfl)]; exact h.1, by rw [up_f e]; exact hv, fun j p q => by rw [up_k e (by exact Nat.ne_of_beq_eq_false rfl)]; exact h.2.2 j p q⟩
theorem sb1_y {T T1 : Zt} {m b v x : Int} (h : SB1_ T m b) (e : T1 = up_ T 242 0 x v) (hv : 0 ≤ v ∧ 4 * v ≤ b) : SB1_ T1 m b := ⟨by rw [up_k e (by exact Nat.ne_of_beq_eq_false rfl)]; exact h.1, by rw [up_k e (by exact Nat.ne_of_beq_eq_false rfl)]; exact h.2.1, fun j p q => by
  by_cases z : j = x
  · rw [z, up_f e]; exact hv
  · rw [up_g e (fun q => z q.2.2)]; exact h.2.2 j p q⟩
theorem sb1_f {ws : List (Nat × List Int)} {T T1 : Zt} {m b : Int} (h : SB1_ T m b) (f : fr_ ws T T1) (w : (∀ j, fw_ ws 236 j = false) ∧ (∀ j, fw_ ws 237 j = false) ∧ ∀ j, fw_ ws 242 j = false) : SB1_ T1 m b := ⟨by rw [f 236 0 m (w.1 m)]; exact h.1, by rw [f 237 0 m (w.2.1 m)]; exact h.2.1, fun j p q => by rw [f 242 0 j (w.2.2 j)]; exact h.2.2 j p q⟩
theorem sb1_m {T : Zt} {m b c : Int} (h : SB1_ T m b) (e : b ≤ c) : SB1_ T m c := ⟨by have := h.1; omega, by have := h.2.1; omega, fun j p q => by have := h.2.2 j p q; omega⟩
/-- every match's scores and cards are within what its rows can have given, but perhaps match x's -/
def GX_ (T : Zt) (x : Int) : Prop := ∀ m, 0 ≤ m → m < 400 → m ≠ x → SB1_ T m (4 * T 254 0 m + 9)
theorem gx_o {T T1 : Zt} {x : Int} (h : GX_ T x) (o : SO_ T T1 x) (s : SB1_ T1 x (4 * T1 254 0 x + 9)) (e : ∀ j, j ≠ x → T1 254 0 j = T 254 0 j) : GX_ T1 (-1) := fun m a b _ => by
  by_cases z : m = x
  · rw [z]; exact s
  · rw [e m z]
    have k := h m a b z
    unfold SB1_
    rw [(o.1 m z).1, (o.1 m z).2]
    exact ⟨k.1, k.2.1, fun j p q => by rw [o.2 j (fun w => z (by omega))]; exact k.2.2 j p q⟩
theorem gx_x {T : Zt} {x : Int} (h : GX_ T (-1)) : GX_ T x := fun m a b _ => h m a b (by omega)
theorem gx_f {ws : List (Nat × List Int)} {T T1 : Zt} {x y : Int} (h : GX_ T x) (f : fr_ ws T T1) (w : (∀ j, fw_ ws 236 j = false) ∧ (∀ j, fw_ ws 237 j = false) ∧ ∀ j, fw_ ws 242 j = false) (e : ∀ j, j ≠ y → T1 254 0 j = T 254 0 j) (hy : x = -1 ∨ x = y) : GX_ T1 y := fun m a b c => by
  rw [e m c]
  exact sb1_f (h m a b (by omega)) f w
def ZS_ (T : Zt) : Prop := ∀ j : Int, 0 ≤ j → j < 8000 → T 239 0 (j / 10) ≤ j % 10 → T 242 0 j = 0
theorem ZS__f {ws : List (Nat × List Int)} {T T' : Zt} (h : ZS_ T) (f : fr_ ws T T') (w : (∀ j, fw_ ws 239 j = false) ∧ (∀ j, fw_ ws 242 j = false) ∧ True) : ZS_ T' := by
  have e0 : ∀ i j, T' 239 i j = T 239 i j := fun i j => f 239 i j (w.1 j)
  have e1 : ∀ i j, T' 242 i j = T 242 i j := fun i j => f 242 i j (w.2.1 j)
  simp only [ZS_, e0, e1] at h ⊢
  exact h
theorem zs_o {T T1 : Zt} {m : Int} (h : ZS_ T) (o : SO_ T T1 m) (e : ∀ j, T1 239 0 j = T 239 0 j) : ZS_ T1 := fun j a b c => by
  rw [e] at c
  rw [o.2 j (fun w => by omega)]
  exact h j a b c
def FM_ (T : Zt) : Prop := ∀ m s : Int, 0 ≤ m → m < 400 → 0 ≤ s → s ≤ 1 → T 235 0 m = 1 → 1 ≤ T 244 0 (2 * m + s)
theorem FM__f {ws : List (Nat × List Int)} {T T' : Zt} (h : FM_ T) (f : fr_ ws T T') (w : (∀ j, fw_ ws 235 j = false) ∧ (∀ j, fw_ ws 244 j = false) ∧ True) : FM_ T' := by
  have e0 : ∀ i j, T' 235 i j = T 235 i j := fun i j => f 235 i j (w.1 j)
  have e1 : ∀ i j, T' 244 i j = T 244 i j := fun i j => f 244 i j (w.2.1 j)
  simp only [FM_, e0, e1] at h ⊢
  exact h
theorem fm_w {T T1 : Zt} {x v : Int} (h : FM_ T) (e : T1 = up_ T 235 0 x v) (hv : v ≠ 1) : FM_ T1 := fun m s a b c d g => by
  by_cases z : m = x
  · subst z; exact absurd ((up_f e).symm.trans g) hv
  · rw [up_g e (fun q => z q.2.2)] at g
    rw [up_k e (by exact Nat.ne_of_beq_eq_false rfl)]; exact h m s a b c d g
theorem fm_1 {T T1 : Zt} {x : Int} (h : FM_ T) (e : T1 = up_ T 235 0 x 1) (hx : T 235 0 x = 1) : FM_ T1 := fun m s a b c d g => by
  rw [up_k e (by exact Nat.ne_of_beq_eq_false rfl)]
  by_cases z : m = x
  · subst z; exact h m s a b c d hx
  · rw [up_g e (fun q => z q.2.2)] at g
    exact h m s a b c d g
theorem fm_4 {T T1 : Zt} {x : Int} (h : FM_ T) (e : T1 = up_ T 235 0 x 1) (hx : ∀ s, 0 ≤ s → s ≤ 1 → 1 ≤ T 244 0 (2 * x + s)) : FM_ T1 := fun m s a b c d g => by
  rw [up_k e (by exact Nat.ne_of_beq_eq_false rfl)]
  by_cases z : m = x
  · subst z; exact hx s c d
  · rw [up_g e (fun q => z q.2.2)] at g
    exact h m s a b c d g
theorem fm_f {T T1 : Zt} {x v : Int} (h : FM_ T) (e : T1 = up_ T 244 0 x v) (hv : 1 ≤ v) : FM_ T1 := fun m s a b c d g => by
  rw [up_k e (by exact Nat.ne_of_beq_eq_false rfl)] at g
  by_cases z : 2 * m + s = x
  · rw [z, up_f e]; exact hv
  · rw [up_g e (fun q => z q.2.2)]; exact h m s a b c d g
theorem fm_3 {T T1 : Zt} {x t : Int} (h : FM_ T) (ht : 0 ≤ t ∧ t ≤ 1) (e1 : ∀ j, j ≠ x → T1 235 0 j = T 235 0 j) (e2 : ∀ j, j ≠ 2 * x + t → T1 244 0 j = T 244 0 j) (g : T1 235 0 x ≠ 1) : FM_ T1 := fun m s a b c d k => by
  by_cases z : m = x
  · subst z; exact absurd k g
  · rw [e1 m z] at k
    rw [e2 _ (by omega)]; exact h m s a b c d k
abbrev cX11_layBeginning : ByteArray := prog_13_method_47_code
def yX11_layBeginning : MethodName := ⟨RX11, "layBeginning", "(I)V"⟩
def zX11_layBeginning : Zm := (RX11, cX11_layBeginning, 5, none, { frames := 1, cells := 0, slots := 0, locals := 22 })
abbrev cX11_start : ByteArray := prog_13_method_48_code
def yX11_start : MethodName := ⟨RX11, "start", "(I)I"⟩
def zX11_start : Zm := (RX11, cX11_start, 3, (some .int), { frames := 2, cells := 0, slots := 0, locals := 46 })
set_option maxRecDepth 100000 in
theorem cl_X11_390 : cv_ RX11 390 yX11_layBeginning zX11_layBeginning 11 1 := ⟨gi_V (lwq_9 (dqa_m (dqa_m (dqa_m (List.mem_of_getElem? (i := 3) rfl)))) rfl : Cond.methodLink RX11 390 yX11_layBeginning ∈ lw_g) (lwq_9 (dqa_m (dqa_m (dqa_m (List.mem_of_getElem? (i := 5) rfl)))) rfl : Cond.instanceMethod yX11_layBeginning ∈ lw_g) (lw_sel 31 rfl : Cond.selects yX11_layBeginning.cls yX11_layBeginning yX11_layBeginning ∈ lw_g) (lwq_1 (dqa_m (List.mem_of_getElem? (i := 2) rfl)) rfl : Cond.initialized yX11_layBeginning.cls ∈ lw_g) (lwq_9 (dqa_m (dqa_m (dqa_m (List.mem_of_getElem? (i := 6) rfl)))) rfl : Cond.code yX11_layBeginning cX11_layBeginning 5 none ∈ lw_g), ⟨nmh_1.1, nmh_1.2, pdq_9⟩, ⟨_, _, rfl⟩⟩
abbrev po_X11_start (T : Zt) (m : Int) : Zt → Option Zv → Prop := fun T' r => ∃ x : Int, r = some (vI x) ∧ fr_ [(244, []), (241, []), (242, []), (243, []), (245, []), (246, []), (236, []), (237, []), (235, [])] T T' ∧ (FM_ T' ∧ ZS_ T' ∧ GX_ T' (-1))
abbrev cX11_walkOver : ByteArray := prog_13_method_49_code
def yX11_walkOver : MethodName := ⟨RX11, "walkOver", "(II)I"⟩
def zX11_walkOver : Zm := (RX11, cX11_walkOver, 3, (some .int), { frames := 2, cells := 0, slots := 0, locals := 43 })
abbrev po_X11_walkOver (T : Zt) (m s : Int) : Zt → Option Zv → Prop := fun T' r => ∃ x : Int, r = some (vI x) ∧ fr_ [(235, []), (236, []), (237, [])] T T' ∧ (FM_ T' ∧ ZS_ T' ∧ GX_ T' (-1))
abbrev cX11_setLive : ByteArray := prog_13_method_51_code
def yX11_setLive : MethodName := ⟨RX11, "setLive", "(III)V"⟩
def zX11_setLive : Zm := (RX11, cX11_setLive, 4, none, { frames := 0, cells := 0, slots := 0, locals := 0 })
abbrev cX11_isKind : ByteArray := prog_13_method_52_code
def yX11_isKind : MethodName := ⟨RX11, "isKind", "(II)Z"⟩
def zX11_isKind : Zm := (RX11, cX11_isKind, 3, (some .boolean), { frames := 1, cells := 0, slots := 0, locals := 22 })
theorem bk_X11_isKind_0 : ck_ fX11 (some .boolean) cX11_isKind 0 [.iload 1] 1 = true := qck_r (nn_ _) (by decide +kernel)
theorem bs_X11_isKind_0 {P : Zt → Option Zv → Prop} (K : Int → Zl → List Zv → Zt → Prop) : sx_ K P [.iload 1] 1 = x_iload 1 (K 1) := ((xe_iload 1).trans (congrArg (x_iload 1) xe_nil))
theorem ds_X11_isKind_1 : decode cX11_isKind 1 = .ok (.tableswitch 67 0 2 #[27, 34, 50], 27) := by decide +kernel
theorem bk_X11_isKind_28 : ck_ fX11 (some .boolean) cX11_isKind 28 [.iload 2, .iconst 0, .iconst 5] 31 = true := qck_r (nn_ _) (by decide +kernel)
theorem bs_X11_isKind_28 {P : Zt → Option Zv → Prop} (K : Int → Zl → List Zv → Zt → Prop) : sx_ K P [.iload 2, .iconst 0, .iconst 5] 31 = x_iload 2 (x_iconst 0 (x_iconst 5 (K 31))) := ((xe_iload 2).trans (congrArg (x_iload 2) ((xe_iconst 0).trans (congrArg (x_iconst 0) ((xe_iconst 5).trans (congrArg (x_iconst 5) xe_nil))))))
theorem bk_X11_isKind_34 : ck_ fX11 (some .boolean) cX11_isKind 34 [.ireturn] 35 = true := qck_r (nn_ _) (by decide +kernel)
theorem bs_X11_isKind_34 {P : Zt → Option Zv → Prop} (K : Int → Zl → List Zv → Zt → Prop) : sx_ K P [.ireturn] 35 = x_ireturn P := (xe_ireturn)
theorem bk_X11_isKind_35 : ck_ fX11 (some .boolean) cX11_isKind 35 [.iload 2, .iconst 1, .if_icmp .eq 45, .iload 2, .iconst 5, .if_icmp .ne 49, .iconst 1, .goto 50] 49 = true := qck_r (nn_ _) (by decide +kernel)
theorem bs_X11_isKind_35 {P : Zt → Option Zv → Prop} (K : Int → Zl → List Zv → Zt → Prop) : sx_ K P [.iload 2, .iconst 1, .if_icmp .eq 45, .iload 2, .iconst 5, .if_icmp .ne 49, .iconst 1, .goto 50] 49 = x_iload 2 (x_iconst 1 (x_if_icmp .eq 45 K (x_iload 2 (x_iconst 5 (x_if_icmp .ne 49 K (x_iconst 1 (x_goto 50 K))))))) := ((xe_iload 2).trans (congrArg (x_iload 2) ((xe_iconst 1).trans (congrArg (x_iconst 1) ((xe_if_icmp .eq 45).trans (congrArg (x_if_icmp .eq 45 K) ((xe_iload 2).trans (congrArg (x_iload 2) ((xe_iconst 5).trans (congrArg (x_iconst 5) ((xe_if_icmp .ne 49).trans (congrArg (x_if_icmp .ne 49 K) ((xe_iconst 1).trans (congrArg (x_iconst 1) (xe_goto 50)))))))))))))))
theorem bk_X11_isKind_45 : ck_ fX11 (some .boolean) cX11_isKind 45 [.iconst 1, .goto 50] 49 = true := qck_r (nn_ _) (by decide +kernel)
theorem bs_X11_isKind_45 {P : Zt → Option Zv → Prop} (K : Int → Zl → List Zv → Zt → Prop) : sx_ K P [.iconst 1, .goto 50] 49 = x_iconst 1 (x_goto 50 K) := ((xe_iconst 1).trans (congrArg (x_iconst 1) (xe_goto 50)))
theorem bk_X11_isKind_50 : ck_ fX11 (some .boolean) cX11_isKind 50 [.ireturn] 51 = true := qck_r (nn_ _) (by decide +kernel)
theorem bs_X11_isKind_50 {P : Zt → Option Zv → Prop} (K : Int → Zl → List Zv → Zt → Prop) : sx_ K P [.ireturn] 51 = x_ireturn P := (xe_ireturn)
theorem bk_X11_isKind_49 : ck_ fX11 (some .boolean) cX11_isKind 49 [.iconst 0, .ireturn] 51 = true := qck_r (nn_ _) (by decide +kernel)
theorem bs_X11_isKind_49 {P : Zt → Option Zv → Prop} (K : Int → Zl → List Zv → Zt → Prop) : sx_ K P [.iconst 0, .ireturn] 51 = x_iconst 0 (x_ireturn P) := ((xe_iconst 0).trans (congrArg (x_iconst 0) (xe_ireturn)))
theorem bk_X11_isKind_51 : ck_ fX11 (some .boolean) cX11_isKind 51 [.iload 2, .iconst 1, .if_icmp .eq 62, .iload 2, .iconst 6, .if_icmp .ne 66, .iconst 1, .goto 67] 66 = true := qck_r (nn_ _) (by decide +kernel)
theorem bs_X11_isKind_51 {P : Zt → Option Zv → Prop} (K : Int → Zl → List Zv → Zt → Prop) : sx_ K P [.iload 2, .iconst 1, .if_icmp .eq 62, .iload 2, .iconst 6, .if_icmp .ne 66, .iconst 1, .goto 67] 66 = x_iload 2 (x_iconst 1 (x_if_icmp .eq 62 K (x_iload 2 (x_iconst 6 (x_if_icmp .ne 66 K (x_iconst 1 (x_goto 67 K))))))) := ((xe_iload 2).trans (congrArg (x_iload 2) ((xe_iconst 1).trans (congrArg (x_iconst 1) ((xe_if_icmp .eq 62).trans (congrArg (x_if_icmp .eq 62 K) ((xe_iload 2).trans (congrArg (x_iload 2) ((xe_iconst 6).trans (congrArg (x_iconst 6) ((xe_if_icmp .ne 66).trans (congrArg (x_if_icmp .ne 66 K) ((xe_iconst 1).trans (congrArg (x_iconst 1) (xe_goto 67)))))))))))))))
theorem bk_X11_isKind_62 : ck_ fX11 (some .boolean) cX11_isKind 62 [.iconst 1, .goto 67] 66 = true := qck_r (nn_ _) (by decide +kernel)
theorem bs_X11_isKind_62 {P : Zt → Option Zv → Prop} (K : Int → Zl → List Zv → Zt → Prop) : sx_ K P [.iconst 1, .goto 67] 66 = x_iconst 1 (x_goto 67 K) := ((xe_iconst 1).trans (congrArg (x_iconst 1) (xe_goto 67)))
theorem bk_X11_isKind_67 : ck_ fX11 (some .boolean) cX11_isKind 67 [.ireturn] 68 = true := qck_r (nn_ _) (by decide +kernel)
theorem bs_X11_isKind_67 {P : Zt → Option Zv → Prop} (K : Int → Zl → List Zv → Zt → Prop) : sx_ K P [.ireturn] 68 = x_ireturn P := (xe_ireturn)
theorem bk_X11_isKind_66 : ck_ fX11 (some .boolean) cX11_isKind 66 [.iconst 0, .ireturn] 68 = true := qck_r (nn_ _) (by decide +kernel)
theorem bs_X11_isKind_66 {P : Zt → Option Zv → Prop} (K : Int → Zl → List Zv → Zt → Prop) : sx_ K P [.iconst 0, .ireturn] 68 = x_iconst 0 (x_ireturn P) := ((xe_iconst 0).trans (congrArg (x_iconst 0) (xe_ireturn)))
theorem bk_X11_isKind_68 : ck_ fX11 (some .boolean) cX11_isKind 68 [.iload 2, .iconst 1, .iconst 4] 71 = true := qck_r (nn_ _) (by decide +kernel)
theorem bs_X11_isKind_68 {P : Zt → Option Zv → Prop} (K : Int → Zl → List Zv → Zt → Prop) : sx_ K P [.iload 2, .iconst 1, .iconst 4] 71 = x_iload 2 (x_iconst 1 (x_iconst 4 (K 71))) := ((xe_iload 2).trans (congrArg (x_iload 2) ((xe_iconst 1).trans (congrArg (x_iconst 1) ((xe_iconst 4).trans (congrArg (x_iconst 4) xe_nil))))))
theorem bk_X11_isKind_74 : ck_ fX11 (some .boolean) cX11_isKind 74 [.ireturn] 75 = true := qck_r (nn_ _) (by decide +kernel)
theorem bs_X11_isKind_74 {P : Zt → Option Zv → Prop} (K : Int → Zl → List Zv → Zt → Prop) : sx_ K P [.ireturn] 75 = x_ireturn P := (xe_ireturn)
abbrev cX11_isTold : ByteArray := prog_13_method_53_code
def yX11_isTold : MethodName := ⟨RX11, "isTold", "(III)Z"⟩
def zX11_isTold : Zm := (RX11, cX11_isTold, 4, (some .boolean), { frames := 2, cells := 0, slots := 0, locals := 44 })
theorem bk_X11_isTold_0 : ck_ fX11 (some .boolean) cX11_isTold 0 [.aload 0, .iload 1, .iload 2] 3 = true := qck_r (nn_ _) (by decide +kernel)
theorem bs_X11_isTold_0 {P : Zt → Option Zv → Prop} (K : Int → Zl → List Zv → Zt → Prop) : sx_ K P [.aload 0, .iload 1, .iload 2] 3 = x_aload 0 (x_iload 1 (x_iload 2 (K 3))) := ((xe_aload 0).trans (congrArg (x_aload 0) ((xe_iload 1).trans (congrArg (x_iload 1) ((xe_iload 2).trans (congrArg (x_iload 2) xe_nil))))))
set_option maxRecDepth 100000 in
theorem cl_X11_394 : cv_ RX11 394 yX11_isKind zX11_isKind 11 2 := ⟨gi_V (lwq_9 (dqc_m (dqa_m (List.mem_of_getElem? (i := 7) rfl))) rfl : Cond.methodLink RX11 394 yX11_isKind ∈ lw_g) (lwq_9 (dqc_m (dqa_m (dqa_m (List.mem_of_getElem? (i := 1) rfl)))) rfl : Cond.instanceMethod yX11_isKind ∈ lw_g) (lw_sel 25 rfl : Cond.selects yX11_isKind.cls yX11_isKind yX11_isKind ∈ lw_g) (lwq_1 (dqa_m (List.mem_of_getElem? (i := 2) rfl)) rfl : Cond.initialized yX11_isKind.cls ∈ lw_g) (lwq_9 (dqc_m (dqa_m (dqa_m (List.mem_of_getElem? (i := 2) rfl)))) rfl : Cond.code yX11_isKind cX11_isKind 3 (some .boolean) ∈ lw_g), ⟨nmh_1.1, nmh_1.2, pdq_5⟩, ⟨_, _, rfl⟩⟩
theorem bk_X11_isTold_6 : ck_ fX11 (some .boolean) cX11_isTold 6 [.ifCond .eq 30, .iload 1, .ifCond .ne 17, .iload 2, .ifCond .eq 26, .iload 3, .iconst 0, .iconst 1] 20 = true := qck_r (nn_ _) (by decide +kernel)
theorem bs_X11_isTold_6 {P : Zt → Option Zv → Prop} (K : Int → Zl → List Zv → Zt → Prop) : sx_ K P [.ifCond .eq 30, .iload 1, .ifCond .ne 17, .iload 2, .ifCond .eq 26, .iload 3, .iconst 0, .iconst 1] 20 = x_ifCond .eq 30 K (x_iload 1 (x_ifCond .ne 17 K (x_iload 2 (x_ifCond .eq 26 K (x_iload 3 (x_iconst 0 (x_iconst 1 (K 20)))))))) := ((xe_ifCond .eq 30).trans (congrArg (x_ifCond .eq 30 K) ((xe_iload 1).trans (congrArg (x_iload 1) ((xe_ifCond .ne 17).trans (congrArg (x_ifCond .ne 17 K) ((xe_iload 2).trans (congrArg (x_iload 2) ((xe_ifCond .eq 26).trans (congrArg (x_ifCond .eq 26 K) ((xe_iload 3).trans (congrArg (x_iload 3) ((xe_iconst 0).trans (congrArg (x_iconst 0) ((xe_iconst 1).trans (congrArg (x_iconst 1) xe_nil))))))))))))))))
theorem bk_X11_isTold_30 : ck_ fX11 (some .boolean) cX11_isTold 30 [.iconst 0, .ireturn] 32 = true := qck_r (nn_ _) (by decide +kernel)
theorem bs_X11_isTold_30 {P : Zt → Option Zv → Prop} (K : Int → Zl → List Zv → Zt → Prop) : sx_ K P [.iconst 0, .ireturn] 32 = x_iconst 0 (x_ireturn P) := ((xe_iconst 0).trans (congrArg (x_iconst 0) (xe_ireturn)))
theorem bk_X11_isTold_17 : ck_ fX11 (some .boolean) cX11_isTold 17 [.iload 3, .iconst 0, .iconst 1] 20 = true := qck_r (nn_ _) (by decide +kernel)
theorem bs_X11_isTold_17 {P : Zt → Option Zv → Prop} (K : Int → Zl → List Zv → Zt → Prop) : sx_ K P [.iload 3, .iconst 0, .iconst 1] 20 = x_iload 3 (x_iconst 0 (x_iconst 1 (K 20))) := ((xe_iload 3).trans (congrArg (x_iload 3) ((xe_iconst 0).trans (congrArg (x_iconst 0) ((xe_iconst 1).trans (congrArg (x_iconst 1) xe_nil))))))
theorem bk_X11_isTold_23 : ck_ fX11 (some .boolean) cX11_isTold 23 [.ifCond .eq 30, .iconst 1, .goto 31] 30 = true := qck_r (nn_ _) (by decide +kernel)
theorem bs_X11_isTold_23 {P : Zt → Option Zv → Prop} (K : Int → Zl → List Zv → Zt → Prop) : sx_ K P [.ifCond .eq 30, .iconst 1, .goto 31] 30 = x_ifCond .eq 30 K (x_iconst 1 (x_goto 31 K)) := ((xe_ifCond .eq 30).trans (congrArg (x_ifCond .eq 30 K) ((xe_iconst 1).trans (congrArg (x_iconst 1) (xe_goto 31)))))
theorem bk_X11_isTold_31 : ck_ fX11 (some .boolean) cX11_isTold 31 [.ireturn] 32 = true := qck_r (nn_ _) (by decide +kernel)
theorem bs_X11_isTold_31 {P : Zt → Option Zv → Prop} (K : Int → Zl → List Zv → Zt → Prop) : sx_ K P [.ireturn] 32 = x_ireturn P := (xe_ireturn)
theorem bk_X11_isTold_26 : ck_ fX11 (some .boolean) cX11_isTold 26 [.iconst 1, .goto 31] 30 = true := qck_r (nn_ _) (by decide +kernel)
theorem bs_X11_isTold_26 {P : Zt → Option Zv → Prop} (K : Int → Zl → List Zv → Zt → Prop) : sx_ K P [.iconst 1, .goto 31] 30 = x_iconst 1 (x_goto 31 K) := ((xe_iconst 1).trans (congrArg (x_iconst 1) (xe_goto 31)))
abbrev cX11_isBounded : ByteArray := prog_13_method_54_code
def yX11_isBounded : MethodName := ⟨RX11, "isBounded", "(III)Z"⟩
def zX11_isBounded : Zm := (RX11, cX11_isBounded, 3, (some .boolean), { frames := 1, cells := 0, slots := 0, locals := 22 })
theorem bk_X11_isBounded_0 : ck_ fX11 (some .boolean) cX11_isBounded 0 [.iload 0, .iconst 3, .if_icmp .ne 19, .iload 1, .iconst 1, .if_icmp .ne 19, .iload 2, .iconst 1, .iconst 4] 13 = true := qck_r (nn_ _) (by decide +kernel)
theorem bs_X11_isBounded_0 {P : Zt → Option Zv → Prop} (K : Int → Zl → List Zv → Zt → Prop) : sx_ K P [.iload 0, .iconst 3, .if_icmp .ne 19, .iload 1, .iconst 1, .if_icmp .ne 19, .iload 2, .iconst 1, .iconst 4] 13 = x_iload 0 (x_iconst 3 (x_if_icmp .ne 19 K (x_iload 1 (x_iconst 1 (x_if_icmp .ne 19 K (x_iload 2 (x_iconst 1 (x_iconst 4 (K 13))))))))) := ((xe_iload 0).trans (congrArg (x_iload 0) ((xe_iconst 3).trans (congrArg (x_iconst 3) ((xe_if_icmp .ne 19).trans (congrArg (x_if_icmp .ne 19 K) ((xe_iload 1).trans (congrArg (x_iload 1) ((xe_iconst 1).trans (congrArg (x_iconst 1) ((xe_if_icmp .ne 19).trans (congrArg (x_if_icmp .ne 19 K) ((xe_iload 2).trans (congrArg (x_iload 2) ((xe_iconst 1).trans (congrArg (x_iconst 1) ((xe_iconst 4).trans (congrArg (x_iconst 4) xe_nil))))))))))))))))))
theorem bk_X11_isBounded_19 : ck_ fX11 (some .boolean) cX11_isBounded 19 [.iconst 1, .goto 24] 23 = true := qck_r (nn_ _) (by decide +kernel)
theorem bs_X11_isBounded_19 {P : Zt → Option Zv → Prop} (K : Int → Zl → List Zv → Zt → Prop) : sx_ K P [.iconst 1, .goto 24] 23 = x_iconst 1 (x_goto 24 K) := ((xe_iconst 1).trans (congrArg (x_iconst 1) (xe_goto 24)))
theorem bk_X11_isBounded_24 : ck_ fX11 (some .boolean) cX11_isBounded 24 [.ireturn] 25 = true := qck_r (nn_ _) (by decide +kernel)
theorem bs_X11_isBounded_24 {P : Zt → Option Zv → Prop} (K : Int → Zl → List Zv → Zt → Prop) : sx_ K P [.ireturn] 25 = x_ireturn P := (xe_ireturn)
theorem bk_X11_isBounded_16 : ck_ fX11 (some .boolean) cX11_isBounded 16 [.ifCond .eq 23, .iconst 1, .goto 24] 23 = true := qck_r (nn_ _) (by decide +kernel)
theorem bs_X11_isBounded_16 {P : Zt → Option Zv → Prop} (K : Int → Zl → List Zv → Zt → Prop) : sx_ K P [.ifCond .eq 23, .iconst 1, .goto 24] 23 = x_ifCond .eq 23 K (x_iconst 1 (x_goto 24 K)) := ((xe_ifCond .eq 23).trans (congrArg (x_ifCond .eq 23 K) ((xe_iconst 1).trans (congrArg (x_iconst 1) (xe_goto 24)))))
theorem bk_X11_isBounded_23 : ck_ fX11 (some .boolean) cX11_isBounded 23 [.iconst 0, .ireturn] 25 = true := qck_r (nn_ _) (by decide +kernel)
theorem bs_X11_isBounded_23 {P : Zt → Option Zv → Prop} (K : Int → Zl → List Zv → Zt → Prop) : sx_ K P [.iconst 0, .ireturn] 25 = x_iconst 0 (x_ireturn P) := ((xe_iconst 0).trans (congrArg (x_iconst 0) (xe_ireturn)))
abbrev cX11_stands : ByteArray := prog_13_method_55_code
def yX11_stands : MethodName := ⟨RX11, "stands", "(IIII)Z"⟩
def zX11_stands : Zm := (RX11, cX11_stands, 6, (some .boolean), { frames := 1, cells := 0, slots := 0, locals := 24 })
/-- what the laws have asked of an event -/
def LW_ (T : Zt) (m k s p q : Int) : Prop := T 235 0 m = 1 ∧ (T 205 0 (23 * T 230 0 m + 0) = 0 → 0 ≤ k ∧ k ≤ 5 ∧ (k = 0 ∨ (0 ≤ s ∧ s ≤ 1 ∧ SL_ T (2 * m + s) p)) ∧ (k = 5 → SL_ T (2 * m + s) q)) ∧ (T 205 0 (23 * T 230 0 m + 0) = 1 → (k = 1 ∨ k = 5) ∧ 0 ≤ s ∧ s ≤ 1 ∧ (k = 5 → SL_ T (2 * m + s) p ∧ SL_ T (2 * m + s) q)) ∧ (2 ≤ T 205 0 (23 * T 230 0 m + 0) → 0 ≤ s ∧ s ≤ 1)
theorem LW_f {T T' : Zt} {m k s p q : Int} (h : LW_ T m k s p q) (e : ∀ c j, c = 235 ∨ c = 205 ∨ c = 230 ∨ c = 239 ∨ c = 240 → T' c 0 j = T c 0 j) : LW_ T' m k s p q := by
  have f : ∀ sh y, SL_ T sh y → SL_ T' sh y := fun sh y g => SL_f g (fun j => e _ j (by decide)) (fun j => e _ j (by decide))
  obtain ⟨a, b, c, d⟩ := h
  unfold LW_
  rw [e 235 _ (by decide), e 205 _ (by decide), e 230 m (by decide)]
  refine ⟨a, fun y => ?_, fun y => ?_, d⟩
  · have b' := b y
    exact ⟨b'.1, b'.2.1, b'.2.2.1.imp id (fun y => ⟨y.1, y.2.1, f _ _ y.2.2⟩), fun y => f _ _ (b'.2.2.2 y)⟩
  · have c' := c y
    exact ⟨c'.1, c'.2.1, c'.2.2.1, fun y => ⟨f _ _ (c'.2.2.2 y).1, f _ _ (c'.2.2.2 y).2⟩⟩
abbrev cX11_lawOf : ByteArray := prog_13_method_56_code
def yX11_lawOf : MethodName := ⟨RX11, "lawOf", "(IIIII)I"⟩
def zX11_lawOf : Zm := (RX11, cX11_lawOf, 9, (some .int), { frames := 3, cells := 0, slots := 0, locals := 67 })
set_option maxRecDepth 100000 in
theorem cl_X11_407 : cs_ RX11 407 yX11_isBounded zX11_isBounded 3 := ⟨gi_S (lwq_9 (dqc_m (dqa_m (dqa_m (dqa_m (List.mem_of_getElem? (i := 3) rfl))))) rfl : Cond.methodLink RX11 407 yX11_isBounded ∈ lw_g) (lwq_9 (dqc_m (dqa_m (dqa_m (dqa_m (List.mem_of_getElem? (i := 4) rfl))))) rfl : Cond.static yX11_isBounded ∈ lw_g) (lwq_1 (dqa_m (List.mem_of_getElem? (i := 2) rfl)) rfl : Cond.initialized yX11_isBounded.cls ∈ lw_g) (lwq_9 (dqc_m (dqa_m (dqa_m (dqa_m (List.mem_of_getElem? (i := 5) rfl))))) rfl : Cond.code yX11_isBounded cX11_isBounded 3 (some .boolean) ∈ lw_g), ⟨by decide, by decide, by decide +kernel⟩⟩
set_option maxRecDepth 100000 in
theorem cl_X11_400 : cv_ RX11 400 yX11_liveOf zX11_liveOf 11 2 := ⟨gi_V (lwq_9 (dqc_m (dqa_m (dqa_m (List.mem_of_getElem? (i := 3) rfl)))) rfl : Cond.methodLink RX11 400 yX11_liveOf ∈ lw_g) (lwq_9 (dqc_m (dqa_m (dqa_m (List.mem_of_getElem? (i := 5) rfl)))) rfl : Cond.instanceMethod yX11_liveOf ∈ lw_g) (lw_sel 35 rfl : Cond.selects yX11_liveOf.cls yX11_liveOf yX11_liveOf ∈ lw_g) (lwq_1 (dqa_m (List.mem_of_getElem? (i := 2) rfl)) rfl : Cond.initialized yX11_liveOf.cls ∈ lw_g) (lwq_9 (dqc_m (dqa_m (dqa_m (List.mem_of_getElem? (i := 6) rfl)))) rfl : Cond.code yX11_liveOf cX11_liveOf 3 (some .int) ∈ lw_g), ⟨nmh_1.1, nmh_1.2, pdq_4⟩, ⟨_, _, rfl⟩⟩
set_option maxRecDepth 100000 in
theorem cl_X11_403 : cv_ RX11 403 yX11_stands zX11_stands 11 4 := ⟨gi_V (lwq_9 (dqc_m (dqa_m (dqa_m (List.mem_of_getElem? (i := 7) rfl)))) rfl : Cond.methodLink RX11 403 yX11_stands ∈ lw_g) (lwq_9 (dqc_m (dqa_m (dqa_m (dqa_m (List.mem_of_getElem? (i := 1) rfl))))) rfl : Cond.instanceMethod yX11_stands ∈ lw_g) (lw_sel 70 rfl : Cond.selects yX11_stands.cls yX11_stands yX11_stands ∈ lw_g) (lwq_1 (dqa_m (List.mem_of_getElem? (i := 2) rfl)) rfl : Cond.initialized yX11_stands.cls ∈ lw_g) (lwq_9 (dqc_m (dqa_m (dqa_m (dqa_m (List.mem_of_getElem? (i := 2) rfl))))) rfl : Cond.code yX11_stands cX11_stands 6 (some .boolean) ∈ lw_g), ⟨nmh_1.1, nmh_1.2, pdq_10⟩, ⟨_, _, rfl⟩⟩
set_option maxRecDepth 100000 in
theorem cl_X11_397 : cv_ RX11 397 yX11_isTold zX11_isTold 11 3 := ⟨gi_V (lwq_9 (dqc_m (dqa_m (List.mem_of_getElem? (i := 3) rfl))) rfl : Cond.methodLink RX11 397 yX11_isTold ∈ lw_g) (lwq_9 (dqc_m (dqa_m (List.mem_of_getElem? (i := 5) rfl))) rfl : Cond.instanceMethod yX11_isTold ∈ lw_g) (lw_sel 28 rfl : Cond.selects yX11_isTold.cls yX11_isTold yX11_isTold ∈ lw_g) (lwq_1 (dqa_m (List.mem_of_getElem? (i := 2) rfl)) rfl : Cond.initialized yX11_isTold.cls ∈ lw_g) (lwq_9 (dqc_m (dqa_m (List.mem_of_getElem? (i := 6) rfl))) rfl : Cond.code yX11_isTold cX11_isTold 4 (some .boolean) ∈ lw_g), ⟨nmh_1.1, nmh_1.2, pdq_11⟩, ⟨_, _, rfl⟩⟩
abbrev cX11_addScore : ByteArray := prog_13_method_57_code
def yX11_addScore : MethodName := ⟨RX11, "addScore", "(III)V"⟩
def zX11_addScore : Zm := (RX11, cX11_addScore, 4, none, { frames := 0, cells := 0, slots := 0, locals := 0 })
abbrev cX11_scoreOf : ByteArray := prog_13_method_58_code
def yX11_scoreOf : MethodName := ⟨RX11, "scoreOf", "(II)I"⟩
def zX11_scoreOf : Zm := (RX11, cX11_scoreOf, 3, (some .int), { frames := 0, cells := 0, slots := 0, locals := 0 })
theorem bk_X11_scoreOf_0 : ck_ fX11 (some .int) cX11_scoreOf 0 [.iload 2, .ifCond .ne 13, .aload 0, .tableswitch 0 11 36 #[], .iload 1, .iaload, .goto 19] 13 = true := qck_r (nn_ _) (by decide +kernel)
theorem bs_X11_scoreOf_0 {P : Zt → Option Zv → Prop} (K : Int → Zl → List Zv → Zt → Prop) : sx_ K P [.iload 2, .ifCond .ne 13, .aload 0, .tableswitch 0 11 36 #[], .iload 1, .iaload, .goto 19] 13 = x_iload 2 (x_ifCond .ne 13 K (x_aload 0 (x_g1 111 236 (x_iload 1 (x_iaload (x_goto 19 K)))))) := ((xe_iload 2).trans (congrArg (x_iload 2) ((xe_ifCond .ne 13).trans (congrArg (x_ifCond .ne 13 K) ((xe_aload 0).trans (congrArg (x_aload 0) ((xe_g1 (kk := 111) rfl tl_11_36).trans (congrArg (x_g1 111 236) ((xe_iload 1).trans (congrArg (x_iload 1) ((xe_iaload).trans (congrArg (x_iaload) (xe_goto 19)))))))))))))
theorem bk_X11_scoreOf_13 : ck_ fX11 (some .int) cX11_scoreOf 13 [.aload 0, .tableswitch 0 11 37 #[], .iload 1, .iaload, .ireturn] 20 = true := qck_r (nn_ _) (by decide +kernel)
theorem bs_X11_scoreOf_13 {P : Zt → Option Zv → Prop} (K : Int → Zl → List Zv → Zt → Prop) : sx_ K P [.aload 0, .tableswitch 0 11 37 #[], .iload 1, .iaload, .ireturn] 20 = x_aload 0 (x_g1 111 237 (x_iload 1 (x_iaload (x_ireturn P)))) := ((xe_aload 0).trans (congrArg (x_aload 0) ((xe_g1 (kk := 111) rfl tl_11_37).trans (congrArg (x_g1 111 237) ((xe_iload 1).trans (congrArg (x_iload 1) ((xe_iaload).trans (congrArg (x_iaload) (xe_ireturn)))))))))
theorem bk_X11_scoreOf_19 : ck_ fX11 (some .int) cX11_scoreOf 19 [.ireturn] 20 = true := qck_r (nn_ _) (by decide +kernel)
theorem bs_X11_scoreOf_19 {P : Zt → Option Zv → Prop} (K : Int → Zl → List Zv → Zt → Prop) : sx_ K P [.ireturn] 20 = x_ireturn P := (xe_ireturn)
abbrev cX11_sendOff : ByteArray := prog_13_method_59_code
def yX11_sendOff : MethodName := ⟨RX11, "sendOff", "(III)V"⟩
def zX11_sendOff : Zm := (RX11, cX11_sendOff, 7, none, { frames := 1, cells := 0, slots := 0, locals := 22 })
abbrev cX11_substitute : ByteArray := prog_13_method_60_code
def yX11_substitute : MethodName := ⟨RX11, "substitute", "(IIII)V"⟩
def zX11_substitute : Zm := (RX11, cX11_substitute, 9, none, { frames := 1, cells := 0, slots := 0, locals := 24 })
set_option maxRecDepth 100000 in
theorem cl_X11_410 : cv_ RX11 410 yX11_setLive zX11_setLive 11 3 := ⟨gi_V (lwq_9 (dqc_m (dqc_m (dqa_m (List.mem_of_getElem? (i := 6) rfl)))) rfl : Cond.methodLink RX11 410 yX11_setLive ∈ lw_g) (lwq_9 (dqc_m (dqc_m (dqa_m (dqa_m (List.mem_of_getElem? (i := 0) rfl))))) rfl : Cond.instanceMethod yX11_setLive ∈ lw_g) (lw_sel 64 rfl : Cond.selects yX11_setLive.cls yX11_setLive yX11_setLive ∈ lw_g) (lwq_1 (dqa_m (List.mem_of_getElem? (i := 2) rfl)) rfl : Cond.initialized yX11_setLive.cls ∈ lw_g) (lwq_9 (dqc_m (dqc_m (dqa_m (dqa_m (List.mem_of_getElem? (i := 1) rfl))))) rfl : Cond.code yX11_setLive cX11_setLive 4 none ∈ lw_g), ⟨nmh_1.1, nmh_1.2, pdq_3⟩, ⟨_, _, rfl⟩⟩
abbrev cX11_playFootball : ByteArray := prog_13_method_61_code
def yX11_playFootball : MethodName := ⟨RX11, "playFootball", "(IIIII)V"⟩
def zX11_playFootball : Zm := (RX11, cX11_playFootball, 7, none, { frames := 2, cells := 0, slots := 0, locals := 52 })
theorem ds_X11_playFootball_1 : decode cX11_playFootball 1 = .ok (.tableswitch 161 0 4 #[35, 73, 83, 95, 141], 35) := by decide +kernel
set_option maxRecDepth 100000 in
theorem cl_X11_413 : cv_ RX11 413 yX11_addScore zX11_addScore 11 3 := ⟨gi_V (lwq_9 (dqc_m (dqc_m (dqa_m (dqa_m (List.mem_of_getElem? (i := 2) rfl))))) rfl : Cond.methodLink RX11 413 yX11_addScore ∈ lw_g) (lwq_9 (dqc_m (dqc_m (dqa_m (dqa_m (List.mem_of_getElem? (i := 4) rfl))))) rfl : Cond.instanceMethod yX11_addScore ∈ lw_g) (lw_sel 5 rfl : Cond.selects yX11_addScore.cls yX11_addScore yX11_addScore ∈ lw_g) (lwq_1 (dqa_m (List.mem_of_getElem? (i := 2) rfl)) rfl : Cond.initialized yX11_addScore.cls ∈ lw_g) (lwq_9 (dqc_m (dqc_m (dqa_m (dqa_m (List.mem_of_getElem? (i := 5) rfl))))) rfl : Cond.code yX11_addScore cX11_addScore 4 none ∈ lw_g), ⟨nmh_1.1, nmh_1.2, pdq_3⟩, ⟨_, _, rfl⟩⟩
set_option maxRecDepth 100000 in
theorem cl_X11_416 : cv_ RX11 416 yX11_sendOff zX11_sendOff 11 3 := ⟨gi_V (lwq_9 (dqc_m (dqc_m (dqa_m (dqa_m (List.mem_of_getElem? (i := 6) rfl))))) rfl : Cond.methodLink RX11 416 yX11_sendOff ∈ lw_g) (lwq_9 (dqc_m (dqc_m (dqa_m (dqa_m (dqa_m (List.mem_of_getElem? (i := 0) rfl)))))) rfl : Cond.instanceMethod yX11_sendOff ∈ lw_g) (lw_sel 63 rfl : Cond.selects yX11_sendOff.cls yX11_sendOff yX11_sendOff ∈ lw_g) (lwq_1 (dqa_m (List.mem_of_getElem? (i := 2) rfl)) rfl : Cond.initialized yX11_sendOff.cls ∈ lw_g) (lwq_9 (dqc_m (dqc_m (dqa_m (dqa_m (dqa_m (List.mem_of_getElem? (i := 1) rfl)))))) rfl : Cond.code yX11_sendOff cX11_sendOff 7 none ∈ lw_g), ⟨nmh_1.1, nmh_1.2, pdq_3⟩, ⟨_, _, rfl⟩⟩
set_option maxRecDepth 100000 in
theorem cl_X11_419 : cv_ RX11 419 yX11_substitute zX11_substitute 11 4 := ⟨gi_V (lwq_9 (dqc_m (dqc_m (dqa_m (dqa_m (dqa_m (List.mem_of_getElem? (i := 2) rfl)))))) rfl : Cond.methodLink RX11 419 yX11_substitute ∈ lw_g) (lwq_9 (dqc_m (dqc_m (dqa_m (dqa_m (dqa_m (List.mem_of_getElem? (i := 4) rfl)))))) rfl : Cond.instanceMethod yX11_substitute ∈ lw_g) (lw_sel 71 rfl : Cond.selects yX11_substitute.cls yX11_substitute yX11_substitute ∈ lw_g) (lwq_1 (dqa_m (List.mem_of_getElem? (i := 2) rfl)) rfl : Cond.initialized yX11_substitute.cls ∈ lw_g) (lwq_9 (dqc_m (dqc_m (dqa_m (dqa_m (dqa_m (List.mem_of_getElem? (i := 5) rfl)))))) rfl : Cond.code yX11_substitute cX11_substitute 9 none ∈ lw_g), ⟨nmh_1.1, nmh_1.2, pdq_12⟩, ⟨_, _, rfl⟩⟩
abbrev cX11_rotate : ByteArray := prog_13_method_62_code
def yX11_rotate : MethodName := ⟨RX11, "rotate", "(I)V"⟩
def zX11_rotate : Zm := (RX11, cX11_rotate, 5, none, { frames := 0, cells := 0, slots := 0, locals := 0 })
abbrev cX11_playVolleyball : ByteArray := prog_13_method_63_code
def yX11_playVolleyball : MethodName := ⟨RX11, "playVolleyball", "(IIIII)V"⟩
def zX11_playVolleyball : Zm := (RX11, cX11_playVolleyball, 9, none, { frames := 2, cells := 0, slots := 0, locals := 52 })
set_option maxRecDepth 100000 in
theorem cl_X11_426 : cv_ RX11 426 yX11_scoreOf zX11_scoreOf 11 2 := ⟨gi_V (lwq_9 (dqc_m (dqc_m (dqc_m (List.mem_of_getElem? (i := 6) rfl)))) rfl : Cond.methodLink RX11 426 yX11_scoreOf ∈ lw_g) (lwq_9 (dqc_m (dqc_m (dqc_m (dqa_m (List.mem_of_getElem? (i := 0) rfl))))) rfl : Cond.instanceMethod yX11_scoreOf ∈ lw_g) (lw_sel 62 rfl : Cond.selects yX11_scoreOf.cls yX11_scoreOf yX11_scoreOf ∈ lw_g) (lwq_1 (dqa_m (List.mem_of_getElem? (i := 2) rfl)) rfl : Cond.initialized yX11_scoreOf.cls ∈ lw_g) (lwq_9 (dqc_m (dqc_m (dqc_m (dqa_m (List.mem_of_getElem? (i := 1) rfl))))) rfl : Cond.code yX11_scoreOf cX11_scoreOf 3 (some .int) ∈ lw_g), ⟨nmh_1.1, nmh_1.2, pdq_4⟩, ⟨_, _, rfl⟩⟩
set_option maxRecDepth 100000 in
theorem cl_X11_423 : cv_ RX11 423 yX11_rotate zX11_rotate 11 1 := ⟨gi_V (lwq_9 (dqc_m (dqc_m (dqc_m (List.mem_of_getElem? (i := 2) rfl)))) rfl : Cond.methodLink RX11 423 yX11_rotate ∈ lw_g) (lwq_9 (dqc_m (dqc_m (dqc_m (List.mem_of_getElem? (i := 4) rfl)))) rfl : Cond.instanceMethod yX11_rotate ∈ lw_g) (lw_sel 57 rfl : Cond.selects yX11_rotate.cls yX11_rotate yX11_rotate ∈ lw_g) (lwq_1 (dqa_m (List.mem_of_getElem? (i := 2) rfl)) rfl : Cond.initialized yX11_rotate.cls ∈ lw_g) (lwq_9 (dqc_m (dqc_m (dqc_m (List.mem_of_getElem? (i := 5) rfl)))) rfl : Cond.code yX11_rotate cX11_rotate 5 none ∈ lw_g), ⟨nmh_1.1, nmh_1.2, pdq_9⟩, ⟨_, _, rfl⟩⟩
abbrev cX11_playTennis : ByteArray := prog_13_method_64_code
def yX11_playTennis : MethodName := ⟨RX11, "playTennis", "(III)V"⟩
def zX11_playTennis : Zm := (RX11, cX11_playTennis, 8, none, { frames := 1, cells := 0, slots := 0, locals := 23 })
abbrev cX11_turnSides : ByteArray := prog_13_method_65_code
def yX11_turnSides : MethodName := ⟨RX11, "turnSides", "(I)V"⟩
def zX11_turnSides : Zm := (RX11, cX11_turnSides, 4, none, { frames := 1, cells := 0, slots := 0, locals := 23 })
abbrev cX11_out : ByteArray := prog_13_method_66_code
def yX11_out : MethodName := ⟨RX11, "out", "(I)V"⟩
def zX11_out : Zm := (RX11, cX11_out, 2, none, { frames := 2, cells := 0, slots := 0, locals := 46 })
set_option maxRecDepth 100000 in
theorem cl_X11_429 : cv_ RX11 429 yX11_turnSides zX11_turnSides 11 1 := ⟨gi_V (lwq_9 (dqc_m (dqc_m (dqc_m (dqc_m (List.mem_of_getElem? (i := 2) rfl))))) rfl : Cond.methodLink RX11 429 yX11_turnSides ∈ lw_g) (lwq_9 (dqc_m (dqc_m (dqc_m (dqc_m (List.mem_of_getElem? (i := 4) rfl))))) rfl : Cond.instanceMethod yX11_turnSides ∈ lw_g) (lw_sel 76 rfl : Cond.selects yX11_turnSides.cls yX11_turnSides yX11_turnSides ∈ lw_g) (lwq_1 (dqa_m (List.mem_of_getElem? (i := 2) rfl)) rfl : Cond.initialized yX11_turnSides.cls ∈ lw_g) (lwq_9 (dqc_m (dqc_m (dqc_m (dqc_m (List.mem_of_getElem? (i := 5) rfl))))) rfl : Cond.code yX11_turnSides cX11_turnSides 4 none ∈ lw_g), ⟨nmh_1.1, nmh_1.2, pdq_9⟩, ⟨_, _, rfl⟩⟩
abbrev cX11_advance : ByteArray := prog_13_method_67_code
def yX11_advance : MethodName := ⟨RX11, "advance", "(IIII)V"⟩
def zX11_advance : Zm := (RX11, cX11_advance, 5, none, { frames := 1, cells := 0, slots := 0, locals := 23 })
abbrev cX11_hit : ByteArray := prog_13_method_68_code
def yX11_hit : MethodName := ⟨RX11, "hit", "(III)V"⟩
def zX11_hit : Zm := (RX11, cX11_hit, 8, none, { frames := 2, cells := 0, slots := 0, locals := 47 })
set_option maxRecDepth 100000 in
theorem cl_X11_432 : cv_ RX11 432 yX11_advance zX11_advance 11 4 := ⟨gi_V (lwq_9 (dqc_m (dqc_m (dqc_m (dqa_m (dqa_m (List.mem_of_getElem? (i := 6) rfl)))))) rfl : Cond.methodLink RX11 432 yX11_advance ∈ lw_g) (lwq_9 (dqc_m (dqc_m (dqc_m (dqa_m (dqa_m (dqa_m (List.mem_of_getElem? (i := 0) rfl))))))) rfl : Cond.instanceMethod yX11_advance ∈ lw_g) (lw_sel 6 rfl : Cond.selects yX11_advance.cls yX11_advance yX11_advance ∈ lw_g) (lwq_1 (dqa_m (List.mem_of_getElem? (i := 2) rfl)) rfl : Cond.initialized yX11_advance.cls ∈ lw_g) (lwq_9 (dqc_m (dqc_m (dqc_m (dqa_m (dqa_m (dqa_m (List.mem_of_getElem? (i := 1) rfl))))))) rfl : Cond.code yX11_advance cX11_advance 5 none ∈ lw_g), ⟨nmh_1.1, nmh_1.2, pdq_12⟩, ⟨_, _, rfl⟩⟩
abbrev cX11_walk : ByteArray := prog_13_method_69_code
def yX11_walk : MethodName := ⟨RX11, "walk", "(II)V"⟩
def zX11_walk : Zm := (RX11, cX11_walk, 5, none, { frames := 2, cells := 0, slots := 0, locals := 47 })
abbrev cX11_playBaseball : ByteArray := prog_13_method_70_code
def yX11_playBaseball : MethodName := ⟨RX11, "playBaseball", "(IIII)V"⟩
def zX11_playBaseball : Zm := (RX11, cX11_playBaseball, 5, none, { frames := 3, cells := 0, slots := 0, locals := 74 })
theorem ds_X11_playBaseball_1 : decode cX11_playBaseball 1 = .ok (.tableswitch 103 1 3 #[27, 38, 71], 27) := by decide +kernel
set_option maxRecDepth 100000 in
theorem cl_X11_435 : cv_ RX11 435 yX11_hit zX11_hit 11 3 := ⟨gi_V (lwq_9 (dqc_m (dqc_m (dqc_m (dqa_m (dqa_m (List.mem_of_getElem? (i := 2) rfl)))))) rfl : Cond.methodLink RX11 435 yX11_hit ∈ lw_g) (lwq_9 (dqc_m (dqc_m (dqc_m (dqa_m (dqa_m (List.mem_of_getElem? (i := 4) rfl)))))) rfl : Cond.instanceMethod yX11_hit ∈ lw_g) (lw_sel 20 rfl : Cond.selects yX11_hit.cls yX11_hit yX11_hit ∈ lw_g) (lwq_1 (dqa_m (List.mem_of_getElem? (i := 2) rfl)) rfl : Cond.initialized yX11_hit.cls ∈ lw_g) (lwq_9 (dqc_m (dqc_m (dqc_m (dqa_m (dqa_m (List.mem_of_getElem? (i := 5) rfl)))))) rfl : Cond.code yX11_hit cX11_hit 8 none ∈ lw_g), ⟨nmh_1.1, nmh_1.2, pdq_3⟩, ⟨_, _, rfl⟩⟩
set_option maxRecDepth 100000 in
theorem cl_X11_438 : cv_ RX11 438 yX11_walk zX11_walk 11 2 := ⟨gi_V (lwq_9 (dqc_m (dqc_m (dqc_m (dqa_m (dqa_m (dqa_m (List.mem_of_getElem? (i := 2) rfl))))))) rfl : Cond.methodLink RX11 438 yX11_walk ∈ lw_g) (lwq_9 (dqc_m (dqc_m (dqc_m (dqa_m (dqa_m (dqa_m (List.mem_of_getElem? (i := 4) rfl))))))) rfl : Cond.instanceMethod yX11_walk ∈ lw_g) (lw_sel 77 rfl : Cond.selects yX11_walk.cls yX11_walk yX11_walk ∈ lw_g) (lwq_1 (dqa_m (List.mem_of_getElem? (i := 2) rfl)) rfl : Cond.initialized yX11_walk.cls ∈ lw_g) (lwq_9 (dqc_m (dqc_m (dqc_m (dqa_m (dqa_m (dqa_m (List.mem_of_getElem? (i := 5) rfl))))))) rfl : Cond.code yX11_walk cX11_walk 5 none ∈ lw_g), ⟨nmh_1.1, nmh_1.2, pdq_0⟩, ⟨_, _, rfl⟩⟩
set_option maxRecDepth 100000 in
theorem cl_X11_441 : cv_ RX11 441 yX11_out zX11_out 11 1 := ⟨gi_V (lwq_9 (dqc_m (dqc_m (dqc_m (dqa_m (dqa_m (dqa_m (List.mem_of_getElem? (i := 6) rfl))))))) rfl : Cond.methodLink RX11 441 yX11_out ∈ lw_g) (lwq_9 (dqc_m (dqc_m (dqc_m (dqc_m (List.mem_of_getElem? (i := 0) rfl))))) rfl : Cond.instanceMethod yX11_out ∈ lw_g) (lw_sel 44 rfl : Cond.selects yX11_out.cls yX11_out yX11_out ∈ lw_g) (lwq_1 (dqa_m (List.mem_of_getElem? (i := 2) rfl)) rfl : Cond.initialized yX11_out.cls ∈ lw_g) (lwq_9 (dqc_m (dqc_m (dqc_m (dqc_m (List.mem_of_getElem? (i := 1) rfl))))) rfl : Cond.code yX11_out cX11_out 2 none ∈ lw_g), ⟨nmh_1.1, nmh_1.2, pdq_9⟩, ⟨_, _, rfl⟩⟩
abbrev cX11_play : ByteArray := prog_13_method_71_code
def yX11_play : MethodName := ⟨RX11, "play", "(IIIII)V"⟩
def zX11_play : Zm := (RX11, cX11_play, 6, none, { frames := 4, cells := 0, slots := 0, locals := 98 })
theorem ds_X11_play_11 : decode cX11_play 11 = .ok (.tableswitch 63 0 2 #[25, 39, 53], 25) := by decide +kernel
set_option maxRecDepth 100000 in
theorem cl_X11_444 : cv_ RX11 444 yX11_playFootball zX11_playFootball 11 5 := ⟨gi_V (lwq_9 (dqc_m (dqc_m (dqa_m (List.mem_of_getElem? (i := 2) rfl)))) rfl : Cond.methodLink RX11 444 yX11_playFootball ∈ lw_g) (lwq_9 (dqc_m (dqc_m (dqa_m (List.mem_of_getElem? (i := 4) rfl)))) rfl : Cond.instanceMethod yX11_playFootball ∈ lw_g) (lw_sel 49 rfl : Cond.selects yX11_playFootball.cls yX11_playFootball yX11_playFootball ∈ lw_g) (lwq_1 (dqa_m (List.mem_of_getElem? (i := 2) rfl)) rfl : Cond.initialized yX11_playFootball.cls ∈ lw_g) (lwq_9 (dqc_m (dqc_m (dqa_m (List.mem_of_getElem? (i := 5) rfl)))) rfl : Cond.code yX11_playFootball cX11_playFootball 7 none ∈ lw_g), ⟨nmh_1.1, nmh_1.2, pdq_6⟩, ⟨_, _, rfl⟩⟩
set_option maxRecDepth 100000 in
theorem cl_X11_447 : cv_ RX11 447 yX11_playVolleyball zX11_playVolleyball 11 5 := ⟨gi_V (lwq_9 (dqc_m (dqc_m (dqa_m (dqa_m (dqa_m (List.mem_of_getElem? (i := 6) rfl)))))) rfl : Cond.methodLink RX11 447 yX11_playVolleyball ∈ lw_g) (lwq_9 (dqc_m (dqc_m (dqc_m (List.mem_of_getElem? (i := 0) rfl)))) rfl : Cond.instanceMethod yX11_playVolleyball ∈ lw_g) (lw_sel 51 rfl : Cond.selects yX11_playVolleyball.cls yX11_playVolleyball yX11_playVolleyball ∈ lw_g) (lwq_1 (dqa_m (List.mem_of_getElem? (i := 2) rfl)) rfl : Cond.initialized yX11_playVolleyball.cls ∈ lw_g) (lwq_9 (dqc_m (dqc_m (dqc_m (List.mem_of_getElem? (i := 1) rfl)))) rfl : Cond.code yX11_playVolleyball cX11_playVolleyball 9 none ∈ lw_g), ⟨nmh_1.1, nmh_1.2, pdq_6⟩, ⟨_, _, rfl⟩⟩
set_option maxRecDepth 100000 in
theorem cl_X11_450 : cv_ RX11 450 yX11_playTennis zX11_playTennis 11 3 := ⟨gi_V (lwq_9 (dqc_m (dqc_m (dqc_m (dqa_m (List.mem_of_getElem? (i := 2) rfl))))) rfl : Cond.methodLink RX11 450 yX11_playTennis ∈ lw_g) (lwq_9 (dqc_m (dqc_m (dqc_m (dqa_m (List.mem_of_getElem? (i := 4) rfl))))) rfl : Cond.instanceMethod yX11_playTennis ∈ lw_g) (lw_sel 50 rfl : Cond.selects yX11_playTennis.cls yX11_playTennis yX11_playTennis ∈ lw_g) (lwq_1 (dqa_m (List.mem_of_getElem? (i := 2) rfl)) rfl : Cond.initialized yX11_playTennis.cls ∈ lw_g) (lwq_9 (dqc_m (dqc_m (dqc_m (dqa_m (List.mem_of_getElem? (i := 5) rfl))))) rfl : Cond.code yX11_playTennis cX11_playTennis 8 none ∈ lw_g), ⟨nmh_1.1, nmh_1.2, pdq_3⟩, ⟨_, _, rfl⟩⟩
set_option maxRecDepth 100000 in
theorem cl_X11_453 : cv_ RX11 453 yX11_playBaseball zX11_playBaseball 11 4 := ⟨gi_V (lwq_9 (dqc_m (dqc_m (dqc_m (dqa_m (List.mem_of_getElem? (i := 6) rfl))))) rfl : Cond.methodLink RX11 453 yX11_playBaseball ∈ lw_g) (lwq_9 (dqc_m (dqc_m (dqc_m (dqa_m (dqa_m (List.mem_of_getElem? (i := 0) rfl)))))) rfl : Cond.instanceMethod yX11_playBaseball ∈ lw_g) (lw_sel 48 rfl : Cond.selects yX11_playBaseball.cls yX11_playBaseball yX11_playBaseball ∈ lw_g) (lwq_1 (dqa_m (List.mem_of_getElem? (i := 2) rfl)) rfl : Cond.initialized yX11_playBaseball.cls ∈ lw_g) (lwq_9 (dqc_m (dqc_m (dqc_m (dqa_m (dqa_m (List.mem_of_getElem? (i := 1) rfl)))))) rfl : Cond.code yX11_playBaseball cX11_playBaseball 5 none ∈ lw_g), ⟨nmh_1.1, nmh_1.2, pdq_12⟩, ⟨_, _, rfl⟩⟩
/-- a chain of rows -/
def lk_ (T : Zt) : Int → List Int → Prop
  | f, [] => f = -1
  | f, x :: l => f = x ∧ (0 ≤ x ∧ x < 3000) ∧ lk_ T (T 252 0 x) l
theorem lk_e {T T' : Zt} : ∀ {l : List Int} {f : Int}, lk_ T f l → (∀ x ∈ l, T' 252 0 x = T 252 0 x) → lk_ T' f l
  | [], _, h, _ => h
  | x :: l, _, h, e => ⟨h.1, h.2.1, by
      rw [e x List.mem_cons_self]
      exact lk_e h.2.2 (fun z hz => e z (List.mem_cons_of_mem _ hz))⟩
theorem lk_s {T : Zt} {l : List Int} {f i : Int} (h0 : 0 ≤ i) (hi : i < l.length) (h : lk_ T f (l.drop i.toNat)) : (0 ≤ f ∧ f < 3000) ∧ lk_ T (T 252 0 f) (l.drop (i + 1).toNat) := by
  rw [List.drop_eq_getElem_cons (by omega)] at h
  obtain ⟨h1, h2, h3⟩ := h
  subst h1
  rw [show (i + 1).toNat = i.toNat + 1 by omega]
  exact ⟨h2, h3⟩
theorem lk_g {T : Zt} {l : List Int} {f i : Int} (h0 : 0 ≤ i) (hi : i < l.length) (h : lk_ T f (l.drop i.toNat)) : l[i.toNat]? = some f ∧ 0 ≤ f ∧ f < 3000 := by
  rw [List.drop_eq_getElem_cons (by omega)] at h
  obtain ⟨h1, h2, h3⟩ := h
  exact ⟨by rw [h1]; exact List.getElem?_eq_getElem (by omega), by omega, by omega⟩
theorem lk_c {T : Zt} {l : List Int} {f : Int} (h : lk_ T f l) (hf : f ≠ -1) : ∃ l', l = f :: l' ∧ (0 ≤ f ∧ f < 3000) ∧ lk_ T (T 252 0 f) l' := by
  cases l with
  | nil => exact absurd h hf
  | cons x l => obtain ⟨h1, h2, h3⟩ := h; subst h1; exact ⟨l, rfl, h2, h3⟩
theorem lk_app {T T' : Zt} {x y : Int} (hx : 0 ≤ x ∧ x < 3000) (e1 : T' 252 0 x = -1) (e2 : T' 252 0 y = x) : ∀ {l : List Int} {f : Int}, lk_ T f l → l.Nodup → l.getLast? = some y → (∀ z ∈ l, z ≠ y → T' 252 0 z = T 252 0 z) → lk_ T' f (l ++ [x])
  | [], _, _, _, g, _ => by cases g
  | [a], _, h, _, g, _ => by
      cases g
      exact ⟨h.1, h.2.1, e2, hx, e1⟩
  | a :: b :: l, _, h, n, g, e => by
      have n2 := List.nodup_cons.mp n
      have gy : (b :: l).getLast? = some y := by rw [List.getLast?_cons_cons] at g; exact g
      have hy : y ∈ b :: l := List.mem_of_getLast? gy
      have ha : a ≠ y := fun q => n2.1 (q ▸ hy)
      refine ⟨h.1, h.2.1, ?_⟩
      rw [e a List.mem_cons_self ha]
      exact lk_app hx e1 e2 h.2.2 n2.2 gy (fun z hz => e z (List.mem_cons_of_mem _ hz))
theorem lk_del {T T' : Zt} {x p : Int} (e1 : T' 252 0 p = T 252 0 x) : ∀ {i : Nat} {l : List Int} {f : Int}, lk_ T f l → l.Nodup → l[i + 1]? = some x → l[i]? = some p → (∀ z ∈ l, z ≠ p → T' 252 0 z = T 252 0 z) → lk_ T' f (l.eraseIdx (i + 1))
  | _, [], _, _, _, g, _, _ => by simp at g
  | 0, [a], _, _, _, g, _, _ => by simp at g
  | 0, a :: b :: l, _, h, n, g, k, e => by
      simp at g k
      subst g; subst k
      have n2 := List.nodup_cons.mp n
      obtain ⟨h1, h2, h3, h4, h5⟩ := h
      refine ⟨h1, h2, ?_⟩
      rw [e1]
      exact lk_e h5 (fun z (hz : z ∈ l) => e z (List.mem_cons_of_mem _ (List.mem_cons_of_mem _ hz)) (fun q => n2.1 (q ▸ List.mem_cons_of_mem _ hz)))
  | i + 1, a :: l, _, h, n, g, k, e => by
      have n2 := List.nodup_cons.mp n
      have g2 : l[i + 1]? = some x := by simpa using g
      have k2 : l[i]? = some p := by simpa using k
      have ha : a ≠ p := fun q => n2.1 (q ▸ List.mem_of_getElem? k2)
      refine ⟨h.1, h.2.1, ?_⟩
      rw [e a List.mem_cons_self ha]
      exact lk_del e1 h.2.2 n2.2 g2 k2 (fun z hz => e z (List.mem_cons_of_mem _ hz))

def kf_ (b : Int) : Nat := if b = 0 then 253 else 255
def km_ (b : Int) : Nat := if b = 0 then 254 else 256
/-- the rows of the matches: chains, all apart -/
def RB_ (T : Zt) (L : Int → Int → List Int) : Prop :=
  (∀ m b, 0 ≤ m → m < T 111 0 29 → 0 ≤ b → b ≤ 1 → lk_ T (T (kf_ b) 0 m) (L m b) ∧ T (km_ b) 0 m = ((L m b).length : Int)) ∧
  (∀ m b x, x ∈ L m b → 0 ≤ x ∧ x < T 111 0 47) ∧ (∀ m b, (L m b).Nodup) ∧
  (∀ m b m' b' x, x ∈ L m b → x ∈ L m' b' → m = m' ∧ b = b')
/-- and rows that are in no chain -/
def RR_ (T : Zt) (L : Int → Int → List Int) (rest : List Int) : Prop :=
  (∀ x ∈ rest, 0 ≤ x ∧ x < T 111 0 47) ∧ rest.Nodup ∧ (∀ m b x, x ∈ rest → x ∉ L m b)
def RX_ (T : Zt) (rest : List Int) : Prop := ∃ L, RB_ T L ∧ RR_ T L rest
/-- what other pictures keep of it -/
theorem rb_f {T T' : Zt} {L : Int → Int → List Int} (h : RB_ T L) (e29 : T' 111 0 29 = T 111 0 29) (e47 : T' 111 0 47 = T 111 0 47) (e : ∀ k j, k = 252 ∨ k = 253 ∨ k = 254 ∨ k = 255 ∨ k = 256 → T' k 0 j = T k 0 j) : RB_ T' L := by
  obtain ⟨a, b, c, d⟩ := h
  refine ⟨fun m b' h1 h2 h3 h4 => ?_, fun m b' x hx => by rw [e47]; exact b m b' x hx, c, d⟩
  have y := a m b' h1 (by omega) h3 h4
  have z1 : kf_ b' = 253 ∨ kf_ b' = 255 := by unfold kf_; split <;> simp
  have z2 : km_ b' = 254 ∨ km_ b' = 256 := by unfold km_; split <;> simp
  rw [e (kf_ b') m (by omega), e (km_ b') m (by omega)]
  exact ⟨lk_e y.1 (fun x _ => e 252 x (by decide)), y.2⟩
theorem rx_f {T T' : Zt} {rest : List Int} (h : RX_ T rest) (e29 : T' 111 0 29 = T 111 0 29) (e47 : T' 111 0 47 = T 111 0 47) (e : ∀ k j, k = 252 ∨ k = 253 ∨ k = 254 ∨ k = 255 ∨ k = 256 → T' k 0 j = T k 0 j) : RX_ T' rest := by
  obtain ⟨L, h1, h2, h3, h4⟩ := h
  exact ⟨L, rb_f h1 e29 e47 e, fun x hx => by rw [e47]; exact h2 x hx, h3, h4⟩
/-- apart, within bounds: so not more than the bound -/
theorem nd_len {l : List Int} {n : Int} (h0 : 0 ≤ n) (h : ∀ x ∈ l, 0 ≤ x ∧ x < n) (d : l.Nodup) : (l.length : Int) ≤ n := by
  refine ph_i (n := l.length) (m := n) (fun i => l.getD i.toNat 0) (by omega) h0 (fun i a b => ?_) (fun i j a b c => ?_)
  · have hi : i.toNat < l.length := by omega
    simp only [List.getD_eq_getElem?_getD, List.getElem?_eq_getElem hi, Option.getD_some]
    exact h _ (List.getElem_mem hi)
  · have hi : i.toNat < l.length := by omega
    have hj : j.toNat < l.length := by omega
    simp only [List.getD_eq_getElem?_getD, List.getElem?_eq_getElem hi, List.getElem?_eq_getElem hj, Option.getD_some]
    exact (List.pairwise_iff_getElem.mp d) _ _ hi hj (by omega)
/-- rows that no match has yet -/
def RZ_ (T : Zt) : Prop := ∀ m, T 111 0 29 ≤ m → m < 400 → T 254 0 m = 0 ∧ T 256 0 m = 0
theorem rx_am {T T' : Zt} (h : RX_ T []) (rz : RZ_ T) (h0 : 0 ≤ T 111 0 29) (hle : T 111 0 29 ≤ T' 111 0 29) (h4 : T' 111 0 29 ≤ 400) (e47 : T' 111 0 47 = T 111 0 47) (en : ∀ z, T' 252 0 z = T 252 0 z) (e4 : ∀ j, T' 254 0 j = T 254 0 j) (e6 : ∀ j, T' 256 0 j = T 256 0 j)
    (eo : ∀ j, j < T 111 0 29 → T' 253 0 j = T 253 0 j ∧ T' 255 0 j = T 255 0 j) (en2 : ∀ j, T 111 0 29 ≤ j → j < T' 111 0 29 → T' 253 0 j = -1 ∧ T' 255 0 j = -1) : RX_ T' [] ∧ RZ_ T' := by
  obtain ⟨L, ⟨a, b, c, d⟩, -⟩ := h
  refine ⟨⟨fun m' b' => if m' < T 111 0 29 then L m' b' else [], ⟨?_, ?_, ?_, ?_⟩, (by simp), List.nodup_nil, (by simp)⟩, fun m h1 h2 => by rw [e4, e6]; exact rz m (by omega) h2⟩
  · intro m' b' h1 h2 h3 h5
    by_cases k : m' < T 111 0 29
    · simp only [k, if_true]
      have g := a m' b' h1 k h3 h5
      rcases (by omega : b' = 0 ∨ b' = 1) with z | z
      · subst z
        have f1 : T' (kf_ 0) 0 m' = T (kf_ 0) 0 m' := (eo m' k).1
        have f2 : T' (km_ 0) 0 m' = T (km_ 0) 0 m' := e4 m'
        rw [f1, f2]; exact ⟨lk_e g.1 (fun x _ => en x), g.2⟩
      · subst z
        have f1 : T' (kf_ 1) 0 m' = T (kf_ 1) 0 m' := (eo m' k).2
        have f2 : T' (km_ 1) 0 m' = T (km_ 1) 0 m' := e6 m'
        rw [f1, f2]; exact ⟨lk_e g.1 (fun x _ => en x), g.2⟩
    · simp only [k, if_false]
      have n := en2 m' (by omega) h2
      have q := rz m' (by omega) (by omega)
      rcases (by omega : b' = 0 ∨ b' = 1) with z | z
      · subst z; exact ⟨n.1, (e4 m').trans q.1⟩
      · subst z; exact ⟨n.2, (e6 m').trans q.2⟩
  · intro m' b' z hz
    rw [e47]
    by_cases k : m' < T 111 0 29
    · simp only [k, if_true] at hz; exact b m' b' z hz
    · simp [k] at hz
  · intro m' b'
    by_cases k : m' < T 111 0 29
    · simp only [k, if_true]; exact c m' b'
    · simp [k]
  · intro m1 b1 m2 b2 z h1 h2
    by_cases k : m1 < T 111 0 29
    · by_cases k2 : m2 < T 111 0 29
      · simp only [k, k2, if_true] at h1 h2; exact d m1 b1 m2 b2 z h1 h2
      · simp [k2] at h2
    · simp [k] at h1
theorem rx_nil {T : Zt} {l : List Int} (h : RX_ T l) : RX_ T [] := by
  obtain ⟨L, h1, h2⟩ := h
  exact ⟨L, h1, (fun _ hx => absurd hx List.not_mem_nil), List.nodup_nil, (fun _ _ _ hx => absurd hx List.not_mem_nil)⟩
abbrev cX11_rowAt : ByteArray := prog_13_method_72_code
def yX11_rowAt : MethodName := ⟨RX11, "rowAt", "(II)I"⟩
def zX11_rowAt : Zm := (RX11, cX11_rowAt, 5, (some .int), { frames := 0, cells := 0, slots := 0, locals := 0 })
theorem bk_X11_rowAt_5 : ck_ fX11 (some .int) cX11_rowAt 5 [.iload 4, .iload 2, .if_icmp .ge 24, .aload 0, .tableswitch 0 11 52 #[], .iload 3, .iaload, .istore 3, .iinc 4 1, .goto 5] 24 = true := qck_r (nn_ _) (by decide +kernel)
theorem bs_X11_rowAt_5 {P : Zt → Option Zv → Prop} (K : Int → Zl → List Zv → Zt → Prop) : sx_ K P [.iload 4, .iload 2, .if_icmp .ge 24, .aload 0, .tableswitch 0 11 52 #[], .iload 3, .iaload, .istore 3, .iinc 4 1, .goto 5] 24 = x_iload 4 (x_iload 2 (x_if_icmp .ge 24 K (x_aload 0 (x_g1 111 252 (x_iload 3 (x_iaload (x_istore 3 (x_iinc 4 1 (x_goto 5 K))))))))) := ((xe_iload 4).trans (congrArg (x_iload 4) ((xe_iload 2).trans (congrArg (x_iload 2) ((xe_if_icmp .ge 24).trans (congrArg (x_if_icmp .ge 24 K) ((xe_aload 0).trans (congrArg (x_aload 0) ((xe_g1 (kk := 111) rfl tl_11_52).trans (congrArg (x_g1 111 252) ((xe_iload 3).trans (congrArg (x_iload 3) ((xe_iaload).trans (congrArg (x_iaload) ((xe_istore 3).trans (congrArg (x_istore 3) ((xe_iinc 4 1).trans (congrArg (x_iinc 4 1) (xe_goto 5)))))))))))))))))))
theorem bk_X11_rowAt_24 : ck_ fX11 (some .int) cX11_rowAt 24 [.iload 3, .ireturn] 26 = true := qck_r (nn_ _) (by decide +kernel)
theorem bs_X11_rowAt_24 {P : Zt → Option Zv → Prop} (K : Int → Zl → List Zv → Zt → Prop) : sx_ K P [.iload 3, .ireturn] 26 = x_iload 3 (x_ireturn P) := ((xe_iload 3).trans (congrArg (x_iload 3) (xe_ireturn)))
theorem bk_X11_rowAt_0 : ck_ fX11 (some .int) cX11_rowAt 0 [.iload 1, .istore 3, .iconst 0, .istore 4] 5 = true := qck_r (nn_ _) (by decide +kernel)
theorem bs_X11_rowAt_0 {P : Zt → Option Zv → Prop} (K : Int → Zl → List Zv → Zt → Prop) : sx_ K P [.iload 1, .istore 3, .iconst 0, .istore 4] 5 = x_iload 1 (x_istore 3 (x_iconst 0 (x_istore 4 (K 5)))) := ((xe_iload 1).trans (congrArg (x_iload 1) ((xe_istore 3).trans (congrArg (x_istore 3) ((xe_iconst 0).trans (congrArg (x_iconst 0) ((xe_istore 4).trans (congrArg (x_istore 4) xe_nil))))))))
abbrev po_X11_rowAt (T : Zt) (l : List Int) (f k : Int) : Zt → Option Zv → Prop := fun T' r => T = T' ∧ ∃ x : Int, r = some (vI x) ∧ l[k.toNat]? = some x ∧ 0 ≤ x ∧ x < 3000
set_option maxHeartbeats 4000000 in
theorem ct_X11_rowAt {T : Zt} {l : List Int} {f k : Int} (hl : lk_ T f l) (hk : 0 ≤ k ∧ k < (l.length : Int)) : Ct_ yX11_rowAt zX11_rowAt T [vR 111 0, vI f, vI k] (po_X11_rowAt T l f k) := by
  refine ct_of pn_11 rfl rfl (Nat.le_of_ble_eq_true rfl) (fun hT hav => ?_)
  have hr_f : -2147483648 ≤ f ∧ f ≤ 2147483647 := hav (vI f) (List.mem_cons_of_mem _ List.mem_cons_self)
  have hr_k : -2147483648 ≤ k ∧ k ≤ 2147483647 := hav (vI k) (List.mem_cons_of_mem _ (List.mem_cons_of_mem _ List.mem_cons_self))
  have hz : zX11_rowAt.2.2.2.1 = some .boolean → ∀ (T' : Zt) (x : Int), po_X11_rowAt T l f k T' (some (vI x)) → 0 ≤ x ∧ x ≤ 1 := fun h => by cases h
  show J_ zX11_rowAt T (po_X11_rowAt T l f k) 0 0 0 [some (vR 111 0), some (vI f), some (vI k), none, none] [] T
  have c_5 : ∀ (nn : Nat) (w : Int) (i : Int), ((k - i).toNat) ≤ nn → (0 ≤ i ∧ i ≤ k) → (lk_ T w (l.drop i.toNat)) → J_ zX11_rowAt T (po_X11_rowAt T l f k) 0 0 5 [some (vR 111 0), some (vI f), some (vI k), some (vI w), some (vI i)] [] T := by
    intro nn
    induction nn using Nat.strongRecOn with
    | _ nn ih_5 =>
      intro w i hm_5 i1 i2
      replace hm_5 := fun (_ : Unit) => hm_5
      refine j_blx (F := fX11) tb_X11 (nn_ _) bk_X11_rowAt_5 bs_X11_rowAt_5 hz (fun K hK => ?_)
      refine And.intro (fun c1 => ?_) (fun c1 => ?_)
      · refine hK 24 _ [] T ?_
        refine j_blx (F := fX11) tb_X11 (nn_ _) bk_X11_rowAt_24 bs_X11_rowAt_24 hz (fun K hK => ?_)
        refine (show po_X11_rowAt T l f k T (some (vI w)) from ?_)
        exact ⟨rfl, _, rfl, lk_g (by omega) (by omega) (by rw [show k = i by omega]; exact i2)⟩
      · have hw := lk_s i1.1 (by omega) i2
        refine ix_i (by omega) ?_
        intro b2 b2b
        refine rg_i (by omega) ?_
        refine hK 5 [some (vR 111 0), some (vI f), some (vI k), some (vI (T 252 0 w)), some (vI (i + 1))] [] T ?_
        refine ih_5 _ ?_ (T 252 0 w) (i + 1) (Nat.le_refl _) ?_ ?_
        · have hm_5 := hm_5 (); omega
        · omega
        · exact hw.2
  refine j_blx (F := fX11) tb_X11 (nn_ _) bk_X11_rowAt_0 bs_X11_rowAt_0 hz (fun K hK => ?_)
  refine hK 5 [some (vR 111 0), some (vI f), some (vI k), some (vI f), some (vI 0)] [] T ?_
  refine c_5 _ f 0 (Nat.le_refl _) ?_ ?_
  · omega
  · exact hl
abbrev cX11_putBehind : ByteArray := prog_13_method_73_code
def yX11_putBehind : MethodName := ⟨RX11, "putBehind", "(IIZ)V"⟩
def zX11_putBehind : Zm := (RX11, cX11_putBehind, 5, none, { frames := 1, cells := 0, slots := 0, locals := 24 })
set_option maxRecDepth 100000 in
theorem cl_X11_456 : cv_ RX11 456 yX11_rowAt zX11_rowAt 11 2 := ⟨gi_V (lwq_9 (dqc_m (dqc_m (List.mem_of_getElem? (i := 2) rfl))) rfl : Cond.methodLink RX11 456 yX11_rowAt ∈ lw_g) (lwq_9 (dqc_m (dqc_m (List.mem_of_getElem? (i := 4) rfl))) rfl : Cond.instanceMethod yX11_rowAt ∈ lw_g) (lw_sel 58 rfl : Cond.selects yX11_rowAt.cls yX11_rowAt yX11_rowAt ∈ lw_g) (lwq_1 (dqa_m (List.mem_of_getElem? (i := 2) rfl)) rfl : Cond.initialized yX11_rowAt.cls ∈ lw_g) (lwq_9 (dqc_m (dqc_m (List.mem_of_getElem? (i := 5) rfl))) rfl : Cond.code yX11_rowAt cX11_rowAt 5 (some .int) ∈ lw_g), ⟨nmh_1.1, nmh_1.2, pdq_4⟩, ⟨_, _, rfl⟩⟩
abbrev cX11_event : ByteArray := prog_13_method_74_code
def yX11_event : MethodName := ⟨RX11, "event", "(IIIII)I"⟩
def zX11_event : Zm := (RX11, cX11_event, 8, (some .int), { frames := 5, cells := 0, slots := 0, locals := 123 })
set_option maxRecDepth 100000 in
theorem cl_X11_459 : cv_ RX11 459 yX11_lawOf zX11_lawOf 11 5 := ⟨gi_V (lwq_9 (dqc_m (List.mem_of_getElem? (i := 7) rfl)) rfl : Cond.methodLink RX11 459 yX11_lawOf ∈ lw_g) (lwq_9 (dqc_m (dqa_m (List.mem_of_getElem? (i := 1) rfl))) rfl : Cond.instanceMethod yX11_lawOf ∈ lw_g) (lw_sel 29 rfl : Cond.selects yX11_lawOf.cls yX11_lawOf yX11_lawOf ∈ lw_g) (lwq_1 (dqa_m (List.mem_of_getElem? (i := 2) rfl)) rfl : Cond.initialized yX11_lawOf.cls ∈ lw_g) (lwq_9 (dqc_m (dqa_m (List.mem_of_getElem? (i := 2) rfl))) rfl : Cond.code yX11_lawOf cX11_lawOf 9 (some .int) ∈ lw_g), ⟨nmh_1.1, nmh_1.2, pdq_13⟩, ⟨_, _, rfl⟩⟩
set_option maxRecDepth 100000 in
theorem cl_X11_466 : cv_ RX11 466 yX11_putBehind zX11_putBehind 11 3 := ⟨gi_V (lwq_9 (dqc_m (dqa_m (dqa_m (dqa_m (List.mem_of_getElem? (i := 6) rfl))))) rfl : Cond.methodLink RX11 466 yX11_putBehind ∈ lw_g) (lwq_9 (dqc_m (dqc_m (List.mem_of_getElem? (i := 0) rfl))) rfl : Cond.instanceMethod yX11_putBehind ∈ lw_g) (lw_sel 52 rfl : Cond.selects yX11_putBehind.cls yX11_putBehind yX11_putBehind ∈ lw_g) (lwq_1 (dqa_m (List.mem_of_getElem? (i := 2) rfl)) rfl : Cond.initialized yX11_putBehind.cls ∈ lw_g) (lwq_9 (dqc_m (dqc_m (List.mem_of_getElem? (i := 1) rfl))) rfl : Cond.code yX11_putBehind cX11_putBehind 5 none ∈ lw_g), ⟨nmh_1.1, nmh_1.2, pdq_14⟩, ⟨_, _, rfl⟩⟩
set_option maxRecDepth 100000 in
theorem cl_X11_470 : cv_ RX11 470 yX11_play zX11_play 11 5 := ⟨gi_V (lwq_9 (dqc_m (dqc_m (List.mem_of_getElem? (i := 6) rfl))) rfl : Cond.methodLink RX11 470 yX11_play ∈ lw_g) (lwq_9 (dqc_m (dqc_m (dqa_m (List.mem_of_getElem? (i := 0) rfl)))) rfl : Cond.instanceMethod yX11_play ∈ lw_g) (lw_sel 46 rfl : Cond.selects yX11_play.cls yX11_play yX11_play ∈ lw_g) (lwq_1 (dqa_m (List.mem_of_getElem? (i := 2) rfl)) rfl : Cond.initialized yX11_play.cls ∈ lw_g) (lwq_9 (dqc_m (dqc_m (dqa_m (List.mem_of_getElem? (i := 1) rfl)))) rfl : Cond.code yX11_play cX11_play 6 none ∈ lw_g), ⟨nmh_1.1, nmh_1.2, pdq_6⟩, ⟨_, _, rfl⟩⟩
abbrev po_X11_event (T : Zt) (m k s p q : Int) : Zt → Option Zv → Prop := fun T' r => ∃ x : Int, r = some (vI x) ∧ fr_ [(111, [47]), (248, []), (249, []), (250, []), (251, []), (252, []), (253, []), (254, []), (256, []), (244, []), (241, []), (242, []), (243, []), (245, []), (246, []), (236, []), (237, []), (235, [])] T T' ∧ (FM_ T' ∧ RX_ T' [] ∧ ZS_ T' ∧ GX_ T' (-1) ∧ ∀ j, j ≠ m ∨ T 111 0 29 ≤ j → T' 254 0 j = T 254 0 j ∧ T' 256 0 j = T 256 0 j)
abbrev cX11_playAnew : ByteArray := prog_13_method_75_code
def yX11_playAnew : MethodName := ⟨RX11, "playAnew", "(I)I"⟩
def zX11_playAnew : Zm := (RX11, cX11_playAnew, 6, (some .int), { frames := 5, cells := 0, slots := 0, locals := 123 })
abbrev cX11_review : ByteArray := prog_13_method_76_code
def yX11_review : MethodName := ⟨RX11, "review", "(IIIIII)I"⟩
def zX11_review : Zm := (RX11, cX11_review, 9, (some .int), { frames := 6, cells := 0, slots := 0, locals := 148 })
set_option maxRecDepth 100000 in
theorem cl_X11_473 : cv_ RX11 473 yX11_playAnew zX11_playAnew 11 1 := ⟨gi_V (lwq_9 (dqc_m (dqc_m (dqc_m (dqc_m (dqa_m (List.mem_of_getElem? (i := 2) rfl)))))) rfl : Cond.methodLink RX11 473 yX11_playAnew ∈ lw_g) (lwq_9 (dqc_m (dqc_m (dqc_m (dqc_m (dqa_m (List.mem_of_getElem? (i := 4) rfl)))))) rfl : Cond.instanceMethod yX11_playAnew ∈ lw_g) (lw_sel 47 rfl : Cond.selects yX11_playAnew.cls yX11_playAnew yX11_playAnew ∈ lw_g) (lwq_1 (dqa_m (List.mem_of_getElem? (i := 2) rfl)) rfl : Cond.initialized yX11_playAnew.cls ∈ lw_g) (lwq_9 (dqc_m (dqc_m (dqc_m (dqc_m (dqa_m (List.mem_of_getElem? (i := 5) rfl)))))) rfl : Cond.code yX11_playAnew cX11_playAnew 6 (some .int) ∈ lw_g), ⟨nmh_1.1, nmh_1.2, pdq_15⟩, ⟨_, _, rfl⟩⟩
abbrev po_X11_review (T : Zt) (m i k s p q : Int) : Zt → Option Zv → Prop := fun T' r => ∃ x : Int, r = some (vI x) ∧ fr_ [(252, []), (253, []), (255, []), (254, []), (256, []), (244, []), (241, []), (242, []), (243, []), (245, []), (246, []), (236, []), (237, []), (235, []), (248, []), (249, []), (250, []), (251, [])] T T' ∧ (FM_ T' ∧ RX_ T' [] ∧ ZS_ T' ∧ GX_ T' (-1) ∧ ∀ j, j ≠ m ∨ T 111 0 29 ≤ j → T' 254 0 j = T 254 0 j ∧ T' 256 0 j = T 256 0 j)
abbrev cX11_row : ByteArray := prog_13_method_78_code
def yX11_row : MethodName := ⟨RX11, "row", "(III)I"⟩
def zX11_row : Zm := (RX11, cX11_row, 5, (some .int), { frames := 2, cells := 0, slots := 0, locals := 43 })
theorem bk_X11_row_0 : ck_ fX11 (some .int) cX11_row 0 [.iload 1, .aload 0, .tableswitch 0 11 29 #[]] 5 = true := qck_r (nn_ _) (by decide +kernel)
theorem bs_X11_row_0 {P : Zt → Option Zv → Prop} (K : Int → Zl → List Zv → Zt → Prop) : sx_ K P [.iload 1, .aload 0, .tableswitch 0 11 29 #[]] 5 = x_iload 1 (x_aload 0 (x_g0 111 29 0 400 (K 5))) := ((xe_iload 1).trans (congrArg (x_iload 1) ((xe_aload 0).trans (congrArg (x_aload 0) ((xe_g0 (kk := 111) rfl tl_11_29).trans (congrArg (x_g0 111 29 0 400) xe_nil))))))
theorem bk_X11_row_8 : ck_ fX11 (some .int) cX11_row 8 [.ifCond .ne 14, .iconst (-2), .ireturn] 14 = true := qck_r (nn_ _) (by decide +kernel)
theorem bs_X11_row_8 {P : Zt → Option Zv → Prop} (K : Int → Zl → List Zv → Zt → Prop) : sx_ K P [.ifCond .ne 14, .iconst (-2), .ireturn] 14 = x_ifCond .ne 14 K (x_iconst (-2) (x_ireturn P)) := ((xe_ifCond .ne 14).trans (congrArg (x_ifCond .ne 14 K) ((xe_iconst (-2)).trans (congrArg (x_iconst (-2)) (xe_ireturn)))))
theorem bk_X11_row_14 : ck_ fX11 (some .int) cX11_row 14 [.iload 3, .iconst 0, .iconst 7] 18 = true := qck_r (nn_ _) (by decide +kernel)
theorem bs_X11_row_14 {P : Zt → Option Zv → Prop} (K : Int → Zl → List Zv → Zt → Prop) : sx_ K P [.iload 3, .iconst 0, .iconst 7] 18 = x_iload 3 (x_iconst 0 (x_iconst 7 (K 18))) := ((xe_iload 3).trans (congrArg (x_iload 3) ((xe_iconst 0).trans (congrArg (x_iconst 0) ((xe_iconst 7).trans (congrArg (x_iconst 7) xe_nil))))))
theorem bk_X11_row_21 : ck_ fX11 (some .int) cX11_row 21 [.ifCond .ne 27, .iconst (-3), .ireturn] 27 = true := qck_r (nn_ _) (by decide +kernel)
theorem bs_X11_row_21 {P : Zt → Option Zv → Prop} (K : Int → Zl → List Zv → Zt → Prop) : sx_ K P [.ifCond .ne 27, .iconst (-3), .ireturn] 27 = x_ifCond .ne 27 K (x_iconst (-3) (x_ireturn P)) := ((xe_ifCond .ne 27).trans (congrArg (x_ifCond .ne 27 K) ((xe_iconst (-3)).trans (congrArg (x_iconst (-3)) (xe_ireturn)))))
theorem bk_X11_row_27 : ck_ fX11 (some .int) cX11_row 27 [.iload 2, .iload 3, .iconst 4, .if_icmp .ge 42, .aload 0, .tableswitch 0 11 54 #[], .iload 1, .iaload, .goto 48] 42 = true := qck_r (nn_ _) (by decide +kernel)
theorem bs_X11_row_27 {P : Zt → Option Zv → Prop} (K : Int → Zl → List Zv → Zt → Prop) : sx_ K P [.iload 2, .iload 3, .iconst 4, .if_icmp .ge 42, .aload 0, .tableswitch 0 11 54 #[], .iload 1, .iaload, .goto 48] 42 = x_iload 2 (x_iload 3 (x_iconst 4 (x_if_icmp .ge 42 K (x_aload 0 (x_g1 111 254 (x_iload 1 (x_iaload (x_goto 48 K)))))))) := ((xe_iload 2).trans (congrArg (x_iload 2) ((xe_iload 3).trans (congrArg (x_iload 3) ((xe_iconst 4).trans (congrArg (x_iconst 4) ((xe_if_icmp .ge 42).trans (congrArg (x_if_icmp .ge 42 K) ((xe_aload 0).trans (congrArg (x_aload 0) ((xe_g1 (kk := 111) rfl tl_11_54).trans (congrArg (x_g1 111 254) ((xe_iload 1).trans (congrArg (x_iload 1) ((xe_iaload).trans (congrArg (x_iaload) (xe_goto 48)))))))))))))))))
theorem bk_X11_row_42 : ck_ fX11 (some .int) cX11_row 42 [.aload 0, .tableswitch 0 11 56 #[], .iload 1, .iaload] 48 = true := qck_r (nn_ _) (by decide +kernel)
theorem bs_X11_row_42 {P : Zt → Option Zv → Prop} (K : Int → Zl → List Zv → Zt → Prop) : sx_ K P [.aload 0, .tableswitch 0 11 56 #[], .iload 1, .iaload] 48 = x_aload 0 (x_g1 111 256 (x_iload 1 (x_iaload (K 48)))) := ((xe_aload 0).trans (congrArg (x_aload 0) ((xe_g1 (kk := 111) rfl tl_11_56).trans (congrArg (x_g1 111 256) ((xe_iload 1).trans (congrArg (x_iload 1) ((xe_iaload).trans (congrArg (x_iaload) xe_nil))))))))
theorem bk_X11_row_51 : ck_ fX11 (some .int) cX11_row 51 [.ifCond .ne 57, .iconst (-2), .ireturn] 57 = true := qck_r (nn_ _) (by decide +kernel)
theorem bs_X11_row_51 {P : Zt → Option Zv → Prop} (K : Int → Zl → List Zv → Zt → Prop) : sx_ K P [.ifCond .ne 57, .iconst (-2), .ireturn] 57 = x_ifCond .ne 57 K (x_iconst (-2) (x_ireturn P)) := ((xe_ifCond .ne 57).trans (congrArg (x_ifCond .ne 57 K) ((xe_iconst (-2)).trans (congrArg (x_iconst (-2)) (xe_ireturn)))))
theorem bk_X11_row_57 : ck_ fX11 (some .int) cX11_row 57 [.aload 0, .iload 3, .iconst 4, .if_icmp .ge 72, .aload 0, .tableswitch 0 11 53 #[], .iload 1, .iaload, .goto 78] 72 = true := qck_r (nn_ _) (by decide +kernel)
theorem bs_X11_row_57 {P : Zt → Option Zv → Prop} (K : Int → Zl → List Zv → Zt → Prop) : sx_ K P [.aload 0, .iload 3, .iconst 4, .if_icmp .ge 72, .aload 0, .tableswitch 0 11 53 #[], .iload 1, .iaload, .goto 78] 72 = x_aload 0 (x_iload 3 (x_iconst 4 (x_if_icmp .ge 72 K (x_aload 0 (x_g1 111 253 (x_iload 1 (x_iaload (x_goto 78 K)))))))) := ((xe_aload 0).trans (congrArg (x_aload 0) ((xe_iload 3).trans (congrArg (x_iload 3) ((xe_iconst 4).trans (congrArg (x_iconst 4) ((xe_if_icmp .ge 72).trans (congrArg (x_if_icmp .ge 72 K) ((xe_aload 0).trans (congrArg (x_aload 0) ((xe_g1 (kk := 111) rfl tl_11_53).trans (congrArg (x_g1 111 253) ((xe_iload 1).trans (congrArg (x_iload 1) ((xe_iaload).trans (congrArg (x_iaload) (xe_goto 78)))))))))))))))))
theorem bk_X11_row_72 : ck_ fX11 (some .int) cX11_row 72 [.aload 0, .tableswitch 0 11 55 #[], .iload 1, .iaload, .iload 2] 79 = true := qck_r (nn_ _) (by decide +kernel)
theorem bs_X11_row_72 {P : Zt → Option Zv → Prop} (K : Int → Zl → List Zv → Zt → Prop) : sx_ K P [.aload 0, .tableswitch 0 11 55 #[], .iload 1, .iaload, .iload 2] 79 = x_aload 0 (x_g1 111 255 (x_iload 1 (x_iaload (x_iload 2 (K 79))))) := ((xe_aload 0).trans (congrArg (x_aload 0) ((xe_g1 (kk := 111) rfl tl_11_55).trans (congrArg (x_g1 111 255) ((xe_iload 1).trans (congrArg (x_iload 1) ((xe_iaload).trans (congrArg (x_iaload) ((xe_iload 2).trans (congrArg (x_iload 2) xe_nil))))))))))
theorem bk_X11_row_82 : ck_ fX11 (some .int) cX11_row 82 [.istore 4, .iload 3, .iconst 4, .irem, .ifCond .ne 100, .aload 0, .tableswitch 0 11 48 #[], .iload 4, .iaload, .goto 141] 100 = true := qck_r (nn_ _) (by decide +kernel)
theorem bs_X11_row_82 {P : Zt → Option Zv → Prop} (K : Int → Zl → List Zv → Zt → Prop) : sx_ K P [.istore 4, .iload 3, .iconst 4, .irem, .ifCond .ne 100, .aload 0, .tableswitch 0 11 48 #[], .iload 4, .iaload, .goto 141] 100 = x_istore 4 (x_iload 3 (x_iconst 4 (x_irem (x_ifCond .ne 100 K (x_aload 0 (x_g1 111 248 (x_iload 4 (x_iaload (x_goto 141 K))))))))) := ((xe_istore 4).trans (congrArg (x_istore 4) ((xe_iload 3).trans (congrArg (x_iload 3) ((xe_iconst 4).trans (congrArg (x_iconst 4) ((xe_irem).trans (congrArg (x_irem) ((xe_ifCond .ne 100).trans (congrArg (x_ifCond .ne 100 K) ((xe_aload 0).trans (congrArg (x_aload 0) ((xe_g1 (kk := 111) rfl tl_11_48).trans (congrArg (x_g1 111 248) ((xe_iload 4).trans (congrArg (x_iload 4) ((xe_iaload).trans (congrArg (x_iaload) (xe_goto 141)))))))))))))))))))
theorem bk_X11_row_100 : ck_ fX11 (some .int) cX11_row 100 [.iload 3, .iconst 4, .irem, .iconst 1, .if_icmp .ne 117, .aload 0, .tableswitch 0 11 49 #[], .iload 4, .iaload, .goto 141] 117 = true := qck_r (nn_ _) (by decide +kernel)
theorem bs_X11_row_100 {P : Zt → Option Zv → Prop} (K : Int → Zl → List Zv → Zt → Prop) : sx_ K P [.iload 3, .iconst 4, .irem, .iconst 1, .if_icmp .ne 117, .aload 0, .tableswitch 0 11 49 #[], .iload 4, .iaload, .goto 141] 117 = x_iload 3 (x_iconst 4 (x_irem (x_iconst 1 (x_if_icmp .ne 117 K (x_aload 0 (x_g1 111 249 (x_iload 4 (x_iaload (x_goto 141 K))))))))) := ((xe_iload 3).trans (congrArg (x_iload 3) ((xe_iconst 4).trans (congrArg (x_iconst 4) ((xe_irem).trans (congrArg (x_irem) ((xe_iconst 1).trans (congrArg (x_iconst 1) ((xe_if_icmp .ne 117).trans (congrArg (x_if_icmp .ne 117 K) ((xe_aload 0).trans (congrArg (x_aload 0) ((xe_g1 (kk := 111) rfl tl_11_49).trans (congrArg (x_g1 111 249) ((xe_iload 4).trans (congrArg (x_iload 4) ((xe_iaload).trans (congrArg (x_iaload) (xe_goto 141)))))))))))))))))))
theorem bk_X11_row_117 : ck_ fX11 (some .int) cX11_row 117 [.iload 3, .iconst 4, .irem, .iconst 2, .if_icmp .ne 134, .aload 0, .tableswitch 0 11 50 #[], .iload 4, .iaload, .goto 141] 134 = true := qck_r (nn_ _) (by decide +kernel)
theorem bs_X11_row_117 {P : Zt → Option Zv → Prop} (K : Int → Zl → List Zv → Zt → Prop) : sx_ K P [.iload 3, .iconst 4, .irem, .iconst 2, .if_icmp .ne 134, .aload 0, .tableswitch 0 11 50 #[], .iload 4, .iaload, .goto 141] 134 = x_iload 3 (x_iconst 4 (x_irem (x_iconst 2 (x_if_icmp .ne 134 K (x_aload 0 (x_g1 111 250 (x_iload 4 (x_iaload (x_goto 141 K))))))))) := ((xe_iload 3).trans (congrArg (x_iload 3) ((xe_iconst 4).trans (congrArg (x_iconst 4) ((xe_irem).trans (congrArg (x_irem) ((xe_iconst 2).trans (congrArg (x_iconst 2) ((xe_if_icmp .ne 134).trans (congrArg (x_if_icmp .ne 134 K) ((xe_aload 0).trans (congrArg (x_aload 0) ((xe_g1 (kk := 111) rfl tl_11_50).trans (congrArg (x_g1 111 250) ((xe_iload 4).trans (congrArg (x_iload 4) ((xe_iaload).trans (congrArg (x_iaload) (xe_goto 141)))))))))))))))))))
theorem bk_X11_row_134 : ck_ fX11 (some .int) cX11_row 134 [.aload 0, .tableswitch 0 11 51 #[], .iload 4, .iaload, .ireturn] 142 = true := qck_r (nn_ _) (by decide +kernel)
theorem bs_X11_row_134 {P : Zt → Option Zv → Prop} (K : Int → Zl → List Zv → Zt → Prop) : sx_ K P [.aload 0, .tableswitch 0 11 51 #[], .iload 4, .iaload, .ireturn] 142 = x_aload 0 (x_g1 111 251 (x_iload 4 (x_iaload (x_ireturn P)))) := ((xe_aload 0).trans (congrArg (x_aload 0) ((xe_g1 (kk := 111) rfl tl_11_51).trans (congrArg (x_g1 111 251) ((xe_iload 4).trans (congrArg (x_iload 4) ((xe_iaload).trans (congrArg (x_iaload) (xe_ireturn)))))))))
theorem bk_X11_row_141 : ck_ fX11 (some .int) cX11_row 141 [.ireturn] 142 = true := qck_r (nn_ _) (by decide +kernel)
theorem bs_X11_row_141 {P : Zt → Option Zv → Prop} (K : Int → Zl → List Zv → Zt → Prop) : sx_ K P [.ireturn] 142 = x_ireturn P := (xe_ireturn)
theorem bk_X11_row_78 : ck_ fX11 (some .int) cX11_row 78 [.iload 2] 79 = true := qck_r (nn_ _) (by decide +kernel)
theorem bs_X11_row_78 {P : Zt → Option Zv → Prop} (K : Int → Zl → List Zv → Zt → Prop) : sx_ K P [.iload 2] 79 = x_iload 2 (K 79) := ((xe_iload 2).trans (congrArg (x_iload 2) xe_nil))
abbrev po_X11_row (T : Zt) (m i w : Int) : Zt → Option Zv → Prop := fun T' r => T = T' ∧ ∃ x : Int, r = some (vI x) ∧ (0 = (0 : Int))
set_option maxHeartbeats 4000000 in
theorem ct_X11_row {T : Zt} {m i w : Int} (hrx : RX_ T []) : Ct_ yX11_row zX11_row T [vR 111 0, vI m, vI i, vI w] (po_X11_row T m i w) := by
  refine ct_of pn_11 rfl rfl (Nat.le_of_ble_eq_true rfl) (fun hT hav => ?_)
  have hr_m : -2147483648 ≤ m ∧ m ≤ 2147483647 := hav (vI m) (List.mem_cons_of_mem _ List.mem_cons_self)
  have hr_i : -2147483648 ≤ i ∧ i ≤ 2147483647 := hav (vI i) (List.mem_cons_of_mem _ (List.mem_cons_of_mem _ List.mem_cons_self))
  have hr_w : -2147483648 ≤ w ∧ w ≤ 2147483647 := hav (vI w) (List.mem_cons_of_mem _ (List.mem_cons_of_mem _ (List.mem_cons_of_mem _ List.mem_cons_self)))
  have hz : zX11_row.2.2.2.1 = some .boolean → ∀ (T' : Zt) (x : Int), po_X11_row T m i w T' (some (vI x)) → 0 ≤ x ∧ x ≤ 1 := fun h => by cases h
  have hb_29 : 0 ≤ T 111 0 29 ∧ T 111 0 29 ≤ 400 := bd_f hT 111 29 tl_11_29 0
  show J_ zX11_row T (po_X11_row T m i w) 0 0 0 [some (vR 111 0), some (vI m), some (vI i), some (vI w), none] [] T
  refine j_blx (F := fX11) tb_X11 (nn_ _) bk_X11_row_0 bs_X11_row_0 hz (fun K hK => ?_)
  intro b1 b1b
  refine hK 5 _ [vI (T 111 0 29), vI m] T ?_
  refine j_callS (y := yX11_isOf) (Yc := zX11_isOf) (rest := []) [vI m, vI (T 111 0 29)] (ct_X11_isOf (T := T) (by omega)) cl_X11_317 (qd_c (by decide +kernel)) (nn_ _) rfl (rf_of rfl) (Nat.le_of_ble_eq_true rfl) (Nat.le_of_ble_eq_true rfl) (Nat.le_of_ble_eq_true rfl) rfl ?_
  rintro _ _ ⟨rfl, x2, rfl, hx2⟩
  show J_ zX11_row T (po_X11_row T m i w) 0 0 8 _ [vI x2] T
  refine j_blx (F := fX11) tb_X11 (nn_ _) bk_X11_row_8 bs_X11_row_8 hz (fun K hK => ?_)
  refine And.intro (fun c3 => ?_) (fun c3 => ?_)
  · replace hx2 := hx2.resolve_right (fun z => c3 z.1)
    clear c3
    refine hK 14 _ [] T ?_
    refine j_blx (F := fX11) tb_X11 (nn_ _) bk_X11_row_14 bs_X11_row_14 hz (fun K hK => ?_)
    refine hK 18 _ [vI 7, vI 0, vI w] T ?_
    refine j_callS (y := yX11_in) (Yc := zX11_in) (rest := []) [vI w, vI 0, vI 7] (ct_X11_in (T := T)) cl_X11_255 (qd_c (by decide +kernel)) (nn_ _) rfl (rf_of rfl) (Nat.le_of_ble_eq_true rfl) (Nat.le_of_ble_eq_true rfl) (Nat.le_of_ble_eq_true rfl) rfl ?_
    rintro _ _ ⟨rfl, x4, rfl, hx4⟩
    show J_ zX11_row T (po_X11_row T m i w) 0 0 21 _ [vI x4] T
    refine j_blx (F := fX11) tb_X11 (nn_ _) bk_X11_row_21 bs_X11_row_21 hz (fun K hK => ?_)
    refine And.intro (fun c5 => ?_) (fun c5 => ?_)
    · replace hx4 := hx4.resolve_right (fun z => c5 z.1)
      clear c5
      refine hK 27 _ [] T ?_
      refine j_blx (F := fX11) tb_X11 (nn_ _) bk_X11_row_27 bs_X11_row_27 hz (fun K hK => ?_)
      refine And.intro (fun c6 => ?_) (fun c6 => ?_)
      · refine hK 42 _ [vI i] T ?_
        refine j_blx (F := fX11) tb_X11 (nn_ _) bk_X11_row_42 bs_X11_row_42 hz (fun K hK => ?_)
        refine ix_i (by omega) ?_
        intro b7 b7b
        refine hK 48 _ [vI (T 256 0 m), vI i] T ?_
        refine j_callS (y := yX11_isOf) (Yc := zX11_isOf) (rest := []) [vI i, vI (T 256 0 m)] (ct_X11_isOf (T := T) (by omega)) cl_X11_317 (qd_c (by decide +kernel)) (nn_ _) rfl (rf_of rfl) (Nat.le_of_ble_eq_true rfl) (Nat.le_of_ble_eq_true rfl) (Nat.le_of_ble_eq_true rfl) rfl ?_
        rintro _ _ ⟨rfl, x8, rfl, hx8⟩
        show J_ zX11_row T (po_X11_row T m i w) 0 0 51 _ [vI x8] T
        refine j_blx (F := fX11) tb_X11 (nn_ _) bk_X11_row_51 bs_X11_row_51 hz (fun K hK => ?_)
        refine And.intro (fun c9 => ?_) (fun c9 => ?_)
        · replace hx8 := hx8.resolve_right (fun z => c9 z.1)
          clear c9
          refine hK 57 _ [] T ?_
          have hry := hrx
          obtain ⟨L, hB, hR⟩ := hry
          have hl : lk_ T (T 253 0 m) (L m 0) ∧ T 254 0 m = ((L m 0).length : Int) := hB.1 m 0 (by omega) (by omega) (by decide) (by decide)
          have hl2 : lk_ T (T 255 0 m) (L m 1) ∧ T 256 0 m = ((L m 1).length : Int) := hB.1 m 1 (by omega) (by omega) (by decide) (by decide)
          refine j_blx (F := fX11) tb_X11 (nn_ _) bk_X11_row_57 bs_X11_row_57 hz (fun K hK => ?_)
          refine And.intro (fun c10 => ?_) (fun c10 => ?_)
          · refine hK 72 _ [vR 111 0] T ?_
            refine j_blx (F := fX11) tb_X11 (nn_ _) bk_X11_row_72 bs_X11_row_72 hz (fun K hK => ?_)
            refine ix_i (by omega) ?_
            intro b11 b11b
            refine hK 79 _ [vI i, vI (T 255 0 m), vR 111 0] T ?_
            refine j_callV (y := yX11_rowAt) (Yc := zX11_rowAt) (rest := []) [vI (T 255 0 m), vI i] (ct_X11_rowAt (T := T) (l := L m 1) (by exact hl2.1) (by omega)) cl_X11_456 (qd_c (by decide +kernel)) (nn_ _) rfl (rf_of rfl) (Nat.le_of_ble_eq_true rfl) (Nat.le_of_ble_eq_true rfl) (Nat.le_of_ble_eq_true rfl) rfl ?_
            rintro _ _ ⟨rfl, x12, rfl, hx12⟩
            show J_ zX11_row T (po_X11_row T m i w) 0 0 82 _ [vI x12] T
            refine j_blx (F := fX11) tb_X11 (nn_ _) bk_X11_row_82 bs_X11_row_82 hz (fun K hK => ?_)
            refine dv_i (by omega) ?_
            refine And.intro (fun c13 => ?_) (fun c13 => ?_)
            · refine hK 100 [some (vR 111 0), some (vI m), some (vI i), some (vI w), some (vI x12)] [] T ?_
              refine j_blx (F := fX11) tb_X11 (nn_ _) bk_X11_row_100 bs_X11_row_100 hz (fun K hK => ?_)
              refine dv_i (by omega) ?_
              refine And.intro (fun c14 => ?_) (fun c14 => ?_)
              · refine hK 117 _ [] T ?_
                refine j_blx (F := fX11) tb_X11 (nn_ _) bk_X11_row_117 bs_X11_row_117 hz (fun K hK => ?_)
                refine dv_i (by omega) ?_
                refine And.intro (fun c15 => ?_) (fun c15 => ?_)
                · refine hK 134 _ [] T ?_
                  refine j_blx (F := fX11) tb_X11 (nn_ _) bk_X11_row_134 bs_X11_row_134 hz (fun K hK => ?_)
                  refine ix_i (by omega) ?_
                  intro b16 b16b
                  refine (show po_X11_row T m i w T (some (vI (T 251 0 x12))) from ?_)
                  exact ⟨rfl, _, rfl, by rfl⟩
                · refine ix_i (by omega) ?_
                  intro b17 b17b
                  refine hK 141 _ [vI (T 250 0 x12)] T ?_
                  refine j_blx (F := fX11) tb_X11 (nn_ _) bk_X11_row_141 bs_X11_row_141 hz (fun K hK => ?_)
                  refine (show po_X11_row T m i w T (some (vI (T 250 0 x12))) from ?_)
                  exact ⟨rfl, _, rfl, by rfl⟩
              · refine ix_i (by omega) ?_
                intro b18 b18b
                refine hK 141 _ [vI (T 249 0 x12)] T ?_
                refine j_blx (F := fX11) tb_X11 (nn_ _) bk_X11_row_141 bs_X11_row_141 hz (fun K hK => ?_)
                refine (show po_X11_row T m i w T (some (vI (T 249 0 x12))) from ?_)
                exact ⟨rfl, _, rfl, by rfl⟩
            · refine ix_i (by omega) ?_
              intro b19 b19b
              refine hK 141 _ [vI (T 248 0 x12)] T ?_
              refine j_blx (F := fX11) tb_X11 (nn_ _) bk_X11_row_141 bs_X11_row_141 hz (fun K hK => ?_)
              refine (show po_X11_row T m i w T (some (vI (T 248 0 x12))) from ?_)
              exact ⟨rfl, _, rfl, by rfl⟩
          · refine ix_i (by omega) ?_
            intro b20 b20b
            refine hK 78 _ [vI (T 253 0 m), vR 111 0] T ?_
            refine j_blx (F := fX11) tb_X11 (nn_ _) bk_X11_row_78 bs_X11_row_78 hz (fun K hK => ?_)
            refine hK 79 _ [vI i, vI (T 253 0 m), vR 111 0] T ?_
            refine j_callV (y := yX11_rowAt) (Yc := zX11_rowAt) (rest := []) [vI (T 253 0 m), vI i] (ct_X11_rowAt (T := T) (l := L m 0) (by exact hl.1) (by omega)) cl_X11_456 (qd_c (by decide +kernel)) (nn_ _) rfl (rf_of rfl) (Nat.le_of_ble_eq_true rfl) (Nat.le_of_ble_eq_true rfl) (Nat.le_of_ble_eq_true rfl) rfl ?_
            rintro _ _ ⟨rfl, x21, rfl, hx21⟩
            show J_ zX11_row T (po_X11_row T m i w) 0 0 82 _ [vI x21] T
            refine j_blx (F := fX11) tb_X11 (nn_ _) bk_X11_row_82 bs_X11_row_82 hz (fun K hK => ?_)
            refine dv_i (by omega) ?_
            refine And.intro (fun c22 => ?_) (fun c22 => ?_)
            · refine hK 100 [some (vR 111 0), some (vI m), some (vI i), some (vI w), some (vI x21)] [] T ?_
              refine j_blx (F := fX11) tb_X11 (nn_ _) bk_X11_row_100 bs_X11_row_100 hz (fun K hK => ?_)
              refine dv_i (by omega) ?_
              refine And.intro (fun c23 => ?_) (fun c23 => ?_)
              · refine hK 117 _ [] T ?_
                refine j_blx (F := fX11) tb_X11 (nn_ _) bk_X11_row_117 bs_X11_row_117 hz (fun K hK => ?_)
                refine dv_i (by omega) ?_
                refine And.intro (fun c24 => ?_) (fun c24 => ?_)
                · refine hK 134 _ [] T ?_
                  refine j_blx (F := fX11) tb_X11 (nn_ _) bk_X11_row_134 bs_X11_row_134 hz (fun K hK => ?_)
                  refine ix_i (by omega) ?_
                  intro b25 b25b
                  refine (show po_X11_row T m i w T (some (vI (T 251 0 x21))) from ?_)
                  exact ⟨rfl, _, rfl, by rfl⟩
                · refine ix_i (by omega) ?_
                  intro b26 b26b
                  refine hK 141 _ [vI (T 250 0 x21)] T ?_
                  refine j_blx (F := fX11) tb_X11 (nn_ _) bk_X11_row_141 bs_X11_row_141 hz (fun K hK => ?_)
                  refine (show po_X11_row T m i w T (some (vI (T 250 0 x21))) from ?_)
                  exact ⟨rfl, _, rfl, by rfl⟩
              · refine ix_i (by omega) ?_
                intro b27 b27b
                refine hK 141 _ [vI (T 249 0 x21)] T ?_
                refine j_blx (F := fX11) tb_X11 (nn_ _) bk_X11_row_141 bs_X11_row_141 hz (fun K hK => ?_)
                refine (show po_X11_row T m i w T (some (vI (T 249 0 x21))) from ?_)
                exact ⟨rfl, _, rfl, by rfl⟩
            · refine ix_i (by omega) ?_
              intro b28 b28b
              refine hK 141 _ [vI (T 248 0 x21)] T ?_
              refine j_blx (F := fX11) tb_X11 (nn_ _) bk_X11_row_141 bs_X11_row_141 hz (fun K hK => ?_)
              refine (show po_X11_row T m i w T (some (vI (T 248 0 x21))) from ?_)
              exact ⟨rfl, _, rfl, by rfl⟩
        · replace hx8 := hx8.resolve_left (fun z => absurd (c9.symm.trans z.1) (by decide))
          clear c9
          refine (show po_X11_row T m i w T (some (vI (-2))) from ?_)
          exact ⟨rfl, _, rfl, by rfl⟩
      · refine ix_i (by omega) ?_
        intro b29 b29b
        refine hK 48 _ [vI (T 254 0 m), vI i] T ?_
        refine j_callS (y := yX11_isOf) (Yc := zX11_isOf) (rest := []) [vI i, vI (T 254 0 m)] (ct_X11_isOf (T := T) (by omega)) cl_X11_317 (qd_c (by decide +kernel)) (nn_ _) rfl (rf_of rfl) (Nat.le_of_ble_eq_true rfl) (Nat.le_of_ble_eq_true rfl) (Nat.le_of_ble_eq_true rfl) rfl ?_
        rintro _ _ ⟨rfl, x30, rfl, hx30⟩
        show J_ zX11_row T (po_X11_row T m i w) 0 0 51 _ [vI x30] T
        refine j_blx (F := fX11) tb_X11 (nn_ _) bk_X11_row_51 bs_X11_row_51 hz (fun K hK => ?_)
        refine And.intro (fun c31 => ?_) (fun c31 => ?_)
        · replace hx30 := hx30.resolve_right (fun z => c31 z.1)
          clear c31
          refine hK 57 _ [] T ?_
          have hry := hrx
          obtain ⟨L, hB, hR⟩ := hry
          have hl : lk_ T (T 253 0 m) (L m 0) ∧ T 254 0 m = ((L m 0).length : Int) := hB.1 m 0 (by omega) (by omega) (by decide) (by decide)
          have hl2 : lk_ T (T 255 0 m) (L m 1) ∧ T 256 0 m = ((L m 1).length : Int) := hB.1 m 1 (by omega) (by omega) (by decide) (by decide)
          refine j_blx (F := fX11) tb_X11 (nn_ _) bk_X11_row_57 bs_X11_row_57 hz (fun K hK => ?_)
          refine And.intro (fun c32 => ?_) (fun c32 => ?_)
          · refine hK 72 _ [vR 111 0] T ?_
            refine j_blx (F := fX11) tb_X11 (nn_ _) bk_X11_row_72 bs_X11_row_72 hz (fun K hK => ?_)
            refine ix_i (by omega) ?_
            intro b33 b33b
            refine hK 79 _ [vI i, vI (T 255 0 m), vR 111 0] T ?_
            refine j_callV (y := yX11_rowAt) (Yc := zX11_rowAt) (rest := []) [vI (T 255 0 m), vI i] (ct_X11_rowAt (T := T) (l := L m 1) (by exact hl2.1) (by omega)) cl_X11_456 (qd_c (by decide +kernel)) (nn_ _) rfl (rf_of rfl) (Nat.le_of_ble_eq_true rfl) (Nat.le_of_ble_eq_true rfl) (Nat.le_of_ble_eq_true rfl) rfl ?_
            rintro _ _ ⟨rfl, x34, rfl, hx34⟩
            show J_ zX11_row T (po_X11_row T m i w) 0 0 82 _ [vI x34] T
            refine j_blx (F := fX11) tb_X11 (nn_ _) bk_X11_row_82 bs_X11_row_82 hz (fun K hK => ?_)
            refine dv_i (by omega) ?_
            refine And.intro (fun c35 => ?_) (fun c35 => ?_)
            · refine hK 100 [some (vR 111 0), some (vI m), some (vI i), some (vI w), some (vI x34)] [] T ?_
              refine j_blx (F := fX11) tb_X11 (nn_ _) bk_X11_row_100 bs_X11_row_100 hz (fun K hK => ?_)
              refine dv_i (by omega) ?_
              refine And.intro (fun c36 => ?_) (fun c36 => ?_)
              · refine hK 117 _ [] T ?_
                refine j_blx (F := fX11) tb_X11 (nn_ _) bk_X11_row_117 bs_X11_row_117 hz (fun K hK => ?_)
                refine dv_i (by omega) ?_
                refine And.intro (fun c37 => ?_) (fun c37 => ?_)
                · refine hK 134 _ [] T ?_
                  refine j_blx (F := fX11) tb_X11 (nn_ _) bk_X11_row_134 bs_X11_row_134 hz (fun K hK => ?_)
                  refine ix_i (by omega) ?_
                  intro b38 b38b
                  refine (show po_X11_row T m i w T (some (vI (T 251 0 x34))) from ?_)
                  exact ⟨rfl, _, rfl, by rfl⟩
                · refine ix_i (by omega) ?_
                  intro b39 b39b
                  refine hK 141 _ [vI (T 250 0 x34)] T ?_
                  refine j_blx (F := fX11) tb_X11 (nn_ _) bk_X11_row_141 bs_X11_row_141 hz (fun K hK => ?_)
                  refine (show po_X11_row T m i w T (some (vI (T 250 0 x34))) from ?_)
                  exact ⟨rfl, _, rfl, by rfl⟩
              · refine ix_i (by omega) ?_
                intro b40 b40b
                refine hK 141 _ [vI (T 249 0 x34)] T ?_
                refine j_blx (F := fX11) tb_X11 (nn_ _) bk_X11_row_141 bs_X11_row_141 hz (fun K hK => ?_)
                refine (show po_X11_row T m i w T (some (vI (T 249 0 x34))) from ?_)
                exact ⟨rfl, _, rfl, by rfl⟩
            · refine ix_i (by omega) ?_
              intro b41 b41b
              refine hK 141 _ [vI (T 248 0 x34)] T ?_
              refine j_blx (F := fX11) tb_X11 (nn_ _) bk_X11_row_141 bs_X11_row_141 hz (fun K hK => ?_)
              refine (show po_X11_row T m i w T (some (vI (T 248 0 x34))) from ?_)
              exact ⟨rfl, _, rfl, by rfl⟩
          · refine ix_i (by omega) ?_
            intro b42 b42b
            refine hK 78 _ [vI (T 253 0 m), vR 111 0] T ?_
            refine j_blx (F := fX11) tb_X11 (nn_ _) bk_X11_row_78 bs_X11_row_78 hz (fun K hK => ?_)
            refine hK 79 _ [vI i, vI (T 253 0 m), vR 111 0] T ?_
            refine j_callV (y := yX11_rowAt) (Yc := zX11_rowAt) (rest := []) [vI (T 253 0 m), vI i] (ct_X11_rowAt (T := T) (l := L m 0) (by exact hl.1) (by omega)) cl_X11_456 (qd_c (by decide +kernel)) (nn_ _) rfl (rf_of rfl) (Nat.le_of_ble_eq_true rfl) (Nat.le_of_ble_eq_true rfl) (Nat.le_of_ble_eq_true rfl) rfl ?_
            rintro _ _ ⟨rfl, x43, rfl, hx43⟩
            show J_ zX11_row T (po_X11_row T m i w) 0 0 82 _ [vI x43] T
            refine j_blx (F := fX11) tb_X11 (nn_ _) bk_X11_row_82 bs_X11_row_82 hz (fun K hK => ?_)
            refine dv_i (by omega) ?_
            refine And.intro (fun c44 => ?_) (fun c44 => ?_)
            · refine hK 100 [some (vR 111 0), some (vI m), some (vI i), some (vI w), some (vI x43)] [] T ?_
              refine j_blx (F := fX11) tb_X11 (nn_ _) bk_X11_row_100 bs_X11_row_100 hz (fun K hK => ?_)
              refine dv_i (by omega) ?_
              refine And.intro (fun c45 => ?_) (fun c45 => ?_)
              · refine hK 117 _ [] T ?_
                refine j_blx (F := fX11) tb_X11 (nn_ _) bk_X11_row_117 bs_X11_row_117 hz (fun K hK => ?_)
                refine dv_i (by omega) ?_
                refine And.intro (fun c46 => ?_) (fun c46 => ?_)
                · refine hK 134 _ [] T ?_
                  refine j_blx (F := fX11) tb_X11 (nn_ _) bk_X11_row_134 bs_X11_row_134 hz (fun K hK => ?_)
                  refine ix_i (by omega) ?_
                  intro b47 b47b
                  refine (show po_X11_row T m i w T (some (vI (T 251 0 x43))) from ?_)
                  exact ⟨rfl, _, rfl, by rfl⟩
                · refine ix_i (by omega) ?_
                  intro b48 b48b
                  refine hK 141 _ [vI (T 250 0 x43)] T ?_
                  refine j_blx (F := fX11) tb_X11 (nn_ _) bk_X11_row_141 bs_X11_row_141 hz (fun K hK => ?_)
                  refine (show po_X11_row T m i w T (some (vI (T 250 0 x43))) from ?_)
                  exact ⟨rfl, _, rfl, by rfl⟩
              · refine ix_i (by omega) ?_
                intro b49 b49b
                refine hK 141 _ [vI (T 249 0 x43)] T ?_
                refine j_blx (F := fX11) tb_X11 (nn_ _) bk_X11_row_141 bs_X11_row_141 hz (fun K hK => ?_)
                refine (show po_X11_row T m i w T (some (vI (T 249 0 x43))) from ?_)
                exact ⟨rfl, _, rfl, by rfl⟩
            · refine ix_i (by omega) ?_
              intro b50 b50b
              refine hK 141 _ [vI (T 248 0 x43)] T ?_
              refine j_blx (F := fX11) tb_X11 (nn_ _) bk_X11_row_141 bs_X11_row_141 hz (fun K hK => ?_)
              refine (show po_X11_row T m i w T (some (vI (T 248 0 x43))) from ?_)
              exact ⟨rfl, _, rfl, by rfl⟩
        · replace hx30 := hx30.resolve_left (fun z => absurd (c31.symm.trans z.1) (by decide))
          clear c31
          refine (show po_X11_row T m i w T (some (vI (-2))) from ?_)
          exact ⟨rfl, _, rfl, by rfl⟩
    · replace hx4 := hx4.resolve_left (fun z => absurd (c5.symm.trans z.1) (by decide))
      clear c5
      refine (show po_X11_row T m i w T (some (vI (-3))) from ?_)
      exact ⟨rfl, _, rfl, by rfl⟩
  · replace hx2 := hx2.resolve_left (fun z => absurd (c3.symm.trans z.1) (by decide))
    clear c3
    refine (show po_X11_row T m i w T (some (vI (-2))) from ?_)
    exact ⟨rfl, _, rfl, by rfl⟩
abbrev cX11_rows : ByteArray := prog_13_method_77_code
def yX11_rows : MethodName := ⟨RX11, "rows", "(II)I"⟩
def zX11_rows : Zm := (RX11, cX11_rows, 3, (some .int), { frames := 2, cells := 0, slots := 0, locals := 43 })
abbrev cX11_state : ByteArray := prog_13_method_79_code
def yX11_state : MethodName := ⟨RX11, "state", "(II)I"⟩
def zX11_state : Zm := (RX11, cX11_state, 3, (some .int), { frames := 2, cells := 0, slots := 0, locals := 43 })
abbrev cX11_onField : ByteArray := prog_13_method_80_code
def yX11_onField : MethodName := ⟨RX11, "onField", "(III)I"⟩
def zX11_onField : Zm := (RX11, cX11_onField, 5, (some .int), { frames := 2, cells := 0, slots := 0, locals := 43 })
