abbrev cX11_in : ByteArray := prog_13_method_3_code
def yX11_in : MethodName := ⟨RX11, "in", "(III)Z"⟩
def zX11_in : Zm := (RX11, cX11_in, 3, (some .boolean), { frames := 0, cells := 0, slots := 0, locals := 0 })
theorem bk_X11_in_0 : ck_ fX11 (some .boolean) cX11_in 0 [.iload 0, .iload 1, .if_icmp .lt 14, .iload 0, .iload 2, .if_icmp .gt 14, .iconst 1, .goto 15] 14 = true := qck_r (by decide) (by decide +kernel)
theorem bs_X11_in_0 {P : Zt → Option Zv → Prop} (K : Int → Zl → List Zv → Zt → Prop) : sx_ K P [.iload 0, .iload 1, .if_icmp .lt 14, .iload 0, .iload 2, .if_icmp .gt 14, .iconst 1, .goto 15] 14 = x_iload 0 (x_iload 1 (x_if_icmp .lt 14 K (x_iload 0 (x_iload 2 (x_if_icmp .gt 14 K (x_iconst 1 (x_goto 15 K))))))) := ((xe_iload 0).trans (congrArg (x_iload 0) ((xe_iload 1).trans (congrArg (x_iload 1) ((xe_if_icmp .lt 14).trans (congrArg (x_if_icmp .lt 14 K) ((xe_iload 0).trans (congrArg (x_iload 0) ((xe_iload 2).trans (congrArg (x_iload 2) ((xe_if_icmp .gt 14).trans (congrArg (x_if_icmp .gt 14 K) ((xe_iconst 1).trans (congrArg (x_iconst 1) (xe_goto 15)))))))))))))))
theorem bk_X11_in_14 : ck_ fX11 (some .boolean) cX11_in 14 [.iconst 0, .ireturn] 16 = true := qck_r (by decide) (by decide +kernel)
theorem bs_X11_in_14 {P : Zt → Option Zv → Prop} (K : Int → Zl → List Zv → Zt → Prop) : sx_ K P [.iconst 0, .ireturn] 16 = x_iconst 0 (x_ireturn P) := ((xe_iconst 0).trans (congrArg (x_iconst 0) (xe_ireturn)))
theorem bk_X11_in_15 : ck_ fX11 (some .boolean) cX11_in 15 [.ireturn] 16 = true := qck_r (by decide) (by decide +kernel)
theorem bs_X11_in_15 {P : Zt → Option Zv → Prop} (K : Int → Zl → List Zv → Zt → Prop) : sx_ K P [.ireturn] 16 = x_ireturn P := (xe_ireturn)
abbrev po_X11_in (T : Zt) (v lo hi : Int) : Zt → Option Zv → Prop := fun T' r => T = T' ∧ ∃ x : Int, r = some (vI x) ∧ (x = 1 ∧ lo ≤ v ∧ v ≤ hi ∨ x = 0 ∧ ¬ (lo ≤ v ∧ v ≤ hi))
set_option maxHeartbeats 4000000 in
theorem ct_X11_in {T : Zt} {v lo hi : Int} : Ct_ yX11_in zX11_in T [vI v, vI lo, vI hi] (po_X11_in T v lo hi) := by
  refine ct_of (by decide) rfl rfl (Nat.le_of_ble_eq_true rfl) (fun hT hav => ?_)
  have hr_v : -2147483648 ≤ v ∧ v ≤ 2147483647 := hav (vI v) (by simp)
  have hr_lo : -2147483648 ≤ lo ∧ lo ≤ 2147483647 := hav (vI lo) (by simp)
  have hr_hi : -2147483648 ≤ hi ∧ hi ≤ 2147483647 := hav (vI hi) (by simp)
  have hz : zX11_in.2.2.2.1 = some .boolean → ∀ (T' : Zt) (x : Int), po_X11_in T v lo hi T' (some (vI x)) → 0 ≤ x ∧ x ≤ 1 := fun _ T' x h => by obtain ⟨-, y, e, hy⟩ := h; cases e; omega
  show J_ zX11_in T (po_X11_in T v lo hi) 0 0 0 [some (vI v), some (vI lo), some (vI hi)] [] T
  refine j_blx (F := fX11) tb_X11 (by decide) bk_X11_in_0 bs_X11_in_0 hz (fun K hK => ?_)
  refine And.intro (fun c1 => ?_) (fun c1 => ?_)
  · refine hK 14 [some (vI v), some (vI lo), some (vI hi)] [] T ?_
    refine j_blx (F := fX11) tb_X11 (by decide) bk_X11_in_14 bs_X11_in_14 hz (fun K hK => ?_)
    refine (show po_X11_in T v lo hi T (some (vI 0)) from ?_)
    exact ⟨rfl, _, rfl, by omega⟩
  · refine And.intro (fun c2 => ?_) (fun c2 => ?_)
    · refine hK 14 [some (vI v), some (vI lo), some (vI hi)] [] T ?_
      refine j_blx (F := fX11) tb_X11 (by decide) bk_X11_in_14 bs_X11_in_14 hz (fun K hK => ?_)
      refine (show po_X11_in T v lo hi T (some (vI 0)) from ?_)
      exact ⟨rfl, _, rfl, by omega⟩
    · refine hK 15 [some (vI v), some (vI lo), some (vI hi)] [vI 1] T ?_
      refine j_blx (F := fX11) tb_X11 (by decide) bk_X11_in_15 bs_X11_in_15 hz (fun K hK => ?_)
      refine (show po_X11_in T v lo hi T (some (vI 1)) from ?_)
      exact ⟨rfl, _, rfl, by omega⟩
abbrev cX11_isOf : ByteArray := prog_13_method_4_code
def yX11_isOf : MethodName := ⟨RX11, "isOf", "(II)Z"⟩
def zX11_isOf : Zm := (RX11, cX11_isOf, 2, (some .boolean), { frames := 1, cells := 0, slots := 0, locals := 22 })
theorem bk_X11_isOf_0 : ck_ fX11 (some .boolean) cX11_isOf 0 [.iload 0, .iconst 0, .iload 1, .iconst 1, .isub] 5 = true := qck_r (by decide) (by decide +kernel)
theorem bs_X11_isOf_0 {P : Zt → Option Zv → Prop} (K : Int → Zl → List Zv → Zt → Prop) : sx_ K P [.iload 0, .iconst 0, .iload 1, .iconst 1, .isub] 5 = x_iload 0 (x_iconst 0 (x_iload 1 (x_iconst 1 (x_isub (K 5))))) := ((xe_iload 0).trans (congrArg (x_iload 0) ((xe_iconst 0).trans (congrArg (x_iconst 0) ((xe_iload 1).trans (congrArg (x_iload 1) ((xe_iconst 1).trans (congrArg (x_iconst 1) ((xe_isub).trans (congrArg (x_isub) xe_nil))))))))))
set_option maxRecDepth 100000 in
theorem cl_X11_255 : cs_ RX11 255 yX11_in zX11_in 3 := ⟨gi_S (lw_b8 95 (by decide +kernel) rfl : Cond.methodLink RX11 255 yX11_in ∈ lw_g) (lw_b8 96 (by decide +kernel) rfl : Cond.static yX11_in ∈ lw_g) (lw_b1 10 (by decide +kernel) rfl : Cond.initialized yX11_in.cls ∈ lw_g) (lw_b8 97 rfl rfl : Cond.code yX11_in cX11_in 3 (some .boolean) ∈ lw_g), ⟨by decide, by decide, by decide +kernel⟩⟩
theorem bk_X11_isOf_8 : ck_ fX11 (some .boolean) cX11_isOf 8 [.ireturn] 9 = true := qck_r (by decide) (by decide +kernel)
theorem bs_X11_isOf_8 {P : Zt → Option Zv → Prop} (K : Int → Zl → List Zv → Zt → Prop) : sx_ K P [.ireturn] 9 = x_ireturn P := (xe_ireturn)
abbrev po_X11_isOf (T : Zt) (v n : Int) : Zt → Option Zv → Prop := fun T' r => T = T' ∧ ∃ x : Int, r = some (vI x) ∧ (x = 1 ∧ 0 ≤ v ∧ v < n ∨ x = 0 ∧ ¬ (0 ≤ v ∧ v < n))
set_option maxHeartbeats 4000000 in
theorem ct_X11_isOf {T : Zt} {v n : Int} (hn : -1 ≤ n) : Ct_ yX11_isOf zX11_isOf T [vI v, vI n] (po_X11_isOf T v n) := by
  refine ct_of (by decide) rfl rfl (Nat.le_of_ble_eq_true rfl) (fun hT hav => ?_)
  have hr_v : -2147483648 ≤ v ∧ v ≤ 2147483647 := hav (vI v) (by simp)
  have hr_n : -2147483648 ≤ n ∧ n ≤ 2147483647 := hav (vI n) (by simp)
  have hz : zX11_isOf.2.2.2.1 = some .boolean → ∀ (T' : Zt) (x : Int), po_X11_isOf T v n T' (some (vI x)) → 0 ≤ x ∧ x ≤ 1 := fun _ T' x h => by obtain ⟨-, y, e, hy⟩ := h; cases e; omega
  show J_ zX11_isOf T (po_X11_isOf T v n) 0 0 0 [some (vI v), some (vI n)] [] T
  refine j_blx (F := fX11) tb_X11 (by decide) bk_X11_isOf_0 bs_X11_isOf_0 hz (fun K hK => ?_)
  refine rg_i (by omega) ?_
  refine hK 5 [some (vI v), some (vI n)] [vI (n - 1), vI 0, vI v] T ?_
  refine j_callS (y := yX11_in) (Yc := zX11_in) (rest := []) [vI v, vI 0, vI (n - 1)] (ct_X11_in (T := T)) cl_X11_255 (qd_c (by decide +kernel)) (by decide) rfl (by decide +kernel) (Nat.le_of_ble_eq_true rfl) (by decide) (by decide) rfl ?_
  rintro _ _ ⟨rfl, x1, rfl, hx1⟩
  show J_ zX11_isOf T (po_X11_isOf T v n) 0 0 8 [some (vI v), some (vI n)] [vI x1] T
  refine j_blx (F := fX11) tb_X11 (by decide) bk_X11_isOf_8 bs_X11_isOf_8 hz (fun K hK => ?_)
  refine (show po_X11_isOf T v n T (some (vI x1)) from ?_)
  exact ⟨rfl, _, rfl, by omega⟩
abbrev cX11_isLetter : ByteArray := prog_13_method_9_code
def yX11_isLetter : MethodName := ⟨RX11, "isLetter", "(I)Z"⟩
def zX11_isLetter : Zm := (RX11, cX11_isLetter, 1, (some .boolean), { frames := 1, cells := 0, slots := 0, locals := 22 })
theorem bk_X11_isLetter_0 : ck_ fX11 (some .boolean) cX11_isLetter 0 [.iload 0, .iconst 97, .iconst 122] 5 = true := qck_r (by decide) (by decide +kernel)
theorem bs_X11_isLetter_0 {P : Zt → Option Zv → Prop} (K : Int → Zl → List Zv → Zt → Prop) : sx_ K P [.iload 0, .iconst 97, .iconst 122] 5 = x_iload 0 (x_iconst 97 (x_iconst 122 (K 5))) := ((xe_iload 0).trans (congrArg (x_iload 0) ((xe_iconst 97).trans (congrArg (x_iconst 97) ((xe_iconst 122).trans (congrArg (x_iconst 122) xe_nil))))))
theorem bk_X11_isLetter_8 : ck_ fX11 (some .boolean) cX11_isLetter 8 [.ireturn] 9 = true := qck_r (by decide) (by decide +kernel)
theorem bs_X11_isLetter_8 {P : Zt → Option Zv → Prop} (K : Int → Zl → List Zv → Zt → Prop) : sx_ K P [.ireturn] 9 = x_ireturn P := (xe_ireturn)
abbrev po_X11_isLetter (T : Zt) (c : Int) : Zt → Option Zv → Prop := fun T' r => T = T' ∧ ∃ x : Int, r = some (vI x) ∧ (x = 1 ∧ 97 ≤ c ∧ c ≤ 122 ∨ x = 0 ∧ ¬ (97 ≤ c ∧ c ≤ 122))
set_option maxHeartbeats 4000000 in
theorem ct_X11_isLetter {T : Zt} {c : Int} : Ct_ yX11_isLetter zX11_isLetter T [vI c] (po_X11_isLetter T c) := by
  refine ct_of (by decide) rfl rfl (Nat.le_of_ble_eq_true rfl) (fun hT hav => ?_)
  have hr_c : -2147483648 ≤ c ∧ c ≤ 2147483647 := hav (vI c) (by simp)
  have hz : zX11_isLetter.2.2.2.1 = some .boolean → ∀ (T' : Zt) (x : Int), po_X11_isLetter T c T' (some (vI x)) → 0 ≤ x ∧ x ≤ 1 := fun _ T' x h => by obtain ⟨-, y, e, hy⟩ := h; cases e; omega
  show J_ zX11_isLetter T (po_X11_isLetter T c) 0 0 0 [some (vI c)] [] T
  refine j_blx (F := fX11) tb_X11 (by decide) bk_X11_isLetter_0 bs_X11_isLetter_0 hz (fun K hK => ?_)
  refine hK 5 [some (vI c)] [vI 122, vI 97, vI c] T ?_
  refine j_callS (y := yX11_in) (Yc := zX11_in) (rest := []) [vI c, vI 97, vI 122] (ct_X11_in (T := T)) cl_X11_255 (qd_c (by decide +kernel)) (by decide) rfl (by decide +kernel) (Nat.le_of_ble_eq_true rfl) (by decide) (by decide) rfl ?_
  rintro _ _ ⟨rfl, x1, rfl, hx1⟩
  show J_ zX11_isLetter T (po_X11_isLetter T c) 0 0 8 [some (vI c)] [vI x1] T
  refine j_blx (F := fX11) tb_X11 (by decide) bk_X11_isLetter_8 bs_X11_isLetter_8 hz (fun K hK => ?_)
  refine (show po_X11_isLetter T c T (some (vI x1)) from ?_)
  exact ⟨rfl, _, rfl, by omega⟩
abbrev cX11_isDigit : ByteArray := prog_13_method_10_code
def yX11_isDigit : MethodName := ⟨RX11, "isDigit", "(I)Z"⟩
def zX11_isDigit : Zm := (RX11, cX11_isDigit, 1, (some .boolean), { frames := 1, cells := 0, slots := 0, locals := 22 })
theorem bk_X11_isDigit_0 : ck_ fX11 (some .boolean) cX11_isDigit 0 [.iload 0, .iconst 48, .iconst 57] 5 = true := qck_r (by decide) (by decide +kernel)
theorem bs_X11_isDigit_0 {P : Zt → Option Zv → Prop} (K : Int → Zl → List Zv → Zt → Prop) : sx_ K P [.iload 0, .iconst 48, .iconst 57] 5 = x_iload 0 (x_iconst 48 (x_iconst 57 (K 5))) := ((xe_iload 0).trans (congrArg (x_iload 0) ((xe_iconst 48).trans (congrArg (x_iconst 48) ((xe_iconst 57).trans (congrArg (x_iconst 57) xe_nil))))))
theorem bk_X11_isDigit_8 : ck_ fX11 (some .boolean) cX11_isDigit 8 [.ireturn] 9 = true := qck_r (by decide) (by decide +kernel)
theorem bs_X11_isDigit_8 {P : Zt → Option Zv → Prop} (K : Int → Zl → List Zv → Zt → Prop) : sx_ K P [.ireturn] 9 = x_ireturn P := (xe_ireturn)
abbrev po_X11_isDigit (T : Zt) (c : Int) : Zt → Option Zv → Prop := fun T' r => T = T' ∧ ∃ x : Int, r = some (vI x) ∧ (x = 1 ∧ 48 ≤ c ∧ c ≤ 57 ∨ x = 0 ∧ ¬ (48 ≤ c ∧ c ≤ 57))
set_option maxHeartbeats 4000000 in
theorem ct_X11_isDigit {T : Zt} {c : Int} : Ct_ yX11_isDigit zX11_isDigit T [vI c] (po_X11_isDigit T c) := by
  refine ct_of (by decide) rfl rfl (Nat.le_of_ble_eq_true rfl) (fun hT hav => ?_)
  have hr_c : -2147483648 ≤ c ∧ c ≤ 2147483647 := hav (vI c) (by simp)
  have hz : zX11_isDigit.2.2.2.1 = some .boolean → ∀ (T' : Zt) (x : Int), po_X11_isDigit T c T' (some (vI x)) → 0 ≤ x ∧ x ≤ 1 := fun _ T' x h => by obtain ⟨-, y, e, hy⟩ := h; cases e; omega
  show J_ zX11_isDigit T (po_X11_isDigit T c) 0 0 0 [some (vI c)] [] T
  refine j_blx (F := fX11) tb_X11 (by decide) bk_X11_isDigit_0 bs_X11_isDigit_0 hz (fun K hK => ?_)
  refine hK 5 [some (vI c)] [vI 57, vI 48, vI c] T ?_
  refine j_callS (y := yX11_in) (Yc := zX11_in) (rest := []) [vI c, vI 48, vI 57] (ct_X11_in (T := T)) cl_X11_255 (qd_c (by decide +kernel)) (by decide) rfl (by decide +kernel) (Nat.le_of_ble_eq_true rfl) (by decide) (by decide) rfl ?_
  rintro _ _ ⟨rfl, x1, rfl, hx1⟩
  show J_ zX11_isDigit T (po_X11_isDigit T c) 0 0 8 [some (vI c)] [vI x1] T
  refine j_blx (F := fX11) tb_X11 (by decide) bk_X11_isDigit_8 bs_X11_isDigit_8 hz (fun K hK => ?_)
  refine (show po_X11_isDigit T c T (some (vI x1)) from ?_)
  exact ⟨rfl, _, rfl, by omega⟩
abbrev cX11_rule0 : ByteArray := prog_13_method_5_code
def yX11_rule0 : MethodName := ⟨RX11, "rule0", "(II)I"⟩
def zX11_rule0 : Zm := (RX11, cX11_rule0, 3, (some .int), { frames := 0, cells := 0, slots := 0, locals := 0 })
theorem bk_X11_rule0_0 : ck_ fX11 (some .int) cX11_rule0 0 [.aload 0, .tableswitch 0 11 5 #[], .iconst 23, .iload 1, .imul, .iload 2, .iadd, .iaload, .ireturn] 12 = true := qck_r (by decide) (by decide +kernel)
theorem bs_X11_rule0_0 {P : Zt → Option Zv → Prop} (K : Int → Zl → List Zv → Zt → Prop) : sx_ K P [.aload 0, .tableswitch 0 11 5 #[], .iconst 23, .iload 1, .imul, .iload 2, .iadd, .iaload, .ireturn] 12 = x_aload 0 (x_g1 111 205 (x_iconst 23 (x_iload 1 (x_imul (x_iload 2 (x_iadd (x_iaload (x_ireturn P)))))))) := ((xe_aload 0).trans (congrArg (x_aload 0) ((xe_g1 (kk := 111) rfl tl_11_5).trans (congrArg (x_g1 111 205) ((xe_iconst 23).trans (congrArg (x_iconst 23) ((xe_iload 1).trans (congrArg (x_iload 1) ((xe_imul).trans (congrArg (x_imul) ((xe_iload 2).trans (congrArg (x_iload 2) ((xe_iadd).trans (congrArg (x_iadd) ((xe_iaload).trans (congrArg (x_iaload) (xe_ireturn)))))))))))))))))
abbrev po_X11_rule0 (T : Zt) (c w : Int) : Zt → Option Zv → Prop := fun T' r => T = T' ∧ r = some (vI (T 205 0 (23 * c + w)))
set_option maxHeartbeats 4000000 in
theorem ct_X11_rule0 {T : Zt} {c w : Int} (h1 : 0 ≤ c ∧ c < 4) (h2 : 0 ≤ w ∧ w < 23) : Ct_ yX11_rule0 zX11_rule0 T [vR 111 0, vI c, vI w] (po_X11_rule0 T c w) := by
  refine ct_of (by decide) rfl rfl (Nat.le_of_ble_eq_true rfl) (fun hT hav => ?_)
  have hr_c : -2147483648 ≤ c ∧ c ≤ 2147483647 := hav (vI c) (by simp)
  have hr_w : -2147483648 ≤ w ∧ w ≤ 2147483647 := hav (vI w) (by simp)
  have hz : zX11_rule0.2.2.2.1 = some .boolean → ∀ (T' : Zt) (x : Int), po_X11_rule0 T c w T' (some (vI x)) → 0 ≤ x ∧ x ≤ 1 := fun h => by cases h
  show J_ zX11_rule0 T (po_X11_rule0 T c w) 0 0 0 [some (vR 111 0), some (vI c), some (vI w)] [] T
  refine j_blx (F := fX11) tb_X11 (by decide) bk_X11_rule0_0 bs_X11_rule0_0 hz (fun K hK => ?_)
  refine rg_i (by omega) ?_
  refine rg_i (by omega) ?_
  refine ix_i (by omega) ?_
  intro b1 b1b
  refine (show po_X11_rule0 T c w T (some (vI (T 205 0 ((23 * c) + w)))) from ?_)
  exact ⟨rfl, rfl⟩
abbrev cX11_liveOf : ByteArray := prog_13_method_50_code
def yX11_liveOf : MethodName := ⟨RX11, "liveOf", "(II)I"⟩
def zX11_liveOf : Zm := (RX11, cX11_liveOf, 3, (some .int), { frames := 0, cells := 0, slots := 0, locals := 0 })
theorem bk_X11_liveOf_0 : ck_ fX11 (some .int) cX11_liveOf 0 [.aload 0, .tableswitch 0 11 46 #[], .iconst 8, .iload 1, .imul, .iload 2, .iadd, .iaload, .ireturn] 12 = true := qck_r (by decide) (by decide +kernel)
theorem bs_X11_liveOf_0 {P : Zt → Option Zv → Prop} (K : Int → Zl → List Zv → Zt → Prop) : sx_ K P [.aload 0, .tableswitch 0 11 46 #[], .iconst 8, .iload 1, .imul, .iload 2, .iadd, .iaload, .ireturn] 12 = x_aload 0 (x_g1 111 246 (x_iconst 8 (x_iload 1 (x_imul (x_iload 2 (x_iadd (x_iaload (x_ireturn P)))))))) := ((xe_aload 0).trans (congrArg (x_aload 0) ((xe_g1 (kk := 111) rfl tl_11_46).trans (congrArg (x_g1 111 246) ((xe_iconst 8).trans (congrArg (x_iconst 8) ((xe_iload 1).trans (congrArg (x_iload 1) ((xe_imul).trans (congrArg (x_imul) ((xe_iload 2).trans (congrArg (x_iload 2) ((xe_iadd).trans (congrArg (x_iadd) ((xe_iaload).trans (congrArg (x_iaload) (xe_ireturn)))))))))))))))))
abbrev po_X11_liveOf (T : Zt) (m k : Int) : Zt → Option Zv → Prop := fun T' r => T = T' ∧ r = some (vI (T 246 0 (8 * m + k)))
set_option maxHeartbeats 4000000 in
theorem ct_X11_liveOf {T : Zt} {m k : Int} (h1 : 0 ≤ m ∧ m < 400) (h2 : 0 ≤ k ∧ k < 8) : Ct_ yX11_liveOf zX11_liveOf T [vR 111 0, vI m, vI k] (po_X11_liveOf T m k) := by
  refine ct_of (by decide) rfl rfl (Nat.le_of_ble_eq_true rfl) (fun hT hav => ?_)
  have hr_m : -2147483648 ≤ m ∧ m ≤ 2147483647 := hav (vI m) (by simp)
  have hr_k : -2147483648 ≤ k ∧ k ≤ 2147483647 := hav (vI k) (by simp)
  have hz : zX11_liveOf.2.2.2.1 = some .boolean → ∀ (T' : Zt) (x : Int), po_X11_liveOf T m k T' (some (vI x)) → 0 ≤ x ∧ x ≤ 1 := fun h => by cases h
  show J_ zX11_liveOf T (po_X11_liveOf T m k) 0 0 0 [some (vR 111 0), some (vI m), some (vI k)] [] T
  refine j_blx (F := fX11) tb_X11 (by decide) bk_X11_liveOf_0 bs_X11_liveOf_0 hz (fun K hK => ?_)
  refine rg_i (by omega) ?_
  refine rg_i (by omega) ?_
  refine ix_i (by omega) ?_
  intro b1 b1b
  refine (show po_X11_liveOf T m k T (some (vI (T 246 0 ((8 * m) + k)))) from ?_)
  exact ⟨rfl, rfl⟩
abbrev cX11_wipe : ByteArray := prog_13_method_7_code
def yX11_wipe : MethodName := ⟨RX11, "wipe", "()I"⟩
def zX11_wipe : Zm := (RX11, cX11_wipe, 2, (some .int), { frames := 0, cells := 0, slots := 0, locals := 0 })
theorem bk_X11_wipe_0 : ck_ fX11 (some .int) cX11_wipe 0 [.aload 0, .tableswitch 0 11 1 #[], .istore 1, .aload 0, .iconst 0, .tableswitch 1 11 1 #[], .iload 1, .ireturn] 12 = true := qck_r (by decide) (by decide +kernel)
theorem bs_X11_wipe_0 {P : Zt → Option Zv → Prop} (K : Int → Zl → List Zv → Zt → Prop) : sx_ K P [.aload 0, .tableswitch 0 11 1 #[], .istore 1, .aload 0, .iconst 0, .tableswitch 1 11 1 #[], .iload 1, .ireturn] 12 = x_aload 0 (x_g0 111 1 0 400 (x_istore 1 (x_aload 0 (x_iconst 0 (x_p 111 1 0 400 (x_iload 1 (x_ireturn P))))))) := ((xe_aload 0).trans (congrArg (x_aload 0) ((xe_g0 (kk := 111) rfl tl_11_1).trans (congrArg (x_g0 111 1 0 400) ((xe_istore 1).trans (congrArg (x_istore 1) ((xe_aload 0).trans (congrArg (x_aload 0) ((xe_iconst 0).trans (congrArg (x_iconst 0) ((xe_p (kk := 111) rfl tl_11_1).trans (congrArg (x_p 111 1 0 400) ((xe_iload 1).trans (congrArg (x_iload 1) (xe_ireturn)))))))))))))))
abbrev po_X11_wipe (T : Zt) : Zt → Option Zv → Prop := fun T' r => ∃ x : Int, r = some (vI x) ∧ fr_ [(111, [1])] T T' ∧ (T' 111 0 1 = 0 ∧ x = T 111 0 1)
set_option maxHeartbeats 4000000 in
theorem ct_X11_wipe {T : Zt} : Ct_ yX11_wipe zX11_wipe T [vR 111 0] (po_X11_wipe T) := by
  refine ct_of (by decide) rfl rfl (Nat.le_of_ble_eq_true rfl) (fun hT hav => ?_)
  have hz : zX11_wipe.2.2.2.1 = some .boolean → ∀ (T' : Zt) (x : Int), po_X11_wipe T T' (some (vI x)) → 0 ≤ x ∧ x ≤ 1 := fun h => by cases h
  show J_ zX11_wipe T (po_X11_wipe T) 0 0 0 [some (vR 111 0), none] [] T
  refine j_blx (F := fX11) tb_X11 (by decide) bk_X11_wipe_0 bs_X11_wipe_0 hz (fun K hK => ?_)
  intro b1 b1b
  refine bd_i (by omega) ?_
  refine x_nm (fun U2 hU2 => ?_)
  have e3 := up_f hU2
  refine (show po_X11_wipe T U2 (some (vI (T 111 0 1))) from ?_)
  have e4 : U2 111 0 1 = 0 := up_f hU2
  exact ⟨_, rfl, fr_u (fr_0 _ _) hU2 rfl, by exact ⟨by omega, rfl⟩⟩
abbrev cX11_sign : ByteArray := prog_13_method_6_code
def yX11_sign : MethodName := ⟨RX11, "sign", "(I)I"⟩
def zX11_sign : Zm := (RX11, cX11_sign, 2, (some .int), { frames := 1, cells := 0, slots := 0, locals := 22 })
abbrev po_X11_sign (T : Zt) (c : Int) : Zt → Option Zv → Prop := fun T' r => ∃ x : Int, r = some (vI x) ∧ fr_ [(111, [1]), (200, [])] T T' ∧ ((x = -3 ∧ T' 111 0 1 = T 111 0 1 ∧ ¬ (c = 10 ∨ 32 ≤ c ∧ c ≤ 126)) ∨ ((c = 10 ∨ 32 ≤ c ∧ c ≤ 126) ∧ (T 111 0 1 = 400 ∧ x = -5 ∧ T' 111 0 1 = 400 ∨ T 111 0 1 < 400 ∧ x = T 111 0 1 + 1 ∧ T' 111 0 1 = x)))
