abbrev cX10_isBelow : ByteArray := prog_1_method_51_code
def yX10_isBelow : MethodName := ⟨RX10, "isBelow", "(II)Z"⟩
def zX10_isBelow : Zm := (RX10, cX10_isBelow, 2, (some .boolean), { frames := 0, cells := 0, slots := 0, locals := 0 })
theorem bk_X10_isBelow_0 : ck_ fX10 (some .boolean) cX10_isBelow 0 [.iload 0, .ifCond .lt 13, .iload 0, .iload 1, .if_icmp .ge 13, .iconst 1, .goto 14] 13 = true := qck_r (nn_ _) (by decide +kernel)
theorem bs_X10_isBelow_0 {P : Zt → Option Zv → Prop} (K : Int → Zl → List Zv → Zt → Prop) : sx_ K P [.iload 0, .ifCond .lt 13, .iload 0, .iload 1, .if_icmp .ge 13, .iconst 1, .goto 14] 13 = x_iload 0 (x_ifCond .lt 13 K (x_iload 0 (x_iload 1 (x_if_icmp .ge 13 K (x_iconst 1 (x_goto 14 K)))))) := ((xe_iload 0).trans (congrArg (x_iload 0) ((xe_ifCond .lt 13).trans (congrArg (x_ifCond .lt 13 K) ((xe_iload 0).trans (congrArg (x_iload 0) ((xe_iload 1).trans (congrArg (x_iload 1) ((xe_if_icmp .ge 13).trans (congrArg (x_if_icmp .ge 13 K) ((xe_iconst 1).trans (congrArg (x_iconst 1) (xe_goto 14)))))))))))))
theorem bk_X10_isBelow_13 : ck_ fX10 (some .boolean) cX10_isBelow 13 [.iconst 0, .ireturn] 15 = true := qck_r (nn_ _) (by decide +kernel)
theorem bs_X10_isBelow_13 {P : Zt → Option Zv → Prop} (K : Int → Zl → List Zv → Zt → Prop) : sx_ K P [.iconst 0, .ireturn] 15 = x_iconst 0 (x_ireturn P) := ((xe_iconst 0).trans (congrArg (x_iconst 0) (xe_ireturn)))
theorem bk_X10_isBelow_14 : ck_ fX10 (some .boolean) cX10_isBelow 14 [.ireturn] 15 = true := qck_r (nn_ _) (by decide +kernel)
theorem bs_X10_isBelow_14 {P : Zt → Option Zv → Prop} (K : Int → Zl → List Zv → Zt → Prop) : sx_ K P [.ireturn] 15 = x_ireturn P := (xe_ireturn)
abbrev po_X10_isBelow (T : Zt) (v n : Int) : Zt → Option Zv → Prop := fun T' r => T = T' ∧ ∃ x : Int, r = some (vI x) ∧ ((x = 1 ∧ 0 ≤ v ∧ v < n) ∨ (x = 0 ∧ ¬ (0 ≤ v ∧ v < n)))
set_option maxHeartbeats 4000000 in
theorem ct_X10_isBelow {T : Zt} {v n : Int} : Ct_ yX10_isBelow zX10_isBelow T [vI v, vI n] (po_X10_isBelow T v n) := by
  refine ct_of pn_10 rfl rfl (Nat.le_of_ble_eq_true rfl) (fun hT hav => ?_)
  have hr_v : -2147483648 ≤ v ∧ v ≤ 2147483647 := hav (vI v) List.mem_cons_self
  have hr_n : -2147483648 ≤ n ∧ n ≤ 2147483647 := hav (vI n) (List.mem_cons_of_mem _ List.mem_cons_self)
  have hz : zX10_isBelow.2.2.2.1 = some .boolean → ∀ (T' : Zt) (x : Int), po_X10_isBelow T v n T' (some (vI x)) → 0 ≤ x ∧ x ≤ 1 := fun _ T' x h => by obtain ⟨-, y, e, hy⟩ := h; cases e; omega
  show J_ zX10_isBelow T (po_X10_isBelow T v n) 0 0 0 [some (vI v), some (vI n)] [] T
  refine j_blx (F := fX10) tb_X10 (nn_ _) bk_X10_isBelow_0 bs_X10_isBelow_0 hz (fun K hK => ?_)
  refine And.intro (fun c1 => ?_) (fun c1 => ?_)
  · refine hK 13 _ [] T ?_
    refine j_blx (F := fX10) tb_X10 (nn_ _) bk_X10_isBelow_13 bs_X10_isBelow_13 hz (fun K hK => ?_)
    refine (show po_X10_isBelow T v n T (some (vI 0)) from ?_)
    exact ⟨rfl, _, rfl, Or.inr ⟨rfl, by omega⟩⟩
  · refine And.intro (fun c2 => ?_) (fun c2 => ?_)
    · refine hK 13 _ [] T ?_
      refine j_blx (F := fX10) tb_X10 (nn_ _) bk_X10_isBelow_13 bs_X10_isBelow_13 hz (fun K hK => ?_)
      refine (show po_X10_isBelow T v n T (some (vI 0)) from ?_)
      exact ⟨rfl, _, rfl, Or.inr ⟨rfl, by omega⟩⟩
    · refine hK 14 _ [vI 1] T ?_
      refine j_blx (F := fX10) tb_X10 (nn_ _) bk_X10_isBelow_14 bs_X10_isBelow_14 hz (fun K hK => ?_)
      refine (show po_X10_isBelow T v n T (some (vI 1)) from ?_)
      exact ⟨rfl, _, rfl, Or.inl ⟨rfl, by omega⟩⟩
abbrev cX10_isDay : ByteArray := prog_1_method_49_code
def yX10_isDay : MethodName := ⟨RX10, "isDay", "(I)Z"⟩
def zX10_isDay : Zm := (RX10, cX10_isDay, 1, (some .boolean), { frames := 0, cells := 0, slots := 0, locals := 0 })
theorem bk_X10_isDay_0 : ck_ fX10 (some .boolean) cX10_isDay 0 [.iload 0, .ifCond .lt 15, .iload 0, .iconst 999, .if_icmp .gt 15, .iconst 1, .goto 16] 15 = true := qck_r (nn_ _) (by decide +kernel)
theorem bs_X10_isDay_0 {P : Zt → Option Zv → Prop} (K : Int → Zl → List Zv → Zt → Prop) : sx_ K P [.iload 0, .ifCond .lt 15, .iload 0, .iconst 999, .if_icmp .gt 15, .iconst 1, .goto 16] 15 = x_iload 0 (x_ifCond .lt 15 K (x_iload 0 (x_iconst 999 (x_if_icmp .gt 15 K (x_iconst 1 (x_goto 16 K)))))) := ((xe_iload 0).trans (congrArg (x_iload 0) ((xe_ifCond .lt 15).trans (congrArg (x_ifCond .lt 15 K) ((xe_iload 0).trans (congrArg (x_iload 0) ((xe_iconst 999).trans (congrArg (x_iconst 999) ((xe_if_icmp .gt 15).trans (congrArg (x_if_icmp .gt 15 K) ((xe_iconst 1).trans (congrArg (x_iconst 1) (xe_goto 16)))))))))))))
theorem bk_X10_isDay_15 : ck_ fX10 (some .boolean) cX10_isDay 15 [.iconst 0, .ireturn] 17 = true := qck_r (nn_ _) (by decide +kernel)
theorem bs_X10_isDay_15 {P : Zt → Option Zv → Prop} (K : Int → Zl → List Zv → Zt → Prop) : sx_ K P [.iconst 0, .ireturn] 17 = x_iconst 0 (x_ireturn P) := ((xe_iconst 0).trans (congrArg (x_iconst 0) (xe_ireturn)))
theorem bk_X10_isDay_16 : ck_ fX10 (some .boolean) cX10_isDay 16 [.ireturn] 17 = true := qck_r (nn_ _) (by decide +kernel)
theorem bs_X10_isDay_16 {P : Zt → Option Zv → Prop} (K : Int → Zl → List Zv → Zt → Prop) : sx_ K P [.ireturn] 17 = x_ireturn P := (xe_ireturn)
abbrev po_X10_isDay (T : Zt) (d : Int) : Zt → Option Zv → Prop := fun T' r => T = T' ∧ ∃ x : Int, r = some (vI x) ∧ ((x = 1 ∧ 0 ≤ d ∧ d ≤ 999) ∨ (x = 0 ∧ ¬ (0 ≤ d ∧ d ≤ 999)))
set_option maxHeartbeats 4000000 in
theorem ct_X10_isDay {T : Zt} {d : Int} : Ct_ yX10_isDay zX10_isDay T [vI d] (po_X10_isDay T d) := by
  refine ct_of pn_10 rfl rfl (Nat.le_of_ble_eq_true rfl) (fun hT hav => ?_)
  have hr_d : -2147483648 ≤ d ∧ d ≤ 2147483647 := hav (vI d) List.mem_cons_self
  have hz : zX10_isDay.2.2.2.1 = some .boolean → ∀ (T' : Zt) (x : Int), po_X10_isDay T d T' (some (vI x)) → 0 ≤ x ∧ x ≤ 1 := fun _ T' x h => by obtain ⟨-, y, e, hy⟩ := h; cases e; omega
  show J_ zX10_isDay T (po_X10_isDay T d) 0 0 0 [some (vI d)] [] T
  refine j_blx (F := fX10) tb_X10 (nn_ _) bk_X10_isDay_0 bs_X10_isDay_0 hz (fun K hK => ?_)
  refine And.intro (fun c1 => ?_) (fun c1 => ?_)
  · refine hK 15 _ [] T ?_
    refine j_blx (F := fX10) tb_X10 (nn_ _) bk_X10_isDay_15 bs_X10_isDay_15 hz (fun K hK => ?_)
    refine (show po_X10_isDay T d T (some (vI 0)) from ?_)
    exact ⟨rfl, _, rfl, Or.inr ⟨rfl, by omega⟩⟩
  · refine And.intro (fun c2 => ?_) (fun c2 => ?_)
    · refine hK 15 _ [] T ?_
      refine j_blx (F := fX10) tb_X10 (nn_ _) bk_X10_isDay_15 bs_X10_isDay_15 hz (fun K hK => ?_)
      refine (show po_X10_isDay T d T (some (vI 0)) from ?_)
      exact ⟨rfl, _, rfl, Or.inr ⟨rfl, by omega⟩⟩
    · refine hK 16 _ [vI 1] T ?_
      refine j_blx (F := fX10) tb_X10 (nn_ _) bk_X10_isDay_16 bs_X10_isDay_16 hz (fun K hK => ?_)
      refine (show po_X10_isDay T d T (some (vI 1)) from ?_)
      exact ⟨rfl, _, rfl, Or.inl ⟨rfl, by omega⟩⟩
abbrev cX10_isSide : ByteArray := prog_1_method_50_code
def yX10_isSide : MethodName := ⟨RX10, "isSide", "(I)Z"⟩
def zX10_isSide : Zm := (RX10, cX10_isSide, 1, (some .boolean), { frames := 0, cells := 0, slots := 0, locals := 0 })
theorem bk_X10_isSide_0 : ck_ fX10 (some .boolean) cX10_isSide 0 [.iload 0, .ifCond .eq 9, .iload 0, .iconst 1, .if_icmp .ne 13, .iconst 1, .goto 14] 13 = true := qck_r (nn_ _) (by decide +kernel)
theorem bs_X10_isSide_0 {P : Zt → Option Zv → Prop} (K : Int → Zl → List Zv → Zt → Prop) : sx_ K P [.iload 0, .ifCond .eq 9, .iload 0, .iconst 1, .if_icmp .ne 13, .iconst 1, .goto 14] 13 = x_iload 0 (x_ifCond .eq 9 K (x_iload 0 (x_iconst 1 (x_if_icmp .ne 13 K (x_iconst 1 (x_goto 14 K)))))) := ((xe_iload 0).trans (congrArg (x_iload 0) ((xe_ifCond .eq 9).trans (congrArg (x_ifCond .eq 9 K) ((xe_iload 0).trans (congrArg (x_iload 0) ((xe_iconst 1).trans (congrArg (x_iconst 1) ((xe_if_icmp .ne 13).trans (congrArg (x_if_icmp .ne 13 K) ((xe_iconst 1).trans (congrArg (x_iconst 1) (xe_goto 14)))))))))))))
theorem bk_X10_isSide_9 : ck_ fX10 (some .boolean) cX10_isSide 9 [.iconst 1, .goto 14] 13 = true := qck_r (nn_ _) (by decide +kernel)
theorem bs_X10_isSide_9 {P : Zt → Option Zv → Prop} (K : Int → Zl → List Zv → Zt → Prop) : sx_ K P [.iconst 1, .goto 14] 13 = x_iconst 1 (x_goto 14 K) := ((xe_iconst 1).trans (congrArg (x_iconst 1) (xe_goto 14)))
theorem bk_X10_isSide_14 : ck_ fX10 (some .boolean) cX10_isSide 14 [.ireturn] 15 = true := qck_r (nn_ _) (by decide +kernel)
theorem bs_X10_isSide_14 {P : Zt → Option Zv → Prop} (K : Int → Zl → List Zv → Zt → Prop) : sx_ K P [.ireturn] 15 = x_ireturn P := (xe_ireturn)
theorem bk_X10_isSide_13 : ck_ fX10 (some .boolean) cX10_isSide 13 [.iconst 0, .ireturn] 15 = true := qck_r (nn_ _) (by decide +kernel)
theorem bs_X10_isSide_13 {P : Zt → Option Zv → Prop} (K : Int → Zl → List Zv → Zt → Prop) : sx_ K P [.iconst 0, .ireturn] 15 = x_iconst 0 (x_ireturn P) := ((xe_iconst 0).trans (congrArg (x_iconst 0) (xe_ireturn)))
abbrev po_X10_isSide (T : Zt) (s : Int) : Zt → Option Zv → Prop := fun T' r => T = T' ∧ ∃ x : Int, r = some (vI x) ∧ ((x = 1 ∧ 0 ≤ s ∧ s ≤ 1) ∨ (x = 0 ∧ ¬ (0 ≤ s ∧ s ≤ 1)))
set_option maxHeartbeats 4000000 in
theorem ct_X10_isSide {T : Zt} {s : Int} : Ct_ yX10_isSide zX10_isSide T [vI s] (po_X10_isSide T s) := by
  refine ct_of pn_10 rfl rfl (Nat.le_of_ble_eq_true rfl) (fun hT hav => ?_)
  have hr_s : -2147483648 ≤ s ∧ s ≤ 2147483647 := hav (vI s) List.mem_cons_self
  have hz : zX10_isSide.2.2.2.1 = some .boolean → ∀ (T' : Zt) (x : Int), po_X10_isSide T s T' (some (vI x)) → 0 ≤ x ∧ x ≤ 1 := fun _ T' x h => by obtain ⟨-, y, e, hy⟩ := h; cases e; omega
  show J_ zX10_isSide T (po_X10_isSide T s) 0 0 0 [some (vI s)] [] T
  refine j_blx (F := fX10) tb_X10 (nn_ _) bk_X10_isSide_0 bs_X10_isSide_0 hz (fun K hK => ?_)
  refine And.intro (fun c1 => ?_) (fun c1 => ?_)
  · refine hK 9 _ [] T ?_
    refine j_blx (F := fX10) tb_X10 (nn_ _) bk_X10_isSide_9 bs_X10_isSide_9 hz (fun K hK => ?_)
    refine hK 14 _ [vI 1] T ?_
    refine j_blx (F := fX10) tb_X10 (nn_ _) bk_X10_isSide_14 bs_X10_isSide_14 hz (fun K hK => ?_)
    refine (show po_X10_isSide T s T (some (vI 1)) from ?_)
    exact ⟨rfl, _, rfl, Or.inl ⟨rfl, by omega⟩⟩
  · refine And.intro (fun c2 => ?_) (fun c2 => ?_)
    · refine hK 13 _ [] T ?_
      refine j_blx (F := fX10) tb_X10 (nn_ _) bk_X10_isSide_13 bs_X10_isSide_13 hz (fun K hK => ?_)
      refine (show po_X10_isSide T s T (some (vI 0)) from ?_)
      exact ⟨rfl, _, rfl, Or.inr ⟨rfl, by omega⟩⟩
    · refine hK 14 _ [vI 1] T ?_
      refine j_blx (F := fX10) tb_X10 (nn_ _) bk_X10_isSide_14 bs_X10_isSide_14 hz (fun K hK => ?_)
      refine (show po_X10_isSide T s T (some (vI 1)) from ?_)
      exact ⟨rfl, _, rfl, Or.inl ⟨rfl, by omega⟩⟩
abbrev cX10_isClub : ByteArray := prog_1_method_46_code
def yX10_isClub : MethodName := ⟨RX10, "isClub", "(I)Z"⟩
def zX10_isClub : Zm := (RX10, cX10_isClub, 2, (some .boolean), { frames := 1, cells := 0, slots := 0, locals := 21 })
theorem bk_X10_isClub_0 : ck_ fX10 (some .boolean) cX10_isClub 0 [.iload 1, .aload 0, .tableswitch 0 10 1 #[], .tableswitch 0 8 2 #[]] 8 = true := qck_r (nn_ _) (by decide +kernel)
theorem bs_X10_isClub_0 {P : Zt → Option Zv → Prop} (K : Int → Zl → List Zv → Zt → Prop) : sx_ K P [.iload 1, .aload 0, .tableswitch 0 10 1 #[], .tableswitch 0 8 2 #[]] 8 = x_iload 1 (x_aload 0 (x_g1 110 108 (x_g0 108 2 0 12 (K 8)))) := ((xe_iload 1).trans (congrArg (x_iload 1) ((xe_aload 0).trans (congrArg (x_aload 0) ((xe_g1 (kk := 110) rfl tl_10_1).trans (congrArg (x_g1 110 108) ((xe_g0 (kk := 108) rfl tl_8_2).trans (congrArg (x_g0 108 2 0 12) xe_nil))))))))
set_option maxRecDepth 100000 in
theorem cl_X10_115 : cs_ RX10 115 yX10_isBelow zX10_isBelow 2 := ⟨gi_S (lwq_3 (dqc_m (dqc_m (dqc_m (dqc_m (dqa_m (dqa_m (List.mem_of_getElem? (i := 2) rfl))))))) rfl : Cond.methodLink RX10 115 yX10_isBelow ∈ lw_g) (lwq_3 (dqc_m (dqc_m (dqc_m (dqc_m (dqa_m (dqa_m (List.mem_of_getElem? (i := 3) rfl))))))) rfl : Cond.static yX10_isBelow ∈ lw_g) (lwq_1 (List.mem_of_getElem? (i := 1) rfl) rfl : Cond.initialized yX10_isBelow.cls ∈ lw_g) (lwq_3 (dqc_m (dqc_m (dqc_m (dqc_m (dqa_m (dqa_m (List.mem_of_getElem? (i := 4) rfl))))))) rfl : Cond.code yX10_isBelow cX10_isBelow 2 (some .boolean) ∈ lw_g), ⟨by decide, by decide, by decide +kernel⟩⟩
theorem bk_X10_isClub_11 : ck_ fX10 (some .boolean) cX10_isClub 11 [.ireturn] 12 = true := qck_r (nn_ _) (by decide +kernel)
theorem bs_X10_isClub_11 {P : Zt → Option Zv → Prop} (K : Int → Zl → List Zv → Zt → Prop) : sx_ K P [.ireturn] 12 = x_ireturn P := (xe_ireturn)
abbrev po_X10_isClub (T : Zt) (v : Int) : Zt → Option Zv → Prop := fun T' r => T = T' ∧ ∃ x : Int, r = some (vI x) ∧ ((x = 1 ∧ 0 ≤ v ∧ v < T 108 0 2) ∨ (x = 0 ∧ ¬ (0 ≤ v ∧ v < T 108 0 2)))
set_option maxHeartbeats 4000000 in
theorem ct_X10_isClub {T : Zt} {v : Int} : Ct_ yX10_isClub zX10_isClub T [vR 110 0, vI v] (po_X10_isClub T v) := by
  refine ct_of pn_10 rfl rfl (Nat.le_of_ble_eq_true rfl) (fun hT hav => ?_)
  have hr_v : -2147483648 ≤ v ∧ v ≤ 2147483647 := hav (vI v) (List.mem_cons_of_mem _ List.mem_cons_self)
  have hz : zX10_isClub.2.2.2.1 = some .boolean → ∀ (T' : Zt) (x : Int), po_X10_isClub T v T' (some (vI x)) → 0 ≤ x ∧ x ≤ 1 := fun _ T' x h => by obtain ⟨-, y, e, hy⟩ := h; cases e; omega
  show J_ zX10_isClub T (po_X10_isClub T v) 0 0 0 [some (vR 110 0), some (vI v)] [] T
  refine j_blx (F := fX10) tb_X10 (nn_ _) bk_X10_isClub_0 bs_X10_isClub_0 hz (fun K hK => ?_)
  intro b1 b1b
  refine hK 8 _ [vI (T 108 0 2), vI v] T ?_
  refine j_callS (y := yX10_isBelow) (Yc := zX10_isBelow) (rest := []) [vI v, vI (T 108 0 2)] (ct_X10_isBelow (T := T)) cl_X10_115 (qd_c (by decide +kernel)) (nn_ _) rfl (rf_of rfl) (Nat.le_of_ble_eq_true rfl) (Nat.le_of_ble_eq_true rfl) (Nat.le_of_ble_eq_true rfl) rfl ?_
  rintro _ _ ⟨rfl, x2, rfl, hx2⟩
  show J_ zX10_isClub T (po_X10_isClub T v) 0 0 11 _ [vI x2] T
  refine j_blx (F := fX10) tb_X10 (nn_ _) bk_X10_isClub_11 bs_X10_isClub_11 hz (fun K hK => ?_)
  refine (show po_X10_isClub T v T (some (vI x2)) from ?_)
  exact ⟨rfl, _, rfl, by omega⟩
abbrev cX10_isPerson : ByteArray := prog_1_method_47_code
def yX10_isPerson : MethodName := ⟨RX10, "isPerson", "(I)Z"⟩
def zX10_isPerson : Zm := (RX10, cX10_isPerson, 2, (some .boolean), { frames := 1, cells := 0, slots := 0, locals := 21 })
theorem bk_X10_isPerson_0 : ck_ fX10 (some .boolean) cX10_isPerson 0 [.iload 1, .aload 0, .tableswitch 0 10 1 #[], .tableswitch 0 8 3 #[]] 8 = true := qck_r (nn_ _) (by decide +kernel)
theorem bs_X10_isPerson_0 {P : Zt → Option Zv → Prop} (K : Int → Zl → List Zv → Zt → Prop) : sx_ K P [.iload 1, .aload 0, .tableswitch 0 10 1 #[], .tableswitch 0 8 3 #[]] 8 = x_iload 1 (x_aload 0 (x_g1 110 108 (x_g0 108 3 0 200 (K 8)))) := ((xe_iload 1).trans (congrArg (x_iload 1) ((xe_aload 0).trans (congrArg (x_aload 0) ((xe_g1 (kk := 110) rfl tl_10_1).trans (congrArg (x_g1 110 108) ((xe_g0 (kk := 108) rfl tl_8_3).trans (congrArg (x_g0 108 3 0 200) xe_nil))))))))
theorem bk_X10_isPerson_11 : ck_ fX10 (some .boolean) cX10_isPerson 11 [.ireturn] 12 = true := qck_r (nn_ _) (by decide +kernel)
theorem bs_X10_isPerson_11 {P : Zt → Option Zv → Prop} (K : Int → Zl → List Zv → Zt → Prop) : sx_ K P [.ireturn] 12 = x_ireturn P := (xe_ireturn)
abbrev po_X10_isPerson (T : Zt) (v : Int) : Zt → Option Zv → Prop := fun T' r => T = T' ∧ ∃ x : Int, r = some (vI x) ∧ ((x = 1 ∧ 0 ≤ v ∧ v < T 108 0 3) ∨ (x = 0 ∧ ¬ (0 ≤ v ∧ v < T 108 0 3)))
set_option maxHeartbeats 4000000 in
theorem ct_X10_isPerson {T : Zt} {v : Int} : Ct_ yX10_isPerson zX10_isPerson T [vR 110 0, vI v] (po_X10_isPerson T v) := by
  refine ct_of pn_10 rfl rfl (Nat.le_of_ble_eq_true rfl) (fun hT hav => ?_)
  have hr_v : -2147483648 ≤ v ∧ v ≤ 2147483647 := hav (vI v) (List.mem_cons_of_mem _ List.mem_cons_self)
  have hz : zX10_isPerson.2.2.2.1 = some .boolean → ∀ (T' : Zt) (x : Int), po_X10_isPerson T v T' (some (vI x)) → 0 ≤ x ∧ x ≤ 1 := fun _ T' x h => by obtain ⟨-, y, e, hy⟩ := h; cases e; omega
  show J_ zX10_isPerson T (po_X10_isPerson T v) 0 0 0 [some (vR 110 0), some (vI v)] [] T
  refine j_blx (F := fX10) tb_X10 (nn_ _) bk_X10_isPerson_0 bs_X10_isPerson_0 hz (fun K hK => ?_)
  intro b1 b1b
  refine hK 8 _ [vI (T 108 0 3), vI v] T ?_
  refine j_callS (y := yX10_isBelow) (Yc := zX10_isBelow) (rest := []) [vI v, vI (T 108 0 3)] (ct_X10_isBelow (T := T)) cl_X10_115 (qd_c (by decide +kernel)) (nn_ _) rfl (rf_of rfl) (Nat.le_of_ble_eq_true rfl) (Nat.le_of_ble_eq_true rfl) (Nat.le_of_ble_eq_true rfl) rfl ?_
  rintro _ _ ⟨rfl, x2, rfl, hx2⟩
  show J_ zX10_isPerson T (po_X10_isPerson T v) 0 0 11 _ [vI x2] T
  refine j_blx (F := fX10) tb_X10 (nn_ _) bk_X10_isPerson_11 bs_X10_isPerson_11 hz (fun K hK => ?_)
  refine (show po_X10_isPerson T v T (some (vI x2)) from ?_)
  exact ⟨rfl, _, rfl, by omega⟩
abbrev cX10_isMatch : ByteArray := prog_1_method_48_code
def yX10_isMatch : MethodName := ⟨RX10, "isMatch", "(I)Z"⟩
def zX10_isMatch : Zm := (RX10, cX10_isMatch, 2, (some .boolean), { frames := 1, cells := 0, slots := 0, locals := 21 })
theorem bk_X10_isMatch_0 : ck_ fX10 (some .boolean) cX10_isMatch 0 [.iload 1, .aload 0, .tableswitch 0 10 2 #[], .tableswitch 0 6 4 #[]] 8 = true := qck_r (nn_ _) (by decide +kernel)
theorem bs_X10_isMatch_0 {P : Zt → Option Zv → Prop} (K : Int → Zl → List Zv → Zt → Prop) : sx_ K P [.iload 1, .aload 0, .tableswitch 0 10 2 #[], .tableswitch 0 6 4 #[]] 8 = x_iload 1 (x_aload 0 (x_g1 110 106 (x_g0 106 4 0 400 (K 8)))) := ((xe_iload 1).trans (congrArg (x_iload 1) ((xe_aload 0).trans (congrArg (x_aload 0) ((xe_g1 (kk := 110) rfl tl_10_2).trans (congrArg (x_g1 110 106) ((xe_g0 (kk := 106) rfl tl_6_4).trans (congrArg (x_g0 106 4 0 400) xe_nil))))))))
theorem bk_X10_isMatch_11 : ck_ fX10 (some .boolean) cX10_isMatch 11 [.ireturn] 12 = true := qck_r (nn_ _) (by decide +kernel)
theorem bs_X10_isMatch_11 {P : Zt → Option Zv → Prop} (K : Int → Zl → List Zv → Zt → Prop) : sx_ K P [.ireturn] 12 = x_ireturn P := (xe_ireturn)
abbrev po_X10_isMatch (T : Zt) (v : Int) : Zt → Option Zv → Prop := fun T' r => T = T' ∧ ∃ x : Int, r = some (vI x) ∧ ((x = 1 ∧ 0 ≤ v ∧ v < T 106 0 4) ∨ (x = 0 ∧ ¬ (0 ≤ v ∧ v < T 106 0 4)))
set_option maxHeartbeats 4000000 in
theorem ct_X10_isMatch {T : Zt} {v : Int} : Ct_ yX10_isMatch zX10_isMatch T [vR 110 0, vI v] (po_X10_isMatch T v) := by
  refine ct_of pn_10 rfl rfl (Nat.le_of_ble_eq_true rfl) (fun hT hav => ?_)
  have hr_v : -2147483648 ≤ v ∧ v ≤ 2147483647 := hav (vI v) (List.mem_cons_of_mem _ List.mem_cons_self)
  have hz : zX10_isMatch.2.2.2.1 = some .boolean → ∀ (T' : Zt) (x : Int), po_X10_isMatch T v T' (some (vI x)) → 0 ≤ x ∧ x ≤ 1 := fun _ T' x h => by obtain ⟨-, y, e, hy⟩ := h; cases e; omega
  show J_ zX10_isMatch T (po_X10_isMatch T v) 0 0 0 [some (vR 110 0), some (vI v)] [] T
  refine j_blx (F := fX10) tb_X10 (nn_ _) bk_X10_isMatch_0 bs_X10_isMatch_0 hz (fun K hK => ?_)
  intro b1 b1b
  refine hK 8 _ [vI (T 106 0 4), vI v] T ?_
  refine j_callS (y := yX10_isBelow) (Yc := zX10_isBelow) (rest := []) [vI v, vI (T 106 0 4)] (ct_X10_isBelow (T := T)) cl_X10_115 (qd_c (by decide +kernel)) (nn_ _) rfl (rf_of rfl) (Nat.le_of_ble_eq_true rfl) (Nat.le_of_ble_eq_true rfl) (Nat.le_of_ble_eq_true rfl) rfl ?_
  rintro _ _ ⟨rfl, x2, rfl, hx2⟩
  show J_ zX10_isMatch T (po_X10_isMatch T v) 0 0 11 _ [vI x2] T
  refine j_blx (F := fX10) tb_X10 (nn_ _) bk_X10_isMatch_11 bs_X10_isMatch_11 hz (fun K hK => ?_)
  refine (show po_X10_isMatch T v T (some (vI x2)) from ?_)
  exact ⟨rfl, _, rfl, by omega⟩
abbrev cX10_isCompetition : ByteArray := prog_1_method_45_code
def yX10_isCompetition : MethodName := ⟨RX10, "isCompetition", "(I)Z"⟩
def zX10_isCompetition : Zm := (RX10, cX10_isCompetition, 2, (some .boolean), { frames := 1, cells := 0, slots := 0, locals := 21 })
theorem bk_X10_isCompetition_0 : ck_ fX10 (some .boolean) cX10_isCompetition 0 [.iload 1, .aload 0, .tableswitch 0 10 2 #[], .tableswitch 0 6 2 #[]] 8 = true := qck_r (nn_ _) (by decide +kernel)
theorem bs_X10_isCompetition_0 {P : Zt → Option Zv → Prop} (K : Int → Zl → List Zv → Zt → Prop) : sx_ K P [.iload 1, .aload 0, .tableswitch 0 10 2 #[], .tableswitch 0 6 2 #[]] 8 = x_iload 1 (x_aload 0 (x_g1 110 106 (x_g0 106 2 0 4 (K 8)))) := ((xe_iload 1).trans (congrArg (x_iload 1) ((xe_aload 0).trans (congrArg (x_aload 0) ((xe_g1 (kk := 110) rfl tl_10_2).trans (congrArg (x_g1 110 106) ((xe_g0 (kk := 106) rfl tl_6_2).trans (congrArg (x_g0 106 2 0 4) xe_nil))))))))
theorem bk_X10_isCompetition_11 : ck_ fX10 (some .boolean) cX10_isCompetition 11 [.ireturn] 12 = true := qck_r (nn_ _) (by decide +kernel)
theorem bs_X10_isCompetition_11 {P : Zt → Option Zv → Prop} (K : Int → Zl → List Zv → Zt → Prop) : sx_ K P [.ireturn] 12 = x_ireturn P := (xe_ireturn)
abbrev po_X10_isCompetition (T : Zt) (v : Int) : Zt → Option Zv → Prop := fun T' r => T = T' ∧ ∃ x : Int, r = some (vI x) ∧ ((x = 1 ∧ 0 ≤ v ∧ v < T 106 0 2) ∨ (x = 0 ∧ ¬ (0 ≤ v ∧ v < T 106 0 2)))
set_option maxHeartbeats 4000000 in
theorem ct_X10_isCompetition {T : Zt} {v : Int} : Ct_ yX10_isCompetition zX10_isCompetition T [vR 110 0, vI v] (po_X10_isCompetition T v) := by
  refine ct_of pn_10 rfl rfl (Nat.le_of_ble_eq_true rfl) (fun hT hav => ?_)
  have hr_v : -2147483648 ≤ v ∧ v ≤ 2147483647 := hav (vI v) (List.mem_cons_of_mem _ List.mem_cons_self)
  have hz : zX10_isCompetition.2.2.2.1 = some .boolean → ∀ (T' : Zt) (x : Int), po_X10_isCompetition T v T' (some (vI x)) → 0 ≤ x ∧ x ≤ 1 := fun _ T' x h => by obtain ⟨-, y, e, hy⟩ := h; cases e; omega
  show J_ zX10_isCompetition T (po_X10_isCompetition T v) 0 0 0 [some (vR 110 0), some (vI v)] [] T
  refine j_blx (F := fX10) tb_X10 (nn_ _) bk_X10_isCompetition_0 bs_X10_isCompetition_0 hz (fun K hK => ?_)
  intro b1 b1b
  refine hK 8 _ [vI (T 106 0 2), vI v] T ?_
  refine j_callS (y := yX10_isBelow) (Yc := zX10_isBelow) (rest := []) [vI v, vI (T 106 0 2)] (ct_X10_isBelow (T := T)) cl_X10_115 (qd_c (by decide +kernel)) (nn_ _) rfl (rf_of rfl) (Nat.le_of_ble_eq_true rfl) (Nat.le_of_ble_eq_true rfl) (Nat.le_of_ble_eq_true rfl) rfl ?_
  rintro _ _ ⟨rfl, x2, rfl, hx2⟩
  show J_ zX10_isCompetition T (po_X10_isCompetition T v) 0 0 11 _ [vI x2] T
  refine j_blx (F := fX10) tb_X10 (nn_ _) bk_X10_isCompetition_11 bs_X10_isCompetition_11 hz (fun K hK => ?_)
  refine (show po_X10_isCompetition T v T (some (vI x2)) from ?_)
  exact ⟨rfl, _, rfl, by omega⟩
abbrev cX10_person : ByteArray := prog_1_method_8_code
def yX10_person : MethodName := ⟨RX10, "person", "()I"⟩
def zX10_person : Zm := (RX10, cX10_person, 2, (some .int), { frames := 0, cells := 0, slots := 0, locals := 0 })
theorem bk_X10_person_0 : ck_ fX10 (some .int) cX10_person 0 [.aload 0, .tableswitch 0 10 1 #[], .tableswitch 0 8 3 #[], .iconst 200, .if_icmp .lt 16, .iconst (-5), .ireturn] 16 = true := qck_r (nn_ _) (by decide +kernel)
theorem bs_X10_person_0 {P : Zt → Option Zv → Prop} (K : Int → Zl → List Zv → Zt → Prop) : sx_ K P [.aload 0, .tableswitch 0 10 1 #[], .tableswitch 0 8 3 #[], .iconst 200, .if_icmp .lt 16, .iconst (-5), .ireturn] 16 = x_aload 0 (x_g1 110 108 (x_g0 108 3 0 200 (x_iconst 200 (x_if_icmp .lt 16 K (x_iconst (-5) (x_ireturn P)))))) := ((xe_aload 0).trans (congrArg (x_aload 0) ((xe_g1 (kk := 110) rfl tl_10_1).trans (congrArg (x_g1 110 108) ((xe_g0 (kk := 108) rfl tl_8_3).trans (congrArg (x_g0 108 3 0 200) ((xe_iconst 200).trans (congrArg (x_iconst 200) ((xe_if_icmp .lt 16).trans (congrArg (x_if_icmp .lt 16 K) ((xe_iconst (-5)).trans (congrArg (x_iconst (-5)) (xe_ireturn)))))))))))))
theorem bk_X10_person_16 : ck_ fX10 (some .int) cX10_person 16 [.aload 0, .tableswitch 0 10 1 #[], .tableswitch 0 8 3 #[], .istore 1, .aload 0, .tableswitch 0 10 1 #[], .tableswitch 0 8 4 #[], .iload 1, .iconst (-1), .iastore, .aload 0, .tableswitch 0 10 1 #[], .dup, .tableswitch 0 8 3 #[], .iconst 1, .iadd, .tableswitch 1 8 3 #[], .iload 1, .ireturn] 49 = true := qck_r (nn_ _) (by decide +kernel)
theorem bs_X10_person_16 {P : Zt → Option Zv → Prop} (K : Int → Zl → List Zv → Zt → Prop) : sx_ K P [.aload 0, .tableswitch 0 10 1 #[], .tableswitch 0 8 3 #[], .istore 1, .aload 0, .tableswitch 0 10 1 #[], .tableswitch 0 8 4 #[], .iload 1, .iconst (-1), .iastore, .aload 0, .tableswitch 0 10 1 #[], .dup, .tableswitch 0 8 3 #[], .iconst 1, .iadd, .tableswitch 1 8 3 #[], .iload 1, .ireturn] 49 = x_aload 0 (x_g1 110 108 (x_g0 108 3 0 200 (x_istore 1 (x_aload 0 (x_g1 110 108 (x_g1 108 564 (x_iload 1 (x_iconst (-1) (x_iastore (x_aload 0 (x_g1 110 108 (x_dup (x_g0 108 3 0 200 (x_iconst 1 (x_iadd (x_p 108 3 0 200 (x_iload 1 (x_ireturn P)))))))))))))))))) := ((xe_aload 0).trans (congrArg (x_aload 0) ((xe_g1 (kk := 110) rfl tl_10_1).trans (congrArg (x_g1 110 108) ((xe_g0 (kk := 108) rfl tl_8_3).trans (congrArg (x_g0 108 3 0 200) ((xe_istore 1).trans (congrArg (x_istore 1) ((xe_aload 0).trans (congrArg (x_aload 0) ((xe_g1 (kk := 110) rfl tl_10_1).trans (congrArg (x_g1 110 108) ((xe_g1 (kk := 108) rfl tl_8_4).trans (congrArg (x_g1 108 564) ((xe_iload 1).trans (congrArg (x_iload 1) ((xe_iconst (-1)).trans (congrArg (x_iconst (-1)) ((xe_iastore).trans (congrArg (x_iastore) ((xe_aload 0).trans (congrArg (x_aload 0) ((xe_g1 (kk := 110) rfl tl_10_1).trans (congrArg (x_g1 110 108) ((xe_dup).trans (congrArg (x_dup) ((xe_g0 (kk := 108) rfl tl_8_3).trans (congrArg (x_g0 108 3 0 200) ((xe_iconst 1).trans (congrArg (x_iconst 1) ((xe_iadd).trans (congrArg (x_iadd) ((xe_p (kk := 108) rfl tl_8_3).trans (congrArg (x_p 108 3 0 200) ((xe_iload 1).trans (congrArg (x_iload 1) (xe_ireturn)))))))))))))))))))))))))))))))))))))
abbrev po_X10_person (T : Zt) : Zt → Option Zv → Prop := fun T' r => ∃ x : Int, r = some (vI x) ∧ fr_ [(108, [3]), (564, [])] T T' ∧ ((x = -3 ∧ ¬ (0 = (0 : Int)) ∧ T' 108 0 3 = T 108 0 3) ∨ ((0 = (0 : Int)) ∧ T 108 0 3 = 200 ∧ x = -5 ∧ T' 108 0 3 = T 108 0 3) ∨ ((0 = (0 : Int)) ∧ T 108 0 3 < 200 ∧ x = T 108 0 3 ∧ T' 108 0 3 = T 108 0 3 + 1))
abbrev cX10_club : ByteArray := prog_1_method_7_code
def yX10_club : MethodName := ⟨RX10, "club", "(II)I"⟩
def zX10_club : Zm := (RX10, cX10_club, 4, (some .int), { frames := 1, cells := 0, slots := 0, locals := 21 })
abbrev po_X10_club (T : Zt) (s c : Int) : Zt → Option Zv → Prop := fun T' r => ∃ x : Int, r = some (vI x) ∧ fr_ [(108, [2]), (560, []), (561, [])] T T' ∧ ((x = -3 ∧ ¬ (0 ≤ s ∧ s ≤ 11 ∧ 0 ≤ c ∧ c ≤ 7) ∧ T' 108 0 2 = T 108 0 2) ∨ ((0 ≤ s ∧ s ≤ 11 ∧ 0 ≤ c ∧ c ≤ 7) ∧ T 108 0 2 = 12 ∧ x = -5 ∧ T' 108 0 2 = T 108 0 2) ∨ ((0 ≤ s ∧ s ≤ 11 ∧ 0 ≤ c ∧ c ≤ 7) ∧ T 108 0 2 < 12 ∧ x = T 108 0 2 ∧ T' 108 0 2 = T 108 0 2 + 1))
abbrev cX10_official : ByteArray := prog_1_method_10_code
def yX10_official : MethodName := ⟨RX10, "official", "(II)I"⟩
def zX10_official : Zm := (RX10, cX10_official, 4, (some .int), { frames := 1, cells := 0, slots := 0, locals := 21 })
abbrev po_X10_official (T : Zt) (s c : Int) : Zt → Option Zv → Prop := fun T' r => ∃ x : Int, r = some (vI x) ∧ fr_ [(108, [12]), (570, []), (571, [])] T T' ∧ ((x = -3 ∧ ¬ (0 ≤ s ∧ s ≤ 11 ∧ 0 ≤ c ∧ c ≤ 7) ∧ T' 108 0 12 = T 108 0 12) ∨ ((0 ≤ s ∧ s ≤ 11 ∧ 0 ≤ c ∧ c ≤ 7) ∧ T 108 0 12 = 8 ∧ x = -5 ∧ T' 108 0 12 = T 108 0 12) ∨ ((0 ≤ s ∧ s ≤ 11 ∧ 0 ≤ c ∧ c ≤ 7) ∧ T 108 0 12 < 8 ∧ x = T 108 0 12 ∧ T' 108 0 12 = T 108 0 12 + 1))
abbrev cX10_day : ByteArray := prog_1_method_11_code
def yX10_day : MethodName := ⟨RX10, "day", "(I)I"⟩
def zX10_day : Zm := (RX10, cX10_day, 3, (some .int), { frames := 1, cells := 0, slots := 0, locals := 20 })
theorem bk_X10_day_0 : ck_ fX10 (some .int) cX10_day 0 [.iload 1] 1 = true := qck_r (nn_ _) (by decide +kernel)
theorem bs_X10_day_0 {P : Zt → Option Zv → Prop} (K : Int → Zl → List Zv → Zt → Prop) : sx_ K P [.iload 1] 1 = x_iload 1 (K 1) := ((xe_iload 1).trans (congrArg (x_iload 1) xe_nil))
set_option maxRecDepth 100000 in
theorem cl_X10_140 : cs_ RX10 140 yX10_isDay zX10_isDay 1 := ⟨gi_S (lwq_3 (dqc_m (dqc_m (dqc_m (dqc_m (dqc_m (dqa_m (List.mem_of_getElem? (i := 1) rfl))))))) rfl : Cond.methodLink RX10 140 yX10_isDay ∈ lw_g) (lwq_3 (dqc_m (dqc_m (dqc_m (dqc_m (dqc_m (dqa_m (List.mem_of_getElem? (i := 2) rfl))))))) rfl : Cond.static yX10_isDay ∈ lw_g) (lwq_1 (List.mem_of_getElem? (i := 1) rfl) rfl : Cond.initialized yX10_isDay.cls ∈ lw_g) (lwq_3 (dqc_m (dqc_m (dqc_m (dqc_m (dqc_m (dqa_m (List.mem_of_getElem? (i := 3) rfl))))))) rfl : Cond.code yX10_isDay cX10_isDay 1 (some .boolean) ∈ lw_g), ⟨by decide, by decide, by decide +kernel⟩⟩
theorem bk_X10_day_4 : ck_ fX10 (some .int) cX10_day 4 [.ifCond .eq 18, .iload 1, .aload 0, .tableswitch 0 10 1 #[], .tableswitch 0 8 13 #[], .if_icmp .gt 21, .iconst (-3), .ireturn] 21 = true := qck_r (nn_ _) (by decide +kernel)
theorem bs_X10_day_4 {P : Zt → Option Zv → Prop} (K : Int → Zl → List Zv → Zt → Prop) : sx_ K P [.ifCond .eq 18, .iload 1, .aload 0, .tableswitch 0 10 1 #[], .tableswitch 0 8 13 #[], .if_icmp .gt 21, .iconst (-3), .ireturn] 21 = x_ifCond .eq 18 K (x_iload 1 (x_aload 0 (x_g1 110 108 (x_g0 108 13 0 999 (x_if_icmp .gt 21 K (x_iconst (-3) (x_ireturn P))))))) := ((xe_ifCond .eq 18).trans (congrArg (x_ifCond .eq 18 K) ((xe_iload 1).trans (congrArg (x_iload 1) ((xe_aload 0).trans (congrArg (x_aload 0) ((xe_g1 (kk := 110) rfl tl_10_1).trans (congrArg (x_g1 110 108) ((xe_g0 (kk := 108) rfl tl_8_13).trans (congrArg (x_g0 108 13 0 999) ((xe_if_icmp .gt 21).trans (congrArg (x_if_icmp .gt 21 K) ((xe_iconst (-3)).trans (congrArg (x_iconst (-3)) (xe_ireturn)))))))))))))))
theorem bk_X10_day_18 : ck_ fX10 (some .int) cX10_day 18 [.iconst (-3), .ireturn] 21 = true := qck_r (nn_ _) (by decide +kernel)
theorem bs_X10_day_18 {P : Zt → Option Zv → Prop} (K : Int → Zl → List Zv → Zt → Prop) : sx_ K P [.iconst (-3), .ireturn] 21 = x_iconst (-3) (x_ireturn P) := ((xe_iconst (-3)).trans (congrArg (x_iconst (-3)) (xe_ireturn)))
theorem bk_X10_day_21 : ck_ fX10 (some .int) cX10_day 21 [.aload 0, .tableswitch 0 10 1 #[], .tableswitch 0 8 13 #[], .istore 2, .aload 0, .tableswitch 0 10 1 #[], .iload 1, .tableswitch 1 8 13 #[], .iload 2, .ireturn] 39 = true := qck_r (nn_ _) (by decide +kernel)
theorem bs_X10_day_21 {P : Zt → Option Zv → Prop} (K : Int → Zl → List Zv → Zt → Prop) : sx_ K P [.aload 0, .tableswitch 0 10 1 #[], .tableswitch 0 8 13 #[], .istore 2, .aload 0, .tableswitch 0 10 1 #[], .iload 1, .tableswitch 1 8 13 #[], .iload 2, .ireturn] 39 = x_aload 0 (x_g1 110 108 (x_g0 108 13 0 999 (x_istore 2 (x_aload 0 (x_g1 110 108 (x_iload 1 (x_p 108 13 0 999 (x_iload 2 (x_ireturn P))))))))) := ((xe_aload 0).trans (congrArg (x_aload 0) ((xe_g1 (kk := 110) rfl tl_10_1).trans (congrArg (x_g1 110 108) ((xe_g0 (kk := 108) rfl tl_8_13).trans (congrArg (x_g0 108 13 0 999) ((xe_istore 2).trans (congrArg (x_istore 2) ((xe_aload 0).trans (congrArg (x_aload 0) ((xe_g1 (kk := 110) rfl tl_10_1).trans (congrArg (x_g1 110 108) ((xe_iload 1).trans (congrArg (x_iload 1) ((xe_p (kk := 108) rfl tl_8_13).trans (congrArg (x_p 108 13 0 999) ((xe_iload 2).trans (congrArg (x_iload 2) (xe_ireturn)))))))))))))))))))
abbrev po_X10_day (T : Zt) (d : Int) : Zt → Option Zv → Prop := fun T' r => ∃ x : Int, r = some (vI x) ∧ fr_ [(108, [13])] T T' ∧ ((x = -3 ∧ ¬ (T 108 0 13 < d ∧ d ≤ 999) ∧ T' 108 0 13 = T 108 0 13) ∨ (T 108 0 13 < d ∧ d ≤ 999 ∧ x = T 108 0 13 ∧ T' 108 0 13 = d))
set_option maxHeartbeats 4000000 in
theorem ct_X10_day {T : Zt} {d : Int} : Ct_ yX10_day zX10_day T [vR 110 0, vI d] (po_X10_day T d) := by
  refine ct_of pn_10 rfl rfl (Nat.le_of_ble_eq_true rfl) (fun hT hav => ?_)
  have hr_d : -2147483648 ≤ d ∧ d ≤ 2147483647 := hav (vI d) (List.mem_cons_of_mem _ List.mem_cons_self)
  have hz : zX10_day.2.2.2.1 = some .boolean → ∀ (T' : Zt) (x : Int), po_X10_day T d T' (some (vI x)) → 0 ≤ x ∧ x ≤ 1 := fun h => by cases h
  have hb_today : 0 ≤ T 108 0 13 ∧ T 108 0 13 ≤ 999 := bd_f hT 108 13 tl_8_13 0
  show J_ zX10_day T (po_X10_day T d) 0 0 0 [some (vR 110 0), some (vI d), none] [] T
  refine j_blx (F := fX10) tb_X10 (nn_ _) bk_X10_day_0 bs_X10_day_0 hz (fun K hK => ?_)
  refine hK 1 _ [vI d] T ?_
  refine j_callS (y := yX10_isDay) (Yc := zX10_isDay) (rest := []) [vI d] (ct_X10_isDay (T := T)) cl_X10_140 (qd_c (by decide +kernel)) (nn_ _) rfl (rf_of rfl) (Nat.le_of_ble_eq_true rfl) (Nat.le_of_ble_eq_true rfl) (Nat.le_of_ble_eq_true rfl) rfl ?_
  rintro _ _ ⟨rfl, x1, rfl, hx1⟩
  show J_ zX10_day T (po_X10_day T d) 0 0 4 _ [vI x1] T
  refine j_blx (F := fX10) tb_X10 (nn_ _) bk_X10_day_4 bs_X10_day_4 hz (fun K hK => ?_)
  refine And.intro (fun c2 => ?_) (fun c2 => ?_)
  · replace hx1 := hx1.resolve_left (fun z => absurd (c2.symm.trans z.1) (by decide))
    clear c2
    refine hK 18 _ [] T ?_
    refine j_blx (F := fX10) tb_X10 (nn_ _) bk_X10_day_18 bs_X10_day_18 hz (fun K hK => ?_)
    refine (show po_X10_day T d T (some (vI (-3))) from ?_)
    exact ⟨_, rfl, fr_0 _ _, by omega⟩
  · replace hx1 := hx1.resolve_right (fun z => c2 z.1)
    clear c2
    intro b3 b3b
    refine And.intro (fun c4 => ?_) (fun c4 => ?_)
    · refine hK 21 _ [] T ?_
      refine j_blx (F := fX10) tb_X10 (nn_ _) bk_X10_day_21 bs_X10_day_21 hz (fun K hK => ?_)
      intro b5 b5b
      refine bd_i (by omega) ?_
      refine x_nm (fun U6 hU6 => ?_)
      have e7 := up_f hU6
      refine (show po_X10_day T d U6 (some (vI (T 108 0 13))) from ?_)
      have e8 : U6 108 0 13 = d := up_f hU6
      exact ⟨_, rfl, fr_u (fr_0 _ _) hU6 rfl, by omega⟩
    · refine (show po_X10_day T d T (some (vI (-3))) from ?_)
      exact ⟨_, rfl, fr_0 _ _, by omega⟩
abbrev cX10_count : ByteArray := prog_1_method_44_code
def yX10_count : MethodName := ⟨RX10, "count", "(I)I"⟩
def zX10_count : Zm := (RX10, cX10_count, 2, (some .int), { frames := 0, cells := 0, slots := 0, locals := 0 })
theorem ds_X10_count_1 : decode cX10_count 1 = .ok (.tableswitch 111 0 7 #[47, 55, 63, 71, 79, 87, 95, 103], 47) := by decide +kernel
abbrev cX10_cut : ByteArray := prog_1_method_34_code
def yX10_cut : MethodName := ⟨RX10, "cut", "()I"⟩
def zX10_cut : Zm := (RX10, cX10_cut, 1, (some .int), { frames := 0, cells := 0, slots := 0, locals := 0 })
abbrev cX10_fault : ByteArray := prog_1_method_5_code
def yX10_fault : MethodName := ⟨RX10, "fault", "()I"⟩
def zX10_fault : Zm := (RX10, cX10_fault, 1, (some .int), { frames := 0, cells := 0, slots := 0, locals := 0 })
abbrev cX10_sign : ByteArray := prog_1_method_2_code
def yX10_sign : MethodName := ⟨RX10, "sign", "(I)I"⟩
def zX10_sign : Zm := (RX10, cX10_sign, 2, (some .int), { frames := 0, cells := 0, slots := 0, locals := 0 })
abbrev po_X10_sign (T : Zt) (c : Int) : Zt → Option Zv → Prop := fun T' r => ∃ x : Int, r = some (vI x) ∧ fr_ [(105, [1]), (500, [])] T T' ∧ ((x = -3 ∧ T' 105 0 1 = T 105 0 1 ∧ ¬ (c = 10 ∨ 32 ≤ c ∧ c ≤ 126)) ∨ ((c = 10 ∨ 32 ≤ c ∧ c ≤ 126) ∧ (T 105 0 1 = 400 ∧ x = -5 ∧ T' 105 0 1 = 400 ∨ T 105 0 1 < 400 ∧ x = T 105 0 1 + 1 ∧ T' 105 0 1 = x)))
abbrev cX10_wipe : ByteArray := prog_1_method_3_code
def yX10_wipe : MethodName := ⟨RX10, "wipe", "()I"⟩
def zX10_wipe : Zm := (RX10, cX10_wipe, 2, (some .int), { frames := 0, cells := 0, slots := 0, locals := 0 })
theorem bk_X10_wipe_0 : ck_ fX10 (some .int) cX10_wipe 0 [.aload 0, .tableswitch 0 10 0 #[], .tableswitch 0 5 1 #[], .istore 1, .aload 0, .tableswitch 0 10 0 #[], .iconst 0, .tableswitch 1 5 1 #[], .iload 1, .ireturn] 18 = true := qck_r (nn_ _) (by decide +kernel)
theorem bs_X10_wipe_0 {P : Zt → Option Zv → Prop} (K : Int → Zl → List Zv → Zt → Prop) : sx_ K P [.aload 0, .tableswitch 0 10 0 #[], .tableswitch 0 5 1 #[], .istore 1, .aload 0, .tableswitch 0 10 0 #[], .iconst 0, .tableswitch 1 5 1 #[], .iload 1, .ireturn] 18 = x_aload 0 (x_g1 110 105 (x_g0 105 1 0 400 (x_istore 1 (x_aload 0 (x_g1 110 105 (x_iconst 0 (x_p 105 1 0 400 (x_iload 1 (x_ireturn P))))))))) := ((xe_aload 0).trans (congrArg (x_aload 0) ((xe_g1 (kk := 110) rfl tl_10_0).trans (congrArg (x_g1 110 105) ((xe_g0 (kk := 105) rfl tl_5_1).trans (congrArg (x_g0 105 1 0 400) ((xe_istore 1).trans (congrArg (x_istore 1) ((xe_aload 0).trans (congrArg (x_aload 0) ((xe_g1 (kk := 110) rfl tl_10_0).trans (congrArg (x_g1 110 105) ((xe_iconst 0).trans (congrArg (x_iconst 0) ((xe_p (kk := 105) rfl tl_5_1).trans (congrArg (x_p 105 1 0 400) ((xe_iload 1).trans (congrArg (x_iload 1) (xe_ireturn)))))))))))))))))))
abbrev po_X10_wipe (T : Zt) : Zt → Option Zv → Prop := fun T' r => ∃ x : Int, r = some (vI x) ∧ fr_ [(105, [1])] T T' ∧ (T' 105 0 1 = 0 ∧ x = T 105 0 1)
set_option maxHeartbeats 4000000 in
theorem ct_X10_wipe {T : Zt} : Ct_ yX10_wipe zX10_wipe T [vR 110 0] (po_X10_wipe T) := by
  refine ct_of pn_10 rfl rfl (Nat.le_of_ble_eq_true rfl) (fun hT hav => ?_)
  have hz : zX10_wipe.2.2.2.1 = some .boolean → ∀ (T' : Zt) (x : Int), po_X10_wipe T T' (some (vI x)) → 0 ≤ x ∧ x ≤ 1 := fun h => by cases h
  show J_ zX10_wipe T (po_X10_wipe T) 0 0 0 [some (vR 110 0), none] [] T
  refine j_blx (F := fX10) tb_X10 (nn_ _) bk_X10_wipe_0 bs_X10_wipe_0 hz (fun K hK => ?_)
  intro b1 b1b
  refine bd_i (by omega) ?_
  refine x_nm (fun U2 hU2 => ?_)
  have e3 := up_f hU2
  refine (show po_X10_wipe T U2 (some (vI (T 105 0 1))) from ?_)
  have e4 : U2 105 0 1 = 0 := up_f hU2
  exact ⟨_, rfl, fr_u (fr_0 _ _) hU2 rfl, by omega⟩
abbrev cX8_isRegisteredWithin : ByteArray := prog_10_method_2_code
def yX8_isRegisteredWithin : MethodName := ⟨RX8, "isRegisteredWithin", "(III)Z"⟩
def zX8_isRegisteredWithin : Zm := (RX8, cX8_isRegisteredWithin, 6, (some .boolean), { frames := 0, cells := 0, slots := 0, locals := 0 })
theorem bk_X8_isRegisteredWithin_11 : ck_ fX8 (some .boolean) cX8_isRegisteredWithin 11 [.iload 4, .iconst (-1), .if_icmp .eq 64, .iload 5, .iconst 300, .if_icmp .ge 64, .aload 0, .tableswitch 0 8 7 #[], .iload 4, .iaload, .iload 3, .if_icmp .gt 49, .iload 2, .aload 0, .tableswitch 0 8 8 #[], .iload 4, .iaload, .if_icmp .gt 49, .iconst 1, .ireturn] 49 = true := qck_r (nn_ _) (by decide +kernel)
theorem bs_X8_isRegisteredWithin_11 {P : Zt → Option Zv → Prop} (K : Int → Zl → List Zv → Zt → Prop) : sx_ K P [.iload 4, .iconst (-1), .if_icmp .eq 64, .iload 5, .iconst 300, .if_icmp .ge 64, .aload 0, .tableswitch 0 8 7 #[], .iload 4, .iaload, .iload 3, .if_icmp .gt 49, .iload 2, .aload 0, .tableswitch 0 8 8 #[], .iload 4, .iaload, .if_icmp .gt 49, .iconst 1, .ireturn] 49 = x_iload 4 (x_iconst (-1) (x_if_icmp .eq 64 K (x_iload 5 (x_iconst 300 (x_if_icmp .ge 64 K (x_aload 0 (x_g1 108 567 (x_iload 4 (x_iaload (x_iload 3 (x_if_icmp .gt 49 K (x_iload 2 (x_aload 0 (x_g1 108 568 (x_iload 4 (x_iaload (x_if_icmp .gt 49 K (x_iconst 1 (x_ireturn P))))))))))))))))))) := ((xe_iload 4).trans (congrArg (x_iload 4) ((xe_iconst (-1)).trans (congrArg (x_iconst (-1)) ((xe_if_icmp .eq 64).trans (congrArg (x_if_icmp .eq 64 K) ((xe_iload 5).trans (congrArg (x_iload 5) ((xe_iconst 300).trans (congrArg (x_iconst 300) ((xe_if_icmp .ge 64).trans (congrArg (x_if_icmp .ge 64 K) ((xe_aload 0).trans (congrArg (x_aload 0) ((xe_g1 (kk := 108) rfl tl_8_7).trans (congrArg (x_g1 108 567) ((xe_iload 4).trans (congrArg (x_iload 4) ((xe_iaload).trans (congrArg (x_iaload) ((xe_iload 3).trans (congrArg (x_iload 3) ((xe_if_icmp .gt 49).trans (congrArg (x_if_icmp .gt 49 K) ((xe_iload 2).trans (congrArg (x_iload 2) ((xe_aload 0).trans (congrArg (x_aload 0) ((xe_g1 (kk := 108) rfl tl_8_8).trans (congrArg (x_g1 108 568) ((xe_iload 4).trans (congrArg (x_iload 4) ((xe_iaload).trans (congrArg (x_iaload) ((xe_if_icmp .gt 49).trans (congrArg (x_if_icmp .gt 49 K) ((xe_iconst 1).trans (congrArg (x_iconst 1) (xe_ireturn)))))))))))))))))))))))))))))))))))))))
theorem bk_X8_isRegisteredWithin_64 : ck_ fX8 (some .boolean) cX8_isRegisteredWithin 64 [.iconst 0, .ireturn] 66 = true := qck_r (nn_ _) (by decide +kernel)
theorem bs_X8_isRegisteredWithin_64 {P : Zt → Option Zv → Prop} (K : Int → Zl → List Zv → Zt → Prop) : sx_ K P [.iconst 0, .ireturn] 66 = x_iconst 0 (x_ireturn P) := ((xe_iconst 0).trans (congrArg (x_iconst 0) (xe_ireturn)))
theorem bk_X8_isRegisteredWithin_49 : ck_ fX8 (some .boolean) cX8_isRegisteredWithin 49 [.aload 0, .tableswitch 0 8 9 #[], .iload 4, .iaload, .istore 4, .iinc 5 1, .goto 11] 64 = true := qck_r (nn_ _) (by decide +kernel)
theorem bs_X8_isRegisteredWithin_49 {P : Zt → Option Zv → Prop} (K : Int → Zl → List Zv → Zt → Prop) : sx_ K P [.aload 0, .tableswitch 0 8 9 #[], .iload 4, .iaload, .istore 4, .iinc 5 1, .goto 11] 64 = x_aload 0 (x_g1 108 569 (x_iload 4 (x_iaload (x_istore 4 (x_iinc 5 1 (x_goto 11 K)))))) := ((xe_aload 0).trans (congrArg (x_aload 0) ((xe_g1 (kk := 108) rfl tl_8_9).trans (congrArg (x_g1 108 569) ((xe_iload 4).trans (congrArg (x_iload 4) ((xe_iaload).trans (congrArg (x_iaload) ((xe_istore 4).trans (congrArg (x_istore 4) ((xe_iinc 5 1).trans (congrArg (x_iinc 5 1) (xe_goto 11)))))))))))))
theorem bk_X8_isRegisteredWithin_0 : ck_ fX8 (some .boolean) cX8_isRegisteredWithin 0 [.aload 0, .tableswitch 0 8 4 #[], .iload 1, .iaload, .istore 4, .iconst 0, .istore 5] 11 = true := qck_r (nn_ _) (by decide +kernel)
theorem bs_X8_isRegisteredWithin_0 {P : Zt → Option Zv → Prop} (K : Int → Zl → List Zv → Zt → Prop) : sx_ K P [.aload 0, .tableswitch 0 8 4 #[], .iload 1, .iaload, .istore 4, .iconst 0, .istore 5] 11 = x_aload 0 (x_g1 108 564 (x_iload 1 (x_iaload (x_istore 4 (x_iconst 0 (x_istore 5 (K 11))))))) := ((xe_aload 0).trans (congrArg (x_aload 0) ((xe_g1 (kk := 108) rfl tl_8_4).trans (congrArg (x_g1 108 564) ((xe_iload 1).trans (congrArg (x_iload 1) ((xe_iaload).trans (congrArg (x_iaload) ((xe_istore 4).trans (congrArg (x_istore 4) ((xe_iconst 0).trans (congrArg (x_iconst 0) ((xe_istore 5).trans (congrArg (x_istore 5) xe_nil))))))))))))))
abbrev cX8_clubOn : ByteArray := prog_10_method_4_code
def yX8_clubOn : MethodName := ⟨RX8, "clubOn", "(II)I"⟩
def zX8_clubOn : Zm := (RX8, cX8_clubOn, 5, (some .int), { frames := 0, cells := 0, slots := 0, locals := 0 })
abbrev cX8_addSpan : ByteArray := prog_10_method_3_code
def yX8_addSpan : MethodName := ⟨RX8, "addSpan", "(IIII)V"⟩
def zX8_addSpan : Zm := (RX8, cX8_addSpan, 5, none, { frames := 0, cells := 0, slots := 0, locals := 0 })
theorem bk_X8_addSpan_0 : ck_ fX8 none cX8_addSpan 0 [.aload 0, .tableswitch 0 8 6 #[], .aload 0, .tableswitch 0 8 5 #[], .iload 2, .iastore, .aload 0, .tableswitch 0 8 7 #[], .aload 0, .tableswitch 0 8 5 #[], .iload 3, .iastore, .aload 0, .tableswitch 0 8 8 #[], .aload 0, .tableswitch 0 8 5 #[], .iload 4, .iastore, .aload 0, .tableswitch 0 8 9 #[], .aload 0, .tableswitch 0 8 5 #[], .aload 0, .tableswitch 0 8 4 #[], .iload 1, .iaload, .iastore, .aload 0, .tableswitch 0 8 4 #[], .iload 1, .aload 0, .tableswitch 0 8 5 #[], .iastore, .aload 0, .dup, .tableswitch 0 8 5 #[], .iconst 1, .iadd, .tableswitch 1 8 5 #[], .return_] 67 = true := qck_r (nn_ _) (by decide +kernel)
theorem bs_X8_addSpan_0 {P : Zt → Option Zv → Prop} (K : Int → Zl → List Zv → Zt → Prop) : sx_ K P [.aload 0, .tableswitch 0 8 6 #[], .aload 0, .tableswitch 0 8 5 #[], .iload 2, .iastore, .aload 0, .tableswitch 0 8 7 #[], .aload 0, .tableswitch 0 8 5 #[], .iload 3, .iastore, .aload 0, .tableswitch 0 8 8 #[], .aload 0, .tableswitch 0 8 5 #[], .iload 4, .iastore, .aload 0, .tableswitch 0 8 9 #[], .aload 0, .tableswitch 0 8 5 #[], .aload 0, .tableswitch 0 8 4 #[], .iload 1, .iaload, .iastore, .aload 0, .tableswitch 0 8 4 #[], .iload 1, .aload 0, .tableswitch 0 8 5 #[], .iastore, .aload 0, .dup, .tableswitch 0 8 5 #[], .iconst 1, .iadd, .tableswitch 1 8 5 #[], .return_] 67 = x_aload 0 (x_g1 108 566 (x_aload 0 (x_g0 108 5 0 300 (x_iload 2 (x_iastore (x_aload 0 (x_g1 108 567 (x_aload 0 (x_g0 108 5 0 300 (x_iload 3 (x_iastore (x_aload 0 (x_g1 108 568 (x_aload 0 (x_g0 108 5 0 300 (x_iload 4 (x_iastore (x_aload 0 (x_g1 108 569 (x_aload 0 (x_g0 108 5 0 300 (x_aload 0 (x_g1 108 564 (x_iload 1 (x_iaload (x_iastore (x_aload 0 (x_g1 108 564 (x_iload 1 (x_aload 0 (x_g0 108 5 0 300 (x_iastore (x_aload 0 (x_dup (x_g0 108 5 0 300 (x_iconst 1 (x_iadd (x_p 108 5 0 300 (x_return_ P))))))))))))))))))))))))))))))))))))))) := ((xe_aload 0).trans (congrArg (x_aload 0) ((xe_g1 (kk := 108) rfl tl_8_6).trans (congrArg (x_g1 108 566) ((xe_aload 0).trans (congrArg (x_aload 0) ((xe_g0 (kk := 108) rfl tl_8_5).trans (congrArg (x_g0 108 5 0 300) ((xe_iload 2).trans (congrArg (x_iload 2) ((xe_iastore).trans (congrArg (x_iastore) ((xe_aload 0).trans (congrArg (x_aload 0) ((xe_g1 (kk := 108) rfl tl_8_7).trans (congrArg (x_g1 108 567) ((xe_aload 0).trans (congrArg (x_aload 0) ((xe_g0 (kk := 108) rfl tl_8_5).trans (congrArg (x_g0 108 5 0 300) ((xe_iload 3).trans (congrArg (x_iload 3) ((xe_iastore).trans (congrArg (x_iastore) ((xe_aload 0).trans (congrArg (x_aload 0) ((xe_g1 (kk := 108) rfl tl_8_8).trans (congrArg (x_g1 108 568) ((xe_aload 0).trans (congrArg (x_aload 0) ((xe_g0 (kk := 108) rfl tl_8_5).trans (congrArg (x_g0 108 5 0 300) ((xe_iload 4).trans (congrArg (x_iload 4) ((xe_iastore).trans (congrArg (x_iastore) ((xe_aload 0).trans (congrArg (x_aload 0) ((xe_g1 (kk := 108) rfl tl_8_9).trans (congrArg (x_g1 108 569) ((xe_aload 0).trans (congrArg (x_aload 0) ((xe_g0 (kk := 108) rfl tl_8_5).trans (congrArg (x_g0 108 5 0 300) ((xe_aload 0).trans (congrArg (x_aload 0) ((xe_g1 (kk := 108) rfl tl_8_4).trans (congrArg (x_g1 108 564) ((xe_iload 1).trans (congrArg (x_iload 1) ((xe_iaload).trans (congrArg (x_iaload) ((xe_iastore).trans (congrArg (x_iastore) ((xe_aload 0).trans (congrArg (x_aload 0) ((xe_g1 (kk := 108) rfl tl_8_4).trans (congrArg (x_g1 108 564) ((xe_iload 1).trans (congrArg (x_iload 1) ((xe_aload 0).trans (congrArg (x_aload 0) ((xe_g0 (kk := 108) rfl tl_8_5).trans (congrArg (x_g0 108 5 0 300) ((xe_iastore).trans (congrArg (x_iastore) ((xe_aload 0).trans (congrArg (x_aload 0) ((xe_dup).trans (congrArg (x_dup) ((xe_g0 (kk := 108) rfl tl_8_5).trans (congrArg (x_g0 108 5 0 300) ((xe_iconst 1).trans (congrArg (x_iconst 1) ((xe_iadd).trans (congrArg (x_iadd) ((xe_p (kk := 108) rfl tl_8_5).trans (congrArg (x_p 108 5 0 300) (xe_return_)))))))))))))))))))))))))))))))))))))))))))))))))))))))))))))))))))))))))))))))
abbrev cX10_register : ByteArray := prog_1_method_9_code
def yX10_register : MethodName := ⟨RX10, "register", "(IIII)I"⟩
def zX10_register : Zm := (RX10, cX10_register, 5, (some .int), { frames := 2, cells := 0, slots := 0, locals := 42 })
theorem bk_X10_register_0 : ck_ fX10 (some .int) cX10_register 0 [.aload 0, .iload 1] 2 = true := qck_r (nn_ _) (by decide +kernel)
theorem bs_X10_register_0 {P : Zt → Option Zv → Prop} (K : Int → Zl → List Zv → Zt → Prop) : sx_ K P [.aload 0, .iload 1] 2 = x_aload 0 (x_iload 1 (K 2)) := ((xe_aload 0).trans (congrArg (x_aload 0) ((xe_iload 1).trans (congrArg (x_iload 1) xe_nil))))
set_option maxRecDepth 100000 in
theorem cl_X10_134 : cv_ RX10 134 yX10_isPerson zX10_isPerson 10 1 := ⟨gi_V (lwq_3 (dqc_m (dqc_m (dqc_m (dqc_m (dqc_m (List.mem_of_getElem? (i := 1) rfl)))))) rfl : Cond.methodLink RX10 134 yX10_isPerson ∈ lw_g) (lwq_3 (dqc_m (dqc_m (dqc_m (dqc_m (dqc_m (List.mem_of_getElem? (i := 3) rfl)))))) rfl : Cond.instanceMethod yX10_isPerson ∈ lw_g) (lw_sel 3 rfl : Cond.selects yX10_isPerson.cls yX10_isPerson yX10_isPerson ∈ lw_g) (lwq_1 (List.mem_of_getElem? (i := 1) rfl) rfl : Cond.initialized yX10_isPerson.cls ∈ lw_g) (lwq_3 (dqc_m (dqc_m (dqc_m (dqc_m (dqc_m (List.mem_of_getElem? (i := 4) rfl)))))) rfl : Cond.code yX10_isPerson cX10_isPerson 2 (some .boolean) ∈ lw_g), ⟨nmh_0.1, nmh_0.2, pdq_7⟩, ⟨_, _, rfl⟩⟩
theorem bk_X10_register_5 : ck_ fX10 (some .int) cX10_register 5 [.ifCond .eq 16, .aload 0, .iload 2] 10 = true := qck_r (nn_ _) (by decide +kernel)
theorem bs_X10_register_5 {P : Zt → Option Zv → Prop} (K : Int → Zl → List Zv → Zt → Prop) : sx_ K P [.ifCond .eq 16, .aload 0, .iload 2] 10 = x_ifCond .eq 16 K (x_aload 0 (x_iload 2 (K 10))) := ((xe_ifCond .eq 16).trans (congrArg (x_ifCond .eq 16 K) ((xe_aload 0).trans (congrArg (x_aload 0) ((xe_iload 2).trans (congrArg (x_iload 2) xe_nil))))))
theorem bk_X10_register_16 : ck_ fX10 (some .int) cX10_register 16 [.iconst (-2), .ireturn] 19 = true := qck_r (nn_ _) (by decide +kernel)
theorem bs_X10_register_16 {P : Zt → Option Zv → Prop} (K : Int → Zl → List Zv → Zt → Prop) : sx_ K P [.iconst (-2), .ireturn] 19 = x_iconst (-2) (x_ireturn P) := ((xe_iconst (-2)).trans (congrArg (x_iconst (-2)) (xe_ireturn)))
set_option maxRecDepth 100000 in
theorem cl_X10_137 : cv_ RX10 137 yX10_isClub zX10_isClub 10 1 := ⟨gi_V (lwq_3 (dqc_m (dqc_m (dqc_m (dqc_m (dqc_m (List.mem_of_getElem? (i := 5) rfl)))))) rfl : Cond.methodLink RX10 137 yX10_isClub ∈ lw_g) (lwq_3 (dqc_m (dqc_m (dqc_m (dqc_m (dqc_m (List.mem_of_getElem? (i := 7) rfl)))))) rfl : Cond.instanceMethod yX10_isClub ∈ lw_g) (lw_sel 0 rfl : Cond.selects yX10_isClub.cls yX10_isClub yX10_isClub ∈ lw_g) (lwq_1 (List.mem_of_getElem? (i := 1) rfl) rfl : Cond.initialized yX10_isClub.cls ∈ lw_g) (lwq_3 (dqc_m (dqc_m (dqc_m (dqc_m (dqc_m (dqa_m (List.mem_of_getElem? (i := 0) rfl))))))) rfl : Cond.code yX10_isClub cX10_isClub 2 (some .boolean) ∈ lw_g), ⟨nmh_0.1, nmh_0.2, pdq_7⟩, ⟨_, _, rfl⟩⟩
theorem bk_X10_register_13 : ck_ fX10 (some .int) cX10_register 13 [.ifCond .ne 19, .iconst (-2), .ireturn] 19 = true := qck_r (nn_ _) (by decide +kernel)
theorem bs_X10_register_13 {P : Zt → Option Zv → Prop} (K : Int → Zl → List Zv → Zt → Prop) : sx_ K P [.ifCond .ne 19, .iconst (-2), .ireturn] 19 = x_ifCond .ne 19 K (x_iconst (-2) (x_ireturn P)) := ((xe_ifCond .ne 19).trans (congrArg (x_ifCond .ne 19 K) ((xe_iconst (-2)).trans (congrArg (x_iconst (-2)) (xe_ireturn)))))
theorem bk_X10_register_19 : ck_ fX10 (some .int) cX10_register 19 [.iload 3] 20 = true := qck_r (nn_ _) (by decide +kernel)
theorem bs_X10_register_19 {P : Zt → Option Zv → Prop} (K : Int → Zl → List Zv → Zt → Prop) : sx_ K P [.iload 3] 20 = x_iload 3 (K 20) := ((xe_iload 3).trans (congrArg (x_iload 3) xe_nil))
theorem bk_X10_register_23 : ck_ fX10 (some .int) cX10_register 23 [.ifCond .eq 40, .iload 4] 28 = true := qck_r (nn_ _) (by decide +kernel)
theorem bs_X10_register_23 {P : Zt → Option Zv → Prop} (K : Int → Zl → List Zv → Zt → Prop) : sx_ K P [.ifCond .eq 40, .iload 4] 28 = x_ifCond .eq 40 K (x_iload 4 (K 28)) := ((xe_ifCond .eq 40).trans (congrArg (x_ifCond .eq 40 K) ((xe_iload 4).trans (congrArg (x_iload 4) xe_nil))))
theorem bk_X10_register_40 : ck_ fX10 (some .int) cX10_register 40 [.iconst (-3), .ireturn] 43 = true := qck_r (nn_ _) (by decide +kernel)
theorem bs_X10_register_40 {P : Zt → Option Zv → Prop} (K : Int → Zl → List Zv → Zt → Prop) : sx_ K P [.iconst (-3), .ireturn] 43 = x_iconst (-3) (x_ireturn P) := ((xe_iconst (-3)).trans (congrArg (x_iconst (-3)) (xe_ireturn)))
theorem bk_X10_register_31 : ck_ fX10 (some .int) cX10_register 31 [.ifCond .eq 40, .iload 4, .iload 3, .if_icmp .ge 43, .iconst (-3), .ireturn] 43 = true := qck_r (nn_ _) (by decide +kernel)
theorem bs_X10_register_31 {P : Zt → Option Zv → Prop} (K : Int → Zl → List Zv → Zt → Prop) : sx_ K P [.ifCond .eq 40, .iload 4, .iload 3, .if_icmp .ge 43, .iconst (-3), .ireturn] 43 = x_ifCond .eq 40 K (x_iload 4 (x_iload 3 (x_if_icmp .ge 43 K (x_iconst (-3) (x_ireturn P))))) := ((xe_ifCond .eq 40).trans (congrArg (x_ifCond .eq 40 K) ((xe_iload 4).trans (congrArg (x_iload 4) ((xe_iload 3).trans (congrArg (x_iload 3) ((xe_if_icmp .ge 43).trans (congrArg (x_if_icmp .ge 43 K) ((xe_iconst (-3)).trans (congrArg (x_iconst (-3)) (xe_ireturn)))))))))))
theorem bk_X10_register_43 : ck_ fX10 (some .int) cX10_register 43 [.aload 0, .tableswitch 0 10 1 #[], .iload 1, .iload 3, .iload 4] 51 = true := qck_r (nn_ _) (by decide +kernel)
theorem bs_X10_register_43 {P : Zt → Option Zv → Prop} (K : Int → Zl → List Zv → Zt → Prop) : sx_ K P [.aload 0, .tableswitch 0 10 1 #[], .iload 1, .iload 3, .iload 4] 51 = x_aload 0 (x_g1 110 108 (x_iload 1 (x_iload 3 (x_iload 4 (K 51))))) := ((xe_aload 0).trans (congrArg (x_aload 0) ((xe_g1 (kk := 110) rfl tl_10_1).trans (congrArg (x_g1 110 108) ((xe_iload 1).trans (congrArg (x_iload 1) ((xe_iload 3).trans (congrArg (x_iload 3) ((xe_iload 4).trans (congrArg (x_iload 4) xe_nil))))))))))
set_option maxRecDepth 100000 in
theorem cl_X10_143 : cv_ RX10 143 yX8_isRegisteredWithin zX8_isRegisteredWithin 8 3 := ⟨gi_V (lwq_3 (dqc_m (dqc_m (dqc_m (dqc_m (dqc_m (dqa_m (List.mem_of_getElem? (i := 4) rfl))))))) rfl : Cond.methodLink RX10 143 yX8_isRegisteredWithin ∈ lw_g) (lwq_3 (dqc_m (dqc_m (dqc_m (dqc_m (dqc_m (dqa_m (List.mem_of_getElem? (i := 5) rfl))))))) rfl : Cond.instanceMethod yX8_isRegisteredWithin ∈ lw_g) (lwq_3 (dqc_m (dqc_m (dqc_m (dqc_m (dqc_m (dqa_m (List.mem_of_getElem? (i := 6) rfl))))))) rfl : Cond.selects yX8_isRegisteredWithin.cls yX8_isRegisteredWithin yX8_isRegisteredWithin ∈ lw_g) (lwq_1 (List.mem_of_getElem? (i := 3) rfl) rfl : Cond.initialized yX8_isRegisteredWithin.cls ∈ lw_g) (lwq_3 (dqc_m (dqc_m (dqc_m (dqc_m (dqc_m (dqa_m (List.mem_of_getElem? (i := 7) rfl))))))) rfl : Cond.code yX8_isRegisteredWithin cX8_isRegisteredWithin 6 (some .boolean) ∈ lw_g), ⟨nmh_9.1, nmh_9.2, pdq_11⟩, ⟨_, _, rfl⟩⟩
theorem bk_X10_register_54 : ck_ fX10 (some .int) cX10_register 54 [.ifCond .eq 60, .iconst (-4), .ireturn] 60 = true := qck_r (nn_ _) (by decide +kernel)
theorem bs_X10_register_54 {P : Zt → Option Zv → Prop} (K : Int → Zl → List Zv → Zt → Prop) : sx_ K P [.ifCond .eq 60, .iconst (-4), .ireturn] 60 = x_ifCond .eq 60 K (x_iconst (-4) (x_ireturn P)) := ((xe_ifCond .eq 60).trans (congrArg (x_ifCond .eq 60 K) ((xe_iconst (-4)).trans (congrArg (x_iconst (-4)) (xe_ireturn)))))
theorem bk_X10_register_60 : ck_ fX10 (some .int) cX10_register 60 [.aload 0, .tableswitch 0 10 1 #[], .tableswitch 0 8 5 #[], .iconst 300, .if_icmp .lt 76, .iconst (-5), .ireturn] 76 = true := qck_r (nn_ _) (by decide +kernel)
theorem bs_X10_register_60 {P : Zt → Option Zv → Prop} (K : Int → Zl → List Zv → Zt → Prop) : sx_ K P [.aload 0, .tableswitch 0 10 1 #[], .tableswitch 0 8 5 #[], .iconst 300, .if_icmp .lt 76, .iconst (-5), .ireturn] 76 = x_aload 0 (x_g1 110 108 (x_g0 108 5 0 300 (x_iconst 300 (x_if_icmp .lt 76 K (x_iconst (-5) (x_ireturn P)))))) := ((xe_aload 0).trans (congrArg (x_aload 0) ((xe_g1 (kk := 110) rfl tl_10_1).trans (congrArg (x_g1 110 108) ((xe_g0 (kk := 108) rfl tl_8_5).trans (congrArg (x_g0 108 5 0 300) ((xe_iconst 300).trans (congrArg (x_iconst 300) ((xe_if_icmp .lt 76).trans (congrArg (x_if_icmp .lt 76 K) ((xe_iconst (-5)).trans (congrArg (x_iconst (-5)) (xe_ireturn)))))))))))))
theorem bk_X10_register_76 : ck_ fX10 (some .int) cX10_register 76 [.aload 0, .tableswitch 0 10 1 #[], .iload 1, .iload 2, .iload 3, .iload 4] 85 = true := qck_r (nn_ _) (by decide +kernel)
theorem bs_X10_register_76 {P : Zt → Option Zv → Prop} (K : Int → Zl → List Zv → Zt → Prop) : sx_ K P [.aload 0, .tableswitch 0 10 1 #[], .iload 1, .iload 2, .iload 3, .iload 4] 85 = x_aload 0 (x_g1 110 108 (x_iload 1 (x_iload 2 (x_iload 3 (x_iload 4 (K 85)))))) := ((xe_aload 0).trans (congrArg (x_aload 0) ((xe_g1 (kk := 110) rfl tl_10_1).trans (congrArg (x_g1 110 108) ((xe_iload 1).trans (congrArg (x_iload 1) ((xe_iload 2).trans (congrArg (x_iload 2) ((xe_iload 3).trans (congrArg (x_iload 3) ((xe_iload 4).trans (congrArg (x_iload 4) xe_nil))))))))))))
set_option maxRecDepth 100000 in
theorem cl_X10_150 : cv_ RX10 150 yX8_addSpan zX8_addSpan 8 4 := ⟨gi_V (lwq_3 (dqc_m (dqc_m (dqc_m (dqc_m (dqc_m (dqa_m (dqa_m (List.mem_of_getElem? (i := 0) rfl)))))))) rfl : Cond.methodLink RX10 150 yX8_addSpan ∈ lw_g) (lwq_3 (dqc_m (dqc_m (dqc_m (dqc_m (dqc_m (dqa_m (dqa_m (List.mem_of_getElem? (i := 1) rfl)))))))) rfl : Cond.instanceMethod yX8_addSpan ∈ lw_g) (lwq_3 (dqc_m (dqc_m (dqc_m (dqc_m (dqc_m (dqa_m (dqa_m (List.mem_of_getElem? (i := 2) rfl)))))))) rfl : Cond.selects yX8_addSpan.cls yX8_addSpan yX8_addSpan ∈ lw_g) (lwq_1 (List.mem_of_getElem? (i := 3) rfl) rfl : Cond.initialized yX8_addSpan.cls ∈ lw_g) (lwq_3 (dqc_m (dqc_m (dqc_m (dqc_m (dqc_m (dqa_m (dqa_m (List.mem_of_getElem? (i := 3) rfl)))))))) rfl : Cond.code yX8_addSpan cX8_addSpan 5 none ∈ lw_g), ⟨nmh_9.1, nmh_9.2, pdq_12⟩, ⟨_, _, rfl⟩⟩
theorem bk_X10_register_88 : ck_ fX10 (some .int) cX10_register 88 [.aload 0, .tableswitch 0 10 1 #[], .tableswitch 0 8 5 #[], .ireturn] 96 = true := qck_r (nn_ _) (by decide +kernel)
theorem bs_X10_register_88 {P : Zt → Option Zv → Prop} (K : Int → Zl → List Zv → Zt → Prop) : sx_ K P [.aload 0, .tableswitch 0 10 1 #[], .tableswitch 0 8 5 #[], .ireturn] 96 = x_aload 0 (x_g1 110 108 (x_g0 108 5 0 300 (x_ireturn P))) := ((xe_aload 0).trans (congrArg (x_aload 0) ((xe_g1 (kk := 110) rfl tl_10_1).trans (congrArg (x_g1 110 108) ((xe_g0 (kk := 108) rfl tl_8_5).trans (congrArg (x_g0 108 5 0 300) (xe_ireturn)))))))
abbrev po_X10_register (T : Zt) (p cl a b : Int) : Zt → Option Zv → Prop := fun T' r => ∃ x : Int, r = some (vI x) ∧ fr_ [(108, [5]), (566, []), (567, []), (568, []), (569, []), (564, [])] T T' ∧ (x = x)
abbrev cX10_moved : ByteArray := prog_1_method_17_code
def yX10_moved : MethodName := ⟨RX10, "moved", "(I)I"⟩
def zX10_moved : Zm := (RX10, cX10_moved, 2, (some .int), { frames := 1, cells := 0, slots := 0, locals := 21 })
abbrev cX10_witness : ByteArray := prog_1_method_33_code
def yX10_witness : MethodName := ⟨RX10, "witness", "(I)I"⟩
def zX10_witness : Zm := (RX10, cX10_witness, 2, (some .int), { frames := 2, cells := 0, slots := 0, locals := 42 })
set_option maxRecDepth 100000 in
theorem cl_X10_195 : cv_ RX10 195 yX10_isMatch zX10_isMatch 10 1 := ⟨gi_V (lwq_4 (dqc_m (dqa_m (dqa_m (List.mem_of_getElem? (i := 5) rfl)))) rfl : Cond.methodLink RX10 195 yX10_isMatch ∈ lw_g) (lwq_4 (dqc_m (dqa_m (dqa_m (List.mem_of_getElem? (i := 7) rfl)))) rfl : Cond.instanceMethod yX10_isMatch ∈ lw_g) (lw_sel 2 rfl : Cond.selects yX10_isMatch.cls yX10_isMatch yX10_isMatch ∈ lw_g) (lwq_1 (List.mem_of_getElem? (i := 1) rfl) rfl : Cond.initialized yX10_isMatch.cls ∈ lw_g) (lwq_4 (dqc_m (dqa_m (dqa_m (dqa_m (List.mem_of_getElem? (i := 0) rfl))))) rfl : Cond.code yX10_isMatch cX10_isMatch 2 (some .boolean) ∈ lw_g), ⟨nmh_0.1, nmh_0.2, pdq_7⟩, ⟨_, _, rfl⟩⟩
abbrev cX10_drawn : ByteArray := prog_1_method_41_code
def yX10_drawn : MethodName := ⟨RX10, "drawn", "(I)I"⟩
def zX10_drawn : Zm := (RX10, cX10_drawn, 2, (some .int), { frames := 2, cells := 0, slots := 0, locals := 42 })
theorem bk_X10_drawn_0 : ck_ fX10 (some .int) cX10_drawn 0 [.aload 0, .iload 1] 2 = true := qck_r (nn_ _) (by decide +kernel)
theorem bs_X10_drawn_0 {P : Zt → Option Zv → Prop} (K : Int → Zl → List Zv → Zt → Prop) : sx_ K P [.aload 0, .iload 1] 2 = x_aload 0 (x_iload 1 (K 2)) := ((xe_aload 0).trans (congrArg (x_aload 0) ((xe_iload 1).trans (congrArg (x_iload 1) xe_nil))))
theorem bk_X10_drawn_5 : ck_ fX10 (some .int) cX10_drawn 5 [.ifCond .ne 11, .iconst (-2), .ireturn] 11 = true := qck_r (nn_ _) (by decide +kernel)
theorem bs_X10_drawn_5 {P : Zt → Option Zv → Prop} (K : Int → Zl → List Zv → Zt → Prop) : sx_ K P [.ifCond .ne 11, .iconst (-2), .ireturn] 11 = x_ifCond .ne 11 K (x_iconst (-2) (x_ireturn P)) := ((xe_ifCond .ne 11).trans (congrArg (x_ifCond .ne 11 K) ((xe_iconst (-2)).trans (congrArg (x_iconst (-2)) (xe_ireturn)))))
theorem bk_X10_drawn_11 : ck_ fX10 (some .int) cX10_drawn 11 [.aload 0, .tableswitch 0 10 5 #[], .tableswitch 0 1 1 #[], .ifCond .ne 25, .iconst (-1), .goto 34] 25 = true := qck_r (nn_ _) (by decide +kernel)
theorem bs_X10_drawn_11 {P : Zt → Option Zv → Prop} (K : Int → Zl → List Zv → Zt → Prop) : sx_ K P [.aload 0, .tableswitch 0 10 5 #[], .tableswitch 0 1 1 #[], .ifCond .ne 25, .iconst (-1), .goto 34] 25 = x_aload 0 (x_g1 110 101 (x_g0 101 1 0 4 (x_ifCond .ne 25 K (x_iconst (-1) (x_goto 34 K))))) := ((xe_aload 0).trans (congrArg (x_aload 0) ((xe_g1 (kk := 110) rfl tl_10_5).trans (congrArg (x_g1 110 101) ((xe_g0 (kk := 101) rfl tl_1_1).trans (congrArg (x_g0 101 1 0 4) ((xe_ifCond .ne 25).trans (congrArg (x_ifCond .ne 25 K) ((xe_iconst (-1)).trans (congrArg (x_iconst (-1)) (xe_goto 34)))))))))))
theorem bk_X10_drawn_25 : ck_ fX10 (some .int) cX10_drawn 25 [.aload 0, .tableswitch 0 10 5 #[], .tableswitch 0 1 9 #[], .iload 1, .iaload, .ireturn] 35 = true := qck_r (nn_ _) (by decide +kernel)
theorem bs_X10_drawn_25 {P : Zt → Option Zv → Prop} (K : Int → Zl → List Zv → Zt → Prop) : sx_ K P [.aload 0, .tableswitch 0 10 5 #[], .tableswitch 0 1 9 #[], .iload 1, .iaload, .ireturn] 35 = x_aload 0 (x_g1 110 101 (x_g1 101 429 (x_iload 1 (x_iaload (x_ireturn P))))) := ((xe_aload 0).trans (congrArg (x_aload 0) ((xe_g1 (kk := 110) rfl tl_10_5).trans (congrArg (x_g1 110 101) ((xe_g1 (kk := 101) rfl tl_1_9).trans (congrArg (x_g1 101 429) ((xe_iload 1).trans (congrArg (x_iload 1) ((xe_iaload).trans (congrArg (x_iaload) (xe_ireturn)))))))))))
theorem bk_X10_drawn_34 : ck_ fX10 (some .int) cX10_drawn 34 [.ireturn] 35 = true := qck_r (nn_ _) (by decide +kernel)
theorem bs_X10_drawn_34 {P : Zt → Option Zv → Prop} (K : Int → Zl → List Zv → Zt → Prop) : sx_ K P [.ireturn] 35 = x_ireturn P := (xe_ireturn)
abbrev po_X10_drawn (T : Zt) (c : Int) : Zt → Option Zv → Prop := fun T' r => T = T' ∧ ∃ x : Int, r = some (vI x) ∧ (True)
set_option maxHeartbeats 4000000 in
theorem ct_X10_drawn {T : Zt} {c : Int} : Ct_ yX10_drawn zX10_drawn T [vR 110 0, vI c] (po_X10_drawn T c) := by
  refine ct_of pn_10 rfl rfl (Nat.le_of_ble_eq_true rfl) (fun hT hav => ?_)
  have hr_c : -2147483648 ≤ c ∧ c ≤ 2147483647 := hav (vI c) (List.mem_cons_of_mem _ List.mem_cons_self)
  have hz : zX10_drawn.2.2.2.1 = some .boolean → ∀ (T' : Zt) (x : Int), po_X10_drawn T c T' (some (vI x)) → 0 ≤ x ∧ x ≤ 1 := fun h => by cases h
  have hb_clubs : 0 ≤ T 108 0 2 ∧ T 108 0 2 ≤ 12 := bd_f hT 108 2 tl_8_2 0
  show J_ zX10_drawn T (po_X10_drawn T c) 0 0 0 [some (vR 110 0), some (vI c)] [] T
  refine j_blx (F := fX10) tb_X10 (nn_ _) bk_X10_drawn_0 bs_X10_drawn_0 hz (fun K hK => ?_)
  refine hK 2 _ [vI c, vR 110 0] T ?_
  refine j_callV (y := yX10_isClub) (Yc := zX10_isClub) (rest := []) [vI c] (ct_X10_isClub (T := T)) cl_X10_137 (qd_c (by decide +kernel)) (nn_ _) rfl (rf_of rfl) (Nat.le_of_ble_eq_true rfl) (Nat.le_of_ble_eq_true rfl) (Nat.le_of_ble_eq_true rfl) rfl ?_
  rintro _ _ ⟨rfl, x1, rfl, hx1⟩
  show J_ zX10_drawn T (po_X10_drawn T c) 0 0 5 _ [vI x1] T
  refine j_blx (F := fX10) tb_X10 (nn_ _) bk_X10_drawn_5 bs_X10_drawn_5 hz (fun K hK => ?_)
  refine And.intro (fun c2 => ?_) (fun c2 => ?_)
  · replace hx1 := hx1.resolve_right (fun z => c2 z.1)
    clear c2
    refine hK 11 _ [] T ?_
    refine j_blx (F := fX10) tb_X10 (nn_ _) bk_X10_drawn_11 bs_X10_drawn_11 hz (fun K hK => ?_)
    intro b3 b3b
    refine And.intro (fun c4 => ?_) (fun c4 => ?_)
    · refine hK 25 _ [] T ?_
      refine j_blx (F := fX10) tb_X10 (nn_ _) bk_X10_drawn_25 bs_X10_drawn_25 hz (fun K hK => ?_)
      refine ix_i (by omega) ?_
      intro b5 b5b
      refine (show po_X10_drawn T c T (some (vI (T 429 0 c))) from ?_)
      exact ⟨rfl, _, rfl, by trivial⟩
    · refine hK 34 _ [vI (-1)] T ?_
      refine j_blx (F := fX10) tb_X10 (nn_ _) bk_X10_drawn_34 bs_X10_drawn_34 hz (fun K hK => ?_)
      refine (show po_X10_drawn T c T (some (vI (-1))) from ?_)
      exact ⟨rfl, _, rfl, by trivial⟩
  · replace hx1 := hx1.resolve_left (fun z => absurd (c2.symm.trans z.1) (by decide))
    clear c2
    refine (show po_X10_drawn T c T (some (vI (-2))) from ?_)
    exact ⟨rfl, _, rfl, by trivial⟩
abbrev cX6_addDeduction : ByteArray := prog_8_method_12_code
def yX6_addDeduction : MethodName := ⟨RX6, "addDeduction", "(III)V"⟩
def zX6_addDeduction : Zm := (RX6, cX6_addDeduction, 4, none, { frames := 0, cells := 0, slots := 0, locals := 0 })
abbrev cX6_deductedUpTo : ByteArray := prog_8_method_13_code
def yX6_deductedUpTo : MethodName := ⟨RX6, "deductedUpTo", "(III)I"⟩
def zX6_deductedUpTo : Zm := (RX6, cX6_deductedUpTo, 6, (some .int), { frames := 0, cells := 0, slots := 0, locals := 0 })
theorem bk_X6_deductedUpTo_6 : ck_ fX6 (some .int) cX6_deductedUpTo 6 [.iload 5, .aload 0, .tableswitch 0 6 6 #[], .if_icmp .ge 66, .aload 0, .tableswitch 0 6 7 #[], .iload 5, .iaload, .iload 2, .if_icmp .ne 60, .aload 0, .tableswitch 0 6 8 #[], .iload 5, .iaload, .iload 3, .if_icmp .ne 60, .aload 0, .tableswitch 0 6 10 #[], .iload 5, .iaload, .iload 1, .if_icmp .gt 60, .iload 4, .aload 0, .tableswitch 0 6 9 #[], .iload 5, .iaload, .iadd, .istore 4, .iinc 5 1, .goto 6] 66 = true := qck_r (nn_ _) (by decide +kernel)
theorem bs_X6_deductedUpTo_6 {P : Zt → Option Zv → Prop} (K : Int → Zl → List Zv → Zt → Prop) : sx_ K P [.iload 5, .aload 0, .tableswitch 0 6 6 #[], .if_icmp .ge 66, .aload 0, .tableswitch 0 6 7 #[], .iload 5, .iaload, .iload 2, .if_icmp .ne 60, .aload 0, .tableswitch 0 6 8 #[], .iload 5, .iaload, .iload 3, .if_icmp .ne 60, .aload 0, .tableswitch 0 6 10 #[], .iload 5, .iaload, .iload 1, .if_icmp .gt 60, .iload 4, .aload 0, .tableswitch 0 6 9 #[], .iload 5, .iaload, .iadd, .istore 4, .iinc 5 1, .goto 6] 66 = x_iload 5 (x_aload 0 (x_g0 106 6 0 50 (x_if_icmp .ge 66 K (x_aload 0 (x_g1 106 527 (x_iload 5 (x_iaload (x_iload 2 (x_if_icmp .ne 60 K (x_aload 0 (x_g1 106 528 (x_iload 5 (x_iaload (x_iload 3 (x_if_icmp .ne 60 K (x_aload 0 (x_g1 106 530 (x_iload 5 (x_iaload (x_iload 1 (x_if_icmp .gt 60 K (x_iload 4 (x_aload 0 (x_g1 106 529 (x_iload 5 (x_iaload (x_iadd (x_istore 4 (x_iinc 5 1 (x_goto 6 K)))))))))))))))))))))))))))))) := ((xe_iload 5).trans (congrArg (x_iload 5) ((xe_aload 0).trans (congrArg (x_aload 0) ((xe_g0 (kk := 106) rfl tl_6_6).trans (congrArg (x_g0 106 6 0 50) ((xe_if_icmp .ge 66).trans (congrArg (x_if_icmp .ge 66 K) ((xe_aload 0).trans (congrArg (x_aload 0) ((xe_g1 (kk := 106) rfl tl_6_7).trans (congrArg (x_g1 106 527) ((xe_iload 5).trans (congrArg (x_iload 5) ((xe_iaload).trans (congrArg (x_iaload) ((xe_iload 2).trans (congrArg (x_iload 2) ((xe_if_icmp .ne 60).trans (congrArg (x_if_icmp .ne 60 K) ((xe_aload 0).trans (congrArg (x_aload 0) ((xe_g1 (kk := 106) rfl tl_6_8).trans (congrArg (x_g1 106 528) ((xe_iload 5).trans (congrArg (x_iload 5) ((xe_iaload).trans (congrArg (x_iaload) ((xe_iload 3).trans (congrArg (x_iload 3) ((xe_if_icmp .ne 60).trans (congrArg (x_if_icmp .ne 60 K) ((xe_aload 0).trans (congrArg (x_aload 0) ((xe_g1 (kk := 106) rfl tl_6_10).trans (congrArg (x_g1 106 530) ((xe_iload 5).trans (congrArg (x_iload 5) ((xe_iaload).trans (congrArg (x_iaload) ((xe_iload 1).trans (congrArg (x_iload 1) ((xe_if_icmp .gt 60).trans (congrArg (x_if_icmp .gt 60 K) ((xe_iload 4).trans (congrArg (x_iload 4) ((xe_aload 0).trans (congrArg (x_aload 0) ((xe_g1 (kk := 106) rfl tl_6_9).trans (congrArg (x_g1 106 529) ((xe_iload 5).trans (congrArg (x_iload 5) ((xe_iaload).trans (congrArg (x_iaload) ((xe_iadd).trans (congrArg (x_iadd) ((xe_istore 4).trans (congrArg (x_istore 4) ((xe_iinc 5 1).trans (congrArg (x_iinc 5 1) (xe_goto 6)))))))))))))))))))))))))))))))))))))))))))))))))))))))))))))
theorem bk_X6_deductedUpTo_66 : ck_ fX6 (some .int) cX6_deductedUpTo 66 [.iload 4, .ireturn] 69 = true := qck_r (nn_ _) (by decide +kernel)
theorem bs_X6_deductedUpTo_66 {P : Zt → Option Zv → Prop} (K : Int → Zl → List Zv → Zt → Prop) : sx_ K P [.iload 4, .ireturn] 69 = x_iload 4 (x_ireturn P) := ((xe_iload 4).trans (congrArg (x_iload 4) (xe_ireturn)))
theorem bk_X6_deductedUpTo_60 : ck_ fX6 (some .int) cX6_deductedUpTo 60 [.iinc 5 1, .goto 6] 66 = true := qck_r (nn_ _) (by decide +kernel)
theorem bs_X6_deductedUpTo_60 {P : Zt → Option Zv → Prop} (K : Int → Zl → List Zv → Zt → Prop) : sx_ K P [.iinc 5 1, .goto 6] 66 = x_iinc 5 1 (x_goto 6 K) := ((xe_iinc 5 1).trans (congrArg (x_iinc 5 1) (xe_goto 6)))
theorem bk_X6_deductedUpTo_0 : ck_ fX6 (some .int) cX6_deductedUpTo 0 [.iconst 0, .istore 4, .iconst 0, .istore 5] 6 = true := qck_r (nn_ _) (by decide +kernel)
theorem bs_X6_deductedUpTo_0 {P : Zt → Option Zv → Prop} (K : Int → Zl → List Zv → Zt → Prop) : sx_ K P [.iconst 0, .istore 4, .iconst 0, .istore 5] 6 = x_iconst 0 (x_istore 4 (x_iconst 0 (x_istore 5 (K 6)))) := ((xe_iconst 0).trans (congrArg (x_iconst 0) ((xe_istore 4).trans (congrArg (x_istore 4) ((xe_iconst 0).trans (congrArg (x_iconst 0) ((xe_istore 5).trans (congrArg (x_istore 5) xe_nil))))))))
abbrev po_X6_deductedUpTo (T : Zt) (d c cl : Int) : Zt → Option Zv → Prop := fun T' r => T = T' ∧ ∃ x : Int, r = some (vI x) ∧ (0 ≤ x ∧ x ≤ 4950)
set_option maxHeartbeats 4000000 in
theorem ct_X6_deductedUpTo {T : Zt} {d c cl : Int} : Ct_ yX6_deductedUpTo zX6_deductedUpTo T [vR 106 0, vI d, vI c, vI cl] (po_X6_deductedUpTo T d c cl) := by
  refine ct_of pn_6 rfl rfl (Nat.le_of_ble_eq_true rfl) (fun hT hav => ?_)
  have hr_d : -2147483648 ≤ d ∧ d ≤ 2147483647 := hav (vI d) (List.mem_cons_of_mem _ List.mem_cons_self)
  have hr_c : -2147483648 ≤ c ∧ c ≤ 2147483647 := hav (vI c) (List.mem_cons_of_mem _ (List.mem_cons_of_mem _ List.mem_cons_self))
  have hr_cl : -2147483648 ≤ cl ∧ cl ≤ 2147483647 := hav (vI cl) (List.mem_cons_of_mem _ (List.mem_cons_of_mem _ (List.mem_cons_of_mem _ List.mem_cons_self)))
  have hz : zX6_deductedUpTo.2.2.2.1 = some .boolean → ∀ (T' : Zt) (x : Int), po_X6_deductedUpTo T d c cl T' (some (vI x)) → 0 ≤ x ∧ x ≤ 1 := fun h => by cases h
  have hb_deductions : 0 ≤ T 106 0 6 ∧ T 106 0 6 ≤ 50 := bd_f hT 106 6 tl_6_6 0
  show J_ zX6_deductedUpTo T (po_X6_deductedUpTo T d c cl) 0 0 0 [some (vR 106 0), some (vI d), some (vI c), some (vI cl), none, none] [] T
  have c_6 : ∀ (nn : Nat) (u : Int) (i : Int), ((50 - i).toNat) ≤ nn → (0 ≤ i ∧ i ≤ 50 ∧ 0 ≤ u ∧ u ≤ 99 * i) → J_ zX6_deductedUpTo T (po_X6_deductedUpTo T d c cl) 0 0 6 [some (vR 106 0), some (vI d), some (vI c), some (vI cl), some (vI u), some (vI i)] [] T := by
    intro nn
    induction nn using Nat.strongRecOn with
    | _ nn ih_6 =>
      intro u i hm_6 i1
      replace hm_6 := fun (_ : Unit) => hm_6
      refine j_blx (F := fX6) tb_X6 (nn_ _) bk_X6_deductedUpTo_6 bs_X6_deductedUpTo_6 hz (fun K hK => ?_)
      intro b1 b1b
      refine And.intro (fun c2 => ?_) (fun c2 => ?_)
      · refine hK 66 _ [] T ?_
        refine j_blx (F := fX6) tb_X6 (nn_ _) bk_X6_deductedUpTo_66 bs_X6_deductedUpTo_66 hz (fun K hK => ?_)
        refine (show po_X6_deductedUpTo T d c cl T (some (vI u)) from ?_)
        exact ⟨rfl, _, rfl, by omega⟩
      · refine ix_i (by omega) ?_
        intro b3 b3b
        refine And.intro (fun c4 => ?_) (fun c4 => ?_)
        · refine hK 60 _ [] T ?_
          refine j_blx (F := fX6) tb_X6 (nn_ _) bk_X6_deductedUpTo_60 bs_X6_deductedUpTo_60 hz (fun K hK => ?_)
          refine rg_i (by omega) ?_
          refine hK 6 [some (vR 106 0), some (vI d), some (vI c), some (vI cl), some (vI u), some (vI (i + 1))] [] T ?_
          refine ih_6 _ ?_ u (i + 1) (Nat.le_refl _) ?_
          · have hm_6 := hm_6 (); omega
          · omega
        · refine ix_i (by omega) ?_
          intro b5 b5b
          refine And.intro (fun c6 => ?_) (fun c6 => ?_)
          · refine hK 60 [some (vR 106 0), some (vI d), some (vI c), some (vI cl), some (vI u), some (vI i)] [] T ?_
            refine j_blx (F := fX6) tb_X6 (nn_ _) bk_X6_deductedUpTo_60 bs_X6_deductedUpTo_60 hz (fun K hK => ?_)
            refine rg_i (by omega) ?_
            refine hK 6 [some (vR 106 0), some (vI d), some (vI c), some (vI cl), some (vI u), some (vI (i + 1))] [] T ?_
            refine ih_6 _ ?_ u (i + 1) (Nat.le_refl _) ?_
            · have hm_6 := hm_6 (); omega
            · omega
          · refine ix_i (by omega) ?_
            intro b7 b7b
            refine And.intro (fun c8 => ?_) (fun c8 => ?_)
            · refine hK 60 [some (vR 106 0), some (vI d), some (vI c), some (vI cl), some (vI u), some (vI i)] [] T ?_
              refine j_blx (F := fX6) tb_X6 (nn_ _) bk_X6_deductedUpTo_60 bs_X6_deductedUpTo_60 hz (fun K hK => ?_)
              refine rg_i (by omega) ?_
              refine hK 6 [some (vR 106 0), some (vI d), some (vI c), some (vI cl), some (vI u), some (vI (i + 1))] [] T ?_
              refine ih_6 _ ?_ u (i + 1) (Nat.le_refl _) ?_
              · have hm_6 := hm_6 (); omega
              · omega
            · refine ix_i (by omega) ?_
              intro b9 b9b
              refine rg_i (by omega) ?_
              refine rg_i (by omega) ?_
              refine hK 6 [some (vR 106 0), some (vI d), some (vI c), some (vI cl), some (vI (u + (T 529 0 i))), some (vI (i + 1))] [] T ?_
              refine ih_6 _ ?_ (u + (T 529 0 i)) (i + 1) (Nat.le_refl _) ?_
              · have hm_6 := hm_6 (); omega
              · omega
  refine j_blx (F := fX6) tb_X6 (nn_ _) bk_X6_deductedUpTo_0 bs_X6_deductedUpTo_0 hz (fun K hK => ?_)
  refine hK 6 [some (vR 106 0), some (vI d), some (vI c), some (vI cl), some (vI 0), some (vI 0)] [] T ?_
  refine c_6 _ 0 0 (Nat.le_refl _) ?_
  · omega
def KA_ (T : Zt) : Prop := (∀ i : Int, 0 ≤ i → i < T 106 0 2 → T 521 0 i ≠ 0) ∧ (∀ i : Int, 0 ≤ i → i < T 106 0 4 → T 523 0 i ≠ 0)
theorem KA__f {ws : List (Nat × List Int)} {T T' : Zt} (h : KA_ T) (f : fr_ ws T T') (w : (∀ j, fw_ ws 521 j = false) ∧ (∀ j, fw_ ws 523 j = false) ∧ fw_ ws 106 2 = false ∧ fw_ ws 106 4 = false ∧ True) : KA_ T' := by
  have e0 : ∀ i j, T' 521 i j = T 521 i j := fun i j => f 521 i j (w.1 j)
  have e1 : ∀ i j, T' 523 i j = T 523 i j := fun i j => f 523 i j (w.2.1 j)
  have e2 : ∀ i, T' 106 i 2 = T 106 i 2 := fun i => f 106 i 2 w.2.2.1
  have e3 : ∀ i, T' 106 i 4 = T 106 i 4 := fun i => f 106 i 4 w.2.2.2.1
  simp only [KA_, e0, e1, e2, e3] at h ⊢
  exact h
abbrev cX10_officialOf : ByteArray := prog_1_method_43_code
def yX10_officialOf : MethodName := ⟨RX10, "officialOf", "(I)I"⟩
def zX10_officialOf : Zm := (RX10, cX10_officialOf, 2, (some .int), { frames := 2, cells := 0, slots := 0, locals := 42 })
theorem bk_X10_officialOf_0 : ck_ fX10 (some .int) cX10_officialOf 0 [.aload 0, .iload 1] 2 = true := qck_r (nn_ _) (by decide +kernel)
theorem bs_X10_officialOf_0 {P : Zt → Option Zv → Prop} (K : Int → Zl → List Zv → Zt → Prop) : sx_ K P [.aload 0, .iload 1] 2 = x_aload 0 (x_iload 1 (K 2)) := ((xe_aload 0).trans (congrArg (x_aload 0) ((xe_iload 1).trans (congrArg (x_iload 1) xe_nil))))
theorem bk_X10_officialOf_5 : ck_ fX10 (some .int) cX10_officialOf 5 [.ifCond .eq 23, .aload 0, .tableswitch 0 10 2 #[], .tableswitch 0 6 3 #[], .iload 1, .aaload, .tableswitch 0 2 7 #[], .goto 25] 23 = true := qck_r (nn_ _) (by decide +kernel)
theorem bs_X10_officialOf_5 {P : Zt → Option Zv → Prop} (K : Int → Zl → List Zv → Zt → Prop) : sx_ K P [.ifCond .eq 23, .aload 0, .tableswitch 0 10 2 #[], .tableswitch 0 6 3 #[], .iload 1, .aaload, .tableswitch 0 2 7 #[], .goto 25] 23 = x_ifCond .eq 23 K (x_aload 0 (x_g1 110 106 (x_g1 106 523 (x_iload 1 (x_aaload (x_g0 102 7 (-1) 7 (x_goto 25 K))))))) := ((xe_ifCond .eq 23).trans (congrArg (x_ifCond .eq 23 K) ((xe_aload 0).trans (congrArg (x_aload 0) ((xe_g1 (kk := 110) rfl tl_10_2).trans (congrArg (x_g1 110 106) ((xe_g1 (kk := 106) rfl tl_6_3).trans (congrArg (x_g1 106 523) ((xe_iload 1).trans (congrArg (x_iload 1) ((xe_aaload).trans (congrArg (x_aaload) ((xe_g0 (kk := 102) rfl tl_2_7).trans (congrArg (x_g0 102 7 (-1) 7) (xe_goto 25)))))))))))))))
theorem bk_X10_officialOf_23 : ck_ fX10 (some .int) cX10_officialOf 23 [.iconst (-2), .ireturn] 26 = true := qck_r (nn_ _) (by decide +kernel)
theorem bs_X10_officialOf_23 {P : Zt → Option Zv → Prop} (K : Int → Zl → List Zv → Zt → Prop) : sx_ K P [.iconst (-2), .ireturn] 26 = x_iconst (-2) (x_ireturn P) := ((xe_iconst (-2)).trans (congrArg (x_iconst (-2)) (xe_ireturn)))
theorem bk_X10_officialOf_25 : ck_ fX10 (some .int) cX10_officialOf 25 [.ireturn] 26 = true := qck_r (nn_ _) (by decide +kernel)
theorem bs_X10_officialOf_25 {P : Zt → Option Zv → Prop} (K : Int → Zl → List Zv → Zt → Prop) : sx_ K P [.ireturn] 26 = x_ireturn P := (xe_ireturn)
abbrev po_X10_officialOf (T : Zt) (m : Int) : Zt → Option Zv → Prop := fun T' r => T = T' ∧ ∃ x : Int, r = some (vI x) ∧ (True)
set_option maxHeartbeats 4000000 in
theorem ct_X10_officialOf {T : Zt} {m : Int} (hka : KA_ T) : Ct_ yX10_officialOf zX10_officialOf T [vR 110 0, vI m] (po_X10_officialOf T m) := by
  refine ct_of pn_10 rfl rfl (Nat.le_of_ble_eq_true rfl) (fun hT hav => ?_)
  have hr_m : -2147483648 ≤ m ∧ m ≤ 2147483647 := hav (vI m) (List.mem_cons_of_mem _ List.mem_cons_self)
  have hz : zX10_officialOf.2.2.2.1 = some .boolean → ∀ (T' : Zt) (x : Int), po_X10_officialOf T m T' (some (vI x)) → 0 ≤ x ∧ x ≤ 1 := fun h => by cases h
  have hb_matchCount : 0 ≤ T 106 0 4 ∧ T 106 0 4 ≤ 400 := bd_f hT 106 4 tl_6_4 0
  show J_ zX10_officialOf T (po_X10_officialOf T m) 0 0 0 [some (vR 110 0), some (vI m)] [] T
  refine j_blx (F := fX10) tb_X10 (nn_ _) bk_X10_officialOf_0 bs_X10_officialOf_0 hz (fun K hK => ?_)
  refine hK 2 _ [vI m, vR 110 0] T ?_
  refine j_callV (y := yX10_isMatch) (Yc := zX10_isMatch) (rest := []) [vI m] (ct_X10_isMatch (T := T)) cl_X10_195 (qd_c (by decide +kernel)) (nn_ _) rfl (rf_of rfl) (Nat.le_of_ble_eq_true rfl) (Nat.le_of_ble_eq_true rfl) (Nat.le_of_ble_eq_true rfl) rfl ?_
  rintro _ _ ⟨rfl, x1, rfl, hx1⟩
  show J_ zX10_officialOf T (po_X10_officialOf T m) 0 0 5 _ [vI x1] T
  refine j_blx (F := fX10) tb_X10 (nn_ _) bk_X10_officialOf_5 bs_X10_officialOf_5 hz (fun K hK => ?_)
  refine And.intro (fun c2 => ?_) (fun c2 => ?_)
  · replace hx1 := hx1.resolve_left (fun z => absurd (c2.symm.trans z.1) (by decide))
    clear c2
    refine hK 23 _ [] T ?_
    refine j_blx (F := fX10) tb_X10 (nn_ _) bk_X10_officialOf_23 bs_X10_officialOf_23 hz (fun K hK => ?_)
    refine (show po_X10_officialOf T m T (some (vI (-2))) from ?_)
    exact ⟨rfl, _, rfl, by trivial⟩
  · replace hx1 := hx1.resolve_right (fun z => c2 z.1)
    clear c2
    refine ix_i (by omega) ?_
    refine And.intro (fun c3 => ?_) (fun c3 => ?_)
    · exact absurd c3 (hka.2 m (by omega) (by omega))
    · intro b4 b4b
      refine hK 25 _ [vI (T 102 m 7)] T ?_
      refine j_blx (F := fX10) tb_X10 (nn_ _) bk_X10_officialOf_25 bs_X10_officialOf_25 hz (fun K hK => ?_)
      refine (show po_X10_officialOf T m T (some (vI (T 102 m 7))) from ?_)
      exact ⟨rfl, _, rfl, by trivial⟩
abbrev cX10_rule : ByteArray := prog_1_method_6_code
def yX10_rule : MethodName := ⟨RX10, "rule", "(II)I"⟩
def zX10_rule : Zm := (RX10, cX10_rule, 5, (some .int), { frames := 2, cells := 0, slots := 0, locals := 42 })
set_option maxRecDepth 100000 in
theorem cl_X10_107 : cv_ RX10 107 yX10_isCompetition zX10_isCompetition 10 1 := ⟨gi_V (lwq_3 (dqc_m (dqc_m (dqc_m (dqc_m (dqa_m (List.mem_of_getElem? (i := 6) rfl)))))) rfl : Cond.methodLink RX10 107 yX10_isCompetition ∈ lw_g) (lwq_3 (dqc_m (dqc_m (dqc_m (dqc_m (dqa_m (dqa_m (List.mem_of_getElem? (i := 0) rfl))))))) rfl : Cond.instanceMethod yX10_isCompetition ∈ lw_g) (lw_sel 1 rfl : Cond.selects yX10_isCompetition.cls yX10_isCompetition yX10_isCompetition ∈ lw_g) (lwq_1 (List.mem_of_getElem? (i := 1) rfl) rfl : Cond.initialized yX10_isCompetition.cls ∈ lw_g) (lwq_3 (dqc_m (dqc_m (dqc_m (dqc_m (dqa_m (dqa_m (List.mem_of_getElem? (i := 1) rfl))))))) rfl : Cond.code yX10_isCompetition cX10_isCompetition 2 (some .boolean) ∈ lw_g), ⟨nmh_0.1, nmh_0.2, pdq_7⟩, ⟨_, _, rfl⟩⟩
abbrev cX10_deduct : ByteArray := prog_1_method_18_code
def yX10_deduct : MethodName := ⟨RX10, "deduct", "(III)I"⟩
def zX10_deduct : Zm := (RX10, cX10_deduct, 4, (some .int), { frames := 2, cells := 0, slots := 0, locals := 42 })
set_option maxRecDepth 100000 in
theorem cl_X10_247 : cv_ RX10 247 yX6_addDeduction zX6_addDeduction 6 3 := ⟨gi_V (lwq_4 (dqc_m (dqc_m (dqc_m (dqa_m (dqa_m (dqa_m (List.mem_of_getElem? (i := 7) rfl))))))) rfl : Cond.methodLink RX10 247 yX6_addDeduction ∈ lw_g) (lwq_4 (dqc_m (dqc_m (dqc_m (dqc_m (List.mem_of_getElem? (i := 0) rfl))))) rfl : Cond.instanceMethod yX6_addDeduction ∈ lw_g) (lwq_4 (dqc_m (dqc_m (dqc_m (dqc_m (List.mem_of_getElem? (i := 1) rfl))))) rfl : Cond.selects yX6_addDeduction.cls yX6_addDeduction yX6_addDeduction ∈ lw_g) (lwq_1 (List.mem_of_getElem? (i := 4) rfl) rfl : Cond.initialized yX6_addDeduction.cls ∈ lw_g) (lwq_4 (dqc_m (dqc_m (dqc_m (dqc_m (List.mem_of_getElem? (i := 2) rfl))))) rfl : Cond.code yX6_addDeduction cX6_addDeduction 4 none ∈ lw_g), ⟨nmh_6.1, nmh_6.2, pdq_3⟩, ⟨_, _, rfl⟩⟩
abbrev po_X10_deduct (T : Zt) (c cl p : Int) : Zt → Option Zv → Prop := fun T' r => ∃ x : Int, r = some (vI x) ∧ fr_ [(106, [6]), (527, []), (528, []), (529, []), (530, [])] T T' ∧ (x = x)
def fJ7 : Zf := ([], [], [], [])
set_option maxRecDepth 100000 in
set_option maxHeartbeats 4000000 in
theorem tg_J7 : ∀ q ∈ fJ7.1, fl_ RJ7 q.1 q.2.1 q.2.2 := fun _ h => absurd h List.not_mem_nil
set_option maxRecDepth 100000 in
set_option maxHeartbeats 4000000 in
theorem tp_J7 : ∀ q ∈ fJ7.2.1, fp_ RJ7 q.1 q.2.1 q.2.2 := fun _ h => absurd h List.not_mem_nil
theorem tb_J7 : tb_ RJ7 fJ7 := ⟨tg_J7, tp_J7, fun _ h => absurd h List.not_mem_nil, fun _ h => absurd h List.not_mem_nil⟩
theorem an_1b (x : Int) : 0 ≤ an_ x 1 ∧ an_ x 1 ≤ 1 := by
  have h : ((Int32.ofInt x).toBitVec &&& (Int32.ofInt 1).toBitVec).toNat ≤ 1 := by
    rw [BitVec.toNat_and]; exact Nat.and_le_right
  show 0 ≤ ((Int32.ofInt x).toBitVec &&& (Int32.ofInt 1).toBitVec).toInt ∧ ((Int32.ofInt x).toBitVec &&& (Int32.ofInt 1).toBitVec).toInt ≤ 1
  rw [BitVec.toInt_eq_toNat_cond]
  split <;> omega
/-- only what has the index p has changed -/
def oi_ (T T1 : Zt) (p : Int) : Prop := ∀ k i j, i ≠ p → T1 k i j = T k i j
theorem oi_r {T : Zt} {p : Int} : oi_ T T p := fun _ _ _ _ => rfl
theorem oi_u {T T1 T2 : Zt} {p j v : Int} {k : Nat} (h : oi_ T T1 p) (e : T2 = up_ T1 k p j v) : oi_ T T2 p := fun k' i j' hi => (up_g e (fun q => hi q.2.1)).trans (h k' i j' hi)
theorem oi_t {T T1 T2 : Zt} {p : Int} (h : oi_ T T1 p) (g : oi_ T1 T2 p) : oi_ T T2 p := fun k i j hi => (g k i j hi).trans (h k i j hi)
abbrev cJ7_fill_53178 : ByteArray := prog_21_method_103_code
def yJ7_fill_53178 : MethodName := ⟨RJ7, "fill", "([II)V"⟩
def zJ7_fill_53178 : Zm := (RJ7, cJ7_fill_53178, 4, none, { frames := 0, cells := 0, slots := 0, locals := 0 })
theorem bk_J7_fill_53178_5 : ck_ fJ7 none cJ7_fill_53178 5 [.iload 2, .iload 3, .if_icmp .ge 20, .aload 0, .iload 2, .iload 1, .iastore, .iinc 2 1, .goto 5] 20 = true := qck_r (nn_ _) (by decide +kernel)
theorem bs_J7_fill_53178_5 {P : Zt → Option Zv → Prop} (K : Int → Zl → List Zv → Zt → Prop) : sx_ K P [.iload 2, .iload 3, .if_icmp .ge 20, .aload 0, .iload 2, .iload 1, .iastore, .iinc 2 1, .goto 5] 20 = x_iload 2 (x_iload 3 (x_if_icmp .ge 20 K (x_aload 0 (x_iload 2 (x_iload 1 (x_iastore (x_iinc 2 1 (x_goto 5 K)))))))) := ((xe_iload 2).trans (congrArg (x_iload 2) ((xe_iload 3).trans (congrArg (x_iload 3) ((xe_if_icmp .ge 20).trans (congrArg (x_if_icmp .ge 20 K) ((xe_aload 0).trans (congrArg (x_aload 0) ((xe_iload 2).trans (congrArg (x_iload 2) ((xe_iload 1).trans (congrArg (x_iload 1) ((xe_iastore).trans (congrArg (x_iastore) ((xe_iinc 2 1).trans (congrArg (x_iinc 2 1) (xe_goto 5)))))))))))))))))
theorem bk_J7_fill_53178_20 : ck_ fJ7 none cJ7_fill_53178 20 [.return_] 21 = true := qck_r (nn_ _) (by decide +kernel)
theorem bs_J7_fill_53178_20 {P : Zt → Option Zv → Prop} (K : Int → Zl → List Zv → Zt → Prop) : sx_ K P [.return_] 21 = x_return_ P := (xe_return_)
theorem bk_J7_fill_53178_0 : ck_ fJ7 none cJ7_fill_53178 0 [.iconst 0, .istore 2, .aload 0, .arraylength, .istore 3] 5 = true := qck_r (nn_ _) (by decide +kernel)
theorem bs_J7_fill_53178_0 {P : Zt → Option Zv → Prop} (K : Int → Zl → List Zv → Zt → Prop) : sx_ K P [.iconst 0, .istore 2, .aload 0, .arraylength, .istore 3] 5 = x_iconst 0 (x_istore 2 (x_aload 0 (x_arraylength (x_istore 3 (K 5))))) := ((xe_iconst 0).trans (congrArg (x_iconst 0) ((xe_istore 2).trans (congrArg (x_istore 2) ((xe_aload 0).trans (congrArg (x_aload 0) ((xe_arraylength).trans (congrArg (x_arraylength) ((xe_istore 3).trans (congrArg (x_istore 3) xe_nil))))))))))
abbrev po_J7_fill_428 (T : Zt) (p : Int) (v : Int) : Zt → Option Zv → Prop := fun T' r => r = none ∧ fr_ [(428, [])] T T' ∧ oi_ T T' p ∧ ∀ j, 0 ≤ j → j < 12 → T' 428 p j = v
set_option maxHeartbeats 4000000 in
theorem ct_J7_fill_428 {T : Zt} {p : Int} {v : Int} (h1 : (-1) ≤ v ∧ v ≤ 2) : Ct_ yJ7_fill_53178 zJ7_fill_53178 T [vR 428 p, vI v] (po_J7_fill_428 T p v) := by
  refine ct_of (by decide) rfl rfl (Nat.le_of_ble_eq_true rfl) (fun hT hav => ?_)
  have hr_v : -2147483648 ≤ v ∧ v ≤ 2147483647 := hav (vI v) (List.mem_cons_of_mem _ List.mem_cons_self)
  have hz : zJ7_fill_53178.2.2.2.1 = some .boolean → ∀ (T' : Zt) (x : Int), po_J7_fill_428 T p v T' (some (vI x)) → 0 ≤ x ∧ x ≤ 1 := fun h => by cases h
  show J_ zJ7_fill_53178 T (po_J7_fill_428 T p v) 0 0 0 [some (vR 428 p), some (vI v), none, none] [] T
  have c_5 : ∀ (nn : Nat) (j : Int) (T1 : Zt), ((12 - j).toNat) ≤ nn → (fr_ [(428, [])] T T1) → (0 ≤ j ∧ j ≤ 12) → (oi_ T T1 p) → (∀ q, 0 ≤ q → q < j → T1 428 p q = v) → J_ zJ7_fill_53178 T (po_J7_fill_428 T p v) 0 0 5 [some (vR 428 p), some (vI v), some (vI j), some (vI 12)] [] T1 := by
    intro nn
    induction nn using Nat.strongRecOn with
    | _ nn ih_5 =>
      intro j T1 hm_5 hf_5 i1 o1 f1
      replace hm_5 := fun (_ : Unit) => hm_5
      refine j_blx (F := fJ7) tb_J7 (nn_ _) bk_J7_fill_53178_5 bs_J7_fill_53178_5 hz (fun K hK => ?_)
      refine And.intro (fun c1 => ?_) (fun c1 => ?_)
      · refine hK 20 _ [] T1 ?_
        refine j_blx (F := fJ7) tb_J7 (nn_ _) bk_J7_fill_53178_20 bs_J7_fill_53178_20 hz (fun K hK => ?_)
        refine (show po_J7_fill_428 T p v T1 (none) from ?_)
        exact ⟨rfl, fr_t (fr_0 _ _) (fr_s hf_5 rfl), o1, fun q a b => f1 q a (by omega)⟩
      · refine iy_i (by omega) (by omega) ?_
        refine x_nm (fun U2 hU2 => ?_)
        have e3 := up_f hU2
        refine rg_i (by omega) ?_
        refine hK 5 [some (vR 428 p), some (vI v), some (vI (j + 1)), some (vI 12)] [] U2 ?_
        refine ih_5 _ ?_ (j + 1) U2 (Nat.le_refl _) ?_ ?_ ?_ ?_
        · have hm_5 := hm_5 (); omega
        · exact fr_u (fr_t (fr_0 _ _) (fr_s hf_5 rfl)) hU2 rfl
        · omega
        · exact oi_u o1 hU2
        · intro q a b
          by_cases z : q = j
          · rw [z]; exact up_f hU2
          · rw [up_g hU2 (fun y => z y.2.2)]; exact f1 q a (by omega)
  refine j_blx (F := fJ7) tb_J7 (nn_ _) bk_J7_fill_53178_0 bs_J7_fill_53178_0 hz (fun K hK => ?_)
  refine hK 5 [some (vR 428 p), some (vI v), some (vI 0), some (vI 12)] [] T ?_
  refine c_5 _ 0 T (Nat.le_refl _) ?_ ?_ ?_ ?_
  · exact fr_0 _ _
  · omega
  · exact oi_r
  · intro q a b; omega
abbrev po_J7_fill_429 (T : Zt) (p : Int) (v : Int) : Zt → Option Zv → Prop := fun T' r => r = none ∧ fr_ [(429, [])] T T' ∧ oi_ T T' p ∧ ∀ j, 0 ≤ j → j < 12 → T' 429 p j = v
set_option maxHeartbeats 4000000 in
theorem ct_J7_fill_429 {T : Zt} {p : Int} {v : Int} (h1 : (-1) ≤ v ∧ v ≤ 3) : Ct_ yJ7_fill_53178 zJ7_fill_53178 T [vR 429 p, vI v] (po_J7_fill_429 T p v) := by
  refine ct_of (by decide) rfl rfl (Nat.le_of_ble_eq_true rfl) (fun hT hav => ?_)
  have hr_v : -2147483648 ≤ v ∧ v ≤ 2147483647 := hav (vI v) (List.mem_cons_of_mem _ List.mem_cons_self)
  have hz : zJ7_fill_53178.2.2.2.1 = some .boolean → ∀ (T' : Zt) (x : Int), po_J7_fill_429 T p v T' (some (vI x)) → 0 ≤ x ∧ x ≤ 1 := fun h => by cases h
  show J_ zJ7_fill_53178 T (po_J7_fill_429 T p v) 0 0 0 [some (vR 429 p), some (vI v), none, none] [] T
  have c_5 : ∀ (nn : Nat) (j : Int) (T1 : Zt), ((12 - j).toNat) ≤ nn → (fr_ [(429, [])] T T1) → (0 ≤ j ∧ j ≤ 12) → (oi_ T T1 p) → (∀ q, 0 ≤ q → q < j → T1 429 p q = v) → J_ zJ7_fill_53178 T (po_J7_fill_429 T p v) 0 0 5 [some (vR 429 p), some (vI v), some (vI j), some (vI 12)] [] T1 := by
    intro nn
    induction nn using Nat.strongRecOn with
    | _ nn ih_5 =>
      intro j T1 hm_5 hf_5 i1 o1 f1
      replace hm_5 := fun (_ : Unit) => hm_5
      refine j_blx (F := fJ7) tb_J7 (nn_ _) bk_J7_fill_53178_5 bs_J7_fill_53178_5 hz (fun K hK => ?_)
      refine And.intro (fun c1 => ?_) (fun c1 => ?_)
      · refine hK 20 _ [] T1 ?_
        refine j_blx (F := fJ7) tb_J7 (nn_ _) bk_J7_fill_53178_20 bs_J7_fill_53178_20 hz (fun K hK => ?_)
        refine (show po_J7_fill_429 T p v T1 (none) from ?_)
        exact ⟨rfl, fr_t (fr_0 _ _) (fr_s hf_5 rfl), o1, fun q a b => f1 q a (by omega)⟩
      · refine iy_i (by omega) (by omega) ?_
        refine x_nm (fun U2 hU2 => ?_)
        have e3 := up_f hU2
        refine rg_i (by omega) ?_
        refine hK 5 [some (vR 429 p), some (vI v), some (vI (j + 1)), some (vI 12)] [] U2 ?_
        refine ih_5 _ ?_ (j + 1) U2 (Nat.le_refl _) ?_ ?_ ?_ ?_
        · have hm_5 := hm_5 (); omega
        · exact fr_u (fr_t (fr_0 _ _) (fr_s hf_5 rfl)) hU2 rfl
        · omega
        · exact oi_u o1 hU2
        · intro q a b
          by_cases z : q = j
          · rw [z]; exact up_f hU2
          · rw [up_g hU2 (fun y => z y.2.2)]; exact f1 q a (by omega)
  refine j_blx (F := fJ7) tb_J7 (nn_ _) bk_J7_fill_53178_0 bs_J7_fill_53178_0 hz (fun K hK => ?_)
  refine hK 5 [some (vR 429 p), some (vI v), some (vI 0), some (vI 12)] [] T ?_
  refine c_5 _ 0 T (Nat.le_refl _) ?_ ?_ ?_ ?_
  · exact fr_0 _ _
  · omega
  · exact oi_r
  · intro q a b; omega
abbrev po_J7_fill_430 (T : Zt) (p : Int) (v : Int) : Zt → Option Zv → Prop := fun T' r => r = none ∧ fr_ [(430, [])] T T' ∧ oi_ T T' p ∧ ∀ j, 0 ≤ j → j < 3 → T' 430 p j = v
set_option maxHeartbeats 4000000 in
theorem ct_J7_fill_430 {T : Zt} {p : Int} {v : Int} (h1 : 0 ≤ v ∧ v ≤ 4) : Ct_ yJ7_fill_53178 zJ7_fill_53178 T [vR 430 p, vI v] (po_J7_fill_430 T p v) := by
  refine ct_of (by decide) rfl rfl (Nat.le_of_ble_eq_true rfl) (fun hT hav => ?_)
  have hr_v : -2147483648 ≤ v ∧ v ≤ 2147483647 := hav (vI v) (List.mem_cons_of_mem _ List.mem_cons_self)
  have hz : zJ7_fill_53178.2.2.2.1 = some .boolean → ∀ (T' : Zt) (x : Int), po_J7_fill_430 T p v T' (some (vI x)) → 0 ≤ x ∧ x ≤ 1 := fun h => by cases h
  show J_ zJ7_fill_53178 T (po_J7_fill_430 T p v) 0 0 0 [some (vR 430 p), some (vI v), none, none] [] T
  have c_5 : ∀ (nn : Nat) (j : Int) (T1 : Zt), ((3 - j).toNat) ≤ nn → (fr_ [(430, [])] T T1) → (0 ≤ j ∧ j ≤ 3) → (oi_ T T1 p) → (∀ q, 0 ≤ q → q < j → T1 430 p q = v) → J_ zJ7_fill_53178 T (po_J7_fill_430 T p v) 0 0 5 [some (vR 430 p), some (vI v), some (vI j), some (vI 3)] [] T1 := by
    intro nn
    induction nn using Nat.strongRecOn with
    | _ nn ih_5 =>
      intro j T1 hm_5 hf_5 i1 o1 f1
      replace hm_5 := fun (_ : Unit) => hm_5
      refine j_blx (F := fJ7) tb_J7 (nn_ _) bk_J7_fill_53178_5 bs_J7_fill_53178_5 hz (fun K hK => ?_)
      refine And.intro (fun c1 => ?_) (fun c1 => ?_)
      · refine hK 20 _ [] T1 ?_
        refine j_blx (F := fJ7) tb_J7 (nn_ _) bk_J7_fill_53178_20 bs_J7_fill_53178_20 hz (fun K hK => ?_)
        refine (show po_J7_fill_430 T p v T1 (none) from ?_)
        exact ⟨rfl, fr_t (fr_0 _ _) (fr_s hf_5 rfl), o1, fun q a b => f1 q a (by omega)⟩
      · refine iy_i (by omega) (by omega) ?_
        refine x_nm (fun U2 hU2 => ?_)
        have e3 := up_f hU2
        refine rg_i (by omega) ?_
        refine hK 5 [some (vR 430 p), some (vI v), some (vI (j + 1)), some (vI 3)] [] U2 ?_
        refine ih_5 _ ?_ (j + 1) U2 (Nat.le_refl _) ?_ ?_ ?_ ?_
        · have hm_5 := hm_5 (); omega
        · exact fr_u (fr_t (fr_0 _ _) (fr_s hf_5 rfl)) hU2 rfl
        · omega
        · exact oi_u o1 hU2
        · intro q a b
          by_cases z : q = j
          · rw [z]; exact up_f hU2
          · rw [up_g hU2 (fun y => z y.2.2)]; exact f1 q a (by omega)
  refine j_blx (F := fJ7) tb_J7 (nn_ _) bk_J7_fill_53178_0 bs_J7_fill_53178_0 hz (fun K hK => ?_)
  refine hK 5 [some (vR 430 p), some (vI v), some (vI 0), some (vI 3)] [] T ?_
  refine c_5 _ 0 T (Nat.le_refl _) ?_ ?_ ?_ ?_
  · exact fr_0 _ _
  · omega
  · exact oi_r
  · intro q a b; omega
abbrev po_J7_fill_431 (T : Zt) (p : Int) (v : Int) : Zt → Option Zv → Prop := fun T' r => r = none ∧ fr_ [(431, [])] T T' ∧ oi_ T T' p ∧ ∀ j, 0 ≤ j → j < 48 → T' 431 p j = v
set_option maxHeartbeats 4000000 in
theorem ct_J7_fill_431 {T : Zt} {p : Int} {v : Int} (h1 : (-2147483648) ≤ v ∧ v ≤ 2147483647) : Ct_ yJ7_fill_53178 zJ7_fill_53178 T [vR 431 p, vI v] (po_J7_fill_431 T p v) := by
  refine ct_of (by decide) rfl rfl (Nat.le_of_ble_eq_true rfl) (fun hT hav => ?_)
  have hr_v : -2147483648 ≤ v ∧ v ≤ 2147483647 := hav (vI v) (List.mem_cons_of_mem _ List.mem_cons_self)
  have hz : zJ7_fill_53178.2.2.2.1 = some .boolean → ∀ (T' : Zt) (x : Int), po_J7_fill_431 T p v T' (some (vI x)) → 0 ≤ x ∧ x ≤ 1 := fun h => by cases h
  show J_ zJ7_fill_53178 T (po_J7_fill_431 T p v) 0 0 0 [some (vR 431 p), some (vI v), none, none] [] T
  have c_5 : ∀ (nn : Nat) (j : Int) (T1 : Zt), ((48 - j).toNat) ≤ nn → (fr_ [(431, [])] T T1) → (0 ≤ j ∧ j ≤ 48) → (oi_ T T1 p) → (∀ q, 0 ≤ q → q < j → T1 431 p q = v) → J_ zJ7_fill_53178 T (po_J7_fill_431 T p v) 0 0 5 [some (vR 431 p), some (vI v), some (vI j), some (vI 48)] [] T1 := by
    intro nn
    induction nn using Nat.strongRecOn with
    | _ nn ih_5 =>
      intro j T1 hm_5 hf_5 i1 o1 f1
      replace hm_5 := fun (_ : Unit) => hm_5
      refine j_blx (F := fJ7) tb_J7 (nn_ _) bk_J7_fill_53178_5 bs_J7_fill_53178_5 hz (fun K hK => ?_)
      refine And.intro (fun c1 => ?_) (fun c1 => ?_)
      · refine hK 20 _ [] T1 ?_
        refine j_blx (F := fJ7) tb_J7 (nn_ _) bk_J7_fill_53178_20 bs_J7_fill_53178_20 hz (fun K hK => ?_)
        refine (show po_J7_fill_431 T p v T1 (none) from ?_)
        exact ⟨rfl, fr_t (fr_0 _ _) (fr_s hf_5 rfl), o1, fun q a b => f1 q a (by omega)⟩
      · refine iy_i (by omega) (by omega) ?_
        refine x_nm (fun U2 hU2 => ?_)
        have e3 := up_f hU2
        refine rg_i (by omega) ?_
        refine hK 5 [some (vR 431 p), some (vI v), some (vI (j + 1)), some (vI 48)] [] U2 ?_
        refine ih_5 _ ?_ (j + 1) U2 (Nat.le_refl _) ?_ ?_ ?_ ?_
        · have hm_5 := hm_5 (); omega
        · exact fr_u (fr_t (fr_0 _ _) (fr_s hf_5 rfl)) hU2 rfl
        · omega
        · exact oi_u o1 hU2
        · intro q a b
          by_cases z : q = j
          · rw [z]; exact up_f hU2
          · rw [up_g hU2 (fun y => z y.2.2)]; exact f1 q a (by omega)
  refine j_blx (F := fJ7) tb_J7 (nn_ _) bk_J7_fill_53178_0 bs_J7_fill_53178_0 hz (fun K hK => ?_)
  refine hK 5 [some (vR 431 p), some (vI v), some (vI 0), some (vI 48)] [] T ?_
  refine c_5 _ 0 T (Nat.le_refl _) ?_ ?_ ?_ ?_
  · exact fr_0 _ _
  · omega
  · exact oi_r
  · intro q a b; omega
abbrev po_J7_fill_434 (T : Zt) (p : Int) (v : Int) : Zt → Option Zv → Prop := fun T' r => r = none ∧ fr_ [(434, [])] T T' ∧ oi_ T T' p ∧ ∀ j, 0 ≤ j → j < 12 → T' 434 p j = v
set_option maxHeartbeats 4000000 in
theorem ct_J7_fill_434 {T : Zt} {p : Int} {v : Int} (h1 : 0 ≤ v ∧ v ≤ 1) : Ct_ yJ7_fill_53178 zJ7_fill_53178 T [vR 434 p, vI v] (po_J7_fill_434 T p v) := by
  refine ct_of (by decide) rfl rfl (Nat.le_of_ble_eq_true rfl) (fun hT hav => ?_)
  have hr_v : -2147483648 ≤ v ∧ v ≤ 2147483647 := hav (vI v) (List.mem_cons_of_mem _ List.mem_cons_self)
  have hz : zJ7_fill_53178.2.2.2.1 = some .boolean → ∀ (T' : Zt) (x : Int), po_J7_fill_434 T p v T' (some (vI x)) → 0 ≤ x ∧ x ≤ 1 := fun h => by cases h
  show J_ zJ7_fill_53178 T (po_J7_fill_434 T p v) 0 0 0 [some (vR 434 p), some (vI v), none, none] [] T
  have c_5 : ∀ (nn : Nat) (j : Int) (T1 : Zt), ((12 - j).toNat) ≤ nn → (fr_ [(434, [])] T T1) → (0 ≤ j ∧ j ≤ 12) → (oi_ T T1 p) → (∀ q, 0 ≤ q → q < j → T1 434 p q = v) → J_ zJ7_fill_53178 T (po_J7_fill_434 T p v) 0 0 5 [some (vR 434 p), some (vI v), some (vI j), some (vI 12)] [] T1 := by
    intro nn
    induction nn using Nat.strongRecOn with
    | _ nn ih_5 =>
      intro j T1 hm_5 hf_5 i1 o1 f1
      replace hm_5 := fun (_ : Unit) => hm_5
      refine j_blx (F := fJ7) tb_J7 (nn_ _) bk_J7_fill_53178_5 bs_J7_fill_53178_5 hz (fun K hK => ?_)
      refine And.intro (fun c1 => ?_) (fun c1 => ?_)
      · refine hK 20 _ [] T1 ?_
        refine j_blx (F := fJ7) tb_J7 (nn_ _) bk_J7_fill_53178_20 bs_J7_fill_53178_20 hz (fun K hK => ?_)
        refine (show po_J7_fill_434 T p v T1 (none) from ?_)
        exact ⟨rfl, fr_t (fr_0 _ _) (fr_s hf_5 rfl), o1, fun q a b => f1 q a (by omega)⟩
      · refine iy_i (by omega) (by omega) ?_
        refine x_nm (fun U2 hU2 => ?_)
        have e3 := up_f hU2
        refine rg_i (by omega) ?_
        refine hK 5 [some (vR 434 p), some (vI v), some (vI (j + 1)), some (vI 12)] [] U2 ?_
        refine ih_5 _ ?_ (j + 1) U2 (Nat.le_refl _) ?_ ?_ ?_ ?_
        · have hm_5 := hm_5 (); omega
        · exact fr_u (fr_t (fr_0 _ _) (fr_s hf_5 rfl)) hU2 rfl
        · omega
        · exact oi_u o1 hU2
        · intro q a b
          by_cases z : q = j
          · rw [z]; exact up_f hU2
          · rw [up_g hU2 (fun y => z y.2.2)]; exact f1 q a (by omega)
  refine j_blx (F := fJ7) tb_J7 (nn_ _) bk_J7_fill_53178_0 bs_J7_fill_53178_0 hz (fun K hK => ?_)
  refine hK 5 [some (vR 434 p), some (vI v), some (vI 0), some (vI 12)] [] T ?_
  refine c_5 _ 0 T (Nat.le_refl _) ?_ ?_ ?_ ?_
  · exact fr_0 _ _
  · omega
  · exact oi_r
  · intro q a b; omega
abbrev po_J7_fill_435 (T : Zt) (p : Int) (v : Int) : Zt → Option Zv → Prop := fun T' r => r = none ∧ fr_ [(435, [])] T T' ∧ oi_ T T' p ∧ ∀ j, 0 ≤ j → j < 32 → T' 435 p j = v
set_option maxHeartbeats 4000000 in
theorem ct_J7_fill_435 {T : Zt} {p : Int} {v : Int} (h1 : (-2147483648) ≤ v ∧ v ≤ 2147483647) : Ct_ yJ7_fill_53178 zJ7_fill_53178 T [vR 435 p, vI v] (po_J7_fill_435 T p v) := by
  refine ct_of (by decide) rfl rfl (Nat.le_of_ble_eq_true rfl) (fun hT hav => ?_)
  have hr_v : -2147483648 ≤ v ∧ v ≤ 2147483647 := hav (vI v) (List.mem_cons_of_mem _ List.mem_cons_self)
  have hz : zJ7_fill_53178.2.2.2.1 = some .boolean → ∀ (T' : Zt) (x : Int), po_J7_fill_435 T p v T' (some (vI x)) → 0 ≤ x ∧ x ≤ 1 := fun h => by cases h
  show J_ zJ7_fill_53178 T (po_J7_fill_435 T p v) 0 0 0 [some (vR 435 p), some (vI v), none, none] [] T
  have c_5 : ∀ (nn : Nat) (j : Int) (T1 : Zt), ((32 - j).toNat) ≤ nn → (fr_ [(435, [])] T T1) → (0 ≤ j ∧ j ≤ 32) → (oi_ T T1 p) → (∀ q, 0 ≤ q → q < j → T1 435 p q = v) → J_ zJ7_fill_53178 T (po_J7_fill_435 T p v) 0 0 5 [some (vR 435 p), some (vI v), some (vI j), some (vI 32)] [] T1 := by
    intro nn
    induction nn using Nat.strongRecOn with
    | _ nn ih_5 =>
      intro j T1 hm_5 hf_5 i1 o1 f1
      replace hm_5 := fun (_ : Unit) => hm_5
      refine j_blx (F := fJ7) tb_J7 (nn_ _) bk_J7_fill_53178_5 bs_J7_fill_53178_5 hz (fun K hK => ?_)
      refine And.intro (fun c1 => ?_) (fun c1 => ?_)
      · refine hK 20 _ [] T1 ?_
        refine j_blx (F := fJ7) tb_J7 (nn_ _) bk_J7_fill_53178_20 bs_J7_fill_53178_20 hz (fun K hK => ?_)
        refine (show po_J7_fill_435 T p v T1 (none) from ?_)
        exact ⟨rfl, fr_t (fr_0 _ _) (fr_s hf_5 rfl), o1, fun q a b => f1 q a (by omega)⟩
      · refine iy_i (by omega) (by omega) ?_
        refine x_nm (fun U2 hU2 => ?_)
        have e3 := up_f hU2
        refine rg_i (by omega) ?_
        refine hK 5 [some (vR 435 p), some (vI v), some (vI (j + 1)), some (vI 32)] [] U2 ?_
        refine ih_5 _ ?_ (j + 1) U2 (Nat.le_refl _) ?_ ?_ ?_ ?_
        · have hm_5 := hm_5 (); omega
        · exact fr_u (fr_t (fr_0 _ _) (fr_s hf_5 rfl)) hU2 rfl
        · omega
        · exact oi_u o1 hU2
        · intro q a b
          by_cases z : q = j
          · rw [z]; exact up_f hU2
          · rw [up_g hU2 (fun y => z y.2.2)]; exact f1 q a (by omega)
  refine j_blx (F := fJ7) tb_J7 (nn_ _) bk_J7_fill_53178_0 bs_J7_fill_53178_0 hz (fun K hK => ?_)
  refine hK 5 [some (vR 435 p), some (vI v), some (vI 0), some (vI 32)] [] T ?_
  refine c_5 _ 0 T (Nat.le_refl _) ?_ ?_ ?_ ?_
  · exact fr_0 _ _
  · omega
  · exact oi_r
  · intro q a b; omega
abbrev cX2_phaseOfLife : ByteArray := prog_4_method_2_code
def yX2_phaseOfLife : MethodName := ⟨RX2, "phaseOfLife", "()I"⟩
def zX2_phaseOfLife : Zm := (RX2, cX2_phaseOfLife, 1, (some .int), { frames := 0, cells := 0, slots := 0, locals := 0 })
theorem bk_X2_phaseOfLife_0 : ck_ fX2 (some .int) cX2_phaseOfLife 0 [.aload 0, .tableswitch 0 2 6 #[], .iconst (-1), .if_icmp .eq 10, .iconst 3, .ireturn] 10 = true := qck_r (nn_ _) (by decide +kernel)
theorem bs_X2_phaseOfLife_0 {P : Zt → Option Zv → Prop} (K : Int → Zl → List Zv → Zt → Prop) : sx_ K P [.aload 0, .tableswitch 0 2 6 #[], .iconst (-1), .if_icmp .eq 10, .iconst 3, .ireturn] 10 = x_aload 0 (x_g0 102 6 (-1) 1 (x_iconst (-1) (x_if_icmp .eq 10 K (x_iconst 3 (x_ireturn P))))) := ((xe_aload 0).trans (congrArg (x_aload 0) ((xe_g0 (kk := 102) rfl tl_2_6).trans (congrArg (x_g0 102 6 (-1) 1) ((xe_iconst (-1)).trans (congrArg (x_iconst (-1)) ((xe_if_icmp .eq 10).trans (congrArg (x_if_icmp .eq 10 K) ((xe_iconst 3).trans (congrArg (x_iconst 3) (xe_ireturn)))))))))))
theorem bk_X2_phaseOfLife_10 : ck_ fX2 (some .int) cX2_phaseOfLife 10 [.aload 0, .tableswitch 0 2 10 #[], .ifnonnull 19, .iconst 0, .ireturn] 19 = true := qck_r (nn_ _) (by decide +kernel)
theorem bs_X2_phaseOfLife_10 {P : Zt → Option Zv → Prop} (K : Int → Zl → List Zv → Zt → Prop) : sx_ K P [.aload 0, .tableswitch 0 2 10 #[], .ifnonnull 19, .iconst 0, .ireturn] 19 = x_aload 0 (x_g4 102 103 10 (x_ifnonnull 19 K (x_iconst 0 (x_ireturn P)))) := ((xe_aload 0).trans (congrArg (x_aload 0) ((xe_g4 (kk := 102) rfl tl_2_10).trans (congrArg (x_g4 102 103 10) ((xe_ifnonnull 19).trans (congrArg (x_ifnonnull 19 K) ((xe_iconst 0).trans (congrArg (x_iconst 0) (xe_ireturn)))))))))
theorem bk_X2_phaseOfLife_19 : ck_ fX2 (some .int) cX2_phaseOfLife 19 [.aload 0, .tableswitch 0 2 10 #[], .tableswitch 0 3 3 #[], .ifCond .eq 33, .iconst 2, .goto 34] 33 = true := qck_r (nn_ _) (by decide +kernel)
theorem bs_X2_phaseOfLife_19 {P : Zt → Option Zv → Prop} (K : Int → Zl → List Zv → Zt → Prop) : sx_ K P [.aload 0, .tableswitch 0 2 10 #[], .tableswitch 0 3 3 #[], .ifCond .eq 33, .iconst 2, .goto 34] 33 = x_aload 0 (x_g4 102 103 10 (x_g0 103 3 0 1 (x_ifCond .eq 33 K (x_iconst 2 (x_goto 34 K))))) := ((xe_aload 0).trans (congrArg (x_aload 0) ((xe_g4 (kk := 102) rfl tl_2_10).trans (congrArg (x_g4 102 103 10) ((xe_g0 (kk := 103) rfl tl_3_3).trans (congrArg (x_g0 103 3 0 1) ((xe_ifCond .eq 33).trans (congrArg (x_ifCond .eq 33 K) ((xe_iconst 2).trans (congrArg (x_iconst 2) (xe_goto 34)))))))))))
theorem bk_X2_phaseOfLife_33 : ck_ fX2 (some .int) cX2_phaseOfLife 33 [.iconst 1, .ireturn] 35 = true := qck_r (nn_ _) (by decide +kernel)
theorem bs_X2_phaseOfLife_33 {P : Zt → Option Zv → Prop} (K : Int → Zl → List Zv → Zt → Prop) : sx_ K P [.iconst 1, .ireturn] 35 = x_iconst 1 (x_ireturn P) := ((xe_iconst 1).trans (congrArg (x_iconst 1) (xe_ireturn)))
theorem bk_X2_phaseOfLife_34 : ck_ fX2 (some .int) cX2_phaseOfLife 34 [.ireturn] 35 = true := qck_r (nn_ _) (by decide +kernel)
theorem bs_X2_phaseOfLife_34 {P : Zt → Option Zv → Prop} (K : Int → Zl → List Zv → Zt → Prop) : sx_ K P [.ireturn] 35 = x_ireturn P := (xe_ireturn)
abbrev po_X2_phaseOfLife (T : Zt) (p : Int) : Zt → Option Zv → Prop := fun T' r => T = T' ∧ ∃ x : Int, r = some (vI x) ∧ (0 ≤ x ∧ x ≤ 3 ∧ (x = 3 ↔ T 102 p 6 ≠ -1) ∧ (x = 0 ↔ T 102 p 6 = -1 ∧ T 102 p 10 = 0))
set_option maxHeartbeats 4000000 in
theorem ct_X2_phaseOfLife {T : Zt} {p : Int} : Ct_ yX2_phaseOfLife zX2_phaseOfLife T [vR 102 p] (po_X2_phaseOfLife T p) := by
  refine ct_of pn_2 rfl rfl (Nat.le_of_ble_eq_true rfl) (fun hT hav => ?_)
  have hz : zX2_phaseOfLife.2.2.2.1 = some .boolean → ∀ (T' : Zt) (x : Int), po_X2_phaseOfLife T p T' (some (vI x)) → 0 ≤ x ∧ x ≤ 1 := fun h => by cases h
  show J_ zX2_phaseOfLife T (po_X2_phaseOfLife T p) 0 0 0 [some (vR 102 p)] [] T
  refine j_blx (F := fX2) tb_X2 (nn_ _) bk_X2_phaseOfLife_0 bs_X2_phaseOfLife_0 hz (fun K hK => ?_)
  intro b1 b1b
  refine And.intro (fun c2 => ?_) (fun c2 => ?_)
  · refine hK 10 _ [] T ?_
    refine j_blx (F := fX2) tb_X2 (nn_ _) bk_X2_phaseOfLife_10 bs_X2_phaseOfLife_10 hz (fun K hK => ?_)
    refine And.intro (fun c3 => ?_) (fun c3 => ?_)
    · refine (show po_X2_phaseOfLife T p T (some (vI 0)) from ?_)
      exact ⟨rfl, _, rfl, by omega⟩
    · refine hK 19 _ [] T ?_
      refine j_blx (F := fX2) tb_X2 (nn_ _) bk_X2_phaseOfLife_19 bs_X2_phaseOfLife_19 hz (fun K hK => ?_)
      refine And.intro (fun c4 => ?_) (fun c4 => ?_)
      · exact absurd c4 (by omega)
      · intro b5 b5b
        refine And.intro (fun c6 => ?_) (fun c6 => ?_)
        · refine hK 33 _ [] T ?_
          refine j_blx (F := fX2) tb_X2 (nn_ _) bk_X2_phaseOfLife_33 bs_X2_phaseOfLife_33 hz (fun K hK => ?_)
          refine (show po_X2_phaseOfLife T p T (some (vI 1)) from ?_)
          exact ⟨rfl, _, rfl, by omega⟩
        · refine hK 34 _ [vI 2] T ?_
          refine j_blx (F := fX2) tb_X2 (nn_ _) bk_X2_phaseOfLife_34 bs_X2_phaseOfLife_34 hz (fun K hK => ?_)
          refine (show po_X2_phaseOfLife T p T (some (vI 2)) from ?_)
          exact ⟨rfl, _, rfl, by omega⟩
  · refine (show po_X2_phaseOfLife T p T (some (vI 3)) from ?_)
    exact ⟨rfl, _, rfl, by omega⟩
abbrev cX2_isDecided : ByteArray := prog_4_method_3_code
def yX2_isDecided : MethodName := ⟨RX2, "isDecided", "()Z"⟩
def zX2_isDecided : Zm := (RX2, cX2_isDecided, 1, (some .boolean), { frames := 1, cells := 0, slots := 0, locals := 20 })
theorem bk_X2_isDecided_0 : ck_ fX2 (some .boolean) cX2_isDecided 0 [.aload 0] 1 = true := qck_r (nn_ _) (by decide +kernel)
theorem bs_X2_isDecided_0 {P : Zt → Option Zv → Prop} (K : Int → Zl → List Zv → Zt → Prop) : sx_ K P [.aload 0] 1 = x_aload 0 (K 1) := ((xe_aload 0).trans (congrArg (x_aload 0) xe_nil))
set_option maxRecDepth 100000 in
theorem cl_X2_54 : cv_ RX2 54 yX2_phaseOfLife zX2_phaseOfLife 2 0 := ⟨gi_V (lwq_4 (dqc_m (dqc_m (dqc_m (dqc_m (dqa_m (dqa_m (dqa_m (List.mem_of_getElem? (i := 6) rfl)))))))) rfl : Cond.methodLink RX2 54 yX2_phaseOfLife ∈ lw_g) (lwq_4 (dqc_m (dqa_m (dqa_m (dqa_m (List.mem_of_getElem? (i := 2) rfl))))) rfl : Cond.instanceMethod yX2_phaseOfLife ∈ lw_g) (lwq_4 (dqc_m (dqa_m (dqa_m (dqa_m (List.mem_of_getElem? (i := 3) rfl))))) rfl : Cond.selects yX2_phaseOfLife.cls yX2_phaseOfLife yX2_phaseOfLife ∈ lw_g) (lwq_1 (dqa_m (dqa_m (List.mem_of_getElem? (i := 0) rfl))) rfl : Cond.initialized yX2_phaseOfLife.cls ∈ lw_g) (lwq_4 (dqc_m (dqa_m (dqa_m (dqa_m (List.mem_of_getElem? (i := 4) rfl))))) rfl : Cond.code yX2_phaseOfLife cX2_phaseOfLife 1 (some .int) ∈ lw_g), ⟨nmh_10.1, nmh_10.2, pdq_17⟩, ⟨_, _, rfl⟩⟩
theorem bk_X2_isDecided_4 : ck_ fX2 (some .boolean) cX2_isDecided 4 [.iconst 2, .if_icmp .lt 12, .iconst 1, .goto 13] 12 = true := qck_r (nn_ _) (by decide +kernel)
theorem bs_X2_isDecided_4 {P : Zt → Option Zv → Prop} (K : Int → Zl → List Zv → Zt → Prop) : sx_ K P [.iconst 2, .if_icmp .lt 12, .iconst 1, .goto 13] 12 = x_iconst 2 (x_if_icmp .lt 12 K (x_iconst 1 (x_goto 13 K))) := ((xe_iconst 2).trans (congrArg (x_iconst 2) ((xe_if_icmp .lt 12).trans (congrArg (x_if_icmp .lt 12 K) ((xe_iconst 1).trans (congrArg (x_iconst 1) (xe_goto 13)))))))
theorem bk_X2_isDecided_12 : ck_ fX2 (some .boolean) cX2_isDecided 12 [.iconst 0, .ireturn] 14 = true := qck_r (nn_ _) (by decide +kernel)
theorem bs_X2_isDecided_12 {P : Zt → Option Zv → Prop} (K : Int → Zl → List Zv → Zt → Prop) : sx_ K P [.iconst 0, .ireturn] 14 = x_iconst 0 (x_ireturn P) := ((xe_iconst 0).trans (congrArg (x_iconst 0) (xe_ireturn)))
theorem bk_X2_isDecided_13 : ck_ fX2 (some .boolean) cX2_isDecided 13 [.ireturn] 14 = true := qck_r (nn_ _) (by decide +kernel)
theorem bs_X2_isDecided_13 {P : Zt → Option Zv → Prop} (K : Int → Zl → List Zv → Zt → Prop) : sx_ K P [.ireturn] 14 = x_ireturn P := (xe_ireturn)
abbrev po_X2_isDecided (T : Zt) (p : Int) : Zt → Option Zv → Prop := fun T' r => T = T' ∧ ∃ x : Int, r = some (vI x) ∧ (0 ≤ x ∧ x ≤ 1)
set_option maxHeartbeats 4000000 in
theorem ct_X2_isDecided {T : Zt} {p : Int} : Ct_ yX2_isDecided zX2_isDecided T [vR 102 p] (po_X2_isDecided T p) := by
  refine ct_of pn_2 rfl rfl (Nat.le_of_ble_eq_true rfl) (fun hT hav => ?_)
  have hz : zX2_isDecided.2.2.2.1 = some .boolean → ∀ (T' : Zt) (x : Int), po_X2_isDecided T p T' (some (vI x)) → 0 ≤ x ∧ x ≤ 1 := fun _ T' x h => by obtain ⟨-, y, e, hy⟩ := h; cases e; omega
  show J_ zX2_isDecided T (po_X2_isDecided T p) 0 0 0 [some (vR 102 p)] [] T
  refine j_blx (F := fX2) tb_X2 (nn_ _) bk_X2_isDecided_0 bs_X2_isDecided_0 hz (fun K hK => ?_)
  refine hK 1 _ [vR 102 p] T ?_
  refine j_callV (y := yX2_phaseOfLife) (Yc := zX2_phaseOfLife) (rest := []) [] (ct_X2_phaseOfLife (T := T)) cl_X2_54 (qd_c (by decide +kernel)) (nn_ _) rfl (rf_of rfl) (Nat.le_of_ble_eq_true rfl) (Nat.le_of_ble_eq_true rfl) (Nat.le_of_ble_eq_true rfl) rfl ?_
  rintro _ _ ⟨rfl, x1, rfl, hx1⟩
  show J_ zX2_isDecided T (po_X2_isDecided T p) 0 0 4 _ [vI x1] T
  refine j_blx (F := fX2) tb_X2 (nn_ _) bk_X2_isDecided_4 bs_X2_isDecided_4 hz (fun K hK => ?_)
  refine And.intro (fun c2 => ?_) (fun c2 => ?_)
  · refine hK 12 _ [] T ?_
    refine j_blx (F := fX2) tb_X2 (nn_ _) bk_X2_isDecided_12 bs_X2_isDecided_12 hz (fun K hK => ?_)
    refine (show po_X2_isDecided T p T (some (vI 0)) from ?_)
    exact ⟨rfl, _, rfl, by omega⟩
  · refine hK 13 _ [vI 1] T ?_
    refine j_blx (F := fX2) tb_X2 (nn_ _) bk_X2_isDecided_13 bs_X2_isDecided_13 hz (fun K hK => ?_)
    refine (show po_X2_isDecided T p T (some (vI 1)) from ?_)
    exact ⟨rfl, _, rfl, by omega⟩
abbrev cX2_scoreOf : ByteArray := prog_4_method_4_code
def yX2_scoreOf : MethodName := ⟨RX2, "scoreOf", "(I)I"⟩
def zX2_scoreOf : Zm := (RX2, cX2_scoreOf, 2, (some .int), { frames := 0, cells := 0, slots := 0, locals := 0 })
theorem bk_X2_scoreOf_0 : ck_ fX2 (some .int) cX2_scoreOf 0 [.aload 0, .tableswitch 0 2 6 #[], .iconst (-1), .if_icmp .eq 31, .iload 1, .aload 0, .tableswitch 0 2 6 #[], .if_icmp .ne 20, .iconst 0, .goto 30] 20 = true := qck_r (nn_ _) (by decide +kernel)
theorem bs_X2_scoreOf_0 {P : Zt → Option Zv → Prop} (K : Int → Zl → List Zv → Zt → Prop) : sx_ K P [.aload 0, .tableswitch 0 2 6 #[], .iconst (-1), .if_icmp .eq 31, .iload 1, .aload 0, .tableswitch 0 2 6 #[], .if_icmp .ne 20, .iconst 0, .goto 30] 20 = x_aload 0 (x_g0 102 6 (-1) 1 (x_iconst (-1) (x_if_icmp .eq 31 K (x_iload 1 (x_aload 0 (x_g0 102 6 (-1) 1 (x_if_icmp .ne 20 K (x_iconst 0 (x_goto 30 K))))))))) := ((xe_aload 0).trans (congrArg (x_aload 0) ((xe_g0 (kk := 102) rfl tl_2_6).trans (congrArg (x_g0 102 6 (-1) 1) ((xe_iconst (-1)).trans (congrArg (x_iconst (-1)) ((xe_if_icmp .eq 31).trans (congrArg (x_if_icmp .eq 31 K) ((xe_iload 1).trans (congrArg (x_iload 1) ((xe_aload 0).trans (congrArg (x_aload 0) ((xe_g0 (kk := 102) rfl tl_2_6).trans (congrArg (x_g0 102 6 (-1) 1) ((xe_if_icmp .ne 20).trans (congrArg (x_if_icmp .ne 20 K) ((xe_iconst 0).trans (congrArg (x_iconst 0) (xe_goto 30)))))))))))))))))))
theorem bk_X2_scoreOf_31 : ck_ fX2 (some .int) cX2_scoreOf 31 [.aload 0, .tableswitch 0 2 10 #[], .ifnonnull 42, .iconst 0, .goto 51] 42 = true := qck_r (nn_ _) (by decide +kernel)
theorem bs_X2_scoreOf_31 {P : Zt → Option Zv → Prop} (K : Int → Zl → List Zv → Zt → Prop) : sx_ K P [.aload 0, .tableswitch 0 2 10 #[], .ifnonnull 42, .iconst 0, .goto 51] 42 = x_aload 0 (x_g4 102 103 10 (x_ifnonnull 42 K (x_iconst 0 (x_goto 51 K)))) := ((xe_aload 0).trans (congrArg (x_aload 0) ((xe_g4 (kk := 102) rfl tl_2_10).trans (congrArg (x_g4 102 103 10) ((xe_ifnonnull 42).trans (congrArg (x_ifnonnull 42 K) ((xe_iconst 0).trans (congrArg (x_iconst 0) (xe_goto 51)))))))))
theorem bk_X2_scoreOf_51 : ck_ fX2 (some .int) cX2_scoreOf 51 [.ireturn] 52 = true := qck_r (nn_ _) (by decide +kernel)
theorem bs_X2_scoreOf_51 {P : Zt → Option Zv → Prop} (K : Int → Zl → List Zv → Zt → Prop) : sx_ K P [.ireturn] 52 = x_ireturn P := (xe_ireturn)
theorem bk_X2_scoreOf_42 : ck_ fX2 (some .int) cX2_scoreOf 42 [.aload 0, .tableswitch 0 2 10 #[], .tableswitch 0 3 8 #[], .iload 1, .iaload, .ireturn] 52 = true := qck_r (nn_ _) (by decide +kernel)
theorem bs_X2_scoreOf_42 {P : Zt → Option Zv → Prop} (K : Int → Zl → List Zv → Zt → Prop) : sx_ K P [.aload 0, .tableswitch 0 2 10 #[], .tableswitch 0 3 8 #[], .iload 1, .iaload, .ireturn] 52 = x_aload 0 (x_g4 102 103 10 (x_g2 103 468 (x_iload 1 (x_iaload (x_ireturn P))))) := ((xe_aload 0).trans (congrArg (x_aload 0) ((xe_g4 (kk := 102) rfl tl_2_10).trans (congrArg (x_g4 102 103 10) ((xe_g2 (kk := 103) rfl tl_3_8).trans (congrArg (x_g2 103 468) ((xe_iload 1).trans (congrArg (x_iload 1) ((xe_iaload).trans (congrArg (x_iaload) (xe_ireturn)))))))))))
theorem bk_X2_scoreOf_20 : ck_ fX2 (some .int) cX2_scoreOf 20 [.aload 0, .tableswitch 0 2 0 #[], .tableswitch 0 0 1 #[], .iconst 12, .iaload, .ireturn] 31 = true := qck_r (nn_ _) (by decide +kernel)
theorem bs_X2_scoreOf_20 {P : Zt → Option Zv → Prop} (K : Int → Zl → List Zv → Zt → Prop) : sx_ K P [.aload 0, .tableswitch 0 2 0 #[], .tableswitch 0 0 1 #[], .iconst 12, .iaload, .ireturn] 31 = x_aload 0 (x_g3 102 100 0 (x_g2 100 401 (x_iconst 12 (x_iaload (x_ireturn P))))) := ((xe_aload 0).trans (congrArg (x_aload 0) ((xe_g3 (kk := 102) rfl tl_2_0).trans (congrArg (x_g3 102 100 0) ((xe_g2 (kk := 100) rfl tl_0_1).trans (congrArg (x_g2 100 401) ((xe_iconst 12).trans (congrArg (x_iconst 12) ((xe_iaload).trans (congrArg (x_iaload) (xe_ireturn)))))))))))
theorem bk_X2_scoreOf_30 : ck_ fX2 (some .int) cX2_scoreOf 30 [.ireturn] 31 = true := qck_r (nn_ _) (by decide +kernel)
theorem bs_X2_scoreOf_30 {P : Zt → Option Zv → Prop} (K : Int → Zl → List Zv → Zt → Prop) : sx_ K P [.ireturn] 31 = x_ireturn P := (xe_ireturn)
abbrev po_X2_scoreOf (T : Zt) (p : Int) (s : Int) : Zt → Option Zv → Prop := fun T' r => T = T' ∧ ∃ x : Int, r = some (vI x) ∧ (0 = (0 : Int))
set_option maxHeartbeats 4000000 in
theorem ct_X2_scoreOf {T : Zt} {p : Int} {s : Int} (h1 : 0 ≤ s ∧ s ≤ 1) : Ct_ yX2_scoreOf zX2_scoreOf T [vR 102 p, vI s] (po_X2_scoreOf T p s) := by
  refine ct_of pn_2 rfl rfl (Nat.le_of_ble_eq_true rfl) (fun hT hav => ?_)
  have hr_s : -2147483648 ≤ s ∧ s ≤ 2147483647 := hav (vI s) (List.mem_cons_of_mem _ List.mem_cons_self)
  have hz : zX2_scoreOf.2.2.2.1 = some .boolean → ∀ (T' : Zt) (x : Int), po_X2_scoreOf T p s T' (some (vI x)) → 0 ≤ x ∧ x ≤ 1 := fun h => by cases h
  show J_ zX2_scoreOf T (po_X2_scoreOf T p s) 0 0 0 [some (vR 102 p), some (vI s)] [] T
  refine j_blx (F := fX2) tb_X2 (nn_ _) bk_X2_scoreOf_0 bs_X2_scoreOf_0 hz (fun K hK => ?_)
  intro b1 b1b
  refine And.intro (fun c2 => ?_) (fun c2 => ?_)
  · refine hK 31 _ [] T ?_
    refine j_blx (F := fX2) tb_X2 (nn_ _) bk_X2_scoreOf_31 bs_X2_scoreOf_31 hz (fun K hK => ?_)
    refine And.intro (fun c3 => ?_) (fun c3 => ?_)
    · refine hK 51 _ [vI 0] T ?_
      refine j_blx (F := fX2) tb_X2 (nn_ _) bk_X2_scoreOf_51 bs_X2_scoreOf_51 hz (fun K hK => ?_)
      refine (show po_X2_scoreOf T p s T (some (vI 0)) from ?_)
      exact ⟨rfl, _, rfl, by rfl⟩
    · refine hK 42 _ [] T ?_
      refine j_blx (F := fX2) tb_X2 (nn_ _) bk_X2_scoreOf_42 bs_X2_scoreOf_42 hz (fun K hK => ?_)
      refine And.intro (fun c4 => ?_) (fun c4 => ?_)
      · exact absurd c4 (by omega)
      · refine ix_i (by omega) ?_
        intro b5 b5b
        refine (show po_X2_scoreOf T p s T (some (vI (T 468 p s))) from ?_)
        exact ⟨rfl, _, rfl, by rfl⟩
  · intro b6 b6b
    refine And.intro (fun c7 => ?_) (fun c7 => ?_)
    · refine hK 20 _ [] T ?_
      refine j_blx (F := fX2) tb_X2 (nn_ _) bk_X2_scoreOf_20 bs_X2_scoreOf_20 hz (fun K hK => ?_)
      refine ix_i (by omega) ?_
      intro b9 b9b
      refine (show po_X2_scoreOf T p s T (some (vI (T 401 (T 102 p 0) 12))) from ?_)
      exact ⟨rfl, _, rfl, by rfl⟩
    · refine hK 30 _ [vI 0] T ?_
      refine j_blx (F := fX2) tb_X2 (nn_ _) bk_X2_scoreOf_30 bs_X2_scoreOf_30 hz (fun K hK => ?_)
      refine (show po_X2_scoreOf T p s T (some (vI 0)) from ?_)
      exact ⟨rfl, _, rfl, by rfl⟩
abbrev cX2_has : ByteArray := prog_4_method_5_code
def yX2_has : MethodName := ⟨RX2, "has", "(I)Z"⟩
def zX2_has : Zm := (RX2, cX2_has, 2, (some .boolean), { frames := 0, cells := 0, slots := 0, locals := 0 })
abbrev cX2_hasEnoughListed : ByteArray := prog_4_method_6_code
def yX2_hasEnoughListed : MethodName := ⟨RX2, "hasEnoughListed", "()Z"⟩
def zX2_hasEnoughListed : Zm := (RX2, cX2_hasEnoughListed, 1, (some .boolean), { frames := 0, cells := 0, slots := 0, locals := 0 })
abbrev cX2_rest : ByteArray := prog_4_method_7_code
def yX2_rest : MethodName := ⟨RX2, "rest", "()I"⟩
def zX2_rest : Zm := (RX2, cX2_rest, 1, (some .int), { frames := 0, cells := 0, slots := 0, locals := 0 })
abbrev cX2_placeOf : ByteArray := prog_4_method_8_code
def yX2_placeOf : MethodName := ⟨RX2, "placeOf", "(I)I"⟩
def zX2_placeOf : Zm := (RX2, cX2_placeOf, 4, (some .int), { frames := 0, cells := 0, slots := 0, locals := 0 })
abbrev cX3_isSentOff : ByteArray := prog_5_method_4_code
def yX3_isSentOff : MethodName := ⟨RX3, "isSentOff", "(I)Z"⟩
def zX3_isSentOff : Zm := (RX3, cX3_isSentOff, 2, (some .boolean), { frames := 0, cells := 0, slots := 0, locals := 0 })
theorem bk_X3_isSentOff_0 : ck_ fX3 (some .boolean) cX3_isSentOff 0 [.aload 0, .tableswitch 0 3 12 #[], .iload 1, .iaload, .iconst 3, .if_icmp .ne 14, .iconst 1, .goto 15] 14 = true := qck_r (nn_ _) (by decide +kernel)
theorem bs_X3_isSentOff_0 {P : Zt → Option Zv → Prop} (K : Int → Zl → List Zv → Zt → Prop) : sx_ K P [.aload 0, .tableswitch 0 3 12 #[], .iload 1, .iaload, .iconst 3, .if_icmp .ne 14, .iconst 1, .goto 15] 14 = x_aload 0 (x_g2 103 472 (x_iload 1 (x_iaload (x_iconst 3 (x_if_icmp .ne 14 K (x_iconst 1 (x_goto 15 K))))))) := ((xe_aload 0).trans (congrArg (x_aload 0) ((xe_g2 (kk := 103) rfl tl_3_12).trans (congrArg (x_g2 103 472) ((xe_iload 1).trans (congrArg (x_iload 1) ((xe_iaload).trans (congrArg (x_iaload) ((xe_iconst 3).trans (congrArg (x_iconst 3) ((xe_if_icmp .ne 14).trans (congrArg (x_if_icmp .ne 14 K) ((xe_iconst 1).trans (congrArg (x_iconst 1) (xe_goto 15)))))))))))))))
theorem bk_X3_isSentOff_14 : ck_ fX3 (some .boolean) cX3_isSentOff 14 [.iconst 0, .ireturn] 16 = true := qck_r (nn_ _) (by decide +kernel)
theorem bs_X3_isSentOff_14 {P : Zt → Option Zv → Prop} (K : Int → Zl → List Zv → Zt → Prop) : sx_ K P [.iconst 0, .ireturn] 16 = x_iconst 0 (x_ireturn P) := ((xe_iconst 0).trans (congrArg (x_iconst 0) (xe_ireturn)))
theorem bk_X3_isSentOff_15 : ck_ fX3 (some .boolean) cX3_isSentOff 15 [.ireturn] 16 = true := qck_r (nn_ _) (by decide +kernel)
theorem bs_X3_isSentOff_15 {P : Zt → Option Zv → Prop} (K : Int → Zl → List Zv → Zt → Prop) : sx_ K P [.ireturn] 16 = x_ireturn P := (xe_ireturn)
abbrev po_X3_isSentOff (T : Zt) (p : Int) (k : Int) : Zt → Option Zv → Prop := fun T' r => T = T' ∧ ∃ x : Int, r = some (vI x) ∧ (0 ≤ x ∧ x ≤ 1)
set_option maxHeartbeats 4000000 in
theorem ct_X3_isSentOff {T : Zt} {p : Int} {k : Int} (h1 : 0 ≤ k ∧ k < 20) : Ct_ yX3_isSentOff zX3_isSentOff T [vR 103 p, vI k] (po_X3_isSentOff T p k) := by
  refine ct_of pn_3 rfl rfl (Nat.le_of_ble_eq_true rfl) (fun hT hav => ?_)
  have hr_k : -2147483648 ≤ k ∧ k ≤ 2147483647 := hav (vI k) (List.mem_cons_of_mem _ List.mem_cons_self)
  have hz : zX3_isSentOff.2.2.2.1 = some .boolean → ∀ (T' : Zt) (x : Int), po_X3_isSentOff T p k T' (some (vI x)) → 0 ≤ x ∧ x ≤ 1 := fun _ T' x h => by obtain ⟨-, y, e, hy⟩ := h; cases e; omega
  show J_ zX3_isSentOff T (po_X3_isSentOff T p k) 0 0 0 [some (vR 103 p), some (vI k)] [] T
  refine j_blx (F := fX3) tb_X3 (nn_ _) bk_X3_isSentOff_0 bs_X3_isSentOff_0 hz (fun K hK => ?_)
  refine ix_i (by omega) ?_
  intro b1 b1b
  refine And.intro (fun c2 => ?_) (fun c2 => ?_)
  · refine hK 14 _ [] T ?_
    refine j_blx (F := fX3) tb_X3 (nn_ _) bk_X3_isSentOff_14 bs_X3_isSentOff_14 hz (fun K hK => ?_)
    refine (show po_X3_isSentOff T p k T (some (vI 0)) from ?_)
    exact ⟨rfl, _, rfl, by omega⟩
  · refine hK 15 _ [vI 1] T ?_
    refine j_blx (F := fX3) tb_X3 (nn_ _) bk_X3_isSentOff_15 bs_X3_isSentOff_15 hz (fun K hK => ?_)
    refine (show po_X3_isSentOff T p k T (some (vI 1)) from ?_)
    exact ⟨rfl, _, rfl, by omega⟩
abbrev cX3_personAt : ByteArray := prog_5_method_3_code
def yX3_personAt : MethodName := ⟨RX3, "personAt", "(II)I"⟩
def zX3_personAt : Zm := (RX3, cX3_personAt, 3, (some .int), { frames := 0, cells := 0, slots := 0, locals := 0 })
abbrev cX3_isBounded : ByteArray := prog_5_method_7_code
def yX3_isBounded : MethodName := ⟨RX3, "isBounded", "(II)Z"⟩
def zX3_isBounded : Zm := (RX3, cX3_isBounded, 3, (some .boolean), { frames := 0, cells := 0, slots := 0, locals := 0 })
abbrev cX3_isAllowed : ByteArray := prog_5_method_8_code
def yX3_isAllowed : MethodName := ⟨RX3, "isAllowed", "(II)Z"⟩
def zX3_isAllowed : Zm := (RX3, cX3_isAllowed, 3, (some .boolean), { frames := 0, cells := 0, slots := 0, locals := 0 })
abbrev cX3_needsPerson : ByteArray := prog_5_method_9_code
def yX3_needsPerson : MethodName := ⟨RX3, "needsPerson", "(I)Z"⟩
def zX3_needsPerson : Zm := (RX3, cX3_needsPerson, 2, (some .boolean), { frames := 0, cells := 0, slots := 0, locals := 0 })
abbrev cX3_fieldPlace : ByteArray := prog_5_method_10_code
def yX3_fieldPlace : MethodName := ⟨RX3, "fieldPlace", "(II)I"⟩
def zX3_fieldPlace : Zm := (RX3, cX3_fieldPlace, 4, (some .int), { frames := 1, cells := 0, slots := 0, locals := 22 })
set_option maxRecDepth 100000 in
theorem cl_X3_92 : cv_ RX3 92 yX3_personAt zX3_personAt 3 2 := ⟨gi_V (lwq_5 (dqc_m (dqa_m (dqa_m (List.mem_of_getElem? (i := 0) rfl)))) rfl : Cond.methodLink RX3 92 yX3_personAt ∈ lw_g) (lwq_5 (dqc_m (dqa_m (dqa_m (List.mem_of_getElem? (i := 1) rfl)))) rfl : Cond.instanceMethod yX3_personAt ∈ lw_g) (lwq_5 (dqc_m (dqa_m (dqa_m (List.mem_of_getElem? (i := 2) rfl)))) rfl : Cond.selects yX3_personAt.cls yX3_personAt yX3_personAt ∈ lw_g) (lwq_1 (dqa_m (dqa_m (List.mem_of_getElem? (i := 2) rfl))) rfl : Cond.initialized yX3_personAt.cls ∈ lw_g) (lwq_5 (dqc_m (dqa_m (dqa_m (List.mem_of_getElem? (i := 3) rfl)))) rfl : Cond.code yX3_personAt cX3_personAt 3 (some .int) ∈ lw_g), ⟨nmh_3.1, nmh_3.2, pdq_4⟩, ⟨_, _, rfl⟩⟩
abbrev cX3_benchPlace : ByteArray := prog_5_method_11_code
def yX3_benchPlace : MethodName := ⟨RX3, "benchPlace", "(II)I"⟩
def zX3_benchPlace : Zm := (RX3, cX3_benchPlace, 5, (some .int), { frames := 0, cells := 0, slots := 0, locals := 0 })
abbrev cX3_isWon : ByteArray := prog_5_method_20_code
def yX3_isWon : MethodName := ⟨RX3, "isWon", "([III)Z"⟩
def zX3_isWon : Zm := (RX3, cX3_isWon, 3, (some .boolean), { frames := 0, cells := 0, slots := 0, locals := 0 })
abbrev cX3_closeGap : ByteArray := prog_5_method_17_code
def yX3_closeGap : MethodName := ⟨RX3, "closeGap", "(II)V"⟩
def zX3_closeGap : Zm := (RX3, cX3_closeGap, 4, none, { frames := 0, cells := 0, slots := 0, locals := 0 })
abbrev cX3_rotate : ByteArray := prog_5_method_19_code
def yX3_rotate : MethodName := ⟨RX3, "rotate", "(I)V"⟩
def zX3_rotate : Zm := (RX3, cX3_rotate, 3, none, { frames := 1, cells := 0, slots := 0, locals := 23 })
set_option maxRecDepth 100000 in
theorem cl_X3_119 : cv_ RX3 119 yX3_closeGap zX3_closeGap 3 2 := ⟨gi_V (lwq_5 (dqc_m (dqc_m (dqa_m (dqa_m (List.mem_of_getElem? (i := 0) rfl))))) rfl : Cond.methodLink RX3 119 yX3_closeGap ∈ lw_g) (lwq_5 (dqc_m (dqc_m (dqa_m (dqa_m (List.mem_of_getElem? (i := 2) rfl))))) rfl : Cond.instanceMethod yX3_closeGap ∈ lw_g) (lw_sel 84 rfl : Cond.selects yX3_closeGap.cls yX3_closeGap yX3_closeGap ∈ lw_g) (lwq_1 (dqa_m (dqa_m (List.mem_of_getElem? (i := 2) rfl))) rfl : Cond.initialized yX3_closeGap.cls ∈ lw_g) (lwq_5 (dqc_m (dqc_m (dqa_m (dqa_m (List.mem_of_getElem? (i := 3) rfl))))) rfl : Cond.code yX3_closeGap cX3_closeGap 4 none ∈ lw_g), ⟨nmh_3.1, nmh_3.2, pdq_0⟩, ⟨_, _, rfl⟩⟩
abbrev cX3_isLastInning : ByteArray := prog_5_method_26_code
def yX3_isLastInning : MethodName := ⟨RX3, "isLastInning", "()Z"⟩
def zX3_isLastInning : Zm := (RX3, cX3_isLastInning, 1, (some .boolean), { frames := 0, cells := 0, slots := 0, locals := 0 })
theorem fd_u {T T1 : Zt} {k : Nat} {p s v : Int} (e : T1 = up_ T k p s v) (hs : 0 ≤ s ∧ s ≤ 1) : (s = 0 ∧ T1 k p 0 = v ∧ T1 k p 1 = T k p 1) ∨ (s = 1 ∧ T1 k p 1 = v ∧ T1 k p 0 = T k p 0) := by
  rcases (by omega : s = 0 ∨ s = 1) with z | z
  · subst z; exact Or.inl ⟨rfl, up_f e, up_g e (by omega)⟩
  · subst z; exact Or.inr ⟨rfl, up_f e, up_g e (by omega)⟩
abbrev cX3_sendOff : ByteArray := prog_5_method_16_code
def yX3_sendOff : MethodName := ⟨RX3, "sendOff", "(II)V"⟩
def zX3_sendOff : Zm := (RX3, cX3_sendOff, 3, none, { frames := 1, cells := 0, slots := 0, locals := 23 })
abbrev cX3_showYellow : ByteArray := prog_5_method_15_code
def yX3_showYellow : MethodName := ⟨RX3, "showYellow", "(II)V"⟩
def zX3_showYellow : Zm := (RX3, cX3_showYellow, 4, none, { frames := 2, cells := 0, slots := 0, locals := 45 })
set_option maxRecDepth 100000 in
theorem cl_X3_116 : cv_ RX3 116 yX3_sendOff zX3_sendOff 3 2 := ⟨gi_V (lwq_5 (dqc_m (dqc_m (dqa_m (List.mem_of_getElem? (i := 4) rfl)))) rfl : Cond.methodLink RX3 116 yX3_sendOff ∈ lw_g) (lwq_5 (dqc_m (dqc_m (dqa_m (List.mem_of_getElem? (i := 6) rfl)))) rfl : Cond.instanceMethod yX3_sendOff ∈ lw_g) (lw_sel 99 rfl : Cond.selects yX3_sendOff.cls yX3_sendOff yX3_sendOff ∈ lw_g) (lwq_1 (dqa_m (dqa_m (List.mem_of_getElem? (i := 2) rfl))) rfl : Cond.initialized yX3_sendOff.cls ∈ lw_g) (lwq_5 (dqc_m (dqc_m (dqa_m (List.mem_of_getElem? (i := 7) rfl)))) rfl : Cond.code yX3_sendOff cX3_sendOff 3 none ∈ lw_g), ⟨nmh_3.1, nmh_3.2, pdq_0⟩, ⟨_, _, rfl⟩⟩
abbrev cX3_substitute : ByteArray := prog_5_method_13_code
def yX3_substitute : MethodName := ⟨RX3, "substitute", "(III)V"⟩
def zX3_substitute : Zm := (RX3, cX3_substitute, 6, none, { frames := 2, cells := 0, slots := 0, locals := 45 })
set_option maxRecDepth 100000 in
theorem cl_X3_79 : cv_ RX3 79 yX3_fieldPlace zX3_fieldPlace 3 2 := ⟨gi_V (lwq_5 (dqc_m (dqa_m (List.mem_of_getElem? (i := 4) rfl))) rfl : Cond.methodLink RX3 79 yX3_fieldPlace ∈ lw_g) (lwq_5 (dqc_m (dqa_m (List.mem_of_getElem? (i := 6) rfl))) rfl : Cond.instanceMethod yX3_fieldPlace ∈ lw_g) (lw_sel 87 rfl : Cond.selects yX3_fieldPlace.cls yX3_fieldPlace yX3_fieldPlace ∈ lw_g) (lwq_1 (dqa_m (dqa_m (List.mem_of_getElem? (i := 2) rfl))) rfl : Cond.initialized yX3_fieldPlace.cls ∈ lw_g) (lwq_5 (dqc_m (dqa_m (List.mem_of_getElem? (i := 7) rfl))) rfl : Cond.code yX3_fieldPlace cX3_fieldPlace 4 (some .int) ∈ lw_g), ⟨nmh_3.1, nmh_3.2, pdq_4⟩, ⟨_, _, rfl⟩⟩
set_option maxRecDepth 100000 in
theorem cl_X3_83 : cv_ RX3 83 yX3_benchPlace zX3_benchPlace 3 2 := ⟨gi_V (lwq_5 (dqc_m (dqa_m (dqa_m (List.mem_of_getElem? (i := 4) rfl)))) rfl : Cond.methodLink RX3 83 yX3_benchPlace ∈ lw_g) (lwq_5 (dqc_m (dqa_m (dqa_m (List.mem_of_getElem? (i := 6) rfl)))) rfl : Cond.instanceMethod yX3_benchPlace ∈ lw_g) (lw_sel 83 rfl : Cond.selects yX3_benchPlace.cls yX3_benchPlace yX3_benchPlace ∈ lw_g) (lwq_1 (dqa_m (dqa_m (List.mem_of_getElem? (i := 2) rfl))) rfl : Cond.initialized yX3_benchPlace.cls ∈ lw_g) (lwq_5 (dqc_m (dqa_m (dqa_m (List.mem_of_getElem? (i := 7) rfl)))) rfl : Cond.code yX3_benchPlace cX3_benchPlace 5 (some .int) ∈ lw_g), ⟨nmh_3.1, nmh_3.2, pdq_4⟩, ⟨_, _, rfl⟩⟩
abbrev cX3_playFootball : ByteArray := prog_5_method_14_code
def yX3_playFootball : MethodName := ⟨RX3, "playFootball", "(III)V"⟩
def zX3_playFootball : Zm := (RX3, cX3_playFootball, 4, none, { frames := 3, cells := 0, slots := 0, locals := 68 })
theorem ds_X3_playFootball_1 : decode cX3_playFootball 1 = .ok (.tableswitch 87 1 4 #[31, 44, 59, 73], 31) := by decide +kernel
set_option maxRecDepth 100000 in
theorem cl_X3_113 : cv_ RX3 113 yX3_showYellow zX3_showYellow 3 2 := ⟨gi_V (lwq_5 (dqc_m (dqc_m (dqa_m (List.mem_of_getElem? (i := 0) rfl)))) rfl : Cond.methodLink RX3 113 yX3_showYellow ∈ lw_g) (lwq_5 (dqc_m (dqc_m (dqa_m (List.mem_of_getElem? (i := 2) rfl)))) rfl : Cond.instanceMethod yX3_showYellow ∈ lw_g) (lw_sel 100 rfl : Cond.selects yX3_showYellow.cls yX3_showYellow yX3_showYellow ∈ lw_g) (lwq_1 (dqa_m (dqa_m (List.mem_of_getElem? (i := 2) rfl))) rfl : Cond.initialized yX3_showYellow.cls ∈ lw_g) (lwq_5 (dqc_m (dqc_m (dqa_m (List.mem_of_getElem? (i := 3) rfl)))) rfl : Cond.code yX3_showYellow cX3_showYellow 4 none ∈ lw_g), ⟨nmh_3.1, nmh_3.2, pdq_0⟩, ⟨_, _, rfl⟩⟩
abbrev cX3_playVolleyball : ByteArray := prog_5_method_18_code
def yX3_playVolleyball : MethodName := ⟨RX3, "playVolleyball", "(I)V"⟩
def zX3_playVolleyball : Zm := (RX3, cX3_playVolleyball, 3, none, { frames := 2, cells := 0, slots := 0, locals := 45 })
set_option maxRecDepth 100000 in
theorem cl_X3_125 : cs_ RX3 125 yX3_isWon zX3_isWon 3 := ⟨gi_S (lwq_5 (dqc_m (dqc_m (dqa_m (dqa_m (dqa_m (List.mem_of_getElem? (i := 4) rfl)))))) rfl : Cond.methodLink RX3 125 yX3_isWon ∈ lw_g) (lwq_5 (dqc_m (dqc_m (dqa_m (dqa_m (dqa_m (List.mem_of_getElem? (i := 5) rfl)))))) rfl : Cond.static yX3_isWon ∈ lw_g) (lwq_1 (dqa_m (dqa_m (List.mem_of_getElem? (i := 2) rfl))) rfl : Cond.initialized yX3_isWon.cls ∈ lw_g) (lwq_5 (dqc_m (dqc_m (dqa_m (dqa_m (dqa_m (List.mem_of_getElem? (i := 6) rfl)))))) rfl : Cond.code yX3_isWon cX3_isWon 3 (some .boolean) ∈ lw_g), ⟨by decide, by decide, by decide +kernel⟩⟩
set_option maxRecDepth 100000 in
theorem cl_X3_62 : cs_ RX3 62 yJ7_fill_53178 zJ7_fill_53178 2 := ⟨gi_S (lwq_5 (dqa_m (dqa_m (List.mem_of_getElem? (i := 2) rfl))) rfl : Cond.methodLink RX3 62 yJ7_fill_53178 ∈ lw_g) (lwq_2 (dqa_m (dqa_m (dqa_m (List.mem_of_getElem? (i := 2) rfl)))) rfl : Cond.static yJ7_fill_53178 ∈ lw_g) (lwq_1 (List.mem_of_getElem? (i := 7) rfl) rfl : Cond.initialized yJ7_fill_53178.cls ∈ lw_g) (lwq_2 (dqa_m (dqa_m (dqa_m (List.mem_of_getElem? (i := 3) rfl)))) rfl : Cond.code yJ7_fill_53178 cJ7_fill_53178 4 none ∈ lw_g), ⟨by decide, by decide, by decide +kernel⟩⟩
set_option maxRecDepth 100000 in
theorem cl_X3_122 : cv_ RX3 122 yX3_rotate zX3_rotate 3 1 := ⟨gi_V (lwq_5 (dqc_m (dqc_m (dqa_m (dqa_m (dqa_m (List.mem_of_getElem? (i := 0) rfl)))))) rfl : Cond.methodLink RX3 122 yX3_rotate ∈ lw_g) (lwq_5 (dqc_m (dqc_m (dqa_m (dqa_m (dqa_m (List.mem_of_getElem? (i := 2) rfl)))))) rfl : Cond.instanceMethod yX3_rotate ∈ lw_g) (lw_sel 98 rfl : Cond.selects yX3_rotate.cls yX3_rotate yX3_rotate ∈ lw_g) (lwq_1 (dqa_m (dqa_m (List.mem_of_getElem? (i := 2) rfl))) rfl : Cond.initialized yX3_rotate.cls ∈ lw_g) (lwq_5 (dqc_m (dqc_m (dqa_m (dqa_m (dqa_m (List.mem_of_getElem? (i := 3) rfl)))))) rfl : Cond.code yX3_rotate cX3_rotate 3 none ∈ lw_g), ⟨nmh_3.1, nmh_3.2, pdq_9⟩, ⟨_, _, rfl⟩⟩
abbrev cX3_playTennis : ByteArray := prog_5_method_21_code
def yX3_playTennis : MethodName := ⟨RX3, "playTennis", "(II)V"⟩
def zX3_playTennis : Zm := (RX3, cX3_playTennis, 5, none, { frames := 1, cells := 0, slots := 0, locals := 23 })
abbrev cX3_endHalf : ByteArray := prog_5_method_28_code
def yX3_endHalf : MethodName := ⟨RX3, "endHalf", "()V"⟩
def zX3_endHalf : Zm := (RX3, cX3_endHalf, 2, none, { frames := 1, cells := 0, slots := 0, locals := 20 })
set_option maxRecDepth 100000 in
theorem cl_X3_147 : cv_ RX3 147 yX3_isLastInning zX3_isLastInning 3 0 := ⟨gi_V (lwq_5 (dqc_m (dqc_m (dqc_m (dqa_m (dqa_m (List.mem_of_getElem? (i := 5) rfl)))))) rfl : Cond.methodLink RX3 147 yX3_isLastInning ∈ lw_g) (lwq_5 (dqc_m (dqc_m (dqc_m (dqa_m (dqa_m (List.mem_of_getElem? (i := 7) rfl)))))) rfl : Cond.instanceMethod yX3_isLastInning ∈ lw_g) (lw_sel 91 rfl : Cond.selects yX3_isLastInning.cls yX3_isLastInning yX3_isLastInning ∈ lw_g) (lwq_1 (dqa_m (dqa_m (List.mem_of_getElem? (i := 2) rfl))) rfl : Cond.initialized yX3_isLastInning.cls ∈ lw_g) (lwq_5 (dqc_m (dqc_m (dqc_m (dqa_m (dqa_m (dqa_m (List.mem_of_getElem? (i := 0) rfl))))))) rfl : Cond.code yX3_isLastInning cX3_isLastInning 1 (some .boolean) ∈ lw_g), ⟨nmh_3.1, nmh_3.2, pdq_18⟩, ⟨_, _, rfl⟩⟩
abbrev cX3_countOut : ByteArray := prog_5_method_27_code
def yX3_countOut : MethodName := ⟨RX3, "countOut", "()V"⟩
def zX3_countOut : Zm := (RX3, cX3_countOut, 1, none, { frames := 2, cells := 0, slots := 0, locals := 41 })
set_option maxRecDepth 100000 in
theorem cl_X3_151 : cv_ RX3 151 yX3_endHalf zX3_endHalf 3 0 := ⟨gi_V (lwq_5 (dqc_m (dqc_m (dqc_m (dqc_m (List.mem_of_getElem? (i := 1) rfl))))) rfl : Cond.methodLink RX3 151 yX3_endHalf ∈ lw_g) (lwq_5 (dqc_m (dqc_m (dqc_m (dqc_m (List.mem_of_getElem? (i := 3) rfl))))) rfl : Cond.instanceMethod yX3_endHalf ∈ lw_g) (lw_sel 86 rfl : Cond.selects yX3_endHalf.cls yX3_endHalf yX3_endHalf ∈ lw_g) (lwq_1 (dqa_m (dqa_m (List.mem_of_getElem? (i := 2) rfl))) rfl : Cond.initialized yX3_endHalf.cls ∈ lw_g) (lwq_5 (dqc_m (dqc_m (dqc_m (dqc_m (List.mem_of_getElem? (i := 4) rfl))))) rfl : Cond.code yX3_endHalf cX3_endHalf 2 none ∈ lw_g), ⟨nmh_3.1, nmh_3.2, pdq_1⟩, ⟨_, _, rfl⟩⟩
abbrev cX3_goOnBase : ByteArray := prog_5_method_25_code
def yX3_goOnBase : MethodName := ⟨RX3, "goOnBase", "(II)V"⟩
def zX3_goOnBase : Zm := (RX3, cX3_goOnBase, 3, none, { frames := 1, cells := 0, slots := 0, locals := 23 })
abbrev cX3_walk : ByteArray := prog_5_method_24_code
def yX3_walk : MethodName := ⟨RX3, "walk", "(I)V"⟩
def zX3_walk : Zm := (RX3, cX3_walk, 3, none, { frames := 2, cells := 0, slots := 0, locals := 45 })
set_option maxRecDepth 100000 in
theorem cl_X3_144 : cv_ RX3 144 yX3_goOnBase zX3_goOnBase 3 2 := ⟨gi_V (lwq_5 (dqc_m (dqc_m (dqc_m (dqa_m (dqa_m (List.mem_of_getElem? (i := 1) rfl)))))) rfl : Cond.methodLink RX3 144 yX3_goOnBase ∈ lw_g) (lwq_5 (dqc_m (dqc_m (dqc_m (dqa_m (dqa_m (List.mem_of_getElem? (i := 3) rfl)))))) rfl : Cond.instanceMethod yX3_goOnBase ∈ lw_g) (lw_sel 88 rfl : Cond.selects yX3_goOnBase.cls yX3_goOnBase yX3_goOnBase ∈ lw_g) (lwq_1 (dqa_m (dqa_m (List.mem_of_getElem? (i := 2) rfl))) rfl : Cond.initialized yX3_goOnBase.cls ∈ lw_g) (lwq_5 (dqc_m (dqc_m (dqc_m (dqa_m (dqa_m (List.mem_of_getElem? (i := 4) rfl)))))) rfl : Cond.code yX3_goOnBase cX3_goOnBase 3 none ∈ lw_g), ⟨nmh_3.1, nmh_3.2, pdq_0⟩, ⟨_, _, rfl⟩⟩
abbrev cX3_backToBeginning : ByteArray := prog_5_method_2_code
def yX3_backToBeginning : MethodName := ⟨RX3, "backToBeginning", "()V"⟩
def zX3_backToBeginning : Zm := (RX3, cX3_backToBeginning, 3, none, { frames := 1, cells := 0, slots := 0, locals := 23 })
