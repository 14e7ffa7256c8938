def KM_ (T : Zt) : Prop := ∀ m : Int, 0 ≤ m → m < T 106 0 4 → T 102 m 1 = m ∧ 0 ≤ T 102 m 0 ∧ T 102 m 0 < T 106 0 2
theorem KM__f {ws : List (Nat × List Int)} {T T' : Zt} (h : KM_ T) (f : fr_ ws T T') (w : fw_ ws 102 1 = false ∧ fw_ ws 102 0 = false ∧ fw_ ws 106 4 = false ∧ fw_ ws 106 2 = false ∧ True) : KM_ T' := by
  have e0 : ∀ i, T' 102 i 1 = T 102 i 1 := fun i => f 102 i 1 w.1
  have e1 : ∀ i, T' 102 i 0 = T 102 i 0 := fun i => f 102 i 0 w.2.1
  have e2 : ∀ i, T' 106 i 4 = T 106 i 4 := fun i => f 106 i 4 w.2.2.1
  have e3 : ∀ i, T' 106 i 2 = T 106 i 2 := fun i => f 106 i 2 w.2.2.2.1
  simp only [KM_, e0, e1, e2, e3] at h ⊢
  exact h
def KC_ (T : Zt) : Prop := ∀ c : Int, 0 ≤ c → c < T 106 0 2 → T 100 c 7 + T 100 c 8 ≤ T 106 0 4
theorem KC__f {ws : List (Nat × List Int)} {T T' : Zt} (h : KC_ T) (f : fr_ ws T T') (w : fw_ ws 100 7 = false ∧ fw_ ws 100 8 = false ∧ fw_ ws 106 4 = false ∧ fw_ ws 106 2 = false ∧ True) : KC_ T' := by
  have e0 : ∀ i, T' 100 i 7 = T 100 i 7 := fun i => f 100 i 7 w.1
  have e1 : ∀ i, T' 100 i 8 = T 100 i 8 := fun i => f 100 i 8 w.2.1
  have e2 : ∀ i, T' 106 i 4 = T 106 i 4 := fun i => f 106 i 4 w.2.2.1
  have e3 : ∀ i, T' 106 i 2 = T 106 i 2 := fun i => f 106 i 2 w.2.2.2.1
  simp only [KC_, e0, e1, e2, e3] at h ⊢
  exact h
def KR_ (T : Zt) : Prop := ∀ c : Int, 0 ≤ c → c < T 106 0 2 → 1 ≤ T 401 c 9 ∧ T 401 c 9 ≤ 6
theorem KR__f {ws : List (Nat × List Int)} {T T' : Zt} (h : KR_ T) (f : fr_ ws T T') (w : (∀ j, fw_ ws 401 j = false) ∧ fw_ ws 106 2 = false ∧ True) : KR_ T' := by
  have e0 : ∀ i j, T' 401 i j = T 401 i j := fun i j => f 401 i j (w.1 j)
  have e1 : ∀ i, T' 106 i 2 = T 106 i 2 := fun i => f 106 i 2 w.2.1
  simp only [KR_, e0, e1] at h ⊢
  exact h
abbrev cX6_shareClub : ByteArray := prog_8_method_9_code
def yX6_shareClub : MethodName := ⟨RX6, "shareClub", "(LSportsHouse$Match;LSportsHouse$Match;)Z"⟩
def zX6_shareClub : Zm := (RX6, cX6_shareClub, 2, (some .boolean), { frames := 1, cells := 0, slots := 0, locals := 21 })
theorem bk_X6_shareClub_0 : ck_ fX6 (some .boolean) cX6_shareClub 0 [.aload 0, .aload 1, .tableswitch 0 2 3 #[]] 5 = true := qck_r (nn_ _) (by decide +kernel)
theorem bs_X6_shareClub_0 {P : Zt → Option Zv → Prop} (K : Int → Zl → List Zv → Zt → Prop) : sx_ K P [.aload 0, .aload 1, .tableswitch 0 2 3 #[]] 5 = x_aload 0 (x_aload 1 (x_g0 102 3 0 11 (K 5))) := ((xe_aload 0).trans (congrArg (x_aload 0) ((xe_aload 1).trans (congrArg (x_aload 1) ((xe_g0 (kk := 102) rfl tl_2_3).trans (congrArg (x_g0 102 3 0 11) xe_nil))))))
set_option maxRecDepth 100000 in
theorem cl_X6_88 : cv_ RX6 88 yX2_has zX2_has 2 1 := ⟨gi_V (lw_b4 73 (by decide +kernel) rfl : Cond.methodLink RX6 88 yX2_has ∈ lw_g) (lw_b4 74 (by decide +kernel) rfl : Cond.instanceMethod yX2_has ∈ lw_g) (lw_b4 75 (by decide +kernel) rfl : Cond.selects yX2_has.cls yX2_has yX2_has ∈ lw_g) (lw_b1 16 (by decide +kernel) rfl : Cond.initialized yX2_has.cls ∈ lw_g) (lw_b4 76 rfl rfl : Cond.code yX2_has cX2_has 2 (some .boolean) ∈ lw_g), ⟨by decide, by decide, by decide +kernel⟩, ⟨_, _, rfl⟩⟩
theorem bk_X6_shareClub_8 : ck_ fX6 (some .boolean) cX6_shareClub 8 [.ifCond .ne 22, .aload 0, .aload 1, .tableswitch 0 2 4 #[]] 16 = true := qck_r (nn_ _) (by decide +kernel)
theorem bs_X6_shareClub_8 {P : Zt → Option Zv → Prop} (K : Int → Zl → List Zv → Zt → Prop) : sx_ K P [.ifCond .ne 22, .aload 0, .aload 1, .tableswitch 0 2 4 #[]] 16 = x_ifCond .ne 22 K (x_aload 0 (x_aload 1 (x_g0 102 4 0 11 (K 16)))) := ((xe_ifCond .ne 22).trans (congrArg (x_ifCond .ne 22 K) ((xe_aload 0).trans (congrArg (x_aload 0) ((xe_aload 1).trans (congrArg (x_aload 1) ((xe_g0 (kk := 102) rfl tl_2_4).trans (congrArg (x_g0 102 4 0 11) xe_nil))))))))
theorem bk_X6_shareClub_22 : ck_ fX6 (some .boolean) cX6_shareClub 22 [.iconst 1, .goto 27] 26 = true := qck_r (nn_ _) (by decide +kernel)
theorem bs_X6_shareClub_22 {P : Zt → Option Zv → Prop} (K : Int → Zl → List Zv → Zt → Prop) : sx_ K P [.iconst 1, .goto 27] 26 = x_iconst 1 (x_goto 27 K) := ((xe_iconst 1).trans (congrArg (x_iconst 1) (xe_goto 27)))
theorem bk_X6_shareClub_27 : ck_ fX6 (some .boolean) cX6_shareClub 27 [.ireturn] 28 = true := qck_r (nn_ _) (by decide +kernel)
theorem bs_X6_shareClub_27 {P : Zt → Option Zv → Prop} (K : Int → Zl → List Zv → Zt → Prop) : sx_ K P [.ireturn] 28 = x_ireturn P := (xe_ireturn)
theorem bk_X6_shareClub_19 : ck_ fX6 (some .boolean) cX6_shareClub 19 [.ifCond .eq 26, .iconst 1, .goto 27] 26 = true := qck_r (nn_ _) (by decide +kernel)
theorem bs_X6_shareClub_19 {P : Zt → Option Zv → Prop} (K : Int → Zl → List Zv → Zt → Prop) : sx_ K P [.ifCond .eq 26, .iconst 1, .goto 27] 26 = x_ifCond .eq 26 K (x_iconst 1 (x_goto 27 K)) := ((xe_ifCond .eq 26).trans (congrArg (x_ifCond .eq 26 K) ((xe_iconst 1).trans (congrArg (x_iconst 1) (xe_goto 27)))))
theorem bk_X6_shareClub_26 : ck_ fX6 (some .boolean) cX6_shareClub 26 [.iconst 0, .ireturn] 28 = true := qck_r (nn_ _) (by decide +kernel)
theorem bs_X6_shareClub_26 {P : Zt → Option Zv → Prop} (K : Int → Zl → List Zv → Zt → Prop) : sx_ K P [.iconst 0, .ireturn] 28 = x_iconst 0 (x_ireturn P) := ((xe_iconst 0).trans (congrArg (x_iconst 0) (xe_ireturn)))
abbrev po_X6_shareClub (T : Zt) (p : Int) (u : Int) : Zt → Option Zv → Prop := fun T' r => T = T' ∧ ∃ x : Int, r = some (vI x) ∧ (0 ≤ x ∧ x ≤ 1)
set_option maxHeartbeats 4000000 in
theorem ct_X6_shareClub {T : Zt} {p : Int} {u : Int} : Ct_ yX6_shareClub zX6_shareClub T [vR 102 p, vR 102 u] (po_X6_shareClub T p u) := by
  refine ct_of pn_6 rfl rfl (Nat.le_of_ble_eq_true rfl) (fun hT hav => ?_)
  have hz : zX6_shareClub.2.2.2.1 = some .boolean → ∀ (T' : Zt) (x : Int), po_X6_shareClub T p u T' (some (vI x)) → 0 ≤ x ∧ x ≤ 1 := fun _ T' x h => by obtain ⟨-, y, e, hy⟩ := h; cases e; omega
  show J_ zX6_shareClub T (po_X6_shareClub T p u) 0 0 0 [some (vR 102 p), some (vR 102 u)] [] T
  refine j_blx (F := fX6) tb_X6 (nn_ _) bk_X6_shareClub_0 bs_X6_shareClub_0 hz (fun K hK => ?_)
  intro b1 b1b
  refine hK 5 _ [vI (T 102 u 3), vR 102 p] T ?_
  refine j_callV (y := yX2_has) (Yc := zX2_has) (rest := []) [vI (T 102 u 3)] (ct_X2_has (T := T)) cl_X6_88 (qd_c (by decide +kernel)) (nn_ _) rfl (rf_of rfl) (Nat.le_of_ble_eq_true rfl) (Nat.le_of_ble_eq_true rfl) (Nat.le_of_ble_eq_true rfl) rfl ?_
  rintro _ _ ⟨rfl, x2, rfl, hx2⟩
  show J_ zX6_shareClub T (po_X6_shareClub T p u) 0 0 8 _ [vI x2] T
  refine j_blx (F := fX6) tb_X6 (nn_ _) bk_X6_shareClub_8 bs_X6_shareClub_8 hz (fun K hK => ?_)
  refine And.intro (fun c3 => ?_) (fun c3 => ?_)
  · refine hK 22 _ [] T ?_
    refine j_blx (F := fX6) tb_X6 (nn_ _) bk_X6_shareClub_22 bs_X6_shareClub_22 hz (fun K hK => ?_)
    refine hK 27 _ [vI 1] T ?_
    refine j_blx (F := fX6) tb_X6 (nn_ _) bk_X6_shareClub_27 bs_X6_shareClub_27 hz (fun K hK => ?_)
    refine (show po_X6_shareClub T p u T (some (vI 1)) from ?_)
    exact ⟨rfl, _, rfl, by omega⟩
  · intro b4 b4b
    refine hK 16 _ [vI (T 102 u 4), vR 102 p] T ?_
    refine j_callV (y := yX2_has) (Yc := zX2_has) (rest := []) [vI (T 102 u 4)] (ct_X2_has (T := T)) cl_X6_88 (qd_c (by decide +kernel)) (nn_ _) rfl (rf_of rfl) (Nat.le_of_ble_eq_true rfl) (Nat.le_of_ble_eq_true rfl) (Nat.le_of_ble_eq_true rfl) rfl ?_
    rintro _ _ ⟨rfl, x5, rfl, hx5⟩
    show J_ zX6_shareClub T (po_X6_shareClub T p u) 0 0 19 _ [vI x5] T
    refine j_blx (F := fX6) tb_X6 (nn_ _) bk_X6_shareClub_19 bs_X6_shareClub_19 hz (fun K hK => ?_)
    refine And.intro (fun c6 => ?_) (fun c6 => ?_)
    · refine hK 26 _ [] T ?_
      refine j_blx (F := fX6) tb_X6 (nn_ _) bk_X6_shareClub_26 bs_X6_shareClub_26 hz (fun K hK => ?_)
      refine (show po_X6_shareClub T p u T (some (vI 0)) from ?_)
      exact ⟨rfl, _, rfl, by omega⟩
    · refine hK 27 _ [vI 1] T ?_
      refine j_blx (F := fX6) tb_X6 (nn_ _) bk_X6_shareClub_27 bs_X6_shareClub_27 hz (fun K hK => ?_)
      refine (show po_X6_shareClub T p u T (some (vI 1)) from ?_)
      exact ⟨rfl, _, rfl, by omega⟩
abbrev cX6_countBreaks : ByteArray := prog_8_method_5_code
def yX6_countBreaks : MethodName := ⟨RX6, "countBreaks", "(LSportsHouse$Competition;I)I"⟩
def zX6_countBreaks : Zm := (RX6, cX6_countBreaks, 9, (some .int), { frames := 1, cells := 0, slots := 0, locals := 21 })
theorem bk_X6_countBreaks_11 : ck_ fX6 (some .int) cX6_countBreaks 11 [.iload 6, .aload 1, .tableswitch 0 0 8 #[], .if_icmp .ge 87, .aload 0, .tableswitch 0 6 3 #[], .aload 1, .tableswitch 0 0 7 #[], .iload 6, .iadd, .aaload, .astore 7, .aload 7, .iload 2] 37 = true := qck_r (nn_ _) (by decide +kernel)
theorem bs_X6_countBreaks_11 {P : Zt → Option Zv → Prop} (K : Int → Zl → List Zv → Zt → Prop) : sx_ K P [.iload 6, .aload 1, .tableswitch 0 0 8 #[], .if_icmp .ge 87, .aload 0, .tableswitch 0 6 3 #[], .aload 1, .tableswitch 0 0 7 #[], .iload 6, .iadd, .aaload, .astore 7, .aload 7, .iload 2] 37 = x_iload 6 (x_aload 1 (x_g0 100 8 0 400 (x_if_icmp .ge 87 K (x_aload 0 (x_g1 106 523 (x_aload 1 (x_g0 100 7 0 400 (x_iload 6 (x_iadd (x_aaload (x_astore 7 (x_aload 7 (x_iload 2 (K 37)))))))))))))) := ((xe_iload 6).trans (congrArg (x_iload 6) ((xe_aload 1).trans (congrArg (x_aload 1) ((xe_g0 (kk := 100) rfl tl_0_8).trans (congrArg (x_g0 100 8 0 400) ((xe_if_icmp .ge 87).trans (congrArg (x_if_icmp .ge 87 K) ((xe_aload 0).trans (congrArg (x_aload 0) ((xe_g1 (kk := 106) rfl tl_6_3).trans (congrArg (x_g1 106 523) ((xe_aload 1).trans (congrArg (x_aload 1) ((xe_g0 (kk := 100) rfl tl_0_7).trans (congrArg (x_g0 100 7 0 400) ((xe_iload 6).trans (congrArg (x_iload 6) ((xe_iadd).trans (congrArg (x_iadd) ((xe_aaload).trans (congrArg (x_aaload) ((xe_astore 7).trans (congrArg (x_astore 7) ((xe_aload 7).trans (congrArg (x_aload 7) ((xe_iload 2).trans (congrArg (x_iload 2) xe_nil))))))))))))))))))))))))))))
theorem bk_X6_countBreaks_87 : ck_ fX6 (some .int) cX6_countBreaks 87 [.iload 3, .ireturn] 89 = true := qck_r (nn_ _) (by decide +kernel)
theorem bs_X6_countBreaks_87 {P : Zt → Option Zv → Prop} (K : Int → Zl → List Zv → Zt → Prop) : sx_ K P [.iload 3, .ireturn] 89 = x_iload 3 (x_ireturn P) := ((xe_iload 3).trans (congrArg (x_iload 3) (xe_ireturn)))
theorem bk_X6_countBreaks_40 : ck_ fX6 (some .int) cX6_countBreaks 40 [.ifCond .eq 81, .aload 7, .tableswitch 0 2 3 #[], .iload 2, .if_icmp .ne 56, .iconst 1, .goto 57] 56 = true := qck_r (nn_ _) (by decide +kernel)
theorem bs_X6_countBreaks_40 {P : Zt → Option Zv → Prop} (K : Int → Zl → List Zv → Zt → Prop) : sx_ K P [.ifCond .eq 81, .aload 7, .tableswitch 0 2 3 #[], .iload 2, .if_icmp .ne 56, .iconst 1, .goto 57] 56 = x_ifCond .eq 81 K (x_aload 7 (x_g0 102 3 0 11 (x_iload 2 (x_if_icmp .ne 56 K (x_iconst 1 (x_goto 57 K)))))) := ((xe_ifCond .eq 81).trans (congrArg (x_ifCond .eq 81 K) ((xe_aload 7).trans (congrArg (x_aload 7) ((xe_g0 (kk := 102) rfl tl_2_3).trans (congrArg (x_g0 102 3 0 11) ((xe_iload 2).trans (congrArg (x_iload 2) ((xe_if_icmp .ne 56).trans (congrArg (x_if_icmp .ne 56 K) ((xe_iconst 1).trans (congrArg (x_iconst 1) (xe_goto 57)))))))))))))
theorem bk_X6_countBreaks_81 : ck_ fX6 (some .int) cX6_countBreaks 81 [.iinc 6 1, .goto 11] 87 = true := qck_r (nn_ _) (by decide +kernel)
theorem bs_X6_countBreaks_81 {P : Zt → Option Zv → Prop} (K : Int → Zl → List Zv → Zt → Prop) : sx_ K P [.iinc 6 1, .goto 11] 87 = x_iinc 6 1 (x_goto 11 K) := ((xe_iinc 6 1).trans (congrArg (x_iinc 6 1) (xe_goto 11)))
theorem bk_X6_countBreaks_56 : ck_ fX6 (some .int) cX6_countBreaks 56 [.iconst 0, .istore 8, .iload 4, .ifCond .eq 74, .iload 8, .iload 5, .if_icmp .ne 74, .iinc 3 1, .iconst 1, .istore 4, .iload 8, .istore 5, .iinc 6 1, .goto 11] 87 = true := qck_r (nn_ _) (by decide +kernel)
theorem bs_X6_countBreaks_56 {P : Zt → Option Zv → Prop} (K : Int → Zl → List Zv → Zt → Prop) : sx_ K P [.iconst 0, .istore 8, .iload 4, .ifCond .eq 74, .iload 8, .iload 5, .if_icmp .ne 74, .iinc 3 1, .iconst 1, .istore 4, .iload 8, .istore 5, .iinc 6 1, .goto 11] 87 = x_iconst 0 (x_istore 8 (x_iload 4 (x_ifCond .eq 74 K (x_iload 8 (x_iload 5 (x_if_icmp .ne 74 K (x_iinc 3 1 (x_iconst 1 (x_istore 4 (x_iload 8 (x_istore 5 (x_iinc 6 1 (x_goto 11 K))))))))))))) := ((xe_iconst 0).trans (congrArg (x_iconst 0) ((xe_istore 8).trans (congrArg (x_istore 8) ((xe_iload 4).trans (congrArg (x_iload 4) ((xe_ifCond .eq 74).trans (congrArg (x_ifCond .eq 74 K) ((xe_iload 8).trans (congrArg (x_iload 8) ((xe_iload 5).trans (congrArg (x_iload 5) ((xe_if_icmp .ne 74).trans (congrArg (x_if_icmp .ne 74 K) ((xe_iinc 3 1).trans (congrArg (x_iinc 3 1) ((xe_iconst 1).trans (congrArg (x_iconst 1) ((xe_istore 4).trans (congrArg (x_istore 4) ((xe_iload 8).trans (congrArg (x_iload 8) ((xe_istore 5).trans (congrArg (x_istore 5) ((xe_iinc 6 1).trans (congrArg (x_iinc 6 1) (xe_goto 11)))))))))))))))))))))))))))
theorem bk_X6_countBreaks_74 : ck_ fX6 (some .int) cX6_countBreaks 74 [.iconst 1, .istore 4, .iload 8, .istore 5, .iinc 6 1, .goto 11] 87 = true := qck_r (nn_ _) (by decide +kernel)
theorem bs_X6_countBreaks_74 {P : Zt → Option Zv → Prop} (K : Int → Zl → List Zv → Zt → Prop) : sx_ K P [.iconst 1, .istore 4, .iload 8, .istore 5, .iinc 6 1, .goto 11] 87 = x_iconst 1 (x_istore 4 (x_iload 8 (x_istore 5 (x_iinc 6 1 (x_goto 11 K))))) := ((xe_iconst 1).trans (congrArg (x_iconst 1) ((xe_istore 4).trans (congrArg (x_istore 4) ((xe_iload 8).trans (congrArg (x_iload 8) ((xe_istore 5).trans (congrArg (x_istore 5) ((xe_iinc 6 1).trans (congrArg (x_iinc 6 1) (xe_goto 11)))))))))))
theorem bk_X6_countBreaks_57 : ck_ fX6 (some .int) cX6_countBreaks 57 [.istore 8, .iload 4, .ifCond .eq 74, .iload 8, .iload 5, .if_icmp .ne 74, .iinc 3 1, .iconst 1, .istore 4, .iload 8, .istore 5, .iinc 6 1, .goto 11] 87 = true := qck_r (nn_ _) (by decide +kernel)
theorem bs_X6_countBreaks_57 {P : Zt → Option Zv → Prop} (K : Int → Zl → List Zv → Zt → Prop) : sx_ K P [.istore 8, .iload 4, .ifCond .eq 74, .iload 8, .iload 5, .if_icmp .ne 74, .iinc 3 1, .iconst 1, .istore 4, .iload 8, .istore 5, .iinc 6 1, .goto 11] 87 = x_istore 8 (x_iload 4 (x_ifCond .eq 74 K (x_iload 8 (x_iload 5 (x_if_icmp .ne 74 K (x_iinc 3 1 (x_iconst 1 (x_istore 4 (x_iload 8 (x_istore 5 (x_iinc 6 1 (x_goto 11 K)))))))))))) := ((xe_istore 8).trans (congrArg (x_istore 8) ((xe_iload 4).trans (congrArg (x_iload 4) ((xe_ifCond .eq 74).trans (congrArg (x_ifCond .eq 74 K) ((xe_iload 8).trans (congrArg (x_iload 8) ((xe_iload 5).trans (congrArg (x_iload 5) ((xe_if_icmp .ne 74).trans (congrArg (x_if_icmp .ne 74 K) ((xe_iinc 3 1).trans (congrArg (x_iinc 3 1) ((xe_iconst 1).trans (congrArg (x_iconst 1) ((xe_istore 4).trans (congrArg (x_istore 4) ((xe_iload 8).trans (congrArg (x_iload 8) ((xe_istore 5).trans (congrArg (x_istore 5) ((xe_iinc 6 1).trans (congrArg (x_iinc 6 1) (xe_goto 11)))))))))))))))))))))))))
theorem bk_X6_countBreaks_0 : ck_ fX6 (some .int) cX6_countBreaks 0 [.iconst 0, .istore 3, .iconst 0, .istore 4, .iconst 0, .istore 5, .iconst 0, .istore 6] 11 = true := qck_r (nn_ _) (by decide +kernel)
theorem bs_X6_countBreaks_0 {P : Zt → Option Zv → Prop} (K : Int → Zl → List Zv → Zt → Prop) : sx_ K P [.iconst 0, .istore 3, .iconst 0, .istore 4, .iconst 0, .istore 5, .iconst 0, .istore 6] 11 = x_iconst 0 (x_istore 3 (x_iconst 0 (x_istore 4 (x_iconst 0 (x_istore 5 (x_iconst 0 (x_istore 6 (K 11)))))))) := ((xe_iconst 0).trans (congrArg (x_iconst 0) ((xe_istore 3).trans (congrArg (x_istore 3) ((xe_iconst 0).trans (congrArg (x_iconst 0) ((xe_istore 4).trans (congrArg (x_istore 4) ((xe_iconst 0).trans (congrArg (x_iconst 0) ((xe_istore 5).trans (congrArg (x_istore 5) ((xe_iconst 0).trans (congrArg (x_iconst 0) ((xe_istore 6).trans (congrArg (x_istore 6) xe_nil))))))))))))))))
abbrev po_X6_countBreaks (T : Zt) (c : Int) (cl : Int) : Zt → Option Zv → Prop := fun T' r => T = T' ∧ ∃ x : Int, r = some (vI x) ∧ (0 ≤ x ∧ x ≤ 400)
set_option maxHeartbeats 4000000 in
theorem ct_X6_countBreaks {T : Zt} {c : Int} {cl : Int} (hka : KA_ T) (hcm : T 100 c 7 + T 100 c 8 ≤ T 106 0 4) : Ct_ yX6_countBreaks zX6_countBreaks T [vR 106 0, vR 100 c, vI cl] (po_X6_countBreaks T c cl) := by
  refine ct_of pn_6 rfl rfl (Nat.le_of_ble_eq_true rfl) (fun hT hav => ?_)
  have hr_cl : -2147483648 ≤ cl ∧ cl ≤ 2147483647 := hav (vI cl) (by simp)
  have hz : zX6_countBreaks.2.2.2.1 = some .boolean → ∀ (T' : Zt) (x : Int), po_X6_countBreaks T c cl T' (some (vI x)) → 0 ≤ x ∧ x ≤ 1 := fun h => by cases h
  have hb_matchCount : 0 ≤ T 106 0 4 ∧ T 106 0 4 ≤ 400 := bd_f hT 106 4 (by decide +kernel : (tf_ 106)[4]? = some (0, 0, 0, 400)) 0
  show J_ zX6_countBreaks T (po_X6_countBreaks T c cl) 0 0 0 [some (vR 106 0), some (vR 100 c), some (vI cl), none, none, none, none, none, none] [] T
  have c_11 : ∀ (nn : Nat) (f : Int) (a : Int) (w : Int) (k : Int), ((400 - k).toNat) ≤ nn → (0 ≤ f ∧ f ≤ k ∧ 0 ≤ k ∧ k ≤ 400) → J_ zX6_countBreaks T (po_X6_countBreaks T c cl) 0 0 11 [some (vR 106 0), some (vR 100 c), some (vI cl), some (vI f), some (vI a), some (vI w), some (vI k), none, none] [] T := by
    intro nn
    induction nn using Nat.strongRecOn with
    | _ nn ih_11 =>
      intro f a w k hm_11 i1
      refine j_blx (F := fX6) tb_X6 (nn_ _) bk_X6_countBreaks_11 bs_X6_countBreaks_11 hz (fun K hK => ?_)
      intro b1 b1b
      refine And.intro (fun c2 => ?_) (fun c2 => ?_)
      · refine hK 87 _ [] T ?_
        refine j_blx (F := fX6) tb_X6 (nn_ _) bk_X6_countBreaks_87 bs_X6_countBreaks_87 hz (fun K hK => ?_)
        refine (show po_X6_countBreaks T c cl T (some (vI f)) from ?_)
        exact ⟨rfl, _, rfl, by omega⟩
      · intro b3 b3b
        refine rg_i (by omega) ?_
        refine ix_i (by omega) ?_
        refine And.intro (fun c4 => ?_) (fun c4 => ?_)
        · exact absurd c4 (hka.2 _ (by omega) (by omega))
        · refine hK 37 [some (vR 106 0), some (vR 100 c), some (vI cl), some (vI f), some (vI a), some (vI w), some (vI k), some (vR 102 ((T 100 c 7) + k)), none] [vI cl, vR 102 ((T 100 c 7) + k)] T ?_
          refine j_callV (y := yX2_has) (Yc := zX2_has) (rest := []) [vI cl] (ct_X2_has (T := T)) cl_X6_88 (qd_c (by decide +kernel)) (nn_ _) rfl (rf_of rfl) (Nat.le_of_ble_eq_true rfl) (Nat.le_of_ble_eq_true rfl) (Nat.le_of_ble_eq_true rfl) rfl ?_
          rintro _ _ ⟨rfl, x5, rfl, hx5⟩
          show J_ zX6_countBreaks T (po_X6_countBreaks T c cl) 0 0 40 _ [vI x5] T
          refine j_blx (F := fX6) tb_X6 (nn_ _) bk_X6_countBreaks_40 bs_X6_countBreaks_40 hz (fun K hK => ?_)
          refine And.intro (fun c6 => ?_) (fun c6 => ?_)
          · refine hK 81 _ [] T ?_
            refine j_blx (F := fX6) tb_X6 (nn_ _) bk_X6_countBreaks_81 bs_X6_countBreaks_81 hz (fun K hK => ?_)
            refine rg_i (by omega) ?_
            refine hK 11 [some (vR 106 0), some (vR 100 c), some (vI cl), some (vI f), some (vI a), some (vI w), some (vI (k + 1)), some (vR 102 ((T 100 c 7) + k)), none] [] T ?_
            refine j_drop [some (vR 106 0), some (vR 100 c), some (vI cl), some (vI f), some (vI a), some (vI w), some (vI (k + 1)), none, none] (fun k v hk => ?_) rfl ?_
            · match k, hk with
              | 0, hk => exact hk
              | 1, hk => exact hk
              | 2, hk => exact hk
              | 3, hk => exact hk
              | 4, hk => exact hk
              | 5, hk => exact hk
              | 6, hk => exact hk
              | 7, hk => cases hk
              | 8, hk => cases hk
              | k + 9, hk => cases hk
            refine ih_11 _ ?_ f a w (k + 1) (Nat.le_refl _) ?_
            · omega
            · omega
          · intro b7 b7b
            refine And.intro (fun c8 => ?_) (fun c8 => ?_)
            · refine hK 56 [some (vR 106 0), some (vR 100 c), some (vI cl), some (vI f), some (vI a), some (vI w), some (vI k), some (vR 102 ((T 100 c 7) + k)), none] [] T ?_
              refine j_blx (F := fX6) tb_X6 (nn_ _) bk_X6_countBreaks_56 bs_X6_countBreaks_56 hz (fun K hK => ?_)
              refine And.intro (fun c9 => ?_) (fun c9 => ?_)
              · refine hK 74 [some (vR 106 0), some (vR 100 c), some (vI cl), some (vI f), some (vI a), some (vI w), some (vI k), some (vR 102 ((T 100 c 7) + k)), some (vI 0)] [] T ?_
                refine j_blx (F := fX6) tb_X6 (nn_ _) bk_X6_countBreaks_74 bs_X6_countBreaks_74 hz (fun K hK => ?_)
                refine rg_i (by omega) ?_
                refine hK 11 [some (vR 106 0), some (vR 100 c), some (vI cl), some (vI f), some (vI 1), some (vI 0), some (vI (k + 1)), some (vR 102 ((T 100 c 7) + k)), some (vI 0)] [] T ?_
                refine j_drop [some (vR 106 0), some (vR 100 c), some (vI cl), some (vI f), some (vI 1), some (vI 0), some (vI (k + 1)), none, none] (fun k v hk => ?_) rfl ?_
                · match k, hk with
                  | 0, hk => exact hk
                  | 1, hk => exact hk
                  | 2, hk => exact hk
                  | 3, hk => exact hk
                  | 4, hk => exact hk
                  | 5, hk => exact hk
                  | 6, hk => exact hk
                  | 7, hk => cases hk
                  | 8, hk => cases hk
                  | k + 9, hk => cases hk
                refine ih_11 _ ?_ f 1 0 (k + 1) (Nat.le_refl _) ?_
                · omega
                · omega
              · refine And.intro (fun c10 => ?_) (fun c10 => ?_)
                · refine hK 74 [some (vR 106 0), some (vR 100 c), some (vI cl), some (vI f), some (vI a), some (vI w), some (vI k), some (vR 102 ((T 100 c 7) + k)), some (vI 0)] [] T ?_
                  refine j_blx (F := fX6) tb_X6 (nn_ _) bk_X6_countBreaks_74 bs_X6_countBreaks_74 hz (fun K hK => ?_)
                  refine rg_i (by omega) ?_
                  refine hK 11 [some (vR 106 0), some (vR 100 c), some (vI cl), some (vI f), some (vI 1), some (vI 0), some (vI (k + 1)), some (vR 102 ((T 100 c 7) + k)), some (vI 0)] [] T ?_
                  refine j_drop [some (vR 106 0), some (vR 100 c), some (vI cl), some (vI f), some (vI 1), some (vI 0), some (vI (k + 1)), none, none] (fun k v hk => ?_) rfl ?_
                  · match k, hk with
                    | 0, hk => exact hk
                    | 1, hk => exact hk
                    | 2, hk => exact hk
                    | 3, hk => exact hk
                    | 4, hk => exact hk
                    | 5, hk => exact hk
                    | 6, hk => exact hk
                    | 7, hk => cases hk
                    | 8, hk => cases hk
                    | k + 9, hk => cases hk
                  refine ih_11 _ ?_ f 1 0 (k + 1) (Nat.le_refl _) ?_
                  · omega
                  · omega
                · refine rg_i (by omega) ?_
                  refine rg_i (by omega) ?_
                  refine hK 11 [some (vR 106 0), some (vR 100 c), some (vI cl), some (vI (f + 1)), some (vI 1), some (vI 0), some (vI (k + 1)), some (vR 102 ((T 100 c 7) + k)), some (vI 0)] [] T ?_
                  refine j_drop [some (vR 106 0), some (vR 100 c), some (vI cl), some (vI (f + 1)), some (vI 1), some (vI 0), some (vI (k + 1)), none, none] (fun k v hk => ?_) rfl ?_
                  · match k, hk with
                    | 0, hk => exact hk
                    | 1, hk => exact hk
                    | 2, hk => exact hk
                    | 3, hk => exact hk
                    | 4, hk => exact hk
                    | 5, hk => exact hk
                    | 6, hk => exact hk
                    | 7, hk => cases hk
                    | 8, hk => cases hk
                    | k + 9, hk => cases hk
                  refine ih_11 _ ?_ (f + 1) 1 0 (k + 1) (Nat.le_refl _) ?_
                  · omega
                  · omega
            · refine hK 57 _ [vI 1] T ?_
              refine j_blx (F := fX6) tb_X6 (nn_ _) bk_X6_countBreaks_57 bs_X6_countBreaks_57 hz (fun K hK => ?_)
              refine And.intro (fun c11 => ?_) (fun c11 => ?_)
              · refine hK 74 [some (vR 106 0), some (vR 100 c), some (vI cl), some (vI f), some (vI a), some (vI w), some (vI k), some (vR 102 ((T 100 c 7) + k)), some (vI 1)] [] T ?_
                refine j_blx (F := fX6) tb_X6 (nn_ _) bk_X6_countBreaks_74 bs_X6_countBreaks_74 hz (fun K hK => ?_)
                refine rg_i (by omega) ?_
                refine hK 11 [some (vR 106 0), some (vR 100 c), some (vI cl), some (vI f), some (vI 1), some (vI 1), some (vI (k + 1)), some (vR 102 ((T 100 c 7) + k)), some (vI 1)] [] T ?_
                refine j_drop [some (vR 106 0), some (vR 100 c), some (vI cl), some (vI f), some (vI 1), some (vI 1), some (vI (k + 1)), none, none] (fun k v hk => ?_) rfl ?_
                · match k, hk with
                  | 0, hk => exact hk
                  | 1, hk => exact hk
                  | 2, hk => exact hk
                  | 3, hk => exact hk
                  | 4, hk => exact hk
                  | 5, hk => exact hk
                  | 6, hk => exact hk
                  | 7, hk => cases hk
                  | 8, hk => cases hk
                  | k + 9, hk => cases hk
                refine ih_11 _ ?_ f 1 1 (k + 1) (Nat.le_refl _) ?_
                · omega
                · omega
              · refine And.intro (fun c12 => ?_) (fun c12 => ?_)
                · refine hK 74 [some (vR 106 0), some (vR 100 c), some (vI cl), some (vI f), some (vI a), some (vI w), some (vI k), some (vR 102 ((T 100 c 7) + k)), some (vI 1)] [] T ?_
                  refine j_blx (F := fX6) tb_X6 (nn_ _) bk_X6_countBreaks_74 bs_X6_countBreaks_74 hz (fun K hK => ?_)
                  refine rg_i (by omega) ?_
                  refine hK 11 [some (vR 106 0), some (vR 100 c), some (vI cl), some (vI f), some (vI 1), some (vI 1), some (vI (k + 1)), some (vR 102 ((T 100 c 7) + k)), some (vI 1)] [] T ?_
                  refine j_drop [some (vR 106 0), some (vR 100 c), some (vI cl), some (vI f), some (vI 1), some (vI 1), some (vI (k + 1)), none, none] (fun k v hk => ?_) rfl ?_
                  · match k, hk with
                    | 0, hk => exact hk
                    | 1, hk => exact hk
                    | 2, hk => exact hk
                    | 3, hk => exact hk
                    | 4, hk => exact hk
                    | 5, hk => exact hk
                    | 6, hk => exact hk
                    | 7, hk => cases hk
                    | 8, hk => cases hk
                    | k + 9, hk => cases hk
                  refine ih_11 _ ?_ f 1 1 (k + 1) (Nat.le_refl _) ?_
                  · omega
                  · omega
                · refine rg_i (by omega) ?_
                  refine rg_i (by omega) ?_
                  refine hK 11 [some (vR 106 0), some (vR 100 c), some (vI cl), some (vI (f + 1)), some (vI 1), some (vI 1), some (vI (k + 1)), some (vR 102 ((T 100 c 7) + k)), some (vI 1)] [] T ?_
                  refine j_drop [some (vR 106 0), some (vR 100 c), some (vI cl), some (vI (f + 1)), some (vI 1), some (vI 1), some (vI (k + 1)), none, none] (fun k v hk => ?_) rfl ?_
                  · match k, hk with
                    | 0, hk => exact hk
                    | 1, hk => exact hk
                    | 2, hk => exact hk
                    | 3, hk => exact hk
                    | 4, hk => exact hk
                    | 5, hk => exact hk
                    | 6, hk => exact hk
                    | 7, hk => cases hk
                    | 8, hk => cases hk
                    | k + 9, hk => cases hk
                  refine ih_11 _ ?_ (f + 1) 1 1 (k + 1) (Nat.le_refl _) ?_
                  · omega
                  · omega
  refine j_blx (F := fX6) tb_X6 (nn_ _) bk_X6_countBreaks_0 bs_X6_countBreaks_0 hz (fun K hK => ?_)
  refine hK 11 [some (vR 106 0), some (vR 100 c), some (vI cl), some (vI 0), some (vI 0), some (vI 0), some (vI 0), none, none] [] T ?_
  refine c_11 _ 0 0 0 0 (Nat.le_refl _) ?_
  · omega
abbrev cX6_listAhead : ByteArray := prog_8_method_16_code
def yX6_listAhead : MethodName := ⟨RX6, "listAhead", "(ILSportsHouse$Match;)I"⟩
def zX6_listAhead : Zm := (RX6, cX6_listAhead, 8, (some .int), { frames := 2, cells := 0, slots := 0, locals := 40 })
theorem bk_X6_listAhead_117 : ck_ fX6 (some .int) cX6_listAhead 117 [.iload 7, .ifCond .le 169, .aload 0, .tableswitch 0 6 3 #[], .aload 0, .tableswitch 0 6 13 #[], .iload 7, .iconst 1, .isub, .iaload, .aaload, .tableswitch 0 2 5 #[], .aload 5, .tableswitch 0 2 5 #[], .if_icmp .le 169, .aload 0, .tableswitch 0 6 13 #[], .iload 7, .aload 0, .tableswitch 0 6 13 #[], .iload 7, .iconst 1, .isub, .iaload, .iastore, .iinc 7 (-1), .goto 117] 169 = true := qck_r (nn_ _) (by decide +kernel)
theorem bs_X6_listAhead_117 {P : Zt → Option Zv → Prop} (K : Int → Zl → List Zv → Zt → Prop) : sx_ K P [.iload 7, .ifCond .le 169, .aload 0, .tableswitch 0 6 3 #[], .aload 0, .tableswitch 0 6 13 #[], .iload 7, .iconst 1, .isub, .iaload, .aaload, .tableswitch 0 2 5 #[], .aload 5, .tableswitch 0 2 5 #[], .if_icmp .le 169, .aload 0, .tableswitch 0 6 13 #[], .iload 7, .aload 0, .tableswitch 0 6 13 #[], .iload 7, .iconst 1, .isub, .iaload, .iastore, .iinc 7 (-1), .goto 117] 169 = x_iload 7 (x_ifCond .le 169 K (x_aload 0 (x_g1 106 523 (x_aload 0 (x_g1 106 533 (x_iload 7 (x_iconst 1 (x_isub (x_iaload (x_aaload (x_g0 102 5 0 999 (x_aload 5 (x_g0 102 5 0 999 (x_if_icmp .le 169 K (x_aload 0 (x_g1 106 533 (x_iload 7 (x_aload 0 (x_g1 106 533 (x_iload 7 (x_iconst 1 (x_isub (x_iaload (x_iastore (x_iinc 7 (-1) (x_goto 117 K)))))))))))))))))))))))))) := ((xe_iload 7).trans (congrArg (x_iload 7) ((xe_ifCond .le 169).trans (congrArg (x_ifCond .le 169 K) ((xe_aload 0).trans (congrArg (x_aload 0) ((xe_g1 (kk := 106) rfl tl_6_3).trans (congrArg (x_g1 106 523) ((xe_aload 0).trans (congrArg (x_aload 0) ((xe_g1 (kk := 106) rfl tl_6_13).trans (congrArg (x_g1 106 533) ((xe_iload 7).trans (congrArg (x_iload 7) ((xe_iconst 1).trans (congrArg (x_iconst 1) ((xe_isub).trans (congrArg (x_isub) ((xe_iaload).trans (congrArg (x_iaload) ((xe_aaload).trans (congrArg (x_aaload) ((xe_g0 (kk := 102) rfl tl_2_5).trans (congrArg (x_g0 102 5 0 999) ((xe_aload 5).trans (congrArg (x_aload 5) ((xe_g0 (kk := 102) rfl tl_2_5).trans (congrArg (x_g0 102 5 0 999) ((xe_if_icmp .le 169).trans (congrArg (x_if_icmp .le 169 K) ((xe_aload 0).trans (congrArg (x_aload 0) ((xe_g1 (kk := 106) rfl tl_6_13).trans (congrArg (x_g1 106 533) ((xe_iload 7).trans (congrArg (x_iload 7) ((xe_aload 0).trans (congrArg (x_aload 0) ((xe_g1 (kk := 106) rfl tl_6_13).trans (congrArg (x_g1 106 533) ((xe_iload 7).trans (congrArg (x_iload 7) ((xe_iconst 1).trans (congrArg (x_iconst 1) ((xe_isub).trans (congrArg (x_isub) ((xe_iaload).trans (congrArg (x_iaload) ((xe_iastore).trans (congrArg (x_iastore) ((xe_iinc 7 (-1)).trans (congrArg (x_iinc 7 (-1)) (xe_goto 117)))))))))))))))))))))))))))))))))))))))))))))))))))))
theorem bk_X6_listAhead_169 : ck_ fX6 (some .int) cX6_listAhead 169 [.aload 0, .tableswitch 0 6 13 #[], .iload 7, .aload 5, .tableswitch 0 2 1 #[], .iastore, .iinc 3 1, .iinc 4 1, .goto 5] 190 = true := qck_r (nn_ _) (by decide +kernel)
theorem bs_X6_listAhead_169 {P : Zt → Option Zv → Prop} (K : Int → Zl → List Zv → Zt → Prop) : sx_ K P [.aload 0, .tableswitch 0 6 13 #[], .iload 7, .aload 5, .tableswitch 0 2 1 #[], .iastore, .iinc 3 1, .iinc 4 1, .goto 5] 190 = x_aload 0 (x_g1 106 533 (x_iload 7 (x_aload 5 (x_g0 102 1 0 399 (x_iastore (x_iinc 3 1 (x_iinc 4 1 (x_goto 5 K)))))))) := ((xe_aload 0).trans (congrArg (x_aload 0) ((xe_g1 (kk := 106) rfl tl_6_13).trans (congrArg (x_g1 106 533) ((xe_iload 7).trans (congrArg (x_iload 7) ((xe_aload 5).trans (congrArg (x_aload 5) ((xe_g0 (kk := 102) rfl tl_2_1).trans (congrArg (x_g0 102 1 0 399) ((xe_iastore).trans (congrArg (x_iastore) ((xe_iinc 3 1).trans (congrArg (x_iinc 3 1) ((xe_iinc 4 1).trans (congrArg (x_iinc 4 1) (xe_goto 5)))))))))))))))))
theorem bk_X6_listAhead_5 : ck_ fX6 (some .int) cX6_listAhead 5 [.iload 4, .aload 2, .tableswitch 0 2 0 #[], .tableswitch 0 0 8 #[], .if_icmp .ge 190, .aload 0, .tableswitch 0 6 3 #[], .aload 2, .tableswitch 0 2 0 #[], .tableswitch 0 0 7 #[], .iload 4, .iadd, .aaload, .astore 5, .aload 5, .tableswitch 0 2 5 #[], .aload 2, .tableswitch 0 2 5 #[], .if_icmp .lt 70, .aload 5, .tableswitch 0 2 5 #[], .aload 2, .tableswitch 0 2 5 #[], .if_icmp .ne 74, .aload 5, .tableswitch 0 2 1 #[], .aload 2, .tableswitch 0 2 1 #[], .if_icmp .ge 74, .iconst 1, .goto 75] 74 = true := qck_r (nn_ _) (by decide +kernel)
theorem bs_X6_listAhead_5 {P : Zt → Option Zv → Prop} (K : Int → Zl → List Zv → Zt → Prop) : sx_ K P [.iload 4, .aload 2, .tableswitch 0 2 0 #[], .tableswitch 0 0 8 #[], .if_icmp .ge 190, .aload 0, .tableswitch 0 6 3 #[], .aload 2, .tableswitch 0 2 0 #[], .tableswitch 0 0 7 #[], .iload 4, .iadd, .aaload, .astore 5, .aload 5, .tableswitch 0 2 5 #[], .aload 2, .tableswitch 0 2 5 #[], .if_icmp .lt 70, .aload 5, .tableswitch 0 2 5 #[], .aload 2, .tableswitch 0 2 5 #[], .if_icmp .ne 74, .aload 5, .tableswitch 0 2 1 #[], .aload 2, .tableswitch 0 2 1 #[], .if_icmp .ge 74, .iconst 1, .goto 75] 74 = x_iload 4 (x_aload 2 (x_g3 102 100 0 (x_g0 100 8 0 400 (x_if_icmp .ge 190 K (x_aload 0 (x_g1 106 523 (x_aload 2 (x_g3 102 100 0 (x_g0 100 7 0 400 (x_iload 4 (x_iadd (x_aaload (x_astore 5 (x_aload 5 (x_g0 102 5 0 999 (x_aload 2 (x_g0 102 5 0 999 (x_if_icmp .lt 70 K (x_aload 5 (x_g0 102 5 0 999 (x_aload 2 (x_g0 102 5 0 999 (x_if_icmp .ne 74 K (x_aload 5 (x_g0 102 1 0 399 (x_aload 2 (x_g0 102 1 0 399 (x_if_icmp .ge 74 K (x_iconst 1 (x_goto 75 K)))))))))))))))))))))))))))))) := ((xe_iload 4).trans (congrArg (x_iload 4) ((xe_aload 2).trans (congrArg (x_aload 2) ((xe_g3 (kk := 102) rfl tl_2_0).trans (congrArg (x_g3 102 100 0) ((xe_g0 (kk := 100) rfl tl_0_8).trans (congrArg (x_g0 100 8 0 400) ((xe_if_icmp .ge 190).trans (congrArg (x_if_icmp .ge 190 K) ((xe_aload 0).trans (congrArg (x_aload 0) ((xe_g1 (kk := 106) rfl tl_6_3).trans (congrArg (x_g1 106 523) ((xe_aload 2).trans (congrArg (x_aload 2) ((xe_g3 (kk := 102) rfl tl_2_0).trans (congrArg (x_g3 102 100 0) ((xe_g0 (kk := 100) rfl tl_0_7).trans (congrArg (x_g0 100 7 0 400) ((xe_iload 4).trans (congrArg (x_iload 4) ((xe_iadd).trans (congrArg (x_iadd) ((xe_aaload).trans (congrArg (x_aaload) ((xe_astore 5).trans (congrArg (x_astore 5) ((xe_aload 5).trans (congrArg (x_aload 5) ((xe_g0 (kk := 102) rfl tl_2_5).trans (congrArg (x_g0 102 5 0 999) ((xe_aload 2).trans (congrArg (x_aload 2) ((xe_g0 (kk := 102) rfl tl_2_5).trans (congrArg (x_g0 102 5 0 999) ((xe_if_icmp .lt 70).trans (congrArg (x_if_icmp .lt 70 K) ((xe_aload 5).trans (congrArg (x_aload 5) ((xe_g0 (kk := 102) rfl tl_2_5).trans (congrArg (x_g0 102 5 0 999) ((xe_aload 2).trans (congrArg (x_aload 2) ((xe_g0 (kk := 102) rfl tl_2_5).trans (congrArg (x_g0 102 5 0 999) ((xe_if_icmp .ne 74).trans (congrArg (x_if_icmp .ne 74 K) ((xe_aload 5).trans (congrArg (x_aload 5) ((xe_g0 (kk := 102) rfl tl_2_1).trans (congrArg (x_g0 102 1 0 399) ((xe_aload 2).trans (congrArg (x_aload 2) ((xe_g0 (kk := 102) rfl tl_2_1).trans (congrArg (x_g0 102 1 0 399) ((xe_if_icmp .ge 74).trans (congrArg (x_if_icmp .ge 74 K) ((xe_iconst 1).trans (congrArg (x_iconst 1) (xe_goto 75)))))))))))))))))))))))))))))))))))))))))))))))))))))))))))))
theorem bk_X6_listAhead_190 : ck_ fX6 (some .int) cX6_listAhead 190 [.iload 3, .ireturn] 192 = true := qck_r (nn_ _) (by decide +kernel)
theorem bs_X6_listAhead_190 {P : Zt → Option Zv → Prop} (K : Int → Zl → List Zv → Zt → Prop) : sx_ K P [.iload 3, .ireturn] 192 = x_iload 3 (x_ireturn P) := ((xe_iload 3).trans (congrArg (x_iload 3) (xe_ireturn)))
theorem bk_X6_listAhead_70 : ck_ fX6 (some .int) cX6_listAhead 70 [.iconst 1, .goto 75] 74 = true := qck_r (nn_ _) (by decide +kernel)
theorem bs_X6_listAhead_70 {P : Zt → Option Zv → Prop} (K : Int → Zl → List Zv → Zt → Prop) : sx_ K P [.iconst 1, .goto 75] 74 = x_iconst 1 (x_goto 75 K) := ((xe_iconst 1).trans (congrArg (x_iconst 1) (xe_goto 75)))
theorem bk_X6_listAhead_75 : ck_ fX6 (some .int) cX6_listAhead 75 [.istore 6, .iload 6, .ifCond .eq 184, .aload 5] 84 = true := qck_r (nn_ _) (by decide +kernel)
theorem bs_X6_listAhead_75 {P : Zt → Option Zv → Prop} (K : Int → Zl → List Zv → Zt → Prop) : sx_ K P [.istore 6, .iload 6, .ifCond .eq 184, .aload 5] 84 = x_istore 6 (x_iload 6 (x_ifCond .eq 184 K (x_aload 5 (K 84)))) := ((xe_istore 6).trans (congrArg (x_istore 6) ((xe_iload 6).trans (congrArg (x_iload 6) ((xe_ifCond .eq 184).trans (congrArg (x_ifCond .eq 184 K) ((xe_aload 5).trans (congrArg (x_aload 5) xe_nil))))))))
theorem bk_X6_listAhead_184 : ck_ fX6 (some .int) cX6_listAhead 184 [.iinc 4 1, .goto 5] 190 = true := qck_r (nn_ _) (by decide +kernel)
theorem bs_X6_listAhead_184 {P : Zt → Option Zv → Prop} (K : Int → Zl → List Zv → Zt → Prop) : sx_ K P [.iinc 4 1, .goto 5] 190 = x_iinc 4 1 (x_goto 5 K) := ((xe_iinc 4 1).trans (congrArg (x_iinc 4 1) (xe_goto 5)))
set_option maxRecDepth 100000 in
theorem cl_X6_195 : cv_ RX6 195 yX2_isDecided zX2_isDecided 2 0 := ⟨gi_V (lw_b4 154 (by decide +kernel) rfl : Cond.methodLink RX6 195 yX2_isDecided ∈ lw_g) (lw_b4 155 (by decide +kernel) rfl : Cond.instanceMethod yX2_isDecided ∈ lw_g) (lw_b4 156 (by decide +kernel) rfl : Cond.selects yX2_isDecided.cls yX2_isDecided yX2_isDecided ∈ lw_g) (lw_b1 16 (by decide +kernel) rfl : Cond.initialized yX2_isDecided.cls ∈ lw_g) (lw_b4 157 rfl rfl : Cond.code yX2_isDecided cX2_isDecided 1 (some .boolean) ∈ lw_g), ⟨by decide, by decide, by decide +kernel⟩, ⟨_, _, rfl⟩⟩
theorem bk_X6_listAhead_87 : ck_ fX6 (some .int) cX6_listAhead 87 [.ifCond .eq 184, .aload 5, .aload 0, .tableswitch 0 6 0 #[], .iload 1, .aload 5, .tableswitch 0 2 5 #[]] 102 = true := qck_r (nn_ _) (by decide +kernel)
theorem bs_X6_listAhead_87 {P : Zt → Option Zv → Prop} (K : Int → Zl → List Zv → Zt → Prop) : sx_ K P [.ifCond .eq 184, .aload 5, .aload 0, .tableswitch 0 6 0 #[], .iload 1, .aload 5, .tableswitch 0 2 5 #[]] 102 = x_ifCond .eq 184 K (x_aload 5 (x_aload 0 (x_g1 106 108 (x_iload 1 (x_aload 5 (x_g0 102 5 0 999 (K 102))))))) := ((xe_ifCond .eq 184).trans (congrArg (x_ifCond .eq 184 K) ((xe_aload 5).trans (congrArg (x_aload 5) ((xe_aload 0).trans (congrArg (x_aload 0) ((xe_g1 (kk := 106) rfl tl_6_0).trans (congrArg (x_g1 106 108) ((xe_iload 1).trans (congrArg (x_iload 1) ((xe_aload 5).trans (congrArg (x_aload 5) ((xe_g0 (kk := 102) rfl tl_2_5).trans (congrArg (x_g0 102 5 0 999) xe_nil))))))))))))))
set_option maxRecDepth 100000 in
theorem cl_X6_165 : cv_ RX6 165 yX8_clubOn zX8_clubOn 8 2 := ⟨gi_V (lw_b4 142 (by decide +kernel) rfl : Cond.methodLink RX6 165 yX8_clubOn ∈ lw_g) (lw_b4 143 (by decide +kernel) rfl : Cond.instanceMethod yX8_clubOn ∈ lw_g) (lw_b4 144 (by decide +kernel) rfl : Cond.selects yX8_clubOn.cls yX8_clubOn yX8_clubOn ∈ lw_g) (lw_b1 3 (by decide +kernel) rfl : Cond.initialized yX8_clubOn.cls ∈ lw_g) (lw_b4 145 rfl rfl : Cond.code yX8_clubOn cX8_clubOn 5 (some .int) ∈ lw_g), ⟨by decide, by decide, by decide +kernel⟩, ⟨_, _, rfl⟩⟩
theorem bk_X6_listAhead_108 : ck_ fX6 (some .int) cX6_listAhead 108 [.ifCond .ne 114, .goto 184] 114 = true := qck_r (nn_ _) (by decide +kernel)
theorem bs_X6_listAhead_108 {P : Zt → Option Zv → Prop} (K : Int → Zl → List Zv → Zt → Prop) : sx_ K P [.ifCond .ne 114, .goto 184] 114 = x_ifCond .ne 114 K (x_goto 184 K) := ((xe_ifCond .ne 114).trans (congrArg (x_ifCond .ne 114 K) (xe_goto 184)))
theorem bk_X6_listAhead_114 : ck_ fX6 (some .int) cX6_listAhead 114 [.iload 3, .istore 7] 117 = true := qck_r (nn_ _) (by decide +kernel)
theorem bs_X6_listAhead_114 {P : Zt → Option Zv → Prop} (K : Int → Zl → List Zv → Zt → Prop) : sx_ K P [.iload 3, .istore 7] 117 = x_iload 3 (x_istore 7 (K 117)) := ((xe_iload 3).trans (congrArg (x_iload 3) ((xe_istore 7).trans (congrArg (x_istore 7) xe_nil))))
theorem bk_X6_listAhead_74 : ck_ fX6 (some .int) cX6_listAhead 74 [.iconst 0, .istore 6, .iload 6, .ifCond .eq 184, .aload 5] 84 = true := qck_r (nn_ _) (by decide +kernel)
theorem bs_X6_listAhead_74 {P : Zt → Option Zv → Prop} (K : Int → Zl → List Zv → Zt → Prop) : sx_ K P [.iconst 0, .istore 6, .iload 6, .ifCond .eq 184, .aload 5] 84 = x_iconst 0 (x_istore 6 (x_iload 6 (x_ifCond .eq 184 K (x_aload 5 (K 84))))) := ((xe_iconst 0).trans (congrArg (x_iconst 0) ((xe_istore 6).trans (congrArg (x_istore 6) ((xe_iload 6).trans (congrArg (x_iload 6) ((xe_ifCond .eq 184).trans (congrArg (x_ifCond .eq 184 K) ((xe_aload 5).trans (congrArg (x_aload 5) xe_nil))))))))))
theorem bk_X6_listAhead_0 : ck_ fX6 (some .int) cX6_listAhead 0 [.iconst 0, .istore 3, .iconst 0, .istore 4] 5 = true := qck_r (nn_ _) (by decide +kernel)
theorem bs_X6_listAhead_0 {P : Zt → Option Zv → Prop} (K : Int → Zl → List Zv → Zt → Prop) : sx_ K P [.iconst 0, .istore 3, .iconst 0, .istore 4] 5 = x_iconst 0 (x_istore 3 (x_iconst 0 (x_istore 4 (K 5)))) := ((xe_iconst 0).trans (congrArg (x_iconst 0) ((xe_istore 3).trans (congrArg (x_istore 3) ((xe_iconst 0).trans (congrArg (x_iconst 0) ((xe_istore 4).trans (congrArg (x_istore 4) xe_nil))))))))
abbrev po_X6_listAhead (T : Zt) (p : Int) (q : Int) : Zt → Option Zv → Prop := fun T' r => ∃ x : Int, r = some (vI x) ∧ fr_ [(533, [])] T T' ∧ ((0 ≤ x ∧ x ≤ 400) ∧ ∀ j : Int, 0 ≤ j → j < x → 0 ≤ T' 533 0 j ∧ T' 533 0 j < T 106 0 4)
set_option maxHeartbeats 4000000 in
theorem ct_X6_listAhead {T : Zt} {p : Int} {q : Int} (hka : KA_ T) (hkm : KM_ T) (hkc : KC_ T) (hq : 0 ≤ q ∧ q < 200) (hp : 0 ≤ p ∧ p < T 106 0 4) : Ct_ yX6_listAhead zX6_listAhead T [vR 106 0, vI q, vR 102 p] (po_X6_listAhead T p q) := by
  refine ct_of pn_6 rfl rfl (Nat.le_of_ble_eq_true rfl) (fun hT hav => ?_)
  have hr_q : -2147483648 ≤ q ∧ q ≤ 2147483647 := hav (vI q) (by simp)
  have hz : zX6_listAhead.2.2.2.1 = some .boolean → ∀ (T' : Zt) (x : Int), po_X6_listAhead T p q T' (some (vI x)) → 0 ≤ x ∧ x ≤ 1 := fun h => by cases h
  have hb_matchCount : 0 ≤ T 106 0 4 ∧ T 106 0 4 ≤ 400 := bd_f hT 106 4 (by decide +kernel : (tf_ 106)[4]? = some (0, 0, 0, 400)) 0
  have hmp := hkm p (by omega) (by omega)
  have hcp := hkc (T 102 p 0) (by omega) (by omega)
  have hb7 : 0 ≤ T 100 (T 102 p 0) 7 ∧ T 100 (T 102 p 0) 7 ≤ 400 := bd_f hT 100 7 (by decide +kernel : (tf_ 100)[7]? = some (0, 0, 0, 400)) (T 102 p 0)
  have hb8 : 0 ≤ T 100 (T 102 p 0) 8 ∧ T 100 (T 102 p 0) 8 ≤ 400 := bd_f hT 100 8 (by decide +kernel : (tf_ 100)[8]? = some (0, 0, 0, 400)) (T 102 p 0)
  show J_ zX6_listAhead T (po_X6_listAhead T p q) 0 0 0 [some (vR 106 0), some (vI q), some (vR 102 p), none, none, none, none, none] [] T
  have c_5 : ∀ (nn : Nat) (f : Int) (k : Int) (T1 : Zt), ((400 - k).toNat) ≤ nn → (fr_ [(533, [])] T T1) → (0 ≤ f ∧ f ≤ k ∧ 0 ≤ k ∧ k ≤ 400) → (∀ j : Int, 0 ≤ j → j < f → 0 ≤ T1 533 0 j ∧ T1 533 0 j < T 106 0 4) → J_ zX6_listAhead T (po_X6_listAhead T p q) 0 0 5 [some (vR 106 0), some (vI q), some (vR 102 p), some (vI f), some (vI k), none, none, none] [] T1 := by
    intro nn
    induction nn using Nat.strongRecOn with
    | _ nn ih_5 =>
      intro f k T1 hm_5 hf_5 i1 li1
      have c_117 : ∀ (nn : Nat) (at9 : Int) (T2 : Zt), (at9.toNat) ≤ nn → (fr_ [(533, [])] T T2) → (0 ≤ at9 ∧ at9 ≤ f ∧ k < T 100 (T 102 p 0) 8) → (∀ j : Int, 0 ≤ j → j ≤ f → j ≠ at9 → 0 ≤ T2 533 0 j ∧ T2 533 0 j < T 106 0 4) → J_ zX6_listAhead T (po_X6_listAhead T p q) 0 0 117 [some (vR 106 0), some (vI q), some (vR 102 p), some (vI f), some (vI k), some (vR 102 (T 100 (T 102 p 0) 7 + k)), none, some (vI at9)] [] T2 := by
        intro nn
        induction nn using Nat.strongRecOn with
        | _ nn ih_117 =>
          intro at9 T2 hm_117 hf_117 i2 li2
          refine j_blx (F := fX6) tb_X6 (nn_ _) bk_X6_listAhead_117 bs_X6_listAhead_117 hz (fun K hK => ?_)
          refine And.intro (fun c1 => ?_) (fun c1 => ?_)
          · refine hK 169 _ [] T2 ?_
            refine j_blx (F := fX6) tb_X6 (nn_ _) bk_X6_listAhead_169 bs_X6_listAhead_169 hz (fun K hK => ?_)
            intro b2 b2b
            have e3 : T2 102 (T 100 (T 102 p 0) 7 + k) 1 = T 102 (T 100 (T 102 p 0) 7 + k) 1 := hf_117 102 (T 100 (T 102 p 0) 7 + k) 1 rfl
            rw [e3] at b2 b2b ⊢
            have hnb := hkm (T 100 (T 102 p 0) 7 + k) (by omega) (by omega)
            refine iy_i (by omega) (by omega) ?_
            refine x_nm (fun U4 hU4 => ?_)
            have e5 := up_f hU4
            refine rg_i (by omega) ?_
            refine rg_i (by omega) ?_
            refine hK 5 [some (vR 106 0), some (vI q), some (vR 102 p), some (vI (f + 1)), some (vI (k + 1)), some (vR 102 (T 100 (T 102 p 0) 7 + k)), none, some (vI at9)] [] U4 ?_
            refine j_drop [some (vR 106 0), some (vI q), some (vR 102 p), some (vI (f + 1)), some (vI (k + 1)), none, none, none] (fun k v hk => ?_) rfl ?_
            · match k, hk with
              | 0, hk => exact hk
              | 1, hk => exact hk
              | 2, hk => exact hk
              | 3, hk => exact hk
              | 4, hk => exact hk
              | 5, hk => cases hk
              | 6, hk => cases hk
              | 7, hk => cases hk
              | k + 8, hk => cases hk
            refine ih_5 _ ?_ (f + 1) (k + 1) U4 (Nat.le_refl _) ?_ ?_ ?_
            · omega
            · exact fr_u (fr_t (fr_0 _ _) (fr_s hf_117 rfl)) hU4 rfl
            · omega
            · intro j a b
              by_cases z : j = at9
              · rw [z, up_f hU4]; omega
              · rw [up_g hU4 (fun q => z q.2.2)]; exact li2 j a (by omega) z
          · refine rg_i (by omega) ?_
            refine ix_i (by omega) ?_
            intro b6 b6b
            refine ix_i (by omega) ?_
            have e8 : T2 523 0 (T2 533 0 (at9 - 1)) = T 523 0 (T2 533 0 (at9 - 1)) := hf_117 523 0 (T2 533 0 (at9 - 1)) rfl
            refine And.intro (fun c7 => ?_) (fun c7 => ?_)
            · have y9 := li2 (at9 - 1) (by omega) (by omega) (by omega)
              exact absurd (show T 523 0 (T2 533 0 (at9 - 1)) = 0 by omega) (hka.2 _ (by omega) (by omega))
            · intro b9 b9b
              have e10 : T2 102 (T2 533 0 (at9 - 1)) 5 = T 102 (T2 533 0 (at9 - 1)) 5 := hf_117 102 (T2 533 0 (at9 - 1)) 5 rfl
              rw [e10] at b9 b9b ⊢
              intro b11 b11b
              have e12 : T2 102 (T 100 (T 102 p 0) 7 + k) 5 = T 102 (T 100 (T 102 p 0) 7 + k) 5 := hf_117 102 (T 100 (T 102 p 0) 7 + k) 5 rfl
              rw [e12] at b11 b11b ⊢
              refine And.intro (fun c13 => ?_) (fun c13 => ?_)
              · refine hK 169 [some (vR 106 0), some (vI q), some (vR 102 p), some (vI f), some (vI k), some (vR 102 (T 100 (T 102 p 0) 7 + k)), none, some (vI at9)] [] T2 ?_
                refine j_blx (F := fX6) tb_X6 (nn_ _) bk_X6_listAhead_169 bs_X6_listAhead_169 hz (fun K hK => ?_)
                intro b14 b14b
                have e15 : T2 102 (T 100 (T 102 p 0) 7 + k) 1 = T 102 (T 100 (T 102 p 0) 7 + k) 1 := hf_117 102 (T 100 (T 102 p 0) 7 + k) 1 rfl
                rw [e15] at b14 b14b ⊢
                have hnb := hkm (T 100 (T 102 p 0) 7 + k) (by omega) (by omega)
                refine iy_i (by omega) (by omega) ?_
                refine x_nm (fun U16 hU16 => ?_)
                have e17 := up_f hU16
                refine rg_i (by omega) ?_
                refine rg_i (by omega) ?_
                refine hK 5 [some (vR 106 0), some (vI q), some (vR 102 p), some (vI (f + 1)), some (vI (k + 1)), some (vR 102 (T 100 (T 102 p 0) 7 + k)), none, some (vI at9)] [] U16 ?_
                refine j_drop [some (vR 106 0), some (vI q), some (vR 102 p), some (vI (f + 1)), some (vI (k + 1)), none, none, none] (fun k v hk => ?_) rfl ?_
                · match k, hk with
                  | 0, hk => exact hk
                  | 1, hk => exact hk
                  | 2, hk => exact hk
                  | 3, hk => exact hk
                  | 4, hk => exact hk
                  | 5, hk => cases hk
                  | 6, hk => cases hk
                  | 7, hk => cases hk
                  | k + 8, hk => cases hk
                refine ih_5 _ ?_ (f + 1) (k + 1) U16 (Nat.le_refl _) ?_ ?_ ?_
                · omega
                · exact fr_u (fr_t (fr_0 _ _) (fr_s hf_117 rfl)) hU16 rfl
                · omega
                · intro j a b
                  by_cases z : j = at9
                  · rw [z, up_f hU16]; omega
                  · rw [up_g hU16 (fun q => z q.2.2)]; exact li2 j a (by omega) z
              · refine rg_i (by omega) ?_
                refine ix_i (by omega) ?_
                intro b18 b18b
                refine iy_i (by omega) (by omega) ?_
                refine x_nm (fun U19 hU19 => ?_)
                have e20 := up_f hU19
                refine rg_i (by omega) ?_
                refine hK 117 [some (vR 106 0), some (vI q), some (vR 102 p), some (vI f), some (vI k), some (vR 102 (T 100 (T 102 p 0) 7 + k)), none, some (vI (at9 + (-1)))] [] U19 ?_
                refine ih_117 _ ?_ (at9 + (-1)) U19 (Nat.le_refl _) ?_ ?_ ?_
                · omega
                · exact fr_u (fr_t (fr_0 _ _) (fr_s hf_117 rfl)) hU19 rfl
                · omega
                · intro j a b d
                  by_cases z : j = at9
                  · rw [z, up_f hU19]; exact li2 (at9 - 1) (by omega) (by omega) (by omega)
                  · rw [up_g hU19 (fun q => z q.2.2)]; exact li2 j a b z
      refine j_blx (F := fX6) tb_X6 (nn_ _) bk_X6_listAhead_5 bs_X6_listAhead_5 hz (fun K hK => ?_)
      have e22 : T1 102 p 0 = T 102 p 0 := hf_5 102 p 0 rfl
      intro b23 b23b
      have e24 : T1 100 (T 102 p 0) 8 = T 100 (T 102 p 0) 8 := hf_5 100 (T 102 p 0) 8 rfl
      have e25 : T1 100 (T1 102 p 0) 8 = T 100 (T 102 p 0) 8 := by rw [e22]; exact e24
      rw [e25] at b23 b23b ⊢
      refine And.intro (fun c26 => ?_) (fun c26 => ?_)
      · refine hK 190 _ [] T1 ?_
        refine j_blx (F := fX6) tb_X6 (nn_ _) bk_X6_listAhead_190 bs_X6_listAhead_190 hz (fun K hK => ?_)
        refine (show po_X6_listAhead T p q T1 (some (vI f)) from ?_)
        exact ⟨_, rfl, fr_t (fr_0 _ _) (fr_s hf_5 rfl), by omega, li1⟩
      · have e28 : T1 102 p 0 = T 102 p 0 := hf_5 102 p 0 rfl
        intro b29 b29b
        have e30 : T1 100 (T 102 p 0) 7 = T 100 (T 102 p 0) 7 := hf_5 100 (T 102 p 0) 7 rfl
        have e31 : T1 100 (T1 102 p 0) 7 = T 100 (T 102 p 0) 7 := by rw [e28]; exact e30
        rw [e31] at b29 b29b ⊢
        refine rg_i (by omega) ?_
        refine ix_i (by omega) ?_
        have e33 : T1 523 0 ((T 100 (T 102 p 0) 7) + k) = T 523 0 ((T 100 (T 102 p 0) 7) + k) := hf_5 523 0 ((T 100 (T 102 p 0) 7) + k) rfl
        refine And.intro (fun c32 => ?_) (fun c32 => ?_)
        · exact absurd (show T 523 0 (T 100 (T 102 p 0) 7 + k) = 0 by omega) (hka.2 _ (by omega) (by omega))
        · intro b34 b34b
          have e35 : T1 102 ((T 100 (T 102 p 0) 7) + k) 5 = T 102 ((T 100 (T 102 p 0) 7) + k) 5 := hf_5 102 ((T 100 (T 102 p 0) 7) + k) 5 rfl
          rw [e35] at b34 b34b ⊢
          intro b36 b36b
          have e37 : T1 102 p 5 = T 102 p 5 := hf_5 102 p 5 rfl
          rw [e37] at b36 b36b ⊢
          refine And.intro (fun c38 => ?_) (fun c38 => ?_)
          · refine hK 70 [some (vR 106 0), some (vI q), some (vR 102 p), some (vI f), some (vI k), some (vR 102 ((T 100 (T 102 p 0) 7) + k)), none, none] [] T1 ?_
            refine j_blx (F := fX6) tb_X6 (nn_ _) bk_X6_listAhead_70 bs_X6_listAhead_70 hz (fun K hK => ?_)
            refine hK 75 _ [vI 1] T1 ?_
            refine j_blx (F := fX6) tb_X6 (nn_ _) bk_X6_listAhead_75 bs_X6_listAhead_75 hz (fun K hK => ?_)
            refine And.intro (fun c39 => ?_) (fun c39 => ?_)
            · refine hK 184 [some (vR 106 0), some (vI q), some (vR 102 p), some (vI f), some (vI k), some (vR 102 ((T 100 (T 102 p 0) 7) + k)), some (vI 1), none] [] T1 ?_
              refine j_blx (F := fX6) tb_X6 (nn_ _) bk_X6_listAhead_184 bs_X6_listAhead_184 hz (fun K hK => ?_)
              refine rg_i (by omega) ?_
              refine hK 5 [some (vR 106 0), some (vI q), some (vR 102 p), some (vI f), some (vI (k + 1)), some (vR 102 ((T 100 (T 102 p 0) 7) + k)), some (vI 1), none] [] T1 ?_
              refine j_drop [some (vR 106 0), some (vI q), some (vR 102 p), some (vI f), some (vI (k + 1)), none, none, none] (fun k v hk => ?_) rfl ?_
              · match k, hk with
                | 0, hk => exact hk
                | 1, hk => exact hk
                | 2, hk => exact hk
                | 3, hk => exact hk
                | 4, hk => exact hk
                | 5, hk => cases hk
                | 6, hk => cases hk
                | 7, hk => cases hk
                | k + 8, hk => cases hk
              refine ih_5 _ ?_ f (k + 1) T1 (Nat.le_refl _) ?_ ?_ ?_
              · omega
              · exact fr_t (fr_0 _ _) (fr_s hf_5 rfl)
              · omega
              · exact li1
            · refine hK 84 [some (vR 106 0), some (vI q), some (vR 102 p), some (vI f), some (vI k), some (vR 102 ((T 100 (T 102 p 0) 7) + k)), some (vI 1), none] [vR 102 ((T 100 (T 102 p 0) 7) + k)] T1 ?_
              refine j_callV (y := yX2_isDecided) (Yc := zX2_isDecided) (rest := []) [] (ct_X2_isDecided (T := T1)) cl_X6_195 (qd_c (by decide +kernel)) (nn_ _) rfl (rf_of rfl) (Nat.le_of_ble_eq_true rfl) (Nat.le_of_ble_eq_true rfl) (Nat.le_of_ble_eq_true rfl) rfl ?_
              rintro _ _ ⟨rfl, x40, rfl, hx40⟩
              show J_ zX6_listAhead T (po_X6_listAhead T p q) 0 0 87 _ [vI x40] T1
              refine j_blx (F := fX6) tb_X6 (nn_ _) bk_X6_listAhead_87 bs_X6_listAhead_87 hz (fun K hK => ?_)
              refine And.intro (fun c41 => ?_) (fun c41 => ?_)
              · refine hK 184 _ [] T1 ?_
                refine j_blx (F := fX6) tb_X6 (nn_ _) bk_X6_listAhead_184 bs_X6_listAhead_184 hz (fun K hK => ?_)
                refine rg_i (by omega) ?_
                refine hK 5 [some (vR 106 0), some (vI q), some (vR 102 p), some (vI f), some (vI (k + 1)), some (vR 102 ((T 100 (T 102 p 0) 7) + k)), some (vI 1), none] [] T1 ?_
                refine j_drop [some (vR 106 0), some (vI q), some (vR 102 p), some (vI f), some (vI (k + 1)), none, none, none] (fun k v hk => ?_) rfl ?_
                · match k, hk with
                  | 0, hk => exact hk
                  | 1, hk => exact hk
                  | 2, hk => exact hk
                  | 3, hk => exact hk
                  | 4, hk => exact hk
                  | 5, hk => cases hk
                  | 6, hk => cases hk
                  | 7, hk => cases hk
                  | k + 8, hk => cases hk
                refine ih_5 _ ?_ f (k + 1) T1 (Nat.le_refl _) ?_ ?_ ?_
                · omega
                · exact fr_t (fr_0 _ _) (fr_s hf_5 rfl)
                · omega
                · exact li1
              · intro b42 b42b
                have e43 : T1 102 ((T 100 (T 102 p 0) 7) + k) 5 = T 102 ((T 100 (T 102 p 0) 7) + k) 5 := hf_5 102 ((T 100 (T 102 p 0) 7) + k) 5 rfl
                rw [e43] at b42 b42b ⊢
                refine hK 102 [some (vR 106 0), some (vI q), some (vR 102 p), some (vI f), some (vI k), some (vR 102 ((T 100 (T 102 p 0) 7) + k)), some (vI 1), none] [vI (T 102 ((T 100 (T 102 p 0) 7) + k) 5), vI q, vR 108 0, vR 102 ((T 100 (T 102 p 0) 7) + k)] T1 ?_
                refine j_callV (y := yX8_clubOn) (Yc := zX8_clubOn) (rest := [vR 102 ((T 100 (T 102 p 0) 7) + k)]) [vI q, vI (T 102 ((T 100 (T 102 p 0) 7) + k) 5)] (ct_X8_clubOn (T := T1) (by omega)) cl_X6_165 (qd_c (by decide +kernel)) (nn_ _) rfl (rf_of rfl) (Nat.le_of_ble_eq_true rfl) (Nat.le_of_ble_eq_true rfl) (Nat.le_of_ble_eq_true rfl) rfl ?_
                rintro _ _ ⟨rfl, x44, rfl, hx44⟩
                show J_ zX6_listAhead T (po_X6_listAhead T p q) 0 0 105 _ [vI x44, vR 102 ((T 100 (T 102 p 0) 7) + k)] T1
                refine j_callV (y := yX2_has) (Yc := zX2_has) (rest := []) [vI x44] (ct_X2_has (T := T1)) cl_X6_88 (qd_c (by decide +kernel)) (nn_ _) rfl (rf_of rfl) (Nat.le_of_ble_eq_true rfl) (Nat.le_of_ble_eq_true rfl) (Nat.le_of_ble_eq_true rfl) rfl ?_
                rintro _ _ ⟨rfl, x45, rfl, hx45⟩
                show J_ zX6_listAhead T (po_X6_listAhead T p q) 0 0 108 _ [vI x45] T1
                refine j_blx (F := fX6) tb_X6 (nn_ _) bk_X6_listAhead_108 bs_X6_listAhead_108 hz (fun K hK => ?_)
                refine And.intro (fun c46 => ?_) (fun c46 => ?_)
                · refine hK 114 _ [] T1 ?_
                  refine j_blx (F := fX6) tb_X6 (nn_ _) bk_X6_listAhead_114 bs_X6_listAhead_114 hz (fun K hK => ?_)
                  refine hK 117 [some (vR 106 0), some (vI q), some (vR 102 p), some (vI f), some (vI k), some (vR 102 ((T 100 (T 102 p 0) 7) + k)), some (vI 1), some (vI f)] [] T1 ?_
                  refine j_drop [some (vR 106 0), some (vI q), some (vR 102 p), some (vI f), some (vI k), some (vR 102 ((T 100 (T 102 p 0) 7) + k)), none, some (vI f)] (fun k v hk => ?_) rfl ?_
                  · match k, hk with
                    | 0, hk => exact hk
                    | 1, hk => exact hk
                    | 2, hk => exact hk
                    | 3, hk => exact hk
                    | 4, hk => exact hk
                    | 5, hk => exact hk
                    | 6, hk => cases hk
                    | 7, hk => exact hk
                    | k + 8, hk => cases hk
                  refine c_117 _ f T1 (Nat.le_refl _) ?_ ?_ ?_
                  · exact fr_t (fr_0 _ _) (fr_s hf_5 rfl)
                  · omega
                  · exact fun j a b d => li1 j a (by omega)
                · refine hK 184 [some (vR 106 0), some (vI q), some (vR 102 p), some (vI f), some (vI k), some (vR 102 ((T 100 (T 102 p 0) 7) + k)), some (vI 1), none] [] T1 ?_
                  refine j_blx (F := fX6) tb_X6 (nn_ _) bk_X6_listAhead_184 bs_X6_listAhead_184 hz (fun K hK => ?_)
                  refine rg_i (by omega) ?_
                  refine hK 5 [some (vR 106 0), some (vI q), some (vR 102 p), some (vI f), some (vI (k + 1)), some (vR 102 ((T 100 (T 102 p 0) 7) + k)), some (vI 1), none] [] T1 ?_
                  refine j_drop [some (vR 106 0), some (vI q), some (vR 102 p), some (vI f), some (vI (k + 1)), none, none, none] (fun k v hk => ?_) rfl ?_
                  · match k, hk with
                    | 0, hk => exact hk
                    | 1, hk => exact hk
                    | 2, hk => exact hk
                    | 3, hk => exact hk
                    | 4, hk => exact hk
                    | 5, hk => cases hk
                    | 6, hk => cases hk
                    | 7, hk => cases hk
                    | k + 8, hk => cases hk
                  refine ih_5 _ ?_ f (k + 1) T1 (Nat.le_refl _) ?_ ?_ ?_
                  · omega
                  · exact fr_t (fr_0 _ _) (fr_s hf_5 rfl)
                  · omega
                  · exact li1
          · intro b47 b47b
            have e48 : T1 102 ((T 100 (T 102 p 0) 7) + k) 5 = T 102 ((T 100 (T 102 p 0) 7) + k) 5 := hf_5 102 ((T 100 (T 102 p 0) 7) + k) 5 rfl
            rw [e48] at b47 b47b ⊢
            intro b49 b49b
            have e50 : T1 102 p 5 = T 102 p 5 := hf_5 102 p 5 rfl
            rw [e50] at b49 b49b ⊢
            refine And.intro (fun c51 => ?_) (fun c51 => ?_)
            · refine hK 74 _ [] T1 ?_
              refine j_blx (F := fX6) tb_X6 (nn_ _) bk_X6_listAhead_74 bs_X6_listAhead_74 hz (fun K hK => ?_)
              refine And.intro (fun c52 => ?_) (fun c52 => ?_)
              · refine hK 184 [some (vR 106 0), some (vI q), some (vR 102 p), some (vI f), some (vI k), some (vR 102 ((T 100 (T 102 p 0) 7) + k)), some (vI 0), none] [] T1 ?_
                refine j_blx (F := fX6) tb_X6 (nn_ _) bk_X6_listAhead_184 bs_X6_listAhead_184 hz (fun K hK => ?_)
                refine rg_i (by omega) ?_
                refine hK 5 [some (vR 106 0), some (vI q), some (vR 102 p), some (vI f), some (vI (k + 1)), some (vR 102 ((T 100 (T 102 p 0) 7) + k)), some (vI 0), none] [] T1 ?_
                refine j_drop [some (vR 106 0), some (vI q), some (vR 102 p), some (vI f), some (vI (k + 1)), none, none, none] (fun k v hk => ?_) rfl ?_
                · match k, hk with
                  | 0, hk => exact hk
                  | 1, hk => exact hk
                  | 2, hk => exact hk
                  | 3, hk => exact hk
                  | 4, hk => exact hk
                  | 5, hk => cases hk
                  | 6, hk => cases hk
                  | 7, hk => cases hk
                  | k + 8, hk => cases hk
                refine ih_5 _ ?_ f (k + 1) T1 (Nat.le_refl _) ?_ ?_ ?_
                · omega
                · exact fr_t (fr_0 _ _) (fr_s hf_5 rfl)
                · omega
                · exact li1
              · refine hK 84 [some (vR 106 0), some (vI q), some (vR 102 p), some (vI f), some (vI k), some (vR 102 ((T 100 (T 102 p 0) 7) + k)), some (vI 0), none] [vR 102 ((T 100 (T 102 p 0) 7) + k)] T1 ?_
                refine j_callV (y := yX2_isDecided) (Yc := zX2_isDecided) (rest := []) [] (ct_X2_isDecided (T := T1)) cl_X6_195 (qd_c (by decide +kernel)) (nn_ _) rfl (rf_of rfl) (Nat.le_of_ble_eq_true rfl) (Nat.le_of_ble_eq_true rfl) (Nat.le_of_ble_eq_true rfl) rfl ?_
                rintro _ _ ⟨rfl, x53, rfl, hx53⟩
                show J_ zX6_listAhead T (po_X6_listAhead T p q) 0 0 87 _ [vI x53] T1
                refine j_blx (F := fX6) tb_X6 (nn_ _) bk_X6_listAhead_87 bs_X6_listAhead_87 hz (fun K hK => ?_)
                refine And.intro (fun c54 => ?_) (fun c54 => ?_)
                · refine hK 184 _ [] T1 ?_
                  refine j_blx (F := fX6) tb_X6 (nn_ _) bk_X6_listAhead_184 bs_X6_listAhead_184 hz (fun K hK => ?_)
                  refine rg_i (by omega) ?_
                  refine hK 5 [some (vR 106 0), some (vI q), some (vR 102 p), some (vI f), some (vI (k + 1)), some (vR 102 ((T 100 (T 102 p 0) 7) + k)), some (vI 0), none] [] T1 ?_
                  refine j_drop [some (vR 106 0), some (vI q), some (vR 102 p), some (vI f), some (vI (k + 1)), none, none, none] (fun k v hk => ?_) rfl ?_
                  · match k, hk with
                    | 0, hk => exact hk
                    | 1, hk => exact hk
                    | 2, hk => exact hk
                    | 3, hk => exact hk
                    | 4, hk => exact hk
                    | 5, hk => cases hk
                    | 6, hk => cases hk
                    | 7, hk => cases hk
                    | k + 8, hk => cases hk
                  refine ih_5 _ ?_ f (k + 1) T1 (Nat.le_refl _) ?_ ?_ ?_
                  · omega
                  · exact fr_t (fr_0 _ _) (fr_s hf_5 rfl)
                  · omega
                  · exact li1
                · intro b55 b55b
                  have e56 : T1 102 ((T 100 (T 102 p 0) 7) + k) 5 = T 102 ((T 100 (T 102 p 0) 7) + k) 5 := hf_5 102 ((T 100 (T 102 p 0) 7) + k) 5 rfl
                  rw [e56] at b55 b55b ⊢
                  refine hK 102 [some (vR 106 0), some (vI q), some (vR 102 p), some (vI f), some (vI k), some (vR 102 ((T 100 (T 102 p 0) 7) + k)), some (vI 0), none] [vI (T 102 ((T 100 (T 102 p 0) 7) + k) 5), vI q, vR 108 0, vR 102 ((T 100 (T 102 p 0) 7) + k)] T1 ?_
                  refine j_callV (y := yX8_clubOn) (Yc := zX8_clubOn) (rest := [vR 102 ((T 100 (T 102 p 0) 7) + k)]) [vI q, vI (T 102 ((T 100 (T 102 p 0) 7) + k) 5)] (ct_X8_clubOn (T := T1) (by omega)) cl_X6_165 (qd_c (by decide +kernel)) (nn_ _) rfl (rf_of rfl) (Nat.le_of_ble_eq_true rfl) (Nat.le_of_ble_eq_true rfl) (Nat.le_of_ble_eq_true rfl) rfl ?_
                  rintro _ _ ⟨rfl, x57, rfl, hx57⟩
                  show J_ zX6_listAhead T (po_X6_listAhead T p q) 0 0 105 _ [vI x57, vR 102 ((T 100 (T 102 p 0) 7) + k)] T1
                  refine j_callV (y := yX2_has) (Yc := zX2_has) (rest := []) [vI x57] (ct_X2_has (T := T1)) cl_X6_88 (qd_c (by decide +kernel)) (nn_ _) rfl (rf_of rfl) (Nat.le_of_ble_eq_true rfl) (Nat.le_of_ble_eq_true rfl) (Nat.le_of_ble_eq_true rfl) rfl ?_
                  rintro _ _ ⟨rfl, x58, rfl, hx58⟩
                  show J_ zX6_listAhead T (po_X6_listAhead T p q) 0 0 108 _ [vI x58] T1
                  refine j_blx (F := fX6) tb_X6 (nn_ _) bk_X6_listAhead_108 bs_X6_listAhead_108 hz (fun K hK => ?_)
                  refine And.intro (fun c59 => ?_) (fun c59 => ?_)
                  · refine hK 114 _ [] T1 ?_
                    refine j_blx (F := fX6) tb_X6 (nn_ _) bk_X6_listAhead_114 bs_X6_listAhead_114 hz (fun K hK => ?_)
                    refine hK 117 [some (vR 106 0), some (vI q), some (vR 102 p), some (vI f), some (vI k), some (vR 102 ((T 100 (T 102 p 0) 7) + k)), some (vI 0), some (vI f)] [] T1 ?_
                    refine j_drop [some (vR 106 0), some (vI q), some (vR 102 p), some (vI f), some (vI k), some (vR 102 ((T 100 (T 102 p 0) 7) + k)), none, some (vI f)] (fun k v hk => ?_) rfl ?_
                    · match k, hk with
                      | 0, hk => exact hk
                      | 1, hk => exact hk
                      | 2, hk => exact hk
                      | 3, hk => exact hk
                      | 4, hk => exact hk
                      | 5, hk => exact hk
                      | 6, hk => cases hk
                      | 7, hk => exact hk
                      | k + 8, hk => cases hk
                    refine c_117 _ f T1 (Nat.le_refl _) ?_ ?_ ?_
                    · exact fr_t (fr_0 _ _) (fr_s hf_5 rfl)
                    · omega
                    · exact fun j a b d => li1 j a (by omega)
                  · refine hK 184 [some (vR 106 0), some (vI q), some (vR 102 p), some (vI f), some (vI k), some (vR 102 ((T 100 (T 102 p 0) 7) + k)), some (vI 0), none] [] T1 ?_
                    refine j_blx (F := fX6) tb_X6 (nn_ _) bk_X6_listAhead_184 bs_X6_listAhead_184 hz (fun K hK => ?_)
                    refine rg_i (by omega) ?_
                    refine hK 5 [some (vR 106 0), some (vI q), some (vR 102 p), some (vI f), some (vI (k + 1)), some (vR 102 ((T 100 (T 102 p 0) 7) + k)), some (vI 0), none] [] T1 ?_
                    refine j_drop [some (vR 106 0), some (vI q), some (vR 102 p), some (vI f), some (vI (k + 1)), none, none, none] (fun k v hk => ?_) rfl ?_
                    · match k, hk with
                      | 0, hk => exact hk
                      | 1, hk => exact hk
                      | 2, hk => exact hk
                      | 3, hk => exact hk
                      | 4, hk => exact hk
                      | 5, hk => cases hk
                      | 6, hk => cases hk
                      | 7, hk => cases hk
                      | k + 8, hk => cases hk
                    refine ih_5 _ ?_ f (k + 1) T1 (Nat.le_refl _) ?_ ?_ ?_
                    · omega
                    · exact fr_t (fr_0 _ _) (fr_s hf_5 rfl)
                    · omega
                    · exact li1
            · intro b60 b60b
              have e61 : T1 102 ((T 100 (T 102 p 0) 7) + k) 1 = T 102 ((T 100 (T 102 p 0) 7) + k) 1 := hf_5 102 ((T 100 (T 102 p 0) 7) + k) 1 rfl
              rw [e61] at b60 b60b ⊢
              intro b62 b62b
              have e63 : T1 102 p 1 = T 102 p 1 := hf_5 102 p 1 rfl
              rw [e63] at b62 b62b ⊢
              refine And.intro (fun c64 => ?_) (fun c64 => ?_)
              · refine hK 74 _ [] T1 ?_
                refine j_blx (F := fX6) tb_X6 (nn_ _) bk_X6_listAhead_74 bs_X6_listAhead_74 hz (fun K hK => ?_)
                refine And.intro (fun c65 => ?_) (fun c65 => ?_)
                · refine hK 184 [some (vR 106 0), some (vI q), some (vR 102 p), some (vI f), some (vI k), some (vR 102 ((T 100 (T 102 p 0) 7) + k)), some (vI 0), none] [] T1 ?_
                  refine j_blx (F := fX6) tb_X6 (nn_ _) bk_X6_listAhead_184 bs_X6_listAhead_184 hz (fun K hK => ?_)
                  refine rg_i (by omega) ?_
                  refine hK 5 [some (vR 106 0), some (vI q), some (vR 102 p), some (vI f), some (vI (k + 1)), some (vR 102 ((T 100 (T 102 p 0) 7) + k)), some (vI 0), none] [] T1 ?_
                  refine j_drop [some (vR 106 0), some (vI q), some (vR 102 p), some (vI f), some (vI (k + 1)), none, none, none] (fun k v hk => ?_) rfl ?_
                  · match k, hk with
                    | 0, hk => exact hk
                    | 1, hk => exact hk
                    | 2, hk => exact hk
                    | 3, hk => exact hk
                    | 4, hk => exact hk
                    | 5, hk => cases hk
                    | 6, hk => cases hk
                    | 7, hk => cases hk
                    | k + 8, hk => cases hk
                  refine ih_5 _ ?_ f (k + 1) T1 (Nat.le_refl _) ?_ ?_ ?_
                  · omega
                  · exact fr_t (fr_0 _ _) (fr_s hf_5 rfl)
                  · omega
                  · exact li1
                · refine hK 84 [some (vR 106 0), some (vI q), some (vR 102 p), some (vI f), some (vI k), some (vR 102 ((T 100 (T 102 p 0) 7) + k)), some (vI 0), none] [vR 102 ((T 100 (T 102 p 0) 7) + k)] T1 ?_
                  refine j_callV (y := yX2_isDecided) (Yc := zX2_isDecided) (rest := []) [] (ct_X2_isDecided (T := T1)) cl_X6_195 (qd_c (by decide +kernel)) (nn_ _) rfl (rf_of rfl) (Nat.le_of_ble_eq_true rfl) (Nat.le_of_ble_eq_true rfl) (Nat.le_of_ble_eq_true rfl) rfl ?_
                  rintro _ _ ⟨rfl, x66, rfl, hx66⟩
                  show J_ zX6_listAhead T (po_X6_listAhead T p q) 0 0 87 _ [vI x66] T1
                  refine j_blx (F := fX6) tb_X6 (nn_ _) bk_X6_listAhead_87 bs_X6_listAhead_87 hz (fun K hK => ?_)
                  refine And.intro (fun c67 => ?_) (fun c67 => ?_)
                  · refine hK 184 _ [] T1 ?_
                    refine j_blx (F := fX6) tb_X6 (nn_ _) bk_X6_listAhead_184 bs_X6_listAhead_184 hz (fun K hK => ?_)
                    refine rg_i (by omega) ?_
                    refine hK 5 [some (vR 106 0), some (vI q), some (vR 102 p), some (vI f), some (vI (k + 1)), some (vR 102 ((T 100 (T 102 p 0) 7) + k)), some (vI 0), none] [] T1 ?_
                    refine j_drop [some (vR 106 0), some (vI q), some (vR 102 p), some (vI f), some (vI (k + 1)), none, none, none] (fun k v hk => ?_) rfl ?_
                    · match k, hk with
                      | 0, hk => exact hk
                      | 1, hk => exact hk
                      | 2, hk => exact hk
                      | 3, hk => exact hk
                      | 4, hk => exact hk
                      | 5, hk => cases hk
                      | 6, hk => cases hk
                      | 7, hk => cases hk
                      | k + 8, hk => cases hk
                    refine ih_5 _ ?_ f (k + 1) T1 (Nat.le_refl _) ?_ ?_ ?_
                    · omega
                    · exact fr_t (fr_0 _ _) (fr_s hf_5 rfl)
                    · omega
                    · exact li1
                  · intro b68 b68b
                    have e69 : T1 102 ((T 100 (T 102 p 0) 7) + k) 5 = T 102 ((T 100 (T 102 p 0) 7) + k) 5 := hf_5 102 ((T 100 (T 102 p 0) 7) + k) 5 rfl
                    rw [e69] at b68 b68b ⊢
                    refine hK 102 [some (vR 106 0), some (vI q), some (vR 102 p), some (vI f), some (vI k), some (vR 102 ((T 100 (T 102 p 0) 7) + k)), some (vI 0), none] [vI (T 102 ((T 100 (T 102 p 0) 7) + k) 5), vI q, vR 108 0, vR 102 ((T 100 (T 102 p 0) 7) + k)] T1 ?_
                    refine j_callV (y := yX8_clubOn) (Yc := zX8_clubOn) (rest := [vR 102 ((T 100 (T 102 p 0) 7) + k)]) [vI q, vI (T 102 ((T 100 (T 102 p 0) 7) + k) 5)] (ct_X8_clubOn (T := T1) (by omega)) cl_X6_165 (qd_c (by decide +kernel)) (nn_ _) rfl (rf_of rfl) (Nat.le_of_ble_eq_true rfl) (Nat.le_of_ble_eq_true rfl) (Nat.le_of_ble_eq_true rfl) rfl ?_
                    rintro _ _ ⟨rfl, x70, rfl, hx70⟩
                    show J_ zX6_listAhead T (po_X6_listAhead T p q) 0 0 105 _ [vI x70, vR 102 ((T 100 (T 102 p 0) 7) + k)] T1
                    refine j_callV (y := yX2_has) (Yc := zX2_has) (rest := []) [vI x70] (ct_X2_has (T := T1)) cl_X6_88 (qd_c (by decide +kernel)) (nn_ _) rfl (rf_of rfl) (Nat.le_of_ble_eq_true rfl) (Nat.le_of_ble_eq_true rfl) (Nat.le_of_ble_eq_true rfl) rfl ?_
                    rintro _ _ ⟨rfl, x71, rfl, hx71⟩
                    show J_ zX6_listAhead T (po_X6_listAhead T p q) 0 0 108 _ [vI x71] T1
                    refine j_blx (F := fX6) tb_X6 (nn_ _) bk_X6_listAhead_108 bs_X6_listAhead_108 hz (fun K hK => ?_)
                    refine And.intro (fun c72 => ?_) (fun c72 => ?_)
                    · refine hK 114 _ [] T1 ?_
                      refine j_blx (F := fX6) tb_X6 (nn_ _) bk_X6_listAhead_114 bs_X6_listAhead_114 hz (fun K hK => ?_)
                      refine hK 117 [some (vR 106 0), some (vI q), some (vR 102 p), some (vI f), some (vI k), some (vR 102 ((T 100 (T 102 p 0) 7) + k)), some (vI 0), some (vI f)] [] T1 ?_
                      refine j_drop [some (vR 106 0), some (vI q), some (vR 102 p), some (vI f), some (vI k), some (vR 102 ((T 100 (T 102 p 0) 7) + k)), none, some (vI f)] (fun k v hk => ?_) rfl ?_
                      · match k, hk with
                        | 0, hk => exact hk
                        | 1, hk => exact hk
                        | 2, hk => exact hk
                        | 3, hk => exact hk
                        | 4, hk => exact hk
                        | 5, hk => exact hk
                        | 6, hk => cases hk
                        | 7, hk => exact hk
                        | k + 8, hk => cases hk
                      refine c_117 _ f T1 (Nat.le_refl _) ?_ ?_ ?_
                      · exact fr_t (fr_0 _ _) (fr_s hf_5 rfl)
                      · omega
                      · exact fun j a b d => li1 j a (by omega)
                    · refine hK 184 [some (vR 106 0), some (vI q), some (vR 102 p), some (vI f), some (vI k), some (vR 102 ((T 100 (T 102 p 0) 7) + k)), some (vI 0), none] [] T1 ?_
                      refine j_blx (F := fX6) tb_X6 (nn_ _) bk_X6_listAhead_184 bs_X6_listAhead_184 hz (fun K hK => ?_)
                      refine rg_i (by omega) ?_
                      refine hK 5 [some (vR 106 0), some (vI q), some (vR 102 p), some (vI f), some (vI (k + 1)), some (vR 102 ((T 100 (T 102 p 0) 7) + k)), some (vI 0), none] [] T1 ?_
                      refine j_drop [some (vR 106 0), some (vI q), some (vR 102 p), some (vI f), some (vI (k + 1)), none, none, none] (fun k v hk => ?_) rfl ?_
                      · match k, hk with
                        | 0, hk => exact hk
                        | 1, hk => exact hk
                        | 2, hk => exact hk
                        | 3, hk => exact hk
                        | 4, hk => exact hk
                        | 5, hk => cases hk
                        | 6, hk => cases hk
                        | 7, hk => cases hk
                        | k + 8, hk => cases hk
                      refine ih_5 _ ?_ f (k + 1) T1 (Nat.le_refl _) ?_ ?_ ?_
                      · omega
                      · exact fr_t (fr_0 _ _) (fr_s hf_5 rfl)
                      · omega
                      · exact li1
              · refine hK 75 _ [vI 1] T1 ?_
                refine j_blx (F := fX6) tb_X6 (nn_ _) bk_X6_listAhead_75 bs_X6_listAhead_75 hz (fun K hK => ?_)
                refine And.intro (fun c73 => ?_) (fun c73 => ?_)
                · refine hK 184 [some (vR 106 0), some (vI q), some (vR 102 p), some (vI f), some (vI k), some (vR 102 ((T 100 (T 102 p 0) 7) + k)), some (vI 1), none] [] T1 ?_
                  refine j_blx (F := fX6) tb_X6 (nn_ _) bk_X6_listAhead_184 bs_X6_listAhead_184 hz (fun K hK => ?_)
                  refine rg_i (by omega) ?_
                  refine hK 5 [some (vR 106 0), some (vI q), some (vR 102 p), some (vI f), some (vI (k + 1)), some (vR 102 ((T 100 (T 102 p 0) 7) + k)), some (vI 1), none] [] T1 ?_
                  refine j_drop [some (vR 106 0), some (vI q), some (vR 102 p), some (vI f), some (vI (k + 1)), none, none, none] (fun k v hk => ?_) rfl ?_
                  · match k, hk with
                    | 0, hk => exact hk
                    | 1, hk => exact hk
                    | 2, hk => exact hk
                    | 3, hk => exact hk
                    | 4, hk => exact hk
                    | 5, hk => cases hk
                    | 6, hk => cases hk
                    | 7, hk => cases hk
                    | k + 8, hk => cases hk
                  refine ih_5 _ ?_ f (k + 1) T1 (Nat.le_refl _) ?_ ?_ ?_
                  · omega
                  · exact fr_t (fr_0 _ _) (fr_s hf_5 rfl)
                  · omega
                  · exact li1
                · refine hK 84 [some (vR 106 0), some (vI q), some (vR 102 p), some (vI f), some (vI k), some (vR 102 ((T 100 (T 102 p 0) 7) + k)), some (vI 1), none] [vR 102 ((T 100 (T 102 p 0) 7) + k)] T1 ?_
                  refine j_callV (y := yX2_isDecided) (Yc := zX2_isDecided) (rest := []) [] (ct_X2_isDecided (T := T1)) cl_X6_195 (qd_c (by decide +kernel)) (nn_ _) rfl (rf_of rfl) (Nat.le_of_ble_eq_true rfl) (Nat.le_of_ble_eq_true rfl) (Nat.le_of_ble_eq_true rfl) rfl ?_
                  rintro _ _ ⟨rfl, x74, rfl, hx74⟩
                  show J_ zX6_listAhead T (po_X6_listAhead T p q) 0 0 87 _ [vI x74] T1
                  refine j_blx (F := fX6) tb_X6 (nn_ _) bk_X6_listAhead_87 bs_X6_listAhead_87 hz (fun K hK => ?_)
                  refine And.intro (fun c75 => ?_) (fun c75 => ?_)
                  · refine hK 184 _ [] T1 ?_
                    refine j_blx (F := fX6) tb_X6 (nn_ _) bk_X6_listAhead_184 bs_X6_listAhead_184 hz (fun K hK => ?_)
                    refine rg_i (by omega) ?_
                    refine hK 5 [some (vR 106 0), some (vI q), some (vR 102 p), some (vI f), some (vI (k + 1)), some (vR 102 ((T 100 (T 102 p 0) 7) + k)), some (vI 1), none] [] T1 ?_
                    refine j_drop [some (vR 106 0), some (vI q), some (vR 102 p), some (vI f), some (vI (k + 1)), none, none, none] (fun k v hk => ?_) rfl ?_
                    · match k, hk with
                      | 0, hk => exact hk
                      | 1, hk => exact hk
                      | 2, hk => exact hk
                      | 3, hk => exact hk
                      | 4, hk => exact hk
                      | 5, hk => cases hk
                      | 6, hk => cases hk
                      | 7, hk => cases hk
                      | k + 8, hk => cases hk
                    refine ih_5 _ ?_ f (k + 1) T1 (Nat.le_refl _) ?_ ?_ ?_
                    · omega
                    · exact fr_t (fr_0 _ _) (fr_s hf_5 rfl)
                    · omega
                    · exact li1
                  · intro b76 b76b
                    have e77 : T1 102 ((T 100 (T 102 p 0) 7) + k) 5 = T 102 ((T 100 (T 102 p 0) 7) + k) 5 := hf_5 102 ((T 100 (T 102 p 0) 7) + k) 5 rfl
                    rw [e77] at b76 b76b ⊢
                    refine hK 102 [some (vR 106 0), some (vI q), some (vR 102 p), some (vI f), some (vI k), some (vR 102 ((T 100 (T 102 p 0) 7) + k)), some (vI 1), none] [vI (T 102 ((T 100 (T 102 p 0) 7) + k) 5), vI q, vR 108 0, vR 102 ((T 100 (T 102 p 0) 7) + k)] T1 ?_
                    refine j_callV (y := yX8_clubOn) (Yc := zX8_clubOn) (rest := [vR 102 ((T 100 (T 102 p 0) 7) + k)]) [vI q, vI (T 102 ((T 100 (T 102 p 0) 7) + k) 5)] (ct_X8_clubOn (T := T1) (by omega)) cl_X6_165 (qd_c (by decide +kernel)) (nn_ _) rfl (rf_of rfl) (Nat.le_of_ble_eq_true rfl) (Nat.le_of_ble_eq_true rfl) (Nat.le_of_ble_eq_true rfl) rfl ?_
                    rintro _ _ ⟨rfl, x78, rfl, hx78⟩
                    show J_ zX6_listAhead T (po_X6_listAhead T p q) 0 0 105 _ [vI x78, vR 102 ((T 100 (T 102 p 0) 7) + k)] T1
                    refine j_callV (y := yX2_has) (Yc := zX2_has) (rest := []) [vI x78] (ct_X2_has (T := T1)) cl_X6_88 (qd_c (by decide +kernel)) (nn_ _) rfl (rf_of rfl) (Nat.le_of_ble_eq_true rfl) (Nat.le_of_ble_eq_true rfl) (Nat.le_of_ble_eq_true rfl) rfl ?_
                    rintro _ _ ⟨rfl, x79, rfl, hx79⟩
                    show J_ zX6_listAhead T (po_X6_listAhead T p q) 0 0 108 _ [vI x79] T1
                    refine j_blx (F := fX6) tb_X6 (nn_ _) bk_X6_listAhead_108 bs_X6_listAhead_108 hz (fun K hK => ?_)
                    refine And.intro (fun c80 => ?_) (fun c80 => ?_)
                    · refine hK 114 _ [] T1 ?_
                      refine j_blx (F := fX6) tb_X6 (nn_ _) bk_X6_listAhead_114 bs_X6_listAhead_114 hz (fun K hK => ?_)
                      refine hK 117 [some (vR 106 0), some (vI q), some (vR 102 p), some (vI f), some (vI k), some (vR 102 ((T 100 (T 102 p 0) 7) + k)), some (vI 1), some (vI f)] [] T1 ?_
                      refine j_drop [some (vR 106 0), some (vI q), some (vR 102 p), some (vI f), some (vI k), some (vR 102 ((T 100 (T 102 p 0) 7) + k)), none, some (vI f)] (fun k v hk => ?_) rfl ?_
                      · match k, hk with
                        | 0, hk => exact hk
                        | 1, hk => exact hk
                        | 2, hk => exact hk
                        | 3, hk => exact hk
                        | 4, hk => exact hk
                        | 5, hk => exact hk
                        | 6, hk => cases hk
                        | 7, hk => exact hk
                        | k + 8, hk => cases hk
                      refine c_117 _ f T1 (Nat.le_refl _) ?_ ?_ ?_
                      · exact fr_t (fr_0 _ _) (fr_s hf_5 rfl)
                      · omega
                      · exact fun j a b d => li1 j a (by omega)
                    · refine hK 184 [some (vR 106 0), some (vI q), some (vR 102 p), some (vI f), some (vI k), some (vR 102 ((T 100 (T 102 p 0) 7) + k)), some (vI 1), none] [] T1 ?_
                      refine j_blx (F := fX6) tb_X6 (nn_ _) bk_X6_listAhead_184 bs_X6_listAhead_184 hz (fun K hK => ?_)
                      refine rg_i (by omega) ?_
                      refine hK 5 [some (vR 106 0), some (vI q), some (vR 102 p), some (vI f), some (vI (k + 1)), some (vR 102 ((T 100 (T 102 p 0) 7) + k)), some (vI 1), none] [] T1 ?_
                      refine j_drop [some (vR 106 0), some (vI q), some (vR 102 p), some (vI f), some (vI (k + 1)), none, none, none] (fun k v hk => ?_) rfl ?_
                      · match k, hk with
                        | 0, hk => exact hk
                        | 1, hk => exact hk
                        | 2, hk => exact hk
                        | 3, hk => exact hk
                        | 4, hk => exact hk
                        | 5, hk => cases hk
                        | 6, hk => cases hk
                        | 7, hk => cases hk
                        | k + 8, hk => cases hk
                      refine ih_5 _ ?_ f (k + 1) T1 (Nat.le_refl _) ?_ ?_ ?_
                      · omega
                      · exact fr_t (fr_0 _ _) (fr_s hf_5 rfl)
                      · omega
                      · exact li1
  refine j_blx (F := fX6) tb_X6 (nn_ _) bk_X6_listAhead_0 bs_X6_listAhead_0 hz (fun K hK => ?_)
  refine hK 5 [some (vR 106 0), some (vI q), some (vR 102 p), some (vI 0), some (vI 0), none, none, none] [] T ?_
  refine c_5 _ 0 0 T (Nat.le_refl _) ?_ ?_ ?_
  · exact fr_0 _ _
  · omega
  · intro j a b; omega
abbrev cX6_isBanned : ByteArray := prog_8_method_15_code
def yX6_isBanned : MethodName := ⟨RX6, "isBanned", "(ILSportsHouse$Match;)Z"⟩
def zX6_isBanned : Zm := (RX6, cX6_isBanned, 11, (some .boolean), { frames := 3, cells := 0, slots := 0, locals := 67 })
theorem bk_X6_isBanned_153 : ck_ fX6 (some .boolean) cX6_isBanned 153 [.iinc 7 1, .goto 28] 159 = true := qck_r (nn_ _) (by decide +kernel)
theorem bs_X6_isBanned_153 {P : Zt → Option Zv → Prop} (K : Int → Zl → List Zv → Zt → Prop) : sx_ K P [.iinc 7 1, .goto 28] 159 = x_iinc 7 1 (x_goto 28 K) := ((xe_iinc 7 1).trans (congrArg (x_iinc 7 1) (xe_goto 28)))
theorem bk_X6_isBanned_28 : ck_ fX6 (some .boolean) cX6_isBanned 28 [.iload 7, .iload 3, .if_icmp .ge 159, .aload 0, .tableswitch 0 6 3 #[], .aload 0, .tableswitch 0 6 13 #[], .iload 7, .iaload, .aaload, .astore 8, .iload 5, .ifCond .le 56, .iinc 5 (-1), .aload 8, .iload 1] 59 = true := qck_r (nn_ _) (by decide +kernel)
theorem bs_X6_isBanned_28 {P : Zt → Option Zv → Prop} (K : Int → Zl → List Zv → Zt → Prop) : sx_ K P [.iload 7, .iload 3, .if_icmp .ge 159, .aload 0, .tableswitch 0 6 3 #[], .aload 0, .tableswitch 0 6 13 #[], .iload 7, .iaload, .aaload, .astore 8, .iload 5, .ifCond .le 56, .iinc 5 (-1), .aload 8, .iload 1] 59 = x_iload 7 (x_iload 3 (x_if_icmp .ge 159 K (x_aload 0 (x_g1 106 523 (x_aload 0 (x_g1 106 533 (x_iload 7 (x_iaload (x_aaload (x_astore 8 (x_iload 5 (x_ifCond .le 56 K (x_iinc 5 (-1) (x_aload 8 (x_iload 1 (K 59)))))))))))))))) := ((xe_iload 7).trans (congrArg (x_iload 7) ((xe_iload 3).trans (congrArg (x_iload 3) ((xe_if_icmp .ge 159).trans (congrArg (x_if_icmp .ge 159 K) ((xe_aload 0).trans (congrArg (x_aload 0) ((xe_g1 (kk := 106) rfl tl_6_3).trans (congrArg (x_g1 106 523) ((xe_aload 0).trans (congrArg (x_aload 0) ((xe_g1 (kk := 106) rfl tl_6_13).trans (congrArg (x_g1 106 533) ((xe_iload 7).trans (congrArg (x_iload 7) ((xe_iaload).trans (congrArg (x_iaload) ((xe_aaload).trans (congrArg (x_aaload) ((xe_astore 8).trans (congrArg (x_astore 8) ((xe_iload 5).trans (congrArg (x_iload 5) ((xe_ifCond .le 56).trans (congrArg (x_ifCond .le 56 K) ((xe_iinc 5 (-1)).trans (congrArg (x_iinc 5 (-1)) ((xe_aload 8).trans (congrArg (x_aload 8) ((xe_iload 1).trans (congrArg (x_iload 1) xe_nil))))))))))))))))))))))))))))))))
theorem bk_X6_isBanned_159 : ck_ fX6 (some .boolean) cX6_isBanned 159 [.iload 5, .ifCond .le 168, .iconst 1, .goto 169] 168 = true := qck_r (nn_ _) (by decide +kernel)
theorem bs_X6_isBanned_159 {P : Zt → Option Zv → Prop} (K : Int → Zl → List Zv → Zt → Prop) : sx_ K P [.iload 5, .ifCond .le 168, .iconst 1, .goto 169] 168 = x_iload 5 (x_ifCond .le 168 K (x_iconst 1 (x_goto 169 K))) := ((xe_iload 5).trans (congrArg (x_iload 5) ((xe_ifCond .le 168).trans (congrArg (x_ifCond .le 168 K) ((xe_iconst 1).trans (congrArg (x_iconst 1) (xe_goto 169)))))))
theorem bk_X6_isBanned_168 : ck_ fX6 (some .boolean) cX6_isBanned 168 [.iconst 0, .ireturn] 170 = true := qck_r (nn_ _) (by decide +kernel)
theorem bs_X6_isBanned_168 {P : Zt → Option Zv → Prop} (K : Int → Zl → List Zv → Zt → Prop) : sx_ K P [.iconst 0, .ireturn] 170 = x_iconst 0 (x_ireturn P) := ((xe_iconst 0).trans (congrArg (x_iconst 0) (xe_ireturn)))
theorem bk_X6_isBanned_169 : ck_ fX6 (some .boolean) cX6_isBanned 169 [.ireturn] 170 = true := qck_r (nn_ _) (by decide +kernel)
theorem bs_X6_isBanned_169 {P : Zt → Option Zv → Prop} (K : Int → Zl → List Zv → Zt → Prop) : sx_ K P [.ireturn] 170 = x_ireturn P := (xe_ireturn)
theorem bk_X6_isBanned_56 : ck_ fX6 (some .boolean) cX6_isBanned 56 [.aload 8, .iload 1] 59 = true := qck_r (nn_ _) (by decide +kernel)
theorem bs_X6_isBanned_56 {P : Zt → Option Zv → Prop} (K : Int → Zl → List Zv → Zt → Prop) : sx_ K P [.aload 8, .iload 1] 59 = x_aload 8 (x_iload 1 (K 59)) := ((xe_aload 8).trans (congrArg (x_aload 8) ((xe_iload 1).trans (congrArg (x_iload 1) xe_nil))))
set_option maxRecDepth 100000 in
theorem cl_X6_172 : cv_ RX6 172 yX2_placeOf zX2_placeOf 2 1 := ⟨gi_V (lw_b4 159 (by decide +kernel) rfl : Cond.methodLink RX6 172 yX2_placeOf ∈ lw_g) (lw_b4 160 (by decide +kernel) rfl : Cond.instanceMethod yX2_placeOf ∈ lw_g) (lw_b4 161 (by decide +kernel) rfl : Cond.selects yX2_placeOf.cls yX2_placeOf yX2_placeOf ∈ lw_g) (lw_b1 16 (by decide +kernel) rfl : Cond.initialized yX2_placeOf.cls ∈ lw_g) (lw_b4 162 rfl rfl : Cond.code yX2_placeOf cX2_placeOf 4 (some .int) ∈ lw_g), ⟨by decide, by decide, by decide +kernel⟩, ⟨_, _, rfl⟩⟩
theorem bk_X6_isBanned_62 : ck_ fX6 (some .boolean) cX6_isBanned 62 [.istore 9, .aload 8, .tableswitch 0 2 10 #[], .ifnull 153, .iload 9, .iconst (-1), .if_icmp .ne 81, .goto 153] 81 = true := qck_r (nn_ _) (by decide +kernel)
theorem bs_X6_isBanned_62 {P : Zt → Option Zv → Prop} (K : Int → Zl → List Zv → Zt → Prop) : sx_ K P [.istore 9, .aload 8, .tableswitch 0 2 10 #[], .ifnull 153, .iload 9, .iconst (-1), .if_icmp .ne 81, .goto 153] 81 = x_istore 9 (x_aload 8 (x_g4 102 103 10 (x_ifnull 153 K (x_iload 9 (x_iconst (-1) (x_if_icmp .ne 81 K (x_goto 153 K))))))) := ((xe_istore 9).trans (congrArg (x_istore 9) ((xe_aload 8).trans (congrArg (x_aload 8) ((xe_g4 (kk := 102) rfl tl_2_10).trans (congrArg (x_g4 102 103 10) ((xe_ifnull 153).trans (congrArg (x_ifnull 153 K) ((xe_iload 9).trans (congrArg (x_iload 9) ((xe_iconst (-1)).trans (congrArg (x_iconst (-1)) ((xe_if_icmp .ne 81).trans (congrArg (x_if_icmp .ne 81 K) (xe_goto 153)))))))))))))))
theorem bk_X6_isBanned_81 : ck_ fX6 (some .boolean) cX6_isBanned 81 [.aload 8, .tableswitch 0 2 10 #[], .iload 9] 88 = true := qck_r (nn_ _) (by decide +kernel)
theorem bs_X6_isBanned_81 {P : Zt → Option Zv → Prop} (K : Int → Zl → List Zv → Zt → Prop) : sx_ K P [.aload 8, .tableswitch 0 2 10 #[], .iload 9] 88 = x_aload 8 (x_g4 102 103 10 (x_iload 9 (K 88))) := ((xe_aload 8).trans (congrArg (x_aload 8) ((xe_g4 (kk := 102) rfl tl_2_10).trans (congrArg (x_g4 102 103 10) ((xe_iload 9).trans (congrArg (x_iload 9) xe_nil))))))
set_option maxRecDepth 100000 in
theorem cl_X6_187 : cv_ RX6 187 yX3_isSentOff zX3_isSentOff 3 1 := ⟨gi_V (lw_b4 163 (by decide +kernel) rfl : Cond.methodLink RX6 187 yX3_isSentOff ∈ lw_g) (lw_b4 164 (by decide +kernel) rfl : Cond.instanceMethod yX3_isSentOff ∈ lw_g) (lw_b4 165 (by decide +kernel) rfl : Cond.selects yX3_isSentOff.cls yX3_isSentOff yX3_isSentOff ∈ lw_g) (lw_b1 18 (by decide +kernel) rfl : Cond.initialized yX3_isSentOff.cls ∈ lw_g) (lw_b4 166 rfl rfl : Cond.code yX3_isSentOff cX3_isSentOff 2 (some .boolean) ∈ lw_g), ⟨by decide, by decide, by decide +kernel⟩, ⟨_, _, rfl⟩⟩
theorem bk_X6_isBanned_91 : ck_ fX6 (some .boolean) cX6_isBanned 91 [.ifCond .eq 112, .iload 5, .aload 2, .tableswitch 0 2 0 #[], .tableswitch 0 0 1 #[], .iconst 14, .iaload, .iadd, .istore 5, .goto 153] 112 = true := qck_r (nn_ _) (by decide +kernel)
theorem bs_X6_isBanned_91 {P : Zt → Option Zv → Prop} (K : Int → Zl → List Zv → Zt → Prop) : sx_ K P [.ifCond .eq 112, .iload 5, .aload 2, .tableswitch 0 2 0 #[], .tableswitch 0 0 1 #[], .iconst 14, .iaload, .iadd, .istore 5, .goto 153] 112 = x_ifCond .eq 112 K (x_iload 5 (x_aload 2 (x_g3 102 100 0 (x_g2 100 401 (x_iconst 14 (x_iaload (x_iadd (x_istore 5 (x_goto 153 K))))))))) := ((xe_ifCond .eq 112).trans (congrArg (x_ifCond .eq 112 K) ((xe_iload 5).trans (congrArg (x_iload 5) ((xe_aload 2).trans (congrArg (x_aload 2) ((xe_g3 (kk := 102) rfl tl_2_0).trans (congrArg (x_g3 102 100 0) ((xe_g2 (kk := 100) rfl tl_0_1).trans (congrArg (x_g2 100 401) ((xe_iconst 14).trans (congrArg (x_iconst 14) ((xe_iaload).trans (congrArg (x_iaload) ((xe_iadd).trans (congrArg (x_iadd) ((xe_istore 5).trans (congrArg (x_istore 5) (xe_goto 153)))))))))))))))))))
theorem bk_X6_isBanned_112 : ck_ fX6 (some .boolean) cX6_isBanned 112 [.iload 6, .aload 8, .tableswitch 0 2 10 #[], .tableswitch 0 3 13 #[], .iload 9, .iaload, .fadd, .istore 10, .iload 4, .ifCond .le 149, .iload 10, .iload 4, .fdiv, .iload 6, .iload 4, .fdiv, .if_icmp .le 149, .iinc 5 1, .iload 10, .istore 6] 153 = true := qck_r (nn_ _) (by decide +kernel)
theorem bs_X6_isBanned_112 {P : Zt → Option Zv → Prop} (K : Int → Zl → List Zv → Zt → Prop) : sx_ K P [.iload 6, .aload 8, .tableswitch 0 2 10 #[], .tableswitch 0 3 13 #[], .iload 9, .iaload, .fadd, .istore 10, .iload 4, .ifCond .le 149, .iload 10, .iload 4, .fdiv, .iload 6, .iload 4, .fdiv, .if_icmp .le 149, .iinc 5 1, .iload 10, .istore 6] 153 = x_iload 6 (x_aload 8 (x_g4 102 103 10 (x_g2 103 473 (x_iload 9 (x_iaload (x_fadd (x_istore 10 (x_iload 4 (x_ifCond .le 149 K (x_iload 10 (x_iload 4 (x_fdiv (x_iload 6 (x_iload 4 (x_fdiv (x_if_icmp .le 149 K (x_iinc 5 1 (x_iload 10 (x_istore 6 (K 153)))))))))))))))))))) := ((xe_iload 6).trans (congrArg (x_iload 6) ((xe_aload 8).trans (congrArg (x_aload 8) ((xe_g4 (kk := 102) rfl tl_2_10).trans (congrArg (x_g4 102 103 10) ((xe_g2 (kk := 103) rfl tl_3_13).trans (congrArg (x_g2 103 473) ((xe_iload 9).trans (congrArg (x_iload 9) ((xe_iaload).trans (congrArg (x_iaload) ((xe_fadd).trans (congrArg (x_fadd) ((xe_istore 10).trans (congrArg (x_istore 10) ((xe_iload 4).trans (congrArg (x_iload 4) ((xe_ifCond .le 149).trans (congrArg (x_ifCond .le 149 K) ((xe_iload 10).trans (congrArg (x_iload 10) ((xe_iload 4).trans (congrArg (x_iload 4) ((xe_fdiv).trans (congrArg (x_fdiv) ((xe_iload 6).trans (congrArg (x_iload 6) ((xe_iload 4).trans (congrArg (x_iload 4) ((xe_fdiv).trans (congrArg (x_fdiv) ((xe_if_icmp .le 149).trans (congrArg (x_if_icmp .le 149 K) ((xe_iinc 5 1).trans (congrArg (x_iinc 5 1) ((xe_iload 10).trans (congrArg (x_iload 10) ((xe_istore 6).trans (congrArg (x_istore 6) xe_nil))))))))))))))))))))))))))))))))))))))))
theorem bk_X6_isBanned_149 : ck_ fX6 (some .boolean) cX6_isBanned 149 [.iload 10, .istore 6] 153 = true := qck_r (nn_ _) (by decide +kernel)
theorem bs_X6_isBanned_149 {P : Zt → Option Zv → Prop} (K : Int → Zl → List Zv → Zt → Prop) : sx_ K P [.iload 10, .istore 6] 153 = x_iload 10 (x_istore 6 (K 153)) := ((xe_iload 10).trans (congrArg (x_iload 10) ((xe_istore 6).trans (congrArg (x_istore 6) xe_nil))))
theorem bk_X6_isBanned_0 : ck_ fX6 (some .boolean) cX6_isBanned 0 [.aload 0, .iload 1, .aload 2] 3 = true := qck_r (nn_ _) (by decide +kernel)
theorem bs_X6_isBanned_0 {P : Zt → Option Zv → Prop} (K : Int → Zl → List Zv → Zt → Prop) : sx_ K P [.aload 0, .iload 1, .aload 2] 3 = x_aload 0 (x_iload 1 (x_aload 2 (K 3))) := ((xe_aload 0).trans (congrArg (x_aload 0) ((xe_iload 1).trans (congrArg (x_iload 1) ((xe_aload 2).trans (congrArg (x_aload 2) xe_nil))))))
set_option maxRecDepth 100000 in
theorem cl_X6_175 : cv_ RX6 175 yX6_listAhead zX6_listAhead 6 2 := ⟨gi_V (lw_b4 150 (by decide +kernel) rfl : Cond.methodLink RX6 175 yX6_listAhead ∈ lw_g) (lw_b4 152 (by decide +kernel) rfl : Cond.instanceMethod yX6_listAhead ∈ lw_g) (lw_sel 125 rfl : Cond.selects yX6_listAhead.cls yX6_listAhead yX6_listAhead ∈ lw_g) (lw_b1 4 (by decide +kernel) rfl : Cond.initialized yX6_listAhead.cls ∈ lw_g) (lw_b4 153 rfl rfl : Cond.code yX6_listAhead cX6_listAhead 8 (some .int) ∈ lw_g), ⟨by decide, by decide, by decide +kernel⟩, ⟨_, _, rfl⟩⟩
theorem bk_X6_isBanned_6 : ck_ fX6 (some .boolean) cX6_isBanned 6 [.istore 3, .aload 2, .tableswitch 0 2 0 #[], .tableswitch 0 0 1 #[], .iconst 13, .iaload, .istore 4, .iconst 0, .istore 5, .iconst 0, .istore 6, .iconst 0, .istore 7] 28 = true := qck_r (nn_ _) (by decide +kernel)
theorem bs_X6_isBanned_6 {P : Zt → Option Zv → Prop} (K : Int → Zl → List Zv → Zt → Prop) : sx_ K P [.istore 3, .aload 2, .tableswitch 0 2 0 #[], .tableswitch 0 0 1 #[], .iconst 13, .iaload, .istore 4, .iconst 0, .istore 5, .iconst 0, .istore 6, .iconst 0, .istore 7] 28 = x_istore 3 (x_aload 2 (x_g3 102 100 0 (x_g2 100 401 (x_iconst 13 (x_iaload (x_istore 4 (x_iconst 0 (x_istore 5 (x_iconst 0 (x_istore 6 (x_iconst 0 (x_istore 7 (K 28))))))))))))) := ((xe_istore 3).trans (congrArg (x_istore 3) ((xe_aload 2).trans (congrArg (x_aload 2) ((xe_g3 (kk := 102) rfl tl_2_0).trans (congrArg (x_g3 102 100 0) ((xe_g2 (kk := 100) rfl tl_0_1).trans (congrArg (x_g2 100 401) ((xe_iconst 13).trans (congrArg (x_iconst 13) ((xe_iaload).trans (congrArg (x_iaload) ((xe_istore 4).trans (congrArg (x_istore 4) ((xe_iconst 0).trans (congrArg (x_iconst 0) ((xe_istore 5).trans (congrArg (x_istore 5) ((xe_iconst 0).trans (congrArg (x_iconst 0) ((xe_istore 6).trans (congrArg (x_istore 6) ((xe_iconst 0).trans (congrArg (x_iconst 0) ((xe_istore 7).trans (congrArg (x_istore 7) xe_nil))))))))))))))))))))))))))
abbrev po_X6_isBanned (T : Zt) (p : Int) (q : Int) : Zt → Option Zv → Prop := fun T' r => ∃ x : Int, r = some (vI x) ∧ fr_ [(533, [])] T T' ∧ (0 ≤ x ∧ x ≤ 1)
set_option maxHeartbeats 4000000 in
theorem ct_X6_isBanned {T : Zt} {p : Int} {q : Int} (hka : KA_ T) (hkm : KM_ T) (hkc : KC_ T) (hq : 0 ≤ q ∧ q < 200) (hp : 0 ≤ p ∧ p < T 106 0 4) : Ct_ yX6_isBanned zX6_isBanned T [vR 106 0, vI q, vR 102 p] (po_X6_isBanned T p q) := by
  refine ct_of pn_6 rfl rfl (Nat.le_of_ble_eq_true rfl) (fun hT hav => ?_)
  have hr_q : -2147483648 ≤ q ∧ q ≤ 2147483647 := hav (vI q) (by simp)
  have hz : zX6_isBanned.2.2.2.1 = some .boolean → ∀ (T' : Zt) (x : Int), po_X6_isBanned T p q T' (some (vI x)) → 0 ≤ x ∧ x ≤ 1 := fun _ T' x h => by obtain ⟨y, e, -, hy⟩ := h; cases e; omega
  have hb_matchCount : 0 ≤ T 106 0 4 ∧ T 106 0 4 ≤ 400 := bd_f hT 106 4 (by decide +kernel : (tf_ 106)[4]? = some (0, 0, 0, 400)) 0
  have hmp := hkm p (by omega) (by omega)
  have hcp := hkc (T 102 p 0) (by omega) (by omega)
  have hb7 : 0 ≤ T 100 (T 102 p 0) 7 ∧ T 100 (T 102 p 0) 7 ≤ 400 := bd_f hT 100 7 (by decide +kernel : (tf_ 100)[7]? = some (0, 0, 0, 400)) (T 102 p 0)
  have hb8 : 0 ≤ T 100 (T 102 p 0) 8 ∧ T 100 (T 102 p 0) 8 ≤ 400 := bd_f hT 100 8 (by decide +kernel : (tf_ 100)[8]? = some (0, 0, 0, 400)) (T 102 p 0)
  show J_ zX6_isBanned T (po_X6_isBanned T p q) 0 0 0 [some (vR 106 0), some (vI q), some (vR 102 p), none, none, none, none, none, none, none, none] [] T
  have c_28 : ∀ (nn : Nat) (n : Int) (d : Int) (y : Int) (k : Int) (T1 : Zt), ((400 - k).toNat) ≤ nn → (fr_ [(533, [])] T T1) → (0 ≤ k ∧ k ≤ 400 ∧ n ≤ 400 ∧ 0 ≤ d ∧ d ≤ 1000 * k) → (∀ j : Int, 0 ≤ j → j < n → 0 ≤ T1 533 0 j ∧ T1 533 0 j < T 106 0 4) → J_ zX6_isBanned T (po_X6_isBanned T p q) 0 0 28 [some (vR 106 0), some (vI q), some (vR 102 p), some (vI n), some (vI (T 401 (T 102 p 0) 13)), some (vI d), some (vI y), some (vI k), none, none, none] [] T1 := by
    intro nn
    induction nn using Nat.strongRecOn with
    | _ nn ih_28 =>
      intro n d y k T1 hm_28 hf_28 i1 li1
      have c_153 : ∀ (d2 : Int) (y2 : Int), (k < n ∧ 0 ≤ d2 ∧ d2 ≤ 1000 * k + 1000) → J_ zX6_isBanned T (po_X6_isBanned T p q) 0 0 153 [some (vR 106 0), some (vI q), some (vR 102 p), some (vI n), some (vI (T 401 (T 102 p 0) 13)), some (vI d2), some (vI y2), some (vI k), none, none, none] [] T1 := by
        intro d2 y2 i2
        refine j_blx (F := fX6) tb_X6 (nn_ _) bk_X6_isBanned_153 bs_X6_isBanned_153 hz (fun K hK => ?_)
        refine rg_i (by omega) ?_
        refine hK 28 [some (vR 106 0), some (vI q), some (vR 102 p), some (vI n), some (vI (T 401 (T 102 p 0) 13)), some (vI d2), some (vI y2), some (vI (k + 1)), none, none, none] [] T1 ?_
        refine ih_28 _ ?_ n d2 y2 (k + 1) T1 (Nat.le_refl _) ?_ ?_ ?_
        · omega
        · exact fr_t (fr_0 _ _) (fr_s hf_28 rfl)
        · omega
        · exact li1
      refine j_blx (F := fX6) tb_X6 (nn_ _) bk_X6_isBanned_28 bs_X6_isBanned_28 hz (fun K hK => ?_)
      refine And.intro (fun c1 => ?_) (fun c1 => ?_)
      · refine hK 159 _ [] T1 ?_
        refine j_blx (F := fX6) tb_X6 (nn_ _) bk_X6_isBanned_159 bs_X6_isBanned_159 hz (fun K hK => ?_)
        refine And.intro (fun c2 => ?_) (fun c2 => ?_)
        · refine hK 168 _ [] T1 ?_
          refine j_blx (F := fX6) tb_X6 (nn_ _) bk_X6_isBanned_168 bs_X6_isBanned_168 hz (fun K hK => ?_)
          refine (show po_X6_isBanned T p q T1 (some (vI 0)) from ?_)
          exact ⟨_, rfl, fr_t (fr_0 _ _) (fr_s hf_28 rfl), by omega⟩
        · refine hK 169 _ [vI 1] T1 ?_
          refine j_blx (F := fX6) tb_X6 (nn_ _) bk_X6_isBanned_169 bs_X6_isBanned_169 hz (fun K hK => ?_)
          refine (show po_X6_isBanned T p q T1 (some (vI 1)) from ?_)
          exact ⟨_, rfl, fr_t (fr_0 _ _) (fr_s hf_28 rfl), by omega⟩
      · refine ix_i (by omega) ?_
        intro b3 b3b
        refine ix_i (by omega) ?_
        have e5 : T1 523 0 (T1 533 0 k) = T 523 0 (T1 533 0 k) := hf_28 523 0 (T1 533 0 k) rfl
        refine And.intro (fun c4 => ?_) (fun c4 => ?_)
        · have y9 := li1 k (by omega) (by omega)
          exact absurd (show T 523 0 (T1 533 0 k) = 0 by omega) (hka.2 _ (by omega) (by omega))
        · refine And.intro (fun c6 => ?_) (fun c6 => ?_)
          · refine hK 56 [some (vR 106 0), some (vI q), some (vR 102 p), some (vI n), some (vI (T 401 (T 102 p 0) 13)), some (vI d), some (vI y), some (vI k), some (vR 102 (T1 533 0 k)), none, none] [] T1 ?_
            refine j_blx (F := fX6) tb_X6 (nn_ _) bk_X6_isBanned_56 bs_X6_isBanned_56 hz (fun K hK => ?_)
            refine hK 59 _ [vI q, vR 102 (T1 533 0 k)] T1 ?_
            refine j_callV (y := yX2_placeOf) (Yc := zX2_placeOf) (rest := []) [vI q] (ct_X2_placeOf (T := T1)) cl_X6_172 (qd_c (by decide +kernel)) (nn_ _) rfl (rf_of rfl) (Nat.le_of_ble_eq_true rfl) (Nat.le_of_ble_eq_true rfl) (Nat.le_of_ble_eq_true rfl) rfl ?_
            rintro _ _ ⟨rfl, x7, rfl, hx7⟩
            show J_ zX6_isBanned T (po_X6_isBanned T p q) 0 0 62 _ [vI x7] T1
            refine j_blx (F := fX6) tb_X6 (nn_ _) bk_X6_isBanned_62 bs_X6_isBanned_62 hz (fun K hK => ?_)
            have e9 : T1 102 (T1 533 0 k) 10 = T 102 (T1 533 0 k) 10 := hf_28 102 (T1 533 0 k) 10 rfl
            refine And.intro (fun c8 => ?_) (fun c8 => ?_)
            · refine hK 153 [some (vR 106 0), some (vI q), some (vR 102 p), some (vI n), some (vI (T 401 (T 102 p 0) 13)), some (vI d), some (vI y), some (vI k), some (vR 102 (T1 533 0 k)), some (vI x7), none] [] T1 ?_
              refine j_drop [some (vR 106 0), some (vI q), some (vR 102 p), some (vI n), some (vI (T 401 (T 102 p 0) 13)), some (vI d), some (vI y), some (vI k), none, none, none] (fun k v hk => ?_) rfl ?_
              · match k, hk with
                | 0, hk => exact hk
                | 1, hk => exact hk
                | 2, hk => exact hk
                | 3, hk => exact hk
                | 4, hk => exact hk
                | 5, hk => exact hk
                | 6, hk => exact hk
                | 7, hk => exact hk
                | 8, hk => cases hk
                | 9, hk => cases hk
                | 10, hk => cases hk
                | k + 11, hk => cases hk
              refine c_153 d y ?_
              · omega
            · refine And.intro (fun c10 => ?_) (fun c10 => ?_)
              · refine hK 81 [some (vR 106 0), some (vI q), some (vR 102 p), some (vI n), some (vI (T 401 (T 102 p 0) 13)), some (vI d), some (vI y), some (vI k), some (vR 102 (T1 533 0 k)), some (vI x7), none] [] T1 ?_
                refine j_blx (F := fX6) tb_X6 (nn_ _) bk_X6_isBanned_81 bs_X6_isBanned_81 hz (fun K hK => ?_)
                have e12 : T1 102 (T1 533 0 k) 10 = T 102 (T1 533 0 k) 10 := hf_28 102 (T1 533 0 k) 10 rfl
                refine And.intro (fun c11 => ?_) (fun c11 => ?_)
                · exact absurd c11 (by omega)
                · refine hK 88 _ [vI x7, vR 103 (T1 533 0 k)] T1 ?_
                  refine j_callV (y := yX3_isSentOff) (Yc := zX3_isSentOff) (rest := []) [vI x7] (ct_X3_isSentOff (T := T1) (by omega)) cl_X6_187 (qd_c (by decide +kernel)) (nn_ _) rfl (rf_of rfl) (Nat.le_of_ble_eq_true rfl) (Nat.le_of_ble_eq_true rfl) (Nat.le_of_ble_eq_true rfl) rfl ?_
                  rintro _ _ ⟨rfl, x13, rfl, hx13⟩
                  show J_ zX6_isBanned T (po_X6_isBanned T p q) 0 0 91 _ [vI x13] T1
                  refine j_blx (F := fX6) tb_X6 (nn_ _) bk_X6_isBanned_91 bs_X6_isBanned_91 hz (fun K hK => ?_)
                  refine And.intro (fun c14 => ?_) (fun c14 => ?_)
                  · refine hK 112 _ [] T1 ?_
                    refine j_blx (F := fX6) tb_X6 (nn_ _) bk_X6_isBanned_112 bs_X6_isBanned_112 hz (fun K hK => ?_)
                    have e16 : T1 102 (T1 533 0 k) 10 = T 102 (T1 533 0 k) 10 := hf_28 102 (T1 533 0 k) 10 rfl
                    refine And.intro (fun c15 => ?_) (fun c15 => ?_)
                    · exact absurd c15 (by omega)
                    · refine ix_i (by omega) ?_
                      intro b17 b17b
                      have e18 : T1 473 (T1 533 0 k) x7 = T 473 (T1 533 0 k) x7 := hf_28 473 (T1 533 0 k) x7 rfl
                      rw [e18] at b17 b17b ⊢
                      intro w19 w19b
                      refine And.intro (fun c20 => ?_) (fun c20 => ?_)
                      · refine hK 149 [some (vR 106 0), some (vI q), some (vR 102 p), some (vI n), some (vI (T 401 (T 102 p 0) 13)), some (vI d), some (vI y), some (vI k), some (vR 102 (T1 533 0 k)), some (vI x7), some (vI (wr_ (y + (T 473 (T1 533 0 k) x7))))] [] T1 ?_
                        refine j_blx (F := fX6) tb_X6 (nn_ _) bk_X6_isBanned_149 bs_X6_isBanned_149 hz (fun K hK => ?_)
                        refine hK 153 [some (vR 106 0), some (vI q), some (vR 102 p), some (vI n), some (vI (T 401 (T 102 p 0) 13)), some (vI d), some (vI (wr_ (y + (T 473 (T1 533 0 k) x7)))), some (vI k), some (vR 102 (T1 533 0 k)), some (vI x7), some (vI (wr_ (y + (T 473 (T1 533 0 k) x7))))] [] T1 ?_
                        refine j_drop [some (vR 106 0), some (vI q), some (vR 102 p), some (vI n), some (vI (T 401 (T 102 p 0) 13)), some (vI d), some (vI (wr_ (y + (T 473 (T1 533 0 k) x7)))), some (vI k), none, none, none] (fun k v hk => ?_) rfl ?_
                        · match k, hk with
                          | 0, hk => exact hk
                          | 1, hk => exact hk
                          | 2, hk => exact hk
                          | 3, hk => exact hk
                          | 4, hk => exact hk
                          | 5, hk => exact hk
                          | 6, hk => exact hk
                          | 7, hk => exact hk
                          | 8, hk => cases hk
                          | 9, hk => cases hk
                          | 10, hk => cases hk
                          | k + 11, hk => cases hk
                        refine c_153 d (wr_ (y + (T 473 (T1 533 0 k) x7))) ?_
                        · omega
                      · refine And.intro (by omega) (fun w21 w21b => ?_)
                        refine And.intro (by omega) (fun w22 w22b => ?_)
                        refine And.intro (fun c23 => ?_) (fun c23 => ?_)
                        · refine hK 149 [some (vR 106 0), some (vI q), some (vR 102 p), some (vI n), some (vI (T 401 (T 102 p 0) 13)), some (vI d), some (vI y), some (vI k), some (vR 102 (T1 533 0 k)), some (vI x7), some (vI (wr_ (y + (T 473 (T1 533 0 k) x7))))] [] T1 ?_
                          refine j_blx (F := fX6) tb_X6 (nn_ _) bk_X6_isBanned_149 bs_X6_isBanned_149 hz (fun K hK => ?_)
                          refine hK 153 [some (vR 106 0), some (vI q), some (vR 102 p), some (vI n), some (vI (T 401 (T 102 p 0) 13)), some (vI d), some (vI (wr_ (y + (T 473 (T1 533 0 k) x7)))), some (vI k), some (vR 102 (T1 533 0 k)), some (vI x7), some (vI (wr_ (y + (T 473 (T1 533 0 k) x7))))] [] T1 ?_
                          refine j_drop [some (vR 106 0), some (vI q), some (vR 102 p), some (vI n), some (vI (T 401 (T 102 p 0) 13)), some (vI d), some (vI (wr_ (y + (T 473 (T1 533 0 k) x7)))), some (vI k), none, none, none] (fun k v hk => ?_) rfl ?_
                          · match k, hk with
                            | 0, hk => exact hk
                            | 1, hk => exact hk
                            | 2, hk => exact hk
                            | 3, hk => exact hk
                            | 4, hk => exact hk
                            | 5, hk => exact hk
                            | 6, hk => exact hk
                            | 7, hk => exact hk
                            | 8, hk => cases hk
                            | 9, hk => cases hk
                            | 10, hk => cases hk
                            | k + 11, hk => cases hk
                          refine c_153 d (wr_ (y + (T 473 (T1 533 0 k) x7))) ?_
                          · omega
                        · refine rg_i (by omega) ?_
                          refine hK 153 [some (vR 106 0), some (vI q), some (vR 102 p), some (vI n), some (vI (T 401 (T 102 p 0) 13)), some (vI (d + 1)), some (vI (wr_ (y + (T 473 (T1 533 0 k) x7)))), some (vI k), some (vR 102 (T1 533 0 k)), some (vI x7), some (vI (wr_ (y + (T 473 (T1 533 0 k) x7))))] [] T1 ?_
                          refine j_drop [some (vR 106 0), some (vI q), some (vR 102 p), some (vI n), some (vI (T 401 (T 102 p 0) 13)), some (vI (d + 1)), some (vI (wr_ (y + (T 473 (T1 533 0 k) x7)))), some (vI k), none, none, none] (fun k v hk => ?_) rfl ?_
                          · match k, hk with
                            | 0, hk => exact hk
                            | 1, hk => exact hk
                            | 2, hk => exact hk
                            | 3, hk => exact hk
                            | 4, hk => exact hk
                            | 5, hk => exact hk
                            | 6, hk => exact hk
                            | 7, hk => exact hk
                            | 8, hk => cases hk
                            | 9, hk => cases hk
                            | 10, hk => cases hk
                            | k + 11, hk => cases hk
                          refine c_153 (d + 1) (wr_ (y + (T 473 (T1 533 0 k) x7))) ?_
                          · omega
                  · have e25 : T1 102 p 0 = T 102 p 0 := hf_28 102 p 0 rfl
                    refine ix_i (by omega) ?_
                    intro b26 b26b
                    have e27 : T1 401 (T 102 p 0) 14 = T 401 (T 102 p 0) 14 := hf_28 401 (T 102 p 0) 14 rfl
                    have e28 : T1 401 (T1 102 p 0) 14 = T 401 (T 102 p 0) 14 := by rw [e25]; exact e27
                    rw [e28] at b26 b26b ⊢
                    refine rg_i (by omega) ?_
                    refine hK 153 [some (vR 106 0), some (vI q), some (vR 102 p), some (vI n), some (vI (T 401 (T 102 p 0) 13)), some (vI (d + (T 401 (T 102 p 0) 14))), some (vI y), some (vI k), some (vR 102 (T1 533 0 k)), some (vI x7), none] [] T1 ?_
                    refine j_drop [some (vR 106 0), some (vI q), some (vR 102 p), some (vI n), some (vI (T 401 (T 102 p 0) 13)), some (vI (d + (T 401 (T 102 p 0) 14))), some (vI y), some (vI k), none, none, none] (fun k v hk => ?_) rfl ?_
                    · match k, hk with
                      | 0, hk => exact hk
                      | 1, hk => exact hk
                      | 2, hk => exact hk
                      | 3, hk => exact hk
                      | 4, hk => exact hk
                      | 5, hk => exact hk
                      | 6, hk => exact hk
                      | 7, hk => exact hk
                      | 8, hk => cases hk
                      | 9, hk => cases hk
                      | 10, hk => cases hk
                      | k + 11, hk => cases hk
                    refine c_153 (d + (T 401 (T 102 p 0) 14)) y ?_
                    · omega
              · refine hK 153 _ [] T1 ?_
                refine j_drop [some (vR 106 0), some (vI q), some (vR 102 p), some (vI n), some (vI (T 401 (T 102 p 0) 13)), some (vI d), some (vI y), some (vI k), none, none, none] (fun k v hk => ?_) rfl ?_
                · match k, hk with
                  | 0, hk => exact hk
                  | 1, hk => exact hk
                  | 2, hk => exact hk
                  | 3, hk => exact hk
                  | 4, hk => exact hk
                  | 5, hk => exact hk
                  | 6, hk => exact hk
                  | 7, hk => exact hk
                  | 8, hk => cases hk
                  | 9, hk => cases hk
                  | 10, hk => cases hk
                  | k + 11, hk => cases hk
                refine c_153 d y ?_
                · omega
          · refine rg_i (by omega) ?_
            refine hK 59 [some (vR 106 0), some (vI q), some (vR 102 p), some (vI n), some (vI (T 401 (T 102 p 0) 13)), some (vI (d + (-1))), some (vI y), some (vI k), some (vR 102 (T1 533 0 k)), none, none] [vI q, vR 102 (T1 533 0 k)] T1 ?_
            refine j_callV (y := yX2_placeOf) (Yc := zX2_placeOf) (rest := []) [vI q] (ct_X2_placeOf (T := T1)) cl_X6_172 (qd_c (by decide +kernel)) (nn_ _) rfl (rf_of rfl) (Nat.le_of_ble_eq_true rfl) (Nat.le_of_ble_eq_true rfl) (Nat.le_of_ble_eq_true rfl) rfl ?_
            rintro _ _ ⟨rfl, x29, rfl, hx29⟩
            show J_ zX6_isBanned T (po_X6_isBanned T p q) 0 0 62 _ [vI x29] T1
            refine j_blx (F := fX6) tb_X6 (nn_ _) bk_X6_isBanned_62 bs_X6_isBanned_62 hz (fun K hK => ?_)
            have e31 : T1 102 (T1 533 0 k) 10 = T 102 (T1 533 0 k) 10 := hf_28 102 (T1 533 0 k) 10 rfl
            refine And.intro (fun c30 => ?_) (fun c30 => ?_)
            · refine hK 153 [some (vR 106 0), some (vI q), some (vR 102 p), some (vI n), some (vI (T 401 (T 102 p 0) 13)), some (vI (d + (-1))), some (vI y), some (vI k), some (vR 102 (T1 533 0 k)), some (vI x29), none] [] T1 ?_
              refine j_drop [some (vR 106 0), some (vI q), some (vR 102 p), some (vI n), some (vI (T 401 (T 102 p 0) 13)), some (vI (d + (-1))), some (vI y), some (vI k), none, none, none] (fun k v hk => ?_) rfl ?_
              · match k, hk with
                | 0, hk => exact hk
                | 1, hk => exact hk
                | 2, hk => exact hk
                | 3, hk => exact hk
                | 4, hk => exact hk
                | 5, hk => exact hk
                | 6, hk => exact hk
                | 7, hk => exact hk
                | 8, hk => cases hk
                | 9, hk => cases hk
                | 10, hk => cases hk
                | k + 11, hk => cases hk
              refine c_153 (d + (-1)) y ?_
              · omega
            · refine And.intro (fun c32 => ?_) (fun c32 => ?_)
              · refine hK 81 [some (vR 106 0), some (vI q), some (vR 102 p), some (vI n), some (vI (T 401 (T 102 p 0) 13)), some (vI (d + (-1))), some (vI y), some (vI k), some (vR 102 (T1 533 0 k)), some (vI x29), none] [] T1 ?_
                refine j_blx (F := fX6) tb_X6 (nn_ _) bk_X6_isBanned_81 bs_X6_isBanned_81 hz (fun K hK => ?_)
                have e34 : T1 102 (T1 533 0 k) 10 = T 102 (T1 533 0 k) 10 := hf_28 102 (T1 533 0 k) 10 rfl
                refine And.intro (fun c33 => ?_) (fun c33 => ?_)
                · exact absurd c33 (by omega)
                · refine hK 88 _ [vI x29, vR 103 (T1 533 0 k)] T1 ?_
                  refine j_callV (y := yX3_isSentOff) (Yc := zX3_isSentOff) (rest := []) [vI x29] (ct_X3_isSentOff (T := T1) (by omega)) cl_X6_187 (qd_c (by decide +kernel)) (nn_ _) rfl (rf_of rfl) (Nat.le_of_ble_eq_true rfl) (Nat.le_of_ble_eq_true rfl) (Nat.le_of_ble_eq_true rfl) rfl ?_
                  rintro _ _ ⟨rfl, x35, rfl, hx35⟩
                  show J_ zX6_isBanned T (po_X6_isBanned T p q) 0 0 91 _ [vI x35] T1
                  refine j_blx (F := fX6) tb_X6 (nn_ _) bk_X6_isBanned_91 bs_X6_isBanned_91 hz (fun K hK => ?_)
                  refine And.intro (fun c36 => ?_) (fun c36 => ?_)
                  · refine hK 112 _ [] T1 ?_
                    refine j_blx (F := fX6) tb_X6 (nn_ _) bk_X6_isBanned_112 bs_X6_isBanned_112 hz (fun K hK => ?_)
                    have e38 : T1 102 (T1 533 0 k) 10 = T 102 (T1 533 0 k) 10 := hf_28 102 (T1 533 0 k) 10 rfl
                    refine And.intro (fun c37 => ?_) (fun c37 => ?_)
                    · exact absurd c37 (by omega)
                    · refine ix_i (by omega) ?_
                      intro b39 b39b
                      have e40 : T1 473 (T1 533 0 k) x29 = T 473 (T1 533 0 k) x29 := hf_28 473 (T1 533 0 k) x29 rfl
                      rw [e40] at b39 b39b ⊢
                      intro w41 w41b
                      refine And.intro (fun c42 => ?_) (fun c42 => ?_)
                      · refine hK 149 [some (vR 106 0), some (vI q), some (vR 102 p), some (vI n), some (vI (T 401 (T 102 p 0) 13)), some (vI (d + (-1))), some (vI y), some (vI k), some (vR 102 (T1 533 0 k)), some (vI x29), some (vI (wr_ (y + (T 473 (T1 533 0 k) x29))))] [] T1 ?_
                        refine j_blx (F := fX6) tb_X6 (nn_ _) bk_X6_isBanned_149 bs_X6_isBanned_149 hz (fun K hK => ?_)
                        refine hK 153 [some (vR 106 0), some (vI q), some (vR 102 p), some (vI n), some (vI (T 401 (T 102 p 0) 13)), some (vI (d + (-1))), some (vI (wr_ (y + (T 473 (T1 533 0 k) x29)))), some (vI k), some (vR 102 (T1 533 0 k)), some (vI x29), some (vI (wr_ (y + (T 473 (T1 533 0 k) x29))))] [] T1 ?_
                        refine j_drop [some (vR 106 0), some (vI q), some (vR 102 p), some (vI n), some (vI (T 401 (T 102 p 0) 13)), some (vI (d + (-1))), some (vI (wr_ (y + (T 473 (T1 533 0 k) x29)))), some (vI k), none, none, none] (fun k v hk => ?_) rfl ?_
                        · match k, hk with
                          | 0, hk => exact hk
                          | 1, hk => exact hk
                          | 2, hk => exact hk
                          | 3, hk => exact hk
                          | 4, hk => exact hk
                          | 5, hk => exact hk
                          | 6, hk => exact hk
                          | 7, hk => exact hk
                          | 8, hk => cases hk
                          | 9, hk => cases hk
                          | 10, hk => cases hk
                          | k + 11, hk => cases hk
                        refine c_153 (d + (-1)) (wr_ (y + (T 473 (T1 533 0 k) x29))) ?_
                        · omega
                      · refine And.intro (by omega) (fun w43 w43b => ?_)
                        refine And.intro (by omega) (fun w44 w44b => ?_)
                        refine And.intro (fun c45 => ?_) (fun c45 => ?_)
                        · refine hK 149 [some (vR 106 0), some (vI q), some (vR 102 p), some (vI n), some (vI (T 401 (T 102 p 0) 13)), some (vI (d + (-1))), some (vI y), some (vI k), some (vR 102 (T1 533 0 k)), some (vI x29), some (vI (wr_ (y + (T 473 (T1 533 0 k) x29))))] [] T1 ?_
                          refine j_blx (F := fX6) tb_X6 (nn_ _) bk_X6_isBanned_149 bs_X6_isBanned_149 hz (fun K hK => ?_)
                          refine hK 153 [some (vR 106 0), some (vI q), some (vR 102 p), some (vI n), some (vI (T 401 (T 102 p 0) 13)), some (vI (d + (-1))), some (vI (wr_ (y + (T 473 (T1 533 0 k) x29)))), some (vI k), some (vR 102 (T1 533 0 k)), some (vI x29), some (vI (wr_ (y + (T 473 (T1 533 0 k) x29))))] [] T1 ?_
                          refine j_drop [some (vR 106 0), some (vI q), some (vR 102 p), some (vI n), some (vI (T 401 (T 102 p 0) 13)), some (vI (d + (-1))), some (vI (wr_ (y + (T 473 (T1 533 0 k) x29)))), some (vI k), none, none, none] (fun k v hk => ?_) rfl ?_
                          · match k, hk with
                            | 0, hk => exact hk
                            | 1, hk => exact hk
                            | 2, hk => exact hk
                            | 3, hk => exact hk
                            | 4, hk => exact hk
                            | 5, hk => exact hk
                            | 6, hk => exact hk
                            | 7, hk => exact hk
                            | 8, hk => cases hk
                            | 9, hk => cases hk
                            | 10, hk => cases hk
                            | k + 11, hk => cases hk
                          refine c_153 (d + (-1)) (wr_ (y + (T 473 (T1 533 0 k) x29))) ?_
                          · omega
                        · refine rg_i (by omega) ?_
                          refine hK 153 [some (vR 106 0), some (vI q), some (vR 102 p), some (vI n), some (vI (T 401 (T 102 p 0) 13)), some (vI ((d + (-1)) + 1)), some (vI (wr_ (y + (T 473 (T1 533 0 k) x29)))), some (vI k), some (vR 102 (T1 533 0 k)), some (vI x29), some (vI (wr_ (y + (T 473 (T1 533 0 k) x29))))] [] T1 ?_
                          refine j_drop [some (vR 106 0), some (vI q), some (vR 102 p), some (vI n), some (vI (T 401 (T 102 p 0) 13)), some (vI ((d + (-1)) + 1)), some (vI (wr_ (y + (T 473 (T1 533 0 k) x29)))), some (vI k), none, none, none] (fun k v hk => ?_) rfl ?_
                          · match k, hk with
                            | 0, hk => exact hk
                            | 1, hk => exact hk
                            | 2, hk => exact hk
                            | 3, hk => exact hk
                            | 4, hk => exact hk
                            | 5, hk => exact hk
                            | 6, hk => exact hk
                            | 7, hk => exact hk
                            | 8, hk => cases hk
                            | 9, hk => cases hk
                            | 10, hk => cases hk
                            | k + 11, hk => cases hk
                          refine c_153 ((d + (-1)) + 1) (wr_ (y + (T 473 (T1 533 0 k) x29))) ?_
                          · omega
                  · have e47 : T1 102 p 0 = T 102 p 0 := hf_28 102 p 0 rfl
                    refine ix_i (by omega) ?_
                    intro b48 b48b
                    have e49 : T1 401 (T 102 p 0) 14 = T 401 (T 102 p 0) 14 := hf_28 401 (T 102 p 0) 14 rfl
                    have e50 : T1 401 (T1 102 p 0) 14 = T 401 (T 102 p 0) 14 := by rw [e47]; exact e49
                    rw [e50] at b48 b48b ⊢
                    refine rg_i (by omega) ?_
                    refine hK 153 [some (vR 106 0), some (vI q), some (vR 102 p), some (vI n), some (vI (T 401 (T 102 p 0) 13)), some (vI ((d + (-1)) + (T 401 (T 102 p 0) 14))), some (vI y), some (vI k), some (vR 102 (T1 533 0 k)), some (vI x29), none] [] T1 ?_
                    refine j_drop [some (vR 106 0), some (vI q), some (vR 102 p), some (vI n), some (vI (T 401 (T 102 p 0) 13)), some (vI ((d + (-1)) + (T 401 (T 102 p 0) 14))), some (vI y), some (vI k), none, none, none] (fun k v hk => ?_) rfl ?_
                    · match k, hk with
                      | 0, hk => exact hk
                      | 1, hk => exact hk
                      | 2, hk => exact hk
                      | 3, hk => exact hk
                      | 4, hk => exact hk
                      | 5, hk => exact hk
                      | 6, hk => exact hk
                      | 7, hk => exact hk
                      | 8, hk => cases hk
                      | 9, hk => cases hk
                      | 10, hk => cases hk
                      | k + 11, hk => cases hk
                    refine c_153 ((d + (-1)) + (T 401 (T 102 p 0) 14)) y ?_
                    · omega
              · refine hK 153 _ [] T1 ?_
                refine j_drop [some (vR 106 0), some (vI q), some (vR 102 p), some (vI n), some (vI (T 401 (T 102 p 0) 13)), some (vI (d + (-1))), some (vI y), some (vI k), none, none, none] (fun k v hk => ?_) rfl ?_
                · match k, hk with
                  | 0, hk => exact hk
                  | 1, hk => exact hk
                  | 2, hk => exact hk
                  | 3, hk => exact hk
                  | 4, hk => exact hk
                  | 5, hk => exact hk
                  | 6, hk => exact hk
                  | 7, hk => exact hk
                  | 8, hk => cases hk
                  | 9, hk => cases hk
                  | 10, hk => cases hk
                  | k + 11, hk => cases hk
                refine c_153 (d + (-1)) y ?_
                · omega
  refine j_blx (F := fX6) tb_X6 (nn_ _) bk_X6_isBanned_0 bs_X6_isBanned_0 hz (fun K hK => ?_)
  refine hK 3 _ [vR 102 p, vI q, vR 106 0] T ?_
  refine j_callV (y := yX6_listAhead) (Yc := zX6_listAhead) (rest := []) [vI q, vR 102 p] (ct_X6_listAhead (T := T) (hka) (hkm) (hkc) (by omega) (by omega)) cl_X6_175 (qd_c (by decide +kernel)) (nn_ _) rfl (rf_of rfl) (Nat.le_of_ble_eq_true rfl) (Nat.le_of_ble_eq_true rfl) (Nat.le_of_ble_eq_true rfl) rfl ?_
  rintro U51 _ ⟨x52, rfl, fU51, qU51⟩
  show J_ zX6_isBanned T (po_X6_isBanned T p q) 0 0 6 _ [vI x52] U51
  refine j_blx (F := fX6) tb_X6 (nn_ _) bk_X6_isBanned_6 bs_X6_isBanned_6 hz (fun K hK => ?_)
  have e54 : U51 102 p 0 = T 102 p 0 := fU51 102 p 0 rfl
  refine ix_i (by omega) ?_
  intro b55 b55b
  have e56 : U51 401 (T 102 p 0) 13 = T 401 (T 102 p 0) 13 := fU51 401 (T 102 p 0) 13 rfl
  have e57 : U51 401 (U51 102 p 0) 13 = T 401 (T 102 p 0) 13 := by rw [e54]; exact e56
  rw [e57] at b55 b55b ⊢
  refine hK 28 [some (vR 106 0), some (vI q), some (vR 102 p), some (vI x52), some (vI (T 401 (T 102 p 0) 13)), some (vI 0), some (vI 0), some (vI 0), none, none, none] [] U51 ?_
  refine c_28 _ x52 0 0 0 U51 (Nat.le_refl _) ?_ ?_ ?_
  · exact fr_t (fr_0 _ _) (fr_s fU51 rfl)
  · omega
  · exact qU51.2
abbrev cX6_whyNot : ByteArray := prog_8_method_14_code
def yX6_whyNot : MethodName := ⟨RX6, "whyNot", "(ILSportsHouse$Match;I)I"⟩
def zX6_whyNot : Zm := (RX6, cX6_whyNot, 6, (some .int), { frames := 4, cells := 0, slots := 0, locals := 97 })
theorem bk_X6_whyNot_57 : ck_ fX6 (some .int) cX6_whyNot 57 [.iload 4, .aload 0, .tableswitch 0 6 4 #[], .if_icmp .ge 123, .aload 0, .tableswitch 0 6 3 #[], .iload 4, .aaload, .astore 5, .iload 4, .aload 2, .tableswitch 0 2 1 #[], .if_icmp .eq 117, .aload 5, .tableswitch 0 2 5 #[], .aload 2, .tableswitch 0 2 5 #[], .if_icmp .ne 117, .aload 5, .tableswitch 0 2 6 #[], .iconst (-1), .if_icmp .ne 117, .aload 5, .iload 1] 108 = true := qck_r (nn_ _) (by decide +kernel)
theorem bs_X6_whyNot_57 {P : Zt → Option Zv → Prop} (K : Int → Zl → List Zv → Zt → Prop) : sx_ K P [.iload 4, .aload 0, .tableswitch 0 6 4 #[], .if_icmp .ge 123, .aload 0, .tableswitch 0 6 3 #[], .iload 4, .aaload, .astore 5, .iload 4, .aload 2, .tableswitch 0 2 1 #[], .if_icmp .eq 117, .aload 5, .tableswitch 0 2 5 #[], .aload 2, .tableswitch 0 2 5 #[], .if_icmp .ne 117, .aload 5, .tableswitch 0 2 6 #[], .iconst (-1), .if_icmp .ne 117, .aload 5, .iload 1] 108 = x_iload 4 (x_aload 0 (x_g0 106 4 0 400 (x_if_icmp .ge 123 K (x_aload 0 (x_g1 106 523 (x_iload 4 (x_aaload (x_astore 5 (x_iload 4 (x_aload 2 (x_g0 102 1 0 399 (x_if_icmp .eq 117 K (x_aload 5 (x_g0 102 5 0 999 (x_aload 2 (x_g0 102 5 0 999 (x_if_icmp .ne 117 K (x_aload 5 (x_g0 102 6 (-1) 1 (x_iconst (-1) (x_if_icmp .ne 117 K (x_aload 5 (x_iload 1 (K 108)))))))))))))))))))))))) := ((xe_iload 4).trans (congrArg (x_iload 4) ((xe_aload 0).trans (congrArg (x_aload 0) ((xe_g0 (kk := 106) rfl tl_6_4).trans (congrArg (x_g0 106 4 0 400) ((xe_if_icmp .ge 123).trans (congrArg (x_if_icmp .ge 123 K) ((xe_aload 0).trans (congrArg (x_aload 0) ((xe_g1 (kk := 106) rfl tl_6_3).trans (congrArg (x_g1 106 523) ((xe_iload 4).trans (congrArg (x_iload 4) ((xe_aaload).trans (congrArg (x_aaload) ((xe_astore 5).trans (congrArg (x_astore 5) ((xe_iload 4).trans (congrArg (x_iload 4) ((xe_aload 2).trans (congrArg (x_aload 2) ((xe_g0 (kk := 102) rfl tl_2_1).trans (congrArg (x_g0 102 1 0 399) ((xe_if_icmp .eq 117).trans (congrArg (x_if_icmp .eq 117 K) ((xe_aload 5).trans (congrArg (x_aload 5) ((xe_g0 (kk := 102) rfl tl_2_5).trans (congrArg (x_g0 102 5 0 999) ((xe_aload 2).trans (congrArg (x_aload 2) ((xe_g0 (kk := 102) rfl tl_2_5).trans (congrArg (x_g0 102 5 0 999) ((xe_if_icmp .ne 117).trans (congrArg (x_if_icmp .ne 117 K) ((xe_aload 5).trans (congrArg (x_aload 5) ((xe_g0 (kk := 102) rfl tl_2_6).trans (congrArg (x_g0 102 6 (-1) 1) ((xe_iconst (-1)).trans (congrArg (x_iconst (-1)) ((xe_if_icmp .ne 117).trans (congrArg (x_if_icmp .ne 117 K) ((xe_aload 5).trans (congrArg (x_aload 5) ((xe_iload 1).trans (congrArg (x_iload 1) xe_nil))))))))))))))))))))))))))))))))))))))))))))))))
theorem bk_X6_whyNot_123 : ck_ fX6 (some .int) cX6_whyNot 123 [.iconst 0, .ireturn] 125 = true := qck_r (nn_ _) (by decide +kernel)
theorem bs_X6_whyNot_123 {P : Zt → Option Zv → Prop} (K : Int → Zl → List Zv → Zt → Prop) : sx_ K P [.iconst 0, .ireturn] 125 = x_iconst 0 (x_ireturn P) := ((xe_iconst 0).trans (congrArg (x_iconst 0) (xe_ireturn)))
theorem bk_X6_whyNot_117 : ck_ fX6 (some .int) cX6_whyNot 117 [.iinc 4 1, .goto 57] 123 = true := qck_r (nn_ _) (by decide +kernel)
theorem bs_X6_whyNot_117 {P : Zt → Option Zv → Prop} (K : Int → Zl → List Zv → Zt → Prop) : sx_ K P [.iinc 4 1, .goto 57] 123 = x_iinc 4 1 (x_goto 57 K) := ((xe_iinc 4 1).trans (congrArg (x_iinc 4 1) (xe_goto 57)))
theorem bk_X6_whyNot_111 : ck_ fX6 (some .int) cX6_whyNot 111 [.iconst (-1), .if_icmp .eq 117, .iconst 4, .ireturn] 117 = true := qck_r (nn_ _) (by decide +kernel)
theorem bs_X6_whyNot_111 {P : Zt → Option Zv → Prop} (K : Int → Zl → List Zv → Zt → Prop) : sx_ K P [.iconst (-1), .if_icmp .eq 117, .iconst 4, .ireturn] 117 = x_iconst (-1) (x_if_icmp .eq 117 K (x_iconst 4 (x_ireturn P))) := ((xe_iconst (-1)).trans (congrArg (x_iconst (-1)) ((xe_if_icmp .eq 117).trans (congrArg (x_if_icmp .eq 117 K) ((xe_iconst 4).trans (congrArg (x_iconst 4) (xe_ireturn)))))))
theorem bk_X6_whyNot_0 : ck_ fX6 (some .int) cX6_whyNot 0 [.aload 0, .tableswitch 0 6 0 #[], .iload 1, .aload 2, .tableswitch 0 2 5 #[]] 9 = true := qck_r (nn_ _) (by decide +kernel)
theorem bs_X6_whyNot_0 {P : Zt → Option Zv → Prop} (K : Int → Zl → List Zv → Zt → Prop) : sx_ K P [.aload 0, .tableswitch 0 6 0 #[], .iload 1, .aload 2, .tableswitch 0 2 5 #[]] 9 = x_aload 0 (x_g1 106 108 (x_iload 1 (x_aload 2 (x_g0 102 5 0 999 (K 9))))) := ((xe_aload 0).trans (congrArg (x_aload 0) ((xe_g1 (kk := 106) rfl tl_6_0).trans (congrArg (x_g1 106 108) ((xe_iload 1).trans (congrArg (x_iload 1) ((xe_aload 2).trans (congrArg (x_aload 2) ((xe_g0 (kk := 102) rfl tl_2_5).trans (congrArg (x_g0 102 5 0 999) xe_nil))))))))))
theorem bk_X6_whyNot_12 : ck_ fX6 (some .int) cX6_whyNot 12 [.iload 3, .ifCond .ne 23, .aload 2, .tableswitch 0 2 3 #[], .goto 27] 23 = true := qck_r (nn_ _) (by decide +kernel)
theorem bs_X6_whyNot_12 {P : Zt → Option Zv → Prop} (K : Int → Zl → List Zv → Zt → Prop) : sx_ K P [.iload 3, .ifCond .ne 23, .aload 2, .tableswitch 0 2 3 #[], .goto 27] 23 = x_iload 3 (x_ifCond .ne 23 K (x_aload 2 (x_g0 102 3 0 11 (x_goto 27 K)))) := ((xe_iload 3).trans (congrArg (x_iload 3) ((xe_ifCond .ne 23).trans (congrArg (x_ifCond .ne 23 K) ((xe_aload 2).trans (congrArg (x_aload 2) ((xe_g0 (kk := 102) rfl tl_2_3).trans (congrArg (x_g0 102 3 0 11) (xe_goto 27)))))))))
theorem bk_X6_whyNot_23 : ck_ fX6 (some .int) cX6_whyNot 23 [.aload 2, .tableswitch 0 2 4 #[], .if_icmp .eq 32, .iconst 1, .ireturn] 32 = true := qck_r (nn_ _) (by decide +kernel)
theorem bs_X6_whyNot_23 {P : Zt → Option Zv → Prop} (K : Int → Zl → List Zv → Zt → Prop) : sx_ K P [.aload 2, .tableswitch 0 2 4 #[], .if_icmp .eq 32, .iconst 1, .ireturn] 32 = x_aload 2 (x_g0 102 4 0 11 (x_if_icmp .eq 32 K (x_iconst 1 (x_ireturn P)))) := ((xe_aload 2).trans (congrArg (x_aload 2) ((xe_g0 (kk := 102) rfl tl_2_4).trans (congrArg (x_g0 102 4 0 11) ((xe_if_icmp .eq 32).trans (congrArg (x_if_icmp .eq 32 K) ((xe_iconst 1).trans (congrArg (x_iconst 1) (xe_ireturn)))))))))
theorem bk_X6_whyNot_32 : ck_ fX6 (some .int) cX6_whyNot 32 [.aload 0, .iload 1, .aload 2] 35 = true := qck_r (nn_ _) (by decide +kernel)
theorem bs_X6_whyNot_32 {P : Zt → Option Zv → Prop} (K : Int → Zl → List Zv → Zt → Prop) : sx_ K P [.aload 0, .iload 1, .aload 2] 35 = x_aload 0 (x_iload 1 (x_aload 2 (K 35))) := ((xe_aload 0).trans (congrArg (x_aload 0) ((xe_iload 1).trans (congrArg (x_iload 1) ((xe_aload 2).trans (congrArg (x_aload 2) xe_nil))))))
set_option maxRecDepth 100000 in
theorem cl_X6_168 : cv_ RX6 168 yX6_isBanned zX6_isBanned 6 2 := ⟨gi_V (lw_b4 146 (by decide +kernel) rfl : Cond.methodLink RX6 168 yX6_isBanned ∈ lw_g) (lw_b4 148 (by decide +kernel) rfl : Cond.instanceMethod yX6_isBanned ∈ lw_g) (lw_sel 123 rfl : Cond.selects yX6_isBanned.cls yX6_isBanned yX6_isBanned ∈ lw_g) (lw_b1 4 (by decide +kernel) rfl : Cond.initialized yX6_isBanned.cls ∈ lw_g) (lw_b4 149 rfl rfl : Cond.code yX6_isBanned cX6_isBanned 11 (some .boolean) ∈ lw_g), ⟨by decide, by decide, by decide +kernel⟩, ⟨_, _, rfl⟩⟩
theorem bk_X6_whyNot_38 : ck_ fX6 (some .int) cX6_whyNot 38 [.ifCond .eq 43, .iconst 2, .ireturn] 43 = true := qck_r (nn_ _) (by decide +kernel)
theorem bs_X6_whyNot_38 {P : Zt → Option Zv → Prop} (K : Int → Zl → List Zv → Zt → Prop) : sx_ K P [.ifCond .eq 43, .iconst 2, .ireturn] 43 = x_ifCond .eq 43 K (x_iconst 2 (x_ireturn P)) := ((xe_ifCond .eq 43).trans (congrArg (x_ifCond .eq 43 K) ((xe_iconst 2).trans (congrArg (x_iconst 2) (xe_ireturn)))))
theorem bk_X6_whyNot_43 : ck_ fX6 (some .int) cX6_whyNot 43 [.aload 2, .iload 1] 45 = true := qck_r (nn_ _) (by decide +kernel)
theorem bs_X6_whyNot_43 {P : Zt → Option Zv → Prop} (K : Int → Zl → List Zv → Zt → Prop) : sx_ K P [.aload 2, .iload 1] 45 = x_aload 2 (x_iload 1 (K 45)) := ((xe_aload 2).trans (congrArg (x_aload 2) ((xe_iload 1).trans (congrArg (x_iload 1) xe_nil))))
theorem bk_X6_whyNot_48 : ck_ fX6 (some .int) cX6_whyNot 48 [.iconst (-1), .if_icmp .eq 54, .iconst 3, .ireturn] 54 = true := qck_r (nn_ _) (by decide +kernel)
theorem bs_X6_whyNot_48 {P : Zt → Option Zv → Prop} (K : Int → Zl → List Zv → Zt → Prop) : sx_ K P [.iconst (-1), .if_icmp .eq 54, .iconst 3, .ireturn] 54 = x_iconst (-1) (x_if_icmp .eq 54 K (x_iconst 3 (x_ireturn P))) := ((xe_iconst (-1)).trans (congrArg (x_iconst (-1)) ((xe_if_icmp .eq 54).trans (congrArg (x_if_icmp .eq 54 K) ((xe_iconst 3).trans (congrArg (x_iconst 3) (xe_ireturn)))))))
theorem bk_X6_whyNot_54 : ck_ fX6 (some .int) cX6_whyNot 54 [.iconst 0, .istore 4] 57 = true := qck_r (nn_ _) (by decide +kernel)
theorem bs_X6_whyNot_54 {P : Zt → Option Zv → Prop} (K : Int → Zl → List Zv → Zt → Prop) : sx_ K P [.iconst 0, .istore 4] 57 = x_iconst 0 (x_istore 4 (K 57)) := ((xe_iconst 0).trans (congrArg (x_iconst 0) ((xe_istore 4).trans (congrArg (x_istore 4) xe_nil))))
theorem bk_X6_whyNot_27 : ck_ fX6 (some .int) cX6_whyNot 27 [.if_icmp .eq 32, .iconst 1, .ireturn] 32 = true := qck_r (nn_ _) (by decide +kernel)
theorem bs_X6_whyNot_27 {P : Zt → Option Zv → Prop} (K : Int → Zl → List Zv → Zt → Prop) : sx_ K P [.if_icmp .eq 32, .iconst 1, .ireturn] 32 = x_if_icmp .eq 32 K (x_iconst 1 (x_ireturn P)) := ((xe_if_icmp .eq 32).trans (congrArg (x_if_icmp .eq 32 K) ((xe_iconst 1).trans (congrArg (x_iconst 1) (xe_ireturn)))))
abbrev po_X6_whyNot (T : Zt) (p : Int) (q d : Int) : Zt → Option Zv → Prop := fun T' r => ∃ x : Int, r = some (vI x) ∧ fr_ [(533, [])] T T' ∧ (0 ≤ x ∧ x ≤ 4)
set_option maxHeartbeats 4000000 in
theorem ct_X6_whyNot {T : Zt} {p : Int} {q d : Int} (hka : KA_ T) (hkm : KM_ T) (hkc : KC_ T) (hq : 0 ≤ q ∧ q < 200) (hp : 0 ≤ p ∧ p < T 106 0 4) : Ct_ yX6_whyNot zX6_whyNot T [vR 106 0, vI q, vR 102 p, vI d] (po_X6_whyNot T p q d) := by
  refine ct_of pn_6 rfl rfl (Nat.le_of_ble_eq_true rfl) (fun hT hav => ?_)
  have hr_q : -2147483648 ≤ q ∧ q ≤ 2147483647 := hav (vI q) (by simp)
  have hr_d : -2147483648 ≤ d ∧ d ≤ 2147483647 := hav (vI d) (by simp)
  have hz : zX6_whyNot.2.2.2.1 = some .boolean → ∀ (T' : Zt) (x : Int), po_X6_whyNot T p q d T' (some (vI x)) → 0 ≤ x ∧ x ≤ 1 := fun h => by cases h
  have hb_matchCount : 0 ≤ T 106 0 4 ∧ T 106 0 4 ≤ 400 := bd_f hT 106 4 (by decide +kernel : (tf_ 106)[4]? = some (0, 0, 0, 400)) 0
  have hmp := hkm p (by omega) (by omega)
  have hcp := hkc (T 102 p 0) (by omega) (by omega)
  have hb7 : 0 ≤ T 100 (T 102 p 0) 7 ∧ T 100 (T 102 p 0) 7 ≤ 400 := bd_f hT 100 7 (by decide +kernel : (tf_ 100)[7]? = some (0, 0, 0, 400)) (T 102 p 0)
  have hb8 : 0 ≤ T 100 (T 102 p 0) 8 ∧ T 100 (T 102 p 0) 8 ≤ 400 := bd_f hT 100 8 (by decide +kernel : (tf_ 100)[8]? = some (0, 0, 0, 400)) (T 102 p 0)
  show J_ zX6_whyNot T (po_X6_whyNot T p q d) 0 0 0 [some (vR 106 0), some (vI q), some (vR 102 p), some (vI d), none, none] [] T
  have c_57 : ∀ (nn : Nat) (k : Int) (T1 : Zt), ((400 - k).toNat) ≤ nn → (fr_ [(533, [])] T T1) → (0 ≤ k) → J_ zX6_whyNot T (po_X6_whyNot T p q d) 0 0 57 [some (vR 106 0), some (vI q), some (vR 102 p), some (vI d), some (vI k), none] [] T1 := by
    intro nn
    induction nn using Nat.strongRecOn with
    | _ nn ih_57 =>
      intro k T1 hm_57 hf_57 i1
      refine j_blx (F := fX6) tb_X6 (nn_ _) bk_X6_whyNot_57 bs_X6_whyNot_57 hz (fun K hK => ?_)
      intro b1 b1b
      have e2 : T1 106 0 4 = T 106 0 4 := hf_57 106 0 4 rfl
      rw [e2] at b1 b1b ⊢
      refine And.intro (fun c3 => ?_) (fun c3 => ?_)
      · refine hK 123 _ [] T1 ?_
        refine j_blx (F := fX6) tb_X6 (nn_ _) bk_X6_whyNot_123 bs_X6_whyNot_123 hz (fun K hK => ?_)
        refine (show po_X6_whyNot T p q d T1 (some (vI 0)) from ?_)
        exact ⟨_, rfl, fr_t (fr_0 _ _) (fr_s hf_57 rfl), by omega⟩
      · refine ix_i (by omega) ?_
        have e5 : T1 523 0 k = T 523 0 k := hf_57 523 0 k rfl
        refine And.intro (fun c4 => ?_) (fun c4 => ?_)
        · exact absurd (show T 523 0 (k) = 0 by omega) (hka.2 _ (by omega) (by omega))
        · intro b6 b6b
          have e7 : T1 102 p 1 = T 102 p 1 := hf_57 102 p 1 rfl
          rw [e7] at b6 b6b ⊢
          refine And.intro (fun c8 => ?_) (fun c8 => ?_)
          · refine hK 117 [some (vR 106 0), some (vI q), some (vR 102 p), some (vI d), some (vI k), some (vR 102 k)] [] T1 ?_
            refine j_blx (F := fX6) tb_X6 (nn_ _) bk_X6_whyNot_117 bs_X6_whyNot_117 hz (fun K hK => ?_)
            refine rg_i (by omega) ?_
            refine hK 57 [some (vR 106 0), some (vI q), some (vR 102 p), some (vI d), some (vI (k + 1)), some (vR 102 k)] [] T1 ?_
            refine j_drop [some (vR 106 0), some (vI q), some (vR 102 p), some (vI d), some (vI (k + 1)), none] (fun k v hk => ?_) rfl ?_
            · match k, hk with
              | 0, hk => exact hk
              | 1, hk => exact hk
              | 2, hk => exact hk
              | 3, hk => exact hk
              | 4, hk => exact hk
              | 5, hk => cases hk
              | k + 6, hk => cases hk
            refine ih_57 _ ?_ (k + 1) T1 (Nat.le_refl _) ?_ ?_
            · omega
            · exact fr_t (fr_0 _ _) (fr_s hf_57 rfl)
            · omega
          · intro b9 b9b
            have e10 : T1 102 k 5 = T 102 k 5 := hf_57 102 k 5 rfl
            rw [e10] at b9 b9b ⊢
            intro b11 b11b
            have e12 : T1 102 p 5 = T 102 p 5 := hf_57 102 p 5 rfl
            rw [e12] at b11 b11b ⊢
            refine And.intro (fun c13 => ?_) (fun c13 => ?_)
            · refine hK 117 [some (vR 106 0), some (vI q), some (vR 102 p), some (vI d), some (vI k), some (vR 102 k)] [] T1 ?_
              refine j_blx (F := fX6) tb_X6 (nn_ _) bk_X6_whyNot_117 bs_X6_whyNot_117 hz (fun K hK => ?_)
              refine rg_i (by omega) ?_
              refine hK 57 [some (vR 106 0), some (vI q), some (vR 102 p), some (vI d), some (vI (k + 1)), some (vR 102 k)] [] T1 ?_
              refine j_drop [some (vR 106 0), some (vI q), some (vR 102 p), some (vI d), some (vI (k + 1)), none] (fun k v hk => ?_) rfl ?_
              · match k, hk with
                | 0, hk => exact hk
                | 1, hk => exact hk
                | 2, hk => exact hk
                | 3, hk => exact hk
                | 4, hk => exact hk
                | 5, hk => cases hk
                | k + 6, hk => cases hk
              refine ih_57 _ ?_ (k + 1) T1 (Nat.le_refl _) ?_ ?_
              · omega
              · exact fr_t (fr_0 _ _) (fr_s hf_57 rfl)
              · omega
            · intro b14 b14b
              have e15 : T1 102 k 6 = T 102 k 6 := hf_57 102 k 6 rfl
              rw [e15] at b14 b14b ⊢
              refine And.intro (fun c16 => ?_) (fun c16 => ?_)
              · refine hK 117 [some (vR 106 0), some (vI q), some (vR 102 p), some (vI d), some (vI k), some (vR 102 k)] [] T1 ?_
                refine j_blx (F := fX6) tb_X6 (nn_ _) bk_X6_whyNot_117 bs_X6_whyNot_117 hz (fun K hK => ?_)
                refine rg_i (by omega) ?_
                refine hK 57 [some (vR 106 0), some (vI q), some (vR 102 p), some (vI d), some (vI (k + 1)), some (vR 102 k)] [] T1 ?_
                refine j_drop [some (vR 106 0), some (vI q), some (vR 102 p), some (vI d), some (vI (k + 1)), none] (fun k v hk => ?_) rfl ?_
                · match k, hk with
                  | 0, hk => exact hk
                  | 1, hk => exact hk
                  | 2, hk => exact hk
                  | 3, hk => exact hk
                  | 4, hk => exact hk
                  | 5, hk => cases hk
                  | k + 6, hk => cases hk
                refine ih_57 _ ?_ (k + 1) T1 (Nat.le_refl _) ?_ ?_
                · omega
                · exact fr_t (fr_0 _ _) (fr_s hf_57 rfl)
                · omega
              · refine hK 108 [some (vR 106 0), some (vI q), some (vR 102 p), some (vI d), some (vI k), some (vR 102 k)] [vI q, vR 102 k] T1 ?_
                refine j_callV (y := yX2_placeOf) (Yc := zX2_placeOf) (rest := []) [vI q] (ct_X2_placeOf (T := T1)) cl_X6_172 (qd_c (by decide +kernel)) (nn_ _) rfl (rf_of rfl) (Nat.le_of_ble_eq_true rfl) (Nat.le_of_ble_eq_true rfl) (Nat.le_of_ble_eq_true rfl) rfl ?_
                rintro _ _ ⟨rfl, x17, rfl, hx17⟩
                show J_ zX6_whyNot T (po_X6_whyNot T p q d) 0 0 111 _ [vI x17] T1
                refine j_blx (F := fX6) tb_X6 (nn_ _) bk_X6_whyNot_111 bs_X6_whyNot_111 hz (fun K hK => ?_)
                refine And.intro (fun c18 => ?_) (fun c18 => ?_)
                · refine hK 117 _ [] T1 ?_
                  refine j_blx (F := fX6) tb_X6 (nn_ _) bk_X6_whyNot_117 bs_X6_whyNot_117 hz (fun K hK => ?_)
                  refine rg_i (by omega) ?_
                  refine hK 57 [some (vR 106 0), some (vI q), some (vR 102 p), some (vI d), some (vI (k + 1)), some (vR 102 k)] [] T1 ?_
                  refine j_drop [some (vR 106 0), some (vI q), some (vR 102 p), some (vI d), some (vI (k + 1)), none] (fun k v hk => ?_) rfl ?_
                  · match k, hk with
                    | 0, hk => exact hk
                    | 1, hk => exact hk
                    | 2, hk => exact hk
                    | 3, hk => exact hk
                    | 4, hk => exact hk
                    | 5, hk => cases hk
                    | k + 6, hk => cases hk
                  refine ih_57 _ ?_ (k + 1) T1 (Nat.le_refl _) ?_ ?_
                  · omega
                  · exact fr_t (fr_0 _ _) (fr_s hf_57 rfl)
                  · omega
                · refine (show po_X6_whyNot T p q d T1 (some (vI 4)) from ?_)
                  exact ⟨_, rfl, fr_t (fr_0 _ _) (fr_s hf_57 rfl), by omega⟩
  refine j_blx (F := fX6) tb_X6 (nn_ _) bk_X6_whyNot_0 bs_X6_whyNot_0 hz (fun K hK => ?_)
  intro b19 b19b
  refine hK 9 _ [vI (T 102 p 5), vI q, vR 108 0] T ?_
  refine j_callV (y := yX8_clubOn) (Yc := zX8_clubOn) (rest := []) [vI q, vI (T 102 p 5)] (ct_X8_clubOn (T := T) (by omega)) cl_X6_165 (qd_c (by decide +kernel)) (nn_ _) rfl (rf_of rfl) (Nat.le_of_ble_eq_true rfl) (Nat.le_of_ble_eq_true rfl) (Nat.le_of_ble_eq_true rfl) rfl ?_
  rintro _ _ ⟨rfl, x20, rfl, hx20⟩
  show J_ zX6_whyNot T (po_X6_whyNot T p q d) 0 0 12 _ [vI x20] T
  refine j_blx (F := fX6) tb_X6 (nn_ _) bk_X6_whyNot_12 bs_X6_whyNot_12 hz (fun K hK => ?_)
  refine And.intro (fun c21 => ?_) (fun c21 => ?_)
  · refine hK 23 _ [vI x20] T ?_
    refine j_blx (F := fX6) tb_X6 (nn_ _) bk_X6_whyNot_23 bs_X6_whyNot_23 hz (fun K hK => ?_)
    intro b22 b22b
    refine And.intro (fun c23 => ?_) (fun c23 => ?_)
    · refine hK 32 _ [] T ?_
      refine j_blx (F := fX6) tb_X6 (nn_ _) bk_X6_whyNot_32 bs_X6_whyNot_32 hz (fun K hK => ?_)
      refine hK 35 _ [vR 102 p, vI q, vR 106 0] T ?_
      refine j_callV (y := yX6_isBanned) (Yc := zX6_isBanned) (rest := []) [vI q, vR 102 p] (ct_X6_isBanned (T := T) (hka) (hkm) (hkc) (by omega) (by omega)) cl_X6_168 (qd_c (by decide +kernel)) (nn_ _) rfl (rf_of rfl) (Nat.le_of_ble_eq_true rfl) (Nat.le_of_ble_eq_true rfl) (Nat.le_of_ble_eq_true rfl) rfl ?_
      rintro U24 _ ⟨x25, rfl, fU24, qU24⟩
      show J_ zX6_whyNot T (po_X6_whyNot T p q d) 0 0 38 _ [vI x25] U24
      refine j_blx (F := fX6) tb_X6 (nn_ _) bk_X6_whyNot_38 bs_X6_whyNot_38 hz (fun K hK => ?_)
      refine And.intro (fun c26 => ?_) (fun c26 => ?_)
      · refine hK 43 _ [] U24 ?_
        refine j_blx (F := fX6) tb_X6 (nn_ _) bk_X6_whyNot_43 bs_X6_whyNot_43 hz (fun K hK => ?_)
        refine hK 45 _ [vI q, vR 102 p] U24 ?_
        refine j_callV (y := yX2_placeOf) (Yc := zX2_placeOf) (rest := []) [vI q] (ct_X2_placeOf (T := U24)) cl_X6_172 (qd_c (by decide +kernel)) (nn_ _) rfl (rf_of rfl) (Nat.le_of_ble_eq_true rfl) (Nat.le_of_ble_eq_true rfl) (Nat.le_of_ble_eq_true rfl) rfl ?_
        rintro _ _ ⟨rfl, x27, rfl, hx27⟩
        show J_ zX6_whyNot T (po_X6_whyNot T p q d) 0 0 48 _ [vI x27] U24
        refine j_blx (F := fX6) tb_X6 (nn_ _) bk_X6_whyNot_48 bs_X6_whyNot_48 hz (fun K hK => ?_)
        refine And.intro (fun c28 => ?_) (fun c28 => ?_)
        · refine hK 54 _ [] U24 ?_
          refine j_blx (F := fX6) tb_X6 (nn_ _) bk_X6_whyNot_54 bs_X6_whyNot_54 hz (fun K hK => ?_)
          refine hK 57 [some (vR 106 0), some (vI q), some (vR 102 p), some (vI d), some (vI 0), none] [] U24 ?_
          refine c_57 _ 0 U24 (Nat.le_refl _) ?_ ?_
          · exact fr_t (fr_0 _ _) (fr_s fU24 rfl)
          · omega
        · refine (show po_X6_whyNot T p q d U24 (some (vI 3)) from ?_)
          exact ⟨_, rfl, fr_t (fr_0 _ _) (fr_s fU24 rfl), by omega⟩
      · refine (show po_X6_whyNot T p q d U24 (some (vI 2)) from ?_)
        exact ⟨_, rfl, fr_t (fr_0 _ _) (fr_s fU24 rfl), by omega⟩
    · refine (show po_X6_whyNot T p q d T (some (vI 1)) from ?_)
      exact ⟨_, rfl, fr_0 _ _, by omega⟩
  · intro b29 b29b
    refine hK 27 _ [vI (T 102 p 3), vI x20] T ?_
    refine j_blx (F := fX6) tb_X6 (nn_ _) bk_X6_whyNot_27 bs_X6_whyNot_27 hz (fun K hK => ?_)
    refine And.intro (fun c30 => ?_) (fun c30 => ?_)
    · refine hK 32 _ [] T ?_
      refine j_blx (F := fX6) tb_X6 (nn_ _) bk_X6_whyNot_32 bs_X6_whyNot_32 hz (fun K hK => ?_)
      refine hK 35 _ [vR 102 p, vI q, vR 106 0] T ?_
      refine j_callV (y := yX6_isBanned) (Yc := zX6_isBanned) (rest := []) [vI q, vR 102 p] (ct_X6_isBanned (T := T) (hka) (hkm) (hkc) (by omega) (by omega)) cl_X6_168 (qd_c (by decide +kernel)) (nn_ _) rfl (rf_of rfl) (Nat.le_of_ble_eq_true rfl) (Nat.le_of_ble_eq_true rfl) (Nat.le_of_ble_eq_true rfl) rfl ?_
      rintro U31 _ ⟨x32, rfl, fU31, qU31⟩
      show J_ zX6_whyNot T (po_X6_whyNot T p q d) 0 0 38 _ [vI x32] U31
      refine j_blx (F := fX6) tb_X6 (nn_ _) bk_X6_whyNot_38 bs_X6_whyNot_38 hz (fun K hK => ?_)
      refine And.intro (fun c33 => ?_) (fun c33 => ?_)
      · refine hK 43 _ [] U31 ?_
        refine j_blx (F := fX6) tb_X6 (nn_ _) bk_X6_whyNot_43 bs_X6_whyNot_43 hz (fun K hK => ?_)
        refine hK 45 _ [vI q, vR 102 p] U31 ?_
        refine j_callV (y := yX2_placeOf) (Yc := zX2_placeOf) (rest := []) [vI q] (ct_X2_placeOf (T := U31)) cl_X6_172 (qd_c (by decide +kernel)) (nn_ _) rfl (rf_of rfl) (Nat.le_of_ble_eq_true rfl) (Nat.le_of_ble_eq_true rfl) (Nat.le_of_ble_eq_true rfl) rfl ?_
        rintro _ _ ⟨rfl, x34, rfl, hx34⟩
        show J_ zX6_whyNot T (po_X6_whyNot T p q d) 0 0 48 _ [vI x34] U31
        refine j_blx (F := fX6) tb_X6 (nn_ _) bk_X6_whyNot_48 bs_X6_whyNot_48 hz (fun K hK => ?_)
        refine And.intro (fun c35 => ?_) (fun c35 => ?_)
        · refine hK 54 _ [] U31 ?_
          refine j_blx (F := fX6) tb_X6 (nn_ _) bk_X6_whyNot_54 bs_X6_whyNot_54 hz (fun K hK => ?_)
          refine hK 57 [some (vR 106 0), some (vI q), some (vR 102 p), some (vI d), some (vI 0), none] [] U31 ?_
          refine c_57 _ 0 U31 (Nat.le_refl _) ?_ ?_
          · exact fr_t (fr_0 _ _) (fr_s fU31 rfl)
          · omega
        · refine (show po_X6_whyNot T p q d U31 (some (vI 3)) from ?_)
          exact ⟨_, rfl, fr_t (fr_0 _ _) (fr_s fU31 rfl), by omega⟩
      · refine (show po_X6_whyNot T p q d U31 (some (vI 2)) from ?_)
        exact ⟨_, rfl, fr_t (fr_0 _ _) (fr_s fU31 rfl), by omega⟩
    · refine (show po_X6_whyNot T p q d T (some (vI 1)) from ?_)
      exact ⟨_, rfl, fr_0 _ _, by omega⟩
abbrev cX10_eligible : ByteArray := prog_1_method_19_code
def yX10_eligible : MethodName := ⟨RX10, "eligible", "(III)I"⟩
def zX10_eligible : Zm := (RX10, cX10_eligible, 4, (some .int), { frames := 5, cells := 0, slots := 0, locals := 122 })
theorem bk_X10_eligible_0 : ck_ fX10 (some .int) cX10_eligible 0 [.aload 0, .iload 1] 2 = true := qck_r (nn_ _) (by decide +kernel)
theorem bs_X10_eligible_0 {P : Zt → Option Zv → Prop} (K : Int → Zl → List Zv → Zt → Prop) : sx_ K P [.aload 0, .iload 1] 2 = x_aload 0 (x_iload 1 (K 2)) := ((xe_aload 0).trans (congrArg (x_aload 0) ((xe_iload 1).trans (congrArg (x_iload 1) xe_nil))))
theorem bk_X10_eligible_5 : ck_ fX10 (some .int) cX10_eligible 5 [.ifCond .eq 16, .aload 0, .iload 2] 10 = true := qck_r (nn_ _) (by decide +kernel)
theorem bs_X10_eligible_5 {P : Zt → Option Zv → Prop} (K : Int → Zl → List Zv → Zt → Prop) : sx_ K P [.ifCond .eq 16, .aload 0, .iload 2] 10 = x_ifCond .eq 16 K (x_aload 0 (x_iload 2 (K 10))) := ((xe_ifCond .eq 16).trans (congrArg (x_ifCond .eq 16 K) ((xe_aload 0).trans (congrArg (x_aload 0) ((xe_iload 2).trans (congrArg (x_iload 2) xe_nil))))))
theorem bk_X10_eligible_16 : ck_ fX10 (some .int) cX10_eligible 16 [.iconst (-2), .ireturn] 19 = true := qck_r (nn_ _) (by decide +kernel)
theorem bs_X10_eligible_16 {P : Zt → Option Zv → Prop} (K : Int → Zl → List Zv → Zt → Prop) : sx_ K P [.iconst (-2), .ireturn] 19 = x_iconst (-2) (x_ireturn P) := ((xe_iconst (-2)).trans (congrArg (x_iconst (-2)) (xe_ireturn)))
theorem bk_X10_eligible_13 : ck_ fX10 (some .int) cX10_eligible 13 [.ifCond .ne 19, .iconst (-2), .ireturn] 19 = true := qck_r (nn_ _) (by decide +kernel)
theorem bs_X10_eligible_13 {P : Zt → Option Zv → Prop} (K : Int → Zl → List Zv → Zt → Prop) : sx_ K P [.ifCond .ne 19, .iconst (-2), .ireturn] 19 = x_ifCond .ne 19 K (x_iconst (-2) (x_ireturn P)) := ((xe_ifCond .ne 19).trans (congrArg (x_ifCond .ne 19 K) ((xe_iconst (-2)).trans (congrArg (x_iconst (-2)) (xe_ireturn)))))
theorem bk_X10_eligible_19 : ck_ fX10 (some .int) cX10_eligible 19 [.iload 3] 20 = true := qck_r (nn_ _) (by decide +kernel)
theorem bs_X10_eligible_19 {P : Zt → Option Zv → Prop} (K : Int → Zl → List Zv → Zt → Prop) : sx_ K P [.iload 3] 20 = x_iload 3 (K 20) := ((xe_iload 3).trans (congrArg (x_iload 3) xe_nil))
set_option maxRecDepth 100000 in
theorem cl_X10_251 : cs_ RX10 251 yX10_isSide zX10_isSide 1 := ⟨gi_S (lw_b4 135 (by decide +kernel) rfl : Cond.methodLink RX10 251 yX10_isSide ∈ lw_g) (lw_b4 136 (by decide +kernel) rfl : Cond.static yX10_isSide ∈ lw_g) (lw_b1 1 (by decide +kernel) rfl : Cond.initialized yX10_isSide.cls ∈ lw_g) (lw_b4 137 rfl rfl : Cond.code yX10_isSide cX10_isSide 1 (some .boolean) ∈ lw_g), ⟨by decide, by decide, by decide +kernel⟩⟩
theorem bk_X10_eligible_23 : ck_ fX10 (some .int) cX10_eligible 23 [.ifCond .ne 29, .iconst (-3), .ireturn] 29 = true := qck_r (nn_ _) (by decide +kernel)
theorem bs_X10_eligible_23 {P : Zt → Option Zv → Prop} (K : Int → Zl → List Zv → Zt → Prop) : sx_ K P [.ifCond .ne 29, .iconst (-3), .ireturn] 29 = x_ifCond .ne 29 K (x_iconst (-3) (x_ireturn P)) := ((xe_ifCond .ne 29).trans (congrArg (x_ifCond .ne 29 K) ((xe_iconst (-3)).trans (congrArg (x_iconst (-3)) (xe_ireturn)))))
theorem bk_X10_eligible_29 : ck_ fX10 (some .int) cX10_eligible 29 [.aload 0, .tableswitch 0 10 2 #[], .iload 1, .aload 0, .tableswitch 0 10 2 #[], .tableswitch 0 6 3 #[], .iload 2, .aaload, .iload 3] 44 = true := qck_r (nn_ _) (by decide +kernel)
theorem bs_X10_eligible_29 {P : Zt → Option Zv → Prop} (K : Int → Zl → List Zv → Zt → Prop) : sx_ K P [.aload 0, .tableswitch 0 10 2 #[], .iload 1, .aload 0, .tableswitch 0 10 2 #[], .tableswitch 0 6 3 #[], .iload 2, .aaload, .iload 3] 44 = x_aload 0 (x_g1 110 106 (x_iload 1 (x_aload 0 (x_g1 110 106 (x_g1 106 523 (x_iload 2 (x_aaload (x_iload 3 (K 44))))))))) := ((xe_aload 0).trans (congrArg (x_aload 0) ((xe_g1 (kk := 110) rfl tl_10_2).trans (congrArg (x_g1 110 106) ((xe_iload 1).trans (congrArg (x_iload 1) ((xe_aload 0).trans (congrArg (x_aload 0) ((xe_g1 (kk := 110) rfl tl_10_2).trans (congrArg (x_g1 110 106) ((xe_g1 (kk := 106) rfl tl_6_3).trans (congrArg (x_g1 106 523) ((xe_iload 2).trans (congrArg (x_iload 2) ((xe_aaload).trans (congrArg (x_aaload) ((xe_iload 3).trans (congrArg (x_iload 3) xe_nil))))))))))))))))))
set_option maxRecDepth 100000 in
theorem cl_X10_254 : cv_ RX10 254 yX6_whyNot zX6_whyNot 6 3 := ⟨gi_V (lw_b4 138 (by decide +kernel) rfl : Cond.methodLink RX10 254 yX6_whyNot ∈ lw_g) (lw_b4 139 (by decide +kernel) rfl : Cond.instanceMethod yX6_whyNot ∈ lw_g) (lw_b4 140 (by decide +kernel) rfl : Cond.selects yX6_whyNot.cls yX6_whyNot yX6_whyNot ∈ lw_g) (lw_b1 4 (by decide +kernel) rfl : Cond.initialized yX6_whyNot.cls ∈ lw_g) (lw_b4 141 rfl rfl : Cond.code yX6_whyNot cX6_whyNot 6 (some .int) ∈ lw_g), ⟨by decide, by decide, by decide +kernel⟩, ⟨_, _, rfl⟩⟩
theorem bk_X10_eligible_47 : ck_ fX10 (some .int) cX10_eligible 47 [.ireturn] 48 = true := qck_r (nn_ _) (by decide +kernel)
theorem bs_X10_eligible_47 {P : Zt → Option Zv → Prop} (K : Int → Zl → List Zv → Zt → Prop) : sx_ K P [.ireturn] 48 = x_ireturn P := (xe_ireturn)
abbrev po_X10_eligible (T : Zt) (q m d : Int) : Zt → Option Zv → Prop := fun T' r => ∃ x : Int, r = some (vI x) ∧ fr_ [(533, [])] T T' ∧ (x = x)
set_option maxHeartbeats 4000000 in
theorem ct_X10_eligible {T : Zt} {q m d : Int} (hka : KA_ T) (hkm : KM_ T) (hkc : KC_ T) : Ct_ yX10_eligible zX10_eligible T [vR 110 0, vI q, vI m, vI d] (po_X10_eligible T q m d) := by
  refine ct_of pn_10 rfl rfl (Nat.le_of_ble_eq_true rfl) (fun hT hav => ?_)
  have hr_q : -2147483648 ≤ q ∧ q ≤ 2147483647 := hav (vI q) (by simp)
  have hr_m : -2147483648 ≤ m ∧ m ≤ 2147483647 := hav (vI m) (by simp)
  have hr_d : -2147483648 ≤ d ∧ d ≤ 2147483647 := hav (vI d) (by simp)
  have hz : zX10_eligible.2.2.2.1 = some .boolean → ∀ (T' : Zt) (x : Int), po_X10_eligible T q m d T' (some (vI x)) → 0 ≤ x ∧ x ≤ 1 := fun h => by cases h
  have hb_matchCount : 0 ≤ T 106 0 4 ∧ T 106 0 4 ≤ 400 := bd_f hT 106 4 (by decide +kernel : (tf_ 106)[4]? = some (0, 0, 0, 400)) 0
  have hb_persons : 0 ≤ T 108 0 3 ∧ T 108 0 3 ≤ 200 := bd_f hT 108 3 (by decide +kernel : (tf_ 108)[3]? = some (0, 0, 0, 200)) 0
  show J_ zX10_eligible T (po_X10_eligible T q m d) 0 0 0 [some (vR 110 0), some (vI q), some (vI m), some (vI d)] [] T
  refine j_blx (F := fX10) tb_X10 (nn_ _) bk_X10_eligible_0 bs_X10_eligible_0 hz (fun K hK => ?_)
  refine hK 2 _ [vI q, vR 110 0] T ?_
  refine j_callV (y := yX10_isPerson) (Yc := zX10_isPerson) (rest := []) [vI q] (ct_X10_isPerson (T := T)) cl_X10_134 (qd_c (by decide +kernel)) (nn_ _) rfl (rf_of rfl) (Nat.le_of_ble_eq_true rfl) (Nat.le_of_ble_eq_true rfl) (Nat.le_of_ble_eq_true rfl) rfl ?_
  rintro _ _ ⟨rfl, x1, rfl, hx1⟩
  show J_ zX10_eligible T (po_X10_eligible T q m d) 0 0 5 _ [vI x1] T
  refine j_blx (F := fX10) tb_X10 (nn_ _) bk_X10_eligible_5 bs_X10_eligible_5 hz (fun K hK => ?_)
  refine And.intro (fun c2 => ?_) (fun c2 => ?_)
  · refine hK 16 _ [] T ?_
    refine j_blx (F := fX10) tb_X10 (nn_ _) bk_X10_eligible_16 bs_X10_eligible_16 hz (fun K hK => ?_)
    refine (show po_X10_eligible T q m d T (some (vI (-2))) from ?_)
    exact ⟨_, rfl, fr_0 _ _, by rfl⟩
  · refine hK 10 _ [vI m, vR 110 0] T ?_
    refine j_callV (y := yX10_isMatch) (Yc := zX10_isMatch) (rest := []) [vI m] (ct_X10_isMatch (T := T)) cl_X10_195 (qd_c (by decide +kernel)) (nn_ _) rfl (rf_of rfl) (Nat.le_of_ble_eq_true rfl) (Nat.le_of_ble_eq_true rfl) (Nat.le_of_ble_eq_true rfl) rfl ?_
    rintro _ _ ⟨rfl, x3, rfl, hx3⟩
    show J_ zX10_eligible T (po_X10_eligible T q m d) 0 0 13 _ [vI x3] T
    refine j_blx (F := fX10) tb_X10 (nn_ _) bk_X10_eligible_13 bs_X10_eligible_13 hz (fun K hK => ?_)
    refine And.intro (fun c4 => ?_) (fun c4 => ?_)
    · refine hK 19 _ [] T ?_
      refine j_blx (F := fX10) tb_X10 (nn_ _) bk_X10_eligible_19 bs_X10_eligible_19 hz (fun K hK => ?_)
      refine hK 20 _ [vI d] T ?_
      refine j_callS (y := yX10_isSide) (Yc := zX10_isSide) (rest := []) [vI d] (ct_X10_isSide (T := T)) cl_X10_251 (qd_c (by decide +kernel)) (nn_ _) rfl (rf_of rfl) (Nat.le_of_ble_eq_true rfl) (Nat.le_of_ble_eq_true rfl) (Nat.le_of_ble_eq_true rfl) rfl ?_
      rintro _ _ ⟨rfl, x5, rfl, hx5⟩
      show J_ zX10_eligible T (po_X10_eligible T q m d) 0 0 23 _ [vI x5] T
      refine j_blx (F := fX10) tb_X10 (nn_ _) bk_X10_eligible_23 bs_X10_eligible_23 hz (fun K hK => ?_)
      refine And.intro (fun c6 => ?_) (fun c6 => ?_)
      · refine hK 29 _ [] T ?_
        refine j_blx (F := fX10) tb_X10 (nn_ _) bk_X10_eligible_29 bs_X10_eligible_29 hz (fun K hK => ?_)
        refine ix_i (by omega) ?_
        refine And.intro (fun c7 => ?_) (fun c7 => ?_)
        · exact absurd (show T 523 0 (m) = 0 by omega) (hka.2 _ (by omega) (by omega))
        · refine hK 44 _ [vI d, vR 102 m, vI q, vR 106 0] T ?_
          refine j_callV (y := yX6_whyNot) (Yc := zX6_whyNot) (rest := []) [vI q, vR 102 m, vI d] (ct_X6_whyNot (T := T) (hka) (hkm) (hkc) (by omega) (by omega)) cl_X10_254 (qd_c (by decide +kernel)) (nn_ _) rfl (rf_of rfl) (Nat.le_of_ble_eq_true rfl) (Nat.le_of_ble_eq_true rfl) (Nat.le_of_ble_eq_true rfl) rfl ?_
          rintro U8 _ ⟨x9, rfl, fU8, qU8⟩
          show J_ zX10_eligible T (po_X10_eligible T q m d) 0 0 47 _ [vI x9] U8
          refine j_blx (F := fX10) tb_X10 (nn_ _) bk_X10_eligible_47 bs_X10_eligible_47 hz (fun K hK => ?_)
          refine (show po_X10_eligible T q m d U8 (some (vI x9)) from ?_)
          exact ⟨_, rfl, fr_t (fr_0 _ _) (fr_s fU8 rfl), by rfl⟩
      · refine (show po_X10_eligible T q m d T (some (vI (-3))) from ?_)
        exact ⟨_, rfl, fr_0 _ _, by rfl⟩
    · refine (show po_X10_eligible T q m d T (some (vI (-2))) from ?_)
      exact ⟨_, rfl, fr_0 _ _, by rfl⟩
abbrev cX10_match : ByteArray := prog_1_method_14_code
def yX10_match : MethodName := ⟨RX10, "match", "(II)I"⟩
def zX10_match : Zm := (RX10, cX10_match, 4, (some .int), { frames := 2, cells := 0, slots := 0, locals := 42 })
theorem bk_X10_match_0 : ck_ fX10 (some .int) cX10_match 0 [.aload 0, .iload 1] 2 = true := qck_r (nn_ _) (by decide +kernel)
theorem bs_X10_match_0 {P : Zt → Option Zv → Prop} (K : Int → Zl → List Zv → Zt → Prop) : sx_ K P [.aload 0, .iload 1] 2 = x_aload 0 (x_iload 1 (K 2)) := ((xe_aload 0).trans (congrArg (x_aload 0) ((xe_iload 1).trans (congrArg (x_iload 1) xe_nil))))
theorem bk_X10_match_5 : ck_ fX10 (some .int) cX10_match 5 [.ifCond .ne 11, .iconst (-2), .ireturn] 11 = true := qck_r (nn_ _) (by decide +kernel)
theorem bs_X10_match_5 {P : Zt → Option Zv → Prop} (K : Int → Zl → List Zv → Zt → Prop) : sx_ K P [.ifCond .ne 11, .iconst (-2), .ireturn] 11 = x_ifCond .ne 11 K (x_iconst (-2) (x_ireturn P)) := ((xe_ifCond .ne 11).trans (congrArg (x_ifCond .ne 11 K) ((xe_iconst (-2)).trans (congrArg (x_iconst (-2)) (xe_ireturn)))))
theorem bk_X10_match_11 : ck_ fX10 (some .int) cX10_match 11 [.aload 0, .tableswitch 0 10 2 #[], .tableswitch 0 6 3 #[], .iload 1, .aaload, .astore 3, .iload 2] 22 = true := qck_r (nn_ _) (by decide +kernel)
theorem bs_X10_match_11 {P : Zt → Option Zv → Prop} (K : Int → Zl → List Zv → Zt → Prop) : sx_ K P [.aload 0, .tableswitch 0 10 2 #[], .tableswitch 0 6 3 #[], .iload 1, .aaload, .astore 3, .iload 2] 22 = x_aload 0 (x_g1 110 106 (x_g1 106 523 (x_iload 1 (x_aaload (x_astore 3 (x_iload 2 (K 22))))))) := ((xe_aload 0).trans (congrArg (x_aload 0) ((xe_g1 (kk := 110) rfl tl_10_2).trans (congrArg (x_g1 110 106) ((xe_g1 (kk := 106) rfl tl_6_3).trans (congrArg (x_g1 106 523) ((xe_iload 1).trans (congrArg (x_iload 1) ((xe_aaload).trans (congrArg (x_aaload) ((xe_astore 3).trans (congrArg (x_astore 3) ((xe_iload 2).trans (congrArg (x_iload 2) xe_nil))))))))))))))
theorem ds_X10_match_22 : decode cX10_match 22 = .ok (.tableswitch 91 0 7 #[46, 54, 59, 64, 69, 74, 79, 85], 46) := by decide +kernel
theorem bk_X10_match_68 : ck_ fX10 (some .int) cX10_match 68 [.aload 3, .tableswitch 0 2 0 #[], .tableswitch 0 0 0 #[], .ireturn] 76 = true := qck_r (nn_ _) (by decide +kernel)
theorem bs_X10_match_68 {P : Zt → Option Zv → Prop} (K : Int → Zl → List Zv → Zt → Prop) : sx_ K P [.aload 3, .tableswitch 0 2 0 #[], .tableswitch 0 0 0 #[], .ireturn] 76 = x_aload 3 (x_g3 102 100 0 (x_g0 100 0 0 3 (x_ireturn P))) := ((xe_aload 3).trans (congrArg (x_aload 3) ((xe_g3 (kk := 102) rfl tl_2_0).trans (congrArg (x_g3 102 100 0) ((xe_g0 (kk := 100) rfl tl_0_0).trans (congrArg (x_g0 100 0 0 3) (xe_ireturn)))))))
theorem bk_X10_match_76 : ck_ fX10 (some .int) cX10_match 76 [.aload 3, .tableswitch 0 2 2 #[], .ireturn] 81 = true := qck_r (nn_ _) (by decide +kernel)
theorem bs_X10_match_76 {P : Zt → Option Zv → Prop} (K : Int → Zl → List Zv → Zt → Prop) : sx_ K P [.aload 3, .tableswitch 0 2 2 #[], .ireturn] 81 = x_aload 3 (x_g0 102 2 (-2147483648) 2147483647 (x_ireturn P)) := ((xe_aload 3).trans (congrArg (x_aload 3) ((xe_g0 (kk := 102) rfl tl_2_2).trans (congrArg (x_g0 102 2 (-2147483648) 2147483647) (xe_ireturn)))))
theorem bk_X10_match_81 : ck_ fX10 (some .int) cX10_match 81 [.aload 3, .tableswitch 0 2 3 #[], .ireturn] 86 = true := qck_r (nn_ _) (by decide +kernel)
theorem bs_X10_match_81 {P : Zt → Option Zv → Prop} (K : Int → Zl → List Zv → Zt → Prop) : sx_ K P [.aload 3, .tableswitch 0 2 3 #[], .ireturn] 86 = x_aload 3 (x_g0 102 3 0 11 (x_ireturn P)) := ((xe_aload 3).trans (congrArg (x_aload 3) ((xe_g0 (kk := 102) rfl tl_2_3).trans (congrArg (x_g0 102 3 0 11) (xe_ireturn)))))
theorem bk_X10_match_86 : ck_ fX10 (some .int) cX10_match 86 [.aload 3, .tableswitch 0 2 4 #[], .ireturn] 91 = true := qck_r (nn_ _) (by decide +kernel)
theorem bs_X10_match_86 {P : Zt → Option Zv → Prop} (K : Int → Zl → List Zv → Zt → Prop) : sx_ K P [.aload 3, .tableswitch 0 2 4 #[], .ireturn] 91 = x_aload 3 (x_g0 102 4 0 11 (x_ireturn P)) := ((xe_aload 3).trans (congrArg (x_aload 3) ((xe_g0 (kk := 102) rfl tl_2_4).trans (congrArg (x_g0 102 4 0 11) (xe_ireturn)))))
theorem bk_X10_match_91 : ck_ fX10 (some .int) cX10_match 91 [.aload 3, .tableswitch 0 2 5 #[], .ireturn] 96 = true := qck_r (nn_ _) (by decide +kernel)
theorem bs_X10_match_91 {P : Zt → Option Zv → Prop} (K : Int → Zl → List Zv → Zt → Prop) : sx_ K P [.aload 3, .tableswitch 0 2 5 #[], .ireturn] 96 = x_aload 3 (x_g0 102 5 0 999 (x_ireturn P)) := ((xe_aload 3).trans (congrArg (x_aload 3) ((xe_g0 (kk := 102) rfl tl_2_5).trans (congrArg (x_g0 102 5 0 999) (xe_ireturn)))))
theorem bk_X10_match_96 : ck_ fX10 (some .int) cX10_match 96 [.aload 3] 97 = true := qck_r (nn_ _) (by decide +kernel)
theorem bs_X10_match_96 {P : Zt → Option Zv → Prop} (K : Int → Zl → List Zv → Zt → Prop) : sx_ K P [.aload 3] 97 = x_aload 3 (K 97) := ((xe_aload 3).trans (congrArg (x_aload 3) xe_nil))
set_option maxRecDepth 100000 in
theorem cl_X10_223 : cv_ RX10 223 yX2_phaseOfLife zX2_phaseOfLife 2 0 := ⟨gi_V (lw_b4 57 (by decide +kernel) rfl : Cond.methodLink RX10 223 yX2_phaseOfLife ∈ lw_g) (lw_b4 58 (by decide +kernel) rfl : Cond.instanceMethod yX2_phaseOfLife ∈ lw_g) (lw_b4 59 (by decide +kernel) rfl : Cond.selects yX2_phaseOfLife.cls yX2_phaseOfLife yX2_phaseOfLife ∈ lw_g) (lw_b1 16 (by decide +kernel) rfl : Cond.initialized yX2_phaseOfLife.cls ∈ lw_g) (lw_b4 60 rfl rfl : Cond.code yX2_phaseOfLife cX2_phaseOfLife 1 (some .int) ∈ lw_g), ⟨by decide, by decide, by decide +kernel⟩, ⟨_, _, rfl⟩⟩
theorem bk_X10_match_100 : ck_ fX10 (some .int) cX10_match 100 [.ireturn] 101 = true := qck_r (nn_ _) (by decide +kernel)
theorem bs_X10_match_100 {P : Zt → Option Zv → Prop} (K : Int → Zl → List Zv → Zt → Prop) : sx_ K P [.ireturn] 101 = x_ireturn P := (xe_ireturn)
theorem bk_X10_match_101 : ck_ fX10 (some .int) cX10_match 101 [.aload 3, .iconst 0] 103 = true := qck_r (nn_ _) (by decide +kernel)
theorem bs_X10_match_101 {P : Zt → Option Zv → Prop} (K : Int → Zl → List Zv → Zt → Prop) : sx_ K P [.aload 3, .iconst 0] 103 = x_aload 3 (x_iconst 0 (K 103)) := ((xe_aload 3).trans (congrArg (x_aload 3) ((xe_iconst 0).trans (congrArg (x_iconst 0) xe_nil))))
set_option maxRecDepth 100000 in
theorem cl_X10_226 : cv_ RX10 226 yX2_scoreOf zX2_scoreOf 2 1 := ⟨gi_V (lw_b4 61 (by decide +kernel) rfl : Cond.methodLink RX10 226 yX2_scoreOf ∈ lw_g) (lw_b4 62 (by decide +kernel) rfl : Cond.instanceMethod yX2_scoreOf ∈ lw_g) (lw_b4 63 (by decide +kernel) rfl : Cond.selects yX2_scoreOf.cls yX2_scoreOf yX2_scoreOf ∈ lw_g) (lw_b1 16 (by decide +kernel) rfl : Cond.initialized yX2_scoreOf.cls ∈ lw_g) (lw_b4 64 rfl rfl : Cond.code yX2_scoreOf cX2_scoreOf 2 (some .int) ∈ lw_g), ⟨by decide, by decide, by decide +kernel⟩, ⟨_, _, rfl⟩⟩
theorem bk_X10_match_106 : ck_ fX10 (some .int) cX10_match 106 [.ireturn] 107 = true := qck_r (nn_ _) (by decide +kernel)
theorem bs_X10_match_106 {P : Zt → Option Zv → Prop} (K : Int → Zl → List Zv → Zt → Prop) : sx_ K P [.ireturn] 107 = x_ireturn P := (xe_ireturn)
theorem bk_X10_match_107 : ck_ fX10 (some .int) cX10_match 107 [.aload 3, .iconst 1] 109 = true := qck_r (nn_ _) (by decide +kernel)
theorem bs_X10_match_107 {P : Zt → Option Zv → Prop} (K : Int → Zl → List Zv → Zt → Prop) : sx_ K P [.aload 3, .iconst 1] 109 = x_aload 3 (x_iconst 1 (K 109)) := ((xe_aload 3).trans (congrArg (x_aload 3) ((xe_iconst 1).trans (congrArg (x_iconst 1) xe_nil))))
theorem bk_X10_match_112 : ck_ fX10 (some .int) cX10_match 112 [.ireturn] 113 = true := qck_r (nn_ _) (by decide +kernel)
theorem bs_X10_match_112 {P : Zt → Option Zv → Prop} (K : Int → Zl → List Zv → Zt → Prop) : sx_ K P [.ireturn] 113 = x_ireturn P := (xe_ireturn)
theorem bk_X10_match_113 : ck_ fX10 (some .int) cX10_match 113 [.iconst (-3), .ireturn] 116 = true := qck_r (nn_ _) (by decide +kernel)
theorem bs_X10_match_113 {P : Zt → Option Zv → Prop} (K : Int → Zl → List Zv → Zt → Prop) : sx_ K P [.iconst (-3), .ireturn] 116 = x_iconst (-3) (x_ireturn P) := ((xe_iconst (-3)).trans (congrArg (x_iconst (-3)) (xe_ireturn)))
abbrev po_X10_match (T : Zt) (m w : Int) : Zt → Option Zv → Prop := fun T' r => T = T' ∧ ∃ x : Int, r = some (vI x) ∧ (True)
set_option maxHeartbeats 4000000 in
theorem ct_X10_match {T : Zt} {m w : Int} (hka : KA_ T) : Ct_ yX10_match zX10_match T [vR 110 0, vI m, vI w] (po_X10_match T m w) := by
  refine ct_of pn_10 rfl rfl (Nat.le_of_ble_eq_true rfl) (fun hT hav => ?_)
  have hr_m : -2147483648 ≤ m ∧ m ≤ 2147483647 := hav (vI m) (by simp)
  have hr_w : -2147483648 ≤ w ∧ w ≤ 2147483647 := hav (vI w) (by simp)
  have hz : zX10_match.2.2.2.1 = some .boolean → ∀ (T' : Zt) (x : Int), po_X10_match T m w T' (some (vI x)) → 0 ≤ x ∧ x ≤ 1 := fun h => by cases h
  have hb_matchCount : 0 ≤ T 106 0 4 ∧ T 106 0 4 ≤ 400 := bd_f hT 106 4 (by decide +kernel : (tf_ 106)[4]? = some (0, 0, 0, 400)) 0
  show J_ zX10_match T (po_X10_match T m w) 0 0 0 [some (vR 110 0), some (vI m), some (vI w), none] [] T
  refine j_blx (F := fX10) tb_X10 (nn_ _) bk_X10_match_0 bs_X10_match_0 hz (fun K hK => ?_)
  refine hK 2 _ [vI m, vR 110 0] T ?_
  refine j_callV (y := yX10_isMatch) (Yc := zX10_isMatch) (rest := []) [vI m] (ct_X10_isMatch (T := T)) cl_X10_195 (qd_c (by decide +kernel)) (nn_ _) rfl (rf_of rfl) (Nat.le_of_ble_eq_true rfl) (Nat.le_of_ble_eq_true rfl) (Nat.le_of_ble_eq_true rfl) rfl ?_
  rintro _ _ ⟨rfl, x1, rfl, hx1⟩
  show J_ zX10_match T (po_X10_match T m w) 0 0 5 _ [vI x1] T
  refine j_blx (F := fX10) tb_X10 (nn_ _) bk_X10_match_5 bs_X10_match_5 hz (fun K hK => ?_)
  refine And.intro (fun c2 => ?_) (fun c2 => ?_)
  · refine hK 11 _ [] T ?_
    refine j_blx (F := fX10) tb_X10 (nn_ _) bk_X10_match_11 bs_X10_match_11 hz (fun K hK => ?_)
    refine ix_i (by omega) ?_
    refine And.intro (fun c3 => ?_) (fun c3 => ?_)
    · exact absurd (show T 523 0 (m) = 0 by omega) (hka.2 _ (by omega) (by omega))
    · refine hK 22 [some (vR 110 0), some (vI m), some (vI w), some (vR 102 m)] [vI w] T ?_
      by_cases z4_0 : w = 0
      · refine j_tsI (pc := 22) 0 (off := 46) (tgt := 68) (by decide) ds_X10_match_22 (by omega) (by decide) rfl (by decide) (by decide) ?_
        refine j_blx (F := fX10) tb_X10 (nn_ _) bk_X10_match_68 bs_X10_match_68 hz (fun K hK => ?_)
        intro b6 b6b
        refine (show po_X10_match T m w T (some (vI (T 100 (T 102 m 0) 0))) from ?_)
        exact ⟨rfl, _, rfl, by trivial⟩
      by_cases z4_1 : w = 1
      · refine j_tsI (pc := 22) 1 (off := 54) (tgt := 76) (by decide) ds_X10_match_22 (by omega) (by decide) rfl (by decide) (by decide) ?_
        refine j_blx (F := fX10) tb_X10 (nn_ _) bk_X10_match_76 bs_X10_match_76 hz (fun K hK => ?_)
        intro b7 b7b
        refine (show po_X10_match T m w T (some (vI (T 102 m 2))) from ?_)
        exact ⟨rfl, _, rfl, by trivial⟩
      by_cases z4_2 : w = 2
      · refine j_tsI (pc := 22) 2 (off := 59) (tgt := 81) (by decide) ds_X10_match_22 (by omega) (by decide) rfl (by decide) (by decide) ?_
        refine j_blx (F := fX10) tb_X10 (nn_ _) bk_X10_match_81 bs_X10_match_81 hz (fun K hK => ?_)
        intro b8 b8b
        refine (show po_X10_match T m w T (some (vI (T 102 m 3))) from ?_)
        exact ⟨rfl, _, rfl, by trivial⟩
      by_cases z4_3 : w = 3
      · refine j_tsI (pc := 22) 3 (off := 64) (tgt := 86) (by decide) ds_X10_match_22 (by omega) (by decide) rfl (by decide) (by decide) ?_
        refine j_blx (F := fX10) tb_X10 (nn_ _) bk_X10_match_86 bs_X10_match_86 hz (fun K hK => ?_)
        intro b9 b9b
        refine (show po_X10_match T m w T (some (vI (T 102 m 4))) from ?_)
        exact ⟨rfl, _, rfl, by trivial⟩
      by_cases z4_4 : w = 4
      · refine j_tsI (pc := 22) 4 (off := 69) (tgt := 91) (by decide) ds_X10_match_22 (by omega) (by decide) rfl (by decide) (by decide) ?_
        refine j_blx (F := fX10) tb_X10 (nn_ _) bk_X10_match_91 bs_X10_match_91 hz (fun K hK => ?_)
        intro b10 b10b
        refine (show po_X10_match T m w T (some (vI (T 102 m 5))) from ?_)
        exact ⟨rfl, _, rfl, by trivial⟩
      by_cases z4_5 : w = 5
      · refine j_tsI (pc := 22) 5 (off := 74) (tgt := 96) (by decide) ds_X10_match_22 (by omega) (by decide) rfl (by decide) (by decide) ?_
        refine j_blx (F := fX10) tb_X10 (nn_ _) bk_X10_match_96 bs_X10_match_96 hz (fun K hK => ?_)
        refine hK 97 _ [vR 102 m] T ?_
        refine j_callV (y := yX2_phaseOfLife) (Yc := zX2_phaseOfLife) (rest := []) [] (ct_X2_phaseOfLife (T := T)) cl_X10_223 (qd_c (by decide +kernel)) (nn_ _) rfl (rf_of rfl) (Nat.le_of_ble_eq_true rfl) (Nat.le_of_ble_eq_true rfl) (Nat.le_of_ble_eq_true rfl) rfl ?_
        rintro _ _ ⟨rfl, x11, rfl, hx11⟩
        show J_ zX10_match T (po_X10_match T m w) 0 0 100 _ [vI x11] T
        refine j_blx (F := fX10) tb_X10 (nn_ _) bk_X10_match_100 bs_X10_match_100 hz (fun K hK => ?_)
        refine (show po_X10_match T m w T (some (vI x11)) from ?_)
        exact ⟨rfl, _, rfl, by trivial⟩
      by_cases z4_6 : w = 6
      · refine j_tsI (pc := 22) 6 (off := 79) (tgt := 101) (by decide) ds_X10_match_22 (by omega) (by decide) rfl (by decide) (by decide) ?_
        refine j_blx (F := fX10) tb_X10 (nn_ _) bk_X10_match_101 bs_X10_match_101 hz (fun K hK => ?_)
        refine hK 103 _ [vI 0, vR 102 m] T ?_
        refine j_callV (y := yX2_scoreOf) (Yc := zX2_scoreOf) (rest := []) [vI 0] (ct_X2_scoreOf (T := T) (by omega)) cl_X10_226 (qd_c (by decide +kernel)) (nn_ _) rfl (rf_of rfl) (Nat.le_of_ble_eq_true rfl) (Nat.le_of_ble_eq_true rfl) (Nat.le_of_ble_eq_true rfl) rfl ?_
        rintro _ _ ⟨rfl, x12, rfl, hx12⟩
        show J_ zX10_match T (po_X10_match T m w) 0 0 106 _ [vI x12] T
        refine j_blx (F := fX10) tb_X10 (nn_ _) bk_X10_match_106 bs_X10_match_106 hz (fun K hK => ?_)
        refine (show po_X10_match T m w T (some (vI x12)) from ?_)
        exact ⟨rfl, _, rfl, by trivial⟩
      by_cases z4_7 : w = 7
      · refine j_tsI (pc := 22) 7 (off := 85) (tgt := 107) (by decide) ds_X10_match_22 (by omega) (by decide) rfl (by decide) (by decide) ?_
        refine j_blx (F := fX10) tb_X10 (nn_ _) bk_X10_match_107 bs_X10_match_107 hz (fun K hK => ?_)
        refine hK 109 _ [vI 1, vR 102 m] T ?_
        refine j_callV (y := yX2_scoreOf) (Yc := zX2_scoreOf) (rest := []) [vI 1] (ct_X2_scoreOf (T := T) (by omega)) cl_X10_226 (qd_c (by decide +kernel)) (nn_ _) rfl (rf_of rfl) (Nat.le_of_ble_eq_true rfl) (Nat.le_of_ble_eq_true rfl) (Nat.le_of_ble_eq_true rfl) rfl ?_
        rintro _ _ ⟨rfl, x13, rfl, hx13⟩
        show J_ zX10_match T (po_X10_match T m w) 0 0 112 _ [vI x13] T
        refine j_blx (F := fX10) tb_X10 (nn_ _) bk_X10_match_112 bs_X10_match_112 hz (fun K hK => ?_)
        refine (show po_X10_match T m w T (some (vI x13)) from ?_)
        exact ⟨rfl, _, rfl, by trivial⟩
      refine j_tsO (pc := 22) (tgt := 113) (by decide) ds_X10_match_22 (by omega) (by decide) (by decide) ?_
      refine j_blx (F := fX10) tb_X10 (nn_ _) bk_X10_match_113 bs_X10_match_113 hz (fun K hK => ?_)
      refine (show po_X10_match T m w T (some (vI (-3))) from ?_)
      exact ⟨rfl, _, rfl, by trivial⟩
  · refine (show po_X10_match T m w T (some (vI (-2))) from ?_)
    exact ⟨rfl, _, rfl, by trivial⟩
abbrev cX10_walkOver : ByteArray := prog_1_method_22_code
def yX10_walkOver : MethodName := ⟨RX10, "walkOver", "(II)I"⟩
def zX10_walkOver : Zm := (RX10, cX10_walkOver, 4, (some .int), { frames := 2, cells := 0, slots := 0, locals := 42 })
theorem bk_X10_walkOver_0 : ck_ fX10 (some .int) cX10_walkOver 0 [.aload 0, .iload 1] 2 = true := qck_r (nn_ _) (by decide +kernel)
theorem bs_X10_walkOver_0 {P : Zt → Option Zv → Prop} (K : Int → Zl → List Zv → Zt → Prop) : sx_ K P [.aload 0, .iload 1] 2 = x_aload 0 (x_iload 1 (K 2)) := ((xe_aload 0).trans (congrArg (x_aload 0) ((xe_iload 1).trans (congrArg (x_iload 1) xe_nil))))
theorem bk_X10_walkOver_5 : ck_ fX10 (some .int) cX10_walkOver 5 [.ifCond .ne 11, .iconst (-2), .ireturn] 11 = true := qck_r (nn_ _) (by decide +kernel)
theorem bs_X10_walkOver_5 {P : Zt → Option Zv → Prop} (K : Int → Zl → List Zv → Zt → Prop) : sx_ K P [.ifCond .ne 11, .iconst (-2), .ireturn] 11 = x_ifCond .ne 11 K (x_iconst (-2) (x_ireturn P)) := ((xe_ifCond .ne 11).trans (congrArg (x_ifCond .ne 11 K) ((xe_iconst (-2)).trans (congrArg (x_iconst (-2)) (xe_ireturn)))))
theorem bk_X10_walkOver_11 : ck_ fX10 (some .int) cX10_walkOver 11 [.iload 2] 12 = true := qck_r (nn_ _) (by decide +kernel)
theorem bs_X10_walkOver_11 {P : Zt → Option Zv → Prop} (K : Int → Zl → List Zv → Zt → Prop) : sx_ K P [.iload 2] 12 = x_iload 2 (K 12) := ((xe_iload 2).trans (congrArg (x_iload 2) xe_nil))
theorem bk_X10_walkOver_15 : ck_ fX10 (some .int) cX10_walkOver 15 [.ifCond .ne 21, .iconst (-3), .ireturn] 21 = true := qck_r (nn_ _) (by decide +kernel)
theorem bs_X10_walkOver_15 {P : Zt → Option Zv → Prop} (K : Int → Zl → List Zv → Zt → Prop) : sx_ K P [.ifCond .ne 21, .iconst (-3), .ireturn] 21 = x_ifCond .ne 21 K (x_iconst (-3) (x_ireturn P)) := ((xe_ifCond .ne 21).trans (congrArg (x_ifCond .ne 21 K) ((xe_iconst (-3)).trans (congrArg (x_iconst (-3)) (xe_ireturn)))))
theorem bk_X10_walkOver_21 : ck_ fX10 (some .int) cX10_walkOver 21 [.aload 0, .tableswitch 0 10 2 #[], .tableswitch 0 6 3 #[], .iload 1, .aaload, .astore 3, .aload 3] 32 = true := qck_r (nn_ _) (by decide +kernel)
theorem bs_X10_walkOver_21 {P : Zt → Option Zv → Prop} (K : Int → Zl → List Zv → Zt → Prop) : sx_ K P [.aload 0, .tableswitch 0 10 2 #[], .tableswitch 0 6 3 #[], .iload 1, .aaload, .astore 3, .aload 3] 32 = x_aload 0 (x_g1 110 106 (x_g1 106 523 (x_iload 1 (x_aaload (x_astore 3 (x_aload 3 (K 32))))))) := ((xe_aload 0).trans (congrArg (x_aload 0) ((xe_g1 (kk := 110) rfl tl_10_2).trans (congrArg (x_g1 110 106) ((xe_g1 (kk := 106) rfl tl_6_3).trans (congrArg (x_g1 106 523) ((xe_iload 1).trans (congrArg (x_iload 1) ((xe_aaload).trans (congrArg (x_aaload) ((xe_astore 3).trans (congrArg (x_astore 3) ((xe_aload 3).trans (congrArg (x_aload 3) xe_nil))))))))))))))
theorem bk_X10_walkOver_35 : ck_ fX10 (some .int) cX10_walkOver 35 [.ifCond .ne 52, .aload 3, .tableswitch 0 2 5 #[], .aload 0, .tableswitch 0 10 1 #[], .tableswitch 0 8 13 #[], .if_icmp .le 55, .iconst (-4), .ireturn] 55 = true := qck_r (nn_ _) (by decide +kernel)
theorem bs_X10_walkOver_35 {P : Zt → Option Zv → Prop} (K : Int → Zl → List Zv → Zt → Prop) : sx_ K P [.ifCond .ne 52, .aload 3, .tableswitch 0 2 5 #[], .aload 0, .tableswitch 0 10 1 #[], .tableswitch 0 8 13 #[], .if_icmp .le 55, .iconst (-4), .ireturn] 55 = x_ifCond .ne 52 K (x_aload 3 (x_g0 102 5 0 999 (x_aload 0 (x_g1 110 108 (x_g0 108 13 0 999 (x_if_icmp .le 55 K (x_iconst (-4) (x_ireturn P)))))))) := ((xe_ifCond .ne 52).trans (congrArg (x_ifCond .ne 52 K) ((xe_aload 3).trans (congrArg (x_aload 3) ((xe_g0 (kk := 102) rfl tl_2_5).trans (congrArg (x_g0 102 5 0 999) ((xe_aload 0).trans (congrArg (x_aload 0) ((xe_g1 (kk := 110) rfl tl_10_1).trans (congrArg (x_g1 110 108) ((xe_g0 (kk := 108) rfl tl_8_13).trans (congrArg (x_g0 108 13 0 999) ((xe_if_icmp .le 55).trans (congrArg (x_if_icmp .le 55 K) ((xe_iconst (-4)).trans (congrArg (x_iconst (-4)) (xe_ireturn)))))))))))))))))
theorem bk_X10_walkOver_52 : ck_ fX10 (some .int) cX10_walkOver 52 [.iconst (-4), .ireturn] 55 = true := qck_r (nn_ _) (by decide +kernel)
theorem bs_X10_walkOver_52 {P : Zt → Option Zv → Prop} (K : Int → Zl → List Zv → Zt → Prop) : sx_ K P [.iconst (-4), .ireturn] 55 = x_iconst (-4) (x_ireturn P) := ((xe_iconst (-4)).trans (congrArg (x_iconst (-4)) (xe_ireturn)))
theorem bk_X10_walkOver_55 : ck_ fX10 (some .int) cX10_walkOver 55 [.aload 3, .iload 2, .tableswitch 1 2 6 #[], .iconst 1, .ireturn] 62 = true := qck_r (nn_ _) (by decide +kernel)
theorem bs_X10_walkOver_55 {P : Zt → Option Zv → Prop} (K : Int → Zl → List Zv → Zt → Prop) : sx_ K P [.aload 3, .iload 2, .tableswitch 1 2 6 #[], .iconst 1, .ireturn] 62 = x_aload 3 (x_iload 2 (x_p 102 6 (-1) 1 (x_iconst 1 (x_ireturn P)))) := ((xe_aload 3).trans (congrArg (x_aload 3) ((xe_iload 2).trans (congrArg (x_iload 2) ((xe_p (kk := 102) rfl tl_2_6).trans (congrArg (x_p 102 6 (-1) 1) ((xe_iconst 1).trans (congrArg (x_iconst 1) (xe_ireturn)))))))))
abbrev cX10_rows : ByteArray := prog_1_method_25_code
def yX10_rows : MethodName := ⟨RX10, "rows", "(II)I"⟩
def zX10_rows : Zm := (RX10, cX10_rows, 4, (some .int), { frames := 2, cells := 0, slots := 0, locals := 42 })
theorem bk_X10_rows_0 : ck_ fX10 (some .int) cX10_rows 0 [.aload 0, .iload 1] 2 = true := qck_r (nn_ _) (by decide +kernel)
theorem bs_X10_rows_0 {P : Zt → Option Zv → Prop} (K : Int → Zl → List Zv → Zt → Prop) : sx_ K P [.aload 0, .iload 1] 2 = x_aload 0 (x_iload 1 (K 2)) := ((xe_aload 0).trans (congrArg (x_aload 0) ((xe_iload 1).trans (congrArg (x_iload 1) xe_nil))))
theorem bk_X10_rows_5 : ck_ fX10 (some .int) cX10_rows 5 [.ifCond .ne 11, .iconst (-2), .ireturn] 11 = true := qck_r (nn_ _) (by decide +kernel)
theorem bs_X10_rows_5 {P : Zt → Option Zv → Prop} (K : Int → Zl → List Zv → Zt → Prop) : sx_ K P [.ifCond .ne 11, .iconst (-2), .ireturn] 11 = x_ifCond .ne 11 K (x_iconst (-2) (x_ireturn P)) := ((xe_ifCond .ne 11).trans (congrArg (x_ifCond .ne 11 K) ((xe_iconst (-2)).trans (congrArg (x_iconst (-2)) (xe_ireturn)))))
theorem bk_X10_rows_11 : ck_ fX10 (some .int) cX10_rows 11 [.iload 2, .ifCond .lt 20, .iload 2, .iconst 1, .if_icmp .le 23, .iconst (-3), .ireturn] 23 = true := qck_r (nn_ _) (by decide +kernel)
theorem bs_X10_rows_11 {P : Zt → Option Zv → Prop} (K : Int → Zl → List Zv → Zt → Prop) : sx_ K P [.iload 2, .ifCond .lt 20, .iload 2, .iconst 1, .if_icmp .le 23, .iconst (-3), .ireturn] 23 = x_iload 2 (x_ifCond .lt 20 K (x_iload 2 (x_iconst 1 (x_if_icmp .le 23 K (x_iconst (-3) (x_ireturn P)))))) := ((xe_iload 2).trans (congrArg (x_iload 2) ((xe_ifCond .lt 20).trans (congrArg (x_ifCond .lt 20 K) ((xe_iload 2).trans (congrArg (x_iload 2) ((xe_iconst 1).trans (congrArg (x_iconst 1) ((xe_if_icmp .le 23).trans (congrArg (x_if_icmp .le 23 K) ((xe_iconst (-3)).trans (congrArg (x_iconst (-3)) (xe_ireturn)))))))))))))
theorem bk_X10_rows_20 : ck_ fX10 (some .int) cX10_rows 20 [.iconst (-3), .ireturn] 23 = true := qck_r (nn_ _) (by decide +kernel)
theorem bs_X10_rows_20 {P : Zt → Option Zv → Prop} (K : Int → Zl → List Zv → Zt → Prop) : sx_ K P [.iconst (-3), .ireturn] 23 = x_iconst (-3) (x_ireturn P) := ((xe_iconst (-3)).trans (congrArg (x_iconst (-3)) (xe_ireturn)))
theorem bk_X10_rows_23 : ck_ fX10 (some .int) cX10_rows 23 [.aload 0, .tableswitch 0 10 2 #[], .tableswitch 0 6 3 #[], .iload 1, .aaload, .tableswitch 0 2 10 #[], .astore 3, .aload 3, .ifnonnull 42, .iconst 0, .ireturn] 42 = true := qck_r (nn_ _) (by decide +kernel)
theorem bs_X10_rows_23 {P : Zt → Option Zv → Prop} (K : Int → Zl → List Zv → Zt → Prop) : sx_ K P [.aload 0, .tableswitch 0 10 2 #[], .tableswitch 0 6 3 #[], .iload 1, .aaload, .tableswitch 0 2 10 #[], .astore 3, .aload 3, .ifnonnull 42, .iconst 0, .ireturn] 42 = x_aload 0 (x_g1 110 106 (x_g1 106 523 (x_iload 1 (x_aaload (x_g4 102 103 10 (x_astore 3 (x_aload 3 (x_ifnonnull 42 K (x_iconst 0 (x_ireturn P)))))))))) := ((xe_aload 0).trans (congrArg (x_aload 0) ((xe_g1 (kk := 110) rfl tl_10_2).trans (congrArg (x_g1 110 106) ((xe_g1 (kk := 106) rfl tl_6_3).trans (congrArg (x_g1 106 523) ((xe_iload 1).trans (congrArg (x_iload 1) ((xe_aaload).trans (congrArg (x_aaload) ((xe_g4 (kk := 102) rfl tl_2_10).trans (congrArg (x_g4 102 103 10) ((xe_astore 3).trans (congrArg (x_astore 3) ((xe_aload 3).trans (congrArg (x_aload 3) ((xe_ifnonnull 42).trans (congrArg (x_ifnonnull 42 K) ((xe_iconst 0).trans (congrArg (x_iconst 0) (xe_ireturn)))))))))))))))))))))
theorem bk_X10_rows_42 : ck_ fX10 (some .int) cX10_rows 42 [.iload 2, .ifCond .ne 53, .aload 3, .tableswitch 0 3 15 #[], .goto 57] 53 = true := qck_r (nn_ _) (by decide +kernel)
theorem bs_X10_rows_42 {P : Zt → Option Zv → Prop} (K : Int → Zl → List Zv → Zt → Prop) : sx_ K P [.iload 2, .ifCond .ne 53, .aload 3, .tableswitch 0 3 15 #[], .goto 57] 53 = x_iload 2 (x_ifCond .ne 53 K (x_aload 3 (x_g0 103 15 0 3000 (x_goto 57 K)))) := ((xe_iload 2).trans (congrArg (x_iload 2) ((xe_ifCond .ne 53).trans (congrArg (x_ifCond .ne 53 K) ((xe_aload 3).trans (congrArg (x_aload 3) ((xe_g0 (kk := 103) rfl tl_3_15).trans (congrArg (x_g0 103 15 0 3000) (xe_goto 57)))))))))
theorem bk_X10_rows_53 : ck_ fX10 (some .int) cX10_rows 53 [.aload 3, .tableswitch 0 3 17 #[], .ireturn] 58 = true := qck_r (nn_ _) (by decide +kernel)
theorem bs_X10_rows_53 {P : Zt → Option Zv → Prop} (K : Int → Zl → List Zv → Zt → Prop) : sx_ K P [.aload 3, .tableswitch 0 3 17 #[], .ireturn] 58 = x_aload 3 (x_g0 103 17 0 3000 (x_ireturn P)) := ((xe_aload 3).trans (congrArg (x_aload 3) ((xe_g0 (kk := 103) rfl tl_3_17).trans (congrArg (x_g0 103 17 0 3000) (xe_ireturn)))))
theorem bk_X10_rows_57 : ck_ fX10 (some .int) cX10_rows 57 [.ireturn] 58 = true := qck_r (nn_ _) (by decide +kernel)
theorem bs_X10_rows_57 {P : Zt → Option Zv → Prop} (K : Int → Zl → List Zv → Zt → Prop) : sx_ K P [.ireturn] 58 = x_ireturn P := (xe_ireturn)
abbrev po_X10_rows (T : Zt) (m w : Int) : Zt → Option Zv → Prop := fun T' r => T = T' ∧ ∃ x : Int, r = some (vI x) ∧ (True)
set_option maxHeartbeats 4000000 in
theorem ct_X10_rows {T : Zt} {m w : Int} (hka : KA_ T) : Ct_ yX10_rows zX10_rows T [vR 110 0, vI m, vI w] (po_X10_rows T m w) := by
  refine ct_of pn_10 rfl rfl (Nat.le_of_ble_eq_true rfl) (fun hT hav => ?_)
  have hr_m : -2147483648 ≤ m ∧ m ≤ 2147483647 := hav (vI m) (by simp)
  have hr_w : -2147483648 ≤ w ∧ w ≤ 2147483647 := hav (vI w) (by simp)
  have hz : zX10_rows.2.2.2.1 = some .boolean → ∀ (T' : Zt) (x : Int), po_X10_rows T m w T' (some (vI x)) → 0 ≤ x ∧ x ≤ 1 := fun h => by cases h
  have hb_matchCount : 0 ≤ T 106 0 4 ∧ T 106 0 4 ≤ 400 := bd_f hT 106 4 (by decide +kernel : (tf_ 106)[4]? = some (0, 0, 0, 400)) 0
  show J_ zX10_rows T (po_X10_rows T m w) 0 0 0 [some (vR 110 0), some (vI m), some (vI w), none] [] T
  refine j_blx (F := fX10) tb_X10 (nn_ _) bk_X10_rows_0 bs_X10_rows_0 hz (fun K hK => ?_)
  refine hK 2 _ [vI m, vR 110 0] T ?_
  refine j_callV (y := yX10_isMatch) (Yc := zX10_isMatch) (rest := []) [vI m] (ct_X10_isMatch (T := T)) cl_X10_195 (qd_c (by decide +kernel)) (nn_ _) rfl (rf_of rfl) (Nat.le_of_ble_eq_true rfl) (Nat.le_of_ble_eq_true rfl) (Nat.le_of_ble_eq_true rfl) rfl ?_
  rintro _ _ ⟨rfl, x1, rfl, hx1⟩
  show J_ zX10_rows T (po_X10_rows T m w) 0 0 5 _ [vI x1] T
  refine j_blx (F := fX10) tb_X10 (nn_ _) bk_X10_rows_5 bs_X10_rows_5 hz (fun K hK => ?_)
  refine And.intro (fun c2 => ?_) (fun c2 => ?_)
  · refine hK 11 _ [] T ?_
    refine j_blx (F := fX10) tb_X10 (nn_ _) bk_X10_rows_11 bs_X10_rows_11 hz (fun K hK => ?_)
    refine And.intro (fun c3 => ?_) (fun c3 => ?_)
    · refine hK 20 _ [] T ?_
      refine j_blx (F := fX10) tb_X10 (nn_ _) bk_X10_rows_20 bs_X10_rows_20 hz (fun K hK => ?_)
      refine (show po_X10_rows T m w T (some (vI (-3))) from ?_)
      exact ⟨rfl, _, rfl, by trivial⟩
    · refine And.intro (fun c4 => ?_) (fun c4 => ?_)
      · refine hK 23 _ [] T ?_
        refine j_blx (F := fX10) tb_X10 (nn_ _) bk_X10_rows_23 bs_X10_rows_23 hz (fun K hK => ?_)
        refine ix_i (by omega) ?_
        refine And.intro (fun c5 => ?_) (fun c5 => ?_)
        · exact absurd (show T 523 0 (m) = 0 by omega) (hka.2 _ (by omega) (by omega))
        · refine And.intro (fun c6 => ?_) (fun c6 => ?_)
          · refine (show po_X10_rows T m w T (some (vI 0)) from ?_)
            exact ⟨rfl, _, rfl, by trivial⟩
          · refine hK 42 [some (vR 110 0), some (vI m), some (vI w), some (vR 103 m)] [] T ?_
            refine j_blx (F := fX10) tb_X10 (nn_ _) bk_X10_rows_42 bs_X10_rows_42 hz (fun K hK => ?_)
            refine And.intro (fun c7 => ?_) (fun c7 => ?_)
            · refine hK 53 _ [] T ?_
              refine j_blx (F := fX10) tb_X10 (nn_ _) bk_X10_rows_53 bs_X10_rows_53 hz (fun K hK => ?_)
              intro b8 b8b
              refine (show po_X10_rows T m w T (some (vI (T 103 m 17))) from ?_)
              exact ⟨rfl, _, rfl, by trivial⟩
            · intro b9 b9b
              refine hK 57 _ [vI (T 103 m 15)] T ?_
              refine j_blx (F := fX10) tb_X10 (nn_ _) bk_X10_rows_57 bs_X10_rows_57 hz (fun K hK => ?_)
              refine (show po_X10_rows T m w T (some (vI (T 103 m 15))) from ?_)
              exact ⟨rfl, _, rfl, by trivial⟩
      · refine (show po_X10_rows T m w T (some (vI (-3))) from ?_)
        exact ⟨rfl, _, rfl, by trivial⟩
  · refine (show po_X10_rows T m w T (some (vI (-2))) from ?_)
    exact ⟨rfl, _, rfl, by trivial⟩
abbrev cX10_state : ByteArray := prog_1_method_27_code
def yX10_state : MethodName := ⟨RX10, "state", "(II)I"⟩
def zX10_state : Zm := (RX10, cX10_state, 4, (some .int), { frames := 2, cells := 0, slots := 0, locals := 42 })
theorem bk_X10_state_0 : ck_ fX10 (some .int) cX10_state 0 [.aload 0, .iload 1] 2 = true := qck_r (nn_ _) (by decide +kernel)
theorem bs_X10_state_0 {P : Zt → Option Zv → Prop} (K : Int → Zl → List Zv → Zt → Prop) : sx_ K P [.aload 0, .iload 1] 2 = x_aload 0 (x_iload 1 (K 2)) := ((xe_aload 0).trans (congrArg (x_aload 0) ((xe_iload 1).trans (congrArg (x_iload 1) xe_nil))))
theorem bk_X10_state_5 : ck_ fX10 (some .int) cX10_state 5 [.ifCond .ne 11, .iconst (-2), .ireturn] 11 = true := qck_r (nn_ _) (by decide +kernel)
theorem bs_X10_state_5 {P : Zt → Option Zv → Prop} (K : Int → Zl → List Zv → Zt → Prop) : sx_ K P [.ifCond .ne 11, .iconst (-2), .ireturn] 11 = x_ifCond .ne 11 K (x_iconst (-2) (x_ireturn P)) := ((xe_ifCond .ne 11).trans (congrArg (x_ifCond .ne 11 K) ((xe_iconst (-2)).trans (congrArg (x_iconst (-2)) (xe_ireturn)))))
theorem bk_X10_state_11 : ck_ fX10 (some .int) cX10_state 11 [.iload 2, .ifCond .lt 21, .iload 2, .iconst 7, .if_icmp .le 24, .iconst (-3), .ireturn] 24 = true := qck_r (nn_ _) (by decide +kernel)
theorem bs_X10_state_11 {P : Zt → Option Zv → Prop} (K : Int → Zl → List Zv → Zt → Prop) : sx_ K P [.iload 2, .ifCond .lt 21, .iload 2, .iconst 7, .if_icmp .le 24, .iconst (-3), .ireturn] 24 = x_iload 2 (x_ifCond .lt 21 K (x_iload 2 (x_iconst 7 (x_if_icmp .le 24 K (x_iconst (-3) (x_ireturn P)))))) := ((xe_iload 2).trans (congrArg (x_iload 2) ((xe_ifCond .lt 21).trans (congrArg (x_ifCond .lt 21 K) ((xe_iload 2).trans (congrArg (x_iload 2) ((xe_iconst 7).trans (congrArg (x_iconst 7) ((xe_if_icmp .le 24).trans (congrArg (x_if_icmp .le 24 K) ((xe_iconst (-3)).trans (congrArg (x_iconst (-3)) (xe_ireturn)))))))))))))
theorem bk_X10_state_21 : ck_ fX10 (some .int) cX10_state 21 [.iconst (-3), .ireturn] 24 = true := qck_r (nn_ _) (by decide +kernel)
theorem bs_X10_state_21 {P : Zt → Option Zv → Prop} (K : Int → Zl → List Zv → Zt → Prop) : sx_ K P [.iconst (-3), .ireturn] 24 = x_iconst (-3) (x_ireturn P) := ((xe_iconst (-3)).trans (congrArg (x_iconst (-3)) (xe_ireturn)))
theorem bk_X10_state_24 : ck_ fX10 (some .int) cX10_state 24 [.aload 0, .tableswitch 0 10 2 #[], .tableswitch 0 6 3 #[], .iload 1, .aaload, .tableswitch 0 2 10 #[], .astore 3, .aload 3, .ifnonnull 44, .iconst (-4), .ireturn] 44 = true := qck_r (nn_ _) (by decide +kernel)
theorem bs_X10_state_24 {P : Zt → Option Zv → Prop} (K : Int → Zl → List Zv → Zt → Prop) : sx_ K P [.aload 0, .tableswitch 0 10 2 #[], .tableswitch 0 6 3 #[], .iload 1, .aaload, .tableswitch 0 2 10 #[], .astore 3, .aload 3, .ifnonnull 44, .iconst (-4), .ireturn] 44 = x_aload 0 (x_g1 110 106 (x_g1 106 523 (x_iload 1 (x_aaload (x_g4 102 103 10 (x_astore 3 (x_aload 3 (x_ifnonnull 44 K (x_iconst (-4) (x_ireturn P)))))))))) := ((xe_aload 0).trans (congrArg (x_aload 0) ((xe_g1 (kk := 110) rfl tl_10_2).trans (congrArg (x_g1 110 106) ((xe_g1 (kk := 106) rfl tl_6_3).trans (congrArg (x_g1 106 523) ((xe_iload 1).trans (congrArg (x_iload 1) ((xe_aaload).trans (congrArg (x_aaload) ((xe_g4 (kk := 102) rfl tl_2_10).trans (congrArg (x_g4 102 103 10) ((xe_astore 3).trans (congrArg (x_astore 3) ((xe_aload 3).trans (congrArg (x_aload 3) ((xe_ifnonnull 44).trans (congrArg (x_ifnonnull 44 K) ((xe_iconst (-4)).trans (congrArg (x_iconst (-4)) (xe_ireturn)))))))))))))))))))))
theorem bk_X10_state_44 : ck_ fX10 (some .int) cX10_state 44 [.iload 2] 45 = true := qck_r (nn_ _) (by decide +kernel)
theorem bs_X10_state_44 {P : Zt → Option Zv → Prop} (K : Int → Zl → List Zv → Zt → Prop) : sx_ K P [.iload 2] 45 = x_iload 2 (K 45) := ((xe_iload 2).trans (congrArg (x_iload 2) xe_nil))
theorem ds_X10_state_45 : decode cX10_state 45 = .ok (.tableswitch 67 0 5 #[39, 44, 44, 53, 53, 62], 39) := by decide +kernel
theorem bk_X10_state_84 : ck_ fX10 (some .int) cX10_state 84 [.aload 3, .tableswitch 0 3 4 #[], .ireturn] 89 = true := qck_r (nn_ _) (by decide +kernel)
theorem bs_X10_state_84 {P : Zt → Option Zv → Prop} (K : Int → Zl → List Zv → Zt → Prop) : sx_ K P [.aload 3, .tableswitch 0 3 4 #[], .ireturn] 89 = x_aload 3 (x_g0 103 4 (-2147483648) 2147483647 (x_ireturn P)) := ((xe_aload 3).trans (congrArg (x_aload 3) ((xe_g0 (kk := 103) rfl tl_3_4).trans (congrArg (x_g0 103 4 (-2147483648) 2147483647) (xe_ireturn)))))
theorem bk_X10_state_89 : ck_ fX10 (some .int) cX10_state 89 [.aload 3, .tableswitch 0 3 6 #[], .iload 2, .iconst 1, .isub, .iaload, .ireturn] 98 = true := qck_r (nn_ _) (by decide +kernel)
theorem bs_X10_state_89 {P : Zt → Option Zv → Prop} (K : Int → Zl → List Zv → Zt → Prop) : sx_ K P [.aload 3, .tableswitch 0 3 6 #[], .iload 2, .iconst 1, .isub, .iaload, .ireturn] 98 = x_aload 3 (x_g2 103 466 (x_iload 2 (x_iconst 1 (x_isub (x_iaload (x_ireturn P)))))) := ((xe_aload 3).trans (congrArg (x_aload 3) ((xe_g2 (kk := 103) rfl tl_3_6).trans (congrArg (x_g2 103 466) ((xe_iload 2).trans (congrArg (x_iload 2) ((xe_iconst 1).trans (congrArg (x_iconst 1) ((xe_isub).trans (congrArg (x_isub) ((xe_iaload).trans (congrArg (x_iaload) (xe_ireturn)))))))))))))
theorem bk_X10_state_98 : ck_ fX10 (some .int) cX10_state 98 [.aload 3, .tableswitch 0 3 7 #[], .iload 2, .iconst 3, .isub, .iaload, .ireturn] 107 = true := qck_r (nn_ _) (by decide +kernel)
theorem bs_X10_state_98 {P : Zt → Option Zv → Prop} (K : Int → Zl → List Zv → Zt → Prop) : sx_ K P [.aload 3, .tableswitch 0 3 7 #[], .iload 2, .iconst 3, .isub, .iaload, .ireturn] 107 = x_aload 3 (x_g2 103 467 (x_iload 2 (x_iconst 3 (x_isub (x_iaload (x_ireturn P)))))) := ((xe_aload 3).trans (congrArg (x_aload 3) ((xe_g2 (kk := 103) rfl tl_3_7).trans (congrArg (x_g2 103 467) ((xe_iload 2).trans (congrArg (x_iload 2) ((xe_iconst 3).trans (congrArg (x_iconst 3) ((xe_isub).trans (congrArg (x_isub) ((xe_iaload).trans (congrArg (x_iaload) (xe_ireturn)))))))))))))
theorem bk_X10_state_107 : ck_ fX10 (some .int) cX10_state 107 [.aload 3, .tableswitch 0 3 5 #[], .ireturn] 112 = true := qck_r (nn_ _) (by decide +kernel)
theorem bs_X10_state_107 {P : Zt → Option Zv → Prop} (K : Int → Zl → List Zv → Zt → Prop) : sx_ K P [.aload 3, .tableswitch 0 3 5 #[], .ireturn] 112 = x_aload 3 (x_g0 103 5 0 1 (x_ireturn P)) := ((xe_aload 3).trans (congrArg (x_aload 3) ((xe_g0 (kk := 103) rfl tl_3_5).trans (congrArg (x_g0 103 5 0 1) (xe_ireturn)))))
theorem bk_X10_state_112 : ck_ fX10 (some .int) cX10_state 112 [.aload 3, .tableswitch 0 3 9 #[], .iload 2, .iconst 6, .isub, .iaload, .ireturn] 122 = true := qck_r (nn_ _) (by decide +kernel)
theorem bs_X10_state_112 {P : Zt → Option Zv → Prop} (K : Int → Zl → List Zv → Zt → Prop) : sx_ K P [.aload 3, .tableswitch 0 3 9 #[], .iload 2, .iconst 6, .isub, .iaload, .ireturn] 122 = x_aload 3 (x_g2 103 469 (x_iload 2 (x_iconst 6 (x_isub (x_iaload (x_ireturn P)))))) := ((xe_aload 3).trans (congrArg (x_aload 3) ((xe_g2 (kk := 103) rfl tl_3_9).trans (congrArg (x_g2 103 469) ((xe_iload 2).trans (congrArg (x_iload 2) ((xe_iconst 6).trans (congrArg (x_iconst 6) ((xe_isub).trans (congrArg (x_isub) ((xe_iaload).trans (congrArg (x_iaload) (xe_ireturn)))))))))))))
abbrev po_X10_state (T : Zt) (m w : Int) : Zt → Option Zv → Prop := fun T' r => T = T' ∧ ∃ x : Int, r = some (vI x) ∧ (True)
set_option maxHeartbeats 4000000 in
theorem ct_X10_state {T : Zt} {m w : Int} (hka : KA_ T) : Ct_ yX10_state zX10_state T [vR 110 0, vI m, vI w] (po_X10_state T m w) := by
  refine ct_of pn_10 rfl rfl (Nat.le_of_ble_eq_true rfl) (fun hT hav => ?_)
  have hr_m : -2147483648 ≤ m ∧ m ≤ 2147483647 := hav (vI m) (by simp)
  have hr_w : -2147483648 ≤ w ∧ w ≤ 2147483647 := hav (vI w) (by simp)
  have hz : zX10_state.2.2.2.1 = some .boolean → ∀ (T' : Zt) (x : Int), po_X10_state T m w T' (some (vI x)) → 0 ≤ x ∧ x ≤ 1 := fun h => by cases h
  have hb_matchCount : 0 ≤ T 106 0 4 ∧ T 106 0 4 ≤ 400 := bd_f hT 106 4 (by decide +kernel : (tf_ 106)[4]? = some (0, 0, 0, 400)) 0
  show J_ zX10_state T (po_X10_state T m w) 0 0 0 [some (vR 110 0), some (vI m), some (vI w), none] [] T
  refine j_blx (F := fX10) tb_X10 (nn_ _) bk_X10_state_0 bs_X10_state_0 hz (fun K hK => ?_)
  refine hK 2 _ [vI m, vR 110 0] T ?_
  refine j_callV (y := yX10_isMatch) (Yc := zX10_isMatch) (rest := []) [vI m] (ct_X10_isMatch (T := T)) cl_X10_195 (qd_c (by decide +kernel)) (nn_ _) rfl (rf_of rfl) (Nat.le_of_ble_eq_true rfl) (Nat.le_of_ble_eq_true rfl) (Nat.le_of_ble_eq_true rfl) rfl ?_
  rintro _ _ ⟨rfl, x1, rfl, hx1⟩
  show J_ zX10_state T (po_X10_state T m w) 0 0 5 _ [vI x1] T
  refine j_blx (F := fX10) tb_X10 (nn_ _) bk_X10_state_5 bs_X10_state_5 hz (fun K hK => ?_)
  refine And.intro (fun c2 => ?_) (fun c2 => ?_)
  · refine hK 11 _ [] T ?_
    refine j_blx (F := fX10) tb_X10 (nn_ _) bk_X10_state_11 bs_X10_state_11 hz (fun K hK => ?_)
    refine And.intro (fun c3 => ?_) (fun c3 => ?_)
    · refine hK 21 _ [] T ?_
      refine j_blx (F := fX10) tb_X10 (nn_ _) bk_X10_state_21 bs_X10_state_21 hz (fun K hK => ?_)
      refine (show po_X10_state T m w T (some (vI (-3))) from ?_)
      exact ⟨rfl, _, rfl, by trivial⟩
    · refine And.intro (fun c4 => ?_) (fun c4 => ?_)
      · refine hK 24 _ [] T ?_
        refine j_blx (F := fX10) tb_X10 (nn_ _) bk_X10_state_24 bs_X10_state_24 hz (fun K hK => ?_)
        refine ix_i (by omega) ?_
        refine And.intro (fun c5 => ?_) (fun c5 => ?_)
        · exact absurd (show T 523 0 (m) = 0 by omega) (hka.2 _ (by omega) (by omega))
        · refine And.intro (fun c6 => ?_) (fun c6 => ?_)
          · refine (show po_X10_state T m w T (some (vI (-4))) from ?_)
            exact ⟨rfl, _, rfl, by trivial⟩
          · refine hK 44 [some (vR 110 0), some (vI m), some (vI w), some (vR 103 m)] [] T ?_
            refine j_blx (F := fX10) tb_X10 (nn_ _) bk_X10_state_44 bs_X10_state_44 hz (fun K hK => ?_)
            refine hK 45 _ [vI w] T ?_
            by_cases z7_0 : w = 0
            · refine j_tsI (pc := 45) 0 (off := 39) (tgt := 84) (by decide) ds_X10_state_45 (by omega) (by decide) rfl (by decide) (by decide) ?_
              refine j_blx (F := fX10) tb_X10 (nn_ _) bk_X10_state_84 bs_X10_state_84 hz (fun K hK => ?_)
              intro b8 b8b
              refine (show po_X10_state T m w T (some (vI (T 103 m 4))) from ?_)
              exact ⟨rfl, _, rfl, by trivial⟩
            by_cases z7_1 : w = 1
            · refine j_tsI (pc := 45) 1 (off := 44) (tgt := 89) (by decide) ds_X10_state_45 (by omega) (by decide) rfl (by decide) (by decide) ?_
              refine j_blx (F := fX10) tb_X10 (nn_ _) bk_X10_state_89 bs_X10_state_89 hz (fun K hK => ?_)
              refine rg_i (by omega) ?_
              refine ix_i (by omega) ?_
              intro b9 b9b
              refine (show po_X10_state T m w T (some (vI (T 466 m (w - 1)))) from ?_)
              exact ⟨rfl, _, rfl, by trivial⟩
            by_cases z7_2 : w = 2
            · refine j_tsI (pc := 45) 2 (off := 44) (tgt := 89) (by decide) ds_X10_state_45 (by omega) (by decide) rfl (by decide) (by decide) ?_
              refine j_blx (F := fX10) tb_X10 (nn_ _) bk_X10_state_89 bs_X10_state_89 hz (fun K hK => ?_)
              refine rg_i (by omega) ?_
              refine ix_i (by omega) ?_
              intro b10 b10b
              refine (show po_X10_state T m w T (some (vI (T 466 m (w - 1)))) from ?_)
              exact ⟨rfl, _, rfl, by trivial⟩
            by_cases z7_3 : w = 3
            · refine j_tsI (pc := 45) 3 (off := 53) (tgt := 98) (by decide) ds_X10_state_45 (by omega) (by decide) rfl (by decide) (by decide) ?_
              refine j_blx (F := fX10) tb_X10 (nn_ _) bk_X10_state_98 bs_X10_state_98 hz (fun K hK => ?_)
              refine rg_i (by omega) ?_
              refine ix_i (by omega) ?_
              intro b11 b11b
              refine (show po_X10_state T m w T (some (vI (T 467 m (w - 3)))) from ?_)
              exact ⟨rfl, _, rfl, by trivial⟩
            by_cases z7_4 : w = 4
            · refine j_tsI (pc := 45) 4 (off := 53) (tgt := 98) (by decide) ds_X10_state_45 (by omega) (by decide) rfl (by decide) (by decide) ?_
              refine j_blx (F := fX10) tb_X10 (nn_ _) bk_X10_state_98 bs_X10_state_98 hz (fun K hK => ?_)
              refine rg_i (by omega) ?_
              refine ix_i (by omega) ?_
              intro b12 b12b
              refine (show po_X10_state T m w T (some (vI (T 467 m (w - 3)))) from ?_)
              exact ⟨rfl, _, rfl, by trivial⟩
            by_cases z7_5 : w = 5
            · refine j_tsI (pc := 45) 5 (off := 62) (tgt := 107) (by decide) ds_X10_state_45 (by omega) (by decide) rfl (by decide) (by decide) ?_
              refine j_blx (F := fX10) tb_X10 (nn_ _) bk_X10_state_107 bs_X10_state_107 hz (fun K hK => ?_)
              intro b13 b13b
              refine (show po_X10_state T m w T (some (vI (T 103 m 5))) from ?_)
              exact ⟨rfl, _, rfl, by trivial⟩
            refine j_tsO (pc := 45) (tgt := 112) (by decide) ds_X10_state_45 (by omega) (by decide) (by decide) ?_
            refine j_blx (F := fX10) tb_X10 (nn_ _) bk_X10_state_112 bs_X10_state_112 hz (fun K hK => ?_)
            refine rg_i (by omega) ?_
            refine ix_i (by omega) ?_
            intro b14 b14b
            refine (show po_X10_state T m w T (some (vI (T 469 m (w - 6)))) from ?_)
            exact ⟨rfl, _, rfl, by trivial⟩
      · refine (show po_X10_state T m w T (some (vI (-3))) from ?_)
        exact ⟨rfl, _, rfl, by trivial⟩
  · refine (show po_X10_state T m w T (some (vI (-2))) from ?_)
    exact ⟨rfl, _, rfl, by trivial⟩
abbrev cX10_onField : ByteArray := prog_1_method_28_code
def yX10_onField : MethodName := ⟨RX10, "onField", "(III)I"⟩
def zX10_onField : Zm := (RX10, cX10_onField, 5, (some .int), { frames := 2, cells := 0, slots := 0, locals := 42 })
theorem bk_X10_onField_0 : ck_ fX10 (some .int) cX10_onField 0 [.aload 0, .iload 1] 2 = true := qck_r (nn_ _) (by decide +kernel)
theorem bs_X10_onField_0 {P : Zt → Option Zv → Prop} (K : Int → Zl → List Zv → Zt → Prop) : sx_ K P [.aload 0, .iload 1] 2 = x_aload 0 (x_iload 1 (K 2)) := ((xe_aload 0).trans (congrArg (x_aload 0) ((xe_iload 1).trans (congrArg (x_iload 1) xe_nil))))
theorem bk_X10_onField_5 : ck_ fX10 (some .int) cX10_onField 5 [.ifCond .ne 11, .iconst (-2), .ireturn] 11 = true := qck_r (nn_ _) (by decide +kernel)
theorem bs_X10_onField_5 {P : Zt → Option Zv → Prop} (K : Int → Zl → List Zv → Zt → Prop) : sx_ K P [.ifCond .ne 11, .iconst (-2), .ireturn] 11 = x_ifCond .ne 11 K (x_iconst (-2) (x_ireturn P)) := ((xe_ifCond .ne 11).trans (congrArg (x_ifCond .ne 11 K) ((xe_iconst (-2)).trans (congrArg (x_iconst (-2)) (xe_ireturn)))))
theorem bk_X10_onField_11 : ck_ fX10 (some .int) cX10_onField 11 [.iload 2] 12 = true := qck_r (nn_ _) (by decide +kernel)
theorem bs_X10_onField_11 {P : Zt → Option Zv → Prop} (K : Int → Zl → List Zv → Zt → Prop) : sx_ K P [.iload 2] 12 = x_iload 2 (K 12) := ((xe_iload 2).trans (congrArg (x_iload 2) xe_nil))
theorem bk_X10_onField_15 : ck_ fX10 (some .int) cX10_onField 15 [.ifCond .ne 21, .iconst (-3), .ireturn] 21 = true := qck_r (nn_ _) (by decide +kernel)
theorem bs_X10_onField_15 {P : Zt → Option Zv → Prop} (K : Int → Zl → List Zv → Zt → Prop) : sx_ K P [.ifCond .ne 21, .iconst (-3), .ireturn] 21 = x_ifCond .ne 21 K (x_iconst (-3) (x_ireturn P)) := ((xe_ifCond .ne 21).trans (congrArg (x_ifCond .ne 21 K) ((xe_iconst (-3)).trans (congrArg (x_iconst (-3)) (xe_ireturn)))))
theorem bk_X10_onField_21 : ck_ fX10 (some .int) cX10_onField 21 [.aload 0, .tableswitch 0 10 2 #[], .tableswitch 0 6 3 #[], .iload 1, .aaload, .tableswitch 0 2 10 #[], .astore 4, .aload 4, .ifnull 54, .iload 3, .aload 4, .tableswitch 0 3 10 #[], .iload 2, .iaload] 48 = true := qck_r (nn_ _) (by decide +kernel)
theorem bs_X10_onField_21 {P : Zt → Option Zv → Prop} (K : Int → Zl → List Zv → Zt → Prop) : sx_ K P [.aload 0, .tableswitch 0 10 2 #[], .tableswitch 0 6 3 #[], .iload 1, .aaload, .tableswitch 0 2 10 #[], .astore 4, .aload 4, .ifnull 54, .iload 3, .aload 4, .tableswitch 0 3 10 #[], .iload 2, .iaload] 48 = x_aload 0 (x_g1 110 106 (x_g1 106 523 (x_iload 1 (x_aaload (x_g4 102 103 10 (x_astore 4 (x_aload 4 (x_ifnull 54 K (x_iload 3 (x_aload 4 (x_g2 103 470 (x_iload 2 (x_iaload (K 48)))))))))))))) := ((xe_aload 0).trans (congrArg (x_aload 0) ((xe_g1 (kk := 110) rfl tl_10_2).trans (congrArg (x_g1 110 106) ((xe_g1 (kk := 106) rfl tl_6_3).trans (congrArg (x_g1 106 523) ((xe_iload 1).trans (congrArg (x_iload 1) ((xe_aaload).trans (congrArg (x_aaload) ((xe_g4 (kk := 102) rfl tl_2_10).trans (congrArg (x_g4 102 103 10) ((xe_astore 4).trans (congrArg (x_astore 4) ((xe_aload 4).trans (congrArg (x_aload 4) ((xe_ifnull 54).trans (congrArg (x_ifnull 54 K) ((xe_iload 3).trans (congrArg (x_iload 3) ((xe_aload 4).trans (congrArg (x_aload 4) ((xe_g2 (kk := 103) rfl tl_3_10).trans (congrArg (x_g2 103 470) ((xe_iload 2).trans (congrArg (x_iload 2) ((xe_iaload).trans (congrArg (x_iaload) xe_nil))))))))))))))))))))))))))))
theorem bk_X10_onField_54 : ck_ fX10 (some .int) cX10_onField 54 [.iconst (-1), .ireturn] 56 = true := qck_r (nn_ _) (by decide +kernel)
theorem bs_X10_onField_54 {P : Zt → Option Zv → Prop} (K : Int → Zl → List Zv → Zt → Prop) : sx_ K P [.iconst (-1), .ireturn] 56 = x_iconst (-1) (x_ireturn P) := ((xe_iconst (-1)).trans (congrArg (x_iconst (-1)) (xe_ireturn)))
theorem bk_X10_onField_51 : ck_ fX10 (some .int) cX10_onField 51 [.ifCond .ne 56, .iconst (-1), .ireturn] 56 = true := qck_r (nn_ _) (by decide +kernel)
theorem bs_X10_onField_51 {P : Zt → Option Zv → Prop} (K : Int → Zl → List Zv → Zt → Prop) : sx_ K P [.ifCond .ne 56, .iconst (-1), .ireturn] 56 = x_ifCond .ne 56 K (x_iconst (-1) (x_ireturn P)) := ((xe_ifCond .ne 56).trans (congrArg (x_ifCond .ne 56 K) ((xe_iconst (-1)).trans (congrArg (x_iconst (-1)) (xe_ireturn)))))
theorem bk_X10_onField_56 : ck_ fX10 (some .int) cX10_onField 56 [.aload 4, .iload 2, .iload 3] 60 = true := qck_r (nn_ _) (by decide +kernel)
theorem bs_X10_onField_56 {P : Zt → Option Zv → Prop} (K : Int → Zl → List Zv → Zt → Prop) : sx_ K P [.aload 4, .iload 2, .iload 3] 60 = x_aload 4 (x_iload 2 (x_iload 3 (K 60))) := ((xe_aload 4).trans (congrArg (x_aload 4) ((xe_iload 2).trans (congrArg (x_iload 2) ((xe_iload 3).trans (congrArg (x_iload 3) xe_nil))))))
set_option maxRecDepth 100000 in
theorem cl_X10_346 : cv_ RX10 346 yX3_personAt zX3_personAt 3 2 := ⟨gi_V (lw_b5 195 (by decide +kernel) rfl : Cond.methodLink RX10 346 yX3_personAt ∈ lw_g) (lw_b5 49 (by decide +kernel) rfl : Cond.instanceMethod yX3_personAt ∈ lw_g) (lw_b5 50 (by decide +kernel) rfl : Cond.selects yX3_personAt.cls yX3_personAt yX3_personAt ∈ lw_g) (lw_b1 18 (by decide +kernel) rfl : Cond.initialized yX3_personAt.cls ∈ lw_g) (lw_b5 51 rfl rfl : Cond.code yX3_personAt cX3_personAt 3 (some .int) ∈ lw_g), ⟨by decide, by decide, by decide +kernel⟩, ⟨_, _, rfl⟩⟩
theorem bk_X10_onField_63 : ck_ fX10 (some .int) cX10_onField 63 [.ireturn] 64 = true := qck_r (nn_ _) (by decide +kernel)
theorem bs_X10_onField_63 {P : Zt → Option Zv → Prop} (K : Int → Zl → List Zv → Zt → Prop) : sx_ K P [.ireturn] 64 = x_ireturn P := (xe_ireturn)
abbrev po_X10_onField (T : Zt) (m d k : Int) : Zt → Option Zv → Prop := fun T' r => T = T' ∧ ∃ x : Int, r = some (vI x) ∧ (True)
set_option maxHeartbeats 4000000 in
theorem ct_X10_onField {T : Zt} {m d k : Int} (hka : KA_ T) : Ct_ yX10_onField zX10_onField T [vR 110 0, vI m, vI d, vI k] (po_X10_onField T m d k) := by
  refine ct_of pn_10 rfl rfl (Nat.le_of_ble_eq_true rfl) (fun hT hav => ?_)
  have hr_m : -2147483648 ≤ m ∧ m ≤ 2147483647 := hav (vI m) (by simp)
  have hr_d : -2147483648 ≤ d ∧ d ≤ 2147483647 := hav (vI d) (by simp)
  have hr_k : -2147483648 ≤ k ∧ k ≤ 2147483647 := hav (vI k) (by simp)
  have hz : zX10_onField.2.2.2.1 = some .boolean → ∀ (T' : Zt) (x : Int), po_X10_onField T m d k T' (some (vI x)) → 0 ≤ x ∧ x ≤ 1 := fun h => by cases h
  have hb_matchCount : 0 ≤ T 106 0 4 ∧ T 106 0 4 ≤ 400 := bd_f hT 106 4 (by decide +kernel : (tf_ 106)[4]? = some (0, 0, 0, 400)) 0
  show J_ zX10_onField T (po_X10_onField T m d k) 0 0 0 [some (vR 110 0), some (vI m), some (vI d), some (vI k), none] [] T
  refine j_blx (F := fX10) tb_X10 (nn_ _) bk_X10_onField_0 bs_X10_onField_0 hz (fun K hK => ?_)
  refine hK 2 _ [vI m, vR 110 0] T ?_
  refine j_callV (y := yX10_isMatch) (Yc := zX10_isMatch) (rest := []) [vI m] (ct_X10_isMatch (T := T)) cl_X10_195 (qd_c (by decide +kernel)) (nn_ _) rfl (rf_of rfl) (Nat.le_of_ble_eq_true rfl) (Nat.le_of_ble_eq_true rfl) (Nat.le_of_ble_eq_true rfl) rfl ?_
  rintro _ _ ⟨rfl, x1, rfl, hx1⟩
  show J_ zX10_onField T (po_X10_onField T m d k) 0 0 5 _ [vI x1] T
  refine j_blx (F := fX10) tb_X10 (nn_ _) bk_X10_onField_5 bs_X10_onField_5 hz (fun K hK => ?_)
  refine And.intro (fun c2 => ?_) (fun c2 => ?_)
  · refine hK 11 _ [] T ?_
    refine j_blx (F := fX10) tb_X10 (nn_ _) bk_X10_onField_11 bs_X10_onField_11 hz (fun K hK => ?_)
    refine hK 12 _ [vI d] T ?_
    refine j_callS (y := yX10_isSide) (Yc := zX10_isSide) (rest := []) [vI d] (ct_X10_isSide (T := T)) cl_X10_251 (qd_c (by decide +kernel)) (nn_ _) rfl (rf_of rfl) (Nat.le_of_ble_eq_true rfl) (Nat.le_of_ble_eq_true rfl) (Nat.le_of_ble_eq_true rfl) rfl ?_
    rintro _ _ ⟨rfl, x3, rfl, hx3⟩
    show J_ zX10_onField T (po_X10_onField T m d k) 0 0 15 _ [vI x3] T
    refine j_blx (F := fX10) tb_X10 (nn_ _) bk_X10_onField_15 bs_X10_onField_15 hz (fun K hK => ?_)
    refine And.intro (fun c4 => ?_) (fun c4 => ?_)
    · refine hK 21 _ [] T ?_
      refine j_blx (F := fX10) tb_X10 (nn_ _) bk_X10_onField_21 bs_X10_onField_21 hz (fun K hK => ?_)
      refine ix_i (by omega) ?_
      refine And.intro (fun c5 => ?_) (fun c5 => ?_)
      · exact absurd (show T 523 0 (m) = 0 by omega) (hka.2 _ (by omega) (by omega))
      · refine And.intro (fun c6 => ?_) (fun c6 => ?_)
        · refine hK 54 [some (vR 110 0), some (vI m), some (vI d), some (vI k), some (vN)] [] T ?_
          refine j_blx (F := fX10) tb_X10 (nn_ _) bk_X10_onField_54 bs_X10_onField_54 hz (fun K hK => ?_)
          refine (show po_X10_onField T m d k T (some (vI (-1))) from ?_)
          exact ⟨rfl, _, rfl, by trivial⟩
        · refine ix_i (by omega) ?_
          intro b7 b7b
          refine hK 48 [some (vR 110 0), some (vI m), some (vI d), some (vI k), some (vR 103 m)] [vI (T 470 m d), vI k] T ?_
          refine j_callS (y := yX10_isBelow) (Yc := zX10_isBelow) (rest := []) [vI k, vI (T 470 m d)] (ct_X10_isBelow (T := T)) cl_X10_115 (qd_c (by decide +kernel)) (nn_ _) rfl (rf_of rfl) (Nat.le_of_ble_eq_true rfl) (Nat.le_of_ble_eq_true rfl) (Nat.le_of_ble_eq_true rfl) rfl ?_
          rintro _ _ ⟨rfl, x8, rfl, hx8⟩
          show J_ zX10_onField T (po_X10_onField T m d k) 0 0 51 _ [vI x8] T
          refine j_blx (F := fX10) tb_X10 (nn_ _) bk_X10_onField_51 bs_X10_onField_51 hz (fun K hK => ?_)
          refine And.intro (fun c9 => ?_) (fun c9 => ?_)
          · refine hK 56 _ [] T ?_
            refine j_blx (F := fX10) tb_X10 (nn_ _) bk_X10_onField_56 bs_X10_onField_56 hz (fun K hK => ?_)
            refine hK 60 _ [vI k, vI d, vR 103 m] T ?_
            refine j_callV (y := yX3_personAt) (Yc := zX3_personAt) (rest := []) [vI d, vI k] (ct_X3_personAt (T := T) (by omega) (by omega)) cl_X10_346 (qd_c (by decide +kernel)) (nn_ _) rfl (rf_of rfl) (Nat.le_of_ble_eq_true rfl) (Nat.le_of_ble_eq_true rfl) (Nat.le_of_ble_eq_true rfl) rfl ?_
            rintro _ _ ⟨rfl, x10, rfl, hx10⟩
            show J_ zX10_onField T (po_X10_onField T m d k) 0 0 63 _ [vI x10] T
            refine j_blx (F := fX10) tb_X10 (nn_ _) bk_X10_onField_63 bs_X10_onField_63 hz (fun K hK => ?_)
            refine (show po_X10_onField T m d k T (some (vI x10)) from ?_)
            exact ⟨rfl, _, rfl, by trivial⟩
          · refine (show po_X10_onField T m d k T (some (vI (-1))) from ?_)
            exact ⟨rfl, _, rfl, by trivial⟩
    · refine (show po_X10_onField T m d k T (some (vI (-3))) from ?_)
      exact ⟨rfl, _, rfl, by trivial⟩
  · refine (show po_X10_onField T m d k T (some (vI (-2))) from ?_)
    exact ⟨rfl, _, rfl, by trivial⟩
abbrev cX10_breaks : ByteArray := prog_1_method_15_code
def yX10_breaks : MethodName := ⟨RX10, "breaks", "(II)I"⟩
def zX10_breaks : Zm := (RX10, cX10_breaks, 4, (some .int), { frames := 2, cells := 0, slots := 0, locals := 49 })
theorem bk_X10_breaks_0 : ck_ fX10 (some .int) cX10_breaks 0 [.aload 0, .iload 1] 2 = true := qck_r (nn_ _) (by decide +kernel)
theorem bs_X10_breaks_0 {P : Zt → Option Zv → Prop} (K : Int → Zl → List Zv → Zt → Prop) : sx_ K P [.aload 0, .iload 1] 2 = x_aload 0 (x_iload 1 (K 2)) := ((xe_aload 0).trans (congrArg (x_aload 0) ((xe_iload 1).trans (congrArg (x_iload 1) xe_nil))))
theorem bk_X10_breaks_5 : ck_ fX10 (some .int) cX10_breaks 5 [.ifCond .eq 16, .aload 0, .iload 2] 10 = true := qck_r (nn_ _) (by decide +kernel)
theorem bs_X10_breaks_5 {P : Zt → Option Zv → Prop} (K : Int → Zl → List Zv → Zt → Prop) : sx_ K P [.ifCond .eq 16, .aload 0, .iload 2] 10 = x_ifCond .eq 16 K (x_aload 0 (x_iload 2 (K 10))) := ((xe_ifCond .eq 16).trans (congrArg (x_ifCond .eq 16 K) ((xe_aload 0).trans (congrArg (x_aload 0) ((xe_iload 2).trans (congrArg (x_iload 2) xe_nil))))))
theorem bk_X10_breaks_16 : ck_ fX10 (some .int) cX10_breaks 16 [.iconst (-2), .ireturn] 19 = true := qck_r (nn_ _) (by decide +kernel)
theorem bs_X10_breaks_16 {P : Zt → Option Zv → Prop} (K : Int → Zl → List Zv → Zt → Prop) : sx_ K P [.iconst (-2), .ireturn] 19 = x_iconst (-2) (x_ireturn P) := ((xe_iconst (-2)).trans (congrArg (x_iconst (-2)) (xe_ireturn)))
theorem bk_X10_breaks_13 : ck_ fX10 (some .int) cX10_breaks 13 [.ifCond .ne 19, .iconst (-2), .ireturn] 19 = true := qck_r (nn_ _) (by decide +kernel)
theorem bs_X10_breaks_13 {P : Zt → Option Zv → Prop} (K : Int → Zl → List Zv → Zt → Prop) : sx_ K P [.ifCond .ne 19, .iconst (-2), .ireturn] 19 = x_ifCond .ne 19 K (x_iconst (-2) (x_ireturn P)) := ((xe_ifCond .ne 19).trans (congrArg (x_ifCond .ne 19 K) ((xe_iconst (-2)).trans (congrArg (x_iconst (-2)) (xe_ireturn)))))
theorem bk_X10_breaks_19 : ck_ fX10 (some .int) cX10_breaks 19 [.aload 0, .tableswitch 0 10 2 #[], .tableswitch 0 6 1 #[], .iload 1, .aaload, .astore 3, .aload 3, .tableswitch 0 0 4 #[], .iload 2, .iaload, .iconst (-1), .if_icmp .eq 46, .aload 3, .tableswitch 0 0 6 #[], .ifCond .ne 49, .iconst (-4), .ireturn] 49 = true := qck_r (nn_ _) (by decide +kernel)
theorem bs_X10_breaks_19 {P : Zt → Option Zv → Prop} (K : Int → Zl → List Zv → Zt → Prop) : sx_ K P [.aload 0, .tableswitch 0 10 2 #[], .tableswitch 0 6 1 #[], .iload 1, .aaload, .astore 3, .aload 3, .tableswitch 0 0 4 #[], .iload 2, .iaload, .iconst (-1), .if_icmp .eq 46, .aload 3, .tableswitch 0 0 6 #[], .ifCond .ne 49, .iconst (-4), .ireturn] 49 = x_aload 0 (x_g1 110 106 (x_g1 106 521 (x_iload 1 (x_aaload (x_astore 3 (x_aload 3 (x_g2 100 404 (x_iload 2 (x_iaload (x_iconst (-1) (x_if_icmp .eq 46 K (x_aload 3 (x_g0 100 6 0 1 (x_ifCond .ne 49 K (x_iconst (-4) (x_ireturn P)))))))))))))))) := ((xe_aload 0).trans (congrArg (x_aload 0) ((xe_g1 (kk := 110) rfl tl_10_2).trans (congrArg (x_g1 110 106) ((xe_g1 (kk := 106) rfl tl_6_1).trans (congrArg (x_g1 106 521) ((xe_iload 1).trans (congrArg (x_iload 1) ((xe_aaload).trans (congrArg (x_aaload) ((xe_astore 3).trans (congrArg (x_astore 3) ((xe_aload 3).trans (congrArg (x_aload 3) ((xe_g2 (kk := 100) rfl tl_0_4).trans (congrArg (x_g2 100 404) ((xe_iload 2).trans (congrArg (x_iload 2) ((xe_iaload).trans (congrArg (x_iaload) ((xe_iconst (-1)).trans (congrArg (x_iconst (-1)) ((xe_if_icmp .eq 46).trans (congrArg (x_if_icmp .eq 46 K) ((xe_aload 3).trans (congrArg (x_aload 3) ((xe_g0 (kk := 100) rfl tl_0_6).trans (congrArg (x_g0 100 6 0 1) ((xe_ifCond .ne 49).trans (congrArg (x_ifCond .ne 49 K) ((xe_iconst (-4)).trans (congrArg (x_iconst (-4)) (xe_ireturn)))))))))))))))))))))))))))))))))
theorem bk_X10_breaks_46 : ck_ fX10 (some .int) cX10_breaks 46 [.iconst (-4), .ireturn] 49 = true := qck_r (nn_ _) (by decide +kernel)
theorem bs_X10_breaks_46 {P : Zt → Option Zv → Prop} (K : Int → Zl → List Zv → Zt → Prop) : sx_ K P [.iconst (-4), .ireturn] 49 = x_iconst (-4) (x_ireturn P) := ((xe_iconst (-4)).trans (congrArg (x_iconst (-4)) (xe_ireturn)))
theorem bk_X10_breaks_49 : ck_ fX10 (some .int) cX10_breaks 49 [.aload 0, .tableswitch 0 10 2 #[], .aload 3, .iload 2] 55 = true := qck_r (nn_ _) (by decide +kernel)
theorem bs_X10_breaks_49 {P : Zt → Option Zv → Prop} (K : Int → Zl → List Zv → Zt → Prop) : sx_ K P [.aload 0, .tableswitch 0 10 2 #[], .aload 3, .iload 2] 55 = x_aload 0 (x_g1 110 106 (x_aload 3 (x_iload 2 (K 55)))) := ((xe_aload 0).trans (congrArg (x_aload 0) ((xe_g1 (kk := 110) rfl tl_10_2).trans (congrArg (x_g1 110 106) ((xe_aload 3).trans (congrArg (x_aload 3) ((xe_iload 2).trans (congrArg (x_iload 2) xe_nil))))))))
set_option maxRecDepth 100000 in
theorem cl_X10_230 : cv_ RX10 230 yX6_countBreaks zX6_countBreaks 6 2 := ⟨gi_V (lw_b4 69 (by decide +kernel) rfl : Cond.methodLink RX10 230 yX6_countBreaks ∈ lw_g) (lw_b4 70 (by decide +kernel) rfl : Cond.instanceMethod yX6_countBreaks ∈ lw_g) (lw_b4 71 (by decide +kernel) rfl : Cond.selects yX6_countBreaks.cls yX6_countBreaks yX6_countBreaks ∈ lw_g) (lw_b1 4 (by decide +kernel) rfl : Cond.initialized yX6_countBreaks.cls ∈ lw_g) (lw_b4 72 rfl rfl : Cond.code yX6_countBreaks cX6_countBreaks 9 (some .int) ∈ lw_g), ⟨by decide, by decide, by decide +kernel⟩, ⟨_, _, rfl⟩⟩
theorem bk_X10_breaks_58 : ck_ fX10 (some .int) cX10_breaks 58 [.ireturn] 59 = true := qck_r (nn_ _) (by decide +kernel)
theorem bs_X10_breaks_58 {P : Zt → Option Zv → Prop} (K : Int → Zl → List Zv → Zt → Prop) : sx_ K P [.ireturn] 59 = x_ireturn P := (xe_ireturn)
abbrev po_X10_breaks (T : Zt) (c cl : Int) : Zt → Option Zv → Prop := fun T' r => T = T' ∧ ∃ x : Int, r = some (vI x) ∧ (True)
set_option maxHeartbeats 4000000 in
theorem ct_X10_breaks {T : Zt} {c cl : Int} (hka : KA_ T) (hkc : KC_ T) : Ct_ yX10_breaks zX10_breaks T [vR 110 0, vI c, vI cl] (po_X10_breaks T c cl) := by
  refine ct_of pn_10 rfl rfl (Nat.le_of_ble_eq_true rfl) (fun hT hav => ?_)
  have hr_c : -2147483648 ≤ c ∧ c ≤ 2147483647 := hav (vI c) (by simp)
  have hr_cl : -2147483648 ≤ cl ∧ cl ≤ 2147483647 := hav (vI cl) (by simp)
  have hz : zX10_breaks.2.2.2.1 = some .boolean → ∀ (T' : Zt) (x : Int), po_X10_breaks T c cl T' (some (vI x)) → 0 ≤ x ∧ x ≤ 1 := fun h => by cases h
  have hb_competitionCount : 0 ≤ T 106 0 2 ∧ T 106 0 2 ≤ 4 := bd_f hT 106 2 (by decide +kernel : (tf_ 106)[2]? = some (0, 0, 0, 4)) 0
  have hb_clubs : 0 ≤ T 108 0 2 ∧ T 108 0 2 ≤ 12 := bd_f hT 108 2 (by decide +kernel : (tf_ 108)[2]? = some (0, 0, 0, 12)) 0
  have hb_matchCount : 0 ≤ T 106 0 4 ∧ T 106 0 4 ≤ 400 := bd_f hT 106 4 (by decide +kernel : (tf_ 106)[4]? = some (0, 0, 0, 400)) 0
  show J_ zX10_breaks T (po_X10_breaks T c cl) 0 0 0 [some (vR 110 0), some (vI c), some (vI cl), none] [] T
  refine j_blx (F := fX10) tb_X10 (nn_ _) bk_X10_breaks_0 bs_X10_breaks_0 hz (fun K hK => ?_)
  refine hK 2 _ [vI c, vR 110 0] T ?_
  refine j_callV (y := yX10_isCompetition) (Yc := zX10_isCompetition) (rest := []) [vI c] (ct_X10_isCompetition (T := T)) cl_X10_107 (qd_c (by decide +kernel)) (nn_ _) rfl (rf_of rfl) (Nat.le_of_ble_eq_true rfl) (Nat.le_of_ble_eq_true rfl) (Nat.le_of_ble_eq_true rfl) rfl ?_
  rintro _ _ ⟨rfl, x1, rfl, hx1⟩
  show J_ zX10_breaks T (po_X10_breaks T c cl) 0 0 5 _ [vI x1] T
  refine j_blx (F := fX10) tb_X10 (nn_ _) bk_X10_breaks_5 bs_X10_breaks_5 hz (fun K hK => ?_)
  refine And.intro (fun c2 => ?_) (fun c2 => ?_)
  · refine hK 16 _ [] T ?_
    refine j_blx (F := fX10) tb_X10 (nn_ _) bk_X10_breaks_16 bs_X10_breaks_16 hz (fun K hK => ?_)
    refine (show po_X10_breaks T c cl T (some (vI (-2))) from ?_)
    exact ⟨rfl, _, rfl, by trivial⟩
  · refine hK 10 _ [vI cl, vR 110 0] T ?_
    refine j_callV (y := yX10_isClub) (Yc := zX10_isClub) (rest := []) [vI cl] (ct_X10_isClub (T := T)) cl_X10_137 (qd_c (by decide +kernel)) (nn_ _) rfl (rf_of rfl) (Nat.le_of_ble_eq_true rfl) (Nat.le_of_ble_eq_true rfl) (Nat.le_of_ble_eq_true rfl) rfl ?_
    rintro _ _ ⟨rfl, x3, rfl, hx3⟩
    show J_ zX10_breaks T (po_X10_breaks T c cl) 0 0 13 _ [vI x3] T
    refine j_blx (F := fX10) tb_X10 (nn_ _) bk_X10_breaks_13 bs_X10_breaks_13 hz (fun K hK => ?_)
    refine And.intro (fun c4 => ?_) (fun c4 => ?_)
    · refine hK 19 _ [] T ?_
      refine j_blx (F := fX10) tb_X10 (nn_ _) bk_X10_breaks_19 bs_X10_breaks_19 hz (fun K hK => ?_)
      refine ix_i (by omega) ?_
      refine And.intro (fun c5 => ?_) (fun c5 => ?_)
      · exact absurd (show T 521 0 c = 0 by omega) (hka.1 _ (by omega) (by omega))
      · refine ix_i (by omega) ?_
        intro b6 b6b
        refine And.intro (fun c7 => ?_) (fun c7 => ?_)
        · refine hK 46 [some (vR 110 0), some (vI c), some (vI cl), some (vR 100 c)] [] T ?_
          refine j_blx (F := fX10) tb_X10 (nn_ _) bk_X10_breaks_46 bs_X10_breaks_46 hz (fun K hK => ?_)
          refine (show po_X10_breaks T c cl T (some (vI (-4))) from ?_)
          exact ⟨rfl, _, rfl, by trivial⟩
        · intro b8 b8b
          refine And.intro (fun c9 => ?_) (fun c9 => ?_)
          · refine hK 49 _ [] T ?_
            refine j_blx (F := fX10) tb_X10 (nn_ _) bk_X10_breaks_49 bs_X10_breaks_49 hz (fun K hK => ?_)
            refine hK 55 _ [vI cl, vR 100 c, vR 106 0] T ?_
            refine j_callV (y := yX6_countBreaks) (Yc := zX6_countBreaks) (rest := []) [vR 100 c, vI cl] (ct_X6_countBreaks (T := T) (by exact hka) (by exact hkc c (by omega) (by omega))) cl_X10_230 (qd_c (by decide +kernel)) (nn_ _) rfl (rf_of rfl) (Nat.le_of_ble_eq_true rfl) (Nat.le_of_ble_eq_true rfl) (Nat.le_of_ble_eq_true rfl) rfl ?_
            rintro _ _ ⟨rfl, x10, rfl, hx10⟩
            show J_ zX10_breaks T (po_X10_breaks T c cl) 0 0 58 _ [vI x10] T
            refine j_blx (F := fX10) tb_X10 (nn_ _) bk_X10_breaks_58 bs_X10_breaks_58 hz (fun K hK => ?_)
            refine (show po_X10_breaks T c cl T (some (vI x10)) from ?_)
            exact ⟨rfl, _, rfl, by trivial⟩
          · refine (show po_X10_breaks T c cl T (some (vI (-4))) from ?_)
            exact ⟨rfl, _, rfl, by trivial⟩
    · refine (show po_X10_breaks T c cl T (some (vI (-2))) from ?_)
      exact ⟨rfl, _, rfl, by trivial⟩

