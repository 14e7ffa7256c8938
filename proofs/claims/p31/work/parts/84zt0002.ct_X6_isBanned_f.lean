theorem bk_X3_isSentOff_f_0 : ck_ fX3 (some .boolean) cX3_isSentOff 0 [.aload 0, .tableswitch 0 3 12 #[], .iload 1, .iaload, .iconst 3, .if_icmp .ne 14, .iconst 1, .goto 15] 14 = true := qck_r (nn_ _) (by decide +kernel)
theorem bs_X3_isSentOff_f_0 {P : Zt → Option Zv → Prop} (K : Int → Zl → List Zv → Zt → Prop) : sx_ K P [.aload 0, .tableswitch 0 3 12 #[], .iload 1, .iaload, .iconst 3, .if_icmp .ne 14, .iconst 1, .goto 15] 14 = x_aload 0 (x_g2 103 472 (x_iload 1 (x_iaload (x_iconst 3 (x_if_icmp .ne 14 K (x_iconst 1 (x_goto 15 K))))))) := ((xe_aload 0).trans (congrArg (x_aload 0) ((xe_g2 (kk := 103) rfl tl_3_12).trans (congrArg (x_g2 103 472) ((xe_iload 1).trans (congrArg (x_iload 1) ((xe_iaload).trans (congrArg (x_iaload) ((xe_iconst 3).trans (congrArg (x_iconst 3) ((xe_if_icmp .ne 14).trans (congrArg (x_if_icmp .ne 14 K) ((xe_iconst 1).trans (congrArg (x_iconst 1) (xe_goto 15)))))))))))))))
theorem bk_X3_isSentOff_f_14 : ck_ fX3 (some .boolean) cX3_isSentOff 14 [.iconst 0, .ireturn] 16 = true := qck_r (nn_ _) (by decide +kernel)
theorem bs_X3_isSentOff_f_14 {P : Zt → Option Zv → Prop} (K : Int → Zl → List Zv → Zt → Prop) : sx_ K P [.iconst 0, .ireturn] 16 = x_iconst 0 (x_ireturn P) := ((xe_iconst 0).trans (congrArg (x_iconst 0) (xe_ireturn)))
theorem bk_X3_isSentOff_f_15 : ck_ fX3 (some .boolean) cX3_isSentOff 15 [.ireturn] 16 = true := qck_r (nn_ _) (by decide +kernel)
theorem bs_X3_isSentOff_f_15 {P : Zt → Option Zv → Prop} (K : Int → Zl → List Zv → Zt → Prop) : sx_ K P [.ireturn] 16 = x_ireturn P := (xe_ireturn)
abbrev po_X3_isSentOff_f (T : Zt) (p : Int) (k : Int) : Zt → Option Zv → Prop := fun T' r => T = T' ∧ ∃ x : Int, r = some (vI x) ∧ ((x = 1 ∧ T 472 p k = 3) ∨ (x = 0 ∧ T 472 p k ≠ 3))
set_option maxHeartbeats 4000000 in
theorem ct_X3_isSentOff_f {T : Zt} {p : Int} {k : Int} (h1 : 0 ≤ k ∧ k < 20) : Ct_ yX3_isSentOff zX3_isSentOff T [vR 103 p, vI k] (po_X3_isSentOff_f T p k) := by
  refine ct_of pn_3 rfl rfl (Nat.le_of_ble_eq_true rfl) (fun hT hav => ?_)
  have hr_k : -2147483648 ≤ k ∧ k ≤ 2147483647 := hav (vI k) (List.mem_cons_of_mem _ List.mem_cons_self)
  have hz : zX3_isSentOff.2.2.2.1 = some .boolean → ∀ (T' : Zt) (x : Int), po_X3_isSentOff_f T p k T' (some (vI x)) → 0 ≤ x ∧ x ≤ 1 := fun _ T' x h => by obtain ⟨-, y, e, hy⟩ := h; cases e; omega
  show J_ zX3_isSentOff T (po_X3_isSentOff_f T p k) 0 0 0 [some (vR 103 p), some (vI k)] [] T
  refine j_blx (F := fX3) tb_X3 (nn_ _) bk_X3_isSentOff_f_0 bs_X3_isSentOff_f_0 hz (fun K hK => ?_)
  refine ix_i (by omega) ?_
  intro b1 b1b
  refine And.intro (fun c2 => ?_) (fun c2 => ?_)
  · refine hK 14 _ [] T ?_
    refine j_blx (F := fX3) tb_X3 (nn_ _) bk_X3_isSentOff_f_14 bs_X3_isSentOff_f_14 hz (fun K hK => ?_)
    refine (show po_X3_isSentOff_f T p k T (some (vI 0)) from ?_)
    exact ⟨rfl, _, rfl, Or.inr ⟨rfl, by omega⟩⟩
  · refine hK 15 _ [vI 1] T ?_
    refine j_blx (F := fX3) tb_X3 (nn_ _) bk_X3_isSentOff_f_15 bs_X3_isSentOff_f_15 hz (fun K hK => ?_)
    refine (show po_X3_isSentOff_f T p k T (some (vI 1)) from ?_)
    exact ⟨rfl, _, rfl, Or.inl ⟨rfl, by omega⟩⟩
theorem plN_k {T T' : Zt} {m q s : Int} (e : ∀ j, T' 448 m j = T 448 m j) : ∀ (n : Nat) (i : Int), plN_ T' m q s n i = plN_ T m q s n i
  | 0, _ => rfl
  | n + 1, i => by
    show (if _ then _ else _) = (if _ then _ else _)
    rw [e, plN_k e n]
theorem plc_k {T T' : Zt} (f : fr_ [(533, [])] T T') {m q : Int} : plc_ T' m q = plc_ T m q := by
  unfold plc_
  rw [f 449 m 0 rfl, f 449 m 1 rfl, plN_k (fun j => f 448 m j rfl), plN_k (fun j => f 448 m j rfl)]
theorem bk_X6_isBanned_f_153 : ck_ fX6 (some .boolean) cX6_isBanned 153 [.iinc 7 1, .goto 28] 159 = true := qck_r (nn_ _) (by decide +kernel)
theorem bs_X6_isBanned_f_153 {P : Zt → Option Zv → Prop} (K : Int → Zl → List Zv → Zt → Prop) : sx_ K P [.iinc 7 1, .goto 28] 159 = x_iinc 7 1 (x_goto 28 K) := ((xe_iinc 7 1).trans (congrArg (x_iinc 7 1) (xe_goto 28)))
theorem bk_X6_isBanned_f_28 : ck_ fX6 (some .boolean) cX6_isBanned 28 [.iload 7, .iload 3, .if_icmp .ge 159, .aload 0, .tableswitch 0 6 3 #[], .aload 0, .tableswitch 0 6 13 #[], .iload 7, .iaload, .aaload, .astore 8, .iload 5, .ifCond .le 56, .iinc 5 (-1), .aload 8, .iload 1] 59 = true := qck_r (nn_ _) (by decide +kernel)
theorem bs_X6_isBanned_f_28 {P : Zt → Option Zv → Prop} (K : Int → Zl → List Zv → Zt → Prop) : sx_ K P [.iload 7, .iload 3, .if_icmp .ge 159, .aload 0, .tableswitch 0 6 3 #[], .aload 0, .tableswitch 0 6 13 #[], .iload 7, .iaload, .aaload, .astore 8, .iload 5, .ifCond .le 56, .iinc 5 (-1), .aload 8, .iload 1] 59 = x_iload 7 (x_iload 3 (x_if_icmp .ge 159 K (x_aload 0 (x_g1 106 523 (x_aload 0 (x_g1 106 533 (x_iload 7 (x_iaload (x_aaload (x_astore 8 (x_iload 5 (x_ifCond .le 56 K (x_iinc 5 (-1) (x_aload 8 (x_iload 1 (K 59)))))))))))))))) := ((xe_iload 7).trans (congrArg (x_iload 7) ((xe_iload 3).trans (congrArg (x_iload 3) ((xe_if_icmp .ge 159).trans (congrArg (x_if_icmp .ge 159 K) ((xe_aload 0).trans (congrArg (x_aload 0) ((xe_g1 (kk := 106) rfl tl_6_3).trans (congrArg (x_g1 106 523) ((xe_aload 0).trans (congrArg (x_aload 0) ((xe_g1 (kk := 106) rfl tl_6_13).trans (congrArg (x_g1 106 533) ((xe_iload 7).trans (congrArg (x_iload 7) ((xe_iaload).trans (congrArg (x_iaload) ((xe_aaload).trans (congrArg (x_aaload) ((xe_astore 8).trans (congrArg (x_astore 8) ((xe_iload 5).trans (congrArg (x_iload 5) ((xe_ifCond .le 56).trans (congrArg (x_ifCond .le 56 K) ((xe_iinc 5 (-1)).trans (congrArg (x_iinc 5 (-1)) ((xe_aload 8).trans (congrArg (x_aload 8) ((xe_iload 1).trans (congrArg (x_iload 1) xe_nil))))))))))))))))))))))))))))))))
theorem bk_X6_isBanned_f_159 : ck_ fX6 (some .boolean) cX6_isBanned 159 [.iload 5, .ifCond .le 168, .iconst 1, .goto 169] 168 = true := qck_r (nn_ _) (by decide +kernel)
theorem bs_X6_isBanned_f_159 {P : Zt → Option Zv → Prop} (K : Int → Zl → List Zv → Zt → Prop) : sx_ K P [.iload 5, .ifCond .le 168, .iconst 1, .goto 169] 168 = x_iload 5 (x_ifCond .le 168 K (x_iconst 1 (x_goto 169 K))) := ((xe_iload 5).trans (congrArg (x_iload 5) ((xe_ifCond .le 168).trans (congrArg (x_ifCond .le 168 K) ((xe_iconst 1).trans (congrArg (x_iconst 1) (xe_goto 169)))))))
theorem bk_X6_isBanned_f_168 : ck_ fX6 (some .boolean) cX6_isBanned 168 [.iconst 0, .ireturn] 170 = true := qck_r (nn_ _) (by decide +kernel)
theorem bs_X6_isBanned_f_168 {P : Zt → Option Zv → Prop} (K : Int → Zl → List Zv → Zt → Prop) : sx_ K P [.iconst 0, .ireturn] 170 = x_iconst 0 (x_ireturn P) := ((xe_iconst 0).trans (congrArg (x_iconst 0) (xe_ireturn)))
theorem bk_X6_isBanned_f_169 : ck_ fX6 (some .boolean) cX6_isBanned 169 [.ireturn] 170 = true := qck_r (nn_ _) (by decide +kernel)
theorem bs_X6_isBanned_f_169 {P : Zt → Option Zv → Prop} (K : Int → Zl → List Zv → Zt → Prop) : sx_ K P [.ireturn] 170 = x_ireturn P := (xe_ireturn)
theorem bk_X6_isBanned_f_56 : ck_ fX6 (some .boolean) cX6_isBanned 56 [.aload 8, .iload 1] 59 = true := qck_r (nn_ _) (by decide +kernel)
theorem bs_X6_isBanned_f_56 {P : Zt → Option Zv → Prop} (K : Int → Zl → List Zv → Zt → Prop) : sx_ K P [.aload 8, .iload 1] 59 = x_aload 8 (x_iload 1 (K 59)) := ((xe_aload 8).trans (congrArg (x_aload 8) ((xe_iload 1).trans (congrArg (x_iload 1) xe_nil))))
theorem bk_X6_isBanned_f_62 : ck_ fX6 (some .boolean) cX6_isBanned 62 [.istore 9, .aload 8, .tableswitch 0 2 10 #[], .ifnull 153, .iload 9, .iconst (-1), .if_icmp .ne 81, .goto 153] 81 = true := qck_r (nn_ _) (by decide +kernel)
theorem bs_X6_isBanned_f_62 {P : Zt → Option Zv → Prop} (K : Int → Zl → List Zv → Zt → Prop) : sx_ K P [.istore 9, .aload 8, .tableswitch 0 2 10 #[], .ifnull 153, .iload 9, .iconst (-1), .if_icmp .ne 81, .goto 153] 81 = x_istore 9 (x_aload 8 (x_g4 102 103 10 (x_ifnull 153 K (x_iload 9 (x_iconst (-1) (x_if_icmp .ne 81 K (x_goto 153 K))))))) := ((xe_istore 9).trans (congrArg (x_istore 9) ((xe_aload 8).trans (congrArg (x_aload 8) ((xe_g4 (kk := 102) rfl tl_2_10).trans (congrArg (x_g4 102 103 10) ((xe_ifnull 153).trans (congrArg (x_ifnull 153 K) ((xe_iload 9).trans (congrArg (x_iload 9) ((xe_iconst (-1)).trans (congrArg (x_iconst (-1)) ((xe_if_icmp .ne 81).trans (congrArg (x_if_icmp .ne 81 K) (xe_goto 153)))))))))))))))
theorem bk_X6_isBanned_f_81 : ck_ fX6 (some .boolean) cX6_isBanned 81 [.aload 8, .tableswitch 0 2 10 #[], .iload 9] 88 = true := qck_r (nn_ _) (by decide +kernel)
theorem bs_X6_isBanned_f_81 {P : Zt → Option Zv → Prop} (K : Int → Zl → List Zv → Zt → Prop) : sx_ K P [.aload 8, .tableswitch 0 2 10 #[], .iload 9] 88 = x_aload 8 (x_g4 102 103 10 (x_iload 9 (K 88))) := ((xe_aload 8).trans (congrArg (x_aload 8) ((xe_g4 (kk := 102) rfl tl_2_10).trans (congrArg (x_g4 102 103 10) ((xe_iload 9).trans (congrArg (x_iload 9) xe_nil))))))
theorem bk_X6_isBanned_f_91 : ck_ fX6 (some .boolean) cX6_isBanned 91 [.ifCond .eq 112, .iload 5, .aload 2, .tableswitch 0 2 0 #[], .tableswitch 0 0 1 #[], .iconst 14, .iaload, .iadd, .istore 5, .goto 153] 112 = true := qck_r (nn_ _) (by decide +kernel)
theorem bs_X6_isBanned_f_91 {P : Zt → Option Zv → Prop} (K : Int → Zl → List Zv → Zt → Prop) : sx_ K P [.ifCond .eq 112, .iload 5, .aload 2, .tableswitch 0 2 0 #[], .tableswitch 0 0 1 #[], .iconst 14, .iaload, .iadd, .istore 5, .goto 153] 112 = x_ifCond .eq 112 K (x_iload 5 (x_aload 2 (x_g3 102 100 0 (x_g2 100 401 (x_iconst 14 (x_iaload (x_iadd (x_istore 5 (x_goto 153 K))))))))) := ((xe_ifCond .eq 112).trans (congrArg (x_ifCond .eq 112 K) ((xe_iload 5).trans (congrArg (x_iload 5) ((xe_aload 2).trans (congrArg (x_aload 2) ((xe_g3 (kk := 102) rfl tl_2_0).trans (congrArg (x_g3 102 100 0) ((xe_g2 (kk := 100) rfl tl_0_1).trans (congrArg (x_g2 100 401) ((xe_iconst 14).trans (congrArg (x_iconst 14) ((xe_iaload).trans (congrArg (x_iaload) ((xe_iadd).trans (congrArg (x_iadd) ((xe_istore 5).trans (congrArg (x_istore 5) (xe_goto 153)))))))))))))))))))
theorem bk_X6_isBanned_f_112 : ck_ fX6 (some .boolean) cX6_isBanned 112 [.iload 6, .aload 8, .tableswitch 0 2 10 #[], .tableswitch 0 3 13 #[], .iload 9, .iaload, .fadd, .istore 10, .iload 4, .ifCond .le 149, .iload 10, .iload 4, .fdiv, .iload 6, .iload 4, .fdiv, .if_icmp .le 149, .iinc 5 1, .iload 10, .istore 6] 153 = true := qck_r (nn_ _) (by decide +kernel)
theorem bs_X6_isBanned_f_112 {P : Zt → Option Zv → Prop} (K : Int → Zl → List Zv → Zt → Prop) : sx_ K P [.iload 6, .aload 8, .tableswitch 0 2 10 #[], .tableswitch 0 3 13 #[], .iload 9, .iaload, .fadd, .istore 10, .iload 4, .ifCond .le 149, .iload 10, .iload 4, .fdiv, .iload 6, .iload 4, .fdiv, .if_icmp .le 149, .iinc 5 1, .iload 10, .istore 6] 153 = x_iload 6 (x_aload 8 (x_g4 102 103 10 (x_g2 103 473 (x_iload 9 (x_iaload (x_fadd (x_istore 10 (x_iload 4 (x_ifCond .le 149 K (x_iload 10 (x_iload 4 (x_fdiv (x_iload 6 (x_iload 4 (x_fdiv (x_if_icmp .le 149 K (x_iinc 5 1 (x_iload 10 (x_istore 6 (K 153)))))))))))))))))))) := ((xe_iload 6).trans (congrArg (x_iload 6) ((xe_aload 8).trans (congrArg (x_aload 8) ((xe_g4 (kk := 102) rfl tl_2_10).trans (congrArg (x_g4 102 103 10) ((xe_g2 (kk := 103) rfl tl_3_13).trans (congrArg (x_g2 103 473) ((xe_iload 9).trans (congrArg (x_iload 9) ((xe_iaload).trans (congrArg (x_iaload) ((xe_fadd).trans (congrArg (x_fadd) ((xe_istore 10).trans (congrArg (x_istore 10) ((xe_iload 4).trans (congrArg (x_iload 4) ((xe_ifCond .le 149).trans (congrArg (x_ifCond .le 149 K) ((xe_iload 10).trans (congrArg (x_iload 10) ((xe_iload 4).trans (congrArg (x_iload 4) ((xe_fdiv).trans (congrArg (x_fdiv) ((xe_iload 6).trans (congrArg (x_iload 6) ((xe_iload 4).trans (congrArg (x_iload 4) ((xe_fdiv).trans (congrArg (x_fdiv) ((xe_if_icmp .le 149).trans (congrArg (x_if_icmp .le 149 K) ((xe_iinc 5 1).trans (congrArg (x_iinc 5 1) ((xe_iload 10).trans (congrArg (x_iload 10) ((xe_istore 6).trans (congrArg (x_istore 6) xe_nil))))))))))))))))))))))))))))))))))))))))
theorem bk_X6_isBanned_f_149 : ck_ fX6 (some .boolean) cX6_isBanned 149 [.iload 10, .istore 6] 153 = true := qck_r (nn_ _) (by decide +kernel)
theorem bs_X6_isBanned_f_149 {P : Zt → Option Zv → Prop} (K : Int → Zl → List Zv → Zt → Prop) : sx_ K P [.iload 10, .istore 6] 153 = x_iload 10 (x_istore 6 (K 153)) := ((xe_iload 10).trans (congrArg (x_iload 10) ((xe_istore 6).trans (congrArg (x_istore 6) xe_nil))))
theorem bk_X6_isBanned_f_0 : ck_ fX6 (some .boolean) cX6_isBanned 0 [.aload 0, .iload 1, .aload 2] 3 = true := qck_r (nn_ _) (by decide +kernel)
theorem bs_X6_isBanned_f_0 {P : Zt → Option Zv → Prop} (K : Int → Zl → List Zv → Zt → Prop) : sx_ K P [.aload 0, .iload 1, .aload 2] 3 = x_aload 0 (x_iload 1 (x_aload 2 (K 3))) := ((xe_aload 0).trans (congrArg (x_aload 0) ((xe_iload 1).trans (congrArg (x_iload 1) ((xe_aload 2).trans (congrArg (x_aload 2) xe_nil))))))
theorem bk_X6_isBanned_f_6 : ck_ fX6 (some .boolean) cX6_isBanned 6 [.istore 3, .aload 2, .tableswitch 0 2 0 #[], .tableswitch 0 0 1 #[], .iconst 13, .iaload, .istore 4, .iconst 0, .istore 5, .iconst 0, .istore 6, .iconst 0, .istore 7] 28 = true := qck_r (nn_ _) (by decide +kernel)
theorem bs_X6_isBanned_f_6 {P : Zt → Option Zv → Prop} (K : Int → Zl → List Zv → Zt → Prop) : sx_ K P [.istore 3, .aload 2, .tableswitch 0 2 0 #[], .tableswitch 0 0 1 #[], .iconst 13, .iaload, .istore 4, .iconst 0, .istore 5, .iconst 0, .istore 6, .iconst 0, .istore 7] 28 = x_istore 3 (x_aload 2 (x_g3 102 100 0 (x_g2 100 401 (x_iconst 13 (x_iaload (x_istore 4 (x_iconst 0 (x_istore 5 (x_iconst 0 (x_istore 6 (x_iconst 0 (x_istore 7 (K 28))))))))))))) := ((xe_istore 3).trans (congrArg (x_istore 3) ((xe_aload 2).trans (congrArg (x_aload 2) ((xe_g3 (kk := 102) rfl tl_2_0).trans (congrArg (x_g3 102 100 0) ((xe_g2 (kk := 100) rfl tl_0_1).trans (congrArg (x_g2 100 401) ((xe_iconst 13).trans (congrArg (x_iconst 13) ((xe_iaload).trans (congrArg (x_iaload) ((xe_istore 4).trans (congrArg (x_istore 4) ((xe_iconst 0).trans (congrArg (x_iconst 0) ((xe_istore 5).trans (congrArg (x_istore 5) ((xe_iconst 0).trans (congrArg (x_iconst 0) ((xe_istore 6).trans (congrArg (x_istore 6) ((xe_iconst 0).trans (congrArg (x_iconst 0) ((xe_istore 7).trans (congrArg (x_istore 7) xe_nil))))))))))))))))))))))))))
abbrev po_X6_isBanned_f (T : Zt) (p : Int) (q : Int) : Zt → Option Zv → Prop := fun T' r => ∃ x : Int, r = some (vI x) ∧ fr_ [(533, [])] T T' ∧ ((x = 1 ∧ 0 < bnH_ T q p) ∨ (x = 0 ∧ ¬ 0 < bnH_ T q p))
set_option maxHeartbeats 4000000 in
theorem ct_X6_isBanned_f {T : Zt} {p : Int} {q : Int} (hka : KA_ T) (hkm : KM_ T) (hkc : KC_ T) (hq : 0 ≤ q ∧ q < 200) (hp : 0 ≤ p ∧ p < T 106 0 4) (hq2 : q < T 108 0 3) (hsp : SPR_ T) : Ct_ yX6_isBanned zX6_isBanned T [vR 106 0, vI q, vR 102 p] (po_X6_isBanned_f T p q) := by
  refine ct_of pn_6 rfl rfl (Nat.le_of_ble_eq_true rfl) (fun hT hav => ?_)
  have hr_q : -2147483648 ≤ q ∧ q ≤ 2147483647 := hav (vI q) (List.mem_cons_of_mem _ List.mem_cons_self)
  have hz : zX6_isBanned.2.2.2.1 = some .boolean → ∀ (T' : Zt) (x : Int), po_X6_isBanned_f T p q T' (some (vI x)) → 0 ≤ x ∧ x ≤ 1 := fun _ T' x h => by obtain ⟨y, e, -, hy⟩ := h; cases e; omega
  have hb_matchCount : 0 ≤ T 106 0 4 ∧ T 106 0 4 ≤ 400 := bd_f hT 106 4 tl_6_4 0
  have hmp := hkm p (by omega) (by omega)
  have hcp := hkc (T 102 p 0) (by omega) (by omega)
  have hb7 : 0 ≤ T 100 (T 102 p 0) 7 ∧ T 100 (T 102 p 0) 7 ≤ 400 := bd_f hT 100 7 tl_0_7 (T 102 p 0)
  have hb8 : 0 ≤ T 100 (T 102 p 0) 8 ∧ T 100 (T 102 p 0) 8 ≤ 400 := bd_f hT 100 8 tl_0_8 (T 102 p 0)
  show J_ zX6_isBanned T (po_X6_isBanned_f T p q) 0 0 0 [some (vR 106 0), some (vI q), some (vR 102 p), none, none, none, none, none, none, none, none] [] T
  have c_28 : ∀ (nn : Nat) (n : Int) (d : Int) (y : Int) (k : Int) (T1 : Zt), ((400 - k).toNat) ≤ nn → (fr_ [(533, [])] T T1) → (0 ≤ k ∧ k ≤ 400 ∧ n ≤ 400 ∧ 0 ≤ d ∧ d ≤ 1000 * k ∧ (k = 0 ∨ k ≤ n)) → (∀ j : Int, 0 ≤ j → j < n → 0 ≤ T1 533 0 j ∧ T1 533 0 j < T 106 0 4) → (LHD_ (fun m => T 102 m 5) (rlH_ T q) (fun j => T1 533 0 j) (T 100 (T 102 p 0) 7) (T 100 (T 102 p 0) 8) (T 102 p 5 * 400 + p) n) → (∀ B, (k < n → B = T 102 (T1 533 0 k) 5 * 400 + T1 533 0 k) → (¬ k < n → B = (T 102 p 5 * 400 + p)) → (d, y) = bf_ (fun m => T 102 m 5) (rlH_ T q) (sbn_ (T 401 (T 102 p 0) 14) (T 401 (T 102 p 0) 13) (kdH_ T q) (yvH_ T q)) (T 100 (T 102 p 0) 7) (T 100 (T 102 p 0) 8) B.toNat) → J_ zX6_isBanned T (po_X6_isBanned_f T p q) 0 0 28 [some (vR 106 0), some (vI q), some (vR 102 p), some (vI n), some (vI (T 401 (T 102 p 0) 13)), some (vI d), some (vI y), some (vI k), none, none, none] [] T1 := by
    intro nn
    induction nn using Nat.strongRecOn with
    | _ nn ih_28 =>
      intro n d y k T1 hm_28 hf_28 i1 li1 lh1 fo
      replace hm_28 := fun (_ : Unit) => hm_28
      have c_153 : ∀ (d2 : Int) (y2 : Int), (k < n ∧ 0 ≤ d2 ∧ d2 ≤ 1000 * k + 1000) → ((d2, y2) = sbn_ (T 401 (T 102 p 0) 14) (T 401 (T 102 p 0) 13) (kdH_ T q) (yvH_ T q) (T1 533 0 k) (d, y)) → J_ zX6_isBanned T (po_X6_isBanned_f T p q) 0 0 153 [some (vR 106 0), some (vI q), some (vR 102 p), some (vI n), some (vI (T 401 (T 102 p 0) 13)), some (vI d2), some (vI y2), some (vI k), none, none, none] [] T1 := by
        intro d2 y2 i2 s2
        refine j_blx (F := fX6) tb_X6 (nn_ _) bk_X6_isBanned_f_153 bs_X6_isBanned_f_153 hz (fun K hK => ?_)
        refine rg_i (by omega) ?_
        refine hK 28 [some (vR 106 0), some (vI q), some (vR 102 p), some (vI n), some (vI (T 401 (T 102 p 0) 13)), some (vI d2), some (vI y2), some (vI (k + 1)), none, none, none] [] T1 ?_
        refine ih_28 _ ?_ n d2 y2 (k + 1) T1 (Nat.le_refl _) ?_ ?_ ?_ ?_ ?_
        · have hm_28 := hm_28 (); omega
        · exact fr_t (fr_0 _ _) (fr_s hf_28 rfl)
        · omega
        · exact li1
        · exact lh1
        · intro B a b
          rw [bf_Ls (st := (sbn_ (T 401 (T 102 p 0) 14) (T 401 (T 102 p 0) 13) (kdH_ T q) (yvH_ T q))) (k := k) lh1 (by omega) (by omega) (fun m _ _ => (bd_f hT 102 5 tl_2_5 m).1) (by omega) (by omega) a b, ← fo _ (fun _ => rfl) (fun z => absurd (by omega) z)]
          exact s2
      refine j_blx (F := fX6) tb_X6 (nn_ _) bk_X6_isBanned_f_28 bs_X6_isBanned_f_28 hz (fun K hK => ?_)
      refine And.intro (fun c1 => ?_) (fun c1 => ?_)
      · refine hK 159 _ [] T1 ?_
        refine j_blx (F := fX6) tb_X6 (nn_ _) bk_X6_isBanned_f_159 bs_X6_isBanned_f_159 hz (fun K hK => ?_)
        refine And.intro (fun c2 => ?_) (fun c2 => ?_)
        · refine hK 168 _ [] T1 ?_
          refine j_blx (F := fX6) tb_X6 (nn_ _) bk_X6_isBanned_f_168 bs_X6_isBanned_f_168 hz (fun K hK => ?_)
          refine (show po_X6_isBanned_f T p q T1 (some (vI 0)) from ?_)
          have fin := fo (T 102 p 5 * 400 + p) (fun z => by omega) (fun _ => rfl)
          have eb : bnH_ T q p = d := (congrArg Prod.fst fin).symm
          exact ⟨_, rfl, fr_t (fr_0 _ _) (fr_s hf_28 rfl), by rw [eb]; omega⟩
        · refine hK 169 _ [vI 1] T1 ?_
          refine j_blx (F := fX6) tb_X6 (nn_ _) bk_X6_isBanned_f_169 bs_X6_isBanned_f_169 hz (fun K hK => ?_)
          refine (show po_X6_isBanned_f T p q T1 (some (vI 1)) from ?_)
          have fin := fo (T 102 p 5 * 400 + p) (fun z => by omega) (fun _ => rfl)
          have eb : bnH_ T q p = d := (congrArg Prod.fst fin).symm
          exact ⟨_, rfl, fr_t (fr_0 _ _) (fr_s hf_28 rfl), by rw [eb]; omega⟩
      · refine ix_i (by omega) ?_
        intro b3 b3b
        refine ix_i (by omega) ?_
        have e5 : T1 523 0 (T1 533 0 k) = T 523 0 (T1 533 0 k) := hf_28 523 0 (T1 533 0 k) rfl
        refine And.intro (fun c4 => ?_) (fun c4 => ?_)
        · have y9 := li1 k (by omega) (by omega)
          exact absurd (show T 523 0 (T1 533 0 k) = 0 from Int.le_antisymm (by omega) (by omega)) (hka.2 _ (by omega) (by omega))
        · refine And.intro (fun c6 => ?_) (fun c6 => ?_)
          · refine hK 56 [some (vR 106 0), some (vI q), some (vR 102 p), some (vI n), some (vI (T 401 (T 102 p 0) 13)), some (vI d), some (vI y), some (vI k), some (vR 102 (T1 533 0 k)), none, none] [] T1 ?_
            refine j_blx (F := fX6) tb_X6 (nn_ _) bk_X6_isBanned_f_56 bs_X6_isBanned_f_56 hz (fun K hK => ?_)
            refine hK 59 _ [vI q, vR 102 (T1 533 0 k)] T1 ?_
            refine j_callV (y := yX2_placeOf) (Yc := zX2_placeOf) (rest := []) [vI q] (ct_X2_placeOf_f (T := T1)) cl_X6_172 (qd_c (by decide +kernel)) (nn_ _) rfl (rf_of rfl) (Nat.le_of_ble_eq_true rfl) (Nat.le_of_ble_eq_true rfl) (Nat.le_of_ble_eq_true rfl) rfl ?_
            rintro _ _ ⟨rfl, x7, rfl, hx7⟩
            rw [plc_k (T := T) (fr_t (fr_0 _ _) (fr_s hf_28 rfl))] at hx7
            have bx7 := plc_b (T := T) (m := T1 533 0 k) (q := q) (bd_a hT 449 (by decide +kernel : ta_ 449 = some (1, some 2, 0, 10)) (T1 533 0 k) (show (0 : Int) ≤ 0 by decide)).2 (bd_a hT 449 (by decide +kernel : ta_ 449 = some (1, some 2, 0, 10)) (T1 533 0 k) (show (0 : Int) ≤ 1 by decide)).2
            show J_ zX6_isBanned T (po_X6_isBanned_f T p q) 0 0 62 _ [vI x7] T1
            refine j_blx (F := fX6) tb_X6 (nn_ _) bk_X6_isBanned_f_62 bs_X6_isBanned_f_62 hz (fun K hK => ?_)
            have e9 : T1 102 (T1 533 0 k) 10 = T 102 (T1 533 0 k) 10 := hf_28 102 (T1 533 0 k) 10 rfl
            refine And.intro (fun c8 => ?_) (fun c8 => ?_)
            · refine hK 153 [some (vR 106 0), some (vI q), some (vR 102 p), some (vI n), some (vI (T 401 (T 102 p 0) 13)), some (vI d), some (vI y), some (vI k), some (vR 102 (T1 533 0 k)), some (vI x7), none] [] T1 ?_
              refine j_drop [some (vR 106 0), some (vI q), some (vR 102 p), some (vI n), some (vI (T 401 (T 102 p 0) 13)), some (vI d), some (vI y), some (vI k), none, none, none] (fun k v hk => ?_) rfl ?_
              · match k, hk with
                | 0, hk => exact hk
                | 1, hk => exact hk
                | 2, hk => exact hk
                | 3, hk => exact hk
                | 4, hk => exact hk
                | 5, hk => exact hk
                | 6, hk => exact hk
                | 7, hk => exact hk
                | 8, hk => cases hk
                | 9, hk => cases hk
                | 10, hk => cases hk
                | k + 11, hk => cases hk
              refine c_153 d y ?_ ?_
              · omega
              · exact sb_0 (kdH_0 (Or.inl (by omega))) (by omega) (Or.inr ⟨by omega, rfl⟩)
            · refine And.intro (fun c10 => ?_) (fun c10 => ?_)
              · have nk9 : ¬ (T 102 (T1 533 0 k) 10 = 0 ∨ plc_ T (T1 533 0 k) q = -1) := by rw [← hx7]; omega
                refine hK 81 [some (vR 106 0), some (vI q), some (vR 102 p), some (vI n), some (vI (T 401 (T 102 p 0) 13)), some (vI d), some (vI y), some (vI k), some (vR 102 (T1 533 0 k)), some (vI x7), none] [] T1 ?_
                refine j_blx (F := fX6) tb_X6 (nn_ _) bk_X6_isBanned_f_81 bs_X6_isBanned_f_81 hz (fun K hK => ?_)
                have e12 : T1 102 (T1 533 0 k) 10 = T 102 (T1 533 0 k) 10 := hf_28 102 (T1 533 0 k) 10 rfl
                refine And.intro (fun c11 => ?_) (fun c11 => ?_)
                · exact absurd c11 (by omega)
                · refine hK 88 _ [vI x7, vR 103 (T1 533 0 k)] T1 ?_
                  refine j_callV (y := yX3_isSentOff) (Yc := zX3_isSentOff) (rest := []) [vI x7] (ct_X3_isSentOff_f (T := T1) (by omega)) cl_X6_187 (qd_c (by decide +kernel)) (nn_ _) rfl (rf_of rfl) (Nat.le_of_ble_eq_true rfl) (Nat.le_of_ble_eq_true rfl) (Nat.le_of_ble_eq_true rfl) rfl ?_
                  rintro _ _ ⟨rfl, x13, rfl, hx13⟩
                  have e14 : T1 472 (T1 533 0 k) x7 = T 472 (T1 533 0 k) x7 := hf_28 472 (T1 533 0 k) x7 rfl
                  show J_ zX6_isBanned T (po_X6_isBanned_f T p q) 0 0 91 _ [vI x13] T1
                  refine j_blx (F := fX6) tb_X6 (nn_ _) bk_X6_isBanned_f_91 bs_X6_isBanned_f_91 hz (fun K hK => ?_)
                  refine And.intro (fun c15 => ?_) (fun c15 => ?_)
                  · have so9 : T 472 (T1 533 0 k) (plc_ T (T1 533 0 k) q) ≠ 3 := by rw [← hx7, ← e14]; exact (hx13.resolve_left (fun z => absurd (c15.symm.trans z.1) (by decide))).2
                    clear hx13
                    refine hK 112 _ [] T1 ?_
                    refine j_blx (F := fX6) tb_X6 (nn_ _) bk_X6_isBanned_f_112 bs_X6_isBanned_f_112 hz (fun K hK => ?_)
                    have e17 : T1 102 (T1 533 0 k) 10 = T 102 (T1 533 0 k) 10 := hf_28 102 (T1 533 0 k) 10 rfl
                    refine And.intro (fun c16 => ?_) (fun c16 => ?_)
                    · exact absurd c16 (by omega)
                    · refine ix_i (by omega) ?_
                      intro b18 b18b
                      have e19 : T1 473 (T1 533 0 k) x7 = T 473 (T1 533 0 k) x7 := hf_28 473 (T1 533 0 k) x7 rfl
                      rw [e19] at b18 b18b ⊢
                      intro w20 w20b
                      refine And.intro (fun c21 => ?_) (fun c21 => ?_)
                      · refine hK 149 [some (vR 106 0), some (vI q), some (vR 102 p), some (vI n), some (vI (T 401 (T 102 p 0) 13)), some (vI d), some (vI y), some (vI k), some (vR 102 (T1 533 0 k)), some (vI x7), some (vI (wr_ (y + (T 473 (T1 533 0 k) x7))))] [] T1 ?_
                        refine j_blx (F := fX6) tb_X6 (nn_ _) bk_X6_isBanned_f_149 bs_X6_isBanned_f_149 hz (fun K hK => ?_)
                        refine hK 153 [some (vR 106 0), some (vI q), some (vR 102 p), some (vI n), some (vI (T 401 (T 102 p 0) 13)), some (vI d), some (vI (wr_ (y + (T 473 (T1 533 0 k) x7)))), some (vI k), some (vR 102 (T1 533 0 k)), some (vI x7), some (vI (wr_ (y + (T 473 (T1 533 0 k) x7))))] [] T1 ?_
                        refine j_drop [some (vR 106 0), some (vI q), some (vR 102 p), some (vI n), some (vI (T 401 (T 102 p 0) 13)), some (vI d), some (vI (wr_ (y + (T 473 (T1 533 0 k) x7)))), some (vI k), none, none, none] (fun k v hk => ?_) rfl ?_
                        · match k, hk with
                          | 0, hk => exact hk
                          | 1, hk => exact hk
                          | 2, hk => exact hk
                          | 3, hk => exact hk
                          | 4, hk => exact hk
                          | 5, hk => exact hk
                          | 6, hk => exact hk
                          | 7, hk => exact hk
                          | 8, hk => cases hk
                          | 9, hk => cases hk
                          | 10, hk => cases hk
                          | k + 11, hk => cases hk
                        refine c_153 d (wr_ (y + (T 473 (T1 533 0 k) x7))) ?_ ?_
                        · omega
                        · exact sb_2 (d1 := d) (kdH_2 nk9 so9) (by omega) (Or.inr ⟨by omega, rfl⟩) (by unfold yvH_; rw [← hx7]; exact Or.inr ⟨by omega, rfl⟩) (by unfold yvH_; rw [← hx7])
                      · refine And.intro (by omega) (fun w22 w22b => ?_)
                        refine And.intro (by omega) (fun w23 w23b => ?_)
                        refine And.intro (fun c24 => ?_) (fun c24 => ?_)
                        · refine hK 149 [some (vR 106 0), some (vI q), some (vR 102 p), some (vI n), some (vI (T 401 (T 102 p 0) 13)), some (vI d), some (vI y), some (vI k), some (vR 102 (T1 533 0 k)), some (vI x7), some (vI (wr_ (y + (T 473 (T1 533 0 k) x7))))] [] T1 ?_
                          refine j_blx (F := fX6) tb_X6 (nn_ _) bk_X6_isBanned_f_149 bs_X6_isBanned_f_149 hz (fun K hK => ?_)
                          refine hK 153 [some (vR 106 0), some (vI q), some (vR 102 p), some (vI n), some (vI (T 401 (T 102 p 0) 13)), some (vI d), some (vI (wr_ (y + (T 473 (T1 533 0 k) x7)))), some (vI k), some (vR 102 (T1 533 0 k)), some (vI x7), some (vI (wr_ (y + (T 473 (T1 533 0 k) x7))))] [] T1 ?_
                          refine j_drop [some (vR 106 0), some (vI q), some (vR 102 p), some (vI n), some (vI (T 401 (T 102 p 0) 13)), some (vI d), some (vI (wr_ (y + (T 473 (T1 533 0 k) x7)))), some (vI k), none, none, none] (fun k v hk => ?_) rfl ?_
                          · match k, hk with
                            | 0, hk => exact hk
                            | 1, hk => exact hk
                            | 2, hk => exact hk
                            | 3, hk => exact hk
                            | 4, hk => exact hk
                            | 5, hk => exact hk
                            | 6, hk => exact hk
                            | 7, hk => exact hk
                            | 8, hk => cases hk
                            | 9, hk => cases hk
                            | 10, hk => cases hk
                            | k + 11, hk => cases hk
                          refine c_153 d (wr_ (y + (T 473 (T1 533 0 k) x7))) ?_ ?_
                          · omega
                          · exact sb_2 (d1 := d) (kdH_2 nk9 so9) (by omega) (Or.inr ⟨by omega, rfl⟩) (by unfold yvH_; rw [← hx7]; exact Or.inr ⟨by omega, rfl⟩) (by unfold yvH_; rw [← hx7])
                        · refine rg_i (by omega) ?_
                          refine hK 153 [some (vR 106 0), some (vI q), some (vR 102 p), some (vI n), some (vI (T 401 (T 102 p 0) 13)), some (vI (d + 1)), some (vI (wr_ (y + (T 473 (T1 533 0 k) x7)))), some (vI k), some (vR 102 (T1 533 0 k)), some (vI x7), some (vI (wr_ (y + (T 473 (T1 533 0 k) x7))))] [] T1 ?_
                          refine j_drop [some (vR 106 0), some (vI q), some (vR 102 p), some (vI n), some (vI (T 401 (T 102 p 0) 13)), some (vI (d + 1)), some (vI (wr_ (y + (T 473 (T1 533 0 k) x7)))), some (vI k), none, none, none] (fun k v hk => ?_) rfl ?_
                          · match k, hk with
                            | 0, hk => exact hk
                            | 1, hk => exact hk
                            | 2, hk => exact hk
                            | 3, hk => exact hk
                            | 4, hk => exact hk
                            | 5, hk => exact hk
                            | 6, hk => exact hk
                            | 7, hk => exact hk
                            | 8, hk => cases hk
                            | 9, hk => cases hk
                            | 10, hk => cases hk
                            | k + 11, hk => cases hk
                          refine c_153 (d + 1) (wr_ (y + (T 473 (T1 533 0 k) x7))) ?_ ?_
                          · omega
                          · exact sb_2 (d1 := d) (kdH_2 nk9 so9) (by omega) (Or.inr ⟨by omega, rfl⟩) (by unfold yvH_; rw [← hx7]; exact Or.inl ⟨⟨by omega, by omega⟩, rfl⟩) (by unfold yvH_; rw [← hx7])
                  · have so9 : T 472 (T1 533 0 k) (plc_ T (T1 533 0 k) q) = 3 := by rw [← hx7, ← e14]; exact (hx13.resolve_right (fun z => c15 z.1)).2
                    clear hx13
                    have e26 : T1 102 p 0 = T 102 p 0 := hf_28 102 p 0 rfl
                    refine ix_i (by omega) ?_
                    intro b27 b27b
                    have e28 : T1 401 (T 102 p 0) 14 = T 401 (T 102 p 0) 14 := hf_28 401 (T 102 p 0) 14 rfl
                    have e29 : T1 401 (T1 102 p 0) 14 = T 401 (T 102 p 0) 14 := by rw [e26]; exact e28
                    rw [e29] at b27 b27b ⊢
                    refine rg_i (by omega) ?_
                    refine hK 153 [some (vR 106 0), some (vI q), some (vR 102 p), some (vI n), some (vI (T 401 (T 102 p 0) 13)), some (vI (d + (T 401 (T 102 p 0) 14))), some (vI y), some (vI k), some (vR 102 (T1 533 0 k)), some (vI x7), none] [] T1 ?_
                    refine j_drop [some (vR 106 0), some (vI q), some (vR 102 p), some (vI n), some (vI (T 401 (T 102 p 0) 13)), some (vI (d + (T 401 (T 102 p 0) 14))), some (vI y), some (vI k), none, none, none] (fun k v hk => ?_) rfl ?_
                    · match k, hk with
                      | 0, hk => exact hk
                      | 1, hk => exact hk
                      | 2, hk => exact hk
                      | 3, hk => exact hk
                      | 4, hk => exact hk
                      | 5, hk => exact hk
                      | 6, hk => exact hk
                      | 7, hk => exact hk
                      | 8, hk => cases hk
                      | 9, hk => cases hk
                      | 10, hk => cases hk
                      | k + 11, hk => cases hk
                    refine c_153 (d + (T 401 (T 102 p 0) 14)) y ?_ ?_
                    · omega
                    · exact sb_1 (d1 := d) (kdH_1 nk9 so9) (by omega) (by omega) (Or.inr ⟨by omega, rfl⟩) (by omega)
              · refine hK 153 _ [] T1 ?_
                refine j_drop [some (vR 106 0), some (vI q), some (vR 102 p), some (vI n), some (vI (T 401 (T 102 p 0) 13)), some (vI d), some (vI y), some (vI k), none, none, none] (fun k v hk => ?_) rfl ?_
                · match k, hk with
                  | 0, hk => exact hk
                  | 1, hk => exact hk
                  | 2, hk => exact hk
                  | 3, hk => exact hk
                  | 4, hk => exact hk
                  | 5, hk => exact hk
                  | 6, hk => exact hk
                  | 7, hk => exact hk
                  | 8, hk => cases hk
                  | 9, hk => cases hk
                  | 10, hk => cases hk
                  | k + 11, hk => cases hk
                refine c_153 d y ?_ ?_
                · omega
                · exact sb_0 (kdH_0 (Or.inr (by rw [← hx7]; omega))) (by omega) (Or.inr ⟨by omega, rfl⟩)
          · refine rg_i (by omega) ?_
            refine hK 59 [some (vR 106 0), some (vI q), some (vR 102 p), some (vI n), some (vI (T 401 (T 102 p 0) 13)), some (vI (d + (-1))), some (vI y), some (vI k), some (vR 102 (T1 533 0 k)), none, none] [vI q, vR 102 (T1 533 0 k)] T1 ?_
            refine j_callV (y := yX2_placeOf) (Yc := zX2_placeOf) (rest := []) [vI q] (ct_X2_placeOf_f (T := T1)) cl_X6_172 (qd_c (by decide +kernel)) (nn_ _) rfl (rf_of rfl) (Nat.le_of_ble_eq_true rfl) (Nat.le_of_ble_eq_true rfl) (Nat.le_of_ble_eq_true rfl) rfl ?_
            rintro _ _ ⟨rfl, x30, rfl, hx30⟩
            rw [plc_k (T := T) (fr_t (fr_0 _ _) (fr_s hf_28 rfl))] at hx30
            have bx30 := plc_b (T := T) (m := T1 533 0 k) (q := q) (bd_a hT 449 (by decide +kernel : ta_ 449 = some (1, some 2, 0, 10)) (T1 533 0 k) (show (0 : Int) ≤ 0 by decide)).2 (bd_a hT 449 (by decide +kernel : ta_ 449 = some (1, some 2, 0, 10)) (T1 533 0 k) (show (0 : Int) ≤ 1 by decide)).2
            show J_ zX6_isBanned T (po_X6_isBanned_f T p q) 0 0 62 _ [vI x30] T1
            refine j_blx (F := fX6) tb_X6 (nn_ _) bk_X6_isBanned_f_62 bs_X6_isBanned_f_62 hz (fun K hK => ?_)
            have e32 : T1 102 (T1 533 0 k) 10 = T 102 (T1 533 0 k) 10 := hf_28 102 (T1 533 0 k) 10 rfl
            refine And.intro (fun c31 => ?_) (fun c31 => ?_)
            · refine hK 153 [some (vR 106 0), some (vI q), some (vR 102 p), some (vI n), some (vI (T 401 (T 102 p 0) 13)), some (vI (d + (-1))), some (vI y), some (vI k), some (vR 102 (T1 533 0 k)), some (vI x30), none] [] T1 ?_
              refine j_drop [some (vR 106 0), some (vI q), some (vR 102 p), some (vI n), some (vI (T 401 (T 102 p 0) 13)), some (vI (d + (-1))), some (vI y), some (vI k), none, none, none] (fun k v hk => ?_) rfl ?_
              · match k, hk with
                | 0, hk => exact hk
                | 1, hk => exact hk
                | 2, hk => exact hk
                | 3, hk => exact hk
                | 4, hk => exact hk
                | 5, hk => exact hk
                | 6, hk => exact hk
                | 7, hk => exact hk
                | 8, hk => cases hk
                | 9, hk => cases hk
                | 10, hk => cases hk
                | k + 11, hk => cases hk
              refine c_153 (d + (-1)) y ?_ ?_
              · omega
              · exact sb_0 (kdH_0 (Or.inl (by omega))) (by omega) (Or.inl ⟨by omega, by omega⟩)
            · refine And.intro (fun c33 => ?_) (fun c33 => ?_)
              · have nk9 : ¬ (T 102 (T1 533 0 k) 10 = 0 ∨ plc_ T (T1 533 0 k) q = -1) := by rw [← hx30]; omega
                refine hK 81 [some (vR 106 0), some (vI q), some (vR 102 p), some (vI n), some (vI (T 401 (T 102 p 0) 13)), some (vI (d + (-1))), some (vI y), some (vI k), some (vR 102 (T1 533 0 k)), some (vI x30), none] [] T1 ?_
                refine j_blx (F := fX6) tb_X6 (nn_ _) bk_X6_isBanned_f_81 bs_X6_isBanned_f_81 hz (fun K hK => ?_)
                have e35 : T1 102 (T1 533 0 k) 10 = T 102 (T1 533 0 k) 10 := hf_28 102 (T1 533 0 k) 10 rfl
                refine And.intro (fun c34 => ?_) (fun c34 => ?_)
                · exact absurd c34 (by omega)
                · refine hK 88 _ [vI x30, vR 103 (T1 533 0 k)] T1 ?_
                  refine j_callV (y := yX3_isSentOff) (Yc := zX3_isSentOff) (rest := []) [vI x30] (ct_X3_isSentOff_f (T := T1) (by omega)) cl_X6_187 (qd_c (by decide +kernel)) (nn_ _) rfl (rf_of rfl) (Nat.le_of_ble_eq_true rfl) (Nat.le_of_ble_eq_true rfl) (Nat.le_of_ble_eq_true rfl) rfl ?_
                  rintro _ _ ⟨rfl, x36, rfl, hx36⟩
                  have e37 : T1 472 (T1 533 0 k) x30 = T 472 (T1 533 0 k) x30 := hf_28 472 (T1 533 0 k) x30 rfl
                  show J_ zX6_isBanned T (po_X6_isBanned_f T p q) 0 0 91 _ [vI x36] T1
                  refine j_blx (F := fX6) tb_X6 (nn_ _) bk_X6_isBanned_f_91 bs_X6_isBanned_f_91 hz (fun K hK => ?_)
                  refine And.intro (fun c38 => ?_) (fun c38 => ?_)
                  · have so9 : T 472 (T1 533 0 k) (plc_ T (T1 533 0 k) q) ≠ 3 := by rw [← hx30, ← e37]; exact (hx36.resolve_left (fun z => absurd (c38.symm.trans z.1) (by decide))).2
                    clear hx36
                    refine hK 112 _ [] T1 ?_
                    refine j_blx (F := fX6) tb_X6 (nn_ _) bk_X6_isBanned_f_112 bs_X6_isBanned_f_112 hz (fun K hK => ?_)
                    have e40 : T1 102 (T1 533 0 k) 10 = T 102 (T1 533 0 k) 10 := hf_28 102 (T1 533 0 k) 10 rfl
                    refine And.intro (fun c39 => ?_) (fun c39 => ?_)
                    · exact absurd c39 (by omega)
                    · refine ix_i (by omega) ?_
                      intro b41 b41b
                      have e42 : T1 473 (T1 533 0 k) x30 = T 473 (T1 533 0 k) x30 := hf_28 473 (T1 533 0 k) x30 rfl
                      rw [e42] at b41 b41b ⊢
                      intro w43 w43b
                      refine And.intro (fun c44 => ?_) (fun c44 => ?_)
                      · refine hK 149 [some (vR 106 0), some (vI q), some (vR 102 p), some (vI n), some (vI (T 401 (T 102 p 0) 13)), some (vI (d + (-1))), some (vI y), some (vI k), some (vR 102 (T1 533 0 k)), some (vI x30), some (vI (wr_ (y + (T 473 (T1 533 0 k) x30))))] [] T1 ?_
                        refine j_blx (F := fX6) tb_X6 (nn_ _) bk_X6_isBanned_f_149 bs_X6_isBanned_f_149 hz (fun K hK => ?_)
                        refine hK 153 [some (vR 106 0), some (vI q), some (vR 102 p), some (vI n), some (vI (T 401 (T 102 p 0) 13)), some (vI (d + (-1))), some (vI (wr_ (y + (T 473 (T1 533 0 k) x30)))), some (vI k), some (vR 102 (T1 533 0 k)), some (vI x30), some (vI (wr_ (y + (T 473 (T1 533 0 k) x30))))] [] T1 ?_
                        refine j_drop [some (vR 106 0), some (vI q), some (vR 102 p), some (vI n), some (vI (T 401 (T 102 p 0) 13)), some (vI (d + (-1))), some (vI (wr_ (y + (T 473 (T1 533 0 k) x30)))), some (vI k), none, none, none] (fun k v hk => ?_) rfl ?_
                        · match k, hk with
                          | 0, hk => exact hk
                          | 1, hk => exact hk
                          | 2, hk => exact hk
                          | 3, hk => exact hk
                          | 4, hk => exact hk
                          | 5, hk => exact hk
                          | 6, hk => exact hk
                          | 7, hk => exact hk
                          | 8, hk => cases hk
                          | 9, hk => cases hk
                          | 10, hk => cases hk
                          | k + 11, hk => cases hk
                        refine c_153 (d + (-1)) (wr_ (y + (T 473 (T1 533 0 k) x30))) ?_ ?_
                        · omega
                        · exact sb_2 (d1 := (d + (-1))) (kdH_2 nk9 so9) (by omega) (Or.inl ⟨by omega, by omega⟩) (by unfold yvH_; rw [← hx30]; exact Or.inr ⟨by omega, rfl⟩) (by unfold yvH_; rw [← hx30])
                      · refine And.intro (by omega) (fun w45 w45b => ?_)
                        refine And.intro (by omega) (fun w46 w46b => ?_)
                        refine And.intro (fun c47 => ?_) (fun c47 => ?_)
                        · refine hK 149 [some (vR 106 0), some (vI q), some (vR 102 p), some (vI n), some (vI (T 401 (T 102 p 0) 13)), some (vI (d + (-1))), some (vI y), some (vI k), some (vR 102 (T1 533 0 k)), some (vI x30), some (vI (wr_ (y + (T 473 (T1 533 0 k) x30))))] [] T1 ?_
                          refine j_blx (F := fX6) tb_X6 (nn_ _) bk_X6_isBanned_f_149 bs_X6_isBanned_f_149 hz (fun K hK => ?_)
                          refine hK 153 [some (vR 106 0), some (vI q), some (vR 102 p), some (vI n), some (vI (T 401 (T 102 p 0) 13)), some (vI (d + (-1))), some (vI (wr_ (y + (T 473 (T1 533 0 k) x30)))), some (vI k), some (vR 102 (T1 533 0 k)), some (vI x30), some (vI (wr_ (y + (T 473 (T1 533 0 k) x30))))] [] T1 ?_
                          refine j_drop [some (vR 106 0), some (vI q), some (vR 102 p), some (vI n), some (vI (T 401 (T 102 p 0) 13)), some (vI (d + (-1))), some (vI (wr_ (y + (T 473 (T1 533 0 k) x30)))), some (vI k), none, none, none] (fun k v hk => ?_) rfl ?_
                          · match k, hk with
                            | 0, hk => exact hk
                            | 1, hk => exact hk
                            | 2, hk => exact hk
                            | 3, hk => exact hk
                            | 4, hk => exact hk
                            | 5, hk => exact hk
                            | 6, hk => exact hk
                            | 7, hk => exact hk
                            | 8, hk => cases hk
                            | 9, hk => cases hk
                            | 10, hk => cases hk
                            | k + 11, hk => cases hk
                          refine c_153 (d + (-1)) (wr_ (y + (T 473 (T1 533 0 k) x30))) ?_ ?_
                          · omega
                          · exact sb_2 (d1 := (d + (-1))) (kdH_2 nk9 so9) (by omega) (Or.inl ⟨by omega, by omega⟩) (by unfold yvH_; rw [← hx30]; exact Or.inr ⟨by omega, rfl⟩) (by unfold yvH_; rw [← hx30])
                        · refine rg_i (by omega) ?_
                          refine hK 153 [some (vR 106 0), some (vI q), some (vR 102 p), some (vI n), some (vI (T 401 (T 102 p 0) 13)), some (vI ((d + (-1)) + 1)), some (vI (wr_ (y + (T 473 (T1 533 0 k) x30)))), some (vI k), some (vR 102 (T1 533 0 k)), some (vI x30), some (vI (wr_ (y + (T 473 (T1 533 0 k) x30))))] [] T1 ?_
                          refine j_drop [some (vR 106 0), some (vI q), some (vR 102 p), some (vI n), some (vI (T 401 (T 102 p 0) 13)), some (vI ((d + (-1)) + 1)), some (vI (wr_ (y + (T 473 (T1 533 0 k) x30)))), some (vI k), none, none, none] (fun k v hk => ?_) rfl ?_
                          · match k, hk with
                            | 0, hk => exact hk
                            | 1, hk => exact hk
                            | 2, hk => exact hk
                            | 3, hk => exact hk
                            | 4, hk => exact hk
                            | 5, hk => exact hk
                            | 6, hk => exact hk
                            | 7, hk => exact hk
                            | 8, hk => cases hk
                            | 9, hk => cases hk
                            | 10, hk => cases hk
                            | k + 11, hk => cases hk
                          refine c_153 ((d + (-1)) + 1) (wr_ (y + (T 473 (T1 533 0 k) x30))) ?_ ?_
                          · omega
                          · exact sb_2 (d1 := (d + (-1))) (kdH_2 nk9 so9) (by omega) (Or.inl ⟨by omega, by omega⟩) (by unfold yvH_; rw [← hx30]; exact Or.inl ⟨⟨by omega, by omega⟩, rfl⟩) (by unfold yvH_; rw [← hx30])
                  · have so9 : T 472 (T1 533 0 k) (plc_ T (T1 533 0 k) q) = 3 := by rw [← hx30, ← e37]; exact (hx36.resolve_right (fun z => c38 z.1)).2
                    clear hx36
                    have e49 : T1 102 p 0 = T 102 p 0 := hf_28 102 p 0 rfl
                    refine ix_i (by omega) ?_
                    intro b50 b50b
                    have e51 : T1 401 (T 102 p 0) 14 = T 401 (T 102 p 0) 14 := hf_28 401 (T 102 p 0) 14 rfl
                    have e52 : T1 401 (T1 102 p 0) 14 = T 401 (T 102 p 0) 14 := by rw [e49]; exact e51
                    rw [e52] at b50 b50b ⊢
                    refine rg_i (by omega) ?_
                    refine hK 153 [some (vR 106 0), some (vI q), some (vR 102 p), some (vI n), some (vI (T 401 (T 102 p 0) 13)), some (vI ((d + (-1)) + (T 401 (T 102 p 0) 14))), some (vI y), some (vI k), some (vR 102 (T1 533 0 k)), some (vI x30), none] [] T1 ?_
                    refine j_drop [some (vR 106 0), some (vI q), some (vR 102 p), some (vI n), some (vI (T 401 (T 102 p 0) 13)), some (vI ((d + (-1)) + (T 401 (T 102 p 0) 14))), some (vI y), some (vI k), none, none, none] (fun k v hk => ?_) rfl ?_
                    · match k, hk with
                      | 0, hk => exact hk
                      | 1, hk => exact hk
                      | 2, hk => exact hk
                      | 3, hk => exact hk
                      | 4, hk => exact hk
                      | 5, hk => exact hk
                      | 6, hk => exact hk
                      | 7, hk => exact hk
                      | 8, hk => cases hk
                      | 9, hk => cases hk
                      | 10, hk => cases hk
                      | k + 11, hk => cases hk
                    refine c_153 ((d + (-1)) + (T 401 (T 102 p 0) 14)) y ?_ ?_
                    · omega
                    · exact sb_1 (d1 := (d + (-1))) (kdH_1 nk9 so9) (by omega) (by omega) (Or.inl ⟨by omega, by omega⟩) (by omega)
              · refine hK 153 _ [] T1 ?_
                refine j_drop [some (vR 106 0), some (vI q), some (vR 102 p), some (vI n), some (vI (T 401 (T 102 p 0) 13)), some (vI (d + (-1))), some (vI y), some (vI k), none, none, none] (fun k v hk => ?_) rfl ?_
                · match k, hk with
                  | 0, hk => exact hk
                  | 1, hk => exact hk
                  | 2, hk => exact hk
                  | 3, hk => exact hk
                  | 4, hk => exact hk
                  | 5, hk => exact hk
                  | 6, hk => exact hk
                  | 7, hk => exact hk
                  | 8, hk => cases hk
                  | 9, hk => cases hk
                  | 10, hk => cases hk
                  | k + 11, hk => cases hk
                refine c_153 (d + (-1)) y ?_ ?_
                · omega
                · exact sb_0 (kdH_0 (Or.inr (by rw [← hx30]; omega))) (by omega) (Or.inl ⟨by omega, by omega⟩)
  refine j_blx (F := fX6) tb_X6 (nn_ _) bk_X6_isBanned_f_0 bs_X6_isBanned_f_0 hz (fun K hK => ?_)
  refine hK 3 _ [vR 102 p, vI q, vR 106 0] T ?_
  refine j_callV (y := yX6_listAhead) (Yc := zX6_listAhead) (rest := []) [vI q, vR 102 p] (ct_X6_listAhead_f (T := T) (hka) (hkm) (hkc) (by omega) (by omega) (by omega) hsp) cl_X6_175 (qd_c (by decide +kernel)) (nn_ _) rfl (rf_of rfl) (Nat.le_of_ble_eq_true rfl) (Nat.le_of_ble_eq_true rfl) (Nat.le_of_ble_eq_true rfl) rfl ?_
  rintro U53 _ ⟨x54, rfl, fU53, qU53, vU53, lhU53⟩
  show J_ zX6_isBanned T (po_X6_isBanned_f T p q) 0 0 6 _ [vI x54] U53
  refine j_blx (F := fX6) tb_X6 (nn_ _) bk_X6_isBanned_f_6 bs_X6_isBanned_f_6 hz (fun K hK => ?_)
  have e56 : U53 102 p 0 = T 102 p 0 := fU53 102 p 0 rfl
  refine ix_i (by omega) ?_
  intro b57 b57b
  have e58 : U53 401 (T 102 p 0) 13 = T 401 (T 102 p 0) 13 := fU53 401 (T 102 p 0) 13 rfl
  have e59 : U53 401 (U53 102 p 0) 13 = T 401 (T 102 p 0) 13 := by rw [e56]; exact e58
  rw [e59] at b57 b57b ⊢
  refine hK 28 [some (vR 106 0), some (vI q), some (vR 102 p), some (vI x54), some (vI (T 401 (T 102 p 0) 13)), some (vI 0), some (vI 0), some (vI 0), none, none, none] [] U53 ?_
  refine c_28 _ x54 0 0 0 U53 (Nat.le_refl _) ?_ ?_ ?_ ?_ ?_
  · exact fr_t (fr_0 _ _) (fr_s fU53 rfl)
  · omega
  · exact vU53
  · exact lhU53
  · intro B a b
    exact (bf_L0 (st := (sbn_ (T 401 (T 102 p 0) 14) (T 401 (T 102 p 0) 13) (kdH_ T q) (yvH_ T q))) lhU53 (by
      by_cases z : 0 < x54
      · rw [a z]; have y9 := (vU53 0 (by omega) z); have y8 : 0 ≤ T 102 (U53 533 0 0) 5 ∧ T 102 (U53 533 0 0) 5 ≤ 999 := bd_f hT 102 5 tl_2_5 (U53 533 0 0); omega
      · rw [b z]; have y7 : 0 ≤ T 102 p 5 ∧ T 102 p 5 ≤ 999 := bd_f hT 102 5 tl_2_5 p; omega) a b).symm
