-- the house's answers of tables: words
/-- what the house has when it has added up and ordered -/
def TO_ (T T' : Zt) (c d : Int) (WW : Int → Int → Int → Int) : Prop := ∃ U, HF_ T U c d ∧ (mk9_ (T 100 c 5) (fun x => T 403 c (T' 547 0 x)), mk9_ (T 100 c 5) (fun x => T' 548 0 x)) = RKh_ T c WW ∧ LL_ T' (T 100 c 5) ∧ (∀ x w, 0 ≤ w → w ≤ 6 → T' 542 0 (x * 8 + w) = U 542 0 (x * 8 + w)) ∧ ∀ x, 0 ≤ x → x < T 100 c 5 → T' 547 0 x < T 100 c 5
/-- the worth is at hand once it is added up -/
def WH_9 (T : Zt) (c d : Int) (WW : Int → Int → Int → Int) : Prop := ∀ U, fr_ [(107, [1]), (542, []), (543, []), (544, []), (545, []), (546, [])] T U → ok_T U → HF_ T U c d → HB9_ U c ∧ HWW_ U c WW
theorem to_i {T U V : Zt} {c d : Int} {WW : Int → Int → Int → Int} (f : fr_ [(107, [1]), (542, []), (543, []), (544, []), (545, []), (546, [])] T U) (h : HF_ T U c d) (r : (∀ x, 0 ≤ x → x < U 100 c 5 → V 547 0 x < U 100 c 5) ∧ (mk9_ (U 100 c 5) (fun x => U 403 c (V 547 0 x)), mk9_ (U 100 c 5) (fun x => V 548 0 x)) = RKh_ U c WW ∧ LL_ V (U 100 c 5) ∧ ∀ x w, 0 ≤ w → w ≤ 6 → V 542 0 (x * 8 + w) = U 542 0 (x * 8 + w)) : TO_ T V c d WW := by
  have e5 : U 100 c 5 = T 100 c 5 := f 100 c 5 rfl
  have e3 : ∀ j, U 403 c j = T 403 c j := fun j => f 403 c j rfl
  have e1 : ∀ j, U 401 c j = T 401 c j := fun j => f 401 c j rfl
  obtain ⟨r1, r2, r3, r4⟩ := r
  rw [e5] at r1 r2 r3
  have er : RKh_ U c WW = RKh_ T c WW := by
    unfold RKh_
    rw [e1, e1, e5, show (fun x => U 403 c x) = (fun x => T 403 c x) from funext e3]
  rw [er, show (fun x => U 403 c (V 547 0 x)) = (fun x => T 403 c (V 547 0 x)) from funext (fun x => e3 _)] at r2
  exact ⟨U, h, r2, r3, r4, r1⟩
theorem bk_X10_table_e_0 : ck_ fX10 (some .int) cX10_table 0 [.aload 0, .iload 1] 2 = true := qck_r (nn_ _) (by decide +kernel)
theorem bs_X10_table_e_0 {P : Zt → Option Zv → Prop} (K : Int → Zl → List Zv → Zt → Prop) : sx_ K P [.aload 0, .iload 1] 2 = x_aload 0 (x_iload 1 (K 2)) := ((xe_aload 0).trans (congrArg (x_aload 0) ((xe_iload 1).trans (congrArg (x_iload 1) xe_nil))))
theorem bk_X10_table_e_5 : ck_ fX10 (some .int) cX10_table 5 [.ifCond .eq 16, .aload 0, .iload 3] 10 = true := qck_r (nn_ _) (by decide +kernel)
theorem bs_X10_table_e_5 {P : Zt → Option Zv → Prop} (K : Int → Zl → List Zv → Zt → Prop) : sx_ K P [.ifCond .eq 16, .aload 0, .iload 3] 10 = x_ifCond .eq 16 K (x_aload 0 (x_iload 3 (K 10))) := ((xe_ifCond .eq 16).trans (congrArg (x_ifCond .eq 16 K) ((xe_aload 0).trans (congrArg (x_aload 0) ((xe_iload 3).trans (congrArg (x_iload 3) xe_nil))))))
theorem bk_X10_table_e_16 : ck_ fX10 (some .int) cX10_table 16 [.iconst (-2), .ireturn] 19 = true := qck_r (nn_ _) (by decide +kernel)
theorem bs_X10_table_e_16 {P : Zt → Option Zv → Prop} (K : Int → Zl → List Zv → Zt → Prop) : sx_ K P [.iconst (-2), .ireturn] 19 = x_iconst (-2) (x_ireturn P) := ((xe_iconst (-2)).trans (congrArg (x_iconst (-2)) (xe_ireturn)))
theorem bk_X10_table_e_13 : ck_ fX10 (some .int) cX10_table 13 [.ifCond .ne 19, .iconst (-2), .ireturn] 19 = true := qck_r (nn_ _) (by decide +kernel)
theorem bs_X10_table_e_13 {P : Zt → Option Zv → Prop} (K : Int → Zl → List Zv → Zt → Prop) : sx_ K P [.ifCond .ne 19, .iconst (-2), .ireturn] 19 = x_ifCond .ne 19 K (x_iconst (-2) (x_ireturn P)) := ((xe_ifCond .ne 19).trans (congrArg (x_ifCond .ne 19 K) ((xe_iconst (-2)).trans (congrArg (x_iconst (-2)) (xe_ireturn)))))
theorem bk_X10_table_e_19 : ck_ fX10 (some .int) cX10_table 19 [.iload 2] 20 = true := qck_r (nn_ _) (by decide +kernel)
theorem bs_X10_table_e_19 {P : Zt → Option Zv → Prop} (K : Int → Zl → List Zv → Zt → Prop) : sx_ K P [.iload 2] 20 = x_iload 2 (K 20) := ((xe_iload 2).trans (congrArg (x_iload 2) xe_nil))
theorem bk_X10_table_e_23 : ck_ fX10 (some .int) cX10_table 23 [.ifCond .eq 38, .iload 4, .ifCond .lt 38, .iload 4, .iconst 7, .if_icmp .le 41, .iconst (-3), .ireturn] 41 = true := qck_r (nn_ _) (by decide +kernel)
theorem bs_X10_table_e_23 {P : Zt → Option Zv → Prop} (K : Int → Zl → List Zv → Zt → Prop) : sx_ K P [.ifCond .eq 38, .iload 4, .ifCond .lt 38, .iload 4, .iconst 7, .if_icmp .le 41, .iconst (-3), .ireturn] 41 = x_ifCond .eq 38 K (x_iload 4 (x_ifCond .lt 38 K (x_iload 4 (x_iconst 7 (x_if_icmp .le 41 K (x_iconst (-3) (x_ireturn P))))))) := ((xe_ifCond .eq 38).trans (congrArg (x_ifCond .eq 38 K) ((xe_iload 4).trans (congrArg (x_iload 4) ((xe_ifCond .lt 38).trans (congrArg (x_ifCond .lt 38 K) ((xe_iload 4).trans (congrArg (x_iload 4) ((xe_iconst 7).trans (congrArg (x_iconst 7) ((xe_if_icmp .le 41).trans (congrArg (x_if_icmp .le 41 K) ((xe_iconst (-3)).trans (congrArg (x_iconst (-3)) (xe_ireturn)))))))))))))))
theorem bk_X10_table_e_38 : ck_ fX10 (some .int) cX10_table 38 [.iconst (-3), .ireturn] 41 = true := qck_r (nn_ _) (by decide +kernel)
theorem bs_X10_table_e_38 {P : Zt → Option Zv → Prop} (K : Int → Zl → List Zv → Zt → Prop) : sx_ K P [.iconst (-3), .ireturn] 41 = x_iconst (-3) (x_ireturn P) := ((xe_iconst (-3)).trans (congrArg (x_iconst (-3)) (xe_ireturn)))
theorem bk_X10_table_e_41 : ck_ fX10 (some .int) cX10_table 41 [.aload 0, .tableswitch 0 10 2 #[], .tableswitch 0 6 1 #[], .iload 1, .aaload, .astore 5, .aload 5, .tableswitch 0 0 4 #[], .iload 3, .iaload, .istore 6, .iload 6, .iconst (-1), .if_icmp .ne 70, .iconst (-4), .ireturn] 70 = true := qck_r (nn_ _) (by decide +kernel)
theorem bs_X10_table_e_41 {P : Zt → Option Zv → Prop} (K : Int → Zl → List Zv → Zt → Prop) : sx_ K P [.aload 0, .tableswitch 0 10 2 #[], .tableswitch 0 6 1 #[], .iload 1, .aaload, .astore 5, .aload 5, .tableswitch 0 0 4 #[], .iload 3, .iaload, .istore 6, .iload 6, .iconst (-1), .if_icmp .ne 70, .iconst (-4), .ireturn] 70 = x_aload 0 (x_g1 110 106 (x_g1 106 521 (x_iload 1 (x_aaload (x_astore 5 (x_aload 5 (x_g2 100 404 (x_iload 3 (x_iaload (x_istore 6 (x_iload 6 (x_iconst (-1) (x_if_icmp .ne 70 K (x_iconst (-4) (x_ireturn P))))))))))))))) := ((xe_aload 0).trans (congrArg (x_aload 0) ((xe_g1 (kk := 110) rfl tl_10_2).trans (congrArg (x_g1 110 106) ((xe_g1 (kk := 106) rfl tl_6_1).trans (congrArg (x_g1 106 521) ((xe_iload 1).trans (congrArg (x_iload 1) ((xe_aaload).trans (congrArg (x_aaload) ((xe_astore 5).trans (congrArg (x_astore 5) ((xe_aload 5).trans (congrArg (x_aload 5) ((xe_g2 (kk := 100) rfl tl_0_4).trans (congrArg (x_g2 100 404) ((xe_iload 3).trans (congrArg (x_iload 3) ((xe_iaload).trans (congrArg (x_iaload) ((xe_istore 6).trans (congrArg (x_istore 6) ((xe_iload 6).trans (congrArg (x_iload 6) ((xe_iconst (-1)).trans (congrArg (x_iconst (-1)) ((xe_if_icmp .ne 70).trans (congrArg (x_if_icmp .ne 70 K) ((xe_iconst (-4)).trans (congrArg (x_iconst (-4)) (xe_ireturn)))))))))))))))))))))))))))))))
theorem bk_X10_table_e_70 : ck_ fX10 (some .int) cX10_table 70 [.aload 0, .tableswitch 0 10 3 #[], .aload 5, .iload 2] 77 = true := qck_r (nn_ _) (by decide +kernel)
theorem bs_X10_table_e_70 {P : Zt → Option Zv → Prop} (K : Int → Zl → List Zv → Zt → Prop) : sx_ K P [.aload 0, .tableswitch 0 10 3 #[], .aload 5, .iload 2] 77 = x_aload 0 (x_g1 110 107 (x_aload 5 (x_iload 2 (K 77)))) := ((xe_aload 0).trans (congrArg (x_aload 0) ((xe_g1 (kk := 110) rfl tl_10_3).trans (congrArg (x_g1 110 107) ((xe_aload 5).trans (congrArg (x_aload 5) ((xe_iload 2).trans (congrArg (x_iload 2) xe_nil))))))))
theorem bk_X10_table_e_80 : ck_ fX10 (some .int) cX10_table 80 [.aload 0, .tableswitch 0 10 3 #[]] 84 = true := qck_r (nn_ _) (by decide +kernel)
theorem bs_X10_table_e_80 {P : Zt → Option Zv → Prop} (K : Int → Zl → List Zv → Zt → Prop) : sx_ K P [.aload 0, .tableswitch 0 10 3 #[]] 84 = x_aload 0 (x_g1 110 107 (K 84)) := ((xe_aload 0).trans (congrArg (x_aload 0) ((xe_g1 (kk := 110) rfl tl_10_3).trans (congrArg (x_g1 110 107) xe_nil))))
theorem bk_X10_table_e_87 : ck_ fX10 (some .int) cX10_table 87 [.aload 0, .tableswitch 0 10 3 #[], .tableswitch 0 7 2 #[], .iload 6, .iconst 8, .imul, .iload 4, .iadd, .iaload, .ireturn] 104 = true := qck_r (nn_ _) (by decide +kernel)
theorem bs_X10_table_e_87 {P : Zt → Option Zv → Prop} (K : Int → Zl → List Zv → Zt → Prop) : sx_ K P [.aload 0, .tableswitch 0 10 3 #[], .tableswitch 0 7 2 #[], .iload 6, .iconst 8, .imul, .iload 4, .iadd, .iaload, .ireturn] 104 = x_aload 0 (x_g1 110 107 (x_g1 107 542 (x_iload 6 (x_iconst 8 (x_imul (x_iload 4 (x_iadd (x_iaload (x_ireturn P))))))))) := ((xe_aload 0).trans (congrArg (x_aload 0) ((xe_g1 (kk := 110) rfl tl_10_3).trans (congrArg (x_g1 110 107) ((xe_g1 (kk := 107) rfl tl_7_2).trans (congrArg (x_g1 107 542) ((xe_iload 6).trans (congrArg (x_iload 6) ((xe_iconst 8).trans (congrArg (x_iconst 8) ((xe_imul).trans (congrArg (x_imul) ((xe_iload 4).trans (congrArg (x_iload 4) ((xe_iadd).trans (congrArg (x_iadd) ((xe_iaload).trans (congrArg (x_iaload) (xe_ireturn)))))))))))))))))))
abbrev po_X10_table_e (T : Zt) (WW : Int → Int → Int → Int → Int) (c d b w : Int) : Zt → Option Zv → Prop := fun T' r => ∃ x : Int, r = some (vI x) ∧ fr_ [(107, [1, 13]), (542, []), (543, []), (544, []), (545, []), (546, []), (547, []), (548, []), (549, []), (550, []), (551, []), (552, [])] T T' ∧ ((x = -2 ∧ ¬ ((0 ≤ c ∧ c < T 106 0 2) ∧ (0 ≤ b ∧ b < T 108 0 2))) ∨ (x = -3 ∧ ((0 ≤ c ∧ c < T 106 0 2) ∧ (0 ≤ b ∧ b < T 108 0 2)) ∧ ¬ ((0 ≤ d ∧ d ≤ 999) ∧ (0 ≤ w ∧ w ≤ 7))) ∨ (x = -4 ∧ ((0 ≤ c ∧ c < T 106 0 2) ∧ (0 ≤ b ∧ b < T 108 0 2)) ∧ ((0 ≤ d ∧ d ≤ 999) ∧ (0 ≤ w ∧ w ≤ 7)) ∧ T 404 c b = -1) ∨ (((0 ≤ c ∧ c < T 106 0 2) ∧ (0 ≤ b ∧ b < T 108 0 2)) ∧ ((0 ≤ d ∧ d ≤ 999) ∧ (0 ≤ w ∧ w ≤ 7)) ∧ T 404 c b ≠ -1 ∧ TO_ T T' c d (WW c) ∧ x = T' 542 0 (T 404 c b * 8 + w) ∧ (-2147483648 ≤ x ∧ x ≤ 2147483647)))
set_option maxHeartbeats 4000000 in
theorem ct_X10_table_e {T : Zt} {WW : Int → Int → Int → Int → Int} {c d b w : Int} (hka : KA_ T) (hkm : KM_ T) (hkc : KC_ T) (hko : KO_ T) (hks : KS_ T) (hsk : ∀ c, 0 ≤ c → c < T 106 0 2 → SK_ T c) (hno : ∀ c, 0 ≤ c → c < T 106 0 2 → T 100 c 0 = c) (hww : ∀ c, 0 ≤ c → c < T 106 0 2 → WH_9 T c d (WW c)) : Ct_ yX10_table zX10_table T [vR 110 0, vI c, vI d, vI b, vI w] (po_X10_table_e T WW c d b w) := by
  refine ct_of pn_10 rfl rfl (Nat.le_of_ble_eq_true rfl) (fun hT hav => ?_)
  have hr_c : -2147483648 ≤ c ∧ c ≤ 2147483647 := hav (vI c) (List.mem_cons_of_mem _ List.mem_cons_self)
  have hr_d : -2147483648 ≤ d ∧ d ≤ 2147483647 := hav (vI d) (List.mem_cons_of_mem _ (List.mem_cons_of_mem _ List.mem_cons_self))
  have hr_b : -2147483648 ≤ b ∧ b ≤ 2147483647 := hav (vI b) (List.mem_cons_of_mem _ (List.mem_cons_of_mem _ (List.mem_cons_of_mem _ List.mem_cons_self)))
  have hr_w : -2147483648 ≤ w ∧ w ≤ 2147483647 := hav (vI w) (List.mem_cons_of_mem _ (List.mem_cons_of_mem _ (List.mem_cons_of_mem _ (List.mem_cons_of_mem _ List.mem_cons_self))))
  have hz : zX10_table.2.2.2.1 = some .boolean → ∀ (T' : Zt) (x : Int), po_X10_table_e T WW c d b w T' (some (vI x)) → 0 ≤ x ∧ x ≤ 1 := fun h => by cases h
  have hcc : 0 ≤ T 106 0 2 ∧ T 106 0 2 ≤ 4 := bd_f hT 106 2 tl_6_2 0
  have hb_clubs : 0 ≤ T 108 0 2 ∧ T 108 0 2 ≤ 12 := bd_f hT 108 2 tl_8_2 0
  show J_ zX10_table T (po_X10_table_e T WW c d b w) 0 0 0 [some (vR 110 0), some (vI c), some (vI d), some (vI b), some (vI w), none, none] [] T
  refine j_blx (F := fX10) tb_X10 (nn_ _) bk_X10_table_e_0 bs_X10_table_e_0 hz (fun K hK => ?_)
  refine hK 2 _ [vI c, vR 110 0] T ?_
  refine j_callV (y := yX10_isCompetition) (Yc := zX10_isCompetition) (rest := []) [vI c] (ct_X10_isCompetition (T := T)) cl_X10_107 (qd_c (by decide +kernel)) (nn_ _) rfl (rf_of rfl) (Nat.le_of_ble_eq_true rfl) (Nat.le_of_ble_eq_true rfl) (Nat.le_of_ble_eq_true rfl) rfl ?_
  rintro _ _ ⟨rfl, x1, rfl, hx1⟩
  show J_ zX10_table T (po_X10_table_e T WW c d b w) 0 0 5 _ [vI x1] T
  refine j_blx (F := fX10) tb_X10 (nn_ _) bk_X10_table_e_5 bs_X10_table_e_5 hz (fun K hK => ?_)
  refine And.intro (fun c2 => ?_) (fun c2 => ?_)
  · replace hx1 := hx1.resolve_left (fun z => absurd (c2.symm.trans z.1) (by decide))
    clear c2
    refine hK 16 _ [] T ?_
    refine j_blx (F := fX10) tb_X10 (nn_ _) bk_X10_table_e_16 bs_X10_table_e_16 hz (fun K hK => ?_)
    refine (show po_X10_table_e T WW c d b w T (some (vI (-2))) from ?_)
    exact ⟨_, rfl, fr_0 _ _, Or.inl ⟨rfl, by omega⟩⟩
  · replace hx1 := hx1.resolve_right (fun z => c2 z.1)
    clear c2
    refine hK 10 _ [vI b, vR 110 0] T ?_
    refine j_callV (y := yX10_isClub) (Yc := zX10_isClub) (rest := []) [vI b] (ct_X10_isClub (T := T)) cl_X10_137 (qd_c (by decide +kernel)) (nn_ _) rfl (rf_of rfl) (Nat.le_of_ble_eq_true rfl) (Nat.le_of_ble_eq_true rfl) (Nat.le_of_ble_eq_true rfl) rfl ?_
    rintro _ _ ⟨rfl, x3, rfl, hx3⟩
    show J_ zX10_table T (po_X10_table_e T WW c d b w) 0 0 13 _ [vI x3] T
    refine j_blx (F := fX10) tb_X10 (nn_ _) bk_X10_table_e_13 bs_X10_table_e_13 hz (fun K hK => ?_)
    refine And.intro (fun c4 => ?_) (fun c4 => ?_)
    · replace hx3 := hx3.resolve_right (fun z => c4 z.1)
      clear c4
      refine hK 19 _ [] T ?_
      refine j_blx (F := fX10) tb_X10 (nn_ _) bk_X10_table_e_19 bs_X10_table_e_19 hz (fun K hK => ?_)
      refine hK 20 _ [vI d] T ?_
      refine j_callS (y := yX10_isDay) (Yc := zX10_isDay) (rest := []) [vI d] (ct_X10_isDay (T := T)) cl_X10_140 (qd_c (by decide +kernel)) (nn_ _) rfl (rf_of rfl) (Nat.le_of_ble_eq_true rfl) (Nat.le_of_ble_eq_true rfl) (Nat.le_of_ble_eq_true rfl) rfl ?_
      rintro _ _ ⟨rfl, x5, rfl, hx5⟩
      show J_ zX10_table T (po_X10_table_e T WW c d b w) 0 0 23 _ [vI x5] T
      refine j_blx (F := fX10) tb_X10 (nn_ _) bk_X10_table_e_23 bs_X10_table_e_23 hz (fun K hK => ?_)
      refine And.intro (fun c6 => ?_) (fun c6 => ?_)
      · replace hx5 := hx5.resolve_left (fun z => absurd (c6.symm.trans z.1) (by decide))
        clear c6
        refine hK 38 _ [] T ?_
        refine j_blx (F := fX10) tb_X10 (nn_ _) bk_X10_table_e_38 bs_X10_table_e_38 hz (fun K hK => ?_)
        refine (show po_X10_table_e T WW c d b w T (some (vI (-3))) from ?_)
        exact ⟨_, rfl, fr_0 _ _, Or.inr (Or.inl ⟨rfl, by omega, by omega⟩)⟩
      · replace hx5 := hx5.resolve_right (fun z => c6 z.1)
        clear c6
        refine And.intro (fun c7 => ?_) (fun c7 => ?_)
        · refine hK 38 _ [] T ?_
          refine j_blx (F := fX10) tb_X10 (nn_ _) bk_X10_table_e_38 bs_X10_table_e_38 hz (fun K hK => ?_)
          refine (show po_X10_table_e T WW c d b w T (some (vI (-3))) from ?_)
          exact ⟨_, rfl, fr_0 _ _, Or.inr (Or.inl ⟨rfl, by omega, by omega⟩)⟩
        · refine And.intro (fun c8 => ?_) (fun c8 => ?_)
          · refine hK 41 _ [] T ?_
            refine j_blx (F := fX10) tb_X10 (nn_ _) bk_X10_table_e_41 bs_X10_table_e_41 hz (fun K hK => ?_)
            refine ix_i (by omega) ?_
            refine And.intro (fun c9 => ?_) (fun c9 => ?_)
            · exact absurd (show T 521 0 c = 0 by omega) (hka.1 _ (by omega) (by omega))
            · refine ix_i (by omega) ?_
              intro b10 b10b
              refine And.intro (fun c11 => ?_) (fun c11 => ?_)
              · refine hK 70 [some (vR 110 0), some (vI c), some (vI d), some (vI b), some (vI w), some (vR 100 c), some (vI (T 404 c b))] [] T ?_
                refine j_blx (F := fX10) tb_X10 (nn_ _) bk_X10_table_e_70 bs_X10_table_e_70 hz (fun K hK => ?_)
                refine hK 77 _ [vI d, vR 100 c, vR 107 0] T ?_
                refine j_callV (y := yX7_tally) (Yc := zX7_tally) (rest := []) [vR 100 c, vI d] (ct_X7_tally_e (T := T) (c := c) hka hkc (by omega) hks (hsk c (by omega) (by omega)) (hno c (by omega) (by omega))) cl_X10_350 (qd_c (by decide +kernel)) (nn_ _) rfl (rf_of rfl) (Nat.le_of_ble_eq_true rfl) (Nat.le_of_ble_eq_true rfl) (Nat.le_of_ble_eq_true rfl) rfl ?_
                rintro U12 _ ⟨rfl, fU12, qU12, qU12h⟩
                refine j_ok (fun hT9 _ => ?_)
                have ww9 := hww c (by omega) (by omega) U12 fU12 hT9 qU12h
                show J_ zX10_table T (po_X10_table_e T WW c d b w) 0 0 80 _ [] U12
                refine j_blx (F := fX10) tb_X10 (nn_ _) bk_X10_table_e_80 bs_X10_table_e_80 hz (fun K hK => ?_)
                refine hK 84 _ [vR 107 0] U12 ?_
                have e13 : U12 401 c 4 = T 401 c 4 := fU12 401 c 4 rfl
                have hk9 := hko c (by omega) (by omega)
                have hb4 : 0 ≤ T 401 c 4 ∧ T 401 c 4 ≤ 999 := bd_a hT 401 (by decide +kernel : ta_ 401 = some (1, some 16, 0, 999)) c (by omega)
                refine j_callV (y := yX7_rank) (Yc := zX7_rank) (rest := []) [] (ct_X7_rank_e (T := U12) (c := c) (WW := WW c) (by omega) ww9.1 (by omega) ww9.2) cl_X10_353 (qd_c (by decide +kernel)) (nn_ _) rfl (rf_of rfl) (Nat.le_of_ble_eq_true rfl) (Nat.le_of_ble_eq_true rfl) (Nat.le_of_ble_eq_true rfl) rfl ?_
                rintro U14 _ ⟨rfl, fU14, qU14⟩
                have to9 : TO_ T U14 c d (WW c) := to_i fU12 qU12h qU14
                show J_ zX10_table T (po_X10_table_e T WW c d b w) 0 0 87 _ [] U14
                refine j_blx (F := fX10) tb_X10 (nn_ _) bk_X10_table_e_87 bs_X10_table_e_87 hz (fun K hK => ?_)
                refine rg_i (by omega) ?_
                refine rg_i (by omega) ?_
                refine ix_i (by omega) ?_
                intro b15 b15b
                refine (show po_X10_table_e T WW c d b w U14 (some (vI (U14 542 0 (((T 404 c b) * 8) + w)))) from ?_)
                exact ⟨_, rfl, fr_t (fr_t (fr_0 _ _) (fr_s fU12 rfl)) (fr_s fU14 rfl), Or.inr (Or.inr (Or.inr ⟨by omega, by omega, by omega, to9, rfl, by omega⟩))⟩
              · refine (show po_X10_table_e T WW c d b w T (some (vI (-4))) from ?_)
                exact ⟨_, rfl, fr_0 _ _, Or.inr (Or.inr (Or.inl ⟨rfl, by omega, by omega, by omega⟩))⟩
          · refine (show po_X10_table_e T WW c d b w T (some (vI (-3))) from ?_)
            exact ⟨_, rfl, fr_0 _ _, Or.inr (Or.inl ⟨rfl, by omega, by omega⟩)⟩
    · replace hx3 := hx3.resolve_left (fun z => absurd (c4.symm.trans z.1) (by decide))
      clear c4
      refine (show po_X10_table_e T WW c d b w T (some (vI (-2))) from ?_)
      exact ⟨_, rfl, fr_0 _ _, Or.inl ⟨rfl, by omega⟩⟩
theorem bk_X10_standing_e_0 : ck_ fX10 (some .int) cX10_standing 0 [.aload 0, .iload 1] 2 = true := qck_r (nn_ _) (by decide +kernel)
theorem bs_X10_standing_e_0 {P : Zt → Option Zv → Prop} (K : Int → Zl → List Zv → Zt → Prop) : sx_ K P [.aload 0, .iload 1] 2 = x_aload 0 (x_iload 1 (K 2)) := ((xe_aload 0).trans (congrArg (x_aload 0) ((xe_iload 1).trans (congrArg (x_iload 1) xe_nil))))
theorem bk_X10_standing_e_5 : ck_ fX10 (some .int) cX10_standing 5 [.ifCond .ne 11, .iconst (-2), .ireturn] 11 = true := qck_r (nn_ _) (by decide +kernel)
theorem bs_X10_standing_e_5 {P : Zt → Option Zv → Prop} (K : Int → Zl → List Zv → Zt → Prop) : sx_ K P [.ifCond .ne 11, .iconst (-2), .ireturn] 11 = x_ifCond .ne 11 K (x_iconst (-2) (x_ireturn P)) := ((xe_ifCond .ne 11).trans (congrArg (x_ifCond .ne 11 K) ((xe_iconst (-2)).trans (congrArg (x_iconst (-2)) (xe_ireturn)))))
theorem bk_X10_standing_e_11 : ck_ fX10 (some .int) cX10_standing 11 [.iload 2] 12 = true := qck_r (nn_ _) (by decide +kernel)
theorem bs_X10_standing_e_11 {P : Zt → Option Zv → Prop} (K : Int → Zl → List Zv → Zt → Prop) : sx_ K P [.iload 2] 12 = x_iload 2 (K 12) := ((xe_iload 2).trans (congrArg (x_iload 2) xe_nil))
theorem bk_X10_standing_e_15 : ck_ fX10 (some .int) cX10_standing 15 [.ifCond .ne 21, .iconst (-3), .ireturn] 21 = true := qck_r (nn_ _) (by decide +kernel)
theorem bs_X10_standing_e_15 {P : Zt → Option Zv → Prop} (K : Int → Zl → List Zv → Zt → Prop) : sx_ K P [.ifCond .ne 21, .iconst (-3), .ireturn] 21 = x_ifCond .ne 21 K (x_iconst (-3) (x_ireturn P)) := ((xe_ifCond .ne 21).trans (congrArg (x_ifCond .ne 21 K) ((xe_iconst (-3)).trans (congrArg (x_iconst (-3)) (xe_ireturn)))))
theorem bk_X10_standing_e_21 : ck_ fX10 (some .int) cX10_standing 21 [.aload 0, .tableswitch 0 10 2 #[], .tableswitch 0 6 1 #[], .iload 1, .aaload, .astore 4, .iload 3, .aload 4, .tableswitch 0 0 5 #[]] 38 = true := qck_r (nn_ _) (by decide +kernel)
theorem bs_X10_standing_e_21 {P : Zt → Option Zv → Prop} (K : Int → Zl → List Zv → Zt → Prop) : sx_ K P [.aload 0, .tableswitch 0 10 2 #[], .tableswitch 0 6 1 #[], .iload 1, .aaload, .astore 4, .iload 3, .aload 4, .tableswitch 0 0 5 #[]] 38 = x_aload 0 (x_g1 110 106 (x_g1 106 521 (x_iload 1 (x_aaload (x_astore 4 (x_iload 3 (x_aload 4 (x_g0 100 5 0 12 (K 38))))))))) := ((xe_aload 0).trans (congrArg (x_aload 0) ((xe_g1 (kk := 110) rfl tl_10_2).trans (congrArg (x_g1 110 106) ((xe_g1 (kk := 106) rfl tl_6_1).trans (congrArg (x_g1 106 521) ((xe_iload 1).trans (congrArg (x_iload 1) ((xe_aaload).trans (congrArg (x_aaload) ((xe_astore 4).trans (congrArg (x_astore 4) ((xe_iload 3).trans (congrArg (x_iload 3) ((xe_aload 4).trans (congrArg (x_aload 4) ((xe_g0 (kk := 100) rfl tl_0_5).trans (congrArg (x_g0 100 5 0 12) xe_nil))))))))))))))))))
theorem bk_X10_standing_e_41 : ck_ fX10 (some .int) cX10_standing 41 [.ifCond .ne 46, .iconst (-1), .ireturn] 46 = true := qck_r (nn_ _) (by decide +kernel)
theorem bs_X10_standing_e_41 {P : Zt → Option Zv → Prop} (K : Int → Zl → List Zv → Zt → Prop) : sx_ K P [.ifCond .ne 46, .iconst (-1), .ireturn] 46 = x_ifCond .ne 46 K (x_iconst (-1) (x_ireturn P)) := ((xe_ifCond .ne 46).trans (congrArg (x_ifCond .ne 46 K) ((xe_iconst (-1)).trans (congrArg (x_iconst (-1)) (xe_ireturn)))))
theorem bk_X10_standing_e_46 : ck_ fX10 (some .int) cX10_standing 46 [.aload 0, .tableswitch 0 10 3 #[], .aload 4, .iload 2] 53 = true := qck_r (nn_ _) (by decide +kernel)
theorem bs_X10_standing_e_46 {P : Zt → Option Zv → Prop} (K : Int → Zl → List Zv → Zt → Prop) : sx_ K P [.aload 0, .tableswitch 0 10 3 #[], .aload 4, .iload 2] 53 = x_aload 0 (x_g1 110 107 (x_aload 4 (x_iload 2 (K 53)))) := ((xe_aload 0).trans (congrArg (x_aload 0) ((xe_g1 (kk := 110) rfl tl_10_3).trans (congrArg (x_g1 110 107) ((xe_aload 4).trans (congrArg (x_aload 4) ((xe_iload 2).trans (congrArg (x_iload 2) xe_nil))))))))
theorem bk_X10_standing_e_56 : ck_ fX10 (some .int) cX10_standing 56 [.aload 0, .tableswitch 0 10 3 #[]] 60 = true := qck_r (nn_ _) (by decide +kernel)
theorem bs_X10_standing_e_56 {P : Zt → Option Zv → Prop} (K : Int → Zl → List Zv → Zt → Prop) : sx_ K P [.aload 0, .tableswitch 0 10 3 #[]] 60 = x_aload 0 (x_g1 110 107 (K 60)) := ((xe_aload 0).trans (congrArg (x_aload 0) ((xe_g1 (kk := 110) rfl tl_10_3).trans (congrArg (x_g1 110 107) xe_nil))))
theorem bk_X10_standing_e_63 : ck_ fX10 (some .int) cX10_standing 63 [.aload 4, .tableswitch 0 0 3 #[], .aload 0, .tableswitch 0 10 3 #[], .tableswitch 0 7 7 #[], .iload 3, .iaload, .iaload, .ireturn] 79 = true := qck_r (nn_ _) (by decide +kernel)
theorem bs_X10_standing_e_63 {P : Zt → Option Zv → Prop} (K : Int → Zl → List Zv → Zt → Prop) : sx_ K P [.aload 4, .tableswitch 0 0 3 #[], .aload 0, .tableswitch 0 10 3 #[], .tableswitch 0 7 7 #[], .iload 3, .iaload, .iaload, .ireturn] 79 = x_aload 4 (x_g2 100 403 (x_aload 0 (x_g1 110 107 (x_g1 107 547 (x_iload 3 (x_iaload (x_iaload (x_ireturn P)))))))) := ((xe_aload 4).trans (congrArg (x_aload 4) ((xe_g2 (kk := 100) rfl tl_0_3).trans (congrArg (x_g2 100 403) ((xe_aload 0).trans (congrArg (x_aload 0) ((xe_g1 (kk := 110) rfl tl_10_3).trans (congrArg (x_g1 110 107) ((xe_g1 (kk := 107) rfl tl_7_7).trans (congrArg (x_g1 107 547) ((xe_iload 3).trans (congrArg (x_iload 3) ((xe_iaload).trans (congrArg (x_iaload) ((xe_iaload).trans (congrArg (x_iaload) (xe_ireturn)))))))))))))))))
abbrev po_X10_standing_e (T : Zt) (WW : Int → Int → Int → Int → Int) (c d k : Int) : Zt → Option Zv → Prop := fun T' r => ∃ x : Int, r = some (vI x) ∧ fr_ [(107, [1, 13]), (542, []), (543, []), (544, []), (545, []), (546, []), (547, []), (548, []), (549, []), (550, []), (551, []), (552, [])] T T' ∧ ((x = -2 ∧ ¬ (0 ≤ c ∧ c < T 106 0 2)) ∨ (x = -3 ∧ (0 ≤ c ∧ c < T 106 0 2) ∧ ¬ (0 ≤ d ∧ d ≤ 999)) ∨ ((0 ≤ c ∧ c < T 106 0 2) ∧ (0 ≤ d ∧ d ≤ 999) ∧ ((0 ≤ k ∧ k < T 100 c 5) → TO_ T T' c d (WW c) ∧ x = T 403 c (T' 547 0 k)) ∧ (¬ (0 ≤ k ∧ k < T 100 c 5) → x = -1)))
set_option maxHeartbeats 4000000 in
theorem ct_X10_standing_e {T : Zt} {WW : Int → Int → Int → Int → Int} {c d k : Int} (hka : KA_ T) (hkm : KM_ T) (hkc : KC_ T) (hko : KO_ T) (hks : KS_ T) (hsk : ∀ c, 0 ≤ c → c < T 106 0 2 → SK_ T c) (hno : ∀ c, 0 ≤ c → c < T 106 0 2 → T 100 c 0 = c) (hww : ∀ c, 0 ≤ c → c < T 106 0 2 → WH_9 T c d (WW c)) : Ct_ yX10_standing zX10_standing T [vR 110 0, vI c, vI d, vI k] (po_X10_standing_e T WW c d k) := by
  refine ct_of pn_10 rfl rfl (Nat.le_of_ble_eq_true rfl) (fun hT hav => ?_)
  have hr_c : -2147483648 ≤ c ∧ c ≤ 2147483647 := hav (vI c) (List.mem_cons_of_mem _ List.mem_cons_self)
  have hr_d : -2147483648 ≤ d ∧ d ≤ 2147483647 := hav (vI d) (List.mem_cons_of_mem _ (List.mem_cons_of_mem _ List.mem_cons_self))
  have hr_k : -2147483648 ≤ k ∧ k ≤ 2147483647 := hav (vI k) (List.mem_cons_of_mem _ (List.mem_cons_of_mem _ (List.mem_cons_of_mem _ List.mem_cons_self)))
  have hz : zX10_standing.2.2.2.1 = some .boolean → ∀ (T' : Zt) (x : Int), po_X10_standing_e T WW c d k T' (some (vI x)) → 0 ≤ x ∧ x ≤ 1 := fun h => by cases h
  have hcc : 0 ≤ T 106 0 2 ∧ T 106 0 2 ≤ 4 := bd_f hT 106 2 tl_6_2 0
  have hb_clubs : 0 ≤ T 108 0 2 ∧ T 108 0 2 ≤ 12 := bd_f hT 108 2 tl_8_2 0
  show J_ zX10_standing T (po_X10_standing_e T WW c d k) 0 0 0 [some (vR 110 0), some (vI c), some (vI d), some (vI k), none] [] T
  refine j_blx (F := fX10) tb_X10 (nn_ _) bk_X10_standing_e_0 bs_X10_standing_e_0 hz (fun K hK => ?_)
  refine hK 2 _ [vI c, vR 110 0] T ?_
  refine j_callV (y := yX10_isCompetition) (Yc := zX10_isCompetition) (rest := []) [vI c] (ct_X10_isCompetition (T := T)) cl_X10_107 (qd_c (by decide +kernel)) (nn_ _) rfl (rf_of rfl) (Nat.le_of_ble_eq_true rfl) (Nat.le_of_ble_eq_true rfl) (Nat.le_of_ble_eq_true rfl) rfl ?_
  rintro _ _ ⟨rfl, x1, rfl, hx1⟩
  show J_ zX10_standing T (po_X10_standing_e T WW c d k) 0 0 5 _ [vI x1] T
  refine j_blx (F := fX10) tb_X10 (nn_ _) bk_X10_standing_e_5 bs_X10_standing_e_5 hz (fun K hK => ?_)
  refine And.intro (fun c2 => ?_) (fun c2 => ?_)
  · replace hx1 := hx1.resolve_right (fun z => c2 z.1)
    clear c2
    refine hK 11 _ [] T ?_
    refine j_blx (F := fX10) tb_X10 (nn_ _) bk_X10_standing_e_11 bs_X10_standing_e_11 hz (fun K hK => ?_)
    refine hK 12 _ [vI d] T ?_
    refine j_callS (y := yX10_isDay) (Yc := zX10_isDay) (rest := []) [vI d] (ct_X10_isDay (T := T)) cl_X10_140 (qd_c (by decide +kernel)) (nn_ _) rfl (rf_of rfl) (Nat.le_of_ble_eq_true rfl) (Nat.le_of_ble_eq_true rfl) (Nat.le_of_ble_eq_true rfl) rfl ?_
    rintro _ _ ⟨rfl, x3, rfl, hx3⟩
    show J_ zX10_standing T (po_X10_standing_e T WW c d k) 0 0 15 _ [vI x3] T
    refine j_blx (F := fX10) tb_X10 (nn_ _) bk_X10_standing_e_15 bs_X10_standing_e_15 hz (fun K hK => ?_)
    refine And.intro (fun c4 => ?_) (fun c4 => ?_)
    · replace hx3 := hx3.resolve_right (fun z => c4 z.1)
      clear c4
      refine hK 21 _ [] T ?_
      refine j_blx (F := fX10) tb_X10 (nn_ _) bk_X10_standing_e_21 bs_X10_standing_e_21 hz (fun K hK => ?_)
      refine ix_i (by omega) ?_
      refine And.intro (fun c5 => ?_) (fun c5 => ?_)
      · exact absurd (show T 521 0 c = 0 by omega) (hka.1 _ (by omega) (by omega))
      · intro b6 b6b
        refine hK 38 [some (vR 110 0), some (vI c), some (vI d), some (vI k), some (vR 100 c)] [vI (T 100 c 5), vI k] T ?_
        refine j_callS (y := yX10_isBelow) (Yc := zX10_isBelow) (rest := []) [vI k, vI (T 100 c 5)] (ct_X10_isBelow (T := T)) cl_X10_115 (qd_c (by decide +kernel)) (nn_ _) rfl (rf_of rfl) (Nat.le_of_ble_eq_true rfl) (Nat.le_of_ble_eq_true rfl) (Nat.le_of_ble_eq_true rfl) rfl ?_
        rintro _ _ ⟨rfl, x7, rfl, hx7⟩
        show J_ zX10_standing T (po_X10_standing_e T WW c d k) 0 0 41 _ [vI x7] T
        refine j_blx (F := fX10) tb_X10 (nn_ _) bk_X10_standing_e_41 bs_X10_standing_e_41 hz (fun K hK => ?_)
        refine And.intro (fun c8 => ?_) (fun c8 => ?_)
        · replace hx7 := hx7.resolve_right (fun z => c8 z.1)
          clear c8
          refine hK 46 _ [] T ?_
          refine j_blx (F := fX10) tb_X10 (nn_ _) bk_X10_standing_e_46 bs_X10_standing_e_46 hz (fun K hK => ?_)
          refine hK 53 _ [vI d, vR 100 c, vR 107 0] T ?_
          refine j_callV (y := yX7_tally) (Yc := zX7_tally) (rest := []) [vR 100 c, vI d] (ct_X7_tally_e (T := T) (c := c) hka hkc (by omega) hks (hsk c (by omega) (by omega)) (hno c (by omega) (by omega))) cl_X10_350 (qd_c (by decide +kernel)) (nn_ _) rfl (rf_of rfl) (Nat.le_of_ble_eq_true rfl) (Nat.le_of_ble_eq_true rfl) (Nat.le_of_ble_eq_true rfl) rfl ?_
          rintro U9 _ ⟨rfl, fU9, qU9, qU9h⟩
          refine j_ok (fun hT9 _ => ?_)
          have ww9 := hww c (by omega) (by omega) U9 fU9 hT9 qU9h
          show J_ zX10_standing T (po_X10_standing_e T WW c d k) 0 0 56 _ [] U9
          refine j_blx (F := fX10) tb_X10 (nn_ _) bk_X10_standing_e_56 bs_X10_standing_e_56 hz (fun K hK => ?_)
          refine hK 60 _ [vR 107 0] U9 ?_
          have e10 : U9 401 c 4 = T 401 c 4 := fU9 401 c 4 rfl
          have hk9 := hko c (by omega) (by omega)
          have hb4 : 0 ≤ T 401 c 4 ∧ T 401 c 4 ≤ 999 := bd_a hT 401 (by decide +kernel : ta_ 401 = some (1, some 16, 0, 999)) c (by omega)
          refine j_callV (y := yX7_rank) (Yc := zX7_rank) (rest := []) [] (ct_X7_rank_e (T := U9) (c := c) (WW := WW c) (by omega) ww9.1 (by omega) ww9.2) cl_X10_353 (qd_c (by decide +kernel)) (nn_ _) rfl (rf_of rfl) (Nat.le_of_ble_eq_true rfl) (Nat.le_of_ble_eq_true rfl) (Nat.le_of_ble_eq_true rfl) rfl ?_
          rintro U11 _ ⟨rfl, fU11, qU11⟩
          have to9 : TO_ T U11 c d (WW c) := to_i fU9 qU9h qU11
          show J_ zX10_standing T (po_X10_standing_e T WW c d k) 0 0 63 _ [] U11
          refine j_blx (F := fX10) tb_X10 (nn_ _) bk_X10_standing_e_63 bs_X10_standing_e_63 hz (fun K hK => ?_)
          refine ix_i (by omega) ?_
          intro b12 b12b
          refine ix_i (by omega) ?_
          intro b13 b13b
          have e14 : U11 403 c (U11 547 0 k) = T 403 c (U11 547 0 k) := (fU11 403 c (U11 547 0 k) rfl).trans (fU9 403 c (U11 547 0 k) rfl)
          rw [e14] at b13 b13b ⊢
          refine (show po_X10_standing_e T WW c d k U11 (some (vI (T 403 c (U11 547 0 k)))) from ?_)
          exact ⟨_, rfl, fr_t (fr_t (fr_0 _ _) (fr_s fU9 rfl)) (fr_s fU11 rfl), Or.inr (Or.inr ⟨by omega, by omega, fun _ => ⟨to9, rfl⟩, fun z => absurd (by omega) z⟩)⟩
        · replace hx7 := hx7.resolve_left (fun z => absurd (c8.symm.trans z.1) (by decide))
          clear c8
          refine (show po_X10_standing_e T WW c d k T (some (vI (-1))) from ?_)
          exact ⟨_, rfl, fr_0 _ _, Or.inr (Or.inr ⟨by omega, by omega, fun z => absurd z (by omega), fun _ => rfl⟩)⟩
    · replace hx3 := hx3.resolve_left (fun z => absurd (c4.symm.trans z.1) (by decide))
      clear c4
      refine (show po_X10_standing_e T WW c d k T (some (vI (-3))) from ?_)
      exact ⟨_, rfl, fr_0 _ _, Or.inr (Or.inl ⟨rfl, by omega, by omega⟩)⟩
  · replace hx1 := hx1.resolve_left (fun z => absurd (c2.symm.trans z.1) (by decide))
    clear c2
    refine (show po_X10_standing_e T WW c d k T (some (vI (-2))) from ?_)
    exact ⟨_, rfl, fr_0 _ _, Or.inl ⟨rfl, by omega⟩⟩
theorem bk_X10_parted_e_0 : ck_ fX10 (some .int) cX10_parted 0 [.aload 0, .iload 1] 2 = true := qck_r (nn_ _) (by decide +kernel)
theorem bs_X10_parted_e_0 {P : Zt → Option Zv → Prop} (K : Int → Zl → List Zv → Zt → Prop) : sx_ K P [.aload 0, .iload 1] 2 = x_aload 0 (x_iload 1 (K 2)) := ((xe_aload 0).trans (congrArg (x_aload 0) ((xe_iload 1).trans (congrArg (x_iload 1) xe_nil))))
theorem bk_X10_parted_e_5 : ck_ fX10 (some .int) cX10_parted 5 [.ifCond .ne 11, .iconst (-2), .ireturn] 11 = true := qck_r (nn_ _) (by decide +kernel)
theorem bs_X10_parted_e_5 {P : Zt → Option Zv → Prop} (K : Int → Zl → List Zv → Zt → Prop) : sx_ K P [.ifCond .ne 11, .iconst (-2), .ireturn] 11 = x_ifCond .ne 11 K (x_iconst (-2) (x_ireturn P)) := ((xe_ifCond .ne 11).trans (congrArg (x_ifCond .ne 11 K) ((xe_iconst (-2)).trans (congrArg (x_iconst (-2)) (xe_ireturn)))))
theorem bk_X10_parted_e_11 : ck_ fX10 (some .int) cX10_parted 11 [.iload 2] 12 = true := qck_r (nn_ _) (by decide +kernel)
theorem bs_X10_parted_e_11 {P : Zt → Option Zv → Prop} (K : Int → Zl → List Zv → Zt → Prop) : sx_ K P [.iload 2] 12 = x_iload 2 (K 12) := ((xe_iload 2).trans (congrArg (x_iload 2) xe_nil))
theorem bk_X10_parted_e_15 : ck_ fX10 (some .int) cX10_parted 15 [.ifCond .ne 21, .iconst (-3), .ireturn] 21 = true := qck_r (nn_ _) (by decide +kernel)
theorem bs_X10_parted_e_15 {P : Zt → Option Zv → Prop} (K : Int → Zl → List Zv → Zt → Prop) : sx_ K P [.ifCond .ne 21, .iconst (-3), .ireturn] 21 = x_ifCond .ne 21 K (x_iconst (-3) (x_ireturn P)) := ((xe_ifCond .ne 21).trans (congrArg (x_ifCond .ne 21 K) ((xe_iconst (-3)).trans (congrArg (x_iconst (-3)) (xe_ireturn)))))
theorem bk_X10_parted_e_21 : ck_ fX10 (some .int) cX10_parted 21 [.aload 0, .tableswitch 0 10 2 #[], .tableswitch 0 6 1 #[], .iload 1, .aaload, .astore 4, .iload 3, .aload 4, .tableswitch 0 0 5 #[], .iconst 1, .isub] 40 = true := qck_r (nn_ _) (by decide +kernel)
theorem bs_X10_parted_e_21 {P : Zt → Option Zv → Prop} (K : Int → Zl → List Zv → Zt → Prop) : sx_ K P [.aload 0, .tableswitch 0 10 2 #[], .tableswitch 0 6 1 #[], .iload 1, .aaload, .astore 4, .iload 3, .aload 4, .tableswitch 0 0 5 #[], .iconst 1, .isub] 40 = x_aload 0 (x_g1 110 106 (x_g1 106 521 (x_iload 1 (x_aaload (x_astore 4 (x_iload 3 (x_aload 4 (x_g0 100 5 0 12 (x_iconst 1 (x_isub (K 40))))))))))) := ((xe_aload 0).trans (congrArg (x_aload 0) ((xe_g1 (kk := 110) rfl tl_10_2).trans (congrArg (x_g1 110 106) ((xe_g1 (kk := 106) rfl tl_6_1).trans (congrArg (x_g1 106 521) ((xe_iload 1).trans (congrArg (x_iload 1) ((xe_aaload).trans (congrArg (x_aaload) ((xe_astore 4).trans (congrArg (x_astore 4) ((xe_iload 3).trans (congrArg (x_iload 3) ((xe_aload 4).trans (congrArg (x_aload 4) ((xe_g0 (kk := 100) rfl tl_0_5).trans (congrArg (x_g0 100 5 0 12) ((xe_iconst 1).trans (congrArg (x_iconst 1) ((xe_isub).trans (congrArg (x_isub) xe_nil))))))))))))))))))))))
theorem bk_X10_parted_e_43 : ck_ fX10 (some .int) cX10_parted 43 [.ifCond .ne 48, .iconst (-1), .ireturn] 48 = true := qck_r (nn_ _) (by decide +kernel)
theorem bs_X10_parted_e_43 {P : Zt → Option Zv → Prop} (K : Int → Zl → List Zv → Zt → Prop) : sx_ K P [.ifCond .ne 48, .iconst (-1), .ireturn] 48 = x_ifCond .ne 48 K (x_iconst (-1) (x_ireturn P)) := ((xe_ifCond .ne 48).trans (congrArg (x_ifCond .ne 48 K) ((xe_iconst (-1)).trans (congrArg (x_iconst (-1)) (xe_ireturn)))))
theorem bk_X10_parted_e_48 : ck_ fX10 (some .int) cX10_parted 48 [.aload 0, .tableswitch 0 10 3 #[], .aload 4, .iload 2] 55 = true := qck_r (nn_ _) (by decide +kernel)
theorem bs_X10_parted_e_48 {P : Zt → Option Zv → Prop} (K : Int → Zl → List Zv → Zt → Prop) : sx_ K P [.aload 0, .tableswitch 0 10 3 #[], .aload 4, .iload 2] 55 = x_aload 0 (x_g1 110 107 (x_aload 4 (x_iload 2 (K 55)))) := ((xe_aload 0).trans (congrArg (x_aload 0) ((xe_g1 (kk := 110) rfl tl_10_3).trans (congrArg (x_g1 110 107) ((xe_aload 4).trans (congrArg (x_aload 4) ((xe_iload 2).trans (congrArg (x_iload 2) xe_nil))))))))
theorem bk_X10_parted_e_58 : ck_ fX10 (some .int) cX10_parted 58 [.aload 0, .tableswitch 0 10 3 #[]] 62 = true := qck_r (nn_ _) (by decide +kernel)
theorem bs_X10_parted_e_58 {P : Zt → Option Zv → Prop} (K : Int → Zl → List Zv → Zt → Prop) : sx_ K P [.aload 0, .tableswitch 0 10 3 #[]] 62 = x_aload 0 (x_g1 110 107 (K 62)) := ((xe_aload 0).trans (congrArg (x_aload 0) ((xe_g1 (kk := 110) rfl tl_10_3).trans (congrArg (x_g1 110 107) xe_nil))))
theorem bk_X10_parted_e_65 : ck_ fX10 (some .int) cX10_parted 65 [.aload 0, .tableswitch 0 10 3 #[], .tableswitch 0 7 8 #[], .iload 3, .iaload, .ireturn] 75 = true := qck_r (nn_ _) (by decide +kernel)
theorem bs_X10_parted_e_65 {P : Zt → Option Zv → Prop} (K : Int → Zl → List Zv → Zt → Prop) : sx_ K P [.aload 0, .tableswitch 0 10 3 #[], .tableswitch 0 7 8 #[], .iload 3, .iaload, .ireturn] 75 = x_aload 0 (x_g1 110 107 (x_g1 107 548 (x_iload 3 (x_iaload (x_ireturn P))))) := ((xe_aload 0).trans (congrArg (x_aload 0) ((xe_g1 (kk := 110) rfl tl_10_3).trans (congrArg (x_g1 110 107) ((xe_g1 (kk := 107) rfl tl_7_8).trans (congrArg (x_g1 107 548) ((xe_iload 3).trans (congrArg (x_iload 3) ((xe_iaload).trans (congrArg (x_iaload) (xe_ireturn)))))))))))
abbrev po_X10_parted_e (T : Zt) (WW : Int → Int → Int → Int → Int) (c d k : Int) : Zt → Option Zv → Prop := fun T' r => ∃ x : Int, r = some (vI x) ∧ fr_ [(107, [1, 13]), (542, []), (543, []), (544, []), (545, []), (546, []), (547, []), (548, []), (549, []), (550, []), (551, []), (552, [])] T T' ∧ ((x = -2 ∧ ¬ (0 ≤ c ∧ c < T 106 0 2)) ∨ (x = -3 ∧ (0 ≤ c ∧ c < T 106 0 2) ∧ ¬ (0 ≤ d ∧ d ≤ 999)) ∨ ((0 ≤ c ∧ c < T 106 0 2) ∧ (0 ≤ d ∧ d ≤ 999) ∧ ((0 ≤ k ∧ k < T 100 c 5 - 1) → TO_ T T' c d (WW c) ∧ x = T' 548 0 k) ∧ (¬ (0 ≤ k ∧ k < T 100 c 5 - 1) → x = -1)))
set_option maxHeartbeats 4000000 in
theorem ct_X10_parted_e {T : Zt} {WW : Int → Int → Int → Int → Int} {c d k : Int} (hka : KA_ T) (hkm : KM_ T) (hkc : KC_ T) (hko : KO_ T) (hks : KS_ T) (hsk : ∀ c, 0 ≤ c → c < T 106 0 2 → SK_ T c) (hno : ∀ c, 0 ≤ c → c < T 106 0 2 → T 100 c 0 = c) (hww : ∀ c, 0 ≤ c → c < T 106 0 2 → WH_9 T c d (WW c)) : Ct_ yX10_parted zX10_parted T [vR 110 0, vI c, vI d, vI k] (po_X10_parted_e T WW c d k) := by
  refine ct_of pn_10 rfl rfl (Nat.le_of_ble_eq_true rfl) (fun hT hav => ?_)
  have hr_c : -2147483648 ≤ c ∧ c ≤ 2147483647 := hav (vI c) (List.mem_cons_of_mem _ List.mem_cons_self)
  have hr_d : -2147483648 ≤ d ∧ d ≤ 2147483647 := hav (vI d) (List.mem_cons_of_mem _ (List.mem_cons_of_mem _ List.mem_cons_self))
  have hr_k : -2147483648 ≤ k ∧ k ≤ 2147483647 := hav (vI k) (List.mem_cons_of_mem _ (List.mem_cons_of_mem _ (List.mem_cons_of_mem _ List.mem_cons_self)))
  have hz : zX10_parted.2.2.2.1 = some .boolean → ∀ (T' : Zt) (x : Int), po_X10_parted_e T WW c d k T' (some (vI x)) → 0 ≤ x ∧ x ≤ 1 := fun h => by cases h
  have hcc : 0 ≤ T 106 0 2 ∧ T 106 0 2 ≤ 4 := bd_f hT 106 2 tl_6_2 0
  have hb_clubs : 0 ≤ T 108 0 2 ∧ T 108 0 2 ≤ 12 := bd_f hT 108 2 tl_8_2 0
  show J_ zX10_parted T (po_X10_parted_e T WW c d k) 0 0 0 [some (vR 110 0), some (vI c), some (vI d), some (vI k), none] [] T
  refine j_blx (F := fX10) tb_X10 (nn_ _) bk_X10_parted_e_0 bs_X10_parted_e_0 hz (fun K hK => ?_)
  refine hK 2 _ [vI c, vR 110 0] T ?_
  refine j_callV (y := yX10_isCompetition) (Yc := zX10_isCompetition) (rest := []) [vI c] (ct_X10_isCompetition (T := T)) cl_X10_107 (qd_c (by decide +kernel)) (nn_ _) rfl (rf_of rfl) (Nat.le_of_ble_eq_true rfl) (Nat.le_of_ble_eq_true rfl) (Nat.le_of_ble_eq_true rfl) rfl ?_
  rintro _ _ ⟨rfl, x1, rfl, hx1⟩
  show J_ zX10_parted T (po_X10_parted_e T WW c d k) 0 0 5 _ [vI x1] T
  refine j_blx (F := fX10) tb_X10 (nn_ _) bk_X10_parted_e_5 bs_X10_parted_e_5 hz (fun K hK => ?_)
  refine And.intro (fun c2 => ?_) (fun c2 => ?_)
  · replace hx1 := hx1.resolve_right (fun z => c2 z.1)
    clear c2
    refine hK 11 _ [] T ?_
    refine j_blx (F := fX10) tb_X10 (nn_ _) bk_X10_parted_e_11 bs_X10_parted_e_11 hz (fun K hK => ?_)
    refine hK 12 _ [vI d] T ?_
    refine j_callS (y := yX10_isDay) (Yc := zX10_isDay) (rest := []) [vI d] (ct_X10_isDay (T := T)) cl_X10_140 (qd_c (by decide +kernel)) (nn_ _) rfl (rf_of rfl) (Nat.le_of_ble_eq_true rfl) (Nat.le_of_ble_eq_true rfl) (Nat.le_of_ble_eq_true rfl) rfl ?_
    rintro _ _ ⟨rfl, x3, rfl, hx3⟩
    show J_ zX10_parted T (po_X10_parted_e T WW c d k) 0 0 15 _ [vI x3] T
    refine j_blx (F := fX10) tb_X10 (nn_ _) bk_X10_parted_e_15 bs_X10_parted_e_15 hz (fun K hK => ?_)
    refine And.intro (fun c4 => ?_) (fun c4 => ?_)
    · replace hx3 := hx3.resolve_right (fun z => c4 z.1)
      clear c4
      refine hK 21 _ [] T ?_
      refine j_blx (F := fX10) tb_X10 (nn_ _) bk_X10_parted_e_21 bs_X10_parted_e_21 hz (fun K hK => ?_)
      refine ix_i (by omega) ?_
      refine And.intro (fun c5 => ?_) (fun c5 => ?_)
      · exact absurd (show T 521 0 c = 0 by omega) (hka.1 _ (by omega) (by omega))
      · intro b6 b6b
        refine rg_i (by omega) ?_
        refine hK 40 [some (vR 110 0), some (vI c), some (vI d), some (vI k), some (vR 100 c)] [vI ((T 100 c 5) - 1), vI k] T ?_
        refine j_callS (y := yX10_isBelow) (Yc := zX10_isBelow) (rest := []) [vI k, vI ((T 100 c 5) - 1)] (ct_X10_isBelow (T := T)) cl_X10_115 (qd_c (by decide +kernel)) (nn_ _) rfl (rf_of rfl) (Nat.le_of_ble_eq_true rfl) (Nat.le_of_ble_eq_true rfl) (Nat.le_of_ble_eq_true rfl) rfl ?_
        rintro _ _ ⟨rfl, x7, rfl, hx7⟩
        show J_ zX10_parted T (po_X10_parted_e T WW c d k) 0 0 43 _ [vI x7] T
        refine j_blx (F := fX10) tb_X10 (nn_ _) bk_X10_parted_e_43 bs_X10_parted_e_43 hz (fun K hK => ?_)
        refine And.intro (fun c8 => ?_) (fun c8 => ?_)
        · replace hx7 := hx7.resolve_right (fun z => c8 z.1)
          clear c8
          refine hK 48 _ [] T ?_
          refine j_blx (F := fX10) tb_X10 (nn_ _) bk_X10_parted_e_48 bs_X10_parted_e_48 hz (fun K hK => ?_)
          refine hK 55 _ [vI d, vR 100 c, vR 107 0] T ?_
          refine j_callV (y := yX7_tally) (Yc := zX7_tally) (rest := []) [vR 100 c, vI d] (ct_X7_tally_e (T := T) (c := c) hka hkc (by omega) hks (hsk c (by omega) (by omega)) (hno c (by omega) (by omega))) cl_X10_350 (qd_c (by decide +kernel)) (nn_ _) rfl (rf_of rfl) (Nat.le_of_ble_eq_true rfl) (Nat.le_of_ble_eq_true rfl) (Nat.le_of_ble_eq_true rfl) rfl ?_
          rintro U9 _ ⟨rfl, fU9, qU9, qU9h⟩
          refine j_ok (fun hT9 _ => ?_)
          have ww9 := hww c (by omega) (by omega) U9 fU9 hT9 qU9h
          show J_ zX10_parted T (po_X10_parted_e T WW c d k) 0 0 58 _ [] U9
          refine j_blx (F := fX10) tb_X10 (nn_ _) bk_X10_parted_e_58 bs_X10_parted_e_58 hz (fun K hK => ?_)
          refine hK 62 _ [vR 107 0] U9 ?_
          have e10 : U9 401 c 4 = T 401 c 4 := fU9 401 c 4 rfl
          have hk9 := hko c (by omega) (by omega)
          have hb4 : 0 ≤ T 401 c 4 ∧ T 401 c 4 ≤ 999 := bd_a hT 401 (by decide +kernel : ta_ 401 = some (1, some 16, 0, 999)) c (by omega)
          refine j_callV (y := yX7_rank) (Yc := zX7_rank) (rest := []) [] (ct_X7_rank_e (T := U9) (c := c) (WW := WW c) (by omega) ww9.1 (by omega) ww9.2) cl_X10_353 (qd_c (by decide +kernel)) (nn_ _) rfl (rf_of rfl) (Nat.le_of_ble_eq_true rfl) (Nat.le_of_ble_eq_true rfl) (Nat.le_of_ble_eq_true rfl) rfl ?_
          rintro U11 _ ⟨rfl, fU11, qU11⟩
          have to9 : TO_ T U11 c d (WW c) := to_i fU9 qU9h qU11
          show J_ zX10_parted T (po_X10_parted_e T WW c d k) 0 0 65 _ [] U11
          refine j_blx (F := fX10) tb_X10 (nn_ _) bk_X10_parted_e_65 bs_X10_parted_e_65 hz (fun K hK => ?_)
          refine ix_i (by omega) ?_
          intro b12 b12b
          refine (show po_X10_parted_e T WW c d k U11 (some (vI (U11 548 0 k))) from ?_)
          exact ⟨_, rfl, fr_t (fr_t (fr_0 _ _) (fr_s fU9 rfl)) (fr_s fU11 rfl), Or.inr (Or.inr ⟨by omega, by omega, fun _ => ⟨to9, rfl⟩, fun z => absurd (by omega) z⟩)⟩
        · replace hx7 := hx7.resolve_left (fun z => absurd (c8.symm.trans z.1) (by decide))
          clear c8
          refine (show po_X10_parted_e T WW c d k T (some (vI (-1))) from ?_)
          exact ⟨_, rfl, fr_0 _ _, Or.inr (Or.inr ⟨by omega, by omega, fun z => absurd z (by omega), fun _ => rfl⟩)⟩
    · replace hx3 := hx3.resolve_left (fun z => absurd (c4.symm.trans z.1) (by decide))
      clear c4
      refine (show po_X10_parted_e T WW c d k T (some (vI (-3))) from ?_)
      exact ⟨_, rfl, fr_0 _ _, Or.inr (Or.inl ⟨rfl, by omega, by omega⟩)⟩
  · replace hx1 := hx1.resolve_left (fun z => absurd (c2.symm.trans z.1) (by decide))
    clear c2
    refine (show po_X10_parted_e T WW c d k T (some (vI (-2))) from ?_)
    exact ⟨_, rfl, fr_0 _ _, Or.inl ⟨rfl, by omega⟩⟩
-- tables: bounds, and both sides alike
def bsm9_ (b : Int → Int) : Nat → Int
  | 0 => 0
  | n + 1 => bsm9_ b n + b (n : Int)
/-- the results of the first n matches are bounded -/
def BV_ (n : Int) (v : Mv_) (b : Int → Int) : Prop := ∀ k : Int, 0 ≤ k → k < n → 0 ≤ b k ∧ (v k 0 = 1 → (0 ≤ v k 3 ∧ v k 3 ≤ b k) ∧ (0 ≤ v k 4 ∧ v k 4 ≤ b k) ∧ (0 ≤ v k 5 ∧ v k 5 ≤ 31000) ∧ (0 ≤ v k 6 ∧ v k 6 ≤ 31000))
theorem gh_b {ru : Int → Int} {v : Mv_} {g x k b : Int} (hb : 0 ≤ b) (h : v k 0 = 1 → (0 ≤ v k 3 ∧ v k 3 ≤ b) ∧ (0 ≤ v k 4 ∧ v k 4 ≤ b)) : (-b ≤ gh9_ ru v g x 1 k ∧ gh9_ ru v g x 1 k ≤ b) ∧ (0 ≤ gh9_ ru v g x 2 k ∧ gh9_ ru v g x 2 k ≤ 2 * b) := by
  unfold gh9_
  by_cases z : v k 0 = 1 ∧ mb9_ g (v k 1) ∧ mb9_ g (v k 2)
  · have y := h z.1
    have e1 : gv9_ ru 1 (v k 3) (v k 4) = v k 3 - v k 4 := rfl
    have e2 : gv9_ ru 1 (v k 4) (v k 3) = v k 4 - v k 3 := rfl
    have e3 : gv9_ ru 2 (v k 3) (v k 4) = v k 3 := rfl
    have e4 : gv9_ ru 2 (v k 4) (v k 3) = v k 4 := rfl
    rw [cz_t z, cz_t z, e1, e2, e3, e4]
    by_cases a : v k 1 = x
    · by_cases c : v k 2 = x
      · rw [cz_t a, cz_t c, cz_t a, cz_t c]; omega
      · rw [cz_t a, cz_f c, cz_t a, cz_f c]; omega
    · by_cases c : v k 2 = x
      · rw [cz_f a, cz_t c, cz_f a, cz_t c]; omega
      · rw [cz_f a, cz_f c, cz_f a, cz_f c]; omega
  · rw [cz_f z, cz_f z]; omega
theorem gn_b {ru : Int → Int} {v : Mv_} {g x : Int} {b : Int → Int} : ∀ n : Nat, BV_ (n : Int) v b → (-(bsm9_ b n) ≤ gn9_ ru v g x 1 n ∧ gn9_ ru v g x 1 n ≤ bsm9_ b n) ∧ (0 ≤ gn9_ ru v g x 2 n ∧ gn9_ ru v g x 2 n ≤ 2 * bsm9_ b n)
  | 0, _ => ⟨⟨Int.le_refl _, Int.le_refl _⟩, ⟨Int.le_refl _, Int.le_refl _⟩⟩
  | n + 1, h => by
    have i := gn_b (ru := ru) (g := g) (x := x) n (fun k a c => h k a (by omega))
    have y := h (n : Int) (by omega) (by omega)
    have d := gh_b (ru := ru) (v := v) (g := g) (x := x) (k := (n : Int)) y.1 (fun z => ⟨(y.2 z).1, (y.2 z).2.1⟩)
    have e0 : bsm9_ b (n + 1) = bsm9_ b n + b (n : Int) := rfl
    have e1 : gn9_ ru v g x 1 (n + 1) = gn9_ ru v g x 1 n + gh9_ ru v g x 1 (n : Int) := rfl
    have e2 : gn9_ ru v g x 2 (n + 1) = gn9_ ru v g x 2 n + gh9_ ru v g x 2 (n : Int) := rfl
    omega
theorem pt_b {ru : Int → Int} {a b : Int} (h : (0 ≤ ru 1 ∧ ru 1 ≤ 9) ∧ (0 ≤ ru 2 ∧ ru 2 ≤ 9) ∧ (0 ≤ ru 3 ∧ ru 3 ≤ 9)) : 0 ≤ ptm9_ ru a b ∧ ptm9_ ru a b ≤ 9 := by
  unfold ptm9_
  by_cases z : b < a
  · rw [if_pos z]; exact h.1
  · rw [if_neg z]
    by_cases y : a = b
    · rw [if_pos y]; exact h.2.1
    · rw [if_neg y]; exact h.2.2
theorem hp_b {ru : Int → Int} {v : Mv_} {x y : Int} (h : (0 ≤ ru 1 ∧ ru 1 ≤ 9) ∧ (0 ≤ ru 2 ∧ ru 2 ≤ 9) ∧ (0 ≤ ru 3 ∧ ru 3 ≤ 9)) : ∀ n : Nat, 0 ≤ hp9_ ru v x y n ∧ hp9_ ru v x y n ≤ 18 * (n : Int)
  | 0 => ⟨Int.le_refl _, by show (0 : Int) ≤ 18 * ((0 : Nat) : Int); omega⟩
  | n + 1 => by
    have i := hp_b (v := v) (x := x) (y := y) h n
    have e : hp9_ ru v x y (n + 1) = hp9_ ru v x y n + hq9_ ru v x y (n : Int) := rfl
    have d : 0 ≤ hq9_ ru v x y (n : Int) ∧ hq9_ ru v x y (n : Int) ≤ 18 := by
      have p := pt_b (a := v (n : Int) 3) (b := v (n : Int) 4) h
      have q := pt_b (a := v (n : Int) 4) (b := v (n : Int) 3) h
      unfold hq9_
      by_cases z : v (n : Int) 0 = 1
      · rw [cz_t z]
        by_cases a : v (n : Int) 1 = x ∧ v (n : Int) 2 = y
        · by_cases c : v (n : Int) 2 = x ∧ v (n : Int) 1 = y
          · rw [cz_t a, cz_t c]; omega
          · rw [cz_t a, cz_f c]; omega
        · by_cases c : v (n : Int) 2 = x ∧ v (n : Int) 1 = y
          · rw [cz_f a, cz_t c]; omega
          · rw [cz_f a, cz_f c]; omega
      · rw [cz_f z]; omega
    omega
theorem hs_b {v : Mv_} {x y : Int} {b : Int → Int} : ∀ n : Nat, BV_ (n : Int) v b → 0 ≤ hs9_ v x y n ∧ hs9_ v x y n ≤ 2 * bsm9_ b n
  | 0, _ => ⟨Int.le_refl _, Int.le_refl _⟩
  | n + 1, h => by
    have i := hs_b (x := x) (y := y) n (fun k a c => h k a (by omega))
    have g := h (n : Int) (by omega) (by omega)
    have e0 : bsm9_ b (n + 1) = bsm9_ b n + b (n : Int) := rfl
    have e : hs9_ v x y (n + 1) = hs9_ v x y n + hg9_ v x y (n : Int) := rfl
    have d : 0 ≤ hg9_ v x y (n : Int) ∧ hg9_ v x y (n : Int) ≤ 2 * b (n : Int) := by
      unfold hg9_
      by_cases z : v (n : Int) 0 = 1
      · have q := g.2 z
        rw [cz_t z]
        by_cases a : v (n : Int) 1 = x ∧ v (n : Int) 2 = y
        · by_cases c : v (n : Int) 2 = x ∧ v (n : Int) 1 = y
          · rw [cz_t a, cz_t c]; omega
          · rw [cz_t a, cz_f c]; omega
        · by_cases c : v (n : Int) 2 = x ∧ v (n : Int) 1 = y
          · rw [cz_f a, cz_t c]; omega
          · rw [cz_f a, cz_f c]; omega
      · rw [cz_f z]
        have := g.1
        omega
    omega
theorem cv_b {ru : Int → Int} {w a b m : Int} (h : (0 ≤ ru 1 ∧ ru 1 ≤ 9) ∧ (0 ≤ ru 2 ∧ ru 2 ≤ 9) ∧ (0 ≤ ru 3 ∧ ru 3 ≤ 9)) (ha : 0 ≤ a ∧ a ≤ m) (hb : 0 ≤ b ∧ b ≤ m) : 0 ≤ cv9_ ru w a b ∧ cv9_ ru w a b ≤ m + 9 := by
  have p := pt_b (a := a) (b := b) h
  unfold cv9_
  split
  · omega
  · split
    · split <;> omega
    · split
      · split <;> omega
      · split
        · split <;> omega
        · split
          · omega
          · split <;> omega
theorem td_b {ru : Int → Int} {v : Mv_} {x w k b : Int} (h : (0 ≤ ru 1 ∧ ru 1 ≤ 9) ∧ (0 ≤ ru 2 ∧ ru 2 ≤ 9) ∧ (0 ≤ ru 3 ∧ ru 3 ≤ 9)) (hb : 0 ≤ b) (g : v k 0 = 1 → (0 ≤ v k 3 ∧ v k 3 ≤ b) ∧ (0 ≤ v k 4 ∧ v k 4 ≤ b) ∧ (0 ≤ v k 5 ∧ v k 5 ≤ 31000) ∧ (0 ≤ v k 6 ∧ v k 6 ≤ 31000)) : 0 ≤ td9_ ru v x w k ∧ td9_ ru v x w k ≤ 62000 + 2 * b := by
  by_cases z : v k 0 = 1
  · obtain ⟨g3, g4, g5, g6⟩ := g z
    have c1 := cv_b (w := w) h g3 g4
    have c2 := cv_b (w := w) h g4 g3
    rw [td_1 z]
    split
    · split <;> omega
    · split
      · split <;> split <;> omega
      · split <;> split <;> omega
  · rw [td_0 z]; omega
theorem tn_b {ru : Int → Int} {v : Mv_} {x w : Int} {b : Int → Int} (h : (0 ≤ ru 1 ∧ ru 1 ≤ 9) ∧ (0 ≤ ru 2 ∧ ru 2 ≤ 9) ∧ (0 ≤ ru 3 ∧ ru 3 ≤ 9)) : ∀ n : Nat, BV_ (n : Int) v b → 0 ≤ tn9_ ru v x w n ∧ tn9_ ru v x w n ≤ 62000 * (n : Int) + 2 * bsm9_ b n
  | 0, _ => ⟨Int.le_refl _, by show (0 : Int) ≤ 62000 * ((0 : Nat) : Int) + 2 * 0; omega⟩
  | n + 1, g => by
    have i := tn_b (x := x) (w := w) h n (fun k a c => g k a (by omega))
    have y := g (n : Int) (by omega) (by omega)
    have d := td_b (x := x) (w := w) h y.1 y.2
    have e0 : bsm9_ b (n + 1) = bsm9_ b n + b (n : Int) := rfl
    have e : tn9_ ru v x w (n + 1) = tn9_ ru v x w n + td9_ ru v x w (n : Int) := rfl
    omega
-- the rows of all matches are no more than there are
def cc9_ (L : Int → Int → List Int) (f : Int) : Nat → List Int
  | 0 => []
  | n + 1 => cc9_ L f n ++ L (f + (n : Int)) 0
theorem cc_m {L : Int → Int → List Int} {f x : Int} : ∀ n : Nat, x ∈ cc9_ L f n → ∃ k : Int, 0 ≤ k ∧ k < (n : Int) ∧ x ∈ L (f + k) 0
  | 0, h => by cases h
  | n + 1, h => by
    have h' : x ∈ cc9_ L f n ++ L (f + (n : Int)) 0 := h
    rcases List.mem_append.mp h' with y | y
    · obtain ⟨k, a, b, c⟩ := cc_m n y
      exact ⟨k, a, by omega, c⟩
    · exact ⟨(n : Int), by omega, by omega, y⟩
theorem cc_d {L : Int → Int → List Int} {f : Int} (d : ∀ m b, (L m b).Nodup) (a : ∀ m b m' b' x, x ∈ L m b → x ∈ L m' b' → m = m' ∧ b = b') : ∀ n : Nat, (cc9_ L f n).Nodup
  | 0 => List.nodup_nil
  | n + 1 => by
    show (cc9_ L f n ++ L (f + (n : Int)) 0).Nodup
    refine List.nodup_append.mpr ⟨cc_d d a n, d _ _, fun x hx y hy e => ?_⟩
    obtain ⟨k, k0, k1, k2⟩ := cc_m n hx
    rw [← e] at hy
    have := (a _ _ _ _ _ k2 hy).1
    omega
theorem cc_l {T : Zt} {L : Int → Int → List Int} {f : Int} : ∀ n : Nat, (∀ k : Int, 0 ≤ k → k < (n : Int) → T 254 0 (f + k) = ((L (f + k) 0).length : Int)) → bsm9_ (fun k => T 254 0 (f + k)) n = ((cc9_ L f n).length : Int)
  | 0, _ => rfl
  | n + 1, h => by
    have e : bsm9_ (fun k => T 254 0 (f + k)) (n + 1) = bsm9_ (fun k => T 254 0 (f + k)) n + T 254 0 (f + (n : Int)) := rfl
    have e2 : (cc9_ L f (n + 1)).length = (cc9_ L f n).length + (L (f + (n : Int)) 0).length := List.length_append
    rw [e, cc_l n (fun k a b => h k a (by omega)), h (n : Int) (by omega) (by omega), e2]
    omega
theorem rx_s {T : Zt} {f : Int} {n : Nat} (h : RX_ T []) (hf : 0 ≤ f) (hn : f + (n : Int) ≤ T 111 0 29) (h47 : 0 ≤ T 111 0 47) : bsm9_ (fun k => T 254 0 (f + k)) n ≤ T 111 0 47 := by
  obtain ⟨L, hB, -⟩ := h
  obtain ⟨b1, b2, b3, b4⟩ := hB
  rw [cc_l (L := L) n (fun k a b => (b1 (f + k) 0 (by omega) (by omega) (by decide) (by decide)).2)]
  refine nd_len h47 (fun x hx => ?_) (cc_d b3 b4 n)
  obtain ⟨k, _, _, k2⟩ := cc_m n hx
  exact b2 _ _ x k2
theorem bsm_l {b : Int → Int} : ∀ n : Nat, bsm9_ (fun k => 4 * b k + 9) n = 4 * bsm9_ b n + 9 * (n : Int)
  | 0 => rfl
  | n + 1 => by
    show bsm9_ (fun k => 4 * b k + 9) n + (4 * b (n : Int) + 9) = 4 * (bsm9_ b n + b (n : Int)) + 9 * ((n + 1 : Nat) : Int)
    rw [bsm_l n]
    omega
-- tables: both sides alike
theorem fr_e {T : Zt} {m t : Int} {N : Nat} (h : ∀ x : Int, 10 * t ≤ x → x < 10 * t + (N : Int) → T 242 0 (20 * m + x) = T 473 m x ∧ ((T 472 m x = 3 ∧ T 243 0 (20 * m + x) = 1) ∨ (T 472 m x ≠ 3 ∧ T 243 0 (20 * m + x) = 0))) : ∀ n : Nat, n ≤ N → fr9c_ T (2 * m + t) n = fr9h_ T m (10 * t) n
  | 0, _ => rfl
  | n + 1, hn => by
    have y := h (10 * t + (n : Int)) (by omega) (by omega)
    show fr9c_ T (2 * m + t) n + (T 242 0 (10 * (2 * m + t) + (n : Int)) + (if T 243 0 (10 * (2 * m + t) + (n : Int)) = 0 then 0 else 3)) = fr9h_ T m (10 * t) n + (T 473 m (10 * t + (n : Int)) + cz_ (T 472 m (10 * t + (n : Int)) = 3) 3 0)
    rw [fr_e h n (by omega), show 10 * (2 * m + t) + (n : Int) = 20 * m + (10 * t + (n : Int)) by omega, y.1]
    rcases y.2 with ⟨z1, z2⟩ | ⟨z1, z2⟩
    · rw [if_neg (by omega), cz_t z1]
    · rw [if_pos z2, cz_f z1]
theorem vw_e {T : Zt} {d m : Int} (sh : SHM_ T m) (pm : PM_ T m) (hd : T 102 m 5 = T 234 0 m) (hm : T 102 m 3 = T 232 0 m ∧ T 102 m 4 = T 233 0 m) (su : T 111 0 80 = 0) : vH_ T d m 0 = vR_ T d m 0 ∧ (vH_ T d m 0 = 1 → vH_ T d m 1 = vR_ T d m 1 ∧ vH_ T d m 2 = vR_ T d m 2 ∧ vH_ T d m 3 = vR_ T d m 3 ∧ vH_ T d m 4 = vR_ T d m 4 ∧ vH_ T d m 5 = vR_ T d m 5 ∧ vH_ T d m 6 = vR_ T d m 6) := by
  have DC : (T 102 m 6 ≠ -1 ∨ (T 102 m 10 ≠ 0 ∧ T 103 m 3 ≠ 0)) ↔ (T 235 0 m = 2 ∨ T 235 0 m = 3) := by
    rcases pm with h | h | h
    · unfold PAA_ at h
      omega
    · unfold PBB_ at h
      omega
    · obtain ⟨h1, h2, h3, ⟨n, hn, hs⟩, -⟩ := h
      have e := hs.1.2.2.1.2.2
      rw [rp_35, rs_d (T := T) (p := m) (k := 103) (j := 3) rfl] at e
      omega
  have e0 : vH_ T d m 0 = vR_ T d m 0 := by
    rw [vh_0, vr_0]
    exact cz_g ⟨fun q => Or.inl ⟨DC.1 q.1, by omega⟩, fun q => by
      rcases q with q | q
      · exact ⟨DC.2 q.1, by omega⟩
      · exact absurd su q.2⟩
  refine ⟨e0, fun z => ?_⟩
  have dc : T 235 0 m = 2 ∨ T 235 0 m = 3 := by
    by_cases y : (T 102 m 6 ≠ -1 ∨ (T 102 m 10 ≠ 0 ∧ T 103 m 3 ≠ 0)) ∧ T 102 m 5 ≤ d
    · exact DC.1 y.1
    · exact absurd z (vh_c0 y)
  refine ⟨by rw [vh_1, vr_1]; exact hm.1, by rw [vh_2, vr_2]; exact hm.2, ?_⟩
  rw [vh_3, vh_4, vh_5, vh_6, vr_3, vr_4, vr_5, vr_6, cz_t dc, cz_t dc]
  rcases pm with h | h | h
  · unfold PAA_ at h
    omega
  · unfold PBB_ at h
    obtain ⟨h1, h2, h3, -⟩ := h
    rw [cz_t (P := T 102 m 10 = 0) h1, cz_t (P := T 102 m 10 = 0) h1, cz_t (P := T 102 m 10 = 0) h1, cz_t (P := T 102 m 10 = 0) h1, cz_f (P := T 235 0 m = 2) (by omega), cz_f (P := T 235 0 m = 2) (by omega)]
    rcases h3 with ⟨g1, g2, g3⟩ | ⟨g1, g2, g3⟩
    · rw [cz_t (P := T 102 m 6 ≠ -1) (by omega), cz_t (P := T 102 m 6 ≠ -1) (by omega), cz_t (P := T 102 m 6 = 0) g1, cz_f (P := T 102 m 6 = 1) (by omega), g2, g3]
      exact ⟨rfl, rfl, rfl, rfl⟩
    · rw [cz_t (P := T 102 m 6 ≠ -1) (by omega), cz_t (P := T 102 m 6 ≠ -1) (by omega), cz_f (P := T 102 m 6 = 0) (by omega), cz_t (P := T 102 m 6 = 1) g1, g2, g3]
      exact ⟨rfl, rfl, rfl, rfl⟩
  · obtain ⟨h1, h2, h3, ⟨n, hn, hs⟩, -⟩ := h
    have q := hs.1
    have s0 := q.2.1.2.2.2.2.1
    have s1 := q.2.1.2.2.2.2.2.1
    rw [rp_36, rs_d (T := T) (p := m) (k := 468) (j := 0) rfl] at s0
    rw [rp_37, rs_d (T := T) (p := m) (k := 468) (j := 1) rfl] at s1
    have e35 := q.2.2.1.2.2
    rw [rp_35, rs_d (T := T) (p := m) (k := 103) (j := 3) rfl] at e35
    have k : ∀ t, 0 ≤ t → t ≤ 1 → fr9c_ T (2 * m + t) (T 239 0 (2 * m + t)).toNat = fr9h_ T m (10 * t) (T 449 m t).toNat := fun t t0 t1 => by
      have g := sh.1 t t0 t1
      rw [g.1]
      refine fr_e (N := (T 449 m t).toNat) (fun x x0 x1 => ?_) _ (Nat.le_refl _)
      have y := q.2.2.2.2 t x t0 t1 (by omega) (by rw [rs_d (T := T) (p := m) (k := 449) (j := t) rfl]; omega)
      rw [rp_v (dm_473 (by omega)) rfl rfl, rp_v (dm_474 (by omega)) rfl rfl, rs_d (T := T) (p := m) (k := 473) (j := x) rfl, rs_d (T := T) (p := m) (k := 472) (j := x) rfl] at y
      obtain ⟨-, y2, y3⟩ := y
      rcases y3 with ⟨z1, -, z2⟩ | ⟨z1, -, z2⟩
      · exact ⟨y2, Or.inl ⟨z1, z2⟩⟩
      · exact ⟨y2, Or.inr ⟨z1, z2⟩⟩
    have k0 := k 0 (by decide) (by decide)
    have k1 := k 1 (by decide) (by decide)
    rw [show 2 * m + 0 = 2 * m by omega, show (10 : Int) * 0 = 0 by decide] at k0
    rw [show (10 : Int) * 1 = 10 by decide] at k1
    rw [cz_f (P := T 102 m 6 ≠ -1) (fun w => w h1), cz_f (P := T 102 m 6 ≠ -1) (fun w => w h1), cz_f (P := T 102 m 10 = 0) h2, cz_f (P := T 102 m 10 = 0) h2, cz_f (P := T 102 m 10 = 0) h2, cz_f (P := T 102 m 10 = 0) h2, cz_t (P := T 235 0 m = 2) (by omega), cz_t (P := T 235 0 m = 2) (by omega), k0, k1, s0, s1]
    exact ⟨rfl, rfl, rfl, rfl⟩
theorem dd_h {T : Zt} {c d x : Int} (h : ∀ i, 0 ≤ i → i < T 106 0 6 → T 527 0 i = T 225 0 i ∧ T 528 0 i = T 226 0 i ∧ T 529 0 i = T 227 0 i ∧ T 530 0 i = T 228 0 i) : ∀ n : Nat, (n : Int) ≤ T 106 0 6 → dd9_ T c d x n = dh9_ T c d x n
  | 0, _ => rfl
  | n + 1, hn => by
    have y := h (n : Int) (by omega) (by omega)
    show dd9_ T c d x n + cz_ (T 226 0 (n : Int) = x ∧ T 225 0 (n : Int) = c ∧ T 228 0 (n : Int) ≤ d) (T 227 0 (n : Int)) 0 = dh9_ T c d x n + cz_ (T 527 0 (n : Int) = c ∧ T 528 0 (n : Int) = x ∧ T 530 0 (n : Int) ≤ d) (T 529 0 (n : Int)) 0
    rw [dd_h h n (by omega), y.1, y.2.1, y.2.2.1, y.2.2.2]
    rw [cz_g (P := T 226 0 (n : Int) = x ∧ T 225 0 (n : Int) = c ∧ T 228 0 (n : Int) ≤ d) (Q := T 225 0 (n : Int) = c ∧ T 226 0 (n : Int) = x ∧ T 228 0 (n : Int) ≤ d) ⟨fun q => ⟨q.2.1, q.1, q.2.2⟩, fun q => ⟨q.2.1, q.1, q.2.2⟩⟩]
theorem dd_b {T : Zt} {c d x : Int} (h : ∀ i, 0 ≤ i → i < 50 → 0 ≤ T 227 0 i ∧ T 227 0 i ≤ 99) : ∀ n : Nat, (n : Int) ≤ 50 → 0 ≤ dd9_ T c d x n ∧ dd9_ T c d x n ≤ 99 * (n : Int)
  | 0, _ => ⟨Int.le_refl _, by show (0 : Int) ≤ 99 * ((0 : Nat) : Int); omega⟩
  | n + 1, hn => by
    have i := dd_b (c := c) (d := d) (x := x) h n (by omega)
    have y := h (n : Int) (by omega) (by omega)
    have e : dd9_ T c d x (n + 1) = dd9_ T c d x n + cz_ (T 226 0 (n : Int) = x ∧ T 225 0 (n : Int) = c ∧ T 228 0 (n : Int) ≤ d) (T 227 0 (n : Int)) 0 := rfl
    by_cases z : T 226 0 (n : Int) = x ∧ T 225 0 (n : Int) = c ∧ T 228 0 (n : Int) ≤ d
    · rw [e, cz_t z]; omega
    · rw [e, cz_f z]; omega
theorem pt_r {ru ru' : Int → Int} {a b : Int} (h : ru 1 = ru' 1 ∧ ru 2 = ru' 2 ∧ ru 3 = ru' 3) : ptm9_ ru a b = ptm9_ ru' a b := by
  unfold ptm9_
  rw [h.1, h.2.1, h.2.2]
theorem td_r {ru ru' : Int → Int} {v : Mv_} {x w k : Int} (h : ru 1 = ru' 1 ∧ ru 2 = ru' 2 ∧ ru 3 = ru' 3) : td9_ ru v x w k = td9_ ru' v x w k := by
  unfold td9_ cv9_
  rw [pt_r h (a := v k 3) (b := v k 4), pt_r h (a := v k 4) (b := v k 3)]
theorem tn_r {ru ru' : Int → Int} {v : Mv_} {x w : Int} (h : ru 1 = ru' 1 ∧ ru 2 = ru' 2 ∧ ru 3 = ru' 3) : ∀ n : Nat, tn9_ ru v x w n = tn9_ ru' v x w n
  | 0 => rfl
  | n + 1 => by
    show tn9_ ru v x w n + td9_ ru v x w (n : Int) = tn9_ ru' v x w n + td9_ ru' v x w (n : Int)
    rw [tn_r h n, td_r h]
theorem hp_r {ru ru' : Int → Int} {v : Mv_} {x y : Int} (h : ru 1 = ru' 1 ∧ ru 2 = ru' 2 ∧ ru 3 = ru' 3) : ∀ n : Nat, hp9_ ru v x y n = hp9_ ru' v x y n
  | 0 => rfl
  | n + 1 => by
    show hp9_ ru v x y n + hq9_ ru v x y (n : Int) = hp9_ ru' v x y n + hq9_ ru' v x y (n : Int)
    unfold hq9_
    rw [hp_r h n, pt_r h (a := v (n : Int) 3) (b := v (n : Int) 4), pt_r h (a := v (n : Int) 4) (b := v (n : Int) 3)]
theorem hp_e {ru : Int → Int} {v v' : Mv_} {x y : Int} : ∀ n : Nat, VE_ (n : Int) v v' → hp9_ ru v x y n = hp9_ ru v' x y n ∧ hs9_ v x y n = hs9_ v' x y n
  | 0, _ => ⟨rfl, rfl⟩
  | n + 1, h => by
    have i := hp_e (ru := ru) (x := x) (y := y) n (fun k a b => h k a (by omega))
    have g := h (n : Int) (by omega) (by omega)
    have d : hq9_ ru v x y (n : Int) = hq9_ ru v' x y (n : Int) ∧ hg9_ v x y (n : Int) = hg9_ v' x y (n : Int) := by
      unfold hq9_ hg9_
      by_cases z : v (n : Int) 0 = 1
      · obtain ⟨e1, e2, e3, e4, -, -⟩ := g.2 z
        rw [cz_t z, cz_t z, cz_t (g.1.symm.trans z), cz_t (g.1.symm.trans z), e1, e2, e3, e4]
        exact ⟨rfl, rfl⟩
      · rw [cz_f z, cz_f z, cz_f (fun y => z (g.1.trans y)), cz_f (fun y => z (g.1.trans y))]
        exact ⟨rfl, rfl⟩
    refine ⟨?_, ?_⟩
    · show hp9_ ru v x y n + hq9_ ru v x y (n : Int) = hp9_ ru v' x y n + hq9_ ru v' x y (n : Int)
      rw [i.1, d.1]
    · show hs9_ v x y n + hg9_ v x y (n : Int) = hs9_ v' x y n + hg9_ v' x y (n : Int)
      rw [i.2, d.2]
/-- the worth that both sides go by -/
noncomputable def WWp_ (T : Zt) (c d : Int) : Int → Int → Int → Int := ww9_ (fun w => T 205 0 (23 * c + w)) (lm_ (fun x w => tn9_ (fun w => T 205 0 (23 * c + w)) (fun k => vR_ T d (T 210 0 c + k)) x w (T 211 0 c).toNat - cz_ (w = 6) (dd9_ T c d x (T 111 0 24).toNat) 0)) (fun g x i => gn9_ (fun w => T 205 0 (23 * c + w)) (fun k => vR_ T d (T 210 0 c + k)) g x i (T 211 0 c).toNat)
theorem wwp_r {T T' : Zt} {c d : Int} (f : fr_ [(276, []), (284, []), (277, []), (286, []), (278, []), (111, [82, 83, 85, 87, 79])] T T') (h : TD_ T T' (fun w => T 205 0 (23 * c + w)) (fun k => vR_ T d (T 210 0 c + k)) (T 211 0 c).toNat c d (T 111 0 24).toNat) : wwR_ T' c d = WWp_ T c d := by
  have e1 : (fun w => T' 205 0 (23 * c + w)) = (fun w => T 205 0 (23 * c + w)) := funext (fun w => f 205 0 _ rfl)
  have e2 : (fun k => vR_ T' d (T' 210 0 c + k)) = (fun k => vR_ T d (T 210 0 c + k)) := funext (fun k => by rw [f 210 0 c rfl, vr_g f (fun k j q9 => by rcases q9 with rfl | rfl | rfl | rfl | rfl | rfl | rfl | rfl | rfl | rfl <;> rfl) rfl])
  unfold wwR_ WWp_
  rw [e1, e2, f 211 0 c rfl, lm_e (L := fun x w => T' 276 0 (9 * x + w)) (L' := fun x w => tn9_ (fun w => T 205 0 (23 * c + w)) (fun k => vR_ T d (T 210 0 c + k)) x w (T 211 0 c).toNat - cz_ (w = 6) (dd9_ T c d x (T 111 0 24).toNat) 0) (fun x w a b p q => h x w a b p q)]
/-- all that the tables of both sides hang on, but the views themselves -/
def TQz_ (T : Zt) (c d : Int) : Prop :=
  (BV_ (T 100 c 8) (fun k => vR_ T d (T 210 0 c + k)) (fun k => 4 * T 254 0 (T 210 0 c + k) + 9) ∧ bsm9_ (fun k => 4 * T 254 0 (T 210 0 c + k) + 9) (T 100 c 8).toNat ≤ 15600) ∧
  ((∀ w, 0 ≤ w → w < 16 → T 401 c w = T 205 0 (23 * c + w)) ∧ (∀ k, 0 ≤ k → k < 7 → k < T 401 c 4 → T 402 c k = T 205 0 (23 * c + (16 + k)) ∧ 0 ≤ T 402 c k)) ∧
  (((0 ≤ T 401 c 1 ∧ T 401 c 1 ≤ 9) ∧ (0 ≤ T 401 c 2 ∧ T 401 c 2 ≤ 9) ∧ (0 ≤ T 401 c 3 ∧ T 401 c 3 ≤ 9)) ∧ 0 ≤ T 401 c 4 ∧ T 401 c 4 ≤ 7) ∧
  (EN1_ T c ∧ SK_ T c ∧ SE_ (T 100 c 8) (T 100 c 5) (fun k => vR_ T d (T 210 0 c + k)) (fun s => T 403 c s)) ∧
  ∀ x, dd9_ T c d x (T 111 0 24).toNat = dh9_ T c d x (T 106 0 6).toNat ∧ 0 ≤ dd9_ T c d x (T 111 0 24).toNat ∧ dd9_ T c d x (T 111 0 24).toNat ≤ 4950
/-- all that the tables of both sides hang on -/
def TQ_ (T : Zt) (c d : Int) : Prop :=
  (VE_ (T 100 c 8) (fun k => vH_ T d (T 100 c 7 + k)) (fun k => vR_ T d (T 210 0 c + k))) ∧
  TQz_ T c d
/-- the house's tally of any view -/
def HFv_ (T U : Zt) (c d : Int) (v : Mv_) : Prop :=
  (∀ x w : Int, 0 ≤ x → x < T 100 c 5 → 0 ≤ w → w ≤ 6 → wr_ (U 542 0 (x * 8 + w)) = wr_ (tn9_ (fun w => T 401 c w) v (T 403 c x) w (T 100 c 8).toNat - cz_ (w = 6) (dh9_ T c d (T 403 c x) (T 106 0 6).toNat) 0)) ∧
  (∀ x : Int, 0 ≤ x → x < T 100 c 5 → wr_ (U 543 0 x) = wr_ (tn9_ (fun w => T 401 c w) v (T 403 c x) 7 (T 100 c 8).toNat)) ∧
  (∀ x : Int, 0 ≤ x → x < T 100 c 5 → wr_ (U 544 0 x) = wr_ (tn9_ (fun w => T 401 c w) v (T 403 c x) 8 (T 100 c 8).toNat)) ∧
  (∀ x y : Int, 0 ≤ x → x < T 100 c 5 → 0 ≤ y → y < T 100 c 5 → wr_ (U 545 0 (x * 12 + y)) = wr_ (hp9_ (fun w => T 401 c w) v (T 403 c x) (T 403 c y) (T 100 c 8).toNat)) ∧
  (∀ x y : Int, 0 ≤ x → x < T 100 c 5 → 0 ≤ y → y < T 100 c 5 → wr_ (U 546 0 (x * 12 + y)) = wr_ (hs9_ v (T 403 c x) (T 403 c y) (T 100 c 8).toNat))
theorem hfv_h {T U : Zt} {c d : Int} (h : HF_ T U c d) : HFv_ T U c d (fun k => vH_ T d (T 100 c 7 + k)) := h
theorem tbv_w {T U : Zt} {c d : Int} {vh : Mv_} (h1 : VE_ (T 100 c 8) vh (fun k => vR_ T d (T 210 0 c + k))) (h : TQz_ T c d) (b8 : 0 ≤ T 100 c 8 ∧ T 100 c 8 ≤ 400) (b5 : 0 ≤ T 100 c 5 ∧ T 100 c 5 ≤ 12) (b3 : ∀ s, 0 ≤ s → 0 ≤ T 403 c s ∧ T 403 c s ≤ 11) (b2 : ∀ k, 0 ≤ k → -1 ≤ T 402 c k ∧ T 402 c k ≤ 6) (f5 : U 100 c 5 = T 100 c 5) (f3 : ∀ j, U 403 c j = T 403 c j) (f2 : ∀ j, U 402 c j = T 402 c j) (f1 : ∀ j, U 401 c j = T 401 c j) (hU : ok_T U) (hf : HFv_ T U c d vh) : HB9_ U c ∧ HWW_ U c (WWp_ T c d) := by
  obtain ⟨⟨h2, h3⟩, ⟨h4, h4k⟩, ⟨h6, h7⟩, ⟨h8, h9, h10⟩, h11⟩ := h
  have hn := b8
  have he := b5
  have en : (((T 100 c 8).toNat : Nat) : Int) = T 100 c 8 := by omega
  have e8 : T 211 0 c = T 100 c 8 := h8.2.2.2.1.symm
  have hr : T 401 c 1 = T 205 0 (23 * c + 1) ∧ T 401 c 2 = T 205 0 (23 * c + 2) ∧ T 401 c 3 = T 205 0 (23 * c + 3) := ⟨h4 1 (by decide) (by decide), h4 2 (by decide) (by decide), h4 3 (by decide) (by decide)⟩
  have hrb : (0 ≤ T 205 0 (23 * c + 1) ∧ T 205 0 (23 * c + 1) ≤ 9) ∧ (0 ≤ T 205 0 (23 * c + 2) ∧ T 205 0 (23 * c + 2) ≤ 9) ∧ (0 ≤ T 205 0 (23 * c + 3) ∧ T 205 0 (23 * c + 3) ≤ 9) := by
    rw [← hr.1, ← hr.2.1, ← hr.2.2]
    exact h6
  have ve : VE_ (((T 100 c 8).toNat : Nat) : Int) vh (fun k => vR_ T d (T 210 0 c + k)) := by rw [en]; exact h1
  have bv : BV_ (((T 100 c 8).toNat : Nat) : Int) (fun k => vR_ T d (T 210 0 c + k)) (fun k => 4 * T 254 0 (T 210 0 c + k) + 9) := by rw [en]; exact h2
  have TN : ∀ x w, tn9_ (fun w => T 401 c w) vh x w (T 100 c 8).toNat = tn9_ (fun w => T 205 0 (23 * c + w)) (fun k => vR_ T d (T 210 0 c + k)) x w (T 100 c 8).toNat := fun x w => (tn_r (ru := fun w => T 401 c w) (ru' := fun w => T 205 0 (23 * c + w)) hr _).trans (tn_e _ ve)
  have TB : ∀ x w, 0 ≤ tn9_ (fun w => T 205 0 (23 * c + w)) (fun k => vR_ T d (T 210 0 c + k)) x w (T 100 c 8).toNat ∧ tn9_ (fun w => T 205 0 (23 * c + w)) (fun k => vR_ T d (T 210 0 c + k)) x w (T 100 c 8).toNat ≤ 30000000 := fun x w => by
    have y := tn_b (ru := fun w => T 205 0 (23 * c + w)) (x := x) (w := w) hrb _ bv
    omega
  have C2 : ∀ s w, 0 ≤ s → s < T 100 c 5 → 0 ≤ w → w ≤ 6 → U 542 0 (s * 8 + w) = tn9_ (fun w => T 205 0 (23 * c + w)) (fun k => vR_ T d (T 210 0 c + k)) (T 403 c s) w (T 100 c 8).toNat - cz_ (w = 6) (dd9_ T c d (T 403 c s) (T 111 0 24).toNat) 0 := fun s w a b p q => by
    have y := hf.1 s w a b p q
    have r := bd_a hU 542 (by decide +kernel : ta_ 542 = some (1, some 96, -2147483648, 2147483647)) 0 (x := s * 8 + w) (by omega)
    have t := TB (T 403 c s) w
    have g := h11 (T 403 c s)
    rw [wr_i r, TN, ← g.1] at y
    by_cases z : w = 6
    · rw [cz_t z] at y ⊢
      rw [y]
      exact wr_i (by omega)
    · rw [cz_f z] at y ⊢
      rw [y]
      exact wr_i (by omega)
  have C3 : ∀ s, 0 ≤ s → s < T 100 c 5 → U 543 0 s = tn9_ (fun w => T 205 0 (23 * c + w)) (fun k => vR_ T d (T 210 0 c + k)) (T 403 c s) 7 (T 100 c 8).toNat := fun s a b => by
    have y := hf.2.1 s a b
    have r := bd_a hU 543 (by decide +kernel : ta_ 543 = some (1, some 12, -2147483648, 2147483647)) 0 (x := s) a
    have t := TB (T 403 c s) 7
    rw [wr_i r, TN, wr_i (by omega)] at y
    exact y
  have C4 : ∀ s, 0 ≤ s → s < T 100 c 5 → U 544 0 s = tn9_ (fun w => T 205 0 (23 * c + w)) (fun k => vR_ T d (T 210 0 c + k)) (T 403 c s) 8 (T 100 c 8).toNat := fun s a b => by
    have y := hf.2.2.1 s a b
    have r := bd_a hU 544 (by decide +kernel : ta_ 544 = some (1, some 12, -2147483648, 2147483647)) 0 (x := s) a
    have t := TB (T 403 c s) 8
    rw [wr_i r, TN, wr_i (by omega)] at y
    exact y
  have HPB : ∀ x y, 0 ≤ hp9_ (fun w => T 205 0 (23 * c + w)) (fun k => vR_ T d (T 210 0 c + k)) x y (T 100 c 8).toNat ∧ hp9_ (fun w => T 205 0 (23 * c + w)) (fun k => vR_ T d (T 210 0 c + k)) x y (T 100 c 8).toNat ≤ 7200 := fun x y => by
    have q := hp_b (ru := fun w => T 205 0 (23 * c + w)) (v := fun k => vR_ T d (T 210 0 c + k)) (x := x) (y := y) hrb (T 100 c 8).toNat
    omega
  have HSB : ∀ x y, 0 ≤ hs9_ (fun k => vR_ T d (T 210 0 c + k)) x y (T 100 c 8).toNat ∧ hs9_ (fun k => vR_ T d (T 210 0 c + k)) x y (T 100 c 8).toNat ≤ 31200 := fun x y => by
    have q := hs_b (x := x) (y := y) _ bv
    omega
  have C5 : ∀ x y, 0 ≤ x → x < T 100 c 5 → 0 ≤ y → y < T 100 c 5 → U 545 0 (x * 12 + y) = hp9_ (fun w => T 205 0 (23 * c + w)) (fun k => vR_ T d (T 210 0 c + k)) (T 403 c x) (T 403 c y) (T 100 c 8).toNat := fun x y a b p q => by
    have g := hf.2.2.2.1 x y a b p q
    have r := bd_a hU 545 (by decide +kernel : ta_ 545 = some (1, some 144, -2147483648, 2147483647)) 0 (x := x * 12 + y) (by omega)
    have t := HPB (T 403 c x) (T 403 c y)
    rw [wr_i r, hp_r (ru := fun w => T 401 c w) (ru' := fun w => T 205 0 (23 * c + w)) hr, (hp_e (ru := fun w => T 205 0 (23 * c + w)) _ ve).1, wr_i (by omega)] at g
    exact g
  have C6 : ∀ x y, 0 ≤ x → x < T 100 c 5 → 0 ≤ y → y < T 100 c 5 → U 546 0 (x * 12 + y) = hs9_ (fun k => vR_ T d (T 210 0 c + k)) (T 403 c x) (T 403 c y) (T 100 c 8).toNat := fun x y a b p q => by
    have g := hf.2.2.2.2 x y a b p q
    have r := bd_a hU 546 (by decide +kernel : ta_ 546 = some (1, some 144, -2147483648, 2147483647)) 0 (x := x * 12 + y) (by omega)
    have t := HSB (T 403 c x) (T 403 c y)
    rw [wr_i r, (hp_e (ru := fun w => T 205 0 (23 * c + w)) _ ve).2, wr_i (by omega)] at g
    exact g
  refine ⟨fun x y a b p q => ?_, fun k g s k0 k1 g0 g1 s0 s1 m => ?_⟩
  · rw [f5] at b q
    have t := HPB (T 403 c x) (T 403 c y)
    have t2 := HSB (T 403 c x) (T 403 c y)
    rw [C5 x y a b p q, C6 x y a b p q]
    omega
  · rw [f1] at k1
    rw [f5] at s1
    rw [f3] at m ⊢
    have rx := b3 s s0
    have W := wh_v (T := U) (c := c) (k := k) (g := g) (s := s)
    rw [f2, f1, f3] at W
    have LM : ∀ w, 0 ≤ w → w ≤ 8 → lm_ (fun x w => tn9_ (fun w => T 205 0 (23 * c + w)) (fun k => vR_ T d (T 210 0 c + k)) x w (T 211 0 c).toNat - cz_ (w = 6) (dd9_ T c d x (T 111 0 24).toNat) 0) (T 403 c s) w = tn9_ (fun w => T 205 0 (23 * c + w)) (fun k => vR_ T d (T 210 0 c + k)) (T 403 c s) w (T 100 c 8).toNat - cz_ (w = 6) (dd9_ T c d (T 403 c s) (T 111 0 24).toNat) 0 := fun w w0 w1 => by
      rw [lm_v (by omega), e8]
    have t4 := TB (T 403 c s) 4
    have t5 := TB (T 403 c s) 5
    have t8 := TB (T 403 c s) 8
    have N : ∀ w : Int, w ≠ 6 → cz_ (w = 6) (dd9_ T c d (T 403 c s) (T 111 0 24).toNat) 0 = 0 := fun w q => cz_f q
    have KV : k ≠ 0 → kv9_ (fun w => T 205 0 (23 * c + w)) k = T 402 c (k - 1) := fun z => by
      rw [(h4k (k - 1) (by omega) (by omega) (by omega)).1, show 16 + (k - 1) = 15 + k by omega]
      exact if_neg z
    have S := sv_v (kv := kv9_ (fun w => T 205 0 (23 * c + w)) k) (L := lm_ (fun x w => tn9_ (fun w => T 205 0 (23 * c + w)) (fun k => vR_ T d (T 210 0 c + k)) x w (T 211 0 c).toNat - cz_ (w = 6) (dd9_ T c d x (T 111 0 24).toNat) 0)) (sd := T 205 0 (23 * c + 15)) (g := g) (x := T 403 c s)
    unfold WWp_
    by_cases z : k = 0
    · have e : kv9_ (fun w => T 205 0 (23 * c + w)) k = -1 := if_pos z
      rw [W.1 z, ww_n (by rw [e]; decide), S.1 e, LM 6 (by decide) (by decide), C2 s 6 s0 s1 (by decide) (by decide)]
    · have e := KV z
      have r2 := b2 (k - 1) (by omega)
      by_cases q4 : T 402 c (k - 1) = 4
      · rw [W.2.2.2.2.2.1 z q4, ww_4 (by rw [e]; exact q4)]
        unfold hd9_
        have en5 : (((T 100 c 5).toNat : Nat) : Int) = T 100 c 5 := by omega
        have y := hw_n (ru := fun w => T 205 0 (23 * c + w)) (v := fun k => vR_ T d (T 210 0 c + k)) (g := g) (x := T 403 c s) (cl := fun o => T 403 c o) (T 100 c 5).toNat m (T 100 c 8).toNat (by rw [en, en5]; exact h10)
        have p1 : hy9_ (fun o => U 545 0 (s * 12 + o)) g (fun o => U 403 c o) (U 100 c 5).toNat = gn9_ (fun w => T 205 0 (23 * c + w)) (fun k => vR_ T d (T 210 0 c + k)) g (T 403 c s) 0 (T 100 c 8).toNat := by
          rw [show (fun o => U 403 c o) = (fun o => T 403 c o) from funext f3, f5, ← y.1]
          exact hy_w _ (fun o a b => C5 s o s0 s1 a (by omega))
        have p2 : hy9_ (fun o => U 546 0 (s * 12 + o)) g (fun o => U 403 c o) (U 100 c 5).toNat = hw9_ (fun o => hs9_ (fun k => vR_ T d (T 210 0 c + k)) (T 403 c s) o (T 100 c 8).toNat) g (fun o => T 403 c o) (T 100 c 5).toNat := by
          rw [show (fun o => U 403 c o) = (fun o => T 403 c o) from funext f3, f5]
          exact hy_w _ (fun o a b => C6 s o s0 s1 a (by omega))
        have p3 : hy9_ (fun o => U 546 0 (o * 12 + s)) g (fun o => U 403 c o) (U 100 c 5).toNat = hw9_ (fun o => hs9_ (fun k => vR_ T d (T 210 0 c + k)) o (T 403 c s) (T 100 c 8).toNat) g (fun o => T 403 c o) (T 100 c 5).toNat := by
          rw [show (fun o => U 403 c o) = (fun o => T 403 c o) from funext f3, f5]
          exact hy_w (F := fun o => hs9_ (fun k => vR_ T d (T 210 0 c + k)) o (T 403 c s) (T 100 c 8).toNat) _ (fun o a b => C6 o s a (by omega) s0 s1)
        rw [p1, p2, p3, e8]
        have y2 := y.2.1
        have y3 := y.2.2
        show _ = (gn9_ (fun w => T 205 0 (23 * c + w)) (fun k => vR_ T d (T 210 0 c + k)) g (T 403 c s) 0 (T 100 c 8).toNat * 1000000 + gn9_ (fun w => T 205 0 (23 * c + w)) (fun k => vR_ T d (T 210 0 c + k)) g (T 403 c s) 1 (T 100 c 8).toNat) * 1000000 + gn9_ (fun w => T 205 0 (23 * c + w)) (fun k => vR_ T d (T 210 0 c + k)) g (T 403 c s) 2 (T 100 c 8).toNat
        omega
      · rw [ww_n (by rw [e]; exact q4)]
        rw [e] at S ⊢
        by_cases q0 : T 402 c (k - 1) = 0
        · rw [W.2.1 z q0, S.2.1 q0, LM 4 (by decide) (by decide), LM 5 (by decide) (by decide), N 4 (by decide), N 5 (by decide), C2 s 4 s0 s1 (by decide) (by decide), C2 s 5 s0 s1 (by decide) (by decide), N 4 (by decide), N 5 (by decide)]
          exact wr_i (by omega)
        · by_cases q1 : T 402 c (k - 1) = 1
          · rw [W.2.2.1 z q1, S.2.2.1 q1, LM 4 (by decide) (by decide), C2 s 4 s0 s1 (by decide) (by decide)]
          · by_cases q2 : T 402 c (k - 1) = 2
            · rw [W.2.2.2.1 z q2, S.2.2.2.1 q2, LM 1 (by decide) (by decide), C2 s 1 s0 s1 (by decide) (by decide)]
            · by_cases q3 : T 402 c (k - 1) = 3
              · rw [W.2.2.2.2.1 z q3, S.2.2.2.2.1 q3, LM 7 (by decide) (by decide), N 7 (by decide), C3 s s0 s1]
                omega
              · by_cases q5 : T 402 c (k - 1) = 5
                · rw [W.2.2.2.2.2.2.1 z q5, S.2.2.2.2.2.1 q5, LM 8 (by decide) (by decide), N 8 (by decide), C4 s s0 s1, wr_i (by omega)]
                  omega
                · have hk9 := (h4k (k - 1) (by omega) (by omega) (by omega)).2
                  rw [W.2.2.2.2.2.2.2 z (by omega), S.2.2.2.2.2.2 (by omega) q5, h4 15 (by decide) (by decide)]
theorem tbl_w {T U : Zt} {c d : Int} (h : TQ_ T c d) (hT : ok_T T) (f : fr_ [(107, [1]), (542, []), (543, []), (544, []), (545, []), (546, [])] T U) (hU : ok_T U) (hf : HF_ T U c d) : HB9_ U c ∧ HWW_ U c (WWp_ T c d) := tbv_w h.1 h.2 (bd_f hT 100 8 tl_0_8 c) (bd_f hT 100 5 tl_0_5 c) (fun s s0 => bd_a hT 403 (by decide +kernel : ta_ 403 = some (1, some 12, 0, 11)) c (x := s) s0) (fun k k0 => bd_a hT 402 (by decide +kernel : ta_ 402 = some (1, some 7, (-1), 6)) c (x := k) k0) (f 100 c 5 rfl) (fun j => f 403 c j rfl) (fun j => f 402 c j rfl) (fun j => f 401 c j rfl) hU (hfv_h hf)
theorem dd_k {T U : Zt} (h : ∀ (k : Nat) (j : Int), k = 225 ∨ k = 226 ∨ k = 227 ∨ k = 228 → U k 0 j = T k 0 j) {c d x : Int} : ∀ n : Nat, dd9_ U c d x n = dd9_ T c d x n
  | 0 => rfl
  | n + 1 => by
    show dd9_ U c d x n + cz_ (U 226 0 (n : Int) = x ∧ U 225 0 (n : Int) = c ∧ U 228 0 (n : Int) ≤ d) (U 227 0 (n : Int)) 0 = dd9_ T c d x n + cz_ (T 226 0 (n : Int) = x ∧ T 225 0 (n : Int) = c ∧ T 228 0 (n : Int) ≤ d) (T 227 0 (n : Int)) 0
    rw [dd_k h n, h 225 _ (by decide), h 226 _ (by decide), h 227 _ (by decide), h 228 _ (by decide)]
theorem wwp_f {T U : Zt} {c d : Int} (f : fr_ [(107, [1, 13]), (542, []), (543, []), (544, []), (545, []), (546, []), (547, []), (548, []), (549, []), (550, []), (551, []), (552, [])] T U) : WWp_ U c d = WWp_ T c d := by
  have e1 : (fun w => U 205 0 (23 * c + w)) = (fun w => T 205 0 (23 * c + w)) := funext (fun w => f 205 0 _ rfl)
  have e2 : (fun k => vR_ U d (U 210 0 c + k)) = (fun k => vR_ T d (T 210 0 c + k)) := funext (fun k => by rw [f 210 0 c rfl, vr_g f (fun k j q9 => by rcases q9 with rfl | rfl | rfl | rfl | rfl | rfl | rfl | rfl | rfl | rfl <;> rfl) rfl])
  have e3 : ∀ x n, dd9_ U c d x n = dd9_ T c d x n := fun x n => dd_k (fun k j q9 => by rcases q9 with rfl | rfl | rfl | rfl <;> exact f _ 0 j rfl) n
  unfold WWp_
  rw [e1, e2, f 211 0 c rfl, f 111 0 24 rfl]
  simp only [e3]
/-- the order of all is one -/
theorem rk_q {T T1 T2 : Zt} {c d : Int} (h : TQ_ T c d) (f1 : fr_ [(107, [1, 13]), (542, []), (543, []), (544, []), (545, []), (546, []), (547, []), (548, []), (549, []), (550, []), (551, []), (552, [])] T T1) (f2 : fr_ [(276, []), (284, []), (277, []), (286, []), (278, []), (111, [82, 83, 85, 87, 79])] T1 T2) (td : TD_ T1 T2 (fun w => T1 205 0 (23 * c + w)) (fun k => vR_ T1 d (T1 210 0 c + k)) (T1 211 0 c).toNat c d (T1 111 0 24).toNat) : RKm_ T2 c d (T1 208 0 c) = RKh_ T c (WWp_ T c d) := by
  obtain ⟨-, -, ⟨h4, -⟩, -, ⟨h8, -, -⟩, -⟩ := h
  have e5 : T1 208 0 c = T 100 c 5 := (f1 208 0 c rfl).trans h8.1.symm
  have r : ∀ w, 0 ≤ w → w < 16 → T2 205 0 (23 * c + w) = T 401 c w := fun w a b => ((f2 205 0 _ rfl).trans (f1 205 0 _ rfl)).trans (h4 w a b).symm
  unfold RKm_ RKh_
  rw [wwp_r f2 td, wwp_f f1, r 5 (by decide) (by decide), r 4 (by decide) (by decide), e5, mk_e (n := T 100 c 5) (o := fun x => T2 207 0 (12 * c + x)) (o' := fun x => T 403 c x) (fun x a b => ((f2 207 0 _ rfl).trans (f1 207 0 _ rfl)).trans (h8.2.2.2.2.1 x a b).symm)]
/-- a list of n places that holds n clubs holds none twice -/
theorem oc_i {o e : Int → Int} {n : Int} (hn : 0 ≤ n) (he : ∀ i j, 0 ≤ i → i < j → j < n → e i ≠ e j) (h : ∀ i, 0 ≤ i → i < n → ∃ j, 0 ≤ j ∧ j < n ∧ o j = e i) {a b : Int} (ha : 0 ≤ a ∧ a < n) (hb : 0 ≤ b ∧ b < n) (hab : a ≠ b) (q : o a = o b) : False := by
  have ch : ∀ i : Int, ∃ j, (0 ≤ i → i < n → 0 ≤ j ∧ j < n ∧ o j = e i) := fun i => by
    by_cases z : 0 ≤ i ∧ i < n
    · obtain ⟨j, j0, j1, j2⟩ := h i z.1 z.2
      exact ⟨j, fun _ _ => ⟨j0, j1, j2⟩⟩
    · exact ⟨0, fun p q => absurd ⟨p, q⟩ z⟩
  -- every place is taken
  have all : ∀ p : Int, 0 ≤ p → p < n → ∃ i, 0 ≤ i ∧ i < n ∧ Classical.choose (ch i) = p := fun p p0 p1 => by
    by_cases z : ∃ i, 0 ≤ i ∧ i < n ∧ Classical.choose (ch i) = p
    · exact z
    · have g := ph_i (n := n) (m := n - 1) (fun i => if Classical.choose (ch i) < p then Classical.choose (ch i) else Classical.choose (ch i) - 1) hn (by omega) (fun i i0 i1 => by
          have s := Classical.choose_spec (ch i) i0 i1
          have ne : Classical.choose (ch i) ≠ p := fun w => z ⟨i, i0, i1, w⟩
          by_cases y : Classical.choose (ch i) < p
          · simp only [if_pos y]; omega
          · simp only [if_neg y]; omega) (fun i j i0 ij j1 w => by
          have s := Classical.choose_spec (ch i) i0 (by omega)
          have t := Classical.choose_spec (ch j) (by omega) j1
          have ni : Classical.choose (ch i) ≠ p := fun w => z ⟨i, i0, by omega, w⟩
          have nj : Classical.choose (ch j) ≠ p := fun w => z ⟨j, by omega, j1, w⟩
          have eq : Classical.choose (ch i) = Classical.choose (ch j) := by
            by_cases y : Classical.choose (ch i) < p
            · by_cases y2 : Classical.choose (ch j) < p
              · simp only [if_pos y, if_pos y2] at w; omega
              · simp only [if_pos y, if_neg y2] at w; omega
            · by_cases y2 : Classical.choose (ch j) < p
              · simp only [if_neg y, if_pos y2] at w; omega
              · simp only [if_neg y, if_neg y2] at w; omega
          refine he i j i0 ij j1 ?_
          rw [← s.2.2, ← t.2.2, eq])
      omega
  obtain ⟨i, i0, i1, i2⟩ := all a ha.1 ha.2
  obtain ⟨j, j0, j1, j2⟩ := all b hb.1 hb.2
  have s := (Classical.choose_spec (ch i) i0 i1).2.2
  have t := (Classical.choose_spec (ch j) j0 j1).2.2
  rw [i2] at s
  rw [j2] at t
  have ee : e i = e j := by rw [← s, ← t]; exact q
  have ij : i ≠ j := fun w => hab (by rw [← i2, ← j2, w])
  rcases (by omega : i < j ∨ j < i) with y | y
  · exact he i j i0 y j1 ee
  · exact he j i j0 y i1 ee.symm
theorem he_s {T : Zt} {c cl : Int} (h8 : EN1_ T c) (hs : SK_ T c) (hc : 0 ≤ cl ∧ cl < 12) : HE_ T c cl ↔ T 404 c cl ≠ -1 := by
  obtain ⟨e1, -, -, -, e5, -⟩ := h8
  refine ⟨fun q => ?_, fun q => ?_⟩
  · obtain ⟨j, j0, j1, j2⟩ := q
    have y := e5 j j0 (by omega)
    have k := hs.1 j j0 (by omega)
    rw [y, j2] at k
    omega
  · rcases hs.2 cl hc.1 hc.2 with y | y
    · exact absurd y q
    · exact ⟨T 404 c cl, y.1, by omega, by rw [← e5 _ y.1 y.2.1]; exact y.2.2⟩
theorem hem_f {T U : Zt} {c cl : Int} (e7 : ∀ j, U 207 0 j = T 207 0 j) (e8 : U 208 0 c = T 208 0 c) : HE_ U c cl ↔ HE_ T c cl := by
  unfold HE_
  simp only [e7, e8]
/-- the lines of the house, as they are -/
theorem tbl_2 {T U : Zt} {c d : Int} (h : TQ_ T c d) (hT : ok_T T) (hf : HF_ T U c d) {s w : Int} (r : -2147483648 ≤ U 542 0 (s * 8 + w) ∧ U 542 0 (s * 8 + w) ≤ 2147483647) (s0 : 0 ≤ s) (s1 : s < T 100 c 5) (w0 : 0 ≤ w) (w1 : w ≤ 6) : U 542 0 (s * 8 + w) = tn9_ (fun w => T 205 0 (23 * c + w)) (fun k => vR_ T d (T 210 0 c + k)) (T 403 c s) w (T 100 c 8).toNat - cz_ (w = 6) (dd9_ T c d (T 403 c s) (T 111 0 24).toNat) 0 := by
  obtain ⟨h1, ⟨h2, h3⟩, ⟨h4, h4k⟩, ⟨h6, h7⟩, ⟨h8, h9, h10⟩, h11⟩ := h
  have hn : 0 ≤ T 100 c 8 ∧ T 100 c 8 ≤ 400 := bd_f hT 100 8 tl_0_8 c
  have en : (((T 100 c 8).toNat : Nat) : Int) = T 100 c 8 := by omega
  have hr : T 401 c 1 = T 205 0 (23 * c + 1) ∧ T 401 c 2 = T 205 0 (23 * c + 2) ∧ T 401 c 3 = T 205 0 (23 * c + 3) := ⟨h4 1 (by decide) (by decide), h4 2 (by decide) (by decide), h4 3 (by decide) (by decide)⟩
  have hrb : (0 ≤ T 205 0 (23 * c + 1) ∧ T 205 0 (23 * c + 1) ≤ 9) ∧ (0 ≤ T 205 0 (23 * c + 2) ∧ T 205 0 (23 * c + 2) ≤ 9) ∧ (0 ≤ T 205 0 (23 * c + 3) ∧ T 205 0 (23 * c + 3) ≤ 9) := by
    rw [← hr.1, ← hr.2.1, ← hr.2.2]
    exact h6
  have ve : VE_ (((T 100 c 8).toNat : Nat) : Int) (fun k => vH_ T d (T 100 c 7 + k)) (fun k => vR_ T d (T 210 0 c + k)) := by rw [en]; exact h1
  have bv : BV_ (((T 100 c 8).toNat : Nat) : Int) (fun k => vR_ T d (T 210 0 c + k)) (fun k => 4 * T 254 0 (T 210 0 c + k) + 9) := by rw [en]; exact h2
  have t := tn_b (ru := fun w => T 205 0 (23 * c + w)) (x := T 403 c s) (w := w) hrb _ bv
  have y := hf.1 s w s0 s1 w0 w1
  have g := h11 (T 403 c s)
  rw [wr_i r, (tn_r (ru := fun w => T 401 c w) (ru' := fun w => T 205 0 (23 * c + w)) hr _).trans (tn_e _ ve), ← g.1] at y
  by_cases z : w = 6
  · rw [cz_t z] at y ⊢
    rw [y]
    exact wr_i (by omega)
  · rw [cz_f z] at y ⊢
    rw [y]
    exact wr_i (by omega)
theorem st_q {T T1 T2 : Zt} {c d k x y : Int} (h : TQ_ T c d) (f1 : fr_ [(107, [1, 13]), (542, []), (543, []), (544, []), (545, []), (546, []), (547, []), (548, []), (549, []), (550, []), (551, []), (552, [])] T T1) (f2 : fr_ [(276, []), (284, []), (277, []), (286, []), (278, []), (111, [82, 83, 85, 87, 79])] T1 T2) (td : TD_ T1 T2 (fun w => T1 205 0 (23 * c + w)) (fun k => vR_ T1 d (T1 210 0 c + k)) (T1 211 0 c).toNat c d (T1 111 0 24).toNat) (hk : 0 ≤ k ∧ k < T 100 c 5) (to9 : TO_ T T1 c d (WWp_ T c d)) (a : x = T 403 c (T1 547 0 k)) (b : y = (RKm_ T2 c d (T1 208 0 c)).1 k) : x = y := by
  obtain ⟨U, -, r, -⟩ := to9
  rw [b, rk_q h f1 f2 td, ← r, a]
  exact (mk_v (n := T 100 c 5) (o := fun x => T 403 c (T1 547 0 x)) (x := k) hk).symm
theorem pa_q {T T1 T2 : Zt} {c d k x y : Int} (h : TQ_ T c d) (f1 : fr_ [(107, [1, 13]), (542, []), (543, []), (544, []), (545, []), (546, []), (547, []), (548, []), (549, []), (550, []), (551, []), (552, [])] T T1) (f2 : fr_ [(276, []), (284, []), (277, []), (286, []), (278, []), (111, [82, 83, 85, 87, 79])] T1 T2) (td : TD_ T1 T2 (fun w => T1 205 0 (23 * c + w)) (fun k => vR_ T1 d (T1 210 0 c + k)) (T1 211 0 c).toNat c d (T1 111 0 24).toNat) (hk : 0 ≤ k ∧ k < T 100 c 5) (to9 : TO_ T T1 c d (WWp_ T c d)) (a : x = T1 548 0 k) (b : y = (RKm_ T2 c d (T1 208 0 c)).2 k) : x = y := by
  obtain ⟨U, -, r, -⟩ := to9
  rw [b, rk_q h f1 f2 td, ← r, a]
  exact (mk_v (n := T 100 c 5) (o := fun x => T1 548 0 x) (x := k) hk).symm
theorem tb_q {T T1 T2 : Zt} {c d cl w x y : Int} (h : TQ_ T c d) (hT : ok_T T) (hT1 : ok_T T1) (he : ∀ i j, 0 ≤ i → i < j → j < T 100 c 5 → T 403 c i ≠ T 403 c j) (f1 : fr_ [(107, [1, 13]), (542, []), (543, []), (544, []), (545, []), (546, []), (547, []), (548, []), (549, []), (550, []), (551, []), (552, [])] T T1) (f2 : fr_ [(276, []), (284, []), (277, []), (286, []), (278, []), (111, [82, 83, 85, 87, 79])] T1 T2) (td : TD_ T1 T2 (fun w => T1 205 0 (23 * c + w)) (fun k => vR_ T1 d (T1 210 0 c + k)) (T1 211 0 c).toNat c d (T1 111 0 24).toNat) (hc : 0 ≤ cl ∧ cl < 12) (hw : 0 ≤ w ∧ w ≤ 7) (hs : T 404 c cl ≠ -1) (to9 : TO_ T T1 c d (WWp_ T c d)) (a : x = T1 542 0 (T 404 c cl * 8 + w)) (b : TR_ T1 T2 c d cl w y) : x = y := by
  have q := h
  obtain ⟨-, -, -, -, ⟨h8, h9, -⟩, -⟩ := q
  obtain ⟨U, hf, r, ll, lo, ob⟩ := to9
  have he5 : 0 ≤ T 100 c 5 ∧ T 100 c 5 ≤ 12 := bd_f hT 100 5 tl_0_5 c
  have se := (h9.2 cl hc.1 hc.2).resolve_left hs
  have e5 : T1 208 0 c = T 100 c 5 := (f1 208 0 c rfl).trans h8.1.symm
  obtain ⟨b1, b2, b3, -⟩ := b
  rw [e5] at b1 b3
  have rq := rk_q h f1 f2 td
  rw [e5] at rq
  rw [rq, ← r] at b1 b3
  by_cases z : w = 7
  · obtain ⟨k, k0, k1, k2, -, k4⟩ := b1 z
    have m1 : T 403 c (T1 547 0 k) = cl := (mk_v (n := T 100 c 5) (o := fun x => T 403 c (T1 547 0 x)) (x := k) ⟨k0, k1⟩).symm.trans k2
    have r7 := bd_a hT1 547 (by decide +kernel : ta_ 547 = some (1, some 12, 0, 11)) 0 (x := k) k0
    have ok := ob k k0 k1
    have s9 : T1 547 0 k = T 404 c cl := by
      have y9 := h9.1 (T1 547 0 k) r7.1 ok
      rw [m1] at y9
      exact y9.symm
    have un : ∀ i, k < i → i < T 100 c 5 → T1 547 0 i ≠ T1 547 0 k := fun i i0 i1 w9 => by
      refine oc_i (o := mk9_ (T 100 c 5) (fun x => T 403 c (T1 547 0 x))) (e := fun i => T 403 c i) he5.1 he (fun j j0 j1 => ?_) (a := k) (b := i) ⟨k0, k1⟩ ⟨by omega, i1⟩ (by omega) ?_
      · obtain ⟨p, p0, p1, p2⟩ := b3 (T 403 c j) ⟨j, j0, by rw [e5]; exact j1, by rw [f1 207 0 _ rfl]; exact (h8.2.2.2.2.1 j j0 j1).symm⟩
        exact ⟨p, p0, p1, p2⟩
      · rw [mk_v (n := T 100 c 5) (o := fun x => T 403 c (T1 547 0 x)) (x := k) ⟨k0, k1⟩, mk_v (n := T 100 c 5) (o := fun x => T 403 c (T1 547 0 x)) (x := i) ⟨by omega, i1⟩]
        show T 403 c (T1 547 0 k) = T 403 c (T1 547 0 i)
        rw [w9]
    have l9 := ll k k0 k1 un
    rw [a, z, ← s9, l9, k4]
    exact pc_c _ (fun j j0 j1 => (mk_v (n := T 100 c 5) (o := fun x => T1 548 0 x) (x := j) ⟨j0, by omega⟩).symm)
  · rw [a, b2 z, lo (T 404 c cl) w hw.1 (by omega)]
    have r2 := bd_a hT1 542 (by decide +kernel : ta_ 542 = some (1, some 96, -2147483648, 2147483647)) 0 (x := T 404 c cl * 8 + w) (by omega)
    rw [lo (T 404 c cl) w hw.1 (by omega)] at r2
    have e1 : (fun w => T1 205 0 (23 * c + w)) = (fun w => T 205 0 (23 * c + w)) := funext (fun w => f1 205 0 _ rfl)
    have e2 : (fun k => vR_ T1 d (T1 210 0 c + k)) = (fun k => vR_ T d (T 210 0 c + k)) := funext (fun k => by rw [f1 210 0 c rfl, vr_g f1 (fun k j q9 => by rcases q9 with rfl | rfl | rfl | rfl | rfl | rfl | rfl | rfl | rfl | rfl <;> rfl) rfl])
    have e3 : ∀ x n, dd9_ T1 c d x n = dd9_ T c d x n := fun x n => dd_k (fun k j q9 => by rcases q9 with rfl | rfl | rfl | rfl <;> exact f1 _ 0 j rfl) n
    rw [tbl_2 h hT hf r2 se.1 se.2.1 hw.1 (by omega), se.2.2, td cl w hc.1 hc.2 hw.1 (by omega), e1, e2, e3, f1 211 0 c rfl, f1 111 0 24 rfl, h8.2.2.2.1]
theorem frc_b {T : Zt} {sh : Int} (hy : YB_ T) (h : 0 ≤ sh ∧ sh < 800) : ∀ n : Nat, n ≤ 10 → 0 ≤ fr9c_ T sh n ∧ fr9c_ T sh n ≤ 3013 * (n : Int)
  | 0, _ => ⟨Int.le_refl _, by show (0 : Int) ≤ 3013 * ((0 : Nat) : Int); omega⟩
  | n + 1, hn => by
    have i := frc_b hy h n (by omega)
    have y := hy (10 * sh + (n : Int)) (by omega) (by omega)
    by_cases z : T 243 0 (10 * sh + (n : Int)) = 0
    · rw [frc_0 z]; omega
    · rw [frc_1 z]; omega
theorem bv_r {T : Zt} {d m : Int} (hT : ok_T T) (hgx : GX_ T (-1)) (hyb : YB_ T) (hm : 0 ≤ m ∧ m < 400) : 0 ≤ 4 * T 254 0 m + 9 ∧ (vR_ T d m 0 = 1 → (0 ≤ vR_ T d m 3 ∧ vR_ T d m 3 ≤ 4 * T 254 0 m + 9) ∧ (0 ≤ vR_ T d m 4 ∧ vR_ T d m 4 ≤ 4 * T 254 0 m + 9) ∧ (0 ≤ vR_ T d m 5 ∧ vR_ T d m 5 ≤ 31000) ∧ (0 ≤ vR_ T d m 6 ∧ vR_ T d m 6 ≤ 31000)) := by
  have g := hgx m hm.1 hm.2 (by omega)
  have r := bd_a hT 254 (by decide +kernel : ta_ 254 = some (1, some 400, 0, 3000)) 0 (x := m) hm.1
  refine ⟨by omega, fun _ => ?_⟩
  rw [vr_3, vr_4, vr_5, vr_6]
  have s0 := bd_a hT 239 (by decide +kernel : ta_ 239 = some (1, some 800, 0, 10)) 0 (x := 2 * m) (by omega)
  have s1 := bd_a hT 239 (by decide +kernel : ta_ 239 = some (1, some 800, 0, 10)) 0 (x := 2 * m + 1) (by omega)
  have f0 := frc_b hyb (sh := 2 * m) (by omega) (T 239 0 (2 * m)).toNat (by omega)
  have f1 := frc_b hyb (sh := 2 * m + 1) (by omega) (T 239 0 (2 * m + 1)).toNat (by omega)
  have g1 := g.1
  have g2 := g.2.1
  have one : ∀ P : Prop, 0 ≤ cz_ P (1 : Int) 0 ∧ cz_ P (1 : Int) 0 ≤ 1 := fun P => by
    by_cases y : P
    · rw [cz_t y]; decide
    · rw [cz_f y]; decide
  have o1 := one (T 281 0 m = 0)
  have o2 := one (T 281 0 m = 2)
  refine ⟨?_, ?_, ?_, ?_⟩
  · by_cases y : T 235 0 m = 2 ∨ T 235 0 m = 3
    · rw [cz_t y]; exact g1
    · rw [cz_f y]; omega
  · by_cases y : T 235 0 m = 2 ∨ T 235 0 m = 3
    · rw [cz_t y]; exact g2
    · rw [cz_f y]; omega
  · by_cases y : T 235 0 m = 2
    · rw [cz_t y]; omega
    · rw [cz_f y]; omega
  · by_cases y : T 235 0 m = 2
    · rw [cz_t y]; omega
    · rw [cz_f y]; omega
theorem gb_i {T : Zt} {c d : Int} (hT : ok_T T) (hgx : GX_ T (-1)) (hrx : RX_ T []) (hyb : YB_ T) (hml : ML_ T) (hc : 0 ≤ c ∧ c < 4) : GB_ T c d := fun g x => by
  have h29 : 0 ≤ T 111 0 29 ∧ T 111 0 29 ≤ 400 := bd_f hT 111 29 tl_11_29 0
  have h47 : 0 ≤ T 111 0 47 ∧ T 111 0 47 ≤ 3000 := bd_f hT 111 47 tl_11_47 0
  have hfo : 0 ≤ T 210 0 c ∧ T 210 0 c ≤ 400 := bd_a hT 210 (by decide +kernel : ta_ 210 = some (1, some 4, 0, 400)) 0 (x := c) hc.1
  have hmo : 0 ≤ T 211 0 c ∧ T 211 0 c ≤ 400 := bd_a hT 211 (by decide +kernel : ta_ 211 = some (1, some 4, 0, 400)) 0 (x := c) hc.1
  have ml := hml c hc.1 hc.2
  have y := gn_b (ru := fun w => T 205 0 (23 * c + w)) (v := fun k => vR_ T d (T 210 0 c + k)) (b := fun k => 4 * T 254 0 (T 210 0 c + k) + 9) (g := g) (x := x) (T 211 0 c).toNat (fun k a b => bv_r hT hgx hyb (by omega))
  have s := rx_s (T := T) (f := T 210 0 c) (n := (T 211 0 c).toNat) hrx hfo.1 (by omega) h47.1
  rw [bsm_l (b := fun k => T 254 0 (T 210 0 c + k))] at y
  omega
/-- the keys of order are keys -/
def KNK_ (T : Zt) : Prop := ∀ c, 0 ≤ c → c < T 106 0 2 → ∀ k, 0 ≤ k → k < 7 → k < T 401 c 4 → 0 ≤ T 402 c k
theorem tq_i {T : Zt} {c d : Int} (hT : ok_T T) (hx : TXR_ T) (hri : RI_ T) (hen : ENR_ T) (hma : MAR_ T) (hde : DER_ T) (hda : DAR_ T) (hpl : PLR_ T) (su : T 111 0 80 = 0) (hkn : KNK_ T) (hgx : GX_ T (-1)) (hrx : RX_ T []) (hyb : YB_ T) (hks : KS_ T) (hke : KE_ T) (hkc : KC_ T) (hc : 0 ≤ c ∧ c < T 106 0 2) : TQ_ T c d := by
  have h8 := hen.1 c hc.1 hc.2
  have sk : SK_ T c := ⟨hke c hc.1 hc.2, h8.2.2.2.2.2⟩
  have e7 : T 210 0 c = T 100 c 7 := h8.2.2.1.symm
  have hn : 0 ≤ T 100 c 8 ∧ T 100 c 8 ≤ 400 := bd_f hT 100 8 tl_0_8 c
  have hf : 0 ≤ T 100 c 7 ∧ T 100 c 7 ≤ 400 := bd_f hT 100 7 tl_0_7 c
  have h4 : 0 ≤ T 106 0 4 ∧ T 106 0 4 ≤ 400 := bd_f hT 106 4 tl_6_4 0
  have h47 : 0 ≤ T 111 0 47 ∧ T 111 0 47 ≤ 3000 := bd_f hT 111 47 tl_11_47 0
  have h24 : 0 ≤ T 111 0 24 ∧ T 111 0 24 ≤ 50 := bd_f hT 111 24 tl_11_24 0
  have kc := hkc c hc.1 hc.2
  have rul := hx.2.2.2.2 c hc.1 hc.2
  have e6 := hx.2.2.1
  have rb : ∀ w, 0 ≤ w → w < 16 → (rb_ w).1 ≤ T 401 c w ∧ T 401 c w ≤ (rb_ w).2 := fun w a b => by
    rw [rul.1 w a b]
    exact hri c w hc.1 (by omega) a (by omega)
  have r1 : 0 ≤ T 401 c 1 ∧ T 401 c 1 ≤ 9 := rb 1 (by decide) (by decide)
  have r2 : 0 ≤ T 401 c 2 ∧ T 401 c 2 ≤ 9 := rb 2 (by decide) (by decide)
  have r3 : 0 ≤ T 401 c 3 ∧ T 401 c 3 ≤ 9 := rb 3 (by decide) (by decide)
  have r4 : 0 ≤ T 401 c 4 ∧ T 401 c 4 ≤ 7 := rb 4 (by decide) (by decide)
  have VW : ∀ k : Int, 0 ≤ k → k < T 100 c 8 → vH_ T d (T 100 c 7 + k) 0 = vR_ T d (T 100 c 7 + k) 0 ∧ (vH_ T d (T 100 c 7 + k) 0 = 1 → vH_ T d (T 100 c 7 + k) 1 = vR_ T d (T 100 c 7 + k) 1 ∧ vH_ T d (T 100 c 7 + k) 2 = vR_ T d (T 100 c 7 + k) 2 ∧ vH_ T d (T 100 c 7 + k) 3 = vR_ T d (T 100 c 7 + k) 3 ∧ vH_ T d (T 100 c 7 + k) 4 = vR_ T d (T 100 c 7 + k) 4 ∧ vH_ T d (T 100 c 7 + k) 5 = vR_ T d (T 100 c 7 + k) 5 ∧ vH_ T d (T 100 c 7 + k) 6 = vR_ T d (T 100 c 7 + k) 6) := fun k a b => by
    have p := hpl.1 (T 100 c 7 + k) (by omega) (by omega)
    have q := hma.2 (T 100 c 7 + k) (by omega) (by omega)
    exact vw_e p.1 p.2 (hda _ (by omega) (by omega)) ⟨q.2.2.1, q.2.2.2⟩ su
  refine ⟨fun k a b => ?_, ⟨fun k a b => ?_, ?_⟩, ⟨rul.1, fun k a b e => ⟨(rul.2 k a b).1 e, hkn c hc.1 hc.2 k a b e⟩⟩, ⟨⟨r1, r2, r3⟩, r4⟩, ⟨h8, sk, ?_, fun k a b z i hi => ?_⟩, fun x => ?_⟩
  · show vH_ T d (T 100 c 7 + k) 0 = vR_ T d (T 210 0 c + k) 0 ∧ _
    rw [e7]
    exact VW k a b
  · show 0 ≤ 4 * T 254 0 (T 210 0 c + k) + 9 ∧ _
    rw [e7]
    exact bv_r hT hgx hyb (by omega)
  · rw [e7, bsm_l (b := fun k => T 254 0 (T 100 c 7 + k))]
    have y := rx_s (T := T) (f := T 100 c 7) (n := (T 100 c 8).toNat) hrx hf.1 (by have := hma.1; omega) h47.1
    omega
  · intro s t s0 s1 t0 t1 e
    have a := hke c hc.1 hc.2 s s0 s1
    have b := hke c hc.1 hc.2 t t0 t1
    have e' : T 403 c s = T 403 c t := e
    rw [e'] at a
    omega
  · have z' : vR_ T d (T 100 c 7 + k) 0 = 1 := by rw [← e7]; exact z
    have q := hma.2 (T 100 c 7 + k) (by omega) (by omega)
    have s := hks c hc.1 hc.2 (T 100 c 7 + k) (by omega) (by omega)
    have b3 : 0 ≤ T 102 (T 100 c 7 + k) 3 ∧ T 102 (T 100 c 7 + k) 3 ≤ 11 := bd_f hT 102 3 tl_2_3 _
    have b4 : 0 ≤ T 102 (T 100 c 7 + k) 4 ∧ T 102 (T 100 c 7 + k) 4 ≤ 11 := bd_f hT 102 4 tl_2_4 _
    rcases hi with rfl | rfl
    · show ∃ s, 0 ≤ s ∧ s < T 100 c 5 ∧ T 403 c s = vR_ T d (T 210 0 c + k) 1
      rw [e7, vr_1, ← q.2.2.1]
      have y := (sk.2 (T 102 (T 100 c 7 + k) 3) (by omega) (by omega)).resolve_left (by omega)
      exact ⟨_, y.1, y.2.1, y.2.2⟩
    · show ∃ s, 0 ≤ s ∧ s < T 100 c 5 ∧ T 403 c s = vR_ T d (T 210 0 c + k) 2
      rw [e7, vr_2, ← q.2.2.2]
      have y := (sk.2 (T 102 (T 100 c 7 + k) 4) (by omega) (by omega)).resolve_left (by omega)
      exact ⟨_, y.1, y.2.1, y.2.2⟩
  · have b := dd_b (c := c) (d := d) (x := x) (fun i a b => bd_a hT 227 (by decide +kernel : ta_ 227 = some (1, some 50, 0, 99)) 0 (x := i) a) (T 111 0 24).toNat (by omega)
    refine ⟨?_, b.1, by omega⟩
    rw [hde.1]
    exact dd_h hde.2 _ (by have := hde.1; omega)
/-- the answers of table, standing, parted are the same -/
theorem tab_x {T T1 T2 : Zt} {c d b w x1 x2 : Int} (hT : ok_T T) (hT1 : ok_T T1) (tq : 0 ≤ c → c < T 106 0 2 → TQ_ T c d) (hc6 : T 106 0 2 = T 111 0 6) (hc12 : T 108 0 2 = T 111 0 12)
    (f1 : fr_ [(107, [1, 13]), (542, []), (543, []), (544, []), (545, []), (546, []), (547, []), (548, []), (549, []), (550, []), (551, []), (552, [])] T T1) (d1 : (x1 = -2 ∧ ¬ ((0 ≤ c ∧ c < T 106 0 2) ∧ (0 ≤ b ∧ b < T 108 0 2))) ∨ (x1 = -3 ∧ ((0 ≤ c ∧ c < T 106 0 2) ∧ (0 ≤ b ∧ b < T 108 0 2)) ∧ ¬ ((0 ≤ d ∧ d ≤ 999) ∧ (0 ≤ w ∧ w ≤ 7))) ∨ (x1 = -4 ∧ ((0 ≤ c ∧ c < T 106 0 2) ∧ (0 ≤ b ∧ b < T 108 0 2)) ∧ ((0 ≤ d ∧ d ≤ 999) ∧ (0 ≤ w ∧ w ≤ 7)) ∧ T 404 c b = -1) ∨ (((0 ≤ c ∧ c < T 106 0 2) ∧ (0 ≤ b ∧ b < T 108 0 2)) ∧ ((0 ≤ d ∧ d ≤ 999) ∧ (0 ≤ w ∧ w ≤ 7)) ∧ T 404 c b ≠ -1 ∧ TO_ T T1 c d (WWp_ T c d) ∧ x1 = T1 542 0 (T 404 c b * 8 + w) ∧ (-2147483648 ≤ x1 ∧ x1 ≤ 2147483647)))
    (f2 : fr_ [(276, []), (284, []), (277, []), (286, []), (278, []), (111, [82, 83, 85, 87, 79])] T1 T2) (d2 : (x2 = -2 ∧ ¬ ((0 ≤ c ∧ c < T1 111 0 6) ∧ (0 ≤ b ∧ b < T1 111 0 12))) ∨ (x2 = -3 ∧ ((0 ≤ c ∧ c < T1 111 0 6) ∧ (0 ≤ b ∧ b < T1 111 0 12)) ∧ ¬ ((0 ≤ d ∧ d ≤ 999) ∧ (0 ≤ w ∧ w ≤ 7))) ∨ (x2 = -4 ∧ ((0 ≤ c ∧ c < T1 111 0 6) ∧ (0 ≤ b ∧ b < T1 111 0 12)) ∧ ((0 ≤ d ∧ d ≤ 999) ∧ (0 ≤ w ∧ w ≤ 7)) ∧ ¬ HE_ T1 c b) ∨ (((0 ≤ c ∧ c < T1 111 0 6) ∧ (0 ≤ b ∧ b < T1 111 0 12)) ∧ ((0 ≤ d ∧ d ≤ 999) ∧ (0 ≤ w ∧ w ≤ 7)) ∧ HE_ T1 c b ∧ TR_ T1 T2 c d b w x2)) : x1 = x2 := by
  have e6 : T1 111 0 6 = T 106 0 2 := (f1 111 0 6 rfl).trans hc6.symm
  have e12 : T1 111 0 12 = T 108 0 2 := (f1 111 0 12 rfl).trans hc12.symm
  have h12 : 0 ≤ T 108 0 2 ∧ T 108 0 2 ≤ 12 := bd_f hT 108 2 tl_8_2 0
  rw [e6, e12] at d2
  by_cases A : (0 ≤ c ∧ c < T 106 0 2) ∧ (0 ≤ b ∧ b < T 108 0 2)
  · by_cases B : (0 ≤ d ∧ d ≤ 999) ∧ (0 ≤ w ∧ w ≤ 7)
    · have h := tq A.1.1 A.1.2
      have q := h
      obtain ⟨-, -, -, -, ⟨h8, h9, h10⟩, -⟩ := q
      have hb : 0 ≤ b ∧ b < 12 := by omega
      have hh : HE_ T1 c b ↔ T 404 c b ≠ -1 := (hem_f (fun j => f1 207 0 j rfl) (f1 208 0 c rfl)).trans (he_s h8 h9 hb)
      by_cases S : T 404 c b = -1
      · have y1 : x1 = -4 := by
          rcases d1 with y | y | y | y
          · exact absurd A y.2
          · exact absurd B y.2.2
          · exact y.1
          · exact absurd S y.2.2.1
        have y2 : x2 = -4 := by
          rcases d2 with y | y | y | y
          · exact absurd A y.2
          · exact absurd B y.2.2
          · exact y.1
          · exact absurd S (hh.1 y.2.2.1)
        omega
      · have y1 : TO_ T T1 c d (WWp_ T c d) ∧ x1 = T1 542 0 (T 404 c b * 8 + w) := by
          rcases d1 with y | y | y | y
          · exact absurd A y.2
          · exact absurd B y.2.2
          · exact absurd y.2.2.2 S
          · exact ⟨y.2.2.2.1, y.2.2.2.2.1⟩
        have y2 : TR_ T1 T2 c d b w x2 := by
          rcases d2 with y | y | y | y
          · exact absurd A y.2
          · exact absurd B y.2.2
          · exact absurd (hh.2 S) y.2.2.2
          · exact y.2.2.2
        exact tb_q h hT hT1 (fun i j i0 ij j1 e => by have := h10.1 i j i0 (by omega) (by omega) j1 e; omega) f1 f2 y2.2.2.2 hb B.2 S y1.1 y1.2 y2
    · have y1 : x1 = -3 := by
        rcases d1 with y | y | y | y
        · exact absurd A y.2
        · exact y.1
        · exact absurd y.2.2.1 B
        · exact absurd y.2.1 B
      have y2 : x2 = -3 := by
        rcases d2 with y | y | y | y
        · exact absurd A y.2
        · exact y.1
        · exact absurd y.2.2.1 B
        · exact absurd y.2.1 B
      omega
  · have y1 : x1 = -2 := by
      rcases d1 with y | y | y | y
      · exact y.1
      · exact absurd y.2.1 A
      · exact absurd y.2.1 A
      · exact absurd y.1 A
    have y2 : x2 = -2 := by
      rcases d2 with y | y | y | y
      · exact y.1
      · exact absurd y.2.1 A
      · exact absurd y.2.1 A
      · exact absurd y.1 A
    omega
theorem sta_x {T T1 T2 : Zt} {c d k x1 x2 : Int} (tq : 0 ≤ c → c < T 106 0 2 → TQ_ T c d) (hc6 : T 106 0 2 = T 111 0 6)
    (f1 : fr_ [(107, [1, 13]), (542, []), (543, []), (544, []), (545, []), (546, []), (547, []), (548, []), (549, []), (550, []), (551, []), (552, [])] T T1) (d1 : (x1 = -2 ∧ ¬ (0 ≤ c ∧ c < T 106 0 2)) ∨ (x1 = -3 ∧ (0 ≤ c ∧ c < T 106 0 2) ∧ ¬ (0 ≤ d ∧ d ≤ 999)) ∨ ((0 ≤ c ∧ c < T 106 0 2) ∧ (0 ≤ d ∧ d ≤ 999) ∧ ((0 ≤ k ∧ k < T 100 c 5) → TO_ T T1 c d (WWp_ T c d) ∧ x1 = T 403 c (T1 547 0 k)) ∧ (¬ (0 ≤ k ∧ k < T 100 c 5) → x1 = -1)))
    (f2 : fr_ [(276, []), (284, []), (277, []), (286, []), (278, []), (111, [82, 83, 85, 87, 79])] T1 T2) (d2 : (x2 = -2 ∧ ¬ (0 ≤ c ∧ c < T1 111 0 6)) ∨ (x2 = -3 ∧ (0 ≤ c ∧ c < T1 111 0 6) ∧ ¬ (0 ≤ d ∧ d ≤ 999)) ∨ ((0 ≤ c ∧ c < T1 111 0 6) ∧ (0 ≤ d ∧ d ≤ 999) ∧ ((0 ≤ k ∧ k < T1 208 0 c) → x2 = (RKm_ T2 c d (T1 208 0 c)).1 k) ∧ (¬ (0 ≤ k ∧ k < T1 208 0 c) → x2 = -1) ∧ TD_ T1 T2 (fun w => T1 205 0 (23 * c + w)) (fun k => vR_ T1 d (T1 210 0 c + k)) (T1 211 0 c).toNat c d (T1 111 0 24).toNat)) : x1 = x2 := by
  have e6 : T1 111 0 6 = T 106 0 2 := (f1 111 0 6 rfl).trans hc6.symm
  rw [e6] at d2
  by_cases A : 0 ≤ c ∧ c < T 106 0 2
  · by_cases B : 0 ≤ d ∧ d ≤ 999
    · have h := tq A.1 A.2
      have q := h
      obtain ⟨-, -, -, -, ⟨h8, -, -⟩, -⟩ := q
      have e5 : T1 208 0 c = T 100 c 5 := (f1 208 0 c rfl).trans h8.1.symm
      obtain ⟨-, -, a1, a2⟩ := (d1.resolve_left (fun y => y.2 A)).resolve_left (fun y => y.2.2 B)
      obtain ⟨-, -, b1, b2, td⟩ := (d2.resolve_left (fun y => y.2 A)).resolve_left (fun y => y.2.2 B)
      by_cases K : 0 ≤ k ∧ k < T 100 c 5
      · have y := a1 K
        have z := b1 (by rw [e5]; exact K)
        exact st_q h f1 f2 td (by omega) y.1 y.2 z
      · rw [a2 K, b2 (by rw [e5]; exact K)]
    · have y1 : x1 = -3 := by
        rcases d1 with y | y | y
        · exact absurd A y.2
        · exact y.1
        · exact absurd y.2.1 B
      have y2 : x2 = -3 := by
        rcases d2 with y | y | y
        · exact absurd A y.2
        · exact y.1
        · exact absurd y.2.1 B
      omega
  · have y1 : x1 = -2 := by
      rcases d1 with y | y | y
      · exact y.1
      · exact absurd y.2.1 A
      · exact absurd y.1 A
    have y2 : x2 = -2 := by
      rcases d2 with y | y | y
      · exact y.1
      · exact absurd y.2.1 A
      · exact absurd y.1 A
    omega
theorem par_x {T T1 T2 : Zt} {c d k x1 x2 : Int} (tq : 0 ≤ c → c < T 106 0 2 → TQ_ T c d) (hc6 : T 106 0 2 = T 111 0 6)
    (f1 : fr_ [(107, [1, 13]), (542, []), (543, []), (544, []), (545, []), (546, []), (547, []), (548, []), (549, []), (550, []), (551, []), (552, [])] T T1) (d1 : (x1 = -2 ∧ ¬ (0 ≤ c ∧ c < T 106 0 2)) ∨ (x1 = -3 ∧ (0 ≤ c ∧ c < T 106 0 2) ∧ ¬ (0 ≤ d ∧ d ≤ 999)) ∨ ((0 ≤ c ∧ c < T 106 0 2) ∧ (0 ≤ d ∧ d ≤ 999) ∧ ((0 ≤ k ∧ k < T 100 c 5 - 1) → TO_ T T1 c d (WWp_ T c d) ∧ x1 = T1 548 0 k) ∧ (¬ (0 ≤ k ∧ k < T 100 c 5 - 1) → x1 = -1)))
    (f2 : fr_ [(276, []), (284, []), (277, []), (286, []), (278, []), (111, [82, 83, 85, 87, 79])] T1 T2) (d2 : (x2 = -2 ∧ ¬ (0 ≤ c ∧ c < T1 111 0 6)) ∨ (x2 = -3 ∧ (0 ≤ c ∧ c < T1 111 0 6) ∧ ¬ (0 ≤ d ∧ d ≤ 999)) ∨ ((0 ≤ c ∧ c < T1 111 0 6) ∧ (0 ≤ d ∧ d ≤ 999) ∧ ((0 ≤ k ∧ k < T1 208 0 c - 1) → x2 = (RKm_ T2 c d (T1 208 0 c)).2 k) ∧ (¬ (0 ≤ k ∧ k < T1 208 0 c - 1) → x2 = -1) ∧ TD_ T1 T2 (fun w => T1 205 0 (23 * c + w)) (fun k => vR_ T1 d (T1 210 0 c + k)) (T1 211 0 c).toNat c d (T1 111 0 24).toNat)) : x1 = x2 := by
  have e6 : T1 111 0 6 = T 106 0 2 := (f1 111 0 6 rfl).trans hc6.symm
  rw [e6] at d2
  by_cases A : 0 ≤ c ∧ c < T 106 0 2
  · by_cases B : 0 ≤ d ∧ d ≤ 999
    · have h := tq A.1 A.2
      have q := h
      obtain ⟨-, -, -, -, ⟨h8, -, -⟩, -⟩ := q
      have e5 : T1 208 0 c = T 100 c 5 := (f1 208 0 c rfl).trans h8.1.symm
      obtain ⟨-, -, a1, a2⟩ := (d1.resolve_left (fun y => y.2 A)).resolve_left (fun y => y.2.2 B)
      obtain ⟨-, -, b1, b2, td⟩ := (d2.resolve_left (fun y => y.2 A)).resolve_left (fun y => y.2.2 B)
      by_cases K : 0 ≤ k ∧ k < T 100 c 5 - 1
      · have y := a1 K
        have z := b1 (by rw [e5]; exact K)
        exact pa_q h f1 f2 td (by omega) y.1 y.2 z
      · rw [a2 K, b2 (by rw [e5]; exact K)]
    · have y1 : x1 = -3 := by
        rcases d1 with y | y | y
        · exact absurd A y.2
        · exact y.1
        · exact absurd y.2.1 B
      have y2 : x2 = -3 := by
        rcases d2 with y | y | y
        · exact absurd A y.2
        · exact y.1
        · exact absurd y.2.1 B
      omega
  · have y1 : x1 = -2 := by
      rcases d1 with y | y | y
      · exact y.1
      · exact absurd y.2.1 A
      · exact absurd y.1 A
    have y2 : x2 = -2 := by
      rcases d2 with y | y | y
      · exact y.1
      · exact absurd y.2.1 A
      · exact absurd y.1 A
    omega
-- the keys of order that are read are keys
def KN9_ (v : Int → Int) : Prop := ∀ k, 0 ≤ k → k < 7 → k < v 4 → 0 ≤ v (16 + k)
theorem kn9_u {v : Int → Int} {w x : Int} (h : KN9_ v) (h4 : w ≠ 4) (h16 : w < 16) : KN9_ (u9_ v w x) := fun k a b c => by
  rw [u9_n (fun z => h4 z.symm)] at c
  rw [u9_n (show 16 + k ≠ w by omega)]
  exact h k a b c
theorem kn9_o {v : Int → Int} : KN9_ (ov9_ v) := fun k a b c => by
  rw [ov9_4] at c
  omega
theorem kn9_s {v : Int → Int} {c x : Int} (h : KN9_ v) (h4 : v 4 = c) (hx : 0 ≤ x) : KN9_ (u9_ (u9_ v (16 + c) x) 4 (c + 1)) := fun k a b d => by
  rw [u9_e] at d
  rw [u9_n (show 16 + k ≠ 4 by omega)]
  by_cases z : k = c
  · rw [z, u9_e]
    exact hx
  · rw [u9_n (show 16 + k ≠ 16 + c by omega)]
    exact h k a b (by omega)
theorem kn9_d : KN9_ dv9_ := by
  have h : ∀ k : Nat, k < 7 → (k : Int) < dv9_ 4 → 0 ≤ dv9_ (16 + (k : Int)) := by decide +kernel
  intro k a b c
  have g := h k.toNat (by omega)
  rw [show ((k.toNat : Nat) : Int) = k by omega] at g
  exact g c
theorem orf9_n {b : Int → Int} {n : Int} : ∀ (f : Nat) {a c : Int} {t v : Int → Int} {p : Int × (Int → Int)}, v 4 = c → KN9_ v → orf9_ f b n a t c v = Sum.inr p → KN9_ p.2
  | 0, _, _, _, _, _, _, _, h => by cases h
  | f + 1, a, c, t, v, p, hk, hv, h => by
      unfold orf9_ at h
      obtain ⟨q, h1, h2⟩ := bn9_i h
      have hx := wof9_g tb9_2 h1
      have g1 : KN9_ (u9_ (u9_ v (16 + c) q.2) 4 (c + 1)) := kn9_s hv hk hx.1
      by_cases z : t q.2 = 0
      · rw [if_pos z] at h2
        by_cases z4 : (tkf9_ b n q.1).2.2 = 4
        · rw [if_pos z4] at h2
          exact orf9_n f u9_e g1 h2
        · rw [if_neg z4] at h2
          obtain ⟨e, h3, h4⟩ := bn9_i h2
          cases h4
          exact g1
      · rw [if_neg z] at h2
        cases h2
theorem bdf9_n {b v : Int → Int} {n a x : Int} {p : Int × (Int → Int)} (hv : KN9_ v) (hx : 0 ≤ x ∧ x < 14) (h2 : x ≠ 2) (h : bdf9_ b n a x v = Sum.inr p) : KN9_ p.2 := by
  by_cases z0 : x = 0
  · rw [bdf9_0 z0] at h
    obtain ⟨q, h1, h3⟩ := bn9_i h
    cases h3
    exact kn9_u hv (by decide) (by decide)
  · by_cases z1 : x = 1
    · rw [bdf9_1 z1] at h
      obtain ⟨q, h1, h3⟩ := bn9_i h
      cases h3
      exact kn9_u (kn9_u (kn9_u hv (by decide) (by decide)) (by decide) (by decide)) (by decide) (by decide)
    · by_cases z3 : x = 3
      · rw [bdf9_3 z3] at h
        cases h
        exact kn9_u hv (by decide) (by decide)
      · rw [bdf9_4 (by omega)] at h
        obtain ⟨q, h1, h3⟩ := bn9_i h
        cases h3
        exact kn9_u hv (by omega) (by omega)
theorem stf9_n {b t v : Int → Int} {n a : Int} {y : Int × (Int → Int) × (Int → Int)} (hv : KN9_ v) (h : stf9_ b n a t v = Sum.inr y) : KN9_ y.2.2 := by
  unfold stf9_ at h
  obtain ⟨q, h1, h2⟩ := bn9_i h
  by_cases z : t q.2 = 0
  · rw [if_pos z] at h2
    by_cases z2 : q.2 = 2
    · rw [if_pos z2] at h2
      obtain ⟨p, h3, h4⟩ := bn9_i h2
      cases h4
      exact orf9_n 9 ov9_4 kn9_o h3
    · rw [if_neg z2] at h2
      obtain ⟨p, h3, h4⟩ := bn9_i h2
      obtain ⟨e, h5, h6⟩ := bn9_i h4
      cases h6
      exact bdf9_n hv (wof9_g tb9_0 h1) z2 h3
  · rw [if_neg z] at h2
    cases h2
theorem rdf9_n {b : Int → Int} {n : Int} : ∀ (f : Nat) {a : Int} {t v v' : Int → Int}, KN9_ v → rdf9_ f b n a t v = Sum.inr v' → KN9_ v'
  | 0, _, _, _, _, _, h => by cases h
  | f + 1, a, t, v, v', hv, h => by
      unfold rdf9_ at h
      by_cases z : (tkf9_ b n a).2.2 = 0
      · rw [if_pos z] at h
        cases h
        exact hv
      · rw [if_neg z] at h
        obtain ⟨y, h1, h2⟩ := bn9_i h
        exact rdf9_n f (stf9_n hv h1) h2
/-- a competition is told: its keys are keys -/
theorem knk_c {T T1 : Zt} {x1 : Int} (h : KNK_ T) (hn : 0 ≤ T 106 0 2) (ho : (∀ i j, i ≠ T 106 0 2 → T1 401 i j = T 401 i j) ∧ (T1 106 0 2 = T 106 0 2 → ∀ i j, T1 402 i j = T 402 i j)) (d1 : CH9_ T T1 x1) : KNK_ T1 := by
  obtain ⟨o2, o3⟩ := ho
  have same : T1 106 0 2 = T 106 0 2 → KNK_ T1 := fun e c a b k k0 k1 k2 => by
    rw [e] at b
    rw [o2 c 4 (by omega)] at k2
    rw [o3 e]
    exact h c a b k k0 k1 k2
  rcases d1 with ⟨a1, a2, a3, a4, a5⟩ | ⟨a1, a2, ⟨a3, kk, a4, a5⟩ | ⟨a3, a4, a5, a6, a10, v, a7, a8, a9⟩⟩
  · exact same a5
  · exact same a3
  · intro c a b k k0 k1 k2
    by_cases zc : c = T 106 0 2
    · rw [zc] at k2 ⊢
      rw [a8 4 (by omega) (by omega)] at k2
      rw [a9 k k0 k2]
      exact rdf9_n 402 kn9_d a7 k k0 k1 k2
    · rw [o2 c 4 zc] at k2
      rw [a6 c k zc]
      exact h c a (by omega) k k0 k1 k2
/-- nothing is supposed between the calls -/
def SUP_ (T : Zt) : Prop := T 111 0 80 = 0
theorem bk_X11_countLeft_e_59 : ck_ fX11 none cX11_countLeft 59 [.iload 2, .aload 0, .tableswitch 0 11 10 #[], .iload 1, .iaload, .aload 0, .tableswitch 0 11 11 #[], .iload 1, .iaload, .iadd, .if_icmp .ge 136, .aload 0, .tableswitch 0 11 92 #[], .aload 0, .tableswitch 0 11 32 #[], .iload 2, .iaload, .dup2, .iaload, .aload 0, .iload 2] 90 = true := qck_r (nn_ _) (by decide +kernel)
theorem bs_X11_countLeft_e_59 {P : Zt → Option Zv → Prop} (K : Int → Zl → List Zv → Zt → Prop) : sx_ K P [.iload 2, .aload 0, .tableswitch 0 11 10 #[], .iload 1, .iaload, .aload 0, .tableswitch 0 11 11 #[], .iload 1, .iaload, .iadd, .if_icmp .ge 136, .aload 0, .tableswitch 0 11 92 #[], .aload 0, .tableswitch 0 11 32 #[], .iload 2, .iaload, .dup2, .iaload, .aload 0, .iload 2] 90 = x_iload 2 (x_aload 0 (x_g1 111 210 (x_iload 1 (x_iaload (x_aload 0 (x_g1 111 211 (x_iload 1 (x_iaload (x_iadd (x_if_icmp .ge 136 K (x_aload 0 (x_g1 111 292 (x_aload 0 (x_g1 111 232 (x_iload 2 (x_iaload (x_dup2 (x_iaload (x_aload 0 (x_iload 2 (K 90))))))))))))))))))))) := ((xe_iload 2).trans (congrArg (x_iload 2) ((xe_aload 0).trans (congrArg (x_aload 0) ((xe_g1 (kk := 111) rfl tl_11_10).trans (congrArg (x_g1 111 210) ((xe_iload 1).trans (congrArg (x_iload 1) ((xe_iaload).trans (congrArg (x_iaload) ((xe_aload 0).trans (congrArg (x_aload 0) ((xe_g1 (kk := 111) rfl tl_11_11).trans (congrArg (x_g1 111 211) ((xe_iload 1).trans (congrArg (x_iload 1) ((xe_iaload).trans (congrArg (x_iaload) ((xe_iadd).trans (congrArg (x_iadd) ((xe_if_icmp .ge 136).trans (congrArg (x_if_icmp .ge 136 K) ((xe_aload 0).trans (congrArg (x_aload 0) ((xe_g1 (kk := 111) rfl tl_11_92).trans (congrArg (x_g1 111 292) ((xe_aload 0).trans (congrArg (x_aload 0) ((xe_g1 (kk := 111) rfl tl_11_32).trans (congrArg (x_g1 111 232) ((xe_iload 2).trans (congrArg (x_iload 2) ((xe_iaload).trans (congrArg (x_iaload) ((xe_dup2).trans (congrArg (x_dup2) ((xe_iaload).trans (congrArg (x_iaload) ((xe_aload 0).trans (congrArg (x_aload 0) ((xe_iload 2).trans (congrArg (x_iload 2) xe_nil))))))))))))))))))))))))))))))))))))))))))
theorem bk_X11_countLeft_e_136 : ck_ fX11 none cX11_countLeft 136 [.return_] 137 = true := qck_r (nn_ _) (by decide +kernel)
theorem bs_X11_countLeft_e_136 {P : Zt → Option Zv → Prop} (K : Int → Zl → List Zv → Zt → Prop) : sx_ K P [.return_] 137 = x_return_ P := (xe_return_)
theorem bk_X11_countLeft_e_93 : ck_ fX11 none cX11_countLeft 93 [.ifCond .eq 100, .iconst 1, .goto 101] 100 = true := qck_r (nn_ _) (by decide +kernel)
theorem bs_X11_countLeft_e_93 {P : Zt → Option Zv → Prop} (K : Int → Zl → List Zv → Zt → Prop) : sx_ K P [.ifCond .eq 100, .iconst 1, .goto 101] 100 = x_ifCond .eq 100 K (x_iconst 1 (x_goto 101 K)) := ((xe_ifCond .eq 100).trans (congrArg (x_ifCond .eq 100 K) ((xe_iconst 1).trans (congrArg (x_iconst 1) (xe_goto 101)))))
theorem bk_X11_countLeft_e_100 : ck_ fX11 none cX11_countLeft 100 [.iconst 0, .iadd, .iastore, .aload 0, .tableswitch 0 11 92 #[], .aload 0, .tableswitch 0 11 33 #[], .iload 2, .iaload, .dup2, .iaload, .aload 0, .iload 2] 117 = true := qck_r (nn_ _) (by decide +kernel)
theorem bs_X11_countLeft_e_100 {P : Zt → Option Zv → Prop} (K : Int → Zl → List Zv → Zt → Prop) : sx_ K P [.iconst 0, .iadd, .iastore, .aload 0, .tableswitch 0 11 92 #[], .aload 0, .tableswitch 0 11 33 #[], .iload 2, .iaload, .dup2, .iaload, .aload 0, .iload 2] 117 = x_iconst 0 (x_iadd (x_iastore (x_aload 0 (x_g1 111 292 (x_aload 0 (x_g1 111 233 (x_iload 2 (x_iaload (x_dup2 (x_iaload (x_aload 0 (x_iload 2 (K 117))))))))))))) := ((xe_iconst 0).trans (congrArg (x_iconst 0) ((xe_iadd).trans (congrArg (x_iadd) ((xe_iastore).trans (congrArg (x_iastore) ((xe_aload 0).trans (congrArg (x_aload 0) ((xe_g1 (kk := 111) rfl tl_11_92).trans (congrArg (x_g1 111 292) ((xe_aload 0).trans (congrArg (x_aload 0) ((xe_g1 (kk := 111) rfl tl_11_33).trans (congrArg (x_g1 111 233) ((xe_iload 2).trans (congrArg (x_iload 2) ((xe_iaload).trans (congrArg (x_iaload) ((xe_dup2).trans (congrArg (x_dup2) ((xe_iaload).trans (congrArg (x_iaload) ((xe_aload 0).trans (congrArg (x_aload 0) ((xe_iload 2).trans (congrArg (x_iload 2) xe_nil))))))))))))))))))))))))))
theorem bk_X11_countLeft_e_120 : ck_ fX11 none cX11_countLeft 120 [.ifCond .eq 127, .iconst 1, .goto 128] 127 = true := qck_r (nn_ _) (by decide +kernel)
theorem bs_X11_countLeft_e_120 {P : Zt → Option Zv → Prop} (K : Int → Zl → List Zv → Zt → Prop) : sx_ K P [.ifCond .eq 127, .iconst 1, .goto 128] 127 = x_ifCond .eq 127 K (x_iconst 1 (x_goto 128 K)) := ((xe_ifCond .eq 127).trans (congrArg (x_ifCond .eq 127 K) ((xe_iconst 1).trans (congrArg (x_iconst 1) (xe_goto 128)))))
theorem bk_X11_countLeft_e_127 : ck_ fX11 none cX11_countLeft 127 [.iconst 0, .iadd, .iastore, .iinc 2 1, .goto 59] 136 = true := qck_r (nn_ _) (by decide +kernel)
theorem bs_X11_countLeft_e_127 {P : Zt → Option Zv → Prop} (K : Int → Zl → List Zv → Zt → Prop) : sx_ K P [.iconst 0, .iadd, .iastore, .iinc 2 1, .goto 59] 136 = x_iconst 0 (x_iadd (x_iastore (x_iinc 2 1 (x_goto 59 K)))) := ((xe_iconst 0).trans (congrArg (x_iconst 0) ((xe_iadd).trans (congrArg (x_iadd) ((xe_iastore).trans (congrArg (x_iastore) ((xe_iinc 2 1).trans (congrArg (x_iinc 2 1) (xe_goto 59)))))))))
theorem bk_X11_countLeft_e_128 : ck_ fX11 none cX11_countLeft 128 [.iadd, .iastore, .iinc 2 1, .goto 59] 136 = true := qck_r (nn_ _) (by decide +kernel)
theorem bs_X11_countLeft_e_128 {P : Zt → Option Zv → Prop} (K : Int → Zl → List Zv → Zt → Prop) : sx_ K P [.iadd, .iastore, .iinc 2 1, .goto 59] 136 = x_iadd (x_iastore (x_iinc 2 1 (x_goto 59 K))) := ((xe_iadd).trans (congrArg (x_iadd) ((xe_iastore).trans (congrArg (x_iastore) ((xe_iinc 2 1).trans (congrArg (x_iinc 2 1) (xe_goto 59)))))))
theorem bk_X11_countLeft_e_101 : ck_ fX11 none cX11_countLeft 101 [.iadd, .iastore, .aload 0, .tableswitch 0 11 92 #[], .aload 0, .tableswitch 0 11 33 #[], .iload 2, .iaload, .dup2, .iaload, .aload 0, .iload 2] 117 = true := qck_r (nn_ _) (by decide +kernel)
theorem bs_X11_countLeft_e_101 {P : Zt → Option Zv → Prop} (K : Int → Zl → List Zv → Zt → Prop) : sx_ K P [.iadd, .iastore, .aload 0, .tableswitch 0 11 92 #[], .aload 0, .tableswitch 0 11 33 #[], .iload 2, .iaload, .dup2, .iaload, .aload 0, .iload 2] 117 = x_iadd (x_iastore (x_aload 0 (x_g1 111 292 (x_aload 0 (x_g1 111 233 (x_iload 2 (x_iaload (x_dup2 (x_iaload (x_aload 0 (x_iload 2 (K 117)))))))))))) := ((xe_iadd).trans (congrArg (x_iadd) ((xe_iastore).trans (congrArg (x_iastore) ((xe_aload 0).trans (congrArg (x_aload 0) ((xe_g1 (kk := 111) rfl tl_11_92).trans (congrArg (x_g1 111 292) ((xe_aload 0).trans (congrArg (x_aload 0) ((xe_g1 (kk := 111) rfl tl_11_33).trans (congrArg (x_g1 111 233) ((xe_iload 2).trans (congrArg (x_iload 2) ((xe_iaload).trans (congrArg (x_iaload) ((xe_dup2).trans (congrArg (x_dup2) ((xe_iaload).trans (congrArg (x_iaload) ((xe_aload 0).trans (congrArg (x_aload 0) ((xe_iload 2).trans (congrArg (x_iload 2) xe_nil))))))))))))))))))))))))
theorem bk_X11_countLeft_e_15 : ck_ fX11 none cX11_countLeft 15 [.iload 2, .iconst 12, .if_icmp .ge 52, .aload 0, .tableswitch 0 11 91 #[], .iload 2, .aload 0, .tableswitch 0 11 76 #[], .iconst 9, .iload 2, .imul, .iconst 6, .iadd, .iaload, .iastore, .aload 0, .tableswitch 0 11 92 #[], .iload 2, .iconst 0, .iastore, .iinc 2 1, .goto 15] 52 = true := qck_r (nn_ _) (by decide +kernel)
theorem bs_X11_countLeft_e_15 {P : Zt → Option Zv → Prop} (K : Int → Zl → List Zv → Zt → Prop) : sx_ K P [.iload 2, .iconst 12, .if_icmp .ge 52, .aload 0, .tableswitch 0 11 91 #[], .iload 2, .aload 0, .tableswitch 0 11 76 #[], .iconst 9, .iload 2, .imul, .iconst 6, .iadd, .iaload, .iastore, .aload 0, .tableswitch 0 11 92 #[], .iload 2, .iconst 0, .iastore, .iinc 2 1, .goto 15] 52 = x_iload 2 (x_iconst 12 (x_if_icmp .ge 52 K (x_aload 0 (x_g1 111 291 (x_iload 2 (x_aload 0 (x_g1 111 276 (x_iconst 9 (x_iload 2 (x_imul (x_iconst 6 (x_iadd (x_iaload (x_iastore (x_aload 0 (x_g1 111 292 (x_iload 2 (x_iconst 0 (x_iastore (x_iinc 2 1 (x_goto 15 K))))))))))))))))))))) := ((xe_iload 2).trans (congrArg (x_iload 2) ((xe_iconst 12).trans (congrArg (x_iconst 12) ((xe_if_icmp .ge 52).trans (congrArg (x_if_icmp .ge 52 K) ((xe_aload 0).trans (congrArg (x_aload 0) ((xe_g1 (kk := 111) rfl tl_11_91).trans (congrArg (x_g1 111 291) ((xe_iload 2).trans (congrArg (x_iload 2) ((xe_aload 0).trans (congrArg (x_aload 0) ((xe_g1 (kk := 111) rfl tl_11_76).trans (congrArg (x_g1 111 276) ((xe_iconst 9).trans (congrArg (x_iconst 9) ((xe_iload 2).trans (congrArg (x_iload 2) ((xe_imul).trans (congrArg (x_imul) ((xe_iconst 6).trans (congrArg (x_iconst 6) ((xe_iadd).trans (congrArg (x_iadd) ((xe_iaload).trans (congrArg (x_iaload) ((xe_iastore).trans (congrArg (x_iastore) ((xe_aload 0).trans (congrArg (x_aload 0) ((xe_g1 (kk := 111) rfl tl_11_92).trans (congrArg (x_g1 111 292) ((xe_iload 2).trans (congrArg (x_iload 2) ((xe_iconst 0).trans (congrArg (x_iconst 0) ((xe_iastore).trans (congrArg (x_iastore) ((xe_iinc 2 1).trans (congrArg (x_iinc 2 1) (xe_goto 15)))))))))))))))))))))))))))))))))))))))))))
theorem bk_X11_countLeft_e_52 : ck_ fX11 none cX11_countLeft 52 [.aload 0, .tableswitch 0 11 10 #[], .iload 1, .iaload, .istore 2] 59 = true := qck_r (nn_ _) (by decide +kernel)
theorem bs_X11_countLeft_e_52 {P : Zt → Option Zv → Prop} (K : Int → Zl → List Zv → Zt → Prop) : sx_ K P [.aload 0, .tableswitch 0 11 10 #[], .iload 1, .iaload, .istore 2] 59 = x_aload 0 (x_g1 111 210 (x_iload 1 (x_iaload (x_istore 2 (K 59))))) := ((xe_aload 0).trans (congrArg (x_aload 0) ((xe_g1 (kk := 111) rfl tl_11_10).trans (congrArg (x_g1 111 210) ((xe_iload 1).trans (congrArg (x_iload 1) ((xe_iaload).trans (congrArg (x_iaload) ((xe_istore 2).trans (congrArg (x_istore 2) xe_nil))))))))))
theorem bk_X11_countLeft_e_0 : ck_ fX11 none cX11_countLeft 0 [.aload 0, .iconst 0, .tableswitch 1 11 80 #[], .aload 0, .iload 1, .iconst 999] 10 = true := qck_r (nn_ _) (by decide +kernel)
theorem bs_X11_countLeft_e_0 {P : Zt → Option Zv → Prop} (K : Int → Zl → List Zv → Zt → Prop) : sx_ K P [.aload 0, .iconst 0, .tableswitch 1 11 80 #[], .aload 0, .iload 1, .iconst 999] 10 = x_aload 0 (x_iconst 0 (x_p 111 80 0 1 (x_aload 0 (x_iload 1 (x_iconst 999 (K 10)))))) := ((xe_aload 0).trans (congrArg (x_aload 0) ((xe_iconst 0).trans (congrArg (x_iconst 0) ((xe_p (kk := 111) rfl tl_11_80).trans (congrArg (x_p 111 80 0 1) ((xe_aload 0).trans (congrArg (x_aload 0) ((xe_iload 1).trans (congrArg (x_iload 1) ((xe_iconst 999).trans (congrArg (x_iconst 999) xe_nil))))))))))))
theorem bk_X11_countLeft_e_13 : ck_ fX11 none cX11_countLeft 13 [.iconst 0, .istore 2] 15 = true := qck_r (nn_ _) (by decide +kernel)
theorem bs_X11_countLeft_e_13 {P : Zt → Option Zv → Prop} (K : Int → Zl → List Zv → Zt → Prop) : sx_ K P [.iconst 0, .istore 2] 15 = x_iconst 0 (x_istore 2 (K 15)) := ((xe_iconst 0).trans (congrArg (x_iconst 0) ((xe_istore 2).trans (congrArg (x_istore 2) xe_nil))))
abbrev po_X11_countLeft_e (T : Zt) (c : Int) : Zt → Option Zv → Prop := fun T' r => r = none ∧ fr_ [(276, []), (291, []), (292, []), (111, [80, 82, 83])] T T' ∧ (PB6_ T' ∧ LB_ T' 1000 ∧ T' 111 0 80 = 0)
set_option maxHeartbeats 4000000 in
theorem ct_X11_countLeft_e {T : Zt} {c : Int} (h1 : 0 ≤ c ∧ c < 4) (hml : ML_ T) (hsc : SC_ T) (hyb : YB_ T) : Ct_ yX11_countLeft zX11_countLeft T [vR 111 0, vI c] (po_X11_countLeft_e T c) := by
  refine ct_of pn_11 rfl rfl (Nat.le_of_ble_eq_true rfl) (fun hT hav => ?_)
  have hr_c : -2147483648 ≤ c ∧ c ≤ 2147483647 := hav (vI c) (List.mem_cons_of_mem _ List.mem_cons_self)
  have hz : zX11_countLeft.2.2.2.1 = some .boolean → ∀ (T' : Zt) (x : Int), po_X11_countLeft_e T c T' (some (vI x)) → 0 ≤ x ∧ x ≤ 1 := fun h => by cases h
  have hmc := hml c (by omega) (by omega)
  have hb_29 : 0 ≤ T 111 0 29 ∧ T 111 0 29 ≤ 400 := bd_f hT 111 29 tl_11_29 0
  have hfo : 0 ≤ T 210 0 c ∧ T 210 0 c ≤ 400 := bd_a hT 210 (by decide +kernel : ta_ 210 = some (1, some 4, 0, 400)) 0 (by omega)
  have hmo : 0 ≤ T 211 0 c ∧ T 211 0 c ≤ 400 := bd_a hT 211 (by decide +kernel : ta_ 211 = some (1, some 4, 0, 400)) 0 (by omega)
  show J_ zX11_countLeft T (po_X11_countLeft_e T c) 0 0 0 [some (vR 111 0), some (vI c), none] [] T
  have c_59 : ∀ (nn : Nat) (m : Int) (T2 : Zt), ((400 - m).toNat) ≤ nn → (fr_ [(276, []), (291, []), (292, []), (111, [80, 82, 83])] T T2) → (T 210 0 c ≤ m ∧ m ≤ T 210 0 c + T 211 0 c) → (PB6_ T2) → (LB_ T2 (2 * (m - T 210 0 c))) → (T2 111 0 80 = 0) → J_ zX11_countLeft T (po_X11_countLeft_e T c) 0 0 59 [some (vR 111 0), some (vI c), some (vI m)] [] T2 := by
    intro nn
    induction nn using Nat.strongRecOn with
    | _ nn ih_59 =>
      intro m T2 hm_59 hf_59 i2 pb2 lb2 su2
      replace hm_59 := fun (_ : Unit) => hm_59
      refine j_blx (F := fX11) tb_X11 (nn_ _) bk_X11_countLeft_e_59 bs_X11_countLeft_e_59 hz (fun K hK => ?_)
      refine ix_i (by omega) ?_
      intro b1 b1b
      have e2 : T2 210 0 c = T 210 0 c := hf_59 210 0 c rfl
      rw [e2] at b1 b1b ⊢
      refine ix_i (by omega) ?_
      intro b3 b3b
      have e4 : T2 211 0 c = T 211 0 c := hf_59 211 0 c rfl
      rw [e4] at b3 b3b ⊢
      refine rg_i (by omega) ?_
      refine And.intro (fun c5 => ?_) (fun c5 => ?_)
      · refine hK 136 _ [] T2 ?_
        refine j_blx (F := fX11) tb_X11 (nn_ _) bk_X11_countLeft_e_136 bs_X11_countLeft_e_136 hz (fun K hK => ?_)
        refine (show po_X11_countLeft_e T c T2 (none) from ?_)
        exact ⟨rfl, fr_t (fr_0 _ _) (fr_s hf_59 rfl), pb2, lb_m lb2 (by omega), su2⟩
      · refine ix_i (by omega) ?_
        intro b6 b6b
        have e7 : T2 232 0 m = T 232 0 m := hf_59 232 0 m rfl
        rw [e7] at b6 b6b ⊢
        refine ix_i (by omega) ?_
        intro b8 b8b
        have t9 : 0 ≤ T2 292 0 (T 232 0 m) ∧ T2 292 0 (T 232 0 m) ≤ 2 * (m - T 210 0 c) := (lb2) (T 232 0 m) (by omega) (by omega)
        refine hK 90 _ [vI m, vR 111 0, vI (T2 292 0 (T 232 0 m)), vI (T 232 0 m), vR 292 0] T2 ?_
        refine j_callV (y := yX11_isLeft) (Yc := zX11_isLeft) (rest := [vI (T2 292 0 (T 232 0 m)), vI (T 232 0 m), vR 292 0]) [vI m] (ct_X11_isLeft (T := T2) (by omega)) cl_X11_538 (qd_c (by decide +kernel)) (nn_ _) rfl (rf_of rfl) (Nat.le_of_ble_eq_true rfl) (Nat.le_of_ble_eq_true rfl) (Nat.le_of_ble_eq_true rfl) rfl ?_
        rintro _ _ ⟨rfl, x10, rfl, hx10⟩
        show J_ zX11_countLeft T (po_X11_countLeft_e T c) 0 0 93 _ [vI x10, vI (T2 292 0 (T 232 0 m)), vI (T 232 0 m), vR 292 0] T2
        refine j_blx (F := fX11) tb_X11 (nn_ _) bk_X11_countLeft_e_93 bs_X11_countLeft_e_93 hz (fun K hK => ?_)
        refine And.intro (fun c11 => ?_) (fun c11 => ?_)
        · replace hx10 := hx10.resolve_left (fun z => absurd (c11.symm.trans z.1) (by decide))
          clear c11
          refine hK 100 _ [vI (T2 292 0 (T 232 0 m)), vI (T 232 0 m), vR 292 0] T2 ?_
          refine j_blx (F := fX11) tb_X11 (nn_ _) bk_X11_countLeft_e_100 bs_X11_countLeft_e_100 hz (fun K hK => ?_)
          refine rg_i (by omega) ?_
          refine iy_i (by omega) (by omega) ?_
          refine x_nm (fun U12 hU12 => ?_)
          have e13 := up_f hU12
          refine ix_i (by omega) ?_
          intro b14 b14b
          have e15 : U12 233 0 m = T 233 0 m := (up_k hU12 (by exact Nat.ne_of_beq_eq_false rfl) 0 m).trans (hf_59 233 0 m rfl)
          rw [e15] at b14 b14b ⊢
          refine ix_i (by omega) ?_
          intro b16 b16b
          have t17 : 0 ≤ U12 292 0 (T 233 0 m) ∧ U12 292 0 (T 233 0 m) ≤ 2 * (m - T 210 0 c) + 1 := (lb_u (lb2) hU12 (by omega)) (T 233 0 m) (by omega) (by omega)
          refine hK 117 _ [vI m, vR 111 0, vI (U12 292 0 (T 233 0 m)), vI (T 233 0 m), vR 292 0] U12 ?_
          refine j_callV (y := yX11_isLeft) (Yc := zX11_isLeft) (rest := [vI (U12 292 0 (T 233 0 m)), vI (T 233 0 m), vR 292 0]) [vI m] (ct_X11_isLeft (T := U12) (by omega)) cl_X11_538 (qd_c (by decide +kernel)) (nn_ _) rfl (rf_of rfl) (Nat.le_of_ble_eq_true rfl) (Nat.le_of_ble_eq_true rfl) (Nat.le_of_ble_eq_true rfl) rfl ?_
          rintro _ _ ⟨rfl, x18, rfl, hx18⟩
          show J_ zX11_countLeft T (po_X11_countLeft_e T c) 0 0 120 _ [vI x18, vI (U12 292 0 (T 233 0 m)), vI (T 233 0 m), vR 292 0] U12
          refine j_blx (F := fX11) tb_X11 (nn_ _) bk_X11_countLeft_e_120 bs_X11_countLeft_e_120 hz (fun K hK => ?_)
          refine And.intro (fun c19 => ?_) (fun c19 => ?_)
          · replace hx18 := hx18.resolve_left (fun z => absurd (c19.symm.trans z.1) (by decide))
            clear c19
            refine hK 127 _ [vI (U12 292 0 (T 233 0 m)), vI (T 233 0 m), vR 292 0] U12 ?_
            refine j_blx (F := fX11) tb_X11 (nn_ _) bk_X11_countLeft_e_127 bs_X11_countLeft_e_127 hz (fun K hK => ?_)
            refine rg_i (by omega) ?_
            refine iy_i (by omega) (by omega) ?_
            refine x_nm (fun U20 hU20 => ?_)
            have e21 := up_f hU20
            refine rg_i (by omega) ?_
            refine hK 59 [some (vR 111 0), some (vI c), some (vI (m + 1))] [] U20 ?_
            have e22 : U20 111 0 80 = T2 111 0 80 := (up_k hU20 (by exact Nat.ne_of_beq_eq_false rfl) 0 80).trans (up_k hU12 (by exact Nat.ne_of_beq_eq_false rfl) 0 80)
            refine ih_59 _ ?_ (m + 1) U20 (Nat.le_refl _) ?_ ?_ ?_ ?_ ?_
            · have hm_59 := hm_59 (); omega
            · exact fr_u (fr_u (fr_t (fr_0 _ _) (fr_s hf_59 rfl)) hU12 rfl) hU20 rfl
            · omega
            · exact PB6__f (ws := [(292, [])]) pb2 (fr_u (fr_u (fr_0 _ _) hU12 rfl) hU20 rfl) ⟨fun _ => rfl, trivial⟩
            · exact lb_m (lb_u (lb_u (lb2) hU12 (by omega)) hU20 (by omega)) (by omega)
            · exact ((up_k hU20 (by exact Nat.ne_of_beq_eq_false rfl) 0 80).trans (up_k hU12 (by exact Nat.ne_of_beq_eq_false rfl) 0 80)).trans su2
          · replace hx18 := hx18.resolve_right (fun z => c19 z.1)
            clear c19
            refine hK 128 [some (vR 111 0), some (vI c), some (vI m)] [vI 1, vI (U12 292 0 (T 233 0 m)), vI (T 233 0 m), vR 292 0] U12 ?_
            refine j_blx (F := fX11) tb_X11 (nn_ _) bk_X11_countLeft_e_128 bs_X11_countLeft_e_128 hz (fun K hK => ?_)
            refine rg_i (by omega) ?_
            refine iy_i (by omega) (by omega) ?_
            refine x_nm (fun U23 hU23 => ?_)
            have e24 := up_f hU23
            refine rg_i (by omega) ?_
            refine hK 59 [some (vR 111 0), some (vI c), some (vI (m + 1))] [] U23 ?_
            have e25 : U23 111 0 80 = T2 111 0 80 := (up_k hU23 (by exact Nat.ne_of_beq_eq_false rfl) 0 80).trans (up_k hU12 (by exact Nat.ne_of_beq_eq_false rfl) 0 80)
            refine ih_59 _ ?_ (m + 1) U23 (Nat.le_refl _) ?_ ?_ ?_ ?_ ?_
            · have hm_59 := hm_59 (); omega
            · exact fr_u (fr_u (fr_t (fr_0 _ _) (fr_s hf_59 rfl)) hU12 rfl) hU23 rfl
            · omega
            · exact PB6__f (ws := [(292, [])]) pb2 (fr_u (fr_u (fr_0 _ _) hU12 rfl) hU23 rfl) ⟨fun _ => rfl, trivial⟩
            · exact lb_m (lb_u (lb_u (lb2) hU12 (by omega)) hU23 (by omega)) (by omega)
            · exact ((up_k hU23 (by exact Nat.ne_of_beq_eq_false rfl) 0 80).trans (up_k hU12 (by exact Nat.ne_of_beq_eq_false rfl) 0 80)).trans su2
        · replace hx10 := hx10.resolve_right (fun z => c11 z.1)
          clear c11
          refine hK 101 _ [vI 1, vI (T2 292 0 (T 232 0 m)), vI (T 232 0 m), vR 292 0] T2 ?_
          refine j_blx (F := fX11) tb_X11 (nn_ _) bk_X11_countLeft_e_101 bs_X11_countLeft_e_101 hz (fun K hK => ?_)
          refine rg_i (by omega) ?_
          refine iy_i (by omega) (by omega) ?_
          refine x_nm (fun U26 hU26 => ?_)
          have e27 := up_f hU26
          refine ix_i (by omega) ?_
          intro b28 b28b
          have e29 : U26 233 0 m = T 233 0 m := (up_k hU26 (by exact Nat.ne_of_beq_eq_false rfl) 0 m).trans (hf_59 233 0 m rfl)
          rw [e29] at b28 b28b ⊢
          refine ix_i (by omega) ?_
          intro b30 b30b
          have t31 : 0 ≤ U26 292 0 (T 233 0 m) ∧ U26 292 0 (T 233 0 m) ≤ 2 * (m - T 210 0 c) + 1 := (lb_u (lb2) hU26 (by omega)) (T 233 0 m) (by omega) (by omega)
          refine hK 117 _ [vI m, vR 111 0, vI (U26 292 0 (T 233 0 m)), vI (T 233 0 m), vR 292 0] U26 ?_
          refine j_callV (y := yX11_isLeft) (Yc := zX11_isLeft) (rest := [vI (U26 292 0 (T 233 0 m)), vI (T 233 0 m), vR 292 0]) [vI m] (ct_X11_isLeft (T := U26) (by omega)) cl_X11_538 (qd_c (by decide +kernel)) (nn_ _) rfl (rf_of rfl) (Nat.le_of_ble_eq_true rfl) (Nat.le_of_ble_eq_true rfl) (Nat.le_of_ble_eq_true rfl) rfl ?_
          rintro _ _ ⟨rfl, x32, rfl, hx32⟩
          show J_ zX11_countLeft T (po_X11_countLeft_e T c) 0 0 120 _ [vI x32, vI (U26 292 0 (T 233 0 m)), vI (T 233 0 m), vR 292 0] U26
          refine j_blx (F := fX11) tb_X11 (nn_ _) bk_X11_countLeft_e_120 bs_X11_countLeft_e_120 hz (fun K hK => ?_)
          refine And.intro (fun c33 => ?_) (fun c33 => ?_)
          · replace hx32 := hx32.resolve_left (fun z => absurd (c33.symm.trans z.1) (by decide))
            clear c33
            refine hK 127 _ [vI (U26 292 0 (T 233 0 m)), vI (T 233 0 m), vR 292 0] U26 ?_
            refine j_blx (F := fX11) tb_X11 (nn_ _) bk_X11_countLeft_e_127 bs_X11_countLeft_e_127 hz (fun K hK => ?_)
            refine rg_i (by omega) ?_
            refine iy_i (by omega) (by omega) ?_
            refine x_nm (fun U34 hU34 => ?_)
            have e35 := up_f hU34
            refine rg_i (by omega) ?_
            refine hK 59 [some (vR 111 0), some (vI c), some (vI (m + 1))] [] U34 ?_
            have e36 : U34 111 0 80 = T2 111 0 80 := (up_k hU34 (by exact Nat.ne_of_beq_eq_false rfl) 0 80).trans (up_k hU26 (by exact Nat.ne_of_beq_eq_false rfl) 0 80)
            refine ih_59 _ ?_ (m + 1) U34 (Nat.le_refl _) ?_ ?_ ?_ ?_ ?_
            · have hm_59 := hm_59 (); omega
            · exact fr_u (fr_u (fr_t (fr_0 _ _) (fr_s hf_59 rfl)) hU26 rfl) hU34 rfl
            · omega
            · exact PB6__f (ws := [(292, [])]) pb2 (fr_u (fr_u (fr_0 _ _) hU26 rfl) hU34 rfl) ⟨fun _ => rfl, trivial⟩
            · exact lb_m (lb_u (lb_u (lb2) hU26 (by omega)) hU34 (by omega)) (by omega)
            · exact ((up_k hU34 (by exact Nat.ne_of_beq_eq_false rfl) 0 80).trans (up_k hU26 (by exact Nat.ne_of_beq_eq_false rfl) 0 80)).trans su2
          · replace hx32 := hx32.resolve_right (fun z => c33 z.1)
            clear c33
            refine hK 128 [some (vR 111 0), some (vI c), some (vI m)] [vI 1, vI (U26 292 0 (T 233 0 m)), vI (T 233 0 m), vR 292 0] U26 ?_
            refine j_blx (F := fX11) tb_X11 (nn_ _) bk_X11_countLeft_e_128 bs_X11_countLeft_e_128 hz (fun K hK => ?_)
            refine rg_i (by omega) ?_
            refine iy_i (by omega) (by omega) ?_
            refine x_nm (fun U37 hU37 => ?_)
            have e38 := up_f hU37
            refine rg_i (by omega) ?_
            refine hK 59 [some (vR 111 0), some (vI c), some (vI (m + 1))] [] U37 ?_
            have e39 : U37 111 0 80 = T2 111 0 80 := (up_k hU37 (by exact Nat.ne_of_beq_eq_false rfl) 0 80).trans (up_k hU26 (by exact Nat.ne_of_beq_eq_false rfl) 0 80)
            refine ih_59 _ ?_ (m + 1) U37 (Nat.le_refl _) ?_ ?_ ?_ ?_ ?_
            · have hm_59 := hm_59 (); omega
            · exact fr_u (fr_u (fr_t (fr_0 _ _) (fr_s hf_59 rfl)) hU26 rfl) hU37 rfl
            · omega
            · exact PB6__f (ws := [(292, [])]) pb2 (fr_u (fr_u (fr_0 _ _) hU26 rfl) hU37 rfl) ⟨fun _ => rfl, trivial⟩
            · exact lb_m (lb_u (lb_u (lb2) hU26 (by omega)) hU37 (by omega)) (by omega)
            · exact ((up_k hU37 (by exact Nat.ne_of_beq_eq_false rfl) 0 80).trans (up_k hU26 (by exact Nat.ne_of_beq_eq_false rfl) 0 80)).trans su2
  have c_15 : ∀ (nn : Nat) (i : Int) (T1 : Zt), ((12 - i).toNat) ≤ nn → (fr_ [(276, []), (291, []), (292, []), (111, [80, 82, 83])] T T1) → (0 ≤ i ∧ i ≤ 12) → (TB_ T1 150000000) → (∀ k, 0 ≤ k → k < i → -7500000 ≤ T1 291 0 k ∧ T1 291 0 k ≤ 7500000) → (∀ k, 0 ≤ k → k < i → T1 292 0 k = 0) → (T1 111 0 80 = 0) → J_ zX11_countLeft T (po_X11_countLeft_e T c) 0 0 15 [some (vR 111 0), some (vI c), some (vI i)] [] T1 := by
    intro nn
    induction nn using Nat.strongRecOn with
    | _ nn ih_15 =>
      intro i T1 hm_15 hf_15 i1 tb1 p1 l1 su1
      replace hm_15 := fun (_ : Unit) => hm_15
      refine j_blx (F := fX11) tb_X11 (nn_ _) bk_X11_countLeft_e_15 bs_X11_countLeft_e_15 hz (fun K hK => ?_)
      refine And.intro (fun c40 => ?_) (fun c40 => ?_)
      · refine hK 52 _ [] T1 ?_
        refine j_blx (F := fX11) tb_X11 (nn_ _) bk_X11_countLeft_e_52 bs_X11_countLeft_e_52 hz (fun K hK => ?_)
        refine ix_i (by omega) ?_
        intro b41 b41b
        have e42 : T1 210 0 c = T 210 0 c := hf_15 210 0 c rfl
        rw [e42] at b41 b41b ⊢
        refine hK 59 [some (vR 111 0), some (vI c), some (vI (T 210 0 c))] [] T1 ?_
        refine c_59 _ (T 210 0 c) T1 (Nat.le_refl _) ?_ ?_ ?_ ?_ ?_
        · exact fr_t (fr_0 _ _) (fr_s hf_15 rfl)
        · omega
        · exact fun k a b => p1 k a (by omega)
        · exact fun k a b => by have := l1 k a (by omega); omega
        · exact su1
      · refine rg_i (by omega) ?_
        refine rg_i (by omega) ?_
        refine ix_i (by omega) ?_
        intro b43 b43b
        refine iy_i (by omega) (by omega) ?_
        refine x_nm (fun U44 hU44 => ?_)
        have e45 := up_f hU44
        refine iy_i (by omega) (by omega) ?_
        refine x_nm (fun U46 hU46 => ?_)
        have e47 := up_f hU46
        refine rg_i (by omega) ?_
        refine hK 15 [some (vR 111 0), some (vI c), some (vI (i + 1))] [] U46 ?_
        have e48 : U46 111 0 80 = T1 111 0 80 := (up_k hU46 (by exact Nat.ne_of_beq_eq_false rfl) 0 80).trans (up_k hU44 (by exact Nat.ne_of_beq_eq_false rfl) 0 80)
        refine ih_15 _ ?_ (i + 1) U46 (Nat.le_refl _) ?_ ?_ ?_ ?_ ?_ ?_
        · have hm_15 := hm_15 (); omega
        · exact fr_u (fr_u (fr_t (fr_0 _ _) (fr_s hf_15 rfl)) hU44 rfl) hU46 rfl
        · omega
        · exact tb_f tb1 (fun j => (up_k hU46 (by exact Nat.ne_of_beq_eq_false rfl) 0 j).trans (up_k hU44 (by exact Nat.ne_of_beq_eq_false rfl) 0 j))
        · intro j a b
          by_cases z : j = i
          · have e9 : U46 291 0 j = T1 276 0 ((9 * i) + 6) := by rw [z]; exact (up_k hU46 (by exact Nat.ne_of_beq_eq_false rfl) 0 i).trans (up_f hU44)
            have := tb1 (9 * i + 6) (by omega) (by omega)
            omega
          · rw [(up_k hU46 (by exact Nat.ne_of_beq_eq_false rfl) 0 j).trans (up_g hU44 (by omega))]; exact p1 j a (by omega)
        · intro j a b
          by_cases z : j = i
          · have e9 : U46 292 0 j = 0 := by rw [z]; exact (rfl).trans (up_f hU46)
            have := tb1 (9 * i + 6) (by omega) (by omega)
            omega
          · rw [(up_g hU46 (by omega)).trans (up_k hU44 (by exact Nat.ne_of_beq_eq_false rfl) 0 j)]; exact l1 j a (by omega)
        · exact ((up_k hU46 (by exact Nat.ne_of_beq_eq_false rfl) 0 80).trans (up_k hU44 (by exact Nat.ne_of_beq_eq_false rfl) 0 80)).trans su1
  refine j_blx (F := fX11) tb_X11 (nn_ _) bk_X11_countLeft_e_0 bs_X11_countLeft_e_0 hz (fun K hK => ?_)
  refine bd_i (by omega) ?_
  refine x_nm (fun U49 hU49 => ?_)
  have e50 := up_f hU49
  refine hK 10 _ [vI 999, vI c, vR 111 0] U49 ?_
  refine j_callV (y := yX11_tellAll) (Yc := zX11_tellAll) (rest := []) [vI c, vI 999] (ct_X11_tellAll (T := U49) (by omega) (ML__f (ws := [(111, [80])]) hml (fr_u (fr_0 _ _) hU49 rfl) ⟨fun _ => rfl, fun _ => rfl, rfl, trivial⟩) (SC__f (ws := [(111, [80])]) hsc (fr_u (fr_0 _ _) hU49 rfl) ⟨fun _ => rfl, fun _ => rfl, trivial⟩) (YB__f (ws := [(111, [80])]) hyb (fr_u (fr_0 _ _) hU49 rfl) ⟨fun _ => rfl, trivial⟩)) cl_X11_514 (qd_c (by decide +kernel)) (nn_ _) rfl (rf_of rfl) (Nat.le_of_ble_eq_true rfl) (Nat.le_of_ble_eq_true rfl) (Nat.le_of_ble_eq_true rfl) rfl ?_
  rintro U51 _ ⟨rfl, fU51, qU51⟩
  show J_ zX11_countLeft T (po_X11_countLeft_e T c) 0 0 13 _ [] U51
  refine j_blx (F := fX11) tb_X11 (nn_ _) bk_X11_countLeft_e_13 bs_X11_countLeft_e_13 hz (fun K hK => ?_)
  refine hK 15 [some (vR 111 0), some (vI c), some (vI 0)] [] U51 ?_
  have e52 : U51 111 0 80 = 0 := (fU51 111 0 80 rfl).trans (up_f hU49)
  refine c_15 _ 0 U51 (Nat.le_refl _) ?_ ?_ ?_ ?_ ?_ ?_
  · exact fr_t (fr_u (fr_0 _ _) hU49 rfl) (fr_s fU51 rfl)
  · omega
  · exact qU51
  · intro j a b; omega
  · intro j a b; omega
  · exact (fU51 111 0 80 rfl).trans (up_f hU49)
theorem bk_X11_can_e_48 : ck_ fX11 (some .int) cX11_can 48 [.iload 3, .aload 0, .tableswitch 0 11 29 #[], .if_icmp .ge 69, .aload 0, .tableswitch 0 11 89 #[], .iload 3, .iconst (-1), .iastore, .iinc 3 1, .goto 48] 69 = true := qck_r (nn_ _) (by decide +kernel)
theorem bs_X11_can_e_48 {P : Zt → Option Zv → Prop} (K : Int → Zl → List Zv → Zt → Prop) : sx_ K P [.iload 3, .aload 0, .tableswitch 0 11 29 #[], .if_icmp .ge 69, .aload 0, .tableswitch 0 11 89 #[], .iload 3, .iconst (-1), .iastore, .iinc 3 1, .goto 48] 69 = x_iload 3 (x_aload 0 (x_g0 111 29 0 400 (x_if_icmp .ge 69 K (x_aload 0 (x_g1 111 289 (x_iload 3 (x_iconst (-1) (x_iastore (x_iinc 3 1 (x_goto 48 K)))))))))) := ((xe_iload 3).trans (congrArg (x_iload 3) ((xe_aload 0).trans (congrArg (x_aload 0) ((xe_g0 (kk := 111) rfl tl_11_29).trans (congrArg (x_g0 111 29 0 400) ((xe_if_icmp .ge 69).trans (congrArg (x_if_icmp .ge 69 K) ((xe_aload 0).trans (congrArg (x_aload 0) ((xe_g1 (kk := 111) rfl tl_11_89).trans (congrArg (x_g1 111 289) ((xe_iload 3).trans (congrArg (x_iload 3) ((xe_iconst (-1)).trans (congrArg (x_iconst (-1)) ((xe_iastore).trans (congrArg (x_iastore) ((xe_iinc 3 1).trans (congrArg (x_iinc 3 1) (xe_goto 48)))))))))))))))))))))
theorem bk_X11_can_e_69 : ck_ fX11 (some .int) cX11_can 69 [.aload 0, .iconst 0, .tableswitch 1 11 90 #[], .aload 0, .iload 1] 76 = true := qck_r (nn_ _) (by decide +kernel)
theorem bs_X11_can_e_69 {P : Zt → Option Zv → Prop} (K : Int → Zl → List Zv → Zt → Prop) : sx_ K P [.aload 0, .iconst 0, .tableswitch 1 11 90 #[], .aload 0, .iload 1] 76 = x_aload 0 (x_iconst 0 (x_p 111 90 0 4095 (x_aload 0 (x_iload 1 (K 76))))) := ((xe_aload 0).trans (congrArg (x_aload 0) ((xe_iconst 0).trans (congrArg (x_iconst 0) ((xe_p (kk := 111) rfl tl_11_90).trans (congrArg (x_p 111 90 0 4095) ((xe_aload 0).trans (congrArg (x_aload 0) ((xe_iload 1).trans (congrArg (x_iload 1) xe_nil))))))))))
theorem bk_X11_can_e_79 : ck_ fX11 (some .int) cX11_can 79 [.aload 0, .aload 0, .tableswitch 0 11 91 #[], .iload 2, .iaload, .aload 0, .iload 1, .iconst 1] 89 = true := qck_r (nn_ _) (by decide +kernel)
theorem bs_X11_can_e_79 {P : Zt → Option Zv → Prop} (K : Int → Zl → List Zv → Zt → Prop) : sx_ K P [.aload 0, .aload 0, .tableswitch 0 11 91 #[], .iload 2, .iaload, .aload 0, .iload 1, .iconst 1] 89 = x_aload 0 (x_aload 0 (x_g1 111 291 (x_iload 2 (x_iaload (x_aload 0 (x_iload 1 (x_iconst 1 (K 89)))))))) := ((xe_aload 0).trans (congrArg (x_aload 0) ((xe_aload 0).trans (congrArg (x_aload 0) ((xe_g1 (kk := 111) rfl tl_11_91).trans (congrArg (x_g1 111 291) ((xe_iload 2).trans (congrArg (x_iload 2) ((xe_iaload).trans (congrArg (x_iaload) ((xe_aload 0).trans (congrArg (x_aload 0) ((xe_iload 1).trans (congrArg (x_iload 1) ((xe_iconst 1).trans (congrArg (x_iconst 1) xe_nil))))))))))))))))
theorem bk_X11_can_e_92 : ck_ fX11 (some .int) cX11_can 92 [.aload 0, .tableswitch 0 11 92 #[], .iload 2, .iaload, .imul, .iadd, .tableswitch 1 11 95 #[], .aload 0, .iload 1, .iconst 1] 106 = true := qck_r (nn_ _) (by decide +kernel)
theorem bs_X11_can_e_92 {P : Zt → Option Zv → Prop} (K : Int → Zl → List Zv → Zt → Prop) : sx_ K P [.aload 0, .tableswitch 0 11 92 #[], .iload 2, .iaload, .imul, .iadd, .tableswitch 1 11 95 #[], .aload 0, .iload 1, .iconst 1] 106 = x_aload 0 (x_g1 111 292 (x_iload 2 (x_iaload (x_imul (x_iadd (x_p 111 95 (-2147483648) 2147483647 (x_aload 0 (x_iload 1 (x_iconst 1 (K 106)))))))))) := ((xe_aload 0).trans (congrArg (x_aload 0) ((xe_g1 (kk := 111) rfl tl_11_92).trans (congrArg (x_g1 111 292) ((xe_iload 2).trans (congrArg (x_iload 2) ((xe_iaload).trans (congrArg (x_iaload) ((xe_imul).trans (congrArg (x_imul) ((xe_iadd).trans (congrArg (x_iadd) ((xe_p (kk := 111) rfl tl_11_95).trans (congrArg (x_p 111 95 (-2147483648) 2147483647) ((xe_aload 0).trans (congrArg (x_aload 0) ((xe_iload 1).trans (congrArg (x_iload 1) ((xe_iconst 1).trans (congrArg (x_iconst 1) xe_nil))))))))))))))))))))
theorem bk_X11_can_e_109 : ck_ fX11 (some .int) cX11_can 109 [.aload 0, .iload 1, .iconst 3] 112 = true := qck_r (nn_ _) (by decide +kernel)
theorem bs_X11_can_e_109 {P : Zt → Option Zv → Prop} (K : Int → Zl → List Zv → Zt → Prop) : sx_ K P [.aload 0, .iload 1, .iconst 3] 112 = x_aload 0 (x_iload 1 (x_iconst 3 (K 112))) := ((xe_aload 0).trans (congrArg (x_aload 0) ((xe_iload 1).trans (congrArg (x_iload 1) ((xe_iconst 3).trans (congrArg (x_iconst 3) xe_nil))))))
theorem bk_X11_can_e_115 : ck_ fX11 (some .int) cX11_can 115 [.iadd, .iconst 2, .aload 0, .iload 1, .iconst 2] 120 = true := qck_r (nn_ _) (by decide +kernel)
theorem bs_X11_can_e_115 {P : Zt → Option Zv → Prop} (K : Int → Zl → List Zv → Zt → Prop) : sx_ K P [.iadd, .iconst 2, .aload 0, .iload 1, .iconst 2] 120 = x_iadd (x_iconst 2 (x_aload 0 (x_iload 1 (x_iconst 2 (K 120))))) := ((xe_iadd).trans (congrArg (x_iadd) ((xe_iconst 2).trans (congrArg (x_iconst 2) ((xe_aload 0).trans (congrArg (x_aload 0) ((xe_iload 1).trans (congrArg (x_iload 1) ((xe_iconst 2).trans (congrArg (x_iconst 2) xe_nil))))))))))
theorem bk_X11_can_e_123 : ck_ fX11 (some .int) cX11_can 123 [.imul, .if_icmp .ne 131, .iconst 1, .goto 132] 131 = true := qck_r (nn_ _) (by decide +kernel)
theorem bs_X11_can_e_123 {P : Zt → Option Zv → Prop} (K : Int → Zl → List Zv → Zt → Prop) : sx_ K P [.imul, .if_icmp .ne 131, .iconst 1, .goto 132] 131 = x_imul (x_if_icmp .ne 131 K (x_iconst 1 (x_goto 132 K))) := ((xe_imul).trans (congrArg (x_imul) ((xe_if_icmp .ne 131).trans (congrArg (x_if_icmp .ne 131 K) ((xe_iconst 1).trans (congrArg (x_iconst 1) (xe_goto 132)))))))
theorem bk_X11_can_e_131 : ck_ fX11 (some .int) cX11_can 131 [.iconst 0, .istore 3, .iload 3, .ifCond .eq 152, .aload 0, .iload 1, .iload 2, .aload 0, .iload 1, .iload 2] 143 = true := qck_r (nn_ _) (by decide +kernel)
theorem bs_X11_can_e_131 {P : Zt → Option Zv → Prop} (K : Int → Zl → List Zv → Zt → Prop) : sx_ K P [.iconst 0, .istore 3, .iload 3, .ifCond .eq 152, .aload 0, .iload 1, .iload 2, .aload 0, .iload 1, .iload 2] 143 = x_iconst 0 (x_istore 3 (x_iload 3 (x_ifCond .eq 152 K (x_aload 0 (x_iload 1 (x_iload 2 (x_aload 0 (x_iload 1 (x_iload 2 (K 143)))))))))) := ((xe_iconst 0).trans (congrArg (x_iconst 0) ((xe_istore 3).trans (congrArg (x_istore 3) ((xe_iload 3).trans (congrArg (x_iload 3) ((xe_ifCond .eq 152).trans (congrArg (x_ifCond .eq 152 K) ((xe_aload 0).trans (congrArg (x_aload 0) ((xe_iload 1).trans (congrArg (x_iload 1) ((xe_iload 2).trans (congrArg (x_iload 2) ((xe_aload 0).trans (congrArg (x_aload 0) ((xe_iload 1).trans (congrArg (x_iload 1) ((xe_iload 2).trans (congrArg (x_iload 2) xe_nil))))))))))))))))))))
theorem bk_X11_can_e_152 : ck_ fX11 (some .int) cX11_can 152 [.aload 0, .iload 1, .iload 2] 155 = true := qck_r (nn_ _) (by decide +kernel)
theorem bs_X11_can_e_152 {P : Zt → Option Zv → Prop} (K : Int → Zl → List Zv → Zt → Prop) : sx_ K P [.aload 0, .iload 1, .iload 2] 155 = x_aload 0 (x_iload 1 (x_iload 2 (K 155))) := ((xe_aload 0).trans (congrArg (x_aload 0) ((xe_iload 1).trans (congrArg (x_iload 1) ((xe_iload 2).trans (congrArg (x_iload 2) xe_nil))))))
theorem bk_X11_can_e_158 : ck_ fX11 (some .int) cX11_can 158 [.istore 4, .aload 0, .iload 4, .iconst 1, .if_icmp .ne 171, .iload 1, .goto 172] 171 = true := qck_r (nn_ _) (by decide +kernel)
theorem bs_X11_can_e_158 {P : Zt → Option Zv → Prop} (K : Int → Zl → List Zv → Zt → Prop) : sx_ K P [.istore 4, .aload 0, .iload 4, .iconst 1, .if_icmp .ne 171, .iload 1, .goto 172] 171 = x_istore 4 (x_aload 0 (x_iload 4 (x_iconst 1 (x_if_icmp .ne 171 K (x_iload 1 (x_goto 172 K)))))) := ((xe_istore 4).trans (congrArg (x_istore 4) ((xe_aload 0).trans (congrArg (x_aload 0) ((xe_iload 4).trans (congrArg (x_iload 4) ((xe_iconst 1).trans (congrArg (x_iconst 1) ((xe_if_icmp .ne 171).trans (congrArg (x_if_icmp .ne 171 K) ((xe_iload 1).trans (congrArg (x_iload 1) (xe_goto 172)))))))))))))
theorem bk_X11_can_e_171 : ck_ fX11 (some .int) cX11_can 171 [.iconst (-1), .tableswitch 1 11 88 #[], .iload 4, .ireturn] 178 = true := qck_r (nn_ _) (by decide +kernel)
theorem bs_X11_can_e_171 {P : Zt → Option Zv → Prop} (K : Int → Zl → List Zv → Zt → Prop) : sx_ K P [.iconst (-1), .tableswitch 1 11 88 #[], .iload 4, .ireturn] 178 = x_iconst (-1) (x_p 111 88 (-1) 3 (x_iload 4 (x_ireturn P))) := ((xe_iconst (-1)).trans (congrArg (x_iconst (-1)) ((xe_p (kk := 111) rfl tl_11_88).trans (congrArg (x_p 111 88 (-1) 3) ((xe_iload 4).trans (congrArg (x_iload 4) (xe_ireturn)))))))
theorem bk_X11_can_e_172 : ck_ fX11 (some .int) cX11_can 172 [.tableswitch 1 11 88 #[], .iload 4, .ireturn] 178 = true := qck_r (nn_ _) (by decide +kernel)
theorem bs_X11_can_e_172 {P : Zt → Option Zv → Prop} (K : Int → Zl → List Zv → Zt → Prop) : sx_ K P [.tableswitch 1 11 88 #[], .iload 4, .ireturn] 178 = x_p 111 88 (-1) 3 (x_iload 4 (x_ireturn P)) := ((xe_p (kk := 111) rfl tl_11_88).trans (congrArg (x_p 111 88 (-1) 3) ((xe_iload 4).trans (congrArg (x_iload 4) (xe_ireturn)))))
theorem bk_X11_can_e_132 : ck_ fX11 (some .int) cX11_can 132 [.istore 3, .iload 3, .ifCond .eq 152, .aload 0, .iload 1, .iload 2, .aload 0, .iload 1, .iload 2] 143 = true := qck_r (nn_ _) (by decide +kernel)
theorem bs_X11_can_e_132 {P : Zt → Option Zv → Prop} (K : Int → Zl → List Zv → Zt → Prop) : sx_ K P [.istore 3, .iload 3, .ifCond .eq 152, .aload 0, .iload 1, .iload 2, .aload 0, .iload 1, .iload 2] 143 = x_istore 3 (x_iload 3 (x_ifCond .eq 152 K (x_aload 0 (x_iload 1 (x_iload 2 (x_aload 0 (x_iload 1 (x_iload 2 (K 143))))))))) := ((xe_istore 3).trans (congrArg (x_istore 3) ((xe_iload 3).trans (congrArg (x_iload 3) ((xe_ifCond .eq 152).trans (congrArg (x_ifCond .eq 152 K) ((xe_aload 0).trans (congrArg (x_aload 0) ((xe_iload 1).trans (congrArg (x_iload 1) ((xe_iload 2).trans (congrArg (x_iload 2) ((xe_aload 0).trans (congrArg (x_aload 0) ((xe_iload 1).trans (congrArg (x_iload 1) ((xe_iload 2).trans (congrArg (x_iload 2) xe_nil))))))))))))))))))
theorem bk_X11_can_e_149 : ck_ fX11 (some .int) cX11_can 149 [.goto 158] 152 = true := qck_r (nn_ _) (by decide +kernel)
theorem bs_X11_can_e_149 {P : Zt → Option Zv → Prop} (K : Int → Zl → List Zv → Zt → Prop) : sx_ K P [.goto 158] 152 = x_goto 158 K := (xe_goto 158)
theorem bk_X11_can_e_0 : ck_ fX11 (some .int) cX11_can 0 [.iload 1, .aload 0, .tableswitch 0 11 6 #[]] 5 = true := qck_r (nn_ _) (by decide +kernel)
theorem bs_X11_can_e_0 {P : Zt → Option Zv → Prop} (K : Int → Zl → List Zv → Zt → Prop) : sx_ K P [.iload 1, .aload 0, .tableswitch 0 11 6 #[]] 5 = x_iload 1 (x_aload 0 (x_g0 111 6 0 4 (K 5))) := ((xe_iload 1).trans (congrArg (x_iload 1) ((xe_aload 0).trans (congrArg (x_aload 0) ((xe_g0 (kk := 111) rfl tl_11_6).trans (congrArg (x_g0 111 6 0 4) xe_nil))))))
theorem bk_X11_can_e_8 : ck_ fX11 (some .int) cX11_can 8 [.ifCond .eq 22, .iload 2, .aload 0, .tableswitch 0 11 12 #[]] 16 = true := qck_r (nn_ _) (by decide +kernel)
theorem bs_X11_can_e_8 {P : Zt → Option Zv → Prop} (K : Int → Zl → List Zv → Zt → Prop) : sx_ K P [.ifCond .eq 22, .iload 2, .aload 0, .tableswitch 0 11 12 #[]] 16 = x_ifCond .eq 22 K (x_iload 2 (x_aload 0 (x_g0 111 12 0 12 (K 16)))) := ((xe_ifCond .eq 22).trans (congrArg (x_ifCond .eq 22 K) ((xe_iload 2).trans (congrArg (x_iload 2) ((xe_aload 0).trans (congrArg (x_aload 0) ((xe_g0 (kk := 111) rfl tl_11_12).trans (congrArg (x_g0 111 12 0 12) xe_nil))))))))
theorem bk_X11_can_e_22 : ck_ fX11 (some .int) cX11_can 22 [.iconst (-2), .ireturn] 25 = true := qck_r (nn_ _) (by decide +kernel)
theorem bs_X11_can_e_22 {P : Zt → Option Zv → Prop} (K : Int → Zl → List Zv → Zt → Prop) : sx_ K P [.iconst (-2), .ireturn] 25 = x_iconst (-2) (x_ireturn P) := ((xe_iconst (-2)).trans (congrArg (x_iconst (-2)) (xe_ireturn)))
theorem bk_X11_can_e_19 : ck_ fX11 (some .int) cX11_can 19 [.ifCond .ne 25, .iconst (-2), .ireturn] 25 = true := qck_r (nn_ _) (by decide +kernel)
theorem bs_X11_can_e_19 {P : Zt → Option Zv → Prop} (K : Int → Zl → List Zv → Zt → Prop) : sx_ K P [.ifCond .ne 25, .iconst (-2), .ireturn] 25 = x_ifCond .ne 25 K (x_iconst (-2) (x_ireturn P)) := ((xe_ifCond .ne 25).trans (congrArg (x_ifCond .ne 25 K) ((xe_iconst (-2)).trans (congrArg (x_iconst (-2)) (xe_ireturn)))))
theorem bk_X11_can_e_25 : ck_ fX11 (some .int) cX11_can 25 [.aload 0, .tableswitch 0 11 9 #[], .iload 1, .baload, .ifCond .eq 43, .aload 0, .iload 1, .iload 2] 37 = true := qck_r (nn_ _) (by decide +kernel)
theorem bs_X11_can_e_25 {P : Zt → Option Zv → Prop} (K : Int → Zl → List Zv → Zt → Prop) : sx_ K P [.aload 0, .tableswitch 0 11 9 #[], .iload 1, .baload, .ifCond .eq 43, .aload 0, .iload 1, .iload 2] 37 = x_aload 0 (x_g1 111 209 (x_iload 1 (x_baload (x_ifCond .eq 43 K (x_aload 0 (x_iload 1 (x_iload 2 (K 37)))))))) := ((xe_aload 0).trans (congrArg (x_aload 0) ((xe_g1 (kk := 111) rfl tl_11_9).trans (congrArg (x_g1 111 209) ((xe_iload 1).trans (congrArg (x_iload 1) ((xe_baload).trans (congrArg (x_baload) ((xe_ifCond .eq 43).trans (congrArg (x_ifCond .eq 43 K) ((xe_aload 0).trans (congrArg (x_aload 0) ((xe_iload 1).trans (congrArg (x_iload 1) ((xe_iload 2).trans (congrArg (x_iload 2) xe_nil))))))))))))))))
theorem bk_X11_can_e_43 : ck_ fX11 (some .int) cX11_can 43 [.iconst (-4), .ireturn] 46 = true := qck_r (nn_ _) (by decide +kernel)
theorem bs_X11_can_e_43 {P : Zt → Option Zv → Prop} (K : Int → Zl → List Zv → Zt → Prop) : sx_ K P [.iconst (-4), .ireturn] 46 = x_iconst (-4) (x_ireturn P) := ((xe_iconst (-4)).trans (congrArg (x_iconst (-4)) (xe_ireturn)))
theorem bk_X11_can_e_40 : ck_ fX11 (some .int) cX11_can 40 [.ifCond .ne 46, .iconst (-4), .ireturn] 46 = true := qck_r (nn_ _) (by decide +kernel)
theorem bs_X11_can_e_40 {P : Zt → Option Zv → Prop} (K : Int → Zl → List Zv → Zt → Prop) : sx_ K P [.ifCond .ne 46, .iconst (-4), .ireturn] 46 = x_ifCond .ne 46 K (x_iconst (-4) (x_ireturn P)) := ((xe_ifCond .ne 46).trans (congrArg (x_ifCond .ne 46 K) ((xe_iconst (-4)).trans (congrArg (x_iconst (-4)) (xe_ireturn)))))
theorem bk_X11_can_e_46 : ck_ fX11 (some .int) cX11_can 46 [.iconst 0, .istore 3] 48 = true := qck_r (nn_ _) (by decide +kernel)
theorem bs_X11_can_e_46 {P : Zt → Option Zv → Prop} (K : Int → Zl → List Zv → Zt → Prop) : sx_ K P [.iconst 0, .istore 3] 48 = x_iconst 0 (x_istore 3 (K 48)) := ((xe_iconst 0).trans (congrArg (x_iconst 0) ((xe_istore 3).trans (congrArg (x_istore 3) xe_nil))))
abbrev po_X11_can_e (T : Zt) (c cl : Int) : Zt → Option Zv → Prop := fun T' r => ∃ x : Int, r = some (vI x) ∧ fr_ [(276, []), (291, []), (292, []), (293, []), (294, []), (296, []), (289, []), (297, []), (111, [80, 82, 83, 90, 95, 88])] T T' ∧ (T 111 0 80 = 0 → T' 111 0 80 = 0)
set_option maxHeartbeats 4000000 in
theorem ct_X11_can_e {T : Zt} {c cl : Int} (hri : RI_ T) (hrw : RW_ T) (hml : ML_ T) (hsc : SC_ T) (hyb : YB_ T) : Ct_ yX11_can zX11_can T [vR 111 0, vI c, vI cl] (po_X11_can_e T c cl) := by
  refine ct_of pn_11 rfl rfl (Nat.le_of_ble_eq_true rfl) (fun hT hav => ?_)
  have hr_c : -2147483648 ≤ c ∧ c ≤ 2147483647 := hav (vI c) (List.mem_cons_of_mem _ List.mem_cons_self)
  have hr_cl : -2147483648 ≤ cl ∧ cl ≤ 2147483647 := hav (vI cl) (List.mem_cons_of_mem _ (List.mem_cons_of_mem _ List.mem_cons_self))
  have hz : zX11_can.2.2.2.1 = some .boolean → ∀ (T' : Zt) (x : Int), po_X11_can_e T c cl T' (some (vI x)) → 0 ≤ x ∧ x ≤ 1 := fun h => by cases h
  have hb_6 : 0 ≤ T 111 0 6 ∧ T 111 0 6 ≤ 4 := bd_f hT 111 6 tl_11_6 0
  have hb_12 : 0 ≤ T 111 0 12 ∧ T 111 0 12 ≤ 12 := bd_f hT 111 12 tl_11_12 0
  have hb_29 : 0 ≤ T 111 0 29 ∧ T 111 0 29 ≤ 400 := bd_f hT 111 29 tl_11_29 0
  show J_ zX11_can T (po_X11_can_e T c cl) 0 0 0 [some (vR 111 0), some (vI c), some (vI cl), none, none] [] T
  have c_48 : ∀ (nn : Nat) (i : Int) (T1 : Zt), ((400 - i).toNat) ≤ nn → (fr_ [(289, [])] T T1) → (0 ≤ i ∧ i ≤ 400 ∧ 0 ≤ c ∧ c < T 111 0 6 ∧ 0 ≤ cl ∧ cl < T 111 0 12) → J_ zX11_can T (po_X11_can_e T c cl) 0 0 48 [some (vR 111 0), some (vI c), some (vI cl), some (vI i), none] [] T1 := by
    intro nn
    induction nn using Nat.strongRecOn with
    | _ nn ih_48 =>
      intro i T1 hm_48 hf_48 i1
      replace hm_48 := fun (_ : Unit) => hm_48
      have hr1 : (0 : Int) ≤ T 205 0 (23 * c + 1) ∧ T 205 0 (23 * c + 1) ≤ (9 : Int) := hri c 1 (by omega) (by omega) (by omega) (by omega)
      have hr2 : (0 : Int) ≤ T 205 0 (23 * c + 2) ∧ T 205 0 (23 * c + 2) ≤ (9 : Int) := hri c 2 (by omega) (by omega) (by omega) (by omega)
      have hr3 : (0 : Int) ≤ T 205 0 (23 * c + 3) ∧ T 205 0 (23 * c + 3) ≤ (9 : Int) := hri c 3 (by omega) (by omega) (by omega) (by omega)
      refine j_blx (F := fX11) tb_X11 (nn_ _) bk_X11_can_e_48 bs_X11_can_e_48 hz (fun K hK => ?_)
      intro b1 b1b
      have e2 : T1 111 0 29 = T 111 0 29 := hf_48 111 0 29 rfl
      rw [e2] at b1 b1b ⊢
      refine And.intro (fun c3 => ?_) (fun c3 => ?_)
      · refine hK 69 _ [] T1 ?_
        refine j_blx (F := fX11) tb_X11 (nn_ _) bk_X11_can_e_69 bs_X11_can_e_69 hz (fun K hK => ?_)
        refine bd_i (by omega) ?_
        refine x_nm (fun U4 hU4 => ?_)
        have e5 := up_f hU4
        refine hK 76 _ [vI c, vR 111 0] U4 ?_
        refine j_callV (y := yX11_countLeft) (Yc := zX11_countLeft) (rest := []) [vI c] (ct_X11_countLeft_e (T := U4) (by omega) (ML__f (ws := [(111, [90]), (289, [])]) hml (fr_u (fr_t (fr_0 _ _) (fr_s hf_48 rfl)) hU4 rfl) ⟨fun _ => rfl, fun _ => rfl, rfl, trivial⟩) (SC__f (ws := [(111, [90]), (289, [])]) hsc (fr_u (fr_t (fr_0 _ _) (fr_s hf_48 rfl)) hU4 rfl) ⟨fun _ => rfl, fun _ => rfl, trivial⟩) (YB__f (ws := [(111, [90]), (289, [])]) hyb (fr_u (fr_t (fr_0 _ _) (fr_s hf_48 rfl)) hU4 rfl) ⟨fun _ => rfl, trivial⟩)) cl_X11_564 (qd_c (by decide +kernel)) (nn_ _) rfl (rf_of rfl) (Nat.le_of_ble_eq_true rfl) (Nat.le_of_ble_eq_true rfl) (Nat.le_of_ble_eq_true rfl) rfl ?_
        rintro U6 _ ⟨rfl, fU6, ⟨qU6a, qU6b, qU6c⟩⟩
        show J_ zX11_can T (po_X11_can_e T c cl) 0 0 79 _ [] U6
        refine j_blx (F := fX11) tb_X11 (nn_ _) bk_X11_can_e_79 bs_X11_can_e_79 hz (fun K hK => ?_)
        refine ix_i (by omega) ?_
        intro b7 b7b
        refine hK 89 _ [vI 1, vI c, vR 111 0, vI (U6 291 0 cl), vR 111 0] U6 ?_
        refine j_callV (y := yX11_rule0) (Yc := zX11_rule0) (rest := [vI (U6 291 0 cl), vR 111 0]) [vI c, vI 1] (ct_X11_rule0 (T := U6) (by omega) (by omega)) cl_X11_321 (qd_c (by decide +kernel)) (nn_ _) rfl (rf_of rfl) (Nat.le_of_ble_eq_true rfl) (Nat.le_of_ble_eq_true rfl) (Nat.le_of_ble_eq_true rfl) rfl ?_
        rintro _ _ ⟨rfl, rfl⟩
        have e8 : U6 205 0 (23 * c + 1) = T 205 0 (23 * c + 1) := (fU6 205 0 (23 * c + 1) rfl).trans ((up_k hU4 (by exact Nat.ne_of_beq_eq_false rfl) 0 (23 * c + 1)).trans (hf_48 205 0 (23 * c + 1) rfl))
        show J_ zX11_can T (po_X11_can_e T c cl) 0 0 92 _ [vI (U6 205 0 (23 * c + 1)), vI (U6 291 0 cl), vR 111 0] U6
        refine j_blx (F := fX11) tb_X11 (nn_ _) bk_X11_can_e_92 bs_X11_can_e_92 hz (fun K hK => ?_)
        refine ix_i (by omega) ?_
        intro b9 b9b
        have hlk := qU6b cl (by omega) (by omega)
        have hpk := qU6a cl (by omega) (by omega)
        have hmb := mul_b (x := U6 205 0 (23 * c + 1)) (y := U6 292 0 cl) (by omega) (by omega)
        refine rg_i (by omega) ?_
        refine rg_i (by omega) ?_
        refine bd_i (by omega) ?_
        refine x_nm (fun U10 hU10 => ?_)
        have e11 := up_f hU10
        refine hK 106 _ [vI 1, vI c, vR 111 0] U10 ?_
        refine j_callV (y := yX11_rule0) (Yc := zX11_rule0) (rest := []) [vI c, vI 1] (ct_X11_rule0 (T := U10) (by omega) (by omega)) cl_X11_321 (qd_c (by decide +kernel)) (nn_ _) rfl (rf_of rfl) (Nat.le_of_ble_eq_true rfl) (Nat.le_of_ble_eq_true rfl) (Nat.le_of_ble_eq_true rfl) rfl ?_
        rintro _ _ ⟨rfl, rfl⟩
        have e12 : U10 205 0 (23 * c + 1) = T 205 0 (23 * c + 1) := (up_k hU10 (by exact Nat.ne_of_beq_eq_false rfl) 0 (23 * c + 1)).trans ((fU6 205 0 (23 * c + 1) rfl).trans ((up_k hU4 (by exact Nat.ne_of_beq_eq_false rfl) 0 (23 * c + 1)).trans (hf_48 205 0 (23 * c + 1) rfl)))
        show J_ zX11_can T (po_X11_can_e T c cl) 0 0 109 _ [vI (U10 205 0 (23 * c + 1))] U10
        refine j_blx (F := fX11) tb_X11 (nn_ _) bk_X11_can_e_109 bs_X11_can_e_109 hz (fun K hK => ?_)
        refine hK 112 _ [vI 3, vI c, vR 111 0, vI (U10 205 0 (23 * c + 1))] U10 ?_
        refine j_callV (y := yX11_rule0) (Yc := zX11_rule0) (rest := [vI (U10 205 0 (23 * c + 1))]) [vI c, vI 3] (ct_X11_rule0 (T := U10) (by omega) (by omega)) cl_X11_321 (qd_c (by decide +kernel)) (nn_ _) rfl (rf_of rfl) (Nat.le_of_ble_eq_true rfl) (Nat.le_of_ble_eq_true rfl) (Nat.le_of_ble_eq_true rfl) rfl ?_
        rintro _ _ ⟨rfl, rfl⟩
        have e13 : U10 205 0 (23 * c + 3) = T 205 0 (23 * c + 3) := (up_k hU10 (by exact Nat.ne_of_beq_eq_false rfl) 0 (23 * c + 3)).trans ((fU6 205 0 (23 * c + 3) rfl).trans ((up_k hU4 (by exact Nat.ne_of_beq_eq_false rfl) 0 (23 * c + 3)).trans (hf_48 205 0 (23 * c + 3) rfl)))
        show J_ zX11_can T (po_X11_can_e T c cl) 0 0 115 _ [vI (U10 205 0 (23 * c + 3)), vI (U10 205 0 (23 * c + 1))] U10
        refine j_blx (F := fX11) tb_X11 (nn_ _) bk_X11_can_e_115 bs_X11_can_e_115 hz (fun K hK => ?_)
        refine rg_i (by omega) ?_
        refine hK 120 _ [vI 2, vI c, vR 111 0, vI 2, vI ((U10 205 0 (23 * c + 1)) + (U10 205 0 (23 * c + 3)))] U10 ?_
        refine j_callV (y := yX11_rule0) (Yc := zX11_rule0) (rest := [vI 2, vI ((U10 205 0 (23 * c + 1)) + (U10 205 0 (23 * c + 3)))]) [vI c, vI 2] (ct_X11_rule0 (T := U10) (by omega) (by omega)) cl_X11_321 (qd_c (by decide +kernel)) (nn_ _) rfl (rf_of rfl) (Nat.le_of_ble_eq_true rfl) (Nat.le_of_ble_eq_true rfl) (Nat.le_of_ble_eq_true rfl) rfl ?_
        rintro _ _ ⟨rfl, rfl⟩
        have e14 : U10 205 0 (23 * c + 2) = T 205 0 (23 * c + 2) := (up_k hU10 (by exact Nat.ne_of_beq_eq_false rfl) 0 (23 * c + 2)).trans ((fU6 205 0 (23 * c + 2) rfl).trans ((up_k hU4 (by exact Nat.ne_of_beq_eq_false rfl) 0 (23 * c + 2)).trans (hf_48 205 0 (23 * c + 2) rfl)))
        show J_ zX11_can T (po_X11_can_e T c cl) 0 0 123 _ [vI (U10 205 0 (23 * c + 2)), vI 2, vI ((U10 205 0 (23 * c + 1)) + (U10 205 0 (23 * c + 3)))] U10
        refine j_blx (F := fX11) tb_X11 (nn_ _) bk_X11_can_e_123 bs_X11_can_e_123 hz (fun K hK => ?_)
        refine rg_i (by omega) ?_
        refine And.intro (fun c15 => ?_) (fun c15 => ?_)
        · refine hK 131 _ [] U10 ?_
          refine j_blx (F := fX11) tb_X11 (nn_ _) bk_X11_can_e_131 bs_X11_can_e_131 hz (fun K hK => ?_)
          refine And.intro (fun c16 => ?_) (fun c16 => ?_)
          · refine hK 152 [some (vR 111 0), some (vI c), some (vI cl), some (vI 0), none] [] U10 ?_
            refine j_blx (F := fX11) tb_X11 (nn_ _) bk_X11_can_e_152 bs_X11_can_e_152 hz (fun K hK => ?_)
            refine hK 155 _ [vI cl, vI c, vR 111 0] U10 ?_
            refine j_callV (y := yX11_canTry) (Yc := zX11_canTry) (rest := []) [vI c, vI cl] (ct_X11_canTry (T := U10) (by omega) (ML__f (ws := [(111, [95, 80, 82, 83, 90]), (276, []), (291, []), (292, []), (289, [])]) hml (fr_u (fr_t (fr_u (fr_t (fr_0 _ _) (fr_s hf_48 rfl)) hU4 rfl) (fr_s fU6 rfl)) hU10 rfl) ⟨fun _ => rfl, fun _ => rfl, rfl, trivial⟩)) cl_X11_573 (qd_c (by decide +kernel)) (nn_ _) rfl (rf_of rfl) (Nat.le_of_ble_eq_true rfl) (Nat.le_of_ble_eq_true rfl) (Nat.le_of_ble_eq_true rfl) rfl ?_
            rintro U17 _ ⟨x18, rfl, fU17, qU17⟩
            show J_ zX11_can T (po_X11_can_e T c cl) 0 0 158 _ [vI x18] U17
            refine j_blx (F := fX11) tb_X11 (nn_ _) bk_X11_can_e_158 bs_X11_can_e_158 hz (fun K hK => ?_)
            refine And.intro (fun c19 => ?_) (fun c19 => ?_)
            · refine hK 171 [some (vR 111 0), some (vI c), some (vI cl), some (vI 0), some (vI x18)] [vR 111 0] U17 ?_
              refine j_blx (F := fX11) tb_X11 (nn_ _) bk_X11_can_e_171 bs_X11_can_e_171 hz (fun K hK => ?_)
              refine bd_i (by omega) ?_
              refine x_nm (fun U20 hU20 => ?_)
              have e21 := up_f hU20
              refine (show po_X11_can_e T c cl U20 (some (vI x18)) from ?_)
              have e22 : U20 111 0 80 = U6 111 0 80 := (up_j hU20 (by decide) 111 0).trans ((fU17 111 0 80 rfl).trans (up_j hU10 (by decide) 111 0))
              exact ⟨_, rfl, fr_u (fr_t (fr_u (fr_t (fr_u (fr_t (fr_0 _ _) (fr_s hf_48 rfl)) hU4 rfl) (fr_s fU6 rfl)) hU10 rfl) (fr_s fU17 rfl)) hU20 rfl, fun _ => ((up_g hU20 (by omega)).trans ((fU17 111 0 80 rfl).trans (up_g hU10 (by omega)))).trans qU6c⟩
            · refine hK 172 _ [vI c, vR 111 0] U17 ?_
              refine j_blx (F := fX11) tb_X11 (nn_ _) bk_X11_can_e_172 bs_X11_can_e_172 hz (fun K hK => ?_)
              refine bd_i (by omega) ?_
              refine x_nm (fun U23 hU23 => ?_)
              have e24 := up_f hU23
              refine (show po_X11_can_e T c cl U23 (some (vI x18)) from ?_)
              have e25 : U23 111 0 80 = U6 111 0 80 := (up_j hU23 (by decide) 111 0).trans ((fU17 111 0 80 rfl).trans (up_j hU10 (by decide) 111 0))
              exact ⟨_, rfl, fr_u (fr_t (fr_u (fr_t (fr_u (fr_t (fr_0 _ _) (fr_s hf_48 rfl)) hU4 rfl) (fr_s fU6 rfl)) hU10 rfl) (fr_s fU17 rfl)) hU23 rfl, fun _ => ((up_g hU23 (by omega)).trans ((fU17 111 0 80 rfl).trans (up_g hU10 (by omega)))).trans qU6c⟩
          · exact absurd c16 (by decide)
        · refine hK 132 _ [vI 1] U10 ?_
          refine j_blx (F := fX11) tb_X11 (nn_ _) bk_X11_can_e_132 bs_X11_can_e_132 hz (fun K hK => ?_)
          refine And.intro (fun c26 => ?_) (fun c26 => ?_)
          · exact absurd c26 (by decide)
          · refine hK 143 [some (vR 111 0), some (vI c), some (vI cl), some (vI 1), none] [vI cl, vI c, vR 111 0, vI cl, vI c, vR 111 0] U10 ?_
            refine j_callV (y := yX11_othersOf) (Yc := zX11_othersOf) (rest := [vI cl, vI c, vR 111 0]) [vI c, vI cl] (ct_X11_othersOf (T := U10) (by omega)) cl_X11_567 (qd_c (by decide +kernel)) (nn_ _) rfl (rf_of rfl) (Nat.le_of_ble_eq_true rfl) (Nat.le_of_ble_eq_true rfl) (Nat.le_of_ble_eq_true rfl) rfl ?_
            rintro _ _ ⟨rfl, x27, rfl, hx27⟩
            show J_ zX11_can T (po_X11_can_e T c cl) 0 0 146 _ [vI x27, vI cl, vI c, vR 111 0] U10
            have e28 : U10 111 0 6 = T 111 0 6 := (up_j hU10 (by decide) 111 0).trans ((fU6 111 0 6 rfl).trans ((up_j hU4 (by decide) 111 0).trans (hf_48 111 0 6 rfl)))
            have e29 : U10 111 0 95 = (U6 291 0 cl) + ((U6 205 0 (23 * c + 1)) * (U6 292 0 cl)) := up_f hU10
            refine j_callV (y := yX11_canEven) (Yc := zX11_canEven) (rest := []) [vI c, vI cl, vI x27] (ct_X11_canEven (T := U10) (by omega) (by exact RI__f (ws := [(111, [95, 80, 82, 83, 90]), (276, []), (291, []), (292, []), (289, [])]) hri (fr_u (fr_t (fr_u (fr_t (fr_0 _ _) (fr_s hf_48 rfl)) hU4 rfl) (fr_s fU6 rfl)) hU10 rfl) ⟨fun _ => rfl, rfl, trivial⟩) (by exact RW__f (ws := [(111, [95, 80, 82, 83, 90]), (276, []), (291, []), (292, []), (289, [])]) hrw (fr_u (fr_t (fr_u (fr_t (fr_0 _ _) (fr_s hf_48 rfl)) hU4 rfl) (fr_s fU6 rfl)) hU10 rfl) ⟨fun _ => rfl, rfl, trivial⟩) (by exact ML__f (ws := [(111, [95, 80, 82, 83, 90]), (276, []), (291, []), (292, []), (289, [])]) hml (fr_u (fr_t (fr_u (fr_t (fr_0 _ _) (fr_s hf_48 rfl)) hU4 rfl) (fr_s fU6 rfl)) hU10 rfl) ⟨fun _ => rfl, fun _ => rfl, rfl, trivial⟩) (by omega) (by exact PB6__f (ws := [(111, [95])]) qU6a (fr_u (fr_0 _ _) hU10 rfl) ⟨fun _ => rfl, trivial⟩) (by exact fun k a b => by rw [up_k hU10 (by exact Nat.ne_of_beq_eq_false rfl) 0 k]; exact qU6b k a b) (by omega)) cl_X11_570 (qd_c (by decide +kernel)) (nn_ _) rfl (rf_of rfl) (Nat.le_of_ble_eq_true rfl) (Nat.le_of_ble_eq_true rfl) (Nat.le_of_ble_eq_true rfl) rfl ?_
            rintro U30 _ ⟨x31, rfl, fU30, qU30⟩
            show J_ zX11_can T (po_X11_can_e T c cl) 0 0 149 _ [vI x31] U30
            refine j_blx (F := fX11) tb_X11 (nn_ _) bk_X11_can_e_149 bs_X11_can_e_149 hz (fun K hK => ?_)
            refine hK 158 _ [vI x31] U30 ?_
            refine j_blx (F := fX11) tb_X11 (nn_ _) bk_X11_can_e_158 bs_X11_can_e_158 hz (fun K hK => ?_)
            refine And.intro (fun c32 => ?_) (fun c32 => ?_)
            · refine hK 171 [some (vR 111 0), some (vI c), some (vI cl), some (vI 1), some (vI x31)] [vR 111 0] U30 ?_
              refine j_blx (F := fX11) tb_X11 (nn_ _) bk_X11_can_e_171 bs_X11_can_e_171 hz (fun K hK => ?_)
              refine bd_i (by omega) ?_
              refine x_nm (fun U33 hU33 => ?_)
              have e34 := up_f hU33
              refine (show po_X11_can_e T c cl U33 (some (vI x31)) from ?_)
              have e35 : U33 111 0 80 = U6 111 0 80 := (up_j hU33 (by decide) 111 0).trans ((fU30 111 0 80 rfl).trans (up_j hU10 (by decide) 111 0))
              exact ⟨_, rfl, fr_u (fr_t (fr_u (fr_t (fr_u (fr_t (fr_0 _ _) (fr_s hf_48 rfl)) hU4 rfl) (fr_s fU6 rfl)) hU10 rfl) (fr_s fU30 rfl)) hU33 rfl, fun _ => ((up_g hU33 (by omega)).trans ((fU30 111 0 80 rfl).trans (up_g hU10 (by omega)))).trans qU6c⟩
            · refine hK 172 _ [vI c, vR 111 0] U30 ?_
              refine j_blx (F := fX11) tb_X11 (nn_ _) bk_X11_can_e_172 bs_X11_can_e_172 hz (fun K hK => ?_)
              refine bd_i (by omega) ?_
              refine x_nm (fun U36 hU36 => ?_)
              have e37 := up_f hU36
              refine (show po_X11_can_e T c cl U36 (some (vI x31)) from ?_)
              have e38 : U36 111 0 80 = U6 111 0 80 := (up_j hU36 (by decide) 111 0).trans ((fU30 111 0 80 rfl).trans (up_j hU10 (by decide) 111 0))
              exact ⟨_, rfl, fr_u (fr_t (fr_u (fr_t (fr_u (fr_t (fr_0 _ _) (fr_s hf_48 rfl)) hU4 rfl) (fr_s fU6 rfl)) hU10 rfl) (fr_s fU30 rfl)) hU36 rfl, fun _ => ((up_g hU36 (by omega)).trans ((fU30 111 0 80 rfl).trans (up_g hU10 (by omega)))).trans qU6c⟩
      · refine iy_i (by omega) (by omega) ?_
        refine x_nm (fun U39 hU39 => ?_)
        have e40 := up_f hU39
        refine rg_i (by omega) ?_
        refine hK 48 [some (vR 111 0), some (vI c), some (vI cl), some (vI (i + 1)), none] [] U39 ?_
        refine ih_48 _ ?_ (i + 1) U39 (Nat.le_refl _) ?_ ?_
        · have hm_48 := hm_48 (); omega
        · exact fr_u (fr_t (fr_0 _ _) (fr_s hf_48 rfl)) hU39 rfl
        · omega
  refine j_blx (F := fX11) tb_X11 (nn_ _) bk_X11_can_e_0 bs_X11_can_e_0 hz (fun K hK => ?_)
  intro b41 b41b
  refine hK 5 _ [vI (T 111 0 6), vI c] T ?_
  refine j_callS (y := yX11_isOf) (Yc := zX11_isOf) (rest := []) [vI c, vI (T 111 0 6)] (ct_X11_isOf (T := T) (by omega)) cl_X11_317 (qd_c (by decide +kernel)) (nn_ _) rfl (rf_of rfl) (Nat.le_of_ble_eq_true rfl) (Nat.le_of_ble_eq_true rfl) (Nat.le_of_ble_eq_true rfl) rfl ?_
  rintro _ _ ⟨rfl, x42, rfl, hx42⟩
  show J_ zX11_can T (po_X11_can_e T c cl) 0 0 8 _ [vI x42] T
  refine j_blx (F := fX11) tb_X11 (nn_ _) bk_X11_can_e_8 bs_X11_can_e_8 hz (fun K hK => ?_)
  refine And.intro (fun c43 => ?_) (fun c43 => ?_)
  · replace hx42 := hx42.resolve_left (fun z => absurd (c43.symm.trans z.1) (by decide))
    clear c43
    refine hK 22 _ [] T ?_
    refine j_blx (F := fX11) tb_X11 (nn_ _) bk_X11_can_e_22 bs_X11_can_e_22 hz (fun K hK => ?_)
    refine (show po_X11_can_e T c cl T (some (vI (-2))) from ?_)
    exact ⟨_, rfl, fr_0 _ _, fun z => z⟩
  · replace hx42 := hx42.resolve_right (fun z => c43 z.1)
    clear c43
    intro b44 b44b
    refine hK 16 _ [vI (T 111 0 12), vI cl] T ?_
    refine j_callS (y := yX11_isOf) (Yc := zX11_isOf) (rest := []) [vI cl, vI (T 111 0 12)] (ct_X11_isOf (T := T) (by omega)) cl_X11_317 (qd_c (by decide +kernel)) (nn_ _) rfl (rf_of rfl) (Nat.le_of_ble_eq_true rfl) (Nat.le_of_ble_eq_true rfl) (Nat.le_of_ble_eq_true rfl) rfl ?_
    rintro _ _ ⟨rfl, x45, rfl, hx45⟩
    show J_ zX11_can T (po_X11_can_e T c cl) 0 0 19 _ [vI x45] T
    refine j_blx (F := fX11) tb_X11 (nn_ _) bk_X11_can_e_19 bs_X11_can_e_19 hz (fun K hK => ?_)
    refine And.intro (fun c46 => ?_) (fun c46 => ?_)
    · replace hx45 := hx45.resolve_right (fun z => c46 z.1)
      clear c46
      refine hK 25 _ [] T ?_
      refine j_blx (F := fX11) tb_X11 (nn_ _) bk_X11_can_e_25 bs_X11_can_e_25 hz (fun K hK => ?_)
      refine ix_i (by omega) ?_
      intro b47 b47b
      refine And.intro (fun c48 => ?_) (fun c48 => ?_)
      · refine hK 43 _ [] T ?_
        refine j_blx (F := fX11) tb_X11 (nn_ _) bk_X11_can_e_43 bs_X11_can_e_43 hz (fun K hK => ?_)
        refine (show po_X11_can_e T c cl T (some (vI (-4))) from ?_)
        exact ⟨_, rfl, fr_0 _ _, fun z => z⟩
      · refine hK 37 _ [vI cl, vI c, vR 111 0] T ?_
        refine j_callV (y := yX11_hasEntered) (Yc := zX11_hasEntered) (rest := []) [vI c, vI cl] (ct_X11_hasEntered (T := T) (by omega)) cl_X11_340 (qd_c (by decide +kernel)) (nn_ _) rfl (rf_of rfl) (Nat.le_of_ble_eq_true rfl) (Nat.le_of_ble_eq_true rfl) (Nat.le_of_ble_eq_true rfl) rfl ?_
        rintro _ _ ⟨rfl, x49, rfl, hx49⟩
        show J_ zX11_can T (po_X11_can_e T c cl) 0 0 40 _ [vI x49] T
        refine j_blx (F := fX11) tb_X11 (nn_ _) bk_X11_can_e_40 bs_X11_can_e_40 hz (fun K hK => ?_)
        refine And.intro (fun c50 => ?_) (fun c50 => ?_)
        · replace hx49 := hx49.resolve_right (fun z => c50 z.1)
          clear c50
          refine hK 46 _ [] T ?_
          refine j_blx (F := fX11) tb_X11 (nn_ _) bk_X11_can_e_46 bs_X11_can_e_46 hz (fun K hK => ?_)
          refine hK 48 [some (vR 111 0), some (vI c), some (vI cl), some (vI 0), none] [] T ?_
          refine c_48 _ 0 T (Nat.le_refl _) ?_ ?_
          · exact fr_0 _ _
          · omega
        · replace hx49 := hx49.resolve_left (fun z => absurd (c50.symm.trans z.1) (by decide))
          clear c50
          refine (show po_X11_can_e T c cl T (some (vI (-4))) from ?_)
          exact ⟨_, rfl, fr_0 _ _, fun z => z⟩
    · replace hx45 := hx45.resolve_left (fun z => absurd (c46.symm.trans z.1) (by decide))
      clear c46
      refine (show po_X11_can_e T c cl T (some (vI (-2))) from ?_)
      exact ⟨_, rfl, fr_0 _ _, fun z => z⟩
-- the list of those that are D, words
/-- the matches that are D, in their order: how many, which -/
noncomputable def dl9_ (D : Int → Prop) : Nat → Int × (Int → Int)
  | 0 => (0, fun _ => 0)
  | m + 1 => cz_ (D (m : Int)) ((dl9_ D m).1 + 1, fu_ (dl9_ D m).2 (dl9_ D m).1 (m : Int)) (dl9_ D m)
theorem dl_t {D : Int → Prop} {m : Int} (hm : 0 ≤ m) (h : D m) : dl9_ D (m + 1).toNat = ((dl9_ D m.toNat).1 + 1, fu_ (dl9_ D m.toNat).2 (dl9_ D m.toNat).1 m) := by
  rw [show (m + 1).toNat = m.toNat + 1 by omega]
  have e : ((m.toNat : Nat) : Int) = m := by omega
  show cz_ (D ((m.toNat : Nat) : Int)) ((dl9_ D m.toNat).1 + 1, fu_ (dl9_ D m.toNat).2 (dl9_ D m.toNat).1 ((m.toNat : Nat) : Int)) (dl9_ D m.toNat) = _
  rw [e]
  exact cz_t h
theorem dl_f {D : Int → Prop} {m : Int} (hm : 0 ≤ m) (h : ¬ D m) : dl9_ D (m + 1).toNat = dl9_ D m.toNat := by
  rw [show (m + 1).toNat = m.toNat + 1 by omega]
  have e : ((m.toNat : Nat) : Int) = m := by omega
  show cz_ (D ((m.toNat : Nat) : Int)) ((dl9_ D m.toNat).1 + 1, fu_ (dl9_ D m.toNat).2 (dl9_ D m.toNat).1 ((m.toNat : Nat) : Int)) (dl9_ D m.toNat) = _
  rw [e]
  exact cz_f h
theorem dl_b {D : Int → Prop} : ∀ m : Nat, (0 ≤ (dl9_ D m).1 ∧ (dl9_ D m).1 ≤ (m : Int)) ∧ ∀ j, 0 ≤ j → j < (dl9_ D m).1 → 0 ≤ (dl9_ D m).2 j ∧ (dl9_ D m).2 j < (m : Int)
  | 0 => ⟨⟨Int.le_refl _, Int.le_refl _⟩, fun j a b => by
      have b' : j < 0 := b
      omega⟩
  | m + 1 => by
    have ih := dl_b (D := D) m
    show (0 ≤ (cz_ (D (m : Int)) ((dl9_ D m).1 + 1, fu_ (dl9_ D m).2 (dl9_ D m).1 (m : Int)) (dl9_ D m)).1 ∧ (cz_ (D (m : Int)) ((dl9_ D m).1 + 1, fu_ (dl9_ D m).2 (dl9_ D m).1 (m : Int)) (dl9_ D m)).1 ≤ ((m + 1 : Nat) : Int)) ∧ ∀ j, 0 ≤ j → j < (cz_ (D (m : Int)) ((dl9_ D m).1 + 1, fu_ (dl9_ D m).2 (dl9_ D m).1 (m : Int)) (dl9_ D m)).1 → 0 ≤ (cz_ (D (m : Int)) ((dl9_ D m).1 + 1, fu_ (dl9_ D m).2 (dl9_ D m).1 (m : Int)) (dl9_ D m)).2 j ∧ (cz_ (D (m : Int)) ((dl9_ D m).1 + 1, fu_ (dl9_ D m).2 (dl9_ D m).1 (m : Int)) (dl9_ D m)).2 j < ((m + 1 : Nat) : Int)
    by_cases z : D (m : Int)
    · rw [cz_t z]
      refine ⟨⟨show 0 ≤ (dl9_ D m).1 + 1 by omega, show (dl9_ D m).1 + 1 ≤ ((m + 1 : Nat) : Int) by omega⟩, fun j a b => ?_⟩
      have b' : j < (dl9_ D m).1 + 1 := b
      show 0 ≤ fu_ (dl9_ D m).2 (dl9_ D m).1 (m : Int) j ∧ fu_ (dl9_ D m).2 (dl9_ D m).1 (m : Int) j < ((m + 1 : Nat) : Int)
      by_cases y : j = (dl9_ D m).1
      · rw [y, fu_s]
        omega
      · rw [fu_n y]
        have := ih.2 j a (by omega)
        omega
    · rw [cz_f z]
      refine ⟨⟨ih.1.1, by omega⟩, fun j a b => ?_⟩
      have := ih.2 j a b
      omega
theorem dl_c {D D' : Int → Prop} : ∀ m : Nat, (∀ i : Int, 0 ≤ i → i < (m : Int) → (D i ↔ D' i)) → dl9_ D m = dl9_ D' m
  | 0, _ => rfl
  | m + 1, h => by
    show cz_ (D (m : Int)) ((dl9_ D m).1 + 1, fu_ (dl9_ D m).2 (dl9_ D m).1 (m : Int)) (dl9_ D m) = cz_ (D' (m : Int)) ((dl9_ D' m).1 + 1, fu_ (dl9_ D' m).2 (dl9_ D' m).1 (m : Int)) (dl9_ D' m)
    rw [dl_c m (fun i a b => h i a (by omega))]
    have e := h (m : Int) (by omega) (by omega)
    by_cases z : D (m : Int)
    · rw [cz_t z, cz_t (e.mp z)]
    · rw [cz_f z, cz_f (fun y => z (e.mpr y))]
/-- a match is decided on both sides or on none -/
theorem dc_e {T : Zt} {m : Int} (pm : PM_ T m) : (T 102 m 6 ≠ -1 ∨ (T 102 m 10 ≠ 0 ∧ T 103 m 3 ≠ 0)) ↔ (T 235 0 m = 2 ∨ T 235 0 m = 3) := by
  rcases pm with h | h | h
  · unfold PAA_ at h
    omega
  · unfold PBB_ at h
    omega
  · obtain ⟨h1, h2, h3, ⟨n, hn, hs⟩, -⟩ := h
    have e := hs.1.2.2.1.2.2
    rw [rp_35, rs_d (T := T) (p := m) (k := 103) (j := 3) rfl] at e
    omega
-- the list of those that are left
/-- the list holds such alone, in their order, and all of them -/
theorem dl_a {D : Int → Prop} : ∀ m : Nat, (∀ j, 0 ≤ j → j < (dl9_ D m).1 → D ((dl9_ D m).2 j)) ∧ (∀ i j, 0 ≤ i → i < j → j < (dl9_ D m).1 → (dl9_ D m).2 i < (dl9_ D m).2 j) ∧ (∀ i, 0 ≤ i → i < (m : Int) → D i → ∃ j, 0 ≤ j ∧ j < (dl9_ D m).1 ∧ (dl9_ D m).2 j = i)
  | 0 => ⟨fun j a b => by
      have b' : j < 0 := b
      omega, fun i j a b e => by
      have e' : j < 0 := e
      omega, fun i a b => by omega⟩
  | m + 1 => by
    have ih := dl_a (D := D) m
    have bd := dl_b (D := D) m
    by_cases z : D (m : Int)
    · have e : dl9_ D (m + 1) = ((dl9_ D m).1 + 1, fu_ (dl9_ D m).2 (dl9_ D m).1 (m : Int)) := cz_t z
      rw [e]
      refine ⟨fun j a b => ?_, fun i j a b q => ?_, fun i a b q => ?_⟩
      · have b' : j < (dl9_ D m).1 + 1 := b
        show D (fu_ (dl9_ D m).2 (dl9_ D m).1 (m : Int) j)
        by_cases y : j = (dl9_ D m).1
        · rw [y, fu_s]
          exact z
        · rw [fu_n y]
          exact ih.1 j a (by omega)
      · have q' : j < (dl9_ D m).1 + 1 := q
        show fu_ (dl9_ D m).2 (dl9_ D m).1 (m : Int) i < fu_ (dl9_ D m).2 (dl9_ D m).1 (m : Int) j
        rw [fu_n (show i ≠ (dl9_ D m).1 by omega)]
        by_cases y : j = (dl9_ D m).1
        · rw [y, fu_s]
          exact (bd.2 i a (by omega)).2
        · rw [fu_n y]
          exact ih.2.1 i j a b (by omega)
      · by_cases y : i = (m : Int)
        · exact ⟨(dl9_ D m).1, bd.1.1, show (dl9_ D m).1 < (dl9_ D m).1 + 1 by omega, by
            show fu_ (dl9_ D m).2 (dl9_ D m).1 (m : Int) (dl9_ D m).1 = i
            rw [fu_s, y]⟩
        · obtain ⟨j, j0, j1, j2⟩ := ih.2.2 i a (by omega) q
          exact ⟨j, j0, show j < (dl9_ D m).1 + 1 by omega, by
            show fu_ (dl9_ D m).2 (dl9_ D m).1 (m : Int) j = i
            rw [fu_n (show j ≠ (dl9_ D m).1 by omega)]
            exact j2⟩
    · have e : dl9_ D (m + 1) = dl9_ D m := cz_f z
      rw [e]
      refine ⟨ih.1, ih.2.1, fun i a b q => ?_⟩
      by_cases y : i = (m : Int)
      · exact absurd (y ▸ q) z
      · exact ih.2.2 i a (by omega) q
/-- how many there are grows with the matches -/
theorem dl_g {D : Int → Prop} {m : Nat} : ∀ n : Nat, (dl9_ D m).1 ≤ (dl9_ D (m + n)).1
  | 0 => Int.le_refl _
  | n + 1 => by
    have ih := dl_g (D := D) (m := m) n
    by_cases z : D ((m + n : Nat) : Int)
    · have e : dl9_ D (m + n + 1) = ((dl9_ D (m + n)).1 + 1, fu_ (dl9_ D (m + n)).2 (dl9_ D (m + n)).1 ((m + n : Nat) : Int)) := cz_t z
      show (dl9_ D m).1 ≤ (dl9_ D (m + n + 1)).1
      rw [e]
      show (dl9_ D m).1 ≤ (dl9_ D (m + n)).1 + 1
      omega
    · have e : dl9_ D (m + n + 1) = dl9_ D (m + n) := cz_f z
      show (dl9_ D m).1 ≤ (dl9_ D (m + n + 1)).1
      rw [e]
      exact ih
