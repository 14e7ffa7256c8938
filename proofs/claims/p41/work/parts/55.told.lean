def KO_ (T : Zt) : Prop := ∀ c : Int, 0 ≤ c → c < T 106 0 2 → T 401 c 4 ≤ 7
theorem KO__f {ws : List (Nat × List Int)} {T T' : Zt} (h : KO_ T) (f : fr_ ws T T') (w : (∀ j, fw_ ws 401 j = false) ∧ fw_ ws 106 2 = false ∧ True) : KO_ T' := by
  have e0 : ∀ i j, T' 401 i j = T 401 i j := fun i j => f 401 i j (w.1 j)
  have e1 : ∀ i, T' 106 i 2 = T 106 i 2 := fun i => f 106 i 2 w.2.1
  simp only [KO_, e0, e1] at h ⊢
  exact h
abbrev cX10_firsts : ByteArray := prog_1_method_35_code
def yX10_firsts : MethodName := ⟨RX10, "firsts", "(II)I"⟩
def zX10_firsts : Zm := (RX10, cX10_firsts, 4, (some .int), { frames := 7, cells := 0, slots := 0, locals := 179 })
theorem bk_X10_firsts_0 : ck_ fX10 (some .int) cX10_firsts 0 [.aload 0, .iload 1] 2 = true := qck_r (by decide) (by decide +kernel)
theorem bs_X10_firsts_0 {P : Zt → Option Zv → Prop} (K : Int → Zl → List Zv → Zt → Prop) : sx_ K P [.aload 0, .iload 1] 2 = x_aload 0 (x_iload 1 (K 2)) := ((xe_aload 0).trans (congrArg (x_aload 0) ((xe_iload 1).trans (congrArg (x_iload 1) xe_nil))))
theorem bk_X10_firsts_5 : ck_ fX10 (some .int) cX10_firsts 5 [.ifCond .eq 16, .aload 0, .iload 2] 10 = true := qck_r (by decide) (by decide +kernel)
theorem bs_X10_firsts_5 {P : Zt → Option Zv → Prop} (K : Int → Zl → List Zv → Zt → Prop) : sx_ K P [.ifCond .eq 16, .aload 0, .iload 2] 10 = x_ifCond .eq 16 K (x_aload 0 (x_iload 2 (K 10))) := ((xe_ifCond .eq 16).trans (congrArg (x_ifCond .eq 16 K) ((xe_aload 0).trans (congrArg (x_aload 0) ((xe_iload 2).trans (congrArg (x_iload 2) xe_nil))))))
theorem bk_X10_firsts_16 : ck_ fX10 (some .int) cX10_firsts 16 [.iconst (-2), .ireturn] 19 = true := qck_r (by decide) (by decide +kernel)
theorem bs_X10_firsts_16 {P : Zt → Option Zv → Prop} (K : Int → Zl → List Zv → Zt → Prop) : sx_ K P [.iconst (-2), .ireturn] 19 = x_iconst (-2) (x_ireturn P) := ((xe_iconst (-2)).trans (congrArg (x_iconst (-2)) (xe_ireturn)))
theorem bk_X10_firsts_13 : ck_ fX10 (some .int) cX10_firsts 13 [.ifCond .ne 19, .iconst (-2), .ireturn] 19 = true := qck_r (by decide) (by decide +kernel)
theorem bs_X10_firsts_13 {P : Zt → Option Zv → Prop} (K : Int → Zl → List Zv → Zt → Prop) : sx_ K P [.ifCond .ne 19, .iconst (-2), .ireturn] 19 = x_ifCond .ne 19 K (x_iconst (-2) (x_ireturn P)) := ((xe_ifCond .ne 19).trans (congrArg (x_ifCond .ne 19 K) ((xe_iconst (-2)).trans (congrArg (x_iconst (-2)) (xe_ireturn)))))
theorem bk_X10_firsts_19 : ck_ fX10 (some .int) cX10_firsts 19 [.aload 0, .tableswitch 0 10 2 #[], .tableswitch 0 6 1 #[], .iload 1, .aaload, .astore 3, .aload 3, .tableswitch 0 0 4 #[], .iload 2, .iaload, .iconst (-1), .if_icmp .eq 46, .aload 3, .tableswitch 0 0 6 #[], .ifCond .ne 49, .iconst (-4), .ireturn] 49 = true := qck_r (by decide) (by decide +kernel)
theorem bs_X10_firsts_19 {P : Zt → Option Zv → Prop} (K : Int → Zl → List Zv → Zt → Prop) : sx_ K P [.aload 0, .tableswitch 0 10 2 #[], .tableswitch 0 6 1 #[], .iload 1, .aaload, .astore 3, .aload 3, .tableswitch 0 0 4 #[], .iload 2, .iaload, .iconst (-1), .if_icmp .eq 46, .aload 3, .tableswitch 0 0 6 #[], .ifCond .ne 49, .iconst (-4), .ireturn] 49 = x_aload 0 (x_g1 110 106 (x_g1 106 521 (x_iload 1 (x_aaload (x_astore 3 (x_aload 3 (x_g2 100 404 (x_iload 2 (x_iaload (x_iconst (-1) (x_if_icmp .eq 46 K (x_aload 3 (x_g0 100 6 0 1 (x_ifCond .ne 49 K (x_iconst (-4) (x_ireturn P)))))))))))))))) := ((xe_aload 0).trans (congrArg (x_aload 0) ((xe_g1 (kk := 110) rfl tl_10_2).trans (congrArg (x_g1 110 106) ((xe_g1 (kk := 106) rfl tl_6_1).trans (congrArg (x_g1 106 521) ((xe_iload 1).trans (congrArg (x_iload 1) ((xe_aaload).trans (congrArg (x_aaload) ((xe_astore 3).trans (congrArg (x_astore 3) ((xe_aload 3).trans (congrArg (x_aload 3) ((xe_g2 (kk := 100) rfl tl_0_4).trans (congrArg (x_g2 100 404) ((xe_iload 2).trans (congrArg (x_iload 2) ((xe_iaload).trans (congrArg (x_iaload) ((xe_iconst (-1)).trans (congrArg (x_iconst (-1)) ((xe_if_icmp .eq 46).trans (congrArg (x_if_icmp .eq 46 K) ((xe_aload 3).trans (congrArg (x_aload 3) ((xe_g0 (kk := 100) rfl tl_0_6).trans (congrArg (x_g0 100 6 0 1) ((xe_ifCond .ne 49).trans (congrArg (x_ifCond .ne 49 K) ((xe_iconst (-4)).trans (congrArg (x_iconst (-4)) (xe_ireturn)))))))))))))))))))))))))))))))))
theorem bk_X10_firsts_46 : ck_ fX10 (some .int) cX10_firsts 46 [.iconst (-4), .ireturn] 49 = true := qck_r (by decide) (by decide +kernel)
theorem bs_X10_firsts_46 {P : Zt → Option Zv → Prop} (K : Int → Zl → List Zv → Zt → Prop) : sx_ K P [.iconst (-4), .ireturn] 49 = x_iconst (-4) (x_ireturn P) := ((xe_iconst (-4)).trans (congrArg (x_iconst (-4)) (xe_ireturn)))
theorem bk_X10_firsts_49 : ck_ fX10 (some .int) cX10_firsts 49 [.aload 0, .tableswitch 0 10 4 #[], .aload 3, .aload 3, .tableswitch 0 0 4 #[], .iload 2, .iaload] 60 = true := qck_r (by decide) (by decide +kernel)
theorem bs_X10_firsts_49 {P : Zt → Option Zv → Prop} (K : Int → Zl → List Zv → Zt → Prop) : sx_ K P [.aload 0, .tableswitch 0 10 4 #[], .aload 3, .aload 3, .tableswitch 0 0 4 #[], .iload 2, .iaload] 60 = x_aload 0 (x_g1 110 109 (x_aload 3 (x_aload 3 (x_g2 100 404 (x_iload 2 (x_iaload (K 60))))))) := ((xe_aload 0).trans (congrArg (x_aload 0) ((xe_g1 (kk := 110) rfl tl_10_4).trans (congrArg (x_g1 110 109) ((xe_aload 3).trans (congrArg (x_aload 3) ((xe_aload 3).trans (congrArg (x_aload 3) ((xe_g2 (kk := 100) rfl tl_0_4).trans (congrArg (x_g2 100 404) ((xe_iload 2).trans (congrArg (x_iload 2) ((xe_iaload).trans (congrArg (x_iaload) xe_nil))))))))))))))
set_option maxRecDepth 100000 in
theorem cl_X10_377 : cv_ RX10 377 yX9_countFirsts zX9_countFirsts 9 2 := ⟨gi_V (lw_b6 111 (by decide +kernel) rfl : Cond.methodLink RX10 377 yX9_countFirsts ∈ lw_g) (lw_b6 112 (by decide +kernel) rfl : Cond.instanceMethod yX9_countFirsts ∈ lw_g) (lw_b6 113 (by decide +kernel) rfl : Cond.selects yX9_countFirsts.cls yX9_countFirsts yX9_countFirsts ∈ lw_g) (lw_b1 6 (by decide +kernel) rfl : Cond.initialized yX9_countFirsts.cls ∈ lw_g) (lw_b6 114 rfl rfl : Cond.code yX9_countFirsts cX9_countFirsts 7 (some .int) ∈ lw_g), ⟨by decide, by decide, by decide +kernel⟩, ⟨_, _, rfl⟩⟩
theorem bk_X10_firsts_63 : ck_ fX10 (some .int) cX10_firsts 63 [.ireturn] 64 = true := qck_r (by decide) (by decide +kernel)
theorem bs_X10_firsts_63 {P : Zt → Option Zv → Prop} (K : Int → Zl → List Zv → Zt → Prop) : sx_ K P [.ireturn] 64 = x_ireturn P := (xe_ireturn)
abbrev po_X10_firsts (T : Zt) (c b : Int) : Zt → Option Zv → Prop := fun T' r => ∃ x : Int, r = some (vI x) ∧ fr_ [(109, [5]), (588, []), (107, [1, 13]), (542, []), (543, []), (544, []), (545, []), (546, []), (550, []), (551, []), (552, []), (549, []), (547, []), (548, [])] T T' ∧ (-4 ≤ x ∧ x ≤ 27)
set_option maxHeartbeats 4000000 in
theorem ct_X10_firsts {T : Zt} {c b : Int} (hka : KA_ T) (hkm : KM_ T) (hkc : KC_ T) (hko : KO_ T) : Ct_ yX10_firsts zX10_firsts T [vR 110 0, vI c, vI b] (po_X10_firsts T c b) := by
  refine ct_of (by decide) rfl rfl (Nat.le_of_ble_eq_true rfl) (fun hT hav => ?_)
  have hr_c : -2147483648 ≤ c ∧ c ≤ 2147483647 := hav (vI c) (by simp)
  have hr_b : -2147483648 ≤ b ∧ b ≤ 2147483647 := hav (vI b) (by simp)
  have hz : zX10_firsts.2.2.2.1 = some .boolean → ∀ (T' : Zt) (x : Int), po_X10_firsts T c b T' (some (vI x)) → 0 ≤ x ∧ x ≤ 1 := fun h => by cases h
  have hcc : 0 ≤ T 106 0 2 ∧ T 106 0 2 ≤ 4 := bd_f hT 106 2 (by decide +kernel : (tf_ 106)[2]? = some (0, 0, 0, 4)) 0
  have hb_clubs : 0 ≤ T 108 0 2 ∧ T 108 0 2 ≤ 12 := bd_f hT 108 2 (by decide +kernel : (tf_ 108)[2]? = some (0, 0, 0, 12)) 0
  show J_ zX10_firsts T (po_X10_firsts T c b) 0 0 0 [some (vR 110 0), some (vI c), some (vI b), none] [] T
  refine j_blx (F := fX10) tb_X10 (by decide) bk_X10_firsts_0 bs_X10_firsts_0 hz (fun K hK => ?_)
  refine hK 2 [some (vR 110 0), some (vI c), some (vI b), none] [vI c, vR 110 0] T ?_
  refine j_callV (y := yX10_isCompetition) (Yc := zX10_isCompetition) (rest := []) [vI c] (ct_X10_isCompetition (T := T)) cl_X10_107 (qd_c (by decide +kernel)) (by decide) rfl (by decide +kernel) (Nat.le_of_ble_eq_true rfl) (by decide) (by decide) rfl ?_
  rintro _ _ ⟨rfl, x1, rfl, hx1⟩
  show J_ zX10_firsts T (po_X10_firsts T c b) 0 0 5 [some (vR 110 0), some (vI c), some (vI b), none] [vI x1] T
  refine j_blx (F := fX10) tb_X10 (by decide) bk_X10_firsts_5 bs_X10_firsts_5 hz (fun K hK => ?_)
  refine And.intro (fun c2 => ?_) (fun c2 => ?_)
  · refine hK 16 [some (vR 110 0), some (vI c), some (vI b), none] [] T ?_
    refine j_blx (F := fX10) tb_X10 (by decide) bk_X10_firsts_16 bs_X10_firsts_16 hz (fun K hK => ?_)
    refine (show po_X10_firsts T c b T (some (vI (-2))) from ?_)
    exact ⟨_, rfl, fr_0 _ _, by omega⟩
  · refine hK 10 [some (vR 110 0), some (vI c), some (vI b), none] [vI b, vR 110 0] T ?_
    refine j_callV (y := yX10_isClub) (Yc := zX10_isClub) (rest := []) [vI b] (ct_X10_isClub (T := T)) cl_X10_137 (qd_c (by decide +kernel)) (by decide) rfl (by decide +kernel) (Nat.le_of_ble_eq_true rfl) (by decide) (by decide) rfl ?_
    rintro _ _ ⟨rfl, x3, rfl, hx3⟩
    show J_ zX10_firsts T (po_X10_firsts T c b) 0 0 13 [some (vR 110 0), some (vI c), some (vI b), none] [vI x3] T
    refine j_blx (F := fX10) tb_X10 (by decide) bk_X10_firsts_13 bs_X10_firsts_13 hz (fun K hK => ?_)
    refine And.intro (fun c4 => ?_) (fun c4 => ?_)
    · refine hK 19 [some (vR 110 0), some (vI c), some (vI b), none] [] T ?_
      refine j_blx (F := fX10) tb_X10 (by decide) bk_X10_firsts_19 bs_X10_firsts_19 hz (fun K hK => ?_)
      refine ix_i (by omega) ?_
      refine And.intro (fun c5 => ?_) (fun c5 => ?_)
      · exact absurd (show T 521 0 c = 0 by omega) (hka.1 _ (by omega) (by omega))
      · refine ix_i (by omega) ?_
        intro b6 b6b
        refine And.intro (fun c7 => ?_) (fun c7 => ?_)
        · refine hK 46 [some (vR 110 0), some (vI c), some (vI b), some (vR 100 c)] [] T ?_
          refine j_blx (F := fX10) tb_X10 (by decide) bk_X10_firsts_46 bs_X10_firsts_46 hz (fun K hK => ?_)
          refine (show po_X10_firsts T c b T (some (vI (-4))) from ?_)
          exact ⟨_, rfl, fr_0 _ _, by omega⟩
        · intro b8 b8b
          refine And.intro (fun c9 => ?_) (fun c9 => ?_)
          · refine hK 49 [some (vR 110 0), some (vI c), some (vI b), some (vR 100 c)] [] T ?_
            refine j_blx (F := fX10) tb_X10 (by decide) bk_X10_firsts_49 bs_X10_firsts_49 hz (fun K hK => ?_)
            refine ix_i (by omega) ?_
            intro b10 b10b
            refine hK 60 [some (vR 110 0), some (vI c), some (vI b), some (vR 100 c)] [vI (T 404 c b), vR 100 c, vR 109 0] T ?_
            refine j_callV (y := yX9_countFirsts) (Yc := zX9_countFirsts) (rest := []) [vR 100 c, vI (T 404 c b)] (ct_X9_countFirsts (T := T) (by exact hka) (by exact hkm) (by exact hkc) (by omega) (by omega) (by exact hko c (by omega) (by omega))) cl_X10_377 (qd_c (by decide +kernel)) (by decide) rfl (by decide +kernel) (Nat.le_of_ble_eq_true rfl) (by decide) (by decide) rfl ?_
            rintro U11 _ ⟨x12, rfl, fU11, qU11⟩
            show J_ zX10_firsts T (po_X10_firsts T c b) 0 0 63 [some (vR 110 0), some (vI c), some (vI b), some (vR 100 c)] [vI x12] U11
            refine j_blx (F := fX10) tb_X10 (by decide) bk_X10_firsts_63 bs_X10_firsts_63 hz (fun K hK => ?_)
            refine (show po_X10_firsts T c b U11 (some (vI x12)) from ?_)
            exact ⟨_, rfl, fr_t (fr_0 _ _) (fr_s fU11 rfl), by omega⟩
          · refine (show po_X10_firsts T c b T (some (vI (-4))) from ?_)
            exact ⟨_, rfl, fr_0 _ _, by omega⟩
    · refine (show po_X10_firsts T c b T (some (vI (-2))) from ?_)
      exact ⟨_, rfl, fr_0 _ _, by omega⟩
abbrev cX10_table : ByteArray := prog_1_method_29_code
def yX10_table : MethodName := ⟨RX10, "table", "(IIII)I"⟩
def zX10_table : Zm := (RX10, cX10_table, 7, (some .int), { frames := 5, cells := 0, slots := 0, locals := 127 })
theorem bk_X10_table_0 : ck_ fX10 (some .int) cX10_table 0 [.aload 0, .iload 1] 2 = true := qck_r (by decide) (by decide +kernel)
theorem bs_X10_table_0 {P : Zt → Option Zv → Prop} (K : Int → Zl → List Zv → Zt → Prop) : sx_ K P [.aload 0, .iload 1] 2 = x_aload 0 (x_iload 1 (K 2)) := ((xe_aload 0).trans (congrArg (x_aload 0) ((xe_iload 1).trans (congrArg (x_iload 1) xe_nil))))
theorem bk_X10_table_5 : ck_ fX10 (some .int) cX10_table 5 [.ifCond .eq 16, .aload 0, .iload 3] 10 = true := qck_r (by decide) (by decide +kernel)
theorem bs_X10_table_5 {P : Zt → Option Zv → Prop} (K : Int → Zl → List Zv → Zt → Prop) : sx_ K P [.ifCond .eq 16, .aload 0, .iload 3] 10 = x_ifCond .eq 16 K (x_aload 0 (x_iload 3 (K 10))) := ((xe_ifCond .eq 16).trans (congrArg (x_ifCond .eq 16 K) ((xe_aload 0).trans (congrArg (x_aload 0) ((xe_iload 3).trans (congrArg (x_iload 3) xe_nil))))))
theorem bk_X10_table_16 : ck_ fX10 (some .int) cX10_table 16 [.iconst (-2), .ireturn] 19 = true := qck_r (by decide) (by decide +kernel)
theorem bs_X10_table_16 {P : Zt → Option Zv → Prop} (K : Int → Zl → List Zv → Zt → Prop) : sx_ K P [.iconst (-2), .ireturn] 19 = x_iconst (-2) (x_ireturn P) := ((xe_iconst (-2)).trans (congrArg (x_iconst (-2)) (xe_ireturn)))
theorem bk_X10_table_13 : ck_ fX10 (some .int) cX10_table 13 [.ifCond .ne 19, .iconst (-2), .ireturn] 19 = true := qck_r (by decide) (by decide +kernel)
theorem bs_X10_table_13 {P : Zt → Option Zv → Prop} (K : Int → Zl → List Zv → Zt → Prop) : sx_ K P [.ifCond .ne 19, .iconst (-2), .ireturn] 19 = x_ifCond .ne 19 K (x_iconst (-2) (x_ireturn P)) := ((xe_ifCond .ne 19).trans (congrArg (x_ifCond .ne 19 K) ((xe_iconst (-2)).trans (congrArg (x_iconst (-2)) (xe_ireturn)))))
theorem bk_X10_table_19 : ck_ fX10 (some .int) cX10_table 19 [.iload 2] 20 = true := qck_r (by decide) (by decide +kernel)
theorem bs_X10_table_19 {P : Zt → Option Zv → Prop} (K : Int → Zl → List Zv → Zt → Prop) : sx_ K P [.iload 2] 20 = x_iload 2 (K 20) := ((xe_iload 2).trans (congrArg (x_iload 2) xe_nil))
theorem bk_X10_table_23 : ck_ fX10 (some .int) cX10_table 23 [.ifCond .eq 38, .iload 4, .ifCond .lt 38, .iload 4, .iconst 7, .if_icmp .le 41, .iconst (-3), .ireturn] 41 = true := qck_r (by decide) (by decide +kernel)
theorem bs_X10_table_23 {P : Zt → Option Zv → Prop} (K : Int → Zl → List Zv → Zt → Prop) : sx_ K P [.ifCond .eq 38, .iload 4, .ifCond .lt 38, .iload 4, .iconst 7, .if_icmp .le 41, .iconst (-3), .ireturn] 41 = x_ifCond .eq 38 K (x_iload 4 (x_ifCond .lt 38 K (x_iload 4 (x_iconst 7 (x_if_icmp .le 41 K (x_iconst (-3) (x_ireturn P))))))) := ((xe_ifCond .eq 38).trans (congrArg (x_ifCond .eq 38 K) ((xe_iload 4).trans (congrArg (x_iload 4) ((xe_ifCond .lt 38).trans (congrArg (x_ifCond .lt 38 K) ((xe_iload 4).trans (congrArg (x_iload 4) ((xe_iconst 7).trans (congrArg (x_iconst 7) ((xe_if_icmp .le 41).trans (congrArg (x_if_icmp .le 41 K) ((xe_iconst (-3)).trans (congrArg (x_iconst (-3)) (xe_ireturn)))))))))))))))
theorem bk_X10_table_38 : ck_ fX10 (some .int) cX10_table 38 [.iconst (-3), .ireturn] 41 = true := qck_r (by decide) (by decide +kernel)
theorem bs_X10_table_38 {P : Zt → Option Zv → Prop} (K : Int → Zl → List Zv → Zt → Prop) : sx_ K P [.iconst (-3), .ireturn] 41 = x_iconst (-3) (x_ireturn P) := ((xe_iconst (-3)).trans (congrArg (x_iconst (-3)) (xe_ireturn)))
theorem bk_X10_table_41 : ck_ fX10 (some .int) cX10_table 41 [.aload 0, .tableswitch 0 10 2 #[], .tableswitch 0 6 1 #[], .iload 1, .aaload, .astore 5, .aload 5, .tableswitch 0 0 4 #[], .iload 3, .iaload, .istore 6, .iload 6, .iconst (-1), .if_icmp .ne 70, .iconst (-4), .ireturn] 70 = true := qck_r (by decide) (by decide +kernel)
theorem bs_X10_table_41 {P : Zt → Option Zv → Prop} (K : Int → Zl → List Zv → Zt → Prop) : sx_ K P [.aload 0, .tableswitch 0 10 2 #[], .tableswitch 0 6 1 #[], .iload 1, .aaload, .astore 5, .aload 5, .tableswitch 0 0 4 #[], .iload 3, .iaload, .istore 6, .iload 6, .iconst (-1), .if_icmp .ne 70, .iconst (-4), .ireturn] 70 = x_aload 0 (x_g1 110 106 (x_g1 106 521 (x_iload 1 (x_aaload (x_astore 5 (x_aload 5 (x_g2 100 404 (x_iload 3 (x_iaload (x_istore 6 (x_iload 6 (x_iconst (-1) (x_if_icmp .ne 70 K (x_iconst (-4) (x_ireturn P))))))))))))))) := ((xe_aload 0).trans (congrArg (x_aload 0) ((xe_g1 (kk := 110) rfl tl_10_2).trans (congrArg (x_g1 110 106) ((xe_g1 (kk := 106) rfl tl_6_1).trans (congrArg (x_g1 106 521) ((xe_iload 1).trans (congrArg (x_iload 1) ((xe_aaload).trans (congrArg (x_aaload) ((xe_astore 5).trans (congrArg (x_astore 5) ((xe_aload 5).trans (congrArg (x_aload 5) ((xe_g2 (kk := 100) rfl tl_0_4).trans (congrArg (x_g2 100 404) ((xe_iload 3).trans (congrArg (x_iload 3) ((xe_iaload).trans (congrArg (x_iaload) ((xe_istore 6).trans (congrArg (x_istore 6) ((xe_iload 6).trans (congrArg (x_iload 6) ((xe_iconst (-1)).trans (congrArg (x_iconst (-1)) ((xe_if_icmp .ne 70).trans (congrArg (x_if_icmp .ne 70 K) ((xe_iconst (-4)).trans (congrArg (x_iconst (-4)) (xe_ireturn)))))))))))))))))))))))))))))))
theorem bk_X10_table_70 : ck_ fX10 (some .int) cX10_table 70 [.aload 0, .tableswitch 0 10 3 #[], .aload 5, .iload 2] 77 = true := qck_r (by decide) (by decide +kernel)
theorem bs_X10_table_70 {P : Zt → Option Zv → Prop} (K : Int → Zl → List Zv → Zt → Prop) : sx_ K P [.aload 0, .tableswitch 0 10 3 #[], .aload 5, .iload 2] 77 = x_aload 0 (x_g1 110 107 (x_aload 5 (x_iload 2 (K 77)))) := ((xe_aload 0).trans (congrArg (x_aload 0) ((xe_g1 (kk := 110) rfl tl_10_3).trans (congrArg (x_g1 110 107) ((xe_aload 5).trans (congrArg (x_aload 5) ((xe_iload 2).trans (congrArg (x_iload 2) xe_nil))))))))
set_option maxRecDepth 100000 in
theorem cl_X10_350 : cv_ RX10 350 yX7_tally zX7_tally 7 2 := ⟨gi_V (lw_b5 200 (by decide +kernel) rfl : Cond.methodLink RX10 350 yX7_tally ∈ lw_g) (lw_b5 201 (by decide +kernel) rfl : Cond.instanceMethod yX7_tally ∈ lw_g) (lw_b5 202 (by decide +kernel) rfl : Cond.selects yX7_tally.cls yX7_tally yX7_tally ∈ lw_g) (lw_b1 5 (by decide +kernel) rfl : Cond.initialized yX7_tally.cls ∈ lw_g) (lw_b5 203 rfl rfl : Cond.code yX7_tally cX7_tally 5 none ∈ lw_g), ⟨by decide, by decide, by decide +kernel⟩, ⟨_, _, rfl⟩⟩
theorem bk_X10_table_80 : ck_ fX10 (some .int) cX10_table 80 [.aload 0, .tableswitch 0 10 3 #[]] 84 = true := qck_r (by decide) (by decide +kernel)
theorem bs_X10_table_80 {P : Zt → Option Zv → Prop} (K : Int → Zl → List Zv → Zt → Prop) : sx_ K P [.aload 0, .tableswitch 0 10 3 #[]] 84 = x_aload 0 (x_g1 110 107 (K 84)) := ((xe_aload 0).trans (congrArg (x_aload 0) ((xe_g1 (kk := 110) rfl tl_10_3).trans (congrArg (x_g1 110 107) xe_nil))))
set_option maxRecDepth 100000 in
theorem cl_X10_353 : cv_ RX10 353 yX7_rank zX7_rank 7 0 := ⟨gi_V (lw_b5 224 (by decide +kernel) rfl : Cond.methodLink RX10 353 yX7_rank ∈ lw_g) (lw_b5 225 (by decide +kernel) rfl : Cond.instanceMethod yX7_rank ∈ lw_g) (lw_b5 226 (by decide +kernel) rfl : Cond.selects yX7_rank.cls yX7_rank yX7_rank ∈ lw_g) (lw_b1 5 (by decide +kernel) rfl : Cond.initialized yX7_rank.cls ∈ lw_g) (lw_b5 227 rfl rfl : Cond.code yX7_rank cX7_rank 3 none ∈ lw_g), ⟨by decide, by decide, by decide +kernel⟩, ⟨_, _, rfl⟩⟩
theorem bk_X10_table_87 : ck_ fX10 (some .int) cX10_table 87 [.aload 0, .tableswitch 0 10 3 #[], .tableswitch 0 7 2 #[], .iload 6, .iconst 8, .imul, .iload 4, .iadd, .iaload, .ireturn] 104 = true := qck_r (by decide) (by decide +kernel)
theorem bs_X10_table_87 {P : Zt → Option Zv → Prop} (K : Int → Zl → List Zv → Zt → Prop) : sx_ K P [.aload 0, .tableswitch 0 10 3 #[], .tableswitch 0 7 2 #[], .iload 6, .iconst 8, .imul, .iload 4, .iadd, .iaload, .ireturn] 104 = x_aload 0 (x_g1 110 107 (x_g1 107 542 (x_iload 6 (x_iconst 8 (x_imul (x_iload 4 (x_iadd (x_iaload (x_ireturn P))))))))) := ((xe_aload 0).trans (congrArg (x_aload 0) ((xe_g1 (kk := 110) rfl tl_10_3).trans (congrArg (x_g1 110 107) ((xe_g1 (kk := 107) rfl tl_7_2).trans (congrArg (x_g1 107 542) ((xe_iload 6).trans (congrArg (x_iload 6) ((xe_iconst 8).trans (congrArg (x_iconst 8) ((xe_imul).trans (congrArg (x_imul) ((xe_iload 4).trans (congrArg (x_iload 4) ((xe_iadd).trans (congrArg (x_iadd) ((xe_iaload).trans (congrArg (x_iaload) (xe_ireturn)))))))))))))))))))
abbrev po_X10_table (T : Zt) (c d b w : Int) : Zt → Option Zv → Prop := fun T' r => ∃ x : Int, r = some (vI x) ∧ fr_ [(107, [1, 13]), (542, []), (543, []), (544, []), (545, []), (546, []), (550, []), (551, []), (552, []), (549, []), (547, []), (548, [])] T T' ∧ (0 = (0 : Int))
set_option maxHeartbeats 4000000 in
theorem ct_X10_table {T : Zt} {c d b w : Int} (hka : KA_ T) (hkm : KM_ T) (hkc : KC_ T) (hko : KO_ T) : Ct_ yX10_table zX10_table T [vR 110 0, vI c, vI d, vI b, vI w] (po_X10_table T c d b w) := by
  refine ct_of (by decide) rfl rfl (Nat.le_of_ble_eq_true rfl) (fun hT hav => ?_)
  have hr_c : -2147483648 ≤ c ∧ c ≤ 2147483647 := hav (vI c) (by simp)
  have hr_d : -2147483648 ≤ d ∧ d ≤ 2147483647 := hav (vI d) (by simp)
  have hr_b : -2147483648 ≤ b ∧ b ≤ 2147483647 := hav (vI b) (by simp)
  have hr_w : -2147483648 ≤ w ∧ w ≤ 2147483647 := hav (vI w) (by simp)
  have hz : zX10_table.2.2.2.1 = some .boolean → ∀ (T' : Zt) (x : Int), po_X10_table T c d b w T' (some (vI x)) → 0 ≤ x ∧ x ≤ 1 := fun h => by cases h
  have hcc : 0 ≤ T 106 0 2 ∧ T 106 0 2 ≤ 4 := bd_f hT 106 2 (by decide +kernel : (tf_ 106)[2]? = some (0, 0, 0, 4)) 0
  have hb_clubs : 0 ≤ T 108 0 2 ∧ T 108 0 2 ≤ 12 := bd_f hT 108 2 (by decide +kernel : (tf_ 108)[2]? = some (0, 0, 0, 12)) 0
  show J_ zX10_table T (po_X10_table T c d b w) 0 0 0 [some (vR 110 0), some (vI c), some (vI d), some (vI b), some (vI w), none, none] [] T
  refine j_blx (F := fX10) tb_X10 (by decide) bk_X10_table_0 bs_X10_table_0 hz (fun K hK => ?_)
  refine hK 2 [some (vR 110 0), some (vI c), some (vI d), some (vI b), some (vI w), none, none] [vI c, vR 110 0] T ?_
  refine j_callV (y := yX10_isCompetition) (Yc := zX10_isCompetition) (rest := []) [vI c] (ct_X10_isCompetition (T := T)) cl_X10_107 (qd_c (by decide +kernel)) (by decide) rfl (by decide +kernel) (Nat.le_of_ble_eq_true rfl) (by decide) (by decide) rfl ?_
  rintro _ _ ⟨rfl, x1, rfl, hx1⟩
  show J_ zX10_table T (po_X10_table T c d b w) 0 0 5 [some (vR 110 0), some (vI c), some (vI d), some (vI b), some (vI w), none, none] [vI x1] T
  refine j_blx (F := fX10) tb_X10 (by decide) bk_X10_table_5 bs_X10_table_5 hz (fun K hK => ?_)
  refine And.intro (fun c2 => ?_) (fun c2 => ?_)
  · refine hK 16 [some (vR 110 0), some (vI c), some (vI d), some (vI b), some (vI w), none, none] [] T ?_
    refine j_blx (F := fX10) tb_X10 (by decide) bk_X10_table_16 bs_X10_table_16 hz (fun K hK => ?_)
    refine (show po_X10_table T c d b w T (some (vI (-2))) from ?_)
    exact ⟨_, rfl, fr_0 _ _, by rfl⟩
  · refine hK 10 [some (vR 110 0), some (vI c), some (vI d), some (vI b), some (vI w), none, none] [vI b, vR 110 0] T ?_
    refine j_callV (y := yX10_isClub) (Yc := zX10_isClub) (rest := []) [vI b] (ct_X10_isClub (T := T)) cl_X10_137 (qd_c (by decide +kernel)) (by decide) rfl (by decide +kernel) (Nat.le_of_ble_eq_true rfl) (by decide) (by decide) rfl ?_
    rintro _ _ ⟨rfl, x3, rfl, hx3⟩
    show J_ zX10_table T (po_X10_table T c d b w) 0 0 13 [some (vR 110 0), some (vI c), some (vI d), some (vI b), some (vI w), none, none] [vI x3] T
    refine j_blx (F := fX10) tb_X10 (by decide) bk_X10_table_13 bs_X10_table_13 hz (fun K hK => ?_)
    refine And.intro (fun c4 => ?_) (fun c4 => ?_)
    · refine hK 19 [some (vR 110 0), some (vI c), some (vI d), some (vI b), some (vI w), none, none] [] T ?_
      refine j_blx (F := fX10) tb_X10 (by decide) bk_X10_table_19 bs_X10_table_19 hz (fun K hK => ?_)
      refine hK 20 [some (vR 110 0), some (vI c), some (vI d), some (vI b), some (vI w), none, none] [vI d] T ?_
      refine j_callS (y := yX10_isDay) (Yc := zX10_isDay) (rest := []) [vI d] (ct_X10_isDay (T := T)) cl_X10_140 (qd_c (by decide +kernel)) (by decide) rfl (by decide +kernel) (Nat.le_of_ble_eq_true rfl) (by decide) (by decide) rfl ?_
      rintro _ _ ⟨rfl, x5, rfl, hx5⟩
      show J_ zX10_table T (po_X10_table T c d b w) 0 0 23 [some (vR 110 0), some (vI c), some (vI d), some (vI b), some (vI w), none, none] [vI x5] T
      refine j_blx (F := fX10) tb_X10 (by decide) bk_X10_table_23 bs_X10_table_23 hz (fun K hK => ?_)
      refine And.intro (fun c6 => ?_) (fun c6 => ?_)
      · refine hK 38 [some (vR 110 0), some (vI c), some (vI d), some (vI b), some (vI w), none, none] [] T ?_
        refine j_blx (F := fX10) tb_X10 (by decide) bk_X10_table_38 bs_X10_table_38 hz (fun K hK => ?_)
        refine (show po_X10_table T c d b w T (some (vI (-3))) from ?_)
        exact ⟨_, rfl, fr_0 _ _, by rfl⟩
      · refine And.intro (fun c7 => ?_) (fun c7 => ?_)
        · refine hK 38 [some (vR 110 0), some (vI c), some (vI d), some (vI b), some (vI w), none, none] [] T ?_
          refine j_blx (F := fX10) tb_X10 (by decide) bk_X10_table_38 bs_X10_table_38 hz (fun K hK => ?_)
          refine (show po_X10_table T c d b w T (some (vI (-3))) from ?_)
          exact ⟨_, rfl, fr_0 _ _, by rfl⟩
        · refine And.intro (fun c8 => ?_) (fun c8 => ?_)
          · refine hK 41 [some (vR 110 0), some (vI c), some (vI d), some (vI b), some (vI w), none, none] [] T ?_
            refine j_blx (F := fX10) tb_X10 (by decide) bk_X10_table_41 bs_X10_table_41 hz (fun K hK => ?_)
            refine ix_i (by omega) ?_
            refine And.intro (fun c9 => ?_) (fun c9 => ?_)
            · exact absurd (show T 521 0 c = 0 by omega) (hka.1 _ (by omega) (by omega))
            · refine ix_i (by omega) ?_
              intro b10 b10b
              refine And.intro (fun c11 => ?_) (fun c11 => ?_)
              · refine hK 70 [some (vR 110 0), some (vI c), some (vI d), some (vI b), some (vI w), some (vR 100 c), some (vI (T 404 c b))] [] T ?_
                refine j_blx (F := fX10) tb_X10 (by decide) bk_X10_table_70 bs_X10_table_70 hz (fun K hK => ?_)
                refine hK 77 [some (vR 110 0), some (vI c), some (vI d), some (vI b), some (vI w), some (vR 100 c), some (vI (T 404 c b))] [vI d, vR 100 c, vR 107 0] T ?_
                refine j_callV (y := yX7_tally) (Yc := zX7_tally) (rest := []) [vR 100 c, vI d] (ct_X7_tally (T := T) (hka) (hkc) (by omega)) cl_X10_350 (qd_c (by decide +kernel)) (by decide) rfl (by decide +kernel) (Nat.le_of_ble_eq_true rfl) (by decide) (by decide) rfl ?_
                rintro U12 _ ⟨rfl, fU12, qU12⟩
                show J_ zX10_table T (po_X10_table T c d b w) 0 0 80 [some (vR 110 0), some (vI c), some (vI d), some (vI b), some (vI w), some (vR 100 c), some (vI (T 404 c b))] [] U12
                refine j_blx (F := fX10) tb_X10 (by decide) bk_X10_table_80 bs_X10_table_80 hz (fun K hK => ?_)
                refine hK 84 [some (vR 110 0), some (vI c), some (vI d), some (vI b), some (vI w), some (vR 100 c), some (vI (T 404 c b))] [vR 107 0] U12 ?_
                have e13 : U12 401 c 4 = T 401 c 4 := fU12 401 c 4 rfl
                have y14 := hko c (by omega) (by omega)
                refine j_callV (y := yX7_rank) (Yc := zX7_rank) (rest := []) [] (ct_X7_rank (T := U12) (by omega) (by rw [show U12 107 0 1 - 1 = c by omega]; omega)) cl_X10_353 (qd_c (by decide +kernel)) (by decide) rfl (by decide +kernel) (Nat.le_of_ble_eq_true rfl) (by decide) (by decide) rfl ?_
                rintro U15 _ ⟨rfl, fU15, qU15⟩
                show J_ zX10_table T (po_X10_table T c d b w) 0 0 87 [some (vR 110 0), some (vI c), some (vI d), some (vI b), some (vI w), some (vR 100 c), some (vI (T 404 c b))] [] U15
                refine j_blx (F := fX10) tb_X10 (by decide) bk_X10_table_87 bs_X10_table_87 hz (fun K hK => ?_)
                refine rg_i (by omega) ?_
                refine rg_i (by omega) ?_
                refine ix_i (by omega) ?_
                intro b16 b16b
                refine (show po_X10_table T c d b w U15 (some (vI (U15 542 0 (((T 404 c b) * 8) + w)))) from ?_)
                exact ⟨_, rfl, fr_t (fr_t (fr_0 _ _) (fr_s fU12 rfl)) (fr_s fU15 rfl), by rfl⟩
              · refine (show po_X10_table T c d b w T (some (vI (-4))) from ?_)
                exact ⟨_, rfl, fr_0 _ _, by rfl⟩
          · refine (show po_X10_table T c d b w T (some (vI (-3))) from ?_)
            exact ⟨_, rfl, fr_0 _ _, by rfl⟩
    · refine (show po_X10_table T c d b w T (some (vI (-2))) from ?_)
      exact ⟨_, rfl, fr_0 _ _, by rfl⟩
abbrev cX10_parted : ByteArray := prog_1_method_31_code
def yX10_parted : MethodName := ⟨RX10, "parted", "(III)I"⟩
def zX10_parted : Zm := (RX10, cX10_parted, 5, (some .int), { frames := 5, cells := 0, slots := 0, locals := 127 })
theorem bk_X10_parted_0 : ck_ fX10 (some .int) cX10_parted 0 [.aload 0, .iload 1] 2 = true := qck_r (by decide) (by decide +kernel)
theorem bs_X10_parted_0 {P : Zt → Option Zv → Prop} (K : Int → Zl → List Zv → Zt → Prop) : sx_ K P [.aload 0, .iload 1] 2 = x_aload 0 (x_iload 1 (K 2)) := ((xe_aload 0).trans (congrArg (x_aload 0) ((xe_iload 1).trans (congrArg (x_iload 1) xe_nil))))
theorem bk_X10_parted_5 : ck_ fX10 (some .int) cX10_parted 5 [.ifCond .ne 11, .iconst (-2), .ireturn] 11 = true := qck_r (by decide) (by decide +kernel)
theorem bs_X10_parted_5 {P : Zt → Option Zv → Prop} (K : Int → Zl → List Zv → Zt → Prop) : sx_ K P [.ifCond .ne 11, .iconst (-2), .ireturn] 11 = x_ifCond .ne 11 K (x_iconst (-2) (x_ireturn P)) := ((xe_ifCond .ne 11).trans (congrArg (x_ifCond .ne 11 K) ((xe_iconst (-2)).trans (congrArg (x_iconst (-2)) (xe_ireturn)))))
theorem bk_X10_parted_11 : ck_ fX10 (some .int) cX10_parted 11 [.iload 2] 12 = true := qck_r (by decide) (by decide +kernel)
theorem bs_X10_parted_11 {P : Zt → Option Zv → Prop} (K : Int → Zl → List Zv → Zt → Prop) : sx_ K P [.iload 2] 12 = x_iload 2 (K 12) := ((xe_iload 2).trans (congrArg (x_iload 2) xe_nil))
theorem bk_X10_parted_15 : ck_ fX10 (some .int) cX10_parted 15 [.ifCond .ne 21, .iconst (-3), .ireturn] 21 = true := qck_r (by decide) (by decide +kernel)
theorem bs_X10_parted_15 {P : Zt → Option Zv → Prop} (K : Int → Zl → List Zv → Zt → Prop) : sx_ K P [.ifCond .ne 21, .iconst (-3), .ireturn] 21 = x_ifCond .ne 21 K (x_iconst (-3) (x_ireturn P)) := ((xe_ifCond .ne 21).trans (congrArg (x_ifCond .ne 21 K) ((xe_iconst (-3)).trans (congrArg (x_iconst (-3)) (xe_ireturn)))))
theorem bk_X10_parted_21 : ck_ fX10 (some .int) cX10_parted 21 [.aload 0, .tableswitch 0 10 2 #[], .tableswitch 0 6 1 #[], .iload 1, .aaload, .astore 4, .iload 3, .aload 4, .tableswitch 0 0 5 #[], .iconst 1, .isub] 40 = true := qck_r (by decide) (by decide +kernel)
theorem bs_X10_parted_21 {P : Zt → Option Zv → Prop} (K : Int → Zl → List Zv → Zt → Prop) : sx_ K P [.aload 0, .tableswitch 0 10 2 #[], .tableswitch 0 6 1 #[], .iload 1, .aaload, .astore 4, .iload 3, .aload 4, .tableswitch 0 0 5 #[], .iconst 1, .isub] 40 = x_aload 0 (x_g1 110 106 (x_g1 106 521 (x_iload 1 (x_aaload (x_astore 4 (x_iload 3 (x_aload 4 (x_g0 100 5 0 12 (x_iconst 1 (x_isub (K 40))))))))))) := ((xe_aload 0).trans (congrArg (x_aload 0) ((xe_g1 (kk := 110) rfl tl_10_2).trans (congrArg (x_g1 110 106) ((xe_g1 (kk := 106) rfl tl_6_1).trans (congrArg (x_g1 106 521) ((xe_iload 1).trans (congrArg (x_iload 1) ((xe_aaload).trans (congrArg (x_aaload) ((xe_astore 4).trans (congrArg (x_astore 4) ((xe_iload 3).trans (congrArg (x_iload 3) ((xe_aload 4).trans (congrArg (x_aload 4) ((xe_g0 (kk := 100) rfl tl_0_5).trans (congrArg (x_g0 100 5 0 12) ((xe_iconst 1).trans (congrArg (x_iconst 1) ((xe_isub).trans (congrArg (x_isub) xe_nil))))))))))))))))))))))
theorem bk_X10_parted_43 : ck_ fX10 (some .int) cX10_parted 43 [.ifCond .ne 48, .iconst (-1), .ireturn] 48 = true := qck_r (by decide) (by decide +kernel)
theorem bs_X10_parted_43 {P : Zt → Option Zv → Prop} (K : Int → Zl → List Zv → Zt → Prop) : sx_ K P [.ifCond .ne 48, .iconst (-1), .ireturn] 48 = x_ifCond .ne 48 K (x_iconst (-1) (x_ireturn P)) := ((xe_ifCond .ne 48).trans (congrArg (x_ifCond .ne 48 K) ((xe_iconst (-1)).trans (congrArg (x_iconst (-1)) (xe_ireturn)))))
theorem bk_X10_parted_48 : ck_ fX10 (some .int) cX10_parted 48 [.aload 0, .tableswitch 0 10 3 #[], .aload 4, .iload 2] 55 = true := qck_r (by decide) (by decide +kernel)
theorem bs_X10_parted_48 {P : Zt → Option Zv → Prop} (K : Int → Zl → List Zv → Zt → Prop) : sx_ K P [.aload 0, .tableswitch 0 10 3 #[], .aload 4, .iload 2] 55 = x_aload 0 (x_g1 110 107 (x_aload 4 (x_iload 2 (K 55)))) := ((xe_aload 0).trans (congrArg (x_aload 0) ((xe_g1 (kk := 110) rfl tl_10_3).trans (congrArg (x_g1 110 107) ((xe_aload 4).trans (congrArg (x_aload 4) ((xe_iload 2).trans (congrArg (x_iload 2) xe_nil))))))))
theorem bk_X10_parted_58 : ck_ fX10 (some .int) cX10_parted 58 [.aload 0, .tableswitch 0 10 3 #[]] 62 = true := qck_r (by decide) (by decide +kernel)
theorem bs_X10_parted_58 {P : Zt → Option Zv → Prop} (K : Int → Zl → List Zv → Zt → Prop) : sx_ K P [.aload 0, .tableswitch 0 10 3 #[]] 62 = x_aload 0 (x_g1 110 107 (K 62)) := ((xe_aload 0).trans (congrArg (x_aload 0) ((xe_g1 (kk := 110) rfl tl_10_3).trans (congrArg (x_g1 110 107) xe_nil))))
theorem bk_X10_parted_65 : ck_ fX10 (some .int) cX10_parted 65 [.aload 0, .tableswitch 0 10 3 #[], .tableswitch 0 7 8 #[], .iload 3, .iaload, .ireturn] 75 = true := qck_r (by decide) (by decide +kernel)
theorem bs_X10_parted_65 {P : Zt → Option Zv → Prop} (K : Int → Zl → List Zv → Zt → Prop) : sx_ K P [.aload 0, .tableswitch 0 10 3 #[], .tableswitch 0 7 8 #[], .iload 3, .iaload, .ireturn] 75 = x_aload 0 (x_g1 110 107 (x_g1 107 548 (x_iload 3 (x_iaload (x_ireturn P))))) := ((xe_aload 0).trans (congrArg (x_aload 0) ((xe_g1 (kk := 110) rfl tl_10_3).trans (congrArg (x_g1 110 107) ((xe_g1 (kk := 107) rfl tl_7_8).trans (congrArg (x_g1 107 548) ((xe_iload 3).trans (congrArg (x_iload 3) ((xe_iaload).trans (congrArg (x_iaload) (xe_ireturn)))))))))))
abbrev po_X10_parted (T : Zt) (c d k : Int) : Zt → Option Zv → Prop := fun T' r => ∃ x : Int, r = some (vI x) ∧ fr_ [(107, [1, 13]), (542, []), (543, []), (544, []), (545, []), (546, []), (550, []), (551, []), (552, []), (549, []), (547, []), (548, [])] T T' ∧ (0 = (0 : Int))
set_option maxHeartbeats 4000000 in
theorem ct_X10_parted {T : Zt} {c d k : Int} (hka : KA_ T) (hkm : KM_ T) (hkc : KC_ T) (hko : KO_ T) : Ct_ yX10_parted zX10_parted T [vR 110 0, vI c, vI d, vI k] (po_X10_parted T c d k) := by
  refine ct_of (by decide) rfl rfl (Nat.le_of_ble_eq_true rfl) (fun hT hav => ?_)
  have hr_c : -2147483648 ≤ c ∧ c ≤ 2147483647 := hav (vI c) (by simp)
  have hr_d : -2147483648 ≤ d ∧ d ≤ 2147483647 := hav (vI d) (by simp)
  have hr_k : -2147483648 ≤ k ∧ k ≤ 2147483647 := hav (vI k) (by simp)
  have hz : zX10_parted.2.2.2.1 = some .boolean → ∀ (T' : Zt) (x : Int), po_X10_parted T c d k T' (some (vI x)) → 0 ≤ x ∧ x ≤ 1 := fun h => by cases h
  have hcc : 0 ≤ T 106 0 2 ∧ T 106 0 2 ≤ 4 := bd_f hT 106 2 (by decide +kernel : (tf_ 106)[2]? = some (0, 0, 0, 4)) 0
  have hb_clubs : 0 ≤ T 108 0 2 ∧ T 108 0 2 ≤ 12 := bd_f hT 108 2 (by decide +kernel : (tf_ 108)[2]? = some (0, 0, 0, 12)) 0
  show J_ zX10_parted T (po_X10_parted T c d k) 0 0 0 [some (vR 110 0), some (vI c), some (vI d), some (vI k), none] [] T
  refine j_blx (F := fX10) tb_X10 (by decide) bk_X10_parted_0 bs_X10_parted_0 hz (fun K hK => ?_)
  refine hK 2 [some (vR 110 0), some (vI c), some (vI d), some (vI k), none] [vI c, vR 110 0] T ?_
  refine j_callV (y := yX10_isCompetition) (Yc := zX10_isCompetition) (rest := []) [vI c] (ct_X10_isCompetition (T := T)) cl_X10_107 (qd_c (by decide +kernel)) (by decide) rfl (by decide +kernel) (Nat.le_of_ble_eq_true rfl) (by decide) (by decide) rfl ?_
  rintro _ _ ⟨rfl, x1, rfl, hx1⟩
  show J_ zX10_parted T (po_X10_parted T c d k) 0 0 5 [some (vR 110 0), some (vI c), some (vI d), some (vI k), none] [vI x1] T
  refine j_blx (F := fX10) tb_X10 (by decide) bk_X10_parted_5 bs_X10_parted_5 hz (fun K hK => ?_)
  refine And.intro (fun c2 => ?_) (fun c2 => ?_)
  · refine hK 11 [some (vR 110 0), some (vI c), some (vI d), some (vI k), none] [] T ?_
    refine j_blx (F := fX10) tb_X10 (by decide) bk_X10_parted_11 bs_X10_parted_11 hz (fun K hK => ?_)
    refine hK 12 [some (vR 110 0), some (vI c), some (vI d), some (vI k), none] [vI d] T ?_
    refine j_callS (y := yX10_isDay) (Yc := zX10_isDay) (rest := []) [vI d] (ct_X10_isDay (T := T)) cl_X10_140 (qd_c (by decide +kernel)) (by decide) rfl (by decide +kernel) (Nat.le_of_ble_eq_true rfl) (by decide) (by decide) rfl ?_
    rintro _ _ ⟨rfl, x3, rfl, hx3⟩
    show J_ zX10_parted T (po_X10_parted T c d k) 0 0 15 [some (vR 110 0), some (vI c), some (vI d), some (vI k), none] [vI x3] T
    refine j_blx (F := fX10) tb_X10 (by decide) bk_X10_parted_15 bs_X10_parted_15 hz (fun K hK => ?_)
    refine And.intro (fun c4 => ?_) (fun c4 => ?_)
    · refine hK 21 [some (vR 110 0), some (vI c), some (vI d), some (vI k), none] [] T ?_
      refine j_blx (F := fX10) tb_X10 (by decide) bk_X10_parted_21 bs_X10_parted_21 hz (fun K hK => ?_)
      refine ix_i (by omega) ?_
      refine And.intro (fun c5 => ?_) (fun c5 => ?_)
      · exact absurd (show T 521 0 c = 0 by omega) (hka.1 _ (by omega) (by omega))
      · intro b6 b6b
        refine rg_i (by omega) ?_
        refine hK 40 [some (vR 110 0), some (vI c), some (vI d), some (vI k), some (vR 100 c)] [vI ((T 100 c 5) - 1), vI k] T ?_
        refine j_callS (y := yX10_isBelow) (Yc := zX10_isBelow) (rest := []) [vI k, vI ((T 100 c 5) - 1)] (ct_X10_isBelow (T := T)) cl_X10_115 (qd_c (by decide +kernel)) (by decide) rfl (by decide +kernel) (Nat.le_of_ble_eq_true rfl) (by decide) (by decide) rfl ?_
        rintro _ _ ⟨rfl, x7, rfl, hx7⟩
        show J_ zX10_parted T (po_X10_parted T c d k) 0 0 43 [some (vR 110 0), some (vI c), some (vI d), some (vI k), some (vR 100 c)] [vI x7] T
        refine j_blx (F := fX10) tb_X10 (by decide) bk_X10_parted_43 bs_X10_parted_43 hz (fun K hK => ?_)
        refine And.intro (fun c8 => ?_) (fun c8 => ?_)
        · refine hK 48 [some (vR 110 0), some (vI c), some (vI d), some (vI k), some (vR 100 c)] [] T ?_
          refine j_blx (F := fX10) tb_X10 (by decide) bk_X10_parted_48 bs_X10_parted_48 hz (fun K hK => ?_)
          refine hK 55 [some (vR 110 0), some (vI c), some (vI d), some (vI k), some (vR 100 c)] [vI d, vR 100 c, vR 107 0] T ?_
          refine j_callV (y := yX7_tally) (Yc := zX7_tally) (rest := []) [vR 100 c, vI d] (ct_X7_tally (T := T) (hka) (hkc) (by omega)) cl_X10_350 (qd_c (by decide +kernel)) (by decide) rfl (by decide +kernel) (Nat.le_of_ble_eq_true rfl) (by decide) (by decide) rfl ?_
          rintro U9 _ ⟨rfl, fU9, qU9⟩
          show J_ zX10_parted T (po_X10_parted T c d k) 0 0 58 [some (vR 110 0), some (vI c), some (vI d), some (vI k), some (vR 100 c)] [] U9
          refine j_blx (F := fX10) tb_X10 (by decide) bk_X10_parted_58 bs_X10_parted_58 hz (fun K hK => ?_)
          refine hK 62 [some (vR 110 0), some (vI c), some (vI d), some (vI k), some (vR 100 c)] [vR 107 0] U9 ?_
          have e10 : U9 401 c 4 = T 401 c 4 := fU9 401 c 4 rfl
          have y11 := hko c (by omega) (by omega)
          refine j_callV (y := yX7_rank) (Yc := zX7_rank) (rest := []) [] (ct_X7_rank (T := U9) (by omega) (by rw [show U9 107 0 1 - 1 = c by omega]; omega)) cl_X10_353 (qd_c (by decide +kernel)) (by decide) rfl (by decide +kernel) (Nat.le_of_ble_eq_true rfl) (by decide) (by decide) rfl ?_
          rintro U12 _ ⟨rfl, fU12, qU12⟩
          show J_ zX10_parted T (po_X10_parted T c d k) 0 0 65 [some (vR 110 0), some (vI c), some (vI d), some (vI k), some (vR 100 c)] [] U12
          refine j_blx (F := fX10) tb_X10 (by decide) bk_X10_parted_65 bs_X10_parted_65 hz (fun K hK => ?_)
          refine ix_i (by omega) ?_
          intro b13 b13b
          refine (show po_X10_parted T c d k U12 (some (vI (U12 548 0 k))) from ?_)
          exact ⟨_, rfl, fr_t (fr_t (fr_0 _ _) (fr_s fU9 rfl)) (fr_s fU12 rfl), by rfl⟩
        · refine (show po_X10_parted T c d k T (some (vI (-1))) from ?_)
          exact ⟨_, rfl, fr_0 _ _, by rfl⟩
    · refine (show po_X10_parted T c d k T (some (vI (-3))) from ?_)
      exact ⟨_, rfl, fr_0 _ _, by rfl⟩
  · refine (show po_X10_parted T c d k T (some (vI (-2))) from ?_)
    exact ⟨_, rfl, fr_0 _ _, by rfl⟩
abbrev cX10_standing : ByteArray := prog_1_method_30_code
def yX10_standing : MethodName := ⟨RX10, "standing", "(III)I"⟩
def zX10_standing : Zm := (RX10, cX10_standing, 5, (some .int), { frames := 5, cells := 0, slots := 0, locals := 127 })
theorem bk_X10_standing_0 : ck_ fX10 (some .int) cX10_standing 0 [.aload 0, .iload 1] 2 = true := qck_r (by decide) (by decide +kernel)
theorem bs_X10_standing_0 {P : Zt → Option Zv → Prop} (K : Int → Zl → List Zv → Zt → Prop) : sx_ K P [.aload 0, .iload 1] 2 = x_aload 0 (x_iload 1 (K 2)) := ((xe_aload 0).trans (congrArg (x_aload 0) ((xe_iload 1).trans (congrArg (x_iload 1) xe_nil))))
theorem bk_X10_standing_5 : ck_ fX10 (some .int) cX10_standing 5 [.ifCond .ne 11, .iconst (-2), .ireturn] 11 = true := qck_r (by decide) (by decide +kernel)
theorem bs_X10_standing_5 {P : Zt → Option Zv → Prop} (K : Int → Zl → List Zv → Zt → Prop) : sx_ K P [.ifCond .ne 11, .iconst (-2), .ireturn] 11 = x_ifCond .ne 11 K (x_iconst (-2) (x_ireturn P)) := ((xe_ifCond .ne 11).trans (congrArg (x_ifCond .ne 11 K) ((xe_iconst (-2)).trans (congrArg (x_iconst (-2)) (xe_ireturn)))))
theorem bk_X10_standing_11 : ck_ fX10 (some .int) cX10_standing 11 [.iload 2] 12 = true := qck_r (by decide) (by decide +kernel)
theorem bs_X10_standing_11 {P : Zt → Option Zv → Prop} (K : Int → Zl → List Zv → Zt → Prop) : sx_ K P [.iload 2] 12 = x_iload 2 (K 12) := ((xe_iload 2).trans (congrArg (x_iload 2) xe_nil))
theorem bk_X10_standing_15 : ck_ fX10 (some .int) cX10_standing 15 [.ifCond .ne 21, .iconst (-3), .ireturn] 21 = true := qck_r (by decide) (by decide +kernel)
theorem bs_X10_standing_15 {P : Zt → Option Zv → Prop} (K : Int → Zl → List Zv → Zt → Prop) : sx_ K P [.ifCond .ne 21, .iconst (-3), .ireturn] 21 = x_ifCond .ne 21 K (x_iconst (-3) (x_ireturn P)) := ((xe_ifCond .ne 21).trans (congrArg (x_ifCond .ne 21 K) ((xe_iconst (-3)).trans (congrArg (x_iconst (-3)) (xe_ireturn)))))
theorem bk_X10_standing_21 : ck_ fX10 (some .int) cX10_standing 21 [.aload 0, .tableswitch 0 10 2 #[], .tableswitch 0 6 1 #[], .iload 1, .aaload, .astore 4, .iload 3, .aload 4, .tableswitch 0 0 5 #[]] 38 = true := qck_r (by decide) (by decide +kernel)
theorem bs_X10_standing_21 {P : Zt → Option Zv → Prop} (K : Int → Zl → List Zv → Zt → Prop) : sx_ K P [.aload 0, .tableswitch 0 10 2 #[], .tableswitch 0 6 1 #[], .iload 1, .aaload, .astore 4, .iload 3, .aload 4, .tableswitch 0 0 5 #[]] 38 = x_aload 0 (x_g1 110 106 (x_g1 106 521 (x_iload 1 (x_aaload (x_astore 4 (x_iload 3 (x_aload 4 (x_g0 100 5 0 12 (K 38))))))))) := ((xe_aload 0).trans (congrArg (x_aload 0) ((xe_g1 (kk := 110) rfl tl_10_2).trans (congrArg (x_g1 110 106) ((xe_g1 (kk := 106) rfl tl_6_1).trans (congrArg (x_g1 106 521) ((xe_iload 1).trans (congrArg (x_iload 1) ((xe_aaload).trans (congrArg (x_aaload) ((xe_astore 4).trans (congrArg (x_astore 4) ((xe_iload 3).trans (congrArg (x_iload 3) ((xe_aload 4).trans (congrArg (x_aload 4) ((xe_g0 (kk := 100) rfl tl_0_5).trans (congrArg (x_g0 100 5 0 12) xe_nil))))))))))))))))))
theorem bk_X10_standing_41 : ck_ fX10 (some .int) cX10_standing 41 [.ifCond .ne 46, .iconst (-1), .ireturn] 46 = true := qck_r (by decide) (by decide +kernel)
theorem bs_X10_standing_41 {P : Zt → Option Zv → Prop} (K : Int → Zl → List Zv → Zt → Prop) : sx_ K P [.ifCond .ne 46, .iconst (-1), .ireturn] 46 = x_ifCond .ne 46 K (x_iconst (-1) (x_ireturn P)) := ((xe_ifCond .ne 46).trans (congrArg (x_ifCond .ne 46 K) ((xe_iconst (-1)).trans (congrArg (x_iconst (-1)) (xe_ireturn)))))
theorem bk_X10_standing_46 : ck_ fX10 (some .int) cX10_standing 46 [.aload 0, .tableswitch 0 10 3 #[], .aload 4, .iload 2] 53 = true := qck_r (by decide) (by decide +kernel)
theorem bs_X10_standing_46 {P : Zt → Option Zv → Prop} (K : Int → Zl → List Zv → Zt → Prop) : sx_ K P [.aload 0, .tableswitch 0 10 3 #[], .aload 4, .iload 2] 53 = x_aload 0 (x_g1 110 107 (x_aload 4 (x_iload 2 (K 53)))) := ((xe_aload 0).trans (congrArg (x_aload 0) ((xe_g1 (kk := 110) rfl tl_10_3).trans (congrArg (x_g1 110 107) ((xe_aload 4).trans (congrArg (x_aload 4) ((xe_iload 2).trans (congrArg (x_iload 2) xe_nil))))))))
theorem bk_X10_standing_56 : ck_ fX10 (some .int) cX10_standing 56 [.aload 0, .tableswitch 0 10 3 #[]] 60 = true := qck_r (by decide) (by decide +kernel)
theorem bs_X10_standing_56 {P : Zt → Option Zv → Prop} (K : Int → Zl → List Zv → Zt → Prop) : sx_ K P [.aload 0, .tableswitch 0 10 3 #[]] 60 = x_aload 0 (x_g1 110 107 (K 60)) := ((xe_aload 0).trans (congrArg (x_aload 0) ((xe_g1 (kk := 110) rfl tl_10_3).trans (congrArg (x_g1 110 107) xe_nil))))
theorem bk_X10_standing_63 : ck_ fX10 (some .int) cX10_standing 63 [.aload 4, .tableswitch 0 0 3 #[], .aload 0, .tableswitch 0 10 3 #[], .tableswitch 0 7 7 #[], .iload 3, .iaload, .iaload, .ireturn] 79 = true := qck_r (by decide) (by decide +kernel)
theorem bs_X10_standing_63 {P : Zt → Option Zv → Prop} (K : Int → Zl → List Zv → Zt → Prop) : sx_ K P [.aload 4, .tableswitch 0 0 3 #[], .aload 0, .tableswitch 0 10 3 #[], .tableswitch 0 7 7 #[], .iload 3, .iaload, .iaload, .ireturn] 79 = x_aload 4 (x_g2 100 403 (x_aload 0 (x_g1 110 107 (x_g1 107 547 (x_iload 3 (x_iaload (x_iaload (x_ireturn P)))))))) := ((xe_aload 4).trans (congrArg (x_aload 4) ((xe_g2 (kk := 100) rfl tl_0_3).trans (congrArg (x_g2 100 403) ((xe_aload 0).trans (congrArg (x_aload 0) ((xe_g1 (kk := 110) rfl tl_10_3).trans (congrArg (x_g1 110 107) ((xe_g1 (kk := 107) rfl tl_7_7).trans (congrArg (x_g1 107 547) ((xe_iload 3).trans (congrArg (x_iload 3) ((xe_iaload).trans (congrArg (x_iaload) ((xe_iaload).trans (congrArg (x_iaload) (xe_ireturn)))))))))))))))))
abbrev po_X10_standing (T : Zt) (c d k : Int) : Zt → Option Zv → Prop := fun T' r => ∃ x : Int, r = some (vI x) ∧ fr_ [(107, [1, 13]), (542, []), (543, []), (544, []), (545, []), (546, []), (550, []), (551, []), (552, []), (549, []), (547, []), (548, [])] T T' ∧ (0 = (0 : Int))
set_option maxHeartbeats 4000000 in
theorem ct_X10_standing {T : Zt} {c d k : Int} (hka : KA_ T) (hkm : KM_ T) (hkc : KC_ T) (hko : KO_ T) : Ct_ yX10_standing zX10_standing T [vR 110 0, vI c, vI d, vI k] (po_X10_standing T c d k) := by
  refine ct_of (by decide) rfl rfl (Nat.le_of_ble_eq_true rfl) (fun hT hav => ?_)
  have hr_c : -2147483648 ≤ c ∧ c ≤ 2147483647 := hav (vI c) (by simp)
  have hr_d : -2147483648 ≤ d ∧ d ≤ 2147483647 := hav (vI d) (by simp)
  have hr_k : -2147483648 ≤ k ∧ k ≤ 2147483647 := hav (vI k) (by simp)
  have hz : zX10_standing.2.2.2.1 = some .boolean → ∀ (T' : Zt) (x : Int), po_X10_standing T c d k T' (some (vI x)) → 0 ≤ x ∧ x ≤ 1 := fun h => by cases h
  have hcc : 0 ≤ T 106 0 2 ∧ T 106 0 2 ≤ 4 := bd_f hT 106 2 (by decide +kernel : (tf_ 106)[2]? = some (0, 0, 0, 4)) 0
  have hb_clubs : 0 ≤ T 108 0 2 ∧ T 108 0 2 ≤ 12 := bd_f hT 108 2 (by decide +kernel : (tf_ 108)[2]? = some (0, 0, 0, 12)) 0
  show J_ zX10_standing T (po_X10_standing T c d k) 0 0 0 [some (vR 110 0), some (vI c), some (vI d), some (vI k), none] [] T
  refine j_blx (F := fX10) tb_X10 (by decide) bk_X10_standing_0 bs_X10_standing_0 hz (fun K hK => ?_)
  refine hK 2 [some (vR 110 0), some (vI c), some (vI d), some (vI k), none] [vI c, vR 110 0] T ?_
  refine j_callV (y := yX10_isCompetition) (Yc := zX10_isCompetition) (rest := []) [vI c] (ct_X10_isCompetition (T := T)) cl_X10_107 (qd_c (by decide +kernel)) (by decide) rfl (by decide +kernel) (Nat.le_of_ble_eq_true rfl) (by decide) (by decide) rfl ?_
  rintro _ _ ⟨rfl, x1, rfl, hx1⟩
  show J_ zX10_standing T (po_X10_standing T c d k) 0 0 5 [some (vR 110 0), some (vI c), some (vI d), some (vI k), none] [vI x1] T
  refine j_blx (F := fX10) tb_X10 (by decide) bk_X10_standing_5 bs_X10_standing_5 hz (fun K hK => ?_)
  refine And.intro (fun c2 => ?_) (fun c2 => ?_)
  · refine hK 11 [some (vR 110 0), some (vI c), some (vI d), some (vI k), none] [] T ?_
    refine j_blx (F := fX10) tb_X10 (by decide) bk_X10_standing_11 bs_X10_standing_11 hz (fun K hK => ?_)
    refine hK 12 [some (vR 110 0), some (vI c), some (vI d), some (vI k), none] [vI d] T ?_
    refine j_callS (y := yX10_isDay) (Yc := zX10_isDay) (rest := []) [vI d] (ct_X10_isDay (T := T)) cl_X10_140 (qd_c (by decide +kernel)) (by decide) rfl (by decide +kernel) (Nat.le_of_ble_eq_true rfl) (by decide) (by decide) rfl ?_
    rintro _ _ ⟨rfl, x3, rfl, hx3⟩
    show J_ zX10_standing T (po_X10_standing T c d k) 0 0 15 [some (vR 110 0), some (vI c), some (vI d), some (vI k), none] [vI x3] T
    refine j_blx (F := fX10) tb_X10 (by decide) bk_X10_standing_15 bs_X10_standing_15 hz (fun K hK => ?_)
    refine And.intro (fun c4 => ?_) (fun c4 => ?_)
    · refine hK 21 [some (vR 110 0), some (vI c), some (vI d), some (vI k), none] [] T ?_
      refine j_blx (F := fX10) tb_X10 (by decide) bk_X10_standing_21 bs_X10_standing_21 hz (fun K hK => ?_)
      refine ix_i (by omega) ?_
      refine And.intro (fun c5 => ?_) (fun c5 => ?_)
      · exact absurd (show T 521 0 c = 0 by omega) (hka.1 _ (by omega) (by omega))
      · intro b6 b6b
        refine hK 38 [some (vR 110 0), some (vI c), some (vI d), some (vI k), some (vR 100 c)] [vI (T 100 c 5), vI k] T ?_
        refine j_callS (y := yX10_isBelow) (Yc := zX10_isBelow) (rest := []) [vI k, vI (T 100 c 5)] (ct_X10_isBelow (T := T)) cl_X10_115 (qd_c (by decide +kernel)) (by decide) rfl (by decide +kernel) (Nat.le_of_ble_eq_true rfl) (by decide) (by decide) rfl ?_
        rintro _ _ ⟨rfl, x7, rfl, hx7⟩
        show J_ zX10_standing T (po_X10_standing T c d k) 0 0 41 [some (vR 110 0), some (vI c), some (vI d), some (vI k), some (vR 100 c)] [vI x7] T
        refine j_blx (F := fX10) tb_X10 (by decide) bk_X10_standing_41 bs_X10_standing_41 hz (fun K hK => ?_)
        refine And.intro (fun c8 => ?_) (fun c8 => ?_)
        · refine hK 46 [some (vR 110 0), some (vI c), some (vI d), some (vI k), some (vR 100 c)] [] T ?_
          refine j_blx (F := fX10) tb_X10 (by decide) bk_X10_standing_46 bs_X10_standing_46 hz (fun K hK => ?_)
          refine hK 53 [some (vR 110 0), some (vI c), some (vI d), some (vI k), some (vR 100 c)] [vI d, vR 100 c, vR 107 0] T ?_
          refine j_callV (y := yX7_tally) (Yc := zX7_tally) (rest := []) [vR 100 c, vI d] (ct_X7_tally (T := T) (hka) (hkc) (by omega)) cl_X10_350 (qd_c (by decide +kernel)) (by decide) rfl (by decide +kernel) (Nat.le_of_ble_eq_true rfl) (by decide) (by decide) rfl ?_
          rintro U9 _ ⟨rfl, fU9, qU9⟩
          show J_ zX10_standing T (po_X10_standing T c d k) 0 0 56 [some (vR 110 0), some (vI c), some (vI d), some (vI k), some (vR 100 c)] [] U9
          refine j_blx (F := fX10) tb_X10 (by decide) bk_X10_standing_56 bs_X10_standing_56 hz (fun K hK => ?_)
          refine hK 60 [some (vR 110 0), some (vI c), some (vI d), some (vI k), some (vR 100 c)] [vR 107 0] U9 ?_
          have e10 : U9 401 c 4 = T 401 c 4 := fU9 401 c 4 rfl
          have y11 := hko c (by omega) (by omega)
          refine j_callV (y := yX7_rank) (Yc := zX7_rank) (rest := []) [] (ct_X7_rank (T := U9) (by omega) (by rw [show U9 107 0 1 - 1 = c by omega]; omega)) cl_X10_353 (qd_c (by decide +kernel)) (by decide) rfl (by decide +kernel) (Nat.le_of_ble_eq_true rfl) (by decide) (by decide) rfl ?_
          rintro U12 _ ⟨rfl, fU12, qU12⟩
          show J_ zX10_standing T (po_X10_standing T c d k) 0 0 63 [some (vR 110 0), some (vI c), some (vI d), some (vI k), some (vR 100 c)] [] U12
          refine j_blx (F := fX10) tb_X10 (by decide) bk_X10_standing_63 bs_X10_standing_63 hz (fun K hK => ?_)
          refine ix_i (by omega) ?_
          intro b13 b13b
          refine ix_i (by omega) ?_
          intro b14 b14b
          have e15 : U12 403 c (U12 547 0 k) = T 403 c (U12 547 0 k) := (fU12 403 c (U12 547 0 k) rfl).trans (fU9 403 c (U12 547 0 k) rfl)
          rw [e15] at b14 b14b ⊢
          refine (show po_X10_standing T c d k U12 (some (vI (T 403 c (U12 547 0 k)))) from ?_)
          exact ⟨_, rfl, fr_t (fr_t (fr_0 _ _) (fr_s fU9 rfl)) (fr_s fU12 rfl), by rfl⟩
        · refine (show po_X10_standing T c d k T (some (vI (-1))) from ?_)
          exact ⟨_, rfl, fr_0 _ _, by rfl⟩
    · refine (show po_X10_standing T c d k T (some (vI (-3))) from ?_)
      exact ⟨_, rfl, fr_0 _ _, by rfl⟩
  · refine (show po_X10_standing T c d k T (some (vI (-2))) from ?_)
    exact ⟨_, rfl, fr_0 _ _, by rfl⟩

