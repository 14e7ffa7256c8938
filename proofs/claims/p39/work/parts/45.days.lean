abbrev cX6_standAgainst : ByteArray := prog_8_method_8_code
def yX6_standAgainst : MethodName := ⟨RX6, "standAgainst", "(LSportsHouse$Match;LSportsHouse$Match;)Z"⟩
def zX6_standAgainst : Zm := (RX6, cX6_standAgainst, 4, (some .boolean), { frames := 2, cells := 0, slots := 0, locals := 42 })
theorem bk_X6_standAgainst_0 : ck_ fX6 (some .boolean) cX6_standAgainst 0 [.aload 1, .tableswitch 0 2 6 #[], .iconst (-1), .if_icmp .ne 16, .aload 2, .tableswitch 0 2 6 #[], .iconst (-1), .if_icmp .eq 18, .iconst 0, .ireturn] 18 = true := qck_s _ _ _ _ (by decide) rfl (by decide +kernel)
theorem bk_X6_standAgainst_16 : ck_ fX6 (some .boolean) cX6_standAgainst 16 [.iconst 0, .ireturn] 18 = true := qck_s _ _ _ _ (by decide) rfl (by decide +kernel)
theorem bk_X6_standAgainst_18 : ck_ fX6 (some .boolean) cX6_standAgainst 18 [.aload 1, .tableswitch 0 2 5 #[], .aload 2, .tableswitch 0 2 5 #[], .isub] 27 = true := qck_s _ _ _ _ (by decide) rfl (by decide +kernel)
theorem bk_X6_standAgainst_30 : ck_ fX6 (some .boolean) cX6_standAgainst 30 [.istore 3, .iload 3, .ifCond .ne 64, .aload 0, .tableswitch 0 6 0 #[], .tableswitch 0 8 0 #[], .aload 1, .tableswitch 0 2 3 #[], .iaload, .aload 0, .tableswitch 0 6 0 #[], .tableswitch 0 8 0 #[], .aload 2, .tableswitch 0 2 3 #[], .iaload, .if_icmp .ne 64, .iconst 1, .ireturn] 64 = true := qck_s _ _ _ _ (by decide) rfl (by decide +kernel)
theorem bk_X6_standAgainst_64 : ck_ fX6 (some .boolean) cX6_standAgainst 64 [.iload 3, .aload 1] 66 = true := qck_s _ _ _ _ (by decide) rfl (by decide +kernel)
set_option maxRecDepth 100000 in
theorem cl_X6_133 : cv_ RX6 133 yX2_rest zX2_rest 2 0 := ⟨gi_V (lw_b4 96 (by decide +kernel) rfl : Cond.methodLink RX6 133 yX2_rest ∈ lw_g) (lw_b4 97 (by decide +kernel) rfl : Cond.instanceMethod yX2_rest ∈ lw_g) (lw_b4 98 (by decide +kernel) rfl : Cond.selects yX2_rest.cls yX2_rest yX2_rest ∈ lw_g) (lw_b1 16 (by decide +kernel) rfl : Cond.initialized yX2_rest.cls ∈ lw_g) (lw_b4 99 rfl rfl : Cond.code yX2_rest cX2_rest 1 (some .int) ∈ lw_g), ⟨by decide, by decide, by decide +kernel⟩, ⟨_, _, rfl⟩⟩
theorem bk_X6_standAgainst_69 : ck_ fX6 (some .boolean) cX6_standAgainst 69 [.aload 2] 70 = true := qck_s _ _ _ _ (by decide) rfl (by decide +kernel)
theorem bk_X6_standAgainst_76 : ck_ fX6 (some .boolean) cX6_standAgainst 76 [.if_icmp .ge 91, .aload 1, .aload 2] 81 = true := qck_s _ _ _ _ (by decide) rfl (by decide +kernel)
theorem bk_X6_standAgainst_91 : ck_ fX6 (some .boolean) cX6_standAgainst 91 [.iconst 0, .ireturn] 93 = true := qck_s _ _ _ _ (by decide) rfl (by decide +kernel)
set_option maxRecDepth 100000 in
theorem cl_X6_140 : cs_ RX6 140 yX6_shareClub zX6_shareClub 2 := ⟨gi_S (lw_b4 103 (by decide +kernel) rfl : Cond.methodLink RX6 140 yX6_shareClub ∈ lw_g) (lw_b4 104 (by decide +kernel) rfl : Cond.static yX6_shareClub ∈ lw_g) (lw_b1 4 (by decide +kernel) rfl : Cond.initialized yX6_shareClub.cls ∈ lw_g) (lw_b4 105 rfl rfl : Cond.code yX6_shareClub cX6_shareClub 2 (some .boolean) ∈ lw_g), ⟨by decide, by decide, by decide +kernel⟩⟩
theorem bk_X6_standAgainst_84 : ck_ fX6 (some .boolean) cX6_standAgainst 84 [.ifCond .eq 91, .iconst 1, .goto 92] 91 = true := qck_s _ _ _ _ (by decide) rfl (by decide +kernel)
theorem bk_X6_standAgainst_92 : ck_ fX6 (some .boolean) cX6_standAgainst 92 [.ireturn] 93 = true := qck_s _ _ _ _ (by decide) rfl (by decide +kernel)
abbrev cX6_listAgainst : ByteArray := prog_8_method_7_code
def yX6_listAgainst : MethodName := ⟨RX6, "listAgainst", "(LSportsHouse$Match;)I"⟩
def zX6_listAgainst : Zm := (RX6, cX6_listAgainst, 5, (some .int), { frames := 3, cells := 0, slots := 0, locals := 65 })
theorem bk_X6_listAgainst_4 : ck_ fX6 (some .int) cX6_listAgainst 4 [.iload 3, .aload 0, .tableswitch 0 6 4 #[], .if_icmp .ge 64, .aload 0, .tableswitch 0 6 3 #[], .iload 3, .aaload, .astore 4, .iload 3, .aload 1, .tableswitch 0 2 1 #[], .if_icmp .eq 58, .aload 0, .aload 1, .aload 4] 32 = true := qck_s _ _ _ _ (by decide) rfl (by decide +kernel)
theorem bk_X6_listAgainst_64 : ck_ fX6 (some .int) cX6_listAgainst 64 [.iload 2, .ireturn] 66 = true := qck_s _ _ _ _ (by decide) rfl (by decide +kernel)
theorem bk_X6_listAgainst_58 : ck_ fX6 (some .int) cX6_listAgainst 58 [.iinc 3 1, .goto 4] 64 = true := qck_s _ _ _ _ (by decide) rfl (by decide +kernel)
set_option maxRecDepth 100000 in
theorem cl_X6_112 : cv_ RX6 112 yX6_standAgainst zX6_standAgainst 6 2 := ⟨gi_V (lw_b4 89 (by decide +kernel) rfl : Cond.methodLink RX6 112 yX6_standAgainst ∈ lw_g) (lw_b4 91 (by decide +kernel) rfl : Cond.instanceMethod yX6_standAgainst ∈ lw_g) (lw_sel 126 rfl : Cond.selects yX6_standAgainst.cls yX6_standAgainst yX6_standAgainst ∈ lw_g) (lw_b1 4 (by decide +kernel) rfl : Cond.initialized yX6_standAgainst.cls ∈ lw_g) (lw_b4 92 rfl rfl : Cond.code yX6_standAgainst cX6_standAgainst 4 (some .boolean) ∈ lw_g), ⟨by decide, by decide, by decide +kernel⟩, ⟨_, _, rfl⟩⟩
theorem bk_X6_listAgainst_35 : ck_ fX6 (some .int) cX6_listAgainst 35 [.ifCond .eq 58, .aload 4] 40 = true := qck_s _ _ _ _ (by decide) rfl (by decide +kernel)
set_option maxRecDepth 100000 in
theorem cl_X6_116 : cv_ RX6 116 yX2_phaseOfLife zX2_phaseOfLife 2 0 := ⟨gi_V (lw_b4 106 (by decide +kernel) rfl : Cond.methodLink RX6 116 yX2_phaseOfLife ∈ lw_g) (lw_b4 58 (by decide +kernel) rfl : Cond.instanceMethod yX2_phaseOfLife ∈ lw_g) (lw_b4 59 (by decide +kernel) rfl : Cond.selects yX2_phaseOfLife.cls yX2_phaseOfLife yX2_phaseOfLife ∈ lw_g) (lw_b1 16 (by decide +kernel) rfl : Cond.initialized yX2_phaseOfLife.cls ∈ lw_g) (lw_b4 60 rfl rfl : Cond.code yX2_phaseOfLife cX2_phaseOfLife 1 (some .int) ∈ lw_g), ⟨by decide, by decide, by decide +kernel⟩, ⟨_, _, rfl⟩⟩
theorem bk_X6_listAgainst_43 : ck_ fX6 (some .int) cX6_listAgainst 43 [.ifCond .eq 48, .iconst (-1), .ireturn] 48 = true := qck_s _ _ _ _ (by decide) rfl (by decide +kernel)
theorem bk_X6_listAgainst_48 : ck_ fX6 (some .int) cX6_listAgainst 48 [.aload 0, .tableswitch 0 6 13 #[], .iload 2, .iload 3, .iastore, .iinc 2 1, .iinc 3 1, .goto 4] 64 = true := qck_s _ _ _ _ (by decide) rfl (by decide +kernel)
theorem bk_X6_listAgainst_0 : ck_ fX6 (some .int) cX6_listAgainst 0 [.iconst 0, .istore 2, .iconst 0, .istore 3] 4 = true := qck_s _ _ _ _ (by decide) rfl (by decide +kernel)
abbrev po_J7_fill_535 (T : Zt) (p : Int) (v : Int) : Zt → Option Zv → Prop := fun T' r => r = none ∧ fr_ [(535, [])] T T' ∧ oi_ T T' p ∧ ∀ j, 0 ≤ j → j < 1000 → T' 535 p j = v
set_option maxHeartbeats 4000000 in
theorem ct_J7_fill_535 {T : Zt} {p : Int} {v : Int} (h1 : 0 ≤ v ∧ v ≤ 1) : Ct_ yJ7_fill_53178 zJ7_fill_53178 T [vR 535 p, vI v] (po_J7_fill_535 T p v) := by
  refine ct_of (by decide) rfl rfl (Nat.le_of_ble_eq_true rfl) (fun hT hav => ?_)
  have hr_v : -2147483648 ≤ v ∧ v ≤ 2147483647 := hav (vI v) (by simp)
  have hz : zJ7_fill_53178.2.2.2.1 = some .boolean → ∀ (T' : Zt) (x : Int), po_J7_fill_535 T p v T' (some (vI x)) → 0 ≤ x ∧ x ≤ 1 := fun h => by cases h
  show J_ zJ7_fill_53178 T (po_J7_fill_535 T p v) 0 0 0 [some (vR 535 p), some (vI v), none, none] [] T
  have c_5 : ∀ (nn : Nat) (j : Int) (T1 : Zt), ((1000 - j).toNat) ≤ nn → (fr_ [(535, [])] T T1) → (0 ≤ j ∧ j ≤ 1000) → (oi_ T T1 p) → (∀ q, 0 ≤ q → q < j → T1 535 p q = v) → J_ zJ7_fill_53178 T (po_J7_fill_535 T p v) 0 0 5 [some (vR 535 p), some (vI v), some (vI j), some (vI 1000)] [] T1 := by
    intro nn
    induction nn using Nat.strongRecOn with
    | _ nn ih_5 =>
      intro j T1 hm_5 hf_5 i1 o1 f1
      refine j_blk (F := fJ7) tb_J7 (by decide) bk_J7_fill_53178_5 hz (fun K hK => ?_)
      refine And.intro (fun c1 => ?_) (fun c1 => ?_)
      · refine hK 20 [some (vR 535 p), some (vI v), some (vI j), some (vI 1000)] [] T1 ?_
        refine j_blk (F := fJ7) tb_J7 (by decide) bk_J7_fill_53178_20 hz (fun K hK => ?_)
        refine (show po_J7_fill_535 T p v T1 (none) from ?_)
        exact ⟨rfl, fr_t (fr_0 _ _) (fr_s hf_5 rfl), o1, fun q a b => f1 q a (by omega)⟩
      · refine iy_i (by omega) (by omega) ?_
        refine sx_nm (fun U2 hU2 => ?_)
        have e3 := up_f hU2
        refine rg_i (by omega) ?_
        refine hK 5 [some (vR 535 p), some (vI v), some (vI (j + 1)), some (vI 1000)] [] U2 ?_
        refine ih_5 _ ?_ (j + 1) U2 (Nat.le_refl _) ?_ ?_ ?_ ?_
        · omega
        · exact fr_u (fr_t (fr_0 _ _) (fr_s hf_5 rfl)) hU2 rfl
        · omega
        · exact oi_u o1 hU2
        · intro q a b
          by_cases z : q = j
          · rw [z]; exact up_f hU2
          · rw [up_g hU2 (fun y => z y.2.2)]; exact f1 q a (by omega)
  refine j_blk (F := fJ7) tb_J7 (by decide) bk_J7_fill_53178_0 hz (fun K hK => ?_)
  refine hK 5 [some (vR 535 p), some (vI v), some (vI 0), some (vI 1000)] [] T ?_
  refine c_5 _ 0 T (Nat.le_refl _) ?_ ?_ ?_ ?_
  · exact fr_0 _ _
  · omega
  · exact oi_r
  · intro q a b; omega
abbrev cX6_blockDays : ByteArray := prog_8_method_11_code
def yX6_blockDays : MethodName := ⟨RX6, "blockDays", "(LSportsHouse$Match;)V"⟩
def zX6_blockDays : Zm := (RX6, cX6_blockDays, 7, none, { frames := 2, cells := 0, slots := 0, locals := 42 })
theorem bk_X6_blockDays_132 : ck_ fX6 none cX6_blockDays 132 [.iload 6, .iload 5, .if_icmp .gt 153, .aload 0, .tableswitch 0 6 15 #[], .iload 6, .iconst 1, .iastore, .iinc 6 1, .goto 132] 153 = true := qck_s _ _ _ _ (by decide) rfl (by decide +kernel)
theorem bk_X6_blockDays_153 : ck_ fX6 none cX6_blockDays 153 [.iinc 2 1, .goto 10] 159 = true := qck_s _ _ _ _ (by decide) rfl (by decide +kernel)
theorem bk_X6_blockDays_10 : ck_ fX6 none cX6_blockDays 10 [.iload 2, .aload 0, .tableswitch 0 6 4 #[], .if_icmp .ge 159, .aload 0, .tableswitch 0 6 3 #[], .iload 2, .aaload, .astore 3, .iload 2, .aload 1, .tableswitch 0 2 1 #[], .if_icmp .eq 153, .aload 3, .tableswitch 0 2 6 #[], .iconst (-1), .if_icmp .eq 44, .goto 153] 44 = true := qck_s _ _ _ _ (by decide) rfl (by decide +kernel)
theorem bk_X6_blockDays_159 : ck_ fX6 none cX6_blockDays 159 [.return_] 160 = true := qck_s _ _ _ _ (by decide) rfl (by decide +kernel)
theorem bk_X6_blockDays_44 : ck_ fX6 none cX6_blockDays 44 [.aload 0, .tableswitch 0 6 0 #[], .tableswitch 0 8 0 #[], .aload 1, .tableswitch 0 2 3 #[], .iaload, .aload 0, .tableswitch 0 6 0 #[], .tableswitch 0 8 0 #[], .aload 3, .tableswitch 0 2 3 #[], .iaload, .if_icmp .ne 81, .aload 0, .tableswitch 0 6 15 #[], .aload 3, .tableswitch 0 2 5 #[], .iconst 1, .iastore, .aload 1, .aload 3] 83 = true := qck_s _ _ _ _ (by decide) rfl (by decide +kernel)
theorem bk_X6_blockDays_81 : ck_ fX6 none cX6_blockDays 81 [.aload 1, .aload 3] 83 = true := qck_s _ _ _ _ (by decide) rfl (by decide +kernel)
theorem bk_X6_blockDays_86 : ck_ fX6 none cX6_blockDays 86 [.ifCond .eq 153, .aload 1] 90 = true := qck_s _ _ _ _ (by decide) rfl (by decide +kernel)
theorem bk_X6_blockDays_93 : ck_ fX6 none cX6_blockDays 93 [.aload 3] 94 = true := qck_s _ _ _ _ (by decide) rfl (by decide +kernel)
theorem bk_X6_blockDays_100 : ck_ fX6 none cX6_blockDays 100 [.iconst 1, .isub, .istore 4, .iconst 999, .aload 3, .tableswitch 0 2 5 #[], .iload 4, .iadd] 114 = true := qck_s _ _ _ _ (by decide) rfl (by decide +kernel)
theorem bk_X6_blockDays_117 : ck_ fX6 none cX6_blockDays 117 [.istore 5, .iconst 0, .aload 3, .tableswitch 0 2 5 #[], .iload 4, .isub] 127 = true := qck_s _ _ _ _ (by decide) rfl (by decide +kernel)
theorem bk_X6_blockDays_130 : ck_ fX6 none cX6_blockDays 130 [.istore 6] 132 = true := qck_s _ _ _ _ (by decide) rfl (by decide +kernel)
theorem bk_X6_blockDays_0 : ck_ fX6 none cX6_blockDays 0 [.aload 0, .tableswitch 0 6 15 #[], .iconst 0] 5 = true := qck_s _ _ _ _ (by decide) rfl (by decide +kernel)
set_option maxRecDepth 100000 in
theorem cl_X6_150 : cs_ RX6 150 yJ7_fill_53178 zJ7_fill_53178 2 := ⟨gi_S (lw_b4 115 (by decide +kernel) rfl : Cond.methodLink RX6 150 yJ7_fill_53178 ∈ lw_g) (lw_b2 26 (by decide +kernel) rfl : Cond.static yJ7_fill_53178 ∈ lw_g) (lw_b1 7 (by decide +kernel) rfl : Cond.initialized yJ7_fill_53178.cls ∈ lw_g) (lw_b2 27 rfl rfl : Cond.code yJ7_fill_53178 cJ7_fill_53178 4 none ∈ lw_g), ⟨by decide, by decide, by decide +kernel⟩⟩
theorem bk_X6_blockDays_8 : ck_ fX6 none cX6_blockDays 8 [.iconst 0, .istore 2] 10 = true := qck_s _ _ _ _ (by decide) rfl (by decide +kernel)
abbrev cX6_goBehind : ByteArray := prog_8_method_10_code
def yX6_goBehind : MethodName := ⟨RX6, "goBehind", "(LSportsHouse$Match;II)Z"⟩
def zX6_goBehind : Zm := (RX6, cX6_goBehind, 5, (some .boolean), { frames := 3, cells := 0, slots := 0, locals := 68 })
theorem bk_X6_goBehind_10 : ck_ fX6 (some .boolean) cX6_goBehind 10 [.iload 4, .iconst 999, .if_icmp .gt 52, .aload 0, .tableswitch 0 6 15 #[], .iload 4, .iaload, .ifCond .ne 46, .aload 0, .tableswitch 0 6 14 #[], .iload 3, .aload 1, .tableswitch 0 2 5 #[], .iastore, .aload 1, .iload 4, .tableswitch 1 2 5 #[], .iconst 1, .ireturn] 46 = true := qck_s _ _ _ _ (by decide) rfl (by decide +kernel)
theorem bk_X6_goBehind_52 : ck_ fX6 (some .boolean) cX6_goBehind 52 [.iconst 0, .ireturn] 54 = true := qck_s _ _ _ _ (by decide) rfl (by decide +kernel)
theorem bk_X6_goBehind_46 : ck_ fX6 (some .boolean) cX6_goBehind 46 [.iinc 4 1, .goto 10] 52 = true := qck_s _ _ _ _ (by decide) rfl (by decide +kernel)
theorem bk_X6_goBehind_0 : ck_ fX6 (some .boolean) cX6_goBehind 0 [.aload 0, .aload 1] 2 = true := qck_s _ _ _ _ (by decide) rfl (by decide +kernel)
set_option maxRecDepth 100000 in
theorem cl_X6_146 : cv_ RX6 146 yX6_blockDays zX6_blockDays 6 1 := ⟨gi_V (lw_b4 111 (by decide +kernel) rfl : Cond.methodLink RX6 146 yX6_blockDays ∈ lw_g) (lw_b4 113 (by decide +kernel) rfl : Cond.instanceMethod yX6_blockDays ∈ lw_g) (lw_sel 121 rfl : Cond.selects yX6_blockDays.cls yX6_blockDays yX6_blockDays ∈ lw_g) (lw_b1 4 (by decide +kernel) rfl : Cond.initialized yX6_blockDays.cls ∈ lw_g) (lw_b4 114 rfl rfl : Cond.code yX6_blockDays cX6_blockDays 7 none ∈ lw_g), ⟨by decide, by decide, by decide +kernel⟩, ⟨_, _, rfl⟩⟩
theorem bk_X6_goBehind_5 : ck_ fX6 (some .boolean) cX6_goBehind 5 [.iload 2, .iconst 1, .iadd, .istore 4] 10 = true := qck_s _ _ _ _ (by decide) rfl (by decide +kernel)
abbrev cX6_putOff : ByteArray := prog_8_method_6_code
def yX6_putOff : MethodName := ⟨RX6, "putOff", "(LSportsHouse$Match;I)I"⟩
def zX6_putOff : Zm := (RX6, cX6_putOff, 7, (some .int), { frames := 4, cells := 0, slots := 0, locals := 92 })
theorem bk_X6_putOff_71 : ck_ fX6 (some .int) cX6_putOff 71 [.iload 6, .iload 5, .if_icmp .ge 106, .aload 0, .tableswitch 0 6 3 #[], .aload 0, .tableswitch 0 6 13 #[], .iload 6, .iaload, .aaload, .aload 0, .tableswitch 0 6 14 #[], .iload 6, .iaload, .tableswitch 1 2 5 #[], .iinc 6 1, .goto 71] 106 = true := qck_s _ _ _ _ (by decide) rfl (by decide +kernel)
theorem bk_X6_putOff_106 : ck_ fX6 (some .int) cX6_putOff 106 [.aload 1, .iload 3, .tableswitch 1 2 5 #[], .iconst (-4), .ireturn] 114 = true := qck_s _ _ _ _ (by decide) rfl (by decide +kernel)
theorem bk_X6_putOff_117 : ck_ fX6 (some .int) cX6_putOff 117 [.iload 6, .iload 4, .if_icmp .ge 144, .aload 0, .tableswitch 0 6 11 #[], .iload 6, .aload 0, .tableswitch 0 6 13 #[], .iload 6, .iaload, .iastore, .iinc 6 1, .goto 117] 144 = true := qck_s _ _ _ _ (by decide) rfl (by decide +kernel)
theorem bk_X6_putOff_144 : ck_ fX6 (some .int) cX6_putOff 144 [.aload 0, .iload 4, .tableswitch 1 6 12 #[], .iload 4, .ireturn] 153 = true := qck_s _ _ _ _ (by decide) rfl (by decide +kernel)
theorem bk_X6_putOff_20 : ck_ fX6 (some .int) cX6_putOff 20 [.iload 5, .iload 4, .if_icmp .ge 55, .aload 0, .aload 0, .tableswitch 0 6 3 #[], .aload 0, .tableswitch 0 6 13 #[], .iload 5, .iaload, .aaload, .iload 2, .iload 5] 43 = true := qck_s _ _ _ _ (by decide) rfl (by decide +kernel)
theorem bk_X6_putOff_55 : ck_ fX6 (some .int) cX6_putOff 55 [.iload 4, .iconst (-1), .if_icmp .eq 68, .iload 5, .iload 4, .if_icmp .ge 114, .iconst 0, .istore 6] 71 = true := qck_s _ _ _ _ (by decide) rfl (by decide +kernel)
theorem bk_X6_putOff_68 : ck_ fX6 (some .int) cX6_putOff 68 [.iconst 0, .istore 6] 71 = true := qck_s _ _ _ _ (by decide) rfl (by decide +kernel)
theorem bk_X6_putOff_114 : ck_ fX6 (some .int) cX6_putOff 114 [.iconst 0, .istore 6] 117 = true := qck_s _ _ _ _ (by decide) rfl (by decide +kernel)
set_option maxRecDepth 100000 in
theorem cl_X6_102 : cv_ RX6 102 yX6_goBehind zX6_goBehind 6 3 := ⟨gi_V (lw_b4 107 (by decide +kernel) rfl : Cond.methodLink RX6 102 yX6_goBehind ∈ lw_g) (lw_b4 109 (by decide +kernel) rfl : Cond.instanceMethod yX6_goBehind ∈ lw_g) (lw_sel 122 rfl : Cond.selects yX6_goBehind.cls yX6_goBehind yX6_goBehind ∈ lw_g) (lw_b1 4 (by decide +kernel) rfl : Cond.initialized yX6_goBehind.cls ∈ lw_g) (lw_b4 110 rfl rfl : Cond.code yX6_goBehind cX6_goBehind 5 (some .boolean) ∈ lw_g), ⟨by decide, by decide, by decide +kernel⟩, ⟨_, _, rfl⟩⟩
theorem bk_X6_putOff_46 : ck_ fX6 (some .int) cX6_putOff 46 [.ifCond .eq 55, .iinc 5 1, .goto 20] 55 = true := qck_s _ _ _ _ (by decide) rfl (by decide +kernel)
theorem bk_X6_putOff_0 : ck_ fX6 (some .int) cX6_putOff 0 [.aload 1, .tableswitch 0 2 5 #[], .istore 3, .aload 1, .iload 2, .tableswitch 1 2 5 #[], .aload 0, .aload 1] 12 = true := qck_s _ _ _ _ (by decide) rfl (by decide +kernel)
set_option maxRecDepth 100000 in
theorem cl_X6_98 : cv_ RX6 98 yX6_listAgainst zX6_listAgainst 6 1 := ⟨gi_V (lw_b4 85 (by decide +kernel) rfl : Cond.methodLink RX6 98 yX6_listAgainst ∈ lw_g) (lw_b4 87 (by decide +kernel) rfl : Cond.instanceMethod yX6_listAgainst ∈ lw_g) (lw_sel 124 rfl : Cond.selects yX6_listAgainst.cls yX6_listAgainst yX6_listAgainst ∈ lw_g) (lw_b1 4 (by decide +kernel) rfl : Cond.initialized yX6_listAgainst.cls ∈ lw_g) (lw_b4 88 rfl rfl : Cond.code yX6_listAgainst cX6_listAgainst 5 (some .int) ∈ lw_g), ⟨by decide, by decide, by decide +kernel⟩, ⟨_, _, rfl⟩⟩
theorem bk_X6_putOff_15 : ck_ fX6 (some .int) cX6_putOff 15 [.istore 4, .iconst 0, .istore 5] 20 = true := qck_s _ _ _ _ (by decide) rfl (by decide +kernel)
abbrev cX10_postpone : ByteArray := prog_1_method_16_code
def yX10_postpone : MethodName := ⟨RX10, "postpone", "(II)I"⟩
def zX10_postpone : Zm := (RX10, cX10_postpone, 4, (some .int), { frames := 5, cells := 0, slots := 0, locals := 118 })
theorem bk_X10_postpone_0 : ck_ fX10 (some .int) cX10_postpone 0 [.aload 0, .iload 1] 2 = true := qck_s _ _ _ _ (by decide) rfl (by decide +kernel)
theorem bk_X10_postpone_5 : ck_ fX10 (some .int) cX10_postpone 5 [.ifCond .ne 11, .iconst (-2), .ireturn] 11 = true := qck_s _ _ _ _ (by decide) rfl (by decide +kernel)
theorem bk_X10_postpone_11 : ck_ fX10 (some .int) cX10_postpone 11 [.iload 2] 12 = true := qck_s _ _ _ _ (by decide) rfl (by decide +kernel)
theorem bk_X10_postpone_15 : ck_ fX10 (some .int) cX10_postpone 15 [.ifCond .eq 29, .iload 2, .aload 0, .tableswitch 0 10 1 #[], .tableswitch 0 8 13 #[], .if_icmp .gt 32, .iconst (-3), .ireturn] 32 = true := qck_s _ _ _ _ (by decide) rfl (by decide +kernel)
theorem bk_X10_postpone_29 : ck_ fX10 (some .int) cX10_postpone 29 [.iconst (-3), .ireturn] 32 = true := qck_s _ _ _ _ (by decide) rfl (by decide +kernel)
theorem bk_X10_postpone_32 : ck_ fX10 (some .int) cX10_postpone 32 [.aload 0, .tableswitch 0 10 2 #[], .tableswitch 0 6 3 #[], .iload 1, .aaload, .astore 3, .aload 3] 43 = true := qck_s _ _ _ _ (by decide) rfl (by decide +kernel)
theorem bk_X10_postpone_46 : ck_ fX10 (some .int) cX10_postpone 46 [.ifCond .ne 57, .aload 3, .tableswitch 0 2 5 #[], .iload 2, .if_icmp .ne 60, .iconst (-4), .ireturn] 60 = true := qck_s _ _ _ _ (by decide) rfl (by decide +kernel)
theorem bk_X10_postpone_57 : ck_ fX10 (some .int) cX10_postpone 57 [.iconst (-4), .ireturn] 60 = true := qck_s _ _ _ _ (by decide) rfl (by decide +kernel)
theorem bk_X10_postpone_60 : ck_ fX10 (some .int) cX10_postpone 60 [.aload 0, .tableswitch 0 10 2 #[], .aload 3, .iload 2] 66 = true := qck_s _ _ _ _ (by decide) rfl (by decide +kernel)
set_option maxRecDepth 100000 in
theorem cl_X10_234 : cv_ RX10 234 yX6_putOff zX6_putOff 6 2 := ⟨gi_V (lw_b4 81 (by decide +kernel) rfl : Cond.methodLink RX10 234 yX6_putOff ∈ lw_g) (lw_b4 82 (by decide +kernel) rfl : Cond.instanceMethod yX6_putOff ∈ lw_g) (lw_b4 83 (by decide +kernel) rfl : Cond.selects yX6_putOff.cls yX6_putOff yX6_putOff ∈ lw_g) (lw_b1 4 (by decide +kernel) rfl : Cond.initialized yX6_putOff.cls ∈ lw_g) (lw_b4 84 rfl rfl : Cond.code yX6_putOff cX6_putOff 7 (some .int) ∈ lw_g), ⟨by decide, by decide, by decide +kernel⟩, ⟨_, _, rfl⟩⟩
theorem bk_X10_postpone_69 : ck_ fX10 (some .int) cX10_postpone 69 [.ireturn] 70 = true := qck_s _ _ _ _ (by decide) rfl (by decide +kernel)
