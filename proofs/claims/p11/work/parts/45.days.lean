abbrev cX6_standAgainst : ByteArray := prog_8_method_8_code
def yX6_standAgainst : MethodName := ⟨RX6, "standAgainst", "(LSportsHouse$Match;LSportsHouse$Match;)Z"⟩
def zX6_standAgainst : Zm := (RX6, cX6_standAgainst, 4, (some .boolean), { frames := 2, cells := 0, slots := 0, locals := 42 })
theorem bk_X6_standAgainst_0 : ck_ fX6 (some .boolean) cX6_standAgainst 0 [.aload 1, .tableswitch 0 2 6 #[], .iconst (-1), .if_icmp .ne 16, .aload 2, .tableswitch 0 2 6 #[], .iconst (-1), .if_icmp .eq 18, .iconst 0, .ireturn] 18 = true := qck_r (nn_ _) (by decide +kernel)
theorem bs_X6_standAgainst_0 {P : Zt → Option Zv → Prop} (K : Int → Zl → List Zv → Zt → Prop) : sx_ K P [.aload 1, .tableswitch 0 2 6 #[], .iconst (-1), .if_icmp .ne 16, .aload 2, .tableswitch 0 2 6 #[], .iconst (-1), .if_icmp .eq 18, .iconst 0, .ireturn] 18 = x_aload 1 (x_g0 102 6 (-1) 1 (x_iconst (-1) (x_if_icmp .ne 16 K (x_aload 2 (x_g0 102 6 (-1) 1 (x_iconst (-1) (x_if_icmp .eq 18 K (x_iconst 0 (x_ireturn P))))))))) := ((xe_aload 1).trans (congrArg (x_aload 1) ((xe_g0 (kk := 102) rfl tl_2_6).trans (congrArg (x_g0 102 6 (-1) 1) ((xe_iconst (-1)).trans (congrArg (x_iconst (-1)) ((xe_if_icmp .ne 16).trans (congrArg (x_if_icmp .ne 16 K) ((xe_aload 2).trans (congrArg (x_aload 2) ((xe_g0 (kk := 102) rfl tl_2_6).trans (congrArg (x_g0 102 6 (-1) 1) ((xe_iconst (-1)).trans (congrArg (x_iconst (-1)) ((xe_if_icmp .eq 18).trans (congrArg (x_if_icmp .eq 18 K) ((xe_iconst 0).trans (congrArg (x_iconst 0) (xe_ireturn)))))))))))))))))))
theorem bk_X6_standAgainst_16 : ck_ fX6 (some .boolean) cX6_standAgainst 16 [.iconst 0, .ireturn] 18 = true := qck_r (nn_ _) (by decide +kernel)
theorem bs_X6_standAgainst_16 {P : Zt → Option Zv → Prop} (K : Int → Zl → List Zv → Zt → Prop) : sx_ K P [.iconst 0, .ireturn] 18 = x_iconst 0 (x_ireturn P) := ((xe_iconst 0).trans (congrArg (x_iconst 0) (xe_ireturn)))
theorem bk_X6_standAgainst_18 : ck_ fX6 (some .boolean) cX6_standAgainst 18 [.aload 1, .tableswitch 0 2 5 #[], .aload 2, .tableswitch 0 2 5 #[], .isub] 27 = true := qck_r (nn_ _) (by decide +kernel)
theorem bs_X6_standAgainst_18 {P : Zt → Option Zv → Prop} (K : Int → Zl → List Zv → Zt → Prop) : sx_ K P [.aload 1, .tableswitch 0 2 5 #[], .aload 2, .tableswitch 0 2 5 #[], .isub] 27 = x_aload 1 (x_g0 102 5 0 999 (x_aload 2 (x_g0 102 5 0 999 (x_isub (K 27))))) := ((xe_aload 1).trans (congrArg (x_aload 1) ((xe_g0 (kk := 102) rfl tl_2_5).trans (congrArg (x_g0 102 5 0 999) ((xe_aload 2).trans (congrArg (x_aload 2) ((xe_g0 (kk := 102) rfl tl_2_5).trans (congrArg (x_g0 102 5 0 999) ((xe_isub).trans (congrArg (x_isub) xe_nil))))))))))
theorem bk_X6_standAgainst_30 : ck_ fX6 (some .boolean) cX6_standAgainst 30 [.istore 3, .iload 3, .ifCond .ne 64, .aload 0, .tableswitch 0 6 0 #[], .tableswitch 0 8 0 #[], .aload 1, .tableswitch 0 2 3 #[], .iaload, .aload 0, .tableswitch 0 6 0 #[], .tableswitch 0 8 0 #[], .aload 2, .tableswitch 0 2 3 #[], .iaload, .if_icmp .ne 64, .iconst 1, .ireturn] 64 = true := qck_r (nn_ _) (by decide +kernel)
theorem bs_X6_standAgainst_30 {P : Zt → Option Zv → Prop} (K : Int → Zl → List Zv → Zt → Prop) : sx_ K P [.istore 3, .iload 3, .ifCond .ne 64, .aload 0, .tableswitch 0 6 0 #[], .tableswitch 0 8 0 #[], .aload 1, .tableswitch 0 2 3 #[], .iaload, .aload 0, .tableswitch 0 6 0 #[], .tableswitch 0 8 0 #[], .aload 2, .tableswitch 0 2 3 #[], .iaload, .if_icmp .ne 64, .iconst 1, .ireturn] 64 = x_istore 3 (x_iload 3 (x_ifCond .ne 64 K (x_aload 0 (x_g1 106 108 (x_g1 108 560 (x_aload 1 (x_g0 102 3 0 11 (x_iaload (x_aload 0 (x_g1 106 108 (x_g1 108 560 (x_aload 2 (x_g0 102 3 0 11 (x_iaload (x_if_icmp .ne 64 K (x_iconst 1 (x_ireturn P))))))))))))))))) := ((xe_istore 3).trans (congrArg (x_istore 3) ((xe_iload 3).trans (congrArg (x_iload 3) ((xe_ifCond .ne 64).trans (congrArg (x_ifCond .ne 64 K) ((xe_aload 0).trans (congrArg (x_aload 0) ((xe_g1 (kk := 106) rfl tl_6_0).trans (congrArg (x_g1 106 108) ((xe_g1 (kk := 108) rfl tl_8_0).trans (congrArg (x_g1 108 560) ((xe_aload 1).trans (congrArg (x_aload 1) ((xe_g0 (kk := 102) rfl tl_2_3).trans (congrArg (x_g0 102 3 0 11) ((xe_iaload).trans (congrArg (x_iaload) ((xe_aload 0).trans (congrArg (x_aload 0) ((xe_g1 (kk := 106) rfl tl_6_0).trans (congrArg (x_g1 106 108) ((xe_g1 (kk := 108) rfl tl_8_0).trans (congrArg (x_g1 108 560) ((xe_aload 2).trans (congrArg (x_aload 2) ((xe_g0 (kk := 102) rfl tl_2_3).trans (congrArg (x_g0 102 3 0 11) ((xe_iaload).trans (congrArg (x_iaload) ((xe_if_icmp .ne 64).trans (congrArg (x_if_icmp .ne 64 K) ((xe_iconst 1).trans (congrArg (x_iconst 1) (xe_ireturn)))))))))))))))))))))))))))))))))))
theorem bk_X6_standAgainst_64 : ck_ fX6 (some .boolean) cX6_standAgainst 64 [.iload 3, .aload 1] 66 = true := qck_r (nn_ _) (by decide +kernel)
theorem bs_X6_standAgainst_64 {P : Zt → Option Zv → Prop} (K : Int → Zl → List Zv → Zt → Prop) : sx_ K P [.iload 3, .aload 1] 66 = x_iload 3 (x_aload 1 (K 66)) := ((xe_iload 3).trans (congrArg (x_iload 3) ((xe_aload 1).trans (congrArg (x_aload 1) xe_nil))))
set_option maxRecDepth 100000 in
theorem cl_X6_133 : cv_ RX6 133 yX2_rest zX2_rest 2 0 := ⟨gi_V (lw_b4 96 (by decide +kernel) rfl : Cond.methodLink RX6 133 yX2_rest ∈ lw_g) (lw_b4 97 (by decide +kernel) rfl : Cond.instanceMethod yX2_rest ∈ lw_g) (lw_b4 98 (by decide +kernel) rfl : Cond.selects yX2_rest.cls yX2_rest yX2_rest ∈ lw_g) (lw_b1 16 (by decide +kernel) rfl : Cond.initialized yX2_rest.cls ∈ lw_g) (lw_b4 99 rfl rfl : Cond.code yX2_rest cX2_rest 1 (some .int) ∈ lw_g), ⟨by decide, by decide, by decide +kernel⟩, ⟨_, _, rfl⟩⟩
theorem bk_X6_standAgainst_69 : ck_ fX6 (some .boolean) cX6_standAgainst 69 [.aload 2] 70 = true := qck_r (nn_ _) (by decide +kernel)
theorem bs_X6_standAgainst_69 {P : Zt → Option Zv → Prop} (K : Int → Zl → List Zv → Zt → Prop) : sx_ K P [.aload 2] 70 = x_aload 2 (K 70) := ((xe_aload 2).trans (congrArg (x_aload 2) xe_nil))
theorem bk_X6_standAgainst_76 : ck_ fX6 (some .boolean) cX6_standAgainst 76 [.if_icmp .ge 91, .aload 1, .aload 2] 81 = true := qck_r (nn_ _) (by decide +kernel)
theorem bs_X6_standAgainst_76 {P : Zt → Option Zv → Prop} (K : Int → Zl → List Zv → Zt → Prop) : sx_ K P [.if_icmp .ge 91, .aload 1, .aload 2] 81 = x_if_icmp .ge 91 K (x_aload 1 (x_aload 2 (K 81))) := ((xe_if_icmp .ge 91).trans (congrArg (x_if_icmp .ge 91 K) ((xe_aload 1).trans (congrArg (x_aload 1) ((xe_aload 2).trans (congrArg (x_aload 2) xe_nil))))))
theorem bk_X6_standAgainst_91 : ck_ fX6 (some .boolean) cX6_standAgainst 91 [.iconst 0, .ireturn] 93 = true := qck_r (nn_ _) (by decide +kernel)
theorem bs_X6_standAgainst_91 {P : Zt → Option Zv → Prop} (K : Int → Zl → List Zv → Zt → Prop) : sx_ K P [.iconst 0, .ireturn] 93 = x_iconst 0 (x_ireturn P) := ((xe_iconst 0).trans (congrArg (x_iconst 0) (xe_ireturn)))
set_option maxRecDepth 100000 in
theorem cl_X6_140 : cs_ RX6 140 yX6_shareClub zX6_shareClub 2 := ⟨gi_S (lw_b4 103 (by decide +kernel) rfl : Cond.methodLink RX6 140 yX6_shareClub ∈ lw_g) (lw_b4 104 (by decide +kernel) rfl : Cond.static yX6_shareClub ∈ lw_g) (lw_b1 4 (by decide +kernel) rfl : Cond.initialized yX6_shareClub.cls ∈ lw_g) (lw_b4 105 rfl rfl : Cond.code yX6_shareClub cX6_shareClub 2 (some .boolean) ∈ lw_g), ⟨by decide, by decide, by decide +kernel⟩⟩
theorem bk_X6_standAgainst_84 : ck_ fX6 (some .boolean) cX6_standAgainst 84 [.ifCond .eq 91, .iconst 1, .goto 92] 91 = true := qck_r (nn_ _) (by decide +kernel)
theorem bs_X6_standAgainst_84 {P : Zt → Option Zv → Prop} (K : Int → Zl → List Zv → Zt → Prop) : sx_ K P [.ifCond .eq 91, .iconst 1, .goto 92] 91 = x_ifCond .eq 91 K (x_iconst 1 (x_goto 92 K)) := ((xe_ifCond .eq 91).trans (congrArg (x_ifCond .eq 91 K) ((xe_iconst 1).trans (congrArg (x_iconst 1) (xe_goto 92)))))
theorem bk_X6_standAgainst_92 : ck_ fX6 (some .boolean) cX6_standAgainst 92 [.ireturn] 93 = true := qck_r (nn_ _) (by decide +kernel)
theorem bs_X6_standAgainst_92 {P : Zt → Option Zv → Prop} (K : Int → Zl → List Zv → Zt → Prop) : sx_ K P [.ireturn] 93 = x_ireturn P := (xe_ireturn)
abbrev cX6_listAgainst : ByteArray := prog_8_method_7_code
def yX6_listAgainst : MethodName := ⟨RX6, "listAgainst", "(LSportsHouse$Match;)I"⟩
def zX6_listAgainst : Zm := (RX6, cX6_listAgainst, 5, (some .int), { frames := 3, cells := 0, slots := 0, locals := 65 })
theorem bk_X6_listAgainst_4 : ck_ fX6 (some .int) cX6_listAgainst 4 [.iload 3, .aload 0, .tableswitch 0 6 4 #[], .if_icmp .ge 64, .aload 0, .tableswitch 0 6 3 #[], .iload 3, .aaload, .astore 4, .iload 3, .aload 1, .tableswitch 0 2 1 #[], .if_icmp .eq 58, .aload 0, .aload 1, .aload 4] 32 = true := qck_r (nn_ _) (by decide +kernel)
theorem bs_X6_listAgainst_4 {P : Zt → Option Zv → Prop} (K : Int → Zl → List Zv → Zt → Prop) : sx_ K P [.iload 3, .aload 0, .tableswitch 0 6 4 #[], .if_icmp .ge 64, .aload 0, .tableswitch 0 6 3 #[], .iload 3, .aaload, .astore 4, .iload 3, .aload 1, .tableswitch 0 2 1 #[], .if_icmp .eq 58, .aload 0, .aload 1, .aload 4] 32 = x_iload 3 (x_aload 0 (x_g0 106 4 0 400 (x_if_icmp .ge 64 K (x_aload 0 (x_g1 106 523 (x_iload 3 (x_aaload (x_astore 4 (x_iload 3 (x_aload 1 (x_g0 102 1 0 399 (x_if_icmp .eq 58 K (x_aload 0 (x_aload 1 (x_aload 4 (K 32)))))))))))))))) := ((xe_iload 3).trans (congrArg (x_iload 3) ((xe_aload 0).trans (congrArg (x_aload 0) ((xe_g0 (kk := 106) rfl tl_6_4).trans (congrArg (x_g0 106 4 0 400) ((xe_if_icmp .ge 64).trans (congrArg (x_if_icmp .ge 64 K) ((xe_aload 0).trans (congrArg (x_aload 0) ((xe_g1 (kk := 106) rfl tl_6_3).trans (congrArg (x_g1 106 523) ((xe_iload 3).trans (congrArg (x_iload 3) ((xe_aaload).trans (congrArg (x_aaload) ((xe_astore 4).trans (congrArg (x_astore 4) ((xe_iload 3).trans (congrArg (x_iload 3) ((xe_aload 1).trans (congrArg (x_aload 1) ((xe_g0 (kk := 102) rfl tl_2_1).trans (congrArg (x_g0 102 1 0 399) ((xe_if_icmp .eq 58).trans (congrArg (x_if_icmp .eq 58 K) ((xe_aload 0).trans (congrArg (x_aload 0) ((xe_aload 1).trans (congrArg (x_aload 1) ((xe_aload 4).trans (congrArg (x_aload 4) xe_nil))))))))))))))))))))))))))))))))
theorem bk_X6_listAgainst_64 : ck_ fX6 (some .int) cX6_listAgainst 64 [.iload 2, .ireturn] 66 = true := qck_r (nn_ _) (by decide +kernel)
theorem bs_X6_listAgainst_64 {P : Zt → Option Zv → Prop} (K : Int → Zl → List Zv → Zt → Prop) : sx_ K P [.iload 2, .ireturn] 66 = x_iload 2 (x_ireturn P) := ((xe_iload 2).trans (congrArg (x_iload 2) (xe_ireturn)))
theorem bk_X6_listAgainst_58 : ck_ fX6 (some .int) cX6_listAgainst 58 [.iinc 3 1, .goto 4] 64 = true := qck_r (nn_ _) (by decide +kernel)
theorem bs_X6_listAgainst_58 {P : Zt → Option Zv → Prop} (K : Int → Zl → List Zv → Zt → Prop) : sx_ K P [.iinc 3 1, .goto 4] 64 = x_iinc 3 1 (x_goto 4 K) := ((xe_iinc 3 1).trans (congrArg (x_iinc 3 1) (xe_goto 4)))
set_option maxRecDepth 100000 in
theorem cl_X6_112 : cv_ RX6 112 yX6_standAgainst zX6_standAgainst 6 2 := ⟨gi_V (lw_b4 89 (by decide +kernel) rfl : Cond.methodLink RX6 112 yX6_standAgainst ∈ lw_g) (lw_b4 91 (by decide +kernel) rfl : Cond.instanceMethod yX6_standAgainst ∈ lw_g) (lw_sel 126 rfl : Cond.selects yX6_standAgainst.cls yX6_standAgainst yX6_standAgainst ∈ lw_g) (lw_b1 4 (by decide +kernel) rfl : Cond.initialized yX6_standAgainst.cls ∈ lw_g) (lw_b4 92 rfl rfl : Cond.code yX6_standAgainst cX6_standAgainst 4 (some .boolean) ∈ lw_g), ⟨by decide, by decide, by decide +kernel⟩, ⟨_, _, rfl⟩⟩
theorem bk_X6_listAgainst_35 : ck_ fX6 (some .int) cX6_listAgainst 35 [.ifCond .eq 58, .aload 4] 40 = true := qck_r (nn_ _) (by decide +kernel)
theorem bs_X6_listAgainst_35 {P : Zt → Option Zv → Prop} (K : Int → Zl → List Zv → Zt → Prop) : sx_ K P [.ifCond .eq 58, .aload 4] 40 = x_ifCond .eq 58 K (x_aload 4 (K 40)) := ((xe_ifCond .eq 58).trans (congrArg (x_ifCond .eq 58 K) ((xe_aload 4).trans (congrArg (x_aload 4) xe_nil))))
set_option maxRecDepth 100000 in
theorem cl_X6_116 : cv_ RX6 116 yX2_phaseOfLife zX2_phaseOfLife 2 0 := ⟨gi_V (lw_b4 106 (by decide +kernel) rfl : Cond.methodLink RX6 116 yX2_phaseOfLife ∈ lw_g) (lw_b4 58 (by decide +kernel) rfl : Cond.instanceMethod yX2_phaseOfLife ∈ lw_g) (lw_b4 59 (by decide +kernel) rfl : Cond.selects yX2_phaseOfLife.cls yX2_phaseOfLife yX2_phaseOfLife ∈ lw_g) (lw_b1 16 (by decide +kernel) rfl : Cond.initialized yX2_phaseOfLife.cls ∈ lw_g) (lw_b4 60 rfl rfl : Cond.code yX2_phaseOfLife cX2_phaseOfLife 1 (some .int) ∈ lw_g), ⟨by decide, by decide, by decide +kernel⟩, ⟨_, _, rfl⟩⟩
theorem bk_X6_listAgainst_43 : ck_ fX6 (some .int) cX6_listAgainst 43 [.ifCond .eq 48, .iconst (-1), .ireturn] 48 = true := qck_r (nn_ _) (by decide +kernel)
theorem bs_X6_listAgainst_43 {P : Zt → Option Zv → Prop} (K : Int → Zl → List Zv → Zt → Prop) : sx_ K P [.ifCond .eq 48, .iconst (-1), .ireturn] 48 = x_ifCond .eq 48 K (x_iconst (-1) (x_ireturn P)) := ((xe_ifCond .eq 48).trans (congrArg (x_ifCond .eq 48 K) ((xe_iconst (-1)).trans (congrArg (x_iconst (-1)) (xe_ireturn)))))
theorem bk_X6_listAgainst_48 : ck_ fX6 (some .int) cX6_listAgainst 48 [.aload 0, .tableswitch 0 6 13 #[], .iload 2, .iload 3, .iastore, .iinc 2 1, .iinc 3 1, .goto 4] 64 = true := qck_r (nn_ _) (by decide +kernel)
theorem bs_X6_listAgainst_48 {P : Zt → Option Zv → Prop} (K : Int → Zl → List Zv → Zt → Prop) : sx_ K P [.aload 0, .tableswitch 0 6 13 #[], .iload 2, .iload 3, .iastore, .iinc 2 1, .iinc 3 1, .goto 4] 64 = x_aload 0 (x_g1 106 533 (x_iload 2 (x_iload 3 (x_iastore (x_iinc 2 1 (x_iinc 3 1 (x_goto 4 K))))))) := ((xe_aload 0).trans (congrArg (x_aload 0) ((xe_g1 (kk := 106) rfl tl_6_13).trans (congrArg (x_g1 106 533) ((xe_iload 2).trans (congrArg (x_iload 2) ((xe_iload 3).trans (congrArg (x_iload 3) ((xe_iastore).trans (congrArg (x_iastore) ((xe_iinc 2 1).trans (congrArg (x_iinc 2 1) ((xe_iinc 3 1).trans (congrArg (x_iinc 3 1) (xe_goto 4)))))))))))))))
theorem bk_X6_listAgainst_0 : ck_ fX6 (some .int) cX6_listAgainst 0 [.iconst 0, .istore 2, .iconst 0, .istore 3] 4 = true := qck_r (nn_ _) (by decide +kernel)
theorem bs_X6_listAgainst_0 {P : Zt → Option Zv → Prop} (K : Int → Zl → List Zv → Zt → Prop) : sx_ K P [.iconst 0, .istore 2, .iconst 0, .istore 3] 4 = x_iconst 0 (x_istore 2 (x_iconst 0 (x_istore 3 (K 4)))) := ((xe_iconst 0).trans (congrArg (x_iconst 0) ((xe_istore 2).trans (congrArg (x_istore 2) ((xe_iconst 0).trans (congrArg (x_iconst 0) ((xe_istore 3).trans (congrArg (x_istore 3) xe_nil))))))))
abbrev po_J7_fill_535 (T : Zt) (p : Int) (v : Int) : Zt → Option Zv → Prop := fun T' r => r = none ∧ fr_ [(535, [])] T T' ∧ oi_ T T' p ∧ ∀ j, 0 ≤ j → j < 1000 → T' 535 p j = v
set_option maxHeartbeats 4000000 in
theorem ct_J7_fill_535 {T : Zt} {p : Int} {v : Int} (h1 : 0 ≤ v ∧ v ≤ 1) : Ct_ yJ7_fill_53178 zJ7_fill_53178 T [vR 535 p, vI v] (po_J7_fill_535 T p v) := by
  refine ct_of (by decide) rfl rfl (Nat.le_of_ble_eq_true rfl) (fun hT hav => ?_)
  have hr_v : -2147483648 ≤ v ∧ v ≤ 2147483647 := hav (vI v) (by simp)
  have hz : zJ7_fill_53178.2.2.2.1 = some .boolean → ∀ (T' : Zt) (x : Int), po_J7_fill_535 T p v T' (some (vI x)) → 0 ≤ x ∧ x ≤ 1 := fun h => by cases h
  show J_ zJ7_fill_53178 T (po_J7_fill_535 T p v) 0 0 0 [some (vR 535 p), some (vI v), none, none] [] T
  have c_5 : ∀ (nn : Nat) (j : Int) (T1 : Zt), ((1000 - j).toNat) ≤ nn → (fr_ [(535, [])] T T1) → (0 ≤ j ∧ j ≤ 1000) → (oi_ T T1 p) → (∀ q, 0 ≤ q → q < j → T1 535 p q = v) → J_ zJ7_fill_53178 T (po_J7_fill_535 T p v) 0 0 5 [some (vR 535 p), some (vI v), some (vI j), some (vI 1000)] [] T1 := by
    intro nn
    induction nn using Nat.strongRecOn with
    | _ nn ih_5 =>
      intro j T1 hm_5 hf_5 i1 o1 f1
      refine j_blx (F := fJ7) tb_J7 (nn_ _) bk_J7_fill_53178_5 bs_J7_fill_53178_5 hz (fun K hK => ?_)
      refine And.intro (fun c1 => ?_) (fun c1 => ?_)
      · refine hK 20 _ [] T1 ?_
        refine j_blx (F := fJ7) tb_J7 (nn_ _) bk_J7_fill_53178_20 bs_J7_fill_53178_20 hz (fun K hK => ?_)
        refine (show po_J7_fill_535 T p v T1 (none) from ?_)
        exact ⟨rfl, fr_t (fr_0 _ _) (fr_s hf_5 rfl), o1, fun q a b => f1 q a (by omega)⟩
      · refine iy_i (by omega) (by omega) ?_
        refine x_nm (fun U2 hU2 => ?_)
        have e3 := up_f hU2
        refine rg_i (by omega) ?_
        refine hK 5 [some (vR 535 p), some (vI v), some (vI (j + 1)), some (vI 1000)] [] U2 ?_
        refine ih_5 _ ?_ (j + 1) U2 (Nat.le_refl _) ?_ ?_ ?_ ?_
        · omega
        · exact fr_u (fr_t (fr_0 _ _) (fr_s hf_5 rfl)) hU2 rfl
        · omega
        · exact oi_u o1 hU2
        · intro q a b
          by_cases z : q = j
          · rw [z]; exact up_f hU2
          · rw [up_g hU2 (fun y => z y.2.2)]; exact f1 q a (by omega)
  refine j_blx (F := fJ7) tb_J7 (nn_ _) bk_J7_fill_53178_0 bs_J7_fill_53178_0 hz (fun K hK => ?_)
  refine hK 5 [some (vR 535 p), some (vI v), some (vI 0), some (vI 1000)] [] T ?_
  refine c_5 _ 0 T (Nat.le_refl _) ?_ ?_ ?_ ?_
  · exact fr_0 _ _
  · omega
  · exact oi_r
  · intro q a b; omega
abbrev cX6_blockDays : ByteArray := prog_8_method_11_code
def yX6_blockDays : MethodName := ⟨RX6, "blockDays", "(LSportsHouse$Match;)V"⟩
def zX6_blockDays : Zm := (RX6, cX6_blockDays, 7, none, { frames := 2, cells := 0, slots := 0, locals := 42 })
theorem bk_X6_blockDays_132 : ck_ fX6 none cX6_blockDays 132 [.iload 6, .iload 5, .if_icmp .gt 153, .aload 0, .tableswitch 0 6 15 #[], .iload 6, .iconst 1, .iastore, .iinc 6 1, .goto 132] 153 = true := qck_r (nn_ _) (by decide +kernel)
theorem bs_X6_blockDays_132 {P : Zt → Option Zv → Prop} (K : Int → Zl → List Zv → Zt → Prop) : sx_ K P [.iload 6, .iload 5, .if_icmp .gt 153, .aload 0, .tableswitch 0 6 15 #[], .iload 6, .iconst 1, .iastore, .iinc 6 1, .goto 132] 153 = x_iload 6 (x_iload 5 (x_if_icmp .gt 153 K (x_aload 0 (x_g1 106 535 (x_iload 6 (x_iconst 1 (x_iastore (x_iinc 6 1 (x_goto 132 K))))))))) := ((xe_iload 6).trans (congrArg (x_iload 6) ((xe_iload 5).trans (congrArg (x_iload 5) ((xe_if_icmp .gt 153).trans (congrArg (x_if_icmp .gt 153 K) ((xe_aload 0).trans (congrArg (x_aload 0) ((xe_g1 (kk := 106) rfl tl_6_15).trans (congrArg (x_g1 106 535) ((xe_iload 6).trans (congrArg (x_iload 6) ((xe_iconst 1).trans (congrArg (x_iconst 1) ((xe_iastore).trans (congrArg (x_iastore) ((xe_iinc 6 1).trans (congrArg (x_iinc 6 1) (xe_goto 132)))))))))))))))))))
theorem bk_X6_blockDays_153 : ck_ fX6 none cX6_blockDays 153 [.iinc 2 1, .goto 10] 159 = true := qck_r (nn_ _) (by decide +kernel)
theorem bs_X6_blockDays_153 {P : Zt → Option Zv → Prop} (K : Int → Zl → List Zv → Zt → Prop) : sx_ K P [.iinc 2 1, .goto 10] 159 = x_iinc 2 1 (x_goto 10 K) := ((xe_iinc 2 1).trans (congrArg (x_iinc 2 1) (xe_goto 10)))
theorem bk_X6_blockDays_10 : ck_ fX6 none cX6_blockDays 10 [.iload 2, .aload 0, .tableswitch 0 6 4 #[], .if_icmp .ge 159, .aload 0, .tableswitch 0 6 3 #[], .iload 2, .aaload, .astore 3, .iload 2, .aload 1, .tableswitch 0 2 1 #[], .if_icmp .eq 153, .aload 3, .tableswitch 0 2 6 #[], .iconst (-1), .if_icmp .eq 44, .goto 153] 44 = true := qck_r (nn_ _) (by decide +kernel)
theorem bs_X6_blockDays_10 {P : Zt → Option Zv → Prop} (K : Int → Zl → List Zv → Zt → Prop) : sx_ K P [.iload 2, .aload 0, .tableswitch 0 6 4 #[], .if_icmp .ge 159, .aload 0, .tableswitch 0 6 3 #[], .iload 2, .aaload, .astore 3, .iload 2, .aload 1, .tableswitch 0 2 1 #[], .if_icmp .eq 153, .aload 3, .tableswitch 0 2 6 #[], .iconst (-1), .if_icmp .eq 44, .goto 153] 44 = x_iload 2 (x_aload 0 (x_g0 106 4 0 400 (x_if_icmp .ge 159 K (x_aload 0 (x_g1 106 523 (x_iload 2 (x_aaload (x_astore 3 (x_iload 2 (x_aload 1 (x_g0 102 1 0 399 (x_if_icmp .eq 153 K (x_aload 3 (x_g0 102 6 (-1) 1 (x_iconst (-1) (x_if_icmp .eq 44 K (x_goto 153 K))))))))))))))))) := ((xe_iload 2).trans (congrArg (x_iload 2) ((xe_aload 0).trans (congrArg (x_aload 0) ((xe_g0 (kk := 106) rfl tl_6_4).trans (congrArg (x_g0 106 4 0 400) ((xe_if_icmp .ge 159).trans (congrArg (x_if_icmp .ge 159 K) ((xe_aload 0).trans (congrArg (x_aload 0) ((xe_g1 (kk := 106) rfl tl_6_3).trans (congrArg (x_g1 106 523) ((xe_iload 2).trans (congrArg (x_iload 2) ((xe_aaload).trans (congrArg (x_aaload) ((xe_astore 3).trans (congrArg (x_astore 3) ((xe_iload 2).trans (congrArg (x_iload 2) ((xe_aload 1).trans (congrArg (x_aload 1) ((xe_g0 (kk := 102) rfl tl_2_1).trans (congrArg (x_g0 102 1 0 399) ((xe_if_icmp .eq 153).trans (congrArg (x_if_icmp .eq 153 K) ((xe_aload 3).trans (congrArg (x_aload 3) ((xe_g0 (kk := 102) rfl tl_2_6).trans (congrArg (x_g0 102 6 (-1) 1) ((xe_iconst (-1)).trans (congrArg (x_iconst (-1)) ((xe_if_icmp .eq 44).trans (congrArg (x_if_icmp .eq 44 K) (xe_goto 153)))))))))))))))))))))))))))))))))))
theorem bk_X6_blockDays_159 : ck_ fX6 none cX6_blockDays 159 [.return_] 160 = true := qck_r (nn_ _) (by decide +kernel)
theorem bs_X6_blockDays_159 {P : Zt → Option Zv → Prop} (K : Int → Zl → List Zv → Zt → Prop) : sx_ K P [.return_] 160 = x_return_ P := (xe_return_)
theorem bk_X6_blockDays_44 : ck_ fX6 none cX6_blockDays 44 [.aload 0, .tableswitch 0 6 0 #[], .tableswitch 0 8 0 #[], .aload 1, .tableswitch 0 2 3 #[], .iaload, .aload 0, .tableswitch 0 6 0 #[], .tableswitch 0 8 0 #[], .aload 3, .tableswitch 0 2 3 #[], .iaload, .if_icmp .ne 81, .aload 0, .tableswitch 0 6 15 #[], .aload 3, .tableswitch 0 2 5 #[], .iconst 1, .iastore, .aload 1, .aload 3] 83 = true := qck_r (nn_ _) (by decide +kernel)
theorem bs_X6_blockDays_44 {P : Zt → Option Zv → Prop} (K : Int → Zl → List Zv → Zt → Prop) : sx_ K P [.aload 0, .tableswitch 0 6 0 #[], .tableswitch 0 8 0 #[], .aload 1, .tableswitch 0 2 3 #[], .iaload, .aload 0, .tableswitch 0 6 0 #[], .tableswitch 0 8 0 #[], .aload 3, .tableswitch 0 2 3 #[], .iaload, .if_icmp .ne 81, .aload 0, .tableswitch 0 6 15 #[], .aload 3, .tableswitch 0 2 5 #[], .iconst 1, .iastore, .aload 1, .aload 3] 83 = x_aload 0 (x_g1 106 108 (x_g1 108 560 (x_aload 1 (x_g0 102 3 0 11 (x_iaload (x_aload 0 (x_g1 106 108 (x_g1 108 560 (x_aload 3 (x_g0 102 3 0 11 (x_iaload (x_if_icmp .ne 81 K (x_aload 0 (x_g1 106 535 (x_aload 3 (x_g0 102 5 0 999 (x_iconst 1 (x_iastore (x_aload 1 (x_aload 3 (K 83))))))))))))))))))))) := ((xe_aload 0).trans (congrArg (x_aload 0) ((xe_g1 (kk := 106) rfl tl_6_0).trans (congrArg (x_g1 106 108) ((xe_g1 (kk := 108) rfl tl_8_0).trans (congrArg (x_g1 108 560) ((xe_aload 1).trans (congrArg (x_aload 1) ((xe_g0 (kk := 102) rfl tl_2_3).trans (congrArg (x_g0 102 3 0 11) ((xe_iaload).trans (congrArg (x_iaload) ((xe_aload 0).trans (congrArg (x_aload 0) ((xe_g1 (kk := 106) rfl tl_6_0).trans (congrArg (x_g1 106 108) ((xe_g1 (kk := 108) rfl tl_8_0).trans (congrArg (x_g1 108 560) ((xe_aload 3).trans (congrArg (x_aload 3) ((xe_g0 (kk := 102) rfl tl_2_3).trans (congrArg (x_g0 102 3 0 11) ((xe_iaload).trans (congrArg (x_iaload) ((xe_if_icmp .ne 81).trans (congrArg (x_if_icmp .ne 81 K) ((xe_aload 0).trans (congrArg (x_aload 0) ((xe_g1 (kk := 106) rfl tl_6_15).trans (congrArg (x_g1 106 535) ((xe_aload 3).trans (congrArg (x_aload 3) ((xe_g0 (kk := 102) rfl tl_2_5).trans (congrArg (x_g0 102 5 0 999) ((xe_iconst 1).trans (congrArg (x_iconst 1) ((xe_iastore).trans (congrArg (x_iastore) ((xe_aload 1).trans (congrArg (x_aload 1) ((xe_aload 3).trans (congrArg (x_aload 3) xe_nil))))))))))))))))))))))))))))))))))))))))))
theorem bk_X6_blockDays_81 : ck_ fX6 none cX6_blockDays 81 [.aload 1, .aload 3] 83 = true := qck_r (nn_ _) (by decide +kernel)
theorem bs_X6_blockDays_81 {P : Zt → Option Zv → Prop} (K : Int → Zl → List Zv → Zt → Prop) : sx_ K P [.aload 1, .aload 3] 83 = x_aload 1 (x_aload 3 (K 83)) := ((xe_aload 1).trans (congrArg (x_aload 1) ((xe_aload 3).trans (congrArg (x_aload 3) xe_nil))))
theorem bk_X6_blockDays_86 : ck_ fX6 none cX6_blockDays 86 [.ifCond .eq 153, .aload 1] 90 = true := qck_r (nn_ _) (by decide +kernel)
theorem bs_X6_blockDays_86 {P : Zt → Option Zv → Prop} (K : Int → Zl → List Zv → Zt → Prop) : sx_ K P [.ifCond .eq 153, .aload 1] 90 = x_ifCond .eq 153 K (x_aload 1 (K 90)) := ((xe_ifCond .eq 153).trans (congrArg (x_ifCond .eq 153 K) ((xe_aload 1).trans (congrArg (x_aload 1) xe_nil))))
theorem bk_X6_blockDays_93 : ck_ fX6 none cX6_blockDays 93 [.aload 3] 94 = true := qck_r (nn_ _) (by decide +kernel)
theorem bs_X6_blockDays_93 {P : Zt → Option Zv → Prop} (K : Int → Zl → List Zv → Zt → Prop) : sx_ K P [.aload 3] 94 = x_aload 3 (K 94) := ((xe_aload 3).trans (congrArg (x_aload 3) xe_nil))
theorem bk_X6_blockDays_100 : ck_ fX6 none cX6_blockDays 100 [.iconst 1, .isub, .istore 4, .iconst 999, .aload 3, .tableswitch 0 2 5 #[], .iload 4, .iadd] 114 = true := qck_r (nn_ _) (by decide +kernel)
theorem bs_X6_blockDays_100 {P : Zt → Option Zv → Prop} (K : Int → Zl → List Zv → Zt → Prop) : sx_ K P [.iconst 1, .isub, .istore 4, .iconst 999, .aload 3, .tableswitch 0 2 5 #[], .iload 4, .iadd] 114 = x_iconst 1 (x_isub (x_istore 4 (x_iconst 999 (x_aload 3 (x_g0 102 5 0 999 (x_iload 4 (x_iadd (K 114)))))))) := ((xe_iconst 1).trans (congrArg (x_iconst 1) ((xe_isub).trans (congrArg (x_isub) ((xe_istore 4).trans (congrArg (x_istore 4) ((xe_iconst 999).trans (congrArg (x_iconst 999) ((xe_aload 3).trans (congrArg (x_aload 3) ((xe_g0 (kk := 102) rfl tl_2_5).trans (congrArg (x_g0 102 5 0 999) ((xe_iload 4).trans (congrArg (x_iload 4) ((xe_iadd).trans (congrArg (x_iadd) xe_nil))))))))))))))))
theorem bk_X6_blockDays_117 : ck_ fX6 none cX6_blockDays 117 [.istore 5, .iconst 0, .aload 3, .tableswitch 0 2 5 #[], .iload 4, .isub] 127 = true := qck_r (nn_ _) (by decide +kernel)
theorem bs_X6_blockDays_117 {P : Zt → Option Zv → Prop} (K : Int → Zl → List Zv → Zt → Prop) : sx_ K P [.istore 5, .iconst 0, .aload 3, .tableswitch 0 2 5 #[], .iload 4, .isub] 127 = x_istore 5 (x_iconst 0 (x_aload 3 (x_g0 102 5 0 999 (x_iload 4 (x_isub (K 127)))))) := ((xe_istore 5).trans (congrArg (x_istore 5) ((xe_iconst 0).trans (congrArg (x_iconst 0) ((xe_aload 3).trans (congrArg (x_aload 3) ((xe_g0 (kk := 102) rfl tl_2_5).trans (congrArg (x_g0 102 5 0 999) ((xe_iload 4).trans (congrArg (x_iload 4) ((xe_isub).trans (congrArg (x_isub) xe_nil))))))))))))
theorem bk_X6_blockDays_130 : ck_ fX6 none cX6_blockDays 130 [.istore 6] 132 = true := qck_r (nn_ _) (by decide +kernel)
theorem bs_X6_blockDays_130 {P : Zt → Option Zv → Prop} (K : Int → Zl → List Zv → Zt → Prop) : sx_ K P [.istore 6] 132 = x_istore 6 (K 132) := ((xe_istore 6).trans (congrArg (x_istore 6) xe_nil))
theorem bk_X6_blockDays_0 : ck_ fX6 none cX6_blockDays 0 [.aload 0, .tableswitch 0 6 15 #[], .iconst 0] 5 = true := qck_r (nn_ _) (by decide +kernel)
theorem bs_X6_blockDays_0 {P : Zt → Option Zv → Prop} (K : Int → Zl → List Zv → Zt → Prop) : sx_ K P [.aload 0, .tableswitch 0 6 15 #[], .iconst 0] 5 = x_aload 0 (x_g1 106 535 (x_iconst 0 (K 5))) := ((xe_aload 0).trans (congrArg (x_aload 0) ((xe_g1 (kk := 106) rfl tl_6_15).trans (congrArg (x_g1 106 535) ((xe_iconst 0).trans (congrArg (x_iconst 0) xe_nil))))))
set_option maxRecDepth 100000 in
theorem cl_X6_150 : cs_ RX6 150 yJ7_fill_53178 zJ7_fill_53178 2 := ⟨gi_S (lw_b4 115 (by decide +kernel) rfl : Cond.methodLink RX6 150 yJ7_fill_53178 ∈ lw_g) (lw_b2 26 (by decide +kernel) rfl : Cond.static yJ7_fill_53178 ∈ lw_g) (lw_b1 7 (by decide +kernel) rfl : Cond.initialized yJ7_fill_53178.cls ∈ lw_g) (lw_b2 27 rfl rfl : Cond.code yJ7_fill_53178 cJ7_fill_53178 4 none ∈ lw_g), ⟨by decide, by decide, by decide +kernel⟩⟩
theorem bk_X6_blockDays_8 : ck_ fX6 none cX6_blockDays 8 [.iconst 0, .istore 2] 10 = true := qck_r (nn_ _) (by decide +kernel)
theorem bs_X6_blockDays_8 {P : Zt → Option Zv → Prop} (K : Int → Zl → List Zv → Zt → Prop) : sx_ K P [.iconst 0, .istore 2] 10 = x_iconst 0 (x_istore 2 (K 10)) := ((xe_iconst 0).trans (congrArg (x_iconst 0) ((xe_istore 2).trans (congrArg (x_istore 2) xe_nil))))
abbrev cX6_goBehind : ByteArray := prog_8_method_10_code
def yX6_goBehind : MethodName := ⟨RX6, "goBehind", "(LSportsHouse$Match;II)Z"⟩
def zX6_goBehind : Zm := (RX6, cX6_goBehind, 5, (some .boolean), { frames := 3, cells := 0, slots := 0, locals := 68 })
theorem bk_X6_goBehind_10 : ck_ fX6 (some .boolean) cX6_goBehind 10 [.iload 4, .iconst 999, .if_icmp .gt 52, .aload 0, .tableswitch 0 6 15 #[], .iload 4, .iaload, .ifCond .ne 46, .aload 0, .tableswitch 0 6 14 #[], .iload 3, .aload 1, .tableswitch 0 2 5 #[], .iastore, .aload 1, .iload 4, .tableswitch 1 2 5 #[], .iconst 1, .ireturn] 46 = true := qck_r (nn_ _) (by decide +kernel)
theorem bs_X6_goBehind_10 {P : Zt → Option Zv → Prop} (K : Int → Zl → List Zv → Zt → Prop) : sx_ K P [.iload 4, .iconst 999, .if_icmp .gt 52, .aload 0, .tableswitch 0 6 15 #[], .iload 4, .iaload, .ifCond .ne 46, .aload 0, .tableswitch 0 6 14 #[], .iload 3, .aload 1, .tableswitch 0 2 5 #[], .iastore, .aload 1, .iload 4, .tableswitch 1 2 5 #[], .iconst 1, .ireturn] 46 = x_iload 4 (x_iconst 999 (x_if_icmp .gt 52 K (x_aload 0 (x_g1 106 535 (x_iload 4 (x_iaload (x_ifCond .ne 46 K (x_aload 0 (x_g1 106 534 (x_iload 3 (x_aload 1 (x_g0 102 5 0 999 (x_iastore (x_aload 1 (x_iload 4 (x_p 102 5 0 999 (x_iconst 1 (x_ireturn P)))))))))))))))))) := ((xe_iload 4).trans (congrArg (x_iload 4) ((xe_iconst 999).trans (congrArg (x_iconst 999) ((xe_if_icmp .gt 52).trans (congrArg (x_if_icmp .gt 52 K) ((xe_aload 0).trans (congrArg (x_aload 0) ((xe_g1 (kk := 106) rfl tl_6_15).trans (congrArg (x_g1 106 535) ((xe_iload 4).trans (congrArg (x_iload 4) ((xe_iaload).trans (congrArg (x_iaload) ((xe_ifCond .ne 46).trans (congrArg (x_ifCond .ne 46 K) ((xe_aload 0).trans (congrArg (x_aload 0) ((xe_g1 (kk := 106) rfl tl_6_14).trans (congrArg (x_g1 106 534) ((xe_iload 3).trans (congrArg (x_iload 3) ((xe_aload 1).trans (congrArg (x_aload 1) ((xe_g0 (kk := 102) rfl tl_2_5).trans (congrArg (x_g0 102 5 0 999) ((xe_iastore).trans (congrArg (x_iastore) ((xe_aload 1).trans (congrArg (x_aload 1) ((xe_iload 4).trans (congrArg (x_iload 4) ((xe_p (kk := 102) rfl tl_2_5).trans (congrArg (x_p 102 5 0 999) ((xe_iconst 1).trans (congrArg (x_iconst 1) (xe_ireturn)))))))))))))))))))))))))))))))))))))
theorem bk_X6_goBehind_52 : ck_ fX6 (some .boolean) cX6_goBehind 52 [.iconst 0, .ireturn] 54 = true := qck_r (nn_ _) (by decide +kernel)
theorem bs_X6_goBehind_52 {P : Zt → Option Zv → Prop} (K : Int → Zl → List Zv → Zt → Prop) : sx_ K P [.iconst 0, .ireturn] 54 = x_iconst 0 (x_ireturn P) := ((xe_iconst 0).trans (congrArg (x_iconst 0) (xe_ireturn)))
theorem bk_X6_goBehind_46 : ck_ fX6 (some .boolean) cX6_goBehind 46 [.iinc 4 1, .goto 10] 52 = true := qck_r (nn_ _) (by decide +kernel)
theorem bs_X6_goBehind_46 {P : Zt → Option Zv → Prop} (K : Int → Zl → List Zv → Zt → Prop) : sx_ K P [.iinc 4 1, .goto 10] 52 = x_iinc 4 1 (x_goto 10 K) := ((xe_iinc 4 1).trans (congrArg (x_iinc 4 1) (xe_goto 10)))
theorem bk_X6_goBehind_0 : ck_ fX6 (some .boolean) cX6_goBehind 0 [.aload 0, .aload 1] 2 = true := qck_r (nn_ _) (by decide +kernel)
theorem bs_X6_goBehind_0 {P : Zt → Option Zv → Prop} (K : Int → Zl → List Zv → Zt → Prop) : sx_ K P [.aload 0, .aload 1] 2 = x_aload 0 (x_aload 1 (K 2)) := ((xe_aload 0).trans (congrArg (x_aload 0) ((xe_aload 1).trans (congrArg (x_aload 1) xe_nil))))
set_option maxRecDepth 100000 in
theorem cl_X6_146 : cv_ RX6 146 yX6_blockDays zX6_blockDays 6 1 := ⟨gi_V (lw_b4 111 (by decide +kernel) rfl : Cond.methodLink RX6 146 yX6_blockDays ∈ lw_g) (lw_b4 113 (by decide +kernel) rfl : Cond.instanceMethod yX6_blockDays ∈ lw_g) (lw_sel 121 rfl : Cond.selects yX6_blockDays.cls yX6_blockDays yX6_blockDays ∈ lw_g) (lw_b1 4 (by decide +kernel) rfl : Cond.initialized yX6_blockDays.cls ∈ lw_g) (lw_b4 114 rfl rfl : Cond.code yX6_blockDays cX6_blockDays 7 none ∈ lw_g), ⟨by decide, by decide, by decide +kernel⟩, ⟨_, _, rfl⟩⟩
theorem bk_X6_goBehind_5 : ck_ fX6 (some .boolean) cX6_goBehind 5 [.iload 2, .iconst 1, .iadd, .istore 4] 10 = true := qck_r (nn_ _) (by decide +kernel)
theorem bs_X6_goBehind_5 {P : Zt → Option Zv → Prop} (K : Int → Zl → List Zv → Zt → Prop) : sx_ K P [.iload 2, .iconst 1, .iadd, .istore 4] 10 = x_iload 2 (x_iconst 1 (x_iadd (x_istore 4 (K 10)))) := ((xe_iload 2).trans (congrArg (x_iload 2) ((xe_iconst 1).trans (congrArg (x_iconst 1) ((xe_iadd).trans (congrArg (x_iadd) ((xe_istore 4).trans (congrArg (x_istore 4) xe_nil))))))))
abbrev cX6_putOff : ByteArray := prog_8_method_6_code
def yX6_putOff : MethodName := ⟨RX6, "putOff", "(LSportsHouse$Match;I)I"⟩
def zX6_putOff : Zm := (RX6, cX6_putOff, 7, (some .int), { frames := 4, cells := 0, slots := 0, locals := 92 })
theorem bk_X6_putOff_71 : ck_ fX6 (some .int) cX6_putOff 71 [.iload 6, .iload 5, .if_icmp .ge 106, .aload 0, .tableswitch 0 6 3 #[], .aload 0, .tableswitch 0 6 13 #[], .iload 6, .iaload, .aaload, .aload 0, .tableswitch 0 6 14 #[], .iload 6, .iaload, .tableswitch 1 2 5 #[], .iinc 6 1, .goto 71] 106 = true := qck_r (nn_ _) (by decide +kernel)
theorem bs_X6_putOff_71 {P : Zt → Option Zv → Prop} (K : Int → Zl → List Zv → Zt → Prop) : sx_ K P [.iload 6, .iload 5, .if_icmp .ge 106, .aload 0, .tableswitch 0 6 3 #[], .aload 0, .tableswitch 0 6 13 #[], .iload 6, .iaload, .aaload, .aload 0, .tableswitch 0 6 14 #[], .iload 6, .iaload, .tableswitch 1 2 5 #[], .iinc 6 1, .goto 71] 106 = x_iload 6 (x_iload 5 (x_if_icmp .ge 106 K (x_aload 0 (x_g1 106 523 (x_aload 0 (x_g1 106 533 (x_iload 6 (x_iaload (x_aaload (x_aload 0 (x_g1 106 534 (x_iload 6 (x_iaload (x_p 102 5 0 999 (x_iinc 6 1 (x_goto 71 K)))))))))))))))) := ((xe_iload 6).trans (congrArg (x_iload 6) ((xe_iload 5).trans (congrArg (x_iload 5) ((xe_if_icmp .ge 106).trans (congrArg (x_if_icmp .ge 106 K) ((xe_aload 0).trans (congrArg (x_aload 0) ((xe_g1 (kk := 106) rfl tl_6_3).trans (congrArg (x_g1 106 523) ((xe_aload 0).trans (congrArg (x_aload 0) ((xe_g1 (kk := 106) rfl tl_6_13).trans (congrArg (x_g1 106 533) ((xe_iload 6).trans (congrArg (x_iload 6) ((xe_iaload).trans (congrArg (x_iaload) ((xe_aaload).trans (congrArg (x_aaload) ((xe_aload 0).trans (congrArg (x_aload 0) ((xe_g1 (kk := 106) rfl tl_6_14).trans (congrArg (x_g1 106 534) ((xe_iload 6).trans (congrArg (x_iload 6) ((xe_iaload).trans (congrArg (x_iaload) ((xe_p (kk := 102) rfl tl_2_5).trans (congrArg (x_p 102 5 0 999) ((xe_iinc 6 1).trans (congrArg (x_iinc 6 1) (xe_goto 71)))))))))))))))))))))))))))))))))
theorem bk_X6_putOff_106 : ck_ fX6 (some .int) cX6_putOff 106 [.aload 1, .iload 3, .tableswitch 1 2 5 #[], .iconst (-4), .ireturn] 114 = true := qck_r (nn_ _) (by decide +kernel)
theorem bs_X6_putOff_106 {P : Zt → Option Zv → Prop} (K : Int → Zl → List Zv → Zt → Prop) : sx_ K P [.aload 1, .iload 3, .tableswitch 1 2 5 #[], .iconst (-4), .ireturn] 114 = x_aload 1 (x_iload 3 (x_p 102 5 0 999 (x_iconst (-4) (x_ireturn P)))) := ((xe_aload 1).trans (congrArg (x_aload 1) ((xe_iload 3).trans (congrArg (x_iload 3) ((xe_p (kk := 102) rfl tl_2_5).trans (congrArg (x_p 102 5 0 999) ((xe_iconst (-4)).trans (congrArg (x_iconst (-4)) (xe_ireturn)))))))))
theorem bk_X6_putOff_117 : ck_ fX6 (some .int) cX6_putOff 117 [.iload 6, .iload 4, .if_icmp .ge 144, .aload 0, .tableswitch 0 6 11 #[], .iload 6, .aload 0, .tableswitch 0 6 13 #[], .iload 6, .iaload, .iastore, .iinc 6 1, .goto 117] 144 = true := qck_r (nn_ _) (by decide +kernel)
theorem bs_X6_putOff_117 {P : Zt → Option Zv → Prop} (K : Int → Zl → List Zv → Zt → Prop) : sx_ K P [.iload 6, .iload 4, .if_icmp .ge 144, .aload 0, .tableswitch 0 6 11 #[], .iload 6, .aload 0, .tableswitch 0 6 13 #[], .iload 6, .iaload, .iastore, .iinc 6 1, .goto 117] 144 = x_iload 6 (x_iload 4 (x_if_icmp .ge 144 K (x_aload 0 (x_g1 106 531 (x_iload 6 (x_aload 0 (x_g1 106 533 (x_iload 6 (x_iaload (x_iastore (x_iinc 6 1 (x_goto 117 K)))))))))))) := ((xe_iload 6).trans (congrArg (x_iload 6) ((xe_iload 4).trans (congrArg (x_iload 4) ((xe_if_icmp .ge 144).trans (congrArg (x_if_icmp .ge 144 K) ((xe_aload 0).trans (congrArg (x_aload 0) ((xe_g1 (kk := 106) rfl tl_6_11).trans (congrArg (x_g1 106 531) ((xe_iload 6).trans (congrArg (x_iload 6) ((xe_aload 0).trans (congrArg (x_aload 0) ((xe_g1 (kk := 106) rfl tl_6_13).trans (congrArg (x_g1 106 533) ((xe_iload 6).trans (congrArg (x_iload 6) ((xe_iaload).trans (congrArg (x_iaload) ((xe_iastore).trans (congrArg (x_iastore) ((xe_iinc 6 1).trans (congrArg (x_iinc 6 1) (xe_goto 117)))))))))))))))))))))))))
theorem bk_X6_putOff_144 : ck_ fX6 (some .int) cX6_putOff 144 [.aload 0, .iload 4, .tableswitch 1 6 12 #[], .iload 4, .ireturn] 153 = true := qck_r (nn_ _) (by decide +kernel)
theorem bs_X6_putOff_144 {P : Zt → Option Zv → Prop} (K : Int → Zl → List Zv → Zt → Prop) : sx_ K P [.aload 0, .iload 4, .tableswitch 1 6 12 #[], .iload 4, .ireturn] 153 = x_aload 0 (x_iload 4 (x_p 106 12 0 400 (x_iload 4 (x_ireturn P)))) := ((xe_aload 0).trans (congrArg (x_aload 0) ((xe_iload 4).trans (congrArg (x_iload 4) ((xe_p (kk := 106) rfl tl_6_12).trans (congrArg (x_p 106 12 0 400) ((xe_iload 4).trans (congrArg (x_iload 4) (xe_ireturn)))))))))
theorem bk_X6_putOff_20 : ck_ fX6 (some .int) cX6_putOff 20 [.iload 5, .iload 4, .if_icmp .ge 55, .aload 0, .aload 0, .tableswitch 0 6 3 #[], .aload 0, .tableswitch 0 6 13 #[], .iload 5, .iaload, .aaload, .iload 2, .iload 5] 43 = true := qck_r (nn_ _) (by decide +kernel)
theorem bs_X6_putOff_20 {P : Zt → Option Zv → Prop} (K : Int → Zl → List Zv → Zt → Prop) : sx_ K P [.iload 5, .iload 4, .if_icmp .ge 55, .aload 0, .aload 0, .tableswitch 0 6 3 #[], .aload 0, .tableswitch 0 6 13 #[], .iload 5, .iaload, .aaload, .iload 2, .iload 5] 43 = x_iload 5 (x_iload 4 (x_if_icmp .ge 55 K (x_aload 0 (x_aload 0 (x_g1 106 523 (x_aload 0 (x_g1 106 533 (x_iload 5 (x_iaload (x_aaload (x_iload 2 (x_iload 5 (K 43))))))))))))) := ((xe_iload 5).trans (congrArg (x_iload 5) ((xe_iload 4).trans (congrArg (x_iload 4) ((xe_if_icmp .ge 55).trans (congrArg (x_if_icmp .ge 55 K) ((xe_aload 0).trans (congrArg (x_aload 0) ((xe_aload 0).trans (congrArg (x_aload 0) ((xe_g1 (kk := 106) rfl tl_6_3).trans (congrArg (x_g1 106 523) ((xe_aload 0).trans (congrArg (x_aload 0) ((xe_g1 (kk := 106) rfl tl_6_13).trans (congrArg (x_g1 106 533) ((xe_iload 5).trans (congrArg (x_iload 5) ((xe_iaload).trans (congrArg (x_iaload) ((xe_aaload).trans (congrArg (x_aaload) ((xe_iload 2).trans (congrArg (x_iload 2) ((xe_iload 5).trans (congrArg (x_iload 5) xe_nil))))))))))))))))))))))))))
theorem bk_X6_putOff_55 : ck_ fX6 (some .int) cX6_putOff 55 [.iload 4, .iconst (-1), .if_icmp .eq 68, .iload 5, .iload 4, .if_icmp .ge 114, .iconst 0, .istore 6] 71 = true := qck_r (nn_ _) (by decide +kernel)
theorem bs_X6_putOff_55 {P : Zt → Option Zv → Prop} (K : Int → Zl → List Zv → Zt → Prop) : sx_ K P [.iload 4, .iconst (-1), .if_icmp .eq 68, .iload 5, .iload 4, .if_icmp .ge 114, .iconst 0, .istore 6] 71 = x_iload 4 (x_iconst (-1) (x_if_icmp .eq 68 K (x_iload 5 (x_iload 4 (x_if_icmp .ge 114 K (x_iconst 0 (x_istore 6 (K 71)))))))) := ((xe_iload 4).trans (congrArg (x_iload 4) ((xe_iconst (-1)).trans (congrArg (x_iconst (-1)) ((xe_if_icmp .eq 68).trans (congrArg (x_if_icmp .eq 68 K) ((xe_iload 5).trans (congrArg (x_iload 5) ((xe_iload 4).trans (congrArg (x_iload 4) ((xe_if_icmp .ge 114).trans (congrArg (x_if_icmp .ge 114 K) ((xe_iconst 0).trans (congrArg (x_iconst 0) ((xe_istore 6).trans (congrArg (x_istore 6) xe_nil))))))))))))))))
theorem bk_X6_putOff_68 : ck_ fX6 (some .int) cX6_putOff 68 [.iconst 0, .istore 6] 71 = true := qck_r (nn_ _) (by decide +kernel)
theorem bs_X6_putOff_68 {P : Zt → Option Zv → Prop} (K : Int → Zl → List Zv → Zt → Prop) : sx_ K P [.iconst 0, .istore 6] 71 = x_iconst 0 (x_istore 6 (K 71)) := ((xe_iconst 0).trans (congrArg (x_iconst 0) ((xe_istore 6).trans (congrArg (x_istore 6) xe_nil))))
theorem bk_X6_putOff_114 : ck_ fX6 (some .int) cX6_putOff 114 [.iconst 0, .istore 6] 117 = true := qck_r (nn_ _) (by decide +kernel)
theorem bs_X6_putOff_114 {P : Zt → Option Zv → Prop} (K : Int → Zl → List Zv → Zt → Prop) : sx_ K P [.iconst 0, .istore 6] 117 = x_iconst 0 (x_istore 6 (K 117)) := ((xe_iconst 0).trans (congrArg (x_iconst 0) ((xe_istore 6).trans (congrArg (x_istore 6) xe_nil))))
set_option maxRecDepth 100000 in
theorem cl_X6_102 : cv_ RX6 102 yX6_goBehind zX6_goBehind 6 3 := ⟨gi_V (lw_b4 107 (by decide +kernel) rfl : Cond.methodLink RX6 102 yX6_goBehind ∈ lw_g) (lw_b4 109 (by decide +kernel) rfl : Cond.instanceMethod yX6_goBehind ∈ lw_g) (lw_sel 122 rfl : Cond.selects yX6_goBehind.cls yX6_goBehind yX6_goBehind ∈ lw_g) (lw_b1 4 (by decide +kernel) rfl : Cond.initialized yX6_goBehind.cls ∈ lw_g) (lw_b4 110 rfl rfl : Cond.code yX6_goBehind cX6_goBehind 5 (some .boolean) ∈ lw_g), ⟨by decide, by decide, by decide +kernel⟩, ⟨_, _, rfl⟩⟩
theorem bk_X6_putOff_46 : ck_ fX6 (some .int) cX6_putOff 46 [.ifCond .eq 55, .iinc 5 1, .goto 20] 55 = true := qck_r (nn_ _) (by decide +kernel)
theorem bs_X6_putOff_46 {P : Zt → Option Zv → Prop} (K : Int → Zl → List Zv → Zt → Prop) : sx_ K P [.ifCond .eq 55, .iinc 5 1, .goto 20] 55 = x_ifCond .eq 55 K (x_iinc 5 1 (x_goto 20 K)) := ((xe_ifCond .eq 55).trans (congrArg (x_ifCond .eq 55 K) ((xe_iinc 5 1).trans (congrArg (x_iinc 5 1) (xe_goto 20)))))
theorem bk_X6_putOff_0 : ck_ fX6 (some .int) cX6_putOff 0 [.aload 1, .tableswitch 0 2 5 #[], .istore 3, .aload 1, .iload 2, .tableswitch 1 2 5 #[], .aload 0, .aload 1] 12 = true := qck_r (nn_ _) (by decide +kernel)
theorem bs_X6_putOff_0 {P : Zt → Option Zv → Prop} (K : Int → Zl → List Zv → Zt → Prop) : sx_ K P [.aload 1, .tableswitch 0 2 5 #[], .istore 3, .aload 1, .iload 2, .tableswitch 1 2 5 #[], .aload 0, .aload 1] 12 = x_aload 1 (x_g0 102 5 0 999 (x_istore 3 (x_aload 1 (x_iload 2 (x_p 102 5 0 999 (x_aload 0 (x_aload 1 (K 12)))))))) := ((xe_aload 1).trans (congrArg (x_aload 1) ((xe_g0 (kk := 102) rfl tl_2_5).trans (congrArg (x_g0 102 5 0 999) ((xe_istore 3).trans (congrArg (x_istore 3) ((xe_aload 1).trans (congrArg (x_aload 1) ((xe_iload 2).trans (congrArg (x_iload 2) ((xe_p (kk := 102) rfl tl_2_5).trans (congrArg (x_p 102 5 0 999) ((xe_aload 0).trans (congrArg (x_aload 0) ((xe_aload 1).trans (congrArg (x_aload 1) xe_nil))))))))))))))))
set_option maxRecDepth 100000 in
theorem cl_X6_98 : cv_ RX6 98 yX6_listAgainst zX6_listAgainst 6 1 := ⟨gi_V (lw_b4 85 (by decide +kernel) rfl : Cond.methodLink RX6 98 yX6_listAgainst ∈ lw_g) (lw_b4 87 (by decide +kernel) rfl : Cond.instanceMethod yX6_listAgainst ∈ lw_g) (lw_sel 124 rfl : Cond.selects yX6_listAgainst.cls yX6_listAgainst yX6_listAgainst ∈ lw_g) (lw_b1 4 (by decide +kernel) rfl : Cond.initialized yX6_listAgainst.cls ∈ lw_g) (lw_b4 88 rfl rfl : Cond.code yX6_listAgainst cX6_listAgainst 5 (some .int) ∈ lw_g), ⟨by decide, by decide, by decide +kernel⟩, ⟨_, _, rfl⟩⟩
theorem bk_X6_putOff_15 : ck_ fX6 (some .int) cX6_putOff 15 [.istore 4, .iconst 0, .istore 5] 20 = true := qck_r (nn_ _) (by decide +kernel)
theorem bs_X6_putOff_15 {P : Zt → Option Zv → Prop} (K : Int → Zl → List Zv → Zt → Prop) : sx_ K P [.istore 4, .iconst 0, .istore 5] 20 = x_istore 4 (x_iconst 0 (x_istore 5 (K 20))) := ((xe_istore 4).trans (congrArg (x_istore 4) ((xe_iconst 0).trans (congrArg (x_iconst 0) ((xe_istore 5).trans (congrArg (x_istore 5) xe_nil))))))
abbrev cX10_postpone : ByteArray := prog_1_method_16_code
def yX10_postpone : MethodName := ⟨RX10, "postpone", "(II)I"⟩
def zX10_postpone : Zm := (RX10, cX10_postpone, 4, (some .int), { frames := 5, cells := 0, slots := 0, locals := 118 })
theorem bk_X10_postpone_0 : ck_ fX10 (some .int) cX10_postpone 0 [.aload 0, .iload 1] 2 = true := qck_r (nn_ _) (by decide +kernel)
theorem bs_X10_postpone_0 {P : Zt → Option Zv → Prop} (K : Int → Zl → List Zv → Zt → Prop) : sx_ K P [.aload 0, .iload 1] 2 = x_aload 0 (x_iload 1 (K 2)) := ((xe_aload 0).trans (congrArg (x_aload 0) ((xe_iload 1).trans (congrArg (x_iload 1) xe_nil))))
theorem bk_X10_postpone_5 : ck_ fX10 (some .int) cX10_postpone 5 [.ifCond .ne 11, .iconst (-2), .ireturn] 11 = true := qck_r (nn_ _) (by decide +kernel)
theorem bs_X10_postpone_5 {P : Zt → Option Zv → Prop} (K : Int → Zl → List Zv → Zt → Prop) : sx_ K P [.ifCond .ne 11, .iconst (-2), .ireturn] 11 = x_ifCond .ne 11 K (x_iconst (-2) (x_ireturn P)) := ((xe_ifCond .ne 11).trans (congrArg (x_ifCond .ne 11 K) ((xe_iconst (-2)).trans (congrArg (x_iconst (-2)) (xe_ireturn)))))
theorem bk_X10_postpone_11 : ck_ fX10 (some .int) cX10_postpone 11 [.iload 2] 12 = true := qck_r (nn_ _) (by decide +kernel)
theorem bs_X10_postpone_11 {P : Zt → Option Zv → Prop} (K : Int → Zl → List Zv → Zt → Prop) : sx_ K P [.iload 2] 12 = x_iload 2 (K 12) := ((xe_iload 2).trans (congrArg (x_iload 2) xe_nil))
theorem bk_X10_postpone_15 : ck_ fX10 (some .int) cX10_postpone 15 [.ifCond .eq 29, .iload 2, .aload 0, .tableswitch 0 10 1 #[], .tableswitch 0 8 13 #[], .if_icmp .gt 32, .iconst (-3), .ireturn] 32 = true := qck_r (nn_ _) (by decide +kernel)
theorem bs_X10_postpone_15 {P : Zt → Option Zv → Prop} (K : Int → Zl → List Zv → Zt → Prop) : sx_ K P [.ifCond .eq 29, .iload 2, .aload 0, .tableswitch 0 10 1 #[], .tableswitch 0 8 13 #[], .if_icmp .gt 32, .iconst (-3), .ireturn] 32 = x_ifCond .eq 29 K (x_iload 2 (x_aload 0 (x_g1 110 108 (x_g0 108 13 0 999 (x_if_icmp .gt 32 K (x_iconst (-3) (x_ireturn P))))))) := ((xe_ifCond .eq 29).trans (congrArg (x_ifCond .eq 29 K) ((xe_iload 2).trans (congrArg (x_iload 2) ((xe_aload 0).trans (congrArg (x_aload 0) ((xe_g1 (kk := 110) rfl tl_10_1).trans (congrArg (x_g1 110 108) ((xe_g0 (kk := 108) rfl tl_8_13).trans (congrArg (x_g0 108 13 0 999) ((xe_if_icmp .gt 32).trans (congrArg (x_if_icmp .gt 32 K) ((xe_iconst (-3)).trans (congrArg (x_iconst (-3)) (xe_ireturn)))))))))))))))
theorem bk_X10_postpone_29 : ck_ fX10 (some .int) cX10_postpone 29 [.iconst (-3), .ireturn] 32 = true := qck_r (nn_ _) (by decide +kernel)
theorem bs_X10_postpone_29 {P : Zt → Option Zv → Prop} (K : Int → Zl → List Zv → Zt → Prop) : sx_ K P [.iconst (-3), .ireturn] 32 = x_iconst (-3) (x_ireturn P) := ((xe_iconst (-3)).trans (congrArg (x_iconst (-3)) (xe_ireturn)))
theorem bk_X10_postpone_32 : ck_ fX10 (some .int) cX10_postpone 32 [.aload 0, .tableswitch 0 10 2 #[], .tableswitch 0 6 3 #[], .iload 1, .aaload, .astore 3, .aload 3] 43 = true := qck_r (nn_ _) (by decide +kernel)
theorem bs_X10_postpone_32 {P : Zt → Option Zv → Prop} (K : Int → Zl → List Zv → Zt → Prop) : sx_ K P [.aload 0, .tableswitch 0 10 2 #[], .tableswitch 0 6 3 #[], .iload 1, .aaload, .astore 3, .aload 3] 43 = x_aload 0 (x_g1 110 106 (x_g1 106 523 (x_iload 1 (x_aaload (x_astore 3 (x_aload 3 (K 43))))))) := ((xe_aload 0).trans (congrArg (x_aload 0) ((xe_g1 (kk := 110) rfl tl_10_2).trans (congrArg (x_g1 110 106) ((xe_g1 (kk := 106) rfl tl_6_3).trans (congrArg (x_g1 106 523) ((xe_iload 1).trans (congrArg (x_iload 1) ((xe_aaload).trans (congrArg (x_aaload) ((xe_astore 3).trans (congrArg (x_astore 3) ((xe_aload 3).trans (congrArg (x_aload 3) xe_nil))))))))))))))
theorem bk_X10_postpone_46 : ck_ fX10 (some .int) cX10_postpone 46 [.ifCond .ne 57, .aload 3, .tableswitch 0 2 5 #[], .iload 2, .if_icmp .ne 60, .iconst (-4), .ireturn] 60 = true := qck_r (nn_ _) (by decide +kernel)
theorem bs_X10_postpone_46 {P : Zt → Option Zv → Prop} (K : Int → Zl → List Zv → Zt → Prop) : sx_ K P [.ifCond .ne 57, .aload 3, .tableswitch 0 2 5 #[], .iload 2, .if_icmp .ne 60, .iconst (-4), .ireturn] 60 = x_ifCond .ne 57 K (x_aload 3 (x_g0 102 5 0 999 (x_iload 2 (x_if_icmp .ne 60 K (x_iconst (-4) (x_ireturn P)))))) := ((xe_ifCond .ne 57).trans (congrArg (x_ifCond .ne 57 K) ((xe_aload 3).trans (congrArg (x_aload 3) ((xe_g0 (kk := 102) rfl tl_2_5).trans (congrArg (x_g0 102 5 0 999) ((xe_iload 2).trans (congrArg (x_iload 2) ((xe_if_icmp .ne 60).trans (congrArg (x_if_icmp .ne 60 K) ((xe_iconst (-4)).trans (congrArg (x_iconst (-4)) (xe_ireturn)))))))))))))
theorem bk_X10_postpone_57 : ck_ fX10 (some .int) cX10_postpone 57 [.iconst (-4), .ireturn] 60 = true := qck_r (nn_ _) (by decide +kernel)
theorem bs_X10_postpone_57 {P : Zt → Option Zv → Prop} (K : Int → Zl → List Zv → Zt → Prop) : sx_ K P [.iconst (-4), .ireturn] 60 = x_iconst (-4) (x_ireturn P) := ((xe_iconst (-4)).trans (congrArg (x_iconst (-4)) (xe_ireturn)))
theorem bk_X10_postpone_60 : ck_ fX10 (some .int) cX10_postpone 60 [.aload 0, .tableswitch 0 10 2 #[], .aload 3, .iload 2] 66 = true := qck_r (nn_ _) (by decide +kernel)
theorem bs_X10_postpone_60 {P : Zt → Option Zv → Prop} (K : Int → Zl → List Zv → Zt → Prop) : sx_ K P [.aload 0, .tableswitch 0 10 2 #[], .aload 3, .iload 2] 66 = x_aload 0 (x_g1 110 106 (x_aload 3 (x_iload 2 (K 66)))) := ((xe_aload 0).trans (congrArg (x_aload 0) ((xe_g1 (kk := 110) rfl tl_10_2).trans (congrArg (x_g1 110 106) ((xe_aload 3).trans (congrArg (x_aload 3) ((xe_iload 2).trans (congrArg (x_iload 2) xe_nil))))))))
set_option maxRecDepth 100000 in
theorem cl_X10_234 : cv_ RX10 234 yX6_putOff zX6_putOff 6 2 := ⟨gi_V (lw_b4 81 (by decide +kernel) rfl : Cond.methodLink RX10 234 yX6_putOff ∈ lw_g) (lw_b4 82 (by decide +kernel) rfl : Cond.instanceMethod yX6_putOff ∈ lw_g) (lw_b4 83 (by decide +kernel) rfl : Cond.selects yX6_putOff.cls yX6_putOff yX6_putOff ∈ lw_g) (lw_b1 4 (by decide +kernel) rfl : Cond.initialized yX6_putOff.cls ∈ lw_g) (lw_b4 84 rfl rfl : Cond.code yX6_putOff cX6_putOff 7 (some .int) ∈ lw_g), ⟨by decide, by decide, by decide +kernel⟩, ⟨_, _, rfl⟩⟩
theorem bk_X10_postpone_69 : ck_ fX10 (some .int) cX10_postpone 69 [.ireturn] 70 = true := qck_r (nn_ _) (by decide +kernel)
theorem bs_X10_postpone_69 {P : Zt → Option Zv → Prop} (K : Int → Zl → List Zv → Zt → Prop) : sx_ K P [.ireturn] 70 = x_ireturn P := (xe_ireturn)
theorem us_1c {x : Int} : us_ x 1 = x % 4294967296 / 2 := by
  have a : ((Int32.ofInt x).toUInt32.toBitVec).toNat = (x % 4294967296).toNat := by
    show (BitVec.ofInt 32 x).toNat = _
    rw [BitVec.toNat_ofInt]; rfl
  have s : ((Int32.ofInt 1).toUInt32 &&& Int32.toUInt32 31) = 1 := by decide
  unfold us_
  rw [s]
  have b : (((Int32.ofInt x).toUInt32 >>> (1 : UInt32)).toBitVec).toNat = (x % 4294967296).toNat / 2 := by
    show ((Int32.ofInt x).toUInt32.toBitVec >>> (1 : BitVec 32)).toNat = _
    rw [BitVec.ushiftRight_eq', BitVec.toNat_ushiftRight, a]
    show (x % 4294967296).toNat >>> 1 = _
    rw [Nat.shiftRight_eq_div_pow]
  show (((Int32.ofInt x).toUInt32 >>> (1 : UInt32)).toBitVec).toInt = _
  rw [BitVec.toInt_eq_toNat_cond, b]
  split <;> omega
abbrev cX1_openNew : ByteArray := prog_3_method_2_code
def yX1_openNew : MethodName := ⟨RX1, "openNew", "(II)V"⟩
def zX1_openNew : Zm := (RX1, cX1_openNew, 3, none, { frames := 1, cells := 0, slots := 0, locals := 23 })
theorem bk_X1_openNew_0 : ck_ fX1 none cX1_openNew 0 [.aload 0, .iload 1, .tableswitch 1 1 1 #[], .aload 0, .iload 2, .tableswitch 1 1 2 #[], .aload 0, .iconst 0, .tableswitch 1 1 3 #[], .aload 0, .iconst 0, .tableswitch 1 1 4 #[], .aload 0, .iconst 0, .tableswitch 1 1 7 #[], .aload 0, .tableswitch 0 1 8 #[], .iconst (-1)] 30 = true := qck_r (nn_ _) (by decide +kernel)
theorem bs_X1_openNew_0 {P : Zt → Option Zv → Prop} (K : Int → Zl → List Zv → Zt → Prop) : sx_ K P [.aload 0, .iload 1, .tableswitch 1 1 1 #[], .aload 0, .iload 2, .tableswitch 1 1 2 #[], .aload 0, .iconst 0, .tableswitch 1 1 3 #[], .aload 0, .iconst 0, .tableswitch 1 1 4 #[], .aload 0, .iconst 0, .tableswitch 1 1 7 #[], .aload 0, .tableswitch 0 1 8 #[], .iconst (-1)] 30 = x_aload 0 (x_iload 1 (x_p 101 1 0 4 (x_aload 0 (x_iload 2 (x_p 101 2 0 3 (x_aload 0 (x_iconst 0 (x_p 101 3 (-2147483648) 2147483647 (x_aload 0 (x_iconst 0 (x_p 101 4 (-2147483648) 2147483647 (x_aload 0 (x_iconst 0 (x_p 101 7 0 1 (x_aload 0 (x_g1 101 428 (x_iconst (-1) (K 30)))))))))))))))))) := ((xe_aload 0).trans (congrArg (x_aload 0) ((xe_iload 1).trans (congrArg (x_iload 1) ((xe_p (kk := 101) rfl tl_1_1).trans (congrArg (x_p 101 1 0 4) ((xe_aload 0).trans (congrArg (x_aload 0) ((xe_iload 2).trans (congrArg (x_iload 2) ((xe_p (kk := 101) rfl tl_1_2).trans (congrArg (x_p 101 2 0 3) ((xe_aload 0).trans (congrArg (x_aload 0) ((xe_iconst 0).trans (congrArg (x_iconst 0) ((xe_p (kk := 101) rfl tl_1_3).trans (congrArg (x_p 101 3 (-2147483648) 2147483647) ((xe_aload 0).trans (congrArg (x_aload 0) ((xe_iconst 0).trans (congrArg (x_iconst 0) ((xe_p (kk := 101) rfl tl_1_4).trans (congrArg (x_p 101 4 (-2147483648) 2147483647) ((xe_aload 0).trans (congrArg (x_aload 0) ((xe_iconst 0).trans (congrArg (x_iconst 0) ((xe_p (kk := 101) rfl tl_1_7).trans (congrArg (x_p 101 7 0 1) ((xe_aload 0).trans (congrArg (x_aload 0) ((xe_g1 (kk := 101) rfl tl_1_8).trans (congrArg (x_g1 101 428) ((xe_iconst (-1)).trans (congrArg (x_iconst (-1)) xe_nil))))))))))))))))))))))))))))))))))))
set_option maxRecDepth 100000 in
theorem cl_X1_54 : cs_ RX1 54 yJ7_fill_53178 zJ7_fill_53178 2 := ⟨gi_S (lw_b6 129 (by decide +kernel) rfl : Cond.methodLink RX1 54 yJ7_fill_53178 ∈ lw_g) (lw_b2 26 (by decide +kernel) rfl : Cond.static yJ7_fill_53178 ∈ lw_g) (lw_b1 7 (by decide +kernel) rfl : Cond.initialized yJ7_fill_53178.cls ∈ lw_g) (lw_b2 27 rfl rfl : Cond.code yJ7_fill_53178 cJ7_fill_53178 4 none ∈ lw_g), ⟨by decide, by decide, by decide +kernel⟩⟩
theorem bk_X1_openNew_33 : ck_ fX1 none cX1_openNew 33 [.aload 0, .tableswitch 0 1 9 #[], .iconst (-1)] 38 = true := qck_r (nn_ _) (by decide +kernel)
theorem bs_X1_openNew_33 {P : Zt → Option Zv → Prop} (K : Int → Zl → List Zv → Zt → Prop) : sx_ K P [.aload 0, .tableswitch 0 1 9 #[], .iconst (-1)] 38 = x_aload 0 (x_g1 101 429 (x_iconst (-1) (K 38))) := ((xe_aload 0).trans (congrArg (x_aload 0) ((xe_g1 (kk := 101) rfl tl_1_9).trans (congrArg (x_g1 101 429) ((xe_iconst (-1)).trans (congrArg (x_iconst (-1)) xe_nil))))))
theorem bk_X1_openNew_41 : ck_ fX1 none cX1_openNew 41 [.aload 0, .tableswitch 0 1 10 #[], .iconst 0] 46 = true := qck_r (nn_ _) (by decide +kernel)
theorem bs_X1_openNew_41 {P : Zt → Option Zv → Prop} (K : Int → Zl → List Zv → Zt → Prop) : sx_ K P [.aload 0, .tableswitch 0 1 10 #[], .iconst 0] 46 = x_aload 0 (x_g1 101 430 (x_iconst 0 (K 46))) := ((xe_aload 0).trans (congrArg (x_aload 0) ((xe_g1 (kk := 101) rfl tl_1_10).trans (congrArg (x_g1 101 430) ((xe_iconst 0).trans (congrArg (x_iconst 0) xe_nil))))))
theorem bk_X1_openNew_49 : ck_ fX1 none cX1_openNew 49 [.return_] 50 = true := qck_r (nn_ _) (by decide +kernel)
theorem bs_X1_openNew_49 {P : Zt → Option Zv → Prop} (K : Int → Zl → List Zv → Zt → Prop) : sx_ K P [.return_] 50 = x_return_ P := (xe_return_)
abbrev po_X1_openNew (T : Zt) (g l : Int) : Zt → Option Zv → Prop := fun T' r => r = none ∧ fr_ [(101, [1, 2, 3, 4, 7]), (428, []), (429, []), (430, [])] T T' ∧ (T' 101 0 1 = g)
set_option maxHeartbeats 4000000 in
theorem ct_X1_openNew {T : Zt} {g l : Int} (h1 : 0 ≤ g ∧ g ≤ 4) (h2 : 0 ≤ l ∧ l ≤ 3) : Ct_ yX1_openNew zX1_openNew T [vR 101 0, vI g, vI l] (po_X1_openNew T g l) := by
  refine ct_of pn_1 rfl rfl (Nat.le_of_ble_eq_true rfl) (fun hT hav => ?_)
  have hr_g : -2147483648 ≤ g ∧ g ≤ 2147483647 := hav (vI g) (by simp)
  have hr_l : -2147483648 ≤ l ∧ l ≤ 2147483647 := hav (vI l) (by simp)
  have hz : zX1_openNew.2.2.2.1 = some .boolean → ∀ (T' : Zt) (x : Int), po_X1_openNew T g l T' (some (vI x)) → 0 ≤ x ∧ x ≤ 1 := fun h => by cases h
  show J_ zX1_openNew T (po_X1_openNew T g l) 0 0 0 [some (vR 101 0), some (vI g), some (vI l)] [] T
  refine j_blx (F := fX1) tb_X1 (nn_ _) bk_X1_openNew_0 bs_X1_openNew_0 hz (fun K hK => ?_)
  refine bd_i (by omega) ?_
  refine x_nm (fun U1 hU1 => ?_)
  have e2 := up_f hU1
  refine bd_i (by omega) ?_
  refine x_nm (fun U3 hU3 => ?_)
  have e4 := up_f hU3
  refine bd_i (by omega) ?_
  refine x_nm (fun U5 hU5 => ?_)
  have e6 := up_f hU5
  refine bd_i (by omega) ?_
  refine x_nm (fun U7 hU7 => ?_)
  have e8 := up_f hU7
  refine bd_i (by omega) ?_
  refine x_nm (fun U9 hU9 => ?_)
  have e10 := up_f hU9
  refine hK 30 _ [vI (-1), vR 428 0] U9 ?_
  refine j_callS (y := yJ7_fill_53178) (Yc := zJ7_fill_53178) (rest := []) [vR 428 0, vI (-1)] (ct_J7_fill_428 (T := U9) (by omega)) cl_X1_54 (qd_c (by decide +kernel)) (nn_ _) rfl (rf_of rfl) (Nat.le_of_ble_eq_true rfl) (Nat.le_of_ble_eq_true rfl) (Nat.le_of_ble_eq_true rfl) rfl ?_
  rintro U11 _ ⟨rfl, fU11, qU11o, qU11⟩
  show J_ zX1_openNew T (po_X1_openNew T g l) 0 0 33 _ [] U11
  refine j_blx (F := fX1) tb_X1 (nn_ _) bk_X1_openNew_33 bs_X1_openNew_33 hz (fun K hK => ?_)
  refine hK 38 _ [vI (-1), vR 429 0] U11 ?_
  refine j_callS (y := yJ7_fill_53178) (Yc := zJ7_fill_53178) (rest := []) [vR 429 0, vI (-1)] (ct_J7_fill_429 (T := U11) (by omega)) cl_X1_54 (qd_c (by decide +kernel)) (nn_ _) rfl (rf_of rfl) (Nat.le_of_ble_eq_true rfl) (Nat.le_of_ble_eq_true rfl) (Nat.le_of_ble_eq_true rfl) rfl ?_
  rintro U12 _ ⟨rfl, fU12, qU12o, qU12⟩
  show J_ zX1_openNew T (po_X1_openNew T g l) 0 0 41 _ [] U12
  refine j_blx (F := fX1) tb_X1 (nn_ _) bk_X1_openNew_41 bs_X1_openNew_41 hz (fun K hK => ?_)
  refine hK 46 _ [vI 0, vR 430 0] U12 ?_
  refine j_callS (y := yJ7_fill_53178) (Yc := zJ7_fill_53178) (rest := []) [vR 430 0, vI 0] (ct_J7_fill_430 (T := U12) (by omega)) cl_X1_54 (qd_c (by decide +kernel)) (nn_ _) rfl (rf_of rfl) (Nat.le_of_ble_eq_true rfl) (Nat.le_of_ble_eq_true rfl) (Nat.le_of_ble_eq_true rfl) rfl ?_
  rintro U13 _ ⟨rfl, fU13, qU13o, qU13⟩
  show J_ zX1_openNew T (po_X1_openNew T g l) 0 0 49 _ [] U13
  refine j_blx (F := fX1) tb_X1 (nn_ _) bk_X1_openNew_49 bs_X1_openNew_49 hz (fun K hK => ?_)
  refine (show po_X1_openNew T g l U13 (none) from ?_)
  have e14 : U13 101 0 1 = g := (fU13 101 0 1 rfl).trans ((fU12 101 0 1 rfl).trans ((fU11 101 0 1 rfl).trans ((up_j hU9 (by exact ni_ rfl) 101 0).trans ((up_j hU7 (by exact ni_ rfl) 101 0).trans ((up_j hU5 (by exact ni_ rfl) 101 0).trans ((up_j hU3 (by exact ni_ rfl) 101 0).trans (up_f hU1)))))))
  exact ⟨rfl, fr_t (fr_t (fr_t (fr_u (fr_u (fr_u (fr_u (fr_u (fr_0 _ _) hU1 rfl) hU3 rfl) hU5 rfl) hU7 rfl) hU9 rfl) (fr_s fU11 rfl)) (fr_s fU12 rfl)) (fr_s fU13 rfl), by omega⟩
abbrev cX10_drawing : ByteArray := prog_1_method_36_code
def yX10_drawing : MethodName := ⟨RX10, "drawing", "(II)I"⟩
def zX10_drawing : Zm := (RX10, cX10_drawing, 3, (some .int), { frames := 2, cells := 0, slots := 0, locals := 45 })
theorem bk_X10_drawing_0 : ck_ fX10 (some .int) cX10_drawing 0 [.iload 1, .iconst 1, .if_icmp .lt 20, .iload 1, .iconst 4, .if_icmp .gt 20, .iload 2, .iconst 1, .if_icmp .lt 20, .iload 2, .iconst 3, .if_icmp .le 23, .iconst (-3), .ireturn] 23 = true := qck_r (nn_ _) (by decide +kernel)
theorem bs_X10_drawing_0 {P : Zt → Option Zv → Prop} (K : Int → Zl → List Zv → Zt → Prop) : sx_ K P [.iload 1, .iconst 1, .if_icmp .lt 20, .iload 1, .iconst 4, .if_icmp .gt 20, .iload 2, .iconst 1, .if_icmp .lt 20, .iload 2, .iconst 3, .if_icmp .le 23, .iconst (-3), .ireturn] 23 = x_iload 1 (x_iconst 1 (x_if_icmp .lt 20 K (x_iload 1 (x_iconst 4 (x_if_icmp .gt 20 K (x_iload 2 (x_iconst 1 (x_if_icmp .lt 20 K (x_iload 2 (x_iconst 3 (x_if_icmp .le 23 K (x_iconst (-3) (x_ireturn P))))))))))))) := ((xe_iload 1).trans (congrArg (x_iload 1) ((xe_iconst 1).trans (congrArg (x_iconst 1) ((xe_if_icmp .lt 20).trans (congrArg (x_if_icmp .lt 20 K) ((xe_iload 1).trans (congrArg (x_iload 1) ((xe_iconst 4).trans (congrArg (x_iconst 4) ((xe_if_icmp .gt 20).trans (congrArg (x_if_icmp .gt 20 K) ((xe_iload 2).trans (congrArg (x_iload 2) ((xe_iconst 1).trans (congrArg (x_iconst 1) ((xe_if_icmp .lt 20).trans (congrArg (x_if_icmp .lt 20 K) ((xe_iload 2).trans (congrArg (x_iload 2) ((xe_iconst 3).trans (congrArg (x_iconst 3) ((xe_if_icmp .le 23).trans (congrArg (x_if_icmp .le 23 K) ((xe_iconst (-3)).trans (congrArg (x_iconst (-3)) (xe_ireturn)))))))))))))))))))))))))))
theorem bk_X10_drawing_20 : ck_ fX10 (some .int) cX10_drawing 20 [.iconst (-3), .ireturn] 23 = true := qck_r (nn_ _) (by decide +kernel)
theorem bs_X10_drawing_20 {P : Zt → Option Zv → Prop} (K : Int → Zl → List Zv → Zt → Prop) : sx_ K P [.iconst (-3), .ireturn] 23 = x_iconst (-3) (x_ireturn P) := ((xe_iconst (-3)).trans (congrArg (x_iconst (-3)) (xe_ireturn)))
theorem bk_X10_drawing_23 : ck_ fX10 (some .int) cX10_drawing 23 [.aload 0, .tableswitch 0 10 5 #[], .iload 1, .iload 2] 29 = true := qck_r (nn_ _) (by decide +kernel)
theorem bs_X10_drawing_23 {P : Zt → Option Zv → Prop} (K : Int → Zl → List Zv → Zt → Prop) : sx_ K P [.aload 0, .tableswitch 0 10 5 #[], .iload 1, .iload 2] 29 = x_aload 0 (x_g1 110 101 (x_iload 1 (x_iload 2 (K 29)))) := ((xe_aload 0).trans (congrArg (x_aload 0) ((xe_g1 (kk := 110) rfl tl_10_5).trans (congrArg (x_g1 110 101) ((xe_iload 1).trans (congrArg (x_iload 1) ((xe_iload 2).trans (congrArg (x_iload 2) xe_nil))))))))
set_option maxRecDepth 100000 in
theorem cl_X10_380 : cv_ RX10 380 yX1_openNew zX1_openNew 1 2 := ⟨gi_V (lw_b6 125 (by decide +kernel) rfl : Cond.methodLink RX10 380 yX1_openNew ∈ lw_g) (lw_b6 126 (by decide +kernel) rfl : Cond.instanceMethod yX1_openNew ∈ lw_g) (lw_b6 127 (by decide +kernel) rfl : Cond.selects yX1_openNew.cls yX1_openNew yX1_openNew ∈ lw_g) (lw_b1 8 (by decide +kernel) rfl : Cond.initialized yX1_openNew.cls ∈ lw_g) (lw_b6 128 rfl rfl : Cond.code yX1_openNew cX1_openNew 3 none ∈ lw_g), ⟨by decide, by decide, by decide +kernel⟩, ⟨_, _, rfl⟩⟩
theorem bk_X10_drawing_32 : ck_ fX10 (some .int) cX10_drawing 32 [.iconst 1, .ireturn] 34 = true := qck_r (nn_ _) (by decide +kernel)
theorem bs_X10_drawing_32 {P : Zt → Option Zv → Prop} (K : Int → Zl → List Zv → Zt → Prop) : sx_ K P [.iconst 1, .ireturn] 34 = x_iconst 1 (x_ireturn P) := ((xe_iconst 1).trans (congrArg (x_iconst 1) (xe_ireturn)))
abbrev po_X10_drawing (T : Zt) (g l : Int) : Zt → Option Zv → Prop := fun T' r => ∃ x : Int, r = some (vI x) ∧ fr_ [(101, [1, 2, 3, 4, 7]), (428, []), (429, []), (430, [])] T T' ∧ ((x = -3 ∧ ¬ (1 ≤ g ∧ g ≤ 4 ∧ 1 ≤ l ∧ l ≤ 3)) ∨ (x = 1 ∧ 1 ≤ g ∧ g ≤ 4 ∧ 1 ≤ l ∧ l ≤ 3))
set_option maxHeartbeats 4000000 in
theorem ct_X10_drawing {T : Zt} {g l : Int} : Ct_ yX10_drawing zX10_drawing T [vR 110 0, vI g, vI l] (po_X10_drawing T g l) := by
  refine ct_of pn_10 rfl rfl (Nat.le_of_ble_eq_true rfl) (fun hT hav => ?_)
  have hr_g : -2147483648 ≤ g ∧ g ≤ 2147483647 := hav (vI g) (by simp)
  have hr_l : -2147483648 ≤ l ∧ l ≤ 2147483647 := hav (vI l) (by simp)
  have hz : zX10_drawing.2.2.2.1 = some .boolean → ∀ (T' : Zt) (x : Int), po_X10_drawing T g l T' (some (vI x)) → 0 ≤ x ∧ x ≤ 1 := fun h => by cases h
  show J_ zX10_drawing T (po_X10_drawing T g l) 0 0 0 [some (vR 110 0), some (vI g), some (vI l)] [] T
  refine j_blx (F := fX10) tb_X10 (nn_ _) bk_X10_drawing_0 bs_X10_drawing_0 hz (fun K hK => ?_)
  refine And.intro (fun c1 => ?_) (fun c1 => ?_)
  · refine hK 20 _ [] T ?_
    refine j_blx (F := fX10) tb_X10 (nn_ _) bk_X10_drawing_20 bs_X10_drawing_20 hz (fun K hK => ?_)
    refine (show po_X10_drawing T g l T (some (vI (-3))) from ?_)
    exact ⟨_, rfl, fr_0 _ _, by omega⟩
  · refine And.intro (fun c2 => ?_) (fun c2 => ?_)
    · refine hK 20 _ [] T ?_
      refine j_blx (F := fX10) tb_X10 (nn_ _) bk_X10_drawing_20 bs_X10_drawing_20 hz (fun K hK => ?_)
      refine (show po_X10_drawing T g l T (some (vI (-3))) from ?_)
      exact ⟨_, rfl, fr_0 _ _, by omega⟩
    · refine And.intro (fun c3 => ?_) (fun c3 => ?_)
      · refine hK 20 _ [] T ?_
        refine j_blx (F := fX10) tb_X10 (nn_ _) bk_X10_drawing_20 bs_X10_drawing_20 hz (fun K hK => ?_)
        refine (show po_X10_drawing T g l T (some (vI (-3))) from ?_)
        exact ⟨_, rfl, fr_0 _ _, by omega⟩
      · refine And.intro (fun c4 => ?_) (fun c4 => ?_)
        · refine hK 23 _ [] T ?_
          refine j_blx (F := fX10) tb_X10 (nn_ _) bk_X10_drawing_23 bs_X10_drawing_23 hz (fun K hK => ?_)
          refine hK 29 _ [vI l, vI g, vR 101 0] T ?_
          refine j_callV (y := yX1_openNew) (Yc := zX1_openNew) (rest := []) [vI g, vI l] (ct_X1_openNew (T := T) (by omega) (by omega)) cl_X10_380 (qd_c (by decide +kernel)) (nn_ _) rfl (rf_of rfl) (Nat.le_of_ble_eq_true rfl) (Nat.le_of_ble_eq_true rfl) (Nat.le_of_ble_eq_true rfl) rfl ?_
          rintro U5 _ ⟨rfl, fU5, qU5⟩
          show J_ zX10_drawing T (po_X10_drawing T g l) 0 0 32 _ [] U5
          refine j_blx (F := fX10) tb_X10 (nn_ _) bk_X10_drawing_32 bs_X10_drawing_32 hz (fun K hK => ?_)
          refine (show po_X10_drawing T g l U5 (some (vI 1)) from ?_)
          exact ⟨_, rfl, fr_t (fr_0 _ _) (fr_s fU5 rfl), by omega⟩
        · refine (show po_X10_drawing T g l T (some (vI (-3))) from ?_)
          exact ⟨_, rfl, fr_0 _ _, by omega⟩
abbrev cX1_putIn : ByteArray := prog_3_method_3_code
def yX1_putIn : MethodName := ⟨RX1, "putIn", "(II)V"⟩
def zX1_putIn : Zm := (RX1, cX1_putIn, 3, none, { frames := 0, cells := 0, slots := 0, locals := 0 })
theorem bk_X1_putIn_0 : ck_ fX1 none cX1_putIn 0 [.aload 0, .tableswitch 0 1 8 #[], .iload 1, .iload 2, .iastore, .aload 0, .tableswitch 0 1 10 #[], .iload 2, .dup2, .iaload, .iconst 1, .iadd, .iastore, .aload 0, .dup, .tableswitch 0 1 3 #[], .iconst 1, .fadd, .tableswitch 1 1 3 #[], .aload 0, .iconst 0, .tableswitch 1 1 7 #[], .return_] 33 = true := qck_r (nn_ _) (by decide +kernel)
theorem bs_X1_putIn_0 {P : Zt → Option Zv → Prop} (K : Int → Zl → List Zv → Zt → Prop) : sx_ K P [.aload 0, .tableswitch 0 1 8 #[], .iload 1, .iload 2, .iastore, .aload 0, .tableswitch 0 1 10 #[], .iload 2, .dup2, .iaload, .iconst 1, .iadd, .iastore, .aload 0, .dup, .tableswitch 0 1 3 #[], .iconst 1, .fadd, .tableswitch 1 1 3 #[], .aload 0, .iconst 0, .tableswitch 1 1 7 #[], .return_] 33 = x_aload 0 (x_g1 101 428 (x_iload 1 (x_iload 2 (x_iastore (x_aload 0 (x_g1 101 430 (x_iload 2 (x_dup2 (x_iaload (x_iconst 1 (x_iadd (x_iastore (x_aload 0 (x_dup (x_g0 101 3 (-2147483648) 2147483647 (x_iconst 1 (x_fadd (x_p 101 3 (-2147483648) 2147483647 (x_aload 0 (x_iconst 0 (x_p 101 7 0 1 (x_return_ P)))))))))))))))))))))) := ((xe_aload 0).trans (congrArg (x_aload 0) ((xe_g1 (kk := 101) rfl tl_1_8).trans (congrArg (x_g1 101 428) ((xe_iload 1).trans (congrArg (x_iload 1) ((xe_iload 2).trans (congrArg (x_iload 2) ((xe_iastore).trans (congrArg (x_iastore) ((xe_aload 0).trans (congrArg (x_aload 0) ((xe_g1 (kk := 101) rfl tl_1_10).trans (congrArg (x_g1 101 430) ((xe_iload 2).trans (congrArg (x_iload 2) ((xe_dup2).trans (congrArg (x_dup2) ((xe_iaload).trans (congrArg (x_iaload) ((xe_iconst 1).trans (congrArg (x_iconst 1) ((xe_iadd).trans (congrArg (x_iadd) ((xe_iastore).trans (congrArg (x_iastore) ((xe_aload 0).trans (congrArg (x_aload 0) ((xe_dup).trans (congrArg (x_dup) ((xe_g0 (kk := 101) rfl tl_1_3).trans (congrArg (x_g0 101 3 (-2147483648) 2147483647) ((xe_iconst 1).trans (congrArg (x_iconst 1) ((xe_fadd).trans (congrArg (x_fadd) ((xe_p (kk := 101) rfl tl_1_3).trans (congrArg (x_p 101 3 (-2147483648) 2147483647) ((xe_aload 0).trans (congrArg (x_aload 0) ((xe_iconst 0).trans (congrArg (x_iconst 0) ((xe_p (kk := 101) rfl tl_1_7).trans (congrArg (x_p 101 7 0 1) (xe_return_)))))))))))))))))))))))))))))))))))))))))))))
abbrev po_X1_putIn (T : Zt) (c k : Int) : Zt → Option Zv → Prop := fun T' r => r = none ∧ fr_ [(428, []), (430, []), (101, [3, 7])] T T' ∧ (0 = (0 : Int))
set_option maxHeartbeats 4000000 in
theorem ct_X1_putIn {T : Zt} {c k : Int} (h1 : 0 ≤ c ∧ c < 12) (h2 : 0 ≤ k ∧ k ≤ 2) (h3 : T 430 0 k < 4) : Ct_ yX1_putIn zX1_putIn T [vR 101 0, vI c, vI k] (po_X1_putIn T c k) := by
  refine ct_of pn_1 rfl rfl (Nat.le_of_ble_eq_true rfl) (fun hT hav => ?_)
  have hr_c : -2147483648 ≤ c ∧ c ≤ 2147483647 := hav (vI c) (by simp)
  have hr_k : -2147483648 ≤ k ∧ k ≤ 2147483647 := hav (vI k) (by simp)
  have hz : zX1_putIn.2.2.2.1 = some .boolean → ∀ (T' : Zt) (x : Int), po_X1_putIn T c k T' (some (vI x)) → 0 ≤ x ∧ x ≤ 1 := fun h => by cases h
  have hps : 0 ≤ T 430 0 k ∧ T 430 0 k ≤ 4 := bd_a hT 430 (by decide +kernel : ta_ 430 = some (1, some 3, 0, 4)) 0 (by omega)
  show J_ zX1_putIn T (po_X1_putIn T c k) 0 0 0 [some (vR 101 0), some (vI c), some (vI k)] [] T
  refine j_blx (F := fX1) tb_X1 (nn_ _) bk_X1_putIn_0 bs_X1_putIn_0 hz (fun K hK => ?_)
  refine iy_i (by omega) (by omega) ?_
  refine x_nm (fun U1 hU1 => ?_)
  have e2 := up_f hU1
  refine ix_i (by omega) ?_
  intro b3 b3b
  have e4 : U1 430 0 k = T 430 0 k := up_k hU1 (by exact Nat.ne_of_beq_eq_false rfl) 0 k
  rw [e4] at b3 b3b ⊢
  refine rg_i (by omega) ?_
  refine iy_i (by omega) (by omega) ?_
  refine x_nm (fun U5 hU5 => ?_)
  have e6 := up_f hU5
  intro b7 b7b
  have e8 : U5 101 0 3 = T 101 0 3 := (up_k hU5 (by exact Nat.ne_of_beq_eq_false rfl) 0 3).trans (up_k hU1 (by exact Nat.ne_of_beq_eq_false rfl) 0 3)
  rw [e8] at b7 b7b ⊢
  intro w9 w9b
  refine bd_i (by omega) ?_
  refine x_nm (fun U10 hU10 => ?_)
  have e11 := up_f hU10
  refine bd_i (by omega) ?_
  refine x_nm (fun U12 hU12 => ?_)
  have e13 := up_f hU12
  refine (show po_X1_putIn T c k U12 (none) from ?_)
  exact ⟨rfl, fr_u (fr_u (fr_u (fr_u (fr_0 _ _) hU1 rfl) hU5 rfl) hU10 rfl) hU12 rfl, by rfl⟩
abbrev cX10_pot : ByteArray := prog_1_method_37_code
def yX10_pot : MethodName := ⟨RX10, "pot", "(II)I"⟩
def zX10_pot : Zm := (RX10, cX10_pot, 3, (some .int), { frames := 2, cells := 0, slots := 0, locals := 42 })
theorem bk_X10_pot_0 : ck_ fX10 (some .int) cX10_pot 0 [.aload 0, .iload 1] 2 = true := qck_r (nn_ _) (by decide +kernel)
theorem bs_X10_pot_0 {P : Zt → Option Zv → Prop} (K : Int → Zl → List Zv → Zt → Prop) : sx_ K P [.aload 0, .iload 1] 2 = x_aload 0 (x_iload 1 (K 2)) := ((xe_aload 0).trans (congrArg (x_aload 0) ((xe_iload 1).trans (congrArg (x_iload 1) xe_nil))))
theorem bk_X10_pot_5 : ck_ fX10 (some .int) cX10_pot 5 [.ifCond .ne 11, .iconst (-2), .ireturn] 11 = true := qck_r (nn_ _) (by decide +kernel)
theorem bs_X10_pot_5 {P : Zt → Option Zv → Prop} (K : Int → Zl → List Zv → Zt → Prop) : sx_ K P [.ifCond .ne 11, .iconst (-2), .ireturn] 11 = x_ifCond .ne 11 K (x_iconst (-2) (x_ireturn P)) := ((xe_ifCond .ne 11).trans (congrArg (x_ifCond .ne 11 K) ((xe_iconst (-2)).trans (congrArg (x_iconst (-2)) (xe_ireturn)))))
theorem bk_X10_pot_11 : ck_ fX10 (some .int) cX10_pot 11 [.iload 2, .ifCond .lt 20, .iload 2, .iconst 3, .if_icmp .lt 23, .iconst (-3), .ireturn] 23 = true := qck_r (nn_ _) (by decide +kernel)
theorem bs_X10_pot_11 {P : Zt → Option Zv → Prop} (K : Int → Zl → List Zv → Zt → Prop) : sx_ K P [.iload 2, .ifCond .lt 20, .iload 2, .iconst 3, .if_icmp .lt 23, .iconst (-3), .ireturn] 23 = x_iload 2 (x_ifCond .lt 20 K (x_iload 2 (x_iconst 3 (x_if_icmp .lt 23 K (x_iconst (-3) (x_ireturn P)))))) := ((xe_iload 2).trans (congrArg (x_iload 2) ((xe_ifCond .lt 20).trans (congrArg (x_ifCond .lt 20 K) ((xe_iload 2).trans (congrArg (x_iload 2) ((xe_iconst 3).trans (congrArg (x_iconst 3) ((xe_if_icmp .lt 23).trans (congrArg (x_if_icmp .lt 23 K) ((xe_iconst (-3)).trans (congrArg (x_iconst (-3)) (xe_ireturn)))))))))))))
theorem bk_X10_pot_20 : ck_ fX10 (some .int) cX10_pot 20 [.iconst (-3), .ireturn] 23 = true := qck_r (nn_ _) (by decide +kernel)
theorem bs_X10_pot_20 {P : Zt → Option Zv → Prop} (K : Int → Zl → List Zv → Zt → Prop) : sx_ K P [.iconst (-3), .ireturn] 23 = x_iconst (-3) (x_ireturn P) := ((xe_iconst (-3)).trans (congrArg (x_iconst (-3)) (xe_ireturn)))
theorem bk_X10_pot_23 : ck_ fX10 (some .int) cX10_pot 23 [.aload 0, .tableswitch 0 10 5 #[], .tableswitch 0 1 1 #[], .ifCond .eq 56, .aload 0, .tableswitch 0 10 5 #[], .tableswitch 0 1 8 #[], .iload 1, .iaload, .iconst (-1), .if_icmp .ne 56, .aload 0, .tableswitch 0 10 5 #[], .tableswitch 0 1 4 #[], .ifCond .le 59, .iconst (-4), .ireturn] 59 = true := qck_r (nn_ _) (by decide +kernel)
theorem bs_X10_pot_23 {P : Zt → Option Zv → Prop} (K : Int → Zl → List Zv → Zt → Prop) : sx_ K P [.aload 0, .tableswitch 0 10 5 #[], .tableswitch 0 1 1 #[], .ifCond .eq 56, .aload 0, .tableswitch 0 10 5 #[], .tableswitch 0 1 8 #[], .iload 1, .iaload, .iconst (-1), .if_icmp .ne 56, .aload 0, .tableswitch 0 10 5 #[], .tableswitch 0 1 4 #[], .ifCond .le 59, .iconst (-4), .ireturn] 59 = x_aload 0 (x_g1 110 101 (x_g0 101 1 0 4 (x_ifCond .eq 56 K (x_aload 0 (x_g1 110 101 (x_g1 101 428 (x_iload 1 (x_iaload (x_iconst (-1) (x_if_icmp .ne 56 K (x_aload 0 (x_g1 110 101 (x_g0 101 4 (-2147483648) 2147483647 (x_ifCond .le 59 K (x_iconst (-4) (x_ireturn P)))))))))))))))) := ((xe_aload 0).trans (congrArg (x_aload 0) ((xe_g1 (kk := 110) rfl tl_10_5).trans (congrArg (x_g1 110 101) ((xe_g0 (kk := 101) rfl tl_1_1).trans (congrArg (x_g0 101 1 0 4) ((xe_ifCond .eq 56).trans (congrArg (x_ifCond .eq 56 K) ((xe_aload 0).trans (congrArg (x_aload 0) ((xe_g1 (kk := 110) rfl tl_10_5).trans (congrArg (x_g1 110 101) ((xe_g1 (kk := 101) rfl tl_1_8).trans (congrArg (x_g1 101 428) ((xe_iload 1).trans (congrArg (x_iload 1) ((xe_iaload).trans (congrArg (x_iaload) ((xe_iconst (-1)).trans (congrArg (x_iconst (-1)) ((xe_if_icmp .ne 56).trans (congrArg (x_if_icmp .ne 56 K) ((xe_aload 0).trans (congrArg (x_aload 0) ((xe_g1 (kk := 110) rfl tl_10_5).trans (congrArg (x_g1 110 101) ((xe_g0 (kk := 101) rfl tl_1_4).trans (congrArg (x_g0 101 4 (-2147483648) 2147483647) ((xe_ifCond .le 59).trans (congrArg (x_ifCond .le 59 K) ((xe_iconst (-4)).trans (congrArg (x_iconst (-4)) (xe_ireturn)))))))))))))))))))))))))))))))))
theorem bk_X10_pot_56 : ck_ fX10 (some .int) cX10_pot 56 [.iconst (-4), .ireturn] 59 = true := qck_r (nn_ _) (by decide +kernel)
theorem bs_X10_pot_56 {P : Zt → Option Zv → Prop} (K : Int → Zl → List Zv → Zt → Prop) : sx_ K P [.iconst (-4), .ireturn] 59 = x_iconst (-4) (x_ireturn P) := ((xe_iconst (-4)).trans (congrArg (x_iconst (-4)) (xe_ireturn)))
theorem bk_X10_pot_59 : ck_ fX10 (some .int) cX10_pot 59 [.aload 0, .tableswitch 0 10 5 #[], .tableswitch 0 1 10 #[], .iload 2, .iaload, .aload 0, .tableswitch 0 10 5 #[], .tableswitch 0 1 1 #[], .if_icmp .lt 81, .iconst (-5), .ireturn] 81 = true := qck_r (nn_ _) (by decide +kernel)
theorem bs_X10_pot_59 {P : Zt → Option Zv → Prop} (K : Int → Zl → List Zv → Zt → Prop) : sx_ K P [.aload 0, .tableswitch 0 10 5 #[], .tableswitch 0 1 10 #[], .iload 2, .iaload, .aload 0, .tableswitch 0 10 5 #[], .tableswitch 0 1 1 #[], .if_icmp .lt 81, .iconst (-5), .ireturn] 81 = x_aload 0 (x_g1 110 101 (x_g1 101 430 (x_iload 2 (x_iaload (x_aload 0 (x_g1 110 101 (x_g0 101 1 0 4 (x_if_icmp .lt 81 K (x_iconst (-5) (x_ireturn P)))))))))) := ((xe_aload 0).trans (congrArg (x_aload 0) ((xe_g1 (kk := 110) rfl tl_10_5).trans (congrArg (x_g1 110 101) ((xe_g1 (kk := 101) rfl tl_1_10).trans (congrArg (x_g1 101 430) ((xe_iload 2).trans (congrArg (x_iload 2) ((xe_iaload).trans (congrArg (x_iaload) ((xe_aload 0).trans (congrArg (x_aload 0) ((xe_g1 (kk := 110) rfl tl_10_5).trans (congrArg (x_g1 110 101) ((xe_g0 (kk := 101) rfl tl_1_1).trans (congrArg (x_g0 101 1 0 4) ((xe_if_icmp .lt 81).trans (congrArg (x_if_icmp .lt 81 K) ((xe_iconst (-5)).trans (congrArg (x_iconst (-5)) (xe_ireturn)))))))))))))))))))))
theorem bk_X10_pot_81 : ck_ fX10 (some .int) cX10_pot 81 [.aload 0, .tableswitch 0 10 5 #[], .iload 1, .iload 2] 87 = true := qck_r (nn_ _) (by decide +kernel)
theorem bs_X10_pot_81 {P : Zt → Option Zv → Prop} (K : Int → Zl → List Zv → Zt → Prop) : sx_ K P [.aload 0, .tableswitch 0 10 5 #[], .iload 1, .iload 2] 87 = x_aload 0 (x_g1 110 101 (x_iload 1 (x_iload 2 (K 87)))) := ((xe_aload 0).trans (congrArg (x_aload 0) ((xe_g1 (kk := 110) rfl tl_10_5).trans (congrArg (x_g1 110 101) ((xe_iload 1).trans (congrArg (x_iload 1) ((xe_iload 2).trans (congrArg (x_iload 2) xe_nil))))))))
set_option maxRecDepth 100000 in
theorem cl_X10_396 : cv_ RX10 396 yX1_putIn zX1_putIn 1 2 := ⟨gi_V (lw_b6 134 (by decide +kernel) rfl : Cond.methodLink RX10 396 yX1_putIn ∈ lw_g) (lw_b6 135 (by decide +kernel) rfl : Cond.instanceMethod yX1_putIn ∈ lw_g) (lw_b6 136 (by decide +kernel) rfl : Cond.selects yX1_putIn.cls yX1_putIn yX1_putIn ∈ lw_g) (lw_b1 8 (by decide +kernel) rfl : Cond.initialized yX1_putIn.cls ∈ lw_g) (lw_b6 137 rfl rfl : Cond.code yX1_putIn cX1_putIn 3 none ∈ lw_g), ⟨by decide, by decide, by decide +kernel⟩, ⟨_, _, rfl⟩⟩
theorem bk_X10_pot_90 : ck_ fX10 (some .int) cX10_pot 90 [.aload 0, .tableswitch 0 10 5 #[], .tableswitch 0 1 10 #[], .iload 2, .iaload, .ireturn] 100 = true := qck_r (nn_ _) (by decide +kernel)
theorem bs_X10_pot_90 {P : Zt → Option Zv → Prop} (K : Int → Zl → List Zv → Zt → Prop) : sx_ K P [.aload 0, .tableswitch 0 10 5 #[], .tableswitch 0 1 10 #[], .iload 2, .iaload, .ireturn] 100 = x_aload 0 (x_g1 110 101 (x_g1 101 430 (x_iload 2 (x_iaload (x_ireturn P))))) := ((xe_aload 0).trans (congrArg (x_aload 0) ((xe_g1 (kk := 110) rfl tl_10_5).trans (congrArg (x_g1 110 101) ((xe_g1 (kk := 101) rfl tl_1_10).trans (congrArg (x_g1 101 430) ((xe_iload 2).trans (congrArg (x_iload 2) ((xe_iaload).trans (congrArg (x_iaload) (xe_ireturn)))))))))))
abbrev po_X10_pot (T : Zt) (c k : Int) : Zt → Option Zv → Prop := fun T' r => ∃ x : Int, r = some (vI x) ∧ fr_ [(428, []), (430, []), (101, [3, 7])] T T' ∧ (x = x)
set_option maxHeartbeats 4000000 in
theorem ct_X10_pot {T : Zt} {c k : Int} : Ct_ yX10_pot zX10_pot T [vR 110 0, vI c, vI k] (po_X10_pot T c k) := by
  refine ct_of pn_10 rfl rfl (Nat.le_of_ble_eq_true rfl) (fun hT hav => ?_)
  have hr_c : -2147483648 ≤ c ∧ c ≤ 2147483647 := hav (vI c) (by simp)
  have hr_k : -2147483648 ≤ k ∧ k ≤ 2147483647 := hav (vI k) (by simp)
  have hz : zX10_pot.2.2.2.1 = some .boolean → ∀ (T' : Zt) (x : Int), po_X10_pot T c k T' (some (vI x)) → 0 ≤ x ∧ x ≤ 1 := fun h => by cases h
  have hb_clubs : 0 ≤ T 108 0 2 ∧ T 108 0 2 ≤ 12 := bd_f hT 108 2 (by decide +kernel : (tf_ 108)[2]? = some (0, 0, 0, 12)) 0
  have hgr : 0 ≤ T 101 0 1 ∧ T 101 0 1 ≤ 4 := bd_f hT 101 1 (by decide +kernel : (tf_ 101)[1]? = some (0, 0, 0, 4)) 0
  show J_ zX10_pot T (po_X10_pot T c k) 0 0 0 [some (vR 110 0), some (vI c), some (vI k)] [] T
  refine j_blx (F := fX10) tb_X10 (nn_ _) bk_X10_pot_0 bs_X10_pot_0 hz (fun K hK => ?_)
  refine hK 2 _ [vI c, vR 110 0] T ?_
  refine j_callV (y := yX10_isClub) (Yc := zX10_isClub) (rest := []) [vI c] (ct_X10_isClub (T := T)) cl_X10_137 (qd_c (by decide +kernel)) (nn_ _) rfl (rf_of rfl) (Nat.le_of_ble_eq_true rfl) (Nat.le_of_ble_eq_true rfl) (Nat.le_of_ble_eq_true rfl) rfl ?_
  rintro _ _ ⟨rfl, x1, rfl, hx1⟩
  show J_ zX10_pot T (po_X10_pot T c k) 0 0 5 _ [vI x1] T
  refine j_blx (F := fX10) tb_X10 (nn_ _) bk_X10_pot_5 bs_X10_pot_5 hz (fun K hK => ?_)
  refine And.intro (fun c2 => ?_) (fun c2 => ?_)
  · refine hK 11 _ [] T ?_
    refine j_blx (F := fX10) tb_X10 (nn_ _) bk_X10_pot_11 bs_X10_pot_11 hz (fun K hK => ?_)
    refine And.intro (fun c3 => ?_) (fun c3 => ?_)
    · refine hK 20 _ [] T ?_
      refine j_blx (F := fX10) tb_X10 (nn_ _) bk_X10_pot_20 bs_X10_pot_20 hz (fun K hK => ?_)
      refine (show po_X10_pot T c k T (some (vI (-3))) from ?_)
      exact ⟨_, rfl, fr_0 _ _, by rfl⟩
    · refine And.intro (fun c4 => ?_) (fun c4 => ?_)
      · refine hK 23 _ [] T ?_
        refine j_blx (F := fX10) tb_X10 (nn_ _) bk_X10_pot_23 bs_X10_pot_23 hz (fun K hK => ?_)
        intro b5 b5b
        refine And.intro (fun c6 => ?_) (fun c6 => ?_)
        · refine hK 56 _ [] T ?_
          refine j_blx (F := fX10) tb_X10 (nn_ _) bk_X10_pot_56 bs_X10_pot_56 hz (fun K hK => ?_)
          refine (show po_X10_pot T c k T (some (vI (-4))) from ?_)
          exact ⟨_, rfl, fr_0 _ _, by rfl⟩
        · refine ix_i (by omega) ?_
          intro b7 b7b
          refine And.intro (fun c8 => ?_) (fun c8 => ?_)
          · refine hK 56 _ [] T ?_
            refine j_blx (F := fX10) tb_X10 (nn_ _) bk_X10_pot_56 bs_X10_pot_56 hz (fun K hK => ?_)
            refine (show po_X10_pot T c k T (some (vI (-4))) from ?_)
            exact ⟨_, rfl, fr_0 _ _, by rfl⟩
          · intro b9 b9b
            refine And.intro (fun c10 => ?_) (fun c10 => ?_)
            · refine hK 59 _ [] T ?_
              refine j_blx (F := fX10) tb_X10 (nn_ _) bk_X10_pot_59 bs_X10_pot_59 hz (fun K hK => ?_)
              refine ix_i (by omega) ?_
              intro b11 b11b
              intro b12 b12b
              refine And.intro (fun c13 => ?_) (fun c13 => ?_)
              · refine hK 81 _ [] T ?_
                refine j_blx (F := fX10) tb_X10 (nn_ _) bk_X10_pot_81 bs_X10_pot_81 hz (fun K hK => ?_)
                refine hK 87 _ [vI k, vI c, vR 101 0] T ?_
                refine j_callV (y := yX1_putIn) (Yc := zX1_putIn) (rest := []) [vI c, vI k] (ct_X1_putIn (T := T) (by omega) (by omega) (by omega)) cl_X10_396 (qd_c (by decide +kernel)) (nn_ _) rfl (rf_of rfl) (Nat.le_of_ble_eq_true rfl) (Nat.le_of_ble_eq_true rfl) (Nat.le_of_ble_eq_true rfl) rfl ?_
                rintro U14 _ ⟨rfl, fU14, qU14⟩
                show J_ zX10_pot T (po_X10_pot T c k) 0 0 90 _ [] U14
                refine j_blx (F := fX10) tb_X10 (nn_ _) bk_X10_pot_90 bs_X10_pot_90 hz (fun K hK => ?_)
                refine ix_i (by omega) ?_
                intro b15 b15b
                refine (show po_X10_pot T c k U14 (some (vI (U14 430 0 k))) from ?_)
                exact ⟨_, rfl, fr_t (fr_0 _ _) (fr_s fU14 rfl), by rfl⟩
              · refine (show po_X10_pot T c k T (some (vI (-5))) from ?_)
                exact ⟨_, rfl, fr_0 _ _, by rfl⟩
            · refine (show po_X10_pot T c k T (some (vI (-4))) from ?_)
              exact ⟨_, rfl, fr_0 _ _, by rfl⟩
      · refine (show po_X10_pot T c k T (some (vI (-3))) from ?_)
        exact ⟨_, rfl, fr_0 _ _, by rfl⟩
  · refine (show po_X10_pot T c k T (some (vI (-2))) from ?_)
    exact ⟨_, rfl, fr_0 _ _, by rfl⟩
abbrev cX1_waysWith : ByteArray := prog_3_method_6_code
def yX1_waysWith : MethodName := ⟨RX1, "waysWith", "(II)I"⟩
def zX1_waysWith : Zm := (RX1, cX1_waysWith, 3, (some .int), { frames := 0, cells := 0, slots := 0, locals := 0 })
theorem bk_X1_waysWith_0 : ck_ fX1 (some .int) cX1_waysWith 0 [.aload 0, .tableswitch 0 1 9 #[], .iload 1, .iaload, .iconst (-1), .if_icmp .eq 29, .aload 0, .tableswitch 0 1 9 #[], .iload 1, .iaload, .iload 2, .if_icmp .ne 27, .aload 0, .tableswitch 0 1 6 #[], .goto 28] 27 = true := qck_r (nn_ _) (by decide +kernel)
theorem bs_X1_waysWith_0 {P : Zt → Option Zv → Prop} (K : Int → Zl → List Zv → Zt → Prop) : sx_ K P [.aload 0, .tableswitch 0 1 9 #[], .iload 1, .iaload, .iconst (-1), .if_icmp .eq 29, .aload 0, .tableswitch 0 1 9 #[], .iload 1, .iaload, .iload 2, .if_icmp .ne 27, .aload 0, .tableswitch 0 1 6 #[], .goto 28] 27 = x_aload 0 (x_g1 101 429 (x_iload 1 (x_iaload (x_iconst (-1) (x_if_icmp .eq 29 K (x_aload 0 (x_g1 101 429 (x_iload 1 (x_iaload (x_iload 2 (x_if_icmp .ne 27 K (x_aload 0 (x_g0 101 6 (-2147483648) 2147483647 (x_goto 28 K)))))))))))))) := ((xe_aload 0).trans (congrArg (x_aload 0) ((xe_g1 (kk := 101) rfl tl_1_9).trans (congrArg (x_g1 101 429) ((xe_iload 1).trans (congrArg (x_iload 1) ((xe_iaload).trans (congrArg (x_iaload) ((xe_iconst (-1)).trans (congrArg (x_iconst (-1)) ((xe_if_icmp .eq 29).trans (congrArg (x_if_icmp .eq 29 K) ((xe_aload 0).trans (congrArg (x_aload 0) ((xe_g1 (kk := 101) rfl tl_1_9).trans (congrArg (x_g1 101 429) ((xe_iload 1).trans (congrArg (x_iload 1) ((xe_iaload).trans (congrArg (x_iaload) ((xe_iload 2).trans (congrArg (x_iload 2) ((xe_if_icmp .ne 27).trans (congrArg (x_if_icmp .ne 27 K) ((xe_aload 0).trans (congrArg (x_aload 0) ((xe_g0 (kk := 101) rfl tl_1_6).trans (congrArg (x_g0 101 6 (-2147483648) 2147483647) (xe_goto 28)))))))))))))))))))))))))))))
theorem bk_X1_waysWith_29 : ck_ fX1 (some .int) cX1_waysWith 29 [.aload 0, .tableswitch 0 1 11 #[], .iload 1, .iconst 4, .imul, .iload 2, .iadd, .iaload, .ireturn] 40 = true := qck_r (nn_ _) (by decide +kernel)
theorem bs_X1_waysWith_29 {P : Zt → Option Zv → Prop} (K : Int → Zl → List Zv → Zt → Prop) : sx_ K P [.aload 0, .tableswitch 0 1 11 #[], .iload 1, .iconst 4, .imul, .iload 2, .iadd, .iaload, .ireturn] 40 = x_aload 0 (x_g1 101 431 (x_iload 1 (x_iconst 4 (x_imul (x_iload 2 (x_iadd (x_iaload (x_ireturn P)))))))) := ((xe_aload 0).trans (congrArg (x_aload 0) ((xe_g1 (kk := 101) rfl tl_1_11).trans (congrArg (x_g1 101 431) ((xe_iload 1).trans (congrArg (x_iload 1) ((xe_iconst 4).trans (congrArg (x_iconst 4) ((xe_imul).trans (congrArg (x_imul) ((xe_iload 2).trans (congrArg (x_iload 2) ((xe_iadd).trans (congrArg (x_iadd) ((xe_iaload).trans (congrArg (x_iaload) (xe_ireturn)))))))))))))))))
theorem bk_X1_waysWith_27 : ck_ fX1 (some .int) cX1_waysWith 27 [.iconst 0, .ireturn] 29 = true := qck_r (nn_ _) (by decide +kernel)
theorem bs_X1_waysWith_27 {P : Zt → Option Zv → Prop} (K : Int → Zl → List Zv → Zt → Prop) : sx_ K P [.iconst 0, .ireturn] 29 = x_iconst 0 (x_ireturn P) := ((xe_iconst 0).trans (congrArg (x_iconst 0) (xe_ireturn)))
theorem bk_X1_waysWith_28 : ck_ fX1 (some .int) cX1_waysWith 28 [.ireturn] 29 = true := qck_r (nn_ _) (by decide +kernel)
theorem bs_X1_waysWith_28 {P : Zt → Option Zv → Prop} (K : Int → Zl → List Zv → Zt → Prop) : sx_ K P [.ireturn] 29 = x_ireturn P := (xe_ireturn)
abbrev po_X1_waysWith (T : Zt) (c g : Int) : Zt → Option Zv → Prop := fun T' r => T = T' ∧ ∃ x : Int, r = some (vI x) ∧ (True)
set_option maxHeartbeats 4000000 in
theorem ct_X1_waysWith {T : Zt} {c g : Int} (h1 : 0 ≤ c ∧ c < 12) (h2 : 0 ≤ g ∧ g < 4) : Ct_ yX1_waysWith zX1_waysWith T [vR 101 0, vI c, vI g] (po_X1_waysWith T c g) := by
  refine ct_of pn_1 rfl rfl (Nat.le_of_ble_eq_true rfl) (fun hT hav => ?_)
  have hr_c : -2147483648 ≤ c ∧ c ≤ 2147483647 := hav (vI c) (by simp)
  have hr_g : -2147483648 ≤ g ∧ g ≤ 2147483647 := hav (vI g) (by simp)
  have hz : zX1_waysWith.2.2.2.1 = some .boolean → ∀ (T' : Zt) (x : Int), po_X1_waysWith T c g T' (some (vI x)) → 0 ≤ x ∧ x ≤ 1 := fun h => by cases h
  show J_ zX1_waysWith T (po_X1_waysWith T c g) 0 0 0 [some (vR 101 0), some (vI c), some (vI g)] [] T
  refine j_blx (F := fX1) tb_X1 (nn_ _) bk_X1_waysWith_0 bs_X1_waysWith_0 hz (fun K hK => ?_)
  refine ix_i (by omega) ?_
  intro b1 b1b
  refine And.intro (fun c2 => ?_) (fun c2 => ?_)
  · refine hK 29 _ [] T ?_
    refine j_blx (F := fX1) tb_X1 (nn_ _) bk_X1_waysWith_29 bs_X1_waysWith_29 hz (fun K hK => ?_)
    refine rg_i (by omega) ?_
    refine rg_i (by omega) ?_
    refine ix_i (by omega) ?_
    intro b3 b3b
    refine (show po_X1_waysWith T c g T (some (vI (T 431 0 ((c * 4) + g)))) from ?_)
    exact ⟨rfl, _, rfl, by trivial⟩
  · refine ix_i (by omega) ?_
    intro b4 b4b
    refine And.intro (fun c5 => ?_) (fun c5 => ?_)
    · refine hK 27 _ [] T ?_
      refine j_blx (F := fX1) tb_X1 (nn_ _) bk_X1_waysWith_27 bs_X1_waysWith_27 hz (fun K hK => ?_)
      refine (show po_X1_waysWith T c g T (some (vI 0)) from ?_)
      exact ⟨rfl, _, rfl, by trivial⟩
    · intro b6 b6b
      refine hK 28 _ [vI (T 101 0 6)] T ?_
      refine j_blx (F := fX1) tb_X1 (nn_ _) bk_X1_waysWith_28 bs_X1_waysWith_28 hz (fun K hK => ?_)
      refine (show po_X1_waysWith T c g T (some (vI (T 101 0 6))) from ?_)
      exact ⟨rfl, _, rfl, by trivial⟩
abbrev cX1_takeBelow : ByteArray := prog_3_method_9_code
def yX1_takeBelow : MethodName := ⟨RX1, "takeBelow", "(I)I"⟩
def zX1_takeBelow : Zm := (RX1, cX1_takeBelow, 8, (some .int), { frames := 0, cells := 0, slots := 0, locals := 0 })
theorem bk_X1_takeBelow_71 : ck_ fX1 (some .int) cX1_takeBelow 71 [.iload 6, .iload 1, .irem, .ireturn] 76 = true := qck_r (nn_ _) (by decide +kernel)
theorem bs_X1_takeBelow_71 {P : Zt → Option Zv → Prop} (K : Int → Zl → List Zv → Zt → Prop) : sx_ K P [.iload 6, .iload 1, .irem, .ireturn] 76 = x_iload 6 (x_iload 1 (x_irem (x_ireturn P))) := ((xe_iload 6).trans (congrArg (x_iload 6) ((xe_iload 1).trans (congrArg (x_iload 1) ((xe_irem).trans (congrArg (x_irem) (xe_ireturn)))))))
theorem bk_X1_takeBelow_24 : ck_ fX1 (some .int) cX1_takeBelow 24 [.iload 7, .iconst 1000000, .if_icmp .ge 71, .aload 0, .aload 0, .tableswitch 0 1 5 #[], .iconst 1664525, .fmul, .iconst 1013904223, .fadd, .tableswitch 1 1 5 #[], .aload 0, .tableswitch 0 1 5 #[], .iconst 1, .iushr, .istore 6, .iload 6, .i2l, .lload 4, .lcmp, .ifCond .ge 65, .goto 71] 65 = true := qck_r (nn_ _) (by decide +kernel)
theorem bs_X1_takeBelow_24 {P : Zt → Option Zv → Prop} (K : Int → Zl → List Zv → Zt → Prop) : sx_ K P [.iload 7, .iconst 1000000, .if_icmp .ge 71, .aload 0, .aload 0, .tableswitch 0 1 5 #[], .iconst 1664525, .fmul, .iconst 1013904223, .fadd, .tableswitch 1 1 5 #[], .aload 0, .tableswitch 0 1 5 #[], .iconst 1, .iushr, .istore 6, .iload 6, .i2l, .lload 4, .lcmp, .ifCond .ge 65, .goto 71] 65 = x_iload 7 (x_iconst 1000000 (x_if_icmp .ge 71 K (x_aload 0 (x_aload 0 (x_g0 101 5 (-2147483648) 2147483647 (x_iconst 1664525 (x_fmul (x_iconst 1013904223 (x_fadd (x_p 101 5 (-2147483648) 2147483647 (x_aload 0 (x_g0 101 5 (-2147483648) 2147483647 (x_iconst 1 (x_iushr (x_istore 6 (x_iload 6 (x_i2l (x_lload 4 (x_lcmp (x_ifCond .ge 65 K (x_goto 71 K))))))))))))))))))))) := ((xe_iload 7).trans (congrArg (x_iload 7) ((xe_iconst 1000000).trans (congrArg (x_iconst 1000000) ((xe_if_icmp .ge 71).trans (congrArg (x_if_icmp .ge 71 K) ((xe_aload 0).trans (congrArg (x_aload 0) ((xe_aload 0).trans (congrArg (x_aload 0) ((xe_g0 (kk := 101) rfl tl_1_5).trans (congrArg (x_g0 101 5 (-2147483648) 2147483647) ((xe_iconst 1664525).trans (congrArg (x_iconst 1664525) ((xe_fmul).trans (congrArg (x_fmul) ((xe_iconst 1013904223).trans (congrArg (x_iconst 1013904223) ((xe_fadd).trans (congrArg (x_fadd) ((xe_p (kk := 101) rfl tl_1_5).trans (congrArg (x_p 101 5 (-2147483648) 2147483647) ((xe_aload 0).trans (congrArg (x_aload 0) ((xe_g0 (kk := 101) rfl tl_1_5).trans (congrArg (x_g0 101 5 (-2147483648) 2147483647) ((xe_iconst 1).trans (congrArg (x_iconst 1) ((xe_iushr).trans (congrArg (x_iushr) ((xe_istore 6).trans (congrArg (x_istore 6) ((xe_iload 6).trans (congrArg (x_iload 6) ((xe_i2l).trans (congrArg (x_i2l) ((xe_lload 4).trans (congrArg (x_lload 4) ((xe_lcmp).trans (congrArg (x_lcmp) ((xe_ifCond .ge 65).trans (congrArg (x_ifCond .ge 65 K) (xe_goto 71)))))))))))))))))))))))))))))))))))))))))))
theorem bk_X1_takeBelow_65 : ck_ fX1 (some .int) cX1_takeBelow 65 [.iinc 7 1, .goto 24] 71 = true := qck_r (nn_ _) (by decide +kernel)
theorem bs_X1_takeBelow_65 {P : Zt → Option Zv → Prop} (K : Int → Zl → List Zv → Zt → Prop) : sx_ K P [.iinc 7 1, .goto 24] 71 = x_iinc 7 1 (x_goto 24 K) := ((xe_iinc 7 1).trans (congrArg (x_iinc 7 1) (xe_goto 24)))
theorem bk_X1_takeBelow_0 : ck_ fX1 (some .int) cX1_takeBelow 0 [.iload 1, .ifCond .gt 6, .iconst 0, .ireturn] 6 = true := qck_r (nn_ _) (by decide +kernel)
theorem bs_X1_takeBelow_0 {P : Zt → Option Zv → Prop} (K : Int → Zl → List Zv → Zt → Prop) : sx_ K P [.iload 1, .ifCond .gt 6, .iconst 0, .ireturn] 6 = x_iload 1 (x_ifCond .gt 6 K (x_iconst 0 (x_ireturn P))) := ((xe_iload 1).trans (congrArg (x_iload 1) ((xe_ifCond .gt 6).trans (congrArg (x_ifCond .gt 6 K) ((xe_iconst 0).trans (congrArg (x_iconst 0) (xe_ireturn)))))))
theorem bk_X1_takeBelow_6 : ck_ fX1 (some .int) cX1_takeBelow 6 [.sipush 2147483648, .lstore 2, .lload 2, .lload 2, .iload 1, .i2l, .lrem, .lsub, .lstore 4, .iconst 0, .istore 6, .iconst 0, .istore 7] 24 = true := qck_r (nn_ _) (by decide +kernel)
theorem bs_X1_takeBelow_6 {P : Zt → Option Zv → Prop} (K : Int → Zl → List Zv → Zt → Prop) : sx_ K P [.sipush 2147483648, .lstore 2, .lload 2, .lload 2, .iload 1, .i2l, .lrem, .lsub, .lstore 4, .iconst 0, .istore 6, .iconst 0, .istore 7] 24 = x_sipush 2147483648 (x_lstore 2 (x_lload 2 (x_lload 2 (x_iload 1 (x_i2l (x_lrem (x_lsub (x_lstore 4 (x_iconst 0 (x_istore 6 (x_iconst 0 (x_istore 7 (K 24))))))))))))) := ((xe_sipush 2147483648).trans (congrArg (x_sipush 2147483648) ((xe_lstore 2).trans (congrArg (x_lstore 2) ((xe_lload 2).trans (congrArg (x_lload 2) ((xe_lload 2).trans (congrArg (x_lload 2) ((xe_iload 1).trans (congrArg (x_iload 1) ((xe_i2l).trans (congrArg (x_i2l) ((xe_lrem).trans (congrArg (x_lrem) ((xe_lsub).trans (congrArg (x_lsub) ((xe_lstore 4).trans (congrArg (x_lstore 4) ((xe_iconst 0).trans (congrArg (x_iconst 0) ((xe_istore 6).trans (congrArg (x_istore 6) ((xe_iconst 0).trans (congrArg (x_iconst 0) ((xe_istore 7).trans (congrArg (x_istore 7) xe_nil))))))))))))))))))))))))))
abbrev po_X1_takeBelow (T : Zt) (m : Int) : Zt → Option Zv → Prop := fun T' r => ∃ x : Int, r = some (vI x) ∧ fr_ [(101, [5])] T T' ∧ ((m ≤ 0 ∧ x = 0) ∨ (0 < m ∧ 0 ≤ x ∧ x < m))
set_option maxHeartbeats 4000000 in
theorem ct_X1_takeBelow {T : Zt} {m : Int} : Ct_ yX1_takeBelow zX1_takeBelow T [vR 101 0, vI m] (po_X1_takeBelow T m) := by
  refine ct_of pn_1 rfl rfl (Nat.le_of_ble_eq_true rfl) (fun hT hav => ?_)
  have hr_m : -2147483648 ≤ m ∧ m ≤ 2147483647 := hav (vI m) (by simp)
  have hz : zX1_takeBelow.2.2.2.1 = some .boolean → ∀ (T' : Zt) (x : Int), po_X1_takeBelow T m T' (some (vI x)) → 0 ≤ x ∧ x ≤ 1 := fun h => by cases h
  have hr1 := Int.emod_nonneg 2147483648 (b := m)
  have hr2 := Int.emod_lt_of_pos 2147483648 (b := m)
  show J_ zX1_takeBelow T (po_X1_takeBelow T m) 0 0 0 [some (vR 101 0), some (vI m), none, none, none, none, none, none] [] T
  have c_71 : ∀ (v : Int) (T2 : Zt), (fr_ [(101, [5])] T T2) → (0 ≤ v ∧ 0 < m) → J_ zX1_takeBelow T (po_X1_takeBelow T m) 0 0 71 [some (vR 101 0), some (vI m), none, none, none, none, some (vI v), none] [] T2 := by
    intro v T2 hf_71 i2
    refine j_blx (F := fX1) tb_X1 (nn_ _) bk_X1_takeBelow_71 bs_X1_takeBelow_71 hz (fun K hK => ?_)
    have hv1 := Int.emod_nonneg (v) (show m ≠ 0 by omega)
    have hv2 := Int.emod_lt_of_pos (v) (show 0 < m by omega)
    refine dv_i (by omega) ?_
    refine (show po_X1_takeBelow T m T2 (some (vI (v % m))) from ?_)
    exact ⟨_, rfl, fr_t (fr_0 _ _) (fr_s hf_71 rfl), by omega⟩
  have c_24 : ∀ (nn : Nat) (v : Int) (n : Int) (fa : Int) (T1 : Zt), ((1000000 - n).toNat) ≤ nn → (fr_ [(101, [5])] T T1) → (0 ≤ v ∧ 0 ≤ n ∧ 0 < m) → J_ zX1_takeBelow T (po_X1_takeBelow T m) 0 0 24 [some (vR 101 0), some (vI m), none, none, some (vL fa), none, some (vI v), some (vI n)] [] T1 := by
    intro nn
    induction nn using Nat.strongRecOn with
    | _ nn ih_24 =>
      intro v n fa T1 hm_24 hf_24 i1
      refine j_blx (F := fX1) tb_X1 (nn_ _) bk_X1_takeBelow_24 bs_X1_takeBelow_24 hz (fun K hK => ?_)
      refine And.intro (fun c1 => ?_) (fun c1 => ?_)
      · refine hK 71 _ [] T1 ?_
        refine j_drop [some (vR 101 0), some (vI m), none, none, none, none, some (vI v), none] (fun k v hk => ?_) rfl ?_
        · match k, hk with
          | 0, hk => exact hk
          | 1, hk => exact hk
          | 2, hk => cases hk
          | 3, hk => cases hk
          | 4, hk => cases hk
          | 5, hk => cases hk
          | 6, hk => exact hk
          | 7, hk => cases hk
          | k + 8, hk => cases hk
        refine c_71 v T1 ?_ ?_
        · exact fr_t (fr_0 _ _) (fr_s hf_24 rfl)
        · omega
      · intro b2 b2b
        intro w3 w3b
        intro w4 w4b
        refine bd_i (by omega) ?_
        refine x_nm (fun U5 hU5 => ?_)
        have e6 := up_f hU5
        intro b7 b7b
        have e8 : U5 101 0 5 = wr_ ((wr_ ((T1 101 0 5) * 1664525)) + 1013904223) := up_f hU5
        rw [e8] at b7 b7b ⊢
        intro w9 w9b
        have u10 := us_1c (x := (wr_ ((wr_ ((T1 101 0 5) * 1664525)) + 1013904223)))
        refine And.intro (fun c11 => ?_) (And.intro (fun c11 => ?_) (fun c11 => ?_))
        · refine And.intro (fun c12 => ?_) (fun c12 => ?_)
          · exact absurd c12 (by decide)
          · refine hK 71 [some (vR 101 0), some (vI m), none, none, some (vL fa), none, some (vI (us_ (wr_ ((wr_ ((T1 101 0 5) * 1664525)) + 1013904223)) 1)), some (vI n)] [] U5 ?_
            refine j_drop [some (vR 101 0), some (vI m), none, none, none, none, some (vI (us_ (wr_ ((wr_ ((T1 101 0 5) * 1664525)) + 1013904223)) 1)), none] (fun k v hk => ?_) rfl ?_
            · match k, hk with
              | 0, hk => exact hk
              | 1, hk => exact hk
              | 2, hk => cases hk
              | 3, hk => cases hk
              | 4, hk => cases hk
              | 5, hk => cases hk
              | 6, hk => exact hk
              | 7, hk => cases hk
              | k + 8, hk => cases hk
            refine c_71 (us_ (wr_ ((wr_ ((T1 101 0 5) * 1664525)) + 1013904223)) 1) U5 ?_ ?_
            · exact fr_u (fr_t (fr_0 _ _) (fr_s hf_24 rfl)) hU5 rfl
            · omega
        · refine And.intro (fun c13 => ?_) (fun c13 => ?_)
          · refine hK 65 [some (vR 101 0), some (vI m), none, none, some (vL fa), none, some (vI (us_ (wr_ ((wr_ ((T1 101 0 5) * 1664525)) + 1013904223)) 1)), some (vI n)] [] U5 ?_
            refine j_blx (F := fX1) tb_X1 (nn_ _) bk_X1_takeBelow_65 bs_X1_takeBelow_65 hz (fun K hK => ?_)
            refine rg_i (by omega) ?_
            refine hK 24 [some (vR 101 0), some (vI m), none, none, some (vL fa), none, some (vI (us_ (wr_ ((wr_ ((T1 101 0 5) * 1664525)) + 1013904223)) 1)), some (vI (n + 1))] [] U5 ?_
            refine ih_24 _ ?_ (us_ (wr_ ((wr_ ((T1 101 0 5) * 1664525)) + 1013904223)) 1) (n + 1) fa U5 (Nat.le_refl _) ?_ ?_
            · omega
            · exact fr_u (fr_t (fr_0 _ _) (fr_s hf_24 rfl)) hU5 rfl
            · omega
          · exact absurd c13 (by decide)
        · refine And.intro (fun c14 => ?_) (fun c14 => ?_)
          · refine hK 65 [some (vR 101 0), some (vI m), none, none, some (vL fa), none, some (vI (us_ (wr_ ((wr_ ((T1 101 0 5) * 1664525)) + 1013904223)) 1)), some (vI n)] [] U5 ?_
            refine j_blx (F := fX1) tb_X1 (nn_ _) bk_X1_takeBelow_65 bs_X1_takeBelow_65 hz (fun K hK => ?_)
            refine rg_i (by omega) ?_
            refine hK 24 [some (vR 101 0), some (vI m), none, none, some (vL fa), none, some (vI (us_ (wr_ ((wr_ ((T1 101 0 5) * 1664525)) + 1013904223)) 1)), some (vI (n + 1))] [] U5 ?_
            refine ih_24 _ ?_ (us_ (wr_ ((wr_ ((T1 101 0 5) * 1664525)) + 1013904223)) 1) (n + 1) fa U5 (Nat.le_refl _) ?_ ?_
            · omega
            · exact fr_u (fr_t (fr_0 _ _) (fr_s hf_24 rfl)) hU5 rfl
            · omega
          · exact absurd c14 (by decide)
  refine j_blx (F := fX1) tb_X1 (nn_ _) bk_X1_takeBelow_0 bs_X1_takeBelow_0 hz (fun K hK => ?_)
  refine And.intro (fun c15 => ?_) (fun c15 => ?_)
  · refine hK 6 _ [] T ?_
    refine j_blx (F := fX1) tb_X1 (nn_ _) bk_X1_takeBelow_6 bs_X1_takeBelow_6 hz (fun K hK => ?_)
    refine dv_i (by omega) ?_
    refine rl_i (by omega) ?_
    refine hK 24 [some (vR 101 0), some (vI m), some (vL 2147483648), none, some (vL (2147483648 - (2147483648 % m))), none, some (vI 0), some (vI 0)] [] T ?_
    refine j_drop [some (vR 101 0), some (vI m), none, none, some (vL (2147483648 - (2147483648 % m))), none, some (vI 0), some (vI 0)] (fun k v hk => ?_) rfl ?_
    · match k, hk with
      | 0, hk => exact hk
      | 1, hk => exact hk
      | 2, hk => cases hk
      | 3, hk => cases hk
      | 4, hk => exact hk
      | 5, hk => cases hk
      | 6, hk => exact hk
      | 7, hk => exact hk
      | k + 8, hk => cases hk
    refine c_24 _ 0 0 (2147483648 - (2147483648 % m)) T (Nat.le_refl _) ?_ ?_
    · exact fr_0 _ _
    · omega
  · refine (show po_X1_takeBelow T m T (some (vI 0)) from ?_)
    exact ⟨_, rfl, fr_0 _ _, by omega⟩
abbrev cX1_takeClub : ByteArray := prog_3_method_7_code
def yX1_takeClub : MethodName := ⟨RX1, "takeClub", "()I"⟩
def zX1_takeClub : Zm := (RX1, cX1_takeClub, 4, (some .int), { frames := 1, cells := 0, slots := 0, locals := 27 })
theorem bk_X1_takeClub_16 : ck_ fX1 (some .int) cX1_takeClub 16 [.iload 3, .aload 0, .tableswitch 0 1 13 #[], .if_icmp .ge 48, .aload 0, .tableswitch 0 1 8 #[], .aload 0, .tableswitch 0 1 12 #[], .iload 3, .iaload, .iaload, .iload 1, .if_icmp .ne 42, .iinc 2 1, .iinc 3 1, .goto 16] 48 = true := qck_r (nn_ _) (by decide +kernel)
theorem bs_X1_takeClub_16 {P : Zt → Option Zv → Prop} (K : Int → Zl → List Zv → Zt → Prop) : sx_ K P [.iload 3, .aload 0, .tableswitch 0 1 13 #[], .if_icmp .ge 48, .aload 0, .tableswitch 0 1 8 #[], .aload 0, .tableswitch 0 1 12 #[], .iload 3, .iaload, .iaload, .iload 1, .if_icmp .ne 42, .iinc 2 1, .iinc 3 1, .goto 16] 48 = x_iload 3 (x_aload 0 (x_g0 101 13 0 12 (x_if_icmp .ge 48 K (x_aload 0 (x_g1 101 428 (x_aload 0 (x_g1 101 432 (x_iload 3 (x_iaload (x_iaload (x_iload 1 (x_if_icmp .ne 42 K (x_iinc 2 1 (x_iinc 3 1 (x_goto 16 K))))))))))))))) := ((xe_iload 3).trans (congrArg (x_iload 3) ((xe_aload 0).trans (congrArg (x_aload 0) ((xe_g0 (kk := 101) rfl tl_1_13).trans (congrArg (x_g0 101 13 0 12) ((xe_if_icmp .ge 48).trans (congrArg (x_if_icmp .ge 48 K) ((xe_aload 0).trans (congrArg (x_aload 0) ((xe_g1 (kk := 101) rfl tl_1_8).trans (congrArg (x_g1 101 428) ((xe_aload 0).trans (congrArg (x_aload 0) ((xe_g1 (kk := 101) rfl tl_1_12).trans (congrArg (x_g1 101 432) ((xe_iload 3).trans (congrArg (x_iload 3) ((xe_iaload).trans (congrArg (x_iaload) ((xe_iaload).trans (congrArg (x_iaload) ((xe_iload 1).trans (congrArg (x_iload 1) ((xe_if_icmp .ne 42).trans (congrArg (x_if_icmp .ne 42 K) ((xe_iinc 2 1).trans (congrArg (x_iinc 2 1) ((xe_iinc 3 1).trans (congrArg (x_iinc 3 1) (xe_goto 16)))))))))))))))))))))))))))))))
theorem bk_X1_takeClub_48 : ck_ fX1 (some .int) cX1_takeClub 48 [.aload 0, .tableswitch 0 1 12 #[], .aload 0, .iload 2] 54 = true := qck_r (nn_ _) (by decide +kernel)
theorem bs_X1_takeClub_48 {P : Zt → Option Zv → Prop} (K : Int → Zl → List Zv → Zt → Prop) : sx_ K P [.aload 0, .tableswitch 0 1 12 #[], .aload 0, .iload 2] 54 = x_aload 0 (x_g1 101 432 (x_aload 0 (x_iload 2 (K 54)))) := ((xe_aload 0).trans (congrArg (x_aload 0) ((xe_g1 (kk := 101) rfl tl_1_12).trans (congrArg (x_g1 101 432) ((xe_aload 0).trans (congrArg (x_aload 0) ((xe_iload 2).trans (congrArg (x_iload 2) xe_nil))))))))
set_option maxRecDepth 100000 in
theorem cl_X1_75 : cv_ RX1 75 yX1_takeBelow zX1_takeBelow 1 1 := ⟨gi_V (lw_b6 166 (by decide +kernel) rfl : Cond.methodLink RX1 75 yX1_takeBelow ∈ lw_g) (lw_b6 168 (by decide +kernel) rfl : Cond.instanceMethod yX1_takeBelow ∈ lw_g) (lw_sel 82 rfl : Cond.selects yX1_takeBelow.cls yX1_takeBelow yX1_takeBelow ∈ lw_g) (lw_b1 8 (by decide +kernel) rfl : Cond.initialized yX1_takeBelow.cls ∈ lw_g) (lw_b6 169 rfl rfl : Cond.code yX1_takeBelow cX1_takeBelow 8 (some .int) ∈ lw_g), ⟨by decide, by decide, by decide +kernel⟩, ⟨_, _, rfl⟩⟩
theorem bk_X1_takeClub_57 : ck_ fX1 (some .int) cX1_takeClub 57 [.iaload, .ireturn] 59 = true := qck_r (nn_ _) (by decide +kernel)
theorem bs_X1_takeClub_57 {P : Zt → Option Zv → Prop} (K : Int → Zl → List Zv → Zt → Prop) : sx_ K P [.iaload, .ireturn] 59 = x_iaload (x_ireturn P) := ((xe_iaload).trans (congrArg (x_iaload) (xe_ireturn)))
theorem bk_X1_takeClub_42 : ck_ fX1 (some .int) cX1_takeClub 42 [.iinc 3 1, .goto 16] 48 = true := qck_r (nn_ _) (by decide +kernel)
theorem bs_X1_takeClub_42 {P : Zt → Option Zv → Prop} (K : Int → Zl → List Zv → Zt → Prop) : sx_ K P [.iinc 3 1, .goto 16] 48 = x_iinc 3 1 (x_goto 16 K) := ((xe_iinc 3 1).trans (congrArg (x_iinc 3 1) (xe_goto 16)))
theorem bk_X1_takeClub_0 : ck_ fX1 (some .int) cX1_takeClub 0 [.aload 0, .tableswitch 0 1 8 #[], .aload 0, .tableswitch 0 1 12 #[], .iconst 0, .iaload, .iaload, .istore 1, .iconst 0, .istore 2, .iconst 0, .istore 3] 16 = true := qck_r (nn_ _) (by decide +kernel)
theorem bs_X1_takeClub_0 {P : Zt → Option Zv → Prop} (K : Int → Zl → List Zv → Zt → Prop) : sx_ K P [.aload 0, .tableswitch 0 1 8 #[], .aload 0, .tableswitch 0 1 12 #[], .iconst 0, .iaload, .iaload, .istore 1, .iconst 0, .istore 2, .iconst 0, .istore 3] 16 = x_aload 0 (x_g1 101 428 (x_aload 0 (x_g1 101 432 (x_iconst 0 (x_iaload (x_iaload (x_istore 1 (x_iconst 0 (x_istore 2 (x_iconst 0 (x_istore 3 (K 16)))))))))))) := ((xe_aload 0).trans (congrArg (x_aload 0) ((xe_g1 (kk := 101) rfl tl_1_8).trans (congrArg (x_g1 101 428) ((xe_aload 0).trans (congrArg (x_aload 0) ((xe_g1 (kk := 101) rfl tl_1_12).trans (congrArg (x_g1 101 432) ((xe_iconst 0).trans (congrArg (x_iconst 0) ((xe_iaload).trans (congrArg (x_iaload) ((xe_iaload).trans (congrArg (x_iaload) ((xe_istore 1).trans (congrArg (x_istore 1) ((xe_iconst 0).trans (congrArg (x_iconst 0) ((xe_istore 2).trans (congrArg (x_istore 2) ((xe_iconst 0).trans (congrArg (x_iconst 0) ((xe_istore 3).trans (congrArg (x_istore 3) xe_nil))))))))))))))))))))))))
abbrev po_X1_takeClub (T : Zt) : Zt → Option Zv → Prop := fun T' r => ∃ x : Int, r = some (vI x) ∧ fr_ [(101, [5])] T T' ∧ (0 ≤ x ∧ x ≤ 11)
set_option maxHeartbeats 4000000 in
theorem ct_X1_takeClub {T : Zt} : Ct_ yX1_takeClub zX1_takeClub T [vR 101 0] (po_X1_takeClub T) := by
  refine ct_of pn_1 rfl rfl (Nat.le_of_ble_eq_true rfl) (fun hT hav => ?_)
  have hz : zX1_takeClub.2.2.2.1 = some .boolean → ∀ (T' : Zt) (x : Int), po_X1_takeClub T T' (some (vI x)) → 0 ≤ x ∧ x ≤ 1 := fun h => by cases h
  have hwc : 0 ≤ T 101 0 13 ∧ T 101 0 13 ≤ 12 := bd_f hT 101 13 (by decide +kernel : (tf_ 101)[13]? = some (0, 0, 0, 12)) 0
  show J_ zX1_takeClub T (po_X1_takeClub T) 0 0 0 [some (vR 101 0), none, none, none] [] T
  have c_16 : ∀ (nn : Nat) (n : Int) (k : Int) (q : Int), ((12 - k).toNat) ≤ nn → (0 ≤ n ∧ n ≤ k ∧ 0 ≤ k ∧ k ≤ 12) → J_ zX1_takeClub T (po_X1_takeClub T) 0 0 16 [some (vR 101 0), some (vI q), some (vI n), some (vI k)] [] T := by
    intro nn
    induction nn using Nat.strongRecOn with
    | _ nn ih_16 =>
      intro n k q hm_16 i1
      refine j_blx (F := fX1) tb_X1 (nn_ _) bk_X1_takeClub_16 bs_X1_takeClub_16 hz (fun K hK => ?_)
      intro b1 b1b
      refine And.intro (fun c2 => ?_) (fun c2 => ?_)
      · refine hK 48 _ [] T ?_
        refine j_blx (F := fX1) tb_X1 (nn_ _) bk_X1_takeClub_48 bs_X1_takeClub_48 hz (fun K hK => ?_)
        refine hK 54 _ [vI n, vR 101 0, vR 432 0] T ?_
        refine j_callV (y := yX1_takeBelow) (Yc := zX1_takeBelow) (rest := [vR 432 0]) [vI n] (ct_X1_takeBelow (T := T)) cl_X1_75 (qd_c (by decide +kernel)) (nn_ _) rfl (rf_of rfl) (Nat.le_of_ble_eq_true rfl) (Nat.le_of_ble_eq_true rfl) (Nat.le_of_ble_eq_true rfl) rfl ?_
        rintro U3 _ ⟨x4, rfl, fU3, qU3⟩
        show J_ zX1_takeClub T (po_X1_takeClub T) 0 0 57 _ [vI x4, vR 432 0] U3
        refine j_blx (F := fX1) tb_X1 (nn_ _) bk_X1_takeClub_57 bs_X1_takeClub_57 hz (fun K hK => ?_)
        refine ix_i (by omega) ?_
        intro b5 b5b
        have e6 : U3 432 0 x4 = T 432 0 x4 := fU3 432 0 x4 rfl
        rw [e6] at b5 b5b ⊢
        refine (show po_X1_takeClub T U3 (some (vI (T 432 0 x4))) from ?_)
        exact ⟨_, rfl, fr_t (fr_0 _ _) (fr_s fU3 rfl), by omega⟩
      · refine ix_i (by omega) ?_
        intro b7 b7b
        refine ix_i (by omega) ?_
        intro b8 b8b
        refine And.intro (fun c9 => ?_) (fun c9 => ?_)
        · refine hK 42 _ [] T ?_
          refine j_blx (F := fX1) tb_X1 (nn_ _) bk_X1_takeClub_42 bs_X1_takeClub_42 hz (fun K hK => ?_)
          refine rg_i (by omega) ?_
          refine hK 16 [some (vR 101 0), some (vI q), some (vI n), some (vI (k + 1))] [] T ?_
          refine ih_16 _ ?_ n (k + 1) q (Nat.le_refl _) ?_
          · omega
          · omega
        · refine rg_i (by omega) ?_
          refine rg_i (by omega) ?_
          refine hK 16 [some (vR 101 0), some (vI q), some (vI (n + 1)), some (vI (k + 1))] [] T ?_
          refine ih_16 _ ?_ (n + 1) (k + 1) q (Nat.le_refl _) ?_
          · omega
          · omega
  refine j_blx (F := fX1) tb_X1 (nn_ _) bk_X1_takeClub_0 bs_X1_takeClub_0 hz (fun K hK => ?_)
  refine ix_i (by omega) ?_
  intro b10 b10b
  refine ix_i (by omega) ?_
  intro b11 b11b
  refine hK 16 [some (vR 101 0), some (vI (T 428 0 (T 432 0 0))), some (vI 0), some (vI 0)] [] T ?_
  refine c_16 _ 0 0 (T 428 0 (T 432 0 0)) (Nat.le_refl _) ?_
  · omega
abbrev cX1_place : ByteArray := prog_3_method_8_code
def yX1_place : MethodName := ⟨RX1, "place", "(I)V"⟩
def zX1_place : Zm := (RX1, cX1_place, 5, none, { frames := 1, cells := 0, slots := 0, locals := 27 })
theorem bk_X1_place_14 : ck_ fX1 none cX1_place 14 [.iload 4, .aload 0, .tableswitch 0 1 1 #[], .if_icmp .ge 72, .iload 3, .aload 0, .tableswitch 0 1 11 #[], .iload 1, .iconst 4, .imul, .iload 4, .iadd, .iaload, .fadd, .istore 3, .iload 3, .iload 2, .if_icmp .le 66, .aload 0, .tableswitch 0 1 9 #[], .iload 1, .iload 4, .iastore, .aload 0, .dup, .tableswitch 0 1 4 #[], .iconst 1, .fadd, .tableswitch 1 1 4 #[], .aload 0, .iconst 0, .tableswitch 1 1 7 #[], .return_] 66 = true := qck_r (nn_ _) (by decide +kernel)
theorem bs_X1_place_14 {P : Zt → Option Zv → Prop} (K : Int → Zl → List Zv → Zt → Prop) : sx_ K P [.iload 4, .aload 0, .tableswitch 0 1 1 #[], .if_icmp .ge 72, .iload 3, .aload 0, .tableswitch 0 1 11 #[], .iload 1, .iconst 4, .imul, .iload 4, .iadd, .iaload, .fadd, .istore 3, .iload 3, .iload 2, .if_icmp .le 66, .aload 0, .tableswitch 0 1 9 #[], .iload 1, .iload 4, .iastore, .aload 0, .dup, .tableswitch 0 1 4 #[], .iconst 1, .fadd, .tableswitch 1 1 4 #[], .aload 0, .iconst 0, .tableswitch 1 1 7 #[], .return_] 66 = x_iload 4 (x_aload 0 (x_g0 101 1 0 4 (x_if_icmp .ge 72 K (x_iload 3 (x_aload 0 (x_g1 101 431 (x_iload 1 (x_iconst 4 (x_imul (x_iload 4 (x_iadd (x_iaload (x_fadd (x_istore 3 (x_iload 3 (x_iload 2 (x_if_icmp .le 66 K (x_aload 0 (x_g1 101 429 (x_iload 1 (x_iload 4 (x_iastore (x_aload 0 (x_dup (x_g0 101 4 (-2147483648) 2147483647 (x_iconst 1 (x_fadd (x_p 101 4 (-2147483648) 2147483647 (x_aload 0 (x_iconst 0 (x_p 101 7 0 1 (x_return_ P)))))))))))))))))))))))))))))))) := ((xe_iload 4).trans (congrArg (x_iload 4) ((xe_aload 0).trans (congrArg (x_aload 0) ((xe_g0 (kk := 101) rfl tl_1_1).trans (congrArg (x_g0 101 1 0 4) ((xe_if_icmp .ge 72).trans (congrArg (x_if_icmp .ge 72 K) ((xe_iload 3).trans (congrArg (x_iload 3) ((xe_aload 0).trans (congrArg (x_aload 0) ((xe_g1 (kk := 101) rfl tl_1_11).trans (congrArg (x_g1 101 431) ((xe_iload 1).trans (congrArg (x_iload 1) ((xe_iconst 4).trans (congrArg (x_iconst 4) ((xe_imul).trans (congrArg (x_imul) ((xe_iload 4).trans (congrArg (x_iload 4) ((xe_iadd).trans (congrArg (x_iadd) ((xe_iaload).trans (congrArg (x_iaload) ((xe_fadd).trans (congrArg (x_fadd) ((xe_istore 3).trans (congrArg (x_istore 3) ((xe_iload 3).trans (congrArg (x_iload 3) ((xe_iload 2).trans (congrArg (x_iload 2) ((xe_if_icmp .le 66).trans (congrArg (x_if_icmp .le 66 K) ((xe_aload 0).trans (congrArg (x_aload 0) ((xe_g1 (kk := 101) rfl tl_1_9).trans (congrArg (x_g1 101 429) ((xe_iload 1).trans (congrArg (x_iload 1) ((xe_iload 4).trans (congrArg (x_iload 4) ((xe_iastore).trans (congrArg (x_iastore) ((xe_aload 0).trans (congrArg (x_aload 0) ((xe_dup).trans (congrArg (x_dup) ((xe_g0 (kk := 101) rfl tl_1_4).trans (congrArg (x_g0 101 4 (-2147483648) 2147483647) ((xe_iconst 1).trans (congrArg (x_iconst 1) ((xe_fadd).trans (congrArg (x_fadd) ((xe_p (kk := 101) rfl tl_1_4).trans (congrArg (x_p 101 4 (-2147483648) 2147483647) ((xe_aload 0).trans (congrArg (x_aload 0) ((xe_iconst 0).trans (congrArg (x_iconst 0) ((xe_p (kk := 101) rfl tl_1_7).trans (congrArg (x_p 101 7 0 1) (xe_return_)))))))))))))))))))))))))))))))))))))))))))))))))))))))))))))))))
theorem bk_X1_place_72 : ck_ fX1 none cX1_place 72 [.return_] 73 = true := qck_r (nn_ _) (by decide +kernel)
theorem bs_X1_place_72 {P : Zt → Option Zv → Prop} (K : Int → Zl → List Zv → Zt → Prop) : sx_ K P [.return_] 73 = x_return_ P := (xe_return_)
theorem bk_X1_place_66 : ck_ fX1 none cX1_place 66 [.iinc 4 1, .goto 14] 72 = true := qck_r (nn_ _) (by decide +kernel)
theorem bs_X1_place_66 {P : Zt → Option Zv → Prop} (K : Int → Zl → List Zv → Zt → Prop) : sx_ K P [.iinc 4 1, .goto 14] 72 = x_iinc 4 1 (x_goto 14 K) := ((xe_iinc 4 1).trans (congrArg (x_iinc 4 1) (xe_goto 14)))
theorem bk_X1_place_0 : ck_ fX1 none cX1_place 0 [.aload 0, .aload 0, .tableswitch 0 1 6 #[]] 5 = true := qck_r (nn_ _) (by decide +kernel)
theorem bs_X1_place_0 {P : Zt → Option Zv → Prop} (K : Int → Zl → List Zv → Zt → Prop) : sx_ K P [.aload 0, .aload 0, .tableswitch 0 1 6 #[]] 5 = x_aload 0 (x_aload 0 (x_g0 101 6 (-2147483648) 2147483647 (K 5))) := ((xe_aload 0).trans (congrArg (x_aload 0) ((xe_aload 0).trans (congrArg (x_aload 0) ((xe_g0 (kk := 101) rfl tl_1_6).trans (congrArg (x_g0 101 6 (-2147483648) 2147483647) xe_nil))))))
theorem bk_X1_place_8 : ck_ fX1 none cX1_place 8 [.istore 2, .iconst 0, .istore 3, .iconst 0, .istore 4] 14 = true := qck_r (nn_ _) (by decide +kernel)
theorem bs_X1_place_8 {P : Zt → Option Zv → Prop} (K : Int → Zl → List Zv → Zt → Prop) : sx_ K P [.istore 2, .iconst 0, .istore 3, .iconst 0, .istore 4] 14 = x_istore 2 (x_iconst 0 (x_istore 3 (x_iconst 0 (x_istore 4 (K 14))))) := ((xe_istore 2).trans (congrArg (x_istore 2) ((xe_iconst 0).trans (congrArg (x_iconst 0) ((xe_istore 3).trans (congrArg (x_istore 3) ((xe_iconst 0).trans (congrArg (x_iconst 0) ((xe_istore 4).trans (congrArg (x_istore 4) xe_nil))))))))))
abbrev po_X1_place (T : Zt) (c : Int) : Zt → Option Zv → Prop := fun T' r => r = none ∧ fr_ [(101, [5, 4, 7]), (429, [])] T T' ∧ (0 = (0 : Int))
set_option maxHeartbeats 4000000 in
theorem ct_X1_place {T : Zt} {c : Int} (h1 : 0 ≤ c ∧ c < 12) : Ct_ yX1_place zX1_place T [vR 101 0, vI c] (po_X1_place T c) := by
  refine ct_of pn_1 rfl rfl (Nat.le_of_ble_eq_true rfl) (fun hT hav => ?_)
  have hr_c : -2147483648 ≤ c ∧ c ≤ 2147483647 := hav (vI c) (by simp)
  have hz : zX1_place.2.2.2.1 = some .boolean → ∀ (T' : Zt) (x : Int), po_X1_place T c T' (some (vI x)) → 0 ≤ x ∧ x ≤ 1 := fun h => by cases h
  have hgr : 0 ≤ T 101 0 1 ∧ T 101 0 1 ≤ 4 := bd_f hT 101 1 (by decide +kernel : (tf_ 101)[1]? = some (0, 0, 0, 4)) 0
  show J_ zX1_place T (po_X1_place T c) 0 0 0 [some (vR 101 0), some (vI c), none, none, none] [] T
  have c_14 : ∀ (nn : Nat) (t : Int) (u : Int) (g : Int) (T1 : Zt), ((4 - g).toNat) ≤ nn → (fr_ [(101, [5])] T T1) → (0 ≤ g) → J_ zX1_place T (po_X1_place T c) 0 0 14 [some (vR 101 0), some (vI c), some (vI t), some (vI u), some (vI g)] [] T1 := by
    intro nn
    induction nn using Nat.strongRecOn with
    | _ nn ih_14 =>
      intro t u g T1 hm_14 hf_14 i1
      refine j_blx (F := fX1) tb_X1 (nn_ _) bk_X1_place_14 bs_X1_place_14 hz (fun K hK => ?_)
      intro b1 b1b
      have e2 : T1 101 0 1 = T 101 0 1 := hf_14 101 0 1 rfl
      rw [e2] at b1 b1b ⊢
      refine And.intro (fun c3 => ?_) (fun c3 => ?_)
      · refine hK 72 _ [] T1 ?_
        refine j_blx (F := fX1) tb_X1 (nn_ _) bk_X1_place_72 bs_X1_place_72 hz (fun K hK => ?_)
        refine (show po_X1_place T c T1 (none) from ?_)
        exact ⟨rfl, fr_t (fr_0 _ _) (fr_s hf_14 rfl), by rfl⟩
      · refine rg_i (by omega) ?_
        refine rg_i (by omega) ?_
        refine ix_i (by omega) ?_
        intro b4 b4b
        have e5 : T1 431 0 ((c * 4) + g) = T 431 0 ((c * 4) + g) := hf_14 431 0 ((c * 4) + g) rfl
        rw [e5] at b4 b4b ⊢
        intro w6 w6b
        refine And.intro (fun c7 => ?_) (fun c7 => ?_)
        · refine hK 66 [some (vR 101 0), some (vI c), some (vI t), some (vI (wr_ (u + (T 431 0 ((c * 4) + g))))), some (vI g)] [] T1 ?_
          refine j_blx (F := fX1) tb_X1 (nn_ _) bk_X1_place_66 bs_X1_place_66 hz (fun K hK => ?_)
          refine rg_i (by omega) ?_
          refine hK 14 [some (vR 101 0), some (vI c), some (vI t), some (vI (wr_ (u + (T 431 0 ((c * 4) + g))))), some (vI (g + 1))] [] T1 ?_
          refine ih_14 _ ?_ t (wr_ (u + (T 431 0 ((c * 4) + g)))) (g + 1) T1 (Nat.le_refl _) ?_ ?_
          · omega
          · exact fr_t (fr_0 _ _) (fr_s hf_14 rfl)
          · omega
        · refine iy_i (by omega) (by omega) ?_
          refine x_nm (fun U8 hU8 => ?_)
          have e9 := up_f hU8
          intro b10 b10b
          have e11 : U8 101 0 4 = T 101 0 4 := (up_k hU8 (by exact Nat.ne_of_beq_eq_false rfl) 0 4).trans (hf_14 101 0 4 rfl)
          rw [e11] at b10 b10b ⊢
          intro w12 w12b
          refine bd_i (by omega) ?_
          refine x_nm (fun U13 hU13 => ?_)
          have e14 := up_f hU13
          refine bd_i (by omega) ?_
          refine x_nm (fun U15 hU15 => ?_)
          have e16 := up_f hU15
          refine (show po_X1_place T c U15 (none) from ?_)
          exact ⟨rfl, fr_u (fr_u (fr_u (fr_t (fr_0 _ _) (fr_s hf_14 rfl)) hU8 rfl) hU13 rfl) hU15 rfl, by rfl⟩
  refine j_blx (F := fX1) tb_X1 (nn_ _) bk_X1_place_0 bs_X1_place_0 hz (fun K hK => ?_)
  intro b17 b17b
  refine hK 5 _ [vI (T 101 0 6), vR 101 0] T ?_
  refine j_callV (y := yX1_takeBelow) (Yc := zX1_takeBelow) (rest := []) [vI (T 101 0 6)] (ct_X1_takeBelow (T := T)) cl_X1_75 (qd_c (by decide +kernel)) (nn_ _) rfl (rf_of rfl) (Nat.le_of_ble_eq_true rfl) (Nat.le_of_ble_eq_true rfl) (Nat.le_of_ble_eq_true rfl) rfl ?_
  rintro U18 _ ⟨x19, rfl, fU18, qU18⟩
  show J_ zX1_place T (po_X1_place T c) 0 0 8 _ [vI x19] U18
  refine j_blx (F := fX1) tb_X1 (nn_ _) bk_X1_place_8 bs_X1_place_8 hz (fun K hK => ?_)
  refine hK 14 [some (vR 101 0), some (vI c), some (vI x19), some (vI 0), some (vI 0)] [] U18 ?_
  refine c_14 _ x19 0 0 U18 (Nat.le_refl _) ?_ ?_
  · exact fr_t (fr_0 _ _) (fr_s fU18 rfl)
  · omega
