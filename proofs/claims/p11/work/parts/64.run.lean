theorem lz_2 {x y : Int} (h : lz_ x) (g : lz_ y) (a : x < y) (b : y ≤ 2 * x) : y = 2 * x := by unfold lz_ at h g; omega
abbrev cX3_runAnew : ByteArray := prog_5_method_35_code
def yX3_runAnew : MethodName := ⟨RX3, "runAnew", "()I"⟩
def zX3_runAnew : Zm := (RX3, cX3_runAnew, 8, (some .int), { frames := 5, cells := 127, slots := 4064, locals := 116 })
theorem bk_X3_runAnew_21 : ck_ fX3 (some .int) cX3_runAnew 21 [.iload 3, .iload 1, .if_icmp .ge 132, .aload 0, .tableswitch 0 3 14 #[], .iload 3, .iconst 4, .imul, .iaload, .istore 4, .aload 0, .tableswitch 0 3 14 #[], .iload 3, .iconst 4, .imul, .iconst 1, .iadd, .iaload, .istore 5, .aload 0, .tableswitch 0 3 14 #[], .iload 3, .iconst 4, .imul, .iconst 2, .iadd, .iaload, .istore 6, .aload 0, .tableswitch 0 3 14 #[], .iload 3, .iconst 4, .imul, .iconst 3, .iadd, .iaload, .istore 7, .aload 0, .iload 4, .iload 5, .iload 6, .iload 7] 81 = true := qck_r (nn_ _) (by decide +kernel)
theorem bs_X3_runAnew_21 {P : Zt → Option Zv → Prop} (K : Int → Zl → List Zv → Zt → Prop) : sx_ K P [.iload 3, .iload 1, .if_icmp .ge 132, .aload 0, .tableswitch 0 3 14 #[], .iload 3, .iconst 4, .imul, .iaload, .istore 4, .aload 0, .tableswitch 0 3 14 #[], .iload 3, .iconst 4, .imul, .iconst 1, .iadd, .iaload, .istore 5, .aload 0, .tableswitch 0 3 14 #[], .iload 3, .iconst 4, .imul, .iconst 2, .iadd, .iaload, .istore 6, .aload 0, .tableswitch 0 3 14 #[], .iload 3, .iconst 4, .imul, .iconst 3, .iadd, .iaload, .istore 7, .aload 0, .iload 4, .iload 5, .iload 6, .iload 7] 81 = x_iload 3 (x_iload 1 (x_if_icmp .ge 132 K (x_aload 0 (x_g3 103 190 14 (x_iload 3 (x_iconst 4 (x_imul (x_iaload (x_istore 4 (x_aload 0 (x_g3 103 190 14 (x_iload 3 (x_iconst 4 (x_imul (x_iconst 1 (x_iadd (x_iaload (x_istore 5 (x_aload 0 (x_g3 103 190 14 (x_iload 3 (x_iconst 4 (x_imul (x_iconst 2 (x_iadd (x_iaload (x_istore 6 (x_aload 0 (x_g3 103 190 14 (x_iload 3 (x_iconst 4 (x_imul (x_iconst 3 (x_iadd (x_iaload (x_istore 7 (x_aload 0 (x_iload 4 (x_iload 5 (x_iload 6 (x_iload 7 (K 81)))))))))))))))))))))))))))))))))))))))))) := ((xe_iload 3).trans (congrArg (x_iload 3) ((xe_iload 1).trans (congrArg (x_iload 1) ((xe_if_icmp .ge 132).trans (congrArg (x_if_icmp .ge 132 K) ((xe_aload 0).trans (congrArg (x_aload 0) ((xe_g3 (kk := 103) rfl tl_3_14).trans (congrArg (x_g3 103 190 14) ((xe_iload 3).trans (congrArg (x_iload 3) ((xe_iconst 4).trans (congrArg (x_iconst 4) ((xe_imul).trans (congrArg (x_imul) ((xe_iaload).trans (congrArg (x_iaload) ((xe_istore 4).trans (congrArg (x_istore 4) ((xe_aload 0).trans (congrArg (x_aload 0) ((xe_g3 (kk := 103) rfl tl_3_14).trans (congrArg (x_g3 103 190 14) ((xe_iload 3).trans (congrArg (x_iload 3) ((xe_iconst 4).trans (congrArg (x_iconst 4) ((xe_imul).trans (congrArg (x_imul) ((xe_iconst 1).trans (congrArg (x_iconst 1) ((xe_iadd).trans (congrArg (x_iadd) ((xe_iaload).trans (congrArg (x_iaload) ((xe_istore 5).trans (congrArg (x_istore 5) ((xe_aload 0).trans (congrArg (x_aload 0) ((xe_g3 (kk := 103) rfl tl_3_14).trans (congrArg (x_g3 103 190 14) ((xe_iload 3).trans (congrArg (x_iload 3) ((xe_iconst 4).trans (congrArg (x_iconst 4) ((xe_imul).trans (congrArg (x_imul) ((xe_iconst 2).trans (congrArg (x_iconst 2) ((xe_iadd).trans (congrArg (x_iadd) ((xe_iaload).trans (congrArg (x_iaload) ((xe_istore 6).trans (congrArg (x_istore 6) ((xe_aload 0).trans (congrArg (x_aload 0) ((xe_g3 (kk := 103) rfl tl_3_14).trans (congrArg (x_g3 103 190 14) ((xe_iload 3).trans (congrArg (x_iload 3) ((xe_iconst 4).trans (congrArg (x_iconst 4) ((xe_imul).trans (congrArg (x_imul) ((xe_iconst 3).trans (congrArg (x_iconst 3) ((xe_iadd).trans (congrArg (x_iadd) ((xe_iaload).trans (congrArg (x_iaload) ((xe_istore 7).trans (congrArg (x_istore 7) ((xe_aload 0).trans (congrArg (x_aload 0) ((xe_iload 4).trans (congrArg (x_iload 4) ((xe_iload 5).trans (congrArg (x_iload 5) ((xe_iload 6).trans (congrArg (x_iload 6) ((xe_iload 7).trans (congrArg (x_iload 7) xe_nil))))))))))))))))))))))))))))))))))))))))))))))))))))))))))))))))))))))))))))))))))))
theorem bk_X3_runAnew_132 : ck_ fX3 (some .int) cX3_runAnew 132 [.aload 0, .tableswitch 0 3 17 #[], .iload 2, .isub, .ireturn] 139 = true := qck_r (nn_ _) (by decide +kernel)
theorem bs_X3_runAnew_132 {P : Zt → Option Zv → Prop} (K : Int → Zl → List Zv → Zt → Prop) : sx_ K P [.aload 0, .tableswitch 0 3 17 #[], .iload 2, .isub, .ireturn] 139 = x_aload 0 (x_g0 103 17 0 3000 (x_iload 2 (x_isub (x_ireturn P)))) := ((xe_aload 0).trans (congrArg (x_aload 0) ((xe_g0 (kk := 103) rfl tl_3_17).trans (congrArg (x_g0 103 17 0 3000) ((xe_iload 2).trans (congrArg (x_iload 2) ((xe_isub).trans (congrArg (x_isub) (xe_ireturn)))))))))
set_option maxRecDepth 100000 in
theorem cl_X3_171 : cv_ RX3 171 yX3_brokenLaw zX3_brokenLaw 3 4 := ⟨gi_V (lw_b5 162 (by decide +kernel) rfl : Cond.methodLink RX3 171 yX3_brokenLaw ∈ lw_g) (lw_b5 28 (by decide +kernel) rfl : Cond.instanceMethod yX3_brokenLaw ∈ lw_g) (lw_b5 29 (by decide +kernel) rfl : Cond.selects yX3_brokenLaw.cls yX3_brokenLaw yX3_brokenLaw ∈ lw_g) (lw_b1 18 (by decide +kernel) rfl : Cond.initialized yX3_brokenLaw.cls ∈ lw_g) (lw_b5 30 rfl rfl : Cond.code yX3_brokenLaw cX3_brokenLaw 5 (some .int) ∈ lw_g), ⟨by decide, by decide, by decide +kernel⟩, ⟨_, _, rfl⟩⟩
theorem bk_X3_runAnew_84 : ck_ fX3 (some .int) cX3_runAnew 84 [.ifCond .ne 114, .aload 0, .iload 4, .iload 5, .iload 6, .iload 7] 96 = true := qck_r (nn_ _) (by decide +kernel)
theorem bs_X3_runAnew_84 {P : Zt → Option Zv → Prop} (K : Int → Zl → List Zv → Zt → Prop) : sx_ K P [.ifCond .ne 114, .aload 0, .iload 4, .iload 5, .iload 6, .iload 7] 96 = x_ifCond .ne 114 K (x_aload 0 (x_iload 4 (x_iload 5 (x_iload 6 (x_iload 7 (K 96)))))) := ((xe_ifCond .ne 114).trans (congrArg (x_ifCond .ne 114 K) ((xe_aload 0).trans (congrArg (x_aload 0) ((xe_iload 4).trans (congrArg (x_iload 4) ((xe_iload 5).trans (congrArg (x_iload 5) ((xe_iload 6).trans (congrArg (x_iload 6) ((xe_iload 7).trans (congrArg (x_iload 7) xe_nil))))))))))))
theorem bk_X3_runAnew_114 : ck_ fX3 (some .int) cX3_runAnew 114 [.aload 0, .iload 4, .iload 5, .iload 6, .iload 7] 123 = true := qck_r (nn_ _) (by decide +kernel)
theorem bs_X3_runAnew_114 {P : Zt → Option Zv → Prop} (K : Int → Zl → List Zv → Zt → Prop) : sx_ K P [.aload 0, .iload 4, .iload 5, .iload 6, .iload 7] 123 = x_aload 0 (x_iload 4 (x_iload 5 (x_iload 6 (x_iload 7 (K 123))))) := ((xe_aload 0).trans (congrArg (x_aload 0) ((xe_iload 4).trans (congrArg (x_iload 4) ((xe_iload 5).trans (congrArg (x_iload 5) ((xe_iload 6).trans (congrArg (x_iload 6) ((xe_iload 7).trans (congrArg (x_iload 7) xe_nil))))))))))
set_option maxRecDepth 100000 in
theorem cl_X3_182_zX3_putAside0 : cv_ RX3 182 yX3_putAside zX3_putAside0 3 4 := ⟨gi_V (lw_b5 165 (by decide +kernel) rfl : Cond.methodLink RX3 182 yX3_putAside ∈ lw_g) (lw_b5 167 (by decide +kernel) rfl : Cond.instanceMethod yX3_putAside ∈ lw_g) (lw_sel 97 rfl : Cond.selects yX3_putAside.cls yX3_putAside yX3_putAside ∈ lw_g) (lw_b1 18 (by decide +kernel) rfl : Cond.initialized yX3_putAside.cls ∈ lw_g) (lw_b5 168 rfl rfl : Cond.code yX3_putAside cX3_putAside 5 none ∈ lw_g), ⟨by decide, by decide, by decide +kernel⟩, ⟨_, _, rfl⟩⟩
theorem bk_X3_runAnew_126 : ck_ fX3 (some .int) cX3_runAnew 126 [.iinc 3 1, .goto 21] 132 = true := qck_r (nn_ _) (by decide +kernel)
theorem bs_X3_runAnew_126 {P : Zt → Option Zv → Prop} (K : Int → Zl → List Zv → Zt → Prop) : sx_ K P [.iinc 3 1, .goto 21] 132 = x_iinc 3 1 (x_goto 21 K) := ((xe_iinc 3 1).trans (congrArg (x_iinc 3 1) (xe_goto 21)))
set_option maxRecDepth 100000 in
theorem cl_X3_182_zX3_putAsideD (sl : Nat) : cv_ RX3 182 yX3_putAside (zX3_putAsideD sl) 3 4 := ⟨gi_V (lw_b5 165 (by decide +kernel) rfl : Cond.methodLink RX3 182 yX3_putAside ∈ lw_g) (lw_b5 167 (by decide +kernel) rfl : Cond.instanceMethod yX3_putAside ∈ lw_g) (lw_sel 97 rfl : Cond.selects yX3_putAside.cls yX3_putAside yX3_putAside ∈ lw_g) (lw_b1 18 (by decide +kernel) rfl : Cond.initialized yX3_putAside.cls ∈ lw_g) (lw_b5 168 rfl rfl : Cond.code yX3_putAside cX3_putAside 5 none ∈ lw_g), ⟨by decide, by decide, by decide +kernel⟩, ⟨_, _, rfl⟩⟩
set_option maxRecDepth 100000 in
theorem cl_X3_175 : cv_ RX3 175 yX3_carryOut zX3_carryOut 3 4 := ⟨gi_V (lw_b5 163 (by decide +kernel) rfl : Cond.methodLink RX3 175 yX3_carryOut ∈ lw_g) (lw_b5 61 (by decide +kernel) rfl : Cond.instanceMethod yX3_carryOut ∈ lw_g) (lw_b5 62 (by decide +kernel) rfl : Cond.selects yX3_carryOut.cls yX3_carryOut yX3_carryOut ∈ lw_g) (lw_b1 18 (by decide +kernel) rfl : Cond.initialized yX3_carryOut.cls ∈ lw_g) (lw_b5 63 rfl rfl : Cond.code yX3_carryOut cX3_carryOut 5 none ∈ lw_g), ⟨by decide, by decide, by decide +kernel⟩, ⟨_, _, rfl⟩⟩
theorem bk_X3_runAnew_99 : ck_ fX3 (some .int) cX3_runAnew 99 [.aload 0, .iload 4, .iload 5, .iload 6, .iload 7] 108 = true := qck_r (nn_ _) (by decide +kernel)
theorem bs_X3_runAnew_99 {P : Zt → Option Zv → Prop} (K : Int → Zl → List Zv → Zt → Prop) : sx_ K P [.aload 0, .iload 4, .iload 5, .iload 6, .iload 7] 108 = x_aload 0 (x_iload 4 (x_iload 5 (x_iload 6 (x_iload 7 (K 108))))) := ((xe_aload 0).trans (congrArg (x_aload 0) ((xe_iload 4).trans (congrArg (x_iload 4) ((xe_iload 5).trans (congrArg (x_iload 5) ((xe_iload 6).trans (congrArg (x_iload 6) ((xe_iload 7).trans (congrArg (x_iload 7) xe_nil))))))))))
set_option maxRecDepth 100000 in
theorem cl_X3_179_zX3_keepRow0 : cv_ RX3 179 yX3_keepRow zX3_keepRow0 3 4 := ⟨gi_V (lw_b5 164 (by decide +kernel) rfl : Cond.methodLink RX3 179 yX3_keepRow ∈ lw_g) (lw_b5 134 (by decide +kernel) rfl : Cond.instanceMethod yX3_keepRow ∈ lw_g) (lw_b5 135 (by decide +kernel) rfl : Cond.selects yX3_keepRow.cls yX3_keepRow yX3_keepRow ∈ lw_g) (lw_b1 18 (by decide +kernel) rfl : Cond.initialized yX3_keepRow.cls ∈ lw_g) (lw_b5 136 rfl rfl : Cond.code yX3_keepRow cX3_keepRow 5 none ∈ lw_g), ⟨by decide, by decide, by decide +kernel⟩, ⟨_, _, rfl⟩⟩
theorem bk_X3_runAnew_111 : ck_ fX3 (some .int) cX3_runAnew 111 [.goto 126] 114 = true := qck_r (nn_ _) (by decide +kernel)
theorem bs_X3_runAnew_111 {P : Zt → Option Zv → Prop} (K : Int → Zl → List Zv → Zt → Prop) : sx_ K P [.goto 126] 114 = x_goto 126 K := (xe_goto 126)
theorem bk_X3_runAnew_0 : ck_ fX3 (some .int) cX3_runAnew 0 [.aload 0, .tableswitch 0 3 15 #[], .istore 1, .aload 0, .tableswitch 0 3 17 #[], .istore 2, .aload 0, .iconst 0, .tableswitch 1 3 15 #[], .aload 0] 16 = true := qck_r (nn_ _) (by decide +kernel)
theorem bs_X3_runAnew_0 {P : Zt → Option Zv → Prop} (K : Int → Zl → List Zv → Zt → Prop) : sx_ K P [.aload 0, .tableswitch 0 3 15 #[], .istore 1, .aload 0, .tableswitch 0 3 17 #[], .istore 2, .aload 0, .iconst 0, .tableswitch 1 3 15 #[], .aload 0] 16 = x_aload 0 (x_g0 103 15 0 3000 (x_istore 1 (x_aload 0 (x_g0 103 17 0 3000 (x_istore 2 (x_aload 0 (x_iconst 0 (x_p 103 15 0 3000 (x_aload 0 (K 16)))))))))) := ((xe_aload 0).trans (congrArg (x_aload 0) ((xe_g0 (kk := 103) rfl tl_3_15).trans (congrArg (x_g0 103 15 0 3000) ((xe_istore 1).trans (congrArg (x_istore 1) ((xe_aload 0).trans (congrArg (x_aload 0) ((xe_g0 (kk := 103) rfl tl_3_17).trans (congrArg (x_g0 103 17 0 3000) ((xe_istore 2).trans (congrArg (x_istore 2) ((xe_aload 0).trans (congrArg (x_aload 0) ((xe_iconst 0).trans (congrArg (x_iconst 0) ((xe_p (kk := 103) rfl tl_3_15).trans (congrArg (x_p 103 15 0 3000) ((xe_aload 0).trans (congrArg (x_aload 0) xe_nil))))))))))))))))))))
set_option maxRecDepth 100000 in
theorem cl_X3_168 : cv_ RX3 168 yX3_backToBeginning zX3_backToBeginning 3 0 := ⟨gi_V (lw_b5 161 (by decide +kernel) rfl : Cond.methodLink RX3 168 yX3_backToBeginning ∈ lw_g) (lw_b5 15 (by decide +kernel) rfl : Cond.instanceMethod yX3_backToBeginning ∈ lw_g) (lw_b5 16 (by decide +kernel) rfl : Cond.selects yX3_backToBeginning.cls yX3_backToBeginning yX3_backToBeginning ∈ lw_g) (lw_b1 18 (by decide +kernel) rfl : Cond.initialized yX3_backToBeginning.cls ∈ lw_g) (lw_b5 17 rfl rfl : Cond.code yX3_backToBeginning cX3_backToBeginning 3 none ∈ lw_g), ⟨by decide, by decide, by decide +kernel⟩, ⟨_, _, rfl⟩⟩
theorem bk_X3_runAnew_19 : ck_ fX3 (some .int) cX3_runAnew 19 [.iconst 0, .istore 3] 21 = true := qck_r (nn_ _) (by decide +kernel)
theorem bs_X3_runAnew_19 {P : Zt → Option Zv → Prop} (K : Int → Zl → List Zv → Zt → Prop) : sx_ K P [.iconst 0, .istore 3] 21 = x_iconst 0 (x_istore 3 (K 21)) := ((xe_iconst 0).trans (congrArg (x_iconst 0) ((xe_istore 3).trans (congrArg (x_istore 3) xe_nil))))
abbrev po_X3_runAnew (T : Zt) (p : Int) : Zt → Option Zv → Prop := fun T' r => ∃ x : Int, r = some (vI x) ∧ fr_ [(103, [3, 4, 5, 15, 16, 17]), (466, []), (467, []), (468, []), (469, []), (472, []), (473, []), (470, []), (471, []), (190, []), (191, [0])] T T' ∧ oq_ T T' p ∧ (∀ x, x < T 191 0 0 → T' 190 x (-2) = T 190 x (-2)) ∧ (0 ≤ T' 103 p 15 ∧ 0 ≤ T' 103 p 17 ∧ T' 103 p 15 + T' 103 p 17 = T 103 p 15 + T 103 p 17) ∧ (T 191 0 0 ≤ T' 191 0 0 ∧ T' 191 0 0 ≤ T 191 0 0 + 512) ∧ lz_ (T' 190 (T' 103 p 16) (-2)) ∧ (4 * T' 103 p 17 ≤ T' 190 (T' 103 p 16) (-2) ∧ T' 103 p 16 < T' 191 0 0 ∧ 4 * T' 103 p 15 ≤ T' 190 (T 103 p 14) (-2)) ∧ (T' 103 p 3 = 0 → 1 ≤ T' 470 p 0 ∧ 1 ≤ T' 470 p 1)
set_option maxHeartbeats 4000000 in
theorem ct_X3_runAnew {T : Zt} {p : Int} (hf : 1 ≤ T 401 (T 103 p 0) 9 ∧ T 401 (T 103 p 0) 9 ≤ 6) (h1 : 0 ≤ T 103 p 15 ∧ 0 ≤ T 103 p 17 ∧ T 103 p 15 + T 103 p 17 ≤ 512) (h2 : 4 * T 103 p 15 ≤ T 190 (T 103 p 14) (-2) ∧ T 190 (T 103 p 14) (-2) ≤ 2048 ∧ 4 * T 103 p 17 ≤ T 190 (T 103 p 16) (-2)) (hz9 : lz_ (T 190 (T 103 p 16) (-2))) (h4 : T 103 p 14 < T 191 0 0 ∧ T 103 p 16 < T 191 0 0 ∧ T 191 0 0 ≤ 1000000000 ∧ -2147483648 ≤ T 103 p 14 ∧ -2147483648 ≤ T 103 p 16) : Ct_ yX3_runAnew zX3_runAnew T [vR 103 p] (po_X3_runAnew T p) := by
  refine ct_of pn_3 rfl rfl (Nat.le_of_ble_eq_true rfl) (fun hT hav => ?_)
  have hz : zX3_runAnew.2.2.2.1 = some .boolean → ∀ (T' : Zt) (x : Int), po_X3_runAnew T p T' (some (vI x)) → 0 ≤ x ∧ x ≤ 1 := fun h => by cases h
  have hb0 := lz_b hz9
  show J_ zX3_runAnew T (po_X3_runAnew T p) 127 4064 0 [some (vR 103 p), none, none, none, none, none, none, none] [] T
  have c_21 : ∀ (nn : Nat) (i : Int) (T1 : Zt), ((T 103 p 15 - i).toNat) ≤ nn → (fr_ [(103, [3, 4, 5, 15, 16, 17]), (466, []), (467, []), (468, []), (469, []), (472, []), (473, []), (470, []), (471, []), (190, []), (191, [0])] T T1) → (oq_ T T1 p) → (∀ x, x < T 191 0 0 → T1 190 x (-2) = T 190 x (-2)) → (0 ≤ i ∧ i ≤ T 103 p 15) → (0 ≤ T1 103 p 15 ∧ T1 103 p 15 ≤ i ∧ T1 103 p 15 + T1 103 p 17 = T 103 p 17 + i ∧ 0 ≤ T1 103 p 17) → (T 191 0 0 ≤ T1 191 0 0 ∧ T1 191 0 0 ≤ T 191 0 0 + i) → (lz_ (T1 190 (T1 103 p 16) (-2))) → (4 * T1 103 p 17 ≤ T1 190 (T1 103 p 16) (-2) ∧ T1 103 p 16 < T1 191 0 0) → (T1 103 p 3 = 0 → 1 ≤ T1 470 p 0 ∧ 1 ≤ T1 470 p 1) → J_ zX3_runAnew T (po_X3_runAnew T p) (((2048 - T1 190 (T1 103 p 16) (-2)) / 16).toNat) ((4096 - 2 * T1 190 (T1 103 p 16) (-2)).toNat) 21 [some (vR 103 p), some (vI (T 103 p 15)), some (vI (T 103 p 17)), some (vI i), none, none, none, none] [] T1 := by
    intro nn
    induction nn using Nat.strongRecOn with
    | _ nn ih_21 =>
      intro i T1 hm_21 hf_21 oT1 lT1 i1 i2 i3 i4 i5 i6
      have hb9 := lz_b i4
      refine j_blx (F := fX3) tb_X3 (nn_ _) bk_X3_runAnew_21 bs_X3_runAnew_21 hz (fun K hK => ?_)
      refine And.intro (fun c1 => ?_) (fun c1 => ?_)
      · refine hK 132 _ [] T1 ?_
        refine j_blx (F := fX3) tb_X3 (nn_ _) bk_X3_runAnew_132 bs_X3_runAnew_132 hz (fun K hK => ?_)
        intro b2 b2b
        refine rg_i (by omega) ?_
        refine (show po_X3_runAnew T p T1 (some (vI ((T1 103 p 17) - (T 103 p 17)))) from ?_)
        have y1 : T1 190 (T 103 p 14) (-2) = T 190 (T 103 p 14) (-2) := lT1 _ (by omega)
        exact ⟨_, rfl, hf_21, oT1, lT1, by omega, by omega, i4, by omega, i6⟩
      · have e4 : T1 103 p 14 = T 103 p 14 := hf_21 103 p 14 rfl
        refine rg_i (by omega) ?_
        have y5 : T1 190 (T1 103 p 14) (-2) = T 190 (T 103 p 14) (-2) := by rw [e4]; exact lT1 _ (by omega)
        refine ix_i (by omega) ?_
        intro b6 b6b
        have e7 : T1 190 (T1 103 p 14) (i * 4) = T1 190 (T 103 p 14) (i * 4) := by rw [e4]
        rw [e7] at b6 b6b ⊢
        have e9 : T1 103 p 14 = T 103 p 14 := hf_21 103 p 14 rfl
        refine rg_i (by omega) ?_
        refine rg_i (by omega) ?_
        have y10 : T1 190 (T1 103 p 14) (-2) = T 190 (T 103 p 14) (-2) := by rw [e9]; exact lT1 _ (by omega)
        refine ix_i (by omega) ?_
        intro b11 b11b
        have e12 : T1 190 (T1 103 p 14) ((i * 4) + 1) = T1 190 (T 103 p 14) ((i * 4) + 1) := by rw [e9]
        rw [e12] at b11 b11b ⊢
        have e14 : T1 103 p 14 = T 103 p 14 := hf_21 103 p 14 rfl
        refine rg_i (by omega) ?_
        refine rg_i (by omega) ?_
        have y15 : T1 190 (T1 103 p 14) (-2) = T 190 (T 103 p 14) (-2) := by rw [e14]; exact lT1 _ (by omega)
        refine ix_i (by omega) ?_
        intro b16 b16b
        have e17 : T1 190 (T1 103 p 14) ((i * 4) + 2) = T1 190 (T 103 p 14) ((i * 4) + 2) := by rw [e14]
        rw [e17] at b16 b16b ⊢
        have e19 : T1 103 p 14 = T 103 p 14 := hf_21 103 p 14 rfl
        refine rg_i (by omega) ?_
        refine rg_i (by omega) ?_
        have y20 : T1 190 (T1 103 p 14) (-2) = T 190 (T 103 p 14) (-2) := by rw [e19]; exact lT1 _ (by omega)
        refine ix_i (by omega) ?_
        intro b21 b21b
        have e22 : T1 190 (T1 103 p 14) ((i * 4) + 3) = T1 190 (T 103 p 14) ((i * 4) + 3) := by rw [e19]
        rw [e22] at b21 b21b ⊢
        refine hK 81 [some (vR 103 p), some (vI (T 103 p 15)), some (vI (T 103 p 17)), some (vI i), some (vI (T1 190 (T 103 p 14) (i * 4))), some (vI (T1 190 (T 103 p 14) ((i * 4) + 1))), some (vI (T1 190 (T 103 p 14) ((i * 4) + 2))), some (vI (T1 190 (T 103 p 14) ((i * 4) + 3)))] [vI (T1 190 (T 103 p 14) ((i * 4) + 3)), vI (T1 190 (T 103 p 14) ((i * 4) + 2)), vI (T1 190 (T 103 p 14) ((i * 4) + 1)), vI (T1 190 (T 103 p 14) (i * 4)), vR 103 p] T1 ?_
        refine j_callV (y := yX3_brokenLaw) (Yc := zX3_brokenLaw) (rest := []) [vI (T1 190 (T 103 p 14) (i * 4)), vI (T1 190 (T 103 p 14) ((i * 4) + 1)), vI (T1 190 (T 103 p 14) ((i * 4) + 2)), vI (T1 190 (T 103 p 14) ((i * 4) + 3))] (ct_X3_brokenLaw_k (T := T1)) cl_X3_171 (qd_c (by decide +kernel)) (by decide) rfl (by decide +kernel) (Nat.le_of_ble_eq_true rfl) (by first | decide | (simp only [zX3_brokenLaw]; omega)) (by first | decide | (simp only [zX3_brokenLaw]; omega)) rfl ?_
        rintro _ _ ⟨rfl, x23, rfl, hx23⟩
        show J_ zX3_runAnew T (po_X3_runAnew T p) (((2048 - T1 190 (T1 103 p 16) (-2)) / 16).toNat) ((4096 - 2 * T1 190 (T1 103 p 16) (-2)).toNat) 84 _ [vI x23] T1
        refine j_blx (F := fX3) tb_X3 (nn_ _) bk_X3_runAnew_84 bs_X3_runAnew_84 hz (fun K hK => ?_)
        refine And.intro (fun c24 => ?_) (fun c24 => ?_)
        · refine hK 114 _ [] T1 ?_
          refine j_ok (fun gt _ => ?_)
          have ga := bd_f gt 103 16 (by decide +kernel : (tf_ 103)[16]? = some (3, 190, -2147483648, 2147483647)) p
          refine j_blx (F := fX3) tb_X3 (nn_ _) bk_X3_runAnew_114 bs_X3_runAnew_114 hz (fun K hK => ?_)
          refine hK 123 _ [vI (T1 190 (T 103 p 14) ((i * 4) + 3)), vI (T1 190 (T 103 p 14) ((i * 4) + 2)), vI (T1 190 (T 103 p 14) ((i * 4) + 1)), vI (T1 190 (T 103 p 14) (i * 4)), vR 103 p] T1 ?_
          have gb : -2147483648 ≤ T1 103 p 16 := ga.1
          by_cases g25 : 4 * T1 103 p 17 + 4 ≤ T1 190 (T1 103 p 16) (-2)
          · refine j_callV (y := yX3_putAside) (Yc := zX3_putAside0) (rest := []) [vI (T1 190 (T 103 p 14) (i * 4)), vI (T1 190 (T 103 p 14) ((i * 4) + 1)), vI (T1 190 (T 103 p 14) ((i * 4) + 2)), vI (T1 190 (T 103 p 14) ((i * 4) + 3))] (ct_X3_putAside0 (T := T1) (by omega) (by omega) (by omega)) cl_X3_182_zX3_putAside0 (qd_c (by decide +kernel)) (by decide) rfl (by decide +kernel) (Nat.le_of_ble_eq_true rfl) (Nat.zero_le _) (Nat.zero_le _) rfl ?_
            rintro U26 _ ⟨rfl, fU26, qU26o, nU26, lU26, -⟩
            show J_ zX3_runAnew T (po_X3_runAnew T p) (((2048 - T1 190 (T1 103 p 16) (-2)) / 16).toNat) ((4096 - 2 * T1 190 (T1 103 p 16) (-2)).toNat) 126 _ [] U26
            refine j_blx (F := fX3) tb_X3 (nn_ _) bk_X3_runAnew_126 bs_X3_runAnew_126 hz (fun K hK => ?_)
            refine rg_i (by omega) ?_
            refine hK 21 [some (vR 103 p), some (vI (T 103 p 15)), some (vI (T 103 p 17)), some (vI (i + 1)), some (vI (T1 190 (T 103 p 14) (i * 4))), some (vI (T1 190 (T 103 p 14) ((i * 4) + 1))), some (vI (T1 190 (T 103 p 14) ((i * 4) + 2))), some (vI (T1 190 (T 103 p 14) ((i * 4) + 3)))] [] U26 ?_
            have e28 : U26 103 p 15 = T1 103 p 15 := fU26 103 p 15 rfl
            have e29 : U26 103 p 16 = T1 103 p 16 := fU26 103 p 16 rfl
            have e30 : U26 103 p 3 = T1 103 p 3 := fU26 103 p 3 rfl
            have e31 : U26 191 0 0 = T1 191 0 0 := fU26 191 0 0 rfl
            have y32 : U26 103 p 16 = T1 103 p 16 := fU26 103 p 16 rfl
            have d9 : U26 190 (U26 103 p 16) (-2) = T1 190 (T1 103 p 16) (-2) := by rw [y32]; exact lU26 _ (by omega)
            refine j_drop [some (vR 103 p), some (vI (T 103 p 15)), some (vI (T 103 p 17)), some (vI (i + 1)), none, none, none, none] (fun k v hk => ?_) rfl ?_
            · match k, hk with
              | 0, hk => exact hk
              | 1, hk => exact hk
              | 2, hk => exact hk
              | 3, hk => exact hk
              | 4, hk => cases hk
              | 5, hk => cases hk
              | 6, hk => cases hk
              | 7, hk => cases hk
              | k + 8, hk => cases hk
            refine j_mono (bc' := (((2048 - U26 190 (U26 103 p 16) (-2)) / 16).toNat)) (bs' := ((4096 - 2 * U26 190 (U26 103 p 16) (-2)).toNat)) (by omega) (by omega) ?_
            have e33 : U26 103 p 15 = T1 103 p 15 := fU26 103 p 15 rfl
            have e34 : U26 103 p 16 = T1 103 p 16 := fU26 103 p 16 rfl
            have e35 : U26 103 p 3 = T1 103 p 3 := fU26 103 p 3 rfl
            have e36 : U26 470 p 0 = T1 470 p 0 := fU26 470 p 0 rfl
            have e37 : U26 470 p 1 = T1 470 p 1 := fU26 470 p 1 rfl
            have e38 : U26 191 0 0 = T1 191 0 0 := fU26 191 0 0 rfl
            refine ih_21 _ ?_ (i + 1) U26 (Nat.le_refl _) ?_ ?_ ?_ ?_ ?_ ?_ ?_ ?_ ?_
            · omega
            · exact fr_t (fr_t (fr_0 _ _) (fr_s hf_21 rfl)) (fr_s fU26 rfl)
            · exact oq_t (oT1) qU26o
            · exact fun x hx => (lU26 x (by omega)).trans (lT1 x hx)
            · omega
            · omega
            · omega
            · rw [d9]; exact i4
            · omega
            · intro z9
              have y1 := i6 (by omega)
              have y2 : U26 470 p 0 = T1 470 p 0 := fU26 470 p 0 rfl
              have y3 : U26 470 p 1 = T1 470 p 1 := fU26 470 p 1 rfl
              omega
          · have gh := lz_h i4 (by omega)
            refine j_callV (pc := 123) (y := yX3_putAside) (Yc := (zX3_putAsideD (T1 190 (T1 103 p 16) (-2)).toNat)) (rest := []) [vI (T1 190 (T 103 p 14) (i * 4)), vI (T1 190 (T 103 p 14) ((i * 4) + 1)), vI (T1 190 (T 103 p 14) ((i * 4) + 2)), vI (T1 190 (T 103 p 14) ((i * 4) + 3))] (ct_X3_putAsideD (T := T1) (sl := (T1 190 (T1 103 p 16) (-2)).toNat) (by omega) (by omega) i4 (by omega)) (cl_X3_182_zX3_putAsideD _) (qd_c (by decide +kernel)) (by decide) rfl rfl (Nat.le_of_ble_eq_true rfl) (by show 1 ≤ ((2048 - T1 190 (T1 103 p 16) (-2)) / 16).toNat; omega) (by show 2 * (T1 190 (T1 103 p 16) (-2)).toNat ≤ (4096 - 2 * T1 190 (T1 103 p 16) (-2)).toNat; omega) rfl ?_
            rintro U39 _ ⟨rfl, fU39, qU39o, nU39, lU39, mU39, m2U39, zU39, iU39, kU39, dU39⟩
            show J_ zX3_runAnew T (po_X3_runAnew T p) ((((2048 - T1 190 (T1 103 p 16) (-2)) / 16).toNat) - 1) (((4096 - 2 * T1 190 (T1 103 p 16) (-2)).toNat) - (2 * (T1 190 (T1 103 p 16) (-2)).toNat)) 126 [some (vR 103 p), some (vI (T 103 p 15)), some (vI (T 103 p 17)), some (vI i), some (vI (T1 190 (T 103 p 14) (i * 4))), some (vI (T1 190 (T 103 p 14) ((i * 4) + 1))), some (vI (T1 190 (T 103 p 14) ((i * 4) + 2))), some (vI (T1 190 (T 103 p 14) ((i * 4) + 3)))] [] U39
            refine j_blx (F := fX3) tb_X3 (nn_ _) bk_X3_runAnew_126 bs_X3_runAnew_126 hz (fun K hK => ?_)
            refine rg_i (by omega) ?_
            refine hK 21 [some (vR 103 p), some (vI (T 103 p 15)), some (vI (T 103 p 17)), some (vI (i + 1)), some (vI (T1 190 (T 103 p 14) (i * 4))), some (vI (T1 190 (T 103 p 14) ((i * 4) + 1))), some (vI (T1 190 (T 103 p 14) ((i * 4) + 2))), some (vI (T1 190 (T 103 p 14) ((i * 4) + 3)))] [] U39 ?_
            have e41 : U39 103 p 15 = T1 103 p 15 := fU39 103 p 15 rfl
            have e42 : U39 103 p 3 = T1 103 p 3 := fU39 103 p 3 rfl
            have d9 : U39 190 (U39 103 p 16) (-2) = 2 * (T1 190 (T1 103 p 16) (-2)) := lz_2 i4 zU39 (by omega) (by omega)
            refine j_drop [some (vR 103 p), some (vI (T 103 p 15)), some (vI (T 103 p 17)), some (vI (i + 1)), none, none, none, none] (fun k v hk => ?_) rfl ?_
            · match k, hk with
              | 0, hk => exact hk
              | 1, hk => exact hk
              | 2, hk => exact hk
              | 3, hk => exact hk
              | 4, hk => cases hk
              | 5, hk => cases hk
              | 6, hk => cases hk
              | 7, hk => cases hk
              | k + 8, hk => cases hk
            refine j_mono (bc' := (((2048 - U39 190 (U39 103 p 16) (-2)) / 16).toNat)) (bs' := ((4096 - 2 * U39 190 (U39 103 p 16) (-2)).toNat)) (by omega) (by omega) ?_
            have e43 : U39 103 p 15 = T1 103 p 15 := fU39 103 p 15 rfl
            have e44 : U39 103 p 3 = T1 103 p 3 := fU39 103 p 3 rfl
            have e45 : U39 470 p 0 = T1 470 p 0 := fU39 470 p 0 rfl
            have e46 : U39 470 p 1 = T1 470 p 1 := fU39 470 p 1 rfl
            refine ih_21 _ ?_ (i + 1) U39 (Nat.le_refl _) ?_ ?_ ?_ ?_ ?_ ?_ ?_ ?_ ?_
            · omega
            · exact fr_t (fr_t (fr_0 _ _) (fr_s hf_21 rfl)) (fr_s fU39 rfl)
            · exact oq_t (oT1) qU39o
            · exact fun x hx => (lU39 x (by omega)).trans (lT1 x hx)
            · omega
            · omega
            · omega
            · exact zU39
            · omega
            · intro z9
              have y1 := i6 (by omega)
              have y2 : U39 470 p 0 = T1 470 p 0 := fU39 470 p 0 rfl
              have y3 : U39 470 p 1 = T1 470 p 1 := fU39 470 p 1 rfl
              omega
        · refine hK 96 _ [vI (T1 190 (T 103 p 14) ((i * 4) + 3)), vI (T1 190 (T 103 p 14) ((i * 4) + 2)), vI (T1 190 (T 103 p 14) ((i * 4) + 1)), vI (T1 190 (T 103 p 14) (i * 4)), vR 103 p] T1 ?_
          have e47 : T1 103 p 0 = T 103 p 0 := hf_21 103 p 0 rfl
          have e48 : T1 401 (T 103 p 0) 0 = T 401 (T 103 p 0) 0 := hf_21 401 (T 103 p 0) 0 rfl
          have r49 : T1 401 (T1 103 p 0) 0 = T 401 (T 103 p 0) 0 := by rw [e47]; exact e48
          have e50 : T1 103 p 0 = T 103 p 0 := hf_21 103 p 0 rfl
          have e51 : T1 401 (T 103 p 0) 0 = T 401 (T 103 p 0) 0 := hf_21 401 (T 103 p 0) 0 rfl
          have r52 : T1 401 (T1 103 p 0) 0 = T 401 (T 103 p 0) 0 := by rw [e50]; exact e51
          have e53 : T1 103 p 0 = T 103 p 0 := hf_21 103 p 0 rfl
          have e54 : T1 401 (T 103 p 0) 0 = T 401 (T 103 p 0) 0 := hf_21 401 (T 103 p 0) 0 rfl
          have r55 : T1 401 (T1 103 p 0) 0 = T 401 (T 103 p 0) 0 := by rw [e53]; exact e54
          have e56 : T1 103 p 0 = T 103 p 0 := hf_21 103 p 0 rfl
          have e57 : T1 401 (T 103 p 0) 0 = T 401 (T 103 p 0) 0 := hf_21 401 (T 103 p 0) 0 rfl
          have r58 : T1 401 (T1 103 p 0) 0 = T 401 (T 103 p 0) 0 := by rw [e56]; exact e57
          have e59 : T1 103 p 0 = T 103 p 0 := hf_21 103 p 0 rfl
          have e60 : T1 401 (T 103 p 0) 0 = T 401 (T 103 p 0) 0 := hf_21 401 (T 103 p 0) 0 rfl
          have r61 : T1 401 (T1 103 p 0) 0 = T 401 (T 103 p 0) 0 := by rw [e59]; exact e60
          have e62 : T1 103 p 0 = T 103 p 0 := hf_21 103 p 0 rfl
          have e63 : T1 401 (T 103 p 0) 0 = T 401 (T 103 p 0) 0 := hf_21 401 (T 103 p 0) 0 rfl
          have r64 : T1 401 (T1 103 p 0) 0 = T 401 (T 103 p 0) 0 := by rw [e62]; exact e63
          have e65 : T1 103 p 0 = T 103 p 0 := hf_21 103 p 0 rfl
          have e66 : T1 401 (T 103 p 0) 9 = T 401 (T 103 p 0) 9 := hf_21 401 (T 103 p 0) 9 rfl
          have r67 : T1 401 (T1 103 p 0) 9 = T 401 (T 103 p 0) 9 := by rw [e65]; exact e66
          have e68 : T1 103 p 0 = T 103 p 0 := hf_21 103 p 0 rfl
          have e69 : T1 401 (T 103 p 0) 9 = T 401 (T 103 p 0) 9 := hf_21 401 (T 103 p 0) 9 rfl
          have r70 : T1 401 (T1 103 p 0) 9 = T 401 (T 103 p 0) 9 := by rw [e68]; exact e69
          have e71 : T1 103 p 0 = T 103 p 0 := hf_21 103 p 0 rfl
          have e72 : T1 103 p 0 = T 103 p 0 := hf_21 103 p 0 rfl
          have g7 := hx23.2.2 (by omega)
          have g8 := i6 g7.2
          refine j_callV (y := yX3_carryOut) (Yc := zX3_carryOut) (rest := []) [vI (T1 190 (T 103 p 14) (i * 4)), vI (T1 190 (T 103 p 14) ((i * 4) + 1)), vI (T1 190 (T 103 p 14) ((i * 4) + 2)), vI (T1 190 (T 103 p 14) ((i * 4) + 3))] (ct_X3_carryOut (T := T1) (by exact g7.1) (by omega) (by omega)) cl_X3_175 (qd_c (by decide +kernel)) (by decide) rfl (by decide +kernel) (Nat.le_of_ble_eq_true rfl) (by first | decide | (simp only [zX3_carryOut]; omega)) (by first | decide | (simp only [zX3_carryOut]; omega)) rfl ?_
          rintro U73 _ ⟨rfl, fU73, qU73o, qU73⟩
          show J_ zX3_runAnew T (po_X3_runAnew T p) (((2048 - T1 190 (T1 103 p 16) (-2)) / 16).toNat) ((4096 - 2 * T1 190 (T1 103 p 16) (-2)).toNat) 99 _ [] U73
          refine j_blx (F := fX3) tb_X3 (nn_ _) bk_X3_runAnew_99 bs_X3_runAnew_99 hz (fun K hK => ?_)
          refine hK 108 _ [vI (T1 190 (T 103 p 14) ((i * 4) + 3)), vI (T1 190 (T 103 p 14) ((i * 4) + 2)), vI (T1 190 (T 103 p 14) ((i * 4) + 1)), vI (T1 190 (T 103 p 14) (i * 4)), vR 103 p] U73 ?_
          have e74 : U73 103 p 15 = T1 103 p 15 := fU73 103 p 15 rfl
          have e75 : U73 103 p 14 = T 103 p 14 := (fU73 103 p 14 rfl).trans (hf_21 103 p 14 rfl)
          have e76 : U73 191 0 0 = T1 191 0 0 := fU73 191 0 0 rfl
          have y77 : U73 103 p 14 = T 103 p 14 := (fU73 103 p 14 rfl).trans (hf_21 103 p 14 rfl)
          have y78 : U73 190 (U73 103 p 14) (-2) = T 190 (T 103 p 14) (-2) := by rw [y77]; exact (fU73 190 _ _ rfl).trans (lT1 _ (by omega))
          refine j_callV (y := yX3_keepRow) (Yc := zX3_keepRow0) (rest := []) [vI (T1 190 (T 103 p 14) (i * 4)), vI (T1 190 (T 103 p 14) ((i * 4) + 1)), vI (T1 190 (T 103 p 14) ((i * 4) + 2)), vI (T1 190 (T 103 p 14) ((i * 4) + 3))] (ct_X3_keepRow0 (T := U73) (by omega) (by omega) (by omega)) cl_X3_179_zX3_keepRow0 (qd_c (by decide +kernel)) (by decide) rfl (by decide +kernel) (Nat.le_of_ble_eq_true rfl) (by first | decide | (simp only [zX3_keepRow0]; omega)) (by first | decide | (simp only [zX3_keepRow0]; omega)) rfl ?_
          rintro U79 _ ⟨rfl, fU79, qU79o, nU79, lU79, -⟩
          show J_ zX3_runAnew T (po_X3_runAnew T p) (((2048 - T1 190 (T1 103 p 16) (-2)) / 16).toNat) ((4096 - 2 * T1 190 (T1 103 p 16) (-2)).toNat) 111 _ [] U79
          refine j_blx (F := fX3) tb_X3 (nn_ _) bk_X3_runAnew_111 bs_X3_runAnew_111 hz (fun K hK => ?_)
          refine hK 126 _ [] U79 ?_
          refine j_blx (F := fX3) tb_X3 (nn_ _) bk_X3_runAnew_126 bs_X3_runAnew_126 hz (fun K hK => ?_)
          refine rg_i (by omega) ?_
          refine hK 21 [some (vR 103 p), some (vI (T 103 p 15)), some (vI (T 103 p 17)), some (vI (i + 1)), some (vI (T1 190 (T 103 p 14) (i * 4))), some (vI (T1 190 (T 103 p 14) ((i * 4) + 1))), some (vI (T1 190 (T 103 p 14) ((i * 4) + 2))), some (vI (T1 190 (T 103 p 14) ((i * 4) + 3)))] [] U79 ?_
          have e81 : U79 103 p 17 = T1 103 p 17 := (fU79 103 p 17 rfl).trans (fU73 103 p 17 rfl)
          have e82 : U79 103 p 16 = T1 103 p 16 := (fU79 103 p 16 rfl).trans (fU73 103 p 16 rfl)
          have e83 : U79 103 p 3 = U73 103 p 3 := fU79 103 p 3 rfl
          have e84 : U79 191 0 0 = T1 191 0 0 := (fU79 191 0 0 rfl).trans (fU73 191 0 0 rfl)
          have y85 : U79 103 p 16 = T1 103 p 16 := (fU79 103 p 16 rfl).trans (fU73 103 p 16 rfl)
          have d9 : U79 190 (U79 103 p 16) (-2) = T1 190 (T1 103 p 16) (-2) := by rw [y85]; exact (lU79 _ (by omega)).trans (fU73 190 _ _ rfl)
          refine j_drop [some (vR 103 p), some (vI (T 103 p 15)), some (vI (T 103 p 17)), some (vI (i + 1)), none, none, none, none] (fun k v hk => ?_) rfl ?_
          · match k, hk with
            | 0, hk => exact hk
            | 1, hk => exact hk
            | 2, hk => exact hk
            | 3, hk => exact hk
            | 4, hk => cases hk
            | 5, hk => cases hk
            | 6, hk => cases hk
            | 7, hk => cases hk
            | k + 8, hk => cases hk
          refine j_mono (bc' := (((2048 - U79 190 (U79 103 p 16) (-2)) / 16).toNat)) (bs' := ((4096 - 2 * U79 190 (U79 103 p 16) (-2)).toNat)) (by omega) (by omega) ?_
          have e86 : U79 103 p 17 = T1 103 p 17 := (fU79 103 p 17 rfl).trans (fU73 103 p 17 rfl)
          have e87 : U79 103 p 16 = T1 103 p 16 := (fU79 103 p 16 rfl).trans (fU73 103 p 16 rfl)
          have e88 : U79 103 p 3 = U73 103 p 3 := fU79 103 p 3 rfl
          have e89 : U79 470 p 0 = U73 470 p 0 := fU79 470 p 0 rfl
          have e90 : U79 470 p 1 = U73 470 p 1 := fU79 470 p 1 rfl
          have e91 : U79 191 0 0 = T1 191 0 0 := (fU79 191 0 0 rfl).trans (fU73 191 0 0 rfl)
          refine ih_21 _ ?_ (i + 1) U79 (Nat.le_refl _) ?_ ?_ ?_ ?_ ?_ ?_ ?_ ?_ ?_
          · omega
          · exact fr_t (fr_t (fr_t (fr_0 _ _) (fr_s hf_21 rfl)) (fr_s fU73 rfl)) (fr_s fU79 rfl)
          · exact oq_t (oq_i (oT1) qU73o) qU79o
          · exact fun x hx => (lU79 x (by omega)).trans ((fU73 190 x (-2) rfl).trans (lT1 x hx))
          · omega
          · omega
          · omega
          · rw [d9]; exact i4
          · omega
          · intro z9
            have y1 := qU73 (by omega)
            have y2 : U79 470 p 0 = U73 470 p 0 := fU79 470 p 0 rfl
            have y3 : U79 470 p 1 = U73 470 p 1 := fU79 470 p 1 rfl
            omega
  refine j_blx (F := fX3) tb_X3 (nn_ _) bk_X3_runAnew_0 bs_X3_runAnew_0 hz (fun K hK => ?_)
  intro b92 b92b
  intro b93 b93b
  refine bd_i (by omega) ?_
  refine x_nm (fun U94 hU94 => ?_)
  have e95 := up_f hU94
  refine hK 16 [some (vR 103 p), some (vI (T 103 p 15)), some (vI (T 103 p 17)), none, none, none, none, none] [vR 103 p] U94 ?_
  have e96 : U94 103 p 0 = T 103 p 0 := up_j hU94 (by decide) 103 p
  have e97 : U94 401 (T 103 p 0) 9 = T 401 (T 103 p 0) 9 := up_k hU94 (by exact Nat.ne_of_beq_eq_false rfl) (T 103 p 0) 9
  have r98 : U94 401 (U94 103 p 0) 9 = T 401 (T 103 p 0) 9 := by rw [e96]; exact e97
  have e99 : U94 103 p 0 = T 103 p 0 := up_j hU94 (by decide) 103 p
  have e100 : U94 401 (T 103 p 0) 9 = T 401 (T 103 p 0) 9 := up_k hU94 (by exact Nat.ne_of_beq_eq_false rfl) (T 103 p 0) 9
  have r101 : U94 401 (U94 103 p 0) 9 = T 401 (T 103 p 0) 9 := by rw [e99]; exact e100
  have e102 : U94 103 p 0 = T 103 p 0 := up_j hU94 (by decide) 103 p
  refine j_callV (y := yX3_backToBeginning) (Yc := zX3_backToBeginning) (rest := []) [] (ct_X3_backToBeginning (T := U94) (by omega)) cl_X3_168 (qd_c (by decide +kernel)) (nn_ _) rfl (rf_of rfl) (Nat.le_of_ble_eq_true rfl) (Nat.le_of_ble_eq_true rfl) (Nat.le_of_ble_eq_true rfl) rfl ?_
  rintro U103 _ ⟨rfl, fU103, qU103o, qU103⟩
  show J_ zX3_runAnew T (po_X3_runAnew T p) 127 4064 19 _ [] U103
  refine j_blx (F := fX3) tb_X3 (nn_ _) bk_X3_runAnew_19 bs_X3_runAnew_19 hz (fun K hK => ?_)
  refine hK 21 [some (vR 103 p), some (vI (T 103 p 15)), some (vI (T 103 p 17)), some (vI 0), none, none, none, none] [] U103 ?_
  have e104 : U103 103 p 15 = 0 := (fU103 103 p 15 rfl).trans (up_f hU94)
  have e105 : U103 103 p 17 = T 103 p 17 := (fU103 103 p 17 rfl).trans (up_j hU94 (by decide) 103 p)
  have e106 : U103 103 p 16 = T 103 p 16 := (fU103 103 p 16 rfl).trans (up_j hU94 (by decide) 103 p)
  have e107 : U103 191 0 0 = T 191 0 0 := (fU103 191 0 0 rfl).trans (up_k hU94 (by exact Nat.ne_of_beq_eq_false rfl) 0 0)
  have y108 : U103 103 p 16 = T 103 p 16 := (fU103 103 _ _ rfl).trans (up_j hU94 (by decide) _ _)
  have d9 : U103 190 (U103 103 p 16) (-2) = T 190 (T 103 p 16) (-2) := by rw [y108]; exact (fU103 190 _ _ rfl).trans (up_k hU94 (by exact Nat.ne_of_beq_eq_false rfl) _ _)
  refine j_mono (bc' := (((2048 - U103 190 (U103 103 p 16) (-2)) / 16).toNat)) (bs' := ((4096 - 2 * U103 190 (U103 103 p 16) (-2)).toNat)) (by omega) (by omega) ?_
  have e109 : U103 103 p 15 = 0 := (fU103 103 p 15 rfl).trans (up_f hU94)
  have e110 : U103 103 p 17 = T 103 p 17 := (fU103 103 p 17 rfl).trans (up_j hU94 (by decide) 103 p)
  have e111 : U103 103 p 16 = T 103 p 16 := (fU103 103 p 16 rfl).trans (up_j hU94 (by decide) 103 p)
  have e112 : U103 191 0 0 = T 191 0 0 := (fU103 191 0 0 rfl).trans (up_k hU94 (by exact Nat.ne_of_beq_eq_false rfl) 0 0)
  refine c_21 _ 0 U103 (Nat.le_refl _) ?_ ?_ ?_ ?_ ?_ ?_ ?_ ?_ ?_
  · exact fr_t (fr_u (fr_0 _ _) hU94 rfl) (fr_s fU103 rfl)
  · exact oq_i (oq_u (oq_r) hU94) qU103o
  · exact fun x hx => (fU103 190 _ _ rfl).trans (up_k hU94 (by exact Nat.ne_of_beq_eq_false rfl) _ _)
  · omega
  · omega
  · omega
  · rw [d9]; exact hz9
  · omega
  · exact fun z9 => qU103.1
theorem oi_n {T T1 T2 : Zt} {p : Int} {k : Nat} (h : oi_ T T1 p) (e : ∀ k' i' j, ¬ (k' = k ∧ i' = p) → T2 k' i' j = T1 k' i' j) : oi_ T T2 p := fun k' i j hi => (e k' i j (fun q => hi q.2)).trans (h k' i j hi)
theorem oq_n {T T1 T2 : Zt} {p : Int} {k : Nat} (h : oq_ T T1 p) (e : ∀ k' i' j, ¬ (k' = k ∧ i' = p) → T2 k' i' j = T1 k' i' j) : oq_ T T2 p := fun k' i j hi a b => (e k' i j (fun q => hi q.2)).trans (h k' i j hi a b)
abbrev cX2_init : ByteArray := prog_4_method_1_code
def yX2_init : MethodName := ⟨RX2, "<init>", "(LSportsHouse$Competition;IIIII)V"⟩
def zX2_init : Zm := (RX2, cX2_init, 7, none, { frames := 1, cells := 2, slots := 23, locals := 30 })
theorem bk_X2_init_0 : ck_ fX2 none cX2_init 0 [.aload 0] 1 = true := qck_r (nn_ _) (by decide +kernel)
theorem bs_X2_init_0 {P : Zt → Option Zv → Prop} (K : Int → Zl → List Zv → Zt → Prop) : sx_ K P [.aload 0] 1 = x_aload 0 (K 1) := ((xe_aload 0).trans (congrArg (x_aload 0) xe_nil))
theorem bk_X2_init_4 : ck_ fX2 none cX2_init 4 [.aload 0, .iconst (-1)] 6 = true := qck_r (nn_ _) (by decide +kernel)
theorem bs_X2_init_4 {P : Zt → Option Zv → Prop} (K : Int → Zl → List Zv → Zt → Prop) : sx_ K P [.aload 0, .iconst (-1)] 6 = x_aload 0 (x_iconst (-1) (K 6)) := ((xe_aload 0).trans (congrArg (x_aload 0) ((xe_iconst (-1)).trans (congrArg (x_iconst (-1)) xe_nil))))
theorem fW_X2_9 : fW_ RX2 9 2 6 true := ⟨_, _, _, rfl, by decide, by decide, (lw_b4 11 (by decide +kernel) rfl : Cond.fieldLink RX2 9 _ _ _ ∈ lw_g), rfl, .int, by decide +kernel, (fun _ h => by cases h), fun _ _ => ⟨rfl, rfl⟩⟩
theorem bk_X2_init_9 : ck_ fX2 none cX2_init 9 [.aload 0, .iconst (-1)] 11 = true := qck_r (nn_ _) (by decide +kernel)
theorem bs_X2_init_9 {P : Zt → Option Zv → Prop} (K : Int → Zl → List Zv → Zt → Prop) : sx_ K P [.aload 0, .iconst (-1)] 11 = x_aload 0 (x_iconst (-1) (K 11)) := ((xe_aload 0).trans (congrArg (x_aload 0) ((xe_iconst (-1)).trans (congrArg (x_iconst (-1)) xe_nil))))
theorem fW_X2_15 : fW_ RX2 15 2 7 true := ⟨_, _, _, rfl, by decide, by decide, (lw_b4 14 (by decide +kernel) rfl : Cond.fieldLink RX2 15 _ _ _ ∈ lw_g), rfl, .int, by decide +kernel, (fun _ h => by cases h), fun _ _ => ⟨rfl, rfl⟩⟩
theorem bk_X2_init_14 : ck_ fX2 none cX2_init 14 [.aload 0, .iconst 20] 17 = true := qck_r (nn_ _) (by decide +kernel)
theorem bs_X2_init_14 {P : Zt → Option Zv → Prop} (K : Int → Zl → List Zv → Zt → Prop) : sx_ K P [.aload 0, .iconst 20] 17 = x_aload 0 (x_iconst 20 (K 17)) := ((xe_aload 0).trans (congrArg (x_aload 0) ((xe_iconst 20).trans (congrArg (x_iconst 20) xe_nil))))
theorem fW_X2_18 : fW_ RX2 18 2 8 false := ⟨_, _, _, rfl, by decide, by decide, (lw_b4 17 (by decide +kernel) rfl : Cond.fieldLink RX2 18 _ _ _ ∈ lw_g), rfl, .array .int, by decide +kernel, fun _ _ => ⟨rfl, rfl⟩, (fun _ h => by cases h)⟩
theorem bk_X2_init_22 : ck_ fX2 none cX2_init 22 [.aload 0, .iconst 2] 24 = true := qck_r (nn_ _) (by decide +kernel)
theorem bs_X2_init_22 {P : Zt → Option Zv → Prop} (K : Int → Zl → List Zv → Zt → Prop) : sx_ K P [.aload 0, .iconst 2] 24 = x_aload 0 (x_iconst 2 (K 24)) := ((xe_aload 0).trans (congrArg (x_aload 0) ((xe_iconst 2).trans (congrArg (x_iconst 2) xe_nil))))
theorem fW_X2_22 : fW_ RX2 22 2 9 false := ⟨_, _, _, rfl, by decide, by decide, (lw_b4 19 (by decide +kernel) rfl : Cond.fieldLink RX2 22 _ _ _ ∈ lw_g), rfl, .array .int, by decide +kernel, fun _ _ => ⟨rfl, rfl⟩, (fun _ h => by cases h)⟩
theorem bk_X2_init_29 : ck_ fX2 none cX2_init 29 [.aload 0, .aload 1] 31 = true := qck_r (nn_ _) (by decide +kernel)
theorem bs_X2_init_29 {P : Zt → Option Zv → Prop} (K : Int → Zl → List Zv → Zt → Prop) : sx_ K P [.aload 0, .aload 1] 31 = x_aload 0 (x_aload 1 (K 31)) := ((xe_aload 0).trans (congrArg (x_aload 0) ((xe_aload 1).trans (congrArg (x_aload 1) xe_nil))))
theorem fW_X2_25 : fW_ RX2 25 2 0 false := ⟨_, _, _, rfl, by decide, by decide, (lw_b3 226 (by decide +kernel) rfl : Cond.fieldLink RX2 25 _ _ _ ∈ lw_g), rfl, .object "SportsHouse$Competition", by decide +kernel, fun _ _ => ⟨rfl, rfl⟩, (fun _ h => by cases h)⟩
theorem bk_X2_init_34 : ck_ fX2 none cX2_init 34 [.aload 0, .iload 2] 36 = true := qck_r (nn_ _) (by decide +kernel)
theorem bs_X2_init_34 {P : Zt → Option Zv → Prop} (K : Int → Zl → List Zv → Zt → Prop) : sx_ K P [.aload 0, .iload 2] 36 = x_aload 0 (x_iload 2 (K 36)) := ((xe_aload 0).trans (congrArg (x_aload 0) ((xe_iload 2).trans (congrArg (x_iload 2) xe_nil))))
theorem fW_X2_29 : fW_ RX2 29 2 1 true := ⟨_, _, _, rfl, by decide, by decide, (lw_b3 229 (by decide +kernel) rfl : Cond.fieldLink RX2 29 _ _ _ ∈ lw_g), rfl, .int, by decide +kernel, (fun _ h => by cases h), fun _ _ => ⟨rfl, rfl⟩⟩
theorem bk_X2_init_39 : ck_ fX2 none cX2_init 39 [.aload 0, .iload 3] 41 = true := qck_r (nn_ _) (by decide +kernel)
theorem bs_X2_init_39 {P : Zt → Option Zv → Prop} (K : Int → Zl → List Zv → Zt → Prop) : sx_ K P [.aload 0, .iload 3] 41 = x_aload 0 (x_iload 3 (K 41)) := ((xe_aload 0).trans (congrArg (x_aload 0) ((xe_iload 3).trans (congrArg (x_iload 3) xe_nil))))
theorem fW_X2_32 : fW_ RX2 32 2 2 true := ⟨_, _, _, rfl, by decide, by decide, (lw_b3 232 (by decide +kernel) rfl : Cond.fieldLink RX2 32 _ _ _ ∈ lw_g), rfl, .int, by decide +kernel, (fun _ h => by cases h), fun _ _ => ⟨rfl, rfl⟩⟩
theorem bk_X2_init_44 : ck_ fX2 none cX2_init 44 [.aload 0, .iload 4] 47 = true := qck_r (nn_ _) (by decide +kernel)
theorem bs_X2_init_44 {P : Zt → Option Zv → Prop} (K : Int → Zl → List Zv → Zt → Prop) : sx_ K P [.aload 0, .iload 4] 47 = x_aload 0 (x_iload 4 (K 47)) := ((xe_aload 0).trans (congrArg (x_aload 0) ((xe_iload 4).trans (congrArg (x_iload 4) xe_nil))))
theorem fW_X2_35 : fW_ RX2 35 2 3 true := ⟨_, _, _, rfl, by decide, by decide, (lw_b3 234 (by decide +kernel) rfl : Cond.fieldLink RX2 35 _ _ _ ∈ lw_g), rfl, .int, by decide +kernel, (fun _ h => by cases h), fun _ _ => ⟨rfl, rfl⟩⟩
theorem bk_X2_init_50 : ck_ fX2 none cX2_init 50 [.aload 0, .iload 5] 53 = true := qck_r (nn_ _) (by decide +kernel)
theorem bs_X2_init_50 {P : Zt → Option Zv → Prop} (K : Int → Zl → List Zv → Zt → Prop) : sx_ K P [.aload 0, .iload 5] 53 = x_aload 0 (x_iload 5 (K 53)) := ((xe_aload 0).trans (congrArg (x_aload 0) ((xe_iload 5).trans (congrArg (x_iload 5) xe_nil))))
theorem fW_X2_38 : fW_ RX2 38 2 4 true := ⟨_, _, _, rfl, by decide, by decide, (lw_b4 0 (by decide +kernel) rfl : Cond.fieldLink RX2 38 _ _ _ ∈ lw_g), rfl, .int, by decide +kernel, (fun _ h => by cases h), fun _ _ => ⟨rfl, rfl⟩⟩
theorem bk_X2_init_56 : ck_ fX2 none cX2_init 56 [.aload 0, .iload 6] 59 = true := qck_r (nn_ _) (by decide +kernel)
theorem bs_X2_init_56 {P : Zt → Option Zv → Prop} (K : Int → Zl → List Zv → Zt → Prop) : sx_ K P [.aload 0, .iload 6] 59 = x_aload 0 (x_iload 6 (K 59)) := ((xe_aload 0).trans (congrArg (x_aload 0) ((xe_iload 6).trans (congrArg (x_iload 6) xe_nil))))
theorem fW_X2_41 : fW_ RX2 41 2 5 true := ⟨_, _, _, rfl, by decide, by decide, (lw_b4 6 (by decide +kernel) rfl : Cond.fieldLink RX2 41 _ _ _ ∈ lw_g), rfl, .int, by decide +kernel, (fun _ h => by cases h), fun _ _ => ⟨rfl, rfl⟩⟩
theorem bk_X2_init_62 : ck_ fX2 none cX2_init 62 [.return_] 63 = true := qck_r (nn_ _) (by decide +kernel)
theorem bs_X2_init_62 {P : Zt → Option Zv → Prop} (K : Int → Zl → List Zv → Zt → Prop) : sx_ K P [.return_] 63 = x_return_ P := (xe_return_)
abbrev po_X2_init (T : Zt) (n : Int) (c : Int) (m u h a d : Int) : Zt → Option Zv → Prop := fun T' r => r = none ∧ fr_ [(152, []), (448, []), (449, [])] T T' ∧ (oi_ T T' n ∧ (T' 152 n 0 = c + 1 ∧ T' 152 n 1 = m ∧ T' 152 n 2 = u ∧ T' 152 n 3 = h ∧ T' 152 n 4 = a ∧ T' 152 n 5 = d) ∧ (T' 152 n 6 = -1 ∧ T' 152 n 7 = -1 ∧ T' 152 n 8 = n + 1 ∧ T' 152 n 9 = n + 1 ∧ T' 152 n 10 = T 152 n 10) ∧ (∀ j, 0 ≤ j → T' 448 n j = 0) ∧ ∀ j, 0 ≤ j → T' 449 n j = 0)
set_option maxHeartbeats 4000000 in
theorem ct_X2_init {T : Zt} {n : Int} {c : Int} {m u h a d : Int} (h1 : 0 ≤ n ∧ n ≤ 399 ∧ 0 ≤ c ∧ c ≤ 3 ∧ 0 ≤ m ∧ m ≤ 399 ∧ 0 ≤ h ∧ h ≤ 11 ∧ 0 ≤ a ∧ a ≤ 11 ∧ 0 ≤ d ∧ d ≤ 999) (hf8 : ¬ T 448 n (-1) = 1) (hf9 : ¬ T 449 n (-1) = 1) : Ct_ yX2_init zX2_init T [vR 152 n, vR 100 c, vI m, vI u, vI h, vI a, vI d] (po_X2_init T n c m u h a d) := by
  refine ct_of pn_2 rfl rfl (Nat.le_of_ble_eq_true rfl) (fun hT hav => ?_)
  have hr_m : -2147483648 ≤ m ∧ m ≤ 2147483647 := hav (vI m) (by simp)
  have hr_u : -2147483648 ≤ u ∧ u ≤ 2147483647 := hav (vI u) (by simp)
  have hr_h : -2147483648 ≤ h ∧ h ≤ 2147483647 := hav (vI h) (by simp)
  have hr_a : -2147483648 ≤ a ∧ a ≤ 2147483647 := hav (vI a) (by simp)
  have hr_d : -2147483648 ≤ d ∧ d ≤ 2147483647 := hav (vI d) (by simp)
  have hz : zX2_init.2.2.2.1 = some .boolean → ∀ (T' : Zt) (x : Int), po_X2_init T n c m u h a d T' (some (vI x)) → 0 ≤ x ∧ x ≤ 1 := fun h => by cases h
  have hth : T 152 n (-1) = 1 := ok_al (v := none) (by decide) (hav (vR 152 n) (by simp))
  show J_ zX2_init T (po_X2_init T n c m u h a d) 2 23 0 [some (vR 152 n), some (vR 100 c), some (vI m), some (vI u), some (vI h), some (vI a), some (vI d)] [] T
  refine j_blx (F := fX2) tb_X2 (nn_ _) bk_X2_init_0 bs_X2_init_0 hz (fun K hK => ?_)
  refine hK 1 _ [vR 152 n] T ?_
  refine j_objI (pc := 1) (lw_b3 225 (by decide +kernel) rfl : Cond.methodLink RX2 3 Lib.objectInit ∈ lw_g) (lw_b1 27 (by decide +kernel) rfl : Cond.instanceMethod Lib.objectInit ∈ lw_g) (lw_b1 28 (by decide +kernel) rfl : Cond.code Lib.objectInit ⟨#[0xb1]⟩ 1 none ∈ lw_g) (by decide +kernel) (by decide) (by decide) (by decide) (by decide) ?_
  show J_ zX2_init T (po_X2_init T n c m u h a d) 2 23 4 _ [] T
  refine j_blx (F := fX2) tb_X2 (nn_ _) bk_X2_init_4 bs_X2_init_4 hz (fun K hK => ?_)
  refine hK 6 _ [vI (-1), vR 152 n] T ?_
  refine j_putW (pc := 6) (ci := 2) (j := 6) (z := (-1)) (by decide) (by decide) fW_X2_9 (by decide +kernel : (tf_ 152)[6]? = some (0, 0, (-1), 1)) (by decide) (by decide +kernel) rfl rfl (by omega) (by omega) ?_
  refine j_nm (fun U1 hU1 => ?_)
  have e2 := up_f hU1
  show J_ zX2_init T (po_X2_init T n c m u h a d) 2 23 9 _ [] U1
  refine j_blx (F := fX2) tb_X2 (nn_ _) bk_X2_init_9 bs_X2_init_9 hz (fun K hK => ?_)
  refine hK 11 _ [vI (-1), vR 152 n] U1 ?_
  refine j_putW (pc := 11) (ci := 2) (j := 7) (z := (-1)) (by decide) (by decide) fW_X2_15 (by decide +kernel : (tf_ 152)[7]? = some (0, 0, (-1), 7)) (by decide) (by decide +kernel) rfl rfl (by omega) (by omega) ?_
  refine j_nm (fun U3 hU3 => ?_)
  have e4 := up_f hU3
  show J_ zX2_init T (po_X2_init T n c m u h a d) 2 23 14 _ [] U3
  refine j_blx (F := fX2) tb_X2 (nn_ _) bk_X2_init_14 bs_X2_init_14 hz (fun K hK => ?_)
  refine hK 17 _ [vI 20, vR 152 n] U3 ?_
  have e6 : U3 448 n (-1) = T 448 n (-1) := (up_k hU3 (by exact Nat.ne_of_beq_eq_false rfl) n (-1)).trans (up_k hU1 (by exact Nat.ne_of_beq_eq_false rfl) n (-1))
  have e7 : U3 152 n (-1) = T 152 n (-1) := (up_j hU3 (by decide) 152 n).trans (up_j hU1 (by decide) 152 n)
  refine j_newI (bc' := 1) (bs' := 3) (pc := 17) (k := 448) (i := n) (by decide) (by decide +kernel : ta_ 448 = some (1, some 20, 0, 199)) (by decide) (by decide) (by show ¬ U3 448 n (-1) = 1; rw [e6]; exact hf8) (by omega) (by first | decide | omega) (by decide +kernel) (lw_b1 72 (by decide +kernel) rfl : Cond.arrayClass .int ∈ lw_g) (fun o ho => by rw [show ow_ 448 = some 102 by decide] at ho; cases ho; exact Or.inr (show U3 152 n (-1) = 1 from (e7).trans hth)) ?_
  refine j_nm (fun U5 hU5 => ?_)
  have fU5 := nu_fr hU5
  have zU5 := nu_tz hU5
  have oU5 := nu_to hU5
  have vU5 := nu_tv hU5
  show J_ zX2_init T (po_X2_init T n c m u h a d) 1 3 19 _ [vR 448 n, vR 152 n] U5
  refine j_putW (pc := 19) (ci := 2) (j := 8) (z := n + 1) (by decide) (by decide) fW_X2_18 (by decide +kernel : (tf_ 152)[8]? = some (5, 448, (-2147483648), 2147483647)) (by decide) (by decide +kernel) (fv5_ (by omega)) rfl (by omega) (by omega) ?_
  refine j_nm (fun U8 hU8 => ?_)
  have e9 := up_f hU8
  show J_ zX2_init T (po_X2_init T n c m u h a d) 1 3 22 _ [] U8
  refine j_blx (F := fX2) tb_X2 (nn_ _) bk_X2_init_22 bs_X2_init_22 hz (fun K hK => ?_)
  refine hK 24 _ [vI 2, vR 152 n] U8 ?_
  have e11 : U8 449 n (-1) = T 449 n (-1) := (up_k hU8 (by exact Nat.ne_of_beq_eq_false rfl) n (-1)).trans ((fU5 449 n (-1) rfl).trans ((up_k hU3 (by exact Nat.ne_of_beq_eq_false rfl) n (-1)).trans (up_k hU1 (by exact Nat.ne_of_beq_eq_false rfl) n (-1))))
  have e12 : U8 152 n (-1) = T 152 n (-1) := (up_j hU8 (by decide) 152 n).trans ((fU5 152 n (-1) rfl).trans ((up_j hU3 (by decide) 152 n).trans (up_j hU1 (by decide) 152 n)))
  refine j_newI (bc' := 0) (bs' := 1) (pc := 24) (k := 449) (i := n) (by decide) (by decide +kernel : ta_ 449 = some (1, some 2, 0, 10)) (by decide) (by decide) (by show ¬ U8 449 n (-1) = 1; rw [e11]; exact hf9) (by omega) (by first | decide | omega) (by decide +kernel) (lw_b1 72 (by decide +kernel) rfl : Cond.arrayClass .int ∈ lw_g) (fun o ho => by rw [show ow_ 449 = some 102 by decide] at ho; cases ho; exact Or.inr (show U8 152 n (-1) = 1 from (e12).trans hth)) ?_
  refine j_nm (fun U10 hU10 => ?_)
  have fU10 := nu_fr hU10
  have zU10 := nu_tz hU10
  have oU10 := nu_to hU10
  have vU10 := nu_tv hU10
  show J_ zX2_init T (po_X2_init T n c m u h a d) 0 1 26 _ [vR 449 n, vR 152 n] U10
  refine j_putW (pc := 26) (ci := 2) (j := 9) (z := n + 1) (by decide) (by decide) fW_X2_22 (by decide +kernel : (tf_ 152)[9]? = some (5, 449, (-2147483648), 2147483647)) (by decide) (by decide +kernel) (fv5_ (by omega)) rfl (by omega) (by omega) ?_
  refine j_nm (fun U13 hU13 => ?_)
  have e14 := up_f hU13
  show J_ zX2_init T (po_X2_init T n c m u h a d) 0 1 29 _ [] U13
  refine j_blx (F := fX2) tb_X2 (nn_ _) bk_X2_init_29 bs_X2_init_29 hz (fun K hK => ?_)
  refine hK 31 _ [vR 100 c, vR 152 n] U13 ?_
  refine j_putW (pc := 31) (ci := 2) (j := 0) (z := c + 1) (by decide) (by decide) fW_X2_25 (by decide +kernel : (tf_ 152)[0]? = some (5, 100, (-2147483648), 2147483647)) (by decide) (by decide +kernel) (fv5_ (by omega)) rfl (by omega) (by omega) ?_
  refine j_nm (fun U15 hU15 => ?_)
  have e16 := up_f hU15
  show J_ zX2_init T (po_X2_init T n c m u h a d) 0 1 34 _ [] U15
  refine j_blx (F := fX2) tb_X2 (nn_ _) bk_X2_init_34 bs_X2_init_34 hz (fun K hK => ?_)
  refine hK 36 _ [vI m, vR 152 n] U15 ?_
  refine j_putW (pc := 36) (ci := 2) (j := 1) (z := m) (by decide) (by decide) fW_X2_29 (by decide +kernel : (tf_ 152)[1]? = some (0, 0, 0, 399)) (by decide) (by decide +kernel) rfl rfl (by omega) (by omega) ?_
  refine j_nm (fun U17 hU17 => ?_)
  have e18 := up_f hU17
  show J_ zX2_init T (po_X2_init T n c m u h a d) 0 1 39 _ [] U17
  refine j_blx (F := fX2) tb_X2 (nn_ _) bk_X2_init_39 bs_X2_init_39 hz (fun K hK => ?_)
  refine hK 41 _ [vI u, vR 152 n] U17 ?_
  refine j_putW (pc := 41) (ci := 2) (j := 2) (z := u) (by decide) (by decide) fW_X2_32 (by decide +kernel : (tf_ 152)[2]? = some (0, 0, (-2147483648), 2147483647)) (by decide) (by decide +kernel) rfl rfl (by omega) (by omega) ?_
  refine j_nm (fun U19 hU19 => ?_)
  have e20 := up_f hU19
  show J_ zX2_init T (po_X2_init T n c m u h a d) 0 1 44 _ [] U19
  refine j_blx (F := fX2) tb_X2 (nn_ _) bk_X2_init_44 bs_X2_init_44 hz (fun K hK => ?_)
  refine hK 47 _ [vI h, vR 152 n] U19 ?_
  refine j_putW (pc := 47) (ci := 2) (j := 3) (z := h) (by decide) (by decide) fW_X2_35 (by decide +kernel : (tf_ 152)[3]? = some (0, 0, 0, 11)) (by decide) (by decide +kernel) rfl rfl (by omega) (by omega) ?_
  refine j_nm (fun U21 hU21 => ?_)
  have e22 := up_f hU21
  show J_ zX2_init T (po_X2_init T n c m u h a d) 0 1 50 _ [] U21
  refine j_blx (F := fX2) tb_X2 (nn_ _) bk_X2_init_50 bs_X2_init_50 hz (fun K hK => ?_)
  refine hK 53 _ [vI a, vR 152 n] U21 ?_
  refine j_putW (pc := 53) (ci := 2) (j := 4) (z := a) (by decide) (by decide) fW_X2_38 (by decide +kernel : (tf_ 152)[4]? = some (0, 0, 0, 11)) (by decide) (by decide +kernel) rfl rfl (by omega) (by omega) ?_
  refine j_nm (fun U23 hU23 => ?_)
  have e24 := up_f hU23
  show J_ zX2_init T (po_X2_init T n c m u h a d) 0 1 56 _ [] U23
  refine j_blx (F := fX2) tb_X2 (nn_ _) bk_X2_init_56 bs_X2_init_56 hz (fun K hK => ?_)
  refine hK 59 _ [vI d, vR 152 n] U23 ?_
  refine j_putW (pc := 59) (ci := 2) (j := 5) (z := d) (by decide) (by decide) fW_X2_41 (by decide +kernel : (tf_ 152)[5]? = some (0, 0, 0, 999)) (by decide) (by decide +kernel) rfl rfl (by omega) (by omega) ?_
  refine j_nm (fun U25 hU25 => ?_)
  have e26 := up_f hU25
  show J_ zX2_init T (po_X2_init T n c m u h a d) 0 1 62 _ [] U25
  refine j_blx (F := fX2) tb_X2 (nn_ _) bk_X2_init_62 bs_X2_init_62 hz (fun K hK => ?_)
  refine (show po_X2_init T n c m u h a d U25 (none) from ?_)
  have e27 : U25 152 n 0 = c + 1 := (up_j hU25 (by decide) 152 n).trans ((up_j hU23 (by decide) 152 n).trans ((up_j hU21 (by decide) 152 n).trans ((up_j hU19 (by decide) 152 n).trans ((up_j hU17 (by decide) 152 n).trans (up_f hU15)))))
  have e28 : U25 152 n 1 = m := (up_j hU25 (by decide) 152 n).trans ((up_j hU23 (by decide) 152 n).trans ((up_j hU21 (by decide) 152 n).trans ((up_j hU19 (by decide) 152 n).trans (up_f hU17))))
  have e29 : U25 152 n 2 = u := (up_j hU25 (by decide) 152 n).trans ((up_j hU23 (by decide) 152 n).trans ((up_j hU21 (by decide) 152 n).trans (up_f hU19)))
  have e30 : U25 152 n 3 = h := (up_j hU25 (by decide) 152 n).trans ((up_j hU23 (by decide) 152 n).trans (up_f hU21))
  have e31 : U25 152 n 4 = a := (up_j hU25 (by decide) 152 n).trans (up_f hU23)
  have e32 : U25 152 n 5 = d := up_f hU25
  have e33 : U25 152 n 6 = (-1) := (up_j hU25 (by decide) 152 n).trans ((up_j hU23 (by decide) 152 n).trans ((up_j hU21 (by decide) 152 n).trans ((up_j hU19 (by decide) 152 n).trans ((up_j hU17 (by decide) 152 n).trans ((up_j hU15 (by decide) 152 n).trans ((up_j hU13 (by decide) 152 n).trans ((fU10 152 n 6 rfl).trans ((up_j hU8 (by decide) 152 n).trans ((fU5 152 n 6 rfl).trans ((up_j hU3 (by decide) 152 n).trans (up_f hU1)))))))))))
  have e34 : U25 152 n 7 = (-1) := (up_j hU25 (by decide) 152 n).trans ((up_j hU23 (by decide) 152 n).trans ((up_j hU21 (by decide) 152 n).trans ((up_j hU19 (by decide) 152 n).trans ((up_j hU17 (by decide) 152 n).trans ((up_j hU15 (by decide) 152 n).trans ((up_j hU13 (by decide) 152 n).trans ((fU10 152 n 7 rfl).trans ((up_j hU8 (by decide) 152 n).trans ((fU5 152 n 7 rfl).trans (up_f hU3))))))))))
  have e35 : U25 152 n 8 = n + 1 := (up_j hU25 (by decide) 152 n).trans ((up_j hU23 (by decide) 152 n).trans ((up_j hU21 (by decide) 152 n).trans ((up_j hU19 (by decide) 152 n).trans ((up_j hU17 (by decide) 152 n).trans ((up_j hU15 (by decide) 152 n).trans ((up_j hU13 (by decide) 152 n).trans ((fU10 152 n 8 rfl).trans (up_f hU8))))))))
  have e36 : U25 152 n 9 = n + 1 := (up_j hU25 (by decide) 152 n).trans ((up_j hU23 (by decide) 152 n).trans ((up_j hU21 (by decide) 152 n).trans ((up_j hU19 (by decide) 152 n).trans ((up_j hU17 (by decide) 152 n).trans ((up_j hU15 (by decide) 152 n).trans (up_f hU13))))))
  have e37 : U25 152 n 10 = T 152 n 10 := (up_j hU25 (by decide) 152 n).trans ((up_j hU23 (by decide) 152 n).trans ((up_j hU21 (by decide) 152 n).trans ((up_j hU19 (by decide) 152 n).trans ((up_j hU17 (by decide) 152 n).trans ((up_j hU15 (by decide) 152 n).trans ((up_j hU13 (by decide) 152 n).trans ((fU10 152 n 10 rfl).trans ((up_j hU8 (by decide) 152 n).trans ((fU5 152 n 10 rfl).trans ((up_j hU3 (by decide) 152 n).trans (up_j hU1 (by decide) 152 n)))))))))))
  exact ⟨rfl, fr_u (fr_u (fr_u (fr_u (fr_u (fr_u (fr_u (fr_t (fr_u (fr_t (fr_u (fr_u (fr_0 _ _) hU1 rfl) hU3 rfl) (fr_s fU5 rfl)) hU8 rfl) (fr_s fU10 rfl)) hU13 rfl) hU15 rfl) hU17 rfl) hU19 rfl) hU21 rfl) hU23 rfl) hU25 rfl, oi_u (oi_u (oi_u (oi_u (oi_u (oi_u (oi_u (oi_n (oi_u (oi_n (oi_u (oi_u (oi_r) hU1) hU3) oU5) hU8) oU10) hU13) hU15) hU17) hU19) hU21) hU23) hU25, by omega, by omega, fun j hj => ((up_k hU25 (by exact Nat.ne_of_beq_eq_false rfl) _ _).trans ((up_k hU23 (by exact Nat.ne_of_beq_eq_false rfl) _ _).trans ((up_k hU21 (by exact Nat.ne_of_beq_eq_false rfl) _ _).trans ((up_k hU19 (by exact Nat.ne_of_beq_eq_false rfl) _ _).trans ((up_k hU17 (by exact Nat.ne_of_beq_eq_false rfl) _ _).trans ((up_k hU15 (by exact Nat.ne_of_beq_eq_false rfl) _ _).trans ((up_k hU13 (by exact Nat.ne_of_beq_eq_false rfl) _ _).trans ((fU10 448 _ _ rfl).trans (up_k hU8 (by exact Nat.ne_of_beq_eq_false rfl) _ _))))))))).trans (zU5 _ (by omega)), fun j hj => ((up_k hU25 (by exact Nat.ne_of_beq_eq_false rfl) _ _).trans ((up_k hU23 (by exact Nat.ne_of_beq_eq_false rfl) _ _).trans ((up_k hU21 (by exact Nat.ne_of_beq_eq_false rfl) _ _).trans ((up_k hU19 (by exact Nat.ne_of_beq_eq_false rfl) _ _).trans ((up_k hU17 (by exact Nat.ne_of_beq_eq_false rfl) _ _).trans ((up_k hU15 (by exact Nat.ne_of_beq_eq_false rfl) _ _).trans (up_k hU13 (by exact Nat.ne_of_beq_eq_false rfl) _ _))))))).trans (zU10 _ (by omega))⟩
abbrev po_J7_fill_404 (T : Zt) (p : Int) (v : Int) : Zt → Option Zv → Prop := fun T' r => r = none ∧ fr_ [(404, [])] T T' ∧ oi_ T T' p ∧ ∀ j, 0 ≤ j → j < 12 → T' 404 p j = v
set_option maxHeartbeats 4000000 in
theorem ct_J7_fill_404 {T : Zt} {p : Int} {v : Int} (h1 : (-1) ≤ v ∧ v ≤ 11) : Ct_ yJ7_fill_53178 zJ7_fill_53178 T [vR 404 p, vI v] (po_J7_fill_404 T p v) := by
  refine ct_of (by decide) rfl rfl (Nat.le_of_ble_eq_true rfl) (fun hT hav => ?_)
  have hr_v : -2147483648 ≤ v ∧ v ≤ 2147483647 := hav (vI v) (by simp)
  have hz : zJ7_fill_53178.2.2.2.1 = some .boolean → ∀ (T' : Zt) (x : Int), po_J7_fill_404 T p v T' (some (vI x)) → 0 ≤ x ∧ x ≤ 1 := fun h => by cases h
  show J_ zJ7_fill_53178 T (po_J7_fill_404 T p v) 0 0 0 [some (vR 404 p), some (vI v), none, none] [] T
  have c_5 : ∀ (nn : Nat) (j : Int) (T1 : Zt), ((12 - j).toNat) ≤ nn → (fr_ [(404, [])] T T1) → (0 ≤ j ∧ j ≤ 12) → (oi_ T T1 p) → (∀ q, 0 ≤ q → q < j → T1 404 p q = v) → J_ zJ7_fill_53178 T (po_J7_fill_404 T p v) 0 0 5 [some (vR 404 p), some (vI v), some (vI j), some (vI 12)] [] T1 := by
    intro nn
    induction nn using Nat.strongRecOn with
    | _ nn ih_5 =>
      intro j T1 hm_5 hf_5 i1 o1 f1
      refine j_blx (F := fJ7) tb_J7 (nn_ _) bk_J7_fill_53178_5 bs_J7_fill_53178_5 hz (fun K hK => ?_)
      refine And.intro (fun c1 => ?_) (fun c1 => ?_)
      · refine hK 20 _ [] T1 ?_
        refine j_blx (F := fJ7) tb_J7 (nn_ _) bk_J7_fill_53178_20 bs_J7_fill_53178_20 hz (fun K hK => ?_)
        refine (show po_J7_fill_404 T p v T1 (none) from ?_)
        exact ⟨rfl, fr_t (fr_0 _ _) (fr_s hf_5 rfl), o1, fun q a b => f1 q a (by omega)⟩
      · refine iy_i (by omega) (by omega) ?_
        refine x_nm (fun U2 hU2 => ?_)
        have e3 := up_f hU2
        refine rg_i (by omega) ?_
        refine hK 5 [some (vR 404 p), some (vI v), some (vI (j + 1)), some (vI 12)] [] U2 ?_
        refine ih_5 _ ?_ (j + 1) U2 (Nat.le_refl _) ?_ ?_ ?_ ?_
        · omega
        · exact fr_u (fr_t (fr_0 _ _) (fr_s hf_5 rfl)) hU2 rfl
        · omega
        · exact oi_u o1 hU2
        · intro q a b
          by_cases z : q = j
          · rw [z]; exact up_f hU2
          · rw [up_g hU2 (fun y => z y.2.2)]; exact f1 q a (by omega)
  refine j_blx (F := fJ7) tb_J7 (nn_ _) bk_J7_fill_53178_0 bs_J7_fill_53178_0 hz (fun K hK => ?_)
  refine hK 5 [some (vR 404 p), some (vI v), some (vI 0), some (vI 12)] [] T ?_
  refine c_5 _ 0 T (Nat.le_refl _) ?_ ?_ ?_ ?_
  · exact fr_0 _ _
  · omega
  · exact oi_r
  · intro q a b; omega
abbrev cX0_init : ByteArray := prog_2_method_1_code
def yX0_init : MethodName := ⟨RX0, "<init>", "(I[I[I)V"⟩
def zX0_init : Zm := (RX0, cX0_init, 4, none, { frames := 1, cells := 2, slots := 25, locals := 30 })
theorem bk_X0_init_0 : ck_ fX0 none cX0_init 0 [.aload 0] 1 = true := qck_r (nn_ _) (by decide +kernel)
theorem bs_X0_init_0 {P : Zt → Option Zv → Prop} (K : Int → Zl → List Zv → Zt → Prop) : sx_ K P [.aload 0] 1 = x_aload 0 (K 1) := ((xe_aload 0).trans (congrArg (x_aload 0) xe_nil))
theorem bk_X0_init_4 : ck_ fX0 none cX0_init 4 [.aload 0, .iconst 12] 7 = true := qck_r (nn_ _) (by decide +kernel)
theorem bs_X0_init_4 {P : Zt → Option Zv → Prop} (K : Int → Zl → List Zv → Zt → Prop) : sx_ K P [.aload 0, .iconst 12] 7 = x_aload 0 (x_iconst 12 (K 7)) := ((xe_aload 0).trans (congrArg (x_aload 0) ((xe_iconst 12).trans (congrArg (x_iconst 12) xe_nil))))
theorem fW_X0_9 : fW_ RX0 9 0 3 false := ⟨_, _, _, rfl, by decide, by decide, (lw_b3 91 (by decide +kernel) rfl : Cond.fieldLink RX0 9 _ _ _ ∈ lw_g), rfl, .array .int, by decide +kernel, fun _ _ => ⟨rfl, rfl⟩, (fun _ h => by cases h)⟩
theorem bk_X0_init_12 : ck_ fX0 none cX0_init 12 [.aload 0, .iconst 12] 15 = true := qck_r (nn_ _) (by decide +kernel)
theorem bs_X0_init_12 {P : Zt → Option Zv → Prop} (K : Int → Zl → List Zv → Zt → Prop) : sx_ K P [.aload 0, .iconst 12] 15 = x_aload 0 (x_iconst 12 (K 15)) := ((xe_aload 0).trans (congrArg (x_aload 0) ((xe_iconst 12).trans (congrArg (x_iconst 12) xe_nil))))
theorem fW_X0_15 : fW_ RX0 15 0 4 false := ⟨_, _, _, rfl, by decide, by decide, (lw_b3 96 (by decide +kernel) rfl : Cond.fieldLink RX0 15 _ _ _ ∈ lw_g), rfl, .array .int, by decide +kernel, fun _ _ => ⟨rfl, rfl⟩, (fun _ h => by cases h)⟩
theorem bk_X0_init_20 : ck_ fX0 none cX0_init 20 [.aload 0, .iload 1] 22 = true := qck_r (nn_ _) (by decide +kernel)
theorem bs_X0_init_20 {P : Zt → Option Zv → Prop} (K : Int → Zl → List Zv → Zt → Prop) : sx_ K P [.aload 0, .iload 1] 22 = x_aload 0 (x_iload 1 (K 22)) := ((xe_aload 0).trans (congrArg (x_aload 0) ((xe_iload 1).trans (congrArg (x_iload 1) xe_nil))))
theorem fW_X0_18 : fW_ RX0 18 0 0 true := ⟨_, _, _, rfl, by decide, by decide, (lw_b3 79 (by decide +kernel) rfl : Cond.fieldLink RX0 18 _ _ _ ∈ lw_g), rfl, .int, by decide +kernel, (fun _ h => by cases h), fun _ _ => ⟨rfl, rfl⟩⟩
theorem bk_X0_init_25 : ck_ fX0 none cX0_init 25 [.aload 0, .aload 2] 27 = true := qck_r (nn_ _) (by decide +kernel)
theorem bs_X0_init_25 {P : Zt → Option Zv → Prop} (K : Int → Zl → List Zv → Zt → Prop) : sx_ K P [.aload 0, .aload 2] 27 = x_aload 0 (x_aload 2 (K 27)) := ((xe_aload 0).trans (congrArg (x_aload 0) ((xe_aload 2).trans (congrArg (x_aload 2) xe_nil))))
theorem fW_X0_22 : fW_ RX0 22 0 1 false := ⟨_, _, _, rfl, by decide, by decide, (lw_b3 82 (by decide +kernel) rfl : Cond.fieldLink RX0 22 _ _ _ ∈ lw_g), rfl, .array .int, by decide +kernel, fun _ _ => ⟨rfl, rfl⟩, (fun _ h => by cases h)⟩
theorem bk_X0_init_30 : ck_ fX0 none cX0_init 30 [.aload 0, .aload 3] 32 = true := qck_r (nn_ _) (by decide +kernel)
theorem bs_X0_init_30 {P : Zt → Option Zv → Prop} (K : Int → Zl → List Zv → Zt → Prop) : sx_ K P [.aload 0, .aload 3] 32 = x_aload 0 (x_aload 3 (K 32)) := ((xe_aload 0).trans (congrArg (x_aload 0) ((xe_aload 3).trans (congrArg (x_aload 3) xe_nil))))
theorem fW_X0_25 : fW_ RX0 25 0 2 false := ⟨_, _, _, rfl, by decide, by decide, (lw_b3 88 (by decide +kernel) rfl : Cond.fieldLink RX0 25 _ _ _ ∈ lw_g), rfl, .array .int, by decide +kernel, fun _ _ => ⟨rfl, rfl⟩, (fun _ h => by cases h)⟩
theorem bk_X0_init_35 : ck_ fX0 none cX0_init 35 [.aload 0] 36 = true := qck_r (nn_ _) (by decide +kernel)
theorem bs_X0_init_35 {P : Zt → Option Zv → Prop} (K : Int → Zl → List Zv → Zt → Prop) : sx_ K P [.aload 0] 36 = x_aload 0 (K 36) := ((xe_aload 0).trans (congrArg (x_aload 0) xe_nil))
theorem bk_X0_init_39 : ck_ fX0 none cX0_init 39 [.iconst (-1)] 40 = true := qck_r (nn_ _) (by decide +kernel)
theorem bs_X0_init_39 {P : Zt → Option Zv → Prop} (K : Int → Zl → List Zv → Zt → Prop) : sx_ K P [.iconst (-1)] 40 = x_iconst (-1) (K 40) := ((xe_iconst (-1)).trans (congrArg (x_iconst (-1)) xe_nil))
set_option maxRecDepth 100000 in
theorem cl_X0_28 : cs_ RX0 28 yJ7_fill_53178 zJ7_fill_53178 2 := ⟨gi_S (lw_b3 78 (by decide +kernel) rfl : Cond.methodLink RX0 28 yJ7_fill_53178 ∈ lw_g) (lw_b2 26 (by decide +kernel) rfl : Cond.static yJ7_fill_53178 ∈ lw_g) (lw_b1 7 (by decide +kernel) rfl : Cond.initialized yJ7_fill_53178.cls ∈ lw_g) (lw_b2 27 rfl rfl : Cond.code yJ7_fill_53178 cJ7_fill_53178 4 none ∈ lw_g), ⟨by decide, by decide, by decide +kernel⟩⟩
theorem bk_X0_init_43 : ck_ fX0 none cX0_init 43 [.return_] 44 = true := qck_r (nn_ _) (by decide +kernel)
theorem bs_X0_init_43 {P : Zt → Option Zv → Prop} (K : Int → Zl → List Zv → Zt → Prop) : sx_ K P [.return_] 44 = x_return_ P := (xe_return_)
abbrev po_X0_init (T : Zt) (n : Int) (m : Int) : Zt → Option Zv → Prop := fun T' r => r = none ∧ fr_ [(150, []), (403, []), (404, [])] T T' ∧ (oi_ T T' n ∧ (T' 150 n 0 = m ∧ T' 150 n 1 = n + 1 ∧ T' 150 n 2 = n + 1 ∧ T' 150 n 3 = n + 1 ∧ T' 150 n 4 = n + 1) ∧ (T' 150 n 5 = T 150 n 5 ∧ T' 150 n 6 = T 150 n 6 ∧ T' 150 n 7 = T 150 n 7 ∧ T' 150 n 8 = T 150 n 8) ∧ ∀ j, 0 ≤ j → j < 12 → T' 404 n j = -1)
set_option maxHeartbeats 4000000 in
theorem ct_X0_init {T : Zt} {n : Int} {m : Int} (h1 : 0 ≤ n ∧ n ≤ 3 ∧ 0 ≤ m ∧ m ≤ 3) (hf3 : ¬ T 403 n (-1) = 1) (hf4 : ¬ T 404 n (-1) = 1) : Ct_ yX0_init zX0_init T [vR 150 n, vI m, vR 401 n, vR 402 n] (po_X0_init T n m) := by
  refine ct_of pn_0 rfl rfl (Nat.le_of_ble_eq_true rfl) (fun hT hav => ?_)
  have hr_m : -2147483648 ≤ m ∧ m ≤ 2147483647 := hav (vI m) (by simp)
  have hz : zX0_init.2.2.2.1 = some .boolean → ∀ (T' : Zt) (x : Int), po_X0_init T n m T' (some (vI x)) → 0 ≤ x ∧ x ≤ 1 := fun h => by cases h
  have hth : T 150 n (-1) = 1 := ok_al (v := none) (by decide) (hav (vR 150 n) (by simp))
  show J_ zX0_init T (po_X0_init T n m) 2 25 0 [some (vR 150 n), some (vI m), some (vR 401 n), some (vR 402 n)] [] T
  refine j_blx (F := fX0) tb_X0 (nn_ _) bk_X0_init_0 bs_X0_init_0 hz (fun K hK => ?_)
  refine hK 1 _ [vR 150 n] T ?_
  refine j_objI (pc := 1) (lw_b3 77 (by decide +kernel) rfl : Cond.methodLink RX0 3 Lib.objectInit ∈ lw_g) (lw_b1 27 (by decide +kernel) rfl : Cond.instanceMethod Lib.objectInit ∈ lw_g) (lw_b1 28 (by decide +kernel) rfl : Cond.code Lib.objectInit ⟨#[0xb1]⟩ 1 none ∈ lw_g) (by decide +kernel) (by decide) (by decide) (by decide) (by decide) ?_
  show J_ zX0_init T (po_X0_init T n m) 2 25 4 _ [] T
  refine j_blx (F := fX0) tb_X0 (nn_ _) bk_X0_init_4 bs_X0_init_4 hz (fun K hK => ?_)
  refine hK 7 _ [vI 12, vR 150 n] T ?_
  refine j_newI (bc' := 1) (bs' := 13) (pc := 7) (k := 403) (i := n) (by decide) (by decide +kernel : ta_ 403 = some (1, some 12, 0, 11)) (by decide) (by decide) (hf3) (by omega) (by first | decide | omega) (by decide +kernel) (lw_b1 72 (by decide +kernel) rfl : Cond.arrayClass .int ∈ lw_g) (fun o ho => by rw [show ow_ 403 = some 100 by decide] at ho; cases ho; exact Or.inr (show T 150 n (-1) = 1 from hth)) ?_
  refine j_nm (fun U1 hU1 => ?_)
  have fU1 := nu_fr hU1
  have zU1 := nu_tz hU1
  have oU1 := nu_to hU1
  have vU1 := nu_tv hU1
  show J_ zX0_init T (po_X0_init T n m) 1 13 9 _ [vR 403 n, vR 150 n] U1
  refine j_putW (pc := 9) (ci := 0) (j := 3) (z := n + 1) (by decide) (by decide) fW_X0_9 (by decide +kernel : (tf_ 150)[3]? = some (5, 403, (-2147483648), 2147483647)) (by decide) (by decide +kernel) (fv5_ (by omega)) rfl (by omega) (by omega) ?_
  refine j_nm (fun U2 hU2 => ?_)
  have e3 := up_f hU2
  show J_ zX0_init T (po_X0_init T n m) 1 13 12 _ [] U2
  refine j_blx (F := fX0) tb_X0 (nn_ _) bk_X0_init_12 bs_X0_init_12 hz (fun K hK => ?_)
  refine hK 15 _ [vI 12, vR 150 n] U2 ?_
  have e5 : U2 404 n (-1) = T 404 n (-1) := (up_k hU2 (by exact Nat.ne_of_beq_eq_false rfl) n (-1)).trans (fU1 404 n (-1) rfl)
  have e6 : U2 150 n (-1) = T 150 n (-1) := (up_j hU2 (by decide) 150 n).trans (fU1 150 n (-1) rfl)
  refine j_newI (bc' := 0) (bs' := 1) (pc := 15) (k := 404) (i := n) (by decide) (by decide +kernel : ta_ 404 = some (1, some 12, (-1), 11)) (by decide) (by decide) (by show ¬ U2 404 n (-1) = 1; rw [e5]; exact hf4) (by omega) (by first | decide | omega) (by decide +kernel) (lw_b1 72 (by decide +kernel) rfl : Cond.arrayClass .int ∈ lw_g) (fun o ho => by rw [show ow_ 404 = some 100 by decide] at ho; cases ho; exact Or.inr (show U2 150 n (-1) = 1 from (e6).trans hth)) ?_
  refine j_nm (fun U4 hU4 => ?_)
  have fU4 := nu_fr hU4
  have zU4 := nu_tz hU4
  have oU4 := nu_to hU4
  have vU4 := nu_tv hU4
  show J_ zX0_init T (po_X0_init T n m) 0 1 17 _ [vR 404 n, vR 150 n] U4
  refine j_putW (pc := 17) (ci := 0) (j := 4) (z := n + 1) (by decide) (by decide) fW_X0_15 (by decide +kernel : (tf_ 150)[4]? = some (5, 404, (-2147483648), 2147483647)) (by decide) (by decide +kernel) (fv5_ (by omega)) rfl (by omega) (by omega) ?_
  refine j_nm (fun U7 hU7 => ?_)
  have e8 := up_f hU7
  show J_ zX0_init T (po_X0_init T n m) 0 1 20 _ [] U7
  refine j_blx (F := fX0) tb_X0 (nn_ _) bk_X0_init_20 bs_X0_init_20 hz (fun K hK => ?_)
  refine hK 22 _ [vI m, vR 150 n] U7 ?_
  refine j_putW (pc := 22) (ci := 0) (j := 0) (z := m) (by decide) (by decide) fW_X0_18 (by decide +kernel : (tf_ 150)[0]? = some (0, 0, 0, 3)) (by decide) (by decide +kernel) rfl rfl (by omega) (by omega) ?_
  refine j_nm (fun U9 hU9 => ?_)
  have e10 := up_f hU9
  show J_ zX0_init T (po_X0_init T n m) 0 1 25 _ [] U9
  refine j_blx (F := fX0) tb_X0 (nn_ _) bk_X0_init_25 bs_X0_init_25 hz (fun K hK => ?_)
  refine hK 27 _ [vR 401 n, vR 150 n] U9 ?_
  refine j_putW (pc := 27) (ci := 0) (j := 1) (z := n + 1) (by decide) (by decide) fW_X0_22 (by decide +kernel : (tf_ 150)[1]? = some (5, 401, (-2147483648), 2147483647)) (by decide) (by decide +kernel) (fv5_ (by omega)) rfl (by omega) (by omega) ?_
  refine j_nm (fun U11 hU11 => ?_)
  have e12 := up_f hU11
  show J_ zX0_init T (po_X0_init T n m) 0 1 30 _ [] U11
  refine j_blx (F := fX0) tb_X0 (nn_ _) bk_X0_init_30 bs_X0_init_30 hz (fun K hK => ?_)
  refine hK 32 _ [vR 402 n, vR 150 n] U11 ?_
  refine j_putW (pc := 32) (ci := 0) (j := 2) (z := n + 1) (by decide) (by decide) fW_X0_25 (by decide +kernel : (tf_ 150)[2]? = some (5, 402, (-2147483648), 2147483647)) (by decide) (by decide +kernel) (fv5_ (by omega)) rfl (by omega) (by omega) ?_
  refine j_nm (fun U13 hU13 => ?_)
  have e14 := up_f hU13
  show J_ zX0_init T (po_X0_init T n m) 0 1 35 _ [] U13
  refine j_blx (F := fX0) tb_X0 (nn_ _) bk_X0_init_35 bs_X0_init_35 hz (fun K hK => ?_)
  refine hK 36 _ [vR 150 n] U13 ?_
  have e15 : U13 150 n 4 = n + 1 := (up_j hU13 (by decide) 150 n).trans ((up_j hU11 (by decide) 150 n).trans ((up_j hU9 (by decide) 150 n).trans (up_f hU7)))
  refine j_getW (pc := 36) (ci := 0) (j := 4) (v := vR 404 n) (by decide) (by decide) vi_0 (by decide) (lw_b3 96 (by decide +kernel) rfl : Cond.fieldLink RX0 15 _ _ _ ∈ lw_g) (by decide +kernel : (tf_ 150)[4]? = some (5, 404, (-2147483648), 2147483647)) (by decide +kernel) (by rw [show (((4 : Nat) : Int)) = 4 from rfl, e15]; exact fv5_ (by omega)) ?_
  show J_ zX0_init T (po_X0_init T n m) 0 1 39 _ [vR 404 n] U13
  refine j_blx (F := fX0) tb_X0 (nn_ _) bk_X0_init_39 bs_X0_init_39 hz (fun K hK => ?_)
  refine hK 40 _ [vI (-1), vR 404 n] U13 ?_
  refine j_callS (y := yJ7_fill_53178) (Yc := zJ7_fill_53178) (rest := []) [vR 404 n, vI (-1)] (ct_J7_fill_404 (T := U13) (by omega)) cl_X0_28 (qd_c (by decide +kernel)) (nn_ _) rfl (rf_of rfl) (Nat.le_of_ble_eq_true rfl) (Nat.le_of_ble_eq_true rfl) (Nat.le_of_ble_eq_true rfl) rfl ?_
  rintro U16 _ ⟨rfl, fU16, qU16o, qU16⟩
  show J_ zX0_init T (po_X0_init T n m) 0 1 43 _ [] U16
  refine j_blx (F := fX0) tb_X0 (nn_ _) bk_X0_init_43 bs_X0_init_43 hz (fun K hK => ?_)
  refine (show po_X0_init T n m U16 (none) from ?_)
  have e17 : U16 150 n 0 = m := (fU16 150 n 0 rfl).trans ((up_j hU13 (by decide) 150 n).trans ((up_j hU11 (by decide) 150 n).trans (up_f hU9)))
  have e18 : U16 150 n 1 = n + 1 := (fU16 150 n 1 rfl).trans ((up_j hU13 (by decide) 150 n).trans (up_f hU11))
  have e19 : U16 150 n 2 = n + 1 := (fU16 150 n 2 rfl).trans (up_f hU13)
  have e20 : U16 150 n 3 = n + 1 := (fU16 150 n 3 rfl).trans ((up_j hU13 (by decide) 150 n).trans ((up_j hU11 (by decide) 150 n).trans ((up_j hU9 (by decide) 150 n).trans ((up_j hU7 (by decide) 150 n).trans ((fU4 150 n 3 rfl).trans (up_f hU2))))))
  have e21 : U16 150 n 4 = n + 1 := (fU16 150 n 4 rfl).trans ((up_j hU13 (by decide) 150 n).trans ((up_j hU11 (by decide) 150 n).trans ((up_j hU9 (by decide) 150 n).trans (up_f hU7))))
  have e22 : U16 150 n 5 = T 150 n 5 := (fU16 150 n 5 rfl).trans ((up_j hU13 (by decide) 150 n).trans ((up_j hU11 (by decide) 150 n).trans ((up_j hU9 (by decide) 150 n).trans ((up_j hU7 (by decide) 150 n).trans ((fU4 150 n 5 rfl).trans ((up_j hU2 (by decide) 150 n).trans (fU1 150 n 5 rfl)))))))
  have e23 : U16 150 n 6 = T 150 n 6 := (fU16 150 n 6 rfl).trans ((up_j hU13 (by decide) 150 n).trans ((up_j hU11 (by decide) 150 n).trans ((up_j hU9 (by decide) 150 n).trans ((up_j hU7 (by decide) 150 n).trans ((fU4 150 n 6 rfl).trans ((up_j hU2 (by decide) 150 n).trans (fU1 150 n 6 rfl)))))))
  have e24 : U16 150 n 7 = T 150 n 7 := (fU16 150 n 7 rfl).trans ((up_j hU13 (by decide) 150 n).trans ((up_j hU11 (by decide) 150 n).trans ((up_j hU9 (by decide) 150 n).trans ((up_j hU7 (by decide) 150 n).trans ((fU4 150 n 7 rfl).trans ((up_j hU2 (by decide) 150 n).trans (fU1 150 n 7 rfl)))))))
  have e25 : U16 150 n 8 = T 150 n 8 := (fU16 150 n 8 rfl).trans ((up_j hU13 (by decide) 150 n).trans ((up_j hU11 (by decide) 150 n).trans ((up_j hU9 (by decide) 150 n).trans ((up_j hU7 (by decide) 150 n).trans ((fU4 150 n 8 rfl).trans ((up_j hU2 (by decide) 150 n).trans (fU1 150 n 8 rfl)))))))
  exact ⟨rfl, fr_t (fr_u (fr_u (fr_u (fr_u (fr_t (fr_u (fr_t (fr_0 _ _) (fr_s fU1 rfl)) hU2 rfl) (fr_s fU4 rfl)) hU7 rfl) hU9 rfl) hU11 rfl) hU13 rfl) (fr_s fU16 rfl), oi_t (oi_u (oi_u (oi_u (oi_u (oi_n (oi_u (oi_n (oi_r) oU1) hU2) oU4) hU7) hU9) hU11) hU13) qU16o, by omega, by omega, fun j a b => qU16 j a b⟩
abbrev cX3_init : ByteArray := prog_5_method_1_code
def yX3_init : MethodName := ⟨RX3, "<init>", "([I[I[I)V"⟩
def zX3_init : Zm := (RX3, cX3_init, 4, none, { frames := 1, cells := 10, slots := 111, locals := 30 })
theorem bk_X3_init_0 : ck_ fX3 none cX3_init 0 [.aload 0] 1 = true := qck_r (nn_ _) (by decide +kernel)
theorem bs_X3_init_0 {P : Zt → Option Zv → Prop} (K : Int → Zl → List Zv → Zt → Prop) : sx_ K P [.aload 0] 1 = x_aload 0 (K 1) := ((xe_aload 0).trans (congrArg (x_aload 0) xe_nil))
theorem bk_X3_init_4 : ck_ fX3 none cX3_init 4 [.aload 0, .iconst 2] 6 = true := qck_r (nn_ _) (by decide +kernel)
theorem bs_X3_init_4 {P : Zt → Option Zv → Prop} (K : Int → Zl → List Zv → Zt → Prop) : sx_ K P [.aload 0, .iconst 2] 6 = x_aload 0 (x_iconst 2 (K 6)) := ((xe_aload 0).trans (congrArg (x_aload 0) ((xe_iconst 2).trans (congrArg (x_iconst 2) xe_nil))))
theorem fW_X3_9 : fW_ RX3 9 3 6 false := ⟨_, _, _, rfl, by decide, by decide, (lw_b4 194 (by decide +kernel) rfl : Cond.fieldLink RX3 9 _ _ _ ∈ lw_g), rfl, .array .int, by decide +kernel, fun _ _ => ⟨rfl, rfl⟩, (fun _ h => by cases h)⟩
theorem bk_X3_init_11 : ck_ fX3 none cX3_init 11 [.aload 0, .iconst 2] 13 = true := qck_r (nn_ _) (by decide +kernel)
theorem bs_X3_init_11 {P : Zt → Option Zv → Prop} (K : Int → Zl → List Zv → Zt → Prop) : sx_ K P [.aload 0, .iconst 2] 13 = x_aload 0 (x_iconst 2 (K 13)) := ((xe_aload 0).trans (congrArg (x_aload 0) ((xe_iconst 2).trans (congrArg (x_iconst 2) xe_nil))))
theorem fW_X3_15 : fW_ RX3 15 3 7 false := ⟨_, _, _, rfl, by decide, by decide, (lw_b4 196 (by decide +kernel) rfl : Cond.fieldLink RX3 15 _ _ _ ∈ lw_g), rfl, .array .int, by decide +kernel, fun _ _ => ⟨rfl, rfl⟩, (fun _ h => by cases h)⟩
theorem bk_X3_init_18 : ck_ fX3 none cX3_init 18 [.aload 0, .iconst 2] 20 = true := qck_r (nn_ _) (by decide +kernel)
theorem bs_X3_init_18 {P : Zt → Option Zv → Prop} (K : Int → Zl → List Zv → Zt → Prop) : sx_ K P [.aload 0, .iconst 2] 20 = x_aload 0 (x_iconst 2 (K 20)) := ((xe_aload 0).trans (congrArg (x_aload 0) ((xe_iconst 2).trans (congrArg (x_iconst 2) xe_nil))))
theorem fW_X3_18 : fW_ RX3 18 3 8 false := ⟨_, _, _, rfl, by decide, by decide, (lw_b4 198 (by decide +kernel) rfl : Cond.fieldLink RX3 18 _ _ _ ∈ lw_g), rfl, .array .int, by decide +kernel, fun _ _ => ⟨rfl, rfl⟩, (fun _ h => by cases h)⟩
theorem bk_X3_init_25 : ck_ fX3 none cX3_init 25 [.aload 0, .iconst 2] 27 = true := qck_r (nn_ _) (by decide +kernel)
theorem bs_X3_init_25 {P : Zt → Option Zv → Prop} (K : Int → Zl → List Zv → Zt → Prop) : sx_ K P [.aload 0, .iconst 2] 27 = x_aload 0 (x_iconst 2 (K 27)) := ((xe_aload 0).trans (congrArg (x_aload 0) ((xe_iconst 2).trans (congrArg (x_iconst 2) xe_nil))))
theorem fW_X3_21 : fW_ RX3 21 3 9 false := ⟨_, _, _, rfl, by decide, by decide, (lw_b4 200 (by decide +kernel) rfl : Cond.fieldLink RX3 21 _ _ _ ∈ lw_g), rfl, .array .int, by decide +kernel, fun _ _ => ⟨rfl, rfl⟩, (fun _ h => by cases h)⟩
theorem bk_X3_init_32 : ck_ fX3 none cX3_init 32 [.aload 0, .iconst 2] 34 = true := qck_r (nn_ _) (by decide +kernel)
theorem bs_X3_init_32 {P : Zt → Option Zv → Prop} (K : Int → Zl → List Zv → Zt → Prop) : sx_ K P [.aload 0, .iconst 2] 34 = x_aload 0 (x_iconst 2 (K 34)) := ((xe_aload 0).trans (congrArg (x_aload 0) ((xe_iconst 2).trans (congrArg (x_iconst 2) xe_nil))))
theorem fW_X3_24 : fW_ RX3 24 3 10 false := ⟨_, _, _, rfl, by decide, by decide, (lw_b4 202 (by decide +kernel) rfl : Cond.fieldLink RX3 24 _ _ _ ∈ lw_g), rfl, .array .int, by decide +kernel, fun _ _ => ⟨rfl, rfl⟩, (fun _ h => by cases h)⟩
theorem bk_X3_init_39 : ck_ fX3 none cX3_init 39 [.aload 0, .iconst 12] 42 = true := qck_r (nn_ _) (by decide +kernel)
theorem bs_X3_init_39 {P : Zt → Option Zv → Prop} (K : Int → Zl → List Zv → Zt → Prop) : sx_ K P [.aload 0, .iconst 12] 42 = x_aload 0 (x_iconst 12 (K 42)) := ((xe_aload 0).trans (congrArg (x_aload 0) ((xe_iconst 12).trans (congrArg (x_iconst 12) xe_nil))))
theorem fW_X3_27 : fW_ RX3 27 3 11 false := ⟨_, _, _, rfl, by decide, by decide, (lw_b4 204 (by decide +kernel) rfl : Cond.fieldLink RX3 27 _ _ _ ∈ lw_g), rfl, .array .int, by decide +kernel, fun _ _ => ⟨rfl, rfl⟩, (fun _ h => by cases h)⟩
theorem bk_X3_init_47 : ck_ fX3 none cX3_init 47 [.aload 0, .iconst 20] 50 = true := qck_r (nn_ _) (by decide +kernel)
theorem bs_X3_init_47 {P : Zt → Option Zv → Prop} (K : Int → Zl → List Zv → Zt → Prop) : sx_ K P [.aload 0, .iconst 20] 50 = x_aload 0 (x_iconst 20 (K 50)) := ((xe_aload 0).trans (congrArg (x_aload 0) ((xe_iconst 20).trans (congrArg (x_iconst 20) xe_nil))))
theorem fW_X3_30 : fW_ RX3 30 3 12 false := ⟨_, _, _, rfl, by decide, by decide, (lw_b4 205 (by decide +kernel) rfl : Cond.fieldLink RX3 30 _ _ _ ∈ lw_g), rfl, .array .int, by decide +kernel, fun _ _ => ⟨rfl, rfl⟩, (fun _ h => by cases h)⟩
theorem bk_X3_init_55 : ck_ fX3 none cX3_init 55 [.aload 0, .iconst 20] 58 = true := qck_r (nn_ _) (by decide +kernel)
theorem bs_X3_init_55 {P : Zt → Option Zv → Prop} (K : Int → Zl → List Zv → Zt → Prop) : sx_ K P [.aload 0, .iconst 20] 58 = x_aload 0 (x_iconst 20 (K 58)) := ((xe_aload 0).trans (congrArg (x_aload 0) ((xe_iconst 20).trans (congrArg (x_iconst 20) xe_nil))))
theorem fW_X3_33 : fW_ RX3 33 3 13 false := ⟨_, _, _, rfl, by decide, by decide, (lw_b4 206 (by decide +kernel) rfl : Cond.fieldLink RX3 33 _ _ _ ∈ lw_g), rfl, .array .int, by decide +kernel, fun _ _ => ⟨rfl, rfl⟩, (fun _ h => by cases h)⟩
theorem bk_X3_init_63 : ck_ fX3 none cX3_init 63 [.aload 0, .iconst 32] 66 = true := qck_r (nn_ _) (by decide +kernel)
theorem bs_X3_init_63 {P : Zt → Option Zv → Prop} (K : Int → Zl → List Zv → Zt → Prop) : sx_ K P [.aload 0, .iconst 32] 66 = x_aload 0 (x_iconst 32 (K 66)) := ((xe_aload 0).trans (congrArg (x_aload 0) ((xe_iconst 32).trans (congrArg (x_iconst 32) xe_nil))))
theorem fW_X3_36 : fW_ RX3 36 3 14 false := ⟨_, _, _, rfl, by decide, by decide, (lw_b4 209 (by decide +kernel) rfl : Cond.fieldLink RX3 36 _ _ _ ∈ lw_g), rfl, .array .int, by decide +kernel, fun _ _ => ⟨rfl, rfl⟩, (fun _ h => by cases h)⟩
theorem bk_X3_init_71 : ck_ fX3 none cX3_init 71 [.aload 0, .iconst 16] 74 = true := qck_r (nn_ _) (by decide +kernel)
theorem bs_X3_init_71 {P : Zt → Option Zv → Prop} (K : Int → Zl → List Zv → Zt → Prop) : sx_ K P [.aload 0, .iconst 16] 74 = x_aload 0 (x_iconst 16 (K 74)) := ((xe_aload 0).trans (congrArg (x_aload 0) ((xe_iconst 16).trans (congrArg (x_iconst 16) xe_nil))))
theorem fW_X3_39 : fW_ RX3 39 3 16 false := ⟨_, _, _, rfl, by decide, by decide, (lw_b4 213 (by decide +kernel) rfl : Cond.fieldLink RX3 39 _ _ _ ∈ lw_g), rfl, .array .int, by decide +kernel, fun _ _ => ⟨rfl, rfl⟩, (fun _ h => by cases h)⟩
theorem bk_X3_init_79 : ck_ fX3 none cX3_init 79 [.aload 0, .aload 1] 81 = true := qck_r (nn_ _) (by decide +kernel)
theorem bs_X3_init_79 {P : Zt → Option Zv → Prop} (K : Int → Zl → List Zv → Zt → Prop) : sx_ K P [.aload 0, .aload 1] 81 = x_aload 0 (x_aload 1 (K 81)) := ((xe_aload 0).trans (congrArg (x_aload 0) ((xe_aload 1).trans (congrArg (x_aload 1) xe_nil))))
theorem fW_X3_42 : fW_ RX3 42 3 0 false := ⟨_, _, _, rfl, by decide, by decide, (lw_b4 185 (by decide +kernel) rfl : Cond.fieldLink RX3 42 _ _ _ ∈ lw_g), rfl, .array .int, by decide +kernel, fun _ _ => ⟨rfl, rfl⟩, (fun _ h => by cases h)⟩
theorem bk_X3_init_84 : ck_ fX3 none cX3_init 84 [.aload 0, .aload 2] 86 = true := qck_r (nn_ _) (by decide +kernel)
theorem bs_X3_init_84 {P : Zt → Option Zv → Prop} (K : Int → Zl → List Zv → Zt → Prop) : sx_ K P [.aload 0, .aload 2] 86 = x_aload 0 (x_aload 2 (K 86)) := ((xe_aload 0).trans (congrArg (x_aload 0) ((xe_aload 2).trans (congrArg (x_aload 2) xe_nil))))
theorem fW_X3_45 : fW_ RX3 45 3 1 false := ⟨_, _, _, rfl, by decide, by decide, (lw_b4 186 (by decide +kernel) rfl : Cond.fieldLink RX3 45 _ _ _ ∈ lw_g), rfl, .array .int, by decide +kernel, fun _ _ => ⟨rfl, rfl⟩, (fun _ h => by cases h)⟩
theorem bk_X3_init_89 : ck_ fX3 none cX3_init 89 [.aload 0, .aload 3] 91 = true := qck_r (nn_ _) (by decide +kernel)
theorem bs_X3_init_89 {P : Zt → Option Zv → Prop} (K : Int → Zl → List Zv → Zt → Prop) : sx_ K P [.aload 0, .aload 3] 91 = x_aload 0 (x_aload 3 (K 91)) := ((xe_aload 0).trans (congrArg (x_aload 0) ((xe_aload 3).trans (congrArg (x_aload 3) xe_nil))))
theorem fW_X3_48 : fW_ RX3 48 3 2 false := ⟨_, _, _, rfl, by decide, by decide, (lw_b4 187 (by decide +kernel) rfl : Cond.fieldLink RX3 48 _ _ _ ∈ lw_g), rfl, .array .int, by decide +kernel, fun _ _ => ⟨rfl, rfl⟩, (fun _ h => by cases h)⟩
theorem bk_X3_init_94 : ck_ fX3 none cX3_init 94 [.return_] 95 = true := qck_r (nn_ _) (by decide +kernel)
theorem bs_X3_init_94 {P : Zt → Option Zv → Prop} (K : Int → Zl → List Zv → Zt → Prop) : sx_ K P [.return_] 95 = x_return_ P := (xe_return_)
abbrev po_X3_init (T : Zt) (n : Int) (c : Int) : Zt → Option Zv → Prop := fun T' r => r = none ∧ fr_ [(153, []), (466, []), (467, []), (468, []), (469, []), (470, []), (471, []), (472, []), (473, []), (190, []), (191, [0])] T T' ∧ (oq_ T T' n ∧ (T' 153 n 0 = c + 1 ∧ T' 153 n 1 = n + 1 ∧ T' 153 n 2 = n + 1 ∧ T' 153 n 14 = T 191 0 0 + 1 ∧ T' 153 n 16 = T 191 0 0 + 2) ∧ (T' 153 n 6 = n + 1 ∧ T' 153 n 7 = n + 1 ∧ T' 153 n 8 = n + 1 ∧ T' 153 n 9 = n + 1 ∧ T' 153 n 10 = n + 1 ∧ T' 153 n 11 = n + 1 ∧ T' 153 n 12 = n + 1 ∧ T' 153 n 13 = n + 1) ∧ (T' 153 n 3 = T 153 n 3 ∧ T' 153 n 4 = T 153 n 4 ∧ T' 153 n 5 = T 153 n 5 ∧ T' 153 n 15 = T 153 n 15 ∧ T' 153 n 17 = T 153 n 17) ∧ T' 190 (T 191 0 0) (-2) = 32 ∧ T' 190 (T 191 0 0 + 1) (-2) = 16 ∧ T' 191 0 0 = T 191 0 0 + 2 ∧ ∀ x, x < T 191 0 0 → T' 190 x (-2) = T 190 x (-2))
set_option maxHeartbeats 4000000 in
theorem ct_X3_init {T : Zt} {n : Int} {c : Int} (h1 : 0 ≤ n ∧ n ≤ 399 ∧ 0 ≤ c ∧ c ≤ 3 ∧ 0 ≤ T 191 0 0 ∧ T 191 0 0 ≤ 1000000000) (hf : ∀ k : Nat, 460 ≤ k → k < 480 → ¬ T k n (-1) = 1) : Ct_ yX3_init zX3_init T [vR 153 n, vR 401 c, vR 448 n, vR 449 n] (po_X3_init T n c) := by
  refine ct_of pn_3 rfl rfl (Nat.le_of_ble_eq_true rfl) (fun hT hav => ?_)
  have hz : zX3_init.2.2.2.1 = some .boolean → ∀ (T' : Zt) (x : Int), po_X3_init T n c T' (some (vI x)) → 0 ≤ x ∧ x ≤ 1 := fun h => by cases h
  have hth : T 153 n (-1) = 1 := ok_al (v := none) (by decide) (hav (vR 153 n) (by simp))
  have hn0 : 0 ≤ n := h1.1
  have hn1 : -2147483648 ≤ n + 1 := by omega
  have hn2 : n + 1 ≤ 2147483647 := by omega
  have hc0 : 0 ≤ c := h1.2.2.1
  have hc1 : -2147483648 ≤ c + 1 := by omega
  have hc2 : c + 1 ≤ 2147483647 := by omega
  show J_ zX3_init T (po_X3_init T n c) 10 111 0 [some (vR 153 n), some (vR 401 c), some (vR 448 n), some (vR 449 n)] [] T
  refine j_blx (F := fX3) tb_X3 (nn_ _) bk_X3_init_0 bs_X3_init_0 hz (fun K hK => ?_)
  refine hK 1 _ [vR 153 n] T ?_
  refine j_objI (pc := 1) (lw_b4 184 (by decide +kernel) rfl : Cond.methodLink RX3 3 Lib.objectInit ∈ lw_g) (lw_b1 27 (by decide +kernel) rfl : Cond.instanceMethod Lib.objectInit ∈ lw_g) (lw_b1 28 (by decide +kernel) rfl : Cond.code Lib.objectInit ⟨#[0xb1]⟩ 1 none ∈ lw_g) (by decide +kernel) (by decide) (by decide) (by decide) (by decide) ?_
  show J_ zX3_init T (po_X3_init T n c) 10 111 4 _ [] T
  refine j_blx (F := fX3) tb_X3 (nn_ _) bk_X3_init_4 bs_X3_init_4 hz (fun K hK => ?_)
  refine hK 6 _ [vI 2, vR 153 n] T ?_
  refine j_newI (bc' := 9) (bs' := 109) (pc := 6) (k := 466) (i := n) (by decide) (by decide +kernel : ta_ 466 = some (1, some 2, (-2147483648), 2147483647)) (by decide) (by decide) (hf 466 (by decide) (by decide)) (by omega) (by first | decide | omega) (by decide +kernel) (lw_b1 72 (by decide +kernel) rfl : Cond.arrayClass .int ∈ lw_g) (fun o ho => by rw [show ow_ 466 = some 103 by decide] at ho; cases ho; exact Or.inr (show T 153 n (-1) = 1 from hth)) ?_
  refine j_nm (fun U1 hU1 => ?_)
  have fU1 := nu_fr hU1
  have zU1 := nu_tz hU1
  have oU1 := nu_to hU1
  have vU1 := nu_tv hU1
  show J_ zX3_init T (po_X3_init T n c) 9 109 8 _ [vR 466 n, vR 153 n] U1
  refine j_putW (pc := 8) (ci := 3) (j := 6) (z := n + 1) (by decide) (by decide) fW_X3_9 (by decide +kernel : (tf_ 153)[6]? = some (5, 466, (-2147483648), 2147483647)) (by decide) (by decide +kernel) (fv5_ (by first | exact hn0 | exact hn1 | exact hn2 | exact hc0 | exact hc1 | exact hc2 | omega)) rfl (by first | exact hn0 | exact hn1 | exact hn2 | exact hc0 | exact hc1 | exact hc2 | omega) (by first | exact hn0 | exact hn1 | exact hn2 | exact hc0 | exact hc1 | exact hc2 | omega) ?_
  refine j_nm (fun U2 hU2 => ?_)
  have e3 := up_f hU2
  show J_ zX3_init T (po_X3_init T n c) 9 109 11 _ [] U2
  refine j_blx (F := fX3) tb_X3 (nn_ _) bk_X3_init_11 bs_X3_init_11 hz (fun K hK => ?_)
  refine hK 13 _ [vI 2, vR 153 n] U2 ?_
  have e5 : U2 467 n (-1) = T 467 n (-1) := (up_k hU2 (by exact Nat.ne_of_beq_eq_false rfl) n (-1)).trans (fU1 467 n (-1) rfl)
  have e6 : U2 153 n (-1) = T 153 n (-1) := (up_j hU2 (by decide) 153 n).trans (fU1 153 n (-1) rfl)
  refine j_newI (bc' := 8) (bs' := 107) (pc := 13) (k := 467) (i := n) (by decide) (by decide +kernel : ta_ 467 = some (1, some 2, (-2147483648), 2147483647)) (by decide) (by decide) (by show ¬ U2 467 n (-1) = 1; rw [e5]; exact hf 467 (by decide) (by decide)) (by omega) (by first | decide | omega) (by decide +kernel) (lw_b1 72 (by decide +kernel) rfl : Cond.arrayClass .int ∈ lw_g) (fun o ho => by rw [show ow_ 467 = some 103 by decide] at ho; cases ho; exact Or.inr (show U2 153 n (-1) = 1 from (e6).trans hth)) ?_
  refine j_nm (fun U4 hU4 => ?_)
  have fU4 := nu_fr hU4
  have zU4 := nu_tz hU4
  have oU4 := nu_to hU4
  have vU4 := nu_tv hU4
  show J_ zX3_init T (po_X3_init T n c) 8 107 15 _ [vR 467 n, vR 153 n] U4
  refine j_putW (pc := 15) (ci := 3) (j := 7) (z := n + 1) (by decide) (by decide) fW_X3_15 (by decide +kernel : (tf_ 153)[7]? = some (5, 467, (-2147483648), 2147483647)) (by decide) (by decide +kernel) (fv5_ (by first | exact hn0 | exact hn1 | exact hn2 | exact hc0 | exact hc1 | exact hc2 | omega)) rfl (by first | exact hn0 | exact hn1 | exact hn2 | exact hc0 | exact hc1 | exact hc2 | omega) (by first | exact hn0 | exact hn1 | exact hn2 | exact hc0 | exact hc1 | exact hc2 | omega) ?_
  refine j_nm (fun U7 hU7 => ?_)
  have e8 := up_f hU7
  show J_ zX3_init T (po_X3_init T n c) 8 107 18 _ [] U7
  refine j_blx (F := fX3) tb_X3 (nn_ _) bk_X3_init_18 bs_X3_init_18 hz (fun K hK => ?_)
  refine hK 20 _ [vI 2, vR 153 n] U7 ?_
  have e10 : U7 468 n (-1) = T 468 n (-1) := (up_k hU7 (by exact Nat.ne_of_beq_eq_false rfl) n (-1)).trans ((fU4 468 n (-1) rfl).trans ((up_k hU2 (by exact Nat.ne_of_beq_eq_false rfl) n (-1)).trans (fU1 468 n (-1) rfl)))
  have e11 : U7 153 n (-1) = T 153 n (-1) := (up_j hU7 (by decide) 153 n).trans ((fU4 153 n (-1) rfl).trans ((up_j hU2 (by decide) 153 n).trans (fU1 153 n (-1) rfl)))
  refine j_newI (bc' := 7) (bs' := 105) (pc := 20) (k := 468) (i := n) (by decide) (by decide +kernel : ta_ 468 = some (1, some 2, (-2147483648), 2147483647)) (by decide) (by decide) (by show ¬ U7 468 n (-1) = 1; rw [e10]; exact hf 468 (by decide) (by decide)) (by omega) (by first | decide | omega) (by decide +kernel) (lw_b1 72 (by decide +kernel) rfl : Cond.arrayClass .int ∈ lw_g) (fun o ho => by rw [show ow_ 468 = some 103 by decide] at ho; cases ho; exact Or.inr (show U7 153 n (-1) = 1 from (e11).trans hth)) ?_
  refine j_nm (fun U9 hU9 => ?_)
  have fU9 := nu_fr hU9
  have zU9 := nu_tz hU9
  have oU9 := nu_to hU9
  have vU9 := nu_tv hU9
  show J_ zX3_init T (po_X3_init T n c) 7 105 22 _ [vR 468 n, vR 153 n] U9
  refine j_putW (pc := 22) (ci := 3) (j := 8) (z := n + 1) (by decide) (by decide) fW_X3_18 (by decide +kernel : (tf_ 153)[8]? = some (5, 468, (-2147483648), 2147483647)) (by decide) (by decide +kernel) (fv5_ (by first | exact hn0 | exact hn1 | exact hn2 | exact hc0 | exact hc1 | exact hc2 | omega)) rfl (by first | exact hn0 | exact hn1 | exact hn2 | exact hc0 | exact hc1 | exact hc2 | omega) (by first | exact hn0 | exact hn1 | exact hn2 | exact hc0 | exact hc1 | exact hc2 | omega) ?_
  refine j_nm (fun U12 hU12 => ?_)
  have e13 := up_f hU12
  show J_ zX3_init T (po_X3_init T n c) 7 105 25 _ [] U12
  refine j_blx (F := fX3) tb_X3 (nn_ _) bk_X3_init_25 bs_X3_init_25 hz (fun K hK => ?_)
  refine hK 27 _ [vI 2, vR 153 n] U12 ?_
  have e15 : U12 469 n (-1) = T 469 n (-1) := (up_k hU12 (by exact Nat.ne_of_beq_eq_false rfl) n (-1)).trans ((fU9 469 n (-1) rfl).trans ((up_k hU7 (by exact Nat.ne_of_beq_eq_false rfl) n (-1)).trans ((fU4 469 n (-1) rfl).trans ((up_k hU2 (by exact Nat.ne_of_beq_eq_false rfl) n (-1)).trans (fU1 469 n (-1) rfl)))))
  have e16 : U12 153 n (-1) = T 153 n (-1) := (up_j hU12 (by decide) 153 n).trans ((fU9 153 n (-1) rfl).trans ((up_j hU7 (by decide) 153 n).trans ((fU4 153 n (-1) rfl).trans ((up_j hU2 (by decide) 153 n).trans (fU1 153 n (-1) rfl)))))
  refine j_newI (bc' := 6) (bs' := 103) (pc := 27) (k := 469) (i := n) (by decide) (by decide +kernel : ta_ 469 = some (1, some 2, (-2147483648), 2147483647)) (by decide) (by decide) (by show ¬ U12 469 n (-1) = 1; rw [e15]; exact hf 469 (by decide) (by decide)) (by omega) (by first | decide | omega) (by decide +kernel) (lw_b1 72 (by decide +kernel) rfl : Cond.arrayClass .int ∈ lw_g) (fun o ho => by rw [show ow_ 469 = some 103 by decide] at ho; cases ho; exact Or.inr (show U12 153 n (-1) = 1 from (e16).trans hth)) ?_
  refine j_nm (fun U14 hU14 => ?_)
  have fU14 := nu_fr hU14
  have zU14 := nu_tz hU14
  have oU14 := nu_to hU14
  have vU14 := nu_tv hU14
  show J_ zX3_init T (po_X3_init T n c) 6 103 29 _ [vR 469 n, vR 153 n] U14
  refine j_putW (pc := 29) (ci := 3) (j := 9) (z := n + 1) (by decide) (by decide) fW_X3_21 (by decide +kernel : (tf_ 153)[9]? = some (5, 469, (-2147483648), 2147483647)) (by decide) (by decide +kernel) (fv5_ (by first | exact hn0 | exact hn1 | exact hn2 | exact hc0 | exact hc1 | exact hc2 | omega)) rfl (by first | exact hn0 | exact hn1 | exact hn2 | exact hc0 | exact hc1 | exact hc2 | omega) (by first | exact hn0 | exact hn1 | exact hn2 | exact hc0 | exact hc1 | exact hc2 | omega) ?_
  refine j_nm (fun U17 hU17 => ?_)
  have e18 := up_f hU17
  show J_ zX3_init T (po_X3_init T n c) 6 103 32 _ [] U17
  refine j_blx (F := fX3) tb_X3 (nn_ _) bk_X3_init_32 bs_X3_init_32 hz (fun K hK => ?_)
  refine hK 34 _ [vI 2, vR 153 n] U17 ?_
  have e20 : U17 470 n (-1) = T 470 n (-1) := (up_k hU17 (by exact Nat.ne_of_beq_eq_false rfl) n (-1)).trans ((fU14 470 n (-1) rfl).trans ((up_k hU12 (by exact Nat.ne_of_beq_eq_false rfl) n (-1)).trans ((fU9 470 n (-1) rfl).trans ((up_k hU7 (by exact Nat.ne_of_beq_eq_false rfl) n (-1)).trans ((fU4 470 n (-1) rfl).trans ((up_k hU2 (by exact Nat.ne_of_beq_eq_false rfl) n (-1)).trans (fU1 470 n (-1) rfl)))))))
  have e21 : U17 153 n (-1) = T 153 n (-1) := (up_j hU17 (by decide) 153 n).trans ((fU14 153 n (-1) rfl).trans ((up_j hU12 (by decide) 153 n).trans ((fU9 153 n (-1) rfl).trans ((up_j hU7 (by decide) 153 n).trans ((fU4 153 n (-1) rfl).trans ((up_j hU2 (by decide) 153 n).trans (fU1 153 n (-1) rfl)))))))
  refine j_newI (bc' := 5) (bs' := 101) (pc := 34) (k := 470) (i := n) (by decide) (by decide +kernel : ta_ 470 = some (1, some 2, 0, 6)) (by decide) (by decide) (by show ¬ U17 470 n (-1) = 1; rw [e20]; exact hf 470 (by decide) (by decide)) (by omega) (by first | decide | omega) (by decide +kernel) (lw_b1 72 (by decide +kernel) rfl : Cond.arrayClass .int ∈ lw_g) (fun o ho => by rw [show ow_ 470 = some 103 by decide] at ho; cases ho; exact Or.inr (show U17 153 n (-1) = 1 from (e21).trans hth)) ?_
  refine j_nm (fun U19 hU19 => ?_)
  have fU19 := nu_fr hU19
  have zU19 := nu_tz hU19
  have oU19 := nu_to hU19
  have vU19 := nu_tv hU19
  show J_ zX3_init T (po_X3_init T n c) 5 101 36 _ [vR 470 n, vR 153 n] U19
  refine j_putW (pc := 36) (ci := 3) (j := 10) (z := n + 1) (by decide) (by decide) fW_X3_24 (by decide +kernel : (tf_ 153)[10]? = some (5, 470, (-2147483648), 2147483647)) (by decide) (by decide +kernel) (fv5_ (by first | exact hn0 | exact hn1 | exact hn2 | exact hc0 | exact hc1 | exact hc2 | omega)) rfl (by first | exact hn0 | exact hn1 | exact hn2 | exact hc0 | exact hc1 | exact hc2 | omega) (by first | exact hn0 | exact hn1 | exact hn2 | exact hc0 | exact hc1 | exact hc2 | omega) ?_
  refine j_nm (fun U22 hU22 => ?_)
  have e23 := up_f hU22
  show J_ zX3_init T (po_X3_init T n c) 5 101 39 _ [] U22
  refine j_blx (F := fX3) tb_X3 (nn_ _) bk_X3_init_39 bs_X3_init_39 hz (fun K hK => ?_)
  refine hK 42 _ [vI 12, vR 153 n] U22 ?_
  have e25 : U22 471 n (-1) = T 471 n (-1) := (up_k hU22 (by exact Nat.ne_of_beq_eq_false rfl) n (-1)).trans ((fU19 471 n (-1) rfl).trans ((up_k hU17 (by exact Nat.ne_of_beq_eq_false rfl) n (-1)).trans ((fU14 471 n (-1) rfl).trans ((up_k hU12 (by exact Nat.ne_of_beq_eq_false rfl) n (-1)).trans ((fU9 471 n (-1) rfl).trans ((up_k hU7 (by exact Nat.ne_of_beq_eq_false rfl) n (-1)).trans ((fU4 471 n (-1) rfl).trans ((up_k hU2 (by exact Nat.ne_of_beq_eq_false rfl) n (-1)).trans (fU1 471 n (-1) rfl)))))))))
  have e26 : U22 153 n (-1) = T 153 n (-1) := (up_j hU22 (by decide) 153 n).trans ((fU19 153 n (-1) rfl).trans ((up_j hU17 (by decide) 153 n).trans ((fU14 153 n (-1) rfl).trans ((up_j hU12 (by decide) 153 n).trans ((fU9 153 n (-1) rfl).trans ((up_j hU7 (by decide) 153 n).trans ((fU4 153 n (-1) rfl).trans ((up_j hU2 (by decide) 153 n).trans (fU1 153 n (-1) rfl)))))))))
  refine j_newI (bc' := 4) (bs' := 89) (pc := 42) (k := 471) (i := n) (by decide) (by decide +kernel : ta_ 471 = some (1, some 12, 0, 19)) (by decide) (by decide) (by show ¬ U22 471 n (-1) = 1; rw [e25]; exact hf 471 (by decide) (by decide)) (by omega) (by first | decide | omega) (by decide +kernel) (lw_b1 72 (by decide +kernel) rfl : Cond.arrayClass .int ∈ lw_g) (fun o ho => by rw [show ow_ 471 = some 103 by decide] at ho; cases ho; exact Or.inr (show U22 153 n (-1) = 1 from (e26).trans hth)) ?_
  refine j_nm (fun U24 hU24 => ?_)
  have fU24 := nu_fr hU24
  have zU24 := nu_tz hU24
  have oU24 := nu_to hU24
  have vU24 := nu_tv hU24
  show J_ zX3_init T (po_X3_init T n c) 4 89 44 _ [vR 471 n, vR 153 n] U24
  refine j_putW (pc := 44) (ci := 3) (j := 11) (z := n + 1) (by decide) (by decide) fW_X3_27 (by decide +kernel : (tf_ 153)[11]? = some (5, 471, (-2147483648), 2147483647)) (by decide) (by decide +kernel) (fv5_ (by first | exact hn0 | exact hn1 | exact hn2 | exact hc0 | exact hc1 | exact hc2 | omega)) rfl (by first | exact hn0 | exact hn1 | exact hn2 | exact hc0 | exact hc1 | exact hc2 | omega) (by first | exact hn0 | exact hn1 | exact hn2 | exact hc0 | exact hc1 | exact hc2 | omega) ?_
  refine j_nm (fun U27 hU27 => ?_)
  have e28 := up_f hU27
  show J_ zX3_init T (po_X3_init T n c) 4 89 47 _ [] U27
  refine j_blx (F := fX3) tb_X3 (nn_ _) bk_X3_init_47 bs_X3_init_47 hz (fun K hK => ?_)
  refine hK 50 _ [vI 20, vR 153 n] U27 ?_
  have e30 : U27 472 n (-1) = T 472 n (-1) := (up_k hU27 (by exact Nat.ne_of_beq_eq_false rfl) n (-1)).trans ((fU24 472 n (-1) rfl).trans ((up_k hU22 (by exact Nat.ne_of_beq_eq_false rfl) n (-1)).trans ((fU19 472 n (-1) rfl).trans ((up_k hU17 (by exact Nat.ne_of_beq_eq_false rfl) n (-1)).trans ((fU14 472 n (-1) rfl).trans ((up_k hU12 (by exact Nat.ne_of_beq_eq_false rfl) n (-1)).trans ((fU9 472 n (-1) rfl).trans ((up_k hU7 (by exact Nat.ne_of_beq_eq_false rfl) n (-1)).trans ((fU4 472 n (-1) rfl).trans ((up_k hU2 (by exact Nat.ne_of_beq_eq_false rfl) n (-1)).trans (fU1 472 n (-1) rfl)))))))))))
  have e31 : U27 153 n (-1) = T 153 n (-1) := (up_j hU27 (by decide) 153 n).trans ((fU24 153 n (-1) rfl).trans ((up_j hU22 (by decide) 153 n).trans ((fU19 153 n (-1) rfl).trans ((up_j hU17 (by decide) 153 n).trans ((fU14 153 n (-1) rfl).trans ((up_j hU12 (by decide) 153 n).trans ((fU9 153 n (-1) rfl).trans ((up_j hU7 (by decide) 153 n).trans ((fU4 153 n (-1) rfl).trans ((up_j hU2 (by decide) 153 n).trans (fU1 153 n (-1) rfl)))))))))))
  refine j_newI (bc' := 3) (bs' := 69) (pc := 50) (k := 472) (i := n) (by decide) (by decide +kernel : ta_ 472 = some (1, some 20, 0, 3)) (by decide) (by decide) (by show ¬ U27 472 n (-1) = 1; rw [e30]; exact hf 472 (by decide) (by decide)) (by omega) (by first | decide | omega) (by decide +kernel) (lw_b1 72 (by decide +kernel) rfl : Cond.arrayClass .int ∈ lw_g) (fun o ho => by rw [show ow_ 472 = some 103 by decide] at ho; cases ho; exact Or.inr (show U27 153 n (-1) = 1 from (e31).trans hth)) ?_
  refine j_nm (fun U29 hU29 => ?_)
  have fU29 := nu_fr hU29
  have zU29 := nu_tz hU29
  have oU29 := nu_to hU29
  have vU29 := nu_tv hU29
  show J_ zX3_init T (po_X3_init T n c) 3 69 52 _ [vR 472 n, vR 153 n] U29
  refine j_putW (pc := 52) (ci := 3) (j := 12) (z := n + 1) (by decide) (by decide) fW_X3_30 (by decide +kernel : (tf_ 153)[12]? = some (5, 472, (-2147483648), 2147483647)) (by decide) (by decide +kernel) (fv5_ (by first | exact hn0 | exact hn1 | exact hn2 | exact hc0 | exact hc1 | exact hc2 | omega)) rfl (by first | exact hn0 | exact hn1 | exact hn2 | exact hc0 | exact hc1 | exact hc2 | omega) (by first | exact hn0 | exact hn1 | exact hn2 | exact hc0 | exact hc1 | exact hc2 | omega) ?_
  refine j_nm (fun U32 hU32 => ?_)
  have e33 := up_f hU32
  show J_ zX3_init T (po_X3_init T n c) 3 69 55 _ [] U32
  refine j_blx (F := fX3) tb_X3 (nn_ _) bk_X3_init_55 bs_X3_init_55 hz (fun K hK => ?_)
  refine hK 58 _ [vI 20, vR 153 n] U32 ?_
  have e35 : U32 473 n (-1) = T 473 n (-1) := (up_k hU32 (by exact Nat.ne_of_beq_eq_false rfl) n (-1)).trans ((fU29 473 n (-1) rfl).trans ((up_k hU27 (by exact Nat.ne_of_beq_eq_false rfl) n (-1)).trans ((fU24 473 n (-1) rfl).trans ((up_k hU22 (by exact Nat.ne_of_beq_eq_false rfl) n (-1)).trans ((fU19 473 n (-1) rfl).trans ((up_k hU17 (by exact Nat.ne_of_beq_eq_false rfl) n (-1)).trans ((fU14 473 n (-1) rfl).trans ((up_k hU12 (by exact Nat.ne_of_beq_eq_false rfl) n (-1)).trans ((fU9 473 n (-1) rfl).trans ((up_k hU7 (by exact Nat.ne_of_beq_eq_false rfl) n (-1)).trans ((fU4 473 n (-1) rfl).trans ((up_k hU2 (by exact Nat.ne_of_beq_eq_false rfl) n (-1)).trans (fU1 473 n (-1) rfl)))))))))))))
  have e36 : U32 153 n (-1) = T 153 n (-1) := (up_j hU32 (by decide) 153 n).trans ((fU29 153 n (-1) rfl).trans ((up_j hU27 (by decide) 153 n).trans ((fU24 153 n (-1) rfl).trans ((up_j hU22 (by decide) 153 n).trans ((fU19 153 n (-1) rfl).trans ((up_j hU17 (by decide) 153 n).trans ((fU14 153 n (-1) rfl).trans ((up_j hU12 (by decide) 153 n).trans ((fU9 153 n (-1) rfl).trans ((up_j hU7 (by decide) 153 n).trans ((fU4 153 n (-1) rfl).trans ((up_j hU2 (by decide) 153 n).trans (fU1 153 n (-1) rfl)))))))))))))
  refine j_newI (bc' := 2) (bs' := 49) (pc := 58) (k := 473) (i := n) (by decide) (by decide +kernel : ta_ 473 = some (1, some 20, (-2147483648), 2147483647)) (by decide) (by decide) (by show ¬ U32 473 n (-1) = 1; rw [e35]; exact hf 473 (by decide) (by decide)) (by omega) (by first | decide | omega) (by decide +kernel) (lw_b1 72 (by decide +kernel) rfl : Cond.arrayClass .int ∈ lw_g) (fun o ho => by rw [show ow_ 473 = some 103 by decide] at ho; cases ho; exact Or.inr (show U32 153 n (-1) = 1 from (e36).trans hth)) ?_
  refine j_nm (fun U34 hU34 => ?_)
  have fU34 := nu_fr hU34
  have zU34 := nu_tz hU34
  have oU34 := nu_to hU34
  have vU34 := nu_tv hU34
  show J_ zX3_init T (po_X3_init T n c) 2 49 60 _ [vR 473 n, vR 153 n] U34
  refine j_putW (pc := 60) (ci := 3) (j := 13) (z := n + 1) (by decide) (by decide) fW_X3_33 (by decide +kernel : (tf_ 153)[13]? = some (5, 473, (-2147483648), 2147483647)) (by decide) (by decide +kernel) (fv5_ (by first | exact hn0 | exact hn1 | exact hn2 | exact hc0 | exact hc1 | exact hc2 | omega)) rfl (by first | exact hn0 | exact hn1 | exact hn2 | exact hc0 | exact hc1 | exact hc2 | omega) (by first | exact hn0 | exact hn1 | exact hn2 | exact hc0 | exact hc1 | exact hc2 | omega) ?_
  refine j_nm (fun U37 hU37 => ?_)
  have e38 := up_f hU37
  show J_ zX3_init T (po_X3_init T n c) 2 49 63 _ [] U37
  refine j_blx (F := fX3) tb_X3 (nn_ _) bk_X3_init_63 bs_X3_init_63 hz (fun K hK => ?_)
  refine hK 66 _ [vI 32, vR 153 n] U37 ?_
  have e40 : U37 191 0 0 = T 191 0 0 := (up_k hU37 (by exact Nat.ne_of_beq_eq_false rfl) 0 0).trans ((fU34 191 0 0 rfl).trans ((up_k hU32 (by exact Nat.ne_of_beq_eq_false rfl) 0 0).trans ((fU29 191 0 0 rfl).trans ((up_k hU27 (by exact Nat.ne_of_beq_eq_false rfl) 0 0).trans ((fU24 191 0 0 rfl).trans ((up_k hU22 (by exact Nat.ne_of_beq_eq_false rfl) 0 0).trans ((fU19 191 0 0 rfl).trans ((up_k hU17 (by exact Nat.ne_of_beq_eq_false rfl) 0 0).trans ((fU14 191 0 0 rfl).trans ((up_k hU12 (by exact Nat.ne_of_beq_eq_false rfl) 0 0).trans ((fU9 191 0 0 rfl).trans ((up_k hU7 (by exact Nat.ne_of_beq_eq_false rfl) 0 0).trans ((fU4 191 0 0 rfl).trans ((up_k hU2 (by exact Nat.ne_of_beq_eq_false rfl) 0 0).trans (fU1 191 0 0 rfl)))))))))))))))
  refine j_newL (bc' := 1) (bs' := 17) (pc := 66) (by decide) (by omega) (by omega) (by omega) (by decide +kernel) (lw_b1 72 (by decide +kernel) rfl : Cond.arrayClass .int ∈ lw_g) ?_
  refine j_nm (fun U39 hU39 => ?_)
  have fU39 := nv_fr hU39
  have aU39 := nv_t9 hU39
  have lU39 := nv_tl hU39
  have oU39 := nv_to hU39
  show J_ zX3_init T (po_X3_init T n c) 1 17 68 _ [vR 190 (U37 191 0 0), vR 153 n] U39
  refine j_putW (pc := 68) (ci := 3) (j := 14) (z := (U37 191 0 0) + 1) (by decide) (by decide) fW_X3_36 (by decide +kernel : (tf_ 153)[14]? = some (5, 190, (-2147483648), 2147483647)) (by decide) (by decide +kernel) (fv5_ (by first | exact hn0 | exact hn1 | exact hn2 | exact hc0 | exact hc1 | exact hc2 | omega)) rfl (by first | exact hn0 | exact hn1 | exact hn2 | exact hc0 | exact hc1 | exact hc2 | omega) (by first | exact hn0 | exact hn1 | exact hn2 | exact hc0 | exact hc1 | exact hc2 | omega) ?_
  refine j_nm (fun U41 hU41 => ?_)
  have e42 := up_f hU41
  show J_ zX3_init T (po_X3_init T n c) 1 17 71 _ [] U41
  refine j_blx (F := fX3) tb_X3 (nn_ _) bk_X3_init_71 bs_X3_init_71 hz (fun K hK => ?_)
  refine hK 74 _ [vI 16, vR 153 n] U41 ?_
  have e44 : U41 191 0 0 = U39 191 0 0 := up_k hU41 (by exact Nat.ne_of_beq_eq_false rfl) 0 0
  refine j_newL (bc' := 0) (bs' := 1) (pc := 74) (by decide) (by omega) (by omega) (by omega) (by decide +kernel) (lw_b1 72 (by decide +kernel) rfl : Cond.arrayClass .int ∈ lw_g) ?_
  refine j_nm (fun U43 hU43 => ?_)
  have fU43 := nv_fr hU43
  have aU43 := nv_t9 hU43
  have lU43 := nv_tl hU43
  have oU43 := nv_to hU43
  show J_ zX3_init T (po_X3_init T n c) 0 1 76 _ [vR 190 (U41 191 0 0), vR 153 n] U43
  refine j_putW (pc := 76) (ci := 3) (j := 16) (z := (U41 191 0 0) + 1) (by decide) (by decide) fW_X3_39 (by decide +kernel : (tf_ 153)[16]? = some (5, 190, (-2147483648), 2147483647)) (by decide) (by decide +kernel) (fv5_ (by first | exact hn0 | exact hn1 | exact hn2 | exact hc0 | exact hc1 | exact hc2 | omega)) rfl (by first | exact hn0 | exact hn1 | exact hn2 | exact hc0 | exact hc1 | exact hc2 | omega) (by first | exact hn0 | exact hn1 | exact hn2 | exact hc0 | exact hc1 | exact hc2 | omega) ?_
  refine j_nm (fun U45 hU45 => ?_)
  have e46 := up_f hU45
  show J_ zX3_init T (po_X3_init T n c) 0 1 79 _ [] U45
  refine j_blx (F := fX3) tb_X3 (nn_ _) bk_X3_init_79 bs_X3_init_79 hz (fun K hK => ?_)
  refine hK 81 _ [vR 401 c, vR 153 n] U45 ?_
  refine j_putW (pc := 81) (ci := 3) (j := 0) (z := c + 1) (by decide) (by decide) fW_X3_42 (by decide +kernel : (tf_ 153)[0]? = some (5, 401, (-2147483648), 2147483647)) (by decide) (by decide +kernel) (fv5_ (by first | exact hn0 | exact hn1 | exact hn2 | exact hc0 | exact hc1 | exact hc2 | omega)) rfl (by first | exact hn0 | exact hn1 | exact hn2 | exact hc0 | exact hc1 | exact hc2 | omega) (by first | exact hn0 | exact hn1 | exact hn2 | exact hc0 | exact hc1 | exact hc2 | omega) ?_
  refine j_nm (fun U47 hU47 => ?_)
  have e48 := up_f hU47
  show J_ zX3_init T (po_X3_init T n c) 0 1 84 _ [] U47
  refine j_blx (F := fX3) tb_X3 (nn_ _) bk_X3_init_84 bs_X3_init_84 hz (fun K hK => ?_)
  refine hK 86 _ [vR 448 n, vR 153 n] U47 ?_
  refine j_putW (pc := 86) (ci := 3) (j := 1) (z := n + 1) (by decide) (by decide) fW_X3_45 (by decide +kernel : (tf_ 153)[1]? = some (5, 448, (-2147483648), 2147483647)) (by decide) (by decide +kernel) (fv5_ (by first | exact hn0 | exact hn1 | exact hn2 | exact hc0 | exact hc1 | exact hc2 | omega)) rfl (by first | exact hn0 | exact hn1 | exact hn2 | exact hc0 | exact hc1 | exact hc2 | omega) (by first | exact hn0 | exact hn1 | exact hn2 | exact hc0 | exact hc1 | exact hc2 | omega) ?_
  refine j_nm (fun U49 hU49 => ?_)
  have e50 := up_f hU49
  show J_ zX3_init T (po_X3_init T n c) 0 1 89 _ [] U49
  refine j_blx (F := fX3) tb_X3 (nn_ _) bk_X3_init_89 bs_X3_init_89 hz (fun K hK => ?_)
  refine hK 91 _ [vR 449 n, vR 153 n] U49 ?_
  refine j_putW (pc := 91) (ci := 3) (j := 2) (z := n + 1) (by decide) (by decide) fW_X3_48 (by decide +kernel : (tf_ 153)[2]? = some (5, 449, (-2147483648), 2147483647)) (by decide) (by decide +kernel) (fv5_ (by first | exact hn0 | exact hn1 | exact hn2 | exact hc0 | exact hc1 | exact hc2 | omega)) rfl (by first | exact hn0 | exact hn1 | exact hn2 | exact hc0 | exact hc1 | exact hc2 | omega) (by first | exact hn0 | exact hn1 | exact hn2 | exact hc0 | exact hc1 | exact hc2 | omega) ?_
  refine j_nm (fun U51 hU51 => ?_)
  have e52 := up_f hU51
  show J_ zX3_init T (po_X3_init T n c) 0 1 94 _ [] U51
  refine j_blx (F := fX3) tb_X3 (nn_ _) bk_X3_init_94 bs_X3_init_94 hz (fun K hK => ?_)
  refine (show po_X3_init T n c U51 (none) from ?_)
  have e53 : U51 191 0 0 = U43 191 0 0 := (up_k hU51 (by exact Nat.ne_of_beq_eq_false rfl) 0 0).trans ((up_k hU49 (by exact Nat.ne_of_beq_eq_false rfl) 0 0).trans ((up_k hU47 (by exact Nat.ne_of_beq_eq_false rfl) 0 0).trans (up_k hU45 (by exact Nat.ne_of_beq_eq_false rfl) 0 0)))
  have e54 : U51 153 n 0 = c + 1 := (up_j hU51 (by decide) 153 n).trans ((up_j hU49 (by decide) 153 n).trans (up_f hU47))
  have e55 : U51 153 n 1 = n + 1 := (up_j hU51 (by decide) 153 n).trans (up_f hU49)
  have e56 : U51 153 n 2 = n + 1 := up_f hU51
  have e57 : U51 153 n 3 = T 153 n 3 := (up_j hU51 (by decide) 153 n).trans ((up_j hU49 (by decide) 153 n).trans ((up_j hU47 (by decide) 153 n).trans ((up_j hU45 (by decide) 153 n).trans ((fU43 153 n 3 rfl).trans ((up_j hU41 (by decide) 153 n).trans ((fU39 153 n 3 rfl).trans ((up_j hU37 (by decide) 153 n).trans ((fU34 153 n 3 rfl).trans ((up_j hU32 (by decide) 153 n).trans ((fU29 153 n 3 rfl).trans ((up_j hU27 (by decide) 153 n).trans ((fU24 153 n 3 rfl).trans ((up_j hU22 (by decide) 153 n).trans ((fU19 153 n 3 rfl).trans ((up_j hU17 (by decide) 153 n).trans ((fU14 153 n 3 rfl).trans ((up_j hU12 (by decide) 153 n).trans ((fU9 153 n 3 rfl).trans ((up_j hU7 (by decide) 153 n).trans ((fU4 153 n 3 rfl).trans ((up_j hU2 (by decide) 153 n).trans (fU1 153 n 3 rfl))))))))))))))))))))))
  have e58 : U51 153 n 4 = T 153 n 4 := (up_j hU51 (by decide) 153 n).trans ((up_j hU49 (by decide) 153 n).trans ((up_j hU47 (by decide) 153 n).trans ((up_j hU45 (by decide) 153 n).trans ((fU43 153 n 4 rfl).trans ((up_j hU41 (by decide) 153 n).trans ((fU39 153 n 4 rfl).trans ((up_j hU37 (by decide) 153 n).trans ((fU34 153 n 4 rfl).trans ((up_j hU32 (by decide) 153 n).trans ((fU29 153 n 4 rfl).trans ((up_j hU27 (by decide) 153 n).trans ((fU24 153 n 4 rfl).trans ((up_j hU22 (by decide) 153 n).trans ((fU19 153 n 4 rfl).trans ((up_j hU17 (by decide) 153 n).trans ((fU14 153 n 4 rfl).trans ((up_j hU12 (by decide) 153 n).trans ((fU9 153 n 4 rfl).trans ((up_j hU7 (by decide) 153 n).trans ((fU4 153 n 4 rfl).trans ((up_j hU2 (by decide) 153 n).trans (fU1 153 n 4 rfl))))))))))))))))))))))
  have e59 : U51 153 n 5 = T 153 n 5 := (up_j hU51 (by decide) 153 n).trans ((up_j hU49 (by decide) 153 n).trans ((up_j hU47 (by decide) 153 n).trans ((up_j hU45 (by decide) 153 n).trans ((fU43 153 n 5 rfl).trans ((up_j hU41 (by decide) 153 n).trans ((fU39 153 n 5 rfl).trans ((up_j hU37 (by decide) 153 n).trans ((fU34 153 n 5 rfl).trans ((up_j hU32 (by decide) 153 n).trans ((fU29 153 n 5 rfl).trans ((up_j hU27 (by decide) 153 n).trans ((fU24 153 n 5 rfl).trans ((up_j hU22 (by decide) 153 n).trans ((fU19 153 n 5 rfl).trans ((up_j hU17 (by decide) 153 n).trans ((fU14 153 n 5 rfl).trans ((up_j hU12 (by decide) 153 n).trans ((fU9 153 n 5 rfl).trans ((up_j hU7 (by decide) 153 n).trans ((fU4 153 n 5 rfl).trans ((up_j hU2 (by decide) 153 n).trans (fU1 153 n 5 rfl))))))))))))))))))))))
  have e60 : U51 153 n 6 = n + 1 := (up_j hU51 (by decide) 153 n).trans ((up_j hU49 (by decide) 153 n).trans ((up_j hU47 (by decide) 153 n).trans ((up_j hU45 (by decide) 153 n).trans ((fU43 153 n 6 rfl).trans ((up_j hU41 (by decide) 153 n).trans ((fU39 153 n 6 rfl).trans ((up_j hU37 (by decide) 153 n).trans ((fU34 153 n 6 rfl).trans ((up_j hU32 (by decide) 153 n).trans ((fU29 153 n 6 rfl).trans ((up_j hU27 (by decide) 153 n).trans ((fU24 153 n 6 rfl).trans ((up_j hU22 (by decide) 153 n).trans ((fU19 153 n 6 rfl).trans ((up_j hU17 (by decide) 153 n).trans ((fU14 153 n 6 rfl).trans ((up_j hU12 (by decide) 153 n).trans ((fU9 153 n 6 rfl).trans ((up_j hU7 (by decide) 153 n).trans ((fU4 153 n 6 rfl).trans (up_f hU2)))))))))))))))))))))
  have e61 : U51 153 n 7 = n + 1 := (up_j hU51 (by decide) 153 n).trans ((up_j hU49 (by decide) 153 n).trans ((up_j hU47 (by decide) 153 n).trans ((up_j hU45 (by decide) 153 n).trans ((fU43 153 n 7 rfl).trans ((up_j hU41 (by decide) 153 n).trans ((fU39 153 n 7 rfl).trans ((up_j hU37 (by decide) 153 n).trans ((fU34 153 n 7 rfl).trans ((up_j hU32 (by decide) 153 n).trans ((fU29 153 n 7 rfl).trans ((up_j hU27 (by decide) 153 n).trans ((fU24 153 n 7 rfl).trans ((up_j hU22 (by decide) 153 n).trans ((fU19 153 n 7 rfl).trans ((up_j hU17 (by decide) 153 n).trans ((fU14 153 n 7 rfl).trans ((up_j hU12 (by decide) 153 n).trans ((fU9 153 n 7 rfl).trans (up_f hU7)))))))))))))))))))
  have e62 : U51 153 n 8 = n + 1 := (up_j hU51 (by decide) 153 n).trans ((up_j hU49 (by decide) 153 n).trans ((up_j hU47 (by decide) 153 n).trans ((up_j hU45 (by decide) 153 n).trans ((fU43 153 n 8 rfl).trans ((up_j hU41 (by decide) 153 n).trans ((fU39 153 n 8 rfl).trans ((up_j hU37 (by decide) 153 n).trans ((fU34 153 n 8 rfl).trans ((up_j hU32 (by decide) 153 n).trans ((fU29 153 n 8 rfl).trans ((up_j hU27 (by decide) 153 n).trans ((fU24 153 n 8 rfl).trans ((up_j hU22 (by decide) 153 n).trans ((fU19 153 n 8 rfl).trans ((up_j hU17 (by decide) 153 n).trans ((fU14 153 n 8 rfl).trans (up_f hU12)))))))))))))))))
  have e63 : U51 153 n 9 = n + 1 := (up_j hU51 (by decide) 153 n).trans ((up_j hU49 (by decide) 153 n).trans ((up_j hU47 (by decide) 153 n).trans ((up_j hU45 (by decide) 153 n).trans ((fU43 153 n 9 rfl).trans ((up_j hU41 (by decide) 153 n).trans ((fU39 153 n 9 rfl).trans ((up_j hU37 (by decide) 153 n).trans ((fU34 153 n 9 rfl).trans ((up_j hU32 (by decide) 153 n).trans ((fU29 153 n 9 rfl).trans ((up_j hU27 (by decide) 153 n).trans ((fU24 153 n 9 rfl).trans ((up_j hU22 (by decide) 153 n).trans ((fU19 153 n 9 rfl).trans (up_f hU17)))))))))))))))
  have e64 : U51 153 n 10 = n + 1 := (up_j hU51 (by decide) 153 n).trans ((up_j hU49 (by decide) 153 n).trans ((up_j hU47 (by decide) 153 n).trans ((up_j hU45 (by decide) 153 n).trans ((fU43 153 n 10 rfl).trans ((up_j hU41 (by decide) 153 n).trans ((fU39 153 n 10 rfl).trans ((up_j hU37 (by decide) 153 n).trans ((fU34 153 n 10 rfl).trans ((up_j hU32 (by decide) 153 n).trans ((fU29 153 n 10 rfl).trans ((up_j hU27 (by decide) 153 n).trans ((fU24 153 n 10 rfl).trans (up_f hU22)))))))))))))
  have e65 : U51 153 n 11 = n + 1 := (up_j hU51 (by decide) 153 n).trans ((up_j hU49 (by decide) 153 n).trans ((up_j hU47 (by decide) 153 n).trans ((up_j hU45 (by decide) 153 n).trans ((fU43 153 n 11 rfl).trans ((up_j hU41 (by decide) 153 n).trans ((fU39 153 n 11 rfl).trans ((up_j hU37 (by decide) 153 n).trans ((fU34 153 n 11 rfl).trans ((up_j hU32 (by decide) 153 n).trans ((fU29 153 n 11 rfl).trans (up_f hU27)))))))))))
  have e66 : U51 153 n 12 = n + 1 := (up_j hU51 (by decide) 153 n).trans ((up_j hU49 (by decide) 153 n).trans ((up_j hU47 (by decide) 153 n).trans ((up_j hU45 (by decide) 153 n).trans ((fU43 153 n 12 rfl).trans ((up_j hU41 (by decide) 153 n).trans ((fU39 153 n 12 rfl).trans ((up_j hU37 (by decide) 153 n).trans ((fU34 153 n 12 rfl).trans (up_f hU32)))))))))
  have e67 : U51 153 n 13 = n + 1 := (up_j hU51 (by decide) 153 n).trans ((up_j hU49 (by decide) 153 n).trans ((up_j hU47 (by decide) 153 n).trans ((up_j hU45 (by decide) 153 n).trans ((fU43 153 n 13 rfl).trans ((up_j hU41 (by decide) 153 n).trans ((fU39 153 n 13 rfl).trans (up_f hU37)))))))
  have e68 : U51 153 n 14 = (U37 191 0 0) + 1 := (up_j hU51 (by decide) 153 n).trans ((up_j hU49 (by decide) 153 n).trans ((up_j hU47 (by decide) 153 n).trans ((up_j hU45 (by decide) 153 n).trans ((fU43 153 n 14 rfl).trans (up_f hU41)))))
  have e69 : U51 153 n 15 = T 153 n 15 := (up_j hU51 (by decide) 153 n).trans ((up_j hU49 (by decide) 153 n).trans ((up_j hU47 (by decide) 153 n).trans ((up_j hU45 (by decide) 153 n).trans ((fU43 153 n 15 rfl).trans ((up_j hU41 (by decide) 153 n).trans ((fU39 153 n 15 rfl).trans ((up_j hU37 (by decide) 153 n).trans ((fU34 153 n 15 rfl).trans ((up_j hU32 (by decide) 153 n).trans ((fU29 153 n 15 rfl).trans ((up_j hU27 (by decide) 153 n).trans ((fU24 153 n 15 rfl).trans ((up_j hU22 (by decide) 153 n).trans ((fU19 153 n 15 rfl).trans ((up_j hU17 (by decide) 153 n).trans ((fU14 153 n 15 rfl).trans ((up_j hU12 (by decide) 153 n).trans ((fU9 153 n 15 rfl).trans ((up_j hU7 (by decide) 153 n).trans ((fU4 153 n 15 rfl).trans ((up_j hU2 (by decide) 153 n).trans (fU1 153 n 15 rfl))))))))))))))))))))))
  have e70 : U51 153 n 16 = (U41 191 0 0) + 1 := (up_j hU51 (by decide) 153 n).trans ((up_j hU49 (by decide) 153 n).trans ((up_j hU47 (by decide) 153 n).trans (up_f hU45)))
  have e71 : U51 153 n 17 = T 153 n 17 := (up_j hU51 (by decide) 153 n).trans ((up_j hU49 (by decide) 153 n).trans ((up_j hU47 (by decide) 153 n).trans ((up_j hU45 (by decide) 153 n).trans ((fU43 153 n 17 rfl).trans ((up_j hU41 (by decide) 153 n).trans ((fU39 153 n 17 rfl).trans ((up_j hU37 (by decide) 153 n).trans ((fU34 153 n 17 rfl).trans ((up_j hU32 (by decide) 153 n).trans ((fU29 153 n 17 rfl).trans ((up_j hU27 (by decide) 153 n).trans ((fU24 153 n 17 rfl).trans ((up_j hU22 (by decide) 153 n).trans ((fU19 153 n 17 rfl).trans ((up_j hU17 (by decide) 153 n).trans ((fU14 153 n 17 rfl).trans ((up_j hU12 (by decide) 153 n).trans ((fU9 153 n 17 rfl).trans ((up_j hU7 (by decide) 153 n).trans ((fU4 153 n 17 rfl).trans ((up_j hU2 (by decide) 153 n).trans (fU1 153 n 17 rfl))))))))))))))))))))))
  have e72 : U51 191 0 0 = U43 191 0 0 := (up_k hU51 (by exact Nat.ne_of_beq_eq_false rfl) 0 0).trans ((up_k hU49 (by exact Nat.ne_of_beq_eq_false rfl) 0 0).trans ((up_k hU47 (by exact Nat.ne_of_beq_eq_false rfl) 0 0).trans (up_k hU45 (by exact Nat.ne_of_beq_eq_false rfl) 0 0)))
  have e73 : U41 191 0 0 = U39 191 0 0 := up_k hU41 (by exact Nat.ne_of_beq_eq_false rfl) 0 0
  have d1 : U51 190 (T 191 0 0) (-2) = 32 := by have y2 := lU39; rw [show U37 191 0 0 = T 191 0 0 by omega] at y2; exact ((up_k hU51 (by exact Nat.ne_of_beq_eq_false rfl) _ _).trans ((up_k hU49 (by exact Nat.ne_of_beq_eq_false rfl) _ _).trans ((up_k hU47 (by exact Nat.ne_of_beq_eq_false rfl) _ _).trans ((up_k hU45 (by exact Nat.ne_of_beq_eq_false rfl) _ _).trans ((oU43 _ _ (by omega)).trans (up_k hU41 (by exact Nat.ne_of_beq_eq_false rfl) _ _)))))).trans y2
  have d2 : U51 190 (T 191 0 0 + 1) (-2) = 16 := by have y2 := lU43; rw [show U41 191 0 0 = T 191 0 0 + 1 by omega] at y2; exact ((up_k hU51 (by exact Nat.ne_of_beq_eq_false rfl) _ _).trans ((up_k hU49 (by exact Nat.ne_of_beq_eq_false rfl) _ _).trans ((up_k hU47 (by exact Nat.ne_of_beq_eq_false rfl) _ _).trans (up_k hU45 (by exact Nat.ne_of_beq_eq_false rfl) _ _)))).trans y2
  have d3 : ∀ x, x < T 191 0 0 → U51 190 x (-2) = T 190 x (-2) := fun x hx => (up_k hU51 (by exact Nat.ne_of_beq_eq_false rfl) _ _).trans ((up_k hU49 (by exact Nat.ne_of_beq_eq_false rfl) _ _).trans ((up_k hU47 (by exact Nat.ne_of_beq_eq_false rfl) _ _).trans ((up_k hU45 (by exact Nat.ne_of_beq_eq_false rfl) _ _).trans ((oU43 _ _ (by omega)).trans ((up_k hU41 (by exact Nat.ne_of_beq_eq_false rfl) _ _).trans ((oU39 _ _ (by omega)).trans ((up_k hU37 (by exact Nat.ne_of_beq_eq_false rfl) _ _).trans ((fU34 190 _ _ rfl).trans ((up_k hU32 (by exact Nat.ne_of_beq_eq_false rfl) _ _).trans ((fU29 190 _ _ rfl).trans ((up_k hU27 (by exact Nat.ne_of_beq_eq_false rfl) _ _).trans ((fU24 190 _ _ rfl).trans ((up_k hU22 (by exact Nat.ne_of_beq_eq_false rfl) _ _).trans ((fU19 190 _ _ rfl).trans ((up_k hU17 (by exact Nat.ne_of_beq_eq_false rfl) _ _).trans ((fU14 190 _ _ rfl).trans ((up_k hU12 (by exact Nat.ne_of_beq_eq_false rfl) _ _).trans ((fU9 190 _ _ rfl).trans ((up_k hU7 (by exact Nat.ne_of_beq_eq_false rfl) _ _).trans ((fU4 190 _ _ rfl).trans ((up_k hU2 (by exact Nat.ne_of_beq_eq_false rfl) _ _).trans (fU1 190 _ _ rfl))))))))))))))))))))))
  exact ⟨rfl, fr_u (fr_u (fr_u (fr_u (fr_t (fr_u (fr_t (fr_u (fr_t (fr_u (fr_t (fr_u (fr_t (fr_u (fr_t (fr_u (fr_t (fr_u (fr_t (fr_u (fr_t (fr_u (fr_t (fr_0 _ _) (fr_s fU1 rfl)) hU2 rfl) (fr_s fU4 rfl)) hU7 rfl) (fr_s fU9 rfl)) hU12 rfl) (fr_s fU14 rfl)) hU17 rfl) (fr_s fU19 rfl)) hU22 rfl) (fr_s fU24 rfl)) hU27 rfl) (fr_s fU29 rfl)) hU32 rfl) (fr_s fU34 rfl)) hU37 rfl) (fr_s fU39 rfl)) hU41 rfl) (fr_s fU43 rfl)) hU45 rfl) hU47 rfl) hU49 rfl) hU51 rfl, oq_u (oq_u (oq_u (oq_u (oq_9 (oq_u (oq_9 (oq_u (oq_n (oq_u (oq_n (oq_u (oq_n (oq_u (oq_n (oq_u (oq_n (oq_u (oq_n (oq_u (oq_n (oq_u (oq_n (oq_r) oU1) hU2) oU4) hU7) oU9) hU12) oU14) hU17) oU19) hU22) oU24) hU27) oU29) hU32) oU34) hU37) fU39) hU41) fU43) hU45) hU47) hU49) hU51, ⟨e54, e55, e56, by omega, by omega⟩, ⟨e60, e61, e62, e63, e64, e65, e66, e67⟩, ⟨e57, e58, e59, e69, e71⟩, d1, d2, by omega, d3⟩
