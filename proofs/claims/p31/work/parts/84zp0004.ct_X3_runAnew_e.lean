theorem bk_X3_putInPlace_e_0 : ck_ fX3 none cX3_putInPlace 0 [.aload 0, .tableswitch 0 3 14 #[], .iload 1, .iload 2, .iload 3, .iload 4, .iload 5] 11 = true := qck_r (nn_ _) (by decide +kernel)
theorem bs_X3_putInPlace_e_0 {P : Zt → Option Zv → Prop} (K : Int → Zl → List Zv → Zt → Prop) : sx_ K P [.aload 0, .tableswitch 0 3 14 #[], .iload 1, .iload 2, .iload 3, .iload 4, .iload 5] 11 = x_aload 0 (x_g3 103 190 14 (x_iload 1 (x_iload 2 (x_iload 3 (x_iload 4 (x_iload 5 (K 11))))))) := ((xe_aload 0).trans (congrArg (x_aload 0) ((xe_g3 (kk := 103) rfl tl_3_14).trans (congrArg (x_g3 103 190 14) ((xe_iload 1).trans (congrArg (x_iload 1) ((xe_iload 2).trans (congrArg (x_iload 2) ((xe_iload 3).trans (congrArg (x_iload 3) ((xe_iload 4).trans (congrArg (x_iload 4) ((xe_iload 5).trans (congrArg (x_iload 5) xe_nil))))))))))))))
theorem bk_X3_putInPlace_e_14 : ck_ fX3 none cX3_putInPlace 14 [.return_] 15 = true := qck_r (nn_ _) (by decide +kernel)
theorem bs_X3_putInPlace_e_14 {P : Zt → Option Zv → Prop} (K : Int → Zl → List Zv → Zt → Prop) : sx_ K P [.return_] 15 = x_return_ P := (xe_return_)
abbrev po_X3_putInPlace_e (T : Zt) (p : Int) (i k s v w : Int) : Zt → Option Zv → Prop := fun T' r => r = none ∧ fr_ [(190, [])] T T' ∧ (∀ x, T' 190 x (-2) = T 190 x (-2)) ∧ (∀ x j, x ≠ T 103 p 14 → T' 190 x j = T 190 x j) ∧ hr9_ T' (T 103 p 14) (T 103 p 15).toNat = (hr9_ T (T 103 p 14) (T 103 p 15).toNat).set i.toNat (k, s, v, w)
set_option maxHeartbeats 4000000 in
theorem ct_X3_putInPlace_e {T : Zt} {p : Int} {i k s v w : Int} (h1 : 0 ≤ i ∧ i ≤ 1000 ∧ i * 4 + 3 < T 190 (T 103 p 14) (-2) ∧ i < T 103 p 15) : Ct_ yX3_putInPlace zX3_putInPlace T [vR 103 p, vI i, vI k, vI s, vI v, vI w] (po_X3_putInPlace_e T p i k s v w) := by
  refine ct_of pn_3 rfl rfl (Nat.le_of_ble_eq_true rfl) (fun hT hav => ?_)
  have hr_i : -2147483648 ≤ i ∧ i ≤ 2147483647 := hav (vI i) (List.mem_cons_of_mem _ List.mem_cons_self)
  have hr_k : -2147483648 ≤ k ∧ k ≤ 2147483647 := hav (vI k) (List.mem_cons_of_mem _ (List.mem_cons_of_mem _ List.mem_cons_self))
  have hr_s : -2147483648 ≤ s ∧ s ≤ 2147483647 := hav (vI s) (List.mem_cons_of_mem _ (List.mem_cons_of_mem _ (List.mem_cons_of_mem _ List.mem_cons_self)))
  have hr_v : -2147483648 ≤ v ∧ v ≤ 2147483647 := hav (vI v) (List.mem_cons_of_mem _ (List.mem_cons_of_mem _ (List.mem_cons_of_mem _ (List.mem_cons_of_mem _ List.mem_cons_self))))
  have hr_w : -2147483648 ≤ w ∧ w ≤ 2147483647 := hav (vI w) (List.mem_cons_of_mem _ (List.mem_cons_of_mem _ (List.mem_cons_of_mem _ (List.mem_cons_of_mem _ (List.mem_cons_of_mem _ List.mem_cons_self)))))
  have hz : zX3_putInPlace.2.2.2.1 = some .boolean → ∀ (T' : Zt) (x : Int), po_X3_putInPlace_e T p i k s v w T' (some (vI x)) → 0 ≤ x ∧ x ≤ 1 := fun h => by cases h
  show J_ zX3_putInPlace T (po_X3_putInPlace_e T p i k s v w) 0 0 0 [some (vR 103 p), some (vI i), some (vI k), some (vI s), some (vI v), some (vI w)] [] T
  refine j_blx (F := fX3) tb_X3 (nn_ _) bk_X3_putInPlace_e_0 bs_X3_putInPlace_e_0 hz (fun K hK => ?_)
  refine hK 11 _ [vI w, vI v, vI s, vI k, vI i, vR 190 (T 103 p 14)] T ?_
  refine j_callS (y := yX3_writeRow) (Yc := zX3_writeRow) (rest := []) [vR 190 (T 103 p 14), vI i, vI k, vI s, vI v, vI w] (ct_X3_writeRow_e (T := T) (by omega)) cl_X3_161 (qd_c (by decide +kernel)) (nn_ _) rfl (rf_of rfl) (Nat.le_of_ble_eq_true rfl) (Nat.le_of_ble_eq_true rfl) (Nat.le_of_ble_eq_true rfl) rfl ?_
  rintro U2 _ ⟨rfl, fU2, lU2, wU2, rU2⟩
  show J_ zX3_putInPlace T (po_X3_putInPlace_e T p i k s v w) 0 0 14 _ [] U2
  refine j_blx (F := fX3) tb_X3 (nn_ _) bk_X3_putInPlace_e_14 bs_X3_putInPlace_e_14 hz (fun K hK => ?_)
  refine (show po_X3_putInPlace_e T p i k s v w U2 (none) from ?_)
  exact ⟨rfl, fU2, lU2, fun x j hx => wU2 x j (fun z => hx z.1), hrw_s (by omega) (by omega) (fun j hj => wU2 _ j (fun z => hj z.2)) rU2⟩
theorem bk_X3_runAnew_e_21 : ck_ fX3 (some .int) cX3_runAnew 21 [.iload 3, .iload 1, .if_icmp .ge 132, .aload 0, .tableswitch 0 3 14 #[], .iload 3, .iconst 4, .imul, .iaload, .istore 4, .aload 0, .tableswitch 0 3 14 #[], .iload 3, .iconst 4, .imul, .iconst 1, .iadd, .iaload, .istore 5, .aload 0, .tableswitch 0 3 14 #[], .iload 3, .iconst 4, .imul, .iconst 2, .iadd, .iaload, .istore 6, .aload 0, .tableswitch 0 3 14 #[], .iload 3, .iconst 4, .imul, .iconst 3, .iadd, .iaload, .istore 7, .aload 0, .iload 4, .iload 5, .iload 6, .iload 7] 81 = true := qck_r (nn_ _) (by decide +kernel)
theorem bs_X3_runAnew_e_21 {P : Zt → Option Zv → Prop} (K : Int → Zl → List Zv → Zt → Prop) : sx_ K P [.iload 3, .iload 1, .if_icmp .ge 132, .aload 0, .tableswitch 0 3 14 #[], .iload 3, .iconst 4, .imul, .iaload, .istore 4, .aload 0, .tableswitch 0 3 14 #[], .iload 3, .iconst 4, .imul, .iconst 1, .iadd, .iaload, .istore 5, .aload 0, .tableswitch 0 3 14 #[], .iload 3, .iconst 4, .imul, .iconst 2, .iadd, .iaload, .istore 6, .aload 0, .tableswitch 0 3 14 #[], .iload 3, .iconst 4, .imul, .iconst 3, .iadd, .iaload, .istore 7, .aload 0, .iload 4, .iload 5, .iload 6, .iload 7] 81 = x_iload 3 (x_iload 1 (x_if_icmp .ge 132 K (x_aload 0 (x_g3 103 190 14 (x_iload 3 (x_iconst 4 (x_imul (x_iaload (x_istore 4 (x_aload 0 (x_g3 103 190 14 (x_iload 3 (x_iconst 4 (x_imul (x_iconst 1 (x_iadd (x_iaload (x_istore 5 (x_aload 0 (x_g3 103 190 14 (x_iload 3 (x_iconst 4 (x_imul (x_iconst 2 (x_iadd (x_iaload (x_istore 6 (x_aload 0 (x_g3 103 190 14 (x_iload 3 (x_iconst 4 (x_imul (x_iconst 3 (x_iadd (x_iaload (x_istore 7 (x_aload 0 (x_iload 4 (x_iload 5 (x_iload 6 (x_iload 7 (K 81)))))))))))))))))))))))))))))))))))))))))) := ((xe_iload 3).trans (congrArg (x_iload 3) ((xe_iload 1).trans (congrArg (x_iload 1) ((xe_if_icmp .ge 132).trans (congrArg (x_if_icmp .ge 132 K) ((xe_aload 0).trans (congrArg (x_aload 0) ((xe_g3 (kk := 103) rfl tl_3_14).trans (congrArg (x_g3 103 190 14) ((xe_iload 3).trans (congrArg (x_iload 3) ((xe_iconst 4).trans (congrArg (x_iconst 4) ((xe_imul).trans (congrArg (x_imul) ((xe_iaload).trans (congrArg (x_iaload) ((xe_istore 4).trans (congrArg (x_istore 4) ((xe_aload 0).trans (congrArg (x_aload 0) ((xe_g3 (kk := 103) rfl tl_3_14).trans (congrArg (x_g3 103 190 14) ((xe_iload 3).trans (congrArg (x_iload 3) ((xe_iconst 4).trans (congrArg (x_iconst 4) ((xe_imul).trans (congrArg (x_imul) ((xe_iconst 1).trans (congrArg (x_iconst 1) ((xe_iadd).trans (congrArg (x_iadd) ((xe_iaload).trans (congrArg (x_iaload) ((xe_istore 5).trans (congrArg (x_istore 5) ((xe_aload 0).trans (congrArg (x_aload 0) ((xe_g3 (kk := 103) rfl tl_3_14).trans (congrArg (x_g3 103 190 14) ((xe_iload 3).trans (congrArg (x_iload 3) ((xe_iconst 4).trans (congrArg (x_iconst 4) ((xe_imul).trans (congrArg (x_imul) ((xe_iconst 2).trans (congrArg (x_iconst 2) ((xe_iadd).trans (congrArg (x_iadd) ((xe_iaload).trans (congrArg (x_iaload) ((xe_istore 6).trans (congrArg (x_istore 6) ((xe_aload 0).trans (congrArg (x_aload 0) ((xe_g3 (kk := 103) rfl tl_3_14).trans (congrArg (x_g3 103 190 14) ((xe_iload 3).trans (congrArg (x_iload 3) ((xe_iconst 4).trans (congrArg (x_iconst 4) ((xe_imul).trans (congrArg (x_imul) ((xe_iconst 3).trans (congrArg (x_iconst 3) ((xe_iadd).trans (congrArg (x_iadd) ((xe_iaload).trans (congrArg (x_iaload) ((xe_istore 7).trans (congrArg (x_istore 7) ((xe_aload 0).trans (congrArg (x_aload 0) ((xe_iload 4).trans (congrArg (x_iload 4) ((xe_iload 5).trans (congrArg (x_iload 5) ((xe_iload 6).trans (congrArg (x_iload 6) ((xe_iload 7).trans (congrArg (x_iload 7) xe_nil))))))))))))))))))))))))))))))))))))))))))))))))))))))))))))))))))))))))))))))))))))
theorem bk_X3_runAnew_e_132 : ck_ fX3 (some .int) cX3_runAnew 132 [.aload 0, .tableswitch 0 3 17 #[], .iload 2, .isub, .ireturn] 139 = true := qck_r (nn_ _) (by decide +kernel)
theorem bs_X3_runAnew_e_132 {P : Zt → Option Zv → Prop} (K : Int → Zl → List Zv → Zt → Prop) : sx_ K P [.aload 0, .tableswitch 0 3 17 #[], .iload 2, .isub, .ireturn] 139 = x_aload 0 (x_g0 103 17 0 3000 (x_iload 2 (x_isub (x_ireturn P)))) := ((xe_aload 0).trans (congrArg (x_aload 0) ((xe_g0 (kk := 103) rfl tl_3_17).trans (congrArg (x_g0 103 17 0 3000) ((xe_iload 2).trans (congrArg (x_iload 2) ((xe_isub).trans (congrArg (x_isub) (xe_ireturn)))))))))
theorem bk_X3_runAnew_e_84 : ck_ fX3 (some .int) cX3_runAnew 84 [.ifCond .ne 114, .aload 0, .iload 4, .iload 5, .iload 6, .iload 7] 96 = true := qck_r (nn_ _) (by decide +kernel)
theorem bs_X3_runAnew_e_84 {P : Zt → Option Zv → Prop} (K : Int → Zl → List Zv → Zt → Prop) : sx_ K P [.ifCond .ne 114, .aload 0, .iload 4, .iload 5, .iload 6, .iload 7] 96 = x_ifCond .ne 114 K (x_aload 0 (x_iload 4 (x_iload 5 (x_iload 6 (x_iload 7 (K 96)))))) := ((xe_ifCond .ne 114).trans (congrArg (x_ifCond .ne 114 K) ((xe_aload 0).trans (congrArg (x_aload 0) ((xe_iload 4).trans (congrArg (x_iload 4) ((xe_iload 5).trans (congrArg (x_iload 5) ((xe_iload 6).trans (congrArg (x_iload 6) ((xe_iload 7).trans (congrArg (x_iload 7) xe_nil))))))))))))
theorem bk_X3_runAnew_e_114 : ck_ fX3 (some .int) cX3_runAnew 114 [.aload 0, .iload 4, .iload 5, .iload 6, .iload 7] 123 = true := qck_r (nn_ _) (by decide +kernel)
theorem bs_X3_runAnew_e_114 {P : Zt → Option Zv → Prop} (K : Int → Zl → List Zv → Zt → Prop) : sx_ K P [.aload 0, .iload 4, .iload 5, .iload 6, .iload 7] 123 = x_aload 0 (x_iload 4 (x_iload 5 (x_iload 6 (x_iload 7 (K 123))))) := ((xe_aload 0).trans (congrArg (x_aload 0) ((xe_iload 4).trans (congrArg (x_iload 4) ((xe_iload 5).trans (congrArg (x_iload 5) ((xe_iload 6).trans (congrArg (x_iload 6) ((xe_iload 7).trans (congrArg (x_iload 7) xe_nil))))))))))
theorem bk_X3_runAnew_e_126 : ck_ fX3 (some .int) cX3_runAnew 126 [.iinc 3 1, .goto 21] 132 = true := qck_r (nn_ _) (by decide +kernel)
theorem bs_X3_runAnew_e_126 {P : Zt → Option Zv → Prop} (K : Int → Zl → List Zv → Zt → Prop) : sx_ K P [.iinc 3 1, .goto 21] 132 = x_iinc 3 1 (x_goto 21 K) := ((xe_iinc 3 1).trans (congrArg (x_iinc 3 1) (xe_goto 21)))
theorem bk_X3_runAnew_e_99 : ck_ fX3 (some .int) cX3_runAnew 99 [.aload 0, .iload 4, .iload 5, .iload 6, .iload 7] 108 = true := qck_r (nn_ _) (by decide +kernel)
theorem bs_X3_runAnew_e_99 {P : Zt → Option Zv → Prop} (K : Int → Zl → List Zv → Zt → Prop) : sx_ K P [.aload 0, .iload 4, .iload 5, .iload 6, .iload 7] 108 = x_aload 0 (x_iload 4 (x_iload 5 (x_iload 6 (x_iload 7 (K 108))))) := ((xe_aload 0).trans (congrArg (x_aload 0) ((xe_iload 4).trans (congrArg (x_iload 4) ((xe_iload 5).trans (congrArg (x_iload 5) ((xe_iload 6).trans (congrArg (x_iload 6) ((xe_iload 7).trans (congrArg (x_iload 7) xe_nil))))))))))
theorem bk_X3_runAnew_e_111 : ck_ fX3 (some .int) cX3_runAnew 111 [.goto 126] 114 = true := qck_r (nn_ _) (by decide +kernel)
theorem bs_X3_runAnew_e_111 {P : Zt → Option Zv → Prop} (K : Int → Zl → List Zv → Zt → Prop) : sx_ K P [.goto 126] 114 = x_goto 126 K := (xe_goto 126)
theorem bk_X3_runAnew_e_0 : ck_ fX3 (some .int) cX3_runAnew 0 [.aload 0, .tableswitch 0 3 15 #[], .istore 1, .aload 0, .tableswitch 0 3 17 #[], .istore 2, .aload 0, .iconst 0, .tableswitch 1 3 15 #[], .aload 0] 16 = true := qck_r (nn_ _) (by decide +kernel)
theorem bs_X3_runAnew_e_0 {P : Zt → Option Zv → Prop} (K : Int → Zl → List Zv → Zt → Prop) : sx_ K P [.aload 0, .tableswitch 0 3 15 #[], .istore 1, .aload 0, .tableswitch 0 3 17 #[], .istore 2, .aload 0, .iconst 0, .tableswitch 1 3 15 #[], .aload 0] 16 = x_aload 0 (x_g0 103 15 0 3000 (x_istore 1 (x_aload 0 (x_g0 103 17 0 3000 (x_istore 2 (x_aload 0 (x_iconst 0 (x_p 103 15 0 3000 (x_aload 0 (K 16)))))))))) := ((xe_aload 0).trans (congrArg (x_aload 0) ((xe_g0 (kk := 103) rfl tl_3_15).trans (congrArg (x_g0 103 15 0 3000) ((xe_istore 1).trans (congrArg (x_istore 1) ((xe_aload 0).trans (congrArg (x_aload 0) ((xe_g0 (kk := 103) rfl tl_3_17).trans (congrArg (x_g0 103 17 0 3000) ((xe_istore 2).trans (congrArg (x_istore 2) ((xe_aload 0).trans (congrArg (x_aload 0) ((xe_iconst 0).trans (congrArg (x_iconst 0) ((xe_p (kk := 103) rfl tl_3_15).trans (congrArg (x_p 103 15 0 3000) ((xe_aload 0).trans (congrArg (x_aload 0) xe_nil))))))))))))))))))))
theorem bk_X3_runAnew_e_19 : ck_ fX3 (some .int) cX3_runAnew 19 [.iconst 0, .istore 3] 21 = true := qck_r (nn_ _) (by decide +kernel)
theorem bs_X3_runAnew_e_19 {P : Zt → Option Zv → Prop} (K : Int → Zl → List Zv → Zt → Prop) : sx_ K P [.iconst 0, .istore 3] 21 = x_iconst 0 (x_istore 3 (K 21)) := ((xe_iconst 0).trans (congrArg (x_iconst 0) ((xe_istore 3).trans (congrArg (x_istore 3) xe_nil))))
abbrev po_X3_runAnew_e (T : Zt) (p : Int) (ru : Int → Int) : Zt → Option Zv → Prop := fun T' r => ∃ x : Int, r = some (vI x) ∧ fr_ [(103, [3, 4, 5, 15, 16, 17]), (466, []), (467, []), (468, []), (469, []), (472, []), (473, []), (470, []), (471, []), (190, []), (191, [0])] T T' ∧ oq_ T T' p ∧ (∀ x, x < T 191 0 0 → T' 190 x (-2) = T 190 x (-2)) ∧ (0 ≤ T' 103 p 15 ∧ 0 ≤ T' 103 p 17 ∧ T' 103 p 15 + T' 103 p 17 = T 103 p 15 + T 103 p 17) ∧ (T 191 0 0 ≤ T' 191 0 0 ∧ T' 191 0 0 ≤ T 191 0 0 + 512) ∧ lz_ (T' 190 (T' 103 p 16) (-2)) ∧ (4 * T' 103 p 17 ≤ T' 190 (T' 103 p 16) (-2) ∧ T' 103 p 16 < T' 191 0 0 ∧ 4 * T' 103 p 15 ≤ T' 190 (T 103 p 14) (-2)) ∧ (T' 103 p 3 = 0 → 1 ≤ T' 470 p 0 ∧ 1 ≤ T' 470 p 1) ∧ (∀ x j, x < T 191 0 0 → x ≠ T 103 p 14 → x ≠ T 103 p 16 → T' 190 x j = T 190 x j) ∧ (T' 103 p 16 = T 103 p 16 ∨ T 191 0 0 ≤ T' 103 p 16) ∧ rs9_ T' p = (rnH_ ru (bb9_ ru (rs9_ T p)) (hr9_ T (T 103 p 14) (T 103 p 15).toNat)).1 ∧ hr9_ T' (T 103 p 14) (T' 103 p 15).toNat = (rnH_ ru (bb9_ ru (rs9_ T p)) (hr9_ T (T 103 p 14) (T 103 p 15).toNat)).2.1 ∧ x = (rnH_ ru (bb9_ ru (rs9_ T p)) (hr9_ T (T 103 p 14) (T 103 p 15).toNat)).2.2 ∧ T' 103 p 17 = T 103 p 17 + x
set_option maxHeartbeats 4000000 in
theorem ct_X3_runAnew_e {T : Zt} {p : Int} {ru : Int → Int} (hr : RLP_ T p ru) (hf : 1 ≤ T 401 (T 103 p 0) 9 ∧ T 401 (T 103 p 0) 9 ≤ 6) (h1 : 0 ≤ T 103 p 15 ∧ 0 ≤ T 103 p 17 ∧ T 103 p 15 + T 103 p 17 ≤ 512) (h2 : 4 * T 103 p 15 ≤ T 190 (T 103 p 14) (-2) ∧ T 190 (T 103 p 14) (-2) ≤ 2048 ∧ 4 * T 103 p 17 ≤ T 190 (T 103 p 16) (-2)) (hz9 : lz_ (T 190 (T 103 p 16) (-2))) (h4 : T 103 p 14 < T 191 0 0 ∧ T 103 p 16 < T 191 0 0 ∧ T 191 0 0 ≤ 1000000000 ∧ -2147483648 ≤ T 103 p 14 ∧ -2147483648 ≤ T 103 p 16 ∧ T 103 p 14 ≠ T 103 p 16) : Ct_ yX3_runAnew zX3_runAnew T [vR 103 p] (po_X3_runAnew_e T p ru) := by
  refine ct_of pn_3 rfl rfl (Nat.le_of_ble_eq_true rfl) (fun hT hav => ?_)
  have hz : zX3_runAnew.2.2.2.1 = some .boolean → ∀ (T' : Zt) (x : Int), po_X3_runAnew_e T p ru T' (some (vI x)) → 0 ≤ x ∧ x ≤ 1 := fun h => by cases h
  have hb0 := lz_b hz9
  have hr0 := hr 0 (by decide) (by decide)
  have hr9 := hr 9 (by decide) (by decide)
  have hr10 := hr 10 (by decide) (by decide)
  have hr11 := hr 11 (by decide) (by decide)
  have hr12 := hr 12 (by decide) (by decide)
  show J_ zX3_runAnew T (po_X3_runAnew_e T p ru) 127 4064 0 [some (vR 103 p), none, none, none, none, none, none, none] [] T
  have c_21 : ∀ (nn : Nat) (i : Int) (T1 : Zt), ((T 103 p 15 - i).toNat) ≤ nn → (fr_ [(103, [3, 4, 5, 15, 16, 17]), (466, []), (467, []), (468, []), (469, []), (472, []), (473, []), (470, []), (471, []), (190, []), (191, [0])] T T1) → (oq_ T T1 p) → (∀ x, x < T 191 0 0 → T1 190 x (-2) = T 190 x (-2)) → (0 ≤ i ∧ i ≤ T 103 p 15) → (0 ≤ T1 103 p 15 ∧ T1 103 p 15 ≤ i ∧ T1 103 p 15 + T1 103 p 17 = T 103 p 17 + i ∧ 0 ≤ T1 103 p 17) → (T 191 0 0 ≤ T1 191 0 0 ∧ T1 191 0 0 ≤ T 191 0 0 + i) → (lz_ (T1 190 (T1 103 p 16) (-2))) → (4 * T1 103 p 17 ≤ T1 190 (T1 103 p 16) (-2) ∧ T1 103 p 16 < T1 191 0 0) → (T1 103 p 3 = 0 → 1 ≤ T1 470 p 0 ∧ 1 ≤ T1 470 p 1) → (T1 103 p 16 = T 103 p 16 ∨ T 191 0 0 ≤ T1 103 p 16) → (∀ j, i * 4 ≤ j → 0 ≤ j → T1 190 (T 103 p 14) j = T 190 (T 103 p 14) j) → (∀ x j, x < T 191 0 0 → x ≠ T 103 p 14 → x ≠ T 103 p 16 → T1 190 x j = T 190 x j) → (rs9_ T1 p = (rnH_ ru (bb9_ ru (rs9_ T p)) (hr9_ T (T 103 p 14) i.toNat)).1) → (hr9_ T1 (T 103 p 14) (T1 103 p 15).toNat = (rnH_ ru (bb9_ ru (rs9_ T p)) (hr9_ T (T 103 p 14) i.toNat)).2.1) → (T1 103 p 17 - T 103 p 17 = (rnH_ ru (bb9_ ru (rs9_ T p)) (hr9_ T (T 103 p 14) i.toNat)).2.2) → J_ zX3_runAnew T (po_X3_runAnew_e T p ru) (((2048 - T1 190 (T1 103 p 16) (-2)) / 16).toNat) ((4096 - 2 * T1 190 (T1 103 p 16) (-2)).toNat) 21 [some (vR 103 p), some (vI (T 103 p 15)), some (vI (T 103 p 17)), some (vI i), none, none, none, none] [] T1 := by
    intro nn
    induction nn using Nat.strongRecOn with
    | _ nn ih_21 =>
      intro i T1 hm_21 hf_21 oT1 lT1 i1 i2 i3 i4 i5 i6 ag1 rr1 xx1 fo1 fo2 fo3
      replace hm_21 := fun (_ : Unit) => hm_21
      have hb9 := lz_b i4
      refine j_blx (F := fX3) tb_X3 (nn_ _) bk_X3_runAnew_e_21 bs_X3_runAnew_e_21 hz (fun K hK => ?_)
      refine And.intro (fun c1 => ?_) (fun c1 => ?_)
      · refine hK 132 _ [] T1 ?_
        refine j_blx (F := fX3) tb_X3 (nn_ _) bk_X3_runAnew_e_132 bs_X3_runAnew_e_132 hz (fun K hK => ?_)
        intro b2 b2b
        refine rg_i (by omega) ?_
        refine (show po_X3_runAnew_e T p ru T1 (some (vI ((T1 103 p 17) - (T 103 p 17)))) from ?_)
        have y1 : T1 190 (T 103 p 14) (-2) = T 190 (T 103 p 14) (-2) := lT1 _ (by omega)
        rw [show i = T 103 p 15 by omega] at fo1 fo2 fo3
        exact ⟨_, rfl, hf_21, oT1, lT1, by omega, by omega, i4, by omega, i6, xx1, ag1, fo1, fo2, fo3, by omega⟩
      · have e4 : T1 103 p 14 = T 103 p 14 := hf_21 103 p 14 rfl
        refine rg_i (by omega) ?_
        have y5 : T1 190 (T1 103 p 14) (-2) = T 190 (T 103 p 14) (-2) := by rw [e4]; exact lT1 _ (by omega)
        refine ix_i (by omega) ?_
        intro b6 b6b
        have e7 : T1 190 (T1 103 p 14) (i * 4) = T1 190 (T 103 p 14) (i * 4) := by rw [e4]
        rw [e7] at b6 b6b ⊢
        have e9 : T1 103 p 14 = T 103 p 14 := hf_21 103 p 14 rfl
        refine rg_i (by omega) ?_
        refine rg_i (by omega) ?_
        have y10 : T1 190 (T1 103 p 14) (-2) = T 190 (T 103 p 14) (-2) := by rw [e9]; exact lT1 _ (by omega)
        refine ix_i (by omega) ?_
        intro b11 b11b
        have e12 : T1 190 (T1 103 p 14) ((i * 4) + 1) = T1 190 (T 103 p 14) ((i * 4) + 1) := by rw [e9]
        rw [e12] at b11 b11b ⊢
        have e14 : T1 103 p 14 = T 103 p 14 := hf_21 103 p 14 rfl
        refine rg_i (by omega) ?_
        refine rg_i (by omega) ?_
        have y15 : T1 190 (T1 103 p 14) (-2) = T 190 (T 103 p 14) (-2) := by rw [e14]; exact lT1 _ (by omega)
        refine ix_i (by omega) ?_
        intro b16 b16b
        have e17 : T1 190 (T1 103 p 14) ((i * 4) + 2) = T1 190 (T 103 p 14) ((i * 4) + 2) := by rw [e14]
        rw [e17] at b16 b16b ⊢
        have e19 : T1 103 p 14 = T 103 p 14 := hf_21 103 p 14 rfl
        refine rg_i (by omega) ?_
        refine rg_i (by omega) ?_
        have y20 : T1 190 (T1 103 p 14) (-2) = T 190 (T 103 p 14) (-2) := by rw [e19]; exact lT1 _ (by omega)
        refine ix_i (by omega) ?_
        intro b21 b21b
        have e22 : T1 190 (T1 103 p 14) ((i * 4) + 3) = T1 190 (T 103 p 14) ((i * 4) + 3) := by rw [e19]
        rw [e22] at b21 b21b ⊢
        refine hK 81 [some (vR 103 p), some (vI (T 103 p 15)), some (vI (T 103 p 17)), some (vI i), some (vI (T1 190 (T 103 p 14) (i * 4))), some (vI (T1 190 (T 103 p 14) ((i * 4) + 1))), some (vI (T1 190 (T 103 p 14) ((i * 4) + 2))), some (vI (T1 190 (T 103 p 14) ((i * 4) + 3)))] [vI (T1 190 (T 103 p 14) ((i * 4) + 3)), vI (T1 190 (T 103 p 14) ((i * 4) + 2)), vI (T1 190 (T 103 p 14) ((i * 4) + 1)), vI (T1 190 (T 103 p 14) (i * 4)), vR 103 p] T1 ?_
        refine j_callV (y := yX3_brokenLaw) (Yc := zX3_brokenLaw) (rest := []) [vI (T1 190 (T 103 p 14) (i * 4)), vI (T1 190 (T 103 p 14) ((i * 4) + 1)), vI (T1 190 (T 103 p 14) ((i * 4) + 2)), vI (T1 190 (T 103 p 14) ((i * 4) + 3))] (ct_X3_brokenLaw_e (T := T1) (ru := ru) (by exact rl_f (ws := [(103, [3, 4, 5, 15, 16, 17]), (466, []), (467, []), (468, []), (469, []), (472, []), (473, []), (470, []), (471, []), (190, []), (191, [0])]) hr (fr_t (fr_0 _ _) (fr_s hf_21 rfl)) rfl (fun _ => rfl))) cl_X3_171 (qd_c (by decide +kernel)) (by decide) rfl (by decide +kernel) (Nat.le_of_ble_eq_true rfl) (by first | decide | (simp only [zX3_brokenLaw]; omega)) (by first | decide | (simp only [zX3_brokenLaw]; omega)) rfl ?_
        rintro _ _ ⟨rfl, x23, rfl, hx23⟩
        show J_ zX3_runAnew T (po_X3_runAnew_e T p ru) (((2048 - T1 190 (T1 103 p 16) (-2)) / 16).toNat) ((4096 - 2 * T1 190 (T1 103 p 16) (-2)).toNat) 84 _ [vI x23] T1
        refine j_blx (F := fX3) tb_X3 (nn_ _) bk_X3_runAnew_e_84 bs_X3_runAnew_e_84 hz (fun K hK => ?_)
        refine And.intro (fun c24 => ?_) (fun c24 => ?_)
        · refine hK 114 _ [] T1 ?_
          refine j_ok (fun gt _ => ?_)
          have ga := bd_f gt 103 16 tl_3_16 p
          refine j_blx (F := fX3) tb_X3 (nn_ _) bk_X3_runAnew_e_114 bs_X3_runAnew_e_114 hz (fun K hK => ?_)
          refine hK 123 _ [vI (T1 190 (T 103 p 14) ((i * 4) + 3)), vI (T1 190 (T 103 p 14) ((i * 4) + 2)), vI (T1 190 (T 103 p 14) ((i * 4) + 1)), vI (T1 190 (T 103 p 14) (i * 4)), vR 103 p] T1 ?_
          have gb : -2147483648 ≤ T1 103 p 16 := ga.1
          have gl : T1 103 p 14 = T 103 p 14 := hf_21 103 p 14 rfl
          by_cases g25 : 4 * T1 103 p 17 + 4 ≤ T1 190 (T1 103 p 16) (-2)
          · refine j_callV (y := yX3_putAside) (Yc := zX3_putAside0) (rest := []) [vI (T1 190 (T 103 p 14) (i * 4)), vI (T1 190 (T 103 p 14) ((i * 4) + 1)), vI (T1 190 (T 103 p 14) ((i * 4) + 2)), vI (T1 190 (T 103 p 14) ((i * 4) + 3))] (ct_X3_putAside0_e (T := T1) (by omega) (by omega) (by omega)) cl_X3_182_zX3_putAside0 (qd_c (by decide +kernel)) (by decide) rfl (by decide +kernel) (Nat.le_of_ble_eq_true rfl) (Nat.zero_le _) (Nat.zero_le _) rfl ?_
            rintro U26 _ ⟨rfl, fU26, qU26o, nU26, lU26, xU26⟩
            show J_ zX3_runAnew T (po_X3_runAnew_e T p ru) (((2048 - T1 190 (T1 103 p 16) (-2)) / 16).toNat) ((4096 - 2 * T1 190 (T1 103 p 16) (-2)).toNat) 126 _ [] U26
            refine j_blx (F := fX3) tb_X3 (nn_ _) bk_X3_runAnew_e_126 bs_X3_runAnew_e_126 hz (fun K hK => ?_)
            refine rg_i (by omega) ?_
            refine hK 21 [some (vR 103 p), some (vI (T 103 p 15)), some (vI (T 103 p 17)), some (vI (i + 1)), some (vI (T1 190 (T 103 p 14) (i * 4))), some (vI (T1 190 (T 103 p 14) ((i * 4) + 1))), some (vI (T1 190 (T 103 p 14) ((i * 4) + 2))), some (vI (T1 190 (T 103 p 14) ((i * 4) + 3)))] [] U26 ?_
            have e28 : U26 103 p 15 = T1 103 p 15 := fU26 103 p 15 rfl
            have e29 : U26 103 p 16 = T1 103 p 16 := fU26 103 p 16 rfl
            have e30 : U26 103 p 3 = T1 103 p 3 := fU26 103 p 3 rfl
            have e31 : U26 191 0 0 = T1 191 0 0 := fU26 191 0 0 rfl
            have y32 : U26 103 p 16 = T1 103 p 16 := fU26 103 p 16 rfl
            have d9 : U26 190 (U26 103 p 16) (-2) = T1 190 (T1 103 p 16) (-2) := by rw [y32]; exact lU26 _ (by omega)
            have u0 : T1 190 (T 103 p 14) (i * 4) = T 190 (T 103 p 14) (i * 4) := rr1 _ (by omega) (by omega)
            have u1 : T1 190 (T 103 p 14) (i * 4 + 1) = T 190 (T 103 p 14) (i * 4 + 1) := rr1 _ (by omega) (by omega)
            have u2 : T1 190 (T 103 p 14) (i * 4 + 2) = T 190 (T 103 p 14) (i * 4 + 2) := rr1 _ (by omega) (by omega)
            have u3 : T1 190 (T 103 p 14) (i * 4 + 3) = T 190 (T 103 p 14) (i * 4 + 3) := rr1 _ (by omega) (by omega)
            have er : ra9_ T (T 103 p 14) i = (T1 190 (T 103 p 14) (i * 4), T1 190 (T 103 p 14) (i * 4 + 1), T1 190 (T 103 p 14) (i * 4 + 2), T1 190 (T 103 p 14) (i * 4 + 3)) := by
              unfold ra9_
              rw [u0, u1, u2, u3]
            have en : rnH_ ru (bb9_ ru (rs9_ T p)) (hr9_ T (T 103 p 14) (i + 1).toNat) = stH_ ru (rnH_ ru (bb9_ ru (rs9_ T p)) (hr9_ T (T 103 p 14) i.toNat)) (ra9_ T (T 103 p 14) i) := by rw [hrw_t (by omega)]; exact rnH_a
            have en2 : rnH_ ru (bb9_ ru (rs9_ T p)) (hr9_ T (T 103 p 14) (i + 1).toNat) = ((rnH_ ru (bb9_ ru (rs9_ T p)) (hr9_ T (T 103 p 14) i.toNat)).1, (rnH_ ru (bb9_ ru (rs9_ T p)) (hr9_ T (T 103 p 14) i.toNat)).2.1, (rnH_ ru (bb9_ ru (rs9_ T p)) (hr9_ T (T 103 p 14) i.toNat)).2.2 + 1) := by rw [en, er]; exact stH_f (by rw [← fo1]; omega)
            have fa : rs9_ U26 p = (rnH_ ru (bb9_ ru (rs9_ T p)) (hr9_ T (T 103 p 14) (i + 1).toNat)).1 := by
              rw [en2, rs_w fU26 (fun k j d => by rcases dk_c d with rfl | rfl | rfl | rfl | rfl | rfl | rfl | rfl | rfl | rfl | ⟨rfl, rfl | rfl | rfl⟩ <;> rfl)]
              exact fo1
            have fb : hr9_ U26 (T 103 p 14) (U26 103 p 15).toNat = (rnH_ ru (bb9_ ru (rs9_ T p)) (hr9_ T (T 103 p 14) (i + 1).toNat)).2.1 := by
              rw [en2, show U26 103 p 15 = T1 103 p 15 from fU26 103 p 15 rfl, hrw_e (T := T1) (a := T 103 p 14) (fun j _ _ => xU26 _ j (fun z => by omega))]
              exact fo2
            have fc : U26 103 p 17 - T 103 p 17 = (rnH_ ru (bb9_ ru (rs9_ T p)) (hr9_ T (T 103 p 14) (i + 1).toNat)).2.2 := by
              rw [en2]
              show _ = (rnH_ ru (bb9_ ru (rs9_ T p)) (hr9_ T (T 103 p 14) i.toNat)).2.2 + 1
              rw [← fo3]
              omega
            refine j_drop [some (vR 103 p), some (vI (T 103 p 15)), some (vI (T 103 p 17)), some (vI (i + 1)), none, none, none, none] (fun k v hk => ?_) rfl ?_
            · match k, hk with
              | 0, hk => exact hk
              | 1, hk => exact hk
              | 2, hk => exact hk
              | 3, hk => exact hk
              | 4, hk => cases hk
              | 5, hk => cases hk
              | 6, hk => cases hk
              | 7, hk => cases hk
              | k + 8, hk => cases hk
            refine j_mono (bc' := (((2048 - U26 190 (U26 103 p 16) (-2)) / 16).toNat)) (bs' := ((4096 - 2 * U26 190 (U26 103 p 16) (-2)).toNat)) (by omega) (by omega) ?_
            have e33 : U26 103 p 15 = T1 103 p 15 := fU26 103 p 15 rfl
            have e34 : U26 103 p 16 = T1 103 p 16 := fU26 103 p 16 rfl
            have e35 : U26 103 p 3 = T1 103 p 3 := fU26 103 p 3 rfl
            have e36 : U26 470 p 0 = T1 470 p 0 := fU26 470 p 0 rfl
            have e37 : U26 470 p 1 = T1 470 p 1 := fU26 470 p 1 rfl
            have e38 : U26 191 0 0 = T1 191 0 0 := fU26 191 0 0 rfl
            refine ih_21 _ ?_ (i + 1) U26 (Nat.le_refl _) ?_ ?_ ?_ ?_ ?_ ?_ ?_ ?_ ?_ ?_ ?_ ?_ ?_ ?_ ?_
            · have hm_21 := hm_21 (); omega
            · exact fr_t (fr_t (fr_0 _ _) (fr_s hf_21 rfl)) (fr_s fU26 rfl)
            · exact oq_t (oT1) qU26o
            · exact fun x hx => (lU26 x (by omega)).trans (lT1 x hx)
            · omega
            · omega
            · omega
            · rw [d9]; exact i4
            · omega
            · intro z9
              have y1 := i6 (by omega)
              have y2 : U26 470 p 0 = T1 470 p 0 := fU26 470 p 0 rfl
              have y3 : U26 470 p 1 = T1 470 p 1 := fU26 470 p 1 rfl
              omega
            · omega
            · exact fun j a b => (xU26 _ j (fun z => by omega)).trans (rr1 j (by omega) b)
            · exact fun x j a b c => (xU26 x j (fun z => by omega)).trans (xx1 x j a b c)
            · exact fa
            · exact fb
            · exact fc
          · have gh := lz_h i4 (by omega)
            refine j_callV (pc := 123) (y := yX3_putAside) (Yc := (zX3_putAsideD (T1 190 (T1 103 p 16) (-2)).toNat)) (rest := []) [vI (T1 190 (T 103 p 14) (i * 4)), vI (T1 190 (T 103 p 14) ((i * 4) + 1)), vI (T1 190 (T 103 p 14) ((i * 4) + 2)), vI (T1 190 (T 103 p 14) ((i * 4) + 3))] (ct_X3_putAsideD_e (T := T1) (sl := (T1 190 (T1 103 p 16) (-2)).toNat) (by omega) (by omega) i4 (by omega)) (cl_X3_182_zX3_putAsideD _) (qd_c (by decide +kernel)) (by decide) rfl rfl (Nat.le_of_ble_eq_true rfl) (by show 1 ≤ ((2048 - T1 190 (T1 103 p 16) (-2)) / 16).toNat; omega) (by show 2 * (T1 190 (T1 103 p 16) (-2)).toNat ≤ (4096 - 2 * T1 190 (T1 103 p 16) (-2)).toNat; omega) rfl ?_
            rintro U39 _ ⟨rfl, fU39, qU39o, nU39, lU39, mU39, m2U39, zU39, iU39, kU39, dU39, xU39, gU39⟩
            show J_ zX3_runAnew T (po_X3_runAnew_e T p ru) ((((2048 - T1 190 (T1 103 p 16) (-2)) / 16).toNat) - 1) (((4096 - 2 * T1 190 (T1 103 p 16) (-2)).toNat) - (2 * (T1 190 (T1 103 p 16) (-2)).toNat)) 126 [some (vR 103 p), some (vI (T 103 p 15)), some (vI (T 103 p 17)), some (vI i), some (vI (T1 190 (T 103 p 14) (i * 4))), some (vI (T1 190 (T 103 p 14) ((i * 4) + 1))), some (vI (T1 190 (T 103 p 14) ((i * 4) + 2))), some (vI (T1 190 (T 103 p 14) ((i * 4) + 3)))] [] U39
            refine j_blx (F := fX3) tb_X3 (nn_ _) bk_X3_runAnew_e_126 bs_X3_runAnew_e_126 hz (fun K hK => ?_)
            refine rg_i (by omega) ?_
            refine hK 21 [some (vR 103 p), some (vI (T 103 p 15)), some (vI (T 103 p 17)), some (vI (i + 1)), some (vI (T1 190 (T 103 p 14) (i * 4))), some (vI (T1 190 (T 103 p 14) ((i * 4) + 1))), some (vI (T1 190 (T 103 p 14) ((i * 4) + 2))), some (vI (T1 190 (T 103 p 14) ((i * 4) + 3)))] [] U39 ?_
            have e41 : U39 103 p 15 = T1 103 p 15 := fU39 103 p 15 rfl
            have e42 : U39 103 p 3 = T1 103 p 3 := fU39 103 p 3 rfl
            have d9 : U39 190 (U39 103 p 16) (-2) = 2 * (T1 190 (T1 103 p 16) (-2)) := lz_2 i4 zU39 (by omega) (by omega)
            have u0 : T1 190 (T 103 p 14) (i * 4) = T 190 (T 103 p 14) (i * 4) := rr1 _ (by omega) (by omega)
            have u1 : T1 190 (T 103 p 14) (i * 4 + 1) = T 190 (T 103 p 14) (i * 4 + 1) := rr1 _ (by omega) (by omega)
            have u2 : T1 190 (T 103 p 14) (i * 4 + 2) = T 190 (T 103 p 14) (i * 4 + 2) := rr1 _ (by omega) (by omega)
            have u3 : T1 190 (T 103 p 14) (i * 4 + 3) = T 190 (T 103 p 14) (i * 4 + 3) := rr1 _ (by omega) (by omega)
            have er : ra9_ T (T 103 p 14) i = (T1 190 (T 103 p 14) (i * 4), T1 190 (T 103 p 14) (i * 4 + 1), T1 190 (T 103 p 14) (i * 4 + 2), T1 190 (T 103 p 14) (i * 4 + 3)) := by
              unfold ra9_
              rw [u0, u1, u2, u3]
            have en : rnH_ ru (bb9_ ru (rs9_ T p)) (hr9_ T (T 103 p 14) (i + 1).toNat) = stH_ ru (rnH_ ru (bb9_ ru (rs9_ T p)) (hr9_ T (T 103 p 14) i.toNat)) (ra9_ T (T 103 p 14) i) := by rw [hrw_t (by omega)]; exact rnH_a
            have en2 : rnH_ ru (bb9_ ru (rs9_ T p)) (hr9_ T (T 103 p 14) (i + 1).toNat) = ((rnH_ ru (bb9_ ru (rs9_ T p)) (hr9_ T (T 103 p 14) i.toNat)).1, (rnH_ ru (bb9_ ru (rs9_ T p)) (hr9_ T (T 103 p 14) i.toNat)).2.1, (rnH_ ru (bb9_ ru (rs9_ T p)) (hr9_ T (T 103 p 14) i.toNat)).2.2 + 1) := by rw [en, er]; exact stH_f (by rw [← fo1]; omega)
            have fa : rs9_ U39 p = (rnH_ ru (bb9_ ru (rs9_ T p)) (hr9_ T (T 103 p 14) (i + 1).toNat)).1 := by
              rw [en2, rs_w fU39 (fun k j d => by rcases dk_c d with rfl | rfl | rfl | rfl | rfl | rfl | rfl | rfl | rfl | rfl | ⟨rfl, rfl | rfl | rfl⟩ <;> rfl)]
              exact fo1
            have fb : hr9_ U39 (T 103 p 14) (U39 103 p 15).toNat = (rnH_ ru (bb9_ ru (rs9_ T p)) (hr9_ T (T 103 p 14) (i + 1).toNat)).2.1 := by
              rw [en2, show U39 103 p 15 = T1 103 p 15 from fU39 103 p 15 rfl, hrw_e (T := T1) (a := T 103 p 14) (fun j _ _ => xU39 _ j (by omega) (by omega))]
              exact fo2
            have fc : U39 103 p 17 - T 103 p 17 = (rnH_ ru (bb9_ ru (rs9_ T p)) (hr9_ T (T 103 p 14) (i + 1).toNat)).2.2 := by
              rw [en2]
              show _ = (rnH_ ru (bb9_ ru (rs9_ T p)) (hr9_ T (T 103 p 14) i.toNat)).2.2 + 1
              rw [← fo3]
              omega
            refine j_drop [some (vR 103 p), some (vI (T 103 p 15)), some (vI (T 103 p 17)), some (vI (i + 1)), none, none, none, none] (fun k v hk => ?_) rfl ?_
            · match k, hk with
              | 0, hk => exact hk
              | 1, hk => exact hk
              | 2, hk => exact hk
              | 3, hk => exact hk
              | 4, hk => cases hk
              | 5, hk => cases hk
              | 6, hk => cases hk
              | 7, hk => cases hk
              | k + 8, hk => cases hk
            refine j_mono (bc' := (((2048 - U39 190 (U39 103 p 16) (-2)) / 16).toNat)) (bs' := ((4096 - 2 * U39 190 (U39 103 p 16) (-2)).toNat)) (by omega) (by omega) ?_
            have e43 : U39 103 p 15 = T1 103 p 15 := fU39 103 p 15 rfl
            have e44 : U39 103 p 3 = T1 103 p 3 := fU39 103 p 3 rfl
            have e45 : U39 470 p 0 = T1 470 p 0 := fU39 470 p 0 rfl
            have e46 : U39 470 p 1 = T1 470 p 1 := fU39 470 p 1 rfl
            refine ih_21 _ ?_ (i + 1) U39 (Nat.le_refl _) ?_ ?_ ?_ ?_ ?_ ?_ ?_ ?_ ?_ ?_ ?_ ?_ ?_ ?_ ?_
            · have hm_21 := hm_21 (); omega
            · exact fr_t (fr_t (fr_0 _ _) (fr_s hf_21 rfl)) (fr_s fU39 rfl)
            · exact oq_t (oT1) qU39o
            · exact fun x hx => (lU39 x (by omega)).trans (lT1 x hx)
            · omega
            · omega
            · omega
            · exact zU39
            · omega
            · intro z9
              have y1 := i6 (by omega)
              have y2 : U39 470 p 0 = T1 470 p 0 := fU39 470 p 0 rfl
              have y3 : U39 470 p 1 = T1 470 p 1 := fU39 470 p 1 rfl
              omega
            · rcases gU39 with z | z
              · omega
              · omega
            · exact fun j a b => (xU39 _ j (by omega) (by omega)).trans (rr1 j (by omega) b)
            · exact fun x j a b c => (xU39 x j (by omega) (by omega)).trans (xx1 x j a b c)
            · exact fa
            · exact fb
            · exact fc
        · refine hK 96 _ [vI (T1 190 (T 103 p 14) ((i * 4) + 3)), vI (T1 190 (T 103 p 14) ((i * 4) + 2)), vI (T1 190 (T 103 p 14) ((i * 4) + 1)), vI (T1 190 (T 103 p 14) (i * 4)), vR 103 p] T1 ?_
          have e47 : T1 103 p 0 = T 103 p 0 := hf_21 103 p 0 rfl
          have e48 : T1 401 (T 103 p 0) 0 = T 401 (T 103 p 0) 0 := hf_21 401 (T 103 p 0) 0 rfl
          have r49 : T1 401 (T1 103 p 0) 0 = T 401 (T 103 p 0) 0 := by rw [e47]; exact e48
          have e50 : T1 103 p 0 = T 103 p 0 := hf_21 103 p 0 rfl
          have e51 : T1 401 (T 103 p 0) 0 = T 401 (T 103 p 0) 0 := hf_21 401 (T 103 p 0) 0 rfl
          have r52 : T1 401 (T1 103 p 0) 0 = T 401 (T 103 p 0) 0 := by rw [e50]; exact e51
          have e53 : T1 103 p 0 = T 103 p 0 := hf_21 103 p 0 rfl
          have e54 : T1 401 (T 103 p 0) 0 = T 401 (T 103 p 0) 0 := hf_21 401 (T 103 p 0) 0 rfl
          have r55 : T1 401 (T1 103 p 0) 0 = T 401 (T 103 p 0) 0 := by rw [e53]; exact e54
          have e56 : T1 103 p 0 = T 103 p 0 := hf_21 103 p 0 rfl
          have e57 : T1 401 (T 103 p 0) 0 = T 401 (T 103 p 0) 0 := hf_21 401 (T 103 p 0) 0 rfl
          have r58 : T1 401 (T1 103 p 0) 0 = T 401 (T 103 p 0) 0 := by rw [e56]; exact e57
          have e59 : T1 103 p 0 = T 103 p 0 := hf_21 103 p 0 rfl
          have e60 : T1 401 (T 103 p 0) 0 = T 401 (T 103 p 0) 0 := hf_21 401 (T 103 p 0) 0 rfl
          have r61 : T1 401 (T1 103 p 0) 0 = T 401 (T 103 p 0) 0 := by rw [e59]; exact e60
          have e62 : T1 103 p 0 = T 103 p 0 := hf_21 103 p 0 rfl
          have e63 : T1 401 (T 103 p 0) 0 = T 401 (T 103 p 0) 0 := hf_21 401 (T 103 p 0) 0 rfl
          have r64 : T1 401 (T1 103 p 0) 0 = T 401 (T 103 p 0) 0 := by rw [e62]; exact e63
          have e65 : T1 103 p 0 = T 103 p 0 := hf_21 103 p 0 rfl
          have e66 : T1 401 (T 103 p 0) 9 = T 401 (T 103 p 0) 9 := hf_21 401 (T 103 p 0) 9 rfl
          have r67 : T1 401 (T1 103 p 0) 9 = T 401 (T 103 p 0) 9 := by rw [e65]; exact e66
          have e68 : T1 103 p 0 = T 103 p 0 := hf_21 103 p 0 rfl
          have e69 : T1 401 (T 103 p 0) 9 = T 401 (T 103 p 0) 9 := hf_21 401 (T 103 p 0) 9 rfl
          have r70 : T1 401 (T1 103 p 0) 9 = T 401 (T 103 p 0) 9 := by rw [e68]; exact e69
          have e71 : T1 103 p 0 = T 103 p 0 := hf_21 103 p 0 rfl
          have e72 : T1 103 p 0 = T 103 p 0 := hf_21 103 p 0 rfl
          have g7 := hx23.1.2.2 (by omega)
          have g4 : T1 103 p 3 = 0 := by
            have y9 := (lw_0 (hx23.2.symm.trans (by omega))).1
            rw [rs_d rfl] at y9
            exact y9
          have g8 := i6 g4
          refine j_callV (y := yX3_carryOut) (Yc := zX3_carryOut) (rest := []) [vI (T1 190 (T 103 p 14) (i * 4)), vI (T1 190 (T 103 p 14) ((i * 4) + 1)), vI (T1 190 (T 103 p 14) ((i * 4) + 2)), vI (T1 190 (T 103 p 14) ((i * 4) + 3))] (ct_X3_carryOut_e (T := T1) (ru := ru) (by exact rl_f (ws := [(103, [3, 4, 5, 15, 16, 17]), (466, []), (467, []), (468, []), (469, []), (472, []), (473, []), (470, []), (471, []), (190, []), (191, [0])]) hr (fr_t (fr_0 _ _) (fr_s hf_21 rfl)) rfl (fun _ => rfl)) (by exact g7) (by omega) (by omega)) cl_X3_175 (qd_c (by decide +kernel)) (by decide) rfl (by decide +kernel) (Nat.le_of_ble_eq_true rfl) (by first | decide | (simp only [zX3_carryOut]; omega)) (by first | decide | (simp only [zX3_carryOut]; omega)) rfl ?_
          rintro U73 _ ⟨rfl, fU73, qU73o, qU73, qU73e⟩
          show J_ zX3_runAnew T (po_X3_runAnew_e T p ru) (((2048 - T1 190 (T1 103 p 16) (-2)) / 16).toNat) ((4096 - 2 * T1 190 (T1 103 p 16) (-2)).toNat) 99 _ [] U73
          refine j_blx (F := fX3) tb_X3 (nn_ _) bk_X3_runAnew_e_99 bs_X3_runAnew_e_99 hz (fun K hK => ?_)
          refine hK 108 _ [vI (T1 190 (T 103 p 14) ((i * 4) + 3)), vI (T1 190 (T 103 p 14) ((i * 4) + 2)), vI (T1 190 (T 103 p 14) ((i * 4) + 1)), vI (T1 190 (T 103 p 14) (i * 4)), vR 103 p] U73 ?_
          have e74 : U73 103 p 15 = T1 103 p 15 := fU73 103 p 15 rfl
          have e75 : U73 103 p 14 = T 103 p 14 := (fU73 103 p 14 rfl).trans (hf_21 103 p 14 rfl)
          have e76 : U73 191 0 0 = T1 191 0 0 := fU73 191 0 0 rfl
          have y77 : U73 103 p 14 = T 103 p 14 := (fU73 103 p 14 rfl).trans (hf_21 103 p 14 rfl)
          have y78 : U73 190 (U73 103 p 14) (-2) = T 190 (T 103 p 14) (-2) := by rw [y77]; exact (fU73 190 _ _ rfl).trans (lT1 _ (by omega))
          refine j_callV (y := yX3_keepRow) (Yc := zX3_keepRow0) (rest := []) [vI (T1 190 (T 103 p 14) (i * 4)), vI (T1 190 (T 103 p 14) ((i * 4) + 1)), vI (T1 190 (T 103 p 14) ((i * 4) + 2)), vI (T1 190 (T 103 p 14) ((i * 4) + 3))] (ct_X3_keepRow0_e (T := U73) (by omega) (by omega) (by omega)) cl_X3_179_zX3_keepRow0 (qd_c (by decide +kernel)) (by decide) rfl (by decide +kernel) (Nat.le_of_ble_eq_true rfl) (by first | decide | (simp only [zX3_keepRow0]; omega)) (by first | decide | (simp only [zX3_keepRow0]; omega)) rfl ?_
          rintro U79 _ ⟨rfl, fU79, qU79o, nU79, lU79, xU79, bU79⟩
          show J_ zX3_runAnew T (po_X3_runAnew_e T p ru) (((2048 - T1 190 (T1 103 p 16) (-2)) / 16).toNat) ((4096 - 2 * T1 190 (T1 103 p 16) (-2)).toNat) 111 _ [] U79
          refine j_blx (F := fX3) tb_X3 (nn_ _) bk_X3_runAnew_e_111 bs_X3_runAnew_e_111 hz (fun K hK => ?_)
          refine hK 126 _ [] U79 ?_
          refine j_blx (F := fX3) tb_X3 (nn_ _) bk_X3_runAnew_e_126 bs_X3_runAnew_e_126 hz (fun K hK => ?_)
          refine rg_i (by omega) ?_
          refine hK 21 [some (vR 103 p), some (vI (T 103 p 15)), some (vI (T 103 p 17)), some (vI (i + 1)), some (vI (T1 190 (T 103 p 14) (i * 4))), some (vI (T1 190 (T 103 p 14) ((i * 4) + 1))), some (vI (T1 190 (T 103 p 14) ((i * 4) + 2))), some (vI (T1 190 (T 103 p 14) ((i * 4) + 3)))] [] U79 ?_
          have e81 : U79 103 p 17 = T1 103 p 17 := (fU79 103 p 17 rfl).trans (fU73 103 p 17 rfl)
          have e82 : U79 103 p 16 = T1 103 p 16 := (fU79 103 p 16 rfl).trans (fU73 103 p 16 rfl)
          have e83 : U79 103 p 3 = U73 103 p 3 := fU79 103 p 3 rfl
          have e84 : U79 191 0 0 = T1 191 0 0 := (fU79 191 0 0 rfl).trans (fU73 191 0 0 rfl)
          have y85 : U79 103 p 16 = T1 103 p 16 := (fU79 103 p 16 rfl).trans (fU73 103 p 16 rfl)
          have d9 : U79 190 (U79 103 p 16) (-2) = T1 190 (T1 103 p 16) (-2) := by rw [y85]; exact (lU79 _ (by omega)).trans (fU73 190 _ _ rfl)
          have u0 : T1 190 (T 103 p 14) (i * 4) = T 190 (T 103 p 14) (i * 4) := rr1 _ (by omega) (by omega)
          have u1 : T1 190 (T 103 p 14) (i * 4 + 1) = T 190 (T 103 p 14) (i * 4 + 1) := rr1 _ (by omega) (by omega)
          have u2 : T1 190 (T 103 p 14) (i * 4 + 2) = T 190 (T 103 p 14) (i * 4 + 2) := rr1 _ (by omega) (by omega)
          have u3 : T1 190 (T 103 p 14) (i * 4 + 3) = T 190 (T 103 p 14) (i * 4 + 3) := rr1 _ (by omega) (by omega)
          have er : ra9_ T (T 103 p 14) i = (T1 190 (T 103 p 14) (i * 4), T1 190 (T 103 p 14) (i * 4 + 1), T1 190 (T 103 p 14) (i * 4 + 2), T1 190 (T 103 p 14) (i * 4 + 3)) := by
            unfold ra9_
            rw [u0, u1, u2, u3]
          have en : rnH_ ru (bb9_ ru (rs9_ T p)) (hr9_ T (T 103 p 14) (i + 1).toNat) = stH_ ru (rnH_ ru (bb9_ ru (rs9_ T p)) (hr9_ T (T 103 p 14) i.toNat)) (ra9_ T (T 103 p 14) i) := by rw [hrw_t (by omega)]; exact rnH_a
          have g9 : U73 103 p 14 = T 103 p 14 := (fU73 103 p 14 rfl).trans (hf_21 103 p 14 rfl)
          have g6 : U79 103 p 14 = T 103 p 14 := (fU79 103 p 14 rfl).trans g9
          have g5 : U73 103 p 15 = T1 103 p 15 := fU73 103 p 15 rfl
          have en2 : rnH_ ru (bb9_ ru (rs9_ T p)) (hr9_ T (T 103 p 14) (i + 1).toNat) = (ca9_ ru (rnH_ ru (bb9_ ru (rs9_ T p)) (hr9_ T (T 103 p 14) i.toNat)).1 (T1 190 (T 103 p 14) (i * 4)) (T1 190 (T 103 p 14) (i * 4 + 1)) (T1 190 (T 103 p 14) (i * 4 + 2)) (T1 190 (T 103 p 14) (i * 4 + 3)), (rnH_ ru (bb9_ ru (rs9_ T p)) (hr9_ T (T 103 p 14) i.toNat)).2.1 ++ [(T1 190 (T 103 p 14) (i * 4), T1 190 (T 103 p 14) (i * 4 + 1), T1 190 (T 103 p 14) (i * 4 + 2), T1 190 (T 103 p 14) (i * 4 + 3))], (rnH_ ru (bb9_ ru (rs9_ T p)) (hr9_ T (T 103 p 14) i.toNat)).2.2) := by rw [en, er]; exact stH_t (by rw [← fo1]; omega)
          have fa : rs9_ U79 p = (rnH_ ru (bb9_ ru (rs9_ T p)) (hr9_ T (T 103 p 14) (i + 1).toNat)).1 := by
            rw [en2]
            show _ = ca9_ ru (rnH_ ru (bb9_ ru (rs9_ T p)) (hr9_ T (T 103 p 14) i.toNat)).1 (T1 190 (T 103 p 14) (i * 4)) (T1 190 (T 103 p 14) (i * 4 + 1)) (T1 190 (T 103 p 14) (i * 4 + 2)) (T1 190 (T 103 p 14) (i * 4 + 3))
            rw [← fo1, rs_w fU79 (fun k j d => by rcases dk_c d with rfl | rfl | rfl | rfl | rfl | rfl | rfl | rfl | rfl | rfl | ⟨rfl, rfl | rfl | rfl⟩ <;> rfl)]
            exact qU73e
          have fb : hr9_ U79 (T 103 p 14) (U79 103 p 15).toNat = (rnH_ ru (bb9_ ru (rs9_ T p)) (hr9_ T (T 103 p 14) (i + 1).toNat)).2.1 := by
            rw [en2]
            have b9 := bU79
            rw [g6, g9, g5, hrw_e (T := T1) (a := T 103 p 14) (fun j _ _ => fU73 190 _ j rfl), fo2] at b9
            exact b9
          have fc : U79 103 p 17 - T 103 p 17 = (rnH_ ru (bb9_ ru (rs9_ T p)) (hr9_ T (T 103 p 14) (i + 1).toNat)).2.2 := by
            rw [en2]
            show _ = (rnH_ ru (bb9_ ru (rs9_ T p)) (hr9_ T (T 103 p 14) i.toNat)).2.2
            rw [← fo3]
            omega
          refine j_drop [some (vR 103 p), some (vI (T 103 p 15)), some (vI (T 103 p 17)), some (vI (i + 1)), none, none, none, none] (fun k v hk => ?_) rfl ?_
          · match k, hk with
            | 0, hk => exact hk
            | 1, hk => exact hk
            | 2, hk => exact hk
            | 3, hk => exact hk
            | 4, hk => cases hk
            | 5, hk => cases hk
            | 6, hk => cases hk
            | 7, hk => cases hk
            | k + 8, hk => cases hk
          refine j_mono (bc' := (((2048 - U79 190 (U79 103 p 16) (-2)) / 16).toNat)) (bs' := ((4096 - 2 * U79 190 (U79 103 p 16) (-2)).toNat)) (by omega) (by omega) ?_
          have e86 : U79 103 p 17 = T1 103 p 17 := (fU79 103 p 17 rfl).trans (fU73 103 p 17 rfl)
          have e87 : U79 103 p 16 = T1 103 p 16 := (fU79 103 p 16 rfl).trans (fU73 103 p 16 rfl)
          have e88 : U79 103 p 3 = U73 103 p 3 := fU79 103 p 3 rfl
          have e89 : U79 470 p 0 = U73 470 p 0 := fU79 470 p 0 rfl
          have e90 : U79 470 p 1 = U73 470 p 1 := fU79 470 p 1 rfl
          have e91 : U79 191 0 0 = T1 191 0 0 := (fU79 191 0 0 rfl).trans (fU73 191 0 0 rfl)
          refine ih_21 _ ?_ (i + 1) U79 (Nat.le_refl _) ?_ ?_ ?_ ?_ ?_ ?_ ?_ ?_ ?_ ?_ ?_ ?_ ?_ ?_ ?_
          · have hm_21 := hm_21 (); omega
          · exact fr_t (fr_t (fr_t (fr_0 _ _) (fr_s hf_21 rfl)) (fr_s fU73 rfl)) (fr_s fU79 rfl)
          · exact oq_t (oq_i (oT1) qU73o) qU79o
          · exact fun x hx => (lU79 x (by omega)).trans ((fU73 190 x (-2) rfl).trans (lT1 x hx))
          · omega
          · omega
          · omega
          · rw [d9]; exact i4
          · omega
          · intro z9
            have y1 := qU73 (by omega)
            have y2 : U79 470 p 0 = U73 470 p 0 := fU79 470 p 0 rfl
            have y3 : U79 470 p 1 = U73 470 p 1 := fU79 470 p 1 rfl
            omega
          · omega
          · exact fun j a b => (xU79 _ j (fun z => by omega)).trans ((fU73 190 _ j rfl).trans (rr1 j (by omega) b))
          · exact fun x j a b c => (xU79 x j (fun z => by omega)).trans ((fU73 190 x j rfl).trans (xx1 x j a b c))
          · exact fa
          · exact fb
          · exact fc
  refine j_blx (F := fX3) tb_X3 (nn_ _) bk_X3_runAnew_e_0 bs_X3_runAnew_e_0 hz (fun K hK => ?_)
  intro b92 b92b
  intro b93 b93b
  refine bd_i (by omega) ?_
  refine x_nm (fun U94 hU94 => ?_)
  have e95 := up_f hU94
  refine hK 16 [some (vR 103 p), some (vI (T 103 p 15)), some (vI (T 103 p 17)), none, none, none, none, none] [vR 103 p] U94 ?_
  have e96 : U94 103 p 0 = T 103 p 0 := up_j hU94 (by decide) 103 p
  have e97 : U94 401 (T 103 p 0) 9 = T 401 (T 103 p 0) 9 := up_k hU94 (by exact Nat.ne_of_beq_eq_false rfl) (T 103 p 0) 9
  have r98 : U94 401 (U94 103 p 0) 9 = T 401 (T 103 p 0) 9 := by rw [e96]; exact e97
  have e99 : U94 103 p 0 = T 103 p 0 := up_j hU94 (by decide) 103 p
  have e100 : U94 401 (T 103 p 0) 9 = T 401 (T 103 p 0) 9 := up_k hU94 (by exact Nat.ne_of_beq_eq_false rfl) (T 103 p 0) 9
  have r101 : U94 401 (U94 103 p 0) 9 = T 401 (T 103 p 0) 9 := by rw [e99]; exact e100
  have e102 : U94 103 p 0 = T 103 p 0 := up_j hU94 (by decide) 103 p
  refine j_callV (y := yX3_backToBeginning) (Yc := zX3_backToBeginning) (rest := []) [] (ct_X3_backToBeginning_e (T := U94) (ru := ru) (by exact rl_f (ws := [(103, [15])]) hr (fr_u (fr_0 _ _) hU94 rfl) rfl (fun _ => rfl)) (by omega)) cl_X3_168 (qd_c (by decide +kernel)) (nn_ _) rfl (rf_of rfl) (Nat.le_of_ble_eq_true rfl) (Nat.le_of_ble_eq_true rfl) (Nat.le_of_ble_eq_true rfl) rfl ?_
  rintro U103 _ ⟨rfl, fU103, qU103o, qU103, qU103e⟩
  show J_ zX3_runAnew T (po_X3_runAnew_e T p ru) 127 4064 19 _ [] U103
  refine j_blx (F := fX3) tb_X3 (nn_ _) bk_X3_runAnew_e_19 bs_X3_runAnew_e_19 hz (fun K hK => ?_)
  refine hK 21 [some (vR 103 p), some (vI (T 103 p 15)), some (vI (T 103 p 17)), some (vI 0), none, none, none, none] [] U103 ?_
  have e104 : U103 103 p 15 = 0 := (fU103 103 p 15 rfl).trans (up_f hU94)
  have e105 : U103 103 p 17 = T 103 p 17 := (fU103 103 p 17 rfl).trans (up_j hU94 (by decide) 103 p)
  have e106 : U103 103 p 16 = T 103 p 16 := (fU103 103 p 16 rfl).trans (up_j hU94 (by decide) 103 p)
  have e107 : U103 191 0 0 = T 191 0 0 := (fU103 191 0 0 rfl).trans (up_k hU94 (by exact Nat.ne_of_beq_eq_false rfl) 0 0)
  have y108 : U103 103 p 16 = T 103 p 16 := (fU103 103 _ _ rfl).trans (up_j hU94 (by decide) _ _)
  have d9 : U103 190 (U103 103 p 16) (-2) = T 190 (T 103 p 16) (-2) := by rw [y108]; exact (fU103 190 _ _ rfl).trans (up_k hU94 (by exact Nat.ne_of_beq_eq_false rfl) _ _)
  have fa : rs9_ U103 p = (rnH_ ru (bb9_ ru (rs9_ T p)) (hr9_ T (T 103 p 14) (0 : Int).toNat)).1 := by
    show _ = bb9_ ru (rs9_ T p)
    rw [qU103e, rs_n (T := T) (fun k j d => up_g hU94 (fun z => by rcases dk_c d with y | y | y | y | y | y | y | y | y | y | ⟨y, y2 | y2 | y2⟩ <;> omega))]
  have fb : hr9_ U103 (T 103 p 14) (U103 103 p 15).toNat = (rnH_ ru (bb9_ ru (rs9_ T p)) (hr9_ T (T 103 p 14) (0 : Int).toNat)).2.1 := by
    rw [show U103 103 p 15 = 0 by omega]
    rfl
  have fc : U103 103 p 17 - T 103 p 17 = (rnH_ ru (bb9_ ru (rs9_ T p)) (hr9_ T (T 103 p 14) (0 : Int).toNat)).2.2 := by
    show _ = (0 : Int)
    omega
  refine j_mono (bc' := (((2048 - U103 190 (U103 103 p 16) (-2)) / 16).toNat)) (bs' := ((4096 - 2 * U103 190 (U103 103 p 16) (-2)).toNat)) (by omega) (by omega) ?_
  have e109 : U103 103 p 15 = 0 := (fU103 103 p 15 rfl).trans (up_f hU94)
  have e110 : U103 103 p 17 = T 103 p 17 := (fU103 103 p 17 rfl).trans (up_j hU94 (by decide) 103 p)
  have e111 : U103 103 p 16 = T 103 p 16 := (fU103 103 p 16 rfl).trans (up_j hU94 (by decide) 103 p)
  have e112 : U103 191 0 0 = T 191 0 0 := (fU103 191 0 0 rfl).trans (up_k hU94 (by exact Nat.ne_of_beq_eq_false rfl) 0 0)
  refine c_21 _ 0 U103 (Nat.le_refl _) ?_ ?_ ?_ ?_ ?_ ?_ ?_ ?_ ?_ ?_ ?_ ?_ ?_ ?_ ?_
  · exact fr_t (fr_u (fr_0 _ _) hU94 rfl) (fr_s fU103 rfl)
  · exact oq_i (oq_u (oq_r) hU94) qU103o
  · exact fun x hx => (fU103 190 _ _ rfl).trans (up_k hU94 (by exact Nat.ne_of_beq_eq_false rfl) _ _)
  · omega
  · omega
  · omega
  · rw [d9]; exact hz9
  · omega
  · exact fun z9 => qU103.1
  · omega
  · exact fun j _ _ => (fU103 190 _ _ rfl).trans (up_k hU94 (by exact Nat.ne_of_beq_eq_false rfl) _ _)
  · exact fun x j _ _ _ => (fU103 190 _ _ rfl).trans (up_k hU94 (by exact Nat.ne_of_beq_eq_false rfl) _ _)
  · exact fa
  · exact fb
  · exact fc
