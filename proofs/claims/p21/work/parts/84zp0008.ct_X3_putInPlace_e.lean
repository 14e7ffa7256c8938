theorem bk_X3_putInPlace_e_0 : ck_ fX3 none cX3_putInPlace 0 [.aload 0, .tableswitch 0 3 14 #[], .iload 1, .iload 2, .iload 3, .iload 4, .iload 5] 11 = true := qck_r (nn_ _) (by decide +kernel)
theorem bs_X3_putInPlace_e_0 {P : Zt → Option Zv → Prop} (K : Int → Zl → List Zv → Zt → Prop) : sx_ K P [.aload 0, .tableswitch 0 3 14 #[], .iload 1, .iload 2, .iload 3, .iload 4, .iload 5] 11 = x_aload 0 (x_g3 103 190 14 (x_iload 1 (x_iload 2 (x_iload 3 (x_iload 4 (x_iload 5 (K 11))))))) := ((xe_aload 0).trans (congrArg (x_aload 0) ((xe_g3 (kk := 103) rfl tl_3_14).trans (congrArg (x_g3 103 190 14) ((xe_iload 1).trans (congrArg (x_iload 1) ((xe_iload 2).trans (congrArg (x_iload 2) ((xe_iload 3).trans (congrArg (x_iload 3) ((xe_iload 4).trans (congrArg (x_iload 4) ((xe_iload 5).trans (congrArg (x_iload 5) xe_nil))))))))))))))
theorem bk_X3_putInPlace_e_14 : ck_ fX3 none cX3_putInPlace 14 [.return_] 15 = true := qck_r (nn_ _) (by decide +kernel)
theorem bs_X3_putInPlace_e_14 {P : Zt → Option Zv → Prop} (K : Int → Zl → List Zv → Zt → Prop) : sx_ K P [.return_] 15 = x_return_ P := (xe_return_)
abbrev po_X3_putInPlace_e (T : Zt) (p : Int) (i k s v w : Int) : Zt → Option Zv → Prop := fun T' r => r = none ∧ fr_ [(190, [])] T T' ∧ (∀ x, T' 190 x (-2) = T 190 x (-2)) ∧ (∀ x j, x ≠ T 103 p 14 → T' 190 x j = T 190 x j) ∧ hr9_ T' (T 103 p 14) (T 103 p 15).toNat = (hr9_ T (T 103 p 14) (T 103 p 15).toNat).set i.toNat (k, s, v, w)
set_option maxHeartbeats 4000000 in
theorem ct_X3_putInPlace_e {T : Zt} {p : Int} {i k s v w : Int} (h1 : 0 ≤ i ∧ i ≤ 1000 ∧ i * 4 + 3 < T 190 (T 103 p 14) (-2) ∧ i < T 103 p 15) : Ct_ yX3_putInPlace zX3_putInPlace T [vR 103 p, vI i, vI k, vI s, vI v, vI w] (po_X3_putInPlace_e T p i k s v w) := by
  refine ct_of pn_3 rfl rfl (Nat.le_of_ble_eq_true rfl) (fun hT hav => ?_)
  have hr_i : -2147483648 ≤ i ∧ i ≤ 2147483647 := hav (vI i) (List.mem_cons_of_mem _ List.mem_cons_self)
  have hr_k : -2147483648 ≤ k ∧ k ≤ 2147483647 := hav (vI k) (List.mem_cons_of_mem _ (List.mem_cons_of_mem _ List.mem_cons_self))
  have hr_s : -2147483648 ≤ s ∧ s ≤ 2147483647 := hav (vI s) (List.mem_cons_of_mem _ (List.mem_cons_of_mem _ (List.mem_cons_of_mem _ List.mem_cons_self)))
  have hr_v : -2147483648 ≤ v ∧ v ≤ 2147483647 := hav (vI v) (List.mem_cons_of_mem _ (List.mem_cons_of_mem _ (List.mem_cons_of_mem _ (List.mem_cons_of_mem _ List.mem_cons_self))))
  have hr_w : -2147483648 ≤ w ∧ w ≤ 2147483647 := hav (vI w) (List.mem_cons_of_mem _ (List.mem_cons_of_mem _ (List.mem_cons_of_mem _ (List.mem_cons_of_mem _ (List.mem_cons_of_mem _ List.mem_cons_self)))))
  have hz : zX3_putInPlace.2.2.2.1 = some .boolean → ∀ (T' : Zt) (x : Int), po_X3_putInPlace_e T p i k s v w T' (some (vI x)) → 0 ≤ x ∧ x ≤ 1 := fun h => by cases h
  show J_ zX3_putInPlace T (po_X3_putInPlace_e T p i k s v w) 0 0 0 [some (vR 103 p), some (vI i), some (vI k), some (vI s), some (vI v), some (vI w)] [] T
  refine j_blx (F := fX3) tb_X3 (nn_ _) bk_X3_putInPlace_e_0 bs_X3_putInPlace_e_0 hz (fun K hK => ?_)
  refine hK 11 _ [vI w, vI v, vI s, vI k, vI i, vR 190 (T 103 p 14)] T ?_
  refine j_callS (y := yX3_writeRow) (Yc := zX3_writeRow) (rest := []) [vR 190 (T 103 p 14), vI i, vI k, vI s, vI v, vI w] (ct_X3_writeRow_e (T := T) (by omega)) cl_X3_161 (qd_c (by decide +kernel)) (nn_ _) rfl (rf_of rfl) (Nat.le_of_ble_eq_true rfl) (Nat.le_of_ble_eq_true rfl) (Nat.le_of_ble_eq_true rfl) rfl ?_
  rintro U2 _ ⟨rfl, fU2, lU2, wU2, rU2⟩
  show J_ zX3_putInPlace T (po_X3_putInPlace_e T p i k s v w) 0 0 14 _ [] U2
  refine j_blx (F := fX3) tb_X3 (nn_ _) bk_X3_putInPlace_e_14 bs_X3_putInPlace_e_14 hz (fun K hK => ?_)
  refine (show po_X3_putInPlace_e T p i k s v w U2 (none) from ?_)
  exact ⟨rfl, fU2, lU2, fun x j hx => wU2 x j (fun z => hx z.1), hrw_s (by omega) (by omega) (fun j hj => wU2 _ j (fun z => hj z.2)) rU2⟩
