theorem bk_X3_writeRow_e_0 : ck_ fX3 none cX3_writeRow 0 [.aload 0, .iload 1, .iconst 4, .imul, .iload 2, .iastore, .aload 0, .iload 1, .iconst 4, .imul, .iconst 1, .iadd, .iload 3, .iastore, .aload 0, .iload 1, .iconst 4, .imul, .iconst 2, .iadd, .iload 4, .iastore, .aload 0, .iload 1, .iconst 4, .imul, .iconst 3, .iadd, .iload 5, .iastore, .return_] 33 = true := qck_r (nn_ _) (by decide +kernel)
theorem bs_X3_writeRow_e_0 {P : Zt → Option Zv → Prop} (K : Int → Zl → List Zv → Zt → Prop) : sx_ K P [.aload 0, .iload 1, .iconst 4, .imul, .iload 2, .iastore, .aload 0, .iload 1, .iconst 4, .imul, .iconst 1, .iadd, .iload 3, .iastore, .aload 0, .iload 1, .iconst 4, .imul, .iconst 2, .iadd, .iload 4, .iastore, .aload 0, .iload 1, .iconst 4, .imul, .iconst 3, .iadd, .iload 5, .iastore, .return_] 33 = x_aload 0 (x_iload 1 (x_iconst 4 (x_imul (x_iload 2 (x_iastore (x_aload 0 (x_iload 1 (x_iconst 4 (x_imul (x_iconst 1 (x_iadd (x_iload 3 (x_iastore (x_aload 0 (x_iload 1 (x_iconst 4 (x_imul (x_iconst 2 (x_iadd (x_iload 4 (x_iastore (x_aload 0 (x_iload 1 (x_iconst 4 (x_imul (x_iconst 3 (x_iadd (x_iload 5 (x_iastore (x_return_ P)))))))))))))))))))))))))))))) := ((xe_aload 0).trans (congrArg (x_aload 0) ((xe_iload 1).trans (congrArg (x_iload 1) ((xe_iconst 4).trans (congrArg (x_iconst 4) ((xe_imul).trans (congrArg (x_imul) ((xe_iload 2).trans (congrArg (x_iload 2) ((xe_iastore).trans (congrArg (x_iastore) ((xe_aload 0).trans (congrArg (x_aload 0) ((xe_iload 1).trans (congrArg (x_iload 1) ((xe_iconst 4).trans (congrArg (x_iconst 4) ((xe_imul).trans (congrArg (x_imul) ((xe_iconst 1).trans (congrArg (x_iconst 1) ((xe_iadd).trans (congrArg (x_iadd) ((xe_iload 3).trans (congrArg (x_iload 3) ((xe_iastore).trans (congrArg (x_iastore) ((xe_aload 0).trans (congrArg (x_aload 0) ((xe_iload 1).trans (congrArg (x_iload 1) ((xe_iconst 4).trans (congrArg (x_iconst 4) ((xe_imul).trans (congrArg (x_imul) ((xe_iconst 2).trans (congrArg (x_iconst 2) ((xe_iadd).trans (congrArg (x_iadd) ((xe_iload 4).trans (congrArg (x_iload 4) ((xe_iastore).trans (congrArg (x_iastore) ((xe_aload 0).trans (congrArg (x_aload 0) ((xe_iload 1).trans (congrArg (x_iload 1) ((xe_iconst 4).trans (congrArg (x_iconst 4) ((xe_imul).trans (congrArg (x_imul) ((xe_iconst 3).trans (congrArg (x_iconst 3) ((xe_iadd).trans (congrArg (x_iadd) ((xe_iload 5).trans (congrArg (x_iload 5) ((xe_iastore).trans (congrArg (x_iastore) (xe_return_)))))))))))))))))))))))))))))))))))))))))))))))))))))))))))))
abbrev po_X3_writeRow_e (T : Zt) (a : Int) (i k s v w : Int) : Zt → Option Zv → Prop := fun T' r => r = none ∧ fr_ [(190, [])] T T' ∧ (∀ x, T' 190 x (-2) = T 190 x (-2)) ∧ (∀ x j, ¬ (x = a ∧ i * 4 ≤ j ∧ j < i * 4 + 4) → T' 190 x j = T 190 x j) ∧ ra9_ T' a i = (k, s, v, w)
set_option maxHeartbeats 4000000 in
theorem ct_X3_writeRow_e {T : Zt} {a : Int} {i k s v w : Int} (h1 : 0 ≤ i ∧ i ≤ 1000 ∧ i * 4 + 3 < T 190 a (-2)) : Ct_ yX3_writeRow zX3_writeRow T [vR 190 a, vI i, vI k, vI s, vI v, vI w] (po_X3_writeRow_e T a i k s v w) := by
  refine ct_of pn_3 rfl rfl (Nat.le_of_ble_eq_true rfl) (fun hT hav => ?_)
  have hr_i : -2147483648 ≤ i ∧ i ≤ 2147483647 := hav (vI i) (List.mem_cons_of_mem _ List.mem_cons_self)
  have hr_k : -2147483648 ≤ k ∧ k ≤ 2147483647 := hav (vI k) (List.mem_cons_of_mem _ (List.mem_cons_of_mem _ List.mem_cons_self))
  have hr_s : -2147483648 ≤ s ∧ s ≤ 2147483647 := hav (vI s) (List.mem_cons_of_mem _ (List.mem_cons_of_mem _ (List.mem_cons_of_mem _ List.mem_cons_self)))
  have hr_v : -2147483648 ≤ v ∧ v ≤ 2147483647 := hav (vI v) (List.mem_cons_of_mem _ (List.mem_cons_of_mem _ (List.mem_cons_of_mem _ (List.mem_cons_of_mem _ List.mem_cons_self))))
  have hr_w : -2147483648 ≤ w ∧ w ≤ 2147483647 := hav (vI w) (List.mem_cons_of_mem _ (List.mem_cons_of_mem _ (List.mem_cons_of_mem _ (List.mem_cons_of_mem _ (List.mem_cons_of_mem _ List.mem_cons_self)))))
  have hz : zX3_writeRow.2.2.2.1 = some .boolean → ∀ (T' : Zt) (x : Int), po_X3_writeRow_e T a i k s v w T' (some (vI x)) → 0 ≤ x ∧ x ≤ 1 := fun h => by cases h
  show J_ zX3_writeRow T (po_X3_writeRow_e T a i k s v w) 0 0 0 [some (vR 190 a), some (vI i), some (vI k), some (vI s), some (vI v), some (vI w)] [] T
  refine j_blx (F := fX3) tb_X3 (nn_ _) bk_X3_writeRow_e_0 bs_X3_writeRow_e_0 hz (fun K hK => ?_)
  refine rg_i (by omega) ?_
  refine iy_i (by omega) (by omega) ?_
  refine x_nm (fun U1 hU1 => ?_)
  have e2 := up_f hU1
  refine rg_i (by omega) ?_
  refine rg_i (by omega) ?_
  have y3 : U1 190 a (-2) = T 190 a (-2) := up_g hU1 (fun z => by omega)
  refine iy_i (by omega) (by omega) ?_
  refine x_nm (fun U4 hU4 => ?_)
  have e5 := up_f hU4
  refine rg_i (by omega) ?_
  refine rg_i (by omega) ?_
  have y6 : U4 190 a (-2) = T 190 a (-2) := (up_g hU4 (fun z => by omega)).trans (up_g hU1 (fun z => by omega))
  refine iy_i (by omega) (by omega) ?_
  refine x_nm (fun U7 hU7 => ?_)
  have e8 := up_f hU7
  refine rg_i (by omega) ?_
  refine rg_i (by omega) ?_
  have y9 : U7 190 a (-2) = T 190 a (-2) := (up_g hU7 (fun z => by omega)).trans ((up_g hU4 (fun z => by omega)).trans (up_g hU1 (fun z => by omega)))
  refine iy_i (by omega) (by omega) ?_
  refine x_nm (fun U10 hU10 => ?_)
  have e11 := up_f hU10
  refine (show po_X3_writeRow_e T a i k s v w U10 (none) from ?_)
  have g0 : U10 190 a (i * 4) = k := (up_g hU10 (fun z => by omega)).trans ((up_g hU7 (fun z => by omega)).trans ((up_g hU4 (fun z => by omega)).trans (up_f hU1)))
  have g1 : U10 190 a ((i * 4) + 1) = s := (up_g hU10 (fun z => by omega)).trans ((up_g hU7 (fun z => by omega)).trans (up_f hU4))
  have g2 : U10 190 a ((i * 4) + 2) = v := (up_g hU10 (fun z => by omega)).trans (up_f hU7)
  have g3 : U10 190 a ((i * 4) + 3) = w := up_f hU10
  refine ⟨rfl, fr_u (fr_u (fr_u (fr_u (fr_0 _ _) hU1 rfl) hU4 rfl) hU7 rfl) hU10 rfl, fun x => (up_g hU10 (fun z => by omega)).trans ((up_g hU7 (fun z => by omega)).trans ((up_g hU4 (fun z => by omega)).trans (up_g hU1 (fun z => by omega)))), fun x j hx => (up_g hU10 (fun z => hx (by omega))).trans ((up_g hU7 (fun z => hx (by omega))).trans ((up_g hU4 (fun z => hx (by omega))).trans (up_g hU1 (fun z => hx (by omega))))), ?_⟩
  show (U10 190 a (i * 4), U10 190 a (i * 4 + 1), U10 190 a (i * 4 + 2), U10 190 a (i * 4 + 3)) = (k, s, v, w)
  rw [g0, g1, g2, g3]
