theorem bk_X3_writeRow_e_0 : ck_ fX3 none cX3_writeRow 0 [.aload 0, .iload 1, .iconst 4, .imul, .iload 2, .iastore, .aload 0, .iload 1, .iconst 4, .imul, .iconst 1, .iadd, .iload 3, .iastore, .aload 0, .iload 1, .iconst 4, .imul, .iconst 2, .iadd, .iload 4, .iastore, .aload 0, .iload 1, .iconst 4, .imul, .iconst 3, .iadd, .iload 5, .iastore, .return_] 33 = true := qck_r (nn_ _) (by decide +kernel)
theorem bs_X3_writeRow_e_0 {P : Zt → Option Zv → Prop} (K : Int → Zl → List Zv → Zt → Prop) : sx_ K P [.aload 0, .iload 1, .iconst 4, .imul, .iload 2, .iastore, .aload 0, .iload 1, .iconst 4, .imul, .iconst 1, .iadd, .iload 3, .iastore, .aload 0, .iload 1, .iconst 4, .imul, .iconst 2, .iadd, .iload 4, .iastore, .aload 0, .iload 1, .iconst 4, .imul, .iconst 3, .iadd, .iload 5, .iastore, .return_] 33 = x_aload 0 (x_iload 1 (x_iconst 4 (x_imul (x_iload 2 (x_iastore (x_aload 0 (x_iload 1 (x_iconst 4 (x_imul (x_iconst 1 (x_iadd (x_iload 3 (x_iastore (x_aload 0 (x_iload 1 (x_iconst 4 (x_imul (x_iconst 2 (x_iadd (x_iload 4 (x_iastore (x_aload 0 (x_iload 1 (x_iconst 4 (x_imul (x_iconst 3 (x_iadd (x_iload 5 (x_iastore (x_return_ P)))))))))))))))))))))))))))))) := ((xe_aload 0).trans (congrArg (x_aload 0) ((xe_iload 1).trans (congrArg (x_iload 1) ((xe_iconst 4).trans (congrArg (x_iconst 4) ((xe_imul).trans (congrArg (x_imul) ((xe_iload 2).trans (congrArg (x_iload 2) ((xe_iastore).trans (congrArg (x_iastore) ((xe_aload 0).trans (congrArg (x_aload 0) ((xe_iload 1).trans (congrArg (x_iload 1) ((xe_iconst 4).trans (congrArg (x_iconst 4) ((xe_imul).trans (congrArg (x_imul) ((xe_iconst 1).trans (congrArg (x_iconst 1) ((xe_iadd).trans (congrArg (x_iadd) ((xe_iload 3).trans (congrArg (x_iload 3) ((xe_iastore).trans (congrArg (x_iastore) ((xe_aload 0).trans (congrArg (x_aload 0) ((xe_iload 1).trans (congrArg (x_iload 1) ((xe_iconst 4).trans (congrArg (x_iconst 4) ((xe_imul).trans (congrArg (x_imul) ((xe_iconst 2).trans (congrArg (x_iconst 2) ((xe_iadd).trans (congrArg (x_iadd) ((xe_iload 4).trans (congrArg (x_iload 4) ((xe_iastore).trans (congrArg (x_iastore) ((xe_aload 0).trans (congrArg (x_aload 0) ((xe_iload 1).trans (congrArg (x_iload 1) ((xe_iconst 4).trans (congrArg (x_iconst 4) ((xe_imul).trans (congrArg (x_imul) ((xe_iconst 3).trans (congrArg (x_iconst 3) ((xe_iadd).trans (congrArg (x_iadd) ((xe_iload 5).trans (congrArg (x_iload 5) ((xe_iastore).trans (congrArg (x_iastore) (xe_return_)))))))))))))))))))))))))))))))))))))))))))))))))))))))))))))
abbrev po_X3_writeRow_e (T : Zt) (a : Int) (i k s v w : Int) : Zt → Option Zv → Prop := fun T' r => r = none ∧ fr_ [(190, [])] T T' ∧ (∀ x, T' 190 x (-2) = T 190 x (-2)) ∧ (∀ x j, ¬ (x = a ∧ i * 4 ≤ j ∧ j < i * 4 + 4) → T' 190 x j = T 190 x j) ∧ ra9_ T' a i = (k, s, v, w)
set_option maxHeartbeats 4000000 in
theorem ct_X3_writeRow_e {T : Zt} {a : Int} {i k s v w : Int} (h1 : 0 ≤ i ∧ i ≤ 1000 ∧ i * 4 + 3 < T 190 a (-2)) : Ct_ yX3_writeRow zX3_writeRow T [vR 190 a, vI i, vI k, vI s, vI v, vI w] (po_X3_writeRow_e T a i k s v w) := by
  refine ct_of pn_3 rfl rfl (Nat.le_of_ble_eq_true rfl) (fun hT hav => ?_)
  have hr_i : -2147483648 ≤ i ∧ i ≤ 2147483647 := hav (vI i) (List.mem_cons_of_mem _ List.mem_cons_self)
  have hr_k : -2147483648 ≤ k ∧ k ≤ 2147483647 := hav (vI k) (List.mem_cons_of_mem _ (List.mem_cons_of_mem _ List.mem_cons_self))
  have hr_s : -2147483648 ≤ s ∧ s ≤ 2147483647 := hav (vI s) (List.mem_cons_of_mem _ (List.mem_cons_of_mem _ (List.mem_cons_of_mem _ List.mem_cons_self)))
  have hr_v : -2147483648 ≤ v ∧ v ≤ 2147483647 := hav (vI v) (List.mem_cons_of_mem _ (List.mem_cons_of_mem _ (List.mem_cons_of_mem _ (List.mem_cons_of_mem _ List.mem_cons_self))))
  have hr_w : -2147483648 ≤ w ∧ w ≤ 2147483647 := hav (vI w) (List.mem_cons_of_mem _ (List.mem_cons_of_mem _ (List.mem_cons_of_mem _ (List.mem_cons_of_mem _ (List.mem_cons_of_mem _ List.mem_cons_self)))))
  have hz : zX3_writeRow.2.2.2.1 = some .boolean → ∀ (T' : Zt) (x : Int), po_X3_writeRow_e T a i k s v w T' (some (vI x)) → 0 ≤ x ∧ x ≤ 1 := fun h => by cases h
  show J_ zX3_writeRow T (po_X3_writeRow_e T a i k s v w) 0 0 0 [some (vR 190 a), some (vI i), some (vI k), some (vI s), some (vI v), some (vI w)] [] T
  refine j_blx (F := fX3) tb_X3 (nn_ _) bk_X3_writeRow_e_0 bs_X3_writeRow_e_0 hz (fun K hK => ?_)
  refine rg_i (by omega) ?_
  refine iy_i (by omega) (by omega) ?_
  refine x_nm (fun U1 hU1 => ?_)
  have e2 := up_f hU1
  refine rg_i (by omega) ?_
  refine rg_i (by omega) ?_
  have y3 : U1 190 a (-2) = T 190 a (-2) := up_g hU1 (fun z => by omega)
  refine iy_i (by omega) (by omega) ?_
  refine x_nm (fun U4 hU4 => ?_)
  have e5 := up_f hU4
  refine rg_i (by omega) ?_
  refine rg_i (by omega) ?_
  have y6 : U4 190 a (-2) = T 190 a (-2) := (up_g hU4 (fun z => by omega)).trans (up_g hU1 (fun z => by omega))
  refine iy_i (by omega) (by omega) ?_
  refine x_nm (fun U7 hU7 => ?_)
  have e8 := up_f hU7
  refine rg_i (by omega) ?_
  refine rg_i (by omega) ?_
  have y9 : U7 190 a (-2) = T 190 a (-2) := (up_g hU7 (fun z => by omega)).trans ((up_g hU4 (fun z => by omega)).trans (up_g hU1 (fun z => by omega)))
  refine iy_i (by omega) (by omega) ?_
  refine x_nm (fun U10 hU10 => ?_)
  have e11 := up_f hU10
  refine (show po_X3_writeRow_e T a i k s v w U10 (none) from ?_)
  have g0 : U10 190 a (i * 4) = k := (up_g hU10 (fun z => by omega)).trans ((up_g hU7 (fun z => by omega)).trans ((up_g hU4 (fun z => by omega)).trans (up_f hU1)))
  have g1 : U10 190 a ((i * 4) + 1) = s := (up_g hU10 (fun z => by omega)).trans ((up_g hU7 (fun z => by omega)).trans (up_f hU4))
  have g2 : U10 190 a ((i * 4) + 2) = v := (up_g hU10 (fun z => by omega)).trans (up_f hU7)
  have g3 : U10 190 a ((i * 4) + 3) = w := up_f hU10
  refine ⟨rfl, fr_u (fr_u (fr_u (fr_u (fr_0 _ _) hU1 rfl) hU4 rfl) hU7 rfl) hU10 rfl, fun x => (up_g hU10 (fun z => by omega)).trans ((up_g hU7 (fun z => by omega)).trans ((up_g hU4 (fun z => by omega)).trans (up_g hU1 (fun z => by omega)))), fun x j hx => (up_g hU10 (fun z => hx (by omega))).trans ((up_g hU7 (fun z => hx (by omega))).trans ((up_g hU4 (fun z => hx (by omega))).trans (up_g hU1 (fun z => hx (by omega))))), ?_⟩
  show (U10 190 a (i * 4), U10 190 a (i * 4 + 1), U10 190 a (i * 4 + 2), U10 190 a (i * 4 + 3)) = (k, s, v, w)
  rw [g0, g1, g2, g3]
theorem bk_X3_keepRow_e_0 : ck_ fX3 none cX3_keepRow 0 [.aload 0, .tableswitch 0 3 15 #[], .iconst 4, .imul, .iconst 4, .iadd, .aload 0, .tableswitch 0 3 14 #[], .arraylength, .if_icmp .le 34, .aload 0, .aload 0, .tableswitch 0 3 14 #[], .aload 0, .tableswitch 0 3 14 #[], .arraylength, .iconst 2, .imul] 28 = true := qck_r (nn_ _) (by decide +kernel)
theorem bs_X3_keepRow_e_0 {P : Zt → Option Zv → Prop} (K : Int → Zl → List Zv → Zt → Prop) : sx_ K P [.aload 0, .tableswitch 0 3 15 #[], .iconst 4, .imul, .iconst 4, .iadd, .aload 0, .tableswitch 0 3 14 #[], .arraylength, .if_icmp .le 34, .aload 0, .aload 0, .tableswitch 0 3 14 #[], .aload 0, .tableswitch 0 3 14 #[], .arraylength, .iconst 2, .imul] 28 = x_aload 0 (x_g0 103 15 0 3000 (x_iconst 4 (x_imul (x_iconst 4 (x_iadd (x_aload 0 (x_g3 103 190 14 (x_arraylength (x_if_icmp .le 34 K (x_aload 0 (x_aload 0 (x_g3 103 190 14 (x_aload 0 (x_g3 103 190 14 (x_arraylength (x_iconst 2 (x_imul (K 28)))))))))))))))))) := ((xe_aload 0).trans (congrArg (x_aload 0) ((xe_g0 (kk := 103) rfl tl_3_15).trans (congrArg (x_g0 103 15 0 3000) ((xe_iconst 4).trans (congrArg (x_iconst 4) ((xe_imul).trans (congrArg (x_imul) ((xe_iconst 4).trans (congrArg (x_iconst 4) ((xe_iadd).trans (congrArg (x_iadd) ((xe_aload 0).trans (congrArg (x_aload 0) ((xe_g3 (kk := 103) rfl tl_3_14).trans (congrArg (x_g3 103 190 14) ((xe_arraylength).trans (congrArg (x_arraylength) ((xe_if_icmp .le 34).trans (congrArg (x_if_icmp .le 34 K) ((xe_aload 0).trans (congrArg (x_aload 0) ((xe_aload 0).trans (congrArg (x_aload 0) ((xe_g3 (kk := 103) rfl tl_3_14).trans (congrArg (x_g3 103 190 14) ((xe_aload 0).trans (congrArg (x_aload 0) ((xe_g3 (kk := 103) rfl tl_3_14).trans (congrArg (x_g3 103 190 14) ((xe_arraylength).trans (congrArg (x_arraylength) ((xe_iconst 2).trans (congrArg (x_iconst 2) ((xe_imul).trans (congrArg (x_imul) xe_nil))))))))))))))))))))))))))))))))))))
theorem bk_X3_keepRow_e_34 : ck_ fX3 none cX3_keepRow 34 [.aload 0, .tableswitch 0 3 14 #[], .aload 0, .tableswitch 0 3 15 #[], .iload 1, .iload 2, .iload 3, .iload 4] 47 = true := qck_r (nn_ _) (by decide +kernel)
theorem bs_X3_keepRow_e_34 {P : Zt → Option Zv → Prop} (K : Int → Zl → List Zv → Zt → Prop) : sx_ K P [.aload 0, .tableswitch 0 3 14 #[], .aload 0, .tableswitch 0 3 15 #[], .iload 1, .iload 2, .iload 3, .iload 4] 47 = x_aload 0 (x_g3 103 190 14 (x_aload 0 (x_g0 103 15 0 3000 (x_iload 1 (x_iload 2 (x_iload 3 (x_iload 4 (K 47)))))))) := ((xe_aload 0).trans (congrArg (x_aload 0) ((xe_g3 (kk := 103) rfl tl_3_14).trans (congrArg (x_g3 103 190 14) ((xe_aload 0).trans (congrArg (x_aload 0) ((xe_g0 (kk := 103) rfl tl_3_15).trans (congrArg (x_g0 103 15 0 3000) ((xe_iload 1).trans (congrArg (x_iload 1) ((xe_iload 2).trans (congrArg (x_iload 2) ((xe_iload 3).trans (congrArg (x_iload 3) ((xe_iload 4).trans (congrArg (x_iload 4) xe_nil))))))))))))))))
theorem bk_X3_keepRow_e_50 : ck_ fX3 none cX3_keepRow 50 [.aload 0, .dup, .tableswitch 0 3 15 #[], .iconst 1, .iadd, .tableswitch 1 3 15 #[], .return_] 61 = true := qck_r (nn_ _) (by decide +kernel)
theorem bs_X3_keepRow_e_50 {P : Zt → Option Zv → Prop} (K : Int → Zl → List Zv → Zt → Prop) : sx_ K P [.aload 0, .dup, .tableswitch 0 3 15 #[], .iconst 1, .iadd, .tableswitch 1 3 15 #[], .return_] 61 = x_aload 0 (x_dup (x_g0 103 15 0 3000 (x_iconst 1 (x_iadd (x_p 103 15 0 3000 (x_return_ P)))))) := ((xe_aload 0).trans (congrArg (x_aload 0) ((xe_dup).trans (congrArg (x_dup) ((xe_g0 (kk := 103) rfl tl_3_15).trans (congrArg (x_g0 103 15 0 3000) ((xe_iconst 1).trans (congrArg (x_iconst 1) ((xe_iadd).trans (congrArg (x_iadd) ((xe_p (kk := 103) rfl tl_3_15).trans (congrArg (x_p 103 15 0 3000) (xe_return_)))))))))))))
abbrev po_X3_keepRow_e (T : Zt) (p : Int) (k s v w : Int) : Zt → Option Zv → Prop := fun T' r => r = none ∧ fr_ [(103, [14, 15]), (190, []), (191, [0])] T T' ∧ (oq_ T T' p ∧ T' 103 p 15 = T 103 p 15 + 1 ∧ (∀ x, x < T 191 0 0 → T' 190 x (-2) = T 190 x (-2)) ∧ T 191 0 0 ≤ T' 191 0 0 ∧ T' 191 0 0 ≤ T 191 0 0 + 1 ∧ lz_ (T' 190 (T' 103 p 14) (-2)) ∧ T' 103 p 14 < T' 191 0 0 ∧ 4 * (T 103 p 15 + 1) ≤ T' 190 (T' 103 p 14) (-2) ∧ T' 190 (T' 103 p 14) (-2) ≤ 2 * T 190 (T 103 p 14) (-2) ∧ (∀ x j, x < T 191 0 0 → x ≠ T 103 p 14 → T' 190 x j = T 190 x j) ∧ (T' 103 p 14 = T 103 p 14 ∨ T' 103 p 14 = T 191 0 0) ∧ hr9_ T' (T' 103 p 14) (T' 103 p 15).toNat = hr9_ T (T 103 p 14) (T 103 p 15).toNat ++ [(k, s, v, w)])
set_option maxHeartbeats 4000000 in
theorem ct_X3_keepRow_e {T : Zt} {p : Int} {k s v w : Int} (h1 : 0 ≤ T 103 p 15 ∧ T 103 p 15 < 512 ∧ 4 * T 103 p 15 ≤ T 190 (T 103 p 14) (-2)) (h2 : T 103 p 14 < T 191 0 0 ∧ T 191 0 0 ≤ 2000000000 ∧ -2147483648 ≤ T 103 p 14) (hz9 : lz_ (T 190 (T 103 p 14) (-2))) : Ct_ yX3_keepRow zX3_keepRow T [vR 103 p, vI k, vI s, vI v, vI w] (po_X3_keepRow_e T p k s v w) := by
  refine ct_of pn_3 rfl rfl (Nat.le_of_ble_eq_true rfl) (fun hT hav => ?_)
  have hr_k : -2147483648 ≤ k ∧ k ≤ 2147483647 := hav (vI k) (List.mem_cons_of_mem _ List.mem_cons_self)
  have hr_s : -2147483648 ≤ s ∧ s ≤ 2147483647 := hav (vI s) (List.mem_cons_of_mem _ (List.mem_cons_of_mem _ List.mem_cons_self))
  have hr_v : -2147483648 ≤ v ∧ v ≤ 2147483647 := hav (vI v) (List.mem_cons_of_mem _ (List.mem_cons_of_mem _ (List.mem_cons_of_mem _ List.mem_cons_self)))
  have hr_w : -2147483648 ≤ w ∧ w ≤ 2147483647 := hav (vI w) (List.mem_cons_of_mem _ (List.mem_cons_of_mem _ (List.mem_cons_of_mem _ (List.mem_cons_of_mem _ List.mem_cons_self))))
  have hz : zX3_keepRow.2.2.2.1 = some .boolean → ∀ (T' : Zt) (x : Int), po_X3_keepRow_e T p k s v w T' (some (vI x)) → 0 ≤ x ∧ x ≤ 1 := fun h => by cases h
  have hb9 := lz_b hz9
  show J_ zX3_keepRow T (po_X3_keepRow_e T p k s v w) 1 2048 0 [some (vR 103 p), some (vI k), some (vI s), some (vI v), some (vI w)] [] T
  refine j_blx (F := fX3) tb_X3 (nn_ _) bk_X3_keepRow_e_0 bs_X3_keepRow_e_0 hz (fun K hK => ?_)
  intro b1 b1b
  refine rg_i (by omega) ?_
  refine rg_i (by omega) ?_
  intro b3 b3b
  refine And.intro (fun c4 => ?_) (fun c4 => ?_)
  · refine hK 34 _ [] T ?_
    refine j_blx (F := fX3) tb_X3 (nn_ _) bk_X3_keepRow_e_34 bs_X3_keepRow_e_34 hz (fun K hK => ?_)
    intro b6 b6b
    refine hK 47 _ [vI w, vI v, vI s, vI k, vI (T 103 p 15), vR 190 (T 103 p 14)] T ?_
    refine j_callS (y := yX3_writeRow) (Yc := zX3_writeRow) (rest := []) [vR 190 (T 103 p 14), vI (T 103 p 15), vI k, vI s, vI v, vI w] (ct_X3_writeRow_e (T := T) (by omega)) cl_X3_161 (qd_c (by decide +kernel)) (nn_ _) rfl (rf_of rfl) (Nat.le_of_ble_eq_true rfl) (Nat.le_of_ble_eq_true rfl) (Nat.le_of_ble_eq_true rfl) rfl ?_
    rintro U7 _ ⟨rfl, fU7, lU7, wU7, rU7⟩
    show J_ zX3_keepRow T (po_X3_keepRow_e T p k s v w) 1 2048 50 _ [] U7
    refine j_blx (F := fX3) tb_X3 (nn_ _) bk_X3_keepRow_e_50 bs_X3_keepRow_e_50 hz (fun K hK => ?_)
    intro b8 b8b
    have e9 : U7 103 p 15 = T 103 p 15 := fU7 103 p 15 rfl
    rw [e9] at b8 b8b ⊢
    refine rg_i (by omega) ?_
    refine bd_i (by omega) ?_
    refine x_nm (fun U10 hU10 => ?_)
    have e11 := up_f hU10
    refine (show po_X3_keepRow_e T p k s v w U10 (none) from ?_)
    have e12 : U10 103 p 15 = (T 103 p 15) + 1 := up_f hU10
    have e13 : U10 103 p 14 = T 103 p 14 := (up_j hU10 (by decide) 103 p).trans (fU7 103 p 14 rfl)
    have e14 : U10 191 0 0 = T 191 0 0 := (up_k hU10 (by exact Nat.ne_of_beq_eq_false rfl) 0 0).trans (fU7 191 0 0 rfl)
    have e15 : U10 103 p 14 = T 103 p 14 := (up_j hU10 (by decide) 103 p).trans (fU7 103 p 14 rfl)
    have e16 : U10 103 p 15 = (T 103 p 15) + 1 := up_f hU10
    have d1 : U10 103 p 14 = T 103 p 14 := by omega
    have d2 : U10 190 (U10 103 p 14) (-2) = T 190 (T 103 p 14) (-2) := by rw [d1]; exact (up_k hU10 (by exact Nat.ne_of_beq_eq_false rfl) _ (-2)).trans (lU7 _)
    have e17 : U10 191 0 0 = T 191 0 0 := (up_k hU10 (by exact Nat.ne_of_beq_eq_false rfl) 0 0).trans (fU7 191 0 0 rfl)
    have d6 : lz_ (U10 190 (U10 103 p 14) (-2)) := by rw [d2]; exact hz9
    have b1 : ra9_ U10 (U10 103 p 14) (T 103 p 15) = (k, s, v, w) := by
      rw [d1, ra_k (T := U7) (fun _ => up_k hU10 (by exact Nat.ne_of_beq_eq_false rfl) _ _)]
      exact rU7
    have b2 : hr9_ U10 (U10 103 p 14) (U10 103 p 15).toNat = hr9_ T (T 103 p 14) (T 103 p 15).toNat ++ [(k, s, v, w)] := hrw_k (by omega) (by omega) (fun j j0 j1 => by
      rw [d1]
      exact (up_k hU10 (by exact Nat.ne_of_beq_eq_false rfl) _ _).trans (wU7 _ _ (fun z => by omega))) b1
    exact ⟨rfl, fr_u (fr_t (fr_0 _ _) (fr_s fU7 rfl)) hU10 rfl, oq_u (oq_1 (oq_r) fU7) hU10, by omega, fun x hx => (up_k hU10 (by exact Nat.ne_of_beq_eq_false rfl) _ (-2)).trans (lU7 _), by omega, by omega, d6, by omega, by omega, by omega, fun x j h1 h2 => (up_k hU10 (by exact Nat.ne_of_beq_eq_false rfl) _ _).trans (wU7 _ _ (fun z => by omega)), by omega, b2⟩
  · have hg9 : T 190 (T 103 p 14) (-2) ≤ 1024 := lz_h hz9 (by omega)
    intro b20 b20b
    refine rg_i (by omega) ?_
    refine hK 28 _ [vI ((T 190 (T 103 p 14) (-2)) * 2), vR 190 (T 103 p 14), vR 103 p] T ?_
    refine j_callS (pc := 28) (y := yJ7_copyOf_59c91) (Yc := (zJ7_copyOf_59c91 1024)) (rest := [vR 103 p]) [vR 190 (T 103 p 14), vI ((T 190 (T 103 p 14) (-2)) * 2)] (ct_J7_copyOf_e (T := T) (sl := 1024) (by omega) (by omega) (by omega)) (cl_X3_157 _) (qd_c (by decide +kernel)) (by decide) rfl rfl (Nat.le_of_ble_eq_true rfl) (by first | decide | (simp only [zJ7_copyOf_59c91]; omega)) (by first | decide | (simp only [zJ7_copyOf_59c91]; omega)) rfl ?_
    rintro U21 _ ⟨rfl, fU21, aU21, lU21, oU21, cU21⟩
    show J_ zX3_keepRow T (po_X3_keepRow_e T p k s v w) 0 0 31 _ [vR 190 (T 191 0 0), vR 103 p] U21
    refine j_putV (pc := 31) (ci := 3) (j := 14) (z := T 191 0 0) (by decide) fr5_X3_36 tl_3_14 (by decide +kernel) rfl (by omega) (by omega) ?_
    refine j_nm (fun U22 hU22 => ?_)
    have e23 := up_f hU22
    show J_ zX3_keepRow T (po_X3_keepRow_e T p k s v w) 0 0 34 _ [] U22
    refine j_blx (F := fX3) tb_X3 (nn_ _) bk_X3_keepRow_e_34 bs_X3_keepRow_e_34 hz (fun K hK => ?_)
    have e25 : U22 103 p 14 = T 191 0 0 := up_f hU22
    intro b26 b26b
    have e27 : U22 103 p 15 = T 103 p 15 := (up_j hU22 (by decide) 103 p).trans (fU21 103 p 15 rfl)
    rw [e27] at b26 b26b ⊢
    refine hK 47 _ [vI w, vI v, vI s, vI k, vI (T 103 p 15), vR 190 (U22 103 p 14)] U22 ?_
    have y28 : U22 190 (U22 103 p 14) (-2) = (T 190 (T 103 p 14) (-2)) * 2 := by rw [e25]; exact (up_k hU22 (by exact Nat.ne_of_beq_eq_false rfl) _ (-2)).trans lU21
    refine j_callS (y := yX3_writeRow) (Yc := zX3_writeRow) (rest := []) [vR 190 (U22 103 p 14), vI (T 103 p 15), vI k, vI s, vI v, vI w] (ct_X3_writeRow_e (T := U22) (by omega)) cl_X3_161 (qd_c (by decide +kernel)) (nn_ _) rfl (rf_of rfl) (Nat.le_of_ble_eq_true rfl) (Nat.le_of_ble_eq_true rfl) (Nat.le_of_ble_eq_true rfl) rfl ?_
    rintro U29 _ ⟨rfl, fU29, lU29, wU29, rU29⟩
    show J_ zX3_keepRow T (po_X3_keepRow_e T p k s v w) 0 0 50 _ [] U29
    refine j_blx (F := fX3) tb_X3 (nn_ _) bk_X3_keepRow_e_50 bs_X3_keepRow_e_50 hz (fun K hK => ?_)
    intro b30 b30b
    have e31 : U29 103 p 15 = T 103 p 15 := (fU29 103 p 15 rfl).trans ((up_j hU22 (by decide) 103 p).trans (fU21 103 p 15 rfl))
    rw [e31] at b30 b30b ⊢
    refine rg_i (by omega) ?_
    refine bd_i (by omega) ?_
    refine x_nm (fun U32 hU32 => ?_)
    have e33 := up_f hU32
    refine (show po_X3_keepRow_e T p k s v w U32 (none) from ?_)
    have e34 : U32 103 p 15 = (T 103 p 15) + 1 := up_f hU32
    have e35 : U32 103 p 14 = T 191 0 0 := (up_j hU32 (by decide) 103 p).trans ((fU29 103 p 14 rfl).trans (up_f hU22))
    have e36 : U32 191 0 0 = U21 191 0 0 := (up_k hU32 (by exact Nat.ne_of_beq_eq_false rfl) 0 0).trans ((fU29 191 0 0 rfl).trans (up_k hU22 (by exact Nat.ne_of_beq_eq_false rfl) 0 0))
    have e37 : U32 103 p 14 = T 191 0 0 := (up_j hU32 (by decide) 103 p).trans ((fU29 103 p 14 rfl).trans (up_f hU22))
    have e38 : U32 103 p 15 = (T 103 p 15) + 1 := up_f hU32
    have d1 : U32 103 p 14 = T 191 0 0 := by omega
    have d2 : U32 190 (U32 103 p 14) (-2) = (T 190 (T 103 p 14) (-2)) * 2 := by rw [d1]; exact ((up_k hU32 (by exact Nat.ne_of_beq_eq_false rfl) _ (-2)).trans ((lU29 _).trans (up_k hU22 (by exact Nat.ne_of_beq_eq_false rfl) _ (-2)))).trans lU21
    have e39 : U32 191 0 0 = U21 191 0 0 := (up_k hU32 (by exact Nat.ne_of_beq_eq_false rfl) 0 0).trans ((fU29 191 0 0 rfl).trans (up_k hU22 (by exact Nat.ne_of_beq_eq_false rfl) 0 0))
    have d5 : T 190 (T 103 p 14) (-2) < 2048 := by omega
    have d6 : lz_ (U32 190 (U32 103 p 14) (-2)) := by rw [d2, show (T 190 (T 103 p 14) (-2)) * 2 = 2 * (T 190 (T 103 p 14) (-2)) by omega]; exact lz_d hz9 d5
    have b1 : ra9_ U32 (U32 103 p 14) (T 103 p 15) = (k, s, v, w) := by
      rw [d1, ra_k (T := U29) (fun _ => up_k hU32 (by exact Nat.ne_of_beq_eq_false rfl) _ _)]
      rw [← e25]
      exact rU29
    have b2 : hr9_ U32 (U32 103 p 14) (U32 103 p 15).toNat = hr9_ T (T 103 p 14) (T 103 p 15).toNat ++ [(k, s, v, w)] := hrw_k (by omega) (by omega) (fun j j0 j1 => by
      rw [d1]
      exact ((up_k hU32 (by exact Nat.ne_of_beq_eq_false rfl) _ _).trans ((wU29 _ _ (fun z => by omega)).trans (up_k hU22 (by exact Nat.ne_of_beq_eq_false rfl) _ _))).trans (cU21 j j0 (by omega))) b1
    exact ⟨rfl, fr_u (fr_t (fr_u (fr_t (fr_0 _ _) (fr_s fU21 rfl)) hU22 rfl) (fr_s fU29 rfl)) hU32 rfl, oq_u (oq_1 (oq_u (oq_9 (oq_r) fU21) hU22) fU29) hU32, by omega, fun x hx => ((up_k hU32 (by exact Nat.ne_of_beq_eq_false rfl) _ (-2)).trans ((lU29 _).trans (up_k hU22 (by exact Nat.ne_of_beq_eq_false rfl) _ (-2)))).trans (oU21 x (-2) (by omega)), by omega, by omega, d6, by omega, by omega, by omega, fun x j h1 h2 => (up_k hU32 (by exact Nat.ne_of_beq_eq_false rfl) _ _).trans ((wU29 _ _ (fun z => by omega)).trans ((up_k hU22 (by exact Nat.ne_of_beq_eq_false rfl) _ _).trans (oU21 _ _ (by omega)))), by omega, b2⟩
