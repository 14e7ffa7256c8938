abbrev cX0_init : ByteArray := prog_2_method_1_code
def yX0_init : MethodName := ⟨RX0, "<init>", "(I[I[I)V"⟩
def zX0_init : Zm := (RX0, cX0_init, 4, none, { frames := 1, cells := 2, slots := 25, locals := 30 })
theorem bk_X0_init_0 : ck_ fX0 none cX0_init 0 [.aload 0] 1 = true := qck_r (nn_ _) (by decide +kernel)
theorem bs_X0_init_0 {P : Zt → Option Zv → Prop} (K : Int → Zl → List Zv → Zt → Prop) : sx_ K P [.aload 0] 1 = x_aload 0 (K 1) := ((xe_aload 0).trans (congrArg (x_aload 0) xe_nil))
theorem bk_X0_init_4 : ck_ fX0 none cX0_init 4 [.aload 0, .iconst 12] 7 = true := qck_r (nn_ _) (by decide +kernel)
theorem bs_X0_init_4 {P : Zt → Option Zv → Prop} (K : Int → Zl → List Zv → Zt → Prop) : sx_ K P [.aload 0, .iconst 12] 7 = x_aload 0 (x_iconst 12 (K 7)) := ((xe_aload 0).trans (congrArg (x_aload 0) ((xe_iconst 12).trans (congrArg (x_iconst 12) xe_nil))))
theorem fW_X0_9 : fW_ RX0 9 0 3 false := ⟨_, _, _, rfl, by decide, by decide, (lwq_3 (dqc_m (dqc_m (dqa_m (dqa_m (dqa_m (List.mem_of_getElem? (i := 3) rfl)))))) rfl : Cond.fieldLink RX0 9 _ _ _ ∈ lw_g), rfl, .array .int, by decide +kernel, fun _ _ => ⟨rfl, rfl⟩, (fun _ h => by cases h)⟩
theorem bk_X0_init_12 : ck_ fX0 none cX0_init 12 [.aload 0, .iconst 12] 15 = true := qck_r (nn_ _) (by decide +kernel)
theorem bs_X0_init_12 {P : Zt → Option Zv → Prop} (K : Int → Zl → List Zv → Zt → Prop) : sx_ K P [.aload 0, .iconst 12] 15 = x_aload 0 (x_iconst 12 (K 15)) := ((xe_aload 0).trans (congrArg (x_aload 0) ((xe_iconst 12).trans (congrArg (x_iconst 12) xe_nil))))
theorem fW_X0_15 : fW_ RX0 15 0 4 false := ⟨_, _, _, rfl, by decide, by decide, (lwq_3 (dqc_m (dqc_m (dqc_m (List.mem_of_getElem? (i := 0) rfl)))) rfl : Cond.fieldLink RX0 15 _ _ _ ∈ lw_g), rfl, .array .int, by decide +kernel, fun _ _ => ⟨rfl, rfl⟩, (fun _ h => by cases h)⟩
theorem bk_X0_init_20 : ck_ fX0 none cX0_init 20 [.aload 0, .iload 1] 22 = true := qck_r (nn_ _) (by decide +kernel)
theorem bs_X0_init_20 {P : Zt → Option Zv → Prop} (K : Int → Zl → List Zv → Zt → Prop) : sx_ K P [.aload 0, .iload 1] 22 = x_aload 0 (x_iload 1 (K 22)) := ((xe_aload 0).trans (congrArg (x_aload 0) ((xe_iload 1).trans (congrArg (x_iload 1) xe_nil))))
theorem fW_X0_18 : fW_ RX0 18 0 0 true := ⟨_, _, _, rfl, by decide, by decide, (lwq_3 (dqc_m (dqc_m (dqa_m (List.mem_of_getElem? (i := 7) rfl)))) rfl : Cond.fieldLink RX0 18 _ _ _ ∈ lw_g), rfl, .int, by decide +kernel, (fun _ h => by cases h), fun _ _ => ⟨rfl, rfl⟩⟩
theorem bk_X0_init_25 : ck_ fX0 none cX0_init 25 [.aload 0, .aload 2] 27 = true := qck_r (nn_ _) (by decide +kernel)
theorem bs_X0_init_25 {P : Zt → Option Zv → Prop} (K : Int → Zl → List Zv → Zt → Prop) : sx_ K P [.aload 0, .aload 2] 27 = x_aload 0 (x_aload 2 (K 27)) := ((xe_aload 0).trans (congrArg (x_aload 0) ((xe_aload 2).trans (congrArg (x_aload 2) xe_nil))))
theorem fW_X0_22 : fW_ RX0 22 0 1 false := ⟨_, _, _, rfl, by decide, by decide, (lwq_3 (dqc_m (dqc_m (dqa_m (dqa_m (List.mem_of_getElem? (i := 2) rfl))))) rfl : Cond.fieldLink RX0 22 _ _ _ ∈ lw_g), rfl, .array .int, by decide +kernel, fun _ _ => ⟨rfl, rfl⟩, (fun _ h => by cases h)⟩
theorem bk_X0_init_30 : ck_ fX0 none cX0_init 30 [.aload 0, .aload 3] 32 = true := qck_r (nn_ _) (by decide +kernel)
theorem bs_X0_init_30 {P : Zt → Option Zv → Prop} (K : Int → Zl → List Zv → Zt → Prop) : sx_ K P [.aload 0, .aload 3] 32 = x_aload 0 (x_aload 3 (K 32)) := ((xe_aload 0).trans (congrArg (x_aload 0) ((xe_aload 3).trans (congrArg (x_aload 3) xe_nil))))
theorem fW_X0_25 : fW_ RX0 25 0 2 false := ⟨_, _, _, rfl, by decide, by decide, (lwq_3 (dqc_m (dqc_m (dqa_m (dqa_m (dqa_m (List.mem_of_getElem? (i := 0) rfl)))))) rfl : Cond.fieldLink RX0 25 _ _ _ ∈ lw_g), rfl, .array .int, by decide +kernel, fun _ _ => ⟨rfl, rfl⟩, (fun _ h => by cases h)⟩
theorem bk_X0_init_35 : ck_ fX0 none cX0_init 35 [.aload 0] 36 = true := qck_r (nn_ _) (by decide +kernel)
theorem bs_X0_init_35 {P : Zt → Option Zv → Prop} (K : Int → Zl → List Zv → Zt → Prop) : sx_ K P [.aload 0] 36 = x_aload 0 (K 36) := ((xe_aload 0).trans (congrArg (x_aload 0) xe_nil))
theorem bk_X0_init_39 : ck_ fX0 none cX0_init 39 [.iconst (-1)] 40 = true := qck_r (nn_ _) (by decide +kernel)
theorem bs_X0_init_39 {P : Zt → Option Zv → Prop} (K : Int → Zl → List Zv → Zt → Prop) : sx_ K P [.iconst (-1)] 40 = x_iconst (-1) (K 40) := ((xe_iconst (-1)).trans (congrArg (x_iconst (-1)) xe_nil))
set_option maxRecDepth 100000 in
theorem cl_X0_28 : cs_ RX0 28 yJ7_fill_53178 zJ7_fill_53178 2 := ⟨gi_S (lwq_3 (dqc_m (dqc_m (dqa_m (List.mem_of_getElem? (i := 6) rfl)))) rfl : Cond.methodLink RX0 28 yJ7_fill_53178 ∈ lw_g) (lwq_2 (dqa_m (dqa_m (dqa_m (List.mem_of_getElem? (i := 2) rfl)))) rfl : Cond.static yJ7_fill_53178 ∈ lw_g) (lwq_1 (List.mem_of_getElem? (i := 7) rfl) rfl : Cond.initialized yJ7_fill_53178.cls ∈ lw_g) (lwq_2 (dqa_m (dqa_m (dqa_m (List.mem_of_getElem? (i := 3) rfl)))) rfl : Cond.code yJ7_fill_53178 cJ7_fill_53178 4 none ∈ lw_g), ⟨by decide, by decide, by decide +kernel⟩⟩
theorem bk_X0_init_43 : ck_ fX0 none cX0_init 43 [.return_] 44 = true := qck_r (nn_ _) (by decide +kernel)
theorem bs_X0_init_43 {P : Zt → Option Zv → Prop} (K : Int → Zl → List Zv → Zt → Prop) : sx_ K P [.return_] 44 = x_return_ P := (xe_return_)
abbrev po_X0_init (T : Zt) (n : Int) (m : Int) : Zt → Option Zv → Prop := fun T' r => r = none ∧ fr_ [(150, []), (403, []), (404, [])] T T' ∧ (oi_ T T' n ∧ (T' 150 n 0 = m ∧ T' 150 n 1 = n + 1 ∧ T' 150 n 2 = n + 1 ∧ T' 150 n 3 = n + 1 ∧ T' 150 n 4 = n + 1) ∧ (T' 150 n 5 = T 150 n 5 ∧ T' 150 n 6 = T 150 n 6 ∧ T' 150 n 7 = T 150 n 7 ∧ T' 150 n 8 = T 150 n 8) ∧ ∀ j, 0 ≤ j → j < 12 → T' 404 n j = -1)
set_option maxHeartbeats 4000000 in
theorem ct_X0_init {T : Zt} {n : Int} {m : Int} (h1 : 0 ≤ n ∧ n ≤ 3 ∧ 0 ≤ m ∧ m ≤ 3) (hf3 : ¬ T 403 n (-1) = 1) (hf4 : ¬ T 404 n (-1) = 1) : Ct_ yX0_init zX0_init T [vR 150 n, vI m, vR 401 n, vR 402 n] (po_X0_init T n m) := by
  refine ct_of pn_0 rfl rfl (Nat.le_of_ble_eq_true rfl) (fun hT hav => ?_)
  have hr_m : -2147483648 ≤ m ∧ m ≤ 2147483647 := hav (vI m) (List.mem_cons_of_mem _ List.mem_cons_self)
  have hz : zX0_init.2.2.2.1 = some .boolean → ∀ (T' : Zt) (x : Int), po_X0_init T n m T' (some (vI x)) → 0 ≤ x ∧ x ≤ 1 := fun h => by cases h
  have hth : T 150 n (-1) = 1 := ok_al (v := none) (by decide) (hav (vR 150 n) (by simp))
  show J_ zX0_init T (po_X0_init T n m) 2 25 0 [some (vR 150 n), some (vI m), some (vR 401 n), some (vR 402 n)] [] T
  refine j_blx (F := fX0) tb_X0 (nn_ _) bk_X0_init_0 bs_X0_init_0 hz (fun K hK => ?_)
  refine hK 1 _ [vR 150 n] T ?_
  refine j_objI (pc := 1) (lwq_3 (dqc_m (dqc_m (dqa_m (List.mem_of_getElem? (i := 5) rfl)))) rfl : Cond.methodLink RX0 3 Lib.objectInit ∈ lw_g) (lwq_1 (dqa_m (dqa_m (dqa_m (List.mem_of_getElem? (i := 3) rfl)))) rfl : Cond.instanceMethod Lib.objectInit ∈ lw_g) (lwq_1 (dqa_m (dqa_m (dqa_m (List.mem_of_getElem? (i := 4) rfl)))) rfl : Cond.code Lib.objectInit ⟨#[0xb1]⟩ 1 none ∈ lw_g) (by decide +kernel) (by decide) (by decide) (by decide) (by decide) ?_
  show J_ zX0_init T (po_X0_init T n m) 2 25 4 _ [] T
  refine j_blx (F := fX0) tb_X0 (nn_ _) bk_X0_init_4 bs_X0_init_4 hz (fun K hK => ?_)
  refine hK 7 _ [vI 12, vR 150 n] T ?_
  refine j_newI (bc' := 1) (bs' := 13) (pc := 7) (k := 403) (i := n) (by decide) (by decide +kernel : ta_ 403 = some (1, some 12, 0, 11)) (by decide) (by decide) (hf3) (by omega) (by first | decide | omega) (by decide +kernel) (lwq_1 (dqc_m (dqc_m (dqa_m (List.mem_of_getElem? (i := 0) rfl)))) rfl : Cond.arrayClass .int ∈ lw_g) (fun o ho => by rw [show ow_ 403 = some 100 by decide] at ho; cases ho; exact Or.inr (show T 150 n (-1) = 1 from hth)) ?_
  refine j_nm (fun U1 hU1 => ?_)
  have fU1 := nu_fr hU1
  have zU1 := nu_tz hU1
  have oU1 := nu_to hU1
  have vU1 := nu_tv hU1
  show J_ zX0_init T (po_X0_init T n m) 1 13 9 _ [vR 403 n, vR 150 n] U1
  refine j_putW (pc := 9) (ci := 0) (j := 3) (z := n + 1) (by decide) (by decide) fW_X0_9 (by decide +kernel : (tf_ 150)[3]? = some (5, 403, (-2147483648), 2147483647)) (by decide) (by decide +kernel) (fv5_ (by omega)) rfl (by omega) (by omega) ?_
  refine j_nm (fun U2 hU2 => ?_)
  have e3 := up_f hU2
  show J_ zX0_init T (po_X0_init T n m) 1 13 12 _ [] U2
  refine j_blx (F := fX0) tb_X0 (nn_ _) bk_X0_init_12 bs_X0_init_12 hz (fun K hK => ?_)
  refine hK 15 _ [vI 12, vR 150 n] U2 ?_
  have e5 : U2 404 n (-1) = T 404 n (-1) := (up_k hU2 (by exact Nat.ne_of_beq_eq_false rfl) n (-1)).trans (fU1 404 n (-1) rfl)
  have e6 : U2 150 n (-1) = T 150 n (-1) := (up_j hU2 (by decide) 150 n).trans (fU1 150 n (-1) rfl)
  refine j_newI (bc' := 0) (bs' := 1) (pc := 15) (k := 404) (i := n) (by decide) (by decide +kernel : ta_ 404 = some (1, some 12, (-1), 11)) (by decide) (by decide) (by show ¬ U2 404 n (-1) = 1; rw [e5]; exact hf4) (by omega) (by first | decide | omega) (by decide +kernel) (lwq_1 (dqc_m (dqc_m (dqa_m (List.mem_of_getElem? (i := 0) rfl)))) rfl : Cond.arrayClass .int ∈ lw_g) (fun o ho => by rw [show ow_ 404 = some 100 by decide] at ho; cases ho; exact Or.inr (show U2 150 n (-1) = 1 from (e6).trans hth)) ?_
  refine j_nm (fun U4 hU4 => ?_)
  have fU4 := nu_fr hU4
  have zU4 := nu_tz hU4
  have oU4 := nu_to hU4
  have vU4 := nu_tv hU4
  show J_ zX0_init T (po_X0_init T n m) 0 1 17 _ [vR 404 n, vR 150 n] U4
  refine j_putW (pc := 17) (ci := 0) (j := 4) (z := n + 1) (by decide) (by decide) fW_X0_15 (by decide +kernel : (tf_ 150)[4]? = some (5, 404, (-2147483648), 2147483647)) (by decide) (by decide +kernel) (fv5_ (by omega)) rfl (by omega) (by omega) ?_
  refine j_nm (fun U7 hU7 => ?_)
  have e8 := up_f hU7
  show J_ zX0_init T (po_X0_init T n m) 0 1 20 _ [] U7
  refine j_blx (F := fX0) tb_X0 (nn_ _) bk_X0_init_20 bs_X0_init_20 hz (fun K hK => ?_)
  refine hK 22 _ [vI m, vR 150 n] U7 ?_
  refine j_putW (pc := 22) (ci := 0) (j := 0) (z := m) (by decide) (by decide) fW_X0_18 (by decide +kernel : (tf_ 150)[0]? = some (0, 0, 0, 3)) (by decide) (by decide +kernel) rfl rfl (by omega) (by omega) ?_
  refine j_nm (fun U9 hU9 => ?_)
  have e10 := up_f hU9
  show J_ zX0_init T (po_X0_init T n m) 0 1 25 _ [] U9
  refine j_blx (F := fX0) tb_X0 (nn_ _) bk_X0_init_25 bs_X0_init_25 hz (fun K hK => ?_)
  refine hK 27 _ [vR 401 n, vR 150 n] U9 ?_
  refine j_putW (pc := 27) (ci := 0) (j := 1) (z := n + 1) (by decide) (by decide) fW_X0_22 (by decide +kernel : (tf_ 150)[1]? = some (5, 401, (-2147483648), 2147483647)) (by decide) (by decide +kernel) (fv5_ (by omega)) rfl (by omega) (by omega) ?_
  refine j_nm (fun U11 hU11 => ?_)
  have e12 := up_f hU11
  show J_ zX0_init T (po_X0_init T n m) 0 1 30 _ [] U11
  refine j_blx (F := fX0) tb_X0 (nn_ _) bk_X0_init_30 bs_X0_init_30 hz (fun K hK => ?_)
  refine hK 32 _ [vR 402 n, vR 150 n] U11 ?_
  refine j_putW (pc := 32) (ci := 0) (j := 2) (z := n + 1) (by decide) (by decide) fW_X0_25 (by decide +kernel : (tf_ 150)[2]? = some (5, 402, (-2147483648), 2147483647)) (by decide) (by decide +kernel) (fv5_ (by omega)) rfl (by omega) (by omega) ?_
  refine j_nm (fun U13 hU13 => ?_)
  have e14 := up_f hU13
  show J_ zX0_init T (po_X0_init T n m) 0 1 35 _ [] U13
  refine j_blx (F := fX0) tb_X0 (nn_ _) bk_X0_init_35 bs_X0_init_35 hz (fun K hK => ?_)
  refine hK 36 _ [vR 150 n] U13 ?_
  have e15 : U13 150 n 4 = n + 1 := (up_j hU13 (by decide) 150 n).trans ((up_j hU11 (by decide) 150 n).trans ((up_j hU9 (by decide) 150 n).trans (up_f hU7)))
  refine j_getW (pc := 36) (ci := 0) (j := 4) (v := vR 404 n) (by decide) (by decide) vi_0 (by decide) (lwq_3 (dqc_m (dqc_m (dqc_m (List.mem_of_getElem? (i := 0) rfl)))) rfl : Cond.fieldLink RX0 15 _ _ _ ∈ lw_g) (by decide +kernel : (tf_ 150)[4]? = some (5, 404, (-2147483648), 2147483647)) (by decide +kernel) (by rw [show (((4 : Nat) : Int)) = 4 from rfl, e15]; exact fv5_ (by omega)) ?_
  show J_ zX0_init T (po_X0_init T n m) 0 1 39 _ [vR 404 n] U13
  refine j_blx (F := fX0) tb_X0 (nn_ _) bk_X0_init_39 bs_X0_init_39 hz (fun K hK => ?_)
  refine hK 40 _ [vI (-1), vR 404 n] U13 ?_
  refine j_callS (y := yJ7_fill_53178) (Yc := zJ7_fill_53178) (rest := []) [vR 404 n, vI (-1)] (ct_J7_fill_404 (T := U13) (by omega)) cl_X0_28 (qd_c (by decide +kernel)) (nn_ _) rfl (rf_of rfl) (Nat.le_of_ble_eq_true rfl) (Nat.le_of_ble_eq_true rfl) (Nat.le_of_ble_eq_true rfl) rfl ?_
  rintro U16 _ ⟨rfl, fU16, qU16o, qU16⟩
  show J_ zX0_init T (po_X0_init T n m) 0 1 43 _ [] U16
  refine j_blx (F := fX0) tb_X0 (nn_ _) bk_X0_init_43 bs_X0_init_43 hz (fun K hK => ?_)
  refine (show po_X0_init T n m U16 (none) from ?_)
  have e17 : U16 150 n 0 = m := (fU16 150 n 0 rfl).trans ((up_j hU13 (by decide) 150 n).trans ((up_j hU11 (by decide) 150 n).trans (up_f hU9)))
  have e18 : U16 150 n 1 = n + 1 := (fU16 150 n 1 rfl).trans ((up_j hU13 (by decide) 150 n).trans (up_f hU11))
  have e19 : U16 150 n 2 = n + 1 := (fU16 150 n 2 rfl).trans (up_f hU13)
  have e20 : U16 150 n 3 = n + 1 := (fU16 150 n 3 rfl).trans ((up_j hU13 (by decide) 150 n).trans ((up_j hU11 (by decide) 150 n).trans ((up_j hU9 (by decide) 150 n).trans ((up_j hU7 (by decide) 150 n).trans ((fU4 150 n 3 rfl).trans (up_f hU2))))))
  have e21 : U16 150 n 4 = n + 1 := (fU16 150 n 4 rfl).trans ((up_j hU13 (by decide) 150 n).trans ((up_j hU11 (by decide) 150 n).trans ((up_j hU9 (by decide) 150 n).trans (up_f hU7))))
  have e22 : U16 150 n 5 = T 150 n 5 := (fU16 150 n 5 rfl).trans ((up_j hU13 (by decide) 150 n).trans ((up_j hU11 (by decide) 150 n).trans ((up_j hU9 (by decide) 150 n).trans ((up_j hU7 (by decide) 150 n).trans ((fU4 150 n 5 rfl).trans ((up_j hU2 (by decide) 150 n).trans (fU1 150 n 5 rfl)))))))
  have e23 : U16 150 n 6 = T 150 n 6 := (fU16 150 n 6 rfl).trans ((up_j hU13 (by decide) 150 n).trans ((up_j hU11 (by decide) 150 n).trans ((up_j hU9 (by decide) 150 n).trans ((up_j hU7 (by decide) 150 n).trans ((fU4 150 n 6 rfl).trans ((up_j hU2 (by decide) 150 n).trans (fU1 150 n 6 rfl)))))))
  have e24 : U16 150 n 7 = T 150 n 7 := (fU16 150 n 7 rfl).trans ((up_j hU13 (by decide) 150 n).trans ((up_j hU11 (by decide) 150 n).trans ((up_j hU9 (by decide) 150 n).trans ((up_j hU7 (by decide) 150 n).trans ((fU4 150 n 7 rfl).trans ((up_j hU2 (by decide) 150 n).trans (fU1 150 n 7 rfl)))))))
  have e25 : U16 150 n 8 = T 150 n 8 := (fU16 150 n 8 rfl).trans ((up_j hU13 (by decide) 150 n).trans ((up_j hU11 (by decide) 150 n).trans ((up_j hU9 (by decide) 150 n).trans ((up_j hU7 (by decide) 150 n).trans ((fU4 150 n 8 rfl).trans ((up_j hU2 (by decide) 150 n).trans (fU1 150 n 8 rfl)))))))
  exact ⟨rfl, fr_t (fr_u (fr_u (fr_u (fr_u (fr_t (fr_u (fr_t (fr_0 _ _) (fr_s fU1 rfl)) hU2 rfl) (fr_s fU4 rfl)) hU7 rfl) hU9 rfl) hU11 rfl) hU13 rfl) (fr_s fU16 rfl), oi_t (oi_u (oi_u (oi_u (oi_u (oi_n (oi_u (oi_n (oi_r) oU1) hU2) oU4) hU7) hU9) hU11) hU13) qU16o, by omega, by omega, fun j a b => qU16 j a b⟩
