/-- the others' plays and logs stay -/
def OMH_ (T T' : Zt) (m : Int) : Prop := (∀ k i j, i ≠ m → k ≠ 190 → k ≠ 191 → k ≠ 106 → T' k i j = T k i j) ∧ (∀ x j, x < T 191 0 0 → x ≠ T 103 m 14 → x ≠ T 103 m 16 → T' 190 x j = T 190 x j) ∧ (T' 103 m 14 = T 103 m 14 ∨ T 191 0 0 ≤ T' 103 m 14) ∧ (T' 103 m 16 = T 103 m 16 ∨ T 191 0 0 ≤ T' 103 m 16)
theorem oh_r {T : Zt} {m : Int} : OMH_ T T m := ⟨fun _ _ _ _ _ _ _ => rfl, fun _ _ _ _ _ => rfl, Or.inl rfl, Or.inl rfl⟩
/-- a run of rows, as the house ends it -/
def RNH_ (r : Int → Int) (m x : Int) (T T' : Zt) (l : List Rw_) : Prop := rs9_ T' m = (rnH_ r (bb9_ r (rs9_ T m)) l).1 ∧ hr9_ T' (T' 103 m 14) (T' 103 m 15).toNat = (rnH_ r (bb9_ r (rs9_ T m)) l).2.1 ∧ x = (rnH_ r (bb9_ r (rs9_ T m)) l).2.2 ∧ T' 103 m 17 = T 103 m 17 + x
theorem bk_X3_init_e_0 : ck_ fX3 none cX3_init 0 [.aload 0] 1 = true := qck_r (nn_ _) (by decide +kernel)
theorem bs_X3_init_e_0 {P : Zt → Option Zv → Prop} (K : Int → Zl → List Zv → Zt → Prop) : sx_ K P [.aload 0] 1 = x_aload 0 (K 1) := ((xe_aload 0).trans (congrArg (x_aload 0) xe_nil))
theorem bk_X3_init_e_4 : ck_ fX3 none cX3_init 4 [.aload 0, .iconst 2] 6 = true := qck_r (nn_ _) (by decide +kernel)
theorem bs_X3_init_e_4 {P : Zt → Option Zv → Prop} (K : Int → Zl → List Zv → Zt → Prop) : sx_ K P [.aload 0, .iconst 2] 6 = x_aload 0 (x_iconst 2 (K 6)) := ((xe_aload 0).trans (congrArg (x_aload 0) ((xe_iconst 2).trans (congrArg (x_iconst 2) xe_nil))))
theorem bk_X3_init_e_11 : ck_ fX3 none cX3_init 11 [.aload 0, .iconst 2] 13 = true := qck_r (nn_ _) (by decide +kernel)
theorem bs_X3_init_e_11 {P : Zt → Option Zv → Prop} (K : Int → Zl → List Zv → Zt → Prop) : sx_ K P [.aload 0, .iconst 2] 13 = x_aload 0 (x_iconst 2 (K 13)) := ((xe_aload 0).trans (congrArg (x_aload 0) ((xe_iconst 2).trans (congrArg (x_iconst 2) xe_nil))))
theorem bk_X3_init_e_18 : ck_ fX3 none cX3_init 18 [.aload 0, .iconst 2] 20 = true := qck_r (nn_ _) (by decide +kernel)
theorem bs_X3_init_e_18 {P : Zt → Option Zv → Prop} (K : Int → Zl → List Zv → Zt → Prop) : sx_ K P [.aload 0, .iconst 2] 20 = x_aload 0 (x_iconst 2 (K 20)) := ((xe_aload 0).trans (congrArg (x_aload 0) ((xe_iconst 2).trans (congrArg (x_iconst 2) xe_nil))))
theorem bk_X3_init_e_25 : ck_ fX3 none cX3_init 25 [.aload 0, .iconst 2] 27 = true := qck_r (nn_ _) (by decide +kernel)
theorem bs_X3_init_e_25 {P : Zt → Option Zv → Prop} (K : Int → Zl → List Zv → Zt → Prop) : sx_ K P [.aload 0, .iconst 2] 27 = x_aload 0 (x_iconst 2 (K 27)) := ((xe_aload 0).trans (congrArg (x_aload 0) ((xe_iconst 2).trans (congrArg (x_iconst 2) xe_nil))))
theorem bk_X3_init_e_32 : ck_ fX3 none cX3_init 32 [.aload 0, .iconst 2] 34 = true := qck_r (nn_ _) (by decide +kernel)
theorem bs_X3_init_e_32 {P : Zt → Option Zv → Prop} (K : Int → Zl → List Zv → Zt → Prop) : sx_ K P [.aload 0, .iconst 2] 34 = x_aload 0 (x_iconst 2 (K 34)) := ((xe_aload 0).trans (congrArg (x_aload 0) ((xe_iconst 2).trans (congrArg (x_iconst 2) xe_nil))))
theorem bk_X3_init_e_39 : ck_ fX3 none cX3_init 39 [.aload 0, .iconst 12] 42 = true := qck_r (nn_ _) (by decide +kernel)
theorem bs_X3_init_e_39 {P : Zt → Option Zv → Prop} (K : Int → Zl → List Zv → Zt → Prop) : sx_ K P [.aload 0, .iconst 12] 42 = x_aload 0 (x_iconst 12 (K 42)) := ((xe_aload 0).trans (congrArg (x_aload 0) ((xe_iconst 12).trans (congrArg (x_iconst 12) xe_nil))))
theorem bk_X3_init_e_47 : ck_ fX3 none cX3_init 47 [.aload 0, .iconst 20] 50 = true := qck_r (nn_ _) (by decide +kernel)
theorem bs_X3_init_e_47 {P : Zt → Option Zv → Prop} (K : Int → Zl → List Zv → Zt → Prop) : sx_ K P [.aload 0, .iconst 20] 50 = x_aload 0 (x_iconst 20 (K 50)) := ((xe_aload 0).trans (congrArg (x_aload 0) ((xe_iconst 20).trans (congrArg (x_iconst 20) xe_nil))))
theorem bk_X3_init_e_55 : ck_ fX3 none cX3_init 55 [.aload 0, .iconst 20] 58 = true := qck_r (nn_ _) (by decide +kernel)
theorem bs_X3_init_e_55 {P : Zt → Option Zv → Prop} (K : Int → Zl → List Zv → Zt → Prop) : sx_ K P [.aload 0, .iconst 20] 58 = x_aload 0 (x_iconst 20 (K 58)) := ((xe_aload 0).trans (congrArg (x_aload 0) ((xe_iconst 20).trans (congrArg (x_iconst 20) xe_nil))))
theorem bk_X3_init_e_63 : ck_ fX3 none cX3_init 63 [.aload 0, .iconst 32] 66 = true := qck_r (nn_ _) (by decide +kernel)
theorem bs_X3_init_e_63 {P : Zt → Option Zv → Prop} (K : Int → Zl → List Zv → Zt → Prop) : sx_ K P [.aload 0, .iconst 32] 66 = x_aload 0 (x_iconst 32 (K 66)) := ((xe_aload 0).trans (congrArg (x_aload 0) ((xe_iconst 32).trans (congrArg (x_iconst 32) xe_nil))))
theorem bk_X3_init_e_71 : ck_ fX3 none cX3_init 71 [.aload 0, .iconst 16] 74 = true := qck_r (nn_ _) (by decide +kernel)
theorem bs_X3_init_e_71 {P : Zt → Option Zv → Prop} (K : Int → Zl → List Zv → Zt → Prop) : sx_ K P [.aload 0, .iconst 16] 74 = x_aload 0 (x_iconst 16 (K 74)) := ((xe_aload 0).trans (congrArg (x_aload 0) ((xe_iconst 16).trans (congrArg (x_iconst 16) xe_nil))))
theorem bk_X3_init_e_79 : ck_ fX3 none cX3_init 79 [.aload 0, .aload 1] 81 = true := qck_r (nn_ _) (by decide +kernel)
theorem bs_X3_init_e_79 {P : Zt → Option Zv → Prop} (K : Int → Zl → List Zv → Zt → Prop) : sx_ K P [.aload 0, .aload 1] 81 = x_aload 0 (x_aload 1 (K 81)) := ((xe_aload 0).trans (congrArg (x_aload 0) ((xe_aload 1).trans (congrArg (x_aload 1) xe_nil))))
theorem bk_X3_init_e_84 : ck_ fX3 none cX3_init 84 [.aload 0, .aload 2] 86 = true := qck_r (nn_ _) (by decide +kernel)
theorem bs_X3_init_e_84 {P : Zt → Option Zv → Prop} (K : Int → Zl → List Zv → Zt → Prop) : sx_ K P [.aload 0, .aload 2] 86 = x_aload 0 (x_aload 2 (K 86)) := ((xe_aload 0).trans (congrArg (x_aload 0) ((xe_aload 2).trans (congrArg (x_aload 2) xe_nil))))
theorem bk_X3_init_e_89 : ck_ fX3 none cX3_init 89 [.aload 0, .aload 3] 91 = true := qck_r (nn_ _) (by decide +kernel)
theorem bs_X3_init_e_89 {P : Zt → Option Zv → Prop} (K : Int → Zl → List Zv → Zt → Prop) : sx_ K P [.aload 0, .aload 3] 91 = x_aload 0 (x_aload 3 (K 91)) := ((xe_aload 0).trans (congrArg (x_aload 0) ((xe_aload 3).trans (congrArg (x_aload 3) xe_nil))))
theorem bk_X3_init_e_94 : ck_ fX3 none cX3_init 94 [.return_] 95 = true := qck_r (nn_ _) (by decide +kernel)
theorem bs_X3_init_e_94 {P : Zt → Option Zv → Prop} (K : Int → Zl → List Zv → Zt → Prop) : sx_ K P [.return_] 95 = x_return_ P := (xe_return_)
abbrev po_X3_init_e (T : Zt) (n : Int) (c : Int) : Zt → Option Zv → Prop := fun T' r => r = none ∧ fr_ [(153, []), (466, []), (467, []), (468, []), (469, []), (470, []), (471, []), (472, []), (473, []), (190, []), (191, [0])] T T' ∧ (oq_ T T' n ∧ (T' 153 n 0 = c + 1 ∧ T' 153 n 1 = n + 1 ∧ T' 153 n 2 = n + 1 ∧ T' 153 n 14 = T 191 0 0 + 1 ∧ T' 153 n 16 = T 191 0 0 + 2) ∧ (T' 153 n 6 = n + 1 ∧ T' 153 n 7 = n + 1 ∧ T' 153 n 8 = n + 1 ∧ T' 153 n 9 = n + 1 ∧ T' 153 n 10 = n + 1 ∧ T' 153 n 11 = n + 1 ∧ T' 153 n 12 = n + 1 ∧ T' 153 n 13 = n + 1) ∧ (T' 153 n 3 = T 153 n 3 ∧ T' 153 n 4 = T 153 n 4 ∧ T' 153 n 5 = T 153 n 5 ∧ T' 153 n 15 = T 153 n 15 ∧ T' 153 n 17 = T 153 n 17) ∧ T' 190 (T 191 0 0) (-2) = 32 ∧ T' 190 (T 191 0 0 + 1) (-2) = 16 ∧ T' 191 0 0 = T 191 0 0 + 2 ∧ ∀ x j, x < T 191 0 0 → T' 190 x j = T 190 x j)
set_option maxHeartbeats 4000000 in
theorem ct_X3_init_e {T : Zt} {n : Int} {c : Int} (h1 : 0 ≤ n ∧ n ≤ 399 ∧ 0 ≤ c ∧ c ≤ 3 ∧ 0 ≤ T 191 0 0 ∧ T 191 0 0 ≤ 1000000000) (hf : ∀ k : Nat, 460 ≤ k → k < 480 → ¬ T k n (-1) = 1) : Ct_ yX3_init zX3_init T [vR 153 n, vR 401 c, vR 448 n, vR 449 n] (po_X3_init_e T n c) := by
  refine ct_of pn_3 rfl rfl (Nat.le_of_ble_eq_true rfl) (fun hT hav => ?_)
  have hz : zX3_init.2.2.2.1 = some .boolean → ∀ (T' : Zt) (x : Int), po_X3_init_e T n c T' (some (vI x)) → 0 ≤ x ∧ x ≤ 1 := fun h => by cases h
  have hth : T 153 n (-1) = 1 := ok_al (v := none) (by decide) (hav (vR 153 n) (by simp))
  have hn0 : 0 ≤ n := h1.1
  have hn1 : -2147483648 ≤ n + 1 := by omega
  have hn2 : n + 1 ≤ 2147483647 := by omega
  have hc0 : 0 ≤ c := h1.2.2.1
  have hc1 : -2147483648 ≤ c + 1 := by omega
  have hc2 : c + 1 ≤ 2147483647 := by omega
  show J_ zX3_init T (po_X3_init_e T n c) 10 111 0 [some (vR 153 n), some (vR 401 c), some (vR 448 n), some (vR 449 n)] [] T
  refine j_blx (F := fX3) tb_X3 (nn_ _) bk_X3_init_e_0 bs_X3_init_e_0 hz (fun K hK => ?_)
  refine hK 1 _ [vR 153 n] T ?_
  refine j_objI (pc := 1) (lwq_4 (dqc_m (dqc_m (dqc_m (dqc_m (dqc_m (dqa_m (dqa_m (dqa_m (List.mem_of_getElem? (i := 0) rfl))))))))) rfl : Cond.methodLink RX3 3 Lib.objectInit ∈ lw_g) (lwq_1 (dqa_m (dqa_m (dqa_m (List.mem_of_getElem? (i := 3) rfl)))) rfl : Cond.instanceMethod Lib.objectInit ∈ lw_g) (lwq_1 (dqa_m (dqa_m (dqa_m (List.mem_of_getElem? (i := 4) rfl)))) rfl : Cond.code Lib.objectInit ⟨#[0xb1]⟩ 1 none ∈ lw_g) (by decide +kernel) (by decide) (by decide) (by decide) (by decide) ?_
  show J_ zX3_init T (po_X3_init_e T n c) 10 111 4 _ [] T
  refine j_blx (F := fX3) tb_X3 (nn_ _) bk_X3_init_e_4 bs_X3_init_e_4 hz (fun K hK => ?_)
  refine hK 6 _ [vI 2, vR 153 n] T ?_
  refine j_newI (bc' := 9) (bs' := 109) (pc := 6) (k := 466) (i := n) (by decide) (by decide +kernel : ta_ 466 = some (1, some 2, (-2147483648), 2147483647)) (by decide) (by decide) (hf 466 (by decide) (by decide)) (by omega) (by first | decide | omega) (by decide +kernel) (lwq_1 (dqc_m (dqc_m (dqa_m (List.mem_of_getElem? (i := 0) rfl)))) rfl : Cond.arrayClass .int ∈ lw_g) (fun o ho => by rw [show ow_ 466 = some 103 by decide] at ho; cases ho; exact Or.inr (show T 153 n (-1) = 1 from hth)) ?_
  refine j_nm (fun U1 hU1 => ?_)
  have fU1 := nu_fr hU1
  have zU1 := nu_tz hU1
  have oU1 := nu_to hU1
  have vU1 := nu_tv hU1
  show J_ zX3_init T (po_X3_init_e T n c) 9 109 8 _ [vR 466 n, vR 153 n] U1
  refine j_putW (pc := 8) (ci := 3) (j := 6) (z := n + 1) (by decide) (by decide) fW_X3_9 (by decide +kernel : (tf_ 153)[6]? = some (5, 466, (-2147483648), 2147483647)) (by decide) (by decide +kernel) (fv5_ (by first | exact hn0 | exact hn1 | exact hn2 | exact hc0 | exact hc1 | exact hc2 | omega)) rfl (by first | exact hn0 | exact hn1 | exact hn2 | exact hc0 | exact hc1 | exact hc2 | omega) (by first | exact hn0 | exact hn1 | exact hn2 | exact hc0 | exact hc1 | exact hc2 | omega) ?_
  refine j_nm (fun U2 hU2 => ?_)
  have e3 := up_f hU2
  show J_ zX3_init T (po_X3_init_e T n c) 9 109 11 _ [] U2
  refine j_blx (F := fX3) tb_X3 (nn_ _) bk_X3_init_e_11 bs_X3_init_e_11 hz (fun K hK => ?_)
  refine hK 13 _ [vI 2, vR 153 n] U2 ?_
  have e5 : U2 467 n (-1) = T 467 n (-1) := (up_k hU2 (by exact Nat.ne_of_beq_eq_false rfl) n (-1)).trans (fU1 467 n (-1) rfl)
  have e6 : U2 153 n (-1) = T 153 n (-1) := (up_j hU2 (by decide) 153 n).trans (fU1 153 n (-1) rfl)
  refine j_newI (bc' := 8) (bs' := 107) (pc := 13) (k := 467) (i := n) (by decide) (by decide +kernel : ta_ 467 = some (1, some 2, (-2147483648), 2147483647)) (by decide) (by decide) (by show ¬ U2 467 n (-1) = 1; rw [e5]; exact hf 467 (by decide) (by decide)) (by omega) (by first | decide | omega) (by decide +kernel) (lwq_1 (dqc_m (dqc_m (dqa_m (List.mem_of_getElem? (i := 0) rfl)))) rfl : Cond.arrayClass .int ∈ lw_g) (fun o ho => by rw [show ow_ 467 = some 103 by decide] at ho; cases ho; exact Or.inr (show U2 153 n (-1) = 1 from (e6).trans hth)) ?_
  refine j_nm (fun U4 hU4 => ?_)
  have fU4 := nu_fr hU4
  have zU4 := nu_tz hU4
  have oU4 := nu_to hU4
  have vU4 := nu_tv hU4
  show J_ zX3_init T (po_X3_init_e T n c) 8 107 15 _ [vR 467 n, vR 153 n] U4
  refine j_putW (pc := 15) (ci := 3) (j := 7) (z := n + 1) (by decide) (by decide) fW_X3_15 (by decide +kernel : (tf_ 153)[7]? = some (5, 467, (-2147483648), 2147483647)) (by decide) (by decide +kernel) (fv5_ (by first | exact hn0 | exact hn1 | exact hn2 | exact hc0 | exact hc1 | exact hc2 | omega)) rfl (by first | exact hn0 | exact hn1 | exact hn2 | exact hc0 | exact hc1 | exact hc2 | omega) (by first | exact hn0 | exact hn1 | exact hn2 | exact hc0 | exact hc1 | exact hc2 | omega) ?_
  refine j_nm (fun U7 hU7 => ?_)
  have e8 := up_f hU7
  show J_ zX3_init T (po_X3_init_e T n c) 8 107 18 _ [] U7
  refine j_blx (F := fX3) tb_X3 (nn_ _) bk_X3_init_e_18 bs_X3_init_e_18 hz (fun K hK => ?_)
  refine hK 20 _ [vI 2, vR 153 n] U7 ?_
  have e10 : U7 468 n (-1) = T 468 n (-1) := (up_k hU7 (by exact Nat.ne_of_beq_eq_false rfl) n (-1)).trans ((fU4 468 n (-1) rfl).trans ((up_k hU2 (by exact Nat.ne_of_beq_eq_false rfl) n (-1)).trans (fU1 468 n (-1) rfl)))
  have e11 : U7 153 n (-1) = T 153 n (-1) := (up_j hU7 (by decide) 153 n).trans ((fU4 153 n (-1) rfl).trans ((up_j hU2 (by decide) 153 n).trans (fU1 153 n (-1) rfl)))
  refine j_newI (bc' := 7) (bs' := 105) (pc := 20) (k := 468) (i := n) (by decide) (by decide +kernel : ta_ 468 = some (1, some 2, (-2147483648), 2147483647)) (by decide) (by decide) (by show ¬ U7 468 n (-1) = 1; rw [e10]; exact hf 468 (by decide) (by decide)) (by omega) (by first | decide | omega) (by decide +kernel) (lwq_1 (dqc_m (dqc_m (dqa_m (List.mem_of_getElem? (i := 0) rfl)))) rfl : Cond.arrayClass .int ∈ lw_g) (fun o ho => by rw [show ow_ 468 = some 103 by decide] at ho; cases ho; exact Or.inr (show U7 153 n (-1) = 1 from (e11).trans hth)) ?_
  refine j_nm (fun U9 hU9 => ?_)
  have fU9 := nu_fr hU9
  have zU9 := nu_tz hU9
  have oU9 := nu_to hU9
  have vU9 := nu_tv hU9
  show J_ zX3_init T (po_X3_init_e T n c) 7 105 22 _ [vR 468 n, vR 153 n] U9
  refine j_putW (pc := 22) (ci := 3) (j := 8) (z := n + 1) (by decide) (by decide) fW_X3_18 (by decide +kernel : (tf_ 153)[8]? = some (5, 468, (-2147483648), 2147483647)) (by decide) (by decide +kernel) (fv5_ (by first | exact hn0 | exact hn1 | exact hn2 | exact hc0 | exact hc1 | exact hc2 | omega)) rfl (by first | exact hn0 | exact hn1 | exact hn2 | exact hc0 | exact hc1 | exact hc2 | omega) (by first | exact hn0 | exact hn1 | exact hn2 | exact hc0 | exact hc1 | exact hc2 | omega) ?_
  refine j_nm (fun U12 hU12 => ?_)
  have e13 := up_f hU12
  show J_ zX3_init T (po_X3_init_e T n c) 7 105 25 _ [] U12
  refine j_blx (F := fX3) tb_X3 (nn_ _) bk_X3_init_e_25 bs_X3_init_e_25 hz (fun K hK => ?_)
  refine hK 27 _ [vI 2, vR 153 n] U12 ?_
  have e15 : U12 469 n (-1) = T 469 n (-1) := (up_k hU12 (by exact Nat.ne_of_beq_eq_false rfl) n (-1)).trans ((fU9 469 n (-1) rfl).trans ((up_k hU7 (by exact Nat.ne_of_beq_eq_false rfl) n (-1)).trans ((fU4 469 n (-1) rfl).trans ((up_k hU2 (by exact Nat.ne_of_beq_eq_false rfl) n (-1)).trans (fU1 469 n (-1) rfl)))))
  have e16 : U12 153 n (-1) = T 153 n (-1) := (up_j hU12 (by decide) 153 n).trans ((fU9 153 n (-1) rfl).trans ((up_j hU7 (by decide) 153 n).trans ((fU4 153 n (-1) rfl).trans ((up_j hU2 (by decide) 153 n).trans (fU1 153 n (-1) rfl)))))
  refine j_newI (bc' := 6) (bs' := 103) (pc := 27) (k := 469) (i := n) (by decide) (by decide +kernel : ta_ 469 = some (1, some 2, (-2147483648), 2147483647)) (by decide) (by decide) (by show ¬ U12 469 n (-1) = 1; rw [e15]; exact hf 469 (by decide) (by decide)) (by omega) (by first | decide | omega) (by decide +kernel) (lwq_1 (dqc_m (dqc_m (dqa_m (List.mem_of_getElem? (i := 0) rfl)))) rfl : Cond.arrayClass .int ∈ lw_g) (fun o ho => by rw [show ow_ 469 = some 103 by decide] at ho; cases ho; exact Or.inr (show U12 153 n (-1) = 1 from (e16).trans hth)) ?_
  refine j_nm (fun U14 hU14 => ?_)
  have fU14 := nu_fr hU14
  have zU14 := nu_tz hU14
  have oU14 := nu_to hU14
  have vU14 := nu_tv hU14
  show J_ zX3_init T (po_X3_init_e T n c) 6 103 29 _ [vR 469 n, vR 153 n] U14
  refine j_putW (pc := 29) (ci := 3) (j := 9) (z := n + 1) (by decide) (by decide) fW_X3_21 (by decide +kernel : (tf_ 153)[9]? = some (5, 469, (-2147483648), 2147483647)) (by decide) (by decide +kernel) (fv5_ (by first | exact hn0 | exact hn1 | exact hn2 | exact hc0 | exact hc1 | exact hc2 | omega)) rfl (by first | exact hn0 | exact hn1 | exact hn2 | exact hc0 | exact hc1 | exact hc2 | omega) (by first | exact hn0 | exact hn1 | exact hn2 | exact hc0 | exact hc1 | exact hc2 | omega) ?_
  refine j_nm (fun U17 hU17 => ?_)
  have e18 := up_f hU17
  show J_ zX3_init T (po_X3_init_e T n c) 6 103 32 _ [] U17
  refine j_blx (F := fX3) tb_X3 (nn_ _) bk_X3_init_e_32 bs_X3_init_e_32 hz (fun K hK => ?_)
  refine hK 34 _ [vI 2, vR 153 n] U17 ?_
  have e20 : U17 470 n (-1) = T 470 n (-1) := (up_k hU17 (by exact Nat.ne_of_beq_eq_false rfl) n (-1)).trans ((fU14 470 n (-1) rfl).trans ((up_k hU12 (by exact Nat.ne_of_beq_eq_false rfl) n (-1)).trans ((fU9 470 n (-1) rfl).trans ((up_k hU7 (by exact Nat.ne_of_beq_eq_false rfl) n (-1)).trans ((fU4 470 n (-1) rfl).trans ((up_k hU2 (by exact Nat.ne_of_beq_eq_false rfl) n (-1)).trans (fU1 470 n (-1) rfl)))))))
  have e21 : U17 153 n (-1) = T 153 n (-1) := (up_j hU17 (by decide) 153 n).trans ((fU14 153 n (-1) rfl).trans ((up_j hU12 (by decide) 153 n).trans ((fU9 153 n (-1) rfl).trans ((up_j hU7 (by decide) 153 n).trans ((fU4 153 n (-1) rfl).trans ((up_j hU2 (by decide) 153 n).trans (fU1 153 n (-1) rfl)))))))
  refine j_newI (bc' := 5) (bs' := 101) (pc := 34) (k := 470) (i := n) (by decide) (by decide +kernel : ta_ 470 = some (1, some 2, 0, 6)) (by decide) (by decide) (by show ¬ U17 470 n (-1) = 1; rw [e20]; exact hf 470 (by decide) (by decide)) (by omega) (by first | decide | omega) (by decide +kernel) (lwq_1 (dqc_m (dqc_m (dqa_m (List.mem_of_getElem? (i := 0) rfl)))) rfl : Cond.arrayClass .int ∈ lw_g) (fun o ho => by rw [show ow_ 470 = some 103 by decide] at ho; cases ho; exact Or.inr (show U17 153 n (-1) = 1 from (e21).trans hth)) ?_
  refine j_nm (fun U19 hU19 => ?_)
  have fU19 := nu_fr hU19
  have zU19 := nu_tz hU19
  have oU19 := nu_to hU19
  have vU19 := nu_tv hU19
  show J_ zX3_init T (po_X3_init_e T n c) 5 101 36 _ [vR 470 n, vR 153 n] U19
  refine j_putW (pc := 36) (ci := 3) (j := 10) (z := n + 1) (by decide) (by decide) fW_X3_24 (by decide +kernel : (tf_ 153)[10]? = some (5, 470, (-2147483648), 2147483647)) (by decide) (by decide +kernel) (fv5_ (by first | exact hn0 | exact hn1 | exact hn2 | exact hc0 | exact hc1 | exact hc2 | omega)) rfl (by first | exact hn0 | exact hn1 | exact hn2 | exact hc0 | exact hc1 | exact hc2 | omega) (by first | exact hn0 | exact hn1 | exact hn2 | exact hc0 | exact hc1 | exact hc2 | omega) ?_
  refine j_nm (fun U22 hU22 => ?_)
  have e23 := up_f hU22
  show J_ zX3_init T (po_X3_init_e T n c) 5 101 39 _ [] U22
  refine j_blx (F := fX3) tb_X3 (nn_ _) bk_X3_init_e_39 bs_X3_init_e_39 hz (fun K hK => ?_)
  refine hK 42 _ [vI 12, vR 153 n] U22 ?_
  have e25 : U22 471 n (-1) = T 471 n (-1) := (up_k hU22 (by exact Nat.ne_of_beq_eq_false rfl) n (-1)).trans ((fU19 471 n (-1) rfl).trans ((up_k hU17 (by exact Nat.ne_of_beq_eq_false rfl) n (-1)).trans ((fU14 471 n (-1) rfl).trans ((up_k hU12 (by exact Nat.ne_of_beq_eq_false rfl) n (-1)).trans ((fU9 471 n (-1) rfl).trans ((up_k hU7 (by exact Nat.ne_of_beq_eq_false rfl) n (-1)).trans ((fU4 471 n (-1) rfl).trans ((up_k hU2 (by exact Nat.ne_of_beq_eq_false rfl) n (-1)).trans (fU1 471 n (-1) rfl)))))))))
  have e26 : U22 153 n (-1) = T 153 n (-1) := (up_j hU22 (by decide) 153 n).trans ((fU19 153 n (-1) rfl).trans ((up_j hU17 (by decide) 153 n).trans ((fU14 153 n (-1) rfl).trans ((up_j hU12 (by decide) 153 n).trans ((fU9 153 n (-1) rfl).trans ((up_j hU7 (by decide) 153 n).trans ((fU4 153 n (-1) rfl).trans ((up_j hU2 (by decide) 153 n).trans (fU1 153 n (-1) rfl)))))))))
  refine j_newI (bc' := 4) (bs' := 89) (pc := 42) (k := 471) (i := n) (by decide) (by decide +kernel : ta_ 471 = some (1, some 12, 0, 19)) (by decide) (by decide) (by show ¬ U22 471 n (-1) = 1; rw [e25]; exact hf 471 (by decide) (by decide)) (by omega) (by first | decide | omega) (by decide +kernel) (lwq_1 (dqc_m (dqc_m (dqa_m (List.mem_of_getElem? (i := 0) rfl)))) rfl : Cond.arrayClass .int ∈ lw_g) (fun o ho => by rw [show ow_ 471 = some 103 by decide] at ho; cases ho; exact Or.inr (show U22 153 n (-1) = 1 from (e26).trans hth)) ?_
  refine j_nm (fun U24 hU24 => ?_)
  have fU24 := nu_fr hU24
  have zU24 := nu_tz hU24
  have oU24 := nu_to hU24
  have vU24 := nu_tv hU24
  show J_ zX3_init T (po_X3_init_e T n c) 4 89 44 _ [vR 471 n, vR 153 n] U24
  refine j_putW (pc := 44) (ci := 3) (j := 11) (z := n + 1) (by decide) (by decide) fW_X3_27 (by decide +kernel : (tf_ 153)[11]? = some (5, 471, (-2147483648), 2147483647)) (by decide) (by decide +kernel) (fv5_ (by first | exact hn0 | exact hn1 | exact hn2 | exact hc0 | exact hc1 | exact hc2 | omega)) rfl (by first | exact hn0 | exact hn1 | exact hn2 | exact hc0 | exact hc1 | exact hc2 | omega) (by first | exact hn0 | exact hn1 | exact hn2 | exact hc0 | exact hc1 | exact hc2 | omega) ?_
  refine j_nm (fun U27 hU27 => ?_)
  have e28 := up_f hU27
  show J_ zX3_init T (po_X3_init_e T n c) 4 89 47 _ [] U27
  refine j_blx (F := fX3) tb_X3 (nn_ _) bk_X3_init_e_47 bs_X3_init_e_47 hz (fun K hK => ?_)
  refine hK 50 _ [vI 20, vR 153 n] U27 ?_
  have e30 : U27 472 n (-1) = T 472 n (-1) := (up_k hU27 (by exact Nat.ne_of_beq_eq_false rfl) n (-1)).trans ((fU24 472 n (-1) rfl).trans ((up_k hU22 (by exact Nat.ne_of_beq_eq_false rfl) n (-1)).trans ((fU19 472 n (-1) rfl).trans ((up_k hU17 (by exact Nat.ne_of_beq_eq_false rfl) n (-1)).trans ((fU14 472 n (-1) rfl).trans ((up_k hU12 (by exact Nat.ne_of_beq_eq_false rfl) n (-1)).trans ((fU9 472 n (-1) rfl).trans ((up_k hU7 (by exact Nat.ne_of_beq_eq_false rfl) n (-1)).trans ((fU4 472 n (-1) rfl).trans ((up_k hU2 (by exact Nat.ne_of_beq_eq_false rfl) n (-1)).trans (fU1 472 n (-1) rfl)))))))))))
  have e31 : U27 153 n (-1) = T 153 n (-1) := (up_j hU27 (by decide) 153 n).trans ((fU24 153 n (-1) rfl).trans ((up_j hU22 (by decide) 153 n).trans ((fU19 153 n (-1) rfl).trans ((up_j hU17 (by decide) 153 n).trans ((fU14 153 n (-1) rfl).trans ((up_j hU12 (by decide) 153 n).trans ((fU9 153 n (-1) rfl).trans ((up_j hU7 (by decide) 153 n).trans ((fU4 153 n (-1) rfl).trans ((up_j hU2 (by decide) 153 n).trans (fU1 153 n (-1) rfl)))))))))))
  refine j_newI (bc' := 3) (bs' := 69) (pc := 50) (k := 472) (i := n) (by decide) (by decide +kernel : ta_ 472 = some (1, some 20, 0, 3)) (by decide) (by decide) (by show ¬ U27 472 n (-1) = 1; rw [e30]; exact hf 472 (by decide) (by decide)) (by omega) (by first | decide | omega) (by decide +kernel) (lwq_1 (dqc_m (dqc_m (dqa_m (List.mem_of_getElem? (i := 0) rfl)))) rfl : Cond.arrayClass .int ∈ lw_g) (fun o ho => by rw [show ow_ 472 = some 103 by decide] at ho; cases ho; exact Or.inr (show U27 153 n (-1) = 1 from (e31).trans hth)) ?_
  refine j_nm (fun U29 hU29 => ?_)
  have fU29 := nu_fr hU29
  have zU29 := nu_tz hU29
  have oU29 := nu_to hU29
  have vU29 := nu_tv hU29
  show J_ zX3_init T (po_X3_init_e T n c) 3 69 52 _ [vR 472 n, vR 153 n] U29
  refine j_putW (pc := 52) (ci := 3) (j := 12) (z := n + 1) (by decide) (by decide) fW_X3_30 (by decide +kernel : (tf_ 153)[12]? = some (5, 472, (-2147483648), 2147483647)) (by decide) (by decide +kernel) (fv5_ (by first | exact hn0 | exact hn1 | exact hn2 | exact hc0 | exact hc1 | exact hc2 | omega)) rfl (by first | exact hn0 | exact hn1 | exact hn2 | exact hc0 | exact hc1 | exact hc2 | omega) (by first | exact hn0 | exact hn1 | exact hn2 | exact hc0 | exact hc1 | exact hc2 | omega) ?_
  refine j_nm (fun U32 hU32 => ?_)
  have e33 := up_f hU32
  show J_ zX3_init T (po_X3_init_e T n c) 3 69 55 _ [] U32
  refine j_blx (F := fX3) tb_X3 (nn_ _) bk_X3_init_e_55 bs_X3_init_e_55 hz (fun K hK => ?_)
  refine hK 58 _ [vI 20, vR 153 n] U32 ?_
  have e35 : U32 473 n (-1) = T 473 n (-1) := (up_k hU32 (by exact Nat.ne_of_beq_eq_false rfl) n (-1)).trans ((fU29 473 n (-1) rfl).trans ((up_k hU27 (by exact Nat.ne_of_beq_eq_false rfl) n (-1)).trans ((fU24 473 n (-1) rfl).trans ((up_k hU22 (by exact Nat.ne_of_beq_eq_false rfl) n (-1)).trans ((fU19 473 n (-1) rfl).trans ((up_k hU17 (by exact Nat.ne_of_beq_eq_false rfl) n (-1)).trans ((fU14 473 n (-1) rfl).trans ((up_k hU12 (by exact Nat.ne_of_beq_eq_false rfl) n (-1)).trans ((fU9 473 n (-1) rfl).trans ((up_k hU7 (by exact Nat.ne_of_beq_eq_false rfl) n (-1)).trans ((fU4 473 n (-1) rfl).trans ((up_k hU2 (by exact Nat.ne_of_beq_eq_false rfl) n (-1)).trans (fU1 473 n (-1) rfl)))))))))))))
  have e36 : U32 153 n (-1) = T 153 n (-1) := (up_j hU32 (by decide) 153 n).trans ((fU29 153 n (-1) rfl).trans ((up_j hU27 (by decide) 153 n).trans ((fU24 153 n (-1) rfl).trans ((up_j hU22 (by decide) 153 n).trans ((fU19 153 n (-1) rfl).trans ((up_j hU17 (by decide) 153 n).trans ((fU14 153 n (-1) rfl).trans ((up_j hU12 (by decide) 153 n).trans ((fU9 153 n (-1) rfl).trans ((up_j hU7 (by decide) 153 n).trans ((fU4 153 n (-1) rfl).trans ((up_j hU2 (by decide) 153 n).trans (fU1 153 n (-1) rfl)))))))))))))
  refine j_newI (bc' := 2) (bs' := 49) (pc := 58) (k := 473) (i := n) (by decide) (by decide +kernel : ta_ 473 = some (1, some 20, (-2147483648), 2147483647)) (by decide) (by decide) (by show ¬ U32 473 n (-1) = 1; rw [e35]; exact hf 473 (by decide) (by decide)) (by omega) (by first | decide | omega) (by decide +kernel) (lwq_1 (dqc_m (dqc_m (dqa_m (List.mem_of_getElem? (i := 0) rfl)))) rfl : Cond.arrayClass .int ∈ lw_g) (fun o ho => by rw [show ow_ 473 = some 103 by decide] at ho; cases ho; exact Or.inr (show U32 153 n (-1) = 1 from (e36).trans hth)) ?_
  refine j_nm (fun U34 hU34 => ?_)
  have fU34 := nu_fr hU34
  have zU34 := nu_tz hU34
  have oU34 := nu_to hU34
  have vU34 := nu_tv hU34
  show J_ zX3_init T (po_X3_init_e T n c) 2 49 60 _ [vR 473 n, vR 153 n] U34
  refine j_putW (pc := 60) (ci := 3) (j := 13) (z := n + 1) (by decide) (by decide) fW_X3_33 (by decide +kernel : (tf_ 153)[13]? = some (5, 473, (-2147483648), 2147483647)) (by decide) (by decide +kernel) (fv5_ (by first | exact hn0 | exact hn1 | exact hn2 | exact hc0 | exact hc1 | exact hc2 | omega)) rfl (by first | exact hn0 | exact hn1 | exact hn2 | exact hc0 | exact hc1 | exact hc2 | omega) (by first | exact hn0 | exact hn1 | exact hn2 | exact hc0 | exact hc1 | exact hc2 | omega) ?_
  refine j_nm (fun U37 hU37 => ?_)
  have e38 := up_f hU37
  show J_ zX3_init T (po_X3_init_e T n c) 2 49 63 _ [] U37
  refine j_blx (F := fX3) tb_X3 (nn_ _) bk_X3_init_e_63 bs_X3_init_e_63 hz (fun K hK => ?_)
  refine hK 66 _ [vI 32, vR 153 n] U37 ?_
  have e40 : U37 191 0 0 = T 191 0 0 := (up_k hU37 (by exact Nat.ne_of_beq_eq_false rfl) 0 0).trans ((fU34 191 0 0 rfl).trans ((up_k hU32 (by exact Nat.ne_of_beq_eq_false rfl) 0 0).trans ((fU29 191 0 0 rfl).trans ((up_k hU27 (by exact Nat.ne_of_beq_eq_false rfl) 0 0).trans ((fU24 191 0 0 rfl).trans ((up_k hU22 (by exact Nat.ne_of_beq_eq_false rfl) 0 0).trans ((fU19 191 0 0 rfl).trans ((up_k hU17 (by exact Nat.ne_of_beq_eq_false rfl) 0 0).trans ((fU14 191 0 0 rfl).trans ((up_k hU12 (by exact Nat.ne_of_beq_eq_false rfl) 0 0).trans ((fU9 191 0 0 rfl).trans ((up_k hU7 (by exact Nat.ne_of_beq_eq_false rfl) 0 0).trans ((fU4 191 0 0 rfl).trans ((up_k hU2 (by exact Nat.ne_of_beq_eq_false rfl) 0 0).trans (fU1 191 0 0 rfl)))))))))))))))
  refine j_newL (bc' := 1) (bs' := 17) (pc := 66) (by decide) (by omega) (by omega) (by omega) (by decide +kernel) (lwq_1 (dqc_m (dqc_m (dqa_m (List.mem_of_getElem? (i := 0) rfl)))) rfl : Cond.arrayClass .int ∈ lw_g) ?_
  refine j_nm (fun U39 hU39 => ?_)
  have fU39 := nv_fr hU39
  have aU39 := nv_t9 hU39
  have lU39 := nv_tl hU39
  have oU39 := nv_to hU39
  show J_ zX3_init T (po_X3_init_e T n c) 1 17 68 _ [vR 190 (U37 191 0 0), vR 153 n] U39
  refine j_putW (pc := 68) (ci := 3) (j := 14) (z := (U37 191 0 0) + 1) (by decide) (by decide) fW_X3_36 (by decide +kernel : (tf_ 153)[14]? = some (5, 190, (-2147483648), 2147483647)) (by decide) (by decide +kernel) (fv5_ (by first | exact hn0 | exact hn1 | exact hn2 | exact hc0 | exact hc1 | exact hc2 | omega)) rfl (by first | exact hn0 | exact hn1 | exact hn2 | exact hc0 | exact hc1 | exact hc2 | omega) (by first | exact hn0 | exact hn1 | exact hn2 | exact hc0 | exact hc1 | exact hc2 | omega) ?_
  refine j_nm (fun U41 hU41 => ?_)
  have e42 := up_f hU41
  show J_ zX3_init T (po_X3_init_e T n c) 1 17 71 _ [] U41
  refine j_blx (F := fX3) tb_X3 (nn_ _) bk_X3_init_e_71 bs_X3_init_e_71 hz (fun K hK => ?_)
  refine hK 74 _ [vI 16, vR 153 n] U41 ?_
  have e44 : U41 191 0 0 = U39 191 0 0 := up_k hU41 (by exact Nat.ne_of_beq_eq_false rfl) 0 0
  refine j_newL (bc' := 0) (bs' := 1) (pc := 74) (by decide) (by omega) (by omega) (by omega) (by decide +kernel) (lwq_1 (dqc_m (dqc_m (dqa_m (List.mem_of_getElem? (i := 0) rfl)))) rfl : Cond.arrayClass .int ∈ lw_g) ?_
  refine j_nm (fun U43 hU43 => ?_)
  have fU43 := nv_fr hU43
  have aU43 := nv_t9 hU43
  have lU43 := nv_tl hU43
  have oU43 := nv_to hU43
  show J_ zX3_init T (po_X3_init_e T n c) 0 1 76 _ [vR 190 (U41 191 0 0), vR 153 n] U43
  refine j_putW (pc := 76) (ci := 3) (j := 16) (z := (U41 191 0 0) + 1) (by decide) (by decide) fW_X3_39 (by decide +kernel : (tf_ 153)[16]? = some (5, 190, (-2147483648), 2147483647)) (by decide) (by decide +kernel) (fv5_ (by first | exact hn0 | exact hn1 | exact hn2 | exact hc0 | exact hc1 | exact hc2 | omega)) rfl (by first | exact hn0 | exact hn1 | exact hn2 | exact hc0 | exact hc1 | exact hc2 | omega) (by first | exact hn0 | exact hn1 | exact hn2 | exact hc0 | exact hc1 | exact hc2 | omega) ?_
  refine j_nm (fun U45 hU45 => ?_)
  have e46 := up_f hU45
  show J_ zX3_init T (po_X3_init_e T n c) 0 1 79 _ [] U45
  refine j_blx (F := fX3) tb_X3 (nn_ _) bk_X3_init_e_79 bs_X3_init_e_79 hz (fun K hK => ?_)
  refine hK 81 _ [vR 401 c, vR 153 n] U45 ?_
  refine j_putW (pc := 81) (ci := 3) (j := 0) (z := c + 1) (by decide) (by decide) fW_X3_42 (by decide +kernel : (tf_ 153)[0]? = some (5, 401, (-2147483648), 2147483647)) (by decide) (by decide +kernel) (fv5_ (by first | exact hn0 | exact hn1 | exact hn2 | exact hc0 | exact hc1 | exact hc2 | omega)) rfl (by first | exact hn0 | exact hn1 | exact hn2 | exact hc0 | exact hc1 | exact hc2 | omega) (by first | exact hn0 | exact hn1 | exact hn2 | exact hc0 | exact hc1 | exact hc2 | omega) ?_
  refine j_nm (fun U47 hU47 => ?_)
  have e48 := up_f hU47
  show J_ zX3_init T (po_X3_init_e T n c) 0 1 84 _ [] U47
  refine j_blx (F := fX3) tb_X3 (nn_ _) bk_X3_init_e_84 bs_X3_init_e_84 hz (fun K hK => ?_)
  refine hK 86 _ [vR 448 n, vR 153 n] U47 ?_
  refine j_putW (pc := 86) (ci := 3) (j := 1) (z := n + 1) (by decide) (by decide) fW_X3_45 (by decide +kernel : (tf_ 153)[1]? = some (5, 448, (-2147483648), 2147483647)) (by decide) (by decide +kernel) (fv5_ (by first | exact hn0 | exact hn1 | exact hn2 | exact hc0 | exact hc1 | exact hc2 | omega)) rfl (by first | exact hn0 | exact hn1 | exact hn2 | exact hc0 | exact hc1 | exact hc2 | omega) (by first | exact hn0 | exact hn1 | exact hn2 | exact hc0 | exact hc1 | exact hc2 | omega) ?_
  refine j_nm (fun U49 hU49 => ?_)
  have e50 := up_f hU49
  show J_ zX3_init T (po_X3_init_e T n c) 0 1 89 _ [] U49
  refine j_blx (F := fX3) tb_X3 (nn_ _) bk_X3_init_e_89 bs_X3_init_e_89 hz (fun K hK => ?_)
  refine hK 91 _ [vR 449 n, vR 153 n] U49 ?_
  refine j_putW (pc := 91) (ci := 3) (j := 2) (z := n + 1) (by decide) (by decide) fW_X3_48 (by decide +kernel : (tf_ 153)[2]? = some (5, 449, (-2147483648), 2147483647)) (by decide) (by decide +kernel) (fv5_ (by first | exact hn0 | exact hn1 | exact hn2 | exact hc0 | exact hc1 | exact hc2 | omega)) rfl (by first | exact hn0 | exact hn1 | exact hn2 | exact hc0 | exact hc1 | exact hc2 | omega) (by first | exact hn0 | exact hn1 | exact hn2 | exact hc0 | exact hc1 | exact hc2 | omega) ?_
  refine j_nm (fun U51 hU51 => ?_)
  have e52 := up_f hU51
  show J_ zX3_init T (po_X3_init_e T n c) 0 1 94 _ [] U51
  refine j_blx (F := fX3) tb_X3 (nn_ _) bk_X3_init_e_94 bs_X3_init_e_94 hz (fun K hK => ?_)
  refine (show po_X3_init_e T n c U51 (none) from ?_)
  have e53 : U51 191 0 0 = U43 191 0 0 := (up_k hU51 (by exact Nat.ne_of_beq_eq_false rfl) 0 0).trans ((up_k hU49 (by exact Nat.ne_of_beq_eq_false rfl) 0 0).trans ((up_k hU47 (by exact Nat.ne_of_beq_eq_false rfl) 0 0).trans (up_k hU45 (by exact Nat.ne_of_beq_eq_false rfl) 0 0)))
  have e54 : U51 153 n 0 = c + 1 := (up_j hU51 (by decide) 153 n).trans ((up_j hU49 (by decide) 153 n).trans (up_f hU47))
  have e55 : U51 153 n 1 = n + 1 := (up_j hU51 (by decide) 153 n).trans (up_f hU49)
  have e56 : U51 153 n 2 = n + 1 := up_f hU51
  have e57 : U51 153 n 3 = T 153 n 3 := (up_j hU51 (by decide) 153 n).trans ((up_j hU49 (by decide) 153 n).trans ((up_j hU47 (by decide) 153 n).trans ((up_j hU45 (by decide) 153 n).trans ((fU43 153 n 3 rfl).trans ((up_j hU41 (by decide) 153 n).trans ((fU39 153 n 3 rfl).trans ((up_j hU37 (by decide) 153 n).trans ((fU34 153 n 3 rfl).trans ((up_j hU32 (by decide) 153 n).trans ((fU29 153 n 3 rfl).trans ((up_j hU27 (by decide) 153 n).trans ((fU24 153 n 3 rfl).trans ((up_j hU22 (by decide) 153 n).trans ((fU19 153 n 3 rfl).trans ((up_j hU17 (by decide) 153 n).trans ((fU14 153 n 3 rfl).trans ((up_j hU12 (by decide) 153 n).trans ((fU9 153 n 3 rfl).trans ((up_j hU7 (by decide) 153 n).trans ((fU4 153 n 3 rfl).trans ((up_j hU2 (by decide) 153 n).trans (fU1 153 n 3 rfl))))))))))))))))))))))
  have e58 : U51 153 n 4 = T 153 n 4 := (up_j hU51 (by decide) 153 n).trans ((up_j hU49 (by decide) 153 n).trans ((up_j hU47 (by decide) 153 n).trans ((up_j hU45 (by decide) 153 n).trans ((fU43 153 n 4 rfl).trans ((up_j hU41 (by decide) 153 n).trans ((fU39 153 n 4 rfl).trans ((up_j hU37 (by decide) 153 n).trans ((fU34 153 n 4 rfl).trans ((up_j hU32 (by decide) 153 n).trans ((fU29 153 n 4 rfl).trans ((up_j hU27 (by decide) 153 n).trans ((fU24 153 n 4 rfl).trans ((up_j hU22 (by decide) 153 n).trans ((fU19 153 n 4 rfl).trans ((up_j hU17 (by decide) 153 n).trans ((fU14 153 n 4 rfl).trans ((up_j hU12 (by decide) 153 n).trans ((fU9 153 n 4 rfl).trans ((up_j hU7 (by decide) 153 n).trans ((fU4 153 n 4 rfl).trans ((up_j hU2 (by decide) 153 n).trans (fU1 153 n 4 rfl))))))))))))))))))))))
  have e59 : U51 153 n 5 = T 153 n 5 := (up_j hU51 (by decide) 153 n).trans ((up_j hU49 (by decide) 153 n).trans ((up_j hU47 (by decide) 153 n).trans ((up_j hU45 (by decide) 153 n).trans ((fU43 153 n 5 rfl).trans ((up_j hU41 (by decide) 153 n).trans ((fU39 153 n 5 rfl).trans ((up_j hU37 (by decide) 153 n).trans ((fU34 153 n 5 rfl).trans ((up_j hU32 (by decide) 153 n).trans ((fU29 153 n 5 rfl).trans ((up_j hU27 (by decide) 153 n).trans ((fU24 153 n 5 rfl).trans ((up_j hU22 (by decide) 153 n).trans ((fU19 153 n 5 rfl).trans ((up_j hU17 (by decide) 153 n).trans ((fU14 153 n 5 rfl).trans ((up_j hU12 (by decide) 153 n).trans ((fU9 153 n 5 rfl).trans ((up_j hU7 (by decide) 153 n).trans ((fU4 153 n 5 rfl).trans ((up_j hU2 (by decide) 153 n).trans (fU1 153 n 5 rfl))))))))))))))))))))))
  have e60 : U51 153 n 6 = n + 1 := (up_j hU51 (by decide) 153 n).trans ((up_j hU49 (by decide) 153 n).trans ((up_j hU47 (by decide) 153 n).trans ((up_j hU45 (by decide) 153 n).trans ((fU43 153 n 6 rfl).trans ((up_j hU41 (by decide) 153 n).trans ((fU39 153 n 6 rfl).trans ((up_j hU37 (by decide) 153 n).trans ((fU34 153 n 6 rfl).trans ((up_j hU32 (by decide) 153 n).trans ((fU29 153 n 6 rfl).trans ((up_j hU27 (by decide) 153 n).trans ((fU24 153 n 6 rfl).trans ((up_j hU22 (by decide) 153 n).trans ((fU19 153 n 6 rfl).trans ((up_j hU17 (by decide) 153 n).trans ((fU14 153 n 6 rfl).trans ((up_j hU12 (by decide) 153 n).trans ((fU9 153 n 6 rfl).trans ((up_j hU7 (by decide) 153 n).trans ((fU4 153 n 6 rfl).trans (up_f hU2)))))))))))))))))))))
  have e61 : U51 153 n 7 = n + 1 := (up_j hU51 (by decide) 153 n).trans ((up_j hU49 (by decide) 153 n).trans ((up_j hU47 (by decide) 153 n).trans ((up_j hU45 (by decide) 153 n).trans ((fU43 153 n 7 rfl).trans ((up_j hU41 (by decide) 153 n).trans ((fU39 153 n 7 rfl).trans ((up_j hU37 (by decide) 153 n).trans ((fU34 153 n 7 rfl).trans ((up_j hU32 (by decide) 153 n).trans ((fU29 153 n 7 rfl).trans ((up_j hU27 (by decide) 153 n).trans ((fU24 153 n 7 rfl).trans ((up_j hU22 (by decide) 153 n).trans ((fU19 153 n 7 rfl).trans ((up_j hU17 (by decide) 153 n).trans ((fU14 153 n 7 rfl).trans ((up_j hU12 (by decide) 153 n).trans ((fU9 153 n 7 rfl).trans (up_f hU7)))))))))))))))))))
  have e62 : U51 153 n 8 = n + 1 := (up_j hU51 (by decide) 153 n).trans ((up_j hU49 (by decide) 153 n).trans ((up_j hU47 (by decide) 153 n).trans ((up_j hU45 (by decide) 153 n).trans ((fU43 153 n 8 rfl).trans ((up_j hU41 (by decide) 153 n).trans ((fU39 153 n 8 rfl).trans ((up_j hU37 (by decide) 153 n).trans ((fU34 153 n 8 rfl).trans ((up_j hU32 (by decide) 153 n).trans ((fU29 153 n 8 rfl).trans ((up_j hU27 (by decide) 153 n).trans ((fU24 153 n 8 rfl).trans ((up_j hU22 (by decide) 153 n).trans ((fU19 153 n 8 rfl).trans ((up_j hU17 (by decide) 153 n).trans ((fU14 153 n 8 rfl).trans (up_f hU12)))))))))))))))))
  have e63 : U51 153 n 9 = n + 1 := (up_j hU51 (by decide) 153 n).trans ((up_j hU49 (by decide) 153 n).trans ((up_j hU47 (by decide) 153 n).trans ((up_j hU45 (by decide) 153 n).trans ((fU43 153 n 9 rfl).trans ((up_j hU41 (by decide) 153 n).trans ((fU39 153 n 9 rfl).trans ((up_j hU37 (by decide) 153 n).trans ((fU34 153 n 9 rfl).trans ((up_j hU32 (by decide) 153 n).trans ((fU29 153 n 9 rfl).trans ((up_j hU27 (by decide) 153 n).trans ((fU24 153 n 9 rfl).trans ((up_j hU22 (by decide) 153 n).trans ((fU19 153 n 9 rfl).trans (up_f hU17)))))))))))))))
  have e64 : U51 153 n 10 = n + 1 := (up_j hU51 (by decide) 153 n).trans ((up_j hU49 (by decide) 153 n).trans ((up_j hU47 (by decide) 153 n).trans ((up_j hU45 (by decide) 153 n).trans ((fU43 153 n 10 rfl).trans ((up_j hU41 (by decide) 153 n).trans ((fU39 153 n 10 rfl).trans ((up_j hU37 (by decide) 153 n).trans ((fU34 153 n 10 rfl).trans ((up_j hU32 (by decide) 153 n).trans ((fU29 153 n 10 rfl).trans ((up_j hU27 (by decide) 153 n).trans ((fU24 153 n 10 rfl).trans (up_f hU22)))))))))))))
  have e65 : U51 153 n 11 = n + 1 := (up_j hU51 (by decide) 153 n).trans ((up_j hU49 (by decide) 153 n).trans ((up_j hU47 (by decide) 153 n).trans ((up_j hU45 (by decide) 153 n).trans ((fU43 153 n 11 rfl).trans ((up_j hU41 (by decide) 153 n).trans ((fU39 153 n 11 rfl).trans ((up_j hU37 (by decide) 153 n).trans ((fU34 153 n 11 rfl).trans ((up_j hU32 (by decide) 153 n).trans ((fU29 153 n 11 rfl).trans (up_f hU27)))))))))))
  have e66 : U51 153 n 12 = n + 1 := (up_j hU51 (by decide) 153 n).trans ((up_j hU49 (by decide) 153 n).trans ((up_j hU47 (by decide) 153 n).trans ((up_j hU45 (by decide) 153 n).trans ((fU43 153 n 12 rfl).trans ((up_j hU41 (by decide) 153 n).trans ((fU39 153 n 12 rfl).trans ((up_j hU37 (by decide) 153 n).trans ((fU34 153 n 12 rfl).trans (up_f hU32)))))))))
  have e67 : U51 153 n 13 = n + 1 := (up_j hU51 (by decide) 153 n).trans ((up_j hU49 (by decide) 153 n).trans ((up_j hU47 (by decide) 153 n).trans ((up_j hU45 (by decide) 153 n).trans ((fU43 153 n 13 rfl).trans ((up_j hU41 (by decide) 153 n).trans ((fU39 153 n 13 rfl).trans (up_f hU37)))))))
  have e68 : U51 153 n 14 = (U37 191 0 0) + 1 := (up_j hU51 (by decide) 153 n).trans ((up_j hU49 (by decide) 153 n).trans ((up_j hU47 (by decide) 153 n).trans ((up_j hU45 (by decide) 153 n).trans ((fU43 153 n 14 rfl).trans (up_f hU41)))))
  have e69 : U51 153 n 15 = T 153 n 15 := (up_j hU51 (by decide) 153 n).trans ((up_j hU49 (by decide) 153 n).trans ((up_j hU47 (by decide) 153 n).trans ((up_j hU45 (by decide) 153 n).trans ((fU43 153 n 15 rfl).trans ((up_j hU41 (by decide) 153 n).trans ((fU39 153 n 15 rfl).trans ((up_j hU37 (by decide) 153 n).trans ((fU34 153 n 15 rfl).trans ((up_j hU32 (by decide) 153 n).trans ((fU29 153 n 15 rfl).trans ((up_j hU27 (by decide) 153 n).trans ((fU24 153 n 15 rfl).trans ((up_j hU22 (by decide) 153 n).trans ((fU19 153 n 15 rfl).trans ((up_j hU17 (by decide) 153 n).trans ((fU14 153 n 15 rfl).trans ((up_j hU12 (by decide) 153 n).trans ((fU9 153 n 15 rfl).trans ((up_j hU7 (by decide) 153 n).trans ((fU4 153 n 15 rfl).trans ((up_j hU2 (by decide) 153 n).trans (fU1 153 n 15 rfl))))))))))))))))))))))
  have e70 : U51 153 n 16 = (U41 191 0 0) + 1 := (up_j hU51 (by decide) 153 n).trans ((up_j hU49 (by decide) 153 n).trans ((up_j hU47 (by decide) 153 n).trans (up_f hU45)))
  have e71 : U51 153 n 17 = T 153 n 17 := (up_j hU51 (by decide) 153 n).trans ((up_j hU49 (by decide) 153 n).trans ((up_j hU47 (by decide) 153 n).trans ((up_j hU45 (by decide) 153 n).trans ((fU43 153 n 17 rfl).trans ((up_j hU41 (by decide) 153 n).trans ((fU39 153 n 17 rfl).trans ((up_j hU37 (by decide) 153 n).trans ((fU34 153 n 17 rfl).trans ((up_j hU32 (by decide) 153 n).trans ((fU29 153 n 17 rfl).trans ((up_j hU27 (by decide) 153 n).trans ((fU24 153 n 17 rfl).trans ((up_j hU22 (by decide) 153 n).trans ((fU19 153 n 17 rfl).trans ((up_j hU17 (by decide) 153 n).trans ((fU14 153 n 17 rfl).trans ((up_j hU12 (by decide) 153 n).trans ((fU9 153 n 17 rfl).trans ((up_j hU7 (by decide) 153 n).trans ((fU4 153 n 17 rfl).trans ((up_j hU2 (by decide) 153 n).trans (fU1 153 n 17 rfl))))))))))))))))))))))
  have e72 : U51 191 0 0 = U43 191 0 0 := (up_k hU51 (by exact Nat.ne_of_beq_eq_false rfl) 0 0).trans ((up_k hU49 (by exact Nat.ne_of_beq_eq_false rfl) 0 0).trans ((up_k hU47 (by exact Nat.ne_of_beq_eq_false rfl) 0 0).trans (up_k hU45 (by exact Nat.ne_of_beq_eq_false rfl) 0 0)))
  have e73 : U41 191 0 0 = U39 191 0 0 := up_k hU41 (by exact Nat.ne_of_beq_eq_false rfl) 0 0
  have d1 : U51 190 (T 191 0 0) (-2) = 32 := by have y2 := lU39; rw [show U37 191 0 0 = T 191 0 0 from Int.le_antisymm (by omega) (by omega)] at y2; exact ((up_k hU51 (by exact Nat.ne_of_beq_eq_false rfl) _ _).trans ((up_k hU49 (by exact Nat.ne_of_beq_eq_false rfl) _ _).trans ((up_k hU47 (by exact Nat.ne_of_beq_eq_false rfl) _ _).trans ((up_k hU45 (by exact Nat.ne_of_beq_eq_false rfl) _ _).trans ((oU43 _ _ (by omega)).trans (up_k hU41 (by exact Nat.ne_of_beq_eq_false rfl) _ _)))))).trans y2
  have d2 : U51 190 (T 191 0 0 + 1) (-2) = 16 := by have y2 := lU43; rw [show U41 191 0 0 = T 191 0 0 + 1 from Int.le_antisymm (by omega) (by omega)] at y2; exact ((up_k hU51 (by exact Nat.ne_of_beq_eq_false rfl) _ _).trans ((up_k hU49 (by exact Nat.ne_of_beq_eq_false rfl) _ _).trans ((up_k hU47 (by exact Nat.ne_of_beq_eq_false rfl) _ _).trans (up_k hU45 (by exact Nat.ne_of_beq_eq_false rfl) _ _)))).trans y2
  have d3 : ∀ x j, x < T 191 0 0 → U51 190 x j = T 190 x j := fun x j hx => (up_k hU51 (by exact Nat.ne_of_beq_eq_false rfl) _ _).trans ((up_k hU49 (by exact Nat.ne_of_beq_eq_false rfl) _ _).trans ((up_k hU47 (by exact Nat.ne_of_beq_eq_false rfl) _ _).trans ((up_k hU45 (by exact Nat.ne_of_beq_eq_false rfl) _ _).trans ((oU43 _ _ (by omega)).trans ((up_k hU41 (by exact Nat.ne_of_beq_eq_false rfl) _ _).trans ((oU39 _ _ (by omega)).trans ((up_k hU37 (by exact Nat.ne_of_beq_eq_false rfl) _ _).trans ((fU34 190 _ _ rfl).trans ((up_k hU32 (by exact Nat.ne_of_beq_eq_false rfl) _ _).trans ((fU29 190 _ _ rfl).trans ((up_k hU27 (by exact Nat.ne_of_beq_eq_false rfl) _ _).trans ((fU24 190 _ _ rfl).trans ((up_k hU22 (by exact Nat.ne_of_beq_eq_false rfl) _ _).trans ((fU19 190 _ _ rfl).trans ((up_k hU17 (by exact Nat.ne_of_beq_eq_false rfl) _ _).trans ((fU14 190 _ _ rfl).trans ((up_k hU12 (by exact Nat.ne_of_beq_eq_false rfl) _ _).trans ((fU9 190 _ _ rfl).trans ((up_k hU7 (by exact Nat.ne_of_beq_eq_false rfl) _ _).trans ((fU4 190 _ _ rfl).trans ((up_k hU2 (by exact Nat.ne_of_beq_eq_false rfl) _ _).trans (fU1 190 _ _ rfl))))))))))))))))))))))
  exact ⟨rfl, fr_u (fr_u (fr_u (fr_u (fr_t (fr_u (fr_t (fr_u (fr_t (fr_u (fr_t (fr_u (fr_t (fr_u (fr_t (fr_u (fr_t (fr_u (fr_t (fr_u (fr_t (fr_u (fr_t (fr_0 _ _) (fr_s fU1 rfl)) hU2 rfl) (fr_s fU4 rfl)) hU7 rfl) (fr_s fU9 rfl)) hU12 rfl) (fr_s fU14 rfl)) hU17 rfl) (fr_s fU19 rfl)) hU22 rfl) (fr_s fU24 rfl)) hU27 rfl) (fr_s fU29 rfl)) hU32 rfl) (fr_s fU34 rfl)) hU37 rfl) (fr_s fU39 rfl)) hU41 rfl) (fr_s fU43 rfl)) hU45 rfl) hU47 rfl) hU49 rfl) hU51 rfl, oq_u (oq_u (oq_u (oq_u (oq_9 (oq_u (oq_9 (oq_u (oq_n (oq_u (oq_n (oq_u (oq_n (oq_u (oq_n (oq_u (oq_n (oq_u (oq_n (oq_u (oq_n (oq_u (oq_n (oq_r) oU1) hU2) oU4) hU7) oU9) hU12) oU14) hU17) oU19) hU22) oU24) hU27) oU29) hU32) oU34) hU37) fU39) hU41) fU43) hU45) hU47) hU49) hU51, ⟨e54, e55, e56, by omega, by omega⟩, ⟨e60, e61, e62, e63, e64, e65, e66, e67⟩, ⟨e57, e58, e59, e69, e71⟩, d1, d2, by omega, d3⟩
