theorem oi_n {T T1 T2 : Zt} {p : Int} {k : Nat} (h : oi_ T T1 p) (e : ∀ k' i' j, ¬ (k' = k ∧ i' = p) → T2 k' i' j = T1 k' i' j) : oi_ T T2 p := fun k' i j hi => (e k' i j (fun q => hi q.2)).trans (h k' i j hi)
theorem oq_n {T T1 T2 : Zt} {p : Int} {k : Nat} (h : oq_ T T1 p) (e : ∀ k' i' j, ¬ (k' = k ∧ i' = p) → T2 k' i' j = T1 k' i' j) : oq_ T T2 p := fun k' i j hi a b => (e k' i j (fun q => hi q.2)).trans (h k' i j hi a b)
abbrev cX2_init : ByteArray := prog_4_method_1_code
def yX2_init : MethodName := ⟨RX2, "<init>", "(LSportsHouse$Competition;IIIII)V"⟩
def zX2_init : Zm := (RX2, cX2_init, 7, none, { frames := 1, cells := 2, slots := 23, locals := 30 })
theorem bk_X2_init_0 : ck_ fX2 none cX2_init 0 [.aload 0] 1 = true := qck_r (nn_ _) (by decide +kernel)
theorem bs_X2_init_0 {P : Zt → Option Zv → Prop} (K : Int → Zl → List Zv → Zt → Prop) : sx_ K P [.aload 0] 1 = x_aload 0 (K 1) := ((xe_aload 0).trans (congrArg (x_aload 0) xe_nil))
theorem bk_X2_init_4 : ck_ fX2 none cX2_init 4 [.aload 0, .iconst (-1)] 6 = true := qck_r (nn_ _) (by decide +kernel)
theorem bs_X2_init_4 {P : Zt → Option Zv → Prop} (K : Int → Zl → List Zv → Zt → Prop) : sx_ K P [.aload 0, .iconst (-1)] 6 = x_aload 0 (x_iconst (-1) (K 6)) := ((xe_aload 0).trans (congrArg (x_aload 0) ((xe_iconst (-1)).trans (congrArg (x_iconst (-1)) xe_nil))))
theorem fW_X2_9 : fW_ RX2 9 2 6 true := ⟨_, _, _, rfl, by decide, by decide, (lwq_4 (dqa_m (List.mem_of_getElem? (i := 3) rfl)) rfl : Cond.fieldLink RX2 9 _ _ _ ∈ lw_g), rfl, .int, by decide +kernel, (fun _ h => by cases h), fun _ _ => ⟨rfl, rfl⟩⟩
theorem bk_X2_init_9 : ck_ fX2 none cX2_init 9 [.aload 0, .iconst (-1)] 11 = true := qck_r (nn_ _) (by decide +kernel)
theorem bs_X2_init_9 {P : Zt → Option Zv → Prop} (K : Int → Zl → List Zv → Zt → Prop) : sx_ K P [.aload 0, .iconst (-1)] 11 = x_aload 0 (x_iconst (-1) (K 11)) := ((xe_aload 0).trans (congrArg (x_aload 0) ((xe_iconst (-1)).trans (congrArg (x_iconst (-1)) xe_nil))))
theorem fW_X2_15 : fW_ RX2 15 2 7 true := ⟨_, _, _, rfl, by decide, by decide, (lwq_4 (dqa_m (List.mem_of_getElem? (i := 6) rfl)) rfl : Cond.fieldLink RX2 15 _ _ _ ∈ lw_g), rfl, .int, by decide +kernel, (fun _ h => by cases h), fun _ _ => ⟨rfl, rfl⟩⟩
theorem bk_X2_init_14 : ck_ fX2 none cX2_init 14 [.aload 0, .iconst 20] 17 = true := qck_r (nn_ _) (by decide +kernel)
theorem bs_X2_init_14 {P : Zt → Option Zv → Prop} (K : Int → Zl → List Zv → Zt → Prop) : sx_ K P [.aload 0, .iconst 20] 17 = x_aload 0 (x_iconst 20 (K 17)) := ((xe_aload 0).trans (congrArg (x_aload 0) ((xe_iconst 20).trans (congrArg (x_iconst 20) xe_nil))))
theorem fW_X2_18 : fW_ RX2 18 2 8 false := ⟨_, _, _, rfl, by decide, by decide, (lwq_4 (dqa_m (dqa_m (List.mem_of_getElem? (i := 1) rfl))) rfl : Cond.fieldLink RX2 18 _ _ _ ∈ lw_g), rfl, .array .int, by decide +kernel, fun _ _ => ⟨rfl, rfl⟩, (fun _ h => by cases h)⟩
theorem bk_X2_init_22 : ck_ fX2 none cX2_init 22 [.aload 0, .iconst 2] 24 = true := qck_r (nn_ _) (by decide +kernel)
theorem bs_X2_init_22 {P : Zt → Option Zv → Prop} (K : Int → Zl → List Zv → Zt → Prop) : sx_ K P [.aload 0, .iconst 2] 24 = x_aload 0 (x_iconst 2 (K 24)) := ((xe_aload 0).trans (congrArg (x_aload 0) ((xe_iconst 2).trans (congrArg (x_iconst 2) xe_nil))))
theorem fW_X2_22 : fW_ RX2 22 2 9 false := ⟨_, _, _, rfl, by decide, by decide, (lwq_4 (dqa_m (dqa_m (List.mem_of_getElem? (i := 3) rfl))) rfl : Cond.fieldLink RX2 22 _ _ _ ∈ lw_g), rfl, .array .int, by decide +kernel, fun _ _ => ⟨rfl, rfl⟩, (fun _ h => by cases h)⟩
theorem bk_X2_init_29 : ck_ fX2 none cX2_init 29 [.aload 0, .aload 1] 31 = true := qck_r (nn_ _) (by decide +kernel)
theorem bs_X2_init_29 {P : Zt → Option Zv → Prop} (K : Int → Zl → List Zv → Zt → Prop) : sx_ K P [.aload 0, .aload 1] 31 = x_aload 0 (x_aload 1 (K 31)) := ((xe_aload 0).trans (congrArg (x_aload 0) ((xe_aload 1).trans (congrArg (x_aload 1) xe_nil))))
theorem fW_X2_25 : fW_ RX2 25 2 0 false := ⟨_, _, _, rfl, by decide, by decide, (lwq_3 (dqc_m (dqc_m (dqc_m (dqc_m (dqc_m (dqc_m (dqc_m (List.mem_of_getElem? (i := 2) rfl)))))))) rfl : Cond.fieldLink RX2 25 _ _ _ ∈ lw_g), rfl, .object "SportsHouse$Competition", by decide +kernel, fun _ _ => ⟨rfl, rfl⟩, (fun _ h => by cases h)⟩
theorem bk_X2_init_34 : ck_ fX2 none cX2_init 34 [.aload 0, .iload 2] 36 = true := qck_r (nn_ _) (by decide +kernel)
theorem bs_X2_init_34 {P : Zt → Option Zv → Prop} (K : Int → Zl → List Zv → Zt → Prop) : sx_ K P [.aload 0, .iload 2] 36 = x_aload 0 (x_iload 2 (K 36)) := ((xe_aload 0).trans (congrArg (x_aload 0) ((xe_iload 2).trans (congrArg (x_iload 2) xe_nil))))
theorem fW_X2_29 : fW_ RX2 29 2 1 true := ⟨_, _, _, rfl, by decide, by decide, (lwq_3 (dqc_m (dqc_m (dqc_m (dqc_m (dqc_m (dqc_m (dqc_m (List.mem_of_getElem? (i := 5) rfl)))))))) rfl : Cond.fieldLink RX2 29 _ _ _ ∈ lw_g), rfl, .int, by decide +kernel, (fun _ h => by cases h), fun _ _ => ⟨rfl, rfl⟩⟩
theorem bk_X2_init_39 : ck_ fX2 none cX2_init 39 [.aload 0, .iload 3] 41 = true := qck_r (nn_ _) (by decide +kernel)
theorem bs_X2_init_39 {P : Zt → Option Zv → Prop} (K : Int → Zl → List Zv → Zt → Prop) : sx_ K P [.aload 0, .iload 3] 41 = x_aload 0 (x_iload 3 (K 41)) := ((xe_aload 0).trans (congrArg (x_aload 0) ((xe_iload 3).trans (congrArg (x_iload 3) xe_nil))))
theorem fW_X2_32 : fW_ RX2 32 2 2 true := ⟨_, _, _, rfl, by decide, by decide, (lwq_3 (dqc_m (dqc_m (dqc_m (dqc_m (dqc_m (dqc_m (dqc_m (dqa_m (List.mem_of_getElem? (i := 0) rfl))))))))) rfl : Cond.fieldLink RX2 32 _ _ _ ∈ lw_g), rfl, .int, by decide +kernel, (fun _ h => by cases h), fun _ _ => ⟨rfl, rfl⟩⟩
theorem bk_X2_init_44 : ck_ fX2 none cX2_init 44 [.aload 0, .iload 4] 47 = true := qck_r (nn_ _) (by decide +kernel)
theorem bs_X2_init_44 {P : Zt → Option Zv → Prop} (K : Int → Zl → List Zv → Zt → Prop) : sx_ K P [.aload 0, .iload 4] 47 = x_aload 0 (x_iload 4 (K 47)) := ((xe_aload 0).trans (congrArg (x_aload 0) ((xe_iload 4).trans (congrArg (x_iload 4) xe_nil))))
theorem fW_X2_35 : fW_ RX2 35 2 3 true := ⟨_, _, _, rfl, by decide, by decide, (lwq_3 (dqc_m (dqc_m (dqc_m (dqc_m (dqc_m (dqc_m (dqc_m (dqa_m (List.mem_of_getElem? (i := 2) rfl))))))))) rfl : Cond.fieldLink RX2 35 _ _ _ ∈ lw_g), rfl, .int, by decide +kernel, (fun _ h => by cases h), fun _ _ => ⟨rfl, rfl⟩⟩
theorem bk_X2_init_50 : ck_ fX2 none cX2_init 50 [.aload 0, .iload 5] 53 = true := qck_r (nn_ _) (by decide +kernel)
theorem bs_X2_init_50 {P : Zt → Option Zv → Prop} (K : Int → Zl → List Zv → Zt → Prop) : sx_ K P [.aload 0, .iload 5] 53 = x_aload 0 (x_iload 5 (K 53)) := ((xe_aload 0).trans (congrArg (x_aload 0) ((xe_iload 5).trans (congrArg (x_iload 5) xe_nil))))
theorem fW_X2_38 : fW_ RX2 38 2 4 true := ⟨_, _, _, rfl, by decide, by decide, (lwq_4 (List.mem_of_getElem? (i := 0) rfl) rfl : Cond.fieldLink RX2 38 _ _ _ ∈ lw_g), rfl, .int, by decide +kernel, (fun _ h => by cases h), fun _ _ => ⟨rfl, rfl⟩⟩
theorem bk_X2_init_56 : ck_ fX2 none cX2_init 56 [.aload 0, .iload 6] 59 = true := qck_r (nn_ _) (by decide +kernel)
theorem bs_X2_init_56 {P : Zt → Option Zv → Prop} (K : Int → Zl → List Zv → Zt → Prop) : sx_ K P [.aload 0, .iload 6] 59 = x_aload 0 (x_iload 6 (K 59)) := ((xe_aload 0).trans (congrArg (x_aload 0) ((xe_iload 6).trans (congrArg (x_iload 6) xe_nil))))
theorem fW_X2_41 : fW_ RX2 41 2 5 true := ⟨_, _, _, rfl, by decide, by decide, (lwq_4 (List.mem_of_getElem? (i := 6) rfl) rfl : Cond.fieldLink RX2 41 _ _ _ ∈ lw_g), rfl, .int, by decide +kernel, (fun _ h => by cases h), fun _ _ => ⟨rfl, rfl⟩⟩
theorem bk_X2_init_62 : ck_ fX2 none cX2_init 62 [.return_] 63 = true := qck_r (nn_ _) (by decide +kernel)
theorem bs_X2_init_62 {P : Zt → Option Zv → Prop} (K : Int → Zl → List Zv → Zt → Prop) : sx_ K P [.return_] 63 = x_return_ P := (xe_return_)
abbrev po_X2_init (T : Zt) (n : Int) (c : Int) (m u h a d : Int) : Zt → Option Zv → Prop := fun T' r => r = none ∧ fr_ [(152, []), (448, []), (449, [])] T T' ∧ (oi_ T T' n ∧ (T' 152 n 0 = c + 1 ∧ T' 152 n 1 = m ∧ T' 152 n 2 = u ∧ T' 152 n 3 = h ∧ T' 152 n 4 = a ∧ T' 152 n 5 = d) ∧ (T' 152 n 6 = -1 ∧ T' 152 n 7 = -1 ∧ T' 152 n 8 = n + 1 ∧ T' 152 n 9 = n + 1 ∧ T' 152 n 10 = T 152 n 10) ∧ (∀ j, 0 ≤ j → T' 448 n j = 0) ∧ ∀ j, 0 ≤ j → T' 449 n j = 0)
set_option maxHeartbeats 4000000 in
theorem ct_X2_init {T : Zt} {n : Int} {c : Int} {m u h a d : Int} (h1 : 0 ≤ n ∧ n ≤ 399 ∧ 0 ≤ c ∧ c ≤ 3 ∧ 0 ≤ m ∧ m ≤ 399 ∧ 0 ≤ h ∧ h ≤ 11 ∧ 0 ≤ a ∧ a ≤ 11 ∧ 0 ≤ d ∧ d ≤ 999) (hf8 : ¬ T 448 n (-1) = 1) (hf9 : ¬ T 449 n (-1) = 1) : Ct_ yX2_init zX2_init T [vR 152 n, vR 100 c, vI m, vI u, vI h, vI a, vI d] (po_X2_init T n c m u h a d) := by
  refine ct_of pn_2 rfl rfl (Nat.le_of_ble_eq_true rfl) (fun hT hav => ?_)
  have hr_m : -2147483648 ≤ m ∧ m ≤ 2147483647 := hav (vI m) (List.mem_cons_of_mem _ (List.mem_cons_of_mem _ List.mem_cons_self))
  have hr_u : -2147483648 ≤ u ∧ u ≤ 2147483647 := hav (vI u) (List.mem_cons_of_mem _ (List.mem_cons_of_mem _ (List.mem_cons_of_mem _ List.mem_cons_self)))
  have hr_h : -2147483648 ≤ h ∧ h ≤ 2147483647 := hav (vI h) (List.mem_cons_of_mem _ (List.mem_cons_of_mem _ (List.mem_cons_of_mem _ (List.mem_cons_of_mem _ List.mem_cons_self))))
  have hr_a : -2147483648 ≤ a ∧ a ≤ 2147483647 := hav (vI a) (List.mem_cons_of_mem _ (List.mem_cons_of_mem _ (List.mem_cons_of_mem _ (List.mem_cons_of_mem _ (List.mem_cons_of_mem _ List.mem_cons_self)))))
  have hr_d : -2147483648 ≤ d ∧ d ≤ 2147483647 := hav (vI d) (List.mem_cons_of_mem _ (List.mem_cons_of_mem _ (List.mem_cons_of_mem _ (List.mem_cons_of_mem _ (List.mem_cons_of_mem _ (List.mem_cons_of_mem _ List.mem_cons_self))))))
  have hz : zX2_init.2.2.2.1 = some .boolean → ∀ (T' : Zt) (x : Int), po_X2_init T n c m u h a d T' (some (vI x)) → 0 ≤ x ∧ x ≤ 1 := fun h => by cases h
  have hth : T 152 n (-1) = 1 := ok_al (v := none) (by decide) (hav (vR 152 n) (by simp))
  show J_ zX2_init T (po_X2_init T n c m u h a d) 2 23 0 [some (vR 152 n), some (vR 100 c), some (vI m), some (vI u), some (vI h), some (vI a), some (vI d)] [] T
  refine j_blx (F := fX2) tb_X2 (nn_ _) bk_X2_init_0 bs_X2_init_0 hz (fun K hK => ?_)
  refine hK 1 _ [vR 152 n] T ?_
  refine j_objI (pc := 1) (lwq_3 (dqc_m (dqc_m (dqc_m (dqc_m (dqc_m (dqc_m (dqc_m (List.mem_of_getElem? (i := 1) rfl)))))))) rfl : Cond.methodLink RX2 3 Lib.objectInit ∈ lw_g) (lwq_1 (dqa_m (dqa_m (dqa_m (List.mem_of_getElem? (i := 3) rfl)))) rfl : Cond.instanceMethod Lib.objectInit ∈ lw_g) (lwq_1 (dqa_m (dqa_m (dqa_m (List.mem_of_getElem? (i := 4) rfl)))) rfl : Cond.code Lib.objectInit ⟨#[0xb1]⟩ 1 none ∈ lw_g) (by decide +kernel) (by decide) (by decide) (by decide) (by decide) ?_
  show J_ zX2_init T (po_X2_init T n c m u h a d) 2 23 4 _ [] T
  refine j_blx (F := fX2) tb_X2 (nn_ _) bk_X2_init_4 bs_X2_init_4 hz (fun K hK => ?_)
  refine hK 6 _ [vI (-1), vR 152 n] T ?_
  refine j_putW (pc := 6) (ci := 2) (j := 6) (z := (-1)) (by decide) (by decide) fW_X2_9 (by decide +kernel : (tf_ 152)[6]? = some (0, 0, (-1), 1)) (by decide) (by decide +kernel) rfl rfl (by omega) (by omega) ?_
  refine j_nm (fun U1 hU1 => ?_)
  have e2 := up_f hU1
  show J_ zX2_init T (po_X2_init T n c m u h a d) 2 23 9 _ [] U1
  refine j_blx (F := fX2) tb_X2 (nn_ _) bk_X2_init_9 bs_X2_init_9 hz (fun K hK => ?_)
  refine hK 11 _ [vI (-1), vR 152 n] U1 ?_
  refine j_putW (pc := 11) (ci := 2) (j := 7) (z := (-1)) (by decide) (by decide) fW_X2_15 (by decide +kernel : (tf_ 152)[7]? = some (0, 0, (-1), 7)) (by decide) (by decide +kernel) rfl rfl (by omega) (by omega) ?_
  refine j_nm (fun U3 hU3 => ?_)
  have e4 := up_f hU3
  show J_ zX2_init T (po_X2_init T n c m u h a d) 2 23 14 _ [] U3
  refine j_blx (F := fX2) tb_X2 (nn_ _) bk_X2_init_14 bs_X2_init_14 hz (fun K hK => ?_)
  refine hK 17 _ [vI 20, vR 152 n] U3 ?_
  have e6 : U3 448 n (-1) = T 448 n (-1) := (up_k hU3 (by exact Nat.ne_of_beq_eq_false rfl) n (-1)).trans (up_k hU1 (by exact Nat.ne_of_beq_eq_false rfl) n (-1))
  have e7 : U3 152 n (-1) = T 152 n (-1) := (up_j hU3 (by decide) 152 n).trans (up_j hU1 (by decide) 152 n)
  refine j_newI (bc' := 1) (bs' := 3) (pc := 17) (k := 448) (i := n) (by decide) (by decide +kernel : ta_ 448 = some (1, some 20, 0, 199)) (by decide) (by decide) (by show ¬ U3 448 n (-1) = 1; rw [e6]; exact hf8) (by omega) (by first | decide | omega) (by decide +kernel) (lwq_1 (dqc_m (dqc_m (dqa_m (List.mem_of_getElem? (i := 0) rfl)))) rfl : Cond.arrayClass .int ∈ lw_g) (fun o ho => by rw [show ow_ 448 = some 102 by decide] at ho; cases ho; exact Or.inr (show U3 152 n (-1) = 1 from (e7).trans hth)) ?_
  refine j_nm (fun U5 hU5 => ?_)
  have fU5 := nu_fr hU5
  have zU5 := nu_tz hU5
  have oU5 := nu_to hU5
  have vU5 := nu_tv hU5
  show J_ zX2_init T (po_X2_init T n c m u h a d) 1 3 19 _ [vR 448 n, vR 152 n] U5
  refine j_putW (pc := 19) (ci := 2) (j := 8) (z := n + 1) (by decide) (by decide) fW_X2_18 (by decide +kernel : (tf_ 152)[8]? = some (5, 448, (-2147483648), 2147483647)) (by decide) (by decide +kernel) (fv5_ (by omega)) rfl (by omega) (by omega) ?_
  refine j_nm (fun U8 hU8 => ?_)
  have e9 := up_f hU8
  show J_ zX2_init T (po_X2_init T n c m u h a d) 1 3 22 _ [] U8
  refine j_blx (F := fX2) tb_X2 (nn_ _) bk_X2_init_22 bs_X2_init_22 hz (fun K hK => ?_)
  refine hK 24 _ [vI 2, vR 152 n] U8 ?_
  have e11 : U8 449 n (-1) = T 449 n (-1) := (up_k hU8 (by exact Nat.ne_of_beq_eq_false rfl) n (-1)).trans ((fU5 449 n (-1) rfl).trans ((up_k hU3 (by exact Nat.ne_of_beq_eq_false rfl) n (-1)).trans (up_k hU1 (by exact Nat.ne_of_beq_eq_false rfl) n (-1))))
  have e12 : U8 152 n (-1) = T 152 n (-1) := (up_j hU8 (by decide) 152 n).trans ((fU5 152 n (-1) rfl).trans ((up_j hU3 (by decide) 152 n).trans (up_j hU1 (by decide) 152 n)))
  refine j_newI (bc' := 0) (bs' := 1) (pc := 24) (k := 449) (i := n) (by decide) (by decide +kernel : ta_ 449 = some (1, some 2, 0, 10)) (by decide) (by decide) (by show ¬ U8 449 n (-1) = 1; rw [e11]; exact hf9) (by omega) (by first | decide | omega) (by decide +kernel) (lwq_1 (dqc_m (dqc_m (dqa_m (List.mem_of_getElem? (i := 0) rfl)))) rfl : Cond.arrayClass .int ∈ lw_g) (fun o ho => by rw [show ow_ 449 = some 102 by decide] at ho; cases ho; exact Or.inr (show U8 152 n (-1) = 1 from (e12).trans hth)) ?_
  refine j_nm (fun U10 hU10 => ?_)
  have fU10 := nu_fr hU10
  have zU10 := nu_tz hU10
  have oU10 := nu_to hU10
  have vU10 := nu_tv hU10
  show J_ zX2_init T (po_X2_init T n c m u h a d) 0 1 26 _ [vR 449 n, vR 152 n] U10
  refine j_putW (pc := 26) (ci := 2) (j := 9) (z := n + 1) (by decide) (by decide) fW_X2_22 (by decide +kernel : (tf_ 152)[9]? = some (5, 449, (-2147483648), 2147483647)) (by decide) (by decide +kernel) (fv5_ (by omega)) rfl (by omega) (by omega) ?_
  refine j_nm (fun U13 hU13 => ?_)
  have e14 := up_f hU13
  show J_ zX2_init T (po_X2_init T n c m u h a d) 0 1 29 _ [] U13
  refine j_blx (F := fX2) tb_X2 (nn_ _) bk_X2_init_29 bs_X2_init_29 hz (fun K hK => ?_)
  refine hK 31 _ [vR 100 c, vR 152 n] U13 ?_
  refine j_putW (pc := 31) (ci := 2) (j := 0) (z := c + 1) (by decide) (by decide) fW_X2_25 (by decide +kernel : (tf_ 152)[0]? = some (5, 100, (-2147483648), 2147483647)) (by decide) (by decide +kernel) (fv5_ (by omega)) rfl (by omega) (by omega) ?_
  refine j_nm (fun U15 hU15 => ?_)
  have e16 := up_f hU15
  show J_ zX2_init T (po_X2_init T n c m u h a d) 0 1 34 _ [] U15
  refine j_blx (F := fX2) tb_X2 (nn_ _) bk_X2_init_34 bs_X2_init_34 hz (fun K hK => ?_)
  refine hK 36 _ [vI m, vR 152 n] U15 ?_
  refine j_putW (pc := 36) (ci := 2) (j := 1) (z := m) (by decide) (by decide) fW_X2_29 (by decide +kernel : (tf_ 152)[1]? = some (0, 0, 0, 399)) (by decide) (by decide +kernel) rfl rfl (by omega) (by omega) ?_
  refine j_nm (fun U17 hU17 => ?_)
  have e18 := up_f hU17
  show J_ zX2_init T (po_X2_init T n c m u h a d) 0 1 39 _ [] U17
  refine j_blx (F := fX2) tb_X2 (nn_ _) bk_X2_init_39 bs_X2_init_39 hz (fun K hK => ?_)
  refine hK 41 _ [vI u, vR 152 n] U17 ?_
  refine j_putW (pc := 41) (ci := 2) (j := 2) (z := u) (by decide) (by decide) fW_X2_32 (by decide +kernel : (tf_ 152)[2]? = some (0, 0, (-2147483648), 2147483647)) (by decide) (by decide +kernel) rfl rfl (by omega) (by omega) ?_
  refine j_nm (fun U19 hU19 => ?_)
  have e20 := up_f hU19
  show J_ zX2_init T (po_X2_init T n c m u h a d) 0 1 44 _ [] U19
  refine j_blx (F := fX2) tb_X2 (nn_ _) bk_X2_init_44 bs_X2_init_44 hz (fun K hK => ?_)
  refine hK 47 _ [vI h, vR 152 n] U19 ?_
  refine j_putW (pc := 47) (ci := 2) (j := 3) (z := h) (by decide) (by decide) fW_X2_35 (by decide +kernel : (tf_ 152)[3]? = some (0, 0, 0, 11)) (by decide) (by decide +kernel) rfl rfl (by omega) (by omega) ?_
  refine j_nm (fun U21 hU21 => ?_)
  have e22 := up_f hU21
  show J_ zX2_init T (po_X2_init T n c m u h a d) 0 1 50 _ [] U21
  refine j_blx (F := fX2) tb_X2 (nn_ _) bk_X2_init_50 bs_X2_init_50 hz (fun K hK => ?_)
  refine hK 53 _ [vI a, vR 152 n] U21 ?_
  refine j_putW (pc := 53) (ci := 2) (j := 4) (z := a) (by decide) (by decide) fW_X2_38 (by decide +kernel : (tf_ 152)[4]? = some (0, 0, 0, 11)) (by decide) (by decide +kernel) rfl rfl (by omega) (by omega) ?_
  refine j_nm (fun U23 hU23 => ?_)
  have e24 := up_f hU23
  show J_ zX2_init T (po_X2_init T n c m u h a d) 0 1 56 _ [] U23
  refine j_blx (F := fX2) tb_X2 (nn_ _) bk_X2_init_56 bs_X2_init_56 hz (fun K hK => ?_)
  refine hK 59 _ [vI d, vR 152 n] U23 ?_
  refine j_putW (pc := 59) (ci := 2) (j := 5) (z := d) (by decide) (by decide) fW_X2_41 (by decide +kernel : (tf_ 152)[5]? = some (0, 0, 0, 999)) (by decide) (by decide +kernel) rfl rfl (by omega) (by omega) ?_
  refine j_nm (fun U25 hU25 => ?_)
  have e26 := up_f hU25
  show J_ zX2_init T (po_X2_init T n c m u h a d) 0 1 62 _ [] U25
  refine j_blx (F := fX2) tb_X2 (nn_ _) bk_X2_init_62 bs_X2_init_62 hz (fun K hK => ?_)
  refine (show po_X2_init T n c m u h a d U25 (none) from ?_)
  have e27 : U25 152 n 0 = c + 1 := (up_j hU25 (by decide) 152 n).trans ((up_j hU23 (by decide) 152 n).trans ((up_j hU21 (by decide) 152 n).trans ((up_j hU19 (by decide) 152 n).trans ((up_j hU17 (by decide) 152 n).trans (up_f hU15)))))
  have e28 : U25 152 n 1 = m := (up_j hU25 (by decide) 152 n).trans ((up_j hU23 (by decide) 152 n).trans ((up_j hU21 (by decide) 152 n).trans ((up_j hU19 (by decide) 152 n).trans (up_f hU17))))
  have e29 : U25 152 n 2 = u := (up_j hU25 (by decide) 152 n).trans ((up_j hU23 (by decide) 152 n).trans ((up_j hU21 (by decide) 152 n).trans (up_f hU19)))
  have e30 : U25 152 n 3 = h := (up_j hU25 (by decide) 152 n).trans ((up_j hU23 (by decide) 152 n).trans (up_f hU21))
  have e31 : U25 152 n 4 = a := (up_j hU25 (by decide) 152 n).trans (up_f hU23)
  have e32 : U25 152 n 5 = d := up_f hU25
  have e33 : U25 152 n 6 = (-1) := (up_j hU25 (by decide) 152 n).trans ((up_j hU23 (by decide) 152 n).trans ((up_j hU21 (by decide) 152 n).trans ((up_j hU19 (by decide) 152 n).trans ((up_j hU17 (by decide) 152 n).trans ((up_j hU15 (by decide) 152 n).trans ((up_j hU13 (by decide) 152 n).trans ((fU10 152 n 6 rfl).trans ((up_j hU8 (by decide) 152 n).trans ((fU5 152 n 6 rfl).trans ((up_j hU3 (by decide) 152 n).trans (up_f hU1)))))))))))
  have e34 : U25 152 n 7 = (-1) := (up_j hU25 (by decide) 152 n).trans ((up_j hU23 (by decide) 152 n).trans ((up_j hU21 (by decide) 152 n).trans ((up_j hU19 (by decide) 152 n).trans ((up_j hU17 (by decide) 152 n).trans ((up_j hU15 (by decide) 152 n).trans ((up_j hU13 (by decide) 152 n).trans ((fU10 152 n 7 rfl).trans ((up_j hU8 (by decide) 152 n).trans ((fU5 152 n 7 rfl).trans (up_f hU3))))))))))
  have e35 : U25 152 n 8 = n + 1 := (up_j hU25 (by decide) 152 n).trans ((up_j hU23 (by decide) 152 n).trans ((up_j hU21 (by decide) 152 n).trans ((up_j hU19 (by decide) 152 n).trans ((up_j hU17 (by decide) 152 n).trans ((up_j hU15 (by decide) 152 n).trans ((up_j hU13 (by decide) 152 n).trans ((fU10 152 n 8 rfl).trans (up_f hU8))))))))
  have e36 : U25 152 n 9 = n + 1 := (up_j hU25 (by decide) 152 n).trans ((up_j hU23 (by decide) 152 n).trans ((up_j hU21 (by decide) 152 n).trans ((up_j hU19 (by decide) 152 n).trans ((up_j hU17 (by decide) 152 n).trans ((up_j hU15 (by decide) 152 n).trans (up_f hU13))))))
  have e37 : U25 152 n 10 = T 152 n 10 := (up_j hU25 (by decide) 152 n).trans ((up_j hU23 (by decide) 152 n).trans ((up_j hU21 (by decide) 152 n).trans ((up_j hU19 (by decide) 152 n).trans ((up_j hU17 (by decide) 152 n).trans ((up_j hU15 (by decide) 152 n).trans ((up_j hU13 (by decide) 152 n).trans ((fU10 152 n 10 rfl).trans ((up_j hU8 (by decide) 152 n).trans ((fU5 152 n 10 rfl).trans ((up_j hU3 (by decide) 152 n).trans (up_j hU1 (by decide) 152 n)))))))))))
  exact ⟨rfl, fr_u (fr_u (fr_u (fr_u (fr_u (fr_u (fr_u (fr_t (fr_u (fr_t (fr_u (fr_u (fr_0 _ _) hU1 rfl) hU3 rfl) (fr_s fU5 rfl)) hU8 rfl) (fr_s fU10 rfl)) hU13 rfl) hU15 rfl) hU17 rfl) hU19 rfl) hU21 rfl) hU23 rfl) hU25 rfl, oi_u (oi_u (oi_u (oi_u (oi_u (oi_u (oi_u (oi_n (oi_u (oi_n (oi_u (oi_u (oi_r) hU1) hU3) oU5) hU8) oU10) hU13) hU15) hU17) hU19) hU21) hU23) hU25, by omega, by omega, fun j hj => ((up_k hU25 (by exact Nat.ne_of_beq_eq_false rfl) _ _).trans ((up_k hU23 (by exact Nat.ne_of_beq_eq_false rfl) _ _).trans ((up_k hU21 (by exact Nat.ne_of_beq_eq_false rfl) _ _).trans ((up_k hU19 (by exact Nat.ne_of_beq_eq_false rfl) _ _).trans ((up_k hU17 (by exact Nat.ne_of_beq_eq_false rfl) _ _).trans ((up_k hU15 (by exact Nat.ne_of_beq_eq_false rfl) _ _).trans ((up_k hU13 (by exact Nat.ne_of_beq_eq_false rfl) _ _).trans ((fU10 448 _ _ rfl).trans (up_k hU8 (by exact Nat.ne_of_beq_eq_false rfl) _ _))))))))).trans (zU5 _ (by omega)), fun j hj => ((up_k hU25 (by exact Nat.ne_of_beq_eq_false rfl) _ _).trans ((up_k hU23 (by exact Nat.ne_of_beq_eq_false rfl) _ _).trans ((up_k hU21 (by exact Nat.ne_of_beq_eq_false rfl) _ _).trans ((up_k hU19 (by exact Nat.ne_of_beq_eq_false rfl) _ _).trans ((up_k hU17 (by exact Nat.ne_of_beq_eq_false rfl) _ _).trans ((up_k hU15 (by exact Nat.ne_of_beq_eq_false rfl) _ _).trans (up_k hU13 (by exact Nat.ne_of_beq_eq_false rfl) _ _))))))).trans (zU10 _ (by omega))⟩
abbrev po_J7_fill_404 (T : Zt) (p : Int) (v : Int) : Zt → Option Zv → Prop := fun T' r => r = none ∧ fr_ [(404, [])] T T' ∧ oi_ T T' p ∧ ∀ j, 0 ≤ j → j < 12 → T' 404 p j = v
set_option maxHeartbeats 4000000 in
theorem ct_J7_fill_404 {T : Zt} {p : Int} {v : Int} (h1 : (-1) ≤ v ∧ v ≤ 11) : Ct_ yJ7_fill_53178 zJ7_fill_53178 T [vR 404 p, vI v] (po_J7_fill_404 T p v) := by
  refine ct_of (by decide) rfl rfl (Nat.le_of_ble_eq_true rfl) (fun hT hav => ?_)
  have hr_v : -2147483648 ≤ v ∧ v ≤ 2147483647 := hav (vI v) (List.mem_cons_of_mem _ List.mem_cons_self)
  have hz : zJ7_fill_53178.2.2.2.1 = some .boolean → ∀ (T' : Zt) (x : Int), po_J7_fill_404 T p v T' (some (vI x)) → 0 ≤ x ∧ x ≤ 1 := fun h => by cases h
  show J_ zJ7_fill_53178 T (po_J7_fill_404 T p v) 0 0 0 [some (vR 404 p), some (vI v), none, none] [] T
  have c_5 : ∀ (nn : Nat) (j : Int) (T1 : Zt), ((12 - j).toNat) ≤ nn → (fr_ [(404, [])] T T1) → (0 ≤ j ∧ j ≤ 12) → (oi_ T T1 p) → (∀ q, 0 ≤ q → q < j → T1 404 p q = v) → J_ zJ7_fill_53178 T (po_J7_fill_404 T p v) 0 0 5 [some (vR 404 p), some (vI v), some (vI j), some (vI 12)] [] T1 := by
    intro nn
    induction nn using Nat.strongRecOn with
    | _ nn ih_5 =>
      intro j T1 hm_5 hf_5 i1 o1 f1
      replace hm_5 := fun (_ : Unit) => hm_5
      refine j_blx (F := fJ7) tb_J7 (nn_ _) bk_J7_fill_53178_5 bs_J7_fill_53178_5 hz (fun K hK => ?_)
      refine And.intro (fun c1 => ?_) (fun c1 => ?_)
      · refine hK 20 _ [] T1 ?_
        refine j_blx (F := fJ7) tb_J7 (nn_ _) bk_J7_fill_53178_20 bs_J7_fill_53178_20 hz (fun K hK => ?_)
        refine (show po_J7_fill_404 T p v T1 (none) from ?_)
        exact ⟨rfl, fr_t (fr_0 _ _) (fr_s hf_5 rfl), o1, fun q a b => f1 q a (by omega)⟩
      · refine iy_i (by omega) (by omega) ?_
        refine x_nm (fun U2 hU2 => ?_)
        have e3 := up_f hU2
        refine rg_i (by omega) ?_
        refine hK 5 [some (vR 404 p), some (vI v), some (vI (j + 1)), some (vI 12)] [] U2 ?_
        refine ih_5 _ ?_ (j + 1) U2 (Nat.le_refl _) ?_ ?_ ?_ ?_
        · have hm_5 := hm_5 (); omega
        · exact fr_u (fr_t (fr_0 _ _) (fr_s hf_5 rfl)) hU2 rfl
        · omega
        · exact oi_u o1 hU2
        · intro q a b
          by_cases z : q = j
          · rw [z]; exact up_f hU2
          · rw [up_g hU2 (fun y => z y.2.2)]; exact f1 q a (by omega)
  refine j_blx (F := fJ7) tb_J7 (nn_ _) bk_J7_fill_53178_0 bs_J7_fill_53178_0 hz (fun K hK => ?_)
  refine hK 5 [some (vR 404 p), some (vI v), some (vI 0), some (vI 12)] [] T ?_
  refine c_5 _ 0 T (Nat.le_refl _) ?_ ?_ ?_ ?_
  · exact fr_0 _ _
  · omega
  · exact oi_r
  · intro q a b; omega
abbrev cX0_init : ByteArray := prog_2_method_1_code
def yX0_init : MethodName := ⟨RX0, "<init>", "(I[I[I)V"⟩
def zX0_init : Zm := (RX0, cX0_init, 4, none, { frames := 1, cells := 2, slots := 25, locals := 30 })
theorem bk_X0_init_0 : ck_ fX0 none cX0_init 0 [.aload 0] 1 = true := qck_r (nn_ _) (by decide +kernel)
theorem bs_X0_init_0 {P : Zt → Option Zv → Prop} (K : Int → Zl → List Zv → Zt → Prop) : sx_ K P [.aload 0] 1 = x_aload 0 (K 1) := ((xe_aload 0).trans (congrArg (x_aload 0) xe_nil))
theorem bk_X0_init_4 : ck_ fX0 none cX0_init 4 [.aload 0, .iconst 12] 7 = true := qck_r (nn_ _) (by decide +kernel)
theorem bs_X0_init_4 {P : Zt → Option Zv → Prop} (K : Int → Zl → List Zv → Zt → Prop) : sx_ K P [.aload 0, .iconst 12] 7 = x_aload 0 (x_iconst 12 (K 7)) := ((xe_aload 0).trans (congrArg (x_aload 0) ((xe_iconst 12).trans (congrArg (x_iconst 12) xe_nil))))
theorem fW_X0_9 : fW_ RX0 9 0 3 false := ⟨_, _, _, rfl, by decide, by decide, (lwq_3 (dqc_m (dqc_m (dqa_m (dqa_m (dqa_m (List.mem_of_getElem? (i := 3) rfl)))))) rfl : Cond.fieldLink RX0 9 _ _ _ ∈ lw_g), rfl, .array .int, by decide +kernel, fun _ _ => ⟨rfl, rfl⟩, (fun _ h => by cases h)⟩
theorem bk_X0_init_12 : ck_ fX0 none cX0_init 12 [.aload 0, .iconst 12] 15 = true := qck_r (nn_ _) (by decide +kernel)
theorem bs_X0_init_12 {P : Zt → Option Zv → Prop} (K : Int → Zl → List Zv → Zt → Prop) : sx_ K P [.aload 0, .iconst 12] 15 = x_aload 0 (x_iconst 12 (K 15)) := ((xe_aload 0).trans (congrArg (x_aload 0) ((xe_iconst 12).trans (congrArg (x_iconst 12) xe_nil))))
theorem fW_X0_15 : fW_ RX0 15 0 4 false := ⟨_, _, _, rfl, by decide, by decide, (lwq_3 (dqc_m (dqc_m (dqc_m (List.mem_of_getElem? (i := 0) rfl)))) rfl : Cond.fieldLink RX0 15 _ _ _ ∈ lw_g), rfl, .array .int, by decide +kernel, fun _ _ => ⟨rfl, rfl⟩, (fun _ h => by cases h)⟩
theorem bk_X0_init_20 : ck_ fX0 none cX0_init 20 [.aload 0, .iload 1] 22 = true := qck_r (nn_ _) (by decide +kernel)
theorem bs_X0_init_20 {P : Zt → Option Zv → Prop} (K : Int → Zl → List Zv → Zt → Prop) : sx_ K P [.aload 0, .iload 1] 22 = x_aload 0 (x_iload 1 (K 22)) := ((xe_aload 0).trans (congrArg (x_aload 0) ((xe_iload 1).trans (congrArg (x_iload 1) xe_nil))))
theorem fW_X0_18 : fW_ RX0 18 0 0 true := ⟨_, _, _, rfl, by decide, by decide, (lwq_3 (dqc_m (dqc_m (dqa_m (List.mem_of_getElem? (i := 7) rfl)))) rfl : Cond.fieldLink RX0 18 _ _ _ ∈ lw_g), rfl, .int, by decide +kernel, (fun _ h => by cases h), fun _ _ => ⟨rfl, rfl⟩⟩
theorem bk_X0_init_25 : ck_ fX0 none cX0_init 25 [.aload 0, .aload 2] 27 = true := qck_r (nn_ _) (by decide +kernel)
theorem bs_X0_init_25 {P : Zt → Option Zv → Prop} (K : Int → Zl → List Zv → Zt → Prop) : sx_ K P [.aload 0, .aload 2] 27 = x_aload 0 (x_aload 2 (K 27)) := ((xe_aload 0).trans (congrArg (x_aload 0) ((xe_aload 2).trans (congrArg (x_aload 2) xe_nil))))
theorem fW_X0_22 : fW_ RX0 22 0 1 false := ⟨_, _, _, rfl, by decide, by decide, (lwq_3 (dqc_m (dqc_m (dqa_m (dqa_m (List.mem_of_getElem? (i := 2) rfl))))) rfl : Cond.fieldLink RX0 22 _ _ _ ∈ lw_g), rfl, .array .int, by decide +kernel, fun _ _ => ⟨rfl, rfl⟩, (fun _ h => by cases h)⟩
theorem bk_X0_init_30 : ck_ fX0 none cX0_init 30 [.aload 0, .aload 3] 32 = true := qck_r (nn_ _) (by decide +kernel)
theorem bs_X0_init_30 {P : Zt → Option Zv → Prop} (K : Int → Zl → List Zv → Zt → Prop) : sx_ K P [.aload 0, .aload 3] 32 = x_aload 0 (x_aload 3 (K 32)) := ((xe_aload 0).trans (congrArg (x_aload 0) ((xe_aload 3).trans (congrArg (x_aload 3) xe_nil))))
theorem fW_X0_25 : fW_ RX0 25 0 2 false := ⟨_, _, _, rfl, by decide, by decide, (lwq_3 (dqc_m (dqc_m (dqa_m (dqa_m (dqa_m (List.mem_of_getElem? (i := 0) rfl)))))) rfl : Cond.fieldLink RX0 25 _ _ _ ∈ lw_g), rfl, .array .int, by decide +kernel, fun _ _ => ⟨rfl, rfl⟩, (fun _ h => by cases h)⟩
theorem bk_X0_init_35 : ck_ fX0 none cX0_init 35 [.aload 0] 36 = true := qck_r (nn_ _) (by decide +kernel)
theorem bs_X0_init_35 {P : Zt → Option Zv → Prop} (K : Int → Zl → List Zv → Zt → Prop) : sx_ K P [.aload 0] 36 = x_aload 0 (K 36) := ((xe_aload 0).trans (congrArg (x_aload 0) xe_nil))
theorem bk_X0_init_39 : ck_ fX0 none cX0_init 39 [.iconst (-1)] 40 = true := qck_r (nn_ _) (by decide +kernel)
theorem bs_X0_init_39 {P : Zt → Option Zv → Prop} (K : Int → Zl → List Zv → Zt → Prop) : sx_ K P [.iconst (-1)] 40 = x_iconst (-1) (K 40) := ((xe_iconst (-1)).trans (congrArg (x_iconst (-1)) xe_nil))
set_option maxRecDepth 100000 in
theorem cl_X0_28 : cs_ RX0 28 yJ7_fill_53178 zJ7_fill_53178 2 := ⟨gi_S (lwq_3 (dqc_m (dqc_m (dqa_m (List.mem_of_getElem? (i := 6) rfl)))) rfl : Cond.methodLink RX0 28 yJ7_fill_53178 ∈ lw_g) (lwq_2 (dqa_m (dqa_m (dqa_m (List.mem_of_getElem? (i := 2) rfl)))) rfl : Cond.static yJ7_fill_53178 ∈ lw_g) (lwq_1 (List.mem_of_getElem? (i := 7) rfl) rfl : Cond.initialized yJ7_fill_53178.cls ∈ lw_g) (lwq_2 (dqa_m (dqa_m (dqa_m (List.mem_of_getElem? (i := 3) rfl)))) rfl : Cond.code yJ7_fill_53178 cJ7_fill_53178 4 none ∈ lw_g), ⟨by decide, by decide, by decide +kernel⟩⟩
theorem bk_X0_init_43 : ck_ fX0 none cX0_init 43 [.return_] 44 = true := qck_r (nn_ _) (by decide +kernel)
theorem bs_X0_init_43 {P : Zt → Option Zv → Prop} (K : Int → Zl → List Zv → Zt → Prop) : sx_ K P [.return_] 44 = x_return_ P := (xe_return_)
abbrev po_X0_init (T : Zt) (n : Int) (m : Int) : Zt → Option Zv → Prop := fun T' r => r = none ∧ fr_ [(150, []), (403, []), (404, [])] T T' ∧ (oi_ T T' n ∧ (T' 150 n 0 = m ∧ T' 150 n 1 = n + 1 ∧ T' 150 n 2 = n + 1 ∧ T' 150 n 3 = n + 1 ∧ T' 150 n 4 = n + 1) ∧ (T' 150 n 5 = T 150 n 5 ∧ T' 150 n 6 = T 150 n 6 ∧ T' 150 n 7 = T 150 n 7 ∧ T' 150 n 8 = T 150 n 8) ∧ ∀ j, 0 ≤ j → j < 12 → T' 404 n j = -1)
set_option maxHeartbeats 4000000 in
theorem ct_X0_init {T : Zt} {n : Int} {m : Int} (h1 : 0 ≤ n ∧ n ≤ 3 ∧ 0 ≤ m ∧ m ≤ 3) (hf3 : ¬ T 403 n (-1) = 1) (hf4 : ¬ T 404 n (-1) = 1) : Ct_ yX0_init zX0_init T [vR 150 n, vI m, vR 401 n, vR 402 n] (po_X0_init T n m) := by
  refine ct_of pn_0 rfl rfl (Nat.le_of_ble_eq_true rfl) (fun hT hav => ?_)
  have hr_m : -2147483648 ≤ m ∧ m ≤ 2147483647 := hav (vI m) (List.mem_cons_of_mem _ List.mem_cons_self)
  have hz : zX0_init.2.2.2.1 = some .boolean → ∀ (T' : Zt) (x : Int), po_X0_init T n m T' (some (vI x)) → 0 ≤ x ∧ x ≤ 1 := fun h => by cases h
  have hth : T 150 n (-1) = 1 := ok_al (v := none) (by decide) (hav (vR 150 n) (by simp))
  show J_ zX0_init T (po_X0_init T n m) 2 25 0 [some (vR 150 n), some (vI m), some (vR 401 n), some (vR 402 n)] [] T
  refine j_blx (F := fX0) tb_X0 (nn_ _) bk_X0_init_0 bs_X0_init_0 hz (fun K hK => ?_)
  refine hK 1 _ [vR 150 n] T ?_
  refine j_objI (pc := 1) (lwq_3 (dqc_m (dqc_m (dqa_m (List.mem_of_getElem? (i := 5) rfl)))) rfl : Cond.methodLink RX0 3 Lib.objectInit ∈ lw_g) (lwq_1 (dqa_m (dqa_m (dqa_m (List.mem_of_getElem? (i := 3) rfl)))) rfl : Cond.instanceMethod Lib.objectInit ∈ lw_g) (lwq_1 (dqa_m (dqa_m (dqa_m (List.mem_of_getElem? (i := 4) rfl)))) rfl : Cond.code Lib.objectInit ⟨#[0xb1]⟩ 1 none ∈ lw_g) (by decide +kernel) (by decide) (by decide) (by decide) (by decide) ?_
  show J_ zX0_init T (po_X0_init T n m) 2 25 4 _ [] T
  refine j_blx (F := fX0) tb_X0 (nn_ _) bk_X0_init_4 bs_X0_init_4 hz (fun K hK => ?_)
  refine hK 7 _ [vI 12, vR 150 n] T ?_
  refine j_newI (bc' := 1) (bs' := 13) (pc := 7) (k := 403) (i := n) (by decide) (by decide +kernel : ta_ 403 = some (1, some 12, 0, 11)) (by decide) (by decide) (hf3) (by omega) (by first | decide | omega) (by decide +kernel) (lwq_1 (dqc_m (dqc_m (dqa_m (List.mem_of_getElem? (i := 0) rfl)))) rfl : Cond.arrayClass .int ∈ lw_g) (fun o ho => by rw [show ow_ 403 = some 100 by decide] at ho; cases ho; exact Or.inr (show T 150 n (-1) = 1 from hth)) ?_
  refine j_nm (fun U1 hU1 => ?_)
  have fU1 := nu_fr hU1
  have zU1 := nu_tz hU1
  have oU1 := nu_to hU1
  have vU1 := nu_tv hU1
  show J_ zX0_init T (po_X0_init T n m) 1 13 9 _ [vR 403 n, vR 150 n] U1
  refine j_putW (pc := 9) (ci := 0) (j := 3) (z := n + 1) (by decide) (by decide) fW_X0_9 (by decide +kernel : (tf_ 150)[3]? = some (5, 403, (-2147483648), 2147483647)) (by decide) (by decide +kernel) (fv5_ (by omega)) rfl (by omega) (by omega) ?_
  refine j_nm (fun U2 hU2 => ?_)
  have e3 := up_f hU2
  show J_ zX0_init T (po_X0_init T n m) 1 13 12 _ [] U2
  refine j_blx (F := fX0) tb_X0 (nn_ _) bk_X0_init_12 bs_X0_init_12 hz (fun K hK => ?_)
  refine hK 15 _ [vI 12, vR 150 n] U2 ?_
  have e5 : U2 404 n (-1) = T 404 n (-1) := (up_k hU2 (by exact Nat.ne_of_beq_eq_false rfl) n (-1)).trans (fU1 404 n (-1) rfl)
  have e6 : U2 150 n (-1) = T 150 n (-1) := (up_j hU2 (by decide) 150 n).trans (fU1 150 n (-1) rfl)
  refine j_newI (bc' := 0) (bs' := 1) (pc := 15) (k := 404) (i := n) (by decide) (by decide +kernel : ta_ 404 = some (1, some 12, (-1), 11)) (by decide) (by decide) (by show ¬ U2 404 n (-1) = 1; rw [e5]; exact hf4) (by omega) (by first | decide | omega) (by decide +kernel) (lwq_1 (dqc_m (dqc_m (dqa_m (List.mem_of_getElem? (i := 0) rfl)))) rfl : Cond.arrayClass .int ∈ lw_g) (fun o ho => by rw [show ow_ 404 = some 100 by decide] at ho; cases ho; exact Or.inr (show U2 150 n (-1) = 1 from (e6).trans hth)) ?_
  refine j_nm (fun U4 hU4 => ?_)
  have fU4 := nu_fr hU4
  have zU4 := nu_tz hU4
  have oU4 := nu_to hU4
  have vU4 := nu_tv hU4
  show J_ zX0_init T (po_X0_init T n m) 0 1 17 _ [vR 404 n, vR 150 n] U4
  refine j_putW (pc := 17) (ci := 0) (j := 4) (z := n + 1) (by decide) (by decide) fW_X0_15 (by decide +kernel : (tf_ 150)[4]? = some (5, 404, (-2147483648), 2147483647)) (by decide) (by decide +kernel) (fv5_ (by omega)) rfl (by omega) (by omega) ?_
  refine j_nm (fun U7 hU7 => ?_)
  have e8 := up_f hU7
  show J_ zX0_init T (po_X0_init T n m) 0 1 20 _ [] U7
  refine j_blx (F := fX0) tb_X0 (nn_ _) bk_X0_init_20 bs_X0_init_20 hz (fun K hK => ?_)
  refine hK 22 _ [vI m, vR 150 n] U7 ?_
  refine j_putW (pc := 22) (ci := 0) (j := 0) (z := m) (by decide) (by decide) fW_X0_18 (by decide +kernel : (tf_ 150)[0]? = some (0, 0, 0, 3)) (by decide) (by decide +kernel) rfl rfl (by omega) (by omega) ?_
  refine j_nm (fun U9 hU9 => ?_)
  have e10 := up_f hU9
  show J_ zX0_init T (po_X0_init T n m) 0 1 25 _ [] U9
  refine j_blx (F := fX0) tb_X0 (nn_ _) bk_X0_init_25 bs_X0_init_25 hz (fun K hK => ?_)
  refine hK 27 _ [vR 401 n, vR 150 n] U9 ?_
  refine j_putW (pc := 27) (ci := 0) (j := 1) (z := n + 1) (by decide) (by decide) fW_X0_22 (by decide +kernel : (tf_ 150)[1]? = some (5, 401, (-2147483648), 2147483647)) (by decide) (by decide +kernel) (fv5_ (by omega)) rfl (by omega) (by omega) ?_
  refine j_nm (fun U11 hU11 => ?_)
  have e12 := up_f hU11
  show J_ zX0_init T (po_X0_init T n m) 0 1 30 _ [] U11
  refine j_blx (F := fX0) tb_X0 (nn_ _) bk_X0_init_30 bs_X0_init_30 hz (fun K hK => ?_)
  refine hK 32 _ [vR 402 n, vR 150 n] U11 ?_
  refine j_putW (pc := 32) (ci := 0) (j := 2) (z := n + 1) (by decide) (by decide) fW_X0_25 (by decide +kernel : (tf_ 150)[2]? = some (5, 402, (-2147483648), 2147483647)) (by decide) (by decide +kernel) (fv5_ (by omega)) rfl (by omega) (by omega) ?_
  refine j_nm (fun U13 hU13 => ?_)
  have e14 := up_f hU13
  show J_ zX0_init T (po_X0_init T n m) 0 1 35 _ [] U13
  refine j_blx (F := fX0) tb_X0 (nn_ _) bk_X0_init_35 bs_X0_init_35 hz (fun K hK => ?_)
  refine hK 36 _ [vR 150 n] U13 ?_
  have e15 : U13 150 n 4 = n + 1 := (up_j hU13 (by decide) 150 n).trans ((up_j hU11 (by decide) 150 n).trans ((up_j hU9 (by decide) 150 n).trans (up_f hU7)))
  refine j_getW (pc := 36) (ci := 0) (j := 4) (v := vR 404 n) (by decide) (by decide) vi_0 (by decide) (lwq_3 (dqc_m (dqc_m (dqc_m (List.mem_of_getElem? (i := 0) rfl)))) rfl : Cond.fieldLink RX0 15 _ _ _ ∈ lw_g) (by decide +kernel : (tf_ 150)[4]? = some (5, 404, (-2147483648), 2147483647)) (by decide +kernel) (by rw [show (((4 : Nat) : Int)) = 4 from rfl, e15]; exact fv5_ (by omega)) ?_
  show J_ zX0_init T (po_X0_init T n m) 0 1 39 _ [vR 404 n] U13
  refine j_blx (F := fX0) tb_X0 (nn_ _) bk_X0_init_39 bs_X0_init_39 hz (fun K hK => ?_)
  refine hK 40 _ [vI (-1), vR 404 n] U13 ?_
  refine j_callS (y := yJ7_fill_53178) (Yc := zJ7_fill_53178) (rest := []) [vR 404 n, vI (-1)] (ct_J7_fill_404 (T := U13) (by omega)) cl_X0_28 (qd_c (by decide +kernel)) (nn_ _) rfl (rf_of rfl) (Nat.le_of_ble_eq_true rfl) (Nat.le_of_ble_eq_true rfl) (Nat.le_of_ble_eq_true rfl) rfl ?_
  rintro U16 _ ⟨rfl, fU16, qU16o, qU16⟩
  show J_ zX0_init T (po_X0_init T n m) 0 1 43 _ [] U16
  refine j_blx (F := fX0) tb_X0 (nn_ _) bk_X0_init_43 bs_X0_init_43 hz (fun K hK => ?_)
  refine (show po_X0_init T n m U16 (none) from ?_)
  have e17 : U16 150 n 0 = m := (fU16 150 n 0 rfl).trans ((up_j hU13 (by decide) 150 n).trans ((up_j hU11 (by decide) 150 n).trans (up_f hU9)))
  have e18 : U16 150 n 1 = n + 1 := (fU16 150 n 1 rfl).trans ((up_j hU13 (by decide) 150 n).trans (up_f hU11))
  have e19 : U16 150 n 2 = n + 1 := (fU16 150 n 2 rfl).trans (up_f hU13)
  have e20 : U16 150 n 3 = n + 1 := (fU16 150 n 3 rfl).trans ((up_j hU13 (by decide) 150 n).trans ((up_j hU11 (by decide) 150 n).trans ((up_j hU9 (by decide) 150 n).trans ((up_j hU7 (by decide) 150 n).trans ((fU4 150 n 3 rfl).trans (up_f hU2))))))
  have e21 : U16 150 n 4 = n + 1 := (fU16 150 n 4 rfl).trans ((up_j hU13 (by decide) 150 n).trans ((up_j hU11 (by decide) 150 n).trans ((up_j hU9 (by decide) 150 n).trans (up_f hU7))))
  have e22 : U16 150 n 5 = T 150 n 5 := (fU16 150 n 5 rfl).trans ((up_j hU13 (by decide) 150 n).trans ((up_j hU11 (by decide) 150 n).trans ((up_j hU9 (by decide) 150 n).trans ((up_j hU7 (by decide) 150 n).trans ((fU4 150 n 5 rfl).trans ((up_j hU2 (by decide) 150 n).trans (fU1 150 n 5 rfl)))))))
  have e23 : U16 150 n 6 = T 150 n 6 := (fU16 150 n 6 rfl).trans ((up_j hU13 (by decide) 150 n).trans ((up_j hU11 (by decide) 150 n).trans ((up_j hU9 (by decide) 150 n).trans ((up_j hU7 (by decide) 150 n).trans ((fU4 150 n 6 rfl).trans ((up_j hU2 (by decide) 150 n).trans (fU1 150 n 6 rfl)))))))
  have e24 : U16 150 n 7 = T 150 n 7 := (fU16 150 n 7 rfl).trans ((up_j hU13 (by decide) 150 n).trans ((up_j hU11 (by decide) 150 n).trans ((up_j hU9 (by decide) 150 n).trans ((up_j hU7 (by decide) 150 n).trans ((fU4 150 n 7 rfl).trans ((up_j hU2 (by decide) 150 n).trans (fU1 150 n 7 rfl)))))))
  have e25 : U16 150 n 8 = T 150 n 8 := (fU16 150 n 8 rfl).trans ((up_j hU13 (by decide) 150 n).trans ((up_j hU11 (by decide) 150 n).trans ((up_j hU9 (by decide) 150 n).trans ((up_j hU7 (by decide) 150 n).trans ((fU4 150 n 8 rfl).trans ((up_j hU2 (by decide) 150 n).trans (fU1 150 n 8 rfl)))))))
  exact ⟨rfl, fr_t (fr_u (fr_u (fr_u (fr_u (fr_t (fr_u (fr_t (fr_0 _ _) (fr_s fU1 rfl)) hU2 rfl) (fr_s fU4 rfl)) hU7 rfl) hU9 rfl) hU11 rfl) hU13 rfl) (fr_s fU16 rfl), oi_t (oi_u (oi_u (oi_u (oi_u (oi_n (oi_u (oi_n (oi_r) oU1) hU2) oU4) hU7) hU9) hU11) hU13) qU16o, by omega, by omega, fun j a b => qU16 j a b⟩
abbrev cX3_init : ByteArray := prog_5_method_1_code
def yX3_init : MethodName := ⟨RX3, "<init>", "([I[I[I)V"⟩
def zX3_init : Zm := (RX3, cX3_init, 4, none, { frames := 1, cells := 10, slots := 111, locals := 30 })
theorem fW_X3_9 : fW_ RX3 9 3 6 false := ⟨_, _, _, rfl, by decide, by decide, (lwq_4 (dqc_m (dqc_m (dqc_m (dqc_m (dqc_m (dqc_m (List.mem_of_getElem? (i := 2) rfl))))))) rfl : Cond.fieldLink RX3 9 _ _ _ ∈ lw_g), rfl, .array .int, by decide +kernel, fun _ _ => ⟨rfl, rfl⟩, (fun _ h => by cases h)⟩
theorem fW_X3_15 : fW_ RX3 15 3 7 false := ⟨_, _, _, rfl, by decide, by decide, (lwq_4 (dqc_m (dqc_m (dqc_m (dqc_m (dqc_m (dqc_m (List.mem_of_getElem? (i := 4) rfl))))))) rfl : Cond.fieldLink RX3 15 _ _ _ ∈ lw_g), rfl, .array .int, by decide +kernel, fun _ _ => ⟨rfl, rfl⟩, (fun _ h => by cases h)⟩
theorem fW_X3_18 : fW_ RX3 18 3 8 false := ⟨_, _, _, rfl, by decide, by decide, (lwq_4 (dqc_m (dqc_m (dqc_m (dqc_m (dqc_m (dqc_m (List.mem_of_getElem? (i := 6) rfl))))))) rfl : Cond.fieldLink RX3 18 _ _ _ ∈ lw_g), rfl, .array .int, by decide +kernel, fun _ _ => ⟨rfl, rfl⟩, (fun _ h => by cases h)⟩
theorem fW_X3_21 : fW_ RX3 21 3 9 false := ⟨_, _, _, rfl, by decide, by decide, (lwq_4 (dqc_m (dqc_m (dqc_m (dqc_m (dqc_m (dqc_m (dqa_m (List.mem_of_getElem? (i := 0) rfl)))))))) rfl : Cond.fieldLink RX3 21 _ _ _ ∈ lw_g), rfl, .array .int, by decide +kernel, fun _ _ => ⟨rfl, rfl⟩, (fun _ h => by cases h)⟩
theorem fW_X3_24 : fW_ RX3 24 3 10 false := ⟨_, _, _, rfl, by decide, by decide, (lwq_4 (dqc_m (dqc_m (dqc_m (dqc_m (dqc_m (dqc_m (dqa_m (List.mem_of_getElem? (i := 2) rfl)))))))) rfl : Cond.fieldLink RX3 24 _ _ _ ∈ lw_g), rfl, .array .int, by decide +kernel, fun _ _ => ⟨rfl, rfl⟩, (fun _ h => by cases h)⟩
theorem fW_X3_27 : fW_ RX3 27 3 11 false := ⟨_, _, _, rfl, by decide, by decide, (lwq_4 (dqc_m (dqc_m (dqc_m (dqc_m (dqc_m (dqc_m (dqa_m (List.mem_of_getElem? (i := 4) rfl)))))))) rfl : Cond.fieldLink RX3 27 _ _ _ ∈ lw_g), rfl, .array .int, by decide +kernel, fun _ _ => ⟨rfl, rfl⟩, (fun _ h => by cases h)⟩
theorem fW_X3_30 : fW_ RX3 30 3 12 false := ⟨_, _, _, rfl, by decide, by decide, (lwq_4 (dqc_m (dqc_m (dqc_m (dqc_m (dqc_m (dqc_m (dqa_m (List.mem_of_getElem? (i := 5) rfl)))))))) rfl : Cond.fieldLink RX3 30 _ _ _ ∈ lw_g), rfl, .array .int, by decide +kernel, fun _ _ => ⟨rfl, rfl⟩, (fun _ h => by cases h)⟩
theorem fW_X3_33 : fW_ RX3 33 3 13 false := ⟨_, _, _, rfl, by decide, by decide, (lwq_4 (dqc_m (dqc_m (dqc_m (dqc_m (dqc_m (dqc_m (dqa_m (List.mem_of_getElem? (i := 6) rfl)))))))) rfl : Cond.fieldLink RX3 33 _ _ _ ∈ lw_g), rfl, .array .int, by decide +kernel, fun _ _ => ⟨rfl, rfl⟩, (fun _ h => by cases h)⟩
theorem fW_X3_36 : fW_ RX3 36 3 14 false := ⟨_, _, _, rfl, by decide, by decide, (lwq_4 (dqc_m (dqc_m (dqc_m (dqc_m (dqc_m (dqc_m (dqa_m (dqa_m (List.mem_of_getElem? (i := 1) rfl))))))))) rfl : Cond.fieldLink RX3 36 _ _ _ ∈ lw_g), rfl, .array .int, by decide +kernel, fun _ _ => ⟨rfl, rfl⟩, (fun _ h => by cases h)⟩
theorem fW_X3_39 : fW_ RX3 39 3 16 false := ⟨_, _, _, rfl, by decide, by decide, (lwq_4 (dqc_m (dqc_m (dqc_m (dqc_m (dqc_m (dqc_m (dqa_m (dqa_m (List.mem_of_getElem? (i := 5) rfl))))))))) rfl : Cond.fieldLink RX3 39 _ _ _ ∈ lw_g), rfl, .array .int, by decide +kernel, fun _ _ => ⟨rfl, rfl⟩, (fun _ h => by cases h)⟩
theorem fW_X3_42 : fW_ RX3 42 3 0 false := ⟨_, _, _, rfl, by decide, by decide, (lwq_4 (dqc_m (dqc_m (dqc_m (dqc_m (dqc_m (dqa_m (dqa_m (dqa_m (List.mem_of_getElem? (i := 1) rfl))))))))) rfl : Cond.fieldLink RX3 42 _ _ _ ∈ lw_g), rfl, .array .int, by decide +kernel, fun _ _ => ⟨rfl, rfl⟩, (fun _ h => by cases h)⟩
theorem fW_X3_45 : fW_ RX3 45 3 1 false := ⟨_, _, _, rfl, by decide, by decide, (lwq_4 (dqc_m (dqc_m (dqc_m (dqc_m (dqc_m (dqa_m (dqa_m (dqa_m (List.mem_of_getElem? (i := 2) rfl))))))))) rfl : Cond.fieldLink RX3 45 _ _ _ ∈ lw_g), rfl, .array .int, by decide +kernel, fun _ _ => ⟨rfl, rfl⟩, (fun _ h => by cases h)⟩
theorem fW_X3_48 : fW_ RX3 48 3 2 false := ⟨_, _, _, rfl, by decide, by decide, (lwq_4 (dqc_m (dqc_m (dqc_m (dqc_m (dqc_m (dqa_m (dqa_m (dqa_m (List.mem_of_getElem? (i := 3) rfl))))))))) rfl : Cond.fieldLink RX3 48 _ _ _ ∈ lw_g), rfl, .array .int, by decide +kernel, fun _ _ => ⟨rfl, rfl⟩, (fun _ h => by cases h)⟩
theorem cv3_ {k : Nat} {x n : Int} (h : 1 ≤ x) : fv_ 3 k (x - 1) n = fv_ 5 k x n := by
  show vR k (x - 1) = (if x = 0 then vN else vR k (x - 1))
  rw [if_neg (by omega)]
def g0_ (T : Zt) (n j : Int) : Int := if False then T 150 n j - 1 else T 150 n j
theorem cg_0 {T : Zt} {n : Int} (hT : ok_T T) (hn : 0 ≤ n ∧ n ≤ 2000000000) (e1 : T 150 n 1 = n + 1) (e2 : T 150 n 2 = n + 1) (e3 : T 150 n 3 = n + 1) (e4 : T 150 n 4 = n + 1) : ∀ (j c k1 : Nat) (lo hi : Int), (tf_ 100)[j]? = some (c, k1, lo, hi) → ∃ c2 k2 lo2 hi2, (tf_ (100 + 50))[j]? = some (c2, k2, lo2, hi2) ∧ fv_ c k1 (g0_ T n j) n = fv_ c2 k2 (T (100 + 50) n j) n ∧ lo ≤ g0_ T n j ∧ g0_ T n j ≤ hi := by
  intro j c k1 lo hi h
  have hlt : j < 9 := by
    by_cases z : j < 9
    · exact z
    · rw [List.getElem?_eq_none (by rw [show (tf_ 100).length = 9 by decide +kernel]; omega)] at h; cases h
  match j, h, hlt with
  | 0, h, _ =>
    rw [show (tf_ 100)[0]? = some (0, 0, 0, 3) by decide +kernel] at h
    cases h
    have eg : g0_ T n (0 : Nat) = T 150 n 0 := by
      unfold g0_
      rw [if_neg (by decide)]
      rfl
    have hb : 0 ≤ T 150 n 0 ∧ T 150 n 0 ≤ 3 := bd_f hT 150 0 (by decide +kernel : (tf_ 150)[0]? = some (0, 0, 0, 3)) n
    rw [eg]
    exact ⟨0, 0, 0, 3, by decide +kernel, rfl, by omega, by omega⟩
  | 1, h, _ =>
    rw [show (tf_ 100)[1]? = some (2, 401, (-2147483648), 2147483647) by decide +kernel] at h
    cases h
    have eg : g0_ T n (1 : Nat) = T 150 n 1 := by
      unfold g0_
      rw [if_neg (by decide)]
      rfl
    have hb : (-2147483648) ≤ T 150 n 1 ∧ T 150 n 1 ≤ 2147483647 := bd_f hT 150 1 (by decide +kernel : (tf_ 150)[1]? = some (5, 401, (-2147483648), 2147483647)) n
    rw [eg]
    exact ⟨5, 401, (-2147483648), 2147483647, by decide +kernel, (by show vR 401 n = fv_ 5 401 (T 150 n 1) n; rw [e1]; exact (fv5_ hn.1).symm), by omega, by omega⟩
  | 2, h, _ =>
    rw [show (tf_ 100)[2]? = some (2, 402, (-2147483648), 2147483647) by decide +kernel] at h
    cases h
    have eg : g0_ T n (2 : Nat) = T 150 n 2 := by
      unfold g0_
      rw [if_neg (by decide)]
      rfl
    have hb : (-2147483648) ≤ T 150 n 2 ∧ T 150 n 2 ≤ 2147483647 := bd_f hT 150 2 (by decide +kernel : (tf_ 150)[2]? = some (5, 402, (-2147483648), 2147483647)) n
    rw [eg]
    exact ⟨5, 402, (-2147483648), 2147483647, by decide +kernel, (by show vR 402 n = fv_ 5 402 (T 150 n 2) n; rw [e2]; exact (fv5_ hn.1).symm), by omega, by omega⟩
  | 3, h, _ =>
    rw [show (tf_ 100)[3]? = some (2, 403, (-2147483648), 2147483647) by decide +kernel] at h
    cases h
    have eg : g0_ T n (3 : Nat) = T 150 n 3 := by
      unfold g0_
      rw [if_neg (by decide)]
      rfl
    have hb : (-2147483648) ≤ T 150 n 3 ∧ T 150 n 3 ≤ 2147483647 := bd_f hT 150 3 (by decide +kernel : (tf_ 150)[3]? = some (5, 403, (-2147483648), 2147483647)) n
    rw [eg]
    exact ⟨5, 403, (-2147483648), 2147483647, by decide +kernel, (by show vR 403 n = fv_ 5 403 (T 150 n 3) n; rw [e3]; exact (fv5_ hn.1).symm), by omega, by omega⟩
  | 4, h, _ =>
    rw [show (tf_ 100)[4]? = some (2, 404, (-2147483648), 2147483647) by decide +kernel] at h
    cases h
    have eg : g0_ T n (4 : Nat) = T 150 n 4 := by
      unfold g0_
      rw [if_neg (by decide)]
      rfl
    have hb : (-2147483648) ≤ T 150 n 4 ∧ T 150 n 4 ≤ 2147483647 := bd_f hT 150 4 (by decide +kernel : (tf_ 150)[4]? = some (5, 404, (-2147483648), 2147483647)) n
    rw [eg]
    exact ⟨5, 404, (-2147483648), 2147483647, by decide +kernel, (by show vR 404 n = fv_ 5 404 (T 150 n 4) n; rw [e4]; exact (fv5_ hn.1).symm), by omega, by omega⟩
  | 5, h, _ =>
    rw [show (tf_ 100)[5]? = some (0, 0, 0, 12) by decide +kernel] at h
    cases h
    have eg : g0_ T n (5 : Nat) = T 150 n 5 := by
      unfold g0_
      rw [if_neg (by decide)]
      rfl
    have hb : 0 ≤ T 150 n 5 ∧ T 150 n 5 ≤ 12 := bd_f hT 150 5 (by decide +kernel : (tf_ 150)[5]? = some (0, 0, 0, 12)) n
    rw [eg]
    exact ⟨0, 0, 0, 12, by decide +kernel, rfl, by omega, by omega⟩
  | 6, h, _ =>
    rw [show (tf_ 100)[6]? = some (0, 0, 0, 1) by decide +kernel] at h
    cases h
    have eg : g0_ T n (6 : Nat) = T 150 n 6 := by
      unfold g0_
      rw [if_neg (by decide)]
      rfl
    have hb : 0 ≤ T 150 n 6 ∧ T 150 n 6 ≤ 1 := bd_f hT 150 6 (by decide +kernel : (tf_ 150)[6]? = some (0, 0, 0, 1)) n
    rw [eg]
    exact ⟨0, 0, 0, 1, by decide +kernel, rfl, by omega, by omega⟩
  | 7, h, _ =>
    rw [show (tf_ 100)[7]? = some (0, 0, 0, 400) by decide +kernel] at h
    cases h
    have eg : g0_ T n (7 : Nat) = T 150 n 7 := by
      unfold g0_
      rw [if_neg (by decide)]
      rfl
    have hb : 0 ≤ T 150 n 7 ∧ T 150 n 7 ≤ 400 := bd_f hT 150 7 (by decide +kernel : (tf_ 150)[7]? = some (0, 0, 0, 400)) n
    rw [eg]
    exact ⟨0, 0, 0, 400, by decide +kernel, rfl, by omega, by omega⟩
  | 8, h, _ =>
    rw [show (tf_ 100)[8]? = some (0, 0, 0, 400) by decide +kernel] at h
    cases h
    have eg : g0_ T n (8 : Nat) = T 150 n 8 := by
      unfold g0_
      rw [if_neg (by decide)]
      rfl
    have hb : 0 ≤ T 150 n 8 ∧ T 150 n 8 ≤ 400 := bd_f hT 150 8 (by decide +kernel : (tf_ 150)[8]? = some (0, 0, 0, 400)) n
    rw [eg]
    exact ⟨0, 0, 0, 400, by decide +kernel, rfl, by omega, by omega⟩
def g2_ (T : Zt) (n j : Int) : Int := if j = 0 then T 152 n j - 1 else T 152 n j
theorem cg_2 {T : Zt} {n : Int} (hT : ok_T T) (hn : 0 ≤ n ∧ n ≤ 2000000000) (e0 : 1 ≤ T 152 n 0) (e8 : T 152 n 8 = n + 1) (e9 : T 152 n 9 = n + 1) (e10 : T 152 n 10 = 0) : ∀ (j c k1 : Nat) (lo hi : Int), (tf_ 102)[j]? = some (c, k1, lo, hi) → ∃ c2 k2 lo2 hi2, (tf_ (102 + 50))[j]? = some (c2, k2, lo2, hi2) ∧ fv_ c k1 (g2_ T n j) n = fv_ c2 k2 (T (102 + 50) n j) n ∧ lo ≤ g2_ T n j ∧ g2_ T n j ≤ hi := by
  intro j c k1 lo hi h
  have hlt : j < 11 := by
    by_cases z : j < 11
    · exact z
    · rw [List.getElem?_eq_none (by rw [show (tf_ 102).length = 11 by decide +kernel]; omega)] at h; cases h
  match j, h, hlt with
  | 0, h, _ =>
    rw [show (tf_ 102)[0]? = some (3, 100, (-2147483648), 2147483647) by decide +kernel] at h
    cases h
    have eg : g2_ T n (0 : Nat) = T 152 n 0 - 1 := by
      unfold g2_
      rw [if_pos (by decide)]
      rfl
    have hb : (-2147483648) ≤ T 152 n 0 ∧ T 152 n 0 ≤ 2147483647 := bd_f hT 152 0 (by decide +kernel : (tf_ 152)[0]? = some (5, 100, (-2147483648), 2147483647)) n
    rw [eg]
    exact ⟨5, 100, (-2147483648), 2147483647, by decide +kernel, (cv3_ e0), by omega, by omega⟩
  | 1, h, _ =>
    rw [show (tf_ 102)[1]? = some (0, 0, 0, 399) by decide +kernel] at h
    cases h
    have eg : g2_ T n (1 : Nat) = T 152 n 1 := by
      unfold g2_
      rw [if_neg (by decide)]
      rfl
    have hb : 0 ≤ T 152 n 1 ∧ T 152 n 1 ≤ 399 := bd_f hT 152 1 (by decide +kernel : (tf_ 152)[1]? = some (0, 0, 0, 399)) n
    rw [eg]
    exact ⟨0, 0, 0, 399, by decide +kernel, rfl, by omega, by omega⟩
  | 2, h, _ =>
    rw [show (tf_ 102)[2]? = some (0, 0, (-2147483648), 2147483647) by decide +kernel] at h
    cases h
    have eg : g2_ T n (2 : Nat) = T 152 n 2 := by
      unfold g2_
      rw [if_neg (by decide)]
      rfl
    have hb : (-2147483648) ≤ T 152 n 2 ∧ T 152 n 2 ≤ 2147483647 := bd_f hT 152 2 (by decide +kernel : (tf_ 152)[2]? = some (0, 0, (-2147483648), 2147483647)) n
    rw [eg]
    exact ⟨0, 0, (-2147483648), 2147483647, by decide +kernel, rfl, by omega, by omega⟩
  | 3, h, _ =>
    rw [show (tf_ 102)[3]? = some (0, 0, 0, 11) by decide +kernel] at h
    cases h
    have eg : g2_ T n (3 : Nat) = T 152 n 3 := by
      unfold g2_
      rw [if_neg (by decide)]
      rfl
    have hb : 0 ≤ T 152 n 3 ∧ T 152 n 3 ≤ 11 := bd_f hT 152 3 (by decide +kernel : (tf_ 152)[3]? = some (0, 0, 0, 11)) n
    rw [eg]
    exact ⟨0, 0, 0, 11, by decide +kernel, rfl, by omega, by omega⟩
  | 4, h, _ =>
    rw [show (tf_ 102)[4]? = some (0, 0, 0, 11) by decide +kernel] at h
    cases h
    have eg : g2_ T n (4 : Nat) = T 152 n 4 := by
      unfold g2_
      rw [if_neg (by decide)]
      rfl
    have hb : 0 ≤ T 152 n 4 ∧ T 152 n 4 ≤ 11 := bd_f hT 152 4 (by decide +kernel : (tf_ 152)[4]? = some (0, 0, 0, 11)) n
    rw [eg]
    exact ⟨0, 0, 0, 11, by decide +kernel, rfl, by omega, by omega⟩
  | 5, h, _ =>
    rw [show (tf_ 102)[5]? = some (0, 0, 0, 999) by decide +kernel] at h
    cases h
    have eg : g2_ T n (5 : Nat) = T 152 n 5 := by
      unfold g2_
      rw [if_neg (by decide)]
      rfl
    have hb : 0 ≤ T 152 n 5 ∧ T 152 n 5 ≤ 999 := bd_f hT 152 5 (by decide +kernel : (tf_ 152)[5]? = some (0, 0, 0, 999)) n
    rw [eg]
    exact ⟨0, 0, 0, 999, by decide +kernel, rfl, by omega, by omega⟩
  | 6, h, _ =>
    rw [show (tf_ 102)[6]? = some (0, 0, (-1), 1) by decide +kernel] at h
    cases h
    have eg : g2_ T n (6 : Nat) = T 152 n 6 := by
      unfold g2_
      rw [if_neg (by decide)]
      rfl
    have hb : (-1) ≤ T 152 n 6 ∧ T 152 n 6 ≤ 1 := bd_f hT 152 6 (by decide +kernel : (tf_ 152)[6]? = some (0, 0, (-1), 1)) n
    rw [eg]
    exact ⟨0, 0, (-1), 1, by decide +kernel, rfl, by omega, by omega⟩
  | 7, h, _ =>
    rw [show (tf_ 102)[7]? = some (0, 0, (-1), 7) by decide +kernel] at h
    cases h
    have eg : g2_ T n (7 : Nat) = T 152 n 7 := by
      unfold g2_
      rw [if_neg (by decide)]
      rfl
    have hb : (-1) ≤ T 152 n 7 ∧ T 152 n 7 ≤ 7 := bd_f hT 152 7 (by decide +kernel : (tf_ 152)[7]? = some (0, 0, (-1), 7)) n
    rw [eg]
    exact ⟨0, 0, (-1), 7, by decide +kernel, rfl, by omega, by omega⟩
  | 8, h, _ =>
    rw [show (tf_ 102)[8]? = some (2, 448, (-2147483648), 2147483647) by decide +kernel] at h
    cases h
    have eg : g2_ T n (8 : Nat) = T 152 n 8 := by
      unfold g2_
      rw [if_neg (by decide)]
      rfl
    have hb : (-2147483648) ≤ T 152 n 8 ∧ T 152 n 8 ≤ 2147483647 := bd_f hT 152 8 (by decide +kernel : (tf_ 152)[8]? = some (5, 448, (-2147483648), 2147483647)) n
    rw [eg]
    exact ⟨5, 448, (-2147483648), 2147483647, by decide +kernel, (by show vR 448 n = fv_ 5 448 (T 152 n 8) n; rw [e8]; exact (fv5_ hn.1).symm), by omega, by omega⟩
  | 9, h, _ =>
    rw [show (tf_ 102)[9]? = some (2, 449, (-2147483648), 2147483647) by decide +kernel] at h
    cases h
    have eg : g2_ T n (9 : Nat) = T 152 n 9 := by
      unfold g2_
      rw [if_neg (by decide)]
      rfl
    have hb : (-2147483648) ≤ T 152 n 9 ∧ T 152 n 9 ≤ 2147483647 := bd_f hT 152 9 (by decide +kernel : (tf_ 152)[9]? = some (5, 449, (-2147483648), 2147483647)) n
    rw [eg]
    exact ⟨5, 449, (-2147483648), 2147483647, by decide +kernel, (by show vR 449 n = fv_ 5 449 (T 152 n 9) n; rw [e9]; exact (fv5_ hn.1).symm), by omega, by omega⟩
  | 10, h, _ =>
    rw [show (tf_ 102)[10]? = some (4, 103, (-2147483648), 2147483647) by decide +kernel] at h
    cases h
    have eg : g2_ T n (10 : Nat) = T 152 n 10 := by
      unfold g2_
      rw [if_neg (by decide)]
      rfl
    have hb : (-2147483648) ≤ T 152 n 10 ∧ T 152 n 10 ≤ 2147483647 := bd_f hT 152 10 (by decide +kernel : (tf_ 152)[10]? = some (5, 103, (-2147483648), 2147483647)) n
    rw [eg]
    exact ⟨5, 103, (-2147483648), 2147483647, by decide +kernel, (by show fv_ 4 103 (T 152 n 10) n = fv_ 5 103 (T 152 n 10) n; rw [e10]; rfl), by omega, by omega⟩
def g3_ (T : Zt) (n j : Int) : Int := if j = 0 ∨ j = 14 ∨ j = 16 then T 153 n j - 1 else T 153 n j
theorem cg_3 {T : Zt} {n : Int} (hT : ok_T T) (hn : 0 ≤ n ∧ n ≤ 2000000000) (e0 : 1 ≤ T 153 n 0) (e1 : T 153 n 1 = n + 1) (e2 : T 153 n 2 = n + 1) (e6 : T 153 n 6 = n + 1) (e7 : T 153 n 7 = n + 1) (e8 : T 153 n 8 = n + 1) (e9 : T 153 n 9 = n + 1) (e10 : T 153 n 10 = n + 1) (e11 : T 153 n 11 = n + 1) (e12 : T 153 n 12 = n + 1) (e13 : T 153 n 13 = n + 1) (e14 : 1 ≤ T 153 n 14) (e16 : 1 ≤ T 153 n 16) : ∀ (j c k1 : Nat) (lo hi : Int), (tf_ 103)[j]? = some (c, k1, lo, hi) → ∃ c2 k2 lo2 hi2, (tf_ (103 + 50))[j]? = some (c2, k2, lo2, hi2) ∧ fv_ c k1 (g3_ T n j) n = fv_ c2 k2 (T (103 + 50) n j) n ∧ lo ≤ g3_ T n j ∧ g3_ T n j ≤ hi := by
  intro j c k1 lo hi h
  have hlt : j < 18 := by
    by_cases z : j < 18
    · exact z
    · rw [List.getElem?_eq_none (by rw [show (tf_ 103).length = 18 by decide +kernel]; omega)] at h; cases h
  match j, h, hlt with
  | 0, h, _ =>
    rw [show (tf_ 103)[0]? = some (3, 401, (-2147483648), 2147483647) by decide +kernel] at h
    cases h
    have eg : g3_ T n (0 : Nat) = T 153 n 0 - 1 := by
      unfold g3_
      rw [if_pos (by decide)]
      rfl
    have hb : (-2147483648) ≤ T 153 n 0 ∧ T 153 n 0 ≤ 2147483647 := bd_f hT 153 0 (by decide +kernel : (tf_ 153)[0]? = some (5, 401, (-2147483648), 2147483647)) n
    rw [eg]
    exact ⟨5, 401, (-2147483648), 2147483647, by decide +kernel, (cv3_ e0), by omega, by omega⟩
  | 1, h, _ =>
    rw [show (tf_ 103)[1]? = some (2, 448, (-2147483648), 2147483647) by decide +kernel] at h
    cases h
    have eg : g3_ T n (1 : Nat) = T 153 n 1 := by
      unfold g3_
      rw [if_neg (by decide)]
      rfl
    have hb : (-2147483648) ≤ T 153 n 1 ∧ T 153 n 1 ≤ 2147483647 := bd_f hT 153 1 (by decide +kernel : (tf_ 153)[1]? = some (5, 448, (-2147483648), 2147483647)) n
    rw [eg]
    exact ⟨5, 448, (-2147483648), 2147483647, by decide +kernel, (by show vR 448 n = fv_ 5 448 (T 153 n 1) n; rw [e1]; exact (fv5_ hn.1).symm), by omega, by omega⟩
  | 2, h, _ =>
    rw [show (tf_ 103)[2]? = some (2, 449, (-2147483648), 2147483647) by decide +kernel] at h
    cases h
    have eg : g3_ T n (2 : Nat) = T 153 n 2 := by
      unfold g3_
      rw [if_neg (by decide)]
      rfl
    have hb : (-2147483648) ≤ T 153 n 2 ∧ T 153 n 2 ≤ 2147483647 := bd_f hT 153 2 (by decide +kernel : (tf_ 153)[2]? = some (5, 449, (-2147483648), 2147483647)) n
    rw [eg]
    exact ⟨5, 449, (-2147483648), 2147483647, by decide +kernel, (by show vR 449 n = fv_ 5 449 (T 153 n 2) n; rw [e2]; exact (fv5_ hn.1).symm), by omega, by omega⟩
  | 3, h, _ =>
    rw [show (tf_ 103)[3]? = some (0, 0, 0, 1) by decide +kernel] at h
    cases h
    have eg : g3_ T n (3 : Nat) = T 153 n 3 := by
      unfold g3_
      rw [if_neg (by decide)]
      rfl
    have hb : 0 ≤ T 153 n 3 ∧ T 153 n 3 ≤ 1 := bd_f hT 153 3 (by decide +kernel : (tf_ 153)[3]? = some (0, 0, 0, 1)) n
    rw [eg]
    exact ⟨0, 0, 0, 1, by decide +kernel, rfl, by omega, by omega⟩
  | 4, h, _ =>
    rw [show (tf_ 103)[4]? = some (0, 0, (-2147483648), 2147483647) by decide +kernel] at h
    cases h
    have eg : g3_ T n (4 : Nat) = T 153 n 4 := by
      unfold g3_
      rw [if_neg (by decide)]
      rfl
    have hb : (-2147483648) ≤ T 153 n 4 ∧ T 153 n 4 ≤ 2147483647 := bd_f hT 153 4 (by decide +kernel : (tf_ 153)[4]? = some (0, 0, (-2147483648), 2147483647)) n
    rw [eg]
    exact ⟨0, 0, (-2147483648), 2147483647, by decide +kernel, rfl, by omega, by omega⟩
  | 5, h, _ =>
    rw [show (tf_ 103)[5]? = some (0, 0, 0, 1) by decide +kernel] at h
    cases h
    have eg : g3_ T n (5 : Nat) = T 153 n 5 := by
      unfold g3_
      rw [if_neg (by decide)]
      rfl
    have hb : 0 ≤ T 153 n 5 ∧ T 153 n 5 ≤ 1 := bd_f hT 153 5 (by decide +kernel : (tf_ 153)[5]? = some (0, 0, 0, 1)) n
    rw [eg]
    exact ⟨0, 0, 0, 1, by decide +kernel, rfl, by omega, by omega⟩
  | 6, h, _ =>
    rw [show (tf_ 103)[6]? = some (2, 466, (-2147483648), 2147483647) by decide +kernel] at h
    cases h
    have eg : g3_ T n (6 : Nat) = T 153 n 6 := by
      unfold g3_
      rw [if_neg (by decide)]
      rfl
    have hb : (-2147483648) ≤ T 153 n 6 ∧ T 153 n 6 ≤ 2147483647 := bd_f hT 153 6 (by decide +kernel : (tf_ 153)[6]? = some (5, 466, (-2147483648), 2147483647)) n
    rw [eg]
    exact ⟨5, 466, (-2147483648), 2147483647, by decide +kernel, (by show vR 466 n = fv_ 5 466 (T 153 n 6) n; rw [e6]; exact (fv5_ hn.1).symm), by omega, by omega⟩
  | 7, h, _ =>
    rw [show (tf_ 103)[7]? = some (2, 467, (-2147483648), 2147483647) by decide +kernel] at h
    cases h
    have eg : g3_ T n (7 : Nat) = T 153 n 7 := by
      unfold g3_
      rw [if_neg (by decide)]
      rfl
    have hb : (-2147483648) ≤ T 153 n 7 ∧ T 153 n 7 ≤ 2147483647 := bd_f hT 153 7 (by decide +kernel : (tf_ 153)[7]? = some (5, 467, (-2147483648), 2147483647)) n
    rw [eg]
    exact ⟨5, 467, (-2147483648), 2147483647, by decide +kernel, (by show vR 467 n = fv_ 5 467 (T 153 n 7) n; rw [e7]; exact (fv5_ hn.1).symm), by omega, by omega⟩
  | 8, h, _ =>
    rw [show (tf_ 103)[8]? = some (2, 468, (-2147483648), 2147483647) by decide +kernel] at h
    cases h
    have eg : g3_ T n (8 : Nat) = T 153 n 8 := by
      unfold g3_
      rw [if_neg (by decide)]
      rfl
    have hb : (-2147483648) ≤ T 153 n 8 ∧ T 153 n 8 ≤ 2147483647 := bd_f hT 153 8 (by decide +kernel : (tf_ 153)[8]? = some (5, 468, (-2147483648), 2147483647)) n
    rw [eg]
    exact ⟨5, 468, (-2147483648), 2147483647, by decide +kernel, (by show vR 468 n = fv_ 5 468 (T 153 n 8) n; rw [e8]; exact (fv5_ hn.1).symm), by omega, by omega⟩
  | 9, h, _ =>
    rw [show (tf_ 103)[9]? = some (2, 469, (-2147483648), 2147483647) by decide +kernel] at h
    cases h
    have eg : g3_ T n (9 : Nat) = T 153 n 9 := by
      unfold g3_
      rw [if_neg (by decide)]
      rfl
    have hb : (-2147483648) ≤ T 153 n 9 ∧ T 153 n 9 ≤ 2147483647 := bd_f hT 153 9 (by decide +kernel : (tf_ 153)[9]? = some (5, 469, (-2147483648), 2147483647)) n
    rw [eg]
    exact ⟨5, 469, (-2147483648), 2147483647, by decide +kernel, (by show vR 469 n = fv_ 5 469 (T 153 n 9) n; rw [e9]; exact (fv5_ hn.1).symm), by omega, by omega⟩
  | 10, h, _ =>
    rw [show (tf_ 103)[10]? = some (2, 470, (-2147483648), 2147483647) by decide +kernel] at h
    cases h
    have eg : g3_ T n (10 : Nat) = T 153 n 10 := by
      unfold g3_
      rw [if_neg (by decide)]
      rfl
    have hb : (-2147483648) ≤ T 153 n 10 ∧ T 153 n 10 ≤ 2147483647 := bd_f hT 153 10 (by decide +kernel : (tf_ 153)[10]? = some (5, 470, (-2147483648), 2147483647)) n
    rw [eg]
    exact ⟨5, 470, (-2147483648), 2147483647, by decide +kernel, (by show vR 470 n = fv_ 5 470 (T 153 n 10) n; rw [e10]; exact (fv5_ hn.1).symm), by omega, by omega⟩
  | 11, h, _ =>
    rw [show (tf_ 103)[11]? = some (2, 471, (-2147483648), 2147483647) by decide +kernel] at h
    cases h
    have eg : g3_ T n (11 : Nat) = T 153 n 11 := by
      unfold g3_
      rw [if_neg (by decide)]
      rfl
    have hb : (-2147483648) ≤ T 153 n 11 ∧ T 153 n 11 ≤ 2147483647 := bd_f hT 153 11 (by decide +kernel : (tf_ 153)[11]? = some (5, 471, (-2147483648), 2147483647)) n
    rw [eg]
    exact ⟨5, 471, (-2147483648), 2147483647, by decide +kernel, (by show vR 471 n = fv_ 5 471 (T 153 n 11) n; rw [e11]; exact (fv5_ hn.1).symm), by omega, by omega⟩
  | 12, h, _ =>
    rw [show (tf_ 103)[12]? = some (2, 472, (-2147483648), 2147483647) by decide +kernel] at h
    cases h
    have eg : g3_ T n (12 : Nat) = T 153 n 12 := by
      unfold g3_
      rw [if_neg (by decide)]
      rfl
    have hb : (-2147483648) ≤ T 153 n 12 ∧ T 153 n 12 ≤ 2147483647 := bd_f hT 153 12 (by decide +kernel : (tf_ 153)[12]? = some (5, 472, (-2147483648), 2147483647)) n
    rw [eg]
    exact ⟨5, 472, (-2147483648), 2147483647, by decide +kernel, (by show vR 472 n = fv_ 5 472 (T 153 n 12) n; rw [e12]; exact (fv5_ hn.1).symm), by omega, by omega⟩
  | 13, h, _ =>
    rw [show (tf_ 103)[13]? = some (2, 473, (-2147483648), 2147483647) by decide +kernel] at h
    cases h
    have eg : g3_ T n (13 : Nat) = T 153 n 13 := by
      unfold g3_
      rw [if_neg (by decide)]
      rfl
    have hb : (-2147483648) ≤ T 153 n 13 ∧ T 153 n 13 ≤ 2147483647 := bd_f hT 153 13 (by decide +kernel : (tf_ 153)[13]? = some (5, 473, (-2147483648), 2147483647)) n
    rw [eg]
    exact ⟨5, 473, (-2147483648), 2147483647, by decide +kernel, (by show vR 473 n = fv_ 5 473 (T 153 n 13) n; rw [e13]; exact (fv5_ hn.1).symm), by omega, by omega⟩
  | 14, h, _ =>
    rw [show (tf_ 103)[14]? = some (3, 190, (-2147483648), 2147483647) by decide +kernel] at h
    cases h
    have eg : g3_ T n (14 : Nat) = T 153 n 14 - 1 := by
      unfold g3_
      rw [if_pos (by decide)]
      rfl
    have hb : (-2147483648) ≤ T 153 n 14 ∧ T 153 n 14 ≤ 2147483647 := bd_f hT 153 14 (by decide +kernel : (tf_ 153)[14]? = some (5, 190, (-2147483648), 2147483647)) n
    rw [eg]
    exact ⟨5, 190, (-2147483648), 2147483647, by decide +kernel, (cv3_ e14), by omega, by omega⟩
  | 15, h, _ =>
    rw [show (tf_ 103)[15]? = some (0, 0, 0, 3000) by decide +kernel] at h
    cases h
    have eg : g3_ T n (15 : Nat) = T 153 n 15 := by
      unfold g3_
      rw [if_neg (by decide)]
      rfl
    have hb : 0 ≤ T 153 n 15 ∧ T 153 n 15 ≤ 3000 := bd_f hT 153 15 (by decide +kernel : (tf_ 153)[15]? = some (0, 0, 0, 3000)) n
    rw [eg]
    exact ⟨0, 0, 0, 3000, by decide +kernel, rfl, by omega, by omega⟩
  | 16, h, _ =>
    rw [show (tf_ 103)[16]? = some (3, 190, (-2147483648), 2147483647) by decide +kernel] at h
    cases h
    have eg : g3_ T n (16 : Nat) = T 153 n 16 - 1 := by
      unfold g3_
      rw [if_pos (by decide)]
      rfl
    have hb : (-2147483648) ≤ T 153 n 16 ∧ T 153 n 16 ≤ 2147483647 := bd_f hT 153 16 (by decide +kernel : (tf_ 153)[16]? = some (5, 190, (-2147483648), 2147483647)) n
    rw [eg]
    exact ⟨5, 190, (-2147483648), 2147483647, by decide +kernel, (cv3_ e16), by omega, by omega⟩
  | 17, h, _ =>
    rw [show (tf_ 103)[17]? = some (0, 0, 0, 3000) by decide +kernel] at h
    cases h
    have eg : g3_ T n (17 : Nat) = T 153 n 17 := by
      unfold g3_
      rw [if_neg (by decide)]
      rfl
    have hb : 0 ≤ T 153 n 17 ∧ T 153 n 17 ≤ 3000 := bd_f hT 153 17 (by decide +kernel : (tf_ 153)[17]? = some (0, 0, 0, 3000)) n
    rw [eg]
    exact ⟨0, 0, 0, 3000, by decide +kernel, rfl, by omega, by omega⟩
theorem cw_fr {T U : Zt} {k : Nat} {i : Int} {g : Int → Int} (h : U = cw_ T k i g) : fr_ [(k, []), (k + 50, [-1])] T U := fun k' i' j w => by
  subst h
  by_cases z : k' = k
  · rw [z] at w
    simp [fw_] at w
  · by_cases y : k' = k + 50 ∧ j = -1
    · rw [y.1, y.2] at w
      simp [fw_] at w
    · unfold cw_
      rw [if_neg (fun q => z q.1), if_neg (fun q => y ⟨q.1, q.2.2⟩)]
theorem cw_ts {T U : Zt} {k : Nat} {i : Int} {g : Int → Int} (h : U = cw_ T k i g) (j : Int) (hj : 0 ≤ j) : U k i j = g j := by rw [h, cw_s hj]
theorem cw_to {T U : Zt} {k : Nat} {i : Int} {g : Int → Int} (h : U = cw_ T k i g) (k' : Nat) (i' j : Int) (hi : i' ≠ i) : U k' i' j = T k' i' j := by rw [h, cw_o (fun q => hi q.2) (fun q => hi q.2)]
theorem cw_r {T U : Zt} {k : Nat} {i : Int} {g : Int → Int} (h : U = cw_ T k i g) : ¬ U (k + 50) i (-1) = 1 := by
  rw [h]
  unfold cw_
  rw [if_neg (fun q => by omega), if_pos ⟨rfl, rfl, rfl⟩]
  decide
theorem ow_3 {k : Nat} (a : 460 ≤ k) (b : k < 480) : ow_ k = some 103 := by
  unfold ow_
  rw [if_neg (by omega), if_neg (by omega), if_pos ⟨a, b⟩]
/-- what is sure of a play p, where at most N rows were ever told -/
def Lp_ (N : Int) (T : Zt) (p : Int) : Prop := (0 ≤ T 103 p 15 ∧ 0 ≤ T 103 p 17 ∧ T 103 p 15 + T 103 p 17 ≤ N ∧ 4 * T 103 p 15 ≤ T 190 (T 103 p 14) (-2) ∧ 4 * T 103 p 17 ≤ T 190 (T 103 p 16) (-2) ∧ T 103 p 14 < T 191 0 0 ∧ T 103 p 16 < T 191 0 0 ∧ 0 ≤ T 103 p 0 ∧ T 103 p 0 < T 106 0 2) ∧ lz_ (T 190 (T 103 p 14) (-2)) ∧ lz_ (T 190 (T 103 p 16) (-2)) ∧ (T 103 p 3 = 0 → 1 ≤ T 470 p 0 ∧ 1 ≤ T 470 p 1)
def LP_ (N : Int) (T : Zt) : Prop := ∀ p : Int, 0 ≤ p → p < T 106 0 4 → T 102 p 10 ≠ 0 → Lp_ N T p
/-- rows of any length: what was there keeps its length -/
def lh_ (T T' : Zt) : Prop := (∀ x, x < T 191 0 0 → T' 190 x (-2) = T 190 x (-2)) ∧ T 191 0 0 ≤ T' 191 0 0
theorem lh_r {T : Zt} : lh_ T T := ⟨fun _ _ => rfl, by omega⟩
theorem lh_t {T T1 T2 : Zt} (h : lh_ T T1) (g : lh_ T1 T2) : lh_ T T2 := ⟨fun x hx => (g.1 x (by have := h.2; omega)).trans (h.1 x hx), by have := h.2; have := g.2; omega⟩
theorem lh_f {ws : List (Nat × List Int)} {T T1 T2 : Zt} (h : lh_ T T1) (g : fr_ ws T1 T2) (a : fw_ ws 190 (-2) = false) (b : fw_ ws 191 0 = false) : lh_ T T2 := lh_t h ⟨fun x _ => g 190 x (-2) a, by rw [g 191 0 0 b]; omega⟩
theorem lh_u {T T1 T2 : Zt} {k : Nat} {i j v : Int} (h : lh_ T T1) (e : T2 = up_ T1 k i j v) (hk : k < 190) : lh_ T T2 := lh_t h ⟨fun x _ => up_k e (by omega) _ _, by rw [up_k e (by omega)]; omega⟩
theorem Lp_o {N N' : Int} {T T' : Zt} {q : Int} (h : Lp_ N T q) (hN : N ≤ N') (l : lh_ T T') (hc : T 106 0 2 ≤ T' 106 0 2) (o : T' 103 q 0 = T 103 q 0 ∧ T' 103 q 3 = T 103 q 3 ∧ T' 103 q 14 = T 103 q 14 ∧ T' 103 q 15 = T 103 q 15 ∧ T' 103 q 16 = T 103 q 16 ∧ T' 103 q 17 = T 103 q 17 ∧ T' 470 q 0 = T 470 q 0 ∧ T' 470 q 1 = T 470 q 1) : Lp_ N' T' q := by
  obtain ⟨⟨a1, a2, a3, a4, a5, a6, a7, a8, a9⟩, b1, b2, b3⟩ := h
  obtain ⟨o0, o3, o14, o15, o16, o17, g0, g1⟩ := o
  have l14 : T' 190 (T' 103 q 14) (-2) = T 190 (T 103 q 14) (-2) := by rw [o14]; exact l.1 _ a6
  have l16 : T' 190 (T' 103 q 16) (-2) = T 190 (T 103 q 16) (-2) := by rw [o16]; exact l.1 _ a7
  have l9 := l.2
  refine ⟨⟨by omega, by omega, by omega, by omega, by omega, by omega, by omega, by omega, by omega⟩, by rw [l14]; exact b1, by rw [l16]; exact b2, fun z => ?_⟩
  have := b3 (by omega)
  omega
theorem LP_f {ws : List (Nat × List Int)} {N N' : Int} {T T' : Zt} (h : LP_ N T) (hN : N ≤ N') (l : lh_ T T') (f : fr_ ws T T') (w : fw_ ws 106 4 = false ∧ fw_ ws 106 2 = false ∧ fw_ ws 102 10 = false ∧ fw_ ws 103 0 = false ∧ fw_ ws 103 3 = false ∧ fw_ ws 103 14 = false ∧ fw_ ws 103 15 = false ∧ fw_ ws 103 16 = false ∧ fw_ ws 103 17 = false ∧ fw_ ws 470 0 = false ∧ fw_ ws 470 1 = false) : LP_ N' T' := by
  obtain ⟨w1, w2, w3, w4, w5, w6, w7, w8, w9, w10, w11⟩ := w
  intro p h0 h1 h2
  rw [f 106 0 _ w1] at h1
  rw [f 102 p _ w3] at h2
  exact Lp_o (h p h0 h1 h2) hN l (by rw [f 106 0 _ w2]; omega) ⟨f _ _ _ w4, f _ _ _ w5, f _ _ _ w6, f _ _ _ w7, f _ _ _ w8, f _ _ _ w9, f _ _ _ w10, f _ _ _ w11⟩
/-- one play is told of anew, the others stay -/
theorem LP_q {N N' : Int} {T T' : Zt} {m : Int} (h : LP_ N T) (hN : N ≤ N') (l : lh_ T T') (o : ∀ k i j, i ≠ m → k ≠ 190 → k ≠ 191 → k ≠ 106 → T' k i j = T k i j) (hm : T' 106 0 4 = T 106 0 4) (hc : T' 106 0 2 = T 106 0 2) (n : T' 102 m 10 ≠ 0 → Lp_ N' T' m) : LP_ N' T' := by
  intro p h0 h1 h2
  by_cases z : p = m
  · rw [z] at h2 ⊢
    exact n h2
  · rw [hm] at h1
    have e : ∀ k j, k ≠ 190 → k ≠ 191 → k ≠ 106 → T' k p j = T k p j := fun k j a b c => o k p j z a b c
    rw [e 102 10 (by decide) (by decide) (by decide)] at h2
    exact Lp_o (h p h0 h1 h2) hN l (by omega) ⟨e _ _ (by decide) (by decide) (by decide), e _ _ (by decide) (by decide) (by decide), e _ _ (by decide) (by decide) (by decide), e _ _ (by decide) (by decide) (by decide), e _ _ (by decide) (by decide) (by decide), e _ _ (by decide) (by decide) (by decide), e _ _ (by decide) (by decide) (by decide), e _ _ (by decide) (by decide) (by decide)⟩
/-- what is not there yet -/
def NR_ (T : Zt) : Prop := (∀ i, ¬ T 150 i (-1) = 1) ∧ (∀ i, ¬ T 152 i (-1) = 1) ∧ (∀ i, ¬ T 153 i (-1) = 1)
def NA_ (T : Zt) : Prop := NR_ T ∧ (∀ i, T 106 0 2 ≤ i → ¬ T 100 i (-1) = 1) ∧ (∀ i, T 106 0 4 ≤ i → ¬ T 102 i (-1) = 1) ∧ ∀ i, (T 106 0 4 ≤ i ∨ T 102 i 10 = 0) → ¬ T 103 i (-1) = 1
theorem NA_f {ws : List (Nat × List Int)} {T T' : Zt} (h : NA_ T) (f : fr_ ws T T') (w : fw_ ws 150 (-1) = false ∧ fw_ ws 152 (-1) = false ∧ fw_ ws 153 (-1) = false ∧ fw_ ws 100 (-1) = false ∧ fw_ ws 102 (-1) = false ∧ fw_ ws 103 (-1) = false ∧ fw_ ws 102 10 = false ∧ fw_ ws 106 4 = false ∧ fw_ ws 106 2 = false) : NA_ T' := by
  obtain ⟨w1, w2, w3, w4, w5, w6, w7, w8, w9⟩ := w
  obtain ⟨⟨a, b, c⟩, d, e, g⟩ := h
  refine ⟨⟨fun i => by rw [f 150 i _ w1]; exact a i, fun i => by rw [f 152 i _ w2]; exact b i, fun i => by rw [f 153 i _ w3]; exact c i⟩, fun i hi => ?_, fun i hi => ?_, fun i hi => ?_⟩
  · rw [f 100 i _ w4]; rw [f 106 0 _ w9] at hi; exact d i hi
  · rw [f 102 i _ w5]; rw [f 106 0 _ w8] at hi; exact e i hi
  · rw [f 103 i _ w6]; rw [f 106 0 _ w8, f 102 i _ w7] at hi; exact g i hi
abbrev cX10_event : ByteArray := prog_1_method_23_code
def yX10_event : MethodName := ⟨RX10, "event", "(IIIII)I"⟩
def zX10_event : Zm := (RX10, cX10_event, 8, (some .int), { frames := 5, cells := 1, slots := 2048, locals := 116 })
set_option maxRecDepth 100000 in
theorem cl_X10_282 : cv_ RX10 282 yX3_brokenLaw zX3_brokenLaw 3 4 := ⟨gi_V (lwq_5 (dqa_m (dqa_m (dqa_m (List.mem_of_getElem? (i := 3) rfl)))) rfl : Cond.methodLink RX10 282 yX3_brokenLaw ∈ lw_g) (lwq_5 (dqa_m (dqa_m (dqa_m (List.mem_of_getElem? (i := 4) rfl)))) rfl : Cond.instanceMethod yX3_brokenLaw ∈ lw_g) (lwq_5 (dqa_m (dqa_m (dqa_m (List.mem_of_getElem? (i := 5) rfl)))) rfl : Cond.selects yX3_brokenLaw.cls yX3_brokenLaw yX3_brokenLaw ∈ lw_g) (lwq_1 (dqa_m (dqa_m (List.mem_of_getElem? (i := 2) rfl))) rfl : Cond.initialized yX3_brokenLaw.cls ∈ lw_g) (lwq_5 (dqa_m (dqa_m (dqa_m (List.mem_of_getElem? (i := 6) rfl)))) rfl : Cond.code yX3_brokenLaw cX3_brokenLaw 5 (some .int) ∈ lw_g), ⟨nmh_3.1, nmh_3.2, pdq_32⟩, ⟨_, _, rfl⟩⟩
set_option maxRecDepth 100000 in
theorem cl_X10_289 : cv_ RX10 289 yX3_carryOut zX3_carryOut 3 4 := ⟨gi_V (lwq_5 (dqc_m (dqa_m (dqa_m (dqa_m (List.mem_of_getElem? (i := 4) rfl))))) rfl : Cond.methodLink RX10 289 yX3_carryOut ∈ lw_g) (lwq_5 (dqc_m (dqa_m (dqa_m (dqa_m (List.mem_of_getElem? (i := 5) rfl))))) rfl : Cond.instanceMethod yX3_carryOut ∈ lw_g) (lwq_5 (dqc_m (dqa_m (dqa_m (dqa_m (List.mem_of_getElem? (i := 6) rfl))))) rfl : Cond.selects yX3_carryOut.cls yX3_carryOut yX3_carryOut ∈ lw_g) (lwq_1 (dqa_m (dqa_m (List.mem_of_getElem? (i := 2) rfl))) rfl : Cond.initialized yX3_carryOut.cls ∈ lw_g) (lwq_5 (dqc_m (dqa_m (dqa_m (dqa_m (List.mem_of_getElem? (i := 7) rfl))))) rfl : Cond.code yX3_carryOut cX3_carryOut 5 none ∈ lw_g), ⟨nmh_3.1, nmh_3.2, pdq_12⟩, ⟨_, _, rfl⟩⟩
set_option maxRecDepth 100000 in
theorem cl_X10_292 : cv_ RX10 292 yX3_keepRow zX3_keepRow 3 4 := ⟨gi_V (lwq_5 (dqc_m (dqc_m (dqc_m (dqc_m (List.mem_of_getElem? (i := 5) rfl))))) rfl : Cond.methodLink RX10 292 yX3_keepRow ∈ lw_g) (lwq_5 (dqc_m (dqc_m (dqc_m (dqc_m (List.mem_of_getElem? (i := 6) rfl))))) rfl : Cond.instanceMethod yX3_keepRow ∈ lw_g) (lwq_5 (dqc_m (dqc_m (dqc_m (dqc_m (List.mem_of_getElem? (i := 7) rfl))))) rfl : Cond.selects yX3_keepRow.cls yX3_keepRow yX3_keepRow ∈ lw_g) (lwq_1 (dqa_m (dqa_m (List.mem_of_getElem? (i := 2) rfl))) rfl : Cond.initialized yX3_keepRow.cls ∈ lw_g) (lwq_5 (dqc_m (dqc_m (dqc_m (dqc_m (dqa_m (List.mem_of_getElem? (i := 0) rfl)))))) rfl : Cond.code yX3_keepRow cX3_keepRow 5 none ∈ lw_g), ⟨nmh_3.1, nmh_3.2, pdq_12⟩, ⟨_, _, rfl⟩⟩
abbrev po_X10_event (T : Zt) (N : Int) (m k s a b : Int) : Zt → Option Zv → Prop := fun T' r => ∃ x : Int, r = some (vI x) ∧ fr_ [(106, [5]), (103, [3, 4, 5, 14, 15]), (466, []), (467, []), (468, []), (472, []), (471, []), (469, []), (470, []), (473, []), (190, []), (191, [0])] T T' ∧ LP_ (N + 1) T' ∧ lh_ T T' ∧ T' 191 0 0 ≤ T 191 0 0 + 600
abbrev cX10_review : ByteArray := prog_1_method_24_code
def yX10_review : MethodName := ⟨RX10, "review", "(IIIIII)I"⟩
def zX10_review : Zm := (RX10, cX10_review, 8, (some .int), { frames := 6, cells := 127, slots := 4064, locals := 143 })
set_option maxRecDepth 100000 in
theorem cl_X10_305 : cv_ RX10 305 yX3_isFormed zX3_isFormed 3 2 := ⟨gi_V (lwq_5 (dqc_m (dqc_m (dqc_m (dqc_m (dqc_m (dqa_m (List.mem_of_getElem? (i := 1) rfl))))))) rfl : Cond.methodLink RX10 305 yX3_isFormed ∈ lw_g) (lwq_5 (dqc_m (List.mem_of_getElem? (i := 0) rfl)) rfl : Cond.instanceMethod yX3_isFormed ∈ lw_g) (lwq_5 (dqc_m (List.mem_of_getElem? (i := 1) rfl)) rfl : Cond.selects yX3_isFormed.cls yX3_isFormed yX3_isFormed ∈ lw_g) (lwq_1 (dqa_m (dqa_m (List.mem_of_getElem? (i := 2) rfl))) rfl : Cond.initialized yX3_isFormed.cls ∈ lw_g) (lwq_5 (dqc_m (List.mem_of_getElem? (i := 2) rfl)) rfl : Cond.code yX3_isFormed cX3_isFormed 4 (some .boolean) ∈ lw_g), ⟨nmh_3.1, nmh_3.2, pdq_5⟩, ⟨_, _, rfl⟩⟩
set_option maxRecDepth 100000 in
theorem cl_X10_308 : cv_ RX10 308 yX3_isBounded zX3_isBounded 3 2 := ⟨gi_V (lwq_5 (dqc_m (dqc_m (dqc_m (dqc_m (dqc_m (dqa_m (List.mem_of_getElem? (i := 2) rfl))))))) rfl : Cond.methodLink RX10 308 yX3_isBounded ∈ lw_g) (lwq_5 (dqc_m (dqa_m (dqa_m (dqa_m (List.mem_of_getElem? (i := 1) rfl))))) rfl : Cond.instanceMethod yX3_isBounded ∈ lw_g) (lwq_5 (dqc_m (dqa_m (dqa_m (dqa_m (List.mem_of_getElem? (i := 2) rfl))))) rfl : Cond.selects yX3_isBounded.cls yX3_isBounded yX3_isBounded ∈ lw_g) (lwq_1 (dqa_m (dqa_m (List.mem_of_getElem? (i := 2) rfl))) rfl : Cond.initialized yX3_isBounded.cls ∈ lw_g) (lwq_5 (dqc_m (dqa_m (dqa_m (dqa_m (List.mem_of_getElem? (i := 3) rfl))))) rfl : Cond.code yX3_isBounded cX3_isBounded 3 (some .boolean) ∈ lw_g), ⟨nmh_3.1, nmh_3.2, pdq_5⟩, ⟨_, _, rfl⟩⟩
set_option maxRecDepth 100000 in
theorem cl_X10_311 : cv_ RX10 311 yX3_isSameRow zX3_isSameRow 3 5 := ⟨gi_V (lwq_5 (dqc_m (dqc_m (dqc_m (dqc_m (dqc_m (dqa_m (List.mem_of_getElem? (i := 3) rfl))))))) rfl : Cond.methodLink RX10 311 yX3_isSameRow ∈ lw_g) (lwq_5 (dqc_m (dqc_m (dqc_m (dqc_m (dqc_m (dqa_m (List.mem_of_getElem? (i := 4) rfl))))))) rfl : Cond.instanceMethod yX3_isSameRow ∈ lw_g) (lwq_5 (dqc_m (dqc_m (dqc_m (dqc_m (dqc_m (dqa_m (List.mem_of_getElem? (i := 5) rfl))))))) rfl : Cond.selects yX3_isSameRow.cls yX3_isSameRow yX3_isSameRow ∈ lw_g) (lwq_1 (dqa_m (dqa_m (List.mem_of_getElem? (i := 2) rfl))) rfl : Cond.initialized yX3_isSameRow.cls ∈ lw_g) (lwq_5 (dqc_m (dqc_m (dqc_m (dqc_m (dqc_m (dqa_m (List.mem_of_getElem? (i := 6) rfl))))))) rfl : Cond.code yX3_isSameRow cX3_isSameRow 6 (some .boolean) ∈ lw_g), ⟨nmh_3.1, nmh_3.2, pdq_33⟩, ⟨_, _, rfl⟩⟩
set_option maxRecDepth 100000 in
theorem cl_X10_315 : cv_ RX10 315 yX3_putInPlace zX3_putInPlace 3 5 := ⟨gi_V (lwq_5 (dqc_m (dqc_m (dqc_m (dqc_m (dqc_m (dqa_m (List.mem_of_getElem? (i := 7) rfl))))))) rfl : Cond.methodLink RX10 315 yX3_putInPlace ∈ lw_g) (lwq_5 (dqc_m (dqc_m (dqc_m (dqc_m (dqc_m (dqa_m (dqa_m (List.mem_of_getElem? (i := 0) rfl)))))))) rfl : Cond.instanceMethod yX3_putInPlace ∈ lw_g) (lwq_5 (dqc_m (dqc_m (dqc_m (dqc_m (dqc_m (dqa_m (dqa_m (List.mem_of_getElem? (i := 1) rfl)))))))) rfl : Cond.selects yX3_putInPlace.cls yX3_putInPlace yX3_putInPlace ∈ lw_g) (lwq_1 (dqa_m (dqa_m (List.mem_of_getElem? (i := 2) rfl))) rfl : Cond.initialized yX3_putInPlace.cls ∈ lw_g) (lwq_5 (dqc_m (dqc_m (dqc_m (dqc_m (dqc_m (dqa_m (dqa_m (List.mem_of_getElem? (i := 2) rfl)))))))) rfl : Cond.code yX3_putInPlace cX3_putInPlace 6 none ∈ lw_g), ⟨nmh_3.1, nmh_3.2, pdq_6⟩, ⟨_, _, rfl⟩⟩
set_option maxRecDepth 100000 in
theorem cl_X10_302 : cv_ RX10 302 yX3_runAnew zX3_runAnew 3 0 := ⟨gi_V (lwq_5 (dqc_m (dqc_m (dqc_m (dqc_m (dqa_m (dqa_m (dqa_m (List.mem_of_getElem? (i := 5) rfl)))))))) rfl : Cond.methodLink RX10 302 yX3_runAnew ∈ lw_g) (lwq_5 (dqc_m (dqc_m (dqc_m (dqc_m (dqa_m (dqa_m (dqa_m (List.mem_of_getElem? (i := 6) rfl)))))))) rfl : Cond.instanceMethod yX3_runAnew ∈ lw_g) (lwq_5 (dqc_m (dqc_m (dqc_m (dqc_m (dqa_m (dqa_m (dqa_m (List.mem_of_getElem? (i := 7) rfl)))))))) rfl : Cond.selects yX3_runAnew.cls yX3_runAnew yX3_runAnew ∈ lw_g) (lwq_1 (dqa_m (dqa_m (List.mem_of_getElem? (i := 2) rfl))) rfl : Cond.initialized yX3_runAnew.cls ∈ lw_g) (lwq_5 (dqc_m (dqc_m (dqc_m (dqc_m (dqc_m (List.mem_of_getElem? (i := 0) rfl)))))) rfl : Cond.code yX3_runAnew cX3_runAnew 8 (some .int) ∈ lw_g), ⟨nmh_3.1, nmh_3.2, pdq_17⟩, ⟨_, _, rfl⟩⟩
set_option maxRecDepth 100000 in
theorem cl_X10_298 : cv_ RX10 298 yX3_takeOut zX3_takeOut 3 1 := ⟨gi_V (lwq_5 (dqc_m (dqc_m (dqc_m (dqc_m (dqa_m (dqa_m (dqa_m (List.mem_of_getElem? (i := 1) rfl)))))))) rfl : Cond.methodLink RX10 298 yX3_takeOut ∈ lw_g) (lwq_5 (dqc_m (dqc_m (dqc_m (dqc_m (dqa_m (dqa_m (dqa_m (List.mem_of_getElem? (i := 2) rfl)))))))) rfl : Cond.instanceMethod yX3_takeOut ∈ lw_g) (lwq_5 (dqc_m (dqc_m (dqc_m (dqc_m (dqa_m (dqa_m (dqa_m (List.mem_of_getElem? (i := 3) rfl)))))))) rfl : Cond.selects yX3_takeOut.cls yX3_takeOut yX3_takeOut ∈ lw_g) (lwq_1 (dqa_m (dqa_m (List.mem_of_getElem? (i := 2) rfl))) rfl : Cond.initialized yX3_takeOut.cls ∈ lw_g) (lwq_5 (dqc_m (dqc_m (dqc_m (dqc_m (dqa_m (dqa_m (dqa_m (List.mem_of_getElem? (i := 4) rfl)))))))) rfl : Cond.code yX3_takeOut cX3_takeOut 3 none ∈ lw_g), ⟨nmh_3.1, nmh_3.2, pdq_9⟩, ⟨_, _, rfl⟩⟩
abbrev po_X10_review (T : Zt) (N : Int) (m i k s a b : Int) : Zt → Option Zv → Prop := fun T' r => ∃ x : Int, r = some (vI x) ∧ fr_ [(103, [3, 4, 5, 15, 16, 17]), (466, []), (467, []), (468, []), (469, []), (472, []), (473, []), (470, []), (471, []), (190, []), (191, [0])] T T' ∧ LP_ (N + 1) T' ∧ lh_ T T' ∧ T' 191 0 0 ≤ T 191 0 0 + 600
abbrev cX10_row : ByteArray := prog_1_method_26_code
def yX10_row : MethodName := ⟨RX10, "row", "(III)I"⟩
def zX10_row : Zm := (RX10, cX10_row, 7, (some .int), { frames := 2, cells := 0, slots := 0, locals := 42 })
theorem bk_X10_row_0 : ck_ fX10 (some .int) cX10_row 0 [.aload 0, .iload 1] 2 = true := qck_r (nn_ _) (by decide +kernel)
theorem bs_X10_row_0 {P : Zt → Option Zv → Prop} (K : Int → Zl → List Zv → Zt → Prop) : sx_ K P [.aload 0, .iload 1] 2 = x_aload 0 (x_iload 1 (K 2)) := ((xe_aload 0).trans (congrArg (x_aload 0) ((xe_iload 1).trans (congrArg (x_iload 1) xe_nil))))
theorem bk_X10_row_5 : ck_ fX10 (some .int) cX10_row 5 [.ifCond .ne 11, .iconst (-2), .ireturn] 11 = true := qck_r (nn_ _) (by decide +kernel)
theorem bs_X10_row_5 {P : Zt → Option Zv → Prop} (K : Int → Zl → List Zv → Zt → Prop) : sx_ K P [.ifCond .ne 11, .iconst (-2), .ireturn] 11 = x_ifCond .ne 11 K (x_iconst (-2) (x_ireturn P)) := ((xe_ifCond .ne 11).trans (congrArg (x_ifCond .ne 11 K) ((xe_iconst (-2)).trans (congrArg (x_iconst (-2)) (xe_ireturn)))))
theorem bk_X10_row_11 : ck_ fX10 (some .int) cX10_row 11 [.aload 0, .tableswitch 0 10 2 #[], .tableswitch 0 6 3 #[], .iload 1, .aaload, .tableswitch 0 2 10 #[], .astore 4, .aload 4, .ifnonnull 33, .iconst (-2), .ireturn] 33 = true := qck_r (nn_ _) (by decide +kernel)
theorem bs_X10_row_11 {P : Zt → Option Zv → Prop} (K : Int → Zl → List Zv → Zt → Prop) : sx_ K P [.aload 0, .tableswitch 0 10 2 #[], .tableswitch 0 6 3 #[], .iload 1, .aaload, .tableswitch 0 2 10 #[], .astore 4, .aload 4, .ifnonnull 33, .iconst (-2), .ireturn] 33 = x_aload 0 (x_g1 110 106 (x_g1 106 523 (x_iload 1 (x_aaload (x_g4 102 103 10 (x_astore 4 (x_aload 4 (x_ifnonnull 33 K (x_iconst (-2) (x_ireturn P)))))))))) := ((xe_aload 0).trans (congrArg (x_aload 0) ((xe_g1 (kk := 110) rfl tl_10_2).trans (congrArg (x_g1 110 106) ((xe_g1 (kk := 106) rfl tl_6_3).trans (congrArg (x_g1 106 523) ((xe_iload 1).trans (congrArg (x_iload 1) ((xe_aaload).trans (congrArg (x_aaload) ((xe_g4 (kk := 102) rfl tl_2_10).trans (congrArg (x_g4 102 103 10) ((xe_astore 4).trans (congrArg (x_astore 4) ((xe_aload 4).trans (congrArg (x_aload 4) ((xe_ifnonnull 33).trans (congrArg (x_ifnonnull 33 K) ((xe_iconst (-2)).trans (congrArg (x_iconst (-2)) (xe_ireturn)))))))))))))))))))))
theorem bk_X10_row_33 : ck_ fX10 (some .int) cX10_row 33 [.iload 2, .aload 4, .tableswitch 0 3 15 #[]] 39 = true := qck_r (nn_ _) (by decide +kernel)
theorem bs_X10_row_33 {P : Zt → Option Zv → Prop} (K : Int → Zl → List Zv → Zt → Prop) : sx_ K P [.iload 2, .aload 4, .tableswitch 0 3 15 #[]] 39 = x_iload 2 (x_aload 4 (x_g0 103 15 0 3000 (K 39))) := ((xe_iload 2).trans (congrArg (x_iload 2) ((xe_aload 4).trans (congrArg (x_aload 4) ((xe_g0 (kk := 103) rfl tl_3_15).trans (congrArg (x_g0 103 15 0 3000) xe_nil))))))
theorem bk_X10_row_42 : ck_ fX10 (some .int) cX10_row 42 [.istore 5, .iload 2, .aload 4, .tableswitch 0 3 17 #[]] 50 = true := qck_r (nn_ _) (by decide +kernel)
theorem bs_X10_row_42 {P : Zt → Option Zv → Prop} (K : Int → Zl → List Zv → Zt → Prop) : sx_ K P [.istore 5, .iload 2, .aload 4, .tableswitch 0 3 17 #[]] 50 = x_istore 5 (x_iload 2 (x_aload 4 (x_g0 103 17 0 3000 (K 50)))) := ((xe_istore 5).trans (congrArg (x_istore 5) ((xe_iload 2).trans (congrArg (x_iload 2) ((xe_aload 4).trans (congrArg (x_aload 4) ((xe_g0 (kk := 103) rfl tl_3_17).trans (congrArg (x_g0 103 17 0 3000) xe_nil))))))))
theorem bk_X10_row_53 : ck_ fX10 (some .int) cX10_row 53 [.istore 6, .iload 3, .ifCond .lt 65, .iload 3, .iconst 7, .if_icmp .le 83, .iload 5, .ifCond .ne 75, .iload 6, .ifCond .eq 80, .iconst (-3), .goto 82] 80 = true := qck_r (nn_ _) (by decide +kernel)
theorem bs_X10_row_53 {P : Zt → Option Zv → Prop} (K : Int → Zl → List Zv → Zt → Prop) : sx_ K P [.istore 6, .iload 3, .ifCond .lt 65, .iload 3, .iconst 7, .if_icmp .le 83, .iload 5, .ifCond .ne 75, .iload 6, .ifCond .eq 80, .iconst (-3), .goto 82] 80 = x_istore 6 (x_iload 3 (x_ifCond .lt 65 K (x_iload 3 (x_iconst 7 (x_if_icmp .le 83 K (x_iload 5 (x_ifCond .ne 75 K (x_iload 6 (x_ifCond .eq 80 K (x_iconst (-3) (x_goto 82 K))))))))))) := ((xe_istore 6).trans (congrArg (x_istore 6) ((xe_iload 3).trans (congrArg (x_iload 3) ((xe_ifCond .lt 65).trans (congrArg (x_ifCond .lt 65 K) ((xe_iload 3).trans (congrArg (x_iload 3) ((xe_iconst 7).trans (congrArg (x_iconst 7) ((xe_if_icmp .le 83).trans (congrArg (x_if_icmp .le 83 K) ((xe_iload 5).trans (congrArg (x_iload 5) ((xe_ifCond .ne 75).trans (congrArg (x_ifCond .ne 75 K) ((xe_iload 6).trans (congrArg (x_iload 6) ((xe_ifCond .eq 80).trans (congrArg (x_ifCond .eq 80 K) ((xe_iconst (-3)).trans (congrArg (x_iconst (-3)) (xe_goto 82)))))))))))))))))))))))
theorem bk_X10_row_65 : ck_ fX10 (some .int) cX10_row 65 [.iload 5, .ifCond .ne 75, .iload 6, .ifCond .eq 80, .iconst (-3), .goto 82] 80 = true := qck_r (nn_ _) (by decide +kernel)
theorem bs_X10_row_65 {P : Zt → Option Zv → Prop} (K : Int → Zl → List Zv → Zt → Prop) : sx_ K P [.iload 5, .ifCond .ne 75, .iload 6, .ifCond .eq 80, .iconst (-3), .goto 82] 80 = x_iload 5 (x_ifCond .ne 75 K (x_iload 6 (x_ifCond .eq 80 K (x_iconst (-3) (x_goto 82 K))))) := ((xe_iload 5).trans (congrArg (x_iload 5) ((xe_ifCond .ne 75).trans (congrArg (x_ifCond .ne 75 K) ((xe_iload 6).trans (congrArg (x_iload 6) ((xe_ifCond .eq 80).trans (congrArg (x_ifCond .eq 80 K) ((xe_iconst (-3)).trans (congrArg (x_iconst (-3)) (xe_goto 82)))))))))))
theorem bk_X10_row_75 : ck_ fX10 (some .int) cX10_row 75 [.iconst (-3), .goto 82] 80 = true := qck_r (nn_ _) (by decide +kernel)
theorem bs_X10_row_75 {P : Zt → Option Zv → Prop} (K : Int → Zl → List Zv → Zt → Prop) : sx_ K P [.iconst (-3), .goto 82] 80 = x_iconst (-3) (x_goto 82 K) := ((xe_iconst (-3)).trans (congrArg (x_iconst (-3)) (xe_goto 82)))
theorem bk_X10_row_82 : ck_ fX10 (some .int) cX10_row 82 [.ireturn] 83 = true := qck_r (nn_ _) (by decide +kernel)
theorem bs_X10_row_82 {P : Zt → Option Zv → Prop} (K : Int → Zl → List Zv → Zt → Prop) : sx_ K P [.ireturn] 83 = x_ireturn P := (xe_ireturn)
theorem bk_X10_row_80 : ck_ fX10 (some .int) cX10_row 80 [.iconst (-2), .ireturn] 83 = true := qck_r (nn_ _) (by decide +kernel)
theorem bs_X10_row_80 {P : Zt → Option Zv → Prop} (K : Int → Zl → List Zv → Zt → Prop) : sx_ K P [.iconst (-2), .ireturn] 83 = x_iconst (-2) (x_ireturn P) := ((xe_iconst (-2)).trans (congrArg (x_iconst (-2)) (xe_ireturn)))
theorem bk_X10_row_83 : ck_ fX10 (some .int) cX10_row 83 [.iload 3, .iconst 4, .if_icmp .ge 110, .iload 5, .ifCond .eq 107, .aload 4, .tableswitch 0 3 14 #[], .iload 2, .iconst 4, .imul, .iload 3, .iadd, .iaload, .goto 109] 107 = true := qck_r (nn_ _) (by decide +kernel)
theorem bs_X10_row_83 {P : Zt → Option Zv → Prop} (K : Int → Zl → List Zv → Zt → Prop) : sx_ K P [.iload 3, .iconst 4, .if_icmp .ge 110, .iload 5, .ifCond .eq 107, .aload 4, .tableswitch 0 3 14 #[], .iload 2, .iconst 4, .imul, .iload 3, .iadd, .iaload, .goto 109] 107 = x_iload 3 (x_iconst 4 (x_if_icmp .ge 110 K (x_iload 5 (x_ifCond .eq 107 K (x_aload 4 (x_g3 103 190 14 (x_iload 2 (x_iconst 4 (x_imul (x_iload 3 (x_iadd (x_iaload (x_goto 109 K))))))))))))) := ((xe_iload 3).trans (congrArg (x_iload 3) ((xe_iconst 4).trans (congrArg (x_iconst 4) ((xe_if_icmp .ge 110).trans (congrArg (x_if_icmp .ge 110 K) ((xe_iload 5).trans (congrArg (x_iload 5) ((xe_ifCond .eq 107).trans (congrArg (x_ifCond .eq 107 K) ((xe_aload 4).trans (congrArg (x_aload 4) ((xe_g3 (kk := 103) rfl tl_3_14).trans (congrArg (x_g3 103 190 14) ((xe_iload 2).trans (congrArg (x_iload 2) ((xe_iconst 4).trans (congrArg (x_iconst 4) ((xe_imul).trans (congrArg (x_imul) ((xe_iload 3).trans (congrArg (x_iload 3) ((xe_iadd).trans (congrArg (x_iadd) ((xe_iaload).trans (congrArg (x_iaload) (xe_goto 109)))))))))))))))))))))))))))
theorem bk_X10_row_110 : ck_ fX10 (some .int) cX10_row 110 [.iload 6, .ifCond .eq 131, .aload 4, .tableswitch 0 3 16 #[], .iload 2, .iconst 4, .imul, .iload 3, .iadd, .iconst 4, .isub, .iaload, .goto 133] 131 = true := qck_r (nn_ _) (by decide +kernel)
theorem bs_X10_row_110 {P : Zt → Option Zv → Prop} (K : Int → Zl → List Zv → Zt → Prop) : sx_ K P [.iload 6, .ifCond .eq 131, .aload 4, .tableswitch 0 3 16 #[], .iload 2, .iconst 4, .imul, .iload 3, .iadd, .iconst 4, .isub, .iaload, .goto 133] 131 = x_iload 6 (x_ifCond .eq 131 K (x_aload 4 (x_g3 103 190 16 (x_iload 2 (x_iconst 4 (x_imul (x_iload 3 (x_iadd (x_iconst 4 (x_isub (x_iaload (x_goto 133 K)))))))))))) := ((xe_iload 6).trans (congrArg (x_iload 6) ((xe_ifCond .eq 131).trans (congrArg (x_ifCond .eq 131 K) ((xe_aload 4).trans (congrArg (x_aload 4) ((xe_g3 (kk := 103) rfl tl_3_16).trans (congrArg (x_g3 103 190 16) ((xe_iload 2).trans (congrArg (x_iload 2) ((xe_iconst 4).trans (congrArg (x_iconst 4) ((xe_imul).trans (congrArg (x_imul) ((xe_iload 3).trans (congrArg (x_iload 3) ((xe_iadd).trans (congrArg (x_iadd) ((xe_iconst 4).trans (congrArg (x_iconst 4) ((xe_isub).trans (congrArg (x_isub) ((xe_iaload).trans (congrArg (x_iaload) (xe_goto 133)))))))))))))))))))))))))
theorem bk_X10_row_131 : ck_ fX10 (some .int) cX10_row 131 [.iconst (-2), .ireturn] 134 = true := qck_r (nn_ _) (by decide +kernel)
theorem bs_X10_row_131 {P : Zt → Option Zv → Prop} (K : Int → Zl → List Zv → Zt → Prop) : sx_ K P [.iconst (-2), .ireturn] 134 = x_iconst (-2) (x_ireturn P) := ((xe_iconst (-2)).trans (congrArg (x_iconst (-2)) (xe_ireturn)))
theorem bk_X10_row_133 : ck_ fX10 (some .int) cX10_row 133 [.ireturn] 134 = true := qck_r (nn_ _) (by decide +kernel)
theorem bs_X10_row_133 {P : Zt → Option Zv → Prop} (K : Int → Zl → List Zv → Zt → Prop) : sx_ K P [.ireturn] 134 = x_ireturn P := (xe_ireturn)
theorem bk_X10_row_107 : ck_ fX10 (some .int) cX10_row 107 [.iconst (-2), .ireturn] 110 = true := qck_r (nn_ _) (by decide +kernel)
theorem bs_X10_row_107 {P : Zt → Option Zv → Prop} (K : Int → Zl → List Zv → Zt → Prop) : sx_ K P [.iconst (-2), .ireturn] 110 = x_iconst (-2) (x_ireturn P) := ((xe_iconst (-2)).trans (congrArg (x_iconst (-2)) (xe_ireturn)))
theorem bk_X10_row_109 : ck_ fX10 (some .int) cX10_row 109 [.ireturn] 110 = true := qck_r (nn_ _) (by decide +kernel)
theorem bs_X10_row_109 {P : Zt → Option Zv → Prop} (K : Int → Zl → List Zv → Zt → Prop) : sx_ K P [.ireturn] 110 = x_ireturn P := (xe_ireturn)
abbrev po_X10_row (T : Zt) (N : Int) (m i w : Int) : Zt → Option Zv → Prop := fun T' r => T = T' ∧ ∃ x : Int, r = some (vI x) ∧ (True)
set_option maxHeartbeats 4000000 in
theorem ct_X10_row {T : Zt} {N : Int} {m i w : Int} (hka : KA_ T) (hkm : KM_ T) (hkr : KR_ T) (hlp : LP_ N T) (hN : 0 ≤ N ∧ N ≤ 511) (h9 : 0 ≤ T 191 0 0 ∧ T 191 0 0 ≤ 900000000) : Ct_ yX10_row zX10_row T [vR 110 0, vI m, vI i, vI w] (po_X10_row T N m i w) := by
  refine ct_of pn_10 rfl rfl (Nat.le_of_ble_eq_true rfl) (fun hT hav => ?_)
  have hr_m : -2147483648 ≤ m ∧ m ≤ 2147483647 := hav (vI m) (List.mem_cons_of_mem _ List.mem_cons_self)
  have hr_i : -2147483648 ≤ i ∧ i ≤ 2147483647 := hav (vI i) (List.mem_cons_of_mem _ (List.mem_cons_of_mem _ List.mem_cons_self))
  have hr_w : -2147483648 ≤ w ∧ w ≤ 2147483647 := hav (vI w) (List.mem_cons_of_mem _ (List.mem_cons_of_mem _ (List.mem_cons_of_mem _ List.mem_cons_self)))
  have hz : zX10_row.2.2.2.1 = some .boolean → ∀ (T' : Zt) (x : Int), po_X10_row T N m i w T' (some (vI x)) → 0 ≤ x ∧ x ≤ 1 := fun h => by cases h
  have hb_matchCount : 0 ≤ T 106 0 4 ∧ T 106 0 4 ≤ 400 := bd_f hT 106 4 tl_6_4 0
  show J_ zX10_row T (po_X10_row T N m i w) 0 0 0 [some (vR 110 0), some (vI m), some (vI i), some (vI w), none, none, none] [] T
  refine j_blx (F := fX10) tb_X10 (nn_ _) bk_X10_row_0 bs_X10_row_0 hz (fun K hK => ?_)
  refine hK 2 _ [vI m, vR 110 0] T ?_
  refine j_callV (y := yX10_isMatch) (Yc := zX10_isMatch) (rest := []) [vI m] (ct_X10_isMatch (T := T)) cl_X10_195 (qd_c (by decide +kernel)) (nn_ _) rfl (rf_of rfl) (Nat.le_of_ble_eq_true rfl) (Nat.le_of_ble_eq_true rfl) (Nat.le_of_ble_eq_true rfl) rfl ?_
  rintro _ _ ⟨rfl, x1, rfl, hx1⟩
  show J_ zX10_row T (po_X10_row T N m i w) 0 0 5 _ [vI x1] T
  refine j_blx (F := fX10) tb_X10 (nn_ _) bk_X10_row_5 bs_X10_row_5 hz (fun K hK => ?_)
  refine And.intro (fun c2 => ?_) (fun c2 => ?_)
  · replace hx1 := hx1.resolve_right (fun z => c2 z.1)
    clear c2
    refine hK 11 _ [] T ?_
    refine j_blx (F := fX10) tb_X10 (nn_ _) bk_X10_row_11 bs_X10_row_11 hz (fun K hK => ?_)
    refine ix_i (by omega) ?_
    refine And.intro (fun c3 => ?_) (fun c3 => ?_)
    · exact absurd (show T 523 0 (m) = 0 by omega) (hka.2 _ (by omega) (by omega))
    · refine And.intro (fun c4 => ?_) (fun c4 => ?_)
      · refine (show po_X10_row T N m i w T (some (vI (-2))) from ?_)
        exact ⟨rfl, _, rfl, by trivial⟩
      · have hl := hlp m (by omega) (by omega) (by omega)
        obtain ⟨⟨a1, a2, a3, a4, a5, a6, a7, a8, a9⟩, b1, b2, b3⟩ := hl
        have hr := hkr _ a8 a9
        have z1 := lz_b b1
        have z2 := lz_b b2
        have g14 : (-2147483648) ≤ T 103 m 14 ∧ T 103 m 14 ≤ 2147483647 := bd_f hT 103 14 tl_3_14 m
        have g16 : (-2147483648) ≤ T 103 m 16 ∧ T 103 m 16 ≤ 2147483647 := bd_f hT 103 16 tl_3_16 m
        refine hK 33 [some (vR 110 0), some (vI m), some (vI i), some (vI w), some (vR 103 m), none, none] [] T ?_
        refine j_blx (F := fX10) tb_X10 (nn_ _) bk_X10_row_33 bs_X10_row_33 hz (fun K hK => ?_)
        intro b5 b5b
        refine hK 39 _ [vI (T 103 m 15), vI i] T ?_
        refine j_callS (y := yX10_isBelow) (Yc := zX10_isBelow) (rest := []) [vI i, vI (T 103 m 15)] (ct_X10_isBelow (T := T)) cl_X10_115 (qd_c (by decide +kernel)) (nn_ _) rfl (rf_of rfl) (Nat.le_of_ble_eq_true rfl) (Nat.le_of_ble_eq_true rfl) (Nat.le_of_ble_eq_true rfl) rfl ?_
        rintro _ _ ⟨rfl, x6, rfl, hx6⟩
        show J_ zX10_row T (po_X10_row T N m i w) 0 0 42 _ [vI x6] T
        refine j_blx (F := fX10) tb_X10 (nn_ _) bk_X10_row_42 bs_X10_row_42 hz (fun K hK => ?_)
        intro b7 b7b
        refine hK 50 [some (vR 110 0), some (vI m), some (vI i), some (vI w), some (vR 103 m), some (vI x6), none] [vI (T 103 m 17), vI i] T ?_
        refine j_callS (y := yX10_isBelow) (Yc := zX10_isBelow) (rest := []) [vI i, vI (T 103 m 17)] (ct_X10_isBelow (T := T)) cl_X10_115 (qd_c (by decide +kernel)) (nn_ _) rfl (rf_of rfl) (Nat.le_of_ble_eq_true rfl) (Nat.le_of_ble_eq_true rfl) (Nat.le_of_ble_eq_true rfl) rfl ?_
        rintro _ _ ⟨rfl, x8, rfl, hx8⟩
        show J_ zX10_row T (po_X10_row T N m i w) 0 0 53 _ [vI x8] T
        refine j_blx (F := fX10) tb_X10 (nn_ _) bk_X10_row_53 bs_X10_row_53 hz (fun K hK => ?_)
        refine And.intro (fun c9 => ?_) (fun c9 => ?_)
        · refine hK 65 [some (vR 110 0), some (vI m), some (vI i), some (vI w), some (vR 103 m), some (vI x6), some (vI x8)] [] T ?_
          refine j_blx (F := fX10) tb_X10 (nn_ _) bk_X10_row_65 bs_X10_row_65 hz (fun K hK => ?_)
          refine And.intro (fun c10 => ?_) (fun c10 => ?_)
          · refine hK 75 _ [] T ?_
            refine j_blx (F := fX10) tb_X10 (nn_ _) bk_X10_row_75 bs_X10_row_75 hz (fun K hK => ?_)
            refine hK 82 _ [vI (-3)] T ?_
            refine j_blx (F := fX10) tb_X10 (nn_ _) bk_X10_row_82 bs_X10_row_82 hz (fun K hK => ?_)
            refine (show po_X10_row T N m i w T (some (vI (-3))) from ?_)
            exact ⟨rfl, _, rfl, by trivial⟩
          · refine And.intro (fun c11 => ?_) (fun c11 => ?_)
            · refine hK 80 _ [] T ?_
              refine j_blx (F := fX10) tb_X10 (nn_ _) bk_X10_row_80 bs_X10_row_80 hz (fun K hK => ?_)
              refine (show po_X10_row T N m i w T (some (vI (-2))) from ?_)
              exact ⟨rfl, _, rfl, by trivial⟩
            · refine hK 82 _ [vI (-3)] T ?_
              refine j_blx (F := fX10) tb_X10 (nn_ _) bk_X10_row_82 bs_X10_row_82 hz (fun K hK => ?_)
              refine (show po_X10_row T N m i w T (some (vI (-3))) from ?_)
              exact ⟨rfl, _, rfl, by trivial⟩
        · refine And.intro (fun c12 => ?_) (fun c12 => ?_)
          · refine hK 83 _ [] T ?_
            refine j_blx (F := fX10) tb_X10 (nn_ _) bk_X10_row_83 bs_X10_row_83 hz (fun K hK => ?_)
            refine And.intro (fun c13 => ?_) (fun c13 => ?_)
            · refine hK 110 _ [] T ?_
              refine j_blx (F := fX10) tb_X10 (nn_ _) bk_X10_row_110 bs_X10_row_110 hz (fun K hK => ?_)
              refine And.intro (fun c14 => ?_) (fun c14 => ?_)
              · refine hK 131 _ [] T ?_
                refine j_blx (F := fX10) tb_X10 (nn_ _) bk_X10_row_131 bs_X10_row_131 hz (fun K hK => ?_)
                refine (show po_X10_row T N m i w T (some (vI (-2))) from ?_)
                exact ⟨rfl, _, rfl, by trivial⟩
              · refine rg_i (by omega) ?_
                refine rg_i (by omega) ?_
                refine rg_i (by omega) ?_
                refine ix_i (by omega) ?_
                intro b16 b16b
                refine hK 133 _ [vI (T 190 (T 103 m 16) (((i * 4) + w) - 4))] T ?_
                refine j_blx (F := fX10) tb_X10 (nn_ _) bk_X10_row_133 bs_X10_row_133 hz (fun K hK => ?_)
                refine (show po_X10_row T N m i w T (some (vI (T 190 (T 103 m 16) (((i * 4) + w) - 4)))) from ?_)
                exact ⟨rfl, _, rfl, by trivial⟩
            · refine And.intro (fun c17 => ?_) (fun c17 => ?_)
              · refine hK 107 _ [] T ?_
                refine j_blx (F := fX10) tb_X10 (nn_ _) bk_X10_row_107 bs_X10_row_107 hz (fun K hK => ?_)
                refine (show po_X10_row T N m i w T (some (vI (-2))) from ?_)
                exact ⟨rfl, _, rfl, by trivial⟩
              · refine rg_i (by omega) ?_
                refine rg_i (by omega) ?_
                refine ix_i (by omega) ?_
                intro b19 b19b
                refine hK 109 _ [vI (T 190 (T 103 m 14) ((i * 4) + w))] T ?_
                refine j_blx (F := fX10) tb_X10 (nn_ _) bk_X10_row_109 bs_X10_row_109 hz (fun K hK => ?_)
                refine (show po_X10_row T N m i w T (some (vI (T 190 (T 103 m 14) ((i * 4) + w)))) from ?_)
                exact ⟨rfl, _, rfl, by trivial⟩
          · refine And.intro (fun c20 => ?_) (fun c20 => ?_)
            · refine hK 75 _ [] T ?_
              refine j_blx (F := fX10) tb_X10 (nn_ _) bk_X10_row_75 bs_X10_row_75 hz (fun K hK => ?_)
              refine hK 82 _ [vI (-3)] T ?_
              refine j_blx (F := fX10) tb_X10 (nn_ _) bk_X10_row_82 bs_X10_row_82 hz (fun K hK => ?_)
              refine (show po_X10_row T N m i w T (some (vI (-3))) from ?_)
              exact ⟨rfl, _, rfl, by trivial⟩
            · refine And.intro (fun c21 => ?_) (fun c21 => ?_)
              · refine hK 80 _ [] T ?_
                refine j_blx (F := fX10) tb_X10 (nn_ _) bk_X10_row_80 bs_X10_row_80 hz (fun K hK => ?_)
                refine (show po_X10_row T N m i w T (some (vI (-2))) from ?_)
                exact ⟨rfl, _, rfl, by trivial⟩
              · refine hK 82 _ [vI (-3)] T ?_
                refine j_blx (F := fX10) tb_X10 (nn_ _) bk_X10_row_82 bs_X10_row_82 hz (fun K hK => ?_)
                refine (show po_X10_row T N m i w T (some (vI (-3))) from ?_)
                exact ⟨rfl, _, rfl, by trivial⟩
  · replace hx1 := hx1.resolve_left (fun z => absurd (c2.symm.trans z.1) (by decide))
    clear c2
    refine (show po_X10_row T N m i w T (some (vI (-2))) from ?_)
    exact ⟨rfl, _, rfl, by trivial⟩
abbrev cX10_start : ByteArray := prog_1_method_21_code
def yX10_start : MethodName := ⟨RX10, "start", "(I)I"⟩
def zX10_start : Zm := (RX10, cX10_start, 3, (some .int), { frames := 2, cells := 11, slots := 130, locals := 53 })
set_option maxRecDepth 100000 in
theorem cl_X10_264 : cv_ RX10 264 yX2_hasEnoughListed zX2_hasEnoughListed 2 0 := ⟨gi_V (lwq_4 (dqc_m (dqc_m (dqc_m (dqc_m (dqc_m (dqa_m (List.mem_of_getElem? (i := 7) rfl))))))) rfl : Cond.methodLink RX10 264 yX2_hasEnoughListed ∈ lw_g) (lwq_4 (dqc_m (dqc_m (dqc_m (dqc_m (dqc_m (dqa_m (dqa_m (List.mem_of_getElem? (i := 0) rfl)))))))) rfl : Cond.instanceMethod yX2_hasEnoughListed ∈ lw_g) (lwq_4 (dqc_m (dqc_m (dqc_m (dqc_m (dqc_m (dqa_m (dqa_m (List.mem_of_getElem? (i := 1) rfl)))))))) rfl : Cond.selects yX2_hasEnoughListed.cls yX2_hasEnoughListed yX2_hasEnoughListed ∈ lw_g) (lwq_1 (dqa_m (dqa_m (List.mem_of_getElem? (i := 0) rfl))) rfl : Cond.initialized yX2_hasEnoughListed.cls ∈ lw_g) (lwq_4 (dqc_m (dqc_m (dqc_m (dqc_m (dqc_m (dqa_m (dqa_m (List.mem_of_getElem? (i := 2) rfl)))))))) rfl : Cond.code yX2_hasEnoughListed cX2_hasEnoughListed 1 (some .boolean) ∈ lw_g), ⟨nmh_10.1, nmh_10.2, pdq_18⟩, ⟨_, _, rfl⟩⟩
set_option maxRecDepth 100000 in
theorem ci_X10_269 : ci_ RX10 269 yX3_init zX3_init 3 := ⟨gi_c (lwq_4 (dqc_m (dqc_m (dqc_m (dqc_m (dqc_m (dqa_m (dqa_m (List.mem_of_getElem? (i := 7) rfl)))))))) rfl : Cond.code yX3_init cX3_init 4 none ∈ lw_g), (lwq_1 (dqa_m (dqa_m (List.mem_of_getElem? (i := 2) rfl))) rfl : Cond.initialized yX3_init.cls ∈ lw_g), (lwq_4 (dqc_m (dqc_m (dqc_m (dqc_m (dqc_m (dqa_m (dqa_m (List.mem_of_getElem? (i := 5) rfl)))))))) rfl : Cond.methodLink RX10 269 yX3_init ∈ lw_g), (lwq_4 (dqc_m (dqc_m (dqc_m (dqc_m (dqc_m (dqa_m (dqa_m (List.mem_of_getElem? (i := 6) rfl)))))))) rfl : Cond.instanceMethod yX3_init ∈ lw_g), rfl, rfl, ⟨by decide, by decide, by decide +kernel⟩⟩
theorem fr5_X10_272 : fr5_ RX10 272 2 10 := ⟨_, _, _, rfl, by decide, by decide, (lwq_4 (dqa_m (dqa_m (dqa_m (List.mem_of_getElem? (i := 1) rfl)))) rfl : Cond.fieldLink RX10 272 _ _ _ ∈ lw_g), rfl, fun a => ⟨.object "SportsHouse$Play", by decide +kernel, rfl, rfl⟩⟩
set_option maxRecDepth 100000 in
theorem cl_X10_276 : cv_ RX10 276 yX3_backToBeginning zX3_backToBeginning 3 0 := ⟨gi_V (lwq_5 (dqa_m (List.mem_of_getElem? (i := 6) rfl)) rfl : Cond.methodLink RX10 276 yX3_backToBeginning ∈ lw_g) (lwq_5 (dqa_m (List.mem_of_getElem? (i := 7) rfl)) rfl : Cond.instanceMethod yX3_backToBeginning ∈ lw_g) (lwq_5 (dqa_m (dqa_m (List.mem_of_getElem? (i := 0) rfl))) rfl : Cond.selects yX3_backToBeginning.cls yX3_backToBeginning yX3_backToBeginning ∈ lw_g) (lwq_1 (dqa_m (dqa_m (List.mem_of_getElem? (i := 2) rfl))) rfl : Cond.initialized yX3_backToBeginning.cls ∈ lw_g) (lwq_5 (dqa_m (dqa_m (List.mem_of_getElem? (i := 1) rfl))) rfl : Cond.code yX3_backToBeginning cX3_backToBeginning 3 none ∈ lw_g), ⟨nmh_3.1, nmh_3.2, pdq_1⟩, ⟨_, _, rfl⟩⟩
abbrev po_X10_start (T : Zt) (N : Int) (m : Int) : Zt → Option Zv → Prop := fun T' r => ∃ x : Int, r = some (vI x) ∧ fr_ [(153, []), (103, []), (102, [10]), (466, []), (467, []), (468, []), (469, []), (470, []), (471, []), (472, []), (473, []), (190, []), (191, [0])] T T' ∧ LP_ N T' ∧ lh_ T T' ∧ T' 191 0 0 ≤ T 191 0 0 + 600 ∧ NA_ T' ∧ ∀ k i j, i ≠ m → k ≠ 190 → k ≠ 191 → T' k i j = T k i j
def nm_ (T T' : Zt) (c h a d : Int) : Prop := (T' 106 0 4 = T 106 0 4 + 1 ∧ T 106 0 4 < 400 ∧ h < T 100 c 5 ∧ a < T 100 c 5) ∧ (∀ k i j, k = 102 ∨ k = 152 → i ≠ T 106 0 4 → T' k i j = T k i j) ∧ (∀ j, j ≠ T 106 0 4 → T' 523 0 j = T 523 0 j) ∧ T' 523 0 (T 106 0 4) = 1 ∧ (T' 102 (T 106 0 4) 0 = c ∧ T' 102 (T 106 0 4) 1 = T 106 0 4 ∧ T' 102 (T 106 0 4) 3 = T 403 c h ∧ T' 102 (T 106 0 4) 4 = T 403 c a ∧ T' 102 (T 106 0 4) 5 = d ∧ T' 102 (T 106 0 4) 10 = 0) ∧ NA_ T'
abbrev cX6_addFixture : ByteArray := prog_8_method_4_code
def yX6_addFixture : MethodName := ⟨RX6, "addFixture", "(LSportsHouse$Competition;IIII)V"⟩
def zX6_addFixture : Zm := (RX6, cX6_addFixture, 6, none, { frames := 2, cells := 3, slots := 34, locals := 56 })
set_option maxRecDepth 100000 in
theorem ci_X6_85 : ci_ RX6 85 yX2_init zX2_init 6 := ⟨gi_c (lwq_3 (dqc_m (dqc_m (dqc_m (dqc_m (dqc_m (dqc_m (dqc_m (List.mem_of_getElem? (i := 0) rfl)))))))) rfl : Cond.code yX2_init cX2_init 7 none ∈ lw_g), (lwq_1 (dqa_m (dqa_m (List.mem_of_getElem? (i := 0) rfl))) rfl : Cond.initialized yX2_init.cls ∈ lw_g), (lwq_3 (dqc_m (dqc_m (dqc_m (dqc_m (dqc_m (dqc_m (dqa_m (dqa_m (dqa_m (List.mem_of_getElem? (i := 6) rfl)))))))))) rfl : Cond.methodLink RX6 85 yX2_init ∈ lw_g), (lwq_3 (dqc_m (dqc_m (dqc_m (dqc_m (dqc_m (dqc_m (dqa_m (dqa_m (dqa_m (List.mem_of_getElem? (i := 7) rfl)))))))))) rfl : Cond.instanceMethod yX2_init ∈ lw_g), rfl, rfl, ⟨by decide, by decide, by decide +kernel⟩⟩
/-- how far a place is from the round's own, in the circle -/
def lv_ (R r q : Int) : Int := if q = R then 0 else min (max (q - r) (r - q)) (R - max (q - r) (r - q))
theorem lv_R (R r : Int) : lv_ R r R = 0 := by unfold lv_; rw [if_pos rfl]
theorem lv_r {R r : Int} (h : 0 ≤ r ∧ r < R) : lv_ R r r = 0 := by unfold lv_; rw [if_neg (by omega)]; omega
theorem em_2 {x R : Int} (h : 0 ≤ x) (g : x < 2 * R) : (x < R ∧ x % R = x) ∨ (R ≤ x ∧ x % R = x - R) := by
  by_cases z : x < R
  · exact Or.inl ⟨z, Int.emod_eq_of_lt h z⟩
  · refine Or.inr ⟨by omega, ?_⟩
    rw [← Int.sub_emod_right, Int.emod_eq_of_lt (by omega) (by omega)]
theorem lv_a {R r k : Int} (hr : 0 ≤ r ∧ r < R) (hk : 1 ≤ k ∧ 2 * k ≤ R) : lv_ R r ((r + k) % R) = k := by
  have h := em_2 (x := r + k) (R := R) (by omega) (by omega)
  unfold lv_
  rw [if_neg (by omega)]
  omega
theorem lv_b {R r k : Int} (hr : 0 ≤ r ∧ r < R) (hk : 1 ≤ k ∧ 2 * k ≤ R) : lv_ R r ((r - k + R) % R) = k := by
  have h := em_2 (x := r - k + R) (R := R) (by omega) (by omega)
  unfold lv_
  rw [if_neg (by omega)]
  omega
def KEc_ (T : Zt) (c : Int) : Prop := ∀ j : Int, 0 ≤ j → j < T 100 c 5 → T 404 c (T 403 c j) = j
theorem KEc_f {ws : List (Nat × List Int)} {T T' : Zt} {c : Int} (h : KEc_ T c) (f : fr_ ws T T') (w : fw_ ws 100 5 = false ∧ (∀ j, fw_ ws 404 j = false) ∧ (∀ j, fw_ ws 403 j = false)) : KEc_ T' c := fun j a b => by
  rw [f 100 c 5 w.1] at b
  rw [f 403 c j (w.2.2 j), f 404 c _ (w.2.1 _)]
  exact h j a b
/-- the matches that a plan has laid so far, from number f on -/
def RK_ (T : Zt) (c f R r k d : Int) : Prop := (0 ≤ f ∧ f ≤ T 106 0 4 ∧ T 106 0 4 ≤ 400) ∧ (∀ i, f ≤ i → i < T 106 0 4 → T 102 i 0 = c ∧ T 102 i 1 = i ∧ T 102 i 10 = 0 ∧ 0 ≤ T 404 c (T 102 i 3) ∧ 0 ≤ T 404 c (T 102 i 4) ∧ (T 102 i 5 < d ∨ (T 102 i 5 = d ∧ lv_ R r (T 404 c (T 102 i 3)) < k))) ∧ (∀ i j, f ≤ i → i < j → j < T 106 0 4 → T 102 i 3 = T 102 j 3 → T 102 i 5 ≠ T 102 j 5) ∧ (∀ i, 0 ≤ i → i < T 106 0 4 → T 523 0 i ≠ 0) ∧ NA_ T
theorem rb_next {T : Zt} {c f R r k d r' d' : Int} (h : RK_ T c f R r k d) (hd : d < d') : RK_ T c f R r' 0 d' := by
  obtain ⟨h1, h2, h3, h4, h5⟩ := h
  refine ⟨h1, fun i a b => ?_, h3, h4, h5⟩
  obtain ⟨a1, a2, a3, a4, a5, a6⟩ := h2 i a b
  exact ⟨a1, a2, a3, a4, a5, Or.inl (by omega)⟩
theorem rb_add {T T' : Zt} {c f R r k d h a : Int} (hrb : RK_ T c f R r k d) (hke : KEc_ T c) (hh : 0 ≤ h ∧ 0 ≤ a) (hl : lv_ R r h = k) (fr : fr_ [(106, [4]), (523, []), (152, []), (102, []), (448, []), (449, [])] T T') (hx : (T' = T ∧ (T 100 c 5 ≤ h ∨ T 100 c 5 ≤ a ∨ 400 ≤ T 106 0 4)) ∨ nm_ T T' c h a d) : RK_ T' c f R r (k + 1) d ∧ (∀ i j, i < f → T' 102 i j = T 102 i j) ∧ T 106 0 4 ≤ T' 106 0 4 := by
  obtain ⟨h1, h2, h3, h4, h5⟩ := hrb
  rcases hx with ⟨rfl, -⟩ | ⟨⟨n1, n2, n3, n4⟩, n5, n6, n7, ⟨m0, m1, m3, m4, m5, m10⟩, n8⟩
  · refine ⟨⟨h1, fun i a b => ?_, h3, h4, h5⟩, fun _ _ _ => rfl, by omega⟩
    obtain ⟨a1, a2, a3, a4, a5, a6⟩ := h2 i a b
    exact ⟨a1, a2, a3, a4, a5, a6.imp id (fun z => ⟨z.1, by omega⟩)⟩
  · have e4 : ∀ x, T' 404 c x = T 404 c x := fun x => fr 404 c x rfl
    have eo : ∀ i j, i ≠ T 106 0 4 → T' 102 i j = T 102 i j := fun i j hi => n5 102 i j (Or.inl rfl) hi
    have hs : T' 404 c (T' 102 (T 106 0 4) 3) = h := by rw [e4, m3]; exact hke h hh.1 n3
    have hs2 : T' 404 c (T' 102 (T 106 0 4) 4) = a := by rw [e4, m4]; exact hke a hh.2 n4
    refine ⟨⟨⟨by omega, by omega, by omega⟩, fun i p q => ?_, fun i j p q w => ?_, fun i p q => ?_, n8⟩, fun i j hi => eo i j (by omega), by omega⟩
    · by_cases z : i = T 106 0 4
      · rw [z]
        exact ⟨m0, m1, m10, by rw [hs]; omega, by rw [hs2]; omega, Or.inr ⟨m5, by rw [hs]; omega⟩⟩
      · obtain ⟨a1, a2, a3, a4, a5, a6⟩ := h2 i p (by omega)
        rw [eo i 0 z, eo i 1 z, eo i 10 z, eo i 3 z, eo i 4 z, eo i 5 z, e4, e4]
        exact ⟨a1, a2, a3, a4, a5, a6.imp id (fun z => ⟨z.1, by omega⟩)⟩
    · by_cases z : j = T 106 0 4
      · rw [z, m5, eo i 3 (by omega), eo i 5 (by omega)]
        intro e5 e6
        obtain ⟨a1, a2, a3, a4, a5, a6⟩ := h2 i p (by omega)
        rcases a6 with a6 | ⟨-, a6⟩
        · omega
        · rw [e5, ← e4, hs] at a6
          omega
      · rw [eo i 3 (by omega), eo i 5 (by omega), eo j 3 z, eo j 5 z]
        exact h3 i j p q (by omega)
    · by_cases z : i = T 106 0 4
      · rw [z, n7]; decide
      · rw [n6 i z]
        exact h4 i p (by omega)
abbrev cX0_placeCount : ByteArray := prog_2_method_2_code
def yX0_placeCount : MethodName := ⟨RX0, "placeCount", "()I"⟩
def zX0_placeCount : Zm := (RX0, cX0_placeCount, 1, (some .int), { frames := 0, cells := 0, slots := 0, locals := 0 })
theorem bk_X0_placeCount_0 : ck_ fX0 (some .int) cX0_placeCount 0 [.aload 0, .tableswitch 0 0 5 #[], .aload 0, .tableswitch 0 0 5 #[], .iconst 1, .iand, .iadd, .ireturn] 12 = true := qck_r (nn_ _) (by decide +kernel)
theorem bs_X0_placeCount_0 {P : Zt → Option Zv → Prop} (K : Int → Zl → List Zv → Zt → Prop) : sx_ K P [.aload 0, .tableswitch 0 0 5 #[], .aload 0, .tableswitch 0 0 5 #[], .iconst 1, .iand, .iadd, .ireturn] 12 = x_aload 0 (x_g0 100 5 0 12 (x_aload 0 (x_g0 100 5 0 12 (x_iconst 1 (x_iand (x_iadd (x_ireturn P))))))) := ((xe_aload 0).trans (congrArg (x_aload 0) ((xe_g0 (kk := 100) rfl tl_0_5).trans (congrArg (x_g0 100 5 0 12) ((xe_aload 0).trans (congrArg (x_aload 0) ((xe_g0 (kk := 100) rfl tl_0_5).trans (congrArg (x_g0 100 5 0 12) ((xe_iconst 1).trans (congrArg (x_iconst 1) ((xe_iand).trans (congrArg (x_iand) ((xe_iadd).trans (congrArg (x_iadd) (xe_ireturn)))))))))))))))
abbrev po_X0_placeCount (T : Zt) (c : Int) : Zt → Option Zv → Prop := fun T' r => T = T' ∧ r = some (vI (T 100 c 5 + an_ (T 100 c 5) 1))
set_option maxHeartbeats 4000000 in
theorem ct_X0_placeCount {T : Zt} {c : Int} : Ct_ yX0_placeCount zX0_placeCount T [vR 100 c] (po_X0_placeCount T c) := by
  refine ct_of pn_0 rfl rfl (Nat.le_of_ble_eq_true rfl) (fun hT hav => ?_)
  have hz : zX0_placeCount.2.2.2.1 = some .boolean → ∀ (T' : Zt) (x : Int), po_X0_placeCount T c T' (some (vI x)) → 0 ≤ x ∧ x ≤ 1 := fun h => by cases h
  have hb5 : 0 ≤ T 100 c 5 ∧ T 100 c 5 ≤ 12 := bd_f hT 100 5 tl_0_5 c
  have hp1 := an_1b (T 100 c 5)
  show J_ zX0_placeCount T (po_X0_placeCount T c) 0 0 0 [some (vR 100 c)] [] T
  refine j_blx (F := fX0) tb_X0 (nn_ _) bk_X0_placeCount_0 bs_X0_placeCount_0 hz (fun K hK => ?_)
  intro b1 b1b
  intro b2 b2b
  intro w3 w3b
  refine rg_i (by omega) ?_
  refine (show po_X0_placeCount T c T (some (vI ((T 100 c 5) + (an_ (T 100 c 5) 1)))) from ?_)
  exact ⟨rfl, rfl⟩
theorem rb_mono {T : Zt} {c f R r k k2 d : Int} (h : RK_ T c f R r k d) (g : k ≤ k2) : RK_ T c f R r k2 d := by
  obtain ⟨h1, h2, h3, h4, h5⟩ := h
  refine ⟨h1, fun i a b => ?_, h3, h4, h5⟩
  obtain ⟨a1, a2, a3, a4, a5, a6⟩ := h2 i a b
  exact ⟨a1, a2, a3, a4, a5, a6.imp id (fun z => ⟨z.1, by omega⟩)⟩
abbrev cX6_addRound : ByteArray := prog_8_method_3_code
def yX6_addRound : MethodName := ⟨RX6, "addRound", "(LSportsHouse$Competition;IIZI)V"⟩
def zX6_addRound : Zm := (RX6, cX6_addRound, 12, none, { frames := 3, cells := 18, slots := 204, locals := 81 })
set_option maxRecDepth 100000 in
theorem cl_X6_75 : cv_ RX6 75 yX6_addFixture zX6_addFixture 6 5 := ⟨gi_V (lwq_3 (dqc_m (dqc_m (dqc_m (dqc_m (dqc_m (dqc_m (dqa_m (dqa_m (dqa_m (List.mem_of_getElem? (i := 1) rfl)))))))))) rfl : Cond.methodLink RX6 75 yX6_addFixture ∈ lw_g) (lwq_3 (dqc_m (dqc_m (dqc_m (dqc_m (dqc_m (dqc_m (dqa_m (dqa_m (dqa_m (List.mem_of_getElem? (i := 3) rfl)))))))))) rfl : Cond.instanceMethod yX6_addFixture ∈ lw_g) (lw_sel 119 rfl : Cond.selects yX6_addFixture.cls yX6_addFixture yX6_addFixture ∈ lw_g) (lwq_1 (List.mem_of_getElem? (i := 4) rfl) rfl : Cond.initialized yX6_addFixture.cls ∈ lw_g) (lwq_3 (dqc_m (dqc_m (dqc_m (dqc_m (dqc_m (dqc_m (dqa_m (dqa_m (dqa_m (List.mem_of_getElem? (i := 4) rfl)))))))))) rfl : Cond.code yX6_addFixture cX6_addFixture 6 none ∈ lw_g), ⟨nmh_6.1, nmh_6.2, pdq_34⟩, ⟨_, _, rfl⟩⟩
set_option maxRecDepth 100000 in
theorem cl_X6_63 : cv_ RX6 63 yX0_placeCount zX0_placeCount 0 0 := ⟨gi_V (lwq_3 (dqc_m (dqc_m (dqc_m (dqc_m (dqc_m (dqc_m (dqa_m (dqa_m (List.mem_of_getElem? (i := 4) rfl))))))))) rfl : Cond.methodLink RX6 63 yX0_placeCount ∈ lw_g) (lwq_3 (dqc_m (dqc_m (dqc_m (dqc_m (dqc_m (dqc_m (dqa_m (List.mem_of_getElem? (i := 1) rfl)))))))) rfl : Cond.instanceMethod yX0_placeCount ∈ lw_g) (lwq_3 (dqc_m (dqc_m (dqc_m (dqc_m (dqc_m (dqc_m (dqa_m (List.mem_of_getElem? (i := 2) rfl)))))))) rfl : Cond.selects yX0_placeCount.cls yX0_placeCount yX0_placeCount ∈ lw_g) (lwq_1 (dqa_m (List.mem_of_getElem? (i := 7) rfl)) rfl : Cond.initialized yX0_placeCount.cls ∈ lw_g) (lwq_3 (dqc_m (dqc_m (dqc_m (dqc_m (dqc_m (dqc_m (dqa_m (List.mem_of_getElem? (i := 3) rfl)))))))) rfl : Cond.code yX0_placeCount cX0_placeCount 1 (some .int) ∈ lw_g), ⟨nmh_11.1, nmh_11.2, pdq_17⟩, ⟨_, _, rfl⟩⟩
theorem mlb {a b A B : Int} (h : 0 ≤ a ∧ a ≤ A) (g : 0 ≤ b ∧ b ≤ B) : 0 ≤ a * b ∧ a * b ≤ A * B := ⟨Int.mul_nonneg h.1 g.1, Int.mul_le_mul h.2 g.2 g.1 (by omega)⟩
theorem sc_b {l q R L E b : Int} (hl : 0 ≤ l ∧ l < L) (hq : 0 ≤ q ∧ q < R) (hE : 1 ≤ E) (hb : 0 ≤ b) (h : b + (R * L - 1) * E ≤ 999) : 0 ≤ b + (l * R + q) * E ∧ b + (l * R + q) * E ≤ 999 := by
  have h1 : l * R + R ≤ R * L := by
    have : (l + 1) * R ≤ L * R := Int.mul_le_mul_of_nonneg_right (by omega) (by omega)
    rw [Int.add_mul, Int.one_mul] at this
    rw [Int.mul_comm R L]
    exact this
  have h2 : (l * R + q) * E ≤ (R * L - 1) * E := Int.mul_le_mul_of_nonneg_right (by omega) (by omega)
  have h3 : 0 ≤ (l * R + q) * E := Int.mul_nonneg (by have := Int.mul_nonneg hl.1 (show 0 ≤ R by omega); omega) (by omega)
  omega
theorem sc_n (l q R E b : Int) : b + (l * R + (q + 1)) * E = b + (l * R + q) * E + E := by
  rw [← Int.add_assoc, Int.add_mul, Int.one_mul, ← Int.add_assoc]
theorem sc_l (l q R E b : Int) (h : q = R) : b + ((l + 1) * R + 0) * E = b + (l * R + q) * E := by
  rw [h, Int.add_mul l 1 R, Int.one_mul, Int.add_zero]
abbrev cX0_daysFromFirstToLast : ByteArray := prog_2_method_3_code
def yX0_daysFromFirstToLast : MethodName := ⟨RX0, "daysFromFirstToLast", "()I"⟩
def zX0_daysFromFirstToLast : Zm := (RX0, cX0_daysFromFirstToLast, 2, (some .int), { frames := 1, cells := 0, slots := 0, locals := 20 })
theorem bk_X0_daysFromFirstToLast_0 : ck_ fX0 (some .int) cX0_daysFromFirstToLast 0 [.aload 0] 1 = true := qck_r (nn_ _) (by decide +kernel)
theorem bs_X0_daysFromFirstToLast_0 {P : Zt → Option Zv → Prop} (K : Int → Zl → List Zv → Zt → Prop) : sx_ K P [.aload 0] 1 = x_aload 0 (K 1) := ((xe_aload 0).trans (congrArg (x_aload 0) xe_nil))
set_option maxRecDepth 100000 in
theorem cl_X0_37 : cv_ RX0 37 yX0_placeCount zX0_placeCount 0 0 := ⟨gi_V (lwq_3 (dqc_m (dqc_m (dqc_m (dqc_m (dqc_m (dqc_m (dqa_m (List.mem_of_getElem? (i := 0) rfl)))))))) rfl : Cond.methodLink RX0 37 yX0_placeCount ∈ lw_g) (lwq_3 (dqc_m (dqc_m (dqc_m (dqc_m (dqc_m (dqc_m (dqa_m (List.mem_of_getElem? (i := 1) rfl)))))))) rfl : Cond.instanceMethod yX0_placeCount ∈ lw_g) (lwq_3 (dqc_m (dqc_m (dqc_m (dqc_m (dqc_m (dqc_m (dqa_m (List.mem_of_getElem? (i := 2) rfl)))))))) rfl : Cond.selects yX0_placeCount.cls yX0_placeCount yX0_placeCount ∈ lw_g) (lwq_1 (dqa_m (List.mem_of_getElem? (i := 7) rfl)) rfl : Cond.initialized yX0_placeCount.cls ∈ lw_g) (lwq_3 (dqc_m (dqc_m (dqc_m (dqc_m (dqc_m (dqc_m (dqa_m (List.mem_of_getElem? (i := 3) rfl)))))))) rfl : Cond.code yX0_placeCount cX0_placeCount 1 (some .int) ∈ lw_g), ⟨nmh_11.1, nmh_11.2, pdq_17⟩, ⟨_, _, rfl⟩⟩
theorem bk_X0_daysFromFirstToLast_4 : ck_ fX0 (some .int) cX0_daysFromFirstToLast 4 [.iconst 1, .isub, .aload 0, .tableswitch 0 0 1 #[], .iconst 6, .iaload, .imul, .istore 1, .iload 1, .iconst 1, .isub, .aload 0, .tableswitch 0 0 1 #[], .iconst 7, .iaload, .imul, .ireturn] 27 = true := qck_r (nn_ _) (by decide +kernel)
theorem bs_X0_daysFromFirstToLast_4 {P : Zt → Option Zv → Prop} (K : Int → Zl → List Zv → Zt → Prop) : sx_ K P [.iconst 1, .isub, .aload 0, .tableswitch 0 0 1 #[], .iconst 6, .iaload, .imul, .istore 1, .iload 1, .iconst 1, .isub, .aload 0, .tableswitch 0 0 1 #[], .iconst 7, .iaload, .imul, .ireturn] 27 = x_iconst 1 (x_isub (x_aload 0 (x_g2 100 401 (x_iconst 6 (x_iaload (x_imul (x_istore 1 (x_iload 1 (x_iconst 1 (x_isub (x_aload 0 (x_g2 100 401 (x_iconst 7 (x_iaload (x_imul (x_ireturn P)))))))))))))))) := ((xe_iconst 1).trans (congrArg (x_iconst 1) ((xe_isub).trans (congrArg (x_isub) ((xe_aload 0).trans (congrArg (x_aload 0) ((xe_g2 (kk := 100) rfl tl_0_1).trans (congrArg (x_g2 100 401) ((xe_iconst 6).trans (congrArg (x_iconst 6) ((xe_iaload).trans (congrArg (x_iaload) ((xe_imul).trans (congrArg (x_imul) ((xe_istore 1).trans (congrArg (x_istore 1) ((xe_iload 1).trans (congrArg (x_iload 1) ((xe_iconst 1).trans (congrArg (x_iconst 1) ((xe_isub).trans (congrArg (x_isub) ((xe_aload 0).trans (congrArg (x_aload 0) ((xe_g2 (kk := 100) rfl tl_0_1).trans (congrArg (x_g2 100 401) ((xe_iconst 7).trans (congrArg (x_iconst 7) ((xe_iaload).trans (congrArg (x_iaload) ((xe_imul).trans (congrArg (x_imul) (xe_ireturn)))))))))))))))))))))))))))))))))
abbrev po_X0_daysFromFirstToLast (T : Zt) (c : Int) : Zt → Option Zv → Prop := fun T' r => T = T' ∧ ∃ x : Int, r = some (vI x) ∧ (x = ((T 100 c 5 + an_ (T 100 c 5) 1 - 1) * T 401 c 6 - 1) * T 401 c 7)
set_option maxHeartbeats 4000000 in
theorem ct_X0_daysFromFirstToLast {T : Zt} {c : Int} (hl : 0 ≤ T 401 c 6 ∧ T 401 c 6 ≤ 4) (hE : 1 ≤ T 401 c 7 ∧ T 401 c 7 ≤ 30) (he : 2 ≤ T 100 c 5) : Ct_ yX0_daysFromFirstToLast zX0_daysFromFirstToLast T [vR 100 c] (po_X0_daysFromFirstToLast T c) := by
  refine ct_of pn_0 rfl rfl (Nat.le_of_ble_eq_true rfl) (fun hT hav => ?_)
  have hz : zX0_daysFromFirstToLast.2.2.2.1 = some .boolean → ∀ (T' : Zt) (x : Int), po_X0_daysFromFirstToLast T c T' (some (vI x)) → 0 ≤ x ∧ x ≤ 1 := fun h => by cases h
  have hb5 : 0 ≤ T 100 c 5 ∧ T 100 c 5 ≤ 12 := bd_f hT 100 5 tl_0_5 c
  have hp1 := an_1b (T 100 c 5)
  have hp2 : T 100 c 5 = 12 → an_ (T 100 c 5) 1 = 0 := fun h => by rw [h]; decide
  have hm1 := mlb (a := T 100 c 5 + an_ (T 100 c 5) 1 - 1) (b := T 401 c 6) (A := 12) (B := 4) (by omega) (by omega)
  show J_ zX0_daysFromFirstToLast T (po_X0_daysFromFirstToLast T c) 0 0 0 [some (vR 100 c), none] [] T
  refine j_blx (F := fX0) tb_X0 (nn_ _) bk_X0_daysFromFirstToLast_0 bs_X0_daysFromFirstToLast_0 hz (fun K hK => ?_)
  refine hK 1 _ [vR 100 c] T ?_
  refine j_callV (y := yX0_placeCount) (Yc := zX0_placeCount) (rest := []) [] (ct_X0_placeCount (T := T)) cl_X0_37 (qd_c (by decide +kernel)) (nn_ _) rfl (rf_of rfl) (Nat.le_of_ble_eq_true rfl) (Nat.le_of_ble_eq_true rfl) (Nat.le_of_ble_eq_true rfl) rfl ?_
  rintro _ _ ⟨rfl, rfl⟩
  show J_ zX0_daysFromFirstToLast T (po_X0_daysFromFirstToLast T c) 0 0 4 _ [vI (T 100 c 5 + an_ (T 100 c 5) 1)] T
  refine j_blx (F := fX0) tb_X0 (nn_ _) bk_X0_daysFromFirstToLast_4 bs_X0_daysFromFirstToLast_4 hz (fun K hK => ?_)
  refine rg_i (by omega) ?_
  refine ix_i (by omega) ?_
  intro b1 b1b
  refine rg_i (by first | omega | (have y9 := mlb (a := (T 100 c 5 + an_ (T 100 c 5) 1 - 1) * T 401 c 6 - 1 + 1) (b := T 401 c 7) (A := 49) (B := 30) (by omega) (by omega); rw [Int.add_mul, Int.one_mul] at y9; omega)) ?_
  refine rg_i (by omega) ?_
  refine ix_i (by omega) ?_
  intro b2 b2b
  refine rg_i (by first | omega | (have y9 := mlb (a := (T 100 c 5 + an_ (T 100 c 5) 1 - 1) * T 401 c 6 - 1 + 1) (b := T 401 c 7) (A := 49) (B := 30) (by omega) (by omega); rw [Int.add_mul, Int.one_mul] at y9; omega)) ?_
  refine (show po_X0_daysFromFirstToLast T c T (some (vI (((((T 100 c 5 + an_ (T 100 c 5) 1) - 1) * (T 401 c 6)) - 1) * (T 401 c 7)))) from ?_)
  exact ⟨rfl, _, rfl, by rfl⟩
abbrev cX0_fixtureCount : ByteArray := prog_2_method_4_code
def yX0_fixtureCount : MethodName := ⟨RX0, "fixtureCount", "()I"⟩
def zX0_fixtureCount : Zm := (RX0, cX0_fixtureCount, 1, (some .int), { frames := 0, cells := 0, slots := 0, locals := 0 })
abbrev cX6_schedule : ByteArray := prog_8_method_2_code
def yX6_schedule : MethodName := ⟨RX6, "schedule", "(LSportsHouse$Competition;I)V"⟩
def zX6_schedule : Zm := (RX6, cX6_schedule, 7, none, { frames := 4, cells := 792, slots := 8976, locals := 112 })
set_option maxRecDepth 100000 in
theorem cl_X6_70 : cv_ RX6 70 yX6_addRound zX6_addRound 6 5 := ⟨gi_V (lwq_3 (dqc_m (dqc_m (dqc_m (dqc_m (dqc_m (dqc_m (dqa_m (dqa_m (List.mem_of_getElem? (i := 5) rfl))))))))) rfl : Cond.methodLink RX6 70 yX6_addRound ∈ lw_g) (lwq_3 (dqc_m (dqc_m (dqc_m (dqc_m (dqc_m (dqc_m (dqa_m (dqa_m (List.mem_of_getElem? (i := 7) rfl))))))))) rfl : Cond.instanceMethod yX6_addRound ∈ lw_g) (lw_sel 120 rfl : Cond.selects yX6_addRound.cls yX6_addRound yX6_addRound ∈ lw_g) (lwq_1 (List.mem_of_getElem? (i := 4) rfl) rfl : Cond.initialized yX6_addRound.cls ∈ lw_g) (lwq_3 (dqc_m (dqc_m (dqc_m (dqc_m (dqc_m (dqc_m (dqa_m (dqa_m (dqa_m (List.mem_of_getElem? (i := 0) rfl)))))))))) rfl : Cond.code yX6_addRound cX6_addRound 12 none ∈ lw_g), ⟨nmh_6.1, nmh_6.2, pdq_35⟩, ⟨_, _, rfl⟩⟩
