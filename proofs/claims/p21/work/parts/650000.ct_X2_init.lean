theorem oi_n {T T1 T2 : Zt} {p : Int} {k : Nat} (h : oi_ T T1 p) (e : ∀ k' i' j, ¬ (k' = k ∧ i' = p) → T2 k' i' j = T1 k' i' j) : oi_ T T2 p := fun k' i j hi => (e k' i j (fun q => hi q.2)).trans (h k' i j hi)
theorem oq_n {T T1 T2 : Zt} {p : Int} {k : Nat} (h : oq_ T T1 p) (e : ∀ k' i' j, ¬ (k' = k ∧ i' = p) → T2 k' i' j = T1 k' i' j) : oq_ T T2 p := fun k' i j hi a b => (e k' i j (fun q => hi q.2)).trans (h k' i j hi a b)
abbrev cX2_init : ByteArray := prog_4_method_1_code
def yX2_init : MethodName := ⟨RX2, "<init>", "(LSportsHouse$Competition;IIIII)V"⟩
def zX2_init : Zm := (RX2, cX2_init, 7, none, { frames := 1, cells := 2, slots := 23, locals := 30 })
theorem bk_X2_init_0 : ck_ fX2 none cX2_init 0 [.aload 0] 1 = true := qck_r (nn_ _) (by decide +kernel)
theorem bs_X2_init_0 {P : Zt → Option Zv → Prop} (K : Int → Zl → List Zv → Zt → Prop) : sx_ K P [.aload 0] 1 = x_aload 0 (K 1) := ((xe_aload 0).trans (congrArg (x_aload 0) xe_nil))
theorem bk_X2_init_4 : ck_ fX2 none cX2_init 4 [.aload 0, .iconst (-1)] 6 = true := qck_r (nn_ _) (by decide +kernel)
theorem bs_X2_init_4 {P : Zt → Option Zv → Prop} (K : Int → Zl → List Zv → Zt → Prop) : sx_ K P [.aload 0, .iconst (-1)] 6 = x_aload 0 (x_iconst (-1) (K 6)) := ((xe_aload 0).trans (congrArg (x_aload 0) ((xe_iconst (-1)).trans (congrArg (x_iconst (-1)) xe_nil))))
theorem fW_X2_9 : fW_ RX2 9 2 6 true := ⟨_, _, _, rfl, by decide, by decide, (lwq_4 (dqa_m (List.mem_of_getElem? (i := 3) rfl)) rfl : Cond.fieldLink RX2 9 _ _ _ ∈ lw_g), rfl, .int, by decide +kernel, (fun _ h => by cases h), fun _ _ => ⟨rfl, rfl⟩⟩
theorem bk_X2_init_9 : ck_ fX2 none cX2_init 9 [.aload 0, .iconst (-1)] 11 = true := qck_r (nn_ _) (by decide +kernel)
theorem bs_X2_init_9 {P : Zt → Option Zv → Prop} (K : Int → Zl → List Zv → Zt → Prop) : sx_ K P [.aload 0, .iconst (-1)] 11 = x_aload 0 (x_iconst (-1) (K 11)) := ((xe_aload 0).trans (congrArg (x_aload 0) ((xe_iconst (-1)).trans (congrArg (x_iconst (-1)) xe_nil))))
theorem fW_X2_15 : fW_ RX2 15 2 7 true := ⟨_, _, _, rfl, by decide, by decide, (lwq_4 (dqa_m (List.mem_of_getElem? (i := 6) rfl)) rfl : Cond.fieldLink RX2 15 _ _ _ ∈ lw_g), rfl, .int, by decide +kernel, (fun _ h => by cases h), fun _ _ => ⟨rfl, rfl⟩⟩
theorem bk_X2_init_14 : ck_ fX2 none cX2_init 14 [.aload 0, .iconst 20] 17 = true := qck_r (nn_ _) (by decide +kernel)
theorem bs_X2_init_14 {P : Zt → Option Zv → Prop} (K : Int → Zl → List Zv → Zt → Prop) : sx_ K P [.aload 0, .iconst 20] 17 = x_aload 0 (x_iconst 20 (K 17)) := ((xe_aload 0).trans (congrArg (x_aload 0) ((xe_iconst 20).trans (congrArg (x_iconst 20) xe_nil))))
theorem fW_X2_18 : fW_ RX2 18 2 8 false := ⟨_, _, _, rfl, by decide, by decide, (lwq_4 (dqa_m (dqa_m (List.mem_of_getElem? (i := 1) rfl))) rfl : Cond.fieldLink RX2 18 _ _ _ ∈ lw_g), rfl, .array .int, by decide +kernel, fun _ _ => ⟨rfl, rfl⟩, (fun _ h => by cases h)⟩
theorem bk_X2_init_22 : ck_ fX2 none cX2_init 22 [.aload 0, .iconst 2] 24 = true := qck_r (nn_ _) (by decide +kernel)
theorem bs_X2_init_22 {P : Zt → Option Zv → Prop} (K : Int → Zl → List Zv → Zt → Prop) : sx_ K P [.aload 0, .iconst 2] 24 = x_aload 0 (x_iconst 2 (K 24)) := ((xe_aload 0).trans (congrArg (x_aload 0) ((xe_iconst 2).trans (congrArg (x_iconst 2) xe_nil))))
theorem fW_X2_22 : fW_ RX2 22 2 9 false := ⟨_, _, _, rfl, by decide, by decide, (lwq_4 (dqa_m (dqa_m (List.mem_of_getElem? (i := 3) rfl))) rfl : Cond.fieldLink RX2 22 _ _ _ ∈ lw_g), rfl, .array .int, by decide +kernel, fun _ _ => ⟨rfl, rfl⟩, (fun _ h => by cases h)⟩
theorem bk_X2_init_29 : ck_ fX2 none cX2_init 29 [.aload 0, .aload 1] 31 = true := qck_r (nn_ _) (by decide +kernel)
theorem bs_X2_init_29 {P : Zt → Option Zv → Prop} (K : Int → Zl → List Zv → Zt → Prop) : sx_ K P [.aload 0, .aload 1] 31 = x_aload 0 (x_aload 1 (K 31)) := ((xe_aload 0).trans (congrArg (x_aload 0) ((xe_aload 1).trans (congrArg (x_aload 1) xe_nil))))
theorem fW_X2_25 : fW_ RX2 25 2 0 false := ⟨_, _, _, rfl, by decide, by decide, (lwq_3 (dqc_m (dqc_m (dqc_m (dqc_m (dqc_m (dqc_m (dqc_m (List.mem_of_getElem? (i := 2) rfl)))))))) rfl : Cond.fieldLink RX2 25 _ _ _ ∈ lw_g), rfl, .object "SportsHouse$Competition", by decide +kernel, fun _ _ => ⟨rfl, rfl⟩, (fun _ h => by cases h)⟩
theorem bk_X2_init_34 : ck_ fX2 none cX2_init 34 [.aload 0, .iload 2] 36 = true := qck_r (nn_ _) (by decide +kernel)
theorem bs_X2_init_34 {P : Zt → Option Zv → Prop} (K : Int → Zl → List Zv → Zt → Prop) : sx_ K P [.aload 0, .iload 2] 36 = x_aload 0 (x_iload 2 (K 36)) := ((xe_aload 0).trans (congrArg (x_aload 0) ((xe_iload 2).trans (congrArg (x_iload 2) xe_nil))))
theorem fW_X2_29 : fW_ RX2 29 2 1 true := ⟨_, _, _, rfl, by decide, by decide, (lwq_3 (dqc_m (dqc_m (dqc_m (dqc_m (dqc_m (dqc_m (dqc_m (List.mem_of_getElem? (i := 5) rfl)))))))) rfl : Cond.fieldLink RX2 29 _ _ _ ∈ lw_g), rfl, .int, by decide +kernel, (fun _ h => by cases h), fun _ _ => ⟨rfl, rfl⟩⟩
theorem bk_X2_init_39 : ck_ fX2 none cX2_init 39 [.aload 0, .iload 3] 41 = true := qck_r (nn_ _) (by decide +kernel)
theorem bs_X2_init_39 {P : Zt → Option Zv → Prop} (K : Int → Zl → List Zv → Zt → Prop) : sx_ K P [.aload 0, .iload 3] 41 = x_aload 0 (x_iload 3 (K 41)) := ((xe_aload 0).trans (congrArg (x_aload 0) ((xe_iload 3).trans (congrArg (x_iload 3) xe_nil))))
theorem fW_X2_32 : fW_ RX2 32 2 2 true := ⟨_, _, _, rfl, by decide, by decide, (lwq_3 (dqc_m (dqc_m (dqc_m (dqc_m (dqc_m (dqc_m (dqc_m (dqa_m (List.mem_of_getElem? (i := 0) rfl))))))))) rfl : Cond.fieldLink RX2 32 _ _ _ ∈ lw_g), rfl, .int, by decide +kernel, (fun _ h => by cases h), fun _ _ => ⟨rfl, rfl⟩⟩
theorem bk_X2_init_44 : ck_ fX2 none cX2_init 44 [.aload 0, .iload 4] 47 = true := qck_r (nn_ _) (by decide +kernel)
theorem bs_X2_init_44 {P : Zt → Option Zv → Prop} (K : Int → Zl → List Zv → Zt → Prop) : sx_ K P [.aload 0, .iload 4] 47 = x_aload 0 (x_iload 4 (K 47)) := ((xe_aload 0).trans (congrArg (x_aload 0) ((xe_iload 4).trans (congrArg (x_iload 4) xe_nil))))
theorem fW_X2_35 : fW_ RX2 35 2 3 true := ⟨_, _, _, rfl, by decide, by decide, (lwq_3 (dqc_m (dqc_m (dqc_m (dqc_m (dqc_m (dqc_m (dqc_m (dqa_m (List.mem_of_getElem? (i := 2) rfl))))))))) rfl : Cond.fieldLink RX2 35 _ _ _ ∈ lw_g), rfl, .int, by decide +kernel, (fun _ h => by cases h), fun _ _ => ⟨rfl, rfl⟩⟩
theorem bk_X2_init_50 : ck_ fX2 none cX2_init 50 [.aload 0, .iload 5] 53 = true := qck_r (nn_ _) (by decide +kernel)
theorem bs_X2_init_50 {P : Zt → Option Zv → Prop} (K : Int → Zl → List Zv → Zt → Prop) : sx_ K P [.aload 0, .iload 5] 53 = x_aload 0 (x_iload 5 (K 53)) := ((xe_aload 0).trans (congrArg (x_aload 0) ((xe_iload 5).trans (congrArg (x_iload 5) xe_nil))))
theorem fW_X2_38 : fW_ RX2 38 2 4 true := ⟨_, _, _, rfl, by decide, by decide, (lwq_4 (List.mem_of_getElem? (i := 0) rfl) rfl : Cond.fieldLink RX2 38 _ _ _ ∈ lw_g), rfl, .int, by decide +kernel, (fun _ h => by cases h), fun _ _ => ⟨rfl, rfl⟩⟩
theorem bk_X2_init_56 : ck_ fX2 none cX2_init 56 [.aload 0, .iload 6] 59 = true := qck_r (nn_ _) (by decide +kernel)
theorem bs_X2_init_56 {P : Zt → Option Zv → Prop} (K : Int → Zl → List Zv → Zt → Prop) : sx_ K P [.aload 0, .iload 6] 59 = x_aload 0 (x_iload 6 (K 59)) := ((xe_aload 0).trans (congrArg (x_aload 0) ((xe_iload 6).trans (congrArg (x_iload 6) xe_nil))))
theorem fW_X2_41 : fW_ RX2 41 2 5 true := ⟨_, _, _, rfl, by decide, by decide, (lwq_4 (List.mem_of_getElem? (i := 6) rfl) rfl : Cond.fieldLink RX2 41 _ _ _ ∈ lw_g), rfl, .int, by decide +kernel, (fun _ h => by cases h), fun _ _ => ⟨rfl, rfl⟩⟩
theorem bk_X2_init_62 : ck_ fX2 none cX2_init 62 [.return_] 63 = true := qck_r (nn_ _) (by decide +kernel)
theorem bs_X2_init_62 {P : Zt → Option Zv → Prop} (K : Int → Zl → List Zv → Zt → Prop) : sx_ K P [.return_] 63 = x_return_ P := (xe_return_)
abbrev po_X2_init (T : Zt) (n : Int) (c : Int) (m u h a d : Int) : Zt → Option Zv → Prop := fun T' r => r = none ∧ fr_ [(152, []), (448, []), (449, [])] T T' ∧ (oi_ T T' n ∧ (T' 152 n 0 = c + 1 ∧ T' 152 n 1 = m ∧ T' 152 n 2 = u ∧ T' 152 n 3 = h ∧ T' 152 n 4 = a ∧ T' 152 n 5 = d) ∧ (T' 152 n 6 = -1 ∧ T' 152 n 7 = -1 ∧ T' 152 n 8 = n + 1 ∧ T' 152 n 9 = n + 1 ∧ T' 152 n 10 = T 152 n 10) ∧ (∀ j, 0 ≤ j → T' 448 n j = 0) ∧ ∀ j, 0 ≤ j → T' 449 n j = 0)
set_option maxHeartbeats 4000000 in
theorem ct_X2_init {T : Zt} {n : Int} {c : Int} {m u h a d : Int} (h1 : 0 ≤ n ∧ n ≤ 399 ∧ 0 ≤ c ∧ c ≤ 3 ∧ 0 ≤ m ∧ m ≤ 399 ∧ 0 ≤ h ∧ h ≤ 11 ∧ 0 ≤ a ∧ a ≤ 11 ∧ 0 ≤ d ∧ d ≤ 999) (hf8 : ¬ T 448 n (-1) = 1) (hf9 : ¬ T 449 n (-1) = 1) : Ct_ yX2_init zX2_init T [vR 152 n, vR 100 c, vI m, vI u, vI h, vI a, vI d] (po_X2_init T n c m u h a d) := by
  refine ct_of pn_2 rfl rfl (Nat.le_of_ble_eq_true rfl) (fun hT hav => ?_)
  have hr_m : -2147483648 ≤ m ∧ m ≤ 2147483647 := hav (vI m) (List.mem_cons_of_mem _ (List.mem_cons_of_mem _ List.mem_cons_self))
  have hr_u : -2147483648 ≤ u ∧ u ≤ 2147483647 := hav (vI u) (List.mem_cons_of_mem _ (List.mem_cons_of_mem _ (List.mem_cons_of_mem _ List.mem_cons_self)))
  have hr_h : -2147483648 ≤ h ∧ h ≤ 2147483647 := hav (vI h) (List.mem_cons_of_mem _ (List.mem_cons_of_mem _ (List.mem_cons_of_mem _ (List.mem_cons_of_mem _ List.mem_cons_self))))
  have hr_a : -2147483648 ≤ a ∧ a ≤ 2147483647 := hav (vI a) (List.mem_cons_of_mem _ (List.mem_cons_of_mem _ (List.mem_cons_of_mem _ (List.mem_cons_of_mem _ (List.mem_cons_of_mem _ List.mem_cons_self)))))
  have hr_d : -2147483648 ≤ d ∧ d ≤ 2147483647 := hav (vI d) (List.mem_cons_of_mem _ (List.mem_cons_of_mem _ (List.mem_cons_of_mem _ (List.mem_cons_of_mem _ (List.mem_cons_of_mem _ (List.mem_cons_of_mem _ List.mem_cons_self))))))
  have hz : zX2_init.2.2.2.1 = some .boolean → ∀ (T' : Zt) (x : Int), po_X2_init T n c m u h a d T' (some (vI x)) → 0 ≤ x ∧ x ≤ 1 := fun h => by cases h
  have hth : T 152 n (-1) = 1 := ok_al (v := none) (by decide) (hav (vR 152 n) (by simp))
  show J_ zX2_init T (po_X2_init T n c m u h a d) 2 23 0 [some (vR 152 n), some (vR 100 c), some (vI m), some (vI u), some (vI h), some (vI a), some (vI d)] [] T
  refine j_blx (F := fX2) tb_X2 (nn_ _) bk_X2_init_0 bs_X2_init_0 hz (fun K hK => ?_)
  refine hK 1 _ [vR 152 n] T ?_
  refine j_objI (pc := 1) (lwq_3 (dqc_m (dqc_m (dqc_m (dqc_m (dqc_m (dqc_m (dqc_m (List.mem_of_getElem? (i := 1) rfl)))))))) rfl : Cond.methodLink RX2 3 Lib.objectInit ∈ lw_g) (lwq_1 (dqa_m (dqa_m (dqa_m (List.mem_of_getElem? (i := 3) rfl)))) rfl : Cond.instanceMethod Lib.objectInit ∈ lw_g) (lwq_1 (dqa_m (dqa_m (dqa_m (List.mem_of_getElem? (i := 4) rfl)))) rfl : Cond.code Lib.objectInit ⟨#[0xb1]⟩ 1 none ∈ lw_g) (by decide +kernel) (by decide) (by decide) (by decide) (by decide) ?_
  show J_ zX2_init T (po_X2_init T n c m u h a d) 2 23 4 _ [] T
  refine j_blx (F := fX2) tb_X2 (nn_ _) bk_X2_init_4 bs_X2_init_4 hz (fun K hK => ?_)
  refine hK 6 _ [vI (-1), vR 152 n] T ?_
  refine j_putW (pc := 6) (ci := 2) (j := 6) (z := (-1)) (by decide) (by decide) fW_X2_9 (by decide +kernel : (tf_ 152)[6]? = some (0, 0, (-1), 1)) (by decide) (by decide +kernel) rfl rfl (by omega) (by omega) ?_
  refine j_nm (fun U1 hU1 => ?_)
  have e2 := up_f hU1
  show J_ zX2_init T (po_X2_init T n c m u h a d) 2 23 9 _ [] U1
  refine j_blx (F := fX2) tb_X2 (nn_ _) bk_X2_init_9 bs_X2_init_9 hz (fun K hK => ?_)
  refine hK 11 _ [vI (-1), vR 152 n] U1 ?_
  refine j_putW (pc := 11) (ci := 2) (j := 7) (z := (-1)) (by decide) (by decide) fW_X2_15 (by decide +kernel : (tf_ 152)[7]? = some (0, 0, (-1), 7)) (by decide) (by decide +kernel) rfl rfl (by omega) (by omega) ?_
  refine j_nm (fun U3 hU3 => ?_)
  have e4 := up_f hU3
  show J_ zX2_init T (po_X2_init T n c m u h a d) 2 23 14 _ [] U3
  refine j_blx (F := fX2) tb_X2 (nn_ _) bk_X2_init_14 bs_X2_init_14 hz (fun K hK => ?_)
  refine hK 17 _ [vI 20, vR 152 n] U3 ?_
  have e6 : U3 448 n (-1) = T 448 n (-1) := (up_k hU3 (by exact Nat.ne_of_beq_eq_false rfl) n (-1)).trans (up_k hU1 (by exact Nat.ne_of_beq_eq_false rfl) n (-1))
  have e7 : U3 152 n (-1) = T 152 n (-1) := (up_j hU3 (by decide) 152 n).trans (up_j hU1 (by decide) 152 n)
  refine j_newI (bc' := 1) (bs' := 3) (pc := 17) (k := 448) (i := n) (by decide) (by decide +kernel : ta_ 448 = some (1, some 20, 0, 199)) (by decide) (by decide) (by show ¬ U3 448 n (-1) = 1; rw [e6]; exact hf8) (by omega) (by first | decide | omega) (by decide +kernel) (lwq_1 (dqc_m (dqc_m (dqa_m (List.mem_of_getElem? (i := 0) rfl)))) rfl : Cond.arrayClass .int ∈ lw_g) (fun o ho => by rw [show ow_ 448 = some 102 by decide] at ho; cases ho; exact Or.inr (show U3 152 n (-1) = 1 from (e7).trans hth)) ?_
  refine j_nm (fun U5 hU5 => ?_)
  have fU5 := nu_fr hU5
  have zU5 := nu_tz hU5
  have oU5 := nu_to hU5
  have vU5 := nu_tv hU5
  show J_ zX2_init T (po_X2_init T n c m u h a d) 1 3 19 _ [vR 448 n, vR 152 n] U5
  refine j_putW (pc := 19) (ci := 2) (j := 8) (z := n + 1) (by decide) (by decide) fW_X2_18 (by decide +kernel : (tf_ 152)[8]? = some (5, 448, (-2147483648), 2147483647)) (by decide) (by decide +kernel) (fv5_ (by omega)) rfl (by omega) (by omega) ?_
  refine j_nm (fun U8 hU8 => ?_)
  have e9 := up_f hU8
  show J_ zX2_init T (po_X2_init T n c m u h a d) 1 3 22 _ [] U8
  refine j_blx (F := fX2) tb_X2 (nn_ _) bk_X2_init_22 bs_X2_init_22 hz (fun K hK => ?_)
  refine hK 24 _ [vI 2, vR 152 n] U8 ?_
  have e11 : U8 449 n (-1) = T 449 n (-1) := (up_k hU8 (by exact Nat.ne_of_beq_eq_false rfl) n (-1)).trans ((fU5 449 n (-1) rfl).trans ((up_k hU3 (by exact Nat.ne_of_beq_eq_false rfl) n (-1)).trans (up_k hU1 (by exact Nat.ne_of_beq_eq_false rfl) n (-1))))
  have e12 : U8 152 n (-1) = T 152 n (-1) := (up_j hU8 (by decide) 152 n).trans ((fU5 152 n (-1) rfl).trans ((up_j hU3 (by decide) 152 n).trans (up_j hU1 (by decide) 152 n)))
  refine j_newI (bc' := 0) (bs' := 1) (pc := 24) (k := 449) (i := n) (by decide) (by decide +kernel : ta_ 449 = some (1, some 2, 0, 10)) (by decide) (by decide) (by show ¬ U8 449 n (-1) = 1; rw [e11]; exact hf9) (by omega) (by first | decide | omega) (by decide +kernel) (lwq_1 (dqc_m (dqc_m (dqa_m (List.mem_of_getElem? (i := 0) rfl)))) rfl : Cond.arrayClass .int ∈ lw_g) (fun o ho => by rw [show ow_ 449 = some 102 by decide] at ho; cases ho; exact Or.inr (show U8 152 n (-1) = 1 from (e12).trans hth)) ?_
  refine j_nm (fun U10 hU10 => ?_)
  have fU10 := nu_fr hU10
  have zU10 := nu_tz hU10
  have oU10 := nu_to hU10
  have vU10 := nu_tv hU10
  show J_ zX2_init T (po_X2_init T n c m u h a d) 0 1 26 _ [vR 449 n, vR 152 n] U10
  refine j_putW (pc := 26) (ci := 2) (j := 9) (z := n + 1) (by decide) (by decide) fW_X2_22 (by decide +kernel : (tf_ 152)[9]? = some (5, 449, (-2147483648), 2147483647)) (by decide) (by decide +kernel) (fv5_ (by omega)) rfl (by omega) (by omega) ?_
  refine j_nm (fun U13 hU13 => ?_)
  have e14 := up_f hU13
  show J_ zX2_init T (po_X2_init T n c m u h a d) 0 1 29 _ [] U13
  refine j_blx (F := fX2) tb_X2 (nn_ _) bk_X2_init_29 bs_X2_init_29 hz (fun K hK => ?_)
  refine hK 31 _ [vR 100 c, vR 152 n] U13 ?_
  refine j_putW (pc := 31) (ci := 2) (j := 0) (z := c + 1) (by decide) (by decide) fW_X2_25 (by decide +kernel : (tf_ 152)[0]? = some (5, 100, (-2147483648), 2147483647)) (by decide) (by decide +kernel) (fv5_ (by omega)) rfl (by omega) (by omega) ?_
  refine j_nm (fun U15 hU15 => ?_)
  have e16 := up_f hU15
  show J_ zX2_init T (po_X2_init T n c m u h a d) 0 1 34 _ [] U15
  refine j_blx (F := fX2) tb_X2 (nn_ _) bk_X2_init_34 bs_X2_init_34 hz (fun K hK => ?_)
  refine hK 36 _ [vI m, vR 152 n] U15 ?_
  refine j_putW (pc := 36) (ci := 2) (j := 1) (z := m) (by decide) (by decide) fW_X2_29 (by decide +kernel : (tf_ 152)[1]? = some (0, 0, 0, 399)) (by decide) (by decide +kernel) rfl rfl (by omega) (by omega) ?_
  refine j_nm (fun U17 hU17 => ?_)
  have e18 := up_f hU17
  show J_ zX2_init T (po_X2_init T n c m u h a d) 0 1 39 _ [] U17
  refine j_blx (F := fX2) tb_X2 (nn_ _) bk_X2_init_39 bs_X2_init_39 hz (fun K hK => ?_)
  refine hK 41 _ [vI u, vR 152 n] U17 ?_
  refine j_putW (pc := 41) (ci := 2) (j := 2) (z := u) (by decide) (by decide) fW_X2_32 (by decide +kernel : (tf_ 152)[2]? = some (0, 0, (-2147483648), 2147483647)) (by decide) (by decide +kernel) rfl rfl (by omega) (by omega) ?_
  refine j_nm (fun U19 hU19 => ?_)
  have e20 := up_f hU19
  show J_ zX2_init T (po_X2_init T n c m u h a d) 0 1 44 _ [] U19
  refine j_blx (F := fX2) tb_X2 (nn_ _) bk_X2_init_44 bs_X2_init_44 hz (fun K hK => ?_)
  refine hK 47 _ [vI h, vR 152 n] U19 ?_
  refine j_putW (pc := 47) (ci := 2) (j := 3) (z := h) (by decide) (by decide) fW_X2_35 (by decide +kernel : (tf_ 152)[3]? = some (0, 0, 0, 11)) (by decide) (by decide +kernel) rfl rfl (by omega) (by omega) ?_
  refine j_nm (fun U21 hU21 => ?_)
  have e22 := up_f hU21
  show J_ zX2_init T (po_X2_init T n c m u h a d) 0 1 50 _ [] U21
  refine j_blx (F := fX2) tb_X2 (nn_ _) bk_X2_init_50 bs_X2_init_50 hz (fun K hK => ?_)
  refine hK 53 _ [vI a, vR 152 n] U21 ?_
  refine j_putW (pc := 53) (ci := 2) (j := 4) (z := a) (by decide) (by decide) fW_X2_38 (by decide +kernel : (tf_ 152)[4]? = some (0, 0, 0, 11)) (by decide) (by decide +kernel) rfl rfl (by omega) (by omega) ?_
  refine j_nm (fun U23 hU23 => ?_)
  have e24 := up_f hU23
  show J_ zX2_init T (po_X2_init T n c m u h a d) 0 1 56 _ [] U23
  refine j_blx (F := fX2) tb_X2 (nn_ _) bk_X2_init_56 bs_X2_init_56 hz (fun K hK => ?_)
  refine hK 59 _ [vI d, vR 152 n] U23 ?_
  refine j_putW (pc := 59) (ci := 2) (j := 5) (z := d) (by decide) (by decide) fW_X2_41 (by decide +kernel : (tf_ 152)[5]? = some (0, 0, 0, 999)) (by decide) (by decide +kernel) rfl rfl (by omega) (by omega) ?_
  refine j_nm (fun U25 hU25 => ?_)
  have e26 := up_f hU25
  show J_ zX2_init T (po_X2_init T n c m u h a d) 0 1 62 _ [] U25
  refine j_blx (F := fX2) tb_X2 (nn_ _) bk_X2_init_62 bs_X2_init_62 hz (fun K hK => ?_)
  refine (show po_X2_init T n c m u h a d U25 (none) from ?_)
  have e27 : U25 152 n 0 = c + 1 := (up_j hU25 (by decide) 152 n).trans ((up_j hU23 (by decide) 152 n).trans ((up_j hU21 (by decide) 152 n).trans ((up_j hU19 (by decide) 152 n).trans ((up_j hU17 (by decide) 152 n).trans (up_f hU15)))))
  have e28 : U25 152 n 1 = m := (up_j hU25 (by decide) 152 n).trans ((up_j hU23 (by decide) 152 n).trans ((up_j hU21 (by decide) 152 n).trans ((up_j hU19 (by decide) 152 n).trans (up_f hU17))))
  have e29 : U25 152 n 2 = u := (up_j hU25 (by decide) 152 n).trans ((up_j hU23 (by decide) 152 n).trans ((up_j hU21 (by decide) 152 n).trans (up_f hU19)))
  have e30 : U25 152 n 3 = h := (up_j hU25 (by decide) 152 n).trans ((up_j hU23 (by decide) 152 n).trans (up_f hU21))
  have e31 : U25 152 n 4 = a := (up_j hU25 (by decide) 152 n).trans (up_f hU23)
  have e32 : U25 152 n 5 = d := up_f hU25
  have e33 : U25 152 n 6 = (-1) := (up_j hU25 (by decide) 152 n).trans ((up_j hU23 (by decide) 152 n).trans ((up_j hU21 (by decide) 152 n).trans ((up_j hU19 (by decide) 152 n).trans ((up_j hU17 (by decide) 152 n).trans ((up_j hU15 (by decide) 152 n).trans ((up_j hU13 (by decide) 152 n).trans ((fU10 152 n 6 rfl).trans ((up_j hU8 (by decide) 152 n).trans ((fU5 152 n 6 rfl).trans ((up_j hU3 (by decide) 152 n).trans (up_f hU1)))))))))))
  have e34 : U25 152 n 7 = (-1) := (up_j hU25 (by decide) 152 n).trans ((up_j hU23 (by decide) 152 n).trans ((up_j hU21 (by decide) 152 n).trans ((up_j hU19 (by decide) 152 n).trans ((up_j hU17 (by decide) 152 n).trans ((up_j hU15 (by decide) 152 n).trans ((up_j hU13 (by decide) 152 n).trans ((fU10 152 n 7 rfl).trans ((up_j hU8 (by decide) 152 n).trans ((fU5 152 n 7 rfl).trans (up_f hU3))))))))))
  have e35 : U25 152 n 8 = n + 1 := (up_j hU25 (by decide) 152 n).trans ((up_j hU23 (by decide) 152 n).trans ((up_j hU21 (by decide) 152 n).trans ((up_j hU19 (by decide) 152 n).trans ((up_j hU17 (by decide) 152 n).trans ((up_j hU15 (by decide) 152 n).trans ((up_j hU13 (by decide) 152 n).trans ((fU10 152 n 8 rfl).trans (up_f hU8))))))))
  have e36 : U25 152 n 9 = n + 1 := (up_j hU25 (by decide) 152 n).trans ((up_j hU23 (by decide) 152 n).trans ((up_j hU21 (by decide) 152 n).trans ((up_j hU19 (by decide) 152 n).trans ((up_j hU17 (by decide) 152 n).trans ((up_j hU15 (by decide) 152 n).trans (up_f hU13))))))
  have e37 : U25 152 n 10 = T 152 n 10 := (up_j hU25 (by decide) 152 n).trans ((up_j hU23 (by decide) 152 n).trans ((up_j hU21 (by decide) 152 n).trans ((up_j hU19 (by decide) 152 n).trans ((up_j hU17 (by decide) 152 n).trans ((up_j hU15 (by decide) 152 n).trans ((up_j hU13 (by decide) 152 n).trans ((fU10 152 n 10 rfl).trans ((up_j hU8 (by decide) 152 n).trans ((fU5 152 n 10 rfl).trans ((up_j hU3 (by decide) 152 n).trans (up_j hU1 (by decide) 152 n)))))))))))
  exact ⟨rfl, fr_u (fr_u (fr_u (fr_u (fr_u (fr_u (fr_u (fr_t (fr_u (fr_t (fr_u (fr_u (fr_0 _ _) hU1 rfl) hU3 rfl) (fr_s fU5 rfl)) hU8 rfl) (fr_s fU10 rfl)) hU13 rfl) hU15 rfl) hU17 rfl) hU19 rfl) hU21 rfl) hU23 rfl) hU25 rfl, oi_u (oi_u (oi_u (oi_u (oi_u (oi_u (oi_u (oi_n (oi_u (oi_n (oi_u (oi_u (oi_r) hU1) hU3) oU5) hU8) oU10) hU13) hU15) hU17) hU19) hU21) hU23) hU25, by omega, by omega, fun j hj => ((up_k hU25 (by exact Nat.ne_of_beq_eq_false rfl) _ _).trans ((up_k hU23 (by exact Nat.ne_of_beq_eq_false rfl) _ _).trans ((up_k hU21 (by exact Nat.ne_of_beq_eq_false rfl) _ _).trans ((up_k hU19 (by exact Nat.ne_of_beq_eq_false rfl) _ _).trans ((up_k hU17 (by exact Nat.ne_of_beq_eq_false rfl) _ _).trans ((up_k hU15 (by exact Nat.ne_of_beq_eq_false rfl) _ _).trans ((up_k hU13 (by exact Nat.ne_of_beq_eq_false rfl) _ _).trans ((fU10 448 _ _ rfl).trans (up_k hU8 (by exact Nat.ne_of_beq_eq_false rfl) _ _))))))))).trans (zU5 _ (by omega)), fun j hj => ((up_k hU25 (by exact Nat.ne_of_beq_eq_false rfl) _ _).trans ((up_k hU23 (by exact Nat.ne_of_beq_eq_false rfl) _ _).trans ((up_k hU21 (by exact Nat.ne_of_beq_eq_false rfl) _ _).trans ((up_k hU19 (by exact Nat.ne_of_beq_eq_false rfl) _ _).trans ((up_k hU17 (by exact Nat.ne_of_beq_eq_false rfl) _ _).trans ((up_k hU15 (by exact Nat.ne_of_beq_eq_false rfl) _ _).trans (up_k hU13 (by exact Nat.ne_of_beq_eq_false rfl) _ _))))))).trans (zU10 _ (by omega))⟩
