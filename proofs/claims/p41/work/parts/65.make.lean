theorem oi_n {T T1 T2 : Zt} {p : Int} {k : Nat} (h : oi_ T T1 p) (e : ∀ k' i' j, ¬ (k' = k ∧ i' = p) → T2 k' i' j = T1 k' i' j) : oi_ T T2 p := fun k' i j hi => (e k' i j (fun q => hi q.2)).trans (h k' i j hi)
theorem oq_n {T T1 T2 : Zt} {p : Int} {k : Nat} (h : oq_ T T1 p) (e : ∀ k' i' j, ¬ (k' = k ∧ i' = p) → T2 k' i' j = T1 k' i' j) : oq_ T T2 p := fun k' i j hi a b => (e k' i j (fun q => hi q.2)).trans (h k' i j hi a b)
abbrev cX2_init : ByteArray := prog_4_method_1_code
def yX2_init : MethodName := ⟨RX2, "<init>", "(LSportsHouse$Competition;IIIII)V"⟩
def zX2_init : Zm := (RX2, cX2_init, 7, none, { frames := 1, cells := 2, slots := 23, locals := 30 })
theorem bk_X2_init_0 : ck_ fX2 none cX2_init 0 [.aload 0] 1 = true := qck_r (by decide) (by decide +kernel)
theorem bs_X2_init_0 {P : Zt → Option Zv → Prop} (K : Int → Zl → List Zv → Zt → Prop) : sx_ K P [.aload 0] 1 = x_aload 0 (K 1) := ((xe_aload 0).trans (congrArg (x_aload 0) xe_nil))
theorem bk_X2_init_4 : ck_ fX2 none cX2_init 4 [.aload 0, .iconst (-1)] 6 = true := qck_r (by decide) (by decide +kernel)
theorem bs_X2_init_4 {P : Zt → Option Zv → Prop} (K : Int → Zl → List Zv → Zt → Prop) : sx_ K P [.aload 0, .iconst (-1)] 6 = x_aload 0 (x_iconst (-1) (K 6)) := ((xe_aload 0).trans (congrArg (x_aload 0) ((xe_iconst (-1)).trans (congrArg (x_iconst (-1)) xe_nil))))
theorem fW_X2_9 : fW_ RX2 9 2 6 true := ⟨_, _, _, rfl, by decide, by decide, (lw_b4 11 (by decide +kernel) rfl : Cond.fieldLink RX2 9 _ _ _ ∈ lw_g), rfl, .int, by decide +kernel, (fun _ h => by cases h), fun _ _ => ⟨rfl, rfl⟩⟩
theorem bk_X2_init_9 : ck_ fX2 none cX2_init 9 [.aload 0, .iconst (-1)] 11 = true := qck_r (by decide) (by decide +kernel)
theorem bs_X2_init_9 {P : Zt → Option Zv → Prop} (K : Int → Zl → List Zv → Zt → Prop) : sx_ K P [.aload 0, .iconst (-1)] 11 = x_aload 0 (x_iconst (-1) (K 11)) := ((xe_aload 0).trans (congrArg (x_aload 0) ((xe_iconst (-1)).trans (congrArg (x_iconst (-1)) xe_nil))))
theorem fW_X2_15 : fW_ RX2 15 2 7 true := ⟨_, _, _, rfl, by decide, by decide, (lw_b4 14 (by decide +kernel) rfl : Cond.fieldLink RX2 15 _ _ _ ∈ lw_g), rfl, .int, by decide +kernel, (fun _ h => by cases h), fun _ _ => ⟨rfl, rfl⟩⟩
theorem bk_X2_init_14 : ck_ fX2 none cX2_init 14 [.aload 0, .iconst 20] 17 = true := qck_r (by decide) (by decide +kernel)
theorem bs_X2_init_14 {P : Zt → Option Zv → Prop} (K : Int → Zl → List Zv → Zt → Prop) : sx_ K P [.aload 0, .iconst 20] 17 = x_aload 0 (x_iconst 20 (K 17)) := ((xe_aload 0).trans (congrArg (x_aload 0) ((xe_iconst 20).trans (congrArg (x_iconst 20) xe_nil))))
theorem fW_X2_18 : fW_ RX2 18 2 8 false := ⟨_, _, _, rfl, by decide, by decide, (lw_b4 17 (by decide +kernel) rfl : Cond.fieldLink RX2 18 _ _ _ ∈ lw_g), rfl, .array .int, by decide +kernel, fun _ _ => ⟨rfl, rfl⟩, (fun _ h => by cases h)⟩
theorem bk_X2_init_22 : ck_ fX2 none cX2_init 22 [.aload 0, .iconst 2] 24 = true := qck_r (by decide) (by decide +kernel)
theorem bs_X2_init_22 {P : Zt → Option Zv → Prop} (K : Int → Zl → List Zv → Zt → Prop) : sx_ K P [.aload 0, .iconst 2] 24 = x_aload 0 (x_iconst 2 (K 24)) := ((xe_aload 0).trans (congrArg (x_aload 0) ((xe_iconst 2).trans (congrArg (x_iconst 2) xe_nil))))
theorem fW_X2_22 : fW_ RX2 22 2 9 false := ⟨_, _, _, rfl, by decide, by decide, (lw_b4 19 (by decide +kernel) rfl : Cond.fieldLink RX2 22 _ _ _ ∈ lw_g), rfl, .array .int, by decide +kernel, fun _ _ => ⟨rfl, rfl⟩, (fun _ h => by cases h)⟩
theorem bk_X2_init_29 : ck_ fX2 none cX2_init 29 [.aload 0, .aload 1] 31 = true := qck_r (by decide) (by decide +kernel)
theorem bs_X2_init_29 {P : Zt → Option Zv → Prop} (K : Int → Zl → List Zv → Zt → Prop) : sx_ K P [.aload 0, .aload 1] 31 = x_aload 0 (x_aload 1 (K 31)) := ((xe_aload 0).trans (congrArg (x_aload 0) ((xe_aload 1).trans (congrArg (x_aload 1) xe_nil))))
theorem fW_X2_25 : fW_ RX2 25 2 0 false := ⟨_, _, _, rfl, by decide, by decide, (lw_b3 226 (by decide +kernel) rfl : Cond.fieldLink RX2 25 _ _ _ ∈ lw_g), rfl, .object "SportsHouse$Competition", by decide +kernel, fun _ _ => ⟨rfl, rfl⟩, (fun _ h => by cases h)⟩
theorem bk_X2_init_34 : ck_ fX2 none cX2_init 34 [.aload 0, .iload 2] 36 = true := qck_r (by decide) (by decide +kernel)
theorem bs_X2_init_34 {P : Zt → Option Zv → Prop} (K : Int → Zl → List Zv → Zt → Prop) : sx_ K P [.aload 0, .iload 2] 36 = x_aload 0 (x_iload 2 (K 36)) := ((xe_aload 0).trans (congrArg (x_aload 0) ((xe_iload 2).trans (congrArg (x_iload 2) xe_nil))))
theorem fW_X2_29 : fW_ RX2 29 2 1 true := ⟨_, _, _, rfl, by decide, by decide, (lw_b3 229 (by decide +kernel) rfl : Cond.fieldLink RX2 29 _ _ _ ∈ lw_g), rfl, .int, by decide +kernel, (fun _ h => by cases h), fun _ _ => ⟨rfl, rfl⟩⟩
theorem bk_X2_init_39 : ck_ fX2 none cX2_init 39 [.aload 0, .iload 3] 41 = true := qck_r (by decide) (by decide +kernel)
theorem bs_X2_init_39 {P : Zt → Option Zv → Prop} (K : Int → Zl → List Zv → Zt → Prop) : sx_ K P [.aload 0, .iload 3] 41 = x_aload 0 (x_iload 3 (K 41)) := ((xe_aload 0).trans (congrArg (x_aload 0) ((xe_iload 3).trans (congrArg (x_iload 3) xe_nil))))
theorem fW_X2_32 : fW_ RX2 32 2 2 true := ⟨_, _, _, rfl, by decide, by decide, (lw_b3 232 (by decide +kernel) rfl : Cond.fieldLink RX2 32 _ _ _ ∈ lw_g), rfl, .int, by decide +kernel, (fun _ h => by cases h), fun _ _ => ⟨rfl, rfl⟩⟩
theorem bk_X2_init_44 : ck_ fX2 none cX2_init 44 [.aload 0, .iload 4] 47 = true := qck_r (by decide) (by decide +kernel)
theorem bs_X2_init_44 {P : Zt → Option Zv → Prop} (K : Int → Zl → List Zv → Zt → Prop) : sx_ K P [.aload 0, .iload 4] 47 = x_aload 0 (x_iload 4 (K 47)) := ((xe_aload 0).trans (congrArg (x_aload 0) ((xe_iload 4).trans (congrArg (x_iload 4) xe_nil))))
theorem fW_X2_35 : fW_ RX2 35 2 3 true := ⟨_, _, _, rfl, by decide, by decide, (lw_b3 234 (by decide +kernel) rfl : Cond.fieldLink RX2 35 _ _ _ ∈ lw_g), rfl, .int, by decide +kernel, (fun _ h => by cases h), fun _ _ => ⟨rfl, rfl⟩⟩
theorem bk_X2_init_50 : ck_ fX2 none cX2_init 50 [.aload 0, .iload 5] 53 = true := qck_r (by decide) (by decide +kernel)
theorem bs_X2_init_50 {P : Zt → Option Zv → Prop} (K : Int → Zl → List Zv → Zt → Prop) : sx_ K P [.aload 0, .iload 5] 53 = x_aload 0 (x_iload 5 (K 53)) := ((xe_aload 0).trans (congrArg (x_aload 0) ((xe_iload 5).trans (congrArg (x_iload 5) xe_nil))))
theorem fW_X2_38 : fW_ RX2 38 2 4 true := ⟨_, _, _, rfl, by decide, by decide, (lw_b4 0 (by decide +kernel) rfl : Cond.fieldLink RX2 38 _ _ _ ∈ lw_g), rfl, .int, by decide +kernel, (fun _ h => by cases h), fun _ _ => ⟨rfl, rfl⟩⟩
theorem bk_X2_init_56 : ck_ fX2 none cX2_init 56 [.aload 0, .iload 6] 59 = true := qck_r (by decide) (by decide +kernel)
theorem bs_X2_init_56 {P : Zt → Option Zv → Prop} (K : Int → Zl → List Zv → Zt → Prop) : sx_ K P [.aload 0, .iload 6] 59 = x_aload 0 (x_iload 6 (K 59)) := ((xe_aload 0).trans (congrArg (x_aload 0) ((xe_iload 6).trans (congrArg (x_iload 6) xe_nil))))
theorem fW_X2_41 : fW_ RX2 41 2 5 true := ⟨_, _, _, rfl, by decide, by decide, (lw_b4 6 (by decide +kernel) rfl : Cond.fieldLink RX2 41 _ _ _ ∈ lw_g), rfl, .int, by decide +kernel, (fun _ h => by cases h), fun _ _ => ⟨rfl, rfl⟩⟩
theorem bk_X2_init_62 : ck_ fX2 none cX2_init 62 [.return_] 63 = true := qck_r (by decide) (by decide +kernel)
theorem bs_X2_init_62 {P : Zt → Option Zv → Prop} (K : Int → Zl → List Zv → Zt → Prop) : sx_ K P [.return_] 63 = x_return_ P := (xe_return_)
abbrev po_X2_init (T : Zt) (n : Int) (c : Int) (m u h a d : Int) : Zt → Option Zv → Prop := fun T' r => r = none ∧ fr_ [(152, []), (448, []), (449, [])] T T' ∧ (oi_ T T' n ∧ (T' 152 n 0 = c + 1 ∧ T' 152 n 1 = m ∧ T' 152 n 2 = u ∧ T' 152 n 3 = h ∧ T' 152 n 4 = a ∧ T' 152 n 5 = d) ∧ (T' 152 n 6 = -1 ∧ T' 152 n 7 = -1 ∧ T' 152 n 8 = n + 1 ∧ T' 152 n 9 = n + 1 ∧ T' 152 n 10 = T 152 n 10) ∧ (∀ j, 0 ≤ j → T' 448 n j = 0) ∧ ∀ j, 0 ≤ j → T' 449 n j = 0)
set_option maxHeartbeats 4000000 in
theorem ct_X2_init {T : Zt} {n : Int} {c : Int} {m u h a d : Int} (h1 : 0 ≤ n ∧ n ≤ 399 ∧ 0 ≤ c ∧ c ≤ 3 ∧ 0 ≤ m ∧ m ≤ 399 ∧ 0 ≤ h ∧ h ≤ 11 ∧ 0 ≤ a ∧ a ≤ 11 ∧ 0 ≤ d ∧ d ≤ 999) (hf8 : ¬ T 448 n (-1) = 1) (hf9 : ¬ T 449 n (-1) = 1) : Ct_ yX2_init zX2_init T [vR 152 n, vR 100 c, vI m, vI u, vI h, vI a, vI d] (po_X2_init T n c m u h a d) := by
  refine ct_of (by decide) rfl rfl (Nat.le_of_ble_eq_true rfl) (fun hT hav => ?_)
  have hr_m : -2147483648 ≤ m ∧ m ≤ 2147483647 := hav (vI m) (by simp)
  have hr_u : -2147483648 ≤ u ∧ u ≤ 2147483647 := hav (vI u) (by simp)
  have hr_h : -2147483648 ≤ h ∧ h ≤ 2147483647 := hav (vI h) (by simp)
  have hr_a : -2147483648 ≤ a ∧ a ≤ 2147483647 := hav (vI a) (by simp)
  have hr_d : -2147483648 ≤ d ∧ d ≤ 2147483647 := hav (vI d) (by simp)
  have hz : zX2_init.2.2.2.1 = some .boolean → ∀ (T' : Zt) (x : Int), po_X2_init T n c m u h a d T' (some (vI x)) → 0 ≤ x ∧ x ≤ 1 := fun h => by cases h
  have hth : T 152 n (-1) = 1 := ok_al (v := none) (by decide) (hav (vR 152 n) (by simp))
  show J_ zX2_init T (po_X2_init T n c m u h a d) 2 23 0 [some (vR 152 n), some (vR 100 c), some (vI m), some (vI u), some (vI h), some (vI a), some (vI d)] [] T
  refine j_blx (F := fX2) tb_X2 (by decide) bk_X2_init_0 bs_X2_init_0 hz (fun K hK => ?_)
  refine hK 1 [some (vR 152 n), some (vR 100 c), some (vI m), some (vI u), some (vI h), some (vI a), some (vI d)] [vR 152 n] T ?_
  refine j_objI (pc := 1) (lw_b3 225 (by decide +kernel) rfl : Cond.methodLink RX2 3 Lib.objectInit ∈ lw_g) (lw_b1 27 (by decide +kernel) rfl : Cond.instanceMethod Lib.objectInit ∈ lw_g) (lw_b1 28 (by decide +kernel) rfl : Cond.code Lib.objectInit ⟨#[0xb1]⟩ 1 none ∈ lw_g) (by decide +kernel) (by decide) (by decide) (by decide) (by decide) ?_
  show J_ zX2_init T (po_X2_init T n c m u h a d) 2 23 4 [some (vR 152 n), some (vR 100 c), some (vI m), some (vI u), some (vI h), some (vI a), some (vI d)] [] T
  refine j_blx (F := fX2) tb_X2 (by decide) bk_X2_init_4 bs_X2_init_4 hz (fun K hK => ?_)
  refine hK 6 [some (vR 152 n), some (vR 100 c), some (vI m), some (vI u), some (vI h), some (vI a), some (vI d)] [vI (-1), vR 152 n] T ?_
  refine j_putW (pc := 6) (ci := 2) (j := 6) (z := (-1)) (by decide) (by decide) fW_X2_9 (by decide +kernel : (tf_ 152)[6]? = some (0, 0, (-1), 1)) (by decide) (by decide +kernel) rfl rfl (by omega) (by omega) ?_
  refine j_nm (fun U1 hU1 => ?_)
  have e2 := up_f hU1
  show J_ zX2_init T (po_X2_init T n c m u h a d) 2 23 9 [some (vR 152 n), some (vR 100 c), some (vI m), some (vI u), some (vI h), some (vI a), some (vI d)] [] U1
  refine j_blx (F := fX2) tb_X2 (by decide) bk_X2_init_9 bs_X2_init_9 hz (fun K hK => ?_)
  refine hK 11 [some (vR 152 n), some (vR 100 c), some (vI m), some (vI u), some (vI h), some (vI a), some (vI d)] [vI (-1), vR 152 n] U1 ?_
  refine j_putW (pc := 11) (ci := 2) (j := 7) (z := (-1)) (by decide) (by decide) fW_X2_15 (by decide +kernel : (tf_ 152)[7]? = some (0, 0, (-1), 7)) (by decide) (by decide +kernel) rfl rfl (by omega) (by omega) ?_
  refine j_nm (fun U3 hU3 => ?_)
  have e4 := up_f hU3
  show J_ zX2_init T (po_X2_init T n c m u h a d) 2 23 14 [some (vR 152 n), some (vR 100 c), some (vI m), some (vI u), some (vI h), some (vI a), some (vI d)] [] U3
  refine j_blx (F := fX2) tb_X2 (by decide) bk_X2_init_14 bs_X2_init_14 hz (fun K hK => ?_)
  refine hK 17 [some (vR 152 n), some (vR 100 c), some (vI m), some (vI u), some (vI h), some (vI a), some (vI d)] [vI 20, vR 152 n] U3 ?_
  have e6 : U3 448 n (-1) = T 448 n (-1) := (up_k hU3 (by decide) n (-1)).trans (up_k hU1 (by decide) n (-1))
  have e7 : U3 152 n (-1) = T 152 n (-1) := (up_j hU3 (by decide) 152 n).trans (up_j hU1 (by decide) 152 n)
  refine j_newI (bc' := 1) (bs' := 3) (pc := 17) (k := 448) (i := n) (by decide) (by decide +kernel : ta_ 448 = some (1, some 20, 0, 199)) (by decide) (by decide) (by show ¬ U3 448 n (-1) = 1; rw [e6]; exact hf8) (by omega) (by first | decide | omega) (by decide +kernel) (lw_b1 72 (by decide +kernel) rfl : Cond.arrayClass .int ∈ lw_g) (fun o ho => by rw [show ow_ 448 = some 102 by decide] at ho; cases ho; exact Or.inr (show U3 152 n (-1) = 1 from (e7).trans hth)) ?_
  refine j_nm (fun U5 hU5 => ?_)
  have fU5 := nu_fr hU5
  have zU5 := nu_tz hU5
  have oU5 := nu_to hU5
  have vU5 := nu_tv hU5
  show J_ zX2_init T (po_X2_init T n c m u h a d) 1 3 19 [some (vR 152 n), some (vR 100 c), some (vI m), some (vI u), some (vI h), some (vI a), some (vI d)] [vR 448 n, vR 152 n] U5
  refine j_putW (pc := 19) (ci := 2) (j := 8) (z := n + 1) (by decide) (by decide) fW_X2_18 (by decide +kernel : (tf_ 152)[8]? = some (5, 448, (-2147483648), 2147483647)) (by decide) (by decide +kernel) (fv5_ (by omega)) rfl (by omega) (by omega) ?_
  refine j_nm (fun U8 hU8 => ?_)
  have e9 := up_f hU8
  show J_ zX2_init T (po_X2_init T n c m u h a d) 1 3 22 [some (vR 152 n), some (vR 100 c), some (vI m), some (vI u), some (vI h), some (vI a), some (vI d)] [] U8
  refine j_blx (F := fX2) tb_X2 (by decide) bk_X2_init_22 bs_X2_init_22 hz (fun K hK => ?_)
  refine hK 24 [some (vR 152 n), some (vR 100 c), some (vI m), some (vI u), some (vI h), some (vI a), some (vI d)] [vI 2, vR 152 n] U8 ?_
  have e11 : U8 449 n (-1) = T 449 n (-1) := (up_k hU8 (by decide) n (-1)).trans ((fU5 449 n (-1) rfl).trans ((up_k hU3 (by decide) n (-1)).trans (up_k hU1 (by decide) n (-1))))
  have e12 : U8 152 n (-1) = T 152 n (-1) := (up_j hU8 (by decide) 152 n).trans ((fU5 152 n (-1) rfl).trans ((up_j hU3 (by decide) 152 n).trans (up_j hU1 (by decide) 152 n)))
  refine j_newI (bc' := 0) (bs' := 1) (pc := 24) (k := 449) (i := n) (by decide) (by decide +kernel : ta_ 449 = some (1, some 2, 0, 10)) (by decide) (by decide) (by show ¬ U8 449 n (-1) = 1; rw [e11]; exact hf9) (by omega) (by first | decide | omega) (by decide +kernel) (lw_b1 72 (by decide +kernel) rfl : Cond.arrayClass .int ∈ lw_g) (fun o ho => by rw [show ow_ 449 = some 102 by decide] at ho; cases ho; exact Or.inr (show U8 152 n (-1) = 1 from (e12).trans hth)) ?_
  refine j_nm (fun U10 hU10 => ?_)
  have fU10 := nu_fr hU10
  have zU10 := nu_tz hU10
  have oU10 := nu_to hU10
  have vU10 := nu_tv hU10
  show J_ zX2_init T (po_X2_init T n c m u h a d) 0 1 26 [some (vR 152 n), some (vR 100 c), some (vI m), some (vI u), some (vI h), some (vI a), some (vI d)] [vR 449 n, vR 152 n] U10
  refine j_putW (pc := 26) (ci := 2) (j := 9) (z := n + 1) (by decide) (by decide) fW_X2_22 (by decide +kernel : (tf_ 152)[9]? = some (5, 449, (-2147483648), 2147483647)) (by decide) (by decide +kernel) (fv5_ (by omega)) rfl (by omega) (by omega) ?_
  refine j_nm (fun U13 hU13 => ?_)
  have e14 := up_f hU13
  show J_ zX2_init T (po_X2_init T n c m u h a d) 0 1 29 [some (vR 152 n), some (vR 100 c), some (vI m), some (vI u), some (vI h), some (vI a), some (vI d)] [] U13
  refine j_blx (F := fX2) tb_X2 (by decide) bk_X2_init_29 bs_X2_init_29 hz (fun K hK => ?_)
  refine hK 31 [some (vR 152 n), some (vR 100 c), some (vI m), some (vI u), some (vI h), some (vI a), some (vI d)] [vR 100 c, vR 152 n] U13 ?_
  refine j_putW (pc := 31) (ci := 2) (j := 0) (z := c + 1) (by decide) (by decide) fW_X2_25 (by decide +kernel : (tf_ 152)[0]? = some (5, 100, (-2147483648), 2147483647)) (by decide) (by decide +kernel) (fv5_ (by omega)) rfl (by omega) (by omega) ?_
  refine j_nm (fun U15 hU15 => ?_)
  have e16 := up_f hU15
  show J_ zX2_init T (po_X2_init T n c m u h a d) 0 1 34 [some (vR 152 n), some (vR 100 c), some (vI m), some (vI u), some (vI h), some (vI a), some (vI d)] [] U15
  refine j_blx (F := fX2) tb_X2 (by decide) bk_X2_init_34 bs_X2_init_34 hz (fun K hK => ?_)
  refine hK 36 [some (vR 152 n), some (vR 100 c), some (vI m), some (vI u), some (vI h), some (vI a), some (vI d)] [vI m, vR 152 n] U15 ?_
  refine j_putW (pc := 36) (ci := 2) (j := 1) (z := m) (by decide) (by decide) fW_X2_29 (by decide +kernel : (tf_ 152)[1]? = some (0, 0, 0, 399)) (by decide) (by decide +kernel) rfl rfl (by omega) (by omega) ?_
  refine j_nm (fun U17 hU17 => ?_)
  have e18 := up_f hU17
  show J_ zX2_init T (po_X2_init T n c m u h a d) 0 1 39 [some (vR 152 n), some (vR 100 c), some (vI m), some (vI u), some (vI h), some (vI a), some (vI d)] [] U17
  refine j_blx (F := fX2) tb_X2 (by decide) bk_X2_init_39 bs_X2_init_39 hz (fun K hK => ?_)
  refine hK 41 [some (vR 152 n), some (vR 100 c), some (vI m), some (vI u), some (vI h), some (vI a), some (vI d)] [vI u, vR 152 n] U17 ?_
  refine j_putW (pc := 41) (ci := 2) (j := 2) (z := u) (by decide) (by decide) fW_X2_32 (by decide +kernel : (tf_ 152)[2]? = some (0, 0, (-2147483648), 2147483647)) (by decide) (by decide +kernel) rfl rfl (by omega) (by omega) ?_
  refine j_nm (fun U19 hU19 => ?_)
  have e20 := up_f hU19
  show J_ zX2_init T (po_X2_init T n c m u h a d) 0 1 44 [some (vR 152 n), some (vR 100 c), some (vI m), some (vI u), some (vI h), some (vI a), some (vI d)] [] U19
  refine j_blx (F := fX2) tb_X2 (by decide) bk_X2_init_44 bs_X2_init_44 hz (fun K hK => ?_)
  refine hK 47 [some (vR 152 n), some (vR 100 c), some (vI m), some (vI u), some (vI h), some (vI a), some (vI d)] [vI h, vR 152 n] U19 ?_
  refine j_putW (pc := 47) (ci := 2) (j := 3) (z := h) (by decide) (by decide) fW_X2_35 (by decide +kernel : (tf_ 152)[3]? = some (0, 0, 0, 11)) (by decide) (by decide +kernel) rfl rfl (by omega) (by omega) ?_
  refine j_nm (fun U21 hU21 => ?_)
  have e22 := up_f hU21
  show J_ zX2_init T (po_X2_init T n c m u h a d) 0 1 50 [some (vR 152 n), some (vR 100 c), some (vI m), some (vI u), some (vI h), some (vI a), some (vI d)] [] U21
  refine j_blx (F := fX2) tb_X2 (by decide) bk_X2_init_50 bs_X2_init_50 hz (fun K hK => ?_)
  refine hK 53 [some (vR 152 n), some (vR 100 c), some (vI m), some (vI u), some (vI h), some (vI a), some (vI d)] [vI a, vR 152 n] U21 ?_
  refine j_putW (pc := 53) (ci := 2) (j := 4) (z := a) (by decide) (by decide) fW_X2_38 (by decide +kernel : (tf_ 152)[4]? = some (0, 0, 0, 11)) (by decide) (by decide +kernel) rfl rfl (by omega) (by omega) ?_
  refine j_nm (fun U23 hU23 => ?_)
  have e24 := up_f hU23
  show J_ zX2_init T (po_X2_init T n c m u h a d) 0 1 56 [some (vR 152 n), some (vR 100 c), some (vI m), some (vI u), some (vI h), some (vI a), some (vI d)] [] U23
  refine j_blx (F := fX2) tb_X2 (by decide) bk_X2_init_56 bs_X2_init_56 hz (fun K hK => ?_)
  refine hK 59 [some (vR 152 n), some (vR 100 c), some (vI m), some (vI u), some (vI h), some (vI a), some (vI d)] [vI d, vR 152 n] U23 ?_
  refine j_putW (pc := 59) (ci := 2) (j := 5) (z := d) (by decide) (by decide) fW_X2_41 (by decide +kernel : (tf_ 152)[5]? = some (0, 0, 0, 999)) (by decide) (by decide +kernel) rfl rfl (by omega) (by omega) ?_
  refine j_nm (fun U25 hU25 => ?_)
  have e26 := up_f hU25
  show J_ zX2_init T (po_X2_init T n c m u h a d) 0 1 62 [some (vR 152 n), some (vR 100 c), some (vI m), some (vI u), some (vI h), some (vI a), some (vI d)] [] U25
  refine j_blx (F := fX2) tb_X2 (by decide) bk_X2_init_62 bs_X2_init_62 hz (fun K hK => ?_)
  refine (show po_X2_init T n c m u h a d U25 (none) from ?_)
  have e27 : U25 152 n 0 = c + 1 := (up_j hU25 (by decide) 152 n).trans ((up_j hU23 (by decide) 152 n).trans ((up_j hU21 (by decide) 152 n).trans ((up_j hU19 (by decide) 152 n).trans ((up_j hU17 (by decide) 152 n).trans (up_f hU15)))))
  have e28 : U25 152 n 1 = m := (up_j hU25 (by decide) 152 n).trans ((up_j hU23 (by decide) 152 n).trans ((up_j hU21 (by decide) 152 n).trans ((up_j hU19 (by decide) 152 n).trans (up_f hU17))))
  have e29 : U25 152 n 2 = u := (up_j hU25 (by decide) 152 n).trans ((up_j hU23 (by decide) 152 n).trans ((up_j hU21 (by decide) 152 n).trans (up_f hU19)))
  have e30 : U25 152 n 3 = h := (up_j hU25 (by decide) 152 n).trans ((up_j hU23 (by decide) 152 n).trans (up_f hU21))
  have e31 : U25 152 n 4 = a := (up_j hU25 (by decide) 152 n).trans (up_f hU23)
  have e32 : U25 152 n 5 = d := up_f hU25
  have e33 : U25 152 n 6 = (-1) := (up_j hU25 (by decide) 152 n).trans ((up_j hU23 (by decide) 152 n).trans ((up_j hU21 (by decide) 152 n).trans ((up_j hU19 (by decide) 152 n).trans ((up_j hU17 (by decide) 152 n).trans ((up_j hU15 (by decide) 152 n).trans ((up_j hU13 (by decide) 152 n).trans ((fU10 152 n 6 rfl).trans ((up_j hU8 (by decide) 152 n).trans ((fU5 152 n 6 rfl).trans ((up_j hU3 (by decide) 152 n).trans (up_f hU1)))))))))))
  have e34 : U25 152 n 7 = (-1) := (up_j hU25 (by decide) 152 n).trans ((up_j hU23 (by decide) 152 n).trans ((up_j hU21 (by decide) 152 n).trans ((up_j hU19 (by decide) 152 n).trans ((up_j hU17 (by decide) 152 n).trans ((up_j hU15 (by decide) 152 n).trans ((up_j hU13 (by decide) 152 n).trans ((fU10 152 n 7 rfl).trans ((up_j hU8 (by decide) 152 n).trans ((fU5 152 n 7 rfl).trans (up_f hU3))))))))))
  have e35 : U25 152 n 8 = n + 1 := (up_j hU25 (by decide) 152 n).trans ((up_j hU23 (by decide) 152 n).trans ((up_j hU21 (by decide) 152 n).trans ((up_j hU19 (by decide) 152 n).trans ((up_j hU17 (by decide) 152 n).trans ((up_j hU15 (by decide) 152 n).trans ((up_j hU13 (by decide) 152 n).trans ((fU10 152 n 8 rfl).trans (up_f hU8))))))))
  have e36 : U25 152 n 9 = n + 1 := (up_j hU25 (by decide) 152 n).trans ((up_j hU23 (by decide) 152 n).trans ((up_j hU21 (by decide) 152 n).trans ((up_j hU19 (by decide) 152 n).trans ((up_j hU17 (by decide) 152 n).trans ((up_j hU15 (by decide) 152 n).trans (up_f hU13))))))
  have e37 : U25 152 n 10 = T 152 n 10 := (up_j hU25 (by decide) 152 n).trans ((up_j hU23 (by decide) 152 n).trans ((up_j hU21 (by decide) 152 n).trans ((up_j hU19 (by decide) 152 n).trans ((up_j hU17 (by decide) 152 n).trans ((up_j hU15 (by decide) 152 n).trans ((up_j hU13 (by decide) 152 n).trans ((fU10 152 n 10 rfl).trans ((up_j hU8 (by decide) 152 n).trans ((fU5 152 n 10 rfl).trans ((up_j hU3 (by decide) 152 n).trans (up_j hU1 (by decide) 152 n)))))))))))
  exact ⟨rfl, fr_u (fr_u (fr_u (fr_u (fr_u (fr_u (fr_u (fr_t (fr_u (fr_t (fr_u (fr_u (fr_0 _ _) hU1 rfl) hU3 rfl) (fr_s fU5 rfl)) hU8 rfl) (fr_s fU10 rfl)) hU13 rfl) hU15 rfl) hU17 rfl) hU19 rfl) hU21 rfl) hU23 rfl) hU25 rfl, oi_u (oi_u (oi_u (oi_u (oi_u (oi_u (oi_u (oi_n (oi_u (oi_n (oi_u (oi_u (oi_r) hU1) hU3) oU5) hU8) oU10) hU13) hU15) hU17) hU19) hU21) hU23) hU25, by omega, by omega, fun j hj => ((up_k hU25 (by decide) _ _).trans ((up_k hU23 (by decide) _ _).trans ((up_k hU21 (by decide) _ _).trans ((up_k hU19 (by decide) _ _).trans ((up_k hU17 (by decide) _ _).trans ((up_k hU15 (by decide) _ _).trans ((up_k hU13 (by decide) _ _).trans ((fU10 448 _ _ rfl).trans (up_k hU8 (by decide) _ _))))))))).trans (zU5 _ (by omega)), fun j hj => ((up_k hU25 (by decide) _ _).trans ((up_k hU23 (by decide) _ _).trans ((up_k hU21 (by decide) _ _).trans ((up_k hU19 (by decide) _ _).trans ((up_k hU17 (by decide) _ _).trans ((up_k hU15 (by decide) _ _).trans (up_k hU13 (by decide) _ _))))))).trans (zU10 _ (by omega))⟩
abbrev po_J7_fill_404 (T : Zt) (p : Int) (v : Int) : Zt → Option Zv → Prop := fun T' r => r = none ∧ fr_ [(404, [])] T T' ∧ oi_ T T' p ∧ ∀ j, 0 ≤ j → j < 12 → T' 404 p j = v
set_option maxHeartbeats 4000000 in
theorem ct_J7_fill_404 {T : Zt} {p : Int} {v : Int} (h1 : (-1) ≤ v ∧ v ≤ 11) : Ct_ yJ7_fill_53178 zJ7_fill_53178 T [vR 404 p, vI v] (po_J7_fill_404 T p v) := by
  refine ct_of (by decide) rfl rfl (Nat.le_of_ble_eq_true rfl) (fun hT hav => ?_)
  have hr_v : -2147483648 ≤ v ∧ v ≤ 2147483647 := hav (vI v) (by simp)
  have hz : zJ7_fill_53178.2.2.2.1 = some .boolean → ∀ (T' : Zt) (x : Int), po_J7_fill_404 T p v T' (some (vI x)) → 0 ≤ x ∧ x ≤ 1 := fun h => by cases h
  show J_ zJ7_fill_53178 T (po_J7_fill_404 T p v) 0 0 0 [some (vR 404 p), some (vI v), none, none] [] T
  have c_5 : ∀ (nn : Nat) (j : Int) (T1 : Zt), ((12 - j).toNat) ≤ nn → (fr_ [(404, [])] T T1) → (0 ≤ j ∧ j ≤ 12) → (oi_ T T1 p) → (∀ q, 0 ≤ q → q < j → T1 404 p q = v) → J_ zJ7_fill_53178 T (po_J7_fill_404 T p v) 0 0 5 [some (vR 404 p), some (vI v), some (vI j), some (vI 12)] [] T1 := by
    intro nn
    induction nn using Nat.strongRecOn with
    | _ nn ih_5 =>
      intro j T1 hm_5 hf_5 i1 o1 f1
      refine j_blx (F := fJ7) tb_J7 (by decide) bk_J7_fill_53178_5 bs_J7_fill_53178_5 hz (fun K hK => ?_)
      refine And.intro (fun c1 => ?_) (fun c1 => ?_)
      · refine hK 20 [some (vR 404 p), some (vI v), some (vI j), some (vI 12)] [] T1 ?_
        refine j_blx (F := fJ7) tb_J7 (by decide) bk_J7_fill_53178_20 bs_J7_fill_53178_20 hz (fun K hK => ?_)
        refine (show po_J7_fill_404 T p v T1 (none) from ?_)
        exact ⟨rfl, fr_t (fr_0 _ _) (fr_s hf_5 rfl), o1, fun q a b => f1 q a (by omega)⟩
      · refine iy_i (by omega) (by omega) ?_
        refine x_nm (fun U2 hU2 => ?_)
        have e3 := up_f hU2
        refine rg_i (by omega) ?_
        refine hK 5 [some (vR 404 p), some (vI v), some (vI (j + 1)), some (vI 12)] [] U2 ?_
        refine ih_5 _ ?_ (j + 1) U2 (Nat.le_refl _) ?_ ?_ ?_ ?_
        · omega
        · exact fr_u (fr_t (fr_0 _ _) (fr_s hf_5 rfl)) hU2 rfl
        · omega
        · exact oi_u o1 hU2
        · intro q a b
          by_cases z : q = j
          · rw [z]; exact up_f hU2
          · rw [up_g hU2 (fun y => z y.2.2)]; exact f1 q a (by omega)
  refine j_blx (F := fJ7) tb_J7 (by decide) bk_J7_fill_53178_0 bs_J7_fill_53178_0 hz (fun K hK => ?_)
  refine hK 5 [some (vR 404 p), some (vI v), some (vI 0), some (vI 12)] [] T ?_
  refine c_5 _ 0 T (Nat.le_refl _) ?_ ?_ ?_ ?_
  · exact fr_0 _ _
  · omega
  · exact oi_r
  · intro q a b; omega
abbrev cX0_init : ByteArray := prog_2_method_1_code
def yX0_init : MethodName := ⟨RX0, "<init>", "(I[I[I)V"⟩
def zX0_init : Zm := (RX0, cX0_init, 4, none, { frames := 1, cells := 2, slots := 25, locals := 30 })
theorem bk_X0_init_0 : ck_ fX0 none cX0_init 0 [.aload 0] 1 = true := qck_r (by decide) (by decide +kernel)
theorem bs_X0_init_0 {P : Zt → Option Zv → Prop} (K : Int → Zl → List Zv → Zt → Prop) : sx_ K P [.aload 0] 1 = x_aload 0 (K 1) := ((xe_aload 0).trans (congrArg (x_aload 0) xe_nil))
theorem bk_X0_init_4 : ck_ fX0 none cX0_init 4 [.aload 0, .iconst 12] 7 = true := qck_r (by decide) (by decide +kernel)
theorem bs_X0_init_4 {P : Zt → Option Zv → Prop} (K : Int → Zl → List Zv → Zt → Prop) : sx_ K P [.aload 0, .iconst 12] 7 = x_aload 0 (x_iconst 12 (K 7)) := ((xe_aload 0).trans (congrArg (x_aload 0) ((xe_iconst 12).trans (congrArg (x_iconst 12) xe_nil))))
theorem fW_X0_9 : fW_ RX0 9 0 3 false := ⟨_, _, _, rfl, by decide, by decide, (lw_b3 91 (by decide +kernel) rfl : Cond.fieldLink RX0 9 _ _ _ ∈ lw_g), rfl, .array .int, by decide +kernel, fun _ _ => ⟨rfl, rfl⟩, (fun _ h => by cases h)⟩
theorem bk_X0_init_12 : ck_ fX0 none cX0_init 12 [.aload 0, .iconst 12] 15 = true := qck_r (by decide) (by decide +kernel)
theorem bs_X0_init_12 {P : Zt → Option Zv → Prop} (K : Int → Zl → List Zv → Zt → Prop) : sx_ K P [.aload 0, .iconst 12] 15 = x_aload 0 (x_iconst 12 (K 15)) := ((xe_aload 0).trans (congrArg (x_aload 0) ((xe_iconst 12).trans (congrArg (x_iconst 12) xe_nil))))
theorem fW_X0_15 : fW_ RX0 15 0 4 false := ⟨_, _, _, rfl, by decide, by decide, (lw_b3 96 (by decide +kernel) rfl : Cond.fieldLink RX0 15 _ _ _ ∈ lw_g), rfl, .array .int, by decide +kernel, fun _ _ => ⟨rfl, rfl⟩, (fun _ h => by cases h)⟩
theorem bk_X0_init_20 : ck_ fX0 none cX0_init 20 [.aload 0, .iload 1] 22 = true := qck_r (by decide) (by decide +kernel)
theorem bs_X0_init_20 {P : Zt → Option Zv → Prop} (K : Int → Zl → List Zv → Zt → Prop) : sx_ K P [.aload 0, .iload 1] 22 = x_aload 0 (x_iload 1 (K 22)) := ((xe_aload 0).trans (congrArg (x_aload 0) ((xe_iload 1).trans (congrArg (x_iload 1) xe_nil))))
theorem fW_X0_18 : fW_ RX0 18 0 0 true := ⟨_, _, _, rfl, by decide, by decide, (lw_b3 79 (by decide +kernel) rfl : Cond.fieldLink RX0 18 _ _ _ ∈ lw_g), rfl, .int, by decide +kernel, (fun _ h => by cases h), fun _ _ => ⟨rfl, rfl⟩⟩
theorem bk_X0_init_25 : ck_ fX0 none cX0_init 25 [.aload 0, .aload 2] 27 = true := qck_r (by decide) (by decide +kernel)
theorem bs_X0_init_25 {P : Zt → Option Zv → Prop} (K : Int → Zl → List Zv → Zt → Prop) : sx_ K P [.aload 0, .aload 2] 27 = x_aload 0 (x_aload 2 (K 27)) := ((xe_aload 0).trans (congrArg (x_aload 0) ((xe_aload 2).trans (congrArg (x_aload 2) xe_nil))))
theorem fW_X0_22 : fW_ RX0 22 0 1 false := ⟨_, _, _, rfl, by decide, by decide, (lw_b3 82 (by decide +kernel) rfl : Cond.fieldLink RX0 22 _ _ _ ∈ lw_g), rfl, .array .int, by decide +kernel, fun _ _ => ⟨rfl, rfl⟩, (fun _ h => by cases h)⟩
theorem bk_X0_init_30 : ck_ fX0 none cX0_init 30 [.aload 0, .aload 3] 32 = true := qck_r (by decide) (by decide +kernel)
theorem bs_X0_init_30 {P : Zt → Option Zv → Prop} (K : Int → Zl → List Zv → Zt → Prop) : sx_ K P [.aload 0, .aload 3] 32 = x_aload 0 (x_aload 3 (K 32)) := ((xe_aload 0).trans (congrArg (x_aload 0) ((xe_aload 3).trans (congrArg (x_aload 3) xe_nil))))
theorem fW_X0_25 : fW_ RX0 25 0 2 false := ⟨_, _, _, rfl, by decide, by decide, (lw_b3 88 (by decide +kernel) rfl : Cond.fieldLink RX0 25 _ _ _ ∈ lw_g), rfl, .array .int, by decide +kernel, fun _ _ => ⟨rfl, rfl⟩, (fun _ h => by cases h)⟩
theorem bk_X0_init_35 : ck_ fX0 none cX0_init 35 [.aload 0] 36 = true := qck_r (by decide) (by decide +kernel)
theorem bs_X0_init_35 {P : Zt → Option Zv → Prop} (K : Int → Zl → List Zv → Zt → Prop) : sx_ K P [.aload 0] 36 = x_aload 0 (K 36) := ((xe_aload 0).trans (congrArg (x_aload 0) xe_nil))
theorem bk_X0_init_39 : ck_ fX0 none cX0_init 39 [.iconst (-1)] 40 = true := qck_r (by decide) (by decide +kernel)
theorem bs_X0_init_39 {P : Zt → Option Zv → Prop} (K : Int → Zl → List Zv → Zt → Prop) : sx_ K P [.iconst (-1)] 40 = x_iconst (-1) (K 40) := ((xe_iconst (-1)).trans (congrArg (x_iconst (-1)) xe_nil))
set_option maxRecDepth 100000 in
theorem cl_X0_28 : cs_ RX0 28 yJ7_fill_53178 zJ7_fill_53178 2 := ⟨gi_S (lw_b3 78 (by decide +kernel) rfl : Cond.methodLink RX0 28 yJ7_fill_53178 ∈ lw_g) (lw_b2 26 (by decide +kernel) rfl : Cond.static yJ7_fill_53178 ∈ lw_g) (lw_b1 7 (by decide +kernel) rfl : Cond.initialized yJ7_fill_53178.cls ∈ lw_g) (lw_b2 27 rfl rfl : Cond.code yJ7_fill_53178 cJ7_fill_53178 4 none ∈ lw_g), ⟨by decide, by decide, by decide +kernel⟩⟩
theorem bk_X0_init_43 : ck_ fX0 none cX0_init 43 [.return_] 44 = true := qck_r (by decide) (by decide +kernel)
theorem bs_X0_init_43 {P : Zt → Option Zv → Prop} (K : Int → Zl → List Zv → Zt → Prop) : sx_ K P [.return_] 44 = x_return_ P := (xe_return_)
abbrev po_X0_init (T : Zt) (n : Int) (m : Int) : Zt → Option Zv → Prop := fun T' r => r = none ∧ fr_ [(150, []), (403, []), (404, [])] T T' ∧ (oi_ T T' n ∧ (T' 150 n 0 = m ∧ T' 150 n 1 = n + 1 ∧ T' 150 n 2 = n + 1 ∧ T' 150 n 3 = n + 1 ∧ T' 150 n 4 = n + 1) ∧ (T' 150 n 5 = T 150 n 5 ∧ T' 150 n 6 = T 150 n 6 ∧ T' 150 n 7 = T 150 n 7 ∧ T' 150 n 8 = T 150 n 8) ∧ ∀ j, 0 ≤ j → j < 12 → T' 404 n j = -1)
set_option maxHeartbeats 4000000 in
theorem ct_X0_init {T : Zt} {n : Int} {m : Int} (h1 : 0 ≤ n ∧ n ≤ 3 ∧ 0 ≤ m ∧ m ≤ 3) (hf3 : ¬ T 403 n (-1) = 1) (hf4 : ¬ T 404 n (-1) = 1) : Ct_ yX0_init zX0_init T [vR 150 n, vI m, vR 401 n, vR 402 n] (po_X0_init T n m) := by
  refine ct_of (by decide) rfl rfl (Nat.le_of_ble_eq_true rfl) (fun hT hav => ?_)
  have hr_m : -2147483648 ≤ m ∧ m ≤ 2147483647 := hav (vI m) (by simp)
  have hz : zX0_init.2.2.2.1 = some .boolean → ∀ (T' : Zt) (x : Int), po_X0_init T n m T' (some (vI x)) → 0 ≤ x ∧ x ≤ 1 := fun h => by cases h
  have hth : T 150 n (-1) = 1 := ok_al (v := none) (by decide) (hav (vR 150 n) (by simp))
  show J_ zX0_init T (po_X0_init T n m) 2 25 0 [some (vR 150 n), some (vI m), some (vR 401 n), some (vR 402 n)] [] T
  refine j_blx (F := fX0) tb_X0 (by decide) bk_X0_init_0 bs_X0_init_0 hz (fun K hK => ?_)
  refine hK 1 [some (vR 150 n), some (vI m), some (vR 401 n), some (vR 402 n)] [vR 150 n] T ?_
  refine j_objI (pc := 1) (lw_b3 77 (by decide +kernel) rfl : Cond.methodLink RX0 3 Lib.objectInit ∈ lw_g) (lw_b1 27 (by decide +kernel) rfl : Cond.instanceMethod Lib.objectInit ∈ lw_g) (lw_b1 28 (by decide +kernel) rfl : Cond.code Lib.objectInit ⟨#[0xb1]⟩ 1 none ∈ lw_g) (by decide +kernel) (by decide) (by decide) (by decide) (by decide) ?_
  show J_ zX0_init T (po_X0_init T n m) 2 25 4 [some (vR 150 n), some (vI m), some (vR 401 n), some (vR 402 n)] [] T
  refine j_blx (F := fX0) tb_X0 (by decide) bk_X0_init_4 bs_X0_init_4 hz (fun K hK => ?_)
  refine hK 7 [some (vR 150 n), some (vI m), some (vR 401 n), some (vR 402 n)] [vI 12, vR 150 n] T ?_
  refine j_newI (bc' := 1) (bs' := 13) (pc := 7) (k := 403) (i := n) (by decide) (by decide +kernel : ta_ 403 = some (1, some 12, 0, 11)) (by decide) (by decide) (hf3) (by omega) (by first | decide | omega) (by decide +kernel) (lw_b1 72 (by decide +kernel) rfl : Cond.arrayClass .int ∈ lw_g) (fun o ho => by rw [show ow_ 403 = some 100 by decide] at ho; cases ho; exact Or.inr (show T 150 n (-1) = 1 from hth)) ?_
  refine j_nm (fun U1 hU1 => ?_)
  have fU1 := nu_fr hU1
  have zU1 := nu_tz hU1
  have oU1 := nu_to hU1
  have vU1 := nu_tv hU1
  show J_ zX0_init T (po_X0_init T n m) 1 13 9 [some (vR 150 n), some (vI m), some (vR 401 n), some (vR 402 n)] [vR 403 n, vR 150 n] U1
  refine j_putW (pc := 9) (ci := 0) (j := 3) (z := n + 1) (by decide) (by decide) fW_X0_9 (by decide +kernel : (tf_ 150)[3]? = some (5, 403, (-2147483648), 2147483647)) (by decide) (by decide +kernel) (fv5_ (by omega)) rfl (by omega) (by omega) ?_
  refine j_nm (fun U2 hU2 => ?_)
  have e3 := up_f hU2
  show J_ zX0_init T (po_X0_init T n m) 1 13 12 [some (vR 150 n), some (vI m), some (vR 401 n), some (vR 402 n)] [] U2
  refine j_blx (F := fX0) tb_X0 (by decide) bk_X0_init_12 bs_X0_init_12 hz (fun K hK => ?_)
  refine hK 15 [some (vR 150 n), some (vI m), some (vR 401 n), some (vR 402 n)] [vI 12, vR 150 n] U2 ?_
  have e5 : U2 404 n (-1) = T 404 n (-1) := (up_k hU2 (by decide) n (-1)).trans (fU1 404 n (-1) rfl)
  have e6 : U2 150 n (-1) = T 150 n (-1) := (up_j hU2 (by decide) 150 n).trans (fU1 150 n (-1) rfl)
  refine j_newI (bc' := 0) (bs' := 1) (pc := 15) (k := 404) (i := n) (by decide) (by decide +kernel : ta_ 404 = some (1, some 12, (-1), 11)) (by decide) (by decide) (by show ¬ U2 404 n (-1) = 1; rw [e5]; exact hf4) (by omega) (by first | decide | omega) (by decide +kernel) (lw_b1 72 (by decide +kernel) rfl : Cond.arrayClass .int ∈ lw_g) (fun o ho => by rw [show ow_ 404 = some 100 by decide] at ho; cases ho; exact Or.inr (show U2 150 n (-1) = 1 from (e6).trans hth)) ?_
  refine j_nm (fun U4 hU4 => ?_)
  have fU4 := nu_fr hU4
  have zU4 := nu_tz hU4
  have oU4 := nu_to hU4
  have vU4 := nu_tv hU4
  show J_ zX0_init T (po_X0_init T n m) 0 1 17 [some (vR 150 n), some (vI m), some (vR 401 n), some (vR 402 n)] [vR 404 n, vR 150 n] U4
  refine j_putW (pc := 17) (ci := 0) (j := 4) (z := n + 1) (by decide) (by decide) fW_X0_15 (by decide +kernel : (tf_ 150)[4]? = some (5, 404, (-2147483648), 2147483647)) (by decide) (by decide +kernel) (fv5_ (by omega)) rfl (by omega) (by omega) ?_
  refine j_nm (fun U7 hU7 => ?_)
  have e8 := up_f hU7
  show J_ zX0_init T (po_X0_init T n m) 0 1 20 [some (vR 150 n), some (vI m), some (vR 401 n), some (vR 402 n)] [] U7
  refine j_blx (F := fX0) tb_X0 (by decide) bk_X0_init_20 bs_X0_init_20 hz (fun K hK => ?_)
  refine hK 22 [some (vR 150 n), some (vI m), some (vR 401 n), some (vR 402 n)] [vI m, vR 150 n] U7 ?_
  refine j_putW (pc := 22) (ci := 0) (j := 0) (z := m) (by decide) (by decide) fW_X0_18 (by decide +kernel : (tf_ 150)[0]? = some (0, 0, 0, 3)) (by decide) (by decide +kernel) rfl rfl (by omega) (by omega) ?_
  refine j_nm (fun U9 hU9 => ?_)
  have e10 := up_f hU9
  show J_ zX0_init T (po_X0_init T n m) 0 1 25 [some (vR 150 n), some (vI m), some (vR 401 n), some (vR 402 n)] [] U9
  refine j_blx (F := fX0) tb_X0 (by decide) bk_X0_init_25 bs_X0_init_25 hz (fun K hK => ?_)
  refine hK 27 [some (vR 150 n), some (vI m), some (vR 401 n), some (vR 402 n)] [vR 401 n, vR 150 n] U9 ?_
  refine j_putW (pc := 27) (ci := 0) (j := 1) (z := n + 1) (by decide) (by decide) fW_X0_22 (by decide +kernel : (tf_ 150)[1]? = some (5, 401, (-2147483648), 2147483647)) (by decide) (by decide +kernel) (fv5_ (by omega)) rfl (by omega) (by omega) ?_
  refine j_nm (fun U11 hU11 => ?_)
  have e12 := up_f hU11
  show J_ zX0_init T (po_X0_init T n m) 0 1 30 [some (vR 150 n), some (vI m), some (vR 401 n), some (vR 402 n)] [] U11
  refine j_blx (F := fX0) tb_X0 (by decide) bk_X0_init_30 bs_X0_init_30 hz (fun K hK => ?_)
  refine hK 32 [some (vR 150 n), some (vI m), some (vR 401 n), some (vR 402 n)] [vR 402 n, vR 150 n] U11 ?_
  refine j_putW (pc := 32) (ci := 0) (j := 2) (z := n + 1) (by decide) (by decide) fW_X0_25 (by decide +kernel : (tf_ 150)[2]? = some (5, 402, (-2147483648), 2147483647)) (by decide) (by decide +kernel) (fv5_ (by omega)) rfl (by omega) (by omega) ?_
  refine j_nm (fun U13 hU13 => ?_)
  have e14 := up_f hU13
  show J_ zX0_init T (po_X0_init T n m) 0 1 35 [some (vR 150 n), some (vI m), some (vR 401 n), some (vR 402 n)] [] U13
  refine j_blx (F := fX0) tb_X0 (by decide) bk_X0_init_35 bs_X0_init_35 hz (fun K hK => ?_)
  refine hK 36 [some (vR 150 n), some (vI m), some (vR 401 n), some (vR 402 n)] [vR 150 n] U13 ?_
  have e15 : U13 150 n 4 = n + 1 := (up_j hU13 (by decide) 150 n).trans ((up_j hU11 (by decide) 150 n).trans ((up_j hU9 (by decide) 150 n).trans (up_f hU7)))
  refine j_getW (pc := 36) (ci := 0) (j := 4) (v := vR 404 n) (by decide) (by decide) vi_0 (by decide) (lw_b3 96 (by decide +kernel) rfl : Cond.fieldLink RX0 15 _ _ _ ∈ lw_g) (by decide +kernel : (tf_ 150)[4]? = some (5, 404, (-2147483648), 2147483647)) (by decide +kernel) (by rw [show (((4 : Nat) : Int)) = 4 from rfl, e15]; exact fv5_ (by omega)) ?_
  show J_ zX0_init T (po_X0_init T n m) 0 1 39 [some (vR 150 n), some (vI m), some (vR 401 n), some (vR 402 n)] [vR 404 n] U13
  refine j_blx (F := fX0) tb_X0 (by decide) bk_X0_init_39 bs_X0_init_39 hz (fun K hK => ?_)
  refine hK 40 [some (vR 150 n), some (vI m), some (vR 401 n), some (vR 402 n)] [vI (-1), vR 404 n] U13 ?_
  refine j_callS (y := yJ7_fill_53178) (Yc := zJ7_fill_53178) (rest := []) [vR 404 n, vI (-1)] (ct_J7_fill_404 (T := U13) (by omega)) cl_X0_28 (qd_c (by decide +kernel)) (by decide) rfl (by decide +kernel) (Nat.le_of_ble_eq_true rfl) (by decide) (by decide) rfl ?_
  rintro U16 _ ⟨rfl, fU16, qU16o, qU16⟩
  show J_ zX0_init T (po_X0_init T n m) 0 1 43 [some (vR 150 n), some (vI m), some (vR 401 n), some (vR 402 n)] [] U16
  refine j_blx (F := fX0) tb_X0 (by decide) bk_X0_init_43 bs_X0_init_43 hz (fun K hK => ?_)
  refine (show po_X0_init T n m U16 (none) from ?_)
  have e17 : U16 150 n 0 = m := (fU16 150 n 0 rfl).trans ((up_j hU13 (by decide) 150 n).trans ((up_j hU11 (by decide) 150 n).trans (up_f hU9)))
  have e18 : U16 150 n 1 = n + 1 := (fU16 150 n 1 rfl).trans ((up_j hU13 (by decide) 150 n).trans (up_f hU11))
  have e19 : U16 150 n 2 = n + 1 := (fU16 150 n 2 rfl).trans (up_f hU13)
  have e20 : U16 150 n 3 = n + 1 := (fU16 150 n 3 rfl).trans ((up_j hU13 (by decide) 150 n).trans ((up_j hU11 (by decide) 150 n).trans ((up_j hU9 (by decide) 150 n).trans ((up_j hU7 (by decide) 150 n).trans ((fU4 150 n 3 rfl).trans (up_f hU2))))))
  have e21 : U16 150 n 4 = n + 1 := (fU16 150 n 4 rfl).trans ((up_j hU13 (by decide) 150 n).trans ((up_j hU11 (by decide) 150 n).trans ((up_j hU9 (by decide) 150 n).trans (up_f hU7))))
  have e22 : U16 150 n 5 = T 150 n 5 := (fU16 150 n 5 rfl).trans ((up_j hU13 (by decide) 150 n).trans ((up_j hU11 (by decide) 150 n).trans ((up_j hU9 (by decide) 150 n).trans ((up_j hU7 (by decide) 150 n).trans ((fU4 150 n 5 rfl).trans ((up_j hU2 (by decide) 150 n).trans (fU1 150 n 5 rfl)))))))
  have e23 : U16 150 n 6 = T 150 n 6 := (fU16 150 n 6 rfl).trans ((up_j hU13 (by decide) 150 n).trans ((up_j hU11 (by decide) 150 n).trans ((up_j hU9 (by decide) 150 n).trans ((up_j hU7 (by decide) 150 n).trans ((fU4 150 n 6 rfl).trans ((up_j hU2 (by decide) 150 n).trans (fU1 150 n 6 rfl)))))))
  have e24 : U16 150 n 7 = T 150 n 7 := (fU16 150 n 7 rfl).trans ((up_j hU13 (by decide) 150 n).trans ((up_j hU11 (by decide) 150 n).trans ((up_j hU9 (by decide) 150 n).trans ((up_j hU7 (by decide) 150 n).trans ((fU4 150 n 7 rfl).trans ((up_j hU2 (by decide) 150 n).trans (fU1 150 n 7 rfl)))))))
  have e25 : U16 150 n 8 = T 150 n 8 := (fU16 150 n 8 rfl).trans ((up_j hU13 (by decide) 150 n).trans ((up_j hU11 (by decide) 150 n).trans ((up_j hU9 (by decide) 150 n).trans ((up_j hU7 (by decide) 150 n).trans ((fU4 150 n 8 rfl).trans ((up_j hU2 (by decide) 150 n).trans (fU1 150 n 8 rfl)))))))
  exact ⟨rfl, fr_t (fr_u (fr_u (fr_u (fr_u (fr_t (fr_u (fr_t (fr_0 _ _) (fr_s fU1 rfl)) hU2 rfl) (fr_s fU4 rfl)) hU7 rfl) hU9 rfl) hU11 rfl) hU13 rfl) (fr_s fU16 rfl), oi_t (oi_u (oi_u (oi_u (oi_u (oi_n (oi_u (oi_n (oi_r) oU1) hU2) oU4) hU7) hU9) hU11) hU13) qU16o, by omega, by omega, fun j a b => qU16 j a b⟩
abbrev cX3_init : ByteArray := prog_5_method_1_code
def yX3_init : MethodName := ⟨RX3, "<init>", "([I[I[I)V"⟩
def zX3_init : Zm := (RX3, cX3_init, 4, none, { frames := 1, cells := 10, slots := 111, locals := 30 })
theorem bk_X3_init_0 : ck_ fX3 none cX3_init 0 [.aload 0] 1 = true := qck_r (by decide) (by decide +kernel)
theorem bs_X3_init_0 {P : Zt → Option Zv → Prop} (K : Int → Zl → List Zv → Zt → Prop) : sx_ K P [.aload 0] 1 = x_aload 0 (K 1) := ((xe_aload 0).trans (congrArg (x_aload 0) xe_nil))
theorem bk_X3_init_4 : ck_ fX3 none cX3_init 4 [.aload 0, .iconst 2] 6 = true := qck_r (by decide) (by decide +kernel)
theorem bs_X3_init_4 {P : Zt → Option Zv → Prop} (K : Int → Zl → List Zv → Zt → Prop) : sx_ K P [.aload 0, .iconst 2] 6 = x_aload 0 (x_iconst 2 (K 6)) := ((xe_aload 0).trans (congrArg (x_aload 0) ((xe_iconst 2).trans (congrArg (x_iconst 2) xe_nil))))
theorem fW_X3_9 : fW_ RX3 9 3 6 false := ⟨_, _, _, rfl, by decide, by decide, (lw_b4 194 (by decide +kernel) rfl : Cond.fieldLink RX3 9 _ _ _ ∈ lw_g), rfl, .array .int, by decide +kernel, fun _ _ => ⟨rfl, rfl⟩, (fun _ h => by cases h)⟩
theorem bk_X3_init_11 : ck_ fX3 none cX3_init 11 [.aload 0, .iconst 2] 13 = true := qck_r (by decide) (by decide +kernel)
theorem bs_X3_init_11 {P : Zt → Option Zv → Prop} (K : Int → Zl → List Zv → Zt → Prop) : sx_ K P [.aload 0, .iconst 2] 13 = x_aload 0 (x_iconst 2 (K 13)) := ((xe_aload 0).trans (congrArg (x_aload 0) ((xe_iconst 2).trans (congrArg (x_iconst 2) xe_nil))))
theorem fW_X3_15 : fW_ RX3 15 3 7 false := ⟨_, _, _, rfl, by decide, by decide, (lw_b4 196 (by decide +kernel) rfl : Cond.fieldLink RX3 15 _ _ _ ∈ lw_g), rfl, .array .int, by decide +kernel, fun _ _ => ⟨rfl, rfl⟩, (fun _ h => by cases h)⟩
theorem bk_X3_init_18 : ck_ fX3 none cX3_init 18 [.aload 0, .iconst 2] 20 = true := qck_r (by decide) (by decide +kernel)
theorem bs_X3_init_18 {P : Zt → Option Zv → Prop} (K : Int → Zl → List Zv → Zt → Prop) : sx_ K P [.aload 0, .iconst 2] 20 = x_aload 0 (x_iconst 2 (K 20)) := ((xe_aload 0).trans (congrArg (x_aload 0) ((xe_iconst 2).trans (congrArg (x_iconst 2) xe_nil))))
theorem fW_X3_18 : fW_ RX3 18 3 8 false := ⟨_, _, _, rfl, by decide, by decide, (lw_b4 198 (by decide +kernel) rfl : Cond.fieldLink RX3 18 _ _ _ ∈ lw_g), rfl, .array .int, by decide +kernel, fun _ _ => ⟨rfl, rfl⟩, (fun _ h => by cases h)⟩
theorem bk_X3_init_25 : ck_ fX3 none cX3_init 25 [.aload 0, .iconst 2] 27 = true := qck_r (by decide) (by decide +kernel)
theorem bs_X3_init_25 {P : Zt → Option Zv → Prop} (K : Int → Zl → List Zv → Zt → Prop) : sx_ K P [.aload 0, .iconst 2] 27 = x_aload 0 (x_iconst 2 (K 27)) := ((xe_aload 0).trans (congrArg (x_aload 0) ((xe_iconst 2).trans (congrArg (x_iconst 2) xe_nil))))
theorem fW_X3_21 : fW_ RX3 21 3 9 false := ⟨_, _, _, rfl, by decide, by decide, (lw_b4 200 (by decide +kernel) rfl : Cond.fieldLink RX3 21 _ _ _ ∈ lw_g), rfl, .array .int, by decide +kernel, fun _ _ => ⟨rfl, rfl⟩, (fun _ h => by cases h)⟩
theorem bk_X3_init_32 : ck_ fX3 none cX3_init 32 [.aload 0, .iconst 2] 34 = true := qck_r (by decide) (by decide +kernel)
theorem bs_X3_init_32 {P : Zt → Option Zv → Prop} (K : Int → Zl → List Zv → Zt → Prop) : sx_ K P [.aload 0, .iconst 2] 34 = x_aload 0 (x_iconst 2 (K 34)) := ((xe_aload 0).trans (congrArg (x_aload 0) ((xe_iconst 2).trans (congrArg (x_iconst 2) xe_nil))))
theorem fW_X3_24 : fW_ RX3 24 3 10 false := ⟨_, _, _, rfl, by decide, by decide, (lw_b4 202 (by decide +kernel) rfl : Cond.fieldLink RX3 24 _ _ _ ∈ lw_g), rfl, .array .int, by decide +kernel, fun _ _ => ⟨rfl, rfl⟩, (fun _ h => by cases h)⟩
theorem bk_X3_init_39 : ck_ fX3 none cX3_init 39 [.aload 0, .iconst 12] 42 = true := qck_r (by decide) (by decide +kernel)
theorem bs_X3_init_39 {P : Zt → Option Zv → Prop} (K : Int → Zl → List Zv → Zt → Prop) : sx_ K P [.aload 0, .iconst 12] 42 = x_aload 0 (x_iconst 12 (K 42)) := ((xe_aload 0).trans (congrArg (x_aload 0) ((xe_iconst 12).trans (congrArg (x_iconst 12) xe_nil))))
theorem fW_X3_27 : fW_ RX3 27 3 11 false := ⟨_, _, _, rfl, by decide, by decide, (lw_b4 204 (by decide +kernel) rfl : Cond.fieldLink RX3 27 _ _ _ ∈ lw_g), rfl, .array .int, by decide +kernel, fun _ _ => ⟨rfl, rfl⟩, (fun _ h => by cases h)⟩
theorem bk_X3_init_47 : ck_ fX3 none cX3_init 47 [.aload 0, .iconst 20] 50 = true := qck_r (by decide) (by decide +kernel)
theorem bs_X3_init_47 {P : Zt → Option Zv → Prop} (K : Int → Zl → List Zv → Zt → Prop) : sx_ K P [.aload 0, .iconst 20] 50 = x_aload 0 (x_iconst 20 (K 50)) := ((xe_aload 0).trans (congrArg (x_aload 0) ((xe_iconst 20).trans (congrArg (x_iconst 20) xe_nil))))
theorem fW_X3_30 : fW_ RX3 30 3 12 false := ⟨_, _, _, rfl, by decide, by decide, (lw_b4 205 (by decide +kernel) rfl : Cond.fieldLink RX3 30 _ _ _ ∈ lw_g), rfl, .array .int, by decide +kernel, fun _ _ => ⟨rfl, rfl⟩, (fun _ h => by cases h)⟩
theorem bk_X3_init_55 : ck_ fX3 none cX3_init 55 [.aload 0, .iconst 20] 58 = true := qck_r (by decide) (by decide +kernel)
theorem bs_X3_init_55 {P : Zt → Option Zv → Prop} (K : Int → Zl → List Zv → Zt → Prop) : sx_ K P [.aload 0, .iconst 20] 58 = x_aload 0 (x_iconst 20 (K 58)) := ((xe_aload 0).trans (congrArg (x_aload 0) ((xe_iconst 20).trans (congrArg (x_iconst 20) xe_nil))))
theorem fW_X3_33 : fW_ RX3 33 3 13 false := ⟨_, _, _, rfl, by decide, by decide, (lw_b4 206 (by decide +kernel) rfl : Cond.fieldLink RX3 33 _ _ _ ∈ lw_g), rfl, .array .int, by decide +kernel, fun _ _ => ⟨rfl, rfl⟩, (fun _ h => by cases h)⟩
theorem bk_X3_init_63 : ck_ fX3 none cX3_init 63 [.aload 0, .iconst 32] 66 = true := qck_r (by decide) (by decide +kernel)
theorem bs_X3_init_63 {P : Zt → Option Zv → Prop} (K : Int → Zl → List Zv → Zt → Prop) : sx_ K P [.aload 0, .iconst 32] 66 = x_aload 0 (x_iconst 32 (K 66)) := ((xe_aload 0).trans (congrArg (x_aload 0) ((xe_iconst 32).trans (congrArg (x_iconst 32) xe_nil))))
theorem fW_X3_36 : fW_ RX3 36 3 14 false := ⟨_, _, _, rfl, by decide, by decide, (lw_b4 209 (by decide +kernel) rfl : Cond.fieldLink RX3 36 _ _ _ ∈ lw_g), rfl, .array .int, by decide +kernel, fun _ _ => ⟨rfl, rfl⟩, (fun _ h => by cases h)⟩
theorem bk_X3_init_71 : ck_ fX3 none cX3_init 71 [.aload 0, .iconst 16] 74 = true := qck_r (by decide) (by decide +kernel)
theorem bs_X3_init_71 {P : Zt → Option Zv → Prop} (K : Int → Zl → List Zv → Zt → Prop) : sx_ K P [.aload 0, .iconst 16] 74 = x_aload 0 (x_iconst 16 (K 74)) := ((xe_aload 0).trans (congrArg (x_aload 0) ((xe_iconst 16).trans (congrArg (x_iconst 16) xe_nil))))
theorem fW_X3_39 : fW_ RX3 39 3 16 false := ⟨_, _, _, rfl, by decide, by decide, (lw_b4 213 (by decide +kernel) rfl : Cond.fieldLink RX3 39 _ _ _ ∈ lw_g), rfl, .array .int, by decide +kernel, fun _ _ => ⟨rfl, rfl⟩, (fun _ h => by cases h)⟩
theorem bk_X3_init_79 : ck_ fX3 none cX3_init 79 [.aload 0, .aload 1] 81 = true := qck_r (by decide) (by decide +kernel)
theorem bs_X3_init_79 {P : Zt → Option Zv → Prop} (K : Int → Zl → List Zv → Zt → Prop) : sx_ K P [.aload 0, .aload 1] 81 = x_aload 0 (x_aload 1 (K 81)) := ((xe_aload 0).trans (congrArg (x_aload 0) ((xe_aload 1).trans (congrArg (x_aload 1) xe_nil))))
theorem fW_X3_42 : fW_ RX3 42 3 0 false := ⟨_, _, _, rfl, by decide, by decide, (lw_b4 185 (by decide +kernel) rfl : Cond.fieldLink RX3 42 _ _ _ ∈ lw_g), rfl, .array .int, by decide +kernel, fun _ _ => ⟨rfl, rfl⟩, (fun _ h => by cases h)⟩
theorem bk_X3_init_84 : ck_ fX3 none cX3_init 84 [.aload 0, .aload 2] 86 = true := qck_r (by decide) (by decide +kernel)
theorem bs_X3_init_84 {P : Zt → Option Zv → Prop} (K : Int → Zl → List Zv → Zt → Prop) : sx_ K P [.aload 0, .aload 2] 86 = x_aload 0 (x_aload 2 (K 86)) := ((xe_aload 0).trans (congrArg (x_aload 0) ((xe_aload 2).trans (congrArg (x_aload 2) xe_nil))))
theorem fW_X3_45 : fW_ RX3 45 3 1 false := ⟨_, _, _, rfl, by decide, by decide, (lw_b4 186 (by decide +kernel) rfl : Cond.fieldLink RX3 45 _ _ _ ∈ lw_g), rfl, .array .int, by decide +kernel, fun _ _ => ⟨rfl, rfl⟩, (fun _ h => by cases h)⟩
theorem bk_X3_init_89 : ck_ fX3 none cX3_init 89 [.aload 0, .aload 3] 91 = true := qck_r (by decide) (by decide +kernel)
theorem bs_X3_init_89 {P : Zt → Option Zv → Prop} (K : Int → Zl → List Zv → Zt → Prop) : sx_ K P [.aload 0, .aload 3] 91 = x_aload 0 (x_aload 3 (K 91)) := ((xe_aload 0).trans (congrArg (x_aload 0) ((xe_aload 3).trans (congrArg (x_aload 3) xe_nil))))
theorem fW_X3_48 : fW_ RX3 48 3 2 false := ⟨_, _, _, rfl, by decide, by decide, (lw_b4 187 (by decide +kernel) rfl : Cond.fieldLink RX3 48 _ _ _ ∈ lw_g), rfl, .array .int, by decide +kernel, fun _ _ => ⟨rfl, rfl⟩, (fun _ h => by cases h)⟩
theorem bk_X3_init_94 : ck_ fX3 none cX3_init 94 [.return_] 95 = true := qck_r (by decide) (by decide +kernel)
theorem bs_X3_init_94 {P : Zt → Option Zv → Prop} (K : Int → Zl → List Zv → Zt → Prop) : sx_ K P [.return_] 95 = x_return_ P := (xe_return_)
abbrev po_X3_init (T : Zt) (n : Int) (c : Int) : Zt → Option Zv → Prop := fun T' r => r = none ∧ fr_ [(153, []), (466, []), (467, []), (468, []), (469, []), (470, []), (471, []), (472, []), (473, []), (190, []), (191, [0])] T T' ∧ (oq_ T T' n ∧ (T' 153 n 0 = c + 1 ∧ T' 153 n 1 = n + 1 ∧ T' 153 n 2 = n + 1 ∧ T' 153 n 14 = T 191 0 0 + 1 ∧ T' 153 n 16 = T 191 0 0 + 2) ∧ (T' 153 n 6 = n + 1 ∧ T' 153 n 7 = n + 1 ∧ T' 153 n 8 = n + 1 ∧ T' 153 n 9 = n + 1 ∧ T' 153 n 10 = n + 1 ∧ T' 153 n 11 = n + 1 ∧ T' 153 n 12 = n + 1 ∧ T' 153 n 13 = n + 1) ∧ (T' 153 n 3 = T 153 n 3 ∧ T' 153 n 4 = T 153 n 4 ∧ T' 153 n 5 = T 153 n 5 ∧ T' 153 n 15 = T 153 n 15 ∧ T' 153 n 17 = T 153 n 17) ∧ T' 190 (T 191 0 0) (-2) = 32 ∧ T' 190 (T 191 0 0 + 1) (-2) = 16 ∧ T' 191 0 0 = T 191 0 0 + 2 ∧ ∀ x, x < T 191 0 0 → T' 190 x (-2) = T 190 x (-2))
set_option maxHeartbeats 4000000 in
theorem ct_X3_init {T : Zt} {n : Int} {c : Int} (h1 : 0 ≤ n ∧ n ≤ 399 ∧ 0 ≤ c ∧ c ≤ 3 ∧ 0 ≤ T 191 0 0 ∧ T 191 0 0 ≤ 1000000000) (hf : ∀ k : Nat, 460 ≤ k → k < 480 → ¬ T k n (-1) = 1) : Ct_ yX3_init zX3_init T [vR 153 n, vR 401 c, vR 448 n, vR 449 n] (po_X3_init T n c) := by
  refine ct_of (by decide) rfl rfl (Nat.le_of_ble_eq_true rfl) (fun hT hav => ?_)
  have hz : zX3_init.2.2.2.1 = some .boolean → ∀ (T' : Zt) (x : Int), po_X3_init T n c T' (some (vI x)) → 0 ≤ x ∧ x ≤ 1 := fun h => by cases h
  have hth : T 153 n (-1) = 1 := ok_al (v := none) (by decide) (hav (vR 153 n) (by simp))
  have hn0 : 0 ≤ n := h1.1
  have hn1 : -2147483648 ≤ n + 1 := by omega
  have hn2 : n + 1 ≤ 2147483647 := by omega
  have hc0 : 0 ≤ c := h1.2.2.1
  have hc1 : -2147483648 ≤ c + 1 := by omega
  have hc2 : c + 1 ≤ 2147483647 := by omega
  show J_ zX3_init T (po_X3_init T n c) 10 111 0 [some (vR 153 n), some (vR 401 c), some (vR 448 n), some (vR 449 n)] [] T
  refine j_blx (F := fX3) tb_X3 (by decide) bk_X3_init_0 bs_X3_init_0 hz (fun K hK => ?_)
  refine hK 1 [some (vR 153 n), some (vR 401 c), some (vR 448 n), some (vR 449 n)] [vR 153 n] T ?_
  refine j_objI (pc := 1) (lw_b4 184 (by decide +kernel) rfl : Cond.methodLink RX3 3 Lib.objectInit ∈ lw_g) (lw_b1 27 (by decide +kernel) rfl : Cond.instanceMethod Lib.objectInit ∈ lw_g) (lw_b1 28 (by decide +kernel) rfl : Cond.code Lib.objectInit ⟨#[0xb1]⟩ 1 none ∈ lw_g) (by decide +kernel) (by decide) (by decide) (by decide) (by decide) ?_
  show J_ zX3_init T (po_X3_init T n c) 10 111 4 [some (vR 153 n), some (vR 401 c), some (vR 448 n), some (vR 449 n)] [] T
  refine j_blx (F := fX3) tb_X3 (by decide) bk_X3_init_4 bs_X3_init_4 hz (fun K hK => ?_)
  refine hK 6 [some (vR 153 n), some (vR 401 c), some (vR 448 n), some (vR 449 n)] [vI 2, vR 153 n] T ?_
  refine j_newI (bc' := 9) (bs' := 109) (pc := 6) (k := 466) (i := n) (by decide) (by decide +kernel : ta_ 466 = some (1, some 2, (-2147483648), 2147483647)) (by decide) (by decide) (hf 466 (by decide) (by decide)) (by omega) (by first | decide | omega) (by decide +kernel) (lw_b1 72 (by decide +kernel) rfl : Cond.arrayClass .int ∈ lw_g) (fun o ho => by rw [show ow_ 466 = some 103 by decide] at ho; cases ho; exact Or.inr (show T 153 n (-1) = 1 from hth)) ?_
  refine j_nm (fun U1 hU1 => ?_)
  have fU1 := nu_fr hU1
  have zU1 := nu_tz hU1
  have oU1 := nu_to hU1
  have vU1 := nu_tv hU1
  show J_ zX3_init T (po_X3_init T n c) 9 109 8 [some (vR 153 n), some (vR 401 c), some (vR 448 n), some (vR 449 n)] [vR 466 n, vR 153 n] U1
  refine j_putW (pc := 8) (ci := 3) (j := 6) (z := n + 1) (by decide) (by decide) fW_X3_9 (by decide +kernel : (tf_ 153)[6]? = some (5, 466, (-2147483648), 2147483647)) (by decide) (by decide +kernel) (fv5_ (by first | exact hn0 | exact hn1 | exact hn2 | exact hc0 | exact hc1 | exact hc2 | omega)) rfl (by first | exact hn0 | exact hn1 | exact hn2 | exact hc0 | exact hc1 | exact hc2 | omega) (by first | exact hn0 | exact hn1 | exact hn2 | exact hc0 | exact hc1 | exact hc2 | omega) ?_
  refine j_nm (fun U2 hU2 => ?_)
  have e3 := up_f hU2
  show J_ zX3_init T (po_X3_init T n c) 9 109 11 [some (vR 153 n), some (vR 401 c), some (vR 448 n), some (vR 449 n)] [] U2
  refine j_blx (F := fX3) tb_X3 (by decide) bk_X3_init_11 bs_X3_init_11 hz (fun K hK => ?_)
  refine hK 13 [some (vR 153 n), some (vR 401 c), some (vR 448 n), some (vR 449 n)] [vI 2, vR 153 n] U2 ?_
  have e5 : U2 467 n (-1) = T 467 n (-1) := (up_k hU2 (by decide) n (-1)).trans (fU1 467 n (-1) rfl)
  have e6 : U2 153 n (-1) = T 153 n (-1) := (up_j hU2 (by decide) 153 n).trans (fU1 153 n (-1) rfl)
  refine j_newI (bc' := 8) (bs' := 107) (pc := 13) (k := 467) (i := n) (by decide) (by decide +kernel : ta_ 467 = some (1, some 2, (-2147483648), 2147483647)) (by decide) (by decide) (by show ¬ U2 467 n (-1) = 1; rw [e5]; exact hf 467 (by decide) (by decide)) (by omega) (by first | decide | omega) (by decide +kernel) (lw_b1 72 (by decide +kernel) rfl : Cond.arrayClass .int ∈ lw_g) (fun o ho => by rw [show ow_ 467 = some 103 by decide] at ho; cases ho; exact Or.inr (show U2 153 n (-1) = 1 from (e6).trans hth)) ?_
  refine j_nm (fun U4 hU4 => ?_)
  have fU4 := nu_fr hU4
  have zU4 := nu_tz hU4
  have oU4 := nu_to hU4
  have vU4 := nu_tv hU4
  show J_ zX3_init T (po_X3_init T n c) 8 107 15 [some (vR 153 n), some (vR 401 c), some (vR 448 n), some (vR 449 n)] [vR 467 n, vR 153 n] U4
  refine j_putW (pc := 15) (ci := 3) (j := 7) (z := n + 1) (by decide) (by decide) fW_X3_15 (by decide +kernel : (tf_ 153)[7]? = some (5, 467, (-2147483648), 2147483647)) (by decide) (by decide +kernel) (fv5_ (by first | exact hn0 | exact hn1 | exact hn2 | exact hc0 | exact hc1 | exact hc2 | omega)) rfl (by first | exact hn0 | exact hn1 | exact hn2 | exact hc0 | exact hc1 | exact hc2 | omega) (by first | exact hn0 | exact hn1 | exact hn2 | exact hc0 | exact hc1 | exact hc2 | omega) ?_
  refine j_nm (fun U7 hU7 => ?_)
  have e8 := up_f hU7
  show J_ zX3_init T (po_X3_init T n c) 8 107 18 [some (vR 153 n), some (vR 401 c), some (vR 448 n), some (vR 449 n)] [] U7
  refine j_blx (F := fX3) tb_X3 (by decide) bk_X3_init_18 bs_X3_init_18 hz (fun K hK => ?_)
  refine hK 20 [some (vR 153 n), some (vR 401 c), some (vR 448 n), some (vR 449 n)] [vI 2, vR 153 n] U7 ?_
  have e10 : U7 468 n (-1) = T 468 n (-1) := (up_k hU7 (by decide) n (-1)).trans ((fU4 468 n (-1) rfl).trans ((up_k hU2 (by decide) n (-1)).trans (fU1 468 n (-1) rfl)))
  have e11 : U7 153 n (-1) = T 153 n (-1) := (up_j hU7 (by decide) 153 n).trans ((fU4 153 n (-1) rfl).trans ((up_j hU2 (by decide) 153 n).trans (fU1 153 n (-1) rfl)))
  refine j_newI (bc' := 7) (bs' := 105) (pc := 20) (k := 468) (i := n) (by decide) (by decide +kernel : ta_ 468 = some (1, some 2, (-2147483648), 2147483647)) (by decide) (by decide) (by show ¬ U7 468 n (-1) = 1; rw [e10]; exact hf 468 (by decide) (by decide)) (by omega) (by first | decide | omega) (by decide +kernel) (lw_b1 72 (by decide +kernel) rfl : Cond.arrayClass .int ∈ lw_g) (fun o ho => by rw [show ow_ 468 = some 103 by decide] at ho; cases ho; exact Or.inr (show U7 153 n (-1) = 1 from (e11).trans hth)) ?_
  refine j_nm (fun U9 hU9 => ?_)
  have fU9 := nu_fr hU9
  have zU9 := nu_tz hU9
  have oU9 := nu_to hU9
  have vU9 := nu_tv hU9
  show J_ zX3_init T (po_X3_init T n c) 7 105 22 [some (vR 153 n), some (vR 401 c), some (vR 448 n), some (vR 449 n)] [vR 468 n, vR 153 n] U9
  refine j_putW (pc := 22) (ci := 3) (j := 8) (z := n + 1) (by decide) (by decide) fW_X3_18 (by decide +kernel : (tf_ 153)[8]? = some (5, 468, (-2147483648), 2147483647)) (by decide) (by decide +kernel) (fv5_ (by first | exact hn0 | exact hn1 | exact hn2 | exact hc0 | exact hc1 | exact hc2 | omega)) rfl (by first | exact hn0 | exact hn1 | exact hn2 | exact hc0 | exact hc1 | exact hc2 | omega) (by first | exact hn0 | exact hn1 | exact hn2 | exact hc0 | exact hc1 | exact hc2 | omega) ?_
  refine j_nm (fun U12 hU12 => ?_)
  have e13 := up_f hU12
  show J_ zX3_init T (po_X3_init T n c) 7 105 25 [some (vR 153 n), some (vR 401 c), some (vR 448 n), some (vR 449 n)] [] U12
  refine j_blx (F := fX3) tb_X3 (by decide) bk_X3_init_25 bs_X3_init_25 hz (fun K hK => ?_)
  refine hK 27 [some (vR 153 n), some (vR 401 c), some (vR 448 n), some (vR 449 n)] [vI 2, vR 153 n] U12 ?_
  have e15 : U12 469 n (-1) = T 469 n (-1) := (up_k hU12 (by decide) n (-1)).trans ((fU9 469 n (-1) rfl).trans ((up_k hU7 (by decide) n (-1)).trans ((fU4 469 n (-1) rfl).trans ((up_k hU2 (by decide) n (-1)).trans (fU1 469 n (-1) rfl)))))
  have e16 : U12 153 n (-1) = T 153 n (-1) := (up_j hU12 (by decide) 153 n).trans ((fU9 153 n (-1) rfl).trans ((up_j hU7 (by decide) 153 n).trans ((fU4 153 n (-1) rfl).trans ((up_j hU2 (by decide) 153 n).trans (fU1 153 n (-1) rfl)))))
  refine j_newI (bc' := 6) (bs' := 103) (pc := 27) (k := 469) (i := n) (by decide) (by decide +kernel : ta_ 469 = some (1, some 2, (-2147483648), 2147483647)) (by decide) (by decide) (by show ¬ U12 469 n (-1) = 1; rw [e15]; exact hf 469 (by decide) (by decide)) (by omega) (by first | decide | omega) (by decide +kernel) (lw_b1 72 (by decide +kernel) rfl : Cond.arrayClass .int ∈ lw_g) (fun o ho => by rw [show ow_ 469 = some 103 by decide] at ho; cases ho; exact Or.inr (show U12 153 n (-1) = 1 from (e16).trans hth)) ?_
  refine j_nm (fun U14 hU14 => ?_)
  have fU14 := nu_fr hU14
  have zU14 := nu_tz hU14
  have oU14 := nu_to hU14
  have vU14 := nu_tv hU14
  show J_ zX3_init T (po_X3_init T n c) 6 103 29 [some (vR 153 n), some (vR 401 c), some (vR 448 n), some (vR 449 n)] [vR 469 n, vR 153 n] U14
  refine j_putW (pc := 29) (ci := 3) (j := 9) (z := n + 1) (by decide) (by decide) fW_X3_21 (by decide +kernel : (tf_ 153)[9]? = some (5, 469, (-2147483648), 2147483647)) (by decide) (by decide +kernel) (fv5_ (by first | exact hn0 | exact hn1 | exact hn2 | exact hc0 | exact hc1 | exact hc2 | omega)) rfl (by first | exact hn0 | exact hn1 | exact hn2 | exact hc0 | exact hc1 | exact hc2 | omega) (by first | exact hn0 | exact hn1 | exact hn2 | exact hc0 | exact hc1 | exact hc2 | omega) ?_
  refine j_nm (fun U17 hU17 => ?_)
  have e18 := up_f hU17
  show J_ zX3_init T (po_X3_init T n c) 6 103 32 [some (vR 153 n), some (vR 401 c), some (vR 448 n), some (vR 449 n)] [] U17
  refine j_blx (F := fX3) tb_X3 (by decide) bk_X3_init_32 bs_X3_init_32 hz (fun K hK => ?_)
  refine hK 34 [some (vR 153 n), some (vR 401 c), some (vR 448 n), some (vR 449 n)] [vI 2, vR 153 n] U17 ?_
  have e20 : U17 470 n (-1) = T 470 n (-1) := (up_k hU17 (by decide) n (-1)).trans ((fU14 470 n (-1) rfl).trans ((up_k hU12 (by decide) n (-1)).trans ((fU9 470 n (-1) rfl).trans ((up_k hU7 (by decide) n (-1)).trans ((fU4 470 n (-1) rfl).trans ((up_k hU2 (by decide) n (-1)).trans (fU1 470 n (-1) rfl)))))))
  have e21 : U17 153 n (-1) = T 153 n (-1) := (up_j hU17 (by decide) 153 n).trans ((fU14 153 n (-1) rfl).trans ((up_j hU12 (by decide) 153 n).trans ((fU9 153 n (-1) rfl).trans ((up_j hU7 (by decide) 153 n).trans ((fU4 153 n (-1) rfl).trans ((up_j hU2 (by decide) 153 n).trans (fU1 153 n (-1) rfl)))))))
  refine j_newI (bc' := 5) (bs' := 101) (pc := 34) (k := 470) (i := n) (by decide) (by decide +kernel : ta_ 470 = some (1, some 2, 0, 6)) (by decide) (by decide) (by show ¬ U17 470 n (-1) = 1; rw [e20]; exact hf 470 (by decide) (by decide)) (by omega) (by first | decide | omega) (by decide +kernel) (lw_b1 72 (by decide +kernel) rfl : Cond.arrayClass .int ∈ lw_g) (fun o ho => by rw [show ow_ 470 = some 103 by decide] at ho; cases ho; exact Or.inr (show U17 153 n (-1) = 1 from (e21).trans hth)) ?_
  refine j_nm (fun U19 hU19 => ?_)
  have fU19 := nu_fr hU19
  have zU19 := nu_tz hU19
  have oU19 := nu_to hU19
  have vU19 := nu_tv hU19
  show J_ zX3_init T (po_X3_init T n c) 5 101 36 [some (vR 153 n), some (vR 401 c), some (vR 448 n), some (vR 449 n)] [vR 470 n, vR 153 n] U19
  refine j_putW (pc := 36) (ci := 3) (j := 10) (z := n + 1) (by decide) (by decide) fW_X3_24 (by decide +kernel : (tf_ 153)[10]? = some (5, 470, (-2147483648), 2147483647)) (by decide) (by decide +kernel) (fv5_ (by first | exact hn0 | exact hn1 | exact hn2 | exact hc0 | exact hc1 | exact hc2 | omega)) rfl (by first | exact hn0 | exact hn1 | exact hn2 | exact hc0 | exact hc1 | exact hc2 | omega) (by first | exact hn0 | exact hn1 | exact hn2 | exact hc0 | exact hc1 | exact hc2 | omega) ?_
  refine j_nm (fun U22 hU22 => ?_)
  have e23 := up_f hU22
  show J_ zX3_init T (po_X3_init T n c) 5 101 39 [some (vR 153 n), some (vR 401 c), some (vR 448 n), some (vR 449 n)] [] U22
  refine j_blx (F := fX3) tb_X3 (by decide) bk_X3_init_39 bs_X3_init_39 hz (fun K hK => ?_)
  refine hK 42 [some (vR 153 n), some (vR 401 c), some (vR 448 n), some (vR 449 n)] [vI 12, vR 153 n] U22 ?_
  have e25 : U22 471 n (-1) = T 471 n (-1) := (up_k hU22 (by decide) n (-1)).trans ((fU19 471 n (-1) rfl).trans ((up_k hU17 (by decide) n (-1)).trans ((fU14 471 n (-1) rfl).trans ((up_k hU12 (by decide) n (-1)).trans ((fU9 471 n (-1) rfl).trans ((up_k hU7 (by decide) n (-1)).trans ((fU4 471 n (-1) rfl).trans ((up_k hU2 (by decide) n (-1)).trans (fU1 471 n (-1) rfl)))))))))
  have e26 : U22 153 n (-1) = T 153 n (-1) := (up_j hU22 (by decide) 153 n).trans ((fU19 153 n (-1) rfl).trans ((up_j hU17 (by decide) 153 n).trans ((fU14 153 n (-1) rfl).trans ((up_j hU12 (by decide) 153 n).trans ((fU9 153 n (-1) rfl).trans ((up_j hU7 (by decide) 153 n).trans ((fU4 153 n (-1) rfl).trans ((up_j hU2 (by decide) 153 n).trans (fU1 153 n (-1) rfl)))))))))
  refine j_newI (bc' := 4) (bs' := 89) (pc := 42) (k := 471) (i := n) (by decide) (by decide +kernel : ta_ 471 = some (1, some 12, 0, 19)) (by decide) (by decide) (by show ¬ U22 471 n (-1) = 1; rw [e25]; exact hf 471 (by decide) (by decide)) (by omega) (by first | decide | omega) (by decide +kernel) (lw_b1 72 (by decide +kernel) rfl : Cond.arrayClass .int ∈ lw_g) (fun o ho => by rw [show ow_ 471 = some 103 by decide] at ho; cases ho; exact Or.inr (show U22 153 n (-1) = 1 from (e26).trans hth)) ?_
  refine j_nm (fun U24 hU24 => ?_)
  have fU24 := nu_fr hU24
  have zU24 := nu_tz hU24
  have oU24 := nu_to hU24
  have vU24 := nu_tv hU24
  show J_ zX3_init T (po_X3_init T n c) 4 89 44 [some (vR 153 n), some (vR 401 c), some (vR 448 n), some (vR 449 n)] [vR 471 n, vR 153 n] U24
  refine j_putW (pc := 44) (ci := 3) (j := 11) (z := n + 1) (by decide) (by decide) fW_X3_27 (by decide +kernel : (tf_ 153)[11]? = some (5, 471, (-2147483648), 2147483647)) (by decide) (by decide +kernel) (fv5_ (by first | exact hn0 | exact hn1 | exact hn2 | exact hc0 | exact hc1 | exact hc2 | omega)) rfl (by first | exact hn0 | exact hn1 | exact hn2 | exact hc0 | exact hc1 | exact hc2 | omega) (by first | exact hn0 | exact hn1 | exact hn2 | exact hc0 | exact hc1 | exact hc2 | omega) ?_
  refine j_nm (fun U27 hU27 => ?_)
  have e28 := up_f hU27
  show J_ zX3_init T (po_X3_init T n c) 4 89 47 [some (vR 153 n), some (vR 401 c), some (vR 448 n), some (vR 449 n)] [] U27
  refine j_blx (F := fX3) tb_X3 (by decide) bk_X3_init_47 bs_X3_init_47 hz (fun K hK => ?_)
  refine hK 50 [some (vR 153 n), some (vR 401 c), some (vR 448 n), some (vR 449 n)] [vI 20, vR 153 n] U27 ?_
  have e30 : U27 472 n (-1) = T 472 n (-1) := (up_k hU27 (by decide) n (-1)).trans ((fU24 472 n (-1) rfl).trans ((up_k hU22 (by decide) n (-1)).trans ((fU19 472 n (-1) rfl).trans ((up_k hU17 (by decide) n (-1)).trans ((fU14 472 n (-1) rfl).trans ((up_k hU12 (by decide) n (-1)).trans ((fU9 472 n (-1) rfl).trans ((up_k hU7 (by decide) n (-1)).trans ((fU4 472 n (-1) rfl).trans ((up_k hU2 (by decide) n (-1)).trans (fU1 472 n (-1) rfl)))))))))))
  have e31 : U27 153 n (-1) = T 153 n (-1) := (up_j hU27 (by decide) 153 n).trans ((fU24 153 n (-1) rfl).trans ((up_j hU22 (by decide) 153 n).trans ((fU19 153 n (-1) rfl).trans ((up_j hU17 (by decide) 153 n).trans ((fU14 153 n (-1) rfl).trans ((up_j hU12 (by decide) 153 n).trans ((fU9 153 n (-1) rfl).trans ((up_j hU7 (by decide) 153 n).trans ((fU4 153 n (-1) rfl).trans ((up_j hU2 (by decide) 153 n).trans (fU1 153 n (-1) rfl)))))))))))
  refine j_newI (bc' := 3) (bs' := 69) (pc := 50) (k := 472) (i := n) (by decide) (by decide +kernel : ta_ 472 = some (1, some 20, 0, 3)) (by decide) (by decide) (by show ¬ U27 472 n (-1) = 1; rw [e30]; exact hf 472 (by decide) (by decide)) (by omega) (by first | decide | omega) (by decide +kernel) (lw_b1 72 (by decide +kernel) rfl : Cond.arrayClass .int ∈ lw_g) (fun o ho => by rw [show ow_ 472 = some 103 by decide] at ho; cases ho; exact Or.inr (show U27 153 n (-1) = 1 from (e31).trans hth)) ?_
  refine j_nm (fun U29 hU29 => ?_)
  have fU29 := nu_fr hU29
  have zU29 := nu_tz hU29
  have oU29 := nu_to hU29
  have vU29 := nu_tv hU29
  show J_ zX3_init T (po_X3_init T n c) 3 69 52 [some (vR 153 n), some (vR 401 c), some (vR 448 n), some (vR 449 n)] [vR 472 n, vR 153 n] U29
  refine j_putW (pc := 52) (ci := 3) (j := 12) (z := n + 1) (by decide) (by decide) fW_X3_30 (by decide +kernel : (tf_ 153)[12]? = some (5, 472, (-2147483648), 2147483647)) (by decide) (by decide +kernel) (fv5_ (by first | exact hn0 | exact hn1 | exact hn2 | exact hc0 | exact hc1 | exact hc2 | omega)) rfl (by first | exact hn0 | exact hn1 | exact hn2 | exact hc0 | exact hc1 | exact hc2 | omega) (by first | exact hn0 | exact hn1 | exact hn2 | exact hc0 | exact hc1 | exact hc2 | omega) ?_
  refine j_nm (fun U32 hU32 => ?_)
  have e33 := up_f hU32
  show J_ zX3_init T (po_X3_init T n c) 3 69 55 [some (vR 153 n), some (vR 401 c), some (vR 448 n), some (vR 449 n)] [] U32
  refine j_blx (F := fX3) tb_X3 (by decide) bk_X3_init_55 bs_X3_init_55 hz (fun K hK => ?_)
  refine hK 58 [some (vR 153 n), some (vR 401 c), some (vR 448 n), some (vR 449 n)] [vI 20, vR 153 n] U32 ?_
  have e35 : U32 473 n (-1) = T 473 n (-1) := (up_k hU32 (by decide) n (-1)).trans ((fU29 473 n (-1) rfl).trans ((up_k hU27 (by decide) n (-1)).trans ((fU24 473 n (-1) rfl).trans ((up_k hU22 (by decide) n (-1)).trans ((fU19 473 n (-1) rfl).trans ((up_k hU17 (by decide) n (-1)).trans ((fU14 473 n (-1) rfl).trans ((up_k hU12 (by decide) n (-1)).trans ((fU9 473 n (-1) rfl).trans ((up_k hU7 (by decide) n (-1)).trans ((fU4 473 n (-1) rfl).trans ((up_k hU2 (by decide) n (-1)).trans (fU1 473 n (-1) rfl)))))))))))))
  have e36 : U32 153 n (-1) = T 153 n (-1) := (up_j hU32 (by decide) 153 n).trans ((fU29 153 n (-1) rfl).trans ((up_j hU27 (by decide) 153 n).trans ((fU24 153 n (-1) rfl).trans ((up_j hU22 (by decide) 153 n).trans ((fU19 153 n (-1) rfl).trans ((up_j hU17 (by decide) 153 n).trans ((fU14 153 n (-1) rfl).trans ((up_j hU12 (by decide) 153 n).trans ((fU9 153 n (-1) rfl).trans ((up_j hU7 (by decide) 153 n).trans ((fU4 153 n (-1) rfl).trans ((up_j hU2 (by decide) 153 n).trans (fU1 153 n (-1) rfl)))))))))))))
  refine j_newI (bc' := 2) (bs' := 49) (pc := 58) (k := 473) (i := n) (by decide) (by decide +kernel : ta_ 473 = some (1, some 20, (-2147483648), 2147483647)) (by decide) (by decide) (by show ¬ U32 473 n (-1) = 1; rw [e35]; exact hf 473 (by decide) (by decide)) (by omega) (by first | decide | omega) (by decide +kernel) (lw_b1 72 (by decide +kernel) rfl : Cond.arrayClass .int ∈ lw_g) (fun o ho => by rw [show ow_ 473 = some 103 by decide] at ho; cases ho; exact Or.inr (show U32 153 n (-1) = 1 from (e36).trans hth)) ?_
  refine j_nm (fun U34 hU34 => ?_)
  have fU34 := nu_fr hU34
  have zU34 := nu_tz hU34
  have oU34 := nu_to hU34
  have vU34 := nu_tv hU34
  show J_ zX3_init T (po_X3_init T n c) 2 49 60 [some (vR 153 n), some (vR 401 c), some (vR 448 n), some (vR 449 n)] [vR 473 n, vR 153 n] U34
  refine j_putW (pc := 60) (ci := 3) (j := 13) (z := n + 1) (by decide) (by decide) fW_X3_33 (by decide +kernel : (tf_ 153)[13]? = some (5, 473, (-2147483648), 2147483647)) (by decide) (by decide +kernel) (fv5_ (by first | exact hn0 | exact hn1 | exact hn2 | exact hc0 | exact hc1 | exact hc2 | omega)) rfl (by first | exact hn0 | exact hn1 | exact hn2 | exact hc0 | exact hc1 | exact hc2 | omega) (by first | exact hn0 | exact hn1 | exact hn2 | exact hc0 | exact hc1 | exact hc2 | omega) ?_
  refine j_nm (fun U37 hU37 => ?_)
  have e38 := up_f hU37
  show J_ zX3_init T (po_X3_init T n c) 2 49 63 [some (vR 153 n), some (vR 401 c), some (vR 448 n), some (vR 449 n)] [] U37
  refine j_blx (F := fX3) tb_X3 (by decide) bk_X3_init_63 bs_X3_init_63 hz (fun K hK => ?_)
  refine hK 66 [some (vR 153 n), some (vR 401 c), some (vR 448 n), some (vR 449 n)] [vI 32, vR 153 n] U37 ?_
  have e40 : U37 191 0 0 = T 191 0 0 := (up_k hU37 (by decide) 0 0).trans ((fU34 191 0 0 rfl).trans ((up_k hU32 (by decide) 0 0).trans ((fU29 191 0 0 rfl).trans ((up_k hU27 (by decide) 0 0).trans ((fU24 191 0 0 rfl).trans ((up_k hU22 (by decide) 0 0).trans ((fU19 191 0 0 rfl).trans ((up_k hU17 (by decide) 0 0).trans ((fU14 191 0 0 rfl).trans ((up_k hU12 (by decide) 0 0).trans ((fU9 191 0 0 rfl).trans ((up_k hU7 (by decide) 0 0).trans ((fU4 191 0 0 rfl).trans ((up_k hU2 (by decide) 0 0).trans (fU1 191 0 0 rfl)))))))))))))))
  refine j_newL (bc' := 1) (bs' := 17) (pc := 66) (by decide) (by omega) (by omega) (by omega) (by decide +kernel) (lw_b1 72 (by decide +kernel) rfl : Cond.arrayClass .int ∈ lw_g) ?_
  refine j_nm (fun U39 hU39 => ?_)
  have fU39 := nv_fr hU39
  have aU39 := nv_t9 hU39
  have lU39 := nv_tl hU39
  have oU39 := nv_to hU39
  show J_ zX3_init T (po_X3_init T n c) 1 17 68 [some (vR 153 n), some (vR 401 c), some (vR 448 n), some (vR 449 n)] [vR 190 (U37 191 0 0), vR 153 n] U39
  refine j_putW (pc := 68) (ci := 3) (j := 14) (z := (U37 191 0 0) + 1) (by decide) (by decide) fW_X3_36 (by decide +kernel : (tf_ 153)[14]? = some (5, 190, (-2147483648), 2147483647)) (by decide) (by decide +kernel) (fv5_ (by first | exact hn0 | exact hn1 | exact hn2 | exact hc0 | exact hc1 | exact hc2 | omega)) rfl (by first | exact hn0 | exact hn1 | exact hn2 | exact hc0 | exact hc1 | exact hc2 | omega) (by first | exact hn0 | exact hn1 | exact hn2 | exact hc0 | exact hc1 | exact hc2 | omega) ?_
  refine j_nm (fun U41 hU41 => ?_)
  have e42 := up_f hU41
  show J_ zX3_init T (po_X3_init T n c) 1 17 71 [some (vR 153 n), some (vR 401 c), some (vR 448 n), some (vR 449 n)] [] U41
  refine j_blx (F := fX3) tb_X3 (by decide) bk_X3_init_71 bs_X3_init_71 hz (fun K hK => ?_)
  refine hK 74 [some (vR 153 n), some (vR 401 c), some (vR 448 n), some (vR 449 n)] [vI 16, vR 153 n] U41 ?_
  have e44 : U41 191 0 0 = U39 191 0 0 := up_k hU41 (by decide) 0 0
  refine j_newL (bc' := 0) (bs' := 1) (pc := 74) (by decide) (by omega) (by omega) (by omega) (by decide +kernel) (lw_b1 72 (by decide +kernel) rfl : Cond.arrayClass .int ∈ lw_g) ?_
  refine j_nm (fun U43 hU43 => ?_)
  have fU43 := nv_fr hU43
  have aU43 := nv_t9 hU43
  have lU43 := nv_tl hU43
  have oU43 := nv_to hU43
  show J_ zX3_init T (po_X3_init T n c) 0 1 76 [some (vR 153 n), some (vR 401 c), some (vR 448 n), some (vR 449 n)] [vR 190 (U41 191 0 0), vR 153 n] U43
  refine j_putW (pc := 76) (ci := 3) (j := 16) (z := (U41 191 0 0) + 1) (by decide) (by decide) fW_X3_39 (by decide +kernel : (tf_ 153)[16]? = some (5, 190, (-2147483648), 2147483647)) (by decide) (by decide +kernel) (fv5_ (by first | exact hn0 | exact hn1 | exact hn2 | exact hc0 | exact hc1 | exact hc2 | omega)) rfl (by first | exact hn0 | exact hn1 | exact hn2 | exact hc0 | exact hc1 | exact hc2 | omega) (by first | exact hn0 | exact hn1 | exact hn2 | exact hc0 | exact hc1 | exact hc2 | omega) ?_
  refine j_nm (fun U45 hU45 => ?_)
  have e46 := up_f hU45
  show J_ zX3_init T (po_X3_init T n c) 0 1 79 [some (vR 153 n), some (vR 401 c), some (vR 448 n), some (vR 449 n)] [] U45
  refine j_blx (F := fX3) tb_X3 (by decide) bk_X3_init_79 bs_X3_init_79 hz (fun K hK => ?_)
  refine hK 81 [some (vR 153 n), some (vR 401 c), some (vR 448 n), some (vR 449 n)] [vR 401 c, vR 153 n] U45 ?_
  refine j_putW (pc := 81) (ci := 3) (j := 0) (z := c + 1) (by decide) (by decide) fW_X3_42 (by decide +kernel : (tf_ 153)[0]? = some (5, 401, (-2147483648), 2147483647)) (by decide) (by decide +kernel) (fv5_ (by first | exact hn0 | exact hn1 | exact hn2 | exact hc0 | exact hc1 | exact hc2 | omega)) rfl (by first | exact hn0 | exact hn1 | exact hn2 | exact hc0 | exact hc1 | exact hc2 | omega) (by first | exact hn0 | exact hn1 | exact hn2 | exact hc0 | exact hc1 | exact hc2 | omega) ?_
  refine j_nm (fun U47 hU47 => ?_)
  have e48 := up_f hU47
  show J_ zX3_init T (po_X3_init T n c) 0 1 84 [some (vR 153 n), some (vR 401 c), some (vR 448 n), some (vR 449 n)] [] U47
  refine j_blx (F := fX3) tb_X3 (by decide) bk_X3_init_84 bs_X3_init_84 hz (fun K hK => ?_)
  refine hK 86 [some (vR 153 n), some (vR 401 c), some (vR 448 n), some (vR 449 n)] [vR 448 n, vR 153 n] U47 ?_
  refine j_putW (pc := 86) (ci := 3) (j := 1) (z := n + 1) (by decide) (by decide) fW_X3_45 (by decide +kernel : (tf_ 153)[1]? = some (5, 448, (-2147483648), 2147483647)) (by decide) (by decide +kernel) (fv5_ (by first | exact hn0 | exact hn1 | exact hn2 | exact hc0 | exact hc1 | exact hc2 | omega)) rfl (by first | exact hn0 | exact hn1 | exact hn2 | exact hc0 | exact hc1 | exact hc2 | omega) (by first | exact hn0 | exact hn1 | exact hn2 | exact hc0 | exact hc1 | exact hc2 | omega) ?_
  refine j_nm (fun U49 hU49 => ?_)
  have e50 := up_f hU49
  show J_ zX3_init T (po_X3_init T n c) 0 1 89 [some (vR 153 n), some (vR 401 c), some (vR 448 n), some (vR 449 n)] [] U49
  refine j_blx (F := fX3) tb_X3 (by decide) bk_X3_init_89 bs_X3_init_89 hz (fun K hK => ?_)
  refine hK 91 [some (vR 153 n), some (vR 401 c), some (vR 448 n), some (vR 449 n)] [vR 449 n, vR 153 n] U49 ?_
  refine j_putW (pc := 91) (ci := 3) (j := 2) (z := n + 1) (by decide) (by decide) fW_X3_48 (by decide +kernel : (tf_ 153)[2]? = some (5, 449, (-2147483648), 2147483647)) (by decide) (by decide +kernel) (fv5_ (by first | exact hn0 | exact hn1 | exact hn2 | exact hc0 | exact hc1 | exact hc2 | omega)) rfl (by first | exact hn0 | exact hn1 | exact hn2 | exact hc0 | exact hc1 | exact hc2 | omega) (by first | exact hn0 | exact hn1 | exact hn2 | exact hc0 | exact hc1 | exact hc2 | omega) ?_
  refine j_nm (fun U51 hU51 => ?_)
  have e52 := up_f hU51
  show J_ zX3_init T (po_X3_init T n c) 0 1 94 [some (vR 153 n), some (vR 401 c), some (vR 448 n), some (vR 449 n)] [] U51
  refine j_blx (F := fX3) tb_X3 (by decide) bk_X3_init_94 bs_X3_init_94 hz (fun K hK => ?_)
  refine (show po_X3_init T n c U51 (none) from ?_)
  have e53 : U51 191 0 0 = U43 191 0 0 := (up_k hU51 (by decide) 0 0).trans ((up_k hU49 (by decide) 0 0).trans ((up_k hU47 (by decide) 0 0).trans (up_k hU45 (by decide) 0 0)))
  have e54 : U51 153 n 0 = c + 1 := (up_j hU51 (by decide) 153 n).trans ((up_j hU49 (by decide) 153 n).trans (up_f hU47))
  have e55 : U51 153 n 1 = n + 1 := (up_j hU51 (by decide) 153 n).trans (up_f hU49)
  have e56 : U51 153 n 2 = n + 1 := up_f hU51
  have e57 : U51 153 n 3 = T 153 n 3 := (up_j hU51 (by decide) 153 n).trans ((up_j hU49 (by decide) 153 n).trans ((up_j hU47 (by decide) 153 n).trans ((up_j hU45 (by decide) 153 n).trans ((fU43 153 n 3 rfl).trans ((up_j hU41 (by decide) 153 n).trans ((fU39 153 n 3 rfl).trans ((up_j hU37 (by decide) 153 n).trans ((fU34 153 n 3 rfl).trans ((up_j hU32 (by decide) 153 n).trans ((fU29 153 n 3 rfl).trans ((up_j hU27 (by decide) 153 n).trans ((fU24 153 n 3 rfl).trans ((up_j hU22 (by decide) 153 n).trans ((fU19 153 n 3 rfl).trans ((up_j hU17 (by decide) 153 n).trans ((fU14 153 n 3 rfl).trans ((up_j hU12 (by decide) 153 n).trans ((fU9 153 n 3 rfl).trans ((up_j hU7 (by decide) 153 n).trans ((fU4 153 n 3 rfl).trans ((up_j hU2 (by decide) 153 n).trans (fU1 153 n 3 rfl))))))))))))))))))))))
  have e58 : U51 153 n 4 = T 153 n 4 := (up_j hU51 (by decide) 153 n).trans ((up_j hU49 (by decide) 153 n).trans ((up_j hU47 (by decide) 153 n).trans ((up_j hU45 (by decide) 153 n).trans ((fU43 153 n 4 rfl).trans ((up_j hU41 (by decide) 153 n).trans ((fU39 153 n 4 rfl).trans ((up_j hU37 (by decide) 153 n).trans ((fU34 153 n 4 rfl).trans ((up_j hU32 (by decide) 153 n).trans ((fU29 153 n 4 rfl).trans ((up_j hU27 (by decide) 153 n).trans ((fU24 153 n 4 rfl).trans ((up_j hU22 (by decide) 153 n).trans ((fU19 153 n 4 rfl).trans ((up_j hU17 (by decide) 153 n).trans ((fU14 153 n 4 rfl).trans ((up_j hU12 (by decide) 153 n).trans ((fU9 153 n 4 rfl).trans ((up_j hU7 (by decide) 153 n).trans ((fU4 153 n 4 rfl).trans ((up_j hU2 (by decide) 153 n).trans (fU1 153 n 4 rfl))))))))))))))))))))))
  have e59 : U51 153 n 5 = T 153 n 5 := (up_j hU51 (by decide) 153 n).trans ((up_j hU49 (by decide) 153 n).trans ((up_j hU47 (by decide) 153 n).trans ((up_j hU45 (by decide) 153 n).trans ((fU43 153 n 5 rfl).trans ((up_j hU41 (by decide) 153 n).trans ((fU39 153 n 5 rfl).trans ((up_j hU37 (by decide) 153 n).trans ((fU34 153 n 5 rfl).trans ((up_j hU32 (by decide) 153 n).trans ((fU29 153 n 5 rfl).trans ((up_j hU27 (by decide) 153 n).trans ((fU24 153 n 5 rfl).trans ((up_j hU22 (by decide) 153 n).trans ((fU19 153 n 5 rfl).trans ((up_j hU17 (by decide) 153 n).trans ((fU14 153 n 5 rfl).trans ((up_j hU12 (by decide) 153 n).trans ((fU9 153 n 5 rfl).trans ((up_j hU7 (by decide) 153 n).trans ((fU4 153 n 5 rfl).trans ((up_j hU2 (by decide) 153 n).trans (fU1 153 n 5 rfl))))))))))))))))))))))
  have e60 : U51 153 n 6 = n + 1 := (up_j hU51 (by decide) 153 n).trans ((up_j hU49 (by decide) 153 n).trans ((up_j hU47 (by decide) 153 n).trans ((up_j hU45 (by decide) 153 n).trans ((fU43 153 n 6 rfl).trans ((up_j hU41 (by decide) 153 n).trans ((fU39 153 n 6 rfl).trans ((up_j hU37 (by decide) 153 n).trans ((fU34 153 n 6 rfl).trans ((up_j hU32 (by decide) 153 n).trans ((fU29 153 n 6 rfl).trans ((up_j hU27 (by decide) 153 n).trans ((fU24 153 n 6 rfl).trans ((up_j hU22 (by decide) 153 n).trans ((fU19 153 n 6 rfl).trans ((up_j hU17 (by decide) 153 n).trans ((fU14 153 n 6 rfl).trans ((up_j hU12 (by decide) 153 n).trans ((fU9 153 n 6 rfl).trans ((up_j hU7 (by decide) 153 n).trans ((fU4 153 n 6 rfl).trans (up_f hU2)))))))))))))))))))))
  have e61 : U51 153 n 7 = n + 1 := (up_j hU51 (by decide) 153 n).trans ((up_j hU49 (by decide) 153 n).trans ((up_j hU47 (by decide) 153 n).trans ((up_j hU45 (by decide) 153 n).trans ((fU43 153 n 7 rfl).trans ((up_j hU41 (by decide) 153 n).trans ((fU39 153 n 7 rfl).trans ((up_j hU37 (by decide) 153 n).trans ((fU34 153 n 7 rfl).trans ((up_j hU32 (by decide) 153 n).trans ((fU29 153 n 7 rfl).trans ((up_j hU27 (by decide) 153 n).trans ((fU24 153 n 7 rfl).trans ((up_j hU22 (by decide) 153 n).trans ((fU19 153 n 7 rfl).trans ((up_j hU17 (by decide) 153 n).trans ((fU14 153 n 7 rfl).trans ((up_j hU12 (by decide) 153 n).trans ((fU9 153 n 7 rfl).trans (up_f hU7)))))))))))))))))))
  have e62 : U51 153 n 8 = n + 1 := (up_j hU51 (by decide) 153 n).trans ((up_j hU49 (by decide) 153 n).trans ((up_j hU47 (by decide) 153 n).trans ((up_j hU45 (by decide) 153 n).trans ((fU43 153 n 8 rfl).trans ((up_j hU41 (by decide) 153 n).trans ((fU39 153 n 8 rfl).trans ((up_j hU37 (by decide) 153 n).trans ((fU34 153 n 8 rfl).trans ((up_j hU32 (by decide) 153 n).trans ((fU29 153 n 8 rfl).trans ((up_j hU27 (by decide) 153 n).trans ((fU24 153 n 8 rfl).trans ((up_j hU22 (by decide) 153 n).trans ((fU19 153 n 8 rfl).trans ((up_j hU17 (by decide) 153 n).trans ((fU14 153 n 8 rfl).trans (up_f hU12)))))))))))))))))
  have e63 : U51 153 n 9 = n + 1 := (up_j hU51 (by decide) 153 n).trans ((up_j hU49 (by decide) 153 n).trans ((up_j hU47 (by decide) 153 n).trans ((up_j hU45 (by decide) 153 n).trans ((fU43 153 n 9 rfl).trans ((up_j hU41 (by decide) 153 n).trans ((fU39 153 n 9 rfl).trans ((up_j hU37 (by decide) 153 n).trans ((fU34 153 n 9 rfl).trans ((up_j hU32 (by decide) 153 n).trans ((fU29 153 n 9 rfl).trans ((up_j hU27 (by decide) 153 n).trans ((fU24 153 n 9 rfl).trans ((up_j hU22 (by decide) 153 n).trans ((fU19 153 n 9 rfl).trans (up_f hU17)))))))))))))))
  have e64 : U51 153 n 10 = n + 1 := (up_j hU51 (by decide) 153 n).trans ((up_j hU49 (by decide) 153 n).trans ((up_j hU47 (by decide) 153 n).trans ((up_j hU45 (by decide) 153 n).trans ((fU43 153 n 10 rfl).trans ((up_j hU41 (by decide) 153 n).trans ((fU39 153 n 10 rfl).trans ((up_j hU37 (by decide) 153 n).trans ((fU34 153 n 10 rfl).trans ((up_j hU32 (by decide) 153 n).trans ((fU29 153 n 10 rfl).trans ((up_j hU27 (by decide) 153 n).trans ((fU24 153 n 10 rfl).trans (up_f hU22)))))))))))))
  have e65 : U51 153 n 11 = n + 1 := (up_j hU51 (by decide) 153 n).trans ((up_j hU49 (by decide) 153 n).trans ((up_j hU47 (by decide) 153 n).trans ((up_j hU45 (by decide) 153 n).trans ((fU43 153 n 11 rfl).trans ((up_j hU41 (by decide) 153 n).trans ((fU39 153 n 11 rfl).trans ((up_j hU37 (by decide) 153 n).trans ((fU34 153 n 11 rfl).trans ((up_j hU32 (by decide) 153 n).trans ((fU29 153 n 11 rfl).trans (up_f hU27)))))))))))
  have e66 : U51 153 n 12 = n + 1 := (up_j hU51 (by decide) 153 n).trans ((up_j hU49 (by decide) 153 n).trans ((up_j hU47 (by decide) 153 n).trans ((up_j hU45 (by decide) 153 n).trans ((fU43 153 n 12 rfl).trans ((up_j hU41 (by decide) 153 n).trans ((fU39 153 n 12 rfl).trans ((up_j hU37 (by decide) 153 n).trans ((fU34 153 n 12 rfl).trans (up_f hU32)))))))))
  have e67 : U51 153 n 13 = n + 1 := (up_j hU51 (by decide) 153 n).trans ((up_j hU49 (by decide) 153 n).trans ((up_j hU47 (by decide) 153 n).trans ((up_j hU45 (by decide) 153 n).trans ((fU43 153 n 13 rfl).trans ((up_j hU41 (by decide) 153 n).trans ((fU39 153 n 13 rfl).trans (up_f hU37)))))))
  have e68 : U51 153 n 14 = (U37 191 0 0) + 1 := (up_j hU51 (by decide) 153 n).trans ((up_j hU49 (by decide) 153 n).trans ((up_j hU47 (by decide) 153 n).trans ((up_j hU45 (by decide) 153 n).trans ((fU43 153 n 14 rfl).trans (up_f hU41)))))
  have e69 : U51 153 n 15 = T 153 n 15 := (up_j hU51 (by decide) 153 n).trans ((up_j hU49 (by decide) 153 n).trans ((up_j hU47 (by decide) 153 n).trans ((up_j hU45 (by decide) 153 n).trans ((fU43 153 n 15 rfl).trans ((up_j hU41 (by decide) 153 n).trans ((fU39 153 n 15 rfl).trans ((up_j hU37 (by decide) 153 n).trans ((fU34 153 n 15 rfl).trans ((up_j hU32 (by decide) 153 n).trans ((fU29 153 n 15 rfl).trans ((up_j hU27 (by decide) 153 n).trans ((fU24 153 n 15 rfl).trans ((up_j hU22 (by decide) 153 n).trans ((fU19 153 n 15 rfl).trans ((up_j hU17 (by decide) 153 n).trans ((fU14 153 n 15 rfl).trans ((up_j hU12 (by decide) 153 n).trans ((fU9 153 n 15 rfl).trans ((up_j hU7 (by decide) 153 n).trans ((fU4 153 n 15 rfl).trans ((up_j hU2 (by decide) 153 n).trans (fU1 153 n 15 rfl))))))))))))))))))))))
  have e70 : U51 153 n 16 = (U41 191 0 0) + 1 := (up_j hU51 (by decide) 153 n).trans ((up_j hU49 (by decide) 153 n).trans ((up_j hU47 (by decide) 153 n).trans (up_f hU45)))
  have e71 : U51 153 n 17 = T 153 n 17 := (up_j hU51 (by decide) 153 n).trans ((up_j hU49 (by decide) 153 n).trans ((up_j hU47 (by decide) 153 n).trans ((up_j hU45 (by decide) 153 n).trans ((fU43 153 n 17 rfl).trans ((up_j hU41 (by decide) 153 n).trans ((fU39 153 n 17 rfl).trans ((up_j hU37 (by decide) 153 n).trans ((fU34 153 n 17 rfl).trans ((up_j hU32 (by decide) 153 n).trans ((fU29 153 n 17 rfl).trans ((up_j hU27 (by decide) 153 n).trans ((fU24 153 n 17 rfl).trans ((up_j hU22 (by decide) 153 n).trans ((fU19 153 n 17 rfl).trans ((up_j hU17 (by decide) 153 n).trans ((fU14 153 n 17 rfl).trans ((up_j hU12 (by decide) 153 n).trans ((fU9 153 n 17 rfl).trans ((up_j hU7 (by decide) 153 n).trans ((fU4 153 n 17 rfl).trans ((up_j hU2 (by decide) 153 n).trans (fU1 153 n 17 rfl))))))))))))))))))))))
  have e72 : U51 191 0 0 = U43 191 0 0 := (up_k hU51 (by decide) 0 0).trans ((up_k hU49 (by decide) 0 0).trans ((up_k hU47 (by decide) 0 0).trans (up_k hU45 (by decide) 0 0)))
  have e73 : U41 191 0 0 = U39 191 0 0 := up_k hU41 (by decide) 0 0
  have d1 : U51 190 (T 191 0 0) (-2) = 32 := by have y2 := lU39; rw [show U37 191 0 0 = T 191 0 0 by omega] at y2; exact ((up_k hU51 (by decide) _ _).trans ((up_k hU49 (by decide) _ _).trans ((up_k hU47 (by decide) _ _).trans ((up_k hU45 (by decide) _ _).trans ((oU43 _ _ (by omega)).trans (up_k hU41 (by decide) _ _)))))).trans y2
  have d2 : U51 190 (T 191 0 0 + 1) (-2) = 16 := by have y2 := lU43; rw [show U41 191 0 0 = T 191 0 0 + 1 by omega] at y2; exact ((up_k hU51 (by decide) _ _).trans ((up_k hU49 (by decide) _ _).trans ((up_k hU47 (by decide) _ _).trans (up_k hU45 (by decide) _ _)))).trans y2
  have d3 : ∀ x, x < T 191 0 0 → U51 190 x (-2) = T 190 x (-2) := fun x hx => (up_k hU51 (by decide) _ _).trans ((up_k hU49 (by decide) _ _).trans ((up_k hU47 (by decide) _ _).trans ((up_k hU45 (by decide) _ _).trans ((oU43 _ _ (by omega)).trans ((up_k hU41 (by decide) _ _).trans ((oU39 _ _ (by omega)).trans ((up_k hU37 (by decide) _ _).trans ((fU34 190 _ _ rfl).trans ((up_k hU32 (by decide) _ _).trans ((fU29 190 _ _ rfl).trans ((up_k hU27 (by decide) _ _).trans ((fU24 190 _ _ rfl).trans ((up_k hU22 (by decide) _ _).trans ((fU19 190 _ _ rfl).trans ((up_k hU17 (by decide) _ _).trans ((fU14 190 _ _ rfl).trans ((up_k hU12 (by decide) _ _).trans ((fU9 190 _ _ rfl).trans ((up_k hU7 (by decide) _ _).trans ((fU4 190 _ _ rfl).trans ((up_k hU2 (by decide) _ _).trans (fU1 190 _ _ rfl))))))))))))))))))))))
  exact ⟨rfl, fr_u (fr_u (fr_u (fr_u (fr_t (fr_u (fr_t (fr_u (fr_t (fr_u (fr_t (fr_u (fr_t (fr_u (fr_t (fr_u (fr_t (fr_u (fr_t (fr_u (fr_t (fr_u (fr_t (fr_0 _ _) (fr_s fU1 rfl)) hU2 rfl) (fr_s fU4 rfl)) hU7 rfl) (fr_s fU9 rfl)) hU12 rfl) (fr_s fU14 rfl)) hU17 rfl) (fr_s fU19 rfl)) hU22 rfl) (fr_s fU24 rfl)) hU27 rfl) (fr_s fU29 rfl)) hU32 rfl) (fr_s fU34 rfl)) hU37 rfl) (fr_s fU39 rfl)) hU41 rfl) (fr_s fU43 rfl)) hU45 rfl) hU47 rfl) hU49 rfl) hU51 rfl, oq_u (oq_u (oq_u (oq_u (oq_9 (oq_u (oq_9 (oq_u (oq_n (oq_u (oq_n (oq_u (oq_n (oq_u (oq_n (oq_u (oq_n (oq_u (oq_n (oq_u (oq_n (oq_u (oq_n (oq_r) oU1) hU2) oU4) hU7) oU9) hU12) oU14) hU17) oU19) hU22) oU24) hU27) oU29) hU32) oU34) hU37) fU39) hU41) fU43) hU45) hU47) hU49) hU51, ⟨e54, e55, e56, by omega, by omega⟩, ⟨e60, e61, e62, e63, e64, e65, e66, e67⟩, ⟨e57, e58, e59, e69, e71⟩, d1, d2, by omega, d3⟩

