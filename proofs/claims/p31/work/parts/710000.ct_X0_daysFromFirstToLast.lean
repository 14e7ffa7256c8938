theorem mlb {a b A B : Int} (h : 0 ≤ a ∧ a ≤ A) (g : 0 ≤ b ∧ b ≤ B) : 0 ≤ a * b ∧ a * b ≤ A * B := ⟨Int.mul_nonneg h.1 g.1, Int.mul_le_mul h.2 g.2 g.1 (by omega)⟩
theorem sc_b {l q R L E b : Int} (hl : 0 ≤ l ∧ l < L) (hq : 0 ≤ q ∧ q < R) (hE : 1 ≤ E) (hb : 0 ≤ b) (h : b + (R * L - 1) * E ≤ 999) : 0 ≤ b + (l * R + q) * E ∧ b + (l * R + q) * E ≤ 999 := by
  have h1 : l * R + R ≤ R * L := by
    have : (l + 1) * R ≤ L * R := Int.mul_le_mul_of_nonneg_right (by omega) (by omega)
    rw [Int.add_mul, Int.one_mul] at this
    rw [Int.mul_comm R L]
    exact this
  have h2 : (l * R + q) * E ≤ (R * L - 1) * E := Int.mul_le_mul_of_nonneg_right (by omega) (by omega)
  have h3 : 0 ≤ (l * R + q) * E := Int.mul_nonneg (by have := Int.mul_nonneg hl.1 (show 0 ≤ R by omega); omega) (by omega)
  omega
theorem sc_n (l q R E b : Int) : b + (l * R + (q + 1)) * E = b + (l * R + q) * E + E := by
  rw [← Int.add_assoc, Int.add_mul, Int.one_mul, ← Int.add_assoc]
theorem sc_l (l q R E b : Int) (h : q = R) : b + ((l + 1) * R + 0) * E = b + (l * R + q) * E := by
  rw [h, Int.add_mul l 1 R, Int.one_mul, Int.add_zero]
abbrev cX0_daysFromFirstToLast : ByteArray := prog_2_method_3_code
def yX0_daysFromFirstToLast : MethodName := ⟨RX0, "daysFromFirstToLast", "()I"⟩
def zX0_daysFromFirstToLast : Zm := (RX0, cX0_daysFromFirstToLast, 2, (some .int), { frames := 1, cells := 0, slots := 0, locals := 20 })
theorem bk_X0_daysFromFirstToLast_0 : ck_ fX0 (some .int) cX0_daysFromFirstToLast 0 [.aload 0] 1 = true := qck_r (nn_ _) (by decide +kernel)
theorem bs_X0_daysFromFirstToLast_0 {P : Zt → Option Zv → Prop} (K : Int → Zl → List Zv → Zt → Prop) : sx_ K P [.aload 0] 1 = x_aload 0 (K 1) := ((xe_aload 0).trans (congrArg (x_aload 0) xe_nil))
set_option maxRecDepth 100000 in
theorem cl_X0_37 : cv_ RX0 37 yX0_placeCount zX0_placeCount 0 0 := ⟨gi_V (lwq_3 (dqc_m (dqc_m (dqc_m (dqc_m (dqc_m (dqc_m (dqa_m (List.mem_of_getElem? (i := 0) rfl)))))))) rfl : Cond.methodLink RX0 37 yX0_placeCount ∈ lw_g) (lwq_3 (dqc_m (dqc_m (dqc_m (dqc_m (dqc_m (dqc_m (dqa_m (List.mem_of_getElem? (i := 1) rfl)))))))) rfl : Cond.instanceMethod yX0_placeCount ∈ lw_g) (lwq_3 (dqc_m (dqc_m (dqc_m (dqc_m (dqc_m (dqc_m (dqa_m (List.mem_of_getElem? (i := 2) rfl)))))))) rfl : Cond.selects yX0_placeCount.cls yX0_placeCount yX0_placeCount ∈ lw_g) (lwq_1 (dqa_m (List.mem_of_getElem? (i := 7) rfl)) rfl : Cond.initialized yX0_placeCount.cls ∈ lw_g) (lwq_3 (dqc_m (dqc_m (dqc_m (dqc_m (dqc_m (dqc_m (dqa_m (List.mem_of_getElem? (i := 3) rfl)))))))) rfl : Cond.code yX0_placeCount cX0_placeCount 1 (some .int) ∈ lw_g), ⟨nmh_11.1, nmh_11.2, pdq_17⟩, ⟨_, _, rfl⟩⟩
theorem bk_X0_daysFromFirstToLast_4 : ck_ fX0 (some .int) cX0_daysFromFirstToLast 4 [.iconst 1, .isub, .aload 0, .tableswitch 0 0 1 #[], .iconst 6, .iaload, .imul, .istore 1, .iload 1, .iconst 1, .isub, .aload 0, .tableswitch 0 0 1 #[], .iconst 7, .iaload, .imul, .ireturn] 27 = true := qck_r (nn_ _) (by decide +kernel)
theorem bs_X0_daysFromFirstToLast_4 {P : Zt → Option Zv → Prop} (K : Int → Zl → List Zv → Zt → Prop) : sx_ K P [.iconst 1, .isub, .aload 0, .tableswitch 0 0 1 #[], .iconst 6, .iaload, .imul, .istore 1, .iload 1, .iconst 1, .isub, .aload 0, .tableswitch 0 0 1 #[], .iconst 7, .iaload, .imul, .ireturn] 27 = x_iconst 1 (x_isub (x_aload 0 (x_g2 100 401 (x_iconst 6 (x_iaload (x_imul (x_istore 1 (x_iload 1 (x_iconst 1 (x_isub (x_aload 0 (x_g2 100 401 (x_iconst 7 (x_iaload (x_imul (x_ireturn P)))))))))))))))) := ((xe_iconst 1).trans (congrArg (x_iconst 1) ((xe_isub).trans (congrArg (x_isub) ((xe_aload 0).trans (congrArg (x_aload 0) ((xe_g2 (kk := 100) rfl tl_0_1).trans (congrArg (x_g2 100 401) ((xe_iconst 6).trans (congrArg (x_iconst 6) ((xe_iaload).trans (congrArg (x_iaload) ((xe_imul).trans (congrArg (x_imul) ((xe_istore 1).trans (congrArg (x_istore 1) ((xe_iload 1).trans (congrArg (x_iload 1) ((xe_iconst 1).trans (congrArg (x_iconst 1) ((xe_isub).trans (congrArg (x_isub) ((xe_aload 0).trans (congrArg (x_aload 0) ((xe_g2 (kk := 100) rfl tl_0_1).trans (congrArg (x_g2 100 401) ((xe_iconst 7).trans (congrArg (x_iconst 7) ((xe_iaload).trans (congrArg (x_iaload) ((xe_imul).trans (congrArg (x_imul) (xe_ireturn)))))))))))))))))))))))))))))))))
abbrev po_X0_daysFromFirstToLast (T : Zt) (c : Int) : Zt → Option Zv → Prop := fun T' r => T = T' ∧ ∃ x : Int, r = some (vI x) ∧ (x = ((T 100 c 5 + an_ (T 100 c 5) 1 - 1) * T 401 c 6 - 1) * T 401 c 7)
set_option maxHeartbeats 4000000 in
theorem ct_X0_daysFromFirstToLast {T : Zt} {c : Int} (hl : 0 ≤ T 401 c 6 ∧ T 401 c 6 ≤ 4) (hE : 1 ≤ T 401 c 7 ∧ T 401 c 7 ≤ 30) (he : 2 ≤ T 100 c 5) : Ct_ yX0_daysFromFirstToLast zX0_daysFromFirstToLast T [vR 100 c] (po_X0_daysFromFirstToLast T c) := by
  refine ct_of pn_0 rfl rfl (Nat.le_of_ble_eq_true rfl) (fun hT hav => ?_)
  have hz : zX0_daysFromFirstToLast.2.2.2.1 = some .boolean → ∀ (T' : Zt) (x : Int), po_X0_daysFromFirstToLast T c T' (some (vI x)) → 0 ≤ x ∧ x ≤ 1 := fun h => by cases h
  have hb5 : 0 ≤ T 100 c 5 ∧ T 100 c 5 ≤ 12 := bd_f hT 100 5 tl_0_5 c
  have hp1 := an_1b (T 100 c 5)
  have hp2 : T 100 c 5 = 12 → an_ (T 100 c 5) 1 = 0 := fun h => by rw [h]; decide
  have hm1 := mlb (a := T 100 c 5 + an_ (T 100 c 5) 1 - 1) (b := T 401 c 6) (A := 12) (B := 4) (by omega) (by omega)
  show J_ zX0_daysFromFirstToLast T (po_X0_daysFromFirstToLast T c) 0 0 0 [some (vR 100 c), none] [] T
  refine j_blx (F := fX0) tb_X0 (nn_ _) bk_X0_daysFromFirstToLast_0 bs_X0_daysFromFirstToLast_0 hz (fun K hK => ?_)
  refine hK 1 _ [vR 100 c] T ?_
  refine j_callV (y := yX0_placeCount) (Yc := zX0_placeCount) (rest := []) [] (ct_X0_placeCount (T := T)) cl_X0_37 (qd_c (by decide +kernel)) (nn_ _) rfl (rf_of rfl) (Nat.le_of_ble_eq_true rfl) (Nat.le_of_ble_eq_true rfl) (Nat.le_of_ble_eq_true rfl) rfl ?_
  rintro _ _ ⟨rfl, rfl⟩
  show J_ zX0_daysFromFirstToLast T (po_X0_daysFromFirstToLast T c) 0 0 4 _ [vI (T 100 c 5 + an_ (T 100 c 5) 1)] T
  refine j_blx (F := fX0) tb_X0 (nn_ _) bk_X0_daysFromFirstToLast_4 bs_X0_daysFromFirstToLast_4 hz (fun K hK => ?_)
  refine rg_i (by omega) ?_
  refine ix_i (by omega) ?_
  intro b1 b1b
  refine rg_i (by first | omega | (have y9 := mlb (a := (T 100 c 5 + an_ (T 100 c 5) 1 - 1) * T 401 c 6 - 1 + 1) (b := T 401 c 7) (A := 49) (B := 30) (by omega) (by omega); rw [Int.add_mul, Int.one_mul] at y9; omega)) ?_
  refine rg_i (by omega) ?_
  refine ix_i (by omega) ?_
  intro b2 b2b
  refine rg_i (by first | omega | (have y9 := mlb (a := (T 100 c 5 + an_ (T 100 c 5) 1 - 1) * T 401 c 6 - 1 + 1) (b := T 401 c 7) (A := 49) (B := 30) (by omega) (by omega); rw [Int.add_mul, Int.one_mul] at y9; omega)) ?_
  refine (show po_X0_daysFromFirstToLast T c T (some (vI (((((T 100 c 5 + an_ (T 100 c 5) 1) - 1) * (T 401 c 6)) - 1) * (T 401 c 7)))) from ?_)
  exact ⟨rfl, _, rfl, by rfl⟩
