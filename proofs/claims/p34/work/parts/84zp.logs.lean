theorem cp_i {T U : Zt} {a b n j : Int} (h : U = cp_ T a b n) (h0 : 0 ≤ j) (h1 : j < n) : U 190 b j = T 190 a j := by
  rw [h]
  unfold cp_
  exact if_pos ⟨rfl, rfl, h0, h1⟩
theorem ra_k {T T' : Zt} {a i : Int} (h : ∀ j, T' 190 a j = T 190 a j) : ra9_ T' a i = ra9_ T a i := ra_e (fun _ _ _ => h _)
/-- a frame that leaves the cells of a play alone -/
theorem rs_w {ws : List (Nat × List Int)} {T T1 : Zt} {p : Int} (f : fr_ ws T T1) (w : ∀ (k : Nat) (j : Int), dk_ k j = true → fw_ ws k j = false) : rs9_ T1 p = rs9_ T p := rs_n (fun k j d => f k p j (w k j d))
theorem bk_J7_copyOf_e_0 : ck_ fJ7 (some (.array .int)) cJ7_copyOf_59c91 0 [.iload 1, .aload 0, .arraylength, .if_icmp .ne 14, .aload 0] 7 = true := qck_r (nn_ _) (by decide +kernel)
theorem bs_J7_copyOf_e_0 {P : Zt → Option Zv → Prop} (K : Int → Zl → List Zv → Zt → Prop) : sx_ K P [.iload 1, .aload 0, .arraylength, .if_icmp .ne 14, .aload 0] 7 = x_iload 1 (x_aload 0 (x_arraylength (x_if_icmp .ne 14 K (x_aload 0 (K 7))))) := ((xe_iload 1).trans (congrArg (x_iload 1) ((xe_aload 0).trans (congrArg (x_aload 0) ((xe_arraylength).trans (congrArg (x_arraylength) ((xe_if_icmp .ne 14).trans (congrArg (x_if_icmp .ne 14 K) ((xe_aload 0).trans (congrArg (x_aload 0) xe_nil))))))))))
theorem bk_J7_copyOf_e_14 : ck_ fJ7 (some (.array .int)) cJ7_copyOf_59c91 14 [.iload 1] 15 = true := qck_r (nn_ _) (by decide +kernel)
theorem bs_J7_copyOf_e_14 {P : Zt → Option Zv → Prop} (K : Int → Zl → List Zv → Zt → Prop) : sx_ K P [.iload 1] 15 = x_iload 1 (K 15) := ((xe_iload 1).trans (congrArg (x_iload 1) xe_nil))
theorem bk_J7_copyOf_e_17 : ck_ fJ7 (some (.array .int)) cJ7_copyOf_59c91 17 [.astore 2, .aload 0, .iconst 0, .aload 2, .iconst 0, .aload 0, .arraylength, .iload 1] 25 = true := qck_r (nn_ _) (by decide +kernel)
theorem bs_J7_copyOf_e_17 {P : Zt → Option Zv → Prop} (K : Int → Zl → List Zv → Zt → Prop) : sx_ K P [.astore 2, .aload 0, .iconst 0, .aload 2, .iconst 0, .aload 0, .arraylength, .iload 1] 25 = x_astore 2 (x_aload 0 (x_iconst 0 (x_aload 2 (x_iconst 0 (x_aload 0 (x_arraylength (x_iload 1 (K 25)))))))) := ((xe_astore 2).trans (congrArg (x_astore 2) ((xe_aload 0).trans (congrArg (x_aload 0) ((xe_iconst 0).trans (congrArg (x_iconst 0) ((xe_aload 2).trans (congrArg (x_aload 2) ((xe_iconst 0).trans (congrArg (x_iconst 0) ((xe_aload 0).trans (congrArg (x_aload 0) ((xe_arraylength).trans (congrArg (x_arraylength) ((xe_iload 1).trans (congrArg (x_iload 1) xe_nil))))))))))))))))
theorem bk_J7_copyOf_e_31 : ck_ fJ7 (some (.array .int)) cJ7_copyOf_59c91 31 [.aload 2] 32 = true := qck_r (nn_ _) (by decide +kernel)
theorem bs_J7_copyOf_e_31 {P : Zt → Option Zv → Prop} (K : Int → Zl → List Zv → Zt → Prop) : sx_ K P [.aload 2] 32 = x_aload 2 (K 32) := ((xe_aload 2).trans (congrArg (x_aload 2) xe_nil))
abbrev po_J7_copyOf_e (T : Zt) (sl : Nat) (a : Int) (n : Int) : Zt → Option Zv → Prop := fun T' r => r = some (vR 190 (T 191 0 0)) ∧ fr_ [(190, []), (191, [0])] T T' ∧ T' 191 0 0 = T 191 0 0 + 1 ∧ T' 190 (T 191 0 0) (-2) = n ∧ (∀ x j, x ≠ T 191 0 0 → T' 190 x j = T 190 x j) ∧ ∀ j, 0 ≤ j → j < T 190 a (-2) → T' 190 (T 191 0 0) j = T 190 a j
set_option maxHeartbeats 4000000 in
theorem ct_J7_copyOf_e {T : Zt} {sl : Nat} {a : Int} {n : Int} (h1 : T 190 a (-2) < n ∧ n ≤ 100000 ∧ 0 ≤ T 190 a (-2)) (h2 : n.toNat ≤ 2 * sl) (h3 : a < T 191 0 0) : Ct_ yJ7_copyOf_59c91 (zJ7_copyOf_59c91 sl) T [vR 190 a, vI n] (po_J7_copyOf_e T sl a n) := by
  refine ct_of (by decide) rfl rfl (Nat.le_of_ble_eq_true rfl) (fun hT hav => ?_) (hi := fun h => absurd ((im_ev _).symm.trans h) (by decide))
  have hr_n : -2147483648 ≤ n ∧ n ≤ 2147483647 := hav (vI n) (List.mem_cons_of_mem _ List.mem_cons_self)
  have hz : (zJ7_copyOf_59c91 sl).2.2.2.1 = some .boolean → ∀ (T' : Zt) (x : Int), po_J7_copyOf_e T sl a n T' (some (vI x)) → 0 ≤ x ∧ x ≤ 1 := fun h => by cases h
  show J_ (zJ7_copyOf_59c91 sl) T (po_J7_copyOf_e T sl a n) 1 (2 * sl) 0 [some (vR 190 a), some (vI n), none] [] T
  refine j_blx (F := fJ7) tb_J7 (nn_ _) bk_J7_copyOf_e_0 bs_J7_copyOf_e_0 hz (fun K hK => ?_)
  intro b1 b1b
  refine And.intro (fun c2 => ?_) (fun c2 => ?_)
  · refine hK 14 _ [] T ?_
    refine j_blx (F := fJ7) tb_J7 (nn_ _) bk_J7_copyOf_e_14 bs_J7_copyOf_e_14 hz (fun K hK => ?_)
    refine hK 15 _ [vI n] T ?_
    refine j_newL (bc' := 0) (bs' := 0) (pc := 15) (by decide) (by omega) (by omega) (by omega) (by show decode cJ7_copyOf_59c91 (Int.toNat 15) = _; decide +kernel) (lwq_1 (dqc_m (dqc_m (dqa_m (List.mem_of_getElem? (i := 0) rfl)))) rfl : Cond.arrayClass .int ∈ lw_g) ?_
    refine j_nm (fun U3 hU3 => ?_)
    have fU3 := nv_fr hU3
    have aU3 := nv_t9 hU3
    have lU3 := nv_tl hU3
    have oU3 := nv_to hU3
    show J_ (zJ7_copyOf_59c91 sl) T (po_J7_copyOf_e T sl a n) 0 0 17 _ [vR 190 (T 191 0 0)] U3
    refine j_blx (F := fJ7) tb_J7 (nn_ _) bk_J7_copyOf_e_17 bs_J7_copyOf_e_17 hz (fun K hK => ?_)
    have y8 : U3 190 a (-2) = T 190 a (-2) := oU3 a (-2) (by omega)
    intro b4 b4b
    refine hK 25 [some (vR 190 a), some (vI n), some (vR 190 (T 191 0 0))] [vI n, vI (U3 190 a (-2)), vI 0, vR 190 (T 191 0 0), vI 0, vR 190 a] U3 ?_
    obtain ⟨x5, e6, hx5⟩ : ∃ x5 : Int, (if n < (U3 190 a (-2)) then n else (U3 190 a (-2))) = x5 ∧ ((x5 = U3 190 a (-2) ∨ x5 = n) ∧ x5 ≤ U3 190 a (-2) ∧ x5 ≤ n) := ⟨_, rfl, by split <;> omega⟩
    refine j_mn (pc := 25) (lwq_5 (dqc_m (dqc_m (dqc_m (dqc_m (dqa_m (List.mem_of_getElem? (i := 6) rfl)))))) rfl : Cond.methodLink RJ7 304 Lib.Math.min.name ∈ lw_g) (lwq_4 (dqc_m (dqc_m (dqc_m (dqa_m (dqa_m (List.mem_of_getElem? (i := 5) rfl)))))) rfl : Cond.static Lib.Math.min.name ∈ lw_g) (lwq_1 (dqa_m (dqa_m (List.mem_of_getElem? (i := 1) rfl))) rfl : Cond.initialized "java/lang/Math" ∈ lw_g) (lwq_4 (dqc_m (dqc_m (dqc_m (dqa_m (dqa_m (List.mem_of_getElem? (i := 6) rfl)))))) rfl : Cond.code Lib.Math.min.name Lib.Math.min.code 2 (some .int) ∈ lw_g) (by show decode cJ7_copyOf_59c91 (Int.toNat 25) = _; decide +kernel) (by decide) (Nat.le_of_ble_eq_true rfl) (Nat.le_of_ble_eq_true rfl) (Nat.le_of_ble_eq_true rfl) ?_
    rw [e6]
    clear e6
    show J_ (zJ7_copyOf_59c91 sl) T (po_J7_copyOf_e T sl a n) 0 0 28 _ [vI x5, vI 0, vR 190 (T 191 0 0), vI 0, vR 190 a] U3
    have y9 : U3 190 a (-2) = T 190 a (-2) := oU3 a (-2) (by omega)
    refine j_acp (pc := 28) (by decide) (by omega) (by omega) (by omega) (lwq_5 (dqc_m (dqc_m (dqc_m (dqc_m (dqa_m (List.mem_of_getElem? (i := 7) rfl)))))) rfl : Cond.methodLink RJ7 150 arraycopyName ∈ lw_g) (lwq_5 (dqc_m (dqc_m (dqc_m (dqc_m (dqa_m (dqa_m (List.mem_of_getElem? (i := 1) rfl))))))) rfl : Cond.native arraycopyName ∈ lw_g) (lwq_5 (dqc_m (dqc_m (dqc_m (dqc_m (dqa_m (dqa_m (List.mem_of_getElem? (i := 0) rfl))))))) rfl : Cond.static arraycopyName ∈ lw_g) (lwq_1 (dqa_m (dqa_m (List.mem_of_getElem? (i := 4) rfl))) rfl : Cond.initialized "java/lang/System" ∈ lw_g) (by show decode cJ7_copyOf_59c91 (Int.toNat 28) = _; decide +kernel) (by show 1 ≤ 1; omega) (by show 8 + (nativeFrameWords "java/lang/System" "arraycopy" 5 + 11) ≤ 70; decide) (by decide) ?_
    refine j_nm (fun U7 hU7 => ?_)
    have fU7 := cp_fr hU7
    have lU7 := cp_l hU7
    have oU7 := cp_o hU7
    show J_ (zJ7_copyOf_59c91 sl) T (po_J7_copyOf_e T sl a n) 0 0 31 _ [] U7
    refine j_blx (F := fJ7) tb_J7 (nn_ _) bk_J7_copyOf_e_31 bs_J7_copyOf_e_31 hz (fun K hK => ?_)
    refine hK 32 _ [vR 190 (T 191 0 0)] U7 ?_
    refine j_aret (pc := 32) rfl (Or.inr ⟨_, rfl⟩) (by show decode cJ7_copyOf_59c91 (Int.toNat 32) = _; decide +kernel) ?_
    refine (show po_J7_copyOf_e T sl a n U7 (some (vR 190 (T 191 0 0))) from ?_)
    have e8 : U7 191 0 0 = U3 191 0 0 := fU7 191 0 0 rfl
    exact ⟨rfl, fr_t (fr_s fU3 rfl) (fr_s fU7 rfl), (fU7 191 0 0 rfl).trans aU3, (lU7 _).trans lU3, fun x j hx => (oU7 x j hx).trans (oU3 x j hx), fun j j0 j1 => (cp_i hU7 j0 (by omega)).trans (oU3 a j (by omega))⟩
  · exact absurd c2 (by omega)
theorem bk_X3_writeRow_e_0 : ck_ fX3 none cX3_writeRow 0 [.aload 0, .iload 1, .iconst 4, .imul, .iload 2, .iastore, .aload 0, .iload 1, .iconst 4, .imul, .iconst 1, .iadd, .iload 3, .iastore, .aload 0, .iload 1, .iconst 4, .imul, .iconst 2, .iadd, .iload 4, .iastore, .aload 0, .iload 1, .iconst 4, .imul, .iconst 3, .iadd, .iload 5, .iastore, .return_] 33 = true := qck_r (nn_ _) (by decide +kernel)
theorem bs_X3_writeRow_e_0 {P : Zt → Option Zv → Prop} (K : Int → Zl → List Zv → Zt → Prop) : sx_ K P [.aload 0, .iload 1, .iconst 4, .imul, .iload 2, .iastore, .aload 0, .iload 1, .iconst 4, .imul, .iconst 1, .iadd, .iload 3, .iastore, .aload 0, .iload 1, .iconst 4, .imul, .iconst 2, .iadd, .iload 4, .iastore, .aload 0, .iload 1, .iconst 4, .imul, .iconst 3, .iadd, .iload 5, .iastore, .return_] 33 = x_aload 0 (x_iload 1 (x_iconst 4 (x_imul (x_iload 2 (x_iastore (x_aload 0 (x_iload 1 (x_iconst 4 (x_imul (x_iconst 1 (x_iadd (x_iload 3 (x_iastore (x_aload 0 (x_iload 1 (x_iconst 4 (x_imul (x_iconst 2 (x_iadd (x_iload 4 (x_iastore (x_aload 0 (x_iload 1 (x_iconst 4 (x_imul (x_iconst 3 (x_iadd (x_iload 5 (x_iastore (x_return_ P)))))))))))))))))))))))))))))) := ((xe_aload 0).trans (congrArg (x_aload 0) ((xe_iload 1).trans (congrArg (x_iload 1) ((xe_iconst 4).trans (congrArg (x_iconst 4) ((xe_imul).trans (congrArg (x_imul) ((xe_iload 2).trans (congrArg (x_iload 2) ((xe_iastore).trans (congrArg (x_iastore) ((xe_aload 0).trans (congrArg (x_aload 0) ((xe_iload 1).trans (congrArg (x_iload 1) ((xe_iconst 4).trans (congrArg (x_iconst 4) ((xe_imul).trans (congrArg (x_imul) ((xe_iconst 1).trans (congrArg (x_iconst 1) ((xe_iadd).trans (congrArg (x_iadd) ((xe_iload 3).trans (congrArg (x_iload 3) ((xe_iastore).trans (congrArg (x_iastore) ((xe_aload 0).trans (congrArg (x_aload 0) ((xe_iload 1).trans (congrArg (x_iload 1) ((xe_iconst 4).trans (congrArg (x_iconst 4) ((xe_imul).trans (congrArg (x_imul) ((xe_iconst 2).trans (congrArg (x_iconst 2) ((xe_iadd).trans (congrArg (x_iadd) ((xe_iload 4).trans (congrArg (x_iload 4) ((xe_iastore).trans (congrArg (x_iastore) ((xe_aload 0).trans (congrArg (x_aload 0) ((xe_iload 1).trans (congrArg (x_iload 1) ((xe_iconst 4).trans (congrArg (x_iconst 4) ((xe_imul).trans (congrArg (x_imul) ((xe_iconst 3).trans (congrArg (x_iconst 3) ((xe_iadd).trans (congrArg (x_iadd) ((xe_iload 5).trans (congrArg (x_iload 5) ((xe_iastore).trans (congrArg (x_iastore) (xe_return_)))))))))))))))))))))))))))))))))))))))))))))))))))))))))))))
abbrev po_X3_writeRow_e (T : Zt) (a : Int) (i k s v w : Int) : Zt → Option Zv → Prop := fun T' r => r = none ∧ fr_ [(190, [])] T T' ∧ (∀ x, T' 190 x (-2) = T 190 x (-2)) ∧ (∀ x j, ¬ (x = a ∧ i * 4 ≤ j ∧ j < i * 4 + 4) → T' 190 x j = T 190 x j) ∧ ra9_ T' a i = (k, s, v, w)
set_option maxHeartbeats 4000000 in
theorem ct_X3_writeRow_e {T : Zt} {a : Int} {i k s v w : Int} (h1 : 0 ≤ i ∧ i ≤ 1000 ∧ i * 4 + 3 < T 190 a (-2)) : Ct_ yX3_writeRow zX3_writeRow T [vR 190 a, vI i, vI k, vI s, vI v, vI w] (po_X3_writeRow_e T a i k s v w) := by
  refine ct_of pn_3 rfl rfl (Nat.le_of_ble_eq_true rfl) (fun hT hav => ?_)
  have hr_i : -2147483648 ≤ i ∧ i ≤ 2147483647 := hav (vI i) (List.mem_cons_of_mem _ List.mem_cons_self)
  have hr_k : -2147483648 ≤ k ∧ k ≤ 2147483647 := hav (vI k) (List.mem_cons_of_mem _ (List.mem_cons_of_mem _ List.mem_cons_self))
  have hr_s : -2147483648 ≤ s ∧ s ≤ 2147483647 := hav (vI s) (List.mem_cons_of_mem _ (List.mem_cons_of_mem _ (List.mem_cons_of_mem _ List.mem_cons_self)))
  have hr_v : -2147483648 ≤ v ∧ v ≤ 2147483647 := hav (vI v) (List.mem_cons_of_mem _ (List.mem_cons_of_mem _ (List.mem_cons_of_mem _ (List.mem_cons_of_mem _ List.mem_cons_self))))
  have hr_w : -2147483648 ≤ w ∧ w ≤ 2147483647 := hav (vI w) (List.mem_cons_of_mem _ (List.mem_cons_of_mem _ (List.mem_cons_of_mem _ (List.mem_cons_of_mem _ (List.mem_cons_of_mem _ List.mem_cons_self)))))
  have hz : zX3_writeRow.2.2.2.1 = some .boolean → ∀ (T' : Zt) (x : Int), po_X3_writeRow_e T a i k s v w T' (some (vI x)) → 0 ≤ x ∧ x ≤ 1 := fun h => by cases h
  show J_ zX3_writeRow T (po_X3_writeRow_e T a i k s v w) 0 0 0 [some (vR 190 a), some (vI i), some (vI k), some (vI s), some (vI v), some (vI w)] [] T
  refine j_blx (F := fX3) tb_X3 (nn_ _) bk_X3_writeRow_e_0 bs_X3_writeRow_e_0 hz (fun K hK => ?_)
  refine rg_i (by omega) ?_
  refine iy_i (by omega) (by omega) ?_
  refine x_nm (fun U1 hU1 => ?_)
  have e2 := up_f hU1
  refine rg_i (by omega) ?_
  refine rg_i (by omega) ?_
  have y3 : U1 190 a (-2) = T 190 a (-2) := up_g hU1 (fun z => by omega)
  refine iy_i (by omega) (by omega) ?_
  refine x_nm (fun U4 hU4 => ?_)
  have e5 := up_f hU4
  refine rg_i (by omega) ?_
  refine rg_i (by omega) ?_
  have y6 : U4 190 a (-2) = T 190 a (-2) := (up_g hU4 (fun z => by omega)).trans (up_g hU1 (fun z => by omega))
  refine iy_i (by omega) (by omega) ?_
  refine x_nm (fun U7 hU7 => ?_)
  have e8 := up_f hU7
  refine rg_i (by omega) ?_
  refine rg_i (by omega) ?_
  have y9 : U7 190 a (-2) = T 190 a (-2) := (up_g hU7 (fun z => by omega)).trans ((up_g hU4 (fun z => by omega)).trans (up_g hU1 (fun z => by omega)))
  refine iy_i (by omega) (by omega) ?_
  refine x_nm (fun U10 hU10 => ?_)
  have e11 := up_f hU10
  refine (show po_X3_writeRow_e T a i k s v w U10 (none) from ?_)
  have g0 : U10 190 a (i * 4) = k := (up_g hU10 (fun z => by omega)).trans ((up_g hU7 (fun z => by omega)).trans ((up_g hU4 (fun z => by omega)).trans (up_f hU1)))
  have g1 : U10 190 a ((i * 4) + 1) = s := (up_g hU10 (fun z => by omega)).trans ((up_g hU7 (fun z => by omega)).trans (up_f hU4))
  have g2 : U10 190 a ((i * 4) + 2) = v := (up_g hU10 (fun z => by omega)).trans (up_f hU7)
  have g3 : U10 190 a ((i * 4) + 3) = w := up_f hU10
  refine ⟨rfl, fr_u (fr_u (fr_u (fr_u (fr_0 _ _) hU1 rfl) hU4 rfl) hU7 rfl) hU10 rfl, fun x => (up_g hU10 (fun z => by omega)).trans ((up_g hU7 (fun z => by omega)).trans ((up_g hU4 (fun z => by omega)).trans (up_g hU1 (fun z => by omega)))), fun x j hx => (up_g hU10 (fun z => hx (by omega))).trans ((up_g hU7 (fun z => hx (by omega))).trans ((up_g hU4 (fun z => hx (by omega))).trans (up_g hU1 (fun z => hx (by omega))))), ?_⟩
  show (U10 190 a (i * 4), U10 190 a (i * 4 + 1), U10 190 a (i * 4 + 2), U10 190 a (i * 4 + 3)) = (k, s, v, w)
  rw [g0, g1, g2, g3]
theorem bk_X3_keepRow_e_0 : ck_ fX3 none cX3_keepRow 0 [.aload 0, .tableswitch 0 3 15 #[], .iconst 4, .imul, .iconst 4, .iadd, .aload 0, .tableswitch 0 3 14 #[], .arraylength, .if_icmp .le 34, .aload 0, .aload 0, .tableswitch 0 3 14 #[], .aload 0, .tableswitch 0 3 14 #[], .arraylength, .iconst 2, .imul] 28 = true := qck_r (nn_ _) (by decide +kernel)
theorem bs_X3_keepRow_e_0 {P : Zt → Option Zv → Prop} (K : Int → Zl → List Zv → Zt → Prop) : sx_ K P [.aload 0, .tableswitch 0 3 15 #[], .iconst 4, .imul, .iconst 4, .iadd, .aload 0, .tableswitch 0 3 14 #[], .arraylength, .if_icmp .le 34, .aload 0, .aload 0, .tableswitch 0 3 14 #[], .aload 0, .tableswitch 0 3 14 #[], .arraylength, .iconst 2, .imul] 28 = x_aload 0 (x_g0 103 15 0 3000 (x_iconst 4 (x_imul (x_iconst 4 (x_iadd (x_aload 0 (x_g3 103 190 14 (x_arraylength (x_if_icmp .le 34 K (x_aload 0 (x_aload 0 (x_g3 103 190 14 (x_aload 0 (x_g3 103 190 14 (x_arraylength (x_iconst 2 (x_imul (K 28)))))))))))))))))) := ((xe_aload 0).trans (congrArg (x_aload 0) ((xe_g0 (kk := 103) rfl tl_3_15).trans (congrArg (x_g0 103 15 0 3000) ((xe_iconst 4).trans (congrArg (x_iconst 4) ((xe_imul).trans (congrArg (x_imul) ((xe_iconst 4).trans (congrArg (x_iconst 4) ((xe_iadd).trans (congrArg (x_iadd) ((xe_aload 0).trans (congrArg (x_aload 0) ((xe_g3 (kk := 103) rfl tl_3_14).trans (congrArg (x_g3 103 190 14) ((xe_arraylength).trans (congrArg (x_arraylength) ((xe_if_icmp .le 34).trans (congrArg (x_if_icmp .le 34 K) ((xe_aload 0).trans (congrArg (x_aload 0) ((xe_aload 0).trans (congrArg (x_aload 0) ((xe_g3 (kk := 103) rfl tl_3_14).trans (congrArg (x_g3 103 190 14) ((xe_aload 0).trans (congrArg (x_aload 0) ((xe_g3 (kk := 103) rfl tl_3_14).trans (congrArg (x_g3 103 190 14) ((xe_arraylength).trans (congrArg (x_arraylength) ((xe_iconst 2).trans (congrArg (x_iconst 2) ((xe_imul).trans (congrArg (x_imul) xe_nil))))))))))))))))))))))))))))))))))))
theorem bk_X3_keepRow_e_34 : ck_ fX3 none cX3_keepRow 34 [.aload 0, .tableswitch 0 3 14 #[], .aload 0, .tableswitch 0 3 15 #[], .iload 1, .iload 2, .iload 3, .iload 4] 47 = true := qck_r (nn_ _) (by decide +kernel)
theorem bs_X3_keepRow_e_34 {P : Zt → Option Zv → Prop} (K : Int → Zl → List Zv → Zt → Prop) : sx_ K P [.aload 0, .tableswitch 0 3 14 #[], .aload 0, .tableswitch 0 3 15 #[], .iload 1, .iload 2, .iload 3, .iload 4] 47 = x_aload 0 (x_g3 103 190 14 (x_aload 0 (x_g0 103 15 0 3000 (x_iload 1 (x_iload 2 (x_iload 3 (x_iload 4 (K 47)))))))) := ((xe_aload 0).trans (congrArg (x_aload 0) ((xe_g3 (kk := 103) rfl tl_3_14).trans (congrArg (x_g3 103 190 14) ((xe_aload 0).trans (congrArg (x_aload 0) ((xe_g0 (kk := 103) rfl tl_3_15).trans (congrArg (x_g0 103 15 0 3000) ((xe_iload 1).trans (congrArg (x_iload 1) ((xe_iload 2).trans (congrArg (x_iload 2) ((xe_iload 3).trans (congrArg (x_iload 3) ((xe_iload 4).trans (congrArg (x_iload 4) xe_nil))))))))))))))))
theorem bk_X3_keepRow_e_50 : ck_ fX3 none cX3_keepRow 50 [.aload 0, .dup, .tableswitch 0 3 15 #[], .iconst 1, .iadd, .tableswitch 1 3 15 #[], .return_] 61 = true := qck_r (nn_ _) (by decide +kernel)
theorem bs_X3_keepRow_e_50 {P : Zt → Option Zv → Prop} (K : Int → Zl → List Zv → Zt → Prop) : sx_ K P [.aload 0, .dup, .tableswitch 0 3 15 #[], .iconst 1, .iadd, .tableswitch 1 3 15 #[], .return_] 61 = x_aload 0 (x_dup (x_g0 103 15 0 3000 (x_iconst 1 (x_iadd (x_p 103 15 0 3000 (x_return_ P)))))) := ((xe_aload 0).trans (congrArg (x_aload 0) ((xe_dup).trans (congrArg (x_dup) ((xe_g0 (kk := 103) rfl tl_3_15).trans (congrArg (x_g0 103 15 0 3000) ((xe_iconst 1).trans (congrArg (x_iconst 1) ((xe_iadd).trans (congrArg (x_iadd) ((xe_p (kk := 103) rfl tl_3_15).trans (congrArg (x_p 103 15 0 3000) (xe_return_)))))))))))))
abbrev po_X3_keepRow_e (T : Zt) (p : Int) (k s v w : Int) : Zt → Option Zv → Prop := fun T' r => r = none ∧ fr_ [(103, [14, 15]), (190, []), (191, [0])] T T' ∧ (oq_ T T' p ∧ T' 103 p 15 = T 103 p 15 + 1 ∧ (∀ x, x < T 191 0 0 → T' 190 x (-2) = T 190 x (-2)) ∧ T 191 0 0 ≤ T' 191 0 0 ∧ T' 191 0 0 ≤ T 191 0 0 + 1 ∧ lz_ (T' 190 (T' 103 p 14) (-2)) ∧ T' 103 p 14 < T' 191 0 0 ∧ 4 * (T 103 p 15 + 1) ≤ T' 190 (T' 103 p 14) (-2) ∧ T' 190 (T' 103 p 14) (-2) ≤ 2 * T 190 (T 103 p 14) (-2) ∧ (∀ x j, x < T 191 0 0 → x ≠ T 103 p 14 → T' 190 x j = T 190 x j) ∧ (T' 103 p 14 = T 103 p 14 ∨ T' 103 p 14 = T 191 0 0) ∧ hr9_ T' (T' 103 p 14) (T' 103 p 15).toNat = hr9_ T (T 103 p 14) (T 103 p 15).toNat ++ [(k, s, v, w)])
set_option maxHeartbeats 4000000 in
theorem ct_X3_keepRow_e {T : Zt} {p : Int} {k s v w : Int} (h1 : 0 ≤ T 103 p 15 ∧ T 103 p 15 < 512 ∧ 4 * T 103 p 15 ≤ T 190 (T 103 p 14) (-2)) (h2 : T 103 p 14 < T 191 0 0 ∧ T 191 0 0 ≤ 2000000000 ∧ -2147483648 ≤ T 103 p 14) (hz9 : lz_ (T 190 (T 103 p 14) (-2))) : Ct_ yX3_keepRow zX3_keepRow T [vR 103 p, vI k, vI s, vI v, vI w] (po_X3_keepRow_e T p k s v w) := by
  refine ct_of pn_3 rfl rfl (Nat.le_of_ble_eq_true rfl) (fun hT hav => ?_)
  have hr_k : -2147483648 ≤ k ∧ k ≤ 2147483647 := hav (vI k) (List.mem_cons_of_mem _ List.mem_cons_self)
  have hr_s : -2147483648 ≤ s ∧ s ≤ 2147483647 := hav (vI s) (List.mem_cons_of_mem _ (List.mem_cons_of_mem _ List.mem_cons_self))
  have hr_v : -2147483648 ≤ v ∧ v ≤ 2147483647 := hav (vI v) (List.mem_cons_of_mem _ (List.mem_cons_of_mem _ (List.mem_cons_of_mem _ List.mem_cons_self)))
  have hr_w : -2147483648 ≤ w ∧ w ≤ 2147483647 := hav (vI w) (List.mem_cons_of_mem _ (List.mem_cons_of_mem _ (List.mem_cons_of_mem _ (List.mem_cons_of_mem _ List.mem_cons_self))))
  have hz : zX3_keepRow.2.2.2.1 = some .boolean → ∀ (T' : Zt) (x : Int), po_X3_keepRow_e T p k s v w T' (some (vI x)) → 0 ≤ x ∧ x ≤ 1 := fun h => by cases h
  have hb9 := lz_b hz9
  show J_ zX3_keepRow T (po_X3_keepRow_e T p k s v w) 1 2048 0 [some (vR 103 p), some (vI k), some (vI s), some (vI v), some (vI w)] [] T
  refine j_blx (F := fX3) tb_X3 (nn_ _) bk_X3_keepRow_e_0 bs_X3_keepRow_e_0 hz (fun K hK => ?_)
  intro b1 b1b
  refine rg_i (by omega) ?_
  refine rg_i (by omega) ?_
  intro b3 b3b
  refine And.intro (fun c4 => ?_) (fun c4 => ?_)
  · refine hK 34 _ [] T ?_
    refine j_blx (F := fX3) tb_X3 (nn_ _) bk_X3_keepRow_e_34 bs_X3_keepRow_e_34 hz (fun K hK => ?_)
    intro b6 b6b
    refine hK 47 _ [vI w, vI v, vI s, vI k, vI (T 103 p 15), vR 190 (T 103 p 14)] T ?_
    refine j_callS (y := yX3_writeRow) (Yc := zX3_writeRow) (rest := []) [vR 190 (T 103 p 14), vI (T 103 p 15), vI k, vI s, vI v, vI w] (ct_X3_writeRow_e (T := T) (by omega)) cl_X3_161 (qd_c (by decide +kernel)) (nn_ _) rfl (rf_of rfl) (Nat.le_of_ble_eq_true rfl) (Nat.le_of_ble_eq_true rfl) (Nat.le_of_ble_eq_true rfl) rfl ?_
    rintro U7 _ ⟨rfl, fU7, lU7, wU7, rU7⟩
    show J_ zX3_keepRow T (po_X3_keepRow_e T p k s v w) 1 2048 50 _ [] U7
    refine j_blx (F := fX3) tb_X3 (nn_ _) bk_X3_keepRow_e_50 bs_X3_keepRow_e_50 hz (fun K hK => ?_)
    intro b8 b8b
    have e9 : U7 103 p 15 = T 103 p 15 := fU7 103 p 15 rfl
    rw [e9] at b8 b8b ⊢
    refine rg_i (by omega) ?_
    refine bd_i (by omega) ?_
    refine x_nm (fun U10 hU10 => ?_)
    have e11 := up_f hU10
    refine (show po_X3_keepRow_e T p k s v w U10 (none) from ?_)
    have e12 : U10 103 p 15 = (T 103 p 15) + 1 := up_f hU10
    have e13 : U10 103 p 14 = T 103 p 14 := (up_j hU10 (by decide) 103 p).trans (fU7 103 p 14 rfl)
    have e14 : U10 191 0 0 = T 191 0 0 := (up_k hU10 (by exact Nat.ne_of_beq_eq_false rfl) 0 0).trans (fU7 191 0 0 rfl)
    have e15 : U10 103 p 14 = T 103 p 14 := (up_j hU10 (by decide) 103 p).trans (fU7 103 p 14 rfl)
    have e16 : U10 103 p 15 = (T 103 p 15) + 1 := up_f hU10
    have d1 : U10 103 p 14 = T 103 p 14 := by omega
    have d2 : U10 190 (U10 103 p 14) (-2) = T 190 (T 103 p 14) (-2) := by rw [d1]; exact (up_k hU10 (by exact Nat.ne_of_beq_eq_false rfl) _ (-2)).trans (lU7 _)
    have e17 : U10 191 0 0 = T 191 0 0 := (up_k hU10 (by exact Nat.ne_of_beq_eq_false rfl) 0 0).trans (fU7 191 0 0 rfl)
    have d6 : lz_ (U10 190 (U10 103 p 14) (-2)) := by rw [d2]; exact hz9
    have b1 : ra9_ U10 (U10 103 p 14) (T 103 p 15) = (k, s, v, w) := by
      rw [d1, ra_k (T := U7) (fun _ => up_k hU10 (by exact Nat.ne_of_beq_eq_false rfl) _ _)]
      exact rU7
    have b2 : hr9_ U10 (U10 103 p 14) (U10 103 p 15).toNat = hr9_ T (T 103 p 14) (T 103 p 15).toNat ++ [(k, s, v, w)] := hrw_k (by omega) (by omega) (fun j j0 j1 => by
      rw [d1]
      exact (up_k hU10 (by exact Nat.ne_of_beq_eq_false rfl) _ _).trans (wU7 _ _ (fun z => by omega))) b1
    exact ⟨rfl, fr_u (fr_t (fr_0 _ _) (fr_s fU7 rfl)) hU10 rfl, oq_u (oq_1 (oq_r) fU7) hU10, by omega, fun x hx => (up_k hU10 (by exact Nat.ne_of_beq_eq_false rfl) _ (-2)).trans (lU7 _), by omega, by omega, d6, by omega, by omega, by omega, fun x j h1 h2 => (up_k hU10 (by exact Nat.ne_of_beq_eq_false rfl) _ _).trans (wU7 _ _ (fun z => by omega)), by omega, b2⟩
  · have hg9 : T 190 (T 103 p 14) (-2) ≤ 1024 := lz_h hz9 (by omega)
    intro b20 b20b
    refine rg_i (by omega) ?_
    refine hK 28 _ [vI ((T 190 (T 103 p 14) (-2)) * 2), vR 190 (T 103 p 14), vR 103 p] T ?_
    refine j_callS (pc := 28) (y := yJ7_copyOf_59c91) (Yc := (zJ7_copyOf_59c91 1024)) (rest := [vR 103 p]) [vR 190 (T 103 p 14), vI ((T 190 (T 103 p 14) (-2)) * 2)] (ct_J7_copyOf_e (T := T) (sl := 1024) (by omega) (by omega) (by omega)) (cl_X3_157 _) (qd_c (by decide +kernel)) (by decide) rfl rfl (Nat.le_of_ble_eq_true rfl) (by first | decide | (simp only [zJ7_copyOf_59c91]; omega)) (by first | decide | (simp only [zJ7_copyOf_59c91]; omega)) rfl ?_
    rintro U21 _ ⟨rfl, fU21, aU21, lU21, oU21, cU21⟩
    show J_ zX3_keepRow T (po_X3_keepRow_e T p k s v w) 0 0 31 _ [vR 190 (T 191 0 0), vR 103 p] U21
    refine j_putV (pc := 31) (ci := 3) (j := 14) (z := T 191 0 0) (by decide) fr5_X3_36 tl_3_14 (by decide +kernel) rfl (by omega) (by omega) ?_
    refine j_nm (fun U22 hU22 => ?_)
    have e23 := up_f hU22
    show J_ zX3_keepRow T (po_X3_keepRow_e T p k s v w) 0 0 34 _ [] U22
    refine j_blx (F := fX3) tb_X3 (nn_ _) bk_X3_keepRow_e_34 bs_X3_keepRow_e_34 hz (fun K hK => ?_)
    have e25 : U22 103 p 14 = T 191 0 0 := up_f hU22
    intro b26 b26b
    have e27 : U22 103 p 15 = T 103 p 15 := (up_j hU22 (by decide) 103 p).trans (fU21 103 p 15 rfl)
    rw [e27] at b26 b26b ⊢
    refine hK 47 _ [vI w, vI v, vI s, vI k, vI (T 103 p 15), vR 190 (U22 103 p 14)] U22 ?_
    have y28 : U22 190 (U22 103 p 14) (-2) = (T 190 (T 103 p 14) (-2)) * 2 := by rw [e25]; exact (up_k hU22 (by exact Nat.ne_of_beq_eq_false rfl) _ (-2)).trans lU21
    refine j_callS (y := yX3_writeRow) (Yc := zX3_writeRow) (rest := []) [vR 190 (U22 103 p 14), vI (T 103 p 15), vI k, vI s, vI v, vI w] (ct_X3_writeRow_e (T := U22) (by omega)) cl_X3_161 (qd_c (by decide +kernel)) (nn_ _) rfl (rf_of rfl) (Nat.le_of_ble_eq_true rfl) (Nat.le_of_ble_eq_true rfl) (Nat.le_of_ble_eq_true rfl) rfl ?_
    rintro U29 _ ⟨rfl, fU29, lU29, wU29, rU29⟩
    show J_ zX3_keepRow T (po_X3_keepRow_e T p k s v w) 0 0 50 _ [] U29
    refine j_blx (F := fX3) tb_X3 (nn_ _) bk_X3_keepRow_e_50 bs_X3_keepRow_e_50 hz (fun K hK => ?_)
    intro b30 b30b
    have e31 : U29 103 p 15 = T 103 p 15 := (fU29 103 p 15 rfl).trans ((up_j hU22 (by decide) 103 p).trans (fU21 103 p 15 rfl))
    rw [e31] at b30 b30b ⊢
    refine rg_i (by omega) ?_
    refine bd_i (by omega) ?_
    refine x_nm (fun U32 hU32 => ?_)
    have e33 := up_f hU32
    refine (show po_X3_keepRow_e T p k s v w U32 (none) from ?_)
    have e34 : U32 103 p 15 = (T 103 p 15) + 1 := up_f hU32
    have e35 : U32 103 p 14 = T 191 0 0 := (up_j hU32 (by decide) 103 p).trans ((fU29 103 p 14 rfl).trans (up_f hU22))
    have e36 : U32 191 0 0 = U21 191 0 0 := (up_k hU32 (by exact Nat.ne_of_beq_eq_false rfl) 0 0).trans ((fU29 191 0 0 rfl).trans (up_k hU22 (by exact Nat.ne_of_beq_eq_false rfl) 0 0))
    have e37 : U32 103 p 14 = T 191 0 0 := (up_j hU32 (by decide) 103 p).trans ((fU29 103 p 14 rfl).trans (up_f hU22))
    have e38 : U32 103 p 15 = (T 103 p 15) + 1 := up_f hU32
    have d1 : U32 103 p 14 = T 191 0 0 := by omega
    have d2 : U32 190 (U32 103 p 14) (-2) = (T 190 (T 103 p 14) (-2)) * 2 := by rw [d1]; exact ((up_k hU32 (by exact Nat.ne_of_beq_eq_false rfl) _ (-2)).trans ((lU29 _).trans (up_k hU22 (by exact Nat.ne_of_beq_eq_false rfl) _ (-2)))).trans lU21
    have e39 : U32 191 0 0 = U21 191 0 0 := (up_k hU32 (by exact Nat.ne_of_beq_eq_false rfl) 0 0).trans ((fU29 191 0 0 rfl).trans (up_k hU22 (by exact Nat.ne_of_beq_eq_false rfl) 0 0))
    have d5 : T 190 (T 103 p 14) (-2) < 2048 := by omega
    have d6 : lz_ (U32 190 (U32 103 p 14) (-2)) := by rw [d2, show (T 190 (T 103 p 14) (-2)) * 2 = 2 * (T 190 (T 103 p 14) (-2)) by omega]; exact lz_d hz9 d5
    have b1 : ra9_ U32 (U32 103 p 14) (T 103 p 15) = (k, s, v, w) := by
      rw [d1, ra_k (T := U29) (fun _ => up_k hU32 (by exact Nat.ne_of_beq_eq_false rfl) _ _)]
      rw [← e25]
      exact rU29
    have b2 : hr9_ U32 (U32 103 p 14) (U32 103 p 15).toNat = hr9_ T (T 103 p 14) (T 103 p 15).toNat ++ [(k, s, v, w)] := hrw_k (by omega) (by omega) (fun j j0 j1 => by
      rw [d1]
      exact ((up_k hU32 (by exact Nat.ne_of_beq_eq_false rfl) _ _).trans ((wU29 _ _ (fun z => by omega)).trans (up_k hU22 (by exact Nat.ne_of_beq_eq_false rfl) _ _))).trans (cU21 j j0 (by omega))) b1
    exact ⟨rfl, fr_u (fr_t (fr_u (fr_t (fr_0 _ _) (fr_s fU21 rfl)) hU22 rfl) (fr_s fU29 rfl)) hU32 rfl, oq_u (oq_1 (oq_u (oq_9 (oq_r) fU21) hU22) fU29) hU32, by omega, fun x hx => ((up_k hU32 (by exact Nat.ne_of_beq_eq_false rfl) _ (-2)).trans ((lU29 _).trans (up_k hU22 (by exact Nat.ne_of_beq_eq_false rfl) _ (-2)))).trans (oU21 x (-2) (by omega)), by omega, by omega, d6, by omega, by omega, by omega, fun x j h1 h2 => (up_k hU32 (by exact Nat.ne_of_beq_eq_false rfl) _ _).trans ((wU29 _ _ (fun z => by omega)).trans ((up_k hU22 (by exact Nat.ne_of_beq_eq_false rfl) _ _).trans (oU21 _ _ (by omega)))), by omega, b2⟩
abbrev po_X3_keepRow0_e (T : Zt) (p : Int) (k s v w : Int) : Zt → Option Zv → Prop := fun T' r => r = none ∧ fr_ [(103, [15]), (190, [])] T T' ∧ (oq_ T T' p ∧ T' 103 p 15 = T 103 p 15 + 1 ∧ (∀ x, x < T 191 0 0 → T' 190 x (-2) = T 190 x (-2)) ∧ (∀ x j, ¬ (x = T 103 p 14 ∧ T 103 p 15 * 4 ≤ j ∧ j < T 103 p 15 * 4 + 4) → T' 190 x j = T 190 x j) ∧ hr9_ T' (T' 103 p 14) (T' 103 p 15).toNat = hr9_ T (T 103 p 14) (T 103 p 15).toNat ++ [(k, s, v, w)])
set_option maxHeartbeats 4000000 in
theorem ct_X3_keepRow0_e {T : Zt} {p : Int} {k s v w : Int} (h1 : 0 ≤ T 103 p 15 ∧ T 103 p 15 < 512 ∧ 4 * T 103 p 15 ≤ T 190 (T 103 p 14) (-2)) (h2 : T 103 p 14 < T 191 0 0 ∧ T 191 0 0 ≤ 2000000000 ∧ -2147483648 ≤ T 103 p 14) (h3 : 4 * T 103 p 15 + 4 ≤ T 190 (T 103 p 14) (-2)) : Ct_ yX3_keepRow zX3_keepRow0 T [vR 103 p, vI k, vI s, vI v, vI w] (po_X3_keepRow0_e T p k s v w) := by
  refine ct_of pn_3 rfl rfl (Nat.le_of_ble_eq_true rfl) (fun hT hav => ?_)
  have hr_k : -2147483648 ≤ k ∧ k ≤ 2147483647 := hav (vI k) (List.mem_cons_of_mem _ List.mem_cons_self)
  have hr_s : -2147483648 ≤ s ∧ s ≤ 2147483647 := hav (vI s) (List.mem_cons_of_mem _ (List.mem_cons_of_mem _ List.mem_cons_self))
  have hr_v : -2147483648 ≤ v ∧ v ≤ 2147483647 := hav (vI v) (List.mem_cons_of_mem _ (List.mem_cons_of_mem _ (List.mem_cons_of_mem _ List.mem_cons_self)))
  have hr_w : -2147483648 ≤ w ∧ w ≤ 2147483647 := hav (vI w) (List.mem_cons_of_mem _ (List.mem_cons_of_mem _ (List.mem_cons_of_mem _ (List.mem_cons_of_mem _ List.mem_cons_self))))
  have hz : zX3_keepRow0.2.2.2.1 = some .boolean → ∀ (T' : Zt) (x : Int), po_X3_keepRow0_e T p k s v w T' (some (vI x)) → 0 ≤ x ∧ x ≤ 1 := fun h => by cases h
  show J_ zX3_keepRow0 T (po_X3_keepRow0_e T p k s v w) 0 0 0 [some (vR 103 p), some (vI k), some (vI s), some (vI v), some (vI w)] [] T
  refine j_blx (F := fX3) tb_X3 (nn_ _) bk_X3_keepRow_e_0 bs_X3_keepRow_e_0 hz (fun K hK => ?_)
  intro b1 b1b
  refine rg_i (by omega) ?_
  refine rg_i (by omega) ?_
  intro b3 b3b
  refine And.intro (fun c4 => ?_) (fun c4 => ?_)
  · refine hK 34 _ [] T ?_
    refine j_blx (F := fX3) tb_X3 (nn_ _) bk_X3_keepRow_e_34 bs_X3_keepRow_e_34 hz (fun K hK => ?_)
    intro b6 b6b
    refine hK 47 _ [vI w, vI v, vI s, vI k, vI (T 103 p 15), vR 190 (T 103 p 14)] T ?_
    refine j_callS (y := yX3_writeRow) (Yc := zX3_writeRow) (rest := []) [vR 190 (T 103 p 14), vI (T 103 p 15), vI k, vI s, vI v, vI w] (ct_X3_writeRow_e (T := T) (by omega)) cl_X3_161 (qd_c (by decide +kernel)) (nn_ _) rfl (rf_of rfl) (Nat.le_of_ble_eq_true rfl) (Nat.le_of_ble_eq_true rfl) (Nat.le_of_ble_eq_true rfl) rfl ?_
    rintro U7 _ ⟨rfl, fU7, lU7, wU7, rU7⟩
    show J_ zX3_keepRow0 T (po_X3_keepRow0_e T p k s v w) 0 0 50 _ [] U7
    refine j_blx (F := fX3) tb_X3 (nn_ _) bk_X3_keepRow_e_50 bs_X3_keepRow_e_50 hz (fun K hK => ?_)
    intro b8 b8b
    have e9 : U7 103 p 15 = T 103 p 15 := fU7 103 p 15 rfl
    rw [e9] at b8 b8b ⊢
    refine rg_i (by omega) ?_
    refine bd_i (by omega) ?_
    refine x_nm (fun U10 hU10 => ?_)
    have e11 := up_f hU10
    refine (show po_X3_keepRow0_e T p k s v w U10 (none) from ?_)
    have e12 : U10 103 p 15 = (T 103 p 15) + 1 := up_f hU10
    have e13 : U10 103 p 14 = T 103 p 14 := (up_j hU10 (by decide) 103 p).trans (fU7 103 p 14 rfl)
    have e14 : U10 103 p 14 = T 103 p 14 := (up_j hU10 (by decide) 103 p).trans (fU7 103 p 14 rfl)
    have e15 : U10 103 p 15 = (T 103 p 15) + 1 := up_f hU10
    have d1 : U10 103 p 14 = T 103 p 14 := by omega
    have b1 : ra9_ U10 (U10 103 p 14) (T 103 p 15) = (k, s, v, w) := by
      rw [d1, ra_k (T := U7) (fun _ => up_k hU10 (by exact Nat.ne_of_beq_eq_false rfl) _ _)]
      exact rU7
    have b2 : hr9_ U10 (U10 103 p 14) (U10 103 p 15).toNat = hr9_ T (T 103 p 14) (T 103 p 15).toNat ++ [(k, s, v, w)] := hrw_k (by omega) (by omega) (fun j j0 j1 => by
      rw [d1]
      exact (up_k hU10 (by exact Nat.ne_of_beq_eq_false rfl) _ _).trans (wU7 _ _ (fun z => by omega))) b1
    exact ⟨rfl, fr_u (fr_t (fr_0 _ _) (fr_s fU7 rfl)) hU10 rfl, oq_u (oq_1 (oq_r) fU7) hU10, by omega, fun x hx => (up_k hU10 (by exact Nat.ne_of_beq_eq_false rfl) _ (-2)).trans (lU7 _), fun x j hx => (up_k hU10 (by exact Nat.ne_of_beq_eq_false rfl) _ _).trans (wU7 _ _ (fun z => hx (by omega))), b2⟩
  · exact absurd c4 (by omega)
theorem bk_X3_putAside_e_0 : ck_ fX3 none cX3_putAside 0 [.aload 0, .tableswitch 0 3 17 #[], .iconst 4, .imul, .iconst 4, .iadd, .aload 0, .tableswitch 0 3 16 #[], .arraylength, .if_icmp .le 34, .aload 0, .aload 0, .tableswitch 0 3 16 #[], .aload 0, .tableswitch 0 3 16 #[], .arraylength, .iconst 2, .imul] 28 = true := qck_r (nn_ _) (by decide +kernel)
theorem bs_X3_putAside_e_0 {P : Zt → Option Zv → Prop} (K : Int → Zl → List Zv → Zt → Prop) : sx_ K P [.aload 0, .tableswitch 0 3 17 #[], .iconst 4, .imul, .iconst 4, .iadd, .aload 0, .tableswitch 0 3 16 #[], .arraylength, .if_icmp .le 34, .aload 0, .aload 0, .tableswitch 0 3 16 #[], .aload 0, .tableswitch 0 3 16 #[], .arraylength, .iconst 2, .imul] 28 = x_aload 0 (x_g0 103 17 0 3000 (x_iconst 4 (x_imul (x_iconst 4 (x_iadd (x_aload 0 (x_g3 103 190 16 (x_arraylength (x_if_icmp .le 34 K (x_aload 0 (x_aload 0 (x_g3 103 190 16 (x_aload 0 (x_g3 103 190 16 (x_arraylength (x_iconst 2 (x_imul (K 28)))))))))))))))))) := ((xe_aload 0).trans (congrArg (x_aload 0) ((xe_g0 (kk := 103) rfl tl_3_17).trans (congrArg (x_g0 103 17 0 3000) ((xe_iconst 4).trans (congrArg (x_iconst 4) ((xe_imul).trans (congrArg (x_imul) ((xe_iconst 4).trans (congrArg (x_iconst 4) ((xe_iadd).trans (congrArg (x_iadd) ((xe_aload 0).trans (congrArg (x_aload 0) ((xe_g3 (kk := 103) rfl tl_3_16).trans (congrArg (x_g3 103 190 16) ((xe_arraylength).trans (congrArg (x_arraylength) ((xe_if_icmp .le 34).trans (congrArg (x_if_icmp .le 34 K) ((xe_aload 0).trans (congrArg (x_aload 0) ((xe_aload 0).trans (congrArg (x_aload 0) ((xe_g3 (kk := 103) rfl tl_3_16).trans (congrArg (x_g3 103 190 16) ((xe_aload 0).trans (congrArg (x_aload 0) ((xe_g3 (kk := 103) rfl tl_3_16).trans (congrArg (x_g3 103 190 16) ((xe_arraylength).trans (congrArg (x_arraylength) ((xe_iconst 2).trans (congrArg (x_iconst 2) ((xe_imul).trans (congrArg (x_imul) xe_nil))))))))))))))))))))))))))))))))))))
theorem bk_X3_putAside_e_34 : ck_ fX3 none cX3_putAside 34 [.aload 0, .tableswitch 0 3 16 #[], .aload 0, .tableswitch 0 3 17 #[], .iload 1, .iload 2, .iload 3, .iload 4] 47 = true := qck_r (nn_ _) (by decide +kernel)
theorem bs_X3_putAside_e_34 {P : Zt → Option Zv → Prop} (K : Int → Zl → List Zv → Zt → Prop) : sx_ K P [.aload 0, .tableswitch 0 3 16 #[], .aload 0, .tableswitch 0 3 17 #[], .iload 1, .iload 2, .iload 3, .iload 4] 47 = x_aload 0 (x_g3 103 190 16 (x_aload 0 (x_g0 103 17 0 3000 (x_iload 1 (x_iload 2 (x_iload 3 (x_iload 4 (K 47)))))))) := ((xe_aload 0).trans (congrArg (x_aload 0) ((xe_g3 (kk := 103) rfl tl_3_16).trans (congrArg (x_g3 103 190 16) ((xe_aload 0).trans (congrArg (x_aload 0) ((xe_g0 (kk := 103) rfl tl_3_17).trans (congrArg (x_g0 103 17 0 3000) ((xe_iload 1).trans (congrArg (x_iload 1) ((xe_iload 2).trans (congrArg (x_iload 2) ((xe_iload 3).trans (congrArg (x_iload 3) ((xe_iload 4).trans (congrArg (x_iload 4) xe_nil))))))))))))))))
theorem bk_X3_putAside_e_50 : ck_ fX3 none cX3_putAside 50 [.aload 0, .dup, .tableswitch 0 3 17 #[], .iconst 1, .iadd, .tableswitch 1 3 17 #[], .return_] 61 = true := qck_r (nn_ _) (by decide +kernel)
theorem bs_X3_putAside_e_50 {P : Zt → Option Zv → Prop} (K : Int → Zl → List Zv → Zt → Prop) : sx_ K P [.aload 0, .dup, .tableswitch 0 3 17 #[], .iconst 1, .iadd, .tableswitch 1 3 17 #[], .return_] 61 = x_aload 0 (x_dup (x_g0 103 17 0 3000 (x_iconst 1 (x_iadd (x_p 103 17 0 3000 (x_return_ P)))))) := ((xe_aload 0).trans (congrArg (x_aload 0) ((xe_dup).trans (congrArg (x_dup) ((xe_g0 (kk := 103) rfl tl_3_17).trans (congrArg (x_g0 103 17 0 3000) ((xe_iconst 1).trans (congrArg (x_iconst 1) ((xe_iadd).trans (congrArg (x_iadd) ((xe_p (kk := 103) rfl tl_3_17).trans (congrArg (x_p 103 17 0 3000) (xe_return_)))))))))))))
abbrev po_X3_putAside0_e (T : Zt) (p : Int) (k s v w : Int) : Zt → Option Zv → Prop := fun T' r => r = none ∧ fr_ [(103, [17]), (190, [])] T T' ∧ (oq_ T T' p ∧ T' 103 p 17 = T 103 p 17 + 1 ∧ (∀ x, x < T 191 0 0 → T' 190 x (-2) = T 190 x (-2)) ∧ (∀ x j, ¬ (x = T 103 p 16 ∧ T 103 p 17 * 4 ≤ j ∧ j < T 103 p 17 * 4 + 4) → T' 190 x j = T 190 x j))
set_option maxHeartbeats 4000000 in
theorem ct_X3_putAside0_e {T : Zt} {p : Int} {k s v w : Int} (h1 : 0 ≤ T 103 p 17 ∧ T 103 p 17 < 512 ∧ 4 * T 103 p 17 ≤ T 190 (T 103 p 16) (-2)) (h2 : T 103 p 16 < T 191 0 0 ∧ T 191 0 0 ≤ 2000000000 ∧ -2147483648 ≤ T 103 p 16) (h3 : 4 * T 103 p 17 + 4 ≤ T 190 (T 103 p 16) (-2)) : Ct_ yX3_putAside zX3_putAside0 T [vR 103 p, vI k, vI s, vI v, vI w] (po_X3_putAside0_e T p k s v w) := by
  refine ct_of pn_3 rfl rfl (Nat.le_of_ble_eq_true rfl) (fun hT hav => ?_)
  have hr_k : -2147483648 ≤ k ∧ k ≤ 2147483647 := hav (vI k) (List.mem_cons_of_mem _ List.mem_cons_self)
  have hr_s : -2147483648 ≤ s ∧ s ≤ 2147483647 := hav (vI s) (List.mem_cons_of_mem _ (List.mem_cons_of_mem _ List.mem_cons_self))
  have hr_v : -2147483648 ≤ v ∧ v ≤ 2147483647 := hav (vI v) (List.mem_cons_of_mem _ (List.mem_cons_of_mem _ (List.mem_cons_of_mem _ List.mem_cons_self)))
  have hr_w : -2147483648 ≤ w ∧ w ≤ 2147483647 := hav (vI w) (List.mem_cons_of_mem _ (List.mem_cons_of_mem _ (List.mem_cons_of_mem _ (List.mem_cons_of_mem _ List.mem_cons_self))))
  have hz : zX3_putAside0.2.2.2.1 = some .boolean → ∀ (T' : Zt) (x : Int), po_X3_putAside0_e T p k s v w T' (some (vI x)) → 0 ≤ x ∧ x ≤ 1 := fun h => by cases h
  show J_ zX3_putAside0 T (po_X3_putAside0_e T p k s v w) 0 0 0 [some (vR 103 p), some (vI k), some (vI s), some (vI v), some (vI w)] [] T
  refine j_blx (F := fX3) tb_X3 (nn_ _) bk_X3_putAside_e_0 bs_X3_putAside_e_0 hz (fun K hK => ?_)
  intro b1 b1b
  refine rg_i (by omega) ?_
  refine rg_i (by omega) ?_
  intro b3 b3b
  refine And.intro (fun c4 => ?_) (fun c4 => ?_)
  · refine hK 34 _ [] T ?_
    refine j_blx (F := fX3) tb_X3 (nn_ _) bk_X3_putAside_e_34 bs_X3_putAside_e_34 hz (fun K hK => ?_)
    intro b6 b6b
    refine hK 47 _ [vI w, vI v, vI s, vI k, vI (T 103 p 17), vR 190 (T 103 p 16)] T ?_
    refine j_callS (y := yX3_writeRow) (Yc := zX3_writeRow) (rest := []) [vR 190 (T 103 p 16), vI (T 103 p 17), vI k, vI s, vI v, vI w] (ct_X3_writeRow_e (T := T) (by omega)) cl_X3_161 (qd_c (by decide +kernel)) (nn_ _) rfl (rf_of rfl) (Nat.le_of_ble_eq_true rfl) (Nat.le_of_ble_eq_true rfl) (Nat.le_of_ble_eq_true rfl) rfl ?_
    rintro U7 _ ⟨rfl, fU7, lU7, wU7, rU7⟩
    show J_ zX3_putAside0 T (po_X3_putAside0_e T p k s v w) 0 0 50 _ [] U7
    refine j_blx (F := fX3) tb_X3 (nn_ _) bk_X3_putAside_e_50 bs_X3_putAside_e_50 hz (fun K hK => ?_)
    intro b8 b8b
    have e9 : U7 103 p 17 = T 103 p 17 := fU7 103 p 17 rfl
    rw [e9] at b8 b8b ⊢
    refine rg_i (by omega) ?_
    refine bd_i (by omega) ?_
    refine x_nm (fun U10 hU10 => ?_)
    have e11 := up_f hU10
    refine (show po_X3_putAside0_e T p k s v w U10 (none) from ?_)
    have e12 : U10 103 p 17 = (T 103 p 17) + 1 := up_f hU10
    have e13 : U10 103 p 16 = T 103 p 16 := (up_j hU10 (by decide) 103 p).trans (fU7 103 p 16 rfl)
    have e14 : U10 103 p 17 = (T 103 p 17) + 1 := up_f hU10
    have d1 : U10 103 p 16 = T 103 p 16 := by omega
    exact ⟨rfl, fr_u (fr_t (fr_0 _ _) (fr_s fU7 rfl)) hU10 rfl, oq_u (oq_1 (oq_r) fU7) hU10, by omega, fun x hx => (up_k hU10 (by exact Nat.ne_of_beq_eq_false rfl) _ (-2)).trans (lU7 _), fun x j hx => (up_k hU10 (by exact Nat.ne_of_beq_eq_false rfl) _ _).trans (wU7 _ _ (fun z => hx (by omega)))⟩
  · exact absurd c4 (by omega)
abbrev po_X3_putAsideD_e (T : Zt) (p : Int) (sl : Nat) (k s v w : Int) : Zt → Option Zv → Prop := fun T' r => r = none ∧ fr_ [(103, [16, 17]), (190, []), (191, [0])] T T' ∧ (oq_ T T' p ∧ T' 103 p 17 = T 103 p 17 + 1 ∧ (∀ x, x < T 191 0 0 → T' 190 x (-2) = T 190 x (-2)) ∧ T 191 0 0 ≤ T' 191 0 0 ∧ T' 191 0 0 ≤ T 191 0 0 + 1 ∧ lz_ (T' 190 (T' 103 p 16) (-2)) ∧ T' 103 p 16 < T' 191 0 0 ∧ 4 * (T 103 p 17 + 1) ≤ T' 190 (T' 103 p 16) (-2) ∧ T' 190 (T' 103 p 16) (-2) ≤ 2 * T 190 (T 103 p 16) (-2) ∧ (∀ x j, x < T 191 0 0 → x ≠ T 103 p 16 → T' 190 x j = T 190 x j) ∧ (T' 103 p 16 = T 103 p 16 ∨ T' 103 p 16 = T 191 0 0))
set_option maxHeartbeats 4000000 in
theorem ct_X3_putAsideD_e {T : Zt} {p : Int} {sl : Nat} {k s v w : Int} (h1 : 0 ≤ T 103 p 17 ∧ T 103 p 17 < 512 ∧ 4 * T 103 p 17 ≤ T 190 (T 103 p 16) (-2)) (h2 : T 103 p 16 < T 191 0 0 ∧ T 191 0 0 ≤ 2000000000 ∧ -2147483648 ≤ T 103 p 16) (hz9 : lz_ (T 190 (T 103 p 16) (-2))) (hsl : T 190 (T 103 p 16) (-2) ≤ (sl : Int)) : Ct_ yX3_putAside (zX3_putAsideD sl) T [vR 103 p, vI k, vI s, vI v, vI w] (po_X3_putAsideD_e T p sl k s v w) := by
  refine ct_of pn_3 rfl rfl (Nat.le_of_ble_eq_true rfl) (fun hT hav => ?_) (hi := fun h => absurd ((im_ev _).symm.trans h) (by decide))
  have hr_k : -2147483648 ≤ k ∧ k ≤ 2147483647 := hav (vI k) (List.mem_cons_of_mem _ List.mem_cons_self)
  have hr_s : -2147483648 ≤ s ∧ s ≤ 2147483647 := hav (vI s) (List.mem_cons_of_mem _ (List.mem_cons_of_mem _ List.mem_cons_self))
  have hr_v : -2147483648 ≤ v ∧ v ≤ 2147483647 := hav (vI v) (List.mem_cons_of_mem _ (List.mem_cons_of_mem _ (List.mem_cons_of_mem _ List.mem_cons_self)))
  have hr_w : -2147483648 ≤ w ∧ w ≤ 2147483647 := hav (vI w) (List.mem_cons_of_mem _ (List.mem_cons_of_mem _ (List.mem_cons_of_mem _ (List.mem_cons_of_mem _ List.mem_cons_self))))
  have hz : (zX3_putAsideD sl).2.2.2.1 = some .boolean → ∀ (T' : Zt) (x : Int), po_X3_putAsideD_e T p sl k s v w T' (some (vI x)) → 0 ≤ x ∧ x ≤ 1 := fun h => by cases h
  have hb9 := lz_b hz9
  show J_ (zX3_putAsideD sl) T (po_X3_putAsideD_e T p sl k s v w) 1 (2 * sl) 0 [some (vR 103 p), some (vI k), some (vI s), some (vI v), some (vI w)] [] T
  refine j_blx (F := fX3) tb_X3 (nn_ _) bk_X3_putAside_e_0 bs_X3_putAside_e_0 hz (fun K hK => ?_)
  intro b1 b1b
  refine rg_i (by omega) ?_
  refine rg_i (by omega) ?_
  intro b3 b3b
  refine And.intro (fun c4 => ?_) (fun c4 => ?_)
  · refine hK 34 _ [] T ?_
    refine j_blx (F := fX3) tb_X3 (nn_ _) bk_X3_putAside_e_34 bs_X3_putAside_e_34 hz (fun K hK => ?_)
    intro b6 b6b
    refine hK 47 _ [vI w, vI v, vI s, vI k, vI (T 103 p 17), vR 190 (T 103 p 16)] T ?_
    refine j_callS (pc := 47) (y := yX3_writeRow) (Yc := zX3_writeRow) (rest := []) [vR 190 (T 103 p 16), vI (T 103 p 17), vI k, vI s, vI v, vI w] (ct_X3_writeRow_e (T := T) (by omega)) cl_X3_161 (by show decode cX3_putAside (Int.toNat 47) = _; decide +kernel) (by decide) rfl rfl (Nat.le_of_ble_eq_true rfl) (by first | decide | (simp only [zX3_writeRow]; omega)) (by first | decide | (simp only [zX3_writeRow]; omega)) rfl ?_
    rintro U7 _ ⟨rfl, fU7, lU7, wU7, rU7⟩
    show J_ (zX3_putAsideD sl) T (po_X3_putAsideD_e T p sl k s v w) 1 (2 * sl) 50 _ [] U7
    refine j_blx (F := fX3) tb_X3 (nn_ _) bk_X3_putAside_e_50 bs_X3_putAside_e_50 hz (fun K hK => ?_)
    intro b8 b8b
    have e9 : U7 103 p 17 = T 103 p 17 := fU7 103 p 17 rfl
    rw [e9] at b8 b8b ⊢
    refine rg_i (by omega) ?_
    refine bd_i (by omega) ?_
    refine x_nm (fun U10 hU10 => ?_)
    have e11 := up_f hU10
    refine (show po_X3_putAsideD_e T p sl k s v w U10 (none) from ?_)
    have e12 : U10 103 p 17 = (T 103 p 17) + 1 := up_f hU10
    have e13 : U10 103 p 16 = T 103 p 16 := (up_j hU10 (by decide) 103 p).trans (fU7 103 p 16 rfl)
    have e14 : U10 191 0 0 = T 191 0 0 := (up_k hU10 (by exact Nat.ne_of_beq_eq_false rfl) 0 0).trans (fU7 191 0 0 rfl)
    have e15 : U10 103 p 16 = T 103 p 16 := (up_j hU10 (by decide) 103 p).trans (fU7 103 p 16 rfl)
    have e16 : U10 103 p 17 = (T 103 p 17) + 1 := up_f hU10
    have d1 : U10 103 p 16 = T 103 p 16 := by omega
    have d2 : U10 190 (U10 103 p 16) (-2) = T 190 (T 103 p 16) (-2) := by rw [d1]; exact (up_k hU10 (by exact Nat.ne_of_beq_eq_false rfl) _ (-2)).trans (lU7 _)
    have e17 : U10 191 0 0 = T 191 0 0 := (up_k hU10 (by exact Nat.ne_of_beq_eq_false rfl) 0 0).trans (fU7 191 0 0 rfl)
    have d6 : lz_ (U10 190 (U10 103 p 16) (-2)) := by rw [d2]; exact hz9
    exact ⟨rfl, fr_u (fr_t (fr_0 _ _) (fr_s fU7 rfl)) hU10 rfl, oq_u (oq_1 (oq_r) fU7) hU10, by omega, fun x hx => (up_k hU10 (by exact Nat.ne_of_beq_eq_false rfl) _ (-2)).trans (lU7 _), by omega, by omega, d6, by omega, by omega, by omega, fun x j h1 h2 => (up_k hU10 (by exact Nat.ne_of_beq_eq_false rfl) _ _).trans (wU7 _ _ (fun z => by omega)), by omega⟩
  · have hg9 : T 190 (T 103 p 16) (-2) ≤ 1024 := lz_h hz9 (by omega)
    intro b20 b20b
    refine rg_i (by omega) ?_
    refine hK 28 _ [vI ((T 190 (T 103 p 16) (-2)) * 2), vR 190 (T 103 p 16), vR 103 p] T ?_
    refine j_callS (pc := 28) (y := yJ7_copyOf_59c91) (Yc := (zJ7_copyOf_59c91 sl)) (rest := [vR 103 p]) [vR 190 (T 103 p 16), vI ((T 190 (T 103 p 16) (-2)) * 2)] (ct_J7_copyOf_e (T := T) (sl := sl) (by omega) (by omega) (by omega)) (cl_X3_157 _) (by show decode cX3_putAside (Int.toNat 28) = _; decide +kernel) (by decide) rfl rfl (Nat.le_of_ble_eq_true rfl) (by first | decide | (simp only [zJ7_copyOf_59c91]; omega)) (by first | decide | (simp only [zJ7_copyOf_59c91]; omega)) rfl ?_
    rintro U21 _ ⟨rfl, fU21, aU21, lU21, oU21, cU21⟩
    show J_ (zX3_putAsideD sl) T (po_X3_putAsideD_e T p sl k s v w) 0 ((2 * sl) - (2 * sl)) 31 _ [vR 190 (T 191 0 0), vR 103 p] U21
    refine j_putV (pc := 31) (ci := 3) (j := 16) (z := T 191 0 0) (by decide) fr5_X3_39 tl_3_16 (by show decode cX3_putAside (Int.toNat 31) = _; decide +kernel) rfl (by omega) (by omega) ?_
    refine j_nm (fun U22 hU22 => ?_)
    have e23 := up_f hU22
    show J_ (zX3_putAsideD sl) T (po_X3_putAsideD_e T p sl k s v w) 0 ((2 * sl) - (2 * sl)) 34 _ [] U22
    refine j_blx (F := fX3) tb_X3 (nn_ _) bk_X3_putAside_e_34 bs_X3_putAside_e_34 hz (fun K hK => ?_)
    have e25 : U22 103 p 16 = T 191 0 0 := up_f hU22
    intro b26 b26b
    have e27 : U22 103 p 17 = T 103 p 17 := (up_j hU22 (by decide) 103 p).trans (fU21 103 p 17 rfl)
    rw [e27] at b26 b26b ⊢
    refine hK 47 _ [vI w, vI v, vI s, vI k, vI (T 103 p 17), vR 190 (U22 103 p 16)] U22 ?_
    have y28 : U22 190 (U22 103 p 16) (-2) = (T 190 (T 103 p 16) (-2)) * 2 := by rw [e25]; exact (up_k hU22 (by exact Nat.ne_of_beq_eq_false rfl) _ (-2)).trans lU21
    refine j_callS (pc := 47) (y := yX3_writeRow) (Yc := zX3_writeRow) (rest := []) [vR 190 (U22 103 p 16), vI (T 103 p 17), vI k, vI s, vI v, vI w] (ct_X3_writeRow_e (T := U22) (by omega)) cl_X3_161 (by show decode cX3_putAside (Int.toNat 47) = _; decide +kernel) (by decide) rfl rfl (Nat.le_of_ble_eq_true rfl) (by first | decide | (simp only [zX3_writeRow]; omega)) (by first | decide | (simp only [zX3_writeRow]; omega)) rfl ?_
    rintro U29 _ ⟨rfl, fU29, lU29, wU29, rU29⟩
    show J_ (zX3_putAsideD sl) T (po_X3_putAsideD_e T p sl k s v w) 0 ((2 * sl) - (2 * sl)) 50 _ [] U29
    refine j_blx (F := fX3) tb_X3 (nn_ _) bk_X3_putAside_e_50 bs_X3_putAside_e_50 hz (fun K hK => ?_)
    intro b30 b30b
    have e31 : U29 103 p 17 = T 103 p 17 := (fU29 103 p 17 rfl).trans ((up_j hU22 (by decide) 103 p).trans (fU21 103 p 17 rfl))
    rw [e31] at b30 b30b ⊢
    refine rg_i (by omega) ?_
    refine bd_i (by omega) ?_
    refine x_nm (fun U32 hU32 => ?_)
    have e33 := up_f hU32
    refine (show po_X3_putAsideD_e T p sl k s v w U32 (none) from ?_)
    have e34 : U32 103 p 17 = (T 103 p 17) + 1 := up_f hU32
    have e35 : U32 103 p 16 = T 191 0 0 := (up_j hU32 (by decide) 103 p).trans ((fU29 103 p 16 rfl).trans (up_f hU22))
    have e36 : U32 191 0 0 = U21 191 0 0 := (up_k hU32 (by exact Nat.ne_of_beq_eq_false rfl) 0 0).trans ((fU29 191 0 0 rfl).trans (up_k hU22 (by exact Nat.ne_of_beq_eq_false rfl) 0 0))
    have e37 : U32 103 p 16 = T 191 0 0 := (up_j hU32 (by decide) 103 p).trans ((fU29 103 p 16 rfl).trans (up_f hU22))
    have e38 : U32 103 p 17 = (T 103 p 17) + 1 := up_f hU32
    have d1 : U32 103 p 16 = T 191 0 0 := by omega
    have d2 : U32 190 (U32 103 p 16) (-2) = (T 190 (T 103 p 16) (-2)) * 2 := by rw [d1]; exact ((up_k hU32 (by exact Nat.ne_of_beq_eq_false rfl) _ (-2)).trans ((lU29 _).trans (up_k hU22 (by exact Nat.ne_of_beq_eq_false rfl) _ (-2)))).trans lU21
    have e39 : U32 191 0 0 = U21 191 0 0 := (up_k hU32 (by exact Nat.ne_of_beq_eq_false rfl) 0 0).trans ((fU29 191 0 0 rfl).trans (up_k hU22 (by exact Nat.ne_of_beq_eq_false rfl) 0 0))
    have d5 : T 190 (T 103 p 16) (-2) < 2048 := by omega
    have d6 : lz_ (U32 190 (U32 103 p 16) (-2)) := by rw [d2, show (T 190 (T 103 p 16) (-2)) * 2 = 2 * (T 190 (T 103 p 16) (-2)) by omega]; exact lz_d hz9 d5
    exact ⟨rfl, fr_u (fr_t (fr_u (fr_t (fr_0 _ _) (fr_s fU21 rfl)) hU22 rfl) (fr_s fU29 rfl)) hU32 rfl, oq_u (oq_1 (oq_u (oq_9 (oq_r) fU21) hU22) fU29) hU32, by omega, fun x hx => ((up_k hU32 (by exact Nat.ne_of_beq_eq_false rfl) _ (-2)).trans ((lU29 _).trans (up_k hU22 (by exact Nat.ne_of_beq_eq_false rfl) _ (-2)))).trans (oU21 x (-2) (by omega)), by omega, by omega, d6, by omega, by omega, by omega, fun x j h1 h2 => (up_k hU32 (by exact Nat.ne_of_beq_eq_false rfl) _ _).trans ((wU29 _ _ (fun z => by omega)).trans ((up_k hU22 (by exact Nat.ne_of_beq_eq_false rfl) _ _).trans (oU21 _ _ (by omega)))), by omega⟩
theorem bk_X3_isSameRow_e_0 : ck_ fX3 (some .boolean) cX3_isSameRow 0 [.aload 0, .tableswitch 0 3 14 #[], .iload 1, .iconst 4, .imul, .iaload, .iload 2, .if_icmp .ne 60, .aload 0, .tableswitch 0 3 14 #[], .iload 1, .iconst 4, .imul, .iconst 1, .iadd, .iaload, .iload 3, .if_icmp .ne 60, .aload 0, .tableswitch 0 3 14 #[], .iload 1, .iconst 4, .imul, .iconst 2, .iadd, .iaload, .iload 4, .if_icmp .ne 60, .aload 0, .tableswitch 0 3 14 #[], .iload 1, .iconst 4, .imul, .iconst 3, .iadd, .iaload, .iload 5, .if_icmp .ne 60, .iconst 1, .goto 61] 60 = true := qck_r (nn_ _) (by decide +kernel)
theorem bs_X3_isSameRow_e_0 {P : Zt → Option Zv → Prop} (K : Int → Zl → List Zv → Zt → Prop) : sx_ K P [.aload 0, .tableswitch 0 3 14 #[], .iload 1, .iconst 4, .imul, .iaload, .iload 2, .if_icmp .ne 60, .aload 0, .tableswitch 0 3 14 #[], .iload 1, .iconst 4, .imul, .iconst 1, .iadd, .iaload, .iload 3, .if_icmp .ne 60, .aload 0, .tableswitch 0 3 14 #[], .iload 1, .iconst 4, .imul, .iconst 2, .iadd, .iaload, .iload 4, .if_icmp .ne 60, .aload 0, .tableswitch 0 3 14 #[], .iload 1, .iconst 4, .imul, .iconst 3, .iadd, .iaload, .iload 5, .if_icmp .ne 60, .iconst 1, .goto 61] 60 = x_aload 0 (x_g3 103 190 14 (x_iload 1 (x_iconst 4 (x_imul (x_iaload (x_iload 2 (x_if_icmp .ne 60 K (x_aload 0 (x_g3 103 190 14 (x_iload 1 (x_iconst 4 (x_imul (x_iconst 1 (x_iadd (x_iaload (x_iload 3 (x_if_icmp .ne 60 K (x_aload 0 (x_g3 103 190 14 (x_iload 1 (x_iconst 4 (x_imul (x_iconst 2 (x_iadd (x_iaload (x_iload 4 (x_if_icmp .ne 60 K (x_aload 0 (x_g3 103 190 14 (x_iload 1 (x_iconst 4 (x_imul (x_iconst 3 (x_iadd (x_iaload (x_iload 5 (x_if_icmp .ne 60 K (x_iconst 1 (x_goto 61 K))))))))))))))))))))))))))))))))))))))) := ((xe_aload 0).trans (congrArg (x_aload 0) ((xe_g3 (kk := 103) rfl tl_3_14).trans (congrArg (x_g3 103 190 14) ((xe_iload 1).trans (congrArg (x_iload 1) ((xe_iconst 4).trans (congrArg (x_iconst 4) ((xe_imul).trans (congrArg (x_imul) ((xe_iaload).trans (congrArg (x_iaload) ((xe_iload 2).trans (congrArg (x_iload 2) ((xe_if_icmp .ne 60).trans (congrArg (x_if_icmp .ne 60 K) ((xe_aload 0).trans (congrArg (x_aload 0) ((xe_g3 (kk := 103) rfl tl_3_14).trans (congrArg (x_g3 103 190 14) ((xe_iload 1).trans (congrArg (x_iload 1) ((xe_iconst 4).trans (congrArg (x_iconst 4) ((xe_imul).trans (congrArg (x_imul) ((xe_iconst 1).trans (congrArg (x_iconst 1) ((xe_iadd).trans (congrArg (x_iadd) ((xe_iaload).trans (congrArg (x_iaload) ((xe_iload 3).trans (congrArg (x_iload 3) ((xe_if_icmp .ne 60).trans (congrArg (x_if_icmp .ne 60 K) ((xe_aload 0).trans (congrArg (x_aload 0) ((xe_g3 (kk := 103) rfl tl_3_14).trans (congrArg (x_g3 103 190 14) ((xe_iload 1).trans (congrArg (x_iload 1) ((xe_iconst 4).trans (congrArg (x_iconst 4) ((xe_imul).trans (congrArg (x_imul) ((xe_iconst 2).trans (congrArg (x_iconst 2) ((xe_iadd).trans (congrArg (x_iadd) ((xe_iaload).trans (congrArg (x_iaload) ((xe_iload 4).trans (congrArg (x_iload 4) ((xe_if_icmp .ne 60).trans (congrArg (x_if_icmp .ne 60 K) ((xe_aload 0).trans (congrArg (x_aload 0) ((xe_g3 (kk := 103) rfl tl_3_14).trans (congrArg (x_g3 103 190 14) ((xe_iload 1).trans (congrArg (x_iload 1) ((xe_iconst 4).trans (congrArg (x_iconst 4) ((xe_imul).trans (congrArg (x_imul) ((xe_iconst 3).trans (congrArg (x_iconst 3) ((xe_iadd).trans (congrArg (x_iadd) ((xe_iaload).trans (congrArg (x_iaload) ((xe_iload 5).trans (congrArg (x_iload 5) ((xe_if_icmp .ne 60).trans (congrArg (x_if_icmp .ne 60 K) ((xe_iconst 1).trans (congrArg (x_iconst 1) (xe_goto 61)))))))))))))))))))))))))))))))))))))))))))))))))))))))))))))))))))))))))))))))
theorem bk_X3_isSameRow_e_60 : ck_ fX3 (some .boolean) cX3_isSameRow 60 [.iconst 0, .ireturn] 62 = true := qck_r (nn_ _) (by decide +kernel)
theorem bs_X3_isSameRow_e_60 {P : Zt → Option Zv → Prop} (K : Int → Zl → List Zv → Zt → Prop) : sx_ K P [.iconst 0, .ireturn] 62 = x_iconst 0 (x_ireturn P) := ((xe_iconst 0).trans (congrArg (x_iconst 0) (xe_ireturn)))
theorem bk_X3_isSameRow_e_61 : ck_ fX3 (some .boolean) cX3_isSameRow 61 [.ireturn] 62 = true := qck_r (nn_ _) (by decide +kernel)
theorem bs_X3_isSameRow_e_61 {P : Zt → Option Zv → Prop} (K : Int → Zl → List Zv → Zt → Prop) : sx_ K P [.ireturn] 62 = x_ireturn P := (xe_ireturn)
abbrev po_X3_isSameRow_e (T : Zt) (p : Int) (i k s v w : Int) : Zt → Option Zv → Prop := fun T' r => T = T' ∧ ∃ x : Int, r = some (vI x) ∧ ((x = 1 ∧ (T 190 (T 103 p 14) (i * 4) = k ∧ T 190 (T 103 p 14) (i * 4 + 1) = s ∧ T 190 (T 103 p 14) (i * 4 + 2) = v ∧ T 190 (T 103 p 14) (i * 4 + 3) = w)) ∨ (x = 0 ∧ ¬ (T 190 (T 103 p 14) (i * 4) = k ∧ T 190 (T 103 p 14) (i * 4 + 1) = s ∧ T 190 (T 103 p 14) (i * 4 + 2) = v ∧ T 190 (T 103 p 14) (i * 4 + 3) = w)))
set_option maxHeartbeats 4000000 in
theorem ct_X3_isSameRow_e {T : Zt} {p : Int} {i k s v w : Int} (h1 : 0 ≤ i ∧ i ≤ 1000 ∧ i * 4 + 3 < T 190 (T 103 p 14) (-2)) : Ct_ yX3_isSameRow zX3_isSameRow T [vR 103 p, vI i, vI k, vI s, vI v, vI w] (po_X3_isSameRow_e T p i k s v w) := by
  refine ct_of pn_3 rfl rfl (Nat.le_of_ble_eq_true rfl) (fun hT hav => ?_)
  have hr_i : -2147483648 ≤ i ∧ i ≤ 2147483647 := hav (vI i) (List.mem_cons_of_mem _ List.mem_cons_self)
  have hr_k : -2147483648 ≤ k ∧ k ≤ 2147483647 := hav (vI k) (List.mem_cons_of_mem _ (List.mem_cons_of_mem _ List.mem_cons_self))
  have hr_s : -2147483648 ≤ s ∧ s ≤ 2147483647 := hav (vI s) (List.mem_cons_of_mem _ (List.mem_cons_of_mem _ (List.mem_cons_of_mem _ List.mem_cons_self)))
  have hr_v : -2147483648 ≤ v ∧ v ≤ 2147483647 := hav (vI v) (List.mem_cons_of_mem _ (List.mem_cons_of_mem _ (List.mem_cons_of_mem _ (List.mem_cons_of_mem _ List.mem_cons_self))))
  have hr_w : -2147483648 ≤ w ∧ w ≤ 2147483647 := hav (vI w) (List.mem_cons_of_mem _ (List.mem_cons_of_mem _ (List.mem_cons_of_mem _ (List.mem_cons_of_mem _ (List.mem_cons_of_mem _ List.mem_cons_self)))))
  have hz : zX3_isSameRow.2.2.2.1 = some .boolean → ∀ (T' : Zt) (x : Int), po_X3_isSameRow_e T p i k s v w T' (some (vI x)) → 0 ≤ x ∧ x ≤ 1 := fun _ T' x h => by obtain ⟨-, y, e, hy⟩ := h; cases e; omega
  show J_ zX3_isSameRow T (po_X3_isSameRow_e T p i k s v w) 0 0 0 [some (vR 103 p), some (vI i), some (vI k), some (vI s), some (vI v), some (vI w)] [] T
  refine j_blx (F := fX3) tb_X3 (nn_ _) bk_X3_isSameRow_e_0 bs_X3_isSameRow_e_0 hz (fun K hK => ?_)
  refine rg_i (by omega) ?_
  refine ix_i (by omega) ?_
  intro b2 b2b
  refine And.intro (fun c3 => ?_) (fun c3 => ?_)
  · refine hK 60 _ [] T ?_
    refine j_blx (F := fX3) tb_X3 (nn_ _) bk_X3_isSameRow_e_60 bs_X3_isSameRow_e_60 hz (fun K hK => ?_)
    refine (show po_X3_isSameRow_e T p i k s v w T (some (vI 0)) from ?_)
    exact ⟨rfl, _, rfl, Or.inr ⟨rfl, by omega⟩⟩
  · refine rg_i (by omega) ?_
    refine rg_i (by omega) ?_
    refine ix_i (by omega) ?_
    intro b5 b5b
    refine And.intro (fun c6 => ?_) (fun c6 => ?_)
    · refine hK 60 _ [] T ?_
      refine j_blx (F := fX3) tb_X3 (nn_ _) bk_X3_isSameRow_e_60 bs_X3_isSameRow_e_60 hz (fun K hK => ?_)
      refine (show po_X3_isSameRow_e T p i k s v w T (some (vI 0)) from ?_)
      exact ⟨rfl, _, rfl, Or.inr ⟨rfl, by omega⟩⟩
    · refine rg_i (by omega) ?_
      refine rg_i (by omega) ?_
      refine ix_i (by omega) ?_
      intro b8 b8b
      refine And.intro (fun c9 => ?_) (fun c9 => ?_)
      · refine hK 60 _ [] T ?_
        refine j_blx (F := fX3) tb_X3 (nn_ _) bk_X3_isSameRow_e_60 bs_X3_isSameRow_e_60 hz (fun K hK => ?_)
        refine (show po_X3_isSameRow_e T p i k s v w T (some (vI 0)) from ?_)
        exact ⟨rfl, _, rfl, Or.inr ⟨rfl, by omega⟩⟩
      · refine rg_i (by omega) ?_
        refine rg_i (by omega) ?_
        refine ix_i (by omega) ?_
        intro b11 b11b
        refine And.intro (fun c12 => ?_) (fun c12 => ?_)
        · refine hK 60 _ [] T ?_
          refine j_blx (F := fX3) tb_X3 (nn_ _) bk_X3_isSameRow_e_60 bs_X3_isSameRow_e_60 hz (fun K hK => ?_)
          refine (show po_X3_isSameRow_e T p i k s v w T (some (vI 0)) from ?_)
          exact ⟨rfl, _, rfl, Or.inr ⟨rfl, by omega⟩⟩
        · refine hK 61 _ [vI 1] T ?_
          refine j_blx (F := fX3) tb_X3 (nn_ _) bk_X3_isSameRow_e_61 bs_X3_isSameRow_e_61 hz (fun K hK => ?_)
          refine (show po_X3_isSameRow_e T p i k s v w T (some (vI 1)) from ?_)
          exact ⟨rfl, _, rfl, Or.inl ⟨rfl, by omega⟩⟩
theorem bk_X3_takeOut_e_6 : ck_ fX3 none cX3_takeOut 6 [.iload 2, .aload 0, .tableswitch 0 3 15 #[], .iconst 4, .imul, .if_icmp .ge 36, .aload 0, .tableswitch 0 3 14 #[], .iload 2, .iconst 4, .isub, .aload 0, .tableswitch 0 3 14 #[], .iload 2, .iaload, .iastore, .iinc 2 1, .goto 6] 36 = true := qck_r (nn_ _) (by decide +kernel)
theorem bs_X3_takeOut_e_6 {P : Zt → Option Zv → Prop} (K : Int → Zl → List Zv → Zt → Prop) : sx_ K P [.iload 2, .aload 0, .tableswitch 0 3 15 #[], .iconst 4, .imul, .if_icmp .ge 36, .aload 0, .tableswitch 0 3 14 #[], .iload 2, .iconst 4, .isub, .aload 0, .tableswitch 0 3 14 #[], .iload 2, .iaload, .iastore, .iinc 2 1, .goto 6] 36 = x_iload 2 (x_aload 0 (x_g0 103 15 0 3000 (x_iconst 4 (x_imul (x_if_icmp .ge 36 K (x_aload 0 (x_g3 103 190 14 (x_iload 2 (x_iconst 4 (x_isub (x_aload 0 (x_g3 103 190 14 (x_iload 2 (x_iaload (x_iastore (x_iinc 2 1 (x_goto 6 K))))))))))))))))) := ((xe_iload 2).trans (congrArg (x_iload 2) ((xe_aload 0).trans (congrArg (x_aload 0) ((xe_g0 (kk := 103) rfl tl_3_15).trans (congrArg (x_g0 103 15 0 3000) ((xe_iconst 4).trans (congrArg (x_iconst 4) ((xe_imul).trans (congrArg (x_imul) ((xe_if_icmp .ge 36).trans (congrArg (x_if_icmp .ge 36 K) ((xe_aload 0).trans (congrArg (x_aload 0) ((xe_g3 (kk := 103) rfl tl_3_14).trans (congrArg (x_g3 103 190 14) ((xe_iload 2).trans (congrArg (x_iload 2) ((xe_iconst 4).trans (congrArg (x_iconst 4) ((xe_isub).trans (congrArg (x_isub) ((xe_aload 0).trans (congrArg (x_aload 0) ((xe_g3 (kk := 103) rfl tl_3_14).trans (congrArg (x_g3 103 190 14) ((xe_iload 2).trans (congrArg (x_iload 2) ((xe_iaload).trans (congrArg (x_iaload) ((xe_iastore).trans (congrArg (x_iastore) ((xe_iinc 2 1).trans (congrArg (x_iinc 2 1) (xe_goto 6)))))))))))))))))))))))))))))))))))
theorem bk_X3_takeOut_e_36 : ck_ fX3 none cX3_takeOut 36 [.aload 0, .dup, .tableswitch 0 3 15 #[], .iconst 1, .isub, .tableswitch 1 3 15 #[], .return_] 47 = true := qck_r (nn_ _) (by decide +kernel)
theorem bs_X3_takeOut_e_36 {P : Zt → Option Zv → Prop} (K : Int → Zl → List Zv → Zt → Prop) : sx_ K P [.aload 0, .dup, .tableswitch 0 3 15 #[], .iconst 1, .isub, .tableswitch 1 3 15 #[], .return_] 47 = x_aload 0 (x_dup (x_g0 103 15 0 3000 (x_iconst 1 (x_isub (x_p 103 15 0 3000 (x_return_ P)))))) := ((xe_aload 0).trans (congrArg (x_aload 0) ((xe_dup).trans (congrArg (x_dup) ((xe_g0 (kk := 103) rfl tl_3_15).trans (congrArg (x_g0 103 15 0 3000) ((xe_iconst 1).trans (congrArg (x_iconst 1) ((xe_isub).trans (congrArg (x_isub) ((xe_p (kk := 103) rfl tl_3_15).trans (congrArg (x_p 103 15 0 3000) (xe_return_)))))))))))))
theorem bk_X3_takeOut_e_0 : ck_ fX3 none cX3_takeOut 0 [.iload 1, .iconst 4, .imul, .iconst 4, .iadd, .istore 2] 6 = true := qck_r (nn_ _) (by decide +kernel)
theorem bs_X3_takeOut_e_0 {P : Zt → Option Zv → Prop} (K : Int → Zl → List Zv → Zt → Prop) : sx_ K P [.iload 1, .iconst 4, .imul, .iconst 4, .iadd, .istore 2] 6 = x_iload 1 (x_iconst 4 (x_imul (x_iconst 4 (x_iadd (x_istore 2 (K 6)))))) := ((xe_iload 1).trans (congrArg (x_iload 1) ((xe_iconst 4).trans (congrArg (x_iconst 4) ((xe_imul).trans (congrArg (x_imul) ((xe_iconst 4).trans (congrArg (x_iconst 4) ((xe_iadd).trans (congrArg (x_iadd) ((xe_istore 2).trans (congrArg (x_istore 2) xe_nil))))))))))))
abbrev po_X3_takeOut_e (T : Zt) (p : Int) (i : Int) : Zt → Option Zv → Prop := fun T' r => r = none ∧ fr_ [(103, [15]), (190, [])] T T' ∧ (oq_ T T' p ∧ T' 103 p 15 = T 103 p 15 - 1 ∧ (∀ x, T' 190 x (-2) = T 190 x (-2)) ∧ (∀ x j, x ≠ T 103 p 14 → T' 190 x j = T 190 x j) ∧ hr9_ T' (T 103 p 14) (T' 103 p 15).toNat = (hr9_ T (T 103 p 14) (T 103 p 15).toNat).eraseIdx i.toNat)
set_option maxHeartbeats 4000000 in
theorem ct_X3_takeOut_e {T : Zt} {p : Int} {i : Int} (h1 : 0 ≤ i ∧ i < T 103 p 15 ∧ T 103 p 15 ≤ 1000 ∧ 4 * T 103 p 15 ≤ T 190 (T 103 p 14) (-2)) : Ct_ yX3_takeOut zX3_takeOut T [vR 103 p, vI i] (po_X3_takeOut_e T p i) := by
  refine ct_of pn_3 rfl rfl (Nat.le_of_ble_eq_true rfl) (fun hT hav => ?_)
  have hr_i : -2147483648 ≤ i ∧ i ≤ 2147483647 := hav (vI i) (List.mem_cons_of_mem _ List.mem_cons_self)
  have hz : zX3_takeOut.2.2.2.1 = some .boolean → ∀ (T' : Zt) (x : Int), po_X3_takeOut_e T p i T' (some (vI x)) → 0 ≤ x ∧ x ≤ 1 := fun h => by cases h
  show J_ zX3_takeOut T (po_X3_takeOut_e T p i) 0 0 0 [some (vR 103 p), some (vI i), none] [] T
  have c_6 : ∀ (nn : Nat) (j : Int) (T1 : Zt), ((4 * T 103 p 15 - j).toNat) ≤ nn → (fr_ [(190, [])] T T1) → (∀ x, T1 190 x (-2) = T 190 x (-2)) → (oq_ T T1 p) → (∀ x j, x ≠ T 103 p 14 → T1 190 x j = T 190 x j) → (i * 4 + 4 ≤ j ∧ j ≤ 4 * T 103 p 15) → (∀ x, x < i * 4 → T1 190 (T 103 p 14) x = T 190 (T 103 p 14) x) → (∀ x, i * 4 ≤ x → x < j - 4 → T1 190 (T 103 p 14) x = T 190 (T 103 p 14) (x + 4)) → (∀ x, j ≤ x → T1 190 (T 103 p 14) x = T 190 (T 103 p 14) x) → J_ zX3_takeOut T (po_X3_takeOut_e T p i) 0 0 6 [some (vR 103 p), some (vI i), some (vI j)] [] T1 := by
    intro nn
    induction nn using Nat.strongRecOn with
    | _ nn ih_6 =>
      intro j T1 hm_6 hf_6 lT1 oT1 xT1 i1 t1 t2 t3
      replace hm_6 := fun (_ : Unit) => hm_6
      refine j_blx (F := fX3) tb_X3 (nn_ _) bk_X3_takeOut_e_6 bs_X3_takeOut_e_6 hz (fun K hK => ?_)
      intro b1 b1b
      have e2 : T1 103 p 15 = T 103 p 15 := hf_6 103 p 15 rfl
      rw [e2] at b1 b1b ⊢
      refine rg_i (by omega) ?_
      refine And.intro (fun c3 => ?_) (fun c3 => ?_)
      · refine hK 36 _ [] T1 ?_
        refine j_blx (F := fX3) tb_X3 (nn_ _) bk_X3_takeOut_e_36 bs_X3_takeOut_e_36 hz (fun K hK => ?_)
        intro b4 b4b
        have e5 : T1 103 p 15 = T 103 p 15 := hf_6 103 p 15 rfl
        rw [e5] at b4 b4b ⊢
        refine rg_i (by omega) ?_
        refine bd_i (by omega) ?_
        refine x_nm (fun U6 hU6 => ?_)
        have e7 := up_f hU6
        refine (show po_X3_takeOut_e T p i U6 (none) from ?_)
        have e8 : U6 103 p 15 = (T 103 p 15) - 1 := up_f hU6
        have e9 : U6 103 p 15 = (T 103 p 15) - 1 := up_f hU6
        have b2 : hr9_ U6 (T 103 p 14) (U6 103 p 15).toNat = (hr9_ T (T 103 p 14) (T 103 p 15).toNat).eraseIdx i.toNat := by
          rw [show U6 103 p 15 = T 103 p 15 - 1 by omega]
          exact hrw_d (by omega) (by omega) (fun j h => (up_k hU6 (by exact Nat.ne_of_beq_eq_false rfl) _ _).trans (t1 j h)) (fun j a b => (up_k hU6 (by exact Nat.ne_of_beq_eq_false rfl) _ _).trans (t2 j a (by omega)))
        exact ⟨rfl, fr_u (fr_t (fr_0 _ _) (fr_s hf_6 rfl)) hU6 rfl, oq_u (oT1) hU6, by omega, fun x => (up_k hU6 (by exact Nat.ne_of_beq_eq_false rfl) _ (-2)).trans (lT1 x), fun x j hx => (up_k hU6 (by exact Nat.ne_of_beq_eq_false rfl) _ _).trans (xT1 x j hx), b2⟩
      · have e11 : T1 103 p 14 = T 103 p 14 := hf_6 103 p 14 rfl
        refine rg_i (by omega) ?_
        have e13 : T1 103 p 14 = T 103 p 14 := hf_6 103 p 14 rfl
        have y14 : T1 190 (T1 103 p 14) (-2) = T 190 (T 103 p 14) (-2) := by rw [e13]; exact lT1 _
        refine ix_i (by omega) ?_
        intro b15 b15b
        have e16 : T1 190 (T1 103 p 14) j = T1 190 (T 103 p 14) j := by rw [e13]
        rw [e16] at b15 b15b ⊢
        have y17 : T1 190 (T1 103 p 14) (-2) = T 190 (T 103 p 14) (-2) := by rw [e13]; exact lT1 _
        refine iy_i (by omega) (by omega) ?_
        refine x_nm (fun U18 hU18 => ?_)
        have e19 := up_f hU18
        refine rg_i (by omega) ?_
        refine hK 6 [some (vR 103 p), some (vI i), some (vI (j + 1))] [] U18 ?_
        refine ih_6 _ ?_ (j + 1) U18 (Nat.le_refl _) ?_ ?_ ?_ ?_ ?_ ?_ ?_ ?_
        · have hm_6 := hm_6 (); omega
        · exact fr_u (fr_t (fr_0 _ _) (fr_s hf_6 rfl)) hU18 rfl
        · exact fun x => (up_g hU18 (fun z => by omega)).trans (lT1 x)
        · exact oq_w (oT1) hU18
        · exact fun x j hx => (up_g hU18 (fun z => by omega)).trans (xT1 x j hx)
        · omega
        · exact fun x hx => (up_g hU18 (fun z => by omega)).trans (t1 x hx)
        · intro x a b
          by_cases z : x = j - 4
          · rw [z]
            rw [show j - 4 + 4 = j by omega]
            exact (congrArg (fun i9 => U18 190 i9 (j - 4)) e13.symm).trans ((up_x hU18 (by omega)).trans (t3 j (by omega)))
          · rw [up_g hU18 (fun y => by omega)]
            exact t2 x a (by omega)
        · exact fun x hx => (up_g hU18 (fun z => by omega)).trans (t3 x (by omega))
  refine j_blx (F := fX3) tb_X3 (nn_ _) bk_X3_takeOut_e_0 bs_X3_takeOut_e_0 hz (fun K hK => ?_)
  refine rg_i (by omega) ?_
  refine rg_i (by omega) ?_
  refine hK 6 [some (vR 103 p), some (vI i), some (vI ((i * 4) + 4))] [] T ?_
  refine c_6 _ ((i * 4) + 4) T (Nat.le_refl _) ?_ ?_ ?_ ?_ ?_ ?_ ?_ ?_
  · exact fr_0 _ _
  · exact fun x => rfl
  · exact oq_r
  · exact fun x j _ => rfl
  · omega
  · exact fun x _ => rfl
  · intro x a b; omega
  · exact fun x _ => rfl
theorem bk_X3_putInPlace_e_0 : ck_ fX3 none cX3_putInPlace 0 [.aload 0, .tableswitch 0 3 14 #[], .iload 1, .iload 2, .iload 3, .iload 4, .iload 5] 11 = true := qck_r (nn_ _) (by decide +kernel)
theorem bs_X3_putInPlace_e_0 {P : Zt → Option Zv → Prop} (K : Int → Zl → List Zv → Zt → Prop) : sx_ K P [.aload 0, .tableswitch 0 3 14 #[], .iload 1, .iload 2, .iload 3, .iload 4, .iload 5] 11 = x_aload 0 (x_g3 103 190 14 (x_iload 1 (x_iload 2 (x_iload 3 (x_iload 4 (x_iload 5 (K 11))))))) := ((xe_aload 0).trans (congrArg (x_aload 0) ((xe_g3 (kk := 103) rfl tl_3_14).trans (congrArg (x_g3 103 190 14) ((xe_iload 1).trans (congrArg (x_iload 1) ((xe_iload 2).trans (congrArg (x_iload 2) ((xe_iload 3).trans (congrArg (x_iload 3) ((xe_iload 4).trans (congrArg (x_iload 4) ((xe_iload 5).trans (congrArg (x_iload 5) xe_nil))))))))))))))
theorem bk_X3_putInPlace_e_14 : ck_ fX3 none cX3_putInPlace 14 [.return_] 15 = true := qck_r (nn_ _) (by decide +kernel)
theorem bs_X3_putInPlace_e_14 {P : Zt → Option Zv → Prop} (K : Int → Zl → List Zv → Zt → Prop) : sx_ K P [.return_] 15 = x_return_ P := (xe_return_)
abbrev po_X3_putInPlace_e (T : Zt) (p : Int) (i k s v w : Int) : Zt → Option Zv → Prop := fun T' r => r = none ∧ fr_ [(190, [])] T T' ∧ (∀ x, T' 190 x (-2) = T 190 x (-2)) ∧ (∀ x j, x ≠ T 103 p 14 → T' 190 x j = T 190 x j) ∧ hr9_ T' (T 103 p 14) (T 103 p 15).toNat = (hr9_ T (T 103 p 14) (T 103 p 15).toNat).set i.toNat (k, s, v, w)
set_option maxHeartbeats 4000000 in
theorem ct_X3_putInPlace_e {T : Zt} {p : Int} {i k s v w : Int} (h1 : 0 ≤ i ∧ i ≤ 1000 ∧ i * 4 + 3 < T 190 (T 103 p 14) (-2) ∧ i < T 103 p 15) : Ct_ yX3_putInPlace zX3_putInPlace T [vR 103 p, vI i, vI k, vI s, vI v, vI w] (po_X3_putInPlace_e T p i k s v w) := by
  refine ct_of pn_3 rfl rfl (Nat.le_of_ble_eq_true rfl) (fun hT hav => ?_)
  have hr_i : -2147483648 ≤ i ∧ i ≤ 2147483647 := hav (vI i) (List.mem_cons_of_mem _ List.mem_cons_self)
  have hr_k : -2147483648 ≤ k ∧ k ≤ 2147483647 := hav (vI k) (List.mem_cons_of_mem _ (List.mem_cons_of_mem _ List.mem_cons_self))
  have hr_s : -2147483648 ≤ s ∧ s ≤ 2147483647 := hav (vI s) (List.mem_cons_of_mem _ (List.mem_cons_of_mem _ (List.mem_cons_of_mem _ List.mem_cons_self)))
  have hr_v : -2147483648 ≤ v ∧ v ≤ 2147483647 := hav (vI v) (List.mem_cons_of_mem _ (List.mem_cons_of_mem _ (List.mem_cons_of_mem _ (List.mem_cons_of_mem _ List.mem_cons_self))))
  have hr_w : -2147483648 ≤ w ∧ w ≤ 2147483647 := hav (vI w) (List.mem_cons_of_mem _ (List.mem_cons_of_mem _ (List.mem_cons_of_mem _ (List.mem_cons_of_mem _ (List.mem_cons_of_mem _ List.mem_cons_self)))))
  have hz : zX3_putInPlace.2.2.2.1 = some .boolean → ∀ (T' : Zt) (x : Int), po_X3_putInPlace_e T p i k s v w T' (some (vI x)) → 0 ≤ x ∧ x ≤ 1 := fun h => by cases h
  show J_ zX3_putInPlace T (po_X3_putInPlace_e T p i k s v w) 0 0 0 [some (vR 103 p), some (vI i), some (vI k), some (vI s), some (vI v), some (vI w)] [] T
  refine j_blx (F := fX3) tb_X3 (nn_ _) bk_X3_putInPlace_e_0 bs_X3_putInPlace_e_0 hz (fun K hK => ?_)
  refine hK 11 _ [vI w, vI v, vI s, vI k, vI i, vR 190 (T 103 p 14)] T ?_
  refine j_callS (y := yX3_writeRow) (Yc := zX3_writeRow) (rest := []) [vR 190 (T 103 p 14), vI i, vI k, vI s, vI v, vI w] (ct_X3_writeRow_e (T := T) (by omega)) cl_X3_161 (qd_c (by decide +kernel)) (nn_ _) rfl (rf_of rfl) (Nat.le_of_ble_eq_true rfl) (Nat.le_of_ble_eq_true rfl) (Nat.le_of_ble_eq_true rfl) rfl ?_
  rintro U2 _ ⟨rfl, fU2, lU2, wU2, rU2⟩
  show J_ zX3_putInPlace T (po_X3_putInPlace_e T p i k s v w) 0 0 14 _ [] U2
  refine j_blx (F := fX3) tb_X3 (nn_ _) bk_X3_putInPlace_e_14 bs_X3_putInPlace_e_14 hz (fun K hK => ?_)
  refine (show po_X3_putInPlace_e T p i k s v w U2 (none) from ?_)
  exact ⟨rfl, fU2, lU2, fun x j hx => wU2 x j (fun z => hx z.1), hrw_s (by omega) (by omega) (fun j hj => wU2 _ j (fun z => hj z.2)) rU2⟩
theorem bk_X3_runAnew_e_21 : ck_ fX3 (some .int) cX3_runAnew 21 [.iload 3, .iload 1, .if_icmp .ge 132, .aload 0, .tableswitch 0 3 14 #[], .iload 3, .iconst 4, .imul, .iaload, .istore 4, .aload 0, .tableswitch 0 3 14 #[], .iload 3, .iconst 4, .imul, .iconst 1, .iadd, .iaload, .istore 5, .aload 0, .tableswitch 0 3 14 #[], .iload 3, .iconst 4, .imul, .iconst 2, .iadd, .iaload, .istore 6, .aload 0, .tableswitch 0 3 14 #[], .iload 3, .iconst 4, .imul, .iconst 3, .iadd, .iaload, .istore 7, .aload 0, .iload 4, .iload 5, .iload 6, .iload 7] 81 = true := qck_r (nn_ _) (by decide +kernel)
theorem bs_X3_runAnew_e_21 {P : Zt → Option Zv → Prop} (K : Int → Zl → List Zv → Zt → Prop) : sx_ K P [.iload 3, .iload 1, .if_icmp .ge 132, .aload 0, .tableswitch 0 3 14 #[], .iload 3, .iconst 4, .imul, .iaload, .istore 4, .aload 0, .tableswitch 0 3 14 #[], .iload 3, .iconst 4, .imul, .iconst 1, .iadd, .iaload, .istore 5, .aload 0, .tableswitch 0 3 14 #[], .iload 3, .iconst 4, .imul, .iconst 2, .iadd, .iaload, .istore 6, .aload 0, .tableswitch 0 3 14 #[], .iload 3, .iconst 4, .imul, .iconst 3, .iadd, .iaload, .istore 7, .aload 0, .iload 4, .iload 5, .iload 6, .iload 7] 81 = x_iload 3 (x_iload 1 (x_if_icmp .ge 132 K (x_aload 0 (x_g3 103 190 14 (x_iload 3 (x_iconst 4 (x_imul (x_iaload (x_istore 4 (x_aload 0 (x_g3 103 190 14 (x_iload 3 (x_iconst 4 (x_imul (x_iconst 1 (x_iadd (x_iaload (x_istore 5 (x_aload 0 (x_g3 103 190 14 (x_iload 3 (x_iconst 4 (x_imul (x_iconst 2 (x_iadd (x_iaload (x_istore 6 (x_aload 0 (x_g3 103 190 14 (x_iload 3 (x_iconst 4 (x_imul (x_iconst 3 (x_iadd (x_iaload (x_istore 7 (x_aload 0 (x_iload 4 (x_iload 5 (x_iload 6 (x_iload 7 (K 81)))))))))))))))))))))))))))))))))))))))))) := ((xe_iload 3).trans (congrArg (x_iload 3) ((xe_iload 1).trans (congrArg (x_iload 1) ((xe_if_icmp .ge 132).trans (congrArg (x_if_icmp .ge 132 K) ((xe_aload 0).trans (congrArg (x_aload 0) ((xe_g3 (kk := 103) rfl tl_3_14).trans (congrArg (x_g3 103 190 14) ((xe_iload 3).trans (congrArg (x_iload 3) ((xe_iconst 4).trans (congrArg (x_iconst 4) ((xe_imul).trans (congrArg (x_imul) ((xe_iaload).trans (congrArg (x_iaload) ((xe_istore 4).trans (congrArg (x_istore 4) ((xe_aload 0).trans (congrArg (x_aload 0) ((xe_g3 (kk := 103) rfl tl_3_14).trans (congrArg (x_g3 103 190 14) ((xe_iload 3).trans (congrArg (x_iload 3) ((xe_iconst 4).trans (congrArg (x_iconst 4) ((xe_imul).trans (congrArg (x_imul) ((xe_iconst 1).trans (congrArg (x_iconst 1) ((xe_iadd).trans (congrArg (x_iadd) ((xe_iaload).trans (congrArg (x_iaload) ((xe_istore 5).trans (congrArg (x_istore 5) ((xe_aload 0).trans (congrArg (x_aload 0) ((xe_g3 (kk := 103) rfl tl_3_14).trans (congrArg (x_g3 103 190 14) ((xe_iload 3).trans (congrArg (x_iload 3) ((xe_iconst 4).trans (congrArg (x_iconst 4) ((xe_imul).trans (congrArg (x_imul) ((xe_iconst 2).trans (congrArg (x_iconst 2) ((xe_iadd).trans (congrArg (x_iadd) ((xe_iaload).trans (congrArg (x_iaload) ((xe_istore 6).trans (congrArg (x_istore 6) ((xe_aload 0).trans (congrArg (x_aload 0) ((xe_g3 (kk := 103) rfl tl_3_14).trans (congrArg (x_g3 103 190 14) ((xe_iload 3).trans (congrArg (x_iload 3) ((xe_iconst 4).trans (congrArg (x_iconst 4) ((xe_imul).trans (congrArg (x_imul) ((xe_iconst 3).trans (congrArg (x_iconst 3) ((xe_iadd).trans (congrArg (x_iadd) ((xe_iaload).trans (congrArg (x_iaload) ((xe_istore 7).trans (congrArg (x_istore 7) ((xe_aload 0).trans (congrArg (x_aload 0) ((xe_iload 4).trans (congrArg (x_iload 4) ((xe_iload 5).trans (congrArg (x_iload 5) ((xe_iload 6).trans (congrArg (x_iload 6) ((xe_iload 7).trans (congrArg (x_iload 7) xe_nil))))))))))))))))))))))))))))))))))))))))))))))))))))))))))))))))))))))))))))))))))))
theorem bk_X3_runAnew_e_132 : ck_ fX3 (some .int) cX3_runAnew 132 [.aload 0, .tableswitch 0 3 17 #[], .iload 2, .isub, .ireturn] 139 = true := qck_r (nn_ _) (by decide +kernel)
theorem bs_X3_runAnew_e_132 {P : Zt → Option Zv → Prop} (K : Int → Zl → List Zv → Zt → Prop) : sx_ K P [.aload 0, .tableswitch 0 3 17 #[], .iload 2, .isub, .ireturn] 139 = x_aload 0 (x_g0 103 17 0 3000 (x_iload 2 (x_isub (x_ireturn P)))) := ((xe_aload 0).trans (congrArg (x_aload 0) ((xe_g0 (kk := 103) rfl tl_3_17).trans (congrArg (x_g0 103 17 0 3000) ((xe_iload 2).trans (congrArg (x_iload 2) ((xe_isub).trans (congrArg (x_isub) (xe_ireturn)))))))))
theorem bk_X3_runAnew_e_84 : ck_ fX3 (some .int) cX3_runAnew 84 [.ifCond .ne 114, .aload 0, .iload 4, .iload 5, .iload 6, .iload 7] 96 = true := qck_r (nn_ _) (by decide +kernel)
theorem bs_X3_runAnew_e_84 {P : Zt → Option Zv → Prop} (K : Int → Zl → List Zv → Zt → Prop) : sx_ K P [.ifCond .ne 114, .aload 0, .iload 4, .iload 5, .iload 6, .iload 7] 96 = x_ifCond .ne 114 K (x_aload 0 (x_iload 4 (x_iload 5 (x_iload 6 (x_iload 7 (K 96)))))) := ((xe_ifCond .ne 114).trans (congrArg (x_ifCond .ne 114 K) ((xe_aload 0).trans (congrArg (x_aload 0) ((xe_iload 4).trans (congrArg (x_iload 4) ((xe_iload 5).trans (congrArg (x_iload 5) ((xe_iload 6).trans (congrArg (x_iload 6) ((xe_iload 7).trans (congrArg (x_iload 7) xe_nil))))))))))))
theorem bk_X3_runAnew_e_114 : ck_ fX3 (some .int) cX3_runAnew 114 [.aload 0, .iload 4, .iload 5, .iload 6, .iload 7] 123 = true := qck_r (nn_ _) (by decide +kernel)
theorem bs_X3_runAnew_e_114 {P : Zt → Option Zv → Prop} (K : Int → Zl → List Zv → Zt → Prop) : sx_ K P [.aload 0, .iload 4, .iload 5, .iload 6, .iload 7] 123 = x_aload 0 (x_iload 4 (x_iload 5 (x_iload 6 (x_iload 7 (K 123))))) := ((xe_aload 0).trans (congrArg (x_aload 0) ((xe_iload 4).trans (congrArg (x_iload 4) ((xe_iload 5).trans (congrArg (x_iload 5) ((xe_iload 6).trans (congrArg (x_iload 6) ((xe_iload 7).trans (congrArg (x_iload 7) xe_nil))))))))))
theorem bk_X3_runAnew_e_126 : ck_ fX3 (some .int) cX3_runAnew 126 [.iinc 3 1, .goto 21] 132 = true := qck_r (nn_ _) (by decide +kernel)
theorem bs_X3_runAnew_e_126 {P : Zt → Option Zv → Prop} (K : Int → Zl → List Zv → Zt → Prop) : sx_ K P [.iinc 3 1, .goto 21] 132 = x_iinc 3 1 (x_goto 21 K) := ((xe_iinc 3 1).trans (congrArg (x_iinc 3 1) (xe_goto 21)))
theorem bk_X3_runAnew_e_99 : ck_ fX3 (some .int) cX3_runAnew 99 [.aload 0, .iload 4, .iload 5, .iload 6, .iload 7] 108 = true := qck_r (nn_ _) (by decide +kernel)
theorem bs_X3_runAnew_e_99 {P : Zt → Option Zv → Prop} (K : Int → Zl → List Zv → Zt → Prop) : sx_ K P [.aload 0, .iload 4, .iload 5, .iload 6, .iload 7] 108 = x_aload 0 (x_iload 4 (x_iload 5 (x_iload 6 (x_iload 7 (K 108))))) := ((xe_aload 0).trans (congrArg (x_aload 0) ((xe_iload 4).trans (congrArg (x_iload 4) ((xe_iload 5).trans (congrArg (x_iload 5) ((xe_iload 6).trans (congrArg (x_iload 6) ((xe_iload 7).trans (congrArg (x_iload 7) xe_nil))))))))))
theorem bk_X3_runAnew_e_111 : ck_ fX3 (some .int) cX3_runAnew 111 [.goto 126] 114 = true := qck_r (nn_ _) (by decide +kernel)
theorem bs_X3_runAnew_e_111 {P : Zt → Option Zv → Prop} (K : Int → Zl → List Zv → Zt → Prop) : sx_ K P [.goto 126] 114 = x_goto 126 K := (xe_goto 126)
theorem bk_X3_runAnew_e_0 : ck_ fX3 (some .int) cX3_runAnew 0 [.aload 0, .tableswitch 0 3 15 #[], .istore 1, .aload 0, .tableswitch 0 3 17 #[], .istore 2, .aload 0, .iconst 0, .tableswitch 1 3 15 #[], .aload 0] 16 = true := qck_r (nn_ _) (by decide +kernel)
theorem bs_X3_runAnew_e_0 {P : Zt → Option Zv → Prop} (K : Int → Zl → List Zv → Zt → Prop) : sx_ K P [.aload 0, .tableswitch 0 3 15 #[], .istore 1, .aload 0, .tableswitch 0 3 17 #[], .istore 2, .aload 0, .iconst 0, .tableswitch 1 3 15 #[], .aload 0] 16 = x_aload 0 (x_g0 103 15 0 3000 (x_istore 1 (x_aload 0 (x_g0 103 17 0 3000 (x_istore 2 (x_aload 0 (x_iconst 0 (x_p 103 15 0 3000 (x_aload 0 (K 16)))))))))) := ((xe_aload 0).trans (congrArg (x_aload 0) ((xe_g0 (kk := 103) rfl tl_3_15).trans (congrArg (x_g0 103 15 0 3000) ((xe_istore 1).trans (congrArg (x_istore 1) ((xe_aload 0).trans (congrArg (x_aload 0) ((xe_g0 (kk := 103) rfl tl_3_17).trans (congrArg (x_g0 103 17 0 3000) ((xe_istore 2).trans (congrArg (x_istore 2) ((xe_aload 0).trans (congrArg (x_aload 0) ((xe_iconst 0).trans (congrArg (x_iconst 0) ((xe_p (kk := 103) rfl tl_3_15).trans (congrArg (x_p 103 15 0 3000) ((xe_aload 0).trans (congrArg (x_aload 0) xe_nil))))))))))))))))))))
theorem bk_X3_runAnew_e_19 : ck_ fX3 (some .int) cX3_runAnew 19 [.iconst 0, .istore 3] 21 = true := qck_r (nn_ _) (by decide +kernel)
theorem bs_X3_runAnew_e_19 {P : Zt → Option Zv → Prop} (K : Int → Zl → List Zv → Zt → Prop) : sx_ K P [.iconst 0, .istore 3] 21 = x_iconst 0 (x_istore 3 (K 21)) := ((xe_iconst 0).trans (congrArg (x_iconst 0) ((xe_istore 3).trans (congrArg (x_istore 3) xe_nil))))
abbrev po_X3_runAnew_e (T : Zt) (p : Int) (ru : Int → Int) : Zt → Option Zv → Prop := fun T' r => ∃ x : Int, r = some (vI x) ∧ fr_ [(103, [3, 4, 5, 15, 16, 17]), (466, []), (467, []), (468, []), (469, []), (472, []), (473, []), (470, []), (471, []), (190, []), (191, [0])] T T' ∧ oq_ T T' p ∧ (∀ x, x < T 191 0 0 → T' 190 x (-2) = T 190 x (-2)) ∧ (0 ≤ T' 103 p 15 ∧ 0 ≤ T' 103 p 17 ∧ T' 103 p 15 + T' 103 p 17 = T 103 p 15 + T 103 p 17) ∧ (T 191 0 0 ≤ T' 191 0 0 ∧ T' 191 0 0 ≤ T 191 0 0 + 512) ∧ lz_ (T' 190 (T' 103 p 16) (-2)) ∧ (4 * T' 103 p 17 ≤ T' 190 (T' 103 p 16) (-2) ∧ T' 103 p 16 < T' 191 0 0 ∧ 4 * T' 103 p 15 ≤ T' 190 (T 103 p 14) (-2)) ∧ (T' 103 p 3 = 0 → 1 ≤ T' 470 p 0 ∧ 1 ≤ T' 470 p 1) ∧ (∀ x j, x < T 191 0 0 → x ≠ T 103 p 14 → x ≠ T 103 p 16 → T' 190 x j = T 190 x j) ∧ (T' 103 p 16 = T 103 p 16 ∨ T 191 0 0 ≤ T' 103 p 16) ∧ rs9_ T' p = (rnH_ ru (bb9_ ru (rs9_ T p)) (hr9_ T (T 103 p 14) (T 103 p 15).toNat)).1 ∧ hr9_ T' (T 103 p 14) (T' 103 p 15).toNat = (rnH_ ru (bb9_ ru (rs9_ T p)) (hr9_ T (T 103 p 14) (T 103 p 15).toNat)).2.1 ∧ x = (rnH_ ru (bb9_ ru (rs9_ T p)) (hr9_ T (T 103 p 14) (T 103 p 15).toNat)).2.2 ∧ T' 103 p 17 = T 103 p 17 + x
set_option maxHeartbeats 4000000 in
theorem ct_X3_runAnew_e {T : Zt} {p : Int} {ru : Int → Int} (hr : RLP_ T p ru) (hf : 1 ≤ T 401 (T 103 p 0) 9 ∧ T 401 (T 103 p 0) 9 ≤ 6) (h1 : 0 ≤ T 103 p 15 ∧ 0 ≤ T 103 p 17 ∧ T 103 p 15 + T 103 p 17 ≤ 512) (h2 : 4 * T 103 p 15 ≤ T 190 (T 103 p 14) (-2) ∧ T 190 (T 103 p 14) (-2) ≤ 2048 ∧ 4 * T 103 p 17 ≤ T 190 (T 103 p 16) (-2)) (hz9 : lz_ (T 190 (T 103 p 16) (-2))) (h4 : T 103 p 14 < T 191 0 0 ∧ T 103 p 16 < T 191 0 0 ∧ T 191 0 0 ≤ 1000000000 ∧ -2147483648 ≤ T 103 p 14 ∧ -2147483648 ≤ T 103 p 16 ∧ T 103 p 14 ≠ T 103 p 16) : Ct_ yX3_runAnew zX3_runAnew T [vR 103 p] (po_X3_runAnew_e T p ru) := by
  refine ct_of pn_3 rfl rfl (Nat.le_of_ble_eq_true rfl) (fun hT hav => ?_)
  have hz : zX3_runAnew.2.2.2.1 = some .boolean → ∀ (T' : Zt) (x : Int), po_X3_runAnew_e T p ru T' (some (vI x)) → 0 ≤ x ∧ x ≤ 1 := fun h => by cases h
  have hb0 := lz_b hz9
  have hr0 := hr 0 (by decide) (by decide)
  have hr9 := hr 9 (by decide) (by decide)
  have hr10 := hr 10 (by decide) (by decide)
  have hr11 := hr 11 (by decide) (by decide)
  have hr12 := hr 12 (by decide) (by decide)
  show J_ zX3_runAnew T (po_X3_runAnew_e T p ru) 127 4064 0 [some (vR 103 p), none, none, none, none, none, none, none] [] T
  have c_21 : ∀ (nn : Nat) (i : Int) (T1 : Zt), ((T 103 p 15 - i).toNat) ≤ nn → (fr_ [(103, [3, 4, 5, 15, 16, 17]), (466, []), (467, []), (468, []), (469, []), (472, []), (473, []), (470, []), (471, []), (190, []), (191, [0])] T T1) → (oq_ T T1 p) → (∀ x, x < T 191 0 0 → T1 190 x (-2) = T 190 x (-2)) → (0 ≤ i ∧ i ≤ T 103 p 15) → (0 ≤ T1 103 p 15 ∧ T1 103 p 15 ≤ i ∧ T1 103 p 15 + T1 103 p 17 = T 103 p 17 + i ∧ 0 ≤ T1 103 p 17) → (T 191 0 0 ≤ T1 191 0 0 ∧ T1 191 0 0 ≤ T 191 0 0 + i) → (lz_ (T1 190 (T1 103 p 16) (-2))) → (4 * T1 103 p 17 ≤ T1 190 (T1 103 p 16) (-2) ∧ T1 103 p 16 < T1 191 0 0) → (T1 103 p 3 = 0 → 1 ≤ T1 470 p 0 ∧ 1 ≤ T1 470 p 1) → (T1 103 p 16 = T 103 p 16 ∨ T 191 0 0 ≤ T1 103 p 16) → (∀ j, i * 4 ≤ j → 0 ≤ j → T1 190 (T 103 p 14) j = T 190 (T 103 p 14) j) → (∀ x j, x < T 191 0 0 → x ≠ T 103 p 14 → x ≠ T 103 p 16 → T1 190 x j = T 190 x j) → (rs9_ T1 p = (rnH_ ru (bb9_ ru (rs9_ T p)) (hr9_ T (T 103 p 14) i.toNat)).1) → (hr9_ T1 (T 103 p 14) (T1 103 p 15).toNat = (rnH_ ru (bb9_ ru (rs9_ T p)) (hr9_ T (T 103 p 14) i.toNat)).2.1) → (T1 103 p 17 - T 103 p 17 = (rnH_ ru (bb9_ ru (rs9_ T p)) (hr9_ T (T 103 p 14) i.toNat)).2.2) → J_ zX3_runAnew T (po_X3_runAnew_e T p ru) (((2048 - T1 190 (T1 103 p 16) (-2)) / 16).toNat) ((4096 - 2 * T1 190 (T1 103 p 16) (-2)).toNat) 21 [some (vR 103 p), some (vI (T 103 p 15)), some (vI (T 103 p 17)), some (vI i), none, none, none, none] [] T1 := by
    intro nn
    induction nn using Nat.strongRecOn with
    | _ nn ih_21 =>
      intro i T1 hm_21 hf_21 oT1 lT1 i1 i2 i3 i4 i5 i6 ag1 rr1 xx1 fo1 fo2 fo3
      replace hm_21 := fun (_ : Unit) => hm_21
      have hb9 := lz_b i4
      refine j_blx (F := fX3) tb_X3 (nn_ _) bk_X3_runAnew_e_21 bs_X3_runAnew_e_21 hz (fun K hK => ?_)
      refine And.intro (fun c1 => ?_) (fun c1 => ?_)
      · refine hK 132 _ [] T1 ?_
        refine j_blx (F := fX3) tb_X3 (nn_ _) bk_X3_runAnew_e_132 bs_X3_runAnew_e_132 hz (fun K hK => ?_)
        intro b2 b2b
        refine rg_i (by omega) ?_
        refine (show po_X3_runAnew_e T p ru T1 (some (vI ((T1 103 p 17) - (T 103 p 17)))) from ?_)
        have y1 : T1 190 (T 103 p 14) (-2) = T 190 (T 103 p 14) (-2) := lT1 _ (by omega)
        rw [show i = T 103 p 15 by omega] at fo1 fo2 fo3
        exact ⟨_, rfl, hf_21, oT1, lT1, by omega, by omega, i4, by omega, i6, xx1, ag1, fo1, fo2, fo3, by omega⟩
      · have e4 : T1 103 p 14 = T 103 p 14 := hf_21 103 p 14 rfl
        refine rg_i (by omega) ?_
        have y5 : T1 190 (T1 103 p 14) (-2) = T 190 (T 103 p 14) (-2) := by rw [e4]; exact lT1 _ (by omega)
        refine ix_i (by omega) ?_
        intro b6 b6b
        have e7 : T1 190 (T1 103 p 14) (i * 4) = T1 190 (T 103 p 14) (i * 4) := by rw [e4]
        rw [e7] at b6 b6b ⊢
        have e9 : T1 103 p 14 = T 103 p 14 := hf_21 103 p 14 rfl
        refine rg_i (by omega) ?_
        refine rg_i (by omega) ?_
        have y10 : T1 190 (T1 103 p 14) (-2) = T 190 (T 103 p 14) (-2) := by rw [e9]; exact lT1 _ (by omega)
        refine ix_i (by omega) ?_
        intro b11 b11b
        have e12 : T1 190 (T1 103 p 14) ((i * 4) + 1) = T1 190 (T 103 p 14) ((i * 4) + 1) := by rw [e9]
        rw [e12] at b11 b11b ⊢
        have e14 : T1 103 p 14 = T 103 p 14 := hf_21 103 p 14 rfl
        refine rg_i (by omega) ?_
        refine rg_i (by omega) ?_
        have y15 : T1 190 (T1 103 p 14) (-2) = T 190 (T 103 p 14) (-2) := by rw [e14]; exact lT1 _ (by omega)
        refine ix_i (by omega) ?_
        intro b16 b16b
        have e17 : T1 190 (T1 103 p 14) ((i * 4) + 2) = T1 190 (T 103 p 14) ((i * 4) + 2) := by rw [e14]
        rw [e17] at b16 b16b ⊢
        have e19 : T1 103 p 14 = T 103 p 14 := hf_21 103 p 14 rfl
        refine rg_i (by omega) ?_
        refine rg_i (by omega) ?_
        have y20 : T1 190 (T1 103 p 14) (-2) = T 190 (T 103 p 14) (-2) := by rw [e19]; exact lT1 _ (by omega)
        refine ix_i (by omega) ?_
        intro b21 b21b
        have e22 : T1 190 (T1 103 p 14) ((i * 4) + 3) = T1 190 (T 103 p 14) ((i * 4) + 3) := by rw [e19]
        rw [e22] at b21 b21b ⊢
        refine hK 81 [some (vR 103 p), some (vI (T 103 p 15)), some (vI (T 103 p 17)), some (vI i), some (vI (T1 190 (T 103 p 14) (i * 4))), some (vI (T1 190 (T 103 p 14) ((i * 4) + 1))), some (vI (T1 190 (T 103 p 14) ((i * 4) + 2))), some (vI (T1 190 (T 103 p 14) ((i * 4) + 3)))] [vI (T1 190 (T 103 p 14) ((i * 4) + 3)), vI (T1 190 (T 103 p 14) ((i * 4) + 2)), vI (T1 190 (T 103 p 14) ((i * 4) + 1)), vI (T1 190 (T 103 p 14) (i * 4)), vR 103 p] T1 ?_
        refine j_callV (y := yX3_brokenLaw) (Yc := zX3_brokenLaw) (rest := []) [vI (T1 190 (T 103 p 14) (i * 4)), vI (T1 190 (T 103 p 14) ((i * 4) + 1)), vI (T1 190 (T 103 p 14) ((i * 4) + 2)), vI (T1 190 (T 103 p 14) ((i * 4) + 3))] (ct_X3_brokenLaw_e (T := T1) (ru := ru) (by exact rl_f (ws := [(103, [3, 4, 5, 15, 16, 17]), (466, []), (467, []), (468, []), (469, []), (472, []), (473, []), (470, []), (471, []), (190, []), (191, [0])]) hr (fr_t (fr_0 _ _) (fr_s hf_21 rfl)) rfl (fun _ => rfl))) cl_X3_171 (qd_c (by decide +kernel)) (by decide) rfl (by decide +kernel) (Nat.le_of_ble_eq_true rfl) (by first | decide | (simp only [zX3_brokenLaw]; omega)) (by first | decide | (simp only [zX3_brokenLaw]; omega)) rfl ?_
        rintro _ _ ⟨rfl, x23, rfl, hx23⟩
        show J_ zX3_runAnew T (po_X3_runAnew_e T p ru) (((2048 - T1 190 (T1 103 p 16) (-2)) / 16).toNat) ((4096 - 2 * T1 190 (T1 103 p 16) (-2)).toNat) 84 _ [vI x23] T1
        refine j_blx (F := fX3) tb_X3 (nn_ _) bk_X3_runAnew_e_84 bs_X3_runAnew_e_84 hz (fun K hK => ?_)
        refine And.intro (fun c24 => ?_) (fun c24 => ?_)
        · refine hK 114 _ [] T1 ?_
          refine j_ok (fun gt _ => ?_)
          have ga := bd_f gt 103 16 tl_3_16 p
          refine j_blx (F := fX3) tb_X3 (nn_ _) bk_X3_runAnew_e_114 bs_X3_runAnew_e_114 hz (fun K hK => ?_)
          refine hK 123 _ [vI (T1 190 (T 103 p 14) ((i * 4) + 3)), vI (T1 190 (T 103 p 14) ((i * 4) + 2)), vI (T1 190 (T 103 p 14) ((i * 4) + 1)), vI (T1 190 (T 103 p 14) (i * 4)), vR 103 p] T1 ?_
          have gb : -2147483648 ≤ T1 103 p 16 := ga.1
          have gl : T1 103 p 14 = T 103 p 14 := hf_21 103 p 14 rfl
          by_cases g25 : 4 * T1 103 p 17 + 4 ≤ T1 190 (T1 103 p 16) (-2)
          · refine j_callV (y := yX3_putAside) (Yc := zX3_putAside0) (rest := []) [vI (T1 190 (T 103 p 14) (i * 4)), vI (T1 190 (T 103 p 14) ((i * 4) + 1)), vI (T1 190 (T 103 p 14) ((i * 4) + 2)), vI (T1 190 (T 103 p 14) ((i * 4) + 3))] (ct_X3_putAside0_e (T := T1) (by omega) (by omega) (by omega)) cl_X3_182_zX3_putAside0 (qd_c (by decide +kernel)) (by decide) rfl (by decide +kernel) (Nat.le_of_ble_eq_true rfl) (Nat.zero_le _) (Nat.zero_le _) rfl ?_
            rintro U26 _ ⟨rfl, fU26, qU26o, nU26, lU26, xU26⟩
            show J_ zX3_runAnew T (po_X3_runAnew_e T p ru) (((2048 - T1 190 (T1 103 p 16) (-2)) / 16).toNat) ((4096 - 2 * T1 190 (T1 103 p 16) (-2)).toNat) 126 _ [] U26
            refine j_blx (F := fX3) tb_X3 (nn_ _) bk_X3_runAnew_e_126 bs_X3_runAnew_e_126 hz (fun K hK => ?_)
            refine rg_i (by omega) ?_
            refine hK 21 [some (vR 103 p), some (vI (T 103 p 15)), some (vI (T 103 p 17)), some (vI (i + 1)), some (vI (T1 190 (T 103 p 14) (i * 4))), some (vI (T1 190 (T 103 p 14) ((i * 4) + 1))), some (vI (T1 190 (T 103 p 14) ((i * 4) + 2))), some (vI (T1 190 (T 103 p 14) ((i * 4) + 3)))] [] U26 ?_
            have e28 : U26 103 p 15 = T1 103 p 15 := fU26 103 p 15 rfl
            have e29 : U26 103 p 16 = T1 103 p 16 := fU26 103 p 16 rfl
            have e30 : U26 103 p 3 = T1 103 p 3 := fU26 103 p 3 rfl
            have e31 : U26 191 0 0 = T1 191 0 0 := fU26 191 0 0 rfl
            have y32 : U26 103 p 16 = T1 103 p 16 := fU26 103 p 16 rfl
            have d9 : U26 190 (U26 103 p 16) (-2) = T1 190 (T1 103 p 16) (-2) := by rw [y32]; exact lU26 _ (by omega)
            have u0 : T1 190 (T 103 p 14) (i * 4) = T 190 (T 103 p 14) (i * 4) := rr1 _ (by omega) (by omega)
            have u1 : T1 190 (T 103 p 14) (i * 4 + 1) = T 190 (T 103 p 14) (i * 4 + 1) := rr1 _ (by omega) (by omega)
            have u2 : T1 190 (T 103 p 14) (i * 4 + 2) = T 190 (T 103 p 14) (i * 4 + 2) := rr1 _ (by omega) (by omega)
            have u3 : T1 190 (T 103 p 14) (i * 4 + 3) = T 190 (T 103 p 14) (i * 4 + 3) := rr1 _ (by omega) (by omega)
            have er : ra9_ T (T 103 p 14) i = (T1 190 (T 103 p 14) (i * 4), T1 190 (T 103 p 14) (i * 4 + 1), T1 190 (T 103 p 14) (i * 4 + 2), T1 190 (T 103 p 14) (i * 4 + 3)) := by
              unfold ra9_
              rw [u0, u1, u2, u3]
            have en : rnH_ ru (bb9_ ru (rs9_ T p)) (hr9_ T (T 103 p 14) (i + 1).toNat) = stH_ ru (rnH_ ru (bb9_ ru (rs9_ T p)) (hr9_ T (T 103 p 14) i.toNat)) (ra9_ T (T 103 p 14) i) := by rw [hrw_t (by omega)]; exact rnH_a
            have en2 : rnH_ ru (bb9_ ru (rs9_ T p)) (hr9_ T (T 103 p 14) (i + 1).toNat) = ((rnH_ ru (bb9_ ru (rs9_ T p)) (hr9_ T (T 103 p 14) i.toNat)).1, (rnH_ ru (bb9_ ru (rs9_ T p)) (hr9_ T (T 103 p 14) i.toNat)).2.1, (rnH_ ru (bb9_ ru (rs9_ T p)) (hr9_ T (T 103 p 14) i.toNat)).2.2 + 1) := by rw [en, er]; exact stH_f (by rw [← fo1]; omega)
            have fa : rs9_ U26 p = (rnH_ ru (bb9_ ru (rs9_ T p)) (hr9_ T (T 103 p 14) (i + 1).toNat)).1 := by
              rw [en2, rs_w fU26 (fun k j d => by rcases dk_c d with rfl | rfl | rfl | rfl | rfl | rfl | rfl | rfl | rfl | rfl | ⟨rfl, rfl | rfl | rfl⟩ <;> rfl)]
              exact fo1
            have fb : hr9_ U26 (T 103 p 14) (U26 103 p 15).toNat = (rnH_ ru (bb9_ ru (rs9_ T p)) (hr9_ T (T 103 p 14) (i + 1).toNat)).2.1 := by
              rw [en2, show U26 103 p 15 = T1 103 p 15 from fU26 103 p 15 rfl, hrw_e (T := T1) (a := T 103 p 14) (fun j _ _ => xU26 _ j (fun z => by omega))]
              exact fo2
            have fc : U26 103 p 17 - T 103 p 17 = (rnH_ ru (bb9_ ru (rs9_ T p)) (hr9_ T (T 103 p 14) (i + 1).toNat)).2.2 := by
              rw [en2]
              show _ = (rnH_ ru (bb9_ ru (rs9_ T p)) (hr9_ T (T 103 p 14) i.toNat)).2.2 + 1
              rw [← fo3]
              omega
            refine j_drq [some (vR 103 p), some (vI (T 103 p 15)), some (vI (T 103 p 17)), some (vI (i + 1)), none, none, none, none] (drq_s (drq_s (drq_s (drq_s (drq_n (drq_n (drq_n (drq_n drq_0)))))))) ?_
            refine j_mono (bc' := (((2048 - U26 190 (U26 103 p 16) (-2)) / 16).toNat)) (bs' := ((4096 - 2 * U26 190 (U26 103 p 16) (-2)).toNat)) (by omega) (by omega) ?_
            have e33 : U26 103 p 15 = T1 103 p 15 := fU26 103 p 15 rfl
            have e34 : U26 103 p 16 = T1 103 p 16 := fU26 103 p 16 rfl
            have e35 : U26 103 p 3 = T1 103 p 3 := fU26 103 p 3 rfl
            have e36 : U26 470 p 0 = T1 470 p 0 := fU26 470 p 0 rfl
            have e37 : U26 470 p 1 = T1 470 p 1 := fU26 470 p 1 rfl
            have e38 : U26 191 0 0 = T1 191 0 0 := fU26 191 0 0 rfl
            refine ih_21 _ ?_ (i + 1) U26 (Nat.le_refl _) ?_ ?_ ?_ ?_ ?_ ?_ ?_ ?_ ?_ ?_ ?_ ?_ ?_ ?_ ?_
            · have hm_21 := hm_21 (); omega
            · exact fr_t (fr_t (fr_0 _ _) (fr_s hf_21 rfl)) (fr_s fU26 rfl)
            · exact oq_t (oT1) qU26o
            · exact fun x hx => (lU26 x (by omega)).trans (lT1 x hx)
            · omega
            · omega
            · omega
            · rw [d9]; exact i4
            · omega
            · intro z9
              have y1 := i6 (by omega)
              have y2 : U26 470 p 0 = T1 470 p 0 := fU26 470 p 0 rfl
              have y3 : U26 470 p 1 = T1 470 p 1 := fU26 470 p 1 rfl
              omega
            · omega
            · exact fun j a b => (xU26 _ j (fun z => by omega)).trans (rr1 j (by omega) b)
            · exact fun x j a b c => (xU26 x j (fun z => by omega)).trans (xx1 x j a b c)
            · exact fa
            · exact fb
            · exact fc
          · have gh := lz_h i4 (by omega)
            refine j_callV (pc := 123) (y := yX3_putAside) (Yc := (zX3_putAsideD (T1 190 (T1 103 p 16) (-2)).toNat)) (rest := []) [vI (T1 190 (T 103 p 14) (i * 4)), vI (T1 190 (T 103 p 14) ((i * 4) + 1)), vI (T1 190 (T 103 p 14) ((i * 4) + 2)), vI (T1 190 (T 103 p 14) ((i * 4) + 3))] (ct_X3_putAsideD_e (T := T1) (sl := (T1 190 (T1 103 p 16) (-2)).toNat) (by omega) (by omega) i4 (by omega)) (cl_X3_182_zX3_putAsideD _) (qd_c (by decide +kernel)) (by decide) rfl rfl (Nat.le_of_ble_eq_true rfl) (by show 1 ≤ ((2048 - T1 190 (T1 103 p 16) (-2)) / 16).toNat; omega) (by show 2 * (T1 190 (T1 103 p 16) (-2)).toNat ≤ (4096 - 2 * T1 190 (T1 103 p 16) (-2)).toNat; omega) rfl ?_
            rintro U39 _ ⟨rfl, fU39, qU39o, nU39, lU39, mU39, m2U39, zU39, iU39, kU39, dU39, xU39, gU39⟩
            show J_ zX3_runAnew T (po_X3_runAnew_e T p ru) ((((2048 - T1 190 (T1 103 p 16) (-2)) / 16).toNat) - 1) (((4096 - 2 * T1 190 (T1 103 p 16) (-2)).toNat) - (2 * (T1 190 (T1 103 p 16) (-2)).toNat)) 126 [some (vR 103 p), some (vI (T 103 p 15)), some (vI (T 103 p 17)), some (vI i), some (vI (T1 190 (T 103 p 14) (i * 4))), some (vI (T1 190 (T 103 p 14) ((i * 4) + 1))), some (vI (T1 190 (T 103 p 14) ((i * 4) + 2))), some (vI (T1 190 (T 103 p 14) ((i * 4) + 3)))] [] U39
            refine j_blx (F := fX3) tb_X3 (nn_ _) bk_X3_runAnew_e_126 bs_X3_runAnew_e_126 hz (fun K hK => ?_)
            refine rg_i (by omega) ?_
            refine hK 21 [some (vR 103 p), some (vI (T 103 p 15)), some (vI (T 103 p 17)), some (vI (i + 1)), some (vI (T1 190 (T 103 p 14) (i * 4))), some (vI (T1 190 (T 103 p 14) ((i * 4) + 1))), some (vI (T1 190 (T 103 p 14) ((i * 4) + 2))), some (vI (T1 190 (T 103 p 14) ((i * 4) + 3)))] [] U39 ?_
            have e41 : U39 103 p 15 = T1 103 p 15 := fU39 103 p 15 rfl
            have e42 : U39 103 p 3 = T1 103 p 3 := fU39 103 p 3 rfl
            have d9 : U39 190 (U39 103 p 16) (-2) = 2 * (T1 190 (T1 103 p 16) (-2)) := lz_2 i4 zU39 (by omega) (by omega)
            have u0 : T1 190 (T 103 p 14) (i * 4) = T 190 (T 103 p 14) (i * 4) := rr1 _ (by omega) (by omega)
            have u1 : T1 190 (T 103 p 14) (i * 4 + 1) = T 190 (T 103 p 14) (i * 4 + 1) := rr1 _ (by omega) (by omega)
            have u2 : T1 190 (T 103 p 14) (i * 4 + 2) = T 190 (T 103 p 14) (i * 4 + 2) := rr1 _ (by omega) (by omega)
            have u3 : T1 190 (T 103 p 14) (i * 4 + 3) = T 190 (T 103 p 14) (i * 4 + 3) := rr1 _ (by omega) (by omega)
            have er : ra9_ T (T 103 p 14) i = (T1 190 (T 103 p 14) (i * 4), T1 190 (T 103 p 14) (i * 4 + 1), T1 190 (T 103 p 14) (i * 4 + 2), T1 190 (T 103 p 14) (i * 4 + 3)) := by
              unfold ra9_
              rw [u0, u1, u2, u3]
            have en : rnH_ ru (bb9_ ru (rs9_ T p)) (hr9_ T (T 103 p 14) (i + 1).toNat) = stH_ ru (rnH_ ru (bb9_ ru (rs9_ T p)) (hr9_ T (T 103 p 14) i.toNat)) (ra9_ T (T 103 p 14) i) := by rw [hrw_t (by omega)]; exact rnH_a
            have en2 : rnH_ ru (bb9_ ru (rs9_ T p)) (hr9_ T (T 103 p 14) (i + 1).toNat) = ((rnH_ ru (bb9_ ru (rs9_ T p)) (hr9_ T (T 103 p 14) i.toNat)).1, (rnH_ ru (bb9_ ru (rs9_ T p)) (hr9_ T (T 103 p 14) i.toNat)).2.1, (rnH_ ru (bb9_ ru (rs9_ T p)) (hr9_ T (T 103 p 14) i.toNat)).2.2 + 1) := by rw [en, er]; exact stH_f (by rw [← fo1]; omega)
            have fa : rs9_ U39 p = (rnH_ ru (bb9_ ru (rs9_ T p)) (hr9_ T (T 103 p 14) (i + 1).toNat)).1 := by
              rw [en2, rs_w fU39 (fun k j d => by rcases dk_c d with rfl | rfl | rfl | rfl | rfl | rfl | rfl | rfl | rfl | rfl | ⟨rfl, rfl | rfl | rfl⟩ <;> rfl)]
              exact fo1
            have fb : hr9_ U39 (T 103 p 14) (U39 103 p 15).toNat = (rnH_ ru (bb9_ ru (rs9_ T p)) (hr9_ T (T 103 p 14) (i + 1).toNat)).2.1 := by
              rw [en2, show U39 103 p 15 = T1 103 p 15 from fU39 103 p 15 rfl, hrw_e (T := T1) (a := T 103 p 14) (fun j _ _ => xU39 _ j (by omega) (by omega))]
              exact fo2
            have fc : U39 103 p 17 - T 103 p 17 = (rnH_ ru (bb9_ ru (rs9_ T p)) (hr9_ T (T 103 p 14) (i + 1).toNat)).2.2 := by
              rw [en2]
              show _ = (rnH_ ru (bb9_ ru (rs9_ T p)) (hr9_ T (T 103 p 14) i.toNat)).2.2 + 1
              rw [← fo3]
              omega
            refine j_drq [some (vR 103 p), some (vI (T 103 p 15)), some (vI (T 103 p 17)), some (vI (i + 1)), none, none, none, none] (drq_s (drq_s (drq_s (drq_s (drq_n (drq_n (drq_n (drq_n drq_0)))))))) ?_
            refine j_mono (bc' := (((2048 - U39 190 (U39 103 p 16) (-2)) / 16).toNat)) (bs' := ((4096 - 2 * U39 190 (U39 103 p 16) (-2)).toNat)) (by omega) (by omega) ?_
            have e43 : U39 103 p 15 = T1 103 p 15 := fU39 103 p 15 rfl
            have e44 : U39 103 p 3 = T1 103 p 3 := fU39 103 p 3 rfl
            have e45 : U39 470 p 0 = T1 470 p 0 := fU39 470 p 0 rfl
            have e46 : U39 470 p 1 = T1 470 p 1 := fU39 470 p 1 rfl
            refine ih_21 _ ?_ (i + 1) U39 (Nat.le_refl _) ?_ ?_ ?_ ?_ ?_ ?_ ?_ ?_ ?_ ?_ ?_ ?_ ?_ ?_ ?_
            · have hm_21 := hm_21 (); omega
            · exact fr_t (fr_t (fr_0 _ _) (fr_s hf_21 rfl)) (fr_s fU39 rfl)
            · exact oq_t (oT1) qU39o
            · exact fun x hx => (lU39 x (by omega)).trans (lT1 x hx)
            · omega
            · omega
            · omega
            · exact zU39
            · omega
            · intro z9
              have y1 := i6 (by omega)
              have y2 : U39 470 p 0 = T1 470 p 0 := fU39 470 p 0 rfl
              have y3 : U39 470 p 1 = T1 470 p 1 := fU39 470 p 1 rfl
              omega
            · rcases gU39 with z | z
              · omega
              · omega
            · exact fun j a b => (xU39 _ j (by omega) (by omega)).trans (rr1 j (by omega) b)
            · exact fun x j a b c => (xU39 x j (by omega) (by omega)).trans (xx1 x j a b c)
            · exact fa
            · exact fb
            · exact fc
        · refine hK 96 _ [vI (T1 190 (T 103 p 14) ((i * 4) + 3)), vI (T1 190 (T 103 p 14) ((i * 4) + 2)), vI (T1 190 (T 103 p 14) ((i * 4) + 1)), vI (T1 190 (T 103 p 14) (i * 4)), vR 103 p] T1 ?_
          have e47 : T1 103 p 0 = T 103 p 0 := hf_21 103 p 0 rfl
          have e48 : T1 401 (T 103 p 0) 0 = T 401 (T 103 p 0) 0 := hf_21 401 (T 103 p 0) 0 rfl
          have r49 : T1 401 (T1 103 p 0) 0 = T 401 (T 103 p 0) 0 := by rw [e47]; exact e48
          have e50 : T1 103 p 0 = T 103 p 0 := hf_21 103 p 0 rfl
          have e51 : T1 401 (T 103 p 0) 0 = T 401 (T 103 p 0) 0 := hf_21 401 (T 103 p 0) 0 rfl
          have r52 : T1 401 (T1 103 p 0) 0 = T 401 (T 103 p 0) 0 := by rw [e50]; exact e51
          have e53 : T1 103 p 0 = T 103 p 0 := hf_21 103 p 0 rfl
          have e54 : T1 401 (T 103 p 0) 0 = T 401 (T 103 p 0) 0 := hf_21 401 (T 103 p 0) 0 rfl
          have r55 : T1 401 (T1 103 p 0) 0 = T 401 (T 103 p 0) 0 := by rw [e53]; exact e54
          have e56 : T1 103 p 0 = T 103 p 0 := hf_21 103 p 0 rfl
          have e57 : T1 401 (T 103 p 0) 0 = T 401 (T 103 p 0) 0 := hf_21 401 (T 103 p 0) 0 rfl
          have r58 : T1 401 (T1 103 p 0) 0 = T 401 (T 103 p 0) 0 := by rw [e56]; exact e57
          have e59 : T1 103 p 0 = T 103 p 0 := hf_21 103 p 0 rfl
          have e60 : T1 401 (T 103 p 0) 0 = T 401 (T 103 p 0) 0 := hf_21 401 (T 103 p 0) 0 rfl
          have r61 : T1 401 (T1 103 p 0) 0 = T 401 (T 103 p 0) 0 := by rw [e59]; exact e60
          have e62 : T1 103 p 0 = T 103 p 0 := hf_21 103 p 0 rfl
          have e63 : T1 401 (T 103 p 0) 0 = T 401 (T 103 p 0) 0 := hf_21 401 (T 103 p 0) 0 rfl
          have r64 : T1 401 (T1 103 p 0) 0 = T 401 (T 103 p 0) 0 := by rw [e62]; exact e63
          have e65 : T1 103 p 0 = T 103 p 0 := hf_21 103 p 0 rfl
          have e66 : T1 401 (T 103 p 0) 9 = T 401 (T 103 p 0) 9 := hf_21 401 (T 103 p 0) 9 rfl
          have r67 : T1 401 (T1 103 p 0) 9 = T 401 (T 103 p 0) 9 := by rw [e65]; exact e66
          have e68 : T1 103 p 0 = T 103 p 0 := hf_21 103 p 0 rfl
          have e69 : T1 401 (T 103 p 0) 9 = T 401 (T 103 p 0) 9 := hf_21 401 (T 103 p 0) 9 rfl
          have r70 : T1 401 (T1 103 p 0) 9 = T 401 (T 103 p 0) 9 := by rw [e68]; exact e69
          have e71 : T1 103 p 0 = T 103 p 0 := hf_21 103 p 0 rfl
          have e72 : T1 103 p 0 = T 103 p 0 := hf_21 103 p 0 rfl
          have g7 := hx23.1.2.2 (by omega)
          have g4 : T1 103 p 3 = 0 := by
            have y9 := (lw_0 (hx23.2.symm.trans (by omega))).1
            rw [rs_d rfl] at y9
            exact y9
          have g8 := i6 g4
          refine j_callV (y := yX3_carryOut) (Yc := zX3_carryOut) (rest := []) [vI (T1 190 (T 103 p 14) (i * 4)), vI (T1 190 (T 103 p 14) ((i * 4) + 1)), vI (T1 190 (T 103 p 14) ((i * 4) + 2)), vI (T1 190 (T 103 p 14) ((i * 4) + 3))] (ct_X3_carryOut_e (T := T1) (ru := ru) (by exact rl_f (ws := [(103, [3, 4, 5, 15, 16, 17]), (466, []), (467, []), (468, []), (469, []), (472, []), (473, []), (470, []), (471, []), (190, []), (191, [0])]) hr (fr_t (fr_0 _ _) (fr_s hf_21 rfl)) rfl (fun _ => rfl)) (by exact g7) (by omega) (by omega)) cl_X3_175 (qd_c (by decide +kernel)) (by decide) rfl (by decide +kernel) (Nat.le_of_ble_eq_true rfl) (by first | decide | (simp only [zX3_carryOut]; omega)) (by first | decide | (simp only [zX3_carryOut]; omega)) rfl ?_
          rintro U73 _ ⟨rfl, fU73, qU73o, qU73, qU73e⟩
          show J_ zX3_runAnew T (po_X3_runAnew_e T p ru) (((2048 - T1 190 (T1 103 p 16) (-2)) / 16).toNat) ((4096 - 2 * T1 190 (T1 103 p 16) (-2)).toNat) 99 _ [] U73
          refine j_blx (F := fX3) tb_X3 (nn_ _) bk_X3_runAnew_e_99 bs_X3_runAnew_e_99 hz (fun K hK => ?_)
          refine hK 108 _ [vI (T1 190 (T 103 p 14) ((i * 4) + 3)), vI (T1 190 (T 103 p 14) ((i * 4) + 2)), vI (T1 190 (T 103 p 14) ((i * 4) + 1)), vI (T1 190 (T 103 p 14) (i * 4)), vR 103 p] U73 ?_
          have e74 : U73 103 p 15 = T1 103 p 15 := fU73 103 p 15 rfl
          have e75 : U73 103 p 14 = T 103 p 14 := (fU73 103 p 14 rfl).trans (hf_21 103 p 14 rfl)
          have e76 : U73 191 0 0 = T1 191 0 0 := fU73 191 0 0 rfl
          have y77 : U73 103 p 14 = T 103 p 14 := (fU73 103 p 14 rfl).trans (hf_21 103 p 14 rfl)
          have y78 : U73 190 (U73 103 p 14) (-2) = T 190 (T 103 p 14) (-2) := by rw [y77]; exact (fU73 190 _ _ rfl).trans (lT1 _ (by omega))
          refine j_callV (y := yX3_keepRow) (Yc := zX3_keepRow0) (rest := []) [vI (T1 190 (T 103 p 14) (i * 4)), vI (T1 190 (T 103 p 14) ((i * 4) + 1)), vI (T1 190 (T 103 p 14) ((i * 4) + 2)), vI (T1 190 (T 103 p 14) ((i * 4) + 3))] (ct_X3_keepRow0_e (T := U73) (by omega) (by omega) (by omega)) cl_X3_179_zX3_keepRow0 (qd_c (by decide +kernel)) (by decide) rfl (by decide +kernel) (Nat.le_of_ble_eq_true rfl) (by first | decide | (simp only [zX3_keepRow0]; omega)) (by first | decide | (simp only [zX3_keepRow0]; omega)) rfl ?_
          rintro U79 _ ⟨rfl, fU79, qU79o, nU79, lU79, xU79, bU79⟩
          show J_ zX3_runAnew T (po_X3_runAnew_e T p ru) (((2048 - T1 190 (T1 103 p 16) (-2)) / 16).toNat) ((4096 - 2 * T1 190 (T1 103 p 16) (-2)).toNat) 111 _ [] U79
          refine j_blx (F := fX3) tb_X3 (nn_ _) bk_X3_runAnew_e_111 bs_X3_runAnew_e_111 hz (fun K hK => ?_)
          refine hK 126 _ [] U79 ?_
          refine j_blx (F := fX3) tb_X3 (nn_ _) bk_X3_runAnew_e_126 bs_X3_runAnew_e_126 hz (fun K hK => ?_)
          refine rg_i (by omega) ?_
          refine hK 21 [some (vR 103 p), some (vI (T 103 p 15)), some (vI (T 103 p 17)), some (vI (i + 1)), some (vI (T1 190 (T 103 p 14) (i * 4))), some (vI (T1 190 (T 103 p 14) ((i * 4) + 1))), some (vI (T1 190 (T 103 p 14) ((i * 4) + 2))), some (vI (T1 190 (T 103 p 14) ((i * 4) + 3)))] [] U79 ?_
          have e81 : U79 103 p 17 = T1 103 p 17 := (fU79 103 p 17 rfl).trans (fU73 103 p 17 rfl)
          have e82 : U79 103 p 16 = T1 103 p 16 := (fU79 103 p 16 rfl).trans (fU73 103 p 16 rfl)
          have e83 : U79 103 p 3 = U73 103 p 3 := fU79 103 p 3 rfl
          have e84 : U79 191 0 0 = T1 191 0 0 := (fU79 191 0 0 rfl).trans (fU73 191 0 0 rfl)
          have y85 : U79 103 p 16 = T1 103 p 16 := (fU79 103 p 16 rfl).trans (fU73 103 p 16 rfl)
          have d9 : U79 190 (U79 103 p 16) (-2) = T1 190 (T1 103 p 16) (-2) := by rw [y85]; exact (lU79 _ (by omega)).trans (fU73 190 _ _ rfl)
          have u0 : T1 190 (T 103 p 14) (i * 4) = T 190 (T 103 p 14) (i * 4) := rr1 _ (by omega) (by omega)
          have u1 : T1 190 (T 103 p 14) (i * 4 + 1) = T 190 (T 103 p 14) (i * 4 + 1) := rr1 _ (by omega) (by omega)
          have u2 : T1 190 (T 103 p 14) (i * 4 + 2) = T 190 (T 103 p 14) (i * 4 + 2) := rr1 _ (by omega) (by omega)
          have u3 : T1 190 (T 103 p 14) (i * 4 + 3) = T 190 (T 103 p 14) (i * 4 + 3) := rr1 _ (by omega) (by omega)
          have er : ra9_ T (T 103 p 14) i = (T1 190 (T 103 p 14) (i * 4), T1 190 (T 103 p 14) (i * 4 + 1), T1 190 (T 103 p 14) (i * 4 + 2), T1 190 (T 103 p 14) (i * 4 + 3)) := by
            unfold ra9_
            rw [u0, u1, u2, u3]
          have en : rnH_ ru (bb9_ ru (rs9_ T p)) (hr9_ T (T 103 p 14) (i + 1).toNat) = stH_ ru (rnH_ ru (bb9_ ru (rs9_ T p)) (hr9_ T (T 103 p 14) i.toNat)) (ra9_ T (T 103 p 14) i) := by rw [hrw_t (by omega)]; exact rnH_a
          have g9 : U73 103 p 14 = T 103 p 14 := (fU73 103 p 14 rfl).trans (hf_21 103 p 14 rfl)
          have g6 : U79 103 p 14 = T 103 p 14 := (fU79 103 p 14 rfl).trans g9
          have g5 : U73 103 p 15 = T1 103 p 15 := fU73 103 p 15 rfl
          have en2 : rnH_ ru (bb9_ ru (rs9_ T p)) (hr9_ T (T 103 p 14) (i + 1).toNat) = (ca9_ ru (rnH_ ru (bb9_ ru (rs9_ T p)) (hr9_ T (T 103 p 14) i.toNat)).1 (T1 190 (T 103 p 14) (i * 4)) (T1 190 (T 103 p 14) (i * 4 + 1)) (T1 190 (T 103 p 14) (i * 4 + 2)) (T1 190 (T 103 p 14) (i * 4 + 3)), (rnH_ ru (bb9_ ru (rs9_ T p)) (hr9_ T (T 103 p 14) i.toNat)).2.1 ++ [(T1 190 (T 103 p 14) (i * 4), T1 190 (T 103 p 14) (i * 4 + 1), T1 190 (T 103 p 14) (i * 4 + 2), T1 190 (T 103 p 14) (i * 4 + 3))], (rnH_ ru (bb9_ ru (rs9_ T p)) (hr9_ T (T 103 p 14) i.toNat)).2.2) := by rw [en, er]; exact stH_t (by rw [← fo1]; omega)
          have fa : rs9_ U79 p = (rnH_ ru (bb9_ ru (rs9_ T p)) (hr9_ T (T 103 p 14) (i + 1).toNat)).1 := by
            rw [en2]
            show _ = ca9_ ru (rnH_ ru (bb9_ ru (rs9_ T p)) (hr9_ T (T 103 p 14) i.toNat)).1 (T1 190 (T 103 p 14) (i * 4)) (T1 190 (T 103 p 14) (i * 4 + 1)) (T1 190 (T 103 p 14) (i * 4 + 2)) (T1 190 (T 103 p 14) (i * 4 + 3))
            rw [← fo1, rs_w fU79 (fun k j d => by rcases dk_c d with rfl | rfl | rfl | rfl | rfl | rfl | rfl | rfl | rfl | rfl | ⟨rfl, rfl | rfl | rfl⟩ <;> rfl)]
            exact qU73e
          have fb : hr9_ U79 (T 103 p 14) (U79 103 p 15).toNat = (rnH_ ru (bb9_ ru (rs9_ T p)) (hr9_ T (T 103 p 14) (i + 1).toNat)).2.1 := by
            rw [en2]
            have b9 := bU79
            rw [g6, g9, g5, hrw_e (T := T1) (a := T 103 p 14) (fun j _ _ => fU73 190 _ j rfl), fo2] at b9
            exact b9
          have fc : U79 103 p 17 - T 103 p 17 = (rnH_ ru (bb9_ ru (rs9_ T p)) (hr9_ T (T 103 p 14) (i + 1).toNat)).2.2 := by
            rw [en2]
            show _ = (rnH_ ru (bb9_ ru (rs9_ T p)) (hr9_ T (T 103 p 14) i.toNat)).2.2
            rw [← fo3]
            omega
          refine j_drq [some (vR 103 p), some (vI (T 103 p 15)), some (vI (T 103 p 17)), some (vI (i + 1)), none, none, none, none] (drq_s (drq_s (drq_s (drq_s (drq_n (drq_n (drq_n (drq_n drq_0)))))))) ?_
          refine j_mono (bc' := (((2048 - U79 190 (U79 103 p 16) (-2)) / 16).toNat)) (bs' := ((4096 - 2 * U79 190 (U79 103 p 16) (-2)).toNat)) (by omega) (by omega) ?_
          have e86 : U79 103 p 17 = T1 103 p 17 := (fU79 103 p 17 rfl).trans (fU73 103 p 17 rfl)
          have e87 : U79 103 p 16 = T1 103 p 16 := (fU79 103 p 16 rfl).trans (fU73 103 p 16 rfl)
          have e88 : U79 103 p 3 = U73 103 p 3 := fU79 103 p 3 rfl
          have e89 : U79 470 p 0 = U73 470 p 0 := fU79 470 p 0 rfl
          have e90 : U79 470 p 1 = U73 470 p 1 := fU79 470 p 1 rfl
          have e91 : U79 191 0 0 = T1 191 0 0 := (fU79 191 0 0 rfl).trans (fU73 191 0 0 rfl)
          refine ih_21 _ ?_ (i + 1) U79 (Nat.le_refl _) ?_ ?_ ?_ ?_ ?_ ?_ ?_ ?_ ?_ ?_ ?_ ?_ ?_ ?_ ?_
          · have hm_21 := hm_21 (); omega
          · exact fr_t (fr_t (fr_t (fr_0 _ _) (fr_s hf_21 rfl)) (fr_s fU73 rfl)) (fr_s fU79 rfl)
          · exact oq_t (oq_i (oT1) qU73o) qU79o
          · exact fun x hx => (lU79 x (by omega)).trans ((fU73 190 x (-2) rfl).trans (lT1 x hx))
          · omega
          · omega
          · omega
          · rw [d9]; exact i4
          · omega
          · intro z9
            have y1 := qU73 (by omega)
            have y2 : U79 470 p 0 = U73 470 p 0 := fU79 470 p 0 rfl
            have y3 : U79 470 p 1 = U73 470 p 1 := fU79 470 p 1 rfl
            omega
          · omega
          · exact fun j a b => (xU79 _ j (fun z => by omega)).trans ((fU73 190 _ j rfl).trans (rr1 j (by omega) b))
          · exact fun x j a b c => (xU79 x j (fun z => by omega)).trans ((fU73 190 x j rfl).trans (xx1 x j a b c))
          · exact fa
          · exact fb
          · exact fc
  refine j_blx (F := fX3) tb_X3 (nn_ _) bk_X3_runAnew_e_0 bs_X3_runAnew_e_0 hz (fun K hK => ?_)
  intro b92 b92b
  intro b93 b93b
  refine bd_i (by omega) ?_
  refine x_nm (fun U94 hU94 => ?_)
  have e95 := up_f hU94
  refine hK 16 [some (vR 103 p), some (vI (T 103 p 15)), some (vI (T 103 p 17)), none, none, none, none, none] [vR 103 p] U94 ?_
  have e96 : U94 103 p 0 = T 103 p 0 := up_j hU94 (by decide) 103 p
  have e97 : U94 401 (T 103 p 0) 9 = T 401 (T 103 p 0) 9 := up_k hU94 (by exact Nat.ne_of_beq_eq_false rfl) (T 103 p 0) 9
  have r98 : U94 401 (U94 103 p 0) 9 = T 401 (T 103 p 0) 9 := by rw [e96]; exact e97
  have e99 : U94 103 p 0 = T 103 p 0 := up_j hU94 (by decide) 103 p
  have e100 : U94 401 (T 103 p 0) 9 = T 401 (T 103 p 0) 9 := up_k hU94 (by exact Nat.ne_of_beq_eq_false rfl) (T 103 p 0) 9
  have r101 : U94 401 (U94 103 p 0) 9 = T 401 (T 103 p 0) 9 := by rw [e99]; exact e100
  have e102 : U94 103 p 0 = T 103 p 0 := up_j hU94 (by decide) 103 p
  refine j_callV (y := yX3_backToBeginning) (Yc := zX3_backToBeginning) (rest := []) [] (ct_X3_backToBeginning_e (T := U94) (ru := ru) (by exact rl_f (ws := [(103, [15])]) hr (fr_u (fr_0 _ _) hU94 rfl) rfl (fun _ => rfl)) (by omega)) cl_X3_168 (qd_c (by decide +kernel)) (nn_ _) rfl (rf_of rfl) (Nat.le_of_ble_eq_true rfl) (Nat.le_of_ble_eq_true rfl) (Nat.le_of_ble_eq_true rfl) rfl ?_
  rintro U103 _ ⟨rfl, fU103, qU103o, qU103, qU103e⟩
  show J_ zX3_runAnew T (po_X3_runAnew_e T p ru) 127 4064 19 _ [] U103
  refine j_blx (F := fX3) tb_X3 (nn_ _) bk_X3_runAnew_e_19 bs_X3_runAnew_e_19 hz (fun K hK => ?_)
  refine hK 21 [some (vR 103 p), some (vI (T 103 p 15)), some (vI (T 103 p 17)), some (vI 0), none, none, none, none] [] U103 ?_
  have e104 : U103 103 p 15 = 0 := (fU103 103 p 15 rfl).trans (up_f hU94)
  have e105 : U103 103 p 17 = T 103 p 17 := (fU103 103 p 17 rfl).trans (up_j hU94 (by decide) 103 p)
  have e106 : U103 103 p 16 = T 103 p 16 := (fU103 103 p 16 rfl).trans (up_j hU94 (by decide) 103 p)
  have e107 : U103 191 0 0 = T 191 0 0 := (fU103 191 0 0 rfl).trans (up_k hU94 (by exact Nat.ne_of_beq_eq_false rfl) 0 0)
  have y108 : U103 103 p 16 = T 103 p 16 := (fU103 103 _ _ rfl).trans (up_j hU94 (by decide) _ _)
  have d9 : U103 190 (U103 103 p 16) (-2) = T 190 (T 103 p 16) (-2) := by rw [y108]; exact (fU103 190 _ _ rfl).trans (up_k hU94 (by exact Nat.ne_of_beq_eq_false rfl) _ _)
  have fa : rs9_ U103 p = (rnH_ ru (bb9_ ru (rs9_ T p)) (hr9_ T (T 103 p 14) (0 : Int).toNat)).1 := by
    show _ = bb9_ ru (rs9_ T p)
    rw [qU103e, rs_n (T := T) (fun k j d => up_g hU94 (fun z => by rcases dk_c d with y | y | y | y | y | y | y | y | y | y | ⟨y, y2 | y2 | y2⟩ <;> omega))]
  have fb : hr9_ U103 (T 103 p 14) (U103 103 p 15).toNat = (rnH_ ru (bb9_ ru (rs9_ T p)) (hr9_ T (T 103 p 14) (0 : Int).toNat)).2.1 := by
    rw [show U103 103 p 15 = 0 by omega]
    rfl
  have fc : U103 103 p 17 - T 103 p 17 = (rnH_ ru (bb9_ ru (rs9_ T p)) (hr9_ T (T 103 p 14) (0 : Int).toNat)).2.2 := by
    show _ = (0 : Int)
    omega
  refine j_mono (bc' := (((2048 - U103 190 (U103 103 p 16) (-2)) / 16).toNat)) (bs' := ((4096 - 2 * U103 190 (U103 103 p 16) (-2)).toNat)) (by omega) (by omega) ?_
  have e109 : U103 103 p 15 = 0 := (fU103 103 p 15 rfl).trans (up_f hU94)
  have e110 : U103 103 p 17 = T 103 p 17 := (fU103 103 p 17 rfl).trans (up_j hU94 (by decide) 103 p)
  have e111 : U103 103 p 16 = T 103 p 16 := (fU103 103 p 16 rfl).trans (up_j hU94 (by decide) 103 p)
  have e112 : U103 191 0 0 = T 191 0 0 := (fU103 191 0 0 rfl).trans (up_k hU94 (by exact Nat.ne_of_beq_eq_false rfl) 0 0)
  refine c_21 _ 0 U103 (Nat.le_refl _) ?_ ?_ ?_ ?_ ?_ ?_ ?_ ?_ ?_ ?_ ?_ ?_ ?_ ?_ ?_
  · exact fr_t (fr_u (fr_0 _ _) hU94 rfl) (fr_s fU103 rfl)
  · exact oq_i (oq_u (oq_r) hU94) qU103o
  · exact fun x hx => (fU103 190 _ _ rfl).trans (up_k hU94 (by exact Nat.ne_of_beq_eq_false rfl) _ _)
  · omega
  · omega
  · omega
  · rw [d9]; exact hz9
  · omega
  · exact fun z9 => qU103.1
  · omega
  · exact fun j _ _ => (fU103 190 _ _ rfl).trans (up_k hU94 (by exact Nat.ne_of_beq_eq_false rfl) _ _)
  · exact fun x j _ _ _ => (fU103 190 _ _ rfl).trans (up_k hU94 (by exact Nat.ne_of_beq_eq_false rfl) _ _)
  · exact fa
  · exact fb
  · exact fc
/-- a run of rows, as the reference ends it -/
def RNR_ (r : Int → Int) (m x : Int) (T T' : Zt) (l : List Rw_) : Prop := ∃ b : Sg_, BGR_ m r (rp9_ T m) b ∧ rp9_ T' m = (rnR_ r m b l).1 ∧ rw9_ T' m = (rnR_ r m b l).2.1 ∧ x = (rnR_ r m b l).2.2 ∧ T' 256 0 m = T 256 0 m + x
/-- what holds of the other matches -/
def OMR_ (T T' : Zt) (m : Int) : Prop := ro9_ T T' m ∧ ∀ j, j ≠ m → 0 ≤ j → j < T 111 0 29 → rw9_ T' j = rw9_ T j ∧ T' 254 0 j = T 254 0 j ∧ T' 256 0 j = T 256 0 j
theorem om_r {T : Zt} {m : Int} : OMR_ T T m := ⟨ro_r, fun _ _ _ _ => ⟨rfl, rfl, rfl⟩⟩
theorem rp_xo {T T1 : Zt} {m : Int} (h : ∀ K j, K = 246 ∨ K = 244 ∨ K = 239 ∨ K = 245 ∨ K = 240 ∨ K = 241 ∨ K = 242 ∨ K = 243 ∨ K = 235 ∨ K = 236 ∨ K = 237 → T1 K 0 j = T K 0 j) : ro9_ T T1 m := fun _ _ => rp_x h
theorem bk_X11_putBehind_e_0 : ck_ fX11 none cX11_putBehind 0 [.iload 3, .ifCond .eq 13, .aload 0, .tableswitch 0 11 56 #[], .iload 1, .iaload, .goto 19] 13 = true := qck_r (nn_ _) (by decide +kernel)
theorem bs_X11_putBehind_e_0 {P : Zt → Option Zv → Prop} (K : Int → Zl → List Zv → Zt → Prop) : sx_ K P [.iload 3, .ifCond .eq 13, .aload 0, .tableswitch 0 11 56 #[], .iload 1, .iaload, .goto 19] 13 = x_iload 3 (x_ifCond .eq 13 K (x_aload 0 (x_g1 111 256 (x_iload 1 (x_iaload (x_goto 19 K)))))) := ((xe_iload 3).trans (congrArg (x_iload 3) ((xe_ifCond .eq 13).trans (congrArg (x_ifCond .eq 13 K) ((xe_aload 0).trans (congrArg (x_aload 0) ((xe_g1 (kk := 111) rfl tl_11_56).trans (congrArg (x_g1 111 256) ((xe_iload 1).trans (congrArg (x_iload 1) ((xe_iaload).trans (congrArg (x_iaload) (xe_goto 19)))))))))))))
theorem bk_X11_putBehind_e_13 : ck_ fX11 none cX11_putBehind 13 [.aload 0, .tableswitch 0 11 54 #[], .iload 1, .iaload, .istore 4, .aload 0, .tableswitch 0 11 52 #[], .iload 2, .iconst (-1), .iastore, .iload 4, .ifCond .le 69, .aload 0, .tableswitch 0 11 52 #[], .aload 0, .iload 3, .ifCond .eq 51, .aload 0, .tableswitch 0 11 55 #[], .iload 1, .iaload, .goto 57] 51 = true := qck_r (nn_ _) (by decide +kernel)
theorem bs_X11_putBehind_e_13 {P : Zt → Option Zv → Prop} (K : Int → Zl → List Zv → Zt → Prop) : sx_ K P [.aload 0, .tableswitch 0 11 54 #[], .iload 1, .iaload, .istore 4, .aload 0, .tableswitch 0 11 52 #[], .iload 2, .iconst (-1), .iastore, .iload 4, .ifCond .le 69, .aload 0, .tableswitch 0 11 52 #[], .aload 0, .iload 3, .ifCond .eq 51, .aload 0, .tableswitch 0 11 55 #[], .iload 1, .iaload, .goto 57] 51 = x_aload 0 (x_g1 111 254 (x_iload 1 (x_iaload (x_istore 4 (x_aload 0 (x_g1 111 252 (x_iload 2 (x_iconst (-1) (x_iastore (x_iload 4 (x_ifCond .le 69 K (x_aload 0 (x_g1 111 252 (x_aload 0 (x_iload 3 (x_ifCond .eq 51 K (x_aload 0 (x_g1 111 255 (x_iload 1 (x_iaload (x_goto 57 K))))))))))))))))))))) := ((xe_aload 0).trans (congrArg (x_aload 0) ((xe_g1 (kk := 111) rfl tl_11_54).trans (congrArg (x_g1 111 254) ((xe_iload 1).trans (congrArg (x_iload 1) ((xe_iaload).trans (congrArg (x_iaload) ((xe_istore 4).trans (congrArg (x_istore 4) ((xe_aload 0).trans (congrArg (x_aload 0) ((xe_g1 (kk := 111) rfl tl_11_52).trans (congrArg (x_g1 111 252) ((xe_iload 2).trans (congrArg (x_iload 2) ((xe_iconst (-1)).trans (congrArg (x_iconst (-1)) ((xe_iastore).trans (congrArg (x_iastore) ((xe_iload 4).trans (congrArg (x_iload 4) ((xe_ifCond .le 69).trans (congrArg (x_ifCond .le 69 K) ((xe_aload 0).trans (congrArg (x_aload 0) ((xe_g1 (kk := 111) rfl tl_11_52).trans (congrArg (x_g1 111 252) ((xe_aload 0).trans (congrArg (x_aload 0) ((xe_iload 3).trans (congrArg (x_iload 3) ((xe_ifCond .eq 51).trans (congrArg (x_ifCond .eq 51 K) ((xe_aload 0).trans (congrArg (x_aload 0) ((xe_g1 (kk := 111) rfl tl_11_55).trans (congrArg (x_g1 111 255) ((xe_iload 1).trans (congrArg (x_iload 1) ((xe_iaload).trans (congrArg (x_iaload) (xe_goto 57)))))))))))))))))))))))))))))))))))))))))))
theorem bk_X11_putBehind_e_69 : ck_ fX11 none cX11_putBehind 69 [.iload 3, .ifCond .eq 83, .aload 0, .tableswitch 0 11 55 #[], .iload 1, .iload 2, .iastore, .goto 90] 83 = true := qck_r (nn_ _) (by decide +kernel)
theorem bs_X11_putBehind_e_69 {P : Zt → Option Zv → Prop} (K : Int → Zl → List Zv → Zt → Prop) : sx_ K P [.iload 3, .ifCond .eq 83, .aload 0, .tableswitch 0 11 55 #[], .iload 1, .iload 2, .iastore, .goto 90] 83 = x_iload 3 (x_ifCond .eq 83 K (x_aload 0 (x_g1 111 255 (x_iload 1 (x_iload 2 (x_iastore (x_goto 90 K))))))) := ((xe_iload 3).trans (congrArg (x_iload 3) ((xe_ifCond .eq 83).trans (congrArg (x_ifCond .eq 83 K) ((xe_aload 0).trans (congrArg (x_aload 0) ((xe_g1 (kk := 111) rfl tl_11_55).trans (congrArg (x_g1 111 255) ((xe_iload 1).trans (congrArg (x_iload 1) ((xe_iload 2).trans (congrArg (x_iload 2) ((xe_iastore).trans (congrArg (x_iastore) (xe_goto 90)))))))))))))))
theorem bk_X11_putBehind_e_83 : ck_ fX11 none cX11_putBehind 83 [.aload 0, .tableswitch 0 11 53 #[], .iload 1, .iload 2, .iastore, .aload 0, .tableswitch 0 11 56 #[], .iload 1, .dup2, .iaload, .iload 3, .ifCond .eq 105, .iconst 1, .goto 106] 105 = true := qck_r (nn_ _) (by decide +kernel)
theorem bs_X11_putBehind_e_83 {P : Zt → Option Zv → Prop} (K : Int → Zl → List Zv → Zt → Prop) : sx_ K P [.aload 0, .tableswitch 0 11 53 #[], .iload 1, .iload 2, .iastore, .aload 0, .tableswitch 0 11 56 #[], .iload 1, .dup2, .iaload, .iload 3, .ifCond .eq 105, .iconst 1, .goto 106] 105 = x_aload 0 (x_g1 111 253 (x_iload 1 (x_iload 2 (x_iastore (x_aload 0 (x_g1 111 256 (x_iload 1 (x_dup2 (x_iaload (x_iload 3 (x_ifCond .eq 105 K (x_iconst 1 (x_goto 106 K))))))))))))) := ((xe_aload 0).trans (congrArg (x_aload 0) ((xe_g1 (kk := 111) rfl tl_11_53).trans (congrArg (x_g1 111 253) ((xe_iload 1).trans (congrArg (x_iload 1) ((xe_iload 2).trans (congrArg (x_iload 2) ((xe_iastore).trans (congrArg (x_iastore) ((xe_aload 0).trans (congrArg (x_aload 0) ((xe_g1 (kk := 111) rfl tl_11_56).trans (congrArg (x_g1 111 256) ((xe_iload 1).trans (congrArg (x_iload 1) ((xe_dup2).trans (congrArg (x_dup2) ((xe_iaload).trans (congrArg (x_iaload) ((xe_iload 3).trans (congrArg (x_iload 3) ((xe_ifCond .eq 105).trans (congrArg (x_ifCond .eq 105 K) ((xe_iconst 1).trans (congrArg (x_iconst 1) (xe_goto 106)))))))))))))))))))))))))))
theorem bk_X11_putBehind_e_105 : ck_ fX11 none cX11_putBehind 105 [.iconst 0, .iadd, .iastore, .aload 0, .tableswitch 0 11 54 #[], .iload 1, .dup2, .iaload, .iload 3, .ifCond .eq 123, .iconst 0, .goto 124] 123 = true := qck_r (nn_ _) (by decide +kernel)
theorem bs_X11_putBehind_e_105 {P : Zt → Option Zv → Prop} (K : Int → Zl → List Zv → Zt → Prop) : sx_ K P [.iconst 0, .iadd, .iastore, .aload 0, .tableswitch 0 11 54 #[], .iload 1, .dup2, .iaload, .iload 3, .ifCond .eq 123, .iconst 0, .goto 124] 123 = x_iconst 0 (x_iadd (x_iastore (x_aload 0 (x_g1 111 254 (x_iload 1 (x_dup2 (x_iaload (x_iload 3 (x_ifCond .eq 123 K (x_iconst 0 (x_goto 124 K))))))))))) := ((xe_iconst 0).trans (congrArg (x_iconst 0) ((xe_iadd).trans (congrArg (x_iadd) ((xe_iastore).trans (congrArg (x_iastore) ((xe_aload 0).trans (congrArg (x_aload 0) ((xe_g1 (kk := 111) rfl tl_11_54).trans (congrArg (x_g1 111 254) ((xe_iload 1).trans (congrArg (x_iload 1) ((xe_dup2).trans (congrArg (x_dup2) ((xe_iaload).trans (congrArg (x_iaload) ((xe_iload 3).trans (congrArg (x_iload 3) ((xe_ifCond .eq 123).trans (congrArg (x_ifCond .eq 123 K) ((xe_iconst 0).trans (congrArg (x_iconst 0) (xe_goto 124)))))))))))))))))))))))
theorem bk_X11_putBehind_e_123 : ck_ fX11 none cX11_putBehind 123 [.iconst 1, .iadd, .iastore, .return_] 127 = true := qck_r (nn_ _) (by decide +kernel)
theorem bs_X11_putBehind_e_123 {P : Zt → Option Zv → Prop} (K : Int → Zl → List Zv → Zt → Prop) : sx_ K P [.iconst 1, .iadd, .iastore, .return_] 127 = x_iconst 1 (x_iadd (x_iastore (x_return_ P))) := ((xe_iconst 1).trans (congrArg (x_iconst 1) ((xe_iadd).trans (congrArg (x_iadd) ((xe_iastore).trans (congrArg (x_iastore) (xe_return_)))))))
theorem bk_X11_putBehind_e_51 : ck_ fX11 none cX11_putBehind 51 [.aload 0, .tableswitch 0 11 53 #[], .iload 1, .iaload, .iload 4, .iconst 1, .isub] 61 = true := qck_r (nn_ _) (by decide +kernel)
theorem bs_X11_putBehind_e_51 {P : Zt → Option Zv → Prop} (K : Int → Zl → List Zv → Zt → Prop) : sx_ K P [.aload 0, .tableswitch 0 11 53 #[], .iload 1, .iaload, .iload 4, .iconst 1, .isub] 61 = x_aload 0 (x_g1 111 253 (x_iload 1 (x_iaload (x_iload 4 (x_iconst 1 (x_isub (K 61))))))) := ((xe_aload 0).trans (congrArg (x_aload 0) ((xe_g1 (kk := 111) rfl tl_11_53).trans (congrArg (x_g1 111 253) ((xe_iload 1).trans (congrArg (x_iload 1) ((xe_iaload).trans (congrArg (x_iaload) ((xe_iload 4).trans (congrArg (x_iload 4) ((xe_iconst 1).trans (congrArg (x_iconst 1) ((xe_isub).trans (congrArg (x_isub) xe_nil))))))))))))))
theorem bk_X11_putBehind_e_64 : ck_ fX11 none cX11_putBehind 64 [.iload 2, .iastore, .goto 90] 69 = true := qck_r (nn_ _) (by decide +kernel)
theorem bs_X11_putBehind_e_64 {P : Zt → Option Zv → Prop} (K : Int → Zl → List Zv → Zt → Prop) : sx_ K P [.iload 2, .iastore, .goto 90] 69 = x_iload 2 (x_iastore (x_goto 90 K)) := ((xe_iload 2).trans (congrArg (x_iload 2) ((xe_iastore).trans (congrArg (x_iastore) (xe_goto 90)))))
theorem bk_X11_putBehind_e_90 : ck_ fX11 none cX11_putBehind 90 [.aload 0, .tableswitch 0 11 56 #[], .iload 1, .dup2, .iaload, .iload 3, .ifCond .eq 105, .iconst 1, .goto 106] 105 = true := qck_r (nn_ _) (by decide +kernel)
theorem bs_X11_putBehind_e_90 {P : Zt → Option Zv → Prop} (K : Int → Zl → List Zv → Zt → Prop) : sx_ K P [.aload 0, .tableswitch 0 11 56 #[], .iload 1, .dup2, .iaload, .iload 3, .ifCond .eq 105, .iconst 1, .goto 106] 105 = x_aload 0 (x_g1 111 256 (x_iload 1 (x_dup2 (x_iaload (x_iload 3 (x_ifCond .eq 105 K (x_iconst 1 (x_goto 106 K)))))))) := ((xe_aload 0).trans (congrArg (x_aload 0) ((xe_g1 (kk := 111) rfl tl_11_56).trans (congrArg (x_g1 111 256) ((xe_iload 1).trans (congrArg (x_iload 1) ((xe_dup2).trans (congrArg (x_dup2) ((xe_iaload).trans (congrArg (x_iaload) ((xe_iload 3).trans (congrArg (x_iload 3) ((xe_ifCond .eq 105).trans (congrArg (x_ifCond .eq 105 K) ((xe_iconst 1).trans (congrArg (x_iconst 1) (xe_goto 106)))))))))))))))))
abbrev po_X11_putBehind_0_e (T : Zt) (rest : List Int) (m x : Int) : Zt → Option Zv → Prop := fun T' r => r = none ∧ fr_ [(252, []), (253, []), (254, []), (256, [])] T T' ∧ (RX_ T' rest ∧ (∀ z ∈ rest, T' 252 0 z = T 252 0 z) ∧ T' 254 0 m = T 254 0 m + 1 ∧ (∀ j, j ≠ m → T' 254 0 j = T 254 0 j) ∧ T' 254 0 m ≤ 3000 ∧ (∀ j, j ≠ m → T' 256 0 j = T 256 0 j) ∧ T' 256 0 m = T 256 0 m + 0 ∧ rw9_ T' m = rw9_ T m ++ [rwc_ T x] ∧ ∀ j, j ≠ m → 0 ≤ j → j < T 111 0 29 → rw9_ T' j = rw9_ T j)
set_option maxHeartbeats 4000000 in
theorem ct_X11_putBehind_0_e {T : Zt} {rest : List Int} {m x : Int} (h1 : 0 ≤ m ∧ m < T 111 0 29) (hx : RX_ T (x :: rest)) : Ct_ yX11_putBehind zX11_putBehind T [vR 111 0, vI m, vI x, vI 0] (po_X11_putBehind_0_e T rest m x) := by
  refine ct_of pn_11 rfl rfl (Nat.le_of_ble_eq_true rfl) (fun hT hav => ?_)
  have hr_m : -2147483648 ≤ m ∧ m ≤ 2147483647 := hav (vI m) (List.mem_cons_of_mem _ List.mem_cons_self)
  have hr_x : -2147483648 ≤ x ∧ x ≤ 2147483647 := hav (vI x) (List.mem_cons_of_mem _ (List.mem_cons_of_mem _ List.mem_cons_self))
  have hz : zX11_putBehind.2.2.2.1 = some .boolean → ∀ (T' : Zt) (x9 : Int), po_X11_putBehind_0_e T rest m x T' (some (vI x9)) → 0 ≤ x9 ∧ x9 ≤ 1 := fun h => by cases h
  have hb_29 : 0 ≤ T 111 0 29 ∧ T 111 0 29 ≤ 400 := bd_f hT 111 29 tl_11_29 0
  have hb_47 : 0 ≤ T 111 0 47 ∧ T 111 0 47 ≤ 3000 := bd_f hT 111 47 tl_11_47 0
  obtain ⟨L, hB, hR⟩ := hx
  have hlm : lk_ T (T 253 0 m) (L m 0) ∧ T 254 0 m = ((L m 0).length : Int) := hB.1 m 0 (by omega) (by omega) (by decide) (by decide)
  have hxx := hR.1 x List.mem_cons_self
  have hxn : x ∉ L m 0 := hR.2.2 m 0 x List.mem_cons_self
  have hln := nd_len (l := x :: L m 0) (by omega) (List.forall_mem_cons.mpr ⟨hxx, hB.2.1 m 0⟩) (List.nodup_cons.mpr ⟨hxn, hB.2.2.1 m 0⟩)
  rw [List.length_cons] at hln
  show J_ zX11_putBehind T (po_X11_putBehind_0_e T rest m x) 0 0 0 [some (vR 111 0), some (vI m), some (vI x), some (vI 0), none] [] T
  refine j_blx (F := fX11) tb_X11 (nn_ _) bk_X11_putBehind_e_0 bs_X11_putBehind_e_0 hz (fun K hK => ?_)
  refine And.intro (fun c1 => ?_) (fun c1 => ?_)
  · refine hK 13 _ [] T ?_
    refine j_blx (F := fX11) tb_X11 (nn_ _) bk_X11_putBehind_e_13 bs_X11_putBehind_e_13 hz (fun K hK => ?_)
    refine ix_i (by omega) ?_
    intro b2 b2b
    refine iy_i (by omega) (by omega) ?_
    refine x_nm (fun U3 hU3 => ?_)
    have e4 := up_f hU3
    refine And.intro (fun c5 => ?_) (fun c5 => ?_)
    · refine hK 69 [some (vR 111 0), some (vI m), some (vI x), some (vI 0), some (vI (T 254 0 m))] [] U3 ?_
      refine j_blx (F := fX11) tb_X11 (nn_ _) bk_X11_putBehind_e_69 bs_X11_putBehind_e_69 hz (fun K hK => ?_)
      refine And.intro (fun c6 => ?_) (fun c6 => ?_)
      · refine hK 83 _ [] U3 ?_
        refine j_blx (F := fX11) tb_X11 (nn_ _) bk_X11_putBehind_e_83 bs_X11_putBehind_e_83 hz (fun K hK => ?_)
        refine iy_i (by omega) (by omega) ?_
        refine x_nm (fun U7 hU7 => ?_)
        have e8 := up_f hU7
        refine ix_i (by omega) ?_
        intro b9 b9b
        have e10 : U7 256 0 m = T 256 0 m := (up_k hU7 (by exact Nat.ne_of_beq_eq_false rfl) 0 m).trans (up_k hU3 (by exact Nat.ne_of_beq_eq_false rfl) 0 m)
        rw [e10] at b9 b9b ⊢
        refine And.intro (fun c11 => ?_) (fun c11 => ?_)
        · refine hK 105 _ [vI (T 256 0 m), vI m, vR 256 0] U7 ?_
          refine j_blx (F := fX11) tb_X11 (nn_ _) bk_X11_putBehind_e_105 bs_X11_putBehind_e_105 hz (fun K hK => ?_)
          refine rg_i (by omega) ?_
          refine iy_i (by omega) (by omega) ?_
          refine x_nm (fun U12 hU12 => ?_)
          have e13 := up_f hU12
          refine ix_i (by omega) ?_
          intro b14 b14b
          have e15 : U12 254 0 m = T 254 0 m := (up_k hU12 (by exact Nat.ne_of_beq_eq_false rfl) 0 m).trans ((up_k hU7 (by exact Nat.ne_of_beq_eq_false rfl) 0 m).trans (up_k hU3 (by exact Nat.ne_of_beq_eq_false rfl) 0 m))
          rw [e15] at b14 b14b ⊢
          refine And.intro (fun c16 => ?_) (fun c16 => ?_)
          · refine hK 123 _ [vI (T 254 0 m), vI m, vR 254 0] U12 ?_
            refine j_blx (F := fX11) tb_X11 (nn_ _) bk_X11_putBehind_e_123 bs_X11_putBehind_e_123 hz (fun K hK => ?_)
            refine rg_i (by omega) ?_
            refine iy_i (by omega) (by omega) ?_
            refine x_nm (fun U17 hU17 => ?_)
            have e18 := up_f hU17
            refine (show po_X11_putBehind_0_e T rest m x U17 (none) from ?_)
            have e19 : U17 254 0 m = (T 254 0 m) + 1 := up_f hU17
            have e20 : U17 256 0 m = (T 256 0 m) + 0 := (up_k hU17 (by exact Nat.ne_of_beq_eq_false rfl) 0 m).trans (up_f hU12)
            have fz : fr_ [(254, []), (256, []), (253, []), (252, [])] T U17 := fr_u (fr_u (fr_u (fr_u (fr_0 _ _) hU3 rfl) hU7 rfl) hU12 rfl) hU17 rfl
            have eo : ∀ j, U17 256 0 j = T 256 0 j := fun j => by
              by_cases z : j = m
              · rw [z, up_k hU17 (by exact Nat.ne_of_beq_eq_false rfl) 0 m, up_f hU12]; omega
              · exact (up_k hU17 (by exact Nat.ne_of_beq_eq_false rfl) 0 j).trans ((up_g hU12 (fun q => z q.2.2)).trans ((up_k hU7 (by exact Nat.ne_of_beq_eq_false rfl) 0 j).trans (up_k hU3 (by exact Nat.ne_of_beq_eq_false rfl) 0 j)))
            have ek : U17 254 0 m = T 254 0 m + 1 := by
              rw [up_f hU17]
            have e3 : U17 252 0 x = -1 := ((up_k hU17 (by exact Nat.ne_of_beq_eq_false rfl) 0 x).trans ((up_k hU12 (by exact Nat.ne_of_beq_eq_false rfl) 0 x).trans (up_k hU7 (by exact Nat.ne_of_beq_eq_false rfl) 0 x))).trans (up_f hU3)
            have ef : ∀ m' b', 0 ≤ b' → b' ≤ 1 → ¬ (m' = m ∧ b' = 0) → U17 (kf_ b') 0 m' = T (kf_ b') 0 m' ∧ U17 (km_ b') 0 m' = T (km_ b') 0 m' := by
              intro m' b' a c n
              rcases (by omega : b' = 0 ∨ b' = 1) with z | z
              · subst z; exact ⟨(up_k hU17 (by exact Nat.ne_of_beq_eq_false rfl) 0 (m')).trans ((up_k hU12 (by exact Nat.ne_of_beq_eq_false rfl) 0 (m')).trans ((up_g hU7 (fun q => n ⟨q.2.2, rfl⟩)).trans (up_k hU3 (by exact Nat.ne_of_beq_eq_false rfl) 0 (m')))), (up_g hU17 (fun q => n ⟨q.2.2, rfl⟩)).trans ((up_k hU12 (by exact Nat.ne_of_beq_eq_false rfl) 0 (m')).trans ((up_k hU7 (by exact Nat.ne_of_beq_eq_false rfl) 0 (m')).trans (up_k hU3 (by exact Nat.ne_of_beq_eq_false rfl) 0 (m'))))⟩
              · subst z; exact ⟨(up_k hU17 (by exact Nat.ne_of_beq_eq_false rfl) 0 (m')).trans ((up_k hU12 (by exact Nat.ne_of_beq_eq_false rfl) 0 (m')).trans ((up_k hU7 (by exact Nat.ne_of_beq_eq_false rfl) 0 (m')).trans (up_k hU3 (by exact Nat.ne_of_beq_eq_false rfl) 0 (m')))), eo m'⟩
            have hrp := rb_put (b := 0) (by decide) h1 hb_47.2 hB hR (fz 111 0 29 rfl) (fz 111 0 47 rfl) ef ek e3 (Or.inl ⟨List.eq_nil_of_length_eq_zero (by omega), ((up_k hU17 (by exact Nat.ne_of_beq_eq_false rfl) 0 m).trans (up_k hU12 (by exact Nat.ne_of_beq_eq_false rfl) 0 m)).trans (up_f hU7), fun z a => (up_k hU17 (by exact Nat.ne_of_beq_eq_false rfl) 0 z).trans ((up_k hU12 (by exact Nat.ne_of_beq_eq_false rfl) 0 z).trans ((up_k hU7 (by exact Nat.ne_of_beq_eq_false rfl) 0 z).trans (up_g hU3 (fun q => a q.2.2))))⟩)
            have rwp := rw_p hB hrp.1 (fz 111 0 29 rfl) (cl_k (fun k j h => fz k 0 j (by rcases h with rfl | rfl | rfl | rfl <;> rfl))) h1.1 h1.2
            exact ⟨rfl, fr_s fz rfl, ⟨_, hrp.1, hrp.2.1⟩, hrp.2.2, ek, fun j hj => (up_g hU17 (fun q => hj q.2.2)).trans ((up_k hU12 (by exact Nat.ne_of_beq_eq_false rfl) 0 j).trans ((up_k hU7 (by exact Nat.ne_of_beq_eq_false rfl) 0 j).trans (up_k hU3 (by exact Nat.ne_of_beq_eq_false rfl) 0 j))), by omega, fun j _ => eo j, by rw [eo m]; omega, rwp.1, rwp.2⟩
          · exact absurd c16 (by decide)
        · exact absurd c11 (by decide)
      · exact absurd c6 (by decide)
    · refine And.intro (fun c21 => ?_) (fun c21 => ?_)
      · refine hK 51 _ [vR 111 0, vR 252 0] U3 ?_
        refine j_blx (F := fX11) tb_X11 (nn_ _) bk_X11_putBehind_e_51 bs_X11_putBehind_e_51 hz (fun K hK => ?_)
        refine ix_i (by omega) ?_
        intro b22 b22b
        have e23 : U3 253 0 m = T 253 0 m := up_k hU3 (by exact Nat.ne_of_beq_eq_false rfl) 0 m
        rw [e23] at b22 b22b ⊢
        refine rg_i (by omega) ?_
        refine hK 61 _ [vI ((T 254 0 m) - 1), vI (T 253 0 m), vR 111 0, vR 252 0] U3 ?_
        refine j_callV (y := yX11_rowAt) (Yc := zX11_rowAt) (rest := [vR 252 0]) [vI (T 253 0 m), vI ((T 254 0 m) - 1)] (ct_X11_rowAt (T := U3) (l := L m 0) (by exact lk_e hlm.1 (fun z hz => up_g hU3 (fun q => hxn (q.2.2 ▸ hz)))) (by omega)) cl_X11_456 (qd_c (by decide +kernel)) (nn_ _) rfl (rf_of rfl) (Nat.le_of_ble_eq_true rfl) (Nat.le_of_ble_eq_true rfl) (Nat.le_of_ble_eq_true rfl) rfl ?_
        rintro _ _ ⟨rfl, x24, rfl, hx24⟩
        show J_ zX11_putBehind T (po_X11_putBehind_0_e T rest m x) 0 0 64 _ [vI x24, vR 252 0] U3
        have hyl : (L m 0).getLast? = some x24 := by
          rw [List.getLast?_eq_getElem?, show (L m 0).length - 1 = (T 254 0 m - 1).toNat by omega]; exact hx24.1
        have hyn : x ≠ x24 := fun e => hxn (by rw [e]; exact List.mem_of_getLast? hyl)
        refine j_blx (F := fX11) tb_X11 (nn_ _) bk_X11_putBehind_e_64 bs_X11_putBehind_e_64 hz (fun K hK => ?_)
        refine iy_i (by omega) (by omega) ?_
        refine x_nm (fun U25 hU25 => ?_)
        have e26 := up_f hU25
        refine hK 90 _ [] U25 ?_
        refine j_blx (F := fX11) tb_X11 (nn_ _) bk_X11_putBehind_e_90 bs_X11_putBehind_e_90 hz (fun K hK => ?_)
        refine ix_i (by omega) ?_
        intro b27 b27b
        have e28 : U25 256 0 m = T 256 0 m := (up_k hU25 (by exact Nat.ne_of_beq_eq_false rfl) 0 m).trans (up_k hU3 (by exact Nat.ne_of_beq_eq_false rfl) 0 m)
        rw [e28] at b27 b27b ⊢
        refine And.intro (fun c29 => ?_) (fun c29 => ?_)
        · refine hK 105 _ [vI (T 256 0 m), vI m, vR 256 0] U25 ?_
          refine j_blx (F := fX11) tb_X11 (nn_ _) bk_X11_putBehind_e_105 bs_X11_putBehind_e_105 hz (fun K hK => ?_)
          refine rg_i (by omega) ?_
          refine iy_i (by omega) (by omega) ?_
          refine x_nm (fun U30 hU30 => ?_)
          have e31 := up_f hU30
          refine ix_i (by omega) ?_
          intro b32 b32b
          have e33 : U30 254 0 m = T 254 0 m := (up_k hU30 (by exact Nat.ne_of_beq_eq_false rfl) 0 m).trans ((up_k hU25 (by exact Nat.ne_of_beq_eq_false rfl) 0 m).trans (up_k hU3 (by exact Nat.ne_of_beq_eq_false rfl) 0 m))
          rw [e33] at b32 b32b ⊢
          refine And.intro (fun c34 => ?_) (fun c34 => ?_)
          · refine hK 123 _ [vI (T 254 0 m), vI m, vR 254 0] U30 ?_
            refine j_blx (F := fX11) tb_X11 (nn_ _) bk_X11_putBehind_e_123 bs_X11_putBehind_e_123 hz (fun K hK => ?_)
            refine rg_i (by omega) ?_
            refine iy_i (by omega) (by omega) ?_
            refine x_nm (fun U35 hU35 => ?_)
            have e36 := up_f hU35
            refine (show po_X11_putBehind_0_e T rest m x U35 (none) from ?_)
            have e37 : U35 254 0 m = (T 254 0 m) + 1 := up_f hU35
            have e38 : U35 256 0 m = (T 256 0 m) + 0 := (up_k hU35 (by exact Nat.ne_of_beq_eq_false rfl) 0 m).trans (up_f hU30)
            have fz : fr_ [(254, []), (256, []), (252, [])] T U35 := fr_u (fr_u (fr_u (fr_u (fr_0 _ _) hU3 rfl) hU25 rfl) hU30 rfl) hU35 rfl
            have eo : ∀ j, U35 256 0 j = T 256 0 j := fun j => by
              by_cases z : j = m
              · rw [z, up_k hU35 (by exact Nat.ne_of_beq_eq_false rfl) 0 m, up_f hU30]; omega
              · exact (up_k hU35 (by exact Nat.ne_of_beq_eq_false rfl) 0 j).trans ((up_g hU30 (fun q => z q.2.2)).trans ((up_k hU25 (by exact Nat.ne_of_beq_eq_false rfl) 0 j).trans (up_k hU3 (by exact Nat.ne_of_beq_eq_false rfl) 0 j)))
            have ek : U35 254 0 m = T 254 0 m + 1 := by
              rw [up_f hU35]
            have e3 : U35 252 0 x = -1 := ((up_k hU35 (by exact Nat.ne_of_beq_eq_false rfl) 0 x).trans ((up_k hU30 (by exact Nat.ne_of_beq_eq_false rfl) 0 x).trans (up_g hU25 (fun q => hyn q.2.2)))).trans (up_f hU3)
            have ef : ∀ m' b', 0 ≤ b' → b' ≤ 1 → ¬ (m' = m ∧ b' = 0) → U35 (kf_ b') 0 m' = T (kf_ b') 0 m' ∧ U35 (km_ b') 0 m' = T (km_ b') 0 m' := by
              intro m' b' a c n
              rcases (by omega : b' = 0 ∨ b' = 1) with z | z
              · subst z; exact ⟨(up_k hU35 (by exact Nat.ne_of_beq_eq_false rfl) 0 (m')).trans ((up_k hU30 (by exact Nat.ne_of_beq_eq_false rfl) 0 (m')).trans ((up_k hU25 (by exact Nat.ne_of_beq_eq_false rfl) 0 (m')).trans (up_k hU3 (by exact Nat.ne_of_beq_eq_false rfl) 0 (m')))), (up_g hU35 (fun q => n ⟨q.2.2, rfl⟩)).trans ((up_k hU30 (by exact Nat.ne_of_beq_eq_false rfl) 0 (m')).trans ((up_k hU25 (by exact Nat.ne_of_beq_eq_false rfl) 0 (m')).trans (up_k hU3 (by exact Nat.ne_of_beq_eq_false rfl) 0 (m'))))⟩
              · subst z; exact ⟨(up_k hU35 (by exact Nat.ne_of_beq_eq_false rfl) 0 (m')).trans ((up_k hU30 (by exact Nat.ne_of_beq_eq_false rfl) 0 (m')).trans ((up_k hU25 (by exact Nat.ne_of_beq_eq_false rfl) 0 (m')).trans (up_k hU3 (by exact Nat.ne_of_beq_eq_false rfl) 0 (m')))), eo m'⟩
            have hrp := rb_put (b := 0) (by decide) h1 hb_47.2 hB hR (fz 111 0 29 rfl) (fz 111 0 47 rfl) ef ek e3 (Or.inr ⟨fz 253 0 m rfl, x24, hyl, ((up_k hU35 (by exact Nat.ne_of_beq_eq_false rfl) 0 x24).trans (up_k hU30 (by exact Nat.ne_of_beq_eq_false rfl) 0 x24)).trans (up_f hU25), fun z a b => (up_k hU35 (by exact Nat.ne_of_beq_eq_false rfl) 0 z).trans ((up_k hU30 (by exact Nat.ne_of_beq_eq_false rfl) 0 z).trans ((up_g hU25 (fun q => b q.2.2)).trans (up_g hU3 (fun q => a q.2.2))))⟩)
            have rwp := rw_p hB hrp.1 (fz 111 0 29 rfl) (cl_k (fun k j h => fz k 0 j (by rcases h with rfl | rfl | rfl | rfl <;> rfl))) h1.1 h1.2
            exact ⟨rfl, fr_s fz rfl, ⟨_, hrp.1, hrp.2.1⟩, hrp.2.2, ek, fun j hj => (up_g hU35 (fun q => hj q.2.2)).trans ((up_k hU30 (by exact Nat.ne_of_beq_eq_false rfl) 0 j).trans ((up_k hU25 (by exact Nat.ne_of_beq_eq_false rfl) 0 j).trans (up_k hU3 (by exact Nat.ne_of_beq_eq_false rfl) 0 j))), by omega, fun j _ => eo j, by rw [eo m]; omega, rwp.1, rwp.2⟩
          · exact absurd c34 (by decide)
        · exact absurd c29 (by decide)
      · exact absurd c21 (by decide)
  · exact absurd c1 (by decide)
theorem bk_X11_putBehind_e_19 : ck_ fX11 none cX11_putBehind 19 [.istore 4, .aload 0, .tableswitch 0 11 52 #[], .iload 2, .iconst (-1), .iastore, .iload 4, .ifCond .le 69, .aload 0, .tableswitch 0 11 52 #[], .aload 0, .iload 3, .ifCond .eq 51, .aload 0, .tableswitch 0 11 55 #[], .iload 1, .iaload, .goto 57] 51 = true := qck_r (nn_ _) (by decide +kernel)
theorem bs_X11_putBehind_e_19 {P : Zt → Option Zv → Prop} (K : Int → Zl → List Zv → Zt → Prop) : sx_ K P [.istore 4, .aload 0, .tableswitch 0 11 52 #[], .iload 2, .iconst (-1), .iastore, .iload 4, .ifCond .le 69, .aload 0, .tableswitch 0 11 52 #[], .aload 0, .iload 3, .ifCond .eq 51, .aload 0, .tableswitch 0 11 55 #[], .iload 1, .iaload, .goto 57] 51 = x_istore 4 (x_aload 0 (x_g1 111 252 (x_iload 2 (x_iconst (-1) (x_iastore (x_iload 4 (x_ifCond .le 69 K (x_aload 0 (x_g1 111 252 (x_aload 0 (x_iload 3 (x_ifCond .eq 51 K (x_aload 0 (x_g1 111 255 (x_iload 1 (x_iaload (x_goto 57 K))))))))))))))))) := ((xe_istore 4).trans (congrArg (x_istore 4) ((xe_aload 0).trans (congrArg (x_aload 0) ((xe_g1 (kk := 111) rfl tl_11_52).trans (congrArg (x_g1 111 252) ((xe_iload 2).trans (congrArg (x_iload 2) ((xe_iconst (-1)).trans (congrArg (x_iconst (-1)) ((xe_iastore).trans (congrArg (x_iastore) ((xe_iload 4).trans (congrArg (x_iload 4) ((xe_ifCond .le 69).trans (congrArg (x_ifCond .le 69 K) ((xe_aload 0).trans (congrArg (x_aload 0) ((xe_g1 (kk := 111) rfl tl_11_52).trans (congrArg (x_g1 111 252) ((xe_aload 0).trans (congrArg (x_aload 0) ((xe_iload 3).trans (congrArg (x_iload 3) ((xe_ifCond .eq 51).trans (congrArg (x_ifCond .eq 51 K) ((xe_aload 0).trans (congrArg (x_aload 0) ((xe_g1 (kk := 111) rfl tl_11_55).trans (congrArg (x_g1 111 255) ((xe_iload 1).trans (congrArg (x_iload 1) ((xe_iaload).trans (congrArg (x_iaload) (xe_goto 57)))))))))))))))))))))))))))))))))))
theorem bk_X11_putBehind_e_106 : ck_ fX11 none cX11_putBehind 106 [.iadd, .iastore, .aload 0, .tableswitch 0 11 54 #[], .iload 1, .dup2, .iaload, .iload 3, .ifCond .eq 123, .iconst 0, .goto 124] 123 = true := qck_r (nn_ _) (by decide +kernel)
theorem bs_X11_putBehind_e_106 {P : Zt → Option Zv → Prop} (K : Int → Zl → List Zv → Zt → Prop) : sx_ K P [.iadd, .iastore, .aload 0, .tableswitch 0 11 54 #[], .iload 1, .dup2, .iaload, .iload 3, .ifCond .eq 123, .iconst 0, .goto 124] 123 = x_iadd (x_iastore (x_aload 0 (x_g1 111 254 (x_iload 1 (x_dup2 (x_iaload (x_iload 3 (x_ifCond .eq 123 K (x_iconst 0 (x_goto 124 K)))))))))) := ((xe_iadd).trans (congrArg (x_iadd) ((xe_iastore).trans (congrArg (x_iastore) ((xe_aload 0).trans (congrArg (x_aload 0) ((xe_g1 (kk := 111) rfl tl_11_54).trans (congrArg (x_g1 111 254) ((xe_iload 1).trans (congrArg (x_iload 1) ((xe_dup2).trans (congrArg (x_dup2) ((xe_iaload).trans (congrArg (x_iaload) ((xe_iload 3).trans (congrArg (x_iload 3) ((xe_ifCond .eq 123).trans (congrArg (x_ifCond .eq 123 K) ((xe_iconst 0).trans (congrArg (x_iconst 0) (xe_goto 124)))))))))))))))))))))
theorem bk_X11_putBehind_e_124 : ck_ fX11 none cX11_putBehind 124 [.iadd, .iastore, .return_] 127 = true := qck_r (nn_ _) (by decide +kernel)
theorem bs_X11_putBehind_e_124 {P : Zt → Option Zv → Prop} (K : Int → Zl → List Zv → Zt → Prop) : sx_ K P [.iadd, .iastore, .return_] 127 = x_iadd (x_iastore (x_return_ P)) := ((xe_iadd).trans (congrArg (x_iadd) ((xe_iastore).trans (congrArg (x_iastore) (xe_return_)))))
theorem bk_X11_putBehind_e_57 : ck_ fX11 none cX11_putBehind 57 [.iload 4, .iconst 1, .isub] 61 = true := qck_r (nn_ _) (by decide +kernel)
theorem bs_X11_putBehind_e_57 {P : Zt → Option Zv → Prop} (K : Int → Zl → List Zv → Zt → Prop) : sx_ K P [.iload 4, .iconst 1, .isub] 61 = x_iload 4 (x_iconst 1 (x_isub (K 61))) := ((xe_iload 4).trans (congrArg (x_iload 4) ((xe_iconst 1).trans (congrArg (x_iconst 1) ((xe_isub).trans (congrArg (x_isub) xe_nil))))))
abbrev po_X11_putBehind_1_e (T : Zt) (rest : List Int) (m x : Int) : Zt → Option Zv → Prop := fun T' r => r = none ∧ fr_ [(252, []), (255, []), (254, []), (256, [])] T T' ∧ (RX_ T' rest ∧ (∀ z ∈ rest, T' 252 0 z = T 252 0 z) ∧ T' 254 0 m = T 254 0 m + 0 ∧ (∀ j, j ≠ m → T' 254 0 j = T 254 0 j) ∧ T' 254 0 m ≤ 3000 ∧ (∀ j, j ≠ m → T' 256 0 j = T 256 0 j) ∧ T' 256 0 m = T 256 0 m + 1 ∧ rw9_ T' m = rw9_ T m ∧ ∀ j, j ≠ m → 0 ≤ j → j < T 111 0 29 → rw9_ T' j = rw9_ T j)
set_option maxHeartbeats 4000000 in
theorem ct_X11_putBehind_1_e {T : Zt} {rest : List Int} {m x : Int} (h1 : 0 ≤ m ∧ m < T 111 0 29) (hx : RX_ T (x :: rest)) : Ct_ yX11_putBehind zX11_putBehind T [vR 111 0, vI m, vI x, vI 1] (po_X11_putBehind_1_e T rest m x) := by
  refine ct_of pn_11 rfl rfl (Nat.le_of_ble_eq_true rfl) (fun hT hav => ?_)
  have hr_m : -2147483648 ≤ m ∧ m ≤ 2147483647 := hav (vI m) (List.mem_cons_of_mem _ List.mem_cons_self)
  have hr_x : -2147483648 ≤ x ∧ x ≤ 2147483647 := hav (vI x) (List.mem_cons_of_mem _ (List.mem_cons_of_mem _ List.mem_cons_self))
  have hz : zX11_putBehind.2.2.2.1 = some .boolean → ∀ (T' : Zt) (x9 : Int), po_X11_putBehind_1_e T rest m x T' (some (vI x9)) → 0 ≤ x9 ∧ x9 ≤ 1 := fun h => by cases h
  have hb_29 : 0 ≤ T 111 0 29 ∧ T 111 0 29 ≤ 400 := bd_f hT 111 29 tl_11_29 0
  have hb_47 : 0 ≤ T 111 0 47 ∧ T 111 0 47 ≤ 3000 := bd_f hT 111 47 tl_11_47 0
  obtain ⟨L, hB, hR⟩ := hx
  have hlm : lk_ T (T 255 0 m) (L m 1) ∧ T 256 0 m = ((L m 1).length : Int) := hB.1 m 1 (by omega) (by omega) (by decide) (by decide)
  have hxx := hR.1 x List.mem_cons_self
  have hxn : x ∉ L m 1 := hR.2.2 m 1 x List.mem_cons_self
  have hln := nd_len (l := x :: L m 1) (by omega) (List.forall_mem_cons.mpr ⟨hxx, hB.2.1 m 1⟩) (List.nodup_cons.mpr ⟨hxn, hB.2.2.1 m 1⟩)
  rw [List.length_cons] at hln
  show J_ zX11_putBehind T (po_X11_putBehind_1_e T rest m x) 0 0 0 [some (vR 111 0), some (vI m), some (vI x), some (vI 1), none] [] T
  refine j_blx (F := fX11) tb_X11 (nn_ _) bk_X11_putBehind_e_0 bs_X11_putBehind_e_0 hz (fun K hK => ?_)
  refine And.intro (fun c1 => ?_) (fun c1 => ?_)
  · exact absurd c1 (by decide)
  · refine ix_i (by omega) ?_
    intro b2 b2b
    refine hK 19 _ [vI (T 256 0 m)] T ?_
    refine j_blx (F := fX11) tb_X11 (nn_ _) bk_X11_putBehind_e_19 bs_X11_putBehind_e_19 hz (fun K hK => ?_)
    refine iy_i (by omega) (by omega) ?_
    refine x_nm (fun U3 hU3 => ?_)
    have e4 := up_f hU3
    refine And.intro (fun c5 => ?_) (fun c5 => ?_)
    · refine hK 69 [some (vR 111 0), some (vI m), some (vI x), some (vI 1), some (vI (T 256 0 m))] [] U3 ?_
      refine j_blx (F := fX11) tb_X11 (nn_ _) bk_X11_putBehind_e_69 bs_X11_putBehind_e_69 hz (fun K hK => ?_)
      refine And.intro (fun c6 => ?_) (fun c6 => ?_)
      · exact absurd c6 (by decide)
      · refine iy_i (by omega) (by omega) ?_
        refine x_nm (fun U7 hU7 => ?_)
        have e8 := up_f hU7
        refine hK 90 _ [] U7 ?_
        refine j_blx (F := fX11) tb_X11 (nn_ _) bk_X11_putBehind_e_90 bs_X11_putBehind_e_90 hz (fun K hK => ?_)
        refine ix_i (by omega) ?_
        intro b9 b9b
        have e10 : U7 256 0 m = T 256 0 m := (up_k hU7 (by exact Nat.ne_of_beq_eq_false rfl) 0 m).trans (up_k hU3 (by exact Nat.ne_of_beq_eq_false rfl) 0 m)
        rw [e10] at b9 b9b ⊢
        refine And.intro (fun c11 => ?_) (fun c11 => ?_)
        · exact absurd c11 (by decide)
        · refine hK 106 _ [vI 1, vI (T 256 0 m), vI m, vR 256 0] U7 ?_
          refine j_blx (F := fX11) tb_X11 (nn_ _) bk_X11_putBehind_e_106 bs_X11_putBehind_e_106 hz (fun K hK => ?_)
          refine rg_i (by omega) ?_
          refine iy_i (by omega) (by omega) ?_
          refine x_nm (fun U12 hU12 => ?_)
          have e13 := up_f hU12
          refine ix_i (by omega) ?_
          intro b14 b14b
          have e15 : U12 254 0 m = T 254 0 m := (up_k hU12 (by exact Nat.ne_of_beq_eq_false rfl) 0 m).trans ((up_k hU7 (by exact Nat.ne_of_beq_eq_false rfl) 0 m).trans (up_k hU3 (by exact Nat.ne_of_beq_eq_false rfl) 0 m))
          rw [e15] at b14 b14b ⊢
          refine And.intro (fun c16 => ?_) (fun c16 => ?_)
          · exact absurd c16 (by decide)
          · refine hK 124 _ [vI 0, vI (T 254 0 m), vI m, vR 254 0] U12 ?_
            refine j_blx (F := fX11) tb_X11 (nn_ _) bk_X11_putBehind_e_124 bs_X11_putBehind_e_124 hz (fun K hK => ?_)
            refine rg_i (by omega) ?_
            refine iy_i (by omega) (by omega) ?_
            refine x_nm (fun U17 hU17 => ?_)
            have e18 := up_f hU17
            refine (show po_X11_putBehind_1_e T rest m x U17 (none) from ?_)
            have e19 : U17 254 0 m = (T 254 0 m) + 0 := up_f hU17
            have e20 : U17 256 0 m = (T 256 0 m) + 1 := (up_k hU17 (by exact Nat.ne_of_beq_eq_false rfl) 0 m).trans (up_f hU12)
            have fz : fr_ [(254, []), (256, []), (255, []), (252, [])] T U17 := fr_u (fr_u (fr_u (fr_u (fr_0 _ _) hU3 rfl) hU7 rfl) hU12 rfl) hU17 rfl
            have eo : ∀ j, U17 254 0 j = T 254 0 j := fun j => by
              by_cases z : j = m
              · rw [z, up_f hU17]; omega
              · exact (up_g hU17 (fun q => z q.2.2)).trans ((up_k hU12 (by exact Nat.ne_of_beq_eq_false rfl) 0 j).trans ((up_k hU7 (by exact Nat.ne_of_beq_eq_false rfl) 0 j).trans (up_k hU3 (by exact Nat.ne_of_beq_eq_false rfl) 0 j)))
            have ek : U17 256 0 m = T 256 0 m + 1 := by
              rw [up_k hU17 (by exact Nat.ne_of_beq_eq_false rfl) 0 m, up_f hU12]
            have e3 : U17 252 0 x = -1 := ((up_k hU17 (by exact Nat.ne_of_beq_eq_false rfl) 0 x).trans ((up_k hU12 (by exact Nat.ne_of_beq_eq_false rfl) 0 x).trans (up_k hU7 (by exact Nat.ne_of_beq_eq_false rfl) 0 x))).trans (up_f hU3)
            have ef : ∀ m' b', 0 ≤ b' → b' ≤ 1 → ¬ (m' = m ∧ b' = 1) → U17 (kf_ b') 0 m' = T (kf_ b') 0 m' ∧ U17 (km_ b') 0 m' = T (km_ b') 0 m' := by
              intro m' b' a c n
              rcases (by omega : b' = 0 ∨ b' = 1) with z | z
              · subst z; exact ⟨(up_k hU17 (by exact Nat.ne_of_beq_eq_false rfl) 0 (m')).trans ((up_k hU12 (by exact Nat.ne_of_beq_eq_false rfl) 0 (m')).trans ((up_k hU7 (by exact Nat.ne_of_beq_eq_false rfl) 0 (m')).trans (up_k hU3 (by exact Nat.ne_of_beq_eq_false rfl) 0 (m')))), eo m'⟩
              · subst z; exact ⟨(up_k hU17 (by exact Nat.ne_of_beq_eq_false rfl) 0 (m')).trans ((up_k hU12 (by exact Nat.ne_of_beq_eq_false rfl) 0 (m')).trans ((up_g hU7 (fun q => n ⟨q.2.2, rfl⟩)).trans (up_k hU3 (by exact Nat.ne_of_beq_eq_false rfl) 0 (m')))), (up_k hU17 (by exact Nat.ne_of_beq_eq_false rfl) 0 (m')).trans ((up_g hU12 (fun q => n ⟨q.2.2, rfl⟩)).trans ((up_k hU7 (by exact Nat.ne_of_beq_eq_false rfl) 0 (m')).trans (up_k hU3 (by exact Nat.ne_of_beq_eq_false rfl) 0 (m'))))⟩
            have hrp := rb_put (b := 1) (by decide) h1 hb_47.2 hB hR (fz 111 0 29 rfl) (fz 111 0 47 rfl) ef ek e3 (Or.inl ⟨List.eq_nil_of_length_eq_zero (by omega), ((up_k hU17 (by exact Nat.ne_of_beq_eq_false rfl) 0 m).trans (up_k hU12 (by exact Nat.ne_of_beq_eq_false rfl) 0 m)).trans (up_f hU7), fun z a => (up_k hU17 (by exact Nat.ne_of_beq_eq_false rfl) 0 z).trans ((up_k hU12 (by exact Nat.ne_of_beq_eq_false rfl) 0 z).trans ((up_k hU7 (by exact Nat.ne_of_beq_eq_false rfl) 0 z).trans (up_g hU3 (fun q => a q.2.2))))⟩)
            have hrn : 0 ≤ T 254 0 m ∧ T 254 0 m ≤ 3000 := bd_a hT 254 (by decide +kernel : ta_ 254 = some (1, some 400, 0, 3000)) 0 (by omega)
            have rwa := rw_a hB hrp.1 (fz 111 0 29 rfl) (cl_k (fun k j h => fz k 0 j (by rcases h with rfl | rfl | rfl | rfl <;> rfl)))
            exact ⟨rfl, fr_s fz rfl, ⟨_, hrp.1, hrp.2.1⟩, hrp.2.2, by rw [eo m]; omega, fun j _ => eo j, by rw [eo m]; omega, fun j hj => (up_k hU17 (by exact Nat.ne_of_beq_eq_false rfl) 0 j).trans ((up_g hU12 (fun q => hj q.2.2)).trans ((up_k hU7 (by exact Nat.ne_of_beq_eq_false rfl) 0 j).trans (up_k hU3 (by exact Nat.ne_of_beq_eq_false rfl) 0 j))), ek, rwa m h1.1 h1.2, fun j _ j0 j1 => rwa j j0 j1⟩
    · refine And.intro (fun c21 => ?_) (fun c21 => ?_)
      · exact absurd c21 (by decide)
      · refine ix_i (by omega) ?_
        intro b22 b22b
        have e23 : U3 255 0 m = T 255 0 m := up_k hU3 (by exact Nat.ne_of_beq_eq_false rfl) 0 m
        rw [e23] at b22 b22b ⊢
        refine hK 57 _ [vI (T 255 0 m), vR 111 0, vR 252 0] U3 ?_
        refine j_blx (F := fX11) tb_X11 (nn_ _) bk_X11_putBehind_e_57 bs_X11_putBehind_e_57 hz (fun K hK => ?_)
        refine rg_i (by omega) ?_
        refine hK 61 _ [vI ((T 256 0 m) - 1), vI (T 255 0 m), vR 111 0, vR 252 0] U3 ?_
        refine j_callV (y := yX11_rowAt) (Yc := zX11_rowAt) (rest := [vR 252 0]) [vI (T 255 0 m), vI ((T 256 0 m) - 1)] (ct_X11_rowAt (T := U3) (l := L m 1) (by exact lk_e hlm.1 (fun z hz => up_g hU3 (fun q => hxn (q.2.2 ▸ hz)))) (by omega)) cl_X11_456 (qd_c (by decide +kernel)) (nn_ _) rfl (rf_of rfl) (Nat.le_of_ble_eq_true rfl) (Nat.le_of_ble_eq_true rfl) (Nat.le_of_ble_eq_true rfl) rfl ?_
        rintro _ _ ⟨rfl, x24, rfl, hx24⟩
        show J_ zX11_putBehind T (po_X11_putBehind_1_e T rest m x) 0 0 64 _ [vI x24, vR 252 0] U3
        have hyl : (L m 1).getLast? = some x24 := by
          rw [List.getLast?_eq_getElem?, show (L m 1).length - 1 = (T 256 0 m - 1).toNat by omega]; exact hx24.1
        have hyn : x ≠ x24 := fun e => hxn (by rw [e]; exact List.mem_of_getLast? hyl)
        refine j_blx (F := fX11) tb_X11 (nn_ _) bk_X11_putBehind_e_64 bs_X11_putBehind_e_64 hz (fun K hK => ?_)
        refine iy_i (by omega) (by omega) ?_
        refine x_nm (fun U25 hU25 => ?_)
        have e26 := up_f hU25
        refine hK 90 _ [] U25 ?_
        refine j_blx (F := fX11) tb_X11 (nn_ _) bk_X11_putBehind_e_90 bs_X11_putBehind_e_90 hz (fun K hK => ?_)
        refine ix_i (by omega) ?_
        intro b27 b27b
        have e28 : U25 256 0 m = T 256 0 m := (up_k hU25 (by exact Nat.ne_of_beq_eq_false rfl) 0 m).trans (up_k hU3 (by exact Nat.ne_of_beq_eq_false rfl) 0 m)
        rw [e28] at b27 b27b ⊢
        refine And.intro (fun c29 => ?_) (fun c29 => ?_)
        · exact absurd c29 (by decide)
        · refine hK 106 _ [vI 1, vI (T 256 0 m), vI m, vR 256 0] U25 ?_
          refine j_blx (F := fX11) tb_X11 (nn_ _) bk_X11_putBehind_e_106 bs_X11_putBehind_e_106 hz (fun K hK => ?_)
          refine rg_i (by omega) ?_
          refine iy_i (by omega) (by omega) ?_
          refine x_nm (fun U30 hU30 => ?_)
          have e31 := up_f hU30
          refine ix_i (by omega) ?_
          intro b32 b32b
          have e33 : U30 254 0 m = T 254 0 m := (up_k hU30 (by exact Nat.ne_of_beq_eq_false rfl) 0 m).trans ((up_k hU25 (by exact Nat.ne_of_beq_eq_false rfl) 0 m).trans (up_k hU3 (by exact Nat.ne_of_beq_eq_false rfl) 0 m))
          rw [e33] at b32 b32b ⊢
          refine And.intro (fun c34 => ?_) (fun c34 => ?_)
          · exact absurd c34 (by decide)
          · refine hK 124 _ [vI 0, vI (T 254 0 m), vI m, vR 254 0] U30 ?_
            refine j_blx (F := fX11) tb_X11 (nn_ _) bk_X11_putBehind_e_124 bs_X11_putBehind_e_124 hz (fun K hK => ?_)
            refine rg_i (by omega) ?_
            refine iy_i (by omega) (by omega) ?_
            refine x_nm (fun U35 hU35 => ?_)
            have e36 := up_f hU35
            refine (show po_X11_putBehind_1_e T rest m x U35 (none) from ?_)
            have e37 : U35 254 0 m = (T 254 0 m) + 0 := up_f hU35
            have e38 : U35 256 0 m = (T 256 0 m) + 1 := (up_k hU35 (by exact Nat.ne_of_beq_eq_false rfl) 0 m).trans (up_f hU30)
            have fz : fr_ [(254, []), (256, []), (252, [])] T U35 := fr_u (fr_u (fr_u (fr_u (fr_0 _ _) hU3 rfl) hU25 rfl) hU30 rfl) hU35 rfl
            have eo : ∀ j, U35 254 0 j = T 254 0 j := fun j => by
              by_cases z : j = m
              · rw [z, up_f hU35]; omega
              · exact (up_g hU35 (fun q => z q.2.2)).trans ((up_k hU30 (by exact Nat.ne_of_beq_eq_false rfl) 0 j).trans ((up_k hU25 (by exact Nat.ne_of_beq_eq_false rfl) 0 j).trans (up_k hU3 (by exact Nat.ne_of_beq_eq_false rfl) 0 j)))
            have ek : U35 256 0 m = T 256 0 m + 1 := by
              rw [up_k hU35 (by exact Nat.ne_of_beq_eq_false rfl) 0 m, up_f hU30]
            have e3 : U35 252 0 x = -1 := ((up_k hU35 (by exact Nat.ne_of_beq_eq_false rfl) 0 x).trans ((up_k hU30 (by exact Nat.ne_of_beq_eq_false rfl) 0 x).trans (up_g hU25 (fun q => hyn q.2.2)))).trans (up_f hU3)
            have ef : ∀ m' b', 0 ≤ b' → b' ≤ 1 → ¬ (m' = m ∧ b' = 1) → U35 (kf_ b') 0 m' = T (kf_ b') 0 m' ∧ U35 (km_ b') 0 m' = T (km_ b') 0 m' := by
              intro m' b' a c n
              rcases (by omega : b' = 0 ∨ b' = 1) with z | z
              · subst z; exact ⟨(up_k hU35 (by exact Nat.ne_of_beq_eq_false rfl) 0 (m')).trans ((up_k hU30 (by exact Nat.ne_of_beq_eq_false rfl) 0 (m')).trans ((up_k hU25 (by exact Nat.ne_of_beq_eq_false rfl) 0 (m')).trans (up_k hU3 (by exact Nat.ne_of_beq_eq_false rfl) 0 (m')))), eo m'⟩
              · subst z; exact ⟨(up_k hU35 (by exact Nat.ne_of_beq_eq_false rfl) 0 (m')).trans ((up_k hU30 (by exact Nat.ne_of_beq_eq_false rfl) 0 (m')).trans ((up_k hU25 (by exact Nat.ne_of_beq_eq_false rfl) 0 (m')).trans (up_k hU3 (by exact Nat.ne_of_beq_eq_false rfl) 0 (m')))), (up_k hU35 (by exact Nat.ne_of_beq_eq_false rfl) 0 (m')).trans ((up_g hU30 (fun q => n ⟨q.2.2, rfl⟩)).trans ((up_k hU25 (by exact Nat.ne_of_beq_eq_false rfl) 0 (m')).trans (up_k hU3 (by exact Nat.ne_of_beq_eq_false rfl) 0 (m'))))⟩
            have hrp := rb_put (b := 1) (by decide) h1 hb_47.2 hB hR (fz 111 0 29 rfl) (fz 111 0 47 rfl) ef ek e3 (Or.inr ⟨fz 255 0 m rfl, x24, hyl, ((up_k hU35 (by exact Nat.ne_of_beq_eq_false rfl) 0 x24).trans (up_k hU30 (by exact Nat.ne_of_beq_eq_false rfl) 0 x24)).trans (up_f hU25), fun z a b => (up_k hU35 (by exact Nat.ne_of_beq_eq_false rfl) 0 z).trans ((up_k hU30 (by exact Nat.ne_of_beq_eq_false rfl) 0 z).trans ((up_g hU25 (fun q => b q.2.2)).trans (up_g hU3 (fun q => a q.2.2))))⟩)
            have hrn : 0 ≤ T 254 0 m ∧ T 254 0 m ≤ 3000 := bd_a hT 254 (by decide +kernel : ta_ 254 = some (1, some 400, 0, 3000)) 0 (by omega)
            have rwa := rw_a hB hrp.1 (fz 111 0 29 rfl) (cl_k (fun k j h => fz k 0 j (by rcases h with rfl | rfl | rfl | rfl <;> rfl)))
            exact ⟨rfl, fr_s fz rfl, ⟨_, hrp.1, hrp.2.1⟩, hrp.2.2, by rw [eo m]; omega, fun j _ => eo j, by rw [eo m]; omega, fun j hj => (up_k hU35 (by exact Nat.ne_of_beq_eq_false rfl) 0 j).trans ((up_g hU30 (fun q => hj q.2.2)).trans ((up_k hU25 (by exact Nat.ne_of_beq_eq_false rfl) 0 j).trans (up_k hU3 (by exact Nat.ne_of_beq_eq_false rfl) 0 j))), ek, rwa m h1.1 h1.2, fun j _ j0 j1 => rwa j j0 j1⟩
theorem bk_X11_event_e_0 : ck_ fX11 (some .int) cX11_event 0 [.iload 1, .aload 0, .tableswitch 0 11 29 #[]] 5 = true := qck_r (nn_ _) (by decide +kernel)
theorem bs_X11_event_e_0 {P : Zt → Option Zv → Prop} (K : Int → Zl → List Zv → Zt → Prop) : sx_ K P [.iload 1, .aload 0, .tableswitch 0 11 29 #[]] 5 = x_iload 1 (x_aload 0 (x_g0 111 29 0 400 (K 5))) := ((xe_iload 1).trans (congrArg (x_iload 1) ((xe_aload 0).trans (congrArg (x_aload 0) ((xe_g0 (kk := 111) rfl tl_11_29).trans (congrArg (x_g0 111 29 0 400) xe_nil))))))
theorem bk_X11_event_e_8 : ck_ fX11 (some .int) cX11_event 8 [.ifCond .ne 14, .iconst (-2), .ireturn] 14 = true := qck_r (nn_ _) (by decide +kernel)
theorem bs_X11_event_e_8 {P : Zt → Option Zv → Prop} (K : Int → Zl → List Zv → Zt → Prop) : sx_ K P [.ifCond .ne 14, .iconst (-2), .ireturn] 14 = x_ifCond .ne 14 K (x_iconst (-2) (x_ireturn P)) := ((xe_ifCond .ne 14).trans (congrArg (x_ifCond .ne 14 K) ((xe_iconst (-2)).trans (congrArg (x_iconst (-2)) (xe_ireturn)))))
theorem bk_X11_event_e_14 : ck_ fX11 (some .int) cX11_event 14 [.aload 0, .iload 1, .iload 2, .iload 3, .iload 4, .iload 5] 22 = true := qck_r (nn_ _) (by decide +kernel)
theorem bs_X11_event_e_14 {P : Zt → Option Zv → Prop} (K : Int → Zl → List Zv → Zt → Prop) : sx_ K P [.aload 0, .iload 1, .iload 2, .iload 3, .iload 4, .iload 5] 22 = x_aload 0 (x_iload 1 (x_iload 2 (x_iload 3 (x_iload 4 (x_iload 5 (K 22)))))) := ((xe_aload 0).trans (congrArg (x_aload 0) ((xe_iload 1).trans (congrArg (x_iload 1) ((xe_iload 2).trans (congrArg (x_iload 2) ((xe_iload 3).trans (congrArg (x_iload 3) ((xe_iload 4).trans (congrArg (x_iload 4) ((xe_iload 5).trans (congrArg (x_iload 5) xe_nil))))))))))))
theorem bk_X11_event_e_25 : ck_ fX11 (some .int) cX11_event 25 [.istore 6, .iload 6, .ifCond .eq 38, .iconst (-10), .iload 6, .isub, .ireturn] 38 = true := qck_r (nn_ _) (by decide +kernel)
theorem bs_X11_event_e_25 {P : Zt → Option Zv → Prop} (K : Int → Zl → List Zv → Zt → Prop) : sx_ K P [.istore 6, .iload 6, .ifCond .eq 38, .iconst (-10), .iload 6, .isub, .ireturn] 38 = x_istore 6 (x_iload 6 (x_ifCond .eq 38 K (x_iconst (-10) (x_iload 6 (x_isub (x_ireturn P)))))) := ((xe_istore 6).trans (congrArg (x_istore 6) ((xe_iload 6).trans (congrArg (x_iload 6) ((xe_ifCond .eq 38).trans (congrArg (x_ifCond .eq 38 K) ((xe_iconst (-10)).trans (congrArg (x_iconst (-10)) ((xe_iload 6).trans (congrArg (x_iload 6) ((xe_isub).trans (congrArg (x_isub) (xe_ireturn)))))))))))))
theorem bk_X11_event_e_38 : ck_ fX11 (some .int) cX11_event 38 [.aload 0, .tableswitch 0 11 47 #[], .iconst 3000, .if_icmp .ne 51, .iconst (-5), .ireturn] 51 = true := qck_r (nn_ _) (by decide +kernel)
theorem bs_X11_event_e_38 {P : Zt → Option Zv → Prop} (K : Int → Zl → List Zv → Zt → Prop) : sx_ K P [.aload 0, .tableswitch 0 11 47 #[], .iconst 3000, .if_icmp .ne 51, .iconst (-5), .ireturn] 51 = x_aload 0 (x_g0 111 47 0 3000 (x_iconst 3000 (x_if_icmp .ne 51 K (x_iconst (-5) (x_ireturn P))))) := ((xe_aload 0).trans (congrArg (x_aload 0) ((xe_g0 (kk := 111) rfl tl_11_47).trans (congrArg (x_g0 111 47 0 3000) ((xe_iconst 3000).trans (congrArg (x_iconst 3000) ((xe_if_icmp .ne 51).trans (congrArg (x_if_icmp .ne 51 K) ((xe_iconst (-5)).trans (congrArg (x_iconst (-5)) (xe_ireturn)))))))))))
theorem bk_X11_event_e_51 : ck_ fX11 (some .int) cX11_event 51 [.aload 0, .tableswitch 0 11 47 #[], .istore 7, .aload 0, .dup, .tableswitch 0 11 47 #[], .iconst 1, .iadd, .tableswitch 1 11 47 #[], .aload 0, .tableswitch 0 11 48 #[], .iload 7, .iload 2, .iastore, .aload 0, .tableswitch 0 11 49 #[], .iload 7, .iload 3, .iastore, .aload 0, .tableswitch 0 11 50 #[], .iload 7, .iload 4, .iastore, .aload 0, .tableswitch 0 11 51 #[], .iload 7, .iload 5, .iastore, .aload 0, .iload 1, .iload 7, .iconst 0] 106 = true := qck_r (nn_ _) (by decide +kernel)
theorem bs_X11_event_e_51 {P : Zt → Option Zv → Prop} (K : Int → Zl → List Zv → Zt → Prop) : sx_ K P [.aload 0, .tableswitch 0 11 47 #[], .istore 7, .aload 0, .dup, .tableswitch 0 11 47 #[], .iconst 1, .iadd, .tableswitch 1 11 47 #[], .aload 0, .tableswitch 0 11 48 #[], .iload 7, .iload 2, .iastore, .aload 0, .tableswitch 0 11 49 #[], .iload 7, .iload 3, .iastore, .aload 0, .tableswitch 0 11 50 #[], .iload 7, .iload 4, .iastore, .aload 0, .tableswitch 0 11 51 #[], .iload 7, .iload 5, .iastore, .aload 0, .iload 1, .iload 7, .iconst 0] 106 = x_aload 0 (x_g0 111 47 0 3000 (x_istore 7 (x_aload 0 (x_dup (x_g0 111 47 0 3000 (x_iconst 1 (x_iadd (x_p 111 47 0 3000 (x_aload 0 (x_g1 111 248 (x_iload 7 (x_iload 2 (x_iastore (x_aload 0 (x_g1 111 249 (x_iload 7 (x_iload 3 (x_iastore (x_aload 0 (x_g1 111 250 (x_iload 7 (x_iload 4 (x_iastore (x_aload 0 (x_g1 111 251 (x_iload 7 (x_iload 5 (x_iastore (x_aload 0 (x_iload 1 (x_iload 7 (x_iconst 0 (K 106))))))))))))))))))))))))))))))))) := ((xe_aload 0).trans (congrArg (x_aload 0) ((xe_g0 (kk := 111) rfl tl_11_47).trans (congrArg (x_g0 111 47 0 3000) ((xe_istore 7).trans (congrArg (x_istore 7) ((xe_aload 0).trans (congrArg (x_aload 0) ((xe_dup).trans (congrArg (x_dup) ((xe_g0 (kk := 111) rfl tl_11_47).trans (congrArg (x_g0 111 47 0 3000) ((xe_iconst 1).trans (congrArg (x_iconst 1) ((xe_iadd).trans (congrArg (x_iadd) ((xe_p (kk := 111) rfl tl_11_47).trans (congrArg (x_p 111 47 0 3000) ((xe_aload 0).trans (congrArg (x_aload 0) ((xe_g1 (kk := 111) rfl tl_11_48).trans (congrArg (x_g1 111 248) ((xe_iload 7).trans (congrArg (x_iload 7) ((xe_iload 2).trans (congrArg (x_iload 2) ((xe_iastore).trans (congrArg (x_iastore) ((xe_aload 0).trans (congrArg (x_aload 0) ((xe_g1 (kk := 111) rfl tl_11_49).trans (congrArg (x_g1 111 249) ((xe_iload 7).trans (congrArg (x_iload 7) ((xe_iload 3).trans (congrArg (x_iload 3) ((xe_iastore).trans (congrArg (x_iastore) ((xe_aload 0).trans (congrArg (x_aload 0) ((xe_g1 (kk := 111) rfl tl_11_50).trans (congrArg (x_g1 111 250) ((xe_iload 7).trans (congrArg (x_iload 7) ((xe_iload 4).trans (congrArg (x_iload 4) ((xe_iastore).trans (congrArg (x_iastore) ((xe_aload 0).trans (congrArg (x_aload 0) ((xe_g1 (kk := 111) rfl tl_11_51).trans (congrArg (x_g1 111 251) ((xe_iload 7).trans (congrArg (x_iload 7) ((xe_iload 5).trans (congrArg (x_iload 5) ((xe_iastore).trans (congrArg (x_iastore) ((xe_aload 0).trans (congrArg (x_aload 0) ((xe_iload 1).trans (congrArg (x_iload 1) ((xe_iload 7).trans (congrArg (x_iload 7) ((xe_iconst 0).trans (congrArg (x_iconst 0) xe_nil))))))))))))))))))))))))))))))))))))))))))))))))))))))))))))))))))
theorem bk_X11_event_e_109 : ck_ fX11 (some .int) cX11_event 109 [.aload 0, .iload 1, .iload 2, .iload 3, .iload 4, .iload 5] 117 = true := qck_r (nn_ _) (by decide +kernel)
theorem bs_X11_event_e_109 {P : Zt → Option Zv → Prop} (K : Int → Zl → List Zv → Zt → Prop) : sx_ K P [.aload 0, .iload 1, .iload 2, .iload 3, .iload 4, .iload 5] 117 = x_aload 0 (x_iload 1 (x_iload 2 (x_iload 3 (x_iload 4 (x_iload 5 (K 117)))))) := ((xe_aload 0).trans (congrArg (x_aload 0) ((xe_iload 1).trans (congrArg (x_iload 1) ((xe_iload 2).trans (congrArg (x_iload 2) ((xe_iload 3).trans (congrArg (x_iload 3) ((xe_iload 4).trans (congrArg (x_iload 4) ((xe_iload 5).trans (congrArg (x_iload 5) xe_nil))))))))))))
theorem bk_X11_event_e_120 : ck_ fX11 (some .int) cX11_event 120 [.aload 0, .tableswitch 0 11 54 #[], .iload 1, .iaload, .ireturn] 127 = true := qck_r (nn_ _) (by decide +kernel)
theorem bs_X11_event_e_120 {P : Zt → Option Zv → Prop} (K : Int → Zl → List Zv → Zt → Prop) : sx_ K P [.aload 0, .tableswitch 0 11 54 #[], .iload 1, .iaload, .ireturn] 127 = x_aload 0 (x_g1 111 254 (x_iload 1 (x_iaload (x_ireturn P)))) := ((xe_aload 0).trans (congrArg (x_aload 0) ((xe_g1 (kk := 111) rfl tl_11_54).trans (congrArg (x_g1 111 254) ((xe_iload 1).trans (congrArg (x_iload 1) ((xe_iaload).trans (congrArg (x_iaload) (xe_ireturn)))))))))
abbrev po_X11_event_e (T : Zt) (ru : Int → Int) (m k s p q : Int) : Zt → Option Zv → Prop := fun T' r => ∃ x : Int, r = some (vI x) ∧ fr_ [(111, [47]), (248, []), (249, []), (250, []), (251, []), (252, []), (253, []), (254, []), (256, []), (244, []), (241, []), (242, []), (243, []), (245, []), (246, []), (236, []), (237, []), (235, [])] T T' ∧ (FM_ T' ∧ RX_ T' [] ∧ ZS_ T' ∧ GX_ T' (-1) ∧ (∀ j, j ≠ m ∨ T 111 0 29 ≤ j → T' 254 0 j = T 254 0 j ∧ T' 256 0 j = T 256 0 j) ∧ ((x = -2 ∧ ¬ (0 ≤ m ∧ m < T 111 0 29) ∧ T = T') ∨ ((0 ≤ m ∧ m < T 111 0 29) ∧ ((lwR_ ru (rp9_ T m) k s p q ≠ 0 ∧ x = -10 - lwR_ ru (rp9_ T m) k s p q ∧ T = T') ∨ (lwR_ ru (rp9_ T m) k s p q = 0 ∧ T 111 0 47 = 3000 ∧ x = -5 ∧ T = T') ∨ (lwR_ ru (rp9_ T m) k s p q = 0 ∧ T 111 0 47 ≠ 3000 ∧ T' 111 0 47 = T 111 0 47 + 1 ∧ rp9_ T' m = plR_ ru (rp9_ T m) m k s p q ∧ rw9_ T' m = rw9_ T m ++ [(k, s, p, q)] ∧ x = T' 254 0 m ∧ T' 256 0 m = T 256 0 m ∧ OMR_ T T' m)))))
set_option maxHeartbeats 4000000 in
theorem ct_X11_event_e {T : Zt} {ru : Int → Int} {m k s p q : Int} (hmc : MC_ T) (hri : RI_ T) (hfm : FM_ T) (hrx : RX_ T []) (hzs : ZS_ T) (hgs : GX_ T (-1)) (hrl : RLR_ T m ru) : Ct_ yX11_event zX11_event T [vR 111 0, vI m, vI k, vI s, vI p, vI q] (po_X11_event_e T ru m k s p q) := by
  refine ct_of pn_11 rfl rfl (Nat.le_of_ble_eq_true rfl) (fun hT hav => ?_)
  have hr_m : -2147483648 ≤ m ∧ m ≤ 2147483647 := hav (vI m) (List.mem_cons_of_mem _ List.mem_cons_self)
  have hr_k : -2147483648 ≤ k ∧ k ≤ 2147483647 := hav (vI k) (List.mem_cons_of_mem _ (List.mem_cons_of_mem _ List.mem_cons_self))
  have hr_s : -2147483648 ≤ s ∧ s ≤ 2147483647 := hav (vI s) (List.mem_cons_of_mem _ (List.mem_cons_of_mem _ (List.mem_cons_of_mem _ List.mem_cons_self)))
  have hr_p : -2147483648 ≤ p ∧ p ≤ 2147483647 := hav (vI p) (List.mem_cons_of_mem _ (List.mem_cons_of_mem _ (List.mem_cons_of_mem _ (List.mem_cons_of_mem _ List.mem_cons_self))))
  have hr_q : -2147483648 ≤ q ∧ q ≤ 2147483647 := hav (vI q) (List.mem_cons_of_mem _ (List.mem_cons_of_mem _ (List.mem_cons_of_mem _ (List.mem_cons_of_mem _ (List.mem_cons_of_mem _ List.mem_cons_self)))))
  have hz : zX11_event.2.2.2.1 = some .boolean → ∀ (T' : Zt) (x : Int), po_X11_event_e T ru m k s p q T' (some (vI x)) → 0 ≤ x ∧ x ≤ 1 := fun h => by cases h
  have hb_29 : 0 ≤ T 111 0 29 ∧ T 111 0 29 ≤ 400 := bd_f hT 111 29 tl_11_29 0
  have hb_6 : 0 ≤ T 111 0 6 ∧ T 111 0 6 ≤ 4 := bd_f hT 111 6 tl_11_6 0
  have hb_47 : 0 ≤ T 111 0 47 ∧ T 111 0 47 ≤ 3000 := bd_f hT 111 47 tl_11_47 0
  show J_ zX11_event T (po_X11_event_e T ru m k s p q) 0 0 0 [some (vR 111 0), some (vI m), some (vI k), some (vI s), some (vI p), some (vI q), none, none] [] T
  refine j_blx (F := fX11) tb_X11 (nn_ _) bk_X11_event_e_0 bs_X11_event_e_0 hz (fun K hK => ?_)
  intro b1 b1b
  refine hK 5 _ [vI (T 111 0 29), vI m] T ?_
  refine j_callS (y := yX11_isOf) (Yc := zX11_isOf) (rest := []) [vI m, vI (T 111 0 29)] (ct_X11_isOf (T := T) (by omega)) cl_X11_317 (qd_c (by decide +kernel)) (nn_ _) rfl (rf_of rfl) (Nat.le_of_ble_eq_true rfl) (Nat.le_of_ble_eq_true rfl) (Nat.le_of_ble_eq_true rfl) rfl ?_
  rintro _ _ ⟨rfl, x2, rfl, hx2⟩
  show J_ zX11_event T (po_X11_event_e T ru m k s p q) 0 0 8 _ [vI x2] T
  refine j_blx (F := fX11) tb_X11 (nn_ _) bk_X11_event_e_8 bs_X11_event_e_8 hz (fun K hK => ?_)
  refine And.intro (fun c3 => ?_) (fun c3 => ?_)
  · replace hx2 := hx2.resolve_right (fun z => c3 z.1)
    clear c3
    refine hK 14 _ [] T ?_
    refine j_blx (F := fX11) tb_X11 (nn_ _) bk_X11_event_e_14 bs_X11_event_e_14 hz (fun K hK => ?_)
    refine hK 22 _ [vI q, vI p, vI s, vI k, vI m, vR 111 0] T ?_
    refine j_callV (y := yX11_lawOf) (Yc := zX11_lawOf) (rest := []) [vI m, vI k, vI s, vI p, vI q] (ct_X11_lawOf_e (T := T) (ru := ru) (by omega) (hrl)) cl_X11_459 (qd_c (by decide +kernel)) (nn_ _) rfl (rf_of rfl) (Nat.le_of_ble_eq_true rfl) (Nat.le_of_ble_eq_true rfl) (Nat.le_of_ble_eq_true rfl) rfl ?_
    rintro _ _ ⟨rfl, x4, rfl, hx4b, hx4, hx4e⟩
    show J_ zX11_event T (po_X11_event_e T ru m k s p q) 0 0 25 _ [vI x4] T
    refine j_blx (F := fX11) tb_X11 (nn_ _) bk_X11_event_e_25 bs_X11_event_e_25 hz (fun K hK => ?_)
    refine And.intro (fun c5 => ?_) (fun c5 => ?_)
    · have hlw := hx4 (by omega)
      refine hK 38 [some (vR 111 0), some (vI m), some (vI k), some (vI s), some (vI p), some (vI q), some (vI x4), none] [] T ?_
      refine j_blx (F := fX11) tb_X11 (nn_ _) bk_X11_event_e_38 bs_X11_event_e_38 hz (fun K hK => ?_)
      intro b6 b6b
      refine And.intro (fun c7 => ?_) (fun c7 => ?_)
      · refine hK 51 _ [] T ?_
        refine j_blx (F := fX11) tb_X11 (nn_ _) bk_X11_event_e_51 bs_X11_event_e_51 hz (fun K hK => ?_)
        intro b8 b8b
        intro b9 b9b
        refine rg_i (by omega) ?_
        refine bd_i (by omega) ?_
        refine x_nm (fun U10 hU10 => ?_)
        have e11 := up_f hU10
        refine iy_i (by omega) (by omega) ?_
        refine x_nm (fun U12 hU12 => ?_)
        have e13 := up_f hU12
        refine iy_i (by omega) (by omega) ?_
        refine x_nm (fun U14 hU14 => ?_)
        have e15 := up_f hU14
        refine iy_i (by omega) (by omega) ?_
        refine x_nm (fun U16 hU16 => ?_)
        have e17 := up_f hU16
        refine iy_i (by omega) (by omega) ?_
        refine x_nm (fun U18 hU18 => ?_)
        have e19 := up_f hU18
        refine hK 106 [some (vR 111 0), some (vI m), some (vI k), some (vI s), some (vI p), some (vI q), some (vI x4), some (vI (T 111 0 47))] [vI 0, vI (T 111 0 47), vI m, vR 111 0] U18 ?_
        have fz : fr_ [(251, []), (250, []), (249, []), (248, []), (111, [47])] T U18 := fr_u (fr_u (fr_u (fr_u (fr_u (fr_0 _ _) hU10 rfl) hU12 rfl) hU14 rfl) hU16 rfl) hU18 rfl
        have hrn : 0 ≤ T 254 0 m ∧ T 254 0 m ≤ 3000 := bd_a hT 254 (by decide +kernel : ta_ 254 = some (1, some 400, 0, 3000)) 0 (by omega)
        have hsb : SB1_ T m (4 * T 254 0 m + 9) := hgs m (by omega) (by omega) (by omega)
        have e20 : U18 111 0 47 = (T 111 0 47) + 1 := (up_k hU18 (by exact Nat.ne_of_beq_eq_false rfl) 0 47).trans ((up_k hU16 (by exact Nat.ne_of_beq_eq_false rfl) 0 47).trans ((up_k hU14 (by exact Nat.ne_of_beq_eq_false rfl) 0 47).trans ((up_k hU12 (by exact Nat.ne_of_beq_eq_false rfl) 0 47).trans (up_f hU10))))
        have hry := hrx
        obtain ⟨L, hB, hR⟩ := hry
        have rbn := rb_new hB (by omega) (fz 111 0 29 rfl) (by omega) (fun k j h => fz k 0 j (by rcases h with rfl | rfl | rfl | rfl | rfl <;> rfl))
        have hnw : ∀ m' b', T 111 0 47 ∉ L m' b' := fun m' b' z => by have := hB.2.1 m' b' _ z; omega
        have rwx := rw_x hB rbn.1 (fz 111 0 29 rfl) (fun k y h n => by rcases h with rfl | rfl | rfl | rfl; exact (up_k hU18 (by exact Nat.ne_of_beq_eq_false rfl) 0 y).trans ((up_k hU16 (by exact Nat.ne_of_beq_eq_false rfl) 0 y).trans ((up_k hU14 (by exact Nat.ne_of_beq_eq_false rfl) 0 y).trans ((up_g hU12 (fun z => n z.2.2)).trans (up_k hU10 (by exact Nat.ne_of_beq_eq_false rfl) 0 y)))); exact (up_k hU18 (by exact Nat.ne_of_beq_eq_false rfl) 0 y).trans ((up_k hU16 (by exact Nat.ne_of_beq_eq_false rfl) 0 y).trans ((up_g hU14 (fun z => n z.2.2)).trans ((up_k hU12 (by exact Nat.ne_of_beq_eq_false rfl) 0 y).trans (up_k hU10 (by exact Nat.ne_of_beq_eq_false rfl) 0 y)))); exact (up_k hU18 (by exact Nat.ne_of_beq_eq_false rfl) 0 y).trans ((up_g hU16 (fun z => n z.2.2)).trans ((up_k hU14 (by exact Nat.ne_of_beq_eq_false rfl) 0 y).trans ((up_k hU12 (by exact Nat.ne_of_beq_eq_false rfl) 0 y).trans (up_k hU10 (by exact Nat.ne_of_beq_eq_false rfl) 0 y)))); exact (up_g hU18 (fun z => n z.2.2)).trans ((up_k hU16 (by exact Nat.ne_of_beq_eq_false rfl) 0 y).trans ((up_k hU14 (by exact Nat.ne_of_beq_eq_false rfl) 0 y).trans ((up_k hU12 (by exact Nat.ne_of_beq_eq_false rfl) 0 y).trans (up_k hU10 (by exact Nat.ne_of_beq_eq_false rfl) 0 y))))) hnw
        have rcx : rwc_ U18 (T 111 0 47) = (k, s, p, q) := by
          unfold rwc_
          rw [show U18 248 0 (T 111 0 47) = k from ((up_k hU18 (by exact Nat.ne_of_beq_eq_false rfl) 0 (T 111 0 47)).trans ((up_k hU16 (by exact Nat.ne_of_beq_eq_false rfl) 0 (T 111 0 47)).trans (up_k hU14 (by exact Nat.ne_of_beq_eq_false rfl) 0 (T 111 0 47)))).trans (up_f hU12), show U18 249 0 (T 111 0 47) = s from ((up_k hU18 (by exact Nat.ne_of_beq_eq_false rfl) 0 (T 111 0 47)).trans (up_k hU16 (by exact Nat.ne_of_beq_eq_false rfl) 0 (T 111 0 47))).trans (up_f hU14), show U18 250 0 (T 111 0 47) = p from (up_k hU18 (by exact Nat.ne_of_beq_eq_false rfl) 0 (T 111 0 47)).trans (up_f hU16), show U18 251 0 (T 111 0 47) = q from up_f hU18]
        have e21 : U18 111 0 29 = T 111 0 29 := (up_k hU18 (by exact Nat.ne_of_beq_eq_false rfl) 0 29).trans ((up_k hU16 (by exact Nat.ne_of_beq_eq_false rfl) 0 29).trans ((up_k hU14 (by exact Nat.ne_of_beq_eq_false rfl) 0 29).trans ((up_k hU12 (by exact Nat.ne_of_beq_eq_false rfl) 0 29).trans (up_j hU10 (by decide) 111 0))))
        have e22 : U18 111 0 47 = (T 111 0 47) + 1 := (up_k hU18 (by exact Nat.ne_of_beq_eq_false rfl) 0 47).trans ((up_k hU16 (by exact Nat.ne_of_beq_eq_false rfl) 0 47).trans ((up_k hU14 (by exact Nat.ne_of_beq_eq_false rfl) 0 47).trans ((up_k hU12 (by exact Nat.ne_of_beq_eq_false rfl) 0 47).trans (up_f hU10))))
        refine j_callV (y := yX11_putBehind) (Yc := zX11_putBehind) (rest := []) [vI m, vI (T 111 0 47), vI 0] (ct_X11_putBehind_0_e (T := U18) (rest := []) (by omega) (⟨L, rbn.1, rbn.2⟩)) cl_X11_466 (qd_c (by decide +kernel)) (nn_ _) rfl (rf_of rfl) (Nat.le_of_ble_eq_true rfl) (Nat.le_of_ble_eq_true rfl) (Nat.le_of_ble_eq_true rfl) rfl ?_
        rintro U23 _ ⟨rfl, fU23, qU23a, qU23b, qU23c, qU23d, qU23e, qU23g, qU23m, qU23r, qU23s⟩
        show J_ zX11_event T (po_X11_event_e T ru m k s p q) 0 0 109 _ [] U23
        refine j_blx (F := fX11) tb_X11 (nn_ _) bk_X11_event_e_109 bs_X11_event_e_109 hz (fun K hK => ?_)
        refine hK 117 _ [vI q, vI p, vI s, vI k, vI m, vR 111 0] U23 ?_
        have e24 : U23 111 0 29 = T 111 0 29 := (fU23 111 0 29 rfl).trans ((up_k hU18 (by exact Nat.ne_of_beq_eq_false rfl) 0 29).trans ((up_k hU16 (by exact Nat.ne_of_beq_eq_false rfl) 0 29).trans ((up_k hU14 (by exact Nat.ne_of_beq_eq_false rfl) 0 29).trans ((up_k hU12 (by exact Nat.ne_of_beq_eq_false rfl) 0 29).trans (up_j hU10 (by decide) 111 0)))))
        have fy : fr_ [(252, []), (253, []), (254, []), (256, []), (251, []), (250, []), (249, []), (248, []), (111, [47])] T U23 := fr_t (fr_u (fr_u (fr_u (fr_u (fr_u (fr_0 _ _) hU10 rfl) hU12 rfl) hU14 rfl) hU16 rfl) hU18 rfl) (fr_s fU23 rfl)
        refine j_callV (y := yX11_play) (Yc := zX11_play) (rest := []) [vI m, vI k, vI s, vI p, vI q] (ct_X11_play_e (T := U23) (ru := ru) (bu := 4 * T 254 0 m + 9) (by omega) (by exact MC__f (ws := [(252, []), (253, []), (254, []), (256, []), (251, []), (250, []), (249, []), (248, []), (111, [47])]) hmc (fr_t (fr_u (fr_u (fr_u (fr_u (fr_u (fr_0 _ _) hU10 rfl) hU12 rfl) hU14 rfl) hU16 rfl) hU18 rfl) (fr_s fU23 rfl)) ⟨fun _ => rfl, rfl, rfl, trivial⟩) (by exact RI__f (ws := [(252, []), (253, []), (254, []), (256, []), (251, []), (250, []), (249, []), (248, []), (111, [47])]) hri (fr_t (fr_u (fr_u (fr_u (fr_u (fr_u (fr_0 _ _) hU10 rfl) hU12 rfl) hU14 rfl) hU16 rfl) hU18 rfl) (fr_s fU23 rfl)) ⟨fun _ => rfl, rfl, trivial⟩) (by exact FM__f (ws := [(252, []), (253, []), (254, []), (256, [])]) (FM__f (ws := [(251, [])]) (FM__f (ws := [(250, [])]) (FM__f (ws := [(249, [])]) (FM__f (ws := [(248, [])]) (FM__f (ws := [(111, [])]) (hfm) (fr_u (fr_0 _ _) hU10 rfl) ⟨fun _ => rfl, fun _ => rfl, trivial⟩) (fr_u (fr_0 _ _) hU12 rfl) ⟨fun _ => rfl, fun _ => rfl, trivial⟩) (fr_u (fr_0 _ _) hU14 rfl) ⟨fun _ => rfl, fun _ => rfl, trivial⟩) (fr_u (fr_0 _ _) hU16 rfl) ⟨fun _ => rfl, fun _ => rfl, trivial⟩) (fr_u (fr_0 _ _) hU18 rfl) ⟨fun _ => rfl, fun _ => rfl, trivial⟩) fU23 ⟨fun _ => rfl, fun _ => rfl, trivial⟩) (by exact LW_f hlw (fun k j h => fy k 0 j (by rcases h with rfl | rfl | rfl | rfl | rfl <;> rfl))) (rlr_f (ws := [(252, []), (253, []), (254, []), (256, []), (251, []), (250, []), (249, []), (248, []), (111, [47])]) hrl (fr_t (fr_u (fr_u (fr_u (fr_u (fr_u (fr_0 _ _) hU10 rfl) hU12 rfl) hU14 rfl) hU16 rfl) hU18 rfl) (fr_s fU23 rfl)) (fun _ => rfl) (fun _ => rfl)) (by omega) (sb1_f (ws := [(252, []), (253, []), (254, []), (256, [])]) (sb1_f (ws := [(251, [])]) (sb1_f (ws := [(250, [])]) (sb1_f (ws := [(249, [])]) (sb1_f (ws := [(248, [])]) (sb1_f (ws := [(111, [])]) (hsb) (fr_u (fr_0 _ _) hU10 rfl) ⟨fun _ => rfl, fun _ => rfl, fun _ => rfl⟩) (fr_u (fr_0 _ _) hU12 rfl) ⟨fun _ => rfl, fun _ => rfl, fun _ => rfl⟩) (fr_u (fr_0 _ _) hU14 rfl) ⟨fun _ => rfl, fun _ => rfl, fun _ => rfl⟩) (fr_u (fr_0 _ _) hU16 rfl) ⟨fun _ => rfl, fun _ => rfl, fun _ => rfl⟩) (fr_u (fr_0 _ _) hU18 rfl) ⟨fun _ => rfl, fun _ => rfl, fun _ => rfl⟩) fU23 ⟨fun _ => rfl, fun _ => rfl, fun _ => rfl⟩)) cl_X11_470 (qd_c (by decide +kernel)) (nn_ _) rfl (rf_of rfl) (Nat.le_of_ble_eq_true rfl) (Nat.le_of_ble_eq_true rfl) (Nat.le_of_ble_eq_true rfl) rfl ?_
        rintro U25 _ ⟨rfl, fU25, ⟨qU25, qU25o, qU25b, qU25p, qU25e⟩⟩
        show J_ zX11_event T (po_X11_event_e T ru m k s p q) 0 0 120 _ [] U25
        refine j_blx (F := fX11) tb_X11 (nn_ _) bk_X11_event_e_120 bs_X11_event_e_120 hz (fun K hK => ?_)
        refine ix_i (by omega) ?_
        intro b26 b26b
        have e27 : U25 254 0 m = U23 254 0 m := fU25 254 0 m rfl
        rw [e27] at b26 b26b ⊢
        refine (show po_X11_event_e T ru m k s p q U25 (some (vI (U23 254 0 m))) from ?_)
        have e28 : U25 111 0 47 = (T 111 0 47) + 1 := (fU25 111 0 47 rfl).trans ((fU23 111 0 47 rfl).trans ((up_k hU18 (by exact Nat.ne_of_beq_eq_false rfl) 0 47).trans ((up_k hU16 (by exact Nat.ne_of_beq_eq_false rfl) 0 47).trans ((up_k hU14 (by exact Nat.ne_of_beq_eq_false rfl) 0 47).trans ((up_k hU12 (by exact Nat.ne_of_beq_eq_false rfl) 0 47).trans (up_f hU10))))))
        have e29 : U25 254 0 m = U23 254 0 m := fU25 254 0 m rfl
        have e30 : U25 256 0 m = U23 256 0 m := fU25 256 0 m rfl
        have fw : fr_ [(244, []), (241, []), (242, []), (243, []), (245, []), (246, []), (236, []), (237, []), (235, []), (252, []), (253, []), (254, []), (256, []), (251, []), (250, []), (249, []), (248, []), (111, [47])] T U25 := fr_t (fr_t (fr_u (fr_u (fr_u (fr_u (fr_u (fr_0 _ _) hU10 rfl) hU12 rfl) hU14 rfl) hU16 rfl) hU18 rfl) (fr_s fU23 rfl)) (fr_s fU25 rfl)
        have so5 : SO_ T U25 m := so_t (so_f (ws := [(252, []), (253, []), (254, []), (256, [])]) (so_f (ws := [(251, [])]) (so_f (ws := [(250, [])]) (so_f (ws := [(249, [])]) (so_f (ws := [(248, [])]) (so_f (ws := [(111, [])]) (so_r) (fr_u (fr_0 _ _) hU10 rfl) ⟨fun _ => rfl, fun _ => rfl, fun _ => rfl⟩) (fr_u (fr_0 _ _) hU12 rfl) ⟨fun _ => rfl, fun _ => rfl, fun _ => rfl⟩) (fr_u (fr_0 _ _) hU14 rfl) ⟨fun _ => rfl, fun _ => rfl, fun _ => rfl⟩) (fr_u (fr_0 _ _) hU16 rfl) ⟨fun _ => rfl, fun _ => rfl, fun _ => rfl⟩) (fr_u (fr_0 _ _) hU18 rfl) ⟨fun _ => rfl, fun _ => rfl, fun _ => rfl⟩) fU23 ⟨fun _ => rfl, fun _ => rfl, fun _ => rfl⟩) qU25o (fun j => (fU23 239 0 j rfl).trans ((up_k hU18 (by exact Nat.ne_of_beq_eq_false rfl) 0 j).trans ((up_k hU16 (by exact Nat.ne_of_beq_eq_false rfl) 0 j).trans ((up_k hU14 (by exact Nat.ne_of_beq_eq_false rfl) 0 j).trans ((up_k hU12 (by exact Nat.ne_of_beq_eq_false rfl) 0 j).trans (up_k hU10 (by exact Nat.ne_of_beq_eq_false rfl) 0 j))))))
        have er : ∀ j, U25 254 0 j = U23 254 0 j := fun j => fU25 254 0 j rfl
        have ep : ∀ j, U18 254 0 j = T 254 0 j := fun j => (up_k hU18 (by exact Nat.ne_of_beq_eq_false rfl) 0 j).trans ((up_k hU16 (by exact Nat.ne_of_beq_eq_false rfl) 0 j).trans ((up_k hU14 (by exact Nat.ne_of_beq_eq_false rfl) 0 j).trans ((up_k hU12 (by exact Nat.ne_of_beq_eq_false rfl) 0 j).trans (up_k hU10 (by exact Nat.ne_of_beq_eq_false rfl) 0 j))))
        have e1 : U25 254 0 m = T 254 0 m + 1 := by rw [er, qU23c, ep]
        have k9 : ∀ j, T 111 0 29 ≤ j ∨ j ≠ m → j ≠ m := fun j z => by omega
        have u1 : rp9_ U23 m = rp9_ T m := by rw [rp_x (T := U18) (T1 := U23) (m := m) (fun K j h => fU23 K 0 j (by rcases h with rfl | rfl | rfl | rfl | rfl | rfl | rfl | rfl | rfl | rfl | rfl <;> rfl)), rp_x (T := T) (T1 := U18) (m := m) (fun K j h => fz K 0 j (by rcases h with rfl | rfl | rfl | rfl | rfl | rfl | rfl | rfl | rfl | rfl | rfl <;> rfl))]
        have u2 : rp9_ U25 m = plR_ ru (rp9_ T m) m k s p q := by rw [qU25e, u1]
        have u3 : rw9_ U25 m = rw9_ T m ++ [(k, s, p, q)] := by rw [show rw9_ U25 m = rw9_ U23 m from rw_k (fun k x h => fU25 k 0 x (by rcases h with rfl | rfl | rfl | rfl <;> rfl)) (fun x => fU25 252 0 x rfl) (fU25 253 0 _ rfl) (fU25 254 0 _ rfl), qU23r, rwx m (by omega) (by omega), rcx]
        have u4 : OMR_ T U25 m := ⟨ro_t (rp_xo (fun K j h => (fU23 K 0 j (by rcases h with rfl | rfl | rfl | rfl | rfl | rfl | rfl | rfl | rfl | rfl | rfl <;> rfl)).trans (fz K 0 j (by rcases h with rfl | rfl | rfl | rfl | rfl | rfl | rfl | rfl | rfl | rfl | rfl <;> rfl)))) qU25p, fun j hj j0 j1 => ⟨(rw_k (fun k x h => fU25 k 0 x (by rcases h with rfl | rfl | rfl | rfl <;> rfl)) (fun x => fU25 252 0 x rfl) (fU25 253 0 _ rfl) (fU25 254 0 _ rfl)).trans ((qU23s j hj j0 (by omega)).trans (rwx j j0 j1)), (er j).trans ((qU23d j hj).trans (ep j)), (fU25 256 0 j rfl).trans ((qU23g j hj).trans ((up_k hU18 (by exact Nat.ne_of_beq_eq_false rfl) 0 j).trans ((up_k hU16 (by exact Nat.ne_of_beq_eq_false rfl) 0 j).trans ((up_k hU14 (by exact Nat.ne_of_beq_eq_false rfl) 0 j).trans ((up_k hU12 (by exact Nat.ne_of_beq_eq_false rfl) 0 j).trans (up_k hU10 (by exact Nat.ne_of_beq_eq_false rfl) 0 j))))))⟩⟩
        have u5 : U25 256 0 m = T 256 0 m := by rw [fU25 256 0 m rfl, qU23m, (up_k hU18 (by exact Nat.ne_of_beq_eq_false rfl) 0 m).trans ((up_k hU16 (by exact Nat.ne_of_beq_eq_false rfl) 0 m).trans ((up_k hU14 (by exact Nat.ne_of_beq_eq_false rfl) 0 m).trans ((up_k hU12 (by exact Nat.ne_of_beq_eq_false rfl) 0 m).trans (up_k hU10 (by exact Nat.ne_of_beq_eq_false rfl) 0 m))))]; omega
        have e31 : U25 111 0 47 = (T 111 0 47) + 1 := (fU25 111 0 47 rfl).trans ((fU23 111 0 47 rfl).trans ((up_k hU18 (by exact Nat.ne_of_beq_eq_false rfl) 0 47).trans ((up_k hU16 (by exact Nat.ne_of_beq_eq_false rfl) 0 47).trans ((up_k hU14 (by exact Nat.ne_of_beq_eq_false rfl) 0 47).trans ((up_k hU12 (by exact Nat.ne_of_beq_eq_false rfl) 0 47).trans (up_f hU10))))))
        exact ⟨_, rfl, fr_t (fr_t (fr_u (fr_u (fr_u (fr_u (fr_u (fr_0 _ _) hU10 rfl) hU12 rfl) hU14 rfl) hU16 rfl) hU18 rfl) (fr_s fU23 rfl)) (fr_s fU25 rfl), qU25, rx_f (qU23a) (fU25 111 0 29 rfl) (fU25 111 0 47 rfl) (fun k j h => fU25 k 0 j (by rcases h with rfl | rfl | rfl | rfl | rfl <;> rfl)), zs_o hzs so5 (fun j => fw 239 0 j rfl), gx_o (gx_x hgs) so5 (sb1_m (qU25b) (by omega)) (fun j hj => (er j).trans ((qU23d j hj).trans (ep j))), fun j hk => (fun (hj : j ≠ m) => ⟨(er j).trans ((qU23d j hj).trans (ep j)), (fU25 256 0 j rfl).trans ((qU23g j hj).trans ((up_k hU18 (by exact Nat.ne_of_beq_eq_false rfl) 0 j).trans ((up_k hU16 (by exact Nat.ne_of_beq_eq_false rfl) 0 j).trans ((up_k hU14 (by exact Nat.ne_of_beq_eq_false rfl) 0 j).trans ((up_k hU12 (by exact Nat.ne_of_beq_eq_false rfl) 0 j).trans (up_k hU10 (by exact Nat.ne_of_beq_eq_false rfl) 0 j))))))⟩) (by omega), Or.inr ⟨by omega, Or.inr (Or.inr ⟨by omega, by omega, by omega, u2, u3, (fU25 254 0 m rfl).symm, u5, u4⟩)⟩⟩
      · refine (show po_X11_event_e T ru m k s p q T (some (vI (-5))) from ?_)
        exact ⟨_, rfl, fr_0 _ _, hfm, hrx, hzs, hgs, fun _ _ => ⟨rfl, rfl⟩, Or.inr ⟨by omega, Or.inr (Or.inl ⟨by omega, by omega, rfl, rfl⟩)⟩⟩
    · refine rg_i (by omega) ?_
      refine (show po_X11_event_e T ru m k s p q T (some (vI ((-10) - x4))) from ?_)
      exact ⟨_, rfl, fr_0 _ _, hfm, hrx, hzs, hgs, fun _ _ => ⟨rfl, rfl⟩, Or.inr ⟨by omega, Or.inl ⟨by omega, by omega, rfl⟩⟩⟩
  · replace hx2 := hx2.resolve_left (fun z => absurd (c3.symm.trans z.1) (by decide))
    clear c3
    refine (show po_X11_event_e T ru m k s p q T (some (vI (-2))) from ?_)
    exact ⟨_, rfl, fr_0 _ _, hfm, hrx, hzs, hgs, fun _ _ => ⟨rfl, rfl⟩, Or.inl ⟨rfl, by omega, rfl⟩⟩
theorem bk_X11_playAnew_e_28 : ck_ fX11 (some .int) cX11_playAnew 28 [.iload 2, .iconst (-1), .if_icmp .eq 149, .aload 0, .tableswitch 0 11 52 #[], .iload 2, .iaload, .istore 4, .aload 0, .iload 1, .aload 0, .tableswitch 0 11 48 #[], .iload 2, .iaload, .aload 0, .tableswitch 0 11 49 #[], .iload 2, .iaload, .aload 0, .tableswitch 0 11 50 #[], .iload 2, .iaload, .aload 0, .tableswitch 0 11 51 #[], .iload 2, .iaload] 67 = true := qck_r (nn_ _) (by decide +kernel)
theorem bs_X11_playAnew_e_28 {P : Zt → Option Zv → Prop} (K : Int → Zl → List Zv → Zt → Prop) : sx_ K P [.iload 2, .iconst (-1), .if_icmp .eq 149, .aload 0, .tableswitch 0 11 52 #[], .iload 2, .iaload, .istore 4, .aload 0, .iload 1, .aload 0, .tableswitch 0 11 48 #[], .iload 2, .iaload, .aload 0, .tableswitch 0 11 49 #[], .iload 2, .iaload, .aload 0, .tableswitch 0 11 50 #[], .iload 2, .iaload, .aload 0, .tableswitch 0 11 51 #[], .iload 2, .iaload] 67 = x_iload 2 (x_iconst (-1) (x_if_icmp .eq 149 K (x_aload 0 (x_g1 111 252 (x_iload 2 (x_iaload (x_istore 4 (x_aload 0 (x_iload 1 (x_aload 0 (x_g1 111 248 (x_iload 2 (x_iaload (x_aload 0 (x_g1 111 249 (x_iload 2 (x_iaload (x_aload 0 (x_g1 111 250 (x_iload 2 (x_iaload (x_aload 0 (x_g1 111 251 (x_iload 2 (x_iaload (K 67)))))))))))))))))))))))))) := ((xe_iload 2).trans (congrArg (x_iload 2) ((xe_iconst (-1)).trans (congrArg (x_iconst (-1)) ((xe_if_icmp .eq 149).trans (congrArg (x_if_icmp .eq 149 K) ((xe_aload 0).trans (congrArg (x_aload 0) ((xe_g1 (kk := 111) rfl tl_11_52).trans (congrArg (x_g1 111 252) ((xe_iload 2).trans (congrArg (x_iload 2) ((xe_iaload).trans (congrArg (x_iaload) ((xe_istore 4).trans (congrArg (x_istore 4) ((xe_aload 0).trans (congrArg (x_aload 0) ((xe_iload 1).trans (congrArg (x_iload 1) ((xe_aload 0).trans (congrArg (x_aload 0) ((xe_g1 (kk := 111) rfl tl_11_48).trans (congrArg (x_g1 111 248) ((xe_iload 2).trans (congrArg (x_iload 2) ((xe_iaload).trans (congrArg (x_iaload) ((xe_aload 0).trans (congrArg (x_aload 0) ((xe_g1 (kk := 111) rfl tl_11_49).trans (congrArg (x_g1 111 249) ((xe_iload 2).trans (congrArg (x_iload 2) ((xe_iaload).trans (congrArg (x_iaload) ((xe_aload 0).trans (congrArg (x_aload 0) ((xe_g1 (kk := 111) rfl tl_11_50).trans (congrArg (x_g1 111 250) ((xe_iload 2).trans (congrArg (x_iload 2) ((xe_iaload).trans (congrArg (x_iaload) ((xe_aload 0).trans (congrArg (x_aload 0) ((xe_g1 (kk := 111) rfl tl_11_51).trans (congrArg (x_g1 111 251) ((xe_iload 2).trans (congrArg (x_iload 2) ((xe_iaload).trans (congrArg (x_iaload) xe_nil))))))))))))))))))))))))))))))))))))))))))))))))))))
theorem bk_X11_playAnew_e_149 : ck_ fX11 (some .int) cX11_playAnew 149 [.iload 3, .ireturn] 151 = true := qck_r (nn_ _) (by decide +kernel)
theorem bs_X11_playAnew_e_149 {P : Zt → Option Zv → Prop} (K : Int → Zl → List Zv → Zt → Prop) : sx_ K P [.iload 3, .ireturn] 151 = x_iload 3 (x_ireturn P) := ((xe_iload 3).trans (congrArg (x_iload 3) (xe_ireturn)))
theorem bk_X11_playAnew_e_70 : ck_ fX11 (some .int) cX11_playAnew 70 [.ifCond .ne 77, .iconst 1, .goto 78] 77 = true := qck_r (nn_ _) (by decide +kernel)
theorem bs_X11_playAnew_e_70 {P : Zt → Option Zv → Prop} (K : Int → Zl → List Zv → Zt → Prop) : sx_ K P [.ifCond .ne 77, .iconst 1, .goto 78] 77 = x_ifCond .ne 77 K (x_iconst 1 (x_goto 78 K)) := ((xe_ifCond .ne 77).trans (congrArg (x_ifCond .ne 77 K) ((xe_iconst 1).trans (congrArg (x_iconst 1) (xe_goto 78)))))
theorem bk_X11_playAnew_e_77 : ck_ fX11 (some .int) cX11_playAnew 77 [.iconst 0, .istore 5, .aload 0, .iload 1, .iload 2, .iload 5, .ifCond .ne 92, .iconst 1, .goto 93] 92 = true := qck_r (nn_ _) (by decide +kernel)
theorem bs_X11_playAnew_e_77 {P : Zt → Option Zv → Prop} (K : Int → Zl → List Zv → Zt → Prop) : sx_ K P [.iconst 0, .istore 5, .aload 0, .iload 1, .iload 2, .iload 5, .ifCond .ne 92, .iconst 1, .goto 93] 92 = x_iconst 0 (x_istore 5 (x_aload 0 (x_iload 1 (x_iload 2 (x_iload 5 (x_ifCond .ne 92 K (x_iconst 1 (x_goto 93 K)))))))) := ((xe_iconst 0).trans (congrArg (x_iconst 0) ((xe_istore 5).trans (congrArg (x_istore 5) ((xe_aload 0).trans (congrArg (x_aload 0) ((xe_iload 1).trans (congrArg (x_iload 1) ((xe_iload 2).trans (congrArg (x_iload 2) ((xe_iload 5).trans (congrArg (x_iload 5) ((xe_ifCond .ne 92).trans (congrArg (x_ifCond .ne 92 K) ((xe_iconst 1).trans (congrArg (x_iconst 1) (xe_goto 93)))))))))))))))))
theorem bk_X11_playAnew_e_96 : ck_ fX11 (some .int) cX11_playAnew 96 [.iload 5, .ifCond .eq 130, .aload 0, .iload 1, .aload 0, .tableswitch 0 11 48 #[], .iload 2, .iaload, .aload 0, .tableswitch 0 11 49 #[], .iload 2, .iaload, .aload 0, .tableswitch 0 11 50 #[], .iload 2, .iaload, .aload 0, .tableswitch 0 11 51 #[], .iload 2, .iaload] 127 = true := qck_r (nn_ _) (by decide +kernel)
theorem bs_X11_playAnew_e_96 {P : Zt → Option Zv → Prop} (K : Int → Zl → List Zv → Zt → Prop) : sx_ K P [.iload 5, .ifCond .eq 130, .aload 0, .iload 1, .aload 0, .tableswitch 0 11 48 #[], .iload 2, .iaload, .aload 0, .tableswitch 0 11 49 #[], .iload 2, .iaload, .aload 0, .tableswitch 0 11 50 #[], .iload 2, .iaload, .aload 0, .tableswitch 0 11 51 #[], .iload 2, .iaload] 127 = x_iload 5 (x_ifCond .eq 130 K (x_aload 0 (x_iload 1 (x_aload 0 (x_g1 111 248 (x_iload 2 (x_iaload (x_aload 0 (x_g1 111 249 (x_iload 2 (x_iaload (x_aload 0 (x_g1 111 250 (x_iload 2 (x_iaload (x_aload 0 (x_g1 111 251 (x_iload 2 (x_iaload (K 127)))))))))))))))))))) := ((xe_iload 5).trans (congrArg (x_iload 5) ((xe_ifCond .eq 130).trans (congrArg (x_ifCond .eq 130 K) ((xe_aload 0).trans (congrArg (x_aload 0) ((xe_iload 1).trans (congrArg (x_iload 1) ((xe_aload 0).trans (congrArg (x_aload 0) ((xe_g1 (kk := 111) rfl tl_11_48).trans (congrArg (x_g1 111 248) ((xe_iload 2).trans (congrArg (x_iload 2) ((xe_iaload).trans (congrArg (x_iaload) ((xe_aload 0).trans (congrArg (x_aload 0) ((xe_g1 (kk := 111) rfl tl_11_49).trans (congrArg (x_g1 111 249) ((xe_iload 2).trans (congrArg (x_iload 2) ((xe_iaload).trans (congrArg (x_iaload) ((xe_aload 0).trans (congrArg (x_aload 0) ((xe_g1 (kk := 111) rfl tl_11_50).trans (congrArg (x_g1 111 250) ((xe_iload 2).trans (congrArg (x_iload 2) ((xe_iaload).trans (congrArg (x_iaload) ((xe_aload 0).trans (congrArg (x_aload 0) ((xe_g1 (kk := 111) rfl tl_11_51).trans (congrArg (x_g1 111 251) ((xe_iload 2).trans (congrArg (x_iload 2) ((xe_iaload).trans (congrArg (x_iaload) xe_nil))))))))))))))))))))))))))))))))))))))))
theorem bk_X11_playAnew_e_130 : ck_ fX11 (some .int) cX11_playAnew 130 [.iload 3, .iload 5, .ifCond .eq 140, .iconst 0, .goto 141] 140 = true := qck_r (nn_ _) (by decide +kernel)
theorem bs_X11_playAnew_e_130 {P : Zt → Option Zv → Prop} (K : Int → Zl → List Zv → Zt → Prop) : sx_ K P [.iload 3, .iload 5, .ifCond .eq 140, .iconst 0, .goto 141] 140 = x_iload 3 (x_iload 5 (x_ifCond .eq 140 K (x_iconst 0 (x_goto 141 K)))) := ((xe_iload 3).trans (congrArg (x_iload 3) ((xe_iload 5).trans (congrArg (x_iload 5) ((xe_ifCond .eq 140).trans (congrArg (x_ifCond .eq 140 K) ((xe_iconst 0).trans (congrArg (x_iconst 0) (xe_goto 141)))))))))
theorem bk_X11_playAnew_e_140 : ck_ fX11 (some .int) cX11_playAnew 140 [.iconst 1, .iadd, .istore 3, .iload 4, .istore 2, .goto 28] 149 = true := qck_r (nn_ _) (by decide +kernel)
theorem bs_X11_playAnew_e_140 {P : Zt → Option Zv → Prop} (K : Int → Zl → List Zv → Zt → Prop) : sx_ K P [.iconst 1, .iadd, .istore 3, .iload 4, .istore 2, .goto 28] 149 = x_iconst 1 (x_iadd (x_istore 3 (x_iload 4 (x_istore 2 (x_goto 28 K))))) := ((xe_iconst 1).trans (congrArg (x_iconst 1) ((xe_iadd).trans (congrArg (x_iadd) ((xe_istore 3).trans (congrArg (x_istore 3) ((xe_iload 4).trans (congrArg (x_iload 4) ((xe_istore 2).trans (congrArg (x_istore 2) (xe_goto 28)))))))))))
theorem bk_X11_playAnew_e_78 : ck_ fX11 (some .int) cX11_playAnew 78 [.istore 5, .aload 0, .iload 1, .iload 2, .iload 5, .ifCond .ne 92, .iconst 1, .goto 93] 92 = true := qck_r (nn_ _) (by decide +kernel)
theorem bs_X11_playAnew_e_78 {P : Zt → Option Zv → Prop} (K : Int → Zl → List Zv → Zt → Prop) : sx_ K P [.istore 5, .aload 0, .iload 1, .iload 2, .iload 5, .ifCond .ne 92, .iconst 1, .goto 93] 92 = x_istore 5 (x_aload 0 (x_iload 1 (x_iload 2 (x_iload 5 (x_ifCond .ne 92 K (x_iconst 1 (x_goto 93 K))))))) := ((xe_istore 5).trans (congrArg (x_istore 5) ((xe_aload 0).trans (congrArg (x_aload 0) ((xe_iload 1).trans (congrArg (x_iload 1) ((xe_iload 2).trans (congrArg (x_iload 2) ((xe_iload 5).trans (congrArg (x_iload 5) ((xe_ifCond .ne 92).trans (congrArg (x_ifCond .ne 92 K) ((xe_iconst 1).trans (congrArg (x_iconst 1) (xe_goto 93)))))))))))))))
theorem bk_X11_playAnew_e_92 : ck_ fX11 (some .int) cX11_playAnew 92 [.iconst 0] 93 = true := qck_r (nn_ _) (by decide +kernel)
theorem bs_X11_playAnew_e_92 {P : Zt → Option Zv → Prop} (K : Int → Zl → List Zv → Zt → Prop) : sx_ K P [.iconst 0] 93 = x_iconst 0 (K 93) := ((xe_iconst 0).trans (congrArg (x_iconst 0) xe_nil))
theorem bk_X11_playAnew_e_141 : ck_ fX11 (some .int) cX11_playAnew 141 [.iadd, .istore 3, .iload 4, .istore 2, .goto 28] 149 = true := qck_r (nn_ _) (by decide +kernel)
theorem bs_X11_playAnew_e_141 {P : Zt → Option Zv → Prop} (K : Int → Zl → List Zv → Zt → Prop) : sx_ K P [.iadd, .istore 3, .iload 4, .istore 2, .goto 28] 149 = x_iadd (x_istore 3 (x_iload 4 (x_istore 2 (x_goto 28 K)))) := ((xe_iadd).trans (congrArg (x_iadd) ((xe_istore 3).trans (congrArg (x_istore 3) ((xe_iload 4).trans (congrArg (x_iload 4) ((xe_istore 2).trans (congrArg (x_istore 2) (xe_goto 28)))))))))
theorem bk_X11_playAnew_e_0 : ck_ fX11 (some .int) cX11_playAnew 0 [.aload 0, .tableswitch 0 11 53 #[], .iload 1, .iaload, .istore 2, .aload 0, .tableswitch 0 11 53 #[], .iload 1, .iconst (-1), .iastore, .aload 0, .tableswitch 0 11 54 #[], .iload 1, .iconst 0, .iastore, .iconst 0, .istore 3, .aload 0, .iload 1] 25 = true := qck_r (nn_ _) (by decide +kernel)
theorem bs_X11_playAnew_e_0 {P : Zt → Option Zv → Prop} (K : Int → Zl → List Zv → Zt → Prop) : sx_ K P [.aload 0, .tableswitch 0 11 53 #[], .iload 1, .iaload, .istore 2, .aload 0, .tableswitch 0 11 53 #[], .iload 1, .iconst (-1), .iastore, .aload 0, .tableswitch 0 11 54 #[], .iload 1, .iconst 0, .iastore, .iconst 0, .istore 3, .aload 0, .iload 1] 25 = x_aload 0 (x_g1 111 253 (x_iload 1 (x_iaload (x_istore 2 (x_aload 0 (x_g1 111 253 (x_iload 1 (x_iconst (-1) (x_iastore (x_aload 0 (x_g1 111 254 (x_iload 1 (x_iconst 0 (x_iastore (x_iconst 0 (x_istore 3 (x_aload 0 (x_iload 1 (K 25))))))))))))))))))) := ((xe_aload 0).trans (congrArg (x_aload 0) ((xe_g1 (kk := 111) rfl tl_11_53).trans (congrArg (x_g1 111 253) ((xe_iload 1).trans (congrArg (x_iload 1) ((xe_iaload).trans (congrArg (x_iaload) ((xe_istore 2).trans (congrArg (x_istore 2) ((xe_aload 0).trans (congrArg (x_aload 0) ((xe_g1 (kk := 111) rfl tl_11_53).trans (congrArg (x_g1 111 253) ((xe_iload 1).trans (congrArg (x_iload 1) ((xe_iconst (-1)).trans (congrArg (x_iconst (-1)) ((xe_iastore).trans (congrArg (x_iastore) ((xe_aload 0).trans (congrArg (x_aload 0) ((xe_g1 (kk := 111) rfl tl_11_54).trans (congrArg (x_g1 111 254) ((xe_iload 1).trans (congrArg (x_iload 1) ((xe_iconst 0).trans (congrArg (x_iconst 0) ((xe_iastore).trans (congrArg (x_iastore) ((xe_iconst 0).trans (congrArg (x_iconst 0) ((xe_istore 3).trans (congrArg (x_istore 3) ((xe_aload 0).trans (congrArg (x_aload 0) ((xe_iload 1).trans (congrArg (x_iload 1) xe_nil))))))))))))))))))))))))))))))))))))))
abbrev po_X11_playAnew_e (T : Zt) (ru : Int → Int) (m : Int) : Zt → Option Zv → Prop := fun T' r => ∃ x : Int, r = some (vI x) ∧ fr_ [(252, []), (253, []), (255, []), (254, []), (256, []), (244, []), (241, []), (242, []), (243, []), (245, []), (246, []), (236, []), (237, []), (235, [])] T T' ∧ (FM_ T' ∧ RX_ T' [] ∧ ZS_ T' ∧ GX_ T' (-1) ∧ (∀ j, j ≠ m → T' 254 0 j = T 254 0 j ∧ T' 256 0 j = T 256 0 j) ∧ RNR_ ru m x T T' (rw9_ T m) ∧ OMR_ T T' m)
set_option maxHeartbeats 4000000 in
theorem ct_X11_playAnew_e {T : Zt} {ru : Int → Int} {m : Int} (h1 : 0 ≤ m ∧ m < T 111 0 29) (hmc : MC_ T) (hri : RI_ T) (hfm : FM_ T) (hrx : RX_ T []) (hzs : ZS_ T) (hgx : GX_ T m) (hrl : RLR_ T m ru) : Ct_ yX11_playAnew zX11_playAnew T [vR 111 0, vI m] (po_X11_playAnew_e T ru m) := by
  refine ct_of pn_11 rfl rfl (Nat.le_of_ble_eq_true rfl) (fun hT hav => ?_)
  have hr_m : -2147483648 ≤ m ∧ m ≤ 2147483647 := hav (vI m) (List.mem_cons_of_mem _ List.mem_cons_self)
  have hz : zX11_playAnew.2.2.2.1 = some .boolean → ∀ (T' : Zt) (x : Int), po_X11_playAnew_e T ru m T' (some (vI x)) → 0 ≤ x ∧ x ≤ 1 := fun h => by cases h
  have hb_29 : 0 ≤ T 111 0 29 ∧ T 111 0 29 ≤ 400 := bd_f hT 111 29 tl_11_29 0
  have hb_6 : 0 ≤ T 111 0 6 ∧ T 111 0 6 ≤ 4 := bd_f hT 111 6 tl_11_6 0
  have hcm := hmc m (by omega) (by omega)
  have hcb : 0 ≤ T 230 0 m ∧ T 230 0 m ≤ 3 := bd_a hT 230 (by decide +kernel : ta_ 230 = some (1, some 400, 0, 3)) 0 (by omega)
  have hr9 : (1 : Int) ≤ T 205 0 (23 * T 230 0 m + 9) ∧ T 205 0 (23 * T 230 0 m + 9) ≤ (6 : Int) := hri (T 230 0 m) 9 (by omega) (by omega) (by omega) (by omega)
  show J_ zX11_playAnew T (po_X11_playAnew_e T ru m) 0 0 0 [some (vR 111 0), some (vI m), none, none, none, none] [] T
  have c_28 : ∀ (nn : Nat) (w : Int) (cn : Int) (l : List Int) (d : List Rw_) (b0 : Sg_) (T1 : Zt), (l.length) ≤ nn → (fr_ [(252, []), (253, []), (255, []), (254, []), (256, []), (244, []), (241, []), (242, []), (243, []), (245, []), (246, []), (236, []), (237, []), (235, [])] T T1) → (FM_ T1) → (RX_ T1 l) → (lk_ T1 w l) → (SO_ T T1 m) → (0 ≤ T1 254 0 m ∧ T1 254 0 m ≤ 3000) → (SB1_ T1 m (4 * T1 254 0 m + 9)) → (∀ j, j ≠ m → T1 254 0 j = T 254 0 j) → (∀ j, j ≠ m → T1 256 0 j = T 256 0 j) → (0 ≤ cn ∧ cn + (l.length : Int) ≤ 3000) → (rw9_ T m = d ++ l.map (rwc_ T)) → (BGR_ m ru (rp9_ T m) b0) → (rp9_ T1 m = (rnR_ ru m b0 d).1) → (rw9_ T1 m = (rnR_ ru m b0 d).2.1) → (cn = (rnR_ ru m b0 d).2.2) → (T1 256 0 m = T 256 0 m + cn) → (∀ j, j ≠ m → 0 ≤ j → j < T 111 0 29 → rw9_ T1 j = rw9_ T j) → (ro9_ T T1 m) → J_ zX11_playAnew T (po_X11_playAnew_e T ru m) 0 0 28 [some (vR 111 0), some (vI m), some (vI w), some (vI cn), none, none] [] T1 := by
    intro nn
    induction nn using Nat.strongRecOn with
    | _ nn ih_28 =>
      intro w cn l d b0 T1 hm_28 hf_28 fm1 rx1 lk1 so1 rm1 sb1 ro1 ao1 cb1 ed1 bg1 fo1 fo2 fo3 am1 ot1 rq1
      replace hm_28 := fun (_ : Unit) => hm_28
      refine j_blx (F := fX11) tb_X11 (nn_ _) bk_X11_playAnew_e_28 bs_X11_playAnew_e_28 hz (fun K hK => ?_)
      refine And.intro (fun c1 => ?_) (fun c1 => ?_)
      · refine hK 149 _ [] T1 ?_
        refine j_blx (F := fX11) tb_X11 (nn_ _) bk_X11_playAnew_e_149 bs_X11_playAnew_e_149 hz (fun K hK => ?_)
        refine (show po_X11_playAnew_e T ru m T1 (some (vI cn)) from ?_)
        have el : l = [] := by
          cases l with
          | nil => rfl
          | cons y t => exact absurd lk1.1 (by have := lk1.2.1; omega)
        rw [el] at ed1
        have ed2 : rw9_ T m = d := by rw [ed1]; exact List.append_nil d
        rw [← ed2] at fo1 fo2 fo3
        exact ⟨_, rfl, fr_t (fr_0 _ _) (fr_s hf_28 rfl), fm1, rx_nil rx1, zs_o hzs so1 (fun j => hf_28 239 0 j rfl), gx_o hgx so1 sb1 ro1, fun j hj => ⟨ro1 j hj, ao1 j hj⟩, ⟨b0, bg1, fo1, fo2, fo3, am1⟩, rq1, fun j hj j0 j1 => ⟨ot1 j hj j0 j1, ro1 j hj, ao1 j hj⟩⟩
      · obtain ⟨lt, el, hw, hlt⟩ := lk_c lk1 (by omega)
        subst el
        rw [List.length_cons] at cb1
        rw [List.map_cons] at ed1
        refine ix_i (by omega) ?_
        intro b2 b2b
        refine ix_i (by omega) ?_
        intro b3 b3b
        have e4 : T1 248 0 w = T 248 0 w := hf_28 248 0 w rfl
        rw [e4] at b3 b3b ⊢
        refine ix_i (by omega) ?_
        intro b5 b5b
        have e6 : T1 249 0 w = T 249 0 w := hf_28 249 0 w rfl
        rw [e6] at b5 b5b ⊢
        refine ix_i (by omega) ?_
        intro b7 b7b
        have e8 : T1 250 0 w = T 250 0 w := hf_28 250 0 w rfl
        rw [e8] at b7 b7b ⊢
        refine ix_i (by omega) ?_
        intro b9 b9b
        have e10 : T1 251 0 w = T 251 0 w := hf_28 251 0 w rfl
        rw [e10] at b9 b9b ⊢
        refine hK 67 [some (vR 111 0), some (vI m), some (vI w), some (vI cn), some (vI (T1 252 0 w)), none] [vI (T 251 0 w), vI (T 250 0 w), vI (T 249 0 w), vI (T 248 0 w), vI m, vR 111 0] T1 ?_
        refine j_callV (y := yX11_lawOf) (Yc := zX11_lawOf) (rest := []) [vI m, vI (T 248 0 w), vI (T 249 0 w), vI (T 250 0 w), vI (T 251 0 w)] (ct_X11_lawOf_e (T := T1) (ru := ru) (by omega) (rlr_f (ws := [(252, []), (253, []), (255, []), (254, []), (256, []), (244, []), (241, []), (242, []), (243, []), (245, []), (246, []), (236, []), (237, []), (235, [])]) hrl (fr_t (fr_0 _ _) (fr_s hf_28 rfl)) (fun _ => rfl) (fun _ => rfl))) cl_X11_459 (qd_c (by decide +kernel)) (nn_ _) rfl (rf_of rfl) (Nat.le_of_ble_eq_true rfl) (Nat.le_of_ble_eq_true rfl) (Nat.le_of_ble_eq_true rfl) rfl ?_
        rintro _ _ ⟨rfl, x11, rfl, hx11b, hx11, hx11e⟩
        show J_ zX11_playAnew T (po_X11_playAnew_e T ru m) 0 0 70 _ [vI x11] T1
        refine j_blx (F := fX11) tb_X11 (nn_ _) bk_X11_playAnew_e_70 bs_X11_playAnew_e_70 hz (fun K hK => ?_)
        refine And.intro (fun c12 => ?_) (fun c12 => ?_)
        · refine hK 77 _ [] T1 ?_
          refine j_blx (F := fX11) tb_X11 (nn_ _) bk_X11_playAnew_e_77 bs_X11_playAnew_e_77 hz (fun K hK => ?_)
          refine And.intro (fun c13 => ?_) (fun c13 => ?_)
          · exact absurd c13 (by decide)
          · refine hK 93 [some (vR 111 0), some (vI m), some (vI w), some (vI cn), some (vI (T1 252 0 w)), some (vI 0)] [vI 1, vI w, vI m, vR 111 0] T1 ?_
            have e14 : T1 111 0 29 = T 111 0 29 := hf_28 111 0 29 rfl
            refine j_callV (y := yX11_putBehind) (Yc := zX11_putBehind) (rest := []) [vI m, vI w, vI 1] (ct_X11_putBehind_1_e (T := T1) (rest := lt) (by omega) (rx1)) cl_X11_466 (qd_c (by decide +kernel)) (nn_ _) rfl (rf_of rfl) (Nat.le_of_ble_eq_true rfl) (Nat.le_of_ble_eq_true rfl) (Nat.le_of_ble_eq_true rfl) rfl ?_
            rintro U15 _ ⟨rfl, fU15, qU15a, qU15b, qU15c, qU15d, qU15e, qU15g, qU15m, qU15r, qU15s⟩
            show J_ zX11_playAnew T (po_X11_playAnew_e T ru m) 0 0 96 _ [] U15
            refine j_blx (F := fX11) tb_X11 (nn_ _) bk_X11_playAnew_e_96 bs_X11_playAnew_e_96 hz (fun K hK => ?_)
            refine And.intro (fun c16 => ?_) (fun c16 => ?_)
            · refine hK 130 _ [] U15 ?_
              refine j_blx (F := fX11) tb_X11 (nn_ _) bk_X11_playAnew_e_130 bs_X11_playAnew_e_130 hz (fun K hK => ?_)
              refine And.intro (fun c17 => ?_) (fun c17 => ?_)
              · refine hK 140 _ [vI cn] U15 ?_
                refine j_blx (F := fX11) tb_X11 (nn_ _) bk_X11_playAnew_e_140 bs_X11_playAnew_e_140 hz (fun K hK => ?_)
                refine rg_i (by omega) ?_
                refine hK 28 [some (vR 111 0), some (vI m), some (vI (T1 252 0 w)), some (vI (cn + 1)), some (vI (T1 252 0 w)), some (vI 0)] [] U15 ?_
                have ec1 : rwc_ T1 = rwc_ T := cl_k (fun k j h => hf_28 k 0 j (by rcases h with rfl | rfl | rfl | rfl <;> rfl))
                have en2 : rnR_ ru m b0 (d ++ [rwc_ T w]) = ((rnR_ ru m b0 d).1, (rnR_ ru m b0 d).2.1, (rnR_ ru m b0 d).2.2 + 1) := by
                  rw [rnR_a]
                  show stR_ ru m (rnR_ ru m b0 d) (T 248 0 w, T 249 0 w, T 250 0 w, T 251 0 w) = _
                  exact stR_f (by rw [← fo1]; omega)
                have fa : rp9_ U15 m = (rnR_ ru m b0 (d ++ [rwc_ T w])).1 := by
                  rw [en2, rp_x (T := T1) (T1 := U15) (m := m) (fun K j h => fU15 K 0 j (by rcases h with rfl | rfl | rfl | rfl | rfl | rfl | rfl | rfl | rfl | rfl | rfl <;> rfl))]
                  exact fo1
                have fb : rw9_ U15 m = (rnR_ ru m b0 (d ++ [rwc_ T w])).2.1 := by
                  rw [en2, qU15r]
                  exact fo2
                have fc : cn + 1 = (rnR_ ru m b0 (d ++ [rwc_ T w])).2.2 := by
                  rw [en2]
                  show cn + 1 = (rnR_ ru m b0 d).2.2 + 1
                  omega
                have am : U15 256 0 m = T 256 0 m + (cn + 1) := by rw [qU15m, am1]; omega
                have ot : ∀ j, j ≠ m → 0 ≤ j → j < T 111 0 29 → rw9_ U15 j = rw9_ T j := fun j hj j0 j1 => (qU15s j hj j0 (by have := hf_28 111 0 29 rfl; omega)).trans (ot1 j hj j0 j1)
                have rq : ro9_ T U15 m := ro_t rq1 (rp_xo (fun K j h => fU15 K 0 j (by rcases h with rfl | rfl | rfl | rfl | rfl | rfl | rfl | rfl | rfl | rfl | rfl <;> rfl)))
                refine j_drq [some (vR 111 0), some (vI m), some (vI (T1 252 0 w)), some (vI (cn + 1)), none, none] (drq_s (drq_s (drq_s (drq_s (drq_n (drq_n drq_0)))))) ?_
                refine ih_28 _ ?_ (T1 252 0 w) (cn + 1) lt (d ++ [rwc_ T w]) b0 U15 (Nat.le_refl _) ?_ ?_ ?_ ?_ ?_ ?_ ?_ ?_ ?_ ?_ ?_ ?_ ?_ ?_ ?_ ?_ ?_ ?_
                · have hm_28 := hm_28 (); simp only [List.length_cons] at hm_28; omega
                · exact fr_t (fr_t (fr_0 _ _) (fr_s hf_28 rfl)) (fr_s fU15 rfl)
                · exact FM__f (ws := [(252, []), (255, []), (254, []), (256, [])]) (fm1) fU15 ⟨fun _ => rfl, fun _ => rfl, trivial⟩
                · exact qU15a
                · exact lk_e hlt qU15b
                · exact so_f (ws := [(252, []), (255, []), (254, []), (256, [])]) (so1) fU15 ⟨fun _ => rfl, fun _ => rfl, fun _ => rfl⟩
                · have e7 := qU15c
                  have e8 := qU15e
                  omega
                · have e7 := qU15c
                  exact sb1_m (sb1_f (ws := [(252, []), (255, []), (254, []), (256, [])]) (sb1) fU15 ⟨fun _ => rfl, fun _ => rfl, fun _ => rfl⟩) (by omega)
                · intro j hj
                  exact (qU15d j hj).trans (ro1 j hj)
                · intro j hj
                  exact (qU15g j hj).trans (ao1 j hj)
                · omega
                · rw [ed1, List.append_assoc]
                  (try rfl)
                · exact bg1
                · exact fa
                · exact fb
                · exact fc
                · exact am
                · exact ot
                · exact rq
              · exact absurd c17 (by decide)
            · exact absurd c16 (by decide)
        · have hlw := hx11 (by omega)
          refine hK 78 _ [vI 1] T1 ?_
          refine j_blx (F := fX11) tb_X11 (nn_ _) bk_X11_playAnew_e_78 bs_X11_playAnew_e_78 hz (fun K hK => ?_)
          refine And.intro (fun c18 => ?_) (fun c18 => ?_)
          · refine hK 92 [some (vR 111 0), some (vI m), some (vI w), some (vI cn), some (vI (T1 252 0 w)), some (vI 1)] [vI w, vI m, vR 111 0] T1 ?_
            refine j_blx (F := fX11) tb_X11 (nn_ _) bk_X11_playAnew_e_92 bs_X11_playAnew_e_92 hz (fun K hK => ?_)
            refine hK 93 _ [vI 0, vI w, vI m, vR 111 0] T1 ?_
            have e19 : T1 111 0 29 = T 111 0 29 := hf_28 111 0 29 rfl
            refine j_callV (y := yX11_putBehind) (Yc := zX11_putBehind) (rest := []) [vI m, vI w, vI 0] (ct_X11_putBehind_0_e (T := T1) (rest := lt) (by omega) (rx1)) cl_X11_466 (qd_c (by decide +kernel)) (nn_ _) rfl (rf_of rfl) (Nat.le_of_ble_eq_true rfl) (Nat.le_of_ble_eq_true rfl) (Nat.le_of_ble_eq_true rfl) rfl ?_
            rintro U20 _ ⟨rfl, fU20, qU20a, qU20b, qU20c, qU20d, qU20e, qU20g, qU20m, qU20r, qU20s⟩
            show J_ zX11_playAnew T (po_X11_playAnew_e T ru m) 0 0 96 _ [] U20
            refine j_blx (F := fX11) tb_X11 (nn_ _) bk_X11_playAnew_e_96 bs_X11_playAnew_e_96 hz (fun K hK => ?_)
            refine And.intro (fun c21 => ?_) (fun c21 => ?_)
            · exact absurd c21 (by decide)
            · refine ix_i (by omega) ?_
              intro b22 b22b
              have e23 : U20 248 0 w = T 248 0 w := (fU20 248 0 w rfl).trans (hf_28 248 0 w rfl)
              rw [e23] at b22 b22b ⊢
              refine ix_i (by omega) ?_
              intro b24 b24b
              have e25 : U20 249 0 w = T 249 0 w := (fU20 249 0 w rfl).trans (hf_28 249 0 w rfl)
              rw [e25] at b24 b24b ⊢
              refine ix_i (by omega) ?_
              intro b26 b26b
              have e27 : U20 250 0 w = T 250 0 w := (fU20 250 0 w rfl).trans (hf_28 250 0 w rfl)
              rw [e27] at b26 b26b ⊢
              refine ix_i (by omega) ?_
              intro b28 b28b
              have e29 : U20 251 0 w = T 251 0 w := (fU20 251 0 w rfl).trans (hf_28 251 0 w rfl)
              rw [e29] at b28 b28b ⊢
              refine hK 127 _ [vI (T 251 0 w), vI (T 250 0 w), vI (T 249 0 w), vI (T 248 0 w), vI m, vR 111 0] U20 ?_
              have e30 : U20 111 0 29 = T 111 0 29 := (fU20 111 0 29 rfl).trans (hf_28 111 0 29 rfl)
              have fy : fr_ [(252, []), (253, []), (254, []), (256, [])] T1 U20 := fr_t (fr_0 _ _) (fr_s fU20 rfl)
              refine j_callV (y := yX11_play) (Yc := zX11_play) (rest := []) [vI m, vI (T 248 0 w), vI (T 249 0 w), vI (T 250 0 w), vI (T 251 0 w)] (ct_X11_play_e (T := U20) (ru := ru) (bu := 4 * T1 254 0 m + 9) (by omega) (by exact MC__f (ws := [(252, []), (253, []), (254, []), (256, []), (255, []), (244, []), (241, []), (242, []), (243, []), (245, []), (246, []), (236, []), (237, []), (235, [])]) hmc (fr_t (fr_t (fr_0 _ _) (fr_s hf_28 rfl)) (fr_s fU20 rfl)) ⟨fun _ => rfl, rfl, rfl, trivial⟩) (by exact RI__f (ws := [(252, []), (253, []), (254, []), (256, []), (255, []), (244, []), (241, []), (242, []), (243, []), (245, []), (246, []), (236, []), (237, []), (235, [])]) hri (fr_t (fr_t (fr_0 _ _) (fr_s hf_28 rfl)) (fr_s fU20 rfl)) ⟨fun _ => rfl, rfl, trivial⟩) (by exact FM__f (ws := [(252, []), (253, []), (254, []), (256, [])]) (fm1) fU20 ⟨fun _ => rfl, fun _ => rfl, trivial⟩) (by exact LW_f hlw (fun k j h => fy k 0 j (by rcases h with rfl | rfl | rfl | rfl | rfl <;> rfl))) (rlr_f (ws := [(252, []), (253, []), (254, []), (256, []), (255, []), (244, []), (241, []), (242, []), (243, []), (245, []), (246, []), (236, []), (237, []), (235, [])]) hrl (fr_t (fr_t (fr_0 _ _) (fr_s hf_28 rfl)) (fr_s fU20 rfl)) (fun _ => rfl) (fun _ => rfl)) (by omega) (sb1_f (ws := [(252, []), (253, []), (254, []), (256, [])]) (sb1) fU20 ⟨fun _ => rfl, fun _ => rfl, fun _ => rfl⟩)) cl_X11_470 (qd_c (by decide +kernel)) (nn_ _) rfl (rf_of rfl) (Nat.le_of_ble_eq_true rfl) (Nat.le_of_ble_eq_true rfl) (Nat.le_of_ble_eq_true rfl) rfl ?_
              rintro U31 _ ⟨rfl, fU31, ⟨qU31, qU31o, qU31b, qU31p, qU31e⟩⟩
              show J_ zX11_playAnew T (po_X11_playAnew_e T ru m) 0 0 130 _ [] U31
              refine j_blx (F := fX11) tb_X11 (nn_ _) bk_X11_playAnew_e_130 bs_X11_playAnew_e_130 hz (fun K hK => ?_)
              refine And.intro (fun c32 => ?_) (fun c32 => ?_)
              · exact absurd c32 (by decide)
              · refine hK 141 _ [vI 0, vI cn] U31 ?_
                refine j_blx (F := fX11) tb_X11 (nn_ _) bk_X11_playAnew_e_141 bs_X11_playAnew_e_141 hz (fun K hK => ?_)
                refine rg_i (by omega) ?_
                refine hK 28 [some (vR 111 0), some (vI m), some (vI (T1 252 0 w)), some (vI (cn + 0)), some (vI (T1 252 0 w)), some (vI 1)] [] U31 ?_
                have ec1 : rwc_ T1 = rwc_ T := cl_k (fun k j h => hf_28 k 0 j (by rcases h with rfl | rfl | rfl | rfl <;> rfl))
                have en2 : rnR_ ru m b0 (d ++ [rwc_ T w]) = (plR_ ru (rnR_ ru m b0 d).1 m (T 248 0 w) (T 249 0 w) (T 250 0 w) (T 251 0 w), (rnR_ ru m b0 d).2.1 ++ [rwc_ T w], (rnR_ ru m b0 d).2.2) := by
                  rw [rnR_a]
                  show stR_ ru m (rnR_ ru m b0 d) (T 248 0 w, T 249 0 w, T 250 0 w, T 251 0 w) = _
                  exact stR_t (by rw [← fo1]; omega)
                have fa : rp9_ U31 m = (rnR_ ru m b0 (d ++ [rwc_ T w])).1 := by
                  rw [en2, qU31e, rp_x (T := T1) (T1 := U20) (m := m) (fun K j h => fU20 K 0 j (by rcases h with rfl | rfl | rfl | rfl | rfl | rfl | rfl | rfl | rfl | rfl | rfl <;> rfl)), fo1]
                have fb : rw9_ U31 m = (rnR_ ru m b0 (d ++ [rwc_ T w])).2.1 := by
                  rw [en2, show rw9_ U31 m = rw9_ U20 m from rw_k (fun k x h => fU31 k 0 x (by rcases h with rfl | rfl | rfl | rfl <;> rfl)) (fun x => fU31 252 0 x rfl) (fU31 253 0 _ rfl) (fU31 254 0 _ rfl), qU20r, ec1, fo2]
                have fc : cn + 0 = (rnR_ ru m b0 (d ++ [rwc_ T w])).2.2 := by
                  rw [en2]
                  show cn + 0 = (rnR_ ru m b0 d).2.2
                  omega
                have am : U31 256 0 m = T 256 0 m + (cn + 0) := by rw [fU31 256 0 m rfl, qU20m, am1]; omega
                have ot : ∀ j, j ≠ m → 0 ≤ j → j < T 111 0 29 → rw9_ U31 j = rw9_ T j := fun j hj j0 j1 => (rw_k (fun k x h => fU31 k 0 x (by rcases h with rfl | rfl | rfl | rfl <;> rfl)) (fun x => fU31 252 0 x rfl) (fU31 253 0 _ rfl) (fU31 254 0 _ rfl)).trans ((qU20s j hj j0 (by have := hf_28 111 0 29 rfl; omega)).trans (ot1 j hj j0 j1))
                have rq : ro9_ T U31 m := ro_t (ro_t rq1 (rp_xo (fun K j h => fU20 K 0 j (by rcases h with rfl | rfl | rfl | rfl | rfl | rfl | rfl | rfl | rfl | rfl | rfl <;> rfl)))) qU31p
                refine j_drq [some (vR 111 0), some (vI m), some (vI (T1 252 0 w)), some (vI (cn + 0)), none, none] (drq_s (drq_s (drq_s (drq_s (drq_n (drq_n drq_0)))))) ?_
                have e33 : U31 254 0 m = U20 254 0 m := fU31 254 0 m rfl
                have e34 : U31 256 0 m = U20 256 0 m := fU31 256 0 m rfl
                refine ih_28 _ ?_ (T1 252 0 w) (cn + 0) lt (d ++ [rwc_ T w]) b0 U31 (Nat.le_refl _) ?_ ?_ ?_ ?_ ?_ ?_ ?_ ?_ ?_ ?_ ?_ ?_ ?_ ?_ ?_ ?_ ?_ ?_
                · have hm_28 := hm_28 (); simp only [List.length_cons] at hm_28; omega
                · exact fr_t (fr_t (fr_t (fr_0 _ _) (fr_s hf_28 rfl)) (fr_s fU20 rfl)) (fr_s fU31 rfl)
                · exact qU31
                · exact rx_f (qU20a) (fU31 111 0 29 rfl) (fU31 111 0 47 rfl) (fun k j h => fU31 k 0 j (by rcases h with rfl | rfl | rfl | rfl | rfl <;> rfl))
                · exact lk_e (lk_e hlt qU20b) (fun x _ => fU31 252 0 x rfl)
                · exact so_t (so_f (ws := [(252, []), (253, []), (254, []), (256, [])]) (so1) fU20 ⟨fun _ => rfl, fun _ => rfl, fun _ => rfl⟩) qU31o (fun j => (fU20 239 0 j rfl).trans (hf_28 239 0 j rfl))
                · have e7 := (fU31 254 0 m rfl).trans qU20c
                  have e8 := qU20e
                  have e9 := fU31 254 0 m rfl
                  omega
                · have e7 := (fU31 254 0 m rfl).trans qU20c
                  exact sb1_m (qU31b) (by omega)
                · intro j hj
                  exact (fU31 254 0 j rfl).trans ((qU20d j hj).trans (ro1 j hj))
                · intro j hj
                  exact (fU31 256 0 j rfl).trans ((qU20g j hj).trans (ao1 j hj))
                · omega
                · rw [ed1, List.append_assoc]
                  (try rfl)
                · exact bg1
                · exact fa
                · exact fb
                · exact fc
                · exact am
                · exact ot
                · exact rq
          · exact absurd c18 (by decide)
  refine j_blx (F := fX11) tb_X11 (nn_ _) bk_X11_playAnew_e_0 bs_X11_playAnew_e_0 hz (fun K hK => ?_)
  refine ix_i (by omega) ?_
  intro b35 b35b
  refine iy_i (by omega) (by omega) ?_
  refine x_nm (fun U36 hU36 => ?_)
  have e37 := up_f hU36
  refine iy_i (by omega) (by omega) ?_
  refine x_nm (fun U38 hU38 => ?_)
  have e39 := up_f hU38
  refine hK 25 [some (vR 111 0), some (vI m), some (vI (T 253 0 m)), some (vI 0), none, none] [vI m, vR 111 0] U38 ?_
  have fz : fr_ [(254, []), (253, [])] T U38 := fr_u (fr_u (fr_0 _ _) hU36 rfl) hU38 rfl
  have hry := hrx
  obtain ⟨L, hB, hR⟩ := hry
  have rt := rb_take (T' := U38) hB h1 (fz 111 0 29 rfl) (fz 111 0 47 rfl) (fun z => fz 252 0 z rfl) (fun j hj => (up_k hU38 (by exact Nat.ne_of_beq_eq_false rfl) 0 j).trans (up_g hU36 (fun q => hj q.2.2))) (fun j hj => (up_g hU38 (fun q => hj q.2.2)).trans (up_k hU36 (by exact Nat.ne_of_beq_eq_false rfl) 0 j)) (fun j => fz 255 0 j rfl) (fun j => fz 256 0 j rfl) ((up_k hU38 (by exact Nat.ne_of_beq_eq_false rfl) 0 m).trans (up_f hU36)) (up_f hU38)
  have rx0 : RX_ U38 (L m 0) := ⟨_, rt.1, rt.2.1⟩
  have lk0 := rt.2.2
  have rw0 := rw_t hB rt.1 (fz 111 0 29 rfl) (cl_k (fun k j h => fz k 0 j (by rcases h with rfl | rfl | rfl | rfl <;> rfl))) h1.1 h1.2
  have hlm : T 254 0 m = ((L m 0).length : Int) := (hB.1 m 0 (by omega) (by omega) (by decide) (by decide)).2
  have rwT := rw_l hB (m := m) h1.1 h1.2
  have hrn : 0 ≤ T 254 0 m ∧ T 254 0 m ≤ 3000 := bd_a hT 254 (by decide +kernel : ta_ 254 = some (1, some 400, 0, 3000)) 0 (by omega)
  have e40 : U38 111 0 29 = T 111 0 29 := (up_k hU38 (by exact Nat.ne_of_beq_eq_false rfl) 0 29).trans (up_k hU36 (by exact Nat.ne_of_beq_eq_false rfl) 0 29)
  refine j_callV (y := yX11_layBeginning) (Yc := zX11_layBeginning) (rest := []) [vI m] (ct_X11_layBeginning_e (T := U38) (by omega) (MC__f (ws := [(254, []), (253, [])]) hmc (fr_u (fr_u (fr_0 _ _) hU36 rfl) hU38 rfl) ⟨fun _ => rfl, rfl, rfl, trivial⟩) (RI__f (ws := [(254, []), (253, [])]) hri (fr_u (fr_u (fr_0 _ _) hU36 rfl) hU38 rfl) ⟨fun _ => rfl, rfl, trivial⟩) (FM__f (ws := [(254, [])]) (FM__f (ws := [(253, [])]) (hfm) (fr_u (fr_0 _ _) hU36 rfl) ⟨fun _ => rfl, fun _ => rfl, trivial⟩) (fr_u (fr_0 _ _) hU38 rfl) ⟨fun _ => rfl, fun _ => rfl, trivial⟩) (ZS__f (ws := [(254, []), (253, [])]) hzs (fr_u (fr_u (fr_0 _ _) hU36 rfl) hU38 rfl) ⟨fun _ => rfl, fun _ => rfl, trivial⟩)) cl_X11_390 (qd_c (by decide +kernel)) (nn_ _) rfl (rf_of rfl) (Nat.le_of_ble_eq_true rfl) (Nat.le_of_ble_eq_true rfl) (Nat.le_of_ble_eq_true rfl) rfl ?_
  rintro U41 _ ⟨rfl, fU41, qU41, qU41o, qU41b, l1U41, l2U41, l3U41, l4U41, l5U41, l6U41, l7U41, l8U41, qU41p⟩
  show J_ zX11_playAnew T (po_X11_playAnew_e T ru m) 0 0 28 _ [] U41
  have hrU : RLR_ U38 m ru := rlr_f (ws := [(254, []), (253, [])]) hrl (fr_u (fr_u (fr_0 _ _) hU36 rfl) hU38 rfl) (fun _ => rfl) (fun _ => rfl)
  have e9 := hrl 9 (by decide) (by decide)
  have bg0 := bg_l (T := U38) (T' := U41) (m := m) hrU (by omega) (fun t a b => by rw [fz 239 0 _ rfl]; exact bd_a hT 239 (by decide +kernel : ta_ 239 = some (1, some 800, 0, 10)) 0 (by omega)) (fun j => fU41 239 0 j rfl) (fun j => fU41 240 0 j rfl) l1U41 l2U41 l3U41 l4U41 l5U41 l6U41 l7U41 l8U41
  rw [rp_x (T := T) (T1 := U38) (m := m) (fun K j h => fz K 0 j (by rcases h with rfl | rfl | rfl | rfl | rfl | rfl | rfl | rfl | rfl | rfl | rfl <;> rfl))] at bg0
  have e42 : U41 254 0 m = 0 := (fU41 254 0 m rfl).trans (up_f hU38)
  have e43 : U41 256 0 m = T 256 0 m := (fU41 256 0 m rfl).trans ((up_k hU38 (by exact Nat.ne_of_beq_eq_false rfl) 0 m).trans (up_k hU36 (by exact Nat.ne_of_beq_eq_false rfl) 0 m))
  refine c_28 _ (T 253 0 m) 0 (L m 0) ([]) (rp9_ U41 m) U41 (Nat.le_refl _) ?_ ?_ ?_ ?_ ?_ ?_ ?_ ?_ ?_ ?_ ?_ ?_ ?_ ?_ ?_ ?_ ?_ ?_
  · exact fr_t (fr_u (fr_u (fr_0 _ _) hU36 rfl) hU38 rfl) (fr_s fU41 rfl)
  · exact qU41
  · exact rx_f (rx0) (fU41 111 0 29 rfl) (fU41 111 0 47 rfl) (fun k j h => fU41 k 0 j (by rcases h with rfl | rfl | rfl | rfl | rfl <;> rfl))
  · exact lk_e lk0 (fun x _ => fU41 252 0 x rfl)
  · exact so_t (so_f (ws := [(254, [])]) (so_f (ws := [(253, [])]) (so_r) (fr_u (fr_0 _ _) hU36 rfl) ⟨fun _ => rfl, fun _ => rfl, fun _ => rfl⟩) (fr_u (fr_0 _ _) hU38 rfl) ⟨fun _ => rfl, fun _ => rfl, fun _ => rfl⟩) qU41o (fun j => (up_k hU38 (by exact Nat.ne_of_beq_eq_false rfl) 0 j).trans (up_k hU36 (by exact Nat.ne_of_beq_eq_false rfl) 0 j))
  · have e7 : U41 254 0 m = 0 := (fU41 254 0 m rfl).trans (up_f hU38)
    omega
  · have e7 : U41 254 0 m = 0 := (fU41 254 0 m rfl).trans (up_f hU38)
    exact sb1_m qU41b (by omega)
  · intro j hj
    exact (fU41 254 0 j rfl).trans ((up_g hU38 (fun q => hj q.2.2)).trans (up_k hU36 (by exact Nat.ne_of_beq_eq_false rfl) 0 j))
  · intro j hj
    exact (fU41 256 0 j rfl).trans ((up_k hU38 (by exact Nat.ne_of_beq_eq_false rfl) 0 j).trans (up_k hU36 (by exact Nat.ne_of_beq_eq_false rfl) 0 j))
  · omega
  · exact rwT
  · exact bg0
  · exact rfl
  · exact (rw_k (fun k x h => fU41 k 0 x (by rcases h with rfl | rfl | rfl | rfl <;> rfl)) (fun x => fU41 252 0 x rfl) (fU41 253 0 _ rfl) (fU41 254 0 _ rfl)).trans rw0.1
  · exact rfl
  · rw [fU41 256 0 m rfl, fz 256 0 m rfl]; omega
  · exact fun j hj j0 j1 => (rw_k (fun k x h => fU41 k 0 x (by rcases h with rfl | rfl | rfl | rfl <;> rfl)) (fun x => fU41 252 0 x rfl) (fU41 253 0 _ rfl) (fU41 254 0 _ rfl)).trans (rw0.2 j hj j0 j1)
  · exact ro_t (rp_xo (fun K j h => fz K 0 j (by rcases h with rfl | rfl | rfl | rfl | rfl | rfl | rfl | rfl | rfl | rfl | rfl <;> rfl))) qU41p
