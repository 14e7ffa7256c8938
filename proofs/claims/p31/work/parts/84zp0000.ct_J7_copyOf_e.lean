theorem cp_i {T U : Zt} {a b n j : Int} (h : U = cp_ T a b n) (h0 : 0 ≤ j) (h1 : j < n) : U 190 b j = T 190 a j := by
  rw [h]
  unfold cp_
  exact if_pos ⟨rfl, rfl, h0, h1⟩
theorem ra_k {T T' : Zt} {a i : Int} (h : ∀ j, T' 190 a j = T 190 a j) : ra9_ T' a i = ra9_ T a i := ra_e (fun _ _ _ => h _)
/-- a frame that leaves the cells of a play alone -/
theorem rs_w {ws : List (Nat × List Int)} {T T1 : Zt} {p : Int} (f : fr_ ws T T1) (w : ∀ (k : Nat) (j : Int), dk_ k j = true → fw_ ws k j = false) : rs9_ T1 p = rs9_ T p := rs_n (fun k j d => f k p j (w k j d))
theorem bk_J7_copyOf_e_0 : ck_ fJ7 (some (.array .int)) cJ7_copyOf_59c91 0 [.iload 1, .aload 0, .arraylength, .if_icmp .ne 14, .aload 0] 7 = true := qck_r (nn_ _) (by decide +kernel)
theorem bs_J7_copyOf_e_0 {P : Zt → Option Zv → Prop} (K : Int → Zl → List Zv → Zt → Prop) : sx_ K P [.iload 1, .aload 0, .arraylength, .if_icmp .ne 14, .aload 0] 7 = x_iload 1 (x_aload 0 (x_arraylength (x_if_icmp .ne 14 K (x_aload 0 (K 7))))) := ((xe_iload 1).trans (congrArg (x_iload 1) ((xe_aload 0).trans (congrArg (x_aload 0) ((xe_arraylength).trans (congrArg (x_arraylength) ((xe_if_icmp .ne 14).trans (congrArg (x_if_icmp .ne 14 K) ((xe_aload 0).trans (congrArg (x_aload 0) xe_nil))))))))))
theorem bk_J7_copyOf_e_14 : ck_ fJ7 (some (.array .int)) cJ7_copyOf_59c91 14 [.iload 1] 15 = true := qck_r (nn_ _) (by decide +kernel)
theorem bs_J7_copyOf_e_14 {P : Zt → Option Zv → Prop} (K : Int → Zl → List Zv → Zt → Prop) : sx_ K P [.iload 1] 15 = x_iload 1 (K 15) := ((xe_iload 1).trans (congrArg (x_iload 1) xe_nil))
theorem bk_J7_copyOf_e_17 : ck_ fJ7 (some (.array .int)) cJ7_copyOf_59c91 17 [.astore 2, .aload 0, .iconst 0, .aload 2, .iconst 0, .aload 0, .arraylength, .iload 1] 25 = true := qck_r (nn_ _) (by decide +kernel)
theorem bs_J7_copyOf_e_17 {P : Zt → Option Zv → Prop} (K : Int → Zl → List Zv → Zt → Prop) : sx_ K P [.astore 2, .aload 0, .iconst 0, .aload 2, .iconst 0, .aload 0, .arraylength, .iload 1] 25 = x_astore 2 (x_aload 0 (x_iconst 0 (x_aload 2 (x_iconst 0 (x_aload 0 (x_arraylength (x_iload 1 (K 25)))))))) := ((xe_astore 2).trans (congrArg (x_astore 2) ((xe_aload 0).trans (congrArg (x_aload 0) ((xe_iconst 0).trans (congrArg (x_iconst 0) ((xe_aload 2).trans (congrArg (x_aload 2) ((xe_iconst 0).trans (congrArg (x_iconst 0) ((xe_aload 0).trans (congrArg (x_aload 0) ((xe_arraylength).trans (congrArg (x_arraylength) ((xe_iload 1).trans (congrArg (x_iload 1) xe_nil))))))))))))))))
theorem bk_J7_copyOf_e_31 : ck_ fJ7 (some (.array .int)) cJ7_copyOf_59c91 31 [.aload 2] 32 = true := qck_r (nn_ _) (by decide +kernel)
theorem bs_J7_copyOf_e_31 {P : Zt → Option Zv → Prop} (K : Int → Zl → List Zv → Zt → Prop) : sx_ K P [.aload 2] 32 = x_aload 2 (K 32) := ((xe_aload 2).trans (congrArg (x_aload 2) xe_nil))
abbrev po_J7_copyOf_e (T : Zt) (sl : Nat) (a : Int) (n : Int) : Zt → Option Zv → Prop := fun T' r => r = some (vR 190 (T 191 0 0)) ∧ fr_ [(190, []), (191, [0])] T T' ∧ T' 191 0 0 = T 191 0 0 + 1 ∧ T' 190 (T 191 0 0) (-2) = n ∧ (∀ x j, x ≠ T 191 0 0 → T' 190 x j = T 190 x j) ∧ ∀ j, 0 ≤ j → j < T 190 a (-2) → T' 190 (T 191 0 0) j = T 190 a j
set_option maxHeartbeats 4000000 in
theorem ct_J7_copyOf_e {T : Zt} {sl : Nat} {a : Int} {n : Int} (h1 : T 190 a (-2) < n ∧ n ≤ 100000 ∧ 0 ≤ T 190 a (-2)) (h2 : n.toNat ≤ 2 * sl) (h3 : a < T 191 0 0) : Ct_ yJ7_copyOf_59c91 (zJ7_copyOf_59c91 sl) T [vR 190 a, vI n] (po_J7_copyOf_e T sl a n) := by
  refine ct_of (by decide) rfl rfl (Nat.le_of_ble_eq_true rfl) (fun hT hav => ?_) (hi := fun h => absurd ((im_ev _).symm.trans h) (by decide))
  have hr_n : -2147483648 ≤ n ∧ n ≤ 2147483647 := hav (vI n) (List.mem_cons_of_mem _ List.mem_cons_self)
  have hz : (zJ7_copyOf_59c91 sl).2.2.2.1 = some .boolean → ∀ (T' : Zt) (x : Int), po_J7_copyOf_e T sl a n T' (some (vI x)) → 0 ≤ x ∧ x ≤ 1 := fun h => by cases h
  show J_ (zJ7_copyOf_59c91 sl) T (po_J7_copyOf_e T sl a n) 1 (2 * sl) 0 [some (vR 190 a), some (vI n), none] [] T
  refine j_blx (F := fJ7) tb_J7 (nn_ _) bk_J7_copyOf_e_0 bs_J7_copyOf_e_0 hz (fun K hK => ?_)
  intro b1 b1b
  refine And.intro (fun c2 => ?_) (fun c2 => ?_)
  · refine hK 14 _ [] T ?_
    refine j_blx (F := fJ7) tb_J7 (nn_ _) bk_J7_copyOf_e_14 bs_J7_copyOf_e_14 hz (fun K hK => ?_)
    refine hK 15 _ [vI n] T ?_
    refine j_newL (bc' := 0) (bs' := 0) (pc := 15) (by decide) (by omega) (by omega) (by omega) (by show decode cJ7_copyOf_59c91 (Int.toNat 15) = _; decide +kernel) (lwq_1 (dqc_m (dqc_m (dqa_m (List.mem_of_getElem? (i := 0) rfl)))) rfl : Cond.arrayClass .int ∈ lw_g) ?_
    refine j_nm (fun U3 hU3 => ?_)
    have fU3 := nv_fr hU3
    have aU3 := nv_t9 hU3
    have lU3 := nv_tl hU3
    have oU3 := nv_to hU3
    show J_ (zJ7_copyOf_59c91 sl) T (po_J7_copyOf_e T sl a n) 0 0 17 _ [vR 190 (T 191 0 0)] U3
    refine j_blx (F := fJ7) tb_J7 (nn_ _) bk_J7_copyOf_e_17 bs_J7_copyOf_e_17 hz (fun K hK => ?_)
    have y8 : U3 190 a (-2) = T 190 a (-2) := oU3 a (-2) (by omega)
    intro b4 b4b
    refine hK 25 [some (vR 190 a), some (vI n), some (vR 190 (T 191 0 0))] [vI n, vI (U3 190 a (-2)), vI 0, vR 190 (T 191 0 0), vI 0, vR 190 a] U3 ?_
    obtain ⟨x5, e6, hx5⟩ : ∃ x5 : Int, (if n < (U3 190 a (-2)) then n else (U3 190 a (-2))) = x5 ∧ ((x5 = U3 190 a (-2) ∨ x5 = n) ∧ x5 ≤ U3 190 a (-2) ∧ x5 ≤ n) := ⟨_, rfl, by split <;> omega⟩
    refine j_mn (pc := 25) (lwq_5 (dqc_m (dqc_m (dqc_m (dqc_m (dqa_m (List.mem_of_getElem? (i := 6) rfl)))))) rfl : Cond.methodLink RJ7 304 Lib.Math.min.name ∈ lw_g) (lwq_4 (dqc_m (dqc_m (dqc_m (dqa_m (dqa_m (List.mem_of_getElem? (i := 5) rfl)))))) rfl : Cond.static Lib.Math.min.name ∈ lw_g) (lwq_1 (dqa_m (dqa_m (List.mem_of_getElem? (i := 1) rfl))) rfl : Cond.initialized "java/lang/Math" ∈ lw_g) (lwq_4 (dqc_m (dqc_m (dqc_m (dqa_m (dqa_m (List.mem_of_getElem? (i := 6) rfl)))))) rfl : Cond.code Lib.Math.min.name Lib.Math.min.code 2 (some .int) ∈ lw_g) (by show decode cJ7_copyOf_59c91 (Int.toNat 25) = _; decide +kernel) (by decide) (Nat.le_of_ble_eq_true rfl) (Nat.le_of_ble_eq_true rfl) (Nat.le_of_ble_eq_true rfl) ?_
    rw [e6]
    clear e6
    show J_ (zJ7_copyOf_59c91 sl) T (po_J7_copyOf_e T sl a n) 0 0 28 _ [vI x5, vI 0, vR 190 (T 191 0 0), vI 0, vR 190 a] U3
    have y9 : U3 190 a (-2) = T 190 a (-2) := oU3 a (-2) (by omega)
    refine j_acp (pc := 28) (by decide) (by omega) (by omega) (by omega) (lwq_5 (dqc_m (dqc_m (dqc_m (dqc_m (dqa_m (List.mem_of_getElem? (i := 7) rfl)))))) rfl : Cond.methodLink RJ7 150 arraycopyName ∈ lw_g) (lwq_5 (dqc_m (dqc_m (dqc_m (dqc_m (dqa_m (dqa_m (List.mem_of_getElem? (i := 1) rfl))))))) rfl : Cond.native arraycopyName ∈ lw_g) (lwq_5 (dqc_m (dqc_m (dqc_m (dqc_m (dqa_m (dqa_m (List.mem_of_getElem? (i := 0) rfl))))))) rfl : Cond.static arraycopyName ∈ lw_g) (lwq_1 (dqa_m (dqa_m (List.mem_of_getElem? (i := 4) rfl))) rfl : Cond.initialized "java/lang/System" ∈ lw_g) (by show decode cJ7_copyOf_59c91 (Int.toNat 28) = _; decide +kernel) (by show 1 ≤ 1; omega) (by show 8 + (nativeFrameWords "java/lang/System" "arraycopy" 5 + 11) ≤ 70; decide) (by decide) ?_
    refine j_nm (fun U7 hU7 => ?_)
    have fU7 := cp_fr hU7
    have lU7 := cp_l hU7
    have oU7 := cp_o hU7
    show J_ (zJ7_copyOf_59c91 sl) T (po_J7_copyOf_e T sl a n) 0 0 31 _ [] U7
    refine j_blx (F := fJ7) tb_J7 (nn_ _) bk_J7_copyOf_e_31 bs_J7_copyOf_e_31 hz (fun K hK => ?_)
    refine hK 32 _ [vR 190 (T 191 0 0)] U7 ?_
    refine j_aret (pc := 32) rfl (Or.inr ⟨_, rfl⟩) (by show decode cJ7_copyOf_59c91 (Int.toNat 32) = _; decide +kernel) ?_
    refine (show po_J7_copyOf_e T sl a n U7 (some (vR 190 (T 191 0 0))) from ?_)
    have e8 : U7 191 0 0 = U3 191 0 0 := fU7 191 0 0 rfl
    exact ⟨rfl, fr_t (fr_s fU3 rfl) (fr_s fU7 rfl), (fU7 191 0 0 rfl).trans aU3, (lU7 _).trans lU3, fun x j hx => (oU7 x j hx).trans (oU3 x j hx), fun j j0 j1 => (cp_i hU7 j0 (by omega)).trans (oU3 a j (by omega))⟩
  · exact absurd c2 (by omega)
