theorem bk_X3_carryOut_e_0 : ck_ fX3 none cX3_carryOut 0 [.iload 1, .iconst 5, .if_icmp .ne 14, .aload 0, .iload 2, .iload 3, .iload 4] 10 = true := qck_r (nn_ _) (by decide +kernel)
theorem bs_X3_carryOut_e_0 {P : Zt → Option Zv → Prop} (K : Int → Zl → List Zv → Zt → Prop) : sx_ K P [.iload 1, .iconst 5, .if_icmp .ne 14, .aload 0, .iload 2, .iload 3, .iload 4] 10 = x_iload 1 (x_iconst 5 (x_if_icmp .ne 14 K (x_aload 0 (x_iload 2 (x_iload 3 (x_iload 4 (K 10))))))) := ((xe_iload 1).trans (congrArg (x_iload 1) ((xe_iconst 5).trans (congrArg (x_iconst 5) ((xe_if_icmp .ne 14).trans (congrArg (x_if_icmp .ne 14 K) ((xe_aload 0).trans (congrArg (x_aload 0) ((xe_iload 2).trans (congrArg (x_iload 2) ((xe_iload 3).trans (congrArg (x_iload 3) ((xe_iload 4).trans (congrArg (x_iload 4) xe_nil))))))))))))))
theorem bk_X3_carryOut_e_14 : ck_ fX3 none cX3_carryOut 14 [.aload 0, .tableswitch 0 3 0 #[], .iconst 0, .iaload] 20 = true := qck_r (nn_ _) (by decide +kernel)
theorem bs_X3_carryOut_e_14 {P : Zt → Option Zv → Prop} (K : Int → Zl → List Zv → Zt → Prop) : sx_ K P [.aload 0, .tableswitch 0 3 0 #[], .iconst 0, .iaload] 20 = x_aload 0 (x_g3 103 401 0 (x_iconst 0 (x_iaload (K 20)))) := ((xe_aload 0).trans (congrArg (x_aload 0) ((xe_g3 (kk := 103) rfl tl_3_0).trans (congrArg (x_g3 103 401 0) ((xe_iconst 0).trans (congrArg (x_iconst 0) ((xe_iaload).trans (congrArg (x_iaload) xe_nil))))))))
theorem bk_X3_carryOut_e_48 : ck_ fX3 none cX3_carryOut 48 [.aload 0, .iload 1, .iload 2, .iload 3] 52 = true := qck_r (nn_ _) (by decide +kernel)
theorem bs_X3_carryOut_e_48 {P : Zt → Option Zv → Prop} (K : Int → Zl → List Zv → Zt → Prop) : sx_ K P [.aload 0, .iload 1, .iload 2, .iload 3] 52 = x_aload 0 (x_iload 1 (x_iload 2 (x_iload 3 (K 52)))) := ((xe_aload 0).trans (congrArg (x_aload 0) ((xe_iload 1).trans (congrArg (x_iload 1) ((xe_iload 2).trans (congrArg (x_iload 2) ((xe_iload 3).trans (congrArg (x_iload 3) xe_nil))))))))
theorem bk_X3_carryOut_e_55 : ck_ fX3 none cX3_carryOut 55 [.goto 83] 58 = true := qck_r (nn_ _) (by decide +kernel)
theorem bs_X3_carryOut_e_55 {P : Zt → Option Zv → Prop} (K : Int → Zl → List Zv → Zt → Prop) : sx_ K P [.goto 83] 58 = x_goto 83 K := (xe_goto 83)
theorem bk_X3_carryOut_e_83 : ck_ fX3 none cX3_carryOut 83 [.return_] 84 = true := qck_r (nn_ _) (by decide +kernel)
theorem bs_X3_carryOut_e_83 {P : Zt → Option Zv → Prop} (K : Int → Zl → List Zv → Zt → Prop) : sx_ K P [.return_] 84 = x_return_ P := (xe_return_)
theorem bk_X3_carryOut_e_58 : ck_ fX3 none cX3_carryOut 58 [.aload 0, .iload 2] 60 = true := qck_r (nn_ _) (by decide +kernel)
theorem bs_X3_carryOut_e_58 {P : Zt → Option Zv → Prop} (K : Int → Zl → List Zv → Zt → Prop) : sx_ K P [.aload 0, .iload 2] 60 = x_aload 0 (x_iload 2 (K 60)) := ((xe_aload 0).trans (congrArg (x_aload 0) ((xe_iload 2).trans (congrArg (x_iload 2) xe_nil))))
theorem bk_X3_carryOut_e_63 : ck_ fX3 none cX3_carryOut 63 [.goto 83] 66 = true := qck_r (nn_ _) (by decide +kernel)
theorem bs_X3_carryOut_e_63 {P : Zt → Option Zv → Prop} (K : Int → Zl → List Zv → Zt → Prop) : sx_ K P [.goto 83] 66 = x_goto 83 K := (xe_goto 83)
theorem bk_X3_carryOut_e_66 : ck_ fX3 none cX3_carryOut 66 [.aload 0, .iload 1, .iload 2] 69 = true := qck_r (nn_ _) (by decide +kernel)
theorem bs_X3_carryOut_e_66 {P : Zt → Option Zv → Prop} (K : Int → Zl → List Zv → Zt → Prop) : sx_ K P [.aload 0, .iload 1, .iload 2] 69 = x_aload 0 (x_iload 1 (x_iload 2 (K 69))) := ((xe_aload 0).trans (congrArg (x_aload 0) ((xe_iload 1).trans (congrArg (x_iload 1) ((xe_iload 2).trans (congrArg (x_iload 2) xe_nil))))))
theorem bk_X3_carryOut_e_72 : ck_ fX3 none cX3_carryOut 72 [.goto 83] 75 = true := qck_r (nn_ _) (by decide +kernel)
theorem bs_X3_carryOut_e_72 {P : Zt → Option Zv → Prop} (K : Int → Zl → List Zv → Zt → Prop) : sx_ K P [.goto 83] 75 = x_goto 83 K := (xe_goto 83)
theorem bk_X3_carryOut_e_75 : ck_ fX3 none cX3_carryOut 75 [.aload 0, .iload 1, .iload 2, .iload 4] 80 = true := qck_r (nn_ _) (by decide +kernel)
theorem bs_X3_carryOut_e_75 {P : Zt → Option Zv → Prop} (K : Int → Zl → List Zv → Zt → Prop) : sx_ K P [.aload 0, .iload 1, .iload 2, .iload 4] 80 = x_aload 0 (x_iload 1 (x_iload 2 (x_iload 4 (K 80)))) := ((xe_aload 0).trans (congrArg (x_aload 0) ((xe_iload 1).trans (congrArg (x_iload 1) ((xe_iload 2).trans (congrArg (x_iload 2) ((xe_iload 4).trans (congrArg (x_iload 4) xe_nil))))))))
theorem bk_X3_carryOut_e_13 : ck_ fX3 none cX3_carryOut 13 [.return_] 14 = true := qck_r (nn_ _) (by decide +kernel)
theorem bs_X3_carryOut_e_13 {P : Zt → Option Zv → Prop} (K : Int → Zl → List Zv → Zt → Prop) : sx_ K P [.return_] 14 = x_return_ P := (xe_return_)
abbrev po_X3_carryOut_e (T : Zt) (p : Int) (ru : Int → Int) (k s q o : Int) : Zt → Option Zv → Prop := fun T' r => r = none ∧ fr_ [(103, [3, 4, 5]), (466, []), (467, []), (468, []), (472, []), (471, []), (469, []), (470, []), (473, [])] T T' ∧ (oi_ T T' p ∧ (T' 103 p 3 = 0 → 1 ≤ T' 470 p 0 ∧ 1 ≤ T' 470 p 1) ∧ rs9_ T' p = ca9_ ru (rs9_ T p) k s q o)
set_option maxHeartbeats 4000000 in
theorem ct_X3_carryOut_e {T : Zt} {p : Int} {ru : Int → Int} {k s q o : Int} (hr : RLP_ T p ru) (hfm : (k = 0 ∨ (0 ≤ s ∧ s ≤ 1)) ∧ ((T 401 (T 103 p 0) 0 = 0 ∧ 0 ≤ k ∧ k ≤ 5) ∨ (T 401 (T 103 p 0) 0 = 1 ∧ (k = 1 ∨ k = 5)) ∨ (T 401 (T 103 p 0) 0 = 2 ∧ (k = 1 ∨ k = 6)) ∨ (¬ T 401 (T 103 p 0) 0 = 0 ∧ ¬ T 401 (T 103 p 0) 0 = 1 ∧ ¬ T 401 (T 103 p 0) 0 = 2 ∧ 1 ≤ k ∧ k ≤ 4))) (hf : 1 ≤ T 401 (T 103 p 0) 9 ∧ T 401 (T 103 p 0) 9 ≤ 6) (hfd : 1 ≤ T 470 p 0 ∧ 1 ≤ T 470 p 1) : Ct_ yX3_carryOut zX3_carryOut T [vR 103 p, vI k, vI s, vI q, vI o] (po_X3_carryOut_e T p ru k s q o) := by
  refine ct_of pn_3 rfl rfl (Nat.le_of_ble_eq_true rfl) (fun hT hav => ?_)
  have hr_k : -2147483648 ≤ k ∧ k ≤ 2147483647 := hav (vI k) (List.mem_cons_of_mem _ List.mem_cons_self)
  have hr_s : -2147483648 ≤ s ∧ s ≤ 2147483647 := hav (vI s) (List.mem_cons_of_mem _ (List.mem_cons_of_mem _ List.mem_cons_self))
  have hr_q : -2147483648 ≤ q ∧ q ≤ 2147483647 := hav (vI q) (List.mem_cons_of_mem _ (List.mem_cons_of_mem _ (List.mem_cons_of_mem _ List.mem_cons_self)))
  have hr_o : -2147483648 ≤ o ∧ o ≤ 2147483647 := hav (vI o) (List.mem_cons_of_mem _ (List.mem_cons_of_mem _ (List.mem_cons_of_mem _ (List.mem_cons_of_mem _ List.mem_cons_self))))
  have hz : zX3_carryOut.2.2.2.1 = some .boolean → ∀ (T' : Zt) (x : Int), po_X3_carryOut_e T p ru k s q o T' (some (vI x)) → 0 ≤ x ∧ x ≤ 1 := fun h => by cases h
  have hr0 := hr 0 (by decide) (by decide)
  have hr9 := hr 9 (by decide) (by decide)
  have hr10 := hr 10 (by decide) (by decide)
  have hr11 := hr 11 (by decide) (by decide)
  have hr12 := hr 12 (by decide) (by decide)
  show J_ zX3_carryOut T (po_X3_carryOut_e T p ru k s q o) 0 0 0 [some (vR 103 p), some (vI k), some (vI s), some (vI q), some (vI o)] [] T
  refine j_blx (F := fX3) tb_X3 (nn_ _) bk_X3_carryOut_e_0 bs_X3_carryOut_e_0 hz (fun K hK => ?_)
  refine And.intro (fun c1 => ?_) (fun c1 => ?_)
  · refine hK 14 _ [] T ?_
    refine j_blx (F := fX3) tb_X3 (nn_ _) bk_X3_carryOut_e_14 bs_X3_carryOut_e_14 hz (fun K hK => ?_)
    refine ix_i (by omega) ?_
    intro b3 b3b
    refine hK 20 _ [vI (T 401 (T 103 p 0) 0)] T ?_
    by_cases z4_0 : (T 401 (T 103 p 0) 0) = 0
    · refine j_tsI (pc := 20) 0 (off := 28) (tgt := 48) (by decide) ds_X3_carryOut_20 (by omega) (by decide) rfl (by decide) (by decide) ?_
      refine j_blx (F := fX3) tb_X3 (nn_ _) bk_X3_carryOut_e_48 bs_X3_carryOut_e_48 hz (fun K hK => ?_)
      refine hK 52 _ [vI q, vI s, vI k, vR 103 p] T ?_
      refine j_callV (y := yX3_playFootball) (Yc := zX3_playFootball) (rest := []) [vI k, vI s, vI q] (ct_X3_playFootball_e (T := T) (ru := ru) (by exact hr) (by omega) (by omega) (by omega) (by omega)) cl_X3_99 (qd_c (by decide +kernel)) (nn_ _) rfl (rf_of rfl) (Nat.le_of_ble_eq_true rfl) (Nat.le_of_ble_eq_true rfl) (Nat.le_of_ble_eq_true rfl) rfl ?_
      rintro U5 _ ⟨rfl, fU5, qU5o, qU5, qU5e⟩
      show J_ zX3_carryOut T (po_X3_carryOut_e T p ru k s q o) 0 0 55 _ [] U5
      refine j_blx (F := fX3) tb_X3 (nn_ _) bk_X3_carryOut_e_55 bs_X3_carryOut_e_55 hz (fun K hK => ?_)
      refine hK 83 _ [] U5 ?_
      refine j_blx (F := fX3) tb_X3 (nn_ _) bk_X3_carryOut_e_83 bs_X3_carryOut_e_83 hz (fun K hK => ?_)
      refine (show po_X3_carryOut_e T p ru k s q o U5 (none) from ?_)
      have rU5 : rs9_ U5 p = pf9_ ru (rs9_ T p) k s q := qU5e
      exact ⟨rfl, fr_t (fr_0 _ _) (fr_s fU5 rfl), oi_t (oi_r) qU5o, by exact fun z9 => by have y9 := qU5; omega, Eq.trans rU5 (ca9__2 (r := ru) (a := (rs9_ T p)) (k := k) (s := s) (q := q) (o := o) (show ¬ (k = 5) by omega) (show ru 0 = 0 by omega)).symm⟩
    by_cases z4_1 : (T 401 (T 103 p 0) 0) = 1
    · refine j_tsI (pc := 20) 1 (off := 38) (tgt := 58) (by decide) ds_X3_carryOut_20 (by omega) (by decide) rfl (by decide) (by decide) ?_
      refine j_blx (F := fX3) tb_X3 (nn_ _) bk_X3_carryOut_e_58 bs_X3_carryOut_e_58 hz (fun K hK => ?_)
      refine hK 60 _ [vI s, vR 103 p] T ?_
      refine j_callV (y := yX3_playVolleyball) (Yc := zX3_playVolleyball) (rest := []) [vI s] (ct_X3_playVolleyball_e (T := T) (ru := ru) (by exact hr) (by omega) (by omega)) cl_X3_102 (qd_c (by decide +kernel)) (nn_ _) rfl (rf_of rfl) (Nat.le_of_ble_eq_true rfl) (Nat.le_of_ble_eq_true rfl) (Nat.le_of_ble_eq_true rfl) rfl ?_
      rintro U6 _ ⟨rfl, fU6, qU6o, qU6, qU6e⟩
      show J_ zX3_carryOut T (po_X3_carryOut_e T p ru k s q o) 0 0 63 _ [] U6
      refine j_blx (F := fX3) tb_X3 (nn_ _) bk_X3_carryOut_e_63 bs_X3_carryOut_e_63 hz (fun K hK => ?_)
      refine hK 83 _ [] U6 ?_
      refine j_blx (F := fX3) tb_X3 (nn_ _) bk_X3_carryOut_e_83 bs_X3_carryOut_e_83 hz (fun K hK => ?_)
      refine (show po_X3_carryOut_e T p ru k s q o U6 (none) from ?_)
      have e7 : U6 470 p 0 = T 470 p 0 := fU6 470 p 0 rfl
      have e8 : U6 470 p 1 = T 470 p 1 := fU6 470 p 1 rfl
      have g9 : U6 470 p 0 = T 470 p 0 := fU6 470 p 0 rfl
      have g10 : U6 470 p 1 = T 470 p 1 := fU6 470 p 1 rfl
      have rU6 : rs9_ U6 p = pv9_ ru (rs9_ T p) s := qU6e
      exact ⟨rfl, fr_t (fr_0 _ _) (fr_s fU6 rfl), oi_t (oi_r) qU6o, by exact fun _ => by omega, Eq.trans rU6 (ca9__3 (r := ru) (a := (rs9_ T p)) (k := k) (s := s) (q := q) (o := o) (show ¬ (k = 5) by omega) (show ¬ (ru 0 = 0) by omega) (show ru 0 = 1 by omega)).symm⟩
    by_cases z4_2 : (T 401 (T 103 p 0) 0) = 2
    · refine j_tsI (pc := 20) 2 (off := 46) (tgt := 66) (by decide) ds_X3_carryOut_20 (by omega) (by decide) rfl (by decide) (by decide) ?_
      refine j_blx (F := fX3) tb_X3 (nn_ _) bk_X3_carryOut_e_66 bs_X3_carryOut_e_66 hz (fun K hK => ?_)
      refine hK 69 _ [vI s, vI k, vR 103 p] T ?_
      refine j_callV (y := yX3_playTennis) (Yc := zX3_playTennis) (rest := []) [vI k, vI s] (ct_X3_playTennis_e (T := T) (ru := ru) (by exact hr) (by omega) (by omega)) cl_X3_106 (qd_c (by decide +kernel)) (nn_ _) rfl (rf_of rfl) (Nat.le_of_ble_eq_true rfl) (Nat.le_of_ble_eq_true rfl) (Nat.le_of_ble_eq_true rfl) rfl ?_
      rintro U11 _ ⟨rfl, fU11, qU11o, qU11, qU11e⟩
      show J_ zX3_carryOut T (po_X3_carryOut_e T p ru k s q o) 0 0 72 _ [] U11
      refine j_blx (F := fX3) tb_X3 (nn_ _) bk_X3_carryOut_e_72 bs_X3_carryOut_e_72 hz (fun K hK => ?_)
      refine hK 83 _ [] U11 ?_
      refine j_blx (F := fX3) tb_X3 (nn_ _) bk_X3_carryOut_e_83 bs_X3_carryOut_e_83 hz (fun K hK => ?_)
      refine (show po_X3_carryOut_e T p ru k s q o U11 (none) from ?_)
      have e12 : U11 470 p 0 = T 470 p 0 := fU11 470 p 0 rfl
      have e13 : U11 470 p 1 = T 470 p 1 := fU11 470 p 1 rfl
      have g14 : U11 470 p 0 = T 470 p 0 := fU11 470 p 0 rfl
      have g15 : U11 470 p 1 = T 470 p 1 := fU11 470 p 1 rfl
      have rU11 : rs9_ U11 p = pt9_ ru (rs9_ T p) k s := qU11e
      exact ⟨rfl, fr_t (fr_0 _ _) (fr_s fU11 rfl), oi_t (oi_r) qU11o, by exact fun _ => by omega, Eq.trans rU11 (ca9__4 (r := ru) (a := (rs9_ T p)) (k := k) (s := s) (q := q) (o := o) (show ¬ (k = 5) by omega) (show ¬ (ru 0 = 0) by omega) (show ¬ (ru 0 = 1) by omega) (show ru 0 = 2 by omega)).symm⟩
    refine j_tsO (pc := 20) (tgt := 75) (by decide) ds_X3_carryOut_20 (by omega) (by decide) (by decide) ?_
    refine j_blx (F := fX3) tb_X3 (nn_ _) bk_X3_carryOut_e_75 bs_X3_carryOut_e_75 hz (fun K hK => ?_)
    refine hK 80 _ [vI o, vI s, vI k, vR 103 p] T ?_
    refine j_callV (y := yX3_playBaseball) (Yc := zX3_playBaseball) (rest := []) [vI k, vI s, vI o] (ct_X3_playBaseball_e (T := T) (ru := ru) (by exact hr) (by omega) (by omega)) cl_X3_110 (qd_c (by decide +kernel)) (nn_ _) rfl (rf_of rfl) (Nat.le_of_ble_eq_true rfl) (Nat.le_of_ble_eq_true rfl) (Nat.le_of_ble_eq_true rfl) rfl ?_
    rintro U16 _ ⟨rfl, fU16, qU16o, qU16, qU16e⟩
    show J_ zX3_carryOut T (po_X3_carryOut_e T p ru k s q o) 0 0 83 _ [] U16
    refine j_blx (F := fX3) tb_X3 (nn_ _) bk_X3_carryOut_e_83 bs_X3_carryOut_e_83 hz (fun K hK => ?_)
    refine (show po_X3_carryOut_e T p ru k s q o U16 (none) from ?_)
    have e17 : U16 470 p 0 = T 470 p 0 := fU16 470 p 0 rfl
    have e18 : U16 470 p 1 = T 470 p 1 := fU16 470 p 1 rfl
    have g19 : U16 470 p 0 = T 470 p 0 := fU16 470 p 0 rfl
    have g20 : U16 470 p 1 = T 470 p 1 := fU16 470 p 1 rfl
    have rU16 : rs9_ U16 p = pbb9_ ru (rs9_ T p) k s o := qU16e
    exact ⟨rfl, fr_t (fr_0 _ _) (fr_s fU16 rfl), oi_t (oi_r) qU16o, by exact fun _ => by omega, Eq.trans rU16 (ca9__5 (r := ru) (a := (rs9_ T p)) (k := k) (s := s) (q := q) (o := o) (show ¬ (k = 5) by omega) (show ¬ (ru 0 = 0) by omega) (show ¬ (ru 0 = 1) by omega) (show ¬ (ru 0 = 2) by omega)).symm⟩
  · refine hK 10 _ [vI o, vI q, vI s, vR 103 p] T ?_
    refine j_callV (y := yX3_substitute) (Yc := zX3_substitute) (rest := []) [vI s, vI q, vI o] (ct_X3_substitute_e (T := T) (ru := ru) (by exact hr) (by omega)) cl_X3_95 (qd_c (by decide +kernel)) (nn_ _) rfl (rf_of rfl) (Nat.le_of_ble_eq_true rfl) (Nat.le_of_ble_eq_true rfl) (Nat.le_of_ble_eq_true rfl) rfl ?_
    rintro U21 _ ⟨rfl, fU21, qU21o, qU21, qU21e⟩
    show J_ zX3_carryOut T (po_X3_carryOut_e T p ru k s q o) 0 0 13 _ [] U21
    refine j_blx (F := fX3) tb_X3 (nn_ _) bk_X3_carryOut_e_13 bs_X3_carryOut_e_13 hz (fun K hK => ?_)
    refine (show po_X3_carryOut_e T p ru k s q o U21 (none) from ?_)
    have e22 : U21 103 p 3 = T 103 p 3 := fU21 103 p 3 rfl
    have e23 : U21 470 p 0 = T 470 p 0 := fU21 470 p 0 rfl
    have e24 : U21 470 p 1 = T 470 p 1 := fU21 470 p 1 rfl
    have g25 : U21 470 p 0 = T 470 p 0 := fU21 470 p 0 rfl
    have g26 : U21 470 p 1 = T 470 p 1 := fU21 470 p 1 rfl
    have e27 : U21 103 p 3 = T 103 p 3 := fU21 103 p 3 rfl
    have rU21 : rs9_ U21 p = su9_ ru (rs9_ T p) s q o := qU21e
    exact ⟨rfl, fr_t (fr_0 _ _) (fr_s fU21 rfl), oi_t (oi_r) qU21o, by exact fun _ => by omega, Eq.trans rU21 (ca9__1 (r := ru) (a := (rs9_ T p)) (k := k) (s := s) (q := q) (o := o) (show k = 5 by omega)).symm⟩
