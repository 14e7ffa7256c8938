theorem bk_X3_countOut_e_0 : ck_ fX3 none cX3_countOut 0 [.aload 0, .tableswitch 0 3 6 #[], .iconst 0] 5 = true := qck_r (nn_ _) (by decide +kernel)
theorem bs_X3_countOut_e_0 {P : Zt → Option Zv → Prop} (K : Int → Zl → List Zv → Zt → Prop) : sx_ K P [.aload 0, .tableswitch 0 3 6 #[], .iconst 0] 5 = x_aload 0 (x_g2 103 466 (x_iconst 0 (K 5))) := ((xe_aload 0).trans (congrArg (x_aload 0) ((xe_g2 (kk := 103) rfl tl_3_6).trans (congrArg (x_g2 103 466) ((xe_iconst 0).trans (congrArg (x_iconst 0) xe_nil))))))
theorem bk_X3_countOut_e_8 : ck_ fX3 none cX3_countOut 8 [.aload 0, .tableswitch 0 3 7 #[], .iconst 0, .dup2, .iaload, .iconst 1, .fadd, .iastore, .aload 0, .tableswitch 0 3 7 #[], .iconst 0, .iaload, .iconst 3, .if_icmp .ne 40, .aload 0, .tableswitch 0 3 7 #[], .iconst 0] 33 = true := qck_r (nn_ _) (by decide +kernel)
theorem bs_X3_countOut_e_8 {P : Zt → Option Zv → Prop} (K : Int → Zl → List Zv → Zt → Prop) : sx_ K P [.aload 0, .tableswitch 0 3 7 #[], .iconst 0, .dup2, .iaload, .iconst 1, .fadd, .iastore, .aload 0, .tableswitch 0 3 7 #[], .iconst 0, .iaload, .iconst 3, .if_icmp .ne 40, .aload 0, .tableswitch 0 3 7 #[], .iconst 0] 33 = x_aload 0 (x_g2 103 467 (x_iconst 0 (x_dup2 (x_iaload (x_iconst 1 (x_fadd (x_iastore (x_aload 0 (x_g2 103 467 (x_iconst 0 (x_iaload (x_iconst 3 (x_if_icmp .ne 40 K (x_aload 0 (x_g2 103 467 (x_iconst 0 (K 33))))))))))))))))) := ((xe_aload 0).trans (congrArg (x_aload 0) ((xe_g2 (kk := 103) rfl tl_3_7).trans (congrArg (x_g2 103 467) ((xe_iconst 0).trans (congrArg (x_iconst 0) ((xe_dup2).trans (congrArg (x_dup2) ((xe_iaload).trans (congrArg (x_iaload) ((xe_iconst 1).trans (congrArg (x_iconst 1) ((xe_fadd).trans (congrArg (x_fadd) ((xe_iastore).trans (congrArg (x_iastore) ((xe_aload 0).trans (congrArg (x_aload 0) ((xe_g2 (kk := 103) rfl tl_3_7).trans (congrArg (x_g2 103 467) ((xe_iconst 0).trans (congrArg (x_iconst 0) ((xe_iaload).trans (congrArg (x_iaload) ((xe_iconst 3).trans (congrArg (x_iconst 3) ((xe_if_icmp .ne 40).trans (congrArg (x_if_icmp .ne 40 K) ((xe_aload 0).trans (congrArg (x_aload 0) ((xe_g2 (kk := 103) rfl tl_3_7).trans (congrArg (x_g2 103 467) ((xe_iconst 0).trans (congrArg (x_iconst 0) xe_nil))))))))))))))))))))))))))))))))))
theorem bk_X3_countOut_e_40 : ck_ fX3 none cX3_countOut 40 [.return_] 41 = true := qck_r (nn_ _) (by decide +kernel)
theorem bs_X3_countOut_e_40 {P : Zt → Option Zv → Prop} (K : Int → Zl → List Zv → Zt → Prop) : sx_ K P [.return_] 41 = x_return_ P := (xe_return_)
theorem bk_X3_countOut_e_36 : ck_ fX3 none cX3_countOut 36 [.aload 0] 37 = true := qck_r (nn_ _) (by decide +kernel)
theorem bs_X3_countOut_e_36 {P : Zt → Option Zv → Prop} (K : Int → Zl → List Zv → Zt → Prop) : sx_ K P [.aload 0] 37 = x_aload 0 (K 37) := ((xe_aload 0).trans (congrArg (x_aload 0) xe_nil))
abbrev po_X3_countOut_e (T : Zt) (p : Int) (ru : Int → Int) : Zt → Option Zv → Prop := fun T' r => r = none ∧ fr_ [(103, [3, 4, 5]), (466, []), (467, [])] T T' ∧ (oi_ T T' p ∧ (T' 103 p 3 = 0 → 1 ≤ T' 470 p 0 ∧ 1 ≤ T' 470 p 1) ∧ rs9_ T' p = co9_ ru (rs9_ T p))
set_option maxHeartbeats 4000000 in
theorem ct_X3_countOut_e {T : Zt} {p : Int} {ru : Int → Int} (hr : RLP_ T p ru) (hfd : 1 ≤ T 470 p 0 ∧ 1 ≤ T 470 p 1) : Ct_ yX3_countOut zX3_countOut T [vR 103 p] (po_X3_countOut_e T p ru) := by
  refine ct_of pn_3 rfl rfl (Nat.le_of_ble_eq_true rfl) (fun hT hav => ?_)
  have hz : zX3_countOut.2.2.2.1 = some .boolean → ∀ (T' : Zt) (x : Int), po_X3_countOut_e T p ru T' (some (vI x)) → 0 ≤ x ∧ x ≤ 1 := fun h => by cases h
  have hr0 := hr 0 (by decide) (by decide)
  have hr9 := hr 9 (by decide) (by decide)
  have hr10 := hr 10 (by decide) (by decide)
  have hr11 := hr 11 (by decide) (by decide)
  have hr12 := hr 12 (by decide) (by decide)
  show J_ zX3_countOut T (po_X3_countOut_e T p ru) 0 0 0 [some (vR 103 p)] [] T
  refine j_blx (F := fX3) tb_X3 (nn_ _) bk_X3_countOut_e_0 bs_X3_countOut_e_0 hz (fun K hK => ?_)
  refine hK 5 _ [vI 0, vR 466 p] T ?_
  refine j_callS (y := yJ7_fill_53178) (Yc := zJ7_fill_53178) (rest := []) [vR 466 p, vI 0] (ct_J7_fill_466_e (T := T) (by omega)) cl_X3_62 (qd_c (by decide +kernel)) (nn_ _) rfl (rf_of rfl) (Nat.le_of_ble_eq_true rfl) (Nat.le_of_ble_eq_true rfl) (Nat.le_of_ble_eq_true rfl) rfl ?_
  rintro U1 _ ⟨rfl, fU1, qU1o, qU1, qU1e⟩
  show J_ zX3_countOut T (po_X3_countOut_e T p ru) 0 0 8 _ [] U1
  refine j_blx (F := fX3) tb_X3 (nn_ _) bk_X3_countOut_e_8 bs_X3_countOut_e_8 hz (fun K hK => ?_)
  refine ix_i (by omega) ?_
  intro b2 b2b
  have e3 : U1 467 p 0 = T 467 p 0 := fU1 467 p 0 rfl
  rw [e3] at b2 b2b ⊢
  intro w4 w4b
  refine iy_i (by omega) (by omega) ?_
  refine x_nm (fun U5 hU5 => ?_)
  have e6 := up_f hU5
  refine ix_i (by omega) ?_
  intro b7 b7b
  have e8 : U5 467 p 0 = wr_ ((T 467 p 0) + 1) := up_f hU5
  rw [e8] at b7 b7b ⊢
  refine And.intro (fun c9 => ?_) (fun c9 => ?_)
  · refine hK 40 _ [] U5 ?_
    refine j_blx (F := fX3) tb_X3 (nn_ _) bk_X3_countOut_e_40 bs_X3_countOut_e_40 hz (fun K hK => ?_)
    refine (show po_X3_countOut_e T p ru U5 (none) from ?_)
    have e10 : U5 103 p 3 = T 103 p 3 := (up_k hU5 (by exact Nat.ne_of_beq_eq_false rfl) p 3).trans (fU1 103 p 3 rfl)
    have e11 : U5 470 p 0 = T 470 p 0 := (up_k hU5 (by exact Nat.ne_of_beq_eq_false rfl) p 0).trans (fU1 470 p 0 rfl)
    have e12 : U5 470 p 1 = T 470 p 1 := (up_k hU5 (by exact Nat.ne_of_beq_eq_false rfl) p 1).trans (fU1 470 p 1 rfl)
    have g13 : U5 470 p 0 = T 470 p 0 := (up_k hU5 (by exact Nat.ne_of_beq_eq_false rfl) p 0).trans (fU1 470 p 0 rfl)
    have g14 : U5 470 p 1 = T 470 p 1 := (up_k hU5 (by exact Nat.ne_of_beq_eq_false rfl) p 1).trans (fU1 470 p 1 rfl)
    have e15 : U5 103 p 3 = T 103 p 3 := (up_k hU5 (by exact Nat.ne_of_beq_eq_false rfl) p 3).trans (fU1 103 p 3 rfl)
    have rU1 : rs9_ U1 p = fy2_ (rs9_ T p) 466 2 0 := qU1e
    have rU5 : rs9_ U5 p = u2_ (fy2_ (rs9_ T p) 466 2 0) 467 0 (wr_ ((T 467 p 0) + 1)) := by rw [rs_u hU5 rfl, rU1]
    exact ⟨rfl, fr_u (fr_t (fr_0 _ _) (fr_s fU1 rfl)) hU5 rfl, oi_u (oi_t (oi_r) qU1o) hU5, by exact fun _ => by omega, Eq.trans rU5 (co9__2 (r := ru) (a := (rs9_ T p)) (show ¬ (wr_ (T 467 p 0 + 1) = 3) by omega)).symm⟩
  · refine hK 33 _ [vI 0, vR 467 p] U5 ?_
    refine j_callS (y := yJ7_fill_53178) (Yc := zJ7_fill_53178) (rest := []) [vR 467 p, vI 0] (ct_J7_fill_467_e (T := U5) (by omega)) cl_X3_62 (qd_c (by decide +kernel)) (nn_ _) rfl (rf_of rfl) (Nat.le_of_ble_eq_true rfl) (Nat.le_of_ble_eq_true rfl) (Nat.le_of_ble_eq_true rfl) rfl ?_
    rintro U16 _ ⟨rfl, fU16, qU16o, qU16, qU16e⟩
    show J_ zX3_countOut T (po_X3_countOut_e T p ru) 0 0 36 _ [] U16
    refine j_blx (F := fX3) tb_X3 (nn_ _) bk_X3_countOut_e_36 bs_X3_countOut_e_36 hz (fun K hK => ?_)
    refine hK 37 _ [vR 103 p] U16 ?_
    have e17 : U16 470 p 0 = T 470 p 0 := (fU16 470 p 0 rfl).trans ((up_k hU5 (by exact Nat.ne_of_beq_eq_false rfl) p 0).trans (fU1 470 p 0 rfl))
    have e18 : U16 470 p 1 = T 470 p 1 := (fU16 470 p 1 rfl).trans ((up_k hU5 (by exact Nat.ne_of_beq_eq_false rfl) p 1).trans (fU1 470 p 1 rfl))
    refine j_callV (y := yX3_endHalf) (Yc := zX3_endHalf) (rest := []) [] (ct_X3_endHalf_e (T := U16) (ru := ru) (by exact rl_f (ws := [(467, []), (466, [])]) hr (fr_t (fr_u (fr_t (fr_0 _ _) (fr_s fU1 rfl)) hU5 rfl) (fr_s fU16 rfl)) rfl (fun _ => rfl)) (by omega)) cl_X3_151 (qd_c (by decide +kernel)) (nn_ _) rfl (rf_of rfl) (Nat.le_of_ble_eq_true rfl) (Nat.le_of_ble_eq_true rfl) (Nat.le_of_ble_eq_true rfl) rfl ?_
    rintro U19 _ ⟨rfl, fU19, qU19o, qU19, qU19e⟩
    show J_ zX3_countOut T (po_X3_countOut_e T p ru) 0 0 40 _ [] U19
    refine j_blx (F := fX3) tb_X3 (nn_ _) bk_X3_countOut_e_40 bs_X3_countOut_e_40 hz (fun K hK => ?_)
    refine (show po_X3_countOut_e T p ru U19 (none) from ?_)
    have e20 : U19 470 p 0 = T 470 p 0 := (fU19 470 p 0 rfl).trans ((fU16 470 p 0 rfl).trans ((up_k hU5 (by exact Nat.ne_of_beq_eq_false rfl) p 0).trans (fU1 470 p 0 rfl)))
    have e21 : U19 470 p 1 = T 470 p 1 := (fU19 470 p 1 rfl).trans ((fU16 470 p 1 rfl).trans ((up_k hU5 (by exact Nat.ne_of_beq_eq_false rfl) p 1).trans (fU1 470 p 1 rfl)))
    have g22 : U19 470 p 0 = T 470 p 0 := (fU19 470 p 0 rfl).trans ((fU16 470 p 0 rfl).trans ((up_k hU5 (by exact Nat.ne_of_beq_eq_false rfl) p 0).trans (fU1 470 p 0 rfl)))
    have g23 : U19 470 p 1 = T 470 p 1 := (fU19 470 p 1 rfl).trans ((fU16 470 p 1 rfl).trans ((up_k hU5 (by exact Nat.ne_of_beq_eq_false rfl) p 1).trans (fU1 470 p 1 rfl)))
    have rU1 : rs9_ U1 p = fy2_ (rs9_ T p) 466 2 0 := qU1e
    have rU5 : rs9_ U5 p = u2_ (fy2_ (rs9_ T p) 466 2 0) 467 0 (wr_ ((T 467 p 0) + 1)) := by rw [rs_u hU5 rfl, rU1]
    have rU16 : rs9_ U16 p = fy2_ (u2_ (fy2_ (rs9_ T p) 466 2 0) 467 0 (wr_ ((T 467 p 0) + 1))) 467 2 0 := by rw [qU16e, rU5]
    have rU19 : rs9_ U19 p = eh9_ ru (fy2_ (u2_ (fy2_ (rs9_ T p) 466 2 0) 467 0 (wr_ ((T 467 p 0) + 1))) 467 2 0) := by rw [qU19e, rU16]
    exact ⟨rfl, fr_t (fr_t (fr_u (fr_t (fr_0 _ _) (fr_s fU1 rfl)) hU5 rfl) (fr_s fU16 rfl)) (fr_s fU19 rfl), oi_t (oi_t (oi_u (oi_t (oi_r) qU1o) hU5) qU16o) qU19o, by exact fun _ => by omega, Eq.trans rU19 (co9__1 (r := ru) (a := (rs9_ T p)) (show wr_ (T 467 p 0 + 1) = 3 by omega)).symm⟩
