theorem bk_X3_goOnBase_e_0 : ck_ fX3 none cX3_goOnBase 0 [.aload 0, .tableswitch 0 3 6 #[], .iconst 0] 5 = true := qck_r (nn_ _) (by decide +kernel)
theorem bs_X3_goOnBase_e_0 {P : Zt → Option Zv → Prop} (K : Int → Zl → List Zv → Zt → Prop) : sx_ K P [.aload 0, .tableswitch 0 3 6 #[], .iconst 0] 5 = x_aload 0 (x_g2 103 466 (x_iconst 0 (K 5))) := ((xe_aload 0).trans (congrArg (x_aload 0) ((xe_g2 (kk := 103) rfl tl_3_6).trans (congrArg (x_g2 103 466) ((xe_iconst 0).trans (congrArg (x_iconst 0) xe_nil))))))
theorem bk_X3_goOnBase_e_8 : ck_ fX3 none cX3_goOnBase 8 [.aload 0, .tableswitch 0 3 8 #[], .iload 1, .dup2, .iaload, .iload 2, .fadd, .iastore, .aload 0] 19 = true := qck_r (nn_ _) (by decide +kernel)
theorem bs_X3_goOnBase_e_8 {P : Zt → Option Zv → Prop} (K : Int → Zl → List Zv → Zt → Prop) : sx_ K P [.aload 0, .tableswitch 0 3 8 #[], .iload 1, .dup2, .iaload, .iload 2, .fadd, .iastore, .aload 0] 19 = x_aload 0 (x_g2 103 468 (x_iload 1 (x_dup2 (x_iaload (x_iload 2 (x_fadd (x_iastore (x_aload 0 (K 19))))))))) := ((xe_aload 0).trans (congrArg (x_aload 0) ((xe_g2 (kk := 103) rfl tl_3_8).trans (congrArg (x_g2 103 468) ((xe_iload 1).trans (congrArg (x_iload 1) ((xe_dup2).trans (congrArg (x_dup2) ((xe_iaload).trans (congrArg (x_iaload) ((xe_iload 2).trans (congrArg (x_iload 2) ((xe_fadd).trans (congrArg (x_fadd) ((xe_iastore).trans (congrArg (x_iastore) ((xe_aload 0).trans (congrArg (x_aload 0) xe_nil))))))))))))))))))
theorem bk_X3_goOnBase_e_22 : ck_ fX3 none cX3_goOnBase 22 [.ifCond .eq 49, .iload 1, .ifCond .ne 49, .aload 0, .tableswitch 0 3 8 #[], .iconst 0, .iaload, .aload 0, .tableswitch 0 3 8 #[], .iconst 1, .iaload, .if_icmp .le 49, .aload 0, .iconst 1, .tableswitch 1 3 3 #[], .return_] 50 = true := qck_r (nn_ _) (by decide +kernel)
theorem bs_X3_goOnBase_e_22 {P : Zt → Option Zv → Prop} (K : Int → Zl → List Zv → Zt → Prop) : sx_ K P [.ifCond .eq 49, .iload 1, .ifCond .ne 49, .aload 0, .tableswitch 0 3 8 #[], .iconst 0, .iaload, .aload 0, .tableswitch 0 3 8 #[], .iconst 1, .iaload, .if_icmp .le 49, .aload 0, .iconst 1, .tableswitch 1 3 3 #[], .return_] 50 = x_ifCond .eq 49 K (x_iload 1 (x_ifCond .ne 49 K (x_aload 0 (x_g2 103 468 (x_iconst 0 (x_iaload (x_aload 0 (x_g2 103 468 (x_iconst 1 (x_iaload (x_if_icmp .le 49 K (x_aload 0 (x_iconst 1 (x_p 103 3 0 1 (x_return_ P))))))))))))))) := ((xe_ifCond .eq 49).trans (congrArg (x_ifCond .eq 49 K) ((xe_iload 1).trans (congrArg (x_iload 1) ((xe_ifCond .ne 49).trans (congrArg (x_ifCond .ne 49 K) ((xe_aload 0).trans (congrArg (x_aload 0) ((xe_g2 (kk := 103) rfl tl_3_8).trans (congrArg (x_g2 103 468) ((xe_iconst 0).trans (congrArg (x_iconst 0) ((xe_iaload).trans (congrArg (x_iaload) ((xe_aload 0).trans (congrArg (x_aload 0) ((xe_g2 (kk := 103) rfl tl_3_8).trans (congrArg (x_g2 103 468) ((xe_iconst 1).trans (congrArg (x_iconst 1) ((xe_iaload).trans (congrArg (x_iaload) ((xe_if_icmp .le 49).trans (congrArg (x_if_icmp .le 49 K) ((xe_aload 0).trans (congrArg (x_aload 0) ((xe_iconst 1).trans (congrArg (x_iconst 1) ((xe_p (kk := 103) rfl tl_3_3).trans (congrArg (x_p 103 3 0 1) (xe_return_)))))))))))))))))))))))))))))))
theorem bk_X3_goOnBase_e_49 : ck_ fX3 none cX3_goOnBase 49 [.return_] 50 = true := qck_r (nn_ _) (by decide +kernel)
theorem bs_X3_goOnBase_e_49 {P : Zt → Option Zv → Prop} (K : Int → Zl → List Zv → Zt → Prop) : sx_ K P [.return_] 50 = x_return_ P := (xe_return_)
abbrev po_X3_goOnBase_e (T : Zt) (p : Int) (ru : Int → Int) (s v : Int) : Zt → Option Zv → Prop := fun T' r => r = none ∧ fr_ [(103, [3]), (466, []), (468, [])] T T' ∧ (oi_ T T' p ∧ (T' 103 p 3 = 0 → 1 ≤ T' 470 p 0 ∧ 1 ≤ T' 470 p 1) ∧ rs9_ T' p = gb9_ ru (rs9_ T p) s v)
set_option maxHeartbeats 4000000 in
theorem ct_X3_goOnBase_e {T : Zt} {p : Int} {ru : Int → Int} {s v : Int} (hr : RLP_ T p ru) (hs : 0 ≤ s ∧ s ≤ 1) (hfd : 1 ≤ T 470 p 0 ∧ 1 ≤ T 470 p 1) : Ct_ yX3_goOnBase zX3_goOnBase T [vR 103 p, vI s, vI v] (po_X3_goOnBase_e T p ru s v) := by
  refine ct_of pn_3 rfl rfl (Nat.le_of_ble_eq_true rfl) (fun hT hav => ?_)
  have hr_s : -2147483648 ≤ s ∧ s ≤ 2147483647 := hav (vI s) (List.mem_cons_of_mem _ List.mem_cons_self)
  have hr_v : -2147483648 ≤ v ∧ v ≤ 2147483647 := hav (vI v) (List.mem_cons_of_mem _ (List.mem_cons_of_mem _ List.mem_cons_self))
  have hz : zX3_goOnBase.2.2.2.1 = some .boolean → ∀ (T' : Zt) (x : Int), po_X3_goOnBase_e T p ru s v T' (some (vI x)) → 0 ≤ x ∧ x ≤ 1 := fun h => by cases h
  have hr0 := hr 0 (by decide) (by decide)
  have hr9 := hr 9 (by decide) (by decide)
  have hr10 := hr 10 (by decide) (by decide)
  have hr11 := hr 11 (by decide) (by decide)
  have hr12 := hr 12 (by decide) (by decide)
  show J_ zX3_goOnBase T (po_X3_goOnBase_e T p ru s v) 0 0 0 [some (vR 103 p), some (vI s), some (vI v)] [] T
  refine j_blx (F := fX3) tb_X3 (nn_ _) bk_X3_goOnBase_e_0 bs_X3_goOnBase_e_0 hz (fun K hK => ?_)
  refine hK 5 _ [vI 0, vR 466 p] T ?_
  refine j_callS (y := yJ7_fill_53178) (Yc := zJ7_fill_53178) (rest := []) [vR 466 p, vI 0] (ct_J7_fill_466_e (T := T) (by omega)) cl_X3_62 (qd_c (by decide +kernel)) (nn_ _) rfl (rf_of rfl) (Nat.le_of_ble_eq_true rfl) (Nat.le_of_ble_eq_true rfl) (Nat.le_of_ble_eq_true rfl) rfl ?_
  rintro U1 _ ⟨rfl, fU1, qU1o, qU1, qU1e⟩
  show J_ zX3_goOnBase T (po_X3_goOnBase_e T p ru s v) 0 0 8 _ [] U1
  refine j_blx (F := fX3) tb_X3 (nn_ _) bk_X3_goOnBase_e_8 bs_X3_goOnBase_e_8 hz (fun K hK => ?_)
  refine ix_i (by omega) ?_
  intro b2 b2b
  have e3 : U1 468 p s = T 468 p s := fU1 468 p s rfl
  rw [e3] at b2 b2b ⊢
  intro w4 w4b
  refine iy_i (by omega) (by omega) ?_
  refine x_nm (fun U5 hU5 => ?_)
  have e6 := up_f hU5
  refine hK 19 _ [vR 103 p] U5 ?_
  have e7 : U5 103 p 4 = T 103 p 4 := (up_k hU5 (by exact Nat.ne_of_beq_eq_false rfl) p 4).trans (fU1 103 p 4 rfl)
  refine j_callV (y := yX3_isLastInning) (Yc := zX3_isLastInning) (rest := []) [] (ct_X3_isLastInning_e (T := U5) (ru := ru) (by exact rl_f (ws := [(468, []), (466, [])]) hr (fr_u (fr_t (fr_0 _ _) (fr_s fU1 rfl)) hU5 rfl) rfl (fun _ => rfl))) cl_X3_147 (qd_c (by decide +kernel)) (nn_ _) rfl (rf_of rfl) (Nat.le_of_ble_eq_true rfl) (Nat.le_of_ble_eq_true rfl) (Nat.le_of_ble_eq_true rfl) rfl ?_
  rintro _ _ ⟨rfl, x8, rfl, hx8⟩
  show J_ zX3_goOnBase T (po_X3_goOnBase_e T p ru s v) 0 0 22 _ [vI x8] U5
  refine j_blx (F := fX3) tb_X3 (nn_ _) bk_X3_goOnBase_e_22 bs_X3_goOnBase_e_22 hz (fun K hK => ?_)
  refine And.intro (fun c9 => ?_) (fun c9 => ?_)
  · replace hx8 := hx8.resolve_left (fun z => absurd (c9.symm.trans z.1) (by decide))
    clear c9
    refine hK 49 _ [] U5 ?_
    refine j_blx (F := fX3) tb_X3 (nn_ _) bk_X3_goOnBase_e_49 bs_X3_goOnBase_e_49 hz (fun K hK => ?_)
    refine (show po_X3_goOnBase_e T p ru s v U5 (none) from ?_)
    have e10 : U5 103 p 3 = T 103 p 3 := (up_k hU5 (by exact Nat.ne_of_beq_eq_false rfl) p 3).trans (fU1 103 p 3 rfl)
    have e11 : U5 470 p 0 = T 470 p 0 := (up_k hU5 (by exact Nat.ne_of_beq_eq_false rfl) p 0).trans (fU1 470 p 0 rfl)
    have e12 : U5 470 p 1 = T 470 p 1 := (up_k hU5 (by exact Nat.ne_of_beq_eq_false rfl) p 1).trans (fU1 470 p 1 rfl)
    have g13 : U5 470 p 0 = T 470 p 0 := (up_k hU5 (by exact Nat.ne_of_beq_eq_false rfl) p 0).trans (fU1 470 p 0 rfl)
    have g14 : U5 470 p 1 = T 470 p 1 := (up_k hU5 (by exact Nat.ne_of_beq_eq_false rfl) p 1).trans (fU1 470 p 1 rfl)
    have e15 : U5 103 p 3 = T 103 p 3 := (up_k hU5 (by exact Nat.ne_of_beq_eq_false rfl) p 3).trans (fU1 103 p 3 rfl)
    have rU1 : rs9_ U1 p = fy2_ (rs9_ T p) 466 2 0 := qU1e
    have rU5 : rs9_ U5 p = u2_ (fy2_ (rs9_ T p) 466 2 0) 468 s (wr_ ((T 468 p s) + v)) := by rw [rs_u hU5 rfl, rU1]
    exact ⟨rfl, fr_u (fr_t (fr_0 _ _) (fr_s fU1 rfl)) hU5 rfl, oi_u (oi_t (oi_r) qU1o) hU5, by exact fun _ => by omega, Eq.trans rU5 (gb9__2 (r := ru) (a := (rs9_ T p)) (s := s) (v := v) (show ¬ (wr_ (ru 11 - 1) ≤ T 103 p 4 ∧ s = 0 ∧ T 468 p 1 < wr_ (T 468 p 0 + v)) by omega)).symm⟩
  · replace hx8 := hx8.resolve_right (fun z => c9 z.1)
    clear c9
    refine And.intro (fun c16 => ?_) (fun c16 => ?_)
    · refine hK 49 _ [] U5 ?_
      refine j_blx (F := fX3) tb_X3 (nn_ _) bk_X3_goOnBase_e_49 bs_X3_goOnBase_e_49 hz (fun K hK => ?_)
      refine (show po_X3_goOnBase_e T p ru s v U5 (none) from ?_)
      have e17 : U5 103 p 3 = T 103 p 3 := (up_k hU5 (by exact Nat.ne_of_beq_eq_false rfl) p 3).trans (fU1 103 p 3 rfl)
      have e18 : U5 470 p 0 = T 470 p 0 := (up_k hU5 (by exact Nat.ne_of_beq_eq_false rfl) p 0).trans (fU1 470 p 0 rfl)
      have e19 : U5 470 p 1 = T 470 p 1 := (up_k hU5 (by exact Nat.ne_of_beq_eq_false rfl) p 1).trans (fU1 470 p 1 rfl)
      have g20 : U5 470 p 0 = T 470 p 0 := (up_k hU5 (by exact Nat.ne_of_beq_eq_false rfl) p 0).trans (fU1 470 p 0 rfl)
      have g21 : U5 470 p 1 = T 470 p 1 := (up_k hU5 (by exact Nat.ne_of_beq_eq_false rfl) p 1).trans (fU1 470 p 1 rfl)
      have e22 : U5 103 p 3 = T 103 p 3 := (up_k hU5 (by exact Nat.ne_of_beq_eq_false rfl) p 3).trans (fU1 103 p 3 rfl)
      have rU1 : rs9_ U1 p = fy2_ (rs9_ T p) 466 2 0 := qU1e
      have rU5 : rs9_ U5 p = u2_ (fy2_ (rs9_ T p) 466 2 0) 468 s (wr_ ((T 468 p s) + v)) := by rw [rs_u hU5 rfl, rU1]
      exact ⟨rfl, fr_u (fr_t (fr_0 _ _) (fr_s fU1 rfl)) hU5 rfl, oi_u (oi_t (oi_r) qU1o) hU5, by exact fun _ => by omega, Eq.trans rU5 (gb9__2 (r := ru) (a := (rs9_ T p)) (s := s) (v := v) (show ¬ (wr_ (ru 11 - 1) ≤ T 103 p 4 ∧ s = 0 ∧ T 468 p 1 < wr_ (T 468 p 0 + v)) by omega)).symm⟩
    · refine ix_i (by omega) ?_
      intro b23 b23b
      refine ix_i (by omega) ?_
      intro b24 b24b
      have y0 : U5 468 p 0 = wr_ (T 468 p 0 + v) := by have y := up_f hU5; rw [show s = 0 by omega] at y; exact y
      have y1 : U5 468 p 1 = T 468 p 1 := (up_g hU5 (by omega)).trans (fU1 468 p 1 rfl)
      refine And.intro (fun c25 => ?_) (fun c25 => ?_)
      · refine hK 49 _ [] U5 ?_
        refine j_blx (F := fX3) tb_X3 (nn_ _) bk_X3_goOnBase_e_49 bs_X3_goOnBase_e_49 hz (fun K hK => ?_)
        refine (show po_X3_goOnBase_e T p ru s v U5 (none) from ?_)
        have e26 : U5 103 p 3 = T 103 p 3 := (up_k hU5 (by exact Nat.ne_of_beq_eq_false rfl) p 3).trans (fU1 103 p 3 rfl)
        have e27 : U5 470 p 0 = T 470 p 0 := (up_k hU5 (by exact Nat.ne_of_beq_eq_false rfl) p 0).trans (fU1 470 p 0 rfl)
        have e28 : U5 470 p 1 = T 470 p 1 := (up_k hU5 (by exact Nat.ne_of_beq_eq_false rfl) p 1).trans (fU1 470 p 1 rfl)
        have g29 : U5 470 p 0 = T 470 p 0 := (up_k hU5 (by exact Nat.ne_of_beq_eq_false rfl) p 0).trans (fU1 470 p 0 rfl)
        have g30 : U5 470 p 1 = T 470 p 1 := (up_k hU5 (by exact Nat.ne_of_beq_eq_false rfl) p 1).trans (fU1 470 p 1 rfl)
        have e31 : U5 103 p 3 = T 103 p 3 := (up_k hU5 (by exact Nat.ne_of_beq_eq_false rfl) p 3).trans (fU1 103 p 3 rfl)
        have rU1 : rs9_ U1 p = fy2_ (rs9_ T p) 466 2 0 := qU1e
        have rU5 : rs9_ U5 p = u2_ (fy2_ (rs9_ T p) 466 2 0) 468 s (wr_ ((T 468 p s) + v)) := by rw [rs_u hU5 rfl, rU1]
        exact ⟨rfl, fr_u (fr_t (fr_0 _ _) (fr_s fU1 rfl)) hU5 rfl, oi_u (oi_t (oi_r) qU1o) hU5, by exact fun _ => by omega, Eq.trans rU5 (gb9__2 (r := ru) (a := (rs9_ T p)) (s := s) (v := v) (show ¬ (wr_ (ru 11 - 1) ≤ T 103 p 4 ∧ s = 0 ∧ T 468 p 1 < wr_ (T 468 p 0 + v)) by omega)).symm⟩
      · refine bd_i (by omega) ?_
        refine x_nm (fun U32 hU32 => ?_)
        have e33 := up_f hU32
        refine (show po_X3_goOnBase_e T p ru s v U32 (none) from ?_)
        have e34 : U32 103 p 3 = 1 := up_f hU32
        have e35 : U32 470 p 0 = T 470 p 0 := (up_k hU32 (by exact Nat.ne_of_beq_eq_false rfl) p 0).trans ((up_k hU5 (by exact Nat.ne_of_beq_eq_false rfl) p 0).trans (fU1 470 p 0 rfl))
        have e36 : U32 470 p 1 = T 470 p 1 := (up_k hU32 (by exact Nat.ne_of_beq_eq_false rfl) p 1).trans ((up_k hU5 (by exact Nat.ne_of_beq_eq_false rfl) p 1).trans (fU1 470 p 1 rfl))
        have g37 : U32 470 p 0 = T 470 p 0 := (up_k hU32 (by exact Nat.ne_of_beq_eq_false rfl) p 0).trans ((up_k hU5 (by exact Nat.ne_of_beq_eq_false rfl) p 0).trans (fU1 470 p 0 rfl))
        have g38 : U32 470 p 1 = T 470 p 1 := (up_k hU32 (by exact Nat.ne_of_beq_eq_false rfl) p 1).trans ((up_k hU5 (by exact Nat.ne_of_beq_eq_false rfl) p 1).trans (fU1 470 p 1 rfl))
        have e39 : U32 103 p 3 = 1 := up_f hU32
        have rU1 : rs9_ U1 p = fy2_ (rs9_ T p) 466 2 0 := qU1e
        have rU5 : rs9_ U5 p = u2_ (fy2_ (rs9_ T p) 466 2 0) 468 s (wr_ ((T 468 p s) + v)) := by rw [rs_u hU5 rfl, rU1]
        have rU32 : rs9_ U32 p = u2_ (u2_ (fy2_ (rs9_ T p) 466 2 0) 468 s (wr_ ((T 468 p s) + v))) 103 3 1 := by rw [rs_u hU32 rfl, rU5]
        exact ⟨rfl, fr_u (fr_u (fr_t (fr_0 _ _) (fr_s fU1 rfl)) hU5 rfl) hU32 rfl, oi_u (oi_u (oi_t (oi_r) qU1o) hU5) hU32, by exact fun _ => by omega, Eq.trans rU32 (gb9__1 (r := ru) (a := (rs9_ T p)) (s := s) (v := v) (show wr_ (ru 11 - 1) ≤ T 103 p 4 ∧ s = 0 ∧ T 468 p 1 < wr_ (T 468 p 0 + v) by omega)).symm⟩
