theorem bk_X3_sendOff_e_0 : ck_ fX3 none cX3_sendOff 0 [.iload 2, .iconst (-1), .if_icmp .ne 6, .return_] 6 = true := qck_r (nn_ _) (by decide +kernel)
theorem bs_X3_sendOff_e_0 {P : Zt → Option Zv → Prop} (K : Int → Zl → List Zv → Zt → Prop) : sx_ K P [.iload 2, .iconst (-1), .if_icmp .ne 6, .return_] 6 = x_iload 2 (x_iconst (-1) (x_if_icmp .ne 6 K (x_return_ P))) := ((xe_iload 2).trans (congrArg (x_iload 2) ((xe_iconst (-1)).trans (congrArg (x_iconst (-1)) ((xe_if_icmp .ne 6).trans (congrArg (x_if_icmp .ne 6 K) (xe_return_)))))))
theorem bk_X3_sendOff_e_6 : ck_ fX3 none cX3_sendOff 6 [.aload 0, .tableswitch 0 3 12 #[], .aload 0, .tableswitch 0 3 11 #[], .iload 1, .iconst 6, .imul, .iload 2, .iadd, .iaload, .iconst 3, .iastore, .aload 0, .iload 1, .iload 2] 26 = true := qck_r (nn_ _) (by decide +kernel)
theorem bs_X3_sendOff_e_6 {P : Zt → Option Zv → Prop} (K : Int → Zl → List Zv → Zt → Prop) : sx_ K P [.aload 0, .tableswitch 0 3 12 #[], .aload 0, .tableswitch 0 3 11 #[], .iload 1, .iconst 6, .imul, .iload 2, .iadd, .iaload, .iconst 3, .iastore, .aload 0, .iload 1, .iload 2] 26 = x_aload 0 (x_g2 103 472 (x_aload 0 (x_g2 103 471 (x_iload 1 (x_iconst 6 (x_imul (x_iload 2 (x_iadd (x_iaload (x_iconst 3 (x_iastore (x_aload 0 (x_iload 1 (x_iload 2 (K 26))))))))))))))) := ((xe_aload 0).trans (congrArg (x_aload 0) ((xe_g2 (kk := 103) rfl tl_3_12).trans (congrArg (x_g2 103 472) ((xe_aload 0).trans (congrArg (x_aload 0) ((xe_g2 (kk := 103) rfl tl_3_11).trans (congrArg (x_g2 103 471) ((xe_iload 1).trans (congrArg (x_iload 1) ((xe_iconst 6).trans (congrArg (x_iconst 6) ((xe_imul).trans (congrArg (x_imul) ((xe_iload 2).trans (congrArg (x_iload 2) ((xe_iadd).trans (congrArg (x_iadd) ((xe_iaload).trans (congrArg (x_iaload) ((xe_iconst 3).trans (congrArg (x_iconst 3) ((xe_iastore).trans (congrArg (x_iastore) ((xe_aload 0).trans (congrArg (x_aload 0) ((xe_iload 1).trans (congrArg (x_iload 1) ((xe_iload 2).trans (congrArg (x_iload 2) xe_nil))))))))))))))))))))))))))))))
theorem bk_X3_sendOff_e_29 : ck_ fX3 none cX3_sendOff 29 [.aload 0, .tableswitch 0 3 10 #[], .iload 1, .dup2, .iaload, .iconst 1, .isub, .iastore, .iconst 2, .aload 0, .tableswitch 0 3 10 #[], .iload 1, .iaload, .imul, .aload 0, .tableswitch 0 3 0 #[], .iconst 9, .iaload, .if_icmp .ge 84, .aload 0, .iconst 1, .tableswitch 1 3 3 #[], .aload 0, .tableswitch 0 3 8 #[], .iload 1, .iconst 0, .iastore, .aload 0, .tableswitch 0 3 8 #[], .iconst 1, .iload 1, .isub, .aload 0, .tableswitch 0 3 0 #[], .iconst 12, .iaload, .iastore, .return_] 85 = true := qck_r (nn_ _) (by decide +kernel)
theorem bs_X3_sendOff_e_29 {P : Zt → Option Zv → Prop} (K : Int → Zl → List Zv → Zt → Prop) : sx_ K P [.aload 0, .tableswitch 0 3 10 #[], .iload 1, .dup2, .iaload, .iconst 1, .isub, .iastore, .iconst 2, .aload 0, .tableswitch 0 3 10 #[], .iload 1, .iaload, .imul, .aload 0, .tableswitch 0 3 0 #[], .iconst 9, .iaload, .if_icmp .ge 84, .aload 0, .iconst 1, .tableswitch 1 3 3 #[], .aload 0, .tableswitch 0 3 8 #[], .iload 1, .iconst 0, .iastore, .aload 0, .tableswitch 0 3 8 #[], .iconst 1, .iload 1, .isub, .aload 0, .tableswitch 0 3 0 #[], .iconst 12, .iaload, .iastore, .return_] 85 = x_aload 0 (x_g2 103 470 (x_iload 1 (x_dup2 (x_iaload (x_iconst 1 (x_isub (x_iastore (x_iconst 2 (x_aload 0 (x_g2 103 470 (x_iload 1 (x_iaload (x_imul (x_aload 0 (x_g3 103 401 0 (x_iconst 9 (x_iaload (x_if_icmp .ge 84 K (x_aload 0 (x_iconst 1 (x_p 103 3 0 1 (x_aload 0 (x_g2 103 468 (x_iload 1 (x_iconst 0 (x_iastore (x_aload 0 (x_g2 103 468 (x_iconst 1 (x_iload 1 (x_isub (x_aload 0 (x_g3 103 401 0 (x_iconst 12 (x_iaload (x_iastore (x_return_ P))))))))))))))))))))))))))))))))))))) := ((xe_aload 0).trans (congrArg (x_aload 0) ((xe_g2 (kk := 103) rfl tl_3_10).trans (congrArg (x_g2 103 470) ((xe_iload 1).trans (congrArg (x_iload 1) ((xe_dup2).trans (congrArg (x_dup2) ((xe_iaload).trans (congrArg (x_iaload) ((xe_iconst 1).trans (congrArg (x_iconst 1) ((xe_isub).trans (congrArg (x_isub) ((xe_iastore).trans (congrArg (x_iastore) ((xe_iconst 2).trans (congrArg (x_iconst 2) ((xe_aload 0).trans (congrArg (x_aload 0) ((xe_g2 (kk := 103) rfl tl_3_10).trans (congrArg (x_g2 103 470) ((xe_iload 1).trans (congrArg (x_iload 1) ((xe_iaload).trans (congrArg (x_iaload) ((xe_imul).trans (congrArg (x_imul) ((xe_aload 0).trans (congrArg (x_aload 0) ((xe_g3 (kk := 103) rfl tl_3_0).trans (congrArg (x_g3 103 401 0) ((xe_iconst 9).trans (congrArg (x_iconst 9) ((xe_iaload).trans (congrArg (x_iaload) ((xe_if_icmp .ge 84).trans (congrArg (x_if_icmp .ge 84 K) ((xe_aload 0).trans (congrArg (x_aload 0) ((xe_iconst 1).trans (congrArg (x_iconst 1) ((xe_p (kk := 103) rfl tl_3_3).trans (congrArg (x_p 103 3 0 1) ((xe_aload 0).trans (congrArg (x_aload 0) ((xe_g2 (kk := 103) rfl tl_3_8).trans (congrArg (x_g2 103 468) ((xe_iload 1).trans (congrArg (x_iload 1) ((xe_iconst 0).trans (congrArg (x_iconst 0) ((xe_iastore).trans (congrArg (x_iastore) ((xe_aload 0).trans (congrArg (x_aload 0) ((xe_g2 (kk := 103) rfl tl_3_8).trans (congrArg (x_g2 103 468) ((xe_iconst 1).trans (congrArg (x_iconst 1) ((xe_iload 1).trans (congrArg (x_iload 1) ((xe_isub).trans (congrArg (x_isub) ((xe_aload 0).trans (congrArg (x_aload 0) ((xe_g3 (kk := 103) rfl tl_3_0).trans (congrArg (x_g3 103 401 0) ((xe_iconst 12).trans (congrArg (x_iconst 12) ((xe_iaload).trans (congrArg (x_iaload) ((xe_iastore).trans (congrArg (x_iastore) (xe_return_)))))))))))))))))))))))))))))))))))))))))))))))))))))))))))))))))))))))))))
theorem bk_X3_sendOff_e_84 : ck_ fX3 none cX3_sendOff 84 [.return_] 85 = true := qck_r (nn_ _) (by decide +kernel)
theorem bs_X3_sendOff_e_84 {P : Zt → Option Zv → Prop} (K : Int → Zl → List Zv → Zt → Prop) : sx_ K P [.return_] 85 = x_return_ P := (xe_return_)
abbrev po_X3_sendOff_e (T : Zt) (p : Int) (ru : Int → Int) (s k : Int) : Zt → Option Zv → Prop := fun T' r => r = none ∧ fr_ [(472, []), (471, []), (470, []), (103, [3]), (468, [])] T T' ∧ (oi_ T T' p ∧ (T' 103 p 3 = 0 → 1 ≤ T' 470 p 0 ∧ 1 ≤ T' 470 p 1) ∧ rs9_ T' p = so9_ ru (rs9_ T p) s k)
set_option maxHeartbeats 4000000 in
theorem ct_X3_sendOff_e {T : Zt} {p : Int} {ru : Int → Int} {s k : Int} (hr : RLP_ T p ru) (hs : 0 ≤ s ∧ s ≤ 1) (hk : k = -1 ∨ (0 ≤ k ∧ k < T 470 p s)) (hf : 1 ≤ T 401 (T 103 p 0) 9 ∧ T 401 (T 103 p 0) 9 ≤ 6) (hfd : 1 ≤ T 470 p 0 ∧ 1 ≤ T 470 p 1) : Ct_ yX3_sendOff zX3_sendOff T [vR 103 p, vI s, vI k] (po_X3_sendOff_e T p ru s k) := by
  refine ct_of pn_3 rfl rfl (Nat.le_of_ble_eq_true rfl) (fun hT hav => ?_)
  have hr_s : -2147483648 ≤ s ∧ s ≤ 2147483647 := hav (vI s) (List.mem_cons_of_mem _ List.mem_cons_self)
  have hr_k : -2147483648 ≤ k ∧ k ≤ 2147483647 := hav (vI k) (List.mem_cons_of_mem _ (List.mem_cons_of_mem _ List.mem_cons_self))
  have hz : zX3_sendOff.2.2.2.1 = some .boolean → ∀ (T' : Zt) (x : Int), po_X3_sendOff_e T p ru s k T' (some (vI x)) → 0 ≤ x ∧ x ≤ 1 := fun h => by cases h
  have hr0 := hr 0 (by decide) (by decide)
  have hr9 := hr 9 (by decide) (by decide)
  have hr10 := hr 10 (by decide) (by decide)
  have hr11 := hr 11 (by decide) (by decide)
  have hr12 := hr 12 (by decide) (by decide)
  have hfs : 0 ≤ T 470 p s ∧ T 470 p s ≤ 6 := bd_a hT 470 (by decide +kernel : ta_ 470 = some (1, some 2, 0, 6)) p (by omega)
  show J_ zX3_sendOff T (po_X3_sendOff_e T p ru s k) 0 0 0 [some (vR 103 p), some (vI s), some (vI k)] [] T
  refine j_blx (F := fX3) tb_X3 (nn_ _) bk_X3_sendOff_e_0 bs_X3_sendOff_e_0 hz (fun K hK => ?_)
  refine And.intro (fun c1 => ?_) (fun c1 => ?_)
  · refine hK 6 _ [] T ?_
    refine j_blx (F := fX3) tb_X3 (nn_ _) bk_X3_sendOff_e_6 bs_X3_sendOff_e_6 hz (fun K hK => ?_)
    refine rg_i (by omega) ?_
    refine rg_i (by omega) ?_
    refine ix_i (by omega) ?_
    intro b2 b2b
    refine iy_i (by omega) (by omega) ?_
    refine x_nm (fun U3 hU3 => ?_)
    have e4 := up_f hU3
    refine hK 26 _ [vI k, vI s, vR 103 p] U3 ?_
    refine j_callV (y := yX3_closeGap) (Yc := zX3_closeGap) (rest := []) [vI s, vI k] (ct_X3_closeGap_e (T := U3) (ru := ru) (by exact rl_f (ws := [(472, [])]) hr (fr_u (fr_0 _ _) hU3 rfl) rfl (fun _ => rfl)) (by omega) (by omega)) cl_X3_119 (qd_c (by decide +kernel)) (nn_ _) rfl (rf_of rfl) (Nat.le_of_ble_eq_true rfl) (Nat.le_of_ble_eq_true rfl) (Nat.le_of_ble_eq_true rfl) rfl ?_
    rintro U5 _ ⟨rfl, fU5, qU5o, qU5, qU5e⟩
    show J_ zX3_sendOff T (po_X3_sendOff_e T p ru s k) 0 0 29 _ [] U5
    refine j_blx (F := fX3) tb_X3 (nn_ _) bk_X3_sendOff_e_29 bs_X3_sendOff_e_29 hz (fun K hK => ?_)
    refine ix_i (by omega) ?_
    intro b6 b6b
    have e7 : U5 470 p s = T 470 p s := (fU5 470 p s rfl).trans (up_k hU3 (by exact Nat.ne_of_beq_eq_false rfl) p s)
    rw [e7] at b6 b6b ⊢
    refine rg_i (by omega) ?_
    refine iy_i (by omega) (by omega) ?_
    refine x_nm (fun U8 hU8 => ?_)
    have e9 := up_f hU8
    refine ix_i (by omega) ?_
    intro b10 b10b
    have e11 : U8 470 p s = (T 470 p s) - 1 := up_f hU8
    rw [e11] at b10 b10b ⊢
    refine rg_i (by omega) ?_
    have e13 : U8 103 p 0 = T 103 p 0 := (up_k hU8 (by exact Nat.ne_of_beq_eq_false rfl) p 0).trans ((fU5 103 p 0 rfl).trans (up_k hU3 (by exact Nat.ne_of_beq_eq_false rfl) p 0))
    refine ix_i (by omega) ?_
    intro b14 b14b
    have e15 : U8 401 (T 103 p 0) 9 = T 401 (T 103 p 0) 9 := (up_k hU8 (by exact Nat.ne_of_beq_eq_false rfl) (T 103 p 0) 9).trans ((fU5 401 (T 103 p 0) 9 rfl).trans (up_k hU3 (by exact Nat.ne_of_beq_eq_false rfl) (T 103 p 0) 9))
    have e16 : U8 401 (U8 103 p 0) 9 = T 401 (T 103 p 0) 9 := by rw [e13]; exact e15
    rw [e16] at b14 b14b ⊢
    refine And.intro (fun c17 => ?_) (fun c17 => ?_)
    · refine hK 84 _ [] U8 ?_
      refine j_blx (F := fX3) tb_X3 (nn_ _) bk_X3_sendOff_e_84 bs_X3_sendOff_e_84 hz (fun K hK => ?_)
      refine (show po_X3_sendOff_e T p ru s k U8 (none) from ?_)
      have e18 : U8 103 p 3 = T 103 p 3 := (up_k hU8 (by exact Nat.ne_of_beq_eq_false rfl) p 3).trans ((fU5 103 p 3 rfl).trans (up_k hU3 (by exact Nat.ne_of_beq_eq_false rfl) p 3))
      have e19 : U8 103 p 3 = T 103 p 3 := (up_k hU8 (by exact Nat.ne_of_beq_eq_false rfl) p 3).trans ((fU5 103 p 3 rfl).trans (up_k hU3 (by exact Nat.ne_of_beq_eq_false rfl) p 3))
      have g20 := fd_u hU8 hs
      have g21 : U5 470 p 0 = T 470 p 0 := (fU5 470 p 0 rfl).trans (up_k hU3 (by exact Nat.ne_of_beq_eq_false rfl) p 0)
      have g22 : U5 470 p 1 = T 470 p 1 := (fU5 470 p 1 rfl).trans (up_k hU3 (by exact Nat.ne_of_beq_eq_false rfl) p 1)
      have rU3 : rs9_ U3 p = u2_ (rs9_ T p) 472 (T 471 p ((s * 6) + k)) 3 := rs_u hU3 rfl
      have rU5 : rs9_ U5 p = cg9_ (u2_ (rs9_ T p) 472 (T 471 p ((s * 6) + k)) 3) s k := by rw [qU5e, rU3]
      have rU8 : rs9_ U8 p = u2_ (cg9_ (u2_ (rs9_ T p) 472 (T 471 p ((s * 6) + k)) 3) s k) 470 s ((T 470 p s) - 1) := by rw [rs_u hU8 rfl, rU5]
      exact ⟨rfl, fr_u (fr_t (fr_u (fr_0 _ _) hU3 rfl) (fr_s fU5 rfl)) hU8 rfl, oi_u (oi_t (oi_u (oi_r) hU3) qU5o) hU8, by exact fun z9 => by omega, Eq.trans rU8 (so9__3 (r := ru) (a := (rs9_ T p)) (s := s) (k := k) (show ¬ (k = -1) by omega) (show ¬ (2 * (T 470 p s - 1) < ru 9) by omega)).symm⟩
    · refine bd_i (by omega) ?_
      refine x_nm (fun U23 hU23 => ?_)
      have e24 := up_f hU23
      refine iy_i (by omega) (by omega) ?_
      refine x_nm (fun U25 hU25 => ?_)
      have e26 := up_f hU25
      refine rg_i (by omega) ?_
      have e28 : U25 103 p 0 = T 103 p 0 := (up_k hU25 (by exact Nat.ne_of_beq_eq_false rfl) p 0).trans ((up_j hU23 (by decide) 103 p).trans ((up_k hU8 (by exact Nat.ne_of_beq_eq_false rfl) p 0).trans ((fU5 103 p 0 rfl).trans (up_k hU3 (by exact Nat.ne_of_beq_eq_false rfl) p 0))))
      refine ix_i (by omega) ?_
      intro b29 b29b
      have e30 : U25 401 (T 103 p 0) 12 = T 401 (T 103 p 0) 12 := (up_k hU25 (by exact Nat.ne_of_beq_eq_false rfl) (T 103 p 0) 12).trans ((up_k hU23 (by exact Nat.ne_of_beq_eq_false rfl) (T 103 p 0) 12).trans ((up_k hU8 (by exact Nat.ne_of_beq_eq_false rfl) (T 103 p 0) 12).trans ((fU5 401 (T 103 p 0) 12 rfl).trans (up_k hU3 (by exact Nat.ne_of_beq_eq_false rfl) (T 103 p 0) 12))))
      have e31 : U25 401 (U25 103 p 0) 12 = T 401 (T 103 p 0) 12 := by rw [e28]; exact e30
      rw [e31] at b29 b29b ⊢
      refine iy_i (by omega) (by omega) ?_
      refine x_nm (fun U32 hU32 => ?_)
      have e33 := up_f hU32
      refine (show po_X3_sendOff_e T p ru s k U32 (none) from ?_)
      have e34 : U32 103 p 3 = 1 := (up_k hU32 (by exact Nat.ne_of_beq_eq_false rfl) p 3).trans ((up_k hU25 (by exact Nat.ne_of_beq_eq_false rfl) p 3).trans (up_f hU23))
      have e35 : U32 470 p 0 = U8 470 p 0 := (up_k hU32 (by exact Nat.ne_of_beq_eq_false rfl) p 0).trans ((up_k hU25 (by exact Nat.ne_of_beq_eq_false rfl) p 0).trans (up_k hU23 (by exact Nat.ne_of_beq_eq_false rfl) p 0))
      have e36 : U32 470 p 1 = U8 470 p 1 := (up_k hU32 (by exact Nat.ne_of_beq_eq_false rfl) p 1).trans ((up_k hU25 (by exact Nat.ne_of_beq_eq_false rfl) p 1).trans (up_k hU23 (by exact Nat.ne_of_beq_eq_false rfl) p 1))
      have g37 : U32 470 p 0 = U8 470 p 0 := (up_k hU32 (by exact Nat.ne_of_beq_eq_false rfl) p 0).trans ((up_k hU25 (by exact Nat.ne_of_beq_eq_false rfl) p 0).trans (up_k hU23 (by exact Nat.ne_of_beq_eq_false rfl) p 0))
      have g38 : U32 470 p 1 = U8 470 p 1 := (up_k hU32 (by exact Nat.ne_of_beq_eq_false rfl) p 1).trans ((up_k hU25 (by exact Nat.ne_of_beq_eq_false rfl) p 1).trans (up_k hU23 (by exact Nat.ne_of_beq_eq_false rfl) p 1))
      have e39 : U32 103 p 3 = 1 := (up_k hU32 (by exact Nat.ne_of_beq_eq_false rfl) p 3).trans ((up_k hU25 (by exact Nat.ne_of_beq_eq_false rfl) p 3).trans (up_f hU23))
      have g40 := fd_u hU8 hs
      have g41 : U5 470 p 0 = T 470 p 0 := (fU5 470 p 0 rfl).trans (up_k hU3 (by exact Nat.ne_of_beq_eq_false rfl) p 0)
      have g42 : U5 470 p 1 = T 470 p 1 := (fU5 470 p 1 rfl).trans (up_k hU3 (by exact Nat.ne_of_beq_eq_false rfl) p 1)
      have rU3 : rs9_ U3 p = u2_ (rs9_ T p) 472 (T 471 p ((s * 6) + k)) 3 := rs_u hU3 rfl
      have rU5 : rs9_ U5 p = cg9_ (u2_ (rs9_ T p) 472 (T 471 p ((s * 6) + k)) 3) s k := by rw [qU5e, rU3]
      have rU8 : rs9_ U8 p = u2_ (cg9_ (u2_ (rs9_ T p) 472 (T 471 p ((s * 6) + k)) 3) s k) 470 s ((T 470 p s) - 1) := by rw [rs_u hU8 rfl, rU5]
      have rU23 : rs9_ U23 p = u2_ (u2_ (cg9_ (u2_ (rs9_ T p) 472 (T 471 p ((s * 6) + k)) 3) s k) 470 s ((T 470 p s) - 1)) 103 3 1 := by rw [rs_u hU23 rfl, rU8]
      have rU25 : rs9_ U25 p = u2_ (u2_ (u2_ (cg9_ (u2_ (rs9_ T p) 472 (T 471 p ((s * 6) + k)) 3) s k) 470 s ((T 470 p s) - 1)) 103 3 1) 468 s 0 := by rw [rs_u hU25 rfl, rU23]
      have rU32 : rs9_ U32 p = u2_ (u2_ (u2_ (u2_ (cg9_ (u2_ (rs9_ T p) 472 (T 471 p ((s * 6) + k)) 3) s k) 470 s ((T 470 p s) - 1)) 103 3 1) 468 s 0) 468 (1 - s) (ru 12) := by rw [rs_u hU32 rfl, rU25, hr12]
      exact ⟨rfl, fr_u (fr_u (fr_u (fr_u (fr_t (fr_u (fr_0 _ _) hU3 rfl) (fr_s fU5 rfl)) hU8 rfl) hU23 rfl) hU25 rfl) hU32 rfl, oi_u (oi_u (oi_u (oi_u (oi_t (oi_u (oi_r) hU3) qU5o) hU8) hU23) hU25) hU32, by exact fun z9 => by omega, Eq.trans rU32 (so9__2 (r := ru) (a := (rs9_ T p)) (s := s) (k := k) (show ¬ (k = -1) by omega) (show 2 * (T 470 p s - 1) < ru 9 by omega)).symm⟩
  · refine (show po_X3_sendOff_e T p ru s k T (none) from ?_)
    exact ⟨rfl, fr_0 _ _, oi_r, by exact fun _ => by omega, Eq.trans rfl (so9__1 (r := ru) (a := (rs9_ T p)) (s := s) (k := k) (show k = -1 by omega)).symm⟩
