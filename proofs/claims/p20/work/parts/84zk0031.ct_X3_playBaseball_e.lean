theorem bk_X3_playBaseball_e_0 : ck_ fX3 none cX3_playBaseball 0 [.iload 1] 1 = true := qck_r (nn_ _) (by decide +kernel)
theorem bs_X3_playBaseball_e_0 {P : Zt → Option Zv → Prop} (K : Int → Zl → List Zv → Zt → Prop) : sx_ K P [.iload 1] 1 = x_iload 1 (K 1) := ((xe_iload 1).trans (congrArg (x_iload 1) xe_nil))
theorem bk_X3_playBaseball_e_28 : ck_ fX3 none cX3_playBaseball 28 [.aload 0, .iload 2, .iload 3] 31 = true := qck_r (nn_ _) (by decide +kernel)
theorem bs_X3_playBaseball_e_28 {P : Zt → Option Zv → Prop} (K : Int → Zl → List Zv → Zt → Prop) : sx_ K P [.aload 0, .iload 2, .iload 3] 31 = x_aload 0 (x_iload 2 (x_iload 3 (K 31))) := ((xe_aload 0).trans (congrArg (x_aload 0) ((xe_iload 2).trans (congrArg (x_iload 2) ((xe_iload 3).trans (congrArg (x_iload 3) xe_nil))))))
theorem bk_X3_playBaseball_e_34 : ck_ fX3 none cX3_playBaseball 34 [.goto 96] 37 = true := qck_r (nn_ _) (by decide +kernel)
theorem bs_X3_playBaseball_e_34 {P : Zt → Option Zv → Prop} (K : Int → Zl → List Zv → Zt → Prop) : sx_ K P [.goto 96] 37 = x_goto 96 K := (xe_goto 96)
theorem bk_X3_playBaseball_e_96 : ck_ fX3 none cX3_playBaseball 96 [.return_] 97 = true := qck_r (nn_ _) (by decide +kernel)
theorem bs_X3_playBaseball_e_96 {P : Zt → Option Zv → Prop} (K : Int → Zl → List Zv → Zt → Prop) : sx_ K P [.return_] 97 = x_return_ P := (xe_return_)
theorem bk_X3_playBaseball_e_37 : ck_ fX3 none cX3_playBaseball 37 [.aload 0, .tableswitch 0 3 6 #[], .iconst 0, .dup2, .iaload, .iconst 1, .fadd, .iastore, .aload 0, .tableswitch 0 3 6 #[], .iconst 0, .iaload, .iconst 4, .if_icmp .ne 96, .aload 0, .iload 2] 59 = true := qck_r (nn_ _) (by decide +kernel)
theorem bs_X3_playBaseball_e_37 {P : Zt → Option Zv → Prop} (K : Int → Zl → List Zv → Zt → Prop) : sx_ K P [.aload 0, .tableswitch 0 3 6 #[], .iconst 0, .dup2, .iaload, .iconst 1, .fadd, .iastore, .aload 0, .tableswitch 0 3 6 #[], .iconst 0, .iaload, .iconst 4, .if_icmp .ne 96, .aload 0, .iload 2] 59 = x_aload 0 (x_g2 103 466 (x_iconst 0 (x_dup2 (x_iaload (x_iconst 1 (x_fadd (x_iastore (x_aload 0 (x_g2 103 466 (x_iconst 0 (x_iaload (x_iconst 4 (x_if_icmp .ne 96 K (x_aload 0 (x_iload 2 (K 59)))))))))))))))) := ((xe_aload 0).trans (congrArg (x_aload 0) ((xe_g2 (kk := 103) rfl tl_3_6).trans (congrArg (x_g2 103 466) ((xe_iconst 0).trans (congrArg (x_iconst 0) ((xe_dup2).trans (congrArg (x_dup2) ((xe_iaload).trans (congrArg (x_iaload) ((xe_iconst 1).trans (congrArg (x_iconst 1) ((xe_fadd).trans (congrArg (x_fadd) ((xe_iastore).trans (congrArg (x_iastore) ((xe_aload 0).trans (congrArg (x_aload 0) ((xe_g2 (kk := 103) rfl tl_3_6).trans (congrArg (x_g2 103 466) ((xe_iconst 0).trans (congrArg (x_iconst 0) ((xe_iaload).trans (congrArg (x_iaload) ((xe_iconst 4).trans (congrArg (x_iconst 4) ((xe_if_icmp .ne 96).trans (congrArg (x_if_icmp .ne 96 K) ((xe_aload 0).trans (congrArg (x_aload 0) ((xe_iload 2).trans (congrArg (x_iload 2) xe_nil))))))))))))))))))))))))))))))))
theorem bk_X3_playBaseball_e_62 : ck_ fX3 none cX3_playBaseball 62 [.goto 96] 65 = true := qck_r (nn_ _) (by decide +kernel)
theorem bs_X3_playBaseball_e_62 {P : Zt → Option Zv → Prop} (K : Int → Zl → List Zv → Zt → Prop) : sx_ K P [.goto 96] 65 = x_goto 96 K := (xe_goto 96)
theorem bk_X3_playBaseball_e_65 : ck_ fX3 none cX3_playBaseball 65 [.aload 0, .tableswitch 0 3 6 #[], .iconst 1, .dup2, .iaload, .iconst 1, .fadd, .iastore, .aload 0, .tableswitch 0 3 6 #[], .iconst 1, .iaload, .iconst 3, .if_icmp .ne 96, .aload 0] 86 = true := qck_r (nn_ _) (by decide +kernel)
theorem bs_X3_playBaseball_e_65 {P : Zt → Option Zv → Prop} (K : Int → Zl → List Zv → Zt → Prop) : sx_ K P [.aload 0, .tableswitch 0 3 6 #[], .iconst 1, .dup2, .iaload, .iconst 1, .fadd, .iastore, .aload 0, .tableswitch 0 3 6 #[], .iconst 1, .iaload, .iconst 3, .if_icmp .ne 96, .aload 0] 86 = x_aload 0 (x_g2 103 466 (x_iconst 1 (x_dup2 (x_iaload (x_iconst 1 (x_fadd (x_iastore (x_aload 0 (x_g2 103 466 (x_iconst 1 (x_iaload (x_iconst 3 (x_if_icmp .ne 96 K (x_aload 0 (K 86))))))))))))))) := ((xe_aload 0).trans (congrArg (x_aload 0) ((xe_g2 (kk := 103) rfl tl_3_6).trans (congrArg (x_g2 103 466) ((xe_iconst 1).trans (congrArg (x_iconst 1) ((xe_dup2).trans (congrArg (x_dup2) ((xe_iaload).trans (congrArg (x_iaload) ((xe_iconst 1).trans (congrArg (x_iconst 1) ((xe_fadd).trans (congrArg (x_fadd) ((xe_iastore).trans (congrArg (x_iastore) ((xe_aload 0).trans (congrArg (x_aload 0) ((xe_g2 (kk := 103) rfl tl_3_6).trans (congrArg (x_g2 103 466) ((xe_iconst 1).trans (congrArg (x_iconst 1) ((xe_iaload).trans (congrArg (x_iaload) ((xe_iconst 3).trans (congrArg (x_iconst 3) ((xe_if_icmp .ne 96).trans (congrArg (x_if_icmp .ne 96 K) ((xe_aload 0).trans (congrArg (x_aload 0) xe_nil))))))))))))))))))))))))))))))
theorem bk_X3_playBaseball_e_89 : ck_ fX3 none cX3_playBaseball 89 [.goto 96] 92 = true := qck_r (nn_ _) (by decide +kernel)
theorem bs_X3_playBaseball_e_89 {P : Zt → Option Zv → Prop} (K : Int → Zl → List Zv → Zt → Prop) : sx_ K P [.goto 96] 92 = x_goto 96 K := (xe_goto 96)
theorem bk_X3_playBaseball_e_92 : ck_ fX3 none cX3_playBaseball 92 [.aload 0] 93 = true := qck_r (nn_ _) (by decide +kernel)
theorem bs_X3_playBaseball_e_92 {P : Zt → Option Zv → Prop} (K : Int → Zl → List Zv → Zt → Prop) : sx_ K P [.aload 0] 93 = x_aload 0 (K 93) := ((xe_aload 0).trans (congrArg (x_aload 0) xe_nil))
abbrev po_X3_playBaseball_e (T : Zt) (p : Int) (ru : Int → Int) (k s v : Int) : Zt → Option Zv → Prop := fun T' r => r = none ∧ fr_ [(103, [3, 4, 5]), (466, []), (467, []), (468, [])] T T' ∧ (oi_ T T' p ∧ (T' 103 p 3 = 0 → 1 ≤ T' 470 p 0 ∧ 1 ≤ T' 470 p 1) ∧ rs9_ T' p = pbb9_ ru (rs9_ T p) k s v)
set_option maxHeartbeats 4000000 in
theorem ct_X3_playBaseball_e {T : Zt} {p : Int} {ru : Int → Int} {k s v : Int} (hr : RLP_ T p ru) (hs : 0 ≤ s ∧ s ≤ 1) (hfd : 1 ≤ T 470 p 0 ∧ 1 ≤ T 470 p 1) : Ct_ yX3_playBaseball zX3_playBaseball T [vR 103 p, vI k, vI s, vI v] (po_X3_playBaseball_e T p ru k s v) := by
  refine ct_of pn_3 rfl rfl (Nat.le_of_ble_eq_true rfl) (fun hT hav => ?_)
  have hr_k : -2147483648 ≤ k ∧ k ≤ 2147483647 := hav (vI k) (List.mem_cons_of_mem _ List.mem_cons_self)
  have hr_s : -2147483648 ≤ s ∧ s ≤ 2147483647 := hav (vI s) (List.mem_cons_of_mem _ (List.mem_cons_of_mem _ List.mem_cons_self))
  have hr_v : -2147483648 ≤ v ∧ v ≤ 2147483647 := hav (vI v) (List.mem_cons_of_mem _ (List.mem_cons_of_mem _ (List.mem_cons_of_mem _ List.mem_cons_self)))
  have hz : zX3_playBaseball.2.2.2.1 = some .boolean → ∀ (T' : Zt) (x : Int), po_X3_playBaseball_e T p ru k s v T' (some (vI x)) → 0 ≤ x ∧ x ≤ 1 := fun h => by cases h
  have hr0 := hr 0 (by decide) (by decide)
  have hr9 := hr 9 (by decide) (by decide)
  have hr10 := hr 10 (by decide) (by decide)
  have hr11 := hr 11 (by decide) (by decide)
  have hr12 := hr 12 (by decide) (by decide)
  show J_ zX3_playBaseball T (po_X3_playBaseball_e T p ru k s v) 0 0 0 [some (vR 103 p), some (vI k), some (vI s), some (vI v)] [] T
  refine j_blx (F := fX3) tb_X3 (nn_ _) bk_X3_playBaseball_e_0 bs_X3_playBaseball_e_0 hz (fun K hK => ?_)
  refine hK 1 _ [vI k] T ?_
  by_cases z1_0 : k = 1
  · refine j_tsI (pc := 1) 0 (off := 27) (tgt := 28) (by decide) ds_X3_playBaseball_1 (by omega) (by decide) rfl (by decide) (by decide) ?_
    refine j_blx (F := fX3) tb_X3 (nn_ _) bk_X3_playBaseball_e_28 bs_X3_playBaseball_e_28 hz (fun K hK => ?_)
    refine hK 31 _ [vI v, vI s, vR 103 p] T ?_
    refine j_callV (y := yX3_hit) (Yc := zX3_hit) (rest := []) [vI s, vI v] (ct_X3_hit_e (T := T) (ru := ru) (by exact hr) (by omega) (by omega)) cl_X3_129 (qd_c (by decide +kernel)) (nn_ _) rfl (rf_of rfl) (Nat.le_of_ble_eq_true rfl) (Nat.le_of_ble_eq_true rfl) (Nat.le_of_ble_eq_true rfl) rfl ?_
    rintro U2 _ ⟨rfl, fU2, qU2o, qU2, qU2e⟩
    show J_ zX3_playBaseball T (po_X3_playBaseball_e T p ru k s v) 0 0 34 _ [] U2
    refine j_blx (F := fX3) tb_X3 (nn_ _) bk_X3_playBaseball_e_34 bs_X3_playBaseball_e_34 hz (fun K hK => ?_)
    refine hK 96 _ [] U2 ?_
    refine j_blx (F := fX3) tb_X3 (nn_ _) bk_X3_playBaseball_e_96 bs_X3_playBaseball_e_96 hz (fun K hK => ?_)
    refine (show po_X3_playBaseball_e T p ru k s v U2 (none) from ?_)
    have e3 : U2 470 p 0 = T 470 p 0 := fU2 470 p 0 rfl
    have e4 : U2 470 p 1 = T 470 p 1 := fU2 470 p 1 rfl
    have g5 : U2 470 p 0 = T 470 p 0 := fU2 470 p 0 rfl
    have g6 : U2 470 p 1 = T 470 p 1 := fU2 470 p 1 rfl
    have rU2 : rs9_ U2 p = ht9_ ru (rs9_ T p) s v := qU2e
    exact ⟨rfl, fr_t (fr_0 _ _) (fr_s fU2 rfl), oi_t (oi_r) qU2o, by exact fun _ => by omega, Eq.trans rU2 (pbb9__1 (r := ru) (a := (rs9_ T p)) (k := k) (s := s) (v := v) (show k = 1 by omega)).symm⟩
  by_cases z1_1 : k = 2
  · refine j_tsI (pc := 1) 1 (off := 36) (tgt := 37) (by decide) ds_X3_playBaseball_1 (by omega) (by decide) rfl (by decide) (by decide) ?_
    refine j_blx (F := fX3) tb_X3 (nn_ _) bk_X3_playBaseball_e_37 bs_X3_playBaseball_e_37 hz (fun K hK => ?_)
    refine ix_i (by omega) ?_
    intro b7 b7b
    intro w8 w8b
    refine iy_i (by omega) (by omega) ?_
    refine x_nm (fun U9 hU9 => ?_)
    have e10 := up_f hU9
    refine ix_i (by omega) ?_
    intro b11 b11b
    have e12 : U9 466 p 0 = wr_ ((T 466 p 0) + 1) := up_f hU9
    rw [e12] at b11 b11b ⊢
    refine And.intro (fun c13 => ?_) (fun c13 => ?_)
    · refine hK 96 _ [] U9 ?_
      refine j_blx (F := fX3) tb_X3 (nn_ _) bk_X3_playBaseball_e_96 bs_X3_playBaseball_e_96 hz (fun K hK => ?_)
      refine (show po_X3_playBaseball_e T p ru k s v U9 (none) from ?_)
      have e14 : U9 103 p 3 = T 103 p 3 := up_k hU9 (by exact Nat.ne_of_beq_eq_false rfl) p 3
      have e15 : U9 470 p 0 = T 470 p 0 := up_k hU9 (by exact Nat.ne_of_beq_eq_false rfl) p 0
      have e16 : U9 470 p 1 = T 470 p 1 := up_k hU9 (by exact Nat.ne_of_beq_eq_false rfl) p 1
      have g17 : U9 470 p 0 = T 470 p 0 := up_k hU9 (by exact Nat.ne_of_beq_eq_false rfl) p 0
      have g18 : U9 470 p 1 = T 470 p 1 := up_k hU9 (by exact Nat.ne_of_beq_eq_false rfl) p 1
      have e19 : U9 103 p 3 = T 103 p 3 := up_k hU9 (by exact Nat.ne_of_beq_eq_false rfl) p 3
      have rU9 : rs9_ U9 p = u2_ (rs9_ T p) 466 0 (wr_ ((T 466 p 0) + 1)) := rs_u hU9 rfl
      exact ⟨rfl, fr_u (fr_0 _ _) hU9 rfl, oi_u (oi_r) hU9, by exact fun _ => by omega, Eq.trans rU9 (pbb9__3 (r := ru) (a := (rs9_ T p)) (k := k) (s := s) (v := v) (show ¬ (k = 1) by omega) (show k = 2 by omega) (show ¬ (wr_ (T 466 p 0 + 1) = 4) by omega)).symm⟩
    · refine hK 59 _ [vI s, vR 103 p] U9 ?_
      have e20 : U9 470 p 0 = T 470 p 0 := up_k hU9 (by exact Nat.ne_of_beq_eq_false rfl) p 0
      have e21 : U9 470 p 1 = T 470 p 1 := up_k hU9 (by exact Nat.ne_of_beq_eq_false rfl) p 1
      refine j_callV (y := yX3_walk) (Yc := zX3_walk) (rest := []) [vI s] (ct_X3_walk_e (T := U9) (ru := ru) (by exact rl_f (ws := [(466, [])]) hr (fr_u (fr_0 _ _) hU9 rfl) rfl (fun _ => rfl)) (by omega) (by omega)) cl_X3_132 (qd_c (by decide +kernel)) (nn_ _) rfl (rf_of rfl) (Nat.le_of_ble_eq_true rfl) (Nat.le_of_ble_eq_true rfl) (Nat.le_of_ble_eq_true rfl) rfl ?_
      rintro U22 _ ⟨rfl, fU22, qU22o, qU22, qU22e⟩
      show J_ zX3_playBaseball T (po_X3_playBaseball_e T p ru k s v) 0 0 62 _ [] U22
      refine j_blx (F := fX3) tb_X3 (nn_ _) bk_X3_playBaseball_e_62 bs_X3_playBaseball_e_62 hz (fun K hK => ?_)
      refine hK 96 _ [] U22 ?_
      refine j_blx (F := fX3) tb_X3 (nn_ _) bk_X3_playBaseball_e_96 bs_X3_playBaseball_e_96 hz (fun K hK => ?_)
      refine (show po_X3_playBaseball_e T p ru k s v U22 (none) from ?_)
      have e23 : U22 470 p 0 = T 470 p 0 := (fU22 470 p 0 rfl).trans (up_k hU9 (by exact Nat.ne_of_beq_eq_false rfl) p 0)
      have e24 : U22 470 p 1 = T 470 p 1 := (fU22 470 p 1 rfl).trans (up_k hU9 (by exact Nat.ne_of_beq_eq_false rfl) p 1)
      have g25 : U22 470 p 0 = T 470 p 0 := (fU22 470 p 0 rfl).trans (up_k hU9 (by exact Nat.ne_of_beq_eq_false rfl) p 0)
      have g26 : U22 470 p 1 = T 470 p 1 := (fU22 470 p 1 rfl).trans (up_k hU9 (by exact Nat.ne_of_beq_eq_false rfl) p 1)
      have rU9 : rs9_ U9 p = u2_ (rs9_ T p) 466 0 (wr_ ((T 466 p 0) + 1)) := rs_u hU9 rfl
      have rU22 : rs9_ U22 p = wk9_ ru (u2_ (rs9_ T p) 466 0 (wr_ ((T 466 p 0) + 1))) s := by rw [qU22e, rU9]
      exact ⟨rfl, fr_t (fr_u (fr_0 _ _) hU9 rfl) (fr_s fU22 rfl), oi_t (oi_u (oi_r) hU9) qU22o, by exact fun _ => by omega, Eq.trans rU22 (pbb9__2 (r := ru) (a := (rs9_ T p)) (k := k) (s := s) (v := v) (show ¬ (k = 1) by omega) (show k = 2 by omega) (show wr_ (T 466 p 0 + 1) = 4 by omega)).symm⟩
  by_cases z1_2 : k = 3
  · refine j_tsI (pc := 1) 2 (off := 64) (tgt := 65) (by decide) ds_X3_playBaseball_1 (by omega) (by decide) rfl (by decide) (by decide) ?_
    refine j_blx (F := fX3) tb_X3 (nn_ _) bk_X3_playBaseball_e_65 bs_X3_playBaseball_e_65 hz (fun K hK => ?_)
    refine ix_i (by omega) ?_
    intro b27 b27b
    intro w28 w28b
    refine iy_i (by omega) (by omega) ?_
    refine x_nm (fun U29 hU29 => ?_)
    have e30 := up_f hU29
    refine ix_i (by omega) ?_
    intro b31 b31b
    have e32 : U29 466 p 1 = wr_ ((T 466 p 1) + 1) := up_f hU29
    rw [e32] at b31 b31b ⊢
    refine And.intro (fun c33 => ?_) (fun c33 => ?_)
    · refine hK 96 _ [] U29 ?_
      refine j_blx (F := fX3) tb_X3 (nn_ _) bk_X3_playBaseball_e_96 bs_X3_playBaseball_e_96 hz (fun K hK => ?_)
      refine (show po_X3_playBaseball_e T p ru k s v U29 (none) from ?_)
      have e34 : U29 103 p 3 = T 103 p 3 := up_k hU29 (by exact Nat.ne_of_beq_eq_false rfl) p 3
      have e35 : U29 470 p 0 = T 470 p 0 := up_k hU29 (by exact Nat.ne_of_beq_eq_false rfl) p 0
      have e36 : U29 470 p 1 = T 470 p 1 := up_k hU29 (by exact Nat.ne_of_beq_eq_false rfl) p 1
      have g37 : U29 470 p 0 = T 470 p 0 := up_k hU29 (by exact Nat.ne_of_beq_eq_false rfl) p 0
      have g38 : U29 470 p 1 = T 470 p 1 := up_k hU29 (by exact Nat.ne_of_beq_eq_false rfl) p 1
      have e39 : U29 103 p 3 = T 103 p 3 := up_k hU29 (by exact Nat.ne_of_beq_eq_false rfl) p 3
      have rU29 : rs9_ U29 p = u2_ (rs9_ T p) 466 1 (wr_ ((T 466 p 1) + 1)) := rs_u hU29 rfl
      exact ⟨rfl, fr_u (fr_0 _ _) hU29 rfl, oi_u (oi_r) hU29, by exact fun _ => by omega, Eq.trans rU29 (pbb9__5 (r := ru) (a := (rs9_ T p)) (k := k) (s := s) (v := v) (show ¬ (k = 1) by omega) (show ¬ (k = 2) by omega) (show k = 3 by omega) (show ¬ (wr_ (T 466 p 1 + 1) = 3) by omega)).symm⟩
    · refine hK 86 _ [vR 103 p] U29 ?_
      have e40 : U29 470 p 0 = T 470 p 0 := up_k hU29 (by exact Nat.ne_of_beq_eq_false rfl) p 0
      have e41 : U29 470 p 1 = T 470 p 1 := up_k hU29 (by exact Nat.ne_of_beq_eq_false rfl) p 1
      refine j_callV (y := yX3_countOut) (Yc := zX3_countOut) (rest := []) [] (ct_X3_countOut_e (T := U29) (ru := ru) (by exact rl_f (ws := [(466, [])]) hr (fr_u (fr_0 _ _) hU29 rfl) rfl (fun _ => rfl)) (by omega)) cl_X3_135 (qd_c (by decide +kernel)) (nn_ _) rfl (rf_of rfl) (Nat.le_of_ble_eq_true rfl) (Nat.le_of_ble_eq_true rfl) (Nat.le_of_ble_eq_true rfl) rfl ?_
      rintro U42 _ ⟨rfl, fU42, qU42o, qU42, qU42e⟩
      show J_ zX3_playBaseball T (po_X3_playBaseball_e T p ru k s v) 0 0 89 _ [] U42
      refine j_blx (F := fX3) tb_X3 (nn_ _) bk_X3_playBaseball_e_89 bs_X3_playBaseball_e_89 hz (fun K hK => ?_)
      refine hK 96 _ [] U42 ?_
      refine j_blx (F := fX3) tb_X3 (nn_ _) bk_X3_playBaseball_e_96 bs_X3_playBaseball_e_96 hz (fun K hK => ?_)
      refine (show po_X3_playBaseball_e T p ru k s v U42 (none) from ?_)
      have e43 : U42 470 p 0 = T 470 p 0 := (fU42 470 p 0 rfl).trans (up_k hU29 (by exact Nat.ne_of_beq_eq_false rfl) p 0)
      have e44 : U42 470 p 1 = T 470 p 1 := (fU42 470 p 1 rfl).trans (up_k hU29 (by exact Nat.ne_of_beq_eq_false rfl) p 1)
      have g45 : U42 470 p 0 = T 470 p 0 := (fU42 470 p 0 rfl).trans (up_k hU29 (by exact Nat.ne_of_beq_eq_false rfl) p 0)
      have g46 : U42 470 p 1 = T 470 p 1 := (fU42 470 p 1 rfl).trans (up_k hU29 (by exact Nat.ne_of_beq_eq_false rfl) p 1)
      have rU29 : rs9_ U29 p = u2_ (rs9_ T p) 466 1 (wr_ ((T 466 p 1) + 1)) := rs_u hU29 rfl
      have rU42 : rs9_ U42 p = co9_ ru (u2_ (rs9_ T p) 466 1 (wr_ ((T 466 p 1) + 1))) := by rw [qU42e, rU29]
      exact ⟨rfl, fr_t (fr_u (fr_0 _ _) hU29 rfl) (fr_s fU42 rfl), oi_t (oi_u (oi_r) hU29) qU42o, by exact fun _ => by omega, Eq.trans rU42 (pbb9__4 (r := ru) (a := (rs9_ T p)) (k := k) (s := s) (v := v) (show ¬ (k = 1) by omega) (show ¬ (k = 2) by omega) (show k = 3 by omega) (show wr_ (T 466 p 1 + 1) = 3 by omega)).symm⟩
  refine j_tsO (pc := 1) (tgt := 92) (by decide) ds_X3_playBaseball_1 (by omega) (by decide) (by decide) ?_
  refine j_blx (F := fX3) tb_X3 (nn_ _) bk_X3_playBaseball_e_92 bs_X3_playBaseball_e_92 hz (fun K hK => ?_)
  refine hK 93 _ [vR 103 p] T ?_
  refine j_callV (y := yX3_countOut) (Yc := zX3_countOut) (rest := []) [] (ct_X3_countOut_e (T := T) (ru := ru) (by exact hr) (by omega)) cl_X3_135 (qd_c (by decide +kernel)) (nn_ _) rfl (rf_of rfl) (Nat.le_of_ble_eq_true rfl) (Nat.le_of_ble_eq_true rfl) (Nat.le_of_ble_eq_true rfl) rfl ?_
  rintro U47 _ ⟨rfl, fU47, qU47o, qU47, qU47e⟩
  show J_ zX3_playBaseball T (po_X3_playBaseball_e T p ru k s v) 0 0 96 _ [] U47
  refine j_blx (F := fX3) tb_X3 (nn_ _) bk_X3_playBaseball_e_96 bs_X3_playBaseball_e_96 hz (fun K hK => ?_)
  refine (show po_X3_playBaseball_e T p ru k s v U47 (none) from ?_)
  have e48 : U47 470 p 0 = T 470 p 0 := fU47 470 p 0 rfl
  have e49 : U47 470 p 1 = T 470 p 1 := fU47 470 p 1 rfl
  have g50 : U47 470 p 0 = T 470 p 0 := fU47 470 p 0 rfl
  have g51 : U47 470 p 1 = T 470 p 1 := fU47 470 p 1 rfl
  have rU47 : rs9_ U47 p = co9_ ru (rs9_ T p) := qU47e
  exact ⟨rfl, fr_t (fr_0 _ _) (fr_s fU47 rfl), oi_t (oi_r) qU47o, by exact fun _ => by omega, Eq.trans rU47 (pbb9__6 (r := ru) (a := (rs9_ T p)) (k := k) (s := s) (v := v) (show ¬ (k = 1) by omega) (show ¬ (k = 2) by omega) (show ¬ (k = 3) by omega)).symm⟩
