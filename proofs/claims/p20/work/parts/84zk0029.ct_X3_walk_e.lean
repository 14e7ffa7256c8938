theorem bk_X3_walk_e_0 : ck_ fX3 none cX3_walk 0 [.aload 0, .tableswitch 0 3 7 #[], .iconst 1, .iaload, .istore 2, .aload 0, .tableswitch 0 3 7 #[], .iconst 1, .iload 2, .iconst 1, .iand, .ifCond .ne 24, .iload 2, .iconst 1, .ior, .goto 38] 24 = true := qck_r (nn_ _) (by decide +kernel)
theorem bs_X3_walk_e_0 {P : Zt → Option Zv → Prop} (K : Int → Zl → List Zv → Zt → Prop) : sx_ K P [.aload 0, .tableswitch 0 3 7 #[], .iconst 1, .iaload, .istore 2, .aload 0, .tableswitch 0 3 7 #[], .iconst 1, .iload 2, .iconst 1, .iand, .ifCond .ne 24, .iload 2, .iconst 1, .ior, .goto 38] 24 = x_aload 0 (x_g2 103 467 (x_iconst 1 (x_iaload (x_istore 2 (x_aload 0 (x_g2 103 467 (x_iconst 1 (x_iload 2 (x_iconst 1 (x_iand (x_ifCond .ne 24 K (x_iload 2 (x_iconst 1 (x_ior (x_goto 38 K))))))))))))))) := ((xe_aload 0).trans (congrArg (x_aload 0) ((xe_g2 (kk := 103) rfl tl_3_7).trans (congrArg (x_g2 103 467) ((xe_iconst 1).trans (congrArg (x_iconst 1) ((xe_iaload).trans (congrArg (x_iaload) ((xe_istore 2).trans (congrArg (x_istore 2) ((xe_aload 0).trans (congrArg (x_aload 0) ((xe_g2 (kk := 103) rfl tl_3_7).trans (congrArg (x_g2 103 467) ((xe_iconst 1).trans (congrArg (x_iconst 1) ((xe_iload 2).trans (congrArg (x_iload 2) ((xe_iconst 1).trans (congrArg (x_iconst 1) ((xe_iand).trans (congrArg (x_iand) ((xe_ifCond .ne 24).trans (congrArg (x_ifCond .ne 24 K) ((xe_iload 2).trans (congrArg (x_iload 2) ((xe_iconst 1).trans (congrArg (x_iconst 1) ((xe_ior).trans (congrArg (x_ior) (xe_goto 38)))))))))))))))))))))))))))))))
theorem bk_X3_walk_e_24 : ck_ fX3 none cX3_walk 24 [.iload 2, .iconst 2, .iand, .ifCond .ne 36, .iload 2, .iconst 2, .ior, .goto 38] 36 = true := qck_r (nn_ _) (by decide +kernel)
theorem bs_X3_walk_e_24 {P : Zt → Option Zv → Prop} (K : Int → Zl → List Zv → Zt → Prop) : sx_ K P [.iload 2, .iconst 2, .iand, .ifCond .ne 36, .iload 2, .iconst 2, .ior, .goto 38] 36 = x_iload 2 (x_iconst 2 (x_iand (x_ifCond .ne 36 K (x_iload 2 (x_iconst 2 (x_ior (x_goto 38 K))))))) := ((xe_iload 2).trans (congrArg (x_iload 2) ((xe_iconst 2).trans (congrArg (x_iconst 2) ((xe_iand).trans (congrArg (x_iand) ((xe_ifCond .ne 36).trans (congrArg (x_ifCond .ne 36 K) ((xe_iload 2).trans (congrArg (x_iload 2) ((xe_iconst 2).trans (congrArg (x_iconst 2) ((xe_ior).trans (congrArg (x_ior) (xe_goto 38)))))))))))))))
theorem bk_X3_walk_e_36 : ck_ fX3 none cX3_walk 36 [.iconst 7, .iastore, .aload 0, .iload 1, .iload 2, .iconst 7, .if_icmp .ne 51, .iconst 1, .goto 52] 51 = true := qck_r (nn_ _) (by decide +kernel)
theorem bs_X3_walk_e_36 {P : Zt → Option Zv → Prop} (K : Int → Zl → List Zv → Zt → Prop) : sx_ K P [.iconst 7, .iastore, .aload 0, .iload 1, .iload 2, .iconst 7, .if_icmp .ne 51, .iconst 1, .goto 52] 51 = x_iconst 7 (x_iastore (x_aload 0 (x_iload 1 (x_iload 2 (x_iconst 7 (x_if_icmp .ne 51 K (x_iconst 1 (x_goto 52 K)))))))) := ((xe_iconst 7).trans (congrArg (x_iconst 7) ((xe_iastore).trans (congrArg (x_iastore) ((xe_aload 0).trans (congrArg (x_aload 0) ((xe_iload 1).trans (congrArg (x_iload 1) ((xe_iload 2).trans (congrArg (x_iload 2) ((xe_iconst 7).trans (congrArg (x_iconst 7) ((xe_if_icmp .ne 51).trans (congrArg (x_if_icmp .ne 51 K) ((xe_iconst 1).trans (congrArg (x_iconst 1) (xe_goto 52)))))))))))))))))
theorem bk_X3_walk_e_51 : ck_ fX3 none cX3_walk 51 [.iconst 0] 52 = true := qck_r (nn_ _) (by decide +kernel)
theorem bs_X3_walk_e_51 {P : Zt → Option Zv → Prop} (K : Int → Zl → List Zv → Zt → Prop) : sx_ K P [.iconst 0] 52 = x_iconst 0 (K 52) := ((xe_iconst 0).trans (congrArg (x_iconst 0) xe_nil))
theorem bk_X3_walk_e_55 : ck_ fX3 none cX3_walk 55 [.return_] 56 = true := qck_r (nn_ _) (by decide +kernel)
theorem bs_X3_walk_e_55 {P : Zt → Option Zv → Prop} (K : Int → Zl → List Zv → Zt → Prop) : sx_ K P [.return_] 56 = x_return_ P := (xe_return_)
theorem bk_X3_walk_e_38 : ck_ fX3 none cX3_walk 38 [.iastore, .aload 0, .iload 1, .iload 2, .iconst 7, .if_icmp .ne 51, .iconst 1, .goto 52] 51 = true := qck_r (nn_ _) (by decide +kernel)
theorem bs_X3_walk_e_38 {P : Zt → Option Zv → Prop} (K : Int → Zl → List Zv → Zt → Prop) : sx_ K P [.iastore, .aload 0, .iload 1, .iload 2, .iconst 7, .if_icmp .ne 51, .iconst 1, .goto 52] 51 = x_iastore (x_aload 0 (x_iload 1 (x_iload 2 (x_iconst 7 (x_if_icmp .ne 51 K (x_iconst 1 (x_goto 52 K))))))) := ((xe_iastore).trans (congrArg (x_iastore) ((xe_aload 0).trans (congrArg (x_aload 0) ((xe_iload 1).trans (congrArg (x_iload 1) ((xe_iload 2).trans (congrArg (x_iload 2) ((xe_iconst 7).trans (congrArg (x_iconst 7) ((xe_if_icmp .ne 51).trans (congrArg (x_if_icmp .ne 51 K) ((xe_iconst 1).trans (congrArg (x_iconst 1) (xe_goto 52)))))))))))))))
abbrev po_X3_walk_e (T : Zt) (p : Int) (ru : Int → Int) (s : Int) : Zt → Option Zv → Prop := fun T' r => r = none ∧ fr_ [(103, [3]), (466, []), (468, []), (467, [])] T T' ∧ (oi_ T T' p ∧ (T' 103 p 3 = 0 → 1 ≤ T' 470 p 0 ∧ 1 ≤ T' 470 p 1) ∧ rs9_ T' p = wk9_ ru (rs9_ T p) s)
set_option maxHeartbeats 4000000 in
theorem ct_X3_walk_e {T : Zt} {p : Int} {ru : Int → Int} {s : Int} (hr : RLP_ T p ru) (hs : 0 ≤ s ∧ s ≤ 1) (hfd : 1 ≤ T 470 p 0 ∧ 1 ≤ T 470 p 1) : Ct_ yX3_walk zX3_walk T [vR 103 p, vI s] (po_X3_walk_e T p ru s) := by
  refine ct_of pn_3 rfl rfl (Nat.le_of_ble_eq_true rfl) (fun hT hav => ?_)
  have hr_s : -2147483648 ≤ s ∧ s ≤ 2147483647 := hav (vI s) (List.mem_cons_of_mem _ List.mem_cons_self)
  have hz : zX3_walk.2.2.2.1 = some .boolean → ∀ (T' : Zt) (x : Int), po_X3_walk_e T p ru s T' (some (vI x)) → 0 ≤ x ∧ x ≤ 1 := fun h => by cases h
  have hr0 := hr 0 (by decide) (by decide)
  have hr9 := hr 9 (by decide) (by decide)
  have hr10 := hr 10 (by decide) (by decide)
  have hr11 := hr 11 (by decide) (by decide)
  have hr12 := hr 12 (by decide) (by decide)
  show J_ zX3_walk T (po_X3_walk_e T p ru s) 0 0 0 [some (vR 103 p), some (vI s), none] [] T
  refine j_blx (F := fX3) tb_X3 (nn_ _) bk_X3_walk_e_0 bs_X3_walk_e_0 hz (fun K hK => ?_)
  refine ix_i (by omega) ?_
  intro b1 b1b
  intro w2 w2b
  refine And.intro (fun c3 => ?_) (fun c3 => ?_)
  · refine hK 24 [some (vR 103 p), some (vI s), some (vI (T 467 p 1))] [vI 1, vR 467 p] T ?_
    refine j_blx (F := fX3) tb_X3 (nn_ _) bk_X3_walk_e_24 bs_X3_walk_e_24 hz (fun K hK => ?_)
    intro w4 w4b
    refine And.intro (fun c5 => ?_) (fun c5 => ?_)
    · refine hK 36 _ [vI 1, vR 467 p] T ?_
      refine j_blx (F := fX3) tb_X3 (nn_ _) bk_X3_walk_e_36 bs_X3_walk_e_36 hz (fun K hK => ?_)
      refine iy_i (by omega) (by omega) ?_
      refine x_nm (fun U6 hU6 => ?_)
      have e7 := up_f hU6
      refine And.intro (fun c8 => ?_) (fun c8 => ?_)
      · refine hK 51 _ [vI s, vR 103 p] U6 ?_
        refine j_blx (F := fX3) tb_X3 (nn_ _) bk_X3_walk_e_51 bs_X3_walk_e_51 hz (fun K hK => ?_)
        refine hK 52 _ [vI 0, vI s, vR 103 p] U6 ?_
        have e9 : U6 470 p 0 = T 470 p 0 := up_k hU6 (by exact Nat.ne_of_beq_eq_false rfl) p 0
        have e10 : U6 470 p 1 = T 470 p 1 := up_k hU6 (by exact Nat.ne_of_beq_eq_false rfl) p 1
        refine j_callV (y := yX3_goOnBase) (Yc := zX3_goOnBase) (rest := []) [vI s, vI 0] (ct_X3_goOnBase_e (T := U6) (ru := ru) (by exact rl_f (ws := [(467, [])]) hr (fr_u (fr_0 _ _) hU6 rfl) rfl (fun _ => rfl)) (by omega) (by omega)) cl_X3_144 (qd_c (by decide +kernel)) (nn_ _) rfl (rf_of rfl) (Nat.le_of_ble_eq_true rfl) (Nat.le_of_ble_eq_true rfl) (Nat.le_of_ble_eq_true rfl) rfl ?_
        rintro U11 _ ⟨rfl, fU11, qU11o, qU11, qU11e⟩
        show J_ zX3_walk T (po_X3_walk_e T p ru s) 0 0 55 _ [] U11
        refine j_blx (F := fX3) tb_X3 (nn_ _) bk_X3_walk_e_55 bs_X3_walk_e_55 hz (fun K hK => ?_)
        refine (show po_X3_walk_e T p ru s U11 (none) from ?_)
        have e12 : U11 470 p 0 = T 470 p 0 := (fU11 470 p 0 rfl).trans (up_k hU6 (by exact Nat.ne_of_beq_eq_false rfl) p 0)
        have e13 : U11 470 p 1 = T 470 p 1 := (fU11 470 p 1 rfl).trans (up_k hU6 (by exact Nat.ne_of_beq_eq_false rfl) p 1)
        have g14 : U11 470 p 0 = T 470 p 0 := (fU11 470 p 0 rfl).trans (up_k hU6 (by exact Nat.ne_of_beq_eq_false rfl) p 0)
        have g15 : U11 470 p 1 = T 470 p 1 := (fU11 470 p 1 rfl).trans (up_k hU6 (by exact Nat.ne_of_beq_eq_false rfl) p 1)
        have rU6 : rs9_ U6 p = u2_ (rs9_ T p) 467 1 7 := rs_u hU6 rfl
        have rU11 : rs9_ U11 p = gb9_ ru (u2_ (rs9_ T p) 467 1 7) s 0 := by rw [qU11e, rU6]
        exact ⟨rfl, fr_t (fr_u (fr_0 _ _) hU6 rfl) (fr_s fU11 rfl), oi_t (oi_u (oi_r) hU6) qU11o, by exact fun _ => by omega, Eq.trans rU11 (wk9__6 (r := ru) (a := (rs9_ T p)) (s := s) (show ¬ (an_ (T 467 p 1) 1 = 0) by omega) (show ¬ (an_ (T 467 p 1) 2 = 0) by omega) (show ¬ (T 467 p 1 = 7) by omega)).symm⟩
      · refine hK 52 _ [vI 1, vI s, vR 103 p] U6 ?_
        have e16 : U6 470 p 0 = T 470 p 0 := up_k hU6 (by exact Nat.ne_of_beq_eq_false rfl) p 0
        have e17 : U6 470 p 1 = T 470 p 1 := up_k hU6 (by exact Nat.ne_of_beq_eq_false rfl) p 1
        refine j_callV (y := yX3_goOnBase) (Yc := zX3_goOnBase) (rest := []) [vI s, vI 1] (ct_X3_goOnBase_e (T := U6) (ru := ru) (by exact rl_f (ws := [(467, [])]) hr (fr_u (fr_0 _ _) hU6 rfl) rfl (fun _ => rfl)) (by omega) (by omega)) cl_X3_144 (qd_c (by decide +kernel)) (nn_ _) rfl (rf_of rfl) (Nat.le_of_ble_eq_true rfl) (Nat.le_of_ble_eq_true rfl) (Nat.le_of_ble_eq_true rfl) rfl ?_
        rintro U18 _ ⟨rfl, fU18, qU18o, qU18, qU18e⟩
        show J_ zX3_walk T (po_X3_walk_e T p ru s) 0 0 55 _ [] U18
        refine j_blx (F := fX3) tb_X3 (nn_ _) bk_X3_walk_e_55 bs_X3_walk_e_55 hz (fun K hK => ?_)
        refine (show po_X3_walk_e T p ru s U18 (none) from ?_)
        have e19 : U18 470 p 0 = T 470 p 0 := (fU18 470 p 0 rfl).trans (up_k hU6 (by exact Nat.ne_of_beq_eq_false rfl) p 0)
        have e20 : U18 470 p 1 = T 470 p 1 := (fU18 470 p 1 rfl).trans (up_k hU6 (by exact Nat.ne_of_beq_eq_false rfl) p 1)
        have g21 : U18 470 p 0 = T 470 p 0 := (fU18 470 p 0 rfl).trans (up_k hU6 (by exact Nat.ne_of_beq_eq_false rfl) p 0)
        have g22 : U18 470 p 1 = T 470 p 1 := (fU18 470 p 1 rfl).trans (up_k hU6 (by exact Nat.ne_of_beq_eq_false rfl) p 1)
        have rU6 : rs9_ U6 p = u2_ (rs9_ T p) 467 1 7 := rs_u hU6 rfl
        have rU18 : rs9_ U18 p = gb9_ ru (u2_ (rs9_ T p) 467 1 7) s 1 := by rw [qU18e, rU6]
        exact ⟨rfl, fr_t (fr_u (fr_0 _ _) hU6 rfl) (fr_s fU18 rfl), oi_t (oi_u (oi_r) hU6) qU18o, by exact fun _ => by omega, Eq.trans rU18 (wk9__5 (r := ru) (a := (rs9_ T p)) (s := s) (show ¬ (an_ (T 467 p 1) 1 = 0) by omega) (show ¬ (an_ (T 467 p 1) 2 = 0) by omega) (show T 467 p 1 = 7 by omega)).symm⟩
    · intro w23 w23b
      refine hK 38 _ [vI (or_ (T 467 p 1) 2), vI 1, vR 467 p] T ?_
      refine j_blx (F := fX3) tb_X3 (nn_ _) bk_X3_walk_e_38 bs_X3_walk_e_38 hz (fun K hK => ?_)
      refine iy_i (by omega) (by omega) ?_
      refine x_nm (fun U24 hU24 => ?_)
      have e25 := up_f hU24
      refine And.intro (fun c26 => ?_) (fun c26 => ?_)
      · refine hK 51 _ [vI s, vR 103 p] U24 ?_
        refine j_blx (F := fX3) tb_X3 (nn_ _) bk_X3_walk_e_51 bs_X3_walk_e_51 hz (fun K hK => ?_)
        refine hK 52 _ [vI 0, vI s, vR 103 p] U24 ?_
        have e27 : U24 470 p 0 = T 470 p 0 := up_k hU24 (by exact Nat.ne_of_beq_eq_false rfl) p 0
        have e28 : U24 470 p 1 = T 470 p 1 := up_k hU24 (by exact Nat.ne_of_beq_eq_false rfl) p 1
        refine j_callV (y := yX3_goOnBase) (Yc := zX3_goOnBase) (rest := []) [vI s, vI 0] (ct_X3_goOnBase_e (T := U24) (ru := ru) (by exact rl_f (ws := [(467, [])]) hr (fr_u (fr_0 _ _) hU24 rfl) rfl (fun _ => rfl)) (by omega) (by omega)) cl_X3_144 (qd_c (by decide +kernel)) (nn_ _) rfl (rf_of rfl) (Nat.le_of_ble_eq_true rfl) (Nat.le_of_ble_eq_true rfl) (Nat.le_of_ble_eq_true rfl) rfl ?_
        rintro U29 _ ⟨rfl, fU29, qU29o, qU29, qU29e⟩
        show J_ zX3_walk T (po_X3_walk_e T p ru s) 0 0 55 _ [] U29
        refine j_blx (F := fX3) tb_X3 (nn_ _) bk_X3_walk_e_55 bs_X3_walk_e_55 hz (fun K hK => ?_)
        refine (show po_X3_walk_e T p ru s U29 (none) from ?_)
        have e30 : U29 470 p 0 = T 470 p 0 := (fU29 470 p 0 rfl).trans (up_k hU24 (by exact Nat.ne_of_beq_eq_false rfl) p 0)
        have e31 : U29 470 p 1 = T 470 p 1 := (fU29 470 p 1 rfl).trans (up_k hU24 (by exact Nat.ne_of_beq_eq_false rfl) p 1)
        have g32 : U29 470 p 0 = T 470 p 0 := (fU29 470 p 0 rfl).trans (up_k hU24 (by exact Nat.ne_of_beq_eq_false rfl) p 0)
        have g33 : U29 470 p 1 = T 470 p 1 := (fU29 470 p 1 rfl).trans (up_k hU24 (by exact Nat.ne_of_beq_eq_false rfl) p 1)
        have rU24 : rs9_ U24 p = u2_ (rs9_ T p) 467 1 (or_ (T 467 p 1) 2) := rs_u hU24 rfl
        have rU29 : rs9_ U29 p = gb9_ ru (u2_ (rs9_ T p) 467 1 (or_ (T 467 p 1) 2)) s 0 := by rw [qU29e, rU24]
        exact ⟨rfl, fr_t (fr_u (fr_0 _ _) hU24 rfl) (fr_s fU29 rfl), oi_t (oi_u (oi_r) hU24) qU29o, by exact fun _ => by omega, Eq.trans rU29 (wk9__4 (r := ru) (a := (rs9_ T p)) (s := s) (show ¬ (an_ (T 467 p 1) 1 = 0) by omega) (show an_ (T 467 p 1) 2 = 0 by omega) (show ¬ (T 467 p 1 = 7) by omega)).symm⟩
      · refine hK 52 _ [vI 1, vI s, vR 103 p] U24 ?_
        have e34 : U24 470 p 0 = T 470 p 0 := up_k hU24 (by exact Nat.ne_of_beq_eq_false rfl) p 0
        have e35 : U24 470 p 1 = T 470 p 1 := up_k hU24 (by exact Nat.ne_of_beq_eq_false rfl) p 1
        refine j_callV (y := yX3_goOnBase) (Yc := zX3_goOnBase) (rest := []) [vI s, vI 1] (ct_X3_goOnBase_e (T := U24) (ru := ru) (by exact rl_f (ws := [(467, [])]) hr (fr_u (fr_0 _ _) hU24 rfl) rfl (fun _ => rfl)) (by omega) (by omega)) cl_X3_144 (qd_c (by decide +kernel)) (nn_ _) rfl (rf_of rfl) (Nat.le_of_ble_eq_true rfl) (Nat.le_of_ble_eq_true rfl) (Nat.le_of_ble_eq_true rfl) rfl ?_
        rintro U36 _ ⟨rfl, fU36, qU36o, qU36, qU36e⟩
        show J_ zX3_walk T (po_X3_walk_e T p ru s) 0 0 55 _ [] U36
        refine j_blx (F := fX3) tb_X3 (nn_ _) bk_X3_walk_e_55 bs_X3_walk_e_55 hz (fun K hK => ?_)
        refine (show po_X3_walk_e T p ru s U36 (none) from ?_)
        have e37 : U36 470 p 0 = T 470 p 0 := (fU36 470 p 0 rfl).trans (up_k hU24 (by exact Nat.ne_of_beq_eq_false rfl) p 0)
        have e38 : U36 470 p 1 = T 470 p 1 := (fU36 470 p 1 rfl).trans (up_k hU24 (by exact Nat.ne_of_beq_eq_false rfl) p 1)
        have g39 : U36 470 p 0 = T 470 p 0 := (fU36 470 p 0 rfl).trans (up_k hU24 (by exact Nat.ne_of_beq_eq_false rfl) p 0)
        have g40 : U36 470 p 1 = T 470 p 1 := (fU36 470 p 1 rfl).trans (up_k hU24 (by exact Nat.ne_of_beq_eq_false rfl) p 1)
        have rU24 : rs9_ U24 p = u2_ (rs9_ T p) 467 1 (or_ (T 467 p 1) 2) := rs_u hU24 rfl
        have rU36 : rs9_ U36 p = gb9_ ru (u2_ (rs9_ T p) 467 1 (or_ (T 467 p 1) 2)) s 1 := by rw [qU36e, rU24]
        exact ⟨rfl, fr_t (fr_u (fr_0 _ _) hU24 rfl) (fr_s fU36 rfl), oi_t (oi_u (oi_r) hU24) qU36o, by exact fun _ => by omega, Eq.trans rU36 (wk9__3 (r := ru) (a := (rs9_ T p)) (s := s) (show ¬ (an_ (T 467 p 1) 1 = 0) by omega) (show an_ (T 467 p 1) 2 = 0 by omega) (show T 467 p 1 = 7 by omega)).symm⟩
  · intro w41 w41b
    refine hK 38 _ [vI (or_ (T 467 p 1) 1), vI 1, vR 467 p] T ?_
    refine j_blx (F := fX3) tb_X3 (nn_ _) bk_X3_walk_e_38 bs_X3_walk_e_38 hz (fun K hK => ?_)
    refine iy_i (by omega) (by omega) ?_
    refine x_nm (fun U42 hU42 => ?_)
    have e43 := up_f hU42
    refine And.intro (fun c44 => ?_) (fun c44 => ?_)
    · refine hK 51 _ [vI s, vR 103 p] U42 ?_
      refine j_blx (F := fX3) tb_X3 (nn_ _) bk_X3_walk_e_51 bs_X3_walk_e_51 hz (fun K hK => ?_)
      refine hK 52 _ [vI 0, vI s, vR 103 p] U42 ?_
      have e45 : U42 470 p 0 = T 470 p 0 := up_k hU42 (by exact Nat.ne_of_beq_eq_false rfl) p 0
      have e46 : U42 470 p 1 = T 470 p 1 := up_k hU42 (by exact Nat.ne_of_beq_eq_false rfl) p 1
      refine j_callV (y := yX3_goOnBase) (Yc := zX3_goOnBase) (rest := []) [vI s, vI 0] (ct_X3_goOnBase_e (T := U42) (ru := ru) (by exact rl_f (ws := [(467, [])]) hr (fr_u (fr_0 _ _) hU42 rfl) rfl (fun _ => rfl)) (by omega) (by omega)) cl_X3_144 (qd_c (by decide +kernel)) (nn_ _) rfl (rf_of rfl) (Nat.le_of_ble_eq_true rfl) (Nat.le_of_ble_eq_true rfl) (Nat.le_of_ble_eq_true rfl) rfl ?_
      rintro U47 _ ⟨rfl, fU47, qU47o, qU47, qU47e⟩
      show J_ zX3_walk T (po_X3_walk_e T p ru s) 0 0 55 _ [] U47
      refine j_blx (F := fX3) tb_X3 (nn_ _) bk_X3_walk_e_55 bs_X3_walk_e_55 hz (fun K hK => ?_)
      refine (show po_X3_walk_e T p ru s U47 (none) from ?_)
      have e48 : U47 470 p 0 = T 470 p 0 := (fU47 470 p 0 rfl).trans (up_k hU42 (by exact Nat.ne_of_beq_eq_false rfl) p 0)
      have e49 : U47 470 p 1 = T 470 p 1 := (fU47 470 p 1 rfl).trans (up_k hU42 (by exact Nat.ne_of_beq_eq_false rfl) p 1)
      have g50 : U47 470 p 0 = T 470 p 0 := (fU47 470 p 0 rfl).trans (up_k hU42 (by exact Nat.ne_of_beq_eq_false rfl) p 0)
      have g51 : U47 470 p 1 = T 470 p 1 := (fU47 470 p 1 rfl).trans (up_k hU42 (by exact Nat.ne_of_beq_eq_false rfl) p 1)
      have rU42 : rs9_ U42 p = u2_ (rs9_ T p) 467 1 (or_ (T 467 p 1) 1) := rs_u hU42 rfl
      have rU47 : rs9_ U47 p = gb9_ ru (u2_ (rs9_ T p) 467 1 (or_ (T 467 p 1) 1)) s 0 := by rw [qU47e, rU42]
      exact ⟨rfl, fr_t (fr_u (fr_0 _ _) hU42 rfl) (fr_s fU47 rfl), oi_t (oi_u (oi_r) hU42) qU47o, by exact fun _ => by omega, Eq.trans rU47 (wk9__2 (r := ru) (a := (rs9_ T p)) (s := s) (show an_ (T 467 p 1) 1 = 0 by omega) (show ¬ (T 467 p 1 = 7) by omega)).symm⟩
    · refine hK 52 _ [vI 1, vI s, vR 103 p] U42 ?_
      have e52 : U42 470 p 0 = T 470 p 0 := up_k hU42 (by exact Nat.ne_of_beq_eq_false rfl) p 0
      have e53 : U42 470 p 1 = T 470 p 1 := up_k hU42 (by exact Nat.ne_of_beq_eq_false rfl) p 1
      refine j_callV (y := yX3_goOnBase) (Yc := zX3_goOnBase) (rest := []) [vI s, vI 1] (ct_X3_goOnBase_e (T := U42) (ru := ru) (by exact rl_f (ws := [(467, [])]) hr (fr_u (fr_0 _ _) hU42 rfl) rfl (fun _ => rfl)) (by omega) (by omega)) cl_X3_144 (qd_c (by decide +kernel)) (nn_ _) rfl (rf_of rfl) (Nat.le_of_ble_eq_true rfl) (Nat.le_of_ble_eq_true rfl) (Nat.le_of_ble_eq_true rfl) rfl ?_
      rintro U54 _ ⟨rfl, fU54, qU54o, qU54, qU54e⟩
      show J_ zX3_walk T (po_X3_walk_e T p ru s) 0 0 55 _ [] U54
      refine j_blx (F := fX3) tb_X3 (nn_ _) bk_X3_walk_e_55 bs_X3_walk_e_55 hz (fun K hK => ?_)
      refine (show po_X3_walk_e T p ru s U54 (none) from ?_)
      have e55 : U54 470 p 0 = T 470 p 0 := (fU54 470 p 0 rfl).trans (up_k hU42 (by exact Nat.ne_of_beq_eq_false rfl) p 0)
      have e56 : U54 470 p 1 = T 470 p 1 := (fU54 470 p 1 rfl).trans (up_k hU42 (by exact Nat.ne_of_beq_eq_false rfl) p 1)
      have g57 : U54 470 p 0 = T 470 p 0 := (fU54 470 p 0 rfl).trans (up_k hU42 (by exact Nat.ne_of_beq_eq_false rfl) p 0)
      have g58 : U54 470 p 1 = T 470 p 1 := (fU54 470 p 1 rfl).trans (up_k hU42 (by exact Nat.ne_of_beq_eq_false rfl) p 1)
      have rU42 : rs9_ U42 p = u2_ (rs9_ T p) 467 1 (or_ (T 467 p 1) 1) := rs_u hU42 rfl
      have rU54 : rs9_ U54 p = gb9_ ru (u2_ (rs9_ T p) 467 1 (or_ (T 467 p 1) 1)) s 1 := by rw [qU54e, rU42]
      exact ⟨rfl, fr_t (fr_u (fr_0 _ _) hU42 rfl) (fr_s fU54 rfl), oi_t (oi_u (oi_r) hU42) qU54o, by exact fun _ => by omega, Eq.trans rU54 (wk9__1 (r := ru) (a := (rs9_ T p)) (s := s) (show an_ (T 467 p 1) 1 = 0 by omega) (show T 467 p 1 = 7 by omega)).symm⟩
