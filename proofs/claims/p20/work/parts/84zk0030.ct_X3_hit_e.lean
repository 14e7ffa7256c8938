theorem bk_X3_hit_e_0 : ck_ fX3 none cX3_hit 0 [.aload 0, .tableswitch 0 3 7 #[], .iconst 1, .iaload, .iload 2, .ishl, .iconst 1, .iload 2, .iconst 1, .fsub, .ishl, .ior, .istore 3, .aload 0, .tableswitch 0 3 7 #[], .iconst 1, .iload 3, .iconst 7, .iand, .iastore, .aload 0, .iload 1, .iload 3, .iconst 3, .ishr] 30 = true := qck_r (nn_ _) (by decide +kernel)
theorem bs_X3_hit_e_0 {P : Zt → Option Zv → Prop} (K : Int → Zl → List Zv → Zt → Prop) : sx_ K P [.aload 0, .tableswitch 0 3 7 #[], .iconst 1, .iaload, .iload 2, .ishl, .iconst 1, .iload 2, .iconst 1, .fsub, .ishl, .ior, .istore 3, .aload 0, .tableswitch 0 3 7 #[], .iconst 1, .iload 3, .iconst 7, .iand, .iastore, .aload 0, .iload 1, .iload 3, .iconst 3, .ishr] 30 = x_aload 0 (x_g2 103 467 (x_iconst 1 (x_iaload (x_iload 2 (x_ishl (x_iconst 1 (x_iload 2 (x_iconst 1 (x_fsub (x_ishl (x_ior (x_istore 3 (x_aload 0 (x_g2 103 467 (x_iconst 1 (x_iload 3 (x_iconst 7 (x_iand (x_iastore (x_aload 0 (x_iload 1 (x_iload 3 (x_iconst 3 (x_ishr (K 30))))))))))))))))))))))))) := ((xe_aload 0).trans (congrArg (x_aload 0) ((xe_g2 (kk := 103) rfl tl_3_7).trans (congrArg (x_g2 103 467) ((xe_iconst 1).trans (congrArg (x_iconst 1) ((xe_iaload).trans (congrArg (x_iaload) ((xe_iload 2).trans (congrArg (x_iload 2) ((xe_ishl).trans (congrArg (x_ishl) ((xe_iconst 1).trans (congrArg (x_iconst 1) ((xe_iload 2).trans (congrArg (x_iload 2) ((xe_iconst 1).trans (congrArg (x_iconst 1) ((xe_fsub).trans (congrArg (x_fsub) ((xe_ishl).trans (congrArg (x_ishl) ((xe_ior).trans (congrArg (x_ior) ((xe_istore 3).trans (congrArg (x_istore 3) ((xe_aload 0).trans (congrArg (x_aload 0) ((xe_g2 (kk := 103) rfl tl_3_7).trans (congrArg (x_g2 103 467) ((xe_iconst 1).trans (congrArg (x_iconst 1) ((xe_iload 3).trans (congrArg (x_iload 3) ((xe_iconst 7).trans (congrArg (x_iconst 7) ((xe_iand).trans (congrArg (x_iand) ((xe_iastore).trans (congrArg (x_iastore) ((xe_aload 0).trans (congrArg (x_aload 0) ((xe_iload 1).trans (congrArg (x_iload 1) ((xe_iload 3).trans (congrArg (x_iload 3) ((xe_iconst 3).trans (congrArg (x_iconst 3) ((xe_ishr).trans (congrArg (x_ishr) xe_nil))))))))))))))))))))))))))))))))))))))))))))))))))
theorem bk_X3_hit_e_36 : ck_ fX3 none cX3_hit 36 [.return_] 37 = true := qck_r (nn_ _) (by decide +kernel)
theorem bs_X3_hit_e_36 {P : Zt → Option Zv → Prop} (K : Int → Zl → List Zv → Zt → Prop) : sx_ K P [.return_] 37 = x_return_ P := (xe_return_)
abbrev po_X3_hit_e (T : Zt) (p : Int) (ru : Int → Int) (s v : Int) : Zt → Option Zv → Prop := fun T' r => r = none ∧ fr_ [(103, [3]), (466, []), (468, []), (467, [])] T T' ∧ (oi_ T T' p ∧ (T' 103 p 3 = 0 → 1 ≤ T' 470 p 0 ∧ 1 ≤ T' 470 p 1) ∧ rs9_ T' p = ht9_ ru (rs9_ T p) s v)
set_option maxHeartbeats 4000000 in
theorem ct_X3_hit_e {T : Zt} {p : Int} {ru : Int → Int} {s v : Int} (hr : RLP_ T p ru) (hs : 0 ≤ s ∧ s ≤ 1) (hfd : 1 ≤ T 470 p 0 ∧ 1 ≤ T 470 p 1) : Ct_ yX3_hit zX3_hit T [vR 103 p, vI s, vI v] (po_X3_hit_e T p ru s v) := by
  refine ct_of pn_3 rfl rfl (Nat.le_of_ble_eq_true rfl) (fun hT hav => ?_)
  have hr_s : -2147483648 ≤ s ∧ s ≤ 2147483647 := hav (vI s) (List.mem_cons_of_mem _ List.mem_cons_self)
  have hr_v : -2147483648 ≤ v ∧ v ≤ 2147483647 := hav (vI v) (List.mem_cons_of_mem _ (List.mem_cons_of_mem _ List.mem_cons_self))
  have hz : zX3_hit.2.2.2.1 = some .boolean → ∀ (T' : Zt) (x : Int), po_X3_hit_e T p ru s v T' (some (vI x)) → 0 ≤ x ∧ x ≤ 1 := fun h => by cases h
  have hr0 := hr 0 (by decide) (by decide)
  have hr9 := hr 9 (by decide) (by decide)
  have hr10 := hr 10 (by decide) (by decide)
  have hr11 := hr 11 (by decide) (by decide)
  have hr12 := hr 12 (by decide) (by decide)
  show J_ zX3_hit T (po_X3_hit_e T p ru s v) 0 0 0 [some (vR 103 p), some (vI s), some (vI v), none] [] T
  refine j_blx (F := fX3) tb_X3 (nn_ _) bk_X3_hit_e_0 bs_X3_hit_e_0 hz (fun K hK => ?_)
  refine ix_i (by omega) ?_
  intro b1 b1b
  intro w2 w2b
  intro w3 w3b
  intro w4 w4b
  intro w5 w5b
  intro w6 w6b
  refine iy_i (by omega) (by omega) ?_
  refine x_nm (fun U7 hU7 => ?_)
  have e8 := up_f hU7
  intro w9 w9b
  refine hK 30 [some (vR 103 p), some (vI s), some (vI v), some (vI (or_ (sl_ (T 467 p 1) v) (sl_ 1 (wr_ (v - 1)))))] [vI (sr_ (or_ (sl_ (T 467 p 1) v) (sl_ 1 (wr_ (v - 1)))) 3), vI s, vR 103 p] U7 ?_
  refine j_callS (y := yJ6_bitCount_0f7a4) (Yc := zJ6_bitCount_0f7a4) (rest := [vI s, vR 103 p]) [vI (sr_ (or_ (sl_ (T 467 p 1) v) (sl_ 1 (wr_ (v - 1)))) 3)] (ct_J6_bitCount_e (T := U7)) cl_X3_138 (qd_c (by decide +kernel)) (nn_ _) rfl (rf_of rfl) (Nat.le_of_ble_eq_true rfl) (Nat.le_of_ble_eq_true rfl) (Nat.le_of_ble_eq_true rfl) rfl ?_
  rintro _ _ ⟨rfl, rfl⟩
  show J_ zX3_hit T (po_X3_hit_e T p ru s v) 0 0 33 _ [vI (bc9_ (sr_ (or_ (sl_ (T 467 p 1) v) (sl_ 1 (wr_ (v - 1)))) 3)), vI s, vR 103 p] U7
  have e10 : U7 470 p 0 = T 470 p 0 := up_k hU7 (by exact Nat.ne_of_beq_eq_false rfl) p 0
  have e11 : U7 470 p 1 = T 470 p 1 := up_k hU7 (by exact Nat.ne_of_beq_eq_false rfl) p 1
  refine j_callV (y := yX3_goOnBase) (Yc := zX3_goOnBase) (rest := []) [vI s, vI (bc9_ (sr_ (or_ (sl_ (T 467 p 1) v) (sl_ 1 (wr_ (v - 1)))) 3))] (ct_X3_goOnBase_e (T := U7) (ru := ru) (by exact rl_f (ws := [(467, [])]) hr (fr_u (fr_0 _ _) hU7 rfl) rfl (fun _ => rfl)) (by omega) (by omega)) cl_X3_144 (qd_c (by decide +kernel)) (nn_ _) rfl (rf_of rfl) (Nat.le_of_ble_eq_true rfl) (Nat.le_of_ble_eq_true rfl) (Nat.le_of_ble_eq_true rfl) rfl ?_
  rintro U12 _ ⟨rfl, fU12, qU12o, qU12, qU12e⟩
  show J_ zX3_hit T (po_X3_hit_e T p ru s v) 0 0 36 _ [] U12
  refine j_blx (F := fX3) tb_X3 (nn_ _) bk_X3_hit_e_36 bs_X3_hit_e_36 hz (fun K hK => ?_)
  refine (show po_X3_hit_e T p ru s v U12 (none) from ?_)
  have e13 : U12 470 p 0 = T 470 p 0 := (fU12 470 p 0 rfl).trans (up_k hU7 (by exact Nat.ne_of_beq_eq_false rfl) p 0)
  have e14 : U12 470 p 1 = T 470 p 1 := (fU12 470 p 1 rfl).trans (up_k hU7 (by exact Nat.ne_of_beq_eq_false rfl) p 1)
  have g15 : U12 470 p 0 = T 470 p 0 := (fU12 470 p 0 rfl).trans (up_k hU7 (by exact Nat.ne_of_beq_eq_false rfl) p 0)
  have g16 : U12 470 p 1 = T 470 p 1 := (fU12 470 p 1 rfl).trans (up_k hU7 (by exact Nat.ne_of_beq_eq_false rfl) p 1)
  have rU7 : rs9_ U7 p = u2_ (rs9_ T p) 467 1 (an_ (or_ (sl_ (T 467 p 1) v) (sl_ 1 (wr_ (v - 1)))) 7) := rs_u hU7 rfl
  have rU12 : rs9_ U12 p = gb9_ ru (u2_ (rs9_ T p) 467 1 (an_ (or_ (sl_ (T 467 p 1) v) (sl_ 1 (wr_ (v - 1)))) 7)) s (bc9_ (sr_ (or_ (sl_ (T 467 p 1) v) (sl_ 1 (wr_ (v - 1)))) 3)) := by rw [qU12e, rU7]
  exact ⟨rfl, fr_t (fr_u (fr_0 _ _) hU7 rfl) (fr_s fU12 rfl), oi_t (oi_u (oi_r) hU7) qU12o, by exact fun _ => by omega, Eq.trans rU12 (ht9__1 (r := ru) (a := (rs9_ T p)) (s := s) (v := v)).symm⟩
