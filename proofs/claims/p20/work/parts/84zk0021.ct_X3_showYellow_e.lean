theorem bk_X3_showYellow_e_0 : ck_ fX3 none cX3_showYellow 0 [.iload 2, .iconst (-1), .if_icmp .ne 6, .return_] 6 = true := qck_r (nn_ _) (by decide +kernel)
theorem bs_X3_showYellow_e_0 {P : Zt → Option Zv → Prop} (K : Int → Zl → List Zv → Zt → Prop) : sx_ K P [.iload 2, .iconst (-1), .if_icmp .ne 6, .return_] 6 = x_iload 2 (x_iconst (-1) (x_if_icmp .ne 6 K (x_return_ P))) := ((xe_iload 2).trans (congrArg (x_iload 2) ((xe_iconst (-1)).trans (congrArg (x_iconst (-1)) ((xe_if_icmp .ne 6).trans (congrArg (x_if_icmp .ne 6 K) (xe_return_)))))))
theorem bk_X3_showYellow_e_6 : ck_ fX3 none cX3_showYellow 6 [.aload 0, .tableswitch 0 3 11 #[], .iload 1, .iconst 6, .imul, .iload 2, .iadd, .iaload, .istore 3, .aload 0, .tableswitch 0 3 13 #[], .iload 3, .dup2, .iaload, .iconst 1, .fadd, .iastore, .aload 0, .tableswitch 0 3 13 #[], .iload 3, .iaload, .iconst 2, .if_icmp .ne 44, .aload 0, .iload 1, .iload 2] 41 = true := qck_r (nn_ _) (by decide +kernel)
theorem bs_X3_showYellow_e_6 {P : Zt → Option Zv → Prop} (K : Int → Zl → List Zv → Zt → Prop) : sx_ K P [.aload 0, .tableswitch 0 3 11 #[], .iload 1, .iconst 6, .imul, .iload 2, .iadd, .iaload, .istore 3, .aload 0, .tableswitch 0 3 13 #[], .iload 3, .dup2, .iaload, .iconst 1, .fadd, .iastore, .aload 0, .tableswitch 0 3 13 #[], .iload 3, .iaload, .iconst 2, .if_icmp .ne 44, .aload 0, .iload 1, .iload 2] 41 = x_aload 0 (x_g2 103 471 (x_iload 1 (x_iconst 6 (x_imul (x_iload 2 (x_iadd (x_iaload (x_istore 3 (x_aload 0 (x_g2 103 473 (x_iload 3 (x_dup2 (x_iaload (x_iconst 1 (x_fadd (x_iastore (x_aload 0 (x_g2 103 473 (x_iload 3 (x_iaload (x_iconst 2 (x_if_icmp .ne 44 K (x_aload 0 (x_iload 1 (x_iload 2 (K 41)))))))))))))))))))))))))) := ((xe_aload 0).trans (congrArg (x_aload 0) ((xe_g2 (kk := 103) rfl tl_3_11).trans (congrArg (x_g2 103 471) ((xe_iload 1).trans (congrArg (x_iload 1) ((xe_iconst 6).trans (congrArg (x_iconst 6) ((xe_imul).trans (congrArg (x_imul) ((xe_iload 2).trans (congrArg (x_iload 2) ((xe_iadd).trans (congrArg (x_iadd) ((xe_iaload).trans (congrArg (x_iaload) ((xe_istore 3).trans (congrArg (x_istore 3) ((xe_aload 0).trans (congrArg (x_aload 0) ((xe_g2 (kk := 103) rfl tl_3_13).trans (congrArg (x_g2 103 473) ((xe_iload 3).trans (congrArg (x_iload 3) ((xe_dup2).trans (congrArg (x_dup2) ((xe_iaload).trans (congrArg (x_iaload) ((xe_iconst 1).trans (congrArg (x_iconst 1) ((xe_fadd).trans (congrArg (x_fadd) ((xe_iastore).trans (congrArg (x_iastore) ((xe_aload 0).trans (congrArg (x_aload 0) ((xe_g2 (kk := 103) rfl tl_3_13).trans (congrArg (x_g2 103 473) ((xe_iload 3).trans (congrArg (x_iload 3) ((xe_iaload).trans (congrArg (x_iaload) ((xe_iconst 2).trans (congrArg (x_iconst 2) ((xe_if_icmp .ne 44).trans (congrArg (x_if_icmp .ne 44 K) ((xe_aload 0).trans (congrArg (x_aload 0) ((xe_iload 1).trans (congrArg (x_iload 1) ((xe_iload 2).trans (congrArg (x_iload 2) xe_nil))))))))))))))))))))))))))))))))))))))))))))))))))))
theorem bk_X3_showYellow_e_44 : ck_ fX3 none cX3_showYellow 44 [.return_] 45 = true := qck_r (nn_ _) (by decide +kernel)
theorem bs_X3_showYellow_e_44 {P : Zt → Option Zv → Prop} (K : Int → Zl → List Zv → Zt → Prop) : sx_ K P [.return_] 45 = x_return_ P := (xe_return_)
abbrev po_X3_showYellow_e (T : Zt) (p : Int) (ru : Int → Int) (s k : Int) : Zt → Option Zv → Prop := fun T' r => r = none ∧ fr_ [(472, []), (471, []), (470, []), (103, [3]), (468, []), (473, [])] T T' ∧ (oi_ T T' p ∧ (T' 103 p 3 = 0 → 1 ≤ T' 470 p 0 ∧ 1 ≤ T' 470 p 1) ∧ rs9_ T' p = yl9_ ru (rs9_ T p) s k)
set_option maxHeartbeats 4000000 in
theorem ct_X3_showYellow_e {T : Zt} {p : Int} {ru : Int → Int} {s k : Int} (hr : RLP_ T p ru) (hs : 0 ≤ s ∧ s ≤ 1) (hk : k = -1 ∨ (0 ≤ k ∧ k < T 470 p s)) (hf : 1 ≤ T 401 (T 103 p 0) 9 ∧ T 401 (T 103 p 0) 9 ≤ 6) (hfd : 1 ≤ T 470 p 0 ∧ 1 ≤ T 470 p 1) : Ct_ yX3_showYellow zX3_showYellow T [vR 103 p, vI s, vI k] (po_X3_showYellow_e T p ru s k) := by
  refine ct_of pn_3 rfl rfl (Nat.le_of_ble_eq_true rfl) (fun hT hav => ?_)
  have hr_s : -2147483648 ≤ s ∧ s ≤ 2147483647 := hav (vI s) (List.mem_cons_of_mem _ List.mem_cons_self)
  have hr_k : -2147483648 ≤ k ∧ k ≤ 2147483647 := hav (vI k) (List.mem_cons_of_mem _ (List.mem_cons_of_mem _ List.mem_cons_self))
  have hz : zX3_showYellow.2.2.2.1 = some .boolean → ∀ (T' : Zt) (x : Int), po_X3_showYellow_e T p ru s k T' (some (vI x)) → 0 ≤ x ∧ x ≤ 1 := fun h => by cases h
  have hr0 := hr 0 (by decide) (by decide)
  have hr9 := hr 9 (by decide) (by decide)
  have hr10 := hr 10 (by decide) (by decide)
  have hr11 := hr 11 (by decide) (by decide)
  have hr12 := hr 12 (by decide) (by decide)
  have hfs : 0 ≤ T 470 p s ∧ T 470 p s ≤ 6 := bd_a hT 470 (by decide +kernel : ta_ 470 = some (1, some 2, 0, 6)) p (by omega)
  show J_ zX3_showYellow T (po_X3_showYellow_e T p ru s k) 0 0 0 [some (vR 103 p), some (vI s), some (vI k), none] [] T
  refine j_blx (F := fX3) tb_X3 (nn_ _) bk_X3_showYellow_e_0 bs_X3_showYellow_e_0 hz (fun K hK => ?_)
  refine And.intro (fun c1 => ?_) (fun c1 => ?_)
  · refine hK 6 _ [] T ?_
    refine j_blx (F := fX3) tb_X3 (nn_ _) bk_X3_showYellow_e_6 bs_X3_showYellow_e_6 hz (fun K hK => ?_)
    refine rg_i (by omega) ?_
    refine rg_i (by omega) ?_
    refine ix_i (by omega) ?_
    intro b2 b2b
    refine ix_i (by omega) ?_
    intro b3 b3b
    intro w4 w4b
    refine iy_i (by omega) (by omega) ?_
    refine x_nm (fun U5 hU5 => ?_)
    have e6 := up_f hU5
    refine ix_i (by omega) ?_
    intro b7 b7b
    have e8 : U5 473 p (T 471 p ((s * 6) + k)) = wr_ ((T 473 p (T 471 p ((s * 6) + k))) + 1) := up_f hU5
    rw [e8] at b7 b7b ⊢
    refine And.intro (fun c9 => ?_) (fun c9 => ?_)
    · refine hK 44 [some (vR 103 p), some (vI s), some (vI k), some (vI (T 471 p ((s * 6) + k)))] [] U5 ?_
      refine j_blx (F := fX3) tb_X3 (nn_ _) bk_X3_showYellow_e_44 bs_X3_showYellow_e_44 hz (fun K hK => ?_)
      refine (show po_X3_showYellow_e T p ru s k U5 (none) from ?_)
      have e10 : U5 103 p 3 = T 103 p 3 := up_k hU5 (by exact Nat.ne_of_beq_eq_false rfl) p 3
      have e11 : U5 470 p 0 = T 470 p 0 := up_k hU5 (by exact Nat.ne_of_beq_eq_false rfl) p 0
      have e12 : U5 470 p 1 = T 470 p 1 := up_k hU5 (by exact Nat.ne_of_beq_eq_false rfl) p 1
      have g13 : U5 470 p 0 = T 470 p 0 := up_k hU5 (by exact Nat.ne_of_beq_eq_false rfl) p 0
      have g14 : U5 470 p 1 = T 470 p 1 := up_k hU5 (by exact Nat.ne_of_beq_eq_false rfl) p 1
      have e15 : U5 103 p 3 = T 103 p 3 := up_k hU5 (by exact Nat.ne_of_beq_eq_false rfl) p 3
      have rU5 : rs9_ U5 p = u2_ (rs9_ T p) 473 (T 471 p ((s * 6) + k)) (wr_ ((T 473 p (T 471 p ((s * 6) + k))) + 1)) := rs_u hU5 rfl
      exact ⟨rfl, fr_u (fr_0 _ _) hU5 rfl, oi_u (oi_r) hU5, by exact fun _ => by omega, Eq.trans rU5 (yl9__3 (r := ru) (a := (rs9_ T p)) (s := s) (k := k) (show ¬ (k = -1) by omega) (show ¬ (wr_ (T 473 p (T 471 p (s * 6 + k)) + 1) = 2) by omega)).symm⟩
    · refine hK 41 _ [vI k, vI s, vR 103 p] U5 ?_
      have e16 : U5 103 p 0 = T 103 p 0 := up_k hU5 (by exact Nat.ne_of_beq_eq_false rfl) p 0
      have e17 : U5 401 (T 103 p 0) 9 = T 401 (T 103 p 0) 9 := up_k hU5 (by exact Nat.ne_of_beq_eq_false rfl) (T 103 p 0) 9
      have r18 : U5 401 (U5 103 p 0) 9 = T 401 (T 103 p 0) 9 := by rw [e16]; exact e17
      have e19 : U5 103 p 0 = T 103 p 0 := up_k hU5 (by exact Nat.ne_of_beq_eq_false rfl) p 0
      have e20 : U5 401 (T 103 p 0) 9 = T 401 (T 103 p 0) 9 := up_k hU5 (by exact Nat.ne_of_beq_eq_false rfl) (T 103 p 0) 9
      have r21 : U5 401 (U5 103 p 0) 9 = T 401 (T 103 p 0) 9 := by rw [e19]; exact e20
      have e22 : U5 470 p s = T 470 p s := up_k hU5 (by exact Nat.ne_of_beq_eq_false rfl) p s
      have e23 : U5 103 p 0 = T 103 p 0 := up_k hU5 (by exact Nat.ne_of_beq_eq_false rfl) p 0
      have e24 : U5 470 p 0 = T 470 p 0 := up_k hU5 (by exact Nat.ne_of_beq_eq_false rfl) p 0
      have e25 : U5 470 p 1 = T 470 p 1 := up_k hU5 (by exact Nat.ne_of_beq_eq_false rfl) p 1
      refine j_callV (y := yX3_sendOff) (Yc := zX3_sendOff) (rest := []) [vI s, vI k] (ct_X3_sendOff_e (T := U5) (ru := ru) (by exact rl_f (ws := [(473, [])]) hr (fr_u (fr_0 _ _) hU5 rfl) rfl (fun _ => rfl)) (by omega) (by (have y9 : U5 470 p s = T 470 p s := up_k hU5 (by exact Nat.ne_of_beq_eq_false rfl) p s); omega) (by omega) (by omega)) cl_X3_116 (qd_c (by decide +kernel)) (nn_ _) rfl (rf_of rfl) (Nat.le_of_ble_eq_true rfl) (Nat.le_of_ble_eq_true rfl) (Nat.le_of_ble_eq_true rfl) rfl ?_
      rintro U26 _ ⟨rfl, fU26, qU26o, qU26, qU26e⟩
      show J_ zX3_showYellow T (po_X3_showYellow_e T p ru s k) 0 0 44 _ [] U26
      refine j_blx (F := fX3) tb_X3 (nn_ _) bk_X3_showYellow_e_44 bs_X3_showYellow_e_44 hz (fun K hK => ?_)
      refine (show po_X3_showYellow_e T p ru s k U26 (none) from ?_)
      have rU5 : rs9_ U5 p = u2_ (rs9_ T p) 473 (T 471 p ((s * 6) + k)) (wr_ ((T 473 p (T 471 p ((s * 6) + k))) + 1)) := rs_u hU5 rfl
      have rU26 : rs9_ U26 p = so9_ ru (u2_ (rs9_ T p) 473 (T 471 p ((s * 6) + k)) (wr_ ((T 473 p (T 471 p ((s * 6) + k))) + 1))) s k := by rw [qU26e, rU5]
      exact ⟨rfl, fr_t (fr_u (fr_0 _ _) hU5 rfl) (fr_s fU26 rfl), oi_t (oi_u (oi_r) hU5) qU26o, by exact fun z9 => by have y9 := qU26; omega, Eq.trans rU26 (yl9__2 (r := ru) (a := (rs9_ T p)) (s := s) (k := k) (show ¬ (k = -1) by omega) (show wr_ (T 473 p (T 471 p (s * 6 + k)) + 1) = 2 by omega)).symm⟩
  · refine (show po_X3_showYellow_e T p ru s k T (none) from ?_)
    exact ⟨rfl, fr_0 _ _, oi_r, by exact fun _ => by omega, Eq.trans rfl (yl9__1 (r := ru) (a := (rs9_ T p)) (s := s) (k := k) (show k = -1 by omega)).symm⟩
