theorem bk_X1_putIn_e_0 : ck_ fX1 none cX1_putIn 0 [.aload 0, .tableswitch 0 1 8 #[], .iload 1, .iload 2, .iastore, .aload 0, .tableswitch 0 1 10 #[], .iload 2, .dup2, .iaload, .iconst 1, .iadd, .iastore, .aload 0, .dup, .tableswitch 0 1 3 #[], .iconst 1, .iadd, .tableswitch 1 1 3 #[], .aload 0, .iconst 0, .tableswitch 1 1 7 #[], .return_] 33 = true := qck_r (nn_ _) (by decide +kernel)
theorem bs_X1_putIn_e_0 {P : Zt → Option Zv → Prop} (K : Int → Zl → List Zv → Zt → Prop) : sx_ K P [.aload 0, .tableswitch 0 1 8 #[], .iload 1, .iload 2, .iastore, .aload 0, .tableswitch 0 1 10 #[], .iload 2, .dup2, .iaload, .iconst 1, .iadd, .iastore, .aload 0, .dup, .tableswitch 0 1 3 #[], .iconst 1, .iadd, .tableswitch 1 1 3 #[], .aload 0, .iconst 0, .tableswitch 1 1 7 #[], .return_] 33 = x_aload 0 (x_g1 101 428 (x_iload 1 (x_iload 2 (x_iastore (x_aload 0 (x_g1 101 430 (x_iload 2 (x_dup2 (x_iaload (x_iconst 1 (x_iadd (x_iastore (x_aload 0 (x_dup (x_g0 101 3 (-2147483648) 2147483647 (x_iconst 1 (x_iadd (x_p 101 3 (-2147483648) 2147483647 (x_aload 0 (x_iconst 0 (x_p 101 7 0 1 (x_return_ P)))))))))))))))))))))) := ((xe_aload 0).trans (congrArg (x_aload 0) ((xe_g1 (kk := 101) rfl tl_1_8).trans (congrArg (x_g1 101 428) ((xe_iload 1).trans (congrArg (x_iload 1) ((xe_iload 2).trans (congrArg (x_iload 2) ((xe_iastore).trans (congrArg (x_iastore) ((xe_aload 0).trans (congrArg (x_aload 0) ((xe_g1 (kk := 101) rfl tl_1_10).trans (congrArg (x_g1 101 430) ((xe_iload 2).trans (congrArg (x_iload 2) ((xe_dup2).trans (congrArg (x_dup2) ((xe_iaload).trans (congrArg (x_iaload) ((xe_iconst 1).trans (congrArg (x_iconst 1) ((xe_iadd).trans (congrArg (x_iadd) ((xe_iastore).trans (congrArg (x_iastore) ((xe_aload 0).trans (congrArg (x_aload 0) ((xe_dup).trans (congrArg (x_dup) ((xe_g0 (kk := 101) rfl tl_1_3).trans (congrArg (x_g0 101 3 (-2147483648) 2147483647) ((xe_iconst 1).trans (congrArg (x_iconst 1) ((xe_iadd).trans (congrArg (x_iadd) ((xe_p (kk := 101) rfl tl_1_3).trans (congrArg (x_p 101 3 (-2147483648) 2147483647) ((xe_aload 0).trans (congrArg (x_aload 0) ((xe_iconst 0).trans (congrArg (x_iconst 0) ((xe_p (kk := 101) rfl tl_1_7).trans (congrArg (x_p 101 7 0 1) (xe_return_)))))))))))))))))))))))))))))))))))))))))))))
abbrev po_X1_putIn_e (T : Zt) (c k : Int) : Zt → Option Zv → Prop := fun T' r => r = none ∧ fr_ [(428, []), (430, []), (101, [3, 7])] T T' ∧ ((T' 428 0 c = k ∧ ∀ j, j ≠ c → T' 428 0 j = T 428 0 j) ∧ (T' 430 0 k = T 430 0 k + 1 ∧ ∀ j, j ≠ k → T' 430 0 j = T 430 0 j) ∧ T' 101 0 3 = T 101 0 3 + 1 ∧ T' 101 0 7 = 0)
set_option maxHeartbeats 4000000 in
theorem ct_X1_putIn_e {T : Zt} {c k : Int} (h1 : 0 ≤ c ∧ c < 12) (h2 : 0 ≤ k ∧ k ≤ 2) (h3 : T 430 0 k < 4) (h4 : 0 ≤ T 101 0 3 ∧ T 101 0 3 ≤ 12) : Ct_ yX1_putIn zX1_putIn T [vR 101 0, vI c, vI k] (po_X1_putIn_e T c k) := by
  refine ct_of pn_1 rfl rfl (Nat.le_of_ble_eq_true rfl) (fun hT hav => ?_)
  have hr_c : -2147483648 ≤ c ∧ c ≤ 2147483647 := hav (vI c) (List.mem_cons_of_mem _ List.mem_cons_self)
  have hr_k : -2147483648 ≤ k ∧ k ≤ 2147483647 := hav (vI k) (List.mem_cons_of_mem _ (List.mem_cons_of_mem _ List.mem_cons_self))
  have hz : zX1_putIn.2.2.2.1 = some .boolean → ∀ (T' : Zt) (x : Int), po_X1_putIn_e T c k T' (some (vI x)) → 0 ≤ x ∧ x ≤ 1 := fun h => by cases h
  have hps : 0 ≤ T 430 0 k ∧ T 430 0 k ≤ 4 := bd_a hT 430 (by decide +kernel : ta_ 430 = some (1, some 3, 0, 4)) 0 (by omega)
  show J_ zX1_putIn T (po_X1_putIn_e T c k) 0 0 0 [some (vR 101 0), some (vI c), some (vI k)] [] T
  refine j_blx (F := fX1) tb_X1 (nn_ _) bk_X1_putIn_e_0 bs_X1_putIn_e_0 hz (fun K hK => ?_)
  refine iy_i (by omega) (by omega) ?_
  refine x_nm (fun U1 hU1 => ?_)
  have e2 := up_f hU1
  refine ix_i (by omega) ?_
  intro b3 b3b
  have e4 : U1 430 0 k = T 430 0 k := up_k hU1 (by exact Nat.ne_of_beq_eq_false rfl) 0 k
  rw [e4] at b3 b3b ⊢
  refine rg_i (by omega) ?_
  refine iy_i (by omega) (by omega) ?_
  refine x_nm (fun U5 hU5 => ?_)
  have e6 := up_f hU5
  intro b7 b7b
  have e8 : U5 101 0 3 = T 101 0 3 := (up_k hU5 (by exact Nat.ne_of_beq_eq_false rfl) 0 3).trans (up_k hU1 (by exact Nat.ne_of_beq_eq_false rfl) 0 3)
  rw [e8] at b7 b7b ⊢
  refine rg_i (by omega) ?_
  refine bd_i (by omega) ?_
  refine x_nm (fun U9 hU9 => ?_)
  have e10 := up_f hU9
  refine bd_i (by omega) ?_
  refine x_nm (fun U11 hU11 => ?_)
  have e12 := up_f hU11
  refine (show po_X1_putIn_e T c k U11 (none) from ?_)
  have e13 : U11 428 0 c = k := (up_k hU11 (by exact Nat.ne_of_beq_eq_false rfl) 0 c).trans ((up_k hU9 (by exact Nat.ne_of_beq_eq_false rfl) 0 c).trans ((up_k hU5 (by exact Nat.ne_of_beq_eq_false rfl) 0 c).trans (up_f hU1)))
  have e14 : U11 430 0 k = (T 430 0 k) + 1 := (up_k hU11 (by exact Nat.ne_of_beq_eq_false rfl) 0 k).trans ((up_k hU9 (by exact Nat.ne_of_beq_eq_false rfl) 0 k).trans (up_f hU5))
  have e15 : U11 101 0 3 = (T 101 0 3) + 1 := (up_j hU11 (by decide) 101 0).trans (up_f hU9)
  have e16 : U11 101 0 7 = 0 := up_f hU11
  exact ⟨rfl, fr_u (fr_u (fr_u (fr_u (fr_0 _ _) hU1 rfl) hU5 rfl) hU9 rfl) hU11 rfl, ⟨(up_k hU11 (by exact Nat.ne_of_beq_eq_false rfl) 0 _).trans ((up_k hU9 (by exact Nat.ne_of_beq_eq_false rfl) 0 _).trans ((up_k hU5 (by exact Nat.ne_of_beq_eq_false rfl) 0 _).trans (up_f hU1))), fun j hj => (up_k hU11 (by exact Nat.ne_of_beq_eq_false rfl) 0 j).trans ((up_k hU9 (by exact Nat.ne_of_beq_eq_false rfl) 0 j).trans ((up_k hU5 (by exact Nat.ne_of_beq_eq_false rfl) 0 j).trans (up_g hU1 (fun q => hj q.2.2))))⟩, ⟨(up_k hU11 (by exact Nat.ne_of_beq_eq_false rfl) 0 _).trans ((up_k hU9 (by exact Nat.ne_of_beq_eq_false rfl) 0 _).trans (up_f hU5)), fun j hj => (up_k hU11 (by exact Nat.ne_of_beq_eq_false rfl) 0 j).trans ((up_k hU9 (by exact Nat.ne_of_beq_eq_false rfl) 0 j).trans ((up_g hU5 (fun q => hj q.2.2)).trans (up_k hU1 (by exact Nat.ne_of_beq_eq_false rfl) 0 j)))⟩, (up_j hU11 (by decide) 101 0).trans (up_f hU9), up_f hU11⟩
