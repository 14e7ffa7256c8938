abbrev cX7_addSide : ByteArray := prog_9_method_4_code
def yX7_addSide : MethodName := ⟨RX7, "addSide", "(IIII)V"⟩
def zX7_addSide : Zm := (RX7, cX7_addSide, 8, none, { frames := 0, cells := 0, slots := 0, locals := 0 })
theorem bk_X7_addSide_27 : ck_ fX7 none cX7_addSide 27 [.istore 6, .aload 0, .tableswitch 0 7 1 #[], .tableswitch 0 0 1 #[], .iconst 1, .iload 6, .iadd, .iconst 1, .isub, .iaload, .istore 7, .aload 0, .tableswitch 0 7 2 #[], .iload 5, .iconst 0, .iadd, .dup2, .iaload, .iconst 1, .fadd, .iastore, .aload 0, .tableswitch 0 7 2 #[], .iload 5, .iload 6, .iadd, .dup2, .iaload, .iconst 1, .fadd, .iastore, .aload 0, .tableswitch 0 7 2 #[], .iload 5, .iconst 4, .iadd, .dup2, .iaload, .iload 3, .fadd, .iastore, .aload 0, .tableswitch 0 7 2 #[], .iload 5, .iconst 5, .iadd, .dup2, .iaload, .iload 4, .fadd, .iastore, .aload 0, .tableswitch 0 7 2 #[], .iload 5, .iconst 6, .iadd, .dup2, .iaload, .iload 7, .fadd, .iastore, .aload 0, .tableswitch 0 7 5 #[], .iload 1, .iconst 12, .imul, .iload 2, .iadd, .dup2, .iaload, .iload 7, .fadd, .iastore, .aload 0, .tableswitch 0 7 6 #[], .iload 1, .iconst 12, .imul, .iload 2, .iadd, .dup2, .iaload, .iload 3, .fadd, .iastore, .return_] 146 = true := qck_r (nn_ _) (by decide +kernel)
theorem bs_X7_addSide_27 {P : Zt → Option Zv → Prop} (K : Int → Zl → List Zv → Zt → Prop) : sx_ K P [.istore 6, .aload 0, .tableswitch 0 7 1 #[], .tableswitch 0 0 1 #[], .iconst 1, .iload 6, .iadd, .iconst 1, .isub, .iaload, .istore 7, .aload 0, .tableswitch 0 7 2 #[], .iload 5, .iconst 0, .iadd, .dup2, .iaload, .iconst 1, .fadd, .iastore, .aload 0, .tableswitch 0 7 2 #[], .iload 5, .iload 6, .iadd, .dup2, .iaload, .iconst 1, .fadd, .iastore, .aload 0, .tableswitch 0 7 2 #[], .iload 5, .iconst 4, .iadd, .dup2, .iaload, .iload 3, .fadd, .iastore, .aload 0, .tableswitch 0 7 2 #[], .iload 5, .iconst 5, .iadd, .dup2, .iaload, .iload 4, .fadd, .iastore, .aload 0, .tableswitch 0 7 2 #[], .iload 5, .iconst 6, .iadd, .dup2, .iaload, .iload 7, .fadd, .iastore, .aload 0, .tableswitch 0 7 5 #[], .iload 1, .iconst 12, .imul, .iload 2, .iadd, .dup2, .iaload, .iload 7, .fadd, .iastore, .aload 0, .tableswitch 0 7 6 #[], .iload 1, .iconst 12, .imul, .iload 2, .iadd, .dup2, .iaload, .iload 3, .fadd, .iastore, .return_] 146 = x_istore 6 (x_aload 0 (x_g5 107 100 1 (x_g2 100 401 (x_iconst 1 (x_iload 6 (x_iadd (x_iconst 1 (x_isub (x_iaload (x_istore 7 (x_aload 0 (x_g1 107 542 (x_iload 5 (x_iconst 0 (x_iadd (x_dup2 (x_iaload (x_iconst 1 (x_fadd (x_iastore (x_aload 0 (x_g1 107 542 (x_iload 5 (x_iload 6 (x_iadd (x_dup2 (x_iaload (x_iconst 1 (x_fadd (x_iastore (x_aload 0 (x_g1 107 542 (x_iload 5 (x_iconst 4 (x_iadd (x_dup2 (x_iaload (x_iload 3 (x_fadd (x_iastore (x_aload 0 (x_g1 107 542 (x_iload 5 (x_iconst 5 (x_iadd (x_dup2 (x_iaload (x_iload 4 (x_fadd (x_iastore (x_aload 0 (x_g1 107 542 (x_iload 5 (x_iconst 6 (x_iadd (x_dup2 (x_iaload (x_iload 7 (x_fadd (x_iastore (x_aload 0 (x_g1 107 545 (x_iload 1 (x_iconst 12 (x_imul (x_iload 2 (x_iadd (x_dup2 (x_iaload (x_iload 7 (x_fadd (x_iastore (x_aload 0 (x_g1 107 546 (x_iload 1 (x_iconst 12 (x_imul (x_iload 2 (x_iadd (x_dup2 (x_iaload (x_iload 3 (x_fadd (x_iastore (x_return_ P))))))))))))))))))))))))))))))))))))))))))))))))))))))))))))))))))))))))))))))))))))) := ((xe_istore 6).trans (congrArg (x_istore 6) ((xe_aload 0).trans (congrArg (x_aload 0) ((xe_g5 (kk := 107) rfl tl_7_1).trans (congrArg (x_g5 107 100 1) ((xe_g2 (kk := 100) rfl tl_0_1).trans (congrArg (x_g2 100 401) ((xe_iconst 1).trans (congrArg (x_iconst 1) ((xe_iload 6).trans (congrArg (x_iload 6) ((xe_iadd).trans (congrArg (x_iadd) ((xe_iconst 1).trans (congrArg (x_iconst 1) ((xe_isub).trans (congrArg (x_isub) ((xe_iaload).trans (congrArg (x_iaload) ((xe_istore 7).trans (congrArg (x_istore 7) ((xe_aload 0).trans (congrArg (x_aload 0) ((xe_g1 (kk := 107) rfl tl_7_2).trans (congrArg (x_g1 107 542) ((xe_iload 5).trans (congrArg (x_iload 5) ((xe_iconst 0).trans (congrArg (x_iconst 0) ((xe_iadd).trans (congrArg (x_iadd) ((xe_dup2).trans (congrArg (x_dup2) ((xe_iaload).trans (congrArg (x_iaload) ((xe_iconst 1).trans (congrArg (x_iconst 1) ((xe_fadd).trans (congrArg (x_fadd) ((xe_iastore).trans (congrArg (x_iastore) ((xe_aload 0).trans (congrArg (x_aload 0) ((xe_g1 (kk := 107) rfl tl_7_2).trans (congrArg (x_g1 107 542) ((xe_iload 5).trans (congrArg (x_iload 5) ((xe_iload 6).trans (congrArg (x_iload 6) ((xe_iadd).trans (congrArg (x_iadd) ((xe_dup2).trans (congrArg (x_dup2) ((xe_iaload).trans (congrArg (x_iaload) ((xe_iconst 1).trans (congrArg (x_iconst 1) ((xe_fadd).trans (congrArg (x_fadd) ((xe_iastore).trans (congrArg (x_iastore) ((xe_aload 0).trans (congrArg (x_aload 0) ((xe_g1 (kk := 107) rfl tl_7_2).trans (congrArg (x_g1 107 542) ((xe_iload 5).trans (congrArg (x_iload 5) ((xe_iconst 4).trans (congrArg (x_iconst 4) ((xe_iadd).trans (congrArg (x_iadd) ((xe_dup2).trans (congrArg (x_dup2) ((xe_iaload).trans (congrArg (x_iaload) ((xe_iload 3).trans (congrArg (x_iload 3) ((xe_fadd).trans (congrArg (x_fadd) ((xe_iastore).trans (congrArg (x_iastore) ((xe_aload 0).trans (congrArg (x_aload 0) ((xe_g1 (kk := 107) rfl tl_7_2).trans (congrArg (x_g1 107 542) ((xe_iload 5).trans (congrArg (x_iload 5) ((xe_iconst 5).trans (congrArg (x_iconst 5) ((xe_iadd).trans (congrArg (x_iadd) ((xe_dup2).trans (congrArg (x_dup2) ((xe_iaload).trans (congrArg (x_iaload) ((xe_iload 4).trans (congrArg (x_iload 4) ((xe_fadd).trans (congrArg (x_fadd) ((xe_iastore).trans (congrArg (x_iastore) ((xe_aload 0).trans (congrArg (x_aload 0) ((xe_g1 (kk := 107) rfl tl_7_2).trans (congrArg (x_g1 107 542) ((xe_iload 5).trans (congrArg (x_iload 5) ((xe_iconst 6).trans (congrArg (x_iconst 6) ((xe_iadd).trans (congrArg (x_iadd) ((xe_dup2).trans (congrArg (x_dup2) ((xe_iaload).trans (congrArg (x_iaload) ((xe_iload 7).trans (congrArg (x_iload 7) ((xe_fadd).trans (congrArg (x_fadd) ((xe_iastore).trans (congrArg (x_iastore) ((xe_aload 0).trans (congrArg (x_aload 0) ((xe_g1 (kk := 107) rfl tl_7_5).trans (congrArg (x_g1 107 545) ((xe_iload 1).trans (congrArg (x_iload 1) ((xe_iconst 12).trans (congrArg (x_iconst 12) ((xe_imul).trans (congrArg (x_imul) ((xe_iload 2).trans (congrArg (x_iload 2) ((xe_iadd).trans (congrArg (x_iadd) ((xe_dup2).trans (congrArg (x_dup2) ((xe_iaload).trans (congrArg (x_iaload) ((xe_iload 7).trans (congrArg (x_iload 7) ((xe_fadd).trans (congrArg (x_fadd) ((xe_iastore).trans (congrArg (x_iastore) ((xe_aload 0).trans (congrArg (x_aload 0) ((xe_g1 (kk := 107) rfl tl_7_6).trans (congrArg (x_g1 107 546) ((xe_iload 1).trans (congrArg (x_iload 1) ((xe_iconst 12).trans (congrArg (x_iconst 12) ((xe_imul).trans (congrArg (x_imul) ((xe_iload 2).trans (congrArg (x_iload 2) ((xe_iadd).trans (congrArg (x_iadd) ((xe_dup2).trans (congrArg (x_dup2) ((xe_iaload).trans (congrArg (x_iaload) ((xe_iload 3).trans (congrArg (x_iload 3) ((xe_fadd).trans (congrArg (x_fadd) ((xe_iastore).trans (congrArg (x_iastore) (xe_return_)))))))))))))))))))))))))))))))))))))))))))))))))))))))))))))))))))))))))))))))))))))))))))))))))))))))))))))))))))))))))))))))))))))))))))))))))))))))))))))))))))))))))))
theorem bk_X7_addSide_0 : ck_ fX7 none cX7_addSide 0 [.iload 1, .iconst 8, .imul, .istore 5, .iload 3, .iload 4, .if_icmp .le 16, .iconst 1, .goto 27] 16 = true := qck_r (nn_ _) (by decide +kernel)
theorem bs_X7_addSide_0 {P : Zt → Option Zv → Prop} (K : Int → Zl → List Zv → Zt → Prop) : sx_ K P [.iload 1, .iconst 8, .imul, .istore 5, .iload 3, .iload 4, .if_icmp .le 16, .iconst 1, .goto 27] 16 = x_iload 1 (x_iconst 8 (x_imul (x_istore 5 (x_iload 3 (x_iload 4 (x_if_icmp .le 16 K (x_iconst 1 (x_goto 27 K)))))))) := ((xe_iload 1).trans (congrArg (x_iload 1) ((xe_iconst 8).trans (congrArg (x_iconst 8) ((xe_imul).trans (congrArg (x_imul) ((xe_istore 5).trans (congrArg (x_istore 5) ((xe_iload 3).trans (congrArg (x_iload 3) ((xe_iload 4).trans (congrArg (x_iload 4) ((xe_if_icmp .le 16).trans (congrArg (x_if_icmp .le 16 K) ((xe_iconst 1).trans (congrArg (x_iconst 1) (xe_goto 27)))))))))))))))))
theorem bk_X7_addSide_16 : ck_ fX7 none cX7_addSide 16 [.iload 3, .iload 4, .if_icmp .ne 26, .iconst 2, .goto 27] 26 = true := qck_r (nn_ _) (by decide +kernel)
theorem bs_X7_addSide_16 {P : Zt → Option Zv → Prop} (K : Int → Zl → List Zv → Zt → Prop) : sx_ K P [.iload 3, .iload 4, .if_icmp .ne 26, .iconst 2, .goto 27] 26 = x_iload 3 (x_iload 4 (x_if_icmp .ne 26 K (x_iconst 2 (x_goto 27 K)))) := ((xe_iload 3).trans (congrArg (x_iload 3) ((xe_iload 4).trans (congrArg (x_iload 4) ((xe_if_icmp .ne 26).trans (congrArg (x_if_icmp .ne 26 K) ((xe_iconst 2).trans (congrArg (x_iconst 2) (xe_goto 27)))))))))
theorem bk_X7_addSide_26 : ck_ fX7 none cX7_addSide 26 [.iconst 3] 27 = true := qck_r (nn_ _) (by decide +kernel)
theorem bs_X7_addSide_26 {P : Zt → Option Zv → Prop} (K : Int → Zl → List Zv → Zt → Prop) : sx_ K P [.iconst 3] 27 = x_iconst 3 (K 27) := ((xe_iconst 3).trans (congrArg (x_iconst 3) xe_nil))
abbrev po_X7_addSide (T : Zt) (s q a b : Int) : Zt → Option Zv → Prop := fun T' r => r = none ∧ fr_ [(542, []), (545, []), (546, [])] T T' ∧ (0 = (0 : Int))
set_option maxHeartbeats 4000000 in
theorem ct_X7_addSide {T : Zt} {s q a b : Int} (hct : T 107 0 1 ≠ 0) (hs : 0 ≤ s ∧ s < 12) (ho : 0 ≤ q ∧ q < 12) : Ct_ yX7_addSide zX7_addSide T [vR 107 0, vI s, vI q, vI a, vI b] (po_X7_addSide T s q a b) := by
  refine ct_of pn_7 rfl rfl (Nat.le_of_ble_eq_true rfl) (fun hT hav => ?_)
  have hr_s : -2147483648 ≤ s ∧ s ≤ 2147483647 := hav (vI s) (List.mem_cons_of_mem _ List.mem_cons_self)
  have hr_q : -2147483648 ≤ q ∧ q ≤ 2147483647 := hav (vI q) (List.mem_cons_of_mem _ (List.mem_cons_of_mem _ List.mem_cons_self))
  have hr_a : -2147483648 ≤ a ∧ a ≤ 2147483647 := hav (vI a) (List.mem_cons_of_mem _ (List.mem_cons_of_mem _ (List.mem_cons_of_mem _ List.mem_cons_self)))
  have hr_b : -2147483648 ≤ b ∧ b ≤ 2147483647 := hav (vI b) (List.mem_cons_of_mem _ (List.mem_cons_of_mem _ (List.mem_cons_of_mem _ (List.mem_cons_of_mem _ List.mem_cons_self))))
  have hz : zX7_addSide.2.2.2.1 = some .boolean → ∀ (T' : Zt) (x : Int), po_X7_addSide T s q a b T' (some (vI x)) → 0 ≤ x ∧ x ≤ 1 := fun h => by cases h
  show J_ zX7_addSide T (po_X7_addSide T s q a b) 0 0 0 [some (vR 107 0), some (vI s), some (vI q), some (vI a), some (vI b), none, none, none] [] T
  have c_27 : ∀ (v : Int), (1 ≤ v ∧ v ≤ 3) → J_ zX7_addSide T (po_X7_addSide T s q a b) 0 0 27 [some (vR 107 0), some (vI s), some (vI q), some (vI a), some (vI b), some (vI (s * 8)), none, none] [vI v] T := by
    intro v v1
    refine j_blx (F := fX7) tb_X7 (nn_ _) bk_X7_addSide_27 bs_X7_addSide_27 hz (fun K hK => ?_)
    refine And.intro (fun c1 => ?_) (fun c1 => ?_)
    · exact absurd c1 (by omega)
    · refine rg_i (by omega) ?_
      refine rg_i (by omega) ?_
      refine ix_i (by omega) ?_
      intro b2 b2b
      refine rg_i (by omega) ?_
      refine ix_i (by omega) ?_
      intro b3 b3b
      intro w4 w4b
      refine iy_i (by omega) (by omega) ?_
      refine x_nm (fun U5 hU5 => ?_)
      have e6 := up_f hU5
      refine rg_i (by omega) ?_
      refine ix_i (by omega) ?_
      intro b7 b7b
      intro w8 w8b
      refine iy_i (by omega) (by omega) ?_
      refine x_nm (fun U9 hU9 => ?_)
      have e10 := up_f hU9
      refine rg_i (by omega) ?_
      refine ix_i (by omega) ?_
      intro b11 b11b
      intro w12 w12b
      refine iy_i (by omega) (by omega) ?_
      refine x_nm (fun U13 hU13 => ?_)
      have e14 := up_f hU13
      refine rg_i (by omega) ?_
      refine ix_i (by omega) ?_
      intro b15 b15b
      intro w16 w16b
      refine iy_i (by omega) (by omega) ?_
      refine x_nm (fun U17 hU17 => ?_)
      have e18 := up_f hU17
      refine rg_i (by omega) ?_
      refine ix_i (by omega) ?_
      intro b19 b19b
      intro w20 w20b
      refine iy_i (by omega) (by omega) ?_
      refine x_nm (fun U21 hU21 => ?_)
      have e22 := up_f hU21
      refine rg_i (by omega) ?_
      refine rg_i (by omega) ?_
      refine ix_i (by omega) ?_
      intro b23 b23b
      have e24 : U21 545 0 ((s * 12) + q) = T 545 0 ((s * 12) + q) := (up_k hU21 (by exact Nat.ne_of_beq_eq_false rfl) 0 ((s * 12) + q)).trans ((up_k hU17 (by exact Nat.ne_of_beq_eq_false rfl) 0 ((s * 12) + q)).trans ((up_k hU13 (by exact Nat.ne_of_beq_eq_false rfl) 0 ((s * 12) + q)).trans ((up_k hU9 (by exact Nat.ne_of_beq_eq_false rfl) 0 ((s * 12) + q)).trans (up_k hU5 (by exact Nat.ne_of_beq_eq_false rfl) 0 ((s * 12) + q)))))
      rw [e24] at b23 b23b ⊢
      intro w25 w25b
      refine iy_i (by omega) (by omega) ?_
      refine x_nm (fun U26 hU26 => ?_)
      have e27 := up_f hU26
      refine rg_i (by omega) ?_
      refine rg_i (by omega) ?_
      refine ix_i (by omega) ?_
      intro b28 b28b
      have e29 : U26 546 0 ((s * 12) + q) = T 546 0 ((s * 12) + q) := (up_k hU26 (by exact Nat.ne_of_beq_eq_false rfl) 0 ((s * 12) + q)).trans ((up_k hU21 (by exact Nat.ne_of_beq_eq_false rfl) 0 ((s * 12) + q)).trans ((up_k hU17 (by exact Nat.ne_of_beq_eq_false rfl) 0 ((s * 12) + q)).trans ((up_k hU13 (by exact Nat.ne_of_beq_eq_false rfl) 0 ((s * 12) + q)).trans ((up_k hU9 (by exact Nat.ne_of_beq_eq_false rfl) 0 ((s * 12) + q)).trans (up_k hU5 (by exact Nat.ne_of_beq_eq_false rfl) 0 ((s * 12) + q))))))
      rw [e29] at b28 b28b ⊢
      intro w30 w30b
      refine iy_i (by omega) (by omega) ?_
      refine x_nm (fun U31 hU31 => ?_)
      have e32 := up_f hU31
      refine (show po_X7_addSide T s q a b U31 (none) from ?_)
      exact ⟨rfl, fr_u (fr_u (fr_u (fr_u (fr_u (fr_u (fr_u (fr_0 _ _) hU5 rfl) hU9 rfl) hU13 rfl) hU17 rfl) hU21 rfl) hU26 rfl) hU31 rfl, by rfl⟩
  refine j_blx (F := fX7) tb_X7 (nn_ _) bk_X7_addSide_0 bs_X7_addSide_0 hz (fun K hK => ?_)
  refine rg_i (by omega) ?_
  refine And.intro (fun c33 => ?_) (fun c33 => ?_)
  · refine hK 16 [some (vR 107 0), some (vI s), some (vI q), some (vI a), some (vI b), some (vI (s * 8)), none, none] [] T ?_
    refine j_blx (F := fX7) tb_X7 (nn_ _) bk_X7_addSide_16 bs_X7_addSide_16 hz (fun K hK => ?_)
    refine And.intro (fun c34 => ?_) (fun c34 => ?_)
    · refine hK 26 _ [] T ?_
      refine j_blx (F := fX7) tb_X7 (nn_ _) bk_X7_addSide_26 bs_X7_addSide_26 hz (fun K hK => ?_)
      refine hK 27 _ [vI 3] T ?_
      refine c_27 3 ?_
      · omega
    · refine hK 27 _ [vI 2] T ?_
      refine c_27 2 ?_
      · omega
  · refine hK 27 _ [vI 1] T ?_
    refine c_27 1 ?_
    · omega
abbrev cX7_addResult : ByteArray := prog_9_method_3_code
def yX7_addResult : MethodName := ⟨RX7, "addResult", "(LSportsHouse$Match;II)V"⟩
def zX7_addResult : Zm := (RX7, cX7_addResult, 6, none, { frames := 1, cells := 0, slots := 0, locals := 27 })
theorem bk_X7_addResult_0 : ck_ fX7 none cX7_addResult 0 [.aload 0, .tableswitch 0 7 1 #[], .tableswitch 0 0 4 #[], .aload 1, .tableswitch 0 2 3 #[], .iaload, .istore 4, .aload 0, .tableswitch 0 7 1 #[], .tableswitch 0 0 4 #[], .aload 1, .tableswitch 0 2 4 #[], .iaload, .istore 5, .iload 4, .iconst (-1), .if_icmp .eq 40, .iload 5, .iconst (-1), .if_icmp .ne 41, .return_] 41 = true := qck_r (nn_ _) (by decide +kernel)
theorem bs_X7_addResult_0 {P : Zt → Option Zv → Prop} (K : Int → Zl → List Zv → Zt → Prop) : sx_ K P [.aload 0, .tableswitch 0 7 1 #[], .tableswitch 0 0 4 #[], .aload 1, .tableswitch 0 2 3 #[], .iaload, .istore 4, .aload 0, .tableswitch 0 7 1 #[], .tableswitch 0 0 4 #[], .aload 1, .tableswitch 0 2 4 #[], .iaload, .istore 5, .iload 4, .iconst (-1), .if_icmp .eq 40, .iload 5, .iconst (-1), .if_icmp .ne 41, .return_] 41 = x_aload 0 (x_g5 107 100 1 (x_g2 100 404 (x_aload 1 (x_g0 102 3 0 11 (x_iaload (x_istore 4 (x_aload 0 (x_g5 107 100 1 (x_g2 100 404 (x_aload 1 (x_g0 102 4 0 11 (x_iaload (x_istore 5 (x_iload 4 (x_iconst (-1) (x_if_icmp .eq 40 K (x_iload 5 (x_iconst (-1) (x_if_icmp .ne 41 K (x_return_ P)))))))))))))))))))) := ((xe_aload 0).trans (congrArg (x_aload 0) ((xe_g5 (kk := 107) rfl tl_7_1).trans (congrArg (x_g5 107 100 1) ((xe_g2 (kk := 100) rfl tl_0_4).trans (congrArg (x_g2 100 404) ((xe_aload 1).trans (congrArg (x_aload 1) ((xe_g0 (kk := 102) rfl tl_2_3).trans (congrArg (x_g0 102 3 0 11) ((xe_iaload).trans (congrArg (x_iaload) ((xe_istore 4).trans (congrArg (x_istore 4) ((xe_aload 0).trans (congrArg (x_aload 0) ((xe_g5 (kk := 107) rfl tl_7_1).trans (congrArg (x_g5 107 100 1) ((xe_g2 (kk := 100) rfl tl_0_4).trans (congrArg (x_g2 100 404) ((xe_aload 1).trans (congrArg (x_aload 1) ((xe_g0 (kk := 102) rfl tl_2_4).trans (congrArg (x_g0 102 4 0 11) ((xe_iaload).trans (congrArg (x_iaload) ((xe_istore 5).trans (congrArg (x_istore 5) ((xe_iload 4).trans (congrArg (x_iload 4) ((xe_iconst (-1)).trans (congrArg (x_iconst (-1)) ((xe_if_icmp .eq 40).trans (congrArg (x_if_icmp .eq 40 K) ((xe_iload 5).trans (congrArg (x_iload 5) ((xe_iconst (-1)).trans (congrArg (x_iconst (-1)) ((xe_if_icmp .ne 41).trans (congrArg (x_if_icmp .ne 41 K) (xe_return_)))))))))))))))))))))))))))))))))))))))))
theorem bk_X7_addResult_40 : ck_ fX7 none cX7_addResult 40 [.return_] 41 = true := qck_r (nn_ _) (by decide +kernel)
theorem bs_X7_addResult_40 {P : Zt → Option Zv → Prop} (K : Int → Zl → List Zv → Zt → Prop) : sx_ K P [.return_] 41 = x_return_ P := (xe_return_)
theorem bk_X7_addResult_41 : ck_ fX7 none cX7_addResult 41 [.aload 0, .iload 4, .iload 5, .iload 2, .iload 3] 48 = true := qck_r (nn_ _) (by decide +kernel)
theorem bs_X7_addResult_41 {P : Zt → Option Zv → Prop} (K : Int → Zl → List Zv → Zt → Prop) : sx_ K P [.aload 0, .iload 4, .iload 5, .iload 2, .iload 3] 48 = x_aload 0 (x_iload 4 (x_iload 5 (x_iload 2 (x_iload 3 (K 48))))) := ((xe_aload 0).trans (congrArg (x_aload 0) ((xe_iload 4).trans (congrArg (x_iload 4) ((xe_iload 5).trans (congrArg (x_iload 5) ((xe_iload 2).trans (congrArg (x_iload 2) ((xe_iload 3).trans (congrArg (x_iload 3) xe_nil))))))))))
set_option maxRecDepth 100000 in
theorem cl_X7_117 : cv_ RX7 117 yX7_addSide zX7_addSide 7 4 := ⟨gi_V (lwq_5 (dqc_m (dqc_m (dqc_m (dqc_m (dqc_m (dqc_m (dqa_m (dqa_m (List.mem_of_getElem? (i := 3) rfl))))))))) rfl : Cond.methodLink RX7 117 yX7_addSide ∈ lw_g) (lwq_5 (dqc_m (dqc_m (dqc_m (dqc_m (dqc_m (dqc_m (dqa_m (dqa_m (List.mem_of_getElem? (i := 5) rfl))))))))) rfl : Cond.instanceMethod yX7_addSide ∈ lw_g) (lw_sel 128 rfl : Cond.selects yX7_addSide.cls yX7_addSide yX7_addSide ∈ lw_g) (lwq_1 (List.mem_of_getElem? (i := 5) rfl) rfl : Cond.initialized yX7_addSide.cls ∈ lw_g) (lwq_5 (dqc_m (dqc_m (dqc_m (dqc_m (dqc_m (dqc_m (dqa_m (dqa_m (List.mem_of_getElem? (i := 6) rfl))))))))) rfl : Cond.code yX7_addSide cX7_addSide 8 none ∈ lw_g), ⟨nmh_7.1, nmh_7.2, pdq_12⟩, ⟨_, _, rfl⟩⟩
theorem bk_X7_addResult_51 : ck_ fX7 none cX7_addResult 51 [.aload 0, .iload 5, .iload 4, .iload 3, .iload 2] 58 = true := qck_r (nn_ _) (by decide +kernel)
theorem bs_X7_addResult_51 {P : Zt → Option Zv → Prop} (K : Int → Zl → List Zv → Zt → Prop) : sx_ K P [.aload 0, .iload 5, .iload 4, .iload 3, .iload 2] 58 = x_aload 0 (x_iload 5 (x_iload 4 (x_iload 3 (x_iload 2 (K 58))))) := ((xe_aload 0).trans (congrArg (x_aload 0) ((xe_iload 5).trans (congrArg (x_iload 5) ((xe_iload 4).trans (congrArg (x_iload 4) ((xe_iload 3).trans (congrArg (x_iload 3) ((xe_iload 2).trans (congrArg (x_iload 2) xe_nil))))))))))
theorem bk_X7_addResult_61 : ck_ fX7 none cX7_addResult 61 [.aload 0, .tableswitch 0 7 3 #[], .iload 5, .dup2, .iaload, .iload 3, .fadd, .iastore, .return_] 73 = true := qck_r (nn_ _) (by decide +kernel)
theorem bs_X7_addResult_61 {P : Zt → Option Zv → Prop} (K : Int → Zl → List Zv → Zt → Prop) : sx_ K P [.aload 0, .tableswitch 0 7 3 #[], .iload 5, .dup2, .iaload, .iload 3, .fadd, .iastore, .return_] 73 = x_aload 0 (x_g1 107 543 (x_iload 5 (x_dup2 (x_iaload (x_iload 3 (x_fadd (x_iastore (x_return_ P)))))))) := ((xe_aload 0).trans (congrArg (x_aload 0) ((xe_g1 (kk := 107) rfl tl_7_3).trans (congrArg (x_g1 107 543) ((xe_iload 5).trans (congrArg (x_iload 5) ((xe_dup2).trans (congrArg (x_dup2) ((xe_iaload).trans (congrArg (x_iaload) ((xe_iload 3).trans (congrArg (x_iload 3) ((xe_fadd).trans (congrArg (x_fadd) ((xe_iastore).trans (congrArg (x_iastore) (xe_return_)))))))))))))))))
abbrev po_X7_addResult (T : Zt) (p : Int) (a b : Int) : Zt → Option Zv → Prop := fun T' r => r = none ∧ fr_ [(542, []), (545, []), (546, []), (543, [])] T T' ∧ (0 = (0 : Int))
set_option maxHeartbeats 4000000 in
theorem ct_X7_addResult {T : Zt} {p : Int} {a b : Int} (hct : T 107 0 1 ≠ 0) : Ct_ yX7_addResult zX7_addResult T [vR 107 0, vR 102 p, vI a, vI b] (po_X7_addResult T p a b) := by
  refine ct_of pn_7 rfl rfl (Nat.le_of_ble_eq_true rfl) (fun hT hav => ?_)
  have hr_a : -2147483648 ≤ a ∧ a ≤ 2147483647 := hav (vI a) (List.mem_cons_of_mem _ (List.mem_cons_of_mem _ List.mem_cons_self))
  have hr_b : -2147483648 ≤ b ∧ b ≤ 2147483647 := hav (vI b) (List.mem_cons_of_mem _ (List.mem_cons_of_mem _ (List.mem_cons_of_mem _ List.mem_cons_self)))
  have hz : zX7_addResult.2.2.2.1 = some .boolean → ∀ (T' : Zt) (x : Int), po_X7_addResult T p a b T' (some (vI x)) → 0 ≤ x ∧ x ≤ 1 := fun h => by cases h
  show J_ zX7_addResult T (po_X7_addResult T p a b) 0 0 0 [some (vR 107 0), some (vR 102 p), some (vI a), some (vI b), none, none] [] T
  refine j_blx (F := fX7) tb_X7 (nn_ _) bk_X7_addResult_0 bs_X7_addResult_0 hz (fun K hK => ?_)
  refine And.intro (fun c1 => ?_) (fun c1 => ?_)
  · exact absurd c1 (by omega)
  · intro b2 b2b
    refine ix_i (by omega) ?_
    intro b3 b3b
    refine And.intro (fun c4 => ?_) (fun c4 => ?_)
    · exact absurd c4 (by omega)
    · intro b5 b5b
      refine ix_i (by omega) ?_
      intro b6 b6b
      refine And.intro (fun c7 => ?_) (fun c7 => ?_)
      · refine hK 40 [some (vR 107 0), some (vR 102 p), some (vI a), some (vI b), some (vI (T 404 (T 107 0 1 - 1) (T 102 p 3))), some (vI (T 404 (T 107 0 1 - 1) (T 102 p 4)))] [] T ?_
        refine j_blx (F := fX7) tb_X7 (nn_ _) bk_X7_addResult_40 bs_X7_addResult_40 hz (fun K hK => ?_)
        refine (show po_X7_addResult T p a b T (none) from ?_)
        exact ⟨rfl, fr_0 _ _, by rfl⟩
      · refine And.intro (fun c8 => ?_) (fun c8 => ?_)
        · refine hK 41 _ [] T ?_
          refine j_blx (F := fX7) tb_X7 (nn_ _) bk_X7_addResult_41 bs_X7_addResult_41 hz (fun K hK => ?_)
          refine hK 48 _ [vI b, vI a, vI (T 404 (T 107 0 1 - 1) (T 102 p 4)), vI (T 404 (T 107 0 1 - 1) (T 102 p 3)), vR 107 0] T ?_
          refine j_callV (y := yX7_addSide) (Yc := zX7_addSide) (rest := []) [vI (T 404 (T 107 0 1 - 1) (T 102 p 3)), vI (T 404 (T 107 0 1 - 1) (T 102 p 4)), vI a, vI b] (ct_X7_addSide (T := T) (by omega) (by omega) (by omega)) cl_X7_117 (qd_c (by decide +kernel)) (nn_ _) rfl (rf_of rfl) (Nat.le_of_ble_eq_true rfl) (Nat.le_of_ble_eq_true rfl) (Nat.le_of_ble_eq_true rfl) rfl ?_
          rintro U9 _ ⟨rfl, fU9, qU9⟩
          show J_ zX7_addResult T (po_X7_addResult T p a b) 0 0 51 _ [] U9
          refine j_blx (F := fX7) tb_X7 (nn_ _) bk_X7_addResult_51 bs_X7_addResult_51 hz (fun K hK => ?_)
          refine hK 58 _ [vI a, vI b, vI (T 404 (T 107 0 1 - 1) (T 102 p 3)), vI (T 404 (T 107 0 1 - 1) (T 102 p 4)), vR 107 0] U9 ?_
          have e10 : U9 107 0 1 = T 107 0 1 := fU9 107 0 1 rfl
          refine j_callV (y := yX7_addSide) (Yc := zX7_addSide) (rest := []) [vI (T 404 (T 107 0 1 - 1) (T 102 p 4)), vI (T 404 (T 107 0 1 - 1) (T 102 p 3)), vI b, vI a] (ct_X7_addSide (T := U9) (by omega) (by omega) (by omega)) cl_X7_117 (qd_c (by decide +kernel)) (nn_ _) rfl (rf_of rfl) (Nat.le_of_ble_eq_true rfl) (Nat.le_of_ble_eq_true rfl) (Nat.le_of_ble_eq_true rfl) rfl ?_
          rintro U11 _ ⟨rfl, fU11, qU11⟩
          show J_ zX7_addResult T (po_X7_addResult T p a b) 0 0 61 _ [] U11
          refine j_blx (F := fX7) tb_X7 (nn_ _) bk_X7_addResult_61 bs_X7_addResult_61 hz (fun K hK => ?_)
          refine ix_i (by omega) ?_
          intro b12 b12b
          have e13 : U11 543 0 (T 404 (T 107 0 1 - 1) (T 102 p 4)) = T 543 0 (T 404 (T 107 0 1 - 1) (T 102 p 4)) := (fU11 543 0 (T 404 (T 107 0 1 - 1) (T 102 p 4)) rfl).trans (fU9 543 0 (T 404 (T 107 0 1 - 1) (T 102 p 4)) rfl)
          rw [e13] at b12 b12b ⊢
          intro w14 w14b
          refine iy_i (by omega) (by omega) ?_
          refine x_nm (fun U15 hU15 => ?_)
          have e16 := up_f hU15
          refine (show po_X7_addResult T p a b U15 (none) from ?_)
          exact ⟨rfl, fr_u (fr_t (fr_t (fr_0 _ _) (fr_s fU9 rfl)) (fr_s fU11 rfl)) hU15 rfl, by rfl⟩
        · refine (show po_X7_addResult T p a b T (none) from ?_)
          exact ⟨rfl, fr_0 _ _, by rfl⟩
abbrev cX7_addCards : ByteArray := prog_9_method_5_code
def yX7_addCards : MethodName := ⟨RX7, "addCards", "(LSportsHouse$Match;)V"⟩
def zX7_addCards : Zm := (RX7, cX7_addCards, 6, none, { frames := 1, cells := 0, slots := 0, locals := 21 })
theorem bk_X7_addCards_42 : ck_ fX7 none cX7_addCards 42 [.iload 3, .iconst (-1), .if_icmp .eq 110, .iload 4, .aload 1, .tableswitch 0 2 9 #[], .iload 2, .iaload, .if_icmp .ge 110, .iload 2, .iconst 10, .imul, .iload 4, .iadd, .istore 5, .aload 0, .tableswitch 0 7 4 #[], .iload 3, .dup2, .iaload, .aload 1, .tableswitch 0 2 10 #[], .tableswitch 0 3 13 #[], .iload 5, .iaload, .aload 1, .tableswitch 0 2 10 #[], .iload 5] 90 = true := qck_r (nn_ _) (by decide +kernel)
theorem bs_X7_addCards_42 {P : Zt → Option Zv → Prop} (K : Int → Zl → List Zv → Zt → Prop) : sx_ K P [.iload 3, .iconst (-1), .if_icmp .eq 110, .iload 4, .aload 1, .tableswitch 0 2 9 #[], .iload 2, .iaload, .if_icmp .ge 110, .iload 2, .iconst 10, .imul, .iload 4, .iadd, .istore 5, .aload 0, .tableswitch 0 7 4 #[], .iload 3, .dup2, .iaload, .aload 1, .tableswitch 0 2 10 #[], .tableswitch 0 3 13 #[], .iload 5, .iaload, .aload 1, .tableswitch 0 2 10 #[], .iload 5] 90 = x_iload 3 (x_iconst (-1) (x_if_icmp .eq 110 K (x_iload 4 (x_aload 1 (x_g2 102 449 (x_iload 2 (x_iaload (x_if_icmp .ge 110 K (x_iload 2 (x_iconst 10 (x_imul (x_iload 4 (x_iadd (x_istore 5 (x_aload 0 (x_g1 107 544 (x_iload 3 (x_dup2 (x_iaload (x_aload 1 (x_g4 102 103 10 (x_g2 103 473 (x_iload 5 (x_iaload (x_aload 1 (x_g4 102 103 10 (x_iload 5 (K 90)))))))))))))))))))))))))))) := ((xe_iload 3).trans (congrArg (x_iload 3) ((xe_iconst (-1)).trans (congrArg (x_iconst (-1)) ((xe_if_icmp .eq 110).trans (congrArg (x_if_icmp .eq 110 K) ((xe_iload 4).trans (congrArg (x_iload 4) ((xe_aload 1).trans (congrArg (x_aload 1) ((xe_g2 (kk := 102) rfl tl_2_9).trans (congrArg (x_g2 102 449) ((xe_iload 2).trans (congrArg (x_iload 2) ((xe_iaload).trans (congrArg (x_iaload) ((xe_if_icmp .ge 110).trans (congrArg (x_if_icmp .ge 110 K) ((xe_iload 2).trans (congrArg (x_iload 2) ((xe_iconst 10).trans (congrArg (x_iconst 10) ((xe_imul).trans (congrArg (x_imul) ((xe_iload 4).trans (congrArg (x_iload 4) ((xe_iadd).trans (congrArg (x_iadd) ((xe_istore 5).trans (congrArg (x_istore 5) ((xe_aload 0).trans (congrArg (x_aload 0) ((xe_g1 (kk := 107) rfl tl_7_4).trans (congrArg (x_g1 107 544) ((xe_iload 3).trans (congrArg (x_iload 3) ((xe_dup2).trans (congrArg (x_dup2) ((xe_iaload).trans (congrArg (x_iaload) ((xe_aload 1).trans (congrArg (x_aload 1) ((xe_g4 (kk := 102) rfl tl_2_10).trans (congrArg (x_g4 102 103 10) ((xe_g2 (kk := 103) rfl tl_3_13).trans (congrArg (x_g2 103 473) ((xe_iload 5).trans (congrArg (x_iload 5) ((xe_iaload).trans (congrArg (x_iaload) ((xe_aload 1).trans (congrArg (x_aload 1) ((xe_g4 (kk := 102) rfl tl_2_10).trans (congrArg (x_g4 102 103 10) ((xe_iload 5).trans (congrArg (x_iload 5) xe_nil))))))))))))))))))))))))))))))))))))))))))))))))))))))))
theorem bk_X7_addCards_110 : ck_ fX7 none cX7_addCards 110 [.iinc 2 1, .goto 10] 116 = true := qck_r (nn_ _) (by decide +kernel)
theorem bs_X7_addCards_110 {P : Zt → Option Zv → Prop} (K : Int → Zl → List Zv → Zt → Prop) : sx_ K P [.iinc 2 1, .goto 10] 116 = x_iinc 2 1 (x_goto 10 K) := ((xe_iinc 2 1).trans (congrArg (x_iinc 2 1) (xe_goto 10)))
set_option maxRecDepth 100000 in
theorem cl_X7_136 : cv_ RX7 136 yX3_isSentOff zX3_isSentOff 3 1 := ⟨gi_V (lwq_5 (dqc_m (dqc_m (dqc_m (dqc_m (dqc_m (dqc_m (dqa_m (dqa_m (dqa_m (List.mem_of_getElem? (i := 3) rfl)))))))))) rfl : Cond.methodLink RX7 136 yX3_isSentOff ∈ lw_g) (lwq_4 (dqc_m (dqc_m (dqc_m (dqc_m (dqc_m (List.mem_of_getElem? (i := 4) rfl)))))) rfl : Cond.instanceMethod yX3_isSentOff ∈ lw_g) (lwq_4 (dqc_m (dqc_m (dqc_m (dqc_m (dqc_m (List.mem_of_getElem? (i := 5) rfl)))))) rfl : Cond.selects yX3_isSentOff.cls yX3_isSentOff yX3_isSentOff ∈ lw_g) (lwq_1 (dqa_m (dqa_m (List.mem_of_getElem? (i := 2) rfl))) rfl : Cond.initialized yX3_isSentOff.cls ∈ lw_g) (lwq_4 (dqc_m (dqc_m (dqc_m (dqc_m (dqc_m (List.mem_of_getElem? (i := 6) rfl)))))) rfl : Cond.code yX3_isSentOff cX3_isSentOff 2 (some .boolean) ∈ lw_g), ⟨nmh_3.1, nmh_3.2, pdq_7⟩, ⟨_, _, rfl⟩⟩
theorem bk_X7_addCards_93 : ck_ fX7 none cX7_addCards 93 [.ifCond .eq 100, .iconst 3, .goto 101] 100 = true := qck_r (nn_ _) (by decide +kernel)
theorem bs_X7_addCards_93 {P : Zt → Option Zv → Prop} (K : Int → Zl → List Zv → Zt → Prop) : sx_ K P [.ifCond .eq 100, .iconst 3, .goto 101] 100 = x_ifCond .eq 100 K (x_iconst 3 (x_goto 101 K)) := ((xe_ifCond .eq 100).trans (congrArg (x_ifCond .eq 100 K) ((xe_iconst 3).trans (congrArg (x_iconst 3) (xe_goto 101)))))
theorem bk_X7_addCards_100 : ck_ fX7 none cX7_addCards 100 [.iconst 0, .fadd, .fadd, .iastore, .iinc 4 1, .goto 42] 110 = true := qck_r (nn_ _) (by decide +kernel)
theorem bs_X7_addCards_100 {P : Zt → Option Zv → Prop} (K : Int → Zl → List Zv → Zt → Prop) : sx_ K P [.iconst 0, .fadd, .fadd, .iastore, .iinc 4 1, .goto 42] 110 = x_iconst 0 (x_fadd (x_fadd (x_iastore (x_iinc 4 1 (x_goto 42 K))))) := ((xe_iconst 0).trans (congrArg (x_iconst 0) ((xe_fadd).trans (congrArg (x_fadd) ((xe_fadd).trans (congrArg (x_fadd) ((xe_iastore).trans (congrArg (x_iastore) ((xe_iinc 4 1).trans (congrArg (x_iinc 4 1) (xe_goto 42)))))))))))
theorem bk_X7_addCards_101 : ck_ fX7 none cX7_addCards 101 [.fadd, .fadd, .iastore, .iinc 4 1, .goto 42] 110 = true := qck_r (nn_ _) (by decide +kernel)
theorem bs_X7_addCards_101 {P : Zt → Option Zv → Prop} (K : Int → Zl → List Zv → Zt → Prop) : sx_ K P [.fadd, .fadd, .iastore, .iinc 4 1, .goto 42] 110 = x_fadd (x_fadd (x_iastore (x_iinc 4 1 (x_goto 42 K)))) := ((xe_fadd).trans (congrArg (x_fadd) ((xe_fadd).trans (congrArg (x_fadd) ((xe_iastore).trans (congrArg (x_iastore) ((xe_iinc 4 1).trans (congrArg (x_iinc 4 1) (xe_goto 42)))))))))
theorem bk_X7_addCards_10 : ck_ fX7 none cX7_addCards 10 [.iload 2, .iconst 2, .if_icmp .ge 116, .aload 0, .tableswitch 0 7 1 #[], .tableswitch 0 0 4 #[], .iload 2, .ifCond .ne 33, .aload 1, .tableswitch 0 2 3 #[], .goto 37] 33 = true := qck_r (nn_ _) (by decide +kernel)
theorem bs_X7_addCards_10 {P : Zt → Option Zv → Prop} (K : Int → Zl → List Zv → Zt → Prop) : sx_ K P [.iload 2, .iconst 2, .if_icmp .ge 116, .aload 0, .tableswitch 0 7 1 #[], .tableswitch 0 0 4 #[], .iload 2, .ifCond .ne 33, .aload 1, .tableswitch 0 2 3 #[], .goto 37] 33 = x_iload 2 (x_iconst 2 (x_if_icmp .ge 116 K (x_aload 0 (x_g5 107 100 1 (x_g2 100 404 (x_iload 2 (x_ifCond .ne 33 K (x_aload 1 (x_g0 102 3 0 11 (x_goto 37 K)))))))))) := ((xe_iload 2).trans (congrArg (x_iload 2) ((xe_iconst 2).trans (congrArg (x_iconst 2) ((xe_if_icmp .ge 116).trans (congrArg (x_if_icmp .ge 116 K) ((xe_aload 0).trans (congrArg (x_aload 0) ((xe_g5 (kk := 107) rfl tl_7_1).trans (congrArg (x_g5 107 100 1) ((xe_g2 (kk := 100) rfl tl_0_4).trans (congrArg (x_g2 100 404) ((xe_iload 2).trans (congrArg (x_iload 2) ((xe_ifCond .ne 33).trans (congrArg (x_ifCond .ne 33 K) ((xe_aload 1).trans (congrArg (x_aload 1) ((xe_g0 (kk := 102) rfl tl_2_3).trans (congrArg (x_g0 102 3 0 11) (xe_goto 37)))))))))))))))))))))
theorem bk_X7_addCards_116 : ck_ fX7 none cX7_addCards 116 [.return_] 117 = true := qck_r (nn_ _) (by decide +kernel)
theorem bs_X7_addCards_116 {P : Zt → Option Zv → Prop} (K : Int → Zl → List Zv → Zt → Prop) : sx_ K P [.return_] 117 = x_return_ P := (xe_return_)
theorem bk_X7_addCards_33 : ck_ fX7 none cX7_addCards 33 [.aload 1, .tableswitch 0 2 4 #[], .iaload, .istore 3, .iconst 0, .istore 4] 42 = true := qck_r (nn_ _) (by decide +kernel)
theorem bs_X7_addCards_33 {P : Zt → Option Zv → Prop} (K : Int → Zl → List Zv → Zt → Prop) : sx_ K P [.aload 1, .tableswitch 0 2 4 #[], .iaload, .istore 3, .iconst 0, .istore 4] 42 = x_aload 1 (x_g0 102 4 0 11 (x_iaload (x_istore 3 (x_iconst 0 (x_istore 4 (K 42)))))) := ((xe_aload 1).trans (congrArg (x_aload 1) ((xe_g0 (kk := 102) rfl tl_2_4).trans (congrArg (x_g0 102 4 0 11) ((xe_iaload).trans (congrArg (x_iaload) ((xe_istore 3).trans (congrArg (x_istore 3) ((xe_iconst 0).trans (congrArg (x_iconst 0) ((xe_istore 4).trans (congrArg (x_istore 4) xe_nil))))))))))))
theorem bk_X7_addCards_37 : ck_ fX7 none cX7_addCards 37 [.iaload, .istore 3, .iconst 0, .istore 4] 42 = true := qck_r (nn_ _) (by decide +kernel)
theorem bs_X7_addCards_37 {P : Zt → Option Zv → Prop} (K : Int → Zl → List Zv → Zt → Prop) : sx_ K P [.iaload, .istore 3, .iconst 0, .istore 4] 42 = x_iaload (x_istore 3 (x_iconst 0 (x_istore 4 (K 42)))) := ((xe_iaload).trans (congrArg (x_iaload) ((xe_istore 3).trans (congrArg (x_istore 3) ((xe_iconst 0).trans (congrArg (x_iconst 0) ((xe_istore 4).trans (congrArg (x_istore 4) xe_nil))))))))
theorem bk_X7_addCards_0 : ck_ fX7 none cX7_addCards 0 [.aload 1, .tableswitch 0 2 10 #[], .ifnonnull 8, .return_] 8 = true := qck_r (nn_ _) (by decide +kernel)
theorem bs_X7_addCards_0 {P : Zt → Option Zv → Prop} (K : Int → Zl → List Zv → Zt → Prop) : sx_ K P [.aload 1, .tableswitch 0 2 10 #[], .ifnonnull 8, .return_] 8 = x_aload 1 (x_g4 102 103 10 (x_ifnonnull 8 K (x_return_ P))) := ((xe_aload 1).trans (congrArg (x_aload 1) ((xe_g4 (kk := 102) rfl tl_2_10).trans (congrArg (x_g4 102 103 10) ((xe_ifnonnull 8).trans (congrArg (x_ifnonnull 8 K) (xe_return_)))))))
theorem bk_X7_addCards_8 : ck_ fX7 none cX7_addCards 8 [.iconst 0, .istore 2] 10 = true := qck_r (nn_ _) (by decide +kernel)
theorem bs_X7_addCards_8 {P : Zt → Option Zv → Prop} (K : Int → Zl → List Zv → Zt → Prop) : sx_ K P [.iconst 0, .istore 2] 10 = x_iconst 0 (x_istore 2 (K 10)) := ((xe_iconst 0).trans (congrArg (x_iconst 0) ((xe_istore 2).trans (congrArg (x_istore 2) xe_nil))))
abbrev po_X7_addCards (T : Zt) (p : Int) : Zt → Option Zv → Prop := fun T' r => r = none ∧ fr_ [(544, [])] T T' ∧ (0 = (0 : Int))
set_option maxHeartbeats 4000000 in
theorem ct_X7_addCards {T : Zt} {p : Int} (hct : T 107 0 1 ≠ 0) : Ct_ yX7_addCards zX7_addCards T [vR 107 0, vR 102 p] (po_X7_addCards T p) := by
  refine ct_of pn_7 rfl rfl (Nat.le_of_ble_eq_true rfl) (fun hT hav => ?_)
  have hz : zX7_addCards.2.2.2.1 = some .boolean → ∀ (T' : Zt) (x : Int), po_X7_addCards T p T' (some (vI x)) → 0 ≤ x ∧ x ≤ 1 := fun h => by cases h
  show J_ zX7_addCards T (po_X7_addCards T p) 0 0 0 [some (vR 107 0), some (vR 102 p), none, none, none, none] [] T
  have c_10 : ∀ (nn : Nat) (d : Int) (T1 : Zt), ((2 - d).toNat) ≤ nn → (fr_ [(544, [])] T T1) → (0 ≤ d ∧ d ≤ 2 ∧ T 102 p 10 ≠ 0) → J_ zX7_addCards T (po_X7_addCards T p) 0 0 10 [some (vR 107 0), some (vR 102 p), some (vI d), none, none, none] [] T1 := by
    intro nn
    induction nn using Nat.strongRecOn with
    | _ nn ih_10 =>
      intro d T1 hm_10 hf_10 i1
      replace hm_10 := fun (_ : Unit) => hm_10
      have c_42 : ∀ (nn : Nat) (e : Int) (k : Int) (T2 : Zt), ((10 - k).toNat) ≤ nn → (fr_ [(544, [])] T T2) → (-1 ≤ e ∧ e < 12 ∧ 0 ≤ k ∧ d < 2) → J_ zX7_addCards T (po_X7_addCards T p) 0 0 42 [some (vR 107 0), some (vR 102 p), some (vI d), some (vI e), some (vI k), none] [] T2 := by
        intro nn
        induction nn using Nat.strongRecOn with
        | _ nn ih_42 =>
          intro e k T2 hm_42 hf_42 i2
          replace hm_42 := fun (_ : Unit) => hm_42
          refine j_blx (F := fX7) tb_X7 (nn_ _) bk_X7_addCards_42 bs_X7_addCards_42 hz (fun K hK => ?_)
          refine And.intro (fun c1 => ?_) (fun c1 => ?_)
          · refine hK 110 _ [] T2 ?_
            refine j_blx (F := fX7) tb_X7 (nn_ _) bk_X7_addCards_110 bs_X7_addCards_110 hz (fun K hK => ?_)
            refine rg_i (by omega) ?_
            refine hK 10 [some (vR 107 0), some (vR 102 p), some (vI (d + 1)), some (vI e), some (vI k), none] [] T2 ?_
            refine j_drq [some (vR 107 0), some (vR 102 p), some (vI (d + 1)), none, none, none] (drq_s (drq_s (drq_s (drq_n (drq_n (drq_n drq_0)))))) ?_
            refine ih_10 _ ?_ (d + 1) T2 (Nat.le_refl _) ?_ ?_
            · have hm_10 := hm_10 (); omega
            · exact fr_t (fr_0 _ _) (fr_s hf_42 rfl)
            · omega
          · refine ix_i (by omega) ?_
            intro b2 b2b
            have e3 : T2 449 p d = T 449 p d := hf_42 449 p d rfl
            rw [e3] at b2 b2b ⊢
            refine And.intro (fun c4 => ?_) (fun c4 => ?_)
            · refine hK 110 [some (vR 107 0), some (vR 102 p), some (vI d), some (vI e), some (vI k), none] [] T2 ?_
              refine j_blx (F := fX7) tb_X7 (nn_ _) bk_X7_addCards_110 bs_X7_addCards_110 hz (fun K hK => ?_)
              refine rg_i (by omega) ?_
              refine hK 10 [some (vR 107 0), some (vR 102 p), some (vI (d + 1)), some (vI e), some (vI k), none] [] T2 ?_
              refine j_drq [some (vR 107 0), some (vR 102 p), some (vI (d + 1)), none, none, none] (drq_s (drq_s (drq_s (drq_n (drq_n (drq_n drq_0)))))) ?_
              refine ih_10 _ ?_ (d + 1) T2 (Nat.le_refl _) ?_ ?_
              · have hm_10 := hm_10 (); omega
              · exact fr_t (fr_0 _ _) (fr_s hf_42 rfl)
              · omega
            · refine rg_i (by omega) ?_
              refine rg_i (by omega) ?_
              refine ix_i (by omega) ?_
              intro b5 b5b
              have e7 : T2 102 p 10 = T 102 p 10 := hf_42 102 p 10 rfl
              refine And.intro (fun c6 => ?_) (fun c6 => ?_)
              · exact absurd c6 (by omega)
              · refine ix_i (by omega) ?_
                intro b8 b8b
                have e9 : T2 473 p ((d * 10) + k) = T 473 p ((d * 10) + k) := hf_42 473 p ((d * 10) + k) rfl
                rw [e9] at b8 b8b ⊢
                have e11 : T2 102 p 10 = T 102 p 10 := hf_42 102 p 10 rfl
                refine And.intro (fun c10 => ?_) (fun c10 => ?_)
                · exact absurd c10 (by omega)
                · refine hK 90 [some (vR 107 0), some (vR 102 p), some (vI d), some (vI e), some (vI k), some (vI ((d * 10) + k))] [vI ((d * 10) + k), vR 103 p, vI (T 473 p ((d * 10) + k)), vI (T2 544 0 e), vI e, vR 544 0] T2 ?_
                  refine j_callV (y := yX3_isSentOff) (Yc := zX3_isSentOff) (rest := [vI (T 473 p ((d * 10) + k)), vI (T2 544 0 e), vI e, vR 544 0]) [vI ((d * 10) + k)] (ct_X3_isSentOff (T := T2) (by omega)) cl_X7_136 (qd_c (by decide +kernel)) (nn_ _) rfl (rf_of rfl) (Nat.le_of_ble_eq_true rfl) (Nat.le_of_ble_eq_true rfl) (Nat.le_of_ble_eq_true rfl) rfl ?_
                  rintro _ _ ⟨rfl, x12, rfl, hx12⟩
                  show J_ zX7_addCards T (po_X7_addCards T p) 0 0 93 _ [vI x12, vI (T 473 p ((d * 10) + k)), vI (T2 544 0 e), vI e, vR 544 0] T2
                  refine j_blx (F := fX7) tb_X7 (nn_ _) bk_X7_addCards_93 bs_X7_addCards_93 hz (fun K hK => ?_)
                  refine And.intro (fun c13 => ?_) (fun c13 => ?_)
                  · refine hK 100 _ [vI (T 473 p ((d * 10) + k)), vI (T2 544 0 e), vI e, vR 544 0] T2 ?_
                    refine j_blx (F := fX7) tb_X7 (nn_ _) bk_X7_addCards_100 bs_X7_addCards_100 hz (fun K hK => ?_)
                    intro w14 w14b
                    intro w15 w15b
                    refine iy_i (by omega) (by omega) ?_
                    refine x_nm (fun U16 hU16 => ?_)
                    have e17 := up_f hU16
                    refine rg_i (by omega) ?_
                    refine hK 42 [some (vR 107 0), some (vR 102 p), some (vI d), some (vI e), some (vI (k + 1)), some (vI ((d * 10) + k))] [] U16 ?_
                    refine j_drq [some (vR 107 0), some (vR 102 p), some (vI d), some (vI e), some (vI (k + 1)), none] (drq_s (drq_s (drq_s (drq_s (drq_s (drq_n drq_0)))))) ?_
                    refine ih_42 _ ?_ e (k + 1) U16 (Nat.le_refl _) ?_ ?_
                    · have hm_42 := hm_42 (); omega
                    · exact fr_u (fr_t (fr_0 _ _) (fr_s hf_42 rfl)) hU16 rfl
                    · omega
                  · refine hK 101 [some (vR 107 0), some (vR 102 p), some (vI d), some (vI e), some (vI k), some (vI ((d * 10) + k))] [vI 3, vI (T 473 p ((d * 10) + k)), vI (T2 544 0 e), vI e, vR 544 0] T2 ?_
                    refine j_blx (F := fX7) tb_X7 (nn_ _) bk_X7_addCards_101 bs_X7_addCards_101 hz (fun K hK => ?_)
                    intro w18 w18b
                    intro w19 w19b
                    refine iy_i (by omega) (by omega) ?_
                    refine x_nm (fun U20 hU20 => ?_)
                    have e21 := up_f hU20
                    refine rg_i (by omega) ?_
                    refine hK 42 [some (vR 107 0), some (vR 102 p), some (vI d), some (vI e), some (vI (k + 1)), some (vI ((d * 10) + k))] [] U20 ?_
                    refine j_drq [some (vR 107 0), some (vR 102 p), some (vI d), some (vI e), some (vI (k + 1)), none] (drq_s (drq_s (drq_s (drq_s (drq_s (drq_n drq_0)))))) ?_
                    refine ih_42 _ ?_ e (k + 1) U20 (Nat.le_refl _) ?_ ?_
                    · have hm_42 := hm_42 (); omega
                    · exact fr_u (fr_t (fr_0 _ _) (fr_s hf_42 rfl)) hU20 rfl
                    · omega
      refine j_blx (F := fX7) tb_X7 (nn_ _) bk_X7_addCards_10 bs_X7_addCards_10 hz (fun K hK => ?_)
      refine And.intro (fun c22 => ?_) (fun c22 => ?_)
      · refine hK 116 _ [] T1 ?_
        refine j_blx (F := fX7) tb_X7 (nn_ _) bk_X7_addCards_116 bs_X7_addCards_116 hz (fun K hK => ?_)
        refine (show po_X7_addCards T p T1 (none) from ?_)
        exact ⟨rfl, fr_t (fr_0 _ _) (fr_s hf_10 rfl), by rfl⟩
      · have e24 : T1 107 0 1 = T 107 0 1 := hf_10 107 0 1 rfl
        refine And.intro (fun c23 => ?_) (fun c23 => ?_)
        · exact absurd c23 (by omega)
        · refine And.intro (fun c25 => ?_) (fun c25 => ?_)
          · refine hK 33 _ [vR 404 (T1 107 0 1 - 1)] T1 ?_
            refine j_blx (F := fX7) tb_X7 (nn_ _) bk_X7_addCards_33 bs_X7_addCards_33 hz (fun K hK => ?_)
            intro b26 b26b
            have e27 : T1 102 p 4 = T 102 p 4 := hf_10 102 p 4 rfl
            rw [e27] at b26 b26b ⊢
            refine ix_i (by omega) ?_
            intro b28 b28b
            have e29 : T1 404 (T 107 0 1 - 1) (T 102 p 4) = T 404 (T 107 0 1 - 1) (T 102 p 4) := hf_10 404 (T 107 0 1 - 1) (T 102 p 4) rfl
            have e30 : T1 404 (T1 107 0 1 - 1) (T 102 p 4) = T 404 (T 107 0 1 - 1) (T 102 p 4) := by rw [e24]; exact e29
            rw [e30] at b28 b28b ⊢
            refine hK 42 [some (vR 107 0), some (vR 102 p), some (vI d), some (vI (T 404 (T 107 0 1 - 1) (T 102 p 4))), some (vI 0), none] [] T1 ?_
            refine c_42 _ (T 404 (T 107 0 1 - 1) (T 102 p 4)) 0 T1 (Nat.le_refl _) ?_ ?_
            · exact fr_t (fr_0 _ _) (fr_s hf_10 rfl)
            · omega
          · intro b31 b31b
            have e32 : T1 102 p 3 = T 102 p 3 := hf_10 102 p 3 rfl
            rw [e32] at b31 b31b ⊢
            refine hK 37 [some (vR 107 0), some (vR 102 p), some (vI d), none, none, none] [vI (T 102 p 3), vR 404 (T1 107 0 1 - 1)] T1 ?_
            refine j_blx (F := fX7) tb_X7 (nn_ _) bk_X7_addCards_37 bs_X7_addCards_37 hz (fun K hK => ?_)
            refine ix_i (by omega) ?_
            intro b33 b33b
            have e34 : T1 404 (T 107 0 1 - 1) (T 102 p 3) = T 404 (T 107 0 1 - 1) (T 102 p 3) := hf_10 404 (T 107 0 1 - 1) (T 102 p 3) rfl
            have e35 : T1 404 (T1 107 0 1 - 1) (T 102 p 3) = T 404 (T 107 0 1 - 1) (T 102 p 3) := by rw [e24]; exact e34
            rw [e35] at b33 b33b ⊢
            refine hK 42 [some (vR 107 0), some (vR 102 p), some (vI d), some (vI (T 404 (T 107 0 1 - 1) (T 102 p 3))), some (vI 0), none] [] T1 ?_
            refine c_42 _ (T 404 (T 107 0 1 - 1) (T 102 p 3)) 0 T1 (Nat.le_refl _) ?_ ?_
            · exact fr_t (fr_0 _ _) (fr_s hf_10 rfl)
            · omega
  refine j_blx (F := fX7) tb_X7 (nn_ _) bk_X7_addCards_0 bs_X7_addCards_0 hz (fun K hK => ?_)
  refine And.intro (fun c36 => ?_) (fun c36 => ?_)
  · refine (show po_X7_addCards T p T (none) from ?_)
    exact ⟨rfl, fr_0 _ _, by rfl⟩
  · refine hK 8 _ [] T ?_
    refine j_blx (F := fX7) tb_X7 (nn_ _) bk_X7_addCards_8 bs_X7_addCards_8 hz (fun K hK => ?_)
    refine hK 10 [some (vR 107 0), some (vR 102 p), some (vI 0), none, none, none] [] T ?_
    refine c_10 _ 0 T (Nat.le_refl _) ?_ ?_
    · exact fr_0 _ _
    · omega
abbrev cX7_lot : ByteArray := prog_9_method_12_code
def yX7_lot : MethodName := ⟨RX7, "lot", "(II)I"⟩
def zX7_lot : Zm := (RX7, cX7_lot, 4, (some .int), { frames := 0, cells := 0, slots := 0, locals := 0 })
theorem bk_X7_lot_0 : ck_ fX7 (some .int) cX7_lot 0 [.aload 0, .tableswitch 0 7 1 #[], .tableswitch 0 0 1 #[], .iconst 15, .iaload, .iconst 1000003, .fmul, .iload 2, .fadd, .iconst 31, .fmul, .iload 1, .fadd, .istore 3, .iload 3, .iload 3, .iconst 16, .iushr, .ixor, .iconst 73244475, .fmul, .istore 3, .iload 3, .iload 3, .iconst 16, .iushr, .ixor, .iconst 73244475, .fmul, .istore 3, .iload 3, .iload 3, .iconst 16, .iushr, .ixor, .istore 3, .iload 3, .iconst 2147483647, .iand, .ireturn] 53 = true := qck_r (nn_ _) (by decide +kernel)
theorem bs_X7_lot_0 {P : Zt → Option Zv → Prop} (K : Int → Zl → List Zv → Zt → Prop) : sx_ K P [.aload 0, .tableswitch 0 7 1 #[], .tableswitch 0 0 1 #[], .iconst 15, .iaload, .iconst 1000003, .fmul, .iload 2, .fadd, .iconst 31, .fmul, .iload 1, .fadd, .istore 3, .iload 3, .iload 3, .iconst 16, .iushr, .ixor, .iconst 73244475, .fmul, .istore 3, .iload 3, .iload 3, .iconst 16, .iushr, .ixor, .iconst 73244475, .fmul, .istore 3, .iload 3, .iload 3, .iconst 16, .iushr, .ixor, .istore 3, .iload 3, .iconst 2147483647, .iand, .ireturn] 53 = x_aload 0 (x_g5 107 100 1 (x_g2 100 401 (x_iconst 15 (x_iaload (x_iconst 1000003 (x_fmul (x_iload 2 (x_fadd (x_iconst 31 (x_fmul (x_iload 1 (x_fadd (x_istore 3 (x_iload 3 (x_iload 3 (x_iconst 16 (x_iushr (x_ixor (x_iconst 73244475 (x_fmul (x_istore 3 (x_iload 3 (x_iload 3 (x_iconst 16 (x_iushr (x_ixor (x_iconst 73244475 (x_fmul (x_istore 3 (x_iload 3 (x_iload 3 (x_iconst 16 (x_iushr (x_ixor (x_istore 3 (x_iload 3 (x_iconst 2147483647 (x_iand (x_ireturn P))))))))))))))))))))))))))))))))))))))) := ((xe_aload 0).trans (congrArg (x_aload 0) ((xe_g5 (kk := 107) rfl tl_7_1).trans (congrArg (x_g5 107 100 1) ((xe_g2 (kk := 100) rfl tl_0_1).trans (congrArg (x_g2 100 401) ((xe_iconst 15).trans (congrArg (x_iconst 15) ((xe_iaload).trans (congrArg (x_iaload) ((xe_iconst 1000003).trans (congrArg (x_iconst 1000003) ((xe_fmul).trans (congrArg (x_fmul) ((xe_iload 2).trans (congrArg (x_iload 2) ((xe_fadd).trans (congrArg (x_fadd) ((xe_iconst 31).trans (congrArg (x_iconst 31) ((xe_fmul).trans (congrArg (x_fmul) ((xe_iload 1).trans (congrArg (x_iload 1) ((xe_fadd).trans (congrArg (x_fadd) ((xe_istore 3).trans (congrArg (x_istore 3) ((xe_iload 3).trans (congrArg (x_iload 3) ((xe_iload 3).trans (congrArg (x_iload 3) ((xe_iconst 16).trans (congrArg (x_iconst 16) ((xe_iushr).trans (congrArg (x_iushr) ((xe_ixor).trans (congrArg (x_ixor) ((xe_iconst 73244475).trans (congrArg (x_iconst 73244475) ((xe_fmul).trans (congrArg (x_fmul) ((xe_istore 3).trans (congrArg (x_istore 3) ((xe_iload 3).trans (congrArg (x_iload 3) ((xe_iload 3).trans (congrArg (x_iload 3) ((xe_iconst 16).trans (congrArg (x_iconst 16) ((xe_iushr).trans (congrArg (x_iushr) ((xe_ixor).trans (congrArg (x_ixor) ((xe_iconst 73244475).trans (congrArg (x_iconst 73244475) ((xe_fmul).trans (congrArg (x_fmul) ((xe_istore 3).trans (congrArg (x_istore 3) ((xe_iload 3).trans (congrArg (x_iload 3) ((xe_iload 3).trans (congrArg (x_iload 3) ((xe_iconst 16).trans (congrArg (x_iconst 16) ((xe_iushr).trans (congrArg (x_iushr) ((xe_ixor).trans (congrArg (x_ixor) ((xe_istore 3).trans (congrArg (x_istore 3) ((xe_iload 3).trans (congrArg (x_iload 3) ((xe_iconst 2147483647).trans (congrArg (x_iconst 2147483647) ((xe_iand).trans (congrArg (x_iand) (xe_ireturn)))))))))))))))))))))))))))))))))))))))))))))))))))))))))))))))))))))))))))))))
abbrev po_X7_lot (T : Zt) (c g : Int) : Zt → Option Zv → Prop := fun T' r => T = T' ∧ ∃ x : Int, r = some (vI x) ∧ (-2147483648 ≤ x ∧ x ≤ 2147483647)
set_option maxHeartbeats 4000000 in
theorem ct_X7_lot {T : Zt} {c g : Int} (hct : T 107 0 1 ≠ 0) : Ct_ yX7_lot zX7_lot T [vR 107 0, vI c, vI g] (po_X7_lot T c g) := by
  refine ct_of pn_7 rfl rfl (Nat.le_of_ble_eq_true rfl) (fun hT hav => ?_)
  have hr_c : -2147483648 ≤ c ∧ c ≤ 2147483647 := hav (vI c) (List.mem_cons_of_mem _ List.mem_cons_self)
  have hr_g : -2147483648 ≤ g ∧ g ≤ 2147483647 := hav (vI g) (List.mem_cons_of_mem _ (List.mem_cons_of_mem _ List.mem_cons_self))
  have hz : zX7_lot.2.2.2.1 = some .boolean → ∀ (T' : Zt) (x : Int), po_X7_lot T c g T' (some (vI x)) → 0 ≤ x ∧ x ≤ 1 := fun h => by cases h
  show J_ zX7_lot T (po_X7_lot T c g) 0 0 0 [some (vR 107 0), some (vI c), some (vI g), none] [] T
  refine j_blx (F := fX7) tb_X7 (nn_ _) bk_X7_lot_0 bs_X7_lot_0 hz (fun K hK => ?_)
  refine And.intro (fun c1 => ?_) (fun c1 => ?_)
  · exact absurd c1 (by omega)
  · refine ix_i (by omega) ?_
    intro b2 b2b
    intro w3 w3b
    intro w4 w4b
    intro w5 w5b
    intro w6 w6b
    intro w7 w7b
    intro w8 w8b
    intro w9 w9b
    intro w10 w10b
    intro w11 w11b
    intro w12 w12b
    intro w13 w13b
    intro w14 w14b
    intro w15 w15b
    refine (show po_X7_lot T c g T (some (vI (an_ (xo_ (wr_ ((xo_ (wr_ ((xo_ (wr_ ((wr_ ((wr_ ((wr_ ((T 401 (T 107 0 1 - 1) 15) * 1000003)) + g)) * 31)) + c)) (us_ (wr_ ((wr_ ((wr_ ((wr_ ((T 401 (T 107 0 1 - 1) 15) * 1000003)) + g)) * 31)) + c)) 16)) * 73244475)) (us_ (wr_ ((xo_ (wr_ ((wr_ ((wr_ ((wr_ ((T 401 (T 107 0 1 - 1) 15) * 1000003)) + g)) * 31)) + c)) (us_ (wr_ ((wr_ ((wr_ ((wr_ ((T 401 (T 107 0 1 - 1) 15) * 1000003)) + g)) * 31)) + c)) 16)) * 73244475)) 16)) * 73244475)) (us_ (wr_ ((xo_ (wr_ ((xo_ (wr_ ((wr_ ((wr_ ((wr_ ((T 401 (T 107 0 1 - 1) 15) * 1000003)) + g)) * 31)) + c)) (us_ (wr_ ((wr_ ((wr_ ((wr_ ((T 401 (T 107 0 1 - 1) 15) * 1000003)) + g)) * 31)) + c)) 16)) * 73244475)) (us_ (wr_ ((xo_ (wr_ ((wr_ ((wr_ ((wr_ ((T 401 (T 107 0 1 - 1) 15) * 1000003)) + g)) * 31)) + c)) (us_ (wr_ ((wr_ ((wr_ ((wr_ ((T 401 (T 107 0 1 - 1) 15) * 1000003)) + g)) * 31)) + c)) 16)) * 73244475)) 16)) * 73244475)) 16)) 2147483647))) from ?_)
    exact ⟨rfl, _, rfl, by omega⟩
abbrev cX7_headWorth : ByteArray := prog_9_method_11_code
def yX7_headWorth : MethodName := ⟨RX7, "headWorth", "(II)J"⟩
def zX7_headWorth : Zm := (RX7, cX7_headWorth, 10, (some .long), { frames := 0, cells := 0, slots := 0, locals := 0 })
theorem bk_X7_headWorth_11 : ck_ fX7 (some .long) cX7_headWorth 11 [.iload 9, .aload 0, .tableswitch 0 7 1 #[], .tableswitch 0 0 5 #[], .if_icmp .ge 98, .iload 2, .aload 0, .tableswitch 0 7 1 #[], .tableswitch 0 0 3 #[], .iload 9, .iaload, .ishr, .iconst 1, .iand, .ifCond .eq 92, .lload 3, .aload 0, .tableswitch 0 7 5 #[], .iload 1, .iconst 12, .imul, .iload 9, .iadd, .iaload, .i2l, .dadd, .lstore 3, .lload 5, .aload 0, .tableswitch 0 7 6 #[], .iload 1, .iconst 12, .imul, .iload 9, .iadd, .iaload, .i2l, .dadd, .lstore 5, .lload 7, .aload 0, .tableswitch 0 7 6 #[], .iload 9, .iconst 12, .imul, .iload 1, .iadd, .iaload, .i2l, .dadd, .lstore 7, .iinc 9 1, .goto 11] 98 = true := qck_r (nn_ _) (by decide +kernel)
theorem bs_X7_headWorth_11 {P : Zt → Option Zv → Prop} (K : Int → Zl → List Zv → Zt → Prop) : sx_ K P [.iload 9, .aload 0, .tableswitch 0 7 1 #[], .tableswitch 0 0 5 #[], .if_icmp .ge 98, .iload 2, .aload 0, .tableswitch 0 7 1 #[], .tableswitch 0 0 3 #[], .iload 9, .iaload, .ishr, .iconst 1, .iand, .ifCond .eq 92, .lload 3, .aload 0, .tableswitch 0 7 5 #[], .iload 1, .iconst 12, .imul, .iload 9, .iadd, .iaload, .i2l, .dadd, .lstore 3, .lload 5, .aload 0, .tableswitch 0 7 6 #[], .iload 1, .iconst 12, .imul, .iload 9, .iadd, .iaload, .i2l, .dadd, .lstore 5, .lload 7, .aload 0, .tableswitch 0 7 6 #[], .iload 9, .iconst 12, .imul, .iload 1, .iadd, .iaload, .i2l, .dadd, .lstore 7, .iinc 9 1, .goto 11] 98 = x_iload 9 (x_aload 0 (x_g5 107 100 1 (x_g0 100 5 0 12 (x_if_icmp .ge 98 K (x_iload 2 (x_aload 0 (x_g5 107 100 1 (x_g2 100 403 (x_iload 9 (x_iaload (x_ishr (x_iconst 1 (x_iand (x_ifCond .eq 92 K (x_lload 3 (x_aload 0 (x_g1 107 545 (x_iload 1 (x_iconst 12 (x_imul (x_iload 9 (x_iadd (x_iaload (x_i2l (x_dadd (x_lstore 3 (x_lload 5 (x_aload 0 (x_g1 107 546 (x_iload 1 (x_iconst 12 (x_imul (x_iload 9 (x_iadd (x_iaload (x_i2l (x_dadd (x_lstore 5 (x_lload 7 (x_aload 0 (x_g1 107 546 (x_iload 9 (x_iconst 12 (x_imul (x_iload 1 (x_iadd (x_iaload (x_i2l (x_dadd (x_lstore 7 (x_iinc 9 1 (x_goto 11 K)))))))))))))))))))))))))))))))))))))))))))))))))))) := ((xe_iload 9).trans (congrArg (x_iload 9) ((xe_aload 0).trans (congrArg (x_aload 0) ((xe_g5 (kk := 107) rfl tl_7_1).trans (congrArg (x_g5 107 100 1) ((xe_g0 (kk := 100) rfl tl_0_5).trans (congrArg (x_g0 100 5 0 12) ((xe_if_icmp .ge 98).trans (congrArg (x_if_icmp .ge 98 K) ((xe_iload 2).trans (congrArg (x_iload 2) ((xe_aload 0).trans (congrArg (x_aload 0) ((xe_g5 (kk := 107) rfl tl_7_1).trans (congrArg (x_g5 107 100 1) ((xe_g2 (kk := 100) rfl tl_0_3).trans (congrArg (x_g2 100 403) ((xe_iload 9).trans (congrArg (x_iload 9) ((xe_iaload).trans (congrArg (x_iaload) ((xe_ishr).trans (congrArg (x_ishr) ((xe_iconst 1).trans (congrArg (x_iconst 1) ((xe_iand).trans (congrArg (x_iand) ((xe_ifCond .eq 92).trans (congrArg (x_ifCond .eq 92 K) ((xe_lload 3).trans (congrArg (x_lload 3) ((xe_aload 0).trans (congrArg (x_aload 0) ((xe_g1 (kk := 107) rfl tl_7_5).trans (congrArg (x_g1 107 545) ((xe_iload 1).trans (congrArg (x_iload 1) ((xe_iconst 12).trans (congrArg (x_iconst 12) ((xe_imul).trans (congrArg (x_imul) ((xe_iload 9).trans (congrArg (x_iload 9) ((xe_iadd).trans (congrArg (x_iadd) ((xe_iaload).trans (congrArg (x_iaload) ((xe_i2l).trans (congrArg (x_i2l) ((xe_dadd).trans (congrArg (x_dadd) ((xe_lstore 3).trans (congrArg (x_lstore 3) ((xe_lload 5).trans (congrArg (x_lload 5) ((xe_aload 0).trans (congrArg (x_aload 0) ((xe_g1 (kk := 107) rfl tl_7_6).trans (congrArg (x_g1 107 546) ((xe_iload 1).trans (congrArg (x_iload 1) ((xe_iconst 12).trans (congrArg (x_iconst 12) ((xe_imul).trans (congrArg (x_imul) ((xe_iload 9).trans (congrArg (x_iload 9) ((xe_iadd).trans (congrArg (x_iadd) ((xe_iaload).trans (congrArg (x_iaload) ((xe_i2l).trans (congrArg (x_i2l) ((xe_dadd).trans (congrArg (x_dadd) ((xe_lstore 5).trans (congrArg (x_lstore 5) ((xe_lload 7).trans (congrArg (x_lload 7) ((xe_aload 0).trans (congrArg (x_aload 0) ((xe_g1 (kk := 107) rfl tl_7_6).trans (congrArg (x_g1 107 546) ((xe_iload 9).trans (congrArg (x_iload 9) ((xe_iconst 12).trans (congrArg (x_iconst 12) ((xe_imul).trans (congrArg (x_imul) ((xe_iload 1).trans (congrArg (x_iload 1) ((xe_iadd).trans (congrArg (x_iadd) ((xe_iaload).trans (congrArg (x_iaload) ((xe_i2l).trans (congrArg (x_i2l) ((xe_dadd).trans (congrArg (x_dadd) ((xe_lstore 7).trans (congrArg (x_lstore 7) ((xe_iinc 9 1).trans (congrArg (x_iinc 9 1) (xe_goto 11)))))))))))))))))))))))))))))))))))))))))))))))))))))))))))))))))))))))))))))))))))))))))))))))))))))))))
theorem bk_X7_headWorth_98 : ck_ fX7 (some .long) cX7_headWorth 98 [.lload 3, .sipush 1000000, .dmul, .lload 5, .dadd, .lload 7, .dsub, .sipush 1000000, .dmul, .lload 5, .dadd, .lreturn] 117 = true := qck_r (nn_ _) (by decide +kernel)
theorem bs_X7_headWorth_98 {P : Zt → Option Zv → Prop} (K : Int → Zl → List Zv → Zt → Prop) : sx_ K P [.lload 3, .sipush 1000000, .dmul, .lload 5, .dadd, .lload 7, .dsub, .sipush 1000000, .dmul, .lload 5, .dadd, .lreturn] 117 = x_lload 3 (x_sipush 1000000 (x_dmul (x_lload 5 (x_dadd (x_lload 7 (x_dsub (x_sipush 1000000 (x_dmul (x_lload 5 (x_dadd (x_lreturn P))))))))))) := ((xe_lload 3).trans (congrArg (x_lload 3) ((xe_sipush 1000000).trans (congrArg (x_sipush 1000000) ((xe_dmul).trans (congrArg (x_dmul) ((xe_lload 5).trans (congrArg (x_lload 5) ((xe_dadd).trans (congrArg (x_dadd) ((xe_lload 7).trans (congrArg (x_lload 7) ((xe_dsub).trans (congrArg (x_dsub) ((xe_sipush 1000000).trans (congrArg (x_sipush 1000000) ((xe_dmul).trans (congrArg (x_dmul) ((xe_lload 5).trans (congrArg (x_lload 5) ((xe_dadd).trans (congrArg (x_dadd) (xe_lreturn)))))))))))))))))))))))
theorem bk_X7_headWorth_92 : ck_ fX7 (some .long) cX7_headWorth 92 [.iinc 9 1, .goto 11] 98 = true := qck_r (nn_ _) (by decide +kernel)
theorem bs_X7_headWorth_92 {P : Zt → Option Zv → Prop} (K : Int → Zl → List Zv → Zt → Prop) : sx_ K P [.iinc 9 1, .goto 11] 98 = x_iinc 9 1 (x_goto 11 K) := ((xe_iinc 9 1).trans (congrArg (x_iinc 9 1) (xe_goto 11)))
theorem bk_X7_headWorth_0 : ck_ fX7 (some .long) cX7_headWorth 0 [.sipush 0, .lstore 3, .sipush 0, .lstore 5, .sipush 0, .lstore 7, .iconst 0, .istore 9] 11 = true := qck_r (nn_ _) (by decide +kernel)
theorem bs_X7_headWorth_0 {P : Zt → Option Zv → Prop} (K : Int → Zl → List Zv → Zt → Prop) : sx_ K P [.sipush 0, .lstore 3, .sipush 0, .lstore 5, .sipush 0, .lstore 7, .iconst 0, .istore 9] 11 = x_sipush 0 (x_lstore 3 (x_sipush 0 (x_lstore 5 (x_sipush 0 (x_lstore 7 (x_iconst 0 (x_istore 9 (K 11)))))))) := ((xe_sipush 0).trans (congrArg (x_sipush 0) ((xe_lstore 3).trans (congrArg (x_lstore 3) ((xe_sipush 0).trans (congrArg (x_sipush 0) ((xe_lstore 5).trans (congrArg (x_lstore 5) ((xe_sipush 0).trans (congrArg (x_sipush 0) ((xe_lstore 7).trans (congrArg (x_lstore 7) ((xe_iconst 0).trans (congrArg (x_iconst 0) ((xe_istore 9).trans (congrArg (x_istore 9) xe_nil))))))))))))))))
abbrev po_X7_headWorth (T : Zt) (s g : Int) : Zt → Option Zv → Prop := fun T' r => T = T' ∧ ∃ x : Int, r = some (vL x) ∧ -9223372036854775808 ≤ x ∧ x ≤ 9223372036854775807
set_option maxHeartbeats 4000000 in
theorem ct_X7_headWorth {T : Zt} {s g : Int} (hct : T 107 0 1 ≠ 0) (hs : 0 ≤ s ∧ s < 12) : Ct_ yX7_headWorth zX7_headWorth T [vR 107 0, vI s, vI g] (po_X7_headWorth T s g) := by
  refine ct_of pn_7 rfl rfl (Nat.le_of_ble_eq_true rfl) (fun hT hav => ?_)
  have hr_s : -2147483648 ≤ s ∧ s ≤ 2147483647 := hav (vI s) (List.mem_cons_of_mem _ List.mem_cons_self)
  have hr_g : -2147483648 ≤ g ∧ g ≤ 2147483647 := hav (vI g) (List.mem_cons_of_mem _ (List.mem_cons_of_mem _ List.mem_cons_self))
  have hz : zX7_headWorth.2.2.2.1 = some .boolean → ∀ (T' : Zt) (x : Int), po_X7_headWorth T s g T' (some (vI x)) → 0 ≤ x ∧ x ≤ 1 := fun h => by cases h
  show J_ zX7_headWorth T (po_X7_headWorth T s g) 0 0 0 [some (vR 107 0), some (vI s), some (vI g), none, none, none, none, none, none, none] [] T
  have c_11 : ∀ (nn : Nat) (a : Int) (b : Int) (c : Int) (i : Int), ((12 - i).toNat) ≤ nn → (0 ≤ i) → J_ zX7_headWorth T (po_X7_headWorth T s g) 0 0 11 [some (vR 107 0), some (vI s), some (vI g), some (vL a), none, some (vL b), none, some (vL c), none, some (vI i)] [] T := by
    intro nn
    induction nn using Nat.strongRecOn with
    | _ nn ih_11 =>
      intro a b c i hm_11 i1
      replace hm_11 := fun (_ : Unit) => hm_11
      refine j_blx (F := fX7) tb_X7 (nn_ _) bk_X7_headWorth_11 bs_X7_headWorth_11 hz (fun K hK => ?_)
      refine And.intro (fun c1 => ?_) (fun c1 => ?_)
      · exact absurd c1 (by omega)
      · intro b2 b2b
        refine And.intro (fun c3 => ?_) (fun c3 => ?_)
        · refine hK 98 _ [] T ?_
          refine j_blx (F := fX7) tb_X7 (nn_ _) bk_X7_headWorth_98 bs_X7_headWorth_98 hz (fun K hK => ?_)
          intro w4 w4b
          intro w5 w5b
          intro w6 w6b
          intro w7 w7b
          intro w8 w8b
          refine (show po_X7_headWorth T s g T (some (vL (wq_ ((wq_ ((wq_ ((wq_ ((wq_ (a * 1000000)) + b)) - c)) * 1000000)) + b)))) from ?_)
          exact ⟨rfl, _, rfl, by omega⟩
        · refine And.intro (fun c9 => ?_) (fun c9 => ?_)
          · exact absurd c9 (by omega)
          · refine ix_i (by omega) ?_
            intro b10 b10b
            intro w11 w11b
            intro w12 w12b
            refine And.intro (fun c13 => ?_) (fun c13 => ?_)
            · refine hK 92 _ [] T ?_
              refine j_blx (F := fX7) tb_X7 (nn_ _) bk_X7_headWorth_92 bs_X7_headWorth_92 hz (fun K hK => ?_)
              refine rg_i (by omega) ?_
              refine hK 11 [some (vR 107 0), some (vI s), some (vI g), some (vL a), none, some (vL b), none, some (vL c), none, some (vI (i + 1))] [] T ?_
              refine ih_11 _ ?_ a b c (i + 1) (Nat.le_refl _) ?_
              · have hm_11 := hm_11 (); omega
              · omega
            · refine rg_i (by omega) ?_
              refine rg_i (by omega) ?_
              refine ix_i (by omega) ?_
              intro b14 b14b
              intro w15 w15b
              refine rg_i (by omega) ?_
              refine rg_i (by omega) ?_
              refine ix_i (by omega) ?_
              intro b16 b16b
              intro w17 w17b
              refine rg_i (by omega) ?_
              refine rg_i (by omega) ?_
              refine ix_i (by omega) ?_
              intro b18 b18b
              intro w19 w19b
              refine rg_i (by omega) ?_
              refine hK 11 [some (vR 107 0), some (vI s), some (vI g), some (vL (wq_ (a + (T 545 0 ((s * 12) + i))))), none, some (vL (wq_ (b + (T 546 0 ((s * 12) + i))))), none, some (vL (wq_ (c + (T 546 0 ((i * 12) + s))))), none, some (vI (i + 1))] [] T ?_
              refine ih_11 _ ?_ (wq_ (a + (T 545 0 ((s * 12) + i)))) (wq_ (b + (T 546 0 ((s * 12) + i)))) (wq_ (c + (T 546 0 ((i * 12) + s)))) (i + 1) (Nat.le_refl _) ?_
              · have hm_11 := hm_11 (); omega
              · omega
  refine j_blx (F := fX7) tb_X7 (nn_ _) bk_X7_headWorth_0 bs_X7_headWorth_0 hz (fun K hK => ?_)
  refine hK 11 [some (vR 107 0), some (vI s), some (vI g), some (vL 0), none, some (vL 0), none, some (vL 0), none, some (vI 0)] [] T ?_
  refine c_11 _ 0 0 0 0 (Nat.le_refl _) ?_
  · omega
abbrev cX7_worthOf : ByteArray := prog_9_method_10_code
def yX7_worthOf : MethodName := ⟨RX7, "worthOf", "(III)J"⟩
def zX7_worthOf : Zm := (RX7, cX7_worthOf, 5, (some .long), { frames := 1, cells := 0, slots := 0, locals := 29 })
theorem bk_X7_worthOf_0 : ck_ fX7 (some .long) cX7_worthOf 0 [.iload 1, .iconst 8, .imul, .istore 4, .iload 2, .ifCond .ne 22, .aload 0, .tableswitch 0 7 2 #[], .iload 4, .iconst 6, .iadd, .iaload, .i2l, .lreturn] 22 = true := qck_r (nn_ _) (by decide +kernel)
theorem bs_X7_worthOf_0 {P : Zt → Option Zv → Prop} (K : Int → Zl → List Zv → Zt → Prop) : sx_ K P [.iload 1, .iconst 8, .imul, .istore 4, .iload 2, .ifCond .ne 22, .aload 0, .tableswitch 0 7 2 #[], .iload 4, .iconst 6, .iadd, .iaload, .i2l, .lreturn] 22 = x_iload 1 (x_iconst 8 (x_imul (x_istore 4 (x_iload 2 (x_ifCond .ne 22 K (x_aload 0 (x_g1 107 542 (x_iload 4 (x_iconst 6 (x_iadd (x_iaload (x_i2l (x_lreturn P))))))))))))) := ((xe_iload 1).trans (congrArg (x_iload 1) ((xe_iconst 8).trans (congrArg (x_iconst 8) ((xe_imul).trans (congrArg (x_imul) ((xe_istore 4).trans (congrArg (x_istore 4) ((xe_iload 2).trans (congrArg (x_iload 2) ((xe_ifCond .ne 22).trans (congrArg (x_ifCond .ne 22 K) ((xe_aload 0).trans (congrArg (x_aload 0) ((xe_g1 (kk := 107) rfl tl_7_2).trans (congrArg (x_g1 107 542) ((xe_iload 4).trans (congrArg (x_iload 4) ((xe_iconst 6).trans (congrArg (x_iconst 6) ((xe_iadd).trans (congrArg (x_iadd) ((xe_iaload).trans (congrArg (x_iaload) ((xe_i2l).trans (congrArg (x_i2l) (xe_lreturn)))))))))))))))))))))))))))
theorem bk_X7_worthOf_22 : ck_ fX7 (some .long) cX7_worthOf 22 [.aload 0, .tableswitch 0 7 1 #[], .tableswitch 0 0 2 #[], .iload 2, .iconst 1, .isub, .iaload] 33 = true := qck_r (nn_ _) (by decide +kernel)
theorem bs_X7_worthOf_22 {P : Zt → Option Zv → Prop} (K : Int → Zl → List Zv → Zt → Prop) : sx_ K P [.aload 0, .tableswitch 0 7 1 #[], .tableswitch 0 0 2 #[], .iload 2, .iconst 1, .isub, .iaload] 33 = x_aload 0 (x_g5 107 100 1 (x_g2 100 402 (x_iload 2 (x_iconst 1 (x_isub (x_iaload (K 33))))))) := ((xe_aload 0).trans (congrArg (x_aload 0) ((xe_g5 (kk := 107) rfl tl_7_1).trans (congrArg (x_g5 107 100 1) ((xe_g2 (kk := 100) rfl tl_0_2).trans (congrArg (x_g2 100 402) ((xe_iload 2).trans (congrArg (x_iload 2) ((xe_iconst 1).trans (congrArg (x_iconst 1) ((xe_isub).trans (congrArg (x_isub) ((xe_iaload).trans (congrArg (x_iaload) xe_nil))))))))))))))
theorem ds_X7_worthOf_33 : decode cX7_worthOf 33 = .ok (.tableswitch 106 0 5 #[39, 60, 71, 82, 90, 97], 39) := by decide +kernel
theorem bk_X7_worthOf_72 : ck_ fX7 (some .long) cX7_worthOf 72 [.aload 0, .tableswitch 0 7 2 #[], .iload 4, .iconst 4, .iadd, .iaload, .aload 0, .tableswitch 0 7 2 #[], .iload 4, .iconst 5, .iadd, .iaload, .fsub, .i2l, .lreturn] 93 = true := qck_r (nn_ _) (by decide +kernel)
theorem bs_X7_worthOf_72 {P : Zt → Option Zv → Prop} (K : Int → Zl → List Zv → Zt → Prop) : sx_ K P [.aload 0, .tableswitch 0 7 2 #[], .iload 4, .iconst 4, .iadd, .iaload, .aload 0, .tableswitch 0 7 2 #[], .iload 4, .iconst 5, .iadd, .iaload, .fsub, .i2l, .lreturn] 93 = x_aload 0 (x_g1 107 542 (x_iload 4 (x_iconst 4 (x_iadd (x_iaload (x_aload 0 (x_g1 107 542 (x_iload 4 (x_iconst 5 (x_iadd (x_iaload (x_fsub (x_i2l (x_lreturn P)))))))))))))) := ((xe_aload 0).trans (congrArg (x_aload 0) ((xe_g1 (kk := 107) rfl tl_7_2).trans (congrArg (x_g1 107 542) ((xe_iload 4).trans (congrArg (x_iload 4) ((xe_iconst 4).trans (congrArg (x_iconst 4) ((xe_iadd).trans (congrArg (x_iadd) ((xe_iaload).trans (congrArg (x_iaload) ((xe_aload 0).trans (congrArg (x_aload 0) ((xe_g1 (kk := 107) rfl tl_7_2).trans (congrArg (x_g1 107 542) ((xe_iload 4).trans (congrArg (x_iload 4) ((xe_iconst 5).trans (congrArg (x_iconst 5) ((xe_iadd).trans (congrArg (x_iadd) ((xe_iaload).trans (congrArg (x_iaload) ((xe_fsub).trans (congrArg (x_fsub) ((xe_i2l).trans (congrArg (x_i2l) (xe_lreturn)))))))))))))))))))))))))))))
theorem bk_X7_worthOf_93 : ck_ fX7 (some .long) cX7_worthOf 93 [.aload 0, .tableswitch 0 7 2 #[], .iload 4, .iconst 4, .iadd, .iaload, .i2l, .lreturn] 104 = true := qck_r (nn_ _) (by decide +kernel)
theorem bs_X7_worthOf_93 {P : Zt → Option Zv → Prop} (K : Int → Zl → List Zv → Zt → Prop) : sx_ K P [.aload 0, .tableswitch 0 7 2 #[], .iload 4, .iconst 4, .iadd, .iaload, .i2l, .lreturn] 104 = x_aload 0 (x_g1 107 542 (x_iload 4 (x_iconst 4 (x_iadd (x_iaload (x_i2l (x_lreturn P))))))) := ((xe_aload 0).trans (congrArg (x_aload 0) ((xe_g1 (kk := 107) rfl tl_7_2).trans (congrArg (x_g1 107 542) ((xe_iload 4).trans (congrArg (x_iload 4) ((xe_iconst 4).trans (congrArg (x_iconst 4) ((xe_iadd).trans (congrArg (x_iadd) ((xe_iaload).trans (congrArg (x_iaload) ((xe_i2l).trans (congrArg (x_i2l) (xe_lreturn)))))))))))))))
theorem bk_X7_worthOf_104 : ck_ fX7 (some .long) cX7_worthOf 104 [.aload 0, .tableswitch 0 7 2 #[], .iload 4, .iconst 1, .iadd, .iaload, .i2l, .lreturn] 115 = true := qck_r (nn_ _) (by decide +kernel)
theorem bs_X7_worthOf_104 {P : Zt → Option Zv → Prop} (K : Int → Zl → List Zv → Zt → Prop) : sx_ K P [.aload 0, .tableswitch 0 7 2 #[], .iload 4, .iconst 1, .iadd, .iaload, .i2l, .lreturn] 115 = x_aload 0 (x_g1 107 542 (x_iload 4 (x_iconst 1 (x_iadd (x_iaload (x_i2l (x_lreturn P))))))) := ((xe_aload 0).trans (congrArg (x_aload 0) ((xe_g1 (kk := 107) rfl tl_7_2).trans (congrArg (x_g1 107 542) ((xe_iload 4).trans (congrArg (x_iload 4) ((xe_iconst 1).trans (congrArg (x_iconst 1) ((xe_iadd).trans (congrArg (x_iadd) ((xe_iaload).trans (congrArg (x_iaload) ((xe_i2l).trans (congrArg (x_i2l) (xe_lreturn)))))))))))))))
theorem bk_X7_worthOf_115 : ck_ fX7 (some .long) cX7_worthOf 115 [.aload 0, .tableswitch 0 7 3 #[], .iload 1, .iaload, .i2l, .lreturn] 123 = true := qck_r (nn_ _) (by decide +kernel)
theorem bs_X7_worthOf_115 {P : Zt → Option Zv → Prop} (K : Int → Zl → List Zv → Zt → Prop) : sx_ K P [.aload 0, .tableswitch 0 7 3 #[], .iload 1, .iaload, .i2l, .lreturn] 123 = x_aload 0 (x_g1 107 543 (x_iload 1 (x_iaload (x_i2l (x_lreturn P))))) := ((xe_aload 0).trans (congrArg (x_aload 0) ((xe_g1 (kk := 107) rfl tl_7_3).trans (congrArg (x_g1 107 543) ((xe_iload 1).trans (congrArg (x_iload 1) ((xe_iaload).trans (congrArg (x_iaload) ((xe_i2l).trans (congrArg (x_i2l) (xe_lreturn)))))))))))
theorem bk_X7_worthOf_123 : ck_ fX7 (some .long) cX7_worthOf 123 [.aload 0, .iload 1, .iload 3] 126 = true := qck_r (nn_ _) (by decide +kernel)
theorem bs_X7_worthOf_123 {P : Zt → Option Zv → Prop} (K : Int → Zl → List Zv → Zt → Prop) : sx_ K P [.aload 0, .iload 1, .iload 3] 126 = x_aload 0 (x_iload 1 (x_iload 3 (K 126))) := ((xe_aload 0).trans (congrArg (x_aload 0) ((xe_iload 1).trans (congrArg (x_iload 1) ((xe_iload 3).trans (congrArg (x_iload 3) xe_nil))))))
set_option maxRecDepth 100000 in
theorem cl_X7_164 : cv_ RX7 164 yX7_headWorth zX7_headWorth 7 2 := ⟨gi_V (lwq_6 (List.mem_of_getElem? (i := 4) rfl) rfl : Cond.methodLink RX7 164 yX7_headWorth ∈ lw_g) (lwq_6 (List.mem_of_getElem? (i := 6) rfl) rfl : Cond.instanceMethod yX7_headWorth ∈ lw_g) (lw_sel 129 rfl : Cond.selects yX7_headWorth.cls yX7_headWorth yX7_headWorth ∈ lw_g) (lwq_1 (List.mem_of_getElem? (i := 5) rfl) rfl : Cond.initialized yX7_headWorth.cls ∈ lw_g) (lwq_6 (List.mem_of_getElem? (i := 7) rfl) rfl : Cond.code yX7_headWorth cX7_headWorth 10 (some .long) ∈ lw_g), ⟨nmh_7.1, nmh_7.2, pdq_19⟩, ⟨_, _, rfl⟩⟩
theorem bk_X7_worthOf_129 : ck_ fX7 (some .long) cX7_worthOf 129 [.lreturn] 130 = true := qck_r (nn_ _) (by decide +kernel)
theorem bs_X7_worthOf_129 {P : Zt → Option Zv → Prop} (K : Int → Zl → List Zv → Zt → Prop) : sx_ K P [.lreturn] 130 = x_lreturn P := (xe_lreturn)
theorem bk_X7_worthOf_130 : ck_ fX7 (some .long) cX7_worthOf 130 [.aload 0, .tableswitch 0 7 4 #[], .iload 1, .iaload, .fneg, .i2l, .lreturn] 139 = true := qck_r (nn_ _) (by decide +kernel)
theorem bs_X7_worthOf_130 {P : Zt → Option Zv → Prop} (K : Int → Zl → List Zv → Zt → Prop) : sx_ K P [.aload 0, .tableswitch 0 7 4 #[], .iload 1, .iaload, .fneg, .i2l, .lreturn] 139 = x_aload 0 (x_g1 107 544 (x_iload 1 (x_iaload (x_fneg (x_i2l (x_lreturn P)))))) := ((xe_aload 0).trans (congrArg (x_aload 0) ((xe_g1 (kk := 107) rfl tl_7_4).trans (congrArg (x_g1 107 544) ((xe_iload 1).trans (congrArg (x_iload 1) ((xe_iaload).trans (congrArg (x_iaload) ((xe_fneg).trans (congrArg (x_fneg) ((xe_i2l).trans (congrArg (x_i2l) (xe_lreturn)))))))))))))
theorem bk_X7_worthOf_139 : ck_ fX7 (some .long) cX7_worthOf 139 [.aload 0, .aload 0, .tableswitch 0 7 1 #[], .tableswitch 0 0 3 #[], .iload 1, .iaload, .iload 3] 150 = true := qck_r (nn_ _) (by decide +kernel)
theorem bs_X7_worthOf_139 {P : Zt → Option Zv → Prop} (K : Int → Zl → List Zv → Zt → Prop) : sx_ K P [.aload 0, .aload 0, .tableswitch 0 7 1 #[], .tableswitch 0 0 3 #[], .iload 1, .iaload, .iload 3] 150 = x_aload 0 (x_aload 0 (x_g5 107 100 1 (x_g2 100 403 (x_iload 1 (x_iaload (x_iload 3 (K 150))))))) := ((xe_aload 0).trans (congrArg (x_aload 0) ((xe_aload 0).trans (congrArg (x_aload 0) ((xe_g5 (kk := 107) rfl tl_7_1).trans (congrArg (x_g5 107 100 1) ((xe_g2 (kk := 100) rfl tl_0_3).trans (congrArg (x_g2 100 403) ((xe_iload 1).trans (congrArg (x_iload 1) ((xe_iaload).trans (congrArg (x_iaload) ((xe_iload 3).trans (congrArg (x_iload 3) xe_nil))))))))))))))
set_option maxRecDepth 100000 in
theorem cl_X7_168 : cv_ RX7 168 yX7_lot zX7_lot 7 2 := ⟨gi_V (lwq_6 (dqa_m (List.mem_of_getElem? (i := 1) rfl)) rfl : Cond.methodLink RX7 168 yX7_lot ∈ lw_g) (lwq_6 (dqa_m (List.mem_of_getElem? (i := 3) rfl)) rfl : Cond.instanceMethod yX7_lot ∈ lw_g) (lw_sel 130 rfl : Cond.selects yX7_lot.cls yX7_lot yX7_lot ∈ lw_g) (lwq_1 (List.mem_of_getElem? (i := 5) rfl) rfl : Cond.initialized yX7_lot.cls ∈ lw_g) (lwq_6 (dqa_m (List.mem_of_getElem? (i := 4) rfl)) rfl : Cond.code yX7_lot cX7_lot 4 (some .int) ∈ lw_g), ⟨nmh_7.1, nmh_7.2, pdq_4⟩, ⟨_, _, rfl⟩⟩
theorem bk_X7_worthOf_153 : ck_ fX7 (some .long) cX7_worthOf 153 [.i2l, .lreturn] 155 = true := qck_r (nn_ _) (by decide +kernel)
theorem bs_X7_worthOf_153 {P : Zt → Option Zv → Prop} (K : Int → Zl → List Zv → Zt → Prop) : sx_ K P [.i2l, .lreturn] 155 = x_i2l (x_lreturn P) := ((xe_i2l).trans (congrArg (x_i2l) (xe_lreturn)))
abbrev po_X7_worthOf (T : Zt) (s k g : Int) : Zt → Option Zv → Prop := fun T' r => T = T' ∧ ∃ x : Int, r = some (vL x) ∧ -9223372036854775808 ≤ x ∧ x ≤ 9223372036854775807
set_option maxHeartbeats 4000000 in
theorem ct_X7_worthOf {T : Zt} {s k g : Int} (hct : T 107 0 1 ≠ 0) (hs : 0 ≤ s ∧ s < 12) (hk : 0 ≤ k ∧ k ≤ 7) : Ct_ yX7_worthOf zX7_worthOf T [vR 107 0, vI s, vI k, vI g] (po_X7_worthOf T s k g) := by
  refine ct_of pn_7 rfl rfl (Nat.le_of_ble_eq_true rfl) (fun hT hav => ?_)
  have hr_s : -2147483648 ≤ s ∧ s ≤ 2147483647 := hav (vI s) (List.mem_cons_of_mem _ List.mem_cons_self)
  have hr_k : -2147483648 ≤ k ∧ k ≤ 2147483647 := hav (vI k) (List.mem_cons_of_mem _ (List.mem_cons_of_mem _ List.mem_cons_self))
  have hr_g : -2147483648 ≤ g ∧ g ≤ 2147483647 := hav (vI g) (List.mem_cons_of_mem _ (List.mem_cons_of_mem _ (List.mem_cons_of_mem _ List.mem_cons_self)))
  have hz : zX7_worthOf.2.2.2.1 = some .boolean → ∀ (T' : Zt) (x : Int), po_X7_worthOf T s k g T' (some (vI x)) → 0 ≤ x ∧ x ≤ 1 := fun h => by cases h
  show J_ zX7_worthOf T (po_X7_worthOf T s k g) 0 0 0 [some (vR 107 0), some (vI s), some (vI k), some (vI g), none] [] T
  refine j_blx (F := fX7) tb_X7 (nn_ _) bk_X7_worthOf_0 bs_X7_worthOf_0 hz (fun K hK => ?_)
  refine rg_i (by omega) ?_
  refine And.intro (fun c1 => ?_) (fun c1 => ?_)
  · refine hK 22 [some (vR 107 0), some (vI s), some (vI k), some (vI g), some (vI (s * 8))] [] T ?_
    refine j_blx (F := fX7) tb_X7 (nn_ _) bk_X7_worthOf_22 bs_X7_worthOf_22 hz (fun K hK => ?_)
    refine And.intro (fun c2 => ?_) (fun c2 => ?_)
    · exact absurd c2 (by omega)
    · refine rg_i (by omega) ?_
      refine ix_i (by omega) ?_
      intro b3 b3b
      refine hK 33 _ [vI (T 402 (T 107 0 1 - 1) (k - 1))] T ?_
      by_cases z4_0 : (T 402 (T 107 0 1 - 1) (k - 1)) = 0
      · refine j_tsI (pc := 33) 0 (off := 39) (tgt := 72) (by decide) ds_X7_worthOf_33 (by omega) (by decide) rfl (by decide) (by decide) ?_
        refine j_blx (F := fX7) tb_X7 (nn_ _) bk_X7_worthOf_72 bs_X7_worthOf_72 hz (fun K hK => ?_)
        refine rg_i (by omega) ?_
        refine ix_i (by omega) ?_
        intro b5 b5b
        refine rg_i (by omega) ?_
        refine ix_i (by omega) ?_
        intro b6 b6b
        intro w7 w7b
        refine (show po_X7_worthOf T s k g T (some (vL (wr_ ((T 542 0 ((s * 8) + 4)) - (T 542 0 ((s * 8) + 5)))))) from ?_)
        exact ⟨rfl, _, rfl, by omega⟩
      by_cases z4_1 : (T 402 (T 107 0 1 - 1) (k - 1)) = 1
      · refine j_tsI (pc := 33) 1 (off := 60) (tgt := 93) (by decide) ds_X7_worthOf_33 (by omega) (by decide) rfl (by decide) (by decide) ?_
        refine j_blx (F := fX7) tb_X7 (nn_ _) bk_X7_worthOf_93 bs_X7_worthOf_93 hz (fun K hK => ?_)
        refine rg_i (by omega) ?_
        refine ix_i (by omega) ?_
        intro b8 b8b
        refine (show po_X7_worthOf T s k g T (some (vL (T 542 0 ((s * 8) + 4)))) from ?_)
        exact ⟨rfl, _, rfl, by omega⟩
      by_cases z4_2 : (T 402 (T 107 0 1 - 1) (k - 1)) = 2
      · refine j_tsI (pc := 33) 2 (off := 71) (tgt := 104) (by decide) ds_X7_worthOf_33 (by omega) (by decide) rfl (by decide) (by decide) ?_
        refine j_blx (F := fX7) tb_X7 (nn_ _) bk_X7_worthOf_104 bs_X7_worthOf_104 hz (fun K hK => ?_)
        refine rg_i (by omega) ?_
        refine ix_i (by omega) ?_
        intro b9 b9b
        refine (show po_X7_worthOf T s k g T (some (vL (T 542 0 ((s * 8) + 1)))) from ?_)
        exact ⟨rfl, _, rfl, by omega⟩
      by_cases z4_3 : (T 402 (T 107 0 1 - 1) (k - 1)) = 3
      · refine j_tsI (pc := 33) 3 (off := 82) (tgt := 115) (by decide) ds_X7_worthOf_33 (by omega) (by decide) rfl (by decide) (by decide) ?_
        refine j_blx (F := fX7) tb_X7 (nn_ _) bk_X7_worthOf_115 bs_X7_worthOf_115 hz (fun K hK => ?_)
        refine ix_i (by omega) ?_
        intro b10 b10b
        refine (show po_X7_worthOf T s k g T (some (vL (T 543 0 s))) from ?_)
        exact ⟨rfl, _, rfl, by omega⟩
      by_cases z4_4 : (T 402 (T 107 0 1 - 1) (k - 1)) = 4
      · refine j_tsI (pc := 33) 4 (off := 90) (tgt := 123) (by decide) ds_X7_worthOf_33 (by omega) (by decide) rfl (by decide) (by decide) ?_
        refine j_blx (F := fX7) tb_X7 (nn_ _) bk_X7_worthOf_123 bs_X7_worthOf_123 hz (fun K hK => ?_)
        refine hK 126 _ [vI g, vI s, vR 107 0] T ?_
        refine j_callV (y := yX7_headWorth) (Yc := zX7_headWorth) (rest := []) [vI s, vI g] (ct_X7_headWorth (T := T) (by omega) (by omega)) cl_X7_164 (qd_c (by decide +kernel)) (nn_ _) rfl (rf_of rfl) (Nat.le_of_ble_eq_true rfl) (Nat.le_of_ble_eq_true rfl) (Nat.le_of_ble_eq_true rfl) rfl ?_
        rintro _ _ ⟨rfl, x11, rfl, hx11⟩
        show J_ zX7_worthOf T (po_X7_worthOf T s k g) 0 0 129 _ [vL x11] T
        refine j_blx (F := fX7) tb_X7 (nn_ _) bk_X7_worthOf_129 bs_X7_worthOf_129 hz (fun K hK => ?_)
        refine (show po_X7_worthOf T s k g T (some (vL x11)) from ?_)
        exact ⟨rfl, _, rfl, by omega⟩
      by_cases z4_5 : (T 402 (T 107 0 1 - 1) (k - 1)) = 5
      · refine j_tsI (pc := 33) 5 (off := 97) (tgt := 130) (by decide) ds_X7_worthOf_33 (by omega) (by decide) rfl (by decide) (by decide) ?_
        refine j_blx (F := fX7) tb_X7 (nn_ _) bk_X7_worthOf_130 bs_X7_worthOf_130 hz (fun K hK => ?_)
        refine ix_i (by omega) ?_
        intro b12 b12b
        intro w13 w13b
        refine (show po_X7_worthOf T s k g T (some (vL (wr_ (-(T 544 0 s))))) from ?_)
        exact ⟨rfl, _, rfl, by omega⟩
      refine j_tsO (pc := 33) (tgt := 139) (by decide) ds_X7_worthOf_33 (by omega) (by decide) (by decide) ?_
      refine j_blx (F := fX7) tb_X7 (nn_ _) bk_X7_worthOf_139 bs_X7_worthOf_139 hz (fun K hK => ?_)
      refine And.intro (fun c14 => ?_) (fun c14 => ?_)
      · exact absurd c14 (by omega)
      · refine ix_i (by omega) ?_
        intro b15 b15b
        refine hK 150 _ [vI g, vI (T 403 (T 107 0 1 - 1) s), vR 107 0] T ?_
        refine j_callV (y := yX7_lot) (Yc := zX7_lot) (rest := []) [vI (T 403 (T 107 0 1 - 1) s), vI g] (ct_X7_lot (T := T) (by omega)) cl_X7_168 (qd_c (by decide +kernel)) (nn_ _) rfl (rf_of rfl) (Nat.le_of_ble_eq_true rfl) (Nat.le_of_ble_eq_true rfl) (Nat.le_of_ble_eq_true rfl) rfl ?_
        rintro _ _ ⟨rfl, x16, rfl, hx16⟩
        show J_ zX7_worthOf T (po_X7_worthOf T s k g) 0 0 153 _ [vI x16] T
        refine j_blx (F := fX7) tb_X7 (nn_ _) bk_X7_worthOf_153 bs_X7_worthOf_153 hz (fun K hK => ?_)
        refine (show po_X7_worthOf T s k g T (some (vL x16)) from ?_)
        exact ⟨rfl, _, rfl, by omega⟩
  · refine rg_i (by omega) ?_
    refine ix_i (by omega) ?_
    intro b17 b17b
    refine (show po_X7_worthOf T s k g T (some (vL (T 542 0 ((s * 8) + 6)))) from ?_)
    exact ⟨rfl, _, rfl, by omega⟩
abbrev cX7_weigh : ByteArray := prog_9_method_9_code
def yX7_weigh : MethodName := ⟨RX7, "weigh", "(III)V"⟩
def zX7_weigh : Zm := (RX7, cX7_weigh, 6, none, { frames := 2, cells := 0, slots := 0, locals := 53 })
theorem bk_X7_weigh_43 : ck_ fX7 none cX7_weigh 43 [.iload 5, .iload 2, .if_icmp .ge 81, .aload 0, .tableswitch 0 7 9 #[], .aload 0, .tableswitch 0 7 7 #[], .iload 5, .iaload, .aload 0, .aload 0, .tableswitch 0 7 7 #[], .iload 5, .iaload, .iload 3, .iload 4] 71 = true := qck_r (nn_ _) (by decide +kernel)
theorem bs_X7_weigh_43 {P : Zt → Option Zv → Prop} (K : Int → Zl → List Zv → Zt → Prop) : sx_ K P [.iload 5, .iload 2, .if_icmp .ge 81, .aload 0, .tableswitch 0 7 9 #[], .aload 0, .tableswitch 0 7 7 #[], .iload 5, .iaload, .aload 0, .aload 0, .tableswitch 0 7 7 #[], .iload 5, .iaload, .iload 3, .iload 4] 71 = x_iload 5 (x_iload 2 (x_if_icmp .ge 81 K (x_aload 0 (x_g1 107 549 (x_aload 0 (x_g1 107 547 (x_iload 5 (x_iaload (x_aload 0 (x_aload 0 (x_g1 107 547 (x_iload 5 (x_iaload (x_iload 3 (x_iload 4 (K 71)))))))))))))))) := ((xe_iload 5).trans (congrArg (x_iload 5) ((xe_iload 2).trans (congrArg (x_iload 2) ((xe_if_icmp .ge 81).trans (congrArg (x_if_icmp .ge 81 K) ((xe_aload 0).trans (congrArg (x_aload 0) ((xe_g1 (kk := 107) rfl tl_7_9).trans (congrArg (x_g1 107 549) ((xe_aload 0).trans (congrArg (x_aload 0) ((xe_g1 (kk := 107) rfl tl_7_7).trans (congrArg (x_g1 107 547) ((xe_iload 5).trans (congrArg (x_iload 5) ((xe_iaload).trans (congrArg (x_iaload) ((xe_aload 0).trans (congrArg (x_aload 0) ((xe_aload 0).trans (congrArg (x_aload 0) ((xe_g1 (kk := 107) rfl tl_7_7).trans (congrArg (x_g1 107 547) ((xe_iload 5).trans (congrArg (x_iload 5) ((xe_iaload).trans (congrArg (x_iaload) ((xe_iload 3).trans (congrArg (x_iload 3) ((xe_iload 4).trans (congrArg (x_iload 4) xe_nil))))))))))))))))))))))))))))))))
theorem bk_X7_weigh_81 : ck_ fX7 none cX7_weigh 81 [.return_] 82 = true := qck_r (nn_ _) (by decide +kernel)
theorem bs_X7_weigh_81 {P : Zt → Option Zv → Prop} (K : Int → Zl → List Zv → Zt → Prop) : sx_ K P [.return_] 82 = x_return_ P := (xe_return_)
set_option maxRecDepth 100000 in
theorem cl_X7_157 : cv_ RX7 157 yX7_worthOf zX7_worthOf 7 3 := ⟨gi_V (lwq_6 (List.mem_of_getElem? (i := 0) rfl) rfl : Cond.methodLink RX7 157 yX7_worthOf ∈ lw_g) (lwq_6 (List.mem_of_getElem? (i := 2) rfl) rfl : Cond.instanceMethod yX7_worthOf ∈ lw_g) (lw_sel 135 rfl : Cond.selects yX7_worthOf.cls yX7_worthOf yX7_worthOf ∈ lw_g) (lwq_1 (List.mem_of_getElem? (i := 5) rfl) rfl : Cond.initialized yX7_worthOf.cls ∈ lw_g) (lwq_6 (List.mem_of_getElem? (i := 3) rfl) rfl : Cond.code yX7_worthOf cX7_worthOf 5 (some .long) ∈ lw_g), ⟨nmh_7.1, nmh_7.2, pdq_20⟩, ⟨_, _, rfl⟩⟩
theorem bk_X7_weigh_74 : ck_ fX7 none cX7_weigh 74 [.lastore, .iinc 5 1, .goto 43] 81 = true := qck_r (nn_ _) (by decide +kernel)
theorem bs_X7_weigh_74 {P : Zt → Option Zv → Prop} (K : Int → Zl → List Zv → Zt → Prop) : sx_ K P [.lastore, .iinc 5 1, .goto 43] 81 = x_lastore (x_iinc 5 1 (x_goto 43 K)) := ((xe_lastore).trans (congrArg (x_lastore) ((xe_iinc 5 1).trans (congrArg (x_iinc 5 1) (xe_goto 43)))))
theorem bk_X7_weigh_6 : ck_ fX7 none cX7_weigh 6 [.iload 5, .iload 2, .if_icmp .ge 40, .iload 4, .iconst 1, .aload 0, .tableswitch 0 7 1 #[], .tableswitch 0 0 3 #[], .aload 0, .tableswitch 0 7 7 #[], .iload 5, .iaload, .iaload, .ishl, .ior, .istore 4, .iinc 5 1, .goto 6] 40 = true := qck_r (nn_ _) (by decide +kernel)
theorem bs_X7_weigh_6 {P : Zt → Option Zv → Prop} (K : Int → Zl → List Zv → Zt → Prop) : sx_ K P [.iload 5, .iload 2, .if_icmp .ge 40, .iload 4, .iconst 1, .aload 0, .tableswitch 0 7 1 #[], .tableswitch 0 0 3 #[], .aload 0, .tableswitch 0 7 7 #[], .iload 5, .iaload, .iaload, .ishl, .ior, .istore 4, .iinc 5 1, .goto 6] 40 = x_iload 5 (x_iload 2 (x_if_icmp .ge 40 K (x_iload 4 (x_iconst 1 (x_aload 0 (x_g5 107 100 1 (x_g2 100 403 (x_aload 0 (x_g1 107 547 (x_iload 5 (x_iaload (x_iaload (x_ishl (x_ior (x_istore 4 (x_iinc 5 1 (x_goto 6 K))))))))))))))))) := ((xe_iload 5).trans (congrArg (x_iload 5) ((xe_iload 2).trans (congrArg (x_iload 2) ((xe_if_icmp .ge 40).trans (congrArg (x_if_icmp .ge 40 K) ((xe_iload 4).trans (congrArg (x_iload 4) ((xe_iconst 1).trans (congrArg (x_iconst 1) ((xe_aload 0).trans (congrArg (x_aload 0) ((xe_g5 (kk := 107) rfl tl_7_1).trans (congrArg (x_g5 107 100 1) ((xe_g2 (kk := 100) rfl tl_0_3).trans (congrArg (x_g2 100 403) ((xe_aload 0).trans (congrArg (x_aload 0) ((xe_g1 (kk := 107) rfl tl_7_7).trans (congrArg (x_g1 107 547) ((xe_iload 5).trans (congrArg (x_iload 5) ((xe_iaload).trans (congrArg (x_iaload) ((xe_iaload).trans (congrArg (x_iaload) ((xe_ishl).trans (congrArg (x_ishl) ((xe_ior).trans (congrArg (x_ior) ((xe_istore 4).trans (congrArg (x_istore 4) ((xe_iinc 5 1).trans (congrArg (x_iinc 5 1) (xe_goto 6)))))))))))))))))))))))))))))))))))
theorem bk_X7_weigh_40 : ck_ fX7 none cX7_weigh 40 [.iload 1, .istore 5] 43 = true := qck_r (nn_ _) (by decide +kernel)
theorem bs_X7_weigh_40 {P : Zt → Option Zv → Prop} (K : Int → Zl → List Zv → Zt → Prop) : sx_ K P [.iload 1, .istore 5] 43 = x_iload 1 (x_istore 5 (K 43)) := ((xe_iload 1).trans (congrArg (x_iload 1) ((xe_istore 5).trans (congrArg (x_istore 5) xe_nil))))
theorem bk_X7_weigh_0 : ck_ fX7 none cX7_weigh 0 [.iconst 0, .istore 4, .iload 1, .istore 5] 6 = true := qck_r (nn_ _) (by decide +kernel)
theorem bs_X7_weigh_0 {P : Zt → Option Zv → Prop} (K : Int → Zl → List Zv → Zt → Prop) : sx_ K P [.iconst 0, .istore 4, .iload 1, .istore 5] 6 = x_iconst 0 (x_istore 4 (x_iload 1 (x_istore 5 (K 6)))) := ((xe_iconst 0).trans (congrArg (x_iconst 0) ((xe_istore 4).trans (congrArg (x_istore 4) ((xe_iload 1).trans (congrArg (x_iload 1) ((xe_istore 5).trans (congrArg (x_istore 5) xe_nil))))))))
abbrev po_X7_weigh (T : Zt) (f t k : Int) : Zt → Option Zv → Prop := fun T' r => r = none ∧ fr_ [(549, [])] T T' ∧ (0 = (0 : Int))
set_option maxHeartbeats 4000000 in
theorem ct_X7_weigh {T : Zt} {f t k : Int} (hct : T 107 0 1 ≠ 0) (hft : 0 ≤ f ∧ f + 2 ≤ t ∧ t ≤ 12) (hk : 0 ≤ k ∧ k ≤ 7) : Ct_ yX7_weigh zX7_weigh T [vR 107 0, vI f, vI t, vI k] (po_X7_weigh T f t k) := by
  refine ct_of pn_7 rfl rfl (Nat.le_of_ble_eq_true rfl) (fun hT hav => ?_)
  have hr_f : -2147483648 ≤ f ∧ f ≤ 2147483647 := hav (vI f) (List.mem_cons_of_mem _ List.mem_cons_self)
  have hr_t : -2147483648 ≤ t ∧ t ≤ 2147483647 := hav (vI t) (List.mem_cons_of_mem _ (List.mem_cons_of_mem _ List.mem_cons_self))
  have hr_k : -2147483648 ≤ k ∧ k ≤ 2147483647 := hav (vI k) (List.mem_cons_of_mem _ (List.mem_cons_of_mem _ (List.mem_cons_of_mem _ List.mem_cons_self)))
  have hz : zX7_weigh.2.2.2.1 = some .boolean → ∀ (T' : Zt) (x : Int), po_X7_weigh T f t k T' (some (vI x)) → 0 ≤ x ∧ x ≤ 1 := fun h => by cases h
  show J_ zX7_weigh T (po_X7_weigh T f t k) 0 0 0 [some (vR 107 0), some (vI f), some (vI t), some (vI k), none, none] [] T
  have c_43 : ∀ (nn : Nat) (g : Int) (i : Int) (T1 : Zt), ((12 - i).toNat) ≤ nn → (fr_ [(549, [])] T T1) → (0 ≤ i) → J_ zX7_weigh T (po_X7_weigh T f t k) 0 0 43 [some (vR 107 0), some (vI f), some (vI t), some (vI k), some (vI g), some (vI i)] [] T1 := by
    intro nn
    induction nn using Nat.strongRecOn with
    | _ nn ih_43 =>
      intro g i T1 hm_43 hf_43 i1
      replace hm_43 := fun (_ : Unit) => hm_43
      refine j_blx (F := fX7) tb_X7 (nn_ _) bk_X7_weigh_43 bs_X7_weigh_43 hz (fun K hK => ?_)
      refine And.intro (fun c1 => ?_) (fun c1 => ?_)
      · refine hK 81 _ [] T1 ?_
        refine j_blx (F := fX7) tb_X7 (nn_ _) bk_X7_weigh_81 bs_X7_weigh_81 hz (fun K hK => ?_)
        refine (show po_X7_weigh T f t k T1 (none) from ?_)
        exact ⟨rfl, fr_t (fr_0 _ _) (fr_s hf_43 rfl), by rfl⟩
      · refine ix_i (by omega) ?_
        intro b2 b2b
        have e3 : T1 547 0 i = T 547 0 i := hf_43 547 0 i rfl
        rw [e3] at b2 b2b ⊢
        refine ix_i (by omega) ?_
        intro b4 b4b
        have e5 : T1 547 0 i = T 547 0 i := hf_43 547 0 i rfl
        rw [e5] at b4 b4b ⊢
        refine hK 71 _ [vI g, vI k, vI (T 547 0 i), vR 107 0, vI (T 547 0 i), vR 549 0] T1 ?_
        have e6 : T1 107 0 1 = T 107 0 1 := hf_43 107 0 1 rfl
        refine j_callV (y := yX7_worthOf) (Yc := zX7_worthOf) (rest := [vI (T 547 0 i), vR 549 0]) [vI (T 547 0 i), vI k, vI g] (ct_X7_worthOf (T := T1) (by omega) (by omega) (by omega)) cl_X7_157 (qd_c (by decide +kernel)) (nn_ _) rfl (rf_of rfl) (Nat.le_of_ble_eq_true rfl) (Nat.le_of_ble_eq_true rfl) (Nat.le_of_ble_eq_true rfl) rfl ?_
        rintro _ _ ⟨rfl, x7, rfl, hx7⟩
        show J_ zX7_weigh T (po_X7_weigh T f t k) 0 0 74 _ [vL x7, vI (T 547 0 i), vR 549 0] T1
        refine j_blx (F := fX7) tb_X7 (nn_ _) bk_X7_weigh_74 bs_X7_weigh_74 hz (fun K hK => ?_)
        refine iy_i (by omega) (by omega) ?_
        refine x_nm (fun U8 hU8 => ?_)
        have e9 := up_f hU8
        refine rg_i (by omega) ?_
        refine hK 43 [some (vR 107 0), some (vI f), some (vI t), some (vI k), some (vI g), some (vI (i + 1))] [] U8 ?_
        refine ih_43 _ ?_ g (i + 1) U8 (Nat.le_refl _) ?_ ?_
        · have hm_43 := hm_43 (); omega
        · exact fr_u (fr_t (fr_0 _ _) (fr_s hf_43 rfl)) hU8 rfl
        · omega
  have c_6 : ∀ (nn : Nat) (g : Int) (i : Int), ((12 - i).toNat) ≤ nn → (0 ≤ i) → J_ zX7_weigh T (po_X7_weigh T f t k) 0 0 6 [some (vR 107 0), some (vI f), some (vI t), some (vI k), some (vI g), some (vI i)] [] T := by
    intro nn
    induction nn using Nat.strongRecOn with
    | _ nn ih_6 =>
      intro g i hm_6 i0
      replace hm_6 := fun (_ : Unit) => hm_6
      refine j_blx (F := fX7) tb_X7 (nn_ _) bk_X7_weigh_6 bs_X7_weigh_6 hz (fun K hK => ?_)
      refine And.intro (fun c10 => ?_) (fun c10 => ?_)
      · refine hK 40 _ [] T ?_
        refine j_blx (F := fX7) tb_X7 (nn_ _) bk_X7_weigh_40 bs_X7_weigh_40 hz (fun K hK => ?_)
        refine hK 43 [some (vR 107 0), some (vI f), some (vI t), some (vI k), some (vI g), some (vI f)] [] T ?_
        refine c_43 _ g f T (Nat.le_refl _) ?_ ?_
        · exact fr_0 _ _
        · omega
      · refine And.intro (fun c11 => ?_) (fun c11 => ?_)
        · exact absurd c11 (by omega)
        · refine ix_i (by omega) ?_
          intro b12 b12b
          refine ix_i (by omega) ?_
          intro b13 b13b
          intro w14 w14b
          intro w15 w15b
          refine rg_i (by omega) ?_
          refine hK 6 [some (vR 107 0), some (vI f), some (vI t), some (vI k), some (vI (or_ g (sl_ 1 (T 403 (T 107 0 1 - 1) (T 547 0 i))))), some (vI (i + 1))] [] T ?_
          refine ih_6 _ ?_ (or_ g (sl_ 1 (T 403 (T 107 0 1 - 1) (T 547 0 i)))) (i + 1) (Nat.le_refl _) ?_
          · have hm_6 := hm_6 (); omega
          · omega
  refine j_blx (F := fX7) tb_X7 (nn_ _) bk_X7_weigh_0 bs_X7_weigh_0 hz (fun K hK => ?_)
  refine hK 6 [some (vR 107 0), some (vI f), some (vI t), some (vI k), some (vI 0), some (vI f)] [] T ?_
  refine c_6 _ 0 f (Nat.le_refl _) ?_
  · omega
abbrev cX7_sort : ByteArray := prog_9_method_13_code
def yX7_sort : MethodName := ⟨RX7, "sort", "(II)V"⟩
def zX7_sort : Zm := (RX7, cX7_sort, 6, none, { frames := 0, cells := 0, slots := 0, locals := 0 })
theorem bk_X7_sort_73 : ck_ fX7 none cX7_sort 73 [.aload 0, .tableswitch 0 7 7 #[], .iload 5, .iload 4, .iastore, .iinc 3 1, .goto 4] 88 = true := qck_r (nn_ _) (by decide +kernel)
theorem bs_X7_sort_73 {P : Zt → Option Zv → Prop} (K : Int → Zl → List Zv → Zt → Prop) : sx_ K P [.aload 0, .tableswitch 0 7 7 #[], .iload 5, .iload 4, .iastore, .iinc 3 1, .goto 4] 88 = x_aload 0 (x_g1 107 547 (x_iload 5 (x_iload 4 (x_iastore (x_iinc 3 1 (x_goto 4 K)))))) := ((xe_aload 0).trans (congrArg (x_aload 0) ((xe_g1 (kk := 107) rfl tl_7_7).trans (congrArg (x_g1 107 547) ((xe_iload 5).trans (congrArg (x_iload 5) ((xe_iload 4).trans (congrArg (x_iload 4) ((xe_iastore).trans (congrArg (x_iastore) ((xe_iinc 3 1).trans (congrArg (x_iinc 3 1) (xe_goto 4)))))))))))))
theorem bk_X7_sort_20 : ck_ fX7 none cX7_sort 20 [.iload 5, .iload 1, .if_icmp .le 73, .aload 0, .tableswitch 0 7 9 #[], .aload 0, .tableswitch 0 7 7 #[], .iload 5, .iconst 1, .isub, .iaload, .laload, .aload 0, .tableswitch 0 7 9 #[], .iload 4, .laload, .lcmp, .ifCond .ge 73, .aload 0, .tableswitch 0 7 7 #[], .iload 5, .aload 0, .tableswitch 0 7 7 #[], .iload 5, .iconst 1, .isub, .iaload, .iastore, .iinc 5 (-1), .goto 20] 73 = true := qck_r (nn_ _) (by decide +kernel)
theorem bs_X7_sort_20 {P : Zt → Option Zv → Prop} (K : Int → Zl → List Zv → Zt → Prop) : sx_ K P [.iload 5, .iload 1, .if_icmp .le 73, .aload 0, .tableswitch 0 7 9 #[], .aload 0, .tableswitch 0 7 7 #[], .iload 5, .iconst 1, .isub, .iaload, .laload, .aload 0, .tableswitch 0 7 9 #[], .iload 4, .laload, .lcmp, .ifCond .ge 73, .aload 0, .tableswitch 0 7 7 #[], .iload 5, .aload 0, .tableswitch 0 7 7 #[], .iload 5, .iconst 1, .isub, .iaload, .iastore, .iinc 5 (-1), .goto 20] 73 = x_iload 5 (x_iload 1 (x_if_icmp .le 73 K (x_aload 0 (x_g1 107 549 (x_aload 0 (x_g1 107 547 (x_iload 5 (x_iconst 1 (x_isub (x_iaload (x_laload (x_aload 0 (x_g1 107 549 (x_iload 4 (x_laload (x_lcmp (x_ifCond .ge 73 K (x_aload 0 (x_g1 107 547 (x_iload 5 (x_aload 0 (x_g1 107 547 (x_iload 5 (x_iconst 1 (x_isub (x_iaload (x_iastore (x_iinc 5 (-1) (x_goto 20 K))))))))))))))))))))))))))))) := ((xe_iload 5).trans (congrArg (x_iload 5) ((xe_iload 1).trans (congrArg (x_iload 1) ((xe_if_icmp .le 73).trans (congrArg (x_if_icmp .le 73 K) ((xe_aload 0).trans (congrArg (x_aload 0) ((xe_g1 (kk := 107) rfl tl_7_9).trans (congrArg (x_g1 107 549) ((xe_aload 0).trans (congrArg (x_aload 0) ((xe_g1 (kk := 107) rfl tl_7_7).trans (congrArg (x_g1 107 547) ((xe_iload 5).trans (congrArg (x_iload 5) ((xe_iconst 1).trans (congrArg (x_iconst 1) ((xe_isub).trans (congrArg (x_isub) ((xe_iaload).trans (congrArg (x_iaload) ((xe_laload).trans (congrArg (x_laload) ((xe_aload 0).trans (congrArg (x_aload 0) ((xe_g1 (kk := 107) rfl tl_7_9).trans (congrArg (x_g1 107 549) ((xe_iload 4).trans (congrArg (x_iload 4) ((xe_laload).trans (congrArg (x_laload) ((xe_lcmp).trans (congrArg (x_lcmp) ((xe_ifCond .ge 73).trans (congrArg (x_ifCond .ge 73 K) ((xe_aload 0).trans (congrArg (x_aload 0) ((xe_g1 (kk := 107) rfl tl_7_7).trans (congrArg (x_g1 107 547) ((xe_iload 5).trans (congrArg (x_iload 5) ((xe_aload 0).trans (congrArg (x_aload 0) ((xe_g1 (kk := 107) rfl tl_7_7).trans (congrArg (x_g1 107 547) ((xe_iload 5).trans (congrArg (x_iload 5) ((xe_iconst 1).trans (congrArg (x_iconst 1) ((xe_isub).trans (congrArg (x_isub) ((xe_iaload).trans (congrArg (x_iaload) ((xe_iastore).trans (congrArg (x_iastore) ((xe_iinc 5 (-1)).trans (congrArg (x_iinc 5 (-1)) (xe_goto 20)))))))))))))))))))))))))))))))))))))))))))))))))))))))))))
theorem bk_X7_sort_4 : ck_ fX7 none cX7_sort 4 [.iload 3, .iload 2, .if_icmp .ge 88, .aload 0, .tableswitch 0 7 7 #[], .iload 3, .iaload, .istore 4, .iload 3, .istore 5] 20 = true := qck_r (nn_ _) (by decide +kernel)
theorem bs_X7_sort_4 {P : Zt → Option Zv → Prop} (K : Int → Zl → List Zv → Zt → Prop) : sx_ K P [.iload 3, .iload 2, .if_icmp .ge 88, .aload 0, .tableswitch 0 7 7 #[], .iload 3, .iaload, .istore 4, .iload 3, .istore 5] 20 = x_iload 3 (x_iload 2 (x_if_icmp .ge 88 K (x_aload 0 (x_g1 107 547 (x_iload 3 (x_iaload (x_istore 4 (x_iload 3 (x_istore 5 (K 20)))))))))) := ((xe_iload 3).trans (congrArg (x_iload 3) ((xe_iload 2).trans (congrArg (x_iload 2) ((xe_if_icmp .ge 88).trans (congrArg (x_if_icmp .ge 88 K) ((xe_aload 0).trans (congrArg (x_aload 0) ((xe_g1 (kk := 107) rfl tl_7_7).trans (congrArg (x_g1 107 547) ((xe_iload 3).trans (congrArg (x_iload 3) ((xe_iaload).trans (congrArg (x_iaload) ((xe_istore 4).trans (congrArg (x_istore 4) ((xe_iload 3).trans (congrArg (x_iload 3) ((xe_istore 5).trans (congrArg (x_istore 5) xe_nil))))))))))))))))))))
theorem bk_X7_sort_88 : ck_ fX7 none cX7_sort 88 [.return_] 89 = true := qck_r (nn_ _) (by decide +kernel)
theorem bs_X7_sort_88 {P : Zt → Option Zv → Prop} (K : Int → Zl → List Zv → Zt → Prop) : sx_ K P [.return_] 89 = x_return_ P := (xe_return_)
theorem bk_X7_sort_0 : ck_ fX7 none cX7_sort 0 [.iload 1, .iconst 1, .iadd, .istore 3] 4 = true := qck_r (nn_ _) (by decide +kernel)
theorem bs_X7_sort_0 {P : Zt → Option Zv → Prop} (K : Int → Zl → List Zv → Zt → Prop) : sx_ K P [.iload 1, .iconst 1, .iadd, .istore 3] 4 = x_iload 1 (x_iconst 1 (x_iadd (x_istore 3 (K 4)))) := ((xe_iload 1).trans (congrArg (x_iload 1) ((xe_iconst 1).trans (congrArg (x_iconst 1) ((xe_iadd).trans (congrArg (x_iadd) ((xe_istore 3).trans (congrArg (x_istore 3) xe_nil))))))))
abbrev po_X7_sort (T : Zt) (f t : Int) : Zt → Option Zv → Prop := fun T' r => r = none ∧ fr_ [(547, [])] T T' ∧ (0 = (0 : Int))
set_option maxHeartbeats 4000000 in
theorem ct_X7_sort {T : Zt} {f t : Int} (hft : 0 ≤ f ∧ f + 2 ≤ t ∧ t ≤ 12) : Ct_ yX7_sort zX7_sort T [vR 107 0, vI f, vI t] (po_X7_sort T f t) := by
  refine ct_of pn_7 rfl rfl (Nat.le_of_ble_eq_true rfl) (fun hT hav => ?_)
  have hr_f : -2147483648 ≤ f ∧ f ≤ 2147483647 := hav (vI f) (List.mem_cons_of_mem _ List.mem_cons_self)
  have hr_t : -2147483648 ≤ t ∧ t ≤ 2147483647 := hav (vI t) (List.mem_cons_of_mem _ (List.mem_cons_of_mem _ List.mem_cons_self))
  have hz : zX7_sort.2.2.2.1 = some .boolean → ∀ (T' : Zt) (x : Int), po_X7_sort T f t T' (some (vI x)) → 0 ≤ x ∧ x ≤ 1 := fun h => by cases h
  show J_ zX7_sort T (po_X7_sort T f t) 0 0 0 [some (vR 107 0), some (vI f), some (vI t), none, none, none] [] T
  have c_4 : ∀ (nn : Nat) (i : Int) (T1 : Zt), ((12 - i).toNat) ≤ nn → (fr_ [(547, [])] T T1) → (f < i ∧ i ≤ 12) → J_ zX7_sort T (po_X7_sort T f t) 0 0 4 [some (vR 107 0), some (vI f), some (vI t), some (vI i), none, none] [] T1 := by
    intro nn
    induction nn using Nat.strongRecOn with
    | _ nn ih_4 =>
      intro i T1 hm_4 hf_4 i1
      replace hm_4 := fun (_ : Unit) => hm_4
      have c_73 : ∀ (w : Int) (j : Int) (T3 : Zt), (fr_ [(547, [])] T T3) → (f ≤ j ∧ j ≤ i ∧ i < t ∧ 0 ≤ w ∧ w < 12) → J_ zX7_sort T (po_X7_sort T f t) 0 0 73 [some (vR 107 0), some (vI f), some (vI t), some (vI i), some (vI w), some (vI j)] [] T3 := by
        intro w j T3 hf_73 k1
        refine j_blx (F := fX7) tb_X7 (nn_ _) bk_X7_sort_73 bs_X7_sort_73 hz (fun K hK => ?_)
        refine iy_i (by omega) (by omega) ?_
        refine x_nm (fun U1 hU1 => ?_)
        have e2 := up_f hU1
        refine rg_i (by omega) ?_
        refine hK 4 [some (vR 107 0), some (vI f), some (vI t), some (vI (i + 1)), some (vI w), some (vI j)] [] U1 ?_
        refine j_drq [some (vR 107 0), some (vI f), some (vI t), some (vI (i + 1)), none, none] (drq_s (drq_s (drq_s (drq_s (drq_n (drq_n drq_0)))))) ?_
        refine ih_4 _ ?_ (i + 1) U1 (Nat.le_refl _) ?_ ?_
        · have hm_4 := hm_4 (); omega
        · exact fr_u (fr_t (fr_0 _ _) (fr_s hf_73 rfl)) hU1 rfl
        · omega
      have c_20 : ∀ (nn : Nat) (w : Int) (j : Int) (T2 : Zt), (j.toNat) ≤ nn → (fr_ [(547, [])] T T2) → (f ≤ j ∧ j ≤ i ∧ i < t ∧ 0 ≤ w ∧ w < 12) → J_ zX7_sort T (po_X7_sort T f t) 0 0 20 [some (vR 107 0), some (vI f), some (vI t), some (vI i), some (vI w), some (vI j)] [] T2 := by
        intro nn
        induction nn using Nat.strongRecOn with
        | _ nn ih_20 =>
          intro w j T2 hm_20 hf_20 k1
          replace hm_20 := fun (_ : Unit) => hm_20
          refine j_blx (F := fX7) tb_X7 (nn_ _) bk_X7_sort_20 bs_X7_sort_20 hz (fun K hK => ?_)
          refine And.intro (fun c3 => ?_) (fun c3 => ?_)
          · refine hK 73 _ [] T2 ?_
            refine c_73 w j T2 ?_ ?_
            · exact fr_t (fr_0 _ _) (fr_s hf_20 rfl)
            · omega
          · refine rg_i (by omega) ?_
            refine ix_i (by omega) ?_
            intro b4 b4b
            refine ix_i (by omega) ?_
            intro b5 b5b
            have e6 : T2 549 0 (T2 547 0 (j - 1)) = T 549 0 (T2 547 0 (j - 1)) := hf_20 549 0 (T2 547 0 (j - 1)) rfl
            rw [e6] at b5 b5b ⊢
            refine ix_i (by omega) ?_
            intro b7 b7b
            have e8 : T2 549 0 w = T 549 0 w := hf_20 549 0 w rfl
            rw [e8] at b7 b7b ⊢
            refine And.intro (fun c9 => ?_) (And.intro (fun c9 => ?_) (fun c9 => ?_))
            · refine And.intro (fun c10 => ?_) (fun c10 => ?_)
              · exact absurd c10 (by decide)
              · refine rg_i (by omega) ?_
                refine ix_i (by omega) ?_
                intro b11 b11b
                refine iy_i (by omega) (by omega) ?_
                refine x_nm (fun U12 hU12 => ?_)
                have e13 := up_f hU12
                refine rg_i (by omega) ?_
                refine hK 20 [some (vR 107 0), some (vI f), some (vI t), some (vI i), some (vI w), some (vI (j + (-1)))] [] U12 ?_
                refine ih_20 _ ?_ w (j + (-1)) U12 (Nat.le_refl _) ?_ ?_
                · have hm_20 := hm_20 (); omega
                · exact fr_u (fr_t (fr_0 _ _) (fr_s hf_20 rfl)) hU12 rfl
                · omega
            · refine And.intro (fun c14 => ?_) (fun c14 => ?_)
              · refine hK 73 _ [] T2 ?_
                refine c_73 w j T2 ?_ ?_
                · exact fr_t (fr_0 _ _) (fr_s hf_20 rfl)
                · omega
              · exact absurd c14 (by decide)
            · refine And.intro (fun c15 => ?_) (fun c15 => ?_)
              · refine hK 73 _ [] T2 ?_
                refine c_73 w j T2 ?_ ?_
                · exact fr_t (fr_0 _ _) (fr_s hf_20 rfl)
                · omega
              · exact absurd c15 (by decide)
      refine j_blx (F := fX7) tb_X7 (nn_ _) bk_X7_sort_4 bs_X7_sort_4 hz (fun K hK => ?_)
      refine And.intro (fun c16 => ?_) (fun c16 => ?_)
      · refine hK 88 _ [] T1 ?_
        refine j_blx (F := fX7) tb_X7 (nn_ _) bk_X7_sort_88 bs_X7_sort_88 hz (fun K hK => ?_)
        refine (show po_X7_sort T f t T1 (none) from ?_)
        exact ⟨rfl, fr_t (fr_0 _ _) (fr_s hf_4 rfl), by rfl⟩
      · refine ix_i (by omega) ?_
        intro b17 b17b
        refine hK 20 [some (vR 107 0), some (vI f), some (vI t), some (vI i), some (vI (T1 547 0 i)), some (vI i)] [] T1 ?_
        refine c_20 _ (T1 547 0 i) i T1 (Nat.le_refl _) ?_ ?_
        · exact fr_t (fr_0 _ _) (fr_s hf_4 rfl)
        · omega
  refine j_blx (F := fX7) tb_X7 (nn_ _) bk_X7_sort_0 bs_X7_sort_0 hz (fun K hK => ?_)
  refine rg_i (by omega) ?_
  refine hK 4 [some (vR 107 0), some (vI f), some (vI t), some (vI (f + 1)), none, none] [] T ?_
  refine c_4 _ (f + 1) T (Nat.le_refl _) ?_ ?_
  · exact fr_0 _ _
  · omega
def WQ_ (T : Zt) : Prop := ∀ j : Int, 0 ≤ j → j < T 107 0 13 → 0 ≤ T 550 0 j ∧ T 550 0 j + 2 ≤ T 551 0 j ∧ T 551 0 j ≤ 12 ∧ 0 ≤ T 552 0 j ∧ T 552 0 j ≤ 7
theorem WQ__f {ws : List (Nat × List Int)} {T T' : Zt} (h : WQ_ T) (f : fr_ ws T T') (w : (∀ j, fw_ ws 550 j = false) ∧ (∀ j, fw_ ws 551 j = false) ∧ (∀ j, fw_ ws 552 j = false) ∧ fw_ ws 107 13 = false ∧ True) : WQ_ T' := by
  have e0 : ∀ i j, T' 550 i j = T 550 i j := fun i j => f 550 i j (w.1 j)
  have e1 : ∀ i j, T' 551 i j = T 551 i j := fun i j => f 551 i j (w.2.1 j)
  have e2 : ∀ i j, T' 552 i j = T 552 i j := fun i j => f 552 i j (w.2.2.1 j)
  have e3 : ∀ i, T' 107 i 13 = T 107 i 13 := fun i => f 107 i 13 w.2.2.2.1
  simp only [WQ_, e0, e1, e2, e3] at h ⊢
  exact h
abbrev cX7_putWaiting : ByteArray := prog_9_method_7_code
def yX7_putWaiting : MethodName := ⟨RX7, "putWaiting", "(III)V"⟩
def zX7_putWaiting : Zm := (RX7, cX7_putWaiting, 5, none, { frames := 0, cells := 0, slots := 0, locals := 0 })
theorem bk_X7_putWaiting_0 : ck_ fX7 none cX7_putWaiting 0 [.iload 2, .iload 1, .isub, .iconst 2, .if_icmp .lt 20, .iload 3, .aload 0, .tableswitch 0 7 1 #[], .tableswitch 0 0 1 #[], .iconst 4, .iaload, .if_icmp .le 24, .iconst 1, .goto 25] 24 = true := qck_r (nn_ _) (by decide +kernel)
theorem bs_X7_putWaiting_0 {P : Zt → Option Zv → Prop} (K : Int → Zl → List Zv → Zt → Prop) : sx_ K P [.iload 2, .iload 1, .isub, .iconst 2, .if_icmp .lt 20, .iload 3, .aload 0, .tableswitch 0 7 1 #[], .tableswitch 0 0 1 #[], .iconst 4, .iaload, .if_icmp .le 24, .iconst 1, .goto 25] 24 = x_iload 2 (x_iload 1 (x_isub (x_iconst 2 (x_if_icmp .lt 20 K (x_iload 3 (x_aload 0 (x_g5 107 100 1 (x_g2 100 401 (x_iconst 4 (x_iaload (x_if_icmp .le 24 K (x_iconst 1 (x_goto 25 K))))))))))))) := ((xe_iload 2).trans (congrArg (x_iload 2) ((xe_iload 1).trans (congrArg (x_iload 1) ((xe_isub).trans (congrArg (x_isub) ((xe_iconst 2).trans (congrArg (x_iconst 2) ((xe_if_icmp .lt 20).trans (congrArg (x_if_icmp .lt 20 K) ((xe_iload 3).trans (congrArg (x_iload 3) ((xe_aload 0).trans (congrArg (x_aload 0) ((xe_g5 (kk := 107) rfl tl_7_1).trans (congrArg (x_g5 107 100 1) ((xe_g2 (kk := 100) rfl tl_0_1).trans (congrArg (x_g2 100 401) ((xe_iconst 4).trans (congrArg (x_iconst 4) ((xe_iaload).trans (congrArg (x_iaload) ((xe_if_icmp .le 24).trans (congrArg (x_if_icmp .le 24 K) ((xe_iconst 1).trans (congrArg (x_iconst 1) (xe_goto 25)))))))))))))))))))))))))))
theorem bk_X7_putWaiting_20 : ck_ fX7 none cX7_putWaiting 20 [.iconst 1, .goto 25] 24 = true := qck_r (nn_ _) (by decide +kernel)
theorem bs_X7_putWaiting_20 {P : Zt → Option Zv → Prop} (K : Int → Zl → List Zv → Zt → Prop) : sx_ K P [.iconst 1, .goto 25] 24 = x_iconst 1 (x_goto 25 K) := ((xe_iconst 1).trans (congrArg (x_iconst 1) (xe_goto 25)))
theorem bk_X7_putWaiting_25 : ck_ fX7 none cX7_putWaiting 25 [.istore 4, .iload 4, .ifCond .ne 81, .aload 0, .tableswitch 0 7 13 #[], .iconst 16, .if_icmp .ge 81, .aload 0, .tableswitch 0 7 10 #[], .aload 0, .tableswitch 0 7 13 #[], .iload 1, .iastore, .aload 0, .tableswitch 0 7 11 #[], .aload 0, .tableswitch 0 7 13 #[], .iload 2, .iastore, .aload 0, .tableswitch 0 7 12 #[], .aload 0, .tableswitch 0 7 13 #[], .iload 3, .iastore, .aload 0, .dup, .tableswitch 0 7 13 #[], .iconst 1, .iadd, .tableswitch 1 7 13 #[], .return_] 82 = true := qck_r (nn_ _) (by decide +kernel)
theorem bs_X7_putWaiting_25 {P : Zt → Option Zv → Prop} (K : Int → Zl → List Zv → Zt → Prop) : sx_ K P [.istore 4, .iload 4, .ifCond .ne 81, .aload 0, .tableswitch 0 7 13 #[], .iconst 16, .if_icmp .ge 81, .aload 0, .tableswitch 0 7 10 #[], .aload 0, .tableswitch 0 7 13 #[], .iload 1, .iastore, .aload 0, .tableswitch 0 7 11 #[], .aload 0, .tableswitch 0 7 13 #[], .iload 2, .iastore, .aload 0, .tableswitch 0 7 12 #[], .aload 0, .tableswitch 0 7 13 #[], .iload 3, .iastore, .aload 0, .dup, .tableswitch 0 7 13 #[], .iconst 1, .iadd, .tableswitch 1 7 13 #[], .return_] 82 = x_istore 4 (x_iload 4 (x_ifCond .ne 81 K (x_aload 0 (x_g0 107 13 0 16 (x_iconst 16 (x_if_icmp .ge 81 K (x_aload 0 (x_g1 107 550 (x_aload 0 (x_g0 107 13 0 16 (x_iload 1 (x_iastore (x_aload 0 (x_g1 107 551 (x_aload 0 (x_g0 107 13 0 16 (x_iload 2 (x_iastore (x_aload 0 (x_g1 107 552 (x_aload 0 (x_g0 107 13 0 16 (x_iload 3 (x_iastore (x_aload 0 (x_dup (x_g0 107 13 0 16 (x_iconst 1 (x_iadd (x_p 107 13 0 16 (x_return_ P))))))))))))))))))))))))))))))) := ((xe_istore 4).trans (congrArg (x_istore 4) ((xe_iload 4).trans (congrArg (x_iload 4) ((xe_ifCond .ne 81).trans (congrArg (x_ifCond .ne 81 K) ((xe_aload 0).trans (congrArg (x_aload 0) ((xe_g0 (kk := 107) rfl tl_7_13).trans (congrArg (x_g0 107 13 0 16) ((xe_iconst 16).trans (congrArg (x_iconst 16) ((xe_if_icmp .ge 81).trans (congrArg (x_if_icmp .ge 81 K) ((xe_aload 0).trans (congrArg (x_aload 0) ((xe_g1 (kk := 107) rfl tl_7_10).trans (congrArg (x_g1 107 550) ((xe_aload 0).trans (congrArg (x_aload 0) ((xe_g0 (kk := 107) rfl tl_7_13).trans (congrArg (x_g0 107 13 0 16) ((xe_iload 1).trans (congrArg (x_iload 1) ((xe_iastore).trans (congrArg (x_iastore) ((xe_aload 0).trans (congrArg (x_aload 0) ((xe_g1 (kk := 107) rfl tl_7_11).trans (congrArg (x_g1 107 551) ((xe_aload 0).trans (congrArg (x_aload 0) ((xe_g0 (kk := 107) rfl tl_7_13).trans (congrArg (x_g0 107 13 0 16) ((xe_iload 2).trans (congrArg (x_iload 2) ((xe_iastore).trans (congrArg (x_iastore) ((xe_aload 0).trans (congrArg (x_aload 0) ((xe_g1 (kk := 107) rfl tl_7_12).trans (congrArg (x_g1 107 552) ((xe_aload 0).trans (congrArg (x_aload 0) ((xe_g0 (kk := 107) rfl tl_7_13).trans (congrArg (x_g0 107 13 0 16) ((xe_iload 3).trans (congrArg (x_iload 3) ((xe_iastore).trans (congrArg (x_iastore) ((xe_aload 0).trans (congrArg (x_aload 0) ((xe_dup).trans (congrArg (x_dup) ((xe_g0 (kk := 107) rfl tl_7_13).trans (congrArg (x_g0 107 13 0 16) ((xe_iconst 1).trans (congrArg (x_iconst 1) ((xe_iadd).trans (congrArg (x_iadd) ((xe_p (kk := 107) rfl tl_7_13).trans (congrArg (x_p 107 13 0 16) (xe_return_)))))))))))))))))))))))))))))))))))))))))))))))))))))))))))))))
theorem bk_X7_putWaiting_81 : ck_ fX7 none cX7_putWaiting 81 [.return_] 82 = true := qck_r (nn_ _) (by decide +kernel)
theorem bs_X7_putWaiting_81 {P : Zt → Option Zv → Prop} (K : Int → Zl → List Zv → Zt → Prop) : sx_ K P [.return_] 82 = x_return_ P := (xe_return_)
theorem bk_X7_putWaiting_24 : ck_ fX7 none cX7_putWaiting 24 [.iconst 0, .istore 4, .iload 4, .ifCond .ne 81, .aload 0, .tableswitch 0 7 13 #[], .iconst 16, .if_icmp .ge 81, .aload 0, .tableswitch 0 7 10 #[], .aload 0, .tableswitch 0 7 13 #[], .iload 1, .iastore, .aload 0, .tableswitch 0 7 11 #[], .aload 0, .tableswitch 0 7 13 #[], .iload 2, .iastore, .aload 0, .tableswitch 0 7 12 #[], .aload 0, .tableswitch 0 7 13 #[], .iload 3, .iastore, .aload 0, .dup, .tableswitch 0 7 13 #[], .iconst 1, .iadd, .tableswitch 1 7 13 #[], .return_] 82 = true := qck_r (nn_ _) (by decide +kernel)
theorem bs_X7_putWaiting_24 {P : Zt → Option Zv → Prop} (K : Int → Zl → List Zv → Zt → Prop) : sx_ K P [.iconst 0, .istore 4, .iload 4, .ifCond .ne 81, .aload 0, .tableswitch 0 7 13 #[], .iconst 16, .if_icmp .ge 81, .aload 0, .tableswitch 0 7 10 #[], .aload 0, .tableswitch 0 7 13 #[], .iload 1, .iastore, .aload 0, .tableswitch 0 7 11 #[], .aload 0, .tableswitch 0 7 13 #[], .iload 2, .iastore, .aload 0, .tableswitch 0 7 12 #[], .aload 0, .tableswitch 0 7 13 #[], .iload 3, .iastore, .aload 0, .dup, .tableswitch 0 7 13 #[], .iconst 1, .iadd, .tableswitch 1 7 13 #[], .return_] 82 = x_iconst 0 (x_istore 4 (x_iload 4 (x_ifCond .ne 81 K (x_aload 0 (x_g0 107 13 0 16 (x_iconst 16 (x_if_icmp .ge 81 K (x_aload 0 (x_g1 107 550 (x_aload 0 (x_g0 107 13 0 16 (x_iload 1 (x_iastore (x_aload 0 (x_g1 107 551 (x_aload 0 (x_g0 107 13 0 16 (x_iload 2 (x_iastore (x_aload 0 (x_g1 107 552 (x_aload 0 (x_g0 107 13 0 16 (x_iload 3 (x_iastore (x_aload 0 (x_dup (x_g0 107 13 0 16 (x_iconst 1 (x_iadd (x_p 107 13 0 16 (x_return_ P)))))))))))))))))))))))))))))))) := ((xe_iconst 0).trans (congrArg (x_iconst 0) ((xe_istore 4).trans (congrArg (x_istore 4) ((xe_iload 4).trans (congrArg (x_iload 4) ((xe_ifCond .ne 81).trans (congrArg (x_ifCond .ne 81 K) ((xe_aload 0).trans (congrArg (x_aload 0) ((xe_g0 (kk := 107) rfl tl_7_13).trans (congrArg (x_g0 107 13 0 16) ((xe_iconst 16).trans (congrArg (x_iconst 16) ((xe_if_icmp .ge 81).trans (congrArg (x_if_icmp .ge 81 K) ((xe_aload 0).trans (congrArg (x_aload 0) ((xe_g1 (kk := 107) rfl tl_7_10).trans (congrArg (x_g1 107 550) ((xe_aload 0).trans (congrArg (x_aload 0) ((xe_g0 (kk := 107) rfl tl_7_13).trans (congrArg (x_g0 107 13 0 16) ((xe_iload 1).trans (congrArg (x_iload 1) ((xe_iastore).trans (congrArg (x_iastore) ((xe_aload 0).trans (congrArg (x_aload 0) ((xe_g1 (kk := 107) rfl tl_7_11).trans (congrArg (x_g1 107 551) ((xe_aload 0).trans (congrArg (x_aload 0) ((xe_g0 (kk := 107) rfl tl_7_13).trans (congrArg (x_g0 107 13 0 16) ((xe_iload 2).trans (congrArg (x_iload 2) ((xe_iastore).trans (congrArg (x_iastore) ((xe_aload 0).trans (congrArg (x_aload 0) ((xe_g1 (kk := 107) rfl tl_7_12).trans (congrArg (x_g1 107 552) ((xe_aload 0).trans (congrArg (x_aload 0) ((xe_g0 (kk := 107) rfl tl_7_13).trans (congrArg (x_g0 107 13 0 16) ((xe_iload 3).trans (congrArg (x_iload 3) ((xe_iastore).trans (congrArg (x_iastore) ((xe_aload 0).trans (congrArg (x_aload 0) ((xe_dup).trans (congrArg (x_dup) ((xe_g0 (kk := 107) rfl tl_7_13).trans (congrArg (x_g0 107 13 0 16) ((xe_iconst 1).trans (congrArg (x_iconst 1) ((xe_iadd).trans (congrArg (x_iadd) ((xe_p (kk := 107) rfl tl_7_13).trans (congrArg (x_p 107 13 0 16) (xe_return_)))))))))))))))))))))))))))))))))))))))))))))))))))))))))))))))))
abbrev po_X7_putWaiting (T : Zt) (f t k : Int) : Zt → Option Zv → Prop := fun T' r => r = none ∧ fr_ [(550, []), (551, []), (552, []), (107, [13])] T T' ∧ (WQ_ T')
set_option maxHeartbeats 4000000 in
theorem ct_X7_putWaiting {T : Zt} {f t k : Int} (hct : T 107 0 1 ≠ 0) (h1 : 0 ≤ f ∧ f ≤ 12) (h2 : 0 ≤ t ∧ t ≤ 12) (h3 : 0 ≤ k ∧ k ≤ 8) (hrk : T 401 (T 107 0 1 - 1) 4 ≤ 7) (hwq : WQ_ T) : Ct_ yX7_putWaiting zX7_putWaiting T [vR 107 0, vI f, vI t, vI k] (po_X7_putWaiting T f t k) := by
  refine ct_of pn_7 rfl rfl (Nat.le_of_ble_eq_true rfl) (fun hT hav => ?_)
  have hr_f : -2147483648 ≤ f ∧ f ≤ 2147483647 := hav (vI f) (List.mem_cons_of_mem _ List.mem_cons_self)
  have hr_t : -2147483648 ≤ t ∧ t ≤ 2147483647 := hav (vI t) (List.mem_cons_of_mem _ (List.mem_cons_of_mem _ List.mem_cons_self))
  have hr_k : -2147483648 ≤ k ∧ k ≤ 2147483647 := hav (vI k) (List.mem_cons_of_mem _ (List.mem_cons_of_mem _ (List.mem_cons_of_mem _ List.mem_cons_self)))
  have hz : zX7_putWaiting.2.2.2.1 = some .boolean → ∀ (T' : Zt) (x : Int), po_X7_putWaiting T f t k T' (some (vI x)) → 0 ≤ x ∧ x ≤ 1 := fun h => by cases h
  have hbw : 0 ≤ T 107 0 13 ∧ T 107 0 13 ≤ 16 := bd_f hT 107 13 tl_7_13 0
  show J_ zX7_putWaiting T (po_X7_putWaiting T f t k) 0 0 0 [some (vR 107 0), some (vI f), some (vI t), some (vI k), none] [] T
  refine j_blx (F := fX7) tb_X7 (nn_ _) bk_X7_putWaiting_0 bs_X7_putWaiting_0 hz (fun K hK => ?_)
  refine rg_i (by omega) ?_
  refine And.intro (fun c1 => ?_) (fun c1 => ?_)
  · refine hK 20 _ [] T ?_
    refine j_blx (F := fX7) tb_X7 (nn_ _) bk_X7_putWaiting_20 bs_X7_putWaiting_20 hz (fun K hK => ?_)
    refine hK 25 _ [vI 1] T ?_
    refine j_blx (F := fX7) tb_X7 (nn_ _) bk_X7_putWaiting_25 bs_X7_putWaiting_25 hz (fun K hK => ?_)
    refine And.intro (fun c2 => ?_) (fun c2 => ?_)
    · refine hK 81 [some (vR 107 0), some (vI f), some (vI t), some (vI k), some (vI 1)] [] T ?_
      refine j_blx (F := fX7) tb_X7 (nn_ _) bk_X7_putWaiting_81 bs_X7_putWaiting_81 hz (fun K hK => ?_)
      refine (show po_X7_putWaiting T f t k T (none) from ?_)
      exact ⟨rfl, fr_0 _ _, hwq⟩
    · intro b3 b3b
      refine And.intro (fun c4 => ?_) (fun c4 => ?_)
      · refine hK 81 _ [] T ?_
        refine j_blx (F := fX7) tb_X7 (nn_ _) bk_X7_putWaiting_81 bs_X7_putWaiting_81 hz (fun K hK => ?_)
        refine (show po_X7_putWaiting T f t k T (none) from ?_)
        exact ⟨rfl, fr_0 _ _, hwq⟩
      · intro b5 b5b
        refine iy_i (by omega) (by omega) ?_
        refine x_nm (fun U6 hU6 => ?_)
        have e7 := up_f hU6
        intro b8 b8b
        have e9 : U6 107 0 13 = T 107 0 13 := up_k hU6 (by exact Nat.ne_of_beq_eq_false rfl) 0 13
        rw [e9] at b8 b8b ⊢
        refine iy_i (by omega) (by omega) ?_
        refine x_nm (fun U10 hU10 => ?_)
        have e11 := up_f hU10
        intro b12 b12b
        have e13 : U10 107 0 13 = T 107 0 13 := (up_k hU10 (by exact Nat.ne_of_beq_eq_false rfl) 0 13).trans (up_k hU6 (by exact Nat.ne_of_beq_eq_false rfl) 0 13)
        rw [e13] at b12 b12b ⊢
        refine iy_i (by omega) (by omega) ?_
        refine x_nm (fun U14 hU14 => ?_)
        have e15 := up_f hU14
        intro b16 b16b
        have e17 : U14 107 0 13 = T 107 0 13 := (up_k hU14 (by exact Nat.ne_of_beq_eq_false rfl) 0 13).trans ((up_k hU10 (by exact Nat.ne_of_beq_eq_false rfl) 0 13).trans (up_k hU6 (by exact Nat.ne_of_beq_eq_false rfl) 0 13))
        rw [e17] at b16 b16b ⊢
        refine rg_i (by omega) ?_
        refine bd_i (by omega) ?_
        refine x_nm (fun U18 hU18 => ?_)
        have e19 := up_f hU18
        refine (show po_X7_putWaiting T f t k U18 (none) from ?_)
        refine ⟨rfl, fr_u (fr_u (fr_u (fr_u (fr_0 _ _) hU6 rfl) hU10 rfl) hU14 rfl) hU18 rfl, fun j a b => ?_⟩
        by_cases z : j = T 107 0 13
        · rw [z, ((up_k hU18 (by exact Nat.ne_of_beq_eq_false rfl) 0 (T 107 0 13)).trans ((up_k hU14 (by exact Nat.ne_of_beq_eq_false rfl) 0 (T 107 0 13)).trans (up_k hU10 (by exact Nat.ne_of_beq_eq_false rfl) 0 (T 107 0 13)))).trans (up_f hU6), ((up_k hU18 (by exact Nat.ne_of_beq_eq_false rfl) 0 (T 107 0 13)).trans (up_k hU14 (by exact Nat.ne_of_beq_eq_false rfl) 0 (T 107 0 13))).trans (up_f hU10), (up_k hU18 (by exact Nat.ne_of_beq_eq_false rfl) 0 (T 107 0 13)).trans (up_f hU14)]; omega
        · rw [(up_k hU18 (by exact Nat.ne_of_beq_eq_false rfl) 0 j).trans ((up_k hU14 (by exact Nat.ne_of_beq_eq_false rfl) 0 j).trans ((up_k hU10 (by exact Nat.ne_of_beq_eq_false rfl) 0 j).trans (up_g hU6 (by omega)))), (up_k hU18 (by exact Nat.ne_of_beq_eq_false rfl) 0 j).trans ((up_k hU14 (by exact Nat.ne_of_beq_eq_false rfl) 0 j).trans ((up_g hU10 (by omega)).trans (up_k hU6 (by exact Nat.ne_of_beq_eq_false rfl) 0 j))), (up_k hU18 (by exact Nat.ne_of_beq_eq_false rfl) 0 j).trans ((up_g hU14 (by omega)).trans ((up_k hU10 (by exact Nat.ne_of_beq_eq_false rfl) 0 j).trans (up_k hU6 (by exact Nat.ne_of_beq_eq_false rfl) 0 j)))]; exact hwq j a (by omega)
  · refine And.intro (fun c20 => ?_) (fun c20 => ?_)
    · exact absurd c20 (by omega)
    · refine ix_i (by omega) ?_
      intro b21 b21b
      refine And.intro (fun c22 => ?_) (fun c22 => ?_)
      · refine hK 24 _ [] T ?_
        refine j_blx (F := fX7) tb_X7 (nn_ _) bk_X7_putWaiting_24 bs_X7_putWaiting_24 hz (fun K hK => ?_)
        refine And.intro (fun c23 => ?_) (fun c23 => ?_)
        · refine hK 81 [some (vR 107 0), some (vI f), some (vI t), some (vI k), some (vI 0)] [] T ?_
          refine j_blx (F := fX7) tb_X7 (nn_ _) bk_X7_putWaiting_81 bs_X7_putWaiting_81 hz (fun K hK => ?_)
          refine (show po_X7_putWaiting T f t k T (none) from ?_)
          exact ⟨rfl, fr_0 _ _, hwq⟩
        · intro b24 b24b
          refine And.intro (fun c25 => ?_) (fun c25 => ?_)
          · refine hK 81 _ [] T ?_
            refine j_blx (F := fX7) tb_X7 (nn_ _) bk_X7_putWaiting_81 bs_X7_putWaiting_81 hz (fun K hK => ?_)
            refine (show po_X7_putWaiting T f t k T (none) from ?_)
            exact ⟨rfl, fr_0 _ _, hwq⟩
          · intro b26 b26b
            refine iy_i (by omega) (by omega) ?_
            refine x_nm (fun U27 hU27 => ?_)
            have e28 := up_f hU27
            intro b29 b29b
            have e30 : U27 107 0 13 = T 107 0 13 := up_k hU27 (by exact Nat.ne_of_beq_eq_false rfl) 0 13
            rw [e30] at b29 b29b ⊢
            refine iy_i (by omega) (by omega) ?_
            refine x_nm (fun U31 hU31 => ?_)
            have e32 := up_f hU31
            intro b33 b33b
            have e34 : U31 107 0 13 = T 107 0 13 := (up_k hU31 (by exact Nat.ne_of_beq_eq_false rfl) 0 13).trans (up_k hU27 (by exact Nat.ne_of_beq_eq_false rfl) 0 13)
            rw [e34] at b33 b33b ⊢
            refine iy_i (by omega) (by omega) ?_
            refine x_nm (fun U35 hU35 => ?_)
            have e36 := up_f hU35
            intro b37 b37b
            have e38 : U35 107 0 13 = T 107 0 13 := (up_k hU35 (by exact Nat.ne_of_beq_eq_false rfl) 0 13).trans ((up_k hU31 (by exact Nat.ne_of_beq_eq_false rfl) 0 13).trans (up_k hU27 (by exact Nat.ne_of_beq_eq_false rfl) 0 13))
            rw [e38] at b37 b37b ⊢
            refine rg_i (by omega) ?_
            refine bd_i (by omega) ?_
            refine x_nm (fun U39 hU39 => ?_)
            have e40 := up_f hU39
            refine (show po_X7_putWaiting T f t k U39 (none) from ?_)
            refine ⟨rfl, fr_u (fr_u (fr_u (fr_u (fr_0 _ _) hU27 rfl) hU31 rfl) hU35 rfl) hU39 rfl, fun j a b => ?_⟩
            by_cases z : j = T 107 0 13
            · rw [z, ((up_k hU39 (by exact Nat.ne_of_beq_eq_false rfl) 0 (T 107 0 13)).trans ((up_k hU35 (by exact Nat.ne_of_beq_eq_false rfl) 0 (T 107 0 13)).trans (up_k hU31 (by exact Nat.ne_of_beq_eq_false rfl) 0 (T 107 0 13)))).trans (up_f hU27), ((up_k hU39 (by exact Nat.ne_of_beq_eq_false rfl) 0 (T 107 0 13)).trans (up_k hU35 (by exact Nat.ne_of_beq_eq_false rfl) 0 (T 107 0 13))).trans (up_f hU31), (up_k hU39 (by exact Nat.ne_of_beq_eq_false rfl) 0 (T 107 0 13)).trans (up_f hU35)]; omega
            · rw [(up_k hU39 (by exact Nat.ne_of_beq_eq_false rfl) 0 j).trans ((up_k hU35 (by exact Nat.ne_of_beq_eq_false rfl) 0 j).trans ((up_k hU31 (by exact Nat.ne_of_beq_eq_false rfl) 0 j).trans (up_g hU27 (by omega)))), (up_k hU39 (by exact Nat.ne_of_beq_eq_false rfl) 0 j).trans ((up_k hU35 (by exact Nat.ne_of_beq_eq_false rfl) 0 j).trans ((up_g hU31 (by omega)).trans (up_k hU27 (by exact Nat.ne_of_beq_eq_false rfl) 0 j))), (up_k hU39 (by exact Nat.ne_of_beq_eq_false rfl) 0 j).trans ((up_g hU35 (by omega)).trans ((up_k hU31 (by exact Nat.ne_of_beq_eq_false rfl) 0 j).trans (up_k hU27 (by exact Nat.ne_of_beq_eq_false rfl) 0 j)))]; exact hwq j a (by omega)
      · refine hK 25 _ [vI 1] T ?_
        refine j_blx (F := fX7) tb_X7 (nn_ _) bk_X7_putWaiting_25 bs_X7_putWaiting_25 hz (fun K hK => ?_)
        refine And.intro (fun c41 => ?_) (fun c41 => ?_)
        · refine hK 81 [some (vR 107 0), some (vI f), some (vI t), some (vI k), some (vI 1)] [] T ?_
          refine j_blx (F := fX7) tb_X7 (nn_ _) bk_X7_putWaiting_81 bs_X7_putWaiting_81 hz (fun K hK => ?_)
          refine (show po_X7_putWaiting T f t k T (none) from ?_)
          exact ⟨rfl, fr_0 _ _, hwq⟩
        · intro b42 b42b
          refine And.intro (fun c43 => ?_) (fun c43 => ?_)
          · refine hK 81 _ [] T ?_
            refine j_blx (F := fX7) tb_X7 (nn_ _) bk_X7_putWaiting_81 bs_X7_putWaiting_81 hz (fun K hK => ?_)
            refine (show po_X7_putWaiting T f t k T (none) from ?_)
            exact ⟨rfl, fr_0 _ _, hwq⟩
          · intro b44 b44b
            refine iy_i (by omega) (by omega) ?_
            refine x_nm (fun U45 hU45 => ?_)
            have e46 := up_f hU45
            intro b47 b47b
            have e48 : U45 107 0 13 = T 107 0 13 := up_k hU45 (by exact Nat.ne_of_beq_eq_false rfl) 0 13
            rw [e48] at b47 b47b ⊢
            refine iy_i (by omega) (by omega) ?_
            refine x_nm (fun U49 hU49 => ?_)
            have e50 := up_f hU49
            intro b51 b51b
            have e52 : U49 107 0 13 = T 107 0 13 := (up_k hU49 (by exact Nat.ne_of_beq_eq_false rfl) 0 13).trans (up_k hU45 (by exact Nat.ne_of_beq_eq_false rfl) 0 13)
            rw [e52] at b51 b51b ⊢
            refine iy_i (by omega) (by omega) ?_
            refine x_nm (fun U53 hU53 => ?_)
            have e54 := up_f hU53
            intro b55 b55b
            have e56 : U53 107 0 13 = T 107 0 13 := (up_k hU53 (by exact Nat.ne_of_beq_eq_false rfl) 0 13).trans ((up_k hU49 (by exact Nat.ne_of_beq_eq_false rfl) 0 13).trans (up_k hU45 (by exact Nat.ne_of_beq_eq_false rfl) 0 13))
            rw [e56] at b55 b55b ⊢
            refine rg_i (by omega) ?_
            refine bd_i (by omega) ?_
            refine x_nm (fun U57 hU57 => ?_)
            have e58 := up_f hU57
            refine (show po_X7_putWaiting T f t k U57 (none) from ?_)
            refine ⟨rfl, fr_u (fr_u (fr_u (fr_u (fr_0 _ _) hU45 rfl) hU49 rfl) hU53 rfl) hU57 rfl, fun j a b => ?_⟩
            by_cases z : j = T 107 0 13
            · rw [z, ((up_k hU57 (by exact Nat.ne_of_beq_eq_false rfl) 0 (T 107 0 13)).trans ((up_k hU53 (by exact Nat.ne_of_beq_eq_false rfl) 0 (T 107 0 13)).trans (up_k hU49 (by exact Nat.ne_of_beq_eq_false rfl) 0 (T 107 0 13)))).trans (up_f hU45), ((up_k hU57 (by exact Nat.ne_of_beq_eq_false rfl) 0 (T 107 0 13)).trans (up_k hU53 (by exact Nat.ne_of_beq_eq_false rfl) 0 (T 107 0 13))).trans (up_f hU49), (up_k hU57 (by exact Nat.ne_of_beq_eq_false rfl) 0 (T 107 0 13)).trans (up_f hU53)]; omega
            · rw [(up_k hU57 (by exact Nat.ne_of_beq_eq_false rfl) 0 j).trans ((up_k hU53 (by exact Nat.ne_of_beq_eq_false rfl) 0 j).trans ((up_k hU49 (by exact Nat.ne_of_beq_eq_false rfl) 0 j).trans (up_g hU45 (by omega)))), (up_k hU57 (by exact Nat.ne_of_beq_eq_false rfl) 0 j).trans ((up_k hU53 (by exact Nat.ne_of_beq_eq_false rfl) 0 j).trans ((up_g hU49 (by omega)).trans (up_k hU45 (by exact Nat.ne_of_beq_eq_false rfl) 0 j))), (up_k hU57 (by exact Nat.ne_of_beq_eq_false rfl) 0 j).trans ((up_g hU53 (by omega)).trans ((up_k hU49 (by exact Nat.ne_of_beq_eq_false rfl) 0 j).trans (up_k hU45 (by exact Nat.ne_of_beq_eq_false rfl) 0 j)))]; exact hwq j a (by omega)
abbrev cX7_orderGroup : ByteArray := prog_9_method_8_code
def yX7_orderGroup : MethodName := ⟨RX7, "orderGroup", "(III)V"⟩
def zX7_orderGroup : Zm := (RX7, cX7_orderGroup, 8, none, { frames := 3, cells := 0, slots := 0, locals := 78 })
theorem bk_X7_orderGroup_83 : ck_ fX7 none cX7_orderGroup 83 [.iload 7, .iload 2, .if_icmp .gt 161, .iload 7, .iload 2, .if_icmp .eq 125, .aload 0, .tableswitch 0 7 9 #[], .aload 0, .tableswitch 0 7 7 #[], .iload 7, .iaload, .laload, .aload 0, .tableswitch 0 7 9 #[], .aload 0, .tableswitch 0 7 7 #[], .iload 7, .iconst 1, .isub, .iaload, .laload, .lcmp, .ifCond .eq 155, .aload 0, .iload 6, .iload 7, .iload 5] 132 = true := qck_r (nn_ _) (by decide +kernel)
theorem bs_X7_orderGroup_83 {P : Zt → Option Zv → Prop} (K : Int → Zl → List Zv → Zt → Prop) : sx_ K P [.iload 7, .iload 2, .if_icmp .gt 161, .iload 7, .iload 2, .if_icmp .eq 125, .aload 0, .tableswitch 0 7 9 #[], .aload 0, .tableswitch 0 7 7 #[], .iload 7, .iaload, .laload, .aload 0, .tableswitch 0 7 9 #[], .aload 0, .tableswitch 0 7 7 #[], .iload 7, .iconst 1, .isub, .iaload, .laload, .lcmp, .ifCond .eq 155, .aload 0, .iload 6, .iload 7, .iload 5] 132 = x_iload 7 (x_iload 2 (x_if_icmp .gt 161 K (x_iload 7 (x_iload 2 (x_if_icmp .eq 125 K (x_aload 0 (x_g1 107 549 (x_aload 0 (x_g1 107 547 (x_iload 7 (x_iaload (x_laload (x_aload 0 (x_g1 107 549 (x_aload 0 (x_g1 107 547 (x_iload 7 (x_iconst 1 (x_isub (x_iaload (x_laload (x_lcmp (x_ifCond .eq 155 K (x_aload 0 (x_iload 6 (x_iload 7 (x_iload 5 (K 132)))))))))))))))))))))))))))) := ((xe_iload 7).trans (congrArg (x_iload 7) ((xe_iload 2).trans (congrArg (x_iload 2) ((xe_if_icmp .gt 161).trans (congrArg (x_if_icmp .gt 161 K) ((xe_iload 7).trans (congrArg (x_iload 7) ((xe_iload 2).trans (congrArg (x_iload 2) ((xe_if_icmp .eq 125).trans (congrArg (x_if_icmp .eq 125 K) ((xe_aload 0).trans (congrArg (x_aload 0) ((xe_g1 (kk := 107) rfl tl_7_9).trans (congrArg (x_g1 107 549) ((xe_aload 0).trans (congrArg (x_aload 0) ((xe_g1 (kk := 107) rfl tl_7_7).trans (congrArg (x_g1 107 547) ((xe_iload 7).trans (congrArg (x_iload 7) ((xe_iaload).trans (congrArg (x_iaload) ((xe_laload).trans (congrArg (x_laload) ((xe_aload 0).trans (congrArg (x_aload 0) ((xe_g1 (kk := 107) rfl tl_7_9).trans (congrArg (x_g1 107 549) ((xe_aload 0).trans (congrArg (x_aload 0) ((xe_g1 (kk := 107) rfl tl_7_7).trans (congrArg (x_g1 107 547) ((xe_iload 7).trans (congrArg (x_iload 7) ((xe_iconst 1).trans (congrArg (x_iconst 1) ((xe_isub).trans (congrArg (x_isub) ((xe_iaload).trans (congrArg (x_iaload) ((xe_laload).trans (congrArg (x_laload) ((xe_lcmp).trans (congrArg (x_lcmp) ((xe_ifCond .eq 155).trans (congrArg (x_ifCond .eq 155 K) ((xe_aload 0).trans (congrArg (x_aload 0) ((xe_iload 6).trans (congrArg (x_iload 6) ((xe_iload 7).trans (congrArg (x_iload 7) ((xe_iload 5).trans (congrArg (x_iload 5) xe_nil))))))))))))))))))))))))))))))))))))))))))))))))))))))))
theorem bk_X7_orderGroup_161 : ck_ fX7 none cX7_orderGroup 161 [.return_] 162 = true := qck_r (nn_ _) (by decide +kernel)
theorem bs_X7_orderGroup_161 {P : Zt → Option Zv → Prop} (K : Int → Zl → List Zv → Zt → Prop) : sx_ K P [.return_] 162 = x_return_ P := (xe_return_)
theorem bk_X7_orderGroup_125 : ck_ fX7 none cX7_orderGroup 125 [.aload 0, .iload 6, .iload 7, .iload 5] 132 = true := qck_r (nn_ _) (by decide +kernel)
theorem bs_X7_orderGroup_125 {P : Zt → Option Zv → Prop} (K : Int → Zl → List Zv → Zt → Prop) : sx_ K P [.aload 0, .iload 6, .iload 7, .iload 5] 132 = x_aload 0 (x_iload 6 (x_iload 7 (x_iload 5 (K 132)))) := ((xe_aload 0).trans (congrArg (x_aload 0) ((xe_iload 6).trans (congrArg (x_iload 6) ((xe_iload 7).trans (congrArg (x_iload 7) ((xe_iload 5).trans (congrArg (x_iload 5) xe_nil))))))))
set_option maxRecDepth 100000 in
theorem cl_X7_143 : cv_ RX7 143 yX7_putWaiting zX7_putWaiting 7 3 := ⟨gi_V (lwq_5 (dqc_m (dqc_m (dqc_m (dqc_m (dqc_m (dqc_m (dqc_m (List.mem_of_getElem? (i := 4) rfl)))))))) rfl : Cond.methodLink RX7 143 yX7_putWaiting ∈ lw_g) (lwq_5 (dqc_m (dqc_m (dqc_m (dqc_m (dqc_m (dqc_m (dqc_m (List.mem_of_getElem? (i := 6) rfl)))))))) rfl : Cond.instanceMethod yX7_putWaiting ∈ lw_g) (lw_sel 132 rfl : Cond.selects yX7_putWaiting.cls yX7_putWaiting yX7_putWaiting ∈ lw_g) (lwq_1 (List.mem_of_getElem? (i := 5) rfl) rfl : Cond.initialized yX7_putWaiting.cls ∈ lw_g) (lwq_5 (dqc_m (dqc_m (dqc_m (dqc_m (dqc_m (dqc_m (dqc_m (List.mem_of_getElem? (i := 7) rfl)))))))) rfl : Cond.code yX7_putWaiting cX7_putWaiting 5 none ∈ lw_g), ⟨nmh_7.1, nmh_7.2, pdq_3⟩, ⟨_, _, rfl⟩⟩
theorem bk_X7_orderGroup_135 : ck_ fX7 none cX7_orderGroup 135 [.iload 7, .iload 2, .if_icmp .ge 151, .aload 0, .tableswitch 0 7 8 #[], .iload 7, .iconst 1, .isub, .iload 3, .iastore, .iload 7, .istore 6, .iinc 7 1, .goto 83] 161 = true := qck_r (nn_ _) (by decide +kernel)
theorem bs_X7_orderGroup_135 {P : Zt → Option Zv → Prop} (K : Int → Zl → List Zv → Zt → Prop) : sx_ K P [.iload 7, .iload 2, .if_icmp .ge 151, .aload 0, .tableswitch 0 7 8 #[], .iload 7, .iconst 1, .isub, .iload 3, .iastore, .iload 7, .istore 6, .iinc 7 1, .goto 83] 161 = x_iload 7 (x_iload 2 (x_if_icmp .ge 151 K (x_aload 0 (x_g1 107 548 (x_iload 7 (x_iconst 1 (x_isub (x_iload 3 (x_iastore (x_iload 7 (x_istore 6 (x_iinc 7 1 (x_goto 83 K))))))))))))) := ((xe_iload 7).trans (congrArg (x_iload 7) ((xe_iload 2).trans (congrArg (x_iload 2) ((xe_if_icmp .ge 151).trans (congrArg (x_if_icmp .ge 151 K) ((xe_aload 0).trans (congrArg (x_aload 0) ((xe_g1 (kk := 107) rfl tl_7_8).trans (congrArg (x_g1 107 548) ((xe_iload 7).trans (congrArg (x_iload 7) ((xe_iconst 1).trans (congrArg (x_iconst 1) ((xe_isub).trans (congrArg (x_isub) ((xe_iload 3).trans (congrArg (x_iload 3) ((xe_iastore).trans (congrArg (x_iastore) ((xe_iload 7).trans (congrArg (x_iload 7) ((xe_istore 6).trans (congrArg (x_istore 6) ((xe_iinc 7 1).trans (congrArg (x_iinc 7 1) (xe_goto 83)))))))))))))))))))))))))))
theorem bk_X7_orderGroup_151 : ck_ fX7 none cX7_orderGroup 151 [.iload 7, .istore 6, .iinc 7 1, .goto 83] 161 = true := qck_r (nn_ _) (by decide +kernel)
theorem bs_X7_orderGroup_151 {P : Zt → Option Zv → Prop} (K : Int → Zl → List Zv → Zt → Prop) : sx_ K P [.iload 7, .istore 6, .iinc 7 1, .goto 83] 161 = x_iload 7 (x_istore 6 (x_iinc 7 1 (x_goto 83 K))) := ((xe_iload 7).trans (congrArg (x_iload 7) ((xe_istore 6).trans (congrArg (x_istore 6) ((xe_iinc 7 1).trans (congrArg (x_iinc 7 1) (xe_goto 83)))))))
theorem bk_X7_orderGroup_155 : ck_ fX7 none cX7_orderGroup 155 [.iinc 7 1, .goto 83] 161 = true := qck_r (nn_ _) (by decide +kernel)
theorem bs_X7_orderGroup_155 {P : Zt → Option Zv → Prop} (K : Int → Zl → List Zv → Zt → Prop) : sx_ K P [.iinc 7 1, .goto 83] 161 = x_iinc 7 1 (x_goto 83 K) := ((xe_iinc 7 1).trans (congrArg (x_iinc 7 1) (xe_goto 83)))
theorem bk_X7_orderGroup_73 : ck_ fX7 none cX7_orderGroup 73 [.istore 5, .iload 1, .istore 6, .iload 1, .iconst 1, .iadd, .istore 7] 83 = true := qck_r (nn_ _) (by decide +kernel)
theorem bs_X7_orderGroup_73 {P : Zt → Option Zv → Prop} (K : Int → Zl → List Zv → Zt → Prop) : sx_ K P [.istore 5, .iload 1, .istore 6, .iload 1, .iconst 1, .iadd, .istore 7] 83 = x_istore 5 (x_iload 1 (x_istore 6 (x_iload 1 (x_iconst 1 (x_iadd (x_istore 7 (K 83))))))) := ((xe_istore 5).trans (congrArg (x_istore 5) ((xe_iload 1).trans (congrArg (x_iload 1) ((xe_istore 6).trans (congrArg (x_istore 6) ((xe_iload 1).trans (congrArg (x_iload 1) ((xe_iconst 1).trans (congrArg (x_iconst 1) ((xe_iadd).trans (congrArg (x_iadd) ((xe_istore 7).trans (congrArg (x_istore 7) xe_nil))))))))))))))
theorem bk_X7_orderGroup_0 : ck_ fX7 none cX7_orderGroup 0 [.aload 0, .iload 1, .iload 2, .iload 3] 4 = true := qck_r (nn_ _) (by decide +kernel)
theorem bs_X7_orderGroup_0 {P : Zt → Option Zv → Prop} (K : Int → Zl → List Zv → Zt → Prop) : sx_ K P [.aload 0, .iload 1, .iload 2, .iload 3] 4 = x_aload 0 (x_iload 1 (x_iload 2 (x_iload 3 (K 4)))) := ((xe_aload 0).trans (congrArg (x_aload 0) ((xe_iload 1).trans (congrArg (x_iload 1) ((xe_iload 2).trans (congrArg (x_iload 2) ((xe_iload 3).trans (congrArg (x_iload 3) xe_nil))))))))
set_option maxRecDepth 100000 in
theorem cl_X7_150 : cv_ RX7 150 yX7_weigh zX7_weigh 7 3 := ⟨gi_V (lwq_5 (dqc_m (dqc_m (dqc_m (dqc_m (dqc_m (dqc_m (dqc_m (dqa_m (List.mem_of_getElem? (i := 4) rfl))))))))) rfl : Cond.methodLink RX7 150 yX7_weigh ∈ lw_g) (lwq_5 (dqc_m (dqc_m (dqc_m (dqc_m (dqc_m (dqc_m (dqc_m (dqa_m (List.mem_of_getElem? (i := 6) rfl))))))))) rfl : Cond.instanceMethod yX7_weigh ∈ lw_g) (lw_sel 134 rfl : Cond.selects yX7_weigh.cls yX7_weigh yX7_weigh ∈ lw_g) (lwq_1 (List.mem_of_getElem? (i := 5) rfl) rfl : Cond.initialized yX7_weigh.cls ∈ lw_g) (lwq_5 (dqc_m (dqc_m (dqc_m (dqc_m (dqc_m (dqc_m (dqc_m (dqa_m (List.mem_of_getElem? (i := 7) rfl))))))))) rfl : Cond.code yX7_weigh cX7_weigh 6 none ∈ lw_g), ⟨nmh_7.1, nmh_7.2, pdq_3⟩, ⟨_, _, rfl⟩⟩
theorem bk_X7_orderGroup_7 : ck_ fX7 none cX7_orderGroup 7 [.aload 0, .iload 1, .iload 2] 10 = true := qck_r (nn_ _) (by decide +kernel)
theorem bs_X7_orderGroup_7 {P : Zt → Option Zv → Prop} (K : Int → Zl → List Zv → Zt → Prop) : sx_ K P [.aload 0, .iload 1, .iload 2] 10 = x_aload 0 (x_iload 1 (x_iload 2 (K 10))) := ((xe_aload 0).trans (congrArg (x_aload 0) ((xe_iload 1).trans (congrArg (x_iload 1) ((xe_iload 2).trans (congrArg (x_iload 2) xe_nil))))))
set_option maxRecDepth 100000 in
theorem cl_X7_153 : cv_ RX7 153 yX7_sort zX7_sort 7 2 := ⟨gi_V (lwq_6 (dqa_m (dqa_m (List.mem_of_getElem? (i := 0) rfl))) rfl : Cond.methodLink RX7 153 yX7_sort ∈ lw_g) (lwq_6 (dqa_m (dqa_m (List.mem_of_getElem? (i := 2) rfl))) rfl : Cond.instanceMethod yX7_sort ∈ lw_g) (lw_sel 133 rfl : Cond.selects yX7_sort.cls yX7_sort yX7_sort ∈ lw_g) (lwq_1 (List.mem_of_getElem? (i := 5) rfl) rfl : Cond.initialized yX7_sort.cls ∈ lw_g) (lwq_6 (dqa_m (dqa_m (List.mem_of_getElem? (i := 3) rfl))) rfl : Cond.code yX7_sort cX7_sort 6 none ∈ lw_g), ⟨nmh_7.1, nmh_7.2, pdq_0⟩, ⟨_, _, rfl⟩⟩
theorem bk_X7_orderGroup_13 : ck_ fX7 none cX7_orderGroup 13 [.aload 0, .tableswitch 0 7 9 #[], .aload 0, .tableswitch 0 7 7 #[], .iload 1, .iaload, .laload, .aload 0, .tableswitch 0 7 9 #[], .aload 0, .tableswitch 0 7 7 #[], .iload 2, .iconst 1, .isub, .iaload, .laload, .lcmp, .ifCond .ne 45, .iconst 1, .goto 46] 45 = true := qck_r (nn_ _) (by decide +kernel)
theorem bs_X7_orderGroup_13 {P : Zt → Option Zv → Prop} (K : Int → Zl → List Zv → Zt → Prop) : sx_ K P [.aload 0, .tableswitch 0 7 9 #[], .aload 0, .tableswitch 0 7 7 #[], .iload 1, .iaload, .laload, .aload 0, .tableswitch 0 7 9 #[], .aload 0, .tableswitch 0 7 7 #[], .iload 2, .iconst 1, .isub, .iaload, .laload, .lcmp, .ifCond .ne 45, .iconst 1, .goto 46] 45 = x_aload 0 (x_g1 107 549 (x_aload 0 (x_g1 107 547 (x_iload 1 (x_iaload (x_laload (x_aload 0 (x_g1 107 549 (x_aload 0 (x_g1 107 547 (x_iload 2 (x_iconst 1 (x_isub (x_iaload (x_laload (x_lcmp (x_ifCond .ne 45 K (x_iconst 1 (x_goto 46 K))))))))))))))))))) := ((xe_aload 0).trans (congrArg (x_aload 0) ((xe_g1 (kk := 107) rfl tl_7_9).trans (congrArg (x_g1 107 549) ((xe_aload 0).trans (congrArg (x_aload 0) ((xe_g1 (kk := 107) rfl tl_7_7).trans (congrArg (x_g1 107 547) ((xe_iload 1).trans (congrArg (x_iload 1) ((xe_iaload).trans (congrArg (x_iaload) ((xe_laload).trans (congrArg (x_laload) ((xe_aload 0).trans (congrArg (x_aload 0) ((xe_g1 (kk := 107) rfl tl_7_9).trans (congrArg (x_g1 107 549) ((xe_aload 0).trans (congrArg (x_aload 0) ((xe_g1 (kk := 107) rfl tl_7_7).trans (congrArg (x_g1 107 547) ((xe_iload 2).trans (congrArg (x_iload 2) ((xe_iconst 1).trans (congrArg (x_iconst 1) ((xe_isub).trans (congrArg (x_isub) ((xe_iaload).trans (congrArg (x_iaload) ((xe_laload).trans (congrArg (x_laload) ((xe_lcmp).trans (congrArg (x_lcmp) ((xe_ifCond .ne 45).trans (congrArg (x_ifCond .ne 45 K) ((xe_iconst 1).trans (congrArg (x_iconst 1) (xe_goto 46)))))))))))))))))))))))))))))))))))))))
theorem bk_X7_orderGroup_45 : ck_ fX7 none cX7_orderGroup 45 [.iconst 0, .istore 4, .iload 4, .ifCond .ne 70, .aload 0, .tableswitch 0 7 1 #[], .tableswitch 0 0 1 #[], .iconst 5, .iaload, .iconst 1, .if_icmp .ne 70, .iconst 0, .goto 73] 70 = true := qck_r (nn_ _) (by decide +kernel)
theorem bs_X7_orderGroup_45 {P : Zt → Option Zv → Prop} (K : Int → Zl → List Zv → Zt → Prop) : sx_ K P [.iconst 0, .istore 4, .iload 4, .ifCond .ne 70, .aload 0, .tableswitch 0 7 1 #[], .tableswitch 0 0 1 #[], .iconst 5, .iaload, .iconst 1, .if_icmp .ne 70, .iconst 0, .goto 73] 70 = x_iconst 0 (x_istore 4 (x_iload 4 (x_ifCond .ne 70 K (x_aload 0 (x_g5 107 100 1 (x_g2 100 401 (x_iconst 5 (x_iaload (x_iconst 1 (x_if_icmp .ne 70 K (x_iconst 0 (x_goto 73 K)))))))))))) := ((xe_iconst 0).trans (congrArg (x_iconst 0) ((xe_istore 4).trans (congrArg (x_istore 4) ((xe_iload 4).trans (congrArg (x_iload 4) ((xe_ifCond .ne 70).trans (congrArg (x_ifCond .ne 70 K) ((xe_aload 0).trans (congrArg (x_aload 0) ((xe_g5 (kk := 107) rfl tl_7_1).trans (congrArg (x_g5 107 100 1) ((xe_g2 (kk := 100) rfl tl_0_1).trans (congrArg (x_g2 100 401) ((xe_iconst 5).trans (congrArg (x_iconst 5) ((xe_iaload).trans (congrArg (x_iaload) ((xe_iconst 1).trans (congrArg (x_iconst 1) ((xe_if_icmp .ne 70).trans (congrArg (x_if_icmp .ne 70 K) ((xe_iconst 0).trans (congrArg (x_iconst 0) (xe_goto 73)))))))))))))))))))))))))
theorem bk_X7_orderGroup_70 : ck_ fX7 none cX7_orderGroup 70 [.iload 3, .iconst 1, .iadd] 73 = true := qck_r (nn_ _) (by decide +kernel)
theorem bs_X7_orderGroup_70 {P : Zt → Option Zv → Prop} (K : Int → Zl → List Zv → Zt → Prop) : sx_ K P [.iload 3, .iconst 1, .iadd] 73 = x_iload 3 (x_iconst 1 (x_iadd (K 73))) := ((xe_iload 3).trans (congrArg (x_iload 3) ((xe_iconst 1).trans (congrArg (x_iconst 1) ((xe_iadd).trans (congrArg (x_iadd) xe_nil))))))
theorem bk_X7_orderGroup_46 : ck_ fX7 none cX7_orderGroup 46 [.istore 4, .iload 4, .ifCond .ne 70, .aload 0, .tableswitch 0 7 1 #[], .tableswitch 0 0 1 #[], .iconst 5, .iaload, .iconst 1, .if_icmp .ne 70, .iconst 0, .goto 73] 70 = true := qck_r (nn_ _) (by decide +kernel)
theorem bs_X7_orderGroup_46 {P : Zt → Option Zv → Prop} (K : Int → Zl → List Zv → Zt → Prop) : sx_ K P [.istore 4, .iload 4, .ifCond .ne 70, .aload 0, .tableswitch 0 7 1 #[], .tableswitch 0 0 1 #[], .iconst 5, .iaload, .iconst 1, .if_icmp .ne 70, .iconst 0, .goto 73] 70 = x_istore 4 (x_iload 4 (x_ifCond .ne 70 K (x_aload 0 (x_g5 107 100 1 (x_g2 100 401 (x_iconst 5 (x_iaload (x_iconst 1 (x_if_icmp .ne 70 K (x_iconst 0 (x_goto 73 K))))))))))) := ((xe_istore 4).trans (congrArg (x_istore 4) ((xe_iload 4).trans (congrArg (x_iload 4) ((xe_ifCond .ne 70).trans (congrArg (x_ifCond .ne 70 K) ((xe_aload 0).trans (congrArg (x_aload 0) ((xe_g5 (kk := 107) rfl tl_7_1).trans (congrArg (x_g5 107 100 1) ((xe_g2 (kk := 100) rfl tl_0_1).trans (congrArg (x_g2 100 401) ((xe_iconst 5).trans (congrArg (x_iconst 5) ((xe_iaload).trans (congrArg (x_iaload) ((xe_iconst 1).trans (congrArg (x_iconst 1) ((xe_if_icmp .ne 70).trans (congrArg (x_if_icmp .ne 70 K) ((xe_iconst 0).trans (congrArg (x_iconst 0) (xe_goto 73)))))))))))))))))))))))
abbrev po_X7_orderGroup (T : Zt) (f t k : Int) : Zt → Option Zv → Prop := fun T' r => r = none ∧ fr_ [(550, []), (551, []), (552, []), (107, [13]), (549, []), (547, []), (548, [])] T T' ∧ (WQ_ T')
set_option maxHeartbeats 4000000 in
theorem ct_X7_orderGroup {T : Zt} {f t k : Int} (hct : T 107 0 1 ≠ 0) (hft : 0 ≤ f ∧ f + 2 ≤ t ∧ t ≤ 12) (hk : 0 ≤ k ∧ k ≤ 7) (hrk : T 401 (T 107 0 1 - 1) 4 ≤ 7) (hwq : WQ_ T) : Ct_ yX7_orderGroup zX7_orderGroup T [vR 107 0, vI f, vI t, vI k] (po_X7_orderGroup T f t k) := by
  refine ct_of pn_7 rfl rfl (Nat.le_of_ble_eq_true rfl) (fun hT hav => ?_)
  have hr_f : -2147483648 ≤ f ∧ f ≤ 2147483647 := hav (vI f) (List.mem_cons_of_mem _ List.mem_cons_self)
  have hr_t : -2147483648 ≤ t ∧ t ≤ 2147483647 := hav (vI t) (List.mem_cons_of_mem _ (List.mem_cons_of_mem _ List.mem_cons_self))
  have hr_k : -2147483648 ≤ k ∧ k ≤ 2147483647 := hav (vI k) (List.mem_cons_of_mem _ (List.mem_cons_of_mem _ (List.mem_cons_of_mem _ List.mem_cons_self)))
  have hz : zX7_orderGroup.2.2.2.1 = some .boolean → ∀ (T' : Zt) (x : Int), po_X7_orderGroup T f t k T' (some (vI x)) → 0 ≤ x ∧ x ≤ 1 := fun h => by cases h
  show J_ zX7_orderGroup T (po_X7_orderGroup T f t k) 0 0 0 [some (vR 107 0), some (vI f), some (vI t), some (vI k), none, none, none, none] [] T
  have c_83 : ∀ (nn : Nat) (nx : Int) (st : Int) (i : Int) (T1 : Zt), ((13 - i).toNat) ≤ nn → (fr_ [(550, []), (551, []), (552, []), (107, [13]), (549, []), (547, []), (548, [])] T T1) → (0 ≤ nx ∧ nx ≤ 8 ∧ f ≤ st ∧ st < i ∧ i ≤ t + 1) → (WQ_ T1) → J_ zX7_orderGroup T (po_X7_orderGroup T f t k) 0 0 83 [some (vR 107 0), some (vI f), some (vI t), some (vI k), none, some (vI nx), some (vI st), some (vI i)] [] T1 := by
    intro nn
    induction nn using Nat.strongRecOn with
    | _ nn ih_83 =>
      intro nx st i T1 hm_83 hf_83 i1 wq1
      replace hm_83 := fun (_ : Unit) => hm_83
      refine j_blx (F := fX7) tb_X7 (nn_ _) bk_X7_orderGroup_83 bs_X7_orderGroup_83 hz (fun K hK => ?_)
      refine And.intro (fun c1 => ?_) (fun c1 => ?_)
      · refine hK 161 _ [] T1 ?_
        refine j_blx (F := fX7) tb_X7 (nn_ _) bk_X7_orderGroup_161 bs_X7_orderGroup_161 hz (fun K hK => ?_)
        refine (show po_X7_orderGroup T f t k T1 (none) from ?_)
        exact ⟨rfl, fr_t (fr_0 _ _) (fr_s hf_83 rfl), wq1⟩
      · refine And.intro (fun c2 => ?_) (fun c2 => ?_)
        · refine hK 125 _ [] T1 ?_
          refine j_blx (F := fX7) tb_X7 (nn_ _) bk_X7_orderGroup_125 bs_X7_orderGroup_125 hz (fun K hK => ?_)
          refine hK 132 _ [vI nx, vI i, vI st, vR 107 0] T1 ?_
          have e3 : T1 107 0 1 = T 107 0 1 := hf_83 107 0 1 rfl
          have e4 : T1 107 0 1 = T 107 0 1 := hf_83 107 0 1 rfl
          have e5 : T1 107 0 1 = T 107 0 1 := hf_83 107 0 1 rfl
          have e6 : T1 401 (T 107 0 1 - 1) 4 = T 401 (T 107 0 1 - 1) 4 := hf_83 401 (T 107 0 1 - 1) 4 rfl
          have r7 : T1 401 (T1 107 0 1 - 1) 4 = T 401 (T 107 0 1 - 1) 4 := by rw [e5]; exact e6
          have e8 : T1 107 0 1 = T 107 0 1 := hf_83 107 0 1 rfl
          refine j_callV (y := yX7_putWaiting) (Yc := zX7_putWaiting) (rest := []) [vI st, vI i, vI nx] (ct_X7_putWaiting (T := T1) (by omega) (by omega) (by omega) (by omega) (by omega) (by exact wq1)) cl_X7_143 (qd_c (by decide +kernel)) (nn_ _) rfl (rf_of rfl) (Nat.le_of_ble_eq_true rfl) (Nat.le_of_ble_eq_true rfl) (Nat.le_of_ble_eq_true rfl) rfl ?_
          rintro U9 _ ⟨rfl, fU9, qU9⟩
          show J_ zX7_orderGroup T (po_X7_orderGroup T f t k) 0 0 135 _ [] U9
          refine j_blx (F := fX7) tb_X7 (nn_ _) bk_X7_orderGroup_135 bs_X7_orderGroup_135 hz (fun K hK => ?_)
          refine And.intro (fun c10 => ?_) (fun c10 => ?_)
          · refine hK 151 _ [] U9 ?_
            refine j_blx (F := fX7) tb_X7 (nn_ _) bk_X7_orderGroup_151 bs_X7_orderGroup_151 hz (fun K hK => ?_)
            refine rg_i (by omega) ?_
            refine hK 83 [some (vR 107 0), some (vI f), some (vI t), some (vI k), none, some (vI nx), some (vI i), some (vI (i + 1))] [] U9 ?_
            refine ih_83 _ ?_ nx i (i + 1) U9 (Nat.le_refl _) ?_ ?_ ?_
            · have hm_83 := hm_83 (); omega
            · exact fr_t (fr_t (fr_0 _ _) (fr_s hf_83 rfl)) (fr_s fU9 rfl)
            · omega
            · exact qU9
          · refine rg_i (by omega) ?_
            refine iy_i (by omega) (by omega) ?_
            refine x_nm (fun U11 hU11 => ?_)
            have e12 := up_f hU11
            refine rg_i (by omega) ?_
            refine hK 83 _ [] U11 ?_
            refine ih_83 _ ?_ nx i (i + 1) U11 (Nat.le_refl _) ?_ ?_ ?_
            · have hm_83 := hm_83 (); omega
            · exact fr_u (fr_t (fr_t (fr_0 _ _) (fr_s hf_83 rfl)) (fr_s fU9 rfl)) hU11 rfl
            · omega
            · exact WQ__f (ws := [(548, [])]) qU9 (fr_u (fr_0 _ _) hU11 rfl) ⟨fun _ => rfl, fun _ => rfl, fun _ => rfl, rfl, trivial⟩
        · refine ix_i (by omega) ?_
          intro b13 b13b
          refine ix_i (by omega) ?_
          intro b14 b14b
          refine rg_i (by omega) ?_
          refine ix_i (by omega) ?_
          intro b15 b15b
          refine ix_i (by omega) ?_
          intro b16 b16b
          refine And.intro (fun c17 => ?_) (And.intro (fun c17 => ?_) (fun c17 => ?_))
          · refine And.intro (fun c18 => ?_) (fun c18 => ?_)
            · exact absurd c18 (by decide)
            · refine hK 132 _ [vI nx, vI i, vI st, vR 107 0] T1 ?_
              have e19 : T1 107 0 1 = T 107 0 1 := hf_83 107 0 1 rfl
              have e20 : T1 107 0 1 = T 107 0 1 := hf_83 107 0 1 rfl
              have e21 : T1 107 0 1 = T 107 0 1 := hf_83 107 0 1 rfl
              have e22 : T1 401 (T 107 0 1 - 1) 4 = T 401 (T 107 0 1 - 1) 4 := hf_83 401 (T 107 0 1 - 1) 4 rfl
              have r23 : T1 401 (T1 107 0 1 - 1) 4 = T 401 (T 107 0 1 - 1) 4 := by rw [e21]; exact e22
              have e24 : T1 107 0 1 = T 107 0 1 := hf_83 107 0 1 rfl
              refine j_callV (y := yX7_putWaiting) (Yc := zX7_putWaiting) (rest := []) [vI st, vI i, vI nx] (ct_X7_putWaiting (T := T1) (by omega) (by omega) (by omega) (by omega) (by omega) (by exact wq1)) cl_X7_143 (qd_c (by decide +kernel)) (nn_ _) rfl (rf_of rfl) (Nat.le_of_ble_eq_true rfl) (Nat.le_of_ble_eq_true rfl) (Nat.le_of_ble_eq_true rfl) rfl ?_
              rintro U25 _ ⟨rfl, fU25, qU25⟩
              show J_ zX7_orderGroup T (po_X7_orderGroup T f t k) 0 0 135 _ [] U25
              refine j_blx (F := fX7) tb_X7 (nn_ _) bk_X7_orderGroup_135 bs_X7_orderGroup_135 hz (fun K hK => ?_)
              refine And.intro (fun c26 => ?_) (fun c26 => ?_)
              · refine hK 151 _ [] U25 ?_
                refine j_blx (F := fX7) tb_X7 (nn_ _) bk_X7_orderGroup_151 bs_X7_orderGroup_151 hz (fun K hK => ?_)
                refine rg_i (by omega) ?_
                refine hK 83 [some (vR 107 0), some (vI f), some (vI t), some (vI k), none, some (vI nx), some (vI i), some (vI (i + 1))] [] U25 ?_
                refine ih_83 _ ?_ nx i (i + 1) U25 (Nat.le_refl _) ?_ ?_ ?_
                · have hm_83 := hm_83 (); omega
                · exact fr_t (fr_t (fr_0 _ _) (fr_s hf_83 rfl)) (fr_s fU25 rfl)
                · omega
                · exact qU25
              · refine rg_i (by omega) ?_
                refine iy_i (by omega) (by omega) ?_
                refine x_nm (fun U27 hU27 => ?_)
                have e28 := up_f hU27
                refine rg_i (by omega) ?_
                refine hK 83 _ [] U27 ?_
                refine ih_83 _ ?_ nx i (i + 1) U27 (Nat.le_refl _) ?_ ?_ ?_
                · have hm_83 := hm_83 (); omega
                · exact fr_u (fr_t (fr_t (fr_0 _ _) (fr_s hf_83 rfl)) (fr_s fU25 rfl)) hU27 rfl
                · omega
                · exact WQ__f (ws := [(548, [])]) qU25 (fr_u (fr_0 _ _) hU27 rfl) ⟨fun _ => rfl, fun _ => rfl, fun _ => rfl, rfl, trivial⟩
          · refine And.intro (fun c29 => ?_) (fun c29 => ?_)
            · refine hK 155 _ [] T1 ?_
              refine j_blx (F := fX7) tb_X7 (nn_ _) bk_X7_orderGroup_155 bs_X7_orderGroup_155 hz (fun K hK => ?_)
              refine rg_i (by omega) ?_
              refine hK 83 [some (vR 107 0), some (vI f), some (vI t), some (vI k), none, some (vI nx), some (vI st), some (vI (i + 1))] [] T1 ?_
              refine ih_83 _ ?_ nx st (i + 1) T1 (Nat.le_refl _) ?_ ?_ ?_
              · have hm_83 := hm_83 (); omega
              · exact fr_t (fr_0 _ _) (fr_s hf_83 rfl)
              · omega
              · exact wq1
            · exact absurd c29 (by decide)
          · refine And.intro (fun c30 => ?_) (fun c30 => ?_)
            · exact absurd c30 (by decide)
            · refine hK 132 _ [vI nx, vI i, vI st, vR 107 0] T1 ?_
              have e31 : T1 107 0 1 = T 107 0 1 := hf_83 107 0 1 rfl
              have e32 : T1 107 0 1 = T 107 0 1 := hf_83 107 0 1 rfl
              have e33 : T1 107 0 1 = T 107 0 1 := hf_83 107 0 1 rfl
              have e34 : T1 401 (T 107 0 1 - 1) 4 = T 401 (T 107 0 1 - 1) 4 := hf_83 401 (T 107 0 1 - 1) 4 rfl
              have r35 : T1 401 (T1 107 0 1 - 1) 4 = T 401 (T 107 0 1 - 1) 4 := by rw [e33]; exact e34
              have e36 : T1 107 0 1 = T 107 0 1 := hf_83 107 0 1 rfl
              refine j_callV (y := yX7_putWaiting) (Yc := zX7_putWaiting) (rest := []) [vI st, vI i, vI nx] (ct_X7_putWaiting (T := T1) (by omega) (by omega) (by omega) (by omega) (by omega) (by exact wq1)) cl_X7_143 (qd_c (by decide +kernel)) (nn_ _) rfl (rf_of rfl) (Nat.le_of_ble_eq_true rfl) (Nat.le_of_ble_eq_true rfl) (Nat.le_of_ble_eq_true rfl) rfl ?_
              rintro U37 _ ⟨rfl, fU37, qU37⟩
              show J_ zX7_orderGroup T (po_X7_orderGroup T f t k) 0 0 135 _ [] U37
              refine j_blx (F := fX7) tb_X7 (nn_ _) bk_X7_orderGroup_135 bs_X7_orderGroup_135 hz (fun K hK => ?_)
              refine And.intro (fun c38 => ?_) (fun c38 => ?_)
              · refine hK 151 _ [] U37 ?_
                refine j_blx (F := fX7) tb_X7 (nn_ _) bk_X7_orderGroup_151 bs_X7_orderGroup_151 hz (fun K hK => ?_)
                refine rg_i (by omega) ?_
                refine hK 83 [some (vR 107 0), some (vI f), some (vI t), some (vI k), none, some (vI nx), some (vI i), some (vI (i + 1))] [] U37 ?_
                refine ih_83 _ ?_ nx i (i + 1) U37 (Nat.le_refl _) ?_ ?_ ?_
                · have hm_83 := hm_83 (); omega
                · exact fr_t (fr_t (fr_0 _ _) (fr_s hf_83 rfl)) (fr_s fU37 rfl)
                · omega
                · exact qU37
              · refine rg_i (by omega) ?_
                refine iy_i (by omega) (by omega) ?_
                refine x_nm (fun U39 hU39 => ?_)
                have e40 := up_f hU39
                refine rg_i (by omega) ?_
                refine hK 83 _ [] U39 ?_
                refine ih_83 _ ?_ nx i (i + 1) U39 (Nat.le_refl _) ?_ ?_ ?_
                · have hm_83 := hm_83 (); omega
                · exact fr_u (fr_t (fr_t (fr_0 _ _) (fr_s hf_83 rfl)) (fr_s fU37 rfl)) hU39 rfl
                · omega
                · exact WQ__f (ws := [(548, [])]) qU37 (fr_u (fr_0 _ _) hU39 rfl) ⟨fun _ => rfl, fun _ => rfl, fun _ => rfl, rfl, trivial⟩
  have c_73 : ∀ (v : Int) (T2 : Zt), (fr_ [(550, []), (551, []), (552, []), (107, [13]), (549, []), (547, []), (548, [])] T T2) → (0 ≤ v ∧ v ≤ 8) → (WQ_ T2) → J_ zX7_orderGroup T (po_X7_orderGroup T f t k) 0 0 73 [some (vR 107 0), some (vI f), some (vI t), some (vI k), none, none, none, none] [vI v] T2 := by
    intro v T2 hf_73 v1 wq2
    refine j_blx (F := fX7) tb_X7 (nn_ _) bk_X7_orderGroup_73 bs_X7_orderGroup_73 hz (fun K hK => ?_)
    refine rg_i (by omega) ?_
    refine hK 83 [some (vR 107 0), some (vI f), some (vI t), some (vI k), none, some (vI v), some (vI f), some (vI (f + 1))] [] T2 ?_
    refine c_83 _ v f (f + 1) T2 (Nat.le_refl _) ?_ ?_ ?_
    · exact fr_t (fr_0 _ _) (fr_s hf_73 rfl)
    · omega
    · exact wq2
  refine j_blx (F := fX7) tb_X7 (nn_ _) bk_X7_orderGroup_0 bs_X7_orderGroup_0 hz (fun K hK => ?_)
  refine hK 4 _ [vI k, vI t, vI f, vR 107 0] T ?_
  refine j_callV (y := yX7_weigh) (Yc := zX7_weigh) (rest := []) [vI f, vI t, vI k] (ct_X7_weigh (T := T) (by omega) (by omega) (by omega)) cl_X7_150 (qd_c (by decide +kernel)) (nn_ _) rfl (rf_of rfl) (Nat.le_of_ble_eq_true rfl) (Nat.le_of_ble_eq_true rfl) (Nat.le_of_ble_eq_true rfl) rfl ?_
  rintro U41 _ ⟨rfl, fU41, qU41⟩
  show J_ zX7_orderGroup T (po_X7_orderGroup T f t k) 0 0 7 _ [] U41
  refine j_blx (F := fX7) tb_X7 (nn_ _) bk_X7_orderGroup_7 bs_X7_orderGroup_7 hz (fun K hK => ?_)
  refine hK 10 _ [vI t, vI f, vR 107 0] U41 ?_
  refine j_callV (y := yX7_sort) (Yc := zX7_sort) (rest := []) [vI f, vI t] (ct_X7_sort (T := U41) (by omega)) cl_X7_153 (qd_c (by decide +kernel)) (nn_ _) rfl (rf_of rfl) (Nat.le_of_ble_eq_true rfl) (Nat.le_of_ble_eq_true rfl) (Nat.le_of_ble_eq_true rfl) rfl ?_
  rintro U42 _ ⟨rfl, fU42, _⟩
  show J_ zX7_orderGroup T (po_X7_orderGroup T f t k) 0 0 13 _ [] U42
  refine j_blx (F := fX7) tb_X7 (nn_ _) bk_X7_orderGroup_13 bs_X7_orderGroup_13 hz (fun K hK => ?_)
  refine ix_i (by omega) ?_
  intro b43 b43b
  refine ix_i (by omega) ?_
  intro b44 b44b
  have e45 : U42 549 0 (U42 547 0 f) = U41 549 0 (U42 547 0 f) := fU42 549 0 (U42 547 0 f) rfl
  rw [e45] at b44 b44b ⊢
  refine rg_i (by omega) ?_
  refine ix_i (by omega) ?_
  intro b46 b46b
  refine ix_i (by omega) ?_
  intro b47 b47b
  have e48 : U42 549 0 (U42 547 0 (t - 1)) = U41 549 0 (U42 547 0 (t - 1)) := fU42 549 0 (U42 547 0 (t - 1)) rfl
  rw [e48] at b47 b47b ⊢
  refine And.intro (fun c49 => ?_) (And.intro (fun c49 => ?_) (fun c49 => ?_))
  · refine And.intro (fun c50 => ?_) (fun c50 => ?_)
    · refine hK 45 _ [] U42 ?_
      refine j_blx (F := fX7) tb_X7 (nn_ _) bk_X7_orderGroup_45 bs_X7_orderGroup_45 hz (fun K hK => ?_)
      refine And.intro (fun c51 => ?_) (fun c51 => ?_)
      · exact absurd c51 (by decide)
      · have e53 : U42 107 0 1 = T 107 0 1 := (fU42 107 0 1 rfl).trans (fU41 107 0 1 rfl)
        refine And.intro (fun c52 => ?_) (fun c52 => ?_)
        · exact absurd c52 (by omega)
        · refine ix_i (by omega) ?_
          intro b54 b54b
          have e55 : U42 401 (T 107 0 1 - 1) 5 = T 401 (T 107 0 1 - 1) 5 := (fU42 401 (T 107 0 1 - 1) 5 rfl).trans (fU41 401 (T 107 0 1 - 1) 5 rfl)
          have e56 : U42 401 (U42 107 0 1 - 1) 5 = T 401 (T 107 0 1 - 1) 5 := by rw [e53]; exact e55
          rw [e56] at b54 b54b ⊢
          refine And.intro (fun c57 => ?_) (fun c57 => ?_)
          · refine hK 70 [some (vR 107 0), some (vI f), some (vI t), some (vI k), some (vI 0), none, none, none] [] U42 ?_
            refine j_blx (F := fX7) tb_X7 (nn_ _) bk_X7_orderGroup_70 bs_X7_orderGroup_70 hz (fun K hK => ?_)
            refine rg_i (by omega) ?_
            refine hK 73 _ [vI (k + 1)] U42 ?_
            refine j_drq [some (vR 107 0), some (vI f), some (vI t), some (vI k), none, none, none, none] (drq_s (drq_s (drq_s (drq_s (drq_n (drq_n (drq_n (drq_n drq_0)))))))) ?_
            refine c_73 (k + 1) U42 ?_ ?_ ?_
            · exact fr_t (fr_t (fr_0 _ _) (fr_s fU41 rfl)) (fr_s fU42 rfl)
            · omega
            · exact WQ__f (ws := [(547, []), (549, [])]) hwq (fr_t (fr_t (fr_0 _ _) (fr_s fU41 rfl)) (fr_s fU42 rfl)) ⟨fun _ => rfl, fun _ => rfl, fun _ => rfl, rfl, trivial⟩
          · refine hK 73 [some (vR 107 0), some (vI f), some (vI t), some (vI k), some (vI 0), none, none, none] [vI 0] U42 ?_
            refine j_drq [some (vR 107 0), some (vI f), some (vI t), some (vI k), none, none, none, none] (drq_s (drq_s (drq_s (drq_s (drq_n (drq_n (drq_n (drq_n drq_0)))))))) ?_
            refine c_73 0 U42 ?_ ?_ ?_
            · exact fr_t (fr_t (fr_0 _ _) (fr_s fU41 rfl)) (fr_s fU42 rfl)
            · omega
            · exact WQ__f (ws := [(547, []), (549, [])]) hwq (fr_t (fr_t (fr_0 _ _) (fr_s fU41 rfl)) (fr_s fU42 rfl)) ⟨fun _ => rfl, fun _ => rfl, fun _ => rfl, rfl, trivial⟩
    · exact absurd c50 (by decide)
  · refine And.intro (fun c58 => ?_) (fun c58 => ?_)
    · exact absurd c58 (by decide)
    · refine hK 46 _ [vI 1] U42 ?_
      refine j_blx (F := fX7) tb_X7 (nn_ _) bk_X7_orderGroup_46 bs_X7_orderGroup_46 hz (fun K hK => ?_)
      refine And.intro (fun c59 => ?_) (fun c59 => ?_)
      · refine hK 70 [some (vR 107 0), some (vI f), some (vI t), some (vI k), some (vI 1), none, none, none] [] U42 ?_
        refine j_blx (F := fX7) tb_X7 (nn_ _) bk_X7_orderGroup_70 bs_X7_orderGroup_70 hz (fun K hK => ?_)
        refine rg_i (by omega) ?_
        refine hK 73 _ [vI (k + 1)] U42 ?_
        refine j_drq [some (vR 107 0), some (vI f), some (vI t), some (vI k), none, none, none, none] (drq_s (drq_s (drq_s (drq_s (drq_n (drq_n (drq_n (drq_n drq_0)))))))) ?_
        refine c_73 (k + 1) U42 ?_ ?_ ?_
        · exact fr_t (fr_t (fr_0 _ _) (fr_s fU41 rfl)) (fr_s fU42 rfl)
        · omega
        · exact WQ__f (ws := [(547, []), (549, [])]) hwq (fr_t (fr_t (fr_0 _ _) (fr_s fU41 rfl)) (fr_s fU42 rfl)) ⟨fun _ => rfl, fun _ => rfl, fun _ => rfl, rfl, trivial⟩
      · exact absurd c59 (by decide)
  · refine And.intro (fun c60 => ?_) (fun c60 => ?_)
    · refine hK 45 _ [] U42 ?_
      refine j_blx (F := fX7) tb_X7 (nn_ _) bk_X7_orderGroup_45 bs_X7_orderGroup_45 hz (fun K hK => ?_)
      refine And.intro (fun c61 => ?_) (fun c61 => ?_)
      · exact absurd c61 (by decide)
      · have e63 : U42 107 0 1 = T 107 0 1 := (fU42 107 0 1 rfl).trans (fU41 107 0 1 rfl)
        refine And.intro (fun c62 => ?_) (fun c62 => ?_)
        · exact absurd c62 (by omega)
        · refine ix_i (by omega) ?_
          intro b64 b64b
          have e65 : U42 401 (T 107 0 1 - 1) 5 = T 401 (T 107 0 1 - 1) 5 := (fU42 401 (T 107 0 1 - 1) 5 rfl).trans (fU41 401 (T 107 0 1 - 1) 5 rfl)
          have e66 : U42 401 (U42 107 0 1 - 1) 5 = T 401 (T 107 0 1 - 1) 5 := by rw [e63]; exact e65
          rw [e66] at b64 b64b ⊢
          refine And.intro (fun c67 => ?_) (fun c67 => ?_)
          · refine hK 70 [some (vR 107 0), some (vI f), some (vI t), some (vI k), some (vI 0), none, none, none] [] U42 ?_
            refine j_blx (F := fX7) tb_X7 (nn_ _) bk_X7_orderGroup_70 bs_X7_orderGroup_70 hz (fun K hK => ?_)
            refine rg_i (by omega) ?_
            refine hK 73 _ [vI (k + 1)] U42 ?_
            refine j_drq [some (vR 107 0), some (vI f), some (vI t), some (vI k), none, none, none, none] (drq_s (drq_s (drq_s (drq_s (drq_n (drq_n (drq_n (drq_n drq_0)))))))) ?_
            refine c_73 (k + 1) U42 ?_ ?_ ?_
            · exact fr_t (fr_t (fr_0 _ _) (fr_s fU41 rfl)) (fr_s fU42 rfl)
            · omega
            · exact WQ__f (ws := [(547, []), (549, [])]) hwq (fr_t (fr_t (fr_0 _ _) (fr_s fU41 rfl)) (fr_s fU42 rfl)) ⟨fun _ => rfl, fun _ => rfl, fun _ => rfl, rfl, trivial⟩
          · refine hK 73 [some (vR 107 0), some (vI f), some (vI t), some (vI k), some (vI 0), none, none, none] [vI 0] U42 ?_
            refine j_drq [some (vR 107 0), some (vI f), some (vI t), some (vI k), none, none, none, none] (drq_s (drq_s (drq_s (drq_s (drq_n (drq_n (drq_n (drq_n drq_0)))))))) ?_
            refine c_73 0 U42 ?_ ?_ ?_
            · exact fr_t (fr_t (fr_0 _ _) (fr_s fU41 rfl)) (fr_s fU42 rfl)
            · omega
            · exact WQ__f (ws := [(547, []), (549, [])]) hwq (fr_t (fr_t (fr_0 _ _) (fr_s fU41 rfl)) (fr_s fU42 rfl)) ⟨fun _ => rfl, fun _ => rfl, fun _ => rfl, rfl, trivial⟩
    · exact absurd c60 (by decide)
abbrev cX7_rank : ByteArray := prog_9_method_6_code
def yX7_rank : MethodName := ⟨RX7, "rank", "()V"⟩
def zX7_rank : Zm := (RX7, cX7_rank, 3, none, { frames := 4, cells := 0, slots := 0, locals := 105 })
theorem bk_X7_rank_144 : ck_ fX7 none cX7_rank 144 [.aload 0, .tableswitch 0 7 2 #[], .aload 0, .tableswitch 0 7 7 #[], .iload 2, .iaload, .iconst 8, .imul, .iconst 7, .iadd, .iload 1, .iastore, .iinc 2 1, .goto 113] 168 = true := qck_r (nn_ _) (by decide +kernel)
theorem bs_X7_rank_144 {P : Zt → Option Zv → Prop} (K : Int → Zl → List Zv → Zt → Prop) : sx_ K P [.aload 0, .tableswitch 0 7 2 #[], .aload 0, .tableswitch 0 7 7 #[], .iload 2, .iaload, .iconst 8, .imul, .iconst 7, .iadd, .iload 1, .iastore, .iinc 2 1, .goto 113] 168 = x_aload 0 (x_g1 107 542 (x_aload 0 (x_g1 107 547 (x_iload 2 (x_iaload (x_iconst 8 (x_imul (x_iconst 7 (x_iadd (x_iload 1 (x_iastore (x_iinc 2 1 (x_goto 113 K))))))))))))) := ((xe_aload 0).trans (congrArg (x_aload 0) ((xe_g1 (kk := 107) rfl tl_7_2).trans (congrArg (x_g1 107 542) ((xe_aload 0).trans (congrArg (x_aload 0) ((xe_g1 (kk := 107) rfl tl_7_7).trans (congrArg (x_g1 107 547) ((xe_iload 2).trans (congrArg (x_iload 2) ((xe_iaload).trans (congrArg (x_iaload) ((xe_iconst 8).trans (congrArg (x_iconst 8) ((xe_imul).trans (congrArg (x_imul) ((xe_iconst 7).trans (congrArg (x_iconst 7) ((xe_iadd).trans (congrArg (x_iadd) ((xe_iload 1).trans (congrArg (x_iload 1) ((xe_iastore).trans (congrArg (x_iastore) ((xe_iinc 2 1).trans (congrArg (x_iinc 2 1) (xe_goto 113)))))))))))))))))))))))))))
theorem bk_X7_rank_113 : ck_ fX7 none cX7_rank 113 [.iload 2, .aload 0, .tableswitch 0 7 1 #[], .tableswitch 0 0 5 #[], .if_icmp .ge 168, .iload 2, .ifCond .le 144, .aload 0, .tableswitch 0 7 8 #[], .iload 2, .iconst 1, .isub, .iaload, .iconst (-1), .if_icmp .eq 144, .iload 2, .iconst 1, .iadd, .istore 1] 144 = true := qck_r (nn_ _) (by decide +kernel)
theorem bs_X7_rank_113 {P : Zt → Option Zv → Prop} (K : Int → Zl → List Zv → Zt → Prop) : sx_ K P [.iload 2, .aload 0, .tableswitch 0 7 1 #[], .tableswitch 0 0 5 #[], .if_icmp .ge 168, .iload 2, .ifCond .le 144, .aload 0, .tableswitch 0 7 8 #[], .iload 2, .iconst 1, .isub, .iaload, .iconst (-1), .if_icmp .eq 144, .iload 2, .iconst 1, .iadd, .istore 1] 144 = x_iload 2 (x_aload 0 (x_g5 107 100 1 (x_g0 100 5 0 12 (x_if_icmp .ge 168 K (x_iload 2 (x_ifCond .le 144 K (x_aload 0 (x_g1 107 548 (x_iload 2 (x_iconst 1 (x_isub (x_iaload (x_iconst (-1) (x_if_icmp .eq 144 K (x_iload 2 (x_iconst 1 (x_iadd (x_istore 1 (K 144))))))))))))))))))) := ((xe_iload 2).trans (congrArg (x_iload 2) ((xe_aload 0).trans (congrArg (x_aload 0) ((xe_g5 (kk := 107) rfl tl_7_1).trans (congrArg (x_g5 107 100 1) ((xe_g0 (kk := 100) rfl tl_0_5).trans (congrArg (x_g0 100 5 0 12) ((xe_if_icmp .ge 168).trans (congrArg (x_if_icmp .ge 168 K) ((xe_iload 2).trans (congrArg (x_iload 2) ((xe_ifCond .le 144).trans (congrArg (x_ifCond .le 144 K) ((xe_aload 0).trans (congrArg (x_aload 0) ((xe_g1 (kk := 107) rfl tl_7_8).trans (congrArg (x_g1 107 548) ((xe_iload 2).trans (congrArg (x_iload 2) ((xe_iconst 1).trans (congrArg (x_iconst 1) ((xe_isub).trans (congrArg (x_isub) ((xe_iaload).trans (congrArg (x_iaload) ((xe_iconst (-1)).trans (congrArg (x_iconst (-1)) ((xe_if_icmp .eq 144).trans (congrArg (x_if_icmp .eq 144 K) ((xe_iload 2).trans (congrArg (x_iload 2) ((xe_iconst 1).trans (congrArg (x_iconst 1) ((xe_iadd).trans (congrArg (x_iadd) ((xe_istore 1).trans (congrArg (x_istore 1) xe_nil))))))))))))))))))))))))))))))))))))))
theorem bk_X7_rank_168 : ck_ fX7 none cX7_rank 168 [.return_] 169 = true := qck_r (nn_ _) (by decide +kernel)
theorem bs_X7_rank_168 {P : Zt → Option Zv → Prop} (K : Int → Zl → List Zv → Zt → Prop) : sx_ K P [.return_] 169 = x_return_ P := (xe_return_)
theorem bk_X7_rank_48 : ck_ fX7 none cX7_rank 48 [.aload 0, .tableswitch 0 7 13 #[], .ifCond .le 109, .iload 1, .iconst 1000, .if_icmp .ge 109, .aload 0, .dup, .tableswitch 0 7 13 #[], .iconst 1, .isub, .tableswitch 1 7 13 #[], .aload 0, .aload 0, .tableswitch 0 7 10 #[], .aload 0, .tableswitch 0 7 13 #[], .iaload, .aload 0, .tableswitch 0 7 11 #[], .aload 0, .tableswitch 0 7 13 #[], .iaload, .aload 0, .tableswitch 0 7 12 #[], .aload 0, .tableswitch 0 7 13 #[], .iaload] 100 = true := qck_r (nn_ _) (by decide +kernel)
theorem bs_X7_rank_48 {P : Zt → Option Zv → Prop} (K : Int → Zl → List Zv → Zt → Prop) : sx_ K P [.aload 0, .tableswitch 0 7 13 #[], .ifCond .le 109, .iload 1, .iconst 1000, .if_icmp .ge 109, .aload 0, .dup, .tableswitch 0 7 13 #[], .iconst 1, .isub, .tableswitch 1 7 13 #[], .aload 0, .aload 0, .tableswitch 0 7 10 #[], .aload 0, .tableswitch 0 7 13 #[], .iaload, .aload 0, .tableswitch 0 7 11 #[], .aload 0, .tableswitch 0 7 13 #[], .iaload, .aload 0, .tableswitch 0 7 12 #[], .aload 0, .tableswitch 0 7 13 #[], .iaload] 100 = x_aload 0 (x_g0 107 13 0 16 (x_ifCond .le 109 K (x_iload 1 (x_iconst 1000 (x_if_icmp .ge 109 K (x_aload 0 (x_dup (x_g0 107 13 0 16 (x_iconst 1 (x_isub (x_p 107 13 0 16 (x_aload 0 (x_aload 0 (x_g1 107 550 (x_aload 0 (x_g0 107 13 0 16 (x_iaload (x_aload 0 (x_g1 107 551 (x_aload 0 (x_g0 107 13 0 16 (x_iaload (x_aload 0 (x_g1 107 552 (x_aload 0 (x_g0 107 13 0 16 (x_iaload (K 100)))))))))))))))))))))))))))) := ((xe_aload 0).trans (congrArg (x_aload 0) ((xe_g0 (kk := 107) rfl tl_7_13).trans (congrArg (x_g0 107 13 0 16) ((xe_ifCond .le 109).trans (congrArg (x_ifCond .le 109 K) ((xe_iload 1).trans (congrArg (x_iload 1) ((xe_iconst 1000).trans (congrArg (x_iconst 1000) ((xe_if_icmp .ge 109).trans (congrArg (x_if_icmp .ge 109 K) ((xe_aload 0).trans (congrArg (x_aload 0) ((xe_dup).trans (congrArg (x_dup) ((xe_g0 (kk := 107) rfl tl_7_13).trans (congrArg (x_g0 107 13 0 16) ((xe_iconst 1).trans (congrArg (x_iconst 1) ((xe_isub).trans (congrArg (x_isub) ((xe_p (kk := 107) rfl tl_7_13).trans (congrArg (x_p 107 13 0 16) ((xe_aload 0).trans (congrArg (x_aload 0) ((xe_aload 0).trans (congrArg (x_aload 0) ((xe_g1 (kk := 107) rfl tl_7_10).trans (congrArg (x_g1 107 550) ((xe_aload 0).trans (congrArg (x_aload 0) ((xe_g0 (kk := 107) rfl tl_7_13).trans (congrArg (x_g0 107 13 0 16) ((xe_iaload).trans (congrArg (x_iaload) ((xe_aload 0).trans (congrArg (x_aload 0) ((xe_g1 (kk := 107) rfl tl_7_11).trans (congrArg (x_g1 107 551) ((xe_aload 0).trans (congrArg (x_aload 0) ((xe_g0 (kk := 107) rfl tl_7_13).trans (congrArg (x_g0 107 13 0 16) ((xe_iaload).trans (congrArg (x_iaload) ((xe_aload 0).trans (congrArg (x_aload 0) ((xe_g1 (kk := 107) rfl tl_7_12).trans (congrArg (x_g1 107 552) ((xe_aload 0).trans (congrArg (x_aload 0) ((xe_g0 (kk := 107) rfl tl_7_13).trans (congrArg (x_g0 107 13 0 16) ((xe_iaload).trans (congrArg (x_iaload) xe_nil))))))))))))))))))))))))))))))))))))))))))))))))))))))))
theorem bk_X7_rank_109 : ck_ fX7 none cX7_rank 109 [.iconst 1, .istore 1, .iconst 0, .istore 2] 113 = true := qck_r (nn_ _) (by decide +kernel)
theorem bs_X7_rank_109 {P : Zt → Option Zv → Prop} (K : Int → Zl → List Zv → Zt → Prop) : sx_ K P [.iconst 1, .istore 1, .iconst 0, .istore 2] 113 = x_iconst 1 (x_istore 1 (x_iconst 0 (x_istore 2 (K 113)))) := ((xe_iconst 1).trans (congrArg (x_iconst 1) ((xe_istore 1).trans (congrArg (x_istore 1) ((xe_iconst 0).trans (congrArg (x_iconst 0) ((xe_istore 2).trans (congrArg (x_istore 2) xe_nil))))))))
set_option maxRecDepth 100000 in
theorem cl_X7_147 : cv_ RX7 147 yX7_orderGroup zX7_orderGroup 7 3 := ⟨gi_V (lwq_5 (dqc_m (dqc_m (dqc_m (dqc_m (dqc_m (dqc_m (dqc_m (dqa_m (List.mem_of_getElem? (i := 0) rfl))))))))) rfl : Cond.methodLink RX7 147 yX7_orderGroup ∈ lw_g) (lwq_5 (dqc_m (dqc_m (dqc_m (dqc_m (dqc_m (dqc_m (dqc_m (dqa_m (List.mem_of_getElem? (i := 2) rfl))))))))) rfl : Cond.instanceMethod yX7_orderGroup ∈ lw_g) (lw_sel 131 rfl : Cond.selects yX7_orderGroup.cls yX7_orderGroup yX7_orderGroup ∈ lw_g) (lwq_1 (List.mem_of_getElem? (i := 5) rfl) rfl : Cond.initialized yX7_orderGroup.cls ∈ lw_g) (lwq_5 (dqc_m (dqc_m (dqc_m (dqc_m (dqc_m (dqc_m (dqc_m (dqa_m (List.mem_of_getElem? (i := 3) rfl))))))))) rfl : Cond.code yX7_orderGroup cX7_orderGroup 8 none ∈ lw_g), ⟨nmh_7.1, nmh_7.2, pdq_3⟩, ⟨_, _, rfl⟩⟩
theorem bk_X7_rank_103 : ck_ fX7 none cX7_rank 103 [.iinc 1 1, .goto 48] 109 = true := qck_r (nn_ _) (by decide +kernel)
theorem bs_X7_rank_103 {P : Zt → Option Zv → Prop} (K : Int → Zl → List Zv → Zt → Prop) : sx_ K P [.iinc 1 1, .goto 48] 109 = x_iinc 1 1 (x_goto 48 K) := ((xe_iinc 1 1).trans (congrArg (x_iinc 1 1) (xe_goto 48)))
theorem bk_X7_rank_2 : ck_ fX7 none cX7_rank 2 [.iload 1, .iconst 12, .if_icmp .ge 28, .aload 0, .tableswitch 0 7 7 #[], .iload 1, .iload 1, .iastore, .aload 0, .tableswitch 0 7 8 #[], .iload 1, .iconst (-1), .iastore, .iinc 1 1, .goto 2] 28 = true := qck_r (nn_ _) (by decide +kernel)
theorem bs_X7_rank_2 {P : Zt → Option Zv → Prop} (K : Int → Zl → List Zv → Zt → Prop) : sx_ K P [.iload 1, .iconst 12, .if_icmp .ge 28, .aload 0, .tableswitch 0 7 7 #[], .iload 1, .iload 1, .iastore, .aload 0, .tableswitch 0 7 8 #[], .iload 1, .iconst (-1), .iastore, .iinc 1 1, .goto 2] 28 = x_iload 1 (x_iconst 12 (x_if_icmp .ge 28 K (x_aload 0 (x_g1 107 547 (x_iload 1 (x_iload 1 (x_iastore (x_aload 0 (x_g1 107 548 (x_iload 1 (x_iconst (-1) (x_iastore (x_iinc 1 1 (x_goto 2 K)))))))))))))) := ((xe_iload 1).trans (congrArg (x_iload 1) ((xe_iconst 12).trans (congrArg (x_iconst 12) ((xe_if_icmp .ge 28).trans (congrArg (x_if_icmp .ge 28 K) ((xe_aload 0).trans (congrArg (x_aload 0) ((xe_g1 (kk := 107) rfl tl_7_7).trans (congrArg (x_g1 107 547) ((xe_iload 1).trans (congrArg (x_iload 1) ((xe_iload 1).trans (congrArg (x_iload 1) ((xe_iastore).trans (congrArg (x_iastore) ((xe_aload 0).trans (congrArg (x_aload 0) ((xe_g1 (kk := 107) rfl tl_7_8).trans (congrArg (x_g1 107 548) ((xe_iload 1).trans (congrArg (x_iload 1) ((xe_iconst (-1)).trans (congrArg (x_iconst (-1)) ((xe_iastore).trans (congrArg (x_iastore) ((xe_iinc 1 1).trans (congrArg (x_iinc 1 1) (xe_goto 2)))))))))))))))))))))))))))))
theorem bk_X7_rank_28 : ck_ fX7 none cX7_rank 28 [.aload 0, .iconst 0, .tableswitch 1 7 13 #[], .aload 0, .iconst 0, .aload 0, .tableswitch 0 7 1 #[], .tableswitch 0 0 5 #[], .iconst 0] 43 = true := qck_r (nn_ _) (by decide +kernel)
theorem bs_X7_rank_28 {P : Zt → Option Zv → Prop} (K : Int → Zl → List Zv → Zt → Prop) : sx_ K P [.aload 0, .iconst 0, .tableswitch 1 7 13 #[], .aload 0, .iconst 0, .aload 0, .tableswitch 0 7 1 #[], .tableswitch 0 0 5 #[], .iconst 0] 43 = x_aload 0 (x_iconst 0 (x_p 107 13 0 16 (x_aload 0 (x_iconst 0 (x_aload 0 (x_g5 107 100 1 (x_g0 100 5 0 12 (x_iconst 0 (K 43))))))))) := ((xe_aload 0).trans (congrArg (x_aload 0) ((xe_iconst 0).trans (congrArg (x_iconst 0) ((xe_p (kk := 107) rfl tl_7_13).trans (congrArg (x_p 107 13 0 16) ((xe_aload 0).trans (congrArg (x_aload 0) ((xe_iconst 0).trans (congrArg (x_iconst 0) ((xe_aload 0).trans (congrArg (x_aload 0) ((xe_g5 (kk := 107) rfl tl_7_1).trans (congrArg (x_g5 107 100 1) ((xe_g0 (kk := 100) rfl tl_0_5).trans (congrArg (x_g0 100 5 0 12) ((xe_iconst 0).trans (congrArg (x_iconst 0) xe_nil))))))))))))))))))
theorem bk_X7_rank_46 : ck_ fX7 none cX7_rank 46 [.iconst 0, .istore 1] 48 = true := qck_r (nn_ _) (by decide +kernel)
theorem bs_X7_rank_46 {P : Zt → Option Zv → Prop} (K : Int → Zl → List Zv → Zt → Prop) : sx_ K P [.iconst 0, .istore 1] 48 = x_iconst 0 (x_istore 1 (K 48)) := ((xe_iconst 0).trans (congrArg (x_iconst 0) ((xe_istore 1).trans (congrArg (x_istore 1) xe_nil))))
theorem bk_X7_rank_0 : ck_ fX7 none cX7_rank 0 [.iconst 0, .istore 1] 2 = true := qck_r (nn_ _) (by decide +kernel)
theorem bs_X7_rank_0 {P : Zt → Option Zv → Prop} (K : Int → Zl → List Zv → Zt → Prop) : sx_ K P [.iconst 0, .istore 1] 2 = x_iconst 0 (x_istore 1 (K 2)) := ((xe_iconst 0).trans (congrArg (x_iconst 0) ((xe_istore 1).trans (congrArg (x_istore 1) xe_nil))))
abbrev po_X7_rank (T : Zt) : Zt → Option Zv → Prop := fun T' r => r = none ∧ fr_ [(550, []), (551, []), (552, []), (107, [13]), (549, []), (547, []), (548, []), (542, [])] T T' ∧ (0 = (0 : Int))
set_option maxHeartbeats 4000000 in
theorem ct_X7_rank {T : Zt} (hct : T 107 0 1 ≠ 0) (hrk : T 401 (T 107 0 1 - 1) 4 ≤ 7) : Ct_ yX7_rank zX7_rank T [vR 107 0] (po_X7_rank T) := by
  refine ct_of pn_7 rfl rfl (Nat.le_of_ble_eq_true rfl) (fun hT hav => ?_)
  have hz : zX7_rank.2.2.2.1 = some .boolean → ∀ (T' : Zt) (x : Int), po_X7_rank T T' (some (vI x)) → 0 ≤ x ∧ x ≤ 1 := fun h => by cases h
  show J_ zX7_rank T (po_X7_rank T) 0 0 0 [some (vR 107 0), none, none] [] T
  have c_113 : ∀ (nn : Nat) (pc : Int) (k : Int) (T2 : Zt), ((12 - k).toNat) ≤ nn → (fr_ [(550, []), (551, []), (552, []), (107, [13]), (549, []), (547, []), (548, []), (542, [])] T T2) → (0 ≤ k ∧ 0 ≤ pc ∧ pc ≤ 13) → J_ zX7_rank T (po_X7_rank T) 0 0 113 [some (vR 107 0), some (vI pc), some (vI k)] [] T2 := by
    intro nn
    induction nn using Nat.strongRecOn with
    | _ nn ih_113 =>
      intro pc k T2 hm_113 hf_113 i2
      replace hm_113 := fun (_ : Unit) => hm_113
      have c_144 : ∀ (pd : Int), (k < 12 ∧ 0 ≤ pd ∧ pd ≤ 13) → J_ zX7_rank T (po_X7_rank T) 0 0 144 [some (vR 107 0), some (vI pd), some (vI k)] [] T2 := by
        intro pd i3
        refine j_blx (F := fX7) tb_X7 (nn_ _) bk_X7_rank_144 bs_X7_rank_144 hz (fun K hK => ?_)
        refine ix_i (by omega) ?_
        intro b1 b1b
        refine rg_i (by omega) ?_
        refine rg_i (by omega) ?_
        refine iy_i (by omega) (by omega) ?_
        refine x_nm (fun U2 hU2 => ?_)
        have e3 := up_f hU2
        refine rg_i (by omega) ?_
        refine hK 113 [some (vR 107 0), some (vI pd), some (vI (k + 1))] [] U2 ?_
        refine ih_113 _ ?_ pd (k + 1) U2 (Nat.le_refl _) ?_ ?_
        · have hm_113 := hm_113 (); omega
        · exact fr_u (fr_t (fr_0 _ _) (fr_s hf_113 rfl)) hU2 rfl
        · omega
      refine j_blx (F := fX7) tb_X7 (nn_ _) bk_X7_rank_113 bs_X7_rank_113 hz (fun K hK => ?_)
      have e5 : T2 107 0 1 = T 107 0 1 := hf_113 107 0 1 rfl
      refine And.intro (fun c4 => ?_) (fun c4 => ?_)
      · exact absurd c4 (by omega)
      · intro b6 b6b
        have e7 : T2 100 (T2 107 0 1 - 1) 5 = T 100 (T2 107 0 1 - 1) 5 := hf_113 100 (T2 107 0 1 - 1) 5 rfl
        rw [e7] at b6 b6b ⊢
        refine And.intro (fun c8 => ?_) (fun c8 => ?_)
        · refine hK 168 _ [] T2 ?_
          refine j_blx (F := fX7) tb_X7 (nn_ _) bk_X7_rank_168 bs_X7_rank_168 hz (fun K hK => ?_)
          refine (show po_X7_rank T T2 (none) from ?_)
          exact ⟨rfl, fr_t (fr_0 _ _) (fr_s hf_113 rfl), by rfl⟩
        · refine And.intro (fun c9 => ?_) (fun c9 => ?_)
          · refine hK 144 _ [] T2 ?_
            refine c_144 pc ?_
            · omega
          · refine rg_i (by omega) ?_
            refine ix_i (by omega) ?_
            intro b10 b10b
            refine And.intro (fun c11 => ?_) (fun c11 => ?_)
            · refine hK 144 _ [] T2 ?_
              refine c_144 pc ?_
              · omega
            · refine rg_i (by omega) ?_
              refine hK 144 [some (vR 107 0), some (vI (k + 1)), some (vI k)] [] T2 ?_
              refine c_144 (k + 1) ?_
              · omega
  have c_48 : ∀ (nn : Nat) (n : Int) (T1 : Zt), ((1000 - n).toNat) ≤ nn → (fr_ [(550, []), (551, []), (552, []), (107, [13]), (549, []), (547, []), (548, []), (542, [])] T T1) → (0 ≤ n) → (WQ_ T1) → J_ zX7_rank T (po_X7_rank T) 0 0 48 [some (vR 107 0), some (vI n), none] [] T1 := by
    intro nn
    induction nn using Nat.strongRecOn with
    | _ nn ih_48 =>
      intro n T1 hm_48 hf_48 i1 wq1
      replace hm_48 := fun (_ : Unit) => hm_48
      refine j_blx (F := fX7) tb_X7 (nn_ _) bk_X7_rank_48 bs_X7_rank_48 hz (fun K hK => ?_)
      intro b12 b12b
      refine And.intro (fun c13 => ?_) (fun c13 => ?_)
      · refine hK 109 _ [] T1 ?_
        refine j_blx (F := fX7) tb_X7 (nn_ _) bk_X7_rank_109 bs_X7_rank_109 hz (fun K hK => ?_)
        refine hK 113 [some (vR 107 0), some (vI 1), some (vI 0)] [] T1 ?_
        refine c_113 _ 1 0 T1 (Nat.le_refl _) ?_ ?_
        · exact fr_t (fr_0 _ _) (fr_s hf_48 rfl)
        · omega
      · refine And.intro (fun c14 => ?_) (fun c14 => ?_)
        · refine hK 109 [some (vR 107 0), some (vI n), none] [] T1 ?_
          refine j_blx (F := fX7) tb_X7 (nn_ _) bk_X7_rank_109 bs_X7_rank_109 hz (fun K hK => ?_)
          refine hK 113 [some (vR 107 0), some (vI 1), some (vI 0)] [] T1 ?_
          refine c_113 _ 1 0 T1 (Nat.le_refl _) ?_ ?_
          · exact fr_t (fr_0 _ _) (fr_s hf_48 rfl)
          · omega
        · intro b15 b15b
          refine rg_i (by omega) ?_
          refine bd_i (by omega) ?_
          refine x_nm (fun U16 hU16 => ?_)
          have e17 := up_f hU16
          have hw9 := wq1 (T1 107 0 13 - 1) (by omega) (by omega)
          intro b18 b18b
          have e19 : U16 107 0 13 = (T1 107 0 13) - 1 := up_f hU16
          rw [e19] at b18 b18b ⊢
          refine ix_i (by omega) ?_
          intro b20 b20b
          have e21 : U16 550 0 ((T1 107 0 13) - 1) = T1 550 0 ((T1 107 0 13) - 1) := up_k hU16 (by exact Nat.ne_of_beq_eq_false rfl) 0 ((T1 107 0 13) - 1)
          rw [e21] at b20 b20b ⊢
          intro b22 b22b
          have e23 : U16 107 0 13 = (T1 107 0 13) - 1 := up_f hU16
          rw [e23] at b22 b22b ⊢
          refine ix_i (by omega) ?_
          intro b24 b24b
          have e25 : U16 551 0 ((T1 107 0 13) - 1) = T1 551 0 ((T1 107 0 13) - 1) := up_k hU16 (by exact Nat.ne_of_beq_eq_false rfl) 0 ((T1 107 0 13) - 1)
          rw [e25] at b24 b24b ⊢
          intro b26 b26b
          have e27 : U16 107 0 13 = (T1 107 0 13) - 1 := up_f hU16
          rw [e27] at b26 b26b ⊢
          refine ix_i (by omega) ?_
          intro b28 b28b
          have e29 : U16 552 0 ((T1 107 0 13) - 1) = T1 552 0 ((T1 107 0 13) - 1) := up_k hU16 (by exact Nat.ne_of_beq_eq_false rfl) 0 ((T1 107 0 13) - 1)
          rw [e29] at b28 b28b ⊢
          refine hK 100 [some (vR 107 0), some (vI n), none] [vI (T1 552 0 ((T1 107 0 13) - 1)), vI (T1 551 0 ((T1 107 0 13) - 1)), vI (T1 550 0 ((T1 107 0 13) - 1)), vR 107 0] U16 ?_
          have e30 : U16 107 0 1 = T 107 0 1 := (up_j hU16 (by exact ni_ rfl) 107 0).trans (hf_48 107 0 1 rfl)
          have e31 : U16 107 0 1 = T 107 0 1 := (up_j hU16 (by exact ni_ rfl) 107 0).trans (hf_48 107 0 1 rfl)
          have e32 : U16 107 0 1 = T 107 0 1 := (up_j hU16 (by exact ni_ rfl) 107 0).trans (hf_48 107 0 1 rfl)
          have e33 : U16 401 (T 107 0 1 - 1) 4 = T 401 (T 107 0 1 - 1) 4 := (up_k hU16 (by exact Nat.ne_of_beq_eq_false rfl) (T 107 0 1 - 1) 4).trans (hf_48 401 (T 107 0 1 - 1) 4 rfl)
          have r34 : U16 401 (U16 107 0 1 - 1) 4 = T 401 (T 107 0 1 - 1) 4 := by rw [e32]; exact e33
          have e35 : U16 107 0 1 = T 107 0 1 := (up_j hU16 (by exact ni_ rfl) 107 0).trans (hf_48 107 0 1 rfl)
          refine j_callV (y := yX7_orderGroup) (Yc := zX7_orderGroup) (rest := []) [vI (T1 550 0 ((T1 107 0 13) - 1)), vI (T1 551 0 ((T1 107 0 13) - 1)), vI (T1 552 0 ((T1 107 0 13) - 1))] (ct_X7_orderGroup (T := U16) (by omega) (by omega) (by omega) (by omega) (by exact fun j a b => by rw [up_k hU16 (by exact Nat.ne_of_beq_eq_false rfl) 0 j, up_k hU16 (by exact Nat.ne_of_beq_eq_false rfl) 0 j, up_k hU16 (by exact Nat.ne_of_beq_eq_false rfl) 0 j]; exact wq1 j a (by omega))) cl_X7_147 (qd_c (by decide +kernel)) (nn_ _) rfl (rf_of rfl) (Nat.le_of_ble_eq_true rfl) (Nat.le_of_ble_eq_true rfl) (Nat.le_of_ble_eq_true rfl) rfl ?_
          rintro U36 _ ⟨rfl, fU36, qU36⟩
          show J_ zX7_rank T (po_X7_rank T) 0 0 103 _ [] U36
          refine j_blx (F := fX7) tb_X7 (nn_ _) bk_X7_rank_103 bs_X7_rank_103 hz (fun K hK => ?_)
          refine rg_i (by omega) ?_
          refine hK 48 [some (vR 107 0), some (vI (n + 1)), none] [] U36 ?_
          refine ih_48 _ ?_ (n + 1) U36 (Nat.le_refl _) ?_ ?_ ?_
          · have hm_48 := hm_48 (); omega
          · exact fr_t (fr_u (fr_t (fr_0 _ _) (fr_s hf_48 rfl)) hU16 rfl) (fr_s fU36 rfl)
          · omega
          · exact qU36
  have c_2 : ∀ (nn : Nat) (k : Int) (T0 : Zt), ((12 - k).toNat) ≤ nn → (fr_ [(547, []), (548, [])] T T0) → (0 ≤ k ∧ k ≤ 12) → J_ zX7_rank T (po_X7_rank T) 0 0 2 [some (vR 107 0), some (vI k), none] [] T0 := by
    intro nn
    induction nn using Nat.strongRecOn with
    | _ nn ih_2 =>
      intro k T0 hm_2 hf_2 i0
      replace hm_2 := fun (_ : Unit) => hm_2
      refine j_blx (F := fX7) tb_X7 (nn_ _) bk_X7_rank_2 bs_X7_rank_2 hz (fun K hK => ?_)
      refine And.intro (fun c37 => ?_) (fun c37 => ?_)
      · refine hK 28 _ [] T0 ?_
        refine j_blx (F := fX7) tb_X7 (nn_ _) bk_X7_rank_28 bs_X7_rank_28 hz (fun K hK => ?_)
        refine bd_i (by omega) ?_
        refine x_nm (fun U38 hU38 => ?_)
        have e39 := up_f hU38
        have e41 : U38 107 0 1 = T 107 0 1 := (up_j hU38 (by exact ni_ rfl) 107 0).trans (hf_2 107 0 1 rfl)
        refine And.intro (fun c40 => ?_) (fun c40 => ?_)
        · exact absurd c40 (by omega)
        · intro b42 b42b
          have e43 : U38 100 (U38 107 0 1 - 1) 5 = T 100 (U38 107 0 1 - 1) 5 := (up_k hU38 (by exact Nat.ne_of_beq_eq_false rfl) (U38 107 0 1 - 1) 5).trans (hf_2 100 (U38 107 0 1 - 1) 5 rfl)
          rw [e43] at b42 b42b ⊢
          refine hK 43 _ [vI 0, vI (T 100 (U38 107 0 1 - 1) 5), vI 0, vR 107 0] U38 ?_
          have e44 : U38 107 0 1 = T 107 0 1 := (up_j hU38 (by exact ni_ rfl) 107 0).trans (hf_2 107 0 1 rfl)
          have e45 : U38 107 0 1 = T 107 0 1 := (up_j hU38 (by exact ni_ rfl) 107 0).trans (hf_2 107 0 1 rfl)
          have e46 : U38 107 0 1 = T 107 0 1 := (up_j hU38 (by exact ni_ rfl) 107 0).trans (hf_2 107 0 1 rfl)
          have e47 : U38 401 (T 107 0 1 - 1) 4 = T 401 (T 107 0 1 - 1) 4 := (up_k hU38 (by exact Nat.ne_of_beq_eq_false rfl) (T 107 0 1 - 1) 4).trans (hf_2 401 (T 107 0 1 - 1) 4 rfl)
          have r48 : U38 401 (U38 107 0 1 - 1) 4 = T 401 (T 107 0 1 - 1) 4 := by rw [e46]; exact e47
          have e49 : U38 107 0 1 = T 107 0 1 := (up_j hU38 (by exact ni_ rfl) 107 0).trans (hf_2 107 0 1 rfl)
          refine j_callV (y := yX7_putWaiting) (Yc := zX7_putWaiting) (rest := []) [vI 0, vI (T 100 (U38 107 0 1 - 1) 5), vI 0] (ct_X7_putWaiting (T := U38) (by omega) (by omega) (by omega) (by omega) (by omega) (by exact fun j a b => by omega)) cl_X7_143 (qd_c (by decide +kernel)) (nn_ _) rfl (rf_of rfl) (Nat.le_of_ble_eq_true rfl) (Nat.le_of_ble_eq_true rfl) (Nat.le_of_ble_eq_true rfl) rfl ?_
          rintro U50 _ ⟨rfl, fU50, qU50⟩
          show J_ zX7_rank T (po_X7_rank T) 0 0 46 _ [] U50
          refine j_blx (F := fX7) tb_X7 (nn_ _) bk_X7_rank_46 bs_X7_rank_46 hz (fun K hK => ?_)
          refine hK 48 [some (vR 107 0), some (vI 0), none] [] U50 ?_
          refine c_48 _ 0 U50 (Nat.le_refl _) ?_ ?_ ?_
          · exact fr_t (fr_u (fr_t (fr_0 _ _) (fr_s hf_2 rfl)) hU38 rfl) (fr_s fU50 rfl)
          · omega
          · exact qU50
      · refine iy_i (by omega) (by omega) ?_
        refine x_nm (fun U51 hU51 => ?_)
        have e52 := up_f hU51
        refine iy_i (by omega) (by omega) ?_
        refine x_nm (fun U53 hU53 => ?_)
        have e54 := up_f hU53
        refine rg_i (by omega) ?_
        refine hK 2 [some (vR 107 0), some (vI (k + 1)), none] [] U53 ?_
        refine ih_2 _ ?_ (k + 1) U53 (Nat.le_refl _) ?_ ?_
        · have hm_2 := hm_2 (); omega
        · exact fr_u (fr_u (fr_t (fr_0 _ _) (fr_s hf_2 rfl)) hU51 rfl) hU53 rfl
        · omega
  refine j_blx (F := fX7) tb_X7 (nn_ _) bk_X7_rank_0 bs_X7_rank_0 hz (fun K hK => ?_)
  refine hK 2 [some (vR 107 0), some (vI 0), none] [] T ?_
  refine c_2 _ 0 T (Nat.le_refl _) ?_ ?_
  · exact fr_0 _ _
  · omega
/-- the seats of an open match's clubs -/
def hsx_ (T : Zt) (k : Int) : Int := T 404 (T 109 0 5 - 1) (T 102 (T 588 0 k) 3)
def asx_ (T : Zt) (k : Int) : Int := T 404 (T 109 0 5 - 1) (T 102 (T 588 0 k) 4)
/-- the open matches are there, and their clubs have seats -/
def Q9_ (T : Zt) : Prop := T 109 0 5 ≠ 0 ∧ ∀ k, 0 ≤ k → k < T 109 0 9 → (0 ≤ T 588 0 k ∧ T 588 0 k < T 106 0 4) ∧ (0 ≤ hsx_ T k ∧ hsx_ T k ≤ 11) ∧ (0 ≤ asx_ T k ∧ asx_ T k ≤ 11)
abbrev qw_ (ws : List (Nat × List Int)) : Prop := (∀ (_ : Nat) j, fw_ ws 404 j = false) ∧ (∀ j, fw_ ws 588 j = false) ∧ fw_ ws 109 5 = false ∧ fw_ ws 109 9 = false ∧ fw_ ws 106 4 = false ∧ fw_ ws 102 3 = false ∧ fw_ ws 102 4 = false
theorem hsx_e {ws : List (Nat × List Int)} {T T1 : Zt} (f : fr_ ws T T1) (w : qw_ ws) (k : Int) : hsx_ T1 k = hsx_ T k := by
  unfold hsx_
  rw [f 109 0 _ w.2.2.1, f _ 0 k (w.2.1 k), f 102 _ _ w.2.2.2.2.2.1, f _ _ _ (w.1 0 _)]
theorem asx_e {ws : List (Nat × List Int)} {T T1 : Zt} (f : fr_ ws T T1) (w : qw_ ws) (k : Int) : asx_ T1 k = asx_ T k := by
  unfold asx_
  rw [f 109 0 _ w.2.2.1, f _ 0 k (w.2.1 k), f 102 _ _ w.2.2.2.2.2.2, f _ _ _ (w.1 0 _)]
theorem q9_f {ws : List (Nat × List Int)} {T T1 : Zt} (h : Q9_ T) (f : fr_ ws T T1) (w : qw_ ws) : Q9_ T1 := by
  refine ⟨by rw [f 109 0 _ w.2.2.1]; exact h.1, fun k a b => ?_⟩
  rw [f 109 0 _ w.2.2.2.1] at b
  rw [hsx_e f w, asx_e f w, f _ 0 k (w.2.1 k), f 106 0 _ w.2.2.2.2.1]
  exact h.2 k a b
abbrev cX9_homeSeatOf : ByteArray := prog_11_method_10_code
def yX9_homeSeatOf : MethodName := ⟨RX9, "homeSeatOf", "(I)I"⟩
def zX9_homeSeatOf : Zm := (RX9, cX9_homeSeatOf, 2, (some .int), { frames := 0, cells := 0, slots := 0, locals := 0 })
theorem bk_X9_homeSeatOf_0 : ck_ fX9 (some .int) cX9_homeSeatOf 0 [.aload 0, .tableswitch 0 9 5 #[], .tableswitch 0 0 4 #[], .aload 0, .tableswitch 0 9 0 #[], .tableswitch 0 6 3 #[], .aload 0, .tableswitch 0 9 8 #[], .iload 1, .iaload, .aaload, .tableswitch 0 2 3 #[], .iaload, .ireturn] 26 = true := qck_r (nn_ _) (by decide +kernel)
theorem bs_X9_homeSeatOf_0 {P : Zt → Option Zv → Prop} (K : Int → Zl → List Zv → Zt → Prop) : sx_ K P [.aload 0, .tableswitch 0 9 5 #[], .tableswitch 0 0 4 #[], .aload 0, .tableswitch 0 9 0 #[], .tableswitch 0 6 3 #[], .aload 0, .tableswitch 0 9 8 #[], .iload 1, .iaload, .aaload, .tableswitch 0 2 3 #[], .iaload, .ireturn] 26 = x_aload 0 (x_g5 109 100 5 (x_g2 100 404 (x_aload 0 (x_g1 109 106 (x_g1 106 523 (x_aload 0 (x_g1 109 588 (x_iload 1 (x_iaload (x_aaload (x_g0 102 3 0 11 (x_iaload (x_ireturn P))))))))))))) := ((xe_aload 0).trans (congrArg (x_aload 0) ((xe_g5 (kk := 109) rfl tl_9_5).trans (congrArg (x_g5 109 100 5) ((xe_g2 (kk := 100) rfl tl_0_4).trans (congrArg (x_g2 100 404) ((xe_aload 0).trans (congrArg (x_aload 0) ((xe_g1 (kk := 109) rfl tl_9_0).trans (congrArg (x_g1 109 106) ((xe_g1 (kk := 106) rfl tl_6_3).trans (congrArg (x_g1 106 523) ((xe_aload 0).trans (congrArg (x_aload 0) ((xe_g1 (kk := 109) rfl tl_9_8).trans (congrArg (x_g1 109 588) ((xe_iload 1).trans (congrArg (x_iload 1) ((xe_iaload).trans (congrArg (x_iaload) ((xe_aaload).trans (congrArg (x_aaload) ((xe_g0 (kk := 102) rfl tl_2_3).trans (congrArg (x_g0 102 3 0 11) ((xe_iaload).trans (congrArg (x_iaload) (xe_ireturn)))))))))))))))))))))))))))
abbrev po_X9_homeSeatOf (T : Zt) (k : Int) : Zt → Option Zv → Prop := fun T' r => T = T' ∧ ∃ x : Int, r = some (vI x) ∧ (x = hsx_ T k ∧ 0 ≤ x ∧ x ≤ 11)
set_option maxHeartbeats 4000000 in
theorem ct_X9_homeSeatOf {T : Zt} {k : Int} (hq9 : Q9_ T) (hka : KA_ T) (hk : 0 ≤ k ∧ k < T 109 0 9) : Ct_ yX9_homeSeatOf zX9_homeSeatOf T [vR 109 0, vI k] (po_X9_homeSeatOf T k) := by
  refine ct_of pn_9 rfl rfl (Nat.le_of_ble_eq_true rfl) (fun hT hav => ?_)
  have hr_k : -2147483648 ≤ k ∧ k ≤ 2147483647 := hav (vI k) (List.mem_cons_of_mem _ List.mem_cons_self)
  have hz : zX9_homeSeatOf.2.2.2.1 = some .boolean → ∀ (T' : Zt) (x : Int), po_X9_homeSeatOf T k T' (some (vI x)) → 0 ≤ x ∧ x ≤ 1 := fun h => by cases h
  have hct := hq9.1
  have hqk := hq9.2 k (by omega) (by omega)
  have hbo : 0 ≤ T 109 0 9 ∧ T 109 0 9 ≤ 40 := bd_f hT 109 9 tl_9_9 0
  show J_ zX9_homeSeatOf T (po_X9_homeSeatOf T k) 0 0 0 [some (vR 109 0), some (vI k)] [] T
  refine j_blx (F := fX9) tb_X9 (nn_ _) bk_X9_homeSeatOf_0 bs_X9_homeSeatOf_0 hz (fun K hK => ?_)
  refine And.intro (fun c1 => ?_) (fun c1 => ?_)
  · exact absurd c1 (by omega)
  · refine ix_i (by omega) ?_
    intro b2 b2b
    refine ix_i (by omega) ?_
    refine And.intro (fun c3 => ?_) (fun c3 => ?_)
    · exact absurd c3 (hka.2 _ (by omega) (by omega))
    · intro b4 b4b
      refine ix_i (by omega) ?_
      intro b5 b5b
      refine (show po_X9_homeSeatOf T k T (some (vI (T 404 (T 109 0 5 - 1) (T 102 (T 588 0 k) 3)))) from ?_)
      exact ⟨rfl, _, rfl, rfl, hqk.2.1⟩
abbrev cX9_awaySeatOf : ByteArray := prog_11_method_11_code
def yX9_awaySeatOf : MethodName := ⟨RX9, "awaySeatOf", "(I)I"⟩
def zX9_awaySeatOf : Zm := (RX9, cX9_awaySeatOf, 2, (some .int), { frames := 0, cells := 0, slots := 0, locals := 0 })
theorem bk_X9_awaySeatOf_0 : ck_ fX9 (some .int) cX9_awaySeatOf 0 [.aload 0, .tableswitch 0 9 5 #[], .tableswitch 0 0 4 #[], .aload 0, .tableswitch 0 9 0 #[], .tableswitch 0 6 3 #[], .aload 0, .tableswitch 0 9 8 #[], .iload 1, .iaload, .aaload, .tableswitch 0 2 4 #[], .iaload, .ireturn] 26 = true := qck_r (nn_ _) (by decide +kernel)
theorem bs_X9_awaySeatOf_0 {P : Zt → Option Zv → Prop} (K : Int → Zl → List Zv → Zt → Prop) : sx_ K P [.aload 0, .tableswitch 0 9 5 #[], .tableswitch 0 0 4 #[], .aload 0, .tableswitch 0 9 0 #[], .tableswitch 0 6 3 #[], .aload 0, .tableswitch 0 9 8 #[], .iload 1, .iaload, .aaload, .tableswitch 0 2 4 #[], .iaload, .ireturn] 26 = x_aload 0 (x_g5 109 100 5 (x_g2 100 404 (x_aload 0 (x_g1 109 106 (x_g1 106 523 (x_aload 0 (x_g1 109 588 (x_iload 1 (x_iaload (x_aaload (x_g0 102 4 0 11 (x_iaload (x_ireturn P))))))))))))) := ((xe_aload 0).trans (congrArg (x_aload 0) ((xe_g5 (kk := 109) rfl tl_9_5).trans (congrArg (x_g5 109 100 5) ((xe_g2 (kk := 100) rfl tl_0_4).trans (congrArg (x_g2 100 404) ((xe_aload 0).trans (congrArg (x_aload 0) ((xe_g1 (kk := 109) rfl tl_9_0).trans (congrArg (x_g1 109 106) ((xe_g1 (kk := 106) rfl tl_6_3).trans (congrArg (x_g1 106 523) ((xe_aload 0).trans (congrArg (x_aload 0) ((xe_g1 (kk := 109) rfl tl_9_8).trans (congrArg (x_g1 109 588) ((xe_iload 1).trans (congrArg (x_iload 1) ((xe_iaload).trans (congrArg (x_iaload) ((xe_aaload).trans (congrArg (x_aaload) ((xe_g0 (kk := 102) rfl tl_2_4).trans (congrArg (x_g0 102 4 0 11) ((xe_iaload).trans (congrArg (x_iaload) (xe_ireturn)))))))))))))))))))))))))))
abbrev po_X9_awaySeatOf (T : Zt) (k : Int) : Zt → Option Zv → Prop := fun T' r => T = T' ∧ ∃ x : Int, r = some (vI x) ∧ (x = asx_ T k ∧ 0 ≤ x ∧ x ≤ 11)
set_option maxHeartbeats 4000000 in
theorem ct_X9_awaySeatOf {T : Zt} {k : Int} (hq9 : Q9_ T) (hka : KA_ T) (hk : 0 ≤ k ∧ k < T 109 0 9) : Ct_ yX9_awaySeatOf zX9_awaySeatOf T [vR 109 0, vI k] (po_X9_awaySeatOf T k) := by
  refine ct_of pn_9 rfl rfl (Nat.le_of_ble_eq_true rfl) (fun hT hav => ?_)
  have hr_k : -2147483648 ≤ k ∧ k ≤ 2147483647 := hav (vI k) (List.mem_cons_of_mem _ List.mem_cons_self)
  have hz : zX9_awaySeatOf.2.2.2.1 = some .boolean → ∀ (T' : Zt) (x : Int), po_X9_awaySeatOf T k T' (some (vI x)) → 0 ≤ x ∧ x ≤ 1 := fun h => by cases h
  have hct := hq9.1
  have hqk := hq9.2 k (by omega) (by omega)
  have hbo : 0 ≤ T 109 0 9 ∧ T 109 0 9 ≤ 40 := bd_f hT 109 9 tl_9_9 0
  show J_ zX9_awaySeatOf T (po_X9_awaySeatOf T k) 0 0 0 [some (vR 109 0), some (vI k)] [] T
  refine j_blx (F := fX9) tb_X9 (nn_ _) bk_X9_awaySeatOf_0 bs_X9_awaySeatOf_0 hz (fun K hK => ?_)
  refine And.intro (fun c1 => ?_) (fun c1 => ?_)
  · exact absurd c1 (by omega)
  · refine ix_i (by omega) ?_
    intro b2 b2b
    refine ix_i (by omega) ?_
    refine And.intro (fun c3 => ?_) (fun c3 => ?_)
    · exact absurd c3 (hka.2 _ (by omega) (by omega))
    · intro b4 b4b
      refine ix_i (by omega) ?_
      intro b5 b5b
      refine (show po_X9_awaySeatOf T k T (some (vI (T 404 (T 109 0 5 - 1) (T 102 (T 588 0 k) 4)))) from ?_)
      exact ⟨rfl, _, rfl, rfl, hqk.2.2⟩
abbrev cX9_takerOf : ByteArray := prog_11_method_13_code
def yX9_takerOf : MethodName := ⟨RX9, "takerOf", "(II)I"⟩
def zX9_takerOf : Zm := (RX9, cX9_takerOf, 3, (some .int), { frames := 1, cells := 0, slots := 0, locals := 21 })
set_option maxRecDepth 100000 in
theorem cl_X9_145 : cv_ RX9 145 yX9_homeSeatOf zX9_homeSeatOf 9 1 := ⟨gi_V (lwq_6 (dqc_m (dqa_m (dqa_m (List.mem_of_getElem? (i := 7) rfl)))) rfl : Cond.methodLink RX9 145 yX9_homeSeatOf ∈ lw_g) (lwq_6 (dqc_m (dqa_m (dqa_m (dqa_m (List.mem_of_getElem? (i := 1) rfl))))) rfl : Cond.instanceMethod yX9_homeSeatOf ∈ lw_g) (lw_sel 137 rfl : Cond.selects yX9_homeSeatOf.cls yX9_homeSeatOf yX9_homeSeatOf ∈ lw_g) (lwq_1 (List.mem_of_getElem? (i := 6) rfl) rfl : Cond.initialized yX9_homeSeatOf.cls ∈ lw_g) (lwq_6 (dqc_m (dqa_m (dqa_m (dqa_m (List.mem_of_getElem? (i := 2) rfl))))) rfl : Cond.code yX9_homeSeatOf cX9_homeSeatOf 2 (some .int) ∈ lw_g), ⟨nmh_8.1, nmh_8.2, pdq_15⟩, ⟨_, _, rfl⟩⟩
set_option maxRecDepth 100000 in
theorem cl_X9_154 : cv_ RX9 154 yX9_awaySeatOf zX9_awaySeatOf 9 1 := ⟨gi_V (lwq_6 (dqc_m (dqc_m (List.mem_of_getElem? (i := 3) rfl))) rfl : Cond.methodLink RX9 154 yX9_awaySeatOf ∈ lw_g) (lwq_6 (dqc_m (dqc_m (List.mem_of_getElem? (i := 5) rfl))) rfl : Cond.instanceMethod yX9_awaySeatOf ∈ lw_g) (lw_sel 136 rfl : Cond.selects yX9_awaySeatOf.cls yX9_awaySeatOf yX9_awaySeatOf ∈ lw_g) (lwq_1 (List.mem_of_getElem? (i := 6) rfl) rfl : Cond.initialized yX9_awaySeatOf.cls ∈ lw_g) (lwq_6 (dqc_m (dqc_m (List.mem_of_getElem? (i := 6) rfl))) rfl : Cond.code yX9_awaySeatOf cX9_awaySeatOf 2 (some .int) ∈ lw_g), ⟨nmh_8.1, nmh_8.2, pdq_15⟩, ⟨_, _, rfl⟩⟩
abbrev cX9_openBetween : ByteArray := prog_11_method_16_code
def yX9_openBetween : MethodName := ⟨RX9, "openBetween", "(II)I"⟩
def zX9_openBetween : Zm := (RX9, cX9_openBetween, 6, (some .int), { frames := 0, cells := 0, slots := 0, locals := 0 })
abbrev cX9_noneAbove : ByteArray := prog_11_method_5_code
def yX9_noneAbove : MethodName := ⟨RX9, "noneAbove", "(I)Z"⟩
def zX9_noneAbove : Zm := (RX9, cX9_noneAbove, 3, (some .boolean), { frames := 0, cells := 0, slots := 0, locals := 0 })
abbrev cX9_shiftAlong : ByteArray := prog_11_method_14_code
def yX9_shiftAlong : MethodName := ⟨RX9, "shiftAlong", "(II)V"⟩
def zX9_shiftAlong : Zm := (RX9, cX9_shiftAlong, 6, none, { frames := 1, cells := 0, slots := 0, locals := 21 })
abbrev po_J7_fill_593 (T : Zt) (p : Int) (v : Int) : Zt → Option Zv → Prop := fun T' r => r = none ∧ fr_ [(593, [])] T T' ∧ oi_ T T' p ∧ ∀ j, 0 ≤ j → j < 12 → T' 593 p j = v
set_option maxHeartbeats 4000000 in
theorem ct_J7_fill_593 {T : Zt} {p : Int} {v : Int} (h1 : (-1) ≤ v ∧ v ≤ 40) : Ct_ yJ7_fill_53178 zJ7_fill_53178 T [vR 593 p, vI v] (po_J7_fill_593 T p v) := by
  refine ct_of (by decide) rfl rfl (Nat.le_of_ble_eq_true rfl) (fun hT hav => ?_)
  have hr_v : -2147483648 ≤ v ∧ v ≤ 2147483647 := hav (vI v) (List.mem_cons_of_mem _ List.mem_cons_self)
  have hz : zJ7_fill_53178.2.2.2.1 = some .boolean → ∀ (T' : Zt) (x : Int), po_J7_fill_593 T p v T' (some (vI x)) → 0 ≤ x ∧ x ≤ 1 := fun h => by cases h
  show J_ zJ7_fill_53178 T (po_J7_fill_593 T p v) 0 0 0 [some (vR 593 p), some (vI v), none, none] [] T
  have c_5 : ∀ (nn : Nat) (j : Int) (T1 : Zt), ((12 - j).toNat) ≤ nn → (fr_ [(593, [])] T T1) → (0 ≤ j ∧ j ≤ 12) → (oi_ T T1 p) → (∀ q, 0 ≤ q → q < j → T1 593 p q = v) → J_ zJ7_fill_53178 T (po_J7_fill_593 T p v) 0 0 5 [some (vR 593 p), some (vI v), some (vI j), some (vI 12)] [] T1 := by
    intro nn
    induction nn using Nat.strongRecOn with
    | _ nn ih_5 =>
      intro j T1 hm_5 hf_5 i1 o1 f1
      replace hm_5 := fun (_ : Unit) => hm_5
      refine j_blx (F := fJ7) tb_J7 (nn_ _) bk_J7_fill_53178_5 bs_J7_fill_53178_5 hz (fun K hK => ?_)
      refine And.intro (fun c1 => ?_) (fun c1 => ?_)
      · refine hK 20 _ [] T1 ?_
        refine j_blx (F := fJ7) tb_J7 (nn_ _) bk_J7_fill_53178_20 bs_J7_fill_53178_20 hz (fun K hK => ?_)
        refine (show po_J7_fill_593 T p v T1 (none) from ?_)
        exact ⟨rfl, fr_t (fr_0 _ _) (fr_s hf_5 rfl), o1, fun q a b => f1 q a (by omega)⟩
      · refine iy_i (by omega) (by omega) ?_
        refine x_nm (fun U2 hU2 => ?_)
        have e3 := up_f hU2
        refine rg_i (by omega) ?_
        refine hK 5 [some (vR 593 p), some (vI v), some (vI (j + 1)), some (vI 12)] [] U2 ?_
        refine ih_5 _ ?_ (j + 1) U2 (Nat.le_refl _) ?_ ?_ ?_ ?_
        · have hm_5 := hm_5 (); omega
        · exact fr_u (fr_t (fr_0 _ _) (fr_s hf_5 rfl)) hU2 rfl
        · omega
        · exact oi_u o1 hU2
        · intro q a b
          by_cases z : q = j
          · rw [z]; exact up_f hU2
          · rw [up_g hU2 (fun y => z y.2.2)]; exact f1 q a (by omega)
  refine j_blx (F := fJ7) tb_J7 (nn_ _) bk_J7_fill_53178_0 bs_J7_fill_53178_0 hz (fun K hK => ?_)
  refine hK 5 [some (vR 593 p), some (vI v), some (vI 0), some (vI 12)] [] T ?_
  refine c_5 _ 0 T (Nat.le_refl _) ?_ ?_ ?_ ?_
  · exact fr_0 _ _
  · omega
  · exact oi_r
  · intro q a b; omega
abbrev cX9_relieve : ByteArray := prog_11_method_12_code
def yX9_relieve : MethodName := ⟨RX9, "relieve", "(II)Z"⟩
def zX9_relieve : Zm := (RX9, cX9_relieve, 8, (some .boolean), { frames := 2, cells := 0, slots := 0, locals := 46 })
set_option maxRecDepth 100000 in
theorem cl_X9_161 : cv_ RX9 161 yX9_takerOf zX9_takerOf 9 2 := ⟨gi_V (lwq_6 (dqc_m (dqc_m (List.mem_of_getElem? (i := 7) rfl))) rfl : Cond.methodLink RX9 161 yX9_takerOf ∈ lw_g) (lwq_6 (dqc_m (dqc_m (dqa_m (List.mem_of_getElem? (i := 1) rfl)))) rfl : Cond.instanceMethod yX9_takerOf ∈ lw_g) (lw_sel 150 rfl : Cond.selects yX9_takerOf.cls yX9_takerOf yX9_takerOf ∈ lw_g) (lwq_1 (List.mem_of_getElem? (i := 6) rfl) rfl : Cond.initialized yX9_takerOf.cls ∈ lw_g) (lwq_6 (dqc_m (dqc_m (dqa_m (List.mem_of_getElem? (i := 2) rfl)))) rfl : Cond.code yX9_takerOf cX9_takerOf 3 (some .int) ∈ lw_g), ⟨nmh_8.1, nmh_8.2, pdq_4⟩, ⟨_, _, rfl⟩⟩
set_option maxRecDepth 100000 in
theorem cl_X9_157 : cv_ RX9 157 yX9_shiftAlong zX9_shiftAlong 9 2 := ⟨gi_V (lwq_6 (dqc_m (dqa_m (dqa_m (dqa_m (List.mem_of_getElem? (i := 7) rfl))))) rfl : Cond.methodLink RX9 157 yX9_shiftAlong ∈ lw_g) (lwq_6 (dqc_m (dqc_m (List.mem_of_getElem? (i := 1) rfl))) rfl : Cond.instanceMethod yX9_shiftAlong ∈ lw_g) (lw_sel 146 rfl : Cond.selects yX9_shiftAlong.cls yX9_shiftAlong yX9_shiftAlong ∈ lw_g) (lwq_1 (List.mem_of_getElem? (i := 6) rfl) rfl : Cond.initialized yX9_shiftAlong.cls ∈ lw_g) (lwq_6 (dqc_m (dqc_m (List.mem_of_getElem? (i := 2) rfl))) rfl : Cond.code yX9_shiftAlong cX9_shiftAlong 6 none ∈ lw_g), ⟨nmh_8.1, nmh_8.2, pdq_0⟩, ⟨_, _, rfl⟩⟩
set_option maxRecDepth 100000 in
theorem cl_X9_48 : cs_ RX9 48 yJ7_fill_53178 zJ7_fill_53178 2 := ⟨gi_S (lwq_2 (dqa_m (dqa_m (dqa_m (List.mem_of_getElem? (i := 1) rfl)))) rfl : Cond.methodLink RX9 48 yJ7_fill_53178 ∈ lw_g) (lwq_2 (dqa_m (dqa_m (dqa_m (List.mem_of_getElem? (i := 2) rfl)))) rfl : Cond.static yJ7_fill_53178 ∈ lw_g) (lwq_1 (List.mem_of_getElem? (i := 7) rfl) rfl : Cond.initialized yJ7_fill_53178.cls ∈ lw_g) (lwq_2 (dqa_m (dqa_m (dqa_m (List.mem_of_getElem? (i := 3) rfl)))) rfl : Cond.code yJ7_fill_53178 cJ7_fill_53178 4 none ∈ lw_g), ⟨by decide, by decide, by decide +kernel⟩⟩
abbrev cX9_takePartHome : ByteArray := prog_11_method_9_code
def yX9_takePartHome : MethodName := ⟨RX9, "takePartHome", "(I)Z"⟩
def zX9_takePartHome : Zm := (RX9, cX9_takePartHome, 4, (some .boolean), { frames := 3, cells := 0, slots := 0, locals := 73 })
set_option maxRecDepth 100000 in
theorem cl_X9_148 : cv_ RX9 148 yX9_relieve zX9_relieve 9 2 := ⟨gi_V (lwq_6 (dqc_m (dqa_m (dqa_m (dqa_m (List.mem_of_getElem? (i := 3) rfl))))) rfl : Cond.methodLink RX9 148 yX9_relieve ∈ lw_g) (lwq_6 (dqc_m (dqa_m (dqa_m (dqa_m (List.mem_of_getElem? (i := 5) rfl))))) rfl : Cond.instanceMethod yX9_relieve ∈ lw_g) (lw_sel 143 rfl : Cond.selects yX9_relieve.cls yX9_relieve yX9_relieve ∈ lw_g) (lwq_1 (List.mem_of_getElem? (i := 6) rfl) rfl : Cond.initialized yX9_relieve.cls ∈ lw_g) (lwq_6 (dqc_m (dqa_m (dqa_m (dqa_m (List.mem_of_getElem? (i := 6) rfl))))) rfl : Cond.code yX9_relieve cX9_relieve 8 (some .boolean) ∈ lw_g), ⟨nmh_8.1, nmh_8.2, pdq_5⟩, ⟨_, _, rfl⟩⟩
abbrev cX9_spreadParts : ByteArray := prog_11_method_8_code
def yX9_spreadParts : MethodName := ⟨RX9, "spreadParts", "(I)Z"⟩
def zX9_spreadParts : Zm := (RX9, cX9_spreadParts, 5, (some .boolean), { frames := 4, cells := 0, slots := 0, locals := 96 })
set_option maxRecDepth 100000 in
theorem cl_X9_151 : cv_ RX9 151 yX9_takePartHome zX9_takePartHome 9 1 := ⟨gi_V (lwq_6 (dqc_m (dqc_m (dqa_m (List.mem_of_getElem? (i := 3) rfl)))) rfl : Cond.methodLink RX9 151 yX9_takePartHome ∈ lw_g) (lwq_6 (dqc_m (dqc_m (dqa_m (List.mem_of_getElem? (i := 5) rfl)))) rfl : Cond.instanceMethod yX9_takePartHome ∈ lw_g) (lw_sel 148 rfl : Cond.selects yX9_takePartHome.cls yX9_takePartHome yX9_takePartHome ∈ lw_g) (lwq_1 (List.mem_of_getElem? (i := 6) rfl) rfl : Cond.initialized yX9_takePartHome.cls ∈ lw_g) (lwq_6 (dqc_m (dqc_m (dqa_m (List.mem_of_getElem? (i := 6) rfl)))) rfl : Cond.code yX9_takePartHome cX9_takePartHome 4 (some .boolean) ∈ lw_g), ⟨nmh_8.1, nmh_8.2, pdq_7⟩, ⟨_, _, rfl⟩⟩
def KM_ (T : Zt) : Prop := ∀ m : Int, 0 ≤ m → m < T 106 0 4 → T 102 m 1 = m ∧ 0 ≤ T 102 m 0 ∧ T 102 m 0 < T 106 0 2
theorem KM__f {ws : List (Nat × List Int)} {T T' : Zt} (h : KM_ T) (f : fr_ ws T T') (w : fw_ ws 102 1 = false ∧ fw_ ws 102 0 = false ∧ fw_ ws 106 4 = false ∧ fw_ ws 106 2 = false ∧ True) : KM_ T' := by
  have e0 : ∀ i, T' 102 i 1 = T 102 i 1 := fun i => f 102 i 1 w.1
  have e1 : ∀ i, T' 102 i 0 = T 102 i 0 := fun i => f 102 i 0 w.2.1
  have e2 : ∀ i, T' 106 i 4 = T 106 i 4 := fun i => f 106 i 4 w.2.2.1
  have e3 : ∀ i, T' 106 i 2 = T 106 i 2 := fun i => f 106 i 2 w.2.2.2.1
  simp only [KM_, e0, e1, e2, e3] at h ⊢
  exact h
def KC_ (T : Zt) : Prop := ∀ c : Int, 0 ≤ c → c < T 106 0 2 → T 100 c 7 + T 100 c 8 ≤ T 106 0 4
theorem KC__f {ws : List (Nat × List Int)} {T T' : Zt} (h : KC_ T) (f : fr_ ws T T') (w : fw_ ws 100 7 = false ∧ fw_ ws 100 8 = false ∧ fw_ ws 106 4 = false ∧ fw_ ws 106 2 = false ∧ True) : KC_ T' := by
  have e0 : ∀ i, T' 100 i 7 = T 100 i 7 := fun i => f 100 i 7 w.1
  have e1 : ∀ i, T' 100 i 8 = T 100 i 8 := fun i => f 100 i 8 w.2.1
  have e2 : ∀ i, T' 106 i 4 = T 106 i 4 := fun i => f 106 i 4 w.2.2.1
  have e3 : ∀ i, T' 106 i 2 = T 106 i 2 := fun i => f 106 i 2 w.2.2.2.1
  simp only [KC_, e0, e1, e2, e3] at h ⊢
  exact h
def KR_ (T : Zt) : Prop := ∀ c : Int, 0 ≤ c → c < T 106 0 2 → 1 ≤ T 401 c 9 ∧ T 401 c 9 ≤ 6
theorem KR__f {ws : List (Nat × List Int)} {T T' : Zt} (h : KR_ T) (f : fr_ ws T T') (w : (∀ j, fw_ ws 401 j = false) ∧ fw_ ws 106 2 = false ∧ True) : KR_ T' := by
  have e0 : ∀ i j, T' 401 i j = T 401 i j := fun i j => f 401 i j (w.1 j)
  have e1 : ∀ i, T' 106 i 2 = T 106 i 2 := fun i => f 106 i 2 w.2.1
  simp only [KR_, e0, e1] at h ⊢
  exact h
abbrev cX6_shareClub : ByteArray := prog_8_method_9_code
def yX6_shareClub : MethodName := ⟨RX6, "shareClub", "(LSportsHouse$Match;LSportsHouse$Match;)Z"⟩
def zX6_shareClub : Zm := (RX6, cX6_shareClub, 2, (some .boolean), { frames := 1, cells := 0, slots := 0, locals := 21 })
set_option maxRecDepth 100000 in
theorem cl_X6_88 : cv_ RX6 88 yX2_has zX2_has 2 1 := ⟨gi_V (lwq_4 (dqc_m (dqc_m (dqa_m (List.mem_of_getElem? (i := 1) rfl)))) rfl : Cond.methodLink RX6 88 yX2_has ∈ lw_g) (lwq_4 (dqc_m (dqc_m (dqa_m (List.mem_of_getElem? (i := 2) rfl)))) rfl : Cond.instanceMethod yX2_has ∈ lw_g) (lwq_4 (dqc_m (dqc_m (dqa_m (List.mem_of_getElem? (i := 3) rfl)))) rfl : Cond.selects yX2_has.cls yX2_has yX2_has ∈ lw_g) (lwq_1 (dqa_m (dqa_m (List.mem_of_getElem? (i := 0) rfl))) rfl : Cond.initialized yX2_has.cls ∈ lw_g) (lwq_4 (dqc_m (dqc_m (dqa_m (List.mem_of_getElem? (i := 4) rfl)))) rfl : Cond.code yX2_has cX2_has 2 (some .boolean) ∈ lw_g), ⟨nmh_10.1, nmh_10.2, pdq_7⟩, ⟨_, _, rfl⟩⟩
abbrev cX6_countBreaks : ByteArray := prog_8_method_5_code
def yX6_countBreaks : MethodName := ⟨RX6, "countBreaks", "(LSportsHouse$Competition;I)I"⟩
def zX6_countBreaks : Zm := (RX6, cX6_countBreaks, 9, (some .int), { frames := 1, cells := 0, slots := 0, locals := 21 })
abbrev cX6_listAhead : ByteArray := prog_8_method_16_code
def yX6_listAhead : MethodName := ⟨RX6, "listAhead", "(ILSportsHouse$Match;)I"⟩
def zX6_listAhead : Zm := (RX6, cX6_listAhead, 8, (some .int), { frames := 2, cells := 0, slots := 0, locals := 40 })
set_option maxRecDepth 100000 in
theorem cl_X6_195 : cv_ RX6 195 yX2_isDecided zX2_isDecided 2 0 := ⟨gi_V (lwq_4 (dqc_m (dqc_m (dqc_m (dqc_m (dqa_m (dqa_m (dqa_m (List.mem_of_getElem? (i := 2) rfl)))))))) rfl : Cond.methodLink RX6 195 yX2_isDecided ∈ lw_g) (lwq_4 (dqc_m (dqc_m (dqc_m (dqc_m (dqa_m (dqa_m (dqa_m (List.mem_of_getElem? (i := 3) rfl)))))))) rfl : Cond.instanceMethod yX2_isDecided ∈ lw_g) (lwq_4 (dqc_m (dqc_m (dqc_m (dqc_m (dqa_m (dqa_m (dqa_m (List.mem_of_getElem? (i := 4) rfl)))))))) rfl : Cond.selects yX2_isDecided.cls yX2_isDecided yX2_isDecided ∈ lw_g) (lwq_1 (dqa_m (dqa_m (List.mem_of_getElem? (i := 0) rfl))) rfl : Cond.initialized yX2_isDecided.cls ∈ lw_g) (lwq_4 (dqc_m (dqc_m (dqc_m (dqc_m (dqa_m (dqa_m (dqa_m (List.mem_of_getElem? (i := 5) rfl)))))))) rfl : Cond.code yX2_isDecided cX2_isDecided 1 (some .boolean) ∈ lw_g), ⟨nmh_10.1, nmh_10.2, pdq_18⟩, ⟨_, _, rfl⟩⟩
set_option maxRecDepth 100000 in
theorem cl_X6_165 : cv_ RX6 165 yX8_clubOn zX8_clubOn 8 2 := ⟨gi_V (lwq_4 (dqc_m (dqc_m (dqc_m (dqc_m (dqa_m (List.mem_of_getElem? (i := 6) rfl)))))) rfl : Cond.methodLink RX6 165 yX8_clubOn ∈ lw_g) (lwq_4 (dqc_m (dqc_m (dqc_m (dqc_m (dqa_m (List.mem_of_getElem? (i := 7) rfl)))))) rfl : Cond.instanceMethod yX8_clubOn ∈ lw_g) (lwq_4 (dqc_m (dqc_m (dqc_m (dqc_m (dqa_m (dqa_m (List.mem_of_getElem? (i := 0) rfl))))))) rfl : Cond.selects yX8_clubOn.cls yX8_clubOn yX8_clubOn ∈ lw_g) (lwq_1 (List.mem_of_getElem? (i := 3) rfl) rfl : Cond.initialized yX8_clubOn.cls ∈ lw_g) (lwq_4 (dqc_m (dqc_m (dqc_m (dqc_m (dqa_m (dqa_m (List.mem_of_getElem? (i := 1) rfl))))))) rfl : Cond.code yX8_clubOn cX8_clubOn 5 (some .int) ∈ lw_g), ⟨nmh_9.1, nmh_9.2, pdq_4⟩, ⟨_, _, rfl⟩⟩
abbrev cX6_isBanned : ByteArray := prog_8_method_15_code
def yX6_isBanned : MethodName := ⟨RX6, "isBanned", "(ILSportsHouse$Match;)Z"⟩
def zX6_isBanned : Zm := (RX6, cX6_isBanned, 11, (some .boolean), { frames := 3, cells := 0, slots := 0, locals := 67 })
set_option maxRecDepth 100000 in
theorem cl_X6_172 : cv_ RX6 172 yX2_placeOf zX2_placeOf 2 1 := ⟨gi_V (lwq_4 (dqc_m (dqc_m (dqc_m (dqc_m (dqa_m (dqa_m (dqa_m (List.mem_of_getElem? (i := 7) rfl)))))))) rfl : Cond.methodLink RX6 172 yX2_placeOf ∈ lw_g) (lwq_4 (dqc_m (dqc_m (dqc_m (dqc_m (dqc_m (List.mem_of_getElem? (i := 0) rfl)))))) rfl : Cond.instanceMethod yX2_placeOf ∈ lw_g) (lwq_4 (dqc_m (dqc_m (dqc_m (dqc_m (dqc_m (List.mem_of_getElem? (i := 1) rfl)))))) rfl : Cond.selects yX2_placeOf.cls yX2_placeOf yX2_placeOf ∈ lw_g) (lwq_1 (dqa_m (dqa_m (List.mem_of_getElem? (i := 0) rfl))) rfl : Cond.initialized yX2_placeOf.cls ∈ lw_g) (lwq_4 (dqc_m (dqc_m (dqc_m (dqc_m (dqc_m (List.mem_of_getElem? (i := 2) rfl)))))) rfl : Cond.code yX2_placeOf cX2_placeOf 4 (some .int) ∈ lw_g), ⟨nmh_10.1, nmh_10.2, pdq_15⟩, ⟨_, _, rfl⟩⟩
set_option maxRecDepth 100000 in
theorem cl_X6_187 : cv_ RX6 187 yX3_isSentOff zX3_isSentOff 3 1 := ⟨gi_V (lwq_4 (dqc_m (dqc_m (dqc_m (dqc_m (dqc_m (List.mem_of_getElem? (i := 3) rfl)))))) rfl : Cond.methodLink RX6 187 yX3_isSentOff ∈ lw_g) (lwq_4 (dqc_m (dqc_m (dqc_m (dqc_m (dqc_m (List.mem_of_getElem? (i := 4) rfl)))))) rfl : Cond.instanceMethod yX3_isSentOff ∈ lw_g) (lwq_4 (dqc_m (dqc_m (dqc_m (dqc_m (dqc_m (List.mem_of_getElem? (i := 5) rfl)))))) rfl : Cond.selects yX3_isSentOff.cls yX3_isSentOff yX3_isSentOff ∈ lw_g) (lwq_1 (dqa_m (dqa_m (List.mem_of_getElem? (i := 2) rfl))) rfl : Cond.initialized yX3_isSentOff.cls ∈ lw_g) (lwq_4 (dqc_m (dqc_m (dqc_m (dqc_m (dqc_m (List.mem_of_getElem? (i := 6) rfl)))))) rfl : Cond.code yX3_isSentOff cX3_isSentOff 2 (some .boolean) ∈ lw_g), ⟨nmh_3.1, nmh_3.2, pdq_7⟩, ⟨_, _, rfl⟩⟩
set_option maxRecDepth 100000 in
theorem cl_X6_175 : cv_ RX6 175 yX6_listAhead zX6_listAhead 6 2 := ⟨gi_V (lwq_4 (dqc_m (dqc_m (dqc_m (dqc_m (dqa_m (dqa_m (List.mem_of_getElem? (i := 6) rfl))))))) rfl : Cond.methodLink RX6 175 yX6_listAhead ∈ lw_g) (lwq_4 (dqc_m (dqc_m (dqc_m (dqc_m (dqa_m (dqa_m (dqa_m (List.mem_of_getElem? (i := 0) rfl)))))))) rfl : Cond.instanceMethod yX6_listAhead ∈ lw_g) (lw_sel 125 rfl : Cond.selects yX6_listAhead.cls yX6_listAhead yX6_listAhead ∈ lw_g) (lwq_1 (List.mem_of_getElem? (i := 4) rfl) rfl : Cond.initialized yX6_listAhead.cls ∈ lw_g) (lwq_4 (dqc_m (dqc_m (dqc_m (dqc_m (dqa_m (dqa_m (dqa_m (List.mem_of_getElem? (i := 1) rfl)))))))) rfl : Cond.code yX6_listAhead cX6_listAhead 8 (some .int) ∈ lw_g), ⟨nmh_6.1, nmh_6.2, pdq_21⟩, ⟨_, _, rfl⟩⟩
abbrev cX6_whyNot : ByteArray := prog_8_method_14_code
def yX6_whyNot : MethodName := ⟨RX6, "whyNot", "(ILSportsHouse$Match;I)I"⟩
def zX6_whyNot : Zm := (RX6, cX6_whyNot, 6, (some .int), { frames := 4, cells := 0, slots := 0, locals := 97 })
set_option maxRecDepth 100000 in
theorem cl_X6_168 : cv_ RX6 168 yX6_isBanned zX6_isBanned 6 2 := ⟨gi_V (lwq_4 (dqc_m (dqc_m (dqc_m (dqc_m (dqa_m (dqa_m (List.mem_of_getElem? (i := 2) rfl))))))) rfl : Cond.methodLink RX6 168 yX6_isBanned ∈ lw_g) (lwq_4 (dqc_m (dqc_m (dqc_m (dqc_m (dqa_m (dqa_m (List.mem_of_getElem? (i := 4) rfl))))))) rfl : Cond.instanceMethod yX6_isBanned ∈ lw_g) (lw_sel 123 rfl : Cond.selects yX6_isBanned.cls yX6_isBanned yX6_isBanned ∈ lw_g) (lwq_1 (List.mem_of_getElem? (i := 4) rfl) rfl : Cond.initialized yX6_isBanned.cls ∈ lw_g) (lwq_4 (dqc_m (dqc_m (dqc_m (dqc_m (dqa_m (dqa_m (List.mem_of_getElem? (i := 5) rfl))))))) rfl : Cond.code yX6_isBanned cX6_isBanned 11 (some .boolean) ∈ lw_g), ⟨nmh_6.1, nmh_6.2, pdq_22⟩, ⟨_, _, rfl⟩⟩
abbrev cX10_eligible : ByteArray := prog_1_method_19_code
def yX10_eligible : MethodName := ⟨RX10, "eligible", "(III)I"⟩
def zX10_eligible : Zm := (RX10, cX10_eligible, 4, (some .int), { frames := 5, cells := 0, slots := 0, locals := 122 })
set_option maxRecDepth 100000 in
theorem cl_X10_251 : cs_ RX10 251 yX10_isSide zX10_isSide 1 := ⟨gi_S (lwq_4 (dqc_m (dqc_m (dqc_m (dqc_m (List.mem_of_getElem? (i := 7) rfl))))) rfl : Cond.methodLink RX10 251 yX10_isSide ∈ lw_g) (lwq_4 (dqc_m (dqc_m (dqc_m (dqc_m (dqa_m (List.mem_of_getElem? (i := 0) rfl)))))) rfl : Cond.static yX10_isSide ∈ lw_g) (lwq_1 (List.mem_of_getElem? (i := 1) rfl) rfl : Cond.initialized yX10_isSide.cls ∈ lw_g) (lwq_4 (dqc_m (dqc_m (dqc_m (dqc_m (dqa_m (List.mem_of_getElem? (i := 1) rfl)))))) rfl : Cond.code yX10_isSide cX10_isSide 1 (some .boolean) ∈ lw_g), ⟨by decide, by decide, by decide +kernel⟩⟩
set_option maxRecDepth 100000 in
theorem cl_X10_254 : cv_ RX10 254 yX6_whyNot zX6_whyNot 6 3 := ⟨gi_V (lwq_4 (dqc_m (dqc_m (dqc_m (dqc_m (dqa_m (List.mem_of_getElem? (i := 2) rfl)))))) rfl : Cond.methodLink RX10 254 yX6_whyNot ∈ lw_g) (lwq_4 (dqc_m (dqc_m (dqc_m (dqc_m (dqa_m (List.mem_of_getElem? (i := 3) rfl)))))) rfl : Cond.instanceMethod yX6_whyNot ∈ lw_g) (lwq_4 (dqc_m (dqc_m (dqc_m (dqc_m (dqa_m (List.mem_of_getElem? (i := 4) rfl)))))) rfl : Cond.selects yX6_whyNot.cls yX6_whyNot yX6_whyNot ∈ lw_g) (lwq_1 (List.mem_of_getElem? (i := 4) rfl) rfl : Cond.initialized yX6_whyNot.cls ∈ lw_g) (lwq_4 (dqc_m (dqc_m (dqc_m (dqc_m (dqa_m (List.mem_of_getElem? (i := 5) rfl)))))) rfl : Cond.code yX6_whyNot cX6_whyNot 6 (some .int) ∈ lw_g), ⟨nmh_6.1, nmh_6.2, pdq_23⟩, ⟨_, _, rfl⟩⟩
abbrev po_X10_eligible (T : Zt) (q m d : Int) : Zt → Option Zv → Prop := fun T' r => ∃ x : Int, r = some (vI x) ∧ fr_ [(533, [])] T T' ∧ (x = x)
abbrev cX10_match : ByteArray := prog_1_method_14_code
def yX10_match : MethodName := ⟨RX10, "match", "(II)I"⟩
def zX10_match : Zm := (RX10, cX10_match, 4, (some .int), { frames := 2, cells := 0, slots := 0, locals := 42 })
theorem ds_X10_match_22 : decode cX10_match 22 = .ok (.tableswitch 91 0 7 #[46, 54, 59, 64, 69, 74, 79, 85], 46) := by decide +kernel
set_option maxRecDepth 100000 in
theorem cl_X10_223 : cv_ RX10 223 yX2_phaseOfLife zX2_phaseOfLife 2 0 := ⟨gi_V (lwq_4 (dqc_m (dqa_m (dqa_m (dqa_m (List.mem_of_getElem? (i := 1) rfl))))) rfl : Cond.methodLink RX10 223 yX2_phaseOfLife ∈ lw_g) (lwq_4 (dqc_m (dqa_m (dqa_m (dqa_m (List.mem_of_getElem? (i := 2) rfl))))) rfl : Cond.instanceMethod yX2_phaseOfLife ∈ lw_g) (lwq_4 (dqc_m (dqa_m (dqa_m (dqa_m (List.mem_of_getElem? (i := 3) rfl))))) rfl : Cond.selects yX2_phaseOfLife.cls yX2_phaseOfLife yX2_phaseOfLife ∈ lw_g) (lwq_1 (dqa_m (dqa_m (List.mem_of_getElem? (i := 0) rfl))) rfl : Cond.initialized yX2_phaseOfLife.cls ∈ lw_g) (lwq_4 (dqc_m (dqa_m (dqa_m (dqa_m (List.mem_of_getElem? (i := 4) rfl))))) rfl : Cond.code yX2_phaseOfLife cX2_phaseOfLife 1 (some .int) ∈ lw_g), ⟨nmh_10.1, nmh_10.2, pdq_17⟩, ⟨_, _, rfl⟩⟩
set_option maxRecDepth 100000 in
theorem cl_X10_226 : cv_ RX10 226 yX2_scoreOf zX2_scoreOf 2 1 := ⟨gi_V (lwq_4 (dqc_m (dqa_m (dqa_m (dqa_m (List.mem_of_getElem? (i := 5) rfl))))) rfl : Cond.methodLink RX10 226 yX2_scoreOf ∈ lw_g) (lwq_4 (dqc_m (dqa_m (dqa_m (dqa_m (List.mem_of_getElem? (i := 6) rfl))))) rfl : Cond.instanceMethod yX2_scoreOf ∈ lw_g) (lwq_4 (dqc_m (dqa_m (dqa_m (dqa_m (List.mem_of_getElem? (i := 7) rfl))))) rfl : Cond.selects yX2_scoreOf.cls yX2_scoreOf yX2_scoreOf ∈ lw_g) (lwq_1 (dqa_m (dqa_m (List.mem_of_getElem? (i := 0) rfl))) rfl : Cond.initialized yX2_scoreOf.cls ∈ lw_g) (lwq_4 (dqc_m (dqc_m (List.mem_of_getElem? (i := 0) rfl))) rfl : Cond.code yX2_scoreOf cX2_scoreOf 2 (some .int) ∈ lw_g), ⟨nmh_10.1, nmh_10.2, pdq_15⟩, ⟨_, _, rfl⟩⟩
abbrev cX10_walkOver : ByteArray := prog_1_method_22_code
def yX10_walkOver : MethodName := ⟨RX10, "walkOver", "(II)I"⟩
def zX10_walkOver : Zm := (RX10, cX10_walkOver, 4, (some .int), { frames := 2, cells := 0, slots := 0, locals := 42 })
abbrev cX10_rows : ByteArray := prog_1_method_25_code
def yX10_rows : MethodName := ⟨RX10, "rows", "(II)I"⟩
def zX10_rows : Zm := (RX10, cX10_rows, 4, (some .int), { frames := 2, cells := 0, slots := 0, locals := 42 })
abbrev cX10_state : ByteArray := prog_1_method_27_code
def yX10_state : MethodName := ⟨RX10, "state", "(II)I"⟩
def zX10_state : Zm := (RX10, cX10_state, 4, (some .int), { frames := 2, cells := 0, slots := 0, locals := 42 })
theorem ds_X10_state_45 : decode cX10_state 45 = .ok (.tableswitch 67 0 5 #[39, 44, 44, 53, 53, 62], 39) := by decide +kernel
abbrev cX10_onField : ByteArray := prog_1_method_28_code
def yX10_onField : MethodName := ⟨RX10, "onField", "(III)I"⟩
def zX10_onField : Zm := (RX10, cX10_onField, 5, (some .int), { frames := 2, cells := 0, slots := 0, locals := 42 })
set_option maxRecDepth 100000 in
theorem cl_X10_346 : cv_ RX10 346 yX3_personAt zX3_personAt 3 2 := ⟨gi_V (lwq_5 (dqc_m (dqc_m (dqc_m (dqc_m (dqc_m (dqc_m (List.mem_of_getElem? (i := 3) rfl))))))) rfl : Cond.methodLink RX10 346 yX3_personAt ∈ lw_g) (lwq_5 (dqc_m (dqa_m (dqa_m (List.mem_of_getElem? (i := 1) rfl)))) rfl : Cond.instanceMethod yX3_personAt ∈ lw_g) (lwq_5 (dqc_m (dqa_m (dqa_m (List.mem_of_getElem? (i := 2) rfl)))) rfl : Cond.selects yX3_personAt.cls yX3_personAt yX3_personAt ∈ lw_g) (lwq_1 (dqa_m (dqa_m (List.mem_of_getElem? (i := 2) rfl))) rfl : Cond.initialized yX3_personAt.cls ∈ lw_g) (lwq_5 (dqc_m (dqa_m (dqa_m (List.mem_of_getElem? (i := 3) rfl)))) rfl : Cond.code yX3_personAt cX3_personAt 3 (some .int) ∈ lw_g), ⟨nmh_3.1, nmh_3.2, pdq_4⟩, ⟨_, _, rfl⟩⟩
abbrev cX10_breaks : ByteArray := prog_1_method_15_code
def yX10_breaks : MethodName := ⟨RX10, "breaks", "(II)I"⟩
def zX10_breaks : Zm := (RX10, cX10_breaks, 4, (some .int), { frames := 2, cells := 0, slots := 0, locals := 49 })
set_option maxRecDepth 100000 in
theorem cl_X10_230 : cv_ RX10 230 yX6_countBreaks zX6_countBreaks 6 2 := ⟨gi_V (lwq_4 (dqc_m (dqc_m (List.mem_of_getElem? (i := 5) rfl))) rfl : Cond.methodLink RX10 230 yX6_countBreaks ∈ lw_g) (lwq_4 (dqc_m (dqc_m (List.mem_of_getElem? (i := 6) rfl))) rfl : Cond.instanceMethod yX6_countBreaks ∈ lw_g) (lwq_4 (dqc_m (dqc_m (List.mem_of_getElem? (i := 7) rfl))) rfl : Cond.selects yX6_countBreaks.cls yX6_countBreaks yX6_countBreaks ∈ lw_g) (lwq_1 (List.mem_of_getElem? (i := 4) rfl) rfl : Cond.initialized yX6_countBreaks.cls ∈ lw_g) (lwq_4 (dqc_m (dqc_m (dqa_m (List.mem_of_getElem? (i := 0) rfl)))) rfl : Cond.code yX6_countBreaks cX6_countBreaks 9 (some .int) ∈ lw_g), ⟨nmh_6.1, nmh_6.2, pdq_24⟩, ⟨_, _, rfl⟩⟩
abbrev cX6_standAgainst : ByteArray := prog_8_method_8_code
def yX6_standAgainst : MethodName := ⟨RX6, "standAgainst", "(LSportsHouse$Match;LSportsHouse$Match;)Z"⟩
def zX6_standAgainst : Zm := (RX6, cX6_standAgainst, 4, (some .boolean), { frames := 2, cells := 0, slots := 0, locals := 42 })
set_option maxRecDepth 100000 in
theorem cl_X6_133 : cv_ RX6 133 yX2_rest zX2_rest 2 0 := ⟨gi_V (lwq_4 (dqc_m (dqc_m (dqc_m (List.mem_of_getElem? (i := 0) rfl)))) rfl : Cond.methodLink RX6 133 yX2_rest ∈ lw_g) (lwq_4 (dqc_m (dqc_m (dqc_m (List.mem_of_getElem? (i := 1) rfl)))) rfl : Cond.instanceMethod yX2_rest ∈ lw_g) (lwq_4 (dqc_m (dqc_m (dqc_m (List.mem_of_getElem? (i := 2) rfl)))) rfl : Cond.selects yX2_rest.cls yX2_rest yX2_rest ∈ lw_g) (lwq_1 (dqa_m (dqa_m (List.mem_of_getElem? (i := 0) rfl))) rfl : Cond.initialized yX2_rest.cls ∈ lw_g) (lwq_4 (dqc_m (dqc_m (dqc_m (List.mem_of_getElem? (i := 3) rfl)))) rfl : Cond.code yX2_rest cX2_rest 1 (some .int) ∈ lw_g), ⟨nmh_10.1, nmh_10.2, pdq_17⟩, ⟨_, _, rfl⟩⟩
set_option maxRecDepth 100000 in
theorem cl_X6_140 : cs_ RX6 140 yX6_shareClub zX6_shareClub 2 := ⟨gi_S (lwq_4 (dqc_m (dqc_m (dqc_m (List.mem_of_getElem? (i := 7) rfl)))) rfl : Cond.methodLink RX6 140 yX6_shareClub ∈ lw_g) (lwq_4 (dqc_m (dqc_m (dqc_m (dqa_m (List.mem_of_getElem? (i := 0) rfl))))) rfl : Cond.static yX6_shareClub ∈ lw_g) (lwq_1 (List.mem_of_getElem? (i := 4) rfl) rfl : Cond.initialized yX6_shareClub.cls ∈ lw_g) (lwq_4 (dqc_m (dqc_m (dqc_m (dqa_m (List.mem_of_getElem? (i := 1) rfl))))) rfl : Cond.code yX6_shareClub cX6_shareClub 2 (some .boolean) ∈ lw_g), ⟨by decide, by decide, by decide +kernel⟩⟩
abbrev cX6_listAgainst : ByteArray := prog_8_method_7_code
def yX6_listAgainst : MethodName := ⟨RX6, "listAgainst", "(LSportsHouse$Match;)I"⟩
def zX6_listAgainst : Zm := (RX6, cX6_listAgainst, 5, (some .int), { frames := 3, cells := 0, slots := 0, locals := 65 })
set_option maxRecDepth 100000 in
theorem cl_X6_112 : cv_ RX6 112 yX6_standAgainst zX6_standAgainst 6 2 := ⟨gi_V (lwq_4 (dqc_m (dqc_m (dqa_m (dqa_m (dqa_m (List.mem_of_getElem? (i := 1) rfl)))))) rfl : Cond.methodLink RX6 112 yX6_standAgainst ∈ lw_g) (lwq_4 (dqc_m (dqc_m (dqa_m (dqa_m (dqa_m (List.mem_of_getElem? (i := 3) rfl)))))) rfl : Cond.instanceMethod yX6_standAgainst ∈ lw_g) (lw_sel 126 rfl : Cond.selects yX6_standAgainst.cls yX6_standAgainst yX6_standAgainst ∈ lw_g) (lwq_1 (List.mem_of_getElem? (i := 4) rfl) rfl : Cond.initialized yX6_standAgainst.cls ∈ lw_g) (lwq_4 (dqc_m (dqc_m (dqa_m (dqa_m (dqa_m (List.mem_of_getElem? (i := 4) rfl)))))) rfl : Cond.code yX6_standAgainst cX6_standAgainst 4 (some .boolean) ∈ lw_g), ⟨nmh_6.1, nmh_6.2, pdq_25⟩, ⟨_, _, rfl⟩⟩
set_option maxRecDepth 100000 in
theorem cl_X6_116 : cv_ RX6 116 yX2_phaseOfLife zX2_phaseOfLife 2 0 := ⟨gi_V (lwq_4 (dqc_m (dqc_m (dqc_m (dqa_m (List.mem_of_getElem? (i := 2) rfl))))) rfl : Cond.methodLink RX6 116 yX2_phaseOfLife ∈ lw_g) (lwq_4 (dqc_m (dqa_m (dqa_m (dqa_m (List.mem_of_getElem? (i := 2) rfl))))) rfl : Cond.instanceMethod yX2_phaseOfLife ∈ lw_g) (lwq_4 (dqc_m (dqa_m (dqa_m (dqa_m (List.mem_of_getElem? (i := 3) rfl))))) rfl : Cond.selects yX2_phaseOfLife.cls yX2_phaseOfLife yX2_phaseOfLife ∈ lw_g) (lwq_1 (dqa_m (dqa_m (List.mem_of_getElem? (i := 0) rfl))) rfl : Cond.initialized yX2_phaseOfLife.cls ∈ lw_g) (lwq_4 (dqc_m (dqa_m (dqa_m (dqa_m (List.mem_of_getElem? (i := 4) rfl))))) rfl : Cond.code yX2_phaseOfLife cX2_phaseOfLife 1 (some .int) ∈ lw_g), ⟨nmh_10.1, nmh_10.2, pdq_17⟩, ⟨_, _, rfl⟩⟩
abbrev po_J7_fill_535 (T : Zt) (p : Int) (v : Int) : Zt → Option Zv → Prop := fun T' r => r = none ∧ fr_ [(535, [])] T T' ∧ oi_ T T' p ∧ ∀ j, 0 ≤ j → j < 1000 → T' 535 p j = v
set_option maxHeartbeats 4000000 in
theorem ct_J7_fill_535 {T : Zt} {p : Int} {v : Int} (h1 : 0 ≤ v ∧ v ≤ 1) : Ct_ yJ7_fill_53178 zJ7_fill_53178 T [vR 535 p, vI v] (po_J7_fill_535 T p v) := by
  refine ct_of (by decide) rfl rfl (Nat.le_of_ble_eq_true rfl) (fun hT hav => ?_)
  have hr_v : -2147483648 ≤ v ∧ v ≤ 2147483647 := hav (vI v) (List.mem_cons_of_mem _ List.mem_cons_self)
  have hz : zJ7_fill_53178.2.2.2.1 = some .boolean → ∀ (T' : Zt) (x : Int), po_J7_fill_535 T p v T' (some (vI x)) → 0 ≤ x ∧ x ≤ 1 := fun h => by cases h
  show J_ zJ7_fill_53178 T (po_J7_fill_535 T p v) 0 0 0 [some (vR 535 p), some (vI v), none, none] [] T
  have c_5 : ∀ (nn : Nat) (j : Int) (T1 : Zt), ((1000 - j).toNat) ≤ nn → (fr_ [(535, [])] T T1) → (0 ≤ j ∧ j ≤ 1000) → (oi_ T T1 p) → (∀ q, 0 ≤ q → q < j → T1 535 p q = v) → J_ zJ7_fill_53178 T (po_J7_fill_535 T p v) 0 0 5 [some (vR 535 p), some (vI v), some (vI j), some (vI 1000)] [] T1 := by
    intro nn
    induction nn using Nat.strongRecOn with
    | _ nn ih_5 =>
      intro j T1 hm_5 hf_5 i1 o1 f1
      replace hm_5 := fun (_ : Unit) => hm_5
      refine j_blx (F := fJ7) tb_J7 (nn_ _) bk_J7_fill_53178_5 bs_J7_fill_53178_5 hz (fun K hK => ?_)
      refine And.intro (fun c1 => ?_) (fun c1 => ?_)
      · refine hK 20 _ [] T1 ?_
        refine j_blx (F := fJ7) tb_J7 (nn_ _) bk_J7_fill_53178_20 bs_J7_fill_53178_20 hz (fun K hK => ?_)
        refine (show po_J7_fill_535 T p v T1 (none) from ?_)
        exact ⟨rfl, fr_t (fr_0 _ _) (fr_s hf_5 rfl), o1, fun q a b => f1 q a (by omega)⟩
      · refine iy_i (by omega) (by omega) ?_
        refine x_nm (fun U2 hU2 => ?_)
        have e3 := up_f hU2
        refine rg_i (by omega) ?_
        refine hK 5 [some (vR 535 p), some (vI v), some (vI (j + 1)), some (vI 1000)] [] U2 ?_
        refine ih_5 _ ?_ (j + 1) U2 (Nat.le_refl _) ?_ ?_ ?_ ?_
        · have hm_5 := hm_5 (); omega
        · exact fr_u (fr_t (fr_0 _ _) (fr_s hf_5 rfl)) hU2 rfl
        · omega
        · exact oi_u o1 hU2
        · intro q a b
          by_cases z : q = j
          · rw [z]; exact up_f hU2
          · rw [up_g hU2 (fun y => z y.2.2)]; exact f1 q a (by omega)
  refine j_blx (F := fJ7) tb_J7 (nn_ _) bk_J7_fill_53178_0 bs_J7_fill_53178_0 hz (fun K hK => ?_)
  refine hK 5 [some (vR 535 p), some (vI v), some (vI 0), some (vI 1000)] [] T ?_
  refine c_5 _ 0 T (Nat.le_refl _) ?_ ?_ ?_ ?_
  · exact fr_0 _ _
  · omega
  · exact oi_r
  · intro q a b; omega
abbrev cX6_blockDays : ByteArray := prog_8_method_11_code
def yX6_blockDays : MethodName := ⟨RX6, "blockDays", "(LSportsHouse$Match;)V"⟩
def zX6_blockDays : Zm := (RX6, cX6_blockDays, 7, none, { frames := 2, cells := 0, slots := 0, locals := 42 })
set_option maxRecDepth 100000 in
theorem cl_X6_150 : cs_ RX6 150 yJ7_fill_53178 zJ7_fill_53178 2 := ⟨gi_S (lwq_4 (dqc_m (dqc_m (dqc_m (dqa_m (dqa_m (List.mem_of_getElem? (i := 3) rfl)))))) rfl : Cond.methodLink RX6 150 yJ7_fill_53178 ∈ lw_g) (lwq_2 (dqa_m (dqa_m (dqa_m (List.mem_of_getElem? (i := 2) rfl)))) rfl : Cond.static yJ7_fill_53178 ∈ lw_g) (lwq_1 (List.mem_of_getElem? (i := 7) rfl) rfl : Cond.initialized yJ7_fill_53178.cls ∈ lw_g) (lwq_2 (dqa_m (dqa_m (dqa_m (List.mem_of_getElem? (i := 3) rfl)))) rfl : Cond.code yJ7_fill_53178 cJ7_fill_53178 4 none ∈ lw_g), ⟨by decide, by decide, by decide +kernel⟩⟩
abbrev cX6_goBehind : ByteArray := prog_8_method_10_code
def yX6_goBehind : MethodName := ⟨RX6, "goBehind", "(LSportsHouse$Match;II)Z"⟩
def zX6_goBehind : Zm := (RX6, cX6_goBehind, 5, (some .boolean), { frames := 3, cells := 0, slots := 0, locals := 68 })
set_option maxRecDepth 100000 in
theorem cl_X6_146 : cv_ RX6 146 yX6_blockDays zX6_blockDays 6 1 := ⟨gi_V (lwq_4 (dqc_m (dqc_m (dqc_m (dqa_m (List.mem_of_getElem? (i := 7) rfl))))) rfl : Cond.methodLink RX6 146 yX6_blockDays ∈ lw_g) (lwq_4 (dqc_m (dqc_m (dqc_m (dqa_m (dqa_m (List.mem_of_getElem? (i := 1) rfl)))))) rfl : Cond.instanceMethod yX6_blockDays ∈ lw_g) (lw_sel 121 rfl : Cond.selects yX6_blockDays.cls yX6_blockDays yX6_blockDays ∈ lw_g) (lwq_1 (List.mem_of_getElem? (i := 4) rfl) rfl : Cond.initialized yX6_blockDays.cls ∈ lw_g) (lwq_4 (dqc_m (dqc_m (dqc_m (dqa_m (dqa_m (List.mem_of_getElem? (i := 2) rfl)))))) rfl : Cond.code yX6_blockDays cX6_blockDays 7 none ∈ lw_g), ⟨nmh_6.1, nmh_6.2, pdq_26⟩, ⟨_, _, rfl⟩⟩
abbrev cX6_putOff : ByteArray := prog_8_method_6_code
def yX6_putOff : MethodName := ⟨RX6, "putOff", "(LSportsHouse$Match;I)I"⟩
def zX6_putOff : Zm := (RX6, cX6_putOff, 7, (some .int), { frames := 4, cells := 0, slots := 0, locals := 92 })
set_option maxRecDepth 100000 in
theorem cl_X6_102 : cv_ RX6 102 yX6_goBehind zX6_goBehind 6 3 := ⟨gi_V (lwq_4 (dqc_m (dqc_m (dqc_m (dqa_m (List.mem_of_getElem? (i := 3) rfl))))) rfl : Cond.methodLink RX6 102 yX6_goBehind ∈ lw_g) (lwq_4 (dqc_m (dqc_m (dqc_m (dqa_m (List.mem_of_getElem? (i := 5) rfl))))) rfl : Cond.instanceMethod yX6_goBehind ∈ lw_g) (lw_sel 122 rfl : Cond.selects yX6_goBehind.cls yX6_goBehind yX6_goBehind ∈ lw_g) (lwq_1 (List.mem_of_getElem? (i := 4) rfl) rfl : Cond.initialized yX6_goBehind.cls ∈ lw_g) (lwq_4 (dqc_m (dqc_m (dqc_m (dqa_m (List.mem_of_getElem? (i := 6) rfl))))) rfl : Cond.code yX6_goBehind cX6_goBehind 5 (some .boolean) ∈ lw_g), ⟨nmh_6.1, nmh_6.2, pdq_27⟩, ⟨_, _, rfl⟩⟩
set_option maxRecDepth 100000 in
theorem cl_X6_98 : cv_ RX6 98 yX6_listAgainst zX6_listAgainst 6 1 := ⟨gi_V (lwq_4 (dqc_m (dqc_m (dqa_m (dqa_m (List.mem_of_getElem? (i := 5) rfl))))) rfl : Cond.methodLink RX6 98 yX6_listAgainst ∈ lw_g) (lwq_4 (dqc_m (dqc_m (dqa_m (dqa_m (List.mem_of_getElem? (i := 7) rfl))))) rfl : Cond.instanceMethod yX6_listAgainst ∈ lw_g) (lw_sel 124 rfl : Cond.selects yX6_listAgainst.cls yX6_listAgainst yX6_listAgainst ∈ lw_g) (lwq_1 (List.mem_of_getElem? (i := 4) rfl) rfl : Cond.initialized yX6_listAgainst.cls ∈ lw_g) (lwq_4 (dqc_m (dqc_m (dqa_m (dqa_m (dqa_m (List.mem_of_getElem? (i := 0) rfl)))))) rfl : Cond.code yX6_listAgainst cX6_listAgainst 5 (some .int) ∈ lw_g), ⟨nmh_6.1, nmh_6.2, pdq_28⟩, ⟨_, _, rfl⟩⟩
abbrev cX10_postpone : ByteArray := prog_1_method_16_code
def yX10_postpone : MethodName := ⟨RX10, "postpone", "(II)I"⟩
def zX10_postpone : Zm := (RX10, cX10_postpone, 4, (some .int), { frames := 5, cells := 0, slots := 0, locals := 118 })
set_option maxRecDepth 100000 in
theorem cl_X10_234 : cv_ RX10 234 yX6_putOff zX6_putOff 6 2 := ⟨gi_V (lwq_4 (dqc_m (dqc_m (dqa_m (dqa_m (List.mem_of_getElem? (i := 1) rfl))))) rfl : Cond.methodLink RX10 234 yX6_putOff ∈ lw_g) (lwq_4 (dqc_m (dqc_m (dqa_m (dqa_m (List.mem_of_getElem? (i := 2) rfl))))) rfl : Cond.instanceMethod yX6_putOff ∈ lw_g) (lwq_4 (dqc_m (dqc_m (dqa_m (dqa_m (List.mem_of_getElem? (i := 3) rfl))))) rfl : Cond.selects yX6_putOff.cls yX6_putOff yX6_putOff ∈ lw_g) (lwq_1 (List.mem_of_getElem? (i := 4) rfl) rfl : Cond.initialized yX6_putOff.cls ∈ lw_g) (lwq_4 (dqc_m (dqc_m (dqa_m (dqa_m (List.mem_of_getElem? (i := 4) rfl))))) rfl : Cond.code yX6_putOff cX6_putOff 7 (some .int) ∈ lw_g), ⟨nmh_6.1, nmh_6.2, pdq_29⟩, ⟨_, _, rfl⟩⟩
