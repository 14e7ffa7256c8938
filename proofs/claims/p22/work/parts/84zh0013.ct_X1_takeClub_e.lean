theorem bk_X1_takeClub_e_16 : ck_ fX1 (some .int) cX1_takeClub 16 [.iload 3, .aload 0, .tableswitch 0 1 13 #[], .if_icmp .ge 48, .aload 0, .tableswitch 0 1 8 #[], .aload 0, .tableswitch 0 1 12 #[], .iload 3, .iaload, .iaload, .iload 1, .if_icmp .ne 42, .iinc 2 1, .iinc 3 1, .goto 16] 48 = true := qck_r (nn_ _) (by decide +kernel)
theorem bs_X1_takeClub_e_16 {P : Zt → Option Zv → Prop} (K : Int → Zl → List Zv → Zt → Prop) : sx_ K P [.iload 3, .aload 0, .tableswitch 0 1 13 #[], .if_icmp .ge 48, .aload 0, .tableswitch 0 1 8 #[], .aload 0, .tableswitch 0 1 12 #[], .iload 3, .iaload, .iaload, .iload 1, .if_icmp .ne 42, .iinc 2 1, .iinc 3 1, .goto 16] 48 = x_iload 3 (x_aload 0 (x_g0 101 13 0 12 (x_if_icmp .ge 48 K (x_aload 0 (x_g1 101 428 (x_aload 0 (x_g1 101 432 (x_iload 3 (x_iaload (x_iaload (x_iload 1 (x_if_icmp .ne 42 K (x_iinc 2 1 (x_iinc 3 1 (x_goto 16 K))))))))))))))) := ((xe_iload 3).trans (congrArg (x_iload 3) ((xe_aload 0).trans (congrArg (x_aload 0) ((xe_g0 (kk := 101) rfl tl_1_13).trans (congrArg (x_g0 101 13 0 12) ((xe_if_icmp .ge 48).trans (congrArg (x_if_icmp .ge 48 K) ((xe_aload 0).trans (congrArg (x_aload 0) ((xe_g1 (kk := 101) rfl tl_1_8).trans (congrArg (x_g1 101 428) ((xe_aload 0).trans (congrArg (x_aload 0) ((xe_g1 (kk := 101) rfl tl_1_12).trans (congrArg (x_g1 101 432) ((xe_iload 3).trans (congrArg (x_iload 3) ((xe_iaload).trans (congrArg (x_iaload) ((xe_iaload).trans (congrArg (x_iaload) ((xe_iload 1).trans (congrArg (x_iload 1) ((xe_if_icmp .ne 42).trans (congrArg (x_if_icmp .ne 42 K) ((xe_iinc 2 1).trans (congrArg (x_iinc 2 1) ((xe_iinc 3 1).trans (congrArg (x_iinc 3 1) (xe_goto 16)))))))))))))))))))))))))))))))
theorem bk_X1_takeClub_e_48 : ck_ fX1 (some .int) cX1_takeClub 48 [.aload 0, .tableswitch 0 1 12 #[], .aload 0, .iload 2] 54 = true := qck_r (nn_ _) (by decide +kernel)
theorem bs_X1_takeClub_e_48 {P : Zt → Option Zv → Prop} (K : Int → Zl → List Zv → Zt → Prop) : sx_ K P [.aload 0, .tableswitch 0 1 12 #[], .aload 0, .iload 2] 54 = x_aload 0 (x_g1 101 432 (x_aload 0 (x_iload 2 (K 54)))) := ((xe_aload 0).trans (congrArg (x_aload 0) ((xe_g1 (kk := 101) rfl tl_1_12).trans (congrArg (x_g1 101 432) ((xe_aload 0).trans (congrArg (x_aload 0) ((xe_iload 2).trans (congrArg (x_iload 2) xe_nil))))))))
theorem bk_X1_takeClub_e_57 : ck_ fX1 (some .int) cX1_takeClub 57 [.iaload, .ireturn] 59 = true := qck_r (nn_ _) (by decide +kernel)
theorem bs_X1_takeClub_e_57 {P : Zt → Option Zv → Prop} (K : Int → Zl → List Zv → Zt → Prop) : sx_ K P [.iaload, .ireturn] 59 = x_iaload (x_ireturn P) := ((xe_iaload).trans (congrArg (x_iaload) (xe_ireturn)))
theorem bk_X1_takeClub_e_42 : ck_ fX1 (some .int) cX1_takeClub 42 [.iinc 3 1, .goto 16] 48 = true := qck_r (nn_ _) (by decide +kernel)
theorem bs_X1_takeClub_e_42 {P : Zt → Option Zv → Prop} (K : Int → Zl → List Zv → Zt → Prop) : sx_ K P [.iinc 3 1, .goto 16] 48 = x_iinc 3 1 (x_goto 16 K) := ((xe_iinc 3 1).trans (congrArg (x_iinc 3 1) (xe_goto 16)))
theorem bk_X1_takeClub_e_0 : ck_ fX1 (some .int) cX1_takeClub 0 [.aload 0, .tableswitch 0 1 8 #[], .aload 0, .tableswitch 0 1 12 #[], .iconst 0, .iaload, .iaload, .istore 1, .iconst 0, .istore 2, .iconst 0, .istore 3] 16 = true := qck_r (nn_ _) (by decide +kernel)
theorem bs_X1_takeClub_e_0 {P : Zt → Option Zv → Prop} (K : Int → Zl → List Zv → Zt → Prop) : sx_ K P [.aload 0, .tableswitch 0 1 8 #[], .aload 0, .tableswitch 0 1 12 #[], .iconst 0, .iaload, .iaload, .istore 1, .iconst 0, .istore 2, .iconst 0, .istore 3] 16 = x_aload 0 (x_g1 101 428 (x_aload 0 (x_g1 101 432 (x_iconst 0 (x_iaload (x_iaload (x_istore 1 (x_iconst 0 (x_istore 2 (x_iconst 0 (x_istore 3 (K 16)))))))))))) := ((xe_aload 0).trans (congrArg (x_aload 0) ((xe_g1 (kk := 101) rfl tl_1_8).trans (congrArg (x_g1 101 428) ((xe_aload 0).trans (congrArg (x_aload 0) ((xe_g1 (kk := 101) rfl tl_1_12).trans (congrArg (x_g1 101 432) ((xe_iconst 0).trans (congrArg (x_iconst 0) ((xe_iaload).trans (congrArg (x_iaload) ((xe_iaload).trans (congrArg (x_iaload) ((xe_istore 1).trans (congrArg (x_istore 1) ((xe_iconst 0).trans (congrArg (x_iconst 0) ((xe_istore 2).trans (congrArg (x_istore 2) ((xe_iconst 0).trans (congrArg (x_iconst 0) ((xe_istore 3).trans (congrArg (x_istore 3) xe_nil))))))))))))))))))))))))
abbrev po_X1_takeClub_e (T : Zt) : Zt → Option Zv → Prop := fun T' r => ∃ x : Int, r = some (vI x) ∧ fr_ [(101, [5])] T T' ∧ (x = T 432 0 (tb9_ (cpw_ T (T 428 0 (T 432 0 0)) (T 101 0 13).toNat) (T 101 0 5)).1 ∧ T' 101 0 5 = (tb9_ (cpw_ T (T 428 0 (T 432 0 0)) (T 101 0 13).toNat) (T 101 0 5)).2 ∧ 1 ≤ cpw_ T (T 428 0 (T 432 0 0)) (T 101 0 13).toNat ∧ (0 ≤ (tb9_ (cpw_ T (T 428 0 (T 432 0 0)) (T 101 0 13).toNat) (T 101 0 5)).1 ∧ (tb9_ (cpw_ T (T 428 0 (T 432 0 0)) (T 101 0 13).toNat) (T 101 0 5)).1 < T 101 0 13) ∧ 0 ≤ x ∧ x < 12)
set_option maxHeartbeats 4000000 in
theorem ct_X1_takeClub_e {T : Zt} (h1 : 1 ≤ T 101 0 13) : Ct_ yX1_takeClub zX1_takeClub T [vR 101 0] (po_X1_takeClub_e T) := by
  refine ct_of pn_1 rfl rfl (Nat.le_of_ble_eq_true rfl) (fun hT hav => ?_)
  have hz : zX1_takeClub.2.2.2.1 = some .boolean → ∀ (T' : Zt) (x : Int), po_X1_takeClub_e T T' (some (vI x)) → 0 ≤ x ∧ x ≤ 1 := fun h => by cases h
  have hwc : 0 ≤ T 101 0 13 ∧ T 101 0 13 ≤ 12 := bd_f hT 101 13 tl_1_13 0
  show J_ zX1_takeClub T (po_X1_takeClub_e T) 0 0 0 [some (vR 101 0), none, none, none] [] T
  have c_16 : ∀ (nn : Nat) (n : Int) (k : Int), ((12 - k).toNat) ≤ nn → (0 ≤ n ∧ n ≤ k ∧ 0 ≤ k ∧ k ≤ T 101 0 13) → (n = cpw_ T (T 428 0 (T 432 0 0)) k.toNat) → J_ zX1_takeClub T (po_X1_takeClub_e T) 0 0 16 [some (vR 101 0), some (vI (T 428 0 (T 432 0 0))), some (vI n), some (vI k)] [] T := by
    intro nn
    induction nn using Nat.strongRecOn with
    | _ nn ih_16 =>
      intro n k hm_16 i1 ic
      replace hm_16 := fun (_ : Unit) => hm_16
      refine j_blx (F := fX1) tb_X1 (nn_ _) bk_X1_takeClub_e_16 bs_X1_takeClub_e_16 hz (fun K hK => ?_)
      intro b1 b1b
      refine And.intro (fun c2 => ?_) (fun c2 => ?_)
      · refine hK 48 _ [] T ?_
        have hk : k = T 101 0 13 := by omega
        have hn1 : 0 < n := by
          have y := cnz_p (f := fun j => T 428 0 (T 432 0 j)) (v := (T 428 0 (T 432 0 0))) (j := 0) (by decide) rfl k.toNat (by omega)
          have z : n = cnz_ (fun j => T 428 0 (T 432 0 j)) (T 428 0 (T 432 0 0)) k.toNat := ic
          omega
        refine j_blx (F := fX1) tb_X1 (nn_ _) bk_X1_takeClub_e_48 bs_X1_takeClub_e_48 hz (fun K hK => ?_)
        refine hK 54 _ [vI n, vR 101 0, vR 432 0] T ?_
        refine j_callV (y := yX1_takeBelow) (Yc := zX1_takeBelow) (rest := [vR 432 0]) [vI n] (ct_X1_takeBelow_e (T := T) (by omega)) cl_X1_75 (qd_c (by decide +kernel)) (nn_ _) rfl (rf_of rfl) (Nat.le_of_ble_eq_true rfl) (Nat.le_of_ble_eq_true rfl) (Nat.le_of_ble_eq_true rfl) rfl ?_
        rintro U3 _ ⟨x4, rfl, fU3, qU3⟩
        show J_ zX1_takeClub T (po_X1_takeClub_e T) 0 0 57 _ [vI x4, vR 432 0] U3
        refine j_blx (F := fX1) tb_X1 (nn_ _) bk_X1_takeClub_e_57 bs_X1_takeClub_e_57 hz (fun K hK => ?_)
        refine ix_i (by omega) ?_
        intro b5 b5b
        have e6 : U3 432 0 x4 = T 432 0 x4 := fU3 432 0 x4 rfl
        rw [e6] at b5 b5b ⊢
        refine (show po_X1_takeClub_e T U3 (some (vI (T 432 0 x4))) from ?_)
        have hcp : n = cpw_ T (T 428 0 (T 432 0 0)) (T 101 0 13).toNat := by rw [← hk]; exact ic
        have y1 : x4 = (tb9_ (cpw_ T (T 428 0 (T 432 0 0)) (T 101 0 13).toNat) (T 101 0 5)).1 := by rw [← hcp]; exact qU3.1
        have y2 : U3 101 0 5 = (tb9_ (cpw_ T (T 428 0 (T 432 0 0)) (T 101 0 13).toNat) (T 101 0 5)).2 := by rw [← hcp]; exact qU3.2.1
        exact ⟨_, rfl, fr_t (fr_0 _ _) (fr_s fU3 rfl), by rw [← y1], y2, by omega, by omega, by omega, by omega⟩
      · refine ix_i (by omega) ?_
        intro b7 b7b
        refine ix_i (by omega) ?_
        intro b8 b8b
        refine And.intro (fun c9 => ?_) (fun c9 => ?_)
        · refine hK 42 _ [] T ?_
          refine j_blx (F := fX1) tb_X1 (nn_ _) bk_X1_takeClub_e_42 bs_X1_takeClub_e_42 hz (fun K hK => ?_)
          refine rg_i (by omega) ?_
          refine hK 16 [some (vR 101 0), some (vI (T 428 0 (T 432 0 0))), some (vI n), some (vI (k + 1))] [] T ?_
          refine ih_16 _ ?_ n (k + 1) (Nat.le_refl _) ?_ ?_
          · have hm_16 := hm_16 (); omega
          · omega
          · show n = cnz_ _ _ _
            rw [cnz_f (f := fun j => T 428 0 (T 432 0 j)) (v := (T 428 0 (T 432 0 0))) (k := k) (by omega) (show ¬ T 428 0 (T 432 0 k) = (T 428 0 (T 432 0 0)) by omega)]
            exact ic
        · refine rg_i (by omega) ?_
          refine rg_i (by omega) ?_
          refine hK 16 [some (vR 101 0), some (vI (T 428 0 (T 432 0 0))), some (vI (n + 1)), some (vI (k + 1))] [] T ?_
          refine ih_16 _ ?_ (n + 1) (k + 1) (Nat.le_refl _) ?_ ?_
          · have hm_16 := hm_16 (); omega
          · omega
          · show _ = cnz_ _ _ _
            rw [cnz_t (f := fun j => T 428 0 (T 432 0 j)) (v := (T 428 0 (T 432 0 0))) (k := k) (by omega) (show T 428 0 (T 432 0 k) = (T 428 0 (T 432 0 0)) by omega)]
            have y : n = cnz_ (fun j => T 428 0 (T 432 0 j)) (T 428 0 (T 432 0 0)) k.toNat := ic
            omega
  refine j_blx (F := fX1) tb_X1 (nn_ _) bk_X1_takeClub_e_0 bs_X1_takeClub_e_0 hz (fun K hK => ?_)
  refine ix_i (by omega) ?_
  intro b10 b10b
  refine ix_i (by omega) ?_
  intro b11 b11b
  refine hK 16 [some (vR 101 0), some (vI (T 428 0 (T 432 0 0))), some (vI 0), some (vI 0)] [] T ?_
  refine c_16 _ 0 0 (Nat.le_refl _) ?_ ?_
  · omega
  · rfl
