theorem bk_X3_benchPlace_e_2 : ck_ fX3 (some .int) cX3_benchPlace 2 [.iload 3, .aload 0, .tableswitch 0 3 2 #[], .iload 1, .iaload, .if_icmp .ge 50, .iload 1, .iconst 10, .imul, .iload 3, .iadd, .istore 4, .aload 0, .tableswitch 0 3 1 #[], .iload 4, .iaload, .iload 2, .if_icmp .ne 44, .aload 0, .tableswitch 0 3 12 #[], .iload 4, .iaload, .ifCond .ne 44, .iload 4, .ireturn] 44 = true := qck_r (nn_ _) (by decide +kernel)
theorem bs_X3_benchPlace_e_2 {P : Zt → Option Zv → Prop} (K : Int → Zl → List Zv → Zt → Prop) : sx_ K P [.iload 3, .aload 0, .tableswitch 0 3 2 #[], .iload 1, .iaload, .if_icmp .ge 50, .iload 1, .iconst 10, .imul, .iload 3, .iadd, .istore 4, .aload 0, .tableswitch 0 3 1 #[], .iload 4, .iaload, .iload 2, .if_icmp .ne 44, .aload 0, .tableswitch 0 3 12 #[], .iload 4, .iaload, .ifCond .ne 44, .iload 4, .ireturn] 44 = x_iload 3 (x_aload 0 (x_g2 103 449 (x_iload 1 (x_iaload (x_if_icmp .ge 50 K (x_iload 1 (x_iconst 10 (x_imul (x_iload 3 (x_iadd (x_istore 4 (x_aload 0 (x_g2 103 448 (x_iload 4 (x_iaload (x_iload 2 (x_if_icmp .ne 44 K (x_aload 0 (x_g2 103 472 (x_iload 4 (x_iaload (x_ifCond .ne 44 K (x_iload 4 (x_ireturn P)))))))))))))))))))))))) := ((xe_iload 3).trans (congrArg (x_iload 3) ((xe_aload 0).trans (congrArg (x_aload 0) ((xe_g2 (kk := 103) rfl tl_3_2).trans (congrArg (x_g2 103 449) ((xe_iload 1).trans (congrArg (x_iload 1) ((xe_iaload).trans (congrArg (x_iaload) ((xe_if_icmp .ge 50).trans (congrArg (x_if_icmp .ge 50 K) ((xe_iload 1).trans (congrArg (x_iload 1) ((xe_iconst 10).trans (congrArg (x_iconst 10) ((xe_imul).trans (congrArg (x_imul) ((xe_iload 3).trans (congrArg (x_iload 3) ((xe_iadd).trans (congrArg (x_iadd) ((xe_istore 4).trans (congrArg (x_istore 4) ((xe_aload 0).trans (congrArg (x_aload 0) ((xe_g2 (kk := 103) rfl tl_3_1).trans (congrArg (x_g2 103 448) ((xe_iload 4).trans (congrArg (x_iload 4) ((xe_iaload).trans (congrArg (x_iaload) ((xe_iload 2).trans (congrArg (x_iload 2) ((xe_if_icmp .ne 44).trans (congrArg (x_if_icmp .ne 44 K) ((xe_aload 0).trans (congrArg (x_aload 0) ((xe_g2 (kk := 103) rfl tl_3_12).trans (congrArg (x_g2 103 472) ((xe_iload 4).trans (congrArg (x_iload 4) ((xe_iaload).trans (congrArg (x_iaload) ((xe_ifCond .ne 44).trans (congrArg (x_ifCond .ne 44 K) ((xe_iload 4).trans (congrArg (x_iload 4) (xe_ireturn)))))))))))))))))))))))))))))))))))))))))))))))))
theorem bk_X3_benchPlace_e_50 : ck_ fX3 (some .int) cX3_benchPlace 50 [.iconst (-1), .ireturn] 52 = true := qck_r (nn_ _) (by decide +kernel)
theorem bs_X3_benchPlace_e_50 {P : Zt → Option Zv → Prop} (K : Int → Zl → List Zv → Zt → Prop) : sx_ K P [.iconst (-1), .ireturn] 52 = x_iconst (-1) (x_ireturn P) := ((xe_iconst (-1)).trans (congrArg (x_iconst (-1)) (xe_ireturn)))
theorem bk_X3_benchPlace_e_44 : ck_ fX3 (some .int) cX3_benchPlace 44 [.iinc 3 1, .goto 2] 50 = true := qck_r (nn_ _) (by decide +kernel)
theorem bs_X3_benchPlace_e_44 {P : Zt → Option Zv → Prop} (K : Int → Zl → List Zv → Zt → Prop) : sx_ K P [.iinc 3 1, .goto 2] 50 = x_iinc 3 1 (x_goto 2 K) := ((xe_iinc 3 1).trans (congrArg (x_iinc 3 1) (xe_goto 2)))
theorem bk_X3_benchPlace_e_0 : ck_ fX3 (some .int) cX3_benchPlace 0 [.iconst 0, .istore 3] 2 = true := qck_r (nn_ _) (by decide +kernel)
theorem bs_X3_benchPlace_e_0 {P : Zt → Option Zv → Prop} (K : Int → Zl → List Zv → Zt → Prop) : sx_ K P [.iconst 0, .istore 3] 2 = x_iconst 0 (x_istore 3 (K 2)) := ((xe_iconst 0).trans (congrArg (x_iconst 0) ((xe_istore 3).trans (congrArg (x_istore 3) xe_nil))))
abbrev po_X3_benchPlace_e (T : Zt) (p : Int) (s q : Int) : Zt → Option Zv → Prop := fun T' r => T = T' ∧ r = some (vI (bq9_ (rs9_ T p) s q))
set_option maxHeartbeats 4000000 in
theorem ct_X3_benchPlace_e {T : Zt} {p : Int} {s q : Int} (hs : 0 ≤ s ∧ s ≤ 1) : Ct_ yX3_benchPlace zX3_benchPlace T [vR 103 p, vI s, vI q] (po_X3_benchPlace_e T p s q) := by
  refine ct_of pn_3 rfl rfl (Nat.le_of_ble_eq_true rfl) (fun hT hav => ?_)
  have hr_s : -2147483648 ≤ s ∧ s ≤ 2147483647 := hav (vI s) (List.mem_cons_of_mem _ List.mem_cons_self)
  have hr_q : -2147483648 ≤ q ∧ q ≤ 2147483647 := hav (vI q) (List.mem_cons_of_mem _ (List.mem_cons_of_mem _ List.mem_cons_self))
  have hz : zX3_benchPlace.2.2.2.1 = some .boolean → ∀ (T' : Zt) (x : Int), po_X3_benchPlace_e T p s q T' (some (vI x)) → 0 ≤ x ∧ x ≤ 1 := fun h => by cases h
  have hls : 0 ≤ T 449 p s ∧ T 449 p s ≤ 10 := bd_a hT 449 (by decide +kernel : ta_ 449 = some (1, some 2, 0, 10)) p (by omega)
  show J_ zX3_benchPlace T (po_X3_benchPlace_e T p s q) 0 0 0 [some (vR 103 p), some (vI s), some (vI q), none, none] [] T
  have c_2 : ∀ (nn : Nat) (k : Int), ((10 - k).toNat) ≤ nn → (0 ≤ k) → (bq9_ (rs9_ T p) s q = bpn_ (rs9_ T p) s q (T 449 p s - k).toNat k) → J_ zX3_benchPlace T (po_X3_benchPlace_e T p s q) 0 0 2 [some (vR 103 p), some (vI s), some (vI q), some (vI k), none] [] T := by
    intro nn
    induction nn using Nat.strongRecOn with
    | _ nn ih_2 =>
      intro k hm_2 i1 ibp
      replace hm_2 := fun (_ : Unit) => hm_2
      refine j_blx (F := fX3) tb_X3 (nn_ _) bk_X3_benchPlace_e_2 bs_X3_benchPlace_e_2 hz (fun K hK => ?_)
      refine ix_i (by omega) ?_
      intro b1 b1b
      refine And.intro (fun c2 => ?_) (fun c2 => ?_)
      · refine hK 50 _ [] T ?_
        refine j_blx (F := fX3) tb_X3 (nn_ _) bk_X3_benchPlace_e_50 bs_X3_benchPlace_e_50 hz (fun K hK => ?_)
        refine (show po_X3_benchPlace_e T p s q T (some (vI (-1))) from ?_)
        have e9 : bq9_ (rs9_ T p) s q = -1 := by rw [ibp, show (T 449 p s - k).toNat = 0 by omega]; rfl
        exact ⟨rfl, by rw [e9]⟩
      · refine rg_i (by omega) ?_
        refine rg_i (by omega) ?_
        refine ix_i (by omega) ?_
        intro b3 b3b
        refine And.intro (fun c4 => ?_) (fun c4 => ?_)
        · refine hK 44 [some (vR 103 p), some (vI s), some (vI q), some (vI k), some (vI ((s * 10) + k))] [] T ?_
          refine j_blx (F := fX3) tb_X3 (nn_ _) bk_X3_benchPlace_e_44 bs_X3_benchPlace_e_44 hz (fun K hK => ?_)
          refine rg_i (by omega) ?_
          refine hK 2 [some (vR 103 p), some (vI s), some (vI q), some (vI (k + 1)), some (vI ((s * 10) + k))] [] T ?_
          refine j_drop [some (vR 103 p), some (vI s), some (vI q), some (vI (k + 1)), none] (fun k v hk => ?_) rfl ?_
          · match k, hk with
            | 0, hk => exact hk
            | 1, hk => exact hk
            | 2, hk => exact hk
            | 3, hk => exact hk
            | 4, hk => cases hk
            | k + 5, hk => cases hk
          refine ih_2 _ ?_ (k + 1) (Nat.le_refl _) ?_ ?_
          · have hm_2 := hm_2 (); omega
          · omega
          · rw [ibp, show (T 449 p s - k).toNat = (T 449 p s - (k + 1)).toNat + 1 by omega]
            exact bpn_f (a := rs9_ T p) (show ¬ (T 448 p (s * 10 + k) = q ∧ T 472 p (s * 10 + k) = 0) by omega)
        · refine ix_i (by omega) ?_
          intro b5 b5b
          refine And.intro (fun c6 => ?_) (fun c6 => ?_)
          · refine hK 44 [some (vR 103 p), some (vI s), some (vI q), some (vI k), some (vI ((s * 10) + k))] [] T ?_
            refine j_blx (F := fX3) tb_X3 (nn_ _) bk_X3_benchPlace_e_44 bs_X3_benchPlace_e_44 hz (fun K hK => ?_)
            refine rg_i (by omega) ?_
            refine hK 2 [some (vR 103 p), some (vI s), some (vI q), some (vI (k + 1)), some (vI ((s * 10) + k))] [] T ?_
            refine j_drop [some (vR 103 p), some (vI s), some (vI q), some (vI (k + 1)), none] (fun k v hk => ?_) rfl ?_
            · match k, hk with
              | 0, hk => exact hk
              | 1, hk => exact hk
              | 2, hk => exact hk
              | 3, hk => exact hk
              | 4, hk => cases hk
              | k + 5, hk => cases hk
            refine ih_2 _ ?_ (k + 1) (Nat.le_refl _) ?_ ?_
            · have hm_2 := hm_2 (); omega
            · omega
            · rw [ibp, show (T 449 p s - k).toNat = (T 449 p s - (k + 1)).toNat + 1 by omega]
              exact bpn_f (a := rs9_ T p) (show ¬ (T 448 p (s * 10 + k) = q ∧ T 472 p (s * 10 + k) = 0) by omega)
          · refine (show po_X3_benchPlace_e T p s q T (some (vI ((s * 10) + k))) from ?_)
            have e9 : bq9_ (rs9_ T p) s q = s * 10 + k := by rw [ibp, show (T 449 p s - k).toNat = (T 449 p s - (k + 1)).toNat + 1 by omega]; exact bpn_t (a := rs9_ T p) (show T 448 p (s * 10 + k) = q ∧ T 472 p (s * 10 + k) = 0 by omega)
            exact ⟨rfl, by rw [e9]⟩
  refine j_blx (F := fX3) tb_X3 (nn_ _) bk_X3_benchPlace_e_0 bs_X3_benchPlace_e_0 hz (fun K hK => ?_)
  refine hK 2 [some (vR 103 p), some (vI s), some (vI q), some (vI 0), none] [] T ?_
  refine c_2 _ 0 (Nat.le_refl _) ?_ ?_
  · omega
  · rw [show T 449 p s - 0 = T 449 p s by omega]
    (try rfl)
