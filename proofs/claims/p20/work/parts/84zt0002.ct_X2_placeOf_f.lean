theorem bk_X2_placeOf_f_9 : ck_ fX2 (some .int) cX2_placeOf 9 [.iload 3, .aload 0, .tableswitch 0 2 9 #[], .iload 2, .iaload, .if_icmp .ge 47, .aload 0, .tableswitch 0 2 8 #[], .iload 2, .iconst 10, .imul, .iload 3, .iadd, .iaload, .iload 1, .if_icmp .ne 41, .iload 2, .iconst 10, .imul, .iload 3, .iadd, .ireturn] 41 = true := qck_r (nn_ _) (by decide +kernel)
theorem bs_X2_placeOf_f_9 {P : Zt → Option Zv → Prop} (K : Int → Zl → List Zv → Zt → Prop) : sx_ K P [.iload 3, .aload 0, .tableswitch 0 2 9 #[], .iload 2, .iaload, .if_icmp .ge 47, .aload 0, .tableswitch 0 2 8 #[], .iload 2, .iconst 10, .imul, .iload 3, .iadd, .iaload, .iload 1, .if_icmp .ne 41, .iload 2, .iconst 10, .imul, .iload 3, .iadd, .ireturn] 41 = x_iload 3 (x_aload 0 (x_g2 102 449 (x_iload 2 (x_iaload (x_if_icmp .ge 47 K (x_aload 0 (x_g2 102 448 (x_iload 2 (x_iconst 10 (x_imul (x_iload 3 (x_iadd (x_iaload (x_iload 1 (x_if_icmp .ne 41 K (x_iload 2 (x_iconst 10 (x_imul (x_iload 3 (x_iadd (x_ireturn P))))))))))))))))))))) := ((xe_iload 3).trans (congrArg (x_iload 3) ((xe_aload 0).trans (congrArg (x_aload 0) ((xe_g2 (kk := 102) rfl tl_2_9).trans (congrArg (x_g2 102 449) ((xe_iload 2).trans (congrArg (x_iload 2) ((xe_iaload).trans (congrArg (x_iaload) ((xe_if_icmp .ge 47).trans (congrArg (x_if_icmp .ge 47 K) ((xe_aload 0).trans (congrArg (x_aload 0) ((xe_g2 (kk := 102) rfl tl_2_8).trans (congrArg (x_g2 102 448) ((xe_iload 2).trans (congrArg (x_iload 2) ((xe_iconst 10).trans (congrArg (x_iconst 10) ((xe_imul).trans (congrArg (x_imul) ((xe_iload 3).trans (congrArg (x_iload 3) ((xe_iadd).trans (congrArg (x_iadd) ((xe_iaload).trans (congrArg (x_iaload) ((xe_iload 1).trans (congrArg (x_iload 1) ((xe_if_icmp .ne 41).trans (congrArg (x_if_icmp .ne 41 K) ((xe_iload 2).trans (congrArg (x_iload 2) ((xe_iconst 10).trans (congrArg (x_iconst 10) ((xe_imul).trans (congrArg (x_imul) ((xe_iload 3).trans (congrArg (x_iload 3) ((xe_iadd).trans (congrArg (x_iadd) (xe_ireturn)))))))))))))))))))))))))))))))))))))))))))
theorem bk_X2_placeOf_f_47 : ck_ fX2 (some .int) cX2_placeOf 47 [.iinc 2 1, .goto 2] 53 = true := qck_r (nn_ _) (by decide +kernel)
theorem bs_X2_placeOf_f_47 {P : Zt → Option Zv → Prop} (K : Int → Zl → List Zv → Zt → Prop) : sx_ K P [.iinc 2 1, .goto 2] 53 = x_iinc 2 1 (x_goto 2 K) := ((xe_iinc 2 1).trans (congrArg (x_iinc 2 1) (xe_goto 2)))
theorem bk_X2_placeOf_f_41 : ck_ fX2 (some .int) cX2_placeOf 41 [.iinc 3 1, .goto 9] 47 = true := qck_r (nn_ _) (by decide +kernel)
theorem bs_X2_placeOf_f_41 {P : Zt → Option Zv → Prop} (K : Int → Zl → List Zv → Zt → Prop) : sx_ K P [.iinc 3 1, .goto 9] 47 = x_iinc 3 1 (x_goto 9 K) := ((xe_iinc 3 1).trans (congrArg (x_iinc 3 1) (xe_goto 9)))
theorem bk_X2_placeOf_f_2 : ck_ fX2 (some .int) cX2_placeOf 2 [.iload 2, .iconst 2, .if_icmp .ge 53, .iconst 0, .istore 3] 9 = true := qck_r (nn_ _) (by decide +kernel)
theorem bs_X2_placeOf_f_2 {P : Zt → Option Zv → Prop} (K : Int → Zl → List Zv → Zt → Prop) : sx_ K P [.iload 2, .iconst 2, .if_icmp .ge 53, .iconst 0, .istore 3] 9 = x_iload 2 (x_iconst 2 (x_if_icmp .ge 53 K (x_iconst 0 (x_istore 3 (K 9))))) := ((xe_iload 2).trans (congrArg (x_iload 2) ((xe_iconst 2).trans (congrArg (x_iconst 2) ((xe_if_icmp .ge 53).trans (congrArg (x_if_icmp .ge 53 K) ((xe_iconst 0).trans (congrArg (x_iconst 0) ((xe_istore 3).trans (congrArg (x_istore 3) xe_nil))))))))))
theorem bk_X2_placeOf_f_53 : ck_ fX2 (some .int) cX2_placeOf 53 [.iconst (-1), .ireturn] 55 = true := qck_r (nn_ _) (by decide +kernel)
theorem bs_X2_placeOf_f_53 {P : Zt → Option Zv → Prop} (K : Int → Zl → List Zv → Zt → Prop) : sx_ K P [.iconst (-1), .ireturn] 55 = x_iconst (-1) (x_ireturn P) := ((xe_iconst (-1)).trans (congrArg (x_iconst (-1)) (xe_ireturn)))
theorem bk_X2_placeOf_f_0 : ck_ fX2 (some .int) cX2_placeOf 0 [.iconst 0, .istore 2] 2 = true := qck_r (nn_ _) (by decide +kernel)
theorem bs_X2_placeOf_f_0 {P : Zt → Option Zv → Prop} (K : Int → Zl → List Zv → Zt → Prop) : sx_ K P [.iconst 0, .istore 2] 2 = x_iconst 0 (x_istore 2 (K 2)) := ((xe_iconst 0).trans (congrArg (x_iconst 0) ((xe_istore 2).trans (congrArg (x_istore 2) xe_nil))))
abbrev po_X2_placeOf_f (T : Zt) (p : Int) (q : Int) : Zt → Option Zv → Prop := fun T' r => T = T' ∧ ∃ x : Int, r = some (vI x) ∧ (x = plc_ T p q)
set_option maxHeartbeats 4000000 in
theorem ct_X2_placeOf_f {T : Zt} {p : Int} {q : Int} : Ct_ yX2_placeOf zX2_placeOf T [vR 102 p, vI q] (po_X2_placeOf_f T p q) := by
  refine ct_of pn_2 rfl rfl (Nat.le_of_ble_eq_true rfl) (fun hT hav => ?_)
  have hr_q : -2147483648 ≤ q ∧ q ≤ 2147483647 := hav (vI q) (List.mem_cons_of_mem _ List.mem_cons_self)
  have hz : zX2_placeOf.2.2.2.1 = some .boolean → ∀ (T' : Zt) (x : Int), po_X2_placeOf_f T p q T' (some (vI x)) → 0 ≤ x ∧ x ≤ 1 := fun h => by cases h
  show J_ zX2_placeOf T (po_X2_placeOf_f T p q) 0 0 0 [some (vR 102 p), some (vI q), none, none] [] T
  have c_2 : ∀ (nn : Nat) (s : Int), ((2 - s).toNat) ≤ nn → (0 ≤ s ∧ s ≤ 2) → ((1 ≤ s → plN_ T p q 0 (T 449 p 0).toNat 0 = -1) ∧ (2 ≤ s → plN_ T p q 1 (T 449 p 1).toNat 0 = -1)) → J_ zX2_placeOf T (po_X2_placeOf_f T p q) 0 0 2 [some (vR 102 p), some (vI q), some (vI s), none] [] T := by
    intro nn
    induction nn using Nat.strongRecOn with
    | _ nn ih_2 =>
      intro s hm_2 i1 n2
      replace hm_2 := fun (_ : Unit) => hm_2
      have c_9 : ∀ (nn : Nat) (k : Int), ((10 - k).toNat) ≤ nn → (0 ≤ k ∧ s < 2) → (plN_ T p q s (T 449 p s).toNat 0 = plN_ T p q s (T 449 p s - k).toNat k) → J_ zX2_placeOf T (po_X2_placeOf_f T p q) 0 0 9 [some (vR 102 p), some (vI q), some (vI s), some (vI k)] [] T := by
        intro nn
        induction nn using Nat.strongRecOn with
        | _ nn ih_9 =>
          intro k hm_9 i2 n9
          replace hm_9 := fun (_ : Unit) => hm_9
          have hls : 0 ≤ T 449 p s ∧ T 449 p s ≤ 10 := bd_a hT 449 (by decide +kernel : ta_ 449 = some (1, some 2, 0, 10)) p (by omega)
          refine j_blx (F := fX2) tb_X2 (nn_ _) bk_X2_placeOf_f_9 bs_X2_placeOf_f_9 hz (fun K hK => ?_)
          refine ix_i (by omega) ?_
          intro b1 b1b
          refine And.intro (fun c2 => ?_) (fun c2 => ?_)
          · refine hK 47 _ [] T ?_
            refine j_blx (F := fX2) tb_X2 (nn_ _) bk_X2_placeOf_f_47 bs_X2_placeOf_f_47 hz (fun K hK => ?_)
            refine rg_i (by omega) ?_
            refine hK 2 [some (vR 102 p), some (vI q), some (vI (s + 1)), some (vI k)] [] T ?_
            refine j_drop [some (vR 102 p), some (vI q), some (vI (s + 1)), none] (fun k v hk => ?_) rfl ?_
            · match k, hk with
              | 0, hk => exact hk
              | 1, hk => exact hk
              | 2, hk => exact hk
              | 3, hk => cases hk
              | k + 4, hk => cases hk
            refine ih_2 _ ?_ (s + 1) (Nat.le_refl _) ?_ ?_
            · have hm_2 := hm_2 (); omega
            · omega
            · rw [show (T 449 p s - k).toNat = 0 by omega] at n9
              have n8 : plN_ T p q s (T 449 p s).toNat 0 = -1 := n9
              refine ⟨fun z => ?_, fun z => ?_⟩
              · by_cases y : s = 0
                · rw [y] at n8; exact n8
                · exact n2.1 (by omega)
              · rw [show s = 1 from Int.le_antisymm (by omega) (by omega)] at n8; exact n8
          · refine rg_i (by omega) ?_
            refine rg_i (by omega) ?_
            refine ix_i (by omega) ?_
            intro b3 b3b
            refine And.intro (fun c4 => ?_) (fun c4 => ?_)
            · refine hK 41 [some (vR 102 p), some (vI q), some (vI s), some (vI k)] [] T ?_
              refine j_blx (F := fX2) tb_X2 (nn_ _) bk_X2_placeOf_f_41 bs_X2_placeOf_f_41 hz (fun K hK => ?_)
              refine rg_i (by omega) ?_
              refine hK 9 [some (vR 102 p), some (vI q), some (vI s), some (vI (k + 1))] [] T ?_
              refine ih_9 _ ?_ (k + 1) (Nat.le_refl _) ?_ ?_
              · have hm_9 := hm_9 (); omega
              · omega
              · rw [n9, show (T 449 p s - k).toNat = (T 449 p s - (k + 1)).toNat + 1 by omega]
                exact plN_f (by omega)
            · refine rg_i (by omega) ?_
              refine rg_i (by omega) ?_
              refine (show po_X2_placeOf_f T p q T (some (vI ((s * 10) + k))) from ?_)
              have n8 : plN_ T p q s (T 449 p s).toNat 0 = s * 10 + k := by rw [n9, show (T 449 p s - k).toNat = (T 449 p s - (k + 1)).toNat + 1 by omega]; exact plN_t (by omega)
              refine ⟨rfl, _, rfl, ?_⟩
              rcases (by omega : s = 0 ∨ s = 1) with z | z
              · rw [z] at n8 ⊢; rw [plc_0 (by omega), n8]
              · have n7 := n2.1 (by omega)
                rw [z] at n8 ⊢; rw [plc_1 n7, n8]
      refine j_blx (F := fX2) tb_X2 (nn_ _) bk_X2_placeOf_f_2 bs_X2_placeOf_f_2 hz (fun K hK => ?_)
      refine And.intro (fun c5 => ?_) (fun c5 => ?_)
      · refine hK 53 _ [] T ?_
        refine j_blx (F := fX2) tb_X2 (nn_ _) bk_X2_placeOf_f_53 bs_X2_placeOf_f_53 hz (fun K hK => ?_)
        refine (show po_X2_placeOf_f T p q T (some (vI (-1))) from ?_)
        exact ⟨rfl, _, rfl, by rw [plc_1 (n2.1 (by omega)), n2.2 (by omega)]⟩
      · refine hK 9 [some (vR 102 p), some (vI q), some (vI s), some (vI 0)] [] T ?_
        refine c_9 _ 0 (Nat.le_refl _) ?_ ?_
        · omega
        · rw [show T 449 p s - 0 = T 449 p s from Int.le_antisymm (by omega) (by omega)]
  refine j_blx (F := fX2) tb_X2 (nn_ _) bk_X2_placeOf_f_0 bs_X2_placeOf_f_0 hz (fun K hK => ?_)
  refine hK 2 [some (vR 102 p), some (vI q), some (vI 0), none] [] T ?_
  refine c_2 _ 0 (Nat.le_refl _) ?_ ?_
  · omega
  · exact ⟨fun z => absurd z (by decide), fun z => absurd z (by decide)⟩
