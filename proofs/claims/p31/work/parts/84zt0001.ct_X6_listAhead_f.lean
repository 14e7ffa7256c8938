theorem bk_X2_placeOf_f_47 : ck_ fX2 (some .int) cX2_placeOf 47 [.iinc 2 1, .goto 2] 53 = true := qck_r (nn_ _) (by decide +kernel)
theorem bs_X2_placeOf_f_47 {P : Zt → Option Zv → Prop} (K : Int → Zl → List Zv → Zt → Prop) : sx_ K P [.iinc 2 1, .goto 2] 53 = x_iinc 2 1 (x_goto 2 K) := ((xe_iinc 2 1).trans (congrArg (x_iinc 2 1) (xe_goto 2)))
theorem bk_X2_placeOf_f_41 : ck_ fX2 (some .int) cX2_placeOf 41 [.iinc 3 1, .goto 9] 47 = true := qck_r (nn_ _) (by decide +kernel)
theorem bs_X2_placeOf_f_41 {P : Zt → Option Zv → Prop} (K : Int → Zl → List Zv → Zt → Prop) : sx_ K P [.iinc 3 1, .goto 9] 47 = x_iinc 3 1 (x_goto 9 K) := ((xe_iinc 3 1).trans (congrArg (x_iinc 3 1) (xe_goto 9)))
theorem bk_X2_placeOf_f_2 : ck_ fX2 (some .int) cX2_placeOf 2 [.iload 2, .iconst 2, .if_icmp .ge 53, .iconst 0, .istore 3] 9 = true := qck_r (nn_ _) (by decide +kernel)
theorem bs_X2_placeOf_f_2 {P : Zt → Option Zv → Prop} (K : Int → Zl → List Zv → Zt → Prop) : sx_ K P [.iload 2, .iconst 2, .if_icmp .ge 53, .iconst 0, .istore 3] 9 = x_iload 2 (x_iconst 2 (x_if_icmp .ge 53 K (x_iconst 0 (x_istore 3 (K 9))))) := ((xe_iload 2).trans (congrArg (x_iload 2) ((xe_iconst 2).trans (congrArg (x_iconst 2) ((xe_if_icmp .ge 53).trans (congrArg (x_if_icmp .ge 53 K) ((xe_iconst 0).trans (congrArg (x_iconst 0) ((xe_istore 3).trans (congrArg (x_istore 3) xe_nil))))))))))
theorem bk_X2_placeOf_f_53 : ck_ fX2 (some .int) cX2_placeOf 53 [.iconst (-1), .ireturn] 55 = true := qck_r (nn_ _) (by decide +kernel)
theorem bs_X2_placeOf_f_53 {P : Zt → Option Zv → Prop} (K : Int → Zl → List Zv → Zt → Prop) : sx_ K P [.iconst (-1), .ireturn] 55 = x_iconst (-1) (x_ireturn P) := ((xe_iconst (-1)).trans (congrArg (x_iconst (-1)) (xe_ireturn)))
theorem bk_X2_placeOf_f_0 : ck_ fX2 (some .int) cX2_placeOf 0 [.iconst 0, .istore 2] 2 = true := qck_r (nn_ _) (by decide +kernel)
theorem bs_X2_placeOf_f_0 {P : Zt → Option Zv → Prop} (K : Int → Zl → List Zv → Zt → Prop) : sx_ K P [.iconst 0, .istore 2] 2 = x_iconst 0 (x_istore 2 (K 2)) := ((xe_iconst 0).trans (congrArg (x_iconst 0) ((xe_istore 2).trans (congrArg (x_istore 2) xe_nil))))
abbrev po_X2_placeOf_f (T : Zt) (p : Int) (q : Int) : Zt → Option Zv → Prop := fun T' r => T = T' ∧ ∃ x : Int, r = some (vI x) ∧ (x = plc_ T p q)
set_option maxHeartbeats 4000000 in
theorem ct_X2_placeOf_f {T : Zt} {p : Int} {q : Int} : Ct_ yX2_placeOf zX2_placeOf T [vR 102 p, vI q] (po_X2_placeOf_f T p q) := by
  refine ct_of pn_2 rfl rfl (Nat.le_of_ble_eq_true rfl) (fun hT hav => ?_)
  have hr_q : -2147483648 ≤ q ∧ q ≤ 2147483647 := hav (vI q) (List.mem_cons_of_mem _ List.mem_cons_self)
  have hz : zX2_placeOf.2.2.2.1 = some .boolean → ∀ (T' : Zt) (x : Int), po_X2_placeOf_f T p q T' (some (vI x)) → 0 ≤ x ∧ x ≤ 1 := fun h => by cases h
  show J_ zX2_placeOf T (po_X2_placeOf_f T p q) 0 0 0 [some (vR 102 p), some (vI q), none, none] [] T
  have c_2 : ∀ (nn : Nat) (s : Int), ((2 - s).toNat) ≤ nn → (0 ≤ s ∧ s ≤ 2) → ((1 ≤ s → plN_ T p q 0 (T 449 p 0).toNat 0 = -1) ∧ (2 ≤ s → plN_ T p q 1 (T 449 p 1).toNat 0 = -1)) → J_ zX2_placeOf T (po_X2_placeOf_f T p q) 0 0 2 [some (vR 102 p), some (vI q), some (vI s), none] [] T := by
    intro nn
    induction nn using Nat.strongRecOn with
    | _ nn ih_2 =>
      intro s hm_2 i1 n2
      replace hm_2 := fun (_ : Unit) => hm_2
      have c_9 : ∀ (nn : Nat) (k : Int), ((10 - k).toNat) ≤ nn → (0 ≤ k ∧ s < 2) → (plN_ T p q s (T 449 p s).toNat 0 = plN_ T p q s (T 449 p s - k).toNat k) → J_ zX2_placeOf T (po_X2_placeOf_f T p q) 0 0 9 [some (vR 102 p), some (vI q), some (vI s), some (vI k)] [] T := by
        intro nn
        induction nn using Nat.strongRecOn with
        | _ nn ih_9 =>
          intro k hm_9 i2 n9
          replace hm_9 := fun (_ : Unit) => hm_9
          have hls : 0 ≤ T 449 p s ∧ T 449 p s ≤ 10 := bd_a hT 449 (by decide +kernel : ta_ 449 = some (1, some 2, 0, 10)) p (by omega)
          refine j_blx (F := fX2) tb_X2 (nn_ _) bk_X2_placeOf_f_9 bs_X2_placeOf_f_9 hz (fun K hK => ?_)
          refine ix_i (by omega) ?_
          intro b1 b1b
          refine And.intro (fun c2 => ?_) (fun c2 => ?_)
          · refine hK 47 _ [] T ?_
            refine j_blx (F := fX2) tb_X2 (nn_ _) bk_X2_placeOf_f_47 bs_X2_placeOf_f_47 hz (fun K hK => ?_)
            refine rg_i (by omega) ?_
            refine hK 2 [some (vR 102 p), some (vI q), some (vI (s + 1)), some (vI k)] [] T ?_
            refine j_drop [some (vR 102 p), some (vI q), some (vI (s + 1)), none] (fun k v hk => ?_) rfl ?_
            · match k, hk with
              | 0, hk => exact hk
              | 1, hk => exact hk
              | 2, hk => exact hk
              | 3, hk => cases hk
              | k + 4, hk => cases hk
            refine ih_2 _ ?_ (s + 1) (Nat.le_refl _) ?_ ?_
            · have hm_2 := hm_2 (); omega
            · omega
            · rw [show (T 449 p s - k).toNat = 0 by omega] at n9
              have n8 : plN_ T p q s (T 449 p s).toNat 0 = -1 := n9
              refine ⟨fun z => ?_, fun z => ?_⟩
              · by_cases y : s = 0
                · rw [y] at n8; exact n8
                · exact n2.1 (by omega)
              · rw [show s = 1 from Int.le_antisymm (by omega) (by omega)] at n8; exact n8
          · refine rg_i (by omega) ?_
            refine rg_i (by omega) ?_
            refine ix_i (by omega) ?_
            intro b3 b3b
            refine And.intro (fun c4 => ?_) (fun c4 => ?_)
            · refine hK 41 [some (vR 102 p), some (vI q), some (vI s), some (vI k)] [] T ?_
              refine j_blx (F := fX2) tb_X2 (nn_ _) bk_X2_placeOf_f_41 bs_X2_placeOf_f_41 hz (fun K hK => ?_)
              refine rg_i (by omega) ?_
              refine hK 9 [some (vR 102 p), some (vI q), some (vI s), some (vI (k + 1))] [] T ?_
              refine ih_9 _ ?_ (k + 1) (Nat.le_refl _) ?_ ?_
              · have hm_9 := hm_9 (); omega
              · omega
              · rw [n9, show (T 449 p s - k).toNat = (T 449 p s - (k + 1)).toNat + 1 by omega]
                exact plN_f (by omega)
            · refine rg_i (by omega) ?_
              refine rg_i (by omega) ?_
              refine (show po_X2_placeOf_f T p q T (some (vI ((s * 10) + k))) from ?_)
              have n8 : plN_ T p q s (T 449 p s).toNat 0 = s * 10 + k := by rw [n9, show (T 449 p s - k).toNat = (T 449 p s - (k + 1)).toNat + 1 by omega]; exact plN_t (by omega)
              refine ⟨rfl, _, rfl, ?_⟩
              rcases (by omega : s = 0 ∨ s = 1) with z | z
              · rw [z] at n8 ⊢; rw [plc_0 (by omega), n8]
              · have n7 := n2.1 (by omega)
                rw [z] at n8 ⊢; rw [plc_1 n7, n8]
      refine j_blx (F := fX2) tb_X2 (nn_ _) bk_X2_placeOf_f_2 bs_X2_placeOf_f_2 hz (fun K hK => ?_)
      refine And.intro (fun c5 => ?_) (fun c5 => ?_)
      · refine hK 53 _ [] T ?_
        refine j_blx (F := fX2) tb_X2 (nn_ _) bk_X2_placeOf_f_53 bs_X2_placeOf_f_53 hz (fun K hK => ?_)
        refine (show po_X2_placeOf_f T p q T (some (vI (-1))) from ?_)
        exact ⟨rfl, _, rfl, by rw [plc_1 (n2.1 (by omega)), n2.2 (by omega)]⟩
      · refine hK 9 [some (vR 102 p), some (vI q), some (vI s), some (vI 0)] [] T ?_
        refine c_9 _ 0 (Nat.le_refl _) ?_ ?_
        · omega
        · rw [show T 449 p s - 0 = T 449 p s from Int.le_antisymm (by omega) (by omega)]
  refine j_blx (F := fX2) tb_X2 (nn_ _) bk_X2_placeOf_f_0 bs_X2_placeOf_f_0 hz (fun K hK => ?_)
  refine hK 2 [some (vR 102 p), some (vI q), some (vI 0), none] [] T ?_
  refine c_2 _ 0 (Nat.le_refl _) ?_ ?_
  · omega
  · exact ⟨fun z => absurd z (by decide), fun z => absurd z (by decide)⟩
theorem spr_w {T T' : Zt} (h : SPR_ T) (f : fr_ [(533, [])] T T') : SPR_ T' := spr_k h (f 108 0 3 rfl) ⟨f 108 0 5 rfl, fun j => f 566 0 j rfl, fun j => f 567 0 j rfl, fun j => f 568 0 j rfl, fun j => f 569 0 j rfl⟩ (fun j => f 564 0 j rfl) ⟨f 111 0 16 rfl, fun j => f 217 0 j rfl, fun j => f 218 0 j rfl, fun j => f 219 0 j rfl, fun j => f 220 0 j rfl⟩
theorem cnn_k {T T' : Zt} {p d : Int} (e : ∀ k j, k = 217 ∨ k = 218 ∨ k = 219 ∨ k = 220 → T' k 0 j = T k 0 j) : ∀ n : Nat, cnn_ T' p d n = cnn_ T p d n
  | 0 => rfl
  | n + 1 => by
    show cz_ _ _ _ = cz_ _ _ _
    rw [e 217 _ (by decide), e 218 _ (by decide), e 219 _ (by decide), e 220 _ (by decide), cnn_k e n]
theorem co_k {T T' : Zt} (f : fr_ [(533, [])] T T') {p d : Int} : co9_c T' p d = co9_c T p d := by
  unfold co9_c
  rw [f 111 0 16 rfl]
  exact cnn_k (fun k j h => by rcases h with rfl | rfl | rfl | rfl; exact f 217 0 j rfl; exact f 218 0 j rfl; exact f 219 0 j rfl; exact f 220 0 j rfl) _
theorem bk_X6_listAhead_f_117 : ck_ fX6 (some .int) cX6_listAhead 117 [.iload 7, .ifCond .le 169, .aload 0, .tableswitch 0 6 3 #[], .aload 0, .tableswitch 0 6 13 #[], .iload 7, .iconst 1, .isub, .iaload, .aaload, .tableswitch 0 2 5 #[], .aload 5, .tableswitch 0 2 5 #[], .if_icmp .le 169, .aload 0, .tableswitch 0 6 13 #[], .iload 7, .aload 0, .tableswitch 0 6 13 #[], .iload 7, .iconst 1, .isub, .iaload, .iastore, .iinc 7 (-1), .goto 117] 169 = true := qck_r (nn_ _) (by decide +kernel)
theorem bs_X6_listAhead_f_117 {P : Zt → Option Zv → Prop} (K : Int → Zl → List Zv → Zt → Prop) : sx_ K P [.iload 7, .ifCond .le 169, .aload 0, .tableswitch 0 6 3 #[], .aload 0, .tableswitch 0 6 13 #[], .iload 7, .iconst 1, .isub, .iaload, .aaload, .tableswitch 0 2 5 #[], .aload 5, .tableswitch 0 2 5 #[], .if_icmp .le 169, .aload 0, .tableswitch 0 6 13 #[], .iload 7, .aload 0, .tableswitch 0 6 13 #[], .iload 7, .iconst 1, .isub, .iaload, .iastore, .iinc 7 (-1), .goto 117] 169 = x_iload 7 (x_ifCond .le 169 K (x_aload 0 (x_g1 106 523 (x_aload 0 (x_g1 106 533 (x_iload 7 (x_iconst 1 (x_isub (x_iaload (x_aaload (x_g0 102 5 0 999 (x_aload 5 (x_g0 102 5 0 999 (x_if_icmp .le 169 K (x_aload 0 (x_g1 106 533 (x_iload 7 (x_aload 0 (x_g1 106 533 (x_iload 7 (x_iconst 1 (x_isub (x_iaload (x_iastore (x_iinc 7 (-1) (x_goto 117 K)))))))))))))))))))))))))) := ((xe_iload 7).trans (congrArg (x_iload 7) ((xe_ifCond .le 169).trans (congrArg (x_ifCond .le 169 K) ((xe_aload 0).trans (congrArg (x_aload 0) ((xe_g1 (kk := 106) rfl tl_6_3).trans (congrArg (x_g1 106 523) ((xe_aload 0).trans (congrArg (x_aload 0) ((xe_g1 (kk := 106) rfl tl_6_13).trans (congrArg (x_g1 106 533) ((xe_iload 7).trans (congrArg (x_iload 7) ((xe_iconst 1).trans (congrArg (x_iconst 1) ((xe_isub).trans (congrArg (x_isub) ((xe_iaload).trans (congrArg (x_iaload) ((xe_aaload).trans (congrArg (x_aaload) ((xe_g0 (kk := 102) rfl tl_2_5).trans (congrArg (x_g0 102 5 0 999) ((xe_aload 5).trans (congrArg (x_aload 5) ((xe_g0 (kk := 102) rfl tl_2_5).trans (congrArg (x_g0 102 5 0 999) ((xe_if_icmp .le 169).trans (congrArg (x_if_icmp .le 169 K) ((xe_aload 0).trans (congrArg (x_aload 0) ((xe_g1 (kk := 106) rfl tl_6_13).trans (congrArg (x_g1 106 533) ((xe_iload 7).trans (congrArg (x_iload 7) ((xe_aload 0).trans (congrArg (x_aload 0) ((xe_g1 (kk := 106) rfl tl_6_13).trans (congrArg (x_g1 106 533) ((xe_iload 7).trans (congrArg (x_iload 7) ((xe_iconst 1).trans (congrArg (x_iconst 1) ((xe_isub).trans (congrArg (x_isub) ((xe_iaload).trans (congrArg (x_iaload) ((xe_iastore).trans (congrArg (x_iastore) ((xe_iinc 7 (-1)).trans (congrArg (x_iinc 7 (-1)) (xe_goto 117)))))))))))))))))))))))))))))))))))))))))))))))))))))
theorem bk_X6_listAhead_f_169 : ck_ fX6 (some .int) cX6_listAhead 169 [.aload 0, .tableswitch 0 6 13 #[], .iload 7, .aload 5, .tableswitch 0 2 1 #[], .iastore, .iinc 3 1, .iinc 4 1, .goto 5] 190 = true := qck_r (nn_ _) (by decide +kernel)
theorem bs_X6_listAhead_f_169 {P : Zt → Option Zv → Prop} (K : Int → Zl → List Zv → Zt → Prop) : sx_ K P [.aload 0, .tableswitch 0 6 13 #[], .iload 7, .aload 5, .tableswitch 0 2 1 #[], .iastore, .iinc 3 1, .iinc 4 1, .goto 5] 190 = x_aload 0 (x_g1 106 533 (x_iload 7 (x_aload 5 (x_g0 102 1 0 399 (x_iastore (x_iinc 3 1 (x_iinc 4 1 (x_goto 5 K)))))))) := ((xe_aload 0).trans (congrArg (x_aload 0) ((xe_g1 (kk := 106) rfl tl_6_13).trans (congrArg (x_g1 106 533) ((xe_iload 7).trans (congrArg (x_iload 7) ((xe_aload 5).trans (congrArg (x_aload 5) ((xe_g0 (kk := 102) rfl tl_2_1).trans (congrArg (x_g0 102 1 0 399) ((xe_iastore).trans (congrArg (x_iastore) ((xe_iinc 3 1).trans (congrArg (x_iinc 3 1) ((xe_iinc 4 1).trans (congrArg (x_iinc 4 1) (xe_goto 5)))))))))))))))))
theorem bk_X6_listAhead_f_5 : ck_ fX6 (some .int) cX6_listAhead 5 [.iload 4, .aload 2, .tableswitch 0 2 0 #[], .tableswitch 0 0 8 #[], .if_icmp .ge 190, .aload 0, .tableswitch 0 6 3 #[], .aload 2, .tableswitch 0 2 0 #[], .tableswitch 0 0 7 #[], .iload 4, .iadd, .aaload, .astore 5, .aload 5, .tableswitch 0 2 5 #[], .aload 2, .tableswitch 0 2 5 #[], .if_icmp .lt 70, .aload 5, .tableswitch 0 2 5 #[], .aload 2, .tableswitch 0 2 5 #[], .if_icmp .ne 74, .aload 5, .tableswitch 0 2 1 #[], .aload 2, .tableswitch 0 2 1 #[], .if_icmp .ge 74, .iconst 1, .goto 75] 74 = true := qck_r (nn_ _) (by decide +kernel)
theorem bs_X6_listAhead_f_5 {P : Zt → Option Zv → Prop} (K : Int → Zl → List Zv → Zt → Prop) : sx_ K P [.iload 4, .aload 2, .tableswitch 0 2 0 #[], .tableswitch 0 0 8 #[], .if_icmp .ge 190, .aload 0, .tableswitch 0 6 3 #[], .aload 2, .tableswitch 0 2 0 #[], .tableswitch 0 0 7 #[], .iload 4, .iadd, .aaload, .astore 5, .aload 5, .tableswitch 0 2 5 #[], .aload 2, .tableswitch 0 2 5 #[], .if_icmp .lt 70, .aload 5, .tableswitch 0 2 5 #[], .aload 2, .tableswitch 0 2 5 #[], .if_icmp .ne 74, .aload 5, .tableswitch 0 2 1 #[], .aload 2, .tableswitch 0 2 1 #[], .if_icmp .ge 74, .iconst 1, .goto 75] 74 = x_iload 4 (x_aload 2 (x_g3 102 100 0 (x_g0 100 8 0 400 (x_if_icmp .ge 190 K (x_aload 0 (x_g1 106 523 (x_aload 2 (x_g3 102 100 0 (x_g0 100 7 0 400 (x_iload 4 (x_iadd (x_aaload (x_astore 5 (x_aload 5 (x_g0 102 5 0 999 (x_aload 2 (x_g0 102 5 0 999 (x_if_icmp .lt 70 K (x_aload 5 (x_g0 102 5 0 999 (x_aload 2 (x_g0 102 5 0 999 (x_if_icmp .ne 74 K (x_aload 5 (x_g0 102 1 0 399 (x_aload 2 (x_g0 102 1 0 399 (x_if_icmp .ge 74 K (x_iconst 1 (x_goto 75 K)))))))))))))))))))))))))))))) := ((xe_iload 4).trans (congrArg (x_iload 4) ((xe_aload 2).trans (congrArg (x_aload 2) ((xe_g3 (kk := 102) rfl tl_2_0).trans (congrArg (x_g3 102 100 0) ((xe_g0 (kk := 100) rfl tl_0_8).trans (congrArg (x_g0 100 8 0 400) ((xe_if_icmp .ge 190).trans (congrArg (x_if_icmp .ge 190 K) ((xe_aload 0).trans (congrArg (x_aload 0) ((xe_g1 (kk := 106) rfl tl_6_3).trans (congrArg (x_g1 106 523) ((xe_aload 2).trans (congrArg (x_aload 2) ((xe_g3 (kk := 102) rfl tl_2_0).trans (congrArg (x_g3 102 100 0) ((xe_g0 (kk := 100) rfl tl_0_7).trans (congrArg (x_g0 100 7 0 400) ((xe_iload 4).trans (congrArg (x_iload 4) ((xe_iadd).trans (congrArg (x_iadd) ((xe_aaload).trans (congrArg (x_aaload) ((xe_astore 5).trans (congrArg (x_astore 5) ((xe_aload 5).trans (congrArg (x_aload 5) ((xe_g0 (kk := 102) rfl tl_2_5).trans (congrArg (x_g0 102 5 0 999) ((xe_aload 2).trans (congrArg (x_aload 2) ((xe_g0 (kk := 102) rfl tl_2_5).trans (congrArg (x_g0 102 5 0 999) ((xe_if_icmp .lt 70).trans (congrArg (x_if_icmp .lt 70 K) ((xe_aload 5).trans (congrArg (x_aload 5) ((xe_g0 (kk := 102) rfl tl_2_5).trans (congrArg (x_g0 102 5 0 999) ((xe_aload 2).trans (congrArg (x_aload 2) ((xe_g0 (kk := 102) rfl tl_2_5).trans (congrArg (x_g0 102 5 0 999) ((xe_if_icmp .ne 74).trans (congrArg (x_if_icmp .ne 74 K) ((xe_aload 5).trans (congrArg (x_aload 5) ((xe_g0 (kk := 102) rfl tl_2_1).trans (congrArg (x_g0 102 1 0 399) ((xe_aload 2).trans (congrArg (x_aload 2) ((xe_g0 (kk := 102) rfl tl_2_1).trans (congrArg (x_g0 102 1 0 399) ((xe_if_icmp .ge 74).trans (congrArg (x_if_icmp .ge 74 K) ((xe_iconst 1).trans (congrArg (x_iconst 1) (xe_goto 75)))))))))))))))))))))))))))))))))))))))))))))))))))))))))))))
theorem bk_X6_listAhead_f_190 : ck_ fX6 (some .int) cX6_listAhead 190 [.iload 3, .ireturn] 192 = true := qck_r (nn_ _) (by decide +kernel)
theorem bs_X6_listAhead_f_190 {P : Zt → Option Zv → Prop} (K : Int → Zl → List Zv → Zt → Prop) : sx_ K P [.iload 3, .ireturn] 192 = x_iload 3 (x_ireturn P) := ((xe_iload 3).trans (congrArg (x_iload 3) (xe_ireturn)))
theorem bk_X6_listAhead_f_70 : ck_ fX6 (some .int) cX6_listAhead 70 [.iconst 1, .goto 75] 74 = true := qck_r (nn_ _) (by decide +kernel)
theorem bs_X6_listAhead_f_70 {P : Zt → Option Zv → Prop} (K : Int → Zl → List Zv → Zt → Prop) : sx_ K P [.iconst 1, .goto 75] 74 = x_iconst 1 (x_goto 75 K) := ((xe_iconst 1).trans (congrArg (x_iconst 1) (xe_goto 75)))
theorem bk_X6_listAhead_f_75 : ck_ fX6 (some .int) cX6_listAhead 75 [.istore 6, .iload 6, .ifCond .eq 184, .aload 5] 84 = true := qck_r (nn_ _) (by decide +kernel)
theorem bs_X6_listAhead_f_75 {P : Zt → Option Zv → Prop} (K : Int → Zl → List Zv → Zt → Prop) : sx_ K P [.istore 6, .iload 6, .ifCond .eq 184, .aload 5] 84 = x_istore 6 (x_iload 6 (x_ifCond .eq 184 K (x_aload 5 (K 84)))) := ((xe_istore 6).trans (congrArg (x_istore 6) ((xe_iload 6).trans (congrArg (x_iload 6) ((xe_ifCond .eq 184).trans (congrArg (x_ifCond .eq 184 K) ((xe_aload 5).trans (congrArg (x_aload 5) xe_nil))))))))
theorem bk_X6_listAhead_f_184 : ck_ fX6 (some .int) cX6_listAhead 184 [.iinc 4 1, .goto 5] 190 = true := qck_r (nn_ _) (by decide +kernel)
theorem bs_X6_listAhead_f_184 {P : Zt → Option Zv → Prop} (K : Int → Zl → List Zv → Zt → Prop) : sx_ K P [.iinc 4 1, .goto 5] 190 = x_iinc 4 1 (x_goto 5 K) := ((xe_iinc 4 1).trans (congrArg (x_iinc 4 1) (xe_goto 5)))
theorem bk_X6_listAhead_f_87 : ck_ fX6 (some .int) cX6_listAhead 87 [.ifCond .eq 184, .aload 5, .aload 0, .tableswitch 0 6 0 #[], .iload 1, .aload 5, .tableswitch 0 2 5 #[]] 102 = true := qck_r (nn_ _) (by decide +kernel)
theorem bs_X6_listAhead_f_87 {P : Zt → Option Zv → Prop} (K : Int → Zl → List Zv → Zt → Prop) : sx_ K P [.ifCond .eq 184, .aload 5, .aload 0, .tableswitch 0 6 0 #[], .iload 1, .aload 5, .tableswitch 0 2 5 #[]] 102 = x_ifCond .eq 184 K (x_aload 5 (x_aload 0 (x_g1 106 108 (x_iload 1 (x_aload 5 (x_g0 102 5 0 999 (K 102))))))) := ((xe_ifCond .eq 184).trans (congrArg (x_ifCond .eq 184 K) ((xe_aload 5).trans (congrArg (x_aload 5) ((xe_aload 0).trans (congrArg (x_aload 0) ((xe_g1 (kk := 106) rfl tl_6_0).trans (congrArg (x_g1 106 108) ((xe_iload 1).trans (congrArg (x_iload 1) ((xe_aload 5).trans (congrArg (x_aload 5) ((xe_g0 (kk := 102) rfl tl_2_5).trans (congrArg (x_g0 102 5 0 999) xe_nil))))))))))))))
theorem bk_X6_listAhead_f_108 : ck_ fX6 (some .int) cX6_listAhead 108 [.ifCond .ne 114, .goto 184] 114 = true := qck_r (nn_ _) (by decide +kernel)
theorem bs_X6_listAhead_f_108 {P : Zt → Option Zv → Prop} (K : Int → Zl → List Zv → Zt → Prop) : sx_ K P [.ifCond .ne 114, .goto 184] 114 = x_ifCond .ne 114 K (x_goto 184 K) := ((xe_ifCond .ne 114).trans (congrArg (x_ifCond .ne 114 K) (xe_goto 184)))
theorem bk_X6_listAhead_f_114 : ck_ fX6 (some .int) cX6_listAhead 114 [.iload 3, .istore 7] 117 = true := qck_r (nn_ _) (by decide +kernel)
theorem bs_X6_listAhead_f_114 {P : Zt → Option Zv → Prop} (K : Int → Zl → List Zv → Zt → Prop) : sx_ K P [.iload 3, .istore 7] 117 = x_iload 3 (x_istore 7 (K 117)) := ((xe_iload 3).trans (congrArg (x_iload 3) ((xe_istore 7).trans (congrArg (x_istore 7) xe_nil))))
theorem bk_X6_listAhead_f_74 : ck_ fX6 (some .int) cX6_listAhead 74 [.iconst 0, .istore 6, .iload 6, .ifCond .eq 184, .aload 5] 84 = true := qck_r (nn_ _) (by decide +kernel)
theorem bs_X6_listAhead_f_74 {P : Zt → Option Zv → Prop} (K : Int → Zl → List Zv → Zt → Prop) : sx_ K P [.iconst 0, .istore 6, .iload 6, .ifCond .eq 184, .aload 5] 84 = x_iconst 0 (x_istore 6 (x_iload 6 (x_ifCond .eq 184 K (x_aload 5 (K 84))))) := ((xe_iconst 0).trans (congrArg (x_iconst 0) ((xe_istore 6).trans (congrArg (x_istore 6) ((xe_iload 6).trans (congrArg (x_iload 6) ((xe_ifCond .eq 184).trans (congrArg (x_ifCond .eq 184 K) ((xe_aload 5).trans (congrArg (x_aload 5) xe_nil))))))))))
theorem bk_X6_listAhead_f_0 : ck_ fX6 (some .int) cX6_listAhead 0 [.iconst 0, .istore 3, .iconst 0, .istore 4] 5 = true := qck_r (nn_ _) (by decide +kernel)
theorem bs_X6_listAhead_f_0 {P : Zt → Option Zv → Prop} (K : Int → Zl → List Zv → Zt → Prop) : sx_ K P [.iconst 0, .istore 3, .iconst 0, .istore 4] 5 = x_iconst 0 (x_istore 3 (x_iconst 0 (x_istore 4 (K 5)))) := ((xe_iconst 0).trans (congrArg (x_iconst 0) ((xe_istore 3).trans (congrArg (x_istore 3) ((xe_iconst 0).trans (congrArg (x_iconst 0) ((xe_istore 4).trans (congrArg (x_istore 4) xe_nil))))))))
abbrev po_X6_listAhead_f (T : Zt) (p : Int) (q : Int) : Zt → Option Zv → Prop := fun T' r => ∃ x : Int, r = some (vI x) ∧ fr_ [(533, [])] T T' ∧ ((0 ≤ x ∧ x ≤ 400) ∧ (∀ j : Int, 0 ≤ j → j < x → 0 ≤ T' 533 0 j ∧ T' 533 0 j < T 106 0 4) ∧ LHD_ (fun m => T 102 m 5) (rlH_ T q) (fun j => T' 533 0 j) (T 100 (T 102 p 0) 7) (T 100 (T 102 p 0) 8) (T 102 p 5 * 400 + p) x)
set_option maxHeartbeats 4000000 in
theorem ct_X6_listAhead_f {T : Zt} {p : Int} {q : Int} (hka : KA_ T) (hkm : KM_ T) (hkc : KC_ T) (hq : 0 ≤ q ∧ q < 200) (hp : 0 ≤ p ∧ p < T 106 0 4) (hq2 : q < T 108 0 3) (hsp : SPR_ T) : Ct_ yX6_listAhead zX6_listAhead T [vR 106 0, vI q, vR 102 p] (po_X6_listAhead_f T p q) := by
  refine ct_of pn_6 rfl rfl (Nat.le_of_ble_eq_true rfl) (fun hT hav => ?_)
  have hr_q : -2147483648 ≤ q ∧ q ≤ 2147483647 := hav (vI q) (List.mem_cons_of_mem _ List.mem_cons_self)
  have hz : zX6_listAhead.2.2.2.1 = some .boolean → ∀ (T' : Zt) (x : Int), po_X6_listAhead_f T p q T' (some (vI x)) → 0 ≤ x ∧ x ≤ 1 := fun h => by cases h
  have hb_matchCount : 0 ≤ T 106 0 4 ∧ T 106 0 4 ≤ 400 := bd_f hT 106 4 tl_6_4 0
  have hmp := hkm p (by omega) (by omega)
  have hcp := hkc (T 102 p 0) (by omega) (by omega)
  have hb7 : 0 ≤ T 100 (T 102 p 0) 7 ∧ T 100 (T 102 p 0) 7 ≤ 400 := bd_f hT 100 7 tl_0_7 (T 102 p 0)
  have hb8 : 0 ≤ T 100 (T 102 p 0) 8 ∧ T 100 (T 102 p 0) 8 ≤ 400 := bd_f hT 100 8 tl_0_8 (T 102 p 0)
  show J_ zX6_listAhead T (po_X6_listAhead_f T p q) 0 0 0 [some (vR 106 0), some (vI q), some (vR 102 p), none, none, none, none, none] [] T
  have c_5 : ∀ (nn : Nat) (f : Int) (k : Int) (T1 : Zt), ((400 - k).toNat) ≤ nn → (fr_ [(533, [])] T T1) → (0 ≤ f ∧ f ≤ k ∧ 0 ≤ k ∧ k ≤ 400 ∧ (k = 0 ∨ k ≤ T 100 (T 102 p 0) 8)) → (∀ j : Int, 0 ≤ j → j < f → 0 ≤ T1 533 0 j ∧ T1 533 0 j < T 106 0 4) → (LHD_ (fun m => T 102 m 5) (rlH_ T q) (fun j => T1 533 0 j) (T 100 (T 102 p 0) 7) k (T 102 p 5 * 400 + p) f) → J_ zX6_listAhead T (po_X6_listAhead_f T p q) 0 0 5 [some (vR 106 0), some (vI q), some (vR 102 p), some (vI f), some (vI k), none, none, none] [] T1 := by
    intro nn
    induction nn using Nat.strongRecOn with
    | _ nn ih_5 =>
      intro f k T1 hm_5 hf_5 i1 li1 lh1
      replace hm_5 := fun (_ : Unit) => hm_5
      have c_117 : ∀ (nn : Nat) (at9 : Int) (T2 : Zt), (at9.toNat) ≤ nn → (fr_ [(533, [])] T T2) → (0 ≤ at9 ∧ at9 ≤ f ∧ k < T 100 (T 102 p 0) 8) → (∀ j : Int, 0 ≤ j → j ≤ f → j ≠ at9 → 0 ≤ T2 533 0 j ∧ T2 533 0 j < T 106 0 4) → (rlH_ T q (T 100 (T 102 p 0) 7 + k) ∧ (fun m => T 102 m 5) (T 100 (T 102 p 0) 7 + k) * 400 + (T 100 (T 102 p 0) 7 + k) < (T 102 p 5 * 400 + p)) → (∀ j, at9 ≤ j → j < f → T 102 (T 100 (T 102 p 0) 7 + k) 5 < T 102 (T1 533 0 j) 5) → (∀ j, 0 ≤ j → j < at9 → T2 533 0 j = T1 533 0 j) → (∀ j, at9 < j → j ≤ f → T2 533 0 j = T1 533 0 (j - 1)) → J_ zX6_listAhead T (po_X6_listAhead_f T p q) 0 0 117 [some (vR 106 0), some (vI q), some (vR 102 p), some (vI f), some (vI k), some (vR 102 (T 100 (T 102 p 0) 7 + k)), none, some (vI at9)] [] T2 := by
        intro nn
        induction nn using Nat.strongRecOn with
        | _ nn ih_117 =>
          intro at9 T2 hm_117 hf_117 i2 li2 hrk sgt sfa sfb
          replace hm_117 := fun (_ : Unit) => hm_117
          refine j_blx (F := fX6) tb_X6 (nn_ _) bk_X6_listAhead_f_117 bs_X6_listAhead_f_117 hz (fun K hK => ?_)
          refine And.intro (fun c1 => ?_) (fun c1 => ?_)
          · have sle : at9 = 0 ∨ T 102 (T1 533 0 (at9 - 1)) 5 ≤ T 102 (T 100 (T 102 p 0) 7 + k) 5 := Or.inl (by omega)
            refine hK 169 _ [] T2 ?_
            refine j_blx (F := fX6) tb_X6 (nn_ _) bk_X6_listAhead_f_169 bs_X6_listAhead_f_169 hz (fun K hK => ?_)
            intro b2 b2b
            have e3 : T2 102 (T 100 (T 102 p 0) 7 + k) 1 = T 102 (T 100 (T 102 p 0) 7 + k) 1 := hf_117 102 (T 100 (T 102 p 0) 7 + k) 1 rfl
            rw [e3] at b2 b2b ⊢
            have hnb := hkm (T 100 (T 102 p 0) 7 + k) (by omega) (by omega)
            refine iy_i (by omega) (by omega) ?_
            refine x_nm (fun U4 hU4 => ?_)
            have e5 := up_f hU4
            refine rg_i (by omega) ?_
            refine rg_i (by omega) ?_
            refine hK 5 [some (vR 106 0), some (vI q), some (vR 102 p), some (vI (f + 1)), some (vI (k + 1)), some (vR 102 (T 100 (T 102 p 0) 7 + k)), none, some (vI at9)] [] U4 ?_
            refine j_drop [some (vR 106 0), some (vI q), some (vR 102 p), some (vI (f + 1)), some (vI (k + 1)), none, none, none] (fun k v hk => ?_) rfl ?_
            · match k, hk with
              | 0, hk => exact hk
              | 1, hk => exact hk
              | 2, hk => exact hk
              | 3, hk => exact hk
              | 4, hk => exact hk
              | 5, hk => cases hk
              | 6, hk => cases hk
              | 7, hk => cases hk
              | k + 8, hk => cases hk
            refine ih_5 _ ?_ (f + 1) (k + 1) U4 (Nat.le_refl _) ?_ ?_ ?_ ?_
            · have hm_5 := hm_5 (); omega
            · exact fr_u (fr_t (fr_0 _ _) (fr_s hf_117 rfl)) hU4 rfl
            · omega
            · intro j a b
              by_cases z : j = at9
              · rw [z, up_f hU4]; omega
              · rw [up_g hU4 (fun q => z q.2.2)]; exact li2 j a (by omega) z
            · exact lhd_i (t := at9) (m := T 100 (T 102 p 0) 7 + k) lh1 rfl (by omega) (by omega) (by omega) hrk.1 hrk.2 (by omega) (by omega) sgt sle (fun j a b => (up_g hU4 (fun z => by omega)).trans (sfa j a b)) ((up_f hU4).trans (by omega)) (fun j a b => (up_g hU4 (fun z => by omega)).trans (sfb j a b))
          · refine rg_i (by omega) ?_
            refine ix_i (by omega) ?_
            intro b6 b6b
            refine ix_i (by omega) ?_
            have e8 : T2 523 0 (T2 533 0 (at9 - 1)) = T 523 0 (T2 533 0 (at9 - 1)) := hf_117 523 0 (T2 533 0 (at9 - 1)) rfl
            refine And.intro (fun c7 => ?_) (fun c7 => ?_)
            · have y9 := li2 (at9 - 1) (by omega) (by omega) (by omega)
              exact absurd (show T 523 0 (T2 533 0 (at9 - 1)) = 0 from Int.le_antisymm (by omega) (by omega)) (hka.2 _ (by omega) (by omega))
            · intro b9 b9b
              have e10 : T2 102 (T2 533 0 (at9 - 1)) 5 = T 102 (T2 533 0 (at9 - 1)) 5 := hf_117 102 (T2 533 0 (at9 - 1)) 5 rfl
              rw [e10] at b9 b9b ⊢
              intro b11 b11b
              have e12 : T2 102 (T 100 (T 102 p 0) 7 + k) 5 = T 102 (T 100 (T 102 p 0) 7 + k) 5 := hf_117 102 (T 100 (T 102 p 0) 7 + k) 5 rfl
              rw [e12] at b11 b11b ⊢
              refine And.intro (fun c13 => ?_) (fun c13 => ?_)
              · have sle : at9 = 0 ∨ T 102 (T1 533 0 (at9 - 1)) 5 ≤ T 102 (T 100 (T 102 p 0) 7 + k) 5 := Or.inr (by rw [← sfa (at9 - 1) (by omega) (by omega)]; omega)
                refine hK 169 [some (vR 106 0), some (vI q), some (vR 102 p), some (vI f), some (vI k), some (vR 102 (T 100 (T 102 p 0) 7 + k)), none, some (vI at9)] [] T2 ?_
                refine j_blx (F := fX6) tb_X6 (nn_ _) bk_X6_listAhead_f_169 bs_X6_listAhead_f_169 hz (fun K hK => ?_)
                intro b14 b14b
                have e15 : T2 102 (T 100 (T 102 p 0) 7 + k) 1 = T 102 (T 100 (T 102 p 0) 7 + k) 1 := hf_117 102 (T 100 (T 102 p 0) 7 + k) 1 rfl
                rw [e15] at b14 b14b ⊢
                have hnb := hkm (T 100 (T 102 p 0) 7 + k) (by omega) (by omega)
                refine iy_i (by omega) (by omega) ?_
                refine x_nm (fun U16 hU16 => ?_)
                have e17 := up_f hU16
                refine rg_i (by omega) ?_
                refine rg_i (by omega) ?_
                refine hK 5 [some (vR 106 0), some (vI q), some (vR 102 p), some (vI (f + 1)), some (vI (k + 1)), some (vR 102 (T 100 (T 102 p 0) 7 + k)), none, some (vI at9)] [] U16 ?_
                refine j_drop [some (vR 106 0), some (vI q), some (vR 102 p), some (vI (f + 1)), some (vI (k + 1)), none, none, none] (fun k v hk => ?_) rfl ?_
                · match k, hk with
                  | 0, hk => exact hk
                  | 1, hk => exact hk
                  | 2, hk => exact hk
                  | 3, hk => exact hk
                  | 4, hk => exact hk
                  | 5, hk => cases hk
                  | 6, hk => cases hk
                  | 7, hk => cases hk
                  | k + 8, hk => cases hk
                refine ih_5 _ ?_ (f + 1) (k + 1) U16 (Nat.le_refl _) ?_ ?_ ?_ ?_
                · have hm_5 := hm_5 (); omega
                · exact fr_u (fr_t (fr_0 _ _) (fr_s hf_117 rfl)) hU16 rfl
                · omega
                · intro j a b
                  by_cases z : j = at9
                  · rw [z, up_f hU16]; omega
                  · rw [up_g hU16 (fun q => z q.2.2)]; exact li2 j a (by omega) z
                · exact lhd_i (t := at9) (m := T 100 (T 102 p 0) 7 + k) lh1 rfl (by omega) (by omega) (by omega) hrk.1 hrk.2 (by omega) (by omega) sgt sle (fun j a b => (up_g hU16 (fun z => by omega)).trans (sfa j a b)) ((up_f hU16).trans (by omega)) (fun j a b => (up_g hU16 (fun z => by omega)).trans (sfb j a b))
              · refine rg_i (by omega) ?_
                refine ix_i (by omega) ?_
                intro b18 b18b
                refine iy_i (by omega) (by omega) ?_
                refine x_nm (fun U19 hU19 => ?_)
                have e20 := up_f hU19
                refine rg_i (by omega) ?_
                refine hK 117 [some (vR 106 0), some (vI q), some (vR 102 p), some (vI f), some (vI k), some (vR 102 (T 100 (T 102 p 0) 7 + k)), none, some (vI (at9 + (-1)))] [] U19 ?_
                refine ih_117 _ ?_ (at9 + (-1)) U19 (Nat.le_refl _) ?_ ?_ ?_ ?_ ?_ ?_ ?_
                · have hm_117 := hm_117 (); omega
                · exact fr_u (fr_t (fr_0 _ _) (fr_s hf_117 rfl)) hU19 rfl
                · omega
                · intro j a b d
                  by_cases z : j = at9
                  · rw [z, up_f hU19]; exact li2 (at9 - 1) (by omega) (by omega) (by omega)
                  · rw [up_g hU19 (fun q => z q.2.2)]; exact li2 j a b z
                · exact hrk
                · intro j a b
                  by_cases z : j = at9 - 1
                  · rw [z, ← sfa (at9 - 1) (by omega) (by omega)]; omega
                  · exact sgt j (by omega) b
                · exact fun j a b => (up_g hU19 (fun z => by omega)).trans (sfa j a (by omega))
                · intro j a b
                  by_cases z : j = at9
                  · rw [z, up_f hU19]; exact sfa (at9 - 1) (by omega) (by omega)
                  · rw [up_g hU19 (fun y => z y.2.2)]; exact sfb j (by omega) b
      refine j_blx (F := fX6) tb_X6 (nn_ _) bk_X6_listAhead_f_5 bs_X6_listAhead_f_5 hz (fun K hK => ?_)
      have e22 : T1 102 p 0 = T 102 p 0 := hf_5 102 p 0 rfl
      intro b23 b23b
      have e24 : T1 100 (T 102 p 0) 8 = T 100 (T 102 p 0) 8 := hf_5 100 (T 102 p 0) 8 rfl
      have e25 : T1 100 (T1 102 p 0) 8 = T 100 (T 102 p 0) 8 := by rw [e22]; exact e24
      rw [e25] at b23 b23b ⊢
      refine And.intro (fun c26 => ?_) (fun c26 => ?_)
      · refine hK 190 _ [] T1 ?_
        refine j_blx (F := fX6) tb_X6 (nn_ _) bk_X6_listAhead_f_190 bs_X6_listAhead_f_190 hz (fun K hK => ?_)
        refine (show po_X6_listAhead_f T p q T1 (some (vI f)) from ?_)
        rw [show k = T 100 (T 102 p 0) 8 from Int.le_antisymm (by omega) (by omega)] at lh1
        exact ⟨_, rfl, fr_t (fr_0 _ _) (fr_s hf_5 rfl), by omega, li1, lh1⟩
      · have hnb := hkm (T 100 (T 102 p 0) 7 + k) (by omega) (by omega)
        have e28 : T1 102 p 0 = T 102 p 0 := hf_5 102 p 0 rfl
        intro b29 b29b
        have e30 : T1 100 (T 102 p 0) 7 = T 100 (T 102 p 0) 7 := hf_5 100 (T 102 p 0) 7 rfl
        have e31 : T1 100 (T1 102 p 0) 7 = T 100 (T 102 p 0) 7 := by rw [e28]; exact e30
        rw [e31] at b29 b29b ⊢
        refine rg_i (by omega) ?_
        refine ix_i (by omega) ?_
        have e33 : T1 523 0 ((T 100 (T 102 p 0) 7) + k) = T 523 0 ((T 100 (T 102 p 0) 7) + k) := hf_5 523 0 ((T 100 (T 102 p 0) 7) + k) rfl
        refine And.intro (fun c32 => ?_) (fun c32 => ?_)
        · exact absurd (show T 523 0 (T 100 (T 102 p 0) 7 + k) = 0 from Int.le_antisymm (by omega) (by omega)) (hka.2 _ (by omega) (by omega))
        · intro b34 b34b
          have e35 : T1 102 ((T 100 (T 102 p 0) 7) + k) 5 = T 102 ((T 100 (T 102 p 0) 7) + k) 5 := hf_5 102 ((T 100 (T 102 p 0) 7) + k) 5 rfl
          rw [e35] at b34 b34b ⊢
          intro b36 b36b
          have e37 : T1 102 p 5 = T 102 p 5 := hf_5 102 p 5 rfl
          rw [e37] at b36 b36b ⊢
          refine And.intro (fun c38 => ?_) (fun c38 => ?_)
          · refine hK 70 [some (vR 106 0), some (vI q), some (vR 102 p), some (vI f), some (vI k), some (vR 102 ((T 100 (T 102 p 0) 7) + k)), none, none] [] T1 ?_
            refine j_blx (F := fX6) tb_X6 (nn_ _) bk_X6_listAhead_f_70 bs_X6_listAhead_f_70 hz (fun K hK => ?_)
            refine hK 75 _ [vI 1] T1 ?_
            refine j_blx (F := fX6) tb_X6 (nn_ _) bk_X6_listAhead_f_75 bs_X6_listAhead_f_75 hz (fun K hK => ?_)
            refine And.intro (fun c39 => ?_) (fun c39 => ?_)
            · refine hK 184 [some (vR 106 0), some (vI q), some (vR 102 p), some (vI f), some (vI k), some (vR 102 ((T 100 (T 102 p 0) 7) + k)), some (vI 1), none] [] T1 ?_
              refine j_blx (F := fX6) tb_X6 (nn_ _) bk_X6_listAhead_f_184 bs_X6_listAhead_f_184 hz (fun K hK => ?_)
              refine rg_i (by omega) ?_
              refine hK 5 [some (vR 106 0), some (vI q), some (vR 102 p), some (vI f), some (vI (k + 1)), some (vR 102 ((T 100 (T 102 p 0) 7) + k)), some (vI 1), none] [] T1 ?_
              refine j_drop [some (vR 106 0), some (vI q), some (vR 102 p), some (vI f), some (vI (k + 1)), none, none, none] (fun k v hk => ?_) rfl ?_
              · match k, hk with
                | 0, hk => exact hk
                | 1, hk => exact hk
                | 2, hk => exact hk
                | 3, hk => exact hk
                | 4, hk => exact hk
                | 5, hk => cases hk
                | 6, hk => cases hk
                | 7, hk => cases hk
                | k + 8, hk => cases hk
              refine ih_5 _ ?_ f (k + 1) T1 (Nat.le_refl _) ?_ ?_ ?_ ?_
              · have hm_5 := hm_5 (); omega
              · exact fr_t (fr_0 _ _) (fr_s hf_5 rfl)
              · omega
              · exact li1
              · exact lhd_n lh1 (fun z => by
                  have z1 := z.1
                  unfold rlH_ at z1
                  have z2 : T 102 (T 100 (T 102 p 0) 7 + k) 5 * 400 + (T 100 (T 102 p 0) 7 + k) < (T 102 p 5 * 400 + p) := z.2
                  omega)
            · refine hK 84 [some (vR 106 0), some (vI q), some (vR 102 p), some (vI f), some (vI k), some (vR 102 ((T 100 (T 102 p 0) 7) + k)), some (vI 1), none] [vR 102 ((T 100 (T 102 p 0) 7) + k)] T1 ?_
              refine j_callV (y := yX2_isDecided) (Yc := zX2_isDecided) (rest := []) [] (ct_X2_isDecided_e (T := T1)) cl_X6_195 (qd_c (by decide +kernel)) (nn_ _) rfl (rf_of rfl) (Nat.le_of_ble_eq_true rfl) (Nat.le_of_ble_eq_true rfl) (Nat.le_of_ble_eq_true rfl) rfl ?_
              rintro _ _ ⟨rfl, x40, rfl, hx40⟩
              have e41 : T1 102 ((T 100 (T 102 p 0) 7) + k) 6 = T 102 ((T 100 (T 102 p 0) 7) + k) 6 := hf_5 102 ((T 100 (T 102 p 0) 7) + k) 6 rfl
              have e42 : T1 102 ((T 100 (T 102 p 0) 7) + k) 10 = T 102 ((T 100 (T 102 p 0) 7) + k) 10 := hf_5 102 ((T 100 (T 102 p 0) 7) + k) 10 rfl
              have e43 : T1 103 ((T 100 (T 102 p 0) 7) + k) 3 = T 103 ((T 100 (T 102 p 0) 7) + k) 3 := hf_5 103 ((T 100 (T 102 p 0) 7) + k) 3 rfl
              show J_ zX6_listAhead T (po_X6_listAhead_f T p q) 0 0 87 _ [vI x40] T1
              refine j_blx (F := fX6) tb_X6 (nn_ _) bk_X6_listAhead_f_87 bs_X6_listAhead_f_87 hz (fun K hK => ?_)
              refine And.intro (fun c44 => ?_) (fun c44 => ?_)
              · replace hx40 := hx40.resolve_left (fun z => absurd (c44.symm.trans z.1) (by decide))
                clear c44
                refine hK 184 _ [] T1 ?_
                refine j_blx (F := fX6) tb_X6 (nn_ _) bk_X6_listAhead_f_184 bs_X6_listAhead_f_184 hz (fun K hK => ?_)
                refine rg_i (by omega) ?_
                refine hK 5 [some (vR 106 0), some (vI q), some (vR 102 p), some (vI f), some (vI (k + 1)), some (vR 102 ((T 100 (T 102 p 0) 7) + k)), some (vI 1), none] [] T1 ?_
                refine j_drop [some (vR 106 0), some (vI q), some (vR 102 p), some (vI f), some (vI (k + 1)), none, none, none] (fun k v hk => ?_) rfl ?_
                · match k, hk with
                  | 0, hk => exact hk
                  | 1, hk => exact hk
                  | 2, hk => exact hk
                  | 3, hk => exact hk
                  | 4, hk => exact hk
                  | 5, hk => cases hk
                  | 6, hk => cases hk
                  | 7, hk => cases hk
                  | k + 8, hk => cases hk
                refine ih_5 _ ?_ f (k + 1) T1 (Nat.le_refl _) ?_ ?_ ?_ ?_
                · have hm_5 := hm_5 (); omega
                · exact fr_t (fr_0 _ _) (fr_s hf_5 rfl)
                · omega
                · exact li1
                · exact lhd_n lh1 (fun z => by
                    have z1 := z.1
                    unfold rlH_ at z1
                    have z2 : T 102 (T 100 (T 102 p 0) 7 + k) 5 * 400 + (T 100 (T 102 p 0) 7 + k) < (T 102 p 5 * 400 + p) := z.2
                    omega)
              · replace hx40 := hx40.resolve_right (fun z => c44 z.1)
                clear c44
                intro b45 b45b
                have e46 : T1 102 ((T 100 (T 102 p 0) 7) + k) 5 = T 102 ((T 100 (T 102 p 0) 7) + k) 5 := hf_5 102 ((T 100 (T 102 p 0) 7) + k) 5 rfl
                rw [e46] at b45 b45b ⊢
                refine hK 102 [some (vR 106 0), some (vI q), some (vR 102 p), some (vI f), some (vI k), some (vR 102 ((T 100 (T 102 p 0) 7) + k)), some (vI 1), none] [vI (T 102 ((T 100 (T 102 p 0) 7) + k) 5), vI q, vR 108 0, vR 102 ((T 100 (T 102 p 0) 7) + k)] T1 ?_
                refine j_callV (y := yX8_clubOn) (Yc := zX8_clubOn) (rest := [vR 102 ((T 100 (T 102 p 0) 7) + k)]) [vI q, vI (T 102 ((T 100 (T 102 p 0) 7) + k) 5)] (ct_X8_clubOn_e (T := T1) (by omega) (by have y9 : T1 108 0 3 = T 108 0 3 := hf_5 108 0 3 rfl; omega) (spr_w hsp (fr_t (fr_0 _ _) (fr_s hf_5 rfl)))) cl_X6_165 (qd_c (by decide +kernel)) (nn_ _) rfl (rf_of rfl) (Nat.le_of_ble_eq_true rfl) (Nat.le_of_ble_eq_true rfl) (Nat.le_of_ble_eq_true rfl) rfl ?_
                rintro _ _ ⟨rfl, x47, rfl, hx47⟩
                rw [co_k (T := T) (fr_t (fr_0 _ _) (fr_s hf_5 rfl))] at hx47
                show J_ zX6_listAhead T (po_X6_listAhead_f T p q) 0 0 105 _ [vI x47, vR 102 ((T 100 (T 102 p 0) 7) + k)] T1
                refine j_callV (y := yX2_has) (Yc := zX2_has) (rest := []) [vI x47] (ct_X2_has_f (T := T1)) cl_X6_88 (qd_c (by decide +kernel)) (nn_ _) rfl (rf_of rfl) (Nat.le_of_ble_eq_true rfl) (Nat.le_of_ble_eq_true rfl) (Nat.le_of_ble_eq_true rfl) rfl ?_
                rintro _ _ ⟨rfl, x48, rfl, hx48⟩
                have e49 : T1 102 ((T 100 (T 102 p 0) 7) + k) 3 = T 102 ((T 100 (T 102 p 0) 7) + k) 3 := hf_5 102 ((T 100 (T 102 p 0) 7) + k) 3 rfl
                have e50 : T1 102 ((T 100 (T 102 p 0) 7) + k) 4 = T 102 ((T 100 (T 102 p 0) 7) + k) 4 := hf_5 102 ((T 100 (T 102 p 0) 7) + k) 4 rfl
                show J_ zX6_listAhead T (po_X6_listAhead_f T p q) 0 0 108 _ [vI x48] T1
                refine j_blx (F := fX6) tb_X6 (nn_ _) bk_X6_listAhead_f_108 bs_X6_listAhead_f_108 hz (fun K hK => ?_)
                refine And.intro (fun c51 => ?_) (fun c51 => ?_)
                · replace hx48 := hx48.resolve_right (fun z => c51 z.1)
                  clear c51
                  refine hK 114 _ [] T1 ?_
                  refine j_blx (F := fX6) tb_X6 (nn_ _) bk_X6_listAhead_f_114 bs_X6_listAhead_f_114 hz (fun K hK => ?_)
                  refine hK 117 [some (vR 106 0), some (vI q), some (vR 102 p), some (vI f), some (vI k), some (vR 102 ((T 100 (T 102 p 0) 7) + k)), some (vI 1), some (vI f)] [] T1 ?_
                  refine j_drop [some (vR 106 0), some (vI q), some (vR 102 p), some (vI f), some (vI k), some (vR 102 ((T 100 (T 102 p 0) 7) + k)), none, some (vI f)] (fun k v hk => ?_) rfl ?_
                  · match k, hk with
                    | 0, hk => exact hk
                    | 1, hk => exact hk
                    | 2, hk => exact hk
                    | 3, hk => exact hk
                    | 4, hk => exact hk
                    | 5, hk => exact hk
                    | 6, hk => cases hk
                    | 7, hk => exact hk
                    | k + 8, hk => cases hk
                  refine c_117 _ f T1 (Nat.le_refl _) ?_ ?_ ?_ ?_ ?_ ?_ ?_
                  · exact fr_t (fr_0 _ _) (fr_s hf_5 rfl)
                  · omega
                  · exact fun j a b d => li1 j a (by omega)
                  · refine ⟨?_, ?_⟩
                    · unfold rlH_; omega
                    · show T 102 (T 100 (T 102 p 0) 7 + k) 5 * 400 + (T 100 (T 102 p 0) 7 + k) < (T 102 p 5 * 400 + p); omega
                  · intro j a b; omega
                  · exact fun j _ _ => rfl
                  · intro j a b; omega
                · replace hx48 := hx48.resolve_left (fun z => absurd (c51.symm.trans z.1) (by decide))
                  clear c51
                  refine hK 184 [some (vR 106 0), some (vI q), some (vR 102 p), some (vI f), some (vI k), some (vR 102 ((T 100 (T 102 p 0) 7) + k)), some (vI 1), none] [] T1 ?_
                  refine j_blx (F := fX6) tb_X6 (nn_ _) bk_X6_listAhead_f_184 bs_X6_listAhead_f_184 hz (fun K hK => ?_)
                  refine rg_i (by omega) ?_
                  refine hK 5 [some (vR 106 0), some (vI q), some (vR 102 p), some (vI f), some (vI (k + 1)), some (vR 102 ((T 100 (T 102 p 0) 7) + k)), some (vI 1), none] [] T1 ?_
                  refine j_drop [some (vR 106 0), some (vI q), some (vR 102 p), some (vI f), some (vI (k + 1)), none, none, none] (fun k v hk => ?_) rfl ?_
                  · match k, hk with
                    | 0, hk => exact hk
                    | 1, hk => exact hk
                    | 2, hk => exact hk
                    | 3, hk => exact hk
                    | 4, hk => exact hk
                    | 5, hk => cases hk
                    | 6, hk => cases hk
                    | 7, hk => cases hk
                    | k + 8, hk => cases hk
                  refine ih_5 _ ?_ f (k + 1) T1 (Nat.le_refl _) ?_ ?_ ?_ ?_
                  · have hm_5 := hm_5 (); omega
                  · exact fr_t (fr_0 _ _) (fr_s hf_5 rfl)
                  · omega
                  · exact li1
                  · exact lhd_n lh1 (fun z => by
                      have z1 := z.1
                      unfold rlH_ at z1
                      have z2 : T 102 (T 100 (T 102 p 0) 7 + k) 5 * 400 + (T 100 (T 102 p 0) 7 + k) < (T 102 p 5 * 400 + p) := z.2
                      omega)
          · intro b52 b52b
            have e53 : T1 102 ((T 100 (T 102 p 0) 7) + k) 5 = T 102 ((T 100 (T 102 p 0) 7) + k) 5 := hf_5 102 ((T 100 (T 102 p 0) 7) + k) 5 rfl
            rw [e53] at b52 b52b ⊢
            intro b54 b54b
            have e55 : T1 102 p 5 = T 102 p 5 := hf_5 102 p 5 rfl
            rw [e55] at b54 b54b ⊢
            refine And.intro (fun c56 => ?_) (fun c56 => ?_)
            · refine hK 74 _ [] T1 ?_
              refine j_blx (F := fX6) tb_X6 (nn_ _) bk_X6_listAhead_f_74 bs_X6_listAhead_f_74 hz (fun K hK => ?_)
              refine And.intro (fun c57 => ?_) (fun c57 => ?_)
              · refine hK 184 [some (vR 106 0), some (vI q), some (vR 102 p), some (vI f), some (vI k), some (vR 102 ((T 100 (T 102 p 0) 7) + k)), some (vI 0), none] [] T1 ?_
                refine j_blx (F := fX6) tb_X6 (nn_ _) bk_X6_listAhead_f_184 bs_X6_listAhead_f_184 hz (fun K hK => ?_)
                refine rg_i (by omega) ?_
                refine hK 5 [some (vR 106 0), some (vI q), some (vR 102 p), some (vI f), some (vI (k + 1)), some (vR 102 ((T 100 (T 102 p 0) 7) + k)), some (vI 0), none] [] T1 ?_
                refine j_drop [some (vR 106 0), some (vI q), some (vR 102 p), some (vI f), some (vI (k + 1)), none, none, none] (fun k v hk => ?_) rfl ?_
                · match k, hk with
                  | 0, hk => exact hk
                  | 1, hk => exact hk
                  | 2, hk => exact hk
                  | 3, hk => exact hk
                  | 4, hk => exact hk
                  | 5, hk => cases hk
                  | 6, hk => cases hk
                  | 7, hk => cases hk
                  | k + 8, hk => cases hk
                refine ih_5 _ ?_ f (k + 1) T1 (Nat.le_refl _) ?_ ?_ ?_ ?_
                · have hm_5 := hm_5 (); omega
                · exact fr_t (fr_0 _ _) (fr_s hf_5 rfl)
                · omega
                · exact li1
                · exact lhd_n lh1 (fun z => by
                    have z1 := z.1
                    unfold rlH_ at z1
                    have z2 : T 102 (T 100 (T 102 p 0) 7 + k) 5 * 400 + (T 100 (T 102 p 0) 7 + k) < (T 102 p 5 * 400 + p) := z.2
                    omega)
              · refine hK 84 [some (vR 106 0), some (vI q), some (vR 102 p), some (vI f), some (vI k), some (vR 102 ((T 100 (T 102 p 0) 7) + k)), some (vI 0), none] [vR 102 ((T 100 (T 102 p 0) 7) + k)] T1 ?_
                refine j_callV (y := yX2_isDecided) (Yc := zX2_isDecided) (rest := []) [] (ct_X2_isDecided_e (T := T1)) cl_X6_195 (qd_c (by decide +kernel)) (nn_ _) rfl (rf_of rfl) (Nat.le_of_ble_eq_true rfl) (Nat.le_of_ble_eq_true rfl) (Nat.le_of_ble_eq_true rfl) rfl ?_
                rintro _ _ ⟨rfl, x58, rfl, hx58⟩
                have e59 : T1 102 ((T 100 (T 102 p 0) 7) + k) 6 = T 102 ((T 100 (T 102 p 0) 7) + k) 6 := hf_5 102 ((T 100 (T 102 p 0) 7) + k) 6 rfl
                have e60 : T1 102 ((T 100 (T 102 p 0) 7) + k) 10 = T 102 ((T 100 (T 102 p 0) 7) + k) 10 := hf_5 102 ((T 100 (T 102 p 0) 7) + k) 10 rfl
                have e61 : T1 103 ((T 100 (T 102 p 0) 7) + k) 3 = T 103 ((T 100 (T 102 p 0) 7) + k) 3 := hf_5 103 ((T 100 (T 102 p 0) 7) + k) 3 rfl
                show J_ zX6_listAhead T (po_X6_listAhead_f T p q) 0 0 87 _ [vI x58] T1
                refine j_blx (F := fX6) tb_X6 (nn_ _) bk_X6_listAhead_f_87 bs_X6_listAhead_f_87 hz (fun K hK => ?_)
                refine And.intro (fun c62 => ?_) (fun c62 => ?_)
                · replace hx58 := hx58.resolve_left (fun z => absurd (c62.symm.trans z.1) (by decide))
                  clear c62
                  refine hK 184 _ [] T1 ?_
                  refine j_blx (F := fX6) tb_X6 (nn_ _) bk_X6_listAhead_f_184 bs_X6_listAhead_f_184 hz (fun K hK => ?_)
                  refine rg_i (by omega) ?_
                  refine hK 5 [some (vR 106 0), some (vI q), some (vR 102 p), some (vI f), some (vI (k + 1)), some (vR 102 ((T 100 (T 102 p 0) 7) + k)), some (vI 0), none] [] T1 ?_
                  refine j_drop [some (vR 106 0), some (vI q), some (vR 102 p), some (vI f), some (vI (k + 1)), none, none, none] (fun k v hk => ?_) rfl ?_
                  · match k, hk with
                    | 0, hk => exact hk
                    | 1, hk => exact hk
                    | 2, hk => exact hk
                    | 3, hk => exact hk
                    | 4, hk => exact hk
                    | 5, hk => cases hk
                    | 6, hk => cases hk
                    | 7, hk => cases hk
                    | k + 8, hk => cases hk
                  refine ih_5 _ ?_ f (k + 1) T1 (Nat.le_refl _) ?_ ?_ ?_ ?_
                  · have hm_5 := hm_5 (); omega
                  · exact fr_t (fr_0 _ _) (fr_s hf_5 rfl)
                  · omega
                  · exact li1
                  · exact lhd_n lh1 (fun z => by
                      have z1 := z.1
                      unfold rlH_ at z1
                      have z2 : T 102 (T 100 (T 102 p 0) 7 + k) 5 * 400 + (T 100 (T 102 p 0) 7 + k) < (T 102 p 5 * 400 + p) := z.2
                      omega)
                · replace hx58 := hx58.resolve_right (fun z => c62 z.1)
                  clear c62
                  intro b63 b63b
                  have e64 : T1 102 ((T 100 (T 102 p 0) 7) + k) 5 = T 102 ((T 100 (T 102 p 0) 7) + k) 5 := hf_5 102 ((T 100 (T 102 p 0) 7) + k) 5 rfl
                  rw [e64] at b63 b63b ⊢
                  refine hK 102 [some (vR 106 0), some (vI q), some (vR 102 p), some (vI f), some (vI k), some (vR 102 ((T 100 (T 102 p 0) 7) + k)), some (vI 0), none] [vI (T 102 ((T 100 (T 102 p 0) 7) + k) 5), vI q, vR 108 0, vR 102 ((T 100 (T 102 p 0) 7) + k)] T1 ?_
                  refine j_callV (y := yX8_clubOn) (Yc := zX8_clubOn) (rest := [vR 102 ((T 100 (T 102 p 0) 7) + k)]) [vI q, vI (T 102 ((T 100 (T 102 p 0) 7) + k) 5)] (ct_X8_clubOn_e (T := T1) (by omega) (by have y9 : T1 108 0 3 = T 108 0 3 := hf_5 108 0 3 rfl; omega) (spr_w hsp (fr_t (fr_0 _ _) (fr_s hf_5 rfl)))) cl_X6_165 (qd_c (by decide +kernel)) (nn_ _) rfl (rf_of rfl) (Nat.le_of_ble_eq_true rfl) (Nat.le_of_ble_eq_true rfl) (Nat.le_of_ble_eq_true rfl) rfl ?_
                  rintro _ _ ⟨rfl, x65, rfl, hx65⟩
                  rw [co_k (T := T) (fr_t (fr_0 _ _) (fr_s hf_5 rfl))] at hx65
                  show J_ zX6_listAhead T (po_X6_listAhead_f T p q) 0 0 105 _ [vI x65, vR 102 ((T 100 (T 102 p 0) 7) + k)] T1
                  refine j_callV (y := yX2_has) (Yc := zX2_has) (rest := []) [vI x65] (ct_X2_has_f (T := T1)) cl_X6_88 (qd_c (by decide +kernel)) (nn_ _) rfl (rf_of rfl) (Nat.le_of_ble_eq_true rfl) (Nat.le_of_ble_eq_true rfl) (Nat.le_of_ble_eq_true rfl) rfl ?_
                  rintro _ _ ⟨rfl, x66, rfl, hx66⟩
                  have e67 : T1 102 ((T 100 (T 102 p 0) 7) + k) 3 = T 102 ((T 100 (T 102 p 0) 7) + k) 3 := hf_5 102 ((T 100 (T 102 p 0) 7) + k) 3 rfl
                  have e68 : T1 102 ((T 100 (T 102 p 0) 7) + k) 4 = T 102 ((T 100 (T 102 p 0) 7) + k) 4 := hf_5 102 ((T 100 (T 102 p 0) 7) + k) 4 rfl
                  show J_ zX6_listAhead T (po_X6_listAhead_f T p q) 0 0 108 _ [vI x66] T1
                  refine j_blx (F := fX6) tb_X6 (nn_ _) bk_X6_listAhead_f_108 bs_X6_listAhead_f_108 hz (fun K hK => ?_)
                  refine And.intro (fun c69 => ?_) (fun c69 => ?_)
                  · replace hx66 := hx66.resolve_right (fun z => c69 z.1)
                    clear c69
                    refine hK 114 _ [] T1 ?_
                    refine j_blx (F := fX6) tb_X6 (nn_ _) bk_X6_listAhead_f_114 bs_X6_listAhead_f_114 hz (fun K hK => ?_)
                    refine hK 117 [some (vR 106 0), some (vI q), some (vR 102 p), some (vI f), some (vI k), some (vR 102 ((T 100 (T 102 p 0) 7) + k)), some (vI 0), some (vI f)] [] T1 ?_
                    refine j_drop [some (vR 106 0), some (vI q), some (vR 102 p), some (vI f), some (vI k), some (vR 102 ((T 100 (T 102 p 0) 7) + k)), none, some (vI f)] (fun k v hk => ?_) rfl ?_
                    · match k, hk with
                      | 0, hk => exact hk
                      | 1, hk => exact hk
                      | 2, hk => exact hk
                      | 3, hk => exact hk
                      | 4, hk => exact hk
                      | 5, hk => exact hk
                      | 6, hk => cases hk
                      | 7, hk => exact hk
                      | k + 8, hk => cases hk
                    refine c_117 _ f T1 (Nat.le_refl _) ?_ ?_ ?_ ?_ ?_ ?_ ?_
                    · exact fr_t (fr_0 _ _) (fr_s hf_5 rfl)
                    · omega
                    · exact fun j a b d => li1 j a (by omega)
                    · refine ⟨?_, ?_⟩
                      · unfold rlH_; omega
                      · show T 102 (T 100 (T 102 p 0) 7 + k) 5 * 400 + (T 100 (T 102 p 0) 7 + k) < (T 102 p 5 * 400 + p); omega
                    · intro j a b; omega
                    · exact fun j _ _ => rfl
                    · intro j a b; omega
                  · replace hx66 := hx66.resolve_left (fun z => absurd (c69.symm.trans z.1) (by decide))
                    clear c69
                    refine hK 184 [some (vR 106 0), some (vI q), some (vR 102 p), some (vI f), some (vI k), some (vR 102 ((T 100 (T 102 p 0) 7) + k)), some (vI 0), none] [] T1 ?_
                    refine j_blx (F := fX6) tb_X6 (nn_ _) bk_X6_listAhead_f_184 bs_X6_listAhead_f_184 hz (fun K hK => ?_)
                    refine rg_i (by omega) ?_
                    refine hK 5 [some (vR 106 0), some (vI q), some (vR 102 p), some (vI f), some (vI (k + 1)), some (vR 102 ((T 100 (T 102 p 0) 7) + k)), some (vI 0), none] [] T1 ?_
                    refine j_drop [some (vR 106 0), some (vI q), some (vR 102 p), some (vI f), some (vI (k + 1)), none, none, none] (fun k v hk => ?_) rfl ?_
                    · match k, hk with
                      | 0, hk => exact hk
                      | 1, hk => exact hk
                      | 2, hk => exact hk
                      | 3, hk => exact hk
                      | 4, hk => exact hk
                      | 5, hk => cases hk
                      | 6, hk => cases hk
                      | 7, hk => cases hk
                      | k + 8, hk => cases hk
                    refine ih_5 _ ?_ f (k + 1) T1 (Nat.le_refl _) ?_ ?_ ?_ ?_
                    · have hm_5 := hm_5 (); omega
                    · exact fr_t (fr_0 _ _) (fr_s hf_5 rfl)
                    · omega
                    · exact li1
                    · exact lhd_n lh1 (fun z => by
                        have z1 := z.1
                        unfold rlH_ at z1
                        have z2 : T 102 (T 100 (T 102 p 0) 7 + k) 5 * 400 + (T 100 (T 102 p 0) 7 + k) < (T 102 p 5 * 400 + p) := z.2
                        omega)
            · intro b70 b70b
              have e71 : T1 102 ((T 100 (T 102 p 0) 7) + k) 1 = T 102 ((T 100 (T 102 p 0) 7) + k) 1 := hf_5 102 ((T 100 (T 102 p 0) 7) + k) 1 rfl
              rw [e71] at b70 b70b ⊢
              intro b72 b72b
              have e73 : T1 102 p 1 = T 102 p 1 := hf_5 102 p 1 rfl
              rw [e73] at b72 b72b ⊢
              refine And.intro (fun c74 => ?_) (fun c74 => ?_)
              · refine hK 74 _ [] T1 ?_
                refine j_blx (F := fX6) tb_X6 (nn_ _) bk_X6_listAhead_f_74 bs_X6_listAhead_f_74 hz (fun K hK => ?_)
                refine And.intro (fun c75 => ?_) (fun c75 => ?_)
                · refine hK 184 [some (vR 106 0), some (vI q), some (vR 102 p), some (vI f), some (vI k), some (vR 102 ((T 100 (T 102 p 0) 7) + k)), some (vI 0), none] [] T1 ?_
                  refine j_blx (F := fX6) tb_X6 (nn_ _) bk_X6_listAhead_f_184 bs_X6_listAhead_f_184 hz (fun K hK => ?_)
                  refine rg_i (by omega) ?_
                  refine hK 5 [some (vR 106 0), some (vI q), some (vR 102 p), some (vI f), some (vI (k + 1)), some (vR 102 ((T 100 (T 102 p 0) 7) + k)), some (vI 0), none] [] T1 ?_
                  refine j_drop [some (vR 106 0), some (vI q), some (vR 102 p), some (vI f), some (vI (k + 1)), none, none, none] (fun k v hk => ?_) rfl ?_
                  · match k, hk with
                    | 0, hk => exact hk
                    | 1, hk => exact hk
                    | 2, hk => exact hk
                    | 3, hk => exact hk
                    | 4, hk => exact hk
                    | 5, hk => cases hk
                    | 6, hk => cases hk
                    | 7, hk => cases hk
                    | k + 8, hk => cases hk
                  refine ih_5 _ ?_ f (k + 1) T1 (Nat.le_refl _) ?_ ?_ ?_ ?_
                  · have hm_5 := hm_5 (); omega
                  · exact fr_t (fr_0 _ _) (fr_s hf_5 rfl)
                  · omega
                  · exact li1
                  · exact lhd_n lh1 (fun z => by
                      have z1 := z.1
                      unfold rlH_ at z1
                      have z2 : T 102 (T 100 (T 102 p 0) 7 + k) 5 * 400 + (T 100 (T 102 p 0) 7 + k) < (T 102 p 5 * 400 + p) := z.2
                      omega)
                · refine hK 84 [some (vR 106 0), some (vI q), some (vR 102 p), some (vI f), some (vI k), some (vR 102 ((T 100 (T 102 p 0) 7) + k)), some (vI 0), none] [vR 102 ((T 100 (T 102 p 0) 7) + k)] T1 ?_
                  refine j_callV (y := yX2_isDecided) (Yc := zX2_isDecided) (rest := []) [] (ct_X2_isDecided_e (T := T1)) cl_X6_195 (qd_c (by decide +kernel)) (nn_ _) rfl (rf_of rfl) (Nat.le_of_ble_eq_true rfl) (Nat.le_of_ble_eq_true rfl) (Nat.le_of_ble_eq_true rfl) rfl ?_
                  rintro _ _ ⟨rfl, x76, rfl, hx76⟩
                  have e77 : T1 102 ((T 100 (T 102 p 0) 7) + k) 6 = T 102 ((T 100 (T 102 p 0) 7) + k) 6 := hf_5 102 ((T 100 (T 102 p 0) 7) + k) 6 rfl
                  have e78 : T1 102 ((T 100 (T 102 p 0) 7) + k) 10 = T 102 ((T 100 (T 102 p 0) 7) + k) 10 := hf_5 102 ((T 100 (T 102 p 0) 7) + k) 10 rfl
                  have e79 : T1 103 ((T 100 (T 102 p 0) 7) + k) 3 = T 103 ((T 100 (T 102 p 0) 7) + k) 3 := hf_5 103 ((T 100 (T 102 p 0) 7) + k) 3 rfl
                  show J_ zX6_listAhead T (po_X6_listAhead_f T p q) 0 0 87 _ [vI x76] T1
                  refine j_blx (F := fX6) tb_X6 (nn_ _) bk_X6_listAhead_f_87 bs_X6_listAhead_f_87 hz (fun K hK => ?_)
                  refine And.intro (fun c80 => ?_) (fun c80 => ?_)
                  · replace hx76 := hx76.resolve_left (fun z => absurd (c80.symm.trans z.1) (by decide))
                    clear c80
                    refine hK 184 _ [] T1 ?_
                    refine j_blx (F := fX6) tb_X6 (nn_ _) bk_X6_listAhead_f_184 bs_X6_listAhead_f_184 hz (fun K hK => ?_)
                    refine rg_i (by omega) ?_
                    refine hK 5 [some (vR 106 0), some (vI q), some (vR 102 p), some (vI f), some (vI (k + 1)), some (vR 102 ((T 100 (T 102 p 0) 7) + k)), some (vI 0), none] [] T1 ?_
                    refine j_drop [some (vR 106 0), some (vI q), some (vR 102 p), some (vI f), some (vI (k + 1)), none, none, none] (fun k v hk => ?_) rfl ?_
                    · match k, hk with
                      | 0, hk => exact hk
                      | 1, hk => exact hk
                      | 2, hk => exact hk
                      | 3, hk => exact hk
                      | 4, hk => exact hk
                      | 5, hk => cases hk
                      | 6, hk => cases hk
                      | 7, hk => cases hk
                      | k + 8, hk => cases hk
                    refine ih_5 _ ?_ f (k + 1) T1 (Nat.le_refl _) ?_ ?_ ?_ ?_
                    · have hm_5 := hm_5 (); omega
                    · exact fr_t (fr_0 _ _) (fr_s hf_5 rfl)
                    · omega
                    · exact li1
                    · exact lhd_n lh1 (fun z => by
                        have z1 := z.1
                        unfold rlH_ at z1
                        have z2 : T 102 (T 100 (T 102 p 0) 7 + k) 5 * 400 + (T 100 (T 102 p 0) 7 + k) < (T 102 p 5 * 400 + p) := z.2
                        omega)
                  · replace hx76 := hx76.resolve_right (fun z => c80 z.1)
                    clear c80
                    intro b81 b81b
                    have e82 : T1 102 ((T 100 (T 102 p 0) 7) + k) 5 = T 102 ((T 100 (T 102 p 0) 7) + k) 5 := hf_5 102 ((T 100 (T 102 p 0) 7) + k) 5 rfl
                    rw [e82] at b81 b81b ⊢
                    refine hK 102 [some (vR 106 0), some (vI q), some (vR 102 p), some (vI f), some (vI k), some (vR 102 ((T 100 (T 102 p 0) 7) + k)), some (vI 0), none] [vI (T 102 ((T 100 (T 102 p 0) 7) + k) 5), vI q, vR 108 0, vR 102 ((T 100 (T 102 p 0) 7) + k)] T1 ?_
                    refine j_callV (y := yX8_clubOn) (Yc := zX8_clubOn) (rest := [vR 102 ((T 100 (T 102 p 0) 7) + k)]) [vI q, vI (T 102 ((T 100 (T 102 p 0) 7) + k) 5)] (ct_X8_clubOn_e (T := T1) (by omega) (by have y9 : T1 108 0 3 = T 108 0 3 := hf_5 108 0 3 rfl; omega) (spr_w hsp (fr_t (fr_0 _ _) (fr_s hf_5 rfl)))) cl_X6_165 (qd_c (by decide +kernel)) (nn_ _) rfl (rf_of rfl) (Nat.le_of_ble_eq_true rfl) (Nat.le_of_ble_eq_true rfl) (Nat.le_of_ble_eq_true rfl) rfl ?_
                    rintro _ _ ⟨rfl, x83, rfl, hx83⟩
                    rw [co_k (T := T) (fr_t (fr_0 _ _) (fr_s hf_5 rfl))] at hx83
                    show J_ zX6_listAhead T (po_X6_listAhead_f T p q) 0 0 105 _ [vI x83, vR 102 ((T 100 (T 102 p 0) 7) + k)] T1
                    refine j_callV (y := yX2_has) (Yc := zX2_has) (rest := []) [vI x83] (ct_X2_has_f (T := T1)) cl_X6_88 (qd_c (by decide +kernel)) (nn_ _) rfl (rf_of rfl) (Nat.le_of_ble_eq_true rfl) (Nat.le_of_ble_eq_true rfl) (Nat.le_of_ble_eq_true rfl) rfl ?_
                    rintro _ _ ⟨rfl, x84, rfl, hx84⟩
                    have e85 : T1 102 ((T 100 (T 102 p 0) 7) + k) 3 = T 102 ((T 100 (T 102 p 0) 7) + k) 3 := hf_5 102 ((T 100 (T 102 p 0) 7) + k) 3 rfl
                    have e86 : T1 102 ((T 100 (T 102 p 0) 7) + k) 4 = T 102 ((T 100 (T 102 p 0) 7) + k) 4 := hf_5 102 ((T 100 (T 102 p 0) 7) + k) 4 rfl
                    show J_ zX6_listAhead T (po_X6_listAhead_f T p q) 0 0 108 _ [vI x84] T1
                    refine j_blx (F := fX6) tb_X6 (nn_ _) bk_X6_listAhead_f_108 bs_X6_listAhead_f_108 hz (fun K hK => ?_)
                    refine And.intro (fun c87 => ?_) (fun c87 => ?_)
                    · replace hx84 := hx84.resolve_right (fun z => c87 z.1)
                      clear c87
                      refine hK 114 _ [] T1 ?_
                      refine j_blx (F := fX6) tb_X6 (nn_ _) bk_X6_listAhead_f_114 bs_X6_listAhead_f_114 hz (fun K hK => ?_)
                      refine hK 117 [some (vR 106 0), some (vI q), some (vR 102 p), some (vI f), some (vI k), some (vR 102 ((T 100 (T 102 p 0) 7) + k)), some (vI 0), some (vI f)] [] T1 ?_
                      refine j_drop [some (vR 106 0), some (vI q), some (vR 102 p), some (vI f), some (vI k), some (vR 102 ((T 100 (T 102 p 0) 7) + k)), none, some (vI f)] (fun k v hk => ?_) rfl ?_
                      · match k, hk with
                        | 0, hk => exact hk
                        | 1, hk => exact hk
                        | 2, hk => exact hk
                        | 3, hk => exact hk
                        | 4, hk => exact hk
                        | 5, hk => exact hk
                        | 6, hk => cases hk
                        | 7, hk => exact hk
                        | k + 8, hk => cases hk
                      refine c_117 _ f T1 (Nat.le_refl _) ?_ ?_ ?_ ?_ ?_ ?_ ?_
                      · exact fr_t (fr_0 _ _) (fr_s hf_5 rfl)
                      · omega
                      · exact fun j a b d => li1 j a (by omega)
                      · refine ⟨?_, ?_⟩
                        · unfold rlH_; omega
                        · show T 102 (T 100 (T 102 p 0) 7 + k) 5 * 400 + (T 100 (T 102 p 0) 7 + k) < (T 102 p 5 * 400 + p); omega
                      · intro j a b; omega
                      · exact fun j _ _ => rfl
                      · intro j a b; omega
                    · replace hx84 := hx84.resolve_left (fun z => absurd (c87.symm.trans z.1) (by decide))
                      clear c87
                      refine hK 184 [some (vR 106 0), some (vI q), some (vR 102 p), some (vI f), some (vI k), some (vR 102 ((T 100 (T 102 p 0) 7) + k)), some (vI 0), none] [] T1 ?_
                      refine j_blx (F := fX6) tb_X6 (nn_ _) bk_X6_listAhead_f_184 bs_X6_listAhead_f_184 hz (fun K hK => ?_)
                      refine rg_i (by omega) ?_
                      refine hK 5 [some (vR 106 0), some (vI q), some (vR 102 p), some (vI f), some (vI (k + 1)), some (vR 102 ((T 100 (T 102 p 0) 7) + k)), some (vI 0), none] [] T1 ?_
                      refine j_drop [some (vR 106 0), some (vI q), some (vR 102 p), some (vI f), some (vI (k + 1)), none, none, none] (fun k v hk => ?_) rfl ?_
                      · match k, hk with
                        | 0, hk => exact hk
                        | 1, hk => exact hk
                        | 2, hk => exact hk
                        | 3, hk => exact hk
                        | 4, hk => exact hk
                        | 5, hk => cases hk
                        | 6, hk => cases hk
                        | 7, hk => cases hk
                        | k + 8, hk => cases hk
                      refine ih_5 _ ?_ f (k + 1) T1 (Nat.le_refl _) ?_ ?_ ?_ ?_
                      · have hm_5 := hm_5 (); omega
                      · exact fr_t (fr_0 _ _) (fr_s hf_5 rfl)
                      · omega
                      · exact li1
                      · exact lhd_n lh1 (fun z => by
                          have z1 := z.1
                          unfold rlH_ at z1
                          have z2 : T 102 (T 100 (T 102 p 0) 7 + k) 5 * 400 + (T 100 (T 102 p 0) 7 + k) < (T 102 p 5 * 400 + p) := z.2
                          omega)
              · refine hK 75 _ [vI 1] T1 ?_
                refine j_blx (F := fX6) tb_X6 (nn_ _) bk_X6_listAhead_f_75 bs_X6_listAhead_f_75 hz (fun K hK => ?_)
                refine And.intro (fun c88 => ?_) (fun c88 => ?_)
                · refine hK 184 [some (vR 106 0), some (vI q), some (vR 102 p), some (vI f), some (vI k), some (vR 102 ((T 100 (T 102 p 0) 7) + k)), some (vI 1), none] [] T1 ?_
                  refine j_blx (F := fX6) tb_X6 (nn_ _) bk_X6_listAhead_f_184 bs_X6_listAhead_f_184 hz (fun K hK => ?_)
                  refine rg_i (by omega) ?_
                  refine hK 5 [some (vR 106 0), some (vI q), some (vR 102 p), some (vI f), some (vI (k + 1)), some (vR 102 ((T 100 (T 102 p 0) 7) + k)), some (vI 1), none] [] T1 ?_
                  refine j_drop [some (vR 106 0), some (vI q), some (vR 102 p), some (vI f), some (vI (k + 1)), none, none, none] (fun k v hk => ?_) rfl ?_
                  · match k, hk with
                    | 0, hk => exact hk
                    | 1, hk => exact hk
                    | 2, hk => exact hk
                    | 3, hk => exact hk
                    | 4, hk => exact hk
                    | 5, hk => cases hk
                    | 6, hk => cases hk
                    | 7, hk => cases hk
                    | k + 8, hk => cases hk
                  refine ih_5 _ ?_ f (k + 1) T1 (Nat.le_refl _) ?_ ?_ ?_ ?_
                  · have hm_5 := hm_5 (); omega
                  · exact fr_t (fr_0 _ _) (fr_s hf_5 rfl)
                  · omega
                  · exact li1
                  · exact lhd_n lh1 (fun z => by
                      have z1 := z.1
                      unfold rlH_ at z1
                      have z2 : T 102 (T 100 (T 102 p 0) 7 + k) 5 * 400 + (T 100 (T 102 p 0) 7 + k) < (T 102 p 5 * 400 + p) := z.2
                      omega)
                · refine hK 84 [some (vR 106 0), some (vI q), some (vR 102 p), some (vI f), some (vI k), some (vR 102 ((T 100 (T 102 p 0) 7) + k)), some (vI 1), none] [vR 102 ((T 100 (T 102 p 0) 7) + k)] T1 ?_
                  refine j_callV (y := yX2_isDecided) (Yc := zX2_isDecided) (rest := []) [] (ct_X2_isDecided_e (T := T1)) cl_X6_195 (qd_c (by decide +kernel)) (nn_ _) rfl (rf_of rfl) (Nat.le_of_ble_eq_true rfl) (Nat.le_of_ble_eq_true rfl) (Nat.le_of_ble_eq_true rfl) rfl ?_
                  rintro _ _ ⟨rfl, x89, rfl, hx89⟩
                  have e90 : T1 102 ((T 100 (T 102 p 0) 7) + k) 6 = T 102 ((T 100 (T 102 p 0) 7) + k) 6 := hf_5 102 ((T 100 (T 102 p 0) 7) + k) 6 rfl
                  have e91 : T1 102 ((T 100 (T 102 p 0) 7) + k) 10 = T 102 ((T 100 (T 102 p 0) 7) + k) 10 := hf_5 102 ((T 100 (T 102 p 0) 7) + k) 10 rfl
                  have e92 : T1 103 ((T 100 (T 102 p 0) 7) + k) 3 = T 103 ((T 100 (T 102 p 0) 7) + k) 3 := hf_5 103 ((T 100 (T 102 p 0) 7) + k) 3 rfl
                  show J_ zX6_listAhead T (po_X6_listAhead_f T p q) 0 0 87 _ [vI x89] T1
                  refine j_blx (F := fX6) tb_X6 (nn_ _) bk_X6_listAhead_f_87 bs_X6_listAhead_f_87 hz (fun K hK => ?_)
                  refine And.intro (fun c93 => ?_) (fun c93 => ?_)
                  · replace hx89 := hx89.resolve_left (fun z => absurd (c93.symm.trans z.1) (by decide))
                    clear c93
                    refine hK 184 _ [] T1 ?_
                    refine j_blx (F := fX6) tb_X6 (nn_ _) bk_X6_listAhead_f_184 bs_X6_listAhead_f_184 hz (fun K hK => ?_)
                    refine rg_i (by omega) ?_
                    refine hK 5 [some (vR 106 0), some (vI q), some (vR 102 p), some (vI f), some (vI (k + 1)), some (vR 102 ((T 100 (T 102 p 0) 7) + k)), some (vI 1), none] [] T1 ?_
                    refine j_drop [some (vR 106 0), some (vI q), some (vR 102 p), some (vI f), some (vI (k + 1)), none, none, none] (fun k v hk => ?_) rfl ?_
                    · match k, hk with
                      | 0, hk => exact hk
                      | 1, hk => exact hk
                      | 2, hk => exact hk
                      | 3, hk => exact hk
                      | 4, hk => exact hk
                      | 5, hk => cases hk
                      | 6, hk => cases hk
                      | 7, hk => cases hk
                      | k + 8, hk => cases hk
                    refine ih_5 _ ?_ f (k + 1) T1 (Nat.le_refl _) ?_ ?_ ?_ ?_
                    · have hm_5 := hm_5 (); omega
                    · exact fr_t (fr_0 _ _) (fr_s hf_5 rfl)
                    · omega
                    · exact li1
                    · exact lhd_n lh1 (fun z => by
                        have z1 := z.1
                        unfold rlH_ at z1
                        have z2 : T 102 (T 100 (T 102 p 0) 7 + k) 5 * 400 + (T 100 (T 102 p 0) 7 + k) < (T 102 p 5 * 400 + p) := z.2
                        omega)
                  · replace hx89 := hx89.resolve_right (fun z => c93 z.1)
                    clear c93
                    intro b94 b94b
                    have e95 : T1 102 ((T 100 (T 102 p 0) 7) + k) 5 = T 102 ((T 100 (T 102 p 0) 7) + k) 5 := hf_5 102 ((T 100 (T 102 p 0) 7) + k) 5 rfl
                    rw [e95] at b94 b94b ⊢
                    refine hK 102 [some (vR 106 0), some (vI q), some (vR 102 p), some (vI f), some (vI k), some (vR 102 ((T 100 (T 102 p 0) 7) + k)), some (vI 1), none] [vI (T 102 ((T 100 (T 102 p 0) 7) + k) 5), vI q, vR 108 0, vR 102 ((T 100 (T 102 p 0) 7) + k)] T1 ?_
                    refine j_callV (y := yX8_clubOn) (Yc := zX8_clubOn) (rest := [vR 102 ((T 100 (T 102 p 0) 7) + k)]) [vI q, vI (T 102 ((T 100 (T 102 p 0) 7) + k) 5)] (ct_X8_clubOn_e (T := T1) (by omega) (by have y9 : T1 108 0 3 = T 108 0 3 := hf_5 108 0 3 rfl; omega) (spr_w hsp (fr_t (fr_0 _ _) (fr_s hf_5 rfl)))) cl_X6_165 (qd_c (by decide +kernel)) (nn_ _) rfl (rf_of rfl) (Nat.le_of_ble_eq_true rfl) (Nat.le_of_ble_eq_true rfl) (Nat.le_of_ble_eq_true rfl) rfl ?_
                    rintro _ _ ⟨rfl, x96, rfl, hx96⟩
                    rw [co_k (T := T) (fr_t (fr_0 _ _) (fr_s hf_5 rfl))] at hx96
                    show J_ zX6_listAhead T (po_X6_listAhead_f T p q) 0 0 105 _ [vI x96, vR 102 ((T 100 (T 102 p 0) 7) + k)] T1
                    refine j_callV (y := yX2_has) (Yc := zX2_has) (rest := []) [vI x96] (ct_X2_has_f (T := T1)) cl_X6_88 (qd_c (by decide +kernel)) (nn_ _) rfl (rf_of rfl) (Nat.le_of_ble_eq_true rfl) (Nat.le_of_ble_eq_true rfl) (Nat.le_of_ble_eq_true rfl) rfl ?_
                    rintro _ _ ⟨rfl, x97, rfl, hx97⟩
                    have e98 : T1 102 ((T 100 (T 102 p 0) 7) + k) 3 = T 102 ((T 100 (T 102 p 0) 7) + k) 3 := hf_5 102 ((T 100 (T 102 p 0) 7) + k) 3 rfl
                    have e99 : T1 102 ((T 100 (T 102 p 0) 7) + k) 4 = T 102 ((T 100 (T 102 p 0) 7) + k) 4 := hf_5 102 ((T 100 (T 102 p 0) 7) + k) 4 rfl
                    show J_ zX6_listAhead T (po_X6_listAhead_f T p q) 0 0 108 _ [vI x97] T1
                    refine j_blx (F := fX6) tb_X6 (nn_ _) bk_X6_listAhead_f_108 bs_X6_listAhead_f_108 hz (fun K hK => ?_)
                    refine And.intro (fun c100 => ?_) (fun c100 => ?_)
                    · replace hx97 := hx97.resolve_right (fun z => c100 z.1)
                      clear c100
                      refine hK 114 _ [] T1 ?_
                      refine j_blx (F := fX6) tb_X6 (nn_ _) bk_X6_listAhead_f_114 bs_X6_listAhead_f_114 hz (fun K hK => ?_)
                      refine hK 117 [some (vR 106 0), some (vI q), some (vR 102 p), some (vI f), some (vI k), some (vR 102 ((T 100 (T 102 p 0) 7) + k)), some (vI 1), some (vI f)] [] T1 ?_
                      refine j_drop [some (vR 106 0), some (vI q), some (vR 102 p), some (vI f), some (vI k), some (vR 102 ((T 100 (T 102 p 0) 7) + k)), none, some (vI f)] (fun k v hk => ?_) rfl ?_
                      · match k, hk with
                        | 0, hk => exact hk
                        | 1, hk => exact hk
                        | 2, hk => exact hk
                        | 3, hk => exact hk
                        | 4, hk => exact hk
                        | 5, hk => exact hk
                        | 6, hk => cases hk
                        | 7, hk => exact hk
                        | k + 8, hk => cases hk
                      refine c_117 _ f T1 (Nat.le_refl _) ?_ ?_ ?_ ?_ ?_ ?_ ?_
                      · exact fr_t (fr_0 _ _) (fr_s hf_5 rfl)
                      · omega
                      · exact fun j a b d => li1 j a (by omega)
                      · refine ⟨?_, ?_⟩
                        · unfold rlH_; omega
                        · show T 102 (T 100 (T 102 p 0) 7 + k) 5 * 400 + (T 100 (T 102 p 0) 7 + k) < (T 102 p 5 * 400 + p); omega
                      · intro j a b; omega
                      · exact fun j _ _ => rfl
                      · intro j a b; omega
                    · replace hx97 := hx97.resolve_left (fun z => absurd (c100.symm.trans z.1) (by decide))
                      clear c100
                      refine hK 184 [some (vR 106 0), some (vI q), some (vR 102 p), some (vI f), some (vI k), some (vR 102 ((T 100 (T 102 p 0) 7) + k)), some (vI 1), none] [] T1 ?_
                      refine j_blx (F := fX6) tb_X6 (nn_ _) bk_X6_listAhead_f_184 bs_X6_listAhead_f_184 hz (fun K hK => ?_)
                      refine rg_i (by omega) ?_
                      refine hK 5 [some (vR 106 0), some (vI q), some (vR 102 p), some (vI f), some (vI (k + 1)), some (vR 102 ((T 100 (T 102 p 0) 7) + k)), some (vI 1), none] [] T1 ?_
                      refine j_drop [some (vR 106 0), some (vI q), some (vR 102 p), some (vI f), some (vI (k + 1)), none, none, none] (fun k v hk => ?_) rfl ?_
                      · match k, hk with
                        | 0, hk => exact hk
                        | 1, hk => exact hk
                        | 2, hk => exact hk
                        | 3, hk => exact hk
                        | 4, hk => exact hk
                        | 5, hk => cases hk
                        | 6, hk => cases hk
                        | 7, hk => cases hk
                        | k + 8, hk => cases hk
                      refine ih_5 _ ?_ f (k + 1) T1 (Nat.le_refl _) ?_ ?_ ?_ ?_
                      · have hm_5 := hm_5 (); omega
                      · exact fr_t (fr_0 _ _) (fr_s hf_5 rfl)
                      · omega
                      · exact li1
                      · exact lhd_n lh1 (fun z => by
                          have z1 := z.1
                          unfold rlH_ at z1
                          have z2 : T 102 (T 100 (T 102 p 0) 7 + k) 5 * 400 + (T 100 (T 102 p 0) 7 + k) < (T 102 p 5 * 400 + p) := z.2
                          omega)
  refine j_blx (F := fX6) tb_X6 (nn_ _) bk_X6_listAhead_f_0 bs_X6_listAhead_f_0 hz (fun K hK => ?_)
  refine hK 5 [some (vR 106 0), some (vI q), some (vR 102 p), some (vI 0), some (vI 0), none, none, none] [] T ?_
  refine c_5 _ 0 0 T (Nat.le_refl _) ?_ ?_ ?_ ?_
  · exact fr_0 _ _
  · omega
  · intro j a b; omega
  · exact lhd_0
