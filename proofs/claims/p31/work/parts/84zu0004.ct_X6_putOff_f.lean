theorem bk_X6_goBehind_f_10 : ck_ fX6 (some .boolean) cX6_goBehind 10 [.iload 4, .iconst 999, .if_icmp .gt 52, .aload 0, .tableswitch 0 6 15 #[], .iload 4, .iaload, .ifCond .ne 46, .aload 0, .tableswitch 0 6 14 #[], .iload 3, .aload 1, .tableswitch 0 2 5 #[], .iastore, .aload 1, .iload 4, .tableswitch 1 2 5 #[], .iconst 1, .ireturn] 46 = true := qck_r (nn_ _) (by decide +kernel)
theorem bs_X6_goBehind_f_10 {P : Zt → Option Zv → Prop} (K : Int → Zl → List Zv → Zt → Prop) : sx_ K P [.iload 4, .iconst 999, .if_icmp .gt 52, .aload 0, .tableswitch 0 6 15 #[], .iload 4, .iaload, .ifCond .ne 46, .aload 0, .tableswitch 0 6 14 #[], .iload 3, .aload 1, .tableswitch 0 2 5 #[], .iastore, .aload 1, .iload 4, .tableswitch 1 2 5 #[], .iconst 1, .ireturn] 46 = x_iload 4 (x_iconst 999 (x_if_icmp .gt 52 K (x_aload 0 (x_g1 106 535 (x_iload 4 (x_iaload (x_ifCond .ne 46 K (x_aload 0 (x_g1 106 534 (x_iload 3 (x_aload 1 (x_g0 102 5 0 999 (x_iastore (x_aload 1 (x_iload 4 (x_p 102 5 0 999 (x_iconst 1 (x_ireturn P)))))))))))))))))) := ((xe_iload 4).trans (congrArg (x_iload 4) ((xe_iconst 999).trans (congrArg (x_iconst 999) ((xe_if_icmp .gt 52).trans (congrArg (x_if_icmp .gt 52 K) ((xe_aload 0).trans (congrArg (x_aload 0) ((xe_g1 (kk := 106) rfl tl_6_15).trans (congrArg (x_g1 106 535) ((xe_iload 4).trans (congrArg (x_iload 4) ((xe_iaload).trans (congrArg (x_iaload) ((xe_ifCond .ne 46).trans (congrArg (x_ifCond .ne 46 K) ((xe_aload 0).trans (congrArg (x_aload 0) ((xe_g1 (kk := 106) rfl tl_6_14).trans (congrArg (x_g1 106 534) ((xe_iload 3).trans (congrArg (x_iload 3) ((xe_aload 1).trans (congrArg (x_aload 1) ((xe_g0 (kk := 102) rfl tl_2_5).trans (congrArg (x_g0 102 5 0 999) ((xe_iastore).trans (congrArg (x_iastore) ((xe_aload 1).trans (congrArg (x_aload 1) ((xe_iload 4).trans (congrArg (x_iload 4) ((xe_p (kk := 102) rfl tl_2_5).trans (congrArg (x_p 102 5 0 999) ((xe_iconst 1).trans (congrArg (x_iconst 1) (xe_ireturn)))))))))))))))))))))))))))))))))))))
theorem bk_X6_goBehind_f_52 : ck_ fX6 (some .boolean) cX6_goBehind 52 [.iconst 0, .ireturn] 54 = true := qck_r (nn_ _) (by decide +kernel)
theorem bs_X6_goBehind_f_52 {P : Zt → Option Zv → Prop} (K : Int → Zl → List Zv → Zt → Prop) : sx_ K P [.iconst 0, .ireturn] 54 = x_iconst 0 (x_ireturn P) := ((xe_iconst 0).trans (congrArg (x_iconst 0) (xe_ireturn)))
theorem bk_X6_goBehind_f_46 : ck_ fX6 (some .boolean) cX6_goBehind 46 [.iinc 4 1, .goto 10] 52 = true := qck_r (nn_ _) (by decide +kernel)
theorem bs_X6_goBehind_f_46 {P : Zt → Option Zv → Prop} (K : Int → Zl → List Zv → Zt → Prop) : sx_ K P [.iinc 4 1, .goto 10] 52 = x_iinc 4 1 (x_goto 10 K) := ((xe_iinc 4 1).trans (congrArg (x_iinc 4 1) (xe_goto 10)))
theorem bk_X6_goBehind_f_0 : ck_ fX6 (some .boolean) cX6_goBehind 0 [.aload 0, .aload 1] 2 = true := qck_r (nn_ _) (by decide +kernel)
theorem bs_X6_goBehind_f_0 {P : Zt → Option Zv → Prop} (K : Int → Zl → List Zv → Zt → Prop) : sx_ K P [.aload 0, .aload 1] 2 = x_aload 0 (x_aload 1 (K 2)) := ((xe_aload 0).trans (congrArg (x_aload 0) ((xe_aload 1).trans (congrArg (x_aload 1) xe_nil))))
theorem bk_X6_goBehind_f_5 : ck_ fX6 (some .boolean) cX6_goBehind 5 [.iload 2, .iconst 1, .iadd, .istore 4] 10 = true := qck_r (nn_ _) (by decide +kernel)
theorem bs_X6_goBehind_f_5 {P : Zt → Option Zv → Prop} (K : Int → Zl → List Zv → Zt → Prop) : sx_ K P [.iload 2, .iconst 1, .iadd, .istore 4] 10 = x_iload 2 (x_iconst 1 (x_iadd (x_istore 4 (K 10)))) := ((xe_iload 2).trans (congrArg (x_iload 2) ((xe_iconst 1).trans (congrArg (x_iconst 1) ((xe_iadd).trans (congrArg (x_iadd) ((xe_istore 4).trans (congrArg (x_istore 4) xe_nil))))))))
abbrev po_X6_goBehind_f (T : Zt) (p : Int) (d k : Int) : Zt → Option Zv → Prop := fun T' r => ∃ x : Int, r = some (vI x) ∧ fr_ [(535, []), (534, []), (102, [5])] T T' ∧ (GOB_ T T' p d k x)
set_option maxHeartbeats 4000000 in
theorem ct_X6_goBehind_f {T : Zt} {p : Int} {d k : Int} (hka : KA_ T) (hkm : KM_ T) (hp : 0 ≤ p ∧ p < T 106 0 4) (hab : T 102 p 6 = -1) (hd : 0 ≤ d ∧ d ≤ 999) (hk : 0 ≤ k ∧ k < 400) : Ct_ yX6_goBehind zX6_goBehind T [vR 106 0, vR 102 p, vI d, vI k] (po_X6_goBehind_f T p d k) := by
  refine ct_of pn_6 rfl rfl (Nat.le_of_ble_eq_true rfl) (fun hT hav => ?_)
  have hr_d : -2147483648 ≤ d ∧ d ≤ 2147483647 := hav (vI d) (List.mem_cons_of_mem _ (List.mem_cons_of_mem _ List.mem_cons_self))
  have hr_k : -2147483648 ≤ k ∧ k ≤ 2147483647 := hav (vI k) (List.mem_cons_of_mem _ (List.mem_cons_of_mem _ (List.mem_cons_of_mem _ List.mem_cons_self)))
  have hz : zX6_goBehind.2.2.2.1 = some .boolean → ∀ (T' : Zt) (x : Int), po_X6_goBehind_f T p d k T' (some (vI x)) → 0 ≤ x ∧ x ≤ 1 := fun _ T' x h => by obtain ⟨y, e, -, hy⟩ := h; cases e; rcases hy with z | z <;> (have := z.1; omega)
  have hb_matchCount : 0 ≤ T 106 0 4 ∧ T 106 0 4 ≤ 400 := bd_f hT 106 4 tl_6_4 0
  show J_ zX6_goBehind T (po_X6_goBehind_f T p d k) 0 0 0 [some (vR 106 0), some (vR 102 p), some (vI d), some (vI k), none] [] T
  have c_10 : ∀ (nn : Nat) (i : Int) (T1 : Zt), ((1000 - i).toNat) ≤ nn → (fr_ [(535, [])] T T1) → (d + 1 ≤ i ∧ (i = d + 1 ∨ i ≤ 1000)) → (BR_ (fun e => T1 535 0 e) (BKH_ T (fun m => T 102 m 5) p)) → (ffd_ (BKH_ T (fun m => T 102 m 5) p) (999 - d).toNat (d + 1) = ffd_ (BKH_ T (fun m => T 102 m 5) p) (1000 - i).toNat i) → J_ zX6_goBehind T (po_X6_goBehind_f T p d k) 0 0 10 [some (vR 106 0), some (vR 102 p), some (vI d), some (vI k), some (vI i)] [] T1 := by
    intro nn
    induction nn using Nat.strongRecOn with
    | _ nn ih_10 =>
      intro i T1 hm_10 hf_10 i1 br1 ff1
      replace hm_10 := fun (_ : Unit) => hm_10
      refine j_blx (F := fX6) tb_X6 (nn_ _) bk_X6_goBehind_f_10 bs_X6_goBehind_f_10 hz (fun K hK => ?_)
      refine And.intro (fun c1 => ?_) (fun c1 => ?_)
      · refine hK 52 _ [] T1 ?_
        refine j_blx (F := fX6) tb_X6 (nn_ _) bk_X6_goBehind_f_52 bs_X6_goBehind_f_52 hz (fun K hK => ?_)
        refine (show po_X6_goBehind_f T p d k T1 (some (vI 0)) from ?_)
        have e9 : ffd_ (BKH_ T (fun m => T 102 m 5) p) (999 - d).toNat (d + 1) = -1 := by rw [ff1, show (1000 - i).toNat = 0 by omega]; rfl
        exact ⟨_, rfl, fr_t (fr_0 _ _) (fr_s hf_10 rfl), Or.inl ⟨rfl, e9, fun a b => hf_10 102 a b rfl, fun b => hf_10 534 0 b rfl⟩⟩
      · refine ix_i (by omega) ?_
        intro b2 b2b
        refine And.intro (fun c3 => ?_) (fun c3 => ?_)
        · refine hK 46 _ [] T1 ?_
          refine j_blx (F := fX6) tb_X6 (nn_ _) bk_X6_goBehind_f_46 bs_X6_goBehind_f_46 hz (fun K hK => ?_)
          refine rg_i (by omega) ?_
          refine hK 10 [some (vR 106 0), some (vR 102 p), some (vI d), some (vI k), some (vI (i + 1))] [] T1 ?_
          refine ih_10 _ ?_ (i + 1) T1 (Nat.le_refl _) ?_ ?_ ?_ ?_
          · have hm_10 := hm_10 (); omega
          · exact fr_t (fr_0 _ _) (fr_s hf_10 rfl)
          · omega
          · exact br1
          · rw [ff1, show (1000 - i).toNat = (1000 - (i + 1)).toNat + 1 by omega]
            exact ffd_t ((br1 i (by omega) (by omega)).elim (fun z => z.2) (fun z => absurd z.1 (by omega)))
        · intro b4 b4b
          have e5 : T1 102 p 5 = T 102 p 5 := hf_10 102 p 5 rfl
          rw [e5] at b4 b4b ⊢
          refine iy_i (by omega) (by omega) ?_
          refine x_nm (fun U6 hU6 => ?_)
          have e7 := up_f hU6
          refine bd_i (by omega) ?_
          refine x_nm (fun U8 hU8 => ?_)
          have e9 := up_f hU8
          refine (show po_X6_goBehind_f T p d k U8 (some (vI 1)) from ?_)
          have e9 : ffd_ (BKH_ T (fun m => T 102 m 5) p) (999 - d).toNat (d + 1) = i := by
            rw [ff1, show (1000 - i).toNat = (1000 - (i + 1)).toNat + 1 by omega]
            refine ffd_f ?_
            rcases br1 i (by omega) (by omega) with z | z
            · have z1 : T1 535 0 i = 1 := z.1
              exfalso; omega
            · exact z.2
          exact ⟨_, rfl, fr_u (fr_u (fr_t (fr_0 _ _) (fr_s hf_10 rfl)) hU6 rfl) hU8 rfl, Or.inr ⟨rfl, by omega, by rw [e9]; exact up_f hU8, (up_k hU8 (by exact Nat.ne_of_beq_eq_false rfl) _ _).trans (up_f hU6), fun a b hn => (up_g hU8 (fun z => hn z.2)).trans ((up_k hU6 (by exact Nat.ne_of_beq_eq_false rfl) _ _).trans (hf_10 102 a b rfl)), fun b hb => (up_k hU8 (by exact Nat.ne_of_beq_eq_false rfl) _ _).trans ((up_g hU6 (fun z => hb z.2.2)).trans (hf_10 534 0 b rfl))⟩⟩
  refine j_blx (F := fX6) tb_X6 (nn_ _) bk_X6_goBehind_f_0 bs_X6_goBehind_f_0 hz (fun K hK => ?_)
  refine hK 2 _ [vR 102 p, vR 106 0] T ?_
  refine j_callV (y := yX6_blockDays) (Yc := zX6_blockDays) (rest := []) [vR 102 p] (ct_X6_blockDays_f (T := T) (hka) (hkm) (by omega) (by omega)) cl_X6_146 (qd_c (by decide +kernel)) (nn_ _) rfl (rf_of rfl) (Nat.le_of_ble_eq_true rfl) (Nat.le_of_ble_eq_true rfl) (Nat.le_of_ble_eq_true rfl) rfl ?_
  rintro U10 _ ⟨rfl, fU10, brU10⟩
  show J_ zX6_goBehind T (po_X6_goBehind_f T p d k) 0 0 5 _ [] U10
  refine j_blx (F := fX6) tb_X6 (nn_ _) bk_X6_goBehind_f_5 bs_X6_goBehind_f_5 hz (fun K hK => ?_)
  refine rg_i (by omega) ?_
  refine hK 10 [some (vR 106 0), some (vR 102 p), some (vI d), some (vI k), some (vI (d + 1))] [] U10 ?_
  refine c_10 _ (d + 1) U10 (Nat.le_refl _) ?_ ?_ ?_ ?_
  · exact fr_t (fr_0 _ _) (fr_s fU10 rfl)
  · omega
  · exact brU10
  · rw [show (1000 - (d + 1)).toNat = (999 - d).toNat by omega]
theorem bk_X6_putOff_f_71 : ck_ fX6 (some .int) cX6_putOff 71 [.iload 6, .iload 5, .if_icmp .ge 106, .aload 0, .tableswitch 0 6 3 #[], .aload 0, .tableswitch 0 6 13 #[], .iload 6, .iaload, .aaload, .aload 0, .tableswitch 0 6 14 #[], .iload 6, .iaload, .tableswitch 1 2 5 #[], .iinc 6 1, .goto 71] 106 = true := qck_r (nn_ _) (by decide +kernel)
theorem bs_X6_putOff_f_71 {P : Zt → Option Zv → Prop} (K : Int → Zl → List Zv → Zt → Prop) : sx_ K P [.iload 6, .iload 5, .if_icmp .ge 106, .aload 0, .tableswitch 0 6 3 #[], .aload 0, .tableswitch 0 6 13 #[], .iload 6, .iaload, .aaload, .aload 0, .tableswitch 0 6 14 #[], .iload 6, .iaload, .tableswitch 1 2 5 #[], .iinc 6 1, .goto 71] 106 = x_iload 6 (x_iload 5 (x_if_icmp .ge 106 K (x_aload 0 (x_g1 106 523 (x_aload 0 (x_g1 106 533 (x_iload 6 (x_iaload (x_aaload (x_aload 0 (x_g1 106 534 (x_iload 6 (x_iaload (x_p 102 5 0 999 (x_iinc 6 1 (x_goto 71 K)))))))))))))))) := ((xe_iload 6).trans (congrArg (x_iload 6) ((xe_iload 5).trans (congrArg (x_iload 5) ((xe_if_icmp .ge 106).trans (congrArg (x_if_icmp .ge 106 K) ((xe_aload 0).trans (congrArg (x_aload 0) ((xe_g1 (kk := 106) rfl tl_6_3).trans (congrArg (x_g1 106 523) ((xe_aload 0).trans (congrArg (x_aload 0) ((xe_g1 (kk := 106) rfl tl_6_13).trans (congrArg (x_g1 106 533) ((xe_iload 6).trans (congrArg (x_iload 6) ((xe_iaload).trans (congrArg (x_iaload) ((xe_aaload).trans (congrArg (x_aaload) ((xe_aload 0).trans (congrArg (x_aload 0) ((xe_g1 (kk := 106) rfl tl_6_14).trans (congrArg (x_g1 106 534) ((xe_iload 6).trans (congrArg (x_iload 6) ((xe_iaload).trans (congrArg (x_iaload) ((xe_p (kk := 102) rfl tl_2_5).trans (congrArg (x_p 102 5 0 999) ((xe_iinc 6 1).trans (congrArg (x_iinc 6 1) (xe_goto 71)))))))))))))))))))))))))))))))))
theorem bk_X6_putOff_f_106 : ck_ fX6 (some .int) cX6_putOff 106 [.aload 1, .iload 3, .tableswitch 1 2 5 #[], .iconst (-4), .ireturn] 114 = true := qck_r (nn_ _) (by decide +kernel)
theorem bs_X6_putOff_f_106 {P : Zt → Option Zv → Prop} (K : Int → Zl → List Zv → Zt → Prop) : sx_ K P [.aload 1, .iload 3, .tableswitch 1 2 5 #[], .iconst (-4), .ireturn] 114 = x_aload 1 (x_iload 3 (x_p 102 5 0 999 (x_iconst (-4) (x_ireturn P)))) := ((xe_aload 1).trans (congrArg (x_aload 1) ((xe_iload 3).trans (congrArg (x_iload 3) ((xe_p (kk := 102) rfl tl_2_5).trans (congrArg (x_p 102 5 0 999) ((xe_iconst (-4)).trans (congrArg (x_iconst (-4)) (xe_ireturn)))))))))
theorem bk_X6_putOff_f_117 : ck_ fX6 (some .int) cX6_putOff 117 [.iload 6, .iload 4, .if_icmp .ge 144, .aload 0, .tableswitch 0 6 11 #[], .iload 6, .aload 0, .tableswitch 0 6 13 #[], .iload 6, .iaload, .iastore, .iinc 6 1, .goto 117] 144 = true := qck_r (nn_ _) (by decide +kernel)
theorem bs_X6_putOff_f_117 {P : Zt → Option Zv → Prop} (K : Int → Zl → List Zv → Zt → Prop) : sx_ K P [.iload 6, .iload 4, .if_icmp .ge 144, .aload 0, .tableswitch 0 6 11 #[], .iload 6, .aload 0, .tableswitch 0 6 13 #[], .iload 6, .iaload, .iastore, .iinc 6 1, .goto 117] 144 = x_iload 6 (x_iload 4 (x_if_icmp .ge 144 K (x_aload 0 (x_g1 106 531 (x_iload 6 (x_aload 0 (x_g1 106 533 (x_iload 6 (x_iaload (x_iastore (x_iinc 6 1 (x_goto 117 K)))))))))))) := ((xe_iload 6).trans (congrArg (x_iload 6) ((xe_iload 4).trans (congrArg (x_iload 4) ((xe_if_icmp .ge 144).trans (congrArg (x_if_icmp .ge 144 K) ((xe_aload 0).trans (congrArg (x_aload 0) ((xe_g1 (kk := 106) rfl tl_6_11).trans (congrArg (x_g1 106 531) ((xe_iload 6).trans (congrArg (x_iload 6) ((xe_aload 0).trans (congrArg (x_aload 0) ((xe_g1 (kk := 106) rfl tl_6_13).trans (congrArg (x_g1 106 533) ((xe_iload 6).trans (congrArg (x_iload 6) ((xe_iaload).trans (congrArg (x_iaload) ((xe_iastore).trans (congrArg (x_iastore) ((xe_iinc 6 1).trans (congrArg (x_iinc 6 1) (xe_goto 117)))))))))))))))))))))))))
theorem bk_X6_putOff_f_144 : ck_ fX6 (some .int) cX6_putOff 144 [.aload 0, .iload 4, .tableswitch 1 6 12 #[], .iload 4, .ireturn] 153 = true := qck_r (nn_ _) (by decide +kernel)
theorem bs_X6_putOff_f_144 {P : Zt → Option Zv → Prop} (K : Int → Zl → List Zv → Zt → Prop) : sx_ K P [.aload 0, .iload 4, .tableswitch 1 6 12 #[], .iload 4, .ireturn] 153 = x_aload 0 (x_iload 4 (x_p 106 12 0 400 (x_iload 4 (x_ireturn P)))) := ((xe_aload 0).trans (congrArg (x_aload 0) ((xe_iload 4).trans (congrArg (x_iload 4) ((xe_p (kk := 106) rfl tl_6_12).trans (congrArg (x_p 106 12 0 400) ((xe_iload 4).trans (congrArg (x_iload 4) (xe_ireturn)))))))))
theorem bk_X6_putOff_f_20 : ck_ fX6 (some .int) cX6_putOff 20 [.iload 5, .iload 4, .if_icmp .ge 55, .aload 0, .aload 0, .tableswitch 0 6 3 #[], .aload 0, .tableswitch 0 6 13 #[], .iload 5, .iaload, .aaload, .iload 2, .iload 5] 43 = true := qck_r (nn_ _) (by decide +kernel)
theorem bs_X6_putOff_f_20 {P : Zt → Option Zv → Prop} (K : Int → Zl → List Zv → Zt → Prop) : sx_ K P [.iload 5, .iload 4, .if_icmp .ge 55, .aload 0, .aload 0, .tableswitch 0 6 3 #[], .aload 0, .tableswitch 0 6 13 #[], .iload 5, .iaload, .aaload, .iload 2, .iload 5] 43 = x_iload 5 (x_iload 4 (x_if_icmp .ge 55 K (x_aload 0 (x_aload 0 (x_g1 106 523 (x_aload 0 (x_g1 106 533 (x_iload 5 (x_iaload (x_aaload (x_iload 2 (x_iload 5 (K 43))))))))))))) := ((xe_iload 5).trans (congrArg (x_iload 5) ((xe_iload 4).trans (congrArg (x_iload 4) ((xe_if_icmp .ge 55).trans (congrArg (x_if_icmp .ge 55 K) ((xe_aload 0).trans (congrArg (x_aload 0) ((xe_aload 0).trans (congrArg (x_aload 0) ((xe_g1 (kk := 106) rfl tl_6_3).trans (congrArg (x_g1 106 523) ((xe_aload 0).trans (congrArg (x_aload 0) ((xe_g1 (kk := 106) rfl tl_6_13).trans (congrArg (x_g1 106 533) ((xe_iload 5).trans (congrArg (x_iload 5) ((xe_iaload).trans (congrArg (x_iaload) ((xe_aaload).trans (congrArg (x_aaload) ((xe_iload 2).trans (congrArg (x_iload 2) ((xe_iload 5).trans (congrArg (x_iload 5) xe_nil))))))))))))))))))))))))))
theorem bk_X6_putOff_f_55 : ck_ fX6 (some .int) cX6_putOff 55 [.iload 4, .iconst (-1), .if_icmp .eq 68, .iload 5, .iload 4, .if_icmp .ge 114, .iconst 0, .istore 6] 71 = true := qck_r (nn_ _) (by decide +kernel)
theorem bs_X6_putOff_f_55 {P : Zt → Option Zv → Prop} (K : Int → Zl → List Zv → Zt → Prop) : sx_ K P [.iload 4, .iconst (-1), .if_icmp .eq 68, .iload 5, .iload 4, .if_icmp .ge 114, .iconst 0, .istore 6] 71 = x_iload 4 (x_iconst (-1) (x_if_icmp .eq 68 K (x_iload 5 (x_iload 4 (x_if_icmp .ge 114 K (x_iconst 0 (x_istore 6 (K 71)))))))) := ((xe_iload 4).trans (congrArg (x_iload 4) ((xe_iconst (-1)).trans (congrArg (x_iconst (-1)) ((xe_if_icmp .eq 68).trans (congrArg (x_if_icmp .eq 68 K) ((xe_iload 5).trans (congrArg (x_iload 5) ((xe_iload 4).trans (congrArg (x_iload 4) ((xe_if_icmp .ge 114).trans (congrArg (x_if_icmp .ge 114 K) ((xe_iconst 0).trans (congrArg (x_iconst 0) ((xe_istore 6).trans (congrArg (x_istore 6) xe_nil))))))))))))))))
theorem bk_X6_putOff_f_68 : ck_ fX6 (some .int) cX6_putOff 68 [.iconst 0, .istore 6] 71 = true := qck_r (nn_ _) (by decide +kernel)
theorem bs_X6_putOff_f_68 {P : Zt → Option Zv → Prop} (K : Int → Zl → List Zv → Zt → Prop) : sx_ K P [.iconst 0, .istore 6] 71 = x_iconst 0 (x_istore 6 (K 71)) := ((xe_iconst 0).trans (congrArg (x_iconst 0) ((xe_istore 6).trans (congrArg (x_istore 6) xe_nil))))
theorem bk_X6_putOff_f_114 : ck_ fX6 (some .int) cX6_putOff 114 [.iconst 0, .istore 6] 117 = true := qck_r (nn_ _) (by decide +kernel)
theorem bs_X6_putOff_f_114 {P : Zt → Option Zv → Prop} (K : Int → Zl → List Zv → Zt → Prop) : sx_ K P [.iconst 0, .istore 6] 117 = x_iconst 0 (x_istore 6 (K 117)) := ((xe_iconst 0).trans (congrArg (x_iconst 0) ((xe_istore 6).trans (congrArg (x_istore 6) xe_nil))))
theorem bk_X6_putOff_f_46 : ck_ fX6 (some .int) cX6_putOff 46 [.ifCond .eq 55, .iinc 5 1, .goto 20] 55 = true := qck_r (nn_ _) (by decide +kernel)
theorem bs_X6_putOff_f_46 {P : Zt → Option Zv → Prop} (K : Int → Zl → List Zv → Zt → Prop) : sx_ K P [.ifCond .eq 55, .iinc 5 1, .goto 20] 55 = x_ifCond .eq 55 K (x_iinc 5 1 (x_goto 20 K)) := ((xe_ifCond .eq 55).trans (congrArg (x_ifCond .eq 55 K) ((xe_iinc 5 1).trans (congrArg (x_iinc 5 1) (xe_goto 20)))))
theorem bk_X6_putOff_f_0 : ck_ fX6 (some .int) cX6_putOff 0 [.aload 1, .tableswitch 0 2 5 #[], .istore 3, .aload 1, .iload 2, .tableswitch 1 2 5 #[], .aload 0, .aload 1] 12 = true := qck_r (nn_ _) (by decide +kernel)
theorem bs_X6_putOff_f_0 {P : Zt → Option Zv → Prop} (K : Int → Zl → List Zv → Zt → Prop) : sx_ K P [.aload 1, .tableswitch 0 2 5 #[], .istore 3, .aload 1, .iload 2, .tableswitch 1 2 5 #[], .aload 0, .aload 1] 12 = x_aload 1 (x_g0 102 5 0 999 (x_istore 3 (x_aload 1 (x_iload 2 (x_p 102 5 0 999 (x_aload 0 (x_aload 1 (K 12)))))))) := ((xe_aload 1).trans (congrArg (x_aload 1) ((xe_g0 (kk := 102) rfl tl_2_5).trans (congrArg (x_g0 102 5 0 999) ((xe_istore 3).trans (congrArg (x_istore 3) ((xe_aload 1).trans (congrArg (x_aload 1) ((xe_iload 2).trans (congrArg (x_iload 2) ((xe_p (kk := 102) rfl tl_2_5).trans (congrArg (x_p 102 5 0 999) ((xe_aload 0).trans (congrArg (x_aload 0) ((xe_aload 1).trans (congrArg (x_aload 1) xe_nil))))))))))))))))
theorem bk_X6_putOff_f_15 : ck_ fX6 (some .int) cX6_putOff 15 [.istore 4, .iconst 0, .istore 5] 20 = true := qck_r (nn_ _) (by decide +kernel)
theorem bs_X6_putOff_f_15 {P : Zt → Option Zv → Prop} (K : Int → Zl → List Zv → Zt → Prop) : sx_ K P [.istore 4, .iconst 0, .istore 5] 20 = x_istore 4 (x_iconst 0 (x_istore 5 (K 20))) := ((xe_istore 4).trans (congrArg (x_istore 4) ((xe_iconst 0).trans (congrArg (x_iconst 0) ((xe_istore 5).trans (congrArg (x_istore 5) xe_nil))))))
abbrev po_X6_putOff_f (T : Zt) (p : Int) (d : Int) : Zt → Option Zv → Prop := fun T' r => ∃ x : Int, r = some (vI x) ∧ fr_ [(535, []), (534, []), (102, [5]), (533, []), (531, []), (106, [12])] T T' ∧ (PTO_ T T' p d x)
set_option maxHeartbeats 4000000 in
theorem ct_X6_putOff_f {T : Zt} {p : Int} {d : Int} (hka : KA_ T) (hkm : KM_ T) (hp : 0 ≤ p ∧ p < T 106 0 4) (hab : T 102 p 6 = -1) (hd : 0 ≤ d ∧ d ≤ 999) : Ct_ yX6_putOff zX6_putOff T [vR 106 0, vR 102 p, vI d] (po_X6_putOff_f T p d) := by
  refine ct_of pn_6 rfl rfl (Nat.le_of_ble_eq_true rfl) (fun hT hav => ?_)
  have hr_d : -2147483648 ≤ d ∧ d ≤ 2147483647 := hav (vI d) (List.mem_cons_of_mem _ (List.mem_cons_of_mem _ List.mem_cons_self))
  have hz : zX6_putOff.2.2.2.1 = some .boolean → ∀ (T' : Zt) (x : Int), po_X6_putOff_f T p d T' (some (vI x)) → 0 ≤ x ∧ x ≤ 1 := fun h => by cases h
  have hb_matchCount : 0 ≤ T 106 0 4 ∧ T 106 0 4 ≤ 400 := bd_f hT 106 4 tl_6_4 0
  have hdt : 0 ≤ T 102 p 5 ∧ T 102 p 5 ≤ 999 := bd_f hT 102 5 tl_2_5 p
  show J_ zX6_putOff T (po_X6_putOff_f T p d) 0 0 0 [some (vR 106 0), some (vR 102 p), some (vI d), none, none, none, none] [] T
  have c_20 : ∀ (nn : Nat) (n : Int) (g : Int) (T1 : Zt), ((400 - g).toNat) ≤ nn → (fr_ [(535, []), (534, []), (102, [5]), (533, []), (531, []), (106, [12])] T T1) → (0 ≤ g ∧ -1 ≤ n ∧ n ≤ 400 ∧ (g ≤ n ∨ g = 0)) → (kpo_ T T1) → (∀ j : Int, 0 ≤ j → j < n → 0 ≤ T1 533 0 j ∧ T1 533 0 j < T 106 0 4) → ((n = -1 ∧ NTL_ T p d) ∨ (0 ≤ n ∧ (∀ k, 0 ≤ k → k < T 106 0 4 → AGH_ T p d k → TLD_ T k) ∧ LHD_ (fun _ => 0) (AGH_ T p d) (fun j => T1 533 0 j) 0 (T 106 0 4) 400 n)) → (∀ j, 0 ≤ j → j < n → T 102 (T1 533 0 j) 6 = -1) → (0 ≤ n → ∀ K, KKG_ (fun j => T1 533 0 j) g n (T 106 0 4) K → (mvH_ T p d K).2 = 1 ∧ ∀ i, T1 102 i 5 = (mvH_ T p d K).1 i) → (∀ j, 0 ≤ j → j < g → T1 534 0 j = T 102 (T1 533 0 j) 5) → (RVF_ T T1 (fun j => T1 533 0 j) p g 0) → ((∀ j, T1 531 0 j = T 531 0 j) ∧ T1 106 0 12 = T 106 0 12) → J_ zX6_putOff T (po_X6_putOff_f T p d) 0 0 20 [some (vR 106 0), some (vR 102 p), some (vI d), some (vI (T 102 p 5)), some (vI n), some (vI g), none] [] T1 := by
    intro nn
    induction nn using Nat.strongRecOn with
    | _ nn ih_20 =>
      intro n g T1 hm_20 hf_20 i1 kp1 li1 la1 al1 mv1 db1 rv1 mk1
      replace hm_20 := fun (_ : Unit) => hm_20
      have c_71 : ∀ (nn : Nat) (i : Int) (T2 : Zt), ((400 - i).toNat) ≤ nn → (fr_ [(535, []), (534, []), (102, [5]), (533, []), (531, []), (106, [12])] T T2) → (0 ≤ i ∧ (i = 0 ∨ i ≤ g) ∧ g ≤ n + 1 ∧ n ≤ 400 ∧ (g ≤ n ∨ g ≤ 0)) → (kpo_ T T2) → (∀ j : Int, 0 ≤ j → j < n → 0 ≤ T2 533 0 j ∧ T2 533 0 j < T 106 0 4) → (∀ j, 0 ≤ j → j < g → T2 534 0 j = T 102 (T2 533 0 j) 5) → (RVF_ T T2 (fun j => T2 533 0 j) p g i) → (¬ ((∀ k, 0 ≤ k → k < T 106 0 4 → AGH_ T p d k → TLD_ T k) ∧ (mvH_ T p d (T 106 0 4)).2 = 1)) → ((∀ j, T2 531 0 j = T 531 0 j) ∧ T2 106 0 12 = T 106 0 12) → J_ zX6_putOff T (po_X6_putOff_f T p d) 0 0 71 [some (vR 106 0), some (vR 102 p), some (vI d), some (vI (T 102 p 5)), some (vI n), some (vI g), some (vI i)] [] T2 := by
        intro nn
        induction nn using Nat.strongRecOn with
        | _ nn ih_71 =>
          intro i T2 hm_71 hf_71 i2 kp2 li2 db2 rv2 bad2 mk2
          replace hm_71 := fun (_ : Unit) => hm_71
          refine j_blx (F := fX6) tb_X6 (nn_ _) bk_X6_putOff_f_71 bs_X6_putOff_f_71 hz (fun K hK => ?_)
          refine And.intro (fun c1 => ?_) (fun c1 => ?_)
          · refine hK 106 _ [] T2 ?_
            refine j_blx (F := fX6) tb_X6 (nn_ _) bk_X6_putOff_f_106 bs_X6_putOff_f_106 hz (fun K hK => ?_)
            refine bd_i (by omega) ?_
            refine x_nm (fun U2 hU2 => ?_)
            have e3 := up_f hU2
            refine (show po_X6_putOff_f T p d U2 (some (vI (-4))) from ?_)
            have dz : ∀ a j, U2 102 a j = T 102 a j := fun a j => by
              by_cases z : a = p ∧ j = 5
              · rw [z.1, z.2]; exact up_f hU2
              · rw [up_g hU2 (fun q => z q.2)]
                by_cases y : j = 5
                · rw [y]; exact rv2 a (fun w => z ⟨w, y⟩) (fun t t1 t2 => by omega)
                · exact kp2.1 a j y
            exact ⟨_, rfl, fr_u (fr_t (fr_0 _ _) (fr_s hf_71 rfl)) hU2 rfl, Or.inl ⟨rfl, bad2, dz, fun j => (up_k hU2 (by exact Nat.ne_of_beq_eq_false rfl) 0 j).trans (mk2.1 j), (up_k hU2 (by exact Nat.ne_of_beq_eq_false rfl) 0 12).trans mk2.2⟩⟩
          · refine ix_i (by omega) ?_
            intro b4 b4b
            refine ix_i (by omega) ?_
            have e6 : T2 523 0 (T2 533 0 i) = T 523 0 (T2 533 0 i) := hf_71 523 0 (T2 533 0 i) rfl
            refine And.intro (fun c5 => ?_) (fun c5 => ?_)
            · have y9 := li2 i (by omega) (by omega)
              exact absurd (show T 523 0 (T2 533 0 i) = 0 from Int.le_antisymm (by omega) (by omega)) (hka.2 _ (by omega) (by omega))
            · refine ix_i (by omega) ?_
              intro b7 b7b
              refine bd_i (by omega) ?_
              refine x_nm (fun U8 hU8 => ?_)
              have e9 := up_f hU8
              refine rg_i (by omega) ?_
              refine hK 71 [some (vR 106 0), some (vR 102 p), some (vI d), some (vI (T 102 p 5)), some (vI n), some (vI g), some (vI (i + 1))] [] U8 ?_
              have e10 : U8 106 0 12 = T2 106 0 12 := up_k hU8 (by exact Nat.ne_of_beq_eq_false rfl) 0 12
              refine ih_71 _ ?_ (i + 1) U8 (Nat.le_refl _) ?_ ?_ ?_ ?_ ?_ ?_ ?_ ?_
              · have hm_71 := hm_71 (); omega
              · exact fr_u (fr_t (fr_0 _ _) (fr_s hf_71 rfl)) hU8 rfl
              · omega
              · exact kpo_t kp2 ⟨fun a j hj => up_g hU8 (fun z => hj z.2.2), fun c => up_k hU8 (by exact Nat.ne_of_beq_eq_false rfl) _ _, fun j => up_k hU8 (by exact Nat.ne_of_beq_eq_false rfl) _ _, up_k hU8 (by exact Nat.ne_of_beq_eq_false rfl) _ _⟩
              · intro j a b
                rw [up_k hU8 (by exact Nat.ne_of_beq_eq_false rfl)]
                exact li2 j a b
              · intro j a b
                rw [up_k hU8 (by exact Nat.ne_of_beq_eq_false rfl), up_k hU8 (by exact Nat.ne_of_beq_eq_false rfl)]
                exact db2 j a b
              · have e9 := rvf_s (L := fun j => T2 533 0 j) rv2 (db2 i (by omega) (by omega)) hU8
                exact fun x a b => e9 x a (fun j c e => by show T2 533 0 j ≠ x; rw [← up_k hU8 (by exact Nat.ne_of_beq_eq_false rfl) 0 j]; exact b j c e)
              · exact bad2
              · exact ⟨fun j => (up_k hU8 (by exact Nat.ne_of_beq_eq_false rfl) 0 j).trans (mk2.1 j), (up_k hU8 (by exact Nat.ne_of_beq_eq_false rfl) 0 12).trans mk2.2⟩
      have c_117 : ∀ (nn : Nat) (i : Int) (T3 : Zt), ((400 - i).toNat) ≤ nn → (fr_ [(535, []), (534, []), (102, [5]), (533, []), (531, []), (106, [12])] T T3) → (0 ≤ i ∧ 0 ≤ n ∧ n ≤ 400 ∧ (i = 0 ∨ i ≤ n) ∧ n ≤ g) → (∀ i j, T3 102 i j = T1 102 i j) → (∀ j, T3 533 0 j = T1 533 0 j) → (∀ j, 0 ≤ j → j < i → T3 531 0 j = T1 533 0 j) → J_ zX6_putOff T (po_X6_putOff_f T p d) 0 0 117 [some (vR 106 0), some (vR 102 p), some (vI d), some (vI (T 102 p 5)), some (vI n), some (vI g), some (vI i)] [] T3 := by
        intro nn
        induction nn using Nat.strongRecOn with
        | _ nn ih_117 =>
          intro i T3 hm_117 hf_117 i3 dy3 ls3 mm3
          replace hm_117 := fun (_ : Unit) => hm_117
          refine j_blx (F := fX6) tb_X6 (nn_ _) bk_X6_putOff_f_117 bs_X6_putOff_f_117 hz (fun K hK => ?_)
          refine And.intro (fun c11 => ?_) (fun c11 => ?_)
          · refine hK 144 _ [] T3 ?_
            refine j_blx (F := fX6) tb_X6 (nn_ _) bk_X6_putOff_f_144 bs_X6_putOff_f_144 hz (fun K hK => ?_)
            refine bd_i (by omega) ?_
            refine x_nm (fun U12 hU12 => ?_)
            have e13 := up_f hU12
            refine (show po_X6_putOff_f T p d U12 (some (vI n)) from ?_)
            have z := (la1.resolve_left (fun y => by omega))
            have w := mv1 (by omega) (T 106 0 4) (Or.inr ⟨by omega, rfl⟩)
            have lm : LHD_ (fun _ => 0) (AGH_ T p d) (fun j => U12 531 0 j) 0 (T 106 0 4) 400 n := lhd_e z.2.2 (fun j a b => (up_k hU12 (by exact Nat.ne_of_beq_eq_false rfl) 0 j).trans (mm3 j a (by omega)))
            exact ⟨_, rfl, fr_u (fr_t (fr_0 _ _) (fr_s hf_117 rfl)) hU12 rfl, Or.inr ⟨by omega, z.2.1, w.1, fun i => ((up_k hU12 (by exact Nat.ne_of_beq_eq_false rfl) i 5).trans (dy3 i 5)).trans (w.2 i), fun i j hj => ((up_k hU12 (by exact Nat.ne_of_beq_eq_false rfl) i j).trans (dy3 i j)).trans (kp1.1 i j hj), lm, up_f hU12⟩⟩
          · refine ix_i (by omega) ?_
            intro b14 b14b
            refine iy_i (by omega) (by omega) ?_
            refine x_nm (fun U15 hU15 => ?_)
            have e16 := up_f hU15
            refine rg_i (by omega) ?_
            refine hK 117 [some (vR 106 0), some (vR 102 p), some (vI d), some (vI (T 102 p 5)), some (vI n), some (vI g), some (vI (i + 1))] [] U15 ?_
            refine ih_117 _ ?_ (i + 1) U15 (Nat.le_refl _) ?_ ?_ ?_ ?_ ?_
            · have hm_117 := hm_117 (); omega
            · exact fr_u (fr_t (fr_0 _ _) (fr_s hf_117 rfl)) hU15 rfl
            · omega
            · exact fun i j => (up_k hU15 (by exact Nat.ne_of_beq_eq_false rfl) i j).trans (dy3 i j)
            · exact fun j => (up_k hU15 (by exact Nat.ne_of_beq_eq_false rfl) 0 j).trans (ls3 j)
            · intro j a b
              by_cases z : j = i
              · rw [z, up_f hU15]; exact ls3 i
              · rw [up_g hU15 (fun q => z q.2.2)]; exact mm3 j a (by omega)
      refine j_blx (F := fX6) tb_X6 (nn_ _) bk_X6_putOff_f_20 bs_X6_putOff_f_20 hz (fun K hK => ?_)
      refine And.intro (fun c17 => ?_) (fun c17 => ?_)
      · refine hK 55 _ [] T1 ?_
        refine j_blx (F := fX6) tb_X6 (nn_ _) bk_X6_putOff_f_55 bs_X6_putOff_f_55 hz (fun K hK => ?_)
        refine And.intro (fun c18 => ?_) (fun c18 => ?_)
        · refine hK 68 _ [] T1 ?_
          refine j_blx (F := fX6) tb_X6 (nn_ _) bk_X6_putOff_f_68 bs_X6_putOff_f_68 hz (fun K hK => ?_)
          refine hK 71 [some (vR 106 0), some (vR 102 p), some (vI d), some (vI (T 102 p 5)), some (vI n), some (vI g), some (vI 0)] [] T1 ?_
          refine c_71 _ 0 T1 (Nat.le_refl _) ?_ ?_ ?_ ?_ ?_ ?_ ?_ ?_
          · exact fr_t (fr_0 _ _) (fr_s hf_20 rfl)
          · omega
          · exact kp1
          · exact li1
          · exact db1
          · exact rv1
          · rcases la1 with z | z
            · obtain ⟨z1, k, k0, k1, k2, k3⟩ := z
              exact fun c => k3 (c.1 k k0 k1 k2)
            · omega
          · exact mk1
        · refine And.intro (fun c19 => ?_) (fun c19 => ?_)
          · refine hK 114 [some (vR 106 0), some (vR 102 p), some (vI d), some (vI (T 102 p 5)), some (vI n), some (vI g), none] [] T1 ?_
            refine j_blx (F := fX6) tb_X6 (nn_ _) bk_X6_putOff_f_114 bs_X6_putOff_f_114 hz (fun K hK => ?_)
            refine hK 117 [some (vR 106 0), some (vR 102 p), some (vI d), some (vI (T 102 p 5)), some (vI n), some (vI g), some (vI 0)] [] T1 ?_
            refine c_117 _ 0 T1 (Nat.le_refl _) ?_ ?_ ?_ ?_ ?_
            · exact fr_t (fr_0 _ _) (fr_s hf_20 rfl)
            · omega
            · exact fun i j => rfl
            · exact fun j => rfl
            · intro j a b; omega
          · refine hK 71 _ [] T1 ?_
            refine c_71 _ 0 T1 (Nat.le_refl _) ?_ ?_ ?_ ?_ ?_ ?_ ?_ ?_
            · exact fr_t (fr_0 _ _) (fr_s hf_20 rfl)
            · omega
            · exact kp1
            · exact li1
            · exact db1
            · exact rv1
            · rcases la1 with z | z
              · obtain ⟨z1, k, k0, k1, k2, k3⟩ := z
                exact fun c => k3 (c.1 k k0 k1 k2)
              · omega
            · exact mk1
      · refine ix_i (by omega) ?_
        intro b20 b20b
        refine ix_i (by omega) ?_
        have e22 : T1 523 0 (T1 533 0 g) = T 523 0 (T1 533 0 g) := hf_20 523 0 (T1 533 0 g) rfl
        refine And.intro (fun c21 => ?_) (fun c21 => ?_)
        · have y9 := li1 g (by omega) (by omega)
          exact absurd (show T 523 0 (T1 533 0 g) = 0 from Int.le_antisymm (by omega) (by omega)) (hka.2 _ (by omega) (by omega))
        · refine hK 43 _ [vI g, vI d, vR 102 (T1 533 0 g), vR 106 0] T1 ?_
          refine j_callV (y := yX6_goBehind) (Yc := zX6_goBehind) (rest := []) [vR 102 (T1 533 0 g), vI d, vI g] (ct_X6_goBehind_f (T := T1) (KA__f (ws := [(535, []), (534, []), (102, [5]), (533, []), (531, []), (106, [12])]) hka (fr_t (fr_0 _ _) (fr_s hf_20 rfl)) ⟨fun _ => rfl, fun _ => rfl, rfl, rfl, trivial⟩) (KM__f (ws := [(535, []), (534, []), (102, [5]), (533, []), (531, []), (106, [12])]) hkm (fr_t (fr_0 _ _) (fr_s hf_20 rfl)) ⟨rfl, rfl, rfl, rfl, trivial⟩) (by have y9 := li1 g (by omega) (by omega); have y8 : T1 106 0 4 = T 106 0 4 := hf_20 106 0 4 rfl; omega) (by have y9 := al1 g (by omega) (by omega); have y8 := kp1.1 (T1 533 0 g) 6 (by decide); omega) (by omega) (by omega)) cl_X6_102 (qd_c (by decide +kernel)) (nn_ _) rfl (rf_of rfl) (Nat.le_of_ble_eq_true rfl) (Nat.le_of_ble_eq_true rfl) (Nat.le_of_ble_eq_true rfl) rfl ?_
          rintro U23 _ ⟨x24, rfl, fU23, gU23⟩
          show J_ zX6_putOff T (po_X6_putOff_f T p d) 0 0 46 _ [vI x24] U23
          refine j_blx (F := fX6) tb_X6 (nn_ _) bk_X6_putOff_f_46 bs_X6_putOff_f_46 hz (fun K hK => ?_)
          refine And.intro (fun c25 => ?_) (fun c25 => ?_)
          · refine hK 55 _ [] U23 ?_
            refine j_blx (F := fX6) tb_X6 (nn_ _) bk_X6_putOff_f_55 bs_X6_putOff_f_55 hz (fun K hK => ?_)
            refine And.intro (fun c26 => ?_) (fun c26 => ?_)
            · refine hK 68 _ [] U23 ?_
              refine j_blx (F := fX6) tb_X6 (nn_ _) bk_X6_putOff_f_68 bs_X6_putOff_f_68 hz (fun K hK => ?_)
              refine hK 71 [some (vR 106 0), some (vR 102 p), some (vI d), some (vI (T 102 p 5)), some (vI n), some (vI g), some (vI 0)] [] U23 ?_
              have e27 : U23 106 0 12 = T1 106 0 12 := fU23 106 0 12 rfl
              refine c_71 _ 0 U23 (Nat.le_refl _) ?_ ?_ ?_ ?_ ?_ ?_ ?_ ?_
              · exact fr_t (fr_t (fr_0 _ _) (fr_s hf_20 rfl)) (fr_s fU23 rfl)
              · omega
              · have z := gU23.resolve_right (fun y => by have := y.1; omega)
                exact kpo_t kp1 ⟨fun a j hj => z.2.2.1 a j, fun c => fU23 401 c 8 rfl, fun j => fU23 560 0 j rfl, fU23 106 0 4 rfl⟩
              · intro j a b
                rw [fU23 533 0 j rfl]
                exact li1 j a b
              · intro j a b
                have z := gU23.resolve_right (fun y => by have := y.1; omega)
                rw [fU23 533 0 j rfl, z.2.2.2 j]
                exact db1 j a b
              · intro x a b
                have z := gU23.resolve_right (fun y => by have := y.1; omega)
                rw [z.2.2.1 x 5]
                exact rv1 x a (fun j c e => by show T1 533 0 j ≠ x; rw [← fU23 533 0 j rfl]; exact b j c e)
              · have z := gU23.resolve_right (fun y => by have := y.1; omega)
                have q := (la1.resolve_left (fun y => by omega))
                have y := q.2.2.1 g (by omega) (by omega)
                have y9 := li1 g (by omega) (by omega)
                have w := mv1 (by omega) (T1 533 0 g) (Or.inl ⟨by omega, rfl⟩)
                exact fun c => mvH_x (by omega) w.1 y.2.2.1 kp1 w.2 z.2.1 (by omega) c.2
              · exact ⟨fun j => (fU23 531 0 j rfl).trans (mk1.1 j), (fU23 106 0 12 rfl).trans mk1.2⟩
            · refine And.intro (fun c28 => ?_) (fun c28 => ?_)
              · refine hK 114 [some (vR 106 0), some (vR 102 p), some (vI d), some (vI (T 102 p 5)), some (vI n), some (vI g), none] [] U23 ?_
                refine j_blx (F := fX6) tb_X6 (nn_ _) bk_X6_putOff_f_114 bs_X6_putOff_f_114 hz (fun K hK => ?_)
                refine hK 117 [some (vR 106 0), some (vR 102 p), some (vI d), some (vI (T 102 p 5)), some (vI n), some (vI g), some (vI 0)] [] U23 ?_
                refine c_117 _ 0 U23 (Nat.le_refl _) ?_ ?_ ?_ ?_ ?_
                · exact fr_t (fr_t (fr_0 _ _) (fr_s hf_20 rfl)) (fr_s fU23 rfl)
                · omega
                · exfalso; omega
                · exfalso; omega
                · exfalso; omega
              · refine hK 71 _ [] U23 ?_
                have e29 : U23 106 0 12 = T1 106 0 12 := fU23 106 0 12 rfl
                refine c_71 _ 0 U23 (Nat.le_refl _) ?_ ?_ ?_ ?_ ?_ ?_ ?_ ?_
                · exact fr_t (fr_t (fr_0 _ _) (fr_s hf_20 rfl)) (fr_s fU23 rfl)
                · omega
                · have z := gU23.resolve_right (fun y => by have := y.1; omega)
                  exact kpo_t kp1 ⟨fun a j hj => z.2.2.1 a j, fun c => fU23 401 c 8 rfl, fun j => fU23 560 0 j rfl, fU23 106 0 4 rfl⟩
                · intro j a b
                  rw [fU23 533 0 j rfl]
                  exact li1 j a b
                · intro j a b
                  have z := gU23.resolve_right (fun y => by have := y.1; omega)
                  rw [fU23 533 0 j rfl, z.2.2.2 j]
                  exact db1 j a b
                · intro x a b
                  have z := gU23.resolve_right (fun y => by have := y.1; omega)
                  rw [z.2.2.1 x 5]
                  exact rv1 x a (fun j c e => by show T1 533 0 j ≠ x; rw [← fU23 533 0 j rfl]; exact b j c e)
                · have z := gU23.resolve_right (fun y => by have := y.1; omega)
                  have q := (la1.resolve_left (fun y => by omega))
                  have y := q.2.2.1 g (by omega) (by omega)
                  have y9 := li1 g (by omega) (by omega)
                  have w := mv1 (by omega) (T1 533 0 g) (Or.inl ⟨by omega, rfl⟩)
                  exact fun c => mvH_x (by omega) w.1 y.2.2.1 kp1 w.2 z.2.1 (by omega) c.2
                · exact ⟨fun j => (fU23 531 0 j rfl).trans (mk1.1 j), (fU23 106 0 12 rfl).trans mk1.2⟩
          · refine rg_i (by omega) ?_
            refine hK 20 [some (vR 106 0), some (vR 102 p), some (vI d), some (vI (T 102 p 5)), some (vI n), some (vI (g + 1)), none] [] U23 ?_
            have e30 : U23 106 0 12 = T1 106 0 12 := fU23 106 0 12 rfl
            refine ih_20 _ ?_ n (g + 1) U23 (Nat.le_refl _) ?_ ?_ ?_ ?_ ?_ ?_ ?_ ?_ ?_ ?_
            · have hm_20 := hm_20 (); omega
            · exact fr_t (fr_t (fr_0 _ _) (fr_s hf_20 rfl)) (fr_s fU23 rfl)
            · omega
            · rcases gU23 with z | z
              · exact kpo_t kp1 ⟨fun a j hj => z.2.2.1 a j, fun c => fU23 401 c 8 rfl, fun j => fU23 560 0 j rfl, fU23 106 0 4 rfl⟩
              · exact kpo_t kp1 ⟨fun a j hj => z.2.2.2.2.1 a j (fun y => hj y.2), fun c => fU23 401 c 8 rfl, fun j => fU23 560 0 j rfl, fU23 106 0 4 rfl⟩
            · intro j a b
              rw [fU23 533 0 j rfl]
              exact li1 j a b
            · rcases la1 with z | z
              · exact Or.inl z
              · exact Or.inr ⟨z.1, z.2.1, lhd_e z.2.2 (fun j _ _ => fU23 533 0 j rfl)⟩
            · intro j a b
              rw [fU23 533 0 j rfl]
              exact al1 j a b
            · intro hn K hK
              have z := (la1.resolve_left (fun y => by omega))
              have hK2 : KKG_ (fun j => T1 533 0 j) (g + 1) n (T 106 0 4) K := by
                rcases hK with ⟨a, b⟩ | ⟨a, b⟩
                · exact Or.inl ⟨a, b.trans (fU23 533 0 _ rfl)⟩
                · exact Or.inr ⟨a, b⟩
              have y := z.2.2.1 g (by omega) (by omega)
              have w := mv1 hn (T1 533 0 g) (Or.inl ⟨by omega, rfl⟩)
              have q := gU23.resolve_left (fun y => by have := y.1; omega)
              have e1 := mvH_y (by omega) w.1 y.2.2.1 kp1 w.2 q.2.1
              have kl := kk_l z.2.2 (by omega) (by omega) hK2
              have kb := kk_b z.2.2 (by omega) (by omega) hK2
              have e2 := mvH_i (T := T) (p := p) (d := d) (A := T1 533 0 g + 1) (B := K) (by omega) kl (fun k a b => kk_s z.2.2 (by omega) (by omega) hK2 (by omega) k a b (by omega))
              rw [e2, e1]
              refine ⟨rfl, fun i => ?_⟩
              show _ = u1_ _ _ _ i
              by_cases zi : i = T1 533 0 g
              · rw [zi, u1_s]; exact q.2.2.1
              · rw [u1_n zi, q.2.2.2.2.1 i 5 (fun y => zi y.1)]; exact w.2 i
            · intro j a b
              have q := gU23.resolve_left (fun y => by have := y.1; omega)
              have z := (la1.resolve_left (fun y => by omega))
              have w := mv1 (by omega) (T1 533 0 g) (Or.inl ⟨by omega, rfl⟩)
              rw [fU23 533 0 j rfl]
              by_cases zj : j = g
              · rw [zj, q.2.2.2.1, w.2]
                have y := z.2.2.1 g (by omega) (by omega)
                have np : T1 533 0 g ≠ p := fun u => y.2.2.1.1 u.symm
                have m9 := mv_k (bk := BKH_ T) (ag := AGH_ T p d) (d := d) (day := u1_ (fun m => T 102 m 5) p d) (j := T1 533 0 g) (T1 533 0 g).toNat (Or.inr (Or.inl (by omega)))
                have m8 : (mvH_ T p d (T1 533 0 g)).1 (T1 533 0 g) = u1_ (fun m => T 102 m 5) p d (T1 533 0 g) := m9
                rw [m8, u1_n np]
              · rw [q.2.2.2.2.2 j zj]; exact db1 j a (by omega)
            · intro x a b
              have q := gU23.resolve_left (fun y => by have := y.1; omega)
              have nx : x ≠ T1 533 0 g := fun u => b g (by omega) (by omega) (by show U23 533 0 g = x; rw [fU23 533 0 g rfl]; exact u.symm)
              rw [q.2.2.2.2.1 x 5 (fun y => nx y.1)]
              exact rv1 x a (fun j c e => by show T1 533 0 j ≠ x; rw [← fU23 533 0 j rfl]; exact b j c (by omega))
            · exact ⟨fun j => (fU23 531 0 j rfl).trans (mk1.1 j), (fU23 106 0 12 rfl).trans mk1.2⟩
  refine j_blx (F := fX6) tb_X6 (nn_ _) bk_X6_putOff_f_0 bs_X6_putOff_f_0 hz (fun K hK => ?_)
  intro b31 b31b
  refine bd_i (by omega) ?_
  refine x_nm (fun U32 hU32 => ?_)
  have e33 := up_f hU32
  refine hK 12 [some (vR 106 0), some (vR 102 p), some (vI d), some (vI (T 102 p 5)), none, none, none] [vR 102 p, vR 106 0] U32 ?_
  refine j_callV (y := yX6_listAgainst) (Yc := zX6_listAgainst) (rest := []) [vR 102 p] (ct_X6_listAgainst_f (T := U32) (KA__f (ws := [(102, [5])]) hka (fr_u (fr_0 _ _) hU32 rfl) ⟨fun _ => rfl, fun _ => rfl, rfl, rfl, trivial⟩) (KM__f (ws := [(102, [5])]) hkm (fr_u (fr_0 _ _) hU32 rfl) ⟨rfl, rfl, rfl, rfl, trivial⟩) (by rw [up_k hU32 (by exact Nat.ne_of_beq_eq_false rfl)]; omega)) cl_X6_98 (qd_c (by decide +kernel)) (nn_ _) rfl (rf_of rfl) (Nat.le_of_ble_eq_true rfl) (Nat.le_of_ble_eq_true rfl) (Nat.le_of_ble_eq_true rfl) rfl ?_
  rintro U34 _ ⟨x35, rfl, fU34, bU34, vU34, gU34⟩
  show J_ zX6_putOff T (po_X6_putOff_f T p d) 0 0 15 _ [vI x35] U34
  have kpU : kpo_ T U34 := ⟨fun a j hj => (fU34 102 a j rfl).trans (up_g hU32 (fun z => hj z.2.2)), fun c => (fU34 401 c 8 rfl).trans (up_k hU32 (by exact Nat.ne_of_beq_eq_false rfl) _ _), fun j => (fU34 560 0 j rfl).trans (up_k hU32 (by exact Nat.ne_of_beq_eq_false rfl) _ _), (fU34 106 0 4 rfl).trans (up_k hU32 (by exact Nat.ne_of_beq_eq_false rfl) _ _)⟩
  have kpP : kpo_ T U32 := ⟨fun a j hj => up_g hU32 (fun z => hj z.2.2), fun c => up_k hU32 (by exact Nat.ne_of_beq_eq_false rfl) _ _, fun j => up_k hU32 (by exact Nat.ne_of_beq_eq_false rfl) _ _, up_k hU32 (by exact Nat.ne_of_beq_eq_false rfl) _ _⟩
  have agP : ∀ k, SAH_ U32 (fun m => U32 102 m 5) p k (U32 102 p 5) ↔ AGH_ T p d k := fun k => by
    rw [sah_k kpP, up_f hU32]
    by_cases z : k = p
    · rw [z]; exact ⟨fun y => absurd rfl y.1, fun y => absurd rfl y.1⟩
    · exact sah_d (up_g hU32 (fun q => z q.2.1))
  have nP : U32 106 0 4 = T 106 0 4 := kpP.2.2.2
  have dyU : ∀ i, U34 102 i 5 = u1_ (fun m => T 102 m 5) p d i := fun i => by
    rw [fU34 102 i 5 rfl]
    by_cases z : i = p
    · rw [z, u1_s]; exact up_f hU32
    · rw [u1_n z]; exact up_g hU32 (fun q => z q.2.1)
  have la9 : (x35 = -1 ∧ NTL_ T p d) ∨ (0 ≤ x35 ∧ (∀ k, 0 ≤ k → k < T 106 0 4 → AGH_ T p d k → TLD_ T k) ∧ LHD_ (fun _ => 0) (AGH_ T p d) (fun j => U34 533 0 j) 0 (T 106 0 4) 400 x35) := by
    have t6 : ∀ k, U32 102 k 6 = T 102 k 6 := fun k => kpP.1 k 6 (by decide)
    have t10 : ∀ k, U32 102 k 10 = T 102 k 10 := fun k => kpP.1 k 10 (by decide)
    rcases gU34 with ⟨z, k, a, b, c, e⟩ | ⟨z, a, b⟩
    · exact Or.inl ⟨z, ntl_i a (by rw [← nP]; exact b) ((agP k).mp c) (fun y => e (by rw [t6, t10]; exact y))⟩
    · refine Or.inr ⟨z, fun k k0 k1 k2 => ?_, ?_⟩
      · have y := a k k0 (by rw [nP]; exact k1) ((agP k).mpr k2)
        rw [t6, t10] at y
        exact y
      · rw [nP] at b
        refine ⟨fun j j0 j1 => ?_, b.2.1, fun q q0 q1 q2 q3 => b.2.2 q q0 q1 ((agP q).mpr q2) q3⟩
        have y := b.1 j j0 j1
        exact ⟨y.1, y.2.1, (agP _).mp y.2.2.1, y.2.2.2⟩
  refine j_blx (F := fX6) tb_X6 (nn_ _) bk_X6_putOff_f_15 bs_X6_putOff_f_15 hz (fun K hK => ?_)
  refine hK 20 [some (vR 106 0), some (vR 102 p), some (vI d), some (vI (T 102 p 5)), some (vI x35), some (vI 0), none] [] U34 ?_
  have e36 : U34 106 0 12 = T 106 0 12 := (fU34 106 0 12 rfl).trans (up_k hU32 (by exact Nat.ne_of_beq_eq_false rfl) 0 12)
  refine c_20 _ x35 0 U34 (Nat.le_refl _) ?_ ?_ ?_ ?_ ?_ ?_ ?_ ?_ ?_ ?_
  · exact fr_t (fr_u (fr_0 _ _) hU32 rfl) (fr_s fU34 rfl)
  · omega
  · exact kpU
  · intro j a b
    have y9 := vU34 j a (by omega)
    omega
  · exact la9
  · intro j a b
    rcases la9 with z | z
    · omega
    · have y := z.2.2.1 j a b
      have w := z.2.1 _ y.1 (by omega) y.2.2.1
      exact w.1
  · intro hn K hK
    have z := (la9.resolve_left (fun y => by omega))
    have kb := kk_b z.2.2 (Int.le_refl 0) (by omega) hK
    have e := mvH_i (T := T) (p := p) (d := d) (A := 0) (B := K) (Int.le_refl 0) kb.1 (fun k a b => kk_0 z.2.2 hK z.1 (by omega) k a b (by omega))
    rw [e]
    exact ⟨rfl, dyU⟩
  · intro j a b; omega
  · exact fun x a _ => by rw [dyU x, u1_n a]
  · exact ⟨fun j => (fU34 531 0 j rfl).trans (up_k hU32 (by exact Nat.ne_of_beq_eq_false rfl) 0 j), (fU34 106 0 12 rfl).trans (up_k hU32 (by exact Nat.ne_of_beq_eq_false rfl) 0 12)⟩
