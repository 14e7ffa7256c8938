theorem bk_X6_goBehind_f_10 : ck_ fX6 (some .boolean) cX6_goBehind 10 [.iload 4, .iconst 999, .if_icmp .gt 52, .aload 0, .tableswitch 0 6 15 #[], .iload 4, .iaload, .ifCond .ne 46, .aload 0, .tableswitch 0 6 14 #[], .iload 3, .aload 1, .tableswitch 0 2 5 #[], .iastore, .aload 1, .iload 4, .tableswitch 1 2 5 #[], .iconst 1, .ireturn] 46 = true := qck_r (nn_ _) (by decide +kernel)
theorem bs_X6_goBehind_f_10 {P : Zt → Option Zv → Prop} (K : Int → Zl → List Zv → Zt → Prop) : sx_ K P [.iload 4, .iconst 999, .if_icmp .gt 52, .aload 0, .tableswitch 0 6 15 #[], .iload 4, .iaload, .ifCond .ne 46, .aload 0, .tableswitch 0 6 14 #[], .iload 3, .aload 1, .tableswitch 0 2 5 #[], .iastore, .aload 1, .iload 4, .tableswitch 1 2 5 #[], .iconst 1, .ireturn] 46 = x_iload 4 (x_iconst 999 (x_if_icmp .gt 52 K (x_aload 0 (x_g1 106 535 (x_iload 4 (x_iaload (x_ifCond .ne 46 K (x_aload 0 (x_g1 106 534 (x_iload 3 (x_aload 1 (x_g0 102 5 0 999 (x_iastore (x_aload 1 (x_iload 4 (x_p 102 5 0 999 (x_iconst 1 (x_ireturn P)))))))))))))))))) := ((xe_iload 4).trans (congrArg (x_iload 4) ((xe_iconst 999).trans (congrArg (x_iconst 999) ((xe_if_icmp .gt 52).trans (congrArg (x_if_icmp .gt 52 K) ((xe_aload 0).trans (congrArg (x_aload 0) ((xe_g1 (kk := 106) rfl tl_6_15).trans (congrArg (x_g1 106 535) ((xe_iload 4).trans (congrArg (x_iload 4) ((xe_iaload).trans (congrArg (x_iaload) ((xe_ifCond .ne 46).trans (congrArg (x_ifCond .ne 46 K) ((xe_aload 0).trans (congrArg (x_aload 0) ((xe_g1 (kk := 106) rfl tl_6_14).trans (congrArg (x_g1 106 534) ((xe_iload 3).trans (congrArg (x_iload 3) ((xe_aload 1).trans (congrArg (x_aload 1) ((xe_g0 (kk := 102) rfl tl_2_5).trans (congrArg (x_g0 102 5 0 999) ((xe_iastore).trans (congrArg (x_iastore) ((xe_aload 1).trans (congrArg (x_aload 1) ((xe_iload 4).trans (congrArg (x_iload 4) ((xe_p (kk := 102) rfl tl_2_5).trans (congrArg (x_p 102 5 0 999) ((xe_iconst 1).trans (congrArg (x_iconst 1) (xe_ireturn)))))))))))))))))))))))))))))))))))))
theorem bk_X6_goBehind_f_52 : ck_ fX6 (some .boolean) cX6_goBehind 52 [.iconst 0, .ireturn] 54 = true := qck_r (nn_ _) (by decide +kernel)
theorem bs_X6_goBehind_f_52 {P : Zt → Option Zv → Prop} (K : Int → Zl → List Zv → Zt → Prop) : sx_ K P [.iconst 0, .ireturn] 54 = x_iconst 0 (x_ireturn P) := ((xe_iconst 0).trans (congrArg (x_iconst 0) (xe_ireturn)))
theorem bk_X6_goBehind_f_46 : ck_ fX6 (some .boolean) cX6_goBehind 46 [.iinc 4 1, .goto 10] 52 = true := qck_r (nn_ _) (by decide +kernel)
theorem bs_X6_goBehind_f_46 {P : Zt → Option Zv → Prop} (K : Int → Zl → List Zv → Zt → Prop) : sx_ K P [.iinc 4 1, .goto 10] 52 = x_iinc 4 1 (x_goto 10 K) := ((xe_iinc 4 1).trans (congrArg (x_iinc 4 1) (xe_goto 10)))
theorem bk_X6_goBehind_f_0 : ck_ fX6 (some .boolean) cX6_goBehind 0 [.aload 0, .aload 1] 2 = true := qck_r (nn_ _) (by decide +kernel)
theorem bs_X6_goBehind_f_0 {P : Zt → Option Zv → Prop} (K : Int → Zl → List Zv → Zt → Prop) : sx_ K P [.aload 0, .aload 1] 2 = x_aload 0 (x_aload 1 (K 2)) := ((xe_aload 0).trans (congrArg (x_aload 0) ((xe_aload 1).trans (congrArg (x_aload 1) xe_nil))))
theorem bk_X6_goBehind_f_5 : ck_ fX6 (some .boolean) cX6_goBehind 5 [.iload 2, .iconst 1, .iadd, .istore 4] 10 = true := qck_r (nn_ _) (by decide +kernel)
theorem bs_X6_goBehind_f_5 {P : Zt → Option Zv → Prop} (K : Int → Zl → List Zv → Zt → Prop) : sx_ K P [.iload 2, .iconst 1, .iadd, .istore 4] 10 = x_iload 2 (x_iconst 1 (x_iadd (x_istore 4 (K 10)))) := ((xe_iload 2).trans (congrArg (x_iload 2) ((xe_iconst 1).trans (congrArg (x_iconst 1) ((xe_iadd).trans (congrArg (x_iadd) ((xe_istore 4).trans (congrArg (x_istore 4) xe_nil))))))))
abbrev po_X6_goBehind_f (T : Zt) (p : Int) (d k : Int) : Zt → Option Zv → Prop := fun T' r => ∃ x : Int, r = some (vI x) ∧ fr_ [(535, []), (534, []), (102, [5])] T T' ∧ (GOB_ T T' p d k x)
set_option maxHeartbeats 4000000 in
theorem ct_X6_goBehind_f {T : Zt} {p : Int} {d k : Int} (hka : KA_ T) (hkm : KM_ T) (hp : 0 ≤ p ∧ p < T 106 0 4) (hab : T 102 p 6 = -1) (hd : 0 ≤ d ∧ d ≤ 999) (hk : 0 ≤ k ∧ k < 400) : Ct_ yX6_goBehind zX6_goBehind T [vR 106 0, vR 102 p, vI d, vI k] (po_X6_goBehind_f T p d k) := by
  refine ct_of pn_6 rfl rfl (Nat.le_of_ble_eq_true rfl) (fun hT hav => ?_)
  have hr_d : -2147483648 ≤ d ∧ d ≤ 2147483647 := hav (vI d) (List.mem_cons_of_mem _ (List.mem_cons_of_mem _ List.mem_cons_self))
  have hr_k : -2147483648 ≤ k ∧ k ≤ 2147483647 := hav (vI k) (List.mem_cons_of_mem _ (List.mem_cons_of_mem _ (List.mem_cons_of_mem _ List.mem_cons_self)))
  have hz : zX6_goBehind.2.2.2.1 = some .boolean → ∀ (T' : Zt) (x : Int), po_X6_goBehind_f T p d k T' (some (vI x)) → 0 ≤ x ∧ x ≤ 1 := fun _ T' x h => by obtain ⟨y, e, -, hy⟩ := h; cases e; rcases hy with z | z <;> (have := z.1; omega)
  have hb_matchCount : 0 ≤ T 106 0 4 ∧ T 106 0 4 ≤ 400 := bd_f hT 106 4 tl_6_4 0
  show J_ zX6_goBehind T (po_X6_goBehind_f T p d k) 0 0 0 [some (vR 106 0), some (vR 102 p), some (vI d), some (vI k), none] [] T
  have c_10 : ∀ (nn : Nat) (i : Int) (T1 : Zt), ((1000 - i).toNat) ≤ nn → (fr_ [(535, [])] T T1) → (d + 1 ≤ i ∧ (i = d + 1 ∨ i ≤ 1000)) → (BR_ (fun e => T1 535 0 e) (BKH_ T (fun m => T 102 m 5) p)) → (ffd_ (BKH_ T (fun m => T 102 m 5) p) (999 - d).toNat (d + 1) = ffd_ (BKH_ T (fun m => T 102 m 5) p) (1000 - i).toNat i) → J_ zX6_goBehind T (po_X6_goBehind_f T p d k) 0 0 10 [some (vR 106 0), some (vR 102 p), some (vI d), some (vI k), some (vI i)] [] T1 := by
    intro nn
    induction nn using Nat.strongRecOn with
    | _ nn ih_10 =>
      intro i T1 hm_10 hf_10 i1 br1 ff1
      replace hm_10 := fun (_ : Unit) => hm_10
      refine j_blx (F := fX6) tb_X6 (nn_ _) bk_X6_goBehind_f_10 bs_X6_goBehind_f_10 hz (fun K hK => ?_)
      refine And.intro (fun c1 => ?_) (fun c1 => ?_)
      · refine hK 52 _ [] T1 ?_
        refine j_blx (F := fX6) tb_X6 (nn_ _) bk_X6_goBehind_f_52 bs_X6_goBehind_f_52 hz (fun K hK => ?_)
        refine (show po_X6_goBehind_f T p d k T1 (some (vI 0)) from ?_)
        have e9 : ffd_ (BKH_ T (fun m => T 102 m 5) p) (999 - d).toNat (d + 1) = -1 := by rw [ff1, show (1000 - i).toNat = 0 by omega]; rfl
        exact ⟨_, rfl, fr_t (fr_0 _ _) (fr_s hf_10 rfl), Or.inl ⟨rfl, e9, fun a b => hf_10 102 a b rfl, fun b => hf_10 534 0 b rfl⟩⟩
      · refine ix_i (by omega) ?_
        intro b2 b2b
        refine And.intro (fun c3 => ?_) (fun c3 => ?_)
        · refine hK 46 _ [] T1 ?_
          refine j_blx (F := fX6) tb_X6 (nn_ _) bk_X6_goBehind_f_46 bs_X6_goBehind_f_46 hz (fun K hK => ?_)
          refine rg_i (by omega) ?_
          refine hK 10 [some (vR 106 0), some (vR 102 p), some (vI d), some (vI k), some (vI (i + 1))] [] T1 ?_
          refine ih_10 _ ?_ (i + 1) T1 (Nat.le_refl _) ?_ ?_ ?_ ?_
          · have hm_10 := hm_10 (); omega
          · exact fr_t (fr_0 _ _) (fr_s hf_10 rfl)
          · omega
          · exact br1
          · rw [ff1, show (1000 - i).toNat = (1000 - (i + 1)).toNat + 1 by omega]
            exact ffd_t ((br1 i (by omega) (by omega)).elim (fun z => z.2) (fun z => absurd z.1 (by omega)))
        · intro b4 b4b
          have e5 : T1 102 p 5 = T 102 p 5 := hf_10 102 p 5 rfl
          rw [e5] at b4 b4b ⊢
          refine iy_i (by omega) (by omega) ?_
          refine x_nm (fun U6 hU6 => ?_)
          have e7 := up_f hU6
          refine bd_i (by omega) ?_
          refine x_nm (fun U8 hU8 => ?_)
          have e9 := up_f hU8
          refine (show po_X6_goBehind_f T p d k U8 (some (vI 1)) from ?_)
          have e9 : ffd_ (BKH_ T (fun m => T 102 m 5) p) (999 - d).toNat (d + 1) = i := by
            rw [ff1, show (1000 - i).toNat = (1000 - (i + 1)).toNat + 1 by omega]
            refine ffd_f ?_
            rcases br1 i (by omega) (by omega) with z | z
            · have z1 : T1 535 0 i = 1 := z.1
              exfalso; omega
            · exact z.2
          exact ⟨_, rfl, fr_u (fr_u (fr_t (fr_0 _ _) (fr_s hf_10 rfl)) hU6 rfl) hU8 rfl, Or.inr ⟨rfl, by omega, by rw [e9]; exact up_f hU8, (up_k hU8 (by exact Nat.ne_of_beq_eq_false rfl) _ _).trans (up_f hU6), fun a b hn => (up_g hU8 (fun z => hn z.2)).trans ((up_k hU6 (by exact Nat.ne_of_beq_eq_false rfl) _ _).trans (hf_10 102 a b rfl)), fun b hb => (up_k hU8 (by exact Nat.ne_of_beq_eq_false rfl) _ _).trans ((up_g hU6 (fun z => hb z.2.2)).trans (hf_10 534 0 b rfl))⟩⟩
  refine j_blx (F := fX6) tb_X6 (nn_ _) bk_X6_goBehind_f_0 bs_X6_goBehind_f_0 hz (fun K hK => ?_)
  refine hK 2 _ [vR 102 p, vR 106 0] T ?_
  refine j_callV (y := yX6_blockDays) (Yc := zX6_blockDays) (rest := []) [vR 102 p] (ct_X6_blockDays_f (T := T) (hka) (hkm) (by omega) (by omega)) cl_X6_146 (qd_c (by decide +kernel)) (nn_ _) rfl (rf_of rfl) (Nat.le_of_ble_eq_true rfl) (Nat.le_of_ble_eq_true rfl) (Nat.le_of_ble_eq_true rfl) rfl ?_
  rintro U10 _ ⟨rfl, fU10, brU10⟩
  show J_ zX6_goBehind T (po_X6_goBehind_f T p d k) 0 0 5 _ [] U10
  refine j_blx (F := fX6) tb_X6 (nn_ _) bk_X6_goBehind_f_5 bs_X6_goBehind_f_5 hz (fun K hK => ?_)
  refine rg_i (by omega) ?_
  refine hK 10 [some (vR 106 0), some (vR 102 p), some (vI d), some (vI k), some (vI (d + 1))] [] U10 ?_
  refine c_10 _ (d + 1) U10 (Nat.le_refl _) ?_ ?_ ?_ ?_
  · exact fr_t (fr_0 _ _) (fr_s fU10 rfl)
  · omega
  · exact brU10
  · rw [show (1000 - (d + 1)).toNat = (999 - d).toNat by omega]
