abbrev cX4_listMatches : ByteArray := prog_6_method_3_code
def yX4_listMatches : MethodName := ⟨RX4, "listMatches", "(I)V"⟩
def zX4_listMatches : Zm := (RX4, cX4_listMatches, 4, none, { frames := 2, cells := 0, slots := 0, locals := 40 })
theorem bk_X4_listMatches_7 : ck_ fX4 none cX4_listMatches 7 [.iload 2, .aload 0, .tableswitch 0 4 0 #[], .tableswitch 0 6 4 #[], .if_icmp .ge 69, .aload 0, .tableswitch 0 4 0 #[], .tableswitch 0 6 3 #[], .iload 2, .aaload, .astore 3, .aload 3, .tableswitch 0 2 5 #[], .iload 1, .if_icmp .ne 63, .aload 3] 37 = true := qck_r (nn_ _) (by decide +kernel)
theorem bs_X4_listMatches_7 {P : Zt → Option Zv → Prop} (K : Int → Zl → List Zv → Zt → Prop) : sx_ K P [.iload 2, .aload 0, .tableswitch 0 4 0 #[], .tableswitch 0 6 4 #[], .if_icmp .ge 69, .aload 0, .tableswitch 0 4 0 #[], .tableswitch 0 6 3 #[], .iload 2, .aaload, .astore 3, .aload 3, .tableswitch 0 2 5 #[], .iload 1, .if_icmp .ne 63, .aload 3] 37 = x_iload 2 (x_aload 0 (x_g1 104 106 (x_g0 106 4 0 400 (x_if_icmp .ge 69 K (x_aload 0 (x_g1 104 106 (x_g1 106 523 (x_iload 2 (x_aaload (x_astore 3 (x_aload 3 (x_g0 102 5 0 999 (x_iload 1 (x_if_icmp .ne 63 K (x_aload 3 (K 37)))))))))))))))) := ((xe_iload 2).trans (congrArg (x_iload 2) ((xe_aload 0).trans (congrArg (x_aload 0) ((xe_g1 (kk := 104) rfl tl_4_0).trans (congrArg (x_g1 104 106) ((xe_g0 (kk := 106) rfl tl_6_4).trans (congrArg (x_g0 106 4 0 400) ((xe_if_icmp .ge 69).trans (congrArg (x_if_icmp .ge 69 K) ((xe_aload 0).trans (congrArg (x_aload 0) ((xe_g1 (kk := 104) rfl tl_4_0).trans (congrArg (x_g1 104 106) ((xe_g1 (kk := 106) rfl tl_6_3).trans (congrArg (x_g1 106 523) ((xe_iload 2).trans (congrArg (x_iload 2) ((xe_aaload).trans (congrArg (x_aaload) ((xe_astore 3).trans (congrArg (x_astore 3) ((xe_aload 3).trans (congrArg (x_aload 3) ((xe_g0 (kk := 102) rfl tl_2_5).trans (congrArg (x_g0 102 5 0 999) ((xe_iload 1).trans (congrArg (x_iload 1) ((xe_if_icmp .ne 63).trans (congrArg (x_if_icmp .ne 63 K) ((xe_aload 3).trans (congrArg (x_aload 3) xe_nil))))))))))))))))))))))))))))))))
theorem bk_X4_listMatches_69 : ck_ fX4 none cX4_listMatches 69 [.return_] 70 = true := qck_r (nn_ _) (by decide +kernel)
theorem bs_X4_listMatches_69 {P : Zt → Option Zv → Prop} (K : Int → Zl → List Zv → Zt → Prop) : sx_ K P [.return_] 70 = x_return_ P := (xe_return_)
theorem bk_X4_listMatches_63 : ck_ fX4 none cX4_listMatches 63 [.iinc 2 1, .goto 7] 69 = true := qck_r (nn_ _) (by decide +kernel)
theorem bs_X4_listMatches_63 {P : Zt → Option Zv → Prop} (K : Int → Zl → List Zv → Zt → Prop) : sx_ K P [.iinc 2 1, .goto 7] 69 = x_iinc 2 1 (x_goto 7 K) := ((xe_iinc 2 1).trans (congrArg (x_iinc 2 1) (xe_goto 7)))
set_option maxRecDepth 100000 in
theorem cl_X4_63 : cv_ RX4 63 yX2_isDecided zX2_isDecided 2 0 := ⟨gi_V (lwq_6 (dqc_m (dqc_m (dqc_m (dqc_m (dqc_m (dqc_m (List.mem_of_getElem? (i := 2) rfl))))))) rfl : Cond.methodLink RX4 63 yX2_isDecided ∈ lw_g) (lwq_4 (dqc_m (dqc_m (dqc_m (dqc_m (dqa_m (dqa_m (dqa_m (List.mem_of_getElem? (i := 3) rfl)))))))) rfl : Cond.instanceMethod yX2_isDecided ∈ lw_g) (lwq_4 (dqc_m (dqc_m (dqc_m (dqc_m (dqa_m (dqa_m (dqa_m (List.mem_of_getElem? (i := 4) rfl)))))))) rfl : Cond.selects yX2_isDecided.cls yX2_isDecided yX2_isDecided ∈ lw_g) (lwq_1 (dqa_m (dqa_m (List.mem_of_getElem? (i := 0) rfl))) rfl : Cond.initialized yX2_isDecided.cls ∈ lw_g) (lwq_4 (dqc_m (dqc_m (dqc_m (dqc_m (dqa_m (dqa_m (dqa_m (List.mem_of_getElem? (i := 5) rfl)))))))) rfl : Cond.code yX2_isDecided cX2_isDecided 1 (some .boolean) ∈ lw_g), ⟨nmh_10.1, nmh_10.2, pdq_18⟩, ⟨_, _, rfl⟩⟩
theorem bk_X4_listMatches_40 : ck_ fX4 none cX4_listMatches 40 [.ifCond .ne 63, .aload 0, .tableswitch 0 4 2 #[], .aload 0, .tableswitch 0 4 3 #[], .iload 2, .iastore, .aload 0, .dup, .tableswitch 0 4 3 #[], .iconst 1, .iadd, .tableswitch 1 4 3 #[], .iinc 2 1, .goto 7] 69 = true := qck_r (nn_ _) (by decide +kernel)
theorem bs_X4_listMatches_40 {P : Zt → Option Zv → Prop} (K : Int → Zl → List Zv → Zt → Prop) : sx_ K P [.ifCond .ne 63, .aload 0, .tableswitch 0 4 2 #[], .aload 0, .tableswitch 0 4 3 #[], .iload 2, .iastore, .aload 0, .dup, .tableswitch 0 4 3 #[], .iconst 1, .iadd, .tableswitch 1 4 3 #[], .iinc 2 1, .goto 7] 69 = x_ifCond .ne 63 K (x_aload 0 (x_g1 104 482 (x_aload 0 (x_g0 104 3 0 400 (x_iload 2 (x_iastore (x_aload 0 (x_dup (x_g0 104 3 0 400 (x_iconst 1 (x_iadd (x_p 104 3 0 400 (x_iinc 2 1 (x_goto 7 K)))))))))))))) := ((xe_ifCond .ne 63).trans (congrArg (x_ifCond .ne 63 K) ((xe_aload 0).trans (congrArg (x_aload 0) ((xe_g1 (kk := 104) rfl tl_4_2).trans (congrArg (x_g1 104 482) ((xe_aload 0).trans (congrArg (x_aload 0) ((xe_g0 (kk := 104) rfl tl_4_3).trans (congrArg (x_g0 104 3 0 400) ((xe_iload 2).trans (congrArg (x_iload 2) ((xe_iastore).trans (congrArg (x_iastore) ((xe_aload 0).trans (congrArg (x_aload 0) ((xe_dup).trans (congrArg (x_dup) ((xe_g0 (kk := 104) rfl tl_4_3).trans (congrArg (x_g0 104 3 0 400) ((xe_iconst 1).trans (congrArg (x_iconst 1) ((xe_iadd).trans (congrArg (x_iadd) ((xe_p (kk := 104) rfl tl_4_3).trans (congrArg (x_p 104 3 0 400) ((xe_iinc 2 1).trans (congrArg (x_iinc 2 1) (xe_goto 7)))))))))))))))))))))))))))))
theorem bk_X4_listMatches_0 : ck_ fX4 none cX4_listMatches 0 [.aload 0, .iconst 0, .tableswitch 1 4 3 #[], .iconst 0, .istore 2] 7 = true := qck_r (nn_ _) (by decide +kernel)
theorem bs_X4_listMatches_0 {P : Zt → Option Zv → Prop} (K : Int → Zl → List Zv → Zt → Prop) : sx_ K P [.aload 0, .iconst 0, .tableswitch 1 4 3 #[], .iconst 0, .istore 2] 7 = x_aload 0 (x_iconst 0 (x_p 104 3 0 400 (x_iconst 0 (x_istore 2 (K 7))))) := ((xe_aload 0).trans (congrArg (x_aload 0) ((xe_iconst 0).trans (congrArg (x_iconst 0) ((xe_p (kk := 104) rfl tl_4_3).trans (congrArg (x_p 104 3 0 400) ((xe_iconst 0).trans (congrArg (x_iconst 0) ((xe_istore 2).trans (congrArg (x_istore 2) xe_nil))))))))))
abbrev po_X4_listMatches (T : Zt) (d : Int) : Zt → Option Zv → Prop := fun T' r => r = none ∧ fr_ [(104, [3]), (482, [])] T T' ∧ ((0 ≤ T' 104 0 3 ∧ T' 104 0 3 ≤ 48) ∧ LS_ T (T' 482 0) d (T' 104 0 3) (T 106 0 4))
set_option maxHeartbeats 4000000 in
theorem ct_X4_listMatches {T : Zt} {d : Int} (hka : KA_ T) (hkm : KM_ T) (hdd : DD_ T) : Ct_ yX4_listMatches zX4_listMatches T [vR 104 0, vI d] (po_X4_listMatches T d) := by
  refine ct_of pn_4 rfl rfl (Nat.le_of_ble_eq_true rfl) (fun hT hav => ?_)
  have hr_d : -2147483648 ≤ d ∧ d ≤ 2147483647 := hav (vI d) (List.mem_cons_of_mem _ List.mem_cons_self)
  have hz : zX4_listMatches.2.2.2.1 = some .boolean → ∀ (T' : Zt) (x : Int), po_X4_listMatches T d T' (some (vI x)) → 0 ≤ x ∧ x ≤ 1 := fun h => by cases h
  have hb_matchCount : 0 ≤ T 106 0 4 ∧ T 106 0 4 ≤ 400 := bd_f hT 106 4 tl_6_4 0
  show J_ zX4_listMatches T (po_X4_listMatches T d) 0 0 0 [some (vR 104 0), some (vI d), none, none] [] T
  have c_7 : ∀ (nn : Nat) (k : Int) (T1 : Zt), ((400 - k).toNat) ≤ nn → (fr_ [(104, [3]), (482, [])] T T1) → (0 ≤ k ∧ k ≤ T 106 0 4 ∧ 0 ≤ T1 104 0 3 ∧ T1 104 0 3 ≤ k) → (LS_ T (T1 482 0) d (T1 104 0 3) k) → J_ zX4_listMatches T (po_X4_listMatches T d) 0 0 7 [some (vR 104 0), some (vI d), some (vI k), none] [] T1 := by
    intro nn
    induction nn using Nat.strongRecOn with
    | _ nn ih_7 =>
      intro k T1 hm_7 hf_7 i1 ls1
      replace hm_7 := fun (_ : Unit) => hm_7
      refine j_blx (F := fX4) tb_X4 (nn_ _) bk_X4_listMatches_7 bs_X4_listMatches_7 hz (fun K hK => ?_)
      intro b1 b1b
      have e2 : T1 106 0 4 = T 106 0 4 := hf_7 106 0 4 rfl
      rw [e2] at b1 b1b ⊢
      refine And.intro (fun c3 => ?_) (fun c3 => ?_)
      · refine hK 69 _ [] T1 ?_
        refine j_blx (F := fX4) tb_X4 (nn_ _) bk_X4_listMatches_69 bs_X4_listMatches_69 hz (fun K hK => ?_)
        refine (show po_X4_listMatches T d T1 (none) from ?_)
        have y0 := LS_48 (L := T1 482 0) (d := d) (n := T1 104 0 3) hT (LS_m ls1 (by omega)) hkm hdd
        exact ⟨rfl, hf_7, by omega, LS_m ls1 (by omega)⟩
      · refine ix_i (by omega) ?_
        have e5 : T1 523 0 k = T 523 0 k := hf_7 523 0 k rfl
        refine And.intro (fun c4 => ?_) (fun c4 => ?_)
        · exact absurd (show T 523 0 (k) = 0 by omega) (hka.2 _ (by omega) (by omega))
        · intro b6 b6b
          have e7 : T1 102 k 5 = T 102 k 5 := hf_7 102 k 5 rfl
          rw [e7] at b6 b6b ⊢
          refine And.intro (fun c8 => ?_) (fun c8 => ?_)
          · refine hK 63 [some (vR 104 0), some (vI d), some (vI k), some (vR 102 k)] [] T1 ?_
            refine j_blx (F := fX4) tb_X4 (nn_ _) bk_X4_listMatches_63 bs_X4_listMatches_63 hz (fun K hK => ?_)
            refine rg_i (by omega) ?_
            refine hK 7 [some (vR 104 0), some (vI d), some (vI (k + 1)), some (vR 102 k)] [] T1 ?_
            refine j_drop [some (vR 104 0), some (vI d), some (vI (k + 1)), none] (fun k v hk => ?_) rfl ?_
            · match k, hk with
              | 0, hk => exact hk
              | 1, hk => exact hk
              | 2, hk => exact hk
              | 3, hk => cases hk
              | k + 4, hk => cases hk
            refine ih_7 _ ?_ (k + 1) T1 (Nat.le_refl _) ?_ ?_ ?_
            · have hm_7 := hm_7 (); omega
            · exact fr_t (fr_0 _ _) (fr_s hf_7 rfl)
            · omega
            · exact LS_m ls1 (by omega)
          · refine hK 37 [some (vR 104 0), some (vI d), some (vI k), some (vR 102 k)] [vR 102 k] T1 ?_
            refine j_callV (y := yX2_isDecided) (Yc := zX2_isDecided) (rest := []) [] (ct_X2_isDecided_k (T := T1)) cl_X4_63 (qd_c (by decide +kernel)) (nn_ _) rfl (rf_of rfl) (Nat.le_of_ble_eq_true rfl) (Nat.le_of_ble_eq_true rfl) (Nat.le_of_ble_eq_true rfl) rfl ?_
            rintro _ _ ⟨rfl, x9, rfl, hx9⟩
            show J_ zX4_listMatches T (po_X4_listMatches T d) 0 0 40 _ [vI x9] T1
            refine j_blx (F := fX4) tb_X4 (nn_ _) bk_X4_listMatches_40 bs_X4_listMatches_40 hz (fun K hK => ?_)
            refine And.intro (fun c10 => ?_) (fun c10 => ?_)
            · refine hK 63 _ [] T1 ?_
              refine j_blx (F := fX4) tb_X4 (nn_ _) bk_X4_listMatches_63 bs_X4_listMatches_63 hz (fun K hK => ?_)
              refine rg_i (by omega) ?_
              refine hK 7 [some (vR 104 0), some (vI d), some (vI (k + 1)), some (vR 102 k)] [] T1 ?_
              refine j_drop [some (vR 104 0), some (vI d), some (vI (k + 1)), none] (fun k v hk => ?_) rfl ?_
              · match k, hk with
                | 0, hk => exact hk
                | 1, hk => exact hk
                | 2, hk => exact hk
                | 3, hk => cases hk
                | k + 4, hk => cases hk
              refine ih_7 _ ?_ (k + 1) T1 (Nat.le_refl _) ?_ ?_ ?_
              · have hm_7 := hm_7 (); omega
              · exact fr_t (fr_0 _ _) (fr_s hf_7 rfl)
              · omega
              · exact LS_m ls1 (by omega)
            · intro b11 b11b
              refine iy_i (by omega) (by omega) ?_
              refine x_nm (fun U12 hU12 => ?_)
              have e13 := up_f hU12
              intro b14 b14b
              have e15 : U12 104 0 3 = T1 104 0 3 := up_k hU12 (by exact Nat.ne_of_beq_eq_false rfl) 0 3
              rw [e15] at b14 b14b ⊢
              refine rg_i (by omega) ?_
              refine bd_i (by omega) ?_
              refine x_nm (fun U16 hU16 => ?_)
              have e17 := up_f hU16
              refine rg_i (by omega) ?_
              refine hK 7 [some (vR 104 0), some (vI d), some (vI (k + 1)), some (vR 102 k)] [] U16 ?_
              refine j_drop [some (vR 104 0), some (vI d), some (vI (k + 1)), none] (fun k v hk => ?_) rfl ?_
              · match k, hk with
                | 0, hk => exact hk
                | 1, hk => exact hk
                | 2, hk => exact hk
                | 3, hk => cases hk
                | k + 4, hk => cases hk
              have e18 : U16 104 0 3 = (T1 104 0 3) + 1 := up_f hU16
              refine ih_7 _ ?_ (k + 1) U16 (Nat.le_refl _) ?_ ?_ ?_
              · have hm_7 := hm_7 (); omega
              · exact fr_u (fr_u (fr_t (fr_0 _ _) (fr_s hf_7 rfl)) hU12 rfl) hU16 rfl
              · omega
              · have y1 : U16 104 0 3 = T1 104 0 3 + 1 := by have := up_f hU16; omega
                have y2 : ∀ j, U16 482 0 j = U12 482 0 j := fun j => up_k hU16 (by exact Nat.ne_of_beq_eq_false rfl) _ _
                rw [y1, show (U16 482 0) = (U12 482 0) from funext y2]
                have z1 : T1 102 k 6 = T 102 k 6 := hf_7 102 k 6 rfl
                have z2 : T1 102 k 5 = T 102 k 5 := hf_7 102 k 5 rfl
                exact LS_u ls1 (up_f hU12) (fun j hj => up_g hU12 (fun q => by omega)) (by omega)
  refine j_blx (F := fX4) tb_X4 (nn_ _) bk_X4_listMatches_0 bs_X4_listMatches_0 hz (fun K hK => ?_)
  refine bd_i (by omega) ?_
  refine x_nm (fun U19 hU19 => ?_)
  have e20 := up_f hU19
  refine hK 7 [some (vR 104 0), some (vI d), some (vI 0), none] [] U19 ?_
  have e21 : U19 104 0 3 = 0 := up_f hU19
  refine c_7 _ 0 U19 (Nat.le_refl _) ?_ ?_ ?_
  · exact fr_u (fr_0 _ _) hU19 rfl
  · omega
  · exact ⟨fun j a b => by have := up_f hU19; omega, fun a b x y z => by have := up_f hU19; omega⟩
