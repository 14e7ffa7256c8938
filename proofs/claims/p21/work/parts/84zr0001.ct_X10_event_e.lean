theorem bk_X10_event_e_0 : ck_ fX10 (some .int) cX10_event 0 [.aload 0, .iload 1] 2 = true := qck_r (nn_ _) (by decide +kernel)
theorem bs_X10_event_e_0 {P : Zt → Option Zv → Prop} (K : Int → Zl → List Zv → Zt → Prop) : sx_ K P [.aload 0, .iload 1] 2 = x_aload 0 (x_iload 1 (K 2)) := ((xe_aload 0).trans (congrArg (x_aload 0) ((xe_iload 1).trans (congrArg (x_iload 1) xe_nil))))
theorem bk_X10_event_e_5 : ck_ fX10 (some .int) cX10_event 5 [.ifCond .ne 11, .iconst (-2), .ireturn] 11 = true := qck_r (nn_ _) (by decide +kernel)
theorem bs_X10_event_e_5 {P : Zt → Option Zv → Prop} (K : Int → Zl → List Zv → Zt → Prop) : sx_ K P [.ifCond .ne 11, .iconst (-2), .ireturn] 11 = x_ifCond .ne 11 K (x_iconst (-2) (x_ireturn P)) := ((xe_ifCond .ne 11).trans (congrArg (x_ifCond .ne 11 K) ((xe_iconst (-2)).trans (congrArg (x_iconst (-2)) (xe_ireturn)))))
theorem bk_X10_event_e_11 : ck_ fX10 (some .int) cX10_event 11 [.aload 0, .tableswitch 0 10 2 #[], .tableswitch 0 6 3 #[], .iload 1, .aaload, .tableswitch 0 2 10 #[], .astore 6, .aload 6, .ifnonnull 33, .iconst (-11), .ireturn] 33 = true := qck_r (nn_ _) (by decide +kernel)
theorem bs_X10_event_e_11 {P : Zt → Option Zv → Prop} (K : Int → Zl → List Zv → Zt → Prop) : sx_ K P [.aload 0, .tableswitch 0 10 2 #[], .tableswitch 0 6 3 #[], .iload 1, .aaload, .tableswitch 0 2 10 #[], .astore 6, .aload 6, .ifnonnull 33, .iconst (-11), .ireturn] 33 = x_aload 0 (x_g1 110 106 (x_g1 106 523 (x_iload 1 (x_aaload (x_g4 102 103 10 (x_astore 6 (x_aload 6 (x_ifnonnull 33 K (x_iconst (-11) (x_ireturn P)))))))))) := ((xe_aload 0).trans (congrArg (x_aload 0) ((xe_g1 (kk := 110) rfl tl_10_2).trans (congrArg (x_g1 110 106) ((xe_g1 (kk := 106) rfl tl_6_3).trans (congrArg (x_g1 106 523) ((xe_iload 1).trans (congrArg (x_iload 1) ((xe_aaload).trans (congrArg (x_aaload) ((xe_g4 (kk := 102) rfl tl_2_10).trans (congrArg (x_g4 102 103 10) ((xe_astore 6).trans (congrArg (x_astore 6) ((xe_aload 6).trans (congrArg (x_aload 6) ((xe_ifnonnull 33).trans (congrArg (x_ifnonnull 33 K) ((xe_iconst (-11)).trans (congrArg (x_iconst (-11)) (xe_ireturn)))))))))))))))))))))
theorem bk_X10_event_e_33 : ck_ fX10 (some .int) cX10_event 33 [.aload 6, .iload 2, .iload 3, .iload 4, .iload 5] 41 = true := qck_r (nn_ _) (by decide +kernel)
theorem bs_X10_event_e_33 {P : Zt → Option Zv → Prop} (K : Int → Zl → List Zv → Zt → Prop) : sx_ K P [.aload 6, .iload 2, .iload 3, .iload 4, .iload 5] 41 = x_aload 6 (x_iload 2 (x_iload 3 (x_iload 4 (x_iload 5 (K 41))))) := ((xe_aload 6).trans (congrArg (x_aload 6) ((xe_iload 2).trans (congrArg (x_iload 2) ((xe_iload 3).trans (congrArg (x_iload 3) ((xe_iload 4).trans (congrArg (x_iload 4) ((xe_iload 5).trans (congrArg (x_iload 5) xe_nil))))))))))
theorem bk_X10_event_e_44 : ck_ fX10 (some .int) cX10_event 44 [.istore 7, .iload 7, .ifCond .eq 57, .iconst (-10), .iload 7, .isub, .ireturn] 57 = true := qck_r (nn_ _) (by decide +kernel)
theorem bs_X10_event_e_44 {P : Zt → Option Zv → Prop} (K : Int → Zl → List Zv → Zt → Prop) : sx_ K P [.istore 7, .iload 7, .ifCond .eq 57, .iconst (-10), .iload 7, .isub, .ireturn] 57 = x_istore 7 (x_iload 7 (x_ifCond .eq 57 K (x_iconst (-10) (x_iload 7 (x_isub (x_ireturn P)))))) := ((xe_istore 7).trans (congrArg (x_istore 7) ((xe_iload 7).trans (congrArg (x_iload 7) ((xe_ifCond .eq 57).trans (congrArg (x_ifCond .eq 57 K) ((xe_iconst (-10)).trans (congrArg (x_iconst (-10)) ((xe_iload 7).trans (congrArg (x_iload 7) ((xe_isub).trans (congrArg (x_isub) (xe_ireturn)))))))))))))
theorem bk_X10_event_e_57 : ck_ fX10 (some .int) cX10_event 57 [.aload 0, .tableswitch 0 10 2 #[], .tableswitch 0 6 5 #[], .iconst 3000, .if_icmp .lt 73, .iconst (-5), .ireturn] 73 = true := qck_r (nn_ _) (by decide +kernel)
theorem bs_X10_event_e_57 {P : Zt → Option Zv → Prop} (K : Int → Zl → List Zv → Zt → Prop) : sx_ K P [.aload 0, .tableswitch 0 10 2 #[], .tableswitch 0 6 5 #[], .iconst 3000, .if_icmp .lt 73, .iconst (-5), .ireturn] 73 = x_aload 0 (x_g1 110 106 (x_g0 106 5 0 3000 (x_iconst 3000 (x_if_icmp .lt 73 K (x_iconst (-5) (x_ireturn P)))))) := ((xe_aload 0).trans (congrArg (x_aload 0) ((xe_g1 (kk := 110) rfl tl_10_2).trans (congrArg (x_g1 110 106) ((xe_g0 (kk := 106) rfl tl_6_5).trans (congrArg (x_g0 106 5 0 3000) ((xe_iconst 3000).trans (congrArg (x_iconst 3000) ((xe_if_icmp .lt 73).trans (congrArg (x_if_icmp .lt 73 K) ((xe_iconst (-5)).trans (congrArg (x_iconst (-5)) (xe_ireturn)))))))))))))
theorem bk_X10_event_e_73 : ck_ fX10 (some .int) cX10_event 73 [.aload 0, .tableswitch 0 10 2 #[], .dup, .tableswitch 0 6 5 #[], .iconst 1, .iadd, .tableswitch 1 6 5 #[], .aload 6, .iload 2, .iload 3, .iload 4, .iload 5] 94 = true := qck_r (nn_ _) (by decide +kernel)
theorem bs_X10_event_e_73 {P : Zt → Option Zv → Prop} (K : Int → Zl → List Zv → Zt → Prop) : sx_ K P [.aload 0, .tableswitch 0 10 2 #[], .dup, .tableswitch 0 6 5 #[], .iconst 1, .iadd, .tableswitch 1 6 5 #[], .aload 6, .iload 2, .iload 3, .iload 4, .iload 5] 94 = x_aload 0 (x_g1 110 106 (x_dup (x_g0 106 5 0 3000 (x_iconst 1 (x_iadd (x_p 106 5 0 3000 (x_aload 6 (x_iload 2 (x_iload 3 (x_iload 4 (x_iload 5 (K 94)))))))))))) := ((xe_aload 0).trans (congrArg (x_aload 0) ((xe_g1 (kk := 110) rfl tl_10_2).trans (congrArg (x_g1 110 106) ((xe_dup).trans (congrArg (x_dup) ((xe_g0 (kk := 106) rfl tl_6_5).trans (congrArg (x_g0 106 5 0 3000) ((xe_iconst 1).trans (congrArg (x_iconst 1) ((xe_iadd).trans (congrArg (x_iadd) ((xe_p (kk := 106) rfl tl_6_5).trans (congrArg (x_p 106 5 0 3000) ((xe_aload 6).trans (congrArg (x_aload 6) ((xe_iload 2).trans (congrArg (x_iload 2) ((xe_iload 3).trans (congrArg (x_iload 3) ((xe_iload 4).trans (congrArg (x_iload 4) ((xe_iload 5).trans (congrArg (x_iload 5) xe_nil))))))))))))))))))))))))
theorem bk_X10_event_e_97 : ck_ fX10 (some .int) cX10_event 97 [.aload 6, .iload 2, .iload 3, .iload 4, .iload 5] 105 = true := qck_r (nn_ _) (by decide +kernel)
theorem bs_X10_event_e_97 {P : Zt → Option Zv → Prop} (K : Int → Zl → List Zv → Zt → Prop) : sx_ K P [.aload 6, .iload 2, .iload 3, .iload 4, .iload 5] 105 = x_aload 6 (x_iload 2 (x_iload 3 (x_iload 4 (x_iload 5 (K 105))))) := ((xe_aload 6).trans (congrArg (x_aload 6) ((xe_iload 2).trans (congrArg (x_iload 2) ((xe_iload 3).trans (congrArg (x_iload 3) ((xe_iload 4).trans (congrArg (x_iload 4) ((xe_iload 5).trans (congrArg (x_iload 5) xe_nil))))))))))
theorem bk_X10_event_e_108 : ck_ fX10 (some .int) cX10_event 108 [.aload 6, .tableswitch 0 3 15 #[], .ireturn] 114 = true := qck_r (nn_ _) (by decide +kernel)
theorem bs_X10_event_e_108 {P : Zt → Option Zv → Prop} (K : Int → Zl → List Zv → Zt → Prop) : sx_ K P [.aload 6, .tableswitch 0 3 15 #[], .ireturn] 114 = x_aload 6 (x_g0 103 15 0 3000 (x_ireturn P)) := ((xe_aload 6).trans (congrArg (x_aload 6) ((xe_g0 (kk := 103) rfl tl_3_15).trans (congrArg (x_g0 103 15 0 3000) (xe_ireturn)))))
abbrev po_X10_event_e (T : Zt) (N : Int) (ru : Int → Int) (m k s a b : Int) : Zt → Option Zv → Prop := fun T' r => ∃ x : Int, r = some (vI x) ∧ fr_ [(106, [5]), (103, [3, 4, 5, 14, 15]), (466, []), (467, []), (468, []), (472, []), (471, []), (469, []), (470, []), (473, []), (190, []), (191, [0])] T T' ∧ (LP_ (N + 1) T' ∧ lh_ T T' ∧ T' 191 0 0 ≤ T 191 0 0 + 600) ∧ ((x = -2 ∧ ¬ (0 ≤ m ∧ m < T 106 0 4) ∧ T = T') ∨ ((0 ≤ m ∧ m < T 106 0 4) ∧ ((T 102 m 10 = 0 ∧ x = -11 ∧ T = T') ∨ (¬ (T 102 m 10 = 0) ∧ ((lw9_ ru (rs9_ T m) k s a b ≠ 0 ∧ x = -10 - lw9_ ru (rs9_ T m) k s a b ∧ T = T') ∨ (lw9_ ru (rs9_ T m) k s a b = 0 ∧ 3000 ≤ T 106 0 5 ∧ x = -5 ∧ T = T') ∨ (lw9_ ru (rs9_ T m) k s a b = 0 ∧ T 106 0 5 < 3000 ∧ T' 106 0 5 = T 106 0 5 + 1 ∧ rs9_ T' m = ca9_ ru (rs9_ T m) k s a b ∧ hr9_ T' (T' 103 m 14) (T' 103 m 15).toNat = hr9_ T (T 103 m 14) (T 103 m 15).toNat ++ [(k, s, a, b)] ∧ x = T' 103 m 15 ∧ T' 103 m 15 = T 103 m 15 + 1 ∧ T' 103 m 17 = T 103 m 17 ∧ OMH_ T T' m))))))
set_option maxHeartbeats 4000000 in
theorem ct_X10_event_e {T : Zt} {N : Int} {ru : Int → Int} {m k s a b : Int} (hka : KA_ T) (hkm : KM_ T) (hkr : KR_ T) (hlp : LP_ N T) (hN : 0 ≤ N ∧ N ≤ 511) (h9 : 0 ≤ T 191 0 0 ∧ T 191 0 0 ≤ 900000000) (hr : RLP_ T m ru) : Ct_ yX10_event zX10_event T [vR 110 0, vI m, vI k, vI s, vI a, vI b] (po_X10_event_e T N ru m k s a b) := by
  refine ct_of pn_10 rfl rfl (Nat.le_of_ble_eq_true rfl) (fun hT hav => ?_)
  have hr_m : -2147483648 ≤ m ∧ m ≤ 2147483647 := hav (vI m) (List.mem_cons_of_mem _ List.mem_cons_self)
  have hr_k : -2147483648 ≤ k ∧ k ≤ 2147483647 := hav (vI k) (List.mem_cons_of_mem _ (List.mem_cons_of_mem _ List.mem_cons_self))
  have hr_s : -2147483648 ≤ s ∧ s ≤ 2147483647 := hav (vI s) (List.mem_cons_of_mem _ (List.mem_cons_of_mem _ (List.mem_cons_of_mem _ List.mem_cons_self)))
  have hr_a : -2147483648 ≤ a ∧ a ≤ 2147483647 := hav (vI a) (List.mem_cons_of_mem _ (List.mem_cons_of_mem _ (List.mem_cons_of_mem _ (List.mem_cons_of_mem _ List.mem_cons_self))))
  have hr_b : -2147483648 ≤ b ∧ b ≤ 2147483647 := hav (vI b) (List.mem_cons_of_mem _ (List.mem_cons_of_mem _ (List.mem_cons_of_mem _ (List.mem_cons_of_mem _ (List.mem_cons_of_mem _ List.mem_cons_self)))))
  have hz : zX10_event.2.2.2.1 = some .boolean → ∀ (T' : Zt) (x : Int), po_X10_event_e T N ru m k s a b T' (some (vI x)) → 0 ≤ x ∧ x ≤ 1 := fun h => by cases h
  have hb_matchCount : 0 ≤ T 106 0 4 ∧ T 106 0 4 ≤ 400 := bd_f hT 106 4 tl_6_4 0
  have hr0 := hr 0 (by decide) (by decide)
  have hr9 := hr 9 (by decide) (by decide)
  have hr10 := hr 10 (by decide) (by decide)
  have hr11 := hr 11 (by decide) (by decide)
  have hr12 := hr 12 (by decide) (by decide)
  show J_ zX10_event T (po_X10_event_e T N ru m k s a b) 1 2048 0 [some (vR 110 0), some (vI m), some (vI k), some (vI s), some (vI a), some (vI b), none, none] [] T
  refine j_blx (F := fX10) tb_X10 (nn_ _) bk_X10_event_e_0 bs_X10_event_e_0 hz (fun K hK => ?_)
  refine hK 2 _ [vI m, vR 110 0] T ?_
  refine j_callV (y := yX10_isMatch) (Yc := zX10_isMatch) (rest := []) [vI m] (ct_X10_isMatch (T := T)) cl_X10_195 (qd_c (by decide +kernel)) (nn_ _) rfl (rf_of rfl) (Nat.le_of_ble_eq_true rfl) (Nat.le_of_ble_eq_true rfl) (Nat.le_of_ble_eq_true rfl) rfl ?_
  rintro _ _ ⟨rfl, x1, rfl, hx1⟩
  show J_ zX10_event T (po_X10_event_e T N ru m k s a b) 1 2048 5 _ [vI x1] T
  refine j_blx (F := fX10) tb_X10 (nn_ _) bk_X10_event_e_5 bs_X10_event_e_5 hz (fun K hK => ?_)
  refine And.intro (fun c2 => ?_) (fun c2 => ?_)
  · replace hx1 := hx1.resolve_right (fun z => c2 z.1)
    clear c2
    refine hK 11 _ [] T ?_
    refine j_blx (F := fX10) tb_X10 (nn_ _) bk_X10_event_e_11 bs_X10_event_e_11 hz (fun K hK => ?_)
    refine ix_i (by omega) ?_
    refine And.intro (fun c3 => ?_) (fun c3 => ?_)
    · exact absurd (show T 523 0 (m) = 0 from Int.le_antisymm (by omega) (by omega)) (hka.2 _ (by omega) (by omega))
    · refine And.intro (fun c4 => ?_) (fun c4 => ?_)
      · refine (show po_X10_event_e T N ru m k s a b T (some (vI (-11))) from ?_)
        exact ⟨_, rfl, fr_0 _ _, ⟨LP_f (ws := []) hlp (by omega) lh_r (fr_0 _ _) ⟨rfl, rfl, rfl, rfl, rfl, rfl, rfl, rfl, rfl, rfl, rfl⟩, lh_r, by omega⟩, Or.inr ⟨by omega, Or.inl ⟨by omega, rfl, rfl⟩⟩⟩
      · have hl := hlp m (by omega) (by omega) (by omega)
        obtain ⟨⟨a1, a2, a3, a4, a5, a6, a7, a8, a9⟩, b1, b2, b3⟩ := hl
        have hkr9 := hkr _ a8 a9
        have z1 := lz_b b1
        have z2 := lz_b b2
        have g14 : (-2147483648) ≤ T 103 m 14 ∧ T 103 m 14 ≤ 2147483647 := bd_f hT 103 14 tl_3_14 m
        have g16 : (-2147483648) ≤ T 103 m 16 ∧ T 103 m 16 ≤ 2147483647 := bd_f hT 103 16 tl_3_16 m
        refine hK 33 [some (vR 110 0), some (vI m), some (vI k), some (vI s), some (vI a), some (vI b), some (vR 103 m), none] [] T ?_
        refine j_blx (F := fX10) tb_X10 (nn_ _) bk_X10_event_e_33 bs_X10_event_e_33 hz (fun K hK => ?_)
        refine hK 41 _ [vI b, vI a, vI s, vI k, vR 103 m] T ?_
        refine j_callV (y := yX3_brokenLaw) (Yc := zX3_brokenLaw) (rest := []) [vI k, vI s, vI a, vI b] (ct_X3_brokenLaw_e (T := T) (ru := ru) hr) cl_X10_282 (qd_c (by decide +kernel)) (nn_ _) rfl (rf_of rfl) (Nat.le_of_ble_eq_true rfl) (Nat.le_of_ble_eq_true rfl) (Nat.le_of_ble_eq_true rfl) rfl ?_
        rintro _ _ ⟨rfl, x5, rfl, hx5⟩
        show J_ zX10_event T (po_X10_event_e T N ru m k s a b) 1 2048 44 _ [vI x5] T
        refine j_blx (F := fX10) tb_X10 (nn_ _) bk_X10_event_e_44 bs_X10_event_e_44 hz (fun K hK => ?_)
        refine And.intro (fun c6 => ?_) (fun c6 => ?_)
        · refine hK 57 [some (vR 110 0), some (vI m), some (vI k), some (vI s), some (vI a), some (vI b), some (vR 103 m), some (vI x5)] [] T ?_
          refine j_blx (F := fX10) tb_X10 (nn_ _) bk_X10_event_e_57 bs_X10_event_e_57 hz (fun K hK => ?_)
          intro b7 b7b
          refine And.intro (fun c8 => ?_) (fun c8 => ?_)
          · refine hK 73 _ [] T ?_
            refine j_blx (F := fX10) tb_X10 (nn_ _) bk_X10_event_e_73 bs_X10_event_e_73 hz (fun K hK => ?_)
            intro b9 b9b
            refine rg_i (by omega) ?_
            refine bd_i (by omega) ?_
            refine x_nm (fun U10 hU10 => ?_)
            have e11 := up_f hU10
            refine hK 94 _ [vI b, vI a, vI s, vI k, vR 103 m] U10 ?_
            have e12 : U10 103 m 0 = T 103 m 0 := up_k hU10 (by exact Nat.ne_of_beq_eq_false rfl) m 0
            have e13 : U10 401 (T 103 m 0) 9 = T 401 (T 103 m 0) 9 := up_k hU10 (by exact Nat.ne_of_beq_eq_false rfl) (T 103 m 0) 9
            have r14 : U10 401 (U10 103 m 0) 9 = T 401 (T 103 m 0) 9 := by rw [e12]; exact e13
            have e15 : U10 103 m 0 = T 103 m 0 := up_k hU10 (by exact Nat.ne_of_beq_eq_false rfl) m 0
            have e16 : U10 401 (T 103 m 0) 0 = T 401 (T 103 m 0) 0 := up_k hU10 (by exact Nat.ne_of_beq_eq_false rfl) (T 103 m 0) 0
            have r17 : U10 401 (U10 103 m 0) 0 = T 401 (T 103 m 0) 0 := by rw [e15]; exact e16
            have g7 := hx5.1.2.2 (by omega)
            have g4 : T 103 m 3 = 0 := by
              have y9 := (lw_0 (hx5.2.symm.trans (by omega))).1
              rw [rs_d rfl] at y9
              exact y9
            have g8 := b3 g4
            have e18 : U10 470 m 0 = T 470 m 0 := up_k hU10 (by exact Nat.ne_of_beq_eq_false rfl) m 0
            have e19 : U10 470 m 1 = T 470 m 1 := up_k hU10 (by exact Nat.ne_of_beq_eq_false rfl) m 1
            refine j_callV (y := yX3_carryOut) (Yc := zX3_carryOut) (rest := []) [vI k, vI s, vI a, vI b] (ct_X3_carryOut_e (T := U10) (ru := ru) (rl_f (ws := [(106, [5])]) hr (fr_u (fr_0 _ _) hU10 rfl) rfl (fun _ => rfl)) (by rw [r17]; exact g7) (by omega) (by omega)) cl_X10_289 (qd_c (by decide +kernel)) (nn_ _) rfl (rf_of rfl) (Nat.le_of_ble_eq_true rfl) (Nat.le_of_ble_eq_true rfl) (Nat.le_of_ble_eq_true rfl) rfl ?_
            rintro U20 _ ⟨rfl, fU20, qU20o, qU20, qU20e⟩
            show J_ zX10_event T (po_X10_event_e T N ru m k s a b) 1 2048 97 _ [] U20
            refine j_blx (F := fX10) tb_X10 (nn_ _) bk_X10_event_e_97 bs_X10_event_e_97 hz (fun K hK => ?_)
            refine hK 105 _ [vI b, vI a, vI s, vI k, vR 103 m] U20 ?_
            have e22 : U20 103 m 15 = T 103 m 15 := (fU20 103 m 15 rfl).trans (up_k hU10 (by exact Nat.ne_of_beq_eq_false rfl) m 15)
            have e23 : U20 103 m 14 = T 103 m 14 := (fU20 103 m 14 rfl).trans (up_k hU10 (by exact Nat.ne_of_beq_eq_false rfl) m 14)
            have e24 : U20 191 0 0 = T 191 0 0 := (fU20 191 0 0 rfl).trans (up_k hU10 (by exact Nat.ne_of_beq_eq_false rfl) 0 0)
            have e26 : U20 103 m 14 = T 103 m 14 := (fU20 103 m 14 rfl).trans (up_k hU10 (by exact Nat.ne_of_beq_eq_false rfl) m 14)
            have y25 : U20 190 (U20 103 m 14) (-2) = T 190 (T 103 m 14) (-2) := by rw [e26]; exact (fU20 190 _ (-2) rfl).trans (up_k hU10 (by exact Nat.ne_of_beq_eq_false rfl) _ (-2))
            refine j_callV (y := yX3_keepRow) (Yc := zX3_keepRow) (rest := []) [vI k, vI s, vI a, vI b] (ct_X3_keepRow_e (T := U20) (by omega) (by omega) (by rw [y25]; exact b1)) cl_X10_292 (qd_c (by decide +kernel)) (nn_ _) rfl (rf_of rfl) (Nat.le_of_ble_eq_true rfl) (Nat.le_of_ble_eq_true rfl) (Nat.le_of_ble_eq_true rfl) rfl ?_
            rintro U27 _ ⟨rfl, fU27, qU27o, nU27, lU27, mU27, m2U27, zU27, iU27, kU27, dU27, xU27, gU27, bU27⟩
            show J_ zX10_event T (po_X10_event_e T N ru m k s a b) 0 0 108 _ [] U27
            refine j_blx (F := fX10) tb_X10 (nn_ _) bk_X10_event_e_108 bs_X10_event_e_108 hz (fun K hK => ?_)
            intro b29 b29b
            refine (show po_X10_event_e T N ru m k s a b U27 (some (vI (U27 103 m 15))) from ?_)
            have e30 : U27 106 0 5 = (T 106 0 5) + 1 := (fU27 106 0 5 rfl).trans ((fU20 106 0 5 rfl).trans (up_f hU10))
            have e31 : U27 103 m 0 = T 103 m 0 := (fU27 103 m 0 rfl).trans ((fU20 103 m 0 rfl).trans (up_k hU10 (by exact Nat.ne_of_beq_eq_false rfl) m 0))
            have e32 : U27 103 m 3 = U20 103 m 3 := fU27 103 m 3 rfl
            have e33 : U27 103 m 16 = T 103 m 16 := (fU27 103 m 16 rfl).trans ((fU20 103 m 16 rfl).trans (up_k hU10 (by exact Nat.ne_of_beq_eq_false rfl) m 16))
            have e34 : U27 103 m 17 = T 103 m 17 := (fU27 103 m 17 rfl).trans ((fU20 103 m 17 rfl).trans (up_k hU10 (by exact Nat.ne_of_beq_eq_false rfl) m 17))
            have e35 : U20 103 m 15 = T 103 m 15 := (fU20 103 m 15 rfl).trans (up_k hU10 (by exact Nat.ne_of_beq_eq_false rfl) m 15)
            have e36 : U20 103 m 14 = T 103 m 14 := (fU20 103 m 14 rfl).trans (up_k hU10 (by exact Nat.ne_of_beq_eq_false rfl) m 14)
            have e37 : U27 106 0 4 = T 106 0 4 := (fU27 106 0 4 rfl).trans ((fU20 106 0 4 rfl).trans (up_j hU10 (by decide) 106 0))
            have e38 : U27 106 0 2 = T 106 0 2 := (fU27 106 0 2 rfl).trans ((fU20 106 0 2 rfl).trans (up_j hU10 (by decide) 106 0))
            have e39 : U27 106 0 5 = (T 106 0 5) + 1 := (fU27 106 0 5 rfl).trans ((fU20 106 0 5 rfl).trans (up_f hU10))
            have e40 : U20 191 0 0 = T 191 0 0 := (fU20 191 0 0 rfl).trans (up_k hU10 (by exact Nat.ne_of_beq_eq_false rfl) 0 0)
            have e41 : U27 103 m 16 = T 103 m 16 := (fU27 103 m 16 rfl).trans ((fU20 103 m 16 rfl).trans (up_k hU10 (by exact Nat.ne_of_beq_eq_false rfl) m 16))
            have d1 : U27 190 (U27 103 m 16) (-2) = T 190 (T 103 m 16) (-2) := by rw [e41]; exact (lU27 _ (by omega)).trans ((fU20 190 _ (-2) rfl).trans (up_k hU10 (by exact Nat.ne_of_beq_eq_false rfl) _ (-2)))
            have d2 : lh_ T U27 := ⟨fun x hx => (lU27 x (by omega)).trans ((fU20 190 _ (-2) rfl).trans (up_k hU10 (by exact Nat.ne_of_beq_eq_false rfl) _ (-2))), by omega⟩
            have d3 : ∀ k i j, i ≠ m → k ≠ 190 → k ≠ 191 → k ≠ 106 → U27 k i j = T k i j := fun k i j a b c d => (qU27o k i j a b c).trans ((qU20o k i j a).trans (up_g hU10 (fun z => d z.1)))
            have d4 : Lp_ (N + 1) U27 m := ⟨⟨by omega, by omega, by omega, by omega, by omega, by omega, by omega, by omega, by omega⟩, zU27, by rw [d1]; exact b2, fun z => by have y1 := qU20 (by omega); have y2 : U27 470 m 0 = U20 470 m 0 := fU27 470 m 0 rfl; have y3 : U27 470 m 1 = U20 470 m 1 := fU27 470 m 1 rfl; omega⟩
            have w1 : ∀ x j, U20 190 x j = T 190 x j := fun x j => (fU20 190 x j rfl).trans (up_k hU10 (by exact Nat.ne_of_beq_eq_false rfl) x j)
            have u14 : U20 103 m 14 = T 103 m 14 := (fU20 103 m 14 rfl).trans (up_k hU10 (by exact Nat.ne_of_beq_eq_false rfl) m 14)
            have u15 : U20 103 m 15 = T 103 m 15 := (fU20 103 m 15 rfl).trans (up_k hU10 (by exact Nat.ne_of_beq_eq_false rfl) m 15)
            have u1 : rs9_ U27 m = ca9_ ru (rs9_ T m) k s a b := by
              rw [rs_w fU27 (fun k j d => by rcases dk_c d with rfl | rfl | rfl | rfl | rfl | rfl | rfl | rfl | rfl | rfl | ⟨rfl, rfl | rfl | rfl⟩ <;> rfl), qU20e, rs_n (T := T) (fun k j d => up_k hU10 (by rcases dk_c d with y | y | y | y | y | y | y | y | y | y | ⟨y, _⟩ <;> omega) m j)]
            have u2 : hr9_ U27 (U27 103 m 14) (U27 103 m 15).toNat = hr9_ T (T 103 m 14) (T 103 m 15).toNat ++ [(k, s, a, b)] := by
              have y9 := bU27
              rw [u14, u15, hrw_e (T := T) (a := T 103 m 14) (fun j _ _ => w1 _ j)] at y9
              exact y9
            have u3 : OMH_ T U27 m := ⟨d3, fun x j h1 h2 _ => (xU27 x j (by omega) (by omega)).trans (w1 x j), by rcases gU27 with z | z <;> omega, by omega⟩
            exact ⟨_, rfl, fr_t (fr_t (fr_u (fr_0 _ _) hU10 rfl) (fr_s fU20 rfl)) (fr_s fU27 rfl), ⟨LP_q hlp (by omega) d2 d3 (by omega) (by omega) (fun _ => d4), d2, by omega⟩, Or.inr ⟨by omega, Or.inr ⟨by omega, Or.inr (Or.inr ⟨by omega, by omega, by omega, u1, u2, rfl, by omega, by omega, u3⟩)⟩⟩⟩
          · refine (show po_X10_event_e T N ru m k s a b T (some (vI (-5))) from ?_)
            exact ⟨_, rfl, fr_0 _ _, ⟨LP_f (ws := []) hlp (by omega) lh_r (fr_0 _ _) ⟨rfl, rfl, rfl, rfl, rfl, rfl, rfl, rfl, rfl, rfl, rfl⟩, lh_r, by omega⟩, Or.inr ⟨by omega, Or.inr ⟨by omega, Or.inr (Or.inl ⟨by omega, by omega, rfl, rfl⟩)⟩⟩⟩
        · refine rg_i (by omega) ?_
          refine (show po_X10_event_e T N ru m k s a b T (some (vI ((-10) - x5))) from ?_)
          exact ⟨_, rfl, fr_0 _ _, ⟨LP_f (ws := []) hlp (by omega) lh_r (fr_0 _ _) ⟨rfl, rfl, rfl, rfl, rfl, rfl, rfl, rfl, rfl, rfl, rfl⟩, lh_r, by omega⟩, Or.inr ⟨by omega, Or.inr ⟨by omega, Or.inl ⟨by omega, by omega, rfl⟩⟩⟩⟩
  · replace hx1 := hx1.resolve_left (fun z => absurd (c2.symm.trans z.1) (by decide))
    clear c2
    refine (show po_X10_event_e T N ru m k s a b T (some (vI (-2))) from ?_)
    exact ⟨_, rfl, fr_0 _ _, ⟨LP_f (ws := []) hlp (by omega) lh_r (fr_0 _ _) ⟨rfl, rfl, rfl, rfl, rfl, rfl, rfl, rfl, rfl, rfl, rfl⟩, lh_r, by omega⟩, Or.inl ⟨rfl, by omega, rfl⟩⟩
