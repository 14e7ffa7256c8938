abbrev cX10_event : ByteArray := prog_1_method_23_code
def yX10_event : MethodName := ⟨RX10, "event", "(IIIII)I"⟩
def zX10_event : Zm := (RX10, cX10_event, 8, (some .int), { frames := 5, cells := 1, slots := 2048, locals := 116 })
theorem bk_X10_event_0 : ck_ fX10 (some .int) cX10_event 0 [.aload 0, .iload 1] 2 = true := qck_r (by decide) (by decide +kernel)
theorem bs_X10_event_0 {P : Zt → Option Zv → Prop} (K : Int → Zl → List Zv → Zt → Prop) : sx_ K P [.aload 0, .iload 1] 2 = x_aload 0 (x_iload 1 (K 2)) := ((xe_aload 0).trans (congrArg (x_aload 0) ((xe_iload 1).trans (congrArg (x_iload 1) xe_nil))))
theorem bk_X10_event_5 : ck_ fX10 (some .int) cX10_event 5 [.ifCond .ne 11, .iconst (-2), .ireturn] 11 = true := qck_r (by decide) (by decide +kernel)
theorem bs_X10_event_5 {P : Zt → Option Zv → Prop} (K : Int → Zl → List Zv → Zt → Prop) : sx_ K P [.ifCond .ne 11, .iconst (-2), .ireturn] 11 = x_ifCond .ne 11 K (x_iconst (-2) (x_ireturn P)) := ((xe_ifCond .ne 11).trans (congrArg (x_ifCond .ne 11 K) ((xe_iconst (-2)).trans (congrArg (x_iconst (-2)) (xe_ireturn)))))
theorem bk_X10_event_11 : ck_ fX10 (some .int) cX10_event 11 [.aload 0, .tableswitch 0 10 2 #[], .tableswitch 0 6 3 #[], .iload 1, .aaload, .tableswitch 0 2 10 #[], .astore 6, .aload 6, .ifnonnull 33, .iconst (-11), .ireturn] 33 = true := qck_r (by decide) (by decide +kernel)
theorem bs_X10_event_11 {P : Zt → Option Zv → Prop} (K : Int → Zl → List Zv → Zt → Prop) : sx_ K P [.aload 0, .tableswitch 0 10 2 #[], .tableswitch 0 6 3 #[], .iload 1, .aaload, .tableswitch 0 2 10 #[], .astore 6, .aload 6, .ifnonnull 33, .iconst (-11), .ireturn] 33 = x_aload 0 (x_g1 110 106 (x_g1 106 523 (x_iload 1 (x_aaload (x_g4 102 103 10 (x_astore 6 (x_aload 6 (x_ifnonnull 33 K (x_iconst (-11) (x_ireturn P)))))))))) := ((xe_aload 0).trans (congrArg (x_aload 0) ((xe_g1 (kk := 110) rfl tl_10_2).trans (congrArg (x_g1 110 106) ((xe_g1 (kk := 106) rfl tl_6_3).trans (congrArg (x_g1 106 523) ((xe_iload 1).trans (congrArg (x_iload 1) ((xe_aaload).trans (congrArg (x_aaload) ((xe_g4 (kk := 102) rfl tl_2_10).trans (congrArg (x_g4 102 103 10) ((xe_astore 6).trans (congrArg (x_astore 6) ((xe_aload 6).trans (congrArg (x_aload 6) ((xe_ifnonnull 33).trans (congrArg (x_ifnonnull 33 K) ((xe_iconst (-11)).trans (congrArg (x_iconst (-11)) (xe_ireturn)))))))))))))))))))))
theorem bk_X10_event_33 : ck_ fX10 (some .int) cX10_event 33 [.aload 6, .iload 2, .iload 3, .iload 4, .iload 5] 41 = true := qck_r (by decide) (by decide +kernel)
theorem bs_X10_event_33 {P : Zt → Option Zv → Prop} (K : Int → Zl → List Zv → Zt → Prop) : sx_ K P [.aload 6, .iload 2, .iload 3, .iload 4, .iload 5] 41 = x_aload 6 (x_iload 2 (x_iload 3 (x_iload 4 (x_iload 5 (K 41))))) := ((xe_aload 6).trans (congrArg (x_aload 6) ((xe_iload 2).trans (congrArg (x_iload 2) ((xe_iload 3).trans (congrArg (x_iload 3) ((xe_iload 4).trans (congrArg (x_iload 4) ((xe_iload 5).trans (congrArg (x_iload 5) xe_nil))))))))))
set_option maxRecDepth 100000 in
theorem cl_X10_282 : cv_ RX10 282 yX3_brokenLaw zX3_brokenLaw 3 4 := ⟨gi_V (lw_b5 27 (by decide +kernel) rfl : Cond.methodLink RX10 282 yX3_brokenLaw ∈ lw_g) (lw_b5 28 (by decide +kernel) rfl : Cond.instanceMethod yX3_brokenLaw ∈ lw_g) (lw_b5 29 (by decide +kernel) rfl : Cond.selects yX3_brokenLaw.cls yX3_brokenLaw yX3_brokenLaw ∈ lw_g) (lw_b1 18 (by decide +kernel) rfl : Cond.initialized yX3_brokenLaw.cls ∈ lw_g) (lw_b5 30 rfl rfl : Cond.code yX3_brokenLaw cX3_brokenLaw 5 (some .int) ∈ lw_g), ⟨by decide, by decide, by decide +kernel⟩, ⟨_, _, rfl⟩⟩
theorem bk_X10_event_44 : ck_ fX10 (some .int) cX10_event 44 [.istore 7, .iload 7, .ifCond .eq 57, .iconst (-10), .iload 7, .isub, .ireturn] 57 = true := qck_r (by decide) (by decide +kernel)
theorem bs_X10_event_44 {P : Zt → Option Zv → Prop} (K : Int → Zl → List Zv → Zt → Prop) : sx_ K P [.istore 7, .iload 7, .ifCond .eq 57, .iconst (-10), .iload 7, .isub, .ireturn] 57 = x_istore 7 (x_iload 7 (x_ifCond .eq 57 K (x_iconst (-10) (x_iload 7 (x_isub (x_ireturn P)))))) := ((xe_istore 7).trans (congrArg (x_istore 7) ((xe_iload 7).trans (congrArg (x_iload 7) ((xe_ifCond .eq 57).trans (congrArg (x_ifCond .eq 57 K) ((xe_iconst (-10)).trans (congrArg (x_iconst (-10)) ((xe_iload 7).trans (congrArg (x_iload 7) ((xe_isub).trans (congrArg (x_isub) (xe_ireturn)))))))))))))
theorem bk_X10_event_57 : ck_ fX10 (some .int) cX10_event 57 [.aload 0, .tableswitch 0 10 2 #[], .tableswitch 0 6 5 #[], .iconst 3000, .if_icmp .lt 73, .iconst (-5), .ireturn] 73 = true := qck_r (by decide) (by decide +kernel)
theorem bs_X10_event_57 {P : Zt → Option Zv → Prop} (K : Int → Zl → List Zv → Zt → Prop) : sx_ K P [.aload 0, .tableswitch 0 10 2 #[], .tableswitch 0 6 5 #[], .iconst 3000, .if_icmp .lt 73, .iconst (-5), .ireturn] 73 = x_aload 0 (x_g1 110 106 (x_g0 106 5 0 3000 (x_iconst 3000 (x_if_icmp .lt 73 K (x_iconst (-5) (x_ireturn P)))))) := ((xe_aload 0).trans (congrArg (x_aload 0) ((xe_g1 (kk := 110) rfl tl_10_2).trans (congrArg (x_g1 110 106) ((xe_g0 (kk := 106) rfl tl_6_5).trans (congrArg (x_g0 106 5 0 3000) ((xe_iconst 3000).trans (congrArg (x_iconst 3000) ((xe_if_icmp .lt 73).trans (congrArg (x_if_icmp .lt 73 K) ((xe_iconst (-5)).trans (congrArg (x_iconst (-5)) (xe_ireturn)))))))))))))
theorem bk_X10_event_73 : ck_ fX10 (some .int) cX10_event 73 [.aload 0, .tableswitch 0 10 2 #[], .dup, .tableswitch 0 6 5 #[], .iconst 1, .iadd, .tableswitch 1 6 5 #[], .aload 6, .iload 2, .iload 3, .iload 4, .iload 5] 94 = true := qck_r (by decide) (by decide +kernel)
theorem bs_X10_event_73 {P : Zt → Option Zv → Prop} (K : Int → Zl → List Zv → Zt → Prop) : sx_ K P [.aload 0, .tableswitch 0 10 2 #[], .dup, .tableswitch 0 6 5 #[], .iconst 1, .iadd, .tableswitch 1 6 5 #[], .aload 6, .iload 2, .iload 3, .iload 4, .iload 5] 94 = x_aload 0 (x_g1 110 106 (x_dup (x_g0 106 5 0 3000 (x_iconst 1 (x_iadd (x_p 106 5 0 3000 (x_aload 6 (x_iload 2 (x_iload 3 (x_iload 4 (x_iload 5 (K 94)))))))))))) := ((xe_aload 0).trans (congrArg (x_aload 0) ((xe_g1 (kk := 110) rfl tl_10_2).trans (congrArg (x_g1 110 106) ((xe_dup).trans (congrArg (x_dup) ((xe_g0 (kk := 106) rfl tl_6_5).trans (congrArg (x_g0 106 5 0 3000) ((xe_iconst 1).trans (congrArg (x_iconst 1) ((xe_iadd).trans (congrArg (x_iadd) ((xe_p (kk := 106) rfl tl_6_5).trans (congrArg (x_p 106 5 0 3000) ((xe_aload 6).trans (congrArg (x_aload 6) ((xe_iload 2).trans (congrArg (x_iload 2) ((xe_iload 3).trans (congrArg (x_iload 3) ((xe_iload 4).trans (congrArg (x_iload 4) ((xe_iload 5).trans (congrArg (x_iload 5) xe_nil))))))))))))))))))))))))
set_option maxRecDepth 100000 in
theorem cl_X10_289 : cv_ RX10 289 yX3_carryOut zX3_carryOut 3 4 := ⟨gi_V (lw_b5 60 (by decide +kernel) rfl : Cond.methodLink RX10 289 yX3_carryOut ∈ lw_g) (lw_b5 61 (by decide +kernel) rfl : Cond.instanceMethod yX3_carryOut ∈ lw_g) (lw_b5 62 (by decide +kernel) rfl : Cond.selects yX3_carryOut.cls yX3_carryOut yX3_carryOut ∈ lw_g) (lw_b1 18 (by decide +kernel) rfl : Cond.initialized yX3_carryOut.cls ∈ lw_g) (lw_b5 63 rfl rfl : Cond.code yX3_carryOut cX3_carryOut 5 none ∈ lw_g), ⟨by decide, by decide, by decide +kernel⟩, ⟨_, _, rfl⟩⟩
theorem bk_X10_event_97 : ck_ fX10 (some .int) cX10_event 97 [.aload 6, .iload 2, .iload 3, .iload 4, .iload 5] 105 = true := qck_r (by decide) (by decide +kernel)
theorem bs_X10_event_97 {P : Zt → Option Zv → Prop} (K : Int → Zl → List Zv → Zt → Prop) : sx_ K P [.aload 6, .iload 2, .iload 3, .iload 4, .iload 5] 105 = x_aload 6 (x_iload 2 (x_iload 3 (x_iload 4 (x_iload 5 (K 105))))) := ((xe_aload 6).trans (congrArg (x_aload 6) ((xe_iload 2).trans (congrArg (x_iload 2) ((xe_iload 3).trans (congrArg (x_iload 3) ((xe_iload 4).trans (congrArg (x_iload 4) ((xe_iload 5).trans (congrArg (x_iload 5) xe_nil))))))))))
set_option maxRecDepth 100000 in
theorem cl_X10_292 : cv_ RX10 292 yX3_keepRow zX3_keepRow 3 4 := ⟨gi_V (lw_b5 133 (by decide +kernel) rfl : Cond.methodLink RX10 292 yX3_keepRow ∈ lw_g) (lw_b5 134 (by decide +kernel) rfl : Cond.instanceMethod yX3_keepRow ∈ lw_g) (lw_b5 135 (by decide +kernel) rfl : Cond.selects yX3_keepRow.cls yX3_keepRow yX3_keepRow ∈ lw_g) (lw_b1 18 (by decide +kernel) rfl : Cond.initialized yX3_keepRow.cls ∈ lw_g) (lw_b5 136 rfl rfl : Cond.code yX3_keepRow cX3_keepRow 5 none ∈ lw_g), ⟨by decide, by decide, by decide +kernel⟩, ⟨_, _, rfl⟩⟩
theorem bk_X10_event_108 : ck_ fX10 (some .int) cX10_event 108 [.aload 6, .tableswitch 0 3 15 #[], .ireturn] 114 = true := qck_r (by decide) (by decide +kernel)
theorem bs_X10_event_108 {P : Zt → Option Zv → Prop} (K : Int → Zl → List Zv → Zt → Prop) : sx_ K P [.aload 6, .tableswitch 0 3 15 #[], .ireturn] 114 = x_aload 6 (x_g0 103 15 0 3000 (x_ireturn P)) := ((xe_aload 6).trans (congrArg (x_aload 6) ((xe_g0 (kk := 103) rfl tl_3_15).trans (congrArg (x_g0 103 15 0 3000) (xe_ireturn)))))
abbrev po_X10_event (T : Zt) (N : Int) (m k s a b : Int) : Zt → Option Zv → Prop := fun T' r => ∃ x : Int, r = some (vI x) ∧ fr_ [(106, [5]), (103, [3, 4, 5, 14, 15]), (466, []), (467, []), (468, []), (472, []), (471, []), (469, []), (470, []), (473, []), (190, []), (191, [0])] T T' ∧ LP_ (N + 1) T' ∧ lh_ T T' ∧ T' 191 0 0 ≤ T 191 0 0 + 600
set_option maxHeartbeats 4000000 in
theorem ct_X10_event {T : Zt} {N : Int} {m k s a b : Int} (hka : KA_ T) (hkm : KM_ T) (hkr : KR_ T) (hlp : LP_ N T) (hN : 0 ≤ N ∧ N ≤ 511) (h9 : 0 ≤ T 191 0 0 ∧ T 191 0 0 ≤ 900000000) : Ct_ yX10_event zX10_event T [vR 110 0, vI m, vI k, vI s, vI a, vI b] (po_X10_event T N m k s a b) := by
  refine ct_of (by decide) rfl rfl (Nat.le_of_ble_eq_true rfl) (fun hT hav => ?_)
  have hr_m : -2147483648 ≤ m ∧ m ≤ 2147483647 := hav (vI m) (by simp)
  have hr_k : -2147483648 ≤ k ∧ k ≤ 2147483647 := hav (vI k) (by simp)
  have hr_s : -2147483648 ≤ s ∧ s ≤ 2147483647 := hav (vI s) (by simp)
  have hr_a : -2147483648 ≤ a ∧ a ≤ 2147483647 := hav (vI a) (by simp)
  have hr_b : -2147483648 ≤ b ∧ b ≤ 2147483647 := hav (vI b) (by simp)
  have hz : zX10_event.2.2.2.1 = some .boolean → ∀ (T' : Zt) (x : Int), po_X10_event T N m k s a b T' (some (vI x)) → 0 ≤ x ∧ x ≤ 1 := fun h => by cases h
  have hb_matchCount : 0 ≤ T 106 0 4 ∧ T 106 0 4 ≤ 400 := bd_f hT 106 4 (by decide +kernel : (tf_ 106)[4]? = some (0, 0, 0, 400)) 0
  show J_ zX10_event T (po_X10_event T N m k s a b) 1 2048 0 [some (vR 110 0), some (vI m), some (vI k), some (vI s), some (vI a), some (vI b), none, none] [] T
  refine j_blx (F := fX10) tb_X10 (by decide) bk_X10_event_0 bs_X10_event_0 hz (fun K hK => ?_)
  refine hK 2 [some (vR 110 0), some (vI m), some (vI k), some (vI s), some (vI a), some (vI b), none, none] [vI m, vR 110 0] T ?_
  refine j_callV (y := yX10_isMatch) (Yc := zX10_isMatch) (rest := []) [vI m] (ct_X10_isMatch (T := T)) cl_X10_195 (qd_c (by decide +kernel)) (by decide) rfl (by decide +kernel) (Nat.le_of_ble_eq_true rfl) (by decide) (by decide) rfl ?_
  rintro _ _ ⟨rfl, x1, rfl, hx1⟩
  show J_ zX10_event T (po_X10_event T N m k s a b) 1 2048 5 [some (vR 110 0), some (vI m), some (vI k), some (vI s), some (vI a), some (vI b), none, none] [vI x1] T
  refine j_blx (F := fX10) tb_X10 (by decide) bk_X10_event_5 bs_X10_event_5 hz (fun K hK => ?_)
  refine And.intro (fun c2 => ?_) (fun c2 => ?_)
  · refine hK 11 [some (vR 110 0), some (vI m), some (vI k), some (vI s), some (vI a), some (vI b), none, none] [] T ?_
    refine j_blx (F := fX10) tb_X10 (by decide) bk_X10_event_11 bs_X10_event_11 hz (fun K hK => ?_)
    refine ix_i (by omega) ?_
    refine And.intro (fun c3 => ?_) (fun c3 => ?_)
    · exact absurd (show T 523 0 (m) = 0 by omega) (hka.2 _ (by omega) (by omega))
    · refine And.intro (fun c4 => ?_) (fun c4 => ?_)
      · refine (show po_X10_event T N m k s a b T (some (vI (-11))) from ?_)
        exact ⟨_, rfl, fr_0 _ _, LP_f (ws := []) hlp (by omega) lh_r (fr_0 _ _) ⟨rfl, rfl, rfl, rfl, rfl, rfl, rfl, rfl, rfl, rfl, rfl⟩, lh_r, by omega⟩
      · have hl := hlp m (by omega) (by omega) (by omega)
        obtain ⟨⟨a1, a2, a3, a4, a5, a6, a7, a8, a9⟩, b1, b2, b3⟩ := hl
        have hr := hkr _ a8 a9
        have z1 := lz_b b1
        have z2 := lz_b b2
        have g14 : (-2147483648) ≤ T 103 m 14 ∧ T 103 m 14 ≤ 2147483647 := bd_f hT 103 14 (by decide +kernel : (tf_ 103)[14]? = some (3, 190, (-2147483648), 2147483647)) m
        have g16 : (-2147483648) ≤ T 103 m 16 ∧ T 103 m 16 ≤ 2147483647 := bd_f hT 103 16 (by decide +kernel : (tf_ 103)[16]? = some (3, 190, (-2147483648), 2147483647)) m
        refine hK 33 [some (vR 110 0), some (vI m), some (vI k), some (vI s), some (vI a), some (vI b), some (vR 103 m), none] [] T ?_
        refine j_blx (F := fX10) tb_X10 (by decide) bk_X10_event_33 bs_X10_event_33 hz (fun K hK => ?_)
        refine hK 41 [some (vR 110 0), some (vI m), some (vI k), some (vI s), some (vI a), some (vI b), some (vR 103 m), none] [vI b, vI a, vI s, vI k, vR 103 m] T ?_
        refine j_callV (y := yX3_brokenLaw) (Yc := zX3_brokenLaw) (rest := []) [vI k, vI s, vI a, vI b] (ct_X3_brokenLaw_k (T := T)) cl_X10_282 (qd_c (by decide +kernel)) (by decide) rfl (by decide +kernel) (Nat.le_of_ble_eq_true rfl) (by decide) (by decide) rfl ?_
        rintro _ _ ⟨rfl, x5, rfl, hx5⟩
        show J_ zX10_event T (po_X10_event T N m k s a b) 1 2048 44 [some (vR 110 0), some (vI m), some (vI k), some (vI s), some (vI a), some (vI b), some (vR 103 m), none] [vI x5] T
        refine j_blx (F := fX10) tb_X10 (by decide) bk_X10_event_44 bs_X10_event_44 hz (fun K hK => ?_)
        refine And.intro (fun c6 => ?_) (fun c6 => ?_)
        · refine hK 57 [some (vR 110 0), some (vI m), some (vI k), some (vI s), some (vI a), some (vI b), some (vR 103 m), some (vI x5)] [] T ?_
          refine j_blx (F := fX10) tb_X10 (by decide) bk_X10_event_57 bs_X10_event_57 hz (fun K hK => ?_)
          intro b7 b7b
          refine And.intro (fun c8 => ?_) (fun c8 => ?_)
          · refine hK 73 [some (vR 110 0), some (vI m), some (vI k), some (vI s), some (vI a), some (vI b), some (vR 103 m), some (vI x5)] [] T ?_
            refine j_blx (F := fX10) tb_X10 (by decide) bk_X10_event_73 bs_X10_event_73 hz (fun K hK => ?_)
            intro b9 b9b
            refine rg_i (by omega) ?_
            refine bd_i (by omega) ?_
            refine x_nm (fun U10 hU10 => ?_)
            have e11 := up_f hU10
            refine hK 94 [some (vR 110 0), some (vI m), some (vI k), some (vI s), some (vI a), some (vI b), some (vR 103 m), some (vI x5)] [vI b, vI a, vI s, vI k, vR 103 m] U10 ?_
            have e12 : U10 103 m 0 = T 103 m 0 := up_k hU10 (by decide) m 0
            have e13 : U10 401 (T 103 m 0) 9 = T 401 (T 103 m 0) 9 := up_k hU10 (by decide) (T 103 m 0) 9
            have r14 : U10 401 (U10 103 m 0) 9 = T 401 (T 103 m 0) 9 := by rw [e12]; exact e13
            have e15 : U10 103 m 0 = T 103 m 0 := up_k hU10 (by decide) m 0
            have e16 : U10 401 (T 103 m 0) 0 = T 401 (T 103 m 0) 0 := up_k hU10 (by decide) (T 103 m 0) 0
            have r17 : U10 401 (U10 103 m 0) 0 = T 401 (T 103 m 0) 0 := by rw [e15]; exact e16
            have g7 := hx5.2.2 (by omega)
            have g8 := b3 g7.2
            have e18 : U10 470 m 0 = T 470 m 0 := up_k hU10 (by decide) m 0
            have e19 : U10 470 m 1 = T 470 m 1 := up_k hU10 (by decide) m 1
            refine j_callV (y := yX3_carryOut) (Yc := zX3_carryOut) (rest := []) [vI k, vI s, vI a, vI b] (ct_X3_carryOut (T := U10) (by rw [r17]; exact g7.1) (by omega) (by omega)) cl_X10_289 (qd_c (by decide +kernel)) (by decide) rfl (by decide +kernel) (Nat.le_of_ble_eq_true rfl) (by decide) (by decide) rfl ?_
            rintro U20 _ ⟨rfl, fU20, qU20o, qU20⟩
            show J_ zX10_event T (po_X10_event T N m k s a b) 1 2048 97 [some (vR 110 0), some (vI m), some (vI k), some (vI s), some (vI a), some (vI b), some (vR 103 m), some (vI x5)] [] U20
            refine j_blx (F := fX10) tb_X10 (by decide) bk_X10_event_97 bs_X10_event_97 hz (fun K hK => ?_)
            refine hK 105 [some (vR 110 0), some (vI m), some (vI k), some (vI s), some (vI a), some (vI b), some (vR 103 m), some (vI x5)] [vI b, vI a, vI s, vI k, vR 103 m] U20 ?_
            have e22 : U20 103 m 15 = T 103 m 15 := (fU20 103 m 15 rfl).trans (up_k hU10 (by decide) m 15)
            have e23 : U20 103 m 14 = T 103 m 14 := (fU20 103 m 14 rfl).trans (up_k hU10 (by decide) m 14)
            have e24 : U20 191 0 0 = T 191 0 0 := (fU20 191 0 0 rfl).trans (up_k hU10 (by decide) 0 0)
            have e26 : U20 103 m 14 = T 103 m 14 := (fU20 103 m 14 rfl).trans (up_k hU10 (by decide) m 14)
            have y25 : U20 190 (U20 103 m 14) (-2) = T 190 (T 103 m 14) (-2) := by rw [e26]; exact (fU20 190 _ (-2) rfl).trans (up_k hU10 (by decide) _ (-2))
            refine j_callV (y := yX3_keepRow) (Yc := zX3_keepRow) (rest := []) [vI k, vI s, vI a, vI b] (ct_X3_keepRow (T := U20) (by omega) (by omega) (by rw [y25]; exact b1)) cl_X10_292 (qd_c (by decide +kernel)) (by decide) rfl (by decide +kernel) (Nat.le_of_ble_eq_true rfl) (by decide) (by decide) rfl ?_
            rintro U27 _ ⟨rfl, fU27, qU27o, nU27, lU27, mU27, m2U27, zU27, iU27, kU27, dU27⟩
            show J_ zX10_event T (po_X10_event T N m k s a b) 0 0 108 [some (vR 110 0), some (vI m), some (vI k), some (vI s), some (vI a), some (vI b), some (vR 103 m), some (vI x5)] [] U27
            refine j_blx (F := fX10) tb_X10 (by decide) bk_X10_event_108 bs_X10_event_108 hz (fun K hK => ?_)
            intro b29 b29b
            refine (show po_X10_event T N m k s a b U27 (some (vI (U27 103 m 15))) from ?_)
            have e30 : U27 103 m 0 = T 103 m 0 := (fU27 103 m 0 rfl).trans ((fU20 103 m 0 rfl).trans (up_k hU10 (by decide) m 0))
            have e31 : U27 103 m 3 = U20 103 m 3 := fU27 103 m 3 rfl
            have e32 : U27 103 m 16 = T 103 m 16 := (fU27 103 m 16 rfl).trans ((fU20 103 m 16 rfl).trans (up_k hU10 (by decide) m 16))
            have e33 : U27 103 m 17 = T 103 m 17 := (fU27 103 m 17 rfl).trans ((fU20 103 m 17 rfl).trans (up_k hU10 (by decide) m 17))
            have e34 : U20 103 m 15 = T 103 m 15 := (fU20 103 m 15 rfl).trans (up_k hU10 (by decide) m 15)
            have e35 : U20 103 m 14 = T 103 m 14 := (fU20 103 m 14 rfl).trans (up_k hU10 (by decide) m 14)
            have e36 : U27 106 0 4 = T 106 0 4 := (fU27 106 0 4 rfl).trans ((fU20 106 0 4 rfl).trans (up_j hU10 (by decide) 106 0))
            have e37 : U27 106 0 2 = T 106 0 2 := (fU27 106 0 2 rfl).trans ((fU20 106 0 2 rfl).trans (up_j hU10 (by decide) 106 0))
            have e38 : U20 191 0 0 = T 191 0 0 := (fU20 191 0 0 rfl).trans (up_k hU10 (by decide) 0 0)
            have e39 : U27 103 m 16 = T 103 m 16 := (fU27 103 m 16 rfl).trans ((fU20 103 m 16 rfl).trans (up_k hU10 (by decide) m 16))
            have d1 : U27 190 (U27 103 m 16) (-2) = T 190 (T 103 m 16) (-2) := by rw [e39]; exact (lU27 _ (by omega)).trans ((fU20 190 _ (-2) rfl).trans (up_k hU10 (by decide) _ (-2)))
            have d2 : lh_ T U27 := ⟨fun x hx => (lU27 x (by omega)).trans ((fU20 190 _ (-2) rfl).trans (up_k hU10 (by decide) _ (-2))), by omega⟩
            have d3 : ∀ k i j, i ≠ m → k ≠ 190 → k ≠ 191 → k ≠ 106 → U27 k i j = T k i j := fun k i j a b c d => (qU27o k i j a b c).trans ((qU20o k i j a).trans (up_g hU10 (fun z => d z.1)))
            have d4 : Lp_ (N + 1) U27 m := ⟨⟨by omega, by omega, by omega, by omega, by omega, by omega, by omega, by omega, by omega⟩, zU27, by rw [d1]; exact b2, fun z => by have y1 := qU20 (by omega); have y2 : U27 470 m 0 = U20 470 m 0 := fU27 470 m 0 rfl; have y3 : U27 470 m 1 = U20 470 m 1 := fU27 470 m 1 rfl; omega⟩
            exact ⟨_, rfl, fr_t (fr_t (fr_u (fr_0 _ _) hU10 rfl) (fr_s fU20 rfl)) (fr_s fU27 rfl), LP_q hlp (by omega) d2 d3 (by omega) (by omega) (fun _ => d4), d2, by omega⟩
          · refine (show po_X10_event T N m k s a b T (some (vI (-5))) from ?_)
            exact ⟨_, rfl, fr_0 _ _, LP_f (ws := []) hlp (by omega) lh_r (fr_0 _ _) ⟨rfl, rfl, rfl, rfl, rfl, rfl, rfl, rfl, rfl, rfl, rfl⟩, lh_r, by omega⟩
        · refine rg_i (by omega) ?_
          refine (show po_X10_event T N m k s a b T (some (vI ((-10) - x5))) from ?_)
          exact ⟨_, rfl, fr_0 _ _, LP_f (ws := []) hlp (by omega) lh_r (fr_0 _ _) ⟨rfl, rfl, rfl, rfl, rfl, rfl, rfl, rfl, rfl, rfl, rfl⟩, lh_r, by omega⟩
  · refine (show po_X10_event T N m k s a b T (some (vI (-2))) from ?_)
    exact ⟨_, rfl, fr_0 _ _, LP_f (ws := []) hlp (by omega) lh_r (fr_0 _ _) ⟨rfl, rfl, rfl, rfl, rfl, rfl, rfl, rfl, rfl, rfl, rfl⟩, lh_r, by omega⟩
abbrev cX10_review : ByteArray := prog_1_method_24_code
def yX10_review : MethodName := ⟨RX10, "review", "(IIIIII)I"⟩
def zX10_review : Zm := (RX10, cX10_review, 8, (some .int), { frames := 6, cells := 127, slots := 4064, locals := 143 })
theorem bk_X10_review_0 : ck_ fX10 (some .int) cX10_review 0 [.aload 0, .iload 1] 2 = true := qck_r (by decide) (by decide +kernel)
theorem bs_X10_review_0 {P : Zt → Option Zv → Prop} (K : Int → Zl → List Zv → Zt → Prop) : sx_ K P [.aload 0, .iload 1] 2 = x_aload 0 (x_iload 1 (K 2)) := ((xe_aload 0).trans (congrArg (x_aload 0) ((xe_iload 1).trans (congrArg (x_iload 1) xe_nil))))
theorem bk_X10_review_5 : ck_ fX10 (some .int) cX10_review 5 [.ifCond .ne 11, .iconst (-2), .ireturn] 11 = true := qck_r (by decide) (by decide +kernel)
theorem bs_X10_review_5 {P : Zt → Option Zv → Prop} (K : Int → Zl → List Zv → Zt → Prop) : sx_ K P [.ifCond .ne 11, .iconst (-2), .ireturn] 11 = x_ifCond .ne 11 K (x_iconst (-2) (x_ireturn P)) := ((xe_ifCond .ne 11).trans (congrArg (x_ifCond .ne 11 K) ((xe_iconst (-2)).trans (congrArg (x_iconst (-2)) (xe_ireturn)))))
theorem bk_X10_review_11 : ck_ fX10 (some .int) cX10_review 11 [.aload 0, .tableswitch 0 10 2 #[], .tableswitch 0 6 3 #[], .iload 1, .aaload, .tableswitch 0 2 10 #[], .astore 7, .aload 7, .ifnull 42, .iload 2, .aload 7, .tableswitch 0 3 15 #[]] 36 = true := qck_r (by decide) (by decide +kernel)
theorem bs_X10_review_11 {P : Zt → Option Zv → Prop} (K : Int → Zl → List Zv → Zt → Prop) : sx_ K P [.aload 0, .tableswitch 0 10 2 #[], .tableswitch 0 6 3 #[], .iload 1, .aaload, .tableswitch 0 2 10 #[], .astore 7, .aload 7, .ifnull 42, .iload 2, .aload 7, .tableswitch 0 3 15 #[]] 36 = x_aload 0 (x_g1 110 106 (x_g1 106 523 (x_iload 1 (x_aaload (x_g4 102 103 10 (x_astore 7 (x_aload 7 (x_ifnull 42 K (x_iload 2 (x_aload 7 (x_g0 103 15 0 3000 (K 36)))))))))))) := ((xe_aload 0).trans (congrArg (x_aload 0) ((xe_g1 (kk := 110) rfl tl_10_2).trans (congrArg (x_g1 110 106) ((xe_g1 (kk := 106) rfl tl_6_3).trans (congrArg (x_g1 106 523) ((xe_iload 1).trans (congrArg (x_iload 1) ((xe_aaload).trans (congrArg (x_aaload) ((xe_g4 (kk := 102) rfl tl_2_10).trans (congrArg (x_g4 102 103 10) ((xe_astore 7).trans (congrArg (x_astore 7) ((xe_aload 7).trans (congrArg (x_aload 7) ((xe_ifnull 42).trans (congrArg (x_ifnull 42 K) ((xe_iload 2).trans (congrArg (x_iload 2) ((xe_aload 7).trans (congrArg (x_aload 7) ((xe_g0 (kk := 103) rfl tl_3_15).trans (congrArg (x_g0 103 15 0 3000) xe_nil))))))))))))))))))))))))
theorem bk_X10_review_42 : ck_ fX10 (some .int) cX10_review 42 [.iconst (-2), .ireturn] 45 = true := qck_r (by decide) (by decide +kernel)
theorem bs_X10_review_42 {P : Zt → Option Zv → Prop} (K : Int → Zl → List Zv → Zt → Prop) : sx_ K P [.iconst (-2), .ireturn] 45 = x_iconst (-2) (x_ireturn P) := ((xe_iconst (-2)).trans (congrArg (x_iconst (-2)) (xe_ireturn)))
theorem bk_X10_review_39 : ck_ fX10 (some .int) cX10_review 39 [.ifCond .ne 45, .iconst (-2), .ireturn] 45 = true := qck_r (by decide) (by decide +kernel)
theorem bs_X10_review_39 {P : Zt → Option Zv → Prop} (K : Int → Zl → List Zv → Zt → Prop) : sx_ K P [.ifCond .ne 45, .iconst (-2), .ireturn] 45 = x_ifCond .ne 45 K (x_iconst (-2) (x_ireturn P)) := ((xe_ifCond .ne 45).trans (congrArg (x_ifCond .ne 45 K) ((xe_iconst (-2)).trans (congrArg (x_iconst (-2)) (xe_ireturn)))))
theorem bk_X10_review_45 : ck_ fX10 (some .int) cX10_review 45 [.iload 3, .iconst (-1), .if_icmp .ne 62, .aload 7, .iload 2] 53 = true := qck_r (by decide) (by decide +kernel)
theorem bs_X10_review_45 {P : Zt → Option Zv → Prop} (K : Int → Zl → List Zv → Zt → Prop) : sx_ K P [.iload 3, .iconst (-1), .if_icmp .ne 62, .aload 7, .iload 2] 53 = x_iload 3 (x_iconst (-1) (x_if_icmp .ne 62 K (x_aload 7 (x_iload 2 (K 53))))) := ((xe_iload 3).trans (congrArg (x_iload 3) ((xe_iconst (-1)).trans (congrArg (x_iconst (-1)) ((xe_if_icmp .ne 62).trans (congrArg (x_if_icmp .ne 62 K) ((xe_aload 7).trans (congrArg (x_aload 7) ((xe_iload 2).trans (congrArg (x_iload 2) xe_nil))))))))))
theorem bk_X10_review_62 : ck_ fX10 (some .int) cX10_review 62 [.aload 7, .iload 3, .iload 4] 67 = true := qck_r (by decide) (by decide +kernel)
theorem bs_X10_review_62 {P : Zt → Option Zv → Prop} (K : Int → Zl → List Zv → Zt → Prop) : sx_ K P [.aload 7, .iload 3, .iload 4] 67 = x_aload 7 (x_iload 3 (x_iload 4 (K 67))) := ((xe_aload 7).trans (congrArg (x_aload 7) ((xe_iload 3).trans (congrArg (x_iload 3) ((xe_iload 4).trans (congrArg (x_iload 4) xe_nil))))))
set_option maxRecDepth 100000 in
theorem cl_X10_305 : cv_ RX10 305 yX3_isFormed zX3_isFormed 3 2 := ⟨gi_V (lw_b5 169 (by decide +kernel) rfl : Cond.methodLink RX10 305 yX3_isFormed ∈ lw_g) (lw_b5 32 (by decide +kernel) rfl : Cond.instanceMethod yX3_isFormed ∈ lw_g) (lw_b5 33 (by decide +kernel) rfl : Cond.selects yX3_isFormed.cls yX3_isFormed yX3_isFormed ∈ lw_g) (lw_b1 18 (by decide +kernel) rfl : Cond.initialized yX3_isFormed.cls ∈ lw_g) (lw_b5 34 rfl rfl : Cond.code yX3_isFormed cX3_isFormed 4 (some .boolean) ∈ lw_g), ⟨by decide, by decide, by decide +kernel⟩, ⟨_, _, rfl⟩⟩
theorem bk_X10_review_70 : ck_ fX10 (some .int) cX10_review 70 [.ifCond .ne 76, .iconst (-12), .ireturn] 76 = true := qck_r (by decide) (by decide +kernel)
theorem bs_X10_review_70 {P : Zt → Option Zv → Prop} (K : Int → Zl → List Zv → Zt → Prop) : sx_ K P [.ifCond .ne 76, .iconst (-12), .ireturn] 76 = x_ifCond .ne 76 K (x_iconst (-12) (x_ireturn P)) := ((xe_ifCond .ne 76).trans (congrArg (x_ifCond .ne 76 K) ((xe_iconst (-12)).trans (congrArg (x_iconst (-12)) (xe_ireturn)))))
theorem bk_X10_review_76 : ck_ fX10 (some .int) cX10_review 76 [.aload 7, .iload 3, .iload 6] 81 = true := qck_r (by decide) (by decide +kernel)
theorem bs_X10_review_76 {P : Zt → Option Zv → Prop} (K : Int → Zl → List Zv → Zt → Prop) : sx_ K P [.aload 7, .iload 3, .iload 6] 81 = x_aload 7 (x_iload 3 (x_iload 6 (K 81))) := ((xe_aload 7).trans (congrArg (x_aload 7) ((xe_iload 3).trans (congrArg (x_iload 3) ((xe_iload 6).trans (congrArg (x_iload 6) xe_nil))))))
set_option maxRecDepth 100000 in
theorem cl_X10_308 : cv_ RX10 308 yX3_isBounded zX3_isBounded 3 2 := ⟨gi_V (lw_b5 170 (by decide +kernel) rfl : Cond.methodLink RX10 308 yX3_isBounded ∈ lw_g) (lw_b5 57 (by decide +kernel) rfl : Cond.instanceMethod yX3_isBounded ∈ lw_g) (lw_b5 58 (by decide +kernel) rfl : Cond.selects yX3_isBounded.cls yX3_isBounded yX3_isBounded ∈ lw_g) (lw_b1 18 (by decide +kernel) rfl : Cond.initialized yX3_isBounded.cls ∈ lw_g) (lw_b5 59 rfl rfl : Cond.code yX3_isBounded cX3_isBounded 3 (some .boolean) ∈ lw_g), ⟨by decide, by decide, by decide +kernel⟩, ⟨_, _, rfl⟩⟩
theorem bk_X10_review_84 : ck_ fX10 (some .int) cX10_review 84 [.ifCond .ne 90, .iconst (-17), .ireturn] 90 = true := qck_r (by decide) (by decide +kernel)
theorem bs_X10_review_84 {P : Zt → Option Zv → Prop} (K : Int → Zl → List Zv → Zt → Prop) : sx_ K P [.ifCond .ne 90, .iconst (-17), .ireturn] 90 = x_ifCond .ne 90 K (x_iconst (-17) (x_ireturn P)) := ((xe_ifCond .ne 90).trans (congrArg (x_ifCond .ne 90 K) ((xe_iconst (-17)).trans (congrArg (x_iconst (-17)) (xe_ireturn)))))
theorem bk_X10_review_90 : ck_ fX10 (some .int) cX10_review 90 [.aload 7, .iload 2, .iload 3, .iload 4, .iload 5, .iload 6] 100 = true := qck_r (by decide) (by decide +kernel)
theorem bs_X10_review_90 {P : Zt → Option Zv → Prop} (K : Int → Zl → List Zv → Zt → Prop) : sx_ K P [.aload 7, .iload 2, .iload 3, .iload 4, .iload 5, .iload 6] 100 = x_aload 7 (x_iload 2 (x_iload 3 (x_iload 4 (x_iload 5 (x_iload 6 (K 100)))))) := ((xe_aload 7).trans (congrArg (x_aload 7) ((xe_iload 2).trans (congrArg (x_iload 2) ((xe_iload 3).trans (congrArg (x_iload 3) ((xe_iload 4).trans (congrArg (x_iload 4) ((xe_iload 5).trans (congrArg (x_iload 5) ((xe_iload 6).trans (congrArg (x_iload 6) xe_nil))))))))))))
set_option maxRecDepth 100000 in
theorem cl_X10_311 : cv_ RX10 311 yX3_isSameRow zX3_isSameRow 3 5 := ⟨gi_V (lw_b5 171 (by decide +kernel) rfl : Cond.methodLink RX10 311 yX3_isSameRow ∈ lw_g) (lw_b5 172 (by decide +kernel) rfl : Cond.instanceMethod yX3_isSameRow ∈ lw_g) (lw_b5 173 (by decide +kernel) rfl : Cond.selects yX3_isSameRow.cls yX3_isSameRow yX3_isSameRow ∈ lw_g) (lw_b1 18 (by decide +kernel) rfl : Cond.initialized yX3_isSameRow.cls ∈ lw_g) (lw_b5 174 rfl rfl : Cond.code yX3_isSameRow cX3_isSameRow 6 (some .boolean) ∈ lw_g), ⟨by decide, by decide, by decide +kernel⟩, ⟨_, _, rfl⟩⟩
theorem bk_X10_review_103 : ck_ fX10 (some .int) cX10_review 103 [.ifCond .eq 109, .iconst (-20), .ireturn] 109 = true := qck_r (by decide) (by decide +kernel)
theorem bs_X10_review_103 {P : Zt → Option Zv → Prop} (K : Int → Zl → List Zv → Zt → Prop) : sx_ K P [.ifCond .eq 109, .iconst (-20), .ireturn] 109 = x_ifCond .eq 109 K (x_iconst (-20) (x_ireturn P)) := ((xe_ifCond .eq 109).trans (congrArg (x_ifCond .eq 109 K) ((xe_iconst (-20)).trans (congrArg (x_iconst (-20)) (xe_ireturn)))))
theorem bk_X10_review_109 : ck_ fX10 (some .int) cX10_review 109 [.aload 7, .iload 2, .iload 3, .iload 4, .iload 5, .iload 6] 119 = true := qck_r (by decide) (by decide +kernel)
theorem bs_X10_review_109 {P : Zt → Option Zv → Prop} (K : Int → Zl → List Zv → Zt → Prop) : sx_ K P [.aload 7, .iload 2, .iload 3, .iload 4, .iload 5, .iload 6] 119 = x_aload 7 (x_iload 2 (x_iload 3 (x_iload 4 (x_iload 5 (x_iload 6 (K 119)))))) := ((xe_aload 7).trans (congrArg (x_aload 7) ((xe_iload 2).trans (congrArg (x_iload 2) ((xe_iload 3).trans (congrArg (x_iload 3) ((xe_iload 4).trans (congrArg (x_iload 4) ((xe_iload 5).trans (congrArg (x_iload 5) ((xe_iload 6).trans (congrArg (x_iload 6) xe_nil))))))))))))
set_option maxRecDepth 100000 in
theorem cl_X10_315 : cv_ RX10 315 yX3_putInPlace zX3_putInPlace 3 5 := ⟨gi_V (lw_b5 175 (by decide +kernel) rfl : Cond.methodLink RX10 315 yX3_putInPlace ∈ lw_g) (lw_b5 176 (by decide +kernel) rfl : Cond.instanceMethod yX3_putInPlace ∈ lw_g) (lw_b5 177 (by decide +kernel) rfl : Cond.selects yX3_putInPlace.cls yX3_putInPlace yX3_putInPlace ∈ lw_g) (lw_b1 18 (by decide +kernel) rfl : Cond.initialized yX3_putInPlace.cls ∈ lw_g) (lw_b5 178 rfl rfl : Cond.code yX3_putInPlace cX3_putInPlace 6 none ∈ lw_g), ⟨by decide, by decide, by decide +kernel⟩, ⟨_, _, rfl⟩⟩
theorem bk_X10_review_122 : ck_ fX10 (some .int) cX10_review 122 [.aload 7] 124 = true := qck_r (by decide) (by decide +kernel)
theorem bs_X10_review_122 {P : Zt → Option Zv → Prop} (K : Int → Zl → List Zv → Zt → Prop) : sx_ K P [.aload 7] 124 = x_aload 7 (K 124) := ((xe_aload 7).trans (congrArg (x_aload 7) xe_nil))
set_option maxRecDepth 100000 in
theorem cl_X10_302 : cv_ RX10 302 yX3_runAnew zX3_runAnew 3 0 := ⟨gi_V (lw_b5 157 (by decide +kernel) rfl : Cond.methodLink RX10 302 yX3_runAnew ∈ lw_g) (lw_b5 158 (by decide +kernel) rfl : Cond.instanceMethod yX3_runAnew ∈ lw_g) (lw_b5 159 (by decide +kernel) rfl : Cond.selects yX3_runAnew.cls yX3_runAnew yX3_runAnew ∈ lw_g) (lw_b1 18 (by decide +kernel) rfl : Cond.initialized yX3_runAnew.cls ∈ lw_g) (lw_b5 160 rfl rfl : Cond.code yX3_runAnew cX3_runAnew 8 (some .int) ∈ lw_g), ⟨by decide, by decide, by decide +kernel⟩, ⟨_, _, rfl⟩⟩
theorem bk_X10_review_127 : ck_ fX10 (some .int) cX10_review 127 [.ireturn] 128 = true := qck_r (by decide) (by decide +kernel)
theorem bs_X10_review_127 {P : Zt → Option Zv → Prop} (K : Int → Zl → List Zv → Zt → Prop) : sx_ K P [.ireturn] 128 = x_ireturn P := (xe_ireturn)
set_option maxRecDepth 100000 in
theorem cl_X10_298 : cv_ RX10 298 yX3_takeOut zX3_takeOut 3 1 := ⟨gi_V (lw_b5 153 (by decide +kernel) rfl : Cond.methodLink RX10 298 yX3_takeOut ∈ lw_g) (lw_b5 154 (by decide +kernel) rfl : Cond.instanceMethod yX3_takeOut ∈ lw_g) (lw_b5 155 (by decide +kernel) rfl : Cond.selects yX3_takeOut.cls yX3_takeOut yX3_takeOut ∈ lw_g) (lw_b1 18 (by decide +kernel) rfl : Cond.initialized yX3_takeOut.cls ∈ lw_g) (lw_b5 156 rfl rfl : Cond.code yX3_takeOut cX3_takeOut 3 none ∈ lw_g), ⟨by decide, by decide, by decide +kernel⟩, ⟨_, _, rfl⟩⟩
theorem bk_X10_review_56 : ck_ fX10 (some .int) cX10_review 56 [.aload 7] 58 = true := qck_r (by decide) (by decide +kernel)
theorem bs_X10_review_56 {P : Zt → Option Zv → Prop} (K : Int → Zl → List Zv → Zt → Prop) : sx_ K P [.aload 7] 58 = x_aload 7 (K 58) := ((xe_aload 7).trans (congrArg (x_aload 7) xe_nil))
theorem bk_X10_review_61 : ck_ fX10 (some .int) cX10_review 61 [.ireturn] 62 = true := qck_r (by decide) (by decide +kernel)
theorem bs_X10_review_61 {P : Zt → Option Zv → Prop} (K : Int → Zl → List Zv → Zt → Prop) : sx_ K P [.ireturn] 62 = x_ireturn P := (xe_ireturn)
abbrev po_X10_review (T : Zt) (N : Int) (m i k s a b : Int) : Zt → Option Zv → Prop := fun T' r => ∃ x : Int, r = some (vI x) ∧ fr_ [(103, [3, 4, 5, 15, 16, 17]), (466, []), (467, []), (468, []), (469, []), (472, []), (473, []), (470, []), (471, []), (190, []), (191, [0])] T T' ∧ LP_ (N + 1) T' ∧ lh_ T T' ∧ T' 191 0 0 ≤ T 191 0 0 + 600
set_option maxHeartbeats 4000000 in
theorem ct_X10_review {T : Zt} {N : Int} {m i k s a b : Int} (hka : KA_ T) (hkm : KM_ T) (hkr : KR_ T) (hlp : LP_ N T) (hN : 0 ≤ N ∧ N ≤ 511) (h9 : 0 ≤ T 191 0 0 ∧ T 191 0 0 ≤ 900000000) : Ct_ yX10_review zX10_review T [vR 110 0, vI m, vI i, vI k, vI s, vI a, vI b] (po_X10_review T N m i k s a b) := by
  refine ct_of (by decide) rfl rfl (Nat.le_of_ble_eq_true rfl) (fun hT hav => ?_)
  have hr_m : -2147483648 ≤ m ∧ m ≤ 2147483647 := hav (vI m) (by simp)
  have hr_i : -2147483648 ≤ i ∧ i ≤ 2147483647 := hav (vI i) (by simp)
  have hr_k : -2147483648 ≤ k ∧ k ≤ 2147483647 := hav (vI k) (by simp)
  have hr_s : -2147483648 ≤ s ∧ s ≤ 2147483647 := hav (vI s) (by simp)
  have hr_a : -2147483648 ≤ a ∧ a ≤ 2147483647 := hav (vI a) (by simp)
  have hr_b : -2147483648 ≤ b ∧ b ≤ 2147483647 := hav (vI b) (by simp)
  have hz : zX10_review.2.2.2.1 = some .boolean → ∀ (T' : Zt) (x : Int), po_X10_review T N m i k s a b T' (some (vI x)) → 0 ≤ x ∧ x ≤ 1 := fun h => by cases h
  have hb_matchCount : 0 ≤ T 106 0 4 ∧ T 106 0 4 ≤ 400 := bd_f hT 106 4 (by decide +kernel : (tf_ 106)[4]? = some (0, 0, 0, 400)) 0
  show J_ zX10_review T (po_X10_review T N m i k s a b) 127 4064 0 [some (vR 110 0), some (vI m), some (vI i), some (vI k), some (vI s), some (vI a), some (vI b), none] [] T
  refine j_blx (F := fX10) tb_X10 (by decide) bk_X10_review_0 bs_X10_review_0 hz (fun K hK => ?_)
  refine hK 2 [some (vR 110 0), some (vI m), some (vI i), some (vI k), some (vI s), some (vI a), some (vI b), none] [vI m, vR 110 0] T ?_
  refine j_callV (y := yX10_isMatch) (Yc := zX10_isMatch) (rest := []) [vI m] (ct_X10_isMatch (T := T)) cl_X10_195 (qd_c (by decide +kernel)) (by decide) rfl (by decide +kernel) (Nat.le_of_ble_eq_true rfl) (by decide) (by decide) rfl ?_
  rintro _ _ ⟨rfl, x1, rfl, hx1⟩
  show J_ zX10_review T (po_X10_review T N m i k s a b) 127 4064 5 [some (vR 110 0), some (vI m), some (vI i), some (vI k), some (vI s), some (vI a), some (vI b), none] [vI x1] T
  refine j_blx (F := fX10) tb_X10 (by decide) bk_X10_review_5 bs_X10_review_5 hz (fun K hK => ?_)
  refine And.intro (fun c2 => ?_) (fun c2 => ?_)
  · refine hK 11 [some (vR 110 0), some (vI m), some (vI i), some (vI k), some (vI s), some (vI a), some (vI b), none] [] T ?_
    refine j_blx (F := fX10) tb_X10 (by decide) bk_X10_review_11 bs_X10_review_11 hz (fun K hK => ?_)
    refine ix_i (by omega) ?_
    refine And.intro (fun c3 => ?_) (fun c3 => ?_)
    · exact absurd (show T 523 0 (m) = 0 by omega) (hka.2 _ (by omega) (by omega))
    · refine And.intro (fun c4 => ?_) (fun c4 => ?_)
      · refine hK 42 [some (vR 110 0), some (vI m), some (vI i), some (vI k), some (vI s), some (vI a), some (vI b), some (vN)] [] T ?_
        refine j_blx (F := fX10) tb_X10 (by decide) bk_X10_review_42 bs_X10_review_42 hz (fun K hK => ?_)
        refine (show po_X10_review T N m i k s a b T (some (vI (-2))) from ?_)
        exact ⟨_, rfl, fr_0 _ _, LP_f (ws := []) hlp (by omega) lh_r (fr_0 _ _) ⟨rfl, rfl, rfl, rfl, rfl, rfl, rfl, rfl, rfl, rfl, rfl⟩, lh_r, by omega⟩
      · have hl := hlp m (by omega) (by omega) (by omega)
        obtain ⟨⟨a1, a2, a3, a4, a5, a6, a7, a8, a9⟩, b1, b2, b3⟩ := hl
        have hr := hkr _ a8 a9
        have z1 := lz_b b1
        have z2 := lz_b b2
        have g14 : (-2147483648) ≤ T 103 m 14 ∧ T 103 m 14 ≤ 2147483647 := bd_f hT 103 14 (by decide +kernel : (tf_ 103)[14]? = some (3, 190, (-2147483648), 2147483647)) m
        have g16 : (-2147483648) ≤ T 103 m 16 ∧ T 103 m 16 ≤ 2147483647 := bd_f hT 103 16 (by decide +kernel : (tf_ 103)[16]? = some (3, 190, (-2147483648), 2147483647)) m
        intro b5 b5b
        refine hK 36 [some (vR 110 0), some (vI m), some (vI i), some (vI k), some (vI s), some (vI a), some (vI b), some (vR 103 m)] [vI (T 103 m 15), vI i] T ?_
        refine j_callS (y := yX10_isBelow) (Yc := zX10_isBelow) (rest := []) [vI i, vI (T 103 m 15)] (ct_X10_isBelow (T := T)) cl_X10_115 (qd_c (by decide +kernel)) (by decide) rfl (by decide +kernel) (Nat.le_of_ble_eq_true rfl) (by decide) (by decide) rfl ?_
        rintro _ _ ⟨rfl, x6, rfl, hx6⟩
        show J_ zX10_review T (po_X10_review T N m i k s a b) 127 4064 39 [some (vR 110 0), some (vI m), some (vI i), some (vI k), some (vI s), some (vI a), some (vI b), some (vR 103 m)] [vI x6] T
        refine j_blx (F := fX10) tb_X10 (by decide) bk_X10_review_39 bs_X10_review_39 hz (fun K hK => ?_)
        refine And.intro (fun c7 => ?_) (fun c7 => ?_)
        · refine hK 45 [some (vR 110 0), some (vI m), some (vI i), some (vI k), some (vI s), some (vI a), some (vI b), some (vR 103 m)] [] T ?_
          refine j_blx (F := fX10) tb_X10 (by decide) bk_X10_review_45 bs_X10_review_45 hz (fun K hK => ?_)
          refine And.intro (fun c8 => ?_) (fun c8 => ?_)
          · refine hK 62 [some (vR 110 0), some (vI m), some (vI i), some (vI k), some (vI s), some (vI a), some (vI b), some (vR 103 m)] [] T ?_
            refine j_blx (F := fX10) tb_X10 (by decide) bk_X10_review_62 bs_X10_review_62 hz (fun K hK => ?_)
            refine hK 67 [some (vR 110 0), some (vI m), some (vI i), some (vI k), some (vI s), some (vI a), some (vI b), some (vR 103 m)] [vI s, vI k, vR 103 m] T ?_
            refine j_callV (y := yX3_isFormed) (Yc := zX3_isFormed) (rest := []) [vI k, vI s] (ct_X3_isFormed (T := T)) cl_X10_305 (qd_c (by decide +kernel)) (by decide) rfl (by decide +kernel) (Nat.le_of_ble_eq_true rfl) (by decide) (by decide) rfl ?_
            rintro _ _ ⟨rfl, x9, rfl, hx9⟩
            show J_ zX10_review T (po_X10_review T N m i k s a b) 127 4064 70 [some (vR 110 0), some (vI m), some (vI i), some (vI k), some (vI s), some (vI a), some (vI b), some (vR 103 m)] [vI x9] T
            refine j_blx (F := fX10) tb_X10 (by decide) bk_X10_review_70 bs_X10_review_70 hz (fun K hK => ?_)
            refine And.intro (fun c10 => ?_) (fun c10 => ?_)
            · refine hK 76 [some (vR 110 0), some (vI m), some (vI i), some (vI k), some (vI s), some (vI a), some (vI b), some (vR 103 m)] [] T ?_
              refine j_blx (F := fX10) tb_X10 (by decide) bk_X10_review_76 bs_X10_review_76 hz (fun K hK => ?_)
              refine hK 81 [some (vR 110 0), some (vI m), some (vI i), some (vI k), some (vI s), some (vI a), some (vI b), some (vR 103 m)] [vI b, vI k, vR 103 m] T ?_
              refine j_callV (y := yX3_isBounded) (Yc := zX3_isBounded) (rest := []) [vI k, vI b] (ct_X3_isBounded (T := T)) cl_X10_308 (qd_c (by decide +kernel)) (by decide) rfl (by decide +kernel) (Nat.le_of_ble_eq_true rfl) (by decide) (by decide) rfl ?_
              rintro _ _ ⟨rfl, x11, rfl, hx11⟩
              show J_ zX10_review T (po_X10_review T N m i k s a b) 127 4064 84 [some (vR 110 0), some (vI m), some (vI i), some (vI k), some (vI s), some (vI a), some (vI b), some (vR 103 m)] [vI x11] T
              refine j_blx (F := fX10) tb_X10 (by decide) bk_X10_review_84 bs_X10_review_84 hz (fun K hK => ?_)
              refine And.intro (fun c12 => ?_) (fun c12 => ?_)
              · refine hK 90 [some (vR 110 0), some (vI m), some (vI i), some (vI k), some (vI s), some (vI a), some (vI b), some (vR 103 m)] [] T ?_
                refine j_blx (F := fX10) tb_X10 (by decide) bk_X10_review_90 bs_X10_review_90 hz (fun K hK => ?_)
                refine hK 100 [some (vR 110 0), some (vI m), some (vI i), some (vI k), some (vI s), some (vI a), some (vI b), some (vR 103 m)] [vI b, vI a, vI s, vI k, vI i, vR 103 m] T ?_
                refine j_callV (y := yX3_isSameRow) (Yc := zX3_isSameRow) (rest := []) [vI i, vI k, vI s, vI a, vI b] (ct_X3_isSameRow (T := T) (by omega)) cl_X10_311 (qd_c (by decide +kernel)) (by decide) rfl (by decide +kernel) (Nat.le_of_ble_eq_true rfl) (by decide) (by decide) rfl ?_
                rintro _ _ ⟨rfl, x13, rfl, hx13⟩
                show J_ zX10_review T (po_X10_review T N m i k s a b) 127 4064 103 [some (vR 110 0), some (vI m), some (vI i), some (vI k), some (vI s), some (vI a), some (vI b), some (vR 103 m)] [vI x13] T
                refine j_blx (F := fX10) tb_X10 (by decide) bk_X10_review_103 bs_X10_review_103 hz (fun K hK => ?_)
                refine And.intro (fun c14 => ?_) (fun c14 => ?_)
                · refine hK 109 [some (vR 110 0), some (vI m), some (vI i), some (vI k), some (vI s), some (vI a), some (vI b), some (vR 103 m)] [] T ?_
                  refine j_blx (F := fX10) tb_X10 (by decide) bk_X10_review_109 bs_X10_review_109 hz (fun K hK => ?_)
                  refine hK 119 [some (vR 110 0), some (vI m), some (vI i), some (vI k), some (vI s), some (vI a), some (vI b), some (vR 103 m)] [vI b, vI a, vI s, vI k, vI i, vR 103 m] T ?_
                  refine j_callV (y := yX3_putInPlace) (Yc := zX3_putInPlace) (rest := []) [vI i, vI k, vI s, vI a, vI b] (ct_X3_putInPlace (T := T) (by omega)) cl_X10_315 (qd_c (by decide +kernel)) (by decide) rfl (by decide +kernel) (Nat.le_of_ble_eq_true rfl) (by decide) (by decide) rfl ?_
                  rintro U15 _ ⟨rfl, fU15, lU15⟩
                  show J_ zX10_review T (po_X10_review T N m i k s a b) 127 4064 122 [some (vR 110 0), some (vI m), some (vI i), some (vI k), some (vI s), some (vI a), some (vI b), some (vR 103 m)] [] U15
                  refine j_blx (F := fX10) tb_X10 (by decide) bk_X10_review_122 bs_X10_review_122 hz (fun K hK => ?_)
                  refine hK 124 [some (vR 110 0), some (vI m), some (vI i), some (vI k), some (vI s), some (vI a), some (vI b), some (vR 103 m)] [vR 103 m] U15 ?_
                  have e17 : U15 103 m 0 = T 103 m 0 := fU15 103 m 0 rfl
                  have e18 : U15 401 (T 103 m 0) 9 = T 401 (T 103 m 0) 9 := fU15 401 (T 103 m 0) 9 rfl
                  have r19 : U15 401 (U15 103 m 0) 9 = T 401 (T 103 m 0) 9 := by rw [e17]; exact e18
                  have e20 : U15 103 m 15 = T 103 m 15 := fU15 103 m 15 rfl
                  have e21 : U15 103 m 17 = T 103 m 17 := fU15 103 m 17 rfl
                  have e22 : U15 103 m 14 = T 103 m 14 := fU15 103 m 14 rfl
                  have e23 : U15 103 m 16 = T 103 m 16 := fU15 103 m 16 rfl
                  have e24 : U15 191 0 0 = T 191 0 0 := fU15 191 0 0 rfl
                  have e25 : U15 103 m 14 = T 103 m 14 := fU15 103 m 14 rfl
                  have w1 : U15 190 (U15 103 m 14) (-2) = T 190 (T 103 m 14) (-2) := by rw [e25]; exact lU15 _
                  have e26 : U15 103 m 16 = T 103 m 16 := fU15 103 m 16 rfl
                  have w2 : U15 190 (U15 103 m 16) (-2) = T 190 (T 103 m 16) (-2) := by rw [e26]; exact lU15 _
                  refine j_callV (y := yX3_runAnew) (Yc := zX3_runAnew) (rest := []) [] (ct_X3_runAnew (T := U15) (by omega) (by omega) (by omega) (by rw [w2]; exact b2) (by omega)) cl_X10_302 (qd_c (by decide +kernel)) (by decide) rfl (by decide +kernel) (Nat.le_of_ble_eq_true rfl) (by decide) (by decide) rfl ?_
                  rintro U27 _ ⟨x28, rfl, fU27, qU27o, lU27, nU27, mU27, zU27, kU27, qU27⟩
                  show J_ zX10_review T (po_X10_review T N m i k s a b) 0 0 127 [some (vR 110 0), some (vI m), some (vI i), some (vI k), some (vI s), some (vI a), some (vI b), some (vR 103 m)] [vI x28] U27
                  refine j_blx (F := fX10) tb_X10 (by decide) bk_X10_review_127 bs_X10_review_127 hz (fun K hK => ?_)
                  refine (show po_X10_review T N m i k s a b U27 (some (vI x28)) from ?_)
                  have e29 : U27 103 m 0 = T 103 m 0 := (fU27 103 m 0 rfl).trans (fU15 103 m 0 rfl)
                  have e30 : U27 103 m 14 = T 103 m 14 := (fU27 103 m 14 rfl).trans (fU15 103 m 14 rfl)
                  have e31 : U15 103 m 15 = T 103 m 15 := fU15 103 m 15 rfl
                  have e32 : U15 103 m 17 = T 103 m 17 := fU15 103 m 17 rfl
                  have e33 : U15 103 m 14 = T 103 m 14 := fU15 103 m 14 rfl
                  have e34 : U15 103 m 16 = T 103 m 16 := fU15 103 m 16 rfl
                  have e35 : U27 106 0 4 = T 106 0 4 := (fU27 106 0 4 rfl).trans (fU15 106 0 4 rfl)
                  have e36 : U27 106 0 2 = T 106 0 2 := (fU27 106 0 2 rfl).trans (fU15 106 0 2 rfl)
                  have e37 : U15 191 0 0 = T 191 0 0 := fU15 191 0 0 rfl
                  have e38 : U27 103 m 14 = T 103 m 14 := (fU27 103 m 14 rfl).trans (fU15 103 m 14 rfl)
                  have d0 : U27 103 m 14 = U15 103 m 14 := fU27 103 m 14 rfl
                  have d1 : U27 190 (U27 103 m 14) (-2) = T 190 (T 103 m 14) (-2) := by rw [e38]; exact (lU27 _ (by omega)).trans (lU15 _)
                  have d5 : U27 190 (U15 103 m 14) (-2) = T 190 (T 103 m 14) (-2) := by rw [show U15 103 m 14 = T 103 m 14 by omega]; exact (lU27 _ (by omega)).trans (lU15 _)
                  have d2 : lh_ T U27 := ⟨fun x hx => (lU27 x (by omega)).trans (lU15 _), by omega⟩
                  have d3 : ∀ k i j, i ≠ m → k ≠ 190 → k ≠ 191 → k ≠ 106 → U27 k i j = T k i j := fun k i j a b c d => (qU27o k i j a b c).trans (fU15 k i j (by simp [fw_, b]))
                  have d4 : Lp_ (N + 1) U27 m := ⟨⟨by omega, by omega, by omega, by omega, by omega, by omega, by omega, by omega, by omega⟩, by rw [d1]; exact b1, zU27, qU27⟩
                  exact ⟨_, rfl, fr_t (fr_t (fr_0 _ _) (fr_s fU15 rfl)) (fr_s fU27 rfl), LP_q hlp (by omega) d2 d3 (by omega) (by omega) (fun _ => d4), d2, by omega⟩
                · refine (show po_X10_review T N m i k s a b T (some (vI (-20))) from ?_)
                  exact ⟨_, rfl, fr_0 _ _, LP_f (ws := []) hlp (by omega) lh_r (fr_0 _ _) ⟨rfl, rfl, rfl, rfl, rfl, rfl, rfl, rfl, rfl, rfl, rfl⟩, lh_r, by omega⟩
              · refine (show po_X10_review T N m i k s a b T (some (vI (-17))) from ?_)
                exact ⟨_, rfl, fr_0 _ _, LP_f (ws := []) hlp (by omega) lh_r (fr_0 _ _) ⟨rfl, rfl, rfl, rfl, rfl, rfl, rfl, rfl, rfl, rfl, rfl⟩, lh_r, by omega⟩
            · refine (show po_X10_review T N m i k s a b T (some (vI (-12))) from ?_)
              exact ⟨_, rfl, fr_0 _ _, LP_f (ws := []) hlp (by omega) lh_r (fr_0 _ _) ⟨rfl, rfl, rfl, rfl, rfl, rfl, rfl, rfl, rfl, rfl, rfl⟩, lh_r, by omega⟩
          · refine hK 53 [some (vR 110 0), some (vI m), some (vI i), some (vI k), some (vI s), some (vI a), some (vI b), some (vR 103 m)] [vI i, vR 103 m] T ?_
            refine j_callV (y := yX3_takeOut) (Yc := zX3_takeOut) (rest := []) [vI i] (ct_X3_takeOut (T := T) (by omega)) cl_X10_298 (qd_c (by decide +kernel)) (by decide) rfl (by decide +kernel) (Nat.le_of_ble_eq_true rfl) (by decide) (by decide) rfl ?_
            rintro U39 _ ⟨rfl, fU39, qU39o, nU39, lU39⟩
            show J_ zX10_review T (po_X10_review T N m i k s a b) 127 4064 56 [some (vR 110 0), some (vI m), some (vI i), some (vI k), some (vI s), some (vI a), some (vI b), some (vR 103 m)] [] U39
            refine j_blx (F := fX10) tb_X10 (by decide) bk_X10_review_56 bs_X10_review_56 hz (fun K hK => ?_)
            refine hK 58 [some (vR 110 0), some (vI m), some (vI i), some (vI k), some (vI s), some (vI a), some (vI b), some (vR 103 m)] [vR 103 m] U39 ?_
            have e41 : U39 103 m 0 = T 103 m 0 := fU39 103 m 0 rfl
            have e42 : U39 401 (T 103 m 0) 9 = T 401 (T 103 m 0) 9 := fU39 401 (T 103 m 0) 9 rfl
            have r43 : U39 401 (U39 103 m 0) 9 = T 401 (T 103 m 0) 9 := by rw [e41]; exact e42
            have e44 : U39 103 m 17 = T 103 m 17 := fU39 103 m 17 rfl
            have e45 : U39 103 m 14 = T 103 m 14 := fU39 103 m 14 rfl
            have e46 : U39 103 m 16 = T 103 m 16 := fU39 103 m 16 rfl
            have e47 : U39 191 0 0 = T 191 0 0 := fU39 191 0 0 rfl
            have e48 : U39 103 m 14 = T 103 m 14 := fU39 103 m 14 rfl
            have w1 : U39 190 (U39 103 m 14) (-2) = T 190 (T 103 m 14) (-2) := by rw [e48]; exact lU39 _
            have e49 : U39 103 m 16 = T 103 m 16 := fU39 103 m 16 rfl
            have w2 : U39 190 (U39 103 m 16) (-2) = T 190 (T 103 m 16) (-2) := by rw [e49]; exact lU39 _
            refine j_callV (y := yX3_runAnew) (Yc := zX3_runAnew) (rest := []) [] (ct_X3_runAnew (T := U39) (by omega) (by omega) (by omega) (by rw [w2]; exact b2) (by omega)) cl_X10_302 (qd_c (by decide +kernel)) (by decide) rfl (by decide +kernel) (Nat.le_of_ble_eq_true rfl) (by decide) (by decide) rfl ?_
            rintro U50 _ ⟨x51, rfl, fU50, qU50o, lU50, nU50, mU50, zU50, kU50, qU50⟩
            show J_ zX10_review T (po_X10_review T N m i k s a b) 0 0 61 [some (vR 110 0), some (vI m), some (vI i), some (vI k), some (vI s), some (vI a), some (vI b), some (vR 103 m)] [vI x51] U50
            refine j_blx (F := fX10) tb_X10 (by decide) bk_X10_review_61 bs_X10_review_61 hz (fun K hK => ?_)
            refine (show po_X10_review T N m i k s a b U50 (some (vI x51)) from ?_)
            have e52 : U50 103 m 0 = T 103 m 0 := (fU50 103 m 0 rfl).trans (fU39 103 m 0 rfl)
            have e53 : U50 103 m 14 = T 103 m 14 := (fU50 103 m 14 rfl).trans (fU39 103 m 14 rfl)
            have e54 : U39 103 m 17 = T 103 m 17 := fU39 103 m 17 rfl
            have e55 : U39 103 m 14 = T 103 m 14 := fU39 103 m 14 rfl
            have e56 : U39 103 m 16 = T 103 m 16 := fU39 103 m 16 rfl
            have e57 : U50 106 0 4 = T 106 0 4 := (fU50 106 0 4 rfl).trans (fU39 106 0 4 rfl)
            have e58 : U50 106 0 2 = T 106 0 2 := (fU50 106 0 2 rfl).trans (fU39 106 0 2 rfl)
            have e59 : U39 191 0 0 = T 191 0 0 := fU39 191 0 0 rfl
            have e60 : U50 103 m 14 = T 103 m 14 := (fU50 103 m 14 rfl).trans (fU39 103 m 14 rfl)
            have d0 : U50 103 m 14 = U39 103 m 14 := fU50 103 m 14 rfl
            have d1 : U50 190 (U50 103 m 14) (-2) = T 190 (T 103 m 14) (-2) := by rw [e60]; exact (lU50 _ (by omega)).trans (lU39 _)
            have d5 : U50 190 (U39 103 m 14) (-2) = T 190 (T 103 m 14) (-2) := by rw [show U39 103 m 14 = T 103 m 14 by omega]; exact (lU50 _ (by omega)).trans (lU39 _)
            have d2 : lh_ T U50 := ⟨fun x hx => (lU50 x (by omega)).trans (lU39 _), by omega⟩
            have d3 : ∀ k i j, i ≠ m → k ≠ 190 → k ≠ 191 → k ≠ 106 → U50 k i j = T k i j := fun k i j a b c d => (qU50o k i j a b c).trans (qU39o k i j a b c)
            have d4 : Lp_ (N + 1) U50 m := ⟨⟨by omega, by omega, by omega, by omega, by omega, by omega, by omega, by omega, by omega⟩, by rw [d1]; exact b1, zU50, qU50⟩
            exact ⟨_, rfl, fr_t (fr_t (fr_0 _ _) (fr_s fU39 rfl)) (fr_s fU50 rfl), LP_q hlp (by omega) d2 d3 (by omega) (by omega) (fun _ => d4), d2, by omega⟩
        · refine (show po_X10_review T N m i k s a b T (some (vI (-2))) from ?_)
          exact ⟨_, rfl, fr_0 _ _, LP_f (ws := []) hlp (by omega) lh_r (fr_0 _ _) ⟨rfl, rfl, rfl, rfl, rfl, rfl, rfl, rfl, rfl, rfl, rfl⟩, lh_r, by omega⟩
  · refine (show po_X10_review T N m i k s a b T (some (vI (-2))) from ?_)
    exact ⟨_, rfl, fr_0 _ _, LP_f (ws := []) hlp (by omega) lh_r (fr_0 _ _) ⟨rfl, rfl, rfl, rfl, rfl, rfl, rfl, rfl, rfl, rfl, rfl⟩, lh_r, by omega⟩
abbrev cX10_row : ByteArray := prog_1_method_26_code
def yX10_row : MethodName := ⟨RX10, "row", "(III)I"⟩
def zX10_row : Zm := (RX10, cX10_row, 7, (some .int), { frames := 2, cells := 0, slots := 0, locals := 42 })
theorem bk_X10_row_0 : ck_ fX10 (some .int) cX10_row 0 [.aload 0, .iload 1] 2 = true := qck_r (by decide) (by decide +kernel)
theorem bs_X10_row_0 {P : Zt → Option Zv → Prop} (K : Int → Zl → List Zv → Zt → Prop) : sx_ K P [.aload 0, .iload 1] 2 = x_aload 0 (x_iload 1 (K 2)) := ((xe_aload 0).trans (congrArg (x_aload 0) ((xe_iload 1).trans (congrArg (x_iload 1) xe_nil))))
theorem bk_X10_row_5 : ck_ fX10 (some .int) cX10_row 5 [.ifCond .ne 11, .iconst (-2), .ireturn] 11 = true := qck_r (by decide) (by decide +kernel)
theorem bs_X10_row_5 {P : Zt → Option Zv → Prop} (K : Int → Zl → List Zv → Zt → Prop) : sx_ K P [.ifCond .ne 11, .iconst (-2), .ireturn] 11 = x_ifCond .ne 11 K (x_iconst (-2) (x_ireturn P)) := ((xe_ifCond .ne 11).trans (congrArg (x_ifCond .ne 11 K) ((xe_iconst (-2)).trans (congrArg (x_iconst (-2)) (xe_ireturn)))))
theorem bk_X10_row_11 : ck_ fX10 (some .int) cX10_row 11 [.aload 0, .tableswitch 0 10 2 #[], .tableswitch 0 6 3 #[], .iload 1, .aaload, .tableswitch 0 2 10 #[], .astore 4, .aload 4, .ifnonnull 33, .iconst (-2), .ireturn] 33 = true := qck_r (by decide) (by decide +kernel)
theorem bs_X10_row_11 {P : Zt → Option Zv → Prop} (K : Int → Zl → List Zv → Zt → Prop) : sx_ K P [.aload 0, .tableswitch 0 10 2 #[], .tableswitch 0 6 3 #[], .iload 1, .aaload, .tableswitch 0 2 10 #[], .astore 4, .aload 4, .ifnonnull 33, .iconst (-2), .ireturn] 33 = x_aload 0 (x_g1 110 106 (x_g1 106 523 (x_iload 1 (x_aaload (x_g4 102 103 10 (x_astore 4 (x_aload 4 (x_ifnonnull 33 K (x_iconst (-2) (x_ireturn P)))))))))) := ((xe_aload 0).trans (congrArg (x_aload 0) ((xe_g1 (kk := 110) rfl tl_10_2).trans (congrArg (x_g1 110 106) ((xe_g1 (kk := 106) rfl tl_6_3).trans (congrArg (x_g1 106 523) ((xe_iload 1).trans (congrArg (x_iload 1) ((xe_aaload).trans (congrArg (x_aaload) ((xe_g4 (kk := 102) rfl tl_2_10).trans (congrArg (x_g4 102 103 10) ((xe_astore 4).trans (congrArg (x_astore 4) ((xe_aload 4).trans (congrArg (x_aload 4) ((xe_ifnonnull 33).trans (congrArg (x_ifnonnull 33 K) ((xe_iconst (-2)).trans (congrArg (x_iconst (-2)) (xe_ireturn)))))))))))))))))))))
theorem bk_X10_row_33 : ck_ fX10 (some .int) cX10_row 33 [.iload 2, .aload 4, .tableswitch 0 3 15 #[]] 39 = true := qck_r (by decide) (by decide +kernel)
theorem bs_X10_row_33 {P : Zt → Option Zv → Prop} (K : Int → Zl → List Zv → Zt → Prop) : sx_ K P [.iload 2, .aload 4, .tableswitch 0 3 15 #[]] 39 = x_iload 2 (x_aload 4 (x_g0 103 15 0 3000 (K 39))) := ((xe_iload 2).trans (congrArg (x_iload 2) ((xe_aload 4).trans (congrArg (x_aload 4) ((xe_g0 (kk := 103) rfl tl_3_15).trans (congrArg (x_g0 103 15 0 3000) xe_nil))))))
theorem bk_X10_row_42 : ck_ fX10 (some .int) cX10_row 42 [.istore 5, .iload 2, .aload 4, .tableswitch 0 3 17 #[]] 50 = true := qck_r (by decide) (by decide +kernel)
theorem bs_X10_row_42 {P : Zt → Option Zv → Prop} (K : Int → Zl → List Zv → Zt → Prop) : sx_ K P [.istore 5, .iload 2, .aload 4, .tableswitch 0 3 17 #[]] 50 = x_istore 5 (x_iload 2 (x_aload 4 (x_g0 103 17 0 3000 (K 50)))) := ((xe_istore 5).trans (congrArg (x_istore 5) ((xe_iload 2).trans (congrArg (x_iload 2) ((xe_aload 4).trans (congrArg (x_aload 4) ((xe_g0 (kk := 103) rfl tl_3_17).trans (congrArg (x_g0 103 17 0 3000) xe_nil))))))))
theorem bk_X10_row_53 : ck_ fX10 (some .int) cX10_row 53 [.istore 6, .iload 3, .ifCond .lt 65, .iload 3, .iconst 7, .if_icmp .le 83, .iload 5, .ifCond .ne 75, .iload 6, .ifCond .eq 80, .iconst (-3), .goto 82] 80 = true := qck_r (by decide) (by decide +kernel)
theorem bs_X10_row_53 {P : Zt → Option Zv → Prop} (K : Int → Zl → List Zv → Zt → Prop) : sx_ K P [.istore 6, .iload 3, .ifCond .lt 65, .iload 3, .iconst 7, .if_icmp .le 83, .iload 5, .ifCond .ne 75, .iload 6, .ifCond .eq 80, .iconst (-3), .goto 82] 80 = x_istore 6 (x_iload 3 (x_ifCond .lt 65 K (x_iload 3 (x_iconst 7 (x_if_icmp .le 83 K (x_iload 5 (x_ifCond .ne 75 K (x_iload 6 (x_ifCond .eq 80 K (x_iconst (-3) (x_goto 82 K))))))))))) := ((xe_istore 6).trans (congrArg (x_istore 6) ((xe_iload 3).trans (congrArg (x_iload 3) ((xe_ifCond .lt 65).trans (congrArg (x_ifCond .lt 65 K) ((xe_iload 3).trans (congrArg (x_iload 3) ((xe_iconst 7).trans (congrArg (x_iconst 7) ((xe_if_icmp .le 83).trans (congrArg (x_if_icmp .le 83 K) ((xe_iload 5).trans (congrArg (x_iload 5) ((xe_ifCond .ne 75).trans (congrArg (x_ifCond .ne 75 K) ((xe_iload 6).trans (congrArg (x_iload 6) ((xe_ifCond .eq 80).trans (congrArg (x_ifCond .eq 80 K) ((xe_iconst (-3)).trans (congrArg (x_iconst (-3)) (xe_goto 82)))))))))))))))))))))))
theorem bk_X10_row_65 : ck_ fX10 (some .int) cX10_row 65 [.iload 5, .ifCond .ne 75, .iload 6, .ifCond .eq 80, .iconst (-3), .goto 82] 80 = true := qck_r (by decide) (by decide +kernel)
theorem bs_X10_row_65 {P : Zt → Option Zv → Prop} (K : Int → Zl → List Zv → Zt → Prop) : sx_ K P [.iload 5, .ifCond .ne 75, .iload 6, .ifCond .eq 80, .iconst (-3), .goto 82] 80 = x_iload 5 (x_ifCond .ne 75 K (x_iload 6 (x_ifCond .eq 80 K (x_iconst (-3) (x_goto 82 K))))) := ((xe_iload 5).trans (congrArg (x_iload 5) ((xe_ifCond .ne 75).trans (congrArg (x_ifCond .ne 75 K) ((xe_iload 6).trans (congrArg (x_iload 6) ((xe_ifCond .eq 80).trans (congrArg (x_ifCond .eq 80 K) ((xe_iconst (-3)).trans (congrArg (x_iconst (-3)) (xe_goto 82)))))))))))
theorem bk_X10_row_75 : ck_ fX10 (some .int) cX10_row 75 [.iconst (-3), .goto 82] 80 = true := qck_r (by decide) (by decide +kernel)
theorem bs_X10_row_75 {P : Zt → Option Zv → Prop} (K : Int → Zl → List Zv → Zt → Prop) : sx_ K P [.iconst (-3), .goto 82] 80 = x_iconst (-3) (x_goto 82 K) := ((xe_iconst (-3)).trans (congrArg (x_iconst (-3)) (xe_goto 82)))
theorem bk_X10_row_82 : ck_ fX10 (some .int) cX10_row 82 [.ireturn] 83 = true := qck_r (by decide) (by decide +kernel)
theorem bs_X10_row_82 {P : Zt → Option Zv → Prop} (K : Int → Zl → List Zv → Zt → Prop) : sx_ K P [.ireturn] 83 = x_ireturn P := (xe_ireturn)
theorem bk_X10_row_80 : ck_ fX10 (some .int) cX10_row 80 [.iconst (-2), .ireturn] 83 = true := qck_r (by decide) (by decide +kernel)
theorem bs_X10_row_80 {P : Zt → Option Zv → Prop} (K : Int → Zl → List Zv → Zt → Prop) : sx_ K P [.iconst (-2), .ireturn] 83 = x_iconst (-2) (x_ireturn P) := ((xe_iconst (-2)).trans (congrArg (x_iconst (-2)) (xe_ireturn)))
theorem bk_X10_row_83 : ck_ fX10 (some .int) cX10_row 83 [.iload 3, .iconst 4, .if_icmp .ge 110, .iload 5, .ifCond .eq 107, .aload 4, .tableswitch 0 3 14 #[], .iload 2, .iconst 4, .imul, .iload 3, .iadd, .iaload, .goto 109] 107 = true := qck_r (by decide) (by decide +kernel)
theorem bs_X10_row_83 {P : Zt → Option Zv → Prop} (K : Int → Zl → List Zv → Zt → Prop) : sx_ K P [.iload 3, .iconst 4, .if_icmp .ge 110, .iload 5, .ifCond .eq 107, .aload 4, .tableswitch 0 3 14 #[], .iload 2, .iconst 4, .imul, .iload 3, .iadd, .iaload, .goto 109] 107 = x_iload 3 (x_iconst 4 (x_if_icmp .ge 110 K (x_iload 5 (x_ifCond .eq 107 K (x_aload 4 (x_g3 103 190 14 (x_iload 2 (x_iconst 4 (x_imul (x_iload 3 (x_iadd (x_iaload (x_goto 109 K))))))))))))) := ((xe_iload 3).trans (congrArg (x_iload 3) ((xe_iconst 4).trans (congrArg (x_iconst 4) ((xe_if_icmp .ge 110).trans (congrArg (x_if_icmp .ge 110 K) ((xe_iload 5).trans (congrArg (x_iload 5) ((xe_ifCond .eq 107).trans (congrArg (x_ifCond .eq 107 K) ((xe_aload 4).trans (congrArg (x_aload 4) ((xe_g3 (kk := 103) rfl tl_3_14).trans (congrArg (x_g3 103 190 14) ((xe_iload 2).trans (congrArg (x_iload 2) ((xe_iconst 4).trans (congrArg (x_iconst 4) ((xe_imul).trans (congrArg (x_imul) ((xe_iload 3).trans (congrArg (x_iload 3) ((xe_iadd).trans (congrArg (x_iadd) ((xe_iaload).trans (congrArg (x_iaload) (xe_goto 109)))))))))))))))))))))))))))
theorem bk_X10_row_110 : ck_ fX10 (some .int) cX10_row 110 [.iload 6, .ifCond .eq 131, .aload 4, .tableswitch 0 3 16 #[], .iload 2, .iconst 4, .imul, .iload 3, .iadd, .iconst 4, .isub, .iaload, .goto 133] 131 = true := qck_r (by decide) (by decide +kernel)
theorem bs_X10_row_110 {P : Zt → Option Zv → Prop} (K : Int → Zl → List Zv → Zt → Prop) : sx_ K P [.iload 6, .ifCond .eq 131, .aload 4, .tableswitch 0 3 16 #[], .iload 2, .iconst 4, .imul, .iload 3, .iadd, .iconst 4, .isub, .iaload, .goto 133] 131 = x_iload 6 (x_ifCond .eq 131 K (x_aload 4 (x_g3 103 190 16 (x_iload 2 (x_iconst 4 (x_imul (x_iload 3 (x_iadd (x_iconst 4 (x_isub (x_iaload (x_goto 133 K)))))))))))) := ((xe_iload 6).trans (congrArg (x_iload 6) ((xe_ifCond .eq 131).trans (congrArg (x_ifCond .eq 131 K) ((xe_aload 4).trans (congrArg (x_aload 4) ((xe_g3 (kk := 103) rfl tl_3_16).trans (congrArg (x_g3 103 190 16) ((xe_iload 2).trans (congrArg (x_iload 2) ((xe_iconst 4).trans (congrArg (x_iconst 4) ((xe_imul).trans (congrArg (x_imul) ((xe_iload 3).trans (congrArg (x_iload 3) ((xe_iadd).trans (congrArg (x_iadd) ((xe_iconst 4).trans (congrArg (x_iconst 4) ((xe_isub).trans (congrArg (x_isub) ((xe_iaload).trans (congrArg (x_iaload) (xe_goto 133)))))))))))))))))))))))))
theorem bk_X10_row_131 : ck_ fX10 (some .int) cX10_row 131 [.iconst (-2), .ireturn] 134 = true := qck_r (by decide) (by decide +kernel)
theorem bs_X10_row_131 {P : Zt → Option Zv → Prop} (K : Int → Zl → List Zv → Zt → Prop) : sx_ K P [.iconst (-2), .ireturn] 134 = x_iconst (-2) (x_ireturn P) := ((xe_iconst (-2)).trans (congrArg (x_iconst (-2)) (xe_ireturn)))
theorem bk_X10_row_133 : ck_ fX10 (some .int) cX10_row 133 [.ireturn] 134 = true := qck_r (by decide) (by decide +kernel)
theorem bs_X10_row_133 {P : Zt → Option Zv → Prop} (K : Int → Zl → List Zv → Zt → Prop) : sx_ K P [.ireturn] 134 = x_ireturn P := (xe_ireturn)
theorem bk_X10_row_107 : ck_ fX10 (some .int) cX10_row 107 [.iconst (-2), .ireturn] 110 = true := qck_r (by decide) (by decide +kernel)
theorem bs_X10_row_107 {P : Zt → Option Zv → Prop} (K : Int → Zl → List Zv → Zt → Prop) : sx_ K P [.iconst (-2), .ireturn] 110 = x_iconst (-2) (x_ireturn P) := ((xe_iconst (-2)).trans (congrArg (x_iconst (-2)) (xe_ireturn)))
theorem bk_X10_row_109 : ck_ fX10 (some .int) cX10_row 109 [.ireturn] 110 = true := qck_r (by decide) (by decide +kernel)
theorem bs_X10_row_109 {P : Zt → Option Zv → Prop} (K : Int → Zl → List Zv → Zt → Prop) : sx_ K P [.ireturn] 110 = x_ireturn P := (xe_ireturn)
abbrev po_X10_row (T : Zt) (N : Int) (m i w : Int) : Zt → Option Zv → Prop := fun T' r => T = T' ∧ ∃ x : Int, r = some (vI x) ∧ (True)
set_option maxHeartbeats 4000000 in
theorem ct_X10_row {T : Zt} {N : Int} {m i w : Int} (hka : KA_ T) (hkm : KM_ T) (hkr : KR_ T) (hlp : LP_ N T) (hN : 0 ≤ N ∧ N ≤ 511) (h9 : 0 ≤ T 191 0 0 ∧ T 191 0 0 ≤ 900000000) : Ct_ yX10_row zX10_row T [vR 110 0, vI m, vI i, vI w] (po_X10_row T N m i w) := by
  refine ct_of (by decide) rfl rfl (Nat.le_of_ble_eq_true rfl) (fun hT hav => ?_)
  have hr_m : -2147483648 ≤ m ∧ m ≤ 2147483647 := hav (vI m) (by simp)
  have hr_i : -2147483648 ≤ i ∧ i ≤ 2147483647 := hav (vI i) (by simp)
  have hr_w : -2147483648 ≤ w ∧ w ≤ 2147483647 := hav (vI w) (by simp)
  have hz : zX10_row.2.2.2.1 = some .boolean → ∀ (T' : Zt) (x : Int), po_X10_row T N m i w T' (some (vI x)) → 0 ≤ x ∧ x ≤ 1 := fun h => by cases h
  have hb_matchCount : 0 ≤ T 106 0 4 ∧ T 106 0 4 ≤ 400 := bd_f hT 106 4 (by decide +kernel : (tf_ 106)[4]? = some (0, 0, 0, 400)) 0
  show J_ zX10_row T (po_X10_row T N m i w) 0 0 0 [some (vR 110 0), some (vI m), some (vI i), some (vI w), none, none, none] [] T
  refine j_blx (F := fX10) tb_X10 (by decide) bk_X10_row_0 bs_X10_row_0 hz (fun K hK => ?_)
  refine hK 2 [some (vR 110 0), some (vI m), some (vI i), some (vI w), none, none, none] [vI m, vR 110 0] T ?_
  refine j_callV (y := yX10_isMatch) (Yc := zX10_isMatch) (rest := []) [vI m] (ct_X10_isMatch (T := T)) cl_X10_195 (qd_c (by decide +kernel)) (by decide) rfl (by decide +kernel) (Nat.le_of_ble_eq_true rfl) (by decide) (by decide) rfl ?_
  rintro _ _ ⟨rfl, x1, rfl, hx1⟩
  show J_ zX10_row T (po_X10_row T N m i w) 0 0 5 [some (vR 110 0), some (vI m), some (vI i), some (vI w), none, none, none] [vI x1] T
  refine j_blx (F := fX10) tb_X10 (by decide) bk_X10_row_5 bs_X10_row_5 hz (fun K hK => ?_)
  refine And.intro (fun c2 => ?_) (fun c2 => ?_)
  · refine hK 11 [some (vR 110 0), some (vI m), some (vI i), some (vI w), none, none, none] [] T ?_
    refine j_blx (F := fX10) tb_X10 (by decide) bk_X10_row_11 bs_X10_row_11 hz (fun K hK => ?_)
    refine ix_i (by omega) ?_
    refine And.intro (fun c3 => ?_) (fun c3 => ?_)
    · exact absurd (show T 523 0 (m) = 0 by omega) (hka.2 _ (by omega) (by omega))
    · refine And.intro (fun c4 => ?_) (fun c4 => ?_)
      · refine (show po_X10_row T N m i w T (some (vI (-2))) from ?_)
        exact ⟨rfl, _, rfl, by trivial⟩
      · have hl := hlp m (by omega) (by omega) (by omega)
        obtain ⟨⟨a1, a2, a3, a4, a5, a6, a7, a8, a9⟩, b1, b2, b3⟩ := hl
        have hr := hkr _ a8 a9
        have z1 := lz_b b1
        have z2 := lz_b b2
        have g14 : (-2147483648) ≤ T 103 m 14 ∧ T 103 m 14 ≤ 2147483647 := bd_f hT 103 14 (by decide +kernel : (tf_ 103)[14]? = some (3, 190, (-2147483648), 2147483647)) m
        have g16 : (-2147483648) ≤ T 103 m 16 ∧ T 103 m 16 ≤ 2147483647 := bd_f hT 103 16 (by decide +kernel : (tf_ 103)[16]? = some (3, 190, (-2147483648), 2147483647)) m
        refine hK 33 [some (vR 110 0), some (vI m), some (vI i), some (vI w), some (vR 103 m), none, none] [] T ?_
        refine j_blx (F := fX10) tb_X10 (by decide) bk_X10_row_33 bs_X10_row_33 hz (fun K hK => ?_)
        intro b5 b5b
        refine hK 39 [some (vR 110 0), some (vI m), some (vI i), some (vI w), some (vR 103 m), none, none] [vI (T 103 m 15), vI i] T ?_
        refine j_callS (y := yX10_isBelow) (Yc := zX10_isBelow) (rest := []) [vI i, vI (T 103 m 15)] (ct_X10_isBelow (T := T)) cl_X10_115 (qd_c (by decide +kernel)) (by decide) rfl (by decide +kernel) (Nat.le_of_ble_eq_true rfl) (by decide) (by decide) rfl ?_
        rintro _ _ ⟨rfl, x6, rfl, hx6⟩
        show J_ zX10_row T (po_X10_row T N m i w) 0 0 42 [some (vR 110 0), some (vI m), some (vI i), some (vI w), some (vR 103 m), none, none] [vI x6] T
        refine j_blx (F := fX10) tb_X10 (by decide) bk_X10_row_42 bs_X10_row_42 hz (fun K hK => ?_)
        intro b7 b7b
        refine hK 50 [some (vR 110 0), some (vI m), some (vI i), some (vI w), some (vR 103 m), some (vI x6), none] [vI (T 103 m 17), vI i] T ?_
        refine j_callS (y := yX10_isBelow) (Yc := zX10_isBelow) (rest := []) [vI i, vI (T 103 m 17)] (ct_X10_isBelow (T := T)) cl_X10_115 (qd_c (by decide +kernel)) (by decide) rfl (by decide +kernel) (Nat.le_of_ble_eq_true rfl) (by decide) (by decide) rfl ?_
        rintro _ _ ⟨rfl, x8, rfl, hx8⟩
        show J_ zX10_row T (po_X10_row T N m i w) 0 0 53 [some (vR 110 0), some (vI m), some (vI i), some (vI w), some (vR 103 m), some (vI x6), none] [vI x8] T
        refine j_blx (F := fX10) tb_X10 (by decide) bk_X10_row_53 bs_X10_row_53 hz (fun K hK => ?_)
        refine And.intro (fun c9 => ?_) (fun c9 => ?_)
        · refine hK 65 [some (vR 110 0), some (vI m), some (vI i), some (vI w), some (vR 103 m), some (vI x6), some (vI x8)] [] T ?_
          refine j_blx (F := fX10) tb_X10 (by decide) bk_X10_row_65 bs_X10_row_65 hz (fun K hK => ?_)
          refine And.intro (fun c10 => ?_) (fun c10 => ?_)
          · refine hK 75 [some (vR 110 0), some (vI m), some (vI i), some (vI w), some (vR 103 m), some (vI x6), some (vI x8)] [] T ?_
            refine j_blx (F := fX10) tb_X10 (by decide) bk_X10_row_75 bs_X10_row_75 hz (fun K hK => ?_)
            refine hK 82 [some (vR 110 0), some (vI m), some (vI i), some (vI w), some (vR 103 m), some (vI x6), some (vI x8)] [vI (-3)] T ?_
            refine j_blx (F := fX10) tb_X10 (by decide) bk_X10_row_82 bs_X10_row_82 hz (fun K hK => ?_)
            refine (show po_X10_row T N m i w T (some (vI (-3))) from ?_)
            exact ⟨rfl, _, rfl, by trivial⟩
          · refine And.intro (fun c11 => ?_) (fun c11 => ?_)
            · refine hK 80 [some (vR 110 0), some (vI m), some (vI i), some (vI w), some (vR 103 m), some (vI x6), some (vI x8)] [] T ?_
              refine j_blx (F := fX10) tb_X10 (by decide) bk_X10_row_80 bs_X10_row_80 hz (fun K hK => ?_)
              refine (show po_X10_row T N m i w T (some (vI (-2))) from ?_)
              exact ⟨rfl, _, rfl, by trivial⟩
            · refine hK 82 [some (vR 110 0), some (vI m), some (vI i), some (vI w), some (vR 103 m), some (vI x6), some (vI x8)] [vI (-3)] T ?_
              refine j_blx (F := fX10) tb_X10 (by decide) bk_X10_row_82 bs_X10_row_82 hz (fun K hK => ?_)
              refine (show po_X10_row T N m i w T (some (vI (-3))) from ?_)
              exact ⟨rfl, _, rfl, by trivial⟩
        · refine And.intro (fun c12 => ?_) (fun c12 => ?_)
          · refine hK 83 [some (vR 110 0), some (vI m), some (vI i), some (vI w), some (vR 103 m), some (vI x6), some (vI x8)] [] T ?_
            refine j_blx (F := fX10) tb_X10 (by decide) bk_X10_row_83 bs_X10_row_83 hz (fun K hK => ?_)
            refine And.intro (fun c13 => ?_) (fun c13 => ?_)
            · refine hK 110 [some (vR 110 0), some (vI m), some (vI i), some (vI w), some (vR 103 m), some (vI x6), some (vI x8)] [] T ?_
              refine j_blx (F := fX10) tb_X10 (by decide) bk_X10_row_110 bs_X10_row_110 hz (fun K hK => ?_)
              refine And.intro (fun c14 => ?_) (fun c14 => ?_)
              · refine hK 131 [some (vR 110 0), some (vI m), some (vI i), some (vI w), some (vR 103 m), some (vI x6), some (vI x8)] [] T ?_
                refine j_blx (F := fX10) tb_X10 (by decide) bk_X10_row_131 bs_X10_row_131 hz (fun K hK => ?_)
                refine (show po_X10_row T N m i w T (some (vI (-2))) from ?_)
                exact ⟨rfl, _, rfl, by trivial⟩
              · refine rg_i (by omega) ?_
                refine rg_i (by omega) ?_
                refine rg_i (by omega) ?_
                refine ix_i (by omega) ?_
                intro b16 b16b
                refine hK 133 [some (vR 110 0), some (vI m), some (vI i), some (vI w), some (vR 103 m), some (vI x6), some (vI x8)] [vI (T 190 (T 103 m 16) (((i * 4) + w) - 4))] T ?_
                refine j_blx (F := fX10) tb_X10 (by decide) bk_X10_row_133 bs_X10_row_133 hz (fun K hK => ?_)
                refine (show po_X10_row T N m i w T (some (vI (T 190 (T 103 m 16) (((i * 4) + w) - 4)))) from ?_)
                exact ⟨rfl, _, rfl, by trivial⟩
            · refine And.intro (fun c17 => ?_) (fun c17 => ?_)
              · refine hK 107 [some (vR 110 0), some (vI m), some (vI i), some (vI w), some (vR 103 m), some (vI x6), some (vI x8)] [] T ?_
                refine j_blx (F := fX10) tb_X10 (by decide) bk_X10_row_107 bs_X10_row_107 hz (fun K hK => ?_)
                refine (show po_X10_row T N m i w T (some (vI (-2))) from ?_)
                exact ⟨rfl, _, rfl, by trivial⟩
              · refine rg_i (by omega) ?_
                refine rg_i (by omega) ?_
                refine ix_i (by omega) ?_
                intro b19 b19b
                refine hK 109 [some (vR 110 0), some (vI m), some (vI i), some (vI w), some (vR 103 m), some (vI x6), some (vI x8)] [vI (T 190 (T 103 m 14) ((i * 4) + w))] T ?_
                refine j_blx (F := fX10) tb_X10 (by decide) bk_X10_row_109 bs_X10_row_109 hz (fun K hK => ?_)
                refine (show po_X10_row T N m i w T (some (vI (T 190 (T 103 m 14) ((i * 4) + w)))) from ?_)
                exact ⟨rfl, _, rfl, by trivial⟩
          · refine And.intro (fun c20 => ?_) (fun c20 => ?_)
            · refine hK 75 [some (vR 110 0), some (vI m), some (vI i), some (vI w), some (vR 103 m), some (vI x6), some (vI x8)] [] T ?_
              refine j_blx (F := fX10) tb_X10 (by decide) bk_X10_row_75 bs_X10_row_75 hz (fun K hK => ?_)
              refine hK 82 [some (vR 110 0), some (vI m), some (vI i), some (vI w), some (vR 103 m), some (vI x6), some (vI x8)] [vI (-3)] T ?_
              refine j_blx (F := fX10) tb_X10 (by decide) bk_X10_row_82 bs_X10_row_82 hz (fun K hK => ?_)
              refine (show po_X10_row T N m i w T (some (vI (-3))) from ?_)
              exact ⟨rfl, _, rfl, by trivial⟩
            · refine And.intro (fun c21 => ?_) (fun c21 => ?_)
              · refine hK 80 [some (vR 110 0), some (vI m), some (vI i), some (vI w), some (vR 103 m), some (vI x6), some (vI x8)] [] T ?_
                refine j_blx (F := fX10) tb_X10 (by decide) bk_X10_row_80 bs_X10_row_80 hz (fun K hK => ?_)
                refine (show po_X10_row T N m i w T (some (vI (-2))) from ?_)
                exact ⟨rfl, _, rfl, by trivial⟩
              · refine hK 82 [some (vR 110 0), some (vI m), some (vI i), some (vI w), some (vR 103 m), some (vI x6), some (vI x8)] [vI (-3)] T ?_
                refine j_blx (F := fX10) tb_X10 (by decide) bk_X10_row_82 bs_X10_row_82 hz (fun K hK => ?_)
                refine (show po_X10_row T N m i w T (some (vI (-3))) from ?_)
                exact ⟨rfl, _, rfl, by trivial⟩
  · refine (show po_X10_row T N m i w T (some (vI (-2))) from ?_)
    exact ⟨rfl, _, rfl, by trivial⟩

