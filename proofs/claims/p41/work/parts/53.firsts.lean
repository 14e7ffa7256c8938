abbrev cX9_countFirsts : ByteArray := prog_11_method_17_code
def yX9_countFirsts : MethodName := ⟨RX9, "countFirsts", "(LSportsHouse$Competition;I)I"⟩
def zX9_countFirsts : Zm := (RX9, cX9_countFirsts, 7, (some .int), { frames := 6, cells := 0, slots := 0, locals := 153 })
theorem bk_X9_countFirsts_92 : ck_ fX9 (some .int) cX9_countFirsts 92 [.iload 6, .iload 4, .if_icmp .ge 119, .aload 0, .iload 6, .iload 3, .iload 2] 104 = true := qck_r (by decide) (by decide +kernel)
theorem bs_X9_countFirsts_92 {P : Zt → Option Zv → Prop} (K : Int → Zl → List Zv → Zt → Prop) : sx_ K P [.iload 6, .iload 4, .if_icmp .ge 119, .aload 0, .iload 6, .iload 3, .iload 2] 104 = x_iload 6 (x_iload 4 (x_if_icmp .ge 119 K (x_aload 0 (x_iload 6 (x_iload 3 (x_iload 2 (K 104))))))) := ((xe_iload 6).trans (congrArg (x_iload 6) ((xe_iload 4).trans (congrArg (x_iload 4) ((xe_if_icmp .ge 119).trans (congrArg (x_if_icmp .ge 119 K) ((xe_aload 0).trans (congrArg (x_aload 0) ((xe_iload 6).trans (congrArg (x_iload 6) ((xe_iload 3).trans (congrArg (x_iload 3) ((xe_iload 2).trans (congrArg (x_iload 2) xe_nil))))))))))))))
theorem bk_X9_countFirsts_119 : ck_ fX9 (some .int) cX9_countFirsts 119 [.iload 5, .ireturn] 122 = true := qck_r (by decide) (by decide +kernel)
theorem bs_X9_countFirsts_119 {P : Zt → Option Zv → Prop} (K : Int → Zl → List Zv → Zt → Prop) : sx_ K P [.iload 5, .ireturn] 122 = x_iload 5 (x_ireturn P) := ((xe_iload 5).trans (congrArg (x_iload 5) (xe_ireturn)))
set_option maxRecDepth 100000 in
theorem cl_X9_176 : cv_ RX9 176 yX9_isFirstBy zX9_isFirstBy 9 3 := ⟨gi_V (lw_b6 115 (by decide +kernel) rfl : Cond.methodLink RX9 176 yX9_isFirstBy ∈ lw_g) (lw_b6 117 (by decide +kernel) rfl : Cond.instanceMethod yX9_isFirstBy ∈ lw_g) (lw_sel 138 rfl : Cond.selects yX9_isFirstBy.cls yX9_isFirstBy yX9_isFirstBy ∈ lw_g) (lw_b1 6 (by decide +kernel) rfl : Cond.initialized yX9_isFirstBy.cls ∈ lw_g) (lw_b6 118 rfl rfl : Cond.code yX9_isFirstBy cX9_isFirstBy 7 (some .boolean) ∈ lw_g), ⟨by decide, by decide, by decide +kernel⟩, ⟨_, _, rfl⟩⟩
theorem bk_X9_countFirsts_107 : ck_ fX9 (some .int) cX9_countFirsts 107 [.ifCond .eq 113, .iinc 5 1, .iinc 6 1, .goto 92] 119 = true := qck_r (by decide) (by decide +kernel)
theorem bs_X9_countFirsts_107 {P : Zt → Option Zv → Prop} (K : Int → Zl → List Zv → Zt → Prop) : sx_ K P [.ifCond .eq 113, .iinc 5 1, .iinc 6 1, .goto 92] 119 = x_ifCond .eq 113 K (x_iinc 5 1 (x_iinc 6 1 (x_goto 92 K))) := ((xe_ifCond .eq 113).trans (congrArg (x_ifCond .eq 113 K) ((xe_iinc 5 1).trans (congrArg (x_iinc 5 1) ((xe_iinc 6 1).trans (congrArg (x_iinc 6 1) (xe_goto 92)))))))
theorem bk_X9_countFirsts_113 : ck_ fX9 (some .int) cX9_countFirsts 113 [.iinc 6 1, .goto 92] 119 = true := qck_r (by decide) (by decide +kernel)
theorem bs_X9_countFirsts_113 {P : Zt → Option Zv → Prop} (K : Int → Zl → List Zv → Zt → Prop) : sx_ K P [.iinc 6 1, .goto 92] 119 = x_iinc 6 1 (x_goto 92 K) := ((xe_iinc 6 1).trans (congrArg (x_iinc 6 1) (xe_goto 92)))
theorem bk_X9_countFirsts_13 : ck_ fX9 (some .int) cX9_countFirsts 13 [.iload 5, .aload 0, .tableswitch 0 9 5 #[], .tableswitch 0 0 8 #[], .if_icmp .ge 86, .aload 0, .tableswitch 0 9 0 #[], .tableswitch 0 6 3 #[], .aload 0, .tableswitch 0 9 5 #[], .tableswitch 0 0 7 #[], .iload 5, .iadd, .aaload, .astore 6, .aload 6] 47 = true := qck_r (by decide) (by decide +kernel)
theorem bs_X9_countFirsts_13 {P : Zt → Option Zv → Prop} (K : Int → Zl → List Zv → Zt → Prop) : sx_ K P [.iload 5, .aload 0, .tableswitch 0 9 5 #[], .tableswitch 0 0 8 #[], .if_icmp .ge 86, .aload 0, .tableswitch 0 9 0 #[], .tableswitch 0 6 3 #[], .aload 0, .tableswitch 0 9 5 #[], .tableswitch 0 0 7 #[], .iload 5, .iadd, .aaload, .astore 6, .aload 6] 47 = x_iload 5 (x_aload 0 (x_g5 109 100 5 (x_g0 100 8 0 400 (x_if_icmp .ge 86 K (x_aload 0 (x_g1 109 106 (x_g1 106 523 (x_aload 0 (x_g5 109 100 5 (x_g0 100 7 0 400 (x_iload 5 (x_iadd (x_aaload (x_astore 6 (x_aload 6 (K 47)))))))))))))))) := ((xe_iload 5).trans (congrArg (x_iload 5) ((xe_aload 0).trans (congrArg (x_aload 0) ((xe_g5 (kk := 109) rfl tl_9_5).trans (congrArg (x_g5 109 100 5) ((xe_g0 (kk := 100) rfl tl_0_8).trans (congrArg (x_g0 100 8 0 400) ((xe_if_icmp .ge 86).trans (congrArg (x_if_icmp .ge 86 K) ((xe_aload 0).trans (congrArg (x_aload 0) ((xe_g1 (kk := 109) rfl tl_9_0).trans (congrArg (x_g1 109 106) ((xe_g1 (kk := 106) rfl tl_6_3).trans (congrArg (x_g1 106 523) ((xe_aload 0).trans (congrArg (x_aload 0) ((xe_g5 (kk := 109) rfl tl_9_5).trans (congrArg (x_g5 109 100 5) ((xe_g0 (kk := 100) rfl tl_0_7).trans (congrArg (x_g0 100 7 0 400) ((xe_iload 5).trans (congrArg (x_iload 5) ((xe_iadd).trans (congrArg (x_iadd) ((xe_aaload).trans (congrArg (x_aaload) ((xe_astore 6).trans (congrArg (x_astore 6) ((xe_aload 6).trans (congrArg (x_aload 6) xe_nil))))))))))))))))))))))))))))))))
theorem bk_X9_countFirsts_86 : ck_ fX9 (some .int) cX9_countFirsts 86 [.iconst 0, .istore 5, .iconst 0, .istore 6] 92 = true := qck_r (by decide) (by decide +kernel)
theorem bs_X9_countFirsts_86 {P : Zt → Option Zv → Prop} (K : Int → Zl → List Zv → Zt → Prop) : sx_ K P [.iconst 0, .istore 5, .iconst 0, .istore 6] 92 = x_iconst 0 (x_istore 5 (x_iconst 0 (x_istore 6 (K 92)))) := ((xe_iconst 0).trans (congrArg (x_iconst 0) ((xe_istore 5).trans (congrArg (x_istore 5) ((xe_iconst 0).trans (congrArg (x_iconst 0) ((xe_istore 6).trans (congrArg (x_istore 6) xe_nil))))))))
set_option maxRecDepth 100000 in
theorem cl_X9_109 : cv_ RX9 109 yX2_isDecided zX2_isDecided 2 0 := ⟨gi_V (lw_b6 40 (by decide +kernel) rfl : Cond.methodLink RX9 109 yX2_isDecided ∈ lw_g) (lw_b4 155 (by decide +kernel) rfl : Cond.instanceMethod yX2_isDecided ∈ lw_g) (lw_b4 156 (by decide +kernel) rfl : Cond.selects yX2_isDecided.cls yX2_isDecided yX2_isDecided ∈ lw_g) (lw_b1 16 (by decide +kernel) rfl : Cond.initialized yX2_isDecided.cls ∈ lw_g) (lw_b4 157 rfl rfl : Cond.code yX2_isDecided cX2_isDecided 1 (some .boolean) ∈ lw_g), ⟨by decide, by decide, by decide +kernel⟩, ⟨_, _, rfl⟩⟩
theorem bk_X9_countFirsts_50 : ck_ fX9 (some .int) cX9_countFirsts 50 [.ifCond .ne 80, .iload 3, .iconst 3, .if_icmp .lt 60, .iconst (-1), .ireturn] 60 = true := qck_r (by decide) (by decide +kernel)
theorem bs_X9_countFirsts_50 {P : Zt → Option Zv → Prop} (K : Int → Zl → List Zv → Zt → Prop) : sx_ K P [.ifCond .ne 80, .iload 3, .iconst 3, .if_icmp .lt 60, .iconst (-1), .ireturn] 60 = x_ifCond .ne 80 K (x_iload 3 (x_iconst 3 (x_if_icmp .lt 60 K (x_iconst (-1) (x_ireturn P))))) := ((xe_ifCond .ne 80).trans (congrArg (x_ifCond .ne 80 K) ((xe_iload 3).trans (congrArg (x_iload 3) ((xe_iconst 3).trans (congrArg (x_iconst 3) ((xe_if_icmp .lt 60).trans (congrArg (x_if_icmp .lt 60 K) ((xe_iconst (-1)).trans (congrArg (x_iconst (-1)) (xe_ireturn)))))))))))
theorem bk_X9_countFirsts_80 : ck_ fX9 (some .int) cX9_countFirsts 80 [.iinc 5 1, .goto 13] 86 = true := qck_r (by decide) (by decide +kernel)
theorem bs_X9_countFirsts_80 {P : Zt → Option Zv → Prop} (K : Int → Zl → List Zv → Zt → Prop) : sx_ K P [.iinc 5 1, .goto 13] 86 = x_iinc 5 1 (x_goto 13 K) := ((xe_iinc 5 1).trans (congrArg (x_iinc 5 1) (xe_goto 13)))
theorem bk_X9_countFirsts_60 : ck_ fX9 (some .int) cX9_countFirsts 60 [.aload 0, .tableswitch 0 9 8 #[], .iload 3, .aload 6, .tableswitch 0 2 1 #[], .iastore, .iinc 3 1, .iload 4, .iconst 3, .imul, .istore 4, .iinc 5 1, .goto 13] 86 = true := qck_r (by decide) (by decide +kernel)
theorem bs_X9_countFirsts_60 {P : Zt → Option Zv → Prop} (K : Int → Zl → List Zv → Zt → Prop) : sx_ K P [.aload 0, .tableswitch 0 9 8 #[], .iload 3, .aload 6, .tableswitch 0 2 1 #[], .iastore, .iinc 3 1, .iload 4, .iconst 3, .imul, .istore 4, .iinc 5 1, .goto 13] 86 = x_aload 0 (x_g1 109 588 (x_iload 3 (x_aload 6 (x_g0 102 1 0 399 (x_iastore (x_iinc 3 1 (x_iload 4 (x_iconst 3 (x_imul (x_istore 4 (x_iinc 5 1 (x_goto 13 K)))))))))))) := ((xe_aload 0).trans (congrArg (x_aload 0) ((xe_g1 (kk := 109) rfl tl_9_8).trans (congrArg (x_g1 109 588) ((xe_iload 3).trans (congrArg (x_iload 3) ((xe_aload 6).trans (congrArg (x_aload 6) ((xe_g0 (kk := 102) rfl tl_2_1).trans (congrArg (x_g0 102 1 0 399) ((xe_iastore).trans (congrArg (x_iastore) ((xe_iinc 3 1).trans (congrArg (x_iinc 3 1) ((xe_iload 4).trans (congrArg (x_iload 4) ((xe_iconst 3).trans (congrArg (x_iconst 3) ((xe_imul).trans (congrArg (x_imul) ((xe_istore 4).trans (congrArg (x_istore 4) ((xe_iinc 5 1).trans (congrArg (x_iinc 5 1) (xe_goto 13)))))))))))))))))))))))))
theorem bk_X9_countFirsts_0 : ck_ fX9 (some .int) cX9_countFirsts 0 [.aload 0, .aload 1] 2 = true := qck_r (by decide) (by decide +kernel)
theorem bs_X9_countFirsts_0 {P : Zt → Option Zv → Prop} (K : Int → Zl → List Zv → Zt → Prop) : sx_ K P [.aload 0, .aload 1] 2 = x_aload 0 (x_aload 1 (K 2)) := ((xe_aload 0).trans (congrArg (x_aload 0) ((xe_aload 1).trans (congrArg (x_aload 1) xe_nil))))
theorem fr5_X9_54 : fr5_ RX9 54 9 5 := ⟨_, _, _, rfl, by decide, by decide, (lw_b2 36 (by decide +kernel) rfl : Cond.fieldLink RX9 54 _ _ _ ∈ lw_g), rfl, fun a => ⟨.object "SportsHouse$Competition", by decide +kernel, rfl, rfl⟩⟩
theorem bk_X9_countFirsts_5 : ck_ fX9 (some .int) cX9_countFirsts 5 [.iconst 0, .istore 3, .iconst 1, .istore 4, .iconst 0, .istore 5] 13 = true := qck_r (by decide) (by decide +kernel)
theorem bs_X9_countFirsts_5 {P : Zt → Option Zv → Prop} (K : Int → Zl → List Zv → Zt → Prop) : sx_ K P [.iconst 0, .istore 3, .iconst 1, .istore 4, .iconst 0, .istore 5] 13 = x_iconst 0 (x_istore 3 (x_iconst 1 (x_istore 4 (x_iconst 0 (x_istore 5 (K 13)))))) := ((xe_iconst 0).trans (congrArg (x_iconst 0) ((xe_istore 3).trans (congrArg (x_istore 3) ((xe_iconst 1).trans (congrArg (x_iconst 1) ((xe_istore 4).trans (congrArg (x_istore 4) ((xe_iconst 0).trans (congrArg (x_iconst 0) ((xe_istore 5).trans (congrArg (x_istore 5) xe_nil))))))))))))
abbrev po_X9_countFirsts (T : Zt) (c : Int) (s : Int) : Zt → Option Zv → Prop := fun T' r => ∃ x : Int, r = some (vI x) ∧ fr_ [(109, [5]), (588, []), (107, [1, 13]), (542, []), (543, []), (544, []), (545, []), (546, []), (550, []), (551, []), (552, []), (549, []), (547, []), (548, [])] T T' ∧ (-1 ≤ x ∧ x ≤ 27)
set_option maxHeartbeats 4000000 in
theorem ct_X9_countFirsts {T : Zt} {c : Int} {s : Int} (hka : KA_ T) (hkm : KM_ T) (hkc : KC_ T) (hc : 0 ≤ c ∧ c < T 106 0 2) (hs : 0 ≤ s ∧ s ≤ 11) (hrk : T 401 c 4 ≤ 7) : Ct_ yX9_countFirsts zX9_countFirsts T [vR 109 0, vR 100 c, vI s] (po_X9_countFirsts T c s) := by
  refine ct_of (by decide) rfl rfl (Nat.le_of_ble_eq_true rfl) (fun hT hav => ?_)
  have hr_s : -2147483648 ≤ s ∧ s ≤ 2147483647 := hav (vI s) (by simp)
  have hz : zX9_countFirsts.2.2.2.1 = some .boolean → ∀ (T' : Zt) (x : Int), po_X9_countFirsts T c s T' (some (vI x)) → 0 ≤ x ∧ x ≤ 1 := fun h => by cases h
  have hk2 := hkc c hc.1 hc.2
  have hb_matchCount : 0 ≤ T 106 0 4 ∧ T 106 0 4 ≤ 400 := bd_f hT 106 4 (by decide +kernel : (tf_ 106)[4]? = some (0, 0, 0, 400)) 0
  have hcc : 0 ≤ T 106 0 2 ∧ T 106 0 2 ≤ 4 := bd_f hT 106 2 (by decide +kernel : (tf_ 106)[2]? = some (0, 0, 0, 4)) 0
  have hfm : 0 ≤ T 100 c 7 ∧ T 100 c 7 ≤ 400 := bd_f hT 100 7 (by decide +kernel : (tf_ 100)[7]? = some (0, 0, 0, 400)) c
  have hmc : 0 ≤ T 100 c 8 ∧ T 100 c 8 ≤ 400 := bd_f hT 100 8 (by decide +kernel : (tf_ 100)[8]? = some (0, 0, 0, 400)) c
  show J_ zX9_countFirsts T (po_X9_countFirsts T c s) 0 0 0 [some (vR 109 0), some (vR 100 c), some (vI s), none, none, none, none] [] T
  have c_92 : ∀ (nn : Nat) (f : Int) (q : Int) (u : Int) (g : Int) (T2 : Zt), ((27 - g).toNat) ≤ nn → (fr_ [(109, [5]), (588, []), (107, [1, 13]), (542, []), (543, []), (544, []), (545, []), (546, []), (550, []), (551, []), (552, []), (549, []), (547, []), (548, [])] T T2) → (0 ≤ u ∧ u ≤ g ∧ g ≤ q ∧ ((f = 0 ∧ q = 1) ∨ (f = 1 ∧ q = 3) ∨ (f = 2 ∧ q = 9) ∨ (f = 3 ∧ q = 27))) → (T2 109 0 5 = c + 1) → (∀ j : Int, 0 ≤ j → j < f → 0 ≤ T2 588 0 j ∧ T2 588 0 j < T 106 0 4) → J_ zX9_countFirsts T (po_X9_countFirsts T c s) 0 0 92 [some (vR 109 0), some (vR 100 c), some (vI s), some (vI f), some (vI q), some (vI u), some (vI g)] [] T2 := by
    intro nn
    induction nn using Nat.strongRecOn with
    | _ nn ih_92 =>
      intro f q u g T2 hm_92 hf_92 i2 i4 op2
      refine j_blx (F := fX9) tb_X9 (by decide) bk_X9_countFirsts_92 bs_X9_countFirsts_92 hz (fun K hK => ?_)
      refine And.intro (fun c1 => ?_) (fun c1 => ?_)
      · refine hK 119 [some (vR 109 0), some (vR 100 c), some (vI s), some (vI f), some (vI q), some (vI u), some (vI g)] [] T2 ?_
        refine j_blx (F := fX9) tb_X9 (by decide) bk_X9_countFirsts_119 bs_X9_countFirsts_119 hz (fun K hK => ?_)
        refine (show po_X9_countFirsts T c s T2 (some (vI u)) from ?_)
        exact ⟨_, rfl, fr_t (fr_0 _ _) (fr_s hf_92 rfl), by omega⟩
      · refine hK 104 [some (vR 109 0), some (vR 100 c), some (vI s), some (vI f), some (vI q), some (vI u), some (vI g)] [vI s, vI f, vI g, vR 109 0] T2 ?_
        have e2 : T2 106 0 2 = T 106 0 2 := hf_92 106 0 2 rfl
        have e3 : T2 106 0 4 = T 106 0 4 := hf_92 106 0 4 rfl
        have e4 : T2 401 c 4 = T 401 c 4 := hf_92 401 c 4 rfl
        have e5 : T2 106 0 2 = T 106 0 2 := hf_92 106 0 2 rfl
        have e6 : T2 106 0 4 = T 106 0 4 := hf_92 106 0 4 rfl
        refine j_callV (y := yX9_isFirstBy) (Yc := zX9_isFirstBy) (rest := []) [vI g, vI f, vI s] (ct_X9_isFirstBy (T := T2) (by exact KA__f (ws := [(109, [5]), (588, []), (107, [1, 13]), (542, []), (543, []), (544, []), (545, []), (546, []), (550, []), (551, []), (552, []), (549, []), (547, []), (548, [])]) hka (fr_t (fr_0 _ _) (fr_s hf_92 rfl)) ⟨fun _ => rfl, fun _ => rfl, rfl, rfl, trivial⟩) (by exact KC__f (ws := [(109, [5]), (588, []), (107, [1, 13]), (542, []), (543, []), (544, []), (545, []), (546, []), (550, []), (551, []), (552, []), (549, []), (547, []), (548, [])]) hkc (fr_t (fr_0 _ _) (fr_s hf_92 rfl)) ⟨rfl, rfl, rfl, rfl, trivial⟩) (by omega) (by omega) (by omega) (by intro j a b; have y := op2 j a b; omega) (by rw [show T2 109 0 5 - 1 = c by omega]; omega)) cl_X9_176 (qd_c (by decide +kernel)) (by decide) rfl (by decide +kernel) (Nat.le_of_ble_eq_true rfl) (by decide) (by decide) rfl ?_
        rintro U7 _ ⟨x8, rfl, fU7, qU7⟩
        show J_ zX9_countFirsts T (po_X9_countFirsts T c s) 0 0 107 [some (vR 109 0), some (vR 100 c), some (vI s), some (vI f), some (vI q), some (vI u), some (vI g)] [vI x8] U7
        refine j_blx (F := fX9) tb_X9 (by decide) bk_X9_countFirsts_107 bs_X9_countFirsts_107 hz (fun K hK => ?_)
        refine And.intro (fun c9 => ?_) (fun c9 => ?_)
        · refine hK 113 [some (vR 109 0), some (vR 100 c), some (vI s), some (vI f), some (vI q), some (vI u), some (vI g)] [] U7 ?_
          refine j_blx (F := fX9) tb_X9 (by decide) bk_X9_countFirsts_113 bs_X9_countFirsts_113 hz (fun K hK => ?_)
          refine rg_i (by omega) ?_
          refine hK 92 [some (vR 109 0), some (vR 100 c), some (vI s), some (vI f), some (vI q), some (vI u), some (vI (g + 1))] [] U7 ?_
          have e10 : U7 109 0 5 = T2 109 0 5 := fU7 109 0 5 rfl
          refine ih_92 _ ?_ f q u (g + 1) U7 (Nat.le_refl _) ?_ ?_ ?_ ?_
          · omega
          · exact fr_t (fr_t (fr_0 _ _) (fr_s hf_92 rfl)) (fr_s fU7 rfl)
          · omega
          · omega
          · intro j a b
            rw [fU7 588 0 j rfl]
            exact op2 j a b
        · refine rg_i (by omega) ?_
          refine rg_i (by omega) ?_
          refine hK 92 [some (vR 109 0), some (vR 100 c), some (vI s), some (vI f), some (vI q), some (vI (u + 1)), some (vI (g + 1))] [] U7 ?_
          have e11 : U7 109 0 5 = T2 109 0 5 := fU7 109 0 5 rfl
          refine ih_92 _ ?_ f q (u + 1) (g + 1) U7 (Nat.le_refl _) ?_ ?_ ?_ ?_
          · omega
          · exact fr_t (fr_t (fr_0 _ _) (fr_s hf_92 rfl)) (fr_s fU7 rfl)
          · omega
          · omega
          · intro j a b
            rw [fU7 588 0 j rfl]
            exact op2 j a b
  have c_13 : ∀ (nn : Nat) (f : Int) (q : Int) (k : Int) (T1 : Zt), ((T 100 c 8 - k).toNat) ≤ nn → (fr_ [(109, [5]), (588, [])] T T1) → (0 ≤ k ∧ k ≤ T 100 c 8 ∧ ((f = 0 ∧ q = 1) ∨ (f = 1 ∧ q = 3) ∨ (f = 2 ∧ q = 9) ∨ (f = 3 ∧ q = 27))) → (T1 109 0 5 = c + 1) → (∀ j : Int, 0 ≤ j → j < f → 0 ≤ T1 588 0 j ∧ T1 588 0 j < T 106 0 4) → J_ zX9_countFirsts T (po_X9_countFirsts T c s) 0 0 13 [some (vR 109 0), some (vR 100 c), some (vI s), some (vI f), some (vI q), some (vI k), none] [] T1 := by
    intro nn
    induction nn using Nat.strongRecOn with
    | _ nn ih_13 =>
      intro f q k T1 hm_13 hf_13 i1 i3 op1
      refine j_blx (F := fX9) tb_X9 (by decide) bk_X9_countFirsts_13 bs_X9_countFirsts_13 hz (fun K hK => ?_)
      refine And.intro (fun c12 => ?_) (fun c12 => ?_)
      · exact absurd c12 (by omega)
      · have z13 : T1 109 0 5 - 1 = c := by omega
        rw [z13]
        intro b14 b14b
        have e15 : T1 100 c 8 = T 100 c 8 := hf_13 100 c 8 rfl
        rw [e15] at b14 b14b ⊢
        refine And.intro (fun c16 => ?_) (fun c16 => ?_)
        · refine hK 86 [some (vR 109 0), some (vR 100 c), some (vI s), some (vI f), some (vI q), some (vI k), none] [] T1 ?_
          refine j_blx (F := fX9) tb_X9 (by decide) bk_X9_countFirsts_86 bs_X9_countFirsts_86 hz (fun K hK => ?_)
          refine hK 92 [some (vR 109 0), some (vR 100 c), some (vI s), some (vI f), some (vI q), some (vI 0), some (vI 0)] [] T1 ?_
          refine c_92 _ f q 0 0 T1 (Nat.le_refl _) ?_ ?_ ?_ ?_
          · exact fr_t (fr_0 _ _) (fr_s hf_13 rfl)
          · omega
          · omega
          · exact op1
        · refine And.intro (fun c17 => ?_) (fun c17 => ?_)
          · exact absurd c17 (by omega)
          · have z18 : T1 109 0 5 - 1 = c := by omega
            rw [z18]
            intro b19 b19b
            have e20 : T1 100 c 7 = T 100 c 7 := hf_13 100 c 7 rfl
            rw [e20] at b19 b19b ⊢
            refine rg_i (by omega) ?_
            refine ix_i (by omega) ?_
            have e22 : T1 523 0 ((T 100 c 7) + k) = T 523 0 ((T 100 c 7) + k) := hf_13 523 0 ((T 100 c 7) + k) rfl
            refine And.intro (fun c21 => ?_) (fun c21 => ?_)
            · exact absurd (show T 523 0 (T 100 c 7 + k) = 0 by omega) (hka.2 _ (by omega) (by omega))
            · refine hK 47 [some (vR 109 0), some (vR 100 c), some (vI s), some (vI f), some (vI q), some (vI k), some (vR 102 ((T 100 c 7) + k))] [vR 102 ((T 100 c 7) + k)] T1 ?_
              refine j_callV (y := yX2_isDecided) (Yc := zX2_isDecided) (rest := []) [] (ct_X2_isDecided (T := T1)) cl_X9_109 (qd_c (by decide +kernel)) (by decide) rfl (by decide +kernel) (Nat.le_of_ble_eq_true rfl) (by decide) (by decide) rfl ?_
              rintro _ _ ⟨rfl, x23, rfl, hx23⟩
              show J_ zX9_countFirsts T (po_X9_countFirsts T c s) 0 0 50 [some (vR 109 0), some (vR 100 c), some (vI s), some (vI f), some (vI q), some (vI k), some (vR 102 ((T 100 c 7) + k))] [vI x23] T1
              refine j_blx (F := fX9) tb_X9 (by decide) bk_X9_countFirsts_50 bs_X9_countFirsts_50 hz (fun K hK => ?_)
              refine And.intro (fun c24 => ?_) (fun c24 => ?_)
              · refine hK 80 [some (vR 109 0), some (vR 100 c), some (vI s), some (vI f), some (vI q), some (vI k), some (vR 102 ((T 100 c 7) + k))] [] T1 ?_
                refine j_blx (F := fX9) tb_X9 (by decide) bk_X9_countFirsts_80 bs_X9_countFirsts_80 hz (fun K hK => ?_)
                refine rg_i (by omega) ?_
                refine hK 13 [some (vR 109 0), some (vR 100 c), some (vI s), some (vI f), some (vI q), some (vI (k + 1)), some (vR 102 ((T 100 c 7) + k))] [] T1 ?_
                refine j_drop [some (vR 109 0), some (vR 100 c), some (vI s), some (vI f), some (vI q), some (vI (k + 1)), none] (fun k v hk => ?_) rfl ?_
                · match k, hk with
                  | 0, hk => exact hk
                  | 1, hk => exact hk
                  | 2, hk => exact hk
                  | 3, hk => exact hk
                  | 4, hk => exact hk
                  | 5, hk => exact hk
                  | 6, hk => cases hk
                  | k + 7, hk => cases hk
                refine ih_13 _ ?_ f q (k + 1) T1 (Nat.le_refl _) ?_ ?_ ?_ ?_
                · omega
                · exact fr_t (fr_0 _ _) (fr_s hf_13 rfl)
                · omega
                · omega
                · exact op1
              · refine And.intro (fun c25 => ?_) (fun c25 => ?_)
                · refine hK 60 [some (vR 109 0), some (vR 100 c), some (vI s), some (vI f), some (vI q), some (vI k), some (vR 102 ((T 100 c 7) + k))] [] T1 ?_
                  refine j_blx (F := fX9) tb_X9 (by decide) bk_X9_countFirsts_60 bs_X9_countFirsts_60 hz (fun K hK => ?_)
                  intro b26 b26b
                  have e27 : T1 102 ((T 100 c 7) + k) 1 = T 102 ((T 100 c 7) + k) 1 := hf_13 102 ((T 100 c 7) + k) 1 rfl
                  rw [e27] at b26 b26b ⊢
                  refine iy_i (by omega) (by omega) ?_
                  refine x_nm (fun U28 hU28 => ?_)
                  have e29 := up_f hU28
                  refine rg_i (by omega) ?_
                  refine rg_i (by omega) ?_
                  refine rg_i (by omega) ?_
                  refine hK 13 [some (vR 109 0), some (vR 100 c), some (vI s), some (vI (f + 1)), some (vI (q * 3)), some (vI (k + 1)), some (vR 102 ((T 100 c 7) + k))] [] U28 ?_
                  refine j_drop [some (vR 109 0), some (vR 100 c), some (vI s), some (vI (f + 1)), some (vI (q * 3)), some (vI (k + 1)), none] (fun k v hk => ?_) rfl ?_
                  · match k, hk with
                    | 0, hk => exact hk
                    | 1, hk => exact hk
                    | 2, hk => exact hk
                    | 3, hk => exact hk
                    | 4, hk => exact hk
                    | 5, hk => exact hk
                    | 6, hk => cases hk
                    | k + 7, hk => cases hk
                  have e30 : U28 109 0 5 = T1 109 0 5 := up_k hU28 (by decide) 0 5
                  refine ih_13 _ ?_ (f + 1) (q * 3) (k + 1) U28 (Nat.le_refl _) ?_ ?_ ?_ ?_
                  · omega
                  · exact fr_u (fr_t (fr_0 _ _) (fr_s hf_13 rfl)) hU28 rfl
                  · omega
                  · omega
                  · intro j a b
                    by_cases z : j = f
                    · rw [z, up_f hU28]; have y := (hkm (T 100 c 7 + k) (by omega) (by omega)).1; omega
                    · rw [up_g hU28 (fun y => z y.2.2)]; exact op1 j a (by omega)
                · refine (show po_X9_countFirsts T c s T1 (some (vI (-1))) from ?_)
                  exact ⟨_, rfl, fr_t (fr_0 _ _) (fr_s hf_13 rfl), by omega⟩
  refine j_blx (F := fX9) tb_X9 (by decide) bk_X9_countFirsts_0 bs_X9_countFirsts_0 hz (fun K hK => ?_)
  refine hK 2 [some (vR 109 0), some (vR 100 c), some (vI s), none, none, none, none] [vR 100 c, vR 109 0] T ?_
  refine j_putR (pc := 2) (ci := 9) (j := 5) (by decide) fr5_X9_54 rfl (by decide +kernel) (by omega) (by omega) (by omega) ?_
  refine j_nm (fun U31 hU31 => ?_)
  have e32 := up_f hU31
  show J_ zX9_countFirsts T (po_X9_countFirsts T c s) 0 0 5 [some (vR 109 0), some (vR 100 c), some (vI s), none, none, none, none] [] U31
  refine j_blx (F := fX9) tb_X9 (by decide) bk_X9_countFirsts_5 bs_X9_countFirsts_5 hz (fun K hK => ?_)
  refine hK 13 [some (vR 109 0), some (vR 100 c), some (vI s), some (vI 0), some (vI 1), some (vI 0), none] [] U31 ?_
  have e33 : U31 109 0 5 = c + 1 := up_f hU31
  refine c_13 _ 0 1 0 U31 (Nat.le_refl _) ?_ ?_ ?_ ?_
  · exact fr_u (fr_0 _ _) hU31 rfl
  · omega
  · omega
  · intro j a b; omega

