abbrev po_J7_fill_584 (T : Zt) (p : Int) (v : Int) : Zt → Option Zv → Prop := fun T' r => r = none ∧ fr_ [(584, [])] T T' ∧ oi_ T T' p ∧ ∀ j, 0 ≤ j → j < 400 → T' 584 p j = v
set_option maxHeartbeats 4000000 in
theorem ct_J7_fill_584 {T : Zt} {p : Int} {v : Int} (h1 : (-2147483648) ≤ v ∧ v ≤ 2147483647) : Ct_ yJ7_fill_53178 zJ7_fill_53178 T [vR 584 p, vI v] (po_J7_fill_584 T p v) := by
  refine ct_of (by decide) rfl rfl (Nat.le_of_ble_eq_true rfl) (fun hT hav => ?_)
  have hr_v : -2147483648 ≤ v ∧ v ≤ 2147483647 := hav (vI v) (by simp)
  have hz : zJ7_fill_53178.2.2.2.1 = some .boolean → ∀ (T' : Zt) (x : Int), po_J7_fill_584 T p v T' (some (vI x)) → 0 ≤ x ∧ x ≤ 1 := fun h => by cases h
  show J_ zJ7_fill_53178 T (po_J7_fill_584 T p v) 0 0 0 [some (vR 584 p), some (vI v), none, none] [] T
  have c_5 : ∀ (nn : Nat) (j : Int) (T1 : Zt), ((400 - j).toNat) ≤ nn → (fr_ [(584, [])] T T1) → (0 ≤ j ∧ j ≤ 400) → (oi_ T T1 p) → (∀ q, 0 ≤ q → q < j → T1 584 p q = v) → J_ zJ7_fill_53178 T (po_J7_fill_584 T p v) 0 0 5 [some (vR 584 p), some (vI v), some (vI j), some (vI 400)] [] T1 := by
    intro nn
    induction nn using Nat.strongRecOn with
    | _ nn ih_5 =>
      intro j T1 hm_5 hf_5 i1 o1 f1
      refine j_blx (F := fJ7) tb_J7 (nn_ _) bk_J7_fill_53178_5 bs_J7_fill_53178_5 hz (fun K hK => ?_)
      refine And.intro (fun c1 => ?_) (fun c1 => ?_)
      · refine hK 20 _ [] T1 ?_
        refine j_blx (F := fJ7) tb_J7 (nn_ _) bk_J7_fill_53178_20 bs_J7_fill_53178_20 hz (fun K hK => ?_)
        refine (show po_J7_fill_584 T p v T1 (none) from ?_)
        exact ⟨rfl, fr_t (fr_0 _ _) (fr_s hf_5 rfl), o1, fun q a b => f1 q a (by omega)⟩
      · refine iy_i (by omega) (by omega) ?_
        refine x_nm (fun U2 hU2 => ?_)
        have e3 := up_f hU2
        refine rg_i (by omega) ?_
        refine hK 5 [some (vR 584 p), some (vI v), some (vI (j + 1)), some (vI 400)] [] U2 ?_
        refine ih_5 _ ?_ (j + 1) U2 (Nat.le_refl _) ?_ ?_ ?_ ?_
        · omega
        · exact fr_u (fr_t (fr_0 _ _) (fr_s hf_5 rfl)) hU2 rfl
        · omega
        · exact oi_u o1 hU2
        · intro q a b
          by_cases z : q = j
          · rw [z]; exact up_f hU2
          · rw [up_g hU2 (fun y => z y.2.2)]; exact f1 q a (by omega)
  refine j_blx (F := fJ7) tb_J7 (nn_ _) bk_J7_fill_53178_0 bs_J7_fill_53178_0 hz (fun K hK => ?_)
  refine hK 5 [some (vR 584 p), some (vI v), some (vI 0), some (vI 400)] [] T ?_
  refine c_5 _ 0 T (Nat.le_refl _) ?_ ?_ ?_ ?_
  · exact fr_0 _ _
  · omega
  · exact oi_r
  · intro q a b; omega
def KW_ (T : Zt) : Prop := ∀ c : Int, 0 ≤ c → c < T 106 0 2 → T 401 c 2 ≤ T 401 c 1
theorem KW__f {ws : List (Nat × List Int)} {T T' : Zt} (h : KW_ T) (f : fr_ ws T T') (w : (∀ j, fw_ ws 401 j = false) ∧ fw_ ws 106 2 = false ∧ True) : KW_ T' := by
  have e0 : ∀ i j, T' 401 i j = T 401 i j := fun i j => f 401 i j (w.1 j)
  have e1 : ∀ i, T' 106 i 2 = T 106 i 2 := fun i => f 106 i 2 w.2.1
  simp only [KW_, e0, e1] at h ⊢
  exact h
theorem q9_of {T U : Zt} {c : Int} (hU : ok_T U) (hks : KS_ T) (hkc : KC_ T) (h0 : 0 ≤ c ∧ c < T 106 0 2) (hc : U 109 0 5 = c + 1) (hb : 0 ≤ T 100 c 7) (ol : ∀ j : Int, 0 ≤ j → j < U 109 0 9 → T 100 c 7 ≤ U 588 0 j ∧ U 588 0 j < T 100 c 7 + T 100 c 8) (e1 : ∀ i j, U 102 i j = T 102 i j) (e2 : ∀ i j, U 404 i j = T 404 i j) (e3 : U 106 0 4 = T 106 0 4) : Q9_ U := by
  refine ⟨by omega, fun k a b => ?_⟩
  have h1 := ol k a b
  have h2 := hks c h0.1 h0.2 (U 588 0 k) h1.1 h1.2
  have h3 := hkc c h0.1 h0.2
  have hb1 : ∀ i j : Int, 0 ≤ j → U 404 i j ≤ 11 := fun i j hj => (bd_a hU 404 (by decide +kernel : ta_ 404 = some (1, some 12, -1, 11)) i hj).2
  have hh : ∀ i, 0 ≤ U 102 i 3 := fun i => (bd_f hU 102 3 (by decide +kernel : (tf_ 102)[3]? = some (0, 0, 0, 11)) i).1
  have ha : ∀ i, 0 ≤ U 102 i 4 := fun i => (bd_f hU 102 4 (by decide +kernel : (tf_ 102)[4]? = some (0, 0, 0, 11)) i).1
  unfold hsx_ asx_
  rw [hc, show c + 1 - 1 = c by omega]
  refine ⟨⟨by omega, by omega⟩, ⟨?_, hb1 _ _ (hh _)⟩, ?_, hb1 _ _ (ha _)⟩
  · rw [e1, e2]; exact h2.2.1
  · rw [e1, e2]; exact h2.2.2
abbrev cX9_ask : ByteArray := prog_11_method_2_code
def yX9_ask : MethodName := ⟨RX9, "ask", "(LSportsHouse$Competition;I)I"⟩
def zX9_ask : Zm := (RX9, cX9_ask, 4, (some .int), { frames := 10, cells := 1, slots := 4096, locals := 280 })
theorem bk_X9_ask_94 : ck_ fX9 (some .int) cX9_ask 94 [.aload 0, .iload 2] 96 = true := qck_r (nn_ _) (by decide +kernel)
theorem bs_X9_ask_94 {P : Zt → Option Zv → Prop} (K : Int → Zl → List Zv → Zt → Prop) : sx_ K P [.aload 0, .iload 2] 96 = x_aload 0 (x_iload 2 (K 96)) := ((xe_aload 0).trans (congrArg (x_aload 0) ((xe_iload 2).trans (congrArg (x_iload 2) xe_nil))))
set_option maxRecDepth 100000 in
theorem cl_X9_73 : cv_ RX9 73 yX9_takePoints zX9_takePoints 9 1 := ⟨gi_V (lw_b6 42 (by decide +kernel) rfl : Cond.methodLink RX9 73 yX9_takePoints ∈ lw_g) (lw_b6 44 (by decide +kernel) rfl : Cond.instanceMethod yX9_takePoints ∈ lw_g) (lw_sel 149 rfl : Cond.selects yX9_takePoints.cls yX9_takePoints yX9_takePoints ∈ lw_g) (lw_b1 6 (by decide +kernel) rfl : Cond.initialized yX9_takePoints.cls ∈ lw_g) (lw_b6 45 rfl rfl : Cond.code yX9_takePoints cX9_takePoints 6 none ∈ lw_g), ⟨by decide, by decide, by decide +kernel⟩, ⟨_, _, rfl⟩⟩
theorem bk_X9_ask_99 : ck_ fX9 (some .int) cX9_ask 99 [.iload 3, .ifCond .eq 144, .aload 0, .iload 2] 105 = true := qck_r (nn_ _) (by decide +kernel)
theorem bs_X9_ask_99 {P : Zt → Option Zv → Prop} (K : Int → Zl → List Zv → Zt → Prop) : sx_ K P [.iload 3, .ifCond .eq 144, .aload 0, .iload 2] 105 = x_iload 3 (x_ifCond .eq 144 K (x_aload 0 (x_iload 2 (K 105)))) := ((xe_iload 3).trans (congrArg (x_iload 3) ((xe_ifCond .eq 144).trans (congrArg (x_ifCond .eq 144 K) ((xe_aload 0).trans (congrArg (x_aload 0) ((xe_iload 2).trans (congrArg (x_iload 2) xe_nil))))))))
theorem bk_X9_ask_144 : ck_ fX9 (some .int) cX9_ask 144 [.aload 0, .aload 0, .iload 2] 147 = true := qck_r (nn_ _) (by decide +kernel)
theorem bs_X9_ask_144 {P : Zt → Option Zv → Prop} (K : Int → Zl → List Zv → Zt → Prop) : sx_ K P [.aload 0, .aload 0, .iload 2] 147 = x_aload 0 (x_aload 0 (x_iload 2 (K 147))) := ((xe_aload 0).trans (congrArg (x_aload 0) ((xe_aload 0).trans (congrArg (x_aload 0) ((xe_iload 2).trans (congrArg (x_iload 2) xe_nil))))))
set_option maxRecDepth 100000 in
theorem cl_X9_88 : cv_ RX9 88 yX9_noneAbove zX9_noneAbove 9 1 := ⟨gi_V (lw_b6 91 (by decide +kernel) rfl : Cond.methodLink RX9 88 yX9_noneAbove ∈ lw_g) (lw_b6 93 (by decide +kernel) rfl : Cond.instanceMethod yX9_noneAbove ∈ lw_g) (lw_sel 141 rfl : Cond.selects yX9_noneAbove.cls yX9_noneAbove yX9_noneAbove ∈ lw_g) (lw_b1 6 (by decide +kernel) rfl : Cond.initialized yX9_noneAbove.cls ∈ lw_g) (lw_b6 94 rfl rfl : Cond.code yX9_noneAbove cX9_noneAbove 3 (some .boolean) ∈ lw_g), ⟨by decide, by decide, by decide +kernel⟩, ⟨_, _, rfl⟩⟩
theorem bk_X9_ask_150 : ck_ fX9 (some .int) cX9_ask 150 [.ifCond .eq 165, .aload 0, .iconst 0] 155 = true := qck_r (nn_ _) (by decide +kernel)
theorem bs_X9_ask_150 {P : Zt → Option Zv → Prop} (K : Int → Zl → List Zv → Zt → Prop) : sx_ K P [.ifCond .eq 165, .aload 0, .iconst 0] 155 = x_ifCond .eq 165 K (x_aload 0 (x_iconst 0 (K 155))) := ((xe_ifCond .eq 165).trans (congrArg (x_ifCond .eq 165 K) ((xe_aload 0).trans (congrArg (x_aload 0) ((xe_iconst 0).trans (congrArg (x_iconst 0) xe_nil))))))
theorem bk_X9_ask_165 : ck_ fX9 (some .int) cX9_ask 165 [.iconst 0, .tableswitch 1 9 2 #[], .aload 0, .tableswitch 0 9 2 #[], .ireturn] 174 = true := qck_r (nn_ _) (by decide +kernel)
theorem bs_X9_ask_165 {P : Zt → Option Zv → Prop} (K : Int → Zl → List Zv → Zt → Prop) : sx_ K P [.iconst 0, .tableswitch 1 9 2 #[], .aload 0, .tableswitch 0 9 2 #[], .ireturn] 174 = x_iconst 0 (x_p 109 2 (-1) 2 (x_aload 0 (x_g0 109 2 (-1) 2 (x_ireturn P)))) := ((xe_iconst 0).trans (congrArg (x_iconst 0) ((xe_p (kk := 109) rfl tl_9_2).trans (congrArg (x_p 109 2 (-1) 2) ((xe_aload 0).trans (congrArg (x_aload 0) ((xe_g0 (kk := 109) rfl tl_9_2).trans (congrArg (x_g0 109 2 (-1) 2) (xe_ireturn)))))))))
set_option maxRecDepth 100000 in
theorem cl_X9_91_zX9_search_8 : cv_ RX9 91 yX9_search zX9_search_8 9 1 := ⟨gi_V (lw_b6 95 (by decide +kernel) rfl : Cond.methodLink RX9 91 yX9_search ∈ lw_g) (lw_b6 97 (by decide +kernel) rfl : Cond.instanceMethod yX9_search ∈ lw_g) (lw_sel 144 rfl : Cond.selects yX9_search.cls yX9_search yX9_search ∈ lw_g) (lw_b1 6 (by decide +kernel) rfl : Cond.initialized yX9_search.cls ∈ lw_g) (lw_b6 98 rfl rfl : Cond.code yX9_search cX9_search 9 (some .boolean) ∈ lw_g), ⟨by decide, by decide, by decide +kernel⟩, ⟨_, _, rfl⟩⟩
theorem bk_X9_ask_158 : ck_ fX9 (some .int) cX9_ask 158 [.ifCond .eq 165, .iconst 1, .goto 166] 165 = true := qck_r (nn_ _) (by decide +kernel)
theorem bs_X9_ask_158 {P : Zt → Option Zv → Prop} (K : Int → Zl → List Zv → Zt → Prop) : sx_ K P [.ifCond .eq 165, .iconst 1, .goto 166] 165 = x_ifCond .eq 165 K (x_iconst 1 (x_goto 166 K)) := ((xe_ifCond .eq 165).trans (congrArg (x_ifCond .eq 165 K) ((xe_iconst 1).trans (congrArg (x_iconst 1) (xe_goto 166)))))
theorem bk_X9_ask_166 : ck_ fX9 (some .int) cX9_ask 166 [.tableswitch 1 9 2 #[], .aload 0, .tableswitch 0 9 2 #[], .ireturn] 174 = true := qck_r (nn_ _) (by decide +kernel)
theorem bs_X9_ask_166 {P : Zt → Option Zv → Prop} (K : Int → Zl → List Zv → Zt → Prop) : sx_ K P [.tableswitch 1 9 2 #[], .aload 0, .tableswitch 0 9 2 #[], .ireturn] 174 = x_p 109 2 (-1) 2 (x_aload 0 (x_g0 109 2 (-1) 2 (x_ireturn P))) := ((xe_p (kk := 109) rfl tl_9_2).trans (congrArg (x_p 109 2 (-1) 2) ((xe_aload 0).trans (congrArg (x_aload 0) ((xe_g0 (kk := 109) rfl tl_9_2).trans (congrArg (x_g0 109 2 (-1) 2) (xe_ireturn)))))))
set_option maxRecDepth 100000 in
theorem cl_X9_77 : cv_ RX9 77 yX9_setCaps zX9_setCaps 9 1 := ⟨gi_V (lw_b6 47 (by decide +kernel) rfl : Cond.methodLink RX9 77 yX9_setCaps ∈ lw_g) (lw_b6 49 (by decide +kernel) rfl : Cond.instanceMethod yX9_setCaps ∈ lw_g) (lw_sel 145 rfl : Cond.selects yX9_setCaps.cls yX9_setCaps yX9_setCaps ∈ lw_g) (lw_b1 6 (by decide +kernel) rfl : Cond.initialized yX9_setCaps.cls ∈ lw_g) (lw_b6 50 rfl rfl : Cond.code yX9_setCaps cX9_setCaps 6 none ∈ lw_g), ⟨by decide, by decide, by decide +kernel⟩, ⟨_, _, rfl⟩⟩
theorem bk_X9_ask_108 : ck_ fX9 (some .int) cX9_ask 108 [.aload 0, .aload 0, .iload 2] 111 = true := qck_r (nn_ _) (by decide +kernel)
theorem bs_X9_ask_108 {P : Zt → Option Zv → Prop} (K : Int → Zl → List Zv → Zt → Prop) : sx_ K P [.aload 0, .aload 0, .iload 2] 111 = x_aload 0 (x_aload 0 (x_iload 2 (K 111))) := ((xe_aload 0).trans (congrArg (x_aload 0) ((xe_aload 0).trans (congrArg (x_aload 0) ((xe_iload 2).trans (congrArg (x_iload 2) xe_nil))))))
set_option maxRecDepth 100000 in
theorem cl_X9_80 : cv_ RX9 80 yX9_spreadParts zX9_spreadParts 9 1 := ⟨gi_V (lw_b6 51 (by decide +kernel) rfl : Cond.methodLink RX9 80 yX9_spreadParts ∈ lw_g) (lw_b6 53 (by decide +kernel) rfl : Cond.instanceMethod yX9_spreadParts ∈ lw_g) (lw_sel 147 rfl : Cond.selects yX9_spreadParts.cls yX9_spreadParts yX9_spreadParts ∈ lw_g) (lw_b1 6 (by decide +kernel) rfl : Cond.initialized yX9_spreadParts.cls ∈ lw_g) (lw_b6 54 rfl rfl : Cond.code yX9_spreadParts cX9_spreadParts 5 (some .boolean) ∈ lw_g), ⟨by decide, by decide, by decide +kernel⟩, ⟨_, _, rfl⟩⟩
theorem bk_X9_ask_114 : ck_ fX9 (some .int) cX9_ask 114 [.ifCond .eq 121, .iconst 1, .goto 122] 121 = true := qck_r (nn_ _) (by decide +kernel)
theorem bs_X9_ask_114 {P : Zt → Option Zv → Prop} (K : Int → Zl → List Zv → Zt → Prop) : sx_ K P [.ifCond .eq 121, .iconst 1, .goto 122] 121 = x_ifCond .eq 121 K (x_iconst 1 (x_goto 122 K)) := ((xe_ifCond .eq 121).trans (congrArg (x_ifCond .eq 121 K) ((xe_iconst 1).trans (congrArg (x_iconst 1) (xe_goto 122)))))
theorem bk_X9_ask_121 : ck_ fX9 (some .int) cX9_ask 121 [.iconst 0, .tableswitch 1 9 2 #[], .aload 0, .tableswitch 0 9 2 #[], .ifCond .ne 169, .aload 0, .aload 0, .iload 2] 135 = true := qck_r (nn_ _) (by decide +kernel)
theorem bs_X9_ask_121 {P : Zt → Option Zv → Prop} (K : Int → Zl → List Zv → Zt → Prop) : sx_ K P [.iconst 0, .tableswitch 1 9 2 #[], .aload 0, .tableswitch 0 9 2 #[], .ifCond .ne 169, .aload 0, .aload 0, .iload 2] 135 = x_iconst 0 (x_p 109 2 (-1) 2 (x_aload 0 (x_g0 109 2 (-1) 2 (x_ifCond .ne 169 K (x_aload 0 (x_aload 0 (x_iload 2 (K 135)))))))) := ((xe_iconst 0).trans (congrArg (x_iconst 0) ((xe_p (kk := 109) rfl tl_9_2).trans (congrArg (x_p 109 2 (-1) 2) ((xe_aload 0).trans (congrArg (x_aload 0) ((xe_g0 (kk := 109) rfl tl_9_2).trans (congrArg (x_g0 109 2 (-1) 2) ((xe_ifCond .ne 169).trans (congrArg (x_ifCond .ne 169 K) ((xe_aload 0).trans (congrArg (x_aload 0) ((xe_aload 0).trans (congrArg (x_aload 0) ((xe_iload 2).trans (congrArg (x_iload 2) xe_nil))))))))))))))))
theorem bk_X9_ask_169 : ck_ fX9 (some .int) cX9_ask 169 [.aload 0, .tableswitch 0 9 2 #[], .ireturn] 174 = true := qck_r (nn_ _) (by decide +kernel)
theorem bs_X9_ask_169 {P : Zt → Option Zv → Prop} (K : Int → Zl → List Zv → Zt → Prop) : sx_ K P [.aload 0, .tableswitch 0 9 2 #[], .ireturn] 174 = x_aload 0 (x_g0 109 2 (-1) 2 (x_ireturn P)) := ((xe_aload 0).trans (congrArg (x_aload 0) ((xe_g0 (kk := 109) rfl tl_9_2).trans (congrArg (x_g0 109 2 (-1) 2) (xe_ireturn)))))
set_option maxRecDepth 100000 in
theorem cl_X9_84 : cv_ RX9 84 yX9_leastCut zX9_leastCut 9 1 := ⟨gi_V (lw_b6 79 (by decide +kernel) rfl : Cond.methodLink RX9 84 yX9_leastCut ∈ lw_g) (lw_b6 81 (by decide +kernel) rfl : Cond.instanceMethod yX9_leastCut ∈ lw_g) (lw_sel 139 rfl : Cond.selects yX9_leastCut.cls yX9_leastCut yX9_leastCut ∈ lw_g) (lw_b1 6 (by decide +kernel) rfl : Cond.initialized yX9_leastCut.cls ∈ lw_g) (lw_b6 82 rfl rfl : Cond.code yX9_leastCut cX9_leastCut 7 (some .int) ∈ lw_g), ⟨by decide, by decide, by decide +kernel⟩, ⟨_, _, rfl⟩⟩
theorem bk_X9_ask_138 : ck_ fX9 (some .int) cX9_ask 138 [.tableswitch 1 9 3 #[], .goto 169] 144 = true := qck_r (nn_ _) (by decide +kernel)
theorem bs_X9_ask_138 {P : Zt → Option Zv → Prop} (K : Int → Zl → List Zv → Zt → Prop) : sx_ K P [.tableswitch 1 9 3 #[], .goto 169] 144 = x_p 109 3 0 4095 (x_goto 169 K) := ((xe_p (kk := 109) rfl tl_9_3).trans (congrArg (x_p 109 3 0 4095) (xe_goto 169)))
theorem bk_X9_ask_122 : ck_ fX9 (some .int) cX9_ask 122 [.tableswitch 1 9 2 #[], .aload 0, .tableswitch 0 9 2 #[], .ifCond .ne 169, .aload 0, .aload 0, .iload 2] 135 = true := qck_r (nn_ _) (by decide +kernel)
theorem bs_X9_ask_122 {P : Zt → Option Zv → Prop} (K : Int → Zl → List Zv → Zt → Prop) : sx_ K P [.tableswitch 1 9 2 #[], .aload 0, .tableswitch 0 9 2 #[], .ifCond .ne 169, .aload 0, .aload 0, .iload 2] 135 = x_p 109 2 (-1) 2 (x_aload 0 (x_g0 109 2 (-1) 2 (x_ifCond .ne 169 K (x_aload 0 (x_aload 0 (x_iload 2 (K 135))))))) := ((xe_p (kk := 109) rfl tl_9_2).trans (congrArg (x_p 109 2 (-1) 2) ((xe_aload 0).trans (congrArg (x_aload 0) ((xe_g0 (kk := 109) rfl tl_9_2).trans (congrArg (x_g0 109 2 (-1) 2) ((xe_ifCond .ne 169).trans (congrArg (x_ifCond .ne 169 K) ((xe_aload 0).trans (congrArg (x_aload 0) ((xe_aload 0).trans (congrArg (x_aload 0) ((xe_iload 2).trans (congrArg (x_iload 2) xe_nil))))))))))))))
theorem bk_X9_ask_56 : ck_ fX9 (some .int) cX9_ask 56 [.istore 3, .aload 0, .aload 0, .tableswitch 0 9 5 #[], .tableswitch 0 0 3 #[], .iload 2, .iaload, .iload 3, .ifCond .eq 76, .iconst 40, .goto 78] 76 = true := qck_r (nn_ _) (by decide +kernel)
theorem bs_X9_ask_56 {P : Zt → Option Zv → Prop} (K : Int → Zl → List Zv → Zt → Prop) : sx_ K P [.istore 3, .aload 0, .aload 0, .tableswitch 0 9 5 #[], .tableswitch 0 0 3 #[], .iload 2, .iaload, .iload 3, .ifCond .eq 76, .iconst 40, .goto 78] 76 = x_istore 3 (x_aload 0 (x_aload 0 (x_g5 109 100 5 (x_g2 100 403 (x_iload 2 (x_iaload (x_iload 3 (x_ifCond .eq 76 K (x_iconst 40 (x_goto 78 K)))))))))) := ((xe_istore 3).trans (congrArg (x_istore 3) ((xe_aload 0).trans (congrArg (x_aload 0) ((xe_aload 0).trans (congrArg (x_aload 0) ((xe_g5 (kk := 109) rfl tl_9_5).trans (congrArg (x_g5 109 100 5) ((xe_g2 (kk := 100) rfl tl_0_3).trans (congrArg (x_g2 100 403) ((xe_iload 2).trans (congrArg (x_iload 2) ((xe_iaload).trans (congrArg (x_iaload) ((xe_iload 3).trans (congrArg (x_iload 3) ((xe_ifCond .eq 76).trans (congrArg (x_ifCond .eq 76 K) ((xe_iconst 40).trans (congrArg (x_iconst 40) (xe_goto 78)))))))))))))))))))))
theorem bk_X9_ask_76 : ck_ fX9 (some .int) cX9_ask 76 [.iconst 8] 78 = true := qck_r (nn_ _) (by decide +kernel)
theorem bs_X9_ask_76 {P : Zt → Option Zv → Prop} (K : Int → Zl → List Zv → Zt → Prop) : sx_ K P [.iconst 8] 78 = x_iconst 8 (K 78) := ((xe_iconst 8).trans (congrArg (x_iconst 8) xe_nil))
set_option maxRecDepth 100000 in
theorem cl_X9_69 : cv_ RX9 69 yX9_listOpen zX9_listOpen 9 2 := ⟨gi_V (lw_b6 36 (by decide +kernel) rfl : Cond.methodLink RX9 69 yX9_listOpen ∈ lw_g) (lw_b6 38 (by decide +kernel) rfl : Cond.instanceMethod yX9_listOpen ∈ lw_g) (lw_sel 140 rfl : Cond.selects yX9_listOpen.cls yX9_listOpen yX9_listOpen ∈ lw_g) (lw_b1 6 (by decide +kernel) rfl : Cond.initialized yX9_listOpen.cls ∈ lw_g) (lw_b6 39 rfl rfl : Cond.code yX9_listOpen cX9_listOpen 5 (some .boolean) ∈ lw_g), ⟨by decide, by decide, by decide +kernel⟩, ⟨_, _, rfl⟩⟩
theorem bk_X9_ask_81 : ck_ fX9 (some .int) cX9_ask 81 [.ifCond .ne 94, .aload 0, .iconst 2, .tableswitch 1 9 2 #[], .aload 0, .tableswitch 0 9 2 #[], .ireturn] 94 = true := qck_r (nn_ _) (by decide +kernel)
theorem bs_X9_ask_81 {P : Zt → Option Zv → Prop} (K : Int → Zl → List Zv → Zt → Prop) : sx_ K P [.ifCond .ne 94, .aload 0, .iconst 2, .tableswitch 1 9 2 #[], .aload 0, .tableswitch 0 9 2 #[], .ireturn] 94 = x_ifCond .ne 94 K (x_aload 0 (x_iconst 2 (x_p 109 2 (-1) 2 (x_aload 0 (x_g0 109 2 (-1) 2 (x_ireturn P)))))) := ((xe_ifCond .ne 94).trans (congrArg (x_ifCond .ne 94 K) ((xe_aload 0).trans (congrArg (x_aload 0) ((xe_iconst 2).trans (congrArg (x_iconst 2) ((xe_p (kk := 109) rfl tl_9_2).trans (congrArg (x_p 109 2 (-1) 2) ((xe_aload 0).trans (congrArg (x_aload 0) ((xe_g0 (kk := 109) rfl tl_9_2).trans (congrArg (x_g0 109 2 (-1) 2) (xe_ireturn)))))))))))))
theorem bk_X9_ask_0 : ck_ fX9 (some .int) cX9_ask 0 [.aload 0, .aload 1] 2 = true := qck_r (nn_ _) (by decide +kernel)
theorem bs_X9_ask_0 {P : Zt → Option Zv → Prop} (K : Int → Zl → List Zv → Zt → Prop) : sx_ K P [.aload 0, .aload 1] 2 = x_aload 0 (x_aload 1 (K 2)) := ((xe_aload 0).trans (congrArg (x_aload 0) ((xe_aload 1).trans (congrArg (x_aload 1) xe_nil))))
theorem bk_X9_ask_5 : ck_ fX9 (some .int) cX9_ask 5 [.aload 0, .iconst 0, .tableswitch 1 9 3 #[], .aload 0, .tableswitch 0 9 4 #[], .iconst (-1)] 15 = true := qck_r (nn_ _) (by decide +kernel)
theorem bs_X9_ask_5 {P : Zt → Option Zv → Prop} (K : Int → Zl → List Zv → Zt → Prop) : sx_ K P [.aload 0, .iconst 0, .tableswitch 1 9 3 #[], .aload 0, .tableswitch 0 9 4 #[], .iconst (-1)] 15 = x_aload 0 (x_iconst 0 (x_p 109 3 0 4095 (x_aload 0 (x_g1 109 584 (x_iconst (-1) (K 15)))))) := ((xe_aload 0).trans (congrArg (x_aload 0) ((xe_iconst 0).trans (congrArg (x_iconst 0) ((xe_p (kk := 109) rfl tl_9_3).trans (congrArg (x_p 109 3 0 4095) ((xe_aload 0).trans (congrArg (x_aload 0) ((xe_g1 (kk := 109) rfl tl_9_4).trans (congrArg (x_g1 109 584) ((xe_iconst (-1)).trans (congrArg (x_iconst (-1)) xe_nil))))))))))))
theorem bk_X9_ask_18 : ck_ fX9 (some .int) cX9_ask 18 [.aload 0, .tableswitch 0 9 5 #[], .tableswitch 0 0 1 #[], .iconst 1, .iaload, .aload 0, .tableswitch 0 9 5 #[], .tableswitch 0 0 1 #[], .iconst 3, .iaload, .iadd, .iconst 2, .aload 0, .tableswitch 0 9 5 #[], .tableswitch 0 0 1 #[], .iconst 2, .iaload, .imul, .if_icmp .ne 55, .iconst 1, .goto 56] 55 = true := qck_r (nn_ _) (by decide +kernel)
theorem bs_X9_ask_18 {P : Zt → Option Zv → Prop} (K : Int → Zl → List Zv → Zt → Prop) : sx_ K P [.aload 0, .tableswitch 0 9 5 #[], .tableswitch 0 0 1 #[], .iconst 1, .iaload, .aload 0, .tableswitch 0 9 5 #[], .tableswitch 0 0 1 #[], .iconst 3, .iaload, .iadd, .iconst 2, .aload 0, .tableswitch 0 9 5 #[], .tableswitch 0 0 1 #[], .iconst 2, .iaload, .imul, .if_icmp .ne 55, .iconst 1, .goto 56] 55 = x_aload 0 (x_g5 109 100 5 (x_g2 100 401 (x_iconst 1 (x_iaload (x_aload 0 (x_g5 109 100 5 (x_g2 100 401 (x_iconst 3 (x_iaload (x_iadd (x_iconst 2 (x_aload 0 (x_g5 109 100 5 (x_g2 100 401 (x_iconst 2 (x_iaload (x_imul (x_if_icmp .ne 55 K (x_iconst 1 (x_goto 56 K)))))))))))))))))))) := ((xe_aload 0).trans (congrArg (x_aload 0) ((xe_g5 (kk := 109) rfl tl_9_5).trans (congrArg (x_g5 109 100 5) ((xe_g2 (kk := 100) rfl tl_0_1).trans (congrArg (x_g2 100 401) ((xe_iconst 1).trans (congrArg (x_iconst 1) ((xe_iaload).trans (congrArg (x_iaload) ((xe_aload 0).trans (congrArg (x_aload 0) ((xe_g5 (kk := 109) rfl tl_9_5).trans (congrArg (x_g5 109 100 5) ((xe_g2 (kk := 100) rfl tl_0_1).trans (congrArg (x_g2 100 401) ((xe_iconst 3).trans (congrArg (x_iconst 3) ((xe_iaload).trans (congrArg (x_iaload) ((xe_iadd).trans (congrArg (x_iadd) ((xe_iconst 2).trans (congrArg (x_iconst 2) ((xe_aload 0).trans (congrArg (x_aload 0) ((xe_g5 (kk := 109) rfl tl_9_5).trans (congrArg (x_g5 109 100 5) ((xe_g2 (kk := 100) rfl tl_0_1).trans (congrArg (x_g2 100 401) ((xe_iconst 2).trans (congrArg (x_iconst 2) ((xe_iaload).trans (congrArg (x_iaload) ((xe_imul).trans (congrArg (x_imul) ((xe_if_icmp .ne 55).trans (congrArg (x_if_icmp .ne 55 K) ((xe_iconst 1).trans (congrArg (x_iconst 1) (xe_goto 56)))))))))))))))))))))))))))))))))))))))))
theorem bk_X9_ask_55 : ck_ fX9 (some .int) cX9_ask 55 [.iconst 0] 56 = true := qck_r (nn_ _) (by decide +kernel)
theorem bs_X9_ask_55 {P : Zt → Option Zv → Prop} (K : Int → Zl → List Zv → Zt → Prop) : sx_ K P [.iconst 0] 56 = x_iconst 0 (K 56) := ((xe_iconst 0).trans (congrArg (x_iconst 0) xe_nil))
abbrev po_X9_ask (T : Zt) (c : Int) (t : Int) : Zt → Option Zv → Prop := fun T' r => ∃ x : Int, r = some (vI x) ∧ fr_ [(109, [5, 3, 9, 6, 2, 15]), (584, []), (588, []), (587, []), (591, []), (592, []), (590, []), (593, []), (594, []), (107, [1]), (542, []), (543, []), (544, []), (545, []), (546, []), (190, []), (191, [0])] T T' ∧ (T' 109 0 15 ≠ 0 → T' 190 (T' 109 0 15 - 1) (-2) = 4096 ∧ 1 ≤ T' 109 0 15) ∧ lh_ T T' ∧ T' 191 0 0 ≤ T 191 0 0 + 1
set_option maxHeartbeats 4000000 in
theorem ct_X9_ask {T : Zt} {c : Int} {t : Int} (hka : KA_ T) (hkm : KM_ T) (hkc : KC_ T) (hks : KS_ T) (hke : KE_ T) (hkw : KW_ T) (hsl : T 109 0 15 ≠ 0 → T 190 (T 109 0 15 - 1) (-2) = 4096 ∧ 1 ≤ T 109 0 15) (h9 : 0 ≤ T 191 0 0 ∧ T 191 0 0 ≤ 900000000) (hc : 0 ≤ c ∧ c < T 106 0 2) (ht : 0 ≤ t ∧ t ≤ 11) : Ct_ yX9_ask zX9_ask T [vR 109 0, vR 100 c, vI t] (po_X9_ask T c t) := by
  refine ct_of pn_9 rfl rfl (Nat.le_of_ble_eq_true rfl) (fun hT hav => ?_)
  have hr_t : -2147483648 ≤ t ∧ t ≤ 2147483647 := hav (vI t) (by simp)
  have hz : zX9_ask.2.2.2.1 = some .boolean → ∀ (T' : Zt) (x : Int), po_X9_ask T c t T' (some (vI x)) → 0 ≤ x ∧ x ≤ 1 := fun h => by cases h
  have hw := hkw c hc.1 hc.2
  have hb_competitionCount : 0 ≤ T 106 0 2 ∧ T 106 0 2 ≤ 4 := bd_f hT 106 2 (by decide +kernel : (tf_ 106)[2]? = some (0, 0, 0, 4)) 0
  have hb7 : 0 ≤ T 100 c 7 ∧ T 100 c 7 ≤ 400 := bd_f hT 100 7 (by decide +kernel : (tf_ 100)[7]? = some (0, 0, 0, 400)) c
  have hok0 := hT
  show J_ zX9_ask T (po_X9_ask T c t) 1 4096 0 [some (vR 109 0), some (vR 100 c), some (vI t), none] [] T
  have c_94 : ∀ (v : Int) (T2 : Zt), (fr_ [(109, [5, 3, 9]), (584, []), (588, [])] T T2) → (0 ≤ v ∧ v ≤ 1 ∧ (v = 1 → T 401 c 1 + T 401 c 3 = 2 * T 401 c 2)) → (T2 109 0 5 = c + 1) → (Q9_ T2) → J_ zX9_ask T (po_X9_ask T c t) 1 4096 94 [some (vR 109 0), some (vR 100 c), some (vI t), some (vI v)] [] T2 := by
    intro v T2 hf_94 iv2 t2 q2
    refine j_blx (F := fX9) tb_X9 (nn_ _) bk_X9_ask_94 bs_X9_ask_94 hz (fun K hK => ?_)
    refine hK 96 _ [vI t, vR 109 0] T2 ?_
    have e1 : T2 106 0 2 = T 106 0 2 := hf_94 106 0 2 rfl
    have e2 : T2 106 0 4 = T 106 0 4 := hf_94 106 0 4 rfl
    refine j_callV (y := yX9_takePoints) (Yc := zX9_takePoints) (rest := []) [vI t] (ct_X9_takePoints (T := T2) (KA__f hka (show fr_ [(109, [5, 3, 9, 6, 2, 15]), (584, []), (588, []), (587, []), (591, []), (592, []), (590, []), (593, []), (594, []), (107, [1]), (542, []), (543, []), (544, []), (545, []), (546, []), (190, []), (191, [0])] T T2 from fr_t (fr_0 _ _) (fr_s hf_94 rfl)) ⟨fun _ => rfl, fun _ => rfl, rfl, rfl, trivial⟩) (KC__f hkc (show fr_ [(109, [5, 3, 9, 6, 2, 15]), (584, []), (588, []), (587, []), (591, []), (592, []), (590, []), (593, []), (594, []), (107, [1]), (542, []), (543, []), (544, []), (545, []), (546, []), (190, []), (191, [0])] T T2 from fr_t (fr_0 _ _) (fr_s hf_94 rfl)) ⟨rfl, rfl, rfl, rfl, trivial⟩) (KS__f hks (show fr_ [(109, [5, 3, 9, 6, 2, 15]), (584, []), (588, []), (587, []), (591, []), (592, []), (590, []), (593, []), (594, []), (107, [1]), (542, []), (543, []), (544, []), (545, []), (546, []), (190, []), (191, [0])] T T2 from fr_t (fr_0 _ _) (fr_s hf_94 rfl)) ⟨fun _ => rfl, rfl, rfl, rfl, rfl, rfl, rfl, trivial⟩) (by omega) (by omega)) cl_X9_73 (qd_c (by decide +kernel)) (nn_ _) rfl (rf_of rfl) (Nat.le_of_ble_eq_true rfl) (Nat.le_of_ble_eq_true rfl) (Nat.le_of_ble_eq_true rfl) rfl ?_
    rintro U3 _ ⟨rfl, fU3, -⟩
    show J_ zX9_ask T (po_X9_ask T c t) 1 4096 99 _ [] U3
    refine j_blx (F := fX9) tb_X9 (nn_ _) bk_X9_ask_99 bs_X9_ask_99 hz (fun K hK => ?_)
    refine And.intro (fun c5 => ?_) (fun c5 => ?_)
    · refine hK 144 _ [] U3 ?_
      refine j_blx (F := fX9) tb_X9 (nn_ _) bk_X9_ask_144 bs_X9_ask_144 hz (fun K hK => ?_)
      refine hK 147 _ [vI t, vR 109 0, vR 109 0] U3 ?_
      have e6 : U3 109 0 5 = T2 109 0 5 := fU3 109 0 5 rfl
      have e7 : U3 106 0 2 = T 106 0 2 := (fU3 106 0 2 rfl).trans (hf_94 106 0 2 rfl)
      have e8 : U3 106 0 4 = T 106 0 4 := (fU3 106 0 4 rfl).trans (hf_94 106 0 4 rfl)
      refine j_callV (y := yX9_noneAbove) (Yc := zX9_noneAbove) (rest := [vR 109 0]) [vI t] (ct_X9_noneAbove (T := U3) (by omega)) cl_X9_88 (qd_c (by decide +kernel)) (nn_ _) rfl (rf_of rfl) (Nat.le_of_ble_eq_true rfl) (Nat.le_of_ble_eq_true rfl) (Nat.le_of_ble_eq_true rfl) rfl ?_
      rintro _ _ ⟨rfl, x9, rfl, hx9⟩
      show J_ zX9_ask T (po_X9_ask T c t) 1 4096 150 _ [vI x9, vR 109 0] U3
      refine j_blx (F := fX9) tb_X9 (nn_ _) bk_X9_ask_150 bs_X9_ask_150 hz (fun K hK => ?_)
      refine And.intro (fun c10 => ?_) (fun c10 => ?_)
      · refine hK 165 _ [vR 109 0] U3 ?_
        refine j_blx (F := fX9) tb_X9 (nn_ _) bk_X9_ask_165 bs_X9_ask_165 hz (fun K hK => ?_)
        refine bd_i (by omega) ?_
        refine x_nm (fun U11 hU11 => ?_)
        have e12 := up_f hU11
        intro b13 b13b
        have e14 : U11 109 0 2 = 0 := up_f hU11
        rw [e14] at b13 b13b ⊢
        refine (show po_X9_ask T c t U11 (some (vI 0)) from ?_)
        have e15 : U11 109 0 15 = T 109 0 15 := (up_j hU11 (by decide) 109 0).trans ((fU3 109 0 15 rfl).trans (hf_94 109 0 15 rfl))
        have e16 : U11 191 0 0 = T 191 0 0 := (up_k hU11 (by exact Nat.ne_of_beq_eq_false rfl) 0 0).trans ((fU3 191 0 0 rfl).trans (hf_94 191 0 0 rfl))
        have e17 : U11 109 0 15 = T 109 0 15 := (up_j hU11 (by decide) 109 0).trans ((fU3 109 0 15 rfl).trans (hf_94 109 0 15 rfl))
        have e18 : U11 191 0 0 = T 191 0 0 := (up_k hU11 (by exact Nat.ne_of_beq_eq_false rfl) 0 0).trans ((fU3 191 0 0 rfl).trans (hf_94 191 0 0 rfl))
        have e190 : ∀ x, U11 190 x (-2) = T 190 x (-2) := fun x => (up_k hU11 (by exact Nat.ne_of_beq_eq_false rfl) _ _).trans ((fU3 190 _ _ rfl).trans (hf_94 190 _ _ rfl))
        exact ⟨_, rfl, fr_u (fr_t (fr_t (fr_0 _ _) (fr_s hf_94 rfl)) (fr_s fU3 rfl)) hU11 rfl, by rw [e17, e190]; exact hsl, ⟨fun x _ => e190 x, by omega⟩, by omega⟩
      · refine hK 155 _ [vI 0, vR 109 0, vR 109 0] U3 ?_
        refine j_callV (y := yX9_search) (Yc := zX9_search_8) (rest := [vR 109 0]) [vI 0] (ct_X9_search_8 (T := U3) (q9_f q2 (show fr_ [(109, [3, 6, 2, 15]), (584, []), (587, []), (591, []), (592, []), (590, []), (593, []), (594, []), (107, [1]), (542, []), (543, []), (544, []), (545, []), (546, []), (190, []), (191, [0])] T2 U3 from fr_t (fr_0 _ _) (fr_s fU3 rfl)) ⟨fun _ _ => rfl, fun _ => rfl, rfl, rfl, rfl, rfl, rfl⟩) (KA__f hka (show fr_ [(109, [5, 3, 9, 6, 2, 15]), (584, []), (588, []), (587, []), (591, []), (592, []), (590, []), (593, []), (594, []), (107, [1]), (542, []), (543, []), (544, []), (545, []), (546, []), (190, []), (191, [0])] T U3 from fr_t (fr_t (fr_0 _ _) (fr_s hf_94 rfl)) (fr_s fU3 rfl)) ⟨fun _ => rfl, fun _ => rfl, rfl, rfl, trivial⟩) (by omega)) cl_X9_91_zX9_search_8 (qd_c (by decide +kernel)) (nn_ _) rfl (rf_of rfl) (Nat.le_of_ble_eq_true rfl) (Nat.le_of_ble_eq_true rfl) (Nat.le_of_ble_eq_true rfl) rfl ?_
        rintro U19 _ ⟨x20, rfl, fU19, hx20⟩
        show J_ zX9_ask T (po_X9_ask T c t) 1 4096 158 _ [vI x20, vR 109 0] U19
        refine j_blx (F := fX9) tb_X9 (nn_ _) bk_X9_ask_158 bs_X9_ask_158 hz (fun K hK => ?_)
        refine And.intro (fun c21 => ?_) (fun c21 => ?_)
        · refine hK 165 _ [vR 109 0] U19 ?_
          refine j_blx (F := fX9) tb_X9 (nn_ _) bk_X9_ask_165 bs_X9_ask_165 hz (fun K hK => ?_)
          refine bd_i (by omega) ?_
          refine x_nm (fun U22 hU22 => ?_)
          have e23 := up_f hU22
          intro b24 b24b
          have e25 : U22 109 0 2 = 0 := up_f hU22
          rw [e25] at b24 b24b ⊢
          refine (show po_X9_ask T c t U22 (some (vI 0)) from ?_)
          have e26 : U22 109 0 15 = T 109 0 15 := (up_j hU22 (by decide) 109 0).trans ((fU19 109 0 15 rfl).trans ((fU3 109 0 15 rfl).trans (hf_94 109 0 15 rfl)))
          have e27 : U22 191 0 0 = T 191 0 0 := (up_k hU22 (by exact Nat.ne_of_beq_eq_false rfl) 0 0).trans ((fU19 191 0 0 rfl).trans ((fU3 191 0 0 rfl).trans (hf_94 191 0 0 rfl)))
          have e28 : U22 109 0 15 = T 109 0 15 := (up_j hU22 (by decide) 109 0).trans ((fU19 109 0 15 rfl).trans ((fU3 109 0 15 rfl).trans (hf_94 109 0 15 rfl)))
          have e29 : U22 191 0 0 = T 191 0 0 := (up_k hU22 (by exact Nat.ne_of_beq_eq_false rfl) 0 0).trans ((fU19 191 0 0 rfl).trans ((fU3 191 0 0 rfl).trans (hf_94 191 0 0 rfl)))
          have e190 : ∀ x, U22 190 x (-2) = T 190 x (-2) := fun x => (up_k hU22 (by exact Nat.ne_of_beq_eq_false rfl) _ _).trans ((fU19 190 _ _ rfl).trans ((fU3 190 _ _ rfl).trans (hf_94 190 _ _ rfl)))
          exact ⟨_, rfl, fr_u (fr_t (fr_t (fr_t (fr_0 _ _) (fr_s hf_94 rfl)) (fr_s fU3 rfl)) (fr_s fU19 rfl)) hU22 rfl, by rw [e28, e190]; exact hsl, ⟨fun x _ => e190 x, by omega⟩, by omega⟩
        · refine hK 166 _ [vI 1, vR 109 0] U19 ?_
          refine j_blx (F := fX9) tb_X9 (nn_ _) bk_X9_ask_166 bs_X9_ask_166 hz (fun K hK => ?_)
          refine bd_i (by omega) ?_
          refine x_nm (fun U30 hU30 => ?_)
          have e31 := up_f hU30
          intro b32 b32b
          have e33 : U30 109 0 2 = 1 := up_f hU30
          rw [e33] at b32 b32b ⊢
          refine (show po_X9_ask T c t U30 (some (vI 1)) from ?_)
          have e34 : U30 109 0 15 = T 109 0 15 := (up_j hU30 (by decide) 109 0).trans ((fU19 109 0 15 rfl).trans ((fU3 109 0 15 rfl).trans (hf_94 109 0 15 rfl)))
          have e35 : U30 191 0 0 = T 191 0 0 := (up_k hU30 (by exact Nat.ne_of_beq_eq_false rfl) 0 0).trans ((fU19 191 0 0 rfl).trans ((fU3 191 0 0 rfl).trans (hf_94 191 0 0 rfl)))
          have e36 : U30 109 0 15 = T 109 0 15 := (up_j hU30 (by decide) 109 0).trans ((fU19 109 0 15 rfl).trans ((fU3 109 0 15 rfl).trans (hf_94 109 0 15 rfl)))
          have e37 : U30 191 0 0 = T 191 0 0 := (up_k hU30 (by exact Nat.ne_of_beq_eq_false rfl) 0 0).trans ((fU19 191 0 0 rfl).trans ((fU3 191 0 0 rfl).trans (hf_94 191 0 0 rfl)))
          have e190 : ∀ x, U30 190 x (-2) = T 190 x (-2) := fun x => (up_k hU30 (by exact Nat.ne_of_beq_eq_false rfl) _ _).trans ((fU19 190 _ _ rfl).trans ((fU3 190 _ _ rfl).trans (hf_94 190 _ _ rfl)))
          exact ⟨_, rfl, fr_u (fr_t (fr_t (fr_t (fr_0 _ _) (fr_s hf_94 rfl)) (fr_s fU3 rfl)) (fr_s fU19 rfl)) hU30 rfl, by rw [e36, e190]; exact hsl, ⟨fun x _ => e190 x, by omega⟩, by omega⟩
    · refine hK 105 _ [vI t, vR 109 0] U3 ?_
      have e38 : U3 109 0 5 = T2 109 0 5 := fU3 109 0 5 rfl
      have e39 : U3 106 0 2 = T 106 0 2 := (fU3 106 0 2 rfl).trans (hf_94 106 0 2 rfl)
      have e40 : U3 106 0 4 = T 106 0 4 := (fU3 106 0 4 rfl).trans (hf_94 106 0 4 rfl)
      have e41 : U3 401 c 1 = T 401 c 1 := (fU3 401 c 1 rfl).trans (hf_94 401 c 1 rfl)
      have e42 : U3 401 c 2 = T 401 c 2 := (fU3 401 c 2 rfl).trans (hf_94 401 c 2 rfl)
      have yc : (U3 109 0 5 - 1) = c := by omega
      refine j_callV (y := yX9_setCaps) (Yc := zX9_setCaps) (rest := []) [vI t] (ct_X9_setCaps (T := U3) (q9_f q2 (show fr_ [(109, [3, 6, 2, 15]), (584, []), (587, []), (591, []), (592, []), (590, []), (593, []), (594, []), (107, [1]), (542, []), (543, []), (544, []), (545, []), (546, []), (190, []), (191, [0])] T2 U3 from fr_t (fr_0 _ _) (fr_s fU3 rfl)) ⟨fun _ _ => rfl, fun _ => rfl, rfl, rfl, rfl, rfl, rfl⟩) (KA__f hka (show fr_ [(109, [5, 3, 9, 6, 2, 15]), (584, []), (588, []), (587, []), (591, []), (592, []), (590, []), (593, []), (594, []), (107, [1]), (542, []), (543, []), (544, []), (545, []), (546, []), (190, []), (191, [0])] T U3 from fr_t (fr_t (fr_0 _ _) (fr_s hf_94 rfl)) (fr_s fU3 rfl)) ⟨fun _ => rfl, fun _ => rfl, rfl, rfl, trivial⟩) (by rw [yc]; omega) (by omega)) cl_X9_77 (qd_c (by decide +kernel)) (nn_ _) rfl (rf_of rfl) (Nat.le_of_ble_eq_true rfl) (Nat.le_of_ble_eq_true rfl) (Nat.le_of_ble_eq_true rfl) rfl ?_
      rintro U43 _ ⟨rfl, fU43, -⟩
      show J_ zX9_ask T (po_X9_ask T c t) 1 4096 108 _ [] U43
      refine j_blx (F := fX9) tb_X9 (nn_ _) bk_X9_ask_108 bs_X9_ask_108 hz (fun K hK => ?_)
      refine hK 111 _ [vI t, vR 109 0, vR 109 0] U43 ?_
      refine j_callV (y := yX9_spreadParts) (Yc := zX9_spreadParts) (rest := [vR 109 0]) [vI t] (ct_X9_spreadParts (T := U43) (q9_f q2 (show fr_ [(109, [3, 6, 2, 15]), (584, []), (587, []), (591, []), (592, []), (590, []), (593, []), (594, []), (107, [1]), (542, []), (543, []), (544, []), (545, []), (546, []), (190, []), (191, [0])] T2 U43 from fr_t (fr_t (fr_0 _ _) (fr_s fU3 rfl)) (fr_s fU43 rfl)) ⟨fun _ _ => rfl, fun _ => rfl, rfl, rfl, rfl, rfl, rfl⟩) (KA__f hka (show fr_ [(109, [5, 3, 9, 6, 2, 15]), (584, []), (588, []), (587, []), (591, []), (592, []), (590, []), (593, []), (594, []), (107, [1]), (542, []), (543, []), (544, []), (545, []), (546, []), (190, []), (191, [0])] T U43 from fr_t (fr_t (fr_t (fr_0 _ _) (fr_s hf_94 rfl)) (fr_s fU3 rfl)) (fr_s fU43 rfl)) ⟨fun _ => rfl, fun _ => rfl, rfl, rfl, trivial⟩) (by omega)) cl_X9_80 (qd_c (by decide +kernel)) (nn_ _) rfl (rf_of rfl) (Nat.le_of_ble_eq_true rfl) (Nat.le_of_ble_eq_true rfl) (Nat.le_of_ble_eq_true rfl) rfl ?_
      rintro U45 _ ⟨x46, rfl, fU45, hx46⟩
      show J_ zX9_ask T (po_X9_ask T c t) 1 4096 114 _ [vI x46, vR 109 0] U45
      refine j_blx (F := fX9) tb_X9 (nn_ _) bk_X9_ask_114 bs_X9_ask_114 hz (fun K hK => ?_)
      refine And.intro (fun c47 => ?_) (fun c47 => ?_)
      · refine hK 121 _ [vR 109 0] U45 ?_
        refine j_blx (F := fX9) tb_X9 (nn_ _) bk_X9_ask_121 bs_X9_ask_121 hz (fun K hK => ?_)
        refine bd_i (by omega) ?_
        refine x_nm (fun U48 hU48 => ?_)
        have e49 := up_f hU48
        intro b50 b50b
        have e51 : U48 109 0 2 = 0 := up_f hU48
        rw [e51] at b50 b50b ⊢
        refine And.intro (fun c52 => ?_) (fun c52 => ?_)
        · refine hK 169 _ [] U48 ?_
          refine j_blx (F := fX9) tb_X9 (nn_ _) bk_X9_ask_169 bs_X9_ask_169 hz (fun K hK => ?_)
          intro b53 b53b
          have e54 : U48 109 0 2 = 0 := up_f hU48
          rw [e54] at b53 b53b ⊢
          refine (show po_X9_ask T c t U48 (some (vI 0)) from ?_)
          have e55 : U48 109 0 15 = T 109 0 15 := (up_j hU48 (by decide) 109 0).trans ((fU45 109 0 15 rfl).trans ((fU43 109 0 15 rfl).trans ((fU3 109 0 15 rfl).trans (hf_94 109 0 15 rfl))))
          have e56 : U48 191 0 0 = T 191 0 0 := (up_k hU48 (by exact Nat.ne_of_beq_eq_false rfl) 0 0).trans ((fU45 191 0 0 rfl).trans ((fU43 191 0 0 rfl).trans ((fU3 191 0 0 rfl).trans (hf_94 191 0 0 rfl))))
          have e57 : U48 109 0 15 = T 109 0 15 := (up_j hU48 (by decide) 109 0).trans ((fU45 109 0 15 rfl).trans ((fU43 109 0 15 rfl).trans ((fU3 109 0 15 rfl).trans (hf_94 109 0 15 rfl))))
          have e58 : U48 191 0 0 = T 191 0 0 := (up_k hU48 (by exact Nat.ne_of_beq_eq_false rfl) 0 0).trans ((fU45 191 0 0 rfl).trans ((fU43 191 0 0 rfl).trans ((fU3 191 0 0 rfl).trans (hf_94 191 0 0 rfl))))
          have e190 : ∀ x, U48 190 x (-2) = T 190 x (-2) := fun x => (up_k hU48 (by exact Nat.ne_of_beq_eq_false rfl) _ _).trans ((fU45 190 _ _ rfl).trans ((fU43 190 _ _ rfl).trans ((fU3 190 _ _ rfl).trans (hf_94 190 _ _ rfl))))
          exact ⟨_, rfl, fr_u (fr_t (fr_t (fr_t (fr_t (fr_0 _ _) (fr_s hf_94 rfl)) (fr_s fU3 rfl)) (fr_s fU43 rfl)) (fr_s fU45 rfl)) hU48 rfl, by rw [e57, e190]; exact hsl, ⟨fun x _ => e190 x, by omega⟩, by omega⟩
        · refine hK 135 _ [vI t, vR 109 0, vR 109 0] U48 ?_
          have e59 : U48 109 0 5 = T2 109 0 5 := (up_j hU48 (by decide) 109 0).trans ((fU45 109 0 5 rfl).trans ((fU43 109 0 5 rfl).trans (fU3 109 0 5 rfl)))
          have e60 : U48 106 0 2 = T 106 0 2 := (up_k hU48 (by exact Nat.ne_of_beq_eq_false rfl) 0 2).trans ((fU45 106 0 2 rfl).trans ((fU43 106 0 2 rfl).trans ((fU3 106 0 2 rfl).trans (hf_94 106 0 2 rfl))))
          have e61 : U48 106 0 4 = T 106 0 4 := (up_k hU48 (by exact Nat.ne_of_beq_eq_false rfl) 0 4).trans ((fU45 106 0 4 rfl).trans ((fU43 106 0 4 rfl).trans ((fU3 106 0 4 rfl).trans (hf_94 106 0 4 rfl))))
          have e62 : U48 109 0 15 = T 109 0 15 := (up_j hU48 (by decide) 109 0).trans ((fU45 109 0 15 rfl).trans ((fU43 109 0 15 rfl).trans ((fU3 109 0 15 rfl).trans (hf_94 109 0 15 rfl))))
          have e63 : U48 191 0 0 = T 191 0 0 := (up_k hU48 (by exact Nat.ne_of_beq_eq_false rfl) 0 0).trans ((fU45 191 0 0 rfl).trans ((fU43 191 0 0 rfl).trans ((fU3 191 0 0 rfl).trans (hf_94 191 0 0 rfl))))
          have yd : (U48 109 0 5 - 1) = c := by omega
          refine j_callV (y := yX9_leastCut) (Yc := zX9_leastCut) (rest := [vR 109 0]) [vI t] (ct_X9_leastCut (T := U48) (q9_f q2 (show fr_ [(109, [3, 6, 2, 15]), (584, []), (587, []), (591, []), (592, []), (590, []), (593, []), (594, []), (107, [1]), (542, []), (543, []), (544, []), (545, []), (546, []), (190, []), (191, [0])] T2 U48 from fr_u (fr_t (fr_t (fr_t (fr_0 _ _) (fr_s fU3 rfl)) (fr_s fU43 rfl)) (fr_s fU45 rfl)) hU48 rfl) ⟨fun _ _ => rfl, fun _ => rfl, rfl, rfl, rfl, rfl, rfl⟩) (KA__f hka (show fr_ [(109, [5, 3, 9, 6, 2, 15]), (584, []), (588, []), (587, []), (591, []), (592, []), (590, []), (593, []), (594, []), (107, [1]), (542, []), (543, []), (544, []), (545, []), (546, []), (190, []), (191, [0])] T U48 from fr_u (fr_t (fr_t (fr_t (fr_t (fr_0 _ _) (fr_s hf_94 rfl)) (fr_s fU3 rfl)) (fr_s fU43 rfl)) (fr_s fU45 rfl)) hU48 rfl) ⟨fun _ => rfl, fun _ => rfl, rfl, rfl, trivial⟩) (by rw [yd]; exact KEc_f (hke c (by omega) (by omega)) (show fr_ [(109, [5, 3, 9, 6, 2, 15]), (584, []), (588, []), (587, []), (591, []), (592, []), (590, []), (593, []), (594, []), (107, [1]), (542, []), (543, []), (544, []), (545, []), (546, []), (190, []), (191, [0])] T U48 from fr_u (fr_t (fr_t (fr_t (fr_t (fr_0 _ _) (fr_s hf_94 rfl)) (fr_s fU3 rfl)) (fr_s fU43 rfl)) (fr_s fU45 rfl)) hU48 rfl) ⟨rfl, fun _ => rfl, fun _ => rfl⟩) (by rw [e62, show ∀ x, U48 190 x (-2) = T 190 x (-2) from fun x => (up_k hU48 (by exact Nat.ne_of_beq_eq_false rfl) _ _).trans ((fU45 190 _ _ rfl).trans ((fU43 190 _ _ rfl).trans ((fU3 190 _ _ rfl).trans (hf_94 190 _ _ rfl))))]; exact hsl) (by omega)) cl_X9_84 (qd_c (by decide +kernel)) (nn_ _) rfl (rf_of rfl) (Nat.le_of_ble_eq_true rfl) (Nat.le_of_ble_eq_true rfl) (Nat.le_of_ble_eq_true rfl) rfl ?_
          rintro U64 _ ⟨x65, rfl, fU64, hx65, slU64, lhU64, mU64⟩
          show J_ zX9_ask T (po_X9_ask T c t) 0 0 138 _ [vI x65, vR 109 0] U64
          refine j_blx (F := fX9) tb_X9 (nn_ _) bk_X9_ask_138 bs_X9_ask_138 hz (fun K hK => ?_)
          refine bd_i (by omega) ?_
          refine x_nm (fun U66 hU66 => ?_)
          have e67 := up_f hU66
          refine hK 169 _ [] U66 ?_
          refine j_blx (F := fX9) tb_X9 (nn_ _) bk_X9_ask_169 bs_X9_ask_169 hz (fun K hK => ?_)
          intro b68 b68b
          have e69 : U66 109 0 2 = 0 := (up_j hU66 (by decide) 109 0).trans ((fU64 109 0 2 rfl).trans (up_f hU48))
          rw [e69] at b68 b68b ⊢
          refine (show po_X9_ask T c t U66 (some (vI 0)) from ?_)
          have e70 : U66 109 0 15 = U64 109 0 15 := up_j hU66 (by decide) 109 0
          have e71 : U66 191 0 0 = U64 191 0 0 := up_k hU66 (by exact Nat.ne_of_beq_eq_false rfl) 0 0
          have e190 : ∀ x, U66 190 x (-2) = U64 190 x (-2) := fun x => up_k hU66 (by exact Nat.ne_of_beq_eq_false rfl) _ _
          have e15 : U66 109 0 15 = U64 109 0 15 := up_j hU66 (by decide) _ _
          have e91 : U66 191 0 0 = U64 191 0 0 := up_k hU66 (by exact Nat.ne_of_beq_eq_false rfl) _ _
          have e92 : U48 191 0 0 = T 191 0 0 := (up_k hU48 (by exact Nat.ne_of_beq_eq_false rfl) _ _).trans ((fU45 191 _ _ rfl).trans ((fU43 191 _ _ rfl).trans ((fU3 191 _ _ rfl).trans (hf_94 191 _ _ rfl))))
          have e93 : ∀ x, U48 190 x (-2) = T 190 x (-2) := fun x => (up_k hU48 (by exact Nat.ne_of_beq_eq_false rfl) _ _).trans ((fU45 190 _ _ rfl).trans ((fU43 190 _ _ rfl).trans ((fU3 190 _ _ rfl).trans (hf_94 190 _ _ rfl))))
          exact ⟨_, rfl, fr_u (fr_t (fr_u (fr_t (fr_t (fr_t (fr_t (fr_0 _ _) (fr_s hf_94 rfl)) (fr_s fU3 rfl)) (fr_s fU43 rfl)) (fr_s fU45 rfl)) hU48 rfl) (fr_s fU64 rfl)) hU66 rfl, by rw [e15, e190]; exact slU64, lh_t (lh_t ⟨fun x _ => e93 x, by omega⟩ lhU64) ⟨fun x _ => e190 x, by omega⟩, by have := mU64; omega⟩
      · refine hK 122 _ [vI 1, vR 109 0] U45 ?_
        refine j_blx (F := fX9) tb_X9 (nn_ _) bk_X9_ask_122 bs_X9_ask_122 hz (fun K hK => ?_)
        refine bd_i (by omega) ?_
        refine x_nm (fun U72 hU72 => ?_)
        have e73 := up_f hU72
        intro b74 b74b
        have e75 : U72 109 0 2 = 1 := up_f hU72
        rw [e75] at b74 b74b ⊢
        refine And.intro (fun c76 => ?_) (fun c76 => ?_)
        · refine hK 169 _ [] U72 ?_
          refine j_blx (F := fX9) tb_X9 (nn_ _) bk_X9_ask_169 bs_X9_ask_169 hz (fun K hK => ?_)
          intro b77 b77b
          have e78 : U72 109 0 2 = 1 := up_f hU72
          rw [e78] at b77 b77b ⊢
          refine (show po_X9_ask T c t U72 (some (vI 1)) from ?_)
          have e79 : U72 109 0 15 = T 109 0 15 := (up_j hU72 (by decide) 109 0).trans ((fU45 109 0 15 rfl).trans ((fU43 109 0 15 rfl).trans ((fU3 109 0 15 rfl).trans (hf_94 109 0 15 rfl))))
          have e80 : U72 191 0 0 = T 191 0 0 := (up_k hU72 (by exact Nat.ne_of_beq_eq_false rfl) 0 0).trans ((fU45 191 0 0 rfl).trans ((fU43 191 0 0 rfl).trans ((fU3 191 0 0 rfl).trans (hf_94 191 0 0 rfl))))
          have e81 : U72 109 0 15 = T 109 0 15 := (up_j hU72 (by decide) 109 0).trans ((fU45 109 0 15 rfl).trans ((fU43 109 0 15 rfl).trans ((fU3 109 0 15 rfl).trans (hf_94 109 0 15 rfl))))
          have e82 : U72 191 0 0 = T 191 0 0 := (up_k hU72 (by exact Nat.ne_of_beq_eq_false rfl) 0 0).trans ((fU45 191 0 0 rfl).trans ((fU43 191 0 0 rfl).trans ((fU3 191 0 0 rfl).trans (hf_94 191 0 0 rfl))))
          have e190 : ∀ x, U72 190 x (-2) = T 190 x (-2) := fun x => (up_k hU72 (by exact Nat.ne_of_beq_eq_false rfl) _ _).trans ((fU45 190 _ _ rfl).trans ((fU43 190 _ _ rfl).trans ((fU3 190 _ _ rfl).trans (hf_94 190 _ _ rfl))))
          exact ⟨_, rfl, fr_u (fr_t (fr_t (fr_t (fr_t (fr_0 _ _) (fr_s hf_94 rfl)) (fr_s fU3 rfl)) (fr_s fU43 rfl)) (fr_s fU45 rfl)) hU72 rfl, by rw [e81, e190]; exact hsl, ⟨fun x _ => e190 x, by omega⟩, by omega⟩
        · refine hK 135 _ [vI t, vR 109 0, vR 109 0] U72 ?_
          have e83 : U72 109 0 5 = T2 109 0 5 := (up_j hU72 (by decide) 109 0).trans ((fU45 109 0 5 rfl).trans ((fU43 109 0 5 rfl).trans (fU3 109 0 5 rfl)))
          have e84 : U72 106 0 2 = T 106 0 2 := (up_k hU72 (by exact Nat.ne_of_beq_eq_false rfl) 0 2).trans ((fU45 106 0 2 rfl).trans ((fU43 106 0 2 rfl).trans ((fU3 106 0 2 rfl).trans (hf_94 106 0 2 rfl))))
          have e85 : U72 106 0 4 = T 106 0 4 := (up_k hU72 (by exact Nat.ne_of_beq_eq_false rfl) 0 4).trans ((fU45 106 0 4 rfl).trans ((fU43 106 0 4 rfl).trans ((fU3 106 0 4 rfl).trans (hf_94 106 0 4 rfl))))
          have e86 : U72 109 0 15 = T 109 0 15 := (up_j hU72 (by decide) 109 0).trans ((fU45 109 0 15 rfl).trans ((fU43 109 0 15 rfl).trans ((fU3 109 0 15 rfl).trans (hf_94 109 0 15 rfl))))
          have e87 : U72 191 0 0 = T 191 0 0 := (up_k hU72 (by exact Nat.ne_of_beq_eq_false rfl) 0 0).trans ((fU45 191 0 0 rfl).trans ((fU43 191 0 0 rfl).trans ((fU3 191 0 0 rfl).trans (hf_94 191 0 0 rfl))))
          have yd : (U72 109 0 5 - 1) = c := by omega
          refine j_callV (y := yX9_leastCut) (Yc := zX9_leastCut) (rest := [vR 109 0]) [vI t] (ct_X9_leastCut (T := U72) (q9_f q2 (show fr_ [(109, [3, 6, 2, 15]), (584, []), (587, []), (591, []), (592, []), (590, []), (593, []), (594, []), (107, [1]), (542, []), (543, []), (544, []), (545, []), (546, []), (190, []), (191, [0])] T2 U72 from fr_u (fr_t (fr_t (fr_t (fr_0 _ _) (fr_s fU3 rfl)) (fr_s fU43 rfl)) (fr_s fU45 rfl)) hU72 rfl) ⟨fun _ _ => rfl, fun _ => rfl, rfl, rfl, rfl, rfl, rfl⟩) (KA__f hka (show fr_ [(109, [5, 3, 9, 6, 2, 15]), (584, []), (588, []), (587, []), (591, []), (592, []), (590, []), (593, []), (594, []), (107, [1]), (542, []), (543, []), (544, []), (545, []), (546, []), (190, []), (191, [0])] T U72 from fr_u (fr_t (fr_t (fr_t (fr_t (fr_0 _ _) (fr_s hf_94 rfl)) (fr_s fU3 rfl)) (fr_s fU43 rfl)) (fr_s fU45 rfl)) hU72 rfl) ⟨fun _ => rfl, fun _ => rfl, rfl, rfl, trivial⟩) (by rw [yd]; exact KEc_f (hke c (by omega) (by omega)) (show fr_ [(109, [5, 3, 9, 6, 2, 15]), (584, []), (588, []), (587, []), (591, []), (592, []), (590, []), (593, []), (594, []), (107, [1]), (542, []), (543, []), (544, []), (545, []), (546, []), (190, []), (191, [0])] T U72 from fr_u (fr_t (fr_t (fr_t (fr_t (fr_0 _ _) (fr_s hf_94 rfl)) (fr_s fU3 rfl)) (fr_s fU43 rfl)) (fr_s fU45 rfl)) hU72 rfl) ⟨rfl, fun _ => rfl, fun _ => rfl⟩) (by rw [e86, show ∀ x, U72 190 x (-2) = T 190 x (-2) from fun x => (up_k hU72 (by exact Nat.ne_of_beq_eq_false rfl) _ _).trans ((fU45 190 _ _ rfl).trans ((fU43 190 _ _ rfl).trans ((fU3 190 _ _ rfl).trans (hf_94 190 _ _ rfl))))]; exact hsl) (by omega)) cl_X9_84 (qd_c (by decide +kernel)) (nn_ _) rfl (rf_of rfl) (Nat.le_of_ble_eq_true rfl) (Nat.le_of_ble_eq_true rfl) (Nat.le_of_ble_eq_true rfl) rfl ?_
          rintro U88 _ ⟨x89, rfl, fU88, hx89, slU88, lhU88, mU88⟩
          show J_ zX9_ask T (po_X9_ask T c t) 0 0 138 _ [vI x89, vR 109 0] U88
          refine j_blx (F := fX9) tb_X9 (nn_ _) bk_X9_ask_138 bs_X9_ask_138 hz (fun K hK => ?_)
          refine bd_i (by omega) ?_
          refine x_nm (fun U90 hU90 => ?_)
          have e91 := up_f hU90
          refine hK 169 _ [] U90 ?_
          refine j_blx (F := fX9) tb_X9 (nn_ _) bk_X9_ask_169 bs_X9_ask_169 hz (fun K hK => ?_)
          intro b92 b92b
          have e93 : U90 109 0 2 = 1 := (up_j hU90 (by decide) 109 0).trans ((fU88 109 0 2 rfl).trans (up_f hU72))
          rw [e93] at b92 b92b ⊢
          refine (show po_X9_ask T c t U90 (some (vI 1)) from ?_)
          have e94 : U90 109 0 15 = U88 109 0 15 := up_j hU90 (by decide) 109 0
          have e95 : U90 191 0 0 = U88 191 0 0 := up_k hU90 (by exact Nat.ne_of_beq_eq_false rfl) 0 0
          have e190 : ∀ x, U90 190 x (-2) = U88 190 x (-2) := fun x => up_k hU90 (by exact Nat.ne_of_beq_eq_false rfl) _ _
          have e15 : U90 109 0 15 = U88 109 0 15 := up_j hU90 (by decide) _ _
          have e91 : U90 191 0 0 = U88 191 0 0 := up_k hU90 (by exact Nat.ne_of_beq_eq_false rfl) _ _
          have e92 : U72 191 0 0 = T 191 0 0 := (up_k hU72 (by exact Nat.ne_of_beq_eq_false rfl) _ _).trans ((fU45 191 _ _ rfl).trans ((fU43 191 _ _ rfl).trans ((fU3 191 _ _ rfl).trans (hf_94 191 _ _ rfl))))
          have e93 : ∀ x, U72 190 x (-2) = T 190 x (-2) := fun x => (up_k hU72 (by exact Nat.ne_of_beq_eq_false rfl) _ _).trans ((fU45 190 _ _ rfl).trans ((fU43 190 _ _ rfl).trans ((fU3 190 _ _ rfl).trans (hf_94 190 _ _ rfl))))
          exact ⟨_, rfl, fr_u (fr_t (fr_u (fr_t (fr_t (fr_t (fr_t (fr_0 _ _) (fr_s hf_94 rfl)) (fr_s fU3 rfl)) (fr_s fU43 rfl)) (fr_s fU45 rfl)) hU72 rfl) (fr_s fU88 rfl)) hU90 rfl, by rw [e15, e190]; exact slU88, lh_t (lh_t ⟨fun x _ => e93 x, by omega⟩ lhU88) ⟨fun x _ => e190 x, by omega⟩, by have := mU88; omega⟩
  have c_56 : ∀ (v : Int) (T1 : Zt), (fr_ [(109, [5, 3]), (584, [])] T T1) → (0 ≤ v ∧ v ≤ 1 ∧ (v = 1 → T 401 c 1 + T 401 c 3 = 2 * T 401 c 2)) → (T1 109 0 5 = c + 1) → J_ zX9_ask T (po_X9_ask T c t) 1 4096 56 [some (vR 109 0), some (vR 100 c), some (vI t), none] [vI v] T1 := by
    intro v T1 hf_56 iv1 t1
    refine j_blx (F := fX9) tb_X9 (nn_ _) bk_X9_ask_56 bs_X9_ask_56 hz (fun K hK => ?_)
    refine And.intro (fun c96 => ?_) (fun c96 => ?_)
    · exact absurd c96 (by omega)
    · have z97 : T1 109 0 5 - 1 = c := by omega
      rw [z97]
      refine ix_i (by omega) ?_
      intro b98 b98b
      have e99 : T1 403 c t = T 403 c t := hf_56 403 c t rfl
      rw [e99] at b98 b98b ⊢
      refine And.intro (fun c100 => ?_) (fun c100 => ?_)
      · refine hK 76 [some (vR 109 0), some (vR 100 c), some (vI t), some (vI v)] [vI (T 403 c t), vR 109 0] T1 ?_
        refine j_blx (F := fX9) tb_X9 (nn_ _) bk_X9_ask_76 bs_X9_ask_76 hz (fun K hK => ?_)
        refine hK 78 _ [vI 8, vI (T 403 c t), vR 109 0] T1 ?_
        have e101 : T1 106 0 2 = T 106 0 2 := hf_56 106 0 2 rfl
        have e102 : T1 106 0 4 = T 106 0 4 := hf_56 106 0 4 rfl
        refine j_callV (y := yX9_listOpen) (Yc := zX9_listOpen) (rest := []) [vI (T 403 c t), vI 8] (ct_X9_listOpen (T := T1) (KA__f hka (show fr_ [(109, [5, 3, 9, 6, 2, 15]), (584, []), (588, []), (587, []), (591, []), (592, []), (590, []), (593, []), (594, []), (107, [1]), (542, []), (543, []), (544, []), (545, []), (546, []), (190, []), (191, [0])] T T1 from fr_t (fr_0 _ _) (fr_s hf_56 rfl)) ⟨fun _ => rfl, fun _ => rfl, rfl, rfl, trivial⟩) (KM__f hkm (show fr_ [(109, [5, 3, 9, 6, 2, 15]), (584, []), (588, []), (587, []), (591, []), (592, []), (590, []), (593, []), (594, []), (107, [1]), (542, []), (543, []), (544, []), (545, []), (546, []), (190, []), (191, [0])] T T1 from fr_t (fr_0 _ _) (fr_s hf_56 rfl)) ⟨rfl, rfl, rfl, rfl, trivial⟩) (KC__f hkc (show fr_ [(109, [5, 3, 9, 6, 2, 15]), (584, []), (588, []), (587, []), (591, []), (592, []), (590, []), (593, []), (594, []), (107, [1]), (542, []), (543, []), (544, []), (545, []), (546, []), (190, []), (191, [0])] T T1 from fr_t (fr_0 _ _) (fr_s hf_56 rfl)) ⟨rfl, rfl, rfl, rfl, trivial⟩) (by omega) (by omega)) cl_X9_69 (qd_c (by decide +kernel)) (nn_ _) rfl (rf_of rfl) (Nat.le_of_ble_eq_true rfl) (Nat.le_of_ble_eq_true rfl) (Nat.le_of_ble_eq_true rfl) rfl ?_
        rintro U103 _ ⟨x104, rfl, fU103, hx104, olU103⟩
        show J_ zX9_ask T (po_X9_ask T c t) 1 4096 81 _ [vI x104] U103
        refine j_blx (F := fX9) tb_X9 (nn_ _) bk_X9_ask_81 bs_X9_ask_81 hz (fun K hK => ?_)
        refine And.intro (fun c105 => ?_) (fun c105 => ?_)
        · refine hK 94 _ [] U103 ?_
          refine j_ok (fun gok _ => ?_)
          have q5x : U103 109 0 5 = c + 1 := (fU103 109 _ _ rfl).trans t1
          have e106 : U103 109 0 5 = T1 109 0 5 := fU103 109 0 5 rfl
          refine c_94 v U103 ?_ ?_ ?_ ?_
          · exact fr_t (fr_t (fr_0 _ _) (fr_s hf_56 rfl)) (fr_s fU103 rfl)
          · omega
          · exact q5x
          · exact q9_of gok hks hkc (by omega) q5x hb7.1 (fun j a b => by have y := olU103 j a b; rw [show (T1 109 0 5 - 1) = c by omega, show T1 100 c 7 = T 100 c 7 from hf_56 100 _ _ rfl, show T1 100 c 8 = T 100 c 8 from hf_56 100 _ _ rfl] at y; exact y) (fun i j => (fU103 102 _ _ rfl).trans (hf_56 102 _ _ rfl)) (fun i j => (fU103 404 _ _ rfl).trans (hf_56 404 _ _ rfl)) ((fU103 106 _ _ rfl).trans (hf_56 106 _ _ rfl))
        · refine bd_i (by omega) ?_
          refine x_nm (fun U107 hU107 => ?_)
          have e108 := up_f hU107
          intro b109 b109b
          have e110 : U107 109 0 2 = 2 := up_f hU107
          rw [e110] at b109 b109b ⊢
          refine (show po_X9_ask T c t U107 (some (vI 2)) from ?_)
          have e111 : U107 109 0 15 = T 109 0 15 := (up_j hU107 (by decide) 109 0).trans ((fU103 109 0 15 rfl).trans (hf_56 109 0 15 rfl))
          have e112 : U107 191 0 0 = T 191 0 0 := (up_k hU107 (by exact Nat.ne_of_beq_eq_false rfl) 0 0).trans ((fU103 191 0 0 rfl).trans (hf_56 191 0 0 rfl))
          have e113 : U107 109 0 15 = T 109 0 15 := (up_j hU107 (by decide) 109 0).trans ((fU103 109 0 15 rfl).trans (hf_56 109 0 15 rfl))
          have e114 : U107 191 0 0 = T 191 0 0 := (up_k hU107 (by exact Nat.ne_of_beq_eq_false rfl) 0 0).trans ((fU103 191 0 0 rfl).trans (hf_56 191 0 0 rfl))
          have e190 : ∀ x, U107 190 x (-2) = T 190 x (-2) := fun x => (up_k hU107 (by exact Nat.ne_of_beq_eq_false rfl) _ _).trans ((fU103 190 _ _ rfl).trans (hf_56 190 _ _ rfl))
          exact ⟨_, rfl, fr_u (fr_t (fr_t (fr_0 _ _) (fr_s hf_56 rfl)) (fr_s fU103 rfl)) hU107 rfl, by rw [e113, e190]; exact hsl, ⟨fun x _ => e190 x, by omega⟩, by omega⟩
      · refine hK 78 _ [vI 40, vI (T 403 c t), vR 109 0] T1 ?_
        have e115 : T1 106 0 2 = T 106 0 2 := hf_56 106 0 2 rfl
        have e116 : T1 106 0 4 = T 106 0 4 := hf_56 106 0 4 rfl
        refine j_callV (y := yX9_listOpen) (Yc := zX9_listOpen) (rest := []) [vI (T 403 c t), vI 40] (ct_X9_listOpen (T := T1) (KA__f hka (show fr_ [(109, [5, 3, 9, 6, 2, 15]), (584, []), (588, []), (587, []), (591, []), (592, []), (590, []), (593, []), (594, []), (107, [1]), (542, []), (543, []), (544, []), (545, []), (546, []), (190, []), (191, [0])] T T1 from fr_t (fr_0 _ _) (fr_s hf_56 rfl)) ⟨fun _ => rfl, fun _ => rfl, rfl, rfl, trivial⟩) (KM__f hkm (show fr_ [(109, [5, 3, 9, 6, 2, 15]), (584, []), (588, []), (587, []), (591, []), (592, []), (590, []), (593, []), (594, []), (107, [1]), (542, []), (543, []), (544, []), (545, []), (546, []), (190, []), (191, [0])] T T1 from fr_t (fr_0 _ _) (fr_s hf_56 rfl)) ⟨rfl, rfl, rfl, rfl, trivial⟩) (KC__f hkc (show fr_ [(109, [5, 3, 9, 6, 2, 15]), (584, []), (588, []), (587, []), (591, []), (592, []), (590, []), (593, []), (594, []), (107, [1]), (542, []), (543, []), (544, []), (545, []), (546, []), (190, []), (191, [0])] T T1 from fr_t (fr_0 _ _) (fr_s hf_56 rfl)) ⟨rfl, rfl, rfl, rfl, trivial⟩) (by omega) (by omega)) cl_X9_69 (qd_c (by decide +kernel)) (nn_ _) rfl (rf_of rfl) (Nat.le_of_ble_eq_true rfl) (Nat.le_of_ble_eq_true rfl) (Nat.le_of_ble_eq_true rfl) rfl ?_
        rintro U117 _ ⟨x118, rfl, fU117, hx118, olU117⟩
        show J_ zX9_ask T (po_X9_ask T c t) 1 4096 81 _ [vI x118] U117
        refine j_blx (F := fX9) tb_X9 (nn_ _) bk_X9_ask_81 bs_X9_ask_81 hz (fun K hK => ?_)
        refine And.intro (fun c119 => ?_) (fun c119 => ?_)
        · refine hK 94 _ [] U117 ?_
          refine j_ok (fun gok _ => ?_)
          have q5x : U117 109 0 5 = c + 1 := (fU117 109 _ _ rfl).trans t1
          have e120 : U117 109 0 5 = T1 109 0 5 := fU117 109 0 5 rfl
          refine c_94 v U117 ?_ ?_ ?_ ?_
          · exact fr_t (fr_t (fr_0 _ _) (fr_s hf_56 rfl)) (fr_s fU117 rfl)
          · omega
          · exact q5x
          · exact q9_of gok hks hkc (by omega) q5x hb7.1 (fun j a b => by have y := olU117 j a b; rw [show (T1 109 0 5 - 1) = c by omega, show T1 100 c 7 = T 100 c 7 from hf_56 100 _ _ rfl, show T1 100 c 8 = T 100 c 8 from hf_56 100 _ _ rfl] at y; exact y) (fun i j => (fU117 102 _ _ rfl).trans (hf_56 102 _ _ rfl)) (fun i j => (fU117 404 _ _ rfl).trans (hf_56 404 _ _ rfl)) ((fU117 106 _ _ rfl).trans (hf_56 106 _ _ rfl))
        · refine bd_i (by omega) ?_
          refine x_nm (fun U121 hU121 => ?_)
          have e122 := up_f hU121
          intro b123 b123b
          have e124 : U121 109 0 2 = 2 := up_f hU121
          rw [e124] at b123 b123b ⊢
          refine (show po_X9_ask T c t U121 (some (vI 2)) from ?_)
          have e125 : U121 109 0 15 = T 109 0 15 := (up_j hU121 (by decide) 109 0).trans ((fU117 109 0 15 rfl).trans (hf_56 109 0 15 rfl))
          have e126 : U121 191 0 0 = T 191 0 0 := (up_k hU121 (by exact Nat.ne_of_beq_eq_false rfl) 0 0).trans ((fU117 191 0 0 rfl).trans (hf_56 191 0 0 rfl))
          have e127 : U121 109 0 15 = T 109 0 15 := (up_j hU121 (by decide) 109 0).trans ((fU117 109 0 15 rfl).trans (hf_56 109 0 15 rfl))
          have e128 : U121 191 0 0 = T 191 0 0 := (up_k hU121 (by exact Nat.ne_of_beq_eq_false rfl) 0 0).trans ((fU117 191 0 0 rfl).trans (hf_56 191 0 0 rfl))
          have e190 : ∀ x, U121 190 x (-2) = T 190 x (-2) := fun x => (up_k hU121 (by exact Nat.ne_of_beq_eq_false rfl) _ _).trans ((fU117 190 _ _ rfl).trans (hf_56 190 _ _ rfl))
          exact ⟨_, rfl, fr_u (fr_t (fr_t (fr_0 _ _) (fr_s hf_56 rfl)) (fr_s fU117 rfl)) hU121 rfl, by rw [e127, e190]; exact hsl, ⟨fun x _ => e190 x, by omega⟩, by omega⟩
  refine j_blx (F := fX9) tb_X9 (nn_ _) bk_X9_ask_0 bs_X9_ask_0 hz (fun K hK => ?_)
  refine hK 2 _ [vR 100 c, vR 109 0] T ?_
  refine j_putR (pc := 2) (ci := 9) (j := 5) (by decide) fr5_X9_54 rfl (by decide +kernel) (by omega) (by omega) (by omega) ?_
  refine j_nm (fun U129 hU129 => ?_)
  have e130 := up_f hU129
  show J_ zX9_ask T (po_X9_ask T c t) 1 4096 5 _ [] U129
  refine j_blx (F := fX9) tb_X9 (nn_ _) bk_X9_ask_5 bs_X9_ask_5 hz (fun K hK => ?_)
  refine bd_i (by omega) ?_
  refine x_nm (fun U131 hU131 => ?_)
  have e132 := up_f hU131
  refine hK 15 _ [vI (-1), vR 584 0] U131 ?_
  refine j_callS (y := yJ7_fill_53178) (Yc := zJ7_fill_53178) (rest := []) [vR 584 0, vI (-1)] (ct_J7_fill_584 (T := U131) (by omega)) cl_X9_48 (qd_c (by decide +kernel)) (nn_ _) rfl (rf_of rfl) (Nat.le_of_ble_eq_true rfl) (Nat.le_of_ble_eq_true rfl) (Nat.le_of_ble_eq_true rfl) rfl ?_
  rintro U133 _ ⟨rfl, fU133, qU133o, qU133⟩
  show J_ zX9_ask T (po_X9_ask T c t) 1 4096 18 _ [] U133
  refine j_blx (F := fX9) tb_X9 (nn_ _) bk_X9_ask_18 bs_X9_ask_18 hz (fun K hK => ?_)
  have e135 : U133 109 0 5 = c + 1 := (fU133 109 0 5 rfl).trans ((up_j hU131 (by decide) 109 0).trans (up_f hU129))
  refine And.intro (fun c134 => ?_) (fun c134 => ?_)
  · exact absurd c134 (by omega)
  · have z136 : U133 109 0 5 - 1 = c := by omega
    rw [z136]
    refine ix_i (by omega) ?_
    intro b137 b137b
    have e138 : U133 401 c 1 = T 401 c 1 := (fU133 401 c 1 rfl).trans ((up_k hU131 (by exact Nat.ne_of_beq_eq_false rfl) c 1).trans (up_k hU129 (by exact Nat.ne_of_beq_eq_false rfl) c 1))
    rw [e138] at b137 b137b ⊢
    have e140 : U133 109 0 5 = c + 1 := (fU133 109 0 5 rfl).trans ((up_j hU131 (by decide) 109 0).trans (up_f hU129))
    refine And.intro (fun c139 => ?_) (fun c139 => ?_)
    · exact absurd c139 (by omega)
    · have z141 : U133 109 0 5 - 1 = c := by omega
      rw [z141]
      refine ix_i (by omega) ?_
      intro b142 b142b
      have e143 : U133 401 c 3 = T 401 c 3 := (fU133 401 c 3 rfl).trans ((up_k hU131 (by exact Nat.ne_of_beq_eq_false rfl) c 3).trans (up_k hU129 (by exact Nat.ne_of_beq_eq_false rfl) c 3))
      rw [e143] at b142 b142b ⊢
      refine rg_i (by omega) ?_
      have e145 : U133 109 0 5 = c + 1 := (fU133 109 0 5 rfl).trans ((up_j hU131 (by decide) 109 0).trans (up_f hU129))
      refine And.intro (fun c144 => ?_) (fun c144 => ?_)
      · exact absurd c144 (by omega)
      · have z146 : U133 109 0 5 - 1 = c := by omega
        rw [z146]
        refine ix_i (by omega) ?_
        intro b147 b147b
        have e148 : U133 401 c 2 = T 401 c 2 := (fU133 401 c 2 rfl).trans ((up_k hU131 (by exact Nat.ne_of_beq_eq_false rfl) c 2).trans (up_k hU129 (by exact Nat.ne_of_beq_eq_false rfl) c 2))
        rw [e148] at b147 b147b ⊢
        refine rg_i (by omega) ?_
        refine And.intro (fun c149 => ?_) (fun c149 => ?_)
        · refine hK 55 _ [] U133 ?_
          refine j_blx (F := fX9) tb_X9 (nn_ _) bk_X9_ask_55 bs_X9_ask_55 hz (fun K hK => ?_)
          refine hK 56 _ [vI 0] U133 ?_
          have e150 : U133 109 0 5 = c + 1 := (fU133 109 0 5 rfl).trans ((up_j hU131 (by decide) 109 0).trans (up_f hU129))
          refine c_56 0 U133 ?_ ?_ ?_
          · exact fr_t (fr_u (fr_u (fr_0 _ _) hU129 rfl) hU131 rfl) (fr_s fU133 rfl)
          · omega
          · exact ((fU133 109 _ _ rfl).trans (up_j hU131 (by decide) _ _)).trans (up_f hU129)
        · refine hK 56 _ [vI 1] U133 ?_
          have e151 : U133 109 0 5 = c + 1 := (fU133 109 0 5 rfl).trans ((up_j hU131 (by decide) 109 0).trans (up_f hU129))
          refine c_56 1 U133 ?_ ?_ ?_
          · exact fr_t (fr_u (fr_u (fr_0 _ _) hU129 rfl) hU131 rfl) (fr_s fU133 rfl)
          · omega
          · exact ((fU133 109 _ _ rfl).trans (up_j hU131 (by decide) _ _)).trans (up_f hU129)
abbrev cX10_can : ByteArray := prog_1_method_32_code
def yX10_can : MethodName := ⟨RX10, "can", "(II)I"⟩
def zX10_can : Zm := (RX10, cX10_can, 4, (some .int), { frames := 11, cells := 1, slots := 4096, locals := 303 })
theorem bk_X10_can_0 : ck_ fX10 (some .int) cX10_can 0 [.aload 0, .iload 1] 2 = true := qck_r (nn_ _) (by decide +kernel)
theorem bs_X10_can_0 {P : Zt → Option Zv → Prop} (K : Int → Zl → List Zv → Zt → Prop) : sx_ K P [.aload 0, .iload 1] 2 = x_aload 0 (x_iload 1 (K 2)) := ((xe_aload 0).trans (congrArg (x_aload 0) ((xe_iload 1).trans (congrArg (x_iload 1) xe_nil))))
theorem bk_X10_can_5 : ck_ fX10 (some .int) cX10_can 5 [.ifCond .eq 16, .aload 0, .iload 2] 10 = true := qck_r (nn_ _) (by decide +kernel)
theorem bs_X10_can_5 {P : Zt → Option Zv → Prop} (K : Int → Zl → List Zv → Zt → Prop) : sx_ K P [.ifCond .eq 16, .aload 0, .iload 2] 10 = x_ifCond .eq 16 K (x_aload 0 (x_iload 2 (K 10))) := ((xe_ifCond .eq 16).trans (congrArg (x_ifCond .eq 16 K) ((xe_aload 0).trans (congrArg (x_aload 0) ((xe_iload 2).trans (congrArg (x_iload 2) xe_nil))))))
theorem bk_X10_can_16 : ck_ fX10 (some .int) cX10_can 16 [.iconst (-2), .ireturn] 19 = true := qck_r (nn_ _) (by decide +kernel)
theorem bs_X10_can_16 {P : Zt → Option Zv → Prop} (K : Int → Zl → List Zv → Zt → Prop) : sx_ K P [.iconst (-2), .ireturn] 19 = x_iconst (-2) (x_ireturn P) := ((xe_iconst (-2)).trans (congrArg (x_iconst (-2)) (xe_ireturn)))
theorem bk_X10_can_13 : ck_ fX10 (some .int) cX10_can 13 [.ifCond .ne 19, .iconst (-2), .ireturn] 19 = true := qck_r (nn_ _) (by decide +kernel)
theorem bs_X10_can_13 {P : Zt → Option Zv → Prop} (K : Int → Zl → List Zv → Zt → Prop) : sx_ K P [.ifCond .ne 19, .iconst (-2), .ireturn] 19 = x_ifCond .ne 19 K (x_iconst (-2) (x_ireturn P)) := ((xe_ifCond .ne 19).trans (congrArg (x_ifCond .ne 19 K) ((xe_iconst (-2)).trans (congrArg (x_iconst (-2)) (xe_ireturn)))))
theorem bk_X10_can_19 : ck_ fX10 (some .int) cX10_can 19 [.aload 0, .tableswitch 0 10 2 #[], .tableswitch 0 6 1 #[], .iload 1, .aaload, .astore 3, .aload 3, .tableswitch 0 0 4 #[], .iload 2, .iaload, .iconst (-1), .if_icmp .eq 46, .aload 3, .tableswitch 0 0 6 #[], .ifCond .ne 49, .iconst (-4), .ireturn] 49 = true := qck_r (nn_ _) (by decide +kernel)
theorem bs_X10_can_19 {P : Zt → Option Zv → Prop} (K : Int → Zl → List Zv → Zt → Prop) : sx_ K P [.aload 0, .tableswitch 0 10 2 #[], .tableswitch 0 6 1 #[], .iload 1, .aaload, .astore 3, .aload 3, .tableswitch 0 0 4 #[], .iload 2, .iaload, .iconst (-1), .if_icmp .eq 46, .aload 3, .tableswitch 0 0 6 #[], .ifCond .ne 49, .iconst (-4), .ireturn] 49 = x_aload 0 (x_g1 110 106 (x_g1 106 521 (x_iload 1 (x_aaload (x_astore 3 (x_aload 3 (x_g2 100 404 (x_iload 2 (x_iaload (x_iconst (-1) (x_if_icmp .eq 46 K (x_aload 3 (x_g0 100 6 0 1 (x_ifCond .ne 49 K (x_iconst (-4) (x_ireturn P)))))))))))))))) := ((xe_aload 0).trans (congrArg (x_aload 0) ((xe_g1 (kk := 110) rfl tl_10_2).trans (congrArg (x_g1 110 106) ((xe_g1 (kk := 106) rfl tl_6_1).trans (congrArg (x_g1 106 521) ((xe_iload 1).trans (congrArg (x_iload 1) ((xe_aaload).trans (congrArg (x_aaload) ((xe_astore 3).trans (congrArg (x_astore 3) ((xe_aload 3).trans (congrArg (x_aload 3) ((xe_g2 (kk := 100) rfl tl_0_4).trans (congrArg (x_g2 100 404) ((xe_iload 2).trans (congrArg (x_iload 2) ((xe_iaload).trans (congrArg (x_iaload) ((xe_iconst (-1)).trans (congrArg (x_iconst (-1)) ((xe_if_icmp .eq 46).trans (congrArg (x_if_icmp .eq 46 K) ((xe_aload 3).trans (congrArg (x_aload 3) ((xe_g0 (kk := 100) rfl tl_0_6).trans (congrArg (x_g0 100 6 0 1) ((xe_ifCond .ne 49).trans (congrArg (x_ifCond .ne 49 K) ((xe_iconst (-4)).trans (congrArg (x_iconst (-4)) (xe_ireturn)))))))))))))))))))))))))))))))))
theorem bk_X10_can_46 : ck_ fX10 (some .int) cX10_can 46 [.iconst (-4), .ireturn] 49 = true := qck_r (nn_ _) (by decide +kernel)
theorem bs_X10_can_46 {P : Zt → Option Zv → Prop} (K : Int → Zl → List Zv → Zt → Prop) : sx_ K P [.iconst (-4), .ireturn] 49 = x_iconst (-4) (x_ireturn P) := ((xe_iconst (-4)).trans (congrArg (x_iconst (-4)) (xe_ireturn)))
theorem bk_X10_can_49 : ck_ fX10 (some .int) cX10_can 49 [.aload 0, .tableswitch 0 10 4 #[], .aload 3, .aload 3, .tableswitch 0 0 4 #[], .iload 2, .iaload] 60 = true := qck_r (nn_ _) (by decide +kernel)
theorem bs_X10_can_49 {P : Zt → Option Zv → Prop} (K : Int → Zl → List Zv → Zt → Prop) : sx_ K P [.aload 0, .tableswitch 0 10 4 #[], .aload 3, .aload 3, .tableswitch 0 0 4 #[], .iload 2, .iaload] 60 = x_aload 0 (x_g1 110 109 (x_aload 3 (x_aload 3 (x_g2 100 404 (x_iload 2 (x_iaload (K 60))))))) := ((xe_aload 0).trans (congrArg (x_aload 0) ((xe_g1 (kk := 110) rfl tl_10_4).trans (congrArg (x_g1 110 109) ((xe_aload 3).trans (congrArg (x_aload 3) ((xe_aload 3).trans (congrArg (x_aload 3) ((xe_g2 (kk := 100) rfl tl_0_4).trans (congrArg (x_g2 100 404) ((xe_iload 2).trans (congrArg (x_iload 2) ((xe_iaload).trans (congrArg (x_iaload) xe_nil))))))))))))))
set_option maxRecDepth 100000 in
theorem cl_X10_365 : cv_ RX10 365 yX9_ask zX9_ask 9 2 := ⟨gi_V (lw_b6 32 (by decide +kernel) rfl : Cond.methodLink RX10 365 yX9_ask ∈ lw_g) (lw_b6 33 (by decide +kernel) rfl : Cond.instanceMethod yX9_ask ∈ lw_g) (lw_b6 34 (by decide +kernel) rfl : Cond.selects yX9_ask.cls yX9_ask yX9_ask ∈ lw_g) (lw_b1 6 (by decide +kernel) rfl : Cond.initialized yX9_ask.cls ∈ lw_g) (lw_b6 35 rfl rfl : Cond.code yX9_ask cX9_ask 4 (some .int) ∈ lw_g), ⟨by decide, by decide, by decide +kernel⟩, ⟨_, _, rfl⟩⟩
theorem bk_X10_can_63 : ck_ fX10 (some .int) cX10_can 63 [.ireturn] 64 = true := qck_r (nn_ _) (by decide +kernel)
theorem bs_X10_can_63 {P : Zt → Option Zv → Prop} (K : Int → Zl → List Zv → Zt → Prop) : sx_ K P [.ireturn] 64 = x_ireturn P := (xe_ireturn)
abbrev po_X10_can (T : Zt) (c b : Int) : Zt → Option Zv → Prop := fun T' r => ∃ x : Int, r = some (vI x) ∧ fr_ [(109, [5, 3, 9, 6, 2, 15]), (584, []), (588, []), (587, []), (591, []), (592, []), (590, []), (593, []), (594, []), (107, [1]), (542, []), (543, []), (544, []), (545, []), (546, []), (190, []), (191, [0])] T T' ∧ (T' 109 0 15 ≠ 0 → T' 190 (T' 109 0 15 - 1) (-2) = 4096 ∧ 1 ≤ T' 109 0 15) ∧ lh_ T T' ∧ T' 191 0 0 ≤ T 191 0 0 + 1
set_option maxHeartbeats 4000000 in
theorem ct_X10_can {T : Zt} {c b : Int} (hka : KA_ T) (hkm : KM_ T) (hkc : KC_ T) (hks : KS_ T) (hke : KE_ T) (hkw : KW_ T) (hsl : T 109 0 15 ≠ 0 → T 190 (T 109 0 15 - 1) (-2) = 4096 ∧ 1 ≤ T 109 0 15) (h9 : 0 ≤ T 191 0 0 ∧ T 191 0 0 ≤ 900000000) : Ct_ yX10_can zX10_can T [vR 110 0, vI c, vI b] (po_X10_can T c b) := by
  refine ct_of pn_10 rfl rfl (Nat.le_of_ble_eq_true rfl) (fun hT hav => ?_)
  have hr_c : -2147483648 ≤ c ∧ c ≤ 2147483647 := hav (vI c) (by simp)
  have hr_b : -2147483648 ≤ b ∧ b ≤ 2147483647 := hav (vI b) (by simp)
  have hz : zX10_can.2.2.2.1 = some .boolean → ∀ (T' : Zt) (x : Int), po_X10_can T c b T' (some (vI x)) → 0 ≤ x ∧ x ≤ 1 := fun h => by cases h
  have hb_competitionCount : 0 ≤ T 106 0 2 ∧ T 106 0 2 ≤ 4 := bd_f hT 106 2 (by decide +kernel : (tf_ 106)[2]? = some (0, 0, 0, 4)) 0
  have hb_clubs : 0 ≤ T 108 0 2 ∧ T 108 0 2 ≤ 12 := bd_f hT 108 2 (by decide +kernel : (tf_ 108)[2]? = some (0, 0, 0, 12)) 0
  show J_ zX10_can T (po_X10_can T c b) 1 4096 0 [some (vR 110 0), some (vI c), some (vI b), none] [] T
  refine j_blx (F := fX10) tb_X10 (nn_ _) bk_X10_can_0 bs_X10_can_0 hz (fun K hK => ?_)
  refine hK 2 _ [vI c, vR 110 0] T ?_
  refine j_callV (y := yX10_isCompetition) (Yc := zX10_isCompetition) (rest := []) [vI c] (ct_X10_isCompetition (T := T)) cl_X10_107 (qd_c (by decide +kernel)) (nn_ _) rfl (rf_of rfl) (Nat.le_of_ble_eq_true rfl) (Nat.le_of_ble_eq_true rfl) (Nat.le_of_ble_eq_true rfl) rfl ?_
  rintro _ _ ⟨rfl, x1, rfl, hx1⟩
  show J_ zX10_can T (po_X10_can T c b) 1 4096 5 _ [vI x1] T
  refine j_blx (F := fX10) tb_X10 (nn_ _) bk_X10_can_5 bs_X10_can_5 hz (fun K hK => ?_)
  refine And.intro (fun c2 => ?_) (fun c2 => ?_)
  · refine hK 16 _ [] T ?_
    refine j_blx (F := fX10) tb_X10 (nn_ _) bk_X10_can_16 bs_X10_can_16 hz (fun K hK => ?_)
    refine (show po_X10_can T c b T (some (vI (-2))) from ?_)
    exact ⟨_, rfl, fr_0 _ _, hsl, lh_r, by omega⟩
  · refine hK 10 _ [vI b, vR 110 0] T ?_
    refine j_callV (y := yX10_isClub) (Yc := zX10_isClub) (rest := []) [vI b] (ct_X10_isClub (T := T)) cl_X10_137 (qd_c (by decide +kernel)) (nn_ _) rfl (rf_of rfl) (Nat.le_of_ble_eq_true rfl) (Nat.le_of_ble_eq_true rfl) (Nat.le_of_ble_eq_true rfl) rfl ?_
    rintro _ _ ⟨rfl, x3, rfl, hx3⟩
    show J_ zX10_can T (po_X10_can T c b) 1 4096 13 _ [vI x3] T
    refine j_blx (F := fX10) tb_X10 (nn_ _) bk_X10_can_13 bs_X10_can_13 hz (fun K hK => ?_)
    refine And.intro (fun c4 => ?_) (fun c4 => ?_)
    · refine hK 19 _ [] T ?_
      refine j_blx (F := fX10) tb_X10 (nn_ _) bk_X10_can_19 bs_X10_can_19 hz (fun K hK => ?_)
      refine ix_i (by omega) ?_
      refine And.intro (fun c5 => ?_) (fun c5 => ?_)
      · exact absurd (show T 521 0 c = 0 by omega) (hka.1 _ (by omega) (by omega))
      · refine ix_i (by omega) ?_
        intro b6 b6b
        refine And.intro (fun c7 => ?_) (fun c7 => ?_)
        · refine hK 46 [some (vR 110 0), some (vI c), some (vI b), some (vR 100 c)] [] T ?_
          refine j_blx (F := fX10) tb_X10 (nn_ _) bk_X10_can_46 bs_X10_can_46 hz (fun K hK => ?_)
          refine (show po_X10_can T c b T (some (vI (-4))) from ?_)
          exact ⟨_, rfl, fr_0 _ _, hsl, lh_r, by omega⟩
        · intro b8 b8b
          refine And.intro (fun c9 => ?_) (fun c9 => ?_)
          · refine hK 49 _ [] T ?_
            refine j_blx (F := fX10) tb_X10 (nn_ _) bk_X10_can_49 bs_X10_can_49 hz (fun K hK => ?_)
            refine ix_i (by omega) ?_
            intro b10 b10b
            refine hK 60 _ [vI (T 404 c b), vR 100 c, vR 109 0] T ?_
            refine j_callV (y := yX9_ask) (Yc := zX9_ask) (rest := []) [vR 100 c, vI (T 404 c b)] (ct_X9_ask (T := T) hka hkm hkc hks hke hkw hsl h9 (by omega) (by omega)) cl_X10_365 (qd_c (by decide +kernel)) (nn_ _) rfl (rf_of rfl) (Nat.le_of_ble_eq_true rfl) (Nat.le_of_ble_eq_true rfl) (Nat.le_of_ble_eq_true rfl) rfl ?_
            rintro U11 _ ⟨x12, rfl, fU11, slU11, lhU11, mU11⟩
            show J_ zX10_can T (po_X10_can T c b) 0 0 63 _ [vI x12] U11
            refine j_blx (F := fX10) tb_X10 (nn_ _) bk_X10_can_63 bs_X10_can_63 hz (fun K hK => ?_)
            refine (show po_X10_can T c b U11 (some (vI x12)) from ?_)
            exact ⟨_, rfl, fU11, slU11, lhU11, mU11⟩
          · refine (show po_X10_can T c b T (some (vI (-4))) from ?_)
            exact ⟨_, rfl, fr_0 _ _, hsl, lh_r, by omega⟩
    · refine (show po_X10_can T c b T (some (vI (-2))) from ?_)
      exact ⟨_, rfl, fr_0 _ _, hsl, lh_r, by omega⟩

