/-- how far a place is from the round's own, in the circle -/
def lv_ (R r q : Int) : Int := if q = R then 0 else min (max (q - r) (r - q)) (R - max (q - r) (r - q))
theorem lv_R (R r : Int) : lv_ R r R = 0 := by unfold lv_; rw [if_pos rfl]
theorem lv_r {R r : Int} (h : 0 ≤ r ∧ r < R) : lv_ R r r = 0 := by unfold lv_; rw [if_neg (by omega)]; omega
theorem em_2 {x R : Int} (h : 0 ≤ x) (g : x < 2 * R) : (x < R ∧ x % R = x) ∨ (R ≤ x ∧ x % R = x - R) := by
  by_cases z : x < R
  · exact Or.inl ⟨z, Int.emod_eq_of_lt h z⟩
  · refine Or.inr ⟨by omega, ?_⟩
    rw [← Int.sub_emod_right, Int.emod_eq_of_lt (by omega) (by omega)]
theorem lv_a {R r k : Int} (hr : 0 ≤ r ∧ r < R) (hk : 1 ≤ k ∧ 2 * k ≤ R) : lv_ R r ((r + k) % R) = k := by
  have h := em_2 (x := r + k) (R := R) (by omega) (by omega)
  unfold lv_
  rw [if_neg (by omega)]
  omega
theorem lv_b {R r k : Int} (hr : 0 ≤ r ∧ r < R) (hk : 1 ≤ k ∧ 2 * k ≤ R) : lv_ R r ((r - k + R) % R) = k := by
  have h := em_2 (x := r - k + R) (R := R) (by omega) (by omega)
  unfold lv_
  rw [if_neg (by omega)]
  omega
def KEc_ (T : Zt) (c : Int) : Prop := ∀ j : Int, 0 ≤ j → j < T 100 c 5 → T 404 c (T 403 c j) = j
theorem KEc_f {ws : List (Nat × List Int)} {T T' : Zt} {c : Int} (h : KEc_ T c) (f : fr_ ws T T') (w : fw_ ws 100 5 = false ∧ (∀ j, fw_ ws 404 j = false) ∧ (∀ j, fw_ ws 403 j = false)) : KEc_ T' c := fun j a b => by
  rw [f 100 c 5 w.1] at b
  rw [f 403 c j (w.2.2 j), f 404 c _ (w.2.1 _)]
  exact h j a b
/-- the matches that a plan has laid so far, from number f on -/
def RK_ (T : Zt) (c f R r k d : Int) : Prop := (0 ≤ f ∧ f ≤ T 106 0 4 ∧ T 106 0 4 ≤ 400) ∧ (∀ i, f ≤ i → i < T 106 0 4 → T 102 i 0 = c ∧ T 102 i 1 = i ∧ T 102 i 10 = 0 ∧ 0 ≤ T 404 c (T 102 i 3) ∧ 0 ≤ T 404 c (T 102 i 4) ∧ (T 102 i 5 < d ∨ (T 102 i 5 = d ∧ lv_ R r (T 404 c (T 102 i 3)) < k))) ∧ (∀ i j, f ≤ i → i < j → j < T 106 0 4 → T 102 i 3 = T 102 j 3 → T 102 i 5 ≠ T 102 j 5) ∧ (∀ i, 0 ≤ i → i < T 106 0 4 → T 523 0 i ≠ 0) ∧ NA_ T
theorem rb_next {T : Zt} {c f R r k d r' d' : Int} (h : RK_ T c f R r k d) (hd : d < d') : RK_ T c f R r' 0 d' := by
  obtain ⟨h1, h2, h3, h4, h5⟩ := h
  refine ⟨h1, fun i a b => ?_, h3, h4, h5⟩
  obtain ⟨a1, a2, a3, a4, a5, a6⟩ := h2 i a b
  exact ⟨a1, a2, a3, a4, a5, Or.inl (by omega)⟩
theorem rb_add {T T' : Zt} {c f R r k d h a : Int} (hrb : RK_ T c f R r k d) (hke : KEc_ T c) (hh : 0 ≤ h ∧ 0 ≤ a) (hl : lv_ R r h = k) (fr : fr_ [(106, [4]), (523, []), (152, []), (102, []), (448, []), (449, [])] T T') (hx : (T' = T ∧ (T 100 c 5 ≤ h ∨ T 100 c 5 ≤ a ∨ 400 ≤ T 106 0 4)) ∨ nm_ T T' c h a d) : RK_ T' c f R r (k + 1) d ∧ (∀ i j, i < f → T' 102 i j = T 102 i j) ∧ T 106 0 4 ≤ T' 106 0 4 := by
  obtain ⟨h1, h2, h3, h4, h5⟩ := hrb
  rcases hx with ⟨rfl, -⟩ | ⟨⟨n1, n2, n3, n4⟩, n5, n6, n7, ⟨m0, m1, m3, m4, m5, m10⟩, n8⟩
  · refine ⟨⟨h1, fun i a b => ?_, h3, h4, h5⟩, fun _ _ _ => rfl, by omega⟩
    obtain ⟨a1, a2, a3, a4, a5, a6⟩ := h2 i a b
    exact ⟨a1, a2, a3, a4, a5, a6.imp id (fun z => ⟨z.1, by omega⟩)⟩
  · have e4 : ∀ x, T' 404 c x = T 404 c x := fun x => fr 404 c x rfl
    have eo : ∀ i j, i ≠ T 106 0 4 → T' 102 i j = T 102 i j := fun i j hi => n5 102 i j (Or.inl rfl) hi
    have hs : T' 404 c (T' 102 (T 106 0 4) 3) = h := by rw [e4, m3]; exact hke h hh.1 n3
    have hs2 : T' 404 c (T' 102 (T 106 0 4) 4) = a := by rw [e4, m4]; exact hke a hh.2 n4
    refine ⟨⟨⟨by omega, by omega, by omega⟩, fun i p q => ?_, fun i j p q w => ?_, fun i p q => ?_, n8⟩, fun i j hi => eo i j (by omega), by omega⟩
    · by_cases z : i = T 106 0 4
      · rw [z]
        exact ⟨m0, m1, m10, by rw [hs]; omega, by rw [hs2]; omega, Or.inr ⟨m5, by rw [hs]; omega⟩⟩
      · obtain ⟨a1, a2, a3, a4, a5, a6⟩ := h2 i p (by omega)
        rw [eo i 0 z, eo i 1 z, eo i 10 z, eo i 3 z, eo i 4 z, eo i 5 z, e4, e4]
        exact ⟨a1, a2, a3, a4, a5, a6.imp id (fun z => ⟨z.1, by omega⟩)⟩
    · by_cases z : j = T 106 0 4
      · rw [z, m5, eo i 3 (by omega), eo i 5 (by omega)]
        intro e5 e6
        obtain ⟨a1, a2, a3, a4, a5, a6⟩ := h2 i p (by omega)
        rcases a6 with a6 | ⟨-, a6⟩
        · omega
        · rw [e5, ← e4, hs] at a6
          omega
      · rw [eo i 3 (by omega), eo i 5 (by omega), eo j 3 z, eo j 5 z]
        exact h3 i j p q (by omega)
    · by_cases z : i = T 106 0 4
      · rw [z, n7]; decide
      · rw [n6 i z]
        exact h4 i p (by omega)
abbrev cX0_placeCount : ByteArray := prog_2_method_2_code
def yX0_placeCount : MethodName := ⟨RX0, "placeCount", "()I"⟩
def zX0_placeCount : Zm := (RX0, cX0_placeCount, 1, (some .int), { frames := 0, cells := 0, slots := 0, locals := 0 })
theorem bk_X0_placeCount_0 : ck_ fX0 (some .int) cX0_placeCount 0 [.aload 0, .tableswitch 0 0 5 #[], .aload 0, .tableswitch 0 0 5 #[], .iconst 1, .iand, .iadd, .ireturn] 12 = true := by decide +kernel
abbrev po_X0_placeCount (T : Zt) (c : Int) : Zt → Option Zv → Prop := fun T' r => T = T' ∧ r = some (vI (T 100 c 5 + an_ (T 100 c 5) 1))
set_option maxHeartbeats 4000000 in
theorem ct_X0_placeCount {T : Zt} {c : Int} : Ct_ yX0_placeCount zX0_placeCount T [vR 100 c] (po_X0_placeCount T c) := by
  refine ct_of (by decide) rfl rfl (Nat.le_of_ble_eq_true rfl) (fun hT hav => ?_)
  have hz : zX0_placeCount.2.2.2.1 = some .boolean → ∀ (T' : Zt) (x : Int), po_X0_placeCount T c T' (some (vI x)) → 0 ≤ x ∧ x ≤ 1 := fun h => by cases h
  have hb5 : 0 ≤ T 100 c 5 ∧ T 100 c 5 ≤ 12 := bd_f hT 100 5 (by decide +kernel : (tf_ 100)[5]? = some (0, 0, 0, 12)) c
  have hp1 := an_1b (T 100 c 5)
  show J_ zX0_placeCount T (po_X0_placeCount T c) 0 0 0 [some (vR 100 c)] [] T
  refine j_blk (F := fX0) tb_X0 (by decide) bk_X0_placeCount_0 hz (fun K hK => ?_)
  intro b1 b1b
  intro b2 b2b
  intro w3 w3b
  refine rg_i (by omega) ?_
  refine (show po_X0_placeCount T c T (some (vI ((T 100 c 5) + (an_ (T 100 c 5) 1)))) from ?_)
  exact ⟨rfl, rfl⟩
theorem rb_mono {T : Zt} {c f R r k k2 d : Int} (h : RK_ T c f R r k d) (g : k ≤ k2) : RK_ T c f R r k2 d := by
  obtain ⟨h1, h2, h3, h4, h5⟩ := h
  refine ⟨h1, fun i a b => ?_, h3, h4, h5⟩
  obtain ⟨a1, a2, a3, a4, a5, a6⟩ := h2 i a b
  exact ⟨a1, a2, a3, a4, a5, a6.imp id (fun z => ⟨z.1, by omega⟩)⟩
abbrev cX6_addRound : ByteArray := prog_8_method_3_code
def yX6_addRound : MethodName := ⟨RX6, "addRound", "(LSportsHouse$Competition;IIZI)V"⟩
def zX6_addRound : Zm := (RX6, cX6_addRound, 12, none, { frames := 3, cells := 18, slots := 204, locals := 81 })
theorem bk_X6_addRound_111 : ck_ fX6 none cX6_addRound 111 [.istore 11, .aload 0, .aload 1, .iload 2, .iload 11, .ifCond .eq 126, .iload 9, .goto 128] 126 = true := by decide +kernel
theorem bk_X6_addRound_126 : ck_ fX6 none cX6_addRound 126 [.iload 10, .iload 11, .ifCond .eq 138, .iload 10, .goto 140] 138 = true := by decide +kernel
theorem bk_X6_addRound_138 : ck_ fX6 none cX6_addRound 138 [.iload 9, .iload 5] 142 = true := by decide +kernel
theorem cl_X6_75 : cv_ RX6 75 yX6_addFixture zX6_addFixture 6 5 := ⟨gi_V (lw_at 697 (by decide +kernel) rfl : Cond.methodLink RX6 75 yX6_addFixture ∈ lw_g) (lw_at 699 (by decide +kernel) rfl : Cond.instanceMethod yX6_addFixture ∈ lw_g) (lw_sel 119 rfl : Cond.selects yX6_addFixture.cls yX6_addFixture yX6_addFixture ∈ lw_g) (lw_at 4 (by decide +kernel) rfl : Cond.initialized yX6_addFixture.cls ∈ lw_g) (lw_at 700 (by decide +kernel) rfl : Cond.code yX6_addFixture cX6_addFixture 6 none ∈ lw_g), ⟨by decide, by decide, by decide +kernel⟩, ⟨_, _, rfl⟩⟩
theorem bk_X6_addRound_145 : ck_ fX6 none cX6_addRound 145 [.iinc 8 1, .goto 58] 151 = true := by decide +kernel
theorem bk_X6_addRound_140 : ck_ fX6 none cX6_addRound 140 [.iload 5] 142 = true := by decide +kernel
theorem bk_X6_addRound_128 : ck_ fX6 none cX6_addRound 128 [.iload 11, .ifCond .eq 138, .iload 10, .goto 140] 138 = true := by decide +kernel
theorem bk_X6_addRound_58 : ck_ fX6 none cX6_addRound 58 [.iload 8, .iload 6, .iconst 2, .idiv, .if_icmp .gt 151, .iload 3, .iload 8, .iadd, .iload 6, .irem, .istore 9, .iload 3, .iload 8, .isub, .iload 6, .iadd, .iload 6, .irem, .istore 10, .iload 8, .iconst 1, .iand, .iconst 1, .if_icmp .ne 100, .iconst 1, .goto 101] 100 = true := by decide +kernel
theorem bk_X6_addRound_151 : ck_ fX6 none cX6_addRound 151 [.return_] 152 = true := by decide +kernel
theorem bk_X6_addRound_100 : ck_ fX6 none cX6_addRound 100 [.iconst 0, .iload 4, .if_icmp .eq 110, .iconst 1, .goto 111] 110 = true := by decide +kernel
theorem bk_X6_addRound_110 : ck_ fX6 none cX6_addRound 110 [.iconst 0] 111 = true := by decide +kernel
theorem bk_X6_addRound_101 : ck_ fX6 none cX6_addRound 101 [.iload 4, .if_icmp .eq 110, .iconst 1, .goto 111] 110 = true := by decide +kernel
theorem bk_X6_addRound_0 : ck_ fX6 none cX6_addRound 0 [.aload 1] 1 = true := by decide +kernel
theorem cl_X6_63 : cv_ RX6 63 yX0_placeCount zX0_placeCount 0 0 := ⟨gi_V (lw_at 692 (by decide +kernel) rfl : Cond.methodLink RX6 63 yX0_placeCount ∈ lw_g) (lw_at 681 (by decide +kernel) rfl : Cond.instanceMethod yX0_placeCount ∈ lw_g) (lw_at 682 (by decide +kernel) rfl : Cond.selects yX0_placeCount.cls yX0_placeCount yX0_placeCount ∈ lw_g) (lw_at 15 (by decide +kernel) rfl : Cond.initialized yX0_placeCount.cls ∈ lw_g) (lw_at 683 (by decide +kernel) rfl : Cond.code yX0_placeCount cX0_placeCount 1 (some .int) ∈ lw_g), ⟨by decide, by decide, by decide +kernel⟩, ⟨_, _, rfl⟩⟩
theorem bk_X6_addRound_4 : ck_ fX6 none cX6_addRound 4 [.iconst 1, .isub, .istore 6, .iload 3, .iconst 1, .iand, .ifCond .ne 18, .iconst 1, .goto 19] 18 = true := by decide +kernel
theorem bk_X6_addRound_18 : ck_ fX6 none cX6_addRound 18 [.iconst 0, .istore 7, .aload 0, .aload 1, .iload 2, .iload 7, .iload 4, .if_icmp .eq 35, .iload 3, .goto 37] 35 = true := by decide +kernel
theorem bk_X6_addRound_35 : ck_ fX6 none cX6_addRound 35 [.iload 6, .iload 7, .iload 4, .if_icmp .eq 49, .iload 6, .goto 50] 49 = true := by decide +kernel
theorem bk_X6_addRound_49 : ck_ fX6 none cX6_addRound 49 [.iload 3, .iload 5] 52 = true := by decide +kernel
theorem bk_X6_addRound_55 : ck_ fX6 none cX6_addRound 55 [.iconst 1, .istore 8] 58 = true := by decide +kernel
theorem bk_X6_addRound_50 : ck_ fX6 none cX6_addRound 50 [.iload 5] 52 = true := by decide +kernel
theorem bk_X6_addRound_37 : ck_ fX6 none cX6_addRound 37 [.iload 7, .iload 4, .if_icmp .eq 49, .iload 6, .goto 50] 49 = true := by decide +kernel
theorem bk_X6_addRound_19 : ck_ fX6 none cX6_addRound 19 [.istore 7, .aload 0, .aload 1, .iload 2, .iload 7, .iload 4, .if_icmp .eq 35, .iload 3, .goto 37] 35 = true := by decide +kernel
abbrev po_X6_addRound (T : Zt) (c : Int) (f : Int) (u q w d : Int) : Zt → Option Zv → Prop := fun T' r => r = none ∧ fr_ [(106, [4]), (523, []), (152, []), (102, []), (448, []), (449, [])] T T' ∧ (RK_ T' c f (T 100 c 5 + an_ (T 100 c 5) 1 - 1) q 13 d ∧ (∀ i j, i < f → T' 102 i j = T 102 i j) ∧ T 106 0 4 ≤ T' 106 0 4)
set_option maxHeartbeats 4000000 in
theorem ct_X6_addRound {T : Zt} {c : Int} {f : Int} {u q w d : Int} (hc : 0 ≤ c ∧ c ≤ 3) (he : 2 ≤ T 100 c 5) (hr : 0 ≤ q ∧ q < T 100 c 5 + an_ (T 100 c 5) 1 - 1) (hd : 0 ≤ d ∧ d ≤ 999) (hke : KEc_ T c) (hrb : RK_ T c f (T 100 c 5 + an_ (T 100 c 5) 1 - 1) q 0 d) : Ct_ yX6_addRound zX6_addRound T [vR 106 0, vR 100 c, vI u, vI q, vI w, vI d] (po_X6_addRound T c f u q w d) := by
  refine ct_of (by decide) rfl rfl (Nat.le_of_ble_eq_true rfl) (fun hT hav => ?_)
  have hr_u : -2147483648 ≤ u ∧ u ≤ 2147483647 := hav (vI u) (by simp)
  have hr_q : -2147483648 ≤ q ∧ q ≤ 2147483647 := hav (vI q) (by simp)
  have hr_w : -2147483648 ≤ w ∧ w ≤ 2147483647 := hav (vI w) (by simp)
  have hr_d : -2147483648 ≤ d ∧ d ≤ 2147483647 := hav (vI d) (by simp)
  have hz : zX6_addRound.2.2.2.1 = some .boolean → ∀ (T' : Zt) (x : Int), po_X6_addRound T c f u q w d T' (some (vI x)) → 0 ≤ x ∧ x ≤ 1 := fun h => by cases h
  have hb_matchCount : 0 ≤ T 106 0 4 ∧ T 106 0 4 ≤ 400 := bd_f hT 106 4 (by decide +kernel : (tf_ 106)[4]? = some (0, 0, 0, 400)) 0
  have hb5 : 0 ≤ T 100 c 5 ∧ T 100 c 5 ≤ 12 := bd_f hT 100 5 (by decide +kernel : (tf_ 100)[5]? = some (0, 0, 0, 12)) c
  have hp1 := an_1b (T 100 c 5)
  have hp2 : T 100 c 5 = 12 → an_ (T 100 c 5) 1 = 0 := fun h => by rw [h]; decide
  show J_ zX6_addRound T (po_X6_addRound T c f u q w d) 18 204 0 [some (vR 106 0), some (vR 100 c), some (vI u), some (vI q), some (vI w), some (vI d), none, none, none, none, none, none] [] T
  have c_58 : ∀ (nn : Nat) (k : Int) (T1 : Zt), ((13 - k).toNat) ≤ nn → (fr_ [(106, [4]), (523, []), (152, []), (102, []), (448, []), (449, [])] T T1) → (RK_ T1 c f (T 100 c 5 + an_ (T 100 c 5) 1 - 1) q k d) → ((∀ i j, i < f → T1 102 i j = T 102 i j) ∧ T 106 0 4 ≤ T1 106 0 4) → (1 ≤ k ∧ k ≤ (T 100 c 5 + an_ (T 100 c 5) 1 - 1) / 2 + 1) → J_ zX6_addRound T (po_X6_addRound T c f u q w d) ((3 * ((T 100 c 5 + an_ (T 100 c 5) 1 - 1) / 2 + 1 - k)).toNat) ((34 * ((T 100 c 5 + an_ (T 100 c 5) 1 - 1) / 2 + 1 - k)).toNat) 58 [some (vR 106 0), some (vR 100 c), some (vI u), some (vI q), some (vI w), some (vI d), some (vI (T 100 c 5 + an_ (T 100 c 5) 1 - 1)), none, some (vI k), none, none, none] [] T1 := by
    intro nn
    induction nn using Nat.strongRecOn with
    | _ nn ih_58 =>
      intro k T1 hm_58 hf_58 hrb1 od1 i1
      have c_111 : ∀ (v : Int), (2 * k ≤ T 100 c 5 + an_ (T 100 c 5) 1 - 1) → J_ zX6_addRound T (po_X6_addRound T c f u q w d) ((3 * ((T 100 c 5 + an_ (T 100 c 5) 1 - 1) / 2 + 1 - k)).toNat) ((34 * ((T 100 c 5 + an_ (T 100 c 5) 1 - 1) / 2 + 1 - k)).toNat) 111 [some (vR 106 0), some (vR 100 c), some (vI u), some (vI q), some (vI w), some (vI d), some (vI (T 100 c 5 + an_ (T 100 c 5) 1 - 1)), none, some (vI k), some (vI ((q + k) % (T 100 c 5 + an_ (T 100 c 5) 1 - 1))), some (vI (((q - k) + (T 100 c 5 + an_ (T 100 c 5) 1 - 1)) % (T 100 c 5 + an_ (T 100 c 5) 1 - 1))), none] [vI v] T1 := by
        intro v i2
        have y1 := em_2 (x := q + k) (R := T 100 c 5 + an_ (T 100 c 5) 1 - 1) (by omega) (by omega)
        have y2 := em_2 (x := q - k + (T 100 c 5 + an_ (T 100 c 5) 1 - 1)) (R := T 100 c 5 + an_ (T 100 c 5) 1 - 1) (by omega) (by omega)
        refine j_blk (F := fX6) tb_X6 (by decide) bk_X6_addRound_111 hz (fun K hK => ?_)
        refine And.intro (fun c1 => ?_) (fun c1 => ?_)
        · refine hK 126 [some (vR 106 0), some (vR 100 c), some (vI u), some (vI q), some (vI w), some (vI d), some (vI (T 100 c 5 + an_ (T 100 c 5) 1 - 1)), none, some (vI k), some (vI ((q + k) % (T 100 c 5 + an_ (T 100 c 5) 1 - 1))), some (vI (((q - k) + (T 100 c 5 + an_ (T 100 c 5) 1 - 1)) % (T 100 c 5 + an_ (T 100 c 5) 1 - 1))), some (vI v)] [vI u, vR 100 c, vR 106 0] T1 ?_
          refine j_blk (F := fX6) tb_X6 (by decide) bk_X6_addRound_126 hz (fun K hK => ?_)
          refine And.intro (fun c2 => ?_) (fun c2 => ?_)
          · refine hK 138 [some (vR 106 0), some (vR 100 c), some (vI u), some (vI q), some (vI w), some (vI d), some (vI (T 100 c 5 + an_ (T 100 c 5) 1 - 1)), none, some (vI k), some (vI ((q + k) % (T 100 c 5 + an_ (T 100 c 5) 1 - 1))), some (vI (((q - k) + (T 100 c 5 + an_ (T 100 c 5) 1 - 1)) % (T 100 c 5 + an_ (T 100 c 5) 1 - 1))), some (vI v)] [vI (((q - k) + (T 100 c 5 + an_ (T 100 c 5) 1 - 1)) % (T 100 c 5 + an_ (T 100 c 5) 1 - 1)), vI u, vR 100 c, vR 106 0] T1 ?_
            refine j_blk (F := fX6) tb_X6 (by decide) bk_X6_addRound_138 hz (fun K hK => ?_)
            refine hK 142 [some (vR 106 0), some (vR 100 c), some (vI u), some (vI q), some (vI w), some (vI d), some (vI (T 100 c 5 + an_ (T 100 c 5) 1 - 1)), none, some (vI k), some (vI ((q + k) % (T 100 c 5 + an_ (T 100 c 5) 1 - 1))), some (vI (((q - k) + (T 100 c 5 + an_ (T 100 c 5) 1 - 1)) % (T 100 c 5 + an_ (T 100 c 5) 1 - 1))), some (vI v)] [vI d, vI ((q + k) % (T 100 c 5 + an_ (T 100 c 5) 1 - 1)), vI (((q - k) + (T 100 c 5 + an_ (T 100 c 5) 1 - 1)) % (T 100 c 5 + an_ (T 100 c 5) 1 - 1)), vI u, vR 100 c, vR 106 0] T1 ?_
            refine j_callV (y := yX6_addFixture) (Yc := zX6_addFixture) (rest := []) [vR 100 c, vI u, vI (((q - k) + (T 100 c 5 + an_ (T 100 c 5) 1 - 1)) % (T 100 c 5 + an_ (T 100 c 5) 1 - 1)), vI ((q + k) % (T 100 c 5 + an_ (T 100 c 5) 1 - 1)), vI d] (ct_X6_addFixture (T := T1) hc (by omega) (hrb1.2.2.2.2)) cl_X6_75 (by decide +kernel) (by decide) rfl (by decide +kernel) (Nat.le_of_ble_eq_true rfl) (by show 3 ≤ (3 * ((T 100 c 5 + an_ (T 100 c 5) 1 - 1) / 2 + 1 - k)).toNat; omega) (by show 34 ≤ (34 * ((T 100 c 5 + an_ (T 100 c 5) 1 - 1) / 2 + 1 - k)).toNat; omega) rfl ?_
            rintro U3 _ ⟨rfl, fU3, qU3⟩
            show J_ zX6_addRound T (po_X6_addRound T c f u q w d) (((3 * ((T 100 c 5 + an_ (T 100 c 5) 1 - 1) / 2 + 1 - k)).toNat) - 3) (((34 * ((T 100 c 5 + an_ (T 100 c 5) 1 - 1) / 2 + 1 - k)).toNat) - 34) 145 [some (vR 106 0), some (vR 100 c), some (vI u), some (vI q), some (vI w), some (vI d), some (vI (T 100 c 5 + an_ (T 100 c 5) 1 - 1)), none, some (vI k), some (vI ((q + k) % (T 100 c 5 + an_ (T 100 c 5) 1 - 1))), some (vI (((q - k) + (T 100 c 5 + an_ (T 100 c 5) 1 - 1)) % (T 100 c 5 + an_ (T 100 c 5) 1 - 1))), some (vI v)] [] U3
            refine j_blk (F := fX6) tb_X6 (by decide) bk_X6_addRound_145 hz (fun K hK => ?_)
            refine rg_i (by omega) ?_
            refine hK 58 [some (vR 106 0), some (vR 100 c), some (vI u), some (vI q), some (vI w), some (vI d), some (vI (T 100 c 5 + an_ (T 100 c 5) 1 - 1)), none, some (vI (k + 1)), some (vI ((q + k) % (T 100 c 5 + an_ (T 100 c 5) 1 - 1))), some (vI (((q - k) + (T 100 c 5 + an_ (T 100 c 5) 1 - 1)) % (T 100 c 5 + an_ (T 100 c 5) 1 - 1))), some (vI v)] [] U3 ?_
            refine j_drop [some (vR 106 0), some (vR 100 c), some (vI u), some (vI q), some (vI w), some (vI d), some (vI (T 100 c 5 + an_ (T 100 c 5) 1 - 1)), none, some (vI (k + 1)), none, none, none] (fun k v hk => ?_) rfl ?_
            · match k, hk with
              | 0, hk => exact hk
              | 1, hk => exact hk
              | 2, hk => exact hk
              | 3, hk => exact hk
              | 4, hk => exact hk
              | 5, hk => exact hk
              | 6, hk => exact hk
              | 7, hk => cases hk
              | 8, hk => exact hk
              | 9, hk => cases hk
              | 10, hk => cases hk
              | 11, hk => cases hk
              | k + 12, hk => cases hk
            refine j_mono (bc' := ((3 * ((T 100 c 5 + an_ (T 100 c 5) 1 - 1) / 2 + 1 - (k + 1))).toNat)) (bs' := ((34 * ((T 100 c 5 + an_ (T 100 c 5) 1 - 1) / 2 + 1 - (k + 1))).toNat)) (by omega) (by omega) ?_
            refine ih_58 _ ?_ (k + 1) U3 (Nat.le_refl _) ?_ ?_ ?_ ?_
            · omega
            · exact fr_t (fr_t (fr_0 _ _) (fr_s hf_58 rfl)) (fr_s fU3 rfl)
            · exact (rb_add hrb1 (KEc_f hke hf_58 ⟨rfl, fun _ => rfl, fun _ => rfl⟩) (by omega) (lv_b hr (by omega)) fU3 qU3).1
            · have y9 := rb_add hrb1 (KEc_f hke hf_58 ⟨rfl, fun _ => rfl, fun _ => rfl⟩) (by omega) (lv_b hr (by omega)) fU3 qU3
              exact ⟨fun i j hi => (y9.2.1 i j hi).trans (od1.1 i j hi), by have := y9.2.2; have := od1.2; omega⟩
            · omega
          · refine hK 140 [some (vR 106 0), some (vR 100 c), some (vI u), some (vI q), some (vI w), some (vI d), some (vI (T 100 c 5 + an_ (T 100 c 5) 1 - 1)), none, some (vI k), some (vI ((q + k) % (T 100 c 5 + an_ (T 100 c 5) 1 - 1))), some (vI (((q - k) + (T 100 c 5 + an_ (T 100 c 5) 1 - 1)) % (T 100 c 5 + an_ (T 100 c 5) 1 - 1))), some (vI v)] [vI (((q - k) + (T 100 c 5 + an_ (T 100 c 5) 1 - 1)) % (T 100 c 5 + an_ (T 100 c 5) 1 - 1)), vI (((q - k) + (T 100 c 5 + an_ (T 100 c 5) 1 - 1)) % (T 100 c 5 + an_ (T 100 c 5) 1 - 1)), vI u, vR 100 c, vR 106 0] T1 ?_
            refine j_blk (F := fX6) tb_X6 (by decide) bk_X6_addRound_140 hz (fun K hK => ?_)
            refine hK 142 [some (vR 106 0), some (vR 100 c), some (vI u), some (vI q), some (vI w), some (vI d), some (vI (T 100 c 5 + an_ (T 100 c 5) 1 - 1)), none, some (vI k), some (vI ((q + k) % (T 100 c 5 + an_ (T 100 c 5) 1 - 1))), some (vI (((q - k) + (T 100 c 5 + an_ (T 100 c 5) 1 - 1)) % (T 100 c 5 + an_ (T 100 c 5) 1 - 1))), some (vI v)] [vI d, vI (((q - k) + (T 100 c 5 + an_ (T 100 c 5) 1 - 1)) % (T 100 c 5 + an_ (T 100 c 5) 1 - 1)), vI (((q - k) + (T 100 c 5 + an_ (T 100 c 5) 1 - 1)) % (T 100 c 5 + an_ (T 100 c 5) 1 - 1)), vI u, vR 100 c, vR 106 0] T1 ?_
            refine j_callV (y := yX6_addFixture) (Yc := zX6_addFixture) (rest := []) [vR 100 c, vI u, vI (((q - k) + (T 100 c 5 + an_ (T 100 c 5) 1 - 1)) % (T 100 c 5 + an_ (T 100 c 5) 1 - 1)), vI (((q - k) + (T 100 c 5 + an_ (T 100 c 5) 1 - 1)) % (T 100 c 5 + an_ (T 100 c 5) 1 - 1)), vI d] (ct_X6_addFixture (T := T1) hc (by omega) (hrb1.2.2.2.2)) cl_X6_75 (by decide +kernel) (by decide) rfl (by decide +kernel) (Nat.le_of_ble_eq_true rfl) (by show 3 ≤ (3 * ((T 100 c 5 + an_ (T 100 c 5) 1 - 1) / 2 + 1 - k)).toNat; omega) (by show 34 ≤ (34 * ((T 100 c 5 + an_ (T 100 c 5) 1 - 1) / 2 + 1 - k)).toNat; omega) rfl ?_
            rintro U5 _ ⟨rfl, fU5, qU5⟩
            show J_ zX6_addRound T (po_X6_addRound T c f u q w d) (((3 * ((T 100 c 5 + an_ (T 100 c 5) 1 - 1) / 2 + 1 - k)).toNat) - 3) (((34 * ((T 100 c 5 + an_ (T 100 c 5) 1 - 1) / 2 + 1 - k)).toNat) - 34) 145 [some (vR 106 0), some (vR 100 c), some (vI u), some (vI q), some (vI w), some (vI d), some (vI (T 100 c 5 + an_ (T 100 c 5) 1 - 1)), none, some (vI k), some (vI ((q + k) % (T 100 c 5 + an_ (T 100 c 5) 1 - 1))), some (vI (((q - k) + (T 100 c 5 + an_ (T 100 c 5) 1 - 1)) % (T 100 c 5 + an_ (T 100 c 5) 1 - 1))), some (vI v)] [] U5
            refine j_blk (F := fX6) tb_X6 (by decide) bk_X6_addRound_145 hz (fun K hK => ?_)
            refine rg_i (by omega) ?_
            refine hK 58 [some (vR 106 0), some (vR 100 c), some (vI u), some (vI q), some (vI w), some (vI d), some (vI (T 100 c 5 + an_ (T 100 c 5) 1 - 1)), none, some (vI (k + 1)), some (vI ((q + k) % (T 100 c 5 + an_ (T 100 c 5) 1 - 1))), some (vI (((q - k) + (T 100 c 5 + an_ (T 100 c 5) 1 - 1)) % (T 100 c 5 + an_ (T 100 c 5) 1 - 1))), some (vI v)] [] U5 ?_
            refine j_drop [some (vR 106 0), some (vR 100 c), some (vI u), some (vI q), some (vI w), some (vI d), some (vI (T 100 c 5 + an_ (T 100 c 5) 1 - 1)), none, some (vI (k + 1)), none, none, none] (fun k v hk => ?_) rfl ?_
            · match k, hk with
              | 0, hk => exact hk
              | 1, hk => exact hk
              | 2, hk => exact hk
              | 3, hk => exact hk
              | 4, hk => exact hk
              | 5, hk => exact hk
              | 6, hk => exact hk
              | 7, hk => cases hk
              | 8, hk => exact hk
              | 9, hk => cases hk
              | 10, hk => cases hk
              | 11, hk => cases hk
              | k + 12, hk => cases hk
            refine j_mono (bc' := ((3 * ((T 100 c 5 + an_ (T 100 c 5) 1 - 1) / 2 + 1 - (k + 1))).toNat)) (bs' := ((34 * ((T 100 c 5 + an_ (T 100 c 5) 1 - 1) / 2 + 1 - (k + 1))).toNat)) (by omega) (by omega) ?_
            refine ih_58 _ ?_ (k + 1) U5 (Nat.le_refl _) ?_ ?_ ?_ ?_
            · omega
            · exact fr_t (fr_t (fr_0 _ _) (fr_s hf_58 rfl)) (fr_s fU5 rfl)
            · exact (rb_add hrb1 (KEc_f hke hf_58 ⟨rfl, fun _ => rfl, fun _ => rfl⟩) (by omega) (lv_b hr (by omega)) fU5 qU5).1
            · have y9 := rb_add hrb1 (KEc_f hke hf_58 ⟨rfl, fun _ => rfl, fun _ => rfl⟩) (by omega) (lv_b hr (by omega)) fU5 qU5
              exact ⟨fun i j hi => (y9.2.1 i j hi).trans (od1.1 i j hi), by have := y9.2.2; have := od1.2; omega⟩
            · omega
        · refine hK 128 [some (vR 106 0), some (vR 100 c), some (vI u), some (vI q), some (vI w), some (vI d), some (vI (T 100 c 5 + an_ (T 100 c 5) 1 - 1)), none, some (vI k), some (vI ((q + k) % (T 100 c 5 + an_ (T 100 c 5) 1 - 1))), some (vI (((q - k) + (T 100 c 5 + an_ (T 100 c 5) 1 - 1)) % (T 100 c 5 + an_ (T 100 c 5) 1 - 1))), some (vI v)] [vI ((q + k) % (T 100 c 5 + an_ (T 100 c 5) 1 - 1)), vI u, vR 100 c, vR 106 0] T1 ?_
          refine j_blk (F := fX6) tb_X6 (by decide) bk_X6_addRound_128 hz (fun K hK => ?_)
          refine And.intro (fun c7 => ?_) (fun c7 => ?_)
          · refine hK 138 [some (vR 106 0), some (vR 100 c), some (vI u), some (vI q), some (vI w), some (vI d), some (vI (T 100 c 5 + an_ (T 100 c 5) 1 - 1)), none, some (vI k), some (vI ((q + k) % (T 100 c 5 + an_ (T 100 c 5) 1 - 1))), some (vI (((q - k) + (T 100 c 5 + an_ (T 100 c 5) 1 - 1)) % (T 100 c 5 + an_ (T 100 c 5) 1 - 1))), some (vI v)] [vI ((q + k) % (T 100 c 5 + an_ (T 100 c 5) 1 - 1)), vI u, vR 100 c, vR 106 0] T1 ?_
            refine j_blk (F := fX6) tb_X6 (by decide) bk_X6_addRound_138 hz (fun K hK => ?_)
            refine hK 142 [some (vR 106 0), some (vR 100 c), some (vI u), some (vI q), some (vI w), some (vI d), some (vI (T 100 c 5 + an_ (T 100 c 5) 1 - 1)), none, some (vI k), some (vI ((q + k) % (T 100 c 5 + an_ (T 100 c 5) 1 - 1))), some (vI (((q - k) + (T 100 c 5 + an_ (T 100 c 5) 1 - 1)) % (T 100 c 5 + an_ (T 100 c 5) 1 - 1))), some (vI v)] [vI d, vI ((q + k) % (T 100 c 5 + an_ (T 100 c 5) 1 - 1)), vI ((q + k) % (T 100 c 5 + an_ (T 100 c 5) 1 - 1)), vI u, vR 100 c, vR 106 0] T1 ?_
            refine j_callV (y := yX6_addFixture) (Yc := zX6_addFixture) (rest := []) [vR 100 c, vI u, vI ((q + k) % (T 100 c 5 + an_ (T 100 c 5) 1 - 1)), vI ((q + k) % (T 100 c 5 + an_ (T 100 c 5) 1 - 1)), vI d] (ct_X6_addFixture (T := T1) hc (by omega) (hrb1.2.2.2.2)) cl_X6_75 (by decide +kernel) (by decide) rfl (by decide +kernel) (Nat.le_of_ble_eq_true rfl) (by show 3 ≤ (3 * ((T 100 c 5 + an_ (T 100 c 5) 1 - 1) / 2 + 1 - k)).toNat; omega) (by show 34 ≤ (34 * ((T 100 c 5 + an_ (T 100 c 5) 1 - 1) / 2 + 1 - k)).toNat; omega) rfl ?_
            rintro U8 _ ⟨rfl, fU8, qU8⟩
            show J_ zX6_addRound T (po_X6_addRound T c f u q w d) (((3 * ((T 100 c 5 + an_ (T 100 c 5) 1 - 1) / 2 + 1 - k)).toNat) - 3) (((34 * ((T 100 c 5 + an_ (T 100 c 5) 1 - 1) / 2 + 1 - k)).toNat) - 34) 145 [some (vR 106 0), some (vR 100 c), some (vI u), some (vI q), some (vI w), some (vI d), some (vI (T 100 c 5 + an_ (T 100 c 5) 1 - 1)), none, some (vI k), some (vI ((q + k) % (T 100 c 5 + an_ (T 100 c 5) 1 - 1))), some (vI (((q - k) + (T 100 c 5 + an_ (T 100 c 5) 1 - 1)) % (T 100 c 5 + an_ (T 100 c 5) 1 - 1))), some (vI v)] [] U8
            refine j_blk (F := fX6) tb_X6 (by decide) bk_X6_addRound_145 hz (fun K hK => ?_)
            refine rg_i (by omega) ?_
            refine hK 58 [some (vR 106 0), some (vR 100 c), some (vI u), some (vI q), some (vI w), some (vI d), some (vI (T 100 c 5 + an_ (T 100 c 5) 1 - 1)), none, some (vI (k + 1)), some (vI ((q + k) % (T 100 c 5 + an_ (T 100 c 5) 1 - 1))), some (vI (((q - k) + (T 100 c 5 + an_ (T 100 c 5) 1 - 1)) % (T 100 c 5 + an_ (T 100 c 5) 1 - 1))), some (vI v)] [] U8 ?_
            refine j_drop [some (vR 106 0), some (vR 100 c), some (vI u), some (vI q), some (vI w), some (vI d), some (vI (T 100 c 5 + an_ (T 100 c 5) 1 - 1)), none, some (vI (k + 1)), none, none, none] (fun k v hk => ?_) rfl ?_
            · match k, hk with
              | 0, hk => exact hk
              | 1, hk => exact hk
              | 2, hk => exact hk
              | 3, hk => exact hk
              | 4, hk => exact hk
              | 5, hk => exact hk
              | 6, hk => exact hk
              | 7, hk => cases hk
              | 8, hk => exact hk
              | 9, hk => cases hk
              | 10, hk => cases hk
              | 11, hk => cases hk
              | k + 12, hk => cases hk
            refine j_mono (bc' := ((3 * ((T 100 c 5 + an_ (T 100 c 5) 1 - 1) / 2 + 1 - (k + 1))).toNat)) (bs' := ((34 * ((T 100 c 5 + an_ (T 100 c 5) 1 - 1) / 2 + 1 - (k + 1))).toNat)) (by omega) (by omega) ?_
            refine ih_58 _ ?_ (k + 1) U8 (Nat.le_refl _) ?_ ?_ ?_ ?_
            · omega
            · exact fr_t (fr_t (fr_0 _ _) (fr_s hf_58 rfl)) (fr_s fU8 rfl)
            · exact (rb_add hrb1 (KEc_f hke hf_58 ⟨rfl, fun _ => rfl, fun _ => rfl⟩) (by omega) (lv_a hr (by omega)) fU8 qU8).1
            · have y9 := rb_add hrb1 (KEc_f hke hf_58 ⟨rfl, fun _ => rfl, fun _ => rfl⟩) (by omega) (lv_a hr (by omega)) fU8 qU8
              exact ⟨fun i j hi => (y9.2.1 i j hi).trans (od1.1 i j hi), by have := y9.2.2; have := od1.2; omega⟩
            · omega
          · refine hK 140 [some (vR 106 0), some (vR 100 c), some (vI u), some (vI q), some (vI w), some (vI d), some (vI (T 100 c 5 + an_ (T 100 c 5) 1 - 1)), none, some (vI k), some (vI ((q + k) % (T 100 c 5 + an_ (T 100 c 5) 1 - 1))), some (vI (((q - k) + (T 100 c 5 + an_ (T 100 c 5) 1 - 1)) % (T 100 c 5 + an_ (T 100 c 5) 1 - 1))), some (vI v)] [vI (((q - k) + (T 100 c 5 + an_ (T 100 c 5) 1 - 1)) % (T 100 c 5 + an_ (T 100 c 5) 1 - 1)), vI ((q + k) % (T 100 c 5 + an_ (T 100 c 5) 1 - 1)), vI u, vR 100 c, vR 106 0] T1 ?_
            refine j_blk (F := fX6) tb_X6 (by decide) bk_X6_addRound_140 hz (fun K hK => ?_)
            refine hK 142 [some (vR 106 0), some (vR 100 c), some (vI u), some (vI q), some (vI w), some (vI d), some (vI (T 100 c 5 + an_ (T 100 c 5) 1 - 1)), none, some (vI k), some (vI ((q + k) % (T 100 c 5 + an_ (T 100 c 5) 1 - 1))), some (vI (((q - k) + (T 100 c 5 + an_ (T 100 c 5) 1 - 1)) % (T 100 c 5 + an_ (T 100 c 5) 1 - 1))), some (vI v)] [vI d, vI (((q - k) + (T 100 c 5 + an_ (T 100 c 5) 1 - 1)) % (T 100 c 5 + an_ (T 100 c 5) 1 - 1)), vI ((q + k) % (T 100 c 5 + an_ (T 100 c 5) 1 - 1)), vI u, vR 100 c, vR 106 0] T1 ?_
            refine j_callV (y := yX6_addFixture) (Yc := zX6_addFixture) (rest := []) [vR 100 c, vI u, vI ((q + k) % (T 100 c 5 + an_ (T 100 c 5) 1 - 1)), vI (((q - k) + (T 100 c 5 + an_ (T 100 c 5) 1 - 1)) % (T 100 c 5 + an_ (T 100 c 5) 1 - 1)), vI d] (ct_X6_addFixture (T := T1) hc (by omega) (hrb1.2.2.2.2)) cl_X6_75 (by decide +kernel) (by decide) rfl (by decide +kernel) (Nat.le_of_ble_eq_true rfl) (by show 3 ≤ (3 * ((T 100 c 5 + an_ (T 100 c 5) 1 - 1) / 2 + 1 - k)).toNat; omega) (by show 34 ≤ (34 * ((T 100 c 5 + an_ (T 100 c 5) 1 - 1) / 2 + 1 - k)).toNat; omega) rfl ?_
            rintro U10 _ ⟨rfl, fU10, qU10⟩
            show J_ zX6_addRound T (po_X6_addRound T c f u q w d) (((3 * ((T 100 c 5 + an_ (T 100 c 5) 1 - 1) / 2 + 1 - k)).toNat) - 3) (((34 * ((T 100 c 5 + an_ (T 100 c 5) 1 - 1) / 2 + 1 - k)).toNat) - 34) 145 [some (vR 106 0), some (vR 100 c), some (vI u), some (vI q), some (vI w), some (vI d), some (vI (T 100 c 5 + an_ (T 100 c 5) 1 - 1)), none, some (vI k), some (vI ((q + k) % (T 100 c 5 + an_ (T 100 c 5) 1 - 1))), some (vI (((q - k) + (T 100 c 5 + an_ (T 100 c 5) 1 - 1)) % (T 100 c 5 + an_ (T 100 c 5) 1 - 1))), some (vI v)] [] U10
            refine j_blk (F := fX6) tb_X6 (by decide) bk_X6_addRound_145 hz (fun K hK => ?_)
            refine rg_i (by omega) ?_
            refine hK 58 [some (vR 106 0), some (vR 100 c), some (vI u), some (vI q), some (vI w), some (vI d), some (vI (T 100 c 5 + an_ (T 100 c 5) 1 - 1)), none, some (vI (k + 1)), some (vI ((q + k) % (T 100 c 5 + an_ (T 100 c 5) 1 - 1))), some (vI (((q - k) + (T 100 c 5 + an_ (T 100 c 5) 1 - 1)) % (T 100 c 5 + an_ (T 100 c 5) 1 - 1))), some (vI v)] [] U10 ?_
            refine j_drop [some (vR 106 0), some (vR 100 c), some (vI u), some (vI q), some (vI w), some (vI d), some (vI (T 100 c 5 + an_ (T 100 c 5) 1 - 1)), none, some (vI (k + 1)), none, none, none] (fun k v hk => ?_) rfl ?_
            · match k, hk with
              | 0, hk => exact hk
              | 1, hk => exact hk
              | 2, hk => exact hk
              | 3, hk => exact hk
              | 4, hk => exact hk
              | 5, hk => exact hk
              | 6, hk => exact hk
              | 7, hk => cases hk
              | 8, hk => exact hk
              | 9, hk => cases hk
              | 10, hk => cases hk
              | 11, hk => cases hk
              | k + 12, hk => cases hk
            refine j_mono (bc' := ((3 * ((T 100 c 5 + an_ (T 100 c 5) 1 - 1) / 2 + 1 - (k + 1))).toNat)) (bs' := ((34 * ((T 100 c 5 + an_ (T 100 c 5) 1 - 1) / 2 + 1 - (k + 1))).toNat)) (by omega) (by omega) ?_
            refine ih_58 _ ?_ (k + 1) U10 (Nat.le_refl _) ?_ ?_ ?_ ?_
            · omega
            · exact fr_t (fr_t (fr_0 _ _) (fr_s hf_58 rfl)) (fr_s fU10 rfl)
            · exact (rb_add hrb1 (KEc_f hke hf_58 ⟨rfl, fun _ => rfl, fun _ => rfl⟩) (by omega) (lv_a hr (by omega)) fU10 qU10).1
            · have y9 := rb_add hrb1 (KEc_f hke hf_58 ⟨rfl, fun _ => rfl, fun _ => rfl⟩) (by omega) (lv_a hr (by omega)) fU10 qU10
              exact ⟨fun i j hi => (y9.2.1 i j hi).trans (od1.1 i j hi), by have := y9.2.2; have := od1.2; omega⟩
            · omega
      refine j_blk (F := fX6) tb_X6 (by decide) bk_X6_addRound_58 hz (fun K hK => ?_)
      refine dv_i (by omega) ?_
      refine And.intro (fun c12 => ?_) (fun c12 => ?_)
      · refine hK 151 [some (vR 106 0), some (vR 100 c), some (vI u), some (vI q), some (vI w), some (vI d), some (vI (T 100 c 5 + an_ (T 100 c 5) 1 - 1)), none, some (vI k), none, none, none] [] T1 ?_
        refine j_blk (F := fX6) tb_X6 (by decide) bk_X6_addRound_151 hz (fun K hK => ?_)
        refine (show po_X6_addRound T c f u q w d T1 (none) from ?_)
        exact ⟨rfl, hf_58, rb_mono hrb1 (by omega), od1⟩
      · refine rg_i (by omega) ?_
        refine dv_i (by omega) ?_
        refine rg_i (by omega) ?_
        refine rg_i (by omega) ?_
        refine dv_i (by omega) ?_
        intro w13 w13b
        refine And.intro (fun c14 => ?_) (fun c14 => ?_)
        · refine hK 100 [some (vR 106 0), some (vR 100 c), some (vI u), some (vI q), some (vI w), some (vI d), some (vI (T 100 c 5 + an_ (T 100 c 5) 1 - 1)), none, some (vI k), some (vI ((q + k) % (T 100 c 5 + an_ (T 100 c 5) 1 - 1))), some (vI (((q - k) + (T 100 c 5 + an_ (T 100 c 5) 1 - 1)) % (T 100 c 5 + an_ (T 100 c 5) 1 - 1))), none] [] T1 ?_
          refine j_blk (F := fX6) tb_X6 (by decide) bk_X6_addRound_100 hz (fun K hK => ?_)
          refine And.intro (fun c15 => ?_) (fun c15 => ?_)
          · refine hK 110 [some (vR 106 0), some (vR 100 c), some (vI u), some (vI q), some (vI w), some (vI d), some (vI (T 100 c 5 + an_ (T 100 c 5) 1 - 1)), none, some (vI k), some (vI ((q + k) % (T 100 c 5 + an_ (T 100 c 5) 1 - 1))), some (vI (((q - k) + (T 100 c 5 + an_ (T 100 c 5) 1 - 1)) % (T 100 c 5 + an_ (T 100 c 5) 1 - 1))), none] [] T1 ?_
            refine j_blk (F := fX6) tb_X6 (by decide) bk_X6_addRound_110 hz (fun K hK => ?_)
            refine hK 111 [some (vR 106 0), some (vR 100 c), some (vI u), some (vI q), some (vI w), some (vI d), some (vI (T 100 c 5 + an_ (T 100 c 5) 1 - 1)), none, some (vI k), some (vI ((q + k) % (T 100 c 5 + an_ (T 100 c 5) 1 - 1))), some (vI (((q - k) + (T 100 c 5 + an_ (T 100 c 5) 1 - 1)) % (T 100 c 5 + an_ (T 100 c 5) 1 - 1))), none] [vI 0] T1 ?_
            refine c_111 0 ?_
            · omega
          · refine hK 111 [some (vR 106 0), some (vR 100 c), some (vI u), some (vI q), some (vI w), some (vI d), some (vI (T 100 c 5 + an_ (T 100 c 5) 1 - 1)), none, some (vI k), some (vI ((q + k) % (T 100 c 5 + an_ (T 100 c 5) 1 - 1))), some (vI (((q - k) + (T 100 c 5 + an_ (T 100 c 5) 1 - 1)) % (T 100 c 5 + an_ (T 100 c 5) 1 - 1))), none] [vI 1] T1 ?_
            refine c_111 1 ?_
            · omega
        · refine hK 101 [some (vR 106 0), some (vR 100 c), some (vI u), some (vI q), some (vI w), some (vI d), some (vI (T 100 c 5 + an_ (T 100 c 5) 1 - 1)), none, some (vI k), some (vI ((q + k) % (T 100 c 5 + an_ (T 100 c 5) 1 - 1))), some (vI (((q - k) + (T 100 c 5 + an_ (T 100 c 5) 1 - 1)) % (T 100 c 5 + an_ (T 100 c 5) 1 - 1))), none] [vI 1] T1 ?_
          refine j_blk (F := fX6) tb_X6 (by decide) bk_X6_addRound_101 hz (fun K hK => ?_)
          refine And.intro (fun c16 => ?_) (fun c16 => ?_)
          · refine hK 110 [some (vR 106 0), some (vR 100 c), some (vI u), some (vI q), some (vI w), some (vI d), some (vI (T 100 c 5 + an_ (T 100 c 5) 1 - 1)), none, some (vI k), some (vI ((q + k) % (T 100 c 5 + an_ (T 100 c 5) 1 - 1))), some (vI (((q - k) + (T 100 c 5 + an_ (T 100 c 5) 1 - 1)) % (T 100 c 5 + an_ (T 100 c 5) 1 - 1))), none] [] T1 ?_
            refine j_blk (F := fX6) tb_X6 (by decide) bk_X6_addRound_110 hz (fun K hK => ?_)
            refine hK 111 [some (vR 106 0), some (vR 100 c), some (vI u), some (vI q), some (vI w), some (vI d), some (vI (T 100 c 5 + an_ (T 100 c 5) 1 - 1)), none, some (vI k), some (vI ((q + k) % (T 100 c 5 + an_ (T 100 c 5) 1 - 1))), some (vI (((q - k) + (T 100 c 5 + an_ (T 100 c 5) 1 - 1)) % (T 100 c 5 + an_ (T 100 c 5) 1 - 1))), none] [vI 0] T1 ?_
            refine c_111 0 ?_
            · omega
          · refine hK 111 [some (vR 106 0), some (vR 100 c), some (vI u), some (vI q), some (vI w), some (vI d), some (vI (T 100 c 5 + an_ (T 100 c 5) 1 - 1)), none, some (vI k), some (vI ((q + k) % (T 100 c 5 + an_ (T 100 c 5) 1 - 1))), some (vI (((q - k) + (T 100 c 5 + an_ (T 100 c 5) 1 - 1)) % (T 100 c 5 + an_ (T 100 c 5) 1 - 1))), none] [vI 1] T1 ?_
            refine c_111 1 ?_
            · omega
  refine j_blk (F := fX6) tb_X6 (by decide) bk_X6_addRound_0 hz (fun K hK => ?_)
  refine hK 1 [some (vR 106 0), some (vR 100 c), some (vI u), some (vI q), some (vI w), some (vI d), none, none, none, none, none, none] [vR 100 c] T ?_
  refine j_callV (y := yX0_placeCount) (Yc := zX0_placeCount) (rest := []) [] (ct_X0_placeCount (T := T)) cl_X6_63 (by decide +kernel) (by decide) rfl (by decide +kernel) (Nat.le_of_ble_eq_true rfl) (by decide) (by decide) rfl ?_
  rintro _ _ ⟨rfl, rfl⟩
  show J_ zX6_addRound T (po_X6_addRound T c f u q w d) 18 204 4 [some (vR 106 0), some (vR 100 c), some (vI u), some (vI q), some (vI w), some (vI d), none, none, none, none, none, none] [vI (T 100 c 5 + an_ (T 100 c 5) 1)] T
  refine j_blk (F := fX6) tb_X6 (by decide) bk_X6_addRound_4 hz (fun K hK => ?_)
  refine rg_i (by omega) ?_
  intro w17 w17b
  refine And.intro (fun c18 => ?_) (fun c18 => ?_)
  · refine hK 18 [some (vR 106 0), some (vR 100 c), some (vI u), some (vI q), some (vI w), some (vI d), some (vI ((T 100 c 5 + an_ (T 100 c 5) 1) - 1)), none, none, none, none, none] [] T ?_
    refine j_blk (F := fX6) tb_X6 (by decide) bk_X6_addRound_18 hz (fun K hK => ?_)
    refine And.intro (fun c19 => ?_) (fun c19 => ?_)
    · refine hK 35 [some (vR 106 0), some (vR 100 c), some (vI u), some (vI q), some (vI w), some (vI d), some (vI ((T 100 c 5 + an_ (T 100 c 5) 1) - 1)), some (vI 0), none, none, none, none] [vI u, vR 100 c, vR 106 0] T ?_
      refine j_blk (F := fX6) tb_X6 (by decide) bk_X6_addRound_35 hz (fun K hK => ?_)
      refine And.intro (fun c20 => ?_) (fun c20 => ?_)
      · refine hK 49 [some (vR 106 0), some (vR 100 c), some (vI u), some (vI q), some (vI w), some (vI d), some (vI ((T 100 c 5 + an_ (T 100 c 5) 1) - 1)), some (vI 0), none, none, none, none] [vI ((T 100 c 5 + an_ (T 100 c 5) 1) - 1), vI u, vR 100 c, vR 106 0] T ?_
        refine j_blk (F := fX6) tb_X6 (by decide) bk_X6_addRound_49 hz (fun K hK => ?_)
        refine hK 52 [some (vR 106 0), some (vR 100 c), some (vI u), some (vI q), some (vI w), some (vI d), some (vI ((T 100 c 5 + an_ (T 100 c 5) 1) - 1)), some (vI 0), none, none, none, none] [vI d, vI q, vI ((T 100 c 5 + an_ (T 100 c 5) 1) - 1), vI u, vR 100 c, vR 106 0] T ?_
        refine j_callV (y := yX6_addFixture) (Yc := zX6_addFixture) (rest := []) [vR 100 c, vI u, vI ((T 100 c 5 + an_ (T 100 c 5) 1) - 1), vI q, vI d] (ct_X6_addFixture (T := T) hc (by omega) (hrb.2.2.2.2)) cl_X6_75 (by decide +kernel) (by decide) rfl (by decide +kernel) (Nat.le_of_ble_eq_true rfl) (by decide) (by decide) rfl ?_
        rintro U21 _ ⟨rfl, fU21, qU21⟩
        show J_ zX6_addRound T (po_X6_addRound T c f u q w d) 15 170 55 [some (vR 106 0), some (vR 100 c), some (vI u), some (vI q), some (vI w), some (vI d), some (vI ((T 100 c 5 + an_ (T 100 c 5) 1) - 1)), some (vI 0), none, none, none, none] [] U21
        refine j_blk (F := fX6) tb_X6 (by decide) bk_X6_addRound_55 hz (fun K hK => ?_)
        refine hK 58 [some (vR 106 0), some (vR 100 c), some (vI u), some (vI q), some (vI w), some (vI d), some (vI ((T 100 c 5 + an_ (T 100 c 5) 1) - 1)), some (vI 0), some (vI 1), none, none, none] [] U21 ?_
        refine j_drop [some (vR 106 0), some (vR 100 c), some (vI u), some (vI q), some (vI w), some (vI d), some (vI ((T 100 c 5 + an_ (T 100 c 5) 1) - 1)), none, some (vI 1), none, none, none] (fun k v hk => ?_) rfl ?_
        · match k, hk with
          | 0, hk => exact hk
          | 1, hk => exact hk
          | 2, hk => exact hk
          | 3, hk => exact hk
          | 4, hk => exact hk
          | 5, hk => exact hk
          | 6, hk => exact hk
          | 7, hk => cases hk
          | 8, hk => exact hk
          | 9, hk => cases hk
          | 10, hk => cases hk
          | 11, hk => cases hk
          | k + 12, hk => cases hk
        refine j_mono (bc' := ((3 * ((T 100 c 5 + an_ (T 100 c 5) 1 - 1) / 2 + 1 - 1)).toNat)) (bs' := ((34 * ((T 100 c 5 + an_ (T 100 c 5) 1 - 1) / 2 + 1 - 1)).toNat)) (by omega) (by omega) ?_
        refine c_58 _ 1 U21 (Nat.le_refl _) ?_ ?_ ?_ ?_
        · exact fr_t (fr_0 _ _) (fr_s fU21 rfl)
        · exact (rb_add hrb hke (by omega) (lv_R _ _) fU21 qU21).1
        · exact (rb_add hrb hke (by omega) (lv_R _ _) fU21 qU21).2
        · omega
      · refine hK 50 [some (vR 106 0), some (vR 100 c), some (vI u), some (vI q), some (vI w), some (vI d), some (vI ((T 100 c 5 + an_ (T 100 c 5) 1) - 1)), some (vI 0), none, none, none, none] [vI ((T 100 c 5 + an_ (T 100 c 5) 1) - 1), vI ((T 100 c 5 + an_ (T 100 c 5) 1) - 1), vI u, vR 100 c, vR 106 0] T ?_
        refine j_blk (F := fX6) tb_X6 (by decide) bk_X6_addRound_50 hz (fun K hK => ?_)
        refine hK 52 [some (vR 106 0), some (vR 100 c), some (vI u), some (vI q), some (vI w), some (vI d), some (vI ((T 100 c 5 + an_ (T 100 c 5) 1) - 1)), some (vI 0), none, none, none, none] [vI d, vI ((T 100 c 5 + an_ (T 100 c 5) 1) - 1), vI ((T 100 c 5 + an_ (T 100 c 5) 1) - 1), vI u, vR 100 c, vR 106 0] T ?_
        refine j_callV (y := yX6_addFixture) (Yc := zX6_addFixture) (rest := []) [vR 100 c, vI u, vI ((T 100 c 5 + an_ (T 100 c 5) 1) - 1), vI ((T 100 c 5 + an_ (T 100 c 5) 1) - 1), vI d] (ct_X6_addFixture (T := T) hc (by omega) (hrb.2.2.2.2)) cl_X6_75 (by decide +kernel) (by decide) rfl (by decide +kernel) (Nat.le_of_ble_eq_true rfl) (by decide) (by decide) rfl ?_
        rintro U23 _ ⟨rfl, fU23, qU23⟩
        show J_ zX6_addRound T (po_X6_addRound T c f u q w d) 15 170 55 [some (vR 106 0), some (vR 100 c), some (vI u), some (vI q), some (vI w), some (vI d), some (vI ((T 100 c 5 + an_ (T 100 c 5) 1) - 1)), some (vI 0), none, none, none, none] [] U23
        refine j_blk (F := fX6) tb_X6 (by decide) bk_X6_addRound_55 hz (fun K hK => ?_)
        refine hK 58 [some (vR 106 0), some (vR 100 c), some (vI u), some (vI q), some (vI w), some (vI d), some (vI ((T 100 c 5 + an_ (T 100 c 5) 1) - 1)), some (vI 0), some (vI 1), none, none, none] [] U23 ?_
        refine j_drop [some (vR 106 0), some (vR 100 c), some (vI u), some (vI q), some (vI w), some (vI d), some (vI ((T 100 c 5 + an_ (T 100 c 5) 1) - 1)), none, some (vI 1), none, none, none] (fun k v hk => ?_) rfl ?_
        · match k, hk with
          | 0, hk => exact hk
          | 1, hk => exact hk
          | 2, hk => exact hk
          | 3, hk => exact hk
          | 4, hk => exact hk
          | 5, hk => exact hk
          | 6, hk => exact hk
          | 7, hk => cases hk
          | 8, hk => exact hk
          | 9, hk => cases hk
          | 10, hk => cases hk
          | 11, hk => cases hk
          | k + 12, hk => cases hk
        refine j_mono (bc' := ((3 * ((T 100 c 5 + an_ (T 100 c 5) 1 - 1) / 2 + 1 - 1)).toNat)) (bs' := ((34 * ((T 100 c 5 + an_ (T 100 c 5) 1 - 1) / 2 + 1 - 1)).toNat)) (by omega) (by omega) ?_
        refine c_58 _ 1 U23 (Nat.le_refl _) ?_ ?_ ?_ ?_
        · exact fr_t (fr_0 _ _) (fr_s fU23 rfl)
        · exact (rb_add hrb hke (by omega) (lv_R _ _) fU23 qU23).1
        · exact (rb_add hrb hke (by omega) (lv_R _ _) fU23 qU23).2
        · omega
    · refine hK 37 [some (vR 106 0), some (vR 100 c), some (vI u), some (vI q), some (vI w), some (vI d), some (vI ((T 100 c 5 + an_ (T 100 c 5) 1) - 1)), some (vI 0), none, none, none, none] [vI q, vI u, vR 100 c, vR 106 0] T ?_
      refine j_blk (F := fX6) tb_X6 (by decide) bk_X6_addRound_37 hz (fun K hK => ?_)
      refine And.intro (fun c25 => ?_) (fun c25 => ?_)
      · refine hK 49 [some (vR 106 0), some (vR 100 c), some (vI u), some (vI q), some (vI w), some (vI d), some (vI ((T 100 c 5 + an_ (T 100 c 5) 1) - 1)), some (vI 0), none, none, none, none] [vI q, vI u, vR 100 c, vR 106 0] T ?_
        refine j_blk (F := fX6) tb_X6 (by decide) bk_X6_addRound_49 hz (fun K hK => ?_)
        refine hK 52 [some (vR 106 0), some (vR 100 c), some (vI u), some (vI q), some (vI w), some (vI d), some (vI ((T 100 c 5 + an_ (T 100 c 5) 1) - 1)), some (vI 0), none, none, none, none] [vI d, vI q, vI q, vI u, vR 100 c, vR 106 0] T ?_
        refine j_callV (y := yX6_addFixture) (Yc := zX6_addFixture) (rest := []) [vR 100 c, vI u, vI q, vI q, vI d] (ct_X6_addFixture (T := T) hc (by omega) (hrb.2.2.2.2)) cl_X6_75 (by decide +kernel) (by decide) rfl (by decide +kernel) (Nat.le_of_ble_eq_true rfl) (by decide) (by decide) rfl ?_
        rintro U26 _ ⟨rfl, fU26, qU26⟩
        show J_ zX6_addRound T (po_X6_addRound T c f u q w d) 15 170 55 [some (vR 106 0), some (vR 100 c), some (vI u), some (vI q), some (vI w), some (vI d), some (vI ((T 100 c 5 + an_ (T 100 c 5) 1) - 1)), some (vI 0), none, none, none, none] [] U26
        refine j_blk (F := fX6) tb_X6 (by decide) bk_X6_addRound_55 hz (fun K hK => ?_)
        refine hK 58 [some (vR 106 0), some (vR 100 c), some (vI u), some (vI q), some (vI w), some (vI d), some (vI ((T 100 c 5 + an_ (T 100 c 5) 1) - 1)), some (vI 0), some (vI 1), none, none, none] [] U26 ?_
        refine j_drop [some (vR 106 0), some (vR 100 c), some (vI u), some (vI q), some (vI w), some (vI d), some (vI ((T 100 c 5 + an_ (T 100 c 5) 1) - 1)), none, some (vI 1), none, none, none] (fun k v hk => ?_) rfl ?_
        · match k, hk with
          | 0, hk => exact hk
          | 1, hk => exact hk
          | 2, hk => exact hk
          | 3, hk => exact hk
          | 4, hk => exact hk
          | 5, hk => exact hk
          | 6, hk => exact hk
          | 7, hk => cases hk
          | 8, hk => exact hk
          | 9, hk => cases hk
          | 10, hk => cases hk
          | 11, hk => cases hk
          | k + 12, hk => cases hk
        refine j_mono (bc' := ((3 * ((T 100 c 5 + an_ (T 100 c 5) 1 - 1) / 2 + 1 - 1)).toNat)) (bs' := ((34 * ((T 100 c 5 + an_ (T 100 c 5) 1 - 1) / 2 + 1 - 1)).toNat)) (by omega) (by omega) ?_
        refine c_58 _ 1 U26 (Nat.le_refl _) ?_ ?_ ?_ ?_
        · exact fr_t (fr_0 _ _) (fr_s fU26 rfl)
        · exact (rb_add hrb hke (by omega) (lv_r hr) fU26 qU26).1
        · exact (rb_add hrb hke (by omega) (lv_r hr) fU26 qU26).2
        · omega
      · refine hK 50 [some (vR 106 0), some (vR 100 c), some (vI u), some (vI q), some (vI w), some (vI d), some (vI ((T 100 c 5 + an_ (T 100 c 5) 1) - 1)), some (vI 0), none, none, none, none] [vI ((T 100 c 5 + an_ (T 100 c 5) 1) - 1), vI q, vI u, vR 100 c, vR 106 0] T ?_
        refine j_blk (F := fX6) tb_X6 (by decide) bk_X6_addRound_50 hz (fun K hK => ?_)
        refine hK 52 [some (vR 106 0), some (vR 100 c), some (vI u), some (vI q), some (vI w), some (vI d), some (vI ((T 100 c 5 + an_ (T 100 c 5) 1) - 1)), some (vI 0), none, none, none, none] [vI d, vI ((T 100 c 5 + an_ (T 100 c 5) 1) - 1), vI q, vI u, vR 100 c, vR 106 0] T ?_
        refine j_callV (y := yX6_addFixture) (Yc := zX6_addFixture) (rest := []) [vR 100 c, vI u, vI q, vI ((T 100 c 5 + an_ (T 100 c 5) 1) - 1), vI d] (ct_X6_addFixture (T := T) hc (by omega) (hrb.2.2.2.2)) cl_X6_75 (by decide +kernel) (by decide) rfl (by decide +kernel) (Nat.le_of_ble_eq_true rfl) (by decide) (by decide) rfl ?_
        rintro U28 _ ⟨rfl, fU28, qU28⟩
        show J_ zX6_addRound T (po_X6_addRound T c f u q w d) 15 170 55 [some (vR 106 0), some (vR 100 c), some (vI u), some (vI q), some (vI w), some (vI d), some (vI ((T 100 c 5 + an_ (T 100 c 5) 1) - 1)), some (vI 0), none, none, none, none] [] U28
        refine j_blk (F := fX6) tb_X6 (by decide) bk_X6_addRound_55 hz (fun K hK => ?_)
        refine hK 58 [some (vR 106 0), some (vR 100 c), some (vI u), some (vI q), some (vI w), some (vI d), some (vI ((T 100 c 5 + an_ (T 100 c 5) 1) - 1)), some (vI 0), some (vI 1), none, none, none] [] U28 ?_
        refine j_drop [some (vR 106 0), some (vR 100 c), some (vI u), some (vI q), some (vI w), some (vI d), some (vI ((T 100 c 5 + an_ (T 100 c 5) 1) - 1)), none, some (vI 1), none, none, none] (fun k v hk => ?_) rfl ?_
        · match k, hk with
          | 0, hk => exact hk
          | 1, hk => exact hk
          | 2, hk => exact hk
          | 3, hk => exact hk
          | 4, hk => exact hk
          | 5, hk => exact hk
          | 6, hk => exact hk
          | 7, hk => cases hk
          | 8, hk => exact hk
          | 9, hk => cases hk
          | 10, hk => cases hk
          | 11, hk => cases hk
          | k + 12, hk => cases hk
        refine j_mono (bc' := ((3 * ((T 100 c 5 + an_ (T 100 c 5) 1 - 1) / 2 + 1 - 1)).toNat)) (bs' := ((34 * ((T 100 c 5 + an_ (T 100 c 5) 1 - 1) / 2 + 1 - 1)).toNat)) (by omega) (by omega) ?_
        refine c_58 _ 1 U28 (Nat.le_refl _) ?_ ?_ ?_ ?_
        · exact fr_t (fr_0 _ _) (fr_s fU28 rfl)
        · exact (rb_add hrb hke (by omega) (lv_r hr) fU28 qU28).1
        · exact (rb_add hrb hke (by omega) (lv_r hr) fU28 qU28).2
        · omega
  · refine hK 19 [some (vR 106 0), some (vR 100 c), some (vI u), some (vI q), some (vI w), some (vI d), some (vI ((T 100 c 5 + an_ (T 100 c 5) 1) - 1)), none, none, none, none, none] [vI 1] T ?_
    refine j_blk (F := fX6) tb_X6 (by decide) bk_X6_addRound_19 hz (fun K hK => ?_)
    refine And.intro (fun c30 => ?_) (fun c30 => ?_)
    · refine hK 35 [some (vR 106 0), some (vR 100 c), some (vI u), some (vI q), some (vI w), some (vI d), some (vI ((T 100 c 5 + an_ (T 100 c 5) 1) - 1)), some (vI 1), none, none, none, none] [vI u, vR 100 c, vR 106 0] T ?_
      refine j_blk (F := fX6) tb_X6 (by decide) bk_X6_addRound_35 hz (fun K hK => ?_)
      refine And.intro (fun c31 => ?_) (fun c31 => ?_)
      · refine hK 49 [some (vR 106 0), some (vR 100 c), some (vI u), some (vI q), some (vI w), some (vI d), some (vI ((T 100 c 5 + an_ (T 100 c 5) 1) - 1)), some (vI 1), none, none, none, none] [vI ((T 100 c 5 + an_ (T 100 c 5) 1) - 1), vI u, vR 100 c, vR 106 0] T ?_
        refine j_blk (F := fX6) tb_X6 (by decide) bk_X6_addRound_49 hz (fun K hK => ?_)
        refine hK 52 [some (vR 106 0), some (vR 100 c), some (vI u), some (vI q), some (vI w), some (vI d), some (vI ((T 100 c 5 + an_ (T 100 c 5) 1) - 1)), some (vI 1), none, none, none, none] [vI d, vI q, vI ((T 100 c 5 + an_ (T 100 c 5) 1) - 1), vI u, vR 100 c, vR 106 0] T ?_
        refine j_callV (y := yX6_addFixture) (Yc := zX6_addFixture) (rest := []) [vR 100 c, vI u, vI ((T 100 c 5 + an_ (T 100 c 5) 1) - 1), vI q, vI d] (ct_X6_addFixture (T := T) hc (by omega) (hrb.2.2.2.2)) cl_X6_75 (by decide +kernel) (by decide) rfl (by decide +kernel) (Nat.le_of_ble_eq_true rfl) (by decide) (by decide) rfl ?_
        rintro U32 _ ⟨rfl, fU32, qU32⟩
        show J_ zX6_addRound T (po_X6_addRound T c f u q w d) 15 170 55 [some (vR 106 0), some (vR 100 c), some (vI u), some (vI q), some (vI w), some (vI d), some (vI ((T 100 c 5 + an_ (T 100 c 5) 1) - 1)), some (vI 1), none, none, none, none] [] U32
        refine j_blk (F := fX6) tb_X6 (by decide) bk_X6_addRound_55 hz (fun K hK => ?_)
        refine hK 58 [some (vR 106 0), some (vR 100 c), some (vI u), some (vI q), some (vI w), some (vI d), some (vI ((T 100 c 5 + an_ (T 100 c 5) 1) - 1)), some (vI 1), some (vI 1), none, none, none] [] U32 ?_
        refine j_drop [some (vR 106 0), some (vR 100 c), some (vI u), some (vI q), some (vI w), some (vI d), some (vI ((T 100 c 5 + an_ (T 100 c 5) 1) - 1)), none, some (vI 1), none, none, none] (fun k v hk => ?_) rfl ?_
        · match k, hk with
          | 0, hk => exact hk
          | 1, hk => exact hk
          | 2, hk => exact hk
          | 3, hk => exact hk
          | 4, hk => exact hk
          | 5, hk => exact hk
          | 6, hk => exact hk
          | 7, hk => cases hk
          | 8, hk => exact hk
          | 9, hk => cases hk
          | 10, hk => cases hk
          | 11, hk => cases hk
          | k + 12, hk => cases hk
        refine j_mono (bc' := ((3 * ((T 100 c 5 + an_ (T 100 c 5) 1 - 1) / 2 + 1 - 1)).toNat)) (bs' := ((34 * ((T 100 c 5 + an_ (T 100 c 5) 1 - 1) / 2 + 1 - 1)).toNat)) (by omega) (by omega) ?_
        refine c_58 _ 1 U32 (Nat.le_refl _) ?_ ?_ ?_ ?_
        · exact fr_t (fr_0 _ _) (fr_s fU32 rfl)
        · exact (rb_add hrb hke (by omega) (lv_R _ _) fU32 qU32).1
        · exact (rb_add hrb hke (by omega) (lv_R _ _) fU32 qU32).2
        · omega
      · refine hK 50 [some (vR 106 0), some (vR 100 c), some (vI u), some (vI q), some (vI w), some (vI d), some (vI ((T 100 c 5 + an_ (T 100 c 5) 1) - 1)), some (vI 1), none, none, none, none] [vI ((T 100 c 5 + an_ (T 100 c 5) 1) - 1), vI ((T 100 c 5 + an_ (T 100 c 5) 1) - 1), vI u, vR 100 c, vR 106 0] T ?_
        refine j_blk (F := fX6) tb_X6 (by decide) bk_X6_addRound_50 hz (fun K hK => ?_)
        refine hK 52 [some (vR 106 0), some (vR 100 c), some (vI u), some (vI q), some (vI w), some (vI d), some (vI ((T 100 c 5 + an_ (T 100 c 5) 1) - 1)), some (vI 1), none, none, none, none] [vI d, vI ((T 100 c 5 + an_ (T 100 c 5) 1) - 1), vI ((T 100 c 5 + an_ (T 100 c 5) 1) - 1), vI u, vR 100 c, vR 106 0] T ?_
        refine j_callV (y := yX6_addFixture) (Yc := zX6_addFixture) (rest := []) [vR 100 c, vI u, vI ((T 100 c 5 + an_ (T 100 c 5) 1) - 1), vI ((T 100 c 5 + an_ (T 100 c 5) 1) - 1), vI d] (ct_X6_addFixture (T := T) hc (by omega) (hrb.2.2.2.2)) cl_X6_75 (by decide +kernel) (by decide) rfl (by decide +kernel) (Nat.le_of_ble_eq_true rfl) (by decide) (by decide) rfl ?_
        rintro U34 _ ⟨rfl, fU34, qU34⟩
        show J_ zX6_addRound T (po_X6_addRound T c f u q w d) 15 170 55 [some (vR 106 0), some (vR 100 c), some (vI u), some (vI q), some (vI w), some (vI d), some (vI ((T 100 c 5 + an_ (T 100 c 5) 1) - 1)), some (vI 1), none, none, none, none] [] U34
        refine j_blk (F := fX6) tb_X6 (by decide) bk_X6_addRound_55 hz (fun K hK => ?_)
        refine hK 58 [some (vR 106 0), some (vR 100 c), some (vI u), some (vI q), some (vI w), some (vI d), some (vI ((T 100 c 5 + an_ (T 100 c 5) 1) - 1)), some (vI 1), some (vI 1), none, none, none] [] U34 ?_
        refine j_drop [some (vR 106 0), some (vR 100 c), some (vI u), some (vI q), some (vI w), some (vI d), some (vI ((T 100 c 5 + an_ (T 100 c 5) 1) - 1)), none, some (vI 1), none, none, none] (fun k v hk => ?_) rfl ?_
        · match k, hk with
          | 0, hk => exact hk
          | 1, hk => exact hk
          | 2, hk => exact hk
          | 3, hk => exact hk
          | 4, hk => exact hk
          | 5, hk => exact hk
          | 6, hk => exact hk
          | 7, hk => cases hk
          | 8, hk => exact hk
          | 9, hk => cases hk
          | 10, hk => cases hk
          | 11, hk => cases hk
          | k + 12, hk => cases hk
        refine j_mono (bc' := ((3 * ((T 100 c 5 + an_ (T 100 c 5) 1 - 1) / 2 + 1 - 1)).toNat)) (bs' := ((34 * ((T 100 c 5 + an_ (T 100 c 5) 1 - 1) / 2 + 1 - 1)).toNat)) (by omega) (by omega) ?_
        refine c_58 _ 1 U34 (Nat.le_refl _) ?_ ?_ ?_ ?_
        · exact fr_t (fr_0 _ _) (fr_s fU34 rfl)
        · exact (rb_add hrb hke (by omega) (lv_R _ _) fU34 qU34).1
        · exact (rb_add hrb hke (by omega) (lv_R _ _) fU34 qU34).2
        · omega
    · refine hK 37 [some (vR 106 0), some (vR 100 c), some (vI u), some (vI q), some (vI w), some (vI d), some (vI ((T 100 c 5 + an_ (T 100 c 5) 1) - 1)), some (vI 1), none, none, none, none] [vI q, vI u, vR 100 c, vR 106 0] T ?_
      refine j_blk (F := fX6) tb_X6 (by decide) bk_X6_addRound_37 hz (fun K hK => ?_)
      refine And.intro (fun c36 => ?_) (fun c36 => ?_)
      · refine hK 49 [some (vR 106 0), some (vR 100 c), some (vI u), some (vI q), some (vI w), some (vI d), some (vI ((T 100 c 5 + an_ (T 100 c 5) 1) - 1)), some (vI 1), none, none, none, none] [vI q, vI u, vR 100 c, vR 106 0] T ?_
        refine j_blk (F := fX6) tb_X6 (by decide) bk_X6_addRound_49 hz (fun K hK => ?_)
        refine hK 52 [some (vR 106 0), some (vR 100 c), some (vI u), some (vI q), some (vI w), some (vI d), some (vI ((T 100 c 5 + an_ (T 100 c 5) 1) - 1)), some (vI 1), none, none, none, none] [vI d, vI q, vI q, vI u, vR 100 c, vR 106 0] T ?_
        refine j_callV (y := yX6_addFixture) (Yc := zX6_addFixture) (rest := []) [vR 100 c, vI u, vI q, vI q, vI d] (ct_X6_addFixture (T := T) hc (by omega) (hrb.2.2.2.2)) cl_X6_75 (by decide +kernel) (by decide) rfl (by decide +kernel) (Nat.le_of_ble_eq_true rfl) (by decide) (by decide) rfl ?_
        rintro U37 _ ⟨rfl, fU37, qU37⟩
        show J_ zX6_addRound T (po_X6_addRound T c f u q w d) 15 170 55 [some (vR 106 0), some (vR 100 c), some (vI u), some (vI q), some (vI w), some (vI d), some (vI ((T 100 c 5 + an_ (T 100 c 5) 1) - 1)), some (vI 1), none, none, none, none] [] U37
        refine j_blk (F := fX6) tb_X6 (by decide) bk_X6_addRound_55 hz (fun K hK => ?_)
        refine hK 58 [some (vR 106 0), some (vR 100 c), some (vI u), some (vI q), some (vI w), some (vI d), some (vI ((T 100 c 5 + an_ (T 100 c 5) 1) - 1)), some (vI 1), some (vI 1), none, none, none] [] U37 ?_
        refine j_drop [some (vR 106 0), some (vR 100 c), some (vI u), some (vI q), some (vI w), some (vI d), some (vI ((T 100 c 5 + an_ (T 100 c 5) 1) - 1)), none, some (vI 1), none, none, none] (fun k v hk => ?_) rfl ?_
        · match k, hk with
          | 0, hk => exact hk
          | 1, hk => exact hk
          | 2, hk => exact hk
          | 3, hk => exact hk
          | 4, hk => exact hk
          | 5, hk => exact hk
          | 6, hk => exact hk
          | 7, hk => cases hk
          | 8, hk => exact hk
          | 9, hk => cases hk
          | 10, hk => cases hk
          | 11, hk => cases hk
          | k + 12, hk => cases hk
        refine j_mono (bc' := ((3 * ((T 100 c 5 + an_ (T 100 c 5) 1 - 1) / 2 + 1 - 1)).toNat)) (bs' := ((34 * ((T 100 c 5 + an_ (T 100 c 5) 1 - 1) / 2 + 1 - 1)).toNat)) (by omega) (by omega) ?_
        refine c_58 _ 1 U37 (Nat.le_refl _) ?_ ?_ ?_ ?_
        · exact fr_t (fr_0 _ _) (fr_s fU37 rfl)
        · exact (rb_add hrb hke (by omega) (lv_r hr) fU37 qU37).1
        · exact (rb_add hrb hke (by omega) (lv_r hr) fU37 qU37).2
        · omega
      · refine hK 50 [some (vR 106 0), some (vR 100 c), some (vI u), some (vI q), some (vI w), some (vI d), some (vI ((T 100 c 5 + an_ (T 100 c 5) 1) - 1)), some (vI 1), none, none, none, none] [vI ((T 100 c 5 + an_ (T 100 c 5) 1) - 1), vI q, vI u, vR 100 c, vR 106 0] T ?_
        refine j_blk (F := fX6) tb_X6 (by decide) bk_X6_addRound_50 hz (fun K hK => ?_)
        refine hK 52 [some (vR 106 0), some (vR 100 c), some (vI u), some (vI q), some (vI w), some (vI d), some (vI ((T 100 c 5 + an_ (T 100 c 5) 1) - 1)), some (vI 1), none, none, none, none] [vI d, vI ((T 100 c 5 + an_ (T 100 c 5) 1) - 1), vI q, vI u, vR 100 c, vR 106 0] T ?_
        refine j_callV (y := yX6_addFixture) (Yc := zX6_addFixture) (rest := []) [vR 100 c, vI u, vI q, vI ((T 100 c 5 + an_ (T 100 c 5) 1) - 1), vI d] (ct_X6_addFixture (T := T) hc (by omega) (hrb.2.2.2.2)) cl_X6_75 (by decide +kernel) (by decide) rfl (by decide +kernel) (Nat.le_of_ble_eq_true rfl) (by decide) (by decide) rfl ?_
        rintro U39 _ ⟨rfl, fU39, qU39⟩
        show J_ zX6_addRound T (po_X6_addRound T c f u q w d) 15 170 55 [some (vR 106 0), some (vR 100 c), some (vI u), some (vI q), some (vI w), some (vI d), some (vI ((T 100 c 5 + an_ (T 100 c 5) 1) - 1)), some (vI 1), none, none, none, none] [] U39
        refine j_blk (F := fX6) tb_X6 (by decide) bk_X6_addRound_55 hz (fun K hK => ?_)
        refine hK 58 [some (vR 106 0), some (vR 100 c), some (vI u), some (vI q), some (vI w), some (vI d), some (vI ((T 100 c 5 + an_ (T 100 c 5) 1) - 1)), some (vI 1), some (vI 1), none, none, none] [] U39 ?_
        refine j_drop [some (vR 106 0), some (vR 100 c), some (vI u), some (vI q), some (vI w), some (vI d), some (vI ((T 100 c 5 + an_ (T 100 c 5) 1) - 1)), none, some (vI 1), none, none, none] (fun k v hk => ?_) rfl ?_
        · match k, hk with
          | 0, hk => exact hk
          | 1, hk => exact hk
          | 2, hk => exact hk
          | 3, hk => exact hk
          | 4, hk => exact hk
          | 5, hk => exact hk
          | 6, hk => exact hk
          | 7, hk => cases hk
          | 8, hk => exact hk
          | 9, hk => cases hk
          | 10, hk => cases hk
          | 11, hk => cases hk
          | k + 12, hk => cases hk
        refine j_mono (bc' := ((3 * ((T 100 c 5 + an_ (T 100 c 5) 1 - 1) / 2 + 1 - 1)).toNat)) (bs' := ((34 * ((T 100 c 5 + an_ (T 100 c 5) 1 - 1) / 2 + 1 - 1)).toNat)) (by omega) (by omega) ?_
        refine c_58 _ 1 U39 (Nat.le_refl _) ?_ ?_ ?_ ?_
        · exact fr_t (fr_0 _ _) (fr_s fU39 rfl)
        · exact (rb_add hrb hke (by omega) (lv_r hr) fU39 qU39).1
        · exact (rb_add hrb hke (by omega) (lv_r hr) fU39 qU39).2
        · omega
