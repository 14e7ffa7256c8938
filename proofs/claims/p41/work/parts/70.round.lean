/-- how far a place is from the round's own, in the circle -/
def lv_ (R r q : Int) : Int := if q = R then 0 else min (max (q - r) (r - q)) (R - max (q - r) (r - q))
theorem lv_R (R r : Int) : lv_ R r R = 0 := by unfold lv_; rw [if_pos rfl]
theorem lv_r {R r : Int} (h : 0 ≤ r ∧ r < R) : lv_ R r r = 0 := by unfold lv_; rw [if_neg (by omega)]; omega
theorem em_2 {x R : Int} (h : 0 ≤ x) (g : x < 2 * R) : (x < R ∧ x % R = x) ∨ (R ≤ x ∧ x % R = x - R) := by
  by_cases z : x < R
  · exact Or.inl ⟨z, Int.emod_eq_of_lt h z⟩
  · refine Or.inr ⟨by omega, ?_⟩
    rw [← Int.sub_emod_right, Int.emod_eq_of_lt (by omega) (by omega)]
theorem lv_a {R r k : Int} (hr : 0 ≤ r ∧ r < R) (hk : 1 ≤ k ∧ 2 * k ≤ R) : lv_ R r ((r + k) % R) = k := by
  have h := em_2 (x := r + k) (R := R) (by omega) (by omega)
  unfold lv_
  rw [if_neg (by omega)]
  omega
theorem lv_b {R r k : Int} (hr : 0 ≤ r ∧ r < R) (hk : 1 ≤ k ∧ 2 * k ≤ R) : lv_ R r ((r - k + R) % R) = k := by
  have h := em_2 (x := r - k + R) (R := R) (by omega) (by omega)
  unfold lv_
  rw [if_neg (by omega)]
  omega
def KEc_ (T : Zt) (c : Int) : Prop := ∀ j : Int, 0 ≤ j → j < T 100 c 5 → T 404 c (T 403 c j) = j
theorem KEc_f {ws : List (Nat × List Int)} {T T' : Zt} {c : Int} (h : KEc_ T c) (f : fr_ ws T T') (w : fw_ ws 100 5 = false ∧ (∀ j, fw_ ws 404 j = false) ∧ (∀ j, fw_ ws 403 j = false)) : KEc_ T' c := fun j a b => by
  rw [f 100 c 5 w.1] at b
  rw [f 403 c j (w.2.2 j), f 404 c _ (w.2.1 _)]
  exact h j a b
/-- the matches that a plan has laid so far, from number f on -/
def RK_ (T : Zt) (c f R r k d : Int) : Prop := (0 ≤ f ∧ f ≤ T 106 0 4 ∧ T 106 0 4 ≤ 400) ∧ (∀ i, f ≤ i → i < T 106 0 4 → T 102 i 0 = c ∧ T 102 i 1 = i ∧ T 102 i 10 = 0 ∧ 0 ≤ T 404 c (T 102 i 3) ∧ 0 ≤ T 404 c (T 102 i 4) ∧ (T 102 i 5 < d ∨ (T 102 i 5 = d ∧ lv_ R r (T 404 c (T 102 i 3)) < k))) ∧ (∀ i j, f ≤ i → i < j → j < T 106 0 4 → T 102 i 3 = T 102 j 3 → T 102 i 5 ≠ T 102 j 5) ∧ (∀ i, 0 ≤ i → i < T 106 0 4 → T 523 0 i ≠ 0) ∧ NA_ T
theorem rb_next {T : Zt} {c f R r k d r' d' : Int} (h : RK_ T c f R r k d) (hd : d < d') : RK_ T c f R r' 0 d' := by
  obtain ⟨h1, h2, h3, h4, h5⟩ := h
  refine ⟨h1, fun i a b => ?_, h3, h4, h5⟩
  obtain ⟨a1, a2, a3, a4, a5, a6⟩ := h2 i a b
  exact ⟨a1, a2, a3, a4, a5, Or.inl (by omega)⟩
theorem rb_add {T T' : Zt} {c f R r k d h a : Int} (hrb : RK_ T c f R r k d) (hke : KEc_ T c) (hh : 0 ≤ h ∧ 0 ≤ a) (hl : lv_ R r h = k) (fr : fr_ [(106, [4]), (523, []), (152, []), (102, []), (448, []), (449, [])] T T') (hx : (T' = T ∧ (T 100 c 5 ≤ h ∨ T 100 c 5 ≤ a ∨ 400 ≤ T 106 0 4)) ∨ nm_ T T' c h a d) : RK_ T' c f R r (k + 1) d ∧ (∀ i j, i < f → T' 102 i j = T 102 i j) ∧ T 106 0 4 ≤ T' 106 0 4 := by
  obtain ⟨h1, h2, h3, h4, h5⟩ := hrb
  rcases hx with ⟨rfl, -⟩ | ⟨⟨n1, n2, n3, n4⟩, n5, n6, n7, ⟨m0, m1, m3, m4, m5, m10⟩, n8⟩
  · refine ⟨⟨h1, fun i a b => ?_, h3, h4, h5⟩, fun _ _ _ => rfl, by omega⟩
    obtain ⟨a1, a2, a3, a4, a5, a6⟩ := h2 i a b
    exact ⟨a1, a2, a3, a4, a5, a6.imp id (fun z => ⟨z.1, by omega⟩)⟩
  · have e4 : ∀ x, T' 404 c x = T 404 c x := fun x => fr 404 c x rfl
    have eo : ∀ i j, i ≠ T 106 0 4 → T' 102 i j = T 102 i j := fun i j hi => n5 102 i j (Or.inl rfl) hi
    have hs : T' 404 c (T' 102 (T 106 0 4) 3) = h := by rw [e4, m3]; exact hke h hh.1 n3
    have hs2 : T' 404 c (T' 102 (T 106 0 4) 4) = a := by rw [e4, m4]; exact hke a hh.2 n4
    refine ⟨⟨⟨by omega, by omega, by omega⟩, fun i p q => ?_, fun i j p q w => ?_, fun i p q => ?_, n8⟩, fun i j hi => eo i j (by omega), by omega⟩
    · by_cases z : i = T 106 0 4
      · rw [z]
        exact ⟨m0, m1, m10, by rw [hs]; omega, by rw [hs2]; omega, Or.inr ⟨m5, by rw [hs]; omega⟩⟩
      · obtain ⟨a1, a2, a3, a4, a5, a6⟩ := h2 i p (by omega)
        rw [eo i 0 z, eo i 1 z, eo i 10 z, eo i 3 z, eo i 4 z, eo i 5 z, e4, e4]
        exact ⟨a1, a2, a3, a4, a5, a6.imp id (fun z => ⟨z.1, by omega⟩)⟩
    · by_cases z : j = T 106 0 4
      · rw [z, m5, eo i 3 (by omega), eo i 5 (by omega)]
        intro e5 e6
        obtain ⟨a1, a2, a3, a4, a5, a6⟩ := h2 i p (by omega)
        rcases a6 with a6 | ⟨-, a6⟩
        · omega
        · rw [e5, ← e4, hs] at a6
          omega
      · rw [eo i 3 (by omega), eo i 5 (by omega), eo j 3 z, eo j 5 z]
        exact h3 i j p q (by omega)
    · by_cases z : i = T 106 0 4
      · rw [z, n7]; decide
      · rw [n6 i z]
        exact h4 i p (by omega)
abbrev cX0_placeCount : ByteArray := prog_2_method_2_code
def yX0_placeCount : MethodName := ⟨RX0, "placeCount", "()I"⟩
def zX0_placeCount : Zm := (RX0, cX0_placeCount, 1, (some .int), { frames := 0, cells := 0, slots := 0, locals := 0 })
theorem bk_X0_placeCount_0 : ck_ fX0 (some .int) cX0_placeCount 0 [.aload 0, .tableswitch 0 0 5 #[], .aload 0, .tableswitch 0 0 5 #[], .iconst 1, .iand, .iadd, .ireturn] 12 = true := qck_r (by decide) (by decide +kernel)
theorem bs_X0_placeCount_0 {P : Zt → Option Zv → Prop} (K : Int → Zl → List Zv → Zt → Prop) : sx_ K P [.aload 0, .tableswitch 0 0 5 #[], .aload 0, .tableswitch 0 0 5 #[], .iconst 1, .iand, .iadd, .ireturn] 12 = x_aload 0 (x_g0 100 5 0 12 (x_aload 0 (x_g0 100 5 0 12 (x_iconst 1 (x_iand (x_iadd (x_ireturn P))))))) := ((xe_aload 0).trans (congrArg (x_aload 0) ((xe_g0 (kk := 100) rfl tl_0_5).trans (congrArg (x_g0 100 5 0 12) ((xe_aload 0).trans (congrArg (x_aload 0) ((xe_g0 (kk := 100) rfl tl_0_5).trans (congrArg (x_g0 100 5 0 12) ((xe_iconst 1).trans (congrArg (x_iconst 1) ((xe_iand).trans (congrArg (x_iand) ((xe_iadd).trans (congrArg (x_iadd) (xe_ireturn)))))))))))))))
abbrev po_X0_placeCount (T : Zt) (c : Int) : Zt → Option Zv → Prop := fun T' r => T = T' ∧ r = some (vI (T 100 c 5 + an_ (T 100 c 5) 1))
set_option maxHeartbeats 4000000 in
theorem ct_X0_placeCount {T : Zt} {c : Int} : Ct_ yX0_placeCount zX0_placeCount T [vR 100 c] (po_X0_placeCount T c) := by
  refine ct_of (by decide) rfl rfl (Nat.le_of_ble_eq_true rfl) (fun hT hav => ?_)
  have hz : zX0_placeCount.2.2.2.1 = some .boolean → ∀ (T' : Zt) (x : Int), po_X0_placeCount T c T' (some (vI x)) → 0 ≤ x ∧ x ≤ 1 := fun h => by cases h
  have hb5 : 0 ≤ T 100 c 5 ∧ T 100 c 5 ≤ 12 := bd_f hT 100 5 (by decide +kernel : (tf_ 100)[5]? = some (0, 0, 0, 12)) c
  have hp1 := an_1b (T 100 c 5)
  show J_ zX0_placeCount T (po_X0_placeCount T c) 0 0 0 [some (vR 100 c)] [] T
  refine j_blx (F := fX0) tb_X0 (by decide) bk_X0_placeCount_0 bs_X0_placeCount_0 hz (fun K hK => ?_)
  intro b1 b1b
  intro b2 b2b
  intro w3 w3b
  refine rg_i (by omega) ?_
  refine (show po_X0_placeCount T c T (some (vI ((T 100 c 5) + (an_ (T 100 c 5) 1)))) from ?_)
  exact ⟨rfl, rfl⟩
theorem rb_mono {T : Zt} {c f R r k k2 d : Int} (h : RK_ T c f R r k d) (g : k ≤ k2) : RK_ T c f R r k2 d := by
  obtain ⟨h1, h2, h3, h4, h5⟩ := h
  refine ⟨h1, fun i a b => ?_, h3, h4, h5⟩
  obtain ⟨a1, a2, a3, a4, a5, a6⟩ := h2 i a b
  exact ⟨a1, a2, a3, a4, a5, a6.imp id (fun z => ⟨z.1, by omega⟩)⟩
abbrev cX6_addRound : ByteArray := prog_8_method_3_code
def yX6_addRound : MethodName := ⟨RX6, "addRound", "(LSportsHouse$Competition;IIZI)V"⟩
def zX6_addRound : Zm := (RX6, cX6_addRound, 12, none, { frames := 3, cells := 18, slots := 204, locals := 81 })
set_option maxRecDepth 100000 in
theorem cl_X6_75 : cv_ RX6 75 yX6_addFixture zX6_addFixture 6 5 := ⟨gi_V (lw_b3 217 (by decide +kernel) rfl : Cond.methodLink RX6 75 yX6_addFixture ∈ lw_g) (lw_b3 219 (by decide +kernel) rfl : Cond.instanceMethod yX6_addFixture ∈ lw_g) (lw_sel 119 rfl : Cond.selects yX6_addFixture.cls yX6_addFixture yX6_addFixture ∈ lw_g) (lw_b1 4 (by decide +kernel) rfl : Cond.initialized yX6_addFixture.cls ∈ lw_g) (lw_b3 220 rfl rfl : Cond.code yX6_addFixture cX6_addFixture 6 none ∈ lw_g), ⟨by decide, by decide, by decide +kernel⟩, ⟨_, _, rfl⟩⟩
set_option maxRecDepth 100000 in
theorem cl_X6_63 : cv_ RX6 63 yX0_placeCount zX0_placeCount 0 0 := ⟨gi_V (lw_b3 212 (by decide +kernel) rfl : Cond.methodLink RX6 63 yX0_placeCount ∈ lw_g) (lw_b3 201 (by decide +kernel) rfl : Cond.instanceMethod yX0_placeCount ∈ lw_g) (lw_b3 202 (by decide +kernel) rfl : Cond.selects yX0_placeCount.cls yX0_placeCount yX0_placeCount ∈ lw_g) (lw_b1 15 (by decide +kernel) rfl : Cond.initialized yX0_placeCount.cls ∈ lw_g) (lw_b3 203 rfl rfl : Cond.code yX0_placeCount cX0_placeCount 1 (some .int) ∈ lw_g), ⟨by decide, by decide, by decide +kernel⟩, ⟨_, _, rfl⟩⟩
