def DD_ (T : Zt) : Prop := ∀ i j : Int, 0 ≤ i → i < j → j < T 106 0 4 → T 102 i 6 = -1 → T 102 j 6 = -1 → T 102 i 0 = T 102 j 0 → T 102 i 3 = T 102 j 3 → T 102 i 5 ≠ T 102 j 5
theorem DD__f {ws : List (Nat × List Int)} {T T' : Zt} (h : DD_ T) (f : fr_ ws T T') (w : fw_ ws 102 0 = false ∧ fw_ ws 102 3 = false ∧ fw_ ws 102 5 = false ∧ fw_ ws 102 6 = false ∧ fw_ ws 106 4 = false ∧ True) : DD_ T' := by
  have e0 : ∀ i, T' 102 i 0 = T 102 i 0 := fun i => f 102 i 0 w.1
  have e1 : ∀ i, T' 102 i 3 = T 102 i 3 := fun i => f 102 i 3 w.2.1
  have e2 : ∀ i, T' 102 i 5 = T 102 i 5 := fun i => f 102 i 5 w.2.2.1
  have e3 : ∀ i, T' 102 i 6 = T 102 i 6 := fun i => f 102 i 6 w.2.2.2.1
  have e4 : ∀ i, T' 106 i 4 = T 106 i 4 := fun i => f 106 i 4 w.2.2.2.2.1
  simp only [DD_, e0, e1, e2, e3, e4] at h ⊢
  exact h
def KP_ (T : Zt) : Prop := ∀ m : Int, 0 ≤ m → m < T 106 0 4 → T 100 (T 102 m 0) 6 = 1
theorem KP__f {ws : List (Nat × List Int)} {T T' : Zt} (h : KP_ T) (f : fr_ ws T T') (w : fw_ ws 102 0 = false ∧ fw_ ws 100 6 = false ∧ fw_ ws 106 4 = false ∧ True) : KP_ T' := by
  have e0 : ∀ i, T' 102 i 0 = T 102 i 0 := fun i => f 102 i 0 w.1
  have e1 : ∀ i, T' 100 i 6 = T 100 i 6 := fun i => f 100 i 6 w.2.1
  have e2 : ∀ i, T' 106 i 4 = T 106 i 4 := fun i => f 106 i 4 w.2.2.1
  simp only [KP_, e0, e1, e2] at h ⊢
  exact h
def KB_ (T : Zt) : Prop := ∀ c : Int, 0 ≤ c → c < T 106 0 2 → (0 ≤ T 401 c 6 ∧ T 401 c 6 ≤ 4) ∧ 1 ≤ T 401 c 7 ∧ T 401 c 7 ≤ 30
theorem KB__f {ws : List (Nat × List Int)} {T T' : Zt} (h : KB_ T) (f : fr_ ws T T') (w : (∀ j, fw_ ws 401 j = false) ∧ fw_ ws 106 2 = false ∧ True) : KB_ T' := by
  have e0 : ∀ i j, T' 401 i j = T 401 i j := fun i j => f 401 i j (w.1 j)
  have e1 : ∀ i, T' 106 i 2 = T 106 i 2 := fun i => f 106 i 2 w.2.1
  simp only [KB_, e0, e1] at h ⊢
  exact h
/-- what a plan leaves -/
def SJ_ (T T' : Zt) (c : Int) : Prop := (0 ≤ c ∧ c < T 106 0 2 ∧ T 100 c 6 = 0) ∧ fr_ [(106, [4]), (523, []), (152, []), (102, []), (448, []), (449, []), (100, [6, 7, 8])] T T' ∧ (∀ i j, i < T 106 0 4 → T' 102 i j = T 102 i j) ∧ RK_ T' c (T 106 0 4) (T 100 c 5 + an_ (T 100 c 5) 1 - 1) 0 0 2000000 ∧ (T' 100 c 6 = 1 ∧ T' 100 c 7 = T 106 0 4 ∧ T' 100 c 8 = T' 106 0 4 - T 106 0 4) ∧ ∀ i j, i ≠ c → T' 100 i j = T 100 i j
theorem sc_ic {N : Int} {T T' : Zt} {c : Int} (h : SJ_ T T' c) (hka : KA_ T) (hkm : KM_ T) (hkc : KC_ T) (hks : KS_ T) (hkp : KP_ T) (hdd : DD_ T) (hlp : LP_ N T) (hb7 : ∀ i, 0 ≤ T 100 i 7) (hm0 : 0 ≤ T 106 0 4) : KA_ T' ∧ KM_ T' ∧ KC_ T' ∧ KS_ T' ∧ KP_ T' ∧ DD_ T' ∧ NA_ T' ∧ LP_ N T' := by
  obtain ⟨⟨c0, c1, c6⟩, f, od, ⟨⟨r1, r2, r3⟩, r4, r5, r6, r7⟩, ⟨s6, s7, s8⟩, oc⟩ := h
  have e2 : T' 106 0 2 = T 106 0 2 := f 106 0 2 rfl
  have e404 : ∀ a b, T' 404 a b = T 404 a b := fun a b => f 404 a b rfl
  refine ⟨⟨fun i a b => ?_, fun i a b => r6 i a b⟩, fun m a b => ?_, fun i a b => ?_, fun i a b m p q => ?_, fun m a b => ?_, fun i j a b d g1 g2 e1 e3 => ?_, r7, fun p a b d => ?_⟩
  · rw [e2] at b
    rw [f 521 0 i rfl]
    exact hka.1 i a b
  · rw [e2]
    by_cases z : m < T 106 0 4
    · rw [od m 1 z, od m 0 z]
      exact hkm m a z
    · obtain ⟨q1, q2, -⟩ := r4 m (by omega) b
      omega
  · rw [e2] at b
    by_cases z : i = c
    · rw [z, s7, s8]; omega
    · rw [oc i 7 z, oc i 8 z]
      have := hkc i a b
      omega
  · rw [e2] at b
    by_cases z : i = c
    · rw [z, s7] at p
      rw [z, s7, s8] at q
      rw [z]
      obtain ⟨q1, q2, q3, q4, q5, -⟩ := r4 m p (by omega)
      exact ⟨q1, q4, q5⟩
    · rw [oc i 7 z] at p
      rw [oc i 7 z, oc i 8 z] at q
      have k1 := hkc i a b
      have k2 := hb7 i
      rw [od m 0 (by omega), od m 3 (by omega), od m 4 (by omega), e404, e404]
      exact hks i a b m p q
  · by_cases z : m < T 106 0 4
    · rw [od m 0 z]
      by_cases y : T 102 m 0 = c
      · rw [y]; exact s6
      · rw [oc _ 6 y]; exact hkp m a z
    · obtain ⟨q1, -⟩ := r4 m (by omega) b
      rw [q1]; exact s6
  · by_cases z : j < T 106 0 4
    · rw [od i 0 (by omega), od j 0 z] at e1
      rw [od i 3 (by omega), od j 3 z] at e3
      rw [od i 6 (by omega)] at g1
      rw [od j 6 z] at g2
      rw [od i 5 (by omega), od j 5 z]
      exact hdd i j a b z g1 g2 e1 e3
    · by_cases y : i < T 106 0 4
      · obtain ⟨q1, -⟩ := r4 j (by omega) d
        rw [od i 0 y, q1] at e1
        have := hkp i a y
        rw [e1] at this
        omega
      · exact r5 i j (by omega) b d e3
  · by_cases z : p < T 106 0 4
    · rw [od p 10 z] at d
      refine Lp_o (hlp p a z d) (by omega) ⟨fun x _ => f 190 x _ rfl, by rw [f 191 0 0 rfl]; omega⟩ (by omega) ⟨f _ _ _ rfl, f _ _ _ rfl, f _ _ _ rfl, f _ _ _ rfl, f _ _ _ rfl, f _ _ _ rfl, f _ _ _ rfl, f _ _ _ rfl⟩
    · obtain ⟨-, -, q3, -⟩ := r4 p (by omega) b
      exact absurd q3 d
theorem dy_b {R L E x : Int} (h : (0 ≤ L ∧ L ≤ 4) ∧ 1 ≤ E ∧ E ≤ 30) (g : 0 ≤ R ∧ R ≤ 12 ∧ x = (R * L - 1) * E) : -30 ≤ x ∧ x ≤ 1500 := by
  have y1 := mlb (a := R) (b := L) (A := 12) (B := 4) (by omega) (by omega)
  have y2 := mlb (a := R * L) (b := E) (A := 48) (B := 30) (by omega) (by omega)
  have y3 := g.2.2
  rw [Int.sub_mul, Int.one_mul] at y3
  omega
abbrev cX10_plan : ByteArray := prog_1_method_13_code
def yX10_plan : MethodName := ⟨RX10, "plan", "(II)I"⟩
def zX10_plan : Zm := (RX10, cX10_plan, 4, (some .int), { frames := 5, cells := 792, slots := 8976, locals := 138 })
theorem bk_X10_plan_0 : ck_ fX10 (some .int) cX10_plan 0 [.aload 0, .iload 1] 2 = true := by decide +kernel
theorem bk_X10_plan_5 : ck_ fX10 (some .int) cX10_plan 5 [.ifCond .ne 11, .iconst (-2), .ireturn] 11 = true := by decide +kernel
theorem bk_X10_plan_11 : ck_ fX10 (some .int) cX10_plan 11 [.iload 2] 12 = true := by decide +kernel
theorem bk_X10_plan_15 : ck_ fX10 (some .int) cX10_plan 15 [.ifCond .eq 29, .iload 2, .aload 0, .tableswitch 0 10 1 #[], .tableswitch 0 8 13 #[], .if_icmp .ge 32, .iconst (-3), .ireturn] 32 = true := by decide +kernel
theorem bk_X10_plan_29 : ck_ fX10 (some .int) cX10_plan 29 [.iconst (-3), .ireturn] 32 = true := by decide +kernel
theorem bk_X10_plan_32 : ck_ fX10 (some .int) cX10_plan 32 [.aload 0, .tableswitch 0 10 2 #[], .tableswitch 0 6 1 #[], .iload 1, .aaload, .astore 3, .aload 3, .tableswitch 0 0 6 #[], .ifCond .ne 69, .aload 3, .tableswitch 0 0 5 #[], .iconst 2, .if_icmp .lt 69, .iload 2, .aload 3] 59 = true := by decide +kernel
theorem bk_X10_plan_69 : ck_ fX10 (some .int) cX10_plan 69 [.iconst (-4), .ireturn] 72 = true := by decide +kernel
theorem cl_X10_178 : cv_ RX10 178 yX0_daysFromFirstToLast zX0_daysFromFirstToLast 0 0 := ⟨gi_V (lw_at 676 (by decide +kernel) rfl : Cond.methodLink RX10 178 yX0_daysFromFirstToLast ∈ lw_g) (lw_at 677 (by decide +kernel) rfl : Cond.instanceMethod yX0_daysFromFirstToLast ∈ lw_g) (lw_at 678 (by decide +kernel) rfl : Cond.selects yX0_daysFromFirstToLast.cls yX0_daysFromFirstToLast yX0_daysFromFirstToLast ∈ lw_g) (lw_at 15 (by decide +kernel) rfl : Cond.initialized yX0_daysFromFirstToLast.cls ∈ lw_g) (lw_at 679 (by decide +kernel) rfl : Cond.code yX0_daysFromFirstToLast cX0_daysFromFirstToLast 2 (some .int) ∈ lw_g), ⟨by decide, by decide, by decide +kernel⟩, ⟨_, _, rfl⟩⟩
theorem bk_X10_plan_62 : ck_ fX10 (some .int) cX10_plan 62 [.iadd, .iconst 999, .if_icmp .le 72, .iconst (-4), .ireturn] 72 = true := by decide +kernel
theorem bk_X10_plan_72 : ck_ fX10 (some .int) cX10_plan 72 [.aload 0, .tableswitch 0 10 2 #[], .tableswitch 0 6 4 #[], .aload 3] 80 = true := by decide +kernel
theorem cl_X10_185 : cv_ RX10 185 yX0_fixtureCount zX0_fixtureCount 0 0 := ⟨gi_V (lw_at 684 (by decide +kernel) rfl : Cond.methodLink RX10 185 yX0_fixtureCount ∈ lw_g) (lw_at 685 (by decide +kernel) rfl : Cond.instanceMethod yX0_fixtureCount ∈ lw_g) (lw_at 686 (by decide +kernel) rfl : Cond.selects yX0_fixtureCount.cls yX0_fixtureCount yX0_fixtureCount ∈ lw_g) (lw_at 15 (by decide +kernel) rfl : Cond.initialized yX0_fixtureCount.cls ∈ lw_g) (lw_at 687 (by decide +kernel) rfl : Cond.code yX0_fixtureCount cX0_fixtureCount 1 (some .int) ∈ lw_g), ⟨by decide, by decide, by decide +kernel⟩, ⟨_, _, rfl⟩⟩
theorem bk_X10_plan_83 : ck_ fX10 (some .int) cX10_plan 83 [.iadd, .iconst 400, .if_icmp .le 93, .iconst (-5), .ireturn] 93 = true := by decide +kernel
theorem bk_X10_plan_93 : ck_ fX10 (some .int) cX10_plan 93 [.aload 0, .tableswitch 0 10 2 #[], .aload 3, .iload 2] 99 = true := by decide +kernel
theorem cl_X10_188 : cv_ RX10 188 yX6_schedule zX6_schedule 6 2 := ⟨gi_V (lw_at 688 (by decide +kernel) rfl : Cond.methodLink RX10 188 yX6_schedule ∈ lw_g) (lw_at 689 (by decide +kernel) rfl : Cond.instanceMethod yX6_schedule ∈ lw_g) (lw_at 690 (by decide +kernel) rfl : Cond.selects yX6_schedule.cls yX6_schedule yX6_schedule ∈ lw_g) (lw_at 4 (by decide +kernel) rfl : Cond.initialized yX6_schedule.cls ∈ lw_g) (lw_at 691 (by decide +kernel) rfl : Cond.code yX6_schedule cX6_schedule 7 none ∈ lw_g), ⟨by decide, by decide, by decide +kernel⟩, ⟨_, _, rfl⟩⟩
theorem bk_X10_plan_102 : ck_ fX10 (some .int) cX10_plan 102 [.aload 3, .tableswitch 0 0 7 #[], .ireturn] 107 = true := by decide +kernel
abbrev po_X10_plan (T : Zt) (c b : Int) : Zt → Option Zv → Prop := fun T' r => ∃ x : Int, r = some (vI x) ∧ (T' = T ∨ SJ_ T T' c)
set_option maxHeartbeats 4000000 in
theorem ct_X10_plan {T : Zt} {c b : Int} (hka : KA_ T) (hke : KE_ T) (hkb : KB_ T) (hna : NA_ T) : Ct_ yX10_plan zX10_plan T [vR 110 0, vI c, vI b] (po_X10_plan T c b) := by
  refine ct_of (by decide) rfl rfl (Nat.le_of_ble_eq_true rfl) (fun hT hav => ?_)
  have hr_c : -2147483648 ≤ c ∧ c ≤ 2147483647 := hav (vI c) (by simp)
  have hr_b : -2147483648 ≤ b ∧ b ≤ 2147483647 := hav (vI b) (by simp)
  have hz : zX10_plan.2.2.2.1 = some .boolean → ∀ (T' : Zt) (x : Int), po_X10_plan T c b T' (some (vI x)) → 0 ≤ x ∧ x ≤ 1 := fun h => by cases h
  have hb_matchCount : 0 ≤ T 106 0 4 ∧ T 106 0 4 ≤ 400 := bd_f hT 106 4 (by decide +kernel : (tf_ 106)[4]? = some (0, 0, 0, 400)) 0
  have hb_competitionCount : 0 ≤ T 106 0 2 ∧ T 106 0 2 ≤ 4 := bd_f hT 106 2 (by decide +kernel : (tf_ 106)[2]? = some (0, 0, 0, 4)) 0
  have hb5 : 0 ≤ T 100 c 5 ∧ T 100 c 5 ≤ 12 := bd_f hT 100 5 (by decide +kernel : (tf_ 100)[5]? = some (0, 0, 0, 12)) c
  show J_ zX10_plan T (po_X10_plan T c b) 792 8976 0 [some (vR 110 0), some (vI c), some (vI b), none] [] T
  refine j_blk (F := fX10) tb_X10 (by decide) bk_X10_plan_0 hz (fun K hK => ?_)
  refine hK 2 [some (vR 110 0), some (vI c), some (vI b), none] [vI c, vR 110 0] T ?_
  refine j_callV (y := yX10_isCompetition) (Yc := zX10_isCompetition) (rest := []) [vI c] (ct_X10_isCompetition (T := T)) cl_X10_107 (by decide +kernel) (by decide) rfl (by decide +kernel) (Nat.le_of_ble_eq_true rfl) (by decide) (by decide) rfl ?_
  rintro _ _ ⟨rfl, x1, rfl, hx1⟩
  show J_ zX10_plan T (po_X10_plan T c b) 792 8976 5 [some (vR 110 0), some (vI c), some (vI b), none] [vI x1] T
  refine j_blk (F := fX10) tb_X10 (by decide) bk_X10_plan_5 hz (fun K hK => ?_)
  refine And.intro (fun c2 => ?_) (fun c2 => ?_)
  · refine hK 11 [some (vR 110 0), some (vI c), some (vI b), none] [] T ?_
    refine j_blk (F := fX10) tb_X10 (by decide) bk_X10_plan_11 hz (fun K hK => ?_)
    refine hK 12 [some (vR 110 0), some (vI c), some (vI b), none] [vI b] T ?_
    refine j_callS (y := yX10_isDay) (Yc := zX10_isDay) (rest := []) [vI b] (ct_X10_isDay (T := T)) cl_X10_140 (by decide +kernel) (by decide) rfl (by decide +kernel) (Nat.le_of_ble_eq_true rfl) (by decide) (by decide) rfl ?_
    rintro _ _ ⟨rfl, x3, rfl, hx3⟩
    show J_ zX10_plan T (po_X10_plan T c b) 792 8976 15 [some (vR 110 0), some (vI c), some (vI b), none] [vI x3] T
    refine j_blk (F := fX10) tb_X10 (by decide) bk_X10_plan_15 hz (fun K hK => ?_)
    refine And.intro (fun c4 => ?_) (fun c4 => ?_)
    · refine hK 29 [some (vR 110 0), some (vI c), some (vI b), none] [] T ?_
      refine j_blk (F := fX10) tb_X10 (by decide) bk_X10_plan_29 hz (fun K hK => ?_)
      refine (show po_X10_plan T c b T (some (vI (-3))) from ?_)
      exact ⟨_, rfl, Or.inl rfl⟩
    · intro b5 b5b
      refine And.intro (fun c6 => ?_) (fun c6 => ?_)
      · refine hK 32 [some (vR 110 0), some (vI c), some (vI b), none] [] T ?_
        refine j_blk (F := fX10) tb_X10 (by decide) bk_X10_plan_32 hz (fun K hK => ?_)
        refine ix_i (by omega) ?_
        refine And.intro (fun c7 => ?_) (fun c7 => ?_)
        · exact absurd (show T 521 0 c = 0 by omega) (hka.1 _ (by omega) (by omega))
        · have hB := hkb c (by omega) (by omega)
          intro b8 b8b
          refine And.intro (fun c9 => ?_) (fun c9 => ?_)
          · refine hK 69 [some (vR 110 0), some (vI c), some (vI b), some (vR 100 c)] [] T ?_
            refine j_blk (F := fX10) tb_X10 (by decide) bk_X10_plan_69 hz (fun K hK => ?_)
            refine (show po_X10_plan T c b T (some (vI (-4))) from ?_)
            exact ⟨_, rfl, Or.inl rfl⟩
          · intro b10 b10b
            refine And.intro (fun c11 => ?_) (fun c11 => ?_)
            · refine hK 69 [some (vR 110 0), some (vI c), some (vI b), some (vR 100 c)] [] T ?_
              refine j_blk (F := fX10) tb_X10 (by decide) bk_X10_plan_69 hz (fun K hK => ?_)
              refine (show po_X10_plan T c b T (some (vI (-4))) from ?_)
              exact ⟨_, rfl, Or.inl rfl⟩
            · refine hK 59 [some (vR 110 0), some (vI c), some (vI b), some (vR 100 c)] [vR 100 c, vI b] T ?_
              refine j_callV (y := yX0_daysFromFirstToLast) (Yc := zX0_daysFromFirstToLast) (rest := [vI b]) [] (ct_X0_daysFromFirstToLast (T := T) (by exact hB.1) (by exact hB.2) (by omega)) cl_X10_178 (by decide +kernel) (by decide) rfl (by decide +kernel) (Nat.le_of_ble_eq_true rfl) (by decide) (by decide) rfl ?_
              rintro _ _ ⟨rfl, x12, rfl, hx12⟩
              show J_ zX10_plan T (po_X10_plan T c b) 792 8976 62 [some (vR 110 0), some (vI c), some (vI b), some (vR 100 c)] [vI x12, vI b] T
              refine j_blk (F := fX10) tb_X10 (by decide) bk_X10_plan_62 hz (fun K hK => ?_)
              have hp1 := an_1b (T 100 c 5)
              have y9 := dy_b (R := T 100 c 5 + an_ (T 100 c 5) 1 - 1) (x := x12) hB ⟨by omega, by omega, hx12⟩
              refine rg_i (by omega) ?_
              refine And.intro (fun c13 => ?_) (fun c13 => ?_)
              · refine hK 72 [some (vR 110 0), some (vI c), some (vI b), some (vR 100 c)] [] T ?_
                refine j_blk (F := fX10) tb_X10 (by decide) bk_X10_plan_72 hz (fun K hK => ?_)
                intro b14 b14b
                refine hK 80 [some (vR 110 0), some (vI c), some (vI b), some (vR 100 c)] [vR 100 c, vI (T 106 0 4)] T ?_
                refine j_callV (y := yX0_fixtureCount) (Yc := zX0_fixtureCount) (rest := [vI (T 106 0 4)]) [] (ct_X0_fixtureCount (T := T) (by exact hB.1) (by omega)) cl_X10_185 (by decide +kernel) (by decide) rfl (by decide +kernel) (Nat.le_of_ble_eq_true rfl) (by decide) (by decide) rfl ?_
                rintro _ _ ⟨rfl, x15, rfl, hx15⟩
                show J_ zX10_plan T (po_X10_plan T c b) 792 8976 83 [some (vR 110 0), some (vI c), some (vI b), some (vR 100 c)] [vI x15, vI (T 106 0 4)] T
                refine j_blk (F := fX10) tb_X10 (by decide) bk_X10_plan_83 hz (fun K hK => ?_)
                refine rg_i (by omega) ?_
                refine And.intro (fun c16 => ?_) (fun c16 => ?_)
                · refine hK 93 [some (vR 110 0), some (vI c), some (vI b), some (vR 100 c)] [] T ?_
                  refine j_blk (F := fX10) tb_X10 (by decide) bk_X10_plan_93 hz (fun K hK => ?_)
                  refine hK 99 [some (vR 110 0), some (vI c), some (vI b), some (vR 100 c)] [vI b, vR 100 c, vR 106 0] T ?_
                  refine j_callV (y := yX6_schedule) (Yc := zX6_schedule) (rest := []) [vR 100 c, vI b] (ct_X6_schedule (T := T) (by omega) hB.1 hB.2 (by omega) (by omega) (hke c (by omega) (by omega)) hka hna) cl_X10_188 (by decide +kernel) (by decide) rfl (by decide +kernel) (Nat.le_of_ble_eq_true rfl) (by decide) (by decide) rfl ?_
                  rintro U17 _ ⟨rfl, fU17, odU17, qU17, tU17, ocU17⟩
                  show J_ zX10_plan T (po_X10_plan T c b) 0 0 102 [some (vR 110 0), some (vI c), some (vI b), some (vR 100 c)] [] U17
                  refine j_blk (F := fX10) tb_X10 (by decide) bk_X10_plan_102 hz (fun K hK => ?_)
                  intro b19 b19b
                  refine (show po_X10_plan T c b U17 (some (vI (U17 100 c 7))) from ?_)
                  exact ⟨_, rfl, Or.inr ⟨⟨by omega, by omega, by omega⟩, fU17, odU17, qU17, tU17, ocU17⟩⟩
                · refine (show po_X10_plan T c b T (some (vI (-5))) from ?_)
                  exact ⟨_, rfl, Or.inl rfl⟩
              · refine (show po_X10_plan T c b T (some (vI (-4))) from ?_)
                exact ⟨_, rfl, Or.inl rfl⟩
      · refine (show po_X10_plan T c b T (some (vI (-3))) from ?_)
        exact ⟨_, rfl, Or.inl rfl⟩
  · refine (show po_X10_plan T c b T (some (vI (-2))) from ?_)
    exact ⟨_, rfl, Or.inl rfl⟩
