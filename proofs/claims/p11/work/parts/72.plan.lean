def DD_ (T : Zt) : Prop := ∀ i j : Int, 0 ≤ i → i < j → j < T 106 0 4 → T 102 i 6 = -1 → T 102 j 6 = -1 → T 102 i 0 = T 102 j 0 → T 102 i 3 = T 102 j 3 → T 102 i 5 ≠ T 102 j 5
theorem DD__f {ws : List (Nat × List Int)} {T T' : Zt} (h : DD_ T) (f : fr_ ws T T') (w : fw_ ws 102 0 = false ∧ fw_ ws 102 3 = false ∧ fw_ ws 102 5 = false ∧ fw_ ws 102 6 = false ∧ fw_ ws 106 4 = false ∧ True) : DD_ T' := by
  have e0 : ∀ i, T' 102 i 0 = T 102 i 0 := fun i => f 102 i 0 w.1
  have e1 : ∀ i, T' 102 i 3 = T 102 i 3 := fun i => f 102 i 3 w.2.1
  have e2 : ∀ i, T' 102 i 5 = T 102 i 5 := fun i => f 102 i 5 w.2.2.1
  have e3 : ∀ i, T' 102 i 6 = T 102 i 6 := fun i => f 102 i 6 w.2.2.2.1
  have e4 : ∀ i, T' 106 i 4 = T 106 i 4 := fun i => f 106 i 4 w.2.2.2.2.1
  simp only [DD_, e0, e1, e2, e3, e4] at h ⊢
  exact h
def KP_ (T : Zt) : Prop := ∀ m : Int, 0 ≤ m → m < T 106 0 4 → T 100 (T 102 m 0) 6 = 1
theorem KP__f {ws : List (Nat × List Int)} {T T' : Zt} (h : KP_ T) (f : fr_ ws T T') (w : fw_ ws 102 0 = false ∧ fw_ ws 100 6 = false ∧ fw_ ws 106 4 = false ∧ True) : KP_ T' := by
  have e0 : ∀ i, T' 102 i 0 = T 102 i 0 := fun i => f 102 i 0 w.1
  have e1 : ∀ i, T' 100 i 6 = T 100 i 6 := fun i => f 100 i 6 w.2.1
  have e2 : ∀ i, T' 106 i 4 = T 106 i 4 := fun i => f 106 i 4 w.2.2.1
  simp only [KP_, e0, e1, e2] at h ⊢
  exact h
def KB_ (T : Zt) : Prop := ∀ c : Int, 0 ≤ c → c < T 106 0 2 → (0 ≤ T 401 c 6 ∧ T 401 c 6 ≤ 4) ∧ 1 ≤ T 401 c 7 ∧ T 401 c 7 ≤ 30
theorem KB__f {ws : List (Nat × List Int)} {T T' : Zt} (h : KB_ T) (f : fr_ ws T T') (w : (∀ j, fw_ ws 401 j = false) ∧ fw_ ws 106 2 = false ∧ True) : KB_ T' := by
  have e0 : ∀ i j, T' 401 i j = T 401 i j := fun i j => f 401 i j (w.1 j)
  have e1 : ∀ i, T' 106 i 2 = T 106 i 2 := fun i => f 106 i 2 w.2.1
  simp only [KB_, e0, e1] at h ⊢
  exact h
/-- what a plan leaves -/
def SJ_ (T T' : Zt) (c : Int) : Prop := (0 ≤ c ∧ c < T 106 0 2 ∧ T 100 c 6 = 0) ∧ fr_ [(106, [4]), (523, []), (152, []), (102, []), (448, []), (449, []), (100, [6, 7, 8])] T T' ∧ (∀ i j, i < T 106 0 4 → T' 102 i j = T 102 i j) ∧ RK_ T' c (T 106 0 4) (T 100 c 5 + an_ (T 100 c 5) 1 - 1) 0 0 2000000 ∧ (T' 100 c 6 = 1 ∧ T' 100 c 7 = T 106 0 4 ∧ T' 100 c 8 = T' 106 0 4 - T 106 0 4) ∧ ∀ i j, i ≠ c → T' 100 i j = T 100 i j
theorem sc_ic {N : Int} {T T' : Zt} {c : Int} (h : SJ_ T T' c) (hka : KA_ T) (hkm : KM_ T) (hkc : KC_ T) (hks : KS_ T) (hkp : KP_ T) (hdd : DD_ T) (hlp : LP_ N T) (hb7 : ∀ i, 0 ≤ T 100 i 7) (hm0 : 0 ≤ T 106 0 4) : KA_ T' ∧ KM_ T' ∧ KC_ T' ∧ KS_ T' ∧ KP_ T' ∧ DD_ T' ∧ NA_ T' ∧ LP_ N T' := by
  obtain ⟨⟨c0, c1, c6⟩, f, od, ⟨⟨r1, r2, r3⟩, r4, r5, r6, r7⟩, ⟨s6, s7, s8⟩, oc⟩ := h
  have e2 : T' 106 0 2 = T 106 0 2 := f 106 0 2 rfl
  have e404 : ∀ a b, T' 404 a b = T 404 a b := fun a b => f 404 a b rfl
  refine ⟨⟨fun i a b => ?_, fun i a b => r6 i a b⟩, fun m a b => ?_, fun i a b => ?_, fun i a b m p q => ?_, fun m a b => ?_, fun i j a b d g1 g2 e1 e3 => ?_, r7, fun p a b d => ?_⟩
  · rw [e2] at b
    rw [f 521 0 i rfl]
    exact hka.1 i a b
  · rw [e2]
    by_cases z : m < T 106 0 4
    · rw [od m 1 z, od m 0 z]
      exact hkm m a z
    · obtain ⟨q1, q2, -⟩ := r4 m (by omega) b
      omega
  · rw [e2] at b
    by_cases z : i = c
    · rw [z, s7, s8]; omega
    · rw [oc i 7 z, oc i 8 z]
      have := hkc i a b
      omega
  · rw [e2] at b
    by_cases z : i = c
    · rw [z, s7] at p
      rw [z, s7, s8] at q
      rw [z]
      obtain ⟨q1, q2, q3, q4, q5, -⟩ := r4 m p (by omega)
      exact ⟨q1, q4, q5⟩
    · rw [oc i 7 z] at p
      rw [oc i 7 z, oc i 8 z] at q
      have k1 := hkc i a b
      have k2 := hb7 i
      rw [od m 0 (by omega), od m 3 (by omega), od m 4 (by omega), e404, e404]
      exact hks i a b m p q
  · by_cases z : m < T 106 0 4
    · rw [od m 0 z]
      by_cases y : T 102 m 0 = c
      · rw [y]; exact s6
      · rw [oc _ 6 y]; exact hkp m a z
    · obtain ⟨q1, -⟩ := r4 m (by omega) b
      rw [q1]; exact s6
  · by_cases z : j < T 106 0 4
    · rw [od i 0 (by omega), od j 0 z] at e1
      rw [od i 3 (by omega), od j 3 z] at e3
      rw [od i 6 (by omega)] at g1
      rw [od j 6 z] at g2
      rw [od i 5 (by omega), od j 5 z]
      exact hdd i j a b z g1 g2 e1 e3
    · by_cases y : i < T 106 0 4
      · obtain ⟨q1, -⟩ := r4 j (by omega) d
        rw [od i 0 y, q1] at e1
        have := hkp i a y
        rw [e1] at this
        omega
      · exact r5 i j (by omega) b d e3
  · by_cases z : p < T 106 0 4
    · rw [od p 10 z] at d
      refine Lp_o (hlp p a z d) (by omega) ⟨fun x _ => f 190 x _ rfl, by rw [f 191 0 0 rfl]; omega⟩ (by omega) ⟨f _ _ _ rfl, f _ _ _ rfl, f _ _ _ rfl, f _ _ _ rfl, f _ _ _ rfl, f _ _ _ rfl, f _ _ _ rfl, f _ _ _ rfl⟩
    · obtain ⟨-, -, q3, -⟩ := r4 p (by omega) b
      exact absurd q3 d
theorem dy_b {R L E x : Int} (h : (0 ≤ L ∧ L ≤ 4) ∧ 1 ≤ E ∧ E ≤ 30) (g : 0 ≤ R ∧ R ≤ 12 ∧ x = (R * L - 1) * E) : -30 ≤ x ∧ x ≤ 1500 := by
  have y1 := mlb (a := R) (b := L) (A := 12) (B := 4) (by omega) (by omega)
  have y2 := mlb (a := R * L) (b := E) (A := 48) (B := 30) (by omega) (by omega)
  have y3 := g.2.2
  rw [Int.sub_mul, Int.one_mul] at y3
  omega
abbrev cX10_plan : ByteArray := prog_1_method_13_code
def yX10_plan : MethodName := ⟨RX10, "plan", "(II)I"⟩
def zX10_plan : Zm := (RX10, cX10_plan, 4, (some .int), { frames := 5, cells := 792, slots := 8976, locals := 138 })
theorem bk_X10_plan_0 : ck_ fX10 (some .int) cX10_plan 0 [.aload 0, .iload 1] 2 = true := qck_r (nn_ _) (by decide +kernel)
theorem bs_X10_plan_0 {P : Zt → Option Zv → Prop} (K : Int → Zl → List Zv → Zt → Prop) : sx_ K P [.aload 0, .iload 1] 2 = x_aload 0 (x_iload 1 (K 2)) := ((xe_aload 0).trans (congrArg (x_aload 0) ((xe_iload 1).trans (congrArg (x_iload 1) xe_nil))))
theorem bk_X10_plan_5 : ck_ fX10 (some .int) cX10_plan 5 [.ifCond .ne 11, .iconst (-2), .ireturn] 11 = true := qck_r (nn_ _) (by decide +kernel)
theorem bs_X10_plan_5 {P : Zt → Option Zv → Prop} (K : Int → Zl → List Zv → Zt → Prop) : sx_ K P [.ifCond .ne 11, .iconst (-2), .ireturn] 11 = x_ifCond .ne 11 K (x_iconst (-2) (x_ireturn P)) := ((xe_ifCond .ne 11).trans (congrArg (x_ifCond .ne 11 K) ((xe_iconst (-2)).trans (congrArg (x_iconst (-2)) (xe_ireturn)))))
theorem bk_X10_plan_11 : ck_ fX10 (some .int) cX10_plan 11 [.iload 2] 12 = true := qck_r (nn_ _) (by decide +kernel)
theorem bs_X10_plan_11 {P : Zt → Option Zv → Prop} (K : Int → Zl → List Zv → Zt → Prop) : sx_ K P [.iload 2] 12 = x_iload 2 (K 12) := ((xe_iload 2).trans (congrArg (x_iload 2) xe_nil))
theorem bk_X10_plan_15 : ck_ fX10 (some .int) cX10_plan 15 [.ifCond .eq 29, .iload 2, .aload 0, .tableswitch 0 10 1 #[], .tableswitch 0 8 13 #[], .if_icmp .ge 32, .iconst (-3), .ireturn] 32 = true := qck_r (nn_ _) (by decide +kernel)
theorem bs_X10_plan_15 {P : Zt → Option Zv → Prop} (K : Int → Zl → List Zv → Zt → Prop) : sx_ K P [.ifCond .eq 29, .iload 2, .aload 0, .tableswitch 0 10 1 #[], .tableswitch 0 8 13 #[], .if_icmp .ge 32, .iconst (-3), .ireturn] 32 = x_ifCond .eq 29 K (x_iload 2 (x_aload 0 (x_g1 110 108 (x_g0 108 13 0 999 (x_if_icmp .ge 32 K (x_iconst (-3) (x_ireturn P))))))) := ((xe_ifCond .eq 29).trans (congrArg (x_ifCond .eq 29 K) ((xe_iload 2).trans (congrArg (x_iload 2) ((xe_aload 0).trans (congrArg (x_aload 0) ((xe_g1 (kk := 110) rfl tl_10_1).trans (congrArg (x_g1 110 108) ((xe_g0 (kk := 108) rfl tl_8_13).trans (congrArg (x_g0 108 13 0 999) ((xe_if_icmp .ge 32).trans (congrArg (x_if_icmp .ge 32 K) ((xe_iconst (-3)).trans (congrArg (x_iconst (-3)) (xe_ireturn)))))))))))))))
theorem bk_X10_plan_29 : ck_ fX10 (some .int) cX10_plan 29 [.iconst (-3), .ireturn] 32 = true := qck_r (nn_ _) (by decide +kernel)
theorem bs_X10_plan_29 {P : Zt → Option Zv → Prop} (K : Int → Zl → List Zv → Zt → Prop) : sx_ K P [.iconst (-3), .ireturn] 32 = x_iconst (-3) (x_ireturn P) := ((xe_iconst (-3)).trans (congrArg (x_iconst (-3)) (xe_ireturn)))
theorem bk_X10_plan_32 : ck_ fX10 (some .int) cX10_plan 32 [.aload 0, .tableswitch 0 10 2 #[], .tableswitch 0 6 1 #[], .iload 1, .aaload, .astore 3, .aload 3, .tableswitch 0 0 6 #[], .ifCond .ne 69, .aload 3, .tableswitch 0 0 5 #[], .iconst 2, .if_icmp .lt 69, .iload 2, .aload 3] 59 = true := qck_r (nn_ _) (by decide +kernel)
theorem bs_X10_plan_32 {P : Zt → Option Zv → Prop} (K : Int → Zl → List Zv → Zt → Prop) : sx_ K P [.aload 0, .tableswitch 0 10 2 #[], .tableswitch 0 6 1 #[], .iload 1, .aaload, .astore 3, .aload 3, .tableswitch 0 0 6 #[], .ifCond .ne 69, .aload 3, .tableswitch 0 0 5 #[], .iconst 2, .if_icmp .lt 69, .iload 2, .aload 3] 59 = x_aload 0 (x_g1 110 106 (x_g1 106 521 (x_iload 1 (x_aaload (x_astore 3 (x_aload 3 (x_g0 100 6 0 1 (x_ifCond .ne 69 K (x_aload 3 (x_g0 100 5 0 12 (x_iconst 2 (x_if_icmp .lt 69 K (x_iload 2 (x_aload 3 (K 59))))))))))))))) := ((xe_aload 0).trans (congrArg (x_aload 0) ((xe_g1 (kk := 110) rfl tl_10_2).trans (congrArg (x_g1 110 106) ((xe_g1 (kk := 106) rfl tl_6_1).trans (congrArg (x_g1 106 521) ((xe_iload 1).trans (congrArg (x_iload 1) ((xe_aaload).trans (congrArg (x_aaload) ((xe_astore 3).trans (congrArg (x_astore 3) ((xe_aload 3).trans (congrArg (x_aload 3) ((xe_g0 (kk := 100) rfl tl_0_6).trans (congrArg (x_g0 100 6 0 1) ((xe_ifCond .ne 69).trans (congrArg (x_ifCond .ne 69 K) ((xe_aload 3).trans (congrArg (x_aload 3) ((xe_g0 (kk := 100) rfl tl_0_5).trans (congrArg (x_g0 100 5 0 12) ((xe_iconst 2).trans (congrArg (x_iconst 2) ((xe_if_icmp .lt 69).trans (congrArg (x_if_icmp .lt 69 K) ((xe_iload 2).trans (congrArg (x_iload 2) ((xe_aload 3).trans (congrArg (x_aload 3) xe_nil))))))))))))))))))))))))))))))
theorem bk_X10_plan_69 : ck_ fX10 (some .int) cX10_plan 69 [.iconst (-4), .ireturn] 72 = true := qck_r (nn_ _) (by decide +kernel)
theorem bs_X10_plan_69 {P : Zt → Option Zv → Prop} (K : Int → Zl → List Zv → Zt → Prop) : sx_ K P [.iconst (-4), .ireturn] 72 = x_iconst (-4) (x_ireturn P) := ((xe_iconst (-4)).trans (congrArg (x_iconst (-4)) (xe_ireturn)))
set_option maxRecDepth 100000 in
theorem cl_X10_178 : cv_ RX10 178 yX0_daysFromFirstToLast zX0_daysFromFirstToLast 0 0 := ⟨gi_V (lw_b3 196 (by decide +kernel) rfl : Cond.methodLink RX10 178 yX0_daysFromFirstToLast ∈ lw_g) (lw_b3 197 (by decide +kernel) rfl : Cond.instanceMethod yX0_daysFromFirstToLast ∈ lw_g) (lw_b3 198 (by decide +kernel) rfl : Cond.selects yX0_daysFromFirstToLast.cls yX0_daysFromFirstToLast yX0_daysFromFirstToLast ∈ lw_g) (lw_b1 15 (by decide +kernel) rfl : Cond.initialized yX0_daysFromFirstToLast.cls ∈ lw_g) (lw_b3 199 rfl rfl : Cond.code yX0_daysFromFirstToLast cX0_daysFromFirstToLast 2 (some .int) ∈ lw_g), ⟨by decide, by decide, by decide +kernel⟩, ⟨_, _, rfl⟩⟩
theorem bk_X10_plan_62 : ck_ fX10 (some .int) cX10_plan 62 [.iadd, .iconst 999, .if_icmp .le 72, .iconst (-4), .ireturn] 72 = true := qck_r (nn_ _) (by decide +kernel)
theorem bs_X10_plan_62 {P : Zt → Option Zv → Prop} (K : Int → Zl → List Zv → Zt → Prop) : sx_ K P [.iadd, .iconst 999, .if_icmp .le 72, .iconst (-4), .ireturn] 72 = x_iadd (x_iconst 999 (x_if_icmp .le 72 K (x_iconst (-4) (x_ireturn P)))) := ((xe_iadd).trans (congrArg (x_iadd) ((xe_iconst 999).trans (congrArg (x_iconst 999) ((xe_if_icmp .le 72).trans (congrArg (x_if_icmp .le 72 K) ((xe_iconst (-4)).trans (congrArg (x_iconst (-4)) (xe_ireturn)))))))))
theorem bk_X10_plan_72 : ck_ fX10 (some .int) cX10_plan 72 [.aload 0, .tableswitch 0 10 2 #[], .tableswitch 0 6 4 #[], .aload 3] 80 = true := qck_r (nn_ _) (by decide +kernel)
theorem bs_X10_plan_72 {P : Zt → Option Zv → Prop} (K : Int → Zl → List Zv → Zt → Prop) : sx_ K P [.aload 0, .tableswitch 0 10 2 #[], .tableswitch 0 6 4 #[], .aload 3] 80 = x_aload 0 (x_g1 110 106 (x_g0 106 4 0 400 (x_aload 3 (K 80)))) := ((xe_aload 0).trans (congrArg (x_aload 0) ((xe_g1 (kk := 110) rfl tl_10_2).trans (congrArg (x_g1 110 106) ((xe_g0 (kk := 106) rfl tl_6_4).trans (congrArg (x_g0 106 4 0 400) ((xe_aload 3).trans (congrArg (x_aload 3) xe_nil))))))))
set_option maxRecDepth 100000 in
theorem cl_X10_185 : cv_ RX10 185 yX0_fixtureCount zX0_fixtureCount 0 0 := ⟨gi_V (lw_b3 204 (by decide +kernel) rfl : Cond.methodLink RX10 185 yX0_fixtureCount ∈ lw_g) (lw_b3 205 (by decide +kernel) rfl : Cond.instanceMethod yX0_fixtureCount ∈ lw_g) (lw_b3 206 (by decide +kernel) rfl : Cond.selects yX0_fixtureCount.cls yX0_fixtureCount yX0_fixtureCount ∈ lw_g) (lw_b1 15 (by decide +kernel) rfl : Cond.initialized yX0_fixtureCount.cls ∈ lw_g) (lw_b3 207 rfl rfl : Cond.code yX0_fixtureCount cX0_fixtureCount 1 (some .int) ∈ lw_g), ⟨by decide, by decide, by decide +kernel⟩, ⟨_, _, rfl⟩⟩
theorem bk_X10_plan_83 : ck_ fX10 (some .int) cX10_plan 83 [.iadd, .iconst 400, .if_icmp .le 93, .iconst (-5), .ireturn] 93 = true := qck_r (nn_ _) (by decide +kernel)
theorem bs_X10_plan_83 {P : Zt → Option Zv → Prop} (K : Int → Zl → List Zv → Zt → Prop) : sx_ K P [.iadd, .iconst 400, .if_icmp .le 93, .iconst (-5), .ireturn] 93 = x_iadd (x_iconst 400 (x_if_icmp .le 93 K (x_iconst (-5) (x_ireturn P)))) := ((xe_iadd).trans (congrArg (x_iadd) ((xe_iconst 400).trans (congrArg (x_iconst 400) ((xe_if_icmp .le 93).trans (congrArg (x_if_icmp .le 93 K) ((xe_iconst (-5)).trans (congrArg (x_iconst (-5)) (xe_ireturn)))))))))
theorem bk_X10_plan_93 : ck_ fX10 (some .int) cX10_plan 93 [.aload 0, .tableswitch 0 10 2 #[], .aload 3, .iload 2] 99 = true := qck_r (nn_ _) (by decide +kernel)
theorem bs_X10_plan_93 {P : Zt → Option Zv → Prop} (K : Int → Zl → List Zv → Zt → Prop) : sx_ K P [.aload 0, .tableswitch 0 10 2 #[], .aload 3, .iload 2] 99 = x_aload 0 (x_g1 110 106 (x_aload 3 (x_iload 2 (K 99)))) := ((xe_aload 0).trans (congrArg (x_aload 0) ((xe_g1 (kk := 110) rfl tl_10_2).trans (congrArg (x_g1 110 106) ((xe_aload 3).trans (congrArg (x_aload 3) ((xe_iload 2).trans (congrArg (x_iload 2) xe_nil))))))))
set_option maxRecDepth 100000 in
theorem cl_X10_188 : cv_ RX10 188 yX6_schedule zX6_schedule 6 2 := ⟨gi_V (lw_b3 208 (by decide +kernel) rfl : Cond.methodLink RX10 188 yX6_schedule ∈ lw_g) (lw_b3 209 (by decide +kernel) rfl : Cond.instanceMethod yX6_schedule ∈ lw_g) (lw_b3 210 (by decide +kernel) rfl : Cond.selects yX6_schedule.cls yX6_schedule yX6_schedule ∈ lw_g) (lw_b1 4 (by decide +kernel) rfl : Cond.initialized yX6_schedule.cls ∈ lw_g) (lw_b3 211 rfl rfl : Cond.code yX6_schedule cX6_schedule 7 none ∈ lw_g), ⟨by decide, by decide, by decide +kernel⟩, ⟨_, _, rfl⟩⟩
theorem bk_X10_plan_102 : ck_ fX10 (some .int) cX10_plan 102 [.aload 3, .tableswitch 0 0 7 #[], .ireturn] 107 = true := qck_r (nn_ _) (by decide +kernel)
theorem bs_X10_plan_102 {P : Zt → Option Zv → Prop} (K : Int → Zl → List Zv → Zt → Prop) : sx_ K P [.aload 3, .tableswitch 0 0 7 #[], .ireturn] 107 = x_aload 3 (x_g0 100 7 0 400 (x_ireturn P)) := ((xe_aload 3).trans (congrArg (x_aload 3) ((xe_g0 (kk := 100) rfl tl_0_7).trans (congrArg (x_g0 100 7 0 400) (xe_ireturn)))))
abbrev po_X10_plan (T : Zt) (c b : Int) : Zt → Option Zv → Prop := fun T' r => ∃ x : Int, r = some (vI x) ∧ (T' = T ∨ SJ_ T T' c)
set_option maxHeartbeats 4000000 in
theorem ct_X10_plan {T : Zt} {c b : Int} (hka : KA_ T) (hke : KE_ T) (hkb : KB_ T) (hna : NA_ T) : Ct_ yX10_plan zX10_plan T [vR 110 0, vI c, vI b] (po_X10_plan T c b) := by
  refine ct_of pn_10 rfl rfl (Nat.le_of_ble_eq_true rfl) (fun hT hav => ?_)
  have hr_c : -2147483648 ≤ c ∧ c ≤ 2147483647 := hav (vI c) (by simp)
  have hr_b : -2147483648 ≤ b ∧ b ≤ 2147483647 := hav (vI b) (by simp)
  have hz : zX10_plan.2.2.2.1 = some .boolean → ∀ (T' : Zt) (x : Int), po_X10_plan T c b T' (some (vI x)) → 0 ≤ x ∧ x ≤ 1 := fun h => by cases h
  have hb_matchCount : 0 ≤ T 106 0 4 ∧ T 106 0 4 ≤ 400 := bd_f hT 106 4 (by decide +kernel : (tf_ 106)[4]? = some (0, 0, 0, 400)) 0
  have hb_competitionCount : 0 ≤ T 106 0 2 ∧ T 106 0 2 ≤ 4 := bd_f hT 106 2 (by decide +kernel : (tf_ 106)[2]? = some (0, 0, 0, 4)) 0
  have hb5 : 0 ≤ T 100 c 5 ∧ T 100 c 5 ≤ 12 := bd_f hT 100 5 (by decide +kernel : (tf_ 100)[5]? = some (0, 0, 0, 12)) c
  show J_ zX10_plan T (po_X10_plan T c b) 792 8976 0 [some (vR 110 0), some (vI c), some (vI b), none] [] T
  refine j_blx (F := fX10) tb_X10 (nn_ _) bk_X10_plan_0 bs_X10_plan_0 hz (fun K hK => ?_)
  refine hK 2 _ [vI c, vR 110 0] T ?_
  refine j_callV (y := yX10_isCompetition) (Yc := zX10_isCompetition) (rest := []) [vI c] (ct_X10_isCompetition (T := T)) cl_X10_107 (qd_c (by decide +kernel)) (nn_ _) rfl (rf_of rfl) (Nat.le_of_ble_eq_true rfl) (Nat.le_of_ble_eq_true rfl) (Nat.le_of_ble_eq_true rfl) rfl ?_
  rintro _ _ ⟨rfl, x1, rfl, hx1⟩
  show J_ zX10_plan T (po_X10_plan T c b) 792 8976 5 _ [vI x1] T
  refine j_blx (F := fX10) tb_X10 (nn_ _) bk_X10_plan_5 bs_X10_plan_5 hz (fun K hK => ?_)
  refine And.intro (fun c2 => ?_) (fun c2 => ?_)
  · refine hK 11 _ [] T ?_
    refine j_blx (F := fX10) tb_X10 (nn_ _) bk_X10_plan_11 bs_X10_plan_11 hz (fun K hK => ?_)
    refine hK 12 _ [vI b] T ?_
    refine j_callS (y := yX10_isDay) (Yc := zX10_isDay) (rest := []) [vI b] (ct_X10_isDay (T := T)) cl_X10_140 (qd_c (by decide +kernel)) (nn_ _) rfl (rf_of rfl) (Nat.le_of_ble_eq_true rfl) (Nat.le_of_ble_eq_true rfl) (Nat.le_of_ble_eq_true rfl) rfl ?_
    rintro _ _ ⟨rfl, x3, rfl, hx3⟩
    show J_ zX10_plan T (po_X10_plan T c b) 792 8976 15 _ [vI x3] T
    refine j_blx (F := fX10) tb_X10 (nn_ _) bk_X10_plan_15 bs_X10_plan_15 hz (fun K hK => ?_)
    refine And.intro (fun c4 => ?_) (fun c4 => ?_)
    · refine hK 29 _ [] T ?_
      refine j_blx (F := fX10) tb_X10 (nn_ _) bk_X10_plan_29 bs_X10_plan_29 hz (fun K hK => ?_)
      refine (show po_X10_plan T c b T (some (vI (-3))) from ?_)
      exact ⟨_, rfl, Or.inl rfl⟩
    · intro b5 b5b
      refine And.intro (fun c6 => ?_) (fun c6 => ?_)
      · refine hK 32 _ [] T ?_
        refine j_blx (F := fX10) tb_X10 (nn_ _) bk_X10_plan_32 bs_X10_plan_32 hz (fun K hK => ?_)
        refine ix_i (by omega) ?_
        refine And.intro (fun c7 => ?_) (fun c7 => ?_)
        · exact absurd (show T 521 0 c = 0 by omega) (hka.1 _ (by omega) (by omega))
        · have hB := hkb c (by omega) (by omega)
          intro b8 b8b
          refine And.intro (fun c9 => ?_) (fun c9 => ?_)
          · refine hK 69 [some (vR 110 0), some (vI c), some (vI b), some (vR 100 c)] [] T ?_
            refine j_blx (F := fX10) tb_X10 (nn_ _) bk_X10_plan_69 bs_X10_plan_69 hz (fun K hK => ?_)
            refine (show po_X10_plan T c b T (some (vI (-4))) from ?_)
            exact ⟨_, rfl, Or.inl rfl⟩
          · intro b10 b10b
            refine And.intro (fun c11 => ?_) (fun c11 => ?_)
            · refine hK 69 _ [] T ?_
              refine j_blx (F := fX10) tb_X10 (nn_ _) bk_X10_plan_69 bs_X10_plan_69 hz (fun K hK => ?_)
              refine (show po_X10_plan T c b T (some (vI (-4))) from ?_)
              exact ⟨_, rfl, Or.inl rfl⟩
            · refine hK 59 _ [vR 100 c, vI b] T ?_
              refine j_callV (y := yX0_daysFromFirstToLast) (Yc := zX0_daysFromFirstToLast) (rest := [vI b]) [] (ct_X0_daysFromFirstToLast (T := T) (by exact hB.1) (by exact hB.2) (by omega)) cl_X10_178 (qd_c (by decide +kernel)) (nn_ _) rfl (rf_of rfl) (Nat.le_of_ble_eq_true rfl) (Nat.le_of_ble_eq_true rfl) (Nat.le_of_ble_eq_true rfl) rfl ?_
              rintro _ _ ⟨rfl, x12, rfl, hx12⟩
              show J_ zX10_plan T (po_X10_plan T c b) 792 8976 62 _ [vI x12, vI b] T
              refine j_blx (F := fX10) tb_X10 (nn_ _) bk_X10_plan_62 bs_X10_plan_62 hz (fun K hK => ?_)
              have hp1 := an_1b (T 100 c 5)
              have y9 := dy_b (R := T 100 c 5 + an_ (T 100 c 5) 1 - 1) (x := x12) hB ⟨by omega, by omega, hx12⟩
              refine rg_i (by omega) ?_
              refine And.intro (fun c13 => ?_) (fun c13 => ?_)
              · refine hK 72 _ [] T ?_
                refine j_blx (F := fX10) tb_X10 (nn_ _) bk_X10_plan_72 bs_X10_plan_72 hz (fun K hK => ?_)
                intro b14 b14b
                refine hK 80 _ [vR 100 c, vI (T 106 0 4)] T ?_
                refine j_callV (y := yX0_fixtureCount) (Yc := zX0_fixtureCount) (rest := [vI (T 106 0 4)]) [] (ct_X0_fixtureCount (T := T) (by exact hB.1) (by omega)) cl_X10_185 (qd_c (by decide +kernel)) (nn_ _) rfl (rf_of rfl) (Nat.le_of_ble_eq_true rfl) (Nat.le_of_ble_eq_true rfl) (Nat.le_of_ble_eq_true rfl) rfl ?_
                rintro _ _ ⟨rfl, x15, rfl, hx15⟩
                show J_ zX10_plan T (po_X10_plan T c b) 792 8976 83 _ [vI x15, vI (T 106 0 4)] T
                refine j_blx (F := fX10) tb_X10 (nn_ _) bk_X10_plan_83 bs_X10_plan_83 hz (fun K hK => ?_)
                refine rg_i (by omega) ?_
                refine And.intro (fun c16 => ?_) (fun c16 => ?_)
                · refine hK 93 _ [] T ?_
                  refine j_blx (F := fX10) tb_X10 (nn_ _) bk_X10_plan_93 bs_X10_plan_93 hz (fun K hK => ?_)
                  refine hK 99 _ [vI b, vR 100 c, vR 106 0] T ?_
                  refine j_callV (y := yX6_schedule) (Yc := zX6_schedule) (rest := []) [vR 100 c, vI b] (ct_X6_schedule (T := T) (by omega) hB.1 hB.2 (by omega) (by omega) (hke c (by omega) (by omega)) hka hna) cl_X10_188 (qd_c (by decide +kernel)) (nn_ _) rfl (rf_of rfl) (Nat.le_of_ble_eq_true rfl) (Nat.le_of_ble_eq_true rfl) (Nat.le_of_ble_eq_true rfl) rfl ?_
                  rintro U17 _ ⟨rfl, fU17, odU17, qU17, tU17, ocU17⟩
                  show J_ zX10_plan T (po_X10_plan T c b) 0 0 102 _ [] U17
                  refine j_blx (F := fX10) tb_X10 (nn_ _) bk_X10_plan_102 bs_X10_plan_102 hz (fun K hK => ?_)
                  intro b19 b19b
                  refine (show po_X10_plan T c b U17 (some (vI (U17 100 c 7))) from ?_)
                  exact ⟨_, rfl, Or.inr ⟨⟨by omega, by omega, by omega⟩, fU17, odU17, qU17, tU17, ocU17⟩⟩
                · refine (show po_X10_plan T c b T (some (vI (-5))) from ?_)
                  exact ⟨_, rfl, Or.inl rfl⟩
              · refine (show po_X10_plan T c b T (some (vI (-4))) from ?_)
                exact ⟨_, rfl, Or.inl rfl⟩
      · refine (show po_X10_plan T c b T (some (vI (-3))) from ?_)
        exact ⟨_, rfl, Or.inl rfl⟩
  · refine (show po_X10_plan T c b T (some (vI (-2))) from ?_)
    exact ⟨_, rfl, Or.inl rfl⟩
/-- two matches of one home on one day, neither walked over -/
def cf9_ (T : Zt) (p k : Int) : Prop := T 102 p 6 = -1 ∧ T 102 k 6 = -1 ∧ T 102 p 3 = T 102 k 3 ∧ T 102 p 5 = T 102 k 5
def EL9_ (L : Int → Int) (n : Int) (S : Int → Prop) : Prop := ∀ k, S k → ∃ j, 0 ≤ j ∧ j < n ∧ L j = k
theorem EL9_n {L : Int → Int} {n p k : Int} {c : Int → Prop} (h : EL9_ L n (fun x => 0 ≤ x ∧ x < k ∧ x ≠ p ∧ c x)) (g : k ≠ p → ¬ c k) : EL9_ L n (fun x => 0 ≤ x ∧ x < k + 1 ∧ x ≠ p ∧ c x) := by
  rintro x ⟨a, b, d, e⟩
  by_cases z : x = k
  · subst z
    exact absurd e (g d)
  · exact h x ⟨a, by omega, d, e⟩
theorem EL9_u {L L1 : Int → Int} {n p k : Int} {c : Int → Prop} (h : EL9_ L n (fun x => 0 ≤ x ∧ x < k ∧ x ≠ p ∧ c x)) (hn : 0 ≤ n) (e1 : L1 n = k) (e2 : ∀ j, j < n → L1 j = L j) : EL9_ L1 (n + 1) (fun x => 0 ≤ x ∧ x < k + 1 ∧ x ≠ p ∧ c x) := by
  rintro x ⟨a, b, d, e⟩
  by_cases z : x = k
  · exact ⟨n, hn, by omega, by rw [e1, z]⟩
  · obtain ⟨j, j1, j2, j3⟩ := h x ⟨a, by omega, d, e⟩
    exact ⟨j, j1, by omega, by rw [e2 j j2]; exact j3⟩
/-- the list of what stands against p: matches, ever greater, none of them p -/
def LZ9_ (L : Int → Int) (M p n k : Int) : Prop := (∀ j, 0 ≤ j → j < n → 0 ≤ L j ∧ L j < M ∧ L j < k ∧ L j ≠ p) ∧ ∀ a b, 0 ≤ a → a < b → b < n → L a < L b
theorem LZ9_u {L L1 : Int → Int} {M p n k : Int} (h : LZ9_ L M p n k) (e1 : L1 n = k) (e2 : ∀ j, j < n → L1 j = L j) (hk : 0 ≤ k ∧ k < M ∧ k ≠ p) : LZ9_ L1 M p (n + 1) (k + 1) := by
  refine ⟨fun j a b => ?_, fun a b x y z => ?_⟩
  · by_cases w : j = n
    · rw [w, e1]; omega
    · rw [e2 j (by omega)]
      have := h.1 j a (by omega)
      omega
  · by_cases w : b = n
    · rw [w, e1, e2 a (by omega)]
      exact (h.1 a x (by omega)).2.2.1
    · rw [e2 a (by omega), e2 b (by omega)]
      exact h.2 a b x y (by omega)
theorem LZ9_m {L : Int → Int} {M p n k k2 : Int} (h : LZ9_ L M p n k) (g : k ≤ k2) : LZ9_ L M p n k2 := ⟨fun j a b => by have := h.1 j a b; omega, h.2⟩
/-- days that are blocked for p by the matches below k -/
def Bd9_ (B : Int → Int) (T : Zt) (p k : Int) : Prop := ∀ x, 0 ≤ x → x < k → x ≠ p → T 102 x 6 = -1 → T 102 p 3 = T 102 x 3 → B (T 102 x 5) = 1
theorem Bd9_u {B B1 : Int → Int} {T : Zt} {p k : Int} (h : Bd9_ B T p k) (g : ∀ y, B1 y = B y ∨ B1 y = 1) : Bd9_ B1 T p k := fun x a b c d e => by
  have h1 := h x a b c d e
  rcases g (T 102 x 5) with z | z
  · rw [z]; exact h1
  · exact z
theorem Bd9_n {B : Int → Int} {T : Zt} {p k : Int} (h : Bd9_ B T p k) (g : k ≠ p → T 102 k 6 = -1 → T 102 p 3 = T 102 k 3 → B (T 102 k 5) = 1) : Bd9_ B T p (k + 1) := fun x a b c d e => by
  by_cases z : x = k
  · subst z
    exact g c d e
  · exact h x a (by omega) c d e
theorem up9_1 {T T1 : Zt} {k : Nat} {i j : Int} (h : T1 = up_ T k i j 1) (y : Int) : T1 k i y = T k i y ∨ T1 k i y = 1 := by
  by_cases z : y = j
  · rw [z]; exact Or.inr (up_f h)
  · exact Or.inl (up_g h (fun q => z q.2.2))
def bp9_ (T : Zt) (i j : Int) : Prop := T 102 i 6 = -1 ∧ T 102 j 6 = -1 ∧ T 102 i 0 = T 102 j 0 ∧ T 102 i 3 = T 102 j 3 ∧ T 102 i 5 = T 102 j 5
theorem dd9_b {T : Zt} (h : DD_ T) {i j : Int} (a : 0 ≤ i) (b : i < T 106 0 4) (c : 0 ≤ j) (d : j < T 106 0 4) (n : i ≠ j) : ¬ bp9_ T i j := by
  rintro ⟨q1, q2, q3, q4, q5⟩
  by_cases z : i < j
  · exact h i j a z d q1 q2 q3 q4 q5
  · exact h j i c (by omega) b q2 q1 q3.symm q4.symm q5.symm
theorem dd9_o {T T1 : Zt} (hm : T1 106 0 4 = T 106 0 4) (h : ∀ i j, 0 ≤ i → i < T 106 0 4 → 0 ≤ j → j < T 106 0 4 → i ≠ j → ¬ bp9_ T1 i j) : DD_ T1 := by
  intro i j a b c d1 d2 e1 e2 e3
  rw [hm] at c
  exact h i j a (by omega) (by omega) c (by omega) ⟨d1, d2, e1, e2, e3⟩
def PO9_ (T T1 : Zt) (p d n g : Int) : Prop := (∀ i j, j ≠ 5 → T1 102 i j = T 102 i j) ∧ (∀ x, x ≠ p → (∀ j, 0 ≤ j → j < g → T1 533 0 j ≠ x) → T1 102 x 5 = T 102 x 5) ∧ (∀ j, 0 ≤ j → j < g → T1 534 0 j = T 102 (T1 533 0 j) 5) ∧ (0 ≤ n → ∀ i j, 0 ≤ i → i < T 106 0 4 → 0 ≤ j → j < T 106 0 4 → i ≠ j → bp9_ T1 i j → (i = p ∧ ∃ t, g ≤ t ∧ t < n ∧ T1 533 0 t = j) ∨ (j = p ∧ ∃ t, g ≤ t ∧ t < n ∧ T1 533 0 t = i))
theorem po9_0 {T U V : Zt} {p d n : Int} (hdd : DD_ T) (hU : U = up_ T 102 p 5 d) (f : fr_ [(533, [])] U V) (he : 0 ≤ n → EL9_ (V 533 0) n (fun x => 0 ≤ x ∧ x < U 106 0 4 ∧ x ≠ p ∧ cf9_ U p x)) : PO9_ T V p d n 0 := by
  have e1 : ∀ i j, V 102 i j = U 102 i j := fun i j => f 102 i j rfl
  have e2 : ∀ i j, ¬ (i = p ∧ j = 5) → U 102 i j = T 102 i j := fun i j h => up_g hU (fun z => h ⟨z.2.1, z.2.2⟩)
  have em : U 106 0 4 = T 106 0 4 := up_k hU (by exact Nat.ne_of_beq_eq_false rfl) _ _
  refine ⟨fun i j h => by rw [e1, e2 i j (fun z => h z.2)], fun x hx _ => by rw [e1, e2 x 5 (fun z => hx z.1)], fun j a b => by omega, fun hn i j a b c e hij hb => ?_⟩
  have hc : ∀ i j, bp9_ V i j → bp9_ U i j := fun i j hb => by
    obtain ⟨q1, q2, q3, q4, q5⟩ := hb
    rw [e1] at q1 q2
    rw [e1, e1] at q3 q4 q5
    exact ⟨q1, q2, q3, q4, q5⟩
  have hu := hc i j hb
  by_cases zi : i = p
  · subst zi
    obtain ⟨q1, q2, q3, q4, q5⟩ := hu
    obtain ⟨t, t1, t2, t3⟩ := he hn j ⟨c, by rw [em]; exact e, fun z => hij z.symm, q1, q2, q4, q5⟩
    exact Or.inl ⟨rfl, t, t1, t2, t3⟩
  · by_cases zj : j = p
    · subst zj
      obtain ⟨q1, q2, q3, q4, q5⟩ := hu
      obtain ⟨t, t1, t2, t3⟩ := he hn i ⟨a, by rw [em]; exact b, hij, q2, q1, q4.symm, q5.symm⟩
      exact Or.inr ⟨rfl, t, t1, t2, t3⟩
    · refine absurd ?_ (dd9_b hdd a b c e hij)
      obtain ⟨q1, q2, q3, q4, q5⟩ := hu
      rw [e2 i _ (fun z => zi z.1)] at q1
      rw [e2 j _ (fun z => zj z.1)] at q2
      rw [e2 i _ (fun z => zi z.1), e2 j _ (fun z => zj z.1)] at q3 q4 q5
      exact ⟨q1, q2, q3, q4, q5⟩
/-- a match has gone behind -/
def GB9_ (T T1 : Zt) (p k : Int) : Prop := (∀ x, 0 ≤ x → x < T 106 0 4 → x ≠ p → T 102 x 6 = -1 → T 102 p 3 = T 102 x 3 → T1 102 p 5 ≠ T 102 x 5) ∧ (∀ i j, ¬ (i = p ∧ j = 5) → T1 102 i j = T 102 i j) ∧ T1 534 0 k = T 102 p 5 ∧ ∀ j, j ≠ k → T1 534 0 j = T 534 0 j
theorem po9_s {T U V : Zt} {p d n g k : Int} (h : PO9_ T U p d n g) (hz : LZ9_ (U 533 0) (T 106 0 4) p n k) (hg : 0 ≤ g ∧ g < n) (hm : U 106 0 4 = T 106 0 4) (gb : GB9_ U V (U 533 0 g) g) (fl : ∀ j, V 533 0 j = U 533 0 j) : PO9_ T V p d n (g + 1) := by
  obtain ⟨h1, h2, h3, h4⟩ := h
  obtain ⟨b1, b2, b3, b4⟩ := gb
  have hx := hz.1 g hg.1 hg.2
  refine ⟨fun i j hj => by rw [b2 i j (fun z => hj z.2)]; exact h1 i j hj, fun x hxp hx2 => ?_, fun j a b => ?_, fun hn i j a b c e hij hb => ?_⟩
  · have n1 : x ≠ U 533 0 g := fun z => hx2 g hg.1 (by omega) (by rw [fl, z])
    rw [b2 x 5 (fun z => n1 z.1)]
    exact h2 x hxp (fun j a b => by rw [← fl]; exact hx2 j a (by omega))
  · rw [fl]
    by_cases z : j = g
    · rw [z, b3]
      exact h2 _ hx.2.2.2 (fun t t1 t2 => by have := hz.2 t g t1 t2 hg.2; omega)
    · rw [b4 j z]
      exact h3 j a (by omega)
  · obtain ⟨q1, q2, q3, q4, q5⟩ := hb
    have hne : ∀ i j, ¬ (i = U 533 0 g ∧ j = 5) → V 102 i j = U 102 i j := b2
    by_cases zi : i = U 533 0 g
    · have zj : j ≠ U 533 0 g := fun z => hij (zi.trans z.symm)
      rw [hne j _ (fun z => zj z.1)] at q2
      rw [hne i _ (fun z => by omega), hne j _ (fun z => zj z.1)] at q4
      rw [hne j _ (fun z => zj z.1)] at q5
      rw [zi] at q4 q5
      exact absurd q5 (b1 j c (by rw [hm]; exact e) zj q2 q4)
    · by_cases zj : j = U 533 0 g
      · rw [hne i _ (fun z => zi z.1)] at q1
        rw [hne i _ (fun z => zi z.1), hne j _ (fun z => by omega)] at q4
        rw [hne i _ (fun z => zi z.1)] at q5
        rw [zj] at q4 q5
        exact absurd q5.symm (b1 i a (by rw [hm]; exact b) zi q1 q4.symm)
      · rw [hne i _ (fun z => zi z.1)] at q1
        rw [hne j _ (fun z => zj z.1)] at q2
        rw [hne i _ (fun z => zi z.1), hne j _ (fun z => zj z.1)] at q3 q4 q5
        rcases h4 hn i j a b c e hij ⟨q1, q2, q3, q4, q5⟩ with ⟨w, t, t1, t2, t3⟩ | ⟨w, t, t1, t2, t3⟩
        · refine Or.inl ⟨w, t, ?_, t2, by rw [fl]; exact t3⟩
          by_cases y : t = g
          · rw [y] at t3; exact absurd t3.symm zj
          · omega
        · refine Or.inr ⟨w, t, ?_, t2, by rw [fl]; exact t3⟩
          by_cases y : t = g
          · rw [y] at t3; exact absurd t3.symm zi
          · omega
theorem po9_e {T U : Zt} {p d n g : Int} (h : PO9_ T U p d n g) (hn : 0 ≤ n) (hg : n ≤ g) (hm : U 106 0 4 = T 106 0 4) : DD_ U := by
  refine dd9_o hm (fun i j a b c e hij hb => ?_)
  rcases h.2.2.2 hn i j a b c e hij hb with ⟨-, t, t1, t2, -⟩ | ⟨-, t, t1, t2, -⟩
  · omega
  · omega
def RV9_ (T T2 : Zt) (p g i : Int) : Prop := (∀ a j, j ≠ 5 → T2 102 a j = T 102 a j) ∧ (∀ x, x ≠ p → (∀ j, i ≤ j → j < g → T2 533 0 j ≠ x) → T2 102 x 5 = T 102 x 5) ∧ ∀ j, 0 ≤ j → j < g → T2 534 0 j = T 102 (T2 533 0 j) 5
theorem rv9_0 {T U : Zt} {p d n g : Int} (h : PO9_ T U p d n g) : RV9_ T U p g 0 := ⟨h.1, fun x a b => h.2.1 x a (fun j c e => b j c e), h.2.2.1⟩
theorem rv9_s {T U V : Zt} {p g i : Int} (h : RV9_ T U p g i) (hi : 0 ≤ i ∧ i < g) (hV : V = up_ U 102 (U 533 0 i) 5 (U 534 0 i)) : RV9_ T V p g (i + 1) := by
  obtain ⟨h1, h2, h3⟩ := h
  have fl : ∀ j, V 533 0 j = U 533 0 j := fun j => up_k hV (by exact Nat.ne_of_beq_eq_false rfl) _ _
  have fd : ∀ j, V 534 0 j = U 534 0 j := fun j => up_k hV (by exact Nat.ne_of_beq_eq_false rfl) _ _
  refine ⟨fun a j hj => (up_g hV (fun z => hj z.2.2)).trans (h1 a j hj), fun x hx hx2 => ?_, fun j a b => by rw [fl, fd]; exact h3 j a b⟩
  by_cases z : x = U 533 0 i
  · rw [z, up_f hV]
    exact h3 i hi.1 hi.2
  · rw [up_g hV (fun q => z q.2.1)]
    refine h2 x hx (fun j a b => ?_)
    by_cases y : j = i
    · rw [y]; exact fun w => z w.symm
    · rw [← fl]; exact hx2 j (by omega) b
theorem rv9_e {T U V : Zt} {p g i : Int} (hdd : DD_ T) (h : RV9_ T U p g i) (hi : g ≤ i) (hV : V = up_ U 102 p 5 (T 102 p 5)) (hm : V 106 0 4 = T 106 0 4) : DD_ V := by
  have e : ∀ i j, V 102 i j = T 102 i j := fun a j => by
    by_cases z : a = p ∧ j = 5
    · rw [z.1, z.2]; exact up_f hV
    · rw [up_g hV (fun q => z ⟨q.2.1, q.2.2⟩)]
      by_cases y : j = 5
      · rw [y]
        exact h.2.1 a (fun w => z ⟨w, y⟩) (fun t t1 t2 => by omega)
      · exact h.1 a j y
  intro i j a b c
  rw [hm] at c
  rw [e, e, e, e, e, e, e, e]
  exact hdd i j a b c
abbrev po_X6_standAgainst_k (T : Zt) (p : Int) (u : Int) : Zt → Option Zv → Prop := fun T' r => T = T' ∧ ∃ x : Int, r = some (vI x) ∧ (0 ≤ x ∧ x ≤ 1 ∧ (T 102 p 6 = -1 → T 102 u 6 = -1 → T 102 p 3 = T 102 u 3 → T 102 p 5 = T 102 u 5 → x = 1))
set_option maxHeartbeats 4000000 in
theorem ct_X6_standAgainst_k {T : Zt} {p : Int} {u : Int} : Ct_ yX6_standAgainst zX6_standAgainst T [vR 106 0, vR 102 p, vR 102 u] (po_X6_standAgainst_k T p u) := by
  refine ct_of pn_6 rfl rfl (Nat.le_of_ble_eq_true rfl) (fun hT hav => ?_)
  have hz : zX6_standAgainst.2.2.2.1 = some .boolean → ∀ (T' : Zt) (x : Int), po_X6_standAgainst_k T p u T' (some (vI x)) → 0 ≤ x ∧ x ≤ 1 := fun _ T' x h => by obtain ⟨-, y, e, hy⟩ := h; cases e; omega
  have hst : T 102 p 3 = T 102 u 3 → T 560 0 (T 102 p 3) = T 560 0 (T 102 u 3) := fun h => by rw [h]
  show J_ zX6_standAgainst T (po_X6_standAgainst_k T p u) 0 0 0 [some (vR 106 0), some (vR 102 p), some (vR 102 u), none] [] T
  refine j_blx (F := fX6) tb_X6 (nn_ _) bk_X6_standAgainst_0 bs_X6_standAgainst_0 hz (fun K hK => ?_)
  intro b1 b1b
  refine And.intro (fun c2 => ?_) (fun c2 => ?_)
  · refine hK 16 _ [] T ?_
    refine j_blx (F := fX6) tb_X6 (nn_ _) bk_X6_standAgainst_16 bs_X6_standAgainst_16 hz (fun K hK => ?_)
    refine (show po_X6_standAgainst_k T p u T (some (vI 0)) from ?_)
    exact ⟨rfl, _, rfl, by omega⟩
  · intro b3 b3b
    refine And.intro (fun c4 => ?_) (fun c4 => ?_)
    · refine hK 18 _ [] T ?_
      refine j_blx (F := fX6) tb_X6 (nn_ _) bk_X6_standAgainst_18 bs_X6_standAgainst_18 hz (fun K hK => ?_)
      intro b5 b5b
      intro b6 b6b
      refine rg_i (by omega) ?_
      refine hK 27 _ [vI ((T 102 p 5) - (T 102 u 5))] T ?_
      obtain ⟨x7, e8, hx7⟩ : ∃ x7 : Int, (if 0 ≤ ((T 102 p 5) - (T 102 u 5)) then ((T 102 p 5) - (T 102 u 5)) else -((T 102 p 5) - (T 102 u 5))) = x7 ∧ (0 ≤ x7 ∧ (x7 = (T 102 p 5) - (T 102 u 5) ∨ x7 = -((T 102 p 5) - (T 102 u 5)))) := ⟨_, rfl, by split <;> omega⟩
      refine j_ab (pc := 27) (by omega) (lw_b4 93 (by decide +kernel) rfl : Cond.methodLink RX6 122 Lib.Math.abs.name ∈ lw_g) (lw_b4 94 (by decide +kernel) rfl : Cond.static Lib.Math.abs.name ∈ lw_g) (lw_b1 17 (by decide +kernel) rfl : Cond.initialized "java/lang/Math" ∈ lw_g) (lw_b4 95 (by decide +kernel) rfl : Cond.code Lib.Math.abs.name Lib.Math.abs.code 1 (some .int) ∈ lw_g) (by decide +kernel) (by decide) (by decide) (by decide) (Nat.le_of_ble_eq_true rfl) ?_
      rw [e8]
      show J_ zX6_standAgainst T (po_X6_standAgainst_k T p u) 0 0 30 _ [vI x7] T
      refine j_blx (F := fX6) tb_X6 (nn_ _) bk_X6_standAgainst_30 bs_X6_standAgainst_30 hz (fun K hK => ?_)
      refine And.intro (fun c9 => ?_) (fun c9 => ?_)
      · refine hK 64 [some (vR 106 0), some (vR 102 p), some (vR 102 u), some (vI x7)] [] T ?_
        refine j_blx (F := fX6) tb_X6 (nn_ _) bk_X6_standAgainst_64 bs_X6_standAgainst_64 hz (fun K hK => ?_)
        refine hK 66 _ [vR 102 p, vI x7] T ?_
        refine j_callV (y := yX2_rest) (Yc := zX2_rest) (rest := [vI x7]) [] (ct_X2_rest (T := T)) cl_X6_133 (qd_c (by decide +kernel)) (nn_ _) rfl (rf_of rfl) (Nat.le_of_ble_eq_true rfl) (Nat.le_of_ble_eq_true rfl) (Nat.le_of_ble_eq_true rfl) rfl ?_
        rintro _ _ ⟨rfl, x10, rfl, hx10⟩
        show J_ zX6_standAgainst T (po_X6_standAgainst_k T p u) 0 0 69 _ [vI x10, vI x7] T
        refine j_blx (F := fX6) tb_X6 (nn_ _) bk_X6_standAgainst_69 bs_X6_standAgainst_69 hz (fun K hK => ?_)
        refine hK 70 _ [vR 102 u, vI x10, vI x7] T ?_
        refine j_callV (y := yX2_rest) (Yc := zX2_rest) (rest := [vI x10, vI x7]) [] (ct_X2_rest (T := T)) cl_X6_133 (qd_c (by decide +kernel)) (nn_ _) rfl (rf_of rfl) (Nat.le_of_ble_eq_true rfl) (Nat.le_of_ble_eq_true rfl) (Nat.le_of_ble_eq_true rfl) rfl ?_
        rintro _ _ ⟨rfl, x11, rfl, hx11⟩
        show J_ zX6_standAgainst T (po_X6_standAgainst_k T p u) 0 0 73 _ [vI x11, vI x10, vI x7] T
        obtain ⟨x12, e13, hx12⟩ : ∃ x12 : Int, (if x10 < x11 then x11 else x10) = x12 ∧ ((x12 = x10 ∨ x12 = x11) ∧ x10 ≤ x12 ∧ x11 ≤ x12) := ⟨_, rfl, by split <;> omega⟩
        refine j_mx (pc := 73) (lw_b4 100 (by decide +kernel) rfl : Cond.methodLink RX6 136 Lib.Math.max.name ∈ lw_g) (lw_b4 101 (by decide +kernel) rfl : Cond.static Lib.Math.max.name ∈ lw_g) (lw_b1 17 (by decide +kernel) rfl : Cond.initialized "java/lang/Math" ∈ lw_g) (lw_b4 102 (by decide +kernel) rfl : Cond.code Lib.Math.max.name Lib.Math.max.code 2 (some .int) ∈ lw_g) (by decide +kernel) (by decide) (by decide) (by decide) (Nat.le_of_ble_eq_true rfl) ?_
        rw [e13]
        show J_ zX6_standAgainst T (po_X6_standAgainst_k T p u) 0 0 76 _ [vI x12, vI x7] T
        refine j_blx (F := fX6) tb_X6 (nn_ _) bk_X6_standAgainst_76 bs_X6_standAgainst_76 hz (fun K hK => ?_)
        refine And.intro (fun c14 => ?_) (fun c14 => ?_)
        · refine hK 91 _ [] T ?_
          refine j_blx (F := fX6) tb_X6 (nn_ _) bk_X6_standAgainst_91 bs_X6_standAgainst_91 hz (fun K hK => ?_)
          refine (show po_X6_standAgainst_k T p u T (some (vI 0)) from ?_)
          exact ⟨rfl, _, rfl, by omega⟩
        · refine hK 81 _ [vR 102 u, vR 102 p] T ?_
          refine j_callS (y := yX6_shareClub) (Yc := zX6_shareClub) (rest := []) [vR 102 p, vR 102 u] (ct_X6_shareClub (T := T)) cl_X6_140 (qd_c (by decide +kernel)) (nn_ _) rfl (rf_of rfl) (Nat.le_of_ble_eq_true rfl) (Nat.le_of_ble_eq_true rfl) (Nat.le_of_ble_eq_true rfl) rfl ?_
          rintro _ _ ⟨rfl, x15, rfl, hx15⟩
          show J_ zX6_standAgainst T (po_X6_standAgainst_k T p u) 0 0 84 _ [vI x15] T
          refine j_blx (F := fX6) tb_X6 (nn_ _) bk_X6_standAgainst_84 bs_X6_standAgainst_84 hz (fun K hK => ?_)
          refine And.intro (fun c16 => ?_) (fun c16 => ?_)
          · refine hK 91 _ [] T ?_
            refine j_blx (F := fX6) tb_X6 (nn_ _) bk_X6_standAgainst_91 bs_X6_standAgainst_91 hz (fun K hK => ?_)
            refine (show po_X6_standAgainst_k T p u T (some (vI 0)) from ?_)
            exact ⟨rfl, _, rfl, by omega⟩
          · refine hK 92 _ [vI 1] T ?_
            refine j_blx (F := fX6) tb_X6 (nn_ _) bk_X6_standAgainst_92 bs_X6_standAgainst_92 hz (fun K hK => ?_)
            refine (show po_X6_standAgainst_k T p u T (some (vI 1)) from ?_)
            exact ⟨rfl, _, rfl, by omega⟩
      · intro b17 b17b
        refine ix_i (by omega) ?_
        intro b18 b18b
        intro b19 b19b
        refine ix_i (by omega) ?_
        intro b20 b20b
        refine And.intro (fun c21 => ?_) (fun c21 => ?_)
        · refine hK 64 _ [] T ?_
          refine j_blx (F := fX6) tb_X6 (nn_ _) bk_X6_standAgainst_64 bs_X6_standAgainst_64 hz (fun K hK => ?_)
          refine hK 66 _ [vR 102 p, vI x7] T ?_
          refine j_callV (y := yX2_rest) (Yc := zX2_rest) (rest := [vI x7]) [] (ct_X2_rest (T := T)) cl_X6_133 (qd_c (by decide +kernel)) (nn_ _) rfl (rf_of rfl) (Nat.le_of_ble_eq_true rfl) (Nat.le_of_ble_eq_true rfl) (Nat.le_of_ble_eq_true rfl) rfl ?_
          rintro _ _ ⟨rfl, x22, rfl, hx22⟩
          show J_ zX6_standAgainst T (po_X6_standAgainst_k T p u) 0 0 69 _ [vI x22, vI x7] T
          refine j_blx (F := fX6) tb_X6 (nn_ _) bk_X6_standAgainst_69 bs_X6_standAgainst_69 hz (fun K hK => ?_)
          refine hK 70 _ [vR 102 u, vI x22, vI x7] T ?_
          refine j_callV (y := yX2_rest) (Yc := zX2_rest) (rest := [vI x22, vI x7]) [] (ct_X2_rest (T := T)) cl_X6_133 (qd_c (by decide +kernel)) (nn_ _) rfl (rf_of rfl) (Nat.le_of_ble_eq_true rfl) (Nat.le_of_ble_eq_true rfl) (Nat.le_of_ble_eq_true rfl) rfl ?_
          rintro _ _ ⟨rfl, x23, rfl, hx23⟩
          show J_ zX6_standAgainst T (po_X6_standAgainst_k T p u) 0 0 73 _ [vI x23, vI x22, vI x7] T
          obtain ⟨x24, e25, hx24⟩ : ∃ x24 : Int, (if x22 < x23 then x23 else x22) = x24 ∧ ((x24 = x22 ∨ x24 = x23) ∧ x22 ≤ x24 ∧ x23 ≤ x24) := ⟨_, rfl, by split <;> omega⟩
          refine j_mx (pc := 73) (lw_b4 100 (by decide +kernel) rfl : Cond.methodLink RX6 136 Lib.Math.max.name ∈ lw_g) (lw_b4 101 (by decide +kernel) rfl : Cond.static Lib.Math.max.name ∈ lw_g) (lw_b1 17 (by decide +kernel) rfl : Cond.initialized "java/lang/Math" ∈ lw_g) (lw_b4 102 (by decide +kernel) rfl : Cond.code Lib.Math.max.name Lib.Math.max.code 2 (some .int) ∈ lw_g) (by decide +kernel) (by decide) (by decide) (by decide) (Nat.le_of_ble_eq_true rfl) ?_
          rw [e25]
          show J_ zX6_standAgainst T (po_X6_standAgainst_k T p u) 0 0 76 _ [vI x24, vI x7] T
          refine j_blx (F := fX6) tb_X6 (nn_ _) bk_X6_standAgainst_76 bs_X6_standAgainst_76 hz (fun K hK => ?_)
          refine And.intro (fun c26 => ?_) (fun c26 => ?_)
          · refine hK 91 _ [] T ?_
            refine j_blx (F := fX6) tb_X6 (nn_ _) bk_X6_standAgainst_91 bs_X6_standAgainst_91 hz (fun K hK => ?_)
            refine (show po_X6_standAgainst_k T p u T (some (vI 0)) from ?_)
            exact ⟨rfl, _, rfl, by omega⟩
          · refine hK 81 _ [vR 102 u, vR 102 p] T ?_
            refine j_callS (y := yX6_shareClub) (Yc := zX6_shareClub) (rest := []) [vR 102 p, vR 102 u] (ct_X6_shareClub (T := T)) cl_X6_140 (qd_c (by decide +kernel)) (nn_ _) rfl (rf_of rfl) (Nat.le_of_ble_eq_true rfl) (Nat.le_of_ble_eq_true rfl) (Nat.le_of_ble_eq_true rfl) rfl ?_
            rintro _ _ ⟨rfl, x27, rfl, hx27⟩
            show J_ zX6_standAgainst T (po_X6_standAgainst_k T p u) 0 0 84 _ [vI x27] T
            refine j_blx (F := fX6) tb_X6 (nn_ _) bk_X6_standAgainst_84 bs_X6_standAgainst_84 hz (fun K hK => ?_)
            refine And.intro (fun c28 => ?_) (fun c28 => ?_)
            · refine hK 91 _ [] T ?_
              refine j_blx (F := fX6) tb_X6 (nn_ _) bk_X6_standAgainst_91 bs_X6_standAgainst_91 hz (fun K hK => ?_)
              refine (show po_X6_standAgainst_k T p u T (some (vI 0)) from ?_)
              exact ⟨rfl, _, rfl, by omega⟩
            · refine hK 92 _ [vI 1] T ?_
              refine j_blx (F := fX6) tb_X6 (nn_ _) bk_X6_standAgainst_92 bs_X6_standAgainst_92 hz (fun K hK => ?_)
              refine (show po_X6_standAgainst_k T p u T (some (vI 1)) from ?_)
              exact ⟨rfl, _, rfl, by omega⟩
        · refine (show po_X6_standAgainst_k T p u T (some (vI 1)) from ?_)
          exact ⟨rfl, _, rfl, by omega⟩
    · refine (show po_X6_standAgainst_k T p u T (some (vI 0)) from ?_)
      exact ⟨rfl, _, rfl, by omega⟩
abbrev po_X6_listAgainst_k (T : Zt) (p : Int) : Zt → Option Zv → Prop := fun T' r => ∃ x : Int, r = some (vI x) ∧ fr_ [(533, [])] T T' ∧ ((-1 ≤ x ∧ x ≤ 400) ∧ LZ9_ (T' 533 0) (T 106 0 4) p x 400 ∧ (0 ≤ x → EL9_ (T' 533 0) x (fun x => 0 ≤ x ∧ x < T 106 0 4 ∧ x ≠ p ∧ cf9_ T p x)))
set_option maxHeartbeats 4000000 in
theorem ct_X6_listAgainst_k {T : Zt} {p : Int} (hka : KA_ T) (hkm : KM_ T) (hp : 0 ≤ p ∧ p < T 106 0 4) : Ct_ yX6_listAgainst zX6_listAgainst T [vR 106 0, vR 102 p] (po_X6_listAgainst_k T p) := by
  refine ct_of pn_6 rfl rfl (Nat.le_of_ble_eq_true rfl) (fun hT hav => ?_)
  have hz : zX6_listAgainst.2.2.2.1 = some .boolean → ∀ (T' : Zt) (x : Int), po_X6_listAgainst_k T p T' (some (vI x)) → 0 ≤ x ∧ x ≤ 1 := fun h => by cases h
  have hb_matchCount : 0 ≤ T 106 0 4 ∧ T 106 0 4 ≤ 400 := bd_f hT 106 4 (by decide +kernel : (tf_ 106)[4]? = some (0, 0, 0, 400)) 0
  have hn1 := (hkm p hp.1 hp.2).1
  show J_ zX6_listAgainst T (po_X6_listAgainst_k T p) 0 0 0 [some (vR 106 0), some (vR 102 p), none, none, none] [] T
  have c_4 : ∀ (nn : Nat) (f : Int) (k : Int) (T1 : Zt), ((400 - k).toNat) ≤ nn → (fr_ [(533, [])] T T1) → (0 ≤ f ∧ f ≤ k ∧ 0 ≤ k ∧ k ≤ T 106 0 4) → (LZ9_ (T1 533 0) (T 106 0 4) p f k) → (EL9_ (T1 533 0) f (fun x => 0 ≤ x ∧ x < k ∧ x ≠ p ∧ cf9_ T p x)) → J_ zX6_listAgainst T (po_X6_listAgainst_k T p) 0 0 4 [some (vR 106 0), some (vR 102 p), some (vI f), some (vI k), none] [] T1 := by
    intro nn
    induction nn using Nat.strongRecOn with
    | _ nn ih_4 =>
      intro f k T1 hm_4 hf_4 i1 lz1 el1
      refine j_blx (F := fX6) tb_X6 (nn_ _) bk_X6_listAgainst_4 bs_X6_listAgainst_4 hz (fun K hK => ?_)
      intro b1 b1b
      have e2 : T1 106 0 4 = T 106 0 4 := hf_4 106 0 4 rfl
      rw [e2] at b1 b1b ⊢
      refine And.intro (fun c3 => ?_) (fun c3 => ?_)
      · refine hK 64 _ [] T1 ?_
        refine j_blx (F := fX6) tb_X6 (nn_ _) bk_X6_listAgainst_64 bs_X6_listAgainst_64 hz (fun K hK => ?_)
        refine (show po_X6_listAgainst_k T p T1 (some (vI f)) from ?_)
        exact ⟨_, rfl, fr_t (fr_0 _ _) (fr_s hf_4 rfl), by omega, LZ9_m lz1 (by omega), fun _ => by rw [show T 106 0 4 = k by omega]; exact el1⟩
      · refine ix_i (by omega) ?_
        have e5 : T1 523 0 k = T 523 0 k := hf_4 523 0 k rfl
        refine And.intro (fun c4 => ?_) (fun c4 => ?_)
        · exact absurd (show T 523 0 (k) = 0 by omega) (hka.2 _ (by omega) (by omega))
        · intro b6 b6b
          have e7 : T1 102 p 1 = T 102 p 1 := hf_4 102 p 1 rfl
          rw [e7] at b6 b6b ⊢
          refine And.intro (fun c8 => ?_) (fun c8 => ?_)
          · refine hK 58 [some (vR 106 0), some (vR 102 p), some (vI f), some (vI k), some (vR 102 k)] [] T1 ?_
            refine j_blx (F := fX6) tb_X6 (nn_ _) bk_X6_listAgainst_58 bs_X6_listAgainst_58 hz (fun K hK => ?_)
            refine rg_i (by omega) ?_
            refine hK 4 [some (vR 106 0), some (vR 102 p), some (vI f), some (vI (k + 1)), some (vR 102 k)] [] T1 ?_
            refine j_drop [some (vR 106 0), some (vR 102 p), some (vI f), some (vI (k + 1)), none] (fun k v hk => ?_) rfl ?_
            · match k, hk with
              | 0, hk => exact hk
              | 1, hk => exact hk
              | 2, hk => exact hk
              | 3, hk => exact hk
              | 4, hk => cases hk
              | k + 5, hk => cases hk
            refine ih_4 _ ?_ f (k + 1) T1 (Nat.le_refl _) ?_ ?_ ?_ ?_
            · omega
            · exact fr_t (fr_0 _ _) (fr_s hf_4 rfl)
            · omega
            · exact LZ9_m lz1 (by omega)
            · exact EL9_n el1 (fun h q => by obtain ⟨q1, q2, q3, q4⟩ := q; have y1 : ∀ i j, T1 102 i j = T 102 i j := fun i j => hf_4 102 i j rfl; have := y1 p 6; have := y1 k 6; have := y1 p 3; have := y1 k 3; have := y1 p 5; have := y1 k 5; have := y1 p 1; omega)
          · refine hK 32 [some (vR 106 0), some (vR 102 p), some (vI f), some (vI k), some (vR 102 k)] [vR 102 k, vR 102 p, vR 106 0] T1 ?_
            refine j_callV (y := yX6_standAgainst) (Yc := zX6_standAgainst) (rest := []) [vR 102 p, vR 102 k] (ct_X6_standAgainst_k (T := T1)) cl_X6_112 (qd_c (by decide +kernel)) (nn_ _) rfl (rf_of rfl) (Nat.le_of_ble_eq_true rfl) (Nat.le_of_ble_eq_true rfl) (Nat.le_of_ble_eq_true rfl) rfl ?_
            rintro _ _ ⟨rfl, x9, rfl, hx9⟩
            show J_ zX6_listAgainst T (po_X6_listAgainst_k T p) 0 0 35 _ [vI x9] T1
            refine j_blx (F := fX6) tb_X6 (nn_ _) bk_X6_listAgainst_35 bs_X6_listAgainst_35 hz (fun K hK => ?_)
            refine And.intro (fun c10 => ?_) (fun c10 => ?_)
            · refine hK 58 _ [] T1 ?_
              refine j_blx (F := fX6) tb_X6 (nn_ _) bk_X6_listAgainst_58 bs_X6_listAgainst_58 hz (fun K hK => ?_)
              refine rg_i (by omega) ?_
              refine hK 4 [some (vR 106 0), some (vR 102 p), some (vI f), some (vI (k + 1)), some (vR 102 k)] [] T1 ?_
              refine j_drop [some (vR 106 0), some (vR 102 p), some (vI f), some (vI (k + 1)), none] (fun k v hk => ?_) rfl ?_
              · match k, hk with
                | 0, hk => exact hk
                | 1, hk => exact hk
                | 2, hk => exact hk
                | 3, hk => exact hk
                | 4, hk => cases hk
                | k + 5, hk => cases hk
              refine ih_4 _ ?_ f (k + 1) T1 (Nat.le_refl _) ?_ ?_ ?_ ?_
              · omega
              · exact fr_t (fr_0 _ _) (fr_s hf_4 rfl)
              · omega
              · exact LZ9_m lz1 (by omega)
              · exact EL9_n el1 (fun h q => by obtain ⟨q1, q2, q3, q4⟩ := q; have y1 : ∀ i j, T1 102 i j = T 102 i j := fun i j => hf_4 102 i j rfl; have := y1 p 6; have := y1 k 6; have := y1 p 3; have := y1 k 3; have := y1 p 5; have := y1 k 5; have := y1 p 1; omega)
            · refine hK 40 [some (vR 106 0), some (vR 102 p), some (vI f), some (vI k), some (vR 102 k)] [vR 102 k] T1 ?_
              refine j_callV (y := yX2_phaseOfLife) (Yc := zX2_phaseOfLife) (rest := []) [] (ct_X2_phaseOfLife (T := T1)) cl_X6_116 (qd_c (by decide +kernel)) (nn_ _) rfl (rf_of rfl) (Nat.le_of_ble_eq_true rfl) (Nat.le_of_ble_eq_true rfl) (Nat.le_of_ble_eq_true rfl) rfl ?_
              rintro _ _ ⟨rfl, x11, rfl, hx11⟩
              show J_ zX6_listAgainst T (po_X6_listAgainst_k T p) 0 0 43 _ [vI x11] T1
              refine j_blx (F := fX6) tb_X6 (nn_ _) bk_X6_listAgainst_43 bs_X6_listAgainst_43 hz (fun K hK => ?_)
              refine And.intro (fun c12 => ?_) (fun c12 => ?_)
              · refine hK 48 _ [] T1 ?_
                refine j_blx (F := fX6) tb_X6 (nn_ _) bk_X6_listAgainst_48 bs_X6_listAgainst_48 hz (fun K hK => ?_)
                refine iy_i (by omega) (by omega) ?_
                refine x_nm (fun U13 hU13 => ?_)
                have e14 := up_f hU13
                refine rg_i (by omega) ?_
                refine rg_i (by omega) ?_
                refine hK 4 [some (vR 106 0), some (vR 102 p), some (vI (f + 1)), some (vI (k + 1)), some (vR 102 k)] [] U13 ?_
                refine j_drop [some (vR 106 0), some (vR 102 p), some (vI (f + 1)), some (vI (k + 1)), none] (fun k v hk => ?_) rfl ?_
                · match k, hk with
                  | 0, hk => exact hk
                  | 1, hk => exact hk
                  | 2, hk => exact hk
                  | 3, hk => exact hk
                  | 4, hk => cases hk
                  | k + 5, hk => cases hk
                refine ih_4 _ ?_ (f + 1) (k + 1) U13 (Nat.le_refl _) ?_ ?_ ?_ ?_
                · omega
                · exact fr_u (fr_t (fr_0 _ _) (fr_s hf_4 rfl)) hU13 rfl
                · omega
                · exact LZ9_u lz1 (up_f hU13) (fun j hj => up_g hU13 (fun q => by omega)) ⟨by omega, by omega, by omega⟩
                · exact EL9_u el1 (by omega) (up_f hU13) (fun j hj => up_g hU13 (fun q => by omega))
              · refine (show po_X6_listAgainst_k T p T1 (some (vI (-1))) from ?_)
                exact ⟨_, rfl, fr_t (fr_0 _ _) (fr_s hf_4 rfl), by omega, ⟨fun j a b => by omega, fun a b x y z => by omega⟩, fun h => by omega⟩
  refine j_blx (F := fX6) tb_X6 (nn_ _) bk_X6_listAgainst_0 bs_X6_listAgainst_0 hz (fun K hK => ?_)
  refine hK 4 [some (vR 106 0), some (vR 102 p), some (vI 0), some (vI 0), none] [] T ?_
  refine c_4 _ 0 0 T (Nat.le_refl _) ?_ ?_ ?_ ?_
  · exact fr_0 _ _
  · omega
  · exact ⟨fun j a b => by omega, fun a b x y z => by omega⟩
  · rintro x ⟨a, b, -⟩; omega
abbrev po_X6_blockDays_k (T : Zt) (p : Int) : Zt → Option Zv → Prop := fun T' r => r = none ∧ fr_ [(535, [])] T T' ∧ (Bd9_ (T' 535 0) T p (T 106 0 4))
set_option maxHeartbeats 4000000 in
theorem ct_X6_blockDays_k {T : Zt} {p : Int} (hka : KA_ T) (hkm : KM_ T) (hp : 0 ≤ p ∧ p < T 106 0 4) : Ct_ yX6_blockDays zX6_blockDays T [vR 106 0, vR 102 p] (po_X6_blockDays_k T p) := by
  refine ct_of pn_6 rfl rfl (Nat.le_of_ble_eq_true rfl) (fun hT hav => ?_)
  have hz : zX6_blockDays.2.2.2.1 = some .boolean → ∀ (T' : Zt) (x : Int), po_X6_blockDays_k T p T' (some (vI x)) → 0 ≤ x ∧ x ≤ 1 := fun h => by cases h
  have hb_matchCount : 0 ≤ T 106 0 4 ∧ T 106 0 4 ≤ 400 := bd_f hT 106 4 (by decide +kernel : (tf_ 106)[4]? = some (0, 0, 0, 400)) 0
  have hn1 := (hkm p hp.1 hp.2).1
  show J_ zX6_blockDays T (po_X6_blockDays_k T p) 0 0 0 [some (vR 106 0), some (vR 102 p), none, none, none, none, none] [] T
  have c_10 : ∀ (nn : Nat) (k : Int) (T1 : Zt), ((400 - k).toNat) ≤ nn → (fr_ [(535, [])] T T1) → (0 ≤ k ∧ k ≤ 400) → (Bd9_ (T1 535 0) T p k) → J_ zX6_blockDays T (po_X6_blockDays_k T p) 0 0 10 [some (vR 106 0), some (vR 102 p), some (vI k), none, none, none, none] [] T1 := by
    intro nn
    induction nn using Nat.strongRecOn with
    | _ nn ih_10 =>
      intro k T1 hm_10 hf_10 i1 bd1
      have hst : T 102 p 3 = T 102 k 3 → T 560 0 (T 102 p 3) = T 560 0 (T 102 k 3) := fun h => by rw [h]
      have c_132 : ∀ (nn : Nat) (to : Int) (d : Int) (T2 : Zt), ((1000 - d).toNat) ≤ nn → (fr_ [(535, [])] T T2) → (0 ≤ d ∧ to ≤ 999 ∧ k < 400) → (Bd9_ (T2 535 0) T p (k + 1)) → J_ zX6_blockDays T (po_X6_blockDays_k T p) 0 0 132 [some (vR 106 0), some (vR 102 p), some (vI k), none, none, some (vI to), some (vI d)] [] T2 := by
        intro nn
        induction nn using Nat.strongRecOn with
        | _ nn ih_132 =>
          intro to d T2 hm_132 hf_132 i2 bd2
          refine j_blx (F := fX6) tb_X6 (nn_ _) bk_X6_blockDays_132 bs_X6_blockDays_132 hz (fun K hK => ?_)
          refine And.intro (fun c1 => ?_) (fun c1 => ?_)
          · refine hK 153 _ [] T2 ?_
            refine j_blx (F := fX6) tb_X6 (nn_ _) bk_X6_blockDays_153 bs_X6_blockDays_153 hz (fun K hK => ?_)
            refine rg_i (by omega) ?_
            refine hK 10 [some (vR 106 0), some (vR 102 p), some (vI (k + 1)), none, none, some (vI to), some (vI d)] [] T2 ?_
            refine j_drop [some (vR 106 0), some (vR 102 p), some (vI (k + 1)), none, none, none, none] (fun k v hk => ?_) rfl ?_
            · match k, hk with
              | 0, hk => exact hk
              | 1, hk => exact hk
              | 2, hk => exact hk
              | 3, hk => cases hk
              | 4, hk => cases hk
              | 5, hk => cases hk
              | 6, hk => cases hk
              | k + 7, hk => cases hk
            refine ih_10 _ ?_ (k + 1) T2 (Nat.le_refl _) ?_ ?_ ?_
            · omega
            · exact fr_t (fr_0 _ _) (fr_s hf_132 rfl)
            · omega
            · exact bd2
          · refine iy_i (by omega) (by omega) ?_
            refine x_nm (fun U2 hU2 => ?_)
            have e3 := up_f hU2
            refine rg_i (by omega) ?_
            refine hK 132 [some (vR 106 0), some (vR 102 p), some (vI k), none, none, some (vI to), some (vI (d + 1))] [] U2 ?_
            refine ih_132 _ ?_ to (d + 1) U2 (Nat.le_refl _) ?_ ?_ ?_
            · omega
            · exact fr_u (fr_t (fr_0 _ _) (fr_s hf_132 rfl)) hU2 rfl
            · omega
            · exact Bd9_u bd2 (up9_1 hU2)
      refine j_blx (F := fX6) tb_X6 (nn_ _) bk_X6_blockDays_10 bs_X6_blockDays_10 hz (fun K hK => ?_)
      intro b4 b4b
      have e5 : T1 106 0 4 = T 106 0 4 := hf_10 106 0 4 rfl
      rw [e5] at b4 b4b ⊢
      refine And.intro (fun c6 => ?_) (fun c6 => ?_)
      · refine hK 159 _ [] T1 ?_
        refine j_blx (F := fX6) tb_X6 (nn_ _) bk_X6_blockDays_159 bs_X6_blockDays_159 hz (fun K hK => ?_)
        refine (show po_X6_blockDays_k T p T1 (none) from ?_)
        exact ⟨rfl, fr_t (fr_0 _ _) (fr_s hf_10 rfl), fun x a b => bd1 x a (by omega)⟩
      · refine ix_i (by omega) ?_
        have e8 : T1 523 0 k = T 523 0 k := hf_10 523 0 k rfl
        refine And.intro (fun c7 => ?_) (fun c7 => ?_)
        · exact absurd (show T 523 0 (k) = 0 by omega) (hka.2 _ (by omega) (by omega))
        · intro b9 b9b
          have e10 : T1 102 p 1 = T 102 p 1 := hf_10 102 p 1 rfl
          rw [e10] at b9 b9b ⊢
          refine And.intro (fun c11 => ?_) (fun c11 => ?_)
          · refine hK 153 [some (vR 106 0), some (vR 102 p), some (vI k), some (vR 102 k), none, none, none] [] T1 ?_
            refine j_blx (F := fX6) tb_X6 (nn_ _) bk_X6_blockDays_153 bs_X6_blockDays_153 hz (fun K hK => ?_)
            refine rg_i (by omega) ?_
            refine hK 10 [some (vR 106 0), some (vR 102 p), some (vI (k + 1)), some (vR 102 k), none, none, none] [] T1 ?_
            refine j_drop [some (vR 106 0), some (vR 102 p), some (vI (k + 1)), none, none, none, none] (fun k v hk => ?_) rfl ?_
            · match k, hk with
              | 0, hk => exact hk
              | 1, hk => exact hk
              | 2, hk => exact hk
              | 3, hk => cases hk
              | 4, hk => cases hk
              | 5, hk => cases hk
              | 6, hk => cases hk
              | k + 7, hk => cases hk
            refine ih_10 _ ?_ (k + 1) T1 (Nat.le_refl _) ?_ ?_ ?_
            · omega
            · exact fr_t (fr_0 _ _) (fr_s hf_10 rfl)
            · omega
            · exact Bd9_n bd1 (fun a b d => by exfalso; have y9 := hst d; omega)
          · intro b12 b12b
            have e13 : T1 102 k 6 = T 102 k 6 := hf_10 102 k 6 rfl
            rw [e13] at b12 b12b ⊢
            refine And.intro (fun c14 => ?_) (fun c14 => ?_)
            · refine hK 44 [some (vR 106 0), some (vR 102 p), some (vI k), some (vR 102 k), none, none, none] [] T1 ?_
              refine j_blx (F := fX6) tb_X6 (nn_ _) bk_X6_blockDays_44 bs_X6_blockDays_44 hz (fun K hK => ?_)
              intro b15 b15b
              have e16 : T1 102 p 3 = T 102 p 3 := hf_10 102 p 3 rfl
              rw [e16] at b15 b15b ⊢
              refine ix_i (by omega) ?_
              intro b17 b17b
              have e18 : T1 560 0 (T 102 p 3) = T 560 0 (T 102 p 3) := hf_10 560 0 (T 102 p 3) rfl
              rw [e18] at b17 b17b ⊢
              intro b19 b19b
              have e20 : T1 102 k 3 = T 102 k 3 := hf_10 102 k 3 rfl
              rw [e20] at b19 b19b ⊢
              refine ix_i (by omega) ?_
              intro b21 b21b
              have e22 : T1 560 0 (T 102 k 3) = T 560 0 (T 102 k 3) := hf_10 560 0 (T 102 k 3) rfl
              rw [e22] at b21 b21b ⊢
              refine And.intro (fun c23 => ?_) (fun c23 => ?_)
              · refine hK 81 _ [] T1 ?_
                refine j_blx (F := fX6) tb_X6 (nn_ _) bk_X6_blockDays_81 bs_X6_blockDays_81 hz (fun K hK => ?_)
                refine hK 83 _ [vR 102 k, vR 102 p] T1 ?_
                refine j_callS (y := yX6_shareClub) (Yc := zX6_shareClub) (rest := []) [vR 102 p, vR 102 k] (ct_X6_shareClub (T := T1)) cl_X6_140 (qd_c (by decide +kernel)) (nn_ _) rfl (rf_of rfl) (Nat.le_of_ble_eq_true rfl) (Nat.le_of_ble_eq_true rfl) (Nat.le_of_ble_eq_true rfl) rfl ?_
                rintro _ _ ⟨rfl, x24, rfl, hx24⟩
                show J_ zX6_blockDays T (po_X6_blockDays_k T p) 0 0 86 _ [vI x24] T1
                refine j_blx (F := fX6) tb_X6 (nn_ _) bk_X6_blockDays_86 bs_X6_blockDays_86 hz (fun K hK => ?_)
                refine And.intro (fun c25 => ?_) (fun c25 => ?_)
                · refine hK 153 _ [] T1 ?_
                  refine j_blx (F := fX6) tb_X6 (nn_ _) bk_X6_blockDays_153 bs_X6_blockDays_153 hz (fun K hK => ?_)
                  refine rg_i (by omega) ?_
                  refine hK 10 [some (vR 106 0), some (vR 102 p), some (vI (k + 1)), some (vR 102 k), none, none, none] [] T1 ?_
                  refine j_drop [some (vR 106 0), some (vR 102 p), some (vI (k + 1)), none, none, none, none] (fun k v hk => ?_) rfl ?_
                  · match k, hk with
                    | 0, hk => exact hk
                    | 1, hk => exact hk
                    | 2, hk => exact hk
                    | 3, hk => cases hk
                    | 4, hk => cases hk
                    | 5, hk => cases hk
                    | 6, hk => cases hk
                    | k + 7, hk => cases hk
                  refine ih_10 _ ?_ (k + 1) T1 (Nat.le_refl _) ?_ ?_ ?_
                  · omega
                  · exact fr_t (fr_0 _ _) (fr_s hf_10 rfl)
                  · omega
                  · exact Bd9_n bd1 (fun a b d => by exfalso; have y9 := hst d; omega)
                · refine hK 90 [some (vR 106 0), some (vR 102 p), some (vI k), some (vR 102 k), none, none, none] [vR 102 p] T1 ?_
                  refine j_callV (y := yX2_rest) (Yc := zX2_rest) (rest := []) [] (ct_X2_rest (T := T1)) cl_X6_133 (qd_c (by decide +kernel)) (nn_ _) rfl (rf_of rfl) (Nat.le_of_ble_eq_true rfl) (Nat.le_of_ble_eq_true rfl) (Nat.le_of_ble_eq_true rfl) rfl ?_
                  rintro _ _ ⟨rfl, x26, rfl, hx26⟩
                  show J_ zX6_blockDays T (po_X6_blockDays_k T p) 0 0 93 _ [vI x26] T1
                  refine j_blx (F := fX6) tb_X6 (nn_ _) bk_X6_blockDays_93 bs_X6_blockDays_93 hz (fun K hK => ?_)
                  refine hK 94 _ [vR 102 k, vI x26] T1 ?_
                  refine j_callV (y := yX2_rest) (Yc := zX2_rest) (rest := [vI x26]) [] (ct_X2_rest (T := T1)) cl_X6_133 (qd_c (by decide +kernel)) (nn_ _) rfl (rf_of rfl) (Nat.le_of_ble_eq_true rfl) (Nat.le_of_ble_eq_true rfl) (Nat.le_of_ble_eq_true rfl) rfl ?_
                  rintro _ _ ⟨rfl, x27, rfl, hx27⟩
                  show J_ zX6_blockDays T (po_X6_blockDays_k T p) 0 0 97 _ [vI x27, vI x26] T1
                  obtain ⟨x28, e29, hx28⟩ : ∃ x28 : Int, (if x26 < x27 then x27 else x26) = x28 ∧ ((x28 = x26 ∨ x28 = x27) ∧ x26 ≤ x28 ∧ x27 ≤ x28) := ⟨_, rfl, by split <;> omega⟩
                  refine j_mx (pc := 97) (lw_b4 100 (by decide +kernel) rfl : Cond.methodLink RX6 136 Lib.Math.max.name ∈ lw_g) (lw_b4 101 (by decide +kernel) rfl : Cond.static Lib.Math.max.name ∈ lw_g) (lw_b1 17 (by decide +kernel) rfl : Cond.initialized "java/lang/Math" ∈ lw_g) (lw_b4 102 (by decide +kernel) rfl : Cond.code Lib.Math.max.name Lib.Math.max.code 2 (some .int) ∈ lw_g) (by decide +kernel) (by decide) (by decide) (by decide) (Nat.le_of_ble_eq_true rfl) ?_
                  rw [e29]
                  show J_ zX6_blockDays T (po_X6_blockDays_k T p) 0 0 100 _ [vI x28] T1
                  refine j_blx (F := fX6) tb_X6 (nn_ _) bk_X6_blockDays_100 bs_X6_blockDays_100 hz (fun K hK => ?_)
                  refine rg_i (by omega) ?_
                  intro b30 b30b
                  have e31 : T1 102 k 5 = T 102 k 5 := hf_10 102 k 5 rfl
                  rw [e31] at b30 b30b ⊢
                  refine rg_i (by omega) ?_
                  refine hK 114 [some (vR 106 0), some (vR 102 p), some (vI k), some (vR 102 k), some (vI (x28 - 1)), none, none] [vI ((T 102 k 5) + (x28 - 1)), vI 999] T1 ?_
                  obtain ⟨x32, e33, hx32⟩ : ∃ x32 : Int, (if ((T 102 k 5) + (x28 - 1)) < 999 then ((T 102 k 5) + (x28 - 1)) else 999) = x32 ∧ ((x32 = 999 ∨ x32 = (T 102 k 5) + (x28 - 1)) ∧ x32 ≤ 999 ∧ x32 ≤ (T 102 k 5) + (x28 - 1)) := ⟨_, rfl, by split <;> omega⟩
                  refine j_mn (pc := 114) (lw_b4 116 (by decide +kernel) rfl : Cond.methodLink RX6 156 Lib.Math.min.name ∈ lw_g) (lw_b4 117 (by decide +kernel) rfl : Cond.static Lib.Math.min.name ∈ lw_g) (lw_b1 17 (by decide +kernel) rfl : Cond.initialized "java/lang/Math" ∈ lw_g) (lw_b4 118 (by decide +kernel) rfl : Cond.code Lib.Math.min.name Lib.Math.min.code 2 (some .int) ∈ lw_g) (by decide +kernel) (by decide) (by decide) (by decide) (Nat.le_of_ble_eq_true rfl) ?_
                  rw [e33]
                  show J_ zX6_blockDays T (po_X6_blockDays_k T p) 0 0 117 _ [vI x32] T1
                  refine j_blx (F := fX6) tb_X6 (nn_ _) bk_X6_blockDays_117 bs_X6_blockDays_117 hz (fun K hK => ?_)
                  intro b34 b34b
                  have e35 : T1 102 k 5 = T 102 k 5 := hf_10 102 k 5 rfl
                  rw [e35] at b34 b34b ⊢
                  refine rg_i (by omega) ?_
                  refine hK 127 [some (vR 106 0), some (vR 102 p), some (vI k), some (vR 102 k), some (vI (x28 - 1)), some (vI x32), none] [vI ((T 102 k 5) - (x28 - 1)), vI 0] T1 ?_
                  obtain ⟨x36, e37, hx36⟩ : ∃ x36 : Int, (if 0 < ((T 102 k 5) - (x28 - 1)) then ((T 102 k 5) - (x28 - 1)) else 0) = x36 ∧ ((x36 = 0 ∨ x36 = (T 102 k 5) - (x28 - 1)) ∧ 0 ≤ x36 ∧ (T 102 k 5) - (x28 - 1) ≤ x36) := ⟨_, rfl, by split <;> omega⟩
                  refine j_mx (pc := 127) (lw_b4 100 (by decide +kernel) rfl : Cond.methodLink RX6 136 Lib.Math.max.name ∈ lw_g) (lw_b4 101 (by decide +kernel) rfl : Cond.static Lib.Math.max.name ∈ lw_g) (lw_b1 17 (by decide +kernel) rfl : Cond.initialized "java/lang/Math" ∈ lw_g) (lw_b4 102 (by decide +kernel) rfl : Cond.code Lib.Math.max.name Lib.Math.max.code 2 (some .int) ∈ lw_g) (by decide +kernel) (by decide) (by decide) (by decide) (Nat.le_of_ble_eq_true rfl) ?_
                  rw [e37]
                  show J_ zX6_blockDays T (po_X6_blockDays_k T p) 0 0 130 _ [vI x36] T1
                  refine j_blx (F := fX6) tb_X6 (nn_ _) bk_X6_blockDays_130 bs_X6_blockDays_130 hz (fun K hK => ?_)
                  refine hK 132 [some (vR 106 0), some (vR 102 p), some (vI k), some (vR 102 k), some (vI (x28 - 1)), some (vI x32), some (vI x36)] [] T1 ?_
                  refine j_drop [some (vR 106 0), some (vR 102 p), some (vI k), none, none, some (vI x32), some (vI x36)] (fun k v hk => ?_) rfl ?_
                  · match k, hk with
                    | 0, hk => exact hk
                    | 1, hk => exact hk
                    | 2, hk => exact hk
                    | 3, hk => cases hk
                    | 4, hk => cases hk
                    | 5, hk => exact hk
                    | 6, hk => exact hk
                    | k + 7, hk => cases hk
                  refine c_132 _ x32 x36 T1 (Nat.le_refl _) ?_ ?_ ?_
                  · exact fr_t (fr_0 _ _) (fr_s hf_10 rfl)
                  · omega
                  · exact Bd9_n bd1 (fun a b d => by exfalso; have y9 := hst d; omega)
              · intro b38 b38b
                have e39 : T1 102 k 5 = T 102 k 5 := hf_10 102 k 5 rfl
                rw [e39] at b38 b38b ⊢
                refine iy_i (by omega) (by omega) ?_
                refine x_nm (fun U40 hU40 => ?_)
                have e41 := up_f hU40
                refine hK 83 _ [vR 102 k, vR 102 p] U40 ?_
                refine j_callS (y := yX6_shareClub) (Yc := zX6_shareClub) (rest := []) [vR 102 p, vR 102 k] (ct_X6_shareClub (T := U40)) cl_X6_140 (qd_c (by decide +kernel)) (nn_ _) rfl (rf_of rfl) (Nat.le_of_ble_eq_true rfl) (Nat.le_of_ble_eq_true rfl) (Nat.le_of_ble_eq_true rfl) rfl ?_
                rintro _ _ ⟨rfl, x42, rfl, hx42⟩
                show J_ zX6_blockDays T (po_X6_blockDays_k T p) 0 0 86 _ [vI x42] U40
                refine j_blx (F := fX6) tb_X6 (nn_ _) bk_X6_blockDays_86 bs_X6_blockDays_86 hz (fun K hK => ?_)
                refine And.intro (fun c43 => ?_) (fun c43 => ?_)
                · refine hK 153 _ [] U40 ?_
                  refine j_blx (F := fX6) tb_X6 (nn_ _) bk_X6_blockDays_153 bs_X6_blockDays_153 hz (fun K hK => ?_)
                  refine rg_i (by omega) ?_
                  refine hK 10 [some (vR 106 0), some (vR 102 p), some (vI (k + 1)), some (vR 102 k), none, none, none] [] U40 ?_
                  refine j_drop [some (vR 106 0), some (vR 102 p), some (vI (k + 1)), none, none, none, none] (fun k v hk => ?_) rfl ?_
                  · match k, hk with
                    | 0, hk => exact hk
                    | 1, hk => exact hk
                    | 2, hk => exact hk
                    | 3, hk => cases hk
                    | 4, hk => cases hk
                    | 5, hk => cases hk
                    | 6, hk => cases hk
                    | k + 7, hk => cases hk
                  refine ih_10 _ ?_ (k + 1) U40 (Nat.le_refl _) ?_ ?_ ?_
                  · omega
                  · exact fr_u (fr_t (fr_0 _ _) (fr_s hf_10 rfl)) hU40 rfl
                  · omega
                  · exact Bd9_n (Bd9_u bd1 (up9_1 hU40)) (fun _ _ _ => up_f hU40)
                · refine hK 90 [some (vR 106 0), some (vR 102 p), some (vI k), some (vR 102 k), none, none, none] [vR 102 p] U40 ?_
                  refine j_callV (y := yX2_rest) (Yc := zX2_rest) (rest := []) [] (ct_X2_rest (T := U40)) cl_X6_133 (qd_c (by decide +kernel)) (nn_ _) rfl (rf_of rfl) (Nat.le_of_ble_eq_true rfl) (Nat.le_of_ble_eq_true rfl) (Nat.le_of_ble_eq_true rfl) rfl ?_
                  rintro _ _ ⟨rfl, x44, rfl, hx44⟩
                  show J_ zX6_blockDays T (po_X6_blockDays_k T p) 0 0 93 _ [vI x44] U40
                  refine j_blx (F := fX6) tb_X6 (nn_ _) bk_X6_blockDays_93 bs_X6_blockDays_93 hz (fun K hK => ?_)
                  refine hK 94 _ [vR 102 k, vI x44] U40 ?_
                  refine j_callV (y := yX2_rest) (Yc := zX2_rest) (rest := [vI x44]) [] (ct_X2_rest (T := U40)) cl_X6_133 (qd_c (by decide +kernel)) (nn_ _) rfl (rf_of rfl) (Nat.le_of_ble_eq_true rfl) (Nat.le_of_ble_eq_true rfl) (Nat.le_of_ble_eq_true rfl) rfl ?_
                  rintro _ _ ⟨rfl, x45, rfl, hx45⟩
                  show J_ zX6_blockDays T (po_X6_blockDays_k T p) 0 0 97 _ [vI x45, vI x44] U40
                  obtain ⟨x46, e47, hx46⟩ : ∃ x46 : Int, (if x44 < x45 then x45 else x44) = x46 ∧ ((x46 = x44 ∨ x46 = x45) ∧ x44 ≤ x46 ∧ x45 ≤ x46) := ⟨_, rfl, by split <;> omega⟩
                  refine j_mx (pc := 97) (lw_b4 100 (by decide +kernel) rfl : Cond.methodLink RX6 136 Lib.Math.max.name ∈ lw_g) (lw_b4 101 (by decide +kernel) rfl : Cond.static Lib.Math.max.name ∈ lw_g) (lw_b1 17 (by decide +kernel) rfl : Cond.initialized "java/lang/Math" ∈ lw_g) (lw_b4 102 (by decide +kernel) rfl : Cond.code Lib.Math.max.name Lib.Math.max.code 2 (some .int) ∈ lw_g) (by decide +kernel) (by decide) (by decide) (by decide) (Nat.le_of_ble_eq_true rfl) ?_
                  rw [e47]
                  show J_ zX6_blockDays T (po_X6_blockDays_k T p) 0 0 100 _ [vI x46] U40
                  refine j_blx (F := fX6) tb_X6 (nn_ _) bk_X6_blockDays_100 bs_X6_blockDays_100 hz (fun K hK => ?_)
                  refine rg_i (by omega) ?_
                  intro b48 b48b
                  have e49 : U40 102 k 5 = T 102 k 5 := (up_k hU40 (by exact Nat.ne_of_beq_eq_false rfl) k 5).trans (hf_10 102 k 5 rfl)
                  rw [e49] at b48 b48b ⊢
                  refine rg_i (by omega) ?_
                  refine hK 114 [some (vR 106 0), some (vR 102 p), some (vI k), some (vR 102 k), some (vI (x46 - 1)), none, none] [vI ((T 102 k 5) + (x46 - 1)), vI 999] U40 ?_
                  obtain ⟨x50, e51, hx50⟩ : ∃ x50 : Int, (if ((T 102 k 5) + (x46 - 1)) < 999 then ((T 102 k 5) + (x46 - 1)) else 999) = x50 ∧ ((x50 = 999 ∨ x50 = (T 102 k 5) + (x46 - 1)) ∧ x50 ≤ 999 ∧ x50 ≤ (T 102 k 5) + (x46 - 1)) := ⟨_, rfl, by split <;> omega⟩
                  refine j_mn (pc := 114) (lw_b4 116 (by decide +kernel) rfl : Cond.methodLink RX6 156 Lib.Math.min.name ∈ lw_g) (lw_b4 117 (by decide +kernel) rfl : Cond.static Lib.Math.min.name ∈ lw_g) (lw_b1 17 (by decide +kernel) rfl : Cond.initialized "java/lang/Math" ∈ lw_g) (lw_b4 118 (by decide +kernel) rfl : Cond.code Lib.Math.min.name Lib.Math.min.code 2 (some .int) ∈ lw_g) (by decide +kernel) (by decide) (by decide) (by decide) (Nat.le_of_ble_eq_true rfl) ?_
                  rw [e51]
                  show J_ zX6_blockDays T (po_X6_blockDays_k T p) 0 0 117 _ [vI x50] U40
                  refine j_blx (F := fX6) tb_X6 (nn_ _) bk_X6_blockDays_117 bs_X6_blockDays_117 hz (fun K hK => ?_)
                  intro b52 b52b
                  have e53 : U40 102 k 5 = T 102 k 5 := (up_k hU40 (by exact Nat.ne_of_beq_eq_false rfl) k 5).trans (hf_10 102 k 5 rfl)
                  rw [e53] at b52 b52b ⊢
                  refine rg_i (by omega) ?_
                  refine hK 127 [some (vR 106 0), some (vR 102 p), some (vI k), some (vR 102 k), some (vI (x46 - 1)), some (vI x50), none] [vI ((T 102 k 5) - (x46 - 1)), vI 0] U40 ?_
                  obtain ⟨x54, e55, hx54⟩ : ∃ x54 : Int, (if 0 < ((T 102 k 5) - (x46 - 1)) then ((T 102 k 5) - (x46 - 1)) else 0) = x54 ∧ ((x54 = 0 ∨ x54 = (T 102 k 5) - (x46 - 1)) ∧ 0 ≤ x54 ∧ (T 102 k 5) - (x46 - 1) ≤ x54) := ⟨_, rfl, by split <;> omega⟩
                  refine j_mx (pc := 127) (lw_b4 100 (by decide +kernel) rfl : Cond.methodLink RX6 136 Lib.Math.max.name ∈ lw_g) (lw_b4 101 (by decide +kernel) rfl : Cond.static Lib.Math.max.name ∈ lw_g) (lw_b1 17 (by decide +kernel) rfl : Cond.initialized "java/lang/Math" ∈ lw_g) (lw_b4 102 (by decide +kernel) rfl : Cond.code Lib.Math.max.name Lib.Math.max.code 2 (some .int) ∈ lw_g) (by decide +kernel) (by decide) (by decide) (by decide) (Nat.le_of_ble_eq_true rfl) ?_
                  rw [e55]
                  show J_ zX6_blockDays T (po_X6_blockDays_k T p) 0 0 130 _ [vI x54] U40
                  refine j_blx (F := fX6) tb_X6 (nn_ _) bk_X6_blockDays_130 bs_X6_blockDays_130 hz (fun K hK => ?_)
                  refine hK 132 [some (vR 106 0), some (vR 102 p), some (vI k), some (vR 102 k), some (vI (x46 - 1)), some (vI x50), some (vI x54)] [] U40 ?_
                  refine j_drop [some (vR 106 0), some (vR 102 p), some (vI k), none, none, some (vI x50), some (vI x54)] (fun k v hk => ?_) rfl ?_
                  · match k, hk with
                    | 0, hk => exact hk
                    | 1, hk => exact hk
                    | 2, hk => exact hk
                    | 3, hk => cases hk
                    | 4, hk => cases hk
                    | 5, hk => exact hk
                    | 6, hk => exact hk
                    | k + 7, hk => cases hk
                  refine c_132 _ x50 x54 U40 (Nat.le_refl _) ?_ ?_ ?_
                  · exact fr_u (fr_t (fr_0 _ _) (fr_s hf_10 rfl)) hU40 rfl
                  · omega
                  · exact Bd9_n (Bd9_u bd1 (up9_1 hU40)) (fun _ _ _ => up_f hU40)
            · refine hK 153 _ [] T1 ?_
              refine j_blx (F := fX6) tb_X6 (nn_ _) bk_X6_blockDays_153 bs_X6_blockDays_153 hz (fun K hK => ?_)
              refine rg_i (by omega) ?_
              refine hK 10 [some (vR 106 0), some (vR 102 p), some (vI (k + 1)), some (vR 102 k), none, none, none] [] T1 ?_
              refine j_drop [some (vR 106 0), some (vR 102 p), some (vI (k + 1)), none, none, none, none] (fun k v hk => ?_) rfl ?_
              · match k, hk with
                | 0, hk => exact hk
                | 1, hk => exact hk
                | 2, hk => exact hk
                | 3, hk => cases hk
                | 4, hk => cases hk
                | 5, hk => cases hk
                | 6, hk => cases hk
                | k + 7, hk => cases hk
              refine ih_10 _ ?_ (k + 1) T1 (Nat.le_refl _) ?_ ?_ ?_
              · omega
              · exact fr_t (fr_0 _ _) (fr_s hf_10 rfl)
              · omega
              · exact Bd9_n bd1 (fun a b d => by exfalso; have y9 := hst d; omega)
  refine j_blx (F := fX6) tb_X6 (nn_ _) bk_X6_blockDays_0 bs_X6_blockDays_0 hz (fun K hK => ?_)
  refine hK 5 _ [vI 0, vR 535 0] T ?_
  refine j_callS (y := yJ7_fill_53178) (Yc := zJ7_fill_53178) (rest := []) [vR 535 0, vI 0] (ct_J7_fill_535 (T := T) (by omega)) cl_X6_150 (qd_c (by decide +kernel)) (nn_ _) rfl (rf_of rfl) (Nat.le_of_ble_eq_true rfl) (Nat.le_of_ble_eq_true rfl) (Nat.le_of_ble_eq_true rfl) rfl ?_
  rintro U56 _ ⟨rfl, fU56, qU56o, qU56⟩
  show J_ zX6_blockDays T (po_X6_blockDays_k T p) 0 0 8 _ [] U56
  refine j_blx (F := fX6) tb_X6 (nn_ _) bk_X6_blockDays_8 bs_X6_blockDays_8 hz (fun K hK => ?_)
  refine hK 10 [some (vR 106 0), some (vR 102 p), some (vI 0), none, none, none, none] [] U56 ?_
  refine c_10 _ 0 U56 (Nat.le_refl _) ?_ ?_ ?_
  · exact fr_t (fr_0 _ _) (fr_s fU56 rfl)
  · omega
  · exact fun x a b => by omega
abbrev po_X6_goBehind_k (T : Zt) (p : Int) (d k : Int) : Zt → Option Zv → Prop := fun T' r => ∃ x : Int, r = some (vI x) ∧ fr_ [(535, []), (534, []), (102, [5])] T T' ∧ ((x = 0 ∧ (∀ i j, T' 102 i j = T 102 i j) ∧ ∀ j, T' 534 0 j = T 534 0 j) ∨ (x = 1 ∧ GB9_ T T' p k))
set_option maxHeartbeats 4000000 in
theorem ct_X6_goBehind_k {T : Zt} {p : Int} {d k : Int} (hka : KA_ T) (hkm : KM_ T) (hp : 0 ≤ p ∧ p < T 106 0 4) (hd : 0 ≤ d ∧ d ≤ 999) (hk : 0 ≤ k ∧ k < 400) : Ct_ yX6_goBehind zX6_goBehind T [vR 106 0, vR 102 p, vI d, vI k] (po_X6_goBehind_k T p d k) := by
  refine ct_of pn_6 rfl rfl (Nat.le_of_ble_eq_true rfl) (fun hT hav => ?_)
  have hr_d : -2147483648 ≤ d ∧ d ≤ 2147483647 := hav (vI d) (by simp)
  have hr_k : -2147483648 ≤ k ∧ k ≤ 2147483647 := hav (vI k) (by simp)
  have hz : zX6_goBehind.2.2.2.1 = some .boolean → ∀ (T' : Zt) (x : Int), po_X6_goBehind_k T p d k T' (some (vI x)) → 0 ≤ x ∧ x ≤ 1 := fun _ T' x h => by obtain ⟨y, e, -, hy⟩ := h; cases e; rcases hy with ⟨z, -⟩ | ⟨z, -⟩ <;> omega
  have hb_matchCount : 0 ≤ T 106 0 4 ∧ T 106 0 4 ≤ 400 := bd_f hT 106 4 (by decide +kernel : (tf_ 106)[4]? = some (0, 0, 0, 400)) 0
  show J_ zX6_goBehind T (po_X6_goBehind_k T p d k) 0 0 0 [some (vR 106 0), some (vR 102 p), some (vI d), some (vI k), none] [] T
  have c_10 : ∀ (nn : Nat) (i : Int) (T1 : Zt), ((1000 - i).toNat) ≤ nn → (fr_ [(535, [])] T T1) → (0 ≤ i) → (Bd9_ (T1 535 0) T p (T 106 0 4)) → J_ zX6_goBehind T (po_X6_goBehind_k T p d k) 0 0 10 [some (vR 106 0), some (vR 102 p), some (vI d), some (vI k), some (vI i)] [] T1 := by
    intro nn
    induction nn using Nat.strongRecOn with
    | _ nn ih_10 =>
      intro i T1 hm_10 hf_10 i1 bd1
      refine j_blx (F := fX6) tb_X6 (nn_ _) bk_X6_goBehind_10 bs_X6_goBehind_10 hz (fun K hK => ?_)
      refine And.intro (fun c1 => ?_) (fun c1 => ?_)
      · refine hK 52 _ [] T1 ?_
        refine j_blx (F := fX6) tb_X6 (nn_ _) bk_X6_goBehind_52 bs_X6_goBehind_52 hz (fun K hK => ?_)
        refine (show po_X6_goBehind_k T p d k T1 (some (vI 0)) from ?_)
        exact ⟨_, rfl, fr_t (fr_0 _ _) (fr_s hf_10 rfl), Or.inl ⟨rfl, fun i j => hf_10 102 i j rfl, fun j => hf_10 534 0 j rfl⟩⟩
      · refine ix_i (by omega) ?_
        intro b2 b2b
        refine And.intro (fun c3 => ?_) (fun c3 => ?_)
        · refine hK 46 _ [] T1 ?_
          refine j_blx (F := fX6) tb_X6 (nn_ _) bk_X6_goBehind_46 bs_X6_goBehind_46 hz (fun K hK => ?_)
          refine rg_i (by omega) ?_
          refine hK 10 [some (vR 106 0), some (vR 102 p), some (vI d), some (vI k), some (vI (i + 1))] [] T1 ?_
          refine ih_10 _ ?_ (i + 1) T1 (Nat.le_refl _) ?_ ?_ ?_
          · omega
          · exact fr_t (fr_0 _ _) (fr_s hf_10 rfl)
          · omega
          · exact bd1
        · intro b4 b4b
          have e5 : T1 102 p 5 = T 102 p 5 := hf_10 102 p 5 rfl
          rw [e5] at b4 b4b ⊢
          refine iy_i (by omega) (by omega) ?_
          refine x_nm (fun U6 hU6 => ?_)
          have e7 := up_f hU6
          refine bd_i (by omega) ?_
          refine x_nm (fun U8 hU8 => ?_)
          have e9 := up_f hU8
          refine (show po_X6_goBehind_k T p d k U8 (some (vI 1)) from ?_)
          have k1 : ∀ i j, T1 102 i j = T 102 i j := fun i j => hf_10 102 i j rfl
          refine ⟨_, rfl, fr_u (fr_u (fr_t (fr_0 _ _) (fr_s hf_10 rfl)) hU6 rfl) hU8 rfl, Or.inr ⟨rfl, fun x a b c d e => ?_, fun i j h => (up_g hU8 (fun z => h ⟨z.2.1, z.2.2⟩)).trans ((up_k hU6 (by exact Nat.ne_of_beq_eq_false rfl) _ _).trans (k1 i j)), (up_k hU8 (by exact Nat.ne_of_beq_eq_false rfl) _ _).trans (up_f hU6), fun j hj => (up_k hU8 (by exact Nat.ne_of_beq_eq_false rfl) _ _).trans ((up_g hU6 (fun z => hj z.2.2)).trans (hf_10 534 0 j rfl))⟩⟩
          rw [up_f hU8]
          intro q
          have y1 := bd1 x a b c d e
          rw [← q] at y1
          omega
  refine j_blx (F := fX6) tb_X6 (nn_ _) bk_X6_goBehind_0 bs_X6_goBehind_0 hz (fun K hK => ?_)
  refine hK 2 _ [vR 102 p, vR 106 0] T ?_
  refine j_callV (y := yX6_blockDays) (Yc := zX6_blockDays) (rest := []) [vR 102 p] (ct_X6_blockDays_k (T := T) hka hkm hp) cl_X6_146 (qd_c (by decide +kernel)) (nn_ _) rfl (rf_of rfl) (Nat.le_of_ble_eq_true rfl) (Nat.le_of_ble_eq_true rfl) (Nat.le_of_ble_eq_true rfl) rfl ?_
  rintro U10 _ ⟨rfl, fU10, qU10⟩
  show J_ zX6_goBehind T (po_X6_goBehind_k T p d k) 0 0 5 _ [] U10
  refine j_blx (F := fX6) tb_X6 (nn_ _) bk_X6_goBehind_5 bs_X6_goBehind_5 hz (fun K hK => ?_)
  refine rg_i (by omega) ?_
  refine hK 10 [some (vR 106 0), some (vR 102 p), some (vI d), some (vI k), some (vI (d + 1))] [] U10 ?_
  refine c_10 _ (d + 1) U10 (Nat.le_refl _) ?_ ?_ ?_
  · exact fr_t (fr_0 _ _) (fr_s fU10 rfl)
  · omega
  · exact qU10
abbrev po_X6_putOff_k (T : Zt) (p : Int) (d : Int) : Zt → Option Zv → Prop := fun T' r => ∃ x : Int, r = some (vI x) ∧ fr_ [(535, []), (534, []), (102, [5]), (533, []), (531, []), (106, [12])] T T' ∧ (DD_ T')
set_option maxHeartbeats 4000000 in
theorem ct_X6_putOff_k {T : Zt} {p : Int} {d : Int} (hka : KA_ T) (hkm : KM_ T) (hp : 0 ≤ p ∧ p < T 106 0 4) (hd : 0 ≤ d ∧ d ≤ 999) (hdd : DD_ T) : Ct_ yX6_putOff zX6_putOff T [vR 106 0, vR 102 p, vI d] (po_X6_putOff_k T p d) := by
  refine ct_of pn_6 rfl rfl (Nat.le_of_ble_eq_true rfl) (fun hT hav => ?_)
  have hr_d : -2147483648 ≤ d ∧ d ≤ 2147483647 := hav (vI d) (by simp)
  have hz : zX6_putOff.2.2.2.1 = some .boolean → ∀ (T' : Zt) (x : Int), po_X6_putOff_k T p d T' (some (vI x)) → 0 ≤ x ∧ x ≤ 1 := fun h => by cases h
  have hb_matchCount : 0 ≤ T 106 0 4 ∧ T 106 0 4 ≤ 400 := bd_f hT 106 4 (by decide +kernel : (tf_ 106)[4]? = some (0, 0, 0, 400)) 0
  have hdt : 0 ≤ T 102 p 5 ∧ T 102 p 5 ≤ 999 := bd_f hT 102 5 (by decide +kernel : (tf_ 102)[5]? = some (0, 0, 0, 999)) p
  show J_ zX6_putOff T (po_X6_putOff_k T p d) 0 0 0 [some (vR 106 0), some (vR 102 p), some (vI d), none, none, none, none] [] T
  have c_71 : ∀ (nn : Nat) (n : Int) (g : Int) (i : Int) (T2 : Zt), ((400 - i).toNat) ≤ nn → (fr_ [(535, []), (534, []), (102, [5]), (533, []), (531, []), (106, [12])] T T2) → (0 ≤ i ∧ g ≤ n + 1 ∧ n ≤ 400 ∧ (g ≤ n ∨ g ≤ 0) ∧ (0 ≤ g)) → (LZ9_ (T2 533 0) (T 106 0 4) p n 400) → (RV9_ T T2 p g i) → J_ zX6_putOff T (po_X6_putOff_k T p d) 0 0 71 [some (vR 106 0), some (vR 102 p), some (vI d), some (vI (T 102 p 5)), some (vI n), some (vI g), some (vI i)] [] T2 := by
    intro nn
    induction nn using Nat.strongRecOn with
    | _ nn ih_71 =>
      intro n g i T2 hm_71 hf_71 i2 lz2 rv2
      refine j_blx (F := fX6) tb_X6 (nn_ _) bk_X6_putOff_71 bs_X6_putOff_71 hz (fun K hK => ?_)
      refine And.intro (fun c1 => ?_) (fun c1 => ?_)
      · refine hK 106 _ [] T2 ?_
        refine j_blx (F := fX6) tb_X6 (nn_ _) bk_X6_putOff_106 bs_X6_putOff_106 hz (fun K hK => ?_)
        refine bd_i (by omega) ?_
        refine x_nm (fun U2 hU2 => ?_)
        have e3 := up_f hU2
        refine (show po_X6_putOff_k T p d U2 (some (vI (-4))) from ?_)
        have y7 : U2 106 0 4 = T 106 0 4 := (up_k hU2 (by exact Nat.ne_of_beq_eq_false rfl) _ _).trans (hf_71 106 0 4 rfl)
        exact ⟨_, rfl, fr_u (fr_t (fr_0 _ _) (fr_s hf_71 rfl)) hU2 rfl, rv9_e hdd rv2 (by omega) hU2 y7⟩
      · refine ix_i (by omega) ?_
        intro b4 b4b
        refine ix_i (by omega) ?_
        have e6 : T2 523 0 (T2 533 0 i) = T 523 0 (T2 533 0 i) := hf_71 523 0 (T2 533 0 i) rfl
        refine And.intro (fun c5 => ?_) (fun c5 => ?_)
        · have y9 := lz2.1 i (by omega) (by omega)
          exact absurd (show T 523 0 (T2 533 0 i) = 0 by omega) (hka.2 _ (by omega) (by omega))
        · refine ix_i (by omega) ?_
          intro b7 b7b
          refine bd_i (by omega) ?_
          refine x_nm (fun U8 hU8 => ?_)
          have e9 := up_f hU8
          refine rg_i (by omega) ?_
          refine hK 71 [some (vR 106 0), some (vR 102 p), some (vI d), some (vI (T 102 p 5)), some (vI n), some (vI g), some (vI (i + 1))] [] U8 ?_
          refine ih_71 _ ?_ n g (i + 1) U8 (Nat.le_refl _) ?_ ?_ ?_ ?_
          · omega
          · exact fr_u (fr_t (fr_0 _ _) (fr_s hf_71 rfl)) hU8 rfl
          · omega
          · rw [show U8 533 0 = T2 533 0 from funext fun j => up_k hU8 (by exact Nat.ne_of_beq_eq_false rfl) _ _]; exact lz2
          · exact rv9_s rv2 (by omega) hU8
  have c_117 : ∀ (nn : Nat) (n : Int) (g : Int) (i : Int) (T3 : Zt), ((400 - i).toNat) ≤ nn → (fr_ [(535, []), (534, []), (102, [5]), (533, []), (531, []), (106, [12])] T T3) → (0 ≤ i ∧ 0 ≤ n ∧ n ≤ 400) → (DD_ T3) → J_ zX6_putOff T (po_X6_putOff_k T p d) 0 0 117 [some (vR 106 0), some (vR 102 p), some (vI d), some (vI (T 102 p 5)), some (vI n), some (vI g), some (vI i)] [] T3 := by
    intro nn
    induction nn using Nat.strongRecOn with
    | _ nn ih_117 =>
      intro n g i T3 hm_117 hf_117 i3 dd3
      refine j_blx (F := fX6) tb_X6 (nn_ _) bk_X6_putOff_117 bs_X6_putOff_117 hz (fun K hK => ?_)
      refine And.intro (fun c10 => ?_) (fun c10 => ?_)
      · refine hK 144 _ [] T3 ?_
        refine j_blx (F := fX6) tb_X6 (nn_ _) bk_X6_putOff_144 bs_X6_putOff_144 hz (fun K hK => ?_)
        refine bd_i (by omega) ?_
        refine x_nm (fun U11 hU11 => ?_)
        have e12 := up_f hU11
        refine (show po_X6_putOff_k T p d U11 (some (vI n)) from ?_)
        exact ⟨_, rfl, fr_u (fr_t (fr_0 _ _) (fr_s hf_117 rfl)) hU11 rfl, DD__f dd3 (show fr_ [(106, [12])] T3 U11 from fr_u (fr_0 _ _) hU11 rfl) ⟨rfl, rfl, rfl, rfl, rfl, trivial⟩⟩
      · refine ix_i (by omega) ?_
        intro b13 b13b
        refine iy_i (by omega) (by omega) ?_
        refine x_nm (fun U14 hU14 => ?_)
        have e15 := up_f hU14
        refine rg_i (by omega) ?_
        refine hK 117 [some (vR 106 0), some (vR 102 p), some (vI d), some (vI (T 102 p 5)), some (vI n), some (vI g), some (vI (i + 1))] [] U14 ?_
        refine ih_117 _ ?_ n g (i + 1) U14 (Nat.le_refl _) ?_ ?_ ?_
        · omega
        · exact fr_u (fr_t (fr_0 _ _) (fr_s hf_117 rfl)) hU14 rfl
        · omega
        · exact DD__f dd3 (show fr_ [(531, [])] T3 U14 from fr_u (fr_0 _ _) hU14 rfl) ⟨rfl, rfl, rfl, rfl, rfl, trivial⟩
  have c_20 : ∀ (nn : Nat) (n : Int) (g : Int) (T1 : Zt), ((400 - g).toNat) ≤ nn → (fr_ [(535, []), (534, []), (102, [5]), (533, []), (531, []), (106, [12])] T T1) → (0 ≤ g ∧ -1 ≤ n ∧ n ≤ 400 ∧ (g ≤ n ∨ g = 0)) → (LZ9_ (T1 533 0) (T 106 0 4) p n 400) → (PO9_ T T1 p d n g) → J_ zX6_putOff T (po_X6_putOff_k T p d) 0 0 20 [some (vR 106 0), some (vR 102 p), some (vI d), some (vI (T 102 p 5)), some (vI n), some (vI g), none] [] T1 := by
    intro nn
    induction nn using Nat.strongRecOn with
    | _ nn ih_20 =>
      intro n g T1 hm_20 hf_20 i1 lz1 po1
      refine j_blx (F := fX6) tb_X6 (nn_ _) bk_X6_putOff_20 bs_X6_putOff_20 hz (fun K hK => ?_)
      refine And.intro (fun c16 => ?_) (fun c16 => ?_)
      · refine hK 55 _ [] T1 ?_
        refine j_blx (F := fX6) tb_X6 (nn_ _) bk_X6_putOff_55 bs_X6_putOff_55 hz (fun K hK => ?_)
        refine And.intro (fun c17 => ?_) (fun c17 => ?_)
        · refine hK 68 _ [] T1 ?_
          refine j_blx (F := fX6) tb_X6 (nn_ _) bk_X6_putOff_68 bs_X6_putOff_68 hz (fun K hK => ?_)
          refine hK 71 [some (vR 106 0), some (vR 102 p), some (vI d), some (vI (T 102 p 5)), some (vI n), some (vI g), some (vI 0)] [] T1 ?_
          refine c_71 _ n g 0 T1 (Nat.le_refl _) ?_ ?_ ?_ ?_
          · exact fr_t (fr_0 _ _) (fr_s hf_20 rfl)
          · omega
          · exact lz1
          · exact rv9_0 po1
        · refine And.intro (fun c18 => ?_) (fun c18 => ?_)
          · refine hK 114 [some (vR 106 0), some (vR 102 p), some (vI d), some (vI (T 102 p 5)), some (vI n), some (vI g), none] [] T1 ?_
            refine j_blx (F := fX6) tb_X6 (nn_ _) bk_X6_putOff_114 bs_X6_putOff_114 hz (fun K hK => ?_)
            refine hK 117 [some (vR 106 0), some (vR 102 p), some (vI d), some (vI (T 102 p 5)), some (vI n), some (vI g), some (vI 0)] [] T1 ?_
            refine c_117 _ n g 0 T1 (Nat.le_refl _) ?_ ?_ ?_
            · exact fr_t (fr_0 _ _) (fr_s hf_20 rfl)
            · omega
            · exact po9_e po1 (by omega) (by omega) (hf_20 106 0 4 rfl)
          · refine hK 71 _ [] T1 ?_
            refine c_71 _ n g 0 T1 (Nat.le_refl _) ?_ ?_ ?_ ?_
            · exact fr_t (fr_0 _ _) (fr_s hf_20 rfl)
            · omega
            · exact lz1
            · exact rv9_0 po1
      · refine ix_i (by omega) ?_
        intro b19 b19b
        refine ix_i (by omega) ?_
        have e21 : T1 523 0 (T1 533 0 g) = T 523 0 (T1 533 0 g) := hf_20 523 0 (T1 533 0 g) rfl
        refine And.intro (fun c20 => ?_) (fun c20 => ?_)
        · have y9 := lz1.1 g (by omega) (by omega)
          exact absurd (show T 523 0 (T1 533 0 g) = 0 by omega) (hka.2 _ (by omega) (by omega))
        · refine hK 43 _ [vI g, vI d, vR 102 (T1 533 0 g), vR 106 0] T1 ?_
          have e22 : T1 106 0 4 = T 106 0 4 := hf_20 106 0 4 rfl
          have y5 := lz1.1 g (by omega) (by omega)
          refine j_callV (y := yX6_goBehind) (Yc := zX6_goBehind) (rest := []) [vR 102 (T1 533 0 g), vI d, vI g] (ct_X6_goBehind_k (T := T1) (KA__f hka hf_20 ⟨fun _ => rfl, fun _ => rfl, rfl, rfl, trivial⟩) (KM__f hkm hf_20 ⟨rfl, rfl, rfl, rfl, trivial⟩) (by omega) (by omega) (by omega)) cl_X6_102 (qd_c (by decide +kernel)) (nn_ _) rfl (rf_of rfl) (Nat.le_of_ble_eq_true rfl) (Nat.le_of_ble_eq_true rfl) (Nat.le_of_ble_eq_true rfl) rfl ?_
          rintro U23 _ ⟨x24, rfl, fU23, qU23⟩
          show J_ zX6_putOff T (po_X6_putOff_k T p d) 0 0 46 _ [vI x24] U23
          refine j_blx (F := fX6) tb_X6 (nn_ _) bk_X6_putOff_46 bs_X6_putOff_46 hz (fun K hK => ?_)
          refine And.intro (fun c25 => ?_) (fun c25 => ?_)
          · refine hK 55 _ [] U23 ?_
            refine j_blx (F := fX6) tb_X6 (nn_ _) bk_X6_putOff_55 bs_X6_putOff_55 hz (fun K hK => ?_)
            refine And.intro (fun c26 => ?_) (fun c26 => ?_)
            · refine hK 68 _ [] U23 ?_
              refine j_blx (F := fX6) tb_X6 (nn_ _) bk_X6_putOff_68 bs_X6_putOff_68 hz (fun K hK => ?_)
              refine hK 71 [some (vR 106 0), some (vR 102 p), some (vI d), some (vI (T 102 p 5)), some (vI n), some (vI g), some (vI 0)] [] U23 ?_
              refine c_71 _ n g 0 U23 (Nat.le_refl _) ?_ ?_ ?_ ?_
              · exact fr_t (fr_t (fr_0 _ _) (fr_s hf_20 rfl)) (fr_s fU23 rfl)
              · omega
              · rw [show U23 533 0 = T1 533 0 from funext fun j => fU23 533 0 j rfl]; exact lz1
              · have y1 := rv9_0 po1
                rcases qU23 with ⟨-, z1, z2⟩ | ⟨z, -⟩
                · refine ⟨fun a j h => (z1 a j).trans (y1.1 a j h), fun x h h2 => (z1 x 5).trans (y1.2.1 x h (fun j a b => by rw [← fU23 533 0 j rfl]; exact h2 j a b)), fun j a b => ?_⟩
                  rw [z2 j, fU23 533 0 j rfl]; exact y1.2.2 j a b
                · omega
            · refine And.intro (fun c27 => ?_) (fun c27 => ?_)
              · refine hK 114 [some (vR 106 0), some (vR 102 p), some (vI d), some (vI (T 102 p 5)), some (vI n), some (vI g), none] [] U23 ?_
                refine j_blx (F := fX6) tb_X6 (nn_ _) bk_X6_putOff_114 bs_X6_putOff_114 hz (fun K hK => ?_)
                refine hK 117 [some (vR 106 0), some (vR 102 p), some (vI d), some (vI (T 102 p 5)), some (vI n), some (vI g), some (vI 0)] [] U23 ?_
                refine c_117 _ n g 0 U23 (Nat.le_refl _) ?_ ?_ ?_
                · exact fr_t (fr_t (fr_0 _ _) (fr_s hf_20 rfl)) (fr_s fU23 rfl)
                · omega
                · rcases qU23 with ⟨z, -⟩ | ⟨z, -⟩ <;> omega
              · refine hK 71 _ [] U23 ?_
                refine c_71 _ n g 0 U23 (Nat.le_refl _) ?_ ?_ ?_ ?_
                · exact fr_t (fr_t (fr_0 _ _) (fr_s hf_20 rfl)) (fr_s fU23 rfl)
                · omega
                · rw [show U23 533 0 = T1 533 0 from funext fun j => fU23 533 0 j rfl]; exact lz1
                · have y1 := rv9_0 po1
                  rcases qU23 with ⟨-, z1, z2⟩ | ⟨z, -⟩
                  · refine ⟨fun a j h => (z1 a j).trans (y1.1 a j h), fun x h h2 => (z1 x 5).trans (y1.2.1 x h (fun j a b => by rw [← fU23 533 0 j rfl]; exact h2 j a b)), fun j a b => ?_⟩
                    rw [z2 j, fU23 533 0 j rfl]; exact y1.2.2 j a b
                  · omega
          · refine rg_i (by omega) ?_
            refine hK 20 [some (vR 106 0), some (vR 102 p), some (vI d), some (vI (T 102 p 5)), some (vI n), some (vI (g + 1)), none] [] U23 ?_
            refine ih_20 _ ?_ n (g + 1) U23 (Nat.le_refl _) ?_ ?_ ?_ ?_
            · omega
            · exact fr_t (fr_t (fr_0 _ _) (fr_s hf_20 rfl)) (fr_s fU23 rfl)
            · omega
            · rw [show U23 533 0 = T1 533 0 from funext fun j => fU23 533 0 j rfl]; exact lz1
            · exact po9_s po1 lz1 (by omega) (hf_20 106 0 4 rfl) (by rcases qU23 with ⟨z, -⟩ | ⟨-, z⟩; omega; exact z) (fun j => fU23 533 0 j rfl)
  refine j_blx (F := fX6) tb_X6 (nn_ _) bk_X6_putOff_0 bs_X6_putOff_0 hz (fun K hK => ?_)
  intro b28 b28b
  refine bd_i (by omega) ?_
  refine x_nm (fun U29 hU29 => ?_)
  have e30 := up_f hU29
  refine hK 12 [some (vR 106 0), some (vR 102 p), some (vI d), some (vI (T 102 p 5)), none, none, none] [vR 102 p, vR 106 0] U29 ?_
  have e31 : U29 106 0 4 = T 106 0 4 := up_k hU29 (by exact Nat.ne_of_beq_eq_false rfl) 0 4
  refine j_callV (y := yX6_listAgainst) (Yc := zX6_listAgainst) (rest := []) [vR 102 p] (ct_X6_listAgainst_k (T := U29) (KA__f hka (show fr_ [(102, [5])] T U29 from fr_u (fr_0 _ _) hU29 rfl) ⟨fun _ => rfl, fun _ => rfl, rfl, rfl, trivial⟩) (KM__f hkm (show fr_ [(102, [5])] T U29 from fr_u (fr_0 _ _) hU29 rfl) ⟨rfl, rfl, rfl, rfl, trivial⟩) (by omega)) cl_X6_98 (qd_c (by decide +kernel)) (nn_ _) rfl (rf_of rfl) (Nat.le_of_ble_eq_true rfl) (Nat.le_of_ble_eq_true rfl) (Nat.le_of_ble_eq_true rfl) rfl ?_
  rintro U32 _ ⟨x33, rfl, fU32, nU32, zU32, eU32l⟩
  show J_ zX6_putOff T (po_X6_putOff_k T p d) 0 0 15 _ [vI x33] U32
  refine j_blx (F := fX6) tb_X6 (nn_ _) bk_X6_putOff_15 bs_X6_putOff_15 hz (fun K hK => ?_)
  refine hK 20 [some (vR 106 0), some (vR 102 p), some (vI d), some (vI (T 102 p 5)), some (vI x33), some (vI 0), none] [] U32 ?_
  refine c_20 _ x33 0 U32 (Nat.le_refl _) ?_ ?_ ?_ ?_
  · exact fr_t (fr_u (fr_0 _ _) hU29 rfl) (fr_s fU32 rfl)
  · omega
  · rw [show T 106 0 4 = U29 106 0 4 from (up_k hU29 (by exact Nat.ne_of_beq_eq_false rfl) _ _).symm]; exact zU32
  · exact po9_0 hdd hU29 fU32 eU32l
abbrev po_X10_postpone_k (T : Zt) (m d : Int) : Zt → Option Zv → Prop := fun T' r => ∃ x : Int, r = some (vI x) ∧ fr_ [(535, []), (534, []), (102, [5]), (533, []), (531, []), (106, [12])] T T' ∧ (DD_ T')
set_option maxHeartbeats 4000000 in
theorem ct_X10_postpone_k {T : Zt} {m d : Int} (hka : KA_ T) (hkm : KM_ T) (hdd : DD_ T) : Ct_ yX10_postpone zX10_postpone T [vR 110 0, vI m, vI d] (po_X10_postpone_k T m d) := by
  refine ct_of pn_10 rfl rfl (Nat.le_of_ble_eq_true rfl) (fun hT hav => ?_)
  have hr_m : -2147483648 ≤ m ∧ m ≤ 2147483647 := hav (vI m) (by simp)
  have hr_d : -2147483648 ≤ d ∧ d ≤ 2147483647 := hav (vI d) (by simp)
  have hz : zX10_postpone.2.2.2.1 = some .boolean → ∀ (T' : Zt) (x : Int), po_X10_postpone_k T m d T' (some (vI x)) → 0 ≤ x ∧ x ≤ 1 := fun h => by cases h
  have hb_matchCount : 0 ≤ T 106 0 4 ∧ T 106 0 4 ≤ 400 := bd_f hT 106 4 (by decide +kernel : (tf_ 106)[4]? = some (0, 0, 0, 400)) 0
  show J_ zX10_postpone T (po_X10_postpone_k T m d) 0 0 0 [some (vR 110 0), some (vI m), some (vI d), none] [] T
  refine j_blx (F := fX10) tb_X10 (nn_ _) bk_X10_postpone_0 bs_X10_postpone_0 hz (fun K hK => ?_)
  refine hK 2 _ [vI m, vR 110 0] T ?_
  refine j_callV (y := yX10_isMatch) (Yc := zX10_isMatch) (rest := []) [vI m] (ct_X10_isMatch (T := T)) cl_X10_195 (qd_c (by decide +kernel)) (nn_ _) rfl (rf_of rfl) (Nat.le_of_ble_eq_true rfl) (Nat.le_of_ble_eq_true rfl) (Nat.le_of_ble_eq_true rfl) rfl ?_
  rintro _ _ ⟨rfl, x1, rfl, hx1⟩
  show J_ zX10_postpone T (po_X10_postpone_k T m d) 0 0 5 _ [vI x1] T
  refine j_blx (F := fX10) tb_X10 (nn_ _) bk_X10_postpone_5 bs_X10_postpone_5 hz (fun K hK => ?_)
  refine And.intro (fun c2 => ?_) (fun c2 => ?_)
  · refine hK 11 _ [] T ?_
    refine j_blx (F := fX10) tb_X10 (nn_ _) bk_X10_postpone_11 bs_X10_postpone_11 hz (fun K hK => ?_)
    refine hK 12 _ [vI d] T ?_
    refine j_callS (y := yX10_isDay) (Yc := zX10_isDay) (rest := []) [vI d] (ct_X10_isDay (T := T)) cl_X10_140 (qd_c (by decide +kernel)) (nn_ _) rfl (rf_of rfl) (Nat.le_of_ble_eq_true rfl) (Nat.le_of_ble_eq_true rfl) (Nat.le_of_ble_eq_true rfl) rfl ?_
    rintro _ _ ⟨rfl, x3, rfl, hx3⟩
    show J_ zX10_postpone T (po_X10_postpone_k T m d) 0 0 15 _ [vI x3] T
    refine j_blx (F := fX10) tb_X10 (nn_ _) bk_X10_postpone_15 bs_X10_postpone_15 hz (fun K hK => ?_)
    refine And.intro (fun c4 => ?_) (fun c4 => ?_)
    · refine hK 29 _ [] T ?_
      refine j_blx (F := fX10) tb_X10 (nn_ _) bk_X10_postpone_29 bs_X10_postpone_29 hz (fun K hK => ?_)
      refine (show po_X10_postpone_k T m d T (some (vI (-3))) from ?_)
      exact ⟨_, rfl, fr_0 _ _, hdd⟩
    · intro b5 b5b
      refine And.intro (fun c6 => ?_) (fun c6 => ?_)
      · refine hK 32 _ [] T ?_
        refine j_blx (F := fX10) tb_X10 (nn_ _) bk_X10_postpone_32 bs_X10_postpone_32 hz (fun K hK => ?_)
        refine ix_i (by omega) ?_
        refine And.intro (fun c7 => ?_) (fun c7 => ?_)
        · exact absurd (show T 523 0 (m) = 0 by omega) (hka.2 _ (by omega) (by omega))
        · refine hK 43 [some (vR 110 0), some (vI m), some (vI d), some (vR 102 m)] [vR 102 m] T ?_
          refine j_callV (y := yX2_phaseOfLife) (Yc := zX2_phaseOfLife) (rest := []) [] (ct_X2_phaseOfLife (T := T)) cl_X10_223 (qd_c (by decide +kernel)) (nn_ _) rfl (rf_of rfl) (Nat.le_of_ble_eq_true rfl) (Nat.le_of_ble_eq_true rfl) (Nat.le_of_ble_eq_true rfl) rfl ?_
          rintro _ _ ⟨rfl, x8, rfl, hx8⟩
          show J_ zX10_postpone T (po_X10_postpone_k T m d) 0 0 46 _ [vI x8] T
          refine j_blx (F := fX10) tb_X10 (nn_ _) bk_X10_postpone_46 bs_X10_postpone_46 hz (fun K hK => ?_)
          refine And.intro (fun c9 => ?_) (fun c9 => ?_)
          · refine hK 57 _ [] T ?_
            refine j_blx (F := fX10) tb_X10 (nn_ _) bk_X10_postpone_57 bs_X10_postpone_57 hz (fun K hK => ?_)
            refine (show po_X10_postpone_k T m d T (some (vI (-4))) from ?_)
            exact ⟨_, rfl, fr_0 _ _, hdd⟩
          · intro b10 b10b
            refine And.intro (fun c11 => ?_) (fun c11 => ?_)
            · refine hK 60 _ [] T ?_
              refine j_blx (F := fX10) tb_X10 (nn_ _) bk_X10_postpone_60 bs_X10_postpone_60 hz (fun K hK => ?_)
              refine hK 66 _ [vI d, vR 102 m, vR 106 0] T ?_
              refine j_callV (y := yX6_putOff) (Yc := zX6_putOff) (rest := []) [vR 102 m, vI d] (ct_X6_putOff_k (T := T) hka hkm (by omega) (by omega) hdd) cl_X10_234 (qd_c (by decide +kernel)) (nn_ _) rfl (rf_of rfl) (Nat.le_of_ble_eq_true rfl) (Nat.le_of_ble_eq_true rfl) (Nat.le_of_ble_eq_true rfl) rfl ?_
              rintro U12 _ ⟨x13, rfl, fU12, qU12⟩
              show J_ zX10_postpone T (po_X10_postpone_k T m d) 0 0 69 _ [vI x13] U12
              refine j_blx (F := fX10) tb_X10 (nn_ _) bk_X10_postpone_69 bs_X10_postpone_69 hz (fun K hK => ?_)
              refine (show po_X10_postpone_k T m d U12 (some (vI x13)) from ?_)
              exact ⟨_, rfl, fr_t (fr_0 _ _) (fr_s fU12 rfl), qU12⟩
            · refine (show po_X10_postpone_k T m d T (some (vI (-4))) from ?_)
              exact ⟨_, rfl, fr_0 _ _, hdd⟩
      · refine (show po_X10_postpone_k T m d T (some (vI (-3))) from ?_)
        exact ⟨_, rfl, fr_0 _ _, hdd⟩
  · refine (show po_X10_postpone_k T m d T (some (vI (-2))) from ?_)
    exact ⟨_, rfl, fr_0 _ _, hdd⟩
