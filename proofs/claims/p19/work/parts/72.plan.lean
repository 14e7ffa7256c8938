def DD_ (T : Zt) : Prop := ∀ i j : Int, 0 ≤ i → i < j → j < T 106 0 4 → T 102 i 6 = -1 → T 102 j 6 = -1 → T 102 i 0 = T 102 j 0 → T 102 i 3 = T 102 j 3 → T 102 i 5 ≠ T 102 j 5
theorem DD__f {ws : List (Nat × List Int)} {T T' : Zt} (h : DD_ T) (f : fr_ ws T T') (w : fw_ ws 102 0 = false ∧ fw_ ws 102 3 = false ∧ fw_ ws 102 5 = false ∧ fw_ ws 102 6 = false ∧ fw_ ws 106 4 = false ∧ True) : DD_ T' := by
  have e0 : ∀ i, T' 102 i 0 = T 102 i 0 := fun i => f 102 i 0 w.1
  have e1 : ∀ i, T' 102 i 3 = T 102 i 3 := fun i => f 102 i 3 w.2.1
  have e2 : ∀ i, T' 102 i 5 = T 102 i 5 := fun i => f 102 i 5 w.2.2.1
  have e3 : ∀ i, T' 102 i 6 = T 102 i 6 := fun i => f 102 i 6 w.2.2.2.1
  have e4 : ∀ i, T' 106 i 4 = T 106 i 4 := fun i => f 106 i 4 w.2.2.2.2.1
  simp only [DD_, e0, e1, e2, e3, e4] at h ⊢
  exact h
def KP_ (T : Zt) : Prop := ∀ m : Int, 0 ≤ m → m < T 106 0 4 → T 100 (T 102 m 0) 6 = 1
theorem KP__f {ws : List (Nat × List Int)} {T T' : Zt} (h : KP_ T) (f : fr_ ws T T') (w : fw_ ws 102 0 = false ∧ fw_ ws 100 6 = false ∧ fw_ ws 106 4 = false ∧ True) : KP_ T' := by
  have e0 : ∀ i, T' 102 i 0 = T 102 i 0 := fun i => f 102 i 0 w.1
  have e1 : ∀ i, T' 100 i 6 = T 100 i 6 := fun i => f 100 i 6 w.2.1
  have e2 : ∀ i, T' 106 i 4 = T 106 i 4 := fun i => f 106 i 4 w.2.2.1
  simp only [KP_, e0, e1, e2] at h ⊢
  exact h
def KB_ (T : Zt) : Prop := ∀ c : Int, 0 ≤ c → c < T 106 0 2 → (0 ≤ T 401 c 6 ∧ T 401 c 6 ≤ 4) ∧ 1 ≤ T 401 c 7 ∧ T 401 c 7 ≤ 30
theorem KB__f {ws : List (Nat × List Int)} {T T' : Zt} (h : KB_ T) (f : fr_ ws T T') (w : (∀ j, fw_ ws 401 j = false) ∧ fw_ ws 106 2 = false ∧ True) : KB_ T' := by
  have e0 : ∀ i j, T' 401 i j = T 401 i j := fun i j => f 401 i j (w.1 j)
  have e1 : ∀ i, T' 106 i 2 = T 106 i 2 := fun i => f 106 i 2 w.2.1
  simp only [KB_, e0, e1] at h ⊢
  exact h
/-- what a plan leaves -/
def SJ_ (T T' : Zt) (c : Int) : Prop := (0 ≤ c ∧ c < T 106 0 2 ∧ T 100 c 6 = 0) ∧ fr_ [(106, [4]), (523, []), (152, []), (102, []), (448, []), (449, []), (100, [6, 7, 8])] T T' ∧ (∀ i j, i < T 106 0 4 → T' 102 i j = T 102 i j) ∧ RK_ T' c (T 106 0 4) (T 100 c 5 + an_ (T 100 c 5) 1 - 1) 0 0 2000000 ∧ (T' 100 c 6 = 1 ∧ T' 100 c 7 = T 106 0 4 ∧ T' 100 c 8 = T' 106 0 4 - T 106 0 4) ∧ ∀ i j, i ≠ c → T' 100 i j = T 100 i j
theorem sc_ic {N : Int} {T T' : Zt} {c : Int} (h : SJ_ T T' c) (hka : KA_ T) (hkm : KM_ T) (hkc : KC_ T) (hks : KS_ T) (hkp : KP_ T) (hdd : DD_ T) (hlp : LP_ N T) (hb7 : ∀ i, 0 ≤ T 100 i 7) (hm0 : 0 ≤ T 106 0 4) : KA_ T' ∧ KM_ T' ∧ KC_ T' ∧ KS_ T' ∧ KP_ T' ∧ DD_ T' ∧ NA_ T' ∧ LP_ N T' := by
  obtain ⟨⟨c0, c1, c6⟩, f, od, ⟨⟨r1, r2, r3⟩, r4, r5, r6, r7⟩, ⟨s6, s7, s8⟩, oc⟩ := h
  have e2 : T' 106 0 2 = T 106 0 2 := f 106 0 2 rfl
  have e404 : ∀ a b, T' 404 a b = T 404 a b := fun a b => f 404 a b rfl
  refine ⟨⟨fun i a b => ?_, fun i a b => r6 i a b⟩, fun m a b => ?_, fun i a b => ?_, fun i a b m p q => ?_, fun m a b => ?_, fun i j a b d g1 g2 e1 e3 => ?_, r7, fun p a b d => ?_⟩
  · rw [e2] at b
    rw [f 521 0 i rfl]
    exact hka.1 i a b
  · rw [e2]
    by_cases z : m < T 106 0 4
    · rw [od m 1 z, od m 0 z]
      exact hkm m a z
    · obtain ⟨q1, q2, -⟩ := r4 m (by omega) b
      omega
  · rw [e2] at b
    by_cases z : i = c
    · rw [z, s7, s8]; omega
    · rw [oc i 7 z, oc i 8 z]
      have := hkc i a b
      omega
  · rw [e2] at b
    by_cases z : i = c
    · rw [z, s7] at p
      rw [z, s7, s8] at q
      rw [z]
      obtain ⟨q1, q2, q3, q4, q5, -⟩ := r4 m p (by omega)
      exact ⟨q1, q4, q5⟩
    · rw [oc i 7 z] at p
      rw [oc i 7 z, oc i 8 z] at q
      have k1 := hkc i a b
      have k2 := hb7 i
      rw [od m 0 (by omega), od m 3 (by omega), od m 4 (by omega), e404, e404]
      exact hks i a b m p q
  · by_cases z : m < T 106 0 4
    · rw [od m 0 z]
      by_cases y : T 102 m 0 = c
      · rw [y]; exact s6
      · rw [oc _ 6 y]; exact hkp m a z
    · obtain ⟨q1, -⟩ := r4 m (by omega) b
      rw [q1]; exact s6
  · by_cases z : j < T 106 0 4
    · rw [od i 0 (by omega), od j 0 z] at e1
      rw [od i 3 (by omega), od j 3 z] at e3
      rw [od i 6 (by omega)] at g1
      rw [od j 6 z] at g2
      rw [od i 5 (by omega), od j 5 z]
      exact hdd i j a b z g1 g2 e1 e3
    · by_cases y : i < T 106 0 4
      · obtain ⟨q1, -⟩ := r4 j (by omega) d
        rw [od i 0 y, q1] at e1
        have := hkp i a y
        rw [e1] at this
        omega
      · exact r5 i j (by omega) b d e3
  · by_cases z : p < T 106 0 4
    · rw [od p 10 z] at d
      refine Lp_o (hlp p a z d) (by omega) ⟨fun x _ => f 190 x _ rfl, by rw [f 191 0 0 rfl]; omega⟩ (by omega) ⟨f _ _ _ rfl, f _ _ _ rfl, f _ _ _ rfl, f _ _ _ rfl, f _ _ _ rfl, f _ _ _ rfl, f _ _ _ rfl, f _ _ _ rfl⟩
    · obtain ⟨-, -, q3, -⟩ := r4 p (by omega) b
      exact absurd q3 d
theorem dy_b {R L E x : Int} (h : (0 ≤ L ∧ L ≤ 4) ∧ 1 ≤ E ∧ E ≤ 30) (g : 0 ≤ R ∧ R ≤ 12 ∧ x = (R * L - 1) * E) : -30 ≤ x ∧ x ≤ 1500 := by
  have y1 := mlb (a := R) (b := L) (A := 12) (B := 4) (by omega) (by omega)
  have y2 := mlb (a := R * L) (b := E) (A := 48) (B := 30) (by omega) (by omega)
  have y3 := g.2.2
  rw [Int.sub_mul, Int.one_mul] at y3
  omega
abbrev cX10_plan : ByteArray := prog_1_method_13_code
def yX10_plan : MethodName := ⟨RX10, "plan", "(II)I"⟩
def zX10_plan : Zm := (RX10, cX10_plan, 4, (some .int), { frames := 5, cells := 792, slots := 8976, locals := 138 })
set_option maxRecDepth 100000 in
theorem cl_X10_178 : cv_ RX10 178 yX0_daysFromFirstToLast zX0_daysFromFirstToLast 0 0 := ⟨gi_V (lwq_3 (dqc_m (dqc_m (dqc_m (dqc_m (dqc_m (dqc_m (List.mem_of_getElem? (i := 4) rfl))))))) rfl : Cond.methodLink RX10 178 yX0_daysFromFirstToLast ∈ lw_g) (lwq_3 (dqc_m (dqc_m (dqc_m (dqc_m (dqc_m (dqc_m (List.mem_of_getElem? (i := 5) rfl))))))) rfl : Cond.instanceMethod yX0_daysFromFirstToLast ∈ lw_g) (lwq_3 (dqc_m (dqc_m (dqc_m (dqc_m (dqc_m (dqc_m (List.mem_of_getElem? (i := 6) rfl))))))) rfl : Cond.selects yX0_daysFromFirstToLast.cls yX0_daysFromFirstToLast yX0_daysFromFirstToLast ∈ lw_g) (lwq_1 (dqa_m (List.mem_of_getElem? (i := 7) rfl)) rfl : Cond.initialized yX0_daysFromFirstToLast.cls ∈ lw_g) (lwq_3 (dqc_m (dqc_m (dqc_m (dqc_m (dqc_m (dqc_m (List.mem_of_getElem? (i := 7) rfl))))))) rfl : Cond.code yX0_daysFromFirstToLast cX0_daysFromFirstToLast 2 (some .int) ∈ lw_g), ⟨nmh_11.1, nmh_11.2, pdq_17⟩, ⟨_, _, rfl⟩⟩
set_option maxRecDepth 100000 in
theorem cl_X10_185 : cv_ RX10 185 yX0_fixtureCount zX0_fixtureCount 0 0 := ⟨gi_V (lwq_3 (dqc_m (dqc_m (dqc_m (dqc_m (dqc_m (dqc_m (dqa_m (List.mem_of_getElem? (i := 4) rfl)))))))) rfl : Cond.methodLink RX10 185 yX0_fixtureCount ∈ lw_g) (lwq_3 (dqc_m (dqc_m (dqc_m (dqc_m (dqc_m (dqc_m (dqa_m (List.mem_of_getElem? (i := 5) rfl)))))))) rfl : Cond.instanceMethod yX0_fixtureCount ∈ lw_g) (lwq_3 (dqc_m (dqc_m (dqc_m (dqc_m (dqc_m (dqc_m (dqa_m (List.mem_of_getElem? (i := 6) rfl)))))))) rfl : Cond.selects yX0_fixtureCount.cls yX0_fixtureCount yX0_fixtureCount ∈ lw_g) (lwq_1 (dqa_m (List.mem_of_getElem? (i := 7) rfl)) rfl : Cond.initialized yX0_fixtureCount.cls ∈ lw_g) (lwq_3 (dqc_m (dqc_m (dqc_m (dqc_m (dqc_m (dqc_m (dqa_m (List.mem_of_getElem? (i := 7) rfl)))))))) rfl : Cond.code yX0_fixtureCount cX0_fixtureCount 1 (some .int) ∈ lw_g), ⟨nmh_11.1, nmh_11.2, pdq_17⟩, ⟨_, _, rfl⟩⟩
set_option maxRecDepth 100000 in
theorem cl_X10_188 : cv_ RX10 188 yX6_schedule zX6_schedule 6 2 := ⟨gi_V (lwq_3 (dqc_m (dqc_m (dqc_m (dqc_m (dqc_m (dqc_m (dqa_m (dqa_m (List.mem_of_getElem? (i := 0) rfl))))))))) rfl : Cond.methodLink RX10 188 yX6_schedule ∈ lw_g) (lwq_3 (dqc_m (dqc_m (dqc_m (dqc_m (dqc_m (dqc_m (dqa_m (dqa_m (List.mem_of_getElem? (i := 1) rfl))))))))) rfl : Cond.instanceMethod yX6_schedule ∈ lw_g) (lwq_3 (dqc_m (dqc_m (dqc_m (dqc_m (dqc_m (dqc_m (dqa_m (dqa_m (List.mem_of_getElem? (i := 2) rfl))))))))) rfl : Cond.selects yX6_schedule.cls yX6_schedule yX6_schedule ∈ lw_g) (lwq_1 (List.mem_of_getElem? (i := 4) rfl) rfl : Cond.initialized yX6_schedule.cls ∈ lw_g) (lwq_3 (dqc_m (dqc_m (dqc_m (dqc_m (dqc_m (dqc_m (dqa_m (dqa_m (List.mem_of_getElem? (i := 3) rfl))))))))) rfl : Cond.code yX6_schedule cX6_schedule 7 none ∈ lw_g), ⟨nmh_6.1, nmh_6.2, pdq_31⟩, ⟨_, _, rfl⟩⟩
abbrev po_X10_plan (T : Zt) (c b : Int) : Zt → Option Zv → Prop := fun T' r => ∃ x : Int, r = some (vI x) ∧ (T' = T ∨ SJ_ T T' c)
abbrev po_X10_postpone_k (T : Zt) (m d : Int) : Zt → Option Zv → Prop := fun T' r => ∃ x : Int, r = some (vI x) ∧ fr_ [(535, []), (534, []), (102, [5]), (533, []), (531, []), (106, [12])] T T' ∧ (DD_ T')
theorem php : ∀ (m n : Nat) (f : Nat → Nat), (∀ i, i < n → f i < m) → (∀ i j, i < j → j < n → f i ≠ f j) → n ≤ m
  | 0, n, f, h, _ => by
    by_cases z : n = 0
    · omega
    · exact absurd (h 0 (by omega)) (by omega)
  | m + 1, 0, f, _, _ => by omega
  | m + 1, k + 1, f, h, g => by
    have ih := php m k (fun i => if f i = m then f k else f i) (fun i hi => ?_) (fun i j hij hj => ?_)
    · omega
    · show (if f i = m then f k else f i) < m
      have h1 := h i (by omega)
      have h2 := h k (by omega)
      have h3 := g i k hi (by omega)
      split <;> omega
    · show (if f i = m then f k else f i) ≠ (if f j = m then f k else f j)
      have h1 := g i j hij (by omega)
      have h2 := g i k (by omega) (by omega)
      have h3 := g j k (by omega) (by omega)
      split <;> split <;> omega
/-- matches of one day that are not walked over: at most one for each competition and home -/
def LS_ (T : Zt) (L : Int → Int) (d n k : Int) : Prop := (∀ j, 0 ≤ j → j < n → 0 ≤ L j ∧ L j < k ∧ T 102 (L j) 5 = d ∧ T 102 (L j) 6 = -1) ∧ ∀ a b, 0 ≤ a → a < b → b < n → L a < L b
theorem LS_u {T : Zt} {L L1 : Int → Int} {d n k : Int} (h : LS_ T L d n k) (e1 : L1 n = k) (e2 : ∀ j, j < n → L1 j = L j) (hk : 0 ≤ k ∧ T 102 k 5 = d ∧ T 102 k 6 = -1) : LS_ T L1 d (n + 1) (k + 1) := by
  refine ⟨fun j a b => ?_, fun a b x y z => ?_⟩
  · by_cases w : j = n
    · rw [w, e1]; omega
    · rw [e2 j (by omega)]
      have := h.1 j a (by omega)
      omega
  · by_cases w : b = n
    · rw [w, e1, e2 a (by omega)]
      exact (h.1 a x (by omega)).2.1
    · rw [e2 a (by omega), e2 b (by omega)]
      exact h.2 a b x y (by omega)
theorem LS_m {T : Zt} {L : Int → Int} {d n k k2 : Int} (h : LS_ T L d n k) (g : k ≤ k2) : LS_ T L d n k2 := ⟨fun j a b => by have := h.1 j a b; omega, h.2⟩
theorem LS_48 {T : Zt} {L : Int → Int} {d n : Int} (hT : ok_T T) (h : LS_ T L d n (T 106 0 4)) (hkm : KM_ T) (hdd : DD_ T) : n ≤ 48 := by
  have hcc : 0 ≤ T 106 0 2 ∧ T 106 0 2 ≤ 4 := bd_f hT 106 2 tl_6_2 0
  have hb : ∀ i, 0 ≤ T 102 i 3 ∧ T 102 i 3 ≤ 11 := fun i => bd_f hT 102 3 tl_2_3 i
  have key := php 48 n.toNat (fun i => (12 * T 102 (L i) 0 + T 102 (L i) 3).toNat) (fun i hi => ?_) (fun i j hij hj => ?_)
  · omega
  · have h1 := h.1 i (by omega) (by omega)
    have h2 := hkm (L i) h1.1 h1.2.1
    have h3 := hb (L i)
    show (12 * T 102 (L i) 0 + T 102 (L i) 3).toNat < 48
    omega
  · have h1 := h.1 i (by omega) (by omega)
    have h2 := hkm (L i) h1.1 h1.2.1
    have h3 := hb (L i)
    have g1 := h.1 j (by omega) (by omega)
    have g2 := hkm (L j) g1.1 g1.2.1
    have g3 := hb (L j)
    have hlt := h.2 i j (by omega) (by omega) (by omega)
    show (12 * T 102 (L i) 0 + T 102 (L i) 3).toNat ≠ (12 * T 102 (L j) 0 + T 102 (L j) 3).toNat
    intro e
    exact hdd (L i) (L j) h1.1 hlt g1.2.1 h1.2.2.2 g1.2.2.2 (by omega) (by omega) (by omega)
/-- sets of o officials as numbers below e -/
def OS_ (o e : Int) : Prop := (1 ≤ e ∧ e ≤ 256) ∧ ∀ a w, 0 ≤ a → a < e → 0 ≤ w → w < o → 0 ≤ or_ a (sl_ 1 w) ∧ or_ a (sl_ 1 w) < e
theorem sl_p {w : Int} (h : 0 ≤ w ∧ w ≤ 8) : sl_ 1 w = ((2 ^ w.toNat : Nat) : Int) := by
  have : w = 0 ∨ w = 1 ∨ w = 2 ∨ w = 3 ∨ w = 4 ∨ w = 5 ∨ w = 6 ∨ w = 7 ∨ w = 8 := by omega
  rcases this with rfl | rfl | rfl | rfl | rfl | rfl | rfl | rfl | rfl <;> decide
theorem os_1 {o : Int} (h : 0 ≤ o ∧ o ≤ 8) : OS_ o (sl_ 1 o) := by
  have h2 : (2 : Nat) ^ o.toNat ≤ 2 ^ 8 := Nat.pow_le_pow_right (by omega) (by omega)
  have h3 : 0 < (2 : Nat) ^ o.toNat := Nat.pow_pos (by omega)
  have e1 := sl_p h
  refine ⟨by rw [e1]; omega, fun a w a0 a1 w0 w1 => ?_⟩
  have e2 := sl_p (w := w) (by omega)
  have h4 : (2 : Nat) ^ w.toNat < 2 ^ o.toNat := Nat.pow_lt_pow_right (by omega) (by omega)
  rw [e1] at a1 ⊢
  have a2 : a.toNat < 2 ^ o.toNat := (Int.toNat_lt a0).mpr a1
  have h5 := Nat.or_lt_two_pow (x := a.toNat) (y := 2 ^ w.toNat) (n := o.toNat) a2 h4
  have h6 : (0 : Int) ≤ ((2 ^ w.toNat : Nat) : Int) := Int.natCast_nonneg _
  have h7n : 2 ^ w.toNat ≤ 256 := by
    have : (2 : Nat) ^ 8 = 256 := by decide
    omega
  have h7 : ((2 ^ w.toNat : Nat) : Int) ≤ ((256 : Nat) : Int) := Int.ofNat_le.mpr h7n
  have h8 : a ≤ 256 := by
    have : a.toNat ≤ 256 := by omega
    omega
  rw [or_n ⟨a0, by omega⟩ (by rw [e2]; exact ⟨h6, Int.le_trans h7 (by decide)⟩), e2, Int.toNat_natCast]
  exact ⟨Int.natCast_nonneg _, Int.ofNat_lt.mpr h5⟩
theorem bx_4 {T : Zt} (hT : ok_T T) (ha : al_ T 104 0) : T 104 0 4 < T 191 0 0 := by
  have h1 := hT.2.2.2.1 104 0 ha 4 3 190 (-2147483648) 2147483647 (by decide +kernel)
  have h2 : al_ T 190 (T 104 0 4) := ok_al (v := none) (by decide) h1
  by_cases z : T 191 0 0 ≤ T 104 0 4
  · exact absurd h2 (hT.2.2.2.2.2.2.2.2 _ z)
  · omega
theorem k1e (k e : Int) : (k + 1) * e = k * e + e := by rw [Int.add_mul, Int.one_mul]
theorem k2e (k e : Int) : (k + 2) * e = k * e + e + e := by rw [show k + 2 = k + 1 + 1 by omega, k1e, k1e]
theorem kse {k s e : Int} (h : k + 2 ≤ s + 1) (he : 0 ≤ e) : (k + 2) * e ≤ (s + 1) * e := Int.mul_le_mul_of_nonneg_right h he
abbrev po_X2_isDecided_k (T : Zt) (p : Int) : Zt → Option Zv → Prop := fun T' r => T = T' ∧ ∃ x : Int, r = some (vI x) ∧ (0 ≤ x ∧ x ≤ 1 ∧ (x = 0 → T 102 p 6 = -1))
set_option maxHeartbeats 4000000 in
theorem ct_X2_isDecided_k {T : Zt} {p : Int} : Ct_ yX2_isDecided zX2_isDecided T [vR 102 p] (po_X2_isDecided_k T p) := by
  refine ct_of pn_2 rfl rfl (Nat.le_of_ble_eq_true rfl) (fun hT hav => ?_)
  have hz : zX2_isDecided.2.2.2.1 = some .boolean → ∀ (T' : Zt) (x : Int), po_X2_isDecided_k T p T' (some (vI x)) → 0 ≤ x ∧ x ≤ 1 := fun _ T' x h => by obtain ⟨-, y, e, hy⟩ := h; cases e; omega
  show J_ zX2_isDecided T (po_X2_isDecided_k T p) 0 0 0 [some (vR 102 p)] [] T
  refine j_blx (F := fX2) tb_X2 (nn_ _) bk_X2_isDecided_0 bs_X2_isDecided_0 hz (fun K hK => ?_)
  refine hK 1 _ [vR 102 p] T ?_
  refine j_callV (y := yX2_phaseOfLife) (Yc := zX2_phaseOfLife) (rest := []) [] (ct_X2_phaseOfLife (T := T)) cl_X2_54 (qd_c (by decide +kernel)) (nn_ _) rfl (rf_of rfl) (Nat.le_of_ble_eq_true rfl) (Nat.le_of_ble_eq_true rfl) (Nat.le_of_ble_eq_true rfl) rfl ?_
  rintro _ _ ⟨rfl, x1, rfl, hx1⟩
  show J_ zX2_isDecided T (po_X2_isDecided_k T p) 0 0 4 _ [vI x1] T
  refine j_blx (F := fX2) tb_X2 (nn_ _) bk_X2_isDecided_4 bs_X2_isDecided_4 hz (fun K hK => ?_)
  refine And.intro (fun c2 => ?_) (fun c2 => ?_)
  · refine hK 12 _ [] T ?_
    refine j_blx (F := fX2) tb_X2 (nn_ _) bk_X2_isDecided_12 bs_X2_isDecided_12 hz (fun K hK => ?_)
    refine (show po_X2_isDecided_k T p T (some (vI 0)) from ?_)
    exact ⟨rfl, _, rfl, by omega⟩
  · refine hK 13 _ [vI 1] T ?_
    refine j_blx (F := fX2) tb_X2 (nn_ _) bk_X2_isDecided_13 bs_X2_isDecided_13 hz (fun K hK => ?_)
    refine (show po_X2_isDecided_k T p T (some (vI 1)) from ?_)
    exact ⟨rfl, _, rfl, by omega⟩
abbrev cX4_gainOf : ByteArray := prog_6_method_7_code
def yX4_gainOf : MethodName := ⟨RX4, "gainOf", "(LSportsHouse$Match;II)I"⟩
def zX4_gainOf : Zm := (RX4, cX4_gainOf, 5, (some .int), { frames := 1, cells := 0, slots := 0, locals := 21 })
theorem bk_X4_gainOf_0 : ck_ fX4 (some .int) cX4_gainOf 0 [.aload 0, .tableswitch 0 4 1 #[], .tableswitch 0 8 11 #[], .iload 2, .iaload, .istore 4, .iload 3, .iload 2, .ishr, .iconst 1, .iand, .ifCond .ne 53, .aload 0, .tableswitch 0 4 1 #[], .tableswitch 0 8 1 #[], .aload 1, .tableswitch 0 2 3 #[], .iaload, .iload 4, .if_icmp .eq 53, .aload 0, .tableswitch 0 4 1 #[], .tableswitch 0 8 1 #[], .aload 1, .tableswitch 0 2 4 #[], .iaload, .iload 4, .if_icmp .ne 55, .iconst (-1), .ireturn] 55 = true := qck_r (nn_ _) (by decide +kernel)
theorem bs_X4_gainOf_0 {P : Zt → Option Zv → Prop} (K : Int → Zl → List Zv → Zt → Prop) : sx_ K P [.aload 0, .tableswitch 0 4 1 #[], .tableswitch 0 8 11 #[], .iload 2, .iaload, .istore 4, .iload 3, .iload 2, .ishr, .iconst 1, .iand, .ifCond .ne 53, .aload 0, .tableswitch 0 4 1 #[], .tableswitch 0 8 1 #[], .aload 1, .tableswitch 0 2 3 #[], .iaload, .iload 4, .if_icmp .eq 53, .aload 0, .tableswitch 0 4 1 #[], .tableswitch 0 8 1 #[], .aload 1, .tableswitch 0 2 4 #[], .iaload, .iload 4, .if_icmp .ne 55, .iconst (-1), .ireturn] 55 = x_aload 0 (x_g1 104 108 (x_g1 108 571 (x_iload 2 (x_iaload (x_istore 4 (x_iload 3 (x_iload 2 (x_ishr (x_iconst 1 (x_iand (x_ifCond .ne 53 K (x_aload 0 (x_g1 104 108 (x_g1 108 561 (x_aload 1 (x_g0 102 3 0 11 (x_iaload (x_iload 4 (x_if_icmp .eq 53 K (x_aload 0 (x_g1 104 108 (x_g1 108 561 (x_aload 1 (x_g0 102 4 0 11 (x_iaload (x_iload 4 (x_if_icmp .ne 55 K (x_iconst (-1) (x_ireturn P))))))))))))))))))))))))))))) := ((xe_aload 0).trans (congrArg (x_aload 0) ((xe_g1 (kk := 104) rfl tl_4_1).trans (congrArg (x_g1 104 108) ((xe_g1 (kk := 108) rfl tl_8_11).trans (congrArg (x_g1 108 571) ((xe_iload 2).trans (congrArg (x_iload 2) ((xe_iaload).trans (congrArg (x_iaload) ((xe_istore 4).trans (congrArg (x_istore 4) ((xe_iload 3).trans (congrArg (x_iload 3) ((xe_iload 2).trans (congrArg (x_iload 2) ((xe_ishr).trans (congrArg (x_ishr) ((xe_iconst 1).trans (congrArg (x_iconst 1) ((xe_iand).trans (congrArg (x_iand) ((xe_ifCond .ne 53).trans (congrArg (x_ifCond .ne 53 K) ((xe_aload 0).trans (congrArg (x_aload 0) ((xe_g1 (kk := 104) rfl tl_4_1).trans (congrArg (x_g1 104 108) ((xe_g1 (kk := 108) rfl tl_8_1).trans (congrArg (x_g1 108 561) ((xe_aload 1).trans (congrArg (x_aload 1) ((xe_g0 (kk := 102) rfl tl_2_3).trans (congrArg (x_g0 102 3 0 11) ((xe_iaload).trans (congrArg (x_iaload) ((xe_iload 4).trans (congrArg (x_iload 4) ((xe_if_icmp .eq 53).trans (congrArg (x_if_icmp .eq 53 K) ((xe_aload 0).trans (congrArg (x_aload 0) ((xe_g1 (kk := 104) rfl tl_4_1).trans (congrArg (x_g1 104 108) ((xe_g1 (kk := 108) rfl tl_8_1).trans (congrArg (x_g1 108 561) ((xe_aload 1).trans (congrArg (x_aload 1) ((xe_g0 (kk := 102) rfl tl_2_4).trans (congrArg (x_g0 102 4 0 11) ((xe_iaload).trans (congrArg (x_iaload) ((xe_iload 4).trans (congrArg (x_iload 4) ((xe_if_icmp .ne 55).trans (congrArg (x_if_icmp .ne 55 K) ((xe_iconst (-1)).trans (congrArg (x_iconst (-1)) (xe_ireturn)))))))))))))))))))))))))))))))))))))))))))))))))))))))))))
theorem bk_X4_gainOf_53 : ck_ fX4 (some .int) cX4_gainOf 53 [.iconst (-1), .ireturn] 55 = true := qck_r (nn_ _) (by decide +kernel)
theorem bs_X4_gainOf_53 {P : Zt → Option Zv → Prop} (K : Int → Zl → List Zv → Zt → Prop) : sx_ K P [.iconst (-1), .ireturn] 55 = x_iconst (-1) (x_ireturn P) := ((xe_iconst (-1)).trans (congrArg (x_iconst (-1)) (xe_ireturn)))
theorem bk_X4_gainOf_55 : ck_ fX4 (some .int) cX4_gainOf 55 [.iconst 1000, .aload 0, .tableswitch 0 4 1 #[], .tableswitch 0 8 10 #[], .iload 2, .iaload, .aload 0, .tableswitch 0 4 1 #[], .tableswitch 0 8 0 #[], .aload 1, .tableswitch 0 2 3 #[], .iaload, .isub] 80 = true := qck_r (nn_ _) (by decide +kernel)
theorem bs_X4_gainOf_55 {P : Zt → Option Zv → Prop} (K : Int → Zl → List Zv → Zt → Prop) : sx_ K P [.iconst 1000, .aload 0, .tableswitch 0 4 1 #[], .tableswitch 0 8 10 #[], .iload 2, .iaload, .aload 0, .tableswitch 0 4 1 #[], .tableswitch 0 8 0 #[], .aload 1, .tableswitch 0 2 3 #[], .iaload, .isub] 80 = x_iconst 1000 (x_aload 0 (x_g1 104 108 (x_g1 108 570 (x_iload 2 (x_iaload (x_aload 0 (x_g1 104 108 (x_g1 108 560 (x_aload 1 (x_g0 102 3 0 11 (x_iaload (x_isub (K 80))))))))))))) := ((xe_iconst 1000).trans (congrArg (x_iconst 1000) ((xe_aload 0).trans (congrArg (x_aload 0) ((xe_g1 (kk := 104) rfl tl_4_1).trans (congrArg (x_g1 104 108) ((xe_g1 (kk := 108) rfl tl_8_10).trans (congrArg (x_g1 108 570) ((xe_iload 2).trans (congrArg (x_iload 2) ((xe_iaload).trans (congrArg (x_iaload) ((xe_aload 0).trans (congrArg (x_aload 0) ((xe_g1 (kk := 104) rfl tl_4_1).trans (congrArg (x_g1 104 108) ((xe_g1 (kk := 108) rfl tl_8_0).trans (congrArg (x_g1 108 560) ((xe_aload 1).trans (congrArg (x_aload 1) ((xe_g0 (kk := 102) rfl tl_2_3).trans (congrArg (x_g0 102 3 0 11) ((xe_iaload).trans (congrArg (x_iaload) ((xe_isub).trans (congrArg (x_isub) xe_nil))))))))))))))))))))))))))
theorem bk_X4_gainOf_83 : ck_ fX4 (some .int) cX4_gainOf 83 [.isub, .ireturn] 85 = true := qck_r (nn_ _) (by decide +kernel)
theorem bs_X4_gainOf_83 {P : Zt → Option Zv → Prop} (K : Int → Zl → List Zv → Zt → Prop) : sx_ K P [.isub, .ireturn] 85 = x_isub (x_ireturn P) := ((xe_isub).trans (congrArg (x_isub) (xe_ireturn)))
abbrev po_X4_gainOf (T : Zt) (p : Int) (w a : Int) : Zt → Option Zv → Prop := fun T' r => T = T' ∧ ∃ x : Int, r = some (vI x) ∧ (-1 ≤ x ∧ x ≤ 1000)
set_option maxHeartbeats 4000000 in
theorem ct_X4_gainOf {T : Zt} {p : Int} {w a : Int} (hw : 0 ≤ w ∧ w ≤ 7) : Ct_ yX4_gainOf zX4_gainOf T [vR 104 0, vR 102 p, vI w, vI a] (po_X4_gainOf T p w a) := by
  refine ct_of pn_4 rfl rfl (Nat.le_of_ble_eq_true rfl) (fun hT hav => ?_)
  have hr_w : -2147483648 ≤ w ∧ w ≤ 2147483647 := hav (vI w) (List.mem_cons_of_mem _ (List.mem_cons_of_mem _ List.mem_cons_self))
  have hr_a : -2147483648 ≤ a ∧ a ≤ 2147483647 := hav (vI a) (List.mem_cons_of_mem _ (List.mem_cons_of_mem _ (List.mem_cons_of_mem _ List.mem_cons_self)))
  have hz : zX4_gainOf.2.2.2.1 = some .boolean → ∀ (T' : Zt) (x : Int), po_X4_gainOf T p w a T' (some (vI x)) → 0 ≤ x ∧ x ≤ 1 := fun h => by cases h
  show J_ zX4_gainOf T (po_X4_gainOf T p w a) 0 0 0 [some (vR 104 0), some (vR 102 p), some (vI w), some (vI a), none] [] T
  refine j_blx (F := fX4) tb_X4 (nn_ _) bk_X4_gainOf_0 bs_X4_gainOf_0 hz (fun K hK => ?_)
  refine ix_i (by omega) ?_
  intro b1 b1b
  intro w2 w2b
  intro w3 w3b
  refine And.intro (fun c4 => ?_) (fun c4 => ?_)
  · refine hK 53 [some (vR 104 0), some (vR 102 p), some (vI w), some (vI a), some (vI (T 571 0 w))] [] T ?_
    refine j_blx (F := fX4) tb_X4 (nn_ _) bk_X4_gainOf_53 bs_X4_gainOf_53 hz (fun K hK => ?_)
    refine (show po_X4_gainOf T p w a T (some (vI (-1))) from ?_)
    exact ⟨rfl, _, rfl, by omega⟩
  · intro b5 b5b
    refine ix_i (by omega) ?_
    intro b6 b6b
    refine And.intro (fun c7 => ?_) (fun c7 => ?_)
    · refine hK 53 _ [] T ?_
      refine j_blx (F := fX4) tb_X4 (nn_ _) bk_X4_gainOf_53 bs_X4_gainOf_53 hz (fun K hK => ?_)
      refine (show po_X4_gainOf T p w a T (some (vI (-1))) from ?_)
      exact ⟨rfl, _, rfl, by omega⟩
    · intro b8 b8b
      refine ix_i (by omega) ?_
      intro b9 b9b
      refine And.intro (fun c10 => ?_) (fun c10 => ?_)
      · refine hK 55 _ [] T ?_
        refine j_blx (F := fX4) tb_X4 (nn_ _) bk_X4_gainOf_55 bs_X4_gainOf_55 hz (fun K hK => ?_)
        refine ix_i (by omega) ?_
        intro b11 b11b
        intro b12 b12b
        refine ix_i (by omega) ?_
        intro b13 b13b
        refine rg_i (by omega) ?_
        refine hK 80 _ [vI ((T 570 0 w) - (T 560 0 (T 102 p 3))), vI 1000] T ?_
        obtain ⟨x14, e15, hx14⟩ : ∃ x14 : Int, (if 0 ≤ ((T 570 0 w) - (T 560 0 (T 102 p 3))) then ((T 570 0 w) - (T 560 0 (T 102 p 3))) else -((T 570 0 w) - (T 560 0 (T 102 p 3)))) = x14 ∧ (0 ≤ x14 ∧ (x14 = (T 570 0 w) - (T 560 0 (T 102 p 3)) ∨ x14 = -((T 570 0 w) - (T 560 0 (T 102 p 3))))) := ⟨_, rfl, by split <;> omega⟩
        refine j_ab (pc := 80) (by omega) (lwq_6 (dqc_m (dqc_m (dqc_m (dqc_m (dqc_m (dqc_m (dqa_m (List.mem_of_getElem? (i := 7) rfl)))))))) rfl : Cond.methodLink RX4 98 Lib.Math.abs.name ∈ lw_g) (lwq_4 (dqc_m (dqc_m (dqa_m (dqa_m (dqa_m (List.mem_of_getElem? (i := 6) rfl)))))) rfl : Cond.static Lib.Math.abs.name ∈ lw_g) (lwq_1 (dqa_m (dqa_m (List.mem_of_getElem? (i := 1) rfl))) rfl : Cond.initialized "java/lang/Math" ∈ lw_g) (lwq_4 (dqc_m (dqc_m (dqa_m (dqa_m (dqa_m (List.mem_of_getElem? (i := 7) rfl)))))) rfl : Cond.code Lib.Math.abs.name Lib.Math.abs.code 1 (some .int) ∈ lw_g) (by decide +kernel) (by decide) (by decide) (by decide) (Nat.le_of_ble_eq_true rfl) ?_
        rw [e15]
        show J_ zX4_gainOf T (po_X4_gainOf T p w a) 0 0 83 _ [vI x14, vI 1000] T
        refine j_blx (F := fX4) tb_X4 (nn_ _) bk_X4_gainOf_83 bs_X4_gainOf_83 hz (fun K hK => ?_)
        refine rg_i (by omega) ?_
        refine (show po_X4_gainOf T p w a T (some (vI (1000 - x14))) from ?_)
        exact ⟨rfl, _, rfl, by omega⟩
      · refine (show po_X4_gainOf T p w a T (some (vI (-1))) from ?_)
        exact ⟨rfl, _, rfl, by omega⟩
abbrev cX4_weigh : ByteArray := prog_6_method_5_code
def yX4_weigh : MethodName := ⟨RX4, "weigh", "(LSportsHouse$Match;III)I"⟩
def zX4_weigh : Zm := (RX4, cX4_weigh, 9, (some .int), { frames := 2, cells := 0, slots := 0, locals := 45 })
theorem bk_X4_weigh_22 : ck_ fX4 (some .int) cX4_weigh 22 [.iload 7, .aload 0, .tableswitch 0 4 1 #[], .tableswitch 0 8 12 #[], .if_icmp .ge 80, .aload 0, .aload 1, .iload 7, .iload 3] 39 = true := qck_r (nn_ _) (by decide +kernel)
theorem bs_X4_weigh_22 {P : Zt → Option Zv → Prop} (K : Int → Zl → List Zv → Zt → Prop) : sx_ K P [.iload 7, .aload 0, .tableswitch 0 4 1 #[], .tableswitch 0 8 12 #[], .if_icmp .ge 80, .aload 0, .aload 1, .iload 7, .iload 3] 39 = x_iload 7 (x_aload 0 (x_g1 104 108 (x_g0 108 12 0 8 (x_if_icmp .ge 80 K (x_aload 0 (x_aload 1 (x_iload 7 (x_iload 3 (K 39))))))))) := ((xe_iload 7).trans (congrArg (x_iload 7) ((xe_aload 0).trans (congrArg (x_aload 0) ((xe_g1 (kk := 104) rfl tl_4_1).trans (congrArg (x_g1 104 108) ((xe_g0 (kk := 108) rfl tl_8_12).trans (congrArg (x_g0 108 12 0 8) ((xe_if_icmp .ge 80).trans (congrArg (x_if_icmp .ge 80 K) ((xe_aload 0).trans (congrArg (x_aload 0) ((xe_aload 1).trans (congrArg (x_aload 1) ((xe_iload 7).trans (congrArg (x_iload 7) ((xe_iload 3).trans (congrArg (x_iload 3) xe_nil))))))))))))))))))
theorem bk_X4_weigh_80 : ck_ fX4 (some .int) cX4_weigh 80 [.iload 6, .ireturn] 83 = true := qck_r (nn_ _) (by decide +kernel)
theorem bs_X4_weigh_80 {P : Zt → Option Zv → Prop} (K : Int → Zl → List Zv → Zt → Prop) : sx_ K P [.iload 6, .ireturn] 83 = x_iload 6 (x_ireturn P) := ((xe_iload 6).trans (congrArg (x_iload 6) (xe_ireturn)))
set_option maxRecDepth 100000 in
theorem cl_X4_70 : cv_ RX4 70 yX4_gainOf zX4_gainOf 4 3 := ⟨gi_V (lwq_6 (dqc_m (dqc_m (dqc_m (dqc_m (dqc_m (dqc_m (dqa_m (List.mem_of_getElem? (i := 3) rfl)))))))) rfl : Cond.methodLink RX4 70 yX4_gainOf ∈ lw_g) (lwq_6 (dqc_m (dqc_m (dqc_m (dqc_m (dqc_m (dqc_m (dqa_m (List.mem_of_getElem? (i := 5) rfl)))))))) rfl : Cond.instanceMethod yX4_gainOf ∈ lw_g) (lw_sel 104 rfl : Cond.selects yX4_gainOf.cls yX4_gainOf yX4_gainOf ∈ lw_g) (lwq_1 (dqa_m (List.mem_of_getElem? (i := 1) rfl)) rfl : Cond.initialized yX4_gainOf.cls ∈ lw_g) (lwq_6 (dqc_m (dqc_m (dqc_m (dqc_m (dqc_m (dqc_m (dqa_m (List.mem_of_getElem? (i := 6) rfl)))))))) rfl : Cond.code yX4_gainOf cX4_gainOf 5 (some .int) ∈ lw_g), ⟨nmh_4.1, nmh_4.2, pdq_36⟩, ⟨_, _, rfl⟩⟩
theorem bk_X4_weigh_42 : ck_ fX4 (some .int) cX4_weigh 42 [.istore 8, .iload 8, .iconst (-1), .if_icmp .eq 74, .iload 6, .iload 8, .aload 0, .tableswitch 0 4 4 #[], .iload 5, .iload 3, .iconst 1, .iload 7, .ishl, .ior, .iadd, .iaload, .fadd] 69 = true := qck_r (nn_ _) (by decide +kernel)
theorem bs_X4_weigh_42 {P : Zt → Option Zv → Prop} (K : Int → Zl → List Zv → Zt → Prop) : sx_ K P [.istore 8, .iload 8, .iconst (-1), .if_icmp .eq 74, .iload 6, .iload 8, .aload 0, .tableswitch 0 4 4 #[], .iload 5, .iload 3, .iconst 1, .iload 7, .ishl, .ior, .iadd, .iaload, .fadd] 69 = x_istore 8 (x_iload 8 (x_iconst (-1) (x_if_icmp .eq 74 K (x_iload 6 (x_iload 8 (x_aload 0 (x_g3 104 190 4 (x_iload 5 (x_iload 3 (x_iconst 1 (x_iload 7 (x_ishl (x_ior (x_iadd (x_iaload (x_fadd (K 69))))))))))))))))) := ((xe_istore 8).trans (congrArg (x_istore 8) ((xe_iload 8).trans (congrArg (x_iload 8) ((xe_iconst (-1)).trans (congrArg (x_iconst (-1)) ((xe_if_icmp .eq 74).trans (congrArg (x_if_icmp .eq 74 K) ((xe_iload 6).trans (congrArg (x_iload 6) ((xe_iload 8).trans (congrArg (x_iload 8) ((xe_aload 0).trans (congrArg (x_aload 0) ((xe_g3 (kk := 104) rfl tl_4_4).trans (congrArg (x_g3 104 190 4) ((xe_iload 5).trans (congrArg (x_iload 5) ((xe_iload 3).trans (congrArg (x_iload 3) ((xe_iconst 1).trans (congrArg (x_iconst 1) ((xe_iload 7).trans (congrArg (x_iload 7) ((xe_ishl).trans (congrArg (x_ishl) ((xe_ior).trans (congrArg (x_ior) ((xe_iadd).trans (congrArg (x_iadd) ((xe_iaload).trans (congrArg (x_iaload) ((xe_fadd).trans (congrArg (x_fadd) xe_nil))))))))))))))))))))))))))))))))))
theorem bk_X4_weigh_74 : ck_ fX4 (some .int) cX4_weigh 74 [.iinc 7 1, .goto 22] 80 = true := qck_r (nn_ _) (by decide +kernel)
theorem bs_X4_weigh_74 {P : Zt → Option Zv → Prop} (K : Int → Zl → List Zv → Zt → Prop) : sx_ K P [.iinc 7 1, .goto 22] 80 = x_iinc 7 1 (x_goto 22 K) := ((xe_iinc 7 1).trans (congrArg (x_iinc 7 1) (xe_goto 22)))
theorem bk_X4_weigh_72 : ck_ fX4 (some .int) cX4_weigh 72 [.istore 6, .iinc 7 1, .goto 22] 80 = true := qck_r (nn_ _) (by decide +kernel)
theorem bs_X4_weigh_72 {P : Zt → Option Zv → Prop} (K : Int → Zl → List Zv → Zt → Prop) : sx_ K P [.istore 6, .iinc 7 1, .goto 22] 80 = x_istore 6 (x_iinc 7 1 (x_goto 22 K)) := ((xe_istore 6).trans (congrArg (x_istore 6) ((xe_iinc 7 1).trans (congrArg (x_iinc 7 1) (xe_goto 22)))))
theorem bk_X4_weigh_0 : ck_ fX4 (some .int) cX4_weigh 0 [.iload 2, .iconst 1, .iadd, .iload 4, .imul, .istore 5, .aload 0, .tableswitch 0 4 4 #[], .iload 5, .iload 3, .iadd, .iaload, .istore 6, .iconst 0, .istore 7] 22 = true := qck_r (nn_ _) (by decide +kernel)
theorem bs_X4_weigh_0 {P : Zt → Option Zv → Prop} (K : Int → Zl → List Zv → Zt → Prop) : sx_ K P [.iload 2, .iconst 1, .iadd, .iload 4, .imul, .istore 5, .aload 0, .tableswitch 0 4 4 #[], .iload 5, .iload 3, .iadd, .iaload, .istore 6, .iconst 0, .istore 7] 22 = x_iload 2 (x_iconst 1 (x_iadd (x_iload 4 (x_imul (x_istore 5 (x_aload 0 (x_g3 104 190 4 (x_iload 5 (x_iload 3 (x_iadd (x_iaload (x_istore 6 (x_iconst 0 (x_istore 7 (K 22))))))))))))))) := ((xe_iload 2).trans (congrArg (x_iload 2) ((xe_iconst 1).trans (congrArg (x_iconst 1) ((xe_iadd).trans (congrArg (x_iadd) ((xe_iload 4).trans (congrArg (x_iload 4) ((xe_imul).trans (congrArg (x_imul) ((xe_istore 5).trans (congrArg (x_istore 5) ((xe_aload 0).trans (congrArg (x_aload 0) ((xe_g3 (kk := 104) rfl tl_4_4).trans (congrArg (x_g3 104 190 4) ((xe_iload 5).trans (congrArg (x_iload 5) ((xe_iload 3).trans (congrArg (x_iload 3) ((xe_iadd).trans (congrArg (x_iadd) ((xe_iaload).trans (congrArg (x_iaload) ((xe_istore 6).trans (congrArg (x_istore 6) ((xe_iconst 0).trans (congrArg (x_iconst 0) ((xe_istore 7).trans (congrArg (x_istore 7) xe_nil))))))))))))))))))))))))))))))
abbrev po_X4_weigh (T : Zt) (p : Int) (k a e : Int) : Zt → Option Zv → Prop := fun T' r => T = T' ∧ ∃ x : Int, r = some (vI x) ∧ (-2147483648 ≤ x ∧ x ≤ 2147483647)
set_option maxHeartbeats 4000000 in
theorem ct_X4_weigh {T : Zt} {p : Int} {k a e : Int} (hk : 0 ≤ k ∧ k < 48) (ha : 0 ≤ a ∧ a < e) (hO : OS_ (T 108 0 12) e) (hL : (k + 2) * e ≤ T 190 (T 104 0 4) (-2)) : Ct_ yX4_weigh zX4_weigh T [vR 104 0, vR 102 p, vI k, vI a, vI e] (po_X4_weigh T p k a e) := by
  refine ct_of pn_4 rfl rfl (Nat.le_of_ble_eq_true rfl) (fun hT hav => ?_)
  have hr_k : -2147483648 ≤ k ∧ k ≤ 2147483647 := hav (vI k) (List.mem_cons_of_mem _ (List.mem_cons_of_mem _ List.mem_cons_self))
  have hr_a : -2147483648 ≤ a ∧ a ≤ 2147483647 := hav (vI a) (List.mem_cons_of_mem _ (List.mem_cons_of_mem _ (List.mem_cons_of_mem _ List.mem_cons_self)))
  have hr_e : -2147483648 ≤ e ∧ e ≤ 2147483647 := hav (vI e) (List.mem_cons_of_mem _ (List.mem_cons_of_mem _ (List.mem_cons_of_mem _ (List.mem_cons_of_mem _ List.mem_cons_self))))
  have hz : zX4_weigh.2.2.2.1 = some .boolean → ∀ (T' : Zt) (x : Int), po_X4_weigh T p k a e T' (some (vI x)) → 0 ≤ x ∧ x ≤ 1 := fun h => by cases h
  have hb_officials : 0 ≤ T 108 0 12 ∧ T 108 0 12 ≤ 8 := bd_f hT 108 12 tl_8_12 0
  have hE := hO.1
  have hm := mlb (a := k + 2) (b := e) (A := 50) (B := 256) (by omega) (by omega)
  have x1 := k1e k e
  have x2 := k2e k e
  have hm0 := mlb (a := k) (b := e) (A := 48) (B := 256) (by omega) (by omega)
  show J_ zX4_weigh T (po_X4_weigh T p k a e) 0 0 0 [some (vR 104 0), some (vR 102 p), some (vI k), some (vI a), some (vI e), none, none, none, none] [] T
  have c_22 : ∀ (nn : Nat) (v : Int) (j : Int), ((T 108 0 12 - j).toNat) ≤ nn → (0 ≤ j ∧ -2147483648 ≤ v ∧ v ≤ 2147483647) → J_ zX4_weigh T (po_X4_weigh T p k a e) 0 0 22 [some (vR 104 0), some (vR 102 p), some (vI k), some (vI a), some (vI e), some (vI ((k + 1) * e)), some (vI v), some (vI j), none] [] T := by
    intro nn
    induction nn using Nat.strongRecOn with
    | _ nn ih_22 =>
      intro v j hm_22 i1
      replace hm_22 := fun (_ : Unit) => hm_22
      refine j_blx (F := fX4) tb_X4 (nn_ _) bk_X4_weigh_22 bs_X4_weigh_22 hz (fun K hK => ?_)
      intro b1 b1b
      refine And.intro (fun c2 => ?_) (fun c2 => ?_)
      · refine hK 80 _ [] T ?_
        refine j_blx (F := fX4) tb_X4 (nn_ _) bk_X4_weigh_80 bs_X4_weigh_80 hz (fun K hK => ?_)
        refine (show po_X4_weigh T p k a e T (some (vI v)) from ?_)
        exact ⟨rfl, _, rfl, by omega⟩
      · refine hK 39 _ [vI a, vI j, vR 102 p, vR 104 0] T ?_
        refine j_callV (y := yX4_gainOf) (Yc := zX4_gainOf) (rest := []) [vR 102 p, vI j, vI a] (ct_X4_gainOf (T := T) (by omega)) cl_X4_70 (qd_c (by decide +kernel)) (nn_ _) rfl (rf_of rfl) (Nat.le_of_ble_eq_true rfl) (Nat.le_of_ble_eq_true rfl) (Nat.le_of_ble_eq_true rfl) rfl ?_
        rintro _ _ ⟨rfl, x3, rfl, hx3⟩
        show J_ zX4_weigh T (po_X4_weigh T p k a e) 0 0 42 _ [vI x3] T
        refine j_blx (F := fX4) tb_X4 (nn_ _) bk_X4_weigh_42 bs_X4_weigh_42 hz (fun K hK => ?_)
        refine And.intro (fun c4 => ?_) (fun c4 => ?_)
        · refine hK 74 [some (vR 104 0), some (vR 102 p), some (vI k), some (vI a), some (vI e), some (vI ((k + 1) * e)), some (vI v), some (vI j), some (vI x3)] [] T ?_
          refine j_blx (F := fX4) tb_X4 (nn_ _) bk_X4_weigh_74 bs_X4_weigh_74 hz (fun K hK => ?_)
          refine rg_i (by omega) ?_
          refine hK 22 [some (vR 104 0), some (vR 102 p), some (vI k), some (vI a), some (vI e), some (vI ((k + 1) * e)), some (vI v), some (vI (j + 1)), some (vI x3)] [] T ?_
          refine j_drop [some (vR 104 0), some (vR 102 p), some (vI k), some (vI a), some (vI e), some (vI ((k + 1) * e)), some (vI v), some (vI (j + 1)), none] (fun k v hk => ?_) rfl ?_
          · match k, hk with
            | 0, hk => exact hk
            | 1, hk => exact hk
            | 2, hk => exact hk
            | 3, hk => exact hk
            | 4, hk => exact hk
            | 5, hk => exact hk
            | 6, hk => exact hk
            | 7, hk => exact hk
            | 8, hk => cases hk
            | k + 9, hk => cases hk
          refine ih_22 _ ?_ v (j + 1) (Nat.le_refl _) ?_
          · have hm_22 := hm_22 (); omega
          · omega
        · intro w6 w6b
          intro w7 w7b
          have y8 := hO.2 a j (by omega) (by omega) (by omega) (by omega)
          refine rg_i (by omega) ?_
          refine ix_i (by omega) ?_
          intro b9 b9b
          intro w10 w10b
          refine hK 69 [some (vR 104 0), some (vR 102 p), some (vI k), some (vI a), some (vI e), some (vI ((k + 1) * e)), some (vI v), some (vI j), some (vI x3)] [vI (wr_ (x3 + (T 190 (T 104 0 4) (((k + 1) * e) + (or_ a (sl_ 1 j)))))), vI v] T ?_
          obtain ⟨x11, e12, hx11⟩ : ∃ x11 : Int, (if v < (wr_ (x3 + (T 190 (T 104 0 4) (((k + 1) * e) + (or_ a (sl_ 1 j)))))) then (wr_ (x3 + (T 190 (T 104 0 4) (((k + 1) * e) + (or_ a (sl_ 1 j)))))) else v) = x11 ∧ ((x11 = v ∨ x11 = wr_ (x3 + (T 190 (T 104 0 4) (((k + 1) * e) + (or_ a (sl_ 1 j)))))) ∧ v ≤ x11 ∧ wr_ (x3 + (T 190 (T 104 0 4) (((k + 1) * e) + (or_ a (sl_ 1 j))))) ≤ x11) := ⟨_, rfl, by split <;> omega⟩
          refine j_mx (pc := 69) (lwq_6 (dqc_m (dqc_m (dqc_m (dqc_m (dqc_m (dqc_m (dqa_m (dqa_m (List.mem_of_getElem? (i := 0) rfl))))))))) rfl : Cond.methodLink RX4 74 Lib.Math.max.name ∈ lw_g) (lwq_4 (dqc_m (dqc_m (dqc_m (List.mem_of_getElem? (i := 5) rfl)))) rfl : Cond.static Lib.Math.max.name ∈ lw_g) (lwq_1 (dqa_m (dqa_m (List.mem_of_getElem? (i := 1) rfl))) rfl : Cond.initialized "java/lang/Math" ∈ lw_g) (lwq_4 (dqc_m (dqc_m (dqc_m (List.mem_of_getElem? (i := 6) rfl)))) rfl : Cond.code Lib.Math.max.name Lib.Math.max.code 2 (some .int) ∈ lw_g) (by decide +kernel) (by decide) (by decide) (by decide) (Nat.le_of_ble_eq_true rfl) ?_
          rw [e12]
          show J_ zX4_weigh T (po_X4_weigh T p k a e) 0 0 72 _ [vI x11] T
          refine j_blx (F := fX4) tb_X4 (nn_ _) bk_X4_weigh_72 bs_X4_weigh_72 hz (fun K hK => ?_)
          refine rg_i (by omega) ?_
          refine hK 22 [some (vR 104 0), some (vR 102 p), some (vI k), some (vI a), some (vI e), some (vI ((k + 1) * e)), some (vI x11), some (vI (j + 1)), some (vI x3)] [] T ?_
          refine j_drop [some (vR 104 0), some (vR 102 p), some (vI k), some (vI a), some (vI e), some (vI ((k + 1) * e)), some (vI x11), some (vI (j + 1)), none] (fun k v hk => ?_) rfl ?_
          · match k, hk with
            | 0, hk => exact hk
            | 1, hk => exact hk
            | 2, hk => exact hk
            | 3, hk => exact hk
            | 4, hk => exact hk
            | 5, hk => exact hk
            | 6, hk => exact hk
            | 7, hk => exact hk
            | 8, hk => cases hk
            | k + 9, hk => cases hk
          refine ih_22 _ ?_ x11 (j + 1) (Nat.le_refl _) ?_
          · have hm_22 := hm_22 (); omega
          · omega
  refine j_blx (F := fX4) tb_X4 (nn_ _) bk_X4_weigh_0 bs_X4_weigh_0 hz (fun K hK => ?_)
  refine rg_i (by omega) ?_
  refine rg_i (by omega) ?_
  refine rg_i (by omega) ?_
  refine ix_i (by omega) ?_
  intro b14 b14b
  refine hK 22 [some (vR 104 0), some (vR 102 p), some (vI k), some (vI a), some (vI e), some (vI ((k + 1) * e)), some (vI (T 190 (T 104 0 4) (((k + 1) * e) + a))), some (vI 0), none] [] T ?_
  refine c_22 _ (T 190 (T 104 0 4) (((k + 1) * e) + a)) 0 (Nat.le_refl _) ?_
  · omega
abbrev cX4_firstBest : ByteArray := prog_6_method_6_code
def yX4_firstBest : MethodName := ⟨RX4, "firstBest", "(LSportsHouse$Match;III)I"⟩
def zX4_firstBest : Zm := (RX4, cX4_firstBest, 8, (some .int), { frames := 2, cells := 0, slots := 0, locals := 45 })
theorem bk_X4_firstBest_11 : ck_ fX4 (some .int) cX4_firstBest 11 [.iload 6, .aload 0, .tableswitch 0 4 1 #[], .tableswitch 0 8 12 #[], .if_icmp .ge 79, .aload 0, .aload 1, .iload 6, .iload 3] 28 = true := qck_r (nn_ _) (by decide +kernel)
theorem bs_X4_firstBest_11 {P : Zt → Option Zv → Prop} (K : Int → Zl → List Zv → Zt → Prop) : sx_ K P [.iload 6, .aload 0, .tableswitch 0 4 1 #[], .tableswitch 0 8 12 #[], .if_icmp .ge 79, .aload 0, .aload 1, .iload 6, .iload 3] 28 = x_iload 6 (x_aload 0 (x_g1 104 108 (x_g0 108 12 0 8 (x_if_icmp .ge 79 K (x_aload 0 (x_aload 1 (x_iload 6 (x_iload 3 (K 28))))))))) := ((xe_iload 6).trans (congrArg (x_iload 6) ((xe_aload 0).trans (congrArg (x_aload 0) ((xe_g1 (kk := 104) rfl tl_4_1).trans (congrArg (x_g1 104 108) ((xe_g0 (kk := 108) rfl tl_8_12).trans (congrArg (x_g0 108 12 0 8) ((xe_if_icmp .ge 79).trans (congrArg (x_if_icmp .ge 79 K) ((xe_aload 0).trans (congrArg (x_aload 0) ((xe_aload 1).trans (congrArg (x_aload 1) ((xe_iload 6).trans (congrArg (x_iload 6) ((xe_iload 3).trans (congrArg (x_iload 3) xe_nil))))))))))))))))))
theorem bk_X4_firstBest_79 : ck_ fX4 (some .int) cX4_firstBest 79 [.iconst (-1), .ireturn] 81 = true := qck_r (nn_ _) (by decide +kernel)
theorem bs_X4_firstBest_79 {P : Zt → Option Zv → Prop} (K : Int → Zl → List Zv → Zt → Prop) : sx_ K P [.iconst (-1), .ireturn] 81 = x_iconst (-1) (x_ireturn P) := ((xe_iconst (-1)).trans (congrArg (x_iconst (-1)) (xe_ireturn)))
theorem bk_X4_firstBest_31 : ck_ fX4 (some .int) cX4_firstBest 31 [.istore 7, .iload 7, .iconst (-1), .if_icmp .eq 73, .iload 7, .aload 0, .tableswitch 0 4 4 #[], .iload 5, .iload 3, .iconst 1, .iload 6, .ishl, .ior, .iadd, .iaload, .fadd, .aload 0, .tableswitch 0 4 4 #[], .iload 2, .iload 4, .imul, .iload 3, .iadd, .iaload, .if_icmp .ne 73, .iload 6, .ireturn] 73 = true := qck_r (nn_ _) (by decide +kernel)
theorem bs_X4_firstBest_31 {P : Zt → Option Zv → Prop} (K : Int → Zl → List Zv → Zt → Prop) : sx_ K P [.istore 7, .iload 7, .iconst (-1), .if_icmp .eq 73, .iload 7, .aload 0, .tableswitch 0 4 4 #[], .iload 5, .iload 3, .iconst 1, .iload 6, .ishl, .ior, .iadd, .iaload, .fadd, .aload 0, .tableswitch 0 4 4 #[], .iload 2, .iload 4, .imul, .iload 3, .iadd, .iaload, .if_icmp .ne 73, .iload 6, .ireturn] 73 = x_istore 7 (x_iload 7 (x_iconst (-1) (x_if_icmp .eq 73 K (x_iload 7 (x_aload 0 (x_g3 104 190 4 (x_iload 5 (x_iload 3 (x_iconst 1 (x_iload 6 (x_ishl (x_ior (x_iadd (x_iaload (x_fadd (x_aload 0 (x_g3 104 190 4 (x_iload 2 (x_iload 4 (x_imul (x_iload 3 (x_iadd (x_iaload (x_if_icmp .ne 73 K (x_iload 6 (x_ireturn P)))))))))))))))))))))))))) := ((xe_istore 7).trans (congrArg (x_istore 7) ((xe_iload 7).trans (congrArg (x_iload 7) ((xe_iconst (-1)).trans (congrArg (x_iconst (-1)) ((xe_if_icmp .eq 73).trans (congrArg (x_if_icmp .eq 73 K) ((xe_iload 7).trans (congrArg (x_iload 7) ((xe_aload 0).trans (congrArg (x_aload 0) ((xe_g3 (kk := 104) rfl tl_4_4).trans (congrArg (x_g3 104 190 4) ((xe_iload 5).trans (congrArg (x_iload 5) ((xe_iload 3).trans (congrArg (x_iload 3) ((xe_iconst 1).trans (congrArg (x_iconst 1) ((xe_iload 6).trans (congrArg (x_iload 6) ((xe_ishl).trans (congrArg (x_ishl) ((xe_ior).trans (congrArg (x_ior) ((xe_iadd).trans (congrArg (x_iadd) ((xe_iaload).trans (congrArg (x_iaload) ((xe_fadd).trans (congrArg (x_fadd) ((xe_aload 0).trans (congrArg (x_aload 0) ((xe_g3 (kk := 104) rfl tl_4_4).trans (congrArg (x_g3 104 190 4) ((xe_iload 2).trans (congrArg (x_iload 2) ((xe_iload 4).trans (congrArg (x_iload 4) ((xe_imul).trans (congrArg (x_imul) ((xe_iload 3).trans (congrArg (x_iload 3) ((xe_iadd).trans (congrArg (x_iadd) ((xe_iaload).trans (congrArg (x_iaload) ((xe_if_icmp .ne 73).trans (congrArg (x_if_icmp .ne 73 K) ((xe_iload 6).trans (congrArg (x_iload 6) (xe_ireturn)))))))))))))))))))))))))))))))))))))))))))))))))))))
theorem bk_X4_firstBest_73 : ck_ fX4 (some .int) cX4_firstBest 73 [.iinc 6 1, .goto 11] 79 = true := qck_r (nn_ _) (by decide +kernel)
theorem bs_X4_firstBest_73 {P : Zt → Option Zv → Prop} (K : Int → Zl → List Zv → Zt → Prop) : sx_ K P [.iinc 6 1, .goto 11] 79 = x_iinc 6 1 (x_goto 11 K) := ((xe_iinc 6 1).trans (congrArg (x_iinc 6 1) (xe_goto 11)))
theorem bk_X4_firstBest_0 : ck_ fX4 (some .int) cX4_firstBest 0 [.iload 2, .iconst 1, .iadd, .iload 4, .imul, .istore 5, .iconst 0, .istore 6] 11 = true := qck_r (nn_ _) (by decide +kernel)
theorem bs_X4_firstBest_0 {P : Zt → Option Zv → Prop} (K : Int → Zl → List Zv → Zt → Prop) : sx_ K P [.iload 2, .iconst 1, .iadd, .iload 4, .imul, .istore 5, .iconst 0, .istore 6] 11 = x_iload 2 (x_iconst 1 (x_iadd (x_iload 4 (x_imul (x_istore 5 (x_iconst 0 (x_istore 6 (K 11)))))))) := ((xe_iload 2).trans (congrArg (x_iload 2) ((xe_iconst 1).trans (congrArg (x_iconst 1) ((xe_iadd).trans (congrArg (x_iadd) ((xe_iload 4).trans (congrArg (x_iload 4) ((xe_imul).trans (congrArg (x_imul) ((xe_istore 5).trans (congrArg (x_istore 5) ((xe_iconst 0).trans (congrArg (x_iconst 0) ((xe_istore 6).trans (congrArg (x_istore 6) xe_nil))))))))))))))))
abbrev po_X4_firstBest (T : Zt) (p : Int) (k a e : Int) : Zt → Option Zv → Prop := fun T' r => T = T' ∧ ∃ x : Int, r = some (vI x) ∧ (x = -1 ∨ (0 ≤ x ∧ x < T 108 0 12))
set_option maxHeartbeats 4000000 in
theorem ct_X4_firstBest {T : Zt} {p : Int} {k a e : Int} (hk : 0 ≤ k ∧ k < 48) (ha : 0 ≤ a ∧ a < e) (hO : OS_ (T 108 0 12) e) (hL : (k + 2) * e ≤ T 190 (T 104 0 4) (-2)) : Ct_ yX4_firstBest zX4_firstBest T [vR 104 0, vR 102 p, vI k, vI a, vI e] (po_X4_firstBest T p k a e) := by
  refine ct_of pn_4 rfl rfl (Nat.le_of_ble_eq_true rfl) (fun hT hav => ?_)
  have hr_k : -2147483648 ≤ k ∧ k ≤ 2147483647 := hav (vI k) (List.mem_cons_of_mem _ (List.mem_cons_of_mem _ List.mem_cons_self))
  have hr_a : -2147483648 ≤ a ∧ a ≤ 2147483647 := hav (vI a) (List.mem_cons_of_mem _ (List.mem_cons_of_mem _ (List.mem_cons_of_mem _ List.mem_cons_self)))
  have hr_e : -2147483648 ≤ e ∧ e ≤ 2147483647 := hav (vI e) (List.mem_cons_of_mem _ (List.mem_cons_of_mem _ (List.mem_cons_of_mem _ (List.mem_cons_of_mem _ List.mem_cons_self))))
  have hz : zX4_firstBest.2.2.2.1 = some .boolean → ∀ (T' : Zt) (x : Int), po_X4_firstBest T p k a e T' (some (vI x)) → 0 ≤ x ∧ x ≤ 1 := fun h => by cases h
  have hb_officials : 0 ≤ T 108 0 12 ∧ T 108 0 12 ≤ 8 := bd_f hT 108 12 tl_8_12 0
  have hE := hO.1
  have hm := mlb (a := k + 2) (b := e) (A := 50) (B := 256) (by omega) (by omega)
  have x1 := k1e k e
  have x2 := k2e k e
  have hm0 := mlb (a := k) (b := e) (A := 48) (B := 256) (by omega) (by omega)
  show J_ zX4_firstBest T (po_X4_firstBest T p k a e) 0 0 0 [some (vR 104 0), some (vR 102 p), some (vI k), some (vI a), some (vI e), none, none, none] [] T
  have c_11 : ∀ (nn : Nat) (j : Int), ((T 108 0 12 - j).toNat) ≤ nn → (0 ≤ j) → J_ zX4_firstBest T (po_X4_firstBest T p k a e) 0 0 11 [some (vR 104 0), some (vR 102 p), some (vI k), some (vI a), some (vI e), some (vI ((k + 1) * e)), some (vI j), none] [] T := by
    intro nn
    induction nn using Nat.strongRecOn with
    | _ nn ih_11 =>
      intro j hm_11 i1
      replace hm_11 := fun (_ : Unit) => hm_11
      refine j_blx (F := fX4) tb_X4 (nn_ _) bk_X4_firstBest_11 bs_X4_firstBest_11 hz (fun K hK => ?_)
      intro b1 b1b
      refine And.intro (fun c2 => ?_) (fun c2 => ?_)
      · refine hK 79 _ [] T ?_
        refine j_blx (F := fX4) tb_X4 (nn_ _) bk_X4_firstBest_79 bs_X4_firstBest_79 hz (fun K hK => ?_)
        refine (show po_X4_firstBest T p k a e T (some (vI (-1))) from ?_)
        exact ⟨rfl, _, rfl, by omega⟩
      · refine hK 28 _ [vI a, vI j, vR 102 p, vR 104 0] T ?_
        refine j_callV (y := yX4_gainOf) (Yc := zX4_gainOf) (rest := []) [vR 102 p, vI j, vI a] (ct_X4_gainOf (T := T) (by omega)) cl_X4_70 (qd_c (by decide +kernel)) (nn_ _) rfl (rf_of rfl) (Nat.le_of_ble_eq_true rfl) (Nat.le_of_ble_eq_true rfl) (Nat.le_of_ble_eq_true rfl) rfl ?_
        rintro _ _ ⟨rfl, x3, rfl, hx3⟩
        show J_ zX4_firstBest T (po_X4_firstBest T p k a e) 0 0 31 _ [vI x3] T
        refine j_blx (F := fX4) tb_X4 (nn_ _) bk_X4_firstBest_31 bs_X4_firstBest_31 hz (fun K hK => ?_)
        refine And.intro (fun c4 => ?_) (fun c4 => ?_)
        · refine hK 73 [some (vR 104 0), some (vR 102 p), some (vI k), some (vI a), some (vI e), some (vI ((k + 1) * e)), some (vI j), some (vI x3)] [] T ?_
          refine j_blx (F := fX4) tb_X4 (nn_ _) bk_X4_firstBest_73 bs_X4_firstBest_73 hz (fun K hK => ?_)
          refine rg_i (by omega) ?_
          refine hK 11 [some (vR 104 0), some (vR 102 p), some (vI k), some (vI a), some (vI e), some (vI ((k + 1) * e)), some (vI (j + 1)), some (vI x3)] [] T ?_
          refine j_drop [some (vR 104 0), some (vR 102 p), some (vI k), some (vI a), some (vI e), some (vI ((k + 1) * e)), some (vI (j + 1)), none] (fun k v hk => ?_) rfl ?_
          · match k, hk with
            | 0, hk => exact hk
            | 1, hk => exact hk
            | 2, hk => exact hk
            | 3, hk => exact hk
            | 4, hk => exact hk
            | 5, hk => exact hk
            | 6, hk => exact hk
            | 7, hk => cases hk
            | k + 8, hk => cases hk
          refine ih_11 _ ?_ (j + 1) (Nat.le_refl _) ?_
          · have hm_11 := hm_11 (); omega
          · omega
        · intro w6 w6b
          intro w7 w7b
          have y8 := hO.2 a j (by omega) (by omega) (by omega) (by omega)
          refine rg_i (by omega) ?_
          refine ix_i (by omega) ?_
          intro b9 b9b
          intro w10 w10b
          refine rg_i (by omega) ?_
          refine rg_i (by omega) ?_
          refine ix_i (by omega) ?_
          intro b12 b12b
          refine And.intro (fun c13 => ?_) (fun c13 => ?_)
          · refine hK 73 [some (vR 104 0), some (vR 102 p), some (vI k), some (vI a), some (vI e), some (vI ((k + 1) * e)), some (vI j), some (vI x3)] [] T ?_
            refine j_blx (F := fX4) tb_X4 (nn_ _) bk_X4_firstBest_73 bs_X4_firstBest_73 hz (fun K hK => ?_)
            refine rg_i (by omega) ?_
            refine hK 11 [some (vR 104 0), some (vR 102 p), some (vI k), some (vI a), some (vI e), some (vI ((k + 1) * e)), some (vI (j + 1)), some (vI x3)] [] T ?_
            refine j_drop [some (vR 104 0), some (vR 102 p), some (vI k), some (vI a), some (vI e), some (vI ((k + 1) * e)), some (vI (j + 1)), none] (fun k v hk => ?_) rfl ?_
            · match k, hk with
              | 0, hk => exact hk
              | 1, hk => exact hk
              | 2, hk => exact hk
              | 3, hk => exact hk
              | 4, hk => exact hk
              | 5, hk => exact hk
              | 6, hk => exact hk
              | 7, hk => cases hk
              | k + 8, hk => cases hk
            refine ih_11 _ ?_ (j + 1) (Nat.le_refl _) ?_
            · have hm_11 := hm_11 (); omega
            · omega
          · refine (show po_X4_firstBest T p k a e T (some (vI j)) from ?_)
            exact ⟨rfl, _, rfl, by omega⟩
  refine j_blx (F := fX4) tb_X4 (nn_ _) bk_X4_firstBest_0 bs_X4_firstBest_0 hz (fun K hK => ?_)
  refine rg_i (by omega) ?_
  refine rg_i (by omega) ?_
  refine hK 11 [some (vR 104 0), some (vR 102 p), some (vI k), some (vI a), some (vI e), some (vI ((k + 1) * e)), some (vI 0), none] [] T ?_
  refine c_11 _ 0 (Nat.le_refl _) ?_
  · omega
abbrev cX4_listMatches : ByteArray := prog_6_method_3_code
def yX4_listMatches : MethodName := ⟨RX4, "listMatches", "(I)V"⟩
def zX4_listMatches : Zm := (RX4, cX4_listMatches, 4, none, { frames := 2, cells := 0, slots := 0, locals := 40 })
theorem bk_X4_listMatches_7 : ck_ fX4 none cX4_listMatches 7 [.iload 2, .aload 0, .tableswitch 0 4 0 #[], .tableswitch 0 6 4 #[], .if_icmp .ge 69, .aload 0, .tableswitch 0 4 0 #[], .tableswitch 0 6 3 #[], .iload 2, .aaload, .astore 3, .aload 3, .tableswitch 0 2 5 #[], .iload 1, .if_icmp .ne 63, .aload 3] 37 = true := qck_r (nn_ _) (by decide +kernel)
theorem bs_X4_listMatches_7 {P : Zt → Option Zv → Prop} (K : Int → Zl → List Zv → Zt → Prop) : sx_ K P [.iload 2, .aload 0, .tableswitch 0 4 0 #[], .tableswitch 0 6 4 #[], .if_icmp .ge 69, .aload 0, .tableswitch 0 4 0 #[], .tableswitch 0 6 3 #[], .iload 2, .aaload, .astore 3, .aload 3, .tableswitch 0 2 5 #[], .iload 1, .if_icmp .ne 63, .aload 3] 37 = x_iload 2 (x_aload 0 (x_g1 104 106 (x_g0 106 4 0 400 (x_if_icmp .ge 69 K (x_aload 0 (x_g1 104 106 (x_g1 106 523 (x_iload 2 (x_aaload (x_astore 3 (x_aload 3 (x_g0 102 5 0 999 (x_iload 1 (x_if_icmp .ne 63 K (x_aload 3 (K 37)))))))))))))))) := ((xe_iload 2).trans (congrArg (x_iload 2) ((xe_aload 0).trans (congrArg (x_aload 0) ((xe_g1 (kk := 104) rfl tl_4_0).trans (congrArg (x_g1 104 106) ((xe_g0 (kk := 106) rfl tl_6_4).trans (congrArg (x_g0 106 4 0 400) ((xe_if_icmp .ge 69).trans (congrArg (x_if_icmp .ge 69 K) ((xe_aload 0).trans (congrArg (x_aload 0) ((xe_g1 (kk := 104) rfl tl_4_0).trans (congrArg (x_g1 104 106) ((xe_g1 (kk := 106) rfl tl_6_3).trans (congrArg (x_g1 106 523) ((xe_iload 2).trans (congrArg (x_iload 2) ((xe_aaload).trans (congrArg (x_aaload) ((xe_astore 3).trans (congrArg (x_astore 3) ((xe_aload 3).trans (congrArg (x_aload 3) ((xe_g0 (kk := 102) rfl tl_2_5).trans (congrArg (x_g0 102 5 0 999) ((xe_iload 1).trans (congrArg (x_iload 1) ((xe_if_icmp .ne 63).trans (congrArg (x_if_icmp .ne 63 K) ((xe_aload 3).trans (congrArg (x_aload 3) xe_nil))))))))))))))))))))))))))))))))
theorem bk_X4_listMatches_69 : ck_ fX4 none cX4_listMatches 69 [.return_] 70 = true := qck_r (nn_ _) (by decide +kernel)
theorem bs_X4_listMatches_69 {P : Zt → Option Zv → Prop} (K : Int → Zl → List Zv → Zt → Prop) : sx_ K P [.return_] 70 = x_return_ P := (xe_return_)
theorem bk_X4_listMatches_63 : ck_ fX4 none cX4_listMatches 63 [.iinc 2 1, .goto 7] 69 = true := qck_r (nn_ _) (by decide +kernel)
theorem bs_X4_listMatches_63 {P : Zt → Option Zv → Prop} (K : Int → Zl → List Zv → Zt → Prop) : sx_ K P [.iinc 2 1, .goto 7] 69 = x_iinc 2 1 (x_goto 7 K) := ((xe_iinc 2 1).trans (congrArg (x_iinc 2 1) (xe_goto 7)))
set_option maxRecDepth 100000 in
theorem cl_X4_63 : cv_ RX4 63 yX2_isDecided zX2_isDecided 2 0 := ⟨gi_V (lwq_6 (dqc_m (dqc_m (dqc_m (dqc_m (dqc_m (dqc_m (List.mem_of_getElem? (i := 2) rfl))))))) rfl : Cond.methodLink RX4 63 yX2_isDecided ∈ lw_g) (lwq_4 (dqc_m (dqc_m (dqc_m (dqc_m (dqa_m (dqa_m (dqa_m (List.mem_of_getElem? (i := 3) rfl)))))))) rfl : Cond.instanceMethod yX2_isDecided ∈ lw_g) (lwq_4 (dqc_m (dqc_m (dqc_m (dqc_m (dqa_m (dqa_m (dqa_m (List.mem_of_getElem? (i := 4) rfl)))))))) rfl : Cond.selects yX2_isDecided.cls yX2_isDecided yX2_isDecided ∈ lw_g) (lwq_1 (dqa_m (dqa_m (List.mem_of_getElem? (i := 0) rfl))) rfl : Cond.initialized yX2_isDecided.cls ∈ lw_g) (lwq_4 (dqc_m (dqc_m (dqc_m (dqc_m (dqa_m (dqa_m (dqa_m (List.mem_of_getElem? (i := 5) rfl)))))))) rfl : Cond.code yX2_isDecided cX2_isDecided 1 (some .boolean) ∈ lw_g), ⟨nmh_10.1, nmh_10.2, pdq_18⟩, ⟨_, _, rfl⟩⟩
theorem bk_X4_listMatches_40 : ck_ fX4 none cX4_listMatches 40 [.ifCond .ne 63, .aload 0, .tableswitch 0 4 2 #[], .aload 0, .tableswitch 0 4 3 #[], .iload 2, .iastore, .aload 0, .dup, .tableswitch 0 4 3 #[], .iconst 1, .iadd, .tableswitch 1 4 3 #[], .iinc 2 1, .goto 7] 69 = true := qck_r (nn_ _) (by decide +kernel)
theorem bs_X4_listMatches_40 {P : Zt → Option Zv → Prop} (K : Int → Zl → List Zv → Zt → Prop) : sx_ K P [.ifCond .ne 63, .aload 0, .tableswitch 0 4 2 #[], .aload 0, .tableswitch 0 4 3 #[], .iload 2, .iastore, .aload 0, .dup, .tableswitch 0 4 3 #[], .iconst 1, .iadd, .tableswitch 1 4 3 #[], .iinc 2 1, .goto 7] 69 = x_ifCond .ne 63 K (x_aload 0 (x_g1 104 482 (x_aload 0 (x_g0 104 3 0 400 (x_iload 2 (x_iastore (x_aload 0 (x_dup (x_g0 104 3 0 400 (x_iconst 1 (x_iadd (x_p 104 3 0 400 (x_iinc 2 1 (x_goto 7 K)))))))))))))) := ((xe_ifCond .ne 63).trans (congrArg (x_ifCond .ne 63 K) ((xe_aload 0).trans (congrArg (x_aload 0) ((xe_g1 (kk := 104) rfl tl_4_2).trans (congrArg (x_g1 104 482) ((xe_aload 0).trans (congrArg (x_aload 0) ((xe_g0 (kk := 104) rfl tl_4_3).trans (congrArg (x_g0 104 3 0 400) ((xe_iload 2).trans (congrArg (x_iload 2) ((xe_iastore).trans (congrArg (x_iastore) ((xe_aload 0).trans (congrArg (x_aload 0) ((xe_dup).trans (congrArg (x_dup) ((xe_g0 (kk := 104) rfl tl_4_3).trans (congrArg (x_g0 104 3 0 400) ((xe_iconst 1).trans (congrArg (x_iconst 1) ((xe_iadd).trans (congrArg (x_iadd) ((xe_p (kk := 104) rfl tl_4_3).trans (congrArg (x_p 104 3 0 400) ((xe_iinc 2 1).trans (congrArg (x_iinc 2 1) (xe_goto 7)))))))))))))))))))))))))))))
theorem bk_X4_listMatches_0 : ck_ fX4 none cX4_listMatches 0 [.aload 0, .iconst 0, .tableswitch 1 4 3 #[], .iconst 0, .istore 2] 7 = true := qck_r (nn_ _) (by decide +kernel)
theorem bs_X4_listMatches_0 {P : Zt → Option Zv → Prop} (K : Int → Zl → List Zv → Zt → Prop) : sx_ K P [.aload 0, .iconst 0, .tableswitch 1 4 3 #[], .iconst 0, .istore 2] 7 = x_aload 0 (x_iconst 0 (x_p 104 3 0 400 (x_iconst 0 (x_istore 2 (K 7))))) := ((xe_aload 0).trans (congrArg (x_aload 0) ((xe_iconst 0).trans (congrArg (x_iconst 0) ((xe_p (kk := 104) rfl tl_4_3).trans (congrArg (x_p 104 3 0 400) ((xe_iconst 0).trans (congrArg (x_iconst 0) ((xe_istore 2).trans (congrArg (x_istore 2) xe_nil))))))))))
abbrev po_X4_listMatches (T : Zt) (d : Int) : Zt → Option Zv → Prop := fun T' r => r = none ∧ fr_ [(104, [3]), (482, [])] T T' ∧ ((0 ≤ T' 104 0 3 ∧ T' 104 0 3 ≤ 48) ∧ LS_ T (T' 482 0) d (T' 104 0 3) (T 106 0 4))
set_option maxHeartbeats 4000000 in
theorem ct_X4_listMatches {T : Zt} {d : Int} (hka : KA_ T) (hkm : KM_ T) (hdd : DD_ T) : Ct_ yX4_listMatches zX4_listMatches T [vR 104 0, vI d] (po_X4_listMatches T d) := by
  refine ct_of pn_4 rfl rfl (Nat.le_of_ble_eq_true rfl) (fun hT hav => ?_)
  have hr_d : -2147483648 ≤ d ∧ d ≤ 2147483647 := hav (vI d) (List.mem_cons_of_mem _ List.mem_cons_self)
  have hz : zX4_listMatches.2.2.2.1 = some .boolean → ∀ (T' : Zt) (x : Int), po_X4_listMatches T d T' (some (vI x)) → 0 ≤ x ∧ x ≤ 1 := fun h => by cases h
  have hb_matchCount : 0 ≤ T 106 0 4 ∧ T 106 0 4 ≤ 400 := bd_f hT 106 4 tl_6_4 0
  show J_ zX4_listMatches T (po_X4_listMatches T d) 0 0 0 [some (vR 104 0), some (vI d), none, none] [] T
  have c_7 : ∀ (nn : Nat) (k : Int) (T1 : Zt), ((400 - k).toNat) ≤ nn → (fr_ [(104, [3]), (482, [])] T T1) → (0 ≤ k ∧ k ≤ T 106 0 4 ∧ 0 ≤ T1 104 0 3 ∧ T1 104 0 3 ≤ k) → (LS_ T (T1 482 0) d (T1 104 0 3) k) → J_ zX4_listMatches T (po_X4_listMatches T d) 0 0 7 [some (vR 104 0), some (vI d), some (vI k), none] [] T1 := by
    intro nn
    induction nn using Nat.strongRecOn with
    | _ nn ih_7 =>
      intro k T1 hm_7 hf_7 i1 ls1
      replace hm_7 := fun (_ : Unit) => hm_7
      refine j_blx (F := fX4) tb_X4 (nn_ _) bk_X4_listMatches_7 bs_X4_listMatches_7 hz (fun K hK => ?_)
      intro b1 b1b
      have e2 : T1 106 0 4 = T 106 0 4 := hf_7 106 0 4 rfl
      rw [e2] at b1 b1b ⊢
      refine And.intro (fun c3 => ?_) (fun c3 => ?_)
      · refine hK 69 _ [] T1 ?_
        refine j_blx (F := fX4) tb_X4 (nn_ _) bk_X4_listMatches_69 bs_X4_listMatches_69 hz (fun K hK => ?_)
        refine (show po_X4_listMatches T d T1 (none) from ?_)
        have y0 := LS_48 (L := T1 482 0) (d := d) (n := T1 104 0 3) hT (LS_m ls1 (by omega)) hkm hdd
        exact ⟨rfl, hf_7, by omega, LS_m ls1 (by omega)⟩
      · refine ix_i (by omega) ?_
        have e5 : T1 523 0 k = T 523 0 k := hf_7 523 0 k rfl
        refine And.intro (fun c4 => ?_) (fun c4 => ?_)
        · exact absurd (show T 523 0 (k) = 0 by omega) (hka.2 _ (by omega) (by omega))
        · intro b6 b6b
          have e7 : T1 102 k 5 = T 102 k 5 := hf_7 102 k 5 rfl
          rw [e7] at b6 b6b ⊢
          refine And.intro (fun c8 => ?_) (fun c8 => ?_)
          · refine hK 63 [some (vR 104 0), some (vI d), some (vI k), some (vR 102 k)] [] T1 ?_
            refine j_blx (F := fX4) tb_X4 (nn_ _) bk_X4_listMatches_63 bs_X4_listMatches_63 hz (fun K hK => ?_)
            refine rg_i (by omega) ?_
            refine hK 7 [some (vR 104 0), some (vI d), some (vI (k + 1)), some (vR 102 k)] [] T1 ?_
            refine j_drop [some (vR 104 0), some (vI d), some (vI (k + 1)), none] (fun k v hk => ?_) rfl ?_
            · match k, hk with
              | 0, hk => exact hk
              | 1, hk => exact hk
              | 2, hk => exact hk
              | 3, hk => cases hk
              | k + 4, hk => cases hk
            refine ih_7 _ ?_ (k + 1) T1 (Nat.le_refl _) ?_ ?_ ?_
            · have hm_7 := hm_7 (); omega
            · exact fr_t (fr_0 _ _) (fr_s hf_7 rfl)
            · omega
            · exact LS_m ls1 (by omega)
          · refine hK 37 [some (vR 104 0), some (vI d), some (vI k), some (vR 102 k)] [vR 102 k] T1 ?_
            refine j_callV (y := yX2_isDecided) (Yc := zX2_isDecided) (rest := []) [] (ct_X2_isDecided_k (T := T1)) cl_X4_63 (qd_c (by decide +kernel)) (nn_ _) rfl (rf_of rfl) (Nat.le_of_ble_eq_true rfl) (Nat.le_of_ble_eq_true rfl) (Nat.le_of_ble_eq_true rfl) rfl ?_
            rintro _ _ ⟨rfl, x9, rfl, hx9⟩
            show J_ zX4_listMatches T (po_X4_listMatches T d) 0 0 40 _ [vI x9] T1
            refine j_blx (F := fX4) tb_X4 (nn_ _) bk_X4_listMatches_40 bs_X4_listMatches_40 hz (fun K hK => ?_)
            refine And.intro (fun c10 => ?_) (fun c10 => ?_)
            · refine hK 63 _ [] T1 ?_
              refine j_blx (F := fX4) tb_X4 (nn_ _) bk_X4_listMatches_63 bs_X4_listMatches_63 hz (fun K hK => ?_)
              refine rg_i (by omega) ?_
              refine hK 7 [some (vR 104 0), some (vI d), some (vI (k + 1)), some (vR 102 k)] [] T1 ?_
              refine j_drop [some (vR 104 0), some (vI d), some (vI (k + 1)), none] (fun k v hk => ?_) rfl ?_
              · match k, hk with
                | 0, hk => exact hk
                | 1, hk => exact hk
                | 2, hk => exact hk
                | 3, hk => cases hk
                | k + 4, hk => cases hk
              refine ih_7 _ ?_ (k + 1) T1 (Nat.le_refl _) ?_ ?_ ?_
              · have hm_7 := hm_7 (); omega
              · exact fr_t (fr_0 _ _) (fr_s hf_7 rfl)
              · omega
              · exact LS_m ls1 (by omega)
            · intro b11 b11b
              refine iy_i (by omega) (by omega) ?_
              refine x_nm (fun U12 hU12 => ?_)
              have e13 := up_f hU12
              intro b14 b14b
              have e15 : U12 104 0 3 = T1 104 0 3 := up_k hU12 (by exact Nat.ne_of_beq_eq_false rfl) 0 3
              rw [e15] at b14 b14b ⊢
              refine rg_i (by omega) ?_
              refine bd_i (by omega) ?_
              refine x_nm (fun U16 hU16 => ?_)
              have e17 := up_f hU16
              refine rg_i (by omega) ?_
              refine hK 7 [some (vR 104 0), some (vI d), some (vI (k + 1)), some (vR 102 k)] [] U16 ?_
              refine j_drop [some (vR 104 0), some (vI d), some (vI (k + 1)), none] (fun k v hk => ?_) rfl ?_
              · match k, hk with
                | 0, hk => exact hk
                | 1, hk => exact hk
                | 2, hk => exact hk
                | 3, hk => cases hk
                | k + 4, hk => cases hk
              have e18 : U16 104 0 3 = (T1 104 0 3) + 1 := up_f hU16
              refine ih_7 _ ?_ (k + 1) U16 (Nat.le_refl _) ?_ ?_ ?_
              · have hm_7 := hm_7 (); omega
              · exact fr_u (fr_u (fr_t (fr_0 _ _) (fr_s hf_7 rfl)) hU12 rfl) hU16 rfl
              · omega
              · have y1 : U16 104 0 3 = T1 104 0 3 + 1 := by have := up_f hU16; omega
                have y2 : ∀ j, U16 482 0 j = U12 482 0 j := fun j => up_k hU16 (by exact Nat.ne_of_beq_eq_false rfl) _ _
                rw [y1, show (U16 482 0) = (U12 482 0) from funext y2]
                have z1 : T1 102 k 6 = T 102 k 6 := hf_7 102 k 6 rfl
                have z2 : T1 102 k 5 = T 102 k 5 := hf_7 102 k 5 rfl
                exact LS_u ls1 (up_f hU12) (fun j hj => up_g hU12 (fun q => by omega)) (by omega)
  refine j_blx (F := fX4) tb_X4 (nn_ _) bk_X4_listMatches_0 bs_X4_listMatches_0 hz (fun K hK => ?_)
  refine bd_i (by omega) ?_
  refine x_nm (fun U19 hU19 => ?_)
  have e20 := up_f hU19
  refine hK 7 [some (vR 104 0), some (vI d), some (vI 0), none] [] U19 ?_
  have e21 : U19 104 0 3 = 0 := up_f hU19
  refine c_7 _ 0 U19 (Nat.le_refl _) ?_ ?_ ?_
  · exact fr_u (fr_0 _ _) hU19 rfl
  · omega
  · exact ⟨fun j a b => by have := up_f hU19; omega, fun a b x y z => by have := up_f hU19; omega⟩
abbrev cX4_weighAll : ByteArray := prog_6_method_4_code
def yX4_weighAll : MethodName := ⟨RX4, "weighAll", "(I)V"⟩
def zX4_weighAll : Zm := (RX4, cX4_weighAll, 6, none, { frames := 3, cells := 1, slots := 12544, locals := 73 })
set_option maxRecDepth 100000 in
theorem cl_X4_67 : cv_ RX4 67 yX4_weigh zX4_weigh 4 4 := ⟨gi_V (lwq_6 (dqc_m (dqc_m (dqc_m (dqc_m (dqc_m (dqc_m (List.mem_of_getElem? (i := 7) rfl))))))) rfl : Cond.methodLink RX4 67 yX4_weigh ∈ lw_g) (lwq_6 (dqc_m (dqc_m (dqc_m (dqc_m (dqc_m (dqc_m (dqa_m (List.mem_of_getElem? (i := 1) rfl)))))))) rfl : Cond.instanceMethod yX4_weigh ∈ lw_g) (lw_sel 106 rfl : Cond.selects yX4_weigh.cls yX4_weigh yX4_weigh ∈ lw_g) (lwq_1 (dqa_m (List.mem_of_getElem? (i := 1) rfl)) rfl : Cond.initialized yX4_weigh.cls ∈ lw_g) (lwq_6 (dqc_m (dqc_m (dqc_m (dqc_m (dqc_m (dqc_m (dqa_m (List.mem_of_getElem? (i := 2) rfl)))))))) rfl : Cond.code yX4_weigh cX4_weigh 9 (some .int) ∈ lw_g), ⟨nmh_4.1, nmh_4.2, pdq_37⟩, ⟨_, _, rfl⟩⟩
theorem fr5_X4_15 : fr5_ RX4 15 4 4 := ⟨_, _, _, rfl, by decide, by decide, (lwq_2 (dqc_m (dqc_m (dqc_m (dqc_m (dqa_m (dqa_m (dqa_m (List.mem_of_getElem? (i := 1) rfl)))))))) rfl : Cond.fieldLink RX4 15 _ _ _ ∈ lw_g), rfl, fun a => ⟨.array .int, by decide +kernel, rfl, rfl⟩⟩
abbrev cX4_share : ByteArray := prog_6_method_2_code
def yX4_share : MethodName := ⟨RX4, "share", "(I)I"⟩
def zX4_share : Zm := (RX4, cX4_share, 8, (some .int), { frames := 4, cells := 1, slots := 12544, locals := 98 })
set_option maxRecDepth 100000 in
theorem cl_X4_48 : cv_ RX4 48 yX4_firstBest zX4_firstBest 4 4 := ⟨gi_V (lwq_6 (dqc_m (dqc_m (dqc_m (dqc_m (dqc_m (dqc_m (dqa_m (dqa_m (List.mem_of_getElem? (i := 1) rfl))))))))) rfl : Cond.methodLink RX4 48 yX4_firstBest ∈ lw_g) (lwq_6 (dqc_m (dqc_m (dqc_m (dqc_m (dqc_m (dqc_m (dqa_m (dqa_m (List.mem_of_getElem? (i := 3) rfl))))))))) rfl : Cond.instanceMethod yX4_firstBest ∈ lw_g) (lw_sel 103 rfl : Cond.selects yX4_firstBest.cls yX4_firstBest yX4_firstBest ∈ lw_g) (lwq_1 (dqa_m (List.mem_of_getElem? (i := 1) rfl)) rfl : Cond.initialized yX4_firstBest.cls ∈ lw_g) (lwq_6 (dqc_m (dqc_m (dqc_m (dqc_m (dqc_m (dqc_m (dqa_m (dqa_m (List.mem_of_getElem? (i := 4) rfl))))))))) rfl : Cond.code yX4_firstBest cX4_firstBest 8 (some .int) ∈ lw_g), ⟨nmh_4.1, nmh_4.2, pdq_37⟩, ⟨_, _, rfl⟩⟩
set_option maxRecDepth 100000 in
theorem cl_X4_26 : cv_ RX4 26 yX4_listMatches zX4_listMatches 4 1 := ⟨gi_V (lwq_6 (dqc_m (dqc_m (dqc_m (dqc_m (dqc_m (dqa_m (dqa_m (dqa_m (List.mem_of_getElem? (i := 6) rfl))))))))) rfl : Cond.methodLink RX4 26 yX4_listMatches ∈ lw_g) (lwq_6 (dqc_m (dqc_m (dqc_m (dqc_m (dqc_m (dqc_m (List.mem_of_getElem? (i := 0) rfl))))))) rfl : Cond.instanceMethod yX4_listMatches ∈ lw_g) (lw_sel 105 rfl : Cond.selects yX4_listMatches.cls yX4_listMatches yX4_listMatches ∈ lw_g) (lwq_1 (dqa_m (List.mem_of_getElem? (i := 1) rfl)) rfl : Cond.initialized yX4_listMatches.cls ∈ lw_g) (lwq_6 (dqc_m (dqc_m (dqc_m (dqc_m (dqc_m (dqc_m (List.mem_of_getElem? (i := 1) rfl))))))) rfl : Cond.code yX4_listMatches cX4_listMatches 4 none ∈ lw_g), ⟨nmh_4.1, nmh_4.2, pdq_9⟩, ⟨_, _, rfl⟩⟩
set_option maxRecDepth 100000 in
theorem cl_X4_36 : cv_ RX4 36 yX4_weighAll zX4_weighAll 4 1 := ⟨gi_V (lwq_6 (dqc_m (dqc_m (dqc_m (dqc_m (dqc_m (dqc_m (List.mem_of_getElem? (i := 3) rfl))))))) rfl : Cond.methodLink RX4 36 yX4_weighAll ∈ lw_g) (lwq_6 (dqc_m (dqc_m (dqc_m (dqc_m (dqc_m (dqc_m (List.mem_of_getElem? (i := 5) rfl))))))) rfl : Cond.instanceMethod yX4_weighAll ∈ lw_g) (lw_sel 107 rfl : Cond.selects yX4_weighAll.cls yX4_weighAll yX4_weighAll ∈ lw_g) (lwq_1 (dqa_m (List.mem_of_getElem? (i := 1) rfl)) rfl : Cond.initialized yX4_weighAll.cls ∈ lw_g) (lwq_6 (dqc_m (dqc_m (dqc_m (dqc_m (dqc_m (dqc_m (List.mem_of_getElem? (i := 6) rfl))))))) rfl : Cond.code yX4_weighAll cX4_weighAll 6 none ∈ lw_g), ⟨nmh_4.1, nmh_4.2, pdq_9⟩, ⟨_, _, rfl⟩⟩
abbrev cX10_assign : ByteArray := prog_1_method_42_code
def yX10_assign : MethodName := ⟨RX10, "assign", "(I)I"⟩
def zX10_assign : Zm := (RX10, cX10_assign, 2, (some .int), { frames := 5, cells := 1, slots := 12544, locals := 125 })
set_option maxRecDepth 100000 in
theorem cl_X10_423 : cv_ RX10 423 yX4_share zX4_share 4 1 := ⟨gi_V (lwq_6 (dqc_m (dqc_m (dqc_m (dqc_m (dqc_m (dqa_m (dqa_m (dqa_m (List.mem_of_getElem? (i := 2) rfl))))))))) rfl : Cond.methodLink RX10 423 yX4_share ∈ lw_g) (lwq_6 (dqc_m (dqc_m (dqc_m (dqc_m (dqc_m (dqa_m (dqa_m (dqa_m (List.mem_of_getElem? (i := 3) rfl))))))))) rfl : Cond.instanceMethod yX4_share ∈ lw_g) (lwq_6 (dqc_m (dqc_m (dqc_m (dqc_m (dqc_m (dqa_m (dqa_m (dqa_m (List.mem_of_getElem? (i := 4) rfl))))))))) rfl : Cond.selects yX4_share.cls yX4_share yX4_share ∈ lw_g) (lwq_1 (dqa_m (List.mem_of_getElem? (i := 1) rfl)) rfl : Cond.initialized yX4_share.cls ∈ lw_g) (lwq_6 (dqc_m (dqc_m (dqc_m (dqc_m (dqc_m (dqa_m (dqa_m (dqa_m (List.mem_of_getElem? (i := 5) rfl))))))))) rfl : Cond.code yX4_share cX4_share 8 (some .int) ∈ lw_g), ⟨nmh_4.1, nmh_4.2, pdq_15⟩, ⟨_, _, rfl⟩⟩
abbrev po_X10_assign (T : Zt) (d : Int) : Zt → Option Zv → Prop := fun T' r => ∃ x : Int, r = some (vI x) ∧ fr_ [(104, [3, 4]), (482, []), (102, [7]), (190, []), (191, [0])] T T' ∧ lh_ T T' ∧ T' 191 0 0 ≤ T 191 0 0 + 1
abbrev cX9_search : ByteArray := prog_11_method_6_code
def yX9_search : MethodName := ⟨RX9, "search", "(I)Z"⟩
def zX9_search_0 : Zm := (RX9, cX9_search, 9, (some .boolean), { frames := 1, cells := 0, slots := 0, locals := 28 })
theorem bk_X9_search_0 : ck_ fX9 (some .boolean) cX9_search 0 [.iload 1, .aload 0, .tableswitch 0 9 9 #[], .if_icmp .ge 14, .iload 1, .iconst 8, .if_icmp .lt 16, .iconst 1, .ireturn] 16 = true := qck_r (nn_ _) (by decide +kernel)
theorem bs_X9_search_0 {P : Zt → Option Zv → Prop} (K : Int → Zl → List Zv → Zt → Prop) : sx_ K P [.iload 1, .aload 0, .tableswitch 0 9 9 #[], .if_icmp .ge 14, .iload 1, .iconst 8, .if_icmp .lt 16, .iconst 1, .ireturn] 16 = x_iload 1 (x_aload 0 (x_g0 109 9 0 40 (x_if_icmp .ge 14 K (x_iload 1 (x_iconst 8 (x_if_icmp .lt 16 K (x_iconst 1 (x_ireturn P)))))))) := ((xe_iload 1).trans (congrArg (x_iload 1) ((xe_aload 0).trans (congrArg (x_aload 0) ((xe_g0 (kk := 109) rfl tl_9_9).trans (congrArg (x_g0 109 9 0 40) ((xe_if_icmp .ge 14).trans (congrArg (x_if_icmp .ge 14 K) ((xe_iload 1).trans (congrArg (x_iload 1) ((xe_iconst 8).trans (congrArg (x_iconst 8) ((xe_if_icmp .lt 16).trans (congrArg (x_if_icmp .lt 16 K) ((xe_iconst 1).trans (congrArg (x_iconst 1) (xe_ireturn)))))))))))))))))
theorem bk_X9_search_14 : ck_ fX9 (some .boolean) cX9_search 14 [.iconst 1, .ireturn] 16 = true := qck_r (nn_ _) (by decide +kernel)
theorem bs_X9_search_14 {P : Zt → Option Zv → Prop} (K : Int → Zl → List Zv → Zt → Prop) : sx_ K P [.iconst 1, .ireturn] 16 = x_iconst 1 (x_ireturn P) := ((xe_iconst 1).trans (congrArg (x_iconst 1) (xe_ireturn)))
abbrev po_X9_search_0 (T : Zt) (k : Int) : Zt → Option Zv → Prop := fun T' r => ∃ x : Int, r = some (vI x) ∧ fr_ [(587, []), (584, [])] T T' ∧ (0 ≤ x ∧ x ≤ 1)
set_option maxHeartbeats 4000000 in
theorem ct_X9_search_0 {T : Zt} {k : Int} (hq9 : Q9_ T) (hka : KA_ T) (hk : 0 ≤ k ∧ 8 ≤ k) : Ct_ yX9_search zX9_search_0 T [vR 109 0, vI k] (po_X9_search_0 T k) := by
  refine ct_of pn_9 rfl rfl (Nat.le_of_ble_eq_true rfl) (fun hT hav => ?_)
  have hr_k : -2147483648 ≤ k ∧ k ≤ 2147483647 := hav (vI k) (List.mem_cons_of_mem _ List.mem_cons_self)
  have hz : zX9_search_0.2.2.2.1 = some .boolean → ∀ (T' : Zt) (x : Int), po_X9_search_0 T k T' (some (vI x)) → 0 ≤ x ∧ x ≤ 1 := fun _ T' x h => by obtain ⟨y, e, -, hy⟩ := h; cases e; omega
  have hct := hq9.1
  have hbo : 0 ≤ T 109 0 9 ∧ T 109 0 9 ≤ 40 := bd_f hT 109 9 tl_9_9 0
  show J_ zX9_search_0 T (po_X9_search_0 T k) 0 0 0 [some (vR 109 0), some (vI k), none, none, none, none, none, none, none] [] T
  refine j_blx (F := fX9) tb_X9 (nn_ _) bk_X9_search_0 bs_X9_search_0 hz (fun K hK => ?_)
  intro b1 b1b
  refine And.intro (fun c2 => ?_) (fun c2 => ?_)
  · refine hK 14 _ [] T ?_
    refine j_blx (F := fX9) tb_X9 (nn_ _) bk_X9_search_14 bs_X9_search_14 hz (fun K hK => ?_)
    refine (show po_X9_search_0 T k T (some (vI 1)) from ?_)
    exact ⟨_, rfl, fr_0 _ _, by omega⟩
  · refine And.intro (fun c3 => ?_) (fun c3 => ?_)
    · exact absurd c3 (by omega)
    · refine (show po_X9_search_0 T k T (some (vI 1)) from ?_)
      exact ⟨_, rfl, fr_0 _ _, by omega⟩
theorem bk_X9_search_61 : ck_ fX9 (some .boolean) cX9_search 61 [.iload 5, .iconst 2, .if_icmp .gt 209, .aload 0, .tableswitch 0 9 5 #[], .tableswitch 0 0 1 #[], .iconst 1, .iload 5, .iadd, .iaload, .istore 6, .aload 0, .tableswitch 0 9 5 #[], .tableswitch 0 0 1 #[], .iconst 3, .iload 5, .isub, .iaload, .istore 7, .aload 0, .tableswitch 0 9 7 #[], .iload 3, .dup2, .iaload, .iload 6, .fadd, .iastore, .aload 0, .tableswitch 0 9 7 #[], .iload 4, .dup2, .iaload, .iload 7, .fadd, .iastore, .aload 0, .tableswitch 0 9 4 #[], .aload 2, .tableswitch 0 2 1 #[], .iload 5, .iastore, .aload 0, .tableswitch 0 9 7 #[], .iload 3, .iaload, .aload 0, .tableswitch 0 9 6 #[], .if_icmp .gt 170, .aload 0, .tableswitch 0 9 7 #[], .iload 4, .iaload, .aload 0, .tableswitch 0 9 6 #[], .if_icmp .gt 170, .aload 0, .iload 1, .iconst 1, .iadd] 160 = true := qck_r (nn_ _) (by decide +kernel)
theorem bs_X9_search_61 {P : Zt → Option Zv → Prop} (K : Int → Zl → List Zv → Zt → Prop) : sx_ K P [.iload 5, .iconst 2, .if_icmp .gt 209, .aload 0, .tableswitch 0 9 5 #[], .tableswitch 0 0 1 #[], .iconst 1, .iload 5, .iadd, .iaload, .istore 6, .aload 0, .tableswitch 0 9 5 #[], .tableswitch 0 0 1 #[], .iconst 3, .iload 5, .isub, .iaload, .istore 7, .aload 0, .tableswitch 0 9 7 #[], .iload 3, .dup2, .iaload, .iload 6, .fadd, .iastore, .aload 0, .tableswitch 0 9 7 #[], .iload 4, .dup2, .iaload, .iload 7, .fadd, .iastore, .aload 0, .tableswitch 0 9 4 #[], .aload 2, .tableswitch 0 2 1 #[], .iload 5, .iastore, .aload 0, .tableswitch 0 9 7 #[], .iload 3, .iaload, .aload 0, .tableswitch 0 9 6 #[], .if_icmp .gt 170, .aload 0, .tableswitch 0 9 7 #[], .iload 4, .iaload, .aload 0, .tableswitch 0 9 6 #[], .if_icmp .gt 170, .aload 0, .iload 1, .iconst 1, .iadd] 160 = x_iload 5 (x_iconst 2 (x_if_icmp .gt 209 K (x_aload 0 (x_g5 109 100 5 (x_g2 100 401 (x_iconst 1 (x_iload 5 (x_iadd (x_iaload (x_istore 6 (x_aload 0 (x_g5 109 100 5 (x_g2 100 401 (x_iconst 3 (x_iload 5 (x_isub (x_iaload (x_istore 7 (x_aload 0 (x_g1 109 587 (x_iload 3 (x_dup2 (x_iaload (x_iload 6 (x_fadd (x_iastore (x_aload 0 (x_g1 109 587 (x_iload 4 (x_dup2 (x_iaload (x_iload 7 (x_fadd (x_iastore (x_aload 0 (x_g1 109 584 (x_aload 2 (x_g0 102 1 0 399 (x_iload 5 (x_iastore (x_aload 0 (x_g1 109 587 (x_iload 3 (x_iaload (x_aload 0 (x_g0 109 6 (-2147483648) 2147483647 (x_if_icmp .gt 170 K (x_aload 0 (x_g1 109 587 (x_iload 4 (x_iaload (x_aload 0 (x_g0 109 6 (-2147483648) 2147483647 (x_if_icmp .gt 170 K (x_aload 0 (x_iload 1 (x_iconst 1 (x_iadd (K 160))))))))))))))))))))))))))))))))))))))))))))))))))))))))))) := ((xe_iload 5).trans (congrArg (x_iload 5) ((xe_iconst 2).trans (congrArg (x_iconst 2) ((xe_if_icmp .gt 209).trans (congrArg (x_if_icmp .gt 209 K) ((xe_aload 0).trans (congrArg (x_aload 0) ((xe_g5 (kk := 109) rfl tl_9_5).trans (congrArg (x_g5 109 100 5) ((xe_g2 (kk := 100) rfl tl_0_1).trans (congrArg (x_g2 100 401) ((xe_iconst 1).trans (congrArg (x_iconst 1) ((xe_iload 5).trans (congrArg (x_iload 5) ((xe_iadd).trans (congrArg (x_iadd) ((xe_iaload).trans (congrArg (x_iaload) ((xe_istore 6).trans (congrArg (x_istore 6) ((xe_aload 0).trans (congrArg (x_aload 0) ((xe_g5 (kk := 109) rfl tl_9_5).trans (congrArg (x_g5 109 100 5) ((xe_g2 (kk := 100) rfl tl_0_1).trans (congrArg (x_g2 100 401) ((xe_iconst 3).trans (congrArg (x_iconst 3) ((xe_iload 5).trans (congrArg (x_iload 5) ((xe_isub).trans (congrArg (x_isub) ((xe_iaload).trans (congrArg (x_iaload) ((xe_istore 7).trans (congrArg (x_istore 7) ((xe_aload 0).trans (congrArg (x_aload 0) ((xe_g1 (kk := 109) rfl tl_9_7).trans (congrArg (x_g1 109 587) ((xe_iload 3).trans (congrArg (x_iload 3) ((xe_dup2).trans (congrArg (x_dup2) ((xe_iaload).trans (congrArg (x_iaload) ((xe_iload 6).trans (congrArg (x_iload 6) ((xe_fadd).trans (congrArg (x_fadd) ((xe_iastore).trans (congrArg (x_iastore) ((xe_aload 0).trans (congrArg (x_aload 0) ((xe_g1 (kk := 109) rfl tl_9_7).trans (congrArg (x_g1 109 587) ((xe_iload 4).trans (congrArg (x_iload 4) ((xe_dup2).trans (congrArg (x_dup2) ((xe_iaload).trans (congrArg (x_iaload) ((xe_iload 7).trans (congrArg (x_iload 7) ((xe_fadd).trans (congrArg (x_fadd) ((xe_iastore).trans (congrArg (x_iastore) ((xe_aload 0).trans (congrArg (x_aload 0) ((xe_g1 (kk := 109) rfl tl_9_4).trans (congrArg (x_g1 109 584) ((xe_aload 2).trans (congrArg (x_aload 2) ((xe_g0 (kk := 102) rfl tl_2_1).trans (congrArg (x_g0 102 1 0 399) ((xe_iload 5).trans (congrArg (x_iload 5) ((xe_iastore).trans (congrArg (x_iastore) ((xe_aload 0).trans (congrArg (x_aload 0) ((xe_g1 (kk := 109) rfl tl_9_7).trans (congrArg (x_g1 109 587) ((xe_iload 3).trans (congrArg (x_iload 3) ((xe_iaload).trans (congrArg (x_iaload) ((xe_aload 0).trans (congrArg (x_aload 0) ((xe_g0 (kk := 109) rfl tl_9_6).trans (congrArg (x_g0 109 6 (-2147483648) 2147483647) ((xe_if_icmp .gt 170).trans (congrArg (x_if_icmp .gt 170 K) ((xe_aload 0).trans (congrArg (x_aload 0) ((xe_g1 (kk := 109) rfl tl_9_7).trans (congrArg (x_g1 109 587) ((xe_iload 4).trans (congrArg (x_iload 4) ((xe_iaload).trans (congrArg (x_iaload) ((xe_aload 0).trans (congrArg (x_aload 0) ((xe_g0 (kk := 109) rfl tl_9_6).trans (congrArg (x_g0 109 6 (-2147483648) 2147483647) ((xe_if_icmp .gt 170).trans (congrArg (x_if_icmp .gt 170 K) ((xe_aload 0).trans (congrArg (x_aload 0) ((xe_iload 1).trans (congrArg (x_iload 1) ((xe_iconst 1).trans (congrArg (x_iconst 1) ((xe_iadd).trans (congrArg (x_iadd) xe_nil))))))))))))))))))))))))))))))))))))))))))))))))))))))))))))))))))))))))))))))))))))))))))))))))))))))))))))))))))))))
theorem bk_X9_search_209 : ck_ fX9 (some .boolean) cX9_search 209 [.aload 0, .tableswitch 0 9 4 #[], .aload 2, .tableswitch 0 2 1 #[], .iconst (-1), .iastore, .iconst 0, .ireturn] 221 = true := qck_r (nn_ _) (by decide +kernel)
theorem bs_X9_search_209 {P : Zt → Option Zv → Prop} (K : Int → Zl → List Zv → Zt → Prop) : sx_ K P [.aload 0, .tableswitch 0 9 4 #[], .aload 2, .tableswitch 0 2 1 #[], .iconst (-1), .iastore, .iconst 0, .ireturn] 221 = x_aload 0 (x_g1 109 584 (x_aload 2 (x_g0 102 1 0 399 (x_iconst (-1) (x_iastore (x_iconst 0 (x_ireturn P))))))) := ((xe_aload 0).trans (congrArg (x_aload 0) ((xe_g1 (kk := 109) rfl tl_9_4).trans (congrArg (x_g1 109 584) ((xe_aload 2).trans (congrArg (x_aload 2) ((xe_g0 (kk := 102) rfl tl_2_1).trans (congrArg (x_g0 102 1 0 399) ((xe_iconst (-1)).trans (congrArg (x_iconst (-1)) ((xe_iastore).trans (congrArg (x_iastore) ((xe_iconst 0).trans (congrArg (x_iconst 0) (xe_ireturn)))))))))))))))
theorem bk_X9_search_170 : ck_ fX9 (some .boolean) cX9_search 170 [.iconst 0, .istore 8, .aload 0, .tableswitch 0 9 7 #[], .iload 3, .dup2, .iaload, .iload 6, .fsub, .iastore, .aload 0, .tableswitch 0 9 7 #[], .iload 4, .dup2, .iaload, .iload 7, .fsub, .iastore, .iload 8, .ifCond .eq 203, .iconst 1, .ireturn] 203 = true := qck_r (nn_ _) (by decide +kernel)
theorem bs_X9_search_170 {P : Zt → Option Zv → Prop} (K : Int → Zl → List Zv → Zt → Prop) : sx_ K P [.iconst 0, .istore 8, .aload 0, .tableswitch 0 9 7 #[], .iload 3, .dup2, .iaload, .iload 6, .fsub, .iastore, .aload 0, .tableswitch 0 9 7 #[], .iload 4, .dup2, .iaload, .iload 7, .fsub, .iastore, .iload 8, .ifCond .eq 203, .iconst 1, .ireturn] 203 = x_iconst 0 (x_istore 8 (x_aload 0 (x_g1 109 587 (x_iload 3 (x_dup2 (x_iaload (x_iload 6 (x_fsub (x_iastore (x_aload 0 (x_g1 109 587 (x_iload 4 (x_dup2 (x_iaload (x_iload 7 (x_fsub (x_iastore (x_iload 8 (x_ifCond .eq 203 K (x_iconst 1 (x_ireturn P))))))))))))))))))))) := ((xe_iconst 0).trans (congrArg (x_iconst 0) ((xe_istore 8).trans (congrArg (x_istore 8) ((xe_aload 0).trans (congrArg (x_aload 0) ((xe_g1 (kk := 109) rfl tl_9_7).trans (congrArg (x_g1 109 587) ((xe_iload 3).trans (congrArg (x_iload 3) ((xe_dup2).trans (congrArg (x_dup2) ((xe_iaload).trans (congrArg (x_iaload) ((xe_iload 6).trans (congrArg (x_iload 6) ((xe_fsub).trans (congrArg (x_fsub) ((xe_iastore).trans (congrArg (x_iastore) ((xe_aload 0).trans (congrArg (x_aload 0) ((xe_g1 (kk := 109) rfl tl_9_7).trans (congrArg (x_g1 109 587) ((xe_iload 4).trans (congrArg (x_iload 4) ((xe_dup2).trans (congrArg (x_dup2) ((xe_iaload).trans (congrArg (x_iaload) ((xe_iload 7).trans (congrArg (x_iload 7) ((xe_fsub).trans (congrArg (x_fsub) ((xe_iastore).trans (congrArg (x_iastore) ((xe_iload 8).trans (congrArg (x_iload 8) ((xe_ifCond .eq 203).trans (congrArg (x_ifCond .eq 203 K) ((xe_iconst 1).trans (congrArg (x_iconst 1) (xe_ireturn)))))))))))))))))))))))))))))))))))))))))))
theorem bk_X9_search_203 : ck_ fX9 (some .boolean) cX9_search 203 [.iinc 5 1, .goto 61] 209 = true := qck_r (nn_ _) (by decide +kernel)
theorem bs_X9_search_203 {P : Zt → Option Zv → Prop} (K : Int → Zl → List Zv → Zt → Prop) : sx_ K P [.iinc 5 1, .goto 61] 209 = x_iinc 5 1 (x_goto 61 K) := ((xe_iinc 5 1).trans (congrArg (x_iinc 5 1) (xe_goto 61)))
def zX9_sq (n : Nat) : Zm := (RX9, cX9_search, 9, (some .boolean), { frames := n + 1, cells := 0, slots := 0, locals := 28 * (n + 1) })
theorem rf_sq (n : Nat) : rf_ (zX9_sq n) (zX9_sq (n + 1)) = true := by
  unfold rf_
  rw [Bool.and_eq_true, decide_eq_true_eq, decide_eq_true_eq]
  show n + 1 + 1 ≤ n + 1 + 1 ∧ 8 + (9 + 11) + 28 * (n + 1) ≤ 28 * (n + 1 + 1)
  omega
set_option maxRecDepth 100000 in
theorem cl_sq (n : Nat) : cv_ RX9 91 yX9_search (zX9_sq n) 9 1 := ⟨gi_V (lwq_6 (dqc_m (dqc_m (dqa_m (dqa_m (dqa_m (List.mem_of_getElem? (i := 7) rfl)))))) rfl : Cond.methodLink RX9 91 yX9_search ∈ lw_g) (lwq_6 (dqc_m (dqc_m (dqc_m (List.mem_of_getElem? (i := 1) rfl)))) rfl : Cond.instanceMethod yX9_search ∈ lw_g) (lw_sel 144 rfl : Cond.selects yX9_search.cls yX9_search yX9_search ∈ lw_g) (lwq_1 (List.mem_of_getElem? (i := 6) rfl) rfl : Cond.initialized yX9_search.cls ∈ lw_g) (lwq_6 (dqc_m (dqc_m (dqc_m (List.mem_of_getElem? (i := 2) rfl)))) rfl : Cond.code yX9_search cX9_search 9 (some .boolean) ∈ lw_g), ⟨nmh_8.1, nmh_8.2, pdq_7⟩, ⟨_, _, rfl⟩⟩
theorem bk_X9_search_163 : ck_ fX9 (some .boolean) cX9_search 163 [.ifCond .eq 170, .iconst 1, .goto 171] 170 = true := qck_r (nn_ _) (by decide +kernel)
theorem bs_X9_search_163 {P : Zt → Option Zv → Prop} (K : Int → Zl → List Zv → Zt → Prop) : sx_ K P [.ifCond .eq 170, .iconst 1, .goto 171] 170 = x_ifCond .eq 170 K (x_iconst 1 (x_goto 171 K)) := ((xe_ifCond .eq 170).trans (congrArg (x_ifCond .eq 170 K) ((xe_iconst 1).trans (congrArg (x_iconst 1) (xe_goto 171)))))
theorem bk_X9_search_171 : ck_ fX9 (some .boolean) cX9_search 171 [.istore 8, .aload 0, .tableswitch 0 9 7 #[], .iload 3, .dup2, .iaload, .iload 6, .fsub, .iastore, .aload 0, .tableswitch 0 9 7 #[], .iload 4, .dup2, .iaload, .iload 7, .fsub, .iastore, .iload 8, .ifCond .eq 203, .iconst 1, .ireturn] 203 = true := qck_r (nn_ _) (by decide +kernel)
theorem bs_X9_search_171 {P : Zt → Option Zv → Prop} (K : Int → Zl → List Zv → Zt → Prop) : sx_ K P [.istore 8, .aload 0, .tableswitch 0 9 7 #[], .iload 3, .dup2, .iaload, .iload 6, .fsub, .iastore, .aload 0, .tableswitch 0 9 7 #[], .iload 4, .dup2, .iaload, .iload 7, .fsub, .iastore, .iload 8, .ifCond .eq 203, .iconst 1, .ireturn] 203 = x_istore 8 (x_aload 0 (x_g1 109 587 (x_iload 3 (x_dup2 (x_iaload (x_iload 6 (x_fsub (x_iastore (x_aload 0 (x_g1 109 587 (x_iload 4 (x_dup2 (x_iaload (x_iload 7 (x_fsub (x_iastore (x_iload 8 (x_ifCond .eq 203 K (x_iconst 1 (x_ireturn P)))))))))))))))))))) := ((xe_istore 8).trans (congrArg (x_istore 8) ((xe_aload 0).trans (congrArg (x_aload 0) ((xe_g1 (kk := 109) rfl tl_9_7).trans (congrArg (x_g1 109 587) ((xe_iload 3).trans (congrArg (x_iload 3) ((xe_dup2).trans (congrArg (x_dup2) ((xe_iaload).trans (congrArg (x_iaload) ((xe_iload 6).trans (congrArg (x_iload 6) ((xe_fsub).trans (congrArg (x_fsub) ((xe_iastore).trans (congrArg (x_iastore) ((xe_aload 0).trans (congrArg (x_aload 0) ((xe_g1 (kk := 109) rfl tl_9_7).trans (congrArg (x_g1 109 587) ((xe_iload 4).trans (congrArg (x_iload 4) ((xe_dup2).trans (congrArg (x_dup2) ((xe_iaload).trans (congrArg (x_iaload) ((xe_iload 7).trans (congrArg (x_iload 7) ((xe_fsub).trans (congrArg (x_fsub) ((xe_iastore).trans (congrArg (x_iastore) ((xe_iload 8).trans (congrArg (x_iload 8) ((xe_ifCond .eq 203).trans (congrArg (x_ifCond .eq 203 K) ((xe_iconst 1).trans (congrArg (x_iconst 1) (xe_ireturn)))))))))))))))))))))))))))))))))))))))))
theorem bk_X9_search_16 : ck_ fX9 (some .boolean) cX9_search 16 [.aload 0, .tableswitch 0 9 0 #[], .tableswitch 0 6 3 #[], .aload 0, .tableswitch 0 9 8 #[], .iload 1, .iaload, .aaload, .astore 2, .aload 0, .tableswitch 0 9 5 #[], .tableswitch 0 0 4 #[], .aload 2, .tableswitch 0 2 3 #[], .iaload, .istore 3, .aload 0, .tableswitch 0 9 5 #[], .tableswitch 0 0 4 #[], .aload 2, .tableswitch 0 2 4 #[], .iaload, .istore 4, .iconst 0, .istore 5] 61 = true := qck_r (nn_ _) (by decide +kernel)
theorem bs_X9_search_16 {P : Zt → Option Zv → Prop} (K : Int → Zl → List Zv → Zt → Prop) : sx_ K P [.aload 0, .tableswitch 0 9 0 #[], .tableswitch 0 6 3 #[], .aload 0, .tableswitch 0 9 8 #[], .iload 1, .iaload, .aaload, .astore 2, .aload 0, .tableswitch 0 9 5 #[], .tableswitch 0 0 4 #[], .aload 2, .tableswitch 0 2 3 #[], .iaload, .istore 3, .aload 0, .tableswitch 0 9 5 #[], .tableswitch 0 0 4 #[], .aload 2, .tableswitch 0 2 4 #[], .iaload, .istore 4, .iconst 0, .istore 5] 61 = x_aload 0 (x_g1 109 106 (x_g1 106 523 (x_aload 0 (x_g1 109 588 (x_iload 1 (x_iaload (x_aaload (x_astore 2 (x_aload 0 (x_g5 109 100 5 (x_g2 100 404 (x_aload 2 (x_g0 102 3 0 11 (x_iaload (x_istore 3 (x_aload 0 (x_g5 109 100 5 (x_g2 100 404 (x_aload 2 (x_g0 102 4 0 11 (x_iaload (x_istore 4 (x_iconst 0 (x_istore 5 (K 61))))))))))))))))))))))))) := ((xe_aload 0).trans (congrArg (x_aload 0) ((xe_g1 (kk := 109) rfl tl_9_0).trans (congrArg (x_g1 109 106) ((xe_g1 (kk := 106) rfl tl_6_3).trans (congrArg (x_g1 106 523) ((xe_aload 0).trans (congrArg (x_aload 0) ((xe_g1 (kk := 109) rfl tl_9_8).trans (congrArg (x_g1 109 588) ((xe_iload 1).trans (congrArg (x_iload 1) ((xe_iaload).trans (congrArg (x_iaload) ((xe_aaload).trans (congrArg (x_aaload) ((xe_astore 2).trans (congrArg (x_astore 2) ((xe_aload 0).trans (congrArg (x_aload 0) ((xe_g5 (kk := 109) rfl tl_9_5).trans (congrArg (x_g5 109 100 5) ((xe_g2 (kk := 100) rfl tl_0_4).trans (congrArg (x_g2 100 404) ((xe_aload 2).trans (congrArg (x_aload 2) ((xe_g0 (kk := 102) rfl tl_2_3).trans (congrArg (x_g0 102 3 0 11) ((xe_iaload).trans (congrArg (x_iaload) ((xe_istore 3).trans (congrArg (x_istore 3) ((xe_aload 0).trans (congrArg (x_aload 0) ((xe_g5 (kk := 109) rfl tl_9_5).trans (congrArg (x_g5 109 100 5) ((xe_g2 (kk := 100) rfl tl_0_4).trans (congrArg (x_g2 100 404) ((xe_aload 2).trans (congrArg (x_aload 2) ((xe_g0 (kk := 102) rfl tl_2_4).trans (congrArg (x_g0 102 4 0 11) ((xe_iaload).trans (congrArg (x_iaload) ((xe_istore 4).trans (congrArg (x_istore 4) ((xe_iconst 0).trans (congrArg (x_iconst 0) ((xe_istore 5).trans (congrArg (x_istore 5) xe_nil))))))))))))))))))))))))))))))))))))))))))))))))))
abbrev po_X9_search_1 (T : Zt) (k : Int) : Zt → Option Zv → Prop := fun T' r => ∃ x : Int, r = some (vI x) ∧ fr_ [(587, []), (584, [])] T T' ∧ (0 ≤ x ∧ x ≤ 1)
set_option maxHeartbeats 4000000 in
theorem ct_X9_search_s {n : Nat} {T : Zt} {k : Int} (IH : ∀ {T : Zt} {k : Int} (hq9 : Q9_ T) (hka : KA_ T) (hk : 0 ≤ k ∧ 8 - (n : Int) ≤ k), Ct_ yX9_search (zX9_sq n) T [vR 109 0, vI k] (po_X9_search_1 T k)) (hq9 : Q9_ T) (hka : KA_ T) (hk : 0 ≤ k ∧ 7 - (n : Int) ≤ k) : Ct_ yX9_search (zX9_sq (n + 1)) T [vR 109 0, vI k] (po_X9_search_1 T k) := by
  refine ct_of pn_9 rfl rfl (Nat.le_of_ble_eq_true rfl) (fun hT hav => ?_) (hi := fun h => absurd (show im_ 0 = true from h) (by decide))
  have hr_k : -2147483648 ≤ k ∧ k ≤ 2147483647 := hav (vI k) (List.mem_cons_of_mem _ List.mem_cons_self)
  have hz : (zX9_sq (n + 1)).2.2.2.1 = some .boolean → ∀ (T' : Zt) (x : Int), po_X9_search_1 T k T' (some (vI x)) → 0 ≤ x ∧ x ≤ 1 := fun _ T' x h => by obtain ⟨y, e, -, hy⟩ := h; cases e; omega
  have hct := hq9.1
  have hbo : 0 ≤ T 109 0 9 ∧ T 109 0 9 ≤ 40 := bd_f hT 109 9 tl_9_9 0
  show J_ (zX9_sq (n + 1)) T (po_X9_search_1 T k) 0 0 0 [some (vR 109 0), some (vI k), none, none, none, none, none, none, none] [] T
  have c_61 : ∀ (nn : Nat) (j : Int) (T1 : Zt), ((3 - j).toNat) ≤ nn → (fr_ [(587, []), (584, [])] T T1) → (0 ≤ j ∧ j ≤ 3 ∧ k < T 109 0 9 ∧ k < 8) → J_ (zX9_sq (n + 1)) T (po_X9_search_1 T k) 0 0 61 [some (vR 109 0), some (vI k), some (vR 102 (T 588 0 k)), some (vI (T 404 (T 109 0 5 - 1) (T 102 (T 588 0 k) 3))), some (vI (T 404 (T 109 0 5 - 1) (T 102 (T 588 0 k) 4))), some (vI j), none, none, none] [] T1 := by
    intro nn
    induction nn using Nat.strongRecOn with
    | _ nn ih_61 =>
      intro j T1 hm_61 hf_61 i1
      replace hm_61 := fun (_ : Unit) => hm_61
      have hqk := hq9.2 k (by omega) (by omega)
      unfold hsx_ asx_ at hqk
      refine j_blx (F := fX9) tb_X9 (nn_ _) bk_X9_search_61 bs_X9_search_61 hz (fun K hK => ?_)
      refine And.intro (fun c1 => ?_) (fun c1 => ?_)
      · refine hK 209 _ [] T1 ?_
        refine j_blx (F := fX9) tb_X9 (nn_ _) bk_X9_search_209 bs_X9_search_209 hz (fun K hK => ?_)
        intro b2 b2b
        have e3 : T1 102 (T 588 0 k) 1 = T 102 (T 588 0 k) 1 := hf_61 102 (T 588 0 k) 1 rfl
        rw [e3] at b2 b2b ⊢
        refine iy_i (by omega) (by omega) ?_
        refine x_nm (fun U4 hU4 => ?_)
        have e5 := up_f hU4
        refine (show po_X9_search_1 T k U4 (some (vI 0)) from ?_)
        exact ⟨_, rfl, fr_u (fr_t (fr_0 _ _) (fr_s hf_61 rfl)) hU4 rfl, by omega⟩
      · have e7 : T1 109 0 5 = T 109 0 5 := hf_61 109 0 5 rfl
        refine And.intro (fun c6 => ?_) (fun c6 => ?_)
        · exact absurd c6 (by omega)
        · have z8 : T1 109 0 5 - 1 = (T 109 0 5 - 1) := by omega
          rw [z8]
          refine rg_i (by omega) ?_
          refine ix_i (by omega) ?_
          intro b9 b9b
          have e10 : T1 401 (T 109 0 5 - 1) (1 + j) = T 401 (T 109 0 5 - 1) (1 + j) := hf_61 401 (T 109 0 5 - 1) (1 + j) rfl
          rw [e10] at b9 b9b ⊢
          have e12 : T1 109 0 5 = T 109 0 5 := hf_61 109 0 5 rfl
          refine And.intro (fun c11 => ?_) (fun c11 => ?_)
          · exact absurd c11 (by omega)
          · have z13 : T1 109 0 5 - 1 = (T 109 0 5 - 1) := by omega
            rw [z13]
            refine rg_i (by omega) ?_
            refine ix_i (by omega) ?_
            intro b14 b14b
            have e15 : T1 401 (T 109 0 5 - 1) (3 - j) = T 401 (T 109 0 5 - 1) (3 - j) := hf_61 401 (T 109 0 5 - 1) (3 - j) rfl
            rw [e15] at b14 b14b ⊢
            refine ix_i (by omega) ?_
            intro b16 b16b
            intro w17 w17b
            refine iy_i (by omega) (by omega) ?_
            refine x_nm (fun U18 hU18 => ?_)
            have e19 := up_f hU18
            refine ix_i (by omega) ?_
            intro b20 b20b
            intro w21 w21b
            refine iy_i (by omega) (by omega) ?_
            refine x_nm (fun U22 hU22 => ?_)
            have e23 := up_f hU22
            intro b24 b24b
            have e25 : U22 102 (T 588 0 k) 1 = T 102 (T 588 0 k) 1 := (up_k hU22 (by exact Nat.ne_of_beq_eq_false rfl) (T 588 0 k) 1).trans ((up_k hU18 (by exact Nat.ne_of_beq_eq_false rfl) (T 588 0 k) 1).trans (hf_61 102 (T 588 0 k) 1 rfl))
            rw [e25] at b24 b24b ⊢
            refine iy_i (by omega) (by omega) ?_
            refine x_nm (fun U26 hU26 => ?_)
            have e27 := up_f hU26
            refine ix_i (by omega) ?_
            intro b28 b28b
            have e29 : U26 587 0 (T 404 (T 109 0 5 - 1) (T 102 (T 588 0 k) 3)) = U22 587 0 (T 404 (T 109 0 5 - 1) (T 102 (T 588 0 k) 3)) := up_k hU26 (by exact Nat.ne_of_beq_eq_false rfl) 0 (T 404 (T 109 0 5 - 1) (T 102 (T 588 0 k) 3))
            rw [e29] at b28 b28b ⊢
            intro b30 b30b
            have e31 : U26 109 0 6 = T 109 0 6 := (up_k hU26 (by exact Nat.ne_of_beq_eq_false rfl) 0 6).trans ((up_k hU22 (by exact Nat.ne_of_beq_eq_false rfl) 0 6).trans ((up_k hU18 (by exact Nat.ne_of_beq_eq_false rfl) 0 6).trans (hf_61 109 0 6 rfl)))
            rw [e31] at b30 b30b ⊢
            refine And.intro (fun c32 => ?_) (fun c32 => ?_)
            · refine hK 170 [some (vR 109 0), some (vI k), some (vR 102 (T 588 0 k)), some (vI (T 404 (T 109 0 5 - 1) (T 102 (T 588 0 k) 3))), some (vI (T 404 (T 109 0 5 - 1) (T 102 (T 588 0 k) 4))), some (vI j), some (vI (T 401 (T 109 0 5 - 1) (1 + j))), some (vI (T 401 (T 109 0 5 - 1) (3 - j))), none] [] U26 ?_
              refine j_blx (F := fX9) tb_X9 (nn_ _) bk_X9_search_170 bs_X9_search_170 hz (fun K hK => ?_)
              refine ix_i (by omega) ?_
              intro b33 b33b
              have e34 : U26 587 0 (T 404 (T 109 0 5 - 1) (T 102 (T 588 0 k) 3)) = U22 587 0 (T 404 (T 109 0 5 - 1) (T 102 (T 588 0 k) 3)) := up_k hU26 (by exact Nat.ne_of_beq_eq_false rfl) 0 (T 404 (T 109 0 5 - 1) (T 102 (T 588 0 k) 3))
              rw [e34] at b33 b33b ⊢
              intro w35 w35b
              refine iy_i (by omega) (by omega) ?_
              refine x_nm (fun U36 hU36 => ?_)
              have e37 := up_f hU36
              refine ix_i (by omega) ?_
              intro b38 b38b
              intro w39 w39b
              refine iy_i (by omega) (by omega) ?_
              refine x_nm (fun U40 hU40 => ?_)
              have e41 := up_f hU40
              refine And.intro (fun c42 => ?_) (fun c42 => ?_)
              · refine hK 203 [some (vR 109 0), some (vI k), some (vR 102 (T 588 0 k)), some (vI (T 404 (T 109 0 5 - 1) (T 102 (T 588 0 k) 3))), some (vI (T 404 (T 109 0 5 - 1) (T 102 (T 588 0 k) 4))), some (vI j), some (vI (T 401 (T 109 0 5 - 1) (1 + j))), some (vI (T 401 (T 109 0 5 - 1) (3 - j))), some (vI 0)] [] U40 ?_
                refine j_blx (F := fX9) tb_X9 (nn_ _) bk_X9_search_203 bs_X9_search_203 hz (fun K hK => ?_)
                refine rg_i (by omega) ?_
                refine hK 61 [some (vR 109 0), some (vI k), some (vR 102 (T 588 0 k)), some (vI (T 404 (T 109 0 5 - 1) (T 102 (T 588 0 k) 3))), some (vI (T 404 (T 109 0 5 - 1) (T 102 (T 588 0 k) 4))), some (vI (j + 1)), some (vI (T 401 (T 109 0 5 - 1) (1 + j))), some (vI (T 401 (T 109 0 5 - 1) (3 - j))), some (vI 0)] [] U40 ?_
                refine j_drop [some (vR 109 0), some (vI k), some (vR 102 (T 588 0 k)), some (vI (T 404 (T 109 0 5 - 1) (T 102 (T 588 0 k) 3))), some (vI (T 404 (T 109 0 5 - 1) (T 102 (T 588 0 k) 4))), some (vI (j + 1)), none, none, none] (fun k v hk => ?_) rfl ?_
                · match k, hk with
                  | 0, hk => exact hk
                  | 1, hk => exact hk
                  | 2, hk => exact hk
                  | 3, hk => exact hk
                  | 4, hk => exact hk
                  | 5, hk => exact hk
                  | 6, hk => cases hk
                  | 7, hk => cases hk
                  | 8, hk => cases hk
                  | k + 9, hk => cases hk
                refine ih_61 _ ?_ (j + 1) U40 (Nat.le_refl _) ?_ ?_
                · have hm_61 := hm_61 (); omega
                · exact fr_u (fr_u (fr_u (fr_u (fr_u (fr_t (fr_0 _ _) (fr_s hf_61 rfl)) hU18 rfl) hU22 rfl) hU26 rfl) hU36 rfl) hU40 rfl
                · omega
              · refine (show po_X9_search_1 T k U40 (some (vI 1)) from ?_)
                exact ⟨_, rfl, fr_u (fr_u (fr_u (fr_u (fr_u (fr_t (fr_0 _ _) (fr_s hf_61 rfl)) hU18 rfl) hU22 rfl) hU26 rfl) hU36 rfl) hU40 rfl, by omega⟩
            · refine ix_i (by omega) ?_
              intro b43 b43b
              have e44 : U26 587 0 (T 404 (T 109 0 5 - 1) (T 102 (T 588 0 k) 4)) = wr_ ((U18 587 0 (T 404 (T 109 0 5 - 1) (T 102 (T 588 0 k) 4))) + (T 401 (T 109 0 5 - 1) (3 - j))) := (up_k hU26 (by exact Nat.ne_of_beq_eq_false rfl) 0 (T 404 (T 109 0 5 - 1) (T 102 (T 588 0 k) 4))).trans (up_f hU22)
              rw [e44] at b43 b43b ⊢
              intro b45 b45b
              have e46 : U26 109 0 6 = T 109 0 6 := (up_k hU26 (by exact Nat.ne_of_beq_eq_false rfl) 0 6).trans ((up_k hU22 (by exact Nat.ne_of_beq_eq_false rfl) 0 6).trans ((up_k hU18 (by exact Nat.ne_of_beq_eq_false rfl) 0 6).trans (hf_61 109 0 6 rfl)))
              rw [e46] at b45 b45b ⊢
              refine And.intro (fun c47 => ?_) (fun c47 => ?_)
              · refine hK 170 _ [] U26 ?_
                refine j_blx (F := fX9) tb_X9 (nn_ _) bk_X9_search_170 bs_X9_search_170 hz (fun K hK => ?_)
                refine ix_i (by omega) ?_
                intro b48 b48b
                have e49 : U26 587 0 (T 404 (T 109 0 5 - 1) (T 102 (T 588 0 k) 3)) = U22 587 0 (T 404 (T 109 0 5 - 1) (T 102 (T 588 0 k) 3)) := up_k hU26 (by exact Nat.ne_of_beq_eq_false rfl) 0 (T 404 (T 109 0 5 - 1) (T 102 (T 588 0 k) 3))
                rw [e49] at b48 b48b ⊢
                intro w50 w50b
                refine iy_i (by omega) (by omega) ?_
                refine x_nm (fun U51 hU51 => ?_)
                have e52 := up_f hU51
                refine ix_i (by omega) ?_
                intro b53 b53b
                intro w54 w54b
                refine iy_i (by omega) (by omega) ?_
                refine x_nm (fun U55 hU55 => ?_)
                have e56 := up_f hU55
                refine And.intro (fun c57 => ?_) (fun c57 => ?_)
                · refine hK 203 [some (vR 109 0), some (vI k), some (vR 102 (T 588 0 k)), some (vI (T 404 (T 109 0 5 - 1) (T 102 (T 588 0 k) 3))), some (vI (T 404 (T 109 0 5 - 1) (T 102 (T 588 0 k) 4))), some (vI j), some (vI (T 401 (T 109 0 5 - 1) (1 + j))), some (vI (T 401 (T 109 0 5 - 1) (3 - j))), some (vI 0)] [] U55 ?_
                  refine j_blx (F := fX9) tb_X9 (nn_ _) bk_X9_search_203 bs_X9_search_203 hz (fun K hK => ?_)
                  refine rg_i (by omega) ?_
                  refine hK 61 [some (vR 109 0), some (vI k), some (vR 102 (T 588 0 k)), some (vI (T 404 (T 109 0 5 - 1) (T 102 (T 588 0 k) 3))), some (vI (T 404 (T 109 0 5 - 1) (T 102 (T 588 0 k) 4))), some (vI (j + 1)), some (vI (T 401 (T 109 0 5 - 1) (1 + j))), some (vI (T 401 (T 109 0 5 - 1) (3 - j))), some (vI 0)] [] U55 ?_
                  refine j_drop [some (vR 109 0), some (vI k), some (vR 102 (T 588 0 k)), some (vI (T 404 (T 109 0 5 - 1) (T 102 (T 588 0 k) 3))), some (vI (T 404 (T 109 0 5 - 1) (T 102 (T 588 0 k) 4))), some (vI (j + 1)), none, none, none] (fun k v hk => ?_) rfl ?_
                  · match k, hk with
                    | 0, hk => exact hk
                    | 1, hk => exact hk
                    | 2, hk => exact hk
                    | 3, hk => exact hk
                    | 4, hk => exact hk
                    | 5, hk => exact hk
                    | 6, hk => cases hk
                    | 7, hk => cases hk
                    | 8, hk => cases hk
                    | k + 9, hk => cases hk
                  refine ih_61 _ ?_ (j + 1) U55 (Nat.le_refl _) ?_ ?_
                  · have hm_61 := hm_61 (); omega
                  · exact fr_u (fr_u (fr_u (fr_u (fr_u (fr_t (fr_0 _ _) (fr_s hf_61 rfl)) hU18 rfl) hU22 rfl) hU26 rfl) hU51 rfl) hU55 rfl
                  · omega
                · refine (show po_X9_search_1 T k U55 (some (vI 1)) from ?_)
                  exact ⟨_, rfl, fr_u (fr_u (fr_u (fr_u (fr_u (fr_t (fr_0 _ _) (fr_s hf_61 rfl)) hU18 rfl) hU22 rfl) hU26 rfl) hU51 rfl) hU55 rfl, by omega⟩
              · refine rg_i (by omega) ?_
                refine hK 160 _ [vI (k + 1), vR 109 0] U26 ?_
                have e58 : U26 109 0 9 = T 109 0 9 := (up_k hU26 (by exact Nat.ne_of_beq_eq_false rfl) 0 9).trans ((up_k hU22 (by exact Nat.ne_of_beq_eq_false rfl) 0 9).trans ((up_k hU18 (by exact Nat.ne_of_beq_eq_false rfl) 0 9).trans (hf_61 109 0 9 rfl)))
                refine j_callV (pc := 160) (y := yX9_search) (Yc := zX9_sq n) (rest := []) [vI (k + 1)] (IH (T := U26) (q9_f hq9 (show fr_ [(587, []), (584, [])] T U26 from fr_u (fr_u (fr_u (fr_t (fr_0 _ _) (fr_s hf_61 rfl)) hU18 rfl) hU22 rfl) hU26 rfl) ⟨fun _ _ => rfl, fun _ => rfl, rfl, rfl, rfl, rfl, rfl⟩) (KA__f hka (show fr_ [(587, []), (584, [])] T U26 from fr_u (fr_u (fr_u (fr_t (fr_0 _ _) (fr_s hf_61 rfl)) hU18 rfl) hU22 rfl) hU26 rfl) ⟨fun _ => rfl, fun _ => rfl, rfl, rfl, trivial⟩) (by omega)) (cl_sq n) (by show decode cX9_search (Int.toNat 160) = _; decide +kernel) (by decide) rfl (rf_sq n) (Nat.le_of_ble_eq_true rfl) (Nat.le_of_ble_eq_true rfl) (Nat.le_of_ble_eq_true rfl) rfl ?_
                rintro U59 _ ⟨x60, rfl, fU59, qU59⟩
                show J_ (zX9_sq (n + 1)) T (po_X9_search_1 T k) 0 0 163 _ [vI x60] U59
                refine j_blx (F := fX9) tb_X9 (nn_ _) bk_X9_search_163 bs_X9_search_163 hz (fun K hK => ?_)
                refine And.intro (fun c61 => ?_) (fun c61 => ?_)
                · refine hK 170 _ [] U59 ?_
                  refine j_blx (F := fX9) tb_X9 (nn_ _) bk_X9_search_170 bs_X9_search_170 hz (fun K hK => ?_)
                  refine ix_i (by omega) ?_
                  intro b62 b62b
                  intro w63 w63b
                  refine iy_i (by omega) (by omega) ?_
                  refine x_nm (fun U64 hU64 => ?_)
                  have e65 := up_f hU64
                  refine ix_i (by omega) ?_
                  intro b66 b66b
                  intro w67 w67b
                  refine iy_i (by omega) (by omega) ?_
                  refine x_nm (fun U68 hU68 => ?_)
                  have e69 := up_f hU68
                  refine And.intro (fun c70 => ?_) (fun c70 => ?_)
                  · refine hK 203 [some (vR 109 0), some (vI k), some (vR 102 (T 588 0 k)), some (vI (T 404 (T 109 0 5 - 1) (T 102 (T 588 0 k) 3))), some (vI (T 404 (T 109 0 5 - 1) (T 102 (T 588 0 k) 4))), some (vI j), some (vI (T 401 (T 109 0 5 - 1) (1 + j))), some (vI (T 401 (T 109 0 5 - 1) (3 - j))), some (vI 0)] [] U68 ?_
                    refine j_blx (F := fX9) tb_X9 (nn_ _) bk_X9_search_203 bs_X9_search_203 hz (fun K hK => ?_)
                    refine rg_i (by omega) ?_
                    refine hK 61 [some (vR 109 0), some (vI k), some (vR 102 (T 588 0 k)), some (vI (T 404 (T 109 0 5 - 1) (T 102 (T 588 0 k) 3))), some (vI (T 404 (T 109 0 5 - 1) (T 102 (T 588 0 k) 4))), some (vI (j + 1)), some (vI (T 401 (T 109 0 5 - 1) (1 + j))), some (vI (T 401 (T 109 0 5 - 1) (3 - j))), some (vI 0)] [] U68 ?_
                    refine j_drop [some (vR 109 0), some (vI k), some (vR 102 (T 588 0 k)), some (vI (T 404 (T 109 0 5 - 1) (T 102 (T 588 0 k) 3))), some (vI (T 404 (T 109 0 5 - 1) (T 102 (T 588 0 k) 4))), some (vI (j + 1)), none, none, none] (fun k v hk => ?_) rfl ?_
                    · match k, hk with
                      | 0, hk => exact hk
                      | 1, hk => exact hk
                      | 2, hk => exact hk
                      | 3, hk => exact hk
                      | 4, hk => exact hk
                      | 5, hk => exact hk
                      | 6, hk => cases hk
                      | 7, hk => cases hk
                      | 8, hk => cases hk
                      | k + 9, hk => cases hk
                    refine ih_61 _ ?_ (j + 1) U68 (Nat.le_refl _) ?_ ?_
                    · have hm_61 := hm_61 (); omega
                    · exact fr_u (fr_u (fr_t (fr_u (fr_u (fr_u (fr_t (fr_0 _ _) (fr_s hf_61 rfl)) hU18 rfl) hU22 rfl) hU26 rfl) (fr_s fU59 rfl)) hU64 rfl) hU68 rfl
                    · omega
                  · refine (show po_X9_search_1 T k U68 (some (vI 1)) from ?_)
                    exact ⟨_, rfl, fr_u (fr_u (fr_t (fr_u (fr_u (fr_u (fr_t (fr_0 _ _) (fr_s hf_61 rfl)) hU18 rfl) hU22 rfl) hU26 rfl) (fr_s fU59 rfl)) hU64 rfl) hU68 rfl, by omega⟩
                · refine hK 171 _ [vI 1] U59 ?_
                  refine j_blx (F := fX9) tb_X9 (nn_ _) bk_X9_search_171 bs_X9_search_171 hz (fun K hK => ?_)
                  refine ix_i (by omega) ?_
                  intro b71 b71b
                  intro w72 w72b
                  refine iy_i (by omega) (by omega) ?_
                  refine x_nm (fun U73 hU73 => ?_)
                  have e74 := up_f hU73
                  refine ix_i (by omega) ?_
                  intro b75 b75b
                  intro w76 w76b
                  refine iy_i (by omega) (by omega) ?_
                  refine x_nm (fun U77 hU77 => ?_)
                  have e78 := up_f hU77
                  refine And.intro (fun c79 => ?_) (fun c79 => ?_)
                  · refine hK 203 [some (vR 109 0), some (vI k), some (vR 102 (T 588 0 k)), some (vI (T 404 (T 109 0 5 - 1) (T 102 (T 588 0 k) 3))), some (vI (T 404 (T 109 0 5 - 1) (T 102 (T 588 0 k) 4))), some (vI j), some (vI (T 401 (T 109 0 5 - 1) (1 + j))), some (vI (T 401 (T 109 0 5 - 1) (3 - j))), some (vI 1)] [] U77 ?_
                    refine j_blx (F := fX9) tb_X9 (nn_ _) bk_X9_search_203 bs_X9_search_203 hz (fun K hK => ?_)
                    refine rg_i (by omega) ?_
                    refine hK 61 [some (vR 109 0), some (vI k), some (vR 102 (T 588 0 k)), some (vI (T 404 (T 109 0 5 - 1) (T 102 (T 588 0 k) 3))), some (vI (T 404 (T 109 0 5 - 1) (T 102 (T 588 0 k) 4))), some (vI (j + 1)), some (vI (T 401 (T 109 0 5 - 1) (1 + j))), some (vI (T 401 (T 109 0 5 - 1) (3 - j))), some (vI 1)] [] U77 ?_
                    refine j_drop [some (vR 109 0), some (vI k), some (vR 102 (T 588 0 k)), some (vI (T 404 (T 109 0 5 - 1) (T 102 (T 588 0 k) 3))), some (vI (T 404 (T 109 0 5 - 1) (T 102 (T 588 0 k) 4))), some (vI (j + 1)), none, none, none] (fun k v hk => ?_) rfl ?_
                    · match k, hk with
                      | 0, hk => exact hk
                      | 1, hk => exact hk
                      | 2, hk => exact hk
                      | 3, hk => exact hk
                      | 4, hk => exact hk
                      | 5, hk => exact hk
                      | 6, hk => cases hk
                      | 7, hk => cases hk
                      | 8, hk => cases hk
                      | k + 9, hk => cases hk
                    refine ih_61 _ ?_ (j + 1) U77 (Nat.le_refl _) ?_ ?_
                    · have hm_61 := hm_61 (); omega
                    · exact fr_u (fr_u (fr_t (fr_u (fr_u (fr_u (fr_t (fr_0 _ _) (fr_s hf_61 rfl)) hU18 rfl) hU22 rfl) hU26 rfl) (fr_s fU59 rfl)) hU73 rfl) hU77 rfl
                    · omega
                  · refine (show po_X9_search_1 T k U77 (some (vI 1)) from ?_)
                    exact ⟨_, rfl, fr_u (fr_u (fr_t (fr_u (fr_u (fr_u (fr_t (fr_0 _ _) (fr_s hf_61 rfl)) hU18 rfl) hU22 rfl) hU26 rfl) (fr_s fU59 rfl)) hU73 rfl) hU77 rfl, by omega⟩
  refine j_blx (F := fX9) tb_X9 (nn_ _) bk_X9_search_0 bs_X9_search_0 hz (fun K hK => ?_)
  intro b80 b80b
  refine And.intro (fun c81 => ?_) (fun c81 => ?_)
  · refine hK 14 _ [] T ?_
    refine j_blx (F := fX9) tb_X9 (nn_ _) bk_X9_search_14 bs_X9_search_14 hz (fun K hK => ?_)
    refine (show po_X9_search_1 T k T (some (vI 1)) from ?_)
    exact ⟨_, rfl, fr_0 _ _, by omega⟩
  · refine And.intro (fun c82 => ?_) (fun c82 => ?_)
    · refine hK 16 _ [] T ?_
      have hqk := hq9.2 k (by omega) (by omega)
      unfold hsx_ asx_ at hqk
      refine j_blx (F := fX9) tb_X9 (nn_ _) bk_X9_search_16 bs_X9_search_16 hz (fun K hK => ?_)
      refine ix_i (by omega) ?_
      intro b83 b83b
      refine ix_i (by omega) ?_
      refine And.intro (fun c84 => ?_) (fun c84 => ?_)
      · exact absurd (show T 523 0 (T 588 0 k) = 0 by omega) (hka.2 _ hqk.1.1 hqk.1.2)
      · refine And.intro (fun c85 => ?_) (fun c85 => ?_)
        · exact absurd c85 (by omega)
        · have z86 : T 109 0 5 - 1 = (T 109 0 5 - 1) := by omega
          rw [z86]
          intro b87 b87b
          refine ix_i (by omega) ?_
          intro b88 b88b
          refine And.intro (fun c89 => ?_) (fun c89 => ?_)
          · exact absurd c89 (by omega)
          · have z90 : T 109 0 5 - 1 = (T 109 0 5 - 1) := by omega
            rw [z90]
            intro b91 b91b
            refine ix_i (by omega) ?_
            intro b92 b92b
            refine hK 61 [some (vR 109 0), some (vI k), some (vR 102 (T 588 0 k)), some (vI (T 404 (T 109 0 5 - 1) (T 102 (T 588 0 k) 3))), some (vI (T 404 (T 109 0 5 - 1) (T 102 (T 588 0 k) 4))), some (vI 0), none, none, none] [] T ?_
            refine c_61 _ 0 T (Nat.le_refl _) ?_ ?_
            · exact fr_0 _ _
            · omega
    · refine (show po_X9_search_1 T k T (some (vI 1)) from ?_)
      exact ⟨_, rfl, fr_0 _ _, by omega⟩
theorem ct_X9_search_q (n : Nat) : ∀ {T : Zt} {k : Int} (hq9 : Q9_ T) (hka : KA_ T) (hk : 0 ≤ k ∧ 8 - (n : Int) ≤ k), Ct_ yX9_search (zX9_sq n) T [vR 109 0, vI k] (po_X9_search_1 T k) := by
  induction n with
  | zero =>
    intro T k hq9 hka hk
    exact ct_X9_search_0 (T := T) (k := k) hq9 hka (by omega)
  | succ n ih =>
    intro T k hq9 hka hk
    exact ct_X9_search_s (n := n) (T := T) (k := k) (fun {T} {k} hq9 hka hk => ih (T := T) (k := k) hq9 hka hk) hq9 hka (by omega)
def zX9_search_8 : Zm := (RX9, cX9_search, 9, (some .boolean), { frames := 9, cells := 0, slots := 0, locals := 252 })
abbrev po_X9_search_8 (T : Zt) (k : Int) : Zt → Option Zv → Prop := fun T' r => ∃ x : Int, r = some (vI x) ∧ fr_ [(587, []), (584, [])] T T' ∧ (0 ≤ x ∧ x ≤ 1)
set_option maxHeartbeats 4000000 in
theorem ct_X9_search_8 {T : Zt} {k : Int} (hq9 : Q9_ T) (hka : KA_ T) (hk : 0 ≤ k ∧ 0 ≤ k) : Ct_ yX9_search zX9_search_8 T [vR 109 0, vI k] (po_X9_search_8 T k) := ct_X9_search_q 8 (T := T) (k := k) hq9 hka (by omega)
