-- the sheets under a plan, the number of a competition
/-- a new match comes with empty sheets -/
def SN8_ (T T' : Zt) : Prop := (∀ (k : Nat) (i j : Int), k = 448 ∨ k = 449 → i ≠ T 106 0 4 → T' k i j = T k i j) ∧ ∀ j, 0 ≤ j → T' 449 (T 106 0 4) j = 0
/-- the sheets: the old stay, the new are empty -/
def SQ8_ (T T' : Zt) : Prop := (∀ (k : Nat) (i j : Int), k = 448 ∨ k = 449 → i < T 106 0 4 → T' k i j = T k i j) ∧ ∀ i j, T 106 0 4 ≤ i → i < T' 106 0 4 → 0 ≤ j → T' 449 i j = 0
theorem sq8_r {T : Zt} : SQ8_ T T := sorry
theorem sq8_t {T T1 T2 : Zt} (h : SQ8_ T T1) (g : SQ8_ T1 T2) (h4 : T 106 0 4 ≤ T1 106 0 4) (g4 : T1 106 0 4 ≤ T2 106 0 4) : SQ8_ T T2 := sorry
theorem sq8_f {T T1 T2 : Zt} {c hh a d : Int} {A B C D : Prop} (h : SQ8_ T T1) (h4 : T 106 0 4 ≤ T1 106 0 4) (q : (T2 = T1 ∧ A) ∨ (nm_ T1 T2 c hh a d ∧ B ∧ C ∧ D ∧ SN8_ T1 T2)) : SQ8_ T T2 := sorry
theorem sq8_u {T T1 : Zt} {k : Nat} {i j v : Int} (u : T1 = up_ T k i j v) (c : k ≠ 448 ∧ k ≠ 449 ∧ k ≠ 106) : SQ8_ T T1 := sorry
/-- a new competition knows its number -/
def CNN_ (T T' : Zt) : Prop := T' 106 0 2 = T 106 0 2 ∨ T' 100 (T 106 0 2) 0 = T 106 0 2
theorem fw9_ {A N B C D E : Prop} (h : A ∨ (N ∧ B ∧ C ∧ D ∧ E)) : A ∨ (N ∧ B ∧ C ∧ D) := sorry
abbrev po_X6_addFixture_s (T : Zt) (c : Int) (u h a d : Int) : Zt → Option Zv → Prop := fun T' r => r = none ∧ fr_ [(106, [4]), (523, []), (152, []), (102, []), (448, []), (449, [])] T T' ∧ ((T' = T ∧ (T 100 c 5 ≤ h ∨ T 100 c 5 ≤ a ∨ 400 ≤ T 106 0 4)) ∨ (nm_ T T' c h a d ∧ T' 102 (T 106 0 4) 2 = u ∧ T' 102 (T 106 0 4) 6 = -1 ∧ T' 102 (T 106 0 4) 7 = -1 ∧ SN8_ T T'))
set_option maxHeartbeats 4000000 in
theorem ct_X6_addFixture_s {T : Zt} {c : Int} {u h a d : Int} (hc : 0 ≤ c ∧ c ≤ 3) (hh : 0 ≤ h ∧ 0 ≤ a ∧ 0 ≤ d ∧ d ≤ 999) (hna : NA_ T) : Ct_ yX6_addFixture zX6_addFixture T [vR 106 0, vR 100 c, vI u, vI h, vI a, vI d] (po_X6_addFixture_s T c u h a d) := sorry
abbrev po_X6_addRound_s (T : Zt) (c : Int) (f : Int) (u q w d : Int) : Zt → Option Zv → Prop := fun T' r => r = none ∧ fr_ [(106, [4]), (523, []), (152, []), (102, []), (448, []), (449, [])] T T' ∧ (RK_ T' c f (T 100 c 5 + an_ (T 100 c 5) 1 - 1) q 13 d ∧ (∀ i j, i < f → T' 102 i j = T 102 i j) ∧ T 106 0 4 ≤ T' 106 0 4 ∧ (∀ i j, i < T 106 0 4 → T' 102 i j = T 102 i j) ∧ SQ8_ T T' ∧ AP9_ T T' c (rl9_ (T 100 c 5) (T 100 c 5 + an_ (T 100 c 5) 1 - 1) q w u d ((T 100 c 5 + an_ (T 100 c 5) 1 - 1) / 2 + 1).toNat []))
set_option maxHeartbeats 4000000 in
theorem ct_X6_addRound_s {T : Zt} {c : Int} {f : Int} {u q w d : Int} (hc : 0 ≤ c ∧ c ≤ 3) (he : 2 ≤ T 100 c 5) (hr : 0 ≤ q ∧ q < T 100 c 5 + an_ (T 100 c 5) 1 - 1) (hd : 0 ≤ d ∧ d ≤ 999) (hke : KEc_ T c) (hrb : RK_ T c f (T 100 c 5 + an_ (T 100 c 5) 1 - 1) q 0 d) (hw : w = 0 ∨ w = 1) (hro : T 106 0 4 + (T 100 c 5 + an_ (T 100 c 5) 1 - 1) / 2 + 1 - T 100 c 5 % 2 ≤ 400) : Ct_ yX6_addRound zX6_addRound T [vR 106 0, vR 100 c, vI u, vI q, vI w, vI d] (po_X6_addRound_s T c f u q w d) := sorry
abbrev po_X6_schedule_s (T : Zt) (c : Int) (b : Int) : Zt → Option Zv → Prop := fun T' r => r = none ∧ fr_ [(106, [4]), (523, []), (152, []), (102, []), (448, []), (449, []), (100, [6, 7, 8])] T T' ∧ ((∀ i j, i < T 106 0 4 → T' 102 i j = T 102 i j) ∧ RK_ T' c (T 106 0 4) (T 100 c 5 + an_ (T 100 c 5) 1 - 1) 0 0 2000000 ∧ (T' 100 c 6 = 1 ∧ T' 100 c 7 = T 106 0 4 ∧ T' 100 c 8 = T' 106 0 4 - T 106 0 4) ∧ (∀ i j, i ≠ c → T' 100 i j = T 100 i j) ∧ SQ8_ T T' ∧ AP9_ T T' c (pl9_ (T 100 c 5) (T 100 c 5 + an_ (T 100 c 5) 1 - 1) b (T 401 c 7) (T 401 c 6).toNat))
set_option maxHeartbeats 4000000 in
theorem ct_X6_schedule_s {T : Zt} {c : Int} {b : Int} (hc : 0 ≤ c ∧ c ≤ 3) (hl : 0 ≤ T 401 c 6 ∧ T 401 c 6 ≤ 4) (hE : 1 ≤ T 401 c 7 ∧ T 401 c 7 ≤ 30) (he : 2 ≤ T 100 c 5) (hb : 0 ≤ b ∧ b + ((T 100 c 5 + an_ (T 100 c 5) 1 - 1) * T 401 c 6 - 1) * T 401 c 7 ≤ 999) (hke : KEc_ T c) (hka : KA_ T) (hna : NA_ T) (hfx : T 106 0 4 + T 100 c 5 * (T 100 c 5 - 1) / 2 * T 401 c 6 ≤ 400) : Ct_ yX6_schedule zX6_schedule T [vR 106 0, vR 100 c, vI b] (po_X6_schedule_s T c b) := sorry
abbrev po_X10_plan_s (T : Zt) (c b : Int) : Zt → Option Zv → Prop := fun T' r => ∃ x : Int, r = some (vI x) ∧ (T' = T ∨ SJ_ T T' c) ∧ PH9_ T T' c b x ∧ SQ8_ T T'
set_option maxHeartbeats 4000000 in
theorem ct_X10_plan_s {T : Zt} {c b : Int} (hka : KA_ T) (hke : KE_ T) (hkb : KB_ T) (hna : NA_ T) : Ct_ yX10_plan zX10_plan T [vR 110 0, vI c, vI b] (po_X10_plan_s T c b) := sorry
abbrev po_X10_competition_s (T : Zt) : Zt → Option Zv → Prop := fun T' r => ∃ x : Int, r = some (vI x) ∧ (fr_ [(105, [7, 8, 9, 2, 3, 6, 1]), (504, []), (505, [])] T T' ∨ nc_ T T') ∧ CH9_ T T' x ∧ CNN_ T T'
set_option maxHeartbeats 4000000 in
theorem ct_X10_competition_s {T : Zt} (hna : NA_ T) : Ct_ yX10_competition zX10_competition T [vR 110 0] (po_X10_competition_s T) := sorry
