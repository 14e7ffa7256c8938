-- assign and can: what they leave of the int rows
/-- all old rows but the referees' own stay -/
def KPA_ (T U : Zt) : Prop := (∀ x j, x < T 191 0 0 → x ≠ T 104 0 4 → U 190 x j = T 190 x j) ∧ (U 104 0 4 = T 104 0 4 ∨ (U 104 0 4 = T 191 0 0 ∧ T 191 0 0 < U 191 0 0))
theorem kpa_r {T : Zt} : KPA_ T T := sorry
/-- all old rows but the title's own stay -/
def KPT_ (T U : Zt) : Prop := (∀ x j, x < T 191 0 0 → x + 1 ≠ T 109 0 15 → U 190 x j = T 190 x j) ∧ (U 109 0 15 = T 109 0 15 ∨ (U 109 0 15 = T 191 0 0 + 1 ∧ T 191 0 0 < U 191 0 0))
theorem kpt_r {T : Zt} : KPT_ T T := sorry
abbrev po_X4_weighAll_e (T : Zt) (e : Int) : Zt → Option Zv → Prop := fun T' r => r = none ∧ fr_ [(104, [4]), (190, []), (191, [0])] T T' ∧ ((T 104 0 3 + 1) * e ≤ T' 190 (T' 104 0 4) (-2) ∧ KPA_ T T' ∧ lh_ T T' ∧ T' 191 0 0 ≤ T 191 0 0 + 1)
set_option maxHeartbeats 4000000 in
theorem ct_X4_weighAll_e {T : Zt} {e : Int} (hka : KA_ T) (hs : 0 ≤ T 104 0 3 ∧ T 104 0 3 ≤ 48) (hO : OS_ (T 108 0 12) e) (hv : ∀ j, 0 ≤ j → j < T 104 0 3 → 0 ≤ T 482 0 j ∧ T 482 0 j < T 106 0 4) (h9 : 0 ≤ T 191 0 0 ∧ T 191 0 0 ≤ 900000000) : Ct_ yX4_weighAll zX4_weighAll T [vR 104 0, vI e] (po_X4_weighAll_e T e) := sorry
abbrev po_X4_share_e (T : Zt) (d : Int) : Zt → Option Zv → Prop := fun T' r => ∃ x : Int, r = some (vI x) ∧ fr_ [(104, [3, 4]), (482, []), (102, [7]), (190, []), (191, [0])] T T' ∧ KPA_ T T' ∧ lh_ T T' ∧ T' 191 0 0 ≤ T 191 0 0 + 1
set_option maxHeartbeats 4000000 in
theorem ct_X4_share_e {T : Zt} {d : Int} (hka : KA_ T) (hkm : KM_ T) (hdd : DD_ T) (h9 : 0 ≤ T 191 0 0 ∧ T 191 0 0 ≤ 900000000) : Ct_ yX4_share zX4_share T [vR 104 0, vI d] (po_X4_share_e T d) := sorry
abbrev po_X10_assign_e (T : Zt) (d : Int) : Zt → Option Zv → Prop := fun T' r => ∃ x : Int, r = some (vI x) ∧ fr_ [(104, [3, 4]), (482, []), (102, [7]), (190, []), (191, [0])] T T' ∧ KPA_ T T' ∧ lh_ T T' ∧ T' 191 0 0 ≤ T 191 0 0 + 1
set_option maxHeartbeats 4000000 in
theorem ct_X10_assign_e {T : Zt} {d : Int} (hka : KA_ T) (hkm : KM_ T) (hdd : DD_ T) (h9 : 0 ≤ T 191 0 0 ∧ T 191 0 0 ≤ 900000000) : Ct_ yX10_assign zX10_assign T [vR 110 0, vI d] (po_X10_assign_e T d) := sorry
abbrev po_X9_leastCut_e (T : Zt) (t : Int) : Zt → Option Zv → Prop := fun T' r => ∃ x : Int, r = some (vI x) ∧ fr_ [(109, [15]), (190, []), (191, [0])] T T' ∧ (0 ≤ x ∧ x ≤ 4095) ∧ (T' 109 0 15 ≠ 0 → T' 190 (T' 109 0 15 - 1) (-2) = 4096 ∧ 1 ≤ T' 109 0 15) ∧ KPT_ T T' ∧ lh_ T T' ∧ T' 191 0 0 ≤ T 191 0 0 + 1
set_option maxHeartbeats 4000000 in
theorem ct_X9_leastCut_e {T : Zt} {t : Int} (hq9 : Q9_ T) (hka : KA_ T) (hke : KEc_ T (T 109 0 5 - 1)) (hsl : T 109 0 15 ≠ 0 → T 190 (T 109 0 15 - 1) (-2) = 4096 ∧ 1 ≤ T 109 0 15) (h9 : 0 ≤ T 191 0 0 ∧ T 191 0 0 ≤ 900000000) : Ct_ yX9_leastCut zX9_leastCut T [vR 109 0, vI t] (po_X9_leastCut_e T t) := sorry
abbrev po_X9_ask_e (T : Zt) (c : Int) (t : Int) : Zt → Option Zv → Prop := fun T' r => ∃ x : Int, r = some (vI x) ∧ fr_ [(109, [5, 3, 9, 6, 2, 15]), (584, []), (588, []), (587, []), (591, []), (592, []), (590, []), (593, []), (594, []), (107, [1]), (542, []), (543, []), (544, []), (545, []), (546, []), (190, []), (191, [0])] T T' ∧ (T' 109 0 15 ≠ 0 → T' 190 (T' 109 0 15 - 1) (-2) = 4096 ∧ 1 ≤ T' 109 0 15) ∧ KPT_ T T' ∧ lh_ T T' ∧ T' 191 0 0 ≤ T 191 0 0 + 1
set_option maxHeartbeats 4000000 in
theorem ct_X9_ask_e {T : Zt} {c : Int} {t : Int} (hka : KA_ T) (hkm : KM_ T) (hkc : KC_ T) (hks : KS_ T) (hke : KE_ T) (hkw : KW_ T) (hsl : T 109 0 15 ≠ 0 → T 190 (T 109 0 15 - 1) (-2) = 4096 ∧ 1 ≤ T 109 0 15) (h9 : 0 ≤ T 191 0 0 ∧ T 191 0 0 ≤ 900000000) (hc : 0 ≤ c ∧ c < T 106 0 2) (ht : 0 ≤ t ∧ t ≤ 11) : Ct_ yX9_ask zX9_ask T [vR 109 0, vR 100 c, vI t] (po_X9_ask_e T c t) := sorry
abbrev po_X10_can_e (T : Zt) (c b : Int) : Zt → Option Zv → Prop := fun T' r => ∃ x : Int, r = some (vI x) ∧ fr_ [(109, [5, 3, 9, 6, 2, 15]), (584, []), (588, []), (587, []), (591, []), (592, []), (590, []), (593, []), (594, []), (107, [1]), (542, []), (543, []), (544, []), (545, []), (546, []), (190, []), (191, [0])] T T' ∧ (T' 109 0 15 ≠ 0 → T' 190 (T' 109 0 15 - 1) (-2) = 4096 ∧ 1 ≤ T' 109 0 15) ∧ KPT_ T T' ∧ lh_ T T' ∧ T' 191 0 0 ≤ T 191 0 0 + 1
set_option maxHeartbeats 4000000 in
theorem ct_X10_can_e {T : Zt} {c b : Int} (hka : KA_ T) (hkm : KM_ T) (hkc : KC_ T) (hks : KS_ T) (hke : KE_ T) (hkw : KW_ T) (hsl : T 109 0 15 ≠ 0 → T 190 (T 109 0 15 - 1) (-2) = 4096 ∧ 1 ≤ T 109 0 15) (h9 : 0 ≤ T 191 0 0 ∧ T 191 0 0 ≤ 900000000) : Ct_ yX10_can zX10_can T [vR 110 0, vI c, vI b] (po_X10_can_e T c b) := sorry
