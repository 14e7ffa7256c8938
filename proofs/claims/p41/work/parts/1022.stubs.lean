abbrev cX10_isBelow : ByteArray := prog_1_method_51_code
def yX10_isBelow : MethodName := ⟨RX10, "isBelow", "(II)Z"⟩
def zX10_isBelow : Zm := (RX10, cX10_isBelow, 2, (some .boolean), { frames := 0, cells := 0, slots := 0, locals := 0 })
abbrev po_X10_isBelow (T : Zt) (v n : Int) : Zt → Option Zv → Prop := fun T' r => T = T' ∧ ∃ x : Int, r = some (vI x) ∧ ((x = 1 ∧ 0 ≤ v ∧ v < n) ∨ (x = 0 ∧ ¬ (0 ≤ v ∧ v < n)))
set_option maxHeartbeats 4000000 in
theorem ct_X10_isBelow {T : Zt} {v n : Int} : Ct_ yX10_isBelow zX10_isBelow T [vI v, vI n] (po_X10_isBelow T v n) := sorry
abbrev cX10_isDay : ByteArray := prog_1_method_49_code
def yX10_isDay : MethodName := ⟨RX10, "isDay", "(I)Z"⟩
def zX10_isDay : Zm := (RX10, cX10_isDay, 1, (some .boolean), { frames := 0, cells := 0, slots := 0, locals := 0 })
abbrev po_X10_isDay (T : Zt) (d : Int) : Zt → Option Zv → Prop := fun T' r => T = T' ∧ ∃ x : Int, r = some (vI x) ∧ ((x = 1 ∧ 0 ≤ d ∧ d ≤ 999) ∨ (x = 0 ∧ ¬ (0 ≤ d ∧ d ≤ 999)))
set_option maxHeartbeats 4000000 in
theorem ct_X10_isDay {T : Zt} {d : Int} : Ct_ yX10_isDay zX10_isDay T [vI d] (po_X10_isDay T d) := sorry
abbrev cX10_isSide : ByteArray := prog_1_method_50_code
def yX10_isSide : MethodName := ⟨RX10, "isSide", "(I)Z"⟩
def zX10_isSide : Zm := (RX10, cX10_isSide, 1, (some .boolean), { frames := 0, cells := 0, slots := 0, locals := 0 })
abbrev po_X10_isSide (T : Zt) (s : Int) : Zt → Option Zv → Prop := fun T' r => T = T' ∧ ∃ x : Int, r = some (vI x) ∧ ((x = 1 ∧ 0 ≤ s ∧ s ≤ 1) ∨ (x = 0 ∧ ¬ (0 ≤ s ∧ s ≤ 1)))
set_option maxHeartbeats 4000000 in
theorem ct_X10_isSide {T : Zt} {s : Int} : Ct_ yX10_isSide zX10_isSide T [vI s] (po_X10_isSide T s) := sorry
abbrev cX10_isClub : ByteArray := prog_1_method_46_code
def yX10_isClub : MethodName := ⟨RX10, "isClub", "(I)Z"⟩
def zX10_isClub : Zm := (RX10, cX10_isClub, 2, (some .boolean), { frames := 1, cells := 0, slots := 0, locals := 21 })
set_option maxRecDepth 100000 in
theorem cl_X10_115 : cs_ RX10 115 yX10_isBelow zX10_isBelow 2 := sorry
abbrev po_X10_isClub (T : Zt) (v : Int) : Zt → Option Zv → Prop := fun T' r => T = T' ∧ ∃ x : Int, r = some (vI x) ∧ ((x = 1 ∧ 0 ≤ v ∧ v < T 108 0 2) ∨ (x = 0 ∧ ¬ (0 ≤ v ∧ v < T 108 0 2)))
set_option maxHeartbeats 4000000 in
theorem ct_X10_isClub {T : Zt} {v : Int} : Ct_ yX10_isClub zX10_isClub T [vR 110 0, vI v] (po_X10_isClub T v) := sorry
abbrev cX10_isPerson : ByteArray := prog_1_method_47_code
def yX10_isPerson : MethodName := ⟨RX10, "isPerson", "(I)Z"⟩
def zX10_isPerson : Zm := (RX10, cX10_isPerson, 2, (some .boolean), { frames := 1, cells := 0, slots := 0, locals := 21 })
abbrev po_X10_isPerson (T : Zt) (v : Int) : Zt → Option Zv → Prop := fun T' r => T = T' ∧ ∃ x : Int, r = some (vI x) ∧ ((x = 1 ∧ 0 ≤ v ∧ v < T 108 0 3) ∨ (x = 0 ∧ ¬ (0 ≤ v ∧ v < T 108 0 3)))
set_option maxHeartbeats 4000000 in
theorem ct_X10_isPerson {T : Zt} {v : Int} : Ct_ yX10_isPerson zX10_isPerson T [vR 110 0, vI v] (po_X10_isPerson T v) := sorry
abbrev cX10_isMatch : ByteArray := prog_1_method_48_code
def yX10_isMatch : MethodName := ⟨RX10, "isMatch", "(I)Z"⟩
def zX10_isMatch : Zm := (RX10, cX10_isMatch, 2, (some .boolean), { frames := 1, cells := 0, slots := 0, locals := 21 })
abbrev po_X10_isMatch (T : Zt) (v : Int) : Zt → Option Zv → Prop := fun T' r => T = T' ∧ ∃ x : Int, r = some (vI x) ∧ ((x = 1 ∧ 0 ≤ v ∧ v < T 106 0 4) ∨ (x = 0 ∧ ¬ (0 ≤ v ∧ v < T 106 0 4)))
set_option maxHeartbeats 4000000 in
theorem ct_X10_isMatch {T : Zt} {v : Int} : Ct_ yX10_isMatch zX10_isMatch T [vR 110 0, vI v] (po_X10_isMatch T v) := sorry
abbrev cX10_isCompetition : ByteArray := prog_1_method_45_code
def yX10_isCompetition : MethodName := ⟨RX10, "isCompetition", "(I)Z"⟩
def zX10_isCompetition : Zm := (RX10, cX10_isCompetition, 2, (some .boolean), { frames := 1, cells := 0, slots := 0, locals := 21 })
abbrev po_X10_isCompetition (T : Zt) (v : Int) : Zt → Option Zv → Prop := fun T' r => T = T' ∧ ∃ x : Int, r = some (vI x) ∧ ((x = 1 ∧ 0 ≤ v ∧ v < T 106 0 2) ∨ (x = 0 ∧ ¬ (0 ≤ v ∧ v < T 106 0 2)))
set_option maxHeartbeats 4000000 in
theorem ct_X10_isCompetition {T : Zt} {v : Int} : Ct_ yX10_isCompetition zX10_isCompetition T [vR 110 0, vI v] (po_X10_isCompetition T v) := sorry
abbrev cX10_person : ByteArray := prog_1_method_8_code
def yX10_person : MethodName := ⟨RX10, "person", "()I"⟩
def zX10_person : Zm := (RX10, cX10_person, 2, (some .int), { frames := 0, cells := 0, slots := 0, locals := 0 })
abbrev po_X10_person (T : Zt) : Zt → Option Zv → Prop := fun T' r => ∃ x : Int, r = some (vI x) ∧ fr_ [(108, [3]), (564, [])] T T' ∧ ((x = -3 ∧ ¬ (0 = (0 : Int)) ∧ T' 108 0 3 = T 108 0 3) ∨ ((0 = (0 : Int)) ∧ T 108 0 3 = 200 ∧ x = -5 ∧ T' 108 0 3 = T 108 0 3) ∨ ((0 = (0 : Int)) ∧ T 108 0 3 < 200 ∧ x = T 108 0 3 ∧ T' 108 0 3 = T 108 0 3 + 1))
abbrev cX10_club : ByteArray := prog_1_method_7_code
def yX10_club : MethodName := ⟨RX10, "club", "(II)I"⟩
def zX10_club : Zm := (RX10, cX10_club, 4, (some .int), { frames := 1, cells := 0, slots := 0, locals := 21 })
abbrev po_X10_club (T : Zt) (s c : Int) : Zt → Option Zv → Prop := fun T' r => ∃ x : Int, r = some (vI x) ∧ fr_ [(108, [2]), (560, []), (561, [])] T T' ∧ ((x = -3 ∧ ¬ (0 ≤ s ∧ s ≤ 11 ∧ 0 ≤ c ∧ c ≤ 7) ∧ T' 108 0 2 = T 108 0 2) ∨ ((0 ≤ s ∧ s ≤ 11 ∧ 0 ≤ c ∧ c ≤ 7) ∧ T 108 0 2 = 12 ∧ x = -5 ∧ T' 108 0 2 = T 108 0 2) ∨ ((0 ≤ s ∧ s ≤ 11 ∧ 0 ≤ c ∧ c ≤ 7) ∧ T 108 0 2 < 12 ∧ x = T 108 0 2 ∧ T' 108 0 2 = T 108 0 2 + 1))
abbrev cX10_official : ByteArray := prog_1_method_10_code
def yX10_official : MethodName := ⟨RX10, "official", "(II)I"⟩
def zX10_official : Zm := (RX10, cX10_official, 4, (some .int), { frames := 1, cells := 0, slots := 0, locals := 21 })
abbrev po_X10_official (T : Zt) (s c : Int) : Zt → Option Zv → Prop := fun T' r => ∃ x : Int, r = some (vI x) ∧ fr_ [(108, [12]), (570, []), (571, [])] T T' ∧ ((x = -3 ∧ ¬ (0 ≤ s ∧ s ≤ 11 ∧ 0 ≤ c ∧ c ≤ 7) ∧ T' 108 0 12 = T 108 0 12) ∨ ((0 ≤ s ∧ s ≤ 11 ∧ 0 ≤ c ∧ c ≤ 7) ∧ T 108 0 12 = 8 ∧ x = -5 ∧ T' 108 0 12 = T 108 0 12) ∨ ((0 ≤ s ∧ s ≤ 11 ∧ 0 ≤ c ∧ c ≤ 7) ∧ T 108 0 12 < 8 ∧ x = T 108 0 12 ∧ T' 108 0 12 = T 108 0 12 + 1))
abbrev cX10_day : ByteArray := prog_1_method_11_code
def yX10_day : MethodName := ⟨RX10, "day", "(I)I"⟩
def zX10_day : Zm := (RX10, cX10_day, 3, (some .int), { frames := 1, cells := 0, slots := 0, locals := 20 })
set_option maxRecDepth 100000 in
theorem cl_X10_140 : cs_ RX10 140 yX10_isDay zX10_isDay 1 := sorry
abbrev po_X10_day (T : Zt) (d : Int) : Zt → Option Zv → Prop := fun T' r => ∃ x : Int, r = some (vI x) ∧ fr_ [(108, [13])] T T' ∧ ((x = -3 ∧ ¬ (T 108 0 13 < d ∧ d ≤ 999) ∧ T' 108 0 13 = T 108 0 13) ∨ (T 108 0 13 < d ∧ d ≤ 999 ∧ x = T 108 0 13 ∧ T' 108 0 13 = d))
set_option maxHeartbeats 4000000 in
theorem ct_X10_day {T : Zt} {d : Int} : Ct_ yX10_day zX10_day T [vR 110 0, vI d] (po_X10_day T d) := sorry
abbrev cX10_count : ByteArray := prog_1_method_44_code
def yX10_count : MethodName := ⟨RX10, "count", "(I)I"⟩
def zX10_count : Zm := (RX10, cX10_count, 2, (some .int), { frames := 0, cells := 0, slots := 0, locals := 0 })
theorem ds_X10_count_1 : decode cX10_count 1 = .ok (.tableswitch 111 0 7 #[47, 55, 63, 71, 79, 87, 95, 103], 47) := sorry
abbrev po_X10_count (T : Zt) (w : Int) : Zt → Option Zv → Prop := fun T' r => T = T' ∧ ∃ x : Int, r = some (vI x) ∧ (True)
set_option maxHeartbeats 4000000 in
theorem ct_X10_count {T : Zt} {w : Int} : Ct_ yX10_count zX10_count T [vR 110 0, vI w] (po_X10_count T w) := sorry
abbrev cX10_cut : ByteArray := prog_1_method_34_code
def yX10_cut : MethodName := ⟨RX10, "cut", "()I"⟩
def zX10_cut : Zm := (RX10, cX10_cut, 1, (some .int), { frames := 0, cells := 0, slots := 0, locals := 0 })
abbrev po_X10_cut (T : Zt) : Zt → Option Zv → Prop := fun T' r => T = T' ∧ ∃ x : Int, r = some (vI x) ∧ (True)
set_option maxHeartbeats 4000000 in
theorem ct_X10_cut {T : Zt} : Ct_ yX10_cut zX10_cut T [vR 110 0] (po_X10_cut T) := sorry
abbrev cX10_fault : ByteArray := prog_1_method_5_code
def yX10_fault : MethodName := ⟨RX10, "fault", "()I"⟩
def zX10_fault : Zm := (RX10, cX10_fault, 1, (some .int), { frames := 0, cells := 0, slots := 0, locals := 0 })
abbrev cX10_sign : ByteArray := prog_1_method_2_code
def yX10_sign : MethodName := ⟨RX10, "sign", "(I)I"⟩
def zX10_sign : Zm := (RX10, cX10_sign, 2, (some .int), { frames := 0, cells := 0, slots := 0, locals := 0 })
abbrev po_X10_sign (T : Zt) (c : Int) : Zt → Option Zv → Prop := fun T' r => ∃ x : Int, r = some (vI x) ∧ fr_ [(105, [1]), (500, [])] T T' ∧ ((x = -3 ∧ T' 105 0 1 = T 105 0 1 ∧ ¬ (c = 10 ∨ 32 ≤ c ∧ c ≤ 126)) ∨ ((c = 10 ∨ 32 ≤ c ∧ c ≤ 126) ∧ (T 105 0 1 = 400 ∧ x = -5 ∧ T' 105 0 1 = 400 ∨ T 105 0 1 < 400 ∧ x = T 105 0 1 + 1 ∧ T' 105 0 1 = x)))
abbrev cX10_wipe : ByteArray := prog_1_method_3_code
def yX10_wipe : MethodName := ⟨RX10, "wipe", "()I"⟩
def zX10_wipe : Zm := (RX10, cX10_wipe, 2, (some .int), { frames := 0, cells := 0, slots := 0, locals := 0 })
abbrev po_X10_wipe (T : Zt) : Zt → Option Zv → Prop := fun T' r => ∃ x : Int, r = some (vI x) ∧ fr_ [(105, [1])] T T' ∧ (T' 105 0 1 = 0 ∧ x = T 105 0 1)
set_option maxHeartbeats 4000000 in
theorem ct_X10_wipe {T : Zt} : Ct_ yX10_wipe zX10_wipe T [vR 110 0] (po_X10_wipe T) := sorry
abbrev cX8_isRegisteredWithin : ByteArray := prog_10_method_2_code
def yX8_isRegisteredWithin : MethodName := ⟨RX8, "isRegisteredWithin", "(III)Z"⟩
def zX8_isRegisteredWithin : Zm := (RX8, cX8_isRegisteredWithin, 6, (some .boolean), { frames := 0, cells := 0, slots := 0, locals := 0 })
abbrev cX8_clubOn : ByteArray := prog_10_method_4_code
def yX8_clubOn : MethodName := ⟨RX8, "clubOn", "(II)I"⟩
def zX8_clubOn : Zm := (RX8, cX8_clubOn, 5, (some .int), { frames := 0, cells := 0, slots := 0, locals := 0 })
abbrev po_X8_clubOn (T : Zt) (p d : Int) : Zt → Option Zv → Prop := fun T' r => T = T' ∧ ∃ x : Int, r = some (vI x) ∧ (-1 ≤ x ∧ x ≤ 11)
set_option maxHeartbeats 4000000 in
theorem ct_X8_clubOn {T : Zt} {p d : Int} (h1 : 0 ≤ p ∧ p < 200) : Ct_ yX8_clubOn zX8_clubOn T [vR 108 0, vI p, vI d] (po_X8_clubOn T p d) := sorry
abbrev cX8_addSpan : ByteArray := prog_10_method_3_code
def yX8_addSpan : MethodName := ⟨RX8, "addSpan", "(IIII)V"⟩
def zX8_addSpan : Zm := (RX8, cX8_addSpan, 5, none, { frames := 0, cells := 0, slots := 0, locals := 0 })
abbrev cX10_register : ByteArray := prog_1_method_9_code
def yX10_register : MethodName := ⟨RX10, "register", "(IIII)I"⟩
def zX10_register : Zm := (RX10, cX10_register, 5, (some .int), { frames := 2, cells := 0, slots := 0, locals := 42 })
set_option maxRecDepth 100000 in
theorem cl_X10_134 : cv_ RX10 134 yX10_isPerson zX10_isPerson 10 1 := sorry
set_option maxRecDepth 100000 in
theorem cl_X10_137 : cv_ RX10 137 yX10_isClub zX10_isClub 10 1 := sorry
set_option maxRecDepth 100000 in
theorem cl_X10_143 : cv_ RX10 143 yX8_isRegisteredWithin zX8_isRegisteredWithin 8 3 := sorry
set_option maxRecDepth 100000 in
theorem cl_X10_150 : cv_ RX10 150 yX8_addSpan zX8_addSpan 8 4 := sorry
abbrev po_X10_register (T : Zt) (p cl a b : Int) : Zt → Option Zv → Prop := fun T' r => ∃ x : Int, r = some (vI x) ∧ fr_ [(108, [5]), (566, []), (567, []), (568, []), (569, []), (564, [])] T T' ∧ (x = x)
abbrev cX10_moved : ByteArray := prog_1_method_17_code
def yX10_moved : MethodName := ⟨RX10, "moved", "(I)I"⟩
def zX10_moved : Zm := (RX10, cX10_moved, 2, (some .int), { frames := 1, cells := 0, slots := 0, locals := 21 })
abbrev po_X10_moved (T : Zt) (k : Int) : Zt → Option Zv → Prop := fun T' r => T = T' ∧ ∃ x : Int, r = some (vI x) ∧ (True)
set_option maxHeartbeats 4000000 in
theorem ct_X10_moved {T : Zt} {k : Int} : Ct_ yX10_moved zX10_moved T [vR 110 0, vI k] (po_X10_moved T k) := sorry
abbrev cX10_witness : ByteArray := prog_1_method_33_code
def yX10_witness : MethodName := ⟨RX10, "witness", "(I)I"⟩
def zX10_witness : Zm := (RX10, cX10_witness, 2, (some .int), { frames := 2, cells := 0, slots := 0, locals := 42 })
set_option maxRecDepth 100000 in
theorem cl_X10_195 : cv_ RX10 195 yX10_isMatch zX10_isMatch 10 1 := sorry
abbrev po_X10_witness (T : Zt) (m : Int) : Zt → Option Zv → Prop := fun T' r => T = T' ∧ ∃ x : Int, r = some (vI x) ∧ (True)
set_option maxHeartbeats 4000000 in
theorem ct_X10_witness {T : Zt} {m : Int} : Ct_ yX10_witness zX10_witness T [vR 110 0, vI m] (po_X10_witness T m) := sorry
abbrev cX10_drawn : ByteArray := prog_1_method_41_code
def yX10_drawn : MethodName := ⟨RX10, "drawn", "(I)I"⟩
def zX10_drawn : Zm := (RX10, cX10_drawn, 2, (some .int), { frames := 2, cells := 0, slots := 0, locals := 42 })
abbrev cX6_addDeduction : ByteArray := prog_8_method_12_code
def yX6_addDeduction : MethodName := ⟨RX6, "addDeduction", "(III)V"⟩
def zX6_addDeduction : Zm := (RX6, cX6_addDeduction, 4, none, { frames := 0, cells := 0, slots := 0, locals := 0 })
abbrev cX6_deductedUpTo : ByteArray := prog_8_method_13_code
def yX6_deductedUpTo : MethodName := ⟨RX6, "deductedUpTo", "(III)I"⟩
def zX6_deductedUpTo : Zm := (RX6, cX6_deductedUpTo, 6, (some .int), { frames := 0, cells := 0, slots := 0, locals := 0 })
abbrev po_X6_deductedUpTo (T : Zt) (d c cl : Int) : Zt → Option Zv → Prop := fun T' r => T = T' ∧ ∃ x : Int, r = some (vI x) ∧ (0 ≤ x ∧ x ≤ 4950)
set_option maxHeartbeats 4000000 in
theorem ct_X6_deductedUpTo {T : Zt} {d c cl : Int} : Ct_ yX6_deductedUpTo zX6_deductedUpTo T [vR 106 0, vI d, vI c, vI cl] (po_X6_deductedUpTo T d c cl) := sorry
def KA_ (T : Zt) : Prop := (∀ i : Int, 0 ≤ i → i < T 106 0 2 → T 521 0 i ≠ 0) ∧ (∀ i : Int, 0 ≤ i → i < T 106 0 4 → T 523 0 i ≠ 0)
theorem KA__f {ws : List (Nat × List Int)} {T T' : Zt} (h : KA_ T) (f : fr_ ws T T') (w : (∀ j, fw_ ws 521 j = false) ∧ (∀ j, fw_ ws 523 j = false) ∧ fw_ ws 106 2 = false ∧ fw_ ws 106 4 = false ∧ True) : KA_ T' := sorry
abbrev cX10_officialOf : ByteArray := prog_1_method_43_code
def yX10_officialOf : MethodName := ⟨RX10, "officialOf", "(I)I"⟩
def zX10_officialOf : Zm := (RX10, cX10_officialOf, 2, (some .int), { frames := 2, cells := 0, slots := 0, locals := 42 })
abbrev po_X10_officialOf (T : Zt) (m : Int) : Zt → Option Zv → Prop := fun T' r => T = T' ∧ ∃ x : Int, r = some (vI x) ∧ (True)
set_option maxHeartbeats 4000000 in
theorem ct_X10_officialOf {T : Zt} {m : Int} (hka : KA_ T) : Ct_ yX10_officialOf zX10_officialOf T [vR 110 0, vI m] (po_X10_officialOf T m) := sorry
abbrev cX10_rule : ByteArray := prog_1_method_6_code
def yX10_rule : MethodName := ⟨RX10, "rule", "(II)I"⟩
def zX10_rule : Zm := (RX10, cX10_rule, 5, (some .int), { frames := 2, cells := 0, slots := 0, locals := 42 })
set_option maxRecDepth 100000 in
theorem cl_X10_107 : cv_ RX10 107 yX10_isCompetition zX10_isCompetition 10 1 := sorry
abbrev cX10_deduct : ByteArray := prog_1_method_18_code
def yX10_deduct : MethodName := ⟨RX10, "deduct", "(III)I"⟩
def zX10_deduct : Zm := (RX10, cX10_deduct, 4, (some .int), { frames := 2, cells := 0, slots := 0, locals := 42 })
set_option maxRecDepth 100000 in
theorem cl_X10_247 : cv_ RX10 247 yX6_addDeduction zX6_addDeduction 6 3 := sorry
abbrev po_X10_deduct (T : Zt) (c cl p : Int) : Zt → Option Zv → Prop := fun T' r => ∃ x : Int, r = some (vI x) ∧ fr_ [(106, [6]), (527, []), (528, []), (529, []), (530, [])] T T' ∧ (x = x)

def fJ7 : Zf := ([], [], [], [])
set_option maxRecDepth 100000 in
set_option maxHeartbeats 4000000 in
theorem tg_J7 : ∀ q ∈ fJ7.1, fl_ RJ7 q.1 q.2.1 q.2.2 := sorry
set_option maxRecDepth 100000 in
set_option maxHeartbeats 4000000 in
theorem tp_J7 : ∀ q ∈ fJ7.2.1, fp_ RJ7 q.1 q.2.1 q.2.2 := sorry
theorem tb_J7 : tb_ RJ7 fJ7 := sorry
theorem an_1b (x : Int) : 0 ≤ an_ x 1 ∧ an_ x 1 ≤ 1 := sorry
/-- only what has the index p has changed -/
def oi_ (T T1 : Zt) (p : Int) : Prop := ∀ k i j, i ≠ p → T1 k i j = T k i j
theorem oi_r {T : Zt} {p : Int} : oi_ T T p := sorry
theorem oi_u {T T1 T2 : Zt} {p j v : Int} {k : Nat} (h : oi_ T T1 p) (e : T2 = up_ T1 k p j v) : oi_ T T2 p := sorry
theorem oi_t {T T1 T2 : Zt} {p : Int} (h : oi_ T T1 p) (g : oi_ T1 T2 p) : oi_ T T2 p := sorry
abbrev cJ7_fill_53178 : ByteArray := prog_21_method_103_code
def yJ7_fill_53178 : MethodName := ⟨RJ7, "fill", "([II)V"⟩
def zJ7_fill_53178 : Zm := (RJ7, cJ7_fill_53178, 4, none, { frames := 0, cells := 0, slots := 0, locals := 0 })
abbrev po_J7_fill_466 (T : Zt) (p : Int) (v : Int) : Zt → Option Zv → Prop := fun T' r => r = none ∧ fr_ [(466, [])] T T' ∧ oi_ T T' p ∧ ∀ j, 0 ≤ j → j < 2 → T' 466 p j = v
set_option maxHeartbeats 4000000 in
theorem ct_J7_fill_466 {T : Zt} {p : Int} {v : Int} (h1 : (-2147483648) ≤ v ∧ v ≤ 2147483647) : Ct_ yJ7_fill_53178 zJ7_fill_53178 T [vR 466 p, vI v] (po_J7_fill_466 T p v) := sorry
abbrev po_J7_fill_467 (T : Zt) (p : Int) (v : Int) : Zt → Option Zv → Prop := fun T' r => r = none ∧ fr_ [(467, [])] T T' ∧ oi_ T T' p ∧ ∀ j, 0 ≤ j → j < 2 → T' 467 p j = v
set_option maxHeartbeats 4000000 in
theorem ct_J7_fill_467 {T : Zt} {p : Int} {v : Int} (h1 : (-2147483648) ≤ v ∧ v ≤ 2147483647) : Ct_ yJ7_fill_53178 zJ7_fill_53178 T [vR 467 p, vI v] (po_J7_fill_467 T p v) := sorry
abbrev po_J7_fill_468 (T : Zt) (p : Int) (v : Int) : Zt → Option Zv → Prop := fun T' r => r = none ∧ fr_ [(468, [])] T T' ∧ oi_ T T' p ∧ ∀ j, 0 ≤ j → j < 2 → T' 468 p j = v
set_option maxHeartbeats 4000000 in
theorem ct_J7_fill_468 {T : Zt} {p : Int} {v : Int} (h1 : (-2147483648) ≤ v ∧ v ≤ 2147483647) : Ct_ yJ7_fill_53178 zJ7_fill_53178 T [vR 468 p, vI v] (po_J7_fill_468 T p v) := sorry
abbrev po_J7_fill_469 (T : Zt) (p : Int) (v : Int) : Zt → Option Zv → Prop := fun T' r => r = none ∧ fr_ [(469, [])] T T' ∧ oi_ T T' p ∧ ∀ j, 0 ≤ j → j < 2 → T' 469 p j = v
set_option maxHeartbeats 4000000 in
theorem ct_J7_fill_469 {T : Zt} {p : Int} {v : Int} (h1 : (-2147483648) ≤ v ∧ v ≤ 2147483647) : Ct_ yJ7_fill_53178 zJ7_fill_53178 T [vR 469 p, vI v] (po_J7_fill_469 T p v) := sorry
abbrev po_J7_fill_472 (T : Zt) (p : Int) (v : Int) : Zt → Option Zv → Prop := fun T' r => r = none ∧ fr_ [(472, [])] T T' ∧ oi_ T T' p ∧ ∀ j, 0 ≤ j → j < 20 → T' 472 p j = v
set_option maxHeartbeats 4000000 in
theorem ct_J7_fill_472 {T : Zt} {p : Int} {v : Int} (h1 : 0 ≤ v ∧ v ≤ 3) : Ct_ yJ7_fill_53178 zJ7_fill_53178 T [vR 472 p, vI v] (po_J7_fill_472 T p v) := sorry
abbrev po_J7_fill_473 (T : Zt) (p : Int) (v : Int) : Zt → Option Zv → Prop := fun T' r => r = none ∧ fr_ [(473, [])] T T' ∧ oi_ T T' p ∧ ∀ j, 0 ≤ j → j < 20 → T' 473 p j = v
set_option maxHeartbeats 4000000 in
theorem ct_J7_fill_473 {T : Zt} {p : Int} {v : Int} (h1 : (-2147483648) ≤ v ∧ v ≤ 2147483647) : Ct_ yJ7_fill_53178 zJ7_fill_53178 T [vR 473 p, vI v] (po_J7_fill_473 T p v) := sorry
abbrev po_J7_fill_428 (T : Zt) (p : Int) (v : Int) : Zt → Option Zv → Prop := fun T' r => r = none ∧ fr_ [(428, [])] T T' ∧ oi_ T T' p ∧ ∀ j, 0 ≤ j → j < 12 → T' 428 p j = v
set_option maxHeartbeats 4000000 in
theorem ct_J7_fill_428 {T : Zt} {p : Int} {v : Int} (h1 : (-1) ≤ v ∧ v ≤ 2) : Ct_ yJ7_fill_53178 zJ7_fill_53178 T [vR 428 p, vI v] (po_J7_fill_428 T p v) := sorry
abbrev po_J7_fill_429 (T : Zt) (p : Int) (v : Int) : Zt → Option Zv → Prop := fun T' r => r = none ∧ fr_ [(429, [])] T T' ∧ oi_ T T' p ∧ ∀ j, 0 ≤ j → j < 12 → T' 429 p j = v
set_option maxHeartbeats 4000000 in
theorem ct_J7_fill_429 {T : Zt} {p : Int} {v : Int} (h1 : (-1) ≤ v ∧ v ≤ 3) : Ct_ yJ7_fill_53178 zJ7_fill_53178 T [vR 429 p, vI v] (po_J7_fill_429 T p v) := sorry
abbrev po_J7_fill_430 (T : Zt) (p : Int) (v : Int) : Zt → Option Zv → Prop := fun T' r => r = none ∧ fr_ [(430, [])] T T' ∧ oi_ T T' p ∧ ∀ j, 0 ≤ j → j < 3 → T' 430 p j = v
set_option maxHeartbeats 4000000 in
theorem ct_J7_fill_430 {T : Zt} {p : Int} {v : Int} (h1 : 0 ≤ v ∧ v ≤ 4) : Ct_ yJ7_fill_53178 zJ7_fill_53178 T [vR 430 p, vI v] (po_J7_fill_430 T p v) := sorry
abbrev po_J7_fill_431 (T : Zt) (p : Int) (v : Int) : Zt → Option Zv → Prop := fun T' r => r = none ∧ fr_ [(431, [])] T T' ∧ oi_ T T' p ∧ ∀ j, 0 ≤ j → j < 48 → T' 431 p j = v
set_option maxHeartbeats 4000000 in
theorem ct_J7_fill_431 {T : Zt} {p : Int} {v : Int} (h1 : (-2147483648) ≤ v ∧ v ≤ 2147483647) : Ct_ yJ7_fill_53178 zJ7_fill_53178 T [vR 431 p, vI v] (po_J7_fill_431 T p v) := sorry
abbrev po_J7_fill_434 (T : Zt) (p : Int) (v : Int) : Zt → Option Zv → Prop := fun T' r => r = none ∧ fr_ [(434, [])] T T' ∧ oi_ T T' p ∧ ∀ j, 0 ≤ j → j < 12 → T' 434 p j = v
set_option maxHeartbeats 4000000 in
theorem ct_J7_fill_434 {T : Zt} {p : Int} {v : Int} (h1 : 0 ≤ v ∧ v ≤ 1) : Ct_ yJ7_fill_53178 zJ7_fill_53178 T [vR 434 p, vI v] (po_J7_fill_434 T p v) := sorry
abbrev po_J7_fill_435 (T : Zt) (p : Int) (v : Int) : Zt → Option Zv → Prop := fun T' r => r = none ∧ fr_ [(435, [])] T T' ∧ oi_ T T' p ∧ ∀ j, 0 ≤ j → j < 32 → T' 435 p j = v
set_option maxHeartbeats 4000000 in
theorem ct_J7_fill_435 {T : Zt} {p : Int} {v : Int} (h1 : (-2147483648) ≤ v ∧ v ≤ 2147483647) : Ct_ yJ7_fill_53178 zJ7_fill_53178 T [vR 435 p, vI v] (po_J7_fill_435 T p v) := sorry
abbrev cX2_phaseOfLife : ByteArray := prog_4_method_2_code
def yX2_phaseOfLife : MethodName := ⟨RX2, "phaseOfLife", "()I"⟩
def zX2_phaseOfLife : Zm := (RX2, cX2_phaseOfLife, 1, (some .int), { frames := 0, cells := 0, slots := 0, locals := 0 })
abbrev po_X2_phaseOfLife (T : Zt) (p : Int) : Zt → Option Zv → Prop := fun T' r => T = T' ∧ ∃ x : Int, r = some (vI x) ∧ (0 ≤ x ∧ x ≤ 3 ∧ (x = 3 ↔ T 102 p 6 ≠ -1) ∧ (x = 0 ↔ T 102 p 6 = -1 ∧ T 102 p 10 = 0))
set_option maxHeartbeats 4000000 in
theorem ct_X2_phaseOfLife {T : Zt} {p : Int} : Ct_ yX2_phaseOfLife zX2_phaseOfLife T [vR 102 p] (po_X2_phaseOfLife T p) := sorry
abbrev cX2_isDecided : ByteArray := prog_4_method_3_code
def yX2_isDecided : MethodName := ⟨RX2, "isDecided", "()Z"⟩
def zX2_isDecided : Zm := (RX2, cX2_isDecided, 1, (some .boolean), { frames := 1, cells := 0, slots := 0, locals := 20 })
set_option maxRecDepth 100000 in
theorem cl_X2_54 : cv_ RX2 54 yX2_phaseOfLife zX2_phaseOfLife 2 0 := sorry
abbrev po_X2_isDecided (T : Zt) (p : Int) : Zt → Option Zv → Prop := fun T' r => T = T' ∧ ∃ x : Int, r = some (vI x) ∧ (0 ≤ x ∧ x ≤ 1)
set_option maxHeartbeats 4000000 in
theorem ct_X2_isDecided {T : Zt} {p : Int} : Ct_ yX2_isDecided zX2_isDecided T [vR 102 p] (po_X2_isDecided T p) := sorry
abbrev cX2_scoreOf : ByteArray := prog_4_method_4_code
def yX2_scoreOf : MethodName := ⟨RX2, "scoreOf", "(I)I"⟩
def zX2_scoreOf : Zm := (RX2, cX2_scoreOf, 2, (some .int), { frames := 0, cells := 0, slots := 0, locals := 0 })
abbrev po_X2_scoreOf (T : Zt) (p : Int) (s : Int) : Zt → Option Zv → Prop := fun T' r => T = T' ∧ ∃ x : Int, r = some (vI x) ∧ (0 = (0 : Int))
set_option maxHeartbeats 4000000 in
theorem ct_X2_scoreOf {T : Zt} {p : Int} {s : Int} (h1 : 0 ≤ s ∧ s ≤ 1) : Ct_ yX2_scoreOf zX2_scoreOf T [vR 102 p, vI s] (po_X2_scoreOf T p s) := sorry
abbrev cX2_has : ByteArray := prog_4_method_5_code
def yX2_has : MethodName := ⟨RX2, "has", "(I)Z"⟩
def zX2_has : Zm := (RX2, cX2_has, 2, (some .boolean), { frames := 0, cells := 0, slots := 0, locals := 0 })
abbrev po_X2_has (T : Zt) (p : Int) (c : Int) : Zt → Option Zv → Prop := fun T' r => T = T' ∧ ∃ x : Int, r = some (vI x) ∧ (0 ≤ x ∧ x ≤ 1)
set_option maxHeartbeats 4000000 in
theorem ct_X2_has {T : Zt} {p : Int} {c : Int} : Ct_ yX2_has zX2_has T [vR 102 p, vI c] (po_X2_has T p c) := sorry
abbrev cX2_hasEnoughListed : ByteArray := prog_4_method_6_code
def yX2_hasEnoughListed : MethodName := ⟨RX2, "hasEnoughListed", "()Z"⟩
def zX2_hasEnoughListed : Zm := (RX2, cX2_hasEnoughListed, 1, (some .boolean), { frames := 0, cells := 0, slots := 0, locals := 0 })
abbrev po_X2_hasEnoughListed (T : Zt) (p : Int) : Zt → Option Zv → Prop := fun T' r => T = T' ∧ ∃ x : Int, r = some (vI x) ∧ (0 ≤ x ∧ x ≤ 1)
set_option maxHeartbeats 4000000 in
theorem ct_X2_hasEnoughListed {T : Zt} {p : Int} : Ct_ yX2_hasEnoughListed zX2_hasEnoughListed T [vR 102 p] (po_X2_hasEnoughListed T p) := sorry
abbrev cX2_rest : ByteArray := prog_4_method_7_code
def yX2_rest : MethodName := ⟨RX2, "rest", "()I"⟩
def zX2_rest : Zm := (RX2, cX2_rest, 1, (some .int), { frames := 0, cells := 0, slots := 0, locals := 0 })
abbrev po_X2_rest (T : Zt) (p : Int) : Zt → Option Zv → Prop := fun T' r => T = T' ∧ ∃ x : Int, r = some (vI x) ∧ (0 ≤ x ∧ x ≤ 999)
set_option maxHeartbeats 4000000 in
theorem ct_X2_rest {T : Zt} {p : Int} : Ct_ yX2_rest zX2_rest T [vR 102 p] (po_X2_rest T p) := sorry
abbrev cX2_placeOf : ByteArray := prog_4_method_8_code
def yX2_placeOf : MethodName := ⟨RX2, "placeOf", "(I)I"⟩
def zX2_placeOf : Zm := (RX2, cX2_placeOf, 4, (some .int), { frames := 0, cells := 0, slots := 0, locals := 0 })
abbrev po_X2_placeOf (T : Zt) (p : Int) (q : Int) : Zt → Option Zv → Prop := fun T' r => T = T' ∧ ∃ x : Int, r = some (vI x) ∧ (-1 ≤ x ∧ x ≤ 19)
set_option maxHeartbeats 4000000 in
theorem ct_X2_placeOf {T : Zt} {p : Int} {q : Int} : Ct_ yX2_placeOf zX2_placeOf T [vR 102 p, vI q] (po_X2_placeOf T p q) := sorry
abbrev cX3_isSentOff : ByteArray := prog_5_method_4_code
def yX3_isSentOff : MethodName := ⟨RX3, "isSentOff", "(I)Z"⟩
def zX3_isSentOff : Zm := (RX3, cX3_isSentOff, 2, (some .boolean), { frames := 0, cells := 0, slots := 0, locals := 0 })
abbrev po_X3_isSentOff (T : Zt) (p : Int) (k : Int) : Zt → Option Zv → Prop := fun T' r => T = T' ∧ ∃ x : Int, r = some (vI x) ∧ (0 ≤ x ∧ x ≤ 1)
set_option maxHeartbeats 4000000 in
theorem ct_X3_isSentOff {T : Zt} {p : Int} {k : Int} (h1 : 0 ≤ k ∧ k < 20) : Ct_ yX3_isSentOff zX3_isSentOff T [vR 103 p, vI k] (po_X3_isSentOff T p k) := sorry
abbrev cX3_personAt : ByteArray := prog_5_method_3_code
def yX3_personAt : MethodName := ⟨RX3, "personAt", "(II)I"⟩
def zX3_personAt : Zm := (RX3, cX3_personAt, 3, (some .int), { frames := 0, cells := 0, slots := 0, locals := 0 })
abbrev po_X3_personAt (T : Zt) (p : Int) (s k : Int) : Zt → Option Zv → Prop := fun T' r => T = T' ∧ ∃ x : Int, r = some (vI x) ∧ (0 ≤ x ∧ x ≤ 199)
set_option maxHeartbeats 4000000 in
theorem ct_X3_personAt {T : Zt} {p : Int} {s k : Int} (hs : 0 ≤ s ∧ s ≤ 1) (h1 : 0 ≤ k ∧ k < 6) : Ct_ yX3_personAt zX3_personAt T [vR 103 p, vI s, vI k] (po_X3_personAt T p s k) := sorry
abbrev cX3_isBounded : ByteArray := prog_5_method_7_code
def yX3_isBounded : MethodName := ⟨RX3, "isBounded", "(II)Z"⟩
def zX3_isBounded : Zm := (RX3, cX3_isBounded, 3, (some .boolean), { frames := 0, cells := 0, slots := 0, locals := 0 })
abbrev po_X3_isBounded (T : Zt) (p : Int) (k q : Int) : Zt → Option Zv → Prop := fun T' r => T = T' ∧ ∃ x : Int, r = some (vI x) ∧ (0 ≤ x ∧ x ≤ 1)
set_option maxHeartbeats 4000000 in
theorem ct_X3_isBounded {T : Zt} {p : Int} {k q : Int} : Ct_ yX3_isBounded zX3_isBounded T [vR 103 p, vI k, vI q] (po_X3_isBounded T p k q) := sorry
abbrev cX3_isAllowed : ByteArray := prog_5_method_8_code
def yX3_isAllowed : MethodName := ⟨RX3, "isAllowed", "(II)Z"⟩
def zX3_isAllowed : Zm := (RX3, cX3_isAllowed, 3, (some .boolean), { frames := 0, cells := 0, slots := 0, locals := 0 })
abbrev po_X3_isAllowed (T : Zt) (p : Int) (k s : Int) : Zt → Option Zv → Prop := fun T' r => T = T' ∧ ∃ x : Int, r = some (vI x) ∧ (0 ≤ x ∧ x ≤ 1)
set_option maxHeartbeats 4000000 in
theorem ct_X3_isAllowed {T : Zt} {p : Int} {k s : Int} : Ct_ yX3_isAllowed zX3_isAllowed T [vR 103 p, vI k, vI s] (po_X3_isAllowed T p k s) := sorry
abbrev cX3_needsPerson : ByteArray := prog_5_method_9_code
def yX3_needsPerson : MethodName := ⟨RX3, "needsPerson", "(I)Z"⟩
def zX3_needsPerson : Zm := (RX3, cX3_needsPerson, 2, (some .boolean), { frames := 0, cells := 0, slots := 0, locals := 0 })
abbrev cX3_fieldPlace : ByteArray := prog_5_method_10_code
def yX3_fieldPlace : MethodName := ⟨RX3, "fieldPlace", "(II)I"⟩
def zX3_fieldPlace : Zm := (RX3, cX3_fieldPlace, 4, (some .int), { frames := 1, cells := 0, slots := 0, locals := 22 })
set_option maxRecDepth 100000 in
theorem cl_X3_92 : cv_ RX3 92 yX3_personAt zX3_personAt 3 2 := sorry
abbrev po_X3_fieldPlace (T : Zt) (p : Int) (s q : Int) : Zt → Option Zv → Prop := fun T' r => T = T' ∧ ∃ x : Int, r = some (vI x) ∧ (x = -1 ∨ (0 ≤ x ∧ x < T 470 p s))
set_option maxHeartbeats 4000000 in
theorem ct_X3_fieldPlace {T : Zt} {p : Int} {s q : Int} (hs : 0 ≤ s ∧ s ≤ 1) : Ct_ yX3_fieldPlace zX3_fieldPlace T [vR 103 p, vI s, vI q] (po_X3_fieldPlace T p s q) := sorry
abbrev cX3_benchPlace : ByteArray := prog_5_method_11_code
def yX3_benchPlace : MethodName := ⟨RX3, "benchPlace", "(II)I"⟩
def zX3_benchPlace : Zm := (RX3, cX3_benchPlace, 5, (some .int), { frames := 0, cells := 0, slots := 0, locals := 0 })
abbrev po_X3_benchPlace (T : Zt) (p : Int) (s q : Int) : Zt → Option Zv → Prop := fun T' r => T = T' ∧ ∃ x : Int, r = some (vI x) ∧ (x = -1 ∨ (0 ≤ x ∧ x < 20))
set_option maxHeartbeats 4000000 in
theorem ct_X3_benchPlace {T : Zt} {p : Int} {s q : Int} (hs : 0 ≤ s ∧ s ≤ 1) : Ct_ yX3_benchPlace zX3_benchPlace T [vR 103 p, vI s, vI q] (po_X3_benchPlace T p s q) := sorry
abbrev cX3_isWon : ByteArray := prog_5_method_20_code
def yX3_isWon : MethodName := ⟨RX3, "isWon", "([III)Z"⟩
def zX3_isWon : Zm := (RX3, cX3_isWon, 3, (some .boolean), { frames := 0, cells := 0, slots := 0, locals := 0 })
abbrev po_X3_isWon_466 (T : Zt) (p : Int) (s a : Int) : Zt → Option Zv → Prop := fun T' r => T = T' ∧ ∃ x : Int, r = some (vI x) ∧ (0 ≤ x ∧ x ≤ 1)
set_option maxHeartbeats 4000000 in
theorem ct_X3_isWon_466 {T : Zt} {p : Int} {s a : Int} (hs : 0 ≤ s ∧ s ≤ 1) : Ct_ yX3_isWon zX3_isWon T [vR 466 p, vI s, vI a] (po_X3_isWon_466 T p s a) := sorry
abbrev po_X3_isWon_467 (T : Zt) (p : Int) (s a : Int) : Zt → Option Zv → Prop := fun T' r => T = T' ∧ ∃ x : Int, r = some (vI x) ∧ (0 ≤ x ∧ x ≤ 1)
set_option maxHeartbeats 4000000 in
theorem ct_X3_isWon_467 {T : Zt} {p : Int} {s a : Int} (hs : 0 ≤ s ∧ s ≤ 1) : Ct_ yX3_isWon zX3_isWon T [vR 467 p, vI s, vI a] (po_X3_isWon_467 T p s a) := sorry
abbrev cX3_closeGap : ByteArray := prog_5_method_17_code
def yX3_closeGap : MethodName := ⟨RX3, "closeGap", "(II)V"⟩
def zX3_closeGap : Zm := (RX3, cX3_closeGap, 4, none, { frames := 0, cells := 0, slots := 0, locals := 0 })
abbrev po_X3_closeGap (T : Zt) (p : Int) (s k : Int) : Zt → Option Zv → Prop := fun T' r => r = none ∧ fr_ [(471, [])] T T' ∧ (oi_ T T' p ∧ (0 = (0 : Int)))
set_option maxHeartbeats 4000000 in
theorem ct_X3_closeGap {T : Zt} {p : Int} {s k : Int} (hs : 0 ≤ s ∧ s ≤ 1) (h1 : 0 ≤ k ∧ k < 6) : Ct_ yX3_closeGap zX3_closeGap T [vR 103 p, vI s, vI k] (po_X3_closeGap T p s k) := sorry
abbrev cX3_rotate : ByteArray := prog_5_method_19_code
def yX3_rotate : MethodName := ⟨RX3, "rotate", "(I)V"⟩
def zX3_rotate : Zm := (RX3, cX3_rotate, 3, none, { frames := 1, cells := 0, slots := 0, locals := 23 })
set_option maxRecDepth 100000 in
theorem cl_X3_119 : cv_ RX3 119 yX3_closeGap zX3_closeGap 3 2 := sorry
abbrev po_X3_rotate (T : Zt) (p : Int) (s : Int) : Zt → Option Zv → Prop := fun T' r => r = none ∧ fr_ [(471, [])] T T' ∧ (oi_ T T' p ∧ (0 = (0 : Int)))
set_option maxHeartbeats 4000000 in
theorem ct_X3_rotate {T : Zt} {p : Int} {s : Int} (hs : 0 ≤ s ∧ s ≤ 1) (h1 : 1 ≤ T 470 p s) : Ct_ yX3_rotate zX3_rotate T [vR 103 p, vI s] (po_X3_rotate T p s) := sorry
abbrev cX3_isLastInning : ByteArray := prog_5_method_26_code
def yX3_isLastInning : MethodName := ⟨RX3, "isLastInning", "()Z"⟩
def zX3_isLastInning : Zm := (RX3, cX3_isLastInning, 1, (some .boolean), { frames := 0, cells := 0, slots := 0, locals := 0 })
abbrev po_X3_isLastInning (T : Zt) (p : Int) : Zt → Option Zv → Prop := fun T' r => T = T' ∧ ∃ x : Int, r = some (vI x) ∧ (0 ≤ x ∧ x ≤ 1)
set_option maxHeartbeats 4000000 in
theorem ct_X3_isLastInning {T : Zt} {p : Int} : Ct_ yX3_isLastInning zX3_isLastInning T [vR 103 p] (po_X3_isLastInning T p) := sorry
theorem fd_u {T T1 : Zt} {k : Nat} {p s v : Int} (e : T1 = up_ T k p s v) (hs : 0 ≤ s ∧ s ≤ 1) : (s = 0 ∧ T1 k p 0 = v ∧ T1 k p 1 = T k p 1) ∨ (s = 1 ∧ T1 k p 1 = v ∧ T1 k p 0 = T k p 0) := sorry
abbrev cX3_sendOff : ByteArray := prog_5_method_16_code
def yX3_sendOff : MethodName := ⟨RX3, "sendOff", "(II)V"⟩
def zX3_sendOff : Zm := (RX3, cX3_sendOff, 3, none, { frames := 1, cells := 0, slots := 0, locals := 23 })
abbrev po_X3_sendOff (T : Zt) (p : Int) (s k : Int) : Zt → Option Zv → Prop := fun T' r => r = none ∧ fr_ [(472, []), (471, []), (470, []), (103, [3]), (468, [])] T T' ∧ (oi_ T T' p ∧ (T' 103 p 3 = 0 → 1 ≤ T' 470 p 0 ∧ 1 ≤ T' 470 p 1))
set_option maxHeartbeats 4000000 in
theorem ct_X3_sendOff {T : Zt} {p : Int} {s k : Int} (hs : 0 ≤ s ∧ s ≤ 1) (hk : k = -1 ∨ (0 ≤ k ∧ k < T 470 p s)) (hf : 1 ≤ T 401 (T 103 p 0) 9 ∧ T 401 (T 103 p 0) 9 ≤ 6) (hfd : 1 ≤ T 470 p 0 ∧ 1 ≤ T 470 p 1) : Ct_ yX3_sendOff zX3_sendOff T [vR 103 p, vI s, vI k] (po_X3_sendOff T p s k) := sorry
abbrev cX3_showYellow : ByteArray := prog_5_method_15_code
def yX3_showYellow : MethodName := ⟨RX3, "showYellow", "(II)V"⟩
def zX3_showYellow : Zm := (RX3, cX3_showYellow, 4, none, { frames := 2, cells := 0, slots := 0, locals := 45 })
set_option maxRecDepth 100000 in
theorem cl_X3_116 : cv_ RX3 116 yX3_sendOff zX3_sendOff 3 2 := sorry
abbrev po_X3_showYellow (T : Zt) (p : Int) (s k : Int) : Zt → Option Zv → Prop := fun T' r => r = none ∧ fr_ [(472, []), (471, []), (470, []), (103, [3]), (468, []), (473, [])] T T' ∧ (oi_ T T' p ∧ (T' 103 p 3 = 0 → 1 ≤ T' 470 p 0 ∧ 1 ≤ T' 470 p 1))
set_option maxHeartbeats 4000000 in
theorem ct_X3_showYellow {T : Zt} {p : Int} {s k : Int} (hs : 0 ≤ s ∧ s ≤ 1) (hk : k = -1 ∨ (0 ≤ k ∧ k < T 470 p s)) (hf : 1 ≤ T 401 (T 103 p 0) 9 ∧ T 401 (T 103 p 0) 9 ≤ 6) (hfd : 1 ≤ T 470 p 0 ∧ 1 ≤ T 470 p 1) : Ct_ yX3_showYellow zX3_showYellow T [vR 103 p, vI s, vI k] (po_X3_showYellow T p s k) := sorry
abbrev cX3_substitute : ByteArray := prog_5_method_13_code
def yX3_substitute : MethodName := ⟨RX3, "substitute", "(III)V"⟩
def zX3_substitute : Zm := (RX3, cX3_substitute, 6, none, { frames := 2, cells := 0, slots := 0, locals := 45 })
set_option maxRecDepth 100000 in
theorem cl_X3_79 : cv_ RX3 79 yX3_fieldPlace zX3_fieldPlace 3 2 := sorry
set_option maxRecDepth 100000 in
theorem cl_X3_83 : cv_ RX3 83 yX3_benchPlace zX3_benchPlace 3 2 := sorry
abbrev po_X3_substitute (T : Zt) (p : Int) (s a b : Int) : Zt → Option Zv → Prop := fun T' r => r = none ∧ fr_ [(472, []), (471, []), (469, [])] T T' ∧ (oi_ T T' p ∧ (0 = (0 : Int)))
set_option maxHeartbeats 4000000 in
theorem ct_X3_substitute {T : Zt} {p : Int} {s a b : Int} (hs : 0 ≤ s ∧ s ≤ 1) : Ct_ yX3_substitute zX3_substitute T [vR 103 p, vI s, vI a, vI b] (po_X3_substitute T p s a b) := sorry
abbrev cX3_playFootball : ByteArray := prog_5_method_14_code
def yX3_playFootball : MethodName := ⟨RX3, "playFootball", "(III)V"⟩
def zX3_playFootball : Zm := (RX3, cX3_playFootball, 4, none, { frames := 3, cells := 0, slots := 0, locals := 68 })
theorem ds_X3_playFootball_1 : decode cX3_playFootball 1 = .ok (.tableswitch 87 1 4 #[31, 44, 59, 73], 31) := sorry
set_option maxRecDepth 100000 in
theorem cl_X3_113 : cv_ RX3 113 yX3_showYellow zX3_showYellow 3 2 := sorry
abbrev po_X3_playFootball (T : Zt) (p : Int) (k s q : Int) : Zt → Option Zv → Prop := fun T' r => r = none ∧ fr_ [(472, []), (471, []), (470, []), (103, [3, 4]), (468, []), (473, [])] T T' ∧ (oi_ T T' p ∧ (T' 103 p 3 = 0 → 1 ≤ T' 470 p 0 ∧ 1 ≤ T' 470 p 1))
set_option maxHeartbeats 4000000 in
theorem ct_X3_playFootball {T : Zt} {p : Int} {k s q : Int} (hs : k = 0 ∨ (0 ≤ s ∧ s ≤ 1)) (hk : 0 ≤ k ∧ k ≤ 4) (hf : 1 ≤ T 401 (T 103 p 0) 9 ∧ T 401 (T 103 p 0) 9 ≤ 6) (hfd : 1 ≤ T 470 p 0 ∧ 1 ≤ T 470 p 1) : Ct_ yX3_playFootball zX3_playFootball T [vR 103 p, vI k, vI s, vI q] (po_X3_playFootball T p k s q) := sorry
abbrev cX3_playVolleyball : ByteArray := prog_5_method_18_code
def yX3_playVolleyball : MethodName := ⟨RX3, "playVolleyball", "(I)V"⟩
def zX3_playVolleyball : Zm := (RX3, cX3_playVolleyball, 3, none, { frames := 2, cells := 0, slots := 0, locals := 45 })
set_option maxRecDepth 100000 in
theorem cl_X3_125 : cs_ RX3 125 yX3_isWon zX3_isWon 3 := sorry
set_option maxRecDepth 100000 in
theorem cl_X3_62 : cs_ RX3 62 yJ7_fill_53178 zJ7_fill_53178 2 := sorry
set_option maxRecDepth 100000 in
theorem cl_X3_122 : cv_ RX3 122 yX3_rotate zX3_rotate 3 1 := sorry
abbrev po_X3_playVolleyball (T : Zt) (p : Int) (s : Int) : Zt → Option Zv → Prop := fun T' r => r = none ∧ fr_ [(471, []), (103, [3, 4, 5]), (466, []), (468, [])] T T' ∧ (oi_ T T' p ∧ (T' 103 p 3 = 0 → 1 ≤ T' 470 p 0 ∧ 1 ≤ T' 470 p 1))
set_option maxHeartbeats 4000000 in
theorem ct_X3_playVolleyball {T : Zt} {p : Int} {s : Int} (hs : 0 ≤ s ∧ s ≤ 1) (hfd : 1 ≤ T 470 p 0 ∧ 1 ≤ T 470 p 1) : Ct_ yX3_playVolleyball zX3_playVolleyball T [vR 103 p, vI s] (po_X3_playVolleyball T p s) := sorry
abbrev cX3_playTennis : ByteArray := prog_5_method_21_code
def yX3_playTennis : MethodName := ⟨RX3, "playTennis", "(II)V"⟩
def zX3_playTennis : Zm := (RX3, cX3_playTennis, 5, none, { frames := 1, cells := 0, slots := 0, locals := 23 })
abbrev po_X3_playTennis (T : Zt) (p : Int) (k s : Int) : Zt → Option Zv → Prop := fun T' r => r = none ∧ fr_ [(103, [3, 4, 5]), (466, []), (467, []), (468, [])] T T' ∧ (oi_ T T' p ∧ (T' 103 p 3 = 0 → 1 ≤ T' 470 p 0 ∧ 1 ≤ T' 470 p 1))
set_option maxHeartbeats 4000000 in
theorem ct_X3_playTennis {T : Zt} {p : Int} {k s : Int} (hs : 0 ≤ s ∧ s ≤ 1) (hfd : 1 ≤ T 470 p 0 ∧ 1 ≤ T 470 p 1) : Ct_ yX3_playTennis zX3_playTennis T [vR 103 p, vI k, vI s] (po_X3_playTennis T p k s) := sorry
abbrev cX3_endHalf : ByteArray := prog_5_method_28_code
def yX3_endHalf : MethodName := ⟨RX3, "endHalf", "()V"⟩
def zX3_endHalf : Zm := (RX3, cX3_endHalf, 2, none, { frames := 1, cells := 0, slots := 0, locals := 20 })
set_option maxRecDepth 100000 in
theorem cl_X3_147 : cv_ RX3 147 yX3_isLastInning zX3_isLastInning 3 0 := sorry
abbrev po_X3_endHalf (T : Zt) (p : Int) : Zt → Option Zv → Prop := fun T' r => r = none ∧ fr_ [(103, [3, 4, 5])] T T' ∧ (oi_ T T' p ∧ (T' 103 p 3 = 0 → 1 ≤ T' 470 p 0 ∧ 1 ≤ T' 470 p 1))
set_option maxHeartbeats 4000000 in
theorem ct_X3_endHalf {T : Zt} {p : Int} (hfd : 1 ≤ T 470 p 0 ∧ 1 ≤ T 470 p 1) : Ct_ yX3_endHalf zX3_endHalf T [vR 103 p] (po_X3_endHalf T p) := sorry
abbrev cX3_countOut : ByteArray := prog_5_method_27_code
def yX3_countOut : MethodName := ⟨RX3, "countOut", "()V"⟩
def zX3_countOut : Zm := (RX3, cX3_countOut, 1, none, { frames := 2, cells := 0, slots := 0, locals := 41 })
set_option maxRecDepth 100000 in
theorem cl_X3_151 : cv_ RX3 151 yX3_endHalf zX3_endHalf 3 0 := sorry
abbrev po_X3_countOut (T : Zt) (p : Int) : Zt → Option Zv → Prop := fun T' r => r = none ∧ fr_ [(103, [3, 4, 5]), (466, []), (467, [])] T T' ∧ (oi_ T T' p ∧ (T' 103 p 3 = 0 → 1 ≤ T' 470 p 0 ∧ 1 ≤ T' 470 p 1))
set_option maxHeartbeats 4000000 in
theorem ct_X3_countOut {T : Zt} {p : Int} (hfd : 1 ≤ T 470 p 0 ∧ 1 ≤ T 470 p 1) : Ct_ yX3_countOut zX3_countOut T [vR 103 p] (po_X3_countOut T p) := sorry
abbrev cX3_goOnBase : ByteArray := prog_5_method_25_code
def yX3_goOnBase : MethodName := ⟨RX3, "goOnBase", "(II)V"⟩
def zX3_goOnBase : Zm := (RX3, cX3_goOnBase, 3, none, { frames := 1, cells := 0, slots := 0, locals := 23 })
abbrev po_X3_goOnBase (T : Zt) (p : Int) (s v : Int) : Zt → Option Zv → Prop := fun T' r => r = none ∧ fr_ [(103, [3]), (466, []), (468, [])] T T' ∧ (oi_ T T' p ∧ (T' 103 p 3 = 0 → 1 ≤ T' 470 p 0 ∧ 1 ≤ T' 470 p 1))
set_option maxHeartbeats 4000000 in
theorem ct_X3_goOnBase {T : Zt} {p : Int} {s v : Int} (hs : 0 ≤ s ∧ s ≤ 1) (hfd : 1 ≤ T 470 p 0 ∧ 1 ≤ T 470 p 1) : Ct_ yX3_goOnBase zX3_goOnBase T [vR 103 p, vI s, vI v] (po_X3_goOnBase T p s v) := sorry
abbrev cX3_walk : ByteArray := prog_5_method_24_code
def yX3_walk : MethodName := ⟨RX3, "walk", "(I)V"⟩
def zX3_walk : Zm := (RX3, cX3_walk, 3, none, { frames := 2, cells := 0, slots := 0, locals := 45 })
set_option maxRecDepth 100000 in
theorem cl_X3_144 : cv_ RX3 144 yX3_goOnBase zX3_goOnBase 3 2 := sorry
abbrev po_X3_walk (T : Zt) (p : Int) (s : Int) : Zt → Option Zv → Prop := fun T' r => r = none ∧ fr_ [(103, [3]), (466, []), (468, []), (467, [])] T T' ∧ (oi_ T T' p ∧ (T' 103 p 3 = 0 → 1 ≤ T' 470 p 0 ∧ 1 ≤ T' 470 p 1))
set_option maxHeartbeats 4000000 in
theorem ct_X3_walk {T : Zt} {p : Int} {s : Int} (hs : 0 ≤ s ∧ s ≤ 1) (hfd : 1 ≤ T 470 p 0 ∧ 1 ≤ T 470 p 1) : Ct_ yX3_walk zX3_walk T [vR 103 p, vI s] (po_X3_walk T p s) := sorry
abbrev cX3_backToBeginning : ByteArray := prog_5_method_2_code
def yX3_backToBeginning : MethodName := ⟨RX3, "backToBeginning", "()V"⟩
def zX3_backToBeginning : Zm := (RX3, cX3_backToBeginning, 3, none, { frames := 1, cells := 0, slots := 0, locals := 23 })
abbrev po_X3_backToBeginning (T : Zt) (p : Int) : Zt → Option Zv → Prop := fun T' r => r = none ∧ fr_ [(103, [3, 4, 5]), (466, []), (467, []), (468, []), (469, []), (472, []), (473, []), (470, []), (471, [])] T T' ∧ (oi_ T T' p ∧ (1 ≤ T' 470 p 0 ∧ 1 ≤ T' 470 p 1) ∧ T' 103 p 3 = 0)
set_option maxHeartbeats 4000000 in
theorem ct_X3_backToBeginning {T : Zt} {p : Int} (hf : 1 ≤ T 401 (T 103 p 0) 9 ∧ T 401 (T 103 p 0) 9 ≤ 6) : Ct_ yX3_backToBeginning zX3_backToBeginning T [vR 103 p] (po_X3_backToBeginning T p) := sorry
abbrev cX7_addSide : ByteArray := prog_9_method_4_code
def yX7_addSide : MethodName := ⟨RX7, "addSide", "(IIII)V"⟩
def zX7_addSide : Zm := (RX7, cX7_addSide, 8, none, { frames := 0, cells := 0, slots := 0, locals := 0 })
abbrev po_X7_addSide (T : Zt) (s q a b : Int) : Zt → Option Zv → Prop := fun T' r => r = none ∧ fr_ [(542, []), (545, []), (546, [])] T T' ∧ (0 = (0 : Int))
set_option maxHeartbeats 4000000 in
theorem ct_X7_addSide {T : Zt} {s q a b : Int} (hct : T 107 0 1 ≠ 0) (hs : 0 ≤ s ∧ s < 12) (ho : 0 ≤ q ∧ q < 12) : Ct_ yX7_addSide zX7_addSide T [vR 107 0, vI s, vI q, vI a, vI b] (po_X7_addSide T s q a b) := sorry
abbrev cX7_addResult : ByteArray := prog_9_method_3_code
def yX7_addResult : MethodName := ⟨RX7, "addResult", "(LSportsHouse$Match;II)V"⟩
def zX7_addResult : Zm := (RX7, cX7_addResult, 6, none, { frames := 1, cells := 0, slots := 0, locals := 27 })
set_option maxRecDepth 100000 in
theorem cl_X7_117 : cv_ RX7 117 yX7_addSide zX7_addSide 7 4 := sorry
abbrev po_X7_addResult (T : Zt) (p : Int) (a b : Int) : Zt → Option Zv → Prop := fun T' r => r = none ∧ fr_ [(542, []), (545, []), (546, []), (543, [])] T T' ∧ (0 = (0 : Int))
set_option maxHeartbeats 4000000 in
theorem ct_X7_addResult {T : Zt} {p : Int} {a b : Int} (hct : T 107 0 1 ≠ 0) : Ct_ yX7_addResult zX7_addResult T [vR 107 0, vR 102 p, vI a, vI b] (po_X7_addResult T p a b) := sorry
abbrev cX7_addCards : ByteArray := prog_9_method_5_code
def yX7_addCards : MethodName := ⟨RX7, "addCards", "(LSportsHouse$Match;)V"⟩
def zX7_addCards : Zm := (RX7, cX7_addCards, 6, none, { frames := 1, cells := 0, slots := 0, locals := 21 })
set_option maxRecDepth 100000 in
theorem cl_X7_136 : cv_ RX7 136 yX3_isSentOff zX3_isSentOff 3 1 := sorry
abbrev po_X7_addCards (T : Zt) (p : Int) : Zt → Option Zv → Prop := fun T' r => r = none ∧ fr_ [(544, [])] T T' ∧ (0 = (0 : Int))
set_option maxHeartbeats 4000000 in
theorem ct_X7_addCards {T : Zt} {p : Int} (hct : T 107 0 1 ≠ 0) : Ct_ yX7_addCards zX7_addCards T [vR 107 0, vR 102 p] (po_X7_addCards T p) := sorry
abbrev cX7_lot : ByteArray := prog_9_method_12_code
def yX7_lot : MethodName := ⟨RX7, "lot", "(II)I"⟩
def zX7_lot : Zm := (RX7, cX7_lot, 4, (some .int), { frames := 0, cells := 0, slots := 0, locals := 0 })
abbrev po_X7_lot (T : Zt) (c g : Int) : Zt → Option Zv → Prop := fun T' r => T = T' ∧ ∃ x : Int, r = some (vI x) ∧ (-2147483648 ≤ x ∧ x ≤ 2147483647)
set_option maxHeartbeats 4000000 in
theorem ct_X7_lot {T : Zt} {c g : Int} (hct : T 107 0 1 ≠ 0) : Ct_ yX7_lot zX7_lot T [vR 107 0, vI c, vI g] (po_X7_lot T c g) := sorry
abbrev cX7_headWorth : ByteArray := prog_9_method_11_code
def yX7_headWorth : MethodName := ⟨RX7, "headWorth", "(II)J"⟩
def zX7_headWorth : Zm := (RX7, cX7_headWorth, 10, (some .long), { frames := 0, cells := 0, slots := 0, locals := 0 })
abbrev po_X7_headWorth (T : Zt) (s g : Int) : Zt → Option Zv → Prop := fun T' r => T = T' ∧ ∃ x : Int, r = some (vL x) ∧ -9223372036854775808 ≤ x ∧ x ≤ 9223372036854775807
set_option maxHeartbeats 4000000 in
theorem ct_X7_headWorth {T : Zt} {s g : Int} (hct : T 107 0 1 ≠ 0) (hs : 0 ≤ s ∧ s < 12) : Ct_ yX7_headWorth zX7_headWorth T [vR 107 0, vI s, vI g] (po_X7_headWorth T s g) := sorry
abbrev cX7_worthOf : ByteArray := prog_9_method_10_code
def yX7_worthOf : MethodName := ⟨RX7, "worthOf", "(III)J"⟩
def zX7_worthOf : Zm := (RX7, cX7_worthOf, 5, (some .long), { frames := 1, cells := 0, slots := 0, locals := 29 })
theorem ds_X7_worthOf_33 : decode cX7_worthOf 33 = .ok (.tableswitch 106 0 5 #[39, 60, 71, 82, 90, 97], 39) := sorry
set_option maxRecDepth 100000 in
theorem cl_X7_164 : cv_ RX7 164 yX7_headWorth zX7_headWorth 7 2 := sorry
set_option maxRecDepth 100000 in
theorem cl_X7_168 : cv_ RX7 168 yX7_lot zX7_lot 7 2 := sorry
abbrev po_X7_worthOf (T : Zt) (s k g : Int) : Zt → Option Zv → Prop := fun T' r => T = T' ∧ ∃ x : Int, r = some (vL x) ∧ -9223372036854775808 ≤ x ∧ x ≤ 9223372036854775807
set_option maxHeartbeats 4000000 in
theorem ct_X7_worthOf {T : Zt} {s k g : Int} (hct : T 107 0 1 ≠ 0) (hs : 0 ≤ s ∧ s < 12) (hk : 0 ≤ k ∧ k ≤ 7) : Ct_ yX7_worthOf zX7_worthOf T [vR 107 0, vI s, vI k, vI g] (po_X7_worthOf T s k g) := sorry
abbrev cX7_weigh : ByteArray := prog_9_method_9_code
def yX7_weigh : MethodName := ⟨RX7, "weigh", "(III)V"⟩
def zX7_weigh : Zm := (RX7, cX7_weigh, 6, none, { frames := 2, cells := 0, slots := 0, locals := 53 })
set_option maxRecDepth 100000 in
theorem cl_X7_157 : cv_ RX7 157 yX7_worthOf zX7_worthOf 7 3 := sorry
abbrev po_X7_weigh (T : Zt) (f t k : Int) : Zt → Option Zv → Prop := fun T' r => r = none ∧ fr_ [(549, [])] T T' ∧ (0 = (0 : Int))
set_option maxHeartbeats 4000000 in
theorem ct_X7_weigh {T : Zt} {f t k : Int} (hct : T 107 0 1 ≠ 0) (hft : 0 ≤ f ∧ f + 2 ≤ t ∧ t ≤ 12) (hk : 0 ≤ k ∧ k ≤ 7) : Ct_ yX7_weigh zX7_weigh T [vR 107 0, vI f, vI t, vI k] (po_X7_weigh T f t k) := sorry
abbrev cX7_sort : ByteArray := prog_9_method_13_code
def yX7_sort : MethodName := ⟨RX7, "sort", "(II)V"⟩
def zX7_sort : Zm := (RX7, cX7_sort, 6, none, { frames := 0, cells := 0, slots := 0, locals := 0 })
abbrev po_X7_sort (T : Zt) (f t : Int) : Zt → Option Zv → Prop := fun T' r => r = none ∧ fr_ [(547, [])] T T' ∧ (0 = (0 : Int))
set_option maxHeartbeats 4000000 in
theorem ct_X7_sort {T : Zt} {f t : Int} (hft : 0 ≤ f ∧ f + 2 ≤ t ∧ t ≤ 12) : Ct_ yX7_sort zX7_sort T [vR 107 0, vI f, vI t] (po_X7_sort T f t) := sorry
def WQ_ (T : Zt) : Prop := ∀ j : Int, 0 ≤ j → j < T 107 0 13 → 0 ≤ T 550 0 j ∧ T 550 0 j + 2 ≤ T 551 0 j ∧ T 551 0 j ≤ 12 ∧ 0 ≤ T 552 0 j ∧ T 552 0 j ≤ 7
theorem WQ__f {ws : List (Nat × List Int)} {T T' : Zt} (h : WQ_ T) (f : fr_ ws T T') (w : (∀ j, fw_ ws 550 j = false) ∧ (∀ j, fw_ ws 551 j = false) ∧ (∀ j, fw_ ws 552 j = false) ∧ fw_ ws 107 13 = false ∧ True) : WQ_ T' := sorry
abbrev cX7_putWaiting : ByteArray := prog_9_method_7_code
def yX7_putWaiting : MethodName := ⟨RX7, "putWaiting", "(III)V"⟩
def zX7_putWaiting : Zm := (RX7, cX7_putWaiting, 5, none, { frames := 0, cells := 0, slots := 0, locals := 0 })
abbrev po_X7_putWaiting (T : Zt) (f t k : Int) : Zt → Option Zv → Prop := fun T' r => r = none ∧ fr_ [(550, []), (551, []), (552, []), (107, [13])] T T' ∧ (WQ_ T')
set_option maxHeartbeats 4000000 in
theorem ct_X7_putWaiting {T : Zt} {f t k : Int} (hct : T 107 0 1 ≠ 0) (h1 : 0 ≤ f ∧ f ≤ 12) (h2 : 0 ≤ t ∧ t ≤ 12) (h3 : 0 ≤ k ∧ k ≤ 8) (hrk : T 401 (T 107 0 1 - 1) 4 ≤ 7) (hwq : WQ_ T) : Ct_ yX7_putWaiting zX7_putWaiting T [vR 107 0, vI f, vI t, vI k] (po_X7_putWaiting T f t k) := sorry
abbrev cX7_orderGroup : ByteArray := prog_9_method_8_code
def yX7_orderGroup : MethodName := ⟨RX7, "orderGroup", "(III)V"⟩
def zX7_orderGroup : Zm := (RX7, cX7_orderGroup, 8, none, { frames := 3, cells := 0, slots := 0, locals := 78 })
set_option maxRecDepth 100000 in
theorem cl_X7_143 : cv_ RX7 143 yX7_putWaiting zX7_putWaiting 7 3 := sorry
set_option maxRecDepth 100000 in
theorem cl_X7_150 : cv_ RX7 150 yX7_weigh zX7_weigh 7 3 := sorry
set_option maxRecDepth 100000 in
theorem cl_X7_153 : cv_ RX7 153 yX7_sort zX7_sort 7 2 := sorry
abbrev po_X7_orderGroup (T : Zt) (f t k : Int) : Zt → Option Zv → Prop := fun T' r => r = none ∧ fr_ [(550, []), (551, []), (552, []), (107, [13]), (549, []), (547, []), (548, [])] T T' ∧ (WQ_ T')
set_option maxHeartbeats 4000000 in
theorem ct_X7_orderGroup {T : Zt} {f t k : Int} (hct : T 107 0 1 ≠ 0) (hft : 0 ≤ f ∧ f + 2 ≤ t ∧ t ≤ 12) (hk : 0 ≤ k ∧ k ≤ 7) (hrk : T 401 (T 107 0 1 - 1) 4 ≤ 7) (hwq : WQ_ T) : Ct_ yX7_orderGroup zX7_orderGroup T [vR 107 0, vI f, vI t, vI k] (po_X7_orderGroup T f t k) := sorry
abbrev cX7_rank : ByteArray := prog_9_method_6_code
def yX7_rank : MethodName := ⟨RX7, "rank", "()V"⟩
def zX7_rank : Zm := (RX7, cX7_rank, 3, none, { frames := 4, cells := 0, slots := 0, locals := 105 })
set_option maxRecDepth 100000 in
theorem cl_X7_147 : cv_ RX7 147 yX7_orderGroup zX7_orderGroup 7 3 := sorry
abbrev po_X7_rank (T : Zt) : Zt → Option Zv → Prop := fun T' r => r = none ∧ fr_ [(550, []), (551, []), (552, []), (107, [13]), (549, []), (547, []), (548, []), (542, [])] T T' ∧ (0 = (0 : Int))
set_option maxHeartbeats 4000000 in
theorem ct_X7_rank {T : Zt} (hct : T 107 0 1 ≠ 0) (hrk : T 401 (T 107 0 1 - 1) 4 ≤ 7) : Ct_ yX7_rank zX7_rank T [vR 107 0] (po_X7_rank T) := sorry
/-- the seats of an open match's clubs -/
def hsx_ (T : Zt) (k : Int) : Int := T 404 (T 109 0 5 - 1) (T 102 (T 588 0 k) 3)
def asx_ (T : Zt) (k : Int) : Int := T 404 (T 109 0 5 - 1) (T 102 (T 588 0 k) 4)
/-- the open matches are there, and their clubs have seats -/
def Q9_ (T : Zt) : Prop := T 109 0 5 ≠ 0 ∧ ∀ k, 0 ≤ k → k < T 109 0 9 → (0 ≤ T 588 0 k ∧ T 588 0 k < T 106 0 4) ∧ (0 ≤ hsx_ T k ∧ hsx_ T k ≤ 11) ∧ (0 ≤ asx_ T k ∧ asx_ T k ≤ 11)
abbrev qw_ (ws : List (Nat × List Int)) : Prop := (∀ (_ : Nat) j, fw_ ws 404 j = false) ∧ (∀ j, fw_ ws 588 j = false) ∧ fw_ ws 109 5 = false ∧ fw_ ws 109 9 = false ∧ fw_ ws 106 4 = false ∧ fw_ ws 102 3 = false ∧ fw_ ws 102 4 = false
theorem hsx_e {ws : List (Nat × List Int)} {T T1 : Zt} (f : fr_ ws T T1) (w : qw_ ws) (k : Int) : hsx_ T1 k = hsx_ T k := sorry
theorem asx_e {ws : List (Nat × List Int)} {T T1 : Zt} (f : fr_ ws T T1) (w : qw_ ws) (k : Int) : asx_ T1 k = asx_ T k := sorry
theorem q9_f {ws : List (Nat × List Int)} {T T1 : Zt} (h : Q9_ T) (f : fr_ ws T T1) (w : qw_ ws) : Q9_ T1 := sorry
abbrev cX9_homeSeatOf : ByteArray := prog_11_method_10_code
def yX9_homeSeatOf : MethodName := ⟨RX9, "homeSeatOf", "(I)I"⟩
def zX9_homeSeatOf : Zm := (RX9, cX9_homeSeatOf, 2, (some .int), { frames := 0, cells := 0, slots := 0, locals := 0 })
abbrev po_X9_homeSeatOf (T : Zt) (k : Int) : Zt → Option Zv → Prop := fun T' r => T = T' ∧ ∃ x : Int, r = some (vI x) ∧ (x = hsx_ T k ∧ 0 ≤ x ∧ x ≤ 11)
set_option maxHeartbeats 4000000 in
theorem ct_X9_homeSeatOf {T : Zt} {k : Int} (hq9 : Q9_ T) (hka : KA_ T) (hk : 0 ≤ k ∧ k < T 109 0 9) : Ct_ yX9_homeSeatOf zX9_homeSeatOf T [vR 109 0, vI k] (po_X9_homeSeatOf T k) := sorry
abbrev cX9_awaySeatOf : ByteArray := prog_11_method_11_code
def yX9_awaySeatOf : MethodName := ⟨RX9, "awaySeatOf", "(I)I"⟩
def zX9_awaySeatOf : Zm := (RX9, cX9_awaySeatOf, 2, (some .int), { frames := 0, cells := 0, slots := 0, locals := 0 })
abbrev po_X9_awaySeatOf (T : Zt) (k : Int) : Zt → Option Zv → Prop := fun T' r => T = T' ∧ ∃ x : Int, r = some (vI x) ∧ (x = asx_ T k ∧ 0 ≤ x ∧ x ≤ 11)
set_option maxHeartbeats 4000000 in
theorem ct_X9_awaySeatOf {T : Zt} {k : Int} (hq9 : Q9_ T) (hka : KA_ T) (hk : 0 ≤ k ∧ k < T 109 0 9) : Ct_ yX9_awaySeatOf zX9_awaySeatOf T [vR 109 0, vI k] (po_X9_awaySeatOf T k) := sorry
abbrev cX9_takerOf : ByteArray := prog_11_method_13_code
def yX9_takerOf : MethodName := ⟨RX9, "takerOf", "(II)I"⟩
def zX9_takerOf : Zm := (RX9, cX9_takerOf, 3, (some .int), { frames := 1, cells := 0, slots := 0, locals := 21 })
set_option maxRecDepth 100000 in
theorem cl_X9_145 : cv_ RX9 145 yX9_homeSeatOf zX9_homeSeatOf 9 1 := sorry
set_option maxRecDepth 100000 in
theorem cl_X9_154 : cv_ RX9 154 yX9_awaySeatOf zX9_awaySeatOf 9 1 := sorry
abbrev po_X9_takerOf (T : Zt) (k s : Int) : Zt → Option Zv → Prop := fun T' r => T = T' ∧ ∃ x : Int, r = some (vI x) ∧ (x = -1 ∨ (0 ≤ x ∧ x ≤ 11 ∧ ((hsx_ T k = s ∧ x = asx_ T k) ∨ (asx_ T k = s ∧ x = hsx_ T k))))
set_option maxHeartbeats 4000000 in
theorem ct_X9_takerOf {T : Zt} {k s : Int} (hq9 : Q9_ T) (hka : KA_ T) (hk : 0 ≤ k ∧ k < T 109 0 9) : Ct_ yX9_takerOf zX9_takerOf T [vR 109 0, vI k, vI s] (po_X9_takerOf T k s) := sorry
abbrev cX9_openBetween : ByteArray := prog_11_method_16_code
def yX9_openBetween : MethodName := ⟨RX9, "openBetween", "(II)I"⟩
def zX9_openBetween : Zm := (RX9, cX9_openBetween, 6, (some .int), { frames := 0, cells := 0, slots := 0, locals := 0 })
abbrev po_X9_openBetween (T : Zt) (c g : Int) : Zt → Option Zv → Prop := fun T' r => T = T' ∧ ∃ x : Int, r = some (vI x) ∧ (0 ≤ x ∧ x ≤ 40)
set_option maxHeartbeats 4000000 in
theorem ct_X9_openBetween {T : Zt} {c g : Int} (hq9 : Q9_ T) (hka : KA_ T) : Ct_ yX9_openBetween zX9_openBetween T [vR 109 0, vI c, vI g] (po_X9_openBetween T c g) := sorry
abbrev cX9_noneAbove : ByteArray := prog_11_method_5_code
def yX9_noneAbove : MethodName := ⟨RX9, "noneAbove", "(I)Z"⟩
def zX9_noneAbove : Zm := (RX9, cX9_noneAbove, 3, (some .boolean), { frames := 0, cells := 0, slots := 0, locals := 0 })
abbrev po_X9_noneAbove (T : Zt) (s : Int) : Zt → Option Zv → Prop := fun T' r => T = T' ∧ ∃ x : Int, r = some (vI x) ∧ (0 ≤ x ∧ x ≤ 1)
set_option maxHeartbeats 4000000 in
theorem ct_X9_noneAbove {T : Zt} {s : Int} (hct : T 109 0 5 ≠ 0) : Ct_ yX9_noneAbove zX9_noneAbove T [vR 109 0, vI s] (po_X9_noneAbove T s) := sorry
abbrev cX9_shiftAlong : ByteArray := prog_11_method_14_code
def yX9_shiftAlong : MethodName := ⟨RX9, "shiftAlong", "(II)V"⟩
def zX9_shiftAlong : Zm := (RX9, cX9_shiftAlong, 6, none, { frames := 1, cells := 0, slots := 0, locals := 21 })
abbrev po_X9_shiftAlong (T : Zt) (s e : Int) : Zt → Option Zv → Prop := fun T' r => r = none ∧ fr_ [(592, []), (590, [])] T T' ∧ (0 = (0 : Int))
set_option maxHeartbeats 4000000 in
theorem ct_X9_shiftAlong {T : Zt} {s e : Int} (hq9 : Q9_ T) (hka : KA_ T) (hs : 0 ≤ s ∧ s < 12) (he : 0 ≤ e ∧ e < 12 ∧ T 593 0 e ≠ -1) (hvi : ∀ v, 0 ≤ v → v < 12 → T 593 0 v ≠ -1 → v = s ∨ ((0 ≤ T 593 0 v ∧ T 593 0 v < T 109 0 9) ∧ ((hsx_ T (T 593 0 v) = v ∧ T 593 0 (asx_ T (T 593 0 v)) ≠ -1) ∨ (hsx_ T (T 593 0 v) ≠ v ∧ T 593 0 (hsx_ T (T 593 0 v)) ≠ -1)))) : Ct_ yX9_shiftAlong zX9_shiftAlong T [vR 109 0, vI s, vI e] (po_X9_shiftAlong T s e) := sorry
abbrev po_J7_fill_593 (T : Zt) (p : Int) (v : Int) : Zt → Option Zv → Prop := fun T' r => r = none ∧ fr_ [(593, [])] T T' ∧ oi_ T T' p ∧ ∀ j, 0 ≤ j → j < 12 → T' 593 p j = v
set_option maxHeartbeats 4000000 in
theorem ct_J7_fill_593 {T : Zt} {p : Int} {v : Int} (h1 : (-1) ≤ v ∧ v ≤ 40) : Ct_ yJ7_fill_53178 zJ7_fill_53178 T [vR 593 p, vI v] (po_J7_fill_593 T p v) := sorry
abbrev cX9_relieve : ByteArray := prog_11_method_12_code
def yX9_relieve : MethodName := ⟨RX9, "relieve", "(II)Z"⟩
def zX9_relieve : Zm := (RX9, cX9_relieve, 8, (some .boolean), { frames := 2, cells := 0, slots := 0, locals := 46 })
set_option maxRecDepth 100000 in
theorem cl_X9_161 : cv_ RX9 161 yX9_takerOf zX9_takerOf 9 2 := sorry
set_option maxRecDepth 100000 in
theorem cl_X9_157 : cv_ RX9 157 yX9_shiftAlong zX9_shiftAlong 9 2 := sorry
set_option maxRecDepth 100000 in
theorem cl_X9_48 : cs_ RX9 48 yJ7_fill_53178 zJ7_fill_53178 2 := sorry
abbrev po_X9_relieve (T : Zt) (s f : Int) : Zt → Option Zv → Prop := fun T' r => ∃ x : Int, r = some (vI x) ∧ fr_ [(593, []), (594, []), (592, []), (590, [])] T T' ∧ (0 ≤ x ∧ x ≤ 1)
set_option maxHeartbeats 4000000 in
theorem ct_X9_relieve {T : Zt} {s f : Int} (hq9 : Q9_ T) (hka : KA_ T) (hs : 0 ≤ s ∧ s < 12) (h0 : 0 ≤ f) : Ct_ yX9_relieve zX9_relieve T [vR 109 0, vI s, vI f] (po_X9_relieve T s f) := sorry
abbrev cX9_takePartHome : ByteArray := prog_11_method_9_code
def yX9_takePartHome : MethodName := ⟨RX9, "takePartHome", "(I)Z"⟩
def zX9_takePartHome : Zm := (RX9, cX9_takePartHome, 4, (some .boolean), { frames := 3, cells := 0, slots := 0, locals := 73 })
set_option maxRecDepth 100000 in
theorem cl_X9_148 : cv_ RX9 148 yX9_relieve zX9_relieve 9 2 := sorry
abbrev po_X9_takePartHome (T : Zt) (k : Int) : Zt → Option Zv → Prop := fun T' r => ∃ x : Int, r = some (vI x) ∧ fr_ [(593, []), (594, []), (592, []), (590, [])] T T' ∧ (0 ≤ x ∧ x ≤ 1)
set_option maxHeartbeats 4000000 in
theorem ct_X9_takePartHome {T : Zt} {k : Int} (hq9 : Q9_ T) (hka : KA_ T) (hk : 0 ≤ k ∧ k < T 109 0 9) : Ct_ yX9_takePartHome zX9_takePartHome T [vR 109 0, vI k] (po_X9_takePartHome T k) := sorry
abbrev cX9_spreadParts : ByteArray := prog_11_method_8_code
def yX9_spreadParts : MethodName := ⟨RX9, "spreadParts", "(I)Z"⟩
def zX9_spreadParts : Zm := (RX9, cX9_spreadParts, 5, (some .boolean), { frames := 4, cells := 0, slots := 0, locals := 96 })
set_option maxRecDepth 100000 in
theorem cl_X9_151 : cv_ RX9 151 yX9_takePartHome zX9_takePartHome 9 1 := sorry
abbrev po_X9_spreadParts (T : Zt) (s : Int) : Zt → Option Zv → Prop := fun T' r => ∃ x : Int, r = some (vI x) ∧ fr_ [(593, []), (594, []), (592, []), (590, []), (584, [])] T T' ∧ (0 ≤ x ∧ x ≤ 1)
set_option maxHeartbeats 4000000 in
theorem ct_X9_spreadParts {T : Zt} {s : Int} (hq9 : Q9_ T) (hka : KA_ T) (hs : 0 ≤ s ∧ s < 12) : Ct_ yX9_spreadParts zX9_spreadParts T [vR 109 0, vI s] (po_X9_spreadParts T s) := sorry
def KM_ (T : Zt) : Prop := ∀ m : Int, 0 ≤ m → m < T 106 0 4 → T 102 m 1 = m ∧ 0 ≤ T 102 m 0 ∧ T 102 m 0 < T 106 0 2
theorem KM__f {ws : List (Nat × List Int)} {T T' : Zt} (h : KM_ T) (f : fr_ ws T T') (w : fw_ ws 102 1 = false ∧ fw_ ws 102 0 = false ∧ fw_ ws 106 4 = false ∧ fw_ ws 106 2 = false ∧ True) : KM_ T' := sorry
def KC_ (T : Zt) : Prop := ∀ c : Int, 0 ≤ c → c < T 106 0 2 → T 100 c 7 + T 100 c 8 ≤ T 106 0 4
theorem KC__f {ws : List (Nat × List Int)} {T T' : Zt} (h : KC_ T) (f : fr_ ws T T') (w : fw_ ws 100 7 = false ∧ fw_ ws 100 8 = false ∧ fw_ ws 106 4 = false ∧ fw_ ws 106 2 = false ∧ True) : KC_ T' := sorry
def KR_ (T : Zt) : Prop := ∀ c : Int, 0 ≤ c → c < T 106 0 2 → 1 ≤ T 401 c 9 ∧ T 401 c 9 ≤ 6
theorem KR__f {ws : List (Nat × List Int)} {T T' : Zt} (h : KR_ T) (f : fr_ ws T T') (w : (∀ j, fw_ ws 401 j = false) ∧ fw_ ws 106 2 = false ∧ True) : KR_ T' := sorry
abbrev cX6_shareClub : ByteArray := prog_8_method_9_code
def yX6_shareClub : MethodName := ⟨RX6, "shareClub", "(LSportsHouse$Match;LSportsHouse$Match;)Z"⟩
def zX6_shareClub : Zm := (RX6, cX6_shareClub, 2, (some .boolean), { frames := 1, cells := 0, slots := 0, locals := 21 })
set_option maxRecDepth 100000 in
theorem cl_X6_88 : cv_ RX6 88 yX2_has zX2_has 2 1 := sorry
abbrev po_X6_shareClub (T : Zt) (p : Int) (u : Int) : Zt → Option Zv → Prop := fun T' r => T = T' ∧ ∃ x : Int, r = some (vI x) ∧ (0 ≤ x ∧ x ≤ 1)
set_option maxHeartbeats 4000000 in
theorem ct_X6_shareClub {T : Zt} {p : Int} {u : Int} : Ct_ yX6_shareClub zX6_shareClub T [vR 102 p, vR 102 u] (po_X6_shareClub T p u) := sorry
abbrev cX6_countBreaks : ByteArray := prog_8_method_5_code
def yX6_countBreaks : MethodName := ⟨RX6, "countBreaks", "(LSportsHouse$Competition;I)I"⟩
def zX6_countBreaks : Zm := (RX6, cX6_countBreaks, 9, (some .int), { frames := 1, cells := 0, slots := 0, locals := 21 })
abbrev cX6_listAhead : ByteArray := prog_8_method_16_code
def yX6_listAhead : MethodName := ⟨RX6, "listAhead", "(ILSportsHouse$Match;)I"⟩
def zX6_listAhead : Zm := (RX6, cX6_listAhead, 8, (some .int), { frames := 2, cells := 0, slots := 0, locals := 40 })
set_option maxRecDepth 100000 in
theorem cl_X6_195 : cv_ RX6 195 yX2_isDecided zX2_isDecided 2 0 := sorry
set_option maxRecDepth 100000 in
theorem cl_X6_165 : cv_ RX6 165 yX8_clubOn zX8_clubOn 8 2 := sorry
abbrev po_X6_listAhead (T : Zt) (p : Int) (q : Int) : Zt → Option Zv → Prop := fun T' r => ∃ x : Int, r = some (vI x) ∧ fr_ [(533, [])] T T' ∧ ((0 ≤ x ∧ x ≤ 400) ∧ ∀ j : Int, 0 ≤ j → j < x → 0 ≤ T' 533 0 j ∧ T' 533 0 j < T 106 0 4)
set_option maxHeartbeats 4000000 in
theorem ct_X6_listAhead {T : Zt} {p : Int} {q : Int} (hka : KA_ T) (hkm : KM_ T) (hkc : KC_ T) (hq : 0 ≤ q ∧ q < 200) (hp : 0 ≤ p ∧ p < T 106 0 4) : Ct_ yX6_listAhead zX6_listAhead T [vR 106 0, vI q, vR 102 p] (po_X6_listAhead T p q) := sorry
abbrev cX6_isBanned : ByteArray := prog_8_method_15_code
def yX6_isBanned : MethodName := ⟨RX6, "isBanned", "(ILSportsHouse$Match;)Z"⟩
def zX6_isBanned : Zm := (RX6, cX6_isBanned, 11, (some .boolean), { frames := 3, cells := 0, slots := 0, locals := 67 })
set_option maxRecDepth 100000 in
theorem cl_X6_172 : cv_ RX6 172 yX2_placeOf zX2_placeOf 2 1 := sorry
set_option maxRecDepth 100000 in
theorem cl_X6_187 : cv_ RX6 187 yX3_isSentOff zX3_isSentOff 3 1 := sorry
set_option maxRecDepth 100000 in
theorem cl_X6_175 : cv_ RX6 175 yX6_listAhead zX6_listAhead 6 2 := sorry
abbrev po_X6_isBanned (T : Zt) (p : Int) (q : Int) : Zt → Option Zv → Prop := fun T' r => ∃ x : Int, r = some (vI x) ∧ fr_ [(533, [])] T T' ∧ (0 ≤ x ∧ x ≤ 1)
set_option maxHeartbeats 4000000 in
theorem ct_X6_isBanned {T : Zt} {p : Int} {q : Int} (hka : KA_ T) (hkm : KM_ T) (hkc : KC_ T) (hq : 0 ≤ q ∧ q < 200) (hp : 0 ≤ p ∧ p < T 106 0 4) : Ct_ yX6_isBanned zX6_isBanned T [vR 106 0, vI q, vR 102 p] (po_X6_isBanned T p q) := sorry
abbrev cX6_whyNot : ByteArray := prog_8_method_14_code
def yX6_whyNot : MethodName := ⟨RX6, "whyNot", "(ILSportsHouse$Match;I)I"⟩
def zX6_whyNot : Zm := (RX6, cX6_whyNot, 6, (some .int), { frames := 4, cells := 0, slots := 0, locals := 97 })
set_option maxRecDepth 100000 in
theorem cl_X6_168 : cv_ RX6 168 yX6_isBanned zX6_isBanned 6 2 := sorry
abbrev po_X6_whyNot (T : Zt) (p : Int) (q d : Int) : Zt → Option Zv → Prop := fun T' r => ∃ x : Int, r = some (vI x) ∧ fr_ [(533, [])] T T' ∧ (0 ≤ x ∧ x ≤ 4)
set_option maxHeartbeats 4000000 in
theorem ct_X6_whyNot {T : Zt} {p : Int} {q d : Int} (hka : KA_ T) (hkm : KM_ T) (hkc : KC_ T) (hq : 0 ≤ q ∧ q < 200) (hp : 0 ≤ p ∧ p < T 106 0 4) : Ct_ yX6_whyNot zX6_whyNot T [vR 106 0, vI q, vR 102 p, vI d] (po_X6_whyNot T p q d) := sorry
abbrev cX10_eligible : ByteArray := prog_1_method_19_code
def yX10_eligible : MethodName := ⟨RX10, "eligible", "(III)I"⟩
def zX10_eligible : Zm := (RX10, cX10_eligible, 4, (some .int), { frames := 5, cells := 0, slots := 0, locals := 122 })
set_option maxRecDepth 100000 in
theorem cl_X10_251 : cs_ RX10 251 yX10_isSide zX10_isSide 1 := sorry
set_option maxRecDepth 100000 in
theorem cl_X10_254 : cv_ RX10 254 yX6_whyNot zX6_whyNot 6 3 := sorry
abbrev po_X10_eligible (T : Zt) (q m d : Int) : Zt → Option Zv → Prop := fun T' r => ∃ x : Int, r = some (vI x) ∧ fr_ [(533, [])] T T' ∧ (x = x)
set_option maxHeartbeats 4000000 in
theorem ct_X10_eligible {T : Zt} {q m d : Int} (hka : KA_ T) (hkm : KM_ T) (hkc : KC_ T) : Ct_ yX10_eligible zX10_eligible T [vR 110 0, vI q, vI m, vI d] (po_X10_eligible T q m d) := sorry
abbrev cX10_match : ByteArray := prog_1_method_14_code
def yX10_match : MethodName := ⟨RX10, "match", "(II)I"⟩
def zX10_match : Zm := (RX10, cX10_match, 4, (some .int), { frames := 2, cells := 0, slots := 0, locals := 42 })
theorem ds_X10_match_22 : decode cX10_match 22 = .ok (.tableswitch 91 0 7 #[46, 54, 59, 64, 69, 74, 79, 85], 46) := sorry
set_option maxRecDepth 100000 in
theorem cl_X10_223 : cv_ RX10 223 yX2_phaseOfLife zX2_phaseOfLife 2 0 := sorry
set_option maxRecDepth 100000 in
theorem cl_X10_226 : cv_ RX10 226 yX2_scoreOf zX2_scoreOf 2 1 := sorry
abbrev po_X10_match (T : Zt) (m w : Int) : Zt → Option Zv → Prop := fun T' r => T = T' ∧ ∃ x : Int, r = some (vI x) ∧ (True)
set_option maxHeartbeats 4000000 in
theorem ct_X10_match {T : Zt} {m w : Int} (hka : KA_ T) : Ct_ yX10_match zX10_match T [vR 110 0, vI m, vI w] (po_X10_match T m w) := sorry
abbrev cX10_walkOver : ByteArray := prog_1_method_22_code
def yX10_walkOver : MethodName := ⟨RX10, "walkOver", "(II)I"⟩
def zX10_walkOver : Zm := (RX10, cX10_walkOver, 4, (some .int), { frames := 2, cells := 0, slots := 0, locals := 42 })
abbrev cX10_rows : ByteArray := prog_1_method_25_code
def yX10_rows : MethodName := ⟨RX10, "rows", "(II)I"⟩
def zX10_rows : Zm := (RX10, cX10_rows, 4, (some .int), { frames := 2, cells := 0, slots := 0, locals := 42 })
abbrev po_X10_rows (T : Zt) (m w : Int) : Zt → Option Zv → Prop := fun T' r => T = T' ∧ ∃ x : Int, r = some (vI x) ∧ (True)
set_option maxHeartbeats 4000000 in
theorem ct_X10_rows {T : Zt} {m w : Int} (hka : KA_ T) : Ct_ yX10_rows zX10_rows T [vR 110 0, vI m, vI w] (po_X10_rows T m w) := sorry
abbrev cX10_state : ByteArray := prog_1_method_27_code
def yX10_state : MethodName := ⟨RX10, "state", "(II)I"⟩
def zX10_state : Zm := (RX10, cX10_state, 4, (some .int), { frames := 2, cells := 0, slots := 0, locals := 42 })
theorem ds_X10_state_45 : decode cX10_state 45 = .ok (.tableswitch 67 0 5 #[39, 44, 44, 53, 53, 62], 39) := sorry
abbrev po_X10_state (T : Zt) (m w : Int) : Zt → Option Zv → Prop := fun T' r => T = T' ∧ ∃ x : Int, r = some (vI x) ∧ (True)
set_option maxHeartbeats 4000000 in
theorem ct_X10_state {T : Zt} {m w : Int} (hka : KA_ T) : Ct_ yX10_state zX10_state T [vR 110 0, vI m, vI w] (po_X10_state T m w) := sorry
abbrev cX10_onField : ByteArray := prog_1_method_28_code
def yX10_onField : MethodName := ⟨RX10, "onField", "(III)I"⟩
def zX10_onField : Zm := (RX10, cX10_onField, 5, (some .int), { frames := 2, cells := 0, slots := 0, locals := 42 })
set_option maxRecDepth 100000 in
theorem cl_X10_346 : cv_ RX10 346 yX3_personAt zX3_personAt 3 2 := sorry
abbrev po_X10_onField (T : Zt) (m d k : Int) : Zt → Option Zv → Prop := fun T' r => T = T' ∧ ∃ x : Int, r = some (vI x) ∧ (True)
set_option maxHeartbeats 4000000 in
theorem ct_X10_onField {T : Zt} {m d k : Int} (hka : KA_ T) : Ct_ yX10_onField zX10_onField T [vR 110 0, vI m, vI d, vI k] (po_X10_onField T m d k) := sorry
abbrev cX10_breaks : ByteArray := prog_1_method_15_code
def yX10_breaks : MethodName := ⟨RX10, "breaks", "(II)I"⟩
def zX10_breaks : Zm := (RX10, cX10_breaks, 4, (some .int), { frames := 2, cells := 0, slots := 0, locals := 49 })
set_option maxRecDepth 100000 in
theorem cl_X10_230 : cv_ RX10 230 yX6_countBreaks zX6_countBreaks 6 2 := sorry
abbrev cX6_standAgainst : ByteArray := prog_8_method_8_code
def yX6_standAgainst : MethodName := ⟨RX6, "standAgainst", "(LSportsHouse$Match;LSportsHouse$Match;)Z"⟩
def zX6_standAgainst : Zm := (RX6, cX6_standAgainst, 4, (some .boolean), { frames := 2, cells := 0, slots := 0, locals := 42 })
set_option maxRecDepth 100000 in
theorem cl_X6_133 : cv_ RX6 133 yX2_rest zX2_rest 2 0 := sorry
set_option maxRecDepth 100000 in
theorem cl_X6_140 : cs_ RX6 140 yX6_shareClub zX6_shareClub 2 := sorry
abbrev cX6_listAgainst : ByteArray := prog_8_method_7_code
def yX6_listAgainst : MethodName := ⟨RX6, "listAgainst", "(LSportsHouse$Match;)I"⟩
def zX6_listAgainst : Zm := (RX6, cX6_listAgainst, 5, (some .int), { frames := 3, cells := 0, slots := 0, locals := 65 })
set_option maxRecDepth 100000 in
theorem cl_X6_112 : cv_ RX6 112 yX6_standAgainst zX6_standAgainst 6 2 := sorry
set_option maxRecDepth 100000 in
theorem cl_X6_116 : cv_ RX6 116 yX2_phaseOfLife zX2_phaseOfLife 2 0 := sorry
abbrev po_J7_fill_535 (T : Zt) (p : Int) (v : Int) : Zt → Option Zv → Prop := fun T' r => r = none ∧ fr_ [(535, [])] T T' ∧ oi_ T T' p ∧ ∀ j, 0 ≤ j → j < 1000 → T' 535 p j = v
set_option maxHeartbeats 4000000 in
theorem ct_J7_fill_535 {T : Zt} {p : Int} {v : Int} (h1 : 0 ≤ v ∧ v ≤ 1) : Ct_ yJ7_fill_53178 zJ7_fill_53178 T [vR 535 p, vI v] (po_J7_fill_535 T p v) := sorry
abbrev cX6_blockDays : ByteArray := prog_8_method_11_code
def yX6_blockDays : MethodName := ⟨RX6, "blockDays", "(LSportsHouse$Match;)V"⟩
def zX6_blockDays : Zm := (RX6, cX6_blockDays, 7, none, { frames := 2, cells := 0, slots := 0, locals := 42 })
set_option maxRecDepth 100000 in
theorem cl_X6_150 : cs_ RX6 150 yJ7_fill_53178 zJ7_fill_53178 2 := sorry
abbrev cX6_goBehind : ByteArray := prog_8_method_10_code
def yX6_goBehind : MethodName := ⟨RX6, "goBehind", "(LSportsHouse$Match;II)Z"⟩
def zX6_goBehind : Zm := (RX6, cX6_goBehind, 5, (some .boolean), { frames := 3, cells := 0, slots := 0, locals := 68 })
set_option maxRecDepth 100000 in
theorem cl_X6_146 : cv_ RX6 146 yX6_blockDays zX6_blockDays 6 1 := sorry
abbrev cX6_putOff : ByteArray := prog_8_method_6_code
def yX6_putOff : MethodName := ⟨RX6, "putOff", "(LSportsHouse$Match;I)I"⟩
def zX6_putOff : Zm := (RX6, cX6_putOff, 7, (some .int), { frames := 4, cells := 0, slots := 0, locals := 92 })
set_option maxRecDepth 100000 in
theorem cl_X6_102 : cv_ RX6 102 yX6_goBehind zX6_goBehind 6 3 := sorry
set_option maxRecDepth 100000 in
theorem cl_X6_98 : cv_ RX6 98 yX6_listAgainst zX6_listAgainst 6 1 := sorry
abbrev cX10_postpone : ByteArray := prog_1_method_16_code
def yX10_postpone : MethodName := ⟨RX10, "postpone", "(II)I"⟩
def zX10_postpone : Zm := (RX10, cX10_postpone, 4, (some .int), { frames := 5, cells := 0, slots := 0, locals := 118 })
set_option maxRecDepth 100000 in
theorem cl_X10_234 : cv_ RX10 234 yX6_putOff zX6_putOff 6 2 := sorry
theorem us_1c {x : Int} : us_ x 1 = x % 4294967296 / 2 := sorry
abbrev cX1_openNew : ByteArray := prog_3_method_2_code
def yX1_openNew : MethodName := ⟨RX1, "openNew", "(II)V"⟩
def zX1_openNew : Zm := (RX1, cX1_openNew, 3, none, { frames := 1, cells := 0, slots := 0, locals := 23 })
set_option maxRecDepth 100000 in
theorem cl_X1_54 : cs_ RX1 54 yJ7_fill_53178 zJ7_fill_53178 2 := sorry
abbrev cX10_drawing : ByteArray := prog_1_method_36_code
def yX10_drawing : MethodName := ⟨RX10, "drawing", "(II)I"⟩
def zX10_drawing : Zm := (RX10, cX10_drawing, 3, (some .int), { frames := 2, cells := 0, slots := 0, locals := 45 })
set_option maxRecDepth 100000 in
theorem cl_X10_380 : cv_ RX10 380 yX1_openNew zX1_openNew 1 2 := sorry
abbrev po_X10_drawing (T : Zt) (g l : Int) : Zt → Option Zv → Prop := fun T' r => ∃ x : Int, r = some (vI x) ∧ fr_ [(101, [1, 2, 3, 4, 7]), (428, []), (429, []), (430, [])] T T' ∧ ((x = -3 ∧ ¬ (1 ≤ g ∧ g ≤ 4 ∧ 1 ≤ l ∧ l ≤ 3)) ∨ (x = 1 ∧ 1 ≤ g ∧ g ≤ 4 ∧ 1 ≤ l ∧ l ≤ 3))
abbrev cX1_putIn : ByteArray := prog_3_method_3_code
def yX1_putIn : MethodName := ⟨RX1, "putIn", "(II)V"⟩
def zX1_putIn : Zm := (RX1, cX1_putIn, 3, none, { frames := 0, cells := 0, slots := 0, locals := 0 })
abbrev cX10_pot : ByteArray := prog_1_method_37_code
def yX10_pot : MethodName := ⟨RX10, "pot", "(II)I"⟩
def zX10_pot : Zm := (RX10, cX10_pot, 3, (some .int), { frames := 2, cells := 0, slots := 0, locals := 42 })
set_option maxRecDepth 100000 in
theorem cl_X10_396 : cv_ RX10 396 yX1_putIn zX1_putIn 1 2 := sorry
abbrev po_X10_pot (T : Zt) (c k : Int) : Zt → Option Zv → Prop := fun T' r => ∃ x : Int, r = some (vI x) ∧ fr_ [(428, []), (430, []), (101, [3, 7])] T T' ∧ (x = x)
abbrev cX1_waysWith : ByteArray := prog_3_method_6_code
def yX1_waysWith : MethodName := ⟨RX1, "waysWith", "(II)I"⟩
def zX1_waysWith : Zm := (RX1, cX1_waysWith, 3, (some .int), { frames := 0, cells := 0, slots := 0, locals := 0 })
abbrev cX1_takeBelow : ByteArray := prog_3_method_9_code
def yX1_takeBelow : MethodName := ⟨RX1, "takeBelow", "(I)I"⟩
def zX1_takeBelow : Zm := (RX1, cX1_takeBelow, 8, (some .int), { frames := 0, cells := 0, slots := 0, locals := 0 })
abbrev cX1_takeClub : ByteArray := prog_3_method_7_code
def yX1_takeClub : MethodName := ⟨RX1, "takeClub", "()I"⟩
def zX1_takeClub : Zm := (RX1, cX1_takeClub, 4, (some .int), { frames := 1, cells := 0, slots := 0, locals := 27 })
set_option maxRecDepth 100000 in
theorem cl_X1_75 : cv_ RX1 75 yX1_takeBelow zX1_takeBelow 1 1 := sorry
abbrev cX1_place : ByteArray := prog_3_method_8_code
def yX1_place : MethodName := ⟨RX1, "place", "(I)V"⟩
def zX1_place : Zm := (RX1, cX1_place, 5, none, { frames := 1, cells := 0, slots := 0, locals := 27 })

abbrev cX3_isFormed : ByteArray := prog_5_method_6_code
def yX3_isFormed : MethodName := ⟨RX3, "isFormed", "(II)Z"⟩
def zX3_isFormed : Zm := (RX3, cX3_isFormed, 4, (some .boolean), { frames := 1, cells := 0, slots := 0, locals := 20 })
set_option maxRecDepth 100000 in
theorem cn_X3_89 : cn_ zX10_isSide 1 := sorry
theorem ds_X3_isFormed_6 : decode cX3_isFormed 6 = .ok (.tableswitch 83 0 2 #[26, 44, 63], 26) := sorry
abbrev po_X3_isFormed (T : Zt) (p : Int) (k s : Int) : Zt → Option Zv → Prop := fun T' r => T = T' ∧ ∃ x : Int, r = some (vI x) ∧ (0 ≤ x ∧ x ≤ 1 ∧ (x = 1 → (k = 0 ∨ (0 ≤ s ∧ s ≤ 1)) ∧ ((T 401 (T 103 p 0) 0 = 0 ∧ 0 ≤ k ∧ k ≤ 5) ∨ (T 401 (T 103 p 0) 0 = 1 ∧ (k = 1 ∨ k = 5)) ∨ (T 401 (T 103 p 0) 0 = 2 ∧ (k = 1 ∨ k = 6)) ∨ (¬ T 401 (T 103 p 0) 0 = 0 ∧ ¬ T 401 (T 103 p 0) 0 = 1 ∧ ¬ T 401 (T 103 p 0) 0 = 2 ∧ 1 ≤ k ∧ k ≤ 4))))
set_option maxHeartbeats 4000000 in
theorem ct_X3_isFormed {T : Zt} {p : Int} {k s : Int} : Ct_ yX3_isFormed zX3_isFormed T [vR 103 p, vI k, vI s] (po_X3_isFormed T p k s) := sorry
abbrev po_X3_needsPerson_k (T : Zt) (p : Int) (k : Int) : Zt → Option Zv → Prop := fun T' r => T = T' ∧ ∃ x : Int, r = some (vI x) ∧ (0 ≤ x ∧ x ≤ 1 ∧ (x = 1 → k ≠ 0))
set_option maxHeartbeats 4000000 in
theorem ct_X3_needsPerson_k {T : Zt} {p : Int} {k : Int} : Ct_ yX3_needsPerson zX3_needsPerson T [vR 103 p, vI k] (po_X3_needsPerson_k T p k) := sorry
abbrev cX3_brokenLaw : ByteArray := prog_5_method_5_code
def yX3_brokenLaw : MethodName := ⟨RX3, "brokenLaw", "(IIII)I"⟩
def zX3_brokenLaw : Zm := (RX3, cX3_brokenLaw, 5, (some .int), { frames := 2, cells := 0, slots := 0, locals := 45 })
set_option maxRecDepth 100000 in
theorem cl_X3_86 : cv_ RX3 86 yX3_isBounded zX3_isBounded 3 2 := sorry
set_option maxRecDepth 100000 in
theorem cl_X3_68 : cv_ RX3 68 yX3_isFormed zX3_isFormed 3 2 := sorry
set_option maxRecDepth 100000 in
theorem cl_X3_72 : cv_ RX3 72 yX3_isAllowed zX3_isAllowed 3 2 := sorry
set_option maxRecDepth 100000 in
theorem cl_X3_75 : cv_ RX3 75 yX3_needsPerson zX3_needsPerson 3 1 := sorry
abbrev po_J7_fill_542 (T : Zt) (p : Int) (v : Int) : Zt → Option Zv → Prop := fun T' r => r = none ∧ fr_ [(542, [])] T T' ∧ oi_ T T' p ∧ ∀ j, 0 ≤ j → j < 96 → T' 542 p j = v
set_option maxHeartbeats 4000000 in
theorem ct_J7_fill_542 {T : Zt} {p : Int} {v : Int} (h1 : (-2147483648) ≤ v ∧ v ≤ 2147483647) : Ct_ yJ7_fill_53178 zJ7_fill_53178 T [vR 542 p, vI v] (po_J7_fill_542 T p v) := sorry
abbrev po_J7_fill_543 (T : Zt) (p : Int) (v : Int) : Zt → Option Zv → Prop := fun T' r => r = none ∧ fr_ [(543, [])] T T' ∧ oi_ T T' p ∧ ∀ j, 0 ≤ j → j < 12 → T' 543 p j = v
set_option maxHeartbeats 4000000 in
theorem ct_J7_fill_543 {T : Zt} {p : Int} {v : Int} (h1 : (-2147483648) ≤ v ∧ v ≤ 2147483647) : Ct_ yJ7_fill_53178 zJ7_fill_53178 T [vR 543 p, vI v] (po_J7_fill_543 T p v) := sorry
abbrev po_J7_fill_544 (T : Zt) (p : Int) (v : Int) : Zt → Option Zv → Prop := fun T' r => r = none ∧ fr_ [(544, [])] T T' ∧ oi_ T T' p ∧ ∀ j, 0 ≤ j → j < 12 → T' 544 p j = v
set_option maxHeartbeats 4000000 in
theorem ct_J7_fill_544 {T : Zt} {p : Int} {v : Int} (h1 : (-2147483648) ≤ v ∧ v ≤ 2147483647) : Ct_ yJ7_fill_53178 zJ7_fill_53178 T [vR 544 p, vI v] (po_J7_fill_544 T p v) := sorry
abbrev po_J7_fill_545 (T : Zt) (p : Int) (v : Int) : Zt → Option Zv → Prop := fun T' r => r = none ∧ fr_ [(545, [])] T T' ∧ oi_ T T' p ∧ ∀ j, 0 ≤ j → j < 144 → T' 545 p j = v
set_option maxHeartbeats 4000000 in
theorem ct_J7_fill_545 {T : Zt} {p : Int} {v : Int} (h1 : (-2147483648) ≤ v ∧ v ≤ 2147483647) : Ct_ yJ7_fill_53178 zJ7_fill_53178 T [vR 545 p, vI v] (po_J7_fill_545 T p v) := sorry
abbrev po_J7_fill_546 (T : Zt) (p : Int) (v : Int) : Zt → Option Zv → Prop := fun T' r => r = none ∧ fr_ [(546, [])] T T' ∧ oi_ T T' p ∧ ∀ j, 0 ≤ j → j < 144 → T' 546 p j = v
set_option maxHeartbeats 4000000 in
theorem ct_J7_fill_546 {T : Zt} {p : Int} {v : Int} (h1 : (-2147483648) ≤ v ∧ v ≤ 2147483647) : Ct_ yJ7_fill_53178 zJ7_fill_53178 T [vR 546 p, vI v] (po_J7_fill_546 T p v) := sorry
abbrev cX7_tally : ByteArray := prog_9_method_2_code
def yX7_tally : MethodName := ⟨RX7, "tally", "(LSportsHouse$Competition;I)V"⟩
def zX7_tally : Zm := (RX7, cX7_tally, 5, none, { frames := 2, cells := 0, slots := 0, locals := 52 })
set_option maxRecDepth 100000 in
theorem cl_X7_105 : cv_ RX7 105 yX6_deductedUpTo zX6_deductedUpTo 6 3 := sorry
set_option maxRecDepth 100000 in
theorem cl_X7_80 : cv_ RX7 80 yX2_isDecided zX2_isDecided 2 0 := sorry
set_option maxRecDepth 100000 in
theorem cl_X7_84 : cv_ RX7 84 yX2_scoreOf zX2_scoreOf 2 1 := sorry
set_option maxRecDepth 100000 in
theorem cl_X7_88 : cv_ RX7 88 yX7_addResult zX7_addResult 7 3 := sorry
set_option maxRecDepth 100000 in
theorem cl_X7_92 : cv_ RX7 92 yX7_addCards zX7_addCards 7 1 := sorry
theorem fr5_X7_50 : fr5_ RX7 50 7 1 := sorry
set_option maxRecDepth 100000 in
theorem cl_X7_54 : cs_ RX7 54 yJ7_fill_53178 zJ7_fill_53178 2 := sorry
abbrev po_X7_tally (T : Zt) (c : Int) (d : Int) : Zt → Option Zv → Prop := fun T' r => r = none ∧ fr_ [(107, [1]), (542, []), (543, []), (544, []), (545, []), (546, [])] T T' ∧ (T' 107 0 1 = c + 1)
set_option maxHeartbeats 4000000 in
theorem ct_X7_tally {T : Zt} {c : Int} {d : Int} (hka : KA_ T) (hkc : KC_ T) (hc : 0 ≤ c ∧ c < T 106 0 2) : Ct_ yX7_tally zX7_tally T [vR 107 0, vR 100 c, vI d] (po_X7_tally T c d) := sorry
abbrev RJ6 : String := "java/lang/Integer"
def fJ6 : Zf := ([], [], [(265, 1431655765), (266, 858993459), (267, 252645135), (264, 65536)], [])
set_option maxRecDepth 100000 in
set_option maxHeartbeats 4000000 in
theorem tg_J6 : ∀ q ∈ fJ6.1, fl_ RJ6 q.1 q.2.1 q.2.2 := sorry
set_option maxRecDepth 100000 in
set_option maxHeartbeats 4000000 in
theorem tp_J6 : ∀ q ∈ fJ6.2.1, fp_ RJ6 q.1 q.2.1 q.2.2 := sorry
theorem tb_J6 : tb_ RJ6 fJ6 := sorry
theorem an_63b (x : Int) : 0 ≤ an_ x 63 ∧ an_ x 63 ≤ 63 := sorry
abbrev cJ6_bitCount_0f7a4 : ByteArray := prog_15_method_49_code
def yJ6_bitCount_0f7a4 : MethodName := ⟨RJ6, "bitCount", "(I)I"⟩
def zJ6_bitCount_0f7a4 : Zm := (RJ6, cJ6_bitCount_0f7a4, 1, (some .int), { frames := 0, cells := 0, slots := 0, locals := 0 })
abbrev po_J6_bitCount_0f7a4 (T : Zt) (a : Int) : Zt → Option Zv → Prop := fun T' r => T = T' ∧ ∃ x : Int, r = some (vI x) ∧ (0 ≤ x ∧ x ≤ 63)
set_option maxHeartbeats 4000000 in
theorem ct_J6_bitCount_0f7a4 {T : Zt} {a : Int} : Ct_ yJ6_bitCount_0f7a4 zJ6_bitCount_0f7a4 T [vI a] (po_J6_bitCount_0f7a4 T a) := sorry
abbrev cX3_hit : ByteArray := prog_5_method_23_code
def yX3_hit : MethodName := ⟨RX3, "hit", "(II)V"⟩
def zX3_hit : Zm := (RX3, cX3_hit, 4, none, { frames := 2, cells := 0, slots := 0, locals := 45 })
set_option maxRecDepth 100000 in
theorem cl_X3_138 : cs_ RX3 138 yJ6_bitCount_0f7a4 zJ6_bitCount_0f7a4 1 := sorry
abbrev po_X3_hit (T : Zt) (p : Int) (s v : Int) : Zt → Option Zv → Prop := fun T' r => r = none ∧ fr_ [(103, [3]), (466, []), (468, []), (467, [])] T T' ∧ (oi_ T T' p ∧ (T' 103 p 3 = 0 → 1 ≤ T' 470 p 0 ∧ 1 ≤ T' 470 p 1))
set_option maxHeartbeats 4000000 in
theorem ct_X3_hit {T : Zt} {p : Int} {s v : Int} (hs : 0 ≤ s ∧ s ≤ 1) (hfd : 1 ≤ T 470 p 0 ∧ 1 ≤ T 470 p 1) : Ct_ yX3_hit zX3_hit T [vR 103 p, vI s, vI v] (po_X3_hit T p s v) := sorry
abbrev cX3_playBaseball : ByteArray := prog_5_method_22_code
def yX3_playBaseball : MethodName := ⟨RX3, "playBaseball", "(III)V"⟩
def zX3_playBaseball : Zm := (RX3, cX3_playBaseball, 4, none, { frames := 3, cells := 0, slots := 0, locals := 68 })
theorem ds_X3_playBaseball_1 : decode cX3_playBaseball 1 = .ok (.tableswitch 91 1 3 #[27, 36, 64], 27) := sorry
set_option maxRecDepth 100000 in
theorem cl_X3_129 : cv_ RX3 129 yX3_hit zX3_hit 3 2 := sorry
set_option maxRecDepth 100000 in
theorem cl_X3_132 : cv_ RX3 132 yX3_walk zX3_walk 3 1 := sorry
set_option maxRecDepth 100000 in
theorem cl_X3_135 : cv_ RX3 135 yX3_countOut zX3_countOut 3 0 := sorry
abbrev po_X3_playBaseball (T : Zt) (p : Int) (k s v : Int) : Zt → Option Zv → Prop := fun T' r => r = none ∧ fr_ [(103, [3, 4, 5]), (466, []), (467, []), (468, [])] T T' ∧ (oi_ T T' p ∧ (T' 103 p 3 = 0 → 1 ≤ T' 470 p 0 ∧ 1 ≤ T' 470 p 1))
set_option maxHeartbeats 4000000 in
theorem ct_X3_playBaseball {T : Zt} {p : Int} {k s v : Int} (hs : 0 ≤ s ∧ s ≤ 1) (hfd : 1 ≤ T 470 p 0 ∧ 1 ≤ T 470 p 1) : Ct_ yX3_playBaseball zX3_playBaseball T [vR 103 p, vI k, vI s, vI v] (po_X3_playBaseball T p k s v) := sorry
abbrev cX3_carryOut : ByteArray := prog_5_method_12_code
def yX3_carryOut : MethodName := ⟨RX3, "carryOut", "(IIII)V"⟩
def zX3_carryOut : Zm := (RX3, cX3_carryOut, 5, none, { frames := 4, cells := 0, slots := 0, locals := 91 })
theorem ds_X3_carryOut_20 : decode cX3_carryOut 20 = .ok (.tableswitch 55 0 2 #[28, 38, 46], 28) := sorry
set_option maxRecDepth 100000 in
theorem cl_X3_99 : cv_ RX3 99 yX3_playFootball zX3_playFootball 3 3 := sorry
set_option maxRecDepth 100000 in
theorem cl_X3_102 : cv_ RX3 102 yX3_playVolleyball zX3_playVolleyball 3 1 := sorry
set_option maxRecDepth 100000 in
theorem cl_X3_106 : cv_ RX3 106 yX3_playTennis zX3_playTennis 3 2 := sorry
set_option maxRecDepth 100000 in
theorem cl_X3_110 : cv_ RX3 110 yX3_playBaseball zX3_playBaseball 3 3 := sorry
set_option maxRecDepth 100000 in
theorem cl_X3_95 : cv_ RX3 95 yX3_substitute zX3_substitute 3 3 := sorry
abbrev po_X3_carryOut (T : Zt) (p : Int) (k s a b : Int) : Zt → Option Zv → Prop := fun T' r => r = none ∧ fr_ [(103, [3, 4, 5]), (466, []), (467, []), (468, []), (472, []), (471, []), (469, []), (470, []), (473, [])] T T' ∧ (oi_ T T' p ∧ (T' 103 p 3 = 0 → 1 ≤ T' 470 p 0 ∧ 1 ≤ T' 470 p 1))
set_option maxHeartbeats 4000000 in
theorem ct_X3_carryOut {T : Zt} {p : Int} {k s a b : Int} (hfm : (k = 0 ∨ (0 ≤ s ∧ s ≤ 1)) ∧ ((T 401 (T 103 p 0) 0 = 0 ∧ 0 ≤ k ∧ k ≤ 5) ∨ (T 401 (T 103 p 0) 0 = 1 ∧ (k = 1 ∨ k = 5)) ∨ (T 401 (T 103 p 0) 0 = 2 ∧ (k = 1 ∨ k = 6)) ∨ (¬ T 401 (T 103 p 0) 0 = 0 ∧ ¬ T 401 (T 103 p 0) 0 = 1 ∧ ¬ T 401 (T 103 p 0) 0 = 2 ∧ 1 ≤ k ∧ k ≤ 4))) (hf : 1 ≤ T 401 (T 103 p 0) 9 ∧ T 401 (T 103 p 0) 9 ≤ 6) (hfd : 1 ≤ T 470 p 0 ∧ 1 ≤ T 470 p 1) : Ct_ yX3_carryOut zX3_carryOut T [vR 103 p, vI k, vI s, vI a, vI b] (po_X3_carryOut T p k s a b) := sorry
abbrev cX9_setCaps : ByteArray := prog_11_method_7_code
def yX9_setCaps : MethodName := ⟨RX9, "setCaps", "(I)V"⟩
def zX9_setCaps : Zm := (RX9, cX9_setCaps, 6, none, { frames := 1, cells := 0, slots := 0, locals := 21 })
set_option maxRecDepth 100000 in
theorem cl_X9_115 : cv_ RX9 115 yX2_has zX2_has 2 1 := sorry
abbrev po_X9_setCaps (T : Zt) (t : Int) : Zt → Option Zv → Prop := fun T' r => r = none ∧ fr_ [(591, []), (592, [])] T T' ∧ (0 = (0 : Int))
set_option maxHeartbeats 4000000 in
theorem ct_X9_setCaps {T : Zt} {t : Int} (hq9 : Q9_ T) (hka : KA_ T) (hw : T 401 (T 109 0 5 - 1) 2 ≤ T 401 (T 109 0 5 - 1) 1) (ht : 0 ≤ t ∧ t ≤ 11) : Ct_ yX9_setCaps zX9_setCaps T [vR 109 0, vI t] (po_X9_setCaps T t) := sorry
def KS_ (T : Zt) : Prop := ∀ c : Int, 0 ≤ c → c < T 106 0 2 → ∀ m : Int, T 100 c 7 ≤ m → m < T 100 c 7 + T 100 c 8 → T 102 m 0 = c ∧ 0 ≤ T 404 c (T 102 m 3) ∧ 0 ≤ T 404 c (T 102 m 4)
theorem KS__f {ws : List (Nat × List Int)} {T T' : Zt} (h : KS_ T) (f : fr_ ws T T') (w : (∀ j, fw_ ws 404 j = false) ∧ fw_ ws 100 7 = false ∧ fw_ ws 100 8 = false ∧ fw_ ws 102 0 = false ∧ fw_ ws 102 3 = false ∧ fw_ ws 102 4 = false ∧ fw_ ws 106 2 = false ∧ True) : KS_ T' := sorry
abbrev cX9_takePoints : ByteArray := prog_11_method_4_code
def yX9_takePoints : MethodName := ⟨RX9, "takePoints", "(I)V"⟩
def zX9_takePoints : Zm := (RX9, cX9_takePoints, 6, none, { frames := 3, cells := 0, slots := 0, locals := 76 })
set_option maxRecDepth 100000 in
theorem cl_X9_124 : cv_ RX9 124 yX7_tally zX7_tally 7 2 := sorry
abbrev po_X9_takePoints (T : Zt) (t : Int) : Zt → Option Zv → Prop := fun T' r => r = none ∧ fr_ [(107, [1]), (542, []), (543, []), (544, []), (545, []), (546, []), (587, []), (109, [6])] T T' ∧ (0 = (0 : Int))
set_option maxHeartbeats 4000000 in
theorem ct_X9_takePoints {T : Zt} {t : Int} (hka : KA_ T) (hkc : KC_ T) (hks : KS_ T) (hc9 : 1 ≤ T 109 0 5 ∧ T 109 0 5 ≤ T 106 0 2) (ht : 0 ≤ t ∧ t ≤ 11) : Ct_ yX9_takePoints zX9_takePoints T [vR 109 0, vI t] (po_X9_takePoints T t) := sorry
abbrev cX9_isFirstBy : ByteArray := prog_11_method_18_code
def yX9_isFirstBy : MethodName := ⟨RX9, "isFirstBy", "(III)Z"⟩
def zX9_isFirstBy : Zm := (RX9, cX9_isFirstBy, 7, (some .boolean), { frames := 5, cells := 0, slots := 0, locals := 127 })
set_option maxRecDepth 100000 in
theorem cl_X9_184 : cv_ RX9 184 yX7_rank zX7_rank 7 0 := sorry
set_option maxRecDepth 100000 in
theorem cl_X9_180 : cv_ RX9 180 yX7_addResult zX7_addResult 7 3 := sorry
abbrev po_X9_isFirstBy (T : Zt) (a n s : Int) : Zt → Option Zv → Prop := fun T' r => ∃ x : Int, r = some (vI x) ∧ fr_ [(107, [1, 13]), (542, []), (543, []), (544, []), (545, []), (546, []), (550, []), (551, []), (552, []), (549, []), (547, []), (548, [])] T T' ∧ (0 ≤ x ∧ x ≤ 1)
set_option maxHeartbeats 4000000 in
theorem ct_X9_isFirstBy {T : Zt} {a n s : Int} (hka : KA_ T) (hkc : KC_ T) (hc9 : 1 ≤ T 109 0 5 ∧ T 109 0 5 ≤ T 106 0 2) (hs : 0 ≤ s ∧ s ≤ 11) (hn : 0 ≤ n ∧ n ≤ 40) (hop : ∀ j : Int, 0 ≤ j → j < n → 0 ≤ T 588 0 j ∧ T 588 0 j < T 106 0 4) (hrk : T 401 (T 109 0 5 - 1) 4 ≤ 7) : Ct_ yX9_isFirstBy zX9_isFirstBy T [vR 109 0, vI a, vI n, vI s] (po_X9_isFirstBy T a n s) := sorry
abbrev cX9_countFirsts : ByteArray := prog_11_method_17_code
def yX9_countFirsts : MethodName := ⟨RX9, "countFirsts", "(LSportsHouse$Competition;I)I"⟩
def zX9_countFirsts : Zm := (RX9, cX9_countFirsts, 7, (some .int), { frames := 6, cells := 0, slots := 0, locals := 153 })
set_option maxRecDepth 100000 in
theorem cl_X9_176 : cv_ RX9 176 yX9_isFirstBy zX9_isFirstBy 9 3 := sorry
set_option maxRecDepth 100000 in
theorem cl_X9_109 : cv_ RX9 109 yX2_isDecided zX2_isDecided 2 0 := sorry
theorem fr5_X9_54 : fr5_ RX9 54 9 5 := sorry
abbrev po_X9_countFirsts (T : Zt) (c : Int) (s : Int) : Zt → Option Zv → Prop := fun T' r => ∃ x : Int, r = some (vI x) ∧ fr_ [(109, [5]), (588, []), (107, [1, 13]), (542, []), (543, []), (544, []), (545, []), (546, []), (550, []), (551, []), (552, []), (549, []), (547, []), (548, [])] T T' ∧ (-1 ≤ x ∧ x ≤ 27)
set_option maxHeartbeats 4000000 in
theorem ct_X9_countFirsts {T : Zt} {c : Int} {s : Int} (hka : KA_ T) (hkm : KM_ T) (hkc : KC_ T) (hc : 0 ≤ c ∧ c < T 106 0 2) (hs : 0 ≤ s ∧ s ≤ 11) (hrk : T 401 c 4 ≤ 7) : Ct_ yX9_countFirsts zX9_countFirsts T [vR 109 0, vR 100 c, vI s] (po_X9_countFirsts T c s) := sorry
abbrev cX9_listOpen : ByteArray := prog_11_method_3_code
def yX9_listOpen : MethodName := ⟨RX9, "listOpen", "(II)Z"⟩
def zX9_listOpen : Zm := (RX9, cX9_listOpen, 5, (some .boolean), { frames := 2, cells := 0, slots := 0, locals := 40 })
abbrev po_X9_listOpen (T : Zt) (b n : Int) : Zt → Option Zv → Prop := fun T' r => ∃ x : Int, r = some (vI x) ∧ fr_ [(109, [9]), (584, []), (588, [])] T T' ∧ ((0 ≤ x ∧ x ≤ 1) ∧ ∀ j : Int, 0 ≤ j → j < T' 109 0 9 → T 100 (T 109 0 5 - 1) 7 ≤ T' 588 0 j ∧ T' 588 0 j < T 100 (T 109 0 5 - 1) 7 + T 100 (T 109 0 5 - 1) 8)
set_option maxHeartbeats 4000000 in
theorem ct_X9_listOpen {T : Zt} {b n : Int} (hka : KA_ T) (hkm : KM_ T) (hkc : KC_ T) (hc9 : 1 ≤ T 109 0 5 ∧ T 109 0 5 ≤ T 106 0 2) (hn : n ≤ 40) : Ct_ yX9_listOpen zX9_listOpen T [vR 109 0, vI b, vI n] (po_X9_listOpen T b n) := sorry
def KO_ (T : Zt) : Prop := ∀ c : Int, 0 ≤ c → c < T 106 0 2 → T 401 c 4 ≤ 7
theorem KO__f {ws : List (Nat × List Int)} {T T' : Zt} (h : KO_ T) (f : fr_ ws T T') (w : (∀ j, fw_ ws 401 j = false) ∧ fw_ ws 106 2 = false ∧ True) : KO_ T' := sorry
abbrev cX10_firsts : ByteArray := prog_1_method_35_code
def yX10_firsts : MethodName := ⟨RX10, "firsts", "(II)I"⟩
def zX10_firsts : Zm := (RX10, cX10_firsts, 4, (some .int), { frames := 7, cells := 0, slots := 0, locals := 179 })
set_option maxRecDepth 100000 in
theorem cl_X10_377 : cv_ RX10 377 yX9_countFirsts zX9_countFirsts 9 2 := sorry
abbrev po_X10_firsts (T : Zt) (c b : Int) : Zt → Option Zv → Prop := fun T' r => ∃ x : Int, r = some (vI x) ∧ fr_ [(109, [5]), (588, []), (107, [1, 13]), (542, []), (543, []), (544, []), (545, []), (546, []), (550, []), (551, []), (552, []), (549, []), (547, []), (548, [])] T T' ∧ (-4 ≤ x ∧ x ≤ 27)
set_option maxHeartbeats 4000000 in
theorem ct_X10_firsts {T : Zt} {c b : Int} (hka : KA_ T) (hkm : KM_ T) (hkc : KC_ T) (hko : KO_ T) : Ct_ yX10_firsts zX10_firsts T [vR 110 0, vI c, vI b] (po_X10_firsts T c b) := sorry
abbrev cX10_table : ByteArray := prog_1_method_29_code
def yX10_table : MethodName := ⟨RX10, "table", "(IIII)I"⟩
def zX10_table : Zm := (RX10, cX10_table, 7, (some .int), { frames := 5, cells := 0, slots := 0, locals := 127 })
set_option maxRecDepth 100000 in
theorem cl_X10_350 : cv_ RX10 350 yX7_tally zX7_tally 7 2 := sorry
set_option maxRecDepth 100000 in
theorem cl_X10_353 : cv_ RX10 353 yX7_rank zX7_rank 7 0 := sorry
abbrev po_X10_table (T : Zt) (c d b w : Int) : Zt → Option Zv → Prop := fun T' r => ∃ x : Int, r = some (vI x) ∧ fr_ [(107, [1, 13]), (542, []), (543, []), (544, []), (545, []), (546, []), (550, []), (551, []), (552, []), (549, []), (547, []), (548, [])] T T' ∧ (0 = (0 : Int))
set_option maxHeartbeats 4000000 in
theorem ct_X10_table {T : Zt} {c d b w : Int} (hka : KA_ T) (hkm : KM_ T) (hkc : KC_ T) (hko : KO_ T) : Ct_ yX10_table zX10_table T [vR 110 0, vI c, vI d, vI b, vI w] (po_X10_table T c d b w) := sorry
abbrev cX10_parted : ByteArray := prog_1_method_31_code
def yX10_parted : MethodName := ⟨RX10, "parted", "(III)I"⟩
def zX10_parted : Zm := (RX10, cX10_parted, 5, (some .int), { frames := 5, cells := 0, slots := 0, locals := 127 })
abbrev po_X10_parted (T : Zt) (c d k : Int) : Zt → Option Zv → Prop := fun T' r => ∃ x : Int, r = some (vI x) ∧ fr_ [(107, [1, 13]), (542, []), (543, []), (544, []), (545, []), (546, []), (550, []), (551, []), (552, []), (549, []), (547, []), (548, [])] T T' ∧ (0 = (0 : Int))
set_option maxHeartbeats 4000000 in
theorem ct_X10_parted {T : Zt} {c d k : Int} (hka : KA_ T) (hkm : KM_ T) (hkc : KC_ T) (hko : KO_ T) : Ct_ yX10_parted zX10_parted T [vR 110 0, vI c, vI d, vI k] (po_X10_parted T c d k) := sorry
abbrev cX10_standing : ByteArray := prog_1_method_30_code
def yX10_standing : MethodName := ⟨RX10, "standing", "(III)I"⟩
def zX10_standing : Zm := (RX10, cX10_standing, 5, (some .int), { frames := 5, cells := 0, slots := 0, locals := 127 })
abbrev po_X10_standing (T : Zt) (c d k : Int) : Zt → Option Zv → Prop := fun T' r => ∃ x : Int, r = some (vI x) ∧ fr_ [(107, [1, 13]), (542, []), (543, []), (544, []), (545, []), (546, []), (550, []), (551, []), (552, []), (549, []), (547, []), (548, [])] T T' ∧ (0 = (0 : Int))
set_option maxHeartbeats 4000000 in
theorem ct_X10_standing {T : Zt} {c d k : Int} (hka : KA_ T) (hkm : KM_ T) (hkc : KC_ T) (hko : KO_ T) : Ct_ yX10_standing zX10_standing T [vR 110 0, vI c, vI d, vI k] (po_X10_standing T c d k) := sorry
abbrev cX10_lineUp : ByteArray := prog_1_method_20_code
def yX10_lineUp : MethodName := ⟨RX10, "lineUp", "(III)I"⟩
def zX10_lineUp : Zm := (RX10, cX10_lineUp, 6, (some .int), { frames := 5, cells := 0, slots := 0, locals := 122 })
abbrev po_X10_lineUp (T : Zt) (q b s : Int) : Zt → Option Zv → Prop := fun T' r => ∃ x : Int, r = some (vI x) ∧ fr_ [(448, []), (449, []), (533, [])] T T' ∧ (0 = (0 : Int))
set_option maxHeartbeats 4000000 in
theorem ct_X10_lineUp {T : Zt} {q b s : Int} (hka : KA_ T) (hkm : KM_ T) (hkc : KC_ T) (hkr : KR_ T) : Ct_ yX10_lineUp zX10_lineUp T [vR 110 0, vI q, vI b, vI s] (po_X10_lineUp T q b s) := sorry
def KE_ (T : Zt) : Prop := ∀ c : Int, 0 ≤ c → c < T 106 0 2 → ∀ j : Int, 0 ≤ j → j < T 100 c 5 → T 404 c (T 403 c j) = j
theorem KE__f {ws : List (Nat × List Int)} {T T' : Zt} (h : KE_ T) (f : fr_ ws T T') (w : (∀ j, fw_ ws 403 j = false) ∧ (∀ j, fw_ ws 404 j = false) ∧ fw_ ws 100 5 = false ∧ fw_ ws 106 2 = false ∧ True) : KE_ T' := sorry
abbrev cX10_enter : ByteArray := prog_1_method_12_code
def yX10_enter : MethodName := ⟨RX10, "enter", "(II)I"⟩
def zX10_enter : Zm := (RX10, cX10_enter, 4, (some .int), { frames := 2, cells := 0, slots := 0, locals := 42 })

-- things are made: rows, objects, copies
section JN
variable {Y : Zm} {T0 T : Zt} {P : Zt → Option Zv → Prop} {bc bs bc' bs' : Nat} {pc pc' : Int} {ls : Zl} {st : List Zv}
def nu_ (T : Zt) (k : Nat) (i n : Int) (f : Int → Int) : Zt := fun k' i' j' => if k' = k ∧ i' = i then (if j' = -1 then 1 else if j' = -2 then n else f j') else T k' i' j'
def aq_ (ad : Nat → Int → Nat) (k : Nat) (i : Int) (q : Nat) : Nat → Int → Nat := fun k' i' => if k' = k ∧ i' = i then q else ad k' i'
theorem nu_o {k k' : Nat} {i i' n : Int} {f : Int → Int} (h : ¬ (k' = k ∧ i' = i)) : nu_ T k i n f k' i' = T k' i' := sorry
theorem nu_s {k : Nat} {i n : Int} {f : Int → Int} (j : Int) : nu_ T k i n f k i j = if j = -1 then 1 else if j = -2 then n else f j := sorry
theorem nu_p {k : Nat} {i n : Int} {f : Int → Int} {j : Int} (h : 0 ≤ j) : nu_ T k i n f k i j = f j := sorry
theorem nu_l {k : Nat} {i n : Int} {f : Int → Int} : nu_ T k i n f k i (-2) = n := sorry
theorem al_nu {k : Nat} {i n : Int} {f : Int → Int} (k' : Nat) (i' : Int) : al_ (nu_ T k i n f) k' i' ↔ (k' = k ∧ i' = i) ∨ al_ T k' i' := sorry
theorem aq_s {ad : Nat → Int → Nat} {k q : Nat} {i : Int} : aq_ ad k i q k i = q := sorry
theorem aq_n {ad : Nat → Int → Nat} {k q k' : Nat} {i i' : Int} (h : ¬ (k' = k ∧ i' = i)) : aq_ ad k i q k' i' = ad k' i' := sorry
theorem aq_e {ad : Nat → Int → Nat} {k q : Nat} {i : Int} (hk : 100 ≤ k) (hfr : ¬ al_ T k i) (k' : Nat) (i' : Int) (h : k' < 100 ∨ al_ T k' i') : aq_ ad k i q k' i' = ad k' i' := sorry
theorem tf_ky : ∀ k, k < 154 → ∀ q ∈ tf_ k, ¬ (150 ≤ q.2.1 ∧ q.2.1 < 154) := sorry
theorem zi_at {k : Nat} {q : (Nat × Nat × Int × Int) × Nat} (h : q ∈ (tf_ k).zipIdx) : (tf_ k)[q.2]? = some q.1 := sorry
theorem ce_ad {cA : Nat → ClassId} {ad ad' : Nat → Int → Nat} (hT : ok_T T) (h : ∀ k i, k < 100 ∨ al_ T k i → ad' k i = ad k i) {k : Nat} {i : Int} (ha : al_ T k i) : ce_ cA ad' T k i = ce_ cA ad T k i := sorry
theorem ok_nu (hT : ok_T T) {k : Nat} {i n : Int} {f : Int → Int} (hk9 : k ≠ 190 ∧ k ≠ 191) (hk : 100 ≤ k) (hn : 0 ≤ n ∧ n ≤ 2147483647) (h1 : ∀ t m lo hi, ta_ k = some (t, m, lo, hi) → t ≤ 3 ∧ ∀ x, 0 ≤ x → lo ≤ f x ∧ f x ≤ hi) (h2 : ∀ (j c k' : Nat) (lo hi : Int), (tf_ k)[j]? = some (c, k', lo, hi) → lo ≤ f j ∧ f j ≤ hi ∧ ok_v T (fv_ c k' (f j) i)) (h3 : ∀ o, ow_ k = some o → al_ T o i ∨ al_ T (o + 50) i) : ok_T (nu_ T k i n f) := sorry
/-- a row of kind 190 is made, and counted -/
def nv_ (T : Zt) (n : Int) : Zt := up_ (nu_ T 190 (T 191 0 0) n (fun _ => 0)) 191 0 0 (T 191 0 0 + 1)
theorem nv_o {k' : Nat} {i' n : Int} (h : ¬ (k' = 190 ∧ i' = T 191 0 0)) (h2 : k' ≠ 191) : nv_ T n k' i' = T k' i' := sorry
theorem nv_9 {n : Int} : nv_ T n 191 0 0 = T 191 0 0 + 1 := sorry
theorem nv_s {n : Int} : nv_ T n 190 (T 191 0 0) = nu_ T 190 (T 191 0 0) n (fun _ => 0) 190 (T 191 0 0) := sorry
theorem al_nv {n : Int} (k' : Nat) (i' : Int) : al_ (nv_ T n) k' i' ↔ (k' = 190 ∧ i' = T 191 0 0) ∨ al_ T k' i' := sorry
theorem ta_191 : ta_ 191 = none := sorry
theorem ok_nv (hT : ok_T T) {n : Int} (hn : 0 ≤ n ∧ n ≤ 2147483647) : ok_T (nv_ T n) := sorry
theorem no_191 {D : va_G} {cA : Nat → ClassId} {ad : Nat → Int → Nat} {A : Nat → Prop} {H : Heap} (h : Rp_ D cA ad T A H) (i : Int) : ¬ al_ T 191 i := sorry
theorem rp_nu {D : va_G} {cA : Nat → ClassId} {ad : Nat → Int → Nat} {A : Nat → Prop} {H1 : Heap} (hT : ok_T T) {ids : List (Nat × Int)} (hids : ∀ k i, al_ T k i ↔ (k, i) ∈ ids) {k q : Nat} {i : Int} {T1 : Zt} {e : va_E} (hk : 100 ≤ k) (hfr : ¬ al_ T k i) (hs1 : ∀ k' i', al_ T k' i' → T1 k' i' = T k' i') (hal : ∀ k' i', al_ T1 k' i' ↔ (k' = k ∧ i' = i) ∨ al_ T k' i') (he : ce_ cA (aq_ ad k i q) T1 k i = e) (hP : va_P D vwCl (wd_ cA ad T ids ++ [(q, e)]) H1) (hD : va_D A (wd_ cA ad T ids ++ [(q, e)])) : Rp_ D cA (aq_ ad k i q) T1 A H1 := sorry
theorem j_nu {l : Launch} {p : Program} {e : Env} {s : State} {m : MethodId} {args : Array Value} {below : List Frame} {meth : Method} {c : Code} {D : va_G} {cA : Nat → ClassId} {ad0 : Nat → Int → Nat} {A : Nat → Prop} (X : Cx_ Y p s m args meth c D cA ad0 A) {ad : Nat → Int → Nat} {H1 : Heap} {locs : List Loc} {cells slots : Nat} {lsC : Array Slot} {k q : Nat} {i : Int} {T1 : Zt} {ev : va_E} {ids : List (Nat × Int)} (kk : J_ Y T0 P bc' bs' pc' ls (vR k i :: st) T1) (hc : cells + bc' ≤ Y.2.2.2.2.cells) (hs : slots + bs' ≤ Y.2.2.2.2.slots) (hk : 100 ≤ k) (hfr : ¬ al_ T k i) (hs1 : ∀ k' i', al_ T k' i' → T1 k' i' = T k' i') (hal : ∀ k' i', al_ T1 k' i' ↔ (k' = k ∧ i' = i) ∨ al_ T k' i') (hok : ok_T T1) (hids : ∀ k i, al_ T k i ↔ (k, i) ∈ ids) (he : ce_ cA (aq_ ad k i q) T1 k i = ev) (hP : va_P D vwCl (wd_ cA ad T ids ++ [(q, ev)]) H1) (hD : va_D A (wd_ cA ad T ids ++ [(q, ev)])) (hS : va_S A s.heap H1 locs) (hB : Sb_ ad0 ad T0 T) (hT : ok_T T) (hL : ok_l T ls st) (hl : lv_has lsC Y.2.2.1 (lp_ ad 0 ls)) (hn : ls.length = Y.2.2.1) :
    W p l e Y.2.2.2.2 s m args below meth c H1 locs cells slots (MQ below (Qc_ D cA ad0 T0 A P) args s Y.2.2.2.2.cells Y.2.2.2.2.slots A) (F0 m pc'.toNat lsC (.ref q :: st.map (en_v ad))) := sorry
theorem rp_ids {D : va_G} {cA : Nat → ClassId} {ad : Nat → Int → Nat} {A : Nat → Prop} {H : Heap} (h : Rp_ D cA ad T A H) : ∃ ids : List (Nat × Int), (∀ k i, al_ T k i ↔ (k, i) ∈ ids) ∧ va_P D vwCl (wd_ cA ad T ids) H ∧ va_D A (wd_ cA ad T ids) := sorry
theorem nu_a {k : Nat} {i n : Int} {f : Int → Int} (hfr : ¬ al_ T k i) (k' : Nat) (i' : Int) (h : al_ T k' i') : nu_ T k i n f k' i' = T k' i' := sorry
theorem ce_i {cA : Nat → ClassId} {ad : Nat → Int → Nat} {T1 : Zt} {k : Nat} {mo : Option Int} {lo hi i n : Int} (ha : ta_ k = some (1, mo, lo, hi)) (hmo : mo = none ∧ T1 k i (-2) = n ∨ mo = some n) : ce_ cA ad T1 k i = .inl (cA 0, n.toNat, .inl fun x => Int32.ofInt (T1 k i (x : Int))) := sorry
theorem j_newX {k : Nat} {mo : Option Int} {lo hi i n : Int} {T1 : Zt} (hp : 0 ≤ pc) (ha : ta_ k = some (1, mo, lo, hi)) (hmo : mo = none ∧ T1 k i (-2) = n ∨ mo = some n) (hz : ∀ x : Nat, T1 k i (x : Int) = 0) (h0 : 0 ≤ n) (h1 : n ≤ 100000000) (hfr : ok_T T → ¬ al_ T k i) (hok : ok_T T → ok_T T1) (hs1 : (∀ i, ¬ al_ T 191 i) → ¬ al_ T k i → ∀ k' i', al_ T k' i' → T1 k' i' = T k' i') (hal : ∀ k' i', al_ T1 k' i' ↔ (k' = k ∧ i' = i) ∨ al_ T k' i') (hb : bc' + 1 ≤ bc) (hbs : bs' + n.toNat ≤ bs) (hd : decode Y.2.1 pc.toNat = .ok (.newarray .int, 2)) (hac : Cond.arrayClass .int ∈ lw_g) (kk : J_ Y T0 P bc' bs' (pc + 2) ls (vR k i :: st) T1) : J_ Y T0 P bc bs pc ls (vI n :: st) T := sorry
/-- an int row of the tables is made -/
theorem j_newI {k : Nat} {lo hi i n : Int} (hp : 0 ≤ pc) (ha : ta_ k = some (1, some n, lo, hi)) (hl0 : lo ≤ 0 ∧ 0 ≤ hi) (hn : 0 ≤ n ∧ n ≤ 100000000) (hfr : ¬ al_ T k i) (hb : bc' + 1 ≤ bc) (hbs : bs' + n.toNat ≤ bs) (hd : decode Y.2.1 pc.toNat = .ok (.newarray .int, 2)) (hac : Cond.arrayClass .int ∈ lw_g) (how : ∀ o, ow_ k = some o → al_ T o i ∨ al_ T (o + 50) i) (kk : J_ Y T0 P bc' bs' (pc + 2) ls (vR k i :: st) (nu_ T k i n (fun _ => 0))) : J_ Y T0 P bc bs pc ls (vI n :: st) T := sorry
/-- an int row of any length is made -/
theorem j_newL {n : Int} (hp : 0 ≤ pc) (hn : 0 ≤ n ∧ n ≤ 100000000) (hb : bc' + 1 ≤ bc) (hbs : bs' + n.toNat ≤ bs) (hd : decode Y.2.1 pc.toNat = .ok (.newarray .int, 2)) (hac : Cond.arrayClass .int ∈ lw_g) (kk : J_ Y T0 P bc' bs' (pc + 2) ls (vR 190 (T 191 0 0) :: st) (nv_ T n)) : J_ Y T0 P bc bs pc ls (vI n :: st) T := sorry
/-- raw objects: what new makes, until its constructor has run -/
theorem ce_rw {cA : Nat → ClassId} {ad : Nat → Int → Nat} {ci : Nat} {i : Int} (h : ci < 4) : ce_ cA ad T (150 + ci) i = .inr (ci, (tf_ (150 + ci)).zipIdx.map fun q => en_v ad (fv_ q.1.1 q.1.2.1 (T (150 + ci) i (q.2 : Int)) i)) := sorry
theorem rw_ok {ci : Nat} (h : ci < 4) : ∀ q ∈ tf_ (150 + ci), q.2.2.1 ≤ 0 ∧ 0 ≤ q.2.2.2 ∧ (q.1 = 0 ∨ q.1 = 5) := sorry
def rw_fs (ci : Nat) (ad : Nat → Int → Nat) (i : Int) : List Value := (tf_ (150 + ci)).zipIdx.map fun q => en_v ad (fv_ q.1.1 q.1.2.1 0 i)
/-- an object is made -/
theorem j_newO {ci idx N : Nat} {C : String} {Tb : u_T} {ty0 : Nat → FieldType} {i : Int} (hp : 0 ≤ pc) (h4 : ci < 4) (hC : vwCl[ci]? = some (C, Tb, N)) (hty : ∀ k, k < N → parseFieldDescriptor (Tb k).2.2.1 = some (ty0 k)) (hfs : ∀ (ad : Nat → Int → Nat) (j : Nat), j < N → defaultValue (ty0 j) = vp_V (rw_fs ci ad i) j) (hcl : Cond.classLink Y.1 idx C ∈ lw_g) (hinst : Cond.instantiable C N ∈ lw_g) (hini : Cond.initialized C ∈ lw_g) (hfr : ¬ al_ T (150 + ci) i) (hb : bc' + 1 ≤ bc) (hbs : bs' + N ≤ bs) (hd : decode Y.2.1 pc.toNat = .ok (.new idx, 3)) (kk : J_ Y T0 P bc' bs' (pc + 3) ls (vR (150 + ci) i :: st) (nu_ T (150 + ci) i 0 (fun _ => 0))) : J_ Y T0 P bc bs pc ls st T := sorry
end JN


-- raw objects are filled, constructors are called, raw objects become things of the picture
section JO
variable {Y Yc : Zm} {T0 T : Zt} {P : Zt → Option Zv → Prop} {bc bs : Nat} {pc : Int} {ls : Zl} {st rest : List Zv} {y : MethodName} {Qp : Zt → Option Zv → Prop}
def fW_ (own : String) (idx ci j : Nat) (I : Bool) : Prop := ∃ (C : String) (Tb : u_T) (N : Nat), vwCl[ci]? = some (C, Tb, N) ∧ j < N ∧ N = (tf_ (150 + ci)).length ∧ Cond.fieldLink own idx (Tb j).1 (Tb j).2.1 (Tb j).2.2.1 ∈ lw_g ∧ (Tb j).1 = own ∧ ∃ ty, parseFieldDescriptor (Tb j).2.2.1 = some ty ∧ (∀ a : Nat, I = false → narrow ty (.ref a) = .ref a ∧ fits ty (.ref a) = true) ∧ (∀ a : Int32, I = true → narrow ty (.int a) = .int a ∧ fits ty (.int a) = true)
/-- a field of a raw object is put, in its constructor -/
theorem j_putW {ci j c k' idx : Nat} {lo hi i z : Int} {v : Zv} {I : Bool} (hp : 0 ≤ pc) (h4 : ci < 4) (hf : fW_ Y.1 idx ci j I) (ht : (tf_ (150 + ci))[j]? = some (c, k', lo, hi)) (him : im_ Y.2.2.2.2.slots = true) (hd : decode Y.2.1 pc.toNat = .ok (.putfield idx, 3)) (ev : fv_ c k' z i = v) (hI : match v with | .inl _ => I = true | .inr (.inr (some _)) => I = false | _ => False) (h1 : lo ≤ z) (h2 : z ≤ hi) (k : J_ Y T0 P bc bs (pc + 3) ls st (up_ T (150 + ci) i (j : Int) z)) : J_ Y T0 P bc bs pc ls (v :: vR (150 + ci) i :: st) T := sorry
/-- a field of a raw object is read -/
theorem j_getW {ci j c k' idx N : Nat} {C : String} {Tb : u_T} {lo hi i : Int} (hp : 0 ≤ pc) (h4 : ci < 4) (hC : vwCl[ci]? = some (C, Tb, N)) (hjN : j < N) (hlk : Cond.fieldLink Y.1 idx (Tb j).1 (Tb j).2.1 (Tb j).2.2.1 ∈ lw_g) (ht : (tf_ (150 + ci))[j]? = some (c, k', lo, hi)) (hd : decode Y.2.1 pc.toNat = .ok (.getfield idx, 3)) {v : Zv} (ev : fv_ c k' (T (150 + ci) i (j : Int)) i = v) (k : J_ Y T0 P bc bs (pc + 3) ls (v :: st) T) : J_ Y T0 P bc bs pc ls (vR (150 + ci) i :: st) T := sorry
/-- a reference is put into a field of a thing -/
theorem j_putV {ci j c k' k2 idx : Nat} {lo hi i x z : Int} (hp : 0 ≤ pc) (hf : fr5_ Y.1 idx ci j) (ht : (tf_ (100 + ci))[j]? = some (c, k', lo, hi)) (hd : decode Y.2.1 pc.toNat = .ok (.putfield idx, 3)) (ev : fv_ c k' z i = vR k2 x) (h1 : lo ≤ z) (h2 : z ≤ hi) (k : J_ Y T0 P bc bs (pc + 3) ls st (up_ T (100 + ci) i (j : Int) z)) : J_ Y T0 P bc bs pc ls (vR k2 x :: vR (100 + ci) i :: st) T := sorry
/-- the constructor of Object -/
theorem j_objI {idx k : Nat} {i : Int} (hml : Cond.methodLink Y.1 idx Lib.objectInit ∈ lw_g) (hin : Cond.instanceMethod Lib.objectInit ∈ lw_g) (hco : Cond.code Lib.objectInit ⟨#[0xb1]⟩ 1 none ∈ lw_g) (hd : decode Y.2.1 pc.toNat = .ok (.invokespecial idx, 3)) (hp : 0 ≤ pc) (hf : 1 ≤ Y.2.2.2.2.frames) (hlo : 20 ≤ Y.2.2.2.2.locals) (hrest : rest.length ≤ 4) (kk : J_ Y T0 P bc bs (pc + 3) ls rest T) : J_ Y T0 P bc bs pc ls (vR k i :: rest) T := sorry
/-- a constructor is called -/
def ci_ (own : String) (idx : Nat) (y : MethodName) (Yc : Zm) (n : Nat) : Prop := GoodIn lw_g (.code y Yc.2.1 Yc.2.2.1 none :: lw_g) ∧ Cond.initialized y.cls ∈ lw_g ∧ Cond.methodLink own idx y ∈ lw_g ∧ Cond.instanceMethod y ∈ lw_g ∧ y.name = "<init>" ∧ Yc.2.2.2.1 = none ∧ (y.cls ≠ "java/lang/invoke/MethodHandle" ∧ y.cls ≠ "java/lang/invoke/VarHandle" ∧ (parseMethodDescriptor y.desc).map (fun d => d.parameters.length) = some n)
theorem j_callI {idx k n : Nat} {i : Int} (as : List Zv) (hC : Ct_ y Yc T (vR k i :: as) Qp) (hcv : ci_ Y.1 idx y Yc n) (hd : decode Y.2.1 pc.toNat = .ok (.invokespecial idx, 3)) (hp : 0 ≤ pc) (hn : as.length = n) (hrm : rf_ Yc Y = true) (hrest : rest.length ≤ 4) (hmc : Yc.2.2.2.2.cells ≤ bc) (hms : Yc.2.2.2.2.slots ≤ bs) {st0 : List Zv} (hst : st0 = as.reverse ++ vR k i :: rest) (kk : ∀ (T' : Zt) (r : Option Zv), Qp T' r → J_ Y T0 P (bc - Yc.2.2.2.2.cells) (bs - Yc.2.2.2.2.slots) (pc + 3) ls (r.toList ++ rest) T') : J_ Y T0 P bc bs pc ls st0 T := sorry
/-- a row is given back -/
theorem j_aret {k : Nat} {i : Int} {rt : FieldType} (hr : Y.2.2.2.1 = some rt) (hrt : (∃ n, rt = .object n) ∨ ∃ t, rt = .array t) (hd : decode Y.2.1 pc.toNat = .ok (.areturn, 1)) (k2 : P T (some (vR k i))) : J_ Y T0 P bc bs pc ls [vR k i] T := sorry
end JO


-- raw objects become things of the picture; references into rows; clones and copies
section JP
variable {Y Yc : Zm} {T0 T : Zt} {P : Zt → Option Zv → Prop} {bc bs bc' bs' : Nat} {pc : Int} {ls : Zl} {st rest : List Zv}
def cw_ (T : Zt) (k : Nat) (i : Int) (g : Int → Int) : Zt := fun k' i' j' => if k' = k ∧ i' = i then (if j' = -1 then 1 else g j') else if k' = k + 50 ∧ i' = i ∧ j' = -1 then 0 else T k' i' j'
theorem cw_s {k : Nat} {i : Int} {g : Int → Int} {j : Int} (h : 0 ≤ j) : cw_ T k i g k i j = g j := sorry
theorem cw_o {k k' : Nat} {i i' : Int} {g : Int → Int} (h : ¬ (k' = k ∧ i' = i)) (h2 : ¬ (k' = k + 50 ∧ i' = i)) : cw_ T k i g k' i' = T k' i' := sorry
theorem cw_n {k k' : Nat} {i i' j : Int} {g : Int → Int} (h : ¬ (k' = k ∧ i' = i)) (h2 : j ≠ -1) : cw_ T k i g k' i' j = T k' i' j := sorry
theorem al_cw {k : Nat} {i : Int} {g : Int → Int} (k' : Nat) (i' : Int) : al_ (cw_ T k i g) k' i' ↔ (k' = k ∧ i' = i) ∨ (al_ T k' i' ∧ ¬ (k' = k + 50 ∧ i' = i)) := sorry
/-- no local and nothing on the stack is of a kind -/
def nk_ (k : Nat) : List (Option Zv) → Bool
  | [] => true
  | some (.inr (.inr (some (k', _)))) :: r => !(k' == k) && nk_ k r
  | _ :: r => nk_ k r
theorem nk_no {k : Nat} {i : Int} : ∀ {l : List (Option Zv)}, nk_ k l = true → some (vR k i) ∉ l := sorry
theorem fv_ky {k j c k' : Nat} {lo hi x i : Int} (h : (tf_ k)[j]? = some (c, k', lo, hi)) {k2 : Nat} {i2 : Int} (e : fv_ c k' x i = vR k2 i2) : ¬ (150 ≤ k2 ∧ k2 < 154) := sorry
theorem j_conv {k : Nat} {i : Int} {g : Int → Int} (hk : k = 100 ∨ k = 102 ∨ k = 103) (hfr : ¬ al_ T k i) (h0 : ¬ al_ T0 (k + 50) i) (hg : ∀ (j c k1 : Nat) (lo hi : Int), (tf_ k)[j]? = some (c, k1, lo, hi) → ∃ c2 k2 lo2 hi2, (tf_ (k + 50))[j]? = some (c2, k2, lo2, hi2) ∧ fv_ c k1 (g j) i = fv_ c2 k2 (T (k + 50) i j) i ∧ lo ≤ g j ∧ g j ≤ hi) (hls : nk_ (k + 50) ls = true) (hst : nk_ (k + 50) (st.map some) = true) (kk : J_ Y T0 P bc bs pc ls (vR k i :: st) (cw_ T k i g)) : J_ Y T0 P bc bs pc ls (vR (k + 50) i :: st) T := sorry
end JP


-- references into rows, casts, clones, copies of rows
section JQ
variable {Y Yc : Zm} {T0 T : Zt} {P : Zt → Option Zv → Prop} {bc bs bc' bs' : Nat} {pc : Int} {ls : Zl} {st rest : List Zv}
theorem j_castA {idx k : Nat} {mo : Option Int} {lo hi i : Int} (hp : 0 ≤ pc) (ha : ta_ k = some (1, mo, lo, hi)) (hcl : Cond.classLink Y.1 idx "[I" ∈ lw_g) (hd : decode Y.2.1 pc.toNat = .ok (.checkcast idx, 3)) (kk : J_ Y T0 P bc bs (pc + 3) ls (vR k i :: st) T) : J_ Y T0 P bc bs pc ls (vR k i :: st) T := sorry
/-- a thing is put into the rows competitions and matches, at its own number -/
theorem j_aast {k ko : Nat} {n : Option Int} {lo hi i x : Int} (hp : 0 ≤ pc) (hk : (k = 521 ∧ ko = 100) ∨ (k = 523 ∧ ko = 102)) (ha : ta_ k = some (ko / 2 - 46, n, lo, hi)) (hd : decode Y.2.1 pc.toNat = .ok (.aastore, 1)) (h1 : 0 ≤ x) (h2 : x < ln_ T k i) (hlh : lo ≤ 1 ∧ 1 ≤ hi) (kk : J_ Y T0 P bc bs (pc + 1) ls st (up_ T k i x 1)) : J_ Y T0 P bc bs pc ls (vR ko x :: vI x :: vR k i :: st) T := sorry
end JQ
theorem im_ev (n : Nat) : im_ (2 * n) = false := sorry
section JR2
variable {Y Yc : Zm} {T0 T : Zt} {P : Zt → Option Zv → Prop} {bc bs bc' bs' : Nat} {pc : Int} {ls : Zl} {st rest : List Zv}
theorem j_mono (h1 : bc' ≤ bc) (h2 : bs' ≤ bs) (k : J_ Y T0 P bc' bs' pc ls st T) : J_ Y T0 P bc bs pc ls st T := sorry
theorem nv_fr {U : Zt} {n : Int} (h : U = nv_ T n) : fr_ [(190, []), (191, [0])] T U := sorry
theorem nv_t9 {U : Zt} {n : Int} (h : U = nv_ T n) : U 191 0 0 = T 191 0 0 + 1 := sorry
theorem nv_tl {U : Zt} {n : Int} (h : U = nv_ T n) : U 190 (T 191 0 0) (-2) = n := sorry
theorem nv_to {U : Zt} {n : Int} (h : U = nv_ T n) (x j : Int) (hx : x ≠ T 191 0 0) : U 190 x j = T 190 x j := sorry
theorem nu_fr {U : Zt} {k : Nat} {i n : Int} {f : Int → Int} (h : U = nu_ T k i n f) : fr_ [(k, [])] T U := sorry
theorem nu_tz {U : Zt} {k : Nat} {i n : Int} (h : U = nu_ T k i n (fun _ => 0)) (j : Int) (hj : 0 ≤ j) : U k i j = 0 := sorry
theorem nu_to {U : Zt} {k : Nat} {i n : Int} {f : Int → Int} (h : U = nu_ T k i n f) (k' : Nat) (i' j : Int) (hx : ¬ (k' = k ∧ i' = i)) : U k' i' j = T k' i' j := sorry
theorem nu_tv {U : Zt} {k : Nat} {i n : Int} {f : Int → Int} (h : U = nu_ T k i n f) : U k i (-1) = 1 := sorry
theorem fv5_ {k' : Nat} {x i : Int} (h : 0 ≤ x) : fv_ 5 k' (x + 1) i = vR k' x := sorry
theorem nf_0 (i : Int) (ad : Nat → Int → Nat) (j : Nat) (h : j < 9) : defaultValue (tyX0 j) = vp_V (rw_fs 0 ad i) j := sorry
theorem nf_2 (i : Int) (ad : Nat → Int → Nat) (j : Nat) (h : j < 11) : defaultValue (tyX2 j) = vp_V (rw_fs 2 ad i) j := sorry
theorem nf_3 (i : Int) (ad : Nat → Int → Nat) (j : Nat) (h : j < 18) : defaultValue (tyX3 j) = vp_V (rw_fs 3 ad i) j := sorry
/-- a part of a row is copied into another -/
def cp_ (T : Zt) (a b n : Int) : Zt := fun k i j => if k = 190 ∧ i = b ∧ 0 ≤ j ∧ j < n then T 190 a j else T k i j
theorem cp_n {a b n : Int} {k : Nat} {i j : Int} (h : ¬ (k = 190 ∧ i = b ∧ 0 ≤ j ∧ j < n)) : cp_ T a b n k i j = T k i j := sorry
theorem al_cp {a b n : Int} (k : Nat) (i : Int) : al_ (cp_ T a b n) k i ↔ al_ T k i := sorry
theorem ok_cp (hT : ok_T T) {a b n : Int} : ok_T (cp_ T a b n) := sorry
theorem cp_fr {U : Zt} {a b n : Int} (h : U = cp_ T a b n) : fr_ [(190, [])] T U := sorry
theorem cp_l {U : Zt} {a b n : Int} (h : U = cp_ T a b n) (x : Int) : U 190 x (-2) = T 190 x (-2) := sorry
theorem cp_o {U : Zt} {a b n : Int} (h : U = cp_ T a b n) (x j : Int) (hx : x ≠ b) : U 190 x j = T 190 x j := sorry
theorem j_acp {idx : Nat} {a b n : Int} (hp : 0 ≤ pc) (h0 : 0 ≤ n) (h1 : n ≤ T 190 a (-2)) (h2 : n ≤ T 190 b (-2)) (hml : Cond.methodLink Y.1 idx arraycopyName ∈ lw_g) (hna : Cond.native arraycopyName ∈ lw_g) (hst : Cond.static arraycopyName ∈ lw_g) (hin : Cond.initialized "java/lang/System" ∈ lw_g) (hd : decode Y.2.1 pc.toNat = .ok (.invokestatic idx, 3)) (hf : 1 ≤ Y.2.2.2.2.frames) (hlo : 8 + (nativeFrameWords "java/lang/System" "arraycopy" 5 + 11) ≤ Y.2.2.2.2.locals) (hrest : st.length ≤ 4) (kk : J_ Y T0 P bc bs (pc + 3) ls st (cp_ T a b n)) : J_ Y T0 P bc bs pc ls (vI n :: vI 0 :: vR 190 b :: vI 0 :: vR 190 a :: st) T := sorry
end JR2


abbrev cJ7_copyOf_59c91 : ByteArray := prog_21_method_123_code
def yJ7_copyOf_59c91 : MethodName := ⟨RJ7, "copyOf", "([II)[I"⟩
def zJ7_copyOf_59c91 (sl : Nat) : Zm := (RJ7, cJ7_copyOf_59c91, 3, (some (.array .int)), { frames := 1, cells := 1, slots := 2 * sl, locals := 70 })
abbrev po_J7_copyOf_59c91 (T : Zt) (sl : Nat) (a : Int) (n : Int) : Zt → Option Zv → Prop := fun T' r => r = some (vR 190 (T 191 0 0)) ∧ fr_ [(190, []), (191, [0])] T T' ∧ T' 191 0 0 = T 191 0 0 + 1 ∧ T' 190 (T 191 0 0) (-2) = n ∧ ∀ x j, x ≠ T 191 0 0 → T' 190 x j = T 190 x j
set_option maxHeartbeats 4000000 in
theorem ct_J7_copyOf_59c91 {T : Zt} {sl : Nat} {a : Int} {n : Int} (h1 : T 190 a (-2) < n ∧ n ≤ 100000 ∧ 0 ≤ T 190 a (-2)) (h2 : n.toNat ≤ 2 * sl) (h3 : a < T 191 0 0) : Ct_ yJ7_copyOf_59c91 (zJ7_copyOf_59c91 sl) T [vR 190 a, vI n] (po_J7_copyOf_59c91 T sl a n) := sorry
/-- only what has the index p has changed, rows of any length aside -/
def oq_ (T T1 : Zt) (p : Int) : Prop := ∀ k i j, i ≠ p → k ≠ 190 → k ≠ 191 → T1 k i j = T k i j
theorem oq_r {T : Zt} {p : Int} : oq_ T T p := sorry
theorem oq_u {T T1 T2 : Zt} {p j v : Int} {k : Nat} (h : oq_ T T1 p) (e : T2 = up_ T1 k p j v) : oq_ T T2 p := sorry
theorem oq_i {T T1 T2 : Zt} {p : Int} (h : oq_ T T1 p) (g : oi_ T1 T2 p) : oq_ T T2 p := sorry
theorem oq_t {T T1 T2 : Zt} {p : Int} (h : oq_ T T1 p) (g : oq_ T1 T2 p) : oq_ T T2 p := sorry
theorem oq_9 {T T1 T2 : Zt} {p : Int} (h : oq_ T T1 p) (g : fr_ [(190, []), (191, [0])] T1 T2) : oq_ T T2 p := sorry
theorem oq_1 {T T1 T2 : Zt} {p : Int} (h : oq_ T T1 p) (g : fr_ [(190, [])] T1 T2) : oq_ T T2 p := sorry
/-- the lengths that a log has -/
def lz_ (x : Int) : Prop := x = 16 ∨ x = 32 ∨ x = 64 ∨ x = 128 ∨ x = 256 ∨ x = 512 ∨ x = 1024 ∨ x = 2048
theorem lz_b {x : Int} (h : lz_ x) : 16 ≤ x ∧ x ≤ 2048 := sorry
theorem lz_h {x : Int} (h : lz_ x) (g : x < 2048) : x ≤ 1024 := sorry
theorem lz_d {x : Int} (h : lz_ x) (g : x < 2048) : lz_ (2 * x) := sorry
theorem oq_w {T T1 T2 : Zt} {p i j v : Int} (h : oq_ T T1 p) (e : T2 = up_ T1 190 i j v) : oq_ T T2 p := sorry
abbrev cX3_writeRow : ByteArray := prog_5_method_31_code
def yX3_writeRow : MethodName := ⟨RX3, "writeRow", "([IIIIII)V"⟩
def zX3_writeRow : Zm := (RX3, cX3_writeRow, 6, none, { frames := 0, cells := 0, slots := 0, locals := 0 })
abbrev po_X3_writeRow (T : Zt) (a : Int) (i k s v w : Int) : Zt → Option Zv → Prop := fun T' r => r = none ∧ fr_ [(190, [])] T T' ∧ (∀ x, T' 190 x (-2) = T 190 x (-2)) ∧ ∀ x j, x ≠ a → T' 190 x j = T 190 x j
set_option maxHeartbeats 4000000 in
theorem ct_X3_writeRow {T : Zt} {a : Int} {i k s v w : Int} (h1 : 0 ≤ i ∧ i ≤ 1000 ∧ i * 4 + 3 < T 190 a (-2)) : Ct_ yX3_writeRow zX3_writeRow T [vR 190 a, vI i, vI k, vI s, vI v, vI w] (po_X3_writeRow T a i k s v w) := sorry
abbrev cX3_keepRow : ByteArray := prog_5_method_29_code
def yX3_keepRow : MethodName := ⟨RX3, "keepRow", "(IIII)V"⟩
def zX3_keepRow : Zm := (RX3, cX3_keepRow, 5, none, { frames := 2, cells := 1, slots := 2048, locals := 92 })
set_option maxRecDepth 100000 in
theorem cl_X3_161 : cs_ RX3 161 yX3_writeRow zX3_writeRow 6 := sorry
set_option maxRecDepth 100000 in
theorem cl_X3_157 (sl : Nat) : cs_ RX3 157 yJ7_copyOf_59c91 (zJ7_copyOf_59c91 sl) 2 := sorry
theorem fr5_X3_36 : fr5_ RX3 36 3 14 := sorry
abbrev po_X3_keepRow (T : Zt) (p : Int) (k s v w : Int) : Zt → Option Zv → Prop := fun T' r => r = none ∧ fr_ [(103, [14, 15]), (190, []), (191, [0])] T T' ∧ (oq_ T T' p ∧ T' 103 p 15 = T 103 p 15 + 1 ∧ (∀ x, x < T 191 0 0 → T' 190 x (-2) = T 190 x (-2)) ∧ T 191 0 0 ≤ T' 191 0 0 ∧ T' 191 0 0 ≤ T 191 0 0 + 1 ∧ lz_ (T' 190 (T' 103 p 14) (-2)) ∧ T' 103 p 14 < T' 191 0 0 ∧ 4 * (T 103 p 15 + 1) ≤ T' 190 (T' 103 p 14) (-2) ∧ T' 190 (T' 103 p 14) (-2) ≤ 2 * T 190 (T 103 p 14) (-2))
set_option maxHeartbeats 4000000 in
theorem ct_X3_keepRow {T : Zt} {p : Int} {k s v w : Int} (h1 : 0 ≤ T 103 p 15 ∧ T 103 p 15 < 512 ∧ 4 * T 103 p 15 ≤ T 190 (T 103 p 14) (-2)) (h2 : T 103 p 14 < T 191 0 0 ∧ T 191 0 0 ≤ 2000000000 ∧ -2147483648 ≤ T 103 p 14) (hz9 : lz_ (T 190 (T 103 p 14) (-2))) : Ct_ yX3_keepRow zX3_keepRow T [vR 103 p, vI k, vI s, vI v, vI w] (po_X3_keepRow T p k s v w) := sorry
def zX3_keepRow0 : Zm := (RX3, cX3_keepRow, 5, none, { frames := 2, cells := 0, slots := 0, locals := 92 })
abbrev po_X3_keepRow0 (T : Zt) (p : Int) (k s v w : Int) : Zt → Option Zv → Prop := fun T' r => r = none ∧ fr_ [(103, [15]), (190, [])] T T' ∧ (oq_ T T' p ∧ T' 103 p 15 = T 103 p 15 + 1 ∧ (∀ x, x < T 191 0 0 → T' 190 x (-2) = T 190 x (-2)) ∧ True)
set_option maxHeartbeats 4000000 in
theorem ct_X3_keepRow0 {T : Zt} {p : Int} {k s v w : Int} (h1 : 0 ≤ T 103 p 15 ∧ T 103 p 15 < 512 ∧ 4 * T 103 p 15 ≤ T 190 (T 103 p 14) (-2)) (h2 : T 103 p 14 < T 191 0 0 ∧ T 191 0 0 ≤ 2000000000 ∧ -2147483648 ≤ T 103 p 14) (h3 : 4 * T 103 p 15 + 4 ≤ T 190 (T 103 p 14) (-2)) : Ct_ yX3_keepRow zX3_keepRow0 T [vR 103 p, vI k, vI s, vI v, vI w] (po_X3_keepRow0 T p k s v w) := sorry
abbrev cX3_putAside : ByteArray := prog_5_method_30_code
def yX3_putAside : MethodName := ⟨RX3, "putAside", "(IIII)V"⟩
def zX3_putAside0 : Zm := (RX3, cX3_putAside, 5, none, { frames := 2, cells := 0, slots := 0, locals := 92 })
abbrev po_X3_putAside0 (T : Zt) (p : Int) (k s v w : Int) : Zt → Option Zv → Prop := fun T' r => r = none ∧ fr_ [(103, [17]), (190, [])] T T' ∧ (oq_ T T' p ∧ T' 103 p 17 = T 103 p 17 + 1 ∧ (∀ x, x < T 191 0 0 → T' 190 x (-2) = T 190 x (-2)) ∧ True)
set_option maxHeartbeats 4000000 in
theorem ct_X3_putAside0 {T : Zt} {p : Int} {k s v w : Int} (h1 : 0 ≤ T 103 p 17 ∧ T 103 p 17 < 512 ∧ 4 * T 103 p 17 ≤ T 190 (T 103 p 16) (-2)) (h2 : T 103 p 16 < T 191 0 0 ∧ T 191 0 0 ≤ 2000000000 ∧ -2147483648 ≤ T 103 p 16) (h3 : 4 * T 103 p 17 + 4 ≤ T 190 (T 103 p 16) (-2)) : Ct_ yX3_putAside zX3_putAside0 T [vR 103 p, vI k, vI s, vI v, vI w] (po_X3_putAside0 T p k s v w) := sorry
def zX3_putAsideD (sl : Nat) : Zm := (RX3, cX3_putAside, 5, none, { frames := 2, cells := 1, slots := 2 * sl, locals := 92 })
theorem fr5_X3_39 : fr5_ RX3 39 3 16 := sorry
abbrev po_X3_putAsideD (T : Zt) (p : Int) (sl : Nat) (k s v w : Int) : Zt → Option Zv → Prop := fun T' r => r = none ∧ fr_ [(103, [16, 17]), (190, []), (191, [0])] T T' ∧ (oq_ T T' p ∧ T' 103 p 17 = T 103 p 17 + 1 ∧ (∀ x, x < T 191 0 0 → T' 190 x (-2) = T 190 x (-2)) ∧ T 191 0 0 ≤ T' 191 0 0 ∧ T' 191 0 0 ≤ T 191 0 0 + 1 ∧ lz_ (T' 190 (T' 103 p 16) (-2)) ∧ T' 103 p 16 < T' 191 0 0 ∧ 4 * (T 103 p 17 + 1) ≤ T' 190 (T' 103 p 16) (-2) ∧ T' 190 (T' 103 p 16) (-2) ≤ 2 * T 190 (T 103 p 16) (-2))
set_option maxHeartbeats 4000000 in
theorem ct_X3_putAsideD {T : Zt} {p : Int} {sl : Nat} {k s v w : Int} (h1 : 0 ≤ T 103 p 17 ∧ T 103 p 17 < 512 ∧ 4 * T 103 p 17 ≤ T 190 (T 103 p 16) (-2)) (h2 : T 103 p 16 < T 191 0 0 ∧ T 191 0 0 ≤ 2000000000 ∧ -2147483648 ≤ T 103 p 16) (hz9 : lz_ (T 190 (T 103 p 16) (-2))) (hsl : T 190 (T 103 p 16) (-2) ≤ (sl : Int)) : Ct_ yX3_putAside (zX3_putAsideD sl) T [vR 103 p, vI k, vI s, vI v, vI w] (po_X3_putAsideD T p sl k s v w) := sorry
abbrev po_X3_brokenLaw_k (T : Zt) (p : Int) (k s a b : Int) : Zt → Option Zv → Prop := fun T' r => T = T' ∧ ∃ x : Int, r = some (vI x) ∧ (0 ≤ x ∧ x ≤ 7 ∧ (x = 0 → ((k = 0 ∨ (0 ≤ s ∧ s ≤ 1)) ∧ ((T 401 (T 103 p 0) 0 = 0 ∧ 0 ≤ k ∧ k ≤ 5) ∨ (T 401 (T 103 p 0) 0 = 1 ∧ (k = 1 ∨ k = 5)) ∨ (T 401 (T 103 p 0) 0 = 2 ∧ (k = 1 ∨ k = 6)) ∨ (¬ T 401 (T 103 p 0) 0 = 0 ∧ ¬ T 401 (T 103 p 0) 0 = 1 ∧ ¬ T 401 (T 103 p 0) 0 = 2 ∧ 1 ≤ k ∧ k ≤ 4))) ∧ T 103 p 3 = 0))
set_option maxHeartbeats 4000000 in
theorem ct_X3_brokenLaw_k {T : Zt} {p : Int} {k s a b : Int} : Ct_ yX3_brokenLaw zX3_brokenLaw T [vR 103 p, vI k, vI s, vI a, vI b] (po_X3_brokenLaw_k T p k s a b) := sorry
abbrev cX3_isSameRow : ByteArray := prog_5_method_32_code
def yX3_isSameRow : MethodName := ⟨RX3, "isSameRow", "(IIIII)Z"⟩
def zX3_isSameRow : Zm := (RX3, cX3_isSameRow, 6, (some .boolean), { frames := 0, cells := 0, slots := 0, locals := 0 })
abbrev po_X3_isSameRow (T : Zt) (p : Int) (i k s v w : Int) : Zt → Option Zv → Prop := fun T' r => T = T' ∧ ∃ x : Int, r = some (vI x) ∧ (0 ≤ x ∧ x ≤ 1)
set_option maxHeartbeats 4000000 in
theorem ct_X3_isSameRow {T : Zt} {p : Int} {i k s v w : Int} (h1 : 0 ≤ i ∧ i ≤ 1000 ∧ i * 4 + 3 < T 190 (T 103 p 14) (-2)) : Ct_ yX3_isSameRow zX3_isSameRow T [vR 103 p, vI i, vI k, vI s, vI v, vI w] (po_X3_isSameRow T p i k s v w) := sorry
abbrev cX3_takeOut : ByteArray := prog_5_method_33_code
def yX3_takeOut : MethodName := ⟨RX3, "takeOut", "(I)V"⟩
def zX3_takeOut : Zm := (RX3, cX3_takeOut, 3, none, { frames := 0, cells := 0, slots := 0, locals := 0 })
abbrev po_X3_takeOut (T : Zt) (p : Int) (i : Int) : Zt → Option Zv → Prop := fun T' r => r = none ∧ fr_ [(103, [15]), (190, [])] T T' ∧ (oq_ T T' p ∧ T' 103 p 15 = T 103 p 15 - 1 ∧ ∀ x, T' 190 x (-2) = T 190 x (-2))
set_option maxHeartbeats 4000000 in
theorem ct_X3_takeOut {T : Zt} {p : Int} {i : Int} (h1 : 0 ≤ i ∧ i < T 103 p 15 ∧ T 103 p 15 ≤ 1000 ∧ 4 * T 103 p 15 ≤ T 190 (T 103 p 14) (-2)) : Ct_ yX3_takeOut zX3_takeOut T [vR 103 p, vI i] (po_X3_takeOut T p i) := sorry
abbrev cX3_putInPlace : ByteArray := prog_5_method_34_code
def yX3_putInPlace : MethodName := ⟨RX3, "putInPlace", "(IIIII)V"⟩
def zX3_putInPlace : Zm := (RX3, cX3_putInPlace, 6, none, { frames := 1, cells := 0, slots := 0, locals := 25 })
abbrev po_X3_putInPlace (T : Zt) (p : Int) (i k s v w : Int) : Zt → Option Zv → Prop := fun T' r => r = none ∧ fr_ [(190, [])] T T' ∧ ∀ x, T' 190 x (-2) = T 190 x (-2)
set_option maxHeartbeats 4000000 in
theorem ct_X3_putInPlace {T : Zt} {p : Int} {i k s v w : Int} (h1 : 0 ≤ i ∧ i ≤ 1000 ∧ i * 4 + 3 < T 190 (T 103 p 14) (-2)) : Ct_ yX3_putInPlace zX3_putInPlace T [vR 103 p, vI i, vI k, vI s, vI v, vI w] (po_X3_putInPlace T p i k s v w) := sorry
theorem lz_2 {x y : Int} (h : lz_ x) (g : lz_ y) (a : x < y) (b : y ≤ 2 * x) : y = 2 * x := sorry
abbrev cX3_runAnew : ByteArray := prog_5_method_35_code
def yX3_runAnew : MethodName := ⟨RX3, "runAnew", "()I"⟩
def zX3_runAnew : Zm := (RX3, cX3_runAnew, 8, (some .int), { frames := 5, cells := 127, slots := 4064, locals := 116 })
set_option maxRecDepth 100000 in
theorem cl_X3_171 : cv_ RX3 171 yX3_brokenLaw zX3_brokenLaw 3 4 := sorry
set_option maxRecDepth 100000 in
theorem cl_X3_182_zX3_putAside0 : cv_ RX3 182 yX3_putAside zX3_putAside0 3 4 := sorry
set_option maxRecDepth 100000 in
theorem cl_X3_182_zX3_putAsideD (sl : Nat) : cv_ RX3 182 yX3_putAside (zX3_putAsideD sl) 3 4 := sorry
set_option maxRecDepth 100000 in
theorem cl_X3_175 : cv_ RX3 175 yX3_carryOut zX3_carryOut 3 4 := sorry
set_option maxRecDepth 100000 in
theorem cl_X3_179_zX3_keepRow0 : cv_ RX3 179 yX3_keepRow zX3_keepRow0 3 4 := sorry
set_option maxRecDepth 100000 in
theorem cl_X3_168 : cv_ RX3 168 yX3_backToBeginning zX3_backToBeginning 3 0 := sorry
abbrev po_X3_runAnew (T : Zt) (p : Int) : Zt → Option Zv → Prop := fun T' r => ∃ x : Int, r = some (vI x) ∧ fr_ [(103, [3, 4, 5, 15, 16, 17]), (466, []), (467, []), (468, []), (469, []), (472, []), (473, []), (470, []), (471, []), (190, []), (191, [0])] T T' ∧ oq_ T T' p ∧ (∀ x, x < T 191 0 0 → T' 190 x (-2) = T 190 x (-2)) ∧ (0 ≤ T' 103 p 15 ∧ 0 ≤ T' 103 p 17 ∧ T' 103 p 15 + T' 103 p 17 = T 103 p 15 + T 103 p 17) ∧ (T 191 0 0 ≤ T' 191 0 0 ∧ T' 191 0 0 ≤ T 191 0 0 + 512) ∧ lz_ (T' 190 (T' 103 p 16) (-2)) ∧ (4 * T' 103 p 17 ≤ T' 190 (T' 103 p 16) (-2) ∧ T' 103 p 16 < T' 191 0 0 ∧ 4 * T' 103 p 15 ≤ T' 190 (T 103 p 14) (-2)) ∧ (T' 103 p 3 = 0 → 1 ≤ T' 470 p 0 ∧ 1 ≤ T' 470 p 1)
set_option maxHeartbeats 4000000 in
theorem ct_X3_runAnew {T : Zt} {p : Int} (hf : 1 ≤ T 401 (T 103 p 0) 9 ∧ T 401 (T 103 p 0) 9 ≤ 6) (h1 : 0 ≤ T 103 p 15 ∧ 0 ≤ T 103 p 17 ∧ T 103 p 15 + T 103 p 17 ≤ 512) (h2 : 4 * T 103 p 15 ≤ T 190 (T 103 p 14) (-2) ∧ T 190 (T 103 p 14) (-2) ≤ 2048 ∧ 4 * T 103 p 17 ≤ T 190 (T 103 p 16) (-2)) (hz9 : lz_ (T 190 (T 103 p 16) (-2))) (h4 : T 103 p 14 < T 191 0 0 ∧ T 103 p 16 < T 191 0 0 ∧ T 191 0 0 ≤ 1000000000 ∧ -2147483648 ≤ T 103 p 14 ∧ -2147483648 ≤ T 103 p 16) : Ct_ yX3_runAnew zX3_runAnew T [vR 103 p] (po_X3_runAnew T p) := sorry
theorem oi_n {T T1 T2 : Zt} {p : Int} {k : Nat} (h : oi_ T T1 p) (e : ∀ k' i' j, ¬ (k' = k ∧ i' = p) → T2 k' i' j = T1 k' i' j) : oi_ T T2 p := sorry
theorem oq_n {T T1 T2 : Zt} {p : Int} {k : Nat} (h : oq_ T T1 p) (e : ∀ k' i' j, ¬ (k' = k ∧ i' = p) → T2 k' i' j = T1 k' i' j) : oq_ T T2 p := sorry
abbrev cX2_init : ByteArray := prog_4_method_1_code
def yX2_init : MethodName := ⟨RX2, "<init>", "(LSportsHouse$Competition;IIIII)V"⟩
def zX2_init : Zm := (RX2, cX2_init, 7, none, { frames := 1, cells := 2, slots := 23, locals := 30 })
theorem fW_X2_9 : fW_ RX2 9 2 6 true := sorry
theorem fW_X2_15 : fW_ RX2 15 2 7 true := sorry
theorem fW_X2_18 : fW_ RX2 18 2 8 false := sorry
theorem fW_X2_22 : fW_ RX2 22 2 9 false := sorry
theorem fW_X2_25 : fW_ RX2 25 2 0 false := sorry
theorem fW_X2_29 : fW_ RX2 29 2 1 true := sorry
theorem fW_X2_32 : fW_ RX2 32 2 2 true := sorry
theorem fW_X2_35 : fW_ RX2 35 2 3 true := sorry
theorem fW_X2_38 : fW_ RX2 38 2 4 true := sorry
theorem fW_X2_41 : fW_ RX2 41 2 5 true := sorry
abbrev po_X2_init (T : Zt) (n : Int) (c : Int) (m u h a d : Int) : Zt → Option Zv → Prop := fun T' r => r = none ∧ fr_ [(152, []), (448, []), (449, [])] T T' ∧ (oi_ T T' n ∧ (T' 152 n 0 = c + 1 ∧ T' 152 n 1 = m ∧ T' 152 n 2 = u ∧ T' 152 n 3 = h ∧ T' 152 n 4 = a ∧ T' 152 n 5 = d) ∧ (T' 152 n 6 = -1 ∧ T' 152 n 7 = -1 ∧ T' 152 n 8 = n + 1 ∧ T' 152 n 9 = n + 1 ∧ T' 152 n 10 = T 152 n 10) ∧ (∀ j, 0 ≤ j → T' 448 n j = 0) ∧ ∀ j, 0 ≤ j → T' 449 n j = 0)
set_option maxHeartbeats 4000000 in
theorem ct_X2_init {T : Zt} {n : Int} {c : Int} {m u h a d : Int} (h1 : 0 ≤ n ∧ n ≤ 399 ∧ 0 ≤ c ∧ c ≤ 3 ∧ 0 ≤ m ∧ m ≤ 399 ∧ 0 ≤ h ∧ h ≤ 11 ∧ 0 ≤ a ∧ a ≤ 11 ∧ 0 ≤ d ∧ d ≤ 999) (hf8 : ¬ T 448 n (-1) = 1) (hf9 : ¬ T 449 n (-1) = 1) : Ct_ yX2_init zX2_init T [vR 152 n, vR 100 c, vI m, vI u, vI h, vI a, vI d] (po_X2_init T n c m u h a d) := sorry
abbrev po_J7_fill_404 (T : Zt) (p : Int) (v : Int) : Zt → Option Zv → Prop := fun T' r => r = none ∧ fr_ [(404, [])] T T' ∧ oi_ T T' p ∧ ∀ j, 0 ≤ j → j < 12 → T' 404 p j = v
set_option maxHeartbeats 4000000 in
theorem ct_J7_fill_404 {T : Zt} {p : Int} {v : Int} (h1 : (-1) ≤ v ∧ v ≤ 11) : Ct_ yJ7_fill_53178 zJ7_fill_53178 T [vR 404 p, vI v] (po_J7_fill_404 T p v) := sorry
abbrev cX0_init : ByteArray := prog_2_method_1_code
def yX0_init : MethodName := ⟨RX0, "<init>", "(I[I[I)V"⟩
def zX0_init : Zm := (RX0, cX0_init, 4, none, { frames := 1, cells := 2, slots := 25, locals := 30 })
theorem fW_X0_9 : fW_ RX0 9 0 3 false := sorry
theorem fW_X0_15 : fW_ RX0 15 0 4 false := sorry
theorem fW_X0_18 : fW_ RX0 18 0 0 true := sorry
theorem fW_X0_22 : fW_ RX0 22 0 1 false := sorry
theorem fW_X0_25 : fW_ RX0 25 0 2 false := sorry
set_option maxRecDepth 100000 in
theorem cl_X0_28 : cs_ RX0 28 yJ7_fill_53178 zJ7_fill_53178 2 := sorry
abbrev po_X0_init (T : Zt) (n : Int) (m : Int) : Zt → Option Zv → Prop := fun T' r => r = none ∧ fr_ [(150, []), (403, []), (404, [])] T T' ∧ (oi_ T T' n ∧ (T' 150 n 0 = m ∧ T' 150 n 1 = n + 1 ∧ T' 150 n 2 = n + 1 ∧ T' 150 n 3 = n + 1 ∧ T' 150 n 4 = n + 1) ∧ (T' 150 n 5 = T 150 n 5 ∧ T' 150 n 6 = T 150 n 6 ∧ T' 150 n 7 = T 150 n 7 ∧ T' 150 n 8 = T 150 n 8) ∧ ∀ j, 0 ≤ j → j < 12 → T' 404 n j = -1)
set_option maxHeartbeats 4000000 in
theorem ct_X0_init {T : Zt} {n : Int} {m : Int} (h1 : 0 ≤ n ∧ n ≤ 3 ∧ 0 ≤ m ∧ m ≤ 3) (hf3 : ¬ T 403 n (-1) = 1) (hf4 : ¬ T 404 n (-1) = 1) : Ct_ yX0_init zX0_init T [vR 150 n, vI m, vR 401 n, vR 402 n] (po_X0_init T n m) := sorry
abbrev cX3_init : ByteArray := prog_5_method_1_code
def yX3_init : MethodName := ⟨RX3, "<init>", "([I[I[I)V"⟩
def zX3_init : Zm := (RX3, cX3_init, 4, none, { frames := 1, cells := 10, slots := 111, locals := 30 })
theorem fW_X3_9 : fW_ RX3 9 3 6 false := sorry
theorem fW_X3_15 : fW_ RX3 15 3 7 false := sorry
theorem fW_X3_18 : fW_ RX3 18 3 8 false := sorry
theorem fW_X3_21 : fW_ RX3 21 3 9 false := sorry
theorem fW_X3_24 : fW_ RX3 24 3 10 false := sorry
theorem fW_X3_27 : fW_ RX3 27 3 11 false := sorry
theorem fW_X3_30 : fW_ RX3 30 3 12 false := sorry
theorem fW_X3_33 : fW_ RX3 33 3 13 false := sorry
theorem fW_X3_36 : fW_ RX3 36 3 14 false := sorry
theorem fW_X3_39 : fW_ RX3 39 3 16 false := sorry
theorem fW_X3_42 : fW_ RX3 42 3 0 false := sorry
theorem fW_X3_45 : fW_ RX3 45 3 1 false := sorry
theorem fW_X3_48 : fW_ RX3 48 3 2 false := sorry
abbrev po_X3_init (T : Zt) (n : Int) (c : Int) : Zt → Option Zv → Prop := fun T' r => r = none ∧ fr_ [(153, []), (466, []), (467, []), (468, []), (469, []), (470, []), (471, []), (472, []), (473, []), (190, []), (191, [0])] T T' ∧ (oq_ T T' n ∧ (T' 153 n 0 = c + 1 ∧ T' 153 n 1 = n + 1 ∧ T' 153 n 2 = n + 1 ∧ T' 153 n 14 = T 191 0 0 + 1 ∧ T' 153 n 16 = T 191 0 0 + 2) ∧ (T' 153 n 6 = n + 1 ∧ T' 153 n 7 = n + 1 ∧ T' 153 n 8 = n + 1 ∧ T' 153 n 9 = n + 1 ∧ T' 153 n 10 = n + 1 ∧ T' 153 n 11 = n + 1 ∧ T' 153 n 12 = n + 1 ∧ T' 153 n 13 = n + 1) ∧ (T' 153 n 3 = T 153 n 3 ∧ T' 153 n 4 = T 153 n 4 ∧ T' 153 n 5 = T 153 n 5 ∧ T' 153 n 15 = T 153 n 15 ∧ T' 153 n 17 = T 153 n 17) ∧ T' 190 (T 191 0 0) (-2) = 32 ∧ T' 190 (T 191 0 0 + 1) (-2) = 16 ∧ T' 191 0 0 = T 191 0 0 + 2 ∧ ∀ x, x < T 191 0 0 → T' 190 x (-2) = T 190 x (-2))
set_option maxHeartbeats 4000000 in
theorem ct_X3_init {T : Zt} {n : Int} {c : Int} (h1 : 0 ≤ n ∧ n ≤ 399 ∧ 0 ≤ c ∧ c ≤ 3 ∧ 0 ≤ T 191 0 0 ∧ T 191 0 0 ≤ 1000000000) (hf : ∀ k : Nat, 460 ≤ k → k < 480 → ¬ T k n (-1) = 1) : Ct_ yX3_init zX3_init T [vR 153 n, vR 401 c, vR 448 n, vR 449 n] (po_X3_init T n c) := sorry
theorem cv3_ {k : Nat} {x n : Int} (h : 1 ≤ x) : fv_ 3 k (x - 1) n = fv_ 5 k x n := sorry
def g0_ (T : Zt) (n j : Int) : Int := if False then T 150 n j - 1 else T 150 n j
theorem cg_0 {T : Zt} {n : Int} (hT : ok_T T) (hn : 0 ≤ n ∧ n ≤ 2000000000) (e1 : T 150 n 1 = n + 1) (e2 : T 150 n 2 = n + 1) (e3 : T 150 n 3 = n + 1) (e4 : T 150 n 4 = n + 1) : ∀ (j c k1 : Nat) (lo hi : Int), (tf_ 100)[j]? = some (c, k1, lo, hi) → ∃ c2 k2 lo2 hi2, (tf_ (100 + 50))[j]? = some (c2, k2, lo2, hi2) ∧ fv_ c k1 (g0_ T n j) n = fv_ c2 k2 (T (100 + 50) n j) n ∧ lo ≤ g0_ T n j ∧ g0_ T n j ≤ hi := sorry
def g2_ (T : Zt) (n j : Int) : Int := if j = 0 then T 152 n j - 1 else T 152 n j
theorem cg_2 {T : Zt} {n : Int} (hT : ok_T T) (hn : 0 ≤ n ∧ n ≤ 2000000000) (e0 : 1 ≤ T 152 n 0) (e8 : T 152 n 8 = n + 1) (e9 : T 152 n 9 = n + 1) (e10 : T 152 n 10 = 0) : ∀ (j c k1 : Nat) (lo hi : Int), (tf_ 102)[j]? = some (c, k1, lo, hi) → ∃ c2 k2 lo2 hi2, (tf_ (102 + 50))[j]? = some (c2, k2, lo2, hi2) ∧ fv_ c k1 (g2_ T n j) n = fv_ c2 k2 (T (102 + 50) n j) n ∧ lo ≤ g2_ T n j ∧ g2_ T n j ≤ hi := sorry
def g3_ (T : Zt) (n j : Int) : Int := if j = 0 ∨ j = 14 ∨ j = 16 then T 153 n j - 1 else T 153 n j
theorem cg_3 {T : Zt} {n : Int} (hT : ok_T T) (hn : 0 ≤ n ∧ n ≤ 2000000000) (e0 : 1 ≤ T 153 n 0) (e1 : T 153 n 1 = n + 1) (e2 : T 153 n 2 = n + 1) (e6 : T 153 n 6 = n + 1) (e7 : T 153 n 7 = n + 1) (e8 : T 153 n 8 = n + 1) (e9 : T 153 n 9 = n + 1) (e10 : T 153 n 10 = n + 1) (e11 : T 153 n 11 = n + 1) (e12 : T 153 n 12 = n + 1) (e13 : T 153 n 13 = n + 1) (e14 : 1 ≤ T 153 n 14) (e16 : 1 ≤ T 153 n 16) : ∀ (j c k1 : Nat) (lo hi : Int), (tf_ 103)[j]? = some (c, k1, lo, hi) → ∃ c2 k2 lo2 hi2, (tf_ (103 + 50))[j]? = some (c2, k2, lo2, hi2) ∧ fv_ c k1 (g3_ T n j) n = fv_ c2 k2 (T (103 + 50) n j) n ∧ lo ≤ g3_ T n j ∧ g3_ T n j ≤ hi := sorry
theorem cw_fr {T U : Zt} {k : Nat} {i : Int} {g : Int → Int} (h : U = cw_ T k i g) : fr_ [(k, []), (k + 50, [-1])] T U := sorry
theorem cw_ts {T U : Zt} {k : Nat} {i : Int} {g : Int → Int} (h : U = cw_ T k i g) (j : Int) (hj : 0 ≤ j) : U k i j = g j := sorry
theorem cw_to {T U : Zt} {k : Nat} {i : Int} {g : Int → Int} (h : U = cw_ T k i g) (k' : Nat) (i' j : Int) (hi : i' ≠ i) : U k' i' j = T k' i' j := sorry
theorem cw_r {T U : Zt} {k : Nat} {i : Int} {g : Int → Int} (h : U = cw_ T k i g) : ¬ U (k + 50) i (-1) = 1 := sorry
theorem ow_3 {k : Nat} (a : 460 ≤ k) (b : k < 480) : ow_ k = some 103 := sorry
/-- what is sure of a play p, where at most N rows were ever told -/
def Lp_ (N : Int) (T : Zt) (p : Int) : Prop := (0 ≤ T 103 p 15 ∧ 0 ≤ T 103 p 17 ∧ T 103 p 15 + T 103 p 17 ≤ N ∧ 4 * T 103 p 15 ≤ T 190 (T 103 p 14) (-2) ∧ 4 * T 103 p 17 ≤ T 190 (T 103 p 16) (-2) ∧ T 103 p 14 < T 191 0 0 ∧ T 103 p 16 < T 191 0 0 ∧ 0 ≤ T 103 p 0 ∧ T 103 p 0 < T 106 0 2) ∧ lz_ (T 190 (T 103 p 14) (-2)) ∧ lz_ (T 190 (T 103 p 16) (-2)) ∧ (T 103 p 3 = 0 → 1 ≤ T 470 p 0 ∧ 1 ≤ T 470 p 1)
def LP_ (N : Int) (T : Zt) : Prop := ∀ p : Int, 0 ≤ p → p < T 106 0 4 → T 102 p 10 ≠ 0 → Lp_ N T p
/-- rows of any length: what was there keeps its length -/
def lh_ (T T' : Zt) : Prop := (∀ x, x < T 191 0 0 → T' 190 x (-2) = T 190 x (-2)) ∧ T 191 0 0 ≤ T' 191 0 0
theorem lh_r {T : Zt} : lh_ T T := sorry
theorem lh_t {T T1 T2 : Zt} (h : lh_ T T1) (g : lh_ T1 T2) : lh_ T T2 := sorry
theorem lh_f {ws : List (Nat × List Int)} {T T1 T2 : Zt} (h : lh_ T T1) (g : fr_ ws T1 T2) (a : fw_ ws 190 (-2) = false) (b : fw_ ws 191 0 = false) : lh_ T T2 := sorry
theorem lh_u {T T1 T2 : Zt} {k : Nat} {i j v : Int} (h : lh_ T T1) (e : T2 = up_ T1 k i j v) (hk : k < 190) : lh_ T T2 := sorry
theorem Lp_o {N N' : Int} {T T' : Zt} {q : Int} (h : Lp_ N T q) (hN : N ≤ N') (l : lh_ T T') (hc : T 106 0 2 ≤ T' 106 0 2) (o : T' 103 q 0 = T 103 q 0 ∧ T' 103 q 3 = T 103 q 3 ∧ T' 103 q 14 = T 103 q 14 ∧ T' 103 q 15 = T 103 q 15 ∧ T' 103 q 16 = T 103 q 16 ∧ T' 103 q 17 = T 103 q 17 ∧ T' 470 q 0 = T 470 q 0 ∧ T' 470 q 1 = T 470 q 1) : Lp_ N' T' q := sorry
theorem LP_f {ws : List (Nat × List Int)} {N N' : Int} {T T' : Zt} (h : LP_ N T) (hN : N ≤ N') (l : lh_ T T') (f : fr_ ws T T') (w : fw_ ws 106 4 = false ∧ fw_ ws 106 2 = false ∧ fw_ ws 102 10 = false ∧ fw_ ws 103 0 = false ∧ fw_ ws 103 3 = false ∧ fw_ ws 103 14 = false ∧ fw_ ws 103 15 = false ∧ fw_ ws 103 16 = false ∧ fw_ ws 103 17 = false ∧ fw_ ws 470 0 = false ∧ fw_ ws 470 1 = false) : LP_ N' T' := sorry
/-- one play is told of anew, the others stay -/
theorem LP_q {N N' : Int} {T T' : Zt} {m : Int} (h : LP_ N T) (hN : N ≤ N') (l : lh_ T T') (o : ∀ k i j, i ≠ m → k ≠ 190 → k ≠ 191 → k ≠ 106 → T' k i j = T k i j) (hm : T' 106 0 4 = T 106 0 4) (hc : T' 106 0 2 = T 106 0 2) (n : T' 102 m 10 ≠ 0 → Lp_ N' T' m) : LP_ N' T' := sorry
/-- what is not there yet -/
def NR_ (T : Zt) : Prop := (∀ i, ¬ T 150 i (-1) = 1) ∧ (∀ i, ¬ T 152 i (-1) = 1) ∧ (∀ i, ¬ T 153 i (-1) = 1)
def NA_ (T : Zt) : Prop := NR_ T ∧ (∀ i, T 106 0 2 ≤ i → ¬ T 100 i (-1) = 1) ∧ (∀ i, T 106 0 4 ≤ i → ¬ T 102 i (-1) = 1) ∧ ∀ i, (T 106 0 4 ≤ i ∨ T 102 i 10 = 0) → ¬ T 103 i (-1) = 1
theorem NA_f {ws : List (Nat × List Int)} {T T' : Zt} (h : NA_ T) (f : fr_ ws T T') (w : fw_ ws 150 (-1) = false ∧ fw_ ws 152 (-1) = false ∧ fw_ ws 153 (-1) = false ∧ fw_ ws 100 (-1) = false ∧ fw_ ws 102 (-1) = false ∧ fw_ ws 103 (-1) = false ∧ fw_ ws 102 10 = false ∧ fw_ ws 106 4 = false ∧ fw_ ws 106 2 = false) : NA_ T' := sorry
abbrev cX10_event : ByteArray := prog_1_method_23_code
def yX10_event : MethodName := ⟨RX10, "event", "(IIIII)I"⟩
def zX10_event : Zm := (RX10, cX10_event, 8, (some .int), { frames := 5, cells := 1, slots := 2048, locals := 116 })
set_option maxRecDepth 100000 in
theorem cl_X10_282 : cv_ RX10 282 yX3_brokenLaw zX3_brokenLaw 3 4 := sorry
set_option maxRecDepth 100000 in
theorem cl_X10_289 : cv_ RX10 289 yX3_carryOut zX3_carryOut 3 4 := sorry
set_option maxRecDepth 100000 in
theorem cl_X10_292 : cv_ RX10 292 yX3_keepRow zX3_keepRow 3 4 := sorry
abbrev po_X10_event (T : Zt) (N : Int) (m k s a b : Int) : Zt → Option Zv → Prop := fun T' r => ∃ x : Int, r = some (vI x) ∧ fr_ [(106, [5]), (103, [3, 4, 5, 14, 15]), (466, []), (467, []), (468, []), (472, []), (471, []), (469, []), (470, []), (473, []), (190, []), (191, [0])] T T' ∧ LP_ (N + 1) T' ∧ lh_ T T' ∧ T' 191 0 0 ≤ T 191 0 0 + 600
set_option maxHeartbeats 4000000 in
theorem ct_X10_event {T : Zt} {N : Int} {m k s a b : Int} (hka : KA_ T) (hkm : KM_ T) (hkr : KR_ T) (hlp : LP_ N T) (hN : 0 ≤ N ∧ N ≤ 511) (h9 : 0 ≤ T 191 0 0 ∧ T 191 0 0 ≤ 900000000) : Ct_ yX10_event zX10_event T [vR 110 0, vI m, vI k, vI s, vI a, vI b] (po_X10_event T N m k s a b) := sorry
abbrev cX10_review : ByteArray := prog_1_method_24_code
def yX10_review : MethodName := ⟨RX10, "review", "(IIIIII)I"⟩
def zX10_review : Zm := (RX10, cX10_review, 8, (some .int), { frames := 6, cells := 127, slots := 4064, locals := 143 })
set_option maxRecDepth 100000 in
theorem cl_X10_305 : cv_ RX10 305 yX3_isFormed zX3_isFormed 3 2 := sorry
set_option maxRecDepth 100000 in
theorem cl_X10_308 : cv_ RX10 308 yX3_isBounded zX3_isBounded 3 2 := sorry
set_option maxRecDepth 100000 in
theorem cl_X10_311 : cv_ RX10 311 yX3_isSameRow zX3_isSameRow 3 5 := sorry
set_option maxRecDepth 100000 in
theorem cl_X10_315 : cv_ RX10 315 yX3_putInPlace zX3_putInPlace 3 5 := sorry
set_option maxRecDepth 100000 in
theorem cl_X10_302 : cv_ RX10 302 yX3_runAnew zX3_runAnew 3 0 := sorry
set_option maxRecDepth 100000 in
theorem cl_X10_298 : cv_ RX10 298 yX3_takeOut zX3_takeOut 3 1 := sorry
abbrev po_X10_review (T : Zt) (N : Int) (m i k s a b : Int) : Zt → Option Zv → Prop := fun T' r => ∃ x : Int, r = some (vI x) ∧ fr_ [(103, [3, 4, 5, 15, 16, 17]), (466, []), (467, []), (468, []), (469, []), (472, []), (473, []), (470, []), (471, []), (190, []), (191, [0])] T T' ∧ LP_ (N + 1) T' ∧ lh_ T T' ∧ T' 191 0 0 ≤ T 191 0 0 + 600
set_option maxHeartbeats 4000000 in
theorem ct_X10_review {T : Zt} {N : Int} {m i k s a b : Int} (hka : KA_ T) (hkm : KM_ T) (hkr : KR_ T) (hlp : LP_ N T) (hN : 0 ≤ N ∧ N ≤ 511) (h9 : 0 ≤ T 191 0 0 ∧ T 191 0 0 ≤ 900000000) : Ct_ yX10_review zX10_review T [vR 110 0, vI m, vI i, vI k, vI s, vI a, vI b] (po_X10_review T N m i k s a b) := sorry
abbrev cX10_row : ByteArray := prog_1_method_26_code
def yX10_row : MethodName := ⟨RX10, "row", "(III)I"⟩
def zX10_row : Zm := (RX10, cX10_row, 7, (some .int), { frames := 2, cells := 0, slots := 0, locals := 42 })
abbrev po_X10_row (T : Zt) (N : Int) (m i w : Int) : Zt → Option Zv → Prop := fun T' r => T = T' ∧ ∃ x : Int, r = some (vI x) ∧ (True)
set_option maxHeartbeats 4000000 in
theorem ct_X10_row {T : Zt} {N : Int} {m i w : Int} (hka : KA_ T) (hkm : KM_ T) (hkr : KR_ T) (hlp : LP_ N T) (hN : 0 ≤ N ∧ N ≤ 511) (h9 : 0 ≤ T 191 0 0 ∧ T 191 0 0 ≤ 900000000) : Ct_ yX10_row zX10_row T [vR 110 0, vI m, vI i, vI w] (po_X10_row T N m i w) := sorry
abbrev cX10_start : ByteArray := prog_1_method_21_code
def yX10_start : MethodName := ⟨RX10, "start", "(I)I"⟩
def zX10_start : Zm := (RX10, cX10_start, 3, (some .int), { frames := 2, cells := 11, slots := 130, locals := 53 })
set_option maxRecDepth 100000 in
theorem cl_X10_264 : cv_ RX10 264 yX2_hasEnoughListed zX2_hasEnoughListed 2 0 := sorry
set_option maxRecDepth 100000 in
theorem ci_X10_269 : ci_ RX10 269 yX3_init zX3_init 3 := sorry
theorem fr5_X10_272 : fr5_ RX10 272 2 10 := sorry
set_option maxRecDepth 100000 in
theorem cl_X10_276 : cv_ RX10 276 yX3_backToBeginning zX3_backToBeginning 3 0 := sorry
abbrev po_X10_start (T : Zt) (N : Int) (m : Int) : Zt → Option Zv → Prop := fun T' r => ∃ x : Int, r = some (vI x) ∧ fr_ [(153, []), (103, []), (102, [10]), (466, []), (467, []), (468, []), (469, []), (470, []), (471, []), (472, []), (473, []), (190, []), (191, [0])] T T' ∧ LP_ N T' ∧ lh_ T T' ∧ T' 191 0 0 ≤ T 191 0 0 + 600 ∧ NA_ T' ∧ ∀ k i j, i ≠ m → k ≠ 190 → k ≠ 191 → T' k i j = T k i j
set_option maxHeartbeats 4000000 in
theorem ct_X10_start {T : Zt} {N : Int} {m : Int} (hka : KA_ T) (hkm : KM_ T) (hkr : KR_ T) (hlp : LP_ N T) (hN : 0 ≤ N ∧ N ≤ 511) (h9 : 0 ≤ T 191 0 0 ∧ T 191 0 0 ≤ 900000000) (hna : NA_ T) : Ct_ yX10_start zX10_start T [vR 110 0, vI m] (po_X10_start T N m) := sorry
def nm_ (T T' : Zt) (c h a d : Int) : Prop := (T' 106 0 4 = T 106 0 4 + 1 ∧ T 106 0 4 < 400 ∧ h < T 100 c 5 ∧ a < T 100 c 5) ∧ (∀ k i j, k = 102 ∨ k = 152 → i ≠ T 106 0 4 → T' k i j = T k i j) ∧ (∀ j, j ≠ T 106 0 4 → T' 523 0 j = T 523 0 j) ∧ T' 523 0 (T 106 0 4) = 1 ∧ (T' 102 (T 106 0 4) 0 = c ∧ T' 102 (T 106 0 4) 1 = T 106 0 4 ∧ T' 102 (T 106 0 4) 3 = T 403 c h ∧ T' 102 (T 106 0 4) 4 = T 403 c a ∧ T' 102 (T 106 0 4) 5 = d ∧ T' 102 (T 106 0 4) 10 = 0) ∧ NA_ T'
abbrev cX6_addFixture : ByteArray := prog_8_method_4_code
def yX6_addFixture : MethodName := ⟨RX6, "addFixture", "(LSportsHouse$Competition;IIII)V"⟩
def zX6_addFixture : Zm := (RX6, cX6_addFixture, 6, none, { frames := 2, cells := 3, slots := 34, locals := 56 })
set_option maxRecDepth 100000 in
theorem ci_X6_85 : ci_ RX6 85 yX2_init zX2_init 6 := sorry
/-- how far a place is from the round's own, in the circle -/
def lv_ (R r q : Int) : Int := if q = R then 0 else min (max (q - r) (r - q)) (R - max (q - r) (r - q))
theorem lv_R (R r : Int) : lv_ R r R = 0 := sorry
theorem lv_r {R r : Int} (h : 0 ≤ r ∧ r < R) : lv_ R r r = 0 := sorry
theorem em_2 {x R : Int} (h : 0 ≤ x) (g : x < 2 * R) : (x < R ∧ x % R = x) ∨ (R ≤ x ∧ x % R = x - R) := sorry
theorem lv_a {R r k : Int} (hr : 0 ≤ r ∧ r < R) (hk : 1 ≤ k ∧ 2 * k ≤ R) : lv_ R r ((r + k) % R) = k := sorry
theorem lv_b {R r k : Int} (hr : 0 ≤ r ∧ r < R) (hk : 1 ≤ k ∧ 2 * k ≤ R) : lv_ R r ((r - k + R) % R) = k := sorry
def KEc_ (T : Zt) (c : Int) : Prop := ∀ j : Int, 0 ≤ j → j < T 100 c 5 → T 404 c (T 403 c j) = j
theorem KEc_f {ws : List (Nat × List Int)} {T T' : Zt} {c : Int} (h : KEc_ T c) (f : fr_ ws T T') (w : fw_ ws 100 5 = false ∧ (∀ j, fw_ ws 404 j = false) ∧ (∀ j, fw_ ws 403 j = false)) : KEc_ T' c := sorry
/-- the matches that a plan has laid so far, from number f on -/
def RK_ (T : Zt) (c f R r k d : Int) : Prop := (0 ≤ f ∧ f ≤ T 106 0 4 ∧ T 106 0 4 ≤ 400) ∧ (∀ i, f ≤ i → i < T 106 0 4 → T 102 i 0 = c ∧ T 102 i 1 = i ∧ T 102 i 10 = 0 ∧ 0 ≤ T 404 c (T 102 i 3) ∧ 0 ≤ T 404 c (T 102 i 4) ∧ (T 102 i 5 < d ∨ (T 102 i 5 = d ∧ lv_ R r (T 404 c (T 102 i 3)) < k))) ∧ (∀ i j, f ≤ i → i < j → j < T 106 0 4 → T 102 i 3 = T 102 j 3 → T 102 i 5 ≠ T 102 j 5) ∧ (∀ i, 0 ≤ i → i < T 106 0 4 → T 523 0 i ≠ 0) ∧ NA_ T
theorem rb_next {T : Zt} {c f R r k d r' d' : Int} (h : RK_ T c f R r k d) (hd : d < d') : RK_ T c f R r' 0 d' := sorry
theorem rb_add {T T' : Zt} {c f R r k d h a : Int} (hrb : RK_ T c f R r k d) (hke : KEc_ T c) (hh : 0 ≤ h ∧ 0 ≤ a) (hl : lv_ R r h = k) (fr : fr_ [(106, [4]), (523, []), (152, []), (102, []), (448, []), (449, [])] T T') (hx : (T' = T ∧ (T 100 c 5 ≤ h ∨ T 100 c 5 ≤ a ∨ 400 ≤ T 106 0 4)) ∨ nm_ T T' c h a d) : RK_ T' c f R r (k + 1) d ∧ (∀ i j, i < f → T' 102 i j = T 102 i j) ∧ T 106 0 4 ≤ T' 106 0 4 := sorry
abbrev cX0_placeCount : ByteArray := prog_2_method_2_code
def yX0_placeCount : MethodName := ⟨RX0, "placeCount", "()I"⟩
def zX0_placeCount : Zm := (RX0, cX0_placeCount, 1, (some .int), { frames := 0, cells := 0, slots := 0, locals := 0 })
abbrev po_X0_placeCount (T : Zt) (c : Int) : Zt → Option Zv → Prop := fun T' r => T = T' ∧ r = some (vI (T 100 c 5 + an_ (T 100 c 5) 1))
set_option maxHeartbeats 4000000 in
theorem ct_X0_placeCount {T : Zt} {c : Int} : Ct_ yX0_placeCount zX0_placeCount T [vR 100 c] (po_X0_placeCount T c) := sorry
theorem rb_mono {T : Zt} {c f R r k k2 d : Int} (h : RK_ T c f R r k d) (g : k ≤ k2) : RK_ T c f R r k2 d := sorry
abbrev cX6_addRound : ByteArray := prog_8_method_3_code
def yX6_addRound : MethodName := ⟨RX6, "addRound", "(LSportsHouse$Competition;IIZI)V"⟩
def zX6_addRound : Zm := (RX6, cX6_addRound, 12, none, { frames := 3, cells := 18, slots := 204, locals := 81 })
set_option maxRecDepth 100000 in
theorem cl_X6_75 : cv_ RX6 75 yX6_addFixture zX6_addFixture 6 5 := sorry
set_option maxRecDepth 100000 in
theorem cl_X6_63 : cv_ RX6 63 yX0_placeCount zX0_placeCount 0 0 := sorry
theorem mlb {a b A B : Int} (h : 0 ≤ a ∧ a ≤ A) (g : 0 ≤ b ∧ b ≤ B) : 0 ≤ a * b ∧ a * b ≤ A * B := sorry
theorem sc_b {l q R L E b : Int} (hl : 0 ≤ l ∧ l < L) (hq : 0 ≤ q ∧ q < R) (hE : 1 ≤ E) (hb : 0 ≤ b) (h : b + (R * L - 1) * E ≤ 999) : 0 ≤ b + (l * R + q) * E ∧ b + (l * R + q) * E ≤ 999 := sorry
theorem sc_n (l q R E b : Int) : b + (l * R + (q + 1)) * E = b + (l * R + q) * E + E := sorry
theorem sc_l (l q R E b : Int) (h : q = R) : b + ((l + 1) * R + 0) * E = b + (l * R + q) * E := sorry
abbrev cX0_daysFromFirstToLast : ByteArray := prog_2_method_3_code
def yX0_daysFromFirstToLast : MethodName := ⟨RX0, "daysFromFirstToLast", "()I"⟩
def zX0_daysFromFirstToLast : Zm := (RX0, cX0_daysFromFirstToLast, 2, (some .int), { frames := 1, cells := 0, slots := 0, locals := 20 })
set_option maxRecDepth 100000 in
theorem cl_X0_37 : cv_ RX0 37 yX0_placeCount zX0_placeCount 0 0 := sorry
abbrev po_X0_daysFromFirstToLast (T : Zt) (c : Int) : Zt → Option Zv → Prop := fun T' r => T = T' ∧ ∃ x : Int, r = some (vI x) ∧ (x = ((T 100 c 5 + an_ (T 100 c 5) 1 - 1) * T 401 c 6 - 1) * T 401 c 7)
set_option maxHeartbeats 4000000 in
theorem ct_X0_daysFromFirstToLast {T : Zt} {c : Int} (hl : 0 ≤ T 401 c 6 ∧ T 401 c 6 ≤ 4) (hE : 1 ≤ T 401 c 7 ∧ T 401 c 7 ≤ 30) (he : 2 ≤ T 100 c 5) : Ct_ yX0_daysFromFirstToLast zX0_daysFromFirstToLast T [vR 100 c] (po_X0_daysFromFirstToLast T c) := sorry
abbrev cX0_fixtureCount : ByteArray := prog_2_method_4_code
def yX0_fixtureCount : MethodName := ⟨RX0, "fixtureCount", "()I"⟩
def zX0_fixtureCount : Zm := (RX0, cX0_fixtureCount, 1, (some .int), { frames := 0, cells := 0, slots := 0, locals := 0 })
abbrev cX6_schedule : ByteArray := prog_8_method_2_code
def yX6_schedule : MethodName := ⟨RX6, "schedule", "(LSportsHouse$Competition;I)V"⟩
def zX6_schedule : Zm := (RX6, cX6_schedule, 7, none, { frames := 4, cells := 792, slots := 8976, locals := 112 })
set_option maxRecDepth 100000 in
theorem cl_X6_70 : cv_ RX6 70 yX6_addRound zX6_addRound 6 5 := sorry
def DD_ (T : Zt) : Prop := ∀ i j : Int, 0 ≤ i → i < j → j < T 106 0 4 → T 102 i 6 = -1 → T 102 j 6 = -1 → T 102 i 0 = T 102 j 0 → T 102 i 3 = T 102 j 3 → T 102 i 5 ≠ T 102 j 5
theorem DD__f {ws : List (Nat × List Int)} {T T' : Zt} (h : DD_ T) (f : fr_ ws T T') (w : fw_ ws 102 0 = false ∧ fw_ ws 102 3 = false ∧ fw_ ws 102 5 = false ∧ fw_ ws 102 6 = false ∧ fw_ ws 106 4 = false ∧ True) : DD_ T' := sorry
def KP_ (T : Zt) : Prop := ∀ m : Int, 0 ≤ m → m < T 106 0 4 → T 100 (T 102 m 0) 6 = 1
theorem KP__f {ws : List (Nat × List Int)} {T T' : Zt} (h : KP_ T) (f : fr_ ws T T') (w : fw_ ws 102 0 = false ∧ fw_ ws 100 6 = false ∧ fw_ ws 106 4 = false ∧ True) : KP_ T' := sorry
def KB_ (T : Zt) : Prop := ∀ c : Int, 0 ≤ c → c < T 106 0 2 → (0 ≤ T 401 c 6 ∧ T 401 c 6 ≤ 4) ∧ 1 ≤ T 401 c 7 ∧ T 401 c 7 ≤ 30
theorem KB__f {ws : List (Nat × List Int)} {T T' : Zt} (h : KB_ T) (f : fr_ ws T T') (w : (∀ j, fw_ ws 401 j = false) ∧ fw_ ws 106 2 = false ∧ True) : KB_ T' := sorry
/-- what a plan leaves -/
def SJ_ (T T' : Zt) (c : Int) : Prop := (0 ≤ c ∧ c < T 106 0 2 ∧ T 100 c 6 = 0) ∧ fr_ [(106, [4]), (523, []), (152, []), (102, []), (448, []), (449, []), (100, [6, 7, 8])] T T' ∧ (∀ i j, i < T 106 0 4 → T' 102 i j = T 102 i j) ∧ RK_ T' c (T 106 0 4) (T 100 c 5 + an_ (T 100 c 5) 1 - 1) 0 0 2000000 ∧ (T' 100 c 6 = 1 ∧ T' 100 c 7 = T 106 0 4 ∧ T' 100 c 8 = T' 106 0 4 - T 106 0 4) ∧ ∀ i j, i ≠ c → T' 100 i j = T 100 i j
theorem sc_ic {N : Int} {T T' : Zt} {c : Int} (h : SJ_ T T' c) (hka : KA_ T) (hkm : KM_ T) (hkc : KC_ T) (hks : KS_ T) (hkp : KP_ T) (hdd : DD_ T) (hlp : LP_ N T) (hb7 : ∀ i, 0 ≤ T 100 i 7) (hm0 : 0 ≤ T 106 0 4) : KA_ T' ∧ KM_ T' ∧ KC_ T' ∧ KS_ T' ∧ KP_ T' ∧ DD_ T' ∧ NA_ T' ∧ LP_ N T' := sorry
theorem dy_b {R L E x : Int} (h : (0 ≤ L ∧ L ≤ 4) ∧ 1 ≤ E ∧ E ≤ 30) (g : 0 ≤ R ∧ R ≤ 12 ∧ x = (R * L - 1) * E) : -30 ≤ x ∧ x ≤ 1500 := sorry
abbrev cX10_plan : ByteArray := prog_1_method_13_code
def yX10_plan : MethodName := ⟨RX10, "plan", "(II)I"⟩
def zX10_plan : Zm := (RX10, cX10_plan, 4, (some .int), { frames := 5, cells := 792, slots := 8976, locals := 138 })
set_option maxRecDepth 100000 in
theorem cl_X10_178 : cv_ RX10 178 yX0_daysFromFirstToLast zX0_daysFromFirstToLast 0 0 := sorry
set_option maxRecDepth 100000 in
theorem cl_X10_185 : cv_ RX10 185 yX0_fixtureCount zX0_fixtureCount 0 0 := sorry
set_option maxRecDepth 100000 in
theorem cl_X10_188 : cv_ RX10 188 yX6_schedule zX6_schedule 6 2 := sorry
abbrev po_X10_plan (T : Zt) (c b : Int) : Zt → Option Zv → Prop := fun T' r => ∃ x : Int, r = some (vI x) ∧ (T' = T ∨ SJ_ T T' c)

/-- two matches of one home on one day, neither walked over -/
def cf9_ (T : Zt) (p k : Int) : Prop := T 102 p 6 = -1 ∧ T 102 k 6 = -1 ∧ T 102 p 3 = T 102 k 3 ∧ T 102 p 5 = T 102 k 5
def EL9_ (L : Int → Int) (n : Int) (S : Int → Prop) : Prop := ∀ k, S k → ∃ j, 0 ≤ j ∧ j < n ∧ L j = k
theorem EL9_n {L : Int → Int} {n p k : Int} {c : Int → Prop} (h : EL9_ L n (fun x => 0 ≤ x ∧ x < k ∧ x ≠ p ∧ c x)) (g : k ≠ p → ¬ c k) : EL9_ L n (fun x => 0 ≤ x ∧ x < k + 1 ∧ x ≠ p ∧ c x) := sorry
theorem EL9_u {L L1 : Int → Int} {n p k : Int} {c : Int → Prop} (h : EL9_ L n (fun x => 0 ≤ x ∧ x < k ∧ x ≠ p ∧ c x)) (hn : 0 ≤ n) (e1 : L1 n = k) (e2 : ∀ j, j < n → L1 j = L j) : EL9_ L1 (n + 1) (fun x => 0 ≤ x ∧ x < k + 1 ∧ x ≠ p ∧ c x) := sorry
/-- the list of what stands against p: matches, ever greater, none of them p -/
def LZ9_ (L : Int → Int) (M p n k : Int) : Prop := (∀ j, 0 ≤ j → j < n → 0 ≤ L j ∧ L j < M ∧ L j < k ∧ L j ≠ p) ∧ ∀ a b, 0 ≤ a → a < b → b < n → L a < L b
theorem LZ9_u {L L1 : Int → Int} {M p n k : Int} (h : LZ9_ L M p n k) (e1 : L1 n = k) (e2 : ∀ j, j < n → L1 j = L j) (hk : 0 ≤ k ∧ k < M ∧ k ≠ p) : LZ9_ L1 M p (n + 1) (k + 1) := sorry
theorem LZ9_m {L : Int → Int} {M p n k k2 : Int} (h : LZ9_ L M p n k) (g : k ≤ k2) : LZ9_ L M p n k2 := sorry
/-- days that are blocked for p by the matches below k -/
def Bd9_ (B : Int → Int) (T : Zt) (p k : Int) : Prop := ∀ x, 0 ≤ x → x < k → x ≠ p → T 102 x 6 = -1 → T 102 p 3 = T 102 x 3 → B (T 102 x 5) = 1
theorem Bd9_u {B B1 : Int → Int} {T : Zt} {p k : Int} (h : Bd9_ B T p k) (g : ∀ y, B1 y = B y ∨ B1 y = 1) : Bd9_ B1 T p k := sorry
theorem Bd9_n {B : Int → Int} {T : Zt} {p k : Int} (h : Bd9_ B T p k) (g : k ≠ p → T 102 k 6 = -1 → T 102 p 3 = T 102 k 3 → B (T 102 k 5) = 1) : Bd9_ B T p (k + 1) := sorry
theorem up9_1 {T T1 : Zt} {k : Nat} {i j : Int} (h : T1 = up_ T k i j 1) (y : Int) : T1 k i y = T k i y ∨ T1 k i y = 1 := sorry
def bp9_ (T : Zt) (i j : Int) : Prop := T 102 i 6 = -1 ∧ T 102 j 6 = -1 ∧ T 102 i 0 = T 102 j 0 ∧ T 102 i 3 = T 102 j 3 ∧ T 102 i 5 = T 102 j 5
theorem dd9_b {T : Zt} (h : DD_ T) {i j : Int} (a : 0 ≤ i) (b : i < T 106 0 4) (c : 0 ≤ j) (d : j < T 106 0 4) (n : i ≠ j) : ¬ bp9_ T i j := sorry
theorem dd9_o {T T1 : Zt} (hm : T1 106 0 4 = T 106 0 4) (h : ∀ i j, 0 ≤ i → i < T 106 0 4 → 0 ≤ j → j < T 106 0 4 → i ≠ j → ¬ bp9_ T1 i j) : DD_ T1 := sorry
def PO9_ (T T1 : Zt) (p d n g : Int) : Prop := (∀ i j, j ≠ 5 → T1 102 i j = T 102 i j) ∧ (∀ x, x ≠ p → (∀ j, 0 ≤ j → j < g → T1 533 0 j ≠ x) → T1 102 x 5 = T 102 x 5) ∧ (∀ j, 0 ≤ j → j < g → T1 534 0 j = T 102 (T1 533 0 j) 5) ∧ (0 ≤ n → ∀ i j, 0 ≤ i → i < T 106 0 4 → 0 ≤ j → j < T 106 0 4 → i ≠ j → bp9_ T1 i j → (i = p ∧ ∃ t, g ≤ t ∧ t < n ∧ T1 533 0 t = j) ∨ (j = p ∧ ∃ t, g ≤ t ∧ t < n ∧ T1 533 0 t = i))
theorem po9_0 {T U V : Zt} {p d n : Int} (hdd : DD_ T) (hU : U = up_ T 102 p 5 d) (f : fr_ [(533, [])] U V) (he : 0 ≤ n → EL9_ (V 533 0) n (fun x => 0 ≤ x ∧ x < U 106 0 4 ∧ x ≠ p ∧ cf9_ U p x)) : PO9_ T V p d n 0 := sorry
/-- a match has gone behind -/
def GB9_ (T T1 : Zt) (p k : Int) : Prop := (∀ x, 0 ≤ x → x < T 106 0 4 → x ≠ p → T 102 x 6 = -1 → T 102 p 3 = T 102 x 3 → T1 102 p 5 ≠ T 102 x 5) ∧ (∀ i j, ¬ (i = p ∧ j = 5) → T1 102 i j = T 102 i j) ∧ T1 534 0 k = T 102 p 5 ∧ ∀ j, j ≠ k → T1 534 0 j = T 534 0 j
theorem po9_s {T U V : Zt} {p d n g k : Int} (h : PO9_ T U p d n g) (hz : LZ9_ (U 533 0) (T 106 0 4) p n k) (hg : 0 ≤ g ∧ g < n) (hm : U 106 0 4 = T 106 0 4) (gb : GB9_ U V (U 533 0 g) g) (fl : ∀ j, V 533 0 j = U 533 0 j) : PO9_ T V p d n (g + 1) := sorry
theorem po9_e {T U : Zt} {p d n g : Int} (h : PO9_ T U p d n g) (hn : 0 ≤ n) (hg : n ≤ g) (hm : U 106 0 4 = T 106 0 4) : DD_ U := sorry
def RV9_ (T T2 : Zt) (p g i : Int) : Prop := (∀ a j, j ≠ 5 → T2 102 a j = T 102 a j) ∧ (∀ x, x ≠ p → (∀ j, i ≤ j → j < g → T2 533 0 j ≠ x) → T2 102 x 5 = T 102 x 5) ∧ ∀ j, 0 ≤ j → j < g → T2 534 0 j = T 102 (T2 533 0 j) 5
theorem rv9_0 {T U : Zt} {p d n g : Int} (h : PO9_ T U p d n g) : RV9_ T U p g 0 := sorry
theorem rv9_s {T U V : Zt} {p g i : Int} (h : RV9_ T U p g i) (hi : 0 ≤ i ∧ i < g) (hV : V = up_ U 102 (U 533 0 i) 5 (U 534 0 i)) : RV9_ T V p g (i + 1) := sorry
theorem rv9_e {T U V : Zt} {p g i : Int} (hdd : DD_ T) (h : RV9_ T U p g i) (hi : g ≤ i) (hV : V = up_ U 102 p 5 (T 102 p 5)) (hm : V 106 0 4 = T 106 0 4) : DD_ V := sorry
abbrev po_X6_standAgainst_k (T : Zt) (p : Int) (u : Int) : Zt → Option Zv → Prop := fun T' r => T = T' ∧ ∃ x : Int, r = some (vI x) ∧ (0 ≤ x ∧ x ≤ 1 ∧ (T 102 p 6 = -1 → T 102 u 6 = -1 → T 102 p 3 = T 102 u 3 → T 102 p 5 = T 102 u 5 → x = 1))
set_option maxHeartbeats 4000000 in
theorem ct_X6_standAgainst_k {T : Zt} {p : Int} {u : Int} : Ct_ yX6_standAgainst zX6_standAgainst T [vR 106 0, vR 102 p, vR 102 u] (po_X6_standAgainst_k T p u) := sorry
abbrev po_X6_listAgainst_k (T : Zt) (p : Int) : Zt → Option Zv → Prop := fun T' r => ∃ x : Int, r = some (vI x) ∧ fr_ [(533, [])] T T' ∧ ((-1 ≤ x ∧ x ≤ 400) ∧ LZ9_ (T' 533 0) (T 106 0 4) p x 400 ∧ (0 ≤ x → EL9_ (T' 533 0) x (fun x => 0 ≤ x ∧ x < T 106 0 4 ∧ x ≠ p ∧ cf9_ T p x)))
set_option maxHeartbeats 4000000 in
theorem ct_X6_listAgainst_k {T : Zt} {p : Int} (hka : KA_ T) (hkm : KM_ T) (hp : 0 ≤ p ∧ p < T 106 0 4) : Ct_ yX6_listAgainst zX6_listAgainst T [vR 106 0, vR 102 p] (po_X6_listAgainst_k T p) := sorry
abbrev po_X6_blockDays_k (T : Zt) (p : Int) : Zt → Option Zv → Prop := fun T' r => r = none ∧ fr_ [(535, [])] T T' ∧ (Bd9_ (T' 535 0) T p (T 106 0 4))
set_option maxHeartbeats 4000000 in
theorem ct_X6_blockDays_k {T : Zt} {p : Int} (hka : KA_ T) (hkm : KM_ T) (hp : 0 ≤ p ∧ p < T 106 0 4) : Ct_ yX6_blockDays zX6_blockDays T [vR 106 0, vR 102 p] (po_X6_blockDays_k T p) := sorry
abbrev po_X6_goBehind_k (T : Zt) (p : Int) (d k : Int) : Zt → Option Zv → Prop := fun T' r => ∃ x : Int, r = some (vI x) ∧ fr_ [(535, []), (534, []), (102, [5])] T T' ∧ ((x = 0 ∧ (∀ i j, T' 102 i j = T 102 i j) ∧ ∀ j, T' 534 0 j = T 534 0 j) ∨ (x = 1 ∧ GB9_ T T' p k))
set_option maxHeartbeats 4000000 in
theorem ct_X6_goBehind_k {T : Zt} {p : Int} {d k : Int} (hka : KA_ T) (hkm : KM_ T) (hp : 0 ≤ p ∧ p < T 106 0 4) (hd : 0 ≤ d ∧ d ≤ 999) (hk : 0 ≤ k ∧ k < 400) : Ct_ yX6_goBehind zX6_goBehind T [vR 106 0, vR 102 p, vI d, vI k] (po_X6_goBehind_k T p d k) := sorry
abbrev po_X6_putOff_k (T : Zt) (p : Int) (d : Int) : Zt → Option Zv → Prop := fun T' r => ∃ x : Int, r = some (vI x) ∧ fr_ [(535, []), (534, []), (102, [5]), (533, []), (531, []), (106, [12])] T T' ∧ (DD_ T')
set_option maxHeartbeats 4000000 in
theorem ct_X6_putOff_k {T : Zt} {p : Int} {d : Int} (hka : KA_ T) (hkm : KM_ T) (hp : 0 ≤ p ∧ p < T 106 0 4) (hd : 0 ≤ d ∧ d ≤ 999) (hdd : DD_ T) : Ct_ yX6_putOff zX6_putOff T [vR 106 0, vR 102 p, vI d] (po_X6_putOff_k T p d) := sorry
abbrev po_X10_postpone_k (T : Zt) (m d : Int) : Zt → Option Zv → Prop := fun T' r => ∃ x : Int, r = some (vI x) ∧ fr_ [(535, []), (534, []), (102, [5]), (533, []), (531, []), (106, [12])] T T' ∧ (DD_ T')
set_option maxHeartbeats 4000000 in
theorem ct_X10_postpone_k {T : Zt} {m d : Int} (hka : KA_ T) (hkm : KM_ T) (hdd : DD_ T) : Ct_ yX10_postpone zX10_postpone T [vR 110 0, vI m, vI d] (po_X10_postpone_k T m d) := sorry
theorem php : ∀ (m n : Nat) (f : Nat → Nat), (∀ i, i < n → f i < m) → (∀ i j, i < j → j < n → f i ≠ f j) → n ≤ m := sorry
/-- matches of one day that are not walked over: at most one for each competition and home -/
def LS_ (T : Zt) (L : Int → Int) (d n k : Int) : Prop := (∀ j, 0 ≤ j → j < n → 0 ≤ L j ∧ L j < k ∧ T 102 (L j) 5 = d ∧ T 102 (L j) 6 = -1) ∧ ∀ a b, 0 ≤ a → a < b → b < n → L a < L b
theorem LS_u {T : Zt} {L L1 : Int → Int} {d n k : Int} (h : LS_ T L d n k) (e1 : L1 n = k) (e2 : ∀ j, j < n → L1 j = L j) (hk : 0 ≤ k ∧ T 102 k 5 = d ∧ T 102 k 6 = -1) : LS_ T L1 d (n + 1) (k + 1) := sorry
theorem LS_m {T : Zt} {L : Int → Int} {d n k k2 : Int} (h : LS_ T L d n k) (g : k ≤ k2) : LS_ T L d n k2 := sorry
theorem LS_48 {T : Zt} {L : Int → Int} {d n : Int} (hT : ok_T T) (h : LS_ T L d n (T 106 0 4)) (hkm : KM_ T) (hdd : DD_ T) : n ≤ 48 := sorry
/-- sets of o officials as numbers below e -/
def OS_ (o e : Int) : Prop := (1 ≤ e ∧ e ≤ 256) ∧ ∀ a w, 0 ≤ a → a < e → 0 ≤ w → w < o → 0 ≤ or_ a (sl_ 1 w) ∧ or_ a (sl_ 1 w) < e
theorem sl_p {w : Int} (h : 0 ≤ w ∧ w ≤ 8) : sl_ 1 w = ((2 ^ w.toNat : Nat) : Int) := sorry
theorem os_1 {o : Int} (h : 0 ≤ o ∧ o ≤ 8) : OS_ o (sl_ 1 o) := sorry
theorem bx_4 {T : Zt} (hT : ok_T T) (ha : al_ T 104 0) : T 104 0 4 < T 191 0 0 := sorry
theorem k1e (k e : Int) : (k + 1) * e = k * e + e := sorry
theorem k2e (k e : Int) : (k + 2) * e = k * e + e + e := sorry
theorem kse {k s e : Int} (h : k + 2 ≤ s + 1) (he : 0 ≤ e) : (k + 2) * e ≤ (s + 1) * e := sorry
abbrev po_X2_isDecided_k (T : Zt) (p : Int) : Zt → Option Zv → Prop := fun T' r => T = T' ∧ ∃ x : Int, r = some (vI x) ∧ (0 ≤ x ∧ x ≤ 1 ∧ (x = 0 → T 102 p 6 = -1))
set_option maxHeartbeats 4000000 in
theorem ct_X2_isDecided_k {T : Zt} {p : Int} : Ct_ yX2_isDecided zX2_isDecided T [vR 102 p] (po_X2_isDecided_k T p) := sorry
abbrev cX4_gainOf : ByteArray := prog_6_method_7_code
def yX4_gainOf : MethodName := ⟨RX4, "gainOf", "(LSportsHouse$Match;II)I"⟩
def zX4_gainOf : Zm := (RX4, cX4_gainOf, 5, (some .int), { frames := 1, cells := 0, slots := 0, locals := 21 })
abbrev po_X4_gainOf (T : Zt) (p : Int) (w a : Int) : Zt → Option Zv → Prop := fun T' r => T = T' ∧ ∃ x : Int, r = some (vI x) ∧ (-1 ≤ x ∧ x ≤ 1000)
set_option maxHeartbeats 4000000 in
theorem ct_X4_gainOf {T : Zt} {p : Int} {w a : Int} (hw : 0 ≤ w ∧ w ≤ 7) : Ct_ yX4_gainOf zX4_gainOf T [vR 104 0, vR 102 p, vI w, vI a] (po_X4_gainOf T p w a) := sorry
abbrev cX4_weigh : ByteArray := prog_6_method_5_code
def yX4_weigh : MethodName := ⟨RX4, "weigh", "(LSportsHouse$Match;III)I"⟩
def zX4_weigh : Zm := (RX4, cX4_weigh, 9, (some .int), { frames := 2, cells := 0, slots := 0, locals := 45 })
set_option maxRecDepth 100000 in
theorem cl_X4_70 : cv_ RX4 70 yX4_gainOf zX4_gainOf 4 3 := sorry
abbrev po_X4_weigh (T : Zt) (p : Int) (k a e : Int) : Zt → Option Zv → Prop := fun T' r => T = T' ∧ ∃ x : Int, r = some (vI x) ∧ (-2147483648 ≤ x ∧ x ≤ 2147483647)
set_option maxHeartbeats 4000000 in
theorem ct_X4_weigh {T : Zt} {p : Int} {k a e : Int} (hk : 0 ≤ k ∧ k < 48) (ha : 0 ≤ a ∧ a < e) (hO : OS_ (T 108 0 12) e) (hL : (k + 2) * e ≤ T 190 (T 104 0 4) (-2)) : Ct_ yX4_weigh zX4_weigh T [vR 104 0, vR 102 p, vI k, vI a, vI e] (po_X4_weigh T p k a e) := sorry
abbrev cX4_firstBest : ByteArray := prog_6_method_6_code
def yX4_firstBest : MethodName := ⟨RX4, "firstBest", "(LSportsHouse$Match;III)I"⟩
def zX4_firstBest : Zm := (RX4, cX4_firstBest, 8, (some .int), { frames := 2, cells := 0, slots := 0, locals := 45 })
abbrev po_X4_firstBest (T : Zt) (p : Int) (k a e : Int) : Zt → Option Zv → Prop := fun T' r => T = T' ∧ ∃ x : Int, r = some (vI x) ∧ (x = -1 ∨ (0 ≤ x ∧ x < T 108 0 12))
set_option maxHeartbeats 4000000 in
theorem ct_X4_firstBest {T : Zt} {p : Int} {k a e : Int} (hk : 0 ≤ k ∧ k < 48) (ha : 0 ≤ a ∧ a < e) (hO : OS_ (T 108 0 12) e) (hL : (k + 2) * e ≤ T 190 (T 104 0 4) (-2)) : Ct_ yX4_firstBest zX4_firstBest T [vR 104 0, vR 102 p, vI k, vI a, vI e] (po_X4_firstBest T p k a e) := sorry
abbrev cX4_listMatches : ByteArray := prog_6_method_3_code
def yX4_listMatches : MethodName := ⟨RX4, "listMatches", "(I)V"⟩
def zX4_listMatches : Zm := (RX4, cX4_listMatches, 4, none, { frames := 2, cells := 0, slots := 0, locals := 40 })
set_option maxRecDepth 100000 in
theorem cl_X4_63 : cv_ RX4 63 yX2_isDecided zX2_isDecided 2 0 := sorry
abbrev po_X4_listMatches (T : Zt) (d : Int) : Zt → Option Zv → Prop := fun T' r => r = none ∧ fr_ [(104, [3]), (482, [])] T T' ∧ ((0 ≤ T' 104 0 3 ∧ T' 104 0 3 ≤ 48) ∧ LS_ T (T' 482 0) d (T' 104 0 3) (T 106 0 4))
set_option maxHeartbeats 4000000 in
theorem ct_X4_listMatches {T : Zt} {d : Int} (hka : KA_ T) (hkm : KM_ T) (hdd : DD_ T) : Ct_ yX4_listMatches zX4_listMatches T [vR 104 0, vI d] (po_X4_listMatches T d) := sorry
abbrev cX4_weighAll : ByteArray := prog_6_method_4_code
def yX4_weighAll : MethodName := ⟨RX4, "weighAll", "(I)V"⟩
def zX4_weighAll : Zm := (RX4, cX4_weighAll, 6, none, { frames := 3, cells := 1, slots := 12544, locals := 73 })
set_option maxRecDepth 100000 in
theorem cl_X4_67 : cv_ RX4 67 yX4_weigh zX4_weigh 4 4 := sorry
theorem fr5_X4_15 : fr5_ RX4 15 4 4 := sorry
abbrev po_X4_weighAll (T : Zt) (e : Int) : Zt → Option Zv → Prop := fun T' r => r = none ∧ fr_ [(104, [4]), (190, []), (191, [0])] T T' ∧ ((T 104 0 3 + 1) * e ≤ T' 190 (T' 104 0 4) (-2) ∧ lh_ T T' ∧ T' 191 0 0 ≤ T 191 0 0 + 1)
set_option maxHeartbeats 4000000 in
theorem ct_X4_weighAll {T : Zt} {e : Int} (hka : KA_ T) (hs : 0 ≤ T 104 0 3 ∧ T 104 0 3 ≤ 48) (hO : OS_ (T 108 0 12) e) (hv : ∀ j, 0 ≤ j → j < T 104 0 3 → 0 ≤ T 482 0 j ∧ T 482 0 j < T 106 0 4) (h9 : 0 ≤ T 191 0 0 ∧ T 191 0 0 ≤ 900000000) : Ct_ yX4_weighAll zX4_weighAll T [vR 104 0, vI e] (po_X4_weighAll T e) := sorry
abbrev cX4_share : ByteArray := prog_6_method_2_code
def yX4_share : MethodName := ⟨RX4, "share", "(I)I"⟩
def zX4_share : Zm := (RX4, cX4_share, 8, (some .int), { frames := 4, cells := 1, slots := 12544, locals := 98 })
set_option maxRecDepth 100000 in
theorem cl_X4_48 : cv_ RX4 48 yX4_firstBest zX4_firstBest 4 4 := sorry
set_option maxRecDepth 100000 in
theorem cl_X4_26 : cv_ RX4 26 yX4_listMatches zX4_listMatches 4 1 := sorry
set_option maxRecDepth 100000 in
theorem cl_X4_36 : cv_ RX4 36 yX4_weighAll zX4_weighAll 4 1 := sorry
abbrev po_X4_share (T : Zt) (d : Int) : Zt → Option Zv → Prop := fun T' r => ∃ x : Int, r = some (vI x) ∧ fr_ [(104, [3, 4]), (482, []), (102, [7]), (190, []), (191, [0])] T T' ∧ lh_ T T' ∧ T' 191 0 0 ≤ T 191 0 0 + 1
set_option maxHeartbeats 4000000 in
theorem ct_X4_share {T : Zt} {d : Int} (hka : KA_ T) (hkm : KM_ T) (hdd : DD_ T) (h9 : 0 ≤ T 191 0 0 ∧ T 191 0 0 ≤ 900000000) : Ct_ yX4_share zX4_share T [vR 104 0, vI d] (po_X4_share T d) := sorry
abbrev cX10_assign : ByteArray := prog_1_method_42_code
def yX10_assign : MethodName := ⟨RX10, "assign", "(I)I"⟩
def zX10_assign : Zm := (RX10, cX10_assign, 2, (some .int), { frames := 5, cells := 1, slots := 12544, locals := 125 })
set_option maxRecDepth 100000 in
theorem cl_X10_423 : cv_ RX10 423 yX4_share zX4_share 4 1 := sorry
abbrev po_X10_assign (T : Zt) (d : Int) : Zt → Option Zv → Prop := fun T' r => ∃ x : Int, r = some (vI x) ∧ fr_ [(104, [3, 4]), (482, []), (102, [7]), (190, []), (191, [0])] T T' ∧ lh_ T T' ∧ T' 191 0 0 ≤ T 191 0 0 + 1
set_option maxHeartbeats 4000000 in
theorem ct_X10_assign {T : Zt} {d : Int} (hka : KA_ T) (hkm : KM_ T) (hdd : DD_ T) (h9 : 0 ≤ T 191 0 0 ∧ T 191 0 0 ≤ 900000000) : Ct_ yX10_assign zX10_assign T [vR 110 0, vI d] (po_X10_assign T d) := sorry
abbrev cX9_search : ByteArray := prog_11_method_6_code
def yX9_search : MethodName := ⟨RX9, "search", "(I)Z"⟩
def zX9_search_0 : Zm := (RX9, cX9_search, 9, (some .boolean), { frames := 1, cells := 0, slots := 0, locals := 28 })
abbrev po_X9_search_0 (T : Zt) (k : Int) : Zt → Option Zv → Prop := fun T' r => ∃ x : Int, r = some (vI x) ∧ fr_ [(587, []), (584, [])] T T' ∧ (0 ≤ x ∧ x ≤ 1)
set_option maxHeartbeats 4000000 in
theorem ct_X9_search_0 {T : Zt} {k : Int} (hq9 : Q9_ T) (hka : KA_ T) (hk : 0 ≤ k ∧ 8 ≤ k) : Ct_ yX9_search zX9_search_0 T [vR 109 0, vI k] (po_X9_search_0 T k) := sorry
def zX9_search_1 : Zm := (RX9, cX9_search, 9, (some .boolean), { frames := 2, cells := 0, slots := 0, locals := 56 })
set_option maxRecDepth 100000 in
theorem cl_X9_91_zX9_search_0 : cv_ RX9 91 yX9_search zX9_search_0 9 1 := sorry
abbrev po_X9_search_1 (T : Zt) (k : Int) : Zt → Option Zv → Prop := fun T' r => ∃ x : Int, r = some (vI x) ∧ fr_ [(587, []), (584, [])] T T' ∧ (0 ≤ x ∧ x ≤ 1)
set_option maxHeartbeats 4000000 in
theorem ct_X9_search_1 {T : Zt} {k : Int} (hq9 : Q9_ T) (hka : KA_ T) (hk : 0 ≤ k ∧ 7 ≤ k) : Ct_ yX9_search zX9_search_1 T [vR 109 0, vI k] (po_X9_search_1 T k) := sorry
def zX9_search_2 : Zm := (RX9, cX9_search, 9, (some .boolean), { frames := 3, cells := 0, slots := 0, locals := 84 })
set_option maxRecDepth 100000 in
theorem cl_X9_91_zX9_search_1 : cv_ RX9 91 yX9_search zX9_search_1 9 1 := sorry
abbrev po_X9_search_2 (T : Zt) (k : Int) : Zt → Option Zv → Prop := fun T' r => ∃ x : Int, r = some (vI x) ∧ fr_ [(587, []), (584, [])] T T' ∧ (0 ≤ x ∧ x ≤ 1)
set_option maxHeartbeats 4000000 in
theorem ct_X9_search_2 {T : Zt} {k : Int} (hq9 : Q9_ T) (hka : KA_ T) (hk : 0 ≤ k ∧ 6 ≤ k) : Ct_ yX9_search zX9_search_2 T [vR 109 0, vI k] (po_X9_search_2 T k) := sorry
def zX9_search_3 : Zm := (RX9, cX9_search, 9, (some .boolean), { frames := 4, cells := 0, slots := 0, locals := 112 })
set_option maxRecDepth 100000 in
theorem cl_X9_91_zX9_search_2 : cv_ RX9 91 yX9_search zX9_search_2 9 1 := sorry
abbrev po_X9_search_3 (T : Zt) (k : Int) : Zt → Option Zv → Prop := fun T' r => ∃ x : Int, r = some (vI x) ∧ fr_ [(587, []), (584, [])] T T' ∧ (0 ≤ x ∧ x ≤ 1)
set_option maxHeartbeats 4000000 in
theorem ct_X9_search_3 {T : Zt} {k : Int} (hq9 : Q9_ T) (hka : KA_ T) (hk : 0 ≤ k ∧ 5 ≤ k) : Ct_ yX9_search zX9_search_3 T [vR 109 0, vI k] (po_X9_search_3 T k) := sorry
def zX9_search_4 : Zm := (RX9, cX9_search, 9, (some .boolean), { frames := 5, cells := 0, slots := 0, locals := 140 })
set_option maxRecDepth 100000 in
theorem cl_X9_91_zX9_search_3 : cv_ RX9 91 yX9_search zX9_search_3 9 1 := sorry
abbrev po_X9_search_4 (T : Zt) (k : Int) : Zt → Option Zv → Prop := fun T' r => ∃ x : Int, r = some (vI x) ∧ fr_ [(587, []), (584, [])] T T' ∧ (0 ≤ x ∧ x ≤ 1)
set_option maxHeartbeats 4000000 in
theorem ct_X9_search_4 {T : Zt} {k : Int} (hq9 : Q9_ T) (hka : KA_ T) (hk : 0 ≤ k ∧ 4 ≤ k) : Ct_ yX9_search zX9_search_4 T [vR 109 0, vI k] (po_X9_search_4 T k) := sorry
def zX9_search_5 : Zm := (RX9, cX9_search, 9, (some .boolean), { frames := 6, cells := 0, slots := 0, locals := 168 })
set_option maxRecDepth 100000 in
theorem cl_X9_91_zX9_search_4 : cv_ RX9 91 yX9_search zX9_search_4 9 1 := sorry
abbrev po_X9_search_5 (T : Zt) (k : Int) : Zt → Option Zv → Prop := fun T' r => ∃ x : Int, r = some (vI x) ∧ fr_ [(587, []), (584, [])] T T' ∧ (0 ≤ x ∧ x ≤ 1)
set_option maxHeartbeats 4000000 in
theorem ct_X9_search_5 {T : Zt} {k : Int} (hq9 : Q9_ T) (hka : KA_ T) (hk : 0 ≤ k ∧ 3 ≤ k) : Ct_ yX9_search zX9_search_5 T [vR 109 0, vI k] (po_X9_search_5 T k) := sorry
def zX9_search_6 : Zm := (RX9, cX9_search, 9, (some .boolean), { frames := 7, cells := 0, slots := 0, locals := 196 })
set_option maxRecDepth 100000 in
theorem cl_X9_91_zX9_search_5 : cv_ RX9 91 yX9_search zX9_search_5 9 1 := sorry
abbrev po_X9_search_6 (T : Zt) (k : Int) : Zt → Option Zv → Prop := fun T' r => ∃ x : Int, r = some (vI x) ∧ fr_ [(587, []), (584, [])] T T' ∧ (0 ≤ x ∧ x ≤ 1)
set_option maxHeartbeats 4000000 in
theorem ct_X9_search_6 {T : Zt} {k : Int} (hq9 : Q9_ T) (hka : KA_ T) (hk : 0 ≤ k ∧ 2 ≤ k) : Ct_ yX9_search zX9_search_6 T [vR 109 0, vI k] (po_X9_search_6 T k) := sorry
def zX9_search_7 : Zm := (RX9, cX9_search, 9, (some .boolean), { frames := 8, cells := 0, slots := 0, locals := 224 })
set_option maxRecDepth 100000 in
theorem cl_X9_91_zX9_search_6 : cv_ RX9 91 yX9_search zX9_search_6 9 1 := sorry
abbrev po_X9_search_7 (T : Zt) (k : Int) : Zt → Option Zv → Prop := fun T' r => ∃ x : Int, r = some (vI x) ∧ fr_ [(587, []), (584, [])] T T' ∧ (0 ≤ x ∧ x ≤ 1)
set_option maxHeartbeats 4000000 in
theorem ct_X9_search_7 {T : Zt} {k : Int} (hq9 : Q9_ T) (hka : KA_ T) (hk : 0 ≤ k ∧ 1 ≤ k) : Ct_ yX9_search zX9_search_7 T [vR 109 0, vI k] (po_X9_search_7 T k) := sorry
def zX9_search_8 : Zm := (RX9, cX9_search, 9, (some .boolean), { frames := 9, cells := 0, slots := 0, locals := 252 })
set_option maxRecDepth 100000 in
theorem cl_X9_91_zX9_search_7 : cv_ RX9 91 yX9_search zX9_search_7 9 1 := sorry
abbrev po_X9_search_8 (T : Zt) (k : Int) : Zt → Option Zv → Prop := fun T' r => ∃ x : Int, r = some (vI x) ∧ fr_ [(587, []), (584, [])] T T' ∧ (0 ≤ x ∧ x ≤ 1)
set_option maxHeartbeats 4000000 in
theorem ct_X9_search_8 {T : Zt} {k : Int} (hq9 : Q9_ T) (hka : KA_ T) (hk : 0 ≤ k ∧ 0 ≤ k) : Ct_ yX9_search zX9_search_8 T [vR 109 0, vI k] (po_X9_search_8 T k) := sorry
def tz1 (a : Nat) : Bool := a == 0 || ((List.range 12).any fun x => decide (an_ (xo_ (a : Int) (-1)) ((a : Int) - 1) = ((2 ^ x : Nat) : Int) - 1) && decide (an_ (sr_ (a : Int) (x : Int)) 1 = 1))
theorem tz_a : ∀ i, i < 64 → ∀ j, j < 64 → tz1 (64 * i + j) = true := sorry
def us1 (v : Nat) : Bool := decide (us_ (v : Int) 8 = (v : Int) / 256) && decide (us_ (v : Int) 4 = (v : Int) / 16) && decide (us_ (v : Int) 2 = (v : Int) / 4) && decide (us_ (v : Int) 1 = (v : Int) / 2)
theorem us_all : ∀ v, v < 2048 → us1 v = true := sorry
def ne1 (d : Nat) : Bool := d == 0 || decide (an_ (-(d : Int)) (d : Int) ≠ 0)
theorem ne_a : ∀ i, i < 64 → ∀ j, j < 64 → ne1 (64 * i + j) = true := sorry
theorem us_q {v : Int} (h : 0 ≤ v ∧ v ≤ 2047) : us_ v 8 = v / 256 ∧ us_ v 4 = v / 16 ∧ us_ v 2 = v / 4 ∧ us_ v 1 = v / 2 := sorry
/-- the zeros behind a number: its lowest bit -/
theorem tz_q {a : Int} (h : 1 ≤ a ∧ a ≤ 4095) : ∃ x : Nat, x < 12 ∧ an_ (xo_ a (-1)) (a - 1) = ((2 ^ x : Nat) : Int) - 1 ∧ an_ (sr_ a (x : Int)) 1 = 1 := sorry
theorem ne_q {d : Int} (h : 1 ≤ d ∧ d ≤ 4095) : an_ (-d) d ≠ 0 := sorry
theorem pb_and (x y : Nat) : (x &&& y) % 2 = 1 ↔ x % 2 = 1 ∧ y % 2 = 1 := sorry
theorem nb_sub (o : Nat) : ∀ s, s &&& o = s → s ≤ o ∧ (o - s) &&& o = o - s := sorry
theorem an_le {x o : Int} (ho : 0 ≤ o ∧ o ≤ 4095) : 0 ≤ an_ x o ∧ an_ x o ≤ 4095 := sorry
theorem i3_b (v : Int32) : Int32.ofInt v.toInt = v := sorry
theorem an_id (x o : Int) : an_ (an_ x o) o = an_ x o := sorry
/-- the next set below another: it is not empty -/
theorem nx_1 {s o : Int} (ho : 0 ≤ o ∧ o ≤ 4095) (hs : 0 ≤ s ∧ s < 4096) (h : an_ s o = s) (hne : s ≠ o) : 1 ≤ an_ (s - o) o ∧ an_ (s - o) o ≤ 4095 ∧ an_ (an_ (s - o) o) o = an_ (s - o) o := sorry
theorem nx_b {s o x : Int} (ho : 0 ≤ o ∧ o ≤ 4095) (hs : 0 ≤ s ∧ s < 4096) (h : an_ s o = s) (hx : 0 ≤ x ∧ x < 32) (hb : an_ (sr_ s x) 1 = 1) : an_ (sr_ o x) 1 = 1 := sorry
theorem sl_q {w : Int} (h : 0 ≤ w ∧ w ≤ 11) : sl_ 1 w = ((2 ^ w.toNat : Nat) : Int) := sorry
theorem or_bit {o q x : Int} (ho : 0 ≤ o ∧ o ≤ 4095) (hq : 0 ≤ q ∧ q ≤ 11) (hx : 0 ≤ x ∧ x ≤ 11) (h : an_ (sr_ (or_ o (sl_ 1 q)) x) 1 = 1) : an_ (sr_ o x) 1 = 1 ∨ x = q := sorry
/-- only clubs with a seat are in the set -/
def OB_ (T : Zt) (c o : Int) : Prop := ∀ x, 0 ≤ x → x ≤ 11 → an_ (sr_ o x) 1 = 1 → 0 ≤ T 404 c x
theorem ob_0 (T : Zt) (c : Int) : OB_ T c 0 := sorry
theorem ob_s {T : Zt} {c o q : Int} (h : OB_ T c o) (ho : 0 ≤ o ∧ o ≤ 4095) (hq : 0 ≤ q ∧ q ≤ 11) (g : 0 ≤ T 404 c q) : OB_ T c (or_ o (sl_ 1 q)) := sorry
theorem or_0 {o : Int} (ho : 0 ≤ o ∧ o ≤ 4095) : or_ o 0 = o := sorry
abbrev cJ6_numberOfTrailingZeros_0f7a4 : ByteArray := prog_15_method_48_code
def yJ6_numberOfTrailingZeros_0f7a4 : MethodName := ⟨RJ6, "numberOfTrailingZeros", "(I)I"⟩
def zJ6_numberOfTrailingZeros_0f7a4 : Zm := (RJ6, cJ6_numberOfTrailingZeros_0f7a4, 2, (some .int), { frames := 0, cells := 0, slots := 0, locals := 0 })
abbrev po_J6_numberOfTrailingZeros_0f7a4 (T : Zt) (a : Int) : Zt → Option Zv → Prop := fun T' r => T = T' ∧ ∃ x : Int, r = some (vI x) ∧ (0 ≤ x ∧ x ≤ 11 ∧ an_ (sr_ a x) 1 = 1)
set_option maxHeartbeats 4000000 in
theorem ct_J6_numberOfTrailingZeros_0f7a4 {T : Zt} {a : Int} (h1 : 1 ≤ a ∧ a ≤ 4095) : Ct_ yJ6_numberOfTrailingZeros_0f7a4 zJ6_numberOfTrailingZeros_0f7a4 T [vI a] (po_J6_numberOfTrailingZeros_0f7a4 T a) := sorry
abbrev cX9_leastCut : ByteArray := prog_11_method_15_code
def yX9_leastCut : MethodName := ⟨RX9, "leastCut", "(I)I"⟩
def zX9_leastCut : Zm := (RX9, cX9_leastCut, 7, (some .int), { frames := 1, cells := 1, slots := 4096, locals := 25 })
set_option maxRecDepth 100000 in
theorem cl_X9_168 : cs_ RX9 168 yJ6_numberOfTrailingZeros_0f7a4 zJ6_numberOfTrailingZeros_0f7a4 1 := sorry
set_option maxRecDepth 100000 in
theorem cl_X9_173 : cv_ RX9 173 yX9_openBetween zX9_openBetween 9 2 := sorry
theorem fr5_X9_165 : fr5_ RX9 165 9 15 := sorry
abbrev po_X9_leastCut (T : Zt) (t : Int) : Zt → Option Zv → Prop := fun T' r => ∃ x : Int, r = some (vI x) ∧ fr_ [(109, [15]), (190, []), (191, [0])] T T' ∧ (0 ≤ x ∧ x ≤ 4095) ∧ (T' 109 0 15 ≠ 0 → T' 190 (T' 109 0 15 - 1) (-2) = 4096 ∧ 1 ≤ T' 109 0 15) ∧ lh_ T T' ∧ T' 191 0 0 ≤ T 191 0 0 + 1
set_option maxHeartbeats 4000000 in
theorem ct_X9_leastCut {T : Zt} {t : Int} (hq9 : Q9_ T) (hka : KA_ T) (hke : KEc_ T (T 109 0 5 - 1)) (hsl : T 109 0 15 ≠ 0 → T 190 (T 109 0 15 - 1) (-2) = 4096 ∧ 1 ≤ T 109 0 15) (h9 : 0 ≤ T 191 0 0 ∧ T 191 0 0 ≤ 900000000) : Ct_ yX9_leastCut zX9_leastCut T [vR 109 0, vI t] (po_X9_leastCut T t) := sorry
abbrev po_J7_fill_584 (T : Zt) (p : Int) (v : Int) : Zt → Option Zv → Prop := fun T' r => r = none ∧ fr_ [(584, [])] T T' ∧ oi_ T T' p ∧ ∀ j, 0 ≤ j → j < 400 → T' 584 p j = v
set_option maxHeartbeats 4000000 in
theorem ct_J7_fill_584 {T : Zt} {p : Int} {v : Int} (h1 : (-2147483648) ≤ v ∧ v ≤ 2147483647) : Ct_ yJ7_fill_53178 zJ7_fill_53178 T [vR 584 p, vI v] (po_J7_fill_584 T p v) := sorry
def KW_ (T : Zt) : Prop := ∀ c : Int, 0 ≤ c → c < T 106 0 2 → T 401 c 2 ≤ T 401 c 1
theorem KW__f {ws : List (Nat × List Int)} {T T' : Zt} (h : KW_ T) (f : fr_ ws T T') (w : (∀ j, fw_ ws 401 j = false) ∧ fw_ ws 106 2 = false ∧ True) : KW_ T' := sorry
theorem q9_of {T U : Zt} {c : Int} (hU : ok_T U) (hks : KS_ T) (hkc : KC_ T) (h0 : 0 ≤ c ∧ c < T 106 0 2) (hc : U 109 0 5 = c + 1) (hb : 0 ≤ T 100 c 7) (ol : ∀ j : Int, 0 ≤ j → j < U 109 0 9 → T 100 c 7 ≤ U 588 0 j ∧ U 588 0 j < T 100 c 7 + T 100 c 8) (e1 : ∀ i j, U 102 i j = T 102 i j) (e2 : ∀ i j, U 404 i j = T 404 i j) (e3 : U 106 0 4 = T 106 0 4) : Q9_ U := sorry
abbrev cX9_ask : ByteArray := prog_11_method_2_code
def yX9_ask : MethodName := ⟨RX9, "ask", "(LSportsHouse$Competition;I)I"⟩
def zX9_ask : Zm := (RX9, cX9_ask, 4, (some .int), { frames := 10, cells := 1, slots := 4096, locals := 280 })
set_option maxRecDepth 100000 in
theorem cl_X9_73 : cv_ RX9 73 yX9_takePoints zX9_takePoints 9 1 := sorry
set_option maxRecDepth 100000 in
theorem cl_X9_88 : cv_ RX9 88 yX9_noneAbove zX9_noneAbove 9 1 := sorry
set_option maxRecDepth 100000 in
theorem cl_X9_91_zX9_search_8 : cv_ RX9 91 yX9_search zX9_search_8 9 1 := sorry
set_option maxRecDepth 100000 in
theorem cl_X9_77 : cv_ RX9 77 yX9_setCaps zX9_setCaps 9 1 := sorry
set_option maxRecDepth 100000 in
theorem cl_X9_80 : cv_ RX9 80 yX9_spreadParts zX9_spreadParts 9 1 := sorry
set_option maxRecDepth 100000 in
theorem cl_X9_84 : cv_ RX9 84 yX9_leastCut zX9_leastCut 9 1 := sorry
set_option maxRecDepth 100000 in
theorem cl_X9_69 : cv_ RX9 69 yX9_listOpen zX9_listOpen 9 2 := sorry
abbrev po_X9_ask (T : Zt) (c : Int) (t : Int) : Zt → Option Zv → Prop := fun T' r => ∃ x : Int, r = some (vI x) ∧ fr_ [(109, [5, 3, 9, 6, 2, 15]), (584, []), (588, []), (587, []), (591, []), (592, []), (590, []), (593, []), (594, []), (107, [1]), (542, []), (543, []), (544, []), (545, []), (546, []), (190, []), (191, [0])] T T' ∧ (T' 109 0 15 ≠ 0 → T' 190 (T' 109 0 15 - 1) (-2) = 4096 ∧ 1 ≤ T' 109 0 15) ∧ lh_ T T' ∧ T' 191 0 0 ≤ T 191 0 0 + 1
set_option maxHeartbeats 4000000 in
theorem ct_X9_ask {T : Zt} {c : Int} {t : Int} (hka : KA_ T) (hkm : KM_ T) (hkc : KC_ T) (hks : KS_ T) (hke : KE_ T) (hkw : KW_ T) (hsl : T 109 0 15 ≠ 0 → T 190 (T 109 0 15 - 1) (-2) = 4096 ∧ 1 ≤ T 109 0 15) (h9 : 0 ≤ T 191 0 0 ∧ T 191 0 0 ≤ 900000000) (hc : 0 ≤ c ∧ c < T 106 0 2) (ht : 0 ≤ t ∧ t ≤ 11) : Ct_ yX9_ask zX9_ask T [vR 109 0, vR 100 c, vI t] (po_X9_ask T c t) := sorry
abbrev cX10_can : ByteArray := prog_1_method_32_code
def yX10_can : MethodName := ⟨RX10, "can", "(II)I"⟩
def zX10_can : Zm := (RX10, cX10_can, 4, (some .int), { frames := 11, cells := 1, slots := 4096, locals := 303 })
set_option maxRecDepth 100000 in
theorem cl_X10_365 : cv_ RX10 365 yX9_ask zX9_ask 9 2 := sorry
abbrev po_X10_can (T : Zt) (c b : Int) : Zt → Option Zv → Prop := fun T' r => ∃ x : Int, r = some (vI x) ∧ fr_ [(109, [5, 3, 9, 6, 2, 15]), (584, []), (588, []), (587, []), (591, []), (592, []), (590, []), (593, []), (594, []), (107, [1]), (542, []), (543, []), (544, []), (545, []), (546, []), (190, []), (191, [0])] T T' ∧ (T' 109 0 15 ≠ 0 → T' 190 (T' 109 0 15 - 1) (-2) = 4096 ∧ 1 ≤ T' 109 0 15) ∧ lh_ T T' ∧ T' 191 0 0 ≤ T 191 0 0 + 1
set_option maxHeartbeats 4000000 in
theorem ct_X10_can {T : Zt} {c b : Int} (hka : KA_ T) (hkm : KM_ T) (hkc : KC_ T) (hks : KS_ T) (hke : KE_ T) (hkw : KW_ T) (hsl : T 109 0 15 ≠ 0 → T 190 (T 109 0 15 - 1) (-2) = 4096 ∧ 1 ≤ T 109 0 15) (h9 : 0 ≤ T 191 0 0 ∧ T 191 0 0 ≤ 900000000) : Ct_ yX10_can zX10_can T [vR 110 0, vI c, vI b] (po_X10_can T c b) := sorry
abbrev cX1_countFrom : ByteArray := prog_3_method_5_code
def yX1_countFrom : MethodName := ⟨RX1, "countFrom", "(I)I"⟩
abbrev cX1_refresh : ByteArray := prog_3_method_4_code
def yX1_refresh : MethodName := ⟨RX1, "refresh", "()V"⟩
def zX1_refresh : Zm := (RX1, cX1_refresh, 3, none, { frames := 14, cells := 0, slots := 0, locals := 378 })
abbrev cX10_ways : ByteArray := prog_1_method_38_code
def yX10_ways : MethodName := ⟨RX10, "ways", "()I"⟩
def zX10_ways : Zm := (RX10, cX10_ways, 1, (some .int), { frames := 15, cells := 0, slots := 0, locals := 400 })
set_option maxRecDepth 100000 in
theorem cl_X10_399 : cv_ RX10 399 yX1_refresh zX1_refresh 1 0 := sorry
abbrev po_X10_ways (T : Zt) : Zt → Option Zv → Prop := fun T' r => ∃ x : Int, r = some (vI x) ∧ fr_ [(101, [13, 6, 7]), (434, []), (435, []), (431, []), (432, [])] T T' ∧ (x = x)
abbrev cX10_chance : ByteArray := prog_1_method_39_code
def yX10_chance : MethodName := ⟨RX10, "chance", "(II)I"⟩
def zX10_chance : Zm := (RX10, cX10_chance, 3, (some .int), { frames := 15, cells := 0, slots := 0, locals := 400 })
set_option maxRecDepth 100000 in
theorem cl_X10_405 : cv_ RX10 405 yX1_waysWith zX1_waysWith 1 2 := sorry
abbrev po_X10_chance (T : Zt) (c g : Int) : Zt → Option Zv → Prop := fun T' r => ∃ x : Int, r = some (vI x) ∧ fr_ [(101, [13, 6, 7]), (434, []), (435, []), (431, []), (432, [])] T T' ∧ (x = x)
abbrev cX10_ball : ByteArray := prog_1_method_40_code
def yX10_ball : MethodName := ⟨RX10, "ball", "(IZ)I"⟩
def zX10_ball : Zm := (RX10, cX10_ball, 4, (some .int), { frames := 15, cells := 0, slots := 0, locals := 400 })
set_option maxRecDepth 100000 in
theorem cl_X10_414 : cv_ RX10 414 yX1_takeClub zX1_takeClub 1 0 := sorry
set_option maxRecDepth 100000 in
theorem cl_X10_417 : cv_ RX10 417 yX1_place zX1_place 1 1 := sorry
abbrev po_X10_ball (T : Zt) (s b : Int) : Zt → Option Zv → Prop := fun T' r => ∃ x : Int, r = some (vI x) ∧ fr_ [(101, [13, 6, 7, 5, 4]), (434, []), (435, []), (431, []), (432, []), (429, [])] T T' ∧ (x = x)

-- static rows and texts, which no method writes
section JS
variable {Y Yc : Zm} {T0 T : Zt} {P : Zt → Option Zv → Prop} {bc bs : Nat} {pc : Int} {ls : Zl} {st rest : List Zv} {y : MethodName} {Qp : Zt → Option Zv → Prop}
theorem sa_b : ∀ i, i < 3 → ∀ x, x < 16 → 0 ≤ (sa_ i).getD x 0 ∧ (sa_ i).getD x 0 ≤ 999 := sorry
theorem j_gs81 {idx i : Nat} (hp : 0 ≤ pc) (hi : i < 3) (hlk : Cond.fieldLink Y.1 idx "SportsHouse$RuleText" (sn_ i) "[I" ∈ lw_g) (hd : decode Y.2.1 pc.toNat = .ok (.getstatic idx, 3)) (kk : J_ Y T0 P bc bs (pc + 3) ls (vR 81 (i : Int) :: st) T) : J_ Y T0 P bc bs pc ls st T := sorry
theorem j_ld81 {i : Nat} {x : Int} (hp : 0 ≤ pc) (hi : i < 3) (h1 : 0 ≤ x) (h2 : x < 16) (hd : decode Y.2.1 pc.toNat = .ok (.iaload, 1)) (kk : J_ Y T0 P bc bs (pc + 1) ls (vI ((sa_ i).getD x.toNat 0) :: st) T) : J_ Y T0 P bc bs pc ls (vI x :: vR 81 (i : Int) :: st) T := sorry
theorem j_ldcS {idx i : Nat} (hp : 0 ≤ pc) (hY : Y.1 = "SportsHouse$RuleText") (hi : i < 3) (hx : (stx_ i).1 = idx) (hd : decode Y.2.1 pc.toNat = .ok (.ldc idx, 2)) (kk : J_ Y T0 P bc bs (pc + 2) ls (vR 82 (i : Int) :: st) T) : J_ Y T0 P bc bs pc ls st T := sorry
theorem j_gsC {idx : Nat} (hp : 0 ≤ pc) (hlk : Cond.fieldLink Y.1 idx "java/lang/String" "COMPACT_STRINGS" "Z" ∈ lw_g) (hd : decode Y.2.1 pc.toNat = .ok (.getstatic idx, 3)) (kk : J_ Y T0 P bc bs (pc + 3) ls (vI 1 :: st) T) : J_ Y T0 P bc bs pc ls st T := sorry
theorem j_gsF {idx : Nat} (hp : 0 ≤ pc) (hlk : Cond.fieldLink Y.1 idx "jdk/internal/util/Preconditions" "SIOOBE_FORMATTER" "Ljava/util/function/BiFunction;" ∈ lw_g) (hd : decode Y.2.1 pc.toNat = .ok (.getstatic idx, 3)) (k0 : J_ Y T0 P bc bs (pc + 3) ls (vN :: st) T) (k1 : J_ Y T0 P bc bs (pc + 3) ls (vR 84 0 :: st) T) : J_ Y T0 P bc bs pc ls st T := sorry
theorem j_gfC {idx i : Nat} (hp : 0 ≤ pc) (hi : i < 3) (hlk : Cond.fieldLink Y.1 idx "java/lang/String" "coder" "B" ∈ lw_g) (hd : decode Y.2.1 pc.toNat = .ok (.getfield idx, 3)) (kk : J_ Y T0 P bc bs (pc + 3) ls (vI 0 :: st) T) : J_ Y T0 P bc bs pc ls (vR 82 (i : Int) :: st) T := sorry
theorem j_gfV {idx i : Nat} (hp : 0 ≤ pc) (hi : i < 3) (hlk : Cond.fieldLink Y.1 idx "java/lang/String" "value" "[B" ∈ lw_g) (hd : decode Y.2.1 pc.toNat = .ok (.getfield idx, 3)) (kk : J_ Y T0 P bc bs (pc + 3) ls (vR 83 (i : Int) :: st) T) : J_ Y T0 P bc bs pc ls (vR 82 (i : Int) :: st) T := sorry
theorem j_len83 {i : Nat} {n : Int} (hp : 0 ≤ pc) (hi : i < 3) (hn : ((sle_.getD i 0 : Nat) : Int) = n) (hb : n ≤ 1000) (hd : decode Y.2.1 pc.toNat = .ok (.arraylength, 1)) (kk : J_ Y T0 P bc bs (pc + 1) ls (vI n :: st) T) : J_ Y T0 P bc bs pc ls (vR 83 (i : Int) :: st) T := sorry
theorem j_ba83 {i : Nat} {x n : Int} (hp : 0 ≤ pc) (hi : i < 3) (hn : ((sle_.getD i 0 : Nat) : Int) = n) (h1 : 0 ≤ x) (h2 : x < n) (hb : n ≤ 1000) (hv : ∀ k, k < 1000 → Int32.ofInt (((sby_.getD i []).getD k 0).toInt) = (sby_.getD i []).getD k 0 ∧ 0 ≤ ((sby_.getD i []).getD k 0).toInt ∧ ((sby_.getD i []).getD k 0).toInt ≤ 127) (hd : decode Y.2.1 pc.toNat = .ok (.baload, 1)) (kk : J_ Y T0 P bc bs (pc + 1) ls (vI ((sby_.getD i []).getD x.toNat 0).toInt :: st) T) : J_ Y T0 P bc bs pc ls (vI x :: vR 83 (i : Int) :: st) T := sorry
theorem i2c_b : ∀ n : Nat, n < 128 → ((Int32.ofInt (n : Int)).toUInt32 % 65536).toInt32 = Int32.ofInt (n : Int) := sorry
theorem nar_b : ∀ n : Nat, n < 128 → narrow .char (.int (Int32.ofInt (n : Int))) = .int (Int32.ofInt (n : Int)) ∧ narrow .byte (.int (Int32.ofInt (n : Int))) = .int (Int32.ofInt (n : Int)) := sorry
theorem j_i2c {x : Int} (hp : 0 ≤ pc) (h : 0 ≤ x ∧ x ≤ 127) (hd : decode Y.2.1 pc.toNat = .ok (.i2c, 1)) (kk : J_ Y T0 P bc bs (pc + 1) ls (vI x :: st) T) : J_ Y T0 P bc bs pc ls (vI x :: st) T := sorry
theorem j_iretN {x : Int} (hr : Y.2.2.2.1 = some .char ∨ Y.2.2.2.1 = some .byte) (h : 0 ≤ x ∧ x ≤ 127) (hd : decode Y.2.1 pc.toNat = .ok (.ireturn, 1)) (k : P T (some (vI x))) : J_ Y T0 P bc bs pc ls [vI x] T := sorry
/-- a call of a text's method -/
def ck82_ (own : String) (idx : Nat) (y : MethodName) (Yc : Zm) (n : Nat) : Prop := GoodIn lw_g (wsV own idx y.cls y (.code y Yc.2.1 Yc.2.2.1 Yc.2.2.2.1 :: lw_g)) ∧ (y.cls ≠ "java/lang/invoke/MethodHandle" ∧ y.cls ≠ "java/lang/invoke/VarHandle" ∧ (parseMethodDescriptor y.desc).map (fun d => d.parameters.length) = some n) ∧ y.cls = "java/lang/String"
theorem j_callK {idx n i : Nat} (as : List Zv) (hi : i < 3) (hC : Ct_ y Yc T (vR 82 (i : Int) :: as) Qp) (hcv : ck82_ Y.1 idx y Yc n) (hd : decode Y.2.1 pc.toNat = .ok (.invokevirtual idx, 3)) (hp : 0 ≤ pc) (hn : as.length = n) (hrm : rf_ Yc Y = true) (hrest : rest.length ≤ 4) (hmc : Yc.2.2.2.2.cells ≤ bc) (hms : Yc.2.2.2.2.slots ≤ bs) {st0 : List Zv} (hst : st0 = as.reverse ++ vR 82 (i : Int) :: rest) (kk : ∀ (T' : Zt) (r : Option Zv), Qp T' r → J_ Y T0 P (bc - Yc.2.2.2.2.cells) (bs - Yc.2.2.2.2.slots) (pc + 3) ls (r.toList ++ rest) T') : J_ Y T0 P bc bs pc ls st0 T := sorry
end JS


theorem bv_all : ∀ i, i < 3 → ∀ v ∈ sby_.getD i [], 0 ≤ v.toInt ∧ v.toInt ≤ 127 := sorry
/-- a byte of a text -/
def cb8_ (i : Nat) (x : Int) : Int := ((sby_.getD i []).getD x.toNat 0).toInt
theorem bv_k {i : Nat} (hi : i < 3) (k : Nat) : 0 ≤ ((sby_.getD i []).getD k 0).toInt ∧ ((sby_.getD i []).getD k 0).toInt ≤ 127 := sorry
theorem cb8_b {i : Nat} (hi : i < 3) (x : Int) : 0 ≤ cb8_ i x ∧ cb8_ i x ≤ 127 := sorry
theorem an_255 : ∀ n : Nat, n < 128 → an_ (n : Int) 255 = (n : Int) := sorry
theorem an_25 {x : Int} (h : 0 ≤ x ∧ x ≤ 127) : an_ x 255 = x := sorry
abbrev RJ0 : String := "java/lang/String"
def fJ0 : Zf := ([], [], [], [])
theorem tb_J0 : tb_ RJ0 fJ0 := sorry
abbrev RJ1 : String := "java/lang/StringLatin1"
def fJ1 : Zf := ([], [], [], [])
theorem tb_J1 : tb_ RJ1 fJ1 := sorry
abbrev RJ3 : String := "jdk/internal/util/Preconditions"
def fJ3 : Zf := ([], [], [], [])
theorem tb_J3 : tb_ RJ3 fJ3 := sorry
abbrev cJ3_checkIndex_8e157 : ByteArray := prog_22_method_11_code
def yJ3_checkIndex_8e157 : MethodName := ⟨RJ3, "checkIndex", "(IILjava/util/function/BiFunction;)I"⟩
def zJ3_checkIndex_8e157 : Zm := (RJ3, cJ3_checkIndex_8e157, 3, (some .int), { frames := 0, cells := 0, slots := 0, locals := 0 })
abbrev po_J3_checkIndex_n (T : Zt) (a n : Int) : Zt → Option Zv → Prop := fun T' r => T = T' ∧ r = some (vI (a))
set_option maxHeartbeats 4000000 in
theorem ct_J3_checkIndex_n {T : Zt} {a n : Int} (h1 : 0 ≤ a ∧ a < n) : Ct_ yJ3_checkIndex_8e157 zJ3_checkIndex_8e157 T [vI a, vI n, vN] (po_J3_checkIndex_n T a n) := sorry
abbrev po_J3_checkIndex_r (T : Zt) (a n : Int) : Zt → Option Zv → Prop := fun T' r => T = T' ∧ r = some (vI (a))
set_option maxHeartbeats 4000000 in
theorem ct_J3_checkIndex_r {T : Zt} {a n : Int} (h1 : 0 ≤ a ∧ a < n) : Ct_ yJ3_checkIndex_8e157 zJ3_checkIndex_8e157 T [vI a, vI n, vR 84 0] (po_J3_checkIndex_r T a n) := sorry
abbrev cJ0_checkIndex_df160 : ByteArray := prog_17_method_155_code
def yJ0_checkIndex_df160 : MethodName := ⟨RJ0, "checkIndex", "(II)V"⟩
def zJ0_checkIndex_df160 : Zm := (RJ0, cJ0_checkIndex_df160, 2, none, { frames := 1, cells := 0, slots := 0, locals := 22 })
set_option maxRecDepth 100000 in
theorem cl_J0_1059 : cs_ RJ0 1059 yJ3_checkIndex_8e157 zJ3_checkIndex_8e157 3 := sorry
abbrev po_J0_checkIndex_df160 (T : Zt) (a n : Int) : Zt → Option Zv → Prop := fun T' r => T = T' ∧ r = none
set_option maxHeartbeats 4000000 in
theorem ct_J0_checkIndex_df160 {T : Zt} {a n : Int} (h1 : 0 ≤ a ∧ a < n) : Ct_ yJ0_checkIndex_df160 zJ0_checkIndex_df160 T [vI a, vI n] (po_J0_checkIndex_df160 T a n) := sorry
abbrev cJ0_coder_7d493 : ByteArray := prog_17_method_152_code
def yJ0_coder_7d493 : MethodName := ⟨RJ0, "coder", "()B"⟩
def zJ0_coder_7d493 : Zm := (RJ0, cJ0_coder_7d493, 1, (some .byte), { frames := 0, cells := 0, slots := 0, locals := 0 })
abbrev po_J0_coder_0 (T : Zt) : Zt → Option Zv → Prop := fun T' r => T = T' ∧ r = some (vI (0))
set_option maxHeartbeats 4000000 in
theorem ct_J0_coder_0 {T : Zt} : Ct_ yJ0_coder_7d493 zJ0_coder_7d493 T [vR 82 0] (po_J0_coder_0 T) := sorry
abbrev cJ0_isLatin1_aae02 : ByteArray := prog_17_method_154_code
def yJ0_isLatin1_aae02 : MethodName := ⟨RJ0, "isLatin1", "()Z"⟩
def zJ0_isLatin1_aae02 : Zm := (RJ0, cJ0_isLatin1_aae02, 1, (some .boolean), { frames := 0, cells := 0, slots := 0, locals := 0 })
abbrev po_J0_isLatin1_0 (T : Zt) : Zt → Option Zv → Prop := fun T' r => T = T' ∧ r = some (vI (1))
set_option maxHeartbeats 4000000 in
theorem ct_J0_isLatin1_0 {T : Zt} : Ct_ yJ0_isLatin1_aae02 zJ0_isLatin1_aae02 T [vR 82 0] (po_J0_isLatin1_0 T) := sorry
abbrev cJ0_length_8abf5 : ByteArray := prog_17_method_54_code
def yJ0_length_8abf5 : MethodName := ⟨RJ0, "length", "()I"⟩
def zJ0_length_8abf5 : Zm := (RJ0, cJ0_length_8abf5, 1, (some .int), { frames := 1, cells := 0, slots := 0, locals := 20 })
set_option maxRecDepth 100000 in
theorem ck82_J0_335 : ck82_ RJ0 335 yJ0_coder_7d493 zJ0_coder_7d493 0 := sorry
abbrev po_J0_length_0 (T : Zt) : Zt → Option Zv → Prop := fun T' r => T = T' ∧ r = some (vI (82))
set_option maxHeartbeats 4000000 in
theorem ct_J0_length_0 {T : Zt} : Ct_ yJ0_length_8abf5 zJ0_length_8abf5 T [vR 82 0] (po_J0_length_0 T) := sorry
abbrev cJ1_charAt_3b067 : ByteArray := prog_18_method_2_code
def yJ1_charAt_3b067 : MethodName := ⟨RJ1, "charAt", "([BI)C"⟩
def zJ1_charAt_3b067 : Zm := (RJ1, cJ1_charAt_3b067, 2, (some .char), { frames := 2, cells := 0, slots := 0, locals := 43 })
set_option maxRecDepth 100000 in
theorem cl_J1_9 : cs_ RJ1 9 yJ0_checkIndex_df160 zJ0_checkIndex_df160 2 := sorry
abbrev po_J1_charAt_0 (T : Zt) (a : Int) : Zt → Option Zv → Prop := fun T' r => T = T' ∧ r = some (vI (cb8_ 0 a))
set_option maxHeartbeats 4000000 in
theorem ct_J1_charAt_0 {T : Zt} {a : Int} (h1 : 0 ≤ a ∧ a < 82) : Ct_ yJ1_charAt_3b067 zJ1_charAt_3b067 T [vR 83 0, vI a] (po_J1_charAt_0 T a) := sorry
abbrev cJ0_charAt_5068e : ByteArray := prog_17_method_56_code
def yJ0_charAt_5068e : MethodName := ⟨RJ0, "charAt", "(I)C"⟩
def zJ0_charAt_5068e : Zm := (RJ0, cJ0_charAt_5068e, 2, (some .char), { frames := 3, cells := 0, slots := 0, locals := 64 })
set_option maxRecDepth 100000 in
theorem ck82_J0_492 : ck82_ RJ0 492 yJ0_isLatin1_aae02 zJ0_isLatin1_aae02 0 := sorry
set_option maxRecDepth 100000 in
theorem cl_J0_495 : cs_ RJ0 495 yJ1_charAt_3b067 zJ1_charAt_3b067 2 := sorry
abbrev po_J0_charAt_0 (T : Zt) (a : Int) : Zt → Option Zv → Prop := fun T' r => T = T' ∧ r = some (vI (cb8_ 0 a))
set_option maxHeartbeats 4000000 in
theorem ct_J0_charAt_0 {T : Zt} {a : Int} (h1 : 0 ≤ a ∧ a < 82) : Ct_ yJ0_charAt_5068e zJ0_charAt_5068e T [vR 82 0, vI a] (po_J0_charAt_0 T a) := sorry
abbrev po_J0_coder_1 (T : Zt) : Zt → Option Zv → Prop := fun T' r => T = T' ∧ r = some (vI (0))
set_option maxHeartbeats 4000000 in
theorem ct_J0_coder_1 {T : Zt} : Ct_ yJ0_coder_7d493 zJ0_coder_7d493 T [vR 82 1] (po_J0_coder_1 T) := sorry
abbrev po_J0_isLatin1_1 (T : Zt) : Zt → Option Zv → Prop := fun T' r => T = T' ∧ r = some (vI (1))
set_option maxHeartbeats 4000000 in
theorem ct_J0_isLatin1_1 {T : Zt} : Ct_ yJ0_isLatin1_aae02 zJ0_isLatin1_aae02 T [vR 82 1] (po_J0_isLatin1_1 T) := sorry
abbrev po_J0_length_1 (T : Zt) : Zt → Option Zv → Prop := fun T' r => T = T' ∧ r = some (vI (36))
set_option maxHeartbeats 4000000 in
theorem ct_J0_length_1 {T : Zt} : Ct_ yJ0_length_8abf5 zJ0_length_8abf5 T [vR 82 1] (po_J0_length_1 T) := sorry
abbrev po_J1_charAt_1 (T : Zt) (a : Int) : Zt → Option Zv → Prop := fun T' r => T = T' ∧ r = some (vI (cb8_ 1 a))
set_option maxHeartbeats 4000000 in
theorem ct_J1_charAt_1 {T : Zt} {a : Int} (h1 : 0 ≤ a ∧ a < 36) : Ct_ yJ1_charAt_3b067 zJ1_charAt_3b067 T [vR 83 1, vI a] (po_J1_charAt_1 T a) := sorry
abbrev po_J0_charAt_1 (T : Zt) (a : Int) : Zt → Option Zv → Prop := fun T' r => T = T' ∧ r = some (vI (cb8_ 1 a))
set_option maxHeartbeats 4000000 in
theorem ct_J0_charAt_1 {T : Zt} {a : Int} (h1 : 0 ≤ a ∧ a < 36) : Ct_ yJ0_charAt_5068e zJ0_charAt_5068e T [vR 82 1, vI a] (po_J0_charAt_1 T a) := sorry
abbrev po_J0_coder_2 (T : Zt) : Zt → Option Zv → Prop := fun T' r => T = T' ∧ r = some (vI (0))
set_option maxHeartbeats 4000000 in
theorem ct_J0_coder_2 {T : Zt} : Ct_ yJ0_coder_7d493 zJ0_coder_7d493 T [vR 82 2] (po_J0_coder_2 T) := sorry
abbrev po_J0_isLatin1_2 (T : Zt) : Zt → Option Zv → Prop := fun T' r => T = T' ∧ r = some (vI (1))
set_option maxHeartbeats 4000000 in
theorem ct_J0_isLatin1_2 {T : Zt} : Ct_ yJ0_isLatin1_aae02 zJ0_isLatin1_aae02 T [vR 82 2] (po_J0_isLatin1_2 T) := sorry
abbrev po_J0_length_2 (T : Zt) : Zt → Option Zv → Prop := fun T' r => T = T' ∧ r = some (vI (37))
set_option maxHeartbeats 4000000 in
theorem ct_J0_length_2 {T : Zt} : Ct_ yJ0_length_8abf5 zJ0_length_8abf5 T [vR 82 2] (po_J0_length_2 T) := sorry
abbrev po_J1_charAt_2 (T : Zt) (a : Int) : Zt → Option Zv → Prop := fun T' r => T = T' ∧ r = some (vI (cb8_ 2 a))
set_option maxHeartbeats 4000000 in
theorem ct_J1_charAt_2 {T : Zt} {a : Int} (h1 : 0 ≤ a ∧ a < 37) : Ct_ yJ1_charAt_3b067 zJ1_charAt_3b067 T [vR 83 2, vI a] (po_J1_charAt_2 T a) := sorry
abbrev po_J0_charAt_2 (T : Zt) (a : Int) : Zt → Option Zv → Prop := fun T' r => T = T' ∧ r = some (vI (cb8_ 2 a))
set_option maxHeartbeats 4000000 in
theorem ct_J0_charAt_2 {T : Zt} {a : Int} (h1 : 0 ≤ a ∧ a < 37) : Ct_ yJ0_charAt_5068e zJ0_charAt_5068e T [vR 82 2, vI a] (po_J0_charAt_2 T a) := sorry
abbrev cX5_isBetween : ByteArray := prog_7_method_13_code
def yX5_isBetween : MethodName := ⟨RX5, "isBetween", "(III)Z"⟩
def zX5_isBetween : Zm := (RX5, cX5_isBetween, 4, (some .boolean), { frames := 0, cells := 0, slots := 0, locals := 0 })
abbrev cX5_takeRun : ByteArray := prog_7_method_12_code
def yX5_takeRun : MethodName := ⟨RX5, "takeRun", "(IIII)V"⟩
def zX5_takeRun : Zm := (RX5, cX5_takeRun, 5, none, { frames := 1, cells := 0, slots := 0, locals := 23 })
set_option maxRecDepth 100000 in
theorem cl_X5_104 : cv_ RX5 104 yX5_isBetween zX5_isBetween 5 3 := sorry
abbrev cX5_nextToken : ByteArray := prog_7_method_11_code
def yX5_nextToken : MethodName := ⟨RX5, "nextToken", "()V"⟩
def zX5_nextToken : Zm := (RX5, cX5_nextToken, 2, none, { frames := 2, cells := 0, slots := 0, locals := 47 })
set_option maxRecDepth 100000 in
theorem cl_X5_108 : cv_ RX5 108 yX5_takeRun zX5_takeRun 5 4 := sorry
abbrev cX5_fail : ByteArray := prog_7_method_8_code
def yX5_fail : MethodName := ⟨RX5, "fail", "(I)Z"⟩
def zX5_fail : Zm := (RX5, cX5_fail, 2, (some .boolean), { frames := 0, cells := 0, slots := 0, locals := 0 })
abbrev cX5_isOfKind : ByteArray := prog_7_method_9_code
def yX5_isOfKind : MethodName := ⟨RX5, "isOfKind", "(I)Z"⟩
def zX5_isOfKind : Zm := (RX5, cX5_isOfKind, 2, (some .boolean), { frames := 1, cells := 0, slots := 0, locals := 21 })
set_option maxRecDepth 100000 in
theorem cl_X5_59 : cv_ RX5 59 yX5_fail zX5_fail 5 1 := sorry
abbrev cX5_wordOf : ByteArray := prog_7_method_10_code
def yX5_wordOf : MethodName := ⟨RX5, "wordOf", "(Ljava/lang/String;)I"⟩
def zX5_wordOf : Zm := (RX5, cX5_wordOf, 6, (some .int), { frames := 4, cells := 0, slots := 0, locals := 85 })
set_option maxRecDepth 100000 in
theorem ck82_X5_92 : ck82_ RX5 92 yJ0_length_8abf5 zJ0_length_8abf5 0 := sorry
set_option maxRecDepth 100000 in
theorem ck82_X5_98 : ck82_ RX5 98 yJ0_charAt_5068e zJ0_charAt_5068e 1 := sorry
set_option maxRecDepth 100000 in
theorem cl_X5_79 : cv_ RX5 79 yX5_isOfKind zX5_isOfKind 5 1 := sorry
/-- the values that were told are within their bounds -/
def VB8_ (T : Zt) : Prop := ∀ k : Int, 0 ≤ k → k < 16 → (sa_ 1).getD k.toNat 0 ≤ T 504 0 k ∧ T 504 0 k ≤ (sa_ 2).getD k.toNat 0
def VC8_ (T : Zt) : Prop := VB8_ T ∧ T 504 0 2 ≤ T 504 0 1
abbrev cX5_readRule : ByteArray := prog_7_method_6_code
def yX5_readRule : MethodName := ⟨RX5, "readRule", "(II)Z"⟩
def zX5_readRule : Zm := (RX5, cX5_readRule, 5, (some .boolean), { frames := 3, cells := 0, slots := 0, locals := 68 })
set_option maxRecDepth 100000 in
theorem cl_X5_43 : cv_ RX5 43 yX5_nextToken zX5_nextToken 5 0 := sorry
abbrev cX5_readPoints : ByteArray := prog_7_method_5_code
def yX5_readPoints : MethodName := ⟨RX5, "readPoints", "()Z"⟩
def zX5_readPoints : Zm := (RX5, cX5_readPoints, 1, (some .boolean), { frames := 4, cells := 0, slots := 0, locals := 92 })
set_option maxRecDepth 100000 in
theorem cl_X5_75 : cv_ RX5 75 yX5_readRule zX5_readRule 5 2 := sorry
abbrev cX5_readSport : ByteArray := prog_7_method_4_code
def yX5_readSport : MethodName := ⟨RX5, "readSport", "()Z"⟩
def zX5_readSport : Zm := (RX5, cX5_readSport, 2, (some .boolean), { frames := 5, cells := 0, slots := 0, locals := 110 })
set_option maxRecDepth 100000 in
theorem cl_X5_55 : cv_ RX5 55 yX5_wordOf zX5_wordOf 5 1 := sorry
abbrev cX5_readOrder : ByteArray := prog_7_method_7_code
def yX5_readOrder : MethodName := ⟨RX5, "readOrder", "()Z"⟩
def zX5_readOrder : Zm := (RX5, cX5_readOrder, 4, (some .boolean), { frames := 5, cells := 0, slots := 0, locals := 110 })

abbrev cX5_readStatement : ByteArray := prog_7_method_3_code
def yX5_readStatement : MethodName := ⟨RX5, "readStatement", "()Z"⟩
def zX5_readStatement : Zm := (RX5, cX5_readStatement, 3, (some .boolean), { frames := 6, cells := 0, slots := 0, locals := 133 })
theorem ds_X5_readStatement_44 : decode cX5_readStatement 44 = .ok (.tableswitch 65 0 3 #[32, 40, 48, 53], 32) := sorry
set_option maxRecDepth 100000 in
theorem cl_X5_63 : cv_ RX5 63 yX5_readSport zX5_readSport 5 0 := sorry
set_option maxRecDepth 100000 in
theorem cl_X5_66 : cv_ RX5 66 yX5_readPoints zX5_readPoints 5 0 := sorry
set_option maxRecDepth 100000 in
theorem cl_X5_69 : cv_ RX5 69 yX5_readOrder zX5_readOrder 5 0 := sorry
abbrev po_J7_fill_505 (T : Zt) (p : Int) (v : Int) : Zt → Option Zv → Prop := fun T' r => r = none ∧ fr_ [(505, [])] T T' ∧ oi_ T T' p ∧ ∀ j, 0 ≤ j → j < 7 → T' 505 p j = v
set_option maxHeartbeats 4000000 in
theorem ct_J7_fill_505 {T : Zt} {p : Int} {v : Int} (h1 : (-1) ≤ v ∧ v ≤ 6) : Ct_ yJ7_fill_53178 zJ7_fill_53178 T [vR 505 p, vI v] (po_J7_fill_505 T p v) := sorry
abbrev cX5_read : ByteArray := prog_7_method_2_code
def yX5_read : MethodName := ⟨RX5, "read", "()Z"⟩
def zX5_read : Zm := (RX5, cX5_read, 2, (some .boolean), { frames := 7, cells := 0, slots := 0, locals := 155 })
set_option maxRecDepth 100000 in
theorem cl_X5_49 : cv_ RX5 49 yX5_readStatement zX5_readStatement 5 0 := sorry
set_option maxRecDepth 100000 in
theorem cl_X5_37 : cs_ RX5 37 yJ7_fill_53178 zJ7_fill_53178 2 := sorry
section JQ2
variable {Y Yc : Zm} {T0 T : Zt} {P : Zt → Option Zv → Prop} {bc bs bc' bs' : Nat} {pc : Int} {ls : Zl} {st rest : List Zv}
/-- a clone of an int row of the tables -/
theorem j_clone2 {idx k k0 : Nat} {lo hi lo0 hi0 i i0 n : Int} (hp : 0 ≤ pc) (ha0 : ta_ k0 = some (1, some n, lo0, hi0)) (ha : ta_ k = some (1, some n, lo, hi)) (hlo : lo ≤ lo0 ∧ hi0 ≤ hi) (hn : 0 ≤ n ∧ n ≤ 100000000) (hfr : ¬ al_ T k i) (how : ∀ o, ow_ k = some o → al_ T o i ∨ al_ T (o + 50) i) (hml : Cond.methodLink Y.1 idx ⟨"[I", "clone", "()Ljava/lang/Object;"⟩ ∈ lw_g) (hsm : Cond.sameMethod "[I" "java/lang/Object" "clone" "()Ljava/lang/Object;" ∈ lw_g) (hna : Cond.native ⟨"java/lang/Object", "clone", "()Ljava/lang/Object;"⟩ ∈ lw_g) (hin : Cond.instanceMethod ⟨"java/lang/Object", "clone", "()Ljava/lang/Object;"⟩ ∈ lw_g) (hse : Cond.selects "[I" ⟨"[I", "clone", "()Ljava/lang/Object;"⟩ ⟨"java/lang/Object", "clone", "()Ljava/lang/Object;"⟩ ∈ lw_g) (hf : 1 ≤ Y.2.2.2.2.frames) (hlo2 : 30 ≤ Y.2.2.2.2.locals) (hrest : st.length ≤ 8) (hb : bc' + 1 ≤ bc) (hbs : bs' + n.toNat ≤ bs) (hd : decode Y.2.1 pc.toNat = .ok (.invokevirtual idx, 3)) (kk : J_ Y T0 P bc' bs' (pc + 3) ls (vR k i :: st) (nu_ T k i n (T k0 i0))) : J_ Y T0 P bc bs pc ls (vR k0 i0 :: st) T := sorry
end JQ2
theorem nu_tc {T U : Zt} {k : Nat} {i n : Int} {f : Int → Int} (h : U = nu_ T k i n f) (j : Int) (hj : 0 ≤ j) : U k i j = f j := sorry
/-- a competition is new -/
def nc_ (T T' : Zt) : Prop := fr_ [(105, [7, 8, 9, 2, 3, 6, 1]), (504, []), (505, []), (106, [2]), (521, []), (150, []), (100, []), (401, []), (402, []), (403, []), (404, [])] T T' ∧ (T' 106 0 2 = T 106 0 2 + 1 ∧ T 106 0 2 < 4) ∧ (∀ (k : Nat) (i j : Int), k = 100 ∨ k = 150 ∨ k = 401 ∨ k = 403 ∨ k = 404 → i ≠ T 106 0 2 → T' k i j = T k i j) ∧ (∀ j, j ≠ T 106 0 2 → T' 521 0 j = T 521 0 j) ∧ T' 521 0 (T 106 0 2) = 1 ∧ (T' 100 (T 106 0 2) 5 = 0 ∧ T' 100 (T 106 0 2) 6 = 0 ∧ T' 100 (T 106 0 2) 7 = 0 ∧ T' 100 (T 106 0 2) 8 = 0) ∧ (∀ j, 0 ≤ j → j < 16 → (sa_ 1).getD j.toNat 0 ≤ T' 401 (T 106 0 2) j ∧ T' 401 (T 106 0 2) j ≤ (sa_ 2).getD j.toNat 0) ∧ T' 401 (T 106 0 2) 2 ≤ T' 401 (T 106 0 2) 1 ∧ NA_ T'
abbrev cX10_competition : ByteArray := prog_1_method_4_code
def yX10_competition : MethodName := ⟨RX10, "competition", "()I"⟩
def zX10_competition : Zm := (RX10, cX10_competition, 3, (some .int), { frames := 8, cells := 5, slots := 57, locals := 176 })
set_option maxRecDepth 100000 in
theorem cl_X10_80 : cv_ RX10 80 yX5_read zX5_read 5 0 := sorry
set_option maxRecDepth 100000 in
theorem ci_X10_104 : ci_ RX10 104 yX0_init zX0_init 3 := sorry
abbrev po_X10_competition (T : Zt) : Zt → Option Zv → Prop := fun T' r => ∃ x : Int, r = some (vI x) ∧ (fr_ [(105, [7, 8, 9, 2, 3, 6, 1]), (504, []), (505, [])] T T' ∨ nc_ T T')

abbrev po_X10_enter_k (T : Zt) (c b : Int) : Zt → Option Zv → Prop := fun T' r => ∃ x : Int, r = some (vI x) ∧ fr_ [(404, []), (403, []), (100, [5])] T T' ∧ (KE_ T' ∧ ∀ d z, 0 ≤ T 404 d z → 0 ≤ T' 404 d z)
abbrev po_X10_walkOver_k (T : Zt) (m d : Int) : Zt → Option Zv → Prop := fun T' r => ∃ x : Int, r = some (vI x) ∧ fr_ [(102, [6])] T T' ∧ (∀ i, T' 102 i 6 = T 102 i 6 ∨ T' 102 i 6 ≠ -1)
set_option maxHeartbeats 4000000 in
theorem ct_X10_walkOver_k {T : Zt} {m d : Int} (hka : KA_ T) : Ct_ yX10_walkOver zX10_walkOver T [vR 110 0, vI m, vI d] (po_X10_walkOver_k T m d) := sorry
/-- what holds of the house between the calls; N: how many there were -/
def IC_ (N : Int) (T : Zt) : Prop := (KA_ T ∧ KM_ T ∧ KC_ T ∧ KR_ T ∧ KS_ T ∧ KO_ T ∧ KE_ T ∧ KB_ T ∧ KP_ T ∧ KW_ T) ∧ DD_ T ∧ NA_ T ∧ LP_ N T ∧ (T 109 0 15 ≠ 0 → T 190 (T 109 0 15 - 1) (-2) = 4096 ∧ 1 ≤ T 109 0 15) ∧ 0 ≤ T 191 0 0 ∧ T 191 0 0 ≤ 1 + 600 * N
abbrev wt8_ (ws : List (Nat × List Int)) : Prop := ((∀ j, fw_ ws 521 j = false) ∧ (∀ j, fw_ ws 523 j = false) ∧ (∀ j, fw_ ws 401 j = false) ∧ (∀ j, fw_ ws 403 j = false) ∧ (∀ j, fw_ ws 404 j = false)) ∧ (fw_ ws 106 2 = false ∧ fw_ ws 106 4 = false) ∧ (fw_ ws 102 0 = false ∧ fw_ ws 102 1 = false ∧ fw_ ws 102 3 = false ∧ fw_ ws 102 4 = false) ∧ fw_ ws 100 5 = false ∧ fw_ ws 100 6 = false ∧ fw_ ws 100 7 = false ∧ fw_ ws 100 8 = false
theorem ic_t {ws : List (Nat × List Int)} {T T' : Zt} (h : KA_ T ∧ KM_ T ∧ KC_ T ∧ KR_ T ∧ KS_ T ∧ KO_ T ∧ KE_ T ∧ KB_ T ∧ KP_ T ∧ KW_ T) (f : fr_ ws T T') (w : wt8_ ws) : KA_ T' ∧ KM_ T' ∧ KC_ T' ∧ KR_ T' ∧ KS_ T' ∧ KO_ T' ∧ KE_ T' ∧ KB_ T' ∧ KP_ T' ∧ KW_ T' := sorry
abbrev wn_ (ws : List (Nat × List Int)) : Prop := fw_ ws 150 (-1) = false ∧ fw_ ws 152 (-1) = false ∧ fw_ ws 153 (-1) = false ∧ fw_ ws 100 (-1) = false ∧ fw_ ws 102 (-1) = false ∧ fw_ ws 103 (-1) = false ∧ fw_ ws 102 10 = false ∧ fw_ ws 106 4 = false ∧ fw_ ws 106 2 = false
abbrev wl_ (ws : List (Nat × List Int)) : Prop := fw_ ws 106 4 = false ∧ fw_ ws 106 2 = false ∧ fw_ ws 102 10 = false ∧ fw_ ws 103 0 = false ∧ fw_ ws 103 3 = false ∧ fw_ ws 103 14 = false ∧ fw_ ws 103 15 = false ∧ fw_ ws 103 16 = false ∧ fw_ ws 103 17 = false ∧ fw_ ws 470 0 = false ∧ fw_ ws 470 1 = false
/-- a slack row that is there was counted -/
theorem sx_9 {T : Zt} (hT : ok_T T) (ha : al_ T 109 0) (h : T 109 0 15 ≠ 0) : T 109 0 15 - 1 < T 191 0 0 := sorry
theorem sk_l {T T' : Zt} (hT : ok_T T) (ha : al_ T 109 0) (h : T 109 0 15 ≠ 0 → T 190 (T 109 0 15 - 1) (-2) = 4096 ∧ 1 ≤ T 109 0 15) (l : lh_ T T') (e : T' 109 0 15 = T 109 0 15) : T' 109 0 15 ≠ 0 → T' 190 (T' 109 0 15 - 1) (-2) = 4096 ∧ 1 ≤ T' 109 0 15 := sorry
/-- a call that keeps away from all of it -/
theorem ic_f {N : Int} {ws : List (Nat × List Int)} {T T' : Zt} (h : IC_ N T) (f : fr_ ws T T') (w : wt8_ ws) (w2 : fw_ ws 102 5 = false ∧ fw_ ws 102 6 = false) (wn : wn_ ws) (wl : wl_ ws) (w9 : fw_ ws 109 15 = false ∧ fw_ ws 190 (-2) = false ∧ fw_ ws 191 0 = false) : IC_ (N + 1) T' := sorry
theorem ic_e {N : Int} {T : Zt} (h : IC_ N T) : IC_ (N + 1) T := sorry
theorem ic_person {N : Int} {T T' : Zt} {r : Option Zv} (h : IC_ N T) (q : po_X10_person T T' r) : IC_ (N + 1) T' := sorry
theorem ic_club {N : Int} {T T' : Zt} {r : Option Zv} {s c : Int} (h : IC_ N T) (q : po_X10_club T s c T' r) : IC_ (N + 1) T' := sorry
theorem ic_official {N : Int} {T T' : Zt} {r : Option Zv} {s c : Int} (h : IC_ N T) (q : po_X10_official T s c T' r) : IC_ (N + 1) T' := sorry
theorem ic_day {N : Int} {T T' : Zt} {r : Option Zv} {d : Int} (h : IC_ N T) (q : po_X10_day T d T' r) : IC_ (N + 1) T' := sorry
theorem ic_sign {N : Int} {T T' : Zt} {r : Option Zv} {c : Int} (h : IC_ N T) (q : po_X10_sign T c T' r) : IC_ (N + 1) T' := sorry
theorem ic_wipe {N : Int} {T T' : Zt} {r : Option Zv} (h : IC_ N T) (q : po_X10_wipe T T' r) : IC_ (N + 1) T' := sorry
theorem ic_register {N : Int} {T T' : Zt} {r : Option Zv} {p cl a b : Int} (h : IC_ N T) (q : po_X10_register T p cl a b T' r) : IC_ (N + 1) T' := sorry
theorem ic_deduct {N : Int} {T T' : Zt} {r : Option Zv} {c cl p : Int} (h : IC_ N T) (q : po_X10_deduct T c cl p T' r) : IC_ (N + 1) T' := sorry
theorem ic_eligible {N : Int} {T T' : Zt} {r : Option Zv} {q m d : Int} (h : IC_ N T) (q : po_X10_eligible T q m d T' r) : IC_ (N + 1) T' := sorry
theorem ic_drawing {N : Int} {T T' : Zt} {r : Option Zv} {g l : Int} (h : IC_ N T) (q : po_X10_drawing T g l T' r) : IC_ (N + 1) T' := sorry
theorem ic_pot {N : Int} {T T' : Zt} {r : Option Zv} {c k : Int} (h : IC_ N T) (q : po_X10_pot T c k T' r) : IC_ (N + 1) T' := sorry
theorem ic_firsts {N : Int} {T T' : Zt} {r : Option Zv} {c b : Int} (h : IC_ N T) (q : po_X10_firsts T c b T' r) : IC_ (N + 1) T' := sorry
theorem ic_table {N : Int} {T T' : Zt} {r : Option Zv} {c d b w : Int} (h : IC_ N T) (q : po_X10_table T c d b w T' r) : IC_ (N + 1) T' := sorry
theorem ic_parted {N : Int} {T T' : Zt} {r : Option Zv} {c d k : Int} (h : IC_ N T) (q : po_X10_parted T c d k T' r) : IC_ (N + 1) T' := sorry
theorem ic_standing {N : Int} {T T' : Zt} {r : Option Zv} {c d k : Int} (h : IC_ N T) (q : po_X10_standing T c d k T' r) : IC_ (N + 1) T' := sorry
theorem ic_lineUp {N : Int} {T T' : Zt} {r : Option Zv} {q b s : Int} (h : IC_ N T) (q : po_X10_lineUp T q b s T' r) : IC_ (N + 1) T' := sorry
theorem ic_ways {N : Int} {T T' : Zt} {r : Option Zv} (h : IC_ N T) (q : po_X10_ways T T' r) : IC_ (N + 1) T' := sorry
theorem ic_chance {N : Int} {T T' : Zt} {r : Option Zv} {c g : Int} (h : IC_ N T) (q : po_X10_chance T c g T' r) : IC_ (N + 1) T' := sorry
theorem ic_ball {N : Int} {T T' : Zt} {r : Option Zv} {s b : Int} (h : IC_ N T) (q : po_X10_ball T s b T' r) : IC_ (N + 1) T' := sorry
theorem ic_event {N : Int} {T T' : Zt} {r : Option Zv} {m k s a b : Int} (hT : ok_T T) (ha : al_ T 109 0) (h : IC_ N T) (q : po_X10_event T N m k s a b T' r) : IC_ (N + 1) T' := sorry
theorem ic_review {N : Int} {T T' : Zt} {r : Option Zv} {m i k s a b : Int} (hT : ok_T T) (ha : al_ T 109 0) (h : IC_ N T) (q : po_X10_review T N m i k s a b T' r) : IC_ (N + 1) T' := sorry
theorem LP_m {N N2 : Int} {T : Zt} (h : LP_ N T) (g : N ≤ N2) : LP_ N2 T := sorry
theorem ic_start {N : Int} {T T' : Zt} {r : Option Zv} {m : Int} (hT : ok_T T) (ha : al_ T 109 0) (h : IC_ N T) (q : po_X10_start T N m T' r) : IC_ (N + 1) T' := sorry
theorem ic_assign {N : Int} {T T' : Zt} {r : Option Zv} {d9 : Int} (hT : ok_T T) (ha : al_ T 109 0) (h : IC_ N T) (q : po_X10_assign T d9 T' r) : IC_ (N + 1) T' := sorry
theorem ic_can {N : Int} {T T' : Zt} {r : Option Zv} {c b : Int} (hT : ok_T T) (ha : al_ T 109 0) (h : IC_ N T) (q : po_X10_can T c b T' r) : IC_ (N + 1) T' := sorry
theorem ic_postpone {N : Int} {T T' : Zt} {r : Option Zv} {m d9 : Int} (h : IC_ N T) (q : po_X10_postpone_k T m d9 T' r) : IC_ (N + 1) T' := sorry
theorem ic_walkOver {N : Int} {T T' : Zt} {r : Option Zv} {m d9 : Int} (h : IC_ N T) (q : po_X10_walkOver_k T m d9 T' r) : IC_ (N + 1) T' := sorry
theorem ic_enter {N : Int} {T T' : Zt} {r : Option Zv} {c9 b9 : Int} (h : IC_ N T) (q : po_X10_enter_k T c9 b9 T' r) : IC_ (N + 1) T' := sorry
theorem ic_plan {N : Int} {T T' : Zt} {r : Option Zv} {c b : Int} (hT : ok_T T) (h : IC_ N T) (q : po_X10_plan T c b T' r) : IC_ (N + 1) T' := sorry
theorem ic_competition {N : Int} {T T' : Zt} {r : Option Zv} (hT : ok_T T) (h : IC_ N T) (q : po_X10_competition T T' r) : IC_ (N + 1) T' := sorry
-- spans, told exactly
/-- v is the last below m of those that are p's, or -1 -/
def lpz_ (T : Zt) (p m v : Int) : Prop := (v = -1 ∧ ∀ j, 0 ≤ j → j < m → T 217 0 j ≠ p) ∨ (0 ≤ v ∧ v < m ∧ T 217 0 v = p ∧ ∀ j, v < j → j < m → T 217 0 j ≠ p)
/-- both sides keep the same spans; the house's are chained by person -/
def SPR_ (T : Zt) : Prop := T 108 0 5 = T 111 0 16 ∧ (∀ s, 0 ≤ s → s < T 108 0 5 → T 566 0 s = T 218 0 s ∧ T 567 0 s = T 219 0 s ∧ T 568 0 s = T 220 0 s) ∧ (∀ p, 0 ≤ p → p < T 108 0 3 → lpz_ T p (T 108 0 5) (T 564 0 p)) ∧ (∀ s, 0 ≤ s → s < T 108 0 5 → lpz_ T (T 217 0 s) s (T 569 0 s)) ∧ (∀ s, 0 ≤ s → s < T 108 0 5 → 0 ≤ T 217 0 s ∧ T 217 0 s < T 108 0 3)
/-- from m on no span of p meets a to b -/
def FSP_ (T : Zt) (p a b m : Int) : Prop := ∀ j, m ≤ j → j < T 108 0 5 → T 217 0 j = p → ¬ (T 567 0 j ≤ b ∧ a ≤ T 568 0 j)
theorem lpz_lt {T : Zt} {p m v : Int} (h : lpz_ T p m v) (hv : v ≠ -1) : 0 ≤ v ∧ v < m ∧ T 217 0 v = p := sorry
theorem lpz_n {T : Zt} {p m v : Int} (hs : SPR_ T) (h : lpz_ T p m v) (hv : v ≠ -1) (hm : m ≤ T 108 0 5) : lpz_ T p v (T 569 0 v) := sorry
theorem fsp_z {T : Zt} {p a b : Int} : FSP_ T p a b (T 108 0 5) := sorry
theorem fsp_s {T : Zt} {p a b m v : Int} (h : lpz_ T p m v) (hf : FSP_ T p a b m) (hv : v ≠ -1) (hn : ¬ (T 567 0 v ≤ b ∧ a ≤ T 568 0 v)) : FSP_ T p a b v := sorry
theorem fsp_0 {T : Zt} {p a b m v : Int} (h : lpz_ T p m v) (hf : FSP_ T p a b m) (hv : v = -1 ∨ m ≤ 0) : FSP_ T p a b 0 := sorry
theorem fsp_1 {T : Zt} {p a b m v : Int} (h : lpz_ T p m v) (hv : v ≠ -1) (hm : m ≤ T 108 0 5) (h1 : T 567 0 v ≤ b) (h2 : a ≤ T 568 0 v) : ¬ FSP_ T p a b 0 := sorry
/-- a span more, the house's -/
def AS_ (T T' : Zt) (p cl a b : Int) : Prop := T' 108 0 5 = T 108 0 5 + 1 ∧ (T' 566 0 (T 108 0 5) = cl ∧ T' 567 0 (T 108 0 5) = a ∧ T' 568 0 (T 108 0 5) = b ∧ T' 569 0 (T 108 0 5) = T 564 0 p ∧ T' 564 0 p = T 108 0 5) ∧ (∀ j, j ≠ T 108 0 5 → T' 566 0 j = T 566 0 j ∧ T' 567 0 j = T 567 0 j ∧ T' 568 0 j = T 568 0 j ∧ T' 569 0 j = T 569 0 j) ∧ (∀ j, j ≠ p → T' 564 0 j = T 564 0 j)
theorem as_e {T : Zt} {p cl a b : Int} : AS_ T (up_ (up_ (up_ (up_ (up_ (up_ T 566 0 (T 108 0 5) cl) 567 0 (T 108 0 5) a) 568 0 (T 108 0 5) b) 569 0 (T 108 0 5) (T 564 0 p)) 564 0 p (T 108 0 5)) 108 0 5 (T 108 0 5 + 1)) p cl a b := sorry
/-- a span more, the reference's -/
def AM_ (T T' : Zt) (p cl a b : Int) : Prop := T' 111 0 16 = T 111 0 16 + 1 ∧ (T' 217 0 (T 111 0 16) = p ∧ T' 218 0 (T 111 0 16) = cl ∧ T' 219 0 (T 111 0 16) = a ∧ T' 220 0 (T 111 0 16) = b) ∧ (∀ j, j ≠ T 111 0 16 → T' 217 0 j = T 217 0 j ∧ T' 218 0 j = T 218 0 j ∧ T' 219 0 j = T 219 0 j ∧ T' 220 0 j = T 220 0 j)
theorem am_e {T : Zt} {p cl a b : Int} : AM_ T (up_ (up_ (up_ (up_ (up_ T 217 0 (T 111 0 16) p) 218 0 (T 111 0 16) cl) 219 0 (T 111 0 16) a) 220 0 (T 111 0 16) b) 111 0 16 (T 111 0 16 + 1)) p cl a b := sorry
/-- below m no span of p meets a to b, the reference's -/
def FSR_ (T : Zt) (p a b m : Int) : Prop := ∀ j, 0 ≤ j → j < m → T 217 0 j = p → ¬ (T 219 0 j ≤ b ∧ a ≤ T 220 0 j)
theorem fsr_s {T : Zt} {p a b s : Int} (h : FSR_ T p a b s) (hn : ¬ (T 217 0 s = p ∧ T 219 0 s ≤ b ∧ a ≤ T 220 0 s)) : FSR_ T p a b (s + 1) := sorry
theorem fsr_m {T : Zt} {p a b s n : Int} (h : FSR_ T p a b s) (e : n ≤ s) : FSR_ T p a b n := sorry
theorem fsr_w {T : Zt} {p a b s n : Int} (h0 : 0 ≤ s) (h1 : s < n) (h2 : T 217 0 s = p) (h3 : T 219 0 s ≤ b) (h4 : a ≤ T 220 0 s) : ¬ FSR_ T p a b n := sorry
theorem fs_eq {T : Zt} {p a b : Int} (h : SPR_ T) : FSP_ T p a b 0 ↔ FSR_ T p a b (T 111 0 16) := sorry
abbrev OKP_ (p cl np nc : Int) : Prop := 0 ≤ p ∧ p < np ∧ 0 ≤ cl ∧ cl < nc
abbrev OKD_ (a b : Int) : Prop := 0 ≤ a ∧ a ≤ 999 ∧ 0 ≤ b ∧ b ≤ 999 ∧ a ≤ b
def QR_ (T T' : Zt) (p cl a b x : Int) : Prop := (x = -2 ∧ ¬ OKP_ p cl (T 108 0 3) (T 108 0 2) ∧ T' = T) ∨ (x = -3 ∧ OKP_ p cl (T 108 0 3) (T 108 0 2) ∧ ¬ OKD_ a b ∧ T' = T) ∨ (x = -4 ∧ OKP_ p cl (T 108 0 3) (T 108 0 2) ∧ OKD_ a b ∧ ¬ FSP_ T p a b 0 ∧ T' = T) ∨ (x = -5 ∧ OKP_ p cl (T 108 0 3) (T 108 0 2) ∧ OKD_ a b ∧ FSP_ T p a b 0 ∧ T 108 0 5 = 300 ∧ T' = T) ∨ (x = T 108 0 5 + 1 ∧ OKP_ p cl (T 108 0 3) (T 108 0 2) ∧ OKD_ a b ∧ FSP_ T p a b 0 ∧ T 108 0 5 < 300 ∧ AS_ T T' p cl a b)
def QM_ (T T' : Zt) (p cl a b x : Int) : Prop := (x = -2 ∧ ¬ OKP_ p cl (T 111 0 15) (T 111 0 12) ∧ T' = T) ∨ (x = -3 ∧ OKP_ p cl (T 111 0 15) (T 111 0 12) ∧ ¬ OKD_ a b ∧ T' = T) ∨ (x = -4 ∧ OKP_ p cl (T 111 0 15) (T 111 0 12) ∧ OKD_ a b ∧ ¬ FSR_ T p a b (T 111 0 16) ∧ T' = T) ∨ (x = -5 ∧ OKP_ p cl (T 111 0 15) (T 111 0 12) ∧ OKD_ a b ∧ FSR_ T p a b (T 111 0 16) ∧ T 111 0 16 = 300 ∧ T' = T) ∨ (x = T 111 0 16 + 1 ∧ OKP_ p cl (T 111 0 15) (T 111 0 12) ∧ OKD_ a b ∧ FSR_ T p a b (T 111 0 16) ∧ T 111 0 16 < 300 ∧ AM_ T T' p cl a b)
/-- a person more: the house's chain of it is empty -/
def QP_ (T T' : Zt) (x : Int) : Prop := (T 108 0 3 = 200 ∧ x = -5 ∧ T' = T) ∨ (T 108 0 3 < 200 ∧ x = T 108 0 3 ∧ T' 108 0 3 = T 108 0 3 + 1 ∧ T' 564 0 (T 108 0 3) = -1 ∧ ∀ j, j ≠ T 108 0 3 → T' 564 0 j = T 564 0 j)
theorem qp_e {T : Zt} (h : T 108 0 3 < 200) : QP_ T (up_ (up_ T 564 0 (T 108 0 3) (-1)) 108 0 3 (T 108 0 3 + 1)) (T 108 0 3) := sorry
abbrev po_X8_isRegisteredWithin_e (T : Zt) (p a b : Int) : Zt → Option Zv → Prop := fun T' r => T = T' ∧ ∃ x : Int, r = some (vI x) ∧ ((x = 1 ∧ ¬ FSP_ T p a b 0) ∨ (x = 0 ∧ FSP_ T p a b 0))
set_option maxHeartbeats 4000000 in
theorem ct_X8_isRegisteredWithin_e {T : Zt} {p a b : Int} (h1 : 0 ≤ p ∧ p < 200) (h2 : p < T 108 0 3) (hsp : SPR_ T) : Ct_ yX8_isRegisteredWithin zX8_isRegisteredWithin T [vR 108 0, vI p, vI a, vI b] (po_X8_isRegisteredWithin_e T p a b) := sorry
abbrev po_X8_addSpan_e (T : Zt) (p cl a b : Int) : Zt → Option Zv → Prop := fun T' r => r = none ∧ fr_ [(108, [5]), (566, []), (567, []), (568, []), (569, []), (564, [])] T T' ∧ (AS_ T T' p cl a b)
set_option maxHeartbeats 4000000 in
theorem ct_X8_addSpan_e {T : Zt} {p cl a b : Int} (h1 : 0 ≤ p ∧ p < 200) (h2 : 0 ≤ cl ∧ cl < 12) (h3 : 0 ≤ a ∧ a ≤ 999) (h4 : 0 ≤ b ∧ b ≤ 999) (h5 : T 108 0 5 < 300) : Ct_ yX8_addSpan zX8_addSpan T [vR 108 0, vI p, vI cl, vI a, vI b] (po_X8_addSpan_e T p cl a b) := sorry
abbrev po_X10_register_e (T : Zt) (p cl a b : Int) : Zt → Option Zv → Prop := fun T' r => ∃ x : Int, r = some (vI x) ∧ fr_ [(108, [5]), (566, []), (567, []), (568, []), (569, []), (564, [])] T T' ∧ (QR_ T T' p cl a b x)
set_option maxHeartbeats 4000000 in
theorem ct_X10_register_e {T : Zt} {p cl a b : Int} (hsp : SPR_ T) : Ct_ yX10_register zX10_register T [vR 110 0, vI p, vI cl, vI a, vI b] (po_X10_register_e T p cl a b) := sorry
abbrev po_X10_person_e (T : Zt) : Zt → Option Zv → Prop := fun T' r => ∃ x : Int, r = some (vI x) ∧ fr_ [(108, [3]), (564, [])] T T' ∧ (QP_ T T' x)
set_option maxHeartbeats 4000000 in
theorem ct_X10_person_e {T : Zt} : Ct_ yX10_person zX10_person T [vR 110 0] (po_X10_person_e T) := sorry
abbrev po_X11_register_e (T : Zt) (p c f t : Int) : Zt → Option Zv → Prop := fun T' r => ∃ x : Int, r = some (vI x) ∧ fr_ [(111, [16]), (217, []), (218, []), (219, []), (220, [])] T T' ∧ (QM_ T T' p c f t x)
set_option maxHeartbeats 4000000 in
theorem ct_X11_register_e {T : Zt} {p c f t : Int} : Ct_ yX11_register zX11_register T [vR 111 0, vI p, vI c, vI f, vI t] (po_X11_register_e T p c f t) := sorry
-- spans: what keeps them alike
def krc_ (T T' : Zt) : Prop := T' 108 0 5 = T 108 0 5 ∧ (∀ j, T' 566 0 j = T 566 0 j) ∧ (∀ j, T' 567 0 j = T 567 0 j) ∧ (∀ j, T' 568 0 j = T 568 0 j) ∧ (∀ j, T' 569 0 j = T 569 0 j)
def kfs_ (T T' : Zt) : Prop := ∀ j, T' 564 0 j = T 564 0 j
def krm_ (T T' : Zt) : Prop := T' 111 0 16 = T 111 0 16 ∧ (∀ j, T' 217 0 j = T 217 0 j) ∧ (∀ j, T' 218 0 j = T 218 0 j) ∧ (∀ j, T' 219 0 j = T 219 0 j) ∧ (∀ j, T' 220 0 j = T 220 0 j)
theorem lpz_c {T T' : Zt} {p m v : Int} (h : lpz_ T p m v) (e : ∀ j, 0 ≤ j → j < m → T' 217 0 j = T 217 0 j) : lpz_ T' p m v := sorry
theorem spr_k {T T' : Zt} (h : SPR_ T) (e : T' 108 0 3 = T 108 0 3) (k : krc_ T T') (f : kfs_ T T') (m : krm_ T T') : SPR_ T' := sorry
/-- a person more on the house's side, then on the reference's -/
theorem spr_p {T T1 T2 : Zt} {x : Int} (h : SPR_ T) (q : QP_ T T1 x) (k : krc_ T T1) (m : krm_ T T1) (e2 : T2 108 0 3 = T1 108 0 3) (k2 : krc_ T1 T2) (f2 : kfs_ T1 T2) (m2 : krm_ T1 T2) : SPR_ T2 := sorry
/-- a span more on both sides -/
theorem spr_a {T T1 T2 : Zt} {p cl a b : Int} (h : SPR_ T) (hp : 0 ≤ p ∧ p < T 108 0 3) (hn : 0 ≤ T 108 0 5) (A : AS_ T T1 p cl a b) (m : krm_ T T1) (e1 : T1 108 0 3 = T 108 0 3) (B : AM_ T1 T2 p cl a b) (k : krc_ T1 T2) (f : kfs_ T1 T2) (e2 : T2 108 0 3 = T1 108 0 3) : SPR_ T2 := sorry
/-- register on both sides: the same answer, and the spans stay alike -/
theorem spr_r {T T1 T2 : Zt} {p cl a b x1 x2 : Int} (h : SPR_ T) (hn : 0 ≤ T 108 0 5) (ep : T 108 0 3 = T 111 0 15) (ec : T 108 0 2 = T 111 0 12) (A : QR_ T T1 p cl a b x1) (m : krm_ T T1) (e1 : T1 108 0 3 = T 108 0 3) (e3 : T1 111 0 15 = T 111 0 15) (e4 : T1 111 0 12 = T 111 0 12) (B : QM_ T1 T2 p cl a b x2) (k : krc_ T1 T2) (f : kfs_ T1 T2) (e2 : T2 108 0 3 = T1 108 0 3) : x1 = x2 ∧ SPR_ T2 := sorry
-- the tokens of a text
abbrev lt9_ (c : Int) : Prop := 97 ≤ c ∧ c ≤ 122
abbrev dg9_ (c : Int) : Prop := 48 ≤ c ∧ c ≤ 57
def BP9_ (b : Int → Int) (a s : Int) : Prop := ∀ i, a ≤ i → i < s → b i = 10 ∨ b i = 32
def RP9_ (b : Int → Int) (lo hi s e : Int) : Prop := ∀ i, s ≤ i → i < e → lo ≤ b i ∧ b i ≤ hi
/-- the token behind a begins at s -/
def SK9_ (b : Int → Int) (n a s : Int) : Prop := a ≤ s ∧ s ≤ n ∧ BP9_ b a s ∧ (s < n → ¬ (b s = 10 ∨ b s = 32))
/-- from s the run of such signs ends at e -/
def RN9_ (b : Int → Int) (n lo hi s e : Int) : Prop := s ≤ e ∧ e ≤ n ∧ RP9_ b lo hi s e ∧ (e < n → ¬ (lo ≤ b e ∧ b e ≤ hi))
/-- the token behind a: from s to e, of kind k -/
def TK9_ (b : Int → Int) (n a s e k : Int) : Prop := SK9_ b n a s ∧ ((¬ s < n ∧ e = s ∧ k = 0) ∨ (s < n ∧ lt9_ (b s) ∧ RN9_ b n 97 122 s e ∧ ((e - s ≤ 12 ∧ k = 1) ∨ (12 < e - s ∧ k = 5))) ∨ (s < n ∧ dg9_ (b s) ∧ RN9_ b n 48 57 s e ∧ ((e - s ≤ 3 ∧ k = 2) ∨ (3 < e - s ∧ k = 5))) ∨ (s < n ∧ ¬ lt9_ (b s) ∧ ¬ dg9_ (b s) ∧ e = s + 1 ∧ ((b s = 59 ∧ k = 3) ∨ (b s = 44 ∧ k = 4) ∨ (b s ≠ 59 ∧ b s ≠ 44 ∧ k = 5))))
theorem bp9_z {b : Int → Int} {a : Int} : BP9_ b a a := sorry
theorem bp9_s {b : Int → Int} {a s : Int} (h : BP9_ b a s) (g : b s = 10 ∨ b s = 32) : BP9_ b a (s + 1) := sorry
theorem rp9_z {b : Int → Int} {lo hi s : Int} : RP9_ b lo hi s s := sorry
theorem rp9_s {b : Int → Int} {lo hi s e : Int} (h : RP9_ b lo hi s e) (g : lo ≤ b e ∧ b e ≤ hi) : RP9_ b lo hi s (e + 1) := sorry
theorem sk9_u {b : Int → Int} {n a s s' : Int} (h : SK9_ b n a s) (g : SK9_ b n a s') : s = s' := sorry
theorem rn9_u {b : Int → Int} {n lo hi s e e' : Int} (h : RN9_ b n lo hi s e) (g : RN9_ b n lo hi s e') : e = e' := sorry
/-- there is but one next token -/
theorem tk9_u {b : Int → Int} {n a s e k s' e' k' : Int} (h : TK9_ b n a s e k) (g : TK9_ b n a s' e' k') : s = s' ∧ e = e' ∧ k = k' := sorry
theorem tk9_0 {b : Int → Int} {n a s s' e k : Int} (h : SK9_ b n a s) (e1 : s' = s) (h1 : ¬ s < n) (h2 : e = s) (h3 : k = 0) : TK9_ b n a s' e k := sorry
theorem tk9_1 {b : Int → Int} {n a s s' e k : Int} (h : SK9_ b n a s) (e1 : s' = s) (h1 : s < n) (h2 : lt9_ (b s)) (h3 : RN9_ b n 97 122 s e) (h4 : (e - s ≤ 12 ∧ k = 1) ∨ (12 < e - s ∧ k = 5)) : TK9_ b n a s' e k := sorry
theorem tk9_2 {b : Int → Int} {n a s s' e k : Int} (h : SK9_ b n a s) (e1 : s' = s) (h1 : s < n) (h2 : dg9_ (b s)) (h3 : RN9_ b n 48 57 s e) (h4 : (e - s ≤ 3 ∧ k = 2) ∨ (3 < e - s ∧ k = 5)) : TK9_ b n a s' e k := sorry
theorem tk9_3 {b : Int → Int} {n a s s' e k : Int} (h : SK9_ b n a s) (e1 : s' = s) (h1 : s < n) (h2 : ¬ lt9_ (b s)) (h3 : ¬ dg9_ (b s)) (h4 : e = s + 1) (h5 : (b s = 59 ∧ k = 3) ∨ (b s = 44 ∧ k = 4) ∨ (b s ≠ 59 ∧ b s ≠ 44 ∧ k = 5)) : TK9_ b n a s' e k := sorry
abbrev po_X5_isBetween_e (T : Zt) (a l h : Int) : Zt → Option Zv → Prop := fun T' r => T = T' ∧ ∃ x : Int, r = some (vI x) ∧ ((x = 1 ∧ l ≤ T 500 0 a ∧ T 500 0 a ≤ h) ∨ (x = 0 ∧ ¬ (l ≤ T 500 0 a ∧ T 500 0 a ≤ h)))
set_option maxHeartbeats 4000000 in
theorem ct_X5_isBetween_e {T : Zt} {a l h : Int} (h1 : 0 ≤ a ∧ a < 400) : Ct_ yX5_isBetween zX5_isBetween T [vR 105 0, vI a, vI l, vI h] (po_X5_isBetween_e T a l h) := sorry
abbrev po_X5_takeRun_e (T : Zt) (l h k m : Int) : Zt → Option Zv → Prop := fun T' r => r = none ∧ fr_ [(105, [7, 9])] T T' ∧ (RN9_ (fun j => T 500 0 j) (T 105 0 1) l h (T 105 0 9) (T' 105 0 9) ∧ ((T' 105 0 9 - T 105 0 8 ≤ m ∧ T' 105 0 7 = k) ∨ (m < T' 105 0 9 - T 105 0 8 ∧ T' 105 0 7 = 5)))
set_option maxHeartbeats 4000000 in
theorem ct_X5_takeRun_e {T : Zt} {l h k m : Int} (hk : 0 ≤ k ∧ k ≤ 5) (h9 : T 105 0 9 ≤ T 105 0 1) : Ct_ yX5_takeRun zX5_takeRun T [vR 105 0, vI l, vI h, vI k, vI m] (po_X5_takeRun_e T l h k m) := sorry
abbrev po_X5_nextToken_e (T : Zt) : Zt → Option Zv → Prop := fun T' r => r = none ∧ fr_ [(105, [7, 8, 9])] T T' ∧ (TK9_ (fun j => T 500 0 j) (T 105 0 1) (T 105 0 9) (T' 105 0 8) (T' 105 0 9) (T' 105 0 7))
set_option maxHeartbeats 4000000 in
theorem ct_X5_nextToken_e {T : Zt} (h9 : T 105 0 9 ≤ T 105 0 1) : Ct_ yX5_nextToken zX5_nextToken T [vR 105 0] (po_X5_nextToken_e T) := sorry
-- the reference's token
def nv9_ (b : Int → Int) (s : Int) : Nat → Int
  | 0 => 0
  | m + 1 => 10 * nv9_ b s m + b (s + m) - 48
theorem nv9_s {b : Int → Int} {s e v : Int} (h0 : s ≤ e) (h : v = 10 * nv9_ b s (e - s).toNat + b e - 48) : v = nv9_ b s (e + 1 - s).toNat := sorry
/-- what the reference's take leaves, when nothing was bad before -/
def TM9_ (b : Int → Int) (n a s t k v bn ba ba0 : Int) : Prop := ∃ e k9, TK9_ b n a s e k9 ∧ ((k9 ≠ 5 ∧ t = e ∧ k = k9 ∧ bn = 0 ∧ ba = ba0 ∧ (k9 = 2 → v = nv9_ b s (e - s).toNat)) ∨ (k9 = 5 ∧ bn = 1 ∧ ba = s))
theorem tm9_0 {b : Int → Int} {n a s s' t k v bn ba ba0 : Int} (h : SK9_ b n a s) (e1 : s' = s) (h1 : ¬ s < n) (h2 : t = s) (h3 : k = 0) (h4 : bn = 0) (h5 : ba = ba0) : TM9_ b n a s' t k v bn ba ba0 := sorry
theorem tm9_1 {b : Int → Int} {n a s s' t k v bn ba ba0 : Int} (h : SK9_ b n a s) (e1 : s' = s) (h1 : s < n) (h2 : lt9_ (b s)) (h3 : RN9_ b n 97 122 s t) (h4 : (t - s ≤ 12 ∧ k = 1 ∧ bn = 0 ∧ ba = ba0) ∨ (12 < t - s ∧ bn = 1 ∧ ba = s)) : TM9_ b n a s' t k v bn ba ba0 := sorry
theorem tm9_2 {b : Int → Int} {n a s s' t k v bn ba ba0 : Int} (h : SK9_ b n a s) (e1 : s' = s) (h1 : s < n) (h2 : dg9_ (b s)) (h3 : RN9_ b n 48 57 s t) (hv : t - s ≤ 3 → v = nv9_ b s (t - s).toNat) (h4 : (t - s ≤ 3 ∧ k = 2 ∧ bn = 0 ∧ ba = ba0) ∨ (3 < t - s ∧ bn = 1 ∧ ba = s)) : TM9_ b n a s' t k v bn ba ba0 := sorry
theorem tm9_3 {b : Int → Int} {n a s s' t k v bn ba ba0 : Int} (h : SK9_ b n a s) (e1 : s' = s) (h1 : s < n) (h2 : ¬ lt9_ (b s)) (h3 : ¬ dg9_ (b s)) (h5 : (b s = 59 ∧ k = 3 ∧ t = s + 1 ∧ bn = 0 ∧ ba = ba0) ∨ (b s = 44 ∧ k = 4 ∧ t = s + 1 ∧ bn = 0 ∧ ba = ba0) ∨ (b s ≠ 59 ∧ b s ≠ 44 ∧ bn = 1 ∧ ba = s)) : TM9_ b n a s' t k v bn ba ba0 := sorry
abbrev po_X11_bad_e (T : Zt) (number place : Int) : Zt → Option Zv → Prop := fun T' r => r = none ∧ fr_ [(111, [62, 63])] T T' ∧ ((T 111 0 62 = 0 ∧ T' 111 0 62 = number ∧ T' 111 0 63 = place) ∨ (T 111 0 62 ≠ 0 ∧ T' 111 0 62 = T 111 0 62 ∧ T' 111 0 63 = T 111 0 63))
set_option maxHeartbeats 4000000 in
theorem ct_X11_bad_e {T : Zt} {number place : Int} (h1 : 1 ≤ number ∧ number ≤ 5) (h2 : -1 ≤ place ∧ place ≤ 400) : Ct_ yX11_bad zX11_bad T [vR 111 0, vI number, vI place] (po_X11_bad_e T number place) := sorry
abbrev po_X11_take_e (T : Zt) : Zt → Option Zv → Prop := fun T' r => r = none ∧ fr_ [(111, [57, 58, 59, 60, 61, 62, 63])] T T' ∧ (T' 111 0 57 = T' 111 0 60 ∧ TM9_ (fun j => T 200 0 j) (T 111 0 1) (T 111 0 57) (T' 111 0 59) (T' 111 0 60) (T' 111 0 58) (T' 111 0 61) (T' 111 0 62) (T' 111 0 63) (T 111 0 63))
set_option maxHeartbeats 4000000 in
theorem ct_X11_take_e {T : Zt} (h1 : T 111 0 57 ≤ T 111 0 1) (h62 : T 111 0 62 = 0) : Ct_ yX11_take zX11_take T [vR 111 0] (po_X11_take_e T) := sorry
-- words: a token's place in a list of words
def PM9_ (w : List Int) (b : Int → Int) (s k0 m : Int) : Prop := ∀ j, 0 ≤ j → j < m → b (s + j) = w.getD (k0 + j).toNat 0
/-- the text from s to e is the word from k0 to e0 -/
def EW9_ (w : List Int) (b : Int → Int) (s e k0 e0 : Int) : Prop := e0 - k0 = e - s ∧ PM9_ w b s k0 (e - s)
/-- x is the number of the word that the text from s to e is, or -1 -/
def WD9_ (w : List Int) (ts : List (Int × Int × Int)) (b : Int → Int) (s e x : Int) : Prop := (∃ k0 e0, (k0, x, e0) ∈ ts ∧ EW9_ w b s e k0 e0) ∨ (x = -1 ∧ ∀ k0 n e0, (k0, n, e0) ∈ ts → ¬ EW9_ w b s e k0 e0)
def ds9_ (w : List Int) (ts : List (Int × Int × Int)) : Bool := ts.all fun q => decide (0 ≤ q.1) && ts.all fun z => q.2.1 == z.2.1 || (q.2.2 - q.1 != z.2.2 - z.1) || ((List.range (q.2.2 - q.1).toNat).any fun j => w.getD (q.1.toNat + j) 0 != w.getD (z.1.toNat + j) 0)
theorem ds9_0 : ds9_ wl_264 wt_264 = true := sorry
theorem ds9_1 : ds9_ wl_265 wt_265 = true := sorry
theorem ds9_2 : ds9_ wl_266 wt_266 = true := sorry
theorem wd9_u {w : List Int} {ts : List (Int × Int × Int)} {b : Int → Int} {s e x x' : Int} (hd : ds9_ w ts = true) (h : WD9_ w ts b s e x) (g : WD9_ w ts b s e x') : x = x' := sorry
/-- how far the token goes along with the word from k0, seen up to k -/
def SM9_ (w : List Int) (b : Int → Int) (s e k0 k q : Int) : Prop := (q = k - k0 ∧ k - k0 ≤ e - s ∧ PM9_ w b s k0 (k - k0)) ∨ (q = -1 ∧ ¬ (k - k0 ≤ e - s ∧ PM9_ w b s k0 (k - k0)))
theorem sm9_z {w : List Int} {b : Int → Int} {s e k0 : Int} (h : s ≤ e) : SM9_ w b s e k0 k0 0 := sorry
theorem sm9_s {w : List Int} {b : Int → Int} {s e k0 k q : Int} (h : SM9_ w b s e k0 k q) (h0 : 0 ≤ q) (h1 : s + q < e) (h2 : b (s + q) = w.getD k.toNat 0) : SM9_ w b s e k0 (k + 1) (q + 1) := sorry
theorem sm9_n {w : List Int} {b : Int → Int} {s e k0 k q : Int} (h : SM9_ w b s e k0 k q) (hk : k0 ≤ k) (hn : ¬ (0 ≤ q ∧ s + q < e ∧ b (s + q) = w.getD k.toNat 0)) : SM9_ w b s e k0 (k + 1) (-1) := sorry
theorem sm9_e {w : List Int} {b : Int → Int} {s e k0 e0 q : Int} (h : SM9_ w b s e k0 e0 q) (hs : s ≤ e) (hq : q = e - s) : EW9_ w b s e k0 e0 := sorry
theorem sm9_f {w : List Int} {b : Int → Int} {s e k0 e0 q : Int} (h : SM9_ w b s e k0 e0 q) (hq : q ≠ e - s) : ¬ EW9_ w b s e k0 e0 := sorry
-- words: the house's walk along a text of words
def tbc9_ (w : List Int) (ts : List (Int × Int × Int)) (c : Int → Int) (L : Nat) (nW : Int) : Bool := (ts.all fun q => decide (0 ≤ q.2.1 ∧ q.2.1 < nW ∧ 0 ≤ q.1 ∧ q.1 ≤ q.2.2 ∧ q.2.2 < (L : Int) ∧ c q.2.2 = 59) && (((List.range L).all fun j => if q.1 ≤ (j : Int) ∧ (j : Int) < q.2.2 then decide (c (j : Int) = w.getD j 0 ∧ c (j : Int) ≠ 59) else true) && (((ts.any fun z => z.1 == q.2.2 + 1 && z.2.1 == q.2.1 + 1) || decide (q.2.2 + 1 = (L : Int) ∧ q.2.1 + 1 = nW)) && (ts.all fun z => if z.2.1 = q.2.1 then decide (z.1 = q.1 ∧ z.2.2 = q.2.2) else true)))) && (ts.any fun z => z.1 == 0 && z.2.1 == 0)
def TB9_ (w : List Int) (ts : List (Int × Int × Int)) (c : Int → Int) (L nW : Int) : Prop := (∀ k0 n e0, (k0, n, e0) ∈ ts → (0 ≤ n ∧ n < nW ∧ 0 ≤ k0 ∧ k0 ≤ e0 ∧ e0 < L ∧ c e0 = 59) ∧ (∀ k, k0 ≤ k → k < e0 → c k = w.getD k.toNat 0 ∧ c k ≠ 59) ∧ ((∃ e1, (e0 + 1, n + 1, e1) ∈ ts) ∨ (e0 + 1 = L ∧ n + 1 = nW)) ∧ ∀ k1 e1, (k1, n, e1) ∈ ts → k1 = k0 ∧ e1 = e0) ∧ ∃ e1, (0, 0, e1) ∈ ts
theorem tb9_c {w : List Int} {ts : List (Int × Int × Int)} {c : Int → Int} {L : Nat} {nW : Int} (h : tbc9_ w ts c L nW = true) : TB9_ w ts c (L : Int) nW := sorry
theorem tb9_0 : TB9_ wl_264 wt_264 (cb8_ 0) 82 14 := sorry
theorem tb9_1 : TB9_ wl_265 wt_265 (cb8_ 1) 36 4 := sorry
theorem tb9_2 : TB9_ wl_266 wt_266 (cb8_ 2) 37 7 := sorry
/-- the words before number p are other words; the token goes along with word p by q signs, seen up to k -/
def WI9_ (w : List Int) (ts : List (Int × Int × Int)) (b : Int → Int) (s e L nW p q k : Int) : Prop := (∀ k0 n e0, (k0, n, e0) ∈ ts → n < p → ¬ EW9_ w b s e k0 e0) ∧ ((∃ k0 e0, (k0, p, e0) ∈ ts ∧ k0 ≤ k ∧ k ≤ e0 ∧ SM9_ w b s e k0 k q) ∨ (k = L ∧ p = nW))
section WI9
variable {w : List Int} {ts : List (Int × Int × Int)} {c b : Int → Int} {s e L nW p q k : Int}
theorem wi9_0 (ht : TB9_ w ts c L nW) (hs : s ≤ e) : WI9_ w ts b s e L nW 0 0 0 := sorry
theorem wi9_b (ht : TB9_ w ts c L nW) (h : WI9_ w ts b s e L nW p q k) (hk : k < L) : ∃ k0 e0, (k0, p, e0) ∈ ts ∧ k0 ≤ k ∧ k ≤ e0 ∧ SM9_ w b s e k0 k q := sorry
theorem wi9_m (ht : TB9_ w ts c L nW) (h : WI9_ w ts b s e L nW p q k) (hk : k < L) (hc : c k = 59) (hs : s ≤ e) (hq : q = e - s) : WD9_ w ts b s e p := sorry
theorem wi9_n (ht : TB9_ w ts c L nW) (h : WI9_ w ts b s e L nW p q k) (hk : k < L) (hc : c k = 59) (hs : s ≤ e) (hq : q ≠ e - s) : WI9_ w ts b s e L nW (p + 1) 0 (k + 1) := sorry
theorem wi9_y (ht : TB9_ w ts c L nW) (h : WI9_ w ts b s e L nW p q k) (hk : k < L) (hc : c k ≠ 59) (h0 : 0 ≤ q) (h1 : s + q < e) (h2 : b (s + q) = c k) : WI9_ w ts b s e L nW p (q + 1) (k + 1) := sorry
theorem wi9_x (ht : TB9_ w ts c L nW) (h : WI9_ w ts b s e L nW p q k) (hk : k < L) (hc : c k ≠ 59) (hn : ¬ (0 ≤ q ∧ s + q < e ∧ b (s + q) = c k)) : WI9_ w ts b s e L nW p (-1) (k + 1) := sorry
theorem wi9_e (ht : TB9_ w ts c L nW) (h : WI9_ w ts b s e L nW p q k) (hk : ¬ k < L) : WD9_ w ts b s e (-1) := sorry
end WI9


-- wordOf of the house
abbrev po_X5_fail_e (T : Zt) (k : Int) : Zt → Option Zv → Prop := fun T' r => ∃ x : Int, r = some (vI x) ∧ fr_ [(105, [2, 3])] T T' ∧ (x = 0 ∧ T' 105 0 2 = k ∧ T' 105 0 3 = T 105 0 8)
set_option maxHeartbeats 4000000 in
theorem ct_X5_fail_e {T : Zt} {k : Int} (hk : 0 ≤ k ∧ k ≤ 5) : Ct_ yX5_fail zX5_fail T [vR 105 0, vI k] (po_X5_fail_e T k) := sorry
abbrev po_X5_isOfKind_e (T : Zt) (k : Int) : Zt → Option Zv → Prop := fun T' r => ∃ x : Int, r = some (vI x) ∧ fr_ [(105, [2, 3])] T T' ∧ ((T 105 0 7 = 5 ∧ x = 0 ∧ T' 105 0 2 = 1 ∧ T' 105 0 3 = T 105 0 8) ∨ (T 105 0 7 ≠ 5 ∧ T 105 0 7 = k ∧ x = 1 ∧ T' 105 0 2 = T 105 0 2 ∧ T' 105 0 3 = T 105 0 3) ∨ (T 105 0 7 ≠ 5 ∧ T 105 0 7 ≠ k ∧ x = 0 ∧ T' 105 0 2 = 2 ∧ T' 105 0 3 = T 105 0 8))
set_option maxHeartbeats 4000000 in
theorem ct_X5_isOfKind_e {T : Zt} {k : Int} : Ct_ yX5_isOfKind zX5_isOfKind T [vR 105 0, vI k] (po_X5_isOfKind_e T k) := sorry
abbrev po_X5_wordOf_e0 (T : Zt) : Zt → Option Zv → Prop := fun T' r => ∃ x : Int, r = some (vI x) ∧ fr_ [(105, [2, 3])] T T' ∧ ((T 105 0 7 ≠ 1 ∧ x = -1 ∧ T' 105 0 2 = (if T 105 0 7 = 5 then 1 else 2) ∧ T' 105 0 3 = T 105 0 8) ∨ (T 105 0 7 = 1 ∧ (0 ≤ x ∧ x < 14) ∧ WD9_ wl_264 wt_264 (fun j => T 500 0 j) (T 105 0 8) (T 105 0 9) x ∧ T' 105 0 2 = T 105 0 2 ∧ T' 105 0 3 = T 105 0 3) ∨ (T 105 0 7 = 1 ∧ x = -1 ∧ WD9_ wl_264 wt_264 (fun j => T 500 0 j) (T 105 0 8) (T 105 0 9) (-1) ∧ T' 105 0 2 = 3 ∧ T' 105 0 3 = T 105 0 8))
set_option maxHeartbeats 4000000 in
theorem ct_X5_wordOf_e0 {T : Zt} (hse : T 105 0 8 ≤ T 105 0 9) : Ct_ yX5_wordOf zX5_wordOf T [vR 105 0, vR 82 0] (po_X5_wordOf_e0 T) := sorry
abbrev po_X5_wordOf_e1 (T : Zt) : Zt → Option Zv → Prop := fun T' r => ∃ x : Int, r = some (vI x) ∧ fr_ [(105, [2, 3])] T T' ∧ ((T 105 0 7 ≠ 1 ∧ x = -1 ∧ T' 105 0 2 = (if T 105 0 7 = 5 then 1 else 2) ∧ T' 105 0 3 = T 105 0 8) ∨ (T 105 0 7 = 1 ∧ (0 ≤ x ∧ x < 4) ∧ WD9_ wl_265 wt_265 (fun j => T 500 0 j) (T 105 0 8) (T 105 0 9) x ∧ T' 105 0 2 = T 105 0 2 ∧ T' 105 0 3 = T 105 0 3) ∨ (T 105 0 7 = 1 ∧ x = -1 ∧ WD9_ wl_265 wt_265 (fun j => T 500 0 j) (T 105 0 8) (T 105 0 9) (-1) ∧ T' 105 0 2 = 3 ∧ T' 105 0 3 = T 105 0 8))
set_option maxHeartbeats 4000000 in
theorem ct_X5_wordOf_e1 {T : Zt} (hse : T 105 0 8 ≤ T 105 0 9) : Ct_ yX5_wordOf zX5_wordOf T [vR 105 0, vR 82 1] (po_X5_wordOf_e1 T) := sorry
abbrev po_X5_wordOf_e2 (T : Zt) : Zt → Option Zv → Prop := fun T' r => ∃ x : Int, r = some (vI x) ∧ fr_ [(105, [2, 3])] T T' ∧ ((T 105 0 7 ≠ 1 ∧ x = -1 ∧ T' 105 0 2 = (if T 105 0 7 = 5 then 1 else 2) ∧ T' 105 0 3 = T 105 0 8) ∨ (T 105 0 7 = 1 ∧ (0 ≤ x ∧ x < 7) ∧ WD9_ wl_266 wt_266 (fun j => T 500 0 j) (T 105 0 8) (T 105 0 9) x ∧ T' 105 0 2 = T 105 0 2 ∧ T' 105 0 3 = T 105 0 3) ∨ (T 105 0 7 = 1 ∧ x = -1 ∧ WD9_ wl_266 wt_266 (fun j => T 500 0 j) (T 105 0 8) (T 105 0 9) (-1) ∧ T' 105 0 2 = 3 ∧ T' 105 0 3 = T 105 0 8))
set_option maxHeartbeats 4000000 in
theorem ct_X5_wordOf_e2 {T : Zt} (hse : T 105 0 8 ≤ T 105 0 9) : Ct_ yX5_wordOf zX5_wordOf T [vR 105 0, vR 82 2] (po_X5_wordOf_e2 T) := sorry
-- whichOf of the reference
/-- whether the first n signs of the token are the word's, as 0 or 1 -/
def SB9_ (w : List Int) (b : Int → Int) (s e k n q : Int) : Prop := (q = 1 ∧ n ≤ e - s ∧ PM9_ w b s k n) ∨ (q = 0 ∧ ¬ (n ≤ e - s ∧ PM9_ w b s k n))
theorem sb9_z {w : List Int} {b : Int → Int} {s e k : Int} (h : s ≤ e) : SB9_ w b s e k 0 1 := sorry
theorem sb9_s {w : List Int} {b : Int → Int} {s e k n q : Int} (h : SB9_ w b s e k n q) (h0 : q = 1) (h1 : s + n < e) (h2 : b (s + n) = w.getD (k + n).toNat 0) : SB9_ w b s e k (n + 1) 1 := sorry
theorem sb9_n {w : List Int} {b : Int → Int} {s e k n q : Int} (h : SB9_ w b s e k n q) (hn0 : 0 ≤ n) (hn : ¬ (q = 1 ∧ s + n < e ∧ b (s + n) = w.getD (k + n).toNat 0)) : SB9_ w b s e k (n + 1) 0 := sorry
theorem sb9_e {w : List Int} {b : Int → Int} {s e k e0 n q : Int} (h : SB9_ w b s e k n q) (he : k + n = e0) (h1 : q = 1) (h2 : n = e - s) : EW9_ w b s e k e0 := sorry
theorem sb9_f {w : List Int} {b : Int → Int} {s e k e0 n q : Int} (h : SB9_ w b s e k n q) (he : k + n = e0) (hn : ¬ (q = 1 ∧ n = e - s)) : ¬ EW9_ w b s e k e0 := sorry
/-- of the words before number nr: x is one that the token is, or -1 and it is none of them -/
def WN9_ (w : List Int) (ts : List (Int × Int × Int)) (b : Int → Int) (s e nr x : Int) : Prop := (∃ k0 e0, (k0, x, e0) ∈ ts ∧ EW9_ w b s e k0 e0) ∨ (x = -1 ∧ ∀ k0 n e0, (k0, n, e0) ∈ ts → n < nr → ¬ EW9_ w b s e k0 e0)
theorem wn9_z {w : List Int} {ts : List (Int × Int × Int)} {c b : Int → Int} {s e L nW : Int} (ht : TB9_ w ts c L nW) : WN9_ w ts b s e 0 (-1) := sorry
theorem wn9_y {w : List Int} {ts : List (Int × Int × Int)} {b : Int → Int} {s e nr k e0 : Int} (hm : (k, nr, e0) ∈ ts) (he : EW9_ w b s e k e0) : WN9_ w ts b s e (nr + 1) nr := sorry
theorem wn9_n {w : List Int} {ts : List (Int × Int × Int)} {c b : Int → Int} {s e L nW nr x k e0 : Int} (ht : TB9_ w ts c L nW) (h : WN9_ w ts b s e nr x) (hm : (k, nr, e0) ∈ ts) (he : ¬ EW9_ w b s e k e0) : WN9_ w ts b s e (nr + 1) x := sorry
theorem wn9_e {w : List Int} {ts : List (Int × Int × Int)} {c b : Int → Int} {s e L nW x : Int} (ht : TB9_ w ts c L nW) (h : WN9_ w ts b s e nW x) : WD9_ w ts b s e x := sorry
theorem ww9_264 {T : Zt} (hC : CW_ T) {k nr : Int} (h : wp_264 k nr) (hk : k < 82) : ∃ e, (k, nr, e) ∈ wt_264 ∧ 0 ≤ k ∧ k ≤ e ∧ e < 82 ∧ (∀ i, k ≤ i → i < e → T 264 0 i ≠ 32) ∧ T 264 0 e = 32 ∧ wp_264 (e + 1) (nr + 1) ∧ 0 ≤ nr ∧ nr < 14 := sorry
abbrev po_X11_whichOf_e0 (T : Zt) : Zt → Option Zv → Prop := fun T' r => T = T' ∧ ∃ x : Int, r = some (vI x) ∧ ((-1 ≤ x ∧ x < 14) ∧ WD9_ wl_264 wt_264 (fun j => T 200 0 j) (T 111 0 59) (T 111 0 60) x)
set_option maxHeartbeats 4000000 in
theorem ct_X11_whichOf_e0 {T : Zt} (h1 : T 111 0 59 ≤ T 111 0 60 ∧ T 111 0 60 ≤ 400) (hC : CW_ T) : Ct_ yX11_whichOf zX11_whichOf T [vR 111 0, vR 264 0] (po_X11_whichOf_e0 T) := sorry
theorem ww9_265 {T : Zt} (hC : CW_ T) {k nr : Int} (h : wp_265 k nr) (hk : k < 36) : ∃ e, (k, nr, e) ∈ wt_265 ∧ 0 ≤ k ∧ k ≤ e ∧ e < 36 ∧ (∀ i, k ≤ i → i < e → T 265 0 i ≠ 32) ∧ T 265 0 e = 32 ∧ wp_265 (e + 1) (nr + 1) ∧ 0 ≤ nr ∧ nr < 4 := sorry
abbrev po_X11_whichOf_e1 (T : Zt) : Zt → Option Zv → Prop := fun T' r => T = T' ∧ ∃ x : Int, r = some (vI x) ∧ ((-1 ≤ x ∧ x < 4) ∧ WD9_ wl_265 wt_265 (fun j => T 200 0 j) (T 111 0 59) (T 111 0 60) x)
set_option maxHeartbeats 4000000 in
theorem ct_X11_whichOf_e1 {T : Zt} (h1 : T 111 0 59 ≤ T 111 0 60 ∧ T 111 0 60 ≤ 400) (hC : CW_ T) : Ct_ yX11_whichOf zX11_whichOf T [vR 111 0, vR 265 0] (po_X11_whichOf_e1 T) := sorry
theorem ww9_266 {T : Zt} (hC : CW_ T) {k nr : Int} (h : wp_266 k nr) (hk : k < 37) : ∃ e, (k, nr, e) ∈ wt_266 ∧ 0 ≤ k ∧ k ≤ e ∧ e < 37 ∧ (∀ i, k ≤ i → i < e → T 266 0 i ≠ 32) ∧ T 266 0 e = 32 ∧ wp_266 (e + 1) (nr + 1) ∧ 0 ≤ nr ∧ nr < 7 := sorry
abbrev po_X11_whichOf_e2 (T : Zt) : Zt → Option Zv → Prop := fun T' r => T = T' ∧ ∃ x : Int, r = some (vI x) ∧ ((-1 ≤ x ∧ x < 7) ∧ WD9_ wl_266 wt_266 (fun j => T 200 0 j) (T 111 0 59) (T 111 0 60) x)
set_option maxHeartbeats 4000000 in
theorem ct_X11_whichOf_e2 {T : Zt} (h1 : T 111 0 59 ≤ T 111 0 60 ∧ T 111 0 60 ≤ 400) (hC : CW_ T) : Ct_ yX11_whichOf zX11_whichOf T [vR 111 0, vR 266 0] (po_X11_whichOf_e2 T) := sorry
-- reading a text, as a function of it
/-- one place changed -/
def u9_ (v : Int → Int) (k x : Int) : Int → Int := fun j => if j = k then x else v j
theorem u9_e {v : Int → Int} {k x : Int} : u9_ v k x k = x := sorry
theorem u9_n {v : Int → Int} {k x j : Int} (h : j ≠ k) : u9_ v k x j = v j := sorry
/-- a text cut off at its length -/
def cl9_ (n : Int) (b : Int → Int) : Int → Int := fun j => if 0 ≤ j ∧ j < n then b j else 0
theorem cl9_i {n j : Int} {b : Int → Int} (h0 : 0 ≤ j) (h1 : j < n) : cl9_ n b j = b j := sorry
theorem cl9_e {n : Int} {b c : Int → Int} (h : ∀ j, 0 ≤ j → j < n → b j = c j) : cl9_ n b = cl9_ n c := sorry
theorem rn9_c {n lo hi s e : Int} {b : Int → Int} (h : RN9_ b n lo hi s e) (h0 : 0 ≤ s) : RN9_ (cl9_ n b) n lo hi s e := sorry
theorem tk9_c {n a s e k : Int} {b : Int → Int} (h : TK9_ b n a s e k) (h0 : 0 ≤ a) : TK9_ (cl9_ n b) n a s e k := sorry
/-- where a token lies -/
theorem tk9_r {n a s e k : Int} {b : Int → Int} (h : TK9_ b n a s e k) : a ≤ s ∧ s ≤ e ∧ e ≤ n ∧ (k ≠ 0 → s < e) := sorry
/-- a number's signs are digits, at most three -/
theorem tk9_d {n a s e k : Int} {b : Int → Int} (h : TK9_ b n a s e k) (hk : k = 2) : e - s ≤ 3 ∧ RP9_ b 48 57 s e := sorry
theorem nv9_c {b : Int → Int} {s n : Int} : ∀ m : Nat, 0 ≤ s → s + m ≤ n → nv9_ (cl9_ n b) s m = nv9_ b s m := sorry
theorem ew9_c {w : List Int} {b : Int → Int} {s e k0 e0 n : Int} (h0 : 0 ≤ s) (h1 : e ≤ n) : EW9_ w (cl9_ n b) s e k0 e0 ↔ EW9_ w b s e k0 e0 := sorry
theorem wd9_c {w : List Int} {ts : List (Int × Int × Int)} {b : Int → Int} {s e x n : Int} (h : WD9_ w ts b s e x) (h0 : 0 ≤ s) (h1 : e ≤ n) : WD9_ w ts (cl9_ n b) s e x := sorry
/-- the next token, as a function -/
noncomputable def tkf9_ (b : Int → Int) (n a : Int) : Int × Int × Int := Classical.epsilon fun p : Int × Int × Int => TK9_ b n a p.1 p.2.1 p.2.2
theorem tkf9_e {b : Int → Int} {n a s e k : Int} (h : TK9_ b n a s e k) (h0 : 0 ≤ a) : tkf9_ (cl9_ n b) n a = (s, e, k) := sorry
noncomputable def wdf9_ (w : List Int) (ts : List (Int × Int × Int)) (b : Int → Int) (s e : Int) : Int := Classical.epsilon fun x : Int => WD9_ w ts b s e x
theorem wdf9_e {w : List Int} {ts : List (Int × Int × Int)} {b : Int → Int} {s e x n : Int} (hd : ds9_ w ts = true) (h : WD9_ w ts b s e x) (h0 : 0 ≤ s) (h1 : e ≤ n) : wdf9_ w ts (cl9_ n b) s e = x := sorry
abbrev Qr9_ (α : Type) : Type := Sum (Int × Int) α
def bn9_ {α β : Type} (r : Qr9_ α) (f : α → Qr9_ β) : Qr9_ β := Sum.elim Sum.inl f r
theorem bn9_l {α β : Type} {r : Qr9_ α} {f : α → Qr9_ β} {p : Int × Int} (h : r = Sum.inl p) : bn9_ r f = Sum.inl p := sorry
theorem bn9_r {α β : Type} {r : Qr9_ α} {f : α → Qr9_ β} {q : α} (h : r = Sum.inr q) : bn9_ r f = f q := sorry
/-- the word from a on: its end and its number, or the fault -/
noncomputable def wof9_ (w : List Int) (ts : List (Int × Int × Int)) (b : Int → Int) (n a : Int) : Qr9_ (Int × Int) := if (tkf9_ b n a).2.2 = 5 then Sum.inl (1, (tkf9_ b n a).1) else if (tkf9_ b n a).2.2 = 1 then (if wdf9_ w ts b (tkf9_ b n a).1 (tkf9_ b n a).2.1 = -1 then Sum.inl (3, (tkf9_ b n a).1) else Sum.inr ((tkf9_ b n a).2.1, wdf9_ w ts b (tkf9_ b n a).1 (tkf9_ b n a).2.1)) else Sum.inl (2, (tkf9_ b n a).1)
section WOF9
variable {w : List Int} {ts : List (Int × Int × Int)} {b : Int → Int} {n a s e k x : Int}
theorem wof9_1 (h : TK9_ b n a s e k) (h0 : 0 ≤ a) (hk : k = 5) : wof9_ w ts (cl9_ n b) n a = Sum.inl (1, s) := sorry
theorem wof9_2 (h : TK9_ b n a s e k) (h0 : 0 ≤ a) (hk : k ≠ 5) (hj : k ≠ 1) : wof9_ w ts (cl9_ n b) n a = Sum.inl (2, s) := sorry
theorem wof9_3 (hd : ds9_ w ts = true) (h : TK9_ b n a s e k) (h0 : 0 ≤ a) (hk : k = 1) (hw : WD9_ w ts b s e (-1)) : wof9_ w ts (cl9_ n b) n a = Sum.inl (3, s) := sorry
theorem wof9_0 (hd : ds9_ w ts = true) (h : TK9_ b n a s e k) (h0 : 0 ≤ a) (hk : k = 1) (hw : WD9_ w ts b s e x) (hx : x ≠ -1) : wof9_ w ts (cl9_ n b) n a = Sum.inr (e, x) := sorry
end WOF9
/-- the house's answer of a word, as it is told -/
theorem wof9_h {w : List Int} {ts : List (Int × Int × Int)} {b : Int → Int} {n a s e k x N f2 f3 g2 g3 : Int} (hd : ds9_ w ts = true) (h : TK9_ b n a s e k) (h0 : 0 ≤ a) (q : (k ≠ 1 ∧ x = -1 ∧ g2 = (if k = 5 then 1 else 2) ∧ g3 = s) ∨ (k = 1 ∧ (0 ≤ x ∧ x < N) ∧ WD9_ w ts b s e x ∧ g2 = f2 ∧ g3 = f3) ∨ (k = 1 ∧ x = -1 ∧ WD9_ w ts b s e (-1) ∧ g2 = 3 ∧ g3 = s)) : (x = -1 ∧ wof9_ w ts (cl9_ n b) n a = Sum.inl (g2, g3)) ∨ ((0 ≤ x ∧ x < N) ∧ wof9_ w ts (cl9_ n b) n a = Sum.inr (e, x) ∧ g2 = f2 ∧ g3 = f3) := sorry
/-- the semicolon from a on -/
noncomputable def smf9_ (b : Int → Int) (n a : Int) : Qr9_ Int := if (tkf9_ b n a).2.2 = 5 then Sum.inl (1, (tkf9_ b n a).1) else if (tkf9_ b n a).2.2 = 3 then Sum.inr (tkf9_ b n a).2.1 else Sum.inl (2, (tkf9_ b n a).1)
section SMF9
variable {b : Int → Int} {n a s e k : Int}
theorem smf9_1 (h : TK9_ b n a s e k) (h0 : 0 ≤ a) (hk : k = 5) : smf9_ (cl9_ n b) n a = Sum.inl (1, s) := sorry
theorem smf9_2 (h : TK9_ b n a s e k) (h0 : 0 ≤ a) (hk : k ≠ 5) (hj : k ≠ 3) : smf9_ (cl9_ n b) n a = Sum.inl (2, s) := sorry
theorem smf9_0 (h : TK9_ b n a s e k) (h0 : 0 ≤ a) (hk : k = 3) : smf9_ (cl9_ n b) n a = Sum.inr e := sorry
end SMF9
theorem smf9_h {b : Int → Int} {n a s e k x f2 f3 g2 g3 : Int} (h : TK9_ b n a s e k) (h0 : 0 ≤ a) (q : (k = 5 ∧ x = 0 ∧ g2 = 1 ∧ g3 = s) ∨ (k ≠ 5 ∧ k = 3 ∧ x = 1 ∧ g2 = f2 ∧ g3 = f3) ∨ (k ≠ 5 ∧ k ≠ 3 ∧ x = 0 ∧ g2 = 2 ∧ g3 = s)) : (x = 0 ∧ smf9_ (cl9_ n b) n a = Sum.inl (g2, g3)) ∨ (x = 1 ∧ smf9_ (cl9_ n b) n a = Sum.inr e ∧ g2 = f2 ∧ g3 = f3) := sorry
/-- a number from a on, within bounds -/
noncomputable def nrf9_ (b : Int → Int) (n a lo mo : Int) : Qr9_ (Int × Int) := if (tkf9_ b n a).2.2 = 5 then Sum.inl (1, (tkf9_ b n a).1) else if (tkf9_ b n a).2.2 = 2 then (if lo ≤ nv9_ b (tkf9_ b n a).1 ((tkf9_ b n a).2.1 - (tkf9_ b n a).1).toNat ∧ nv9_ b (tkf9_ b n a).1 ((tkf9_ b n a).2.1 - (tkf9_ b n a).1).toNat ≤ mo then Sum.inr ((tkf9_ b n a).2.1, nv9_ b (tkf9_ b n a).1 ((tkf9_ b n a).2.1 - (tkf9_ b n a).1).toNat) else Sum.inl (4, (tkf9_ b n a).1)) else Sum.inl (2, (tkf9_ b n a).1)
section NRF9
variable {b : Int → Int} {n a s e k lo mo v : Int}
theorem nrf9_1 (h : TK9_ b n a s e k) (h0 : 0 ≤ a) (hk : k = 5) : nrf9_ (cl9_ n b) n a lo mo = Sum.inl (1, s) := sorry
theorem nrf9_2 (h : TK9_ b n a s e k) (h0 : 0 ≤ a) (hk : k ≠ 5) (hj : k ≠ 2) : nrf9_ (cl9_ n b) n a lo mo = Sum.inl (2, s) := sorry
theorem nrf9_v (h : TK9_ b n a s e k) (h0 : 0 ≤ a) (hk : k = 2) (hv : v = nv9_ b s (e - s).toNat) : nrf9_ (cl9_ n b) n a lo mo = if lo ≤ v ∧ v ≤ mo then Sum.inr (e, v) else Sum.inl (4, s) := sorry
theorem nrf9_4 (h : TK9_ b n a s e k) (h0 : 0 ≤ a) (hk : k = 2) (hv : v = nv9_ b s (e - s).toNat) (hn : ¬ (lo ≤ v ∧ v ≤ mo)) : nrf9_ (cl9_ n b) n a lo mo = Sum.inl (4, s) := sorry
theorem nrf9_0 (h : TK9_ b n a s e k) (h0 : 0 ≤ a) (hk : k = 2) (hv : v = nv9_ b s (e - s).toNat) (hn : lo ≤ v ∧ v ≤ mo) : nrf9_ (cl9_ n b) n a lo mo = Sum.inr (e, v) := sorry
end NRF9
theorem nrf9_h {b : Int → Int} {n a s e k x lo mo f2 f3 g2 g3 : Int} (h : TK9_ b n a s e k) (h0 : 0 ≤ a) (hx : x = 0) (q : (k = 5 ∧ x = 0 ∧ g2 = 1 ∧ g3 = s) ∨ (k ≠ 5 ∧ k = 2 ∧ x = 1 ∧ g2 = f2 ∧ g3 = f3) ∨ (k ≠ 5 ∧ k ≠ 2 ∧ x = 0 ∧ g2 = 2 ∧ g3 = s)) : nrf9_ (cl9_ n b) n a lo mo = Sum.inl (g2, g3) := sorry
/-- the three points -/
noncomputable def pnf9_ (b : Int → Int) (n a : Int) : Qr9_ (Int × Int × Int × Int) := bn9_ (nrf9_ b n a 0 9) fun q => bn9_ (nrf9_ b n q.1 0 q.2) fun z => bn9_ (nrf9_ b n z.1 0 z.2) fun y => Sum.inr (y.1, q.2, z.2, y.2)
/-- the keys of an order, and the semicolon behind them -/
noncomputable def orf9_ : Nat → (Int → Int) → Int → Int → (Int → Int) → Int → (Int → Int) → Qr9_ (Int × (Int → Int))
  | 0, _, _, _, _, _, _ => Sum.inl (0, 0)
  | f + 1, b, n, a, t, c, v => bn9_ (wof9_ wl_266 wt_266 b n a) fun q => if t q.2 = 0 then (if (tkf9_ b n q.1).2.2 = 4 then orf9_ f b n (tkf9_ b n q.1).2.1 (u9_ t q.2 1) (c + 1) (u9_ (u9_ v (16 + c) q.2) 4 (c + 1)) else bn9_ (smf9_ b n q.1) fun e => Sum.inr (e, u9_ (u9_ v (16 + c) q.2) 4 (c + 1))) else Sum.inl (5, (tkf9_ b n a).1)
section ORF9
variable {f : Nat} {b : Int → Int} {n a c e x s s' e' k' k : Int} {t v : Int → Int} {p : Int × Int}
theorem orf9_w (h : wof9_ wl_266 wt_266 (cl9_ n b) n a = Sum.inl p) : orf9_ (f + 1) (cl9_ n b) n a t c v = Sum.inl p := sorry
theorem orf9_5 (h : wof9_ wl_266 wt_266 (cl9_ n b) n a = Sum.inr (e, x)) (ht : TK9_ b n a s e' k) (h0 : 0 ≤ a) (hx : t x ≠ 0) : orf9_ (f + 1) (cl9_ n b) n a t c v = Sum.inl (5, s) := sorry
theorem orf9_k (h : wof9_ wl_266 wt_266 (cl9_ n b) n a = Sum.inr (e, x)) (hx : t x = 0) (ht : TK9_ b n e s' e' k') (h0 : 0 ≤ e) (hk : k' = 4) : orf9_ (f + 1) (cl9_ n b) n a t c v = orf9_ f (cl9_ n b) n e' (u9_ t x 1) (c + 1) (u9_ (u9_ v (16 + c) x) 4 (c + 1)) := sorry
theorem orf9_s (h : wof9_ wl_266 wt_266 (cl9_ n b) n a = Sum.inr (e, x)) (hx : t x = 0) (ht : TK9_ b n e s' e' k') (h0 : 0 ≤ e) (hk : k' ≠ 4) : orf9_ (f + 1) (cl9_ n b) n a t c v = bn9_ (smf9_ (cl9_ n b) n e) fun z => Sum.inr (z, u9_ (u9_ v (16 + c) x) 4 (c + 1)) := sorry
end ORF9
/-- the rules before an order is read -/
def ov9_ (v : Int → Int) : Int → Int := fun j => if j = 4 then 0 else if 16 ≤ j then -1 else v j
/-- what stands behind the first word of a statement, but an order -/
noncomputable def bdf9_ (b : Int → Int) (n a x : Int) (v : Int → Int) : Qr9_ (Int × (Int → Int)) := if x = 0 then bn9_ (wof9_ wl_265 wt_265 b n a) fun q => Sum.inr (q.1, u9_ v 0 q.2) else if x = 1 then bn9_ (pnf9_ b n a) fun q => Sum.inr (q.1, u9_ (u9_ (u9_ v 1 q.2.1) 2 q.2.2.1) 3 q.2.2.2) else if x = 3 then Sum.inr (a, u9_ v 5 1) else bn9_ (nrf9_ b n a ((sa_ 1).getD (x + 2).toNat 0) ((sa_ 2).getD (x + 2).toNat 0)) fun q => Sum.inr (q.1, u9_ v (x + 2) q.2)
/-- a statement -/
noncomputable def stf9_ (b : Int → Int) (n a : Int) (t v : Int → Int) : Qr9_ (Int × (Int → Int) × (Int → Int)) := bn9_ (wof9_ wl_264 wt_264 b n a) fun q => if t q.2 = 0 then (if q.2 = 2 then bn9_ (orf9_ 9 b n q.1 (fun _ => 0) 0 (ov9_ v)) fun z => Sum.inr (z.1, u9_ t q.2 1, z.2) else bn9_ (bdf9_ b n q.1 q.2 v) fun z => bn9_ (smf9_ b n z.1) fun e => Sum.inr (e, u9_ t q.2 1, z.2)) else Sum.inl (5, (tkf9_ b n a).1)
section STF9
variable {b : Int → Int} {n a e x s e' k : Int} {t v : Int → Int} {p : Int × Int}
theorem stf9_w (h : wof9_ wl_264 wt_264 (cl9_ n b) n a = Sum.inl p) : stf9_ (cl9_ n b) n a t v = Sum.inl p := sorry
theorem stf9_5 (h : wof9_ wl_264 wt_264 (cl9_ n b) n a = Sum.inr (e, x)) (ht : TK9_ b n a s e' k) (h0 : 0 ≤ a) (hx : t x ≠ 0) : stf9_ (cl9_ n b) n a t v = Sum.inl (5, s) := sorry
theorem stf9_o (h : wof9_ wl_264 wt_264 (cl9_ n b) n a = Sum.inr (e, x)) (hx : t x = 0) (h2 : x = 2) : stf9_ (cl9_ n b) n a t v = bn9_ (orf9_ 9 (cl9_ n b) n e (fun _ => 0) 0 (ov9_ v)) fun z => Sum.inr (z.1, u9_ t x 1, z.2) := sorry
theorem stf9_b (h : wof9_ wl_264 wt_264 (cl9_ n b) n a = Sum.inr (e, x)) (hx : t x = 0) (h2 : x ≠ 2) : stf9_ (cl9_ n b) n a t v = bn9_ (bdf9_ (cl9_ n b) n e x v) fun z => bn9_ (smf9_ (cl9_ n b) n z.1) fun e => Sum.inr (e, u9_ t x 1, z.2) := sorry
theorem bdf9_0 (hx : x = 0) : bdf9_ b n a x v = bn9_ (wof9_ wl_265 wt_265 b n a) fun q => Sum.inr (q.1, u9_ v 0 q.2) := sorry
theorem bdf9_1 (hx : x = 1) : bdf9_ b n a x v = bn9_ (pnf9_ b n a) fun q => Sum.inr (q.1, u9_ (u9_ (u9_ v 1 q.2.1) 2 q.2.2.1) 3 q.2.2.2) := sorry
theorem bdf9_3 (hx : x = 3) : bdf9_ b n a x v = Sum.inr (a, u9_ v 5 1) := sorry
theorem bdf9_4 (hx : 4 ≤ x) : bdf9_ b n a x v = bn9_ (nrf9_ b n a ((sa_ 1).getD (x + 2).toNat 0) ((sa_ 2).getD (x + 2).toNat 0)) fun q => Sum.inr (q.1, u9_ v (x + 2) q.2) := sorry
end STF9
/-- the whole text -/
noncomputable def rdf9_ : Nat → (Int → Int) → Int → Int → (Int → Int) → (Int → Int) → Qr9_ (Int → Int)
  | 0, _, _, _, _, _ => Sum.inl (0, 0)
  | f + 1, b, n, a, t, v => if (tkf9_ b n a).2.2 = 0 then Sum.inr v else bn9_ (stf9_ b n a t v) fun z => rdf9_ f b n z.1 z.2.1 z.2.2
section RDF9
variable {f : Nat} {b : Int → Int} {n a s e k : Int} {t v : Int → Int}
theorem rdf9_z (h : TK9_ b n a s e k) (h0 : 0 ≤ a) (hk : k = 0) : rdf9_ (f + 1) (cl9_ n b) n a t v = Sum.inr v := sorry
theorem rdf9_s (h : TK9_ b n a s e k) (h0 : 0 ≤ a) (hk : k ≠ 0) : rdf9_ (f + 1) (cl9_ n b) n a t v = bn9_ (stf9_ (cl9_ n b) n a t v) fun z => rdf9_ f (cl9_ n b) n z.1 z.2.1 z.2.2 := sorry
end RDF9
/-- the rules at first -/
def dv9_ : Int → Int := fun j => if j = 16 then 0 else if j = 17 then 1 else if 16 ≤ j then -1 else (sa_ 0).getD j.toNat 0
-- bits that say what was told
def BT9_ (n : Int) (t : Int → Int) : Prop := (0 ≤ n ∧ n < 16384) ∧ ∀ s, 0 ≤ s → s < 14 → an_ (sr_ n s) 1 = t s
theorem sl9_n : ∀ k : Nat, k < 14 → sl_ 1 (k : Int) = ((2 ^ k : Nat) : Int) := sorry
theorem bt9_0 : BT9_ 0 (fun _ => 0) := sorry
theorem bt9_u {n s : Int} {t : Int → Int} (h : BT9_ n t) (h0 : 0 ≤ s) (h1 : s < 14) : BT9_ (or_ n (sl_ 1 s)) (u9_ t s 1) := sorry
-- the rules as both sides keep them
def VH9_ (T : Zt) (v : Int → Int) : Prop := (∀ j, 0 ≤ j → j < 16 → T 504 0 j = v j) ∧ ∀ k, 0 ≤ k → k < v 4 → T 505 0 k = v (16 + k)
theorem VH9_f {ws : List (Nat × List Int)} {T T' : Zt} {v : Int → Int} (h : VH9_ T v) (f : fr_ ws T T') (w1 : ∀ j, fw_ ws 504 j = false) (w2 : ∀ j, fw_ ws 505 j = false) : VH9_ T' v := sorry
theorem VH9_u {T T' : Zt} {v : Int → Int} {s x : Int} (h : VH9_ T v) (ho : ∀ j, j ≠ s → T' 504 0 j = T 504 0 j) (hk : ∀ j, T' 505 0 j = T 505 0 j) (hx : T' 504 0 s = x) (h4 : s ≠ 4) (h16 : s < 16) : VH9_ T' (u9_ v s x) := sorry
theorem ov9_i {v : Int → Int} {j : Int} (h : j ≠ 4) (g : j < 16) : ov9_ v j = v j := sorry
theorem ov9_k {v : Int → Int} {j : Int} (g : 16 ≤ j) : ov9_ v j = -1 := sorry
theorem ov9_4 {v : Int → Int} : ov9_ v 4 = 0 := sorry
/-- the house's rules while k keys of an order are read -/
def VO9_ (T : Zt) (v : Int → Int) (k : Int) : Prop := (∀ j, 0 ≤ j → j < 16 → j ≠ 4 → T 504 0 j = v j) ∧ (0 < k → T 504 0 4 = k) ∧ v 4 = k ∧ ∀ i, 0 ≤ i → i < k → T 505 0 i = v (16 + i)
theorem vo9_0 {T : Zt} {v : Int → Int} (h : VH9_ T v) : VO9_ T (ov9_ v) 0 := sorry
theorem VO9_f {ws : List (Nat × List Int)} {T T' : Zt} {v : Int → Int} {k : Int} (h : VO9_ T v k) (f : fr_ ws T T') (w1 : ∀ j, fw_ ws 504 j = false) (w2 : ∀ j, fw_ ws 505 j = false) : VO9_ T' v k := sorry
theorem vo9_s {T T' : Zt} {v : Int → Int} {k x : Int} (h : VO9_ T v k) (hk : 0 ≤ k) (o1 : ∀ j, j ≠ 4 → T' 504 0 j = T 504 0 j) (o2 : T' 504 0 4 = k + 1) (o3 : ∀ j, j ≠ k → T' 505 0 j = T 505 0 j) (o4 : T' 505 0 k = x) : VO9_ T' (u9_ (u9_ v (16 + k) x) 4 (k + 1)) (k + 1) := sorry
theorem vo9_e {T : Zt} {v : Int → Int} {k : Int} (h : VO9_ T v k) (hk : 0 < k) : VH9_ T v := sorry
def VR9_ (T : Zt) (v : Int → Int) : Prop := ∀ j, 0 ≤ j → j < 23 → T 204 0 j = v j
theorem VR9_f {ws : List (Nat × List Int)} {T T' : Zt} {v : Int → Int} (h : VR9_ T v) (f : fr_ ws T T') (w : ∀ j, fw_ ws 204 j = false) : VR9_ T' v := sorry
theorem VR9_u {T T' : Zt} {v : Int → Int} {s x : Int} (h : VR9_ T v) (ho : ∀ j, j ≠ s → T' 204 0 j = T 204 0 j) (hx : T' 204 0 s = x) : VR9_ T' (u9_ v s x) := sorry
/-- c of the seven keys are told -/
def KS9_ (t : Int → Int) (c : Int) : Prop := (∀ j, 0 ≤ j → j < 7 → t j = 0 ∨ t j = 1) ∧ t 0 + t 1 + t 2 + t 3 + t 4 + t 5 + t 6 = c
theorem ks9_0 : KS9_ (fun _ => 0) 0 := sorry
theorem ks9_b {t : Int → Int} {c : Int} (h : KS9_ t c) : 0 ≤ c ∧ c ≤ 7 := sorry
theorem ks9_7 {t : Int → Int} {c x : Int} (h : KS9_ t c) (hc : 7 ≤ c) (h0 : 0 ≤ x) (h1 : x < 7) : t x ≠ 0 := sorry
theorem ks9_s {t : Int → Int} {c x : Int} (h : KS9_ t c) (h0 : 0 ≤ x) (h1 : x < 7) (hx : t x = 0) : KS9_ (u9_ t x 1) (c + 1) := sorry
-- readRule, readPoints, readSport of the house
abbrev po_X5_readRule_e (T : Zt) (s m : Int) : Zt → Option Zv → Prop := fun T' r => ∃ x : Int, r = some (vI x) ∧ fr_ [(105, [7, 8, 9, 2, 3]), (504, [])] T T' ∧ (((x = 0 ∧ nrf9_ (cl9_ (T 105 0 1) (fun j => T 500 0 j)) (T 105 0 1) (T 105 0 9) ((sa_ 1).getD s.toNat 0) m = Sum.inl (T' 105 0 2, T' 105 0 3)) ∨ (x = 1 ∧ nrf9_ (cl9_ (T 105 0 1) (fun j => T 500 0 j)) (T 105 0 1) (T 105 0 9) ((sa_ 1).getD s.toNat 0) m = Sum.inr (T' 105 0 9, T' 504 0 s) ∧ T' 105 0 2 = T 105 0 2 ∧ T' 105 0 3 = T 105 0 3 ∧ T 105 0 9 ≤ T' 105 0 9 ∧ T' 105 0 9 ≤ T 105 0 1)) ∧ ∀ j, j ≠ s → T' 504 0 j = T 504 0 j)
set_option maxHeartbeats 4000000 in
theorem ct_X5_readRule_e {T : Zt} {s m : Int} (hs : 0 ≤ s ∧ s < 16) (h9 : T 105 0 9 ≤ T 105 0 1) : Ct_ yX5_readRule zX5_readRule T [vR 105 0, vI s, vI m] (po_X5_readRule_e T s m) := sorry
abbrev po_X5_readPoints_e (T : Zt) : Zt → Option Zv → Prop := fun T' r => ∃ x : Int, r = some (vI x) ∧ fr_ [(105, [7, 8, 9, 2, 3]), (504, [])] T T' ∧ (((x = 0 ∧ pnf9_ (cl9_ (T 105 0 1) (fun j => T 500 0 j)) (T 105 0 1) (T 105 0 9) = Sum.inl (T' 105 0 2, T' 105 0 3)) ∨ (x = 1 ∧ pnf9_ (cl9_ (T 105 0 1) (fun j => T 500 0 j)) (T 105 0 1) (T 105 0 9) = Sum.inr (T' 105 0 9, T' 504 0 1, T' 504 0 2, T' 504 0 3) ∧ T' 105 0 2 = T 105 0 2 ∧ T' 105 0 3 = T 105 0 3 ∧ T 105 0 9 ≤ T' 105 0 9 ∧ T' 105 0 9 ≤ T 105 0 1)) ∧ ∀ j, j ≠ 1 → j ≠ 2 → j ≠ 3 → T' 504 0 j = T 504 0 j)
set_option maxHeartbeats 4000000 in
theorem ct_X5_readPoints_e {T : Zt} (h9 : T 105 0 9 ≤ T 105 0 1) : Ct_ yX5_readPoints zX5_readPoints T [vR 105 0] (po_X5_readPoints_e T) := sorry
abbrev po_X5_readSport_e (T : Zt) : Zt → Option Zv → Prop := fun T' r => ∃ x : Int, r = some (vI x) ∧ fr_ [(105, [7, 8, 9, 2, 3]), (504, [])] T T' ∧ (((x = 0 ∧ wof9_ wl_265 wt_265 (cl9_ (T 105 0 1) (fun j => T 500 0 j)) (T 105 0 1) (T 105 0 9) = Sum.inl (T' 105 0 2, T' 105 0 3)) ∨ (x = 1 ∧ wof9_ wl_265 wt_265 (cl9_ (T 105 0 1) (fun j => T 500 0 j)) (T 105 0 1) (T 105 0 9) = Sum.inr (T' 105 0 9, T' 504 0 0) ∧ T' 105 0 2 = T 105 0 2 ∧ T' 105 0 3 = T 105 0 3 ∧ T 105 0 9 ≤ T' 105 0 9 ∧ T' 105 0 9 ≤ T 105 0 1)) ∧ ∀ j, j ≠ 0 → T' 504 0 j = T 504 0 j)
set_option maxHeartbeats 4000000 in
theorem ct_X5_readSport_e {T : Zt} (h9 : T 105 0 9 ≤ T 105 0 1) : Ct_ yX5_readSport zX5_readSport T [vR 105 0] (po_X5_readSport_e T) := sorry
