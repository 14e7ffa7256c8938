def KM_ (T : Zt) : Prop := ∀ m : Int, 0 ≤ m → m < T 106 0 4 → T 102 m 1 = m ∧ 0 ≤ T 102 m 0 ∧ T 102 m 0 < T 106 0 2
theorem KM__f {ws : List (Nat × List Int)} {T T' : Zt} (h : KM_ T) (f : fr_ ws T T') (w : fw_ ws 102 1 = false ∧ fw_ ws 102 0 = false ∧ fw_ ws 106 4 = false ∧ fw_ ws 106 2 = false ∧ True) : KM_ T' := by
  have e0 : ∀ i, T' 102 i 1 = T 102 i 1 := fun i => f 102 i 1 w.1
  have e1 : ∀ i, T' 102 i 0 = T 102 i 0 := fun i => f 102 i 0 w.2.1
  have e2 : ∀ i, T' 106 i 4 = T 106 i 4 := fun i => f 106 i 4 w.2.2.1
  have e3 : ∀ i, T' 106 i 2 = T 106 i 2 := fun i => f 106 i 2 w.2.2.2.1
  simp only [KM_, e0, e1, e2, e3] at h ⊢
  exact h
def KC_ (T : Zt) : Prop := ∀ c : Int, 0 ≤ c → c < T 106 0 2 → T 100 c 7 + T 100 c 8 ≤ T 106 0 4
theorem KC__f {ws : List (Nat × List Int)} {T T' : Zt} (h : KC_ T) (f : fr_ ws T T') (w : fw_ ws 100 7 = false ∧ fw_ ws 100 8 = false ∧ fw_ ws 106 4 = false ∧ fw_ ws 106 2 = false ∧ True) : KC_ T' := by
  have e0 : ∀ i, T' 100 i 7 = T 100 i 7 := fun i => f 100 i 7 w.1
  have e1 : ∀ i, T' 100 i 8 = T 100 i 8 := fun i => f 100 i 8 w.2.1
  have e2 : ∀ i, T' 106 i 4 = T 106 i 4 := fun i => f 106 i 4 w.2.2.1
  have e3 : ∀ i, T' 106 i 2 = T 106 i 2 := fun i => f 106 i 2 w.2.2.2.1
  simp only [KC_, e0, e1, e2, e3] at h ⊢
  exact h
def KR_ (T : Zt) : Prop := ∀ c : Int, 0 ≤ c → c < T 106 0 2 → 1 ≤ T 401 c 9 ∧ T 401 c 9 ≤ 6
theorem KR__f {ws : List (Nat × List Int)} {T T' : Zt} (h : KR_ T) (f : fr_ ws T T') (w : (∀ j, fw_ ws 401 j = false) ∧ fw_ ws 106 2 = false ∧ True) : KR_ T' := by
  have e0 : ∀ i j, T' 401 i j = T 401 i j := fun i j => f 401 i j (w.1 j)
  have e1 : ∀ i, T' 106 i 2 = T 106 i 2 := fun i => f 106 i 2 w.2.1
  simp only [KR_, e0, e1] at h ⊢
  exact h
abbrev cX6_shareClub : ByteArray := prog_8_method_9_code
def yX6_shareClub : MethodName := ⟨RX6, "shareClub", "(LSportsHouse$Match;LSportsHouse$Match;)Z"⟩
def zX6_shareClub : Zm := (RX6, cX6_shareClub, 2, (some .boolean), { frames := 1, cells := 0, slots := 0, locals := 21 })
set_option maxRecDepth 100000 in
theorem cl_X6_88 : cv_ RX6 88 yX2_has zX2_has 2 1 := ⟨gi_V (lwq_4 (dqc_m (dqc_m (dqa_m (List.mem_of_getElem? (i := 1) rfl)))) rfl : Cond.methodLink RX6 88 yX2_has ∈ lw_g) (lwq_4 (dqc_m (dqc_m (dqa_m (List.mem_of_getElem? (i := 2) rfl)))) rfl : Cond.instanceMethod yX2_has ∈ lw_g) (lwq_4 (dqc_m (dqc_m (dqa_m (List.mem_of_getElem? (i := 3) rfl)))) rfl : Cond.selects yX2_has.cls yX2_has yX2_has ∈ lw_g) (lwq_1 (dqa_m (dqa_m (List.mem_of_getElem? (i := 0) rfl))) rfl : Cond.initialized yX2_has.cls ∈ lw_g) (lwq_4 (dqc_m (dqc_m (dqa_m (List.mem_of_getElem? (i := 4) rfl)))) rfl : Cond.code yX2_has cX2_has 2 (some .boolean) ∈ lw_g), ⟨nmh_10.1, nmh_10.2, pdq_7⟩, ⟨_, _, rfl⟩⟩
abbrev cX6_countBreaks : ByteArray := prog_8_method_5_code
def yX6_countBreaks : MethodName := ⟨RX6, "countBreaks", "(LSportsHouse$Competition;I)I"⟩
def zX6_countBreaks : Zm := (RX6, cX6_countBreaks, 9, (some .int), { frames := 1, cells := 0, slots := 0, locals := 21 })
abbrev cX6_listAhead : ByteArray := prog_8_method_16_code
def yX6_listAhead : MethodName := ⟨RX6, "listAhead", "(ILSportsHouse$Match;)I"⟩
def zX6_listAhead : Zm := (RX6, cX6_listAhead, 8, (some .int), { frames := 2, cells := 0, slots := 0, locals := 40 })
set_option maxRecDepth 100000 in
theorem cl_X6_195 : cv_ RX6 195 yX2_isDecided zX2_isDecided 2 0 := ⟨gi_V (lwq_4 (dqc_m (dqc_m (dqc_m (dqc_m (dqa_m (dqa_m (dqa_m (List.mem_of_getElem? (i := 2) rfl)))))))) rfl : Cond.methodLink RX6 195 yX2_isDecided ∈ lw_g) (lwq_4 (dqc_m (dqc_m (dqc_m (dqc_m (dqa_m (dqa_m (dqa_m (List.mem_of_getElem? (i := 3) rfl)))))))) rfl : Cond.instanceMethod yX2_isDecided ∈ lw_g) (lwq_4 (dqc_m (dqc_m (dqc_m (dqc_m (dqa_m (dqa_m (dqa_m (List.mem_of_getElem? (i := 4) rfl)))))))) rfl : Cond.selects yX2_isDecided.cls yX2_isDecided yX2_isDecided ∈ lw_g) (lwq_1 (dqa_m (dqa_m (List.mem_of_getElem? (i := 0) rfl))) rfl : Cond.initialized yX2_isDecided.cls ∈ lw_g) (lwq_4 (dqc_m (dqc_m (dqc_m (dqc_m (dqa_m (dqa_m (dqa_m (List.mem_of_getElem? (i := 5) rfl)))))))) rfl : Cond.code yX2_isDecided cX2_isDecided 1 (some .boolean) ∈ lw_g), ⟨nmh_10.1, nmh_10.2, pdq_18⟩, ⟨_, _, rfl⟩⟩
set_option maxRecDepth 100000 in
theorem cl_X6_165 : cv_ RX6 165 yX8_clubOn zX8_clubOn 8 2 := ⟨gi_V (lwq_4 (dqc_m (dqc_m (dqc_m (dqc_m (dqa_m (List.mem_of_getElem? (i := 6) rfl)))))) rfl : Cond.methodLink RX6 165 yX8_clubOn ∈ lw_g) (lwq_4 (dqc_m (dqc_m (dqc_m (dqc_m (dqa_m (List.mem_of_getElem? (i := 7) rfl)))))) rfl : Cond.instanceMethod yX8_clubOn ∈ lw_g) (lwq_4 (dqc_m (dqc_m (dqc_m (dqc_m (dqa_m (dqa_m (List.mem_of_getElem? (i := 0) rfl))))))) rfl : Cond.selects yX8_clubOn.cls yX8_clubOn yX8_clubOn ∈ lw_g) (lwq_1 (List.mem_of_getElem? (i := 3) rfl) rfl : Cond.initialized yX8_clubOn.cls ∈ lw_g) (lwq_4 (dqc_m (dqc_m (dqc_m (dqc_m (dqa_m (dqa_m (List.mem_of_getElem? (i := 1) rfl))))))) rfl : Cond.code yX8_clubOn cX8_clubOn 5 (some .int) ∈ lw_g), ⟨nmh_9.1, nmh_9.2, pdq_4⟩, ⟨_, _, rfl⟩⟩
abbrev cX6_isBanned : ByteArray := prog_8_method_15_code
def yX6_isBanned : MethodName := ⟨RX6, "isBanned", "(ILSportsHouse$Match;)Z"⟩
def zX6_isBanned : Zm := (RX6, cX6_isBanned, 11, (some .boolean), { frames := 3, cells := 0, slots := 0, locals := 67 })
set_option maxRecDepth 100000 in
theorem cl_X6_172 : cv_ RX6 172 yX2_placeOf zX2_placeOf 2 1 := ⟨gi_V (lwq_4 (dqc_m (dqc_m (dqc_m (dqc_m (dqa_m (dqa_m (dqa_m (List.mem_of_getElem? (i := 7) rfl)))))))) rfl : Cond.methodLink RX6 172 yX2_placeOf ∈ lw_g) (lwq_4 (dqc_m (dqc_m (dqc_m (dqc_m (dqc_m (List.mem_of_getElem? (i := 0) rfl)))))) rfl : Cond.instanceMethod yX2_placeOf ∈ lw_g) (lwq_4 (dqc_m (dqc_m (dqc_m (dqc_m (dqc_m (List.mem_of_getElem? (i := 1) rfl)))))) rfl : Cond.selects yX2_placeOf.cls yX2_placeOf yX2_placeOf ∈ lw_g) (lwq_1 (dqa_m (dqa_m (List.mem_of_getElem? (i := 0) rfl))) rfl : Cond.initialized yX2_placeOf.cls ∈ lw_g) (lwq_4 (dqc_m (dqc_m (dqc_m (dqc_m (dqc_m (List.mem_of_getElem? (i := 2) rfl)))))) rfl : Cond.code yX2_placeOf cX2_placeOf 4 (some .int) ∈ lw_g), ⟨nmh_10.1, nmh_10.2, pdq_15⟩, ⟨_, _, rfl⟩⟩
set_option maxRecDepth 100000 in
theorem cl_X6_187 : cv_ RX6 187 yX3_isSentOff zX3_isSentOff 3 1 := ⟨gi_V (lwq_4 (dqc_m (dqc_m (dqc_m (dqc_m (dqc_m (List.mem_of_getElem? (i := 3) rfl)))))) rfl : Cond.methodLink RX6 187 yX3_isSentOff ∈ lw_g) (lwq_4 (dqc_m (dqc_m (dqc_m (dqc_m (dqc_m (List.mem_of_getElem? (i := 4) rfl)))))) rfl : Cond.instanceMethod yX3_isSentOff ∈ lw_g) (lwq_4 (dqc_m (dqc_m (dqc_m (dqc_m (dqc_m (List.mem_of_getElem? (i := 5) rfl)))))) rfl : Cond.selects yX3_isSentOff.cls yX3_isSentOff yX3_isSentOff ∈ lw_g) (lwq_1 (dqa_m (dqa_m (List.mem_of_getElem? (i := 2) rfl))) rfl : Cond.initialized yX3_isSentOff.cls ∈ lw_g) (lwq_4 (dqc_m (dqc_m (dqc_m (dqc_m (dqc_m (List.mem_of_getElem? (i := 6) rfl)))))) rfl : Cond.code yX3_isSentOff cX3_isSentOff 2 (some .boolean) ∈ lw_g), ⟨nmh_3.1, nmh_3.2, pdq_7⟩, ⟨_, _, rfl⟩⟩
set_option maxRecDepth 100000 in
theorem cl_X6_175 : cv_ RX6 175 yX6_listAhead zX6_listAhead 6 2 := ⟨gi_V (lwq_4 (dqc_m (dqc_m (dqc_m (dqc_m (dqa_m (dqa_m (List.mem_of_getElem? (i := 6) rfl))))))) rfl : Cond.methodLink RX6 175 yX6_listAhead ∈ lw_g) (lwq_4 (dqc_m (dqc_m (dqc_m (dqc_m (dqa_m (dqa_m (dqa_m (List.mem_of_getElem? (i := 0) rfl)))))))) rfl : Cond.instanceMethod yX6_listAhead ∈ lw_g) (lw_sel 125 rfl : Cond.selects yX6_listAhead.cls yX6_listAhead yX6_listAhead ∈ lw_g) (lwq_1 (List.mem_of_getElem? (i := 4) rfl) rfl : Cond.initialized yX6_listAhead.cls ∈ lw_g) (lwq_4 (dqc_m (dqc_m (dqc_m (dqc_m (dqa_m (dqa_m (dqa_m (List.mem_of_getElem? (i := 1) rfl)))))))) rfl : Cond.code yX6_listAhead cX6_listAhead 8 (some .int) ∈ lw_g), ⟨nmh_6.1, nmh_6.2, pdq_21⟩, ⟨_, _, rfl⟩⟩
abbrev cX6_whyNot : ByteArray := prog_8_method_14_code
def yX6_whyNot : MethodName := ⟨RX6, "whyNot", "(ILSportsHouse$Match;I)I"⟩
def zX6_whyNot : Zm := (RX6, cX6_whyNot, 6, (some .int), { frames := 4, cells := 0, slots := 0, locals := 97 })
set_option maxRecDepth 100000 in
theorem cl_X6_168 : cv_ RX6 168 yX6_isBanned zX6_isBanned 6 2 := ⟨gi_V (lwq_4 (dqc_m (dqc_m (dqc_m (dqc_m (dqa_m (dqa_m (List.mem_of_getElem? (i := 2) rfl))))))) rfl : Cond.methodLink RX6 168 yX6_isBanned ∈ lw_g) (lwq_4 (dqc_m (dqc_m (dqc_m (dqc_m (dqa_m (dqa_m (List.mem_of_getElem? (i := 4) rfl))))))) rfl : Cond.instanceMethod yX6_isBanned ∈ lw_g) (lw_sel 123 rfl : Cond.selects yX6_isBanned.cls yX6_isBanned yX6_isBanned ∈ lw_g) (lwq_1 (List.mem_of_getElem? (i := 4) rfl) rfl : Cond.initialized yX6_isBanned.cls ∈ lw_g) (lwq_4 (dqc_m (dqc_m (dqc_m (dqc_m (dqa_m (dqa_m (List.mem_of_getElem? (i := 5) rfl))))))) rfl : Cond.code yX6_isBanned cX6_isBanned 11 (some .boolean) ∈ lw_g), ⟨nmh_6.1, nmh_6.2, pdq_22⟩, ⟨_, _, rfl⟩⟩
abbrev cX10_eligible : ByteArray := prog_1_method_19_code
def yX10_eligible : MethodName := ⟨RX10, "eligible", "(III)I"⟩
def zX10_eligible : Zm := (RX10, cX10_eligible, 4, (some .int), { frames := 5, cells := 0, slots := 0, locals := 122 })
set_option maxRecDepth 100000 in
theorem cl_X10_251 : cs_ RX10 251 yX10_isSide zX10_isSide 1 := ⟨gi_S (lwq_4 (dqc_m (dqc_m (dqc_m (dqc_m (List.mem_of_getElem? (i := 7) rfl))))) rfl : Cond.methodLink RX10 251 yX10_isSide ∈ lw_g) (lwq_4 (dqc_m (dqc_m (dqc_m (dqc_m (dqa_m (List.mem_of_getElem? (i := 0) rfl)))))) rfl : Cond.static yX10_isSide ∈ lw_g) (lwq_1 (List.mem_of_getElem? (i := 1) rfl) rfl : Cond.initialized yX10_isSide.cls ∈ lw_g) (lwq_4 (dqc_m (dqc_m (dqc_m (dqc_m (dqa_m (List.mem_of_getElem? (i := 1) rfl)))))) rfl : Cond.code yX10_isSide cX10_isSide 1 (some .boolean) ∈ lw_g), ⟨by decide, by decide, by decide +kernel⟩⟩
set_option maxRecDepth 100000 in
theorem cl_X10_254 : cv_ RX10 254 yX6_whyNot zX6_whyNot 6 3 := ⟨gi_V (lwq_4 (dqc_m (dqc_m (dqc_m (dqc_m (dqa_m (List.mem_of_getElem? (i := 2) rfl)))))) rfl : Cond.methodLink RX10 254 yX6_whyNot ∈ lw_g) (lwq_4 (dqc_m (dqc_m (dqc_m (dqc_m (dqa_m (List.mem_of_getElem? (i := 3) rfl)))))) rfl : Cond.instanceMethod yX6_whyNot ∈ lw_g) (lwq_4 (dqc_m (dqc_m (dqc_m (dqc_m (dqa_m (List.mem_of_getElem? (i := 4) rfl)))))) rfl : Cond.selects yX6_whyNot.cls yX6_whyNot yX6_whyNot ∈ lw_g) (lwq_1 (List.mem_of_getElem? (i := 4) rfl) rfl : Cond.initialized yX6_whyNot.cls ∈ lw_g) (lwq_4 (dqc_m (dqc_m (dqc_m (dqc_m (dqa_m (List.mem_of_getElem? (i := 5) rfl)))))) rfl : Cond.code yX6_whyNot cX6_whyNot 6 (some .int) ∈ lw_g), ⟨nmh_6.1, nmh_6.2, pdq_23⟩, ⟨_, _, rfl⟩⟩
abbrev po_X10_eligible (T : Zt) (q m d : Int) : Zt → Option Zv → Prop := fun T' r => ∃ x : Int, r = some (vI x) ∧ fr_ [(533, [])] T T' ∧ (x = x)
abbrev cX10_match : ByteArray := prog_1_method_14_code
def yX10_match : MethodName := ⟨RX10, "match", "(II)I"⟩
def zX10_match : Zm := (RX10, cX10_match, 4, (some .int), { frames := 2, cells := 0, slots := 0, locals := 42 })
theorem ds_X10_match_22 : decode cX10_match 22 = .ok (.tableswitch 91 0 7 #[46, 54, 59, 64, 69, 74, 79, 85], 46) := by decide +kernel
set_option maxRecDepth 100000 in
theorem cl_X10_223 : cv_ RX10 223 yX2_phaseOfLife zX2_phaseOfLife 2 0 := ⟨gi_V (lwq_4 (dqc_m (dqa_m (dqa_m (dqa_m (List.mem_of_getElem? (i := 1) rfl))))) rfl : Cond.methodLink RX10 223 yX2_phaseOfLife ∈ lw_g) (lwq_4 (dqc_m (dqa_m (dqa_m (dqa_m (List.mem_of_getElem? (i := 2) rfl))))) rfl : Cond.instanceMethod yX2_phaseOfLife ∈ lw_g) (lwq_4 (dqc_m (dqa_m (dqa_m (dqa_m (List.mem_of_getElem? (i := 3) rfl))))) rfl : Cond.selects yX2_phaseOfLife.cls yX2_phaseOfLife yX2_phaseOfLife ∈ lw_g) (lwq_1 (dqa_m (dqa_m (List.mem_of_getElem? (i := 0) rfl))) rfl : Cond.initialized yX2_phaseOfLife.cls ∈ lw_g) (lwq_4 (dqc_m (dqa_m (dqa_m (dqa_m (List.mem_of_getElem? (i := 4) rfl))))) rfl : Cond.code yX2_phaseOfLife cX2_phaseOfLife 1 (some .int) ∈ lw_g), ⟨nmh_10.1, nmh_10.2, pdq_17⟩, ⟨_, _, rfl⟩⟩
set_option maxRecDepth 100000 in
theorem cl_X10_226 : cv_ RX10 226 yX2_scoreOf zX2_scoreOf 2 1 := ⟨gi_V (lwq_4 (dqc_m (dqa_m (dqa_m (dqa_m (List.mem_of_getElem? (i := 5) rfl))))) rfl : Cond.methodLink RX10 226 yX2_scoreOf ∈ lw_g) (lwq_4 (dqc_m (dqa_m (dqa_m (dqa_m (List.mem_of_getElem? (i := 6) rfl))))) rfl : Cond.instanceMethod yX2_scoreOf ∈ lw_g) (lwq_4 (dqc_m (dqa_m (dqa_m (dqa_m (List.mem_of_getElem? (i := 7) rfl))))) rfl : Cond.selects yX2_scoreOf.cls yX2_scoreOf yX2_scoreOf ∈ lw_g) (lwq_1 (dqa_m (dqa_m (List.mem_of_getElem? (i := 0) rfl))) rfl : Cond.initialized yX2_scoreOf.cls ∈ lw_g) (lwq_4 (dqc_m (dqc_m (List.mem_of_getElem? (i := 0) rfl))) rfl : Cond.code yX2_scoreOf cX2_scoreOf 2 (some .int) ∈ lw_g), ⟨nmh_10.1, nmh_10.2, pdq_15⟩, ⟨_, _, rfl⟩⟩
abbrev cX10_walkOver : ByteArray := prog_1_method_22_code
def yX10_walkOver : MethodName := ⟨RX10, "walkOver", "(II)I"⟩
def zX10_walkOver : Zm := (RX10, cX10_walkOver, 4, (some .int), { frames := 2, cells := 0, slots := 0, locals := 42 })
abbrev cX10_rows : ByteArray := prog_1_method_25_code
def yX10_rows : MethodName := ⟨RX10, "rows", "(II)I"⟩
def zX10_rows : Zm := (RX10, cX10_rows, 4, (some .int), { frames := 2, cells := 0, slots := 0, locals := 42 })
abbrev cX10_state : ByteArray := prog_1_method_27_code
def yX10_state : MethodName := ⟨RX10, "state", "(II)I"⟩
def zX10_state : Zm := (RX10, cX10_state, 4, (some .int), { frames := 2, cells := 0, slots := 0, locals := 42 })
theorem ds_X10_state_45 : decode cX10_state 45 = .ok (.tableswitch 67 0 5 #[39, 44, 44, 53, 53, 62], 39) := by decide +kernel
abbrev cX10_onField : ByteArray := prog_1_method_28_code
def yX10_onField : MethodName := ⟨RX10, "onField", "(III)I"⟩
def zX10_onField : Zm := (RX10, cX10_onField, 5, (some .int), { frames := 2, cells := 0, slots := 0, locals := 42 })
set_option maxRecDepth 100000 in
theorem cl_X10_346 : cv_ RX10 346 yX3_personAt zX3_personAt 3 2 := ⟨gi_V (lwq_5 (dqc_m (dqc_m (dqc_m (dqc_m (dqc_m (dqc_m (List.mem_of_getElem? (i := 3) rfl))))))) rfl : Cond.methodLink RX10 346 yX3_personAt ∈ lw_g) (lwq_5 (dqc_m (dqa_m (dqa_m (List.mem_of_getElem? (i := 1) rfl)))) rfl : Cond.instanceMethod yX3_personAt ∈ lw_g) (lwq_5 (dqc_m (dqa_m (dqa_m (List.mem_of_getElem? (i := 2) rfl)))) rfl : Cond.selects yX3_personAt.cls yX3_personAt yX3_personAt ∈ lw_g) (lwq_1 (dqa_m (dqa_m (List.mem_of_getElem? (i := 2) rfl))) rfl : Cond.initialized yX3_personAt.cls ∈ lw_g) (lwq_5 (dqc_m (dqa_m (dqa_m (List.mem_of_getElem? (i := 3) rfl)))) rfl : Cond.code yX3_personAt cX3_personAt 3 (some .int) ∈ lw_g), ⟨nmh_3.1, nmh_3.2, pdq_4⟩, ⟨_, _, rfl⟩⟩
abbrev cX10_breaks : ByteArray := prog_1_method_15_code
def yX10_breaks : MethodName := ⟨RX10, "breaks", "(II)I"⟩
def zX10_breaks : Zm := (RX10, cX10_breaks, 4, (some .int), { frames := 2, cells := 0, slots := 0, locals := 49 })
set_option maxRecDepth 100000 in
theorem cl_X10_230 : cv_ RX10 230 yX6_countBreaks zX6_countBreaks 6 2 := ⟨gi_V (lwq_4 (dqc_m (dqc_m (List.mem_of_getElem? (i := 5) rfl))) rfl : Cond.methodLink RX10 230 yX6_countBreaks ∈ lw_g) (lwq_4 (dqc_m (dqc_m (List.mem_of_getElem? (i := 6) rfl))) rfl : Cond.instanceMethod yX6_countBreaks ∈ lw_g) (lwq_4 (dqc_m (dqc_m (List.mem_of_getElem? (i := 7) rfl))) rfl : Cond.selects yX6_countBreaks.cls yX6_countBreaks yX6_countBreaks ∈ lw_g) (lwq_1 (List.mem_of_getElem? (i := 4) rfl) rfl : Cond.initialized yX6_countBreaks.cls ∈ lw_g) (lwq_4 (dqc_m (dqc_m (dqa_m (List.mem_of_getElem? (i := 0) rfl)))) rfl : Cond.code yX6_countBreaks cX6_countBreaks 9 (some .int) ∈ lw_g), ⟨nmh_6.1, nmh_6.2, pdq_24⟩, ⟨_, _, rfl⟩⟩
abbrev cX6_standAgainst : ByteArray := prog_8_method_8_code
def yX6_standAgainst : MethodName := ⟨RX6, "standAgainst", "(LSportsHouse$Match;LSportsHouse$Match;)Z"⟩
def zX6_standAgainst : Zm := (RX6, cX6_standAgainst, 4, (some .boolean), { frames := 2, cells := 0, slots := 0, locals := 42 })
set_option maxRecDepth 100000 in
theorem cl_X6_133 : cv_ RX6 133 yX2_rest zX2_rest 2 0 := ⟨gi_V (lwq_4 (dqc_m (dqc_m (dqc_m (List.mem_of_getElem? (i := 0) rfl)))) rfl : Cond.methodLink RX6 133 yX2_rest ∈ lw_g) (lwq_4 (dqc_m (dqc_m (dqc_m (List.mem_of_getElem? (i := 1) rfl)))) rfl : Cond.instanceMethod yX2_rest ∈ lw_g) (lwq_4 (dqc_m (dqc_m (dqc_m (List.mem_of_getElem? (i := 2) rfl)))) rfl : Cond.selects yX2_rest.cls yX2_rest yX2_rest ∈ lw_g) (lwq_1 (dqa_m (dqa_m (List.mem_of_getElem? (i := 0) rfl))) rfl : Cond.initialized yX2_rest.cls ∈ lw_g) (lwq_4 (dqc_m (dqc_m (dqc_m (List.mem_of_getElem? (i := 3) rfl)))) rfl : Cond.code yX2_rest cX2_rest 1 (some .int) ∈ lw_g), ⟨nmh_10.1, nmh_10.2, pdq_17⟩, ⟨_, _, rfl⟩⟩
set_option maxRecDepth 100000 in
theorem cl_X6_140 : cs_ RX6 140 yX6_shareClub zX6_shareClub 2 := ⟨gi_S (lwq_4 (dqc_m (dqc_m (dqc_m (List.mem_of_getElem? (i := 7) rfl)))) rfl : Cond.methodLink RX6 140 yX6_shareClub ∈ lw_g) (lwq_4 (dqc_m (dqc_m (dqc_m (dqa_m (List.mem_of_getElem? (i := 0) rfl))))) rfl : Cond.static yX6_shareClub ∈ lw_g) (lwq_1 (List.mem_of_getElem? (i := 4) rfl) rfl : Cond.initialized yX6_shareClub.cls ∈ lw_g) (lwq_4 (dqc_m (dqc_m (dqc_m (dqa_m (List.mem_of_getElem? (i := 1) rfl))))) rfl : Cond.code yX6_shareClub cX6_shareClub 2 (some .boolean) ∈ lw_g), ⟨by decide, by decide, by decide +kernel⟩⟩
abbrev cX6_listAgainst : ByteArray := prog_8_method_7_code
def yX6_listAgainst : MethodName := ⟨RX6, "listAgainst", "(LSportsHouse$Match;)I"⟩
def zX6_listAgainst : Zm := (RX6, cX6_listAgainst, 5, (some .int), { frames := 3, cells := 0, slots := 0, locals := 65 })
set_option maxRecDepth 100000 in
theorem cl_X6_112 : cv_ RX6 112 yX6_standAgainst zX6_standAgainst 6 2 := ⟨gi_V (lwq_4 (dqc_m (dqc_m (dqa_m (dqa_m (dqa_m (List.mem_of_getElem? (i := 1) rfl)))))) rfl : Cond.methodLink RX6 112 yX6_standAgainst ∈ lw_g) (lwq_4 (dqc_m (dqc_m (dqa_m (dqa_m (dqa_m (List.mem_of_getElem? (i := 3) rfl)))))) rfl : Cond.instanceMethod yX6_standAgainst ∈ lw_g) (lw_sel 126 rfl : Cond.selects yX6_standAgainst.cls yX6_standAgainst yX6_standAgainst ∈ lw_g) (lwq_1 (List.mem_of_getElem? (i := 4) rfl) rfl : Cond.initialized yX6_standAgainst.cls ∈ lw_g) (lwq_4 (dqc_m (dqc_m (dqa_m (dqa_m (dqa_m (List.mem_of_getElem? (i := 4) rfl)))))) rfl : Cond.code yX6_standAgainst cX6_standAgainst 4 (some .boolean) ∈ lw_g), ⟨nmh_6.1, nmh_6.2, pdq_25⟩, ⟨_, _, rfl⟩⟩
set_option maxRecDepth 100000 in
theorem cl_X6_116 : cv_ RX6 116 yX2_phaseOfLife zX2_phaseOfLife 2 0 := ⟨gi_V (lwq_4 (dqc_m (dqc_m (dqc_m (dqa_m (List.mem_of_getElem? (i := 2) rfl))))) rfl : Cond.methodLink RX6 116 yX2_phaseOfLife ∈ lw_g) (lwq_4 (dqc_m (dqa_m (dqa_m (dqa_m (List.mem_of_getElem? (i := 2) rfl))))) rfl : Cond.instanceMethod yX2_phaseOfLife ∈ lw_g) (lwq_4 (dqc_m (dqa_m (dqa_m (dqa_m (List.mem_of_getElem? (i := 3) rfl))))) rfl : Cond.selects yX2_phaseOfLife.cls yX2_phaseOfLife yX2_phaseOfLife ∈ lw_g) (lwq_1 (dqa_m (dqa_m (List.mem_of_getElem? (i := 0) rfl))) rfl : Cond.initialized yX2_phaseOfLife.cls ∈ lw_g) (lwq_4 (dqc_m (dqa_m (dqa_m (dqa_m (List.mem_of_getElem? (i := 4) rfl))))) rfl : Cond.code yX2_phaseOfLife cX2_phaseOfLife 1 (some .int) ∈ lw_g), ⟨nmh_10.1, nmh_10.2, pdq_17⟩, ⟨_, _, rfl⟩⟩
abbrev po_J7_fill_535 (T : Zt) (p : Int) (v : Int) : Zt → Option Zv → Prop := fun T' r => r = none ∧ fr_ [(535, [])] T T' ∧ oi_ T T' p ∧ ∀ j, 0 ≤ j → j < 1000 → T' 535 p j = v
set_option maxHeartbeats 4000000 in
theorem ct_J7_fill_535 {T : Zt} {p : Int} {v : Int} (h1 : 0 ≤ v ∧ v ≤ 1) : Ct_ yJ7_fill_53178 zJ7_fill_53178 T [vR 535 p, vI v] (po_J7_fill_535 T p v) := by
  refine ct_of (by decide) rfl rfl (Nat.le_of_ble_eq_true rfl) (fun hT hav => ?_)
  have hr_v : -2147483648 ≤ v ∧ v ≤ 2147483647 := hav (vI v) (List.mem_cons_of_mem _ List.mem_cons_self)
  have hz : zJ7_fill_53178.2.2.2.1 = some .boolean → ∀ (T' : Zt) (x : Int), po_J7_fill_535 T p v T' (some (vI x)) → 0 ≤ x ∧ x ≤ 1 := fun h => by cases h
  show J_ zJ7_fill_53178 T (po_J7_fill_535 T p v) 0 0 0 [some (vR 535 p), some (vI v), none, none] [] T
  have c_5 : ∀ (nn : Nat) (j : Int) (T1 : Zt), ((1000 - j).toNat) ≤ nn → (fr_ [(535, [])] T T1) → (0 ≤ j ∧ j ≤ 1000) → (oi_ T T1 p) → (∀ q, 0 ≤ q → q < j → T1 535 p q = v) → J_ zJ7_fill_53178 T (po_J7_fill_535 T p v) 0 0 5 [some (vR 535 p), some (vI v), some (vI j), some (vI 1000)] [] T1 := by
    intro nn
    induction nn using Nat.strongRecOn with
    | _ nn ih_5 =>
      intro j T1 hm_5 hf_5 i1 o1 f1
      replace hm_5 := fun (_ : Unit) => hm_5
      refine j_blx (F := fJ7) tb_J7 (nn_ _) bk_J7_fill_53178_5 bs_J7_fill_53178_5 hz (fun K hK => ?_)
      refine And.intro (fun c1 => ?_) (fun c1 => ?_)
      · refine hK 20 _ [] T1 ?_
        refine j_blx (F := fJ7) tb_J7 (nn_ _) bk_J7_fill_53178_20 bs_J7_fill_53178_20 hz (fun K hK => ?_)
        refine (show po_J7_fill_535 T p v T1 (none) from ?_)
        exact ⟨rfl, fr_t (fr_0 _ _) (fr_s hf_5 rfl), o1, fun q a b => f1 q a (by omega)⟩
      · refine iy_i (by omega) (by omega) ?_
        refine x_nm (fun U2 hU2 => ?_)
        have e3 := up_f hU2
        refine rg_i (by omega) ?_
        refine hK 5 [some (vR 535 p), some (vI v), some (vI (j + 1)), some (vI 1000)] [] U2 ?_
        refine ih_5 _ ?_ (j + 1) U2 (Nat.le_refl _) ?_ ?_ ?_ ?_
        · have hm_5 := hm_5 (); omega
        · exact fr_u (fr_t (fr_0 _ _) (fr_s hf_5 rfl)) hU2 rfl
        · omega
        · exact oi_u o1 hU2
        · intro q a b
          by_cases z : q = j
          · rw [z]; exact up_f hU2
          · rw [up_g hU2 (fun y => z y.2.2)]; exact f1 q a (by omega)
  refine j_blx (F := fJ7) tb_J7 (nn_ _) bk_J7_fill_53178_0 bs_J7_fill_53178_0 hz (fun K hK => ?_)
  refine hK 5 [some (vR 535 p), some (vI v), some (vI 0), some (vI 1000)] [] T ?_
  refine c_5 _ 0 T (Nat.le_refl _) ?_ ?_ ?_ ?_
  · exact fr_0 _ _
  · omega
  · exact oi_r
  · intro q a b; omega
abbrev cX6_blockDays : ByteArray := prog_8_method_11_code
def yX6_blockDays : MethodName := ⟨RX6, "blockDays", "(LSportsHouse$Match;)V"⟩
def zX6_blockDays : Zm := (RX6, cX6_blockDays, 7, none, { frames := 2, cells := 0, slots := 0, locals := 42 })
set_option maxRecDepth 100000 in
theorem cl_X6_150 : cs_ RX6 150 yJ7_fill_53178 zJ7_fill_53178 2 := ⟨gi_S (lwq_4 (dqc_m (dqc_m (dqc_m (dqa_m (dqa_m (List.mem_of_getElem? (i := 3) rfl)))))) rfl : Cond.methodLink RX6 150 yJ7_fill_53178 ∈ lw_g) (lwq_2 (dqa_m (dqa_m (dqa_m (List.mem_of_getElem? (i := 2) rfl)))) rfl : Cond.static yJ7_fill_53178 ∈ lw_g) (lwq_1 (List.mem_of_getElem? (i := 7) rfl) rfl : Cond.initialized yJ7_fill_53178.cls ∈ lw_g) (lwq_2 (dqa_m (dqa_m (dqa_m (List.mem_of_getElem? (i := 3) rfl)))) rfl : Cond.code yJ7_fill_53178 cJ7_fill_53178 4 none ∈ lw_g), ⟨by decide, by decide, by decide +kernel⟩⟩
abbrev cX6_goBehind : ByteArray := prog_8_method_10_code
def yX6_goBehind : MethodName := ⟨RX6, "goBehind", "(LSportsHouse$Match;II)Z"⟩
def zX6_goBehind : Zm := (RX6, cX6_goBehind, 5, (some .boolean), { frames := 3, cells := 0, slots := 0, locals := 68 })
set_option maxRecDepth 100000 in
theorem cl_X6_146 : cv_ RX6 146 yX6_blockDays zX6_blockDays 6 1 := ⟨gi_V (lwq_4 (dqc_m (dqc_m (dqc_m (dqa_m (List.mem_of_getElem? (i := 7) rfl))))) rfl : Cond.methodLink RX6 146 yX6_blockDays ∈ lw_g) (lwq_4 (dqc_m (dqc_m (dqc_m (dqa_m (dqa_m (List.mem_of_getElem? (i := 1) rfl)))))) rfl : Cond.instanceMethod yX6_blockDays ∈ lw_g) (lw_sel 121 rfl : Cond.selects yX6_blockDays.cls yX6_blockDays yX6_blockDays ∈ lw_g) (lwq_1 (List.mem_of_getElem? (i := 4) rfl) rfl : Cond.initialized yX6_blockDays.cls ∈ lw_g) (lwq_4 (dqc_m (dqc_m (dqc_m (dqa_m (dqa_m (List.mem_of_getElem? (i := 2) rfl)))))) rfl : Cond.code yX6_blockDays cX6_blockDays 7 none ∈ lw_g), ⟨nmh_6.1, nmh_6.2, pdq_26⟩, ⟨_, _, rfl⟩⟩
abbrev cX6_putOff : ByteArray := prog_8_method_6_code
def yX6_putOff : MethodName := ⟨RX6, "putOff", "(LSportsHouse$Match;I)I"⟩
def zX6_putOff : Zm := (RX6, cX6_putOff, 7, (some .int), { frames := 4, cells := 0, slots := 0, locals := 92 })
set_option maxRecDepth 100000 in
theorem cl_X6_102 : cv_ RX6 102 yX6_goBehind zX6_goBehind 6 3 := ⟨gi_V (lwq_4 (dqc_m (dqc_m (dqc_m (dqa_m (List.mem_of_getElem? (i := 3) rfl))))) rfl : Cond.methodLink RX6 102 yX6_goBehind ∈ lw_g) (lwq_4 (dqc_m (dqc_m (dqc_m (dqa_m (List.mem_of_getElem? (i := 5) rfl))))) rfl : Cond.instanceMethod yX6_goBehind ∈ lw_g) (lw_sel 122 rfl : Cond.selects yX6_goBehind.cls yX6_goBehind yX6_goBehind ∈ lw_g) (lwq_1 (List.mem_of_getElem? (i := 4) rfl) rfl : Cond.initialized yX6_goBehind.cls ∈ lw_g) (lwq_4 (dqc_m (dqc_m (dqc_m (dqa_m (List.mem_of_getElem? (i := 6) rfl))))) rfl : Cond.code yX6_goBehind cX6_goBehind 5 (some .boolean) ∈ lw_g), ⟨nmh_6.1, nmh_6.2, pdq_27⟩, ⟨_, _, rfl⟩⟩
set_option maxRecDepth 100000 in
theorem cl_X6_98 : cv_ RX6 98 yX6_listAgainst zX6_listAgainst 6 1 := ⟨gi_V (lwq_4 (dqc_m (dqc_m (dqa_m (dqa_m (List.mem_of_getElem? (i := 5) rfl))))) rfl : Cond.methodLink RX6 98 yX6_listAgainst ∈ lw_g) (lwq_4 (dqc_m (dqc_m (dqa_m (dqa_m (List.mem_of_getElem? (i := 7) rfl))))) rfl : Cond.instanceMethod yX6_listAgainst ∈ lw_g) (lw_sel 124 rfl : Cond.selects yX6_listAgainst.cls yX6_listAgainst yX6_listAgainst ∈ lw_g) (lwq_1 (List.mem_of_getElem? (i := 4) rfl) rfl : Cond.initialized yX6_listAgainst.cls ∈ lw_g) (lwq_4 (dqc_m (dqc_m (dqa_m (dqa_m (dqa_m (List.mem_of_getElem? (i := 0) rfl)))))) rfl : Cond.code yX6_listAgainst cX6_listAgainst 5 (some .int) ∈ lw_g), ⟨nmh_6.1, nmh_6.2, pdq_28⟩, ⟨_, _, rfl⟩⟩
abbrev cX10_postpone : ByteArray := prog_1_method_16_code
def yX10_postpone : MethodName := ⟨RX10, "postpone", "(II)I"⟩
def zX10_postpone : Zm := (RX10, cX10_postpone, 4, (some .int), { frames := 5, cells := 0, slots := 0, locals := 118 })
set_option maxRecDepth 100000 in
theorem cl_X10_234 : cv_ RX10 234 yX6_putOff zX6_putOff 6 2 := ⟨gi_V (lwq_4 (dqc_m (dqc_m (dqa_m (dqa_m (List.mem_of_getElem? (i := 1) rfl))))) rfl : Cond.methodLink RX10 234 yX6_putOff ∈ lw_g) (lwq_4 (dqc_m (dqc_m (dqa_m (dqa_m (List.mem_of_getElem? (i := 2) rfl))))) rfl : Cond.instanceMethod yX6_putOff ∈ lw_g) (lwq_4 (dqc_m (dqc_m (dqa_m (dqa_m (List.mem_of_getElem? (i := 3) rfl))))) rfl : Cond.selects yX6_putOff.cls yX6_putOff yX6_putOff ∈ lw_g) (lwq_1 (List.mem_of_getElem? (i := 4) rfl) rfl : Cond.initialized yX6_putOff.cls ∈ lw_g) (lwq_4 (dqc_m (dqc_m (dqa_m (dqa_m (List.mem_of_getElem? (i := 4) rfl))))) rfl : Cond.code yX6_putOff cX6_putOff 7 (some .int) ∈ lw_g), ⟨nmh_6.1, nmh_6.2, pdq_29⟩, ⟨_, _, rfl⟩⟩
theorem us_1c {x : Int} : us_ x 1 = x % 4294967296 / 2 := by
  have a : ((Int32.ofInt x).toUInt32.toBitVec).toNat = (x % 4294967296).toNat := by
    show (BitVec.ofInt 32 x).toNat = _
    rw [BitVec.toNat_ofInt]; rfl
  have s : ((Int32.ofInt 1).toUInt32 &&& Int32.toUInt32 31) = 1 := by decide
  unfold us_
  rw [s]
  have b : (((Int32.ofInt x).toUInt32 >>> (1 : UInt32)).toBitVec).toNat = (x % 4294967296).toNat / 2 := by
    show ((Int32.ofInt x).toUInt32.toBitVec >>> (1 : BitVec 32)).toNat = _
    rw [BitVec.ushiftRight_eq', BitVec.toNat_ushiftRight, a]
    show (x % 4294967296).toNat >>> 1 = _
    rw [Nat.shiftRight_eq_div_pow]
  show (((Int32.ofInt x).toUInt32 >>> (1 : UInt32)).toBitVec).toInt = _
  rw [BitVec.toInt_eq_toNat_cond, b]
  split <;> omega
abbrev cX1_openNew : ByteArray := prog_3_method_2_code
def yX1_openNew : MethodName := ⟨RX1, "openNew", "(II)V"⟩
def zX1_openNew : Zm := (RX1, cX1_openNew, 3, none, { frames := 1, cells := 0, slots := 0, locals := 23 })
set_option maxRecDepth 100000 in
theorem cl_X1_54 : cs_ RX1 54 yJ7_fill_53178 zJ7_fill_53178 2 := ⟨gi_S (lwq_6 (dqc_m (dqc_m (dqc_m (dqc_m (List.mem_of_getElem? (i := 1) rfl))))) rfl : Cond.methodLink RX1 54 yJ7_fill_53178 ∈ lw_g) (lwq_2 (dqa_m (dqa_m (dqa_m (List.mem_of_getElem? (i := 2) rfl)))) rfl : Cond.static yJ7_fill_53178 ∈ lw_g) (lwq_1 (List.mem_of_getElem? (i := 7) rfl) rfl : Cond.initialized yJ7_fill_53178.cls ∈ lw_g) (lwq_2 (dqa_m (dqa_m (dqa_m (List.mem_of_getElem? (i := 3) rfl)))) rfl : Cond.code yJ7_fill_53178 cJ7_fill_53178 4 none ∈ lw_g), ⟨by decide, by decide, by decide +kernel⟩⟩
abbrev cX10_drawing : ByteArray := prog_1_method_36_code
def yX10_drawing : MethodName := ⟨RX10, "drawing", "(II)I"⟩
def zX10_drawing : Zm := (RX10, cX10_drawing, 3, (some .int), { frames := 2, cells := 0, slots := 0, locals := 45 })
set_option maxRecDepth 100000 in
theorem cl_X10_380 : cv_ RX10 380 yX1_openNew zX1_openNew 1 2 := ⟨gi_V (lwq_6 (dqc_m (dqc_m (dqc_m (dqa_m (dqa_m (dqa_m (List.mem_of_getElem? (i := 5) rfl))))))) rfl : Cond.methodLink RX10 380 yX1_openNew ∈ lw_g) (lwq_6 (dqc_m (dqc_m (dqc_m (dqa_m (dqa_m (dqa_m (List.mem_of_getElem? (i := 6) rfl))))))) rfl : Cond.instanceMethod yX1_openNew ∈ lw_g) (lwq_6 (dqc_m (dqc_m (dqc_m (dqa_m (dqa_m (dqa_m (List.mem_of_getElem? (i := 7) rfl))))))) rfl : Cond.selects yX1_openNew.cls yX1_openNew yX1_openNew ∈ lw_g) (lwq_1 (dqa_m (List.mem_of_getElem? (i := 0) rfl)) rfl : Cond.initialized yX1_openNew.cls ∈ lw_g) (lwq_6 (dqc_m (dqc_m (dqc_m (dqc_m (List.mem_of_getElem? (i := 0) rfl))))) rfl : Cond.code yX1_openNew cX1_openNew 3 none ∈ lw_g), ⟨nmh_2.1, nmh_2.2, pdq_0⟩, ⟨_, _, rfl⟩⟩
abbrev po_X10_drawing (T : Zt) (g l : Int) : Zt → Option Zv → Prop := fun T' r => ∃ x : Int, r = some (vI x) ∧ fr_ [(101, [1, 2, 3, 4, 7]), (428, []), (429, []), (430, [])] T T' ∧ ((x = -3 ∧ ¬ (1 ≤ g ∧ g ≤ 4 ∧ 1 ≤ l ∧ l ≤ 3)) ∨ (x = 1 ∧ 1 ≤ g ∧ g ≤ 4 ∧ 1 ≤ l ∧ l ≤ 3))
abbrev cX1_putIn : ByteArray := prog_3_method_3_code
def yX1_putIn : MethodName := ⟨RX1, "putIn", "(II)V"⟩
def zX1_putIn : Zm := (RX1, cX1_putIn, 3, none, { frames := 0, cells := 0, slots := 0, locals := 0 })
abbrev cX10_pot : ByteArray := prog_1_method_37_code
def yX10_pot : MethodName := ⟨RX10, "pot", "(II)I"⟩
def zX10_pot : Zm := (RX10, cX10_pot, 3, (some .int), { frames := 2, cells := 0, slots := 0, locals := 42 })
set_option maxRecDepth 100000 in
theorem cl_X10_396 : cv_ RX10 396 yX1_putIn zX1_putIn 1 2 := ⟨gi_V (lwq_6 (dqc_m (dqc_m (dqc_m (dqc_m (List.mem_of_getElem? (i := 6) rfl))))) rfl : Cond.methodLink RX10 396 yX1_putIn ∈ lw_g) (lwq_6 (dqc_m (dqc_m (dqc_m (dqc_m (List.mem_of_getElem? (i := 7) rfl))))) rfl : Cond.instanceMethod yX1_putIn ∈ lw_g) (lwq_6 (dqc_m (dqc_m (dqc_m (dqc_m (dqa_m (List.mem_of_getElem? (i := 0) rfl)))))) rfl : Cond.selects yX1_putIn.cls yX1_putIn yX1_putIn ∈ lw_g) (lwq_1 (dqa_m (List.mem_of_getElem? (i := 0) rfl)) rfl : Cond.initialized yX1_putIn.cls ∈ lw_g) (lwq_6 (dqc_m (dqc_m (dqc_m (dqc_m (dqa_m (List.mem_of_getElem? (i := 1) rfl)))))) rfl : Cond.code yX1_putIn cX1_putIn 3 none ∈ lw_g), ⟨nmh_2.1, nmh_2.2, pdq_0⟩, ⟨_, _, rfl⟩⟩
abbrev po_X10_pot (T : Zt) (c k : Int) : Zt → Option Zv → Prop := fun T' r => ∃ x : Int, r = some (vI x) ∧ fr_ [(428, []), (430, []), (101, [3, 7])] T T' ∧ (x = x)
abbrev cX1_waysWith : ByteArray := prog_3_method_6_code
def yX1_waysWith : MethodName := ⟨RX1, "waysWith", "(II)I"⟩
def zX1_waysWith : Zm := (RX1, cX1_waysWith, 3, (some .int), { frames := 0, cells := 0, slots := 0, locals := 0 })
abbrev cX1_takeBelow : ByteArray := prog_3_method_9_code
def yX1_takeBelow : MethodName := ⟨RX1, "takeBelow", "(I)I"⟩
def zX1_takeBelow : Zm := (RX1, cX1_takeBelow, 8, (some .int), { frames := 0, cells := 0, slots := 0, locals := 0 })
abbrev cX1_takeClub : ByteArray := prog_3_method_7_code
def yX1_takeClub : MethodName := ⟨RX1, "takeClub", "()I"⟩
def zX1_takeClub : Zm := (RX1, cX1_takeClub, 4, (some .int), { frames := 1, cells := 0, slots := 0, locals := 27 })
set_option maxRecDepth 100000 in
theorem cl_X1_75 : cv_ RX1 75 yX1_takeBelow zX1_takeBelow 1 1 := ⟨gi_V (lwq_6 (dqc_m (dqc_m (dqc_m (dqc_m (dqc_m (List.mem_of_getElem? (i := 6) rfl)))))) rfl : Cond.methodLink RX1 75 yX1_takeBelow ∈ lw_g) (lwq_6 (dqc_m (dqc_m (dqc_m (dqc_m (dqc_m (dqa_m (List.mem_of_getElem? (i := 0) rfl))))))) rfl : Cond.instanceMethod yX1_takeBelow ∈ lw_g) (lw_sel 82 rfl : Cond.selects yX1_takeBelow.cls yX1_takeBelow yX1_takeBelow ∈ lw_g) (lwq_1 (dqa_m (List.mem_of_getElem? (i := 0) rfl)) rfl : Cond.initialized yX1_takeBelow.cls ∈ lw_g) (lwq_6 (dqc_m (dqc_m (dqc_m (dqc_m (dqc_m (dqa_m (List.mem_of_getElem? (i := 1) rfl))))))) rfl : Cond.code yX1_takeBelow cX1_takeBelow 8 (some .int) ∈ lw_g), ⟨nmh_2.1, nmh_2.2, pdq_15⟩, ⟨_, _, rfl⟩⟩
abbrev cX1_place : ByteArray := prog_3_method_8_code
def yX1_place : MethodName := ⟨RX1, "place", "(I)V"⟩
def zX1_place : Zm := (RX1, cX1_place, 5, none, { frames := 1, cells := 0, slots := 0, locals := 27 })
abbrev cX3_isFormed : ByteArray := prog_5_method_6_code
def yX3_isFormed : MethodName := ⟨RX3, "isFormed", "(II)Z"⟩
def zX3_isFormed : Zm := (RX3, cX3_isFormed, 4, (some .boolean), { frames := 1, cells := 0, slots := 0, locals := 20 })
set_option maxRecDepth 100000 in
theorem cn_X3_89 : cn_ zX10_isSide 1 := ⟨gi_c (lwq_4 (dqc_m (dqc_m (dqc_m (dqc_m (dqa_m (List.mem_of_getElem? (i := 1) rfl)))))) rfl : Cond.code yX10_isSide cX10_isSide 1 (some .boolean) ∈ lw_g), (lwq_4 (dqc_m (dqc_m (dqc_m (dqc_m (dqa_m (List.mem_of_getElem? (i := 0) rfl)))))) rfl : Cond.static yX10_isSide ∈ lw_g), (lwq_1 (List.mem_of_getElem? (i := 1) rfl) rfl : Cond.initialized "SportsHouse" ∈ lw_g), ⟨by decide, by decide, by decide +kernel⟩⟩
theorem ds_X3_isFormed_6 : decode cX3_isFormed 6 = .ok (.tableswitch 83 0 2 #[26, 44, 63], 26) := by decide +kernel
abbrev cX3_brokenLaw : ByteArray := prog_5_method_5_code
def yX3_brokenLaw : MethodName := ⟨RX3, "brokenLaw", "(IIII)I"⟩
def zX3_brokenLaw : Zm := (RX3, cX3_brokenLaw, 5, (some .int), { frames := 2, cells := 0, slots := 0, locals := 45 })
set_option maxRecDepth 100000 in
theorem cl_X3_86 : cv_ RX3 86 yX3_isBounded zX3_isBounded 3 2 := ⟨gi_V (lwq_5 (dqc_m (dqa_m (dqa_m (dqa_m (List.mem_of_getElem? (i := 0) rfl))))) rfl : Cond.methodLink RX3 86 yX3_isBounded ∈ lw_g) (lwq_5 (dqc_m (dqa_m (dqa_m (dqa_m (List.mem_of_getElem? (i := 1) rfl))))) rfl : Cond.instanceMethod yX3_isBounded ∈ lw_g) (lwq_5 (dqc_m (dqa_m (dqa_m (dqa_m (List.mem_of_getElem? (i := 2) rfl))))) rfl : Cond.selects yX3_isBounded.cls yX3_isBounded yX3_isBounded ∈ lw_g) (lwq_1 (dqa_m (dqa_m (List.mem_of_getElem? (i := 2) rfl))) rfl : Cond.initialized yX3_isBounded.cls ∈ lw_g) (lwq_5 (dqc_m (dqa_m (dqa_m (dqa_m (List.mem_of_getElem? (i := 3) rfl))))) rfl : Cond.code yX3_isBounded cX3_isBounded 3 (some .boolean) ∈ lw_g), ⟨nmh_3.1, nmh_3.2, pdq_5⟩, ⟨_, _, rfl⟩⟩
set_option maxRecDepth 100000 in
theorem cl_X3_68 : cv_ RX3 68 yX3_isFormed zX3_isFormed 3 2 := ⟨gi_V (lwq_5 (dqa_m (dqa_m (dqa_m (List.mem_of_getElem? (i := 7) rfl)))) rfl : Cond.methodLink RX3 68 yX3_isFormed ∈ lw_g) (lwq_5 (dqc_m (List.mem_of_getElem? (i := 0) rfl)) rfl : Cond.instanceMethod yX3_isFormed ∈ lw_g) (lwq_5 (dqc_m (List.mem_of_getElem? (i := 1) rfl)) rfl : Cond.selects yX3_isFormed.cls yX3_isFormed yX3_isFormed ∈ lw_g) (lwq_1 (dqa_m (dqa_m (List.mem_of_getElem? (i := 2) rfl))) rfl : Cond.initialized yX3_isFormed.cls ∈ lw_g) (lwq_5 (dqc_m (List.mem_of_getElem? (i := 2) rfl)) rfl : Cond.code yX3_isFormed cX3_isFormed 4 (some .boolean) ∈ lw_g), ⟨nmh_3.1, nmh_3.2, pdq_5⟩, ⟨_, _, rfl⟩⟩
set_option maxRecDepth 100000 in
theorem cl_X3_72 : cv_ RX3 72 yX3_isAllowed zX3_isAllowed 3 2 := ⟨gi_V (lwq_5 (dqc_m (List.mem_of_getElem? (i := 4) rfl)) rfl : Cond.methodLink RX3 72 yX3_isAllowed ∈ lw_g) (lwq_5 (dqc_m (List.mem_of_getElem? (i := 6) rfl)) rfl : Cond.instanceMethod yX3_isAllowed ∈ lw_g) (lw_sel 90 rfl : Cond.selects yX3_isAllowed.cls yX3_isAllowed yX3_isAllowed ∈ lw_g) (lwq_1 (dqa_m (dqa_m (List.mem_of_getElem? (i := 2) rfl))) rfl : Cond.initialized yX3_isAllowed.cls ∈ lw_g) (lwq_5 (dqc_m (List.mem_of_getElem? (i := 7) rfl)) rfl : Cond.code yX3_isAllowed cX3_isAllowed 3 (some .boolean) ∈ lw_g), ⟨nmh_3.1, nmh_3.2, pdq_5⟩, ⟨_, _, rfl⟩⟩
set_option maxRecDepth 100000 in
theorem cl_X3_75 : cv_ RX3 75 yX3_needsPerson zX3_needsPerson 3 1 := ⟨gi_V (lwq_5 (dqc_m (dqa_m (List.mem_of_getElem? (i := 0) rfl))) rfl : Cond.methodLink RX3 75 yX3_needsPerson ∈ lw_g) (lwq_5 (dqc_m (dqa_m (List.mem_of_getElem? (i := 2) rfl))) rfl : Cond.instanceMethod yX3_needsPerson ∈ lw_g) (lw_sel 92 rfl : Cond.selects yX3_needsPerson.cls yX3_needsPerson yX3_needsPerson ∈ lw_g) (lwq_1 (dqa_m (dqa_m (List.mem_of_getElem? (i := 2) rfl))) rfl : Cond.initialized yX3_needsPerson.cls ∈ lw_g) (lwq_5 (dqc_m (dqa_m (List.mem_of_getElem? (i := 3) rfl))) rfl : Cond.code yX3_needsPerson cX3_needsPerson 2 (some .boolean) ∈ lw_g), ⟨nmh_3.1, nmh_3.2, pdq_7⟩, ⟨_, _, rfl⟩⟩
abbrev po_J7_fill_542 (T : Zt) (p : Int) (v : Int) : Zt → Option Zv → Prop := fun T' r => r = none ∧ fr_ [(542, [])] T T' ∧ oi_ T T' p ∧ ∀ j, 0 ≤ j → j < 96 → T' 542 p j = v
set_option maxHeartbeats 4000000 in
theorem ct_J7_fill_542 {T : Zt} {p : Int} {v : Int} (h1 : (-2147483648) ≤ v ∧ v ≤ 2147483647) : Ct_ yJ7_fill_53178 zJ7_fill_53178 T [vR 542 p, vI v] (po_J7_fill_542 T p v) := by
  refine ct_of (by decide) rfl rfl (Nat.le_of_ble_eq_true rfl) (fun hT hav => ?_)
  have hr_v : -2147483648 ≤ v ∧ v ≤ 2147483647 := hav (vI v) (List.mem_cons_of_mem _ List.mem_cons_self)
  have hz : zJ7_fill_53178.2.2.2.1 = some .boolean → ∀ (T' : Zt) (x : Int), po_J7_fill_542 T p v T' (some (vI x)) → 0 ≤ x ∧ x ≤ 1 := fun h => by cases h
  show J_ zJ7_fill_53178 T (po_J7_fill_542 T p v) 0 0 0 [some (vR 542 p), some (vI v), none, none] [] T
  have c_5 : ∀ (nn : Nat) (j : Int) (T1 : Zt), ((96 - j).toNat) ≤ nn → (fr_ [(542, [])] T T1) → (0 ≤ j ∧ j ≤ 96) → (oi_ T T1 p) → (∀ q, 0 ≤ q → q < j → T1 542 p q = v) → J_ zJ7_fill_53178 T (po_J7_fill_542 T p v) 0 0 5 [some (vR 542 p), some (vI v), some (vI j), some (vI 96)] [] T1 := by
    intro nn
    induction nn using Nat.strongRecOn with
    | _ nn ih_5 =>
      intro j T1 hm_5 hf_5 i1 o1 f1
      replace hm_5 := fun (_ : Unit) => hm_5
      refine j_blx (F := fJ7) tb_J7 (nn_ _) bk_J7_fill_53178_5 bs_J7_fill_53178_5 hz (fun K hK => ?_)
      refine And.intro (fun c1 => ?_) (fun c1 => ?_)
      · refine hK 20 _ [] T1 ?_
        refine j_blx (F := fJ7) tb_J7 (nn_ _) bk_J7_fill_53178_20 bs_J7_fill_53178_20 hz (fun K hK => ?_)
        refine (show po_J7_fill_542 T p v T1 (none) from ?_)
        exact ⟨rfl, fr_t (fr_0 _ _) (fr_s hf_5 rfl), o1, fun q a b => f1 q a (by omega)⟩
      · refine iy_i (by omega) (by omega) ?_
        refine x_nm (fun U2 hU2 => ?_)
        have e3 := up_f hU2
        refine rg_i (by omega) ?_
        refine hK 5 [some (vR 542 p), some (vI v), some (vI (j + 1)), some (vI 96)] [] U2 ?_
        refine ih_5 _ ?_ (j + 1) U2 (Nat.le_refl _) ?_ ?_ ?_ ?_
        · have hm_5 := hm_5 (); omega
        · exact fr_u (fr_t (fr_0 _ _) (fr_s hf_5 rfl)) hU2 rfl
        · omega
        · exact oi_u o1 hU2
        · intro q a b
          by_cases z : q = j
          · rw [z]; exact up_f hU2
          · rw [up_g hU2 (fun y => z y.2.2)]; exact f1 q a (by omega)
  refine j_blx (F := fJ7) tb_J7 (nn_ _) bk_J7_fill_53178_0 bs_J7_fill_53178_0 hz (fun K hK => ?_)
  refine hK 5 [some (vR 542 p), some (vI v), some (vI 0), some (vI 96)] [] T ?_
  refine c_5 _ 0 T (Nat.le_refl _) ?_ ?_ ?_ ?_
  · exact fr_0 _ _
  · omega
  · exact oi_r
  · intro q a b; omega
abbrev po_J7_fill_543 (T : Zt) (p : Int) (v : Int) : Zt → Option Zv → Prop := fun T' r => r = none ∧ fr_ [(543, [])] T T' ∧ oi_ T T' p ∧ ∀ j, 0 ≤ j → j < 12 → T' 543 p j = v
set_option maxHeartbeats 4000000 in
theorem ct_J7_fill_543 {T : Zt} {p : Int} {v : Int} (h1 : (-2147483648) ≤ v ∧ v ≤ 2147483647) : Ct_ yJ7_fill_53178 zJ7_fill_53178 T [vR 543 p, vI v] (po_J7_fill_543 T p v) := by
  refine ct_of (by decide) rfl rfl (Nat.le_of_ble_eq_true rfl) (fun hT hav => ?_)
  have hr_v : -2147483648 ≤ v ∧ v ≤ 2147483647 := hav (vI v) (List.mem_cons_of_mem _ List.mem_cons_self)
  have hz : zJ7_fill_53178.2.2.2.1 = some .boolean → ∀ (T' : Zt) (x : Int), po_J7_fill_543 T p v T' (some (vI x)) → 0 ≤ x ∧ x ≤ 1 := fun h => by cases h
  show J_ zJ7_fill_53178 T (po_J7_fill_543 T p v) 0 0 0 [some (vR 543 p), some (vI v), none, none] [] T
  have c_5 : ∀ (nn : Nat) (j : Int) (T1 : Zt), ((12 - j).toNat) ≤ nn → (fr_ [(543, [])] T T1) → (0 ≤ j ∧ j ≤ 12) → (oi_ T T1 p) → (∀ q, 0 ≤ q → q < j → T1 543 p q = v) → J_ zJ7_fill_53178 T (po_J7_fill_543 T p v) 0 0 5 [some (vR 543 p), some (vI v), some (vI j), some (vI 12)] [] T1 := by
    intro nn
    induction nn using Nat.strongRecOn with
    | _ nn ih_5 =>
      intro j T1 hm_5 hf_5 i1 o1 f1
      replace hm_5 := fun (_ : Unit) => hm_5
      refine j_blx (F := fJ7) tb_J7 (nn_ _) bk_J7_fill_53178_5 bs_J7_fill_53178_5 hz (fun K hK => ?_)
      refine And.intro (fun c1 => ?_) (fun c1 => ?_)
      · refine hK 20 _ [] T1 ?_
        refine j_blx (F := fJ7) tb_J7 (nn_ _) bk_J7_fill_53178_20 bs_J7_fill_53178_20 hz (fun K hK => ?_)
        refine (show po_J7_fill_543 T p v T1 (none) from ?_)
        exact ⟨rfl, fr_t (fr_0 _ _) (fr_s hf_5 rfl), o1, fun q a b => f1 q a (by omega)⟩
      · refine iy_i (by omega) (by omega) ?_
        refine x_nm (fun U2 hU2 => ?_)
        have e3 := up_f hU2
        refine rg_i (by omega) ?_
        refine hK 5 [some (vR 543 p), some (vI v), some (vI (j + 1)), some (vI 12)] [] U2 ?_
        refine ih_5 _ ?_ (j + 1) U2 (Nat.le_refl _) ?_ ?_ ?_ ?_
        · have hm_5 := hm_5 (); omega
        · exact fr_u (fr_t (fr_0 _ _) (fr_s hf_5 rfl)) hU2 rfl
        · omega
        · exact oi_u o1 hU2
        · intro q a b
          by_cases z : q = j
          · rw [z]; exact up_f hU2
          · rw [up_g hU2 (fun y => z y.2.2)]; exact f1 q a (by omega)
  refine j_blx (F := fJ7) tb_J7 (nn_ _) bk_J7_fill_53178_0 bs_J7_fill_53178_0 hz (fun K hK => ?_)
  refine hK 5 [some (vR 543 p), some (vI v), some (vI 0), some (vI 12)] [] T ?_
  refine c_5 _ 0 T (Nat.le_refl _) ?_ ?_ ?_ ?_
  · exact fr_0 _ _
  · omega
  · exact oi_r
  · intro q a b; omega
abbrev po_J7_fill_544 (T : Zt) (p : Int) (v : Int) : Zt → Option Zv → Prop := fun T' r => r = none ∧ fr_ [(544, [])] T T' ∧ oi_ T T' p ∧ ∀ j, 0 ≤ j → j < 12 → T' 544 p j = v
set_option maxHeartbeats 4000000 in
theorem ct_J7_fill_544 {T : Zt} {p : Int} {v : Int} (h1 : (-2147483648) ≤ v ∧ v ≤ 2147483647) : Ct_ yJ7_fill_53178 zJ7_fill_53178 T [vR 544 p, vI v] (po_J7_fill_544 T p v) := by
  refine ct_of (by decide) rfl rfl (Nat.le_of_ble_eq_true rfl) (fun hT hav => ?_)
  have hr_v : -2147483648 ≤ v ∧ v ≤ 2147483647 := hav (vI v) (List.mem_cons_of_mem _ List.mem_cons_self)
  have hz : zJ7_fill_53178.2.2.2.1 = some .boolean → ∀ (T' : Zt) (x : Int), po_J7_fill_544 T p v T' (some (vI x)) → 0 ≤ x ∧ x ≤ 1 := fun h => by cases h
  show J_ zJ7_fill_53178 T (po_J7_fill_544 T p v) 0 0 0 [some (vR 544 p), some (vI v), none, none] [] T
  have c_5 : ∀ (nn : Nat) (j : Int) (T1 : Zt), ((12 - j).toNat) ≤ nn → (fr_ [(544, [])] T T1) → (0 ≤ j ∧ j ≤ 12) → (oi_ T T1 p) → (∀ q, 0 ≤ q → q < j → T1 544 p q = v) → J_ zJ7_fill_53178 T (po_J7_fill_544 T p v) 0 0 5 [some (vR 544 p), some (vI v), some (vI j), some (vI 12)] [] T1 := by
    intro nn
    induction nn using Nat.strongRecOn with
    | _ nn ih_5 =>
      intro j T1 hm_5 hf_5 i1 o1 f1
      replace hm_5 := fun (_ : Unit) => hm_5
      refine j_blx (F := fJ7) tb_J7 (nn_ _) bk_J7_fill_53178_5 bs_J7_fill_53178_5 hz (fun K hK => ?_)
      refine And.intro (fun c1 => ?_) (fun c1 => ?_)
      · refine hK 20 _ [] T1 ?_
        refine j_blx (F := fJ7) tb_J7 (nn_ _) bk_J7_fill_53178_20 bs_J7_fill_53178_20 hz (fun K hK => ?_)
        refine (show po_J7_fill_544 T p v T1 (none) from ?_)
        exact ⟨rfl, fr_t (fr_0 _ _) (fr_s hf_5 rfl), o1, fun q a b => f1 q a (by omega)⟩
      · refine iy_i (by omega) (by omega) ?_
        refine x_nm (fun U2 hU2 => ?_)
        have e3 := up_f hU2
        refine rg_i (by omega) ?_
        refine hK 5 [some (vR 544 p), some (vI v), some (vI (j + 1)), some (vI 12)] [] U2 ?_
        refine ih_5 _ ?_ (j + 1) U2 (Nat.le_refl _) ?_ ?_ ?_ ?_
        · have hm_5 := hm_5 (); omega
        · exact fr_u (fr_t (fr_0 _ _) (fr_s hf_5 rfl)) hU2 rfl
        · omega
        · exact oi_u o1 hU2
        · intro q a b
          by_cases z : q = j
          · rw [z]; exact up_f hU2
          · rw [up_g hU2 (fun y => z y.2.2)]; exact f1 q a (by omega)
  refine j_blx (F := fJ7) tb_J7 (nn_ _) bk_J7_fill_53178_0 bs_J7_fill_53178_0 hz (fun K hK => ?_)
  refine hK 5 [some (vR 544 p), some (vI v), some (vI 0), some (vI 12)] [] T ?_
  refine c_5 _ 0 T (Nat.le_refl _) ?_ ?_ ?_ ?_
  · exact fr_0 _ _
  · omega
  · exact oi_r
  · intro q a b; omega
abbrev po_J7_fill_545 (T : Zt) (p : Int) (v : Int) : Zt → Option Zv → Prop := fun T' r => r = none ∧ fr_ [(545, [])] T T' ∧ oi_ T T' p ∧ ∀ j, 0 ≤ j → j < 144 → T' 545 p j = v
set_option maxHeartbeats 4000000 in
theorem ct_J7_fill_545 {T : Zt} {p : Int} {v : Int} (h1 : (-2147483648) ≤ v ∧ v ≤ 2147483647) : Ct_ yJ7_fill_53178 zJ7_fill_53178 T [vR 545 p, vI v] (po_J7_fill_545 T p v) := by
  refine ct_of (by decide) rfl rfl (Nat.le_of_ble_eq_true rfl) (fun hT hav => ?_)
  have hr_v : -2147483648 ≤ v ∧ v ≤ 2147483647 := hav (vI v) (List.mem_cons_of_mem _ List.mem_cons_self)
  have hz : zJ7_fill_53178.2.2.2.1 = some .boolean → ∀ (T' : Zt) (x : Int), po_J7_fill_545 T p v T' (some (vI x)) → 0 ≤ x ∧ x ≤ 1 := fun h => by cases h
  show J_ zJ7_fill_53178 T (po_J7_fill_545 T p v) 0 0 0 [some (vR 545 p), some (vI v), none, none] [] T
  have c_5 : ∀ (nn : Nat) (j : Int) (T1 : Zt), ((144 - j).toNat) ≤ nn → (fr_ [(545, [])] T T1) → (0 ≤ j ∧ j ≤ 144) → (oi_ T T1 p) → (∀ q, 0 ≤ q → q < j → T1 545 p q = v) → J_ zJ7_fill_53178 T (po_J7_fill_545 T p v) 0 0 5 [some (vR 545 p), some (vI v), some (vI j), some (vI 144)] [] T1 := by
    intro nn
    induction nn using Nat.strongRecOn with
    | _ nn ih_5 =>
      intro j T1 hm_5 hf_5 i1 o1 f1
      replace hm_5 := fun (_ : Unit) => hm_5
      refine j_blx (F := fJ7) tb_J7 (nn_ _) bk_J7_fill_53178_5 bs_J7_fill_53178_5 hz (fun K hK => ?_)
      refine And.intro (fun c1 => ?_) (fun c1 => ?_)
      · refine hK 20 _ [] T1 ?_
        refine j_blx (F := fJ7) tb_J7 (nn_ _) bk_J7_fill_53178_20 bs_J7_fill_53178_20 hz (fun K hK => ?_)
        refine (show po_J7_fill_545 T p v T1 (none) from ?_)
        exact ⟨rfl, fr_t (fr_0 _ _) (fr_s hf_5 rfl), o1, fun q a b => f1 q a (by omega)⟩
      · refine iy_i (by omega) (by omega) ?_
        refine x_nm (fun U2 hU2 => ?_)
        have e3 := up_f hU2
        refine rg_i (by omega) ?_
        refine hK 5 [some (vR 545 p), some (vI v), some (vI (j + 1)), some (vI 144)] [] U2 ?_
        refine ih_5 _ ?_ (j + 1) U2 (Nat.le_refl _) ?_ ?_ ?_ ?_
        · have hm_5 := hm_5 (); omega
        · exact fr_u (fr_t (fr_0 _ _) (fr_s hf_5 rfl)) hU2 rfl
        · omega
        · exact oi_u o1 hU2
        · intro q a b
          by_cases z : q = j
          · rw [z]; exact up_f hU2
          · rw [up_g hU2 (fun y => z y.2.2)]; exact f1 q a (by omega)
  refine j_blx (F := fJ7) tb_J7 (nn_ _) bk_J7_fill_53178_0 bs_J7_fill_53178_0 hz (fun K hK => ?_)
  refine hK 5 [some (vR 545 p), some (vI v), some (vI 0), some (vI 144)] [] T ?_
  refine c_5 _ 0 T (Nat.le_refl _) ?_ ?_ ?_ ?_
  · exact fr_0 _ _
  · omega
  · exact oi_r
  · intro q a b; omega
abbrev po_J7_fill_546 (T : Zt) (p : Int) (v : Int) : Zt → Option Zv → Prop := fun T' r => r = none ∧ fr_ [(546, [])] T T' ∧ oi_ T T' p ∧ ∀ j, 0 ≤ j → j < 144 → T' 546 p j = v
set_option maxHeartbeats 4000000 in
theorem ct_J7_fill_546 {T : Zt} {p : Int} {v : Int} (h1 : (-2147483648) ≤ v ∧ v ≤ 2147483647) : Ct_ yJ7_fill_53178 zJ7_fill_53178 T [vR 546 p, vI v] (po_J7_fill_546 T p v) := by
  refine ct_of (by decide) rfl rfl (Nat.le_of_ble_eq_true rfl) (fun hT hav => ?_)
  have hr_v : -2147483648 ≤ v ∧ v ≤ 2147483647 := hav (vI v) (List.mem_cons_of_mem _ List.mem_cons_self)
  have hz : zJ7_fill_53178.2.2.2.1 = some .boolean → ∀ (T' : Zt) (x : Int), po_J7_fill_546 T p v T' (some (vI x)) → 0 ≤ x ∧ x ≤ 1 := fun h => by cases h
  show J_ zJ7_fill_53178 T (po_J7_fill_546 T p v) 0 0 0 [some (vR 546 p), some (vI v), none, none] [] T
  have c_5 : ∀ (nn : Nat) (j : Int) (T1 : Zt), ((144 - j).toNat) ≤ nn → (fr_ [(546, [])] T T1) → (0 ≤ j ∧ j ≤ 144) → (oi_ T T1 p) → (∀ q, 0 ≤ q → q < j → T1 546 p q = v) → J_ zJ7_fill_53178 T (po_J7_fill_546 T p v) 0 0 5 [some (vR 546 p), some (vI v), some (vI j), some (vI 144)] [] T1 := by
    intro nn
    induction nn using Nat.strongRecOn with
    | _ nn ih_5 =>
      intro j T1 hm_5 hf_5 i1 o1 f1
      replace hm_5 := fun (_ : Unit) => hm_5
      refine j_blx (F := fJ7) tb_J7 (nn_ _) bk_J7_fill_53178_5 bs_J7_fill_53178_5 hz (fun K hK => ?_)
      refine And.intro (fun c1 => ?_) (fun c1 => ?_)
      · refine hK 20 _ [] T1 ?_
        refine j_blx (F := fJ7) tb_J7 (nn_ _) bk_J7_fill_53178_20 bs_J7_fill_53178_20 hz (fun K hK => ?_)
        refine (show po_J7_fill_546 T p v T1 (none) from ?_)
        exact ⟨rfl, fr_t (fr_0 _ _) (fr_s hf_5 rfl), o1, fun q a b => f1 q a (by omega)⟩
      · refine iy_i (by omega) (by omega) ?_
        refine x_nm (fun U2 hU2 => ?_)
        have e3 := up_f hU2
        refine rg_i (by omega) ?_
        refine hK 5 [some (vR 546 p), some (vI v), some (vI (j + 1)), some (vI 144)] [] U2 ?_
        refine ih_5 _ ?_ (j + 1) U2 (Nat.le_refl _) ?_ ?_ ?_ ?_
        · have hm_5 := hm_5 (); omega
        · exact fr_u (fr_t (fr_0 _ _) (fr_s hf_5 rfl)) hU2 rfl
        · omega
        · exact oi_u o1 hU2
        · intro q a b
          by_cases z : q = j
          · rw [z]; exact up_f hU2
          · rw [up_g hU2 (fun y => z y.2.2)]; exact f1 q a (by omega)
  refine j_blx (F := fJ7) tb_J7 (nn_ _) bk_J7_fill_53178_0 bs_J7_fill_53178_0 hz (fun K hK => ?_)
  refine hK 5 [some (vR 546 p), some (vI v), some (vI 0), some (vI 144)] [] T ?_
  refine c_5 _ 0 T (Nat.le_refl _) ?_ ?_ ?_ ?_
  · exact fr_0 _ _
  · omega
  · exact oi_r
  · intro q a b; omega
abbrev cX7_tally : ByteArray := prog_9_method_2_code
def yX7_tally : MethodName := ⟨RX7, "tally", "(LSportsHouse$Competition;I)V"⟩
def zX7_tally : Zm := (RX7, cX7_tally, 5, none, { frames := 2, cells := 0, slots := 0, locals := 52 })
theorem bk_X7_tally_126 : ck_ fX7 none cX7_tally 126 [.iload 3, .aload 0, .tableswitch 0 7 1 #[], .tableswitch 0 0 5 #[], .if_icmp .ge 182, .aload 0, .tableswitch 0 7 2 #[], .iload 3, .iconst 8, .imul, .iconst 6, .iadd, .dup2, .iaload, .aload 0, .tableswitch 0 7 0 #[], .iload 2, .aload 0, .tableswitch 0 7 1 #[], .tableswitch 0 0 0 #[], .aload 0, .tableswitch 0 7 1 #[], .tableswitch 0 0 3 #[], .iload 3, .iaload] 171 = true := qck_r (nn_ _) (by decide +kernel)
theorem bs_X7_tally_126 {P : Zt → Option Zv → Prop} (K : Int → Zl → List Zv → Zt → Prop) : sx_ K P [.iload 3, .aload 0, .tableswitch 0 7 1 #[], .tableswitch 0 0 5 #[], .if_icmp .ge 182, .aload 0, .tableswitch 0 7 2 #[], .iload 3, .iconst 8, .imul, .iconst 6, .iadd, .dup2, .iaload, .aload 0, .tableswitch 0 7 0 #[], .iload 2, .aload 0, .tableswitch 0 7 1 #[], .tableswitch 0 0 0 #[], .aload 0, .tableswitch 0 7 1 #[], .tableswitch 0 0 3 #[], .iload 3, .iaload] 171 = x_iload 3 (x_aload 0 (x_g5 107 100 1 (x_g0 100 5 0 12 (x_if_icmp .ge 182 K (x_aload 0 (x_g1 107 542 (x_iload 3 (x_iconst 8 (x_imul (x_iconst 6 (x_iadd (x_dup2 (x_iaload (x_aload 0 (x_g1 107 106 (x_iload 2 (x_aload 0 (x_g5 107 100 1 (x_g0 100 0 0 3 (x_aload 0 (x_g5 107 100 1 (x_g2 100 403 (x_iload 3 (x_iaload (K 171))))))))))))))))))))))))) := ((xe_iload 3).trans (congrArg (x_iload 3) ((xe_aload 0).trans (congrArg (x_aload 0) ((xe_g5 (kk := 107) rfl tl_7_1).trans (congrArg (x_g5 107 100 1) ((xe_g0 (kk := 100) rfl tl_0_5).trans (congrArg (x_g0 100 5 0 12) ((xe_if_icmp .ge 182).trans (congrArg (x_if_icmp .ge 182 K) ((xe_aload 0).trans (congrArg (x_aload 0) ((xe_g1 (kk := 107) rfl tl_7_2).trans (congrArg (x_g1 107 542) ((xe_iload 3).trans (congrArg (x_iload 3) ((xe_iconst 8).trans (congrArg (x_iconst 8) ((xe_imul).trans (congrArg (x_imul) ((xe_iconst 6).trans (congrArg (x_iconst 6) ((xe_iadd).trans (congrArg (x_iadd) ((xe_dup2).trans (congrArg (x_dup2) ((xe_iaload).trans (congrArg (x_iaload) ((xe_aload 0).trans (congrArg (x_aload 0) ((xe_g1 (kk := 107) rfl tl_7_0).trans (congrArg (x_g1 107 106) ((xe_iload 2).trans (congrArg (x_iload 2) ((xe_aload 0).trans (congrArg (x_aload 0) ((xe_g5 (kk := 107) rfl tl_7_1).trans (congrArg (x_g5 107 100 1) ((xe_g0 (kk := 100) rfl tl_0_0).trans (congrArg (x_g0 100 0 0 3) ((xe_aload 0).trans (congrArg (x_aload 0) ((xe_g5 (kk := 107) rfl tl_7_1).trans (congrArg (x_g5 107 100 1) ((xe_g2 (kk := 100) rfl tl_0_3).trans (congrArg (x_g2 100 403) ((xe_iload 3).trans (congrArg (x_iload 3) ((xe_iaload).trans (congrArg (x_iaload) xe_nil))))))))))))))))))))))))))))))))))))))))))))))))))
theorem bk_X7_tally_182 : ck_ fX7 none cX7_tally 182 [.return_] 183 = true := qck_r (nn_ _) (by decide +kernel)
theorem bs_X7_tally_182 {P : Zt → Option Zv → Prop} (K : Int → Zl → List Zv → Zt → Prop) : sx_ K P [.return_] 183 = x_return_ P := (xe_return_)
set_option maxRecDepth 100000 in
theorem cl_X7_105 : cv_ RX7 105 yX6_deductedUpTo zX6_deductedUpTo 6 3 := ⟨gi_V (lwq_5 (dqc_m (dqc_m (dqc_m (dqc_m (dqc_m (dqc_m (dqa_m (dqa_m (dqa_m (List.mem_of_getElem? (i := 4) rfl)))))))))) rfl : Cond.methodLink RX7 105 yX6_deductedUpTo ∈ lw_g) (lwq_5 (dqc_m (dqc_m (dqc_m (dqc_m (dqc_m (dqc_m (dqa_m (dqa_m (dqa_m (List.mem_of_getElem? (i := 5) rfl)))))))))) rfl : Cond.instanceMethod yX6_deductedUpTo ∈ lw_g) (lwq_5 (dqc_m (dqc_m (dqc_m (dqc_m (dqc_m (dqc_m (dqa_m (dqa_m (dqa_m (List.mem_of_getElem? (i := 6) rfl)))))))))) rfl : Cond.selects yX6_deductedUpTo.cls yX6_deductedUpTo yX6_deductedUpTo ∈ lw_g) (lwq_1 (List.mem_of_getElem? (i := 4) rfl) rfl : Cond.initialized yX6_deductedUpTo.cls ∈ lw_g) (lwq_5 (dqc_m (dqc_m (dqc_m (dqc_m (dqc_m (dqc_m (dqa_m (dqa_m (dqa_m (List.mem_of_getElem? (i := 7) rfl)))))))))) rfl : Cond.code yX6_deductedUpTo cX6_deductedUpTo 6 (some .int) ∈ lw_g), ⟨nmh_6.1, nmh_6.2, pdq_8⟩, ⟨_, _, rfl⟩⟩
theorem bk_X7_tally_174 : ck_ fX7 none cX7_tally 174 [.fsub, .iastore, .iinc 3 1, .goto 126] 182 = true := qck_r (nn_ _) (by decide +kernel)
theorem bs_X7_tally_174 {P : Zt → Option Zv → Prop} (K : Int → Zl → List Zv → Zt → Prop) : sx_ K P [.fsub, .iastore, .iinc 3 1, .goto 126] 182 = x_fsub (x_iastore (x_iinc 3 1 (x_goto 126 K))) := ((xe_fsub).trans (congrArg (x_fsub) ((xe_iastore).trans (congrArg (x_iastore) ((xe_iinc 3 1).trans (congrArg (x_iinc 3 1) (xe_goto 126)))))))
theorem bk_X7_tally_47 : ck_ fX7 none cX7_tally 47 [.iload 3, .aload 0, .tableswitch 0 7 1 #[], .tableswitch 0 0 8 #[], .if_icmp .ge 124, .aload 0, .tableswitch 0 7 0 #[], .tableswitch 0 6 3 #[], .aload 0, .tableswitch 0 7 1 #[], .tableswitch 0 0 7 #[], .iload 3, .iadd, .aaload, .astore 4, .aload 4, .tableswitch 0 2 5 #[], .iload 2, .if_icmp .gt 118, .aload 4] 88 = true := qck_r (nn_ _) (by decide +kernel)
theorem bs_X7_tally_47 {P : Zt → Option Zv → Prop} (K : Int → Zl → List Zv → Zt → Prop) : sx_ K P [.iload 3, .aload 0, .tableswitch 0 7 1 #[], .tableswitch 0 0 8 #[], .if_icmp .ge 124, .aload 0, .tableswitch 0 7 0 #[], .tableswitch 0 6 3 #[], .aload 0, .tableswitch 0 7 1 #[], .tableswitch 0 0 7 #[], .iload 3, .iadd, .aaload, .astore 4, .aload 4, .tableswitch 0 2 5 #[], .iload 2, .if_icmp .gt 118, .aload 4] 88 = x_iload 3 (x_aload 0 (x_g5 107 100 1 (x_g0 100 8 0 400 (x_if_icmp .ge 124 K (x_aload 0 (x_g1 107 106 (x_g1 106 523 (x_aload 0 (x_g5 107 100 1 (x_g0 100 7 0 400 (x_iload 3 (x_iadd (x_aaload (x_astore 4 (x_aload 4 (x_g0 102 5 0 999 (x_iload 2 (x_if_icmp .gt 118 K (x_aload 4 (K 88)))))))))))))))))))) := ((xe_iload 3).trans (congrArg (x_iload 3) ((xe_aload 0).trans (congrArg (x_aload 0) ((xe_g5 (kk := 107) rfl tl_7_1).trans (congrArg (x_g5 107 100 1) ((xe_g0 (kk := 100) rfl tl_0_8).trans (congrArg (x_g0 100 8 0 400) ((xe_if_icmp .ge 124).trans (congrArg (x_if_icmp .ge 124 K) ((xe_aload 0).trans (congrArg (x_aload 0) ((xe_g1 (kk := 107) rfl tl_7_0).trans (congrArg (x_g1 107 106) ((xe_g1 (kk := 106) rfl tl_6_3).trans (congrArg (x_g1 106 523) ((xe_aload 0).trans (congrArg (x_aload 0) ((xe_g5 (kk := 107) rfl tl_7_1).trans (congrArg (x_g5 107 100 1) ((xe_g0 (kk := 100) rfl tl_0_7).trans (congrArg (x_g0 100 7 0 400) ((xe_iload 3).trans (congrArg (x_iload 3) ((xe_iadd).trans (congrArg (x_iadd) ((xe_aaload).trans (congrArg (x_aaload) ((xe_astore 4).trans (congrArg (x_astore 4) ((xe_aload 4).trans (congrArg (x_aload 4) ((xe_g0 (kk := 102) rfl tl_2_5).trans (congrArg (x_g0 102 5 0 999) ((xe_iload 2).trans (congrArg (x_iload 2) ((xe_if_icmp .gt 118).trans (congrArg (x_if_icmp .gt 118 K) ((xe_aload 4).trans (congrArg (x_aload 4) xe_nil))))))))))))))))))))))))))))))))))))))))
theorem bk_X7_tally_124 : ck_ fX7 none cX7_tally 124 [.iconst 0, .istore 3] 126 = true := qck_r (nn_ _) (by decide +kernel)
theorem bs_X7_tally_124 {P : Zt → Option Zv → Prop} (K : Int → Zl → List Zv → Zt → Prop) : sx_ K P [.iconst 0, .istore 3] 126 = x_iconst 0 (x_istore 3 (K 126)) := ((xe_iconst 0).trans (congrArg (x_iconst 0) ((xe_istore 3).trans (congrArg (x_istore 3) xe_nil))))
theorem bk_X7_tally_118 : ck_ fX7 none cX7_tally 118 [.iinc 3 1, .goto 47] 124 = true := qck_r (nn_ _) (by decide +kernel)
theorem bs_X7_tally_118 {P : Zt → Option Zv → Prop} (K : Int → Zl → List Zv → Zt → Prop) : sx_ K P [.iinc 3 1, .goto 47] 124 = x_iinc 3 1 (x_goto 47 K) := ((xe_iinc 3 1).trans (congrArg (x_iinc 3 1) (xe_goto 47)))
set_option maxRecDepth 100000 in
theorem cl_X7_80 : cv_ RX7 80 yX2_isDecided zX2_isDecided 2 0 := ⟨gi_V (lwq_5 (dqc_m (dqc_m (dqc_m (dqc_m (dqc_m (dqc_m (dqa_m (List.mem_of_getElem? (i := 5) rfl)))))))) rfl : Cond.methodLink RX7 80 yX2_isDecided ∈ lw_g) (lwq_4 (dqc_m (dqc_m (dqc_m (dqc_m (dqa_m (dqa_m (dqa_m (List.mem_of_getElem? (i := 3) rfl)))))))) rfl : Cond.instanceMethod yX2_isDecided ∈ lw_g) (lwq_4 (dqc_m (dqc_m (dqc_m (dqc_m (dqa_m (dqa_m (dqa_m (List.mem_of_getElem? (i := 4) rfl)))))))) rfl : Cond.selects yX2_isDecided.cls yX2_isDecided yX2_isDecided ∈ lw_g) (lwq_1 (dqa_m (dqa_m (List.mem_of_getElem? (i := 0) rfl))) rfl : Cond.initialized yX2_isDecided.cls ∈ lw_g) (lwq_4 (dqc_m (dqc_m (dqc_m (dqc_m (dqa_m (dqa_m (dqa_m (List.mem_of_getElem? (i := 5) rfl)))))))) rfl : Cond.code yX2_isDecided cX2_isDecided 1 (some .boolean) ∈ lw_g), ⟨nmh_10.1, nmh_10.2, pdq_18⟩, ⟨_, _, rfl⟩⟩
theorem bk_X7_tally_91 : ck_ fX7 none cX7_tally 91 [.ifCond .eq 118, .aload 0, .aload 4, .aload 4, .iconst 0] 100 = true := qck_r (nn_ _) (by decide +kernel)
theorem bs_X7_tally_91 {P : Zt → Option Zv → Prop} (K : Int → Zl → List Zv → Zt → Prop) : sx_ K P [.ifCond .eq 118, .aload 0, .aload 4, .aload 4, .iconst 0] 100 = x_ifCond .eq 118 K (x_aload 0 (x_aload 4 (x_aload 4 (x_iconst 0 (K 100))))) := ((xe_ifCond .eq 118).trans (congrArg (x_ifCond .eq 118 K) ((xe_aload 0).trans (congrArg (x_aload 0) ((xe_aload 4).trans (congrArg (x_aload 4) ((xe_aload 4).trans (congrArg (x_aload 4) ((xe_iconst 0).trans (congrArg (x_iconst 0) xe_nil))))))))))
set_option maxRecDepth 100000 in
theorem cl_X7_84 : cv_ RX7 84 yX2_scoreOf zX2_scoreOf 2 1 := ⟨gi_V (lwq_5 (dqc_m (dqc_m (dqc_m (dqc_m (dqc_m (dqc_m (dqa_m (List.mem_of_getElem? (i := 6) rfl)))))))) rfl : Cond.methodLink RX7 84 yX2_scoreOf ∈ lw_g) (lwq_4 (dqc_m (dqa_m (dqa_m (dqa_m (List.mem_of_getElem? (i := 6) rfl))))) rfl : Cond.instanceMethod yX2_scoreOf ∈ lw_g) (lwq_4 (dqc_m (dqa_m (dqa_m (dqa_m (List.mem_of_getElem? (i := 7) rfl))))) rfl : Cond.selects yX2_scoreOf.cls yX2_scoreOf yX2_scoreOf ∈ lw_g) (lwq_1 (dqa_m (dqa_m (List.mem_of_getElem? (i := 0) rfl))) rfl : Cond.initialized yX2_scoreOf.cls ∈ lw_g) (lwq_4 (dqc_m (dqc_m (List.mem_of_getElem? (i := 0) rfl))) rfl : Cond.code yX2_scoreOf cX2_scoreOf 2 (some .int) ∈ lw_g), ⟨nmh_10.1, nmh_10.2, pdq_15⟩, ⟨_, _, rfl⟩⟩
theorem bk_X7_tally_103 : ck_ fX7 none cX7_tally 103 [.aload 4, .iconst 1] 106 = true := qck_r (nn_ _) (by decide +kernel)
theorem bs_X7_tally_103 {P : Zt → Option Zv → Prop} (K : Int → Zl → List Zv → Zt → Prop) : sx_ K P [.aload 4, .iconst 1] 106 = x_aload 4 (x_iconst 1 (K 106)) := ((xe_aload 4).trans (congrArg (x_aload 4) ((xe_iconst 1).trans (congrArg (x_iconst 1) xe_nil))))
set_option maxRecDepth 100000 in
theorem cl_X7_88 : cv_ RX7 88 yX7_addResult zX7_addResult 7 3 := ⟨gi_V (lwq_5 (dqc_m (dqc_m (dqc_m (dqc_m (dqc_m (dqc_m (dqa_m (List.mem_of_getElem? (i := 7) rfl)))))))) rfl : Cond.methodLink RX7 88 yX7_addResult ∈ lw_g) (lwq_5 (dqc_m (dqc_m (dqc_m (dqc_m (dqc_m (dqc_m (dqa_m (dqa_m (List.mem_of_getElem? (i := 0) rfl))))))))) rfl : Cond.instanceMethod yX7_addResult ∈ lw_g) (lwq_5 (dqc_m (dqc_m (dqc_m (dqc_m (dqc_m (dqc_m (dqa_m (dqa_m (List.mem_of_getElem? (i := 1) rfl))))))))) rfl : Cond.selects yX7_addResult.cls yX7_addResult yX7_addResult ∈ lw_g) (lwq_1 (List.mem_of_getElem? (i := 5) rfl) rfl : Cond.initialized yX7_addResult.cls ∈ lw_g) (lwq_5 (dqc_m (dqc_m (dqc_m (dqc_m (dqc_m (dqc_m (dqa_m (dqa_m (List.mem_of_getElem? (i := 2) rfl))))))))) rfl : Cond.code yX7_addResult cX7_addResult 6 none ∈ lw_g), ⟨nmh_7.1, nmh_7.2, pdq_30⟩, ⟨_, _, rfl⟩⟩
theorem bk_X7_tally_112 : ck_ fX7 none cX7_tally 112 [.aload 0, .aload 4] 115 = true := qck_r (nn_ _) (by decide +kernel)
theorem bs_X7_tally_112 {P : Zt → Option Zv → Prop} (K : Int → Zl → List Zv → Zt → Prop) : sx_ K P [.aload 0, .aload 4] 115 = x_aload 0 (x_aload 4 (K 115)) := ((xe_aload 0).trans (congrArg (x_aload 0) ((xe_aload 4).trans (congrArg (x_aload 4) xe_nil))))
set_option maxRecDepth 100000 in
theorem cl_X7_92 : cv_ RX7 92 yX7_addCards zX7_addCards 7 1 := ⟨gi_V (lwq_5 (dqc_m (dqc_m (dqc_m (dqc_m (dqc_m (dqc_m (dqa_m (dqa_m (List.mem_of_getElem? (i := 7) rfl))))))))) rfl : Cond.methodLink RX7 92 yX7_addCards ∈ lw_g) (lwq_5 (dqc_m (dqc_m (dqc_m (dqc_m (dqc_m (dqc_m (dqa_m (dqa_m (dqa_m (List.mem_of_getElem? (i := 1) rfl)))))))))) rfl : Cond.instanceMethod yX7_addCards ∈ lw_g) (lw_sel 127 rfl : Cond.selects yX7_addCards.cls yX7_addCards yX7_addCards ∈ lw_g) (lwq_1 (List.mem_of_getElem? (i := 5) rfl) rfl : Cond.initialized yX7_addCards.cls ∈ lw_g) (lwq_5 (dqc_m (dqc_m (dqc_m (dqc_m (dqc_m (dqc_m (dqa_m (dqa_m (dqa_m (List.mem_of_getElem? (i := 2) rfl)))))))))) rfl : Cond.code yX7_addCards cX7_addCards 6 none ∈ lw_g), ⟨nmh_7.1, nmh_7.2, pdq_26⟩, ⟨_, _, rfl⟩⟩
theorem bk_X7_tally_0 : ck_ fX7 none cX7_tally 0 [.aload 0, .aload 1] 2 = true := qck_r (nn_ _) (by decide +kernel)
theorem bs_X7_tally_0 {P : Zt → Option Zv → Prop} (K : Int → Zl → List Zv → Zt → Prop) : sx_ K P [.aload 0, .aload 1] 2 = x_aload 0 (x_aload 1 (K 2)) := ((xe_aload 0).trans (congrArg (x_aload 0) ((xe_aload 1).trans (congrArg (x_aload 1) xe_nil))))
theorem fr5_X7_50 : fr5_ RX7 50 7 1 := ⟨_, _, _, rfl, by decide, by decide, (lwq_1 (dqc_m (dqc_m (dqc_m (dqc_m (dqc_m (dqc_m (dqa_m (dqa_m (List.mem_of_getElem? (i := 4) rfl))))))))) rfl : Cond.fieldLink RX7 50 _ _ _ ∈ lw_g), rfl, fun a => ⟨.object "SportsHouse$Competition", by decide +kernel, rfl, rfl⟩⟩
theorem bk_X7_tally_5 : ck_ fX7 none cX7_tally 5 [.aload 0, .tableswitch 0 7 2 #[], .iconst 0] 10 = true := qck_r (nn_ _) (by decide +kernel)
theorem bs_X7_tally_5 {P : Zt → Option Zv → Prop} (K : Int → Zl → List Zv → Zt → Prop) : sx_ K P [.aload 0, .tableswitch 0 7 2 #[], .iconst 0] 10 = x_aload 0 (x_g1 107 542 (x_iconst 0 (K 10))) := ((xe_aload 0).trans (congrArg (x_aload 0) ((xe_g1 (kk := 107) rfl tl_7_2).trans (congrArg (x_g1 107 542) ((xe_iconst 0).trans (congrArg (x_iconst 0) xe_nil))))))
set_option maxRecDepth 100000 in
theorem cl_X7_54 : cs_ RX7 54 yJ7_fill_53178 zJ7_fill_53178 2 := ⟨gi_S (lwq_5 (dqc_m (dqc_m (dqc_m (dqc_m (dqc_m (dqc_m (dqa_m (List.mem_of_getElem? (i := 4) rfl)))))))) rfl : Cond.methodLink RX7 54 yJ7_fill_53178 ∈ lw_g) (lwq_2 (dqa_m (dqa_m (dqa_m (List.mem_of_getElem? (i := 2) rfl)))) rfl : Cond.static yJ7_fill_53178 ∈ lw_g) (lwq_1 (List.mem_of_getElem? (i := 7) rfl) rfl : Cond.initialized yJ7_fill_53178.cls ∈ lw_g) (lwq_2 (dqa_m (dqa_m (dqa_m (List.mem_of_getElem? (i := 3) rfl)))) rfl : Cond.code yJ7_fill_53178 cJ7_fill_53178 4 none ∈ lw_g), ⟨by decide, by decide, by decide +kernel⟩⟩
theorem bk_X7_tally_13 : ck_ fX7 none cX7_tally 13 [.aload 0, .tableswitch 0 7 3 #[], .iconst 0] 18 = true := qck_r (nn_ _) (by decide +kernel)
theorem bs_X7_tally_13 {P : Zt → Option Zv → Prop} (K : Int → Zl → List Zv → Zt → Prop) : sx_ K P [.aload 0, .tableswitch 0 7 3 #[], .iconst 0] 18 = x_aload 0 (x_g1 107 543 (x_iconst 0 (K 18))) := ((xe_aload 0).trans (congrArg (x_aload 0) ((xe_g1 (kk := 107) rfl tl_7_3).trans (congrArg (x_g1 107 543) ((xe_iconst 0).trans (congrArg (x_iconst 0) xe_nil))))))
theorem bk_X7_tally_21 : ck_ fX7 none cX7_tally 21 [.aload 0, .tableswitch 0 7 4 #[], .iconst 0] 26 = true := qck_r (nn_ _) (by decide +kernel)
theorem bs_X7_tally_21 {P : Zt → Option Zv → Prop} (K : Int → Zl → List Zv → Zt → Prop) : sx_ K P [.aload 0, .tableswitch 0 7 4 #[], .iconst 0] 26 = x_aload 0 (x_g1 107 544 (x_iconst 0 (K 26))) := ((xe_aload 0).trans (congrArg (x_aload 0) ((xe_g1 (kk := 107) rfl tl_7_4).trans (congrArg (x_g1 107 544) ((xe_iconst 0).trans (congrArg (x_iconst 0) xe_nil))))))
theorem bk_X7_tally_29 : ck_ fX7 none cX7_tally 29 [.aload 0, .tableswitch 0 7 5 #[], .iconst 0] 34 = true := qck_r (nn_ _) (by decide +kernel)
theorem bs_X7_tally_29 {P : Zt → Option Zv → Prop} (K : Int → Zl → List Zv → Zt → Prop) : sx_ K P [.aload 0, .tableswitch 0 7 5 #[], .iconst 0] 34 = x_aload 0 (x_g1 107 545 (x_iconst 0 (K 34))) := ((xe_aload 0).trans (congrArg (x_aload 0) ((xe_g1 (kk := 107) rfl tl_7_5).trans (congrArg (x_g1 107 545) ((xe_iconst 0).trans (congrArg (x_iconst 0) xe_nil))))))
theorem bk_X7_tally_37 : ck_ fX7 none cX7_tally 37 [.aload 0, .tableswitch 0 7 6 #[], .iconst 0] 42 = true := qck_r (nn_ _) (by decide +kernel)
theorem bs_X7_tally_37 {P : Zt → Option Zv → Prop} (K : Int → Zl → List Zv → Zt → Prop) : sx_ K P [.aload 0, .tableswitch 0 7 6 #[], .iconst 0] 42 = x_aload 0 (x_g1 107 546 (x_iconst 0 (K 42))) := ((xe_aload 0).trans (congrArg (x_aload 0) ((xe_g1 (kk := 107) rfl tl_7_6).trans (congrArg (x_g1 107 546) ((xe_iconst 0).trans (congrArg (x_iconst 0) xe_nil))))))
theorem bk_X7_tally_45 : ck_ fX7 none cX7_tally 45 [.iconst 0, .istore 3] 47 = true := qck_r (nn_ _) (by decide +kernel)
theorem bs_X7_tally_45 {P : Zt → Option Zv → Prop} (K : Int → Zl → List Zv → Zt → Prop) : sx_ K P [.iconst 0, .istore 3] 47 = x_iconst 0 (x_istore 3 (K 47)) := ((xe_iconst 0).trans (congrArg (x_iconst 0) ((xe_istore 3).trans (congrArg (x_istore 3) xe_nil))))
abbrev po_X7_tally (T : Zt) (c : Int) (d : Int) : Zt → Option Zv → Prop := fun T' r => r = none ∧ fr_ [(107, [1]), (542, []), (543, []), (544, []), (545, []), (546, [])] T T' ∧ (T' 107 0 1 = c + 1)
set_option maxHeartbeats 4000000 in
theorem ct_X7_tally {T : Zt} {c : Int} {d : Int} (hka : KA_ T) (hkc : KC_ T) (hc : 0 ≤ c ∧ c < T 106 0 2) : Ct_ yX7_tally zX7_tally T [vR 107 0, vR 100 c, vI d] (po_X7_tally T c d) := by
  refine ct_of pn_7 rfl rfl (Nat.le_of_ble_eq_true rfl) (fun hT hav => ?_)
  have hr_d : -2147483648 ≤ d ∧ d ≤ 2147483647 := hav (vI d) (List.mem_cons_of_mem _ (List.mem_cons_of_mem _ List.mem_cons_self))
  have hz : zX7_tally.2.2.2.1 = some .boolean → ∀ (T' : Zt) (x : Int), po_X7_tally T c d T' (some (vI x)) → 0 ≤ x ∧ x ≤ 1 := fun h => by cases h
  have hk2 := hkc c hc.1 hc.2
  have hb_matchCount : 0 ≤ T 106 0 4 ∧ T 106 0 4 ≤ 400 := bd_f hT 106 4 tl_6_4 0
  have hcc : 0 ≤ T 106 0 2 ∧ T 106 0 2 ≤ 4 := bd_f hT 106 2 tl_6_2 0
  have hfm : 0 ≤ T 100 c 7 ∧ T 100 c 7 ≤ 400 := bd_f hT 100 7 tl_0_7 c
  have hmc : 0 ≤ T 100 c 8 ∧ T 100 c 8 ≤ 400 := bd_f hT 100 8 tl_0_8 c
  have hen : 0 ≤ T 100 c 5 ∧ T 100 c 5 ≤ 12 := bd_f hT 100 5 tl_0_5 c
  show J_ zX7_tally T (po_X7_tally T c d) 0 0 0 [some (vR 107 0), some (vR 100 c), some (vI d), none, none] [] T
  have c_126 : ∀ (nn : Nat) (k : Int) (T2 : Zt), ((12 - k).toNat) ≤ nn → (fr_ [(107, [1]), (542, []), (543, []), (544, []), (545, []), (546, [])] T T2) → (0 ≤ k ∧ k ≤ 12) → (T2 107 0 1 = c + 1) → J_ zX7_tally T (po_X7_tally T c d) 0 0 126 [some (vR 107 0), some (vR 100 c), some (vI d), some (vI k), none] [] T2 := by
    intro nn
    induction nn using Nat.strongRecOn with
    | _ nn ih_126 =>
      intro k T2 hm_126 hf_126 i2 i3
      replace hm_126 := fun (_ : Unit) => hm_126
      refine j_blx (F := fX7) tb_X7 (nn_ _) bk_X7_tally_126 bs_X7_tally_126 hz (fun K hK => ?_)
      refine And.intro (fun c1 => ?_) (fun c1 => ?_)
      · exact absurd c1 (by omega)
      · have z2 : T2 107 0 1 - 1 = c := by omega
        rw [z2]
        intro b3 b3b
        have e4 : T2 100 c 5 = T 100 c 5 := hf_126 100 c 5 rfl
        rw [e4] at b3 b3b ⊢
        refine And.intro (fun c5 => ?_) (fun c5 => ?_)
        · refine hK 182 _ [] T2 ?_
          refine j_blx (F := fX7) tb_X7 (nn_ _) bk_X7_tally_182 bs_X7_tally_182 hz (fun K hK => ?_)
          refine (show po_X7_tally T c d T2 (none) from ?_)
          exact ⟨rfl, fr_t (fr_0 _ _) (fr_s hf_126 rfl), by omega⟩
        · refine rg_i (by omega) ?_
          refine rg_i (by omega) ?_
          refine ix_i (by omega) ?_
          intro b6 b6b
          refine And.intro (fun c7 => ?_) (fun c7 => ?_)
          · exact absurd c7 (by omega)
          · have z8 : T2 107 0 1 - 1 = c := by omega
            rw [z8]
            intro b9 b9b
            have e10 : T2 100 c 0 = T 100 c 0 := hf_126 100 c 0 rfl
            rw [e10] at b9 b9b ⊢
            refine And.intro (fun c11 => ?_) (fun c11 => ?_)
            · exact absurd c11 (by omega)
            · have z12 : T2 107 0 1 - 1 = c := by omega
              rw [z12]
              refine ix_i (by omega) ?_
              intro b13 b13b
              have e14 : T2 403 c k = T 403 c k := hf_126 403 c k rfl
              rw [e14] at b13 b13b ⊢
              refine hK 171 _ [vI (T 403 c k), vI (T 100 c 0), vI d, vR 106 0, vI (T2 542 0 ((k * 8) + 6)), vI ((k * 8) + 6), vR 542 0] T2 ?_
              refine j_callV (y := yX6_deductedUpTo) (Yc := zX6_deductedUpTo) (rest := [vI (T2 542 0 ((k * 8) + 6)), vI ((k * 8) + 6), vR 542 0]) [vI d, vI (T 100 c 0), vI (T 403 c k)] (ct_X6_deductedUpTo (T := T2)) cl_X7_105 (qd_c (by decide +kernel)) (nn_ _) rfl (rf_of rfl) (Nat.le_of_ble_eq_true rfl) (Nat.le_of_ble_eq_true rfl) (Nat.le_of_ble_eq_true rfl) rfl ?_
              rintro _ _ ⟨rfl, x15, rfl, hx15⟩
              show J_ zX7_tally T (po_X7_tally T c d) 0 0 174 _ [vI x15, vI (T2 542 0 ((k * 8) + 6)), vI ((k * 8) + 6), vR 542 0] T2
              refine j_blx (F := fX7) tb_X7 (nn_ _) bk_X7_tally_174 bs_X7_tally_174 hz (fun K hK => ?_)
              intro w16 w16b
              refine iy_i (by omega) (by omega) ?_
              refine x_nm (fun U17 hU17 => ?_)
              have e18 := up_f hU17
              refine rg_i (by omega) ?_
              refine hK 126 [some (vR 107 0), some (vR 100 c), some (vI d), some (vI (k + 1)), none] [] U17 ?_
              have e19 : U17 107 0 1 = T2 107 0 1 := up_k hU17 (by exact Nat.ne_of_beq_eq_false rfl) 0 1
              refine ih_126 _ ?_ (k + 1) U17 (Nat.le_refl _) ?_ ?_ ?_
              · have hm_126 := hm_126 (); omega
              · exact fr_u (fr_t (fr_0 _ _) (fr_s hf_126 rfl)) hU17 rfl
              · omega
              · omega
  have c_47 : ∀ (nn : Nat) (k : Int) (T1 : Zt), ((T 100 c 8 - k).toNat) ≤ nn → (fr_ [(107, [1]), (542, []), (543, []), (544, []), (545, []), (546, [])] T T1) → (0 ≤ k ∧ k ≤ T 100 c 8) → (T1 107 0 1 = c + 1) → J_ zX7_tally T (po_X7_tally T c d) 0 0 47 [some (vR 107 0), some (vR 100 c), some (vI d), some (vI k), none] [] T1 := by
    intro nn
    induction nn using Nat.strongRecOn with
    | _ nn ih_47 =>
      intro k T1 hm_47 hf_47 i1 i0
      replace hm_47 := fun (_ : Unit) => hm_47
      refine j_blx (F := fX7) tb_X7 (nn_ _) bk_X7_tally_47 bs_X7_tally_47 hz (fun K hK => ?_)
      refine And.intro (fun c20 => ?_) (fun c20 => ?_)
      · exact absurd c20 (by omega)
      · have z21 : T1 107 0 1 - 1 = c := by omega
        rw [z21]
        intro b22 b22b
        have e23 : T1 100 c 8 = T 100 c 8 := hf_47 100 c 8 rfl
        rw [e23] at b22 b22b ⊢
        refine And.intro (fun c24 => ?_) (fun c24 => ?_)
        · refine hK 124 _ [] T1 ?_
          refine j_blx (F := fX7) tb_X7 (nn_ _) bk_X7_tally_124 bs_X7_tally_124 hz (fun K hK => ?_)
          refine hK 126 [some (vR 107 0), some (vR 100 c), some (vI d), some (vI 0), none] [] T1 ?_
          refine c_126 _ 0 T1 (Nat.le_refl _) ?_ ?_ ?_
          · exact fr_t (fr_0 _ _) (fr_s hf_47 rfl)
          · omega
          · omega
        · refine And.intro (fun c25 => ?_) (fun c25 => ?_)
          · exact absurd c25 (by omega)
          · have z26 : T1 107 0 1 - 1 = c := by omega
            rw [z26]
            intro b27 b27b
            have e28 : T1 100 c 7 = T 100 c 7 := hf_47 100 c 7 rfl
            rw [e28] at b27 b27b ⊢
            refine rg_i (by omega) ?_
            refine ix_i (by omega) ?_
            have e30 : T1 523 0 ((T 100 c 7) + k) = T 523 0 ((T 100 c 7) + k) := hf_47 523 0 ((T 100 c 7) + k) rfl
            refine And.intro (fun c29 => ?_) (fun c29 => ?_)
            · exact absurd (show T 523 0 (T 100 c 7 + k) = 0 by omega) (hka.2 _ (by omega) (by omega))
            · intro b31 b31b
              have e32 : T1 102 ((T 100 c 7) + k) 5 = T 102 ((T 100 c 7) + k) 5 := hf_47 102 ((T 100 c 7) + k) 5 rfl
              rw [e32] at b31 b31b ⊢
              refine And.intro (fun c33 => ?_) (fun c33 => ?_)
              · refine hK 118 [some (vR 107 0), some (vR 100 c), some (vI d), some (vI k), some (vR 102 ((T 100 c 7) + k))] [] T1 ?_
                refine j_blx (F := fX7) tb_X7 (nn_ _) bk_X7_tally_118 bs_X7_tally_118 hz (fun K hK => ?_)
                refine rg_i (by omega) ?_
                refine hK 47 [some (vR 107 0), some (vR 100 c), some (vI d), some (vI (k + 1)), some (vR 102 ((T 100 c 7) + k))] [] T1 ?_
                refine j_drop [some (vR 107 0), some (vR 100 c), some (vI d), some (vI (k + 1)), none] (fun k v hk => ?_) rfl ?_
                · match k, hk with
                  | 0, hk => exact hk
                  | 1, hk => exact hk
                  | 2, hk => exact hk
                  | 3, hk => exact hk
                  | 4, hk => cases hk
                  | k + 5, hk => cases hk
                refine ih_47 _ ?_ (k + 1) T1 (Nat.le_refl _) ?_ ?_ ?_
                · have hm_47 := hm_47 (); omega
                · exact fr_t (fr_0 _ _) (fr_s hf_47 rfl)
                · omega
                · omega
              · refine hK 88 [some (vR 107 0), some (vR 100 c), some (vI d), some (vI k), some (vR 102 ((T 100 c 7) + k))] [vR 102 ((T 100 c 7) + k)] T1 ?_
                refine j_callV (y := yX2_isDecided) (Yc := zX2_isDecided) (rest := []) [] (ct_X2_isDecided (T := T1)) cl_X7_80 (qd_c (by decide +kernel)) (nn_ _) rfl (rf_of rfl) (Nat.le_of_ble_eq_true rfl) (Nat.le_of_ble_eq_true rfl) (Nat.le_of_ble_eq_true rfl) rfl ?_
                rintro _ _ ⟨rfl, x34, rfl, hx34⟩
                show J_ zX7_tally T (po_X7_tally T c d) 0 0 91 _ [vI x34] T1
                refine j_blx (F := fX7) tb_X7 (nn_ _) bk_X7_tally_91 bs_X7_tally_91 hz (fun K hK => ?_)
                refine And.intro (fun c35 => ?_) (fun c35 => ?_)
                · refine hK 118 _ [] T1 ?_
                  refine j_blx (F := fX7) tb_X7 (nn_ _) bk_X7_tally_118 bs_X7_tally_118 hz (fun K hK => ?_)
                  refine rg_i (by omega) ?_
                  refine hK 47 [some (vR 107 0), some (vR 100 c), some (vI d), some (vI (k + 1)), some (vR 102 ((T 100 c 7) + k))] [] T1 ?_
                  refine j_drop [some (vR 107 0), some (vR 100 c), some (vI d), some (vI (k + 1)), none] (fun k v hk => ?_) rfl ?_
                  · match k, hk with
                    | 0, hk => exact hk
                    | 1, hk => exact hk
                    | 2, hk => exact hk
                    | 3, hk => exact hk
                    | 4, hk => cases hk
                    | k + 5, hk => cases hk
                  refine ih_47 _ ?_ (k + 1) T1 (Nat.le_refl _) ?_ ?_ ?_
                  · have hm_47 := hm_47 (); omega
                  · exact fr_t (fr_0 _ _) (fr_s hf_47 rfl)
                  · omega
                  · omega
                · refine hK 100 [some (vR 107 0), some (vR 100 c), some (vI d), some (vI k), some (vR 102 ((T 100 c 7) + k))] [vI 0, vR 102 ((T 100 c 7) + k), vR 102 ((T 100 c 7) + k), vR 107 0] T1 ?_
                  refine j_callV (y := yX2_scoreOf) (Yc := zX2_scoreOf) (rest := [vR 102 ((T 100 c 7) + k), vR 107 0]) [vI 0] (ct_X2_scoreOf (T := T1) (by omega)) cl_X7_84 (qd_c (by decide +kernel)) (nn_ _) rfl (rf_of rfl) (Nat.le_of_ble_eq_true rfl) (Nat.le_of_ble_eq_true rfl) (Nat.le_of_ble_eq_true rfl) rfl ?_
                  rintro _ _ ⟨rfl, x36, rfl, hx36⟩
                  show J_ zX7_tally T (po_X7_tally T c d) 0 0 103 _ [vI x36, vR 102 ((T 100 c 7) + k), vR 107 0] T1
                  refine j_blx (F := fX7) tb_X7 (nn_ _) bk_X7_tally_103 bs_X7_tally_103 hz (fun K hK => ?_)
                  refine hK 106 _ [vI 1, vR 102 ((T 100 c 7) + k), vI x36, vR 102 ((T 100 c 7) + k), vR 107 0] T1 ?_
                  refine j_callV (y := yX2_scoreOf) (Yc := zX2_scoreOf) (rest := [vI x36, vR 102 ((T 100 c 7) + k), vR 107 0]) [vI 1] (ct_X2_scoreOf (T := T1) (by omega)) cl_X7_84 (qd_c (by decide +kernel)) (nn_ _) rfl (rf_of rfl) (Nat.le_of_ble_eq_true rfl) (Nat.le_of_ble_eq_true rfl) (Nat.le_of_ble_eq_true rfl) rfl ?_
                  rintro _ _ ⟨rfl, x37, rfl, hx37⟩
                  show J_ zX7_tally T (po_X7_tally T c d) 0 0 109 _ [vI x37, vI x36, vR 102 ((T 100 c 7) + k), vR 107 0] T1
                  refine j_callV (y := yX7_addResult) (Yc := zX7_addResult) (rest := []) [vR 102 ((T 100 c 7) + k), vI x36, vI x37] (ct_X7_addResult (T := T1) (by omega)) cl_X7_88 (qd_c (by decide +kernel)) (nn_ _) rfl (rf_of rfl) (Nat.le_of_ble_eq_true rfl) (Nat.le_of_ble_eq_true rfl) (Nat.le_of_ble_eq_true rfl) rfl ?_
                  rintro U38 _ ⟨rfl, fU38, qU38⟩
                  show J_ zX7_tally T (po_X7_tally T c d) 0 0 112 _ [] U38
                  refine j_blx (F := fX7) tb_X7 (nn_ _) bk_X7_tally_112 bs_X7_tally_112 hz (fun K hK => ?_)
                  refine hK 115 _ [vR 102 ((T 100 c 7) + k), vR 107 0] U38 ?_
                  have e39 : U38 107 0 1 = T1 107 0 1 := fU38 107 0 1 rfl
                  refine j_callV (y := yX7_addCards) (Yc := zX7_addCards) (rest := []) [vR 102 ((T 100 c 7) + k)] (ct_X7_addCards (T := U38) (by omega)) cl_X7_92 (qd_c (by decide +kernel)) (nn_ _) rfl (rf_of rfl) (Nat.le_of_ble_eq_true rfl) (Nat.le_of_ble_eq_true rfl) (Nat.le_of_ble_eq_true rfl) rfl ?_
                  rintro U40 _ ⟨rfl, fU40, qU40⟩
                  show J_ zX7_tally T (po_X7_tally T c d) 0 0 118 _ [] U40
                  refine j_blx (F := fX7) tb_X7 (nn_ _) bk_X7_tally_118 bs_X7_tally_118 hz (fun K hK => ?_)
                  refine rg_i (by omega) ?_
                  refine hK 47 [some (vR 107 0), some (vR 100 c), some (vI d), some (vI (k + 1)), some (vR 102 ((T 100 c 7) + k))] [] U40 ?_
                  refine j_drop [some (vR 107 0), some (vR 100 c), some (vI d), some (vI (k + 1)), none] (fun k v hk => ?_) rfl ?_
                  · match k, hk with
                    | 0, hk => exact hk
                    | 1, hk => exact hk
                    | 2, hk => exact hk
                    | 3, hk => exact hk
                    | 4, hk => cases hk
                    | k + 5, hk => cases hk
                  have e41 : U40 107 0 1 = T1 107 0 1 := (fU40 107 0 1 rfl).trans (fU38 107 0 1 rfl)
                  refine ih_47 _ ?_ (k + 1) U40 (Nat.le_refl _) ?_ ?_ ?_
                  · have hm_47 := hm_47 (); omega
                  · exact fr_t (fr_t (fr_t (fr_0 _ _) (fr_s hf_47 rfl)) (fr_s fU38 rfl)) (fr_s fU40 rfl)
                  · omega
                  · omega
  refine j_blx (F := fX7) tb_X7 (nn_ _) bk_X7_tally_0 bs_X7_tally_0 hz (fun K hK => ?_)
  refine hK 2 _ [vR 100 c, vR 107 0] T ?_
  refine j_putR (pc := 2) (ci := 7) (j := 1) (by decide) fr5_X7_50 rfl (by decide +kernel) (by omega) (by omega) (by omega) ?_
  refine j_nm (fun U42 hU42 => ?_)
  have e43 := up_f hU42
  show J_ zX7_tally T (po_X7_tally T c d) 0 0 5 _ [] U42
  refine j_blx (F := fX7) tb_X7 (nn_ _) bk_X7_tally_5 bs_X7_tally_5 hz (fun K hK => ?_)
  refine hK 10 _ [vI 0, vR 542 0] U42 ?_
  refine j_callS (y := yJ7_fill_53178) (Yc := zJ7_fill_53178) (rest := []) [vR 542 0, vI 0] (ct_J7_fill_542 (T := U42) (by omega)) cl_X7_54 (qd_c (by decide +kernel)) (nn_ _) rfl (rf_of rfl) (Nat.le_of_ble_eq_true rfl) (Nat.le_of_ble_eq_true rfl) (Nat.le_of_ble_eq_true rfl) rfl ?_
  rintro U44 _ ⟨rfl, fU44, qU44o, qU44⟩
  show J_ zX7_tally T (po_X7_tally T c d) 0 0 13 _ [] U44
  refine j_blx (F := fX7) tb_X7 (nn_ _) bk_X7_tally_13 bs_X7_tally_13 hz (fun K hK => ?_)
  refine hK 18 _ [vI 0, vR 543 0] U44 ?_
  refine j_callS (y := yJ7_fill_53178) (Yc := zJ7_fill_53178) (rest := []) [vR 543 0, vI 0] (ct_J7_fill_543 (T := U44) (by omega)) cl_X7_54 (qd_c (by decide +kernel)) (nn_ _) rfl (rf_of rfl) (Nat.le_of_ble_eq_true rfl) (Nat.le_of_ble_eq_true rfl) (Nat.le_of_ble_eq_true rfl) rfl ?_
  rintro U45 _ ⟨rfl, fU45, qU45o, qU45⟩
  show J_ zX7_tally T (po_X7_tally T c d) 0 0 21 _ [] U45
  refine j_blx (F := fX7) tb_X7 (nn_ _) bk_X7_tally_21 bs_X7_tally_21 hz (fun K hK => ?_)
  refine hK 26 _ [vI 0, vR 544 0] U45 ?_
  refine j_callS (y := yJ7_fill_53178) (Yc := zJ7_fill_53178) (rest := []) [vR 544 0, vI 0] (ct_J7_fill_544 (T := U45) (by omega)) cl_X7_54 (qd_c (by decide +kernel)) (nn_ _) rfl (rf_of rfl) (Nat.le_of_ble_eq_true rfl) (Nat.le_of_ble_eq_true rfl) (Nat.le_of_ble_eq_true rfl) rfl ?_
  rintro U46 _ ⟨rfl, fU46, qU46o, qU46⟩
  show J_ zX7_tally T (po_X7_tally T c d) 0 0 29 _ [] U46
  refine j_blx (F := fX7) tb_X7 (nn_ _) bk_X7_tally_29 bs_X7_tally_29 hz (fun K hK => ?_)
  refine hK 34 _ [vI 0, vR 545 0] U46 ?_
  refine j_callS (y := yJ7_fill_53178) (Yc := zJ7_fill_53178) (rest := []) [vR 545 0, vI 0] (ct_J7_fill_545 (T := U46) (by omega)) cl_X7_54 (qd_c (by decide +kernel)) (nn_ _) rfl (rf_of rfl) (Nat.le_of_ble_eq_true rfl) (Nat.le_of_ble_eq_true rfl) (Nat.le_of_ble_eq_true rfl) rfl ?_
  rintro U47 _ ⟨rfl, fU47, qU47o, qU47⟩
  show J_ zX7_tally T (po_X7_tally T c d) 0 0 37 _ [] U47
  refine j_blx (F := fX7) tb_X7 (nn_ _) bk_X7_tally_37 bs_X7_tally_37 hz (fun K hK => ?_)
  refine hK 42 _ [vI 0, vR 546 0] U47 ?_
  refine j_callS (y := yJ7_fill_53178) (Yc := zJ7_fill_53178) (rest := []) [vR 546 0, vI 0] (ct_J7_fill_546 (T := U47) (by omega)) cl_X7_54 (qd_c (by decide +kernel)) (nn_ _) rfl (rf_of rfl) (Nat.le_of_ble_eq_true rfl) (Nat.le_of_ble_eq_true rfl) (Nat.le_of_ble_eq_true rfl) rfl ?_
  rintro U48 _ ⟨rfl, fU48, qU48o, qU48⟩
  show J_ zX7_tally T (po_X7_tally T c d) 0 0 45 _ [] U48
  refine j_blx (F := fX7) tb_X7 (nn_ _) bk_X7_tally_45 bs_X7_tally_45 hz (fun K hK => ?_)
  refine hK 47 [some (vR 107 0), some (vR 100 c), some (vI d), some (vI 0), none] [] U48 ?_
  have e49 : U48 107 0 1 = c + 1 := (fU48 107 0 1 rfl).trans ((fU47 107 0 1 rfl).trans ((fU46 107 0 1 rfl).trans ((fU45 107 0 1 rfl).trans ((fU44 107 0 1 rfl).trans (up_f hU42)))))
  refine c_47 _ 0 U48 (Nat.le_refl _) ?_ ?_ ?_
  · exact fr_t (fr_t (fr_t (fr_t (fr_t (fr_u (fr_0 _ _) hU42 rfl) (fr_s fU44 rfl)) (fr_s fU45 rfl)) (fr_s fU46 rfl)) (fr_s fU47 rfl)) (fr_s fU48 rfl)
  · omega
  · omega
abbrev RJ6 : String := "java/lang/Integer"
def fJ6 : Zf := ([], [], [(265, 1431655765), (266, 858993459), (267, 252645135), (264, 65536)], [])
set_option maxRecDepth 100000 in
set_option maxHeartbeats 4000000 in
theorem tg_J6 : ∀ q ∈ fJ6.1, fl_ RJ6 q.1 q.2.1 q.2.2 := fun _ h => absurd h List.not_mem_nil
set_option maxRecDepth 100000 in
set_option maxHeartbeats 4000000 in
theorem tp_J6 : ∀ q ∈ fJ6.2.1, fp_ RJ6 q.1 q.2.1 q.2.2 := fun _ h => absurd h List.not_mem_nil
theorem tb_J6 : tb_ RJ6 fJ6 := ⟨tg_J6, tp_J6, List.forall_mem_cons.mpr ⟨⟨lwq_5 (dqc_m (dqc_m (dqc_m (dqa_m (List.mem_of_getElem? (i := 6) rfl))))) rfl, by decide, by decide⟩, List.forall_mem_cons.mpr ⟨⟨lwq_5 (dqc_m (dqc_m (dqc_m (dqa_m (List.mem_of_getElem? (i := 7) rfl))))) rfl, by decide, by decide⟩, List.forall_mem_cons.mpr ⟨⟨lwq_5 (dqc_m (dqc_m (dqc_m (dqa_m (dqa_m (List.mem_of_getElem? (i := 0) rfl)))))) rfl, by decide, by decide⟩, List.forall_mem_cons.mpr ⟨⟨lwq_6 (dqc_m (dqc_m (dqa_m (dqa_m (List.mem_of_getElem? (i := 6) rfl))))) rfl, by decide, by decide⟩, fun _ h => absurd h List.not_mem_nil⟩⟩⟩⟩, fun _ h => absurd h List.not_mem_nil⟩
abbrev cJ6_bitCount_0f7a4 : ByteArray := prog_15_method_49_code
def yJ6_bitCount_0f7a4 : MethodName := ⟨RJ6, "bitCount", "(I)I"⟩
def zJ6_bitCount_0f7a4 : Zm := (RJ6, cJ6_bitCount_0f7a4, 1, (some .int), { frames := 0, cells := 0, slots := 0, locals := 0 })
abbrev cX3_hit : ByteArray := prog_5_method_23_code
def yX3_hit : MethodName := ⟨RX3, "hit", "(II)V"⟩
def zX3_hit : Zm := (RX3, cX3_hit, 4, none, { frames := 2, cells := 0, slots := 0, locals := 45 })
set_option maxRecDepth 100000 in
theorem cl_X3_138 : cs_ RX3 138 yJ6_bitCount_0f7a4 zJ6_bitCount_0f7a4 1 := ⟨gi_S (lwq_5 (dqc_m (dqc_m (dqc_m (dqa_m (List.mem_of_getElem? (i := 3) rfl))))) rfl : Cond.methodLink RX3 138 yJ6_bitCount_0f7a4 ∈ lw_g) (lwq_5 (dqc_m (dqc_m (dqc_m (dqa_m (List.mem_of_getElem? (i := 4) rfl))))) rfl : Cond.static yJ6_bitCount_0f7a4 ∈ lw_g) (lwq_1 (dqa_m (dqa_m (List.mem_of_getElem? (i := 3) rfl))) rfl : Cond.initialized yJ6_bitCount_0f7a4.cls ∈ lw_g) (lwq_5 (dqc_m (dqc_m (dqc_m (dqa_m (List.mem_of_getElem? (i := 5) rfl))))) rfl : Cond.code yJ6_bitCount_0f7a4 cJ6_bitCount_0f7a4 1 (some .int) ∈ lw_g), ⟨by decide, by decide, by decide +kernel⟩⟩
abbrev cX3_playBaseball : ByteArray := prog_5_method_22_code
def yX3_playBaseball : MethodName := ⟨RX3, "playBaseball", "(III)V"⟩
def zX3_playBaseball : Zm := (RX3, cX3_playBaseball, 4, none, { frames := 3, cells := 0, slots := 0, locals := 68 })
theorem ds_X3_playBaseball_1 : decode cX3_playBaseball 1 = .ok (.tableswitch 91 1 3 #[27, 36, 64], 27) := by decide +kernel
set_option maxRecDepth 100000 in
theorem cl_X3_129 : cv_ RX3 129 yX3_hit zX3_hit 3 2 := ⟨gi_V (lwq_5 (dqc_m (dqc_m (dqc_m (List.mem_of_getElem? (i := 7) rfl)))) rfl : Cond.methodLink RX3 129 yX3_hit ∈ lw_g) (lwq_5 (dqc_m (dqc_m (dqc_m (dqa_m (List.mem_of_getElem? (i := 1) rfl))))) rfl : Cond.instanceMethod yX3_hit ∈ lw_g) (lw_sel 89 rfl : Cond.selects yX3_hit.cls yX3_hit yX3_hit ∈ lw_g) (lwq_1 (dqa_m (dqa_m (List.mem_of_getElem? (i := 2) rfl))) rfl : Cond.initialized yX3_hit.cls ∈ lw_g) (lwq_5 (dqc_m (dqc_m (dqc_m (dqa_m (List.mem_of_getElem? (i := 2) rfl))))) rfl : Cond.code yX3_hit cX3_hit 4 none ∈ lw_g), ⟨nmh_3.1, nmh_3.2, pdq_0⟩, ⟨_, _, rfl⟩⟩
set_option maxRecDepth 100000 in
theorem cl_X3_132 : cv_ RX3 132 yX3_walk zX3_walk 3 1 := ⟨gi_V (lwq_5 (dqc_m (dqc_m (dqc_m (dqa_m (dqa_m (dqa_m (List.mem_of_getElem? (i := 1) rfl))))))) rfl : Cond.methodLink RX3 132 yX3_walk ∈ lw_g) (lwq_5 (dqc_m (dqc_m (dqc_m (dqa_m (dqa_m (dqa_m (List.mem_of_getElem? (i := 3) rfl))))))) rfl : Cond.instanceMethod yX3_walk ∈ lw_g) (lw_sel 102 rfl : Cond.selects yX3_walk.cls yX3_walk yX3_walk ∈ lw_g) (lwq_1 (dqa_m (dqa_m (List.mem_of_getElem? (i := 2) rfl))) rfl : Cond.initialized yX3_walk.cls ∈ lw_g) (lwq_5 (dqc_m (dqc_m (dqc_m (dqa_m (dqa_m (dqa_m (List.mem_of_getElem? (i := 4) rfl))))))) rfl : Cond.code yX3_walk cX3_walk 3 none ∈ lw_g), ⟨nmh_3.1, nmh_3.2, pdq_9⟩, ⟨_, _, rfl⟩⟩
set_option maxRecDepth 100000 in
theorem cl_X3_135 : cv_ RX3 135 yX3_countOut zX3_countOut 3 0 := ⟨gi_V (lwq_5 (dqc_m (dqc_m (dqc_m (dqa_m (dqa_m (dqa_m (List.mem_of_getElem? (i := 5) rfl))))))) rfl : Cond.methodLink RX3 135 yX3_countOut ∈ lw_g) (lwq_5 (dqc_m (dqc_m (dqc_m (dqa_m (dqa_m (dqa_m (List.mem_of_getElem? (i := 7) rfl))))))) rfl : Cond.instanceMethod yX3_countOut ∈ lw_g) (lw_sel 85 rfl : Cond.selects yX3_countOut.cls yX3_countOut yX3_countOut ∈ lw_g) (lwq_1 (dqa_m (dqa_m (List.mem_of_getElem? (i := 2) rfl))) rfl : Cond.initialized yX3_countOut.cls ∈ lw_g) (lwq_5 (dqc_m (dqc_m (dqc_m (dqc_m (List.mem_of_getElem? (i := 0) rfl))))) rfl : Cond.code yX3_countOut cX3_countOut 1 none ∈ lw_g), ⟨nmh_3.1, nmh_3.2, pdq_1⟩, ⟨_, _, rfl⟩⟩
abbrev cX3_carryOut : ByteArray := prog_5_method_12_code
def yX3_carryOut : MethodName := ⟨RX3, "carryOut", "(IIII)V"⟩
def zX3_carryOut : Zm := (RX3, cX3_carryOut, 5, none, { frames := 4, cells := 0, slots := 0, locals := 91 })
theorem ds_X3_carryOut_20 : decode cX3_carryOut 20 = .ok (.tableswitch 55 0 2 #[28, 38, 46], 28) := by decide +kernel
set_option maxRecDepth 100000 in
theorem cl_X3_99 : cv_ RX3 99 yX3_playFootball zX3_playFootball 3 3 := ⟨gi_V (lwq_5 (dqc_m (dqc_m (List.mem_of_getElem? (i := 4) rfl))) rfl : Cond.methodLink RX3 99 yX3_playFootball ∈ lw_g) (lwq_5 (dqc_m (dqc_m (List.mem_of_getElem? (i := 6) rfl))) rfl : Cond.instanceMethod yX3_playFootball ∈ lw_g) (lw_sel 94 rfl : Cond.selects yX3_playFootball.cls yX3_playFootball yX3_playFootball ∈ lw_g) (lwq_1 (dqa_m (dqa_m (List.mem_of_getElem? (i := 2) rfl))) rfl : Cond.initialized yX3_playFootball.cls ∈ lw_g) (lwq_5 (dqc_m (dqc_m (List.mem_of_getElem? (i := 7) rfl))) rfl : Cond.code yX3_playFootball cX3_playFootball 4 none ∈ lw_g), ⟨nmh_3.1, nmh_3.2, pdq_3⟩, ⟨_, _, rfl⟩⟩
set_option maxRecDepth 100000 in
theorem cl_X3_102 : cv_ RX3 102 yX3_playVolleyball zX3_playVolleyball 3 1 := ⟨gi_V (lwq_5 (dqc_m (dqc_m (dqa_m (dqa_m (List.mem_of_getElem? (i := 4) rfl))))) rfl : Cond.methodLink RX3 102 yX3_playVolleyball ∈ lw_g) (lwq_5 (dqc_m (dqc_m (dqa_m (dqa_m (List.mem_of_getElem? (i := 6) rfl))))) rfl : Cond.instanceMethod yX3_playVolleyball ∈ lw_g) (lw_sel 96 rfl : Cond.selects yX3_playVolleyball.cls yX3_playVolleyball yX3_playVolleyball ∈ lw_g) (lwq_1 (dqa_m (dqa_m (List.mem_of_getElem? (i := 2) rfl))) rfl : Cond.initialized yX3_playVolleyball.cls ∈ lw_g) (lwq_5 (dqc_m (dqc_m (dqa_m (dqa_m (List.mem_of_getElem? (i := 7) rfl))))) rfl : Cond.code yX3_playVolleyball cX3_playVolleyball 3 none ∈ lw_g), ⟨nmh_3.1, nmh_3.2, pdq_9⟩, ⟨_, _, rfl⟩⟩
set_option maxRecDepth 100000 in
theorem cl_X3_106 : cv_ RX3 106 yX3_playTennis zX3_playTennis 3 2 := ⟨gi_V (lwq_5 (dqc_m (dqc_m (dqa_m (dqa_m (dqa_m (List.mem_of_getElem? (i := 7) rfl)))))) rfl : Cond.methodLink RX3 106 yX3_playTennis ∈ lw_g) (lwq_5 (dqc_m (dqc_m (dqc_m (List.mem_of_getElem? (i := 1) rfl)))) rfl : Cond.instanceMethod yX3_playTennis ∈ lw_g) (lw_sel 95 rfl : Cond.selects yX3_playTennis.cls yX3_playTennis yX3_playTennis ∈ lw_g) (lwq_1 (dqa_m (dqa_m (List.mem_of_getElem? (i := 2) rfl))) rfl : Cond.initialized yX3_playTennis.cls ∈ lw_g) (lwq_5 (dqc_m (dqc_m (dqc_m (List.mem_of_getElem? (i := 2) rfl)))) rfl : Cond.code yX3_playTennis cX3_playTennis 5 none ∈ lw_g), ⟨nmh_3.1, nmh_3.2, pdq_0⟩, ⟨_, _, rfl⟩⟩
set_option maxRecDepth 100000 in
theorem cl_X3_110 : cv_ RX3 110 yX3_playBaseball zX3_playBaseball 3 3 := ⟨gi_V (lwq_5 (dqc_m (dqc_m (dqc_m (List.mem_of_getElem? (i := 3) rfl)))) rfl : Cond.methodLink RX3 110 yX3_playBaseball ∈ lw_g) (lwq_5 (dqc_m (dqc_m (dqc_m (List.mem_of_getElem? (i := 5) rfl)))) rfl : Cond.instanceMethod yX3_playBaseball ∈ lw_g) (lw_sel 93 rfl : Cond.selects yX3_playBaseball.cls yX3_playBaseball yX3_playBaseball ∈ lw_g) (lwq_1 (dqa_m (dqa_m (List.mem_of_getElem? (i := 2) rfl))) rfl : Cond.initialized yX3_playBaseball.cls ∈ lw_g) (lwq_5 (dqc_m (dqc_m (dqc_m (List.mem_of_getElem? (i := 6) rfl)))) rfl : Cond.code yX3_playBaseball cX3_playBaseball 4 none ∈ lw_g), ⟨nmh_3.1, nmh_3.2, pdq_3⟩, ⟨_, _, rfl⟩⟩
set_option maxRecDepth 100000 in
theorem cl_X3_95 : cv_ RX3 95 yX3_substitute zX3_substitute 3 3 := ⟨gi_V (lwq_5 (dqc_m (dqc_m (List.mem_of_getElem? (i := 0) rfl))) rfl : Cond.methodLink RX3 95 yX3_substitute ∈ lw_g) (lwq_5 (dqc_m (dqc_m (List.mem_of_getElem? (i := 2) rfl))) rfl : Cond.instanceMethod yX3_substitute ∈ lw_g) (lw_sel 101 rfl : Cond.selects yX3_substitute.cls yX3_substitute yX3_substitute ∈ lw_g) (lwq_1 (dqa_m (dqa_m (List.mem_of_getElem? (i := 2) rfl))) rfl : Cond.initialized yX3_substitute.cls ∈ lw_g) (lwq_5 (dqc_m (dqc_m (List.mem_of_getElem? (i := 3) rfl))) rfl : Cond.code yX3_substitute cX3_substitute 6 none ∈ lw_g), ⟨nmh_3.1, nmh_3.2, pdq_3⟩, ⟨_, _, rfl⟩⟩
abbrev cX9_setCaps : ByteArray := prog_11_method_7_code
def yX9_setCaps : MethodName := ⟨RX9, "setCaps", "(I)V"⟩
def zX9_setCaps : Zm := (RX9, cX9_setCaps, 6, none, { frames := 1, cells := 0, slots := 0, locals := 21 })
theorem bk_X9_setCaps_49 : ck_ fX9 none cX9_setCaps 49 [.iload 5, .aload 0, .tableswitch 0 9 9 #[], .if_icmp .ge 108, .aload 0, .tableswitch 0 9 0 #[], .tableswitch 0 6 3 #[], .aload 0, .tableswitch 0 9 8 #[], .iload 5, .iaload, .aaload, .aload 0, .tableswitch 0 9 5 #[], .tableswitch 0 0 3 #[], .iload 3, .iaload] 82 = true := qck_r (nn_ _) (by decide +kernel)
theorem bs_X9_setCaps_49 {P : Zt → Option Zv → Prop} (K : Int → Zl → List Zv → Zt → Prop) : sx_ K P [.iload 5, .aload 0, .tableswitch 0 9 9 #[], .if_icmp .ge 108, .aload 0, .tableswitch 0 9 0 #[], .tableswitch 0 6 3 #[], .aload 0, .tableswitch 0 9 8 #[], .iload 5, .iaload, .aaload, .aload 0, .tableswitch 0 9 5 #[], .tableswitch 0 0 3 #[], .iload 3, .iaload] 82 = x_iload 5 (x_aload 0 (x_g0 109 9 0 40 (x_if_icmp .ge 108 K (x_aload 0 (x_g1 109 106 (x_g1 106 523 (x_aload 0 (x_g1 109 588 (x_iload 5 (x_iaload (x_aaload (x_aload 0 (x_g5 109 100 5 (x_g2 100 403 (x_iload 3 (x_iaload (K 82))))))))))))))))) := ((xe_iload 5).trans (congrArg (x_iload 5) ((xe_aload 0).trans (congrArg (x_aload 0) ((xe_g0 (kk := 109) rfl tl_9_9).trans (congrArg (x_g0 109 9 0 40) ((xe_if_icmp .ge 108).trans (congrArg (x_if_icmp .ge 108 K) ((xe_aload 0).trans (congrArg (x_aload 0) ((xe_g1 (kk := 109) rfl tl_9_0).trans (congrArg (x_g1 109 106) ((xe_g1 (kk := 106) rfl tl_6_3).trans (congrArg (x_g1 106 523) ((xe_aload 0).trans (congrArg (x_aload 0) ((xe_g1 (kk := 109) rfl tl_9_8).trans (congrArg (x_g1 109 588) ((xe_iload 5).trans (congrArg (x_iload 5) ((xe_iaload).trans (congrArg (x_iaload) ((xe_aaload).trans (congrArg (x_aaload) ((xe_aload 0).trans (congrArg (x_aload 0) ((xe_g5 (kk := 109) rfl tl_9_5).trans (congrArg (x_g5 109 100 5) ((xe_g2 (kk := 100) rfl tl_0_3).trans (congrArg (x_g2 100 403) ((xe_iload 3).trans (congrArg (x_iload 3) ((xe_iaload).trans (congrArg (x_iaload) xe_nil))))))))))))))))))))))))))))))))))
theorem bk_X9_setCaps_108 : ck_ fX9 none cX9_setCaps 108 [.aload 0, .tableswitch 0 9 11 #[], .iload 3, .iload 4, .ifCond .ge 122, .iconst (-1), .goto 136] 122 = true := qck_r (nn_ _) (by decide +kernel)
theorem bs_X9_setCaps_108 {P : Zt → Option Zv → Prop} (K : Int → Zl → List Zv → Zt → Prop) : sx_ K P [.aload 0, .tableswitch 0 9 11 #[], .iload 3, .iload 4, .ifCond .ge 122, .iconst (-1), .goto 136] 122 = x_aload 0 (x_g1 109 591 (x_iload 3 (x_iload 4 (x_ifCond .ge 122 K (x_iconst (-1) (x_goto 136 K)))))) := ((xe_aload 0).trans (congrArg (x_aload 0) ((xe_g1 (kk := 109) rfl tl_9_11).trans (congrArg (x_g1 109 591) ((xe_iload 3).trans (congrArg (x_iload 3) ((xe_iload 4).trans (congrArg (x_iload 4) ((xe_ifCond .ge 122).trans (congrArg (x_ifCond .ge 122 K) ((xe_iconst (-1)).trans (congrArg (x_iconst (-1)) (xe_goto 136)))))))))))))
theorem bk_X9_setCaps_122 : ck_ fX9 none cX9_setCaps 122 [.iload 2, .ifCond .ne 132, .iconst 1000, .goto 136] 132 = true := qck_r (nn_ _) (by decide +kernel)
theorem bs_X9_setCaps_122 {P : Zt → Option Zv → Prop} (K : Int → Zl → List Zv → Zt → Prop) : sx_ K P [.iload 2, .ifCond .ne 132, .iconst 1000, .goto 136] 132 = x_iload 2 (x_ifCond .ne 132 K (x_iconst 1000 (x_goto 136 K))) := ((xe_iload 2).trans (congrArg (x_iload 2) ((xe_ifCond .ne 132).trans (congrArg (x_ifCond .ne 132 K) ((xe_iconst 1000).trans (congrArg (x_iconst 1000) (xe_goto 136)))))))
theorem bk_X9_setCaps_132 : ck_ fX9 none cX9_setCaps 132 [.iload 4, .iload 2, .fdiv, .iastore, .aload 0, .tableswitch 0 9 12 #[], .iload 3, .iconst 0, .iastore, .iinc 3 1, .goto 22] 150 = true := qck_r (nn_ _) (by decide +kernel)
theorem bs_X9_setCaps_132 {P : Zt → Option Zv → Prop} (K : Int → Zl → List Zv → Zt → Prop) : sx_ K P [.iload 4, .iload 2, .fdiv, .iastore, .aload 0, .tableswitch 0 9 12 #[], .iload 3, .iconst 0, .iastore, .iinc 3 1, .goto 22] 150 = x_iload 4 (x_iload 2 (x_fdiv (x_iastore (x_aload 0 (x_g1 109 592 (x_iload 3 (x_iconst 0 (x_iastore (x_iinc 3 1 (x_goto 22 K)))))))))) := ((xe_iload 4).trans (congrArg (x_iload 4) ((xe_iload 2).trans (congrArg (x_iload 2) ((xe_fdiv).trans (congrArg (x_fdiv) ((xe_iastore).trans (congrArg (x_iastore) ((xe_aload 0).trans (congrArg (x_aload 0) ((xe_g1 (kk := 109) rfl tl_9_12).trans (congrArg (x_g1 109 592) ((xe_iload 3).trans (congrArg (x_iload 3) ((xe_iconst 0).trans (congrArg (x_iconst 0) ((xe_iastore).trans (congrArg (x_iastore) ((xe_iinc 3 1).trans (congrArg (x_iinc 3 1) (xe_goto 22)))))))))))))))))))))
theorem bk_X9_setCaps_136 : ck_ fX9 none cX9_setCaps 136 [.iastore, .aload 0, .tableswitch 0 9 12 #[], .iload 3, .iconst 0, .iastore, .iinc 3 1, .goto 22] 150 = true := qck_r (nn_ _) (by decide +kernel)
theorem bs_X9_setCaps_136 {P : Zt → Option Zv → Prop} (K : Int → Zl → List Zv → Zt → Prop) : sx_ K P [.iastore, .aload 0, .tableswitch 0 9 12 #[], .iload 3, .iconst 0, .iastore, .iinc 3 1, .goto 22] 150 = x_iastore (x_aload 0 (x_g1 109 592 (x_iload 3 (x_iconst 0 (x_iastore (x_iinc 3 1 (x_goto 22 K))))))) := ((xe_iastore).trans (congrArg (x_iastore) ((xe_aload 0).trans (congrArg (x_aload 0) ((xe_g1 (kk := 109) rfl tl_9_12).trans (congrArg (x_g1 109 592) ((xe_iload 3).trans (congrArg (x_iload 3) ((xe_iconst 0).trans (congrArg (x_iconst 0) ((xe_iastore).trans (congrArg (x_iastore) ((xe_iinc 3 1).trans (congrArg (x_iinc 3 1) (xe_goto 22)))))))))))))))
set_option maxRecDepth 100000 in
theorem cl_X9_115 : cv_ RX9 115 yX2_has zX2_has 2 1 := ⟨gi_V (lwq_6 (dqc_m (dqa_m (List.mem_of_getElem? (i := 1) rfl))) rfl : Cond.methodLink RX9 115 yX2_has ∈ lw_g) (lwq_4 (dqc_m (dqc_m (dqa_m (List.mem_of_getElem? (i := 2) rfl)))) rfl : Cond.instanceMethod yX2_has ∈ lw_g) (lwq_4 (dqc_m (dqc_m (dqa_m (List.mem_of_getElem? (i := 3) rfl)))) rfl : Cond.selects yX2_has.cls yX2_has yX2_has ∈ lw_g) (lwq_1 (dqa_m (dqa_m (List.mem_of_getElem? (i := 0) rfl))) rfl : Cond.initialized yX2_has.cls ∈ lw_g) (lwq_4 (dqc_m (dqc_m (dqa_m (List.mem_of_getElem? (i := 4) rfl)))) rfl : Cond.code yX2_has cX2_has 2 (some .boolean) ∈ lw_g), ⟨nmh_10.1, nmh_10.2, pdq_7⟩, ⟨_, _, rfl⟩⟩
theorem bk_X9_setCaps_85 : ck_ fX9 none cX9_setCaps 85 [.ifCond .eq 102, .iload 4, .aload 0, .tableswitch 0 9 5 #[], .tableswitch 0 0 1 #[], .iconst 3, .iaload, .fsub, .istore 4, .iinc 5 1, .goto 49] 108 = true := qck_r (nn_ _) (by decide +kernel)
theorem bs_X9_setCaps_85 {P : Zt → Option Zv → Prop} (K : Int → Zl → List Zv → Zt → Prop) : sx_ K P [.ifCond .eq 102, .iload 4, .aload 0, .tableswitch 0 9 5 #[], .tableswitch 0 0 1 #[], .iconst 3, .iaload, .fsub, .istore 4, .iinc 5 1, .goto 49] 108 = x_ifCond .eq 102 K (x_iload 4 (x_aload 0 (x_g5 109 100 5 (x_g2 100 401 (x_iconst 3 (x_iaload (x_fsub (x_istore 4 (x_iinc 5 1 (x_goto 49 K)))))))))) := ((xe_ifCond .eq 102).trans (congrArg (x_ifCond .eq 102 K) ((xe_iload 4).trans (congrArg (x_iload 4) ((xe_aload 0).trans (congrArg (x_aload 0) ((xe_g5 (kk := 109) rfl tl_9_5).trans (congrArg (x_g5 109 100 5) ((xe_g2 (kk := 100) rfl tl_0_1).trans (congrArg (x_g2 100 401) ((xe_iconst 3).trans (congrArg (x_iconst 3) ((xe_iaload).trans (congrArg (x_iaload) ((xe_fsub).trans (congrArg (x_fsub) ((xe_istore 4).trans (congrArg (x_istore 4) ((xe_iinc 5 1).trans (congrArg (x_iinc 5 1) (xe_goto 49)))))))))))))))))))))
theorem bk_X9_setCaps_102 : ck_ fX9 none cX9_setCaps 102 [.iinc 5 1, .goto 49] 108 = true := qck_r (nn_ _) (by decide +kernel)
theorem bs_X9_setCaps_102 {P : Zt → Option Zv → Prop} (K : Int → Zl → List Zv → Zt → Prop) : sx_ K P [.iinc 5 1, .goto 49] 108 = x_iinc 5 1 (x_goto 49 K) := ((xe_iinc 5 1).trans (congrArg (x_iinc 5 1) (xe_goto 49)))
theorem bk_X9_setCaps_22 : ck_ fX9 none cX9_setCaps 22 [.iload 3, .aload 0, .tableswitch 0 9 5 #[], .tableswitch 0 0 5 #[], .if_icmp .ge 150, .aload 0, .tableswitch 0 9 6 #[], .aload 0, .tableswitch 0 9 7 #[], .iload 3, .iaload, .fsub, .istore 4, .iconst 0, .istore 5] 49 = true := qck_r (nn_ _) (by decide +kernel)
theorem bs_X9_setCaps_22 {P : Zt → Option Zv → Prop} (K : Int → Zl → List Zv → Zt → Prop) : sx_ K P [.iload 3, .aload 0, .tableswitch 0 9 5 #[], .tableswitch 0 0 5 #[], .if_icmp .ge 150, .aload 0, .tableswitch 0 9 6 #[], .aload 0, .tableswitch 0 9 7 #[], .iload 3, .iaload, .fsub, .istore 4, .iconst 0, .istore 5] 49 = x_iload 3 (x_aload 0 (x_g5 109 100 5 (x_g0 100 5 0 12 (x_if_icmp .ge 150 K (x_aload 0 (x_g0 109 6 (-2147483648) 2147483647 (x_aload 0 (x_g1 109 587 (x_iload 3 (x_iaload (x_fsub (x_istore 4 (x_iconst 0 (x_istore 5 (K 49))))))))))))))) := ((xe_iload 3).trans (congrArg (x_iload 3) ((xe_aload 0).trans (congrArg (x_aload 0) ((xe_g5 (kk := 109) rfl tl_9_5).trans (congrArg (x_g5 109 100 5) ((xe_g0 (kk := 100) rfl tl_0_5).trans (congrArg (x_g0 100 5 0 12) ((xe_if_icmp .ge 150).trans (congrArg (x_if_icmp .ge 150 K) ((xe_aload 0).trans (congrArg (x_aload 0) ((xe_g0 (kk := 109) rfl tl_9_6).trans (congrArg (x_g0 109 6 (-2147483648) 2147483647) ((xe_aload 0).trans (congrArg (x_aload 0) ((xe_g1 (kk := 109) rfl tl_9_7).trans (congrArg (x_g1 109 587) ((xe_iload 3).trans (congrArg (x_iload 3) ((xe_iaload).trans (congrArg (x_iaload) ((xe_fsub).trans (congrArg (x_fsub) ((xe_istore 4).trans (congrArg (x_istore 4) ((xe_iconst 0).trans (congrArg (x_iconst 0) ((xe_istore 5).trans (congrArg (x_istore 5) xe_nil))))))))))))))))))))))))))))))
theorem bk_X9_setCaps_150 : ck_ fX9 none cX9_setCaps 150 [.aload 0, .tableswitch 0 9 11 #[], .iload 1, .iconst 0, .iastore, .return_] 158 = true := qck_r (nn_ _) (by decide +kernel)
theorem bs_X9_setCaps_150 {P : Zt → Option Zv → Prop} (K : Int → Zl → List Zv → Zt → Prop) : sx_ K P [.aload 0, .tableswitch 0 9 11 #[], .iload 1, .iconst 0, .iastore, .return_] 158 = x_aload 0 (x_g1 109 591 (x_iload 1 (x_iconst 0 (x_iastore (x_return_ P))))) := ((xe_aload 0).trans (congrArg (x_aload 0) ((xe_g1 (kk := 109) rfl tl_9_11).trans (congrArg (x_g1 109 591) ((xe_iload 1).trans (congrArg (x_iload 1) ((xe_iconst 0).trans (congrArg (x_iconst 0) ((xe_iastore).trans (congrArg (x_iastore) (xe_return_)))))))))))
theorem bk_X9_setCaps_0 : ck_ fX9 none cX9_setCaps 0 [.aload 0, .tableswitch 0 9 5 #[], .tableswitch 0 0 1 #[], .iconst 1, .iaload, .aload 0, .tableswitch 0 9 5 #[], .tableswitch 0 0 1 #[], .iconst 2, .iaload, .isub, .istore 2, .iconst 0, .istore 3] 22 = true := qck_r (nn_ _) (by decide +kernel)
theorem bs_X9_setCaps_0 {P : Zt → Option Zv → Prop} (K : Int → Zl → List Zv → Zt → Prop) : sx_ K P [.aload 0, .tableswitch 0 9 5 #[], .tableswitch 0 0 1 #[], .iconst 1, .iaload, .aload 0, .tableswitch 0 9 5 #[], .tableswitch 0 0 1 #[], .iconst 2, .iaload, .isub, .istore 2, .iconst 0, .istore 3] 22 = x_aload 0 (x_g5 109 100 5 (x_g2 100 401 (x_iconst 1 (x_iaload (x_aload 0 (x_g5 109 100 5 (x_g2 100 401 (x_iconst 2 (x_iaload (x_isub (x_istore 2 (x_iconst 0 (x_istore 3 (K 22)))))))))))))) := ((xe_aload 0).trans (congrArg (x_aload 0) ((xe_g5 (kk := 109) rfl tl_9_5).trans (congrArg (x_g5 109 100 5) ((xe_g2 (kk := 100) rfl tl_0_1).trans (congrArg (x_g2 100 401) ((xe_iconst 1).trans (congrArg (x_iconst 1) ((xe_iaload).trans (congrArg (x_iaload) ((xe_aload 0).trans (congrArg (x_aload 0) ((xe_g5 (kk := 109) rfl tl_9_5).trans (congrArg (x_g5 109 100 5) ((xe_g2 (kk := 100) rfl tl_0_1).trans (congrArg (x_g2 100 401) ((xe_iconst 2).trans (congrArg (x_iconst 2) ((xe_iaload).trans (congrArg (x_iaload) ((xe_isub).trans (congrArg (x_isub) ((xe_istore 2).trans (congrArg (x_istore 2) ((xe_iconst 0).trans (congrArg (x_iconst 0) ((xe_istore 3).trans (congrArg (x_istore 3) xe_nil))))))))))))))))))))))))))))
abbrev po_X9_setCaps (T : Zt) (t : Int) : Zt → Option Zv → Prop := fun T' r => r = none ∧ fr_ [(591, []), (592, [])] T T' ∧ (0 = (0 : Int))
set_option maxHeartbeats 4000000 in
theorem ct_X9_setCaps {T : Zt} {t : Int} (hq9 : Q9_ T) (hka : KA_ T) (hw : T 401 (T 109 0 5 - 1) 2 ≤ T 401 (T 109 0 5 - 1) 1) (ht : 0 ≤ t ∧ t ≤ 11) : Ct_ yX9_setCaps zX9_setCaps T [vR 109 0, vI t] (po_X9_setCaps T t) := by
  refine ct_of pn_9 rfl rfl (Nat.le_of_ble_eq_true rfl) (fun hT hav => ?_)
  have hr_t : -2147483648 ≤ t ∧ t ≤ 2147483647 := hav (vI t) (List.mem_cons_of_mem _ List.mem_cons_self)
  have hz : zX9_setCaps.2.2.2.1 = some .boolean → ∀ (T' : Zt) (x : Int), po_X9_setCaps T t T' (some (vI x)) → 0 ≤ x ∧ x ≤ 1 := fun h => by cases h
  have hq1 := hq9.1
  have hb_openCount : 0 ≤ T 109 0 9 ∧ T 109 0 9 ≤ 40 := bd_f hT 109 9 tl_9_9 0
  have hen : 0 ≤ T 100 (T 109 0 5 - 1) 5 ∧ T 100 (T 109 0 5 - 1) 5 ≤ 12 := bd_f hT 100 5 tl_0_5 (T 109 0 5 - 1)
  show J_ zX9_setCaps T (po_X9_setCaps T t) 0 0 0 [some (vR 109 0), some (vI t), none, none, none, none] [] T
  have c_22 : ∀ (nn : Nat) (v : Int) (k : Int) (T1 : Zt), ((12 - k).toNat) ≤ nn → (fr_ [(591, []), (592, [])] T T1) → (0 ≤ k ∧ k ≤ 12 ∧ 0 ≤ v) → J_ zX9_setCaps T (po_X9_setCaps T t) 0 0 22 [some (vR 109 0), some (vI t), some (vI v), some (vI k), none, none] [] T1 := by
    intro nn
    induction nn using Nat.strongRecOn with
    | _ nn ih_22 =>
      intro v k T1 hm_22 hf_22 i1
      replace hm_22 := fun (_ : Unit) => hm_22
      have c_49 : ∀ (nn : Nat) (g : Int) (u : Int), ((40 - u).toNat) ≤ nn → (0 ≤ u ∧ k < 12) → J_ zX9_setCaps T (po_X9_setCaps T t) 0 0 49 [some (vR 109 0), some (vI t), some (vI v), some (vI k), some (vI g), some (vI u)] [] T1 := by
        intro nn
        induction nn using Nat.strongRecOn with
        | _ nn ih_49 =>
          intro g u hm_49 i2
          replace hm_49 := fun (_ : Unit) => hm_49
          refine j_blx (F := fX9) tb_X9 (nn_ _) bk_X9_setCaps_49 bs_X9_setCaps_49 hz (fun K hK => ?_)
          intro b1 b1b
          have e2 : T1 109 0 9 = T 109 0 9 := hf_22 109 0 9 rfl
          rw [e2] at b1 b1b ⊢
          refine And.intro (fun c3 => ?_) (fun c3 => ?_)
          · refine hK 108 _ [] T1 ?_
            refine j_blx (F := fX9) tb_X9 (nn_ _) bk_X9_setCaps_108 bs_X9_setCaps_108 hz (fun K hK => ?_)
            refine And.intro (fun c4 => ?_) (fun c4 => ?_)
            · refine hK 122 _ [vI k, vR 591 0] T1 ?_
              refine j_blx (F := fX9) tb_X9 (nn_ _) bk_X9_setCaps_122 bs_X9_setCaps_122 hz (fun K hK => ?_)
              refine And.intro (fun c5 => ?_) (fun c5 => ?_)
              · refine hK 132 _ [vI k, vR 591 0] T1 ?_
                refine j_blx (F := fX9) tb_X9 (nn_ _) bk_X9_setCaps_132 bs_X9_setCaps_132 hz (fun K hK => ?_)
                refine And.intro (by omega) (fun w6 w6b => ?_)
                refine iy_i (by omega) (by omega) ?_
                refine x_nm (fun U7 hU7 => ?_)
                have e8 := up_f hU7
                refine iy_i (by omega) (by omega) ?_
                refine x_nm (fun U9 hU9 => ?_)
                have e10 := up_f hU9
                refine rg_i (by omega) ?_
                refine hK 22 [some (vR 109 0), some (vI t), some (vI v), some (vI (k + 1)), some (vI g), some (vI u)] [] U9 ?_
                refine j_drop [some (vR 109 0), some (vI t), some (vI v), some (vI (k + 1)), none, none] (fun k v hk => ?_) rfl ?_
                · match k, hk with
                  | 0, hk => exact hk
                  | 1, hk => exact hk
                  | 2, hk => exact hk
                  | 3, hk => exact hk
                  | 4, hk => cases hk
                  | 5, hk => cases hk
                  | k + 6, hk => cases hk
                refine ih_22 _ ?_ v (k + 1) U9 (Nat.le_refl _) ?_ ?_
                · have hm_22 := hm_22 (); omega
                · exact fr_u (fr_u (fr_t (fr_0 _ _) (fr_s hf_22 rfl)) hU7 rfl) hU9 rfl
                · omega
              · refine hK 136 [some (vR 109 0), some (vI t), some (vI v), some (vI k), some (vI g), some (vI u)] [vI 1000, vI k, vR 591 0] T1 ?_
                refine j_blx (F := fX9) tb_X9 (nn_ _) bk_X9_setCaps_136 bs_X9_setCaps_136 hz (fun K hK => ?_)
                refine iy_i (by omega) (by omega) ?_
                refine x_nm (fun U11 hU11 => ?_)
                have e12 := up_f hU11
                refine iy_i (by omega) (by omega) ?_
                refine x_nm (fun U13 hU13 => ?_)
                have e14 := up_f hU13
                refine rg_i (by omega) ?_
                refine hK 22 [some (vR 109 0), some (vI t), some (vI v), some (vI (k + 1)), some (vI g), some (vI u)] [] U13 ?_
                refine j_drop [some (vR 109 0), some (vI t), some (vI v), some (vI (k + 1)), none, none] (fun k v hk => ?_) rfl ?_
                · match k, hk with
                  | 0, hk => exact hk
                  | 1, hk => exact hk
                  | 2, hk => exact hk
                  | 3, hk => exact hk
                  | 4, hk => cases hk
                  | 5, hk => cases hk
                  | k + 6, hk => cases hk
                refine ih_22 _ ?_ v (k + 1) U13 (Nat.le_refl _) ?_ ?_
                · have hm_22 := hm_22 (); omega
                · exact fr_u (fr_u (fr_t (fr_0 _ _) (fr_s hf_22 rfl)) hU11 rfl) hU13 rfl
                · omega
            · refine hK 136 _ [vI (-1), vI k, vR 591 0] T1 ?_
              refine j_blx (F := fX9) tb_X9 (nn_ _) bk_X9_setCaps_136 bs_X9_setCaps_136 hz (fun K hK => ?_)
              refine iy_i (by omega) (by omega) ?_
              refine x_nm (fun U15 hU15 => ?_)
              have e16 := up_f hU15
              refine iy_i (by omega) (by omega) ?_
              refine x_nm (fun U17 hU17 => ?_)
              have e18 := up_f hU17
              refine rg_i (by omega) ?_
              refine hK 22 [some (vR 109 0), some (vI t), some (vI v), some (vI (k + 1)), some (vI g), some (vI u)] [] U17 ?_
              refine j_drop [some (vR 109 0), some (vI t), some (vI v), some (vI (k + 1)), none, none] (fun k v hk => ?_) rfl ?_
              · match k, hk with
                | 0, hk => exact hk
                | 1, hk => exact hk
                | 2, hk => exact hk
                | 3, hk => exact hk
                | 4, hk => cases hk
                | 5, hk => cases hk
                | k + 6, hk => cases hk
              refine ih_22 _ ?_ v (k + 1) U17 (Nat.le_refl _) ?_ ?_
              · have hm_22 := hm_22 (); omega
              · exact fr_u (fr_u (fr_t (fr_0 _ _) (fr_s hf_22 rfl)) hU15 rfl) hU17 rfl
              · omega
          · refine ix_i (by omega) ?_
            intro b19 b19b
            have e20 : T1 588 0 u = T 588 0 u := hf_22 588 0 u rfl
            rw [e20] at b19 b19b ⊢
            refine ix_i (by omega) ?_
            have e22 : T1 523 0 (T 588 0 u) = T 523 0 (T 588 0 u) := hf_22 523 0 (T 588 0 u) rfl
            refine And.intro (fun c21 => ?_) (fun c21 => ?_)
            · exact absurd (show T 523 0 (T 588 0 u) = 0 by omega) (hka.2 _ (by have z := (hq9.2 u (by omega) (by omega)).1; omega) (by have z := (hq9.2 u (by omega) (by omega)).1; omega))
            · have e24 : T1 109 0 5 = T 109 0 5 := hf_22 109 0 5 rfl
              refine And.intro (fun c23 => ?_) (fun c23 => ?_)
              · exact absurd c23 (by omega)
              · refine ix_i (by omega) ?_
                intro b25 b25b
                have e26 : T1 403 (T 109 0 5 - 1) k = T 403 (T 109 0 5 - 1) k := hf_22 403 (T 109 0 5 - 1) k rfl
                have e27 : T1 403 (T1 109 0 5 - 1) k = T 403 (T 109 0 5 - 1) k := by rw [e24]; exact e26
                rw [e27] at b25 b25b ⊢
                refine hK 82 _ [vI (T 403 (T 109 0 5 - 1) k), vR 102 (T 588 0 u)] T1 ?_
                refine j_callV (y := yX2_has) (Yc := zX2_has) (rest := []) [vI (T 403 (T 109 0 5 - 1) k)] (ct_X2_has (T := T1)) cl_X9_115 (qd_c (by decide +kernel)) (nn_ _) rfl (rf_of rfl) (Nat.le_of_ble_eq_true rfl) (Nat.le_of_ble_eq_true rfl) (Nat.le_of_ble_eq_true rfl) rfl ?_
                rintro _ _ ⟨rfl, x28, rfl, hx28⟩
                show J_ zX9_setCaps T (po_X9_setCaps T t) 0 0 85 _ [vI x28] T1
                refine j_blx (F := fX9) tb_X9 (nn_ _) bk_X9_setCaps_85 bs_X9_setCaps_85 hz (fun K hK => ?_)
                refine And.intro (fun c29 => ?_) (fun c29 => ?_)
                · refine hK 102 _ [] T1 ?_
                  refine j_blx (F := fX9) tb_X9 (nn_ _) bk_X9_setCaps_102 bs_X9_setCaps_102 hz (fun K hK => ?_)
                  refine rg_i (by omega) ?_
                  refine hK 49 [some (vR 109 0), some (vI t), some (vI v), some (vI k), some (vI g), some (vI (u + 1))] [] T1 ?_
                  refine ih_49 _ ?_ g (u + 1) (Nat.le_refl _) ?_
                  · have hm_49 := hm_49 (); omega
                  · omega
                · have e31 : T1 109 0 5 = T 109 0 5 := hf_22 109 0 5 rfl
                  refine And.intro (fun c30 => ?_) (fun c30 => ?_)
                  · exact absurd c30 (by omega)
                  · refine ix_i (by omega) ?_
                    intro b32 b32b
                    have e33 : T1 401 (T 109 0 5 - 1) 3 = T 401 (T 109 0 5 - 1) 3 := hf_22 401 (T 109 0 5 - 1) 3 rfl
                    have e34 : T1 401 (T1 109 0 5 - 1) 3 = T 401 (T 109 0 5 - 1) 3 := by rw [e31]; exact e33
                    rw [e34] at b32 b32b ⊢
                    intro w35 w35b
                    refine rg_i (by omega) ?_
                    refine hK 49 [some (vR 109 0), some (vI t), some (vI v), some (vI k), some (vI (wr_ (g - (T 401 (T 109 0 5 - 1) 3)))), some (vI (u + 1))] [] T1 ?_
                    refine ih_49 _ ?_ (wr_ (g - (T 401 (T 109 0 5 - 1) 3))) (u + 1) (Nat.le_refl _) ?_
                    · have hm_49 := hm_49 (); omega
                    · omega
      refine j_blx (F := fX9) tb_X9 (nn_ _) bk_X9_setCaps_22 bs_X9_setCaps_22 hz (fun K hK => ?_)
      have e37 : T1 109 0 5 = T 109 0 5 := hf_22 109 0 5 rfl
      refine And.intro (fun c36 => ?_) (fun c36 => ?_)
      · exact absurd c36 (by omega)
      · intro b38 b38b
        have e39 : T1 100 (T 109 0 5 - 1) 5 = T 100 (T 109 0 5 - 1) 5 := hf_22 100 (T 109 0 5 - 1) 5 rfl
        have e40 : T1 100 (T1 109 0 5 - 1) 5 = T 100 (T 109 0 5 - 1) 5 := by rw [e37]; exact e39
        rw [e40] at b38 b38b ⊢
        refine And.intro (fun c41 => ?_) (fun c41 => ?_)
        · refine hK 150 _ [] T1 ?_
          refine j_blx (F := fX9) tb_X9 (nn_ _) bk_X9_setCaps_150 bs_X9_setCaps_150 hz (fun K hK => ?_)
          refine iy_i (by omega) (by omega) ?_
          refine x_nm (fun U42 hU42 => ?_)
          have e43 := up_f hU42
          refine (show po_X9_setCaps T t U42 (none) from ?_)
          exact ⟨rfl, fr_u (fr_t (fr_0 _ _) (fr_s hf_22 rfl)) hU42 rfl, by rfl⟩
        · intro b44 b44b
          have e45 : T1 109 0 6 = T 109 0 6 := hf_22 109 0 6 rfl
          rw [e45] at b44 b44b ⊢
          refine ix_i (by omega) ?_
          intro b46 b46b
          have e47 : T1 587 0 k = T 587 0 k := hf_22 587 0 k rfl
          rw [e47] at b46 b46b ⊢
          intro w48 w48b
          refine hK 49 [some (vR 109 0), some (vI t), some (vI v), some (vI k), some (vI (wr_ ((T 109 0 6) - (T 587 0 k)))), some (vI 0)] [] T1 ?_
          refine c_49 _ (wr_ ((T 109 0 6) - (T 587 0 k))) 0 (Nat.le_refl _) ?_
          · omega
  refine j_blx (F := fX9) tb_X9 (nn_ _) bk_X9_setCaps_0 bs_X9_setCaps_0 hz (fun K hK => ?_)
  refine And.intro (fun c49 => ?_) (fun c49 => ?_)
  · exact absurd c49 (by omega)
  · refine ix_i (by omega) ?_
    intro b50 b50b
    refine And.intro (fun c51 => ?_) (fun c51 => ?_)
    · exact absurd c51 (by omega)
    · refine ix_i (by omega) ?_
      intro b52 b52b
      refine rg_i (by omega) ?_
      refine hK 22 [some (vR 109 0), some (vI t), some (vI ((T 401 (T 109 0 5 - 1) 1) - (T 401 (T 109 0 5 - 1) 2))), some (vI 0), none, none] [] T ?_
      refine c_22 _ ((T 401 (T 109 0 5 - 1) 1) - (T 401 (T 109 0 5 - 1) 2)) 0 T (Nat.le_refl _) ?_ ?_
      · exact fr_0 _ _
      · omega
