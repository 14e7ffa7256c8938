def KM_ (T : Zt) : Prop := ∀ m : Int, 0 ≤ m → m < T 106 0 4 → T 102 m 1 = m ∧ 0 ≤ T 102 m 0 ∧ T 102 m 0 < T 106 0 2
theorem KM__f {ws : List (Nat × List Int)} {T T' : Zt} (h : KM_ T) (f : fr_ ws T T') (w : fw_ ws 102 1 = false ∧ fw_ ws 102 0 = false ∧ fw_ ws 106 4 = false ∧ fw_ ws 106 2 = false ∧ True) : KM_ T' := by
  have e0 : ∀ i, T' 102 i 1 = T 102 i 1 := fun i => f 102 i 1 w.1
  have e1 : ∀ i, T' 102 i 0 = T 102 i 0 := fun i => f 102 i 0 w.2.1
  have e2 : ∀ i, T' 106 i 4 = T 106 i 4 := fun i => f 106 i 4 w.2.2.1
  have e3 : ∀ i, T' 106 i 2 = T 106 i 2 := fun i => f 106 i 2 w.2.2.2.1
  simp only [KM_, e0, e1, e2, e3] at h ⊢
  exact h
def KC_ (T : Zt) : Prop := ∀ c : Int, 0 ≤ c → c < T 106 0 2 → T 100 c 7 + T 100 c 8 ≤ T 106 0 4
theorem KC__f {ws : List (Nat × List Int)} {T T' : Zt} (h : KC_ T) (f : fr_ ws T T') (w : fw_ ws 100 7 = false ∧ fw_ ws 100 8 = false ∧ fw_ ws 106 4 = false ∧ fw_ ws 106 2 = false ∧ True) : KC_ T' := by
  have e0 : ∀ i, T' 100 i 7 = T 100 i 7 := fun i => f 100 i 7 w.1
  have e1 : ∀ i, T' 100 i 8 = T 100 i 8 := fun i => f 100 i 8 w.2.1
  have e2 : ∀ i, T' 106 i 4 = T 106 i 4 := fun i => f 106 i 4 w.2.2.1
  have e3 : ∀ i, T' 106 i 2 = T 106 i 2 := fun i => f 106 i 2 w.2.2.2.1
  simp only [KC_, e0, e1, e2, e3] at h ⊢
  exact h
def KR_ (T : Zt) : Prop := ∀ c : Int, 0 ≤ c → c < T 106 0 2 → 1 ≤ T 401 c 9 ∧ T 401 c 9 ≤ 6
theorem KR__f {ws : List (Nat × List Int)} {T T' : Zt} (h : KR_ T) (f : fr_ ws T T') (w : (∀ j, fw_ ws 401 j = false) ∧ fw_ ws 106 2 = false ∧ True) : KR_ T' := by
  have e0 : ∀ i j, T' 401 i j = T 401 i j := fun i j => f 401 i j (w.1 j)
  have e1 : ∀ i, T' 106 i 2 = T 106 i 2 := fun i => f 106 i 2 w.2.1
  simp only [KR_, e0, e1] at h ⊢
  exact h
abbrev cX6_shareClub : ByteArray := prog_8_method_9_code
def yX6_shareClub : MethodName := ⟨RX6, "shareClub", "(LSportsHouse$Match;LSportsHouse$Match;)Z"⟩
def zX6_shareClub : Zm := (RX6, cX6_shareClub, 2, (some .boolean), { frames := 1, cells := 0, slots := 0, locals := 21 })
set_option maxRecDepth 100000 in
theorem cl_X6_88 : cv_ RX6 88 yX2_has zX2_has 2 1 := ⟨gi_V (lwq_4 (dqc_m (dqc_m (dqa_m (List.mem_of_getElem? (i := 1) rfl)))) rfl : Cond.methodLink RX6 88 yX2_has ∈ lw_g) (lwq_4 (dqc_m (dqc_m (dqa_m (List.mem_of_getElem? (i := 2) rfl)))) rfl : Cond.instanceMethod yX2_has ∈ lw_g) (lwq_4 (dqc_m (dqc_m (dqa_m (List.mem_of_getElem? (i := 3) rfl)))) rfl : Cond.selects yX2_has.cls yX2_has yX2_has ∈ lw_g) (lwq_1 (dqa_m (dqa_m (List.mem_of_getElem? (i := 0) rfl))) rfl : Cond.initialized yX2_has.cls ∈ lw_g) (lwq_4 (dqc_m (dqc_m (dqa_m (List.mem_of_getElem? (i := 4) rfl)))) rfl : Cond.code yX2_has cX2_has 2 (some .boolean) ∈ lw_g), ⟨nmh_10.1, nmh_10.2, pdq_7⟩, ⟨_, _, rfl⟩⟩
abbrev cX6_countBreaks : ByteArray := prog_8_method_5_code
def yX6_countBreaks : MethodName := ⟨RX6, "countBreaks", "(LSportsHouse$Competition;I)I"⟩
def zX6_countBreaks : Zm := (RX6, cX6_countBreaks, 9, (some .int), { frames := 1, cells := 0, slots := 0, locals := 21 })
abbrev cX6_listAhead : ByteArray := prog_8_method_16_code
def yX6_listAhead : MethodName := ⟨RX6, "listAhead", "(ILSportsHouse$Match;)I"⟩
def zX6_listAhead : Zm := (RX6, cX6_listAhead, 8, (some .int), { frames := 2, cells := 0, slots := 0, locals := 40 })
set_option maxRecDepth 100000 in
theorem cl_X6_195 : cv_ RX6 195 yX2_isDecided zX2_isDecided 2 0 := ⟨gi_V (lwq_4 (dqc_m (dqc_m (dqc_m (dqc_m (dqa_m (dqa_m (dqa_m (List.mem_of_getElem? (i := 2) rfl)))))))) rfl : Cond.methodLink RX6 195 yX2_isDecided ∈ lw_g) (lwq_4 (dqc_m (dqc_m (dqc_m (dqc_m (dqa_m (dqa_m (dqa_m (List.mem_of_getElem? (i := 3) rfl)))))))) rfl : Cond.instanceMethod yX2_isDecided ∈ lw_g) (lwq_4 (dqc_m (dqc_m (dqc_m (dqc_m (dqa_m (dqa_m (dqa_m (List.mem_of_getElem? (i := 4) rfl)))))))) rfl : Cond.selects yX2_isDecided.cls yX2_isDecided yX2_isDecided ∈ lw_g) (lwq_1 (dqa_m (dqa_m (List.mem_of_getElem? (i := 0) rfl))) rfl : Cond.initialized yX2_isDecided.cls ∈ lw_g) (lwq_4 (dqc_m (dqc_m (dqc_m (dqc_m (dqa_m (dqa_m (dqa_m (List.mem_of_getElem? (i := 5) rfl)))))))) rfl : Cond.code yX2_isDecided cX2_isDecided 1 (some .boolean) ∈ lw_g), ⟨nmh_10.1, nmh_10.2, pdq_18⟩, ⟨_, _, rfl⟩⟩
set_option maxRecDepth 100000 in
theorem cl_X6_165 : cv_ RX6 165 yX8_clubOn zX8_clubOn 8 2 := ⟨gi_V (lwq_4 (dqc_m (dqc_m (dqc_m (dqc_m (dqa_m (List.mem_of_getElem? (i := 6) rfl)))))) rfl : Cond.methodLink RX6 165 yX8_clubOn ∈ lw_g) (lwq_4 (dqc_m (dqc_m (dqc_m (dqc_m (dqa_m (List.mem_of_getElem? (i := 7) rfl)))))) rfl : Cond.instanceMethod yX8_clubOn ∈ lw_g) (lwq_4 (dqc_m (dqc_m (dqc_m (dqc_m (dqa_m (dqa_m (List.mem_of_getElem? (i := 0) rfl))))))) rfl : Cond.selects yX8_clubOn.cls yX8_clubOn yX8_clubOn ∈ lw_g) (lwq_1 (List.mem_of_getElem? (i := 3) rfl) rfl : Cond.initialized yX8_clubOn.cls ∈ lw_g) (lwq_4 (dqc_m (dqc_m (dqc_m (dqc_m (dqa_m (dqa_m (List.mem_of_getElem? (i := 1) rfl))))))) rfl : Cond.code yX8_clubOn cX8_clubOn 5 (some .int) ∈ lw_g), ⟨nmh_9.1, nmh_9.2, pdq_4⟩, ⟨_, _, rfl⟩⟩
abbrev cX6_isBanned : ByteArray := prog_8_method_15_code
def yX6_isBanned : MethodName := ⟨RX6, "isBanned", "(ILSportsHouse$Match;)Z"⟩
def zX6_isBanned : Zm := (RX6, cX6_isBanned, 11, (some .boolean), { frames := 3, cells := 0, slots := 0, locals := 67 })
set_option maxRecDepth 100000 in
theorem cl_X6_172 : cv_ RX6 172 yX2_placeOf zX2_placeOf 2 1 := ⟨gi_V (lwq_4 (dqc_m (dqc_m (dqc_m (dqc_m (dqa_m (dqa_m (dqa_m (List.mem_of_getElem? (i := 7) rfl)))))))) rfl : Cond.methodLink RX6 172 yX2_placeOf ∈ lw_g) (lwq_4 (dqc_m (dqc_m (dqc_m (dqc_m (dqc_m (List.mem_of_getElem? (i := 0) rfl)))))) rfl : Cond.instanceMethod yX2_placeOf ∈ lw_g) (lwq_4 (dqc_m (dqc_m (dqc_m (dqc_m (dqc_m (List.mem_of_getElem? (i := 1) rfl)))))) rfl : Cond.selects yX2_placeOf.cls yX2_placeOf yX2_placeOf ∈ lw_g) (lwq_1 (dqa_m (dqa_m (List.mem_of_getElem? (i := 0) rfl))) rfl : Cond.initialized yX2_placeOf.cls ∈ lw_g) (lwq_4 (dqc_m (dqc_m (dqc_m (dqc_m (dqc_m (List.mem_of_getElem? (i := 2) rfl)))))) rfl : Cond.code yX2_placeOf cX2_placeOf 4 (some .int) ∈ lw_g), ⟨nmh_10.1, nmh_10.2, pdq_15⟩, ⟨_, _, rfl⟩⟩
set_option maxRecDepth 100000 in
theorem cl_X6_187 : cv_ RX6 187 yX3_isSentOff zX3_isSentOff 3 1 := ⟨gi_V (lwq_4 (dqc_m (dqc_m (dqc_m (dqc_m (dqc_m (List.mem_of_getElem? (i := 3) rfl)))))) rfl : Cond.methodLink RX6 187 yX3_isSentOff ∈ lw_g) (lwq_4 (dqc_m (dqc_m (dqc_m (dqc_m (dqc_m (List.mem_of_getElem? (i := 4) rfl)))))) rfl : Cond.instanceMethod yX3_isSentOff ∈ lw_g) (lwq_4 (dqc_m (dqc_m (dqc_m (dqc_m (dqc_m (List.mem_of_getElem? (i := 5) rfl)))))) rfl : Cond.selects yX3_isSentOff.cls yX3_isSentOff yX3_isSentOff ∈ lw_g) (lwq_1 (dqa_m (dqa_m (List.mem_of_getElem? (i := 2) rfl))) rfl : Cond.initialized yX3_isSentOff.cls ∈ lw_g) (lwq_4 (dqc_m (dqc_m (dqc_m (dqc_m (dqc_m (List.mem_of_getElem? (i := 6) rfl)))))) rfl : Cond.code yX3_isSentOff cX3_isSentOff 2 (some .boolean) ∈ lw_g), ⟨nmh_3.1, nmh_3.2, pdq_7⟩, ⟨_, _, rfl⟩⟩
set_option maxRecDepth 100000 in
theorem cl_X6_175 : cv_ RX6 175 yX6_listAhead zX6_listAhead 6 2 := ⟨gi_V (lwq_4 (dqc_m (dqc_m (dqc_m (dqc_m (dqa_m (dqa_m (List.mem_of_getElem? (i := 6) rfl))))))) rfl : Cond.methodLink RX6 175 yX6_listAhead ∈ lw_g) (lwq_4 (dqc_m (dqc_m (dqc_m (dqc_m (dqa_m (dqa_m (dqa_m (List.mem_of_getElem? (i := 0) rfl)))))))) rfl : Cond.instanceMethod yX6_listAhead ∈ lw_g) (lw_sel 125 rfl : Cond.selects yX6_listAhead.cls yX6_listAhead yX6_listAhead ∈ lw_g) (lwq_1 (List.mem_of_getElem? (i := 4) rfl) rfl : Cond.initialized yX6_listAhead.cls ∈ lw_g) (lwq_4 (dqc_m (dqc_m (dqc_m (dqc_m (dqa_m (dqa_m (dqa_m (List.mem_of_getElem? (i := 1) rfl)))))))) rfl : Cond.code yX6_listAhead cX6_listAhead 8 (some .int) ∈ lw_g), ⟨nmh_6.1, nmh_6.2, pdq_21⟩, ⟨_, _, rfl⟩⟩
abbrev cX6_whyNot : ByteArray := prog_8_method_14_code
def yX6_whyNot : MethodName := ⟨RX6, "whyNot", "(ILSportsHouse$Match;I)I"⟩
def zX6_whyNot : Zm := (RX6, cX6_whyNot, 6, (some .int), { frames := 4, cells := 0, slots := 0, locals := 97 })
set_option maxRecDepth 100000 in
theorem cl_X6_168 : cv_ RX6 168 yX6_isBanned zX6_isBanned 6 2 := ⟨gi_V (lwq_4 (dqc_m (dqc_m (dqc_m (dqc_m (dqa_m (dqa_m (List.mem_of_getElem? (i := 2) rfl))))))) rfl : Cond.methodLink RX6 168 yX6_isBanned ∈ lw_g) (lwq_4 (dqc_m (dqc_m (dqc_m (dqc_m (dqa_m (dqa_m (List.mem_of_getElem? (i := 4) rfl))))))) rfl : Cond.instanceMethod yX6_isBanned ∈ lw_g) (lw_sel 123 rfl : Cond.selects yX6_isBanned.cls yX6_isBanned yX6_isBanned ∈ lw_g) (lwq_1 (List.mem_of_getElem? (i := 4) rfl) rfl : Cond.initialized yX6_isBanned.cls ∈ lw_g) (lwq_4 (dqc_m (dqc_m (dqc_m (dqc_m (dqa_m (dqa_m (List.mem_of_getElem? (i := 5) rfl))))))) rfl : Cond.code yX6_isBanned cX6_isBanned 11 (some .boolean) ∈ lw_g), ⟨nmh_6.1, nmh_6.2, pdq_22⟩, ⟨_, _, rfl⟩⟩
abbrev cX10_eligible : ByteArray := prog_1_method_19_code
def yX10_eligible : MethodName := ⟨RX10, "eligible", "(III)I"⟩
def zX10_eligible : Zm := (RX10, cX10_eligible, 4, (some .int), { frames := 5, cells := 0, slots := 0, locals := 122 })
set_option maxRecDepth 100000 in
theorem cl_X10_251 : cs_ RX10 251 yX10_isSide zX10_isSide 1 := ⟨gi_S (lwq_4 (dqc_m (dqc_m (dqc_m (dqc_m (List.mem_of_getElem? (i := 7) rfl))))) rfl : Cond.methodLink RX10 251 yX10_isSide ∈ lw_g) (lwq_4 (dqc_m (dqc_m (dqc_m (dqc_m (dqa_m (List.mem_of_getElem? (i := 0) rfl)))))) rfl : Cond.static yX10_isSide ∈ lw_g) (lwq_1 (List.mem_of_getElem? (i := 1) rfl) rfl : Cond.initialized yX10_isSide.cls ∈ lw_g) (lwq_4 (dqc_m (dqc_m (dqc_m (dqc_m (dqa_m (List.mem_of_getElem? (i := 1) rfl)))))) rfl : Cond.code yX10_isSide cX10_isSide 1 (some .boolean) ∈ lw_g), ⟨by decide, by decide, by decide +kernel⟩⟩
set_option maxRecDepth 100000 in
theorem cl_X10_254 : cv_ RX10 254 yX6_whyNot zX6_whyNot 6 3 := ⟨gi_V (lwq_4 (dqc_m (dqc_m (dqc_m (dqc_m (dqa_m (List.mem_of_getElem? (i := 2) rfl)))))) rfl : Cond.methodLink RX10 254 yX6_whyNot ∈ lw_g) (lwq_4 (dqc_m (dqc_m (dqc_m (dqc_m (dqa_m (List.mem_of_getElem? (i := 3) rfl)))))) rfl : Cond.instanceMethod yX6_whyNot ∈ lw_g) (lwq_4 (dqc_m (dqc_m (dqc_m (dqc_m (dqa_m (List.mem_of_getElem? (i := 4) rfl)))))) rfl : Cond.selects yX6_whyNot.cls yX6_whyNot yX6_whyNot ∈ lw_g) (lwq_1 (List.mem_of_getElem? (i := 4) rfl) rfl : Cond.initialized yX6_whyNot.cls ∈ lw_g) (lwq_4 (dqc_m (dqc_m (dqc_m (dqc_m (dqa_m (List.mem_of_getElem? (i := 5) rfl)))))) rfl : Cond.code yX6_whyNot cX6_whyNot 6 (some .int) ∈ lw_g), ⟨nmh_6.1, nmh_6.2, pdq_23⟩, ⟨_, _, rfl⟩⟩
abbrev po_X10_eligible (T : Zt) (q m d : Int) : Zt → Option Zv → Prop := fun T' r => ∃ x : Int, r = some (vI x) ∧ fr_ [(533, [])] T T' ∧ (x = x)
abbrev cX10_match : ByteArray := prog_1_method_14_code
def yX10_match : MethodName := ⟨RX10, "match", "(II)I"⟩
def zX10_match : Zm := (RX10, cX10_match, 4, (some .int), { frames := 2, cells := 0, slots := 0, locals := 42 })
theorem ds_X10_match_22 : decode cX10_match 22 = .ok (.tableswitch 91 0 7 #[46, 54, 59, 64, 69, 74, 79, 85], 46) := by decide +kernel
set_option maxRecDepth 100000 in
theorem cl_X10_223 : cv_ RX10 223 yX2_phaseOfLife zX2_phaseOfLife 2 0 := ⟨gi_V (lwq_4 (dqc_m (dqa_m (dqa_m (dqa_m (List.mem_of_getElem? (i := 1) rfl))))) rfl : Cond.methodLink RX10 223 yX2_phaseOfLife ∈ lw_g) (lwq_4 (dqc_m (dqa_m (dqa_m (dqa_m (List.mem_of_getElem? (i := 2) rfl))))) rfl : Cond.instanceMethod yX2_phaseOfLife ∈ lw_g) (lwq_4 (dqc_m (dqa_m (dqa_m (dqa_m (List.mem_of_getElem? (i := 3) rfl))))) rfl : Cond.selects yX2_phaseOfLife.cls yX2_phaseOfLife yX2_phaseOfLife ∈ lw_g) (lwq_1 (dqa_m (dqa_m (List.mem_of_getElem? (i := 0) rfl))) rfl : Cond.initialized yX2_phaseOfLife.cls ∈ lw_g) (lwq_4 (dqc_m (dqa_m (dqa_m (dqa_m (List.mem_of_getElem? (i := 4) rfl))))) rfl : Cond.code yX2_phaseOfLife cX2_phaseOfLife 1 (some .int) ∈ lw_g), ⟨nmh_10.1, nmh_10.2, pdq_17⟩, ⟨_, _, rfl⟩⟩
set_option maxRecDepth 100000 in
theorem cl_X10_226 : cv_ RX10 226 yX2_scoreOf zX2_scoreOf 2 1 := ⟨gi_V (lwq_4 (dqc_m (dqa_m (dqa_m (dqa_m (List.mem_of_getElem? (i := 5) rfl))))) rfl : Cond.methodLink RX10 226 yX2_scoreOf ∈ lw_g) (lwq_4 (dqc_m (dqa_m (dqa_m (dqa_m (List.mem_of_getElem? (i := 6) rfl))))) rfl : Cond.instanceMethod yX2_scoreOf ∈ lw_g) (lwq_4 (dqc_m (dqa_m (dqa_m (dqa_m (List.mem_of_getElem? (i := 7) rfl))))) rfl : Cond.selects yX2_scoreOf.cls yX2_scoreOf yX2_scoreOf ∈ lw_g) (lwq_1 (dqa_m (dqa_m (List.mem_of_getElem? (i := 0) rfl))) rfl : Cond.initialized yX2_scoreOf.cls ∈ lw_g) (lwq_4 (dqc_m (dqc_m (List.mem_of_getElem? (i := 0) rfl))) rfl : Cond.code yX2_scoreOf cX2_scoreOf 2 (some .int) ∈ lw_g), ⟨nmh_10.1, nmh_10.2, pdq_15⟩, ⟨_, _, rfl⟩⟩
abbrev cX10_walkOver : ByteArray := prog_1_method_22_code
def yX10_walkOver : MethodName := ⟨RX10, "walkOver", "(II)I"⟩
def zX10_walkOver : Zm := (RX10, cX10_walkOver, 4, (some .int), { frames := 2, cells := 0, slots := 0, locals := 42 })
abbrev cX10_rows : ByteArray := prog_1_method_25_code
def yX10_rows : MethodName := ⟨RX10, "rows", "(II)I"⟩
def zX10_rows : Zm := (RX10, cX10_rows, 4, (some .int), { frames := 2, cells := 0, slots := 0, locals := 42 })
abbrev cX10_state : ByteArray := prog_1_method_27_code
def yX10_state : MethodName := ⟨RX10, "state", "(II)I"⟩
def zX10_state : Zm := (RX10, cX10_state, 4, (some .int), { frames := 2, cells := 0, slots := 0, locals := 42 })
theorem ds_X10_state_45 : decode cX10_state 45 = .ok (.tableswitch 67 0 5 #[39, 44, 44, 53, 53, 62], 39) := by decide +kernel
abbrev cX10_onField : ByteArray := prog_1_method_28_code
def yX10_onField : MethodName := ⟨RX10, "onField", "(III)I"⟩
def zX10_onField : Zm := (RX10, cX10_onField, 5, (some .int), { frames := 2, cells := 0, slots := 0, locals := 42 })
set_option maxRecDepth 100000 in
theorem cl_X10_346 : cv_ RX10 346 yX3_personAt zX3_personAt 3 2 := ⟨gi_V (lwq_5 (dqc_m (dqc_m (dqc_m (dqc_m (dqc_m (dqc_m (List.mem_of_getElem? (i := 3) rfl))))))) rfl : Cond.methodLink RX10 346 yX3_personAt ∈ lw_g) (lwq_5 (dqc_m (dqa_m (dqa_m (List.mem_of_getElem? (i := 1) rfl)))) rfl : Cond.instanceMethod yX3_personAt ∈ lw_g) (lwq_5 (dqc_m (dqa_m (dqa_m (List.mem_of_getElem? (i := 2) rfl)))) rfl : Cond.selects yX3_personAt.cls yX3_personAt yX3_personAt ∈ lw_g) (lwq_1 (dqa_m (dqa_m (List.mem_of_getElem? (i := 2) rfl))) rfl : Cond.initialized yX3_personAt.cls ∈ lw_g) (lwq_5 (dqc_m (dqa_m (dqa_m (List.mem_of_getElem? (i := 3) rfl)))) rfl : Cond.code yX3_personAt cX3_personAt 3 (some .int) ∈ lw_g), ⟨nmh_3.1, nmh_3.2, pdq_4⟩, ⟨_, _, rfl⟩⟩
abbrev cX10_breaks : ByteArray := prog_1_method_15_code
def yX10_breaks : MethodName := ⟨RX10, "breaks", "(II)I"⟩
def zX10_breaks : Zm := (RX10, cX10_breaks, 4, (some .int), { frames := 2, cells := 0, slots := 0, locals := 49 })
set_option maxRecDepth 100000 in
theorem cl_X10_230 : cv_ RX10 230 yX6_countBreaks zX6_countBreaks 6 2 := ⟨gi_V (lwq_4 (dqc_m (dqc_m (List.mem_of_getElem? (i := 5) rfl))) rfl : Cond.methodLink RX10 230 yX6_countBreaks ∈ lw_g) (lwq_4 (dqc_m (dqc_m (List.mem_of_getElem? (i := 6) rfl))) rfl : Cond.instanceMethod yX6_countBreaks ∈ lw_g) (lwq_4 (dqc_m (dqc_m (List.mem_of_getElem? (i := 7) rfl))) rfl : Cond.selects yX6_countBreaks.cls yX6_countBreaks yX6_countBreaks ∈ lw_g) (lwq_1 (List.mem_of_getElem? (i := 4) rfl) rfl : Cond.initialized yX6_countBreaks.cls ∈ lw_g) (lwq_4 (dqc_m (dqc_m (dqa_m (List.mem_of_getElem? (i := 0) rfl)))) rfl : Cond.code yX6_countBreaks cX6_countBreaks 9 (some .int) ∈ lw_g), ⟨nmh_6.1, nmh_6.2, pdq_24⟩, ⟨_, _, rfl⟩⟩
abbrev cX6_standAgainst : ByteArray := prog_8_method_8_code
def yX6_standAgainst : MethodName := ⟨RX6, "standAgainst", "(LSportsHouse$Match;LSportsHouse$Match;)Z"⟩
def zX6_standAgainst : Zm := (RX6, cX6_standAgainst, 4, (some .boolean), { frames := 2, cells := 0, slots := 0, locals := 42 })
set_option maxRecDepth 100000 in
theorem cl_X6_133 : cv_ RX6 133 yX2_rest zX2_rest 2 0 := ⟨gi_V (lwq_4 (dqc_m (dqc_m (dqc_m (List.mem_of_getElem? (i := 0) rfl)))) rfl : Cond.methodLink RX6 133 yX2_rest ∈ lw_g) (lwq_4 (dqc_m (dqc_m (dqc_m (List.mem_of_getElem? (i := 1) rfl)))) rfl : Cond.instanceMethod yX2_rest ∈ lw_g) (lwq_4 (dqc_m (dqc_m (dqc_m (List.mem_of_getElem? (i := 2) rfl)))) rfl : Cond.selects yX2_rest.cls yX2_rest yX2_rest ∈ lw_g) (lwq_1 (dqa_m (dqa_m (List.mem_of_getElem? (i := 0) rfl))) rfl : Cond.initialized yX2_rest.cls ∈ lw_g) (lwq_4 (dqc_m (dqc_m (dqc_m (List.mem_of_getElem? (i := 3) rfl)))) rfl : Cond.code yX2_rest cX2_rest 1 (some .int) ∈ lw_g), ⟨nmh_10.1, nmh_10.2, pdq_17⟩, ⟨_, _, rfl⟩⟩
set_option maxRecDepth 100000 in
theorem cl_X6_140 : cs_ RX6 140 yX6_shareClub zX6_shareClub 2 := ⟨gi_S (lwq_4 (dqc_m (dqc_m (dqc_m (List.mem_of_getElem? (i := 7) rfl)))) rfl : Cond.methodLink RX6 140 yX6_shareClub ∈ lw_g) (lwq_4 (dqc_m (dqc_m (dqc_m (dqa_m (List.mem_of_getElem? (i := 0) rfl))))) rfl : Cond.static yX6_shareClub ∈ lw_g) (lwq_1 (List.mem_of_getElem? (i := 4) rfl) rfl : Cond.initialized yX6_shareClub.cls ∈ lw_g) (lwq_4 (dqc_m (dqc_m (dqc_m (dqa_m (List.mem_of_getElem? (i := 1) rfl))))) rfl : Cond.code yX6_shareClub cX6_shareClub 2 (some .boolean) ∈ lw_g), ⟨by decide, by decide, by decide +kernel⟩⟩
abbrev cX6_listAgainst : ByteArray := prog_8_method_7_code
def yX6_listAgainst : MethodName := ⟨RX6, "listAgainst", "(LSportsHouse$Match;)I"⟩
def zX6_listAgainst : Zm := (RX6, cX6_listAgainst, 5, (some .int), { frames := 3, cells := 0, slots := 0, locals := 65 })
set_option maxRecDepth 100000 in
theorem cl_X6_112 : cv_ RX6 112 yX6_standAgainst zX6_standAgainst 6 2 := ⟨gi_V (lwq_4 (dqc_m (dqc_m (dqa_m (dqa_m (dqa_m (List.mem_of_getElem? (i := 1) rfl)))))) rfl : Cond.methodLink RX6 112 yX6_standAgainst ∈ lw_g) (lwq_4 (dqc_m (dqc_m (dqa_m (dqa_m (dqa_m (List.mem_of_getElem? (i := 3) rfl)))))) rfl : Cond.instanceMethod yX6_standAgainst ∈ lw_g) (lw_sel 126 rfl : Cond.selects yX6_standAgainst.cls yX6_standAgainst yX6_standAgainst ∈ lw_g) (lwq_1 (List.mem_of_getElem? (i := 4) rfl) rfl : Cond.initialized yX6_standAgainst.cls ∈ lw_g) (lwq_4 (dqc_m (dqc_m (dqa_m (dqa_m (dqa_m (List.mem_of_getElem? (i := 4) rfl)))))) rfl : Cond.code yX6_standAgainst cX6_standAgainst 4 (some .boolean) ∈ lw_g), ⟨nmh_6.1, nmh_6.2, pdq_25⟩, ⟨_, _, rfl⟩⟩
set_option maxRecDepth 100000 in
theorem cl_X6_116 : cv_ RX6 116 yX2_phaseOfLife zX2_phaseOfLife 2 0 := ⟨gi_V (lwq_4 (dqc_m (dqc_m (dqc_m (dqa_m (List.mem_of_getElem? (i := 2) rfl))))) rfl : Cond.methodLink RX6 116 yX2_phaseOfLife ∈ lw_g) (lwq_4 (dqc_m (dqa_m (dqa_m (dqa_m (List.mem_of_getElem? (i := 2) rfl))))) rfl : Cond.instanceMethod yX2_phaseOfLife ∈ lw_g) (lwq_4 (dqc_m (dqa_m (dqa_m (dqa_m (List.mem_of_getElem? (i := 3) rfl))))) rfl : Cond.selects yX2_phaseOfLife.cls yX2_phaseOfLife yX2_phaseOfLife ∈ lw_g) (lwq_1 (dqa_m (dqa_m (List.mem_of_getElem? (i := 0) rfl))) rfl : Cond.initialized yX2_phaseOfLife.cls ∈ lw_g) (lwq_4 (dqc_m (dqa_m (dqa_m (dqa_m (List.mem_of_getElem? (i := 4) rfl))))) rfl : Cond.code yX2_phaseOfLife cX2_phaseOfLife 1 (some .int) ∈ lw_g), ⟨nmh_10.1, nmh_10.2, pdq_17⟩, ⟨_, _, rfl⟩⟩
abbrev po_J7_fill_535 (T : Zt) (p : Int) (v : Int) : Zt → Option Zv → Prop := fun T' r => r = none ∧ fr_ [(535, [])] T T' ∧ oi_ T T' p ∧ ∀ j, 0 ≤ j → j < 1000 → T' 535 p j = v
set_option maxHeartbeats 4000000 in
theorem ct_J7_fill_535 {T : Zt} {p : Int} {v : Int} (h1 : 0 ≤ v ∧ v ≤ 1) : Ct_ yJ7_fill_53178 zJ7_fill_53178 T [vR 535 p, vI v] (po_J7_fill_535 T p v) := by
  refine ct_of (by decide) rfl rfl (Nat.le_of_ble_eq_true rfl) (fun hT hav => ?_)
  have hr_v : -2147483648 ≤ v ∧ v ≤ 2147483647 := hav (vI v) (List.mem_cons_of_mem _ List.mem_cons_self)
  have hz : zJ7_fill_53178.2.2.2.1 = some .boolean → ∀ (T' : Zt) (x : Int), po_J7_fill_535 T p v T' (some (vI x)) → 0 ≤ x ∧ x ≤ 1 := fun h => by cases h
  show J_ zJ7_fill_53178 T (po_J7_fill_535 T p v) 0 0 0 [some (vR 535 p), some (vI v), none, none] [] T
  have c_5 : ∀ (nn : Nat) (j : Int) (T1 : Zt), ((1000 - j).toNat) ≤ nn → (fr_ [(535, [])] T T1) → (0 ≤ j ∧ j ≤ 1000) → (oi_ T T1 p) → (∀ q, 0 ≤ q → q < j → T1 535 p q = v) → J_ zJ7_fill_53178 T (po_J7_fill_535 T p v) 0 0 5 [some (vR 535 p), some (vI v), some (vI j), some (vI 1000)] [] T1 := by
    intro nn
    induction nn using Nat.strongRecOn with
    | _ nn ih_5 =>
      intro j T1 hm_5 hf_5 i1 o1 f1
      replace hm_5 := fun (_ : Unit) => hm_5
      refine j_blx (F := fJ7) tb_J7 (nn_ _) bk_J7_fill_53178_5 bs_J7_fill_53178_5 hz (fun K hK => ?_)
      refine And.intro (fun c1 => ?_) (fun c1 => ?_)
      · refine hK 20 _ [] T1 ?_
        refine j_blx (F := fJ7) tb_J7 (nn_ _) bk_J7_fill_53178_20 bs_J7_fill_53178_20 hz (fun K hK => ?_)
        refine (show po_J7_fill_535 T p v T1 (none) from ?_)
        exact ⟨rfl, fr_t (fr_0 _ _) (fr_s hf_5 rfl), o1, fun q a b => f1 q a (by omega)⟩
      · refine iy_i (by omega) (by omega) ?_
        refine x_nm (fun U2 hU2 => ?_)
        have e3 := up_f hU2
        refine rg_i (by omega) ?_
        refine hK 5 [some (vR 535 p), some (vI v), some (vI (j + 1)), some (vI 1000)] [] U2 ?_
        refine ih_5 _ ?_ (j + 1) U2 (Nat.le_refl _) ?_ ?_ ?_ ?_
        · have hm_5 := hm_5 (); omega
        · exact fr_u (fr_t (fr_0 _ _) (fr_s hf_5 rfl)) hU2 rfl
        · omega
        · exact oi_u o1 hU2
        · intro q a b
          by_cases z : q = j
          · rw [z]; exact up_f hU2
          · rw [up_g hU2 (fun y => z y.2.2)]; exact f1 q a (by omega)
  refine j_blx (F := fJ7) tb_J7 (nn_ _) bk_J7_fill_53178_0 bs_J7_fill_53178_0 hz (fun K hK => ?_)
  refine hK 5 [some (vR 535 p), some (vI v), some (vI 0), some (vI 1000)] [] T ?_
  refine c_5 _ 0 T (Nat.le_refl _) ?_ ?_ ?_ ?_
  · exact fr_0 _ _
  · omega
  · exact oi_r
  · intro q a b; omega
abbrev cX6_blockDays : ByteArray := prog_8_method_11_code
def yX6_blockDays : MethodName := ⟨RX6, "blockDays", "(LSportsHouse$Match;)V"⟩
def zX6_blockDays : Zm := (RX6, cX6_blockDays, 7, none, { frames := 2, cells := 0, slots := 0, locals := 42 })
set_option maxRecDepth 100000 in
theorem cl_X6_150 : cs_ RX6 150 yJ7_fill_53178 zJ7_fill_53178 2 := ⟨gi_S (lwq_4 (dqc_m (dqc_m (dqc_m (dqa_m (dqa_m (List.mem_of_getElem? (i := 3) rfl)))))) rfl : Cond.methodLink RX6 150 yJ7_fill_53178 ∈ lw_g) (lwq_2 (dqa_m (dqa_m (dqa_m (List.mem_of_getElem? (i := 2) rfl)))) rfl : Cond.static yJ7_fill_53178 ∈ lw_g) (lwq_1 (List.mem_of_getElem? (i := 7) rfl) rfl : Cond.initialized yJ7_fill_53178.cls ∈ lw_g) (lwq_2 (dqa_m (dqa_m (dqa_m (List.mem_of_getElem? (i := 3) rfl)))) rfl : Cond.code yJ7_fill_53178 cJ7_fill_53178 4 none ∈ lw_g), ⟨by decide, by decide, by decide +kernel⟩⟩
abbrev cX6_goBehind : ByteArray := prog_8_method_10_code
def yX6_goBehind : MethodName := ⟨RX6, "goBehind", "(LSportsHouse$Match;II)Z"⟩
def zX6_goBehind : Zm := (RX6, cX6_goBehind, 5, (some .boolean), { frames := 3, cells := 0, slots := 0, locals := 68 })
set_option maxRecDepth 100000 in
theorem cl_X6_146 : cv_ RX6 146 yX6_blockDays zX6_blockDays 6 1 := ⟨gi_V (lwq_4 (dqc_m (dqc_m (dqc_m (dqa_m (List.mem_of_getElem? (i := 7) rfl))))) rfl : Cond.methodLink RX6 146 yX6_blockDays ∈ lw_g) (lwq_4 (dqc_m (dqc_m (dqc_m (dqa_m (dqa_m (List.mem_of_getElem? (i := 1) rfl)))))) rfl : Cond.instanceMethod yX6_blockDays ∈ lw_g) (lw_sel 121 rfl : Cond.selects yX6_blockDays.cls yX6_blockDays yX6_blockDays ∈ lw_g) (lwq_1 (List.mem_of_getElem? (i := 4) rfl) rfl : Cond.initialized yX6_blockDays.cls ∈ lw_g) (lwq_4 (dqc_m (dqc_m (dqc_m (dqa_m (dqa_m (List.mem_of_getElem? (i := 2) rfl)))))) rfl : Cond.code yX6_blockDays cX6_blockDays 7 none ∈ lw_g), ⟨nmh_6.1, nmh_6.2, pdq_26⟩, ⟨_, _, rfl⟩⟩
abbrev cX6_putOff : ByteArray := prog_8_method_6_code
def yX6_putOff : MethodName := ⟨RX6, "putOff", "(LSportsHouse$Match;I)I"⟩
def zX6_putOff : Zm := (RX6, cX6_putOff, 7, (some .int), { frames := 4, cells := 0, slots := 0, locals := 92 })
set_option maxRecDepth 100000 in
theorem cl_X6_102 : cv_ RX6 102 yX6_goBehind zX6_goBehind 6 3 := ⟨gi_V (lwq_4 (dqc_m (dqc_m (dqc_m (dqa_m (List.mem_of_getElem? (i := 3) rfl))))) rfl : Cond.methodLink RX6 102 yX6_goBehind ∈ lw_g) (lwq_4 (dqc_m (dqc_m (dqc_m (dqa_m (List.mem_of_getElem? (i := 5) rfl))))) rfl : Cond.instanceMethod yX6_goBehind ∈ lw_g) (lw_sel 122 rfl : Cond.selects yX6_goBehind.cls yX6_goBehind yX6_goBehind ∈ lw_g) (lwq_1 (List.mem_of_getElem? (i := 4) rfl) rfl : Cond.initialized yX6_goBehind.cls ∈ lw_g) (lwq_4 (dqc_m (dqc_m (dqc_m (dqa_m (List.mem_of_getElem? (i := 6) rfl))))) rfl : Cond.code yX6_goBehind cX6_goBehind 5 (some .boolean) ∈ lw_g), ⟨nmh_6.1, nmh_6.2, pdq_27⟩, ⟨_, _, rfl⟩⟩
set_option maxRecDepth 100000 in
theorem cl_X6_98 : cv_ RX6 98 yX6_listAgainst zX6_listAgainst 6 1 := ⟨gi_V (lwq_4 (dqc_m (dqc_m (dqa_m (dqa_m (List.mem_of_getElem? (i := 5) rfl))))) rfl : Cond.methodLink RX6 98 yX6_listAgainst ∈ lw_g) (lwq_4 (dqc_m (dqc_m (dqa_m (dqa_m (List.mem_of_getElem? (i := 7) rfl))))) rfl : Cond.instanceMethod yX6_listAgainst ∈ lw_g) (lw_sel 124 rfl : Cond.selects yX6_listAgainst.cls yX6_listAgainst yX6_listAgainst ∈ lw_g) (lwq_1 (List.mem_of_getElem? (i := 4) rfl) rfl : Cond.initialized yX6_listAgainst.cls ∈ lw_g) (lwq_4 (dqc_m (dqc_m (dqa_m (dqa_m (dqa_m (List.mem_of_getElem? (i := 0) rfl)))))) rfl : Cond.code yX6_listAgainst cX6_listAgainst 5 (some .int) ∈ lw_g), ⟨nmh_6.1, nmh_6.2, pdq_28⟩, ⟨_, _, rfl⟩⟩
abbrev cX10_postpone : ByteArray := prog_1_method_16_code
def yX10_postpone : MethodName := ⟨RX10, "postpone", "(II)I"⟩
def zX10_postpone : Zm := (RX10, cX10_postpone, 4, (some .int), { frames := 5, cells := 0, slots := 0, locals := 118 })
set_option maxRecDepth 100000 in
theorem cl_X10_234 : cv_ RX10 234 yX6_putOff zX6_putOff 6 2 := ⟨gi_V (lwq_4 (dqc_m (dqc_m (dqa_m (dqa_m (List.mem_of_getElem? (i := 1) rfl))))) rfl : Cond.methodLink RX10 234 yX6_putOff ∈ lw_g) (lwq_4 (dqc_m (dqc_m (dqa_m (dqa_m (List.mem_of_getElem? (i := 2) rfl))))) rfl : Cond.instanceMethod yX6_putOff ∈ lw_g) (lwq_4 (dqc_m (dqc_m (dqa_m (dqa_m (List.mem_of_getElem? (i := 3) rfl))))) rfl : Cond.selects yX6_putOff.cls yX6_putOff yX6_putOff ∈ lw_g) (lwq_1 (List.mem_of_getElem? (i := 4) rfl) rfl : Cond.initialized yX6_putOff.cls ∈ lw_g) (lwq_4 (dqc_m (dqc_m (dqa_m (dqa_m (List.mem_of_getElem? (i := 4) rfl))))) rfl : Cond.code yX6_putOff cX6_putOff 7 (some .int) ∈ lw_g), ⟨nmh_6.1, nmh_6.2, pdq_29⟩, ⟨_, _, rfl⟩⟩
theorem us_1c {x : Int} : us_ x 1 = x % 4294967296 / 2 := by
  have a : ((Int32.ofInt x).toUInt32.toBitVec).toNat = (x % 4294967296).toNat := by
    show (BitVec.ofInt 32 x).toNat = _
    rw [BitVec.toNat_ofInt]; rfl
  have s : ((Int32.ofInt 1).toUInt32 &&& Int32.toUInt32 31) = 1 := by decide
  unfold us_
  rw [s]
  have b : (((Int32.ofInt x).toUInt32 >>> (1 : UInt32)).toBitVec).toNat = (x % 4294967296).toNat / 2 := by
    show ((Int32.ofInt x).toUInt32.toBitVec >>> (1 : BitVec 32)).toNat = _
    rw [BitVec.ushiftRight_eq', BitVec.toNat_ushiftRight, a]
    show (x % 4294967296).toNat >>> 1 = _
    rw [Nat.shiftRight_eq_div_pow]
  show (((Int32.ofInt x).toUInt32 >>> (1 : UInt32)).toBitVec).toInt = _
  rw [BitVec.toInt_eq_toNat_cond, b]
  split <;> omega
abbrev cX1_openNew : ByteArray := prog_3_method_2_code
def yX1_openNew : MethodName := ⟨RX1, "openNew", "(II)V"⟩
def zX1_openNew : Zm := (RX1, cX1_openNew, 3, none, { frames := 1, cells := 0, slots := 0, locals := 23 })
set_option maxRecDepth 100000 in
theorem cl_X1_54 : cs_ RX1 54 yJ7_fill_53178 zJ7_fill_53178 2 := ⟨gi_S (lwq_6 (dqc_m (dqc_m (dqc_m (dqc_m (List.mem_of_getElem? (i := 1) rfl))))) rfl : Cond.methodLink RX1 54 yJ7_fill_53178 ∈ lw_g) (lwq_2 (dqa_m (dqa_m (dqa_m (List.mem_of_getElem? (i := 2) rfl)))) rfl : Cond.static yJ7_fill_53178 ∈ lw_g) (lwq_1 (List.mem_of_getElem? (i := 7) rfl) rfl : Cond.initialized yJ7_fill_53178.cls ∈ lw_g) (lwq_2 (dqa_m (dqa_m (dqa_m (List.mem_of_getElem? (i := 3) rfl)))) rfl : Cond.code yJ7_fill_53178 cJ7_fill_53178 4 none ∈ lw_g), ⟨by decide, by decide, by decide +kernel⟩⟩
abbrev cX10_drawing : ByteArray := prog_1_method_36_code
def yX10_drawing : MethodName := ⟨RX10, "drawing", "(II)I"⟩
def zX10_drawing : Zm := (RX10, cX10_drawing, 3, (some .int), { frames := 2, cells := 0, slots := 0, locals := 45 })
set_option maxRecDepth 100000 in
theorem cl_X10_380 : cv_ RX10 380 yX1_openNew zX1_openNew 1 2 := ⟨gi_V (lwq_6 (dqc_m (dqc_m (dqc_m (dqa_m (dqa_m (dqa_m (List.mem_of_getElem? (i := 5) rfl))))))) rfl : Cond.methodLink RX10 380 yX1_openNew ∈ lw_g) (lwq_6 (dqc_m (dqc_m (dqc_m (dqa_m (dqa_m (dqa_m (List.mem_of_getElem? (i := 6) rfl))))))) rfl : Cond.instanceMethod yX1_openNew ∈ lw_g) (lwq_6 (dqc_m (dqc_m (dqc_m (dqa_m (dqa_m (dqa_m (List.mem_of_getElem? (i := 7) rfl))))))) rfl : Cond.selects yX1_openNew.cls yX1_openNew yX1_openNew ∈ lw_g) (lwq_1 (dqa_m (List.mem_of_getElem? (i := 0) rfl)) rfl : Cond.initialized yX1_openNew.cls ∈ lw_g) (lwq_6 (dqc_m (dqc_m (dqc_m (dqc_m (List.mem_of_getElem? (i := 0) rfl))))) rfl : Cond.code yX1_openNew cX1_openNew 3 none ∈ lw_g), ⟨nmh_2.1, nmh_2.2, pdq_0⟩, ⟨_, _, rfl⟩⟩
abbrev po_X10_drawing (T : Zt) (g l : Int) : Zt → Option Zv → Prop := fun T' r => ∃ x : Int, r = some (vI x) ∧ fr_ [(101, [1, 2, 3, 4, 7]), (428, []), (429, []), (430, [])] T T' ∧ ((x = -3 ∧ ¬ (1 ≤ g ∧ g ≤ 4 ∧ 1 ≤ l ∧ l ≤ 3)) ∨ (x = 1 ∧ 1 ≤ g ∧ g ≤ 4 ∧ 1 ≤ l ∧ l ≤ 3))
abbrev cX1_putIn : ByteArray := prog_3_method_3_code
def yX1_putIn : MethodName := ⟨RX1, "putIn", "(II)V"⟩
def zX1_putIn : Zm := (RX1, cX1_putIn, 3, none, { frames := 0, cells := 0, slots := 0, locals := 0 })
abbrev cX10_pot : ByteArray := prog_1_method_37_code
def yX10_pot : MethodName := ⟨RX10, "pot", "(II)I"⟩
def zX10_pot : Zm := (RX10, cX10_pot, 3, (some .int), { frames := 2, cells := 0, slots := 0, locals := 42 })
set_option maxRecDepth 100000 in
theorem cl_X10_396 : cv_ RX10 396 yX1_putIn zX1_putIn 1 2 := ⟨gi_V (lwq_6 (dqc_m (dqc_m (dqc_m (dqc_m (List.mem_of_getElem? (i := 6) rfl))))) rfl : Cond.methodLink RX10 396 yX1_putIn ∈ lw_g) (lwq_6 (dqc_m (dqc_m (dqc_m (dqc_m (List.mem_of_getElem? (i := 7) rfl))))) rfl : Cond.instanceMethod yX1_putIn ∈ lw_g) (lwq_6 (dqc_m (dqc_m (dqc_m (dqc_m (dqa_m (List.mem_of_getElem? (i := 0) rfl)))))) rfl : Cond.selects yX1_putIn.cls yX1_putIn yX1_putIn ∈ lw_g) (lwq_1 (dqa_m (List.mem_of_getElem? (i := 0) rfl)) rfl : Cond.initialized yX1_putIn.cls ∈ lw_g) (lwq_6 (dqc_m (dqc_m (dqc_m (dqc_m (dqa_m (List.mem_of_getElem? (i := 1) rfl)))))) rfl : Cond.code yX1_putIn cX1_putIn 3 none ∈ lw_g), ⟨nmh_2.1, nmh_2.2, pdq_0⟩, ⟨_, _, rfl⟩⟩
abbrev po_X10_pot (T : Zt) (c k : Int) : Zt → Option Zv → Prop := fun T' r => ∃ x : Int, r = some (vI x) ∧ fr_ [(428, []), (430, []), (101, [3, 7])] T T' ∧ (x = x)
abbrev cX1_waysWith : ByteArray := prog_3_method_6_code
def yX1_waysWith : MethodName := ⟨RX1, "waysWith", "(II)I"⟩
def zX1_waysWith : Zm := (RX1, cX1_waysWith, 3, (some .int), { frames := 0, cells := 0, slots := 0, locals := 0 })
abbrev cX1_takeBelow : ByteArray := prog_3_method_9_code
def yX1_takeBelow : MethodName := ⟨RX1, "takeBelow", "(I)I"⟩
def zX1_takeBelow : Zm := (RX1, cX1_takeBelow, 8, (some .int), { frames := 0, cells := 0, slots := 0, locals := 0 })
abbrev cX1_takeClub : ByteArray := prog_3_method_7_code
def yX1_takeClub : MethodName := ⟨RX1, "takeClub", "()I"⟩
def zX1_takeClub : Zm := (RX1, cX1_takeClub, 4, (some .int), { frames := 1, cells := 0, slots := 0, locals := 27 })
set_option maxRecDepth 100000 in
theorem cl_X1_75 : cv_ RX1 75 yX1_takeBelow zX1_takeBelow 1 1 := ⟨gi_V (lwq_6 (dqc_m (dqc_m (dqc_m (dqc_m (dqc_m (List.mem_of_getElem? (i := 6) rfl)))))) rfl : Cond.methodLink RX1 75 yX1_takeBelow ∈ lw_g) (lwq_6 (dqc_m (dqc_m (dqc_m (dqc_m (dqc_m (dqa_m (List.mem_of_getElem? (i := 0) rfl))))))) rfl : Cond.instanceMethod yX1_takeBelow ∈ lw_g) (lw_sel 82 rfl : Cond.selects yX1_takeBelow.cls yX1_takeBelow yX1_takeBelow ∈ lw_g) (lwq_1 (dqa_m (List.mem_of_getElem? (i := 0) rfl)) rfl : Cond.initialized yX1_takeBelow.cls ∈ lw_g) (lwq_6 (dqc_m (dqc_m (dqc_m (dqc_m (dqc_m (dqa_m (List.mem_of_getElem? (i := 1) rfl))))))) rfl : Cond.code yX1_takeBelow cX1_takeBelow 8 (some .int) ∈ lw_g), ⟨nmh_2.1, nmh_2.2, pdq_15⟩, ⟨_, _, rfl⟩⟩
abbrev cX1_place : ByteArray := prog_3_method_8_code
def yX1_place : MethodName := ⟨RX1, "place", "(I)V"⟩
def zX1_place : Zm := (RX1, cX1_place, 5, none, { frames := 1, cells := 0, slots := 0, locals := 27 })
abbrev cX3_isFormed : ByteArray := prog_5_method_6_code
def yX3_isFormed : MethodName := ⟨RX3, "isFormed", "(II)Z"⟩
def zX3_isFormed : Zm := (RX3, cX3_isFormed, 4, (some .boolean), { frames := 1, cells := 0, slots := 0, locals := 20 })
set_option maxRecDepth 100000 in
theorem cn_X3_89 : cn_ zX10_isSide 1 := ⟨gi_c (lwq_4 (dqc_m (dqc_m (dqc_m (dqc_m (dqa_m (List.mem_of_getElem? (i := 1) rfl)))))) rfl : Cond.code yX10_isSide cX10_isSide 1 (some .boolean) ∈ lw_g), (lwq_4 (dqc_m (dqc_m (dqc_m (dqc_m (dqa_m (List.mem_of_getElem? (i := 0) rfl)))))) rfl : Cond.static yX10_isSide ∈ lw_g), (lwq_1 (List.mem_of_getElem? (i := 1) rfl) rfl : Cond.initialized "SportsHouse" ∈ lw_g), ⟨by decide, by decide, by decide +kernel⟩⟩
theorem ds_X3_isFormed_6 : decode cX3_isFormed 6 = .ok (.tableswitch 83 0 2 #[26, 44, 63], 26) := by decide +kernel
abbrev cX3_brokenLaw : ByteArray := prog_5_method_5_code
def yX3_brokenLaw : MethodName := ⟨RX3, "brokenLaw", "(IIII)I"⟩
def zX3_brokenLaw : Zm := (RX3, cX3_brokenLaw, 5, (some .int), { frames := 2, cells := 0, slots := 0, locals := 45 })
set_option maxRecDepth 100000 in
theorem cl_X3_86 : cv_ RX3 86 yX3_isBounded zX3_isBounded 3 2 := ⟨gi_V (lwq_5 (dqc_m (dqa_m (dqa_m (dqa_m (List.mem_of_getElem? (i := 0) rfl))))) rfl : Cond.methodLink RX3 86 yX3_isBounded ∈ lw_g) (lwq_5 (dqc_m (dqa_m (dqa_m (dqa_m (List.mem_of_getElem? (i := 1) rfl))))) rfl : Cond.instanceMethod yX3_isBounded ∈ lw_g) (lwq_5 (dqc_m (dqa_m (dqa_m (dqa_m (List.mem_of_getElem? (i := 2) rfl))))) rfl : Cond.selects yX3_isBounded.cls yX3_isBounded yX3_isBounded ∈ lw_g) (lwq_1 (dqa_m (dqa_m (List.mem_of_getElem? (i := 2) rfl))) rfl : Cond.initialized yX3_isBounded.cls ∈ lw_g) (lwq_5 (dqc_m (dqa_m (dqa_m (dqa_m (List.mem_of_getElem? (i := 3) rfl))))) rfl : Cond.code yX3_isBounded cX3_isBounded 3 (some .boolean) ∈ lw_g), ⟨nmh_3.1, nmh_3.2, pdq_5⟩, ⟨_, _, rfl⟩⟩
set_option maxRecDepth 100000 in
theorem cl_X3_68 : cv_ RX3 68 yX3_isFormed zX3_isFormed 3 2 := ⟨gi_V (lwq_5 (dqa_m (dqa_m (dqa_m (List.mem_of_getElem? (i := 7) rfl)))) rfl : Cond.methodLink RX3 68 yX3_isFormed ∈ lw_g) (lwq_5 (dqc_m (List.mem_of_getElem? (i := 0) rfl)) rfl : Cond.instanceMethod yX3_isFormed ∈ lw_g) (lwq_5 (dqc_m (List.mem_of_getElem? (i := 1) rfl)) rfl : Cond.selects yX3_isFormed.cls yX3_isFormed yX3_isFormed ∈ lw_g) (lwq_1 (dqa_m (dqa_m (List.mem_of_getElem? (i := 2) rfl))) rfl : Cond.initialized yX3_isFormed.cls ∈ lw_g) (lwq_5 (dqc_m (List.mem_of_getElem? (i := 2) rfl)) rfl : Cond.code yX3_isFormed cX3_isFormed 4 (some .boolean) ∈ lw_g), ⟨nmh_3.1, nmh_3.2, pdq_5⟩, ⟨_, _, rfl⟩⟩
set_option maxRecDepth 100000 in
theorem cl_X3_72 : cv_ RX3 72 yX3_isAllowed zX3_isAllowed 3 2 := ⟨gi_V (lwq_5 (dqc_m (List.mem_of_getElem? (i := 4) rfl)) rfl : Cond.methodLink RX3 72 yX3_isAllowed ∈ lw_g) (lwq_5 (dqc_m (List.mem_of_getElem? (i := 6) rfl)) rfl : Cond.instanceMethod yX3_isAllowed ∈ lw_g) (lw_sel 90 rfl : Cond.selects yX3_isAllowed.cls yX3_isAllowed yX3_isAllowed ∈ lw_g) (lwq_1 (dqa_m (dqa_m (List.mem_of_getElem? (i := 2) rfl))) rfl : Cond.initialized yX3_isAllowed.cls ∈ lw_g) (lwq_5 (dqc_m (List.mem_of_getElem? (i := 7) rfl)) rfl : Cond.code yX3_isAllowed cX3_isAllowed 3 (some .boolean) ∈ lw_g), ⟨nmh_3.1, nmh_3.2, pdq_5⟩, ⟨_, _, rfl⟩⟩
set_option maxRecDepth 100000 in
theorem cl_X3_75 : cv_ RX3 75 yX3_needsPerson zX3_needsPerson 3 1 := ⟨gi_V (lwq_5 (dqc_m (dqa_m (List.mem_of_getElem? (i := 0) rfl))) rfl : Cond.methodLink RX3 75 yX3_needsPerson ∈ lw_g) (lwq_5 (dqc_m (dqa_m (List.mem_of_getElem? (i := 2) rfl))) rfl : Cond.instanceMethod yX3_needsPerson ∈ lw_g) (lw_sel 92 rfl : Cond.selects yX3_needsPerson.cls yX3_needsPerson yX3_needsPerson ∈ lw_g) (lwq_1 (dqa_m (dqa_m (List.mem_of_getElem? (i := 2) rfl))) rfl : Cond.initialized yX3_needsPerson.cls ∈ lw_g) (lwq_5 (dqc_m (dqa_m (List.mem_of_getElem? (i := 3) rfl))) rfl : Cond.code yX3_needsPerson cX3_needsPerson 2 (some .boolean) ∈ lw_g), ⟨nmh_3.1, nmh_3.2, pdq_7⟩, ⟨_, _, rfl⟩⟩
abbrev po_J7_fill_542 (T : Zt) (p : Int) (v : Int) : Zt → Option Zv → Prop := fun T' r => r = none ∧ fr_ [(542, [])] T T' ∧ oi_ T T' p ∧ ∀ j, 0 ≤ j → j < 96 → T' 542 p j = v
set_option maxHeartbeats 4000000 in
theorem ct_J7_fill_542 {T : Zt} {p : Int} {v : Int} (h1 : (-2147483648) ≤ v ∧ v ≤ 2147483647) : Ct_ yJ7_fill_53178 zJ7_fill_53178 T [vR 542 p, vI v] (po_J7_fill_542 T p v) := by
  refine ct_of (by decide) rfl rfl (Nat.le_of_ble_eq_true rfl) (fun hT hav => ?_)
  have hr_v : -2147483648 ≤ v ∧ v ≤ 2147483647 := hav (vI v) (List.mem_cons_of_mem _ List.mem_cons_self)
  have hz : zJ7_fill_53178.2.2.2.1 = some .boolean → ∀ (T' : Zt) (x : Int), po_J7_fill_542 T p v T' (some (vI x)) → 0 ≤ x ∧ x ≤ 1 := fun h => by cases h
  show J_ zJ7_fill_53178 T (po_J7_fill_542 T p v) 0 0 0 [some (vR 542 p), some (vI v), none, none] [] T
  have c_5 : ∀ (nn : Nat) (j : Int) (T1 : Zt), ((96 - j).toNat) ≤ nn → (fr_ [(542, [])] T T1) → (0 ≤ j ∧ j ≤ 96) → (oi_ T T1 p) → (∀ q, 0 ≤ q → q < j → T1 542 p q = v) → J_ zJ7_fill_53178 T (po_J7_fill_542 T p v) 0 0 5 [some (vR 542 p), some (vI v), some (vI j), some (vI 96)] [] T1 := by
    intro nn
    induction nn using Nat.strongRecOn with
    | _ nn ih_5 =>
      intro j T1 hm_5 hf_5 i1 o1 f1
      replace hm_5 := fun (_ : Unit) => hm_5
      refine j_blx (F := fJ7) tb_J7 (nn_ _) bk_J7_fill_53178_5 bs_J7_fill_53178_5 hz (fun K hK => ?_)
      refine And.intro (fun c1 => ?_) (fun c1 => ?_)
      · refine hK 20 _ [] T1 ?_
        refine j_blx (F := fJ7) tb_J7 (nn_ _) bk_J7_fill_53178_20 bs_J7_fill_53178_20 hz (fun K hK => ?_)
        refine (show po_J7_fill_542 T p v T1 (none) from ?_)
        exact ⟨rfl, fr_t (fr_0 _ _) (fr_s hf_5 rfl), o1, fun q a b => f1 q a (by omega)⟩
      · refine iy_i (by omega) (by omega) ?_
        refine x_nm (fun U2 hU2 => ?_)
        have e3 := up_f hU2
        refine rg_i (by omega) ?_
        refine hK 5 [some (vR 542 p), some (vI v), some (vI (j + 1)), some (vI 96)] [] U2 ?_
        refine ih_5 _ ?_ (j + 1) U2 (Nat.le_refl _) ?_ ?_ ?_ ?_
        · have hm_5 := hm_5 (); omega
        · exact fr_u (fr_t (fr_0 _ _) (fr_s hf_5 rfl)) hU2 rfl
        · omega
        · exact oi_u o1 hU2
        · intro q a b
          by_cases z : q = j
          · rw [z]; exact up_f hU2
          · rw [up_g hU2 (fun y => z y.2.2)]; exact f1 q a (by omega)
  refine j_blx (F := fJ7) tb_J7 (nn_ _) bk_J7_fill_53178_0 bs_J7_fill_53178_0 hz (fun K hK => ?_)
  refine hK 5 [some (vR 542 p), some (vI v), some (vI 0), some (vI 96)] [] T ?_
  refine c_5 _ 0 T (Nat.le_refl _) ?_ ?_ ?_ ?_
  · exact fr_0 _ _
  · omega
  · exact oi_r
  · intro q a b; omega
abbrev po_J7_fill_543 (T : Zt) (p : Int) (v : Int) : Zt → Option Zv → Prop := fun T' r => r = none ∧ fr_ [(543, [])] T T' ∧ oi_ T T' p ∧ ∀ j, 0 ≤ j → j < 12 → T' 543 p j = v
set_option maxHeartbeats 4000000 in
theorem ct_J7_fill_543 {T : Zt} {p : Int} {v : Int} (h1 : (-2147483648) ≤ v ∧ v ≤ 2147483647) : Ct_ yJ7_fill_53178 zJ7_fill_53178 T [vR 543 p, vI v] (po_J7_fill_543 T p v) := by
  refine ct_of (by decide) rfl rfl (Nat.le_of_ble_eq_true rfl) (fun hT hav => ?_)
  have hr_v : -2147483648 ≤ v ∧ v ≤ 2147483647 := hav (vI v) (List.mem_cons_of_mem _ List.mem_cons_self)
  have hz : zJ7_fill_53178.2.2.2.1 = some .boolean → ∀ (T' : Zt) (x : Int), po_J7_fill_543 T p v T' (some (vI x)) → 0 ≤ x ∧ x ≤ 1 := fun h => by cases h
  show J_ zJ7_fill_53178 T (po_J7_fill_543 T p v) 0 0 0 [some (vR 543 p), some (vI v), none, none] [] T
  have c_5 : ∀ (nn : Nat) (j : Int) (T1 : Zt), ((12 - j).toNat) ≤ nn → (fr_ [(543, [])] T T1) → (0 ≤ j ∧ j ≤ 12) → (oi_ T T1 p) → (∀ q, 0 ≤ q → q < j → T1 543 p q = v) → J_ zJ7_fill_53178 T (po_J7_fill_543 T p v) 0 0 5 [some (vR 543 p), some (vI v), some (vI j), some (vI 12)] [] T1 := by
    intro nn
    induction nn using Nat.strongRecOn with
    | _ nn ih_5 =>
      intro j T1 hm_5 hf_5 i1 o1 f1
      replace hm_5 := fun (_ : Unit) => hm_5
      refine j_blx (F := fJ7) tb_J7 (nn_ _) bk_J7_fill_53178_5 bs_J7_fill_53178_5 hz (fun K hK => ?_)
      refine And.intro (fun c1 => ?_) (fun c1 => ?_)
      · refine hK 20 _ [] T1 ?_
        refine j_blx (F := fJ7) tb_J7 (nn_ _) bk_J7_fill_53178_20 bs_J7_fill_53178_20 hz (fun K hK => ?_)
        refine (show po_J7_fill_543 T p v T1 (none) from ?_)
        exact ⟨rfl, fr_t (fr_0 _ _) (fr_s hf_5 rfl), o1, fun q a b => f1 q a (by omega)⟩
      · refine iy_i (by omega) (by omega) ?_
        refine x_nm (fun U2 hU2 => ?_)
        have e3 := up_f hU2
        refine rg_i (by omega) ?_
        refine hK 5 [some (vR 543 p), some (vI v), some (vI (j + 1)), some (vI 12)] [] U2 ?_
        refine ih_5 _ ?_ (j + 1) U2 (Nat.le_refl _) ?_ ?_ ?_ ?_
        · have hm_5 := hm_5 (); omega
        · exact fr_u (fr_t (fr_0 _ _) (fr_s hf_5 rfl)) hU2 rfl
        · omega
        · exact oi_u o1 hU2
        · intro q a b
          by_cases z : q = j
          · rw [z]; exact up_f hU2
          · rw [up_g hU2 (fun y => z y.2.2)]; exact f1 q a (by omega)
  refine j_blx (F := fJ7) tb_J7 (nn_ _) bk_J7_fill_53178_0 bs_J7_fill_53178_0 hz (fun K hK => ?_)
  refine hK 5 [some (vR 543 p), some (vI v), some (vI 0), some (vI 12)] [] T ?_
  refine c_5 _ 0 T (Nat.le_refl _) ?_ ?_ ?_ ?_
  · exact fr_0 _ _
  · omega
  · exact oi_r
  · intro q a b; omega
abbrev po_J7_fill_544 (T : Zt) (p : Int) (v : Int) : Zt → Option Zv → Prop := fun T' r => r = none ∧ fr_ [(544, [])] T T' ∧ oi_ T T' p ∧ ∀ j, 0 ≤ j → j < 12 → T' 544 p j = v
set_option maxHeartbeats 4000000 in
theorem ct_J7_fill_544 {T : Zt} {p : Int} {v : Int} (h1 : (-2147483648) ≤ v ∧ v ≤ 2147483647) : Ct_ yJ7_fill_53178 zJ7_fill_53178 T [vR 544 p, vI v] (po_J7_fill_544 T p v) := by
  refine ct_of (by decide) rfl rfl (Nat.le_of_ble_eq_true rfl) (fun hT hav => ?_)
  have hr_v : -2147483648 ≤ v ∧ v ≤ 2147483647 := hav (vI v) (List.mem_cons_of_mem _ List.mem_cons_self)
  have hz : zJ7_fill_53178.2.2.2.1 = some .boolean → ∀ (T' : Zt) (x : Int), po_J7_fill_544 T p v T' (some (vI x)) → 0 ≤ x ∧ x ≤ 1 := fun h => by cases h
  show J_ zJ7_fill_53178 T (po_J7_fill_544 T p v) 0 0 0 [some (vR 544 p), some (vI v), none, none] [] T
  have c_5 : ∀ (nn : Nat) (j : Int) (T1 : Zt), ((12 - j).toNat) ≤ nn → (fr_ [(544, [])] T T1) → (0 ≤ j ∧ j ≤ 12) → (oi_ T T1 p) → (∀ q, 0 ≤ q → q < j → T1 544 p q = v) → J_ zJ7_fill_53178 T (po_J7_fill_544 T p v) 0 0 5 [some (vR 544 p), some (vI v), some (vI j), some (vI 12)] [] T1 := by
    intro nn
    induction nn using Nat.strongRecOn with
    | _ nn ih_5 =>
      intro j T1 hm_5 hf_5 i1 o1 f1
      replace hm_5 := fun (_ : Unit) => hm_5
      refine j_blx (F := fJ7) tb_J7 (nn_ _) bk_J7_fill_53178_5 bs_J7_fill_53178_5 hz (fun K hK => ?_)
      refine And.intro (fun c1 => ?_) (fun c1 => ?_)
      · refine hK 20 _ [] T1 ?_
        refine j_blx (F := fJ7) tb_J7 (nn_ _) bk_J7_fill_53178_20 bs_J7_fill_53178_20 hz (fun K hK => ?_)
        refine (show po_J7_fill_544 T p v T1 (none) from ?_)
        exact ⟨rfl, fr_t (fr_0 _ _) (fr_s hf_5 rfl), o1, fun q a b => f1 q a (by omega)⟩
      · refine iy_i (by omega) (by omega) ?_
        refine x_nm (fun U2 hU2 => ?_)
        have e3 := up_f hU2
        refine rg_i (by omega) ?_
        refine hK 5 [some (vR 544 p), some (vI v), some (vI (j + 1)), some (vI 12)] [] U2 ?_
        refine ih_5 _ ?_ (j + 1) U2 (Nat.le_refl _) ?_ ?_ ?_ ?_
        · have hm_5 := hm_5 (); omega
        · exact fr_u (fr_t (fr_0 _ _) (fr_s hf_5 rfl)) hU2 rfl
        · omega
        · exact oi_u o1 hU2
        · intro q a b
          by_cases z : q = j
          · rw [z]; exact up_f hU2
          · rw [up_g hU2 (fun y => z y.2.2)]; exact f1 q a (by omega)
  refine j_blx (F := fJ7) tb_J7 (nn_ _) bk_J7_fill_53178_0 bs_J7_fill_53178_0 hz (fun K hK => ?_)
  refine hK 5 [some (vR 544 p), some (vI v), some (vI 0), some (vI 12)] [] T ?_
  refine c_5 _ 0 T (Nat.le_refl _) ?_ ?_ ?_ ?_
  · exact fr_0 _ _
  · omega
  · exact oi_r
  · intro q a b; omega
abbrev po_J7_fill_545 (T : Zt) (p : Int) (v : Int) : Zt → Option Zv → Prop := fun T' r => r = none ∧ fr_ [(545, [])] T T' ∧ oi_ T T' p ∧ ∀ j, 0 ≤ j → j < 144 → T' 545 p j = v
set_option maxHeartbeats 4000000 in
theorem ct_J7_fill_545 {T : Zt} {p : Int} {v : Int} (h1 : (-2147483648) ≤ v ∧ v ≤ 2147483647) : Ct_ yJ7_fill_53178 zJ7_fill_53178 T [vR 545 p, vI v] (po_J7_fill_545 T p v) := by
  refine ct_of (by decide) rfl rfl (Nat.le_of_ble_eq_true rfl) (fun hT hav => ?_)
  have hr_v : -2147483648 ≤ v ∧ v ≤ 2147483647 := hav (vI v) (List.mem_cons_of_mem _ List.mem_cons_self)
  have hz : zJ7_fill_53178.2.2.2.1 = some .boolean → ∀ (T' : Zt) (x : Int), po_J7_fill_545 T p v T' (some (vI x)) → 0 ≤ x ∧ x ≤ 1 := fun h => by cases h
  show J_ zJ7_fill_53178 T (po_J7_fill_545 T p v) 0 0 0 [some (vR 545 p), some (vI v), none, none] [] T
  have c_5 : ∀ (nn : Nat) (j : Int) (T1 : Zt), ((144 - j).toNat) ≤ nn → (fr_ [(545, [])] T T1) → (0 ≤ j ∧ j ≤ 144) → (oi_ T T1 p) → (∀ q, 0 ≤ q → q < j → T1 545 p q = v) → J_ zJ7_fill_53178 T (po_J7_fill_545 T p v) 0 0 5 [some (vR 545 p), some (vI v), some (vI j), some (vI 144)] [] T1 := by
    intro nn
    induction nn using Nat.strongRecOn with
    | _ nn ih_5 =>
      intro j T1 hm_5 hf_5 i1 o1 f1
      replace hm_5 := fun (_ : Unit) => hm_5
      refine j_blx (F := fJ7) tb_J7 (nn_ _) bk_J7_fill_53178_5 bs_J7_fill_53178_5 hz (fun K hK => ?_)
      refine And.intro (fun c1 => ?_) (fun c1 => ?_)
      · refine hK 20 _ [] T1 ?_
        refine j_blx (F := fJ7) tb_J7 (nn_ _) bk_J7_fill_53178_20 bs_J7_fill_53178_20 hz (fun K hK => ?_)
        refine (show po_J7_fill_545 T p v T1 (none) from ?_)
        exact ⟨rfl, fr_t (fr_0 _ _) (fr_s hf_5 rfl), o1, fun q a b => f1 q a (by omega)⟩
      · refine iy_i (by omega) (by omega) ?_
        refine x_nm (fun U2 hU2 => ?_)
        have e3 := up_f hU2
        refine rg_i (by omega) ?_
        refine hK 5 [some (vR 545 p), some (vI v), some (vI (j + 1)), some (vI 144)] [] U2 ?_
        refine ih_5 _ ?_ (j + 1) U2 (Nat.le_refl _) ?_ ?_ ?_ ?_
        · have hm_5 := hm_5 (); omega
        · exact fr_u (fr_t (fr_0 _ _) (fr_s hf_5 rfl)) hU2 rfl
        · omega
        · exact oi_u o1 hU2
        · intro q a b
          by_cases z : q = j
          · rw [z]; exact up_f hU2
          · rw [up_g hU2 (fun y => z y.2.2)]; exact f1 q a (by omega)
  refine j_blx (F := fJ7) tb_J7 (nn_ _) bk_J7_fill_53178_0 bs_J7_fill_53178_0 hz (fun K hK => ?_)
  refine hK 5 [some (vR 545 p), some (vI v), some (vI 0), some (vI 144)] [] T ?_
  refine c_5 _ 0 T (Nat.le_refl _) ?_ ?_ ?_ ?_
  · exact fr_0 _ _
  · omega
  · exact oi_r
  · intro q a b; omega
abbrev po_J7_fill_546 (T : Zt) (p : Int) (v : Int) : Zt → Option Zv → Prop := fun T' r => r = none ∧ fr_ [(546, [])] T T' ∧ oi_ T T' p ∧ ∀ j, 0 ≤ j → j < 144 → T' 546 p j = v
set_option maxHeartbeats 4000000 in
theorem ct_J7_fill_546 {T : Zt} {p : Int} {v : Int} (h1 : (-2147483648) ≤ v ∧ v ≤ 2147483647) : Ct_ yJ7_fill_53178 zJ7_fill_53178 T [vR 546 p, vI v] (po_J7_fill_546 T p v) := by
  refine ct_of (by decide) rfl rfl (Nat.le_of_ble_eq_true rfl) (fun hT hav => ?_)
  have hr_v : -2147483648 ≤ v ∧ v ≤ 2147483647 := hav (vI v) (List.mem_cons_of_mem _ List.mem_cons_self)
  have hz : zJ7_fill_53178.2.2.2.1 = some .boolean → ∀ (T' : Zt) (x : Int), po_J7_fill_546 T p v T' (some (vI x)) → 0 ≤ x ∧ x ≤ 1 := fun h => by cases h
  show J_ zJ7_fill_53178 T (po_J7_fill_546 T p v) 0 0 0 [some (vR 546 p), some (vI v), none, none] [] T
  have c_5 : ∀ (nn : Nat) (j : Int) (T1 : Zt), ((144 - j).toNat) ≤ nn → (fr_ [(546, [])] T T1) → (0 ≤ j ∧ j ≤ 144) → (oi_ T T1 p) → (∀ q, 0 ≤ q → q < j → T1 546 p q = v) → J_ zJ7_fill_53178 T (po_J7_fill_546 T p v) 0 0 5 [some (vR 546 p), some (vI v), some (vI j), some (vI 144)] [] T1 := by
    intro nn
    induction nn using Nat.strongRecOn with
    | _ nn ih_5 =>
      intro j T1 hm_5 hf_5 i1 o1 f1
      replace hm_5 := fun (_ : Unit) => hm_5
      refine j_blx (F := fJ7) tb_J7 (nn_ _) bk_J7_fill_53178_5 bs_J7_fill_53178_5 hz (fun K hK => ?_)
      refine And.intro (fun c1 => ?_) (fun c1 => ?_)
      · refine hK 20 _ [] T1 ?_
        refine j_blx (F := fJ7) tb_J7 (nn_ _) bk_J7_fill_53178_20 bs_J7_fill_53178_20 hz (fun K hK => ?_)
        refine (show po_J7_fill_546 T p v T1 (none) from ?_)
        exact ⟨rfl, fr_t (fr_0 _ _) (fr_s hf_5 rfl), o1, fun q a b => f1 q a (by omega)⟩
      · refine iy_i (by omega) (by omega) ?_
        refine x_nm (fun U2 hU2 => ?_)
        have e3 := up_f hU2
        refine rg_i (by omega) ?_
        refine hK 5 [some (vR 546 p), some (vI v), some (vI (j + 1)), some (vI 144)] [] U2 ?_
        refine ih_5 _ ?_ (j + 1) U2 (Nat.le_refl _) ?_ ?_ ?_ ?_
        · have hm_5 := hm_5 (); omega
        · exact fr_u (fr_t (fr_0 _ _) (fr_s hf_5 rfl)) hU2 rfl
        · omega
        · exact oi_u o1 hU2
        · intro q a b
          by_cases z : q = j
          · rw [z]; exact up_f hU2
          · rw [up_g hU2 (fun y => z y.2.2)]; exact f1 q a (by omega)
  refine j_blx (F := fJ7) tb_J7 (nn_ _) bk_J7_fill_53178_0 bs_J7_fill_53178_0 hz (fun K hK => ?_)
  refine hK 5 [some (vR 546 p), some (vI v), some (vI 0), some (vI 144)] [] T ?_
  refine c_5 _ 0 T (Nat.le_refl _) ?_ ?_ ?_ ?_
  · exact fr_0 _ _
  · omega
  · exact oi_r
  · intro q a b; omega
abbrev cX7_tally : ByteArray := prog_9_method_2_code
def yX7_tally : MethodName := ⟨RX7, "tally", "(LSportsHouse$Competition;I)V"⟩
def zX7_tally : Zm := (RX7, cX7_tally, 5, none, { frames := 2, cells := 0, slots := 0, locals := 52 })
theorem bk_X7_tally_126 : ck_ fX7 none cX7_tally 126 [.iload 3, .aload 0, .tableswitch 0 7 1 #[], .tableswitch 0 0 5 #[], .if_icmp .ge 182, .aload 0, .tableswitch 0 7 2 #[], .iload 3, .iconst 8, .imul, .iconst 6, .iadd, .dup2, .iaload, .aload 0, .tableswitch 0 7 0 #[], .iload 2, .aload 0, .tableswitch 0 7 1 #[], .tableswitch 0 0 0 #[], .aload 0, .tableswitch 0 7 1 #[], .tableswitch 0 0 3 #[], .iload 3, .iaload] 171 = true := qck_r (nn_ _) (by decide +kernel)
theorem bs_X7_tally_126 {P : Zt → Option Zv → Prop} (K : Int → Zl → List Zv → Zt → Prop) : sx_ K P [.iload 3, .aload 0, .tableswitch 0 7 1 #[], .tableswitch 0 0 5 #[], .if_icmp .ge 182, .aload 0, .tableswitch 0 7 2 #[], .iload 3, .iconst 8, .imul, .iconst 6, .iadd, .dup2, .iaload, .aload 0, .tableswitch 0 7 0 #[], .iload 2, .aload 0, .tableswitch 0 7 1 #[], .tableswitch 0 0 0 #[], .aload 0, .tableswitch 0 7 1 #[], .tableswitch 0 0 3 #[], .iload 3, .iaload] 171 = x_iload 3 (x_aload 0 (x_g5 107 100 1 (x_g0 100 5 0 12 (x_if_icmp .ge 182 K (x_aload 0 (x_g1 107 542 (x_iload 3 (x_iconst 8 (x_imul (x_iconst 6 (x_iadd (x_dup2 (x_iaload (x_aload 0 (x_g1 107 106 (x_iload 2 (x_aload 0 (x_g5 107 100 1 (x_g0 100 0 0 3 (x_aload 0 (x_g5 107 100 1 (x_g2 100 403 (x_iload 3 (x_iaload (K 171))))))))))))))))))))))))) := ((xe_iload 3).trans (congrArg (x_iload 3) ((xe_aload 0).trans (congrArg (x_aload 0) ((xe_g5 (kk := 107) rfl tl_7_1).trans (congrArg (x_g5 107 100 1) ((xe_g0 (kk := 100) rfl tl_0_5).trans (congrArg (x_g0 100 5 0 12) ((xe_if_icmp .ge 182).trans (congrArg (x_if_icmp .ge 182 K) ((xe_aload 0).trans (congrArg (x_aload 0) ((xe_g1 (kk := 107) rfl tl_7_2).trans (congrArg (x_g1 107 542) ((xe_iload 3).trans (congrArg (x_iload 3) ((xe_iconst 8).trans (congrArg (x_iconst 8) ((xe_imul).trans (congrArg (x_imul) ((xe_iconst 6).trans (congrArg (x_iconst 6) ((xe_iadd).trans (congrArg (x_iadd) ((xe_dup2).trans (congrArg (x_dup2) ((xe_iaload).trans (congrArg (x_iaload) ((xe_aload 0).trans (congrArg (x_aload 0) ((xe_g1 (kk := 107) rfl tl_7_0).trans (congrArg (x_g1 107 106) ((xe_iload 2).trans (congrArg (x_iload 2) ((xe_aload 0).trans (congrArg (x_aload 0) ((xe_g5 (kk := 107) rfl tl_7_1).trans (congrArg (x_g5 107 100 1) ((xe_g0 (kk := 100) rfl tl_0_0).trans (congrArg (x_g0 100 0 0 3) ((xe_aload 0).trans (congrArg (x_aload 0) ((xe_g5 (kk := 107) rfl tl_7_1).trans (congrArg (x_g5 107 100 1) ((xe_g2 (kk := 100) rfl tl_0_3).trans (congrArg (x_g2 100 403) ((xe_iload 3).trans (congrArg (x_iload 3) ((xe_iaload).trans (congrArg (x_iaload) xe_nil))))))))))))))))))))))))))))))))))))))))))))))))))
theorem bk_X7_tally_182 : ck_ fX7 none cX7_tally 182 [.return_] 183 = true := qck_r (nn_ _) (by decide +kernel)
theorem bs_X7_tally_182 {P : Zt → Option Zv → Prop} (K : Int → Zl → List Zv → Zt → Prop) : sx_ K P [.return_] 183 = x_return_ P := (xe_return_)
set_option maxRecDepth 100000 in
theorem cl_X7_105 : cv_ RX7 105 yX6_deductedUpTo zX6_deductedUpTo 6 3 := ⟨gi_V (lwq_5 (dqc_m (dqc_m (dqc_m (dqc_m (dqc_m (dqc_m (dqa_m (dqa_m (dqa_m (List.mem_of_getElem? (i := 4) rfl)))))))))) rfl : Cond.methodLink RX7 105 yX6_deductedUpTo ∈ lw_g) (lwq_5 (dqc_m (dqc_m (dqc_m (dqc_m (dqc_m (dqc_m (dqa_m (dqa_m (dqa_m (List.mem_of_getElem? (i := 5) rfl)))))))))) rfl : Cond.instanceMethod yX6_deductedUpTo ∈ lw_g) (lwq_5 (dqc_m (dqc_m (dqc_m (dqc_m (dqc_m (dqc_m (dqa_m (dqa_m (dqa_m (List.mem_of_getElem? (i := 6) rfl)))))))))) rfl : Cond.selects yX6_deductedUpTo.cls yX6_deductedUpTo yX6_deductedUpTo ∈ lw_g) (lwq_1 (List.mem_of_getElem? (i := 4) rfl) rfl : Cond.initialized yX6_deductedUpTo.cls ∈ lw_g) (lwq_5 (dqc_m (dqc_m (dqc_m (dqc_m (dqc_m (dqc_m (dqa_m (dqa_m (dqa_m (List.mem_of_getElem? (i := 7) rfl)))))))))) rfl : Cond.code yX6_deductedUpTo cX6_deductedUpTo 6 (some .int) ∈ lw_g), ⟨nmh_6.1, nmh_6.2, pdq_8⟩, ⟨_, _, rfl⟩⟩
theorem bk_X7_tally_174 : ck_ fX7 none cX7_tally 174 [.fsub, .iastore, .iinc 3 1, .goto 126] 182 = true := qck_r (nn_ _) (by decide +kernel)
theorem bs_X7_tally_174 {P : Zt → Option Zv → Prop} (K : Int → Zl → List Zv → Zt → Prop) : sx_ K P [.fsub, .iastore, .iinc 3 1, .goto 126] 182 = x_fsub (x_iastore (x_iinc 3 1 (x_goto 126 K))) := ((xe_fsub).trans (congrArg (x_fsub) ((xe_iastore).trans (congrArg (x_iastore) ((xe_iinc 3 1).trans (congrArg (x_iinc 3 1) (xe_goto 126)))))))
theorem bk_X7_tally_47 : ck_ fX7 none cX7_tally 47 [.iload 3, .aload 0, .tableswitch 0 7 1 #[], .tableswitch 0 0 8 #[], .if_icmp .ge 124, .aload 0, .tableswitch 0 7 0 #[], .tableswitch 0 6 3 #[], .aload 0, .tableswitch 0 7 1 #[], .tableswitch 0 0 7 #[], .iload 3, .iadd, .aaload, .astore 4, .aload 4, .tableswitch 0 2 5 #[], .iload 2, .if_icmp .gt 118, .aload 4] 88 = true := qck_r (nn_ _) (by decide +kernel)
theorem bs_X7_tally_47 {P : Zt → Option Zv → Prop} (K : Int → Zl → List Zv → Zt → Prop) : sx_ K P [.iload 3, .aload 0, .tableswitch 0 7 1 #[], .tableswitch 0 0 8 #[], .if_icmp .ge 124, .aload 0, .tableswitch 0 7 0 #[], .tableswitch 0 6 3 #[], .aload 0, .tableswitch 0 7 1 #[], .tableswitch 0 0 7 #[], .iload 3, .iadd, .aaload, .astore 4, .aload 4, .tableswitch 0 2 5 #[], .iload 2, .if_icmp .gt 118, .aload 4] 88 = x_iload 3 (x_aload 0 (x_g5 107 100 1 (x_g0 100 8 0 400 (x_if_icmp .ge 124 K (x_aload 0 (x_g1 107 106 (x_g1 106 523 (x_aload 0 (x_g5 107 100 1 (x_g0 100 7 0 400 (x_iload 3 (x_iadd (x_aaload (x_astore 4 (x_aload 4 (x_g0 102 5 0 999 (x_iload 2 (x_if_icmp .gt 118 K (x_aload 4 (K 88)))))))))))))))))))) := ((xe_iload 3).trans (congrArg (x_iload 3) ((xe_aload 0).trans (congrArg (x_aload 0) ((xe_g5 (kk := 107) rfl tl_7_1).trans (congrArg (x_g5 107 100 1) ((xe_g0 (kk := 100) rfl tl_0_8).trans (congrArg (x_g0 100 8 0 400) ((xe_if_icmp .ge 124).trans (congrArg (x_if_icmp .ge 124 K) ((xe_aload 0).trans (congrArg (x_aload 0) ((xe_g1 (kk := 107) rfl tl_7_0).trans (congrArg (x_g1 107 106) ((xe_g1 (kk := 106) rfl tl_6_3).trans (congrArg (x_g1 106 523) ((xe_aload 0).trans (congrArg (x_aload 0) ((xe_g5 (kk := 107) rfl tl_7_1).trans (congrArg (x_g5 107 100 1) ((xe_g0 (kk := 100) rfl tl_0_7).trans (congrArg (x_g0 100 7 0 400) ((xe_iload 3).trans (congrArg (x_iload 3) ((xe_iadd).trans (congrArg (x_iadd) ((xe_aaload).trans (congrArg (x_aaload) ((xe_astore 4).trans (congrArg (x_astore 4) ((xe_aload 4).trans (congrArg (x_aload 4) ((xe_g0 (kk := 102) rfl tl_2_5).trans (congrArg (x_g0 102 5 0 999) ((xe_iload 2).trans (congrArg (x_iload 2) ((xe_if_icmp .gt 118).trans (congrArg (x_if_icmp .gt 118 K) ((xe_aload 4).trans (congrArg (x_aload 4) xe_nil))))))))))))))))))))))))))))))))))))))))
theorem bk_X7_tally_124 : ck_ fX7 none cX7_tally 124 [.iconst 0, .istore 3] 126 = true := qck_r (nn_ _) (by decide +kernel)
theorem bs_X7_tally_124 {P : Zt → Option Zv → Prop} (K : Int → Zl → List Zv → Zt → Prop) : sx_ K P [.iconst 0, .istore 3] 126 = x_iconst 0 (x_istore 3 (K 126)) := ((xe_iconst 0).trans (congrArg (x_iconst 0) ((xe_istore 3).trans (congrArg (x_istore 3) xe_nil))))
theorem bk_X7_tally_118 : ck_ fX7 none cX7_tally 118 [.iinc 3 1, .goto 47] 124 = true := qck_r (nn_ _) (by decide +kernel)
theorem bs_X7_tally_118 {P : Zt → Option Zv → Prop} (K : Int → Zl → List Zv → Zt → Prop) : sx_ K P [.iinc 3 1, .goto 47] 124 = x_iinc 3 1 (x_goto 47 K) := ((xe_iinc 3 1).trans (congrArg (x_iinc 3 1) (xe_goto 47)))
set_option maxRecDepth 100000 in
theorem cl_X7_80 : cv_ RX7 80 yX2_isDecided zX2_isDecided 2 0 := ⟨gi_V (lwq_5 (dqc_m (dqc_m (dqc_m (dqc_m (dqc_m (dqc_m (dqa_m (List.mem_of_getElem? (i := 5) rfl)))))))) rfl : Cond.methodLink RX7 80 yX2_isDecided ∈ lw_g) (lwq_4 (dqc_m (dqc_m (dqc_m (dqc_m (dqa_m (dqa_m (dqa_m (List.mem_of_getElem? (i := 3) rfl)))))))) rfl : Cond.instanceMethod yX2_isDecided ∈ lw_g) (lwq_4 (dqc_m (dqc_m (dqc_m (dqc_m (dqa_m (dqa_m (dqa_m (List.mem_of_getElem? (i := 4) rfl)))))))) rfl : Cond.selects yX2_isDecided.cls yX2_isDecided yX2_isDecided ∈ lw_g) (lwq_1 (dqa_m (dqa_m (List.mem_of_getElem? (i := 0) rfl))) rfl : Cond.initialized yX2_isDecided.cls ∈ lw_g) (lwq_4 (dqc_m (dqc_m (dqc_m (dqc_m (dqa_m (dqa_m (dqa_m (List.mem_of_getElem? (i := 5) rfl)))))))) rfl : Cond.code yX2_isDecided cX2_isDecided 1 (some .boolean) ∈ lw_g), ⟨nmh_10.1, nmh_10.2, pdq_18⟩, ⟨_, _, rfl⟩⟩
theorem bk_X7_tally_91 : ck_ fX7 none cX7_tally 91 [.ifCond .eq 118, .aload 0, .aload 4, .aload 4, .iconst 0] 100 = true := qck_r (nn_ _) (by decide +kernel)
theorem bs_X7_tally_91 {P : Zt → Option Zv → Prop} (K : Int → Zl → List Zv → Zt → Prop) : sx_ K P [.ifCond .eq 118, .aload 0, .aload 4, .aload 4, .iconst 0] 100 = x_ifCond .eq 118 K (x_aload 0 (x_aload 4 (x_aload 4 (x_iconst 0 (K 100))))) := ((xe_ifCond .eq 118).trans (congrArg (x_ifCond .eq 118 K) ((xe_aload 0).trans (congrArg (x_aload 0) ((xe_aload 4).trans (congrArg (x_aload 4) ((xe_aload 4).trans (congrArg (x_aload 4) ((xe_iconst 0).trans (congrArg (x_iconst 0) xe_nil))))))))))
set_option maxRecDepth 100000 in
theorem cl_X7_84 : cv_ RX7 84 yX2_scoreOf zX2_scoreOf 2 1 := ⟨gi_V (lwq_5 (dqc_m (dqc_m (dqc_m (dqc_m (dqc_m (dqc_m (dqa_m (List.mem_of_getElem? (i := 6) rfl)))))))) rfl : Cond.methodLink RX7 84 yX2_scoreOf ∈ lw_g) (lwq_4 (dqc_m (dqa_m (dqa_m (dqa_m (List.mem_of_getElem? (i := 6) rfl))))) rfl : Cond.instanceMethod yX2_scoreOf ∈ lw_g) (lwq_4 (dqc_m (dqa_m (dqa_m (dqa_m (List.mem_of_getElem? (i := 7) rfl))))) rfl : Cond.selects yX2_scoreOf.cls yX2_scoreOf yX2_scoreOf ∈ lw_g) (lwq_1 (dqa_m (dqa_m (List.mem_of_getElem? (i := 0) rfl))) rfl : Cond.initialized yX2_scoreOf.cls ∈ lw_g) (lwq_4 (dqc_m (dqc_m (List.mem_of_getElem? (i := 0) rfl))) rfl : Cond.code yX2_scoreOf cX2_scoreOf 2 (some .int) ∈ lw_g), ⟨nmh_10.1, nmh_10.2, pdq_15⟩, ⟨_, _, rfl⟩⟩
theorem bk_X7_tally_103 : ck_ fX7 none cX7_tally 103 [.aload 4, .iconst 1] 106 = true := qck_r (nn_ _) (by decide +kernel)
theorem bs_X7_tally_103 {P : Zt → Option Zv → Prop} (K : Int → Zl → List Zv → Zt → Prop) : sx_ K P [.aload 4, .iconst 1] 106 = x_aload 4 (x_iconst 1 (K 106)) := ((xe_aload 4).trans (congrArg (x_aload 4) ((xe_iconst 1).trans (congrArg (x_iconst 1) xe_nil))))
set_option maxRecDepth 100000 in
theorem cl_X7_88 : cv_ RX7 88 yX7_addResult zX7_addResult 7 3 := ⟨gi_V (lwq_5 (dqc_m (dqc_m (dqc_m (dqc_m (dqc_m (dqc_m (dqa_m (List.mem_of_getElem? (i := 7) rfl)))))))) rfl : Cond.methodLink RX7 88 yX7_addResult ∈ lw_g) (lwq_5 (dqc_m (dqc_m (dqc_m (dqc_m (dqc_m (dqc_m (dqa_m (dqa_m (List.mem_of_getElem? (i := 0) rfl))))))))) rfl : Cond.instanceMethod yX7_addResult ∈ lw_g) (lwq_5 (dqc_m (dqc_m (dqc_m (dqc_m (dqc_m (dqc_m (dqa_m (dqa_m (List.mem_of_getElem? (i := 1) rfl))))))))) rfl : Cond.selects yX7_addResult.cls yX7_addResult yX7_addResult ∈ lw_g) (lwq_1 (List.mem_of_getElem? (i := 5) rfl) rfl : Cond.initialized yX7_addResult.cls ∈ lw_g) (lwq_5 (dqc_m (dqc_m (dqc_m (dqc_m (dqc_m (dqc_m (dqa_m (dqa_m (List.mem_of_getElem? (i := 2) rfl))))))))) rfl : Cond.code yX7_addResult cX7_addResult 6 none ∈ lw_g), ⟨nmh_7.1, nmh_7.2, pdq_30⟩, ⟨_, _, rfl⟩⟩
theorem bk_X7_tally_112 : ck_ fX7 none cX7_tally 112 [.aload 0, .aload 4] 115 = true := qck_r (nn_ _) (by decide +kernel)
theorem bs_X7_tally_112 {P : Zt → Option Zv → Prop} (K : Int → Zl → List Zv → Zt → Prop) : sx_ K P [.aload 0, .aload 4] 115 = x_aload 0 (x_aload 4 (K 115)) := ((xe_aload 0).trans (congrArg (x_aload 0) ((xe_aload 4).trans (congrArg (x_aload 4) xe_nil))))
set_option maxRecDepth 100000 in
theorem cl_X7_92 : cv_ RX7 92 yX7_addCards zX7_addCards 7 1 := ⟨gi_V (lwq_5 (dqc_m (dqc_m (dqc_m (dqc_m (dqc_m (dqc_m (dqa_m (dqa_m (List.mem_of_getElem? (i := 7) rfl))))))))) rfl : Cond.methodLink RX7 92 yX7_addCards ∈ lw_g) (lwq_5 (dqc_m (dqc_m (dqc_m (dqc_m (dqc_m (dqc_m (dqa_m (dqa_m (dqa_m (List.mem_of_getElem? (i := 1) rfl)))))))))) rfl : Cond.instanceMethod yX7_addCards ∈ lw_g) (lw_sel 127 rfl : Cond.selects yX7_addCards.cls yX7_addCards yX7_addCards ∈ lw_g) (lwq_1 (List.mem_of_getElem? (i := 5) rfl) rfl : Cond.initialized yX7_addCards.cls ∈ lw_g) (lwq_5 (dqc_m (dqc_m (dqc_m (dqc_m (dqc_m (dqc_m (dqa_m (dqa_m (dqa_m (List.mem_of_getElem? (i := 2) rfl)))))))))) rfl : Cond.code yX7_addCards cX7_addCards 6 none ∈ lw_g), ⟨nmh_7.1, nmh_7.2, pdq_26⟩, ⟨_, _, rfl⟩⟩
theorem bk_X7_tally_0 : ck_ fX7 none cX7_tally 0 [.aload 0, .aload 1] 2 = true := qck_r (nn_ _) (by decide +kernel)
theorem bs_X7_tally_0 {P : Zt → Option Zv → Prop} (K : Int → Zl → List Zv → Zt → Prop) : sx_ K P [.aload 0, .aload 1] 2 = x_aload 0 (x_aload 1 (K 2)) := ((xe_aload 0).trans (congrArg (x_aload 0) ((xe_aload 1).trans (congrArg (x_aload 1) xe_nil))))
theorem fr5_X7_50 : fr5_ RX7 50 7 1 := ⟨_, _, _, rfl, by decide, by decide, (lwq_1 (dqc_m (dqc_m (dqc_m (dqc_m (dqc_m (dqc_m (dqa_m (dqa_m (List.mem_of_getElem? (i := 4) rfl))))))))) rfl : Cond.fieldLink RX7 50 _ _ _ ∈ lw_g), rfl, fun a => ⟨.object "SportsHouse$Competition", by decide +kernel, rfl, rfl⟩⟩
theorem bk_X7_tally_5 : ck_ fX7 none cX7_tally 5 [.aload 0, .tableswitch 0 7 2 #[], .iconst 0] 10 = true := qck_r (nn_ _) (by decide +kernel)
theorem bs_X7_tally_5 {P : Zt → Option Zv → Prop} (K : Int → Zl → List Zv → Zt → Prop) : sx_ K P [.aload 0, .tableswitch 0 7 2 #[], .iconst 0] 10 = x_aload 0 (x_g1 107 542 (x_iconst 0 (K 10))) := ((xe_aload 0).trans (congrArg (x_aload 0) ((xe_g1 (kk := 107) rfl tl_7_2).trans (congrArg (x_g1 107 542) ((xe_iconst 0).trans (congrArg (x_iconst 0) xe_nil))))))
set_option maxRecDepth 100000 in
theorem cl_X7_54 : cs_ RX7 54 yJ7_fill_53178 zJ7_fill_53178 2 := ⟨gi_S (lwq_5 (dqc_m (dqc_m (dqc_m (dqc_m (dqc_m (dqc_m (dqa_m (List.mem_of_getElem? (i := 4) rfl)))))))) rfl : Cond.methodLink RX7 54 yJ7_fill_53178 ∈ lw_g) (lwq_2 (dqa_m (dqa_m (dqa_m (List.mem_of_getElem? (i := 2) rfl)))) rfl : Cond.static yJ7_fill_53178 ∈ lw_g) (lwq_1 (List.mem_of_getElem? (i := 7) rfl) rfl : Cond.initialized yJ7_fill_53178.cls ∈ lw_g) (lwq_2 (dqa_m (dqa_m (dqa_m (List.mem_of_getElem? (i := 3) rfl)))) rfl : Cond.code yJ7_fill_53178 cJ7_fill_53178 4 none ∈ lw_g), ⟨by decide, by decide, by decide +kernel⟩⟩
theorem bk_X7_tally_13 : ck_ fX7 none cX7_tally 13 [.aload 0, .tableswitch 0 7 3 #[], .iconst 0] 18 = true := qck_r (nn_ _) (by decide +kernel)
theorem bs_X7_tally_13 {P : Zt → Option Zv → Prop} (K : Int → Zl → List Zv → Zt → Prop) : sx_ K P [.aload 0, .tableswitch 0 7 3 #[], .iconst 0] 18 = x_aload 0 (x_g1 107 543 (x_iconst 0 (K 18))) := ((xe_aload 0).trans (congrArg (x_aload 0) ((xe_g1 (kk := 107) rfl tl_7_3).trans (congrArg (x_g1 107 543) ((xe_iconst 0).trans (congrArg (x_iconst 0) xe_nil))))))
theorem bk_X7_tally_21 : ck_ fX7 none cX7_tally 21 [.aload 0, .tableswitch 0 7 4 #[], .iconst 0] 26 = true := qck_r (nn_ _) (by decide +kernel)
theorem bs_X7_tally_21 {P : Zt → Option Zv → Prop} (K : Int → Zl → List Zv → Zt → Prop) : sx_ K P [.aload 0, .tableswitch 0 7 4 #[], .iconst 0] 26 = x_aload 0 (x_g1 107 544 (x_iconst 0 (K 26))) := ((xe_aload 0).trans (congrArg (x_aload 0) ((xe_g1 (kk := 107) rfl tl_7_4).trans (congrArg (x_g1 107 544) ((xe_iconst 0).trans (congrArg (x_iconst 0) xe_nil))))))
theorem bk_X7_tally_29 : ck_ fX7 none cX7_tally 29 [.aload 0, .tableswitch 0 7 5 #[], .iconst 0] 34 = true := qck_r (nn_ _) (by decide +kernel)
theorem bs_X7_tally_29 {P : Zt → Option Zv → Prop} (K : Int → Zl → List Zv → Zt → Prop) : sx_ K P [.aload 0, .tableswitch 0 7 5 #[], .iconst 0] 34 = x_aload 0 (x_g1 107 545 (x_iconst 0 (K 34))) := ((xe_aload 0).trans (congrArg (x_aload 0) ((xe_g1 (kk := 107) rfl tl_7_5).trans (congrArg (x_g1 107 545) ((xe_iconst 0).trans (congrArg (x_iconst 0) xe_nil))))))
theorem bk_X7_tally_37 : ck_ fX7 none cX7_tally 37 [.aload 0, .tableswitch 0 7 6 #[], .iconst 0] 42 = true := qck_r (nn_ _) (by decide +kernel)
theorem bs_X7_tally_37 {P : Zt → Option Zv → Prop} (K : Int → Zl → List Zv → Zt → Prop) : sx_ K P [.aload 0, .tableswitch 0 7 6 #[], .iconst 0] 42 = x_aload 0 (x_g1 107 546 (x_iconst 0 (K 42))) := ((xe_aload 0).trans (congrArg (x_aload 0) ((xe_g1 (kk := 107) rfl tl_7_6).trans (congrArg (x_g1 107 546) ((xe_iconst 0).trans (congrArg (x_iconst 0) xe_nil))))))
theorem bk_X7_tally_45 : ck_ fX7 none cX7_tally 45 [.iconst 0, .istore 3] 47 = true := qck_r (nn_ _) (by decide +kernel)
theorem bs_X7_tally_45 {P : Zt → Option Zv → Prop} (K : Int → Zl → List Zv → Zt → Prop) : sx_ K P [.iconst 0, .istore 3] 47 = x_iconst 0 (x_istore 3 (K 47)) := ((xe_iconst 0).trans (congrArg (x_iconst 0) ((xe_istore 3).trans (congrArg (x_istore 3) xe_nil))))
abbrev po_X7_tally (T : Zt) (c : Int) (d : Int) : Zt → Option Zv → Prop := fun T' r => r = none ∧ fr_ [(107, [1]), (542, []), (543, []), (544, []), (545, []), (546, [])] T T' ∧ (T' 107 0 1 = c + 1)
set_option maxHeartbeats 4000000 in
theorem ct_X7_tally {T : Zt} {c : Int} {d : Int} (hka : KA_ T) (hkc : KC_ T) (hc : 0 ≤ c ∧ c < T 106 0 2) : Ct_ yX7_tally zX7_tally T [vR 107 0, vR 100 c, vI d] (po_X7_tally T c d) := by
  refine ct_of pn_7 rfl rfl (Nat.le_of_ble_eq_true rfl) (fun hT hav => ?_)
  have hr_d : -2147483648 ≤ d ∧ d ≤ 2147483647 := hav (vI d) (List.mem_cons_of_mem _ (List.mem_cons_of_mem _ List.mem_cons_self))
  have hz : zX7_tally.2.2.2.1 = some .boolean → ∀ (T' : Zt) (x : Int), po_X7_tally T c d T' (some (vI x)) → 0 ≤ x ∧ x ≤ 1 := fun h => by cases h
  have hk2 := hkc c hc.1 hc.2
  have hb_matchCount : 0 ≤ T 106 0 4 ∧ T 106 0 4 ≤ 400 := bd_f hT 106 4 tl_6_4 0
  have hcc : 0 ≤ T 106 0 2 ∧ T 106 0 2 ≤ 4 := bd_f hT 106 2 tl_6_2 0
  have hfm : 0 ≤ T 100 c 7 ∧ T 100 c 7 ≤ 400 := bd_f hT 100 7 tl_0_7 c
  have hmc : 0 ≤ T 100 c 8 ∧ T 100 c 8 ≤ 400 := bd_f hT 100 8 tl_0_8 c
  have hen : 0 ≤ T 100 c 5 ∧ T 100 c 5 ≤ 12 := bd_f hT 100 5 tl_0_5 c
  show J_ zX7_tally T (po_X7_tally T c d) 0 0 0 [some (vR 107 0), some (vR 100 c), some (vI d), none, none] [] T
  have c_126 : ∀ (nn : Nat) (k : Int) (T2 : Zt), ((12 - k).toNat) ≤ nn → (fr_ [(107, [1]), (542, []), (543, []), (544, []), (545, []), (546, [])] T T2) → (0 ≤ k ∧ k ≤ 12) → (T2 107 0 1 = c + 1) → J_ zX7_tally T (po_X7_tally T c d) 0 0 126 [some (vR 107 0), some (vR 100 c), some (vI d), some (vI k), none] [] T2 := by
    intro nn
    induction nn using Nat.strongRecOn with
    | _ nn ih_126 =>
      intro k T2 hm_126 hf_126 i2 i3
      replace hm_126 := fun (_ : Unit) => hm_126
      refine j_blx (F := fX7) tb_X7 (nn_ _) bk_X7_tally_126 bs_X7_tally_126 hz (fun K hK => ?_)
      refine And.intro (fun c1 => ?_) (fun c1 => ?_)
      · exact absurd c1 (by omega)
      · have z2 : T2 107 0 1 - 1 = c := by omega
        rw [z2]
        intro b3 b3b
        have e4 : T2 100 c 5 = T 100 c 5 := hf_126 100 c 5 rfl
        rw [e4] at b3 b3b ⊢
        refine And.intro (fun c5 => ?_) (fun c5 => ?_)
        · refine hK 182 _ [] T2 ?_
          refine j_blx (F := fX7) tb_X7 (nn_ _) bk_X7_tally_182 bs_X7_tally_182 hz (fun K hK => ?_)
          refine (show po_X7_tally T c d T2 (none) from ?_)
          exact ⟨rfl, fr_t (fr_0 _ _) (fr_s hf_126 rfl), by omega⟩
        · refine rg_i (by omega) ?_
          refine rg_i (by omega) ?_
          refine ix_i (by omega) ?_
          intro b6 b6b
          refine And.intro (fun c7 => ?_) (fun c7 => ?_)
          · exact absurd c7 (by omega)
          · have z8 : T2 107 0 1 - 1 = c := by omega
            rw [z8]
            intro b9 b9b
            have e10 : T2 100 c 0 = T 100 c 0 := hf_126 100 c 0 rfl
            rw [e10] at b9 b9b ⊢
            refine And.intro (fun c11 => ?_) (fun c11 => ?_)
            · exact absurd c11 (by omega)
            · have z12 : T2 107 0 1 - 1 = c := by omega
              rw [z12]
              refine ix_i (by omega) ?_
              intro b13 b13b
              have e14 : T2 403 c k = T 403 c k := hf_126 403 c k rfl
              rw [e14] at b13 b13b ⊢
              refine hK 171 _ [vI (T 403 c k), vI (T 100 c 0), vI d, vR 106 0, vI (T2 542 0 ((k * 8) + 6)), vI ((k * 8) + 6), vR 542 0] T2 ?_
              refine j_callV (y := yX6_deductedUpTo) (Yc := zX6_deductedUpTo) (rest := [vI (T2 542 0 ((k * 8) + 6)), vI ((k * 8) + 6), vR 542 0]) [vI d, vI (T 100 c 0), vI (T 403 c k)] (ct_X6_deductedUpTo (T := T2)) cl_X7_105 (qd_c (by decide +kernel)) (nn_ _) rfl (rf_of rfl) (Nat.le_of_ble_eq_true rfl) (Nat.le_of_ble_eq_true rfl) (Nat.le_of_ble_eq_true rfl) rfl ?_
              rintro _ _ ⟨rfl, x15, rfl, hx15⟩
              show J_ zX7_tally T (po_X7_tally T c d) 0 0 174 _ [vI x15, vI (T2 542 0 ((k * 8) + 6)), vI ((k * 8) + 6), vR 542 0] T2
              refine j_blx (F := fX7) tb_X7 (nn_ _) bk_X7_tally_174 bs_X7_tally_174 hz (fun K hK => ?_)
              intro w16 w16b
              refine iy_i (by omega) (by omega) ?_
              refine x_nm (fun U17 hU17 => ?_)
              have e18 := up_f hU17
              refine rg_i (by omega) ?_
              refine hK 126 [some (vR 107 0), some (vR 100 c), some (vI d), some (vI (k + 1)), none] [] U17 ?_
              have e19 : U17 107 0 1 = T2 107 0 1 := up_k hU17 (by exact Nat.ne_of_beq_eq_false rfl) 0 1
              refine ih_126 _ ?_ (k + 1) U17 (Nat.le_refl _) ?_ ?_ ?_
              · have hm_126 := hm_126 (); omega
              · exact fr_u (fr_t (fr_0 _ _) (fr_s hf_126 rfl)) hU17 rfl
              · omega
              · omega
  have c_47 : ∀ (nn : Nat) (k : Int) (T1 : Zt), ((T 100 c 8 - k).toNat) ≤ nn → (fr_ [(107, [1]), (542, []), (543, []), (544, []), (545, []), (546, [])] T T1) → (0 ≤ k ∧ k ≤ T 100 c 8) → (T1 107 0 1 = c + 1) → J_ zX7_tally T (po_X7_tally T c d) 0 0 47 [some (vR 107 0), some (vR 100 c), some (vI d), some (vI k), none] [] T1 := by
    intro nn
    induction nn using Nat.strongRecOn with
    | _ nn ih_47 =>
      intro k T1 hm_47 hf_47 i1 i0
      replace hm_47 := fun (_ : Unit) => hm_47
      refine j_blx (F := fX7) tb_X7 (nn_ _) bk_X7_tally_47 bs_X7_tally_47 hz (fun K hK => ?_)
      refine And.intro (fun c20 => ?_) (fun c20 => ?_)
      · exact absurd c20 (by omega)
      · have z21 : T1 107 0 1 - 1 = c := by omega
        rw [z21]
        intro b22 b22b
        have e23 : T1 100 c 8 = T 100 c 8 := hf_47 100 c 8 rfl
        rw [e23] at b22 b22b ⊢
        refine And.intro (fun c24 => ?_) (fun c24 => ?_)
        · refine hK 124 _ [] T1 ?_
          refine j_blx (F := fX7) tb_X7 (nn_ _) bk_X7_tally_124 bs_X7_tally_124 hz (fun K hK => ?_)
          refine hK 126 [some (vR 107 0), some (vR 100 c), some (vI d), some (vI 0), none] [] T1 ?_
          refine c_126 _ 0 T1 (Nat.le_refl _) ?_ ?_ ?_
          · exact fr_t (fr_0 _ _) (fr_s hf_47 rfl)
          · omega
          · omega
        · refine And.intro (fun c25 => ?_) (fun c25 => ?_)
          · exact absurd c25 (by omega)
          · have z26 : T1 107 0 1 - 1 = c := by omega
            rw [z26]
            intro b27 b27b
            have e28 : T1 100 c 7 = T 100 c 7 := hf_47 100 c 7 rfl
            rw [e28] at b27 b27b ⊢
            refine rg_i (by omega) ?_
            refine ix_i (by omega) ?_
            have e30 : T1 523 0 ((T 100 c 7) + k) = T 523 0 ((T 100 c 7) + k) := hf_47 523 0 ((T 100 c 7) + k) rfl
            refine And.intro (fun c29 => ?_) (fun c29 => ?_)
            · exact absurd (show T 523 0 (T 100 c 7 + k) = 0 by omega) (hka.2 _ (by omega) (by omega))
            · intro b31 b31b
              have e32 : T1 102 ((T 100 c 7) + k) 5 = T 102 ((T 100 c 7) + k) 5 := hf_47 102 ((T 100 c 7) + k) 5 rfl
              rw [e32] at b31 b31b ⊢
              refine And.intro (fun c33 => ?_) (fun c33 => ?_)
              · refine hK 118 [some (vR 107 0), some (vR 100 c), some (vI d), some (vI k), some (vR 102 ((T 100 c 7) + k))] [] T1 ?_
                refine j_blx (F := fX7) tb_X7 (nn_ _) bk_X7_tally_118 bs_X7_tally_118 hz (fun K hK => ?_)
                refine rg_i (by omega) ?_
                refine hK 47 [some (vR 107 0), some (vR 100 c), some (vI d), some (vI (k + 1)), some (vR 102 ((T 100 c 7) + k))] [] T1 ?_
                refine j_drop [some (vR 107 0), some (vR 100 c), some (vI d), some (vI (k + 1)), none] (fun k v hk => ?_) rfl ?_
                · match k, hk with
                  | 0, hk => exact hk
                  | 1, hk => exact hk
                  | 2, hk => exact hk
                  | 3, hk => exact hk
                  | 4, hk => cases hk
                  | k + 5, hk => cases hk
                refine ih_47 _ ?_ (k + 1) T1 (Nat.le_refl _) ?_ ?_ ?_
                · have hm_47 := hm_47 (); omega
                · exact fr_t (fr_0 _ _) (fr_s hf_47 rfl)
                · omega
                · omega
              · refine hK 88 [some (vR 107 0), some (vR 100 c), some (vI d), some (vI k), some (vR 102 ((T 100 c 7) + k))] [vR 102 ((T 100 c 7) + k)] T1 ?_
                refine j_callV (y := yX2_isDecided) (Yc := zX2_isDecided) (rest := []) [] (ct_X2_isDecided (T := T1)) cl_X7_80 (qd_c (by decide +kernel)) (nn_ _) rfl (rf_of rfl) (Nat.le_of_ble_eq_true rfl) (Nat.le_of_ble_eq_true rfl) (Nat.le_of_ble_eq_true rfl) rfl ?_
                rintro _ _ ⟨rfl, x34, rfl, hx34⟩
                show J_ zX7_tally T (po_X7_tally T c d) 0 0 91 _ [vI x34] T1
                refine j_blx (F := fX7) tb_X7 (nn_ _) bk_X7_tally_91 bs_X7_tally_91 hz (fun K hK => ?_)
                refine And.intro (fun c35 => ?_) (fun c35 => ?_)
                · refine hK 118 _ [] T1 ?_
                  refine j_blx (F := fX7) tb_X7 (nn_ _) bk_X7_tally_118 bs_X7_tally_118 hz (fun K hK => ?_)
                  refine rg_i (by omega) ?_
                  refine hK 47 [some (vR 107 0), some (vR 100 c), some (vI d), some (vI (k + 1)), some (vR 102 ((T 100 c 7) + k))] [] T1 ?_
                  refine j_drop [some (vR 107 0), some (vR 100 c), some (vI d), some (vI (k + 1)), none] (fun k v hk => ?_) rfl ?_
                  · match k, hk with
                    | 0, hk => exact hk
                    | 1, hk => exact hk
                    | 2, hk => exact hk
                    | 3, hk => exact hk
                    | 4, hk => cases hk
                    | k + 5, hk => cases hk
                  refine ih_47 _ ?_ (k + 1) T1 (Nat.le_refl _) ?_ ?_ ?_
                  · have hm_47 := hm_47 (); omega
                  · exact fr_t (fr_0 _ _) (fr_s hf_47 rfl)
                  · omega
                  · omega
                · refine hK 100 [some (vR 107 0), some (vR 100 c), some (vI d), some (vI k), some (vR 102 ((T 100 c 7) + k))] [vI 0, vR 102 ((T 100 c 7) + k), vR 102 ((T 100 c 7) + k), vR 107 0] T1 ?_
                  refine j_callV (y := yX2_scoreOf) (Yc := zX2_scoreOf) (rest := [vR 102 ((T 100 c 7) + k), vR 107 0]) [vI 0] (ct_X2_scoreOf (T := T1) (by omega)) cl_X7_84 (qd_c (by decide +kernel)) (nn_ _) rfl (rf_of rfl) (Nat.le_of_ble_eq_true rfl) (Nat.le_of_ble_eq_true rfl) (Nat.le_of_ble_eq_true rfl) rfl ?_
                  rintro _ _ ⟨rfl, x36, rfl, hx36⟩
                  show J_ zX7_tally T (po_X7_tally T c d) 0 0 103 _ [vI x36, vR 102 ((T 100 c 7) + k), vR 107 0] T1
                  refine j_blx (F := fX7) tb_X7 (nn_ _) bk_X7_tally_103 bs_X7_tally_103 hz (fun K hK => ?_)
                  refine hK 106 _ [vI 1, vR 102 ((T 100 c 7) + k), vI x36, vR 102 ((T 100 c 7) + k), vR 107 0] T1 ?_
                  refine j_callV (y := yX2_scoreOf) (Yc := zX2_scoreOf) (rest := [vI x36, vR 102 ((T 100 c 7) + k), vR 107 0]) [vI 1] (ct_X2_scoreOf (T := T1) (by omega)) cl_X7_84 (qd_c (by decide +kernel)) (nn_ _) rfl (rf_of rfl) (Nat.le_of_ble_eq_true rfl) (Nat.le_of_ble_eq_true rfl) (Nat.le_of_ble_eq_true rfl) rfl ?_
                  rintro _ _ ⟨rfl, x37, rfl, hx37⟩
                  show J_ zX7_tally T (po_X7_tally T c d) 0 0 109 _ [vI x37, vI x36, vR 102 ((T 100 c 7) + k), vR 107 0] T1
                  refine j_callV (y := yX7_addResult) (Yc := zX7_addResult) (rest := []) [vR 102 ((T 100 c 7) + k), vI x36, vI x37] (ct_X7_addResult (T := T1) (by omega)) cl_X7_88 (qd_c (by decide +kernel)) (nn_ _) rfl (rf_of rfl) (Nat.le_of_ble_eq_true rfl) (Nat.le_of_ble_eq_true rfl) (Nat.le_of_ble_eq_true rfl) rfl ?_
                  rintro U38 _ ⟨rfl, fU38, qU38⟩
                  show J_ zX7_tally T (po_X7_tally T c d) 0 0 112 _ [] U38
                  refine j_blx (F := fX7) tb_X7 (nn_ _) bk_X7_tally_112 bs_X7_tally_112 hz (fun K hK => ?_)
                  refine hK 115 _ [vR 102 ((T 100 c 7) + k), vR 107 0] U38 ?_
                  have e39 : U38 107 0 1 = T1 107 0 1 := fU38 107 0 1 rfl
                  refine j_callV (y := yX7_addCards) (Yc := zX7_addCards) (rest := []) [vR 102 ((T 100 c 7) + k)] (ct_X7_addCards (T := U38) (by omega)) cl_X7_92 (qd_c (by decide +kernel)) (nn_ _) rfl (rf_of rfl) (Nat.le_of_ble_eq_true rfl) (Nat.le_of_ble_eq_true rfl) (Nat.le_of_ble_eq_true rfl) rfl ?_
                  rintro U40 _ ⟨rfl, fU40, qU40⟩
                  show J_ zX7_tally T (po_X7_tally T c d) 0 0 118 _ [] U40
                  refine j_blx (F := fX7) tb_X7 (nn_ _) bk_X7_tally_118 bs_X7_tally_118 hz (fun K hK => ?_)
                  refine rg_i (by omega) ?_
                  refine hK 47 [some (vR 107 0), some (vR 100 c), some (vI d), some (vI (k + 1)), some (vR 102 ((T 100 c 7) + k))] [] U40 ?_
                  refine j_drop [some (vR 107 0), some (vR 100 c), some (vI d), some (vI (k + 1)), none] (fun k v hk => ?_) rfl ?_
                  · match k, hk with
                    | 0, hk => exact hk
                    | 1, hk => exact hk
                    | 2, hk => exact hk
                    | 3, hk => exact hk
                    | 4, hk => cases hk
                    | k + 5, hk => cases hk
                  have e41 : U40 107 0 1 = T1 107 0 1 := (fU40 107 0 1 rfl).trans (fU38 107 0 1 rfl)
                  refine ih_47 _ ?_ (k + 1) U40 (Nat.le_refl _) ?_ ?_ ?_
                  · have hm_47 := hm_47 (); omega
                  · exact fr_t (fr_t (fr_t (fr_0 _ _) (fr_s hf_47 rfl)) (fr_s fU38 rfl)) (fr_s fU40 rfl)
                  · omega
                  · omega
  refine j_blx (F := fX7) tb_X7 (nn_ _) bk_X7_tally_0 bs_X7_tally_0 hz (fun K hK => ?_)
  refine hK 2 _ [vR 100 c, vR 107 0] T ?_
  refine j_putR (pc := 2) (ci := 7) (j := 1) (by decide) fr5_X7_50 rfl (by decide +kernel) (by omega) (by omega) (by omega) ?_
  refine j_nm (fun U42 hU42 => ?_)
  have e43 := up_f hU42
  show J_ zX7_tally T (po_X7_tally T c d) 0 0 5 _ [] U42
  refine j_blx (F := fX7) tb_X7 (nn_ _) bk_X7_tally_5 bs_X7_tally_5 hz (fun K hK => ?_)
  refine hK 10 _ [vI 0, vR 542 0] U42 ?_
  refine j_callS (y := yJ7_fill_53178) (Yc := zJ7_fill_53178) (rest := []) [vR 542 0, vI 0] (ct_J7_fill_542 (T := U42) (by omega)) cl_X7_54 (qd_c (by decide +kernel)) (nn_ _) rfl (rf_of rfl) (Nat.le_of_ble_eq_true rfl) (Nat.le_of_ble_eq_true rfl) (Nat.le_of_ble_eq_true rfl) rfl ?_
  rintro U44 _ ⟨rfl, fU44, qU44o, qU44⟩
  show J_ zX7_tally T (po_X7_tally T c d) 0 0 13 _ [] U44
  refine j_blx (F := fX7) tb_X7 (nn_ _) bk_X7_tally_13 bs_X7_tally_13 hz (fun K hK => ?_)
  refine hK 18 _ [vI 0, vR 543 0] U44 ?_
  refine j_callS (y := yJ7_fill_53178) (Yc := zJ7_fill_53178) (rest := []) [vR 543 0, vI 0] (ct_J7_fill_543 (T := U44) (by omega)) cl_X7_54 (qd_c (by decide +kernel)) (nn_ _) rfl (rf_of rfl) (Nat.le_of_ble_eq_true rfl) (Nat.le_of_ble_eq_true rfl) (Nat.le_of_ble_eq_true rfl) rfl ?_
  rintro U45 _ ⟨rfl, fU45, qU45o, qU45⟩
  show J_ zX7_tally T (po_X7_tally T c d) 0 0 21 _ [] U45
  refine j_blx (F := fX7) tb_X7 (nn_ _) bk_X7_tally_21 bs_X7_tally_21 hz (fun K hK => ?_)
  refine hK 26 _ [vI 0, vR 544 0] U45 ?_
  refine j_callS (y := yJ7_fill_53178) (Yc := zJ7_fill_53178) (rest := []) [vR 544 0, vI 0] (ct_J7_fill_544 (T := U45) (by omega)) cl_X7_54 (qd_c (by decide +kernel)) (nn_ _) rfl (rf_of rfl) (Nat.le_of_ble_eq_true rfl) (Nat.le_of_ble_eq_true rfl) (Nat.le_of_ble_eq_true rfl) rfl ?_
  rintro U46 _ ⟨rfl, fU46, qU46o, qU46⟩
  show J_ zX7_tally T (po_X7_tally T c d) 0 0 29 _ [] U46
  refine j_blx (F := fX7) tb_X7 (nn_ _) bk_X7_tally_29 bs_X7_tally_29 hz (fun K hK => ?_)
  refine hK 34 _ [vI 0, vR 545 0] U46 ?_
  refine j_callS (y := yJ7_fill_53178) (Yc := zJ7_fill_53178) (rest := []) [vR 545 0, vI 0] (ct_J7_fill_545 (T := U46) (by omega)) cl_X7_54 (qd_c (by decide +kernel)) (nn_ _) rfl (rf_of rfl) (Nat.le_of_ble_eq_true rfl) (Nat.le_of_ble_eq_true rfl) (Nat.le_of_ble_eq_true rfl) rfl ?_
  rintro U47 _ ⟨rfl, fU47, qU47o, qU47⟩
  show J_ zX7_tally T (po_X7_tally T c d) 0 0 37 _ [] U47
  refine j_blx (F := fX7) tb_X7 (nn_ _) bk_X7_tally_37 bs_X7_tally_37 hz (fun K hK => ?_)
  refine hK 42 _ [vI 0, vR 546 0] U47 ?_
  refine j_callS (y := yJ7_fill_53178) (Yc := zJ7_fill_53178) (rest := []) [vR 546 0, vI 0] (ct_J7_fill_546 (T := U47) (by omega)) cl_X7_54 (qd_c (by decide +kernel)) (nn_ _) rfl (rf_of rfl) (Nat.le_of_ble_eq_true rfl) (Nat.le_of_ble_eq_true rfl) (Nat.le_of_ble_eq_true rfl) rfl ?_
  rintro U48 _ ⟨rfl, fU48, qU48o, qU48⟩
  show J_ zX7_tally T (po_X7_tally T c d) 0 0 45 _ [] U48
  refine j_blx (F := fX7) tb_X7 (nn_ _) bk_X7_tally_45 bs_X7_tally_45 hz (fun K hK => ?_)
  refine hK 47 [some (vR 107 0), some (vR 100 c), some (vI d), some (vI 0), none] [] U48 ?_
  have e49 : U48 107 0 1 = c + 1 := (fU48 107 0 1 rfl).trans ((fU47 107 0 1 rfl).trans ((fU46 107 0 1 rfl).trans ((fU45 107 0 1 rfl).trans ((fU44 107 0 1 rfl).trans (up_f hU42)))))
  refine c_47 _ 0 U48 (Nat.le_refl _) ?_ ?_ ?_
  · exact fr_t (fr_t (fr_t (fr_t (fr_t (fr_u (fr_0 _ _) hU42 rfl) (fr_s fU44 rfl)) (fr_s fU45 rfl)) (fr_s fU46 rfl)) (fr_s fU47 rfl)) (fr_s fU48 rfl)
  · omega
  · omega
abbrev RJ6 : String := "java/lang/Integer"
def fJ6 : Zf := ([], [], [(265, 1431655765), (266, 858993459), (267, 252645135), (264, 65536)], [])
set_option maxRecDepth 100000 in
set_option maxHeartbeats 4000000 in
theorem tg_J6 : ∀ q ∈ fJ6.1, fl_ RJ6 q.1 q.2.1 q.2.2 := fun _ h => absurd h List.not_mem_nil
set_option maxRecDepth 100000 in
set_option maxHeartbeats 4000000 in
theorem tp_J6 : ∀ q ∈ fJ6.2.1, fp_ RJ6 q.1 q.2.1 q.2.2 := fun _ h => absurd h List.not_mem_nil
theorem tb_J6 : tb_ RJ6 fJ6 := ⟨tg_J6, tp_J6, List.forall_mem_cons.mpr ⟨⟨lwq_5 (dqc_m (dqc_m (dqc_m (dqa_m (List.mem_of_getElem? (i := 6) rfl))))) rfl, by decide, by decide⟩, List.forall_mem_cons.mpr ⟨⟨lwq_5 (dqc_m (dqc_m (dqc_m (dqa_m (List.mem_of_getElem? (i := 7) rfl))))) rfl, by decide, by decide⟩, List.forall_mem_cons.mpr ⟨⟨lwq_5 (dqc_m (dqc_m (dqc_m (dqa_m (dqa_m (List.mem_of_getElem? (i := 0) rfl)))))) rfl, by decide, by decide⟩, List.forall_mem_cons.mpr ⟨⟨lwq_6 (dqc_m (dqc_m (dqa_m (dqa_m (List.mem_of_getElem? (i := 6) rfl))))) rfl, by decide, by decide⟩, fun _ h => absurd h List.not_mem_nil⟩⟩⟩⟩, fun _ h => absurd h List.not_mem_nil⟩
abbrev cJ6_bitCount_0f7a4 : ByteArray := prog_15_method_49_code
def yJ6_bitCount_0f7a4 : MethodName := ⟨RJ6, "bitCount", "(I)I"⟩
def zJ6_bitCount_0f7a4 : Zm := (RJ6, cJ6_bitCount_0f7a4, 1, (some .int), { frames := 0, cells := 0, slots := 0, locals := 0 })
abbrev cX3_hit : ByteArray := prog_5_method_23_code
def yX3_hit : MethodName := ⟨RX3, "hit", "(II)V"⟩
def zX3_hit : Zm := (RX3, cX3_hit, 4, none, { frames := 2, cells := 0, slots := 0, locals := 45 })
set_option maxRecDepth 100000 in
theorem cl_X3_138 : cs_ RX3 138 yJ6_bitCount_0f7a4 zJ6_bitCount_0f7a4 1 := ⟨gi_S (lwq_5 (dqc_m (dqc_m (dqc_m (dqa_m (List.mem_of_getElem? (i := 3) rfl))))) rfl : Cond.methodLink RX3 138 yJ6_bitCount_0f7a4 ∈ lw_g) (lwq_5 (dqc_m (dqc_m (dqc_m (dqa_m (List.mem_of_getElem? (i := 4) rfl))))) rfl : Cond.static yJ6_bitCount_0f7a4 ∈ lw_g) (lwq_1 (dqa_m (dqa_m (List.mem_of_getElem? (i := 3) rfl))) rfl : Cond.initialized yJ6_bitCount_0f7a4.cls ∈ lw_g) (lwq_5 (dqc_m (dqc_m (dqc_m (dqa_m (List.mem_of_getElem? (i := 5) rfl))))) rfl : Cond.code yJ6_bitCount_0f7a4 cJ6_bitCount_0f7a4 1 (some .int) ∈ lw_g), ⟨by decide, by decide, by decide +kernel⟩⟩
abbrev cX3_playBaseball : ByteArray := prog_5_method_22_code
def yX3_playBaseball : MethodName := ⟨RX3, "playBaseball", "(III)V"⟩
def zX3_playBaseball : Zm := (RX3, cX3_playBaseball, 4, none, { frames := 3, cells := 0, slots := 0, locals := 68 })
theorem ds_X3_playBaseball_1 : decode cX3_playBaseball 1 = .ok (.tableswitch 91 1 3 #[27, 36, 64], 27) := by decide +kernel
set_option maxRecDepth 100000 in
theorem cl_X3_129 : cv_ RX3 129 yX3_hit zX3_hit 3 2 := ⟨gi_V (lwq_5 (dqc_m (dqc_m (dqc_m (List.mem_of_getElem? (i := 7) rfl)))) rfl : Cond.methodLink RX3 129 yX3_hit ∈ lw_g) (lwq_5 (dqc_m (dqc_m (dqc_m (dqa_m (List.mem_of_getElem? (i := 1) rfl))))) rfl : Cond.instanceMethod yX3_hit ∈ lw_g) (lw_sel 89 rfl : Cond.selects yX3_hit.cls yX3_hit yX3_hit ∈ lw_g) (lwq_1 (dqa_m (dqa_m (List.mem_of_getElem? (i := 2) rfl))) rfl : Cond.initialized yX3_hit.cls ∈ lw_g) (lwq_5 (dqc_m (dqc_m (dqc_m (dqa_m (List.mem_of_getElem? (i := 2) rfl))))) rfl : Cond.code yX3_hit cX3_hit 4 none ∈ lw_g), ⟨nmh_3.1, nmh_3.2, pdq_0⟩, ⟨_, _, rfl⟩⟩
set_option maxRecDepth 100000 in
theorem cl_X3_132 : cv_ RX3 132 yX3_walk zX3_walk 3 1 := ⟨gi_V (lwq_5 (dqc_m (dqc_m (dqc_m (dqa_m (dqa_m (dqa_m (List.mem_of_getElem? (i := 1) rfl))))))) rfl : Cond.methodLink RX3 132 yX3_walk ∈ lw_g) (lwq_5 (dqc_m (dqc_m (dqc_m (dqa_m (dqa_m (dqa_m (List.mem_of_getElem? (i := 3) rfl))))))) rfl : Cond.instanceMethod yX3_walk ∈ lw_g) (lw_sel 102 rfl : Cond.selects yX3_walk.cls yX3_walk yX3_walk ∈ lw_g) (lwq_1 (dqa_m (dqa_m (List.mem_of_getElem? (i := 2) rfl))) rfl : Cond.initialized yX3_walk.cls ∈ lw_g) (lwq_5 (dqc_m (dqc_m (dqc_m (dqa_m (dqa_m (dqa_m (List.mem_of_getElem? (i := 4) rfl))))))) rfl : Cond.code yX3_walk cX3_walk 3 none ∈ lw_g), ⟨nmh_3.1, nmh_3.2, pdq_9⟩, ⟨_, _, rfl⟩⟩
set_option maxRecDepth 100000 in
theorem cl_X3_135 : cv_ RX3 135 yX3_countOut zX3_countOut 3 0 := ⟨gi_V (lwq_5 (dqc_m (dqc_m (dqc_m (dqa_m (dqa_m (dqa_m (List.mem_of_getElem? (i := 5) rfl))))))) rfl : Cond.methodLink RX3 135 yX3_countOut ∈ lw_g) (lwq_5 (dqc_m (dqc_m (dqc_m (dqa_m (dqa_m (dqa_m (List.mem_of_getElem? (i := 7) rfl))))))) rfl : Cond.instanceMethod yX3_countOut ∈ lw_g) (lw_sel 85 rfl : Cond.selects yX3_countOut.cls yX3_countOut yX3_countOut ∈ lw_g) (lwq_1 (dqa_m (dqa_m (List.mem_of_getElem? (i := 2) rfl))) rfl : Cond.initialized yX3_countOut.cls ∈ lw_g) (lwq_5 (dqc_m (dqc_m (dqc_m (dqc_m (List.mem_of_getElem? (i := 0) rfl))))) rfl : Cond.code yX3_countOut cX3_countOut 1 none ∈ lw_g), ⟨nmh_3.1, nmh_3.2, pdq_1⟩, ⟨_, _, rfl⟩⟩
abbrev cX3_carryOut : ByteArray := prog_5_method_12_code
def yX3_carryOut : MethodName := ⟨RX3, "carryOut", "(IIII)V"⟩
def zX3_carryOut : Zm := (RX3, cX3_carryOut, 5, none, { frames := 4, cells := 0, slots := 0, locals := 91 })
theorem ds_X3_carryOut_20 : decode cX3_carryOut 20 = .ok (.tableswitch 55 0 2 #[28, 38, 46], 28) := by decide +kernel
set_option maxRecDepth 100000 in
theorem cl_X3_99 : cv_ RX3 99 yX3_playFootball zX3_playFootball 3 3 := ⟨gi_V (lwq_5 (dqc_m (dqc_m (List.mem_of_getElem? (i := 4) rfl))) rfl : Cond.methodLink RX3 99 yX3_playFootball ∈ lw_g) (lwq_5 (dqc_m (dqc_m (List.mem_of_getElem? (i := 6) rfl))) rfl : Cond.instanceMethod yX3_playFootball ∈ lw_g) (lw_sel 94 rfl : Cond.selects yX3_playFootball.cls yX3_playFootball yX3_playFootball ∈ lw_g) (lwq_1 (dqa_m (dqa_m (List.mem_of_getElem? (i := 2) rfl))) rfl : Cond.initialized yX3_playFootball.cls ∈ lw_g) (lwq_5 (dqc_m (dqc_m (List.mem_of_getElem? (i := 7) rfl))) rfl : Cond.code yX3_playFootball cX3_playFootball 4 none ∈ lw_g), ⟨nmh_3.1, nmh_3.2, pdq_3⟩, ⟨_, _, rfl⟩⟩
set_option maxRecDepth 100000 in
theorem cl_X3_102 : cv_ RX3 102 yX3_playVolleyball zX3_playVolleyball 3 1 := ⟨gi_V (lwq_5 (dqc_m (dqc_m (dqa_m (dqa_m (List.mem_of_getElem? (i := 4) rfl))))) rfl : Cond.methodLink RX3 102 yX3_playVolleyball ∈ lw_g) (lwq_5 (dqc_m (dqc_m (dqa_m (dqa_m (List.mem_of_getElem? (i := 6) rfl))))) rfl : Cond.instanceMethod yX3_playVolleyball ∈ lw_g) (lw_sel 96 rfl : Cond.selects yX3_playVolleyball.cls yX3_playVolleyball yX3_playVolleyball ∈ lw_g) (lwq_1 (dqa_m (dqa_m (List.mem_of_getElem? (i := 2) rfl))) rfl : Cond.initialized yX3_playVolleyball.cls ∈ lw_g) (lwq_5 (dqc_m (dqc_m (dqa_m (dqa_m (List.mem_of_getElem? (i := 7) rfl))))) rfl : Cond.code yX3_playVolleyball cX3_playVolleyball 3 none ∈ lw_g), ⟨nmh_3.1, nmh_3.2, pdq_9⟩, ⟨_, _, rfl⟩⟩
set_option maxRecDepth 100000 in
theorem cl_X3_106 : cv_ RX3 106 yX3_playTennis zX3_playTennis 3 2 := ⟨gi_V (lwq_5 (dqc_m (dqc_m (dqa_m (dqa_m (dqa_m (List.mem_of_getElem? (i := 7) rfl)))))) rfl : Cond.methodLink RX3 106 yX3_playTennis ∈ lw_g) (lwq_5 (dqc_m (dqc_m (dqc_m (List.mem_of_getElem? (i := 1) rfl)))) rfl : Cond.instanceMethod yX3_playTennis ∈ lw_g) (lw_sel 95 rfl : Cond.selects yX3_playTennis.cls yX3_playTennis yX3_playTennis ∈ lw_g) (lwq_1 (dqa_m (dqa_m (List.mem_of_getElem? (i := 2) rfl))) rfl : Cond.initialized yX3_playTennis.cls ∈ lw_g) (lwq_5 (dqc_m (dqc_m (dqc_m (List.mem_of_getElem? (i := 2) rfl)))) rfl : Cond.code yX3_playTennis cX3_playTennis 5 none ∈ lw_g), ⟨nmh_3.1, nmh_3.2, pdq_0⟩, ⟨_, _, rfl⟩⟩
set_option maxRecDepth 100000 in
theorem cl_X3_110 : cv_ RX3 110 yX3_playBaseball zX3_playBaseball 3 3 := ⟨gi_V (lwq_5 (dqc_m (dqc_m (dqc_m (List.mem_of_getElem? (i := 3) rfl)))) rfl : Cond.methodLink RX3 110 yX3_playBaseball ∈ lw_g) (lwq_5 (dqc_m (dqc_m (dqc_m (List.mem_of_getElem? (i := 5) rfl)))) rfl : Cond.instanceMethod yX3_playBaseball ∈ lw_g) (lw_sel 93 rfl : Cond.selects yX3_playBaseball.cls yX3_playBaseball yX3_playBaseball ∈ lw_g) (lwq_1 (dqa_m (dqa_m (List.mem_of_getElem? (i := 2) rfl))) rfl : Cond.initialized yX3_playBaseball.cls ∈ lw_g) (lwq_5 (dqc_m (dqc_m (dqc_m (List.mem_of_getElem? (i := 6) rfl)))) rfl : Cond.code yX3_playBaseball cX3_playBaseball 4 none ∈ lw_g), ⟨nmh_3.1, nmh_3.2, pdq_3⟩, ⟨_, _, rfl⟩⟩
set_option maxRecDepth 100000 in
theorem cl_X3_95 : cv_ RX3 95 yX3_substitute zX3_substitute 3 3 := ⟨gi_V (lwq_5 (dqc_m (dqc_m (List.mem_of_getElem? (i := 0) rfl))) rfl : Cond.methodLink RX3 95 yX3_substitute ∈ lw_g) (lwq_5 (dqc_m (dqc_m (List.mem_of_getElem? (i := 2) rfl))) rfl : Cond.instanceMethod yX3_substitute ∈ lw_g) (lw_sel 101 rfl : Cond.selects yX3_substitute.cls yX3_substitute yX3_substitute ∈ lw_g) (lwq_1 (dqa_m (dqa_m (List.mem_of_getElem? (i := 2) rfl))) rfl : Cond.initialized yX3_substitute.cls ∈ lw_g) (lwq_5 (dqc_m (dqc_m (List.mem_of_getElem? (i := 3) rfl))) rfl : Cond.code yX3_substitute cX3_substitute 6 none ∈ lw_g), ⟨nmh_3.1, nmh_3.2, pdq_3⟩, ⟨_, _, rfl⟩⟩
abbrev cX9_setCaps : ByteArray := prog_11_method_7_code
def yX9_setCaps : MethodName := ⟨RX9, "setCaps", "(I)V"⟩
def zX9_setCaps : Zm := (RX9, cX9_setCaps, 6, none, { frames := 1, cells := 0, slots := 0, locals := 21 })
theorem bk_X9_setCaps_49 : ck_ fX9 none cX9_setCaps 49 [.iload 5, .aload 0, .tableswitch 0 9 9 #[], .if_icmp .ge 108, .aload 0, .tableswitch 0 9 0 #[], .tableswitch 0 6 3 #[], .aload 0, .tableswitch 0 9 8 #[], .iload 5, .iaload, .aaload, .aload 0, .tableswitch 0 9 5 #[], .tableswitch 0 0 3 #[], .iload 3, .iaload] 82 = true := qck_r (nn_ _) (by decide +kernel)
theorem bs_X9_setCaps_49 {P : Zt → Option Zv → Prop} (K : Int → Zl → List Zv → Zt → Prop) : sx_ K P [.iload 5, .aload 0, .tableswitch 0 9 9 #[], .if_icmp .ge 108, .aload 0, .tableswitch 0 9 0 #[], .tableswitch 0 6 3 #[], .aload 0, .tableswitch 0 9 8 #[], .iload 5, .iaload, .aaload, .aload 0, .tableswitch 0 9 5 #[], .tableswitch 0 0 3 #[], .iload 3, .iaload] 82 = x_iload 5 (x_aload 0 (x_g0 109 9 0 40 (x_if_icmp .ge 108 K (x_aload 0 (x_g1 109 106 (x_g1 106 523 (x_aload 0 (x_g1 109 588 (x_iload 5 (x_iaload (x_aaload (x_aload 0 (x_g5 109 100 5 (x_g2 100 403 (x_iload 3 (x_iaload (K 82))))))))))))))))) := ((xe_iload 5).trans (congrArg (x_iload 5) ((xe_aload 0).trans (congrArg (x_aload 0) ((xe_g0 (kk := 109) rfl tl_9_9).trans (congrArg (x_g0 109 9 0 40) ((xe_if_icmp .ge 108).trans (congrArg (x_if_icmp .ge 108 K) ((xe_aload 0).trans (congrArg (x_aload 0) ((xe_g1 (kk := 109) rfl tl_9_0).trans (congrArg (x_g1 109 106) ((xe_g1 (kk := 106) rfl tl_6_3).trans (congrArg (x_g1 106 523) ((xe_aload 0).trans (congrArg (x_aload 0) ((xe_g1 (kk := 109) rfl tl_9_8).trans (congrArg (x_g1 109 588) ((xe_iload 5).trans (congrArg (x_iload 5) ((xe_iaload).trans (congrArg (x_iaload) ((xe_aaload).trans (congrArg (x_aaload) ((xe_aload 0).trans (congrArg (x_aload 0) ((xe_g5 (kk := 109) rfl tl_9_5).trans (congrArg (x_g5 109 100 5) ((xe_g2 (kk := 100) rfl tl_0_3).trans (congrArg (x_g2 100 403) ((xe_iload 3).trans (congrArg (x_iload 3) ((xe_iaload).trans (congrArg (x_iaload) xe_nil))))))))))))))))))))))))))))))))))
theorem bk_X9_setCaps_108 : ck_ fX9 none cX9_setCaps 108 [.aload 0, .tableswitch 0 9 11 #[], .iload 3, .iload 4, .ifCond .ge 122, .iconst (-1), .goto 136] 122 = true := qck_r (nn_ _) (by decide +kernel)
theorem bs_X9_setCaps_108 {P : Zt → Option Zv → Prop} (K : Int → Zl → List Zv → Zt → Prop) : sx_ K P [.aload 0, .tableswitch 0 9 11 #[], .iload 3, .iload 4, .ifCond .ge 122, .iconst (-1), .goto 136] 122 = x_aload 0 (x_g1 109 591 (x_iload 3 (x_iload 4 (x_ifCond .ge 122 K (x_iconst (-1) (x_goto 136 K)))))) := ((xe_aload 0).trans (congrArg (x_aload 0) ((xe_g1 (kk := 109) rfl tl_9_11).trans (congrArg (x_g1 109 591) ((xe_iload 3).trans (congrArg (x_iload 3) ((xe_iload 4).trans (congrArg (x_iload 4) ((xe_ifCond .ge 122).trans (congrArg (x_ifCond .ge 122 K) ((xe_iconst (-1)).trans (congrArg (x_iconst (-1)) (xe_goto 136)))))))))))))
theorem bk_X9_setCaps_122 : ck_ fX9 none cX9_setCaps 122 [.iload 2, .ifCond .ne 132, .iconst 1000, .goto 136] 132 = true := qck_r (nn_ _) (by decide +kernel)
theorem bs_X9_setCaps_122 {P : Zt → Option Zv → Prop} (K : Int → Zl → List Zv → Zt → Prop) : sx_ K P [.iload 2, .ifCond .ne 132, .iconst 1000, .goto 136] 132 = x_iload 2 (x_ifCond .ne 132 K (x_iconst 1000 (x_goto 136 K))) := ((xe_iload 2).trans (congrArg (x_iload 2) ((xe_ifCond .ne 132).trans (congrArg (x_ifCond .ne 132 K) ((xe_iconst 1000).trans (congrArg (x_iconst 1000) (xe_goto 136)))))))
theorem bk_X9_setCaps_132 : ck_ fX9 none cX9_setCaps 132 [.iload 4, .iload 2, .fdiv, .iastore, .aload 0, .tableswitch 0 9 12 #[], .iload 3, .iconst 0, .iastore, .iinc 3 1, .goto 22] 150 = true := qck_r (nn_ _) (by decide +kernel)
theorem bs_X9_setCaps_132 {P : Zt → Option Zv → Prop} (K : Int → Zl → List Zv → Zt → Prop) : sx_ K P [.iload 4, .iload 2, .fdiv, .iastore, .aload 0, .tableswitch 0 9 12 #[], .iload 3, .iconst 0, .iastore, .iinc 3 1, .goto 22] 150 = x_iload 4 (x_iload 2 (x_fdiv (x_iastore (x_aload 0 (x_g1 109 592 (x_iload 3 (x_iconst 0 (x_iastore (x_iinc 3 1 (x_goto 22 K)))))))))) := ((xe_iload 4).trans (congrArg (x_iload 4) ((xe_iload 2).trans (congrArg (x_iload 2) ((xe_fdiv).trans (congrArg (x_fdiv) ((xe_iastore).trans (congrArg (x_iastore) ((xe_aload 0).trans (congrArg (x_aload 0) ((xe_g1 (kk := 109) rfl tl_9_12).trans (congrArg (x_g1 109 592) ((xe_iload 3).trans (congrArg (x_iload 3) ((xe_iconst 0).trans (congrArg (x_iconst 0) ((xe_iastore).trans (congrArg (x_iastore) ((xe_iinc 3 1).trans (congrArg (x_iinc 3 1) (xe_goto 22)))))))))))))))))))))
theorem bk_X9_setCaps_136 : ck_ fX9 none cX9_setCaps 136 [.iastore, .aload 0, .tableswitch 0 9 12 #[], .iload 3, .iconst 0, .iastore, .iinc 3 1, .goto 22] 150 = true := qck_r (nn_ _) (by decide +kernel)
theorem bs_X9_setCaps_136 {P : Zt → Option Zv → Prop} (K : Int → Zl → List Zv → Zt → Prop) : sx_ K P [.iastore, .aload 0, .tableswitch 0 9 12 #[], .iload 3, .iconst 0, .iastore, .iinc 3 1, .goto 22] 150 = x_iastore (x_aload 0 (x_g1 109 592 (x_iload 3 (x_iconst 0 (x_iastore (x_iinc 3 1 (x_goto 22 K))))))) := ((xe_iastore).trans (congrArg (x_iastore) ((xe_aload 0).trans (congrArg (x_aload 0) ((xe_g1 (kk := 109) rfl tl_9_12).trans (congrArg (x_g1 109 592) ((xe_iload 3).trans (congrArg (x_iload 3) ((xe_iconst 0).trans (congrArg (x_iconst 0) ((xe_iastore).trans (congrArg (x_iastore) ((xe_iinc 3 1).trans (congrArg (x_iinc 3 1) (xe_goto 22)))))))))))))))
set_option maxRecDepth 100000 in
theorem cl_X9_115 : cv_ RX9 115 yX2_has zX2_has 2 1 := ⟨gi_V (lwq_6 (dqc_m (dqa_m (List.mem_of_getElem? (i := 1) rfl))) rfl : Cond.methodLink RX9 115 yX2_has ∈ lw_g) (lwq_4 (dqc_m (dqc_m (dqa_m (List.mem_of_getElem? (i := 2) rfl)))) rfl : Cond.instanceMethod yX2_has ∈ lw_g) (lwq_4 (dqc_m (dqc_m (dqa_m (List.mem_of_getElem? (i := 3) rfl)))) rfl : Cond.selects yX2_has.cls yX2_has yX2_has ∈ lw_g) (lwq_1 (dqa_m (dqa_m (List.mem_of_getElem? (i := 0) rfl))) rfl : Cond.initialized yX2_has.cls ∈ lw_g) (lwq_4 (dqc_m (dqc_m (dqa_m (List.mem_of_getElem? (i := 4) rfl)))) rfl : Cond.code yX2_has cX2_has 2 (some .boolean) ∈ lw_g), ⟨nmh_10.1, nmh_10.2, pdq_7⟩, ⟨_, _, rfl⟩⟩
theorem bk_X9_setCaps_85 : ck_ fX9 none cX9_setCaps 85 [.ifCond .eq 102, .iload 4, .aload 0, .tableswitch 0 9 5 #[], .tableswitch 0 0 1 #[], .iconst 3, .iaload, .fsub, .istore 4, .iinc 5 1, .goto 49] 108 = true := qck_r (nn_ _) (by decide +kernel)
theorem bs_X9_setCaps_85 {P : Zt → Option Zv → Prop} (K : Int → Zl → List Zv → Zt → Prop) : sx_ K P [.ifCond .eq 102, .iload 4, .aload 0, .tableswitch 0 9 5 #[], .tableswitch 0 0 1 #[], .iconst 3, .iaload, .fsub, .istore 4, .iinc 5 1, .goto 49] 108 = x_ifCond .eq 102 K (x_iload 4 (x_aload 0 (x_g5 109 100 5 (x_g2 100 401 (x_iconst 3 (x_iaload (x_fsub (x_istore 4 (x_iinc 5 1 (x_goto 49 K)))))))))) := ((xe_ifCond .eq 102).trans (congrArg (x_ifCond .eq 102 K) ((xe_iload 4).trans (congrArg (x_iload 4) ((xe_aload 0).trans (congrArg (x_aload 0) ((xe_g5 (kk := 109) rfl tl_9_5).trans (congrArg (x_g5 109 100 5) ((xe_g2 (kk := 100) rfl tl_0_1).trans (congrArg (x_g2 100 401) ((xe_iconst 3).trans (congrArg (x_iconst 3) ((xe_iaload).trans (congrArg (x_iaload) ((xe_fsub).trans (congrArg (x_fsub) ((xe_istore 4).trans (congrArg (x_istore 4) ((xe_iinc 5 1).trans (congrArg (x_iinc 5 1) (xe_goto 49)))))))))))))))))))))
theorem bk_X9_setCaps_102 : ck_ fX9 none cX9_setCaps 102 [.iinc 5 1, .goto 49] 108 = true := qck_r (nn_ _) (by decide +kernel)
theorem bs_X9_setCaps_102 {P : Zt → Option Zv → Prop} (K : Int → Zl → List Zv → Zt → Prop) : sx_ K P [.iinc 5 1, .goto 49] 108 = x_iinc 5 1 (x_goto 49 K) := ((xe_iinc 5 1).trans (congrArg (x_iinc 5 1) (xe_goto 49)))
theorem bk_X9_setCaps_22 : ck_ fX9 none cX9_setCaps 22 [.iload 3, .aload 0, .tableswitch 0 9 5 #[], .tableswitch 0 0 5 #[], .if_icmp .ge 150, .aload 0, .tableswitch 0 9 6 #[], .aload 0, .tableswitch 0 9 7 #[], .iload 3, .iaload, .fsub, .istore 4, .iconst 0, .istore 5] 49 = true := qck_r (nn_ _) (by decide +kernel)
theorem bs_X9_setCaps_22 {P : Zt → Option Zv → Prop} (K : Int → Zl → List Zv → Zt → Prop) : sx_ K P [.iload 3, .aload 0, .tableswitch 0 9 5 #[], .tableswitch 0 0 5 #[], .if_icmp .ge 150, .aload 0, .tableswitch 0 9 6 #[], .aload 0, .tableswitch 0 9 7 #[], .iload 3, .iaload, .fsub, .istore 4, .iconst 0, .istore 5] 49 = x_iload 3 (x_aload 0 (x_g5 109 100 5 (x_g0 100 5 0 12 (x_if_icmp .ge 150 K (x_aload 0 (x_g0 109 6 (-2147483648) 2147483647 (x_aload 0 (x_g1 109 587 (x_iload 3 (x_iaload (x_fsub (x_istore 4 (x_iconst 0 (x_istore 5 (K 49))))))))))))))) := ((xe_iload 3).trans (congrArg (x_iload 3) ((xe_aload 0).trans (congrArg (x_aload 0) ((xe_g5 (kk := 109) rfl tl_9_5).trans (congrArg (x_g5 109 100 5) ((xe_g0 (kk := 100) rfl tl_0_5).trans (congrArg (x_g0 100 5 0 12) ((xe_if_icmp .ge 150).trans (congrArg (x_if_icmp .ge 150 K) ((xe_aload 0).trans (congrArg (x_aload 0) ((xe_g0 (kk := 109) rfl tl_9_6).trans (congrArg (x_g0 109 6 (-2147483648) 2147483647) ((xe_aload 0).trans (congrArg (x_aload 0) ((xe_g1 (kk := 109) rfl tl_9_7).trans (congrArg (x_g1 109 587) ((xe_iload 3).trans (congrArg (x_iload 3) ((xe_iaload).trans (congrArg (x_iaload) ((xe_fsub).trans (congrArg (x_fsub) ((xe_istore 4).trans (congrArg (x_istore 4) ((xe_iconst 0).trans (congrArg (x_iconst 0) ((xe_istore 5).trans (congrArg (x_istore 5) xe_nil))))))))))))))))))))))))))))))
theorem bk_X9_setCaps_150 : ck_ fX9 none cX9_setCaps 150 [.aload 0, .tableswitch 0 9 11 #[], .iload 1, .iconst 0, .iastore, .return_] 158 = true := qck_r (nn_ _) (by decide +kernel)
theorem bs_X9_setCaps_150 {P : Zt → Option Zv → Prop} (K : Int → Zl → List Zv → Zt → Prop) : sx_ K P [.aload 0, .tableswitch 0 9 11 #[], .iload 1, .iconst 0, .iastore, .return_] 158 = x_aload 0 (x_g1 109 591 (x_iload 1 (x_iconst 0 (x_iastore (x_return_ P))))) := ((xe_aload 0).trans (congrArg (x_aload 0) ((xe_g1 (kk := 109) rfl tl_9_11).trans (congrArg (x_g1 109 591) ((xe_iload 1).trans (congrArg (x_iload 1) ((xe_iconst 0).trans (congrArg (x_iconst 0) ((xe_iastore).trans (congrArg (x_iastore) (xe_return_)))))))))))
theorem bk_X9_setCaps_0 : ck_ fX9 none cX9_setCaps 0 [.aload 0, .tableswitch 0 9 5 #[], .tableswitch 0 0 1 #[], .iconst 1, .iaload, .aload 0, .tableswitch 0 9 5 #[], .tableswitch 0 0 1 #[], .iconst 2, .iaload, .isub, .istore 2, .iconst 0, .istore 3] 22 = true := qck_r (nn_ _) (by decide +kernel)
theorem bs_X9_setCaps_0 {P : Zt → Option Zv → Prop} (K : Int → Zl → List Zv → Zt → Prop) : sx_ K P [.aload 0, .tableswitch 0 9 5 #[], .tableswitch 0 0 1 #[], .iconst 1, .iaload, .aload 0, .tableswitch 0 9 5 #[], .tableswitch 0 0 1 #[], .iconst 2, .iaload, .isub, .istore 2, .iconst 0, .istore 3] 22 = x_aload 0 (x_g5 109 100 5 (x_g2 100 401 (x_iconst 1 (x_iaload (x_aload 0 (x_g5 109 100 5 (x_g2 100 401 (x_iconst 2 (x_iaload (x_isub (x_istore 2 (x_iconst 0 (x_istore 3 (K 22)))))))))))))) := ((xe_aload 0).trans (congrArg (x_aload 0) ((xe_g5 (kk := 109) rfl tl_9_5).trans (congrArg (x_g5 109 100 5) ((xe_g2 (kk := 100) rfl tl_0_1).trans (congrArg (x_g2 100 401) ((xe_iconst 1).trans (congrArg (x_iconst 1) ((xe_iaload).trans (congrArg (x_iaload) ((xe_aload 0).trans (congrArg (x_aload 0) ((xe_g5 (kk := 109) rfl tl_9_5).trans (congrArg (x_g5 109 100 5) ((xe_g2 (kk := 100) rfl tl_0_1).trans (congrArg (x_g2 100 401) ((xe_iconst 2).trans (congrArg (x_iconst 2) ((xe_iaload).trans (congrArg (x_iaload) ((xe_isub).trans (congrArg (x_isub) ((xe_istore 2).trans (congrArg (x_istore 2) ((xe_iconst 0).trans (congrArg (x_iconst 0) ((xe_istore 3).trans (congrArg (x_istore 3) xe_nil))))))))))))))))))))))))))))
abbrev po_X9_setCaps (T : Zt) (t : Int) : Zt → Option Zv → Prop := fun T' r => r = none ∧ fr_ [(591, []), (592, [])] T T' ∧ (0 = (0 : Int))
set_option maxHeartbeats 4000000 in
theorem ct_X9_setCaps {T : Zt} {t : Int} (hq9 : Q9_ T) (hka : KA_ T) (hw : T 401 (T 109 0 5 - 1) 2 ≤ T 401 (T 109 0 5 - 1) 1) (ht : 0 ≤ t ∧ t ≤ 11) : Ct_ yX9_setCaps zX9_setCaps T [vR 109 0, vI t] (po_X9_setCaps T t) := by
  refine ct_of pn_9 rfl rfl (Nat.le_of_ble_eq_true rfl) (fun hT hav => ?_)
  have hr_t : -2147483648 ≤ t ∧ t ≤ 2147483647 := hav (vI t) (List.mem_cons_of_mem _ List.mem_cons_self)
  have hz : zX9_setCaps.2.2.2.1 = some .boolean → ∀ (T' : Zt) (x : Int), po_X9_setCaps T t T' (some (vI x)) → 0 ≤ x ∧ x ≤ 1 := fun h => by cases h
  have hq1 := hq9.1
  have hb_openCount : 0 ≤ T 109 0 9 ∧ T 109 0 9 ≤ 40 := bd_f hT 109 9 tl_9_9 0
  have hen : 0 ≤ T 100 (T 109 0 5 - 1) 5 ∧ T 100 (T 109 0 5 - 1) 5 ≤ 12 := bd_f hT 100 5 tl_0_5 (T 109 0 5 - 1)
  show J_ zX9_setCaps T (po_X9_setCaps T t) 0 0 0 [some (vR 109 0), some (vI t), none, none, none, none] [] T
  have c_22 : ∀ (nn : Nat) (v : Int) (k : Int) (T1 : Zt), ((12 - k).toNat) ≤ nn → (fr_ [(591, []), (592, [])] T T1) → (0 ≤ k ∧ k ≤ 12 ∧ 0 ≤ v) → J_ zX9_setCaps T (po_X9_setCaps T t) 0 0 22 [some (vR 109 0), some (vI t), some (vI v), some (vI k), none, none] [] T1 := by
    intro nn
    induction nn using Nat.strongRecOn with
    | _ nn ih_22 =>
      intro v k T1 hm_22 hf_22 i1
      replace hm_22 := fun (_ : Unit) => hm_22
      have c_49 : ∀ (nn : Nat) (g : Int) (u : Int), ((40 - u).toNat) ≤ nn → (0 ≤ u ∧ k < 12) → J_ zX9_setCaps T (po_X9_setCaps T t) 0 0 49 [some (vR 109 0), some (vI t), some (vI v), some (vI k), some (vI g), some (vI u)] [] T1 := by
        intro nn
        induction nn using Nat.strongRecOn with
        | _ nn ih_49 =>
          intro g u hm_49 i2
          replace hm_49 := fun (_ : Unit) => hm_49
          refine j_blx (F := fX9) tb_X9 (nn_ _) bk_X9_setCaps_49 bs_X9_setCaps_49 hz (fun K hK => ?_)
          intro b1 b1b
          have e2 : T1 109 0 9 = T 109 0 9 := hf_22 109 0 9 rfl
          rw [e2] at b1 b1b ⊢
          refine And.intro (fun c3 => ?_) (fun c3 => ?_)
          · refine hK 108 _ [] T1 ?_
            refine j_blx (F := fX9) tb_X9 (nn_ _) bk_X9_setCaps_108 bs_X9_setCaps_108 hz (fun K hK => ?_)
            refine And.intro (fun c4 => ?_) (fun c4 => ?_)
            · refine hK 122 _ [vI k, vR 591 0] T1 ?_
              refine j_blx (F := fX9) tb_X9 (nn_ _) bk_X9_setCaps_122 bs_X9_setCaps_122 hz (fun K hK => ?_)
              refine And.intro (fun c5 => ?_) (fun c5 => ?_)
              · refine hK 132 _ [vI k, vR 591 0] T1 ?_
                refine j_blx (F := fX9) tb_X9 (nn_ _) bk_X9_setCaps_132 bs_X9_setCaps_132 hz (fun K hK => ?_)
                refine And.intro (by omega) (fun w6 w6b => ?_)
                refine iy_i (by omega) (by omega) ?_
                refine x_nm (fun U7 hU7 => ?_)
                have e8 := up_f hU7
                refine iy_i (by omega) (by omega) ?_
                refine x_nm (fun U9 hU9 => ?_)
                have e10 := up_f hU9
                refine rg_i (by omega) ?_
                refine hK 22 [some (vR 109 0), some (vI t), some (vI v), some (vI (k + 1)), some (vI g), some (vI u)] [] U9 ?_
                refine j_drop [some (vR 109 0), some (vI t), some (vI v), some (vI (k + 1)), none, none] (fun k v hk => ?_) rfl ?_
                · match k, hk with
                  | 0, hk => exact hk
                  | 1, hk => exact hk
                  | 2, hk => exact hk
                  | 3, hk => exact hk
                  | 4, hk => cases hk
                  | 5, hk => cases hk
                  | k + 6, hk => cases hk
                refine ih_22 _ ?_ v (k + 1) U9 (Nat.le_refl _) ?_ ?_
                · have hm_22 := hm_22 (); omega
                · exact fr_u (fr_u (fr_t (fr_0 _ _) (fr_s hf_22 rfl)) hU7 rfl) hU9 rfl
                · omega
              · refine hK 136 [some (vR 109 0), some (vI t), some (vI v), some (vI k), some (vI g), some (vI u)] [vI 1000, vI k, vR 591 0] T1 ?_
                refine j_blx (F := fX9) tb_X9 (nn_ _) bk_X9_setCaps_136 bs_X9_setCaps_136 hz (fun K hK => ?_)
                refine iy_i (by omega) (by omega) ?_
                refine x_nm (fun U11 hU11 => ?_)
                have e12 := up_f hU11
                refine iy_i (by omega) (by omega) ?_
                refine x_nm (fun U13 hU13 => ?_)
                have e14 := up_f hU13
                refine rg_i (by omega) ?_
                refine hK 22 [some (vR 109 0), some (vI t), some (vI v), some (vI (k + 1)), some (vI g), some (vI u)] [] U13 ?_
                refine j_drop [some (vR 109 0), some (vI t), some (vI v), some (vI (k + 1)), none, none] (fun k v hk => ?_) rfl ?_
                · match k, hk with
                  | 0, hk => exact hk
                  | 1, hk => exact hk
                  | 2, hk => exact hk
                  | 3, hk => exact hk
                  | 4, hk => cases hk
                  | 5, hk => cases hk
                  | k + 6, hk => cases hk
                refine ih_22 _ ?_ v (k + 1) U13 (Nat.le_refl _) ?_ ?_
                · have hm_22 := hm_22 (); omega
                · exact fr_u (fr_u (fr_t (fr_0 _ _) (fr_s hf_22 rfl)) hU11 rfl) hU13 rfl
                · omega
            · refine hK 136 _ [vI (-1), vI k, vR 591 0] T1 ?_
              refine j_blx (F := fX9) tb_X9 (nn_ _) bk_X9_setCaps_136 bs_X9_setCaps_136 hz (fun K hK => ?_)
              refine iy_i (by omega) (by omega) ?_
              refine x_nm (fun U15 hU15 => ?_)
              have e16 := up_f hU15
              refine iy_i (by omega) (by omega) ?_
              refine x_nm (fun U17 hU17 => ?_)
              have e18 := up_f hU17
              refine rg_i (by omega) ?_
              refine hK 22 [some (vR 109 0), some (vI t), some (vI v), some (vI (k + 1)), some (vI g), some (vI u)] [] U17 ?_
              refine j_drop [some (vR 109 0), some (vI t), some (vI v), some (vI (k + 1)), none, none] (fun k v hk => ?_) rfl ?_
              · match k, hk with
                | 0, hk => exact hk
                | 1, hk => exact hk
                | 2, hk => exact hk
                | 3, hk => exact hk
                | 4, hk => cases hk
                | 5, hk => cases hk
                | k + 6, hk => cases hk
              refine ih_22 _ ?_ v (k + 1) U17 (Nat.le_refl _) ?_ ?_
              · have hm_22 := hm_22 (); omega
              · exact fr_u (fr_u (fr_t (fr_0 _ _) (fr_s hf_22 rfl)) hU15 rfl) hU17 rfl
              · omega
          · refine ix_i (by omega) ?_
            intro b19 b19b
            have e20 : T1 588 0 u = T 588 0 u := hf_22 588 0 u rfl
            rw [e20] at b19 b19b ⊢
            refine ix_i (by omega) ?_
            have e22 : T1 523 0 (T 588 0 u) = T 523 0 (T 588 0 u) := hf_22 523 0 (T 588 0 u) rfl
            refine And.intro (fun c21 => ?_) (fun c21 => ?_)
            · exact absurd (show T 523 0 (T 588 0 u) = 0 by omega) (hka.2 _ (by have z := (hq9.2 u (by omega) (by omega)).1; omega) (by have z := (hq9.2 u (by omega) (by omega)).1; omega))
            · have e24 : T1 109 0 5 = T 109 0 5 := hf_22 109 0 5 rfl
              refine And.intro (fun c23 => ?_) (fun c23 => ?_)
              · exact absurd c23 (by omega)
              · refine ix_i (by omega) ?_
                intro b25 b25b
                have e26 : T1 403 (T 109 0 5 - 1) k = T 403 (T 109 0 5 - 1) k := hf_22 403 (T 109 0 5 - 1) k rfl
                have e27 : T1 403 (T1 109 0 5 - 1) k = T 403 (T 109 0 5 - 1) k := by rw [e24]; exact e26
                rw [e27] at b25 b25b ⊢
                refine hK 82 _ [vI (T 403 (T 109 0 5 - 1) k), vR 102 (T 588 0 u)] T1 ?_
                refine j_callV (y := yX2_has) (Yc := zX2_has) (rest := []) [vI (T 403 (T 109 0 5 - 1) k)] (ct_X2_has (T := T1)) cl_X9_115 (qd_c (by decide +kernel)) (nn_ _) rfl (rf_of rfl) (Nat.le_of_ble_eq_true rfl) (Nat.le_of_ble_eq_true rfl) (Nat.le_of_ble_eq_true rfl) rfl ?_
                rintro _ _ ⟨rfl, x28, rfl, hx28⟩
                show J_ zX9_setCaps T (po_X9_setCaps T t) 0 0 85 _ [vI x28] T1
                refine j_blx (F := fX9) tb_X9 (nn_ _) bk_X9_setCaps_85 bs_X9_setCaps_85 hz (fun K hK => ?_)
                refine And.intro (fun c29 => ?_) (fun c29 => ?_)
                · refine hK 102 _ [] T1 ?_
                  refine j_blx (F := fX9) tb_X9 (nn_ _) bk_X9_setCaps_102 bs_X9_setCaps_102 hz (fun K hK => ?_)
                  refine rg_i (by omega) ?_
                  refine hK 49 [some (vR 109 0), some (vI t), some (vI v), some (vI k), some (vI g), some (vI (u + 1))] [] T1 ?_
                  refine ih_49 _ ?_ g (u + 1) (Nat.le_refl _) ?_
                  · have hm_49 := hm_49 (); omega
                  · omega
                · have e31 : T1 109 0 5 = T 109 0 5 := hf_22 109 0 5 rfl
                  refine And.intro (fun c30 => ?_) (fun c30 => ?_)
                  · exact absurd c30 (by omega)
                  · refine ix_i (by omega) ?_
                    intro b32 b32b
                    have e33 : T1 401 (T 109 0 5 - 1) 3 = T 401 (T 109 0 5 - 1) 3 := hf_22 401 (T 109 0 5 - 1) 3 rfl
                    have e34 : T1 401 (T1 109 0 5 - 1) 3 = T 401 (T 109 0 5 - 1) 3 := by rw [e31]; exact e33
                    rw [e34] at b32 b32b ⊢
                    intro w35 w35b
                    refine rg_i (by omega) ?_
                    refine hK 49 [some (vR 109 0), some (vI t), some (vI v), some (vI k), some (vI (wr_ (g - (T 401 (T 109 0 5 - 1) 3)))), some (vI (u + 1))] [] T1 ?_
                    refine ih_49 _ ?_ (wr_ (g - (T 401 (T 109 0 5 - 1) 3))) (u + 1) (Nat.le_refl _) ?_
                    · have hm_49 := hm_49 (); omega
                    · omega
      refine j_blx (F := fX9) tb_X9 (nn_ _) bk_X9_setCaps_22 bs_X9_setCaps_22 hz (fun K hK => ?_)
      have e37 : T1 109 0 5 = T 109 0 5 := hf_22 109 0 5 rfl
      refine And.intro (fun c36 => ?_) (fun c36 => ?_)
      · exact absurd c36 (by omega)
      · intro b38 b38b
        have e39 : T1 100 (T 109 0 5 - 1) 5 = T 100 (T 109 0 5 - 1) 5 := hf_22 100 (T 109 0 5 - 1) 5 rfl
        have e40 : T1 100 (T1 109 0 5 - 1) 5 = T 100 (T 109 0 5 - 1) 5 := by rw [e37]; exact e39
        rw [e40] at b38 b38b ⊢
        refine And.intro (fun c41 => ?_) (fun c41 => ?_)
        · refine hK 150 _ [] T1 ?_
          refine j_blx (F := fX9) tb_X9 (nn_ _) bk_X9_setCaps_150 bs_X9_setCaps_150 hz (fun K hK => ?_)
          refine iy_i (by omega) (by omega) ?_
          refine x_nm (fun U42 hU42 => ?_)
          have e43 := up_f hU42
          refine (show po_X9_setCaps T t U42 (none) from ?_)
          exact ⟨rfl, fr_u (fr_t (fr_0 _ _) (fr_s hf_22 rfl)) hU42 rfl, by rfl⟩
        · intro b44 b44b
          have e45 : T1 109 0 6 = T 109 0 6 := hf_22 109 0 6 rfl
          rw [e45] at b44 b44b ⊢
          refine ix_i (by omega) ?_
          intro b46 b46b
          have e47 : T1 587 0 k = T 587 0 k := hf_22 587 0 k rfl
          rw [e47] at b46 b46b ⊢
          intro w48 w48b
          refine hK 49 [some (vR 109 0), some (vI t), some (vI v), some (vI k), some (vI (wr_ ((T 109 0 6) - (T 587 0 k)))), some (vI 0)] [] T1 ?_
          refine c_49 _ (wr_ ((T 109 0 6) - (T 587 0 k))) 0 (Nat.le_refl _) ?_
          · omega
  refine j_blx (F := fX9) tb_X9 (nn_ _) bk_X9_setCaps_0 bs_X9_setCaps_0 hz (fun K hK => ?_)
  refine And.intro (fun c49 => ?_) (fun c49 => ?_)
  · exact absurd c49 (by omega)
  · refine ix_i (by omega) ?_
    intro b50 b50b
    refine And.intro (fun c51 => ?_) (fun c51 => ?_)
    · exact absurd c51 (by omega)
    · refine ix_i (by omega) ?_
      intro b52 b52b
      refine rg_i (by omega) ?_
      refine hK 22 [some (vR 109 0), some (vI t), some (vI ((T 401 (T 109 0 5 - 1) 1) - (T 401 (T 109 0 5 - 1) 2))), some (vI 0), none, none] [] T ?_
      refine c_22 _ ((T 401 (T 109 0 5 - 1) 1) - (T 401 (T 109 0 5 - 1) 2)) 0 T (Nat.le_refl _) ?_ ?_
      · exact fr_0 _ _
      · omega
def KS_ (T : Zt) : Prop := ∀ c : Int, 0 ≤ c → c < T 106 0 2 → ∀ m : Int, T 100 c 7 ≤ m → m < T 100 c 7 + T 100 c 8 → T 102 m 0 = c ∧ 0 ≤ T 404 c (T 102 m 3) ∧ 0 ≤ T 404 c (T 102 m 4)
theorem KS__f {ws : List (Nat × List Int)} {T T' : Zt} (h : KS_ T) (f : fr_ ws T T') (w : (∀ j, fw_ ws 404 j = false) ∧ fw_ ws 100 7 = false ∧ fw_ ws 100 8 = false ∧ fw_ ws 102 0 = false ∧ fw_ ws 102 3 = false ∧ fw_ ws 102 4 = false ∧ fw_ ws 106 2 = false ∧ True) : KS_ T' := by
  have e0 : ∀ i j, T' 404 i j = T 404 i j := fun i j => f 404 i j (w.1 j)
  have e1 : ∀ i, T' 100 i 7 = T 100 i 7 := fun i => f 100 i 7 w.2.1
  have e2 : ∀ i, T' 100 i 8 = T 100 i 8 := fun i => f 100 i 8 w.2.2.1
  have e3 : ∀ i, T' 102 i 0 = T 102 i 0 := fun i => f 102 i 0 w.2.2.2.1
  have e4 : ∀ i, T' 102 i 3 = T 102 i 3 := fun i => f 102 i 3 w.2.2.2.2.1
  have e5 : ∀ i, T' 102 i 4 = T 102 i 4 := fun i => f 102 i 4 w.2.2.2.2.2.1
  have e6 : ∀ i, T' 106 i 2 = T 106 i 2 := fun i => f 106 i 2 w.2.2.2.2.2.2.1
  simp only [KS_, e0, e1, e2, e3, e4, e5, e6] at h ⊢
  exact h
abbrev cX9_takePoints : ByteArray := prog_11_method_4_code
def yX9_takePoints : MethodName := ⟨RX9, "takePoints", "(I)V"⟩
def zX9_takePoints : Zm := (RX9, cX9_takePoints, 6, none, { frames := 3, cells := 0, slots := 0, locals := 76 })
theorem bk_X9_takePoints_56 : ck_ fX9 none cX9_takePoints 56 [.iload 2, .aload 0, .tableswitch 0 9 5 #[], .tableswitch 0 0 8 #[], .if_icmp .ge 190, .aload 0, .tableswitch 0 9 0 #[], .tableswitch 0 6 3 #[], .aload 0, .tableswitch 0 9 5 #[], .tableswitch 0 0 7 #[], .iload 2, .iadd, .aaload, .astore 3, .aload 0, .tableswitch 0 9 4 #[], .aload 3, .tableswitch 0 2 1 #[], .iaload, .iconst (-1), .if_icmp .eq 184, .aload 0, .tableswitch 0 9 5 #[], .tableswitch 0 0 4 #[], .aload 3, .tableswitch 0 2 3 #[], .iaload, .istore 4, .aload 0, .tableswitch 0 9 5 #[], .tableswitch 0 0 4 #[], .aload 3, .tableswitch 0 2 4 #[], .iaload, .istore 5, .aload 0, .tableswitch 0 9 7 #[], .iload 4, .dup2, .iaload, .aload 0, .tableswitch 0 9 5 #[], .tableswitch 0 0 1 #[], .iload 4, .iload 1, .if_icmp .ne 151, .iconst 1, .goto 152] 151 = true := qck_r (nn_ _) (by decide +kernel)
theorem bs_X9_takePoints_56 {P : Zt → Option Zv → Prop} (K : Int → Zl → List Zv → Zt → Prop) : sx_ K P [.iload 2, .aload 0, .tableswitch 0 9 5 #[], .tableswitch 0 0 8 #[], .if_icmp .ge 190, .aload 0, .tableswitch 0 9 0 #[], .tableswitch 0 6 3 #[], .aload 0, .tableswitch 0 9 5 #[], .tableswitch 0 0 7 #[], .iload 2, .iadd, .aaload, .astore 3, .aload 0, .tableswitch 0 9 4 #[], .aload 3, .tableswitch 0 2 1 #[], .iaload, .iconst (-1), .if_icmp .eq 184, .aload 0, .tableswitch 0 9 5 #[], .tableswitch 0 0 4 #[], .aload 3, .tableswitch 0 2 3 #[], .iaload, .istore 4, .aload 0, .tableswitch 0 9 5 #[], .tableswitch 0 0 4 #[], .aload 3, .tableswitch 0 2 4 #[], .iaload, .istore 5, .aload 0, .tableswitch 0 9 7 #[], .iload 4, .dup2, .iaload, .aload 0, .tableswitch 0 9 5 #[], .tableswitch 0 0 1 #[], .iload 4, .iload 1, .if_icmp .ne 151, .iconst 1, .goto 152] 151 = x_iload 2 (x_aload 0 (x_g5 109 100 5 (x_g0 100 8 0 400 (x_if_icmp .ge 190 K (x_aload 0 (x_g1 109 106 (x_g1 106 523 (x_aload 0 (x_g5 109 100 5 (x_g0 100 7 0 400 (x_iload 2 (x_iadd (x_aaload (x_astore 3 (x_aload 0 (x_g1 109 584 (x_aload 3 (x_g0 102 1 0 399 (x_iaload (x_iconst (-1) (x_if_icmp .eq 184 K (x_aload 0 (x_g5 109 100 5 (x_g2 100 404 (x_aload 3 (x_g0 102 3 0 11 (x_iaload (x_istore 4 (x_aload 0 (x_g5 109 100 5 (x_g2 100 404 (x_aload 3 (x_g0 102 4 0 11 (x_iaload (x_istore 5 (x_aload 0 (x_g1 109 587 (x_iload 4 (x_dup2 (x_iaload (x_aload 0 (x_g5 109 100 5 (x_g2 100 401 (x_iload 4 (x_iload 1 (x_if_icmp .ne 151 K (x_iconst 1 (x_goto 152 K)))))))))))))))))))))))))))))))))))))))))))))))) := ((xe_iload 2).trans (congrArg (x_iload 2) ((xe_aload 0).trans (congrArg (x_aload 0) ((xe_g5 (kk := 109) rfl tl_9_5).trans (congrArg (x_g5 109 100 5) ((xe_g0 (kk := 100) rfl tl_0_8).trans (congrArg (x_g0 100 8 0 400) ((xe_if_icmp .ge 190).trans (congrArg (x_if_icmp .ge 190 K) ((xe_aload 0).trans (congrArg (x_aload 0) ((xe_g1 (kk := 109) rfl tl_9_0).trans (congrArg (x_g1 109 106) ((xe_g1 (kk := 106) rfl tl_6_3).trans (congrArg (x_g1 106 523) ((xe_aload 0).trans (congrArg (x_aload 0) ((xe_g5 (kk := 109) rfl tl_9_5).trans (congrArg (x_g5 109 100 5) ((xe_g0 (kk := 100) rfl tl_0_7).trans (congrArg (x_g0 100 7 0 400) ((xe_iload 2).trans (congrArg (x_iload 2) ((xe_iadd).trans (congrArg (x_iadd) ((xe_aaload).trans (congrArg (x_aaload) ((xe_astore 3).trans (congrArg (x_astore 3) ((xe_aload 0).trans (congrArg (x_aload 0) ((xe_g1 (kk := 109) rfl tl_9_4).trans (congrArg (x_g1 109 584) ((xe_aload 3).trans (congrArg (x_aload 3) ((xe_g0 (kk := 102) rfl tl_2_1).trans (congrArg (x_g0 102 1 0 399) ((xe_iaload).trans (congrArg (x_iaload) ((xe_iconst (-1)).trans (congrArg (x_iconst (-1)) ((xe_if_icmp .eq 184).trans (congrArg (x_if_icmp .eq 184 K) ((xe_aload 0).trans (congrArg (x_aload 0) ((xe_g5 (kk := 109) rfl tl_9_5).trans (congrArg (x_g5 109 100 5) ((xe_g2 (kk := 100) rfl tl_0_4).trans (congrArg (x_g2 100 404) ((xe_aload 3).trans (congrArg (x_aload 3) ((xe_g0 (kk := 102) rfl tl_2_3).trans (congrArg (x_g0 102 3 0 11) ((xe_iaload).trans (congrArg (x_iaload) ((xe_istore 4).trans (congrArg (x_istore 4) ((xe_aload 0).trans (congrArg (x_aload 0) ((xe_g5 (kk := 109) rfl tl_9_5).trans (congrArg (x_g5 109 100 5) ((xe_g2 (kk := 100) rfl tl_0_4).trans (congrArg (x_g2 100 404) ((xe_aload 3).trans (congrArg (x_aload 3) ((xe_g0 (kk := 102) rfl tl_2_4).trans (congrArg (x_g0 102 4 0 11) ((xe_iaload).trans (congrArg (x_iaload) ((xe_istore 5).trans (congrArg (x_istore 5) ((xe_aload 0).trans (congrArg (x_aload 0) ((xe_g1 (kk := 109) rfl tl_9_7).trans (congrArg (x_g1 109 587) ((xe_iload 4).trans (congrArg (x_iload 4) ((xe_dup2).trans (congrArg (x_dup2) ((xe_iaload).trans (congrArg (x_iaload) ((xe_aload 0).trans (congrArg (x_aload 0) ((xe_g5 (kk := 109) rfl tl_9_5).trans (congrArg (x_g5 109 100 5) ((xe_g2 (kk := 100) rfl tl_0_1).trans (congrArg (x_g2 100 401) ((xe_iload 4).trans (congrArg (x_iload 4) ((xe_iload 1).trans (congrArg (x_iload 1) ((xe_if_icmp .ne 151).trans (congrArg (x_if_icmp .ne 151 K) ((xe_iconst 1).trans (congrArg (x_iconst 1) (xe_goto 152)))))))))))))))))))))))))))))))))))))))))))))))))))))))))))))))))))))))))))))))))))))))))))))))))
theorem bk_X9_takePoints_190 : ck_ fX9 none cX9_takePoints 190 [.aload 0, .aload 0, .tableswitch 0 9 7 #[], .iload 1, .iaload, .tableswitch 1 9 6 #[], .return_] 201 = true := qck_r (nn_ _) (by decide +kernel)
theorem bs_X9_takePoints_190 {P : Zt → Option Zv → Prop} (K : Int → Zl → List Zv → Zt → Prop) : sx_ K P [.aload 0, .aload 0, .tableswitch 0 9 7 #[], .iload 1, .iaload, .tableswitch 1 9 6 #[], .return_] 201 = x_aload 0 (x_aload 0 (x_g1 109 587 (x_iload 1 (x_iaload (x_p 109 6 (-2147483648) 2147483647 (x_return_ P)))))) := ((xe_aload 0).trans (congrArg (x_aload 0) ((xe_aload 0).trans (congrArg (x_aload 0) ((xe_g1 (kk := 109) rfl tl_9_7).trans (congrArg (x_g1 109 587) ((xe_iload 1).trans (congrArg (x_iload 1) ((xe_iaload).trans (congrArg (x_iaload) ((xe_p (kk := 109) rfl tl_9_6).trans (congrArg (x_p 109 6 (-2147483648) 2147483647) (xe_return_)))))))))))))
theorem bk_X9_takePoints_184 : ck_ fX9 none cX9_takePoints 184 [.iinc 2 1, .goto 56] 190 = true := qck_r (nn_ _) (by decide +kernel)
theorem bs_X9_takePoints_184 {P : Zt → Option Zv → Prop} (K : Int → Zl → List Zv → Zt → Prop) : sx_ K P [.iinc 2 1, .goto 56] 190 = x_iinc 2 1 (x_goto 56 K) := ((xe_iinc 2 1).trans (congrArg (x_iinc 2 1) (xe_goto 56)))
theorem bk_X9_takePoints_151 : ck_ fX9 none cX9_takePoints 151 [.iconst 3, .iaload, .fadd, .iastore, .aload 0, .tableswitch 0 9 7 #[], .iload 5, .dup2, .iaload, .aload 0, .tableswitch 0 9 5 #[], .tableswitch 0 0 1 #[], .iload 5, .iload 1, .if_icmp .ne 180, .iconst 1, .goto 181] 180 = true := qck_r (nn_ _) (by decide +kernel)
theorem bs_X9_takePoints_151 {P : Zt → Option Zv → Prop} (K : Int → Zl → List Zv → Zt → Prop) : sx_ K P [.iconst 3, .iaload, .fadd, .iastore, .aload 0, .tableswitch 0 9 7 #[], .iload 5, .dup2, .iaload, .aload 0, .tableswitch 0 9 5 #[], .tableswitch 0 0 1 #[], .iload 5, .iload 1, .if_icmp .ne 180, .iconst 1, .goto 181] 180 = x_iconst 3 (x_iaload (x_fadd (x_iastore (x_aload 0 (x_g1 109 587 (x_iload 5 (x_dup2 (x_iaload (x_aload 0 (x_g5 109 100 5 (x_g2 100 401 (x_iload 5 (x_iload 1 (x_if_icmp .ne 180 K (x_iconst 1 (x_goto 181 K)))))))))))))))) := ((xe_iconst 3).trans (congrArg (x_iconst 3) ((xe_iaload).trans (congrArg (x_iaload) ((xe_fadd).trans (congrArg (x_fadd) ((xe_iastore).trans (congrArg (x_iastore) ((xe_aload 0).trans (congrArg (x_aload 0) ((xe_g1 (kk := 109) rfl tl_9_7).trans (congrArg (x_g1 109 587) ((xe_iload 5).trans (congrArg (x_iload 5) ((xe_dup2).trans (congrArg (x_dup2) ((xe_iaload).trans (congrArg (x_iaload) ((xe_aload 0).trans (congrArg (x_aload 0) ((xe_g5 (kk := 109) rfl tl_9_5).trans (congrArg (x_g5 109 100 5) ((xe_g2 (kk := 100) rfl tl_0_1).trans (congrArg (x_g2 100 401) ((xe_iload 5).trans (congrArg (x_iload 5) ((xe_iload 1).trans (congrArg (x_iload 1) ((xe_if_icmp .ne 180).trans (congrArg (x_if_icmp .ne 180 K) ((xe_iconst 1).trans (congrArg (x_iconst 1) (xe_goto 181)))))))))))))))))))))))))))))))))
theorem bk_X9_takePoints_180 : ck_ fX9 none cX9_takePoints 180 [.iconst 3, .iaload, .fadd, .iastore, .iinc 2 1, .goto 56] 190 = true := qck_r (nn_ _) (by decide +kernel)
theorem bs_X9_takePoints_180 {P : Zt → Option Zv → Prop} (K : Int → Zl → List Zv → Zt → Prop) : sx_ K P [.iconst 3, .iaload, .fadd, .iastore, .iinc 2 1, .goto 56] 190 = x_iconst 3 (x_iaload (x_fadd (x_iastore (x_iinc 2 1 (x_goto 56 K))))) := ((xe_iconst 3).trans (congrArg (x_iconst 3) ((xe_iaload).trans (congrArg (x_iaload) ((xe_fadd).trans (congrArg (x_fadd) ((xe_iastore).trans (congrArg (x_iastore) ((xe_iinc 2 1).trans (congrArg (x_iinc 2 1) (xe_goto 56)))))))))))
theorem bk_X9_takePoints_181 : ck_ fX9 none cX9_takePoints 181 [.iaload, .fadd, .iastore, .iinc 2 1, .goto 56] 190 = true := qck_r (nn_ _) (by decide +kernel)
theorem bs_X9_takePoints_181 {P : Zt → Option Zv → Prop} (K : Int → Zl → List Zv → Zt → Prop) : sx_ K P [.iaload, .fadd, .iastore, .iinc 2 1, .goto 56] 190 = x_iaload (x_fadd (x_iastore (x_iinc 2 1 (x_goto 56 K)))) := ((xe_iaload).trans (congrArg (x_iaload) ((xe_fadd).trans (congrArg (x_fadd) ((xe_iastore).trans (congrArg (x_iastore) ((xe_iinc 2 1).trans (congrArg (x_iinc 2 1) (xe_goto 56)))))))))
theorem bk_X9_takePoints_152 : ck_ fX9 none cX9_takePoints 152 [.iaload, .fadd, .iastore, .aload 0, .tableswitch 0 9 7 #[], .iload 5, .dup2, .iaload, .aload 0, .tableswitch 0 9 5 #[], .tableswitch 0 0 1 #[], .iload 5, .iload 1, .if_icmp .ne 180, .iconst 1, .goto 181] 180 = true := qck_r (nn_ _) (by decide +kernel)
theorem bs_X9_takePoints_152 {P : Zt → Option Zv → Prop} (K : Int → Zl → List Zv → Zt → Prop) : sx_ K P [.iaload, .fadd, .iastore, .aload 0, .tableswitch 0 9 7 #[], .iload 5, .dup2, .iaload, .aload 0, .tableswitch 0 9 5 #[], .tableswitch 0 0 1 #[], .iload 5, .iload 1, .if_icmp .ne 180, .iconst 1, .goto 181] 180 = x_iaload (x_fadd (x_iastore (x_aload 0 (x_g1 109 587 (x_iload 5 (x_dup2 (x_iaload (x_aload 0 (x_g5 109 100 5 (x_g2 100 401 (x_iload 5 (x_iload 1 (x_if_icmp .ne 180 K (x_iconst 1 (x_goto 181 K))))))))))))))) := ((xe_iaload).trans (congrArg (x_iaload) ((xe_fadd).trans (congrArg (x_fadd) ((xe_iastore).trans (congrArg (x_iastore) ((xe_aload 0).trans (congrArg (x_aload 0) ((xe_g1 (kk := 109) rfl tl_9_7).trans (congrArg (x_g1 109 587) ((xe_iload 5).trans (congrArg (x_iload 5) ((xe_dup2).trans (congrArg (x_dup2) ((xe_iaload).trans (congrArg (x_iaload) ((xe_aload 0).trans (congrArg (x_aload 0) ((xe_g5 (kk := 109) rfl tl_9_5).trans (congrArg (x_g5 109 100 5) ((xe_g2 (kk := 100) rfl tl_0_1).trans (congrArg (x_g2 100 401) ((xe_iload 5).trans (congrArg (x_iload 5) ((xe_iload 1).trans (congrArg (x_iload 1) ((xe_if_icmp .ne 180).trans (congrArg (x_if_icmp .ne 180 K) ((xe_iconst 1).trans (congrArg (x_iconst 1) (xe_goto 181)))))))))))))))))))))))))))))))
theorem bk_X9_takePoints_16 : ck_ fX9 none cX9_takePoints 16 [.iload 2, .aload 0, .tableswitch 0 9 5 #[], .tableswitch 0 0 5 #[], .if_icmp .ge 54, .aload 0, .tableswitch 0 9 7 #[], .iload 2, .aload 0, .tableswitch 0 9 1 #[], .tableswitch 0 7 2 #[], .iload 2, .iconst 8, .imul, .iconst 6, .iadd, .iaload, .iastore, .iinc 2 1, .goto 16] 54 = true := qck_r (nn_ _) (by decide +kernel)
theorem bs_X9_takePoints_16 {P : Zt → Option Zv → Prop} (K : Int → Zl → List Zv → Zt → Prop) : sx_ K P [.iload 2, .aload 0, .tableswitch 0 9 5 #[], .tableswitch 0 0 5 #[], .if_icmp .ge 54, .aload 0, .tableswitch 0 9 7 #[], .iload 2, .aload 0, .tableswitch 0 9 1 #[], .tableswitch 0 7 2 #[], .iload 2, .iconst 8, .imul, .iconst 6, .iadd, .iaload, .iastore, .iinc 2 1, .goto 16] 54 = x_iload 2 (x_aload 0 (x_g5 109 100 5 (x_g0 100 5 0 12 (x_if_icmp .ge 54 K (x_aload 0 (x_g1 109 587 (x_iload 2 (x_aload 0 (x_g1 109 107 (x_g1 107 542 (x_iload 2 (x_iconst 8 (x_imul (x_iconst 6 (x_iadd (x_iaload (x_iastore (x_iinc 2 1 (x_goto 16 K))))))))))))))))))) := ((xe_iload 2).trans (congrArg (x_iload 2) ((xe_aload 0).trans (congrArg (x_aload 0) ((xe_g5 (kk := 109) rfl tl_9_5).trans (congrArg (x_g5 109 100 5) ((xe_g0 (kk := 100) rfl tl_0_5).trans (congrArg (x_g0 100 5 0 12) ((xe_if_icmp .ge 54).trans (congrArg (x_if_icmp .ge 54 K) ((xe_aload 0).trans (congrArg (x_aload 0) ((xe_g1 (kk := 109) rfl tl_9_7).trans (congrArg (x_g1 109 587) ((xe_iload 2).trans (congrArg (x_iload 2) ((xe_aload 0).trans (congrArg (x_aload 0) ((xe_g1 (kk := 109) rfl tl_9_1).trans (congrArg (x_g1 109 107) ((xe_g1 (kk := 107) rfl tl_7_2).trans (congrArg (x_g1 107 542) ((xe_iload 2).trans (congrArg (x_iload 2) ((xe_iconst 8).trans (congrArg (x_iconst 8) ((xe_imul).trans (congrArg (x_imul) ((xe_iconst 6).trans (congrArg (x_iconst 6) ((xe_iadd).trans (congrArg (x_iadd) ((xe_iaload).trans (congrArg (x_iaload) ((xe_iastore).trans (congrArg (x_iastore) ((xe_iinc 2 1).trans (congrArg (x_iinc 2 1) (xe_goto 16)))))))))))))))))))))))))))))))))))))))
theorem bk_X9_takePoints_54 : ck_ fX9 none cX9_takePoints 54 [.iconst 0, .istore 2] 56 = true := qck_r (nn_ _) (by decide +kernel)
theorem bs_X9_takePoints_54 {P : Zt → Option Zv → Prop} (K : Int → Zl → List Zv → Zt → Prop) : sx_ K P [.iconst 0, .istore 2] 56 = x_iconst 0 (x_istore 2 (K 56)) := ((xe_iconst 0).trans (congrArg (x_iconst 0) ((xe_istore 2).trans (congrArg (x_istore 2) xe_nil))))
theorem bk_X9_takePoints_0 : ck_ fX9 none cX9_takePoints 0 [.aload 0, .tableswitch 0 9 1 #[], .aload 0, .tableswitch 0 9 5 #[], .iconst 999] 11 = true := qck_r (nn_ _) (by decide +kernel)
theorem bs_X9_takePoints_0 {P : Zt → Option Zv → Prop} (K : Int → Zl → List Zv → Zt → Prop) : sx_ K P [.aload 0, .tableswitch 0 9 1 #[], .aload 0, .tableswitch 0 9 5 #[], .iconst 999] 11 = x_aload 0 (x_g1 109 107 (x_aload 0 (x_g5 109 100 5 (x_iconst 999 (K 11))))) := ((xe_aload 0).trans (congrArg (x_aload 0) ((xe_g1 (kk := 109) rfl tl_9_1).trans (congrArg (x_g1 109 107) ((xe_aload 0).trans (congrArg (x_aload 0) ((xe_g5 (kk := 109) rfl tl_9_5).trans (congrArg (x_g5 109 100 5) ((xe_iconst 999).trans (congrArg (x_iconst 999) xe_nil))))))))))
set_option maxRecDepth 100000 in
theorem cl_X9_124 : cv_ RX9 124 yX7_tally zX7_tally 7 2 := ⟨gi_V (lwq_6 (dqc_m (dqa_m (List.mem_of_getElem? (i := 6) rfl))) rfl : Cond.methodLink RX9 124 yX7_tally ∈ lw_g) (lwq_5 (dqc_m (dqc_m (dqc_m (dqc_m (dqc_m (dqc_m (dqa_m (List.mem_of_getElem? (i := 1) rfl)))))))) rfl : Cond.instanceMethod yX7_tally ∈ lw_g) (lwq_5 (dqc_m (dqc_m (dqc_m (dqc_m (dqc_m (dqc_m (dqa_m (List.mem_of_getElem? (i := 2) rfl)))))))) rfl : Cond.selects yX7_tally.cls yX7_tally yX7_tally ∈ lw_g) (lwq_1 (List.mem_of_getElem? (i := 5) rfl) rfl : Cond.initialized yX7_tally.cls ∈ lw_g) (lwq_5 (dqc_m (dqc_m (dqc_m (dqc_m (dqc_m (dqc_m (dqa_m (List.mem_of_getElem? (i := 3) rfl)))))))) rfl : Cond.code yX7_tally cX7_tally 5 none ∈ lw_g), ⟨nmh_7.1, nmh_7.2, pdq_31⟩, ⟨_, _, rfl⟩⟩
theorem bk_X9_takePoints_14 : ck_ fX9 none cX9_takePoints 14 [.iconst 0, .istore 2] 16 = true := qck_r (nn_ _) (by decide +kernel)
theorem bs_X9_takePoints_14 {P : Zt → Option Zv → Prop} (K : Int → Zl → List Zv → Zt → Prop) : sx_ K P [.iconst 0, .istore 2] 16 = x_iconst 0 (x_istore 2 (K 16)) := ((xe_iconst 0).trans (congrArg (x_iconst 0) ((xe_istore 2).trans (congrArg (x_istore 2) xe_nil))))
abbrev po_X9_takePoints (T : Zt) (t : Int) : Zt → Option Zv → Prop := fun T' r => r = none ∧ fr_ [(107, [1]), (542, []), (543, []), (544, []), (545, []), (546, []), (587, []), (109, [6])] T T' ∧ (0 = (0 : Int))
set_option maxHeartbeats 4000000 in
theorem ct_X9_takePoints {T : Zt} {t : Int} (hka : KA_ T) (hkc : KC_ T) (hks : KS_ T) (hc9 : 1 ≤ T 109 0 5 ∧ T 109 0 5 ≤ T 106 0 2) (ht : 0 ≤ t ∧ t ≤ 11) : Ct_ yX9_takePoints zX9_takePoints T [vR 109 0, vI t] (po_X9_takePoints T t) := by
  refine ct_of pn_9 rfl rfl (Nat.le_of_ble_eq_true rfl) (fun hT hav => ?_)
  have hr_t : -2147483648 ≤ t ∧ t ≤ 2147483647 := hav (vI t) (List.mem_cons_of_mem _ List.mem_cons_self)
  have hz : zX9_takePoints.2.2.2.1 = some .boolean → ∀ (T' : Zt) (x : Int), po_X9_takePoints T t T' (some (vI x)) → 0 ≤ x ∧ x ≤ 1 := fun h => by cases h
  have hk2 := hkc (T 109 0 5 - 1) (by omega) (by omega)
  have hb_matchCount : 0 ≤ T 106 0 4 ∧ T 106 0 4 ≤ 400 := bd_f hT 106 4 tl_6_4 0
  have hfm : 0 ≤ T 100 (T 109 0 5 - 1) 7 ∧ T 100 (T 109 0 5 - 1) 7 ≤ 400 := bd_f hT 100 7 tl_0_7 (T 109 0 5 - 1)
  have hmc : 0 ≤ T 100 (T 109 0 5 - 1) 8 ∧ T 100 (T 109 0 5 - 1) 8 ≤ 400 := bd_f hT 100 8 tl_0_8 (T 109 0 5 - 1)
  have hen : 0 ≤ T 100 (T 109 0 5 - 1) 5 ∧ T 100 (T 109 0 5 - 1) 5 ≤ 12 := bd_f hT 100 5 tl_0_5 (T 109 0 5 - 1)
  show J_ zX9_takePoints T (po_X9_takePoints T t) 0 0 0 [some (vR 109 0), some (vI t), none, none, none, none] [] T
  have c_56 : ∀ (nn : Nat) (k : Int) (T2 : Zt), ((T 100 (T 109 0 5 - 1) 8 - k).toNat) ≤ nn → (fr_ [(107, [1]), (542, []), (543, []), (544, []), (545, []), (546, []), (587, [])] T T2) → (0 ≤ k ∧ k ≤ T 100 (T 109 0 5 - 1) 8) → J_ zX9_takePoints T (po_X9_takePoints T t) 0 0 56 [some (vR 109 0), some (vI t), some (vI k), none, none, none] [] T2 := by
    intro nn
    induction nn using Nat.strongRecOn with
    | _ nn ih_56 =>
      intro k T2 hm_56 hf_56 i2
      replace hm_56 := fun (_ : Unit) => hm_56
      refine j_blx (F := fX9) tb_X9 (nn_ _) bk_X9_takePoints_56 bs_X9_takePoints_56 hz (fun K hK => ?_)
      have e2 : T2 109 0 5 = T 109 0 5 := hf_56 109 0 5 rfl
      refine And.intro (fun c1 => ?_) (fun c1 => ?_)
      · exact absurd c1 (by omega)
      · intro b3 b3b
        have e4 : T2 100 (T 109 0 5 - 1) 8 = T 100 (T 109 0 5 - 1) 8 := hf_56 100 (T 109 0 5 - 1) 8 rfl
        have e5 : T2 100 (T2 109 0 5 - 1) 8 = T 100 (T 109 0 5 - 1) 8 := by rw [e2]; exact e4
        rw [e5] at b3 b3b ⊢
        refine And.intro (fun c6 => ?_) (fun c6 => ?_)
        · refine hK 190 _ [] T2 ?_
          refine j_blx (F := fX9) tb_X9 (nn_ _) bk_X9_takePoints_190 bs_X9_takePoints_190 hz (fun K hK => ?_)
          refine ix_i (by omega) ?_
          intro b7 b7b
          refine bd_i (by omega) ?_
          refine x_nm (fun U8 hU8 => ?_)
          have e9 := up_f hU8
          refine (show po_X9_takePoints T t U8 (none) from ?_)
          exact ⟨rfl, fr_u (fr_t (fr_0 _ _) (fr_s hf_56 rfl)) hU8 rfl, by rfl⟩
        · have e11 : T2 109 0 5 = T 109 0 5 := hf_56 109 0 5 rfl
          refine And.intro (fun c10 => ?_) (fun c10 => ?_)
          · exact absurd c10 (by omega)
          · intro b12 b12b
            have e13 : T2 100 (T 109 0 5 - 1) 7 = T 100 (T 109 0 5 - 1) 7 := hf_56 100 (T 109 0 5 - 1) 7 rfl
            have e14 : T2 100 (T2 109 0 5 - 1) 7 = T 100 (T 109 0 5 - 1) 7 := by rw [e11]; exact e13
            rw [e14] at b12 b12b ⊢
            refine rg_i (by omega) ?_
            refine ix_i (by omega) ?_
            have e16 : T2 523 0 ((T 100 (T 109 0 5 - 1) 7) + k) = T 523 0 ((T 100 (T 109 0 5 - 1) 7) + k) := hf_56 523 0 ((T 100 (T 109 0 5 - 1) 7) + k) rfl
            refine And.intro (fun c15 => ?_) (fun c15 => ?_)
            · exact absurd (show T 523 0 (T 100 (T 109 0 5 - 1) 7 + k) = 0 by omega) (hka.2 _ (by omega) (by omega))
            · intro b17 b17b
              have e18 : T2 102 ((T 100 (T 109 0 5 - 1) 7) + k) 1 = T 102 ((T 100 (T 109 0 5 - 1) 7) + k) 1 := hf_56 102 ((T 100 (T 109 0 5 - 1) 7) + k) 1 rfl
              rw [e18] at b17 b17b ⊢
              refine ix_i (by omega) ?_
              intro b19 b19b
              have e20 : T2 584 0 (T 102 ((T 100 (T 109 0 5 - 1) 7) + k) 1) = T 584 0 (T 102 ((T 100 (T 109 0 5 - 1) 7) + k) 1) := hf_56 584 0 (T 102 ((T 100 (T 109 0 5 - 1) 7) + k) 1) rfl
              rw [e20] at b19 b19b ⊢
              refine And.intro (fun c21 => ?_) (fun c21 => ?_)
              · refine hK 184 [some (vR 109 0), some (vI t), some (vI k), some (vR 102 ((T 100 (T 109 0 5 - 1) 7) + k)), none, none] [] T2 ?_
                refine j_blx (F := fX9) tb_X9 (nn_ _) bk_X9_takePoints_184 bs_X9_takePoints_184 hz (fun K hK => ?_)
                refine rg_i (by omega) ?_
                refine hK 56 [some (vR 109 0), some (vI t), some (vI (k + 1)), some (vR 102 ((T 100 (T 109 0 5 - 1) 7) + k)), none, none] [] T2 ?_
                refine j_drop [some (vR 109 0), some (vI t), some (vI (k + 1)), none, none, none] (fun k v hk => ?_) rfl ?_
                · match k, hk with
                  | 0, hk => exact hk
                  | 1, hk => exact hk
                  | 2, hk => exact hk
                  | 3, hk => cases hk
                  | 4, hk => cases hk
                  | 5, hk => cases hk
                  | k + 6, hk => cases hk
                refine ih_56 _ ?_ (k + 1) T2 (Nat.le_refl _) ?_ ?_
                · have hm_56 := hm_56 (); omega
                · exact fr_t (fr_0 _ _) (fr_s hf_56 rfl)
                · omega
              · have hs9 := hks (T 109 0 5 - 1) (by omega) (by omega) (T 100 (T 109 0 5 - 1) 7 + k) (by omega) (by omega)
                have e23 : T2 109 0 5 = T 109 0 5 := hf_56 109 0 5 rfl
                refine And.intro (fun c22 => ?_) (fun c22 => ?_)
                · exact absurd c22 (by omega)
                · intro b24 b24b
                  have e25 : T2 102 ((T 100 (T 109 0 5 - 1) 7) + k) 3 = T 102 ((T 100 (T 109 0 5 - 1) 7) + k) 3 := hf_56 102 ((T 100 (T 109 0 5 - 1) 7) + k) 3 rfl
                  rw [e25] at b24 b24b ⊢
                  refine ix_i (by omega) ?_
                  intro b26 b26b
                  have e27 : T2 404 (T 109 0 5 - 1) (T 102 ((T 100 (T 109 0 5 - 1) 7) + k) 3) = T 404 (T 109 0 5 - 1) (T 102 ((T 100 (T 109 0 5 - 1) 7) + k) 3) := hf_56 404 (T 109 0 5 - 1) (T 102 ((T 100 (T 109 0 5 - 1) 7) + k) 3) rfl
                  have e28 : T2 404 (T2 109 0 5 - 1) (T 102 ((T 100 (T 109 0 5 - 1) 7) + k) 3) = T 404 (T 109 0 5 - 1) (T 102 ((T 100 (T 109 0 5 - 1) 7) + k) 3) := by rw [e23]; exact e27
                  rw [e28] at b26 b26b ⊢
                  have e30 : T2 109 0 5 = T 109 0 5 := hf_56 109 0 5 rfl
                  refine And.intro (fun c29 => ?_) (fun c29 => ?_)
                  · exact absurd c29 (by omega)
                  · intro b31 b31b
                    have e32 : T2 102 ((T 100 (T 109 0 5 - 1) 7) + k) 4 = T 102 ((T 100 (T 109 0 5 - 1) 7) + k) 4 := hf_56 102 ((T 100 (T 109 0 5 - 1) 7) + k) 4 rfl
                    rw [e32] at b31 b31b ⊢
                    refine ix_i (by omega) ?_
                    intro b33 b33b
                    have e34 : T2 404 (T 109 0 5 - 1) (T 102 ((T 100 (T 109 0 5 - 1) 7) + k) 4) = T 404 (T 109 0 5 - 1) (T 102 ((T 100 (T 109 0 5 - 1) 7) + k) 4) := hf_56 404 (T 109 0 5 - 1) (T 102 ((T 100 (T 109 0 5 - 1) 7) + k) 4) rfl
                    have e35 : T2 404 (T2 109 0 5 - 1) (T 102 ((T 100 (T 109 0 5 - 1) 7) + k) 4) = T 404 (T 109 0 5 - 1) (T 102 ((T 100 (T 109 0 5 - 1) 7) + k) 4) := by rw [e30]; exact e34
                    rw [e35] at b33 b33b ⊢
                    refine ix_i (by omega) ?_
                    intro b36 b36b
                    have e38 : T2 109 0 5 = T 109 0 5 := hf_56 109 0 5 rfl
                    refine And.intro (fun c37 => ?_) (fun c37 => ?_)
                    · exact absurd c37 (by omega)
                    · refine And.intro (fun c39 => ?_) (fun c39 => ?_)
                      · refine hK 151 [some (vR 109 0), some (vI t), some (vI k), some (vR 102 ((T 100 (T 109 0 5 - 1) 7) + k)), some (vI (T 404 (T 109 0 5 - 1) (T 102 ((T 100 (T 109 0 5 - 1) 7) + k) 3))), some (vI (T 404 (T 109 0 5 - 1) (T 102 ((T 100 (T 109 0 5 - 1) 7) + k) 4)))] [vR 401 (T2 109 0 5 - 1), vI (T2 587 0 (T 404 (T 109 0 5 - 1) (T 102 ((T 100 (T 109 0 5 - 1) 7) + k) 3))), vI (T 404 (T 109 0 5 - 1) (T 102 ((T 100 (T 109 0 5 - 1) 7) + k) 3)), vR 587 0] T2 ?_
                        refine j_blx (F := fX9) tb_X9 (nn_ _) bk_X9_takePoints_151 bs_X9_takePoints_151 hz (fun K hK => ?_)
                        refine ix_i (by omega) ?_
                        intro b40 b40b
                        have e41 : T2 401 (T 109 0 5 - 1) 3 = T 401 (T 109 0 5 - 1) 3 := hf_56 401 (T 109 0 5 - 1) 3 rfl
                        have e42 : T2 401 (T2 109 0 5 - 1) 3 = T 401 (T 109 0 5 - 1) 3 := by rw [e38]; exact e41
                        rw [e42] at b40 b40b ⊢
                        intro w43 w43b
                        refine iy_i (by omega) (by omega) ?_
                        refine x_nm (fun U44 hU44 => ?_)
                        have e45 := up_f hU44
                        refine ix_i (by omega) ?_
                        intro b46 b46b
                        have e48 : U44 109 0 5 = T 109 0 5 := (up_k hU44 (by exact Nat.ne_of_beq_eq_false rfl) 0 5).trans (hf_56 109 0 5 rfl)
                        refine And.intro (fun c47 => ?_) (fun c47 => ?_)
                        · exact absurd c47 (by omega)
                        · refine And.intro (fun c49 => ?_) (fun c49 => ?_)
                          · refine hK 180 _ [vR 401 (U44 109 0 5 - 1), vI (U44 587 0 (T 404 (T 109 0 5 - 1) (T 102 ((T 100 (T 109 0 5 - 1) 7) + k) 4))), vI (T 404 (T 109 0 5 - 1) (T 102 ((T 100 (T 109 0 5 - 1) 7) + k) 4)), vR 587 0] U44 ?_
                            refine j_blx (F := fX9) tb_X9 (nn_ _) bk_X9_takePoints_180 bs_X9_takePoints_180 hz (fun K hK => ?_)
                            refine ix_i (by omega) ?_
                            intro b50 b50b
                            have e51 : U44 401 (T 109 0 5 - 1) 3 = T 401 (T 109 0 5 - 1) 3 := (up_k hU44 (by exact Nat.ne_of_beq_eq_false rfl) (T 109 0 5 - 1) 3).trans (hf_56 401 (T 109 0 5 - 1) 3 rfl)
                            have e52 : U44 401 (U44 109 0 5 - 1) 3 = T 401 (T 109 0 5 - 1) 3 := by rw [e48]; exact e51
                            rw [e52] at b50 b50b ⊢
                            intro w53 w53b
                            refine iy_i (by omega) (by omega) ?_
                            refine x_nm (fun U54 hU54 => ?_)
                            have e55 := up_f hU54
                            refine rg_i (by omega) ?_
                            refine hK 56 [some (vR 109 0), some (vI t), some (vI (k + 1)), some (vR 102 ((T 100 (T 109 0 5 - 1) 7) + k)), some (vI (T 404 (T 109 0 5 - 1) (T 102 ((T 100 (T 109 0 5 - 1) 7) + k) 3))), some (vI (T 404 (T 109 0 5 - 1) (T 102 ((T 100 (T 109 0 5 - 1) 7) + k) 4)))] [] U54 ?_
                            refine j_drop [some (vR 109 0), some (vI t), some (vI (k + 1)), none, none, none] (fun k v hk => ?_) rfl ?_
                            · match k, hk with
                              | 0, hk => exact hk
                              | 1, hk => exact hk
                              | 2, hk => exact hk
                              | 3, hk => cases hk
                              | 4, hk => cases hk
                              | 5, hk => cases hk
                              | k + 6, hk => cases hk
                            refine ih_56 _ ?_ (k + 1) U54 (Nat.le_refl _) ?_ ?_
                            · have hm_56 := hm_56 (); omega
                            · exact fr_u (fr_u (fr_t (fr_0 _ _) (fr_s hf_56 rfl)) hU44 rfl) hU54 rfl
                            · omega
                          · refine hK 181 [some (vR 109 0), some (vI t), some (vI k), some (vR 102 ((T 100 (T 109 0 5 - 1) 7) + k)), some (vI (T 404 (T 109 0 5 - 1) (T 102 ((T 100 (T 109 0 5 - 1) 7) + k) 3))), some (vI (T 404 (T 109 0 5 - 1) (T 102 ((T 100 (T 109 0 5 - 1) 7) + k) 4)))] [vI 1, vR 401 (U44 109 0 5 - 1), vI (U44 587 0 (T 404 (T 109 0 5 - 1) (T 102 ((T 100 (T 109 0 5 - 1) 7) + k) 4))), vI (T 404 (T 109 0 5 - 1) (T 102 ((T 100 (T 109 0 5 - 1) 7) + k) 4)), vR 587 0] U44 ?_
                            refine j_blx (F := fX9) tb_X9 (nn_ _) bk_X9_takePoints_181 bs_X9_takePoints_181 hz (fun K hK => ?_)
                            refine ix_i (by omega) ?_
                            intro b56 b56b
                            have e57 : U44 401 (T 109 0 5 - 1) 1 = T 401 (T 109 0 5 - 1) 1 := (up_k hU44 (by exact Nat.ne_of_beq_eq_false rfl) (T 109 0 5 - 1) 1).trans (hf_56 401 (T 109 0 5 - 1) 1 rfl)
                            have e58 : U44 401 (U44 109 0 5 - 1) 1 = T 401 (T 109 0 5 - 1) 1 := by rw [e48]; exact e57
                            rw [e58] at b56 b56b ⊢
                            intro w59 w59b
                            refine iy_i (by omega) (by omega) ?_
                            refine x_nm (fun U60 hU60 => ?_)
                            have e61 := up_f hU60
                            refine rg_i (by omega) ?_
                            refine hK 56 [some (vR 109 0), some (vI t), some (vI (k + 1)), some (vR 102 ((T 100 (T 109 0 5 - 1) 7) + k)), some (vI (T 404 (T 109 0 5 - 1) (T 102 ((T 100 (T 109 0 5 - 1) 7) + k) 3))), some (vI (T 404 (T 109 0 5 - 1) (T 102 ((T 100 (T 109 0 5 - 1) 7) + k) 4)))] [] U60 ?_
                            refine j_drop [some (vR 109 0), some (vI t), some (vI (k + 1)), none, none, none] (fun k v hk => ?_) rfl ?_
                            · match k, hk with
                              | 0, hk => exact hk
                              | 1, hk => exact hk
                              | 2, hk => exact hk
                              | 3, hk => cases hk
                              | 4, hk => cases hk
                              | 5, hk => cases hk
                              | k + 6, hk => cases hk
                            refine ih_56 _ ?_ (k + 1) U60 (Nat.le_refl _) ?_ ?_
                            · have hm_56 := hm_56 (); omega
                            · exact fr_u (fr_u (fr_t (fr_0 _ _) (fr_s hf_56 rfl)) hU44 rfl) hU60 rfl
                            · omega
                      · refine hK 152 _ [vI 1, vR 401 (T2 109 0 5 - 1), vI (T2 587 0 (T 404 (T 109 0 5 - 1) (T 102 ((T 100 (T 109 0 5 - 1) 7) + k) 3))), vI (T 404 (T 109 0 5 - 1) (T 102 ((T 100 (T 109 0 5 - 1) 7) + k) 3)), vR 587 0] T2 ?_
                        refine j_blx (F := fX9) tb_X9 (nn_ _) bk_X9_takePoints_152 bs_X9_takePoints_152 hz (fun K hK => ?_)
                        refine ix_i (by omega) ?_
                        intro b62 b62b
                        have e63 : T2 401 (T 109 0 5 - 1) 1 = T 401 (T 109 0 5 - 1) 1 := hf_56 401 (T 109 0 5 - 1) 1 rfl
                        have e64 : T2 401 (T2 109 0 5 - 1) 1 = T 401 (T 109 0 5 - 1) 1 := by rw [e38]; exact e63
                        rw [e64] at b62 b62b ⊢
                        intro w65 w65b
                        refine iy_i (by omega) (by omega) ?_
                        refine x_nm (fun U66 hU66 => ?_)
                        have e67 := up_f hU66
                        refine ix_i (by omega) ?_
                        intro b68 b68b
                        have e70 : U66 109 0 5 = T 109 0 5 := (up_k hU66 (by exact Nat.ne_of_beq_eq_false rfl) 0 5).trans (hf_56 109 0 5 rfl)
                        refine And.intro (fun c69 => ?_) (fun c69 => ?_)
                        · exact absurd c69 (by omega)
                        · refine And.intro (fun c71 => ?_) (fun c71 => ?_)
                          · refine hK 180 _ [vR 401 (U66 109 0 5 - 1), vI (U66 587 0 (T 404 (T 109 0 5 - 1) (T 102 ((T 100 (T 109 0 5 - 1) 7) + k) 4))), vI (T 404 (T 109 0 5 - 1) (T 102 ((T 100 (T 109 0 5 - 1) 7) + k) 4)), vR 587 0] U66 ?_
                            refine j_blx (F := fX9) tb_X9 (nn_ _) bk_X9_takePoints_180 bs_X9_takePoints_180 hz (fun K hK => ?_)
                            refine ix_i (by omega) ?_
                            intro b72 b72b
                            have e73 : U66 401 (T 109 0 5 - 1) 3 = T 401 (T 109 0 5 - 1) 3 := (up_k hU66 (by exact Nat.ne_of_beq_eq_false rfl) (T 109 0 5 - 1) 3).trans (hf_56 401 (T 109 0 5 - 1) 3 rfl)
                            have e74 : U66 401 (U66 109 0 5 - 1) 3 = T 401 (T 109 0 5 - 1) 3 := by rw [e70]; exact e73
                            rw [e74] at b72 b72b ⊢
                            intro w75 w75b
                            refine iy_i (by omega) (by omega) ?_
                            refine x_nm (fun U76 hU76 => ?_)
                            have e77 := up_f hU76
                            refine rg_i (by omega) ?_
                            refine hK 56 [some (vR 109 0), some (vI t), some (vI (k + 1)), some (vR 102 ((T 100 (T 109 0 5 - 1) 7) + k)), some (vI (T 404 (T 109 0 5 - 1) (T 102 ((T 100 (T 109 0 5 - 1) 7) + k) 3))), some (vI (T 404 (T 109 0 5 - 1) (T 102 ((T 100 (T 109 0 5 - 1) 7) + k) 4)))] [] U76 ?_
                            refine j_drop [some (vR 109 0), some (vI t), some (vI (k + 1)), none, none, none] (fun k v hk => ?_) rfl ?_
                            · match k, hk with
                              | 0, hk => exact hk
                              | 1, hk => exact hk
                              | 2, hk => exact hk
                              | 3, hk => cases hk
                              | 4, hk => cases hk
                              | 5, hk => cases hk
                              | k + 6, hk => cases hk
                            refine ih_56 _ ?_ (k + 1) U76 (Nat.le_refl _) ?_ ?_
                            · have hm_56 := hm_56 (); omega
                            · exact fr_u (fr_u (fr_t (fr_0 _ _) (fr_s hf_56 rfl)) hU66 rfl) hU76 rfl
                            · omega
                          · refine hK 181 [some (vR 109 0), some (vI t), some (vI k), some (vR 102 ((T 100 (T 109 0 5 - 1) 7) + k)), some (vI (T 404 (T 109 0 5 - 1) (T 102 ((T 100 (T 109 0 5 - 1) 7) + k) 3))), some (vI (T 404 (T 109 0 5 - 1) (T 102 ((T 100 (T 109 0 5 - 1) 7) + k) 4)))] [vI 1, vR 401 (U66 109 0 5 - 1), vI (U66 587 0 (T 404 (T 109 0 5 - 1) (T 102 ((T 100 (T 109 0 5 - 1) 7) + k) 4))), vI (T 404 (T 109 0 5 - 1) (T 102 ((T 100 (T 109 0 5 - 1) 7) + k) 4)), vR 587 0] U66 ?_
                            refine j_blx (F := fX9) tb_X9 (nn_ _) bk_X9_takePoints_181 bs_X9_takePoints_181 hz (fun K hK => ?_)
                            refine ix_i (by omega) ?_
                            intro b78 b78b
                            have e79 : U66 401 (T 109 0 5 - 1) 1 = T 401 (T 109 0 5 - 1) 1 := (up_k hU66 (by exact Nat.ne_of_beq_eq_false rfl) (T 109 0 5 - 1) 1).trans (hf_56 401 (T 109 0 5 - 1) 1 rfl)
                            have e80 : U66 401 (U66 109 0 5 - 1) 1 = T 401 (T 109 0 5 - 1) 1 := by rw [e70]; exact e79
                            rw [e80] at b78 b78b ⊢
                            intro w81 w81b
                            refine iy_i (by omega) (by omega) ?_
                            refine x_nm (fun U82 hU82 => ?_)
                            have e83 := up_f hU82
                            refine rg_i (by omega) ?_
                            refine hK 56 [some (vR 109 0), some (vI t), some (vI (k + 1)), some (vR 102 ((T 100 (T 109 0 5 - 1) 7) + k)), some (vI (T 404 (T 109 0 5 - 1) (T 102 ((T 100 (T 109 0 5 - 1) 7) + k) 3))), some (vI (T 404 (T 109 0 5 - 1) (T 102 ((T 100 (T 109 0 5 - 1) 7) + k) 4)))] [] U82 ?_
                            refine j_drop [some (vR 109 0), some (vI t), some (vI (k + 1)), none, none, none] (fun k v hk => ?_) rfl ?_
                            · match k, hk with
                              | 0, hk => exact hk
                              | 1, hk => exact hk
                              | 2, hk => exact hk
                              | 3, hk => cases hk
                              | 4, hk => cases hk
                              | 5, hk => cases hk
                              | k + 6, hk => cases hk
                            refine ih_56 _ ?_ (k + 1) U82 (Nat.le_refl _) ?_ ?_
                            · have hm_56 := hm_56 (); omega
                            · exact fr_u (fr_u (fr_t (fr_0 _ _) (fr_s hf_56 rfl)) hU66 rfl) hU82 rfl
                            · omega
  have c_16 : ∀ (nn : Nat) (k : Int) (T1 : Zt), ((12 - k).toNat) ≤ nn → (fr_ [(107, [1]), (542, []), (543, []), (544, []), (545, []), (546, []), (587, [])] T T1) → (0 ≤ k ∧ k ≤ 12) → J_ zX9_takePoints T (po_X9_takePoints T t) 0 0 16 [some (vR 109 0), some (vI t), some (vI k), none, none, none] [] T1 := by
    intro nn
    induction nn using Nat.strongRecOn with
    | _ nn ih_16 =>
      intro k T1 hm_16 hf_16 i1
      replace hm_16 := fun (_ : Unit) => hm_16
      refine j_blx (F := fX9) tb_X9 (nn_ _) bk_X9_takePoints_16 bs_X9_takePoints_16 hz (fun K hK => ?_)
      have e85 : T1 109 0 5 = T 109 0 5 := hf_16 109 0 5 rfl
      refine And.intro (fun c84 => ?_) (fun c84 => ?_)
      · exact absurd c84 (by omega)
      · intro b86 b86b
        have e87 : T1 100 (T 109 0 5 - 1) 5 = T 100 (T 109 0 5 - 1) 5 := hf_16 100 (T 109 0 5 - 1) 5 rfl
        have e88 : T1 100 (T1 109 0 5 - 1) 5 = T 100 (T 109 0 5 - 1) 5 := by rw [e85]; exact e87
        rw [e88] at b86 b86b ⊢
        refine And.intro (fun c89 => ?_) (fun c89 => ?_)
        · refine hK 54 _ [] T1 ?_
          refine j_blx (F := fX9) tb_X9 (nn_ _) bk_X9_takePoints_54 bs_X9_takePoints_54 hz (fun K hK => ?_)
          refine hK 56 [some (vR 109 0), some (vI t), some (vI 0), none, none, none] [] T1 ?_
          refine c_56 _ 0 T1 (Nat.le_refl _) ?_ ?_
          · exact fr_t (fr_0 _ _) (fr_s hf_16 rfl)
          · omega
        · refine rg_i (by omega) ?_
          refine rg_i (by omega) ?_
          refine ix_i (by omega) ?_
          intro b90 b90b
          refine iy_i (by omega) (by omega) ?_
          refine x_nm (fun U91 hU91 => ?_)
          have e92 := up_f hU91
          refine rg_i (by omega) ?_
          refine hK 16 [some (vR 109 0), some (vI t), some (vI (k + 1)), none, none, none] [] U91 ?_
          refine ih_16 _ ?_ (k + 1) U91 (Nat.le_refl _) ?_ ?_
          · have hm_16 := hm_16 (); omega
          · exact fr_u (fr_t (fr_0 _ _) (fr_s hf_16 rfl)) hU91 rfl
          · omega
  refine j_blx (F := fX9) tb_X9 (nn_ _) bk_X9_takePoints_0 bs_X9_takePoints_0 hz (fun K hK => ?_)
  refine And.intro (fun c93 => ?_) (fun c93 => ?_)
  · exact absurd c93 (by omega)
  · refine hK 11 _ [vI 999, vR 100 (T 109 0 5 - 1), vR 107 0] T ?_
    refine j_callV (y := yX7_tally) (Yc := zX7_tally) (rest := []) [vR 100 (T 109 0 5 - 1), vI 999] (ct_X7_tally (T := T) (hka) (hkc) (by omega)) cl_X9_124 (qd_c (by decide +kernel)) (nn_ _) rfl (rf_of rfl) (Nat.le_of_ble_eq_true rfl) (Nat.le_of_ble_eq_true rfl) (Nat.le_of_ble_eq_true rfl) rfl ?_
    rintro U94 _ ⟨rfl, fU94, qU94⟩
    show J_ zX9_takePoints T (po_X9_takePoints T t) 0 0 14 _ [] U94
    refine j_blx (F := fX9) tb_X9 (nn_ _) bk_X9_takePoints_14 bs_X9_takePoints_14 hz (fun K hK => ?_)
    refine hK 16 [some (vR 109 0), some (vI t), some (vI 0), none, none, none] [] U94 ?_
    refine c_16 _ 0 U94 (Nat.le_refl _) ?_ ?_
    · exact fr_t (fr_0 _ _) (fr_s fU94 rfl)
    · omega
abbrev cX9_isFirstBy : ByteArray := prog_11_method_18_code
def yX9_isFirstBy : MethodName := ⟨RX9, "isFirstBy", "(III)Z"⟩
def zX9_isFirstBy : Zm := (RX9, cX9_isFirstBy, 7, (some .boolean), { frames := 5, cells := 0, slots := 0, locals := 127 })
set_option maxRecDepth 100000 in
theorem cl_X9_184 : cv_ RX9 184 yX7_rank zX7_rank 7 0 := ⟨gi_V (lwq_6 (dqc_m (dqc_m (dqc_m (dqa_m (dqa_m (dqa_m (List.mem_of_getElem? (i := 0) rfl))))))) rfl : Cond.methodLink RX9 184 yX7_rank ∈ lw_g) (lwq_5 (dqc_m (dqc_m (dqc_m (dqc_m (dqc_m (dqc_m (dqc_m (List.mem_of_getElem? (i := 1) rfl)))))))) rfl : Cond.instanceMethod yX7_rank ∈ lw_g) (lwq_5 (dqc_m (dqc_m (dqc_m (dqc_m (dqc_m (dqc_m (dqc_m (List.mem_of_getElem? (i := 2) rfl)))))))) rfl : Cond.selects yX7_rank.cls yX7_rank yX7_rank ∈ lw_g) (lwq_1 (List.mem_of_getElem? (i := 5) rfl) rfl : Cond.initialized yX7_rank.cls ∈ lw_g) (lwq_5 (dqc_m (dqc_m (dqc_m (dqc_m (dqc_m (dqc_m (dqc_m (List.mem_of_getElem? (i := 3) rfl)))))))) rfl : Cond.code yX7_rank cX7_rank 3 none ∈ lw_g), ⟨nmh_7.1, nmh_7.2, pdq_1⟩, ⟨_, _, rfl⟩⟩
set_option maxRecDepth 100000 in
theorem cl_X9_180 : cv_ RX9 180 yX7_addResult zX7_addResult 7 3 := ⟨gi_V (lwq_6 (dqc_m (dqc_m (dqc_m (dqa_m (dqa_m (List.mem_of_getElem? (i := 7) rfl)))))) rfl : Cond.methodLink RX9 180 yX7_addResult ∈ lw_g) (lwq_5 (dqc_m (dqc_m (dqc_m (dqc_m (dqc_m (dqc_m (dqa_m (dqa_m (List.mem_of_getElem? (i := 0) rfl))))))))) rfl : Cond.instanceMethod yX7_addResult ∈ lw_g) (lwq_5 (dqc_m (dqc_m (dqc_m (dqc_m (dqc_m (dqc_m (dqa_m (dqa_m (List.mem_of_getElem? (i := 1) rfl))))))))) rfl : Cond.selects yX7_addResult.cls yX7_addResult yX7_addResult ∈ lw_g) (lwq_1 (List.mem_of_getElem? (i := 5) rfl) rfl : Cond.initialized yX7_addResult.cls ∈ lw_g) (lwq_5 (dqc_m (dqc_m (dqc_m (dqc_m (dqc_m (dqc_m (dqa_m (dqa_m (List.mem_of_getElem? (i := 2) rfl))))))))) rfl : Cond.code yX7_addResult cX7_addResult 6 none ∈ lw_g), ⟨nmh_7.1, nmh_7.2, pdq_30⟩, ⟨_, _, rfl⟩⟩
abbrev cX9_countFirsts : ByteArray := prog_11_method_17_code
def yX9_countFirsts : MethodName := ⟨RX9, "countFirsts", "(LSportsHouse$Competition;I)I"⟩
def zX9_countFirsts : Zm := (RX9, cX9_countFirsts, 7, (some .int), { frames := 6, cells := 0, slots := 0, locals := 153 })
set_option maxRecDepth 100000 in
theorem cl_X9_176 : cv_ RX9 176 yX9_isFirstBy zX9_isFirstBy 9 3 := ⟨gi_V (lwq_6 (dqc_m (dqc_m (dqc_m (dqa_m (dqa_m (List.mem_of_getElem? (i := 3) rfl)))))) rfl : Cond.methodLink RX9 176 yX9_isFirstBy ∈ lw_g) (lwq_6 (dqc_m (dqc_m (dqc_m (dqa_m (dqa_m (List.mem_of_getElem? (i := 5) rfl)))))) rfl : Cond.instanceMethod yX9_isFirstBy ∈ lw_g) (lw_sel 138 rfl : Cond.selects yX9_isFirstBy.cls yX9_isFirstBy yX9_isFirstBy ∈ lw_g) (lwq_1 (List.mem_of_getElem? (i := 6) rfl) rfl : Cond.initialized yX9_isFirstBy.cls ∈ lw_g) (lwq_6 (dqc_m (dqc_m (dqc_m (dqa_m (dqa_m (List.mem_of_getElem? (i := 6) rfl)))))) rfl : Cond.code yX9_isFirstBy cX9_isFirstBy 7 (some .boolean) ∈ lw_g), ⟨nmh_8.1, nmh_8.2, pdq_11⟩, ⟨_, _, rfl⟩⟩
set_option maxRecDepth 100000 in
theorem cl_X9_109 : cv_ RX9 109 yX2_isDecided zX2_isDecided 2 0 := ⟨gi_V (lwq_6 (dqc_m (dqa_m (List.mem_of_getElem? (i := 0) rfl))) rfl : Cond.methodLink RX9 109 yX2_isDecided ∈ lw_g) (lwq_4 (dqc_m (dqc_m (dqc_m (dqc_m (dqa_m (dqa_m (dqa_m (List.mem_of_getElem? (i := 3) rfl)))))))) rfl : Cond.instanceMethod yX2_isDecided ∈ lw_g) (lwq_4 (dqc_m (dqc_m (dqc_m (dqc_m (dqa_m (dqa_m (dqa_m (List.mem_of_getElem? (i := 4) rfl)))))))) rfl : Cond.selects yX2_isDecided.cls yX2_isDecided yX2_isDecided ∈ lw_g) (lwq_1 (dqa_m (dqa_m (List.mem_of_getElem? (i := 0) rfl))) rfl : Cond.initialized yX2_isDecided.cls ∈ lw_g) (lwq_4 (dqc_m (dqc_m (dqc_m (dqc_m (dqa_m (dqa_m (dqa_m (List.mem_of_getElem? (i := 5) rfl)))))))) rfl : Cond.code yX2_isDecided cX2_isDecided 1 (some .boolean) ∈ lw_g), ⟨nmh_10.1, nmh_10.2, pdq_18⟩, ⟨_, _, rfl⟩⟩
theorem fr5_X9_54 : fr5_ RX9 54 9 5 := ⟨_, _, _, rfl, by decide, by decide, (lwq_2 (dqc_m (List.mem_of_getElem? (i := 4) rfl)) rfl : Cond.fieldLink RX9 54 _ _ _ ∈ lw_g), rfl, fun a => ⟨.object "SportsHouse$Competition", by decide +kernel, rfl, rfl⟩⟩
abbrev cX9_listOpen : ByteArray := prog_11_method_3_code
def yX9_listOpen : MethodName := ⟨RX9, "listOpen", "(II)Z"⟩
def zX9_listOpen : Zm := (RX9, cX9_listOpen, 5, (some .boolean), { frames := 2, cells := 0, slots := 0, locals := 40 })
theorem bk_X9_listOpen_7 : ck_ fX9 (some .boolean) cX9_listOpen 7 [.iload 3, .aload 0, .tableswitch 0 9 5 #[], .tableswitch 0 0 8 #[], .if_icmp .ge 124, .aload 0, .tableswitch 0 9 0 #[], .tableswitch 0 6 3 #[], .aload 0, .tableswitch 0 9 5 #[], .tableswitch 0 0 7 #[], .iload 3, .iadd, .aaload, .astore 4, .aload 4] 39 = true := qck_r (nn_ _) (by decide +kernel)
theorem bs_X9_listOpen_7 {P : Zt → Option Zv → Prop} (K : Int → Zl → List Zv → Zt → Prop) : sx_ K P [.iload 3, .aload 0, .tableswitch 0 9 5 #[], .tableswitch 0 0 8 #[], .if_icmp .ge 124, .aload 0, .tableswitch 0 9 0 #[], .tableswitch 0 6 3 #[], .aload 0, .tableswitch 0 9 5 #[], .tableswitch 0 0 7 #[], .iload 3, .iadd, .aaload, .astore 4, .aload 4] 39 = x_iload 3 (x_aload 0 (x_g5 109 100 5 (x_g0 100 8 0 400 (x_if_icmp .ge 124 K (x_aload 0 (x_g1 109 106 (x_g1 106 523 (x_aload 0 (x_g5 109 100 5 (x_g0 100 7 0 400 (x_iload 3 (x_iadd (x_aaload (x_astore 4 (x_aload 4 (K 39)))))))))))))))) := ((xe_iload 3).trans (congrArg (x_iload 3) ((xe_aload 0).trans (congrArg (x_aload 0) ((xe_g5 (kk := 109) rfl tl_9_5).trans (congrArg (x_g5 109 100 5) ((xe_g0 (kk := 100) rfl tl_0_8).trans (congrArg (x_g0 100 8 0 400) ((xe_if_icmp .ge 124).trans (congrArg (x_if_icmp .ge 124 K) ((xe_aload 0).trans (congrArg (x_aload 0) ((xe_g1 (kk := 109) rfl tl_9_0).trans (congrArg (x_g1 109 106) ((xe_g1 (kk := 106) rfl tl_6_3).trans (congrArg (x_g1 106 523) ((xe_aload 0).trans (congrArg (x_aload 0) ((xe_g5 (kk := 109) rfl tl_9_5).trans (congrArg (x_g5 109 100 5) ((xe_g0 (kk := 100) rfl tl_0_7).trans (congrArg (x_g0 100 7 0 400) ((xe_iload 3).trans (congrArg (x_iload 3) ((xe_iadd).trans (congrArg (x_iadd) ((xe_aaload).trans (congrArg (x_aaload) ((xe_astore 4).trans (congrArg (x_astore 4) ((xe_aload 4).trans (congrArg (x_aload 4) xe_nil))))))))))))))))))))))))))))))))
theorem bk_X9_listOpen_124 : ck_ fX9 (some .boolean) cX9_listOpen 124 [.iconst 1, .ireturn] 126 = true := qck_r (nn_ _) (by decide +kernel)
theorem bs_X9_listOpen_124 {P : Zt → Option Zv → Prop} (K : Int → Zl → List Zv → Zt → Prop) : sx_ K P [.iconst 1, .ireturn] 126 = x_iconst 1 (x_ireturn P) := ((xe_iconst 1).trans (congrArg (x_iconst 1) (xe_ireturn)))
theorem bk_X9_listOpen_42 : ck_ fX9 (some .boolean) cX9_listOpen 42 [.ifCond .eq 48, .goto 118] 48 = true := qck_r (nn_ _) (by decide +kernel)
theorem bs_X9_listOpen_42 {P : Zt → Option Zv → Prop} (K : Int → Zl → List Zv → Zt → Prop) : sx_ K P [.ifCond .eq 48, .goto 118] 48 = x_ifCond .eq 48 K (x_goto 118 K) := ((xe_ifCond .eq 48).trans (congrArg (x_ifCond .eq 48 K) (xe_goto 118)))
theorem bk_X9_listOpen_48 : ck_ fX9 (some .boolean) cX9_listOpen 48 [.aload 4, .iload 1] 51 = true := qck_r (nn_ _) (by decide +kernel)
theorem bs_X9_listOpen_48 {P : Zt → Option Zv → Prop} (K : Int → Zl → List Zv → Zt → Prop) : sx_ K P [.aload 4, .iload 1] 51 = x_aload 4 (x_iload 1 (K 51)) := ((xe_aload 4).trans (congrArg (x_aload 4) ((xe_iload 1).trans (congrArg (x_iload 1) xe_nil))))
theorem bk_X9_listOpen_54 : ck_ fX9 (some .boolean) cX9_listOpen 54 [.ifCond .eq 84, .aload 0, .tableswitch 0 9 4 #[], .aload 4, .tableswitch 0 2 1 #[], .aload 4, .tableswitch 0 2 3 #[], .iload 1, .if_icmp .ne 79, .iconst 0, .goto 80] 79 = true := qck_r (nn_ _) (by decide +kernel)
theorem bs_X9_listOpen_54 {P : Zt → Option Zv → Prop} (K : Int → Zl → List Zv → Zt → Prop) : sx_ K P [.ifCond .eq 84, .aload 0, .tableswitch 0 9 4 #[], .aload 4, .tableswitch 0 2 1 #[], .aload 4, .tableswitch 0 2 3 #[], .iload 1, .if_icmp .ne 79, .iconst 0, .goto 80] 79 = x_ifCond .eq 84 K (x_aload 0 (x_g1 109 584 (x_aload 4 (x_g0 102 1 0 399 (x_aload 4 (x_g0 102 3 0 11 (x_iload 1 (x_if_icmp .ne 79 K (x_iconst 0 (x_goto 80 K)))))))))) := ((xe_ifCond .eq 84).trans (congrArg (x_ifCond .eq 84 K) ((xe_aload 0).trans (congrArg (x_aload 0) ((xe_g1 (kk := 109) rfl tl_9_4).trans (congrArg (x_g1 109 584) ((xe_aload 4).trans (congrArg (x_aload 4) ((xe_g0 (kk := 102) rfl tl_2_1).trans (congrArg (x_g0 102 1 0 399) ((xe_aload 4).trans (congrArg (x_aload 4) ((xe_g0 (kk := 102) rfl tl_2_3).trans (congrArg (x_g0 102 3 0 11) ((xe_iload 1).trans (congrArg (x_iload 1) ((xe_if_icmp .ne 79).trans (congrArg (x_if_icmp .ne 79 K) ((xe_iconst 0).trans (congrArg (x_iconst 0) (xe_goto 80)))))))))))))))))))))
theorem bk_X9_listOpen_84 : ck_ fX9 (some .boolean) cX9_listOpen 84 [.aload 0, .tableswitch 0 9 9 #[], .iload 2, .if_icmp .lt 94, .iconst 0, .ireturn] 94 = true := qck_r (nn_ _) (by decide +kernel)
theorem bs_X9_listOpen_84 {P : Zt → Option Zv → Prop} (K : Int → Zl → List Zv → Zt → Prop) : sx_ K P [.aload 0, .tableswitch 0 9 9 #[], .iload 2, .if_icmp .lt 94, .iconst 0, .ireturn] 94 = x_aload 0 (x_g0 109 9 0 40 (x_iload 2 (x_if_icmp .lt 94 K (x_iconst 0 (x_ireturn P))))) := ((xe_aload 0).trans (congrArg (x_aload 0) ((xe_g0 (kk := 109) rfl tl_9_9).trans (congrArg (x_g0 109 9 0 40) ((xe_iload 2).trans (congrArg (x_iload 2) ((xe_if_icmp .lt 94).trans (congrArg (x_if_icmp .lt 94 K) ((xe_iconst 0).trans (congrArg (x_iconst 0) (xe_ireturn)))))))))))
theorem bk_X9_listOpen_94 : ck_ fX9 (some .boolean) cX9_listOpen 94 [.aload 0, .tableswitch 0 9 8 #[], .aload 0, .tableswitch 0 9 9 #[], .aload 4, .tableswitch 0 2 1 #[], .iastore, .aload 0, .dup, .tableswitch 0 9 9 #[], .iconst 1, .iadd, .tableswitch 1 9 9 #[], .iinc 3 1, .goto 7] 124 = true := qck_r (nn_ _) (by decide +kernel)
theorem bs_X9_listOpen_94 {P : Zt → Option Zv → Prop} (K : Int → Zl → List Zv → Zt → Prop) : sx_ K P [.aload 0, .tableswitch 0 9 8 #[], .aload 0, .tableswitch 0 9 9 #[], .aload 4, .tableswitch 0 2 1 #[], .iastore, .aload 0, .dup, .tableswitch 0 9 9 #[], .iconst 1, .iadd, .tableswitch 1 9 9 #[], .iinc 3 1, .goto 7] 124 = x_aload 0 (x_g1 109 588 (x_aload 0 (x_g0 109 9 0 40 (x_aload 4 (x_g0 102 1 0 399 (x_iastore (x_aload 0 (x_dup (x_g0 109 9 0 40 (x_iconst 1 (x_iadd (x_p 109 9 0 40 (x_iinc 3 1 (x_goto 7 K)))))))))))))) := ((xe_aload 0).trans (congrArg (x_aload 0) ((xe_g1 (kk := 109) rfl tl_9_8).trans (congrArg (x_g1 109 588) ((xe_aload 0).trans (congrArg (x_aload 0) ((xe_g0 (kk := 109) rfl tl_9_9).trans (congrArg (x_g0 109 9 0 40) ((xe_aload 4).trans (congrArg (x_aload 4) ((xe_g0 (kk := 102) rfl tl_2_1).trans (congrArg (x_g0 102 1 0 399) ((xe_iastore).trans (congrArg (x_iastore) ((xe_aload 0).trans (congrArg (x_aload 0) ((xe_dup).trans (congrArg (x_dup) ((xe_g0 (kk := 109) rfl tl_9_9).trans (congrArg (x_g0 109 9 0 40) ((xe_iconst 1).trans (congrArg (x_iconst 1) ((xe_iadd).trans (congrArg (x_iadd) ((xe_p (kk := 109) rfl tl_9_9).trans (congrArg (x_p 109 9 0 40) ((xe_iinc 3 1).trans (congrArg (x_iinc 3 1) (xe_goto 7)))))))))))))))))))))))))))))
theorem bk_X9_listOpen_79 : ck_ fX9 (some .boolean) cX9_listOpen 79 [.iconst 2, .iastore, .goto 118] 84 = true := qck_r (nn_ _) (by decide +kernel)
theorem bs_X9_listOpen_79 {P : Zt → Option Zv → Prop} (K : Int → Zl → List Zv → Zt → Prop) : sx_ K P [.iconst 2, .iastore, .goto 118] 84 = x_iconst 2 (x_iastore (x_goto 118 K)) := ((xe_iconst 2).trans (congrArg (x_iconst 2) ((xe_iastore).trans (congrArg (x_iastore) (xe_goto 118)))))
theorem bk_X9_listOpen_118 : ck_ fX9 (some .boolean) cX9_listOpen 118 [.iinc 3 1, .goto 7] 124 = true := qck_r (nn_ _) (by decide +kernel)
theorem bs_X9_listOpen_118 {P : Zt → Option Zv → Prop} (K : Int → Zl → List Zv → Zt → Prop) : sx_ K P [.iinc 3 1, .goto 7] 124 = x_iinc 3 1 (x_goto 7 K) := ((xe_iinc 3 1).trans (congrArg (x_iinc 3 1) (xe_goto 7)))
theorem bk_X9_listOpen_80 : ck_ fX9 (some .boolean) cX9_listOpen 80 [.iastore, .goto 118] 84 = true := qck_r (nn_ _) (by decide +kernel)
theorem bs_X9_listOpen_80 {P : Zt → Option Zv → Prop} (K : Int → Zl → List Zv → Zt → Prop) : sx_ K P [.iastore, .goto 118] 84 = x_iastore (x_goto 118 K) := ((xe_iastore).trans (congrArg (x_iastore) (xe_goto 118)))
theorem bk_X9_listOpen_0 : ck_ fX9 (some .boolean) cX9_listOpen 0 [.aload 0, .iconst 0, .tableswitch 1 9 9 #[], .iconst 0, .istore 3] 7 = true := qck_r (nn_ _) (by decide +kernel)
theorem bs_X9_listOpen_0 {P : Zt → Option Zv → Prop} (K : Int → Zl → List Zv → Zt → Prop) : sx_ K P [.aload 0, .iconst 0, .tableswitch 1 9 9 #[], .iconst 0, .istore 3] 7 = x_aload 0 (x_iconst 0 (x_p 109 9 0 40 (x_iconst 0 (x_istore 3 (K 7))))) := ((xe_aload 0).trans (congrArg (x_aload 0) ((xe_iconst 0).trans (congrArg (x_iconst 0) ((xe_p (kk := 109) rfl tl_9_9).trans (congrArg (x_p 109 9 0 40) ((xe_iconst 0).trans (congrArg (x_iconst 0) ((xe_istore 3).trans (congrArg (x_istore 3) xe_nil))))))))))
abbrev po_X9_listOpen (T : Zt) (b n : Int) : Zt → Option Zv → Prop := fun T' r => ∃ x : Int, r = some (vI x) ∧ fr_ [(109, [9]), (584, []), (588, [])] T T' ∧ ((0 ≤ x ∧ x ≤ 1) ∧ ∀ j : Int, 0 ≤ j → j < T' 109 0 9 → T 100 (T 109 0 5 - 1) 7 ≤ T' 588 0 j ∧ T' 588 0 j < T 100 (T 109 0 5 - 1) 7 + T 100 (T 109 0 5 - 1) 8)
set_option maxHeartbeats 4000000 in
theorem ct_X9_listOpen {T : Zt} {b n : Int} (hka : KA_ T) (hkm : KM_ T) (hkc : KC_ T) (hc9 : 1 ≤ T 109 0 5 ∧ T 109 0 5 ≤ T 106 0 2) (hn : n ≤ 40) : Ct_ yX9_listOpen zX9_listOpen T [vR 109 0, vI b, vI n] (po_X9_listOpen T b n) := by
  refine ct_of pn_9 rfl rfl (Nat.le_of_ble_eq_true rfl) (fun hT hav => ?_)
  have hr_b : -2147483648 ≤ b ∧ b ≤ 2147483647 := hav (vI b) (List.mem_cons_of_mem _ List.mem_cons_self)
  have hr_n : -2147483648 ≤ n ∧ n ≤ 2147483647 := hav (vI n) (List.mem_cons_of_mem _ (List.mem_cons_of_mem _ List.mem_cons_self))
  have hz : zX9_listOpen.2.2.2.1 = some .boolean → ∀ (T' : Zt) (x : Int), po_X9_listOpen T b n T' (some (vI x)) → 0 ≤ x ∧ x ≤ 1 := fun _ T' x h => by obtain ⟨y, e, -, hy, -⟩ := h; cases e; omega
  have hk2 := hkc (T 109 0 5 - 1) (by omega) (by omega)
  have hb_matchCount : 0 ≤ T 106 0 4 ∧ T 106 0 4 ≤ 400 := bd_f hT 106 4 tl_6_4 0
  have hfm : 0 ≤ T 100 (T 109 0 5 - 1) 7 ∧ T 100 (T 109 0 5 - 1) 7 ≤ 400 := bd_f hT 100 7 tl_0_7 (T 109 0 5 - 1)
  have hmc : 0 ≤ T 100 (T 109 0 5 - 1) 8 ∧ T 100 (T 109 0 5 - 1) 8 ≤ 400 := bd_f hT 100 8 tl_0_8 (T 109 0 5 - 1)
  show J_ zX9_listOpen T (po_X9_listOpen T b n) 0 0 0 [some (vR 109 0), some (vI b), some (vI n), none, none] [] T
  have c_7 : ∀ (nn : Nat) (k : Int) (T1 : Zt), ((T 100 (T 109 0 5 - 1) 8 - k).toNat) ≤ nn → (fr_ [(109, [9]), (584, []), (588, [])] T T1) → (0 ≤ k ∧ k ≤ T 100 (T 109 0 5 - 1) 8 ∧ 0 ≤ T1 109 0 9 ∧ T1 109 0 9 ≤ 40) → (∀ j : Int, 0 ≤ j → j < T1 109 0 9 → T 100 (T 109 0 5 - 1) 7 ≤ T1 588 0 j ∧ T1 588 0 j < T 100 (T 109 0 5 - 1) 7 + T 100 (T 109 0 5 - 1) 8) → J_ zX9_listOpen T (po_X9_listOpen T b n) 0 0 7 [some (vR 109 0), some (vI b), some (vI n), some (vI k), none] [] T1 := by
    intro nn
    induction nn using Nat.strongRecOn with
    | _ nn ih_7 =>
      intro k T1 hm_7 hf_7 i1 ol1
      replace hm_7 := fun (_ : Unit) => hm_7
      refine j_blx (F := fX9) tb_X9 (nn_ _) bk_X9_listOpen_7 bs_X9_listOpen_7 hz (fun K hK => ?_)
      have e2 : T1 109 0 5 = T 109 0 5 := hf_7 109 0 5 rfl
      refine And.intro (fun c1 => ?_) (fun c1 => ?_)
      · exact absurd c1 (by omega)
      · intro b3 b3b
        have e4 : T1 100 (T 109 0 5 - 1) 8 = T 100 (T 109 0 5 - 1) 8 := hf_7 100 (T 109 0 5 - 1) 8 rfl
        have e5 : T1 100 (T1 109 0 5 - 1) 8 = T 100 (T 109 0 5 - 1) 8 := by rw [e2]; exact e4
        rw [e5] at b3 b3b ⊢
        refine And.intro (fun c6 => ?_) (fun c6 => ?_)
        · refine hK 124 _ [] T1 ?_
          refine j_blx (F := fX9) tb_X9 (nn_ _) bk_X9_listOpen_124 bs_X9_listOpen_124 hz (fun K hK => ?_)
          refine (show po_X9_listOpen T b n T1 (some (vI 1)) from ?_)
          exact ⟨_, rfl, fr_t (fr_0 _ _) (fr_s hf_7 rfl), ⟨by omega, by omega⟩, ol1⟩
        · have e8 : T1 109 0 5 = T 109 0 5 := hf_7 109 0 5 rfl
          refine And.intro (fun c7 => ?_) (fun c7 => ?_)
          · exact absurd c7 (by omega)
          · intro b9 b9b
            have e10 : T1 100 (T 109 0 5 - 1) 7 = T 100 (T 109 0 5 - 1) 7 := hf_7 100 (T 109 0 5 - 1) 7 rfl
            have e11 : T1 100 (T1 109 0 5 - 1) 7 = T 100 (T 109 0 5 - 1) 7 := by rw [e8]; exact e10
            rw [e11] at b9 b9b ⊢
            refine rg_i (by omega) ?_
            refine ix_i (by omega) ?_
            have e13 : T1 523 0 ((T 100 (T 109 0 5 - 1) 7) + k) = T 523 0 ((T 100 (T 109 0 5 - 1) 7) + k) := hf_7 523 0 ((T 100 (T 109 0 5 - 1) 7) + k) rfl
            refine And.intro (fun c12 => ?_) (fun c12 => ?_)
            · exact absurd (show T 523 0 (T 100 (T 109 0 5 - 1) 7 + k) = 0 by omega) (hka.2 _ (by omega) (by omega))
            · refine hK 39 [some (vR 109 0), some (vI b), some (vI n), some (vI k), some (vR 102 ((T 100 (T 109 0 5 - 1) 7) + k))] [vR 102 ((T 100 (T 109 0 5 - 1) 7) + k)] T1 ?_
              refine j_callV (y := yX2_isDecided) (Yc := zX2_isDecided) (rest := []) [] (ct_X2_isDecided (T := T1)) cl_X9_109 (qd_c (by decide +kernel)) (nn_ _) rfl (rf_of rfl) (Nat.le_of_ble_eq_true rfl) (Nat.le_of_ble_eq_true rfl) (Nat.le_of_ble_eq_true rfl) rfl ?_
              rintro _ _ ⟨rfl, x14, rfl, hx14⟩
              show J_ zX9_listOpen T (po_X9_listOpen T b n) 0 0 42 _ [vI x14] T1
              refine j_blx (F := fX9) tb_X9 (nn_ _) bk_X9_listOpen_42 bs_X9_listOpen_42 hz (fun K hK => ?_)
              refine And.intro (fun c15 => ?_) (fun c15 => ?_)
              · refine hK 48 _ [] T1 ?_
                refine j_blx (F := fX9) tb_X9 (nn_ _) bk_X9_listOpen_48 bs_X9_listOpen_48 hz (fun K hK => ?_)
                refine hK 51 _ [vI b, vR 102 ((T 100 (T 109 0 5 - 1) 7) + k)] T1 ?_
                refine j_callV (y := yX2_has) (Yc := zX2_has) (rest := []) [vI b] (ct_X2_has (T := T1)) cl_X9_115 (qd_c (by decide +kernel)) (nn_ _) rfl (rf_of rfl) (Nat.le_of_ble_eq_true rfl) (Nat.le_of_ble_eq_true rfl) (Nat.le_of_ble_eq_true rfl) rfl ?_
                rintro _ _ ⟨rfl, x16, rfl, hx16⟩
                show J_ zX9_listOpen T (po_X9_listOpen T b n) 0 0 54 _ [vI x16] T1
                refine j_blx (F := fX9) tb_X9 (nn_ _) bk_X9_listOpen_54 bs_X9_listOpen_54 hz (fun K hK => ?_)
                refine And.intro (fun c17 => ?_) (fun c17 => ?_)
                · refine hK 84 _ [] T1 ?_
                  refine j_blx (F := fX9) tb_X9 (nn_ _) bk_X9_listOpen_84 bs_X9_listOpen_84 hz (fun K hK => ?_)
                  intro b18 b18b
                  refine And.intro (fun c19 => ?_) (fun c19 => ?_)
                  · refine hK 94 _ [] T1 ?_
                    refine j_blx (F := fX9) tb_X9 (nn_ _) bk_X9_listOpen_94 bs_X9_listOpen_94 hz (fun K hK => ?_)
                    intro b20 b20b
                    intro b21 b21b
                    have e22 : T1 102 ((T 100 (T 109 0 5 - 1) 7) + k) 1 = T 102 ((T 100 (T 109 0 5 - 1) 7) + k) 1 := hf_7 102 ((T 100 (T 109 0 5 - 1) 7) + k) 1 rfl
                    rw [e22] at b21 b21b ⊢
                    refine iy_i (by omega) (by omega) ?_
                    refine x_nm (fun U23 hU23 => ?_)
                    have e24 := up_f hU23
                    intro b25 b25b
                    have e26 : U23 109 0 9 = T1 109 0 9 := up_k hU23 (by exact Nat.ne_of_beq_eq_false rfl) 0 9
                    rw [e26] at b25 b25b ⊢
                    refine rg_i (by omega) ?_
                    refine bd_i (by omega) ?_
                    refine x_nm (fun U27 hU27 => ?_)
                    have e28 := up_f hU27
                    refine rg_i (by omega) ?_
                    refine hK 7 [some (vR 109 0), some (vI b), some (vI n), some (vI (k + 1)), some (vR 102 ((T 100 (T 109 0 5 - 1) 7) + k))] [] U27 ?_
                    refine j_drop [some (vR 109 0), some (vI b), some (vI n), some (vI (k + 1)), none] (fun k v hk => ?_) rfl ?_
                    · match k, hk with
                      | 0, hk => exact hk
                      | 1, hk => exact hk
                      | 2, hk => exact hk
                      | 3, hk => exact hk
                      | 4, hk => cases hk
                      | k + 5, hk => cases hk
                    have e29 : U27 109 0 9 = (T1 109 0 9) + 1 := up_f hU27
                    refine ih_7 _ ?_ (k + 1) U27 (Nat.le_refl _) ?_ ?_ ?_
                    · have hm_7 := hm_7 (); omega
                    · exact fr_u (fr_u (fr_t (fr_0 _ _) (fr_s hf_7 rfl)) hU23 rfl) hU27 rfl
                    · omega
                    · intro j a b
                      rw [up_k hU27 (by exact Nat.ne_of_beq_eq_false rfl) 0 j]
                      by_cases z : j = T1 109 0 9
                      · rw [z, up_f hU23]; have y := (hkm (T 100 (T 109 0 5 - 1) 7 + k) (by omega) (by omega)).1; omega
                      · rw [up_g hU23 (fun y => z y.2.2)]; exact ol1 j a (by omega)
                  · refine (show po_X9_listOpen T b n T1 (some (vI 0)) from ?_)
                    exact ⟨_, rfl, fr_t (fr_0 _ _) (fr_s hf_7 rfl), ⟨by omega, by omega⟩, ol1⟩
                · intro b30 b30b
                  have e31 : T1 102 ((T 100 (T 109 0 5 - 1) 7) + k) 1 = T 102 ((T 100 (T 109 0 5 - 1) 7) + k) 1 := hf_7 102 ((T 100 (T 109 0 5 - 1) 7) + k) 1 rfl
                  rw [e31] at b30 b30b ⊢
                  intro b32 b32b
                  have e33 : T1 102 ((T 100 (T 109 0 5 - 1) 7) + k) 3 = T 102 ((T 100 (T 109 0 5 - 1) 7) + k) 3 := hf_7 102 ((T 100 (T 109 0 5 - 1) 7) + k) 3 rfl
                  rw [e33] at b32 b32b ⊢
                  refine And.intro (fun c34 => ?_) (fun c34 => ?_)
                  · refine hK 79 _ [vI (T 102 ((T 100 (T 109 0 5 - 1) 7) + k) 1), vR 584 0] T1 ?_
                    refine j_blx (F := fX9) tb_X9 (nn_ _) bk_X9_listOpen_79 bs_X9_listOpen_79 hz (fun K hK => ?_)
                    refine iy_i (by omega) (by omega) ?_
                    refine x_nm (fun U35 hU35 => ?_)
                    have e36 := up_f hU35
                    refine hK 118 _ [] U35 ?_
                    refine j_blx (F := fX9) tb_X9 (nn_ _) bk_X9_listOpen_118 bs_X9_listOpen_118 hz (fun K hK => ?_)
                    refine rg_i (by omega) ?_
                    refine hK 7 [some (vR 109 0), some (vI b), some (vI n), some (vI (k + 1)), some (vR 102 ((T 100 (T 109 0 5 - 1) 7) + k))] [] U35 ?_
                    refine j_drop [some (vR 109 0), some (vI b), some (vI n), some (vI (k + 1)), none] (fun k v hk => ?_) rfl ?_
                    · match k, hk with
                      | 0, hk => exact hk
                      | 1, hk => exact hk
                      | 2, hk => exact hk
                      | 3, hk => exact hk
                      | 4, hk => cases hk
                      | k + 5, hk => cases hk
                    have e37 : U35 109 0 9 = T1 109 0 9 := up_k hU35 (by exact Nat.ne_of_beq_eq_false rfl) 0 9
                    refine ih_7 _ ?_ (k + 1) U35 (Nat.le_refl _) ?_ ?_ ?_
                    · have hm_7 := hm_7 (); omega
                    · exact fr_u (fr_t (fr_0 _ _) (fr_s hf_7 rfl)) hU35 rfl
                    · omega
                    · intro j a b
                      rw [up_k hU35 (by exact Nat.ne_of_beq_eq_false rfl) 0 j]
                      exact ol1 j a (by have y := up_k hU35 (by decide : (109 : Nat) ≠ 584) 0 9; omega)
                  · refine hK 80 [some (vR 109 0), some (vI b), some (vI n), some (vI k), some (vR 102 ((T 100 (T 109 0 5 - 1) 7) + k))] [vI 0, vI (T 102 ((T 100 (T 109 0 5 - 1) 7) + k) 1), vR 584 0] T1 ?_
                    refine j_blx (F := fX9) tb_X9 (nn_ _) bk_X9_listOpen_80 bs_X9_listOpen_80 hz (fun K hK => ?_)
                    refine iy_i (by omega) (by omega) ?_
                    refine x_nm (fun U38 hU38 => ?_)
                    have e39 := up_f hU38
                    refine hK 118 _ [] U38 ?_
                    refine j_blx (F := fX9) tb_X9 (nn_ _) bk_X9_listOpen_118 bs_X9_listOpen_118 hz (fun K hK => ?_)
                    refine rg_i (by omega) ?_
                    refine hK 7 [some (vR 109 0), some (vI b), some (vI n), some (vI (k + 1)), some (vR 102 ((T 100 (T 109 0 5 - 1) 7) + k))] [] U38 ?_
                    refine j_drop [some (vR 109 0), some (vI b), some (vI n), some (vI (k + 1)), none] (fun k v hk => ?_) rfl ?_
                    · match k, hk with
                      | 0, hk => exact hk
                      | 1, hk => exact hk
                      | 2, hk => exact hk
                      | 3, hk => exact hk
                      | 4, hk => cases hk
                      | k + 5, hk => cases hk
                    have e40 : U38 109 0 9 = T1 109 0 9 := up_k hU38 (by exact Nat.ne_of_beq_eq_false rfl) 0 9
                    refine ih_7 _ ?_ (k + 1) U38 (Nat.le_refl _) ?_ ?_ ?_
                    · have hm_7 := hm_7 (); omega
                    · exact fr_u (fr_t (fr_0 _ _) (fr_s hf_7 rfl)) hU38 rfl
                    · omega
                    · intro j a b
                      rw [up_k hU38 (by exact Nat.ne_of_beq_eq_false rfl) 0 j]
                      exact ol1 j a (by have y := up_k hU38 (by decide : (109 : Nat) ≠ 584) 0 9; omega)
              · refine hK 118 _ [] T1 ?_
                refine j_blx (F := fX9) tb_X9 (nn_ _) bk_X9_listOpen_118 bs_X9_listOpen_118 hz (fun K hK => ?_)
                refine rg_i (by omega) ?_
                refine hK 7 [some (vR 109 0), some (vI b), some (vI n), some (vI (k + 1)), some (vR 102 ((T 100 (T 109 0 5 - 1) 7) + k))] [] T1 ?_
                refine j_drop [some (vR 109 0), some (vI b), some (vI n), some (vI (k + 1)), none] (fun k v hk => ?_) rfl ?_
                · match k, hk with
                  | 0, hk => exact hk
                  | 1, hk => exact hk
                  | 2, hk => exact hk
                  | 3, hk => exact hk
                  | 4, hk => cases hk
                  | k + 5, hk => cases hk
                refine ih_7 _ ?_ (k + 1) T1 (Nat.le_refl _) ?_ ?_ ?_
                · have hm_7 := hm_7 (); omega
                · exact fr_t (fr_0 _ _) (fr_s hf_7 rfl)
                · omega
                · exact ol1
  refine j_blx (F := fX9) tb_X9 (nn_ _) bk_X9_listOpen_0 bs_X9_listOpen_0 hz (fun K hK => ?_)
  refine bd_i (by omega) ?_
  refine x_nm (fun U41 hU41 => ?_)
  have e42 := up_f hU41
  refine hK 7 [some (vR 109 0), some (vI b), some (vI n), some (vI 0), none] [] U41 ?_
  have e43 : U41 109 0 9 = 0 := up_f hU41
  refine c_7 _ 0 U41 (Nat.le_refl _) ?_ ?_ ?_
  · exact fr_u (fr_0 _ _) hU41 rfl
  · omega
  · intro j a b; omega
def KO_ (T : Zt) : Prop := ∀ c : Int, 0 ≤ c → c < T 106 0 2 → T 401 c 4 ≤ 7
theorem KO__f {ws : List (Nat × List Int)} {T T' : Zt} (h : KO_ T) (f : fr_ ws T T') (w : (∀ j, fw_ ws 401 j = false) ∧ fw_ ws 106 2 = false ∧ True) : KO_ T' := by
  have e0 : ∀ i j, T' 401 i j = T 401 i j := fun i j => f 401 i j (w.1 j)
  have e1 : ∀ i, T' 106 i 2 = T 106 i 2 := fun i => f 106 i 2 w.2.1
  simp only [KO_, e0, e1] at h ⊢
  exact h
abbrev cX10_firsts : ByteArray := prog_1_method_35_code
def yX10_firsts : MethodName := ⟨RX10, "firsts", "(II)I"⟩
def zX10_firsts : Zm := (RX10, cX10_firsts, 4, (some .int), { frames := 7, cells := 0, slots := 0, locals := 179 })
set_option maxRecDepth 100000 in
theorem cl_X10_377 : cv_ RX10 377 yX9_countFirsts zX9_countFirsts 9 2 := ⟨gi_V (lwq_6 (dqc_m (dqc_m (dqc_m (dqa_m (List.mem_of_getElem? (i := 7) rfl))))) rfl : Cond.methodLink RX10 377 yX9_countFirsts ∈ lw_g) (lwq_6 (dqc_m (dqc_m (dqc_m (dqa_m (dqa_m (List.mem_of_getElem? (i := 0) rfl)))))) rfl : Cond.instanceMethod yX9_countFirsts ∈ lw_g) (lwq_6 (dqc_m (dqc_m (dqc_m (dqa_m (dqa_m (List.mem_of_getElem? (i := 1) rfl)))))) rfl : Cond.selects yX9_countFirsts.cls yX9_countFirsts yX9_countFirsts ∈ lw_g) (lwq_1 (List.mem_of_getElem? (i := 6) rfl) rfl : Cond.initialized yX9_countFirsts.cls ∈ lw_g) (lwq_6 (dqc_m (dqc_m (dqc_m (dqa_m (dqa_m (List.mem_of_getElem? (i := 2) rfl)))))) rfl : Cond.code yX9_countFirsts cX9_countFirsts 7 (some .int) ∈ lw_g), ⟨nmh_8.1, nmh_8.2, pdq_24⟩, ⟨_, _, rfl⟩⟩
abbrev po_X10_firsts (T : Zt) (c b : Int) : Zt → Option Zv → Prop := fun T' r => ∃ x : Int, r = some (vI x) ∧ fr_ [(109, [5]), (588, []), (107, [1, 13]), (542, []), (543, []), (544, []), (545, []), (546, []), (550, []), (551, []), (552, []), (549, []), (547, []), (548, [])] T T' ∧ (-4 ≤ x ∧ x ≤ 27)
abbrev cX10_table : ByteArray := prog_1_method_29_code
def yX10_table : MethodName := ⟨RX10, "table", "(IIII)I"⟩
def zX10_table : Zm := (RX10, cX10_table, 7, (some .int), { frames := 5, cells := 0, slots := 0, locals := 127 })
set_option maxRecDepth 100000 in
theorem cl_X10_350 : cv_ RX10 350 yX7_tally zX7_tally 7 2 := ⟨gi_V (lwq_5 (dqc_m (dqc_m (dqc_m (dqc_m (dqc_m (dqc_m (dqa_m (List.mem_of_getElem? (i := 0) rfl)))))))) rfl : Cond.methodLink RX10 350 yX7_tally ∈ lw_g) (lwq_5 (dqc_m (dqc_m (dqc_m (dqc_m (dqc_m (dqc_m (dqa_m (List.mem_of_getElem? (i := 1) rfl)))))))) rfl : Cond.instanceMethod yX7_tally ∈ lw_g) (lwq_5 (dqc_m (dqc_m (dqc_m (dqc_m (dqc_m (dqc_m (dqa_m (List.mem_of_getElem? (i := 2) rfl)))))))) rfl : Cond.selects yX7_tally.cls yX7_tally yX7_tally ∈ lw_g) (lwq_1 (List.mem_of_getElem? (i := 5) rfl) rfl : Cond.initialized yX7_tally.cls ∈ lw_g) (lwq_5 (dqc_m (dqc_m (dqc_m (dqc_m (dqc_m (dqc_m (dqa_m (List.mem_of_getElem? (i := 3) rfl)))))))) rfl : Cond.code yX7_tally cX7_tally 5 none ∈ lw_g), ⟨nmh_7.1, nmh_7.2, pdq_31⟩, ⟨_, _, rfl⟩⟩
set_option maxRecDepth 100000 in
theorem cl_X10_353 : cv_ RX10 353 yX7_rank zX7_rank 7 0 := ⟨gi_V (lwq_5 (dqc_m (dqc_m (dqc_m (dqc_m (dqc_m (dqc_m (dqc_m (List.mem_of_getElem? (i := 0) rfl)))))))) rfl : Cond.methodLink RX10 353 yX7_rank ∈ lw_g) (lwq_5 (dqc_m (dqc_m (dqc_m (dqc_m (dqc_m (dqc_m (dqc_m (List.mem_of_getElem? (i := 1) rfl)))))))) rfl : Cond.instanceMethod yX7_rank ∈ lw_g) (lwq_5 (dqc_m (dqc_m (dqc_m (dqc_m (dqc_m (dqc_m (dqc_m (List.mem_of_getElem? (i := 2) rfl)))))))) rfl : Cond.selects yX7_rank.cls yX7_rank yX7_rank ∈ lw_g) (lwq_1 (List.mem_of_getElem? (i := 5) rfl) rfl : Cond.initialized yX7_rank.cls ∈ lw_g) (lwq_5 (dqc_m (dqc_m (dqc_m (dqc_m (dqc_m (dqc_m (dqc_m (List.mem_of_getElem? (i := 3) rfl)))))))) rfl : Cond.code yX7_rank cX7_rank 3 none ∈ lw_g), ⟨nmh_7.1, nmh_7.2, pdq_1⟩, ⟨_, _, rfl⟩⟩
abbrev po_X10_table (T : Zt) (c d b w : Int) : Zt → Option Zv → Prop := fun T' r => ∃ x : Int, r = some (vI x) ∧ fr_ [(107, [1, 13]), (542, []), (543, []), (544, []), (545, []), (546, []), (550, []), (551, []), (552, []), (549, []), (547, []), (548, [])] T T' ∧ (0 = (0 : Int))
abbrev cX10_parted : ByteArray := prog_1_method_31_code
def yX10_parted : MethodName := ⟨RX10, "parted", "(III)I"⟩
def zX10_parted : Zm := (RX10, cX10_parted, 5, (some .int), { frames := 5, cells := 0, slots := 0, locals := 127 })
abbrev po_X10_parted (T : Zt) (c d k : Int) : Zt → Option Zv → Prop := fun T' r => ∃ x : Int, r = some (vI x) ∧ fr_ [(107, [1, 13]), (542, []), (543, []), (544, []), (545, []), (546, []), (550, []), (551, []), (552, []), (549, []), (547, []), (548, [])] T T' ∧ (0 = (0 : Int))
abbrev cX10_standing : ByteArray := prog_1_method_30_code
def yX10_standing : MethodName := ⟨RX10, "standing", "(III)I"⟩
def zX10_standing : Zm := (RX10, cX10_standing, 5, (some .int), { frames := 5, cells := 0, slots := 0, locals := 127 })
abbrev po_X10_standing (T : Zt) (c d k : Int) : Zt → Option Zv → Prop := fun T' r => ∃ x : Int, r = some (vI x) ∧ fr_ [(107, [1, 13]), (542, []), (543, []), (544, []), (545, []), (546, []), (550, []), (551, []), (552, []), (549, []), (547, []), (548, [])] T T' ∧ (0 = (0 : Int))
abbrev cX10_lineUp : ByteArray := prog_1_method_20_code
def yX10_lineUp : MethodName := ⟨RX10, "lineUp", "(III)I"⟩
def zX10_lineUp : Zm := (RX10, cX10_lineUp, 6, (some .int), { frames := 5, cells := 0, slots := 0, locals := 122 })
abbrev po_X10_lineUp (T : Zt) (q b s : Int) : Zt → Option Zv → Prop := fun T' r => ∃ x : Int, r = some (vI x) ∧ fr_ [(448, []), (449, []), (533, [])] T T' ∧ (0 = (0 : Int))
def KE_ (T : Zt) : Prop := ∀ c : Int, 0 ≤ c → c < T 106 0 2 → ∀ j : Int, 0 ≤ j → j < T 100 c 5 → T 404 c (T 403 c j) = j
theorem KE__f {ws : List (Nat × List Int)} {T T' : Zt} (h : KE_ T) (f : fr_ ws T T') (w : (∀ j, fw_ ws 403 j = false) ∧ (∀ j, fw_ ws 404 j = false) ∧ fw_ ws 100 5 = false ∧ fw_ ws 106 2 = false ∧ True) : KE_ T' := by
  have e0 : ∀ i j, T' 403 i j = T 403 i j := fun i j => f 403 i j (w.1 j)
  have e1 : ∀ i j, T' 404 i j = T 404 i j := fun i j => f 404 i j (w.2.1 j)
  have e2 : ∀ i, T' 100 i 5 = T 100 i 5 := fun i => f 100 i 5 w.2.2.1
  have e3 : ∀ i, T' 106 i 2 = T 106 i 2 := fun i => f 106 i 2 w.2.2.2.1
  simp only [KE_, e0, e1, e2, e3] at h ⊢
  exact h
abbrev cX10_enter : ByteArray := prog_1_method_12_code
def yX10_enter : MethodName := ⟨RX10, "enter", "(II)I"⟩
def zX10_enter : Zm := (RX10, cX10_enter, 4, (some .int), { frames := 2, cells := 0, slots := 0, locals := 42 })
-- things are made: rows, objects, copies
section JN
variable {Y : Zm} {T0 T : Zt} {P : Zt → Option Zv → Prop} {bc bs bc' bs' : Nat} {pc pc' : Int} {ls : Zl} {st : List Zv}
def nu_ (T : Zt) (k : Nat) (i n : Int) (f : Int → Int) : Zt := fun k' i' j' => if k' = k ∧ i' = i then (if j' = -1 then 1 else if j' = -2 then n else f j') else T k' i' j'
def aq_ (ad : Nat → Int → Nat) (k : Nat) (i : Int) (q : Nat) : Nat → Int → Nat := fun k' i' => if k' = k ∧ i' = i then q else ad k' i'
theorem nu_o {k k' : Nat} {i i' n : Int} {f : Int → Int} (h : ¬ (k' = k ∧ i' = i)) : nu_ T k i n f k' i' = T k' i' := by
  funext j
  unfold nu_
  rw [if_neg h]
theorem nu_s {k : Nat} {i n : Int} {f : Int → Int} (j : Int) : nu_ T k i n f k i j = if j = -1 then 1 else if j = -2 then n else f j := by
  unfold nu_
  rw [if_pos ⟨rfl, rfl⟩]
theorem nu_p {k : Nat} {i n : Int} {f : Int → Int} {j : Int} (h : 0 ≤ j) : nu_ T k i n f k i j = f j := by
  rw [nu_s, if_neg (by omega), if_neg (by omega)]
theorem nu_l {k : Nat} {i n : Int} {f : Int → Int} : nu_ T k i n f k i (-2) = n := by
  rw [nu_s, if_neg (by omega), if_pos rfl]
theorem al_nu {k : Nat} {i n : Int} {f : Int → Int} (k' : Nat) (i' : Int) : al_ (nu_ T k i n f) k' i' ↔ (k' = k ∧ i' = i) ∨ al_ T k' i' := by
  unfold al_
  by_cases h : k' = k ∧ i' = i
  · obtain ⟨rfl, rfl⟩ := h
    rw [nu_s, if_pos rfl]
    simp
  · rw [nu_o h]
    simp [h]
theorem aq_s {ad : Nat → Int → Nat} {k q : Nat} {i : Int} : aq_ ad k i q k i = q := by
  unfold aq_
  rw [if_pos ⟨rfl, rfl⟩]
theorem aq_n {ad : Nat → Int → Nat} {k q k' : Nat} {i i' : Int} (h : ¬ (k' = k ∧ i' = i)) : aq_ ad k i q k' i' = ad k' i' := by
  unfold aq_
  rw [if_neg h]
theorem aq_e {ad : Nat → Int → Nat} {k q : Nat} {i : Int} (hk : 100 ≤ k) (hfr : ¬ al_ T k i) (k' : Nat) (i' : Int) (h : k' < 100 ∨ al_ T k' i') : aq_ ad k i q k' i' = ad k' i' := by
  refine aq_n (fun z => ?_)
  obtain ⟨rfl, rfl⟩ := z
  rcases h with h | h
  · omega
  · exact hfr h
theorem tf_ky : ∀ k, k < 154 → ∀ q ∈ tf_ k, ¬ (150 ≤ q.2.1 ∧ q.2.1 < 154) := by decide +kernel
theorem zi_at {k : Nat} {q : (Nat × Nat × Int × Int) × Nat} (h : q ∈ (tf_ k).zipIdx) : (tf_ k)[q.2]? = some q.1 := by
  obtain ⟨n, hn⟩ := List.getElem?_of_mem h
  rw [List.getElem?_zipIdx] at hn
  cases hz : (tf_ k)[n]? with
  | none => rw [hz] at hn; cases hn
  | some z =>
    rw [hz] at hn
    simp only [Option.map_some, Nat.zero_add, Option.some.injEq] at hn
    rw [← hn]
    exact hz
theorem ce_ad {cA : Nat → ClassId} {ad ad' : Nat → Int → Nat} (hT : ok_T T) (h : ∀ k i, k < 100 ∨ al_ T k i → ad' k i = ad k i) {k : Nat} {i : Int} (ha : al_ T k i) : ce_ cA ad' T k i = ce_ cA ad T k i := by
  unfold ce_
  cases hk : ta_ k with
  | none =>
    have e : ((tf_ k).zipIdx.map fun q => en_v ad' (fv_ q.1.1 q.1.2.1 (T k i (q.2 : Int)) i)) = (tf_ k).zipIdx.map fun q => en_v ad (fv_ q.1.1 q.1.2.1 (T k i (q.2 : Int)) i) := by
      apply List.map_congr_left
      rintro ⟨⟨c, k', lo, hi⟩, j⟩ hq
      exact en_congr h (hT.2.2.2.1 k i ha j c k' lo hi (zi_at hq))
    simp only [e]
  | some q =>
    obtain ⟨t, n, lo, hi⟩ := q
    have hc := tc_of hk
    have hlt : k < 640 := by
      by_cases z : k < 640
      · exact z
      · rw [ta_no (by omega)] at hk; cases hk
    match t, hk, hc with
    | 0, hk, hc => simp [tc_] at hc
    | 1, hk, hc => rfl
    | 2, hk, hc => rfl
    | 3, hk, hc => rfl
    | 4, hk, hc =>
      obtain rfl := ta_4_k k hlt n lo hi hk
      have e : (fun x : Nat => if T 521 i (x : Int) = 0 then none else some (ad' 100 x)) = fun x : Nat => if T 521 i (x : Int) = 0 then none else some (ad 100 x) := by
        funext x
        by_cases z : T 521 i (x : Int) = 0
        · rw [if_pos z, if_pos z]
        · rw [if_neg z, if_neg z, h 100 x (Or.inr (hT.2.2.2.2.1 i x (by omega) z))]
      simp only [e]
    | 5, hk, hc =>
      obtain rfl := ta_5_k k hlt n lo hi hk
      have e : (fun x : Nat => if T 523 i (x : Int) = 0 then none else some (ad' 102 x)) = fun x : Nat => if T 523 i (x : Int) = 0 then none else some (ad 102 x) := by
        funext x
        by_cases z : T 523 i (x : Int) = 0
        · rw [if_pos z, if_pos z]
        · rw [if_neg z, if_neg z, h 102 x (Or.inr (hT.2.2.2.2.2.1 i x (by omega) z))]
      simp only [e]
    | t + 6, hk, hc => simp [tc_] at hc
theorem ok_nu (hT : ok_T T) {k : Nat} {i n : Int} {f : Int → Int} (hk9 : k ≠ 190 ∧ k ≠ 191) (hk : 100 ≤ k) (hn : 0 ≤ n ∧ n ≤ 2147483647) (h1 : ∀ t m lo hi, ta_ k = some (t, m, lo, hi) → t ≤ 3 ∧ ∀ x, 0 ≤ x → lo ≤ f x ∧ f x ≤ hi) (h2 : ∀ (j c k' : Nat) (lo hi : Int), (tf_ k)[j]? = some (c, k', lo, hi) → lo ≤ f j ∧ f j ≤ hi ∧ ok_v T (fv_ c k' (f j) i)) (h3 : ∀ o, ow_ k = some o → al_ T o i ∨ al_ T (o + 50) i) : ok_T (nu_ T k i n f) := by
  obtain ⟨a1, a2, a3, a4, a5, a6, a7, a8, a9⟩ := hT
  have mo : ∀ k' i', al_ T k' i' → al_ (nu_ T k i n f) k' i' := fun k' i' h => (al_nu k' i').mpr (Or.inr h)
  refine ⟨fun k' t' n' lo' hi' h i' x' hx => ?_, fun k' j' c k'' lo' hi' h i' => ?_, fun i' => ?_, fun k' i' hl j' c k'' lo' hi' h => ?_, fun i' x' hx h => ?_, fun i' x' hx h => ?_, fun k' i' h q => ?_, fun k' i' o h q => ?_, fun i' h q => ?_⟩
  · by_cases e : k' = k ∧ i' = i
    · obtain ⟨rfl, rfl⟩ := e
      rw [nu_p hx]
      exact (h1 _ _ _ _ h).2 x' hx
    · rw [nu_o e]
      exact a1 k' t' n' lo' hi' h i' x' hx
  · by_cases e : k' = k ∧ i' = i
    · obtain ⟨rfl, rfl⟩ := e
      rw [nu_p (by omega)]
      exact ⟨(h2 _ _ _ _ _ h).1, (h2 _ _ _ _ _ h).2.1⟩
    · rw [nu_o e]
      exact a2 k' j' c k'' lo' hi' h i'
  · by_cases e : 190 = k ∧ i' = i
    · obtain ⟨rfl, rfl⟩ := e
      rw [nu_l]
      exact hn
    · rw [nu_o e]
      exact a3 i'
  · by_cases e : k' = k ∧ i' = i
    · obtain ⟨rfl, rfl⟩ := e
      rw [nu_p (by omega)]
      exact okv_mono mo (h2 _ _ _ _ _ h).2.2
    · rw [nu_o e]
      exact okv_mono mo (a4 k' i' (((al_nu k' i').mp hl).resolve_left e) j' c k'' lo' hi' h)
  · by_cases e : 521 = k ∧ i' = i
    · obtain ⟨rfl, rfl⟩ := e
      exact absurd (h1 _ _ _ _ ta_521).1 (by omega)
    · rw [nu_o e] at h
      exact mo _ _ (a5 i' x' hx h)
  · by_cases e : 523 = k ∧ i' = i
    · obtain ⟨rfl, rfl⟩ := e
      exact absurd (h1 _ _ _ _ ta_523).1 (by omega)
    · rw [nu_o e] at h
      exact mo _ _ (a6 i' x' hx h)
  · rcases (al_nu k' i').mp q with e | e
    · omega
    · exact a7 k' i' h e
  · rcases (al_nu k' i').mp q with e | e
    · obtain ⟨rfl, rfl⟩ := e
      exact (h3 o h).imp (mo _ _) (mo _ _)
    · exact (a8 k' i' o h e).imp (mo _ _) (mo _ _)
  · rw [nu_o (fun e => hk9.2 e.1.symm)] at h
    rcases (al_nu 190 i').mp q with e | e
    · exact hk9.1 e.1.symm
    · exact a9 i' h e
/-- a row of kind 190 is made, and counted -/
def nv_ (T : Zt) (n : Int) : Zt := up_ (nu_ T 190 (T 191 0 0) n (fun _ => 0)) 191 0 0 (T 191 0 0 + 1)
theorem nv_o {k' : Nat} {i' n : Int} (h : ¬ (k' = 190 ∧ i' = T 191 0 0)) (h2 : k' ≠ 191) : nv_ T n k' i' = T k' i' := by
  unfold nv_
  rw [up_o (fun e => h2 (Prod.mk.inj e).1), nu_o h]
theorem nv_9 {n : Int} : nv_ T n 191 0 0 = T 191 0 0 + 1 := up_s _ _ _ _ _
theorem nv_s {n : Int} : nv_ T n 190 (T 191 0 0) = nu_ T 190 (T 191 0 0) n (fun _ => 0) 190 (T 191 0 0) := by
  unfold nv_
  rw [up_o (fun e => absurd (Prod.mk.inj e).1 (by decide))]
theorem al_nv {n : Int} (k' : Nat) (i' : Int) : al_ (nv_ T n) k' i' ↔ (k' = 190 ∧ i' = T 191 0 0) ∨ al_ T k' i' := by
  unfold nv_
  rw [al_up (by omega), al_nu]
theorem ta_191 : ta_ 191 = none := by decide +kernel
theorem ok_nv (hT : ok_T T) {n : Int} (hn : 0 ≤ n ∧ n ≤ 2147483647) : ok_T (nv_ T n) := by
  obtain ⟨a1, a2, a3, a4, a5, a6, a7, a8, a9⟩ := hT
  have mo : ∀ k' i', al_ T k' i' → al_ (nv_ T n) k' i' := fun k' i' h => (al_nv k' i').mpr (Or.inr h)
  have hf : ∀ {k j : Nat} {q : Nat × Nat × Int × Int}, (tf_ k)[j]? = some q → k < 154 := fun h => tf_lt h
  refine ⟨fun k' t' n' lo' hi' h i' x' hx => ?_, fun k' j' c k'' lo' hi' h i' => ?_, fun i' => ?_, fun k' i' hl j' c k'' lo' hi' h => ?_, fun i' x' hx h => ?_, fun i' x' hx h => ?_, fun k' i' h q => ?_, fun k' i' o h q => ?_, fun i' h q => ?_⟩
  · by_cases e : k' = 190 ∧ i' = T 191 0 0
    · obtain ⟨rfl, rfl⟩ := e
      rw [nv_s, nu_p hx]
      rw [ta_190] at h
      cases h
      omega
    · rw [nv_o e (fun z => by rw [z, ta_191] at h; cases h)]
      exact a1 k' t' n' lo' hi' h i' x' hx
  · have := hf h
    rw [nv_o (fun e => by omega) (by omega)]
    exact a2 k' j' c k'' lo' hi' h i'
  · by_cases e : i' = T 191 0 0
    · subst e
      rw [nv_s, nu_l]
      exact hn
    · rw [nv_o (fun z => e z.2) (by omega)]
      exact a3 i'
  · have := hf h
    rw [nv_o (fun e => by omega) (by omega)]
    exact okv_mono mo (a4 k' i' (((al_nv k' i').mp hl).resolve_left (fun e => by omega)) j' c k'' lo' hi' h)
  · rw [nv_o (fun e => by omega) (by omega)] at h
    exact mo _ _ (a5 i' x' hx h)
  · rw [nv_o (fun e => by omega) (by omega)] at h
    exact mo _ _ (a6 i' x' hx h)
  · rcases (al_nv k' i').mp q with e | e
    · omega
    · exact a7 k' i' h e
  · rcases (al_nv k' i').mp q with e | e
    · rw [e.1] at h
      rw [show ow_ 190 = none by decide] at h
      cases h
    · exact (a8 k' i' o h e).imp (mo _ _) (mo _ _)
  · rw [nv_9] at h
    rcases (al_nv 190 i').mp q with e | e
    · omega
    · exact a9 i' (by omega) e
theorem no_191 {D : va_G} {cA : Nat → ClassId} {ad : Nat → Int → Nat} {A : Nat → Prop} {H : Heap} (h : Rp_ D cA ad T A H) (i : Int) : ¬ al_ T 191 i := fun ha => by
  obtain ⟨ids, q0, hq, -, hP, -⟩ := rp_at h ha
  have h1 := hP q0 _ (wd_get hq)
  unfold ce_ at h1
  rw [ta_191] at h1
  obtain ⟨r, hr, -⟩ := h1
  have e : vwCl[kc_ 191]? = none := by decide +kernel
  rw [show (kc_ 191) = (kc_ 191) from rfl, e] at hr
  cases hr
theorem rp_nu {D : va_G} {cA : Nat → ClassId} {ad : Nat → Int → Nat} {A : Nat → Prop} {H1 : Heap} (hT : ok_T T) {ids : List (Nat × Int)} (hids : ∀ k i, al_ T k i ↔ (k, i) ∈ ids) {k q : Nat} {i : Int} {T1 : Zt} {e : va_E} (hk : 100 ≤ k) (hfr : ¬ al_ T k i) (hs1 : ∀ k' i', al_ T k' i' → T1 k' i' = T k' i') (hal : ∀ k' i', al_ T1 k' i' ↔ (k' = k ∧ i' = i) ∨ al_ T k' i') (he : ce_ cA (aq_ ad k i q) T1 k i = e) (hP : va_P D vwCl (wd_ cA ad T ids ++ [(q, e)]) H1) (hD : va_D A (wd_ cA ad T ids ++ [(q, e)])) : Rp_ D cA (aq_ ad k i q) T1 A H1 := by
  have hw : wd_ cA (aq_ ad k i q) T1 (ids ++ [(k, i)]) = wd_ cA ad T ids ++ [(q, e)] := by
    unfold wd_
    rw [List.map_append]
    congr 1
    · apply List.map_congr_left
      rintro ⟨k', i'⟩ hm
      have ha := (hids k' i').mpr hm
      have hne : ¬ (k' = k ∧ i' = i) := fun z => hfr (by rw [← z.1, ← z.2]; exact ha)
      show (aq_ ad k i q k' i', ce_ cA (aq_ ad k i q) T1 k' i') = (ad k' i', ce_ cA ad T k' i')
      rw [ce_congr (hs1 k' i' ha), ce_ad hT (aq_e hk hfr) ha, aq_n hne]
    · show [(aq_ ad k i q k i, ce_ cA (aq_ ad k i q) T1 k i)] = _
      rw [he, aq_s]
  refine ⟨ids ++ [(k, i)], fun k' i' => ?_, by rw [hw]; exact hP, by rw [hw]; exact hD⟩
  rw [hal, hids, List.mem_append, List.mem_singleton, Prod.mk.injEq]
  exact or_comm
theorem j_nu {l : Launch} {p : Program} {e : Env} {s : State} {m : MethodId} {args : Array Value} {below : List Frame} {meth : Method} {c : Code} {D : va_G} {cA : Nat → ClassId} {ad0 : Nat → Int → Nat} {A : Nat → Prop} (X : Cx_ Y p s m args meth c D cA ad0 A) {ad : Nat → Int → Nat} {H1 : Heap} {locs : List Loc} {cells slots : Nat} {lsC : Array Slot} {k q : Nat} {i : Int} {T1 : Zt} {ev : va_E} {ids : List (Nat × Int)} (kk : J_ Y T0 P bc' bs' pc' ls (vR k i :: st) T1) (hc : cells + bc' ≤ Y.2.2.2.2.cells) (hs : slots + bs' ≤ Y.2.2.2.2.slots) (hk : 100 ≤ k) (hfr : ¬ al_ T k i) (hs1 : ∀ k' i', al_ T k' i' → T1 k' i' = T k' i') (hal : ∀ k' i', al_ T1 k' i' ↔ (k' = k ∧ i' = i) ∨ al_ T k' i') (hok : ok_T T1) (hids : ∀ k i, al_ T k i ↔ (k, i) ∈ ids) (he : ce_ cA (aq_ ad k i q) T1 k i = ev) (hP : va_P D vwCl (wd_ cA ad T ids ++ [(q, ev)]) H1) (hD : va_D A (wd_ cA ad T ids ++ [(q, ev)])) (hS : va_S A s.heap H1 locs) (hB : Sb_ ad0 ad T0 T) (hT : ok_T T) (hL : ok_l T ls st) (hl : lv_has lsC Y.2.2.1 (lp_ ad 0 ls)) (hn : ls.length = Y.2.2.1) :
    W p l e Y.2.2.2.2 s m args below meth c H1 locs cells slots (MQ below (Qc_ D cA ad0 T0 A P) args s Y.2.2.2.2.cells Y.2.2.2.2.slots A) (F0 m pc'.toNat lsC (.ref q :: st.map (en_v ad))) := by
  have mo : ∀ k' i', al_ T k' i' → al_ T1 k' i' := fun k' i' h => (hal k' i').mpr (Or.inr h)
  have hee : ∀ v, ok_v T v → en_v (aq_ ad k i q) v = en_v ad v := fun v hv => en_congr (aq_e hk hfr) hv
  have el : lp_ (aq_ ad k i q) 0 ls = lp_ ad 0 ls := lp_congr (fun k v hk => hee v (hL.1 k v hk))
  have es : st.map (en_v (aq_ ad k i q)) = st.map (en_v ad) := List.map_congr_left (fun v hv => hee v (hL.2 v hv))
  have k2 := kk l p e s m args below meth c D cA ad0 A X (aq_ ad k i q) H1 locs cells slots lsC hc hs (rp_nu hT hids hk hfr hs1 hal he hP hD) hS ⟨fun k' i' h => mo _ _ (hB.1 k' i' h), fun k' i' h => by rw [aq_e hk hfr k' i' (h.imp id (hB.1 k' i'))]; exact hB.2 k' i' h⟩ hok (ok_push (Or.inr ((hal k i).mpr (Or.inl ⟨rfl, rfl⟩))) ⟨fun k v hk => okv_mono mo (hL.1 k v hk), fun v hv => okv_mono mo (hL.2 v hv)⟩) (by rw [el]; exact hl) hn
  have e2 : (vR k i :: st).map (en_v (aq_ ad k i q)) = Value.ref q :: st.map (en_v ad) := by
    rw [List.map_cons, es]
    show Value.ref (aq_ ad k i q k i) :: _ = _
    rw [aq_s]
  rw [e2] at k2
  exact k2
theorem rp_ids {D : va_G} {cA : Nat → ClassId} {ad : Nat → Int → Nat} {A : Nat → Prop} {H : Heap} (h : Rp_ D cA ad T A H) : ∃ ids : List (Nat × Int), (∀ k i, al_ T k i ↔ (k, i) ∈ ids) ∧ va_P D vwCl (wd_ cA ad T ids) H ∧ va_D A (wd_ cA ad T ids) := h
theorem nu_a {k : Nat} {i n : Int} {f : Int → Int} (hfr : ¬ al_ T k i) (k' : Nat) (i' : Int) (h : al_ T k' i') : nu_ T k i n f k' i' = T k' i' := nu_o (fun z => hfr (by rw [← z.1, ← z.2]; exact h))
theorem ce_i {cA : Nat → ClassId} {ad : Nat → Int → Nat} {T1 : Zt} {k : Nat} {mo : Option Int} {lo hi i n : Int} (ha : ta_ k = some (1, mo, lo, hi)) (hmo : mo = none ∧ T1 k i (-2) = n ∨ mo = some n) : ce_ cA ad T1 k i = .inl (cA 0, n.toNat, .inl fun x => Int32.ofInt (T1 k i (x : Int))) := by
  unfold ce_ ln_
  rw [ha]
  rcases hmo with ⟨rfl, h⟩ | rfl
  · simp only [h]
  · rfl
theorem j_newX {k : Nat} {mo : Option Int} {lo hi i n : Int} {T1 : Zt} (hp : 0 ≤ pc) (ha : ta_ k = some (1, mo, lo, hi)) (hmo : mo = none ∧ T1 k i (-2) = n ∨ mo = some n) (hz : ∀ x : Nat, T1 k i (x : Int) = 0) (h0 : 0 ≤ n) (h1 : n ≤ 100000000) (hfr : ok_T T → ¬ al_ T k i) (hok : ok_T T → ok_T T1) (hs1 : (∀ i, ¬ al_ T 191 i) → ¬ al_ T k i → ∀ k' i', al_ T k' i' → T1 k' i' = T k' i') (hal : ∀ k' i', al_ T1 k' i' ↔ (k' = k ∧ i' = i) ∨ al_ T k' i') (hb : bc' + 1 ≤ bc) (hbs : bs' + n.toNat ≤ bs) (hd : decode Y.2.1 pc.toNat = .ok (.newarray .int, 2)) (hac : Cond.arrayClass .int ∈ lw_g) (kk : J_ Y T0 P bc' bs' (pc + 2) ls (vR k i :: st) T1) : J_ Y T0 P bc bs pc ls (vI n :: st) T := by
  intro l p e s m args below meth c D cA ad0 A X ad H locs cells slots lsC hc hs hR hS hB hT hL hl hln
  have hfr := hfr hT
  have hok := hok hT
  have hs1 := hs1 (no_191 hR) hfr
  obtain ⟨ids, hids, hP, hD⟩ := rp_ids hR
  have hk := ta_ge ha
  have hcl := i3_cl h0 (show n ≤ 2147483647 by omega)
  have hin := i3_in h0 (show n < n + 1 by omega) (show n ≤ 2147483647 by omega)
  refine va_newa (atype := .int) (ty := .int) (N' := n.toNat) (a0 := (n.toNat, .inl fun _ => 0)) X.1 X.2.1 (X.2.2.2.2.2.1 _ hac) rfl X.2.2.2.2.2.2.2.1 hP hD hS X.2.2.2.2.2.2.2.2.2.1 (fun _ => rfl) (fun z => hin (Or.inl z)) (by omega) (by show n.toNat * 4 ≤ _; omega) (by omega) (by omega) hd (fun q cN H1 hK1 hP1 hD1 hS1 => ?_)
  have ec : cN = cA 0 := by
    have q1 := va_nm_int (hK1.2 5 (cN, .int) rfl).2
    have q2 := va_nm_int (hK1.2 0 (cA 0, .int) rfl).2
    exact Option.some.inj (q1.symm.trans q2)
  subst ec
  have he : ce_ cA (aq_ ad k i q) T1 k i = .inl (cA 0, n.toNat, .inl fun _ => 0) := by
    rw [ce_i ha hmo]
    have e1 : (fun x : Nat => Int32.ofInt (T1 k i (x : Int))) = fun _ => 0 := by
      funext x
      rw [hz x]
      rfl
    rw [e1]
  have k2 := j_nu (l := l) (e := e) (below := below) (pc' := pc + 2) X kk (cells := cells + 1) (slots := slots + n.toNat) (by omega) (by omega) (by omega) hfr hs1 hal hok hids he hP1 hD1 hS1 hB hT (ok_tail hL) hl hln
  rw [show (pc + 2).toNat = pc.toNat + 2 by omega] at k2
  exact k2
/-- an int row of the tables is made -/
theorem j_newI {k : Nat} {lo hi i n : Int} (hp : 0 ≤ pc) (ha : ta_ k = some (1, some n, lo, hi)) (hl0 : lo ≤ 0 ∧ 0 ≤ hi) (hn : 0 ≤ n ∧ n ≤ 100000000) (hfr : ¬ al_ T k i) (hb : bc' + 1 ≤ bc) (hbs : bs' + n.toNat ≤ bs) (hd : decode Y.2.1 pc.toNat = .ok (.newarray .int, 2)) (hac : Cond.arrayClass .int ∈ lw_g) (how : ∀ o, ow_ k = some o → al_ T o i ∨ al_ T (o + 50) i) (kk : J_ Y T0 P bc' bs' (pc + 2) ls (vR k i :: st) (nu_ T k i n (fun _ => 0))) : J_ Y T0 P bc bs pc ls (vI n :: st) T := by
  refine j_newX hp ha (Or.inr rfl) (fun x => nu_p (by omega)) hn.1 hn.2 (fun _ => hfr) (fun hT => ok_nu hT ⟨fun z => ?_, fun z => ?_⟩ (by have := ta_ge ha; omega) ⟨hn.1, by omega⟩ (fun t m' lo' hi' h => by rw [ha] at h; cases h; exact ⟨by omega, fun x _ => hl0⟩) (fun j c k' lo' hi' h => by rw [ta_tf ha] at h; simp at h) how) (fun _ hfr => nu_a hfr) al_nu hb hbs hd hac kk
  · rw [z, ta_190] at ha; cases ha
  · rw [z, ta_191] at ha; cases ha
/-- an int row of any length is made -/
theorem j_newL {n : Int} (hp : 0 ≤ pc) (hn : 0 ≤ n ∧ n ≤ 100000000) (hb : bc' + 1 ≤ bc) (hbs : bs' + n.toNat ≤ bs) (hd : decode Y.2.1 pc.toNat = .ok (.newarray .int, 2)) (hac : Cond.arrayClass .int ∈ lw_g) (kk : J_ Y T0 P bc' bs' (pc + 2) ls (vR 190 (T 191 0 0) :: st) (nv_ T n)) : J_ Y T0 P bc bs pc ls (vI n :: st) T := by
  refine j_newX hp ta_190 (Or.inl ⟨rfl, by rw [nv_s, nu_l]⟩) (fun x => by rw [nv_s]; exact nu_p (by omega)) hn.1 hn.2 (fun hT => hT.2.2.2.2.2.2.2.2 _ (by omega)) (fun hT => ok_nv hT ⟨hn.1, by omega⟩) (fun h9 hfr k' i' h => nv_o (fun z => hfr (by rw [← z.1, ← z.2]; exact h)) (fun z => h9 i' (by rw [← z]; exact h))) al_nv hb hbs hd hac kk
/-- raw objects: what new makes, until its constructor has run -/
theorem ce_rw {cA : Nat → ClassId} {ad : Nat → Int → Nat} {ci : Nat} {i : Int} (h : ci < 4) : ce_ cA ad T (150 + ci) i = .inr (ci, (tf_ (150 + ci)).zipIdx.map fun q => en_v ad (fv_ q.1.1 q.1.2.1 (T (150 + ci) i (q.2 : Int)) i)) := by
  unfold ce_
  rw [tk_no _ (by omega)]
  simp only [kc_]
  rw [if_neg (by omega), Nat.add_sub_cancel_left]
theorem rw_ok {ci : Nat} (h : ci < 4) : ∀ q ∈ tf_ (150 + ci), q.2.2.1 ≤ 0 ∧ 0 ≤ q.2.2.2 ∧ (q.1 = 0 ∨ q.1 = 5) := by
  match ci, h with
  | 0, _ => decide +kernel
  | 1, _ => decide +kernel
  | 2, _ => decide +kernel
  | 3, _ => decide +kernel
def rw_fs (ci : Nat) (ad : Nat → Int → Nat) (i : Int) : List Value := (tf_ (150 + ci)).zipIdx.map fun q => en_v ad (fv_ q.1.1 q.1.2.1 0 i)
/-- an object is made -/
theorem j_newO {ci idx N : Nat} {C : String} {Tb : u_T} {ty0 : Nat → FieldType} {i : Int} (hp : 0 ≤ pc) (h4 : ci < 4) (hC : vwCl[ci]? = some (C, Tb, N)) (hty : ∀ k, k < N → parseFieldDescriptor (Tb k).2.2.1 = some (ty0 k)) (hfs : ∀ (ad : Nat → Int → Nat) (j : Nat), j < N → defaultValue (ty0 j) = vp_V (rw_fs ci ad i) j) (hcl : Cond.classLink Y.1 idx C ∈ lw_g) (hinst : Cond.instantiable C N ∈ lw_g) (hini : Cond.initialized C ∈ lw_g) (hfr : ¬ al_ T (150 + ci) i) (hb : bc' + 1 ≤ bc) (hbs : bs' + N ≤ bs) (hd : decode Y.2.1 pc.toNat = .ok (.new idx, 3)) (kk : J_ Y T0 P bc' bs' (pc + 3) ls (vR (150 + ci) i :: st) (nu_ T (150 + ci) i 0 (fun _ => 0))) : J_ Y T0 P bc bs pc ls st T := by
  intro l p e s m args below meth c D cA ad0 A X ad H locs cells slots lsC hc hs hR hS hB hT hL hl hln
  obtain ⟨ids, hids, hP, hD⟩ := rp_ids hR
  obtain ⟨hin, -, -⟩ := cl_in hC
  refine va_new (D := D) (ci := ci) (C := C) (T := Tb) (N := N) (own := Y.1) (index := idx) (fs := rw_fs ci ad i) X.1 X.2.1 X.2.2.2.2.2.1 hin ty0 hty X.2.2.2.2.2.2.1 (X.2.2.2.2.2.1 _ hcl) (X.2.2.2.2.2.1 _ hinst) (X.2.2.2.2.2.1 _ hini) X.2.2.2.2.2.2.2.1 hP hD hS X.2.2.2.2.2.2.2.2.2.1 hC (hfs ad) (by omega) (by omega) hd (fun q H1 hP1 hD1 hS1 => ?_)
  have hr := rw_ok h4
  have hv : ∀ (j c k' : Nat) (lo hi : Int), (tf_ (150 + ci))[j]? = some (c, k', lo, hi) → lo ≤ 0 ∧ 0 ≤ hi ∧ ok_v T (fv_ c k' 0 i) ∧ ∀ ad2 : Nat → Int → Nat, en_v ad2 (fv_ c k' 0 i) = en_v ad (fv_ c k' 0 i) := fun j c k' lo hi h => by
    obtain ⟨q1, q2, q3⟩ := hr _ (List.mem_of_getElem? h)
    refine ⟨q1, q2, ?_⟩
    rcases q3 with q3 | q3
    · have q4 : c = 0 := q3
      subst q4
      exact ⟨⟨by omega, by omega⟩, fun _ => rfl⟩
    · have q4 : c = 5 := q3
      subst q4
      exact ⟨trivial, fun _ => rfl⟩
  have hok : ok_T (nu_ T (150 + ci) i 0 (fun _ => 0)) := ok_nu hT ⟨by omega, by omega⟩ (by omega) ⟨by omega, by omega⟩ (fun t m' lo' hi' h => by rw [tk_no _ (by omega)] at h; cases h) (fun j c k' lo' hi' h => ⟨(hv j c k' lo' hi' h).1, (hv j c k' lo' hi' h).2.1, (hv j c k' lo' hi' h).2.2.1⟩) (fun o h => by
    have : ow_ (150 + ci) = none := by
      unfold ow_
      rw [if_neg (by omega), if_neg (by omega), if_neg (by omega)]
    rw [this] at h
    cases h)
  have he : ce_ cA (aq_ ad (150 + ci) i q) (nu_ T (150 + ci) i 0 (fun _ => 0)) (150 + ci) i = .inr (ci, rw_fs ci ad i) := by
    rw [ce_rw h4]
    unfold rw_fs
    have e2 : ((tf_ (150 + ci)).zipIdx.map fun z => en_v (aq_ ad (150 + ci) i q) (fv_ z.1.1 z.1.2.1 (nu_ T (150 + ci) i 0 (fun _ => 0) (150 + ci) i (z.2 : Int)) i)) = (tf_ (150 + ci)).zipIdx.map fun z => en_v ad (fv_ z.1.1 z.1.2.1 0 i) := by
      apply List.map_congr_left
      rintro ⟨⟨c, k', lo, hi⟩, j⟩ hq
      rw [nu_p (by omega)]
      exact (hv j c k' lo hi (zi_at hq)).2.2.2 _
    rw [e2]
  have k2 := j_nu (l := l) (e := e) (below := below) (pc' := pc + 3) X kk (cells := cells + 1) (slots := slots + N) (by omega) (by omega) (by omega) hfr (nu_a hfr) al_nu hok hids he hP1 hD1 hS1 hB hT hL hl hln
  rw [show (pc + 3).toNat = pc.toNat + 3 by omega] at k2
  exact k2
end JN
-- raw objects are filled, constructors are called, raw objects become things of the picture
section JO
variable {Y Yc : Zm} {T0 T : Zt} {P : Zt → Option Zv → Prop} {bc bs : Nat} {pc : Int} {ls : Zl} {st rest : List Zv} {y : MethodName} {Qp : Zt → Option Zv → Prop}
def fW_ (own : String) (idx ci j : Nat) (I : Bool) : Prop := ∃ (C : String) (Tb : u_T) (N : Nat), vwCl[ci]? = some (C, Tb, N) ∧ j < N ∧ N = (tf_ (150 + ci)).length ∧ Cond.fieldLink own idx (Tb j).1 (Tb j).2.1 (Tb j).2.2.1 ∈ lw_g ∧ (Tb j).1 = own ∧ ∃ ty, parseFieldDescriptor (Tb j).2.2.1 = some ty ∧ (∀ a : Nat, I = false → narrow ty (.ref a) = .ref a ∧ fits ty (.ref a) = true) ∧ (∀ a : Int32, I = true → narrow ty (.int a) = .int a ∧ fits ty (.int a) = true)
/-- a field of a raw object is put, in its constructor -/
theorem j_putW {ci j c k' idx : Nat} {lo hi i z : Int} {v : Zv} {I : Bool} (hp : 0 ≤ pc) (h4 : ci < 4) (hf : fW_ Y.1 idx ci j I) (ht : (tf_ (150 + ci))[j]? = some (c, k', lo, hi)) (him : im_ Y.2.2.2.2.slots = true) (hd : decode Y.2.1 pc.toNat = .ok (.putfield idx, 3)) (ev : fv_ c k' z i = v) (hI : match v with | .inl _ => I = true | .inr (.inr (some _)) => I = false | _ => False) (h1 : lo ≤ z) (h2 : z ≤ hi) (k : J_ Y T0 P bc bs (pc + 3) ls st (up_ T (150 + ci) i (j : Int) z)) : J_ Y T0 P bc bs pc ls (v :: vR (150 + ci) i :: st) T := by
  intro l p e s m args below meth c0 D cA ad0 A X ad H locs cells slots lsC hc hs hR hS hB hT hL hl hn
  have hal : al_ T (150 + ci) i := ok_al (v := none) (by omega) (ok_head (ok_tail hL))
  have hup := al_up (T := T) (k := 150 + ci) (i := i) (j := (j : Int)) (x := z) (by omega)
  obtain ⟨ids, q0, hq, hids, hP, hD⟩ := rp_at hR hal
  obtain ⟨C, Tb, N, hC, hjN, hN, hlk, how, ty, hty1, hr1, hi1⟩ := hf
  obtain ⟨hin, ⟨ty0, hty⟩, hnm⟩ := cl_in hC
  have hw := wd_get (cA := cA) (ad := ad) (T := T) hq
  rw [ce_rw h4] at hw
  obtain ⟨hnar, hfit⟩ : narrow ty (en_v ad v) = en_v ad v ∧ fits ty (en_v ad v) = true := by
    rcases v with x | x | _ | ⟨k9, i9⟩
    · exact hi1 _ hI
    · exact hI.elim
    · exact hI.elim
    · exact hr1 _ hI
  have fin : ∀ (H1 : Heap) (locs1 : List Loc), va_P D vwCl ((wd_ cA ad T ids).set q0 (ad (150 + ci) i, .inr (ci, ((tf_ (150 + ci)).zipIdx.map fun q => en_v ad (fv_ q.1.1 q.1.2.1 (T (150 + ci) i (q.2 : Int)) i)).set j (en_v ad v)))) H1 → va_D A ((wd_ cA ad T ids).set q0 (ad (150 + ci) i, .inr (ci, ((tf_ (150 + ci)).zipIdx.map fun q => en_v ad (fv_ q.1.1 q.1.2.1 (T (150 + ci) i (q.2 : Int)) i)).set j (en_v ad v)))) → va_S A s.heap H1 locs1 → W p l e Y.2.2.2.2 s m args below meth c0 H1 locs1 cells slots (MQ below (Qc_ D cA ad0 T0 A P) args s Y.2.2.2.2.cells Y.2.2.2.2.slots A) (F0 m (pc.toNat + 3) lsC (st.map (en_v ad))) := by
    intro H1 locs1 hP1 hD1 hS1
    have e1 : ((tf_ (150 + ci)).zipIdx.map fun q => en_v ad (fv_ q.1.1 q.1.2.1 (T (150 + ci) i (q.2 : Int)) i)).set j (en_v ad v) = (tf_ (150 + ci)).zipIdx.map fun q => en_v ad (fv_ q.1.1 q.1.2.1 (up_ T (150 + ci) i (j : Int) z (150 + ci) i (q.2 : Int)) i) := by
      apply List.ext_getElem?
      intro n
      rw [List.getElem?_set]
      by_cases en : j = n
      · subst en
        rw [if_pos rfl, if_pos (by rw [List.length_map, List.length_zipIdx, ← hN]; exact hjN), fs_at (T := up_ T (150 + ci) i (j : Int) z) ht, up_s, ev]
      · rw [if_neg en, List.getElem?_map, List.getElem?_map, List.getElem?_zipIdx]
        cases hn9 : (tf_ (150 + ci))[n]? with
        | none => rfl
        | some q =>
          simp only [Option.map_some]
          rw [up_n (fun q => by omega)]
    have e2 : (wd_ cA ad T ids).set q0 (ad (150 + ci) i, .inr (ci, ((tf_ (150 + ci)).zipIdx.map fun q => en_v ad (fv_ q.1.1 q.1.2.1 (T (150 + ci) i (q.2 : Int)) i)).set j (en_v ad v))) = wd_ cA ad (up_ T (150 + ci) i (j : Int) z) ids := by
      rw [e1, ← ce_rw h4 (T := up_ T (150 + ci) i (j : Int) z) (cA := cA)]
      exact wd_set hD hq (fun k' i' h => up_o h)
    rw [e2] at hP1 hD1
    have k2 := k l p e s m args below meth c0 D cA ad0 A X ad H1 locs1 cells slots lsC hc hs ⟨ids, fun k i => (hup k i).trans (hids k i), hP1, hD1⟩ hS1 ⟨fun k i h => (hup k i).mpr (hB.1 k i h), hB.2⟩ (ok_upR hT ht h1 h2 (by rw [ev]; exact ok_head hL)) ⟨fun k9 v h => okv_mono (fun k i => (hup k i).mpr) (hL.1 k9 v h), fun v h => okv_mono (fun k i => (hup k i).mpr) ((ok_tail (ok_tail hL)).2 v h)⟩ hl hn
    rw [show (pc + 3).toNat = pc.toNat + 3 by omega] at k2
    exact k2
  cases hfin : (Tb j).2.2.2 with
  | false => exact va_put (D := D) (ci := ci) (C := C) (T := Tb) (N := N) (own := Y.1) (ref := (Tb j).1) (index := idx) (ty := ty) (v := en_v ad v) X.1 X.2.1 X.2.2.2.2.2.1 hin ty0 hty hnm X.2.2.2.2.2.2.1 X.2.2.2.2.2.2.2.1 hP hD hS q0 hw hC j hjN (X.2.2.2.2.2.1 _ hlk) (fun _ h => h) hfin hty1 hnar hfit (by rw [List.length_map, List.length_zipIdx, ← hN]; exact hjN) hd fin
  | true => exact va_putF (D := D) (ci := ci) (C := C) (T := Tb) (N := N) (own := Y.1) (ref := (Tb j).1) (index := idx) (ty := ty) (v := en_v ad v) X.1 X.2.1 X.2.2.2.2.2.1 hin ty0 hty hnm X.2.2.2.2.2.2.1 X.2.2.2.2.2.2.2.1 hP hD hS q0 hw hC j hjN (X.2.2.2.2.2.1 _ hlk) (fun _ h => h) hfin (X.2.2.2.2.2.2.2.2.2.2.2 him) how hty1 hnar hfit (by rw [List.length_map, List.length_zipIdx, ← hN]; exact hjN) hd fin
/-- a field of a raw object is read -/
theorem j_getW {ci j c k' idx N : Nat} {C : String} {Tb : u_T} {lo hi i : Int} (hp : 0 ≤ pc) (h4 : ci < 4) (hC : vwCl[ci]? = some (C, Tb, N)) (hjN : j < N) (hlk : Cond.fieldLink Y.1 idx (Tb j).1 (Tb j).2.1 (Tb j).2.2.1 ∈ lw_g) (ht : (tf_ (150 + ci))[j]? = some (c, k', lo, hi)) (hd : decode Y.2.1 pc.toNat = .ok (.getfield idx, 3)) {v : Zv} (ev : fv_ c k' (T (150 + ci) i (j : Int)) i = v) (k : J_ Y T0 P bc bs (pc + 3) ls (v :: st) T) : J_ Y T0 P bc bs pc ls (vR (150 + ci) i :: st) T := by
  subst ev
  intro l p e s m args below meth c0 D cA ad0 A X ad H locs cells slots lsC hc hs hR hS hB hT hL hl hn
  have hal : al_ T (150 + ci) i := ok_al (v := none) (by omega) (ok_head hL)
  obtain ⟨ids, q0, hq, h1, hP, hD⟩ := rp_at hR hal
  obtain ⟨hin, -, -⟩ := cl_in hC
  have k2 := k l p e s m args below meth c0 D cA ad0 A X ad H locs cells slots lsC hc hs hR hS hB hT (ok_push (hT.2.2.2.1 _ _ hal _ _ _ _ _ ht) (ok_tail hL)) hl hn
  rw [show (pc + 3).toNat = pc.toNat + 3 by omega] at k2
  have hw := wd_get (cA := cA) (ad := ad) (T := T) hq
  rw [ce_rw h4] at hw
  exact va_get (D := D) (ci := ci) (C := C) (T := Tb) (N := N) (own := Y.1) (ref := (Tb j).1) (index := idx) X.1 X.2.1 X.2.2.2.2.2.1 hin X.2.2.2.2.2.2.1 X.2.2.2.2.2.2.2.1 hP q0 hw hC j hjN (X.2.2.2.2.2.1 _ hlk) (fun _ h => h) (fs_at ht) hd k2
/-- a reference is put into a field of a thing -/
theorem j_putV {ci j c k' k2 idx : Nat} {lo hi i x z : Int} (hp : 0 ≤ pc) (hf : fr5_ Y.1 idx ci j) (ht : (tf_ (100 + ci))[j]? = some (c, k', lo, hi)) (hd : decode Y.2.1 pc.toNat = .ok (.putfield idx, 3)) (ev : fv_ c k' z i = vR k2 x) (h1 : lo ≤ z) (h2 : z ≤ hi) (k : J_ Y T0 P bc bs (pc + 3) ls st (up_ T (100 + ci) i (j : Int) z)) : J_ Y T0 P bc bs pc ls (vR k2 x :: vR (100 + ci) i :: st) T := by
  intro l p e s m args below meth c0 D cA ad0 A X ad H locs cells slots lsC hc hs hR hS hB hT hL hl hn
  have hal : al_ T (100 + ci) i := ok_al (v := none) (by omega) (ok_head (ok_tail hL))
  have hup := al_up (T := T) (k := 100 + ci) (i := i) (j := (j : Int)) (x := z) (by omega)
  obtain ⟨ids, q0, hq, hids, hP, hD⟩ := rp_at hR hal
  obtain ⟨C, Tb, N, hC, hjN, hN, hlk, hfin, hds⟩ := hf
  obtain ⟨hin, ⟨ty0, hty⟩, hnm⟩ := cl_in hC
  have hw := wd_get (cA := cA) (ad := ad) (T := T) hq
  rw [ce_ob (cl_lt hC)] at hw
  obtain ⟨ty, hty1, hnar, hfit⟩ := hds (ad k2 x)
  refine va_put (D := D) (ci := ci) (C := C) (T := Tb) (N := N) (own := Y.1) (ref := (Tb j).1) (index := idx) (ty := ty) (v := .ref (ad k2 x)) X.1 X.2.1 X.2.2.2.2.2.1 hin ty0 hty hnm X.2.2.2.2.2.2.1 X.2.2.2.2.2.2.2.1 hP hD hS q0 hw hC j hjN (X.2.2.2.2.2.1 _ hlk) (fun _ h => h) hfin hty1 hnar hfit (by rw [List.length_map, List.length_zipIdx, ← hN]; exact hjN) hd (fun H1 locs1 hP1 hD1 hS1 => ?_)
  have e1 : ((tf_ (100 + ci)).zipIdx.map fun q => en_v ad (fv_ q.1.1 q.1.2.1 (T (100 + ci) i (q.2 : Int)) i)).set j (.ref (ad k2 x)) = (tf_ (100 + ci)).zipIdx.map fun q => en_v ad (fv_ q.1.1 q.1.2.1 (up_ T (100 + ci) i (j : Int) z (100 + ci) i (q.2 : Int)) i) := by
    apply List.ext_getElem?
    intro n
    rw [List.getElem?_set]
    by_cases en : j = n
    · subst en
      rw [if_pos rfl, if_pos (by rw [List.length_map, List.length_zipIdx, ← hN]; exact hjN), fs_at (T := up_ T (100 + ci) i (j : Int) z) ht, up_s, ev]
      rfl
    · rw [if_neg en, List.getElem?_map, List.getElem?_map, List.getElem?_zipIdx]
      cases hn9 : (tf_ (100 + ci))[n]? with
      | none => rfl
      | some q =>
        simp only [Option.map_some]
        rw [up_n (fun q => by omega)]
  have e2 : (wd_ cA ad T ids).set q0 (ad (100 + ci) i, .inr (ci, ((tf_ (100 + ci)).zipIdx.map fun q => en_v ad (fv_ q.1.1 q.1.2.1 (T (100 + ci) i (q.2 : Int)) i)).set j (.ref (ad k2 x)))) = wd_ cA ad (up_ T (100 + ci) i (j : Int) z) ids := by
    rw [e1, ← ce_ob (cl_lt hC) (T := up_ T (100 + ci) i (j : Int) z) (cA := cA)]
    exact wd_set hD hq (fun k' i' h => up_o h)
  rw [e2] at hP1 hD1
  have k3 := k l p e s m args below meth c0 D cA ad0 A X ad H1 locs1 cells slots lsC hc hs ⟨ids, fun k i => (hup k i).trans (hids k i), hP1, hD1⟩ hS1 ⟨fun k i h => (hup k i).mpr (hB.1 k i h), hB.2⟩ (ok_upR hT ht h1 h2 (by rw [ev]; exact ok_head hL)) ⟨fun k9 v h => okv_mono (fun k i => (hup k i).mpr) (hL.1 k9 v h), fun v h => okv_mono (fun k i => (hup k i).mpr) ((ok_tail (ok_tail hL)).2 v h)⟩ hl hn
  rw [show (pc + 3).toNat = pc.toNat + 3 by omega] at k3
  exact k3
/-- the constructor of Object -/
theorem j_objI {idx k : Nat} {i : Int} (hml : Cond.methodLink Y.1 idx Lib.objectInit ∈ lw_g) (hin : Cond.instanceMethod Lib.objectInit ∈ lw_g) (hco : Cond.code Lib.objectInit ⟨#[0xb1]⟩ 1 none ∈ lw_g) (hd : decode Y.2.1 pc.toNat = .ok (.invokespecial idx, 3)) (hp : 0 ≤ pc) (hf : 1 ≤ Y.2.2.2.2.frames) (hlo : 20 ≤ Y.2.2.2.2.locals) (hrest : rest.length ≤ 4) (kk : J_ Y T0 P bc bs (pc + 3) ls rest T) : J_ Y T0 P bc bs pc ls (vR k i :: rest) T := by
  intro l p e s m args below meth c D cA ad0 A X ad H locs cells slots lsC hc hs hR hS hB hT hL hl hln
  have w := X.2.2.2.2.2.1
  have sm := en_sum (ad := ad) rest
  have k2 := kk l p e s m args below meth c D cA ad0 A X ad H locs cells slots lsC hc hs hR hS hB hT (ok_tail hL) hl hln
  rw [show (pc + 3).toNat = pc.toNat + 3 by omega] at k2
  exact W.objInit (a := ad k i) (rest := rest.map (en_v ad)) X.1 X.2.1 X.2.2.2.2.2.2.1 (w _ hml) (w _ hin) (w _ hco) rfl (hl.1.trans X.2.2.1.symm) rfl hd hf (by show 2 * 0 + _ + 12 ≤ _; omega) k2
/-- a constructor is called -/
def ci_ (own : String) (idx : Nat) (y : MethodName) (Yc : Zm) (n : Nat) : Prop := GoodIn lw_g (.code y Yc.2.1 Yc.2.2.1 none :: lw_g) ∧ Cond.initialized y.cls ∈ lw_g ∧ Cond.methodLink own idx y ∈ lw_g ∧ Cond.instanceMethod y ∈ lw_g ∧ y.name = "<init>" ∧ Yc.2.2.2.1 = none ∧ (y.cls ≠ "java/lang/invoke/MethodHandle" ∧ y.cls ≠ "java/lang/invoke/VarHandle" ∧ (parseMethodDescriptor y.desc).map (fun d => d.parameters.length) = some n)
theorem j_callI {idx k n : Nat} {i : Int} (as : List Zv) (hC : Ct_ y Yc T (vR k i :: as) Qp) (hcv : ci_ Y.1 idx y Yc n) (hd : decode Y.2.1 pc.toNat = .ok (.invokespecial idx, 3)) (hp : 0 ≤ pc) (hn : as.length = n) (hrm : rf_ Yc Y = true) (hrest : rest.length ≤ 4) (hmc : Yc.2.2.2.2.cells ≤ bc) (hms : Yc.2.2.2.2.slots ≤ bs) {st0 : List Zv} (hst : st0 = as.reverse ++ vR k i :: rest) (kk : ∀ (T' : Zt) (r : Option Zv), Qp T' r → J_ Y T0 P (bc - Yc.2.2.2.2.cells) (bs - Yc.2.2.2.2.slots) (pc + 3) ls (r.toList ++ rest) T') : J_ Y T0 P bc bs pc ls st0 T := by
  subst hst
  intro l p e s m args below meth c D cA ad0 A X ad H locs cells slots lsC hc hs hR hS hB hT hL hl hln
  obtain ⟨hG, hini, hml, hin, hy1, hret, hdd⟩ := hcv
  simp only [rf_, Bool.and_eq_true, decide_eq_true_eq] at hrm
  have hLr : ok_l T ls rest := ⟨hL.1, fun v hv => hL.2 v (by simp [hv])⟩
  have hAA : ∀ q, A_ ad T H.size q → A q := by
    rintro q (⟨k, i, ha, rfl⟩ | h)
    · exact Rp_in hR ha
    · exact X.2.2.2.2.2.2.2.2.2.1 q (Nat.le_trans hS.1 h)
  have w := X.2.2.2.2.2.1
  have hM := hC l D cA ad H.size
  rw [hret] at hM
  refine j_back X hc hs hR hS hB hLr hl hln hp hmc hms (va_runI (As := as.map (en_v ad)) (rest := rest.map (en_v ad)) (b := ad k i) ⟨X.1, X.2.1, X.2.2.1, X.2.2.2.2.2.2.1, X.2.2.2.2.2.1⟩ hM (cwI n w hG rfl rfl rfl (w _ hini) (w _ hml) (w _ hin) hy1 hdd hrm) ⟨pc_blind, fun U hU hW => ⟨rfl, by rw [hU], by rw [hU]; exact Rp_A hR (fun _ _ _ _ => trivial), va_K.moved hW.alike X.2.2.2.2.2.2.2.1, ex_warm hW X.2.2.2.2.2.2.2.2.1, se_call X.2.2.2.2.2.2.2.2.2.2.1 hS hAA hU hW (fun k i hk => hB.2 k i (Or.inl hk)), hT, fun v hv => hL.2 v ?_⟩⟩ rfl (by rw [List.length_map]; exact hn) (hl.1) ?_ (lv_room ?_) hd ⟨by omega, by omega⟩) (fun T' r h => kk T' r h)
  · rcases List.mem_cons.mp hv with rfl | h
    · simp
    · simp [h]
  · show List.map (en_v ad) (as.reverse ++ vR k i :: rest) = _
    rw [List.map_append, List.map_reverse, List.map_cons]
    rfl
  · have := en_sum (ad := ad) rest
    omega
/-- a row is given back -/
theorem j_aret {k : Nat} {i : Int} {rt : FieldType} (hr : Y.2.2.2.1 = some rt) (hrt : (∃ n, rt = .object n) ∨ ∃ t, rt = .array t) (hd : decode Y.2.1 pc.toNat = .ok (.areturn, 1)) (k2 : P T (some (vR k i))) : J_ Y T0 P bc bs pc ls [vR k i] T := by
  intro l p e' s m args below meth c D cA ad0 A X ad H locs cells slots lsC hc hs hR hS hB hT hL hl hn
  refine W.widen (k := Y.2.2.2.2.cells) (n := Y.2.2.2.2.slots) (by omega) (by omega) ?_
  exact W.aret X.1 X.2.1 (X.2.2.2.1.trans hr) hrt (Or.inr ⟨ad k i, rfl⟩) (fun t ht _ => ⟨⟨T, ad, some (vR k i), rfl, k2, hT, fun v hv => by cases hv; exact ok_head hL, by rw [ht]; exact hR, hB⟩, hS.F ht⟩) hS.2.2 hd X.2.2.2.2.1
end JO
-- raw objects become things of the picture; references into rows; clones and copies
section JP
variable {Y Yc : Zm} {T0 T : Zt} {P : Zt → Option Zv → Prop} {bc bs bc' bs' : Nat} {pc : Int} {ls : Zl} {st rest : List Zv}
def cw_ (T : Zt) (k : Nat) (i : Int) (g : Int → Int) : Zt := fun k' i' j' => if k' = k ∧ i' = i then (if j' = -1 then 1 else g j') else if k' = k + 50 ∧ i' = i ∧ j' = -1 then 0 else T k' i' j'
theorem cw_s {k : Nat} {i : Int} {g : Int → Int} {j : Int} (h : 0 ≤ j) : cw_ T k i g k i j = g j := by
  unfold cw_
  rw [if_pos ⟨rfl, rfl⟩, if_neg (by omega)]
theorem cw_o {k k' : Nat} {i i' : Int} {g : Int → Int} (h : ¬ (k' = k ∧ i' = i)) (h2 : ¬ (k' = k + 50 ∧ i' = i)) : cw_ T k i g k' i' = T k' i' := by
  funext j
  unfold cw_
  rw [if_neg h, if_neg (fun z => h2 ⟨z.1, z.2.1⟩)]
theorem cw_n {k k' : Nat} {i i' j : Int} {g : Int → Int} (h : ¬ (k' = k ∧ i' = i)) (h2 : j ≠ -1) : cw_ T k i g k' i' j = T k' i' j := by
  unfold cw_
  rw [if_neg h, if_neg (fun z => h2 z.2.2)]
theorem al_cw {k : Nat} {i : Int} {g : Int → Int} (k' : Nat) (i' : Int) : al_ (cw_ T k i g) k' i' ↔ (k' = k ∧ i' = i) ∨ (al_ T k' i' ∧ ¬ (k' = k + 50 ∧ i' = i)) := by
  unfold al_ cw_
  by_cases h : k' = k ∧ i' = i
  · rw [if_pos h, if_pos rfl]
    simp [h]
  · rw [if_neg h]
    by_cases h2 : k' = k + 50 ∧ i' = i
    · rw [if_pos ⟨h2.1, h2.2, rfl⟩]
      simp [h, h2]
    · rw [if_neg (fun z => h2 ⟨z.1, z.2.1⟩)]
      simp [h, h2]
/-- no local and nothing on the stack is of a kind -/
def nk_ (k : Nat) : List (Option Zv) → Bool
  | [] => true
  | some (.inr (.inr (some (k', _)))) :: r => !(k' == k) && nk_ k r
  | _ :: r => nk_ k r
theorem nk_no {k : Nat} {i : Int} : ∀ {l : List (Option Zv)}, nk_ k l = true → some (vR k i) ∉ l
  | [], _ => by simp
  | none :: r, h => by
    intro q
    rcases List.mem_cons.mp q with q | q
    · cases q
    · exact nk_no (l := r) h q
  | some (.inl x) :: r, h => by
    intro q
    rcases List.mem_cons.mp q with q | q
    · cases q
    · exact nk_no (l := r) h q
  | some (.inr (.inl x)) :: r, h => by
    intro q
    rcases List.mem_cons.mp q with q | q
    · cases q
    · exact nk_no (l := r) h q
  | some (.inr (.inr none)) :: r, h => by
    intro q
    rcases List.mem_cons.mp q with q | q
    · cases q
    · exact nk_no (l := r) h q
  | some (.inr (.inr (some (k', i')))) :: r, h => by
    simp only [nk_, Bool.and_eq_true, Bool.not_eq_true', beq_eq_false_iff_ne] at h
    intro q
    rcases List.mem_cons.mp q with q | q
    · cases q
      exact h.1 rfl
    · exact nk_no (l := r) h.2 q
theorem fv_ky {k j c k' : Nat} {lo hi x i : Int} (h : (tf_ k)[j]? = some (c, k', lo, hi)) {k2 : Nat} {i2 : Int} (e : fv_ c k' x i = vR k2 i2) : ¬ (150 ≤ k2 ∧ k2 < 154) := by
  have h1 := tf_ky k (tf_lt h) _ (List.mem_of_getElem? h)
  have h2 : k2 = k' := by
    match c, e with
    | 0, e => cases e
    | 1, e => cases e; rfl
    | 2, e => cases e; rfl
    | 3, e => cases e; rfl
    | 4, e =>
      have e : (if x = 0 then vN else vR k' i) = vR k2 i2 := e
      split at e
      · cases e
      · cases e; rfl
    | 5, e =>
      have e : (if x = 0 then vN else vR k' (x - 1)) = vR k2 i2 := e
      split at e
      · cases e
      · cases e; rfl
    | c + 6, e => cases e
  rw [h2]
  exact h1
theorem j_conv {k : Nat} {i : Int} {g : Int → Int} (hk : k = 100 ∨ k = 102 ∨ k = 103) (hfr : ¬ al_ T k i) (h0 : ¬ al_ T0 (k + 50) i) (hg : ∀ (j c k1 : Nat) (lo hi : Int), (tf_ k)[j]? = some (c, k1, lo, hi) → ∃ c2 k2 lo2 hi2, (tf_ (k + 50))[j]? = some (c2, k2, lo2, hi2) ∧ fv_ c k1 (g j) i = fv_ c2 k2 (T (k + 50) i j) i ∧ lo ≤ g j ∧ g j ≤ hi) (hls : nk_ (k + 50) ls = true) (hst : nk_ (k + 50) (st.map some) = true) (kk : J_ Y T0 P bc bs pc ls (vR k i :: st) (cw_ T k i g)) : J_ Y T0 P bc bs pc ls (vR (k + 50) i :: st) T := by
  intro l p e s m args below meth c D cA ad0 A X ad H locs cells slots lsC hc hs hR hS hB hT hL hl hln
  have hraw : al_ T (k + 50) i := ok_al (v := none) (by omega) (ok_head hL)
  obtain ⟨ids, hids, hP, hD⟩ := rp_ids hR
  have hlen : (tf_ k).length = (tf_ (k + 50)).length := by
    rcases hk with rfl | rfl | rfl <;> decide +kernel
  have hce : ∀ ad2 : Nat → Int → Nat, ce_ cA ad2 (cw_ T k i g) k i = .inr (k - 100, (tf_ k).zipIdx.map fun q => en_v ad2 (fv_ q.1.1 q.1.2.1 (g (q.2 : Int)) i)) := fun ad2 => by
    have e1 : ((tf_ k).zipIdx.map fun q => en_v ad2 (fv_ q.1.1 q.1.2.1 (cw_ T k i g k i (q.2 : Int)) i)) = (tf_ k).zipIdx.map fun q => en_v ad2 (fv_ q.1.1 q.1.2.1 (g (q.2 : Int)) i) := by
      apply List.map_congr_left
      rintro ⟨q, j⟩ _
      rw [cw_s (by omega)]
    unfold ce_
    rw [tk_no _ (by omega), e1]
    simp only [kc_]
    rw [if_pos (by omega)]
  have hcr : ce_ cA ad T (k + 50) i = .inr (k - 100, (tf_ (k + 50)).zipIdx.map fun q => en_v ad (fv_ q.1.1 q.1.2.1 (T (k + 50) i (q.2 : Int)) i)) := by
    unfold ce_
    rw [tk_no _ (by omega)]
    simp only [kc_]
    rw [if_neg (by omega), show k + 50 - 150 = k - 100 by omega]
  have had : ∀ k' i', k' < 100 ∨ al_ T k' i' → aq_ ad k i (ad (k + 50) i) k' i' = ad k' i' := aq_e (by omega) hfr
  have hraws : ∀ (j c2 k2 : Nat) (lo2 hi2 : Int), (tf_ (k + 50))[j]? = some (c2, k2, lo2, hi2) → ok_v T (fv_ c2 k2 (T (k + 50) i j) i) := fun j c2 k2 lo2 hi2 h => hT.2.2.2.1 _ _ hraw j c2 k2 lo2 hi2 h
  have hfl : ((tf_ k).zipIdx.map fun q => en_v (aq_ ad k i (ad (k + 50) i)) (fv_ q.1.1 q.1.2.1 (g (q.2 : Int)) i)) = (tf_ (k + 50)).zipIdx.map fun q => en_v ad (fv_ q.1.1 q.1.2.1 (T (k + 50) i (q.2 : Int)) i) := by
    apply List.ext_getElem?
    intro n
    rw [List.getElem?_map, List.getElem?_map, List.getElem?_zipIdx, List.getElem?_zipIdx]
    cases hn : (tf_ k)[n]? with
    | none =>
      have : (tf_ (k + 50))[n]? = none := by
        rw [List.getElem?_eq_none_iff] at hn ⊢
        omega
      rw [this]
      rfl
    | some q =>
      obtain ⟨c1, k1, lo, hi⟩ := q
      obtain ⟨c2, k2, lo2, hi2, h2, e2, -, -⟩ := hg n c1 k1 lo hi hn
      rw [h2]
      simp only [Option.map_some, Nat.zero_add]
      rw [e2, en_congr had (hraws n c2 k2 lo2 hi2 h2)]
  have hw : wd_ cA (aq_ ad k i (ad (k + 50) i)) (cw_ T k i g) (ids.map fun q => if q = (k + 50, i) then (k, i) else q) = wd_ cA ad T ids := by
    unfold wd_
    rw [List.map_map]
    apply List.map_congr_left
    rintro ⟨k', i'⟩ hm
    have ha := (hids k' i').mpr hm
    by_cases ez : (k', i') = (k + 50, i)
    · cases ez
      show (aq_ ad k i (ad (k + 50) i) (if (k + 50, i) = (k + 50, i) then (k, i) else (k + 50, i)).1 (if (k + 50, i) = (k + 50, i) then (k, i) else (k + 50, i)).2, ce_ cA _ _ (if (k + 50, i) = (k + 50, i) then (k, i) else (k + 50, i)).1 (if (k + 50, i) = (k + 50, i) then (k, i) else (k + 50, i)).2) = _
      rw [if_pos rfl, aq_s, hce, hfl, ← hcr]
    · show (aq_ ad k i (ad (k + 50) i) (if (k', i') = (k + 50, i) then (k, i) else (k', i')).1 (if (k', i') = (k + 50, i) then (k, i) else (k', i')).2, ce_ cA _ _ (if (k', i') = (k + 50, i) then (k, i) else (k', i')).1 (if (k', i') = (k + 50, i) then (k, i) else (k', i')).2) = _
      rw [if_neg ez]
      have hne : ¬ (k' = k ∧ i' = i) := fun z => hfr (by rw [← z.1, ← z.2]; exact ha)
      have hne2 : ¬ (k' = k + 50 ∧ i' = i) := fun z => ez (by rw [z.1, z.2])
      rw [ce_congr (cw_o hne hne2), ce_ad hT had ha, aq_n hne]
  have hRp : Rp_ D cA (aq_ ad k i (ad (k + 50) i)) (cw_ T k i g) A H := by
    refine ⟨ids.map fun q => if q = (k + 50, i) then (k, i) else q, fun k' i' => ?_, by rw [hw]; exact hP, by rw [hw]; exact hD⟩
    rw [al_cw, List.mem_map]
    constructor
    · rintro (⟨rfl, rfl⟩ | ⟨h1, h2⟩)
      · exact ⟨(k' + 50, i'), (hids _ _).mp hraw, by rw [if_pos rfl]⟩
      · exact ⟨(k', i'), (hids _ _).mp h1, by rw [if_neg (fun z => h2 (by cases z; exact ⟨rfl, rfl⟩))]⟩
    · rintro ⟨⟨k9, i9⟩, h1, h2⟩
      by_cases ez : (k9, i9) = (k + 50, i)
      · rw [if_pos ez] at h2
        cases h2
        exact Or.inl ⟨rfl, rfl⟩
      · rw [if_neg ez] at h2
        cases h2
        exact Or.inr ⟨(hids _ _).mpr h1, fun z => ez (by rw [z.1, z.2])⟩
  have mo : ∀ k' i', al_ T k' i' → ¬ (k' = k + 50 ∧ i' = i) → al_ (cw_ T k i g) k' i' := fun k' i' h h2 => (al_cw k' i').mpr (Or.inr ⟨h, h2⟩)
  have mov : ∀ v : Zv, ok_v T v → v ≠ vR (k + 50) i → ok_v (cw_ T k i g) v := fun v hv hne => by
    rcases v with x | x | _ | ⟨k9, i9⟩
    · exact hv
    · exact hv
    · exact trivial
    · rcases hv with h | h
      · exact Or.inl h
      · exact Or.inr (mo _ _ h (fun z => hne (by rw [z.1, z.2])))
  have hok : ok_T (cw_ T k i g) := by
    obtain ⟨a1, a2, a3, a4, a5, a6, a7, a8, a9⟩ := hT
    refine ⟨fun k' t' n' lo' hi' h i' x' hx => ?_, fun k' j' c k'' lo' hi' h i' => ?_, fun i' => ?_, fun k' i' hl' j' c k'' lo' hi' h => ?_, fun i' x' hx h => ?_, fun i' x' hx h => ?_, fun k' i' h q => ?_, fun k' i' o h q => ?_, fun i' h q => ?_⟩
    · have := ta_ge h
      rw [cw_o (fun z => by omega) (fun z => by omega)]
      exact a1 k' t' n' lo' hi' h i' x' hx
    · by_cases ez : k' = k ∧ i' = i
      · obtain ⟨rfl, rfl⟩ := ez
        obtain ⟨-, -, -, -, -, -, b1, b2⟩ := hg j' c k'' lo' hi' h
        rw [cw_s (by omega)]
        exact ⟨b1, b2⟩
      · rw [cw_n ez (by omega)]
        exact a2 k' j' c k'' lo' hi' h i'
    · rw [cw_o (fun z => by omega) (fun z => by omega)]
      exact a3 i'
    · rcases (al_cw k' i').mp hl' with ⟨rfl, rfl⟩ | ⟨h1, h2⟩
      · obtain ⟨c2, k2, lo2, hi2, h2, e2, -, -⟩ := hg j' c k'' lo' hi' h
        rw [cw_s (by omega), e2]
        refine mov _ (hraws j' c2 k2 lo2 hi2 h2) (fun z => fv_ky h2 z (by omega))
      · by_cases ez : k' = k ∧ i' = i
        · obtain ⟨rfl, rfl⟩ := ez
          exact absurd h1 hfr
        · rw [cw_o ez h2]
          exact mov _ (a4 k' i' h1 j' c k'' lo' hi' h) (fun z => fv_ky h z (by omega))
    · rw [cw_o (fun z => by omega) (fun z => by omega)] at h
      exact mo _ _ (a5 i' x' hx h) (fun z => by omega)
    · rw [cw_o (fun z => by omega) (fun z => by omega)] at h
      exact mo _ _ (a6 i' x' hx h) (fun z => by omega)
    · rcases (al_cw k' i').mp q with z | ⟨h1, -⟩
      · omega
      · exact a7 k' i' h h1
    · rcases (al_cw k' i').mp q with z | ⟨h1, h2⟩
      · have : ow_ k' = none := by
          rw [z.1]
          rcases hk with rfl | rfl | rfl <;> decide
        rw [this] at h
        cases h
      · have hoo : o = 100 ∨ o = 102 ∨ o = 103 := by
          unfold ow_ at h
          split at h
          · cases h; exact Or.inl rfl
          · split at h
            · cases h; exact Or.inr (Or.inl rfl)
            · split at h
              · cases h; exact Or.inr (Or.inr rfl)
              · cases h
        rcases a8 k' i' o h h1 with z | z
        · exact Or.inl (mo _ _ z (fun w => by omega))
        · by_cases w : o + 50 = k + 50 ∧ i' = i
          · exact Or.inl ((al_cw o i').mpr (Or.inl ⟨by omega, w.2⟩))
          · exact Or.inr (mo _ _ z w)
    · rw [cw_o (fun z => by omega) (fun z => by omega)] at h
      rcases (al_cw 190 i').mp q with z | ⟨h1, -⟩
      · omega
      · exact a9 i' h h1
  have hlsn : ∀ (j : Nat) (v : Zv), ls[j]? = some (some v) → v ≠ vR (k + 50) i := fun j v hj z => nk_no hls (i := i) (by rw [← z]; exact List.mem_of_getElem? hj)
  have hstn : ∀ v ∈ st, v ≠ vR (k + 50) i := fun v hv z => nk_no hst (i := i) (by rw [← z]; exact List.mem_map.mpr ⟨v, hv, rfl⟩)
  have hee : ∀ v, ok_v T v → en_v (aq_ ad k i (ad (k + 50) i)) v = en_v ad v := fun v hv => en_congr had hv
  have el : lp_ (aq_ ad k i (ad (k + 50) i)) 0 ls = lp_ ad 0 ls := lp_congr (fun k v hk => hee v (hL.1 k v hk))
  have es : st.map (en_v (aq_ ad k i (ad (k + 50) i))) = st.map (en_v ad) := List.map_congr_left (fun v hv => hee v ((ok_tail hL).2 v hv))
  have k2 := kk l p e s m args below meth c D cA ad0 A X (aq_ ad k i (ad (k + 50) i)) H locs cells slots lsC hc hs hRp hS ⟨fun k' i' h => mo _ _ (hB.1 k' i' h) (fun z => h0 (by rw [← z.1, ← z.2]; exact h)), fun k' i' h => by rw [had k' i' (h.imp id (hB.1 k' i'))]; exact hB.2 k' i' h⟩ hok (ok_push (Or.inr ((al_cw k i).mpr (Or.inl ⟨rfl, rfl⟩))) ⟨fun j v hj => mov v (hL.1 j v hj) (hlsn j v hj), fun v hv => mov v ((ok_tail hL).2 v hv) (hstn v hv)⟩) (by rw [el]; exact hl) hln
  have e2 : (vR k i :: st).map (en_v (aq_ ad k i (ad (k + 50) i))) = (vR (k + 50) i :: st).map (en_v ad) := by
    rw [List.map_cons, List.map_cons, es]
    show Value.ref (aq_ ad k i (ad (k + 50) i) k i) :: _ = Value.ref (ad (k + 50) i) :: _
    rw [aq_s]
  rw [e2] at k2
  exact k2
end JP
-- references into rows, casts, clones, copies of rows
section JQ
variable {Y Yc : Zm} {T0 T : Zt} {P : Zt → Option Zv → Prop} {bc bs bc' bs' : Nat} {pc : Int} {ls : Zl} {st rest : List Zv}
theorem j_castA {idx k : Nat} {mo : Option Int} {lo hi i : Int} (hp : 0 ≤ pc) (ha : ta_ k = some (1, mo, lo, hi)) (hcl : Cond.classLink Y.1 idx "[I" ∈ lw_g) (hd : decode Y.2.1 pc.toNat = .ok (.checkcast idx, 3)) (kk : J_ Y T0 P bc bs (pc + 3) ls (vR k i :: st) T) : J_ Y T0 P bc bs pc ls (vR k i :: st) T := by
  intro l p e s m args below meth c D cA ad0 A X ad H locs cells slots lsC hc hs hR hS hB hT hL hl hln
  have hal : al_ T k i := ok_al (v := none) (by have := ta_ge ha; omega) (ok_head hL)
  obtain ⟨ids, q0, hq, hids, hP, hD⟩ := rp_at hR hal
  have hw := wd_get (cA := cA) (ad := ad) (T := T) hq
  unfold ce_ at hw
  rw [ha] at hw
  have k2 := kk l p e s m args below meth c D cA ad0 A X ad H locs cells slots lsC hc hs hR hS hB hT hL hl hln
  rw [show (pc + 3).toNat = pc.toNat + 3 by omega] at k2
  exact va_castA X.1 X.2.1 X.2.2.2.2.2.2.1 (X.2.2.2.2.2.1 _ hcl) hP q0 hw (va_nm_int (X.2.2.2.2.2.2.2.1.2 0 (cA 0, .int) rfl).2) hd k2
/-- a thing is put into the rows competitions and matches, at its own number -/
theorem j_aast {k ko : Nat} {n : Option Int} {lo hi i x : Int} (hp : 0 ≤ pc) (hk : (k = 521 ∧ ko = 100) ∨ (k = 523 ∧ ko = 102)) (ha : ta_ k = some (ko / 2 - 46, n, lo, hi)) (hd : decode Y.2.1 pc.toNat = .ok (.aastore, 1)) (h1 : 0 ≤ x) (h2 : x < ln_ T k i) (hlh : lo ≤ 1 ∧ 1 ≤ hi) (kk : J_ Y T0 P bc bs (pc + 1) ls st (up_ T k i x 1)) : J_ Y T0 P bc bs pc ls (vR ko x :: vI x :: vR k i :: st) T := by
  intro l p e s m args below meth c0 D cA ad0 A X ad H locs cells slots lsC hc hs hR hS hB hT hL hl hn
  have hx : -2147483648 ≤ x ∧ x ≤ 2147483647 := ok_head (ok_tail hL)
  have hal : al_ T k i := ok_al (v := none) (by omega) (ok_head (ok_tail (ok_tail hL)))
  have halo : al_ T ko x := ok_al (v := none) (by omega) (ok_head hL)
  have hup := al_up (T := T) (k := k) (i := i) (j := x) (x := 1) (by omega)
  obtain ⟨ids, q0, hq, hids, hP, hD⟩ := rp_at hR hal
  obtain ⟨q1, hq1⟩ := List.getElem?_of_mem ((hids ko x).mp halo)
  have hw := wd_get (cA := cA) (ad := ad) (T := T) hq
  have hw1 := wd_get (cA := cA) (ad := ad) (T := T) hq1
  have hin := i3_in h1 h2 hx.2
  have hok : ok_T (up_ T k i x 1) := by
    obtain ⟨a1, a2, a3, a4, a5, a6, a7, a8, a9⟩ := hT
    have hk5 : k = 521 ∨ k = 523 := by omega
    refine ⟨fun k' t' n' lo' hi' h i' x' hx => ?_, fun k' j' c k'' lo' hi' h i' => ?_, fun i' => ?_, fun k' i' hl' j' c k'' lo' hi' h => ?_, fun i' x' hx h => ?_, fun i' x' hx h => ?_, fun k' i' h q => a7 k' i' h ((hup _ _).mp q), fun k' i' o h q => (a8 k' i' o h ((hup _ _).mp q)).imp (hup _ _).mpr (hup _ _).mpr, fun i' h q => ?_⟩
    · by_cases e : k' = k ∧ i' = i ∧ x' = x
      · obtain ⟨rfl, rfl, rfl⟩ := e
        rw [ha] at h
        cases h
        rw [up_s]
        exact hlh
      · rw [up_n e]
        exact a1 k' t' n' lo' hi' h i' x' hx
    · have := tf_lt h
      rw [up_n (fun e => by omega)]
      exact a2 k' j' c k'' lo' hi' h i'
    · rw [up_n (fun e => by omega)]
      exact a3 i'
    · have := tf_lt h
      rw [up_n (fun e => by omega)]
      exact okv_mono (fun k i => (hup k i).mpr) (a4 k' i' ((hup k' i').mp hl') j' c k'' lo' hi' h)
    · by_cases e : 521 = k ∧ i' = i ∧ x' = x
      · obtain ⟨rfl, rfl, rfl⟩ := e
        have : ko = 100 := by omega
        subst this
        exact (hup _ _).mpr halo
      · rw [up_n e] at h
        exact (hup _ _).mpr (a5 i' x' hx h)
    · by_cases e : 523 = k ∧ i' = i ∧ x' = x
      · obtain ⟨rfl, rfl, rfl⟩ := e
        have : ko = 102 := by omega
        subst this
        exact (hup _ _).mpr halo
      · rw [up_n e] at h
        exact (hup _ _).mpr (a6 i' x' hx h)
    · rw [up_n (fun e => by omega)] at h
      exact a9 i' h ((hup _ _).mp q)
  have e2 : (wd_ cA ad T ids).set q0 (ad k i, ce_ cA ad (up_ T k i x 1) k i) = wd_ cA ad (up_ T k i x 1) ids := wd_set hD hq (fun k' i' h => up_o h)
  have fin : ∀ (H1 : Heap) (locs1 : List Loc), va_P D vwCl (wd_ cA ad (up_ T k i x 1) ids) H1 → va_D A (wd_ cA ad (up_ T k i x 1) ids) → va_S A s.heap H1 locs1 → W p l e Y.2.2.2.2 s m args below meth c0 H1 locs1 cells slots (MQ below (Qc_ D cA ad0 T0 A P) args s Y.2.2.2.2.cells Y.2.2.2.2.slots A) (F0 m (pc.toNat + 1) lsC (st.map (en_v ad))) := fun H1 locs1 hP1 hD1 hS1 => by
    have k2 := kk l p e s m args below meth c0 D cA ad0 A X ad H1 locs1 cells slots lsC hc hs ⟨ids, fun k i => (hup k i).trans (hids k i), hP1, hD1⟩ hS1 ⟨fun k i h => (hup k i).mpr (hB.1 k i h), hB.2⟩ hok ⟨fun k9 v h => okv_mono (fun k i => (hup k i).mpr) (hL.1 k9 v h), fun v h => okv_mono (fun k i => (hup k i).mpr) ((ok_tail (ok_tail (ok_tail hL))).2 v h)⟩ hl hn
    rw [show (pc + 1).toNat = pc.toNat + 1 by omega] at k2
    exact k2
  have hcl := i3_cl h1 hx.2
  have hxn : (Int32.ofInt x).toNatClampNeg = x.toNat := by omega
  rcases hk with ⟨rfl, rfl⟩ | ⟨rfl, rfl⟩
  · have hL4 : ∀ T9 : Zt, ce_ cA ad T9 521 i = .inl (cA 3, (ln_ T9 521 i).toNat, .inr (.inr (.inr (.inr fun x => if T9 521 i (x : Int) = 0 then none else some (ad 100 x))))) := fun T9 => by
      unfold ce_
      rw [ta_521]
      rfl
    rw [hL4] at hw e2
    rw [show (100 : Nat) = 100 + 0 from rfl, ce_ob (by omega)] at hw1
    refine va_astq X.1 X.2.1 X.2.2.2.2.2.2.2.1 hP hD hS q0 3 q1 0 hw rfl hw1 vi_0 hin hd (fun H1 locs1 hP1 hD1 hS1 => ?_)
    have ef : va_up (fun x : Nat => if T 521 i (x : Int) = 0 then none else some (ad 100 x)) (Int32.ofInt x).toNatClampNeg (some (ad (100 + 0) x)) = fun z : Nat => if up_ T 521 i x 1 521 i (z : Int) = 0 then none else some (ad 100 z) := by
      funext z
      unfold va_up
      by_cases ez : z = (Int32.ofInt x).toNatClampNeg
      · have : (z : Int) = x := by omega
        rw [if_pos ez, this, up_s, if_neg (by decide)]
      · rw [if_neg ez, up_n (fun q => ez (by omega))]
    rw [ef, ← ln_up (T := T) (k := 521) (i := i) (x := 1) h1, e2] at hP1 hD1
    exact fin H1 locs1 hP1 hD1 hS1
  · have hL4 : ∀ T9 : Zt, ce_ cA ad T9 523 i = .inl (cA 4, (ln_ T9 523 i).toNat, .inr (.inr (.inr (.inr fun x => if T9 523 i (x : Int) = 0 then none else some (ad 102 x))))) := fun T9 => by
      unfold ce_
      rw [ta_523]
      rfl
    rw [hL4] at hw e2
    rw [show (102 : Nat) = 100 + 2 from rfl, ce_ob (by omega)] at hw1
    refine va_astq X.1 X.2.1 X.2.2.2.2.2.2.2.1 hP hD hS q0 4 q1 2 hw rfl hw1 vi_2 hin hd (fun H1 locs1 hP1 hD1 hS1 => ?_)
    have ef : va_up (fun x : Nat => if T 523 i (x : Int) = 0 then none else some (ad 102 x)) (Int32.ofInt x).toNatClampNeg (some (ad (100 + 2) x)) = fun z : Nat => if up_ T 523 i x 1 523 i (z : Int) = 0 then none else some (ad 102 z) := by
      funext z
      unfold va_up
      by_cases ez : z = (Int32.ofInt x).toNatClampNeg
      · have : (z : Int) = x := by omega
        rw [if_pos ez, this, up_s, if_neg (by decide)]
      · rw [if_neg ez, up_n (fun q => ez (by omega))]
    rw [ef, ← ln_up (T := T) (k := 523) (i := i) (x := 1) h1, e2] at hP1 hD1
    exact fin H1 locs1 hP1 hD1 hS1
end JQ
theorem im_ev (n : Nat) : im_ (2 * n) = false := by
  unfold im_
  simp only [Bool.or_eq_false_iff, beq_eq_false_iff_ne]
  omega
section JR2
variable {Y Yc : Zm} {T0 T : Zt} {P : Zt → Option Zv → Prop} {bc bs bc' bs' : Nat} {pc : Int} {ls : Zl} {st rest : List Zv}
theorem j_mono (h1 : bc' ≤ bc) (h2 : bs' ≤ bs) (k : J_ Y T0 P bc' bs' pc ls st T) : J_ Y T0 P bc bs pc ls st T := by
  intro l p e s m args below meth c D cA ad0 A X ad H locs cells slots lsC hc hs hR hS hB hT hL hl hln
  exact k l p e s m args below meth c D cA ad0 A X ad H locs cells slots lsC (by omega) (by omega) hR hS hB hT hL hl hln
theorem nv_fr {U : Zt} {n : Int} (h : U = nv_ T n) : fr_ [(190, []), (191, [0])] T U := fun k i j w => by
  subst h
  unfold nv_
  rw [up_n (fun z => by rw [z.1, z.2.2] at w; exact absurd w (by decide)), nu_o (fun z => by rw [z.1] at w; simp [fw_] at w)]
theorem nv_t9 {U : Zt} {n : Int} (h : U = nv_ T n) : U 191 0 0 = T 191 0 0 + 1 := by rw [h]; exact nv_9
theorem nv_tl {U : Zt} {n : Int} (h : U = nv_ T n) : U 190 (T 191 0 0) (-2) = n := by rw [h, nv_s, nu_l]
theorem nv_to {U : Zt} {n : Int} (h : U = nv_ T n) (x j : Int) (hx : x ≠ T 191 0 0) : U 190 x j = T 190 x j := by rw [h, nv_o (fun z => hx z.2) (by decide)]
theorem nu_fr {U : Zt} {k : Nat} {i n : Int} {f : Int → Int} (h : U = nu_ T k i n f) : fr_ [(k, [])] T U := fun k' i' j w => by
  subst h
  rw [nu_o (fun z => by rw [z.1] at w; simp [fw_] at w)]
theorem nu_tz {U : Zt} {k : Nat} {i n : Int} (h : U = nu_ T k i n (fun _ => 0)) (j : Int) (hj : 0 ≤ j) : U k i j = 0 := by rw [h, nu_p hj]
theorem nu_to {U : Zt} {k : Nat} {i n : Int} {f : Int → Int} (h : U = nu_ T k i n f) (k' : Nat) (i' j : Int) (hx : ¬ (k' = k ∧ i' = i)) : U k' i' j = T k' i' j := by rw [h, nu_o hx]
theorem nu_tv {U : Zt} {k : Nat} {i n : Int} {f : Int → Int} (h : U = nu_ T k i n f) : U k i (-1) = 1 := by rw [h, nu_s, if_pos rfl]
theorem fv5_ {k' : Nat} {x i : Int} (h : 0 ≤ x) : fv_ 5 k' (x + 1) i = vR k' x := by
  show (if x + 1 = 0 then vN else vR k' (x + 1 - 1)) = _
  rw [if_neg (by omega), show x + 1 - 1 = x by omega]
theorem nf_0 (i : Int) (ad : Nat → Int → Nat) (j : Nat) (h : j < 9) : defaultValue (tyX0 j) = vp_V (rw_fs 0 ad i) j := by
  have e : rw_fs 0 ad i = [.int 0, .null, .null, .null, .null, .int 0, .int 0, .int 0, .int 0] := rfl
  have e2 : ∀ j, j < 9 → defaultValue (tyX0 j) = vp_V [.int 0, .null, .null, .null, .null, .int 0, .int 0, .int 0, .int 0] j := by decide +kernel
  rw [e]
  exact e2 j h
theorem nf_2 (i : Int) (ad : Nat → Int → Nat) (j : Nat) (h : j < 11) : defaultValue (tyX2 j) = vp_V (rw_fs 2 ad i) j := by
  have e : rw_fs 2 ad i = [.null, .int 0, .int 0, .int 0, .int 0, .int 0, .int 0, .int 0, .null, .null, .null] := rfl
  have e2 : ∀ j, j < 11 → defaultValue (tyX2 j) = vp_V [.null, .int 0, .int 0, .int 0, .int 0, .int 0, .int 0, .int 0, .null, .null, .null] j := by decide +kernel
  rw [e]
  exact e2 j h
theorem nf_3 (i : Int) (ad : Nat → Int → Nat) (j : Nat) (h : j < 18) : defaultValue (tyX3 j) = vp_V (rw_fs 3 ad i) j := by
  have e : rw_fs 3 ad i = [.null, .null, .null, .int 0, .int 0, .int 0, .null, .null, .null, .null, .null, .null, .null, .null, .null, .int 0, .null, .int 0] := rfl
  have e2 : ∀ j, j < 18 → defaultValue (tyX3 j) = vp_V [.null, .null, .null, .int 0, .int 0, .int 0, .null, .null, .null, .null, .null, .null, .null, .null, .null, .int 0, .null, .int 0] j := by decide +kernel
  rw [e]
  exact e2 j h
/-- a part of a row is copied into another -/
def cp_ (T : Zt) (a b n : Int) : Zt := fun k i j => if k = 190 ∧ i = b ∧ 0 ≤ j ∧ j < n then T 190 a j else T k i j
theorem cp_n {a b n : Int} {k : Nat} {i j : Int} (h : ¬ (k = 190 ∧ i = b ∧ 0 ≤ j ∧ j < n)) : cp_ T a b n k i j = T k i j := by
  unfold cp_
  rw [if_neg h]
theorem al_cp {a b n : Int} (k : Nat) (i : Int) : al_ (cp_ T a b n) k i ↔ al_ T k i := by
  unfold al_
  rw [cp_n (fun z => by omega)]
theorem ok_cp (hT : ok_T T) {a b n : Int} : ok_T (cp_ T a b n) := by
  obtain ⟨a1, a2, a3, a4, a5, a6, a7, a8, a9⟩ := hT
  refine ⟨fun k' t' n' lo' hi' h i' x' hx => ?_, fun k' j' c k'' lo' hi' h i' => ?_, fun i' => ?_, fun k' i' hl' j' c k'' lo' hi' h => ?_, fun i' x' hx h => ?_, fun i' x' hx h => ?_, fun k' i' h q => a7 k' i' h ((al_cp _ _).mp q), fun k' i' o h q => (a8 k' i' o h ((al_cp _ _).mp q)).imp (al_cp _ _).mpr (al_cp _ _).mpr, fun i' h q => ?_⟩
  · by_cases e : k' = 190 ∧ i' = b ∧ 0 ≤ x' ∧ x' < n
    · obtain ⟨rfl, rfl, -⟩ := e
      unfold cp_
      split
      · exact a1 _ _ _ _ _ h a x' hx
      · exact a1 _ _ _ _ _ h i' x' hx
    · rw [cp_n e]
      exact a1 k' t' n' lo' hi' h i' x' hx
  · have := tf_lt h
    rw [cp_n (fun e => by omega)]
    exact a2 k' j' c k'' lo' hi' h i'
  · rw [cp_n (fun e => by omega)]
    exact a3 i'
  · have := tf_lt h
    rw [cp_n (fun e => by omega)]
    exact okv_mono (fun k i => (al_cp k i).mpr) (a4 k' i' ((al_cp k' i').mp hl') j' c k'' lo' hi' h)
  · rw [cp_n (fun e => by omega)] at h
    exact (al_cp _ _).mpr (a5 i' x' hx h)
  · rw [cp_n (fun e => by omega)] at h
    exact (al_cp _ _).mpr (a6 i' x' hx h)
  · rw [cp_n (fun e => by omega)] at h
    exact a9 i' h ((al_cp _ _).mp q)
theorem cp_fr {U : Zt} {a b n : Int} (h : U = cp_ T a b n) : fr_ [(190, [])] T U := fun k i j w => by
  subst h
  rw [cp_n (fun z => by rw [z.1] at w; simp [fw_] at w)]
theorem cp_l {U : Zt} {a b n : Int} (h : U = cp_ T a b n) (x : Int) : U 190 x (-2) = T 190 x (-2) := by rw [h, cp_n (fun z => by omega)]
theorem cp_o {U : Zt} {a b n : Int} (h : U = cp_ T a b n) (x j : Int) (hx : x ≠ b) : U 190 x j = T 190 x j := by rw [h, cp_n (fun z => hx z.2.1)]
theorem j_acp {idx : Nat} {a b n : Int} (hp : 0 ≤ pc) (h0 : 0 ≤ n) (h1 : n ≤ T 190 a (-2)) (h2 : n ≤ T 190 b (-2)) (hml : Cond.methodLink Y.1 idx arraycopyName ∈ lw_g) (hna : Cond.native arraycopyName ∈ lw_g) (hst : Cond.static arraycopyName ∈ lw_g) (hin : Cond.initialized "java/lang/System" ∈ lw_g) (hd : decode Y.2.1 pc.toNat = .ok (.invokestatic idx, 3)) (hf : 1 ≤ Y.2.2.2.2.frames) (hlo : 8 + (nativeFrameWords "java/lang/System" "arraycopy" 5 + 11) ≤ Y.2.2.2.2.locals) (hrest : st.length ≤ 4) (kk : J_ Y T0 P bc bs (pc + 3) ls st (cp_ T a b n)) : J_ Y T0 P bc bs pc ls (vI n :: vI 0 :: vR 190 b :: vI 0 :: vR 190 a :: st) T := by
  intro l p e s m args below meth c D cA ad0 A X ad H locs cells slots lsC hc hs hR hS hB hT hL hl hln
  have hb : al_ T 190 b := ok_al (v := none) (by omega) (ok_head (ok_tail (ok_tail hL)))
  have ha : al_ T 190 a := ok_al (v := none) (by omega) (ok_head (ok_tail (ok_tail (ok_tail (ok_tail hL)))))
  have hn : -2147483648 ≤ n ∧ n ≤ 2147483647 := ok_head hL
  obtain ⟨ids, q0, hq, hids, hP, hD⟩ := rp_at hR ha
  obtain ⟨q1, hq1⟩ := List.getElem?_of_mem ((hids 190 b).mp hb)
  have w := X.2.2.2.2.2.1
  have sm := en_sum (ad := ad) st
  have hwa := wd_get (cA := cA) (ad := ad) (T := T) hq
  rw [ce_i (n := T 190 a (-2)) ta_190 (Or.inl ⟨rfl, rfl⟩)] at hwa
  have hwb := wd_get (cA := cA) (ad := ad) (T := T) hq1
  rw [ce_i (n := T 190 b (-2)) ta_190 (Or.inl ⟨rfl, rfl⟩)] at hwb
  have hcl := i3_cl h0 hn.2
  have hin2 := i3_in h0 (show n < n + 1 by omega) hn.2
  have z0 : (0 : Int32).toNatClampNeg = 0 := by decide
  have e2 : (wd_ cA ad T ids).set q1 (ad 190 b, ce_ cA ad (cp_ T a b n) 190 b) = wd_ cA ad (cp_ T a b n) ids := by
    refine wd_set hD hq1 (fun k' i' h => ?_)
    funext j
    exact cp_n (fun z => h (by rw [z.1, z.2.1]))
  rw [ce_i (n := T 190 b (-2)) ta_190 (Or.inl ⟨rfl, by rw [cp_n (fun z => by omega)]⟩)] at e2
  refine va_copyi (n := Int32.ofInt n) (sp := 0) (dp := 0) (ty := .int) X.1 X.2.1 (X.2.2.1.trans hl.1.symm) X.2.2.2.2.2.2.1 (w _ hml) (w _ hna) (w _ hst) (w _ hin) X.2.2.2.2.2.2.2.1 hP hD hS q0 q1 0 0 hwa hwb rfl rfl rfl (by decide) (by decide) (fun z => hin2 (Or.inl z)) (by rw [z0]; omega) (by rw [z0]; omega) (fun _ _ => rfl) hf (by omega) hd (fun H1 locs1 hP1 hD1 hS1 => ?_)
  have ef : va_cpy (fun x : Nat => Int32.ofInt (T 190 a (x : Int))) (fun x : Nat => Int32.ofInt (T 190 b (x : Int))) (0 : Int32).toNatClampNeg (0 : Int32).toNatClampNeg (Int32.ofInt n).toNatClampNeg = fun x : Nat => Int32.ofInt (cp_ T a b n 190 b (x : Int)) := by
    funext x
    unfold va_cpy
    rw [z0]
    by_cases hx : (x : Int) < n
    · rw [if_pos (by omega)]
      unfold cp_
      rw [if_pos ⟨rfl, rfl, by omega, hx⟩, show 0 + (x - 0) = x by omega]
    · rw [if_neg (by omega), cp_n (fun z => hx z.2.2.2)]
  rw [ef, e2] at hP1 hD1
  have k2 := kk l p e s m args below meth c D cA ad0 A X ad H1 locs1 cells slots lsC hc hs ⟨ids, fun k i => (al_cp k i).trans (hids k i), hP1, hD1⟩ hS1 ⟨fun k i h => (al_cp k i).mpr (hB.1 k i h), hB.2⟩ (ok_cp hT) ⟨fun k9 v h => okv_mono (fun k i => (al_cp k i).mpr) (hL.1 k9 v h), fun v h => okv_mono (fun k i => (al_cp k i).mpr) ((ok_tail (ok_tail (ok_tail (ok_tail (ok_tail hL))))).2 v h)⟩ hl hln
  rw [show (pc + 3).toNat = pc.toNat + 3 by omega] at k2
  exact k2
end JR2
abbrev cJ7_copyOf_59c91 : ByteArray := prog_21_method_123_code
def yJ7_copyOf_59c91 : MethodName := ⟨RJ7, "copyOf", "([II)[I"⟩
def zJ7_copyOf_59c91 (sl : Nat) : Zm := (RJ7, cJ7_copyOf_59c91, 3, (some (.array .int)), { frames := 1, cells := 1, slots := 2 * sl, locals := 70 })
/-- only what has the index p has changed, rows of any length aside -/
def oq_ (T T1 : Zt) (p : Int) : Prop := ∀ k i j, i ≠ p → k ≠ 190 → k ≠ 191 → T1 k i j = T k i j
theorem oq_r {T : Zt} {p : Int} : oq_ T T p := fun _ _ _ _ _ _ => rfl
theorem oq_u {T T1 T2 : Zt} {p j v : Int} {k : Nat} (h : oq_ T T1 p) (e : T2 = up_ T1 k p j v) : oq_ T T2 p := fun k' i j' hi a b => (up_g e (fun q => hi q.2.1)).trans (h k' i j' hi a b)
theorem oq_i {T T1 T2 : Zt} {p : Int} (h : oq_ T T1 p) (g : oi_ T1 T2 p) : oq_ T T2 p := fun k i j hi a b => (g k i j hi).trans (h k i j hi a b)
theorem oq_t {T T1 T2 : Zt} {p : Int} (h : oq_ T T1 p) (g : oq_ T1 T2 p) : oq_ T T2 p := fun k i j hi a b => (g k i j hi a b).trans (h k i j hi a b)
theorem oq_9 {T T1 T2 : Zt} {p : Int} (h : oq_ T T1 p) (g : fr_ [(190, []), (191, [0])] T1 T2) : oq_ T T2 p := fun k i j hi a b => (g k i j (by simp [fw_, a, b])).trans (h k i j hi a b)
theorem oq_1 {T T1 T2 : Zt} {p : Int} (h : oq_ T T1 p) (g : fr_ [(190, [])] T1 T2) : oq_ T T2 p := oq_9 h (fr_s g rfl)
/-- the lengths that a log has -/
def lz_ (x : Int) : Prop := x = 16 ∨ x = 32 ∨ x = 64 ∨ x = 128 ∨ x = 256 ∨ x = 512 ∨ x = 1024 ∨ x = 2048
theorem lz_b {x : Int} (h : lz_ x) : 16 ≤ x ∧ x ≤ 2048 := by unfold lz_ at h; omega
theorem lz_h {x : Int} (h : lz_ x) (g : x < 2048) : x ≤ 1024 := by unfold lz_ at h; omega
theorem lz_d {x : Int} (h : lz_ x) (g : x < 2048) : lz_ (2 * x) := by unfold lz_ at h ⊢; omega
theorem oq_w {T T1 T2 : Zt} {p i j v : Int} (h : oq_ T T1 p) (e : T2 = up_ T1 190 i j v) : oq_ T T2 p := fun k' i' j' hi a b => (up_g e (fun q => a q.1)).trans (h k' i' j' hi a b)
abbrev cX3_writeRow : ByteArray := prog_5_method_31_code
def yX3_writeRow : MethodName := ⟨RX3, "writeRow", "([IIIIII)V"⟩
def zX3_writeRow : Zm := (RX3, cX3_writeRow, 6, none, { frames := 0, cells := 0, slots := 0, locals := 0 })
abbrev cX3_keepRow : ByteArray := prog_5_method_29_code
def yX3_keepRow : MethodName := ⟨RX3, "keepRow", "(IIII)V"⟩
def zX3_keepRow : Zm := (RX3, cX3_keepRow, 5, none, { frames := 2, cells := 1, slots := 2048, locals := 92 })
set_option maxRecDepth 100000 in
theorem cl_X3_161 : cs_ RX3 161 yX3_writeRow zX3_writeRow 6 := ⟨gi_S (lwq_5 (dqc_m (dqc_m (dqc_m (dqc_m (dqa_m (dqa_m (List.mem_of_getElem? (i := 2) rfl))))))) rfl : Cond.methodLink RX3 161 yX3_writeRow ∈ lw_g) (lwq_5 (dqc_m (dqc_m (dqc_m (dqc_m (dqa_m (dqa_m (List.mem_of_getElem? (i := 3) rfl))))))) rfl : Cond.static yX3_writeRow ∈ lw_g) (lwq_1 (dqa_m (dqa_m (List.mem_of_getElem? (i := 2) rfl))) rfl : Cond.initialized yX3_writeRow.cls ∈ lw_g) (lwq_5 (dqc_m (dqc_m (dqc_m (dqc_m (dqa_m (dqa_m (List.mem_of_getElem? (i := 4) rfl))))))) rfl : Cond.code yX3_writeRow cX3_writeRow 6 none ∈ lw_g), ⟨by decide, by decide, by decide +kernel⟩⟩
set_option maxRecDepth 100000 in
theorem cl_X3_157 (sl : Nat) : cs_ RX3 157 yJ7_copyOf_59c91 (zJ7_copyOf_59c91 sl) 2 := ⟨gi_S (lwq_5 (dqc_m (dqc_m (dqc_m (dqc_m (dqa_m (List.mem_of_getElem? (i := 1) rfl)))))) rfl : Cond.methodLink RX3 157 yJ7_copyOf_59c91 ∈ lw_g) (lwq_5 (dqc_m (dqc_m (dqc_m (dqc_m (dqa_m (List.mem_of_getElem? (i := 2) rfl)))))) rfl : Cond.static yJ7_copyOf_59c91 ∈ lw_g) (lwq_1 (List.mem_of_getElem? (i := 7) rfl) rfl : Cond.initialized yJ7_copyOf_59c91.cls ∈ lw_g) (lwq_5 (dqc_m (dqc_m (dqc_m (dqc_m (dqa_m (List.mem_of_getElem? (i := 3) rfl)))))) rfl : Cond.code yJ7_copyOf_59c91 cJ7_copyOf_59c91 3 (some (.array .int)) ∈ lw_g), ⟨by decide, by decide, by decide +kernel⟩⟩
theorem fr5_X3_36 : fr5_ RX3 36 3 14 := ⟨_, _, _, rfl, by decide, by decide, (lwq_4 (dqc_m (dqc_m (dqc_m (dqc_m (dqc_m (dqc_m (dqa_m (dqa_m (List.mem_of_getElem? (i := 1) rfl))))))))) rfl : Cond.fieldLink RX3 36 _ _ _ ∈ lw_g), rfl, fun a => ⟨.array .int, by decide +kernel, rfl, rfl⟩⟩
def zX3_keepRow0 : Zm := (RX3, cX3_keepRow, 5, none, { frames := 2, cells := 0, slots := 0, locals := 92 })
abbrev cX3_putAside : ByteArray := prog_5_method_30_code
def yX3_putAside : MethodName := ⟨RX3, "putAside", "(IIII)V"⟩
def zX3_putAside0 : Zm := (RX3, cX3_putAside, 5, none, { frames := 2, cells := 0, slots := 0, locals := 92 })
def zX3_putAsideD (sl : Nat) : Zm := (RX3, cX3_putAside, 5, none, { frames := 2, cells := 1, slots := 2 * sl, locals := 92 })
theorem fr5_X3_39 : fr5_ RX3 39 3 16 := ⟨_, _, _, rfl, by decide, by decide, (lwq_4 (dqc_m (dqc_m (dqc_m (dqc_m (dqc_m (dqc_m (dqa_m (dqa_m (List.mem_of_getElem? (i := 5) rfl))))))))) rfl : Cond.fieldLink RX3 39 _ _ _ ∈ lw_g), rfl, fun a => ⟨.array .int, by decide +kernel, rfl, rfl⟩⟩
