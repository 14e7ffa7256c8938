abbrev cX0_fixtureCount : ByteArray := prog_2_method_4_code
def yX0_fixtureCount : MethodName := ⟨RX0, "fixtureCount", "()I"⟩
def zX0_fixtureCount : Zm := (RX0, cX0_fixtureCount, 1, (some .int), { frames := 0, cells := 0, slots := 0, locals := 0 })
abbrev cX6_schedule : ByteArray := prog_8_method_2_code
def yX6_schedule : MethodName := ⟨RX6, "schedule", "(LSportsHouse$Competition;I)V"⟩
def zX6_schedule : Zm := (RX6, cX6_schedule, 7, none, { frames := 4, cells := 792, slots := 8976, locals := 112 })
set_option maxRecDepth 100000 in
theorem cl_X6_70 : cv_ RX6 70 yX6_addRound zX6_addRound 6 5 := ⟨gi_V (lwq_3 (dqc_m (dqc_m (dqc_m (dqc_m (dqc_m (dqc_m (dqa_m (dqa_m (List.mem_of_getElem? (i := 5) rfl))))))))) rfl : Cond.methodLink RX6 70 yX6_addRound ∈ lw_g) (lwq_3 (dqc_m (dqc_m (dqc_m (dqc_m (dqc_m (dqc_m (dqa_m (dqa_m (List.mem_of_getElem? (i := 7) rfl))))))))) rfl : Cond.instanceMethod yX6_addRound ∈ lw_g) (lw_sel 120 rfl : Cond.selects yX6_addRound.cls yX6_addRound yX6_addRound ∈ lw_g) (lwq_1 (List.mem_of_getElem? (i := 4) rfl) rfl : Cond.initialized yX6_addRound.cls ∈ lw_g) (lwq_3 (dqc_m (dqc_m (dqc_m (dqc_m (dqc_m (dqc_m (dqa_m (dqa_m (dqa_m (List.mem_of_getElem? (i := 0) rfl)))))))))) rfl : Cond.code yX6_addRound cX6_addRound 12 none ∈ lw_g), ⟨nmh_6.1, nmh_6.2, pdq_35⟩, ⟨_, _, rfl⟩⟩
