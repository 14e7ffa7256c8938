abbrev cX10_isBelow : ByteArray := prog_1_method_51_code
def yX10_isBelow : MethodName := ⟨RX10, "isBelow", "(II)Z"⟩
theorem dX10_isBelow_0 : decode cX10_isBelow 0 = .ok (.iload_n 0, 1) := by decide +kernel
theorem dX10_isBelow_1 : decode cX10_isBelow 1 = .ok (.ifCond .lt 12, 3) := by decide +kernel
theorem dX10_isBelow_13 : decode cX10_isBelow 13 = .ok (.iconst 0, 1) := by decide +kernel
theorem dX10_isBelow_14 : decode cX10_isBelow 14 = .ok (.ireturn, 1) := by decide +kernel
theorem dX10_isBelow_4 : decode cX10_isBelow 4 = .ok (.iload_n 0, 1) := by decide +kernel
theorem dX10_isBelow_5 : decode cX10_isBelow 5 = .ok (.iload_n 1, 1) := by decide +kernel
theorem dX10_isBelow_6 : decode cX10_isBelow 6 = .ok (.if_icmp .ge 7, 3) := by decide +kernel
theorem dX10_isBelow_9 : decode cX10_isBelow 9 = .ok (.iconst 1, 1) := by decide +kernel
theorem dX10_isBelow_10 : decode cX10_isBelow 10 = .ok (.goto 4, 3) := by decide +kernel
def sp_X10_isBelow (na : Int32) (nb : Int32) : Int32 := if na < 0 then 0 else if nb ≤ na then 0 else 1
set_option maxHeartbeats 4000000 in
set_option maxRecDepth 100000 in
theorem ct_X10_isBelow (l : Launch) (dC : Nat → ClassId) (dI : Nat → Nat → Nat)  (sz : Nat) (na : Int32) (nb : Int32) : Met l yX10_isBelow (.code yX10_isBelow cX10_isBelow 2 (some .boolean) :: lw_g) ({ frames := 0, cells := 0, slots := 0, locals := 0 }) (ro_P dC dI [] [] sz [.int na, .int nb]) (ri_Q (sp_X10_isBelow na nb) (va_A [] sz)) 0 0 (va_A [] sz) := by
  refine ro_entry (by decide) (Nat.le_of_ble_eq_true rfl) ?_
  intro p e s m below meth c ls hx hb hr hlocks ht hown hin hml hsz hP hK hD hE hl
  subst hsz
  have hS : va_S (va_A [] s.heap.size) s.heap s.heap [] := va_S.rf
  have hA : ∀ q, s.heap.size ≤ q → va_A [] s.heap.size q := fun q h => Or.inr h
  have hl : lv_has ls 2 [(0, .int na), (1, .int nb)] := hl
  have hown : s.vm.findClass RX10 = some m.cls := hown
  refine lv_iload_n hx hb dX10_isBelow_0 rfl (lv_at hl 0 rfl) ?_
  refine lv_if_lt (tgt := 13) hx hb dX10_isBelow_1 (by decide) (fun c1 => ?_) (fun c1 => ?_)
  · refine lv_iconst (v := 0) hx hb dX10_isBelow_13 (by decide) ?_
    exact W.zret (ty := .boolean) hx hb hr (by decide) (fun t ht9 hW => ⟨⟨_, (), rfl, (by unfold sp_X10_isBelow; rw [if_pos c1]), trivial⟩, hS.F ht9⟩) hS.2.2 dX10_isBelow_14
  · refine lv_iload_n hx hb dX10_isBelow_4 rfl (lv_at hl 0 rfl) ?_
    refine lv_iload_n hx hb dX10_isBelow_5 rfl (lv_at hl 1 rfl) ?_
    refine lv_icmp_ge (tgt := 13) hx hb dX10_isBelow_6 (by decide) (fun c2 => ?_) (fun c2 => ?_)
    · refine lv_iconst (v := 0) hx hb dX10_isBelow_13 (by decide) ?_
      exact W.zret (ty := .boolean) hx hb hr (by decide) (fun t ht9 hW => ⟨⟨_, (), rfl, (by unfold sp_X10_isBelow; rw [if_neg c1, if_pos c2]), trivial⟩, hS.F ht9⟩) hS.2.2 dX10_isBelow_14
    · refine lv_iconst (v := 1) hx hb dX10_isBelow_9 (by decide) ?_
      refine lv_goto (tgt := 14) hx hb dX10_isBelow_10 (by decide) ?_
      exact W.zret (ty := .boolean) hx hb hr (by decide) (fun t ht9 hW => ⟨⟨_, (), rfl, (by unfold sp_X10_isBelow; rw [if_neg c1, if_neg c2]), trivial⟩, hS.F ht9⟩) hS.2.2 dX10_isBelow_14
theorem sp_below0 (x : Int32) : sp_X10_isBelow x 0 = 0 := by
  unfold sp_X10_isBelow
  split
  · rfl
  · rename_i h
    rw [if_pos (Int32.not_lt.mp h)]
abbrev cX10_isDay : ByteArray := prog_1_method_49_code
def yX10_isDay : MethodName := ⟨RX10, "isDay", "(I)Z"⟩
theorem dX10_isDay_0 : decode cX10_isDay 0 = .ok (.iload_n 0, 1) := by decide +kernel
theorem dX10_isDay_1 : decode cX10_isDay 1 = .ok (.ifCond .lt 14, 3) := by decide +kernel
theorem dX10_isDay_15 : decode cX10_isDay 15 = .ok (.iconst 0, 1) := by decide +kernel
theorem dX10_isDay_16 : decode cX10_isDay 16 = .ok (.ireturn, 1) := by decide +kernel
theorem dX10_isDay_4 : decode cX10_isDay 4 = .ok (.iload_n 0, 1) := by decide +kernel
theorem dX10_isDay_5 : decode cX10_isDay 5 = .ok (.sipush 999, 3) := by decide +kernel
theorem dX10_isDay_8 : decode cX10_isDay 8 = .ok (.if_icmp .gt 7, 3) := by decide +kernel
theorem dX10_isDay_11 : decode cX10_isDay 11 = .ok (.iconst 1, 1) := by decide +kernel
theorem dX10_isDay_12 : decode cX10_isDay 12 = .ok (.goto 4, 3) := by decide +kernel
def sp_X10_isDay (na : Int32) : Int32 := if na < 0 then 0 else if 999 < na then 0 else 1
set_option maxHeartbeats 4000000 in
set_option maxRecDepth 100000 in
theorem ct_X10_isDay (l : Launch) (dC : Nat → ClassId) (dI : Nat → Nat → Nat)  (sz : Nat) (na : Int32) : Met l yX10_isDay (.code yX10_isDay cX10_isDay 1 (some .boolean) :: lw_g) ({ frames := 0, cells := 0, slots := 0, locals := 0 }) (ro_P dC dI [] [] sz [.int na]) (ri_Q (sp_X10_isDay na) (va_A [] sz)) 0 0 (va_A [] sz) := by
  refine ro_entry (by decide) (Nat.le_of_ble_eq_true rfl) ?_
  intro p e s m below meth c ls hx hb hr hlocks ht hown hin hml hsz hP hK hD hE hl
  subst hsz
  have hS : va_S (va_A [] s.heap.size) s.heap s.heap [] := va_S.rf
  have hA : ∀ q, s.heap.size ≤ q → va_A [] s.heap.size q := fun q h => Or.inr h
  have hl : lv_has ls 1 [(0, .int na)] := hl
  have hown : s.vm.findClass RX10 = some m.cls := hown
  refine lv_iload_n hx hb dX10_isDay_0 rfl (lv_at hl 0 rfl) ?_
  refine lv_if_lt (tgt := 15) hx hb dX10_isDay_1 (by decide) (fun c1 => ?_) (fun c1 => ?_)
  · refine lv_iconst (v := 0) hx hb dX10_isDay_15 (by decide) ?_
    exact W.zret (ty := .boolean) hx hb hr (by decide) (fun t ht9 hW => ⟨⟨_, (), rfl, (by unfold sp_X10_isDay; rw [if_pos c1]), trivial⟩, hS.F ht9⟩) hS.2.2 dX10_isDay_16
  · refine lv_iload_n hx hb dX10_isDay_4 rfl (lv_at hl 0 rfl) ?_
    refine lv_sipush (v := 999) hx hb dX10_isDay_5 (by decide) ?_
    refine lv_icmp_gt (tgt := 15) hx hb dX10_isDay_8 (by decide) (fun c2 => ?_) (fun c2 => ?_)
    · refine lv_iconst (v := 0) hx hb dX10_isDay_15 (by decide) ?_
      exact W.zret (ty := .boolean) hx hb hr (by decide) (fun t ht9 hW => ⟨⟨_, (), rfl, (by unfold sp_X10_isDay; rw [if_neg c1, if_pos c2]), trivial⟩, hS.F ht9⟩) hS.2.2 dX10_isDay_16
    · refine lv_iconst (v := 1) hx hb dX10_isDay_11 (by decide) ?_
      refine lv_goto (tgt := 16) hx hb dX10_isDay_12 (by decide) ?_
      exact W.zret (ty := .boolean) hx hb hr (by decide) (fun t ht9 hW => ⟨⟨_, (), rfl, (by unfold sp_X10_isDay; rw [if_neg c1, if_neg c2]), trivial⟩, hS.F ht9⟩) hS.2.2 dX10_isDay_16
abbrev cX10_isCompetition : ByteArray := prog_1_method_45_code
def yX10_isCompetition : MethodName := ⟨RX10, "isCompetition", "(I)Z"⟩
theorem dX10_isCompetition_0 : decode cX10_isCompetition 0 = .ok (.iload_n 1, 1) := by decide +kernel
theorem dX10_isCompetition_1 : decode cX10_isCompetition 1 = .ok (.aload_n 0, 1) := by decide +kernel
theorem dX10_isCompetition_2 : decode cX10_isCompetition 2 = .ok (.getfield 28, 3) := by decide +kernel
theorem kw_407 : Cond.fieldLink RX10 28 "SportsHouse" "season" "LSportsHouse$Season;" ∈ lw_g := lw_at 407 (by decide +kernel) rfl
theorem dX10_isCompetition_5 : decode cX10_isCompetition 5 = .ok (.getfield 74, 3) := by decide +kernel
theorem kw_149 : Cond.fieldLink RX10 74 "SportsHouse$Season" "competitionCount" "I" ∈ lw_g := lw_at 149 (by decide +kernel) rfl
theorem dX10_isCompetition_8 : decode cX10_isCompetition 8 = .ok (.invokestatic 115, 3) := by decide +kernel
theorem kw_626 : Cond.methodLink RX10 115 yX10_isBelow ∈ lw_g := lw_at 626 (by decide +kernel) rfl
theorem kw_627 : Cond.static yX10_isBelow ∈ lw_g := lw_at 627 (by decide +kernel) rfl
theorem kw_1 : Cond.initialized RX10 ∈ lw_g := lw_at 1 (by decide +kernel) rfl
theorem kw_628 : Cond.code yX10_isBelow cX10_isBelow 2 (some .boolean) ∈ lw_g := lw_at 628 (by decide +kernel) rfl
theorem gv_X10_115 : GoodIn lw_g (va_wsS RX10 115 yX10_isBelow (.code yX10_isBelow cX10_isBelow 2 (some .boolean) :: lw_g)) := gi_S kw_626 kw_627 kw_1 kw_628
theorem dX10_isCompetition_11 : decode cX10_isCompetition 11 = .ok (.ireturn, 1) := by decide +kernel
set_option maxHeartbeats 4000000 in
set_option maxRecDepth 100000 in
theorem ct_X10_isCompetition (l : Launch) (dC : Nat → ClassId) (dI : Nat → Nat → Nat) (x0 : Nat) (se : Nat) (fx : List Value) (fse : List Value) (hfx_2 : fx[2]? = some (.ref se)) (hfse_2 : fse[2]? = some (.int 0)) (sz : Nat) (na : Int32) : Met l yX10_isCompetition (.code yX10_isCompetition cX10_isCompetition 2 (some .boolean) :: lw_g) ({ frames := 1, cells := 0, slots := 0, locals := 60 }) (ro_P dC dI [(x0, .inr (10, fx)), (se, .inr (6, fse))] [] sz [.ref x0, .int na]) (ri_Q 0 (va_A [] sz)) 0 0 (va_A [] sz) := by
  refine ro_entry (by decide) (Nat.le_of_ble_eq_true rfl) ?_
  intro p e s m below meth c ls hx hb hr hlocks ht hown hin hml hsz hP hK hD hE hl
  subst hsz
  have hS : va_S (va_A [] s.heap.size) s.heap s.heap [] := va_S.rf
  have hA : ∀ q, s.heap.size ≤ q → va_A [] s.heap.size q := fun q h => Or.inr h
  have hl : lv_has ls 2 [(0, .ref x0), (1, .int na)] := hl
  have hown : s.vm.findClass RX10 = some m.cls := hown
  refine lv_iload_n hx hb dX10_isCompetition_0 rfl (lv_at hl 1 rfl) ?_
  refine lv_aload_n hx hb dX10_isCompetition_1 rfl (lv_at hl 0 rfl) ?_
  refine va_get (D := (dC, dI)) (ci := 10) (v := .ref se) (C := RX10) (T := TX10) (N := 7) hx hb ht inX10 hown hK hP 0 rfl rfl 2 (by decide) (ht _ kw_407) (fun _ h9 => h9) hfx_2 dX10_isCompetition_2 ?_
  refine va_get (D := (dC, dI)) (ci := 6) (v := .int 0) (C := RX6) (T := TX6) (N := 16) hx hb ht inX6 hown hK hP 1 rfl rfl 2 (by decide) (ht _ kw_149) (fun _ h9 => h9) hfse_2 dX10_isCompetition_5 ?_
  refine ro_callS (n := 2) (As := [.int na, .int 0]) (rest := []) hx hb hml hown ht hK hP hS hA hE (ct_X10_isBelow l dC dI  _ na 0) gv_X10_115 rfl rfl (by decide +kernel) ⟨Nat.le_of_ble_eq_true rfl, Nat.le_of_ble_eq_true rfl⟩ rfl hl.1 (Nat.le_of_ble_eq_true rfl) ⟨Nat.le_of_ble_eq_true rfl, Nat.le_of_ble_eq_true rfl⟩ rfl dX10_isCompetition_8 (fun H locs hP hS => ?_)
  refine lv_topi (fun r1 er1 => ?_)
  have er1 : r1 = 0 := er1.trans (sp_below0 na)
  subst er1
  exact W.zret (ty := .boolean) hx hb hr (by decide) (fun t ht9 hW => ⟨⟨_, (), rfl, rfl, trivial⟩, hS.F ht9⟩) hS.2.2 dX10_isCompetition_11
abbrev cX10_isClub : ByteArray := prog_1_method_46_code
def yX10_isClub : MethodName := ⟨RX10, "isClub", "(I)Z"⟩
theorem dX10_isClub_0 : decode cX10_isClub 0 = .ok (.iload_n 1, 1) := by decide +kernel
theorem dX10_isClub_1 : decode cX10_isClub 1 = .ok (.aload_n 0, 1) := by decide +kernel
theorem dX10_isClub_2 : decode cX10_isClub 2 = .ok (.getfield 19, 3) := by decide +kernel
theorem kw_406 : Cond.fieldLink RX10 19 "SportsHouse" "things" "LSportsHouse$Things;" ∈ lw_g := lw_at 406 (by decide +kernel) rfl
theorem dX10_isClub_5 : decode cX10_isClub 5 = .ok (.getfield 119, 3) := by decide +kernel
theorem kw_87 : Cond.fieldLink RX10 119 "SportsHouse$Things" "clubs" "I" ∈ lw_g := lw_at 87 (by decide +kernel) rfl
theorem dX10_isClub_8 : decode cX10_isClub 8 = .ok (.invokestatic 115, 3) := by decide +kernel
theorem dX10_isClub_11 : decode cX10_isClub 11 = .ok (.ireturn, 1) := by decide +kernel
set_option maxHeartbeats 4000000 in
set_option maxRecDepth 100000 in
theorem ct_X10_isClub (l : Launch) (dC : Nat → ClassId) (dI : Nat → Nat → Nat) (x0 : Nat) (th : Nat) (fx : List Value) (fth : List Value) (hfx_1 : fx[1]? = some (.ref th)) (hfth_2 : fth[2]? = some (.int 0)) (sz : Nat) (na : Int32) : Met l yX10_isClub (.code yX10_isClub cX10_isClub 2 (some .boolean) :: lw_g) ({ frames := 1, cells := 0, slots := 0, locals := 60 }) (ro_P dC dI [(x0, .inr (10, fx)), (th, .inr (8, fth))] [] sz [.ref x0, .int na]) (ri_Q 0 (va_A [] sz)) 0 0 (va_A [] sz) := by
  refine ro_entry (by decide) (Nat.le_of_ble_eq_true rfl) ?_
  intro p e s m below meth c ls hx hb hr hlocks ht hown hin hml hsz hP hK hD hE hl
  subst hsz
  have hS : va_S (va_A [] s.heap.size) s.heap s.heap [] := va_S.rf
  have hA : ∀ q, s.heap.size ≤ q → va_A [] s.heap.size q := fun q h => Or.inr h
  have hl : lv_has ls 2 [(0, .ref x0), (1, .int na)] := hl
  have hown : s.vm.findClass RX10 = some m.cls := hown
  refine lv_iload_n hx hb dX10_isClub_0 rfl (lv_at hl 1 rfl) ?_
  refine lv_aload_n hx hb dX10_isClub_1 rfl (lv_at hl 0 rfl) ?_
  refine va_get (D := (dC, dI)) (ci := 10) (v := .ref th) (C := RX10) (T := TX10) (N := 7) hx hb ht inX10 hown hK hP 0 rfl rfl 1 (by decide) (ht _ kw_406) (fun _ h9 => h9) hfx_1 dX10_isClub_2 ?_
  refine va_get (D := (dC, dI)) (ci := 8) (v := .int 0) (C := RX8) (T := TX8) (N := 14) hx hb ht inX8 hown hK hP 1 rfl rfl 2 (by decide) (ht _ kw_87) (fun _ h9 => h9) hfth_2 dX10_isClub_5 ?_
  refine ro_callS (n := 2) (As := [.int na, .int 0]) (rest := []) hx hb hml hown ht hK hP hS hA hE (ct_X10_isBelow l dC dI  _ na 0) gv_X10_115 rfl rfl (by decide +kernel) ⟨Nat.le_of_ble_eq_true rfl, Nat.le_of_ble_eq_true rfl⟩ rfl hl.1 (Nat.le_of_ble_eq_true rfl) ⟨Nat.le_of_ble_eq_true rfl, Nat.le_of_ble_eq_true rfl⟩ rfl dX10_isClub_8 (fun H locs hP hS => ?_)
  refine lv_topi (fun r1 er1 => ?_)
  have er1 : r1 = 0 := er1.trans (sp_below0 na)
  subst er1
  exact W.zret (ty := .boolean) hx hb hr (by decide) (fun t ht9 hW => ⟨⟨_, (), rfl, rfl, trivial⟩, hS.F ht9⟩) hS.2.2 dX10_isClub_11
abbrev cX10_isPerson : ByteArray := prog_1_method_47_code
def yX10_isPerson : MethodName := ⟨RX10, "isPerson", "(I)Z"⟩
theorem dX10_isPerson_0 : decode cX10_isPerson 0 = .ok (.iload_n 1, 1) := by decide +kernel
theorem dX10_isPerson_1 : decode cX10_isPerson 1 = .ok (.aload_n 0, 1) := by decide +kernel
theorem dX10_isPerson_2 : decode cX10_isPerson 2 = .ok (.getfield 19, 3) := by decide +kernel
theorem dX10_isPerson_5 : decode cX10_isPerson 5 = .ok (.getfield 128, 3) := by decide +kernel
theorem kw_88 : Cond.fieldLink RX10 128 "SportsHouse$Things" "persons" "I" ∈ lw_g := lw_at 88 (by decide +kernel) rfl
theorem dX10_isPerson_8 : decode cX10_isPerson 8 = .ok (.invokestatic 115, 3) := by decide +kernel
theorem dX10_isPerson_11 : decode cX10_isPerson 11 = .ok (.ireturn, 1) := by decide +kernel
set_option maxHeartbeats 4000000 in
set_option maxRecDepth 100000 in
theorem ct_X10_isPerson (l : Launch) (dC : Nat → ClassId) (dI : Nat → Nat → Nat) (x0 : Nat) (th : Nat) (fx : List Value) (fth : List Value) (hfx_1 : fx[1]? = some (.ref th)) (hfth_3 : fth[3]? = some (.int 0)) (sz : Nat) (na : Int32) : Met l yX10_isPerson (.code yX10_isPerson cX10_isPerson 2 (some .boolean) :: lw_g) ({ frames := 1, cells := 0, slots := 0, locals := 60 }) (ro_P dC dI [(x0, .inr (10, fx)), (th, .inr (8, fth))] [] sz [.ref x0, .int na]) (ri_Q 0 (va_A [] sz)) 0 0 (va_A [] sz) := by
  refine ro_entry (by decide) (Nat.le_of_ble_eq_true rfl) ?_
  intro p e s m below meth c ls hx hb hr hlocks ht hown hin hml hsz hP hK hD hE hl
  subst hsz
  have hS : va_S (va_A [] s.heap.size) s.heap s.heap [] := va_S.rf
  have hA : ∀ q, s.heap.size ≤ q → va_A [] s.heap.size q := fun q h => Or.inr h
  have hl : lv_has ls 2 [(0, .ref x0), (1, .int na)] := hl
  have hown : s.vm.findClass RX10 = some m.cls := hown
  refine lv_iload_n hx hb dX10_isPerson_0 rfl (lv_at hl 1 rfl) ?_
  refine lv_aload_n hx hb dX10_isPerson_1 rfl (lv_at hl 0 rfl) ?_
  refine va_get (D := (dC, dI)) (ci := 10) (v := .ref th) (C := RX10) (T := TX10) (N := 7) hx hb ht inX10 hown hK hP 0 rfl rfl 1 (by decide) (ht _ kw_406) (fun _ h9 => h9) hfx_1 dX10_isPerson_2 ?_
  refine va_get (D := (dC, dI)) (ci := 8) (v := .int 0) (C := RX8) (T := TX8) (N := 14) hx hb ht inX8 hown hK hP 1 rfl rfl 3 (by decide) (ht _ kw_88) (fun _ h9 => h9) hfth_3 dX10_isPerson_5 ?_
  refine ro_callS (n := 2) (As := [.int na, .int 0]) (rest := []) hx hb hml hown ht hK hP hS hA hE (ct_X10_isBelow l dC dI  _ na 0) gv_X10_115 rfl rfl (by decide +kernel) ⟨Nat.le_of_ble_eq_true rfl, Nat.le_of_ble_eq_true rfl⟩ rfl hl.1 (Nat.le_of_ble_eq_true rfl) ⟨Nat.le_of_ble_eq_true rfl, Nat.le_of_ble_eq_true rfl⟩ rfl dX10_isPerson_8 (fun H locs hP hS => ?_)
  refine lv_topi (fun r1 er1 => ?_)
  have er1 : r1 = 0 := er1.trans (sp_below0 na)
  subst er1
  exact W.zret (ty := .boolean) hx hb hr (by decide) (fun t ht9 hW => ⟨⟨_, (), rfl, rfl, trivial⟩, hS.F ht9⟩) hS.2.2 dX10_isPerson_11
abbrev cX10_isMatch : ByteArray := prog_1_method_48_code
def yX10_isMatch : MethodName := ⟨RX10, "isMatch", "(I)Z"⟩
theorem dX10_isMatch_0 : decode cX10_isMatch 0 = .ok (.iload_n 1, 1) := by decide +kernel
theorem dX10_isMatch_1 : decode cX10_isMatch 1 = .ok (.aload_n 0, 1) := by decide +kernel
theorem dX10_isMatch_2 : decode cX10_isMatch 2 = .ok (.getfield 28, 3) := by decide +kernel
theorem dX10_isMatch_5 : decode cX10_isMatch 5 = .ok (.getfield 182, 3) := by decide +kernel
theorem kw_157 : Cond.fieldLink RX10 182 "SportsHouse$Season" "matchCount" "I" ∈ lw_g := lw_at 157 (by decide +kernel) rfl
theorem dX10_isMatch_8 : decode cX10_isMatch 8 = .ok (.invokestatic 115, 3) := by decide +kernel
theorem dX10_isMatch_11 : decode cX10_isMatch 11 = .ok (.ireturn, 1) := by decide +kernel
set_option maxHeartbeats 4000000 in
set_option maxRecDepth 100000 in
theorem ct_X10_isMatch (l : Launch) (dC : Nat → ClassId) (dI : Nat → Nat → Nat) (x0 : Nat) (se : Nat) (fx : List Value) (fse : List Value) (hfx_2 : fx[2]? = some (.ref se)) (hfse_4 : fse[4]? = some (.int 0)) (sz : Nat) (na : Int32) : Met l yX10_isMatch (.code yX10_isMatch cX10_isMatch 2 (some .boolean) :: lw_g) ({ frames := 1, cells := 0, slots := 0, locals := 60 }) (ro_P dC dI [(x0, .inr (10, fx)), (se, .inr (6, fse))] [] sz [.ref x0, .int na]) (ri_Q 0 (va_A [] sz)) 0 0 (va_A [] sz) := by
  refine ro_entry (by decide) (Nat.le_of_ble_eq_true rfl) ?_
  intro p e s m below meth c ls hx hb hr hlocks ht hown hin hml hsz hP hK hD hE hl
  subst hsz
  have hS : va_S (va_A [] s.heap.size) s.heap s.heap [] := va_S.rf
  have hA : ∀ q, s.heap.size ≤ q → va_A [] s.heap.size q := fun q h => Or.inr h
  have hl : lv_has ls 2 [(0, .ref x0), (1, .int na)] := hl
  have hown : s.vm.findClass RX10 = some m.cls := hown
  refine lv_iload_n hx hb dX10_isMatch_0 rfl (lv_at hl 1 rfl) ?_
  refine lv_aload_n hx hb dX10_isMatch_1 rfl (lv_at hl 0 rfl) ?_
  refine va_get (D := (dC, dI)) (ci := 10) (v := .ref se) (C := RX10) (T := TX10) (N := 7) hx hb ht inX10 hown hK hP 0 rfl rfl 2 (by decide) (ht _ kw_407) (fun _ h9 => h9) hfx_2 dX10_isMatch_2 ?_
  refine va_get (D := (dC, dI)) (ci := 6) (v := .int 0) (C := RX6) (T := TX6) (N := 16) hx hb ht inX6 hown hK hP 1 rfl rfl 4 (by decide) (ht _ kw_157) (fun _ h9 => h9) hfse_4 dX10_isMatch_5 ?_
  refine ro_callS (n := 2) (As := [.int na, .int 0]) (rest := []) hx hb hml hown ht hK hP hS hA hE (ct_X10_isBelow l dC dI  _ na 0) gv_X10_115 rfl rfl (by decide +kernel) ⟨Nat.le_of_ble_eq_true rfl, Nat.le_of_ble_eq_true rfl⟩ rfl hl.1 (Nat.le_of_ble_eq_true rfl) ⟨Nat.le_of_ble_eq_true rfl, Nat.le_of_ble_eq_true rfl⟩ rfl dX10_isMatch_8 (fun H locs hP hS => ?_)
  refine lv_topi (fun r1 er1 => ?_)
  have er1 : r1 = 0 := er1.trans (sp_below0 na)
  subst er1
  exact W.zret (ty := .boolean) hx hb hr (by decide) (fun t ht9 hW => ⟨⟨_, (), rfl, rfl, trivial⟩, hS.F ht9⟩) hS.2.2 dX10_isMatch_11
abbrev cX10_fault : ByteArray := prog_1_method_5_code
def yX10_fault : MethodName := ⟨RX10, "fault", "()I"⟩
theorem dX10_fault_0 : decode cX10_fault 0 = .ok (.aload_n 0, 1) := by decide +kernel
theorem dX10_fault_1 : decode cX10_fault 1 = .ok (.getfield 12, 3) := by decide +kernel
theorem kw_405 : Cond.fieldLink RX10 12 "SportsHouse" "text" "LSportsHouse$RuleText;" ∈ lw_g := lw_at 405 (by decide +kernel) rfl
theorem dX10_fault_4 : decode cX10_fault 4 = .ok (.getfield 77, 3) := by decide +kernel
theorem kw_42 : Cond.fieldLink RX10 77 "SportsHouse$RuleText" "faultAt" "I" ∈ lw_g := lw_at 42 (by decide +kernel) rfl
theorem dX10_fault_7 : decode cX10_fault 7 = .ok (.ireturn, 1) := by decide +kernel
set_option maxHeartbeats 4000000 in
set_option maxRecDepth 100000 in
theorem ct_X10_fault (l : Launch) (dC : Nat → ClassId) (dI : Nat → Nat → Nat) (x0 : Nat) (rt : Nat) (fx : List Value) (frt : List Value) (hfx_0 : fx[0]? = some (.ref rt)) (hfrt_3 : frt[3]? = some (.int (-1))) (sz : Nat)  : Met l yX10_fault (.code yX10_fault cX10_fault 1 (some .int) :: lw_g) ({ frames := 2, cells := 0, slots := 0, locals := 120 }) (ro_P dC dI [(x0, .inr (10, fx)), (rt, .inr (5, frt))] [] sz [.ref x0]) (ri_Q (-1) (va_A [] sz)) 0 0 (va_A [] sz) := by
  refine ro_entry (by decide) (Nat.le_of_ble_eq_true rfl) ?_
  intro p e s m below meth c ls hx hb hr hlocks ht hown hin hml hsz hP hK hD hE hl
  subst hsz
  have hS : va_S (va_A [] s.heap.size) s.heap s.heap [] := va_S.rf
  have hA : ∀ q, s.heap.size ≤ q → va_A [] s.heap.size q := fun q h => Or.inr h
  have hl : lv_has ls 1 [(0, .ref x0)] := hl
  have hown : s.vm.findClass RX10 = some m.cls := hown
  refine lv_aload_n hx hb dX10_fault_0 rfl (lv_at hl 0 rfl) ?_
  refine va_get (D := (dC, dI)) (ci := 10) (v := .ref rt) (C := RX10) (T := TX10) (N := 7) hx hb ht inX10 hown hK hP 0 rfl rfl 0 (by decide) (ht _ kw_405) (fun _ h9 => h9) hfx_0 dX10_fault_1 ?_
  refine va_get (D := (dC, dI)) (ci := 5) (v := .int (-1)) (C := RX5) (T := TX5) (N := 10) hx hb ht inX5 hown hK hP 1 rfl rfl 3 (by decide) (ht _ kw_42) (fun _ h9 => h9) hfrt_3 dX10_fault_4 ?_
  exact W.iret hx hb hr (fun t ht9 hW => ⟨⟨_, (), rfl, rfl, trivial⟩, hS.F ht9⟩) hS.2.2 dX10_fault_7
abbrev cX10_rule : ByteArray := prog_1_method_6_code
def yX10_rule : MethodName := ⟨RX10, "rule", "(II)I"⟩
theorem dX10_rule_0 : decode cX10_rule 0 = .ok (.aload_n 0, 1) := by decide +kernel
theorem dX10_rule_1 : decode cX10_rule 1 = .ok (.iload_n 1, 1) := by decide +kernel
theorem dX10_rule_2 : decode cX10_rule 2 = .ok (.invokevirtual 107, 3) := by decide +kernel
theorem kw_622 : Cond.methodLink RX10 107 yX10_isCompetition ∈ lw_g := lw_at 622 (by decide +kernel) rfl
theorem kw_624 : Cond.instanceMethod yX10_isCompetition ∈ lw_g := lw_at 624 (by decide +kernel) rfl
theorem ks_X10_isCompetition : Cond.selects RX10 yX10_isCompetition yX10_isCompetition ∈ lw_g := lw_sel 0 rfl
theorem kw_625 : Cond.code yX10_isCompetition cX10_isCompetition 2 (some .boolean) ∈ lw_g := lw_at 625 (by decide +kernel) rfl
theorem gv_X10_107 : GoodIn lw_g (wsV RX10 107 RX10 yX10_isCompetition (.code yX10_isCompetition cX10_isCompetition 2 (some .boolean) :: lw_g)) := gi_V kw_622 kw_624 ks_X10_isCompetition kw_1 kw_625
theorem dX10_rule_5 : decode cX10_rule 5 = .ok (.ifCond .ne 6, 3) := by decide +kernel
theorem dX10_rule_8 : decode cX10_rule 8 = .ok (.bipush (-2), 2) := by decide +kernel
theorem dX10_rule_10 : decode cX10_rule 10 = .ok (.ireturn, 1) := by decide +kernel
set_option maxHeartbeats 4000000 in
set_option maxRecDepth 100000 in
theorem ct_X10_rule (l : Launch) (dC : Nat → ClassId) (dI : Nat → Nat → Nat) (x0 : Nat) (se : Nat) (fx : List Value) (fse : List Value) (hfx_2 : fx[2]? = some (.ref se)) (hfse_2 : fse[2]? = some (.int 0)) (sz : Nat) (na : Int32) (nb : Int32) : Met l yX10_rule (.code yX10_rule cX10_rule 5 (some .int) :: lw_g) ({ frames := 2, cells := 0, slots := 0, locals := 120 }) (ro_P dC dI [(x0, .inr (10, fx)), (se, .inr (6, fse))] [] sz [.ref x0, .int na, .int nb]) (ri_Q (-2) (va_A [] sz)) 0 0 (va_A [] sz) := by
  refine ro_entry (by decide) (Nat.le_of_ble_eq_true rfl) ?_
  intro p e s m below meth c ls hx hb hr hlocks ht hown hin hml hsz hP hK hD hE hl
  subst hsz
  have hS : va_S (va_A [] s.heap.size) s.heap s.heap [] := va_S.rf
  have hA : ∀ q, s.heap.size ≤ q → va_A [] s.heap.size q := fun q h => Or.inr h
  have hl : lv_has ls 5 [(0, .ref x0), (1, .int na), (2, .int nb)] := hl
  have hown : s.vm.findClass RX10 = some m.cls := hown
  refine lv_aload_n hx hb dX10_rule_0 rfl (lv_at hl 0 rfl) ?_
  refine lv_iload_n hx hb dX10_rule_1 rfl (lv_at hl 1 rfl) ?_
  refine ro_callV (n := 1) (As := [.int na]) (rest := []) hx hb hml hown ht hK hP hD hS hA hE (ct_X10_isCompetition l dC dI x0 se fx fse hfx_2 hfse_2 _ na) [0, 1] [] rfl (by decide) rfl 0 (ci := 10) rfl rfl rfl gv_X10_107 rfl rfl (by decide +kernel) ⟨Nat.le_of_ble_eq_true rfl, Nat.le_of_ble_eq_true rfl⟩ rfl hl.1 (Nat.le_of_ble_eq_true rfl) ⟨Nat.le_of_ble_eq_true rfl, Nat.le_of_ble_eq_true rfl⟩ rfl dX10_rule_2 (fun H locs hP hS => ?_)
  refine lv_if_ne (tgt := 11) hx hb dX10_rule_5 (by decide) (fun c1 => ?_) (fun c1 => ?_)
  · exact absurd (by decide) c1
  refine lv_bipush (v := (-2)) hx hb dX10_rule_8 (by decide) ?_
  exact W.iret hx hb hr (fun t ht9 hW => ⟨⟨_, (), rfl, rfl, trivial⟩, hS.F ht9⟩) hS.2.2 dX10_rule_10
abbrev cX10_register : ByteArray := prog_1_method_9_code
def yX10_register : MethodName := ⟨RX10, "register", "(IIII)I"⟩
theorem dX10_register_0 : decode cX10_register 0 = .ok (.aload_n 0, 1) := by decide +kernel
theorem dX10_register_1 : decode cX10_register 1 = .ok (.iload_n 1, 1) := by decide +kernel
theorem dX10_register_2 : decode cX10_register 2 = .ok (.invokevirtual 134, 3) := by decide +kernel
theorem kw_641 : Cond.methodLink RX10 134 yX10_isPerson ∈ lw_g := lw_at 641 (by decide +kernel) rfl
theorem kw_643 : Cond.instanceMethod yX10_isPerson ∈ lw_g := lw_at 643 (by decide +kernel) rfl
theorem ks_X10_isPerson : Cond.selects RX10 yX10_isPerson yX10_isPerson ∈ lw_g := lw_sel 2 rfl
theorem kw_644 : Cond.code yX10_isPerson cX10_isPerson 2 (some .boolean) ∈ lw_g := lw_at 644 (by decide +kernel) rfl
theorem gv_X10_134 : GoodIn lw_g (wsV RX10 134 RX10 yX10_isPerson (.code yX10_isPerson cX10_isPerson 2 (some .boolean) :: lw_g)) := gi_V kw_641 kw_643 ks_X10_isPerson kw_1 kw_644
theorem dX10_register_5 : decode cX10_register 5 = .ok (.ifCond .eq 11, 3) := by decide +kernel
theorem dX10_register_16 : decode cX10_register 16 = .ok (.bipush (-2), 2) := by decide +kernel
theorem dX10_register_18 : decode cX10_register 18 = .ok (.ireturn, 1) := by decide +kernel
set_option maxHeartbeats 4000000 in
set_option maxRecDepth 100000 in
theorem ct_X10_register (l : Launch) (dC : Nat → ClassId) (dI : Nat → Nat → Nat) (x0 : Nat) (th : Nat) (fx : List Value) (fth : List Value) (hfx_1 : fx[1]? = some (.ref th)) (hfth_3 : fth[3]? = some (.int 0)) (sz : Nat) (na : Int32) (nb : Int32) (nc : Int32) (nd : Int32) : Met l yX10_register (.code yX10_register cX10_register 5 (some .int) :: lw_g) ({ frames := 2, cells := 0, slots := 0, locals := 120 }) (ro_P dC dI [(x0, .inr (10, fx)), (th, .inr (8, fth))] [] sz [.ref x0, .int na, .int nb, .int nc, .int nd]) (ri_Q (-2) (va_A [] sz)) 0 0 (va_A [] sz) := by
  refine ro_entry (by decide) (Nat.le_of_ble_eq_true rfl) ?_
  intro p e s m below meth c ls hx hb hr hlocks ht hown hin hml hsz hP hK hD hE hl
  subst hsz
  have hS : va_S (va_A [] s.heap.size) s.heap s.heap [] := va_S.rf
  have hA : ∀ q, s.heap.size ≤ q → va_A [] s.heap.size q := fun q h => Or.inr h
  have hl : lv_has ls 5 [(0, .ref x0), (1, .int na), (2, .int nb), (3, .int nc), (4, .int nd)] := hl
  have hown : s.vm.findClass RX10 = some m.cls := hown
  refine lv_aload_n hx hb dX10_register_0 rfl (lv_at hl 0 rfl) ?_
  refine lv_iload_n hx hb dX10_register_1 rfl (lv_at hl 1 rfl) ?_
  refine ro_callV (n := 1) (As := [.int na]) (rest := []) hx hb hml hown ht hK hP hD hS hA hE (ct_X10_isPerson l dC dI x0 th fx fth hfx_1 hfth_3 _ na) [0, 1] [] rfl (by decide) rfl 0 (ci := 10) rfl rfl rfl gv_X10_134 rfl rfl (by decide +kernel) ⟨Nat.le_of_ble_eq_true rfl, Nat.le_of_ble_eq_true rfl⟩ rfl hl.1 (Nat.le_of_ble_eq_true rfl) ⟨Nat.le_of_ble_eq_true rfl, Nat.le_of_ble_eq_true rfl⟩ rfl dX10_register_2 (fun H locs hP hS => ?_)
  refine lv_if_eq (tgt := 16) hx hb dX10_register_5 (by decide) (fun c1 => ?_) (fun c1 => ?_)
  rotate_left
  · exact absurd (by decide) c1
  refine lv_bipush (v := (-2)) hx hb dX10_register_16 (by decide) ?_
  exact W.iret hx hb hr (fun t ht9 hW => ⟨⟨_, (), rfl, rfl, trivial⟩, hS.F ht9⟩) hS.2.2 dX10_register_18
abbrev cX10_enter : ByteArray := prog_1_method_12_code
def yX10_enter : MethodName := ⟨RX10, "enter", "(II)I"⟩
theorem dX10_enter_0 : decode cX10_enter 0 = .ok (.aload_n 0, 1) := by decide +kernel
theorem dX10_enter_1 : decode cX10_enter 1 = .ok (.iload_n 1, 1) := by decide +kernel
theorem dX10_enter_2 : decode cX10_enter 2 = .ok (.invokevirtual 107, 3) := by decide +kernel
theorem dX10_enter_5 : decode cX10_enter 5 = .ok (.ifCond .eq 11, 3) := by decide +kernel
theorem dX10_enter_16 : decode cX10_enter 16 = .ok (.bipush (-2), 2) := by decide +kernel
theorem dX10_enter_18 : decode cX10_enter 18 = .ok (.ireturn, 1) := by decide +kernel
set_option maxHeartbeats 4000000 in
set_option maxRecDepth 100000 in
theorem ct_X10_enter (l : Launch) (dC : Nat → ClassId) (dI : Nat → Nat → Nat) (x0 : Nat) (se : Nat) (fx : List Value) (fse : List Value) (hfx_2 : fx[2]? = some (.ref se)) (hfse_2 : fse[2]? = some (.int 0)) (sz : Nat) (na : Int32) (nb : Int32) : Met l yX10_enter (.code yX10_enter cX10_enter 4 (some .int) :: lw_g) ({ frames := 2, cells := 0, slots := 0, locals := 120 }) (ro_P dC dI [(x0, .inr (10, fx)), (se, .inr (6, fse))] [] sz [.ref x0, .int na, .int nb]) (ri_Q (-2) (va_A [] sz)) 0 0 (va_A [] sz) := by
  refine ro_entry (by decide) (Nat.le_of_ble_eq_true rfl) ?_
  intro p e s m below meth c ls hx hb hr hlocks ht hown hin hml hsz hP hK hD hE hl
  subst hsz
  have hS : va_S (va_A [] s.heap.size) s.heap s.heap [] := va_S.rf
  have hA : ∀ q, s.heap.size ≤ q → va_A [] s.heap.size q := fun q h => Or.inr h
  have hl : lv_has ls 4 [(0, .ref x0), (1, .int na), (2, .int nb)] := hl
  have hown : s.vm.findClass RX10 = some m.cls := hown
  refine lv_aload_n hx hb dX10_enter_0 rfl (lv_at hl 0 rfl) ?_
  refine lv_iload_n hx hb dX10_enter_1 rfl (lv_at hl 1 rfl) ?_
  refine ro_callV (n := 1) (As := [.int na]) (rest := []) hx hb hml hown ht hK hP hD hS hA hE (ct_X10_isCompetition l dC dI x0 se fx fse hfx_2 hfse_2 _ na) [0, 1] [] rfl (by decide) rfl 0 (ci := 10) rfl rfl rfl gv_X10_107 rfl rfl (by decide +kernel) ⟨Nat.le_of_ble_eq_true rfl, Nat.le_of_ble_eq_true rfl⟩ rfl hl.1 (Nat.le_of_ble_eq_true rfl) ⟨Nat.le_of_ble_eq_true rfl, Nat.le_of_ble_eq_true rfl⟩ rfl dX10_enter_2 (fun H locs hP hS => ?_)
  refine lv_if_eq (tgt := 16) hx hb dX10_enter_5 (by decide) (fun c1 => ?_) (fun c1 => ?_)
  rotate_left
  · exact absurd (by decide) c1
  refine lv_bipush (v := (-2)) hx hb dX10_enter_16 (by decide) ?_
  exact W.iret hx hb hr (fun t ht9 hW => ⟨⟨_, (), rfl, rfl, trivial⟩, hS.F ht9⟩) hS.2.2 dX10_enter_18
abbrev cX10_plan : ByteArray := prog_1_method_13_code
def yX10_plan : MethodName := ⟨RX10, "plan", "(II)I"⟩
theorem dX10_plan_0 : decode cX10_plan 0 = .ok (.aload_n 0, 1) := by decide +kernel
theorem dX10_plan_1 : decode cX10_plan 1 = .ok (.iload_n 1, 1) := by decide +kernel
theorem dX10_plan_2 : decode cX10_plan 2 = .ok (.invokevirtual 107, 3) := by decide +kernel
theorem dX10_plan_5 : decode cX10_plan 5 = .ok (.ifCond .ne 6, 3) := by decide +kernel
theorem dX10_plan_8 : decode cX10_plan 8 = .ok (.bipush (-2), 2) := by decide +kernel
theorem dX10_plan_10 : decode cX10_plan 10 = .ok (.ireturn, 1) := by decide +kernel
set_option maxHeartbeats 4000000 in
set_option maxRecDepth 100000 in
theorem ct_X10_plan (l : Launch) (dC : Nat → ClassId) (dI : Nat → Nat → Nat) (x0 : Nat) (se : Nat) (fx : List Value) (fse : List Value) (hfx_2 : fx[2]? = some (.ref se)) (hfse_2 : fse[2]? = some (.int 0)) (sz : Nat) (na : Int32) (nb : Int32) : Met l yX10_plan (.code yX10_plan cX10_plan 4 (some .int) :: lw_g) ({ frames := 2, cells := 0, slots := 0, locals := 120 }) (ro_P dC dI [(x0, .inr (10, fx)), (se, .inr (6, fse))] [] sz [.ref x0, .int na, .int nb]) (ri_Q (-2) (va_A [] sz)) 0 0 (va_A [] sz) := by
  refine ro_entry (by decide) (Nat.le_of_ble_eq_true rfl) ?_
  intro p e s m below meth c ls hx hb hr hlocks ht hown hin hml hsz hP hK hD hE hl
  subst hsz
  have hS : va_S (va_A [] s.heap.size) s.heap s.heap [] := va_S.rf
  have hA : ∀ q, s.heap.size ≤ q → va_A [] s.heap.size q := fun q h => Or.inr h
  have hl : lv_has ls 4 [(0, .ref x0), (1, .int na), (2, .int nb)] := hl
  have hown : s.vm.findClass RX10 = some m.cls := hown
  refine lv_aload_n hx hb dX10_plan_0 rfl (lv_at hl 0 rfl) ?_
  refine lv_iload_n hx hb dX10_plan_1 rfl (lv_at hl 1 rfl) ?_
  refine ro_callV (n := 1) (As := [.int na]) (rest := []) hx hb hml hown ht hK hP hD hS hA hE (ct_X10_isCompetition l dC dI x0 se fx fse hfx_2 hfse_2 _ na) [0, 1] [] rfl (by decide) rfl 0 (ci := 10) rfl rfl rfl gv_X10_107 rfl rfl (by decide +kernel) ⟨Nat.le_of_ble_eq_true rfl, Nat.le_of_ble_eq_true rfl⟩ rfl hl.1 (Nat.le_of_ble_eq_true rfl) ⟨Nat.le_of_ble_eq_true rfl, Nat.le_of_ble_eq_true rfl⟩ rfl dX10_plan_2 (fun H locs hP hS => ?_)
  refine lv_if_ne (tgt := 11) hx hb dX10_plan_5 (by decide) (fun c1 => ?_) (fun c1 => ?_)
  · exact absurd (by decide) c1
  refine lv_bipush (v := (-2)) hx hb dX10_plan_8 (by decide) ?_
  exact W.iret hx hb hr (fun t ht9 hW => ⟨⟨_, (), rfl, rfl, trivial⟩, hS.F ht9⟩) hS.2.2 dX10_plan_10
abbrev cX10_match : ByteArray := prog_1_method_14_code
def yX10_match : MethodName := ⟨RX10, "match", "(II)I"⟩
theorem dX10_match_0 : decode cX10_match 0 = .ok (.aload_n 0, 1) := by decide +kernel
theorem dX10_match_1 : decode cX10_match 1 = .ok (.iload_n 1, 1) := by decide +kernel
theorem dX10_match_2 : decode cX10_match 2 = .ok (.invokevirtual 195, 3) := by decide +kernel
theorem kw_773 : Cond.methodLink RX10 195 yX10_isMatch ∈ lw_g := lw_at 773 (by decide +kernel) rfl
theorem kw_775 : Cond.instanceMethod yX10_isMatch ∈ lw_g := lw_at 775 (by decide +kernel) rfl
theorem ks_X10_isMatch : Cond.selects RX10 yX10_isMatch yX10_isMatch ∈ lw_g := lw_sel 3 rfl
theorem kw_776 : Cond.code yX10_isMatch cX10_isMatch 2 (some .boolean) ∈ lw_g := lw_at 776 (by decide +kernel) rfl
theorem gv_X10_195 : GoodIn lw_g (wsV RX10 195 RX10 yX10_isMatch (.code yX10_isMatch cX10_isMatch 2 (some .boolean) :: lw_g)) := gi_V kw_773 kw_775 ks_X10_isMatch kw_1 kw_776
theorem dX10_match_5 : decode cX10_match 5 = .ok (.ifCond .ne 6, 3) := by decide +kernel
theorem dX10_match_8 : decode cX10_match 8 = .ok (.bipush (-2), 2) := by decide +kernel
theorem dX10_match_10 : decode cX10_match 10 = .ok (.ireturn, 1) := by decide +kernel
set_option maxHeartbeats 4000000 in
set_option maxRecDepth 100000 in
theorem ct_X10_match (l : Launch) (dC : Nat → ClassId) (dI : Nat → Nat → Nat) (x0 : Nat) (se : Nat) (fx : List Value) (fse : List Value) (hfx_2 : fx[2]? = some (.ref se)) (hfse_4 : fse[4]? = some (.int 0)) (sz : Nat) (na : Int32) (nb : Int32) : Met l yX10_match (.code yX10_match cX10_match 4 (some .int) :: lw_g) ({ frames := 2, cells := 0, slots := 0, locals := 120 }) (ro_P dC dI [(x0, .inr (10, fx)), (se, .inr (6, fse))] [] sz [.ref x0, .int na, .int nb]) (ri_Q (-2) (va_A [] sz)) 0 0 (va_A [] sz) := by
  refine ro_entry (by decide) (Nat.le_of_ble_eq_true rfl) ?_
  intro p e s m below meth c ls hx hb hr hlocks ht hown hin hml hsz hP hK hD hE hl
  subst hsz
  have hS : va_S (va_A [] s.heap.size) s.heap s.heap [] := va_S.rf
  have hA : ∀ q, s.heap.size ≤ q → va_A [] s.heap.size q := fun q h => Or.inr h
  have hl : lv_has ls 4 [(0, .ref x0), (1, .int na), (2, .int nb)] := hl
  have hown : s.vm.findClass RX10 = some m.cls := hown
  refine lv_aload_n hx hb dX10_match_0 rfl (lv_at hl 0 rfl) ?_
  refine lv_iload_n hx hb dX10_match_1 rfl (lv_at hl 1 rfl) ?_
  refine ro_callV (n := 1) (As := [.int na]) (rest := []) hx hb hml hown ht hK hP hD hS hA hE (ct_X10_isMatch l dC dI x0 se fx fse hfx_2 hfse_4 _ na) [0, 1] [] rfl (by decide) rfl 0 (ci := 10) rfl rfl rfl gv_X10_195 rfl rfl (by decide +kernel) ⟨Nat.le_of_ble_eq_true rfl, Nat.le_of_ble_eq_true rfl⟩ rfl hl.1 (Nat.le_of_ble_eq_true rfl) ⟨Nat.le_of_ble_eq_true rfl, Nat.le_of_ble_eq_true rfl⟩ rfl dX10_match_2 (fun H locs hP hS => ?_)
  refine lv_if_ne (tgt := 11) hx hb dX10_match_5 (by decide) (fun c1 => ?_) (fun c1 => ?_)
  · exact absurd (by decide) c1
  refine lv_bipush (v := (-2)) hx hb dX10_match_8 (by decide) ?_
  exact W.iret hx hb hr (fun t ht9 hW => ⟨⟨_, (), rfl, rfl, trivial⟩, hS.F ht9⟩) hS.2.2 dX10_match_10
abbrev cX10_breaks : ByteArray := prog_1_method_15_code
def yX10_breaks : MethodName := ⟨RX10, "breaks", "(II)I"⟩
theorem dX10_breaks_0 : decode cX10_breaks 0 = .ok (.aload_n 0, 1) := by decide +kernel
theorem dX10_breaks_1 : decode cX10_breaks 1 = .ok (.iload_n 1, 1) := by decide +kernel
theorem dX10_breaks_2 : decode cX10_breaks 2 = .ok (.invokevirtual 107, 3) := by decide +kernel
theorem dX10_breaks_5 : decode cX10_breaks 5 = .ok (.ifCond .eq 11, 3) := by decide +kernel
theorem dX10_breaks_16 : decode cX10_breaks 16 = .ok (.bipush (-2), 2) := by decide +kernel
theorem dX10_breaks_18 : decode cX10_breaks 18 = .ok (.ireturn, 1) := by decide +kernel
set_option maxHeartbeats 4000000 in
set_option maxRecDepth 100000 in
theorem ct_X10_breaks (l : Launch) (dC : Nat → ClassId) (dI : Nat → Nat → Nat) (x0 : Nat) (se : Nat) (fx : List Value) (fse : List Value) (hfx_2 : fx[2]? = some (.ref se)) (hfse_2 : fse[2]? = some (.int 0)) (sz : Nat) (na : Int32) (nb : Int32) : Met l yX10_breaks (.code yX10_breaks cX10_breaks 4 (some .int) :: lw_g) ({ frames := 2, cells := 0, slots := 0, locals := 120 }) (ro_P dC dI [(x0, .inr (10, fx)), (se, .inr (6, fse))] [] sz [.ref x0, .int na, .int nb]) (ri_Q (-2) (va_A [] sz)) 0 0 (va_A [] sz) := by
  refine ro_entry (by decide) (Nat.le_of_ble_eq_true rfl) ?_
  intro p e s m below meth c ls hx hb hr hlocks ht hown hin hml hsz hP hK hD hE hl
  subst hsz
  have hS : va_S (va_A [] s.heap.size) s.heap s.heap [] := va_S.rf
  have hA : ∀ q, s.heap.size ≤ q → va_A [] s.heap.size q := fun q h => Or.inr h
  have hl : lv_has ls 4 [(0, .ref x0), (1, .int na), (2, .int nb)] := hl
  have hown : s.vm.findClass RX10 = some m.cls := hown
  refine lv_aload_n hx hb dX10_breaks_0 rfl (lv_at hl 0 rfl) ?_
  refine lv_iload_n hx hb dX10_breaks_1 rfl (lv_at hl 1 rfl) ?_
  refine ro_callV (n := 1) (As := [.int na]) (rest := []) hx hb hml hown ht hK hP hD hS hA hE (ct_X10_isCompetition l dC dI x0 se fx fse hfx_2 hfse_2 _ na) [0, 1] [] rfl (by decide) rfl 0 (ci := 10) rfl rfl rfl gv_X10_107 rfl rfl (by decide +kernel) ⟨Nat.le_of_ble_eq_true rfl, Nat.le_of_ble_eq_true rfl⟩ rfl hl.1 (Nat.le_of_ble_eq_true rfl) ⟨Nat.le_of_ble_eq_true rfl, Nat.le_of_ble_eq_true rfl⟩ rfl dX10_breaks_2 (fun H locs hP hS => ?_)
  refine lv_if_eq (tgt := 16) hx hb dX10_breaks_5 (by decide) (fun c1 => ?_) (fun c1 => ?_)
  rotate_left
  · exact absurd (by decide) c1
  refine lv_bipush (v := (-2)) hx hb dX10_breaks_16 (by decide) ?_
  exact W.iret hx hb hr (fun t ht9 hW => ⟨⟨_, (), rfl, rfl, trivial⟩, hS.F ht9⟩) hS.2.2 dX10_breaks_18
abbrev cX10_postpone : ByteArray := prog_1_method_16_code
def yX10_postpone : MethodName := ⟨RX10, "postpone", "(II)I"⟩
theorem dX10_postpone_0 : decode cX10_postpone 0 = .ok (.aload_n 0, 1) := by decide +kernel
theorem dX10_postpone_1 : decode cX10_postpone 1 = .ok (.iload_n 1, 1) := by decide +kernel
theorem dX10_postpone_2 : decode cX10_postpone 2 = .ok (.invokevirtual 195, 3) := by decide +kernel
theorem dX10_postpone_5 : decode cX10_postpone 5 = .ok (.ifCond .ne 6, 3) := by decide +kernel
theorem dX10_postpone_8 : decode cX10_postpone 8 = .ok (.bipush (-2), 2) := by decide +kernel
theorem dX10_postpone_10 : decode cX10_postpone 10 = .ok (.ireturn, 1) := by decide +kernel
set_option maxHeartbeats 4000000 in
set_option maxRecDepth 100000 in
theorem ct_X10_postpone (l : Launch) (dC : Nat → ClassId) (dI : Nat → Nat → Nat) (x0 : Nat) (se : Nat) (fx : List Value) (fse : List Value) (hfx_2 : fx[2]? = some (.ref se)) (hfse_4 : fse[4]? = some (.int 0)) (sz : Nat) (na : Int32) (nb : Int32) : Met l yX10_postpone (.code yX10_postpone cX10_postpone 4 (some .int) :: lw_g) ({ frames := 2, cells := 0, slots := 0, locals := 120 }) (ro_P dC dI [(x0, .inr (10, fx)), (se, .inr (6, fse))] [] sz [.ref x0, .int na, .int nb]) (ri_Q (-2) (va_A [] sz)) 0 0 (va_A [] sz) := by
  refine ro_entry (by decide) (Nat.le_of_ble_eq_true rfl) ?_
  intro p e s m below meth c ls hx hb hr hlocks ht hown hin hml hsz hP hK hD hE hl
  subst hsz
  have hS : va_S (va_A [] s.heap.size) s.heap s.heap [] := va_S.rf
  have hA : ∀ q, s.heap.size ≤ q → va_A [] s.heap.size q := fun q h => Or.inr h
  have hl : lv_has ls 4 [(0, .ref x0), (1, .int na), (2, .int nb)] := hl
  have hown : s.vm.findClass RX10 = some m.cls := hown
  refine lv_aload_n hx hb dX10_postpone_0 rfl (lv_at hl 0 rfl) ?_
  refine lv_iload_n hx hb dX10_postpone_1 rfl (lv_at hl 1 rfl) ?_
  refine ro_callV (n := 1) (As := [.int na]) (rest := []) hx hb hml hown ht hK hP hD hS hA hE (ct_X10_isMatch l dC dI x0 se fx fse hfx_2 hfse_4 _ na) [0, 1] [] rfl (by decide) rfl 0 (ci := 10) rfl rfl rfl gv_X10_195 rfl rfl (by decide +kernel) ⟨Nat.le_of_ble_eq_true rfl, Nat.le_of_ble_eq_true rfl⟩ rfl hl.1 (Nat.le_of_ble_eq_true rfl) ⟨Nat.le_of_ble_eq_true rfl, Nat.le_of_ble_eq_true rfl⟩ rfl dX10_postpone_2 (fun H locs hP hS => ?_)
  refine lv_if_ne (tgt := 11) hx hb dX10_postpone_5 (by decide) (fun c1 => ?_) (fun c1 => ?_)
  · exact absurd (by decide) c1
  refine lv_bipush (v := (-2)) hx hb dX10_postpone_8 (by decide) ?_
  exact W.iret hx hb hr (fun t ht9 hW => ⟨⟨_, (), rfl, rfl, trivial⟩, hS.F ht9⟩) hS.2.2 dX10_postpone_10
abbrev cX10_moved : ByteArray := prog_1_method_17_code
def yX10_moved : MethodName := ⟨RX10, "moved", "(I)I"⟩
theorem dX10_moved_0 : decode cX10_moved 0 = .ok (.iload_n 1, 1) := by decide +kernel
theorem dX10_moved_1 : decode cX10_moved 1 = .ok (.aload_n 0, 1) := by decide +kernel
theorem dX10_moved_2 : decode cX10_moved 2 = .ok (.getfield 28, 3) := by decide +kernel
theorem dX10_moved_5 : decode cX10_moved 5 = .ok (.getfield 238, 3) := by decide +kernel
theorem kw_168 : Cond.fieldLink RX10 238 "SportsHouse$Season" "movedCount" "I" ∈ lw_g := lw_at 168 (by decide +kernel) rfl
theorem dX10_moved_8 : decode cX10_moved 8 = .ok (.invokestatic 115, 3) := by decide +kernel
theorem dX10_moved_11 : decode cX10_moved 11 = .ok (.ifCond .eq 15, 3) := by decide +kernel
theorem dX10_moved_26 : decode cX10_moved 26 = .ok (.iconst (-1), 1) := by decide +kernel
theorem dX10_moved_27 : decode cX10_moved 27 = .ok (.ireturn, 1) := by decide +kernel
set_option maxHeartbeats 4000000 in
set_option maxRecDepth 100000 in
theorem ct_X10_moved (l : Launch) (dC : Nat → ClassId) (dI : Nat → Nat → Nat) (x0 : Nat) (se : Nat) (fx : List Value) (fse : List Value) (hfx_2 : fx[2]? = some (.ref se)) (hfse_12 : fse[12]? = some (.int 0)) (sz : Nat) (na : Int32) : Met l yX10_moved (.code yX10_moved cX10_moved 2 (some .int) :: lw_g) ({ frames := 2, cells := 0, slots := 0, locals := 120 }) (ro_P dC dI [(x0, .inr (10, fx)), (se, .inr (6, fse))] [] sz [.ref x0, .int na]) (ri_Q (-1) (va_A [] sz)) 0 0 (va_A [] sz) := by
  refine ro_entry (by decide) (Nat.le_of_ble_eq_true rfl) ?_
  intro p e s m below meth c ls hx hb hr hlocks ht hown hin hml hsz hP hK hD hE hl
  subst hsz
  have hS : va_S (va_A [] s.heap.size) s.heap s.heap [] := va_S.rf
  have hA : ∀ q, s.heap.size ≤ q → va_A [] s.heap.size q := fun q h => Or.inr h
  have hl : lv_has ls 2 [(0, .ref x0), (1, .int na)] := hl
  have hown : s.vm.findClass RX10 = some m.cls := hown
  refine lv_iload_n hx hb dX10_moved_0 rfl (lv_at hl 1 rfl) ?_
  refine lv_aload_n hx hb dX10_moved_1 rfl (lv_at hl 0 rfl) ?_
  refine va_get (D := (dC, dI)) (ci := 10) (v := .ref se) (C := RX10) (T := TX10) (N := 7) hx hb ht inX10 hown hK hP 0 rfl rfl 2 (by decide) (ht _ kw_407) (fun _ h9 => h9) hfx_2 dX10_moved_2 ?_
  refine va_get (D := (dC, dI)) (ci := 6) (v := .int 0) (C := RX6) (T := TX6) (N := 16) hx hb ht inX6 hown hK hP 1 rfl rfl 12 (by decide) (ht _ kw_168) (fun _ h9 => h9) hfse_12 dX10_moved_5 ?_
  refine ro_callS (n := 2) (As := [.int na, .int 0]) (rest := []) hx hb hml hown ht hK hP hS hA hE (ct_X10_isBelow l dC dI  _ na 0) gv_X10_115 rfl rfl (by decide +kernel) ⟨Nat.le_of_ble_eq_true rfl, Nat.le_of_ble_eq_true rfl⟩ rfl hl.1 (Nat.le_of_ble_eq_true rfl) ⟨Nat.le_of_ble_eq_true rfl, Nat.le_of_ble_eq_true rfl⟩ rfl dX10_moved_8 (fun H locs hP hS => ?_)
  refine lv_topi (fun r1 er1 => ?_)
  have er1 : r1 = 0 := er1.trans (sp_below0 na)
  subst er1
  refine lv_if_eq (tgt := 26) hx hb dX10_moved_11 (by decide) (fun c2 => ?_) (fun c2 => ?_)
  rotate_left
  · exact absurd (by decide) c2
  refine lv_iconst (v := (-1)) hx hb dX10_moved_26 (by decide) ?_
  exact W.iret hx hb hr (fun t ht9 hW => ⟨⟨_, (), rfl, rfl, trivial⟩, hS.F ht9⟩) hS.2.2 dX10_moved_27
abbrev cX10_deduct : ByteArray := prog_1_method_18_code
def yX10_deduct : MethodName := ⟨RX10, "deduct", "(III)I"⟩
theorem dX10_deduct_0 : decode cX10_deduct 0 = .ok (.aload_n 0, 1) := by decide +kernel
theorem dX10_deduct_1 : decode cX10_deduct 1 = .ok (.iload_n 1, 1) := by decide +kernel
theorem dX10_deduct_2 : decode cX10_deduct 2 = .ok (.invokevirtual 107, 3) := by decide +kernel
theorem dX10_deduct_5 : decode cX10_deduct 5 = .ok (.ifCond .eq 11, 3) := by decide +kernel
theorem dX10_deduct_16 : decode cX10_deduct 16 = .ok (.bipush (-2), 2) := by decide +kernel
theorem dX10_deduct_18 : decode cX10_deduct 18 = .ok (.ireturn, 1) := by decide +kernel
set_option maxHeartbeats 4000000 in
set_option maxRecDepth 100000 in
theorem ct_X10_deduct (l : Launch) (dC : Nat → ClassId) (dI : Nat → Nat → Nat) (x0 : Nat) (se : Nat) (fx : List Value) (fse : List Value) (hfx_2 : fx[2]? = some (.ref se)) (hfse_2 : fse[2]? = some (.int 0)) (sz : Nat) (na : Int32) (nb : Int32) (nc : Int32) : Met l yX10_deduct (.code yX10_deduct cX10_deduct 4 (some .int) :: lw_g) ({ frames := 2, cells := 0, slots := 0, locals := 120 }) (ro_P dC dI [(x0, .inr (10, fx)), (se, .inr (6, fse))] [] sz [.ref x0, .int na, .int nb, .int nc]) (ri_Q (-2) (va_A [] sz)) 0 0 (va_A [] sz) := by
  refine ro_entry (by decide) (Nat.le_of_ble_eq_true rfl) ?_
  intro p e s m below meth c ls hx hb hr hlocks ht hown hin hml hsz hP hK hD hE hl
  subst hsz
  have hS : va_S (va_A [] s.heap.size) s.heap s.heap [] := va_S.rf
  have hA : ∀ q, s.heap.size ≤ q → va_A [] s.heap.size q := fun q h => Or.inr h
  have hl : lv_has ls 4 [(0, .ref x0), (1, .int na), (2, .int nb), (3, .int nc)] := hl
  have hown : s.vm.findClass RX10 = some m.cls := hown
  refine lv_aload_n hx hb dX10_deduct_0 rfl (lv_at hl 0 rfl) ?_
  refine lv_iload_n hx hb dX10_deduct_1 rfl (lv_at hl 1 rfl) ?_
  refine ro_callV (n := 1) (As := [.int na]) (rest := []) hx hb hml hown ht hK hP hD hS hA hE (ct_X10_isCompetition l dC dI x0 se fx fse hfx_2 hfse_2 _ na) [0, 1] [] rfl (by decide) rfl 0 (ci := 10) rfl rfl rfl gv_X10_107 rfl rfl (by decide +kernel) ⟨Nat.le_of_ble_eq_true rfl, Nat.le_of_ble_eq_true rfl⟩ rfl hl.1 (Nat.le_of_ble_eq_true rfl) ⟨Nat.le_of_ble_eq_true rfl, Nat.le_of_ble_eq_true rfl⟩ rfl dX10_deduct_2 (fun H locs hP hS => ?_)
  refine lv_if_eq (tgt := 16) hx hb dX10_deduct_5 (by decide) (fun c1 => ?_) (fun c1 => ?_)
  rotate_left
  · exact absurd (by decide) c1
  refine lv_bipush (v := (-2)) hx hb dX10_deduct_16 (by decide) ?_
  exact W.iret hx hb hr (fun t ht9 hW => ⟨⟨_, (), rfl, rfl, trivial⟩, hS.F ht9⟩) hS.2.2 dX10_deduct_18
abbrev cX10_eligible : ByteArray := prog_1_method_19_code
def yX10_eligible : MethodName := ⟨RX10, "eligible", "(III)I"⟩
theorem dX10_eligible_0 : decode cX10_eligible 0 = .ok (.aload_n 0, 1) := by decide +kernel
theorem dX10_eligible_1 : decode cX10_eligible 1 = .ok (.iload_n 1, 1) := by decide +kernel
theorem dX10_eligible_2 : decode cX10_eligible 2 = .ok (.invokevirtual 134, 3) := by decide +kernel
theorem dX10_eligible_5 : decode cX10_eligible 5 = .ok (.ifCond .eq 11, 3) := by decide +kernel
theorem dX10_eligible_16 : decode cX10_eligible 16 = .ok (.bipush (-2), 2) := by decide +kernel
theorem dX10_eligible_18 : decode cX10_eligible 18 = .ok (.ireturn, 1) := by decide +kernel
set_option maxHeartbeats 4000000 in
set_option maxRecDepth 100000 in
theorem ct_X10_eligible (l : Launch) (dC : Nat → ClassId) (dI : Nat → Nat → Nat) (x0 : Nat) (th : Nat) (fx : List Value) (fth : List Value) (hfx_1 : fx[1]? = some (.ref th)) (hfth_3 : fth[3]? = some (.int 0)) (sz : Nat) (na : Int32) (nb : Int32) (nc : Int32) : Met l yX10_eligible (.code yX10_eligible cX10_eligible 4 (some .int) :: lw_g) ({ frames := 2, cells := 0, slots := 0, locals := 120 }) (ro_P dC dI [(x0, .inr (10, fx)), (th, .inr (8, fth))] [] sz [.ref x0, .int na, .int nb, .int nc]) (ri_Q (-2) (va_A [] sz)) 0 0 (va_A [] sz) := by
  refine ro_entry (by decide) (Nat.le_of_ble_eq_true rfl) ?_
  intro p e s m below meth c ls hx hb hr hlocks ht hown hin hml hsz hP hK hD hE hl
  subst hsz
  have hS : va_S (va_A [] s.heap.size) s.heap s.heap [] := va_S.rf
  have hA : ∀ q, s.heap.size ≤ q → va_A [] s.heap.size q := fun q h => Or.inr h
  have hl : lv_has ls 4 [(0, .ref x0), (1, .int na), (2, .int nb), (3, .int nc)] := hl
  have hown : s.vm.findClass RX10 = some m.cls := hown
  refine lv_aload_n hx hb dX10_eligible_0 rfl (lv_at hl 0 rfl) ?_
  refine lv_iload_n hx hb dX10_eligible_1 rfl (lv_at hl 1 rfl) ?_
  refine ro_callV (n := 1) (As := [.int na]) (rest := []) hx hb hml hown ht hK hP hD hS hA hE (ct_X10_isPerson l dC dI x0 th fx fth hfx_1 hfth_3 _ na) [0, 1] [] rfl (by decide) rfl 0 (ci := 10) rfl rfl rfl gv_X10_134 rfl rfl (by decide +kernel) ⟨Nat.le_of_ble_eq_true rfl, Nat.le_of_ble_eq_true rfl⟩ rfl hl.1 (Nat.le_of_ble_eq_true rfl) ⟨Nat.le_of_ble_eq_true rfl, Nat.le_of_ble_eq_true rfl⟩ rfl dX10_eligible_2 (fun H locs hP hS => ?_)
  refine lv_if_eq (tgt := 16) hx hb dX10_eligible_5 (by decide) (fun c1 => ?_) (fun c1 => ?_)
  rotate_left
  · exact absurd (by decide) c1
  refine lv_bipush (v := (-2)) hx hb dX10_eligible_16 (by decide) ?_
  exact W.iret hx hb hr (fun t ht9 hW => ⟨⟨_, (), rfl, rfl, trivial⟩, hS.F ht9⟩) hS.2.2 dX10_eligible_18
abbrev cX10_lineUp : ByteArray := prog_1_method_20_code
def yX10_lineUp : MethodName := ⟨RX10, "lineUp", "(III)I"⟩
theorem dX10_lineUp_0 : decode cX10_lineUp 0 = .ok (.aload_n 0, 1) := by decide +kernel
theorem dX10_lineUp_1 : decode cX10_lineUp 1 = .ok (.iload_n 1, 1) := by decide +kernel
theorem dX10_lineUp_2 : decode cX10_lineUp 2 = .ok (.invokevirtual 134, 3) := by decide +kernel
theorem dX10_lineUp_5 : decode cX10_lineUp 5 = .ok (.ifCond .eq 11, 3) := by decide +kernel
theorem dX10_lineUp_16 : decode cX10_lineUp 16 = .ok (.bipush (-2), 2) := by decide +kernel
theorem dX10_lineUp_18 : decode cX10_lineUp 18 = .ok (.ireturn, 1) := by decide +kernel
set_option maxHeartbeats 4000000 in
set_option maxRecDepth 100000 in
theorem ct_X10_lineUp (l : Launch) (dC : Nat → ClassId) (dI : Nat → Nat → Nat) (x0 : Nat) (th : Nat) (fx : List Value) (fth : List Value) (hfx_1 : fx[1]? = some (.ref th)) (hfth_3 : fth[3]? = some (.int 0)) (sz : Nat) (na : Int32) (nb : Int32) (nc : Int32) : Met l yX10_lineUp (.code yX10_lineUp cX10_lineUp 6 (some .int) :: lw_g) ({ frames := 2, cells := 0, slots := 0, locals := 120 }) (ro_P dC dI [(x0, .inr (10, fx)), (th, .inr (8, fth))] [] sz [.ref x0, .int na, .int nb, .int nc]) (ri_Q (-2) (va_A [] sz)) 0 0 (va_A [] sz) := by
  refine ro_entry (by decide) (Nat.le_of_ble_eq_true rfl) ?_
  intro p e s m below meth c ls hx hb hr hlocks ht hown hin hml hsz hP hK hD hE hl
  subst hsz
  have hS : va_S (va_A [] s.heap.size) s.heap s.heap [] := va_S.rf
  have hA : ∀ q, s.heap.size ≤ q → va_A [] s.heap.size q := fun q h => Or.inr h
  have hl : lv_has ls 6 [(0, .ref x0), (1, .int na), (2, .int nb), (3, .int nc)] := hl
  have hown : s.vm.findClass RX10 = some m.cls := hown
  refine lv_aload_n hx hb dX10_lineUp_0 rfl (lv_at hl 0 rfl) ?_
  refine lv_iload_n hx hb dX10_lineUp_1 rfl (lv_at hl 1 rfl) ?_
  refine ro_callV (n := 1) (As := [.int na]) (rest := []) hx hb hml hown ht hK hP hD hS hA hE (ct_X10_isPerson l dC dI x0 th fx fth hfx_1 hfth_3 _ na) [0, 1] [] rfl (by decide) rfl 0 (ci := 10) rfl rfl rfl gv_X10_134 rfl rfl (by decide +kernel) ⟨Nat.le_of_ble_eq_true rfl, Nat.le_of_ble_eq_true rfl⟩ rfl hl.1 (Nat.le_of_ble_eq_true rfl) ⟨Nat.le_of_ble_eq_true rfl, Nat.le_of_ble_eq_true rfl⟩ rfl dX10_lineUp_2 (fun H locs hP hS => ?_)
  refine lv_if_eq (tgt := 16) hx hb dX10_lineUp_5 (by decide) (fun c1 => ?_) (fun c1 => ?_)
  rotate_left
  · exact absurd (by decide) c1
  refine lv_bipush (v := (-2)) hx hb dX10_lineUp_16 (by decide) ?_
  exact W.iret hx hb hr (fun t ht9 hW => ⟨⟨_, (), rfl, rfl, trivial⟩, hS.F ht9⟩) hS.2.2 dX10_lineUp_18
abbrev cX10_start : ByteArray := prog_1_method_21_code
def yX10_start : MethodName := ⟨RX10, "start", "(I)I"⟩
theorem dX10_start_0 : decode cX10_start 0 = .ok (.aload_n 0, 1) := by decide +kernel
theorem dX10_start_1 : decode cX10_start 1 = .ok (.iload_n 1, 1) := by decide +kernel
theorem dX10_start_2 : decode cX10_start 2 = .ok (.invokevirtual 195, 3) := by decide +kernel
theorem dX10_start_5 : decode cX10_start 5 = .ok (.ifCond .ne 6, 3) := by decide +kernel
theorem dX10_start_8 : decode cX10_start 8 = .ok (.bipush (-2), 2) := by decide +kernel
theorem dX10_start_10 : decode cX10_start 10 = .ok (.ireturn, 1) := by decide +kernel
set_option maxHeartbeats 4000000 in
set_option maxRecDepth 100000 in
theorem ct_X10_start (l : Launch) (dC : Nat → ClassId) (dI : Nat → Nat → Nat) (x0 : Nat) (se : Nat) (fx : List Value) (fse : List Value) (hfx_2 : fx[2]? = some (.ref se)) (hfse_4 : fse[4]? = some (.int 0)) (sz : Nat) (na : Int32) : Met l yX10_start (.code yX10_start cX10_start 3 (some .int) :: lw_g) ({ frames := 2, cells := 0, slots := 0, locals := 120 }) (ro_P dC dI [(x0, .inr (10, fx)), (se, .inr (6, fse))] [] sz [.ref x0, .int na]) (ri_Q (-2) (va_A [] sz)) 0 0 (va_A [] sz) := by
  refine ro_entry (by decide) (Nat.le_of_ble_eq_true rfl) ?_
  intro p e s m below meth c ls hx hb hr hlocks ht hown hin hml hsz hP hK hD hE hl
  subst hsz
  have hS : va_S (va_A [] s.heap.size) s.heap s.heap [] := va_S.rf
  have hA : ∀ q, s.heap.size ≤ q → va_A [] s.heap.size q := fun q h => Or.inr h
  have hl : lv_has ls 3 [(0, .ref x0), (1, .int na)] := hl
  have hown : s.vm.findClass RX10 = some m.cls := hown
  refine lv_aload_n hx hb dX10_start_0 rfl (lv_at hl 0 rfl) ?_
  refine lv_iload_n hx hb dX10_start_1 rfl (lv_at hl 1 rfl) ?_
  refine ro_callV (n := 1) (As := [.int na]) (rest := []) hx hb hml hown ht hK hP hD hS hA hE (ct_X10_isMatch l dC dI x0 se fx fse hfx_2 hfse_4 _ na) [0, 1] [] rfl (by decide) rfl 0 (ci := 10) rfl rfl rfl gv_X10_195 rfl rfl (by decide +kernel) ⟨Nat.le_of_ble_eq_true rfl, Nat.le_of_ble_eq_true rfl⟩ rfl hl.1 (Nat.le_of_ble_eq_true rfl) ⟨Nat.le_of_ble_eq_true rfl, Nat.le_of_ble_eq_true rfl⟩ rfl dX10_start_2 (fun H locs hP hS => ?_)
  refine lv_if_ne (tgt := 11) hx hb dX10_start_5 (by decide) (fun c1 => ?_) (fun c1 => ?_)
  · exact absurd (by decide) c1
  refine lv_bipush (v := (-2)) hx hb dX10_start_8 (by decide) ?_
  exact W.iret hx hb hr (fun t ht9 hW => ⟨⟨_, (), rfl, rfl, trivial⟩, hS.F ht9⟩) hS.2.2 dX10_start_10
abbrev cX10_walkOver : ByteArray := prog_1_method_22_code
def yX10_walkOver : MethodName := ⟨RX10, "walkOver", "(II)I"⟩
theorem dX10_walkOver_0 : decode cX10_walkOver 0 = .ok (.aload_n 0, 1) := by decide +kernel
theorem dX10_walkOver_1 : decode cX10_walkOver 1 = .ok (.iload_n 1, 1) := by decide +kernel
theorem dX10_walkOver_2 : decode cX10_walkOver 2 = .ok (.invokevirtual 195, 3) := by decide +kernel
theorem dX10_walkOver_5 : decode cX10_walkOver 5 = .ok (.ifCond .ne 6, 3) := by decide +kernel
theorem dX10_walkOver_8 : decode cX10_walkOver 8 = .ok (.bipush (-2), 2) := by decide +kernel
theorem dX10_walkOver_10 : decode cX10_walkOver 10 = .ok (.ireturn, 1) := by decide +kernel
set_option maxHeartbeats 4000000 in
set_option maxRecDepth 100000 in
theorem ct_X10_walkOver (l : Launch) (dC : Nat → ClassId) (dI : Nat → Nat → Nat) (x0 : Nat) (se : Nat) (fx : List Value) (fse : List Value) (hfx_2 : fx[2]? = some (.ref se)) (hfse_4 : fse[4]? = some (.int 0)) (sz : Nat) (na : Int32) (nb : Int32) : Met l yX10_walkOver (.code yX10_walkOver cX10_walkOver 4 (some .int) :: lw_g) ({ frames := 2, cells := 0, slots := 0, locals := 120 }) (ro_P dC dI [(x0, .inr (10, fx)), (se, .inr (6, fse))] [] sz [.ref x0, .int na, .int nb]) (ri_Q (-2) (va_A [] sz)) 0 0 (va_A [] sz) := by
  refine ro_entry (by decide) (Nat.le_of_ble_eq_true rfl) ?_
  intro p e s m below meth c ls hx hb hr hlocks ht hown hin hml hsz hP hK hD hE hl
  subst hsz
  have hS : va_S (va_A [] s.heap.size) s.heap s.heap [] := va_S.rf
  have hA : ∀ q, s.heap.size ≤ q → va_A [] s.heap.size q := fun q h => Or.inr h
  have hl : lv_has ls 4 [(0, .ref x0), (1, .int na), (2, .int nb)] := hl
  have hown : s.vm.findClass RX10 = some m.cls := hown
  refine lv_aload_n hx hb dX10_walkOver_0 rfl (lv_at hl 0 rfl) ?_
  refine lv_iload_n hx hb dX10_walkOver_1 rfl (lv_at hl 1 rfl) ?_
  refine ro_callV (n := 1) (As := [.int na]) (rest := []) hx hb hml hown ht hK hP hD hS hA hE (ct_X10_isMatch l dC dI x0 se fx fse hfx_2 hfse_4 _ na) [0, 1] [] rfl (by decide) rfl 0 (ci := 10) rfl rfl rfl gv_X10_195 rfl rfl (by decide +kernel) ⟨Nat.le_of_ble_eq_true rfl, Nat.le_of_ble_eq_true rfl⟩ rfl hl.1 (Nat.le_of_ble_eq_true rfl) ⟨Nat.le_of_ble_eq_true rfl, Nat.le_of_ble_eq_true rfl⟩ rfl dX10_walkOver_2 (fun H locs hP hS => ?_)
  refine lv_if_ne (tgt := 11) hx hb dX10_walkOver_5 (by decide) (fun c1 => ?_) (fun c1 => ?_)
  · exact absurd (by decide) c1
  refine lv_bipush (v := (-2)) hx hb dX10_walkOver_8 (by decide) ?_
  exact W.iret hx hb hr (fun t ht9 hW => ⟨⟨_, (), rfl, rfl, trivial⟩, hS.F ht9⟩) hS.2.2 dX10_walkOver_10
abbrev cX10_event : ByteArray := prog_1_method_23_code
def yX10_event : MethodName := ⟨RX10, "event", "(IIIII)I"⟩
theorem dX10_event_0 : decode cX10_event 0 = .ok (.aload_n 0, 1) := by decide +kernel
theorem dX10_event_1 : decode cX10_event 1 = .ok (.iload_n 1, 1) := by decide +kernel
theorem dX10_event_2 : decode cX10_event 2 = .ok (.invokevirtual 195, 3) := by decide +kernel
theorem dX10_event_5 : decode cX10_event 5 = .ok (.ifCond .ne 6, 3) := by decide +kernel
theorem dX10_event_8 : decode cX10_event 8 = .ok (.bipush (-2), 2) := by decide +kernel
theorem dX10_event_10 : decode cX10_event 10 = .ok (.ireturn, 1) := by decide +kernel
set_option maxHeartbeats 4000000 in
set_option maxRecDepth 100000 in
theorem ct_X10_event (l : Launch) (dC : Nat → ClassId) (dI : Nat → Nat → Nat) (x0 : Nat) (se : Nat) (fx : List Value) (fse : List Value) (hfx_2 : fx[2]? = some (.ref se)) (hfse_4 : fse[4]? = some (.int 0)) (sz : Nat) (na : Int32) (nb : Int32) (nc : Int32) (nd : Int32) (ne : Int32) : Met l yX10_event (.code yX10_event cX10_event 8 (some .int) :: lw_g) ({ frames := 2, cells := 0, slots := 0, locals := 120 }) (ro_P dC dI [(x0, .inr (10, fx)), (se, .inr (6, fse))] [] sz [.ref x0, .int na, .int nb, .int nc, .int nd, .int ne]) (ri_Q (-2) (va_A [] sz)) 0 0 (va_A [] sz) := by
  refine ro_entry (by decide) (Nat.le_of_ble_eq_true rfl) ?_
  intro p e s m below meth c ls hx hb hr hlocks ht hown hin hml hsz hP hK hD hE hl
  subst hsz
  have hS : va_S (va_A [] s.heap.size) s.heap s.heap [] := va_S.rf
  have hA : ∀ q, s.heap.size ≤ q → va_A [] s.heap.size q := fun q h => Or.inr h
  have hl : lv_has ls 8 [(0, .ref x0), (1, .int na), (2, .int nb), (3, .int nc), (4, .int nd), (5, .int ne)] := hl
  have hown : s.vm.findClass RX10 = some m.cls := hown
  refine lv_aload_n hx hb dX10_event_0 rfl (lv_at hl 0 rfl) ?_
  refine lv_iload_n hx hb dX10_event_1 rfl (lv_at hl 1 rfl) ?_
  refine ro_callV (n := 1) (As := [.int na]) (rest := []) hx hb hml hown ht hK hP hD hS hA hE (ct_X10_isMatch l dC dI x0 se fx fse hfx_2 hfse_4 _ na) [0, 1] [] rfl (by decide) rfl 0 (ci := 10) rfl rfl rfl gv_X10_195 rfl rfl (by decide +kernel) ⟨Nat.le_of_ble_eq_true rfl, Nat.le_of_ble_eq_true rfl⟩ rfl hl.1 (Nat.le_of_ble_eq_true rfl) ⟨Nat.le_of_ble_eq_true rfl, Nat.le_of_ble_eq_true rfl⟩ rfl dX10_event_2 (fun H locs hP hS => ?_)
  refine lv_if_ne (tgt := 11) hx hb dX10_event_5 (by decide) (fun c1 => ?_) (fun c1 => ?_)
  · exact absurd (by decide) c1
  refine lv_bipush (v := (-2)) hx hb dX10_event_8 (by decide) ?_
  exact W.iret hx hb hr (fun t ht9 hW => ⟨⟨_, (), rfl, rfl, trivial⟩, hS.F ht9⟩) hS.2.2 dX10_event_10
abbrev cX10_review : ByteArray := prog_1_method_24_code
def yX10_review : MethodName := ⟨RX10, "review", "(IIIIII)I"⟩
theorem dX10_review_0 : decode cX10_review 0 = .ok (.aload_n 0, 1) := by decide +kernel
theorem dX10_review_1 : decode cX10_review 1 = .ok (.iload_n 1, 1) := by decide +kernel
theorem dX10_review_2 : decode cX10_review 2 = .ok (.invokevirtual 195, 3) := by decide +kernel
theorem dX10_review_5 : decode cX10_review 5 = .ok (.ifCond .ne 6, 3) := by decide +kernel
theorem dX10_review_8 : decode cX10_review 8 = .ok (.bipush (-2), 2) := by decide +kernel
theorem dX10_review_10 : decode cX10_review 10 = .ok (.ireturn, 1) := by decide +kernel
set_option maxHeartbeats 4000000 in
set_option maxRecDepth 100000 in
theorem ct_X10_review (l : Launch) (dC : Nat → ClassId) (dI : Nat → Nat → Nat) (x0 : Nat) (se : Nat) (fx : List Value) (fse : List Value) (hfx_2 : fx[2]? = some (.ref se)) (hfse_4 : fse[4]? = some (.int 0)) (sz : Nat) (na : Int32) (nb : Int32) (nc : Int32) (nd : Int32) (ne : Int32) (nf : Int32) : Met l yX10_review (.code yX10_review cX10_review 8 (some .int) :: lw_g) ({ frames := 2, cells := 0, slots := 0, locals := 120 }) (ro_P dC dI [(x0, .inr (10, fx)), (se, .inr (6, fse))] [] sz [.ref x0, .int na, .int nb, .int nc, .int nd, .int ne, .int nf]) (ri_Q (-2) (va_A [] sz)) 0 0 (va_A [] sz) := by
  refine ro_entry (by decide) (Nat.le_of_ble_eq_true rfl) ?_
  intro p e s m below meth c ls hx hb hr hlocks ht hown hin hml hsz hP hK hD hE hl
  subst hsz
  have hS : va_S (va_A [] s.heap.size) s.heap s.heap [] := va_S.rf
  have hA : ∀ q, s.heap.size ≤ q → va_A [] s.heap.size q := fun q h => Or.inr h
  have hl : lv_has ls 8 [(0, .ref x0), (1, .int na), (2, .int nb), (3, .int nc), (4, .int nd), (5, .int ne), (6, .int nf)] := hl
  have hown : s.vm.findClass RX10 = some m.cls := hown
  refine lv_aload_n hx hb dX10_review_0 rfl (lv_at hl 0 rfl) ?_
  refine lv_iload_n hx hb dX10_review_1 rfl (lv_at hl 1 rfl) ?_
  refine ro_callV (n := 1) (As := [.int na]) (rest := []) hx hb hml hown ht hK hP hD hS hA hE (ct_X10_isMatch l dC dI x0 se fx fse hfx_2 hfse_4 _ na) [0, 1] [] rfl (by decide) rfl 0 (ci := 10) rfl rfl rfl gv_X10_195 rfl rfl (by decide +kernel) ⟨Nat.le_of_ble_eq_true rfl, Nat.le_of_ble_eq_true rfl⟩ rfl hl.1 (Nat.le_of_ble_eq_true rfl) ⟨Nat.le_of_ble_eq_true rfl, Nat.le_of_ble_eq_true rfl⟩ rfl dX10_review_2 (fun H locs hP hS => ?_)
  refine lv_if_ne (tgt := 11) hx hb dX10_review_5 (by decide) (fun c1 => ?_) (fun c1 => ?_)
  · exact absurd (by decide) c1
  refine lv_bipush (v := (-2)) hx hb dX10_review_8 (by decide) ?_
  exact W.iret hx hb hr (fun t ht9 hW => ⟨⟨_, (), rfl, rfl, trivial⟩, hS.F ht9⟩) hS.2.2 dX10_review_10
abbrev cX10_rows : ByteArray := prog_1_method_25_code
def yX10_rows : MethodName := ⟨RX10, "rows", "(II)I"⟩
theorem dX10_rows_0 : decode cX10_rows 0 = .ok (.aload_n 0, 1) := by decide +kernel
theorem dX10_rows_1 : decode cX10_rows 1 = .ok (.iload_n 1, 1) := by decide +kernel
theorem dX10_rows_2 : decode cX10_rows 2 = .ok (.invokevirtual 195, 3) := by decide +kernel
theorem dX10_rows_5 : decode cX10_rows 5 = .ok (.ifCond .ne 6, 3) := by decide +kernel
theorem dX10_rows_8 : decode cX10_rows 8 = .ok (.bipush (-2), 2) := by decide +kernel
theorem dX10_rows_10 : decode cX10_rows 10 = .ok (.ireturn, 1) := by decide +kernel
set_option maxHeartbeats 4000000 in
set_option maxRecDepth 100000 in
theorem ct_X10_rows (l : Launch) (dC : Nat → ClassId) (dI : Nat → Nat → Nat) (x0 : Nat) (se : Nat) (fx : List Value) (fse : List Value) (hfx_2 : fx[2]? = some (.ref se)) (hfse_4 : fse[4]? = some (.int 0)) (sz : Nat) (na : Int32) (nb : Int32) : Met l yX10_rows (.code yX10_rows cX10_rows 4 (some .int) :: lw_g) ({ frames := 2, cells := 0, slots := 0, locals := 120 }) (ro_P dC dI [(x0, .inr (10, fx)), (se, .inr (6, fse))] [] sz [.ref x0, .int na, .int nb]) (ri_Q (-2) (va_A [] sz)) 0 0 (va_A [] sz) := by
  refine ro_entry (by decide) (Nat.le_of_ble_eq_true rfl) ?_
  intro p e s m below meth c ls hx hb hr hlocks ht hown hin hml hsz hP hK hD hE hl
  subst hsz
  have hS : va_S (va_A [] s.heap.size) s.heap s.heap [] := va_S.rf
  have hA : ∀ q, s.heap.size ≤ q → va_A [] s.heap.size q := fun q h => Or.inr h
  have hl : lv_has ls 4 [(0, .ref x0), (1, .int na), (2, .int nb)] := hl
  have hown : s.vm.findClass RX10 = some m.cls := hown
  refine lv_aload_n hx hb dX10_rows_0 rfl (lv_at hl 0 rfl) ?_
  refine lv_iload_n hx hb dX10_rows_1 rfl (lv_at hl 1 rfl) ?_
  refine ro_callV (n := 1) (As := [.int na]) (rest := []) hx hb hml hown ht hK hP hD hS hA hE (ct_X10_isMatch l dC dI x0 se fx fse hfx_2 hfse_4 _ na) [0, 1] [] rfl (by decide) rfl 0 (ci := 10) rfl rfl rfl gv_X10_195 rfl rfl (by decide +kernel) ⟨Nat.le_of_ble_eq_true rfl, Nat.le_of_ble_eq_true rfl⟩ rfl hl.1 (Nat.le_of_ble_eq_true rfl) ⟨Nat.le_of_ble_eq_true rfl, Nat.le_of_ble_eq_true rfl⟩ rfl dX10_rows_2 (fun H locs hP hS => ?_)
  refine lv_if_ne (tgt := 11) hx hb dX10_rows_5 (by decide) (fun c1 => ?_) (fun c1 => ?_)
  · exact absurd (by decide) c1
  refine lv_bipush (v := (-2)) hx hb dX10_rows_8 (by decide) ?_
  exact W.iret hx hb hr (fun t ht9 hW => ⟨⟨_, (), rfl, rfl, trivial⟩, hS.F ht9⟩) hS.2.2 dX10_rows_10
abbrev cX10_row : ByteArray := prog_1_method_26_code
def yX10_row : MethodName := ⟨RX10, "row", "(III)I"⟩
theorem dX10_row_0 : decode cX10_row 0 = .ok (.aload_n 0, 1) := by decide +kernel
theorem dX10_row_1 : decode cX10_row 1 = .ok (.iload_n 1, 1) := by decide +kernel
theorem dX10_row_2 : decode cX10_row 2 = .ok (.invokevirtual 195, 3) := by decide +kernel
theorem dX10_row_5 : decode cX10_row 5 = .ok (.ifCond .ne 6, 3) := by decide +kernel
theorem dX10_row_8 : decode cX10_row 8 = .ok (.bipush (-2), 2) := by decide +kernel
theorem dX10_row_10 : decode cX10_row 10 = .ok (.ireturn, 1) := by decide +kernel
set_option maxHeartbeats 4000000 in
set_option maxRecDepth 100000 in
theorem ct_X10_row (l : Launch) (dC : Nat → ClassId) (dI : Nat → Nat → Nat) (x0 : Nat) (se : Nat) (fx : List Value) (fse : List Value) (hfx_2 : fx[2]? = some (.ref se)) (hfse_4 : fse[4]? = some (.int 0)) (sz : Nat) (na : Int32) (nb : Int32) (nc : Int32) : Met l yX10_row (.code yX10_row cX10_row 7 (some .int) :: lw_g) ({ frames := 2, cells := 0, slots := 0, locals := 120 }) (ro_P dC dI [(x0, .inr (10, fx)), (se, .inr (6, fse))] [] sz [.ref x0, .int na, .int nb, .int nc]) (ri_Q (-2) (va_A [] sz)) 0 0 (va_A [] sz) := by
  refine ro_entry (by decide) (Nat.le_of_ble_eq_true rfl) ?_
  intro p e s m below meth c ls hx hb hr hlocks ht hown hin hml hsz hP hK hD hE hl
  subst hsz
  have hS : va_S (va_A [] s.heap.size) s.heap s.heap [] := va_S.rf
  have hA : ∀ q, s.heap.size ≤ q → va_A [] s.heap.size q := fun q h => Or.inr h
  have hl : lv_has ls 7 [(0, .ref x0), (1, .int na), (2, .int nb), (3, .int nc)] := hl
  have hown : s.vm.findClass RX10 = some m.cls := hown
  refine lv_aload_n hx hb dX10_row_0 rfl (lv_at hl 0 rfl) ?_
  refine lv_iload_n hx hb dX10_row_1 rfl (lv_at hl 1 rfl) ?_
  refine ro_callV (n := 1) (As := [.int na]) (rest := []) hx hb hml hown ht hK hP hD hS hA hE (ct_X10_isMatch l dC dI x0 se fx fse hfx_2 hfse_4 _ na) [0, 1] [] rfl (by decide) rfl 0 (ci := 10) rfl rfl rfl gv_X10_195 rfl rfl (by decide +kernel) ⟨Nat.le_of_ble_eq_true rfl, Nat.le_of_ble_eq_true rfl⟩ rfl hl.1 (Nat.le_of_ble_eq_true rfl) ⟨Nat.le_of_ble_eq_true rfl, Nat.le_of_ble_eq_true rfl⟩ rfl dX10_row_2 (fun H locs hP hS => ?_)
  refine lv_if_ne (tgt := 11) hx hb dX10_row_5 (by decide) (fun c1 => ?_) (fun c1 => ?_)
  · exact absurd (by decide) c1
  refine lv_bipush (v := (-2)) hx hb dX10_row_8 (by decide) ?_
  exact W.iret hx hb hr (fun t ht9 hW => ⟨⟨_, (), rfl, rfl, trivial⟩, hS.F ht9⟩) hS.2.2 dX10_row_10
abbrev cX10_state : ByteArray := prog_1_method_27_code
def yX10_state : MethodName := ⟨RX10, "state", "(II)I"⟩
theorem dX10_state_0 : decode cX10_state 0 = .ok (.aload_n 0, 1) := by decide +kernel
theorem dX10_state_1 : decode cX10_state 1 = .ok (.iload_n 1, 1) := by decide +kernel
theorem dX10_state_2 : decode cX10_state 2 = .ok (.invokevirtual 195, 3) := by decide +kernel
theorem dX10_state_5 : decode cX10_state 5 = .ok (.ifCond .ne 6, 3) := by decide +kernel
theorem dX10_state_8 : decode cX10_state 8 = .ok (.bipush (-2), 2) := by decide +kernel
theorem dX10_state_10 : decode cX10_state 10 = .ok (.ireturn, 1) := by decide +kernel
set_option maxHeartbeats 4000000 in
set_option maxRecDepth 100000 in
theorem ct_X10_state (l : Launch) (dC : Nat → ClassId) (dI : Nat → Nat → Nat) (x0 : Nat) (se : Nat) (fx : List Value) (fse : List Value) (hfx_2 : fx[2]? = some (.ref se)) (hfse_4 : fse[4]? = some (.int 0)) (sz : Nat) (na : Int32) (nb : Int32) : Met l yX10_state (.code yX10_state cX10_state 4 (some .int) :: lw_g) ({ frames := 2, cells := 0, slots := 0, locals := 120 }) (ro_P dC dI [(x0, .inr (10, fx)), (se, .inr (6, fse))] [] sz [.ref x0, .int na, .int nb]) (ri_Q (-2) (va_A [] sz)) 0 0 (va_A [] sz) := by
  refine ro_entry (by decide) (Nat.le_of_ble_eq_true rfl) ?_
  intro p e s m below meth c ls hx hb hr hlocks ht hown hin hml hsz hP hK hD hE hl
  subst hsz
  have hS : va_S (va_A [] s.heap.size) s.heap s.heap [] := va_S.rf
  have hA : ∀ q, s.heap.size ≤ q → va_A [] s.heap.size q := fun q h => Or.inr h
  have hl : lv_has ls 4 [(0, .ref x0), (1, .int na), (2, .int nb)] := hl
  have hown : s.vm.findClass RX10 = some m.cls := hown
  refine lv_aload_n hx hb dX10_state_0 rfl (lv_at hl 0 rfl) ?_
  refine lv_iload_n hx hb dX10_state_1 rfl (lv_at hl 1 rfl) ?_
  refine ro_callV (n := 1) (As := [.int na]) (rest := []) hx hb hml hown ht hK hP hD hS hA hE (ct_X10_isMatch l dC dI x0 se fx fse hfx_2 hfse_4 _ na) [0, 1] [] rfl (by decide) rfl 0 (ci := 10) rfl rfl rfl gv_X10_195 rfl rfl (by decide +kernel) ⟨Nat.le_of_ble_eq_true rfl, Nat.le_of_ble_eq_true rfl⟩ rfl hl.1 (Nat.le_of_ble_eq_true rfl) ⟨Nat.le_of_ble_eq_true rfl, Nat.le_of_ble_eq_true rfl⟩ rfl dX10_state_2 (fun H locs hP hS => ?_)
  refine lv_if_ne (tgt := 11) hx hb dX10_state_5 (by decide) (fun c1 => ?_) (fun c1 => ?_)
  · exact absurd (by decide) c1
  refine lv_bipush (v := (-2)) hx hb dX10_state_8 (by decide) ?_
  exact W.iret hx hb hr (fun t ht9 hW => ⟨⟨_, (), rfl, rfl, trivial⟩, hS.F ht9⟩) hS.2.2 dX10_state_10
abbrev cX10_onField : ByteArray := prog_1_method_28_code
def yX10_onField : MethodName := ⟨RX10, "onField", "(III)I"⟩
theorem dX10_onField_0 : decode cX10_onField 0 = .ok (.aload_n 0, 1) := by decide +kernel
theorem dX10_onField_1 : decode cX10_onField 1 = .ok (.iload_n 1, 1) := by decide +kernel
theorem dX10_onField_2 : decode cX10_onField 2 = .ok (.invokevirtual 195, 3) := by decide +kernel
theorem dX10_onField_5 : decode cX10_onField 5 = .ok (.ifCond .ne 6, 3) := by decide +kernel
theorem dX10_onField_8 : decode cX10_onField 8 = .ok (.bipush (-2), 2) := by decide +kernel
theorem dX10_onField_10 : decode cX10_onField 10 = .ok (.ireturn, 1) := by decide +kernel
set_option maxHeartbeats 4000000 in
set_option maxRecDepth 100000 in
theorem ct_X10_onField (l : Launch) (dC : Nat → ClassId) (dI : Nat → Nat → Nat) (x0 : Nat) (se : Nat) (fx : List Value) (fse : List Value) (hfx_2 : fx[2]? = some (.ref se)) (hfse_4 : fse[4]? = some (.int 0)) (sz : Nat) (na : Int32) (nb : Int32) (nc : Int32) : Met l yX10_onField (.code yX10_onField cX10_onField 5 (some .int) :: lw_g) ({ frames := 2, cells := 0, slots := 0, locals := 120 }) (ro_P dC dI [(x0, .inr (10, fx)), (se, .inr (6, fse))] [] sz [.ref x0, .int na, .int nb, .int nc]) (ri_Q (-2) (va_A [] sz)) 0 0 (va_A [] sz) := by
  refine ro_entry (by decide) (Nat.le_of_ble_eq_true rfl) ?_
  intro p e s m below meth c ls hx hb hr hlocks ht hown hin hml hsz hP hK hD hE hl
  subst hsz
  have hS : va_S (va_A [] s.heap.size) s.heap s.heap [] := va_S.rf
  have hA : ∀ q, s.heap.size ≤ q → va_A [] s.heap.size q := fun q h => Or.inr h
  have hl : lv_has ls 5 [(0, .ref x0), (1, .int na), (2, .int nb), (3, .int nc)] := hl
  have hown : s.vm.findClass RX10 = some m.cls := hown
  refine lv_aload_n hx hb dX10_onField_0 rfl (lv_at hl 0 rfl) ?_
  refine lv_iload_n hx hb dX10_onField_1 rfl (lv_at hl 1 rfl) ?_
  refine ro_callV (n := 1) (As := [.int na]) (rest := []) hx hb hml hown ht hK hP hD hS hA hE (ct_X10_isMatch l dC dI x0 se fx fse hfx_2 hfse_4 _ na) [0, 1] [] rfl (by decide) rfl 0 (ci := 10) rfl rfl rfl gv_X10_195 rfl rfl (by decide +kernel) ⟨Nat.le_of_ble_eq_true rfl, Nat.le_of_ble_eq_true rfl⟩ rfl hl.1 (Nat.le_of_ble_eq_true rfl) ⟨Nat.le_of_ble_eq_true rfl, Nat.le_of_ble_eq_true rfl⟩ rfl dX10_onField_2 (fun H locs hP hS => ?_)
  refine lv_if_ne (tgt := 11) hx hb dX10_onField_5 (by decide) (fun c1 => ?_) (fun c1 => ?_)
  · exact absurd (by decide) c1
  refine lv_bipush (v := (-2)) hx hb dX10_onField_8 (by decide) ?_
  exact W.iret hx hb hr (fun t ht9 hW => ⟨⟨_, (), rfl, rfl, trivial⟩, hS.F ht9⟩) hS.2.2 dX10_onField_10
abbrev cX10_table : ByteArray := prog_1_method_29_code
def yX10_table : MethodName := ⟨RX10, "table", "(IIII)I"⟩
theorem dX10_table_0 : decode cX10_table 0 = .ok (.aload_n 0, 1) := by decide +kernel
theorem dX10_table_1 : decode cX10_table 1 = .ok (.iload_n 1, 1) := by decide +kernel
theorem dX10_table_2 : decode cX10_table 2 = .ok (.invokevirtual 107, 3) := by decide +kernel
theorem dX10_table_5 : decode cX10_table 5 = .ok (.ifCond .eq 11, 3) := by decide +kernel
theorem dX10_table_16 : decode cX10_table 16 = .ok (.bipush (-2), 2) := by decide +kernel
theorem dX10_table_18 : decode cX10_table 18 = .ok (.ireturn, 1) := by decide +kernel
set_option maxHeartbeats 4000000 in
set_option maxRecDepth 100000 in
theorem ct_X10_table (l : Launch) (dC : Nat → ClassId) (dI : Nat → Nat → Nat) (x0 : Nat) (se : Nat) (fx : List Value) (fse : List Value) (hfx_2 : fx[2]? = some (.ref se)) (hfse_2 : fse[2]? = some (.int 0)) (sz : Nat) (na : Int32) (nb : Int32) (nc : Int32) (nd : Int32) : Met l yX10_table (.code yX10_table cX10_table 7 (some .int) :: lw_g) ({ frames := 2, cells := 0, slots := 0, locals := 120 }) (ro_P dC dI [(x0, .inr (10, fx)), (se, .inr (6, fse))] [] sz [.ref x0, .int na, .int nb, .int nc, .int nd]) (ri_Q (-2) (va_A [] sz)) 0 0 (va_A [] sz) := by
  refine ro_entry (by decide) (Nat.le_of_ble_eq_true rfl) ?_
  intro p e s m below meth c ls hx hb hr hlocks ht hown hin hml hsz hP hK hD hE hl
  subst hsz
  have hS : va_S (va_A [] s.heap.size) s.heap s.heap [] := va_S.rf
  have hA : ∀ q, s.heap.size ≤ q → va_A [] s.heap.size q := fun q h => Or.inr h
  have hl : lv_has ls 7 [(0, .ref x0), (1, .int na), (2, .int nb), (3, .int nc), (4, .int nd)] := hl
  have hown : s.vm.findClass RX10 = some m.cls := hown
  refine lv_aload_n hx hb dX10_table_0 rfl (lv_at hl 0 rfl) ?_
  refine lv_iload_n hx hb dX10_table_1 rfl (lv_at hl 1 rfl) ?_
  refine ro_callV (n := 1) (As := [.int na]) (rest := []) hx hb hml hown ht hK hP hD hS hA hE (ct_X10_isCompetition l dC dI x0 se fx fse hfx_2 hfse_2 _ na) [0, 1] [] rfl (by decide) rfl 0 (ci := 10) rfl rfl rfl gv_X10_107 rfl rfl (by decide +kernel) ⟨Nat.le_of_ble_eq_true rfl, Nat.le_of_ble_eq_true rfl⟩ rfl hl.1 (Nat.le_of_ble_eq_true rfl) ⟨Nat.le_of_ble_eq_true rfl, Nat.le_of_ble_eq_true rfl⟩ rfl dX10_table_2 (fun H locs hP hS => ?_)
  refine lv_if_eq (tgt := 16) hx hb dX10_table_5 (by decide) (fun c1 => ?_) (fun c1 => ?_)
  rotate_left
  · exact absurd (by decide) c1
  refine lv_bipush (v := (-2)) hx hb dX10_table_16 (by decide) ?_
  exact W.iret hx hb hr (fun t ht9 hW => ⟨⟨_, (), rfl, rfl, trivial⟩, hS.F ht9⟩) hS.2.2 dX10_table_18
abbrev cX10_standing : ByteArray := prog_1_method_30_code
def yX10_standing : MethodName := ⟨RX10, "standing", "(III)I"⟩
theorem dX10_standing_0 : decode cX10_standing 0 = .ok (.aload_n 0, 1) := by decide +kernel
theorem dX10_standing_1 : decode cX10_standing 1 = .ok (.iload_n 1, 1) := by decide +kernel
theorem dX10_standing_2 : decode cX10_standing 2 = .ok (.invokevirtual 107, 3) := by decide +kernel
theorem dX10_standing_5 : decode cX10_standing 5 = .ok (.ifCond .ne 6, 3) := by decide +kernel
theorem dX10_standing_8 : decode cX10_standing 8 = .ok (.bipush (-2), 2) := by decide +kernel
theorem dX10_standing_10 : decode cX10_standing 10 = .ok (.ireturn, 1) := by decide +kernel
set_option maxHeartbeats 4000000 in
set_option maxRecDepth 100000 in
theorem ct_X10_standing (l : Launch) (dC : Nat → ClassId) (dI : Nat → Nat → Nat) (x0 : Nat) (se : Nat) (fx : List Value) (fse : List Value) (hfx_2 : fx[2]? = some (.ref se)) (hfse_2 : fse[2]? = some (.int 0)) (sz : Nat) (na : Int32) (nb : Int32) (nc : Int32) : Met l yX10_standing (.code yX10_standing cX10_standing 5 (some .int) :: lw_g) ({ frames := 2, cells := 0, slots := 0, locals := 120 }) (ro_P dC dI [(x0, .inr (10, fx)), (se, .inr (6, fse))] [] sz [.ref x0, .int na, .int nb, .int nc]) (ri_Q (-2) (va_A [] sz)) 0 0 (va_A [] sz) := by
  refine ro_entry (by decide) (Nat.le_of_ble_eq_true rfl) ?_
  intro p e s m below meth c ls hx hb hr hlocks ht hown hin hml hsz hP hK hD hE hl
  subst hsz
  have hS : va_S (va_A [] s.heap.size) s.heap s.heap [] := va_S.rf
  have hA : ∀ q, s.heap.size ≤ q → va_A [] s.heap.size q := fun q h => Or.inr h
  have hl : lv_has ls 5 [(0, .ref x0), (1, .int na), (2, .int nb), (3, .int nc)] := hl
  have hown : s.vm.findClass RX10 = some m.cls := hown
  refine lv_aload_n hx hb dX10_standing_0 rfl (lv_at hl 0 rfl) ?_
  refine lv_iload_n hx hb dX10_standing_1 rfl (lv_at hl 1 rfl) ?_
  refine ro_callV (n := 1) (As := [.int na]) (rest := []) hx hb hml hown ht hK hP hD hS hA hE (ct_X10_isCompetition l dC dI x0 se fx fse hfx_2 hfse_2 _ na) [0, 1] [] rfl (by decide) rfl 0 (ci := 10) rfl rfl rfl gv_X10_107 rfl rfl (by decide +kernel) ⟨Nat.le_of_ble_eq_true rfl, Nat.le_of_ble_eq_true rfl⟩ rfl hl.1 (Nat.le_of_ble_eq_true rfl) ⟨Nat.le_of_ble_eq_true rfl, Nat.le_of_ble_eq_true rfl⟩ rfl dX10_standing_2 (fun H locs hP hS => ?_)
  refine lv_if_ne (tgt := 11) hx hb dX10_standing_5 (by decide) (fun c1 => ?_) (fun c1 => ?_)
  · exact absurd (by decide) c1
  refine lv_bipush (v := (-2)) hx hb dX10_standing_8 (by decide) ?_
  exact W.iret hx hb hr (fun t ht9 hW => ⟨⟨_, (), rfl, rfl, trivial⟩, hS.F ht9⟩) hS.2.2 dX10_standing_10
abbrev cX10_parted : ByteArray := prog_1_method_31_code
def yX10_parted : MethodName := ⟨RX10, "parted", "(III)I"⟩
theorem dX10_parted_0 : decode cX10_parted 0 = .ok (.aload_n 0, 1) := by decide +kernel
theorem dX10_parted_1 : decode cX10_parted 1 = .ok (.iload_n 1, 1) := by decide +kernel
theorem dX10_parted_2 : decode cX10_parted 2 = .ok (.invokevirtual 107, 3) := by decide +kernel
theorem dX10_parted_5 : decode cX10_parted 5 = .ok (.ifCond .ne 6, 3) := by decide +kernel
theorem dX10_parted_8 : decode cX10_parted 8 = .ok (.bipush (-2), 2) := by decide +kernel
theorem dX10_parted_10 : decode cX10_parted 10 = .ok (.ireturn, 1) := by decide +kernel
set_option maxHeartbeats 4000000 in
set_option maxRecDepth 100000 in
theorem ct_X10_parted (l : Launch) (dC : Nat → ClassId) (dI : Nat → Nat → Nat) (x0 : Nat) (se : Nat) (fx : List Value) (fse : List Value) (hfx_2 : fx[2]? = some (.ref se)) (hfse_2 : fse[2]? = some (.int 0)) (sz : Nat) (na : Int32) (nb : Int32) (nc : Int32) : Met l yX10_parted (.code yX10_parted cX10_parted 5 (some .int) :: lw_g) ({ frames := 2, cells := 0, slots := 0, locals := 120 }) (ro_P dC dI [(x0, .inr (10, fx)), (se, .inr (6, fse))] [] sz [.ref x0, .int na, .int nb, .int nc]) (ri_Q (-2) (va_A [] sz)) 0 0 (va_A [] sz) := by
  refine ro_entry (by decide) (Nat.le_of_ble_eq_true rfl) ?_
  intro p e s m below meth c ls hx hb hr hlocks ht hown hin hml hsz hP hK hD hE hl
  subst hsz
  have hS : va_S (va_A [] s.heap.size) s.heap s.heap [] := va_S.rf
  have hA : ∀ q, s.heap.size ≤ q → va_A [] s.heap.size q := fun q h => Or.inr h
  have hl : lv_has ls 5 [(0, .ref x0), (1, .int na), (2, .int nb), (3, .int nc)] := hl
  have hown : s.vm.findClass RX10 = some m.cls := hown
  refine lv_aload_n hx hb dX10_parted_0 rfl (lv_at hl 0 rfl) ?_
  refine lv_iload_n hx hb dX10_parted_1 rfl (lv_at hl 1 rfl) ?_
  refine ro_callV (n := 1) (As := [.int na]) (rest := []) hx hb hml hown ht hK hP hD hS hA hE (ct_X10_isCompetition l dC dI x0 se fx fse hfx_2 hfse_2 _ na) [0, 1] [] rfl (by decide) rfl 0 (ci := 10) rfl rfl rfl gv_X10_107 rfl rfl (by decide +kernel) ⟨Nat.le_of_ble_eq_true rfl, Nat.le_of_ble_eq_true rfl⟩ rfl hl.1 (Nat.le_of_ble_eq_true rfl) ⟨Nat.le_of_ble_eq_true rfl, Nat.le_of_ble_eq_true rfl⟩ rfl dX10_parted_2 (fun H locs hP hS => ?_)
  refine lv_if_ne (tgt := 11) hx hb dX10_parted_5 (by decide) (fun c1 => ?_) (fun c1 => ?_)
  · exact absurd (by decide) c1
  refine lv_bipush (v := (-2)) hx hb dX10_parted_8 (by decide) ?_
  exact W.iret hx hb hr (fun t ht9 hW => ⟨⟨_, (), rfl, rfl, trivial⟩, hS.F ht9⟩) hS.2.2 dX10_parted_10
abbrev cX10_can : ByteArray := prog_1_method_32_code
def yX10_can : MethodName := ⟨RX10, "can", "(II)I"⟩
theorem dX10_can_0 : decode cX10_can 0 = .ok (.aload_n 0, 1) := by decide +kernel
theorem dX10_can_1 : decode cX10_can 1 = .ok (.iload_n 1, 1) := by decide +kernel
theorem dX10_can_2 : decode cX10_can 2 = .ok (.invokevirtual 107, 3) := by decide +kernel
theorem dX10_can_5 : decode cX10_can 5 = .ok (.ifCond .eq 11, 3) := by decide +kernel
theorem dX10_can_16 : decode cX10_can 16 = .ok (.bipush (-2), 2) := by decide +kernel
theorem dX10_can_18 : decode cX10_can 18 = .ok (.ireturn, 1) := by decide +kernel
set_option maxHeartbeats 4000000 in
set_option maxRecDepth 100000 in
theorem ct_X10_can (l : Launch) (dC : Nat → ClassId) (dI : Nat → Nat → Nat) (x0 : Nat) (se : Nat) (fx : List Value) (fse : List Value) (hfx_2 : fx[2]? = some (.ref se)) (hfse_2 : fse[2]? = some (.int 0)) (sz : Nat) (na : Int32) (nb : Int32) : Met l yX10_can (.code yX10_can cX10_can 4 (some .int) :: lw_g) ({ frames := 2, cells := 0, slots := 0, locals := 120 }) (ro_P dC dI [(x0, .inr (10, fx)), (se, .inr (6, fse))] [] sz [.ref x0, .int na, .int nb]) (ri_Q (-2) (va_A [] sz)) 0 0 (va_A [] sz) := by
  refine ro_entry (by decide) (Nat.le_of_ble_eq_true rfl) ?_
  intro p e s m below meth c ls hx hb hr hlocks ht hown hin hml hsz hP hK hD hE hl
  subst hsz
  have hS : va_S (va_A [] s.heap.size) s.heap s.heap [] := va_S.rf
  have hA : ∀ q, s.heap.size ≤ q → va_A [] s.heap.size q := fun q h => Or.inr h
  have hl : lv_has ls 4 [(0, .ref x0), (1, .int na), (2, .int nb)] := hl
  have hown : s.vm.findClass RX10 = some m.cls := hown
  refine lv_aload_n hx hb dX10_can_0 rfl (lv_at hl 0 rfl) ?_
  refine lv_iload_n hx hb dX10_can_1 rfl (lv_at hl 1 rfl) ?_
  refine ro_callV (n := 1) (As := [.int na]) (rest := []) hx hb hml hown ht hK hP hD hS hA hE (ct_X10_isCompetition l dC dI x0 se fx fse hfx_2 hfse_2 _ na) [0, 1] [] rfl (by decide) rfl 0 (ci := 10) rfl rfl rfl gv_X10_107 rfl rfl (by decide +kernel) ⟨Nat.le_of_ble_eq_true rfl, Nat.le_of_ble_eq_true rfl⟩ rfl hl.1 (Nat.le_of_ble_eq_true rfl) ⟨Nat.le_of_ble_eq_true rfl, Nat.le_of_ble_eq_true rfl⟩ rfl dX10_can_2 (fun H locs hP hS => ?_)
  refine lv_if_eq (tgt := 16) hx hb dX10_can_5 (by decide) (fun c1 => ?_) (fun c1 => ?_)
  rotate_left
  · exact absurd (by decide) c1
  refine lv_bipush (v := (-2)) hx hb dX10_can_16 (by decide) ?_
  exact W.iret hx hb hr (fun t ht9 hW => ⟨⟨_, (), rfl, rfl, trivial⟩, hS.F ht9⟩) hS.2.2 dX10_can_18
abbrev cX10_witness : ByteArray := prog_1_method_33_code
def yX10_witness : MethodName := ⟨RX10, "witness", "(I)I"⟩
theorem dX10_witness_0 : decode cX10_witness 0 = .ok (.aload_n 0, 1) := by decide +kernel
theorem dX10_witness_1 : decode cX10_witness 1 = .ok (.iload_n 1, 1) := by decide +kernel
theorem dX10_witness_2 : decode cX10_witness 2 = .ok (.invokevirtual 195, 3) := by decide +kernel
theorem dX10_witness_5 : decode cX10_witness 5 = .ok (.ifCond .ne 6, 3) := by decide +kernel
theorem dX10_witness_8 : decode cX10_witness 8 = .ok (.bipush (-2), 2) := by decide +kernel
theorem dX10_witness_10 : decode cX10_witness 10 = .ok (.ireturn, 1) := by decide +kernel
set_option maxHeartbeats 4000000 in
set_option maxRecDepth 100000 in
theorem ct_X10_witness (l : Launch) (dC : Nat → ClassId) (dI : Nat → Nat → Nat) (x0 : Nat) (se : Nat) (fx : List Value) (fse : List Value) (hfx_2 : fx[2]? = some (.ref se)) (hfse_4 : fse[4]? = some (.int 0)) (sz : Nat) (na : Int32) : Met l yX10_witness (.code yX10_witness cX10_witness 2 (some .int) :: lw_g) ({ frames := 2, cells := 0, slots := 0, locals := 120 }) (ro_P dC dI [(x0, .inr (10, fx)), (se, .inr (6, fse))] [] sz [.ref x0, .int na]) (ri_Q (-2) (va_A [] sz)) 0 0 (va_A [] sz) := by
  refine ro_entry (by decide) (Nat.le_of_ble_eq_true rfl) ?_
  intro p e s m below meth c ls hx hb hr hlocks ht hown hin hml hsz hP hK hD hE hl
  subst hsz
  have hS : va_S (va_A [] s.heap.size) s.heap s.heap [] := va_S.rf
  have hA : ∀ q, s.heap.size ≤ q → va_A [] s.heap.size q := fun q h => Or.inr h
  have hl : lv_has ls 2 [(0, .ref x0), (1, .int na)] := hl
  have hown : s.vm.findClass RX10 = some m.cls := hown
  refine lv_aload_n hx hb dX10_witness_0 rfl (lv_at hl 0 rfl) ?_
  refine lv_iload_n hx hb dX10_witness_1 rfl (lv_at hl 1 rfl) ?_
  refine ro_callV (n := 1) (As := [.int na]) (rest := []) hx hb hml hown ht hK hP hD hS hA hE (ct_X10_isMatch l dC dI x0 se fx fse hfx_2 hfse_4 _ na) [0, 1] [] rfl (by decide) rfl 0 (ci := 10) rfl rfl rfl gv_X10_195 rfl rfl (by decide +kernel) ⟨Nat.le_of_ble_eq_true rfl, Nat.le_of_ble_eq_true rfl⟩ rfl hl.1 (Nat.le_of_ble_eq_true rfl) ⟨Nat.le_of_ble_eq_true rfl, Nat.le_of_ble_eq_true rfl⟩ rfl dX10_witness_2 (fun H locs hP hS => ?_)
  refine lv_if_ne (tgt := 11) hx hb dX10_witness_5 (by decide) (fun c1 => ?_) (fun c1 => ?_)
  · exact absurd (by decide) c1
  refine lv_bipush (v := (-2)) hx hb dX10_witness_8 (by decide) ?_
  exact W.iret hx hb hr (fun t ht9 hW => ⟨⟨_, (), rfl, rfl, trivial⟩, hS.F ht9⟩) hS.2.2 dX10_witness_10
abbrev cX10_cut : ByteArray := prog_1_method_34_code
def yX10_cut : MethodName := ⟨RX10, "cut", "()I"⟩
theorem dX10_cut_0 : decode cX10_cut 0 = .ok (.aload_n 0, 1) := by decide +kernel
theorem dX10_cut_1 : decode cX10_cut 1 = .ok (.getfield 46, 3) := by decide +kernel
theorem kw_409 : Cond.fieldLink RX10 46 "SportsHouse" "title" "LSportsHouse$Title;" ∈ lw_g := lw_at 409 (by decide +kernel) rfl
theorem dX10_cut_4 : decode cX10_cut 4 = .ok (.getfield 374, 3) := by decide +kernel
theorem kw_273 : Cond.fieldLink RX10 374 "SportsHouse$Title" "cutBits" "I" ∈ lw_g := lw_at 273 (by decide +kernel) rfl
theorem dX10_cut_7 : decode cX10_cut 7 = .ok (.ireturn, 1) := by decide +kernel
set_option maxHeartbeats 4000000 in
set_option maxRecDepth 100000 in
theorem ct_X10_cut (l : Launch) (dC : Nat → ClassId) (dI : Nat → Nat → Nat) (x0 : Nat) (ti : Nat) (fx : List Value) (fti : List Value) (hfx_4 : fx[4]? = some (.ref ti)) (hfti_3 : fti[3]? = some (.int 0)) (sz : Nat)  : Met l yX10_cut (.code yX10_cut cX10_cut 1 (some .int) :: lw_g) ({ frames := 2, cells := 0, slots := 0, locals := 120 }) (ro_P dC dI [(x0, .inr (10, fx)), (ti, .inr (9, fti))] [] sz [.ref x0]) (ri_Q 0 (va_A [] sz)) 0 0 (va_A [] sz) := by
  refine ro_entry (by decide) (Nat.le_of_ble_eq_true rfl) ?_
  intro p e s m below meth c ls hx hb hr hlocks ht hown hin hml hsz hP hK hD hE hl
  subst hsz
  have hS : va_S (va_A [] s.heap.size) s.heap s.heap [] := va_S.rf
  have hA : ∀ q, s.heap.size ≤ q → va_A [] s.heap.size q := fun q h => Or.inr h
  have hl : lv_has ls 1 [(0, .ref x0)] := hl
  have hown : s.vm.findClass RX10 = some m.cls := hown
  refine lv_aload_n hx hb dX10_cut_0 rfl (lv_at hl 0 rfl) ?_
  refine va_get (D := (dC, dI)) (ci := 10) (v := .ref ti) (C := RX10) (T := TX10) (N := 7) hx hb ht inX10 hown hK hP 0 rfl rfl 4 (by decide) (ht _ kw_409) (fun _ h9 => h9) hfx_4 dX10_cut_1 ?_
  refine va_get (D := (dC, dI)) (ci := 9) (v := .int 0) (C := RX9) (T := TX9) (N := 16) hx hb ht inX9 hown hK hP 1 rfl rfl 3 (by decide) (ht _ kw_273) (fun _ h9 => h9) hfti_3 dX10_cut_4 ?_
  exact W.iret hx hb hr (fun t ht9 hW => ⟨⟨_, (), rfl, rfl, trivial⟩, hS.F ht9⟩) hS.2.2 dX10_cut_7
abbrev cX10_firsts : ByteArray := prog_1_method_35_code
def yX10_firsts : MethodName := ⟨RX10, "firsts", "(II)I"⟩
theorem dX10_firsts_0 : decode cX10_firsts 0 = .ok (.aload_n 0, 1) := by decide +kernel
theorem dX10_firsts_1 : decode cX10_firsts 1 = .ok (.iload_n 1, 1) := by decide +kernel
theorem dX10_firsts_2 : decode cX10_firsts 2 = .ok (.invokevirtual 107, 3) := by decide +kernel
theorem dX10_firsts_5 : decode cX10_firsts 5 = .ok (.ifCond .eq 11, 3) := by decide +kernel
theorem dX10_firsts_16 : decode cX10_firsts 16 = .ok (.bipush (-2), 2) := by decide +kernel
theorem dX10_firsts_18 : decode cX10_firsts 18 = .ok (.ireturn, 1) := by decide +kernel
set_option maxHeartbeats 4000000 in
set_option maxRecDepth 100000 in
theorem ct_X10_firsts (l : Launch) (dC : Nat → ClassId) (dI : Nat → Nat → Nat) (x0 : Nat) (se : Nat) (fx : List Value) (fse : List Value) (hfx_2 : fx[2]? = some (.ref se)) (hfse_2 : fse[2]? = some (.int 0)) (sz : Nat) (na : Int32) (nb : Int32) : Met l yX10_firsts (.code yX10_firsts cX10_firsts 4 (some .int) :: lw_g) ({ frames := 2, cells := 0, slots := 0, locals := 120 }) (ro_P dC dI [(x0, .inr (10, fx)), (se, .inr (6, fse))] [] sz [.ref x0, .int na, .int nb]) (ri_Q (-2) (va_A [] sz)) 0 0 (va_A [] sz) := by
  refine ro_entry (by decide) (Nat.le_of_ble_eq_true rfl) ?_
  intro p e s m below meth c ls hx hb hr hlocks ht hown hin hml hsz hP hK hD hE hl
  subst hsz
  have hS : va_S (va_A [] s.heap.size) s.heap s.heap [] := va_S.rf
  have hA : ∀ q, s.heap.size ≤ q → va_A [] s.heap.size q := fun q h => Or.inr h
  have hl : lv_has ls 4 [(0, .ref x0), (1, .int na), (2, .int nb)] := hl
  have hown : s.vm.findClass RX10 = some m.cls := hown
  refine lv_aload_n hx hb dX10_firsts_0 rfl (lv_at hl 0 rfl) ?_
  refine lv_iload_n hx hb dX10_firsts_1 rfl (lv_at hl 1 rfl) ?_
  refine ro_callV (n := 1) (As := [.int na]) (rest := []) hx hb hml hown ht hK hP hD hS hA hE (ct_X10_isCompetition l dC dI x0 se fx fse hfx_2 hfse_2 _ na) [0, 1] [] rfl (by decide) rfl 0 (ci := 10) rfl rfl rfl gv_X10_107 rfl rfl (by decide +kernel) ⟨Nat.le_of_ble_eq_true rfl, Nat.le_of_ble_eq_true rfl⟩ rfl hl.1 (Nat.le_of_ble_eq_true rfl) ⟨Nat.le_of_ble_eq_true rfl, Nat.le_of_ble_eq_true rfl⟩ rfl dX10_firsts_2 (fun H locs hP hS => ?_)
  refine lv_if_eq (tgt := 16) hx hb dX10_firsts_5 (by decide) (fun c1 => ?_) (fun c1 => ?_)
  rotate_left
  · exact absurd (by decide) c1
  refine lv_bipush (v := (-2)) hx hb dX10_firsts_16 (by decide) ?_
  exact W.iret hx hb hr (fun t ht9 hW => ⟨⟨_, (), rfl, rfl, trivial⟩, hS.F ht9⟩) hS.2.2 dX10_firsts_18
abbrev cX10_pot : ByteArray := prog_1_method_37_code
def yX10_pot : MethodName := ⟨RX10, "pot", "(II)I"⟩
theorem dX10_pot_0 : decode cX10_pot 0 = .ok (.aload_n 0, 1) := by decide +kernel
theorem dX10_pot_1 : decode cX10_pot 1 = .ok (.iload_n 1, 1) := by decide +kernel
theorem dX10_pot_2 : decode cX10_pot 2 = .ok (.invokevirtual 137, 3) := by decide +kernel
theorem kw_645 : Cond.methodLink RX10 137 yX10_isClub ∈ lw_g := lw_at 645 (by decide +kernel) rfl
theorem kw_647 : Cond.instanceMethod yX10_isClub ∈ lw_g := lw_at 647 (by decide +kernel) rfl
theorem ks_X10_isClub : Cond.selects RX10 yX10_isClub yX10_isClub ∈ lw_g := lw_sel 1 rfl
theorem kw_648 : Cond.code yX10_isClub cX10_isClub 2 (some .boolean) ∈ lw_g := lw_at 648 (by decide +kernel) rfl
theorem gv_X10_137 : GoodIn lw_g (wsV RX10 137 RX10 yX10_isClub (.code yX10_isClub cX10_isClub 2 (some .boolean) :: lw_g)) := gi_V kw_645 kw_647 ks_X10_isClub kw_1 kw_648
theorem dX10_pot_5 : decode cX10_pot 5 = .ok (.ifCond .ne 6, 3) := by decide +kernel
theorem dX10_pot_8 : decode cX10_pot 8 = .ok (.bipush (-2), 2) := by decide +kernel
theorem dX10_pot_10 : decode cX10_pot 10 = .ok (.ireturn, 1) := by decide +kernel
set_option maxHeartbeats 4000000 in
set_option maxRecDepth 100000 in
theorem ct_X10_pot (l : Launch) (dC : Nat → ClassId) (dI : Nat → Nat → Nat) (x0 : Nat) (th : Nat) (fx : List Value) (fth : List Value) (hfx_1 : fx[1]? = some (.ref th)) (hfth_2 : fth[2]? = some (.int 0)) (sz : Nat) (na : Int32) (nb : Int32) : Met l yX10_pot (.code yX10_pot cX10_pot 3 (some .int) :: lw_g) ({ frames := 2, cells := 0, slots := 0, locals := 120 }) (ro_P dC dI [(x0, .inr (10, fx)), (th, .inr (8, fth))] [] sz [.ref x0, .int na, .int nb]) (ri_Q (-2) (va_A [] sz)) 0 0 (va_A [] sz) := by
  refine ro_entry (by decide) (Nat.le_of_ble_eq_true rfl) ?_
  intro p e s m below meth c ls hx hb hr hlocks ht hown hin hml hsz hP hK hD hE hl
  subst hsz
  have hS : va_S (va_A [] s.heap.size) s.heap s.heap [] := va_S.rf
  have hA : ∀ q, s.heap.size ≤ q → va_A [] s.heap.size q := fun q h => Or.inr h
  have hl : lv_has ls 3 [(0, .ref x0), (1, .int na), (2, .int nb)] := hl
  have hown : s.vm.findClass RX10 = some m.cls := hown
  refine lv_aload_n hx hb dX10_pot_0 rfl (lv_at hl 0 rfl) ?_
  refine lv_iload_n hx hb dX10_pot_1 rfl (lv_at hl 1 rfl) ?_
  refine ro_callV (n := 1) (As := [.int na]) (rest := []) hx hb hml hown ht hK hP hD hS hA hE (ct_X10_isClub l dC dI x0 th fx fth hfx_1 hfth_2 _ na) [0, 1] [] rfl (by decide) rfl 0 (ci := 10) rfl rfl rfl gv_X10_137 rfl rfl (by decide +kernel) ⟨Nat.le_of_ble_eq_true rfl, Nat.le_of_ble_eq_true rfl⟩ rfl hl.1 (Nat.le_of_ble_eq_true rfl) ⟨Nat.le_of_ble_eq_true rfl, Nat.le_of_ble_eq_true rfl⟩ rfl dX10_pot_2 (fun H locs hP hS => ?_)
  refine lv_if_ne (tgt := 11) hx hb dX10_pot_5 (by decide) (fun c1 => ?_) (fun c1 => ?_)
  · exact absurd (by decide) c1
  refine lv_bipush (v := (-2)) hx hb dX10_pot_8 (by decide) ?_
  exact W.iret hx hb hr (fun t ht9 hW => ⟨⟨_, (), rfl, rfl, trivial⟩, hS.F ht9⟩) hS.2.2 dX10_pot_10
abbrev cX10_ways : ByteArray := prog_1_method_38_code
def yX10_ways : MethodName := ⟨RX10, "ways", "()I"⟩
theorem dX10_ways_0 : decode cX10_ways 0 = .ok (.aload_n 0, 1) := by decide +kernel
theorem dX10_ways_1 : decode cX10_ways 1 = .ok (.getfield 53, 3) := by decide +kernel
theorem kw_410 : Cond.fieldLink RX10 53 "SportsHouse" "lots" "LSportsHouse$Lots;" ∈ lw_g := lw_at 410 (by decide +kernel) rfl
theorem dX10_ways_4 : decode cX10_ways 4 = .ok (.getfield 384, 3) := by decide +kernel
theorem kw_328 : Cond.fieldLink RX10 384 "SportsHouse$Lots" "groups" "I" ∈ lw_g := lw_at 328 (by decide +kernel) rfl
theorem dX10_ways_7 : decode cX10_ways 7 = .ok (.ifCond .ne 6, 3) := by decide +kernel
theorem dX10_ways_10 : decode cX10_ways 10 = .ok (.bipush (-4), 2) := by decide +kernel
theorem dX10_ways_12 : decode cX10_ways 12 = .ok (.ireturn, 1) := by decide +kernel
set_option maxHeartbeats 4000000 in
set_option maxRecDepth 100000 in
theorem ct_X10_ways (l : Launch) (dC : Nat → ClassId) (dI : Nat → Nat → Nat) (x0 : Nat) (lo : Nat) (fx : List Value) (flo : List Value) (hfx_5 : fx[5]? = some (.ref lo)) (hflo_1 : flo[1]? = some (.int 0)) (sz : Nat)  : Met l yX10_ways (.code yX10_ways cX10_ways 1 (some .int) :: lw_g) ({ frames := 2, cells := 0, slots := 0, locals := 120 }) (ro_P dC dI [(x0, .inr (10, fx)), (lo, .inr (1, flo))] [] sz [.ref x0]) (ri_Q (-4) (va_A [] sz)) 0 0 (va_A [] sz) := by
  refine ro_entry (by decide) (Nat.le_of_ble_eq_true rfl) ?_
  intro p e s m below meth c ls hx hb hr hlocks ht hown hin hml hsz hP hK hD hE hl
  subst hsz
  have hS : va_S (va_A [] s.heap.size) s.heap s.heap [] := va_S.rf
  have hA : ∀ q, s.heap.size ≤ q → va_A [] s.heap.size q := fun q h => Or.inr h
  have hl : lv_has ls 1 [(0, .ref x0)] := hl
  have hown : s.vm.findClass RX10 = some m.cls := hown
  refine lv_aload_n hx hb dX10_ways_0 rfl (lv_at hl 0 rfl) ?_
  refine va_get (D := (dC, dI)) (ci := 10) (v := .ref lo) (C := RX10) (T := TX10) (N := 7) hx hb ht inX10 hown hK hP 0 rfl rfl 5 (by decide) (ht _ kw_410) (fun _ h9 => h9) hfx_5 dX10_ways_1 ?_
  refine va_get (D := (dC, dI)) (ci := 1) (v := .int 0) (C := RX1) (T := TX1) (N := 16) hx hb ht inX1 hown hK hP 1 rfl rfl 1 (by decide) (ht _ kw_328) (fun _ h9 => h9) hflo_1 dX10_ways_4 ?_
  refine lv_if_ne (tgt := 13) hx hb dX10_ways_7 (by decide) (fun c1 => ?_) (fun c1 => ?_)
  · exact absurd (by decide) c1
  refine lv_bipush (v := (-4)) hx hb dX10_ways_10 (by decide) ?_
  exact W.iret hx hb hr (fun t ht9 hW => ⟨⟨_, (), rfl, rfl, trivial⟩, hS.F ht9⟩) hS.2.2 dX10_ways_12
abbrev cX10_chance : ByteArray := prog_1_method_39_code
def yX10_chance : MethodName := ⟨RX10, "chance", "(II)I"⟩
theorem dX10_chance_0 : decode cX10_chance 0 = .ok (.aload_n 0, 1) := by decide +kernel
theorem dX10_chance_1 : decode cX10_chance 1 = .ok (.iload_n 1, 1) := by decide +kernel
theorem dX10_chance_2 : decode cX10_chance 2 = .ok (.invokevirtual 137, 3) := by decide +kernel
theorem dX10_chance_5 : decode cX10_chance 5 = .ok (.ifCond .eq 26, 3) := by decide +kernel
theorem dX10_chance_31 : decode cX10_chance 31 = .ok (.bipush (-2), 2) := by decide +kernel
theorem dX10_chance_33 : decode cX10_chance 33 = .ok (.ireturn, 1) := by decide +kernel
set_option maxHeartbeats 4000000 in
set_option maxRecDepth 100000 in
theorem ct_X10_chance (l : Launch) (dC : Nat → ClassId) (dI : Nat → Nat → Nat) (x0 : Nat) (th : Nat) (fx : List Value) (fth : List Value) (hfx_1 : fx[1]? = some (.ref th)) (hfth_2 : fth[2]? = some (.int 0)) (sz : Nat) (na : Int32) (nb : Int32) : Met l yX10_chance (.code yX10_chance cX10_chance 3 (some .int) :: lw_g) ({ frames := 2, cells := 0, slots := 0, locals := 120 }) (ro_P dC dI [(x0, .inr (10, fx)), (th, .inr (8, fth))] [] sz [.ref x0, .int na, .int nb]) (ri_Q (-2) (va_A [] sz)) 0 0 (va_A [] sz) := by
  refine ro_entry (by decide) (Nat.le_of_ble_eq_true rfl) ?_
  intro p e s m below meth c ls hx hb hr hlocks ht hown hin hml hsz hP hK hD hE hl
  subst hsz
  have hS : va_S (va_A [] s.heap.size) s.heap s.heap [] := va_S.rf
  have hA : ∀ q, s.heap.size ≤ q → va_A [] s.heap.size q := fun q h => Or.inr h
  have hl : lv_has ls 3 [(0, .ref x0), (1, .int na), (2, .int nb)] := hl
  have hown : s.vm.findClass RX10 = some m.cls := hown
  refine lv_aload_n hx hb dX10_chance_0 rfl (lv_at hl 0 rfl) ?_
  refine lv_iload_n hx hb dX10_chance_1 rfl (lv_at hl 1 rfl) ?_
  refine ro_callV (n := 1) (As := [.int na]) (rest := []) hx hb hml hown ht hK hP hD hS hA hE (ct_X10_isClub l dC dI x0 th fx fth hfx_1 hfth_2 _ na) [0, 1] [] rfl (by decide) rfl 0 (ci := 10) rfl rfl rfl gv_X10_137 rfl rfl (by decide +kernel) ⟨Nat.le_of_ble_eq_true rfl, Nat.le_of_ble_eq_true rfl⟩ rfl hl.1 (Nat.le_of_ble_eq_true rfl) ⟨Nat.le_of_ble_eq_true rfl, Nat.le_of_ble_eq_true rfl⟩ rfl dX10_chance_2 (fun H locs hP hS => ?_)
  refine lv_if_eq (tgt := 31) hx hb dX10_chance_5 (by decide) (fun c1 => ?_) (fun c1 => ?_)
  rotate_left
  · exact absurd (by decide) c1
  refine lv_bipush (v := (-2)) hx hb dX10_chance_31 (by decide) ?_
  exact W.iret hx hb hr (fun t ht9 hW => ⟨⟨_, (), rfl, rfl, trivial⟩, hS.F ht9⟩) hS.2.2 dX10_chance_33
abbrev cX10_ball : ByteArray := prog_1_method_40_code
def yX10_ball : MethodName := ⟨RX10, "ball", "(IZ)I"⟩
theorem dX10_ball_0 : decode cX10_ball 0 = .ok (.aload_n 0, 1) := by decide +kernel
theorem dX10_ball_1 : decode cX10_ball 1 = .ok (.getfield 53, 3) := by decide +kernel
theorem dX10_ball_4 : decode cX10_ball 4 = .ok (.getfield 384, 3) := by decide +kernel
theorem dX10_ball_7 : decode cX10_ball 7 = .ok (.ifCond .eq 20, 3) := by decide +kernel
theorem dX10_ball_27 : decode cX10_ball 27 = .ok (.bipush (-4), 2) := by decide +kernel
theorem dX10_ball_29 : decode cX10_ball 29 = .ok (.ireturn, 1) := by decide +kernel
set_option maxHeartbeats 4000000 in
set_option maxRecDepth 100000 in
theorem ct_X10_ball (l : Launch) (dC : Nat → ClassId) (dI : Nat → Nat → Nat) (x0 : Nat) (lo : Nat) (fx : List Value) (flo : List Value) (hfx_5 : fx[5]? = some (.ref lo)) (hflo_1 : flo[1]? = some (.int 0)) (sz : Nat) (na : Int32) (nb : Int32) : Met l yX10_ball (.code yX10_ball cX10_ball 4 (some .int) :: lw_g) ({ frames := 2, cells := 0, slots := 0, locals := 120 }) (ro_P dC dI [(x0, .inr (10, fx)), (lo, .inr (1, flo))] [] sz [.ref x0, .int na, .int nb]) (ri_Q (-4) (va_A [] sz)) 0 0 (va_A [] sz) := by
  refine ro_entry (by decide) (Nat.le_of_ble_eq_true rfl) ?_
  intro p e s m below meth c ls hx hb hr hlocks ht hown hin hml hsz hP hK hD hE hl
  subst hsz
  have hS : va_S (va_A [] s.heap.size) s.heap s.heap [] := va_S.rf
  have hA : ∀ q, s.heap.size ≤ q → va_A [] s.heap.size q := fun q h => Or.inr h
  have hl : lv_has ls 4 [(0, .ref x0), (1, .int na), (2, .int nb)] := hl
  have hown : s.vm.findClass RX10 = some m.cls := hown
  refine lv_aload_n hx hb dX10_ball_0 rfl (lv_at hl 0 rfl) ?_
  refine va_get (D := (dC, dI)) (ci := 10) (v := .ref lo) (C := RX10) (T := TX10) (N := 7) hx hb ht inX10 hown hK hP 0 rfl rfl 5 (by decide) (ht _ kw_410) (fun _ h9 => h9) hfx_5 dX10_ball_1 ?_
  refine va_get (D := (dC, dI)) (ci := 1) (v := .int 0) (C := RX1) (T := TX1) (N := 16) hx hb ht inX1 hown hK hP 1 rfl rfl 1 (by decide) (ht _ kw_328) (fun _ h9 => h9) hflo_1 dX10_ball_4 ?_
  refine lv_if_eq (tgt := 27) hx hb dX10_ball_7 (by decide) (fun c1 => ?_) (fun c1 => ?_)
  rotate_left
  · exact absurd (by decide) c1
  refine lv_bipush (v := (-4)) hx hb dX10_ball_27 (by decide) ?_
  exact W.iret hx hb hr (fun t ht9 hW => ⟨⟨_, (), rfl, rfl, trivial⟩, hS.F ht9⟩) hS.2.2 dX10_ball_29
abbrev cX10_drawn : ByteArray := prog_1_method_41_code
def yX10_drawn : MethodName := ⟨RX10, "drawn", "(I)I"⟩
theorem dX10_drawn_0 : decode cX10_drawn 0 = .ok (.aload_n 0, 1) := by decide +kernel
theorem dX10_drawn_1 : decode cX10_drawn 1 = .ok (.iload_n 1, 1) := by decide +kernel
theorem dX10_drawn_2 : decode cX10_drawn 2 = .ok (.invokevirtual 137, 3) := by decide +kernel
theorem dX10_drawn_5 : decode cX10_drawn 5 = .ok (.ifCond .ne 6, 3) := by decide +kernel
theorem dX10_drawn_8 : decode cX10_drawn 8 = .ok (.bipush (-2), 2) := by decide +kernel
theorem dX10_drawn_10 : decode cX10_drawn 10 = .ok (.ireturn, 1) := by decide +kernel
set_option maxHeartbeats 4000000 in
set_option maxRecDepth 100000 in
theorem ct_X10_drawn (l : Launch) (dC : Nat → ClassId) (dI : Nat → Nat → Nat) (x0 : Nat) (th : Nat) (fx : List Value) (fth : List Value) (hfx_1 : fx[1]? = some (.ref th)) (hfth_2 : fth[2]? = some (.int 0)) (sz : Nat) (na : Int32) : Met l yX10_drawn (.code yX10_drawn cX10_drawn 2 (some .int) :: lw_g) ({ frames := 2, cells := 0, slots := 0, locals := 120 }) (ro_P dC dI [(x0, .inr (10, fx)), (th, .inr (8, fth))] [] sz [.ref x0, .int na]) (ri_Q (-2) (va_A [] sz)) 0 0 (va_A [] sz) := by
  refine ro_entry (by decide) (Nat.le_of_ble_eq_true rfl) ?_
  intro p e s m below meth c ls hx hb hr hlocks ht hown hin hml hsz hP hK hD hE hl
  subst hsz
  have hS : va_S (va_A [] s.heap.size) s.heap s.heap [] := va_S.rf
  have hA : ∀ q, s.heap.size ≤ q → va_A [] s.heap.size q := fun q h => Or.inr h
  have hl : lv_has ls 2 [(0, .ref x0), (1, .int na)] := hl
  have hown : s.vm.findClass RX10 = some m.cls := hown
  refine lv_aload_n hx hb dX10_drawn_0 rfl (lv_at hl 0 rfl) ?_
  refine lv_iload_n hx hb dX10_drawn_1 rfl (lv_at hl 1 rfl) ?_
  refine ro_callV (n := 1) (As := [.int na]) (rest := []) hx hb hml hown ht hK hP hD hS hA hE (ct_X10_isClub l dC dI x0 th fx fth hfx_1 hfth_2 _ na) [0, 1] [] rfl (by decide) rfl 0 (ci := 10) rfl rfl rfl gv_X10_137 rfl rfl (by decide +kernel) ⟨Nat.le_of_ble_eq_true rfl, Nat.le_of_ble_eq_true rfl⟩ rfl hl.1 (Nat.le_of_ble_eq_true rfl) ⟨Nat.le_of_ble_eq_true rfl, Nat.le_of_ble_eq_true rfl⟩ rfl dX10_drawn_2 (fun H locs hP hS => ?_)
  refine lv_if_ne (tgt := 11) hx hb dX10_drawn_5 (by decide) (fun c1 => ?_) (fun c1 => ?_)
  · exact absurd (by decide) c1
  refine lv_bipush (v := (-2)) hx hb dX10_drawn_8 (by decide) ?_
  exact W.iret hx hb hr (fun t ht9 hW => ⟨⟨_, (), rfl, rfl, trivial⟩, hS.F ht9⟩) hS.2.2 dX10_drawn_10
abbrev cX10_officialOf : ByteArray := prog_1_method_43_code
def yX10_officialOf : MethodName := ⟨RX10, "officialOf", "(I)I"⟩
theorem dX10_officialOf_0 : decode cX10_officialOf 0 = .ok (.aload_n 0, 1) := by decide +kernel
theorem dX10_officialOf_1 : decode cX10_officialOf 1 = .ok (.iload_n 1, 1) := by decide +kernel
theorem dX10_officialOf_2 : decode cX10_officialOf 2 = .ok (.invokevirtual 195, 3) := by decide +kernel
theorem dX10_officialOf_5 : decode cX10_officialOf 5 = .ok (.ifCond .eq 18, 3) := by decide +kernel
theorem dX10_officialOf_23 : decode cX10_officialOf 23 = .ok (.bipush (-2), 2) := by decide +kernel
theorem dX10_officialOf_25 : decode cX10_officialOf 25 = .ok (.ireturn, 1) := by decide +kernel
set_option maxHeartbeats 4000000 in
set_option maxRecDepth 100000 in
theorem ct_X10_officialOf (l : Launch) (dC : Nat → ClassId) (dI : Nat → Nat → Nat) (x0 : Nat) (se : Nat) (fx : List Value) (fse : List Value) (hfx_2 : fx[2]? = some (.ref se)) (hfse_4 : fse[4]? = some (.int 0)) (sz : Nat) (na : Int32) : Met l yX10_officialOf (.code yX10_officialOf cX10_officialOf 2 (some .int) :: lw_g) ({ frames := 2, cells := 0, slots := 0, locals := 120 }) (ro_P dC dI [(x0, .inr (10, fx)), (se, .inr (6, fse))] [] sz [.ref x0, .int na]) (ri_Q (-2) (va_A [] sz)) 0 0 (va_A [] sz) := by
  refine ro_entry (by decide) (Nat.le_of_ble_eq_true rfl) ?_
  intro p e s m below meth c ls hx hb hr hlocks ht hown hin hml hsz hP hK hD hE hl
  subst hsz
  have hS : va_S (va_A [] s.heap.size) s.heap s.heap [] := va_S.rf
  have hA : ∀ q, s.heap.size ≤ q → va_A [] s.heap.size q := fun q h => Or.inr h
  have hl : lv_has ls 2 [(0, .ref x0), (1, .int na)] := hl
  have hown : s.vm.findClass RX10 = some m.cls := hown
  refine lv_aload_n hx hb dX10_officialOf_0 rfl (lv_at hl 0 rfl) ?_
  refine lv_iload_n hx hb dX10_officialOf_1 rfl (lv_at hl 1 rfl) ?_
  refine ro_callV (n := 1) (As := [.int na]) (rest := []) hx hb hml hown ht hK hP hD hS hA hE (ct_X10_isMatch l dC dI x0 se fx fse hfx_2 hfse_4 _ na) [0, 1] [] rfl (by decide) rfl 0 (ci := 10) rfl rfl rfl gv_X10_195 rfl rfl (by decide +kernel) ⟨Nat.le_of_ble_eq_true rfl, Nat.le_of_ble_eq_true rfl⟩ rfl hl.1 (Nat.le_of_ble_eq_true rfl) ⟨Nat.le_of_ble_eq_true rfl, Nat.le_of_ble_eq_true rfl⟩ rfl dX10_officialOf_2 (fun H locs hP hS => ?_)
  refine lv_if_eq (tgt := 23) hx hb dX10_officialOf_5 (by decide) (fun c1 => ?_) (fun c1 => ?_)
  rotate_left
  · exact absurd (by decide) c1
  refine lv_bipush (v := (-2)) hx hb dX10_officialOf_23 (by decide) ?_
  exact W.iret hx hb hr (fun t ht9 hW => ⟨⟨_, (), rfl, rfl, trivial⟩, hS.F ht9⟩) hS.2.2 dX10_officialOf_25
abbrev cX10_count : ByteArray := prog_1_method_44_code
def yX10_count : MethodName := ⟨RX10, "count", "(I)I"⟩
theorem dX10_count_0 : decode cX10_count 0 = .ok (.iload_n 1, 1) := by decide +kernel
theorem dX10_count_1 : decode cX10_count 1 = .ok (.tableswitch 111 0 7 #[47, 55, 63, 71, 79, 87, 95, 103], 47) := by decide +kernel
theorem dX10_count_48 : decode cX10_count 48 = .ok (.aload_n 0, 1) := by decide +kernel
theorem dX10_count_49 : decode cX10_count 49 = .ok (.getfield 19, 3) := by decide +kernel
theorem dX10_count_52 : decode cX10_count 52 = .ok (.getfield 119, 3) := by decide +kernel
theorem dX10_count_55 : decode cX10_count 55 = .ok (.ireturn, 1) := by decide +kernel
theorem dX10_count_56 : decode cX10_count 56 = .ok (.aload_n 0, 1) := by decide +kernel
theorem dX10_count_57 : decode cX10_count 57 = .ok (.getfield 19, 3) := by decide +kernel
theorem dX10_count_60 : decode cX10_count 60 = .ok (.getfield 128, 3) := by decide +kernel
theorem dX10_count_63 : decode cX10_count 63 = .ok (.ireturn, 1) := by decide +kernel
theorem dX10_count_64 : decode cX10_count 64 = .ok (.aload_n 0, 1) := by decide +kernel
theorem dX10_count_65 : decode cX10_count 65 = .ok (.getfield 19, 3) := by decide +kernel
theorem dX10_count_68 : decode cX10_count 68 = .ok (.getfield 147, 3) := by decide +kernel
theorem kw_92 : Cond.fieldLink RX10 147 "SportsHouse$Things" "spans" "I" ∈ lw_g := lw_at 92 (by decide +kernel) rfl
theorem dX10_count_71 : decode cX10_count 71 = .ok (.ireturn, 1) := by decide +kernel
theorem dX10_count_72 : decode cX10_count 72 = .ok (.aload_n 0, 1) := by decide +kernel
theorem dX10_count_73 : decode cX10_count 73 = .ok (.getfield 19, 3) := by decide +kernel
theorem dX10_count_76 : decode cX10_count 76 = .ok (.getfield 154, 3) := by decide +kernel
theorem kw_104 : Cond.fieldLink RX10 154 "SportsHouse$Things" "officials" "I" ∈ lw_g := lw_at 104 (by decide +kernel) rfl
theorem dX10_count_79 : decode cX10_count 79 = .ok (.ireturn, 1) := by decide +kernel
theorem dX10_count_80 : decode cX10_count 80 = .ok (.aload_n 0, 1) := by decide +kernel
theorem dX10_count_81 : decode cX10_count 81 = .ok (.getfield 28, 3) := by decide +kernel
theorem dX10_count_84 : decode cX10_count 84 = .ok (.getfield 74, 3) := by decide +kernel
theorem dX10_count_87 : decode cX10_count 87 = .ok (.ireturn, 1) := by decide +kernel
theorem dX10_count_88 : decode cX10_count 88 = .ok (.aload_n 0, 1) := by decide +kernel
theorem dX10_count_89 : decode cX10_count 89 = .ok (.getfield 28, 3) := by decide +kernel
theorem dX10_count_92 : decode cX10_count 92 = .ok (.getfield 182, 3) := by decide +kernel
theorem dX10_count_95 : decode cX10_count 95 = .ok (.ireturn, 1) := by decide +kernel
theorem dX10_count_96 : decode cX10_count 96 = .ok (.aload_n 0, 1) := by decide +kernel
theorem dX10_count_97 : decode cX10_count 97 = .ok (.getfield 28, 3) := by decide +kernel
theorem dX10_count_100 : decode cX10_count 100 = .ok (.getfield 286, 3) := by decide +kernel
theorem kw_158 : Cond.fieldLink RX10 286 "SportsHouse$Season" "rowCount" "I" ∈ lw_g := lw_at 158 (by decide +kernel) rfl
theorem dX10_count_103 : decode cX10_count 103 = .ok (.ireturn, 1) := by decide +kernel
theorem dX10_count_104 : decode cX10_count 104 = .ok (.aload_n 0, 1) := by decide +kernel
theorem dX10_count_105 : decode cX10_count 105 = .ok (.getfield 19, 3) := by decide +kernel
theorem dX10_count_108 : decode cX10_count 108 = .ok (.getfield 163, 3) := by decide +kernel
theorem kw_105 : Cond.fieldLink RX10 163 "SportsHouse$Things" "today" "I" ∈ lw_g := lw_at 105 (by decide +kernel) rfl
theorem dX10_count_111 : decode cX10_count 111 = .ok (.ireturn, 1) := by decide +kernel
theorem dX10_count_112 : decode cX10_count 112 = .ok (.bipush (-3), 2) := by decide +kernel
theorem dX10_count_114 : decode cX10_count 114 = .ok (.ireturn, 1) := by decide +kernel
def sp_X10_count (na : Int32) : Int32 := if na = 0 then 0 else if na = 1 then 0 else if na = 2 then 0 else if na = 3 then 0 else if na = 4 then 0 else if na = 5 then 0 else if na = 6 then 0 else if na = 7 then 0 else (-3)
set_option maxHeartbeats 4000000 in
set_option maxRecDepth 100000 in
theorem ct_X10_count (l : Launch) (dC : Nat → ClassId) (dI : Nat → Nat → Nat) (x0 : Nat) (th : Nat) (se : Nat) (fx : List Value) (fth : List Value) (fse : List Value) (hfx_1 : fx[1]? = some (.ref th)) (hfx_2 : fx[2]? = some (.ref se)) (hfth_2 : fth[2]? = some (.int 0)) (hfth_3 : fth[3]? = some (.int 0)) (hfth_5 : fth[5]? = some (.int 0)) (hfth_12 : fth[12]? = some (.int 0)) (hfth_13 : fth[13]? = some (.int 0)) (hfse_2 : fse[2]? = some (.int 0)) (hfse_4 : fse[4]? = some (.int 0)) (hfse_5 : fse[5]? = some (.int 0)) (sz : Nat) (na : Int32) : Met l yX10_count (.code yX10_count cX10_count 2 (some .int) :: lw_g) ({ frames := 2, cells := 0, slots := 0, locals := 120 }) (ro_P dC dI [(x0, .inr (10, fx)), (th, .inr (8, fth)), (se, .inr (6, fse))] [] sz [.ref x0, .int na]) (ri_Q (sp_X10_count na) (va_A [] sz)) 0 0 (va_A [] sz) := by
  refine ro_entry (by decide) (Nat.le_of_ble_eq_true rfl) ?_
  intro p e s m below meth c ls hx hb hr hlocks ht hown hin hml hsz hP hK hD hE hl
  subst hsz
  have hS : va_S (va_A [] s.heap.size) s.heap s.heap [] := va_S.rf
  have hA : ∀ q, s.heap.size ≤ q → va_A [] s.heap.size q := fun q h => Or.inr h
  have hl : lv_has ls 2 [(0, .ref x0), (1, .int na)] := hl
  have hown : s.vm.findClass RX10 = some m.cls := hown
  refine lv_iload_n hx hb dX10_count_0 rfl (lv_at hl 1 rfl) ?_
  by_cases z1_0 : na = 0
  · refine lv_tableIn (off := 47) (tgt := 48) hx hb dX10_count_1 (by rw [z1_0]; decide) (by rw [z1_0]; decide) (by rw [z1_0]; rfl) (by decide) ?_
    refine lv_aload_n hx hb dX10_count_48 rfl (lv_at hl 0 rfl) ?_
    refine va_get (D := (dC, dI)) (ci := 10) (v := .ref th) (C := RX10) (T := TX10) (N := 7) hx hb ht inX10 hown hK hP 0 rfl rfl 1 (by decide) (ht _ kw_406) (fun _ h9 => h9) hfx_1 dX10_count_49 ?_
    refine va_get (D := (dC, dI)) (ci := 8) (v := .int 0) (C := RX8) (T := TX8) (N := 14) hx hb ht inX8 hown hK hP 1 rfl rfl 2 (by decide) (ht _ kw_87) (fun _ h9 => h9) hfth_2 dX10_count_52 ?_
    exact W.iret hx hb hr (fun t ht9 hW => ⟨⟨_, (), rfl, (by unfold sp_X10_count; rw [if_pos z1_0]), trivial⟩, hS.F ht9⟩) hS.2.2 dX10_count_55
  by_cases z1_1 : na = 1
  · refine lv_tableIn (off := 55) (tgt := 56) hx hb dX10_count_1 (by rw [z1_1]; decide) (by rw [z1_1]; decide) (by rw [z1_1]; rfl) (by decide) ?_
    refine lv_aload_n hx hb dX10_count_56 rfl (lv_at hl 0 rfl) ?_
    refine va_get (D := (dC, dI)) (ci := 10) (v := .ref th) (C := RX10) (T := TX10) (N := 7) hx hb ht inX10 hown hK hP 0 rfl rfl 1 (by decide) (ht _ kw_406) (fun _ h9 => h9) hfx_1 dX10_count_57 ?_
    refine va_get (D := (dC, dI)) (ci := 8) (v := .int 0) (C := RX8) (T := TX8) (N := 14) hx hb ht inX8 hown hK hP 1 rfl rfl 3 (by decide) (ht _ kw_88) (fun _ h9 => h9) hfth_3 dX10_count_60 ?_
    exact W.iret hx hb hr (fun t ht9 hW => ⟨⟨_, (), rfl, (by unfold sp_X10_count; rw [if_neg z1_0, if_pos z1_1]), trivial⟩, hS.F ht9⟩) hS.2.2 dX10_count_63
  by_cases z1_2 : na = 2
  · refine lv_tableIn (off := 63) (tgt := 64) hx hb dX10_count_1 (by rw [z1_2]; decide) (by rw [z1_2]; decide) (by rw [z1_2]; rfl) (by decide) ?_
    refine lv_aload_n hx hb dX10_count_64 rfl (lv_at hl 0 rfl) ?_
    refine va_get (D := (dC, dI)) (ci := 10) (v := .ref th) (C := RX10) (T := TX10) (N := 7) hx hb ht inX10 hown hK hP 0 rfl rfl 1 (by decide) (ht _ kw_406) (fun _ h9 => h9) hfx_1 dX10_count_65 ?_
    refine va_get (D := (dC, dI)) (ci := 8) (v := .int 0) (C := RX8) (T := TX8) (N := 14) hx hb ht inX8 hown hK hP 1 rfl rfl 5 (by decide) (ht _ kw_92) (fun _ h9 => h9) hfth_5 dX10_count_68 ?_
    exact W.iret hx hb hr (fun t ht9 hW => ⟨⟨_, (), rfl, (by unfold sp_X10_count; rw [if_neg z1_0, if_neg z1_1, if_pos z1_2]), trivial⟩, hS.F ht9⟩) hS.2.2 dX10_count_71
  by_cases z1_3 : na = 3
  · refine lv_tableIn (off := 71) (tgt := 72) hx hb dX10_count_1 (by rw [z1_3]; decide) (by rw [z1_3]; decide) (by rw [z1_3]; rfl) (by decide) ?_
    refine lv_aload_n hx hb dX10_count_72 rfl (lv_at hl 0 rfl) ?_
    refine va_get (D := (dC, dI)) (ci := 10) (v := .ref th) (C := RX10) (T := TX10) (N := 7) hx hb ht inX10 hown hK hP 0 rfl rfl 1 (by decide) (ht _ kw_406) (fun _ h9 => h9) hfx_1 dX10_count_73 ?_
    refine va_get (D := (dC, dI)) (ci := 8) (v := .int 0) (C := RX8) (T := TX8) (N := 14) hx hb ht inX8 hown hK hP 1 rfl rfl 12 (by decide) (ht _ kw_104) (fun _ h9 => h9) hfth_12 dX10_count_76 ?_
    exact W.iret hx hb hr (fun t ht9 hW => ⟨⟨_, (), rfl, (by unfold sp_X10_count; rw [if_neg z1_0, if_neg z1_1, if_neg z1_2, if_pos z1_3]), trivial⟩, hS.F ht9⟩) hS.2.2 dX10_count_79
  by_cases z1_4 : na = 4
  · refine lv_tableIn (off := 79) (tgt := 80) hx hb dX10_count_1 (by rw [z1_4]; decide) (by rw [z1_4]; decide) (by rw [z1_4]; rfl) (by decide) ?_
    refine lv_aload_n hx hb dX10_count_80 rfl (lv_at hl 0 rfl) ?_
    refine va_get (D := (dC, dI)) (ci := 10) (v := .ref se) (C := RX10) (T := TX10) (N := 7) hx hb ht inX10 hown hK hP 0 rfl rfl 2 (by decide) (ht _ kw_407) (fun _ h9 => h9) hfx_2 dX10_count_81 ?_
    refine va_get (D := (dC, dI)) (ci := 6) (v := .int 0) (C := RX6) (T := TX6) (N := 16) hx hb ht inX6 hown hK hP 2 rfl rfl 2 (by decide) (ht _ kw_149) (fun _ h9 => h9) hfse_2 dX10_count_84 ?_
    exact W.iret hx hb hr (fun t ht9 hW => ⟨⟨_, (), rfl, (by unfold sp_X10_count; rw [if_neg z1_0, if_neg z1_1, if_neg z1_2, if_neg z1_3, if_pos z1_4]), trivial⟩, hS.F ht9⟩) hS.2.2 dX10_count_87
  by_cases z1_5 : na = 5
  · refine lv_tableIn (off := 87) (tgt := 88) hx hb dX10_count_1 (by rw [z1_5]; decide) (by rw [z1_5]; decide) (by rw [z1_5]; rfl) (by decide) ?_
    refine lv_aload_n hx hb dX10_count_88 rfl (lv_at hl 0 rfl) ?_
    refine va_get (D := (dC, dI)) (ci := 10) (v := .ref se) (C := RX10) (T := TX10) (N := 7) hx hb ht inX10 hown hK hP 0 rfl rfl 2 (by decide) (ht _ kw_407) (fun _ h9 => h9) hfx_2 dX10_count_89 ?_
    refine va_get (D := (dC, dI)) (ci := 6) (v := .int 0) (C := RX6) (T := TX6) (N := 16) hx hb ht inX6 hown hK hP 2 rfl rfl 4 (by decide) (ht _ kw_157) (fun _ h9 => h9) hfse_4 dX10_count_92 ?_
    exact W.iret hx hb hr (fun t ht9 hW => ⟨⟨_, (), rfl, (by unfold sp_X10_count; rw [if_neg z1_0, if_neg z1_1, if_neg z1_2, if_neg z1_3, if_neg z1_4, if_pos z1_5]), trivial⟩, hS.F ht9⟩) hS.2.2 dX10_count_95
  by_cases z1_6 : na = 6
  · refine lv_tableIn (off := 95) (tgt := 96) hx hb dX10_count_1 (by rw [z1_6]; decide) (by rw [z1_6]; decide) (by rw [z1_6]; rfl) (by decide) ?_
    refine lv_aload_n hx hb dX10_count_96 rfl (lv_at hl 0 rfl) ?_
    refine va_get (D := (dC, dI)) (ci := 10) (v := .ref se) (C := RX10) (T := TX10) (N := 7) hx hb ht inX10 hown hK hP 0 rfl rfl 2 (by decide) (ht _ kw_407) (fun _ h9 => h9) hfx_2 dX10_count_97 ?_
    refine va_get (D := (dC, dI)) (ci := 6) (v := .int 0) (C := RX6) (T := TX6) (N := 16) hx hb ht inX6 hown hK hP 2 rfl rfl 5 (by decide) (ht _ kw_158) (fun _ h9 => h9) hfse_5 dX10_count_100 ?_
    exact W.iret hx hb hr (fun t ht9 hW => ⟨⟨_, (), rfl, (by unfold sp_X10_count; rw [if_neg z1_0, if_neg z1_1, if_neg z1_2, if_neg z1_3, if_neg z1_4, if_neg z1_5, if_pos z1_6]), trivial⟩, hS.F ht9⟩) hS.2.2 dX10_count_103
  by_cases z1_7 : na = 7
  · refine lv_tableIn (off := 103) (tgt := 104) hx hb dX10_count_1 (by rw [z1_7]; decide) (by rw [z1_7]; decide) (by rw [z1_7]; rfl) (by decide) ?_
    refine lv_aload_n hx hb dX10_count_104 rfl (lv_at hl 0 rfl) ?_
    refine va_get (D := (dC, dI)) (ci := 10) (v := .ref th) (C := RX10) (T := TX10) (N := 7) hx hb ht inX10 hown hK hP 0 rfl rfl 1 (by decide) (ht _ kw_406) (fun _ h9 => h9) hfx_1 dX10_count_105 ?_
    refine va_get (D := (dC, dI)) (ci := 8) (v := .int 0) (C := RX8) (T := TX8) (N := 14) hx hb ht inX8 hown hK hP 1 rfl rfl 13 (by decide) (ht _ kw_105) (fun _ h9 => h9) hfth_13 dX10_count_108 ?_
    exact W.iret hx hb hr (fun t ht9 hW => ⟨⟨_, (), rfl, (by unfold sp_X10_count; rw [if_neg z1_0, if_neg z1_1, if_neg z1_2, if_neg z1_3, if_neg z1_4, if_neg z1_5, if_neg z1_6, if_pos z1_7]), trivial⟩, hS.F ht9⟩) hS.2.2 dX10_count_111
  have z1o : na.toInt < 0 ∨ 7 < na.toInt := by
    have t_0 := lv_neT (a := 0) z1_0 rfl
    have t_1 := lv_neT (a := 1) z1_1 rfl
    have t_2 := lv_neT (a := 2) z1_2 rfl
    have t_3 := lv_neT (a := 3) z1_3 rfl
    have t_4 := lv_neT (a := 4) z1_4 rfl
    have t_5 := lv_neT (a := 5) z1_5 rfl
    have t_6 := lv_neT (a := 6) z1_6 rfl
    have t_7 := lv_neT (a := 7) z1_7 rfl
    omega
  refine lv_tableOut (tgt := 112) hx hb dX10_count_1 z1o (by decide) ?_
  refine lv_bipush (v := (-3)) hx hb dX10_count_112 (by decide) ?_
  exact W.iret hx hb hr (fun t ht9 hW => ⟨⟨_, (), rfl, (by unfold sp_X10_count; rw [if_neg z1_0, if_neg z1_1, if_neg z1_2, if_neg z1_3, if_neg z1_4, if_neg z1_5, if_neg z1_6, if_neg z1_7]), trivial⟩, hS.F ht9⟩) hS.2.2 dX10_count_114
