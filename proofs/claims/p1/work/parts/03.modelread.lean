abbrev cX11_in : ByteArray := prog_13_method_3_code
def yX11_in : MethodName := ⟨RX11, "in", "(III)Z"⟩
theorem dX11_in_0 : decode cX11_in 0 = .ok (.iload_n 0, 1) := by decide +kernel
theorem dX11_in_1 : decode cX11_in 1 = .ok (.iload_n 1, 1) := by decide +kernel
theorem dX11_in_2 : decode cX11_in 2 = .ok (.if_icmp .lt 12, 3) := by decide +kernel
theorem dX11_in_14 : decode cX11_in 14 = .ok (.iconst 0, 1) := by decide +kernel
theorem dX11_in_15 : decode cX11_in 15 = .ok (.ireturn, 1) := by decide +kernel
theorem dX11_in_5 : decode cX11_in 5 = .ok (.iload_n 0, 1) := by decide +kernel
theorem dX11_in_6 : decode cX11_in 6 = .ok (.iload_n 2, 1) := by decide +kernel
theorem dX11_in_7 : decode cX11_in 7 = .ok (.if_icmp .gt 7, 3) := by decide +kernel
theorem dX11_in_10 : decode cX11_in 10 = .ok (.iconst 1, 1) := by decide +kernel
theorem dX11_in_11 : decode cX11_in 11 = .ok (.goto 4, 3) := by decide +kernel
def sp_X11_in (na : Int32) (nb : Int32) (nc : Int32) : Int32 := if na < nb then 0 else if nc < na then 0 else 1
set_option maxHeartbeats 4000000 in
set_option maxRecDepth 100000 in
theorem ct_X11_in (l : Launch) (dC : Nat → ClassId) (dI : Nat → Nat → Nat)  (sz : Nat) (na : Int32) (nb : Int32) (nc : Int32) : Met l yX11_in (.code yX11_in cX11_in 3 (some .boolean) :: lw_g) ({ frames := 0, cells := 0, slots := 0, locals := 0 }) (ro_P dC dI [] [] sz [.int na, .int nb, .int nc]) (ri_Q (sp_X11_in na nb nc) (va_A [] sz)) 0 0 (va_A [] sz) := by
  refine ro_entry (by decide) (Nat.le_of_ble_eq_true rfl) ?_
  intro p e s m below meth c ls hx hb hr hlocks ht hown hin hml hsz hP hK hD hE hl
  subst hsz
  have hS : va_S (va_A [] s.heap.size) s.heap s.heap [] := va_S.rf
  have hA : ∀ q, s.heap.size ≤ q → va_A [] s.heap.size q := fun q h => Or.inr h
  have hl : lv_has ls 3 [(0, .int na), (1, .int nb), (2, .int nc)] := hl
  have hown : s.vm.findClass RX11 = some m.cls := hown
  refine lv_iload_n hx hb dX11_in_0 rfl (lv_at hl 0 rfl) ?_
  refine lv_iload_n hx hb dX11_in_1 rfl (lv_at hl 1 rfl) ?_
  refine lv_icmp_lt (tgt := 14) hx hb dX11_in_2 (by decide) (fun c1 => ?_) (fun c1 => ?_)
  · refine lv_iconst (v := 0) hx hb dX11_in_14 (by decide) ?_
    exact W.zret (ty := .boolean) hx hb hr (by decide) (fun t ht9 hW => ⟨⟨_, (), rfl, (by unfold sp_X11_in; rw [if_pos c1]), trivial⟩, hS.F ht9⟩) hS.2.2 dX11_in_15
  · refine lv_iload_n hx hb dX11_in_5 rfl (lv_at hl 0 rfl) ?_
    refine lv_iload_n hx hb dX11_in_6 rfl (lv_at hl 2 rfl) ?_
    refine lv_icmp_gt (tgt := 14) hx hb dX11_in_7 (by decide) (fun c2 => ?_) (fun c2 => ?_)
    · refine lv_iconst (v := 0) hx hb dX11_in_14 (by decide) ?_
      exact W.zret (ty := .boolean) hx hb hr (by decide) (fun t ht9 hW => ⟨⟨_, (), rfl, (by unfold sp_X11_in; rw [if_neg c1, if_pos c2]), trivial⟩, hS.F ht9⟩) hS.2.2 dX11_in_15
    · refine lv_iconst (v := 1) hx hb dX11_in_10 (by decide) ?_
      refine lv_goto (tgt := 15) hx hb dX11_in_11 (by decide) ?_
      exact W.zret (ty := .boolean) hx hb hr (by decide) (fun t ht9 hW => ⟨⟨_, (), rfl, (by unfold sp_X11_in; rw [if_neg c1, if_neg c2]), trivial⟩, hS.F ht9⟩) hS.2.2 dX11_in_15
theorem sp_in0 (x : Int32) : sp_X11_in x 0 (-1) = 0 := by
  unfold sp_X11_in
  split
  · rfl
  · rename_i h
    rw [if_pos (Int32.lt_iff_toInt_lt.mpr (by
      have h3 : ¬ x.toInt < (0 : Int32).toInt := fun q => h (Int32.lt_iff_toInt_lt.mpr q)
      have e0 : (0 : Int32).toInt = 0 := by decide
      have e1 : (-1 : Int32).toInt = -1 := by decide
      omega))]
abbrev cX11_isOf : ByteArray := prog_13_method_4_code
def yX11_isOf : MethodName := ⟨RX11, "isOf", "(II)Z"⟩
theorem dX11_isOf_0 : decode cX11_isOf 0 = .ok (.iload_n 0, 1) := by decide +kernel
theorem dX11_isOf_1 : decode cX11_isOf 1 = .ok (.iconst 0, 1) := by decide +kernel
theorem dX11_isOf_2 : decode cX11_isOf 2 = .ok (.iload_n 1, 1) := by decide +kernel
theorem dX11_isOf_3 : decode cX11_isOf 3 = .ok (.iconst 1, 1) := by decide +kernel
theorem dX11_isOf_4 : decode cX11_isOf 4 = .ok (.isub, 1) := by decide +kernel
theorem dX11_isOf_5 : decode cX11_isOf 5 = .ok (.invokestatic 255, 3) := by decide +kernel
theorem kw_1775 : Cond.methodLink RX11 255 yX11_in ∈ lw_g := lw_at 1775 (by decide +kernel) rfl
theorem kw_1776 : Cond.static yX11_in ∈ lw_g := lw_at 1776 (by decide +kernel) rfl
theorem kw_10 : Cond.initialized RX11 ∈ lw_g := lw_at 10 (by decide +kernel) rfl
theorem kw_1777 : Cond.code yX11_in cX11_in 3 (some .boolean) ∈ lw_g := lw_at 1777 (by decide +kernel) rfl
theorem gv_X11_255 : GoodIn lw_g (va_wsS RX11 255 yX11_in (.code yX11_in cX11_in 3 (some .boolean) :: lw_g)) := gi_S kw_1775 kw_1776 kw_10 kw_1777
theorem dX11_isOf_8 : decode cX11_isOf 8 = .ok (.ireturn, 1) := by decide +kernel
set_option maxHeartbeats 4000000 in
set_option maxRecDepth 100000 in
theorem ct_X11_isOf (l : Launch) (dC : Nat → ClassId) (dI : Nat → Nat → Nat)  (sz : Nat) (na : Int32) : Met l yX11_isOf (.code yX11_isOf cX11_isOf 2 (some .boolean) :: lw_g) ({ frames := 1, cells := 0, slots := 0, locals := 60 }) (ro_P dC dI [] [] sz [.int na, .int 0]) (ri_Q 0 (va_A [] sz)) 0 0 (va_A [] sz) := by
  refine ro_entry (by decide) (Nat.le_of_ble_eq_true rfl) ?_
  intro p e s m below meth c ls hx hb hr hlocks ht hown hin hml hsz hP hK hD hE hl
  subst hsz
  have hS : va_S (va_A [] s.heap.size) s.heap s.heap [] := va_S.rf
  have hA : ∀ q, s.heap.size ≤ q → va_A [] s.heap.size q := fun q h => Or.inr h
  have hl : lv_has ls 2 [(0, .int na), (1, .int 0)] := hl
  have hown : s.vm.findClass RX11 = some m.cls := hown
  refine lv_iload_n hx hb dX11_isOf_0 rfl (lv_at hl 0 rfl) ?_
  refine lv_iconst (v := 0) hx hb dX11_isOf_1 (by decide) ?_
  refine lv_iload_n hx hb dX11_isOf_2 rfl (lv_at hl 1 rfl) ?_
  refine lv_iconst (v := 1) hx hb dX11_isOf_3 (by decide) ?_
  refine lv_isub hx hb dX11_isOf_4 ?_
  refine lv_topi (fun r1 er1 => ?_)
  have er1 : r1 = (-1) := er1.trans (by decide)
  subst er1
  refine ro_callS (n := 3) (As := [.int na, .int 0, .int (-1)]) (rest := []) hx hb hml hown ht hK hP hS hA hE (ct_X11_in l dC dI  _ na 0 (-1)) gv_X11_255 rfl rfl (by decide +kernel) ⟨Nat.le_of_ble_eq_true rfl, Nat.le_of_ble_eq_true rfl⟩ rfl hl.1 (Nat.le_of_ble_eq_true rfl) ⟨Nat.le_of_ble_eq_true rfl, Nat.le_of_ble_eq_true rfl⟩ rfl dX11_isOf_5 (fun H locs hP hS => ?_)
  refine lv_topi (fun r2 er2 => ?_)
  have er2 : r2 = 0 := er2.trans (sp_in0 na)
  subst er2
  exact W.zret (ty := .boolean) hx hb hr (by decide) (fun t ht9 hW => ⟨⟨_, (), rfl, rfl, trivial⟩, hS.F ht9⟩) hS.2.2 dX11_isOf_8
abbrev cX11_fault : ByteArray := prog_13_method_19_code
def yX11_fault : MethodName := ⟨RX11, "fault", "()I"⟩
theorem dX11_fault_0 : decode cX11_fault 0 = .ok (.aload_n 0, 1) := by decide +kernel
theorem dX11_fault_1 : decode cX11_fault 1 = .ok (.getfield 13, 3) := by decide +kernel
theorem kw_1429 : Cond.fieldLink RX11 13 "SportsHouseModel" "faultAt" "I" ∈ lw_g := lw_at 1429 (by decide +kernel) rfl
theorem dX11_fault_4 : decode cX11_fault 4 = .ok (.ireturn, 1) := by decide +kernel
set_option maxHeartbeats 4000000 in
set_option maxRecDepth 100000 in
theorem ct_X11_fault (l : Launch) (dC : Nat → ClassId) (dI : Nat → Nat → Nat) (m0 : Nat) (fm : List Value) (hfm_2 : fm[2]? = some (.int (-1))) (sz : Nat)  : Met l yX11_fault (.code yX11_fault cX11_fault 1 (some .int) :: lw_g) ({ frames := 2, cells := 0, slots := 0, locals := 120 }) (ro_P dC dI [(m0, .inr (11, fm))] [] sz [.ref m0]) (ri_Q (-1) (va_A [] sz)) 0 0 (va_A [] sz) := by
  refine ro_entry (by decide) (Nat.le_of_ble_eq_true rfl) ?_
  intro p e s m below meth c ls hx hb hr hlocks ht hown hin hml hsz hP hK hD hE hl
  subst hsz
  have hS : va_S (va_A [] s.heap.size) s.heap s.heap [] := va_S.rf
  have hA : ∀ q, s.heap.size ≤ q → va_A [] s.heap.size q := fun q h => Or.inr h
  have hl : lv_has ls 1 [(0, .ref m0)] := hl
  have hown : s.vm.findClass RX11 = some m.cls := hown
  refine lv_aload_n hx hb dX11_fault_0 rfl (lv_at hl 0 rfl) ?_
  refine va_get (D := (dC, dI)) (ci := 11) (v := .int (-1)) (C := RX11) (T := TX11) (N := 114) hx hb ht inX11 hown hK hP 0 rfl rfl 2 (by decide) (ht _ kw_1429) (fun _ h9 => h9) hfm_2 dX11_fault_1 ?_
  exact W.iret hx hb hr (fun t ht9 hW => ⟨⟨_, (), rfl, rfl, trivial⟩, hS.F ht9⟩) hS.2.2 dX11_fault_4
abbrev cX11_rule : ByteArray := prog_13_method_20_code
def yX11_rule : MethodName := ⟨RX11, "rule", "(II)I"⟩
theorem dX11_rule_0 : decode cX11_rule 0 = .ok (.iload_n 1, 1) := by decide +kernel
theorem dX11_rule_1 : decode cX11_rule 1 = .ok (.aload_n 0, 1) := by decide +kernel
theorem dX11_rule_2 : decode cX11_rule 2 = .ok (.getfield 308, 3) := by decide +kernel
theorem kw_1433 : Cond.fieldLink RX11 308 "SportsHouseModel" "competitions" "I" ∈ lw_g := lw_at 1433 (by decide +kernel) rfl
theorem dX11_rule_5 : decode cX11_rule 5 = .ok (.invokestatic 317, 3) := by decide +kernel
theorem kw_1832 : Cond.methodLink RX11 317 yX11_isOf ∈ lw_g := lw_at 1832 (by decide +kernel) rfl
theorem kw_1833 : Cond.static yX11_isOf ∈ lw_g := lw_at 1833 (by decide +kernel) rfl
theorem kw_1834 : Cond.code yX11_isOf cX11_isOf 2 (some .boolean) ∈ lw_g := lw_at 1834 (by decide +kernel) rfl
theorem gv_X11_317 : GoodIn lw_g (va_wsS RX11 317 yX11_isOf (.code yX11_isOf cX11_isOf 2 (some .boolean) :: lw_g)) := gi_S kw_1832 kw_1833 kw_10 kw_1834
theorem dX11_rule_8 : decode cX11_rule 8 = .ok (.ifCond .ne 6, 3) := by decide +kernel
theorem dX11_rule_11 : decode cX11_rule 11 = .ok (.bipush (-2), 2) := by decide +kernel
theorem dX11_rule_13 : decode cX11_rule 13 = .ok (.ireturn, 1) := by decide +kernel
set_option maxHeartbeats 4000000 in
set_option maxRecDepth 100000 in
theorem ct_X11_rule (l : Launch) (dC : Nat → ClassId) (dI : Nat → Nat → Nat) (m0 : Nat) (fm : List Value) (hfm_6 : fm[6]? = some (.int 0)) (sz : Nat) (na : Int32) (nb : Int32) : Met l yX11_rule (.code yX11_rule cX11_rule 3 (some .int) :: lw_g) ({ frames := 2, cells := 0, slots := 0, locals := 120 }) (ro_P dC dI [(m0, .inr (11, fm))] [] sz [.ref m0, .int na, .int nb]) (ri_Q (-2) (va_A [] sz)) 0 0 (va_A [] sz) := by
  refine ro_entry (by decide) (Nat.le_of_ble_eq_true rfl) ?_
  intro p e s m below meth c ls hx hb hr hlocks ht hown hin hml hsz hP hK hD hE hl
  subst hsz
  have hS : va_S (va_A [] s.heap.size) s.heap s.heap [] := va_S.rf
  have hA : ∀ q, s.heap.size ≤ q → va_A [] s.heap.size q := fun q h => Or.inr h
  have hl : lv_has ls 3 [(0, .ref m0), (1, .int na), (2, .int nb)] := hl
  have hown : s.vm.findClass RX11 = some m.cls := hown
  refine lv_iload_n hx hb dX11_rule_0 rfl (lv_at hl 1 rfl) ?_
  refine lv_aload_n hx hb dX11_rule_1 rfl (lv_at hl 0 rfl) ?_
  refine va_get (D := (dC, dI)) (ci := 11) (v := .int 0) (C := RX11) (T := TX11) (N := 114) hx hb ht inX11 hown hK hP 0 rfl rfl 6 (by decide) (ht _ kw_1433) (fun _ h9 => h9) hfm_6 dX11_rule_2 ?_
  refine ro_callS (n := 2) (As := [.int na, .int 0]) (rest := []) hx hb hml hown ht hK hP hS hA hE (ct_X11_isOf l dC dI  _ na) gv_X11_317 rfl rfl (by decide +kernel) ⟨Nat.le_of_ble_eq_true rfl, Nat.le_of_ble_eq_true rfl⟩ rfl hl.1 (Nat.le_of_ble_eq_true rfl) ⟨Nat.le_of_ble_eq_true rfl, Nat.le_of_ble_eq_true rfl⟩ rfl dX11_rule_5 (fun H locs hP hS => ?_)
  refine lv_if_ne (tgt := 14) hx hb dX11_rule_8 (by decide) (fun c1 => ?_) (fun c1 => ?_)
  · exact absurd (by decide) c1
  refine lv_bipush (v := (-2)) hx hb dX11_rule_11 (by decide) ?_
  exact W.iret hx hb hr (fun t ht9 hW => ⟨⟨_, (), rfl, rfl, trivial⟩, hS.F ht9⟩) hS.2.2 dX11_rule_13
abbrev cX11_register : ByteArray := prog_13_method_24_code
def yX11_register : MethodName := ⟨RX11, "register", "(IIII)I"⟩
theorem dX11_register_0 : decode cX11_register 0 = .ok (.iload_n 1, 1) := by decide +kernel
theorem dX11_register_1 : decode cX11_register 1 = .ok (.aload_n 0, 1) := by decide +kernel
theorem dX11_register_2 : decode cX11_register 2 = .ok (.getfield 328, 3) := by decide +kernel
theorem kw_1442 : Cond.fieldLink RX11 328 "SportsHouseModel" "persons" "I" ∈ lw_g := lw_at 1442 (by decide +kernel) rfl
theorem dX11_register_5 : decode cX11_register 5 = .ok (.invokestatic 317, 3) := by decide +kernel
theorem dX11_register_8 : decode cX11_register 8 = .ok (.ifCond .eq 14, 3) := by decide +kernel
theorem dX11_register_22 : decode cX11_register 22 = .ok (.bipush (-2), 2) := by decide +kernel
theorem dX11_register_24 : decode cX11_register 24 = .ok (.ireturn, 1) := by decide +kernel
set_option maxHeartbeats 4000000 in
set_option maxRecDepth 100000 in
theorem ct_X11_register (l : Launch) (dC : Nat → ClassId) (dI : Nat → Nat → Nat) (m0 : Nat) (fm : List Value) (hfm_15 : fm[15]? = some (.int 0)) (sz : Nat) (na : Int32) (nb : Int32) (nc : Int32) (nd : Int32) : Met l yX11_register (.code yX11_register cX11_register 6 (some .int) :: lw_g) ({ frames := 2, cells := 0, slots := 0, locals := 120 }) (ro_P dC dI [(m0, .inr (11, fm))] [] sz [.ref m0, .int na, .int nb, .int nc, .int nd]) (ri_Q (-2) (va_A [] sz)) 0 0 (va_A [] sz) := by
  refine ro_entry (by decide) (Nat.le_of_ble_eq_true rfl) ?_
  intro p e s m below meth c ls hx hb hr hlocks ht hown hin hml hsz hP hK hD hE hl
  subst hsz
  have hS : va_S (va_A [] s.heap.size) s.heap s.heap [] := va_S.rf
  have hA : ∀ q, s.heap.size ≤ q → va_A [] s.heap.size q := fun q h => Or.inr h
  have hl : lv_has ls 6 [(0, .ref m0), (1, .int na), (2, .int nb), (3, .int nc), (4, .int nd)] := hl
  have hown : s.vm.findClass RX11 = some m.cls := hown
  refine lv_iload_n hx hb dX11_register_0 rfl (lv_at hl 1 rfl) ?_
  refine lv_aload_n hx hb dX11_register_1 rfl (lv_at hl 0 rfl) ?_
  refine va_get (D := (dC, dI)) (ci := 11) (v := .int 0) (C := RX11) (T := TX11) (N := 114) hx hb ht inX11 hown hK hP 0 rfl rfl 15 (by decide) (ht _ kw_1442) (fun _ h9 => h9) hfm_15 dX11_register_2 ?_
  refine ro_callS (n := 2) (As := [.int na, .int 0]) (rest := []) hx hb hml hown ht hK hP hS hA hE (ct_X11_isOf l dC dI  _ na) gv_X11_317 rfl rfl (by decide +kernel) ⟨Nat.le_of_ble_eq_true rfl, Nat.le_of_ble_eq_true rfl⟩ rfl hl.1 (Nat.le_of_ble_eq_true rfl) ⟨Nat.le_of_ble_eq_true rfl, Nat.le_of_ble_eq_true rfl⟩ rfl dX11_register_5 (fun H locs hP hS => ?_)
  refine lv_if_eq (tgt := 22) hx hb dX11_register_8 (by decide) (fun c1 => ?_) (fun c1 => ?_)
  rotate_left
  · exact absurd (by decide) c1
  refine lv_bipush (v := (-2)) hx hb dX11_register_22 (by decide) ?_
  exact W.iret hx hb hr (fun t ht9 hW => ⟨⟨_, (), rfl, rfl, trivial⟩, hS.F ht9⟩) hS.2.2 dX11_register_24
abbrev cX11_enter : ByteArray := prog_13_method_28_code
def yX11_enter : MethodName := ⟨RX11, "enter", "(II)I"⟩
theorem dX11_enter_0 : decode cX11_enter 0 = .ok (.iload_n 1, 1) := by decide +kernel
theorem dX11_enter_1 : decode cX11_enter 1 = .ok (.aload_n 0, 1) := by decide +kernel
theorem dX11_enter_2 : decode cX11_enter 2 = .ok (.getfield 308, 3) := by decide +kernel
theorem dX11_enter_5 : decode cX11_enter 5 = .ok (.invokestatic 317, 3) := by decide +kernel
theorem dX11_enter_8 : decode cX11_enter 8 = .ok (.ifCond .eq 14, 3) := by decide +kernel
theorem dX11_enter_22 : decode cX11_enter 22 = .ok (.bipush (-2), 2) := by decide +kernel
theorem dX11_enter_24 : decode cX11_enter 24 = .ok (.ireturn, 1) := by decide +kernel
set_option maxHeartbeats 4000000 in
set_option maxRecDepth 100000 in
theorem ct_X11_enter (l : Launch) (dC : Nat → ClassId) (dI : Nat → Nat → Nat) (m0 : Nat) (fm : List Value) (hfm_6 : fm[6]? = some (.int 0)) (sz : Nat) (na : Int32) (nb : Int32) : Met l yX11_enter (.code yX11_enter cX11_enter 3 (some .int) :: lw_g) ({ frames := 2, cells := 0, slots := 0, locals := 120 }) (ro_P dC dI [(m0, .inr (11, fm))] [] sz [.ref m0, .int na, .int nb]) (ri_Q (-2) (va_A [] sz)) 0 0 (va_A [] sz) := by
  refine ro_entry (by decide) (Nat.le_of_ble_eq_true rfl) ?_
  intro p e s m below meth c ls hx hb hr hlocks ht hown hin hml hsz hP hK hD hE hl
  subst hsz
  have hS : va_S (va_A [] s.heap.size) s.heap s.heap [] := va_S.rf
  have hA : ∀ q, s.heap.size ≤ q → va_A [] s.heap.size q := fun q h => Or.inr h
  have hl : lv_has ls 3 [(0, .ref m0), (1, .int na), (2, .int nb)] := hl
  have hown : s.vm.findClass RX11 = some m.cls := hown
  refine lv_iload_n hx hb dX11_enter_0 rfl (lv_at hl 1 rfl) ?_
  refine lv_aload_n hx hb dX11_enter_1 rfl (lv_at hl 0 rfl) ?_
  refine va_get (D := (dC, dI)) (ci := 11) (v := .int 0) (C := RX11) (T := TX11) (N := 114) hx hb ht inX11 hown hK hP 0 rfl rfl 6 (by decide) (ht _ kw_1433) (fun _ h9 => h9) hfm_6 dX11_enter_2 ?_
  refine ro_callS (n := 2) (As := [.int na, .int 0]) (rest := []) hx hb hml hown ht hK hP hS hA hE (ct_X11_isOf l dC dI  _ na) gv_X11_317 rfl rfl (by decide +kernel) ⟨Nat.le_of_ble_eq_true rfl, Nat.le_of_ble_eq_true rfl⟩ rfl hl.1 (Nat.le_of_ble_eq_true rfl) ⟨Nat.le_of_ble_eq_true rfl, Nat.le_of_ble_eq_true rfl⟩ rfl dX11_enter_5 (fun H locs hP hS => ?_)
  refine lv_if_eq (tgt := 22) hx hb dX11_enter_8 (by decide) (fun c1 => ?_) (fun c1 => ?_)
  rotate_left
  · exact absurd (by decide) c1
  refine lv_bipush (v := (-2)) hx hb dX11_enter_22 (by decide) ?_
  exact W.iret hx hb hr (fun t ht9 hW => ⟨⟨_, (), rfl, rfl, trivial⟩, hS.F ht9⟩) hS.2.2 dX11_enter_24
abbrev cX11_plan : ByteArray := prog_13_method_30_code
def yX11_plan : MethodName := ⟨RX11, "plan", "(II)I"⟩
theorem dX11_plan_0 : decode cX11_plan 0 = .ok (.iload_n 1, 1) := by decide +kernel
theorem dX11_plan_1 : decode cX11_plan 1 = .ok (.aload_n 0, 1) := by decide +kernel
theorem dX11_plan_2 : decode cX11_plan 2 = .ok (.getfield 308, 3) := by decide +kernel
theorem dX11_plan_5 : decode cX11_plan 5 = .ok (.invokestatic 317, 3) := by decide +kernel
theorem dX11_plan_8 : decode cX11_plan 8 = .ok (.ifCond .ne 6, 3) := by decide +kernel
theorem dX11_plan_11 : decode cX11_plan 11 = .ok (.bipush (-2), 2) := by decide +kernel
theorem dX11_plan_13 : decode cX11_plan 13 = .ok (.ireturn, 1) := by decide +kernel
set_option maxHeartbeats 4000000 in
set_option maxRecDepth 100000 in
theorem ct_X11_plan (l : Launch) (dC : Nat → ClassId) (dI : Nat → Nat → Nat) (m0 : Nat) (fm : List Value) (hfm_6 : fm[6]? = some (.int 0)) (sz : Nat) (na : Int32) (nb : Int32) : Met l yX11_plan (.code yX11_plan cX11_plan 15 (some .int) :: lw_g) ({ frames := 2, cells := 0, slots := 0, locals := 120 }) (ro_P dC dI [(m0, .inr (11, fm))] [] sz [.ref m0, .int na, .int nb]) (ri_Q (-2) (va_A [] sz)) 0 0 (va_A [] sz) := by
  refine ro_entry (by decide) (Nat.le_of_ble_eq_true rfl) ?_
  intro p e s m below meth c ls hx hb hr hlocks ht hown hin hml hsz hP hK hD hE hl
  subst hsz
  have hS : va_S (va_A [] s.heap.size) s.heap s.heap [] := va_S.rf
  have hA : ∀ q, s.heap.size ≤ q → va_A [] s.heap.size q := fun q h => Or.inr h
  have hl : lv_has ls 15 [(0, .ref m0), (1, .int na), (2, .int nb)] := hl
  have hown : s.vm.findClass RX11 = some m.cls := hown
  refine lv_iload_n hx hb dX11_plan_0 rfl (lv_at hl 1 rfl) ?_
  refine lv_aload_n hx hb dX11_plan_1 rfl (lv_at hl 0 rfl) ?_
  refine va_get (D := (dC, dI)) (ci := 11) (v := .int 0) (C := RX11) (T := TX11) (N := 114) hx hb ht inX11 hown hK hP 0 rfl rfl 6 (by decide) (ht _ kw_1433) (fun _ h9 => h9) hfm_6 dX11_plan_2 ?_
  refine ro_callS (n := 2) (As := [.int na, .int 0]) (rest := []) hx hb hml hown ht hK hP hS hA hE (ct_X11_isOf l dC dI  _ na) gv_X11_317 rfl rfl (by decide +kernel) ⟨Nat.le_of_ble_eq_true rfl, Nat.le_of_ble_eq_true rfl⟩ rfl hl.1 (Nat.le_of_ble_eq_true rfl) ⟨Nat.le_of_ble_eq_true rfl, Nat.le_of_ble_eq_true rfl⟩ rfl dX11_plan_5 (fun H locs hP hS => ?_)
  refine lv_if_ne (tgt := 14) hx hb dX11_plan_8 (by decide) (fun c1 => ?_) (fun c1 => ?_)
  · exact absurd (by decide) c1
  refine lv_bipush (v := (-2)) hx hb dX11_plan_11 (by decide) ?_
  exact W.iret hx hb hr (fun t ht9 hW => ⟨⟨_, (), rfl, rfl, trivial⟩, hS.F ht9⟩) hS.2.2 dX11_plan_13
abbrev cX11_match : ByteArray := prog_13_method_31_code
def yX11_match : MethodName := ⟨RX11, "match", "(II)I"⟩
theorem dX11_match_0 : decode cX11_match 0 = .ok (.iload_n 1, 1) := by decide +kernel
theorem dX11_match_1 : decode cX11_match 1 = .ok (.aload_n 0, 1) := by decide +kernel
theorem dX11_match_2 : decode cX11_match 2 = .ok (.getfield 343, 3) := by decide +kernel
theorem kw_1456 : Cond.fieldLink RX11 343 "SportsHouseModel" "matches" "I" ∈ lw_g := lw_at 1456 (by decide +kernel) rfl
theorem dX11_match_5 : decode cX11_match 5 = .ok (.invokestatic 317, 3) := by decide +kernel
theorem dX11_match_8 : decode cX11_match 8 = .ok (.ifCond .ne 6, 3) := by decide +kernel
theorem dX11_match_11 : decode cX11_match 11 = .ok (.bipush (-2), 2) := by decide +kernel
theorem dX11_match_13 : decode cX11_match 13 = .ok (.ireturn, 1) := by decide +kernel
set_option maxHeartbeats 4000000 in
set_option maxRecDepth 100000 in
theorem ct_X11_match (l : Launch) (dC : Nat → ClassId) (dI : Nat → Nat → Nat) (m0 : Nat) (fm : List Value) (hfm_29 : fm[29]? = some (.int 0)) (sz : Nat) (na : Int32) (nb : Int32) : Met l yX11_match (.code yX11_match cX11_match 3 (some .int) :: lw_g) ({ frames := 2, cells := 0, slots := 0, locals := 120 }) (ro_P dC dI [(m0, .inr (11, fm))] [] sz [.ref m0, .int na, .int nb]) (ri_Q (-2) (va_A [] sz)) 0 0 (va_A [] sz) := by
  refine ro_entry (by decide) (Nat.le_of_ble_eq_true rfl) ?_
  intro p e s m below meth c ls hx hb hr hlocks ht hown hin hml hsz hP hK hD hE hl
  subst hsz
  have hS : va_S (va_A [] s.heap.size) s.heap s.heap [] := va_S.rf
  have hA : ∀ q, s.heap.size ≤ q → va_A [] s.heap.size q := fun q h => Or.inr h
  have hl : lv_has ls 3 [(0, .ref m0), (1, .int na), (2, .int nb)] := hl
  have hown : s.vm.findClass RX11 = some m.cls := hown
  refine lv_iload_n hx hb dX11_match_0 rfl (lv_at hl 1 rfl) ?_
  refine lv_aload_n hx hb dX11_match_1 rfl (lv_at hl 0 rfl) ?_
  refine va_get (D := (dC, dI)) (ci := 11) (v := .int 0) (C := RX11) (T := TX11) (N := 114) hx hb ht inX11 hown hK hP 0 rfl rfl 29 (by decide) (ht _ kw_1456) (fun _ h9 => h9) hfm_29 dX11_match_2 ?_
  refine ro_callS (n := 2) (As := [.int na, .int 0]) (rest := []) hx hb hml hown ht hK hP hS hA hE (ct_X11_isOf l dC dI  _ na) gv_X11_317 rfl rfl (by decide +kernel) ⟨Nat.le_of_ble_eq_true rfl, Nat.le_of_ble_eq_true rfl⟩ rfl hl.1 (Nat.le_of_ble_eq_true rfl) ⟨Nat.le_of_ble_eq_true rfl, Nat.le_of_ble_eq_true rfl⟩ rfl dX11_match_5 (fun H locs hP hS => ?_)
  refine lv_if_ne (tgt := 14) hx hb dX11_match_8 (by decide) (fun c1 => ?_) (fun c1 => ?_)
  · exact absurd (by decide) c1
  refine lv_bipush (v := (-2)) hx hb dX11_match_11 (by decide) ?_
  exact W.iret hx hb hr (fun t ht9 hW => ⟨⟨_, (), rfl, rfl, trivial⟩, hS.F ht9⟩) hS.2.2 dX11_match_13
abbrev cX11_breaks : ByteArray := prog_13_method_32_code
def yX11_breaks : MethodName := ⟨RX11, "breaks", "(II)I"⟩
theorem dX11_breaks_0 : decode cX11_breaks 0 = .ok (.iload_n 1, 1) := by decide +kernel
theorem dX11_breaks_1 : decode cX11_breaks 1 = .ok (.aload_n 0, 1) := by decide +kernel
theorem dX11_breaks_2 : decode cX11_breaks 2 = .ok (.getfield 308, 3) := by decide +kernel
theorem dX11_breaks_5 : decode cX11_breaks 5 = .ok (.invokestatic 317, 3) := by decide +kernel
theorem dX11_breaks_8 : decode cX11_breaks 8 = .ok (.ifCond .eq 14, 3) := by decide +kernel
theorem dX11_breaks_22 : decode cX11_breaks 22 = .ok (.bipush (-2), 2) := by decide +kernel
theorem dX11_breaks_24 : decode cX11_breaks 24 = .ok (.ireturn, 1) := by decide +kernel
set_option maxHeartbeats 4000000 in
set_option maxRecDepth 100000 in
theorem ct_X11_breaks (l : Launch) (dC : Nat → ClassId) (dI : Nat → Nat → Nat) (m0 : Nat) (fm : List Value) (hfm_6 : fm[6]? = some (.int 0)) (sz : Nat) (na : Int32) (nb : Int32) : Met l yX11_breaks (.code yX11_breaks cX11_breaks 7 (some .int) :: lw_g) ({ frames := 2, cells := 0, slots := 0, locals := 120 }) (ro_P dC dI [(m0, .inr (11, fm))] [] sz [.ref m0, .int na, .int nb]) (ri_Q (-2) (va_A [] sz)) 0 0 (va_A [] sz) := by
  refine ro_entry (by decide) (Nat.le_of_ble_eq_true rfl) ?_
  intro p e s m below meth c ls hx hb hr hlocks ht hown hin hml hsz hP hK hD hE hl
  subst hsz
  have hS : va_S (va_A [] s.heap.size) s.heap s.heap [] := va_S.rf
  have hA : ∀ q, s.heap.size ≤ q → va_A [] s.heap.size q := fun q h => Or.inr h
  have hl : lv_has ls 7 [(0, .ref m0), (1, .int na), (2, .int nb)] := hl
  have hown : s.vm.findClass RX11 = some m.cls := hown
  refine lv_iload_n hx hb dX11_breaks_0 rfl (lv_at hl 1 rfl) ?_
  refine lv_aload_n hx hb dX11_breaks_1 rfl (lv_at hl 0 rfl) ?_
  refine va_get (D := (dC, dI)) (ci := 11) (v := .int 0) (C := RX11) (T := TX11) (N := 114) hx hb ht inX11 hown hK hP 0 rfl rfl 6 (by decide) (ht _ kw_1433) (fun _ h9 => h9) hfm_6 dX11_breaks_2 ?_
  refine ro_callS (n := 2) (As := [.int na, .int 0]) (rest := []) hx hb hml hown ht hK hP hS hA hE (ct_X11_isOf l dC dI  _ na) gv_X11_317 rfl rfl (by decide +kernel) ⟨Nat.le_of_ble_eq_true rfl, Nat.le_of_ble_eq_true rfl⟩ rfl hl.1 (Nat.le_of_ble_eq_true rfl) ⟨Nat.le_of_ble_eq_true rfl, Nat.le_of_ble_eq_true rfl⟩ rfl dX11_breaks_5 (fun H locs hP hS => ?_)
  refine lv_if_eq (tgt := 22) hx hb dX11_breaks_8 (by decide) (fun c1 => ?_) (fun c1 => ?_)
  rotate_left
  · exact absurd (by decide) c1
  refine lv_bipush (v := (-2)) hx hb dX11_breaks_22 (by decide) ?_
  exact W.iret hx hb hr (fun t ht9 hW => ⟨⟨_, (), rfl, rfl, trivial⟩, hS.F ht9⟩) hS.2.2 dX11_breaks_24
abbrev cX11_postpone : ByteArray := prog_13_method_36_code
def yX11_postpone : MethodName := ⟨RX11, "postpone", "(II)I"⟩
theorem dX11_postpone_0 : decode cX11_postpone 0 = .ok (.iload_n 1, 1) := by decide +kernel
theorem dX11_postpone_1 : decode cX11_postpone 1 = .ok (.aload_n 0, 1) := by decide +kernel
theorem dX11_postpone_2 : decode cX11_postpone 2 = .ok (.getfield 343, 3) := by decide +kernel
theorem dX11_postpone_5 : decode cX11_postpone 5 = .ok (.invokestatic 317, 3) := by decide +kernel
theorem dX11_postpone_8 : decode cX11_postpone 8 = .ok (.ifCond .ne 6, 3) := by decide +kernel
theorem dX11_postpone_11 : decode cX11_postpone 11 = .ok (.bipush (-2), 2) := by decide +kernel
theorem dX11_postpone_13 : decode cX11_postpone 13 = .ok (.ireturn, 1) := by decide +kernel
set_option maxHeartbeats 4000000 in
set_option maxRecDepth 100000 in
theorem ct_X11_postpone (l : Launch) (dC : Nat → ClassId) (dI : Nat → Nat → Nat) (m0 : Nat) (fm : List Value) (hfm_29 : fm[29]? = some (.int 0)) (sz : Nat) (na : Int32) (nb : Int32) : Met l yX11_postpone (.code yX11_postpone cX11_postpone 9 (some .int) :: lw_g) ({ frames := 2, cells := 0, slots := 0, locals := 120 }) (ro_P dC dI [(m0, .inr (11, fm))] [] sz [.ref m0, .int na, .int nb]) (ri_Q (-2) (va_A [] sz)) 0 0 (va_A [] sz) := by
  refine ro_entry (by decide) (Nat.le_of_ble_eq_true rfl) ?_
  intro p e s m below meth c ls hx hb hr hlocks ht hown hin hml hsz hP hK hD hE hl
  subst hsz
  have hS : va_S (va_A [] s.heap.size) s.heap s.heap [] := va_S.rf
  have hA : ∀ q, s.heap.size ≤ q → va_A [] s.heap.size q := fun q h => Or.inr h
  have hl : lv_has ls 9 [(0, .ref m0), (1, .int na), (2, .int nb)] := hl
  have hown : s.vm.findClass RX11 = some m.cls := hown
  refine lv_iload_n hx hb dX11_postpone_0 rfl (lv_at hl 1 rfl) ?_
  refine lv_aload_n hx hb dX11_postpone_1 rfl (lv_at hl 0 rfl) ?_
  refine va_get (D := (dC, dI)) (ci := 11) (v := .int 0) (C := RX11) (T := TX11) (N := 114) hx hb ht inX11 hown hK hP 0 rfl rfl 29 (by decide) (ht _ kw_1456) (fun _ h9 => h9) hfm_29 dX11_postpone_2 ?_
  refine ro_callS (n := 2) (As := [.int na, .int 0]) (rest := []) hx hb hml hown ht hK hP hS hA hE (ct_X11_isOf l dC dI  _ na) gv_X11_317 rfl rfl (by decide +kernel) ⟨Nat.le_of_ble_eq_true rfl, Nat.le_of_ble_eq_true rfl⟩ rfl hl.1 (Nat.le_of_ble_eq_true rfl) ⟨Nat.le_of_ble_eq_true rfl, Nat.le_of_ble_eq_true rfl⟩ rfl dX11_postpone_5 (fun H locs hP hS => ?_)
  refine lv_if_ne (tgt := 14) hx hb dX11_postpone_8 (by decide) (fun c1 => ?_) (fun c1 => ?_)
  · exact absurd (by decide) c1
  refine lv_bipush (v := (-2)) hx hb dX11_postpone_11 (by decide) ?_
  exact W.iret hx hb hr (fun t ht9 hW => ⟨⟨_, (), rfl, rfl, trivial⟩, hS.F ht9⟩) hS.2.2 dX11_postpone_13
abbrev cX11_moved : ByteArray := prog_13_method_37_code
def yX11_moved : MethodName := ⟨RX11, "moved", "(I)I"⟩
theorem dX11_moved_0 : decode cX11_moved 0 = .ok (.iload_n 1, 1) := by decide +kernel
theorem dX11_moved_1 : decode cX11_moved 1 = .ok (.aload_n 0, 1) := by decide +kernel
theorem dX11_moved_2 : decode cX11_moved 2 = .ok (.getfield 362, 3) := by decide +kernel
theorem kw_1502 : Cond.fieldLink RX11 362 "SportsHouseModel" "movedMany" "I" ∈ lw_g := lw_at 1502 (by decide +kernel) rfl
theorem dX11_moved_5 : decode cX11_moved 5 = .ok (.invokestatic 317, 3) := by decide +kernel
theorem dX11_moved_8 : decode cX11_moved 8 = .ok (.ifCond .eq 12, 3) := by decide +kernel
theorem dX11_moved_20 : decode cX11_moved 20 = .ok (.iconst (-1), 1) := by decide +kernel
theorem dX11_moved_21 : decode cX11_moved 21 = .ok (.ireturn, 1) := by decide +kernel
set_option maxHeartbeats 4000000 in
set_option maxRecDepth 100000 in
theorem ct_X11_moved (l : Launch) (dC : Nat → ClassId) (dI : Nat → Nat → Nat) (m0 : Nat) (fm : List Value) (hfm_75 : fm[75]? = some (.int 0)) (sz : Nat) (na : Int32) : Met l yX11_moved (.code yX11_moved cX11_moved 2 (some .int) :: lw_g) ({ frames := 2, cells := 0, slots := 0, locals := 120 }) (ro_P dC dI [(m0, .inr (11, fm))] [] sz [.ref m0, .int na]) (ri_Q (-1) (va_A [] sz)) 0 0 (va_A [] sz) := by
  refine ro_entry (by decide) (Nat.le_of_ble_eq_true rfl) ?_
  intro p e s m below meth c ls hx hb hr hlocks ht hown hin hml hsz hP hK hD hE hl
  subst hsz
  have hS : va_S (va_A [] s.heap.size) s.heap s.heap [] := va_S.rf
  have hA : ∀ q, s.heap.size ≤ q → va_A [] s.heap.size q := fun q h => Or.inr h
  have hl : lv_has ls 2 [(0, .ref m0), (1, .int na)] := hl
  have hown : s.vm.findClass RX11 = some m.cls := hown
  refine lv_iload_n hx hb dX11_moved_0 rfl (lv_at hl 1 rfl) ?_
  refine lv_aload_n hx hb dX11_moved_1 rfl (lv_at hl 0 rfl) ?_
  refine va_get (D := (dC, dI)) (ci := 11) (v := .int 0) (C := RX11) (T := TX11) (N := 114) hx hb ht inX11 hown hK hP 0 rfl rfl 75 (by decide) (ht _ kw_1502) (fun _ h9 => h9) hfm_75 dX11_moved_2 ?_
  refine ro_callS (n := 2) (As := [.int na, .int 0]) (rest := []) hx hb hml hown ht hK hP hS hA hE (ct_X11_isOf l dC dI  _ na) gv_X11_317 rfl rfl (by decide +kernel) ⟨Nat.le_of_ble_eq_true rfl, Nat.le_of_ble_eq_true rfl⟩ rfl hl.1 (Nat.le_of_ble_eq_true rfl) ⟨Nat.le_of_ble_eq_true rfl, Nat.le_of_ble_eq_true rfl⟩ rfl dX11_moved_5 (fun H locs hP hS => ?_)
  refine lv_if_eq (tgt := 20) hx hb dX11_moved_8 (by decide) (fun c1 => ?_) (fun c1 => ?_)
  rotate_left
  · exact absurd (by decide) c1
  refine lv_iconst (v := (-1)) hx hb dX11_moved_20 (by decide) ?_
  exact W.iret hx hb hr (fun t ht9 hW => ⟨⟨_, (), rfl, rfl, trivial⟩, hS.F ht9⟩) hS.2.2 dX11_moved_21
abbrev cX11_deduct : ByteArray := prog_13_method_38_code
def yX11_deduct : MethodName := ⟨RX11, "deduct", "(III)I"⟩
theorem dX11_deduct_0 : decode cX11_deduct 0 = .ok (.iload_n 1, 1) := by decide +kernel
theorem dX11_deduct_1 : decode cX11_deduct 1 = .ok (.aload_n 0, 1) := by decide +kernel
theorem dX11_deduct_2 : decode cX11_deduct 2 = .ok (.getfield 308, 3) := by decide +kernel
theorem dX11_deduct_5 : decode cX11_deduct 5 = .ok (.invokestatic 317, 3) := by decide +kernel
theorem dX11_deduct_8 : decode cX11_deduct 8 = .ok (.ifCond .eq 14, 3) := by decide +kernel
theorem dX11_deduct_22 : decode cX11_deduct 22 = .ok (.bipush (-2), 2) := by decide +kernel
theorem dX11_deduct_24 : decode cX11_deduct 24 = .ok (.ireturn, 1) := by decide +kernel
set_option maxHeartbeats 4000000 in
set_option maxRecDepth 100000 in
theorem ct_X11_deduct (l : Launch) (dC : Nat → ClassId) (dI : Nat → Nat → Nat) (m0 : Nat) (fm : List Value) (hfm_6 : fm[6]? = some (.int 0)) (sz : Nat) (na : Int32) (nb : Int32) (nc : Int32) : Met l yX11_deduct (.code yX11_deduct cX11_deduct 4 (some .int) :: lw_g) ({ frames := 2, cells := 0, slots := 0, locals := 120 }) (ro_P dC dI [(m0, .inr (11, fm))] [] sz [.ref m0, .int na, .int nb, .int nc]) (ri_Q (-2) (va_A [] sz)) 0 0 (va_A [] sz) := by
  refine ro_entry (by decide) (Nat.le_of_ble_eq_true rfl) ?_
  intro p e s m below meth c ls hx hb hr hlocks ht hown hin hml hsz hP hK hD hE hl
  subst hsz
  have hS : va_S (va_A [] s.heap.size) s.heap s.heap [] := va_S.rf
  have hA : ∀ q, s.heap.size ≤ q → va_A [] s.heap.size q := fun q h => Or.inr h
  have hl : lv_has ls 4 [(0, .ref m0), (1, .int na), (2, .int nb), (3, .int nc)] := hl
  have hown : s.vm.findClass RX11 = some m.cls := hown
  refine lv_iload_n hx hb dX11_deduct_0 rfl (lv_at hl 1 rfl) ?_
  refine lv_aload_n hx hb dX11_deduct_1 rfl (lv_at hl 0 rfl) ?_
  refine va_get (D := (dC, dI)) (ci := 11) (v := .int 0) (C := RX11) (T := TX11) (N := 114) hx hb ht inX11 hown hK hP 0 rfl rfl 6 (by decide) (ht _ kw_1433) (fun _ h9 => h9) hfm_6 dX11_deduct_2 ?_
  refine ro_callS (n := 2) (As := [.int na, .int 0]) (rest := []) hx hb hml hown ht hK hP hS hA hE (ct_X11_isOf l dC dI  _ na) gv_X11_317 rfl rfl (by decide +kernel) ⟨Nat.le_of_ble_eq_true rfl, Nat.le_of_ble_eq_true rfl⟩ rfl hl.1 (Nat.le_of_ble_eq_true rfl) ⟨Nat.le_of_ble_eq_true rfl, Nat.le_of_ble_eq_true rfl⟩ rfl dX11_deduct_5 (fun H locs hP hS => ?_)
  refine lv_if_eq (tgt := 22) hx hb dX11_deduct_8 (by decide) (fun c1 => ?_) (fun c1 => ?_)
  rotate_left
  · exact absurd (by decide) c1
  refine lv_bipush (v := (-2)) hx hb dX11_deduct_22 (by decide) ?_
  exact W.iret hx hb hr (fun t ht9 hW => ⟨⟨_, (), rfl, rfl, trivial⟩, hS.F ht9⟩) hS.2.2 dX11_deduct_24
abbrev cX11_eligible : ByteArray := prog_13_method_45_code
def yX11_eligible : MethodName := ⟨RX11, "eligible", "(III)I"⟩
theorem dX11_eligible_0 : decode cX11_eligible 0 = .ok (.iload_n 1, 1) := by decide +kernel
theorem dX11_eligible_1 : decode cX11_eligible 1 = .ok (.aload_n 0, 1) := by decide +kernel
theorem dX11_eligible_2 : decode cX11_eligible 2 = .ok (.getfield 328, 3) := by decide +kernel
theorem dX11_eligible_5 : decode cX11_eligible 5 = .ok (.invokestatic 317, 3) := by decide +kernel
theorem dX11_eligible_8 : decode cX11_eligible 8 = .ok (.ifCond .eq 14, 3) := by decide +kernel
theorem dX11_eligible_22 : decode cX11_eligible 22 = .ok (.bipush (-2), 2) := by decide +kernel
theorem dX11_eligible_24 : decode cX11_eligible 24 = .ok (.ireturn, 1) := by decide +kernel
set_option maxHeartbeats 4000000 in
set_option maxRecDepth 100000 in
theorem ct_X11_eligible (l : Launch) (dC : Nat → ClassId) (dI : Nat → Nat → Nat) (m0 : Nat) (fm : List Value) (hfm_15 : fm[15]? = some (.int 0)) (sz : Nat) (na : Int32) (nb : Int32) (nc : Int32) : Met l yX11_eligible (.code yX11_eligible cX11_eligible 4 (some .int) :: lw_g) ({ frames := 2, cells := 0, slots := 0, locals := 120 }) (ro_P dC dI [(m0, .inr (11, fm))] [] sz [.ref m0, .int na, .int nb, .int nc]) (ri_Q (-2) (va_A [] sz)) 0 0 (va_A [] sz) := by
  refine ro_entry (by decide) (Nat.le_of_ble_eq_true rfl) ?_
  intro p e s m below meth c ls hx hb hr hlocks ht hown hin hml hsz hP hK hD hE hl
  subst hsz
  have hS : va_S (va_A [] s.heap.size) s.heap s.heap [] := va_S.rf
  have hA : ∀ q, s.heap.size ≤ q → va_A [] s.heap.size q := fun q h => Or.inr h
  have hl : lv_has ls 4 [(0, .ref m0), (1, .int na), (2, .int nb), (3, .int nc)] := hl
  have hown : s.vm.findClass RX11 = some m.cls := hown
  refine lv_iload_n hx hb dX11_eligible_0 rfl (lv_at hl 1 rfl) ?_
  refine lv_aload_n hx hb dX11_eligible_1 rfl (lv_at hl 0 rfl) ?_
  refine va_get (D := (dC, dI)) (ci := 11) (v := .int 0) (C := RX11) (T := TX11) (N := 114) hx hb ht inX11 hown hK hP 0 rfl rfl 15 (by decide) (ht _ kw_1442) (fun _ h9 => h9) hfm_15 dX11_eligible_2 ?_
  refine ro_callS (n := 2) (As := [.int na, .int 0]) (rest := []) hx hb hml hown ht hK hP hS hA hE (ct_X11_isOf l dC dI  _ na) gv_X11_317 rfl rfl (by decide +kernel) ⟨Nat.le_of_ble_eq_true rfl, Nat.le_of_ble_eq_true rfl⟩ rfl hl.1 (Nat.le_of_ble_eq_true rfl) ⟨Nat.le_of_ble_eq_true rfl, Nat.le_of_ble_eq_true rfl⟩ rfl dX11_eligible_5 (fun H locs hP hS => ?_)
  refine lv_if_eq (tgt := 22) hx hb dX11_eligible_8 (by decide) (fun c1 => ?_) (fun c1 => ?_)
  rotate_left
  · exact absurd (by decide) c1
  refine lv_bipush (v := (-2)) hx hb dX11_eligible_22 (by decide) ?_
  exact W.iret hx hb hr (fun t ht9 hW => ⟨⟨_, (), rfl, rfl, trivial⟩, hS.F ht9⟩) hS.2.2 dX11_eligible_24
abbrev cX11_lineUp : ByteArray := prog_13_method_46_code
def yX11_lineUp : MethodName := ⟨RX11, "lineUp", "(III)I"⟩
theorem dX11_lineUp_0 : decode cX11_lineUp 0 = .ok (.iload_n 1, 1) := by decide +kernel
theorem dX11_lineUp_1 : decode cX11_lineUp 1 = .ok (.aload_n 0, 1) := by decide +kernel
theorem dX11_lineUp_2 : decode cX11_lineUp 2 = .ok (.getfield 328, 3) := by decide +kernel
theorem dX11_lineUp_5 : decode cX11_lineUp 5 = .ok (.invokestatic 317, 3) := by decide +kernel
theorem dX11_lineUp_8 : decode cX11_lineUp 8 = .ok (.ifCond .eq 14, 3) := by decide +kernel
theorem dX11_lineUp_22 : decode cX11_lineUp 22 = .ok (.bipush (-2), 2) := by decide +kernel
theorem dX11_lineUp_24 : decode cX11_lineUp 24 = .ok (.ireturn, 1) := by decide +kernel
set_option maxHeartbeats 4000000 in
set_option maxRecDepth 100000 in
theorem ct_X11_lineUp (l : Launch) (dC : Nat → ClassId) (dI : Nat → Nat → Nat) (m0 : Nat) (fm : List Value) (hfm_15 : fm[15]? = some (.int 0)) (sz : Nat) (na : Int32) (nb : Int32) (nc : Int32) : Met l yX11_lineUp (.code yX11_lineUp cX11_lineUp 6 (some .int) :: lw_g) ({ frames := 2, cells := 0, slots := 0, locals := 120 }) (ro_P dC dI [(m0, .inr (11, fm))] [] sz [.ref m0, .int na, .int nb, .int nc]) (ri_Q (-2) (va_A [] sz)) 0 0 (va_A [] sz) := by
  refine ro_entry (by decide) (Nat.le_of_ble_eq_true rfl) ?_
  intro p e s m below meth c ls hx hb hr hlocks ht hown hin hml hsz hP hK hD hE hl
  subst hsz
  have hS : va_S (va_A [] s.heap.size) s.heap s.heap [] := va_S.rf
  have hA : ∀ q, s.heap.size ≤ q → va_A [] s.heap.size q := fun q h => Or.inr h
  have hl : lv_has ls 6 [(0, .ref m0), (1, .int na), (2, .int nb), (3, .int nc)] := hl
  have hown : s.vm.findClass RX11 = some m.cls := hown
  refine lv_iload_n hx hb dX11_lineUp_0 rfl (lv_at hl 1 rfl) ?_
  refine lv_aload_n hx hb dX11_lineUp_1 rfl (lv_at hl 0 rfl) ?_
  refine va_get (D := (dC, dI)) (ci := 11) (v := .int 0) (C := RX11) (T := TX11) (N := 114) hx hb ht inX11 hown hK hP 0 rfl rfl 15 (by decide) (ht _ kw_1442) (fun _ h9 => h9) hfm_15 dX11_lineUp_2 ?_
  refine ro_callS (n := 2) (As := [.int na, .int 0]) (rest := []) hx hb hml hown ht hK hP hS hA hE (ct_X11_isOf l dC dI  _ na) gv_X11_317 rfl rfl (by decide +kernel) ⟨Nat.le_of_ble_eq_true rfl, Nat.le_of_ble_eq_true rfl⟩ rfl hl.1 (Nat.le_of_ble_eq_true rfl) ⟨Nat.le_of_ble_eq_true rfl, Nat.le_of_ble_eq_true rfl⟩ rfl dX11_lineUp_5 (fun H locs hP hS => ?_)
  refine lv_if_eq (tgt := 22) hx hb dX11_lineUp_8 (by decide) (fun c1 => ?_) (fun c1 => ?_)
  rotate_left
  · exact absurd (by decide) c1
  refine lv_bipush (v := (-2)) hx hb dX11_lineUp_22 (by decide) ?_
  exact W.iret hx hb hr (fun t ht9 hW => ⟨⟨_, (), rfl, rfl, trivial⟩, hS.F ht9⟩) hS.2.2 dX11_lineUp_24
abbrev cX11_start : ByteArray := prog_13_method_48_code
def yX11_start : MethodName := ⟨RX11, "start", "(I)I"⟩
theorem dX11_start_0 : decode cX11_start 0 = .ok (.iload_n 1, 1) := by decide +kernel
theorem dX11_start_1 : decode cX11_start 1 = .ok (.aload_n 0, 1) := by decide +kernel
theorem dX11_start_2 : decode cX11_start 2 = .ok (.getfield 343, 3) := by decide +kernel
theorem dX11_start_5 : decode cX11_start 5 = .ok (.invokestatic 317, 3) := by decide +kernel
theorem dX11_start_8 : decode cX11_start 8 = .ok (.ifCond .ne 6, 3) := by decide +kernel
theorem dX11_start_11 : decode cX11_start 11 = .ok (.bipush (-2), 2) := by decide +kernel
theorem dX11_start_13 : decode cX11_start 13 = .ok (.ireturn, 1) := by decide +kernel
set_option maxHeartbeats 4000000 in
set_option maxRecDepth 100000 in
theorem ct_X11_start (l : Launch) (dC : Nat → ClassId) (dI : Nat → Nat → Nat) (m0 : Nat) (fm : List Value) (hfm_29 : fm[29]? = some (.int 0)) (sz : Nat) (na : Int32) : Met l yX11_start (.code yX11_start cX11_start 3 (some .int) :: lw_g) ({ frames := 2, cells := 0, slots := 0, locals := 120 }) (ro_P dC dI [(m0, .inr (11, fm))] [] sz [.ref m0, .int na]) (ri_Q (-2) (va_A [] sz)) 0 0 (va_A [] sz) := by
  refine ro_entry (by decide) (Nat.le_of_ble_eq_true rfl) ?_
  intro p e s m below meth c ls hx hb hr hlocks ht hown hin hml hsz hP hK hD hE hl
  subst hsz
  have hS : va_S (va_A [] s.heap.size) s.heap s.heap [] := va_S.rf
  have hA : ∀ q, s.heap.size ≤ q → va_A [] s.heap.size q := fun q h => Or.inr h
  have hl : lv_has ls 3 [(0, .ref m0), (1, .int na)] := hl
  have hown : s.vm.findClass RX11 = some m.cls := hown
  refine lv_iload_n hx hb dX11_start_0 rfl (lv_at hl 1 rfl) ?_
  refine lv_aload_n hx hb dX11_start_1 rfl (lv_at hl 0 rfl) ?_
  refine va_get (D := (dC, dI)) (ci := 11) (v := .int 0) (C := RX11) (T := TX11) (N := 114) hx hb ht inX11 hown hK hP 0 rfl rfl 29 (by decide) (ht _ kw_1456) (fun _ h9 => h9) hfm_29 dX11_start_2 ?_
  refine ro_callS (n := 2) (As := [.int na, .int 0]) (rest := []) hx hb hml hown ht hK hP hS hA hE (ct_X11_isOf l dC dI  _ na) gv_X11_317 rfl rfl (by decide +kernel) ⟨Nat.le_of_ble_eq_true rfl, Nat.le_of_ble_eq_true rfl⟩ rfl hl.1 (Nat.le_of_ble_eq_true rfl) ⟨Nat.le_of_ble_eq_true rfl, Nat.le_of_ble_eq_true rfl⟩ rfl dX11_start_5 (fun H locs hP hS => ?_)
  refine lv_if_ne (tgt := 14) hx hb dX11_start_8 (by decide) (fun c1 => ?_) (fun c1 => ?_)
  · exact absurd (by decide) c1
  refine lv_bipush (v := (-2)) hx hb dX11_start_11 (by decide) ?_
  exact W.iret hx hb hr (fun t ht9 hW => ⟨⟨_, (), rfl, rfl, trivial⟩, hS.F ht9⟩) hS.2.2 dX11_start_13
abbrev cX11_walkOver : ByteArray := prog_13_method_49_code
def yX11_walkOver : MethodName := ⟨RX11, "walkOver", "(II)I"⟩
theorem dX11_walkOver_0 : decode cX11_walkOver 0 = .ok (.iload_n 1, 1) := by decide +kernel
theorem dX11_walkOver_1 : decode cX11_walkOver 1 = .ok (.aload_n 0, 1) := by decide +kernel
theorem dX11_walkOver_2 : decode cX11_walkOver 2 = .ok (.getfield 343, 3) := by decide +kernel
theorem dX11_walkOver_5 : decode cX11_walkOver 5 = .ok (.invokestatic 317, 3) := by decide +kernel
theorem dX11_walkOver_8 : decode cX11_walkOver 8 = .ok (.ifCond .ne 6, 3) := by decide +kernel
theorem dX11_walkOver_11 : decode cX11_walkOver 11 = .ok (.bipush (-2), 2) := by decide +kernel
theorem dX11_walkOver_13 : decode cX11_walkOver 13 = .ok (.ireturn, 1) := by decide +kernel
set_option maxHeartbeats 4000000 in
set_option maxRecDepth 100000 in
theorem ct_X11_walkOver (l : Launch) (dC : Nat → ClassId) (dI : Nat → Nat → Nat) (m0 : Nat) (fm : List Value) (hfm_29 : fm[29]? = some (.int 0)) (sz : Nat) (na : Int32) (nb : Int32) : Met l yX11_walkOver (.code yX11_walkOver cX11_walkOver 3 (some .int) :: lw_g) ({ frames := 2, cells := 0, slots := 0, locals := 120 }) (ro_P dC dI [(m0, .inr (11, fm))] [] sz [.ref m0, .int na, .int nb]) (ri_Q (-2) (va_A [] sz)) 0 0 (va_A [] sz) := by
  refine ro_entry (by decide) (Nat.le_of_ble_eq_true rfl) ?_
  intro p e s m below meth c ls hx hb hr hlocks ht hown hin hml hsz hP hK hD hE hl
  subst hsz
  have hS : va_S (va_A [] s.heap.size) s.heap s.heap [] := va_S.rf
  have hA : ∀ q, s.heap.size ≤ q → va_A [] s.heap.size q := fun q h => Or.inr h
  have hl : lv_has ls 3 [(0, .ref m0), (1, .int na), (2, .int nb)] := hl
  have hown : s.vm.findClass RX11 = some m.cls := hown
  refine lv_iload_n hx hb dX11_walkOver_0 rfl (lv_at hl 1 rfl) ?_
  refine lv_aload_n hx hb dX11_walkOver_1 rfl (lv_at hl 0 rfl) ?_
  refine va_get (D := (dC, dI)) (ci := 11) (v := .int 0) (C := RX11) (T := TX11) (N := 114) hx hb ht inX11 hown hK hP 0 rfl rfl 29 (by decide) (ht _ kw_1456) (fun _ h9 => h9) hfm_29 dX11_walkOver_2 ?_
  refine ro_callS (n := 2) (As := [.int na, .int 0]) (rest := []) hx hb hml hown ht hK hP hS hA hE (ct_X11_isOf l dC dI  _ na) gv_X11_317 rfl rfl (by decide +kernel) ⟨Nat.le_of_ble_eq_true rfl, Nat.le_of_ble_eq_true rfl⟩ rfl hl.1 (Nat.le_of_ble_eq_true rfl) ⟨Nat.le_of_ble_eq_true rfl, Nat.le_of_ble_eq_true rfl⟩ rfl dX11_walkOver_5 (fun H locs hP hS => ?_)
  refine lv_if_ne (tgt := 14) hx hb dX11_walkOver_8 (by decide) (fun c1 => ?_) (fun c1 => ?_)
  · exact absurd (by decide) c1
  refine lv_bipush (v := (-2)) hx hb dX11_walkOver_11 (by decide) ?_
  exact W.iret hx hb hr (fun t ht9 hW => ⟨⟨_, (), rfl, rfl, trivial⟩, hS.F ht9⟩) hS.2.2 dX11_walkOver_13
abbrev cX11_event : ByteArray := prog_13_method_74_code
def yX11_event : MethodName := ⟨RX11, "event", "(IIIII)I"⟩
theorem dX11_event_0 : decode cX11_event 0 = .ok (.iload_n 1, 1) := by decide +kernel
theorem dX11_event_1 : decode cX11_event 1 = .ok (.aload_n 0, 1) := by decide +kernel
theorem dX11_event_2 : decode cX11_event 2 = .ok (.getfield 343, 3) := by decide +kernel
theorem dX11_event_5 : decode cX11_event 5 = .ok (.invokestatic 317, 3) := by decide +kernel
theorem dX11_event_8 : decode cX11_event 8 = .ok (.ifCond .ne 6, 3) := by decide +kernel
theorem dX11_event_11 : decode cX11_event 11 = .ok (.bipush (-2), 2) := by decide +kernel
theorem dX11_event_13 : decode cX11_event 13 = .ok (.ireturn, 1) := by decide +kernel
set_option maxHeartbeats 4000000 in
set_option maxRecDepth 100000 in
theorem ct_X11_event (l : Launch) (dC : Nat → ClassId) (dI : Nat → Nat → Nat) (m0 : Nat) (fm : List Value) (hfm_29 : fm[29]? = some (.int 0)) (sz : Nat) (na : Int32) (nb : Int32) (nc : Int32) (nd : Int32) (ne : Int32) : Met l yX11_event (.code yX11_event cX11_event 8 (some .int) :: lw_g) ({ frames := 2, cells := 0, slots := 0, locals := 120 }) (ro_P dC dI [(m0, .inr (11, fm))] [] sz [.ref m0, .int na, .int nb, .int nc, .int nd, .int ne]) (ri_Q (-2) (va_A [] sz)) 0 0 (va_A [] sz) := by
  refine ro_entry (by decide) (Nat.le_of_ble_eq_true rfl) ?_
  intro p e s m below meth c ls hx hb hr hlocks ht hown hin hml hsz hP hK hD hE hl
  subst hsz
  have hS : va_S (va_A [] s.heap.size) s.heap s.heap [] := va_S.rf
  have hA : ∀ q, s.heap.size ≤ q → va_A [] s.heap.size q := fun q h => Or.inr h
  have hl : lv_has ls 8 [(0, .ref m0), (1, .int na), (2, .int nb), (3, .int nc), (4, .int nd), (5, .int ne)] := hl
  have hown : s.vm.findClass RX11 = some m.cls := hown
  refine lv_iload_n hx hb dX11_event_0 rfl (lv_at hl 1 rfl) ?_
  refine lv_aload_n hx hb dX11_event_1 rfl (lv_at hl 0 rfl) ?_
  refine va_get (D := (dC, dI)) (ci := 11) (v := .int 0) (C := RX11) (T := TX11) (N := 114) hx hb ht inX11 hown hK hP 0 rfl rfl 29 (by decide) (ht _ kw_1456) (fun _ h9 => h9) hfm_29 dX11_event_2 ?_
  refine ro_callS (n := 2) (As := [.int na, .int 0]) (rest := []) hx hb hml hown ht hK hP hS hA hE (ct_X11_isOf l dC dI  _ na) gv_X11_317 rfl rfl (by decide +kernel) ⟨Nat.le_of_ble_eq_true rfl, Nat.le_of_ble_eq_true rfl⟩ rfl hl.1 (Nat.le_of_ble_eq_true rfl) ⟨Nat.le_of_ble_eq_true rfl, Nat.le_of_ble_eq_true rfl⟩ rfl dX11_event_5 (fun H locs hP hS => ?_)
  refine lv_if_ne (tgt := 14) hx hb dX11_event_8 (by decide) (fun c1 => ?_) (fun c1 => ?_)
  · exact absurd (by decide) c1
  refine lv_bipush (v := (-2)) hx hb dX11_event_11 (by decide) ?_
  exact W.iret hx hb hr (fun t ht9 hW => ⟨⟨_, (), rfl, rfl, trivial⟩, hS.F ht9⟩) hS.2.2 dX11_event_13
abbrev cX11_review : ByteArray := prog_13_method_76_code
def yX11_review : MethodName := ⟨RX11, "review", "(IIIIII)I"⟩
theorem dX11_review_0 : decode cX11_review 0 = .ok (.iload_n 1, 1) := by decide +kernel
theorem dX11_review_1 : decode cX11_review 1 = .ok (.aload_n 0, 1) := by decide +kernel
theorem dX11_review_2 : decode cX11_review 2 = .ok (.getfield 343, 3) := by decide +kernel
theorem dX11_review_5 : decode cX11_review 5 = .ok (.invokestatic 317, 3) := by decide +kernel
theorem dX11_review_8 : decode cX11_review 8 = .ok (.ifCond .eq 16, 3) := by decide +kernel
theorem dX11_review_24 : decode cX11_review 24 = .ok (.bipush (-2), 2) := by decide +kernel
theorem dX11_review_26 : decode cX11_review 26 = .ok (.ireturn, 1) := by decide +kernel
set_option maxHeartbeats 4000000 in
set_option maxRecDepth 100000 in
theorem ct_X11_review (l : Launch) (dC : Nat → ClassId) (dI : Nat → Nat → Nat) (m0 : Nat) (fm : List Value) (hfm_29 : fm[29]? = some (.int 0)) (sz : Nat) (na : Int32) (nb : Int32) (nc : Int32) (nd : Int32) (ne : Int32) (nf : Int32) : Met l yX11_review (.code yX11_review cX11_review 9 (some .int) :: lw_g) ({ frames := 2, cells := 0, slots := 0, locals := 120 }) (ro_P dC dI [(m0, .inr (11, fm))] [] sz [.ref m0, .int na, .int nb, .int nc, .int nd, .int ne, .int nf]) (ri_Q (-2) (va_A [] sz)) 0 0 (va_A [] sz) := by
  refine ro_entry (by decide) (Nat.le_of_ble_eq_true rfl) ?_
  intro p e s m below meth c ls hx hb hr hlocks ht hown hin hml hsz hP hK hD hE hl
  subst hsz
  have hS : va_S (va_A [] s.heap.size) s.heap s.heap [] := va_S.rf
  have hA : ∀ q, s.heap.size ≤ q → va_A [] s.heap.size q := fun q h => Or.inr h
  have hl : lv_has ls 9 [(0, .ref m0), (1, .int na), (2, .int nb), (3, .int nc), (4, .int nd), (5, .int ne), (6, .int nf)] := hl
  have hown : s.vm.findClass RX11 = some m.cls := hown
  refine lv_iload_n hx hb dX11_review_0 rfl (lv_at hl 1 rfl) ?_
  refine lv_aload_n hx hb dX11_review_1 rfl (lv_at hl 0 rfl) ?_
  refine va_get (D := (dC, dI)) (ci := 11) (v := .int 0) (C := RX11) (T := TX11) (N := 114) hx hb ht inX11 hown hK hP 0 rfl rfl 29 (by decide) (ht _ kw_1456) (fun _ h9 => h9) hfm_29 dX11_review_2 ?_
  refine ro_callS (n := 2) (As := [.int na, .int 0]) (rest := []) hx hb hml hown ht hK hP hS hA hE (ct_X11_isOf l dC dI  _ na) gv_X11_317 rfl rfl (by decide +kernel) ⟨Nat.le_of_ble_eq_true rfl, Nat.le_of_ble_eq_true rfl⟩ rfl hl.1 (Nat.le_of_ble_eq_true rfl) ⟨Nat.le_of_ble_eq_true rfl, Nat.le_of_ble_eq_true rfl⟩ rfl dX11_review_5 (fun H locs hP hS => ?_)
  refine lv_if_eq (tgt := 24) hx hb dX11_review_8 (by decide) (fun c1 => ?_) (fun c1 => ?_)
  rotate_left
  · exact absurd (by decide) c1
  refine lv_bipush (v := (-2)) hx hb dX11_review_24 (by decide) ?_
  exact W.iret hx hb hr (fun t ht9 hW => ⟨⟨_, (), rfl, rfl, trivial⟩, hS.F ht9⟩) hS.2.2 dX11_review_26
abbrev cX11_rows : ByteArray := prog_13_method_77_code
def yX11_rows : MethodName := ⟨RX11, "rows", "(II)I"⟩
theorem dX11_rows_0 : decode cX11_rows 0 = .ok (.iload_n 1, 1) := by decide +kernel
theorem dX11_rows_1 : decode cX11_rows 1 = .ok (.aload_n 0, 1) := by decide +kernel
theorem dX11_rows_2 : decode cX11_rows 2 = .ok (.getfield 343, 3) := by decide +kernel
theorem dX11_rows_5 : decode cX11_rows 5 = .ok (.invokestatic 317, 3) := by decide +kernel
theorem dX11_rows_8 : decode cX11_rows 8 = .ok (.ifCond .ne 6, 3) := by decide +kernel
theorem dX11_rows_11 : decode cX11_rows 11 = .ok (.bipush (-2), 2) := by decide +kernel
theorem dX11_rows_13 : decode cX11_rows 13 = .ok (.ireturn, 1) := by decide +kernel
set_option maxHeartbeats 4000000 in
set_option maxRecDepth 100000 in
theorem ct_X11_rows (l : Launch) (dC : Nat → ClassId) (dI : Nat → Nat → Nat) (m0 : Nat) (fm : List Value) (hfm_29 : fm[29]? = some (.int 0)) (sz : Nat) (na : Int32) (nb : Int32) : Met l yX11_rows (.code yX11_rows cX11_rows 3 (some .int) :: lw_g) ({ frames := 2, cells := 0, slots := 0, locals := 120 }) (ro_P dC dI [(m0, .inr (11, fm))] [] sz [.ref m0, .int na, .int nb]) (ri_Q (-2) (va_A [] sz)) 0 0 (va_A [] sz) := by
  refine ro_entry (by decide) (Nat.le_of_ble_eq_true rfl) ?_
  intro p e s m below meth c ls hx hb hr hlocks ht hown hin hml hsz hP hK hD hE hl
  subst hsz
  have hS : va_S (va_A [] s.heap.size) s.heap s.heap [] := va_S.rf
  have hA : ∀ q, s.heap.size ≤ q → va_A [] s.heap.size q := fun q h => Or.inr h
  have hl : lv_has ls 3 [(0, .ref m0), (1, .int na), (2, .int nb)] := hl
  have hown : s.vm.findClass RX11 = some m.cls := hown
  refine lv_iload_n hx hb dX11_rows_0 rfl (lv_at hl 1 rfl) ?_
  refine lv_aload_n hx hb dX11_rows_1 rfl (lv_at hl 0 rfl) ?_
  refine va_get (D := (dC, dI)) (ci := 11) (v := .int 0) (C := RX11) (T := TX11) (N := 114) hx hb ht inX11 hown hK hP 0 rfl rfl 29 (by decide) (ht _ kw_1456) (fun _ h9 => h9) hfm_29 dX11_rows_2 ?_
  refine ro_callS (n := 2) (As := [.int na, .int 0]) (rest := []) hx hb hml hown ht hK hP hS hA hE (ct_X11_isOf l dC dI  _ na) gv_X11_317 rfl rfl (by decide +kernel) ⟨Nat.le_of_ble_eq_true rfl, Nat.le_of_ble_eq_true rfl⟩ rfl hl.1 (Nat.le_of_ble_eq_true rfl) ⟨Nat.le_of_ble_eq_true rfl, Nat.le_of_ble_eq_true rfl⟩ rfl dX11_rows_5 (fun H locs hP hS => ?_)
  refine lv_if_ne (tgt := 14) hx hb dX11_rows_8 (by decide) (fun c1 => ?_) (fun c1 => ?_)
  · exact absurd (by decide) c1
  refine lv_bipush (v := (-2)) hx hb dX11_rows_11 (by decide) ?_
  exact W.iret hx hb hr (fun t ht9 hW => ⟨⟨_, (), rfl, rfl, trivial⟩, hS.F ht9⟩) hS.2.2 dX11_rows_13
abbrev cX11_row : ByteArray := prog_13_method_78_code
def yX11_row : MethodName := ⟨RX11, "row", "(III)I"⟩
theorem dX11_row_0 : decode cX11_row 0 = .ok (.iload_n 1, 1) := by decide +kernel
theorem dX11_row_1 : decode cX11_row 1 = .ok (.aload_n 0, 1) := by decide +kernel
theorem dX11_row_2 : decode cX11_row 2 = .ok (.getfield 343, 3) := by decide +kernel
theorem dX11_row_5 : decode cX11_row 5 = .ok (.invokestatic 317, 3) := by decide +kernel
theorem dX11_row_8 : decode cX11_row 8 = .ok (.ifCond .ne 6, 3) := by decide +kernel
theorem dX11_row_11 : decode cX11_row 11 = .ok (.bipush (-2), 2) := by decide +kernel
theorem dX11_row_13 : decode cX11_row 13 = .ok (.ireturn, 1) := by decide +kernel
set_option maxHeartbeats 4000000 in
set_option maxRecDepth 100000 in
theorem ct_X11_row (l : Launch) (dC : Nat → ClassId) (dI : Nat → Nat → Nat) (m0 : Nat) (fm : List Value) (hfm_29 : fm[29]? = some (.int 0)) (sz : Nat) (na : Int32) (nb : Int32) (nc : Int32) : Met l yX11_row (.code yX11_row cX11_row 5 (some .int) :: lw_g) ({ frames := 2, cells := 0, slots := 0, locals := 120 }) (ro_P dC dI [(m0, .inr (11, fm))] [] sz [.ref m0, .int na, .int nb, .int nc]) (ri_Q (-2) (va_A [] sz)) 0 0 (va_A [] sz) := by
  refine ro_entry (by decide) (Nat.le_of_ble_eq_true rfl) ?_
  intro p e s m below meth c ls hx hb hr hlocks ht hown hin hml hsz hP hK hD hE hl
  subst hsz
  have hS : va_S (va_A [] s.heap.size) s.heap s.heap [] := va_S.rf
  have hA : ∀ q, s.heap.size ≤ q → va_A [] s.heap.size q := fun q h => Or.inr h
  have hl : lv_has ls 5 [(0, .ref m0), (1, .int na), (2, .int nb), (3, .int nc)] := hl
  have hown : s.vm.findClass RX11 = some m.cls := hown
  refine lv_iload_n hx hb dX11_row_0 rfl (lv_at hl 1 rfl) ?_
  refine lv_aload_n hx hb dX11_row_1 rfl (lv_at hl 0 rfl) ?_
  refine va_get (D := (dC, dI)) (ci := 11) (v := .int 0) (C := RX11) (T := TX11) (N := 114) hx hb ht inX11 hown hK hP 0 rfl rfl 29 (by decide) (ht _ kw_1456) (fun _ h9 => h9) hfm_29 dX11_row_2 ?_
  refine ro_callS (n := 2) (As := [.int na, .int 0]) (rest := []) hx hb hml hown ht hK hP hS hA hE (ct_X11_isOf l dC dI  _ na) gv_X11_317 rfl rfl (by decide +kernel) ⟨Nat.le_of_ble_eq_true rfl, Nat.le_of_ble_eq_true rfl⟩ rfl hl.1 (Nat.le_of_ble_eq_true rfl) ⟨Nat.le_of_ble_eq_true rfl, Nat.le_of_ble_eq_true rfl⟩ rfl dX11_row_5 (fun H locs hP hS => ?_)
  refine lv_if_ne (tgt := 14) hx hb dX11_row_8 (by decide) (fun c1 => ?_) (fun c1 => ?_)
  · exact absurd (by decide) c1
  refine lv_bipush (v := (-2)) hx hb dX11_row_11 (by decide) ?_
  exact W.iret hx hb hr (fun t ht9 hW => ⟨⟨_, (), rfl, rfl, trivial⟩, hS.F ht9⟩) hS.2.2 dX11_row_13
abbrev cX11_state : ByteArray := prog_13_method_79_code
def yX11_state : MethodName := ⟨RX11, "state", "(II)I"⟩
theorem dX11_state_0 : decode cX11_state 0 = .ok (.iload_n 1, 1) := by decide +kernel
theorem dX11_state_1 : decode cX11_state 1 = .ok (.aload_n 0, 1) := by decide +kernel
theorem dX11_state_2 : decode cX11_state 2 = .ok (.getfield 343, 3) := by decide +kernel
theorem dX11_state_5 : decode cX11_state 5 = .ok (.invokestatic 317, 3) := by decide +kernel
theorem dX11_state_8 : decode cX11_state 8 = .ok (.ifCond .ne 6, 3) := by decide +kernel
theorem dX11_state_11 : decode cX11_state 11 = .ok (.bipush (-2), 2) := by decide +kernel
theorem dX11_state_13 : decode cX11_state 13 = .ok (.ireturn, 1) := by decide +kernel
set_option maxHeartbeats 4000000 in
set_option maxRecDepth 100000 in
theorem ct_X11_state (l : Launch) (dC : Nat → ClassId) (dI : Nat → Nat → Nat) (m0 : Nat) (fm : List Value) (hfm_29 : fm[29]? = some (.int 0)) (sz : Nat) (na : Int32) (nb : Int32) : Met l yX11_state (.code yX11_state cX11_state 3 (some .int) :: lw_g) ({ frames := 2, cells := 0, slots := 0, locals := 120 }) (ro_P dC dI [(m0, .inr (11, fm))] [] sz [.ref m0, .int na, .int nb]) (ri_Q (-2) (va_A [] sz)) 0 0 (va_A [] sz) := by
  refine ro_entry (by decide) (Nat.le_of_ble_eq_true rfl) ?_
  intro p e s m below meth c ls hx hb hr hlocks ht hown hin hml hsz hP hK hD hE hl
  subst hsz
  have hS : va_S (va_A [] s.heap.size) s.heap s.heap [] := va_S.rf
  have hA : ∀ q, s.heap.size ≤ q → va_A [] s.heap.size q := fun q h => Or.inr h
  have hl : lv_has ls 3 [(0, .ref m0), (1, .int na), (2, .int nb)] := hl
  have hown : s.vm.findClass RX11 = some m.cls := hown
  refine lv_iload_n hx hb dX11_state_0 rfl (lv_at hl 1 rfl) ?_
  refine lv_aload_n hx hb dX11_state_1 rfl (lv_at hl 0 rfl) ?_
  refine va_get (D := (dC, dI)) (ci := 11) (v := .int 0) (C := RX11) (T := TX11) (N := 114) hx hb ht inX11 hown hK hP 0 rfl rfl 29 (by decide) (ht _ kw_1456) (fun _ h9 => h9) hfm_29 dX11_state_2 ?_
  refine ro_callS (n := 2) (As := [.int na, .int 0]) (rest := []) hx hb hml hown ht hK hP hS hA hE (ct_X11_isOf l dC dI  _ na) gv_X11_317 rfl rfl (by decide +kernel) ⟨Nat.le_of_ble_eq_true rfl, Nat.le_of_ble_eq_true rfl⟩ rfl hl.1 (Nat.le_of_ble_eq_true rfl) ⟨Nat.le_of_ble_eq_true rfl, Nat.le_of_ble_eq_true rfl⟩ rfl dX11_state_5 (fun H locs hP hS => ?_)
  refine lv_if_ne (tgt := 14) hx hb dX11_state_8 (by decide) (fun c1 => ?_) (fun c1 => ?_)
  · exact absurd (by decide) c1
  refine lv_bipush (v := (-2)) hx hb dX11_state_11 (by decide) ?_
  exact W.iret hx hb hr (fun t ht9 hW => ⟨⟨_, (), rfl, rfl, trivial⟩, hS.F ht9⟩) hS.2.2 dX11_state_13
abbrev cX11_onField : ByteArray := prog_13_method_80_code
def yX11_onField : MethodName := ⟨RX11, "onField", "(III)I"⟩
theorem dX11_onField_0 : decode cX11_onField 0 = .ok (.iload_n 1, 1) := by decide +kernel
theorem dX11_onField_1 : decode cX11_onField 1 = .ok (.aload_n 0, 1) := by decide +kernel
theorem dX11_onField_2 : decode cX11_onField 2 = .ok (.getfield 343, 3) := by decide +kernel
theorem dX11_onField_5 : decode cX11_onField 5 = .ok (.invokestatic 317, 3) := by decide +kernel
theorem dX11_onField_8 : decode cX11_onField 8 = .ok (.ifCond .ne 6, 3) := by decide +kernel
theorem dX11_onField_11 : decode cX11_onField 11 = .ok (.bipush (-2), 2) := by decide +kernel
theorem dX11_onField_13 : decode cX11_onField 13 = .ok (.ireturn, 1) := by decide +kernel
set_option maxHeartbeats 4000000 in
set_option maxRecDepth 100000 in
theorem ct_X11_onField (l : Launch) (dC : Nat → ClassId) (dI : Nat → Nat → Nat) (m0 : Nat) (fm : List Value) (hfm_29 : fm[29]? = some (.int 0)) (sz : Nat) (na : Int32) (nb : Int32) (nc : Int32) : Met l yX11_onField (.code yX11_onField cX11_onField 5 (some .int) :: lw_g) ({ frames := 2, cells := 0, slots := 0, locals := 120 }) (ro_P dC dI [(m0, .inr (11, fm))] [] sz [.ref m0, .int na, .int nb, .int nc]) (ri_Q (-2) (va_A [] sz)) 0 0 (va_A [] sz) := by
  refine ro_entry (by decide) (Nat.le_of_ble_eq_true rfl) ?_
  intro p e s m below meth c ls hx hb hr hlocks ht hown hin hml hsz hP hK hD hE hl
  subst hsz
  have hS : va_S (va_A [] s.heap.size) s.heap s.heap [] := va_S.rf
  have hA : ∀ q, s.heap.size ≤ q → va_A [] s.heap.size q := fun q h => Or.inr h
  have hl : lv_has ls 5 [(0, .ref m0), (1, .int na), (2, .int nb), (3, .int nc)] := hl
  have hown : s.vm.findClass RX11 = some m.cls := hown
  refine lv_iload_n hx hb dX11_onField_0 rfl (lv_at hl 1 rfl) ?_
  refine lv_aload_n hx hb dX11_onField_1 rfl (lv_at hl 0 rfl) ?_
  refine va_get (D := (dC, dI)) (ci := 11) (v := .int 0) (C := RX11) (T := TX11) (N := 114) hx hb ht inX11 hown hK hP 0 rfl rfl 29 (by decide) (ht _ kw_1456) (fun _ h9 => h9) hfm_29 dX11_onField_2 ?_
  refine ro_callS (n := 2) (As := [.int na, .int 0]) (rest := []) hx hb hml hown ht hK hP hS hA hE (ct_X11_isOf l dC dI  _ na) gv_X11_317 rfl rfl (by decide +kernel) ⟨Nat.le_of_ble_eq_true rfl, Nat.le_of_ble_eq_true rfl⟩ rfl hl.1 (Nat.le_of_ble_eq_true rfl) ⟨Nat.le_of_ble_eq_true rfl, Nat.le_of_ble_eq_true rfl⟩ rfl dX11_onField_5 (fun H locs hP hS => ?_)
  refine lv_if_ne (tgt := 14) hx hb dX11_onField_8 (by decide) (fun c1 => ?_) (fun c1 => ?_)
  · exact absurd (by decide) c1
  refine lv_bipush (v := (-2)) hx hb dX11_onField_11 (by decide) ?_
  exact W.iret hx hb hr (fun t ht9 hW => ⟨⟨_, (), rfl, rfl, trivial⟩, hS.F ht9⟩) hS.2.2 dX11_onField_13
abbrev cX11_table : ByteArray := prog_13_method_94_code
def yX11_table : MethodName := ⟨RX11, "table", "(IIII)I"⟩
theorem dX11_table_0 : decode cX11_table 0 = .ok (.iload_n 1, 1) := by decide +kernel
theorem dX11_table_1 : decode cX11_table 1 = .ok (.aload_n 0, 1) := by decide +kernel
theorem dX11_table_2 : decode cX11_table 2 = .ok (.getfield 308, 3) := by decide +kernel
theorem dX11_table_5 : decode cX11_table 5 = .ok (.invokestatic 317, 3) := by decide +kernel
theorem dX11_table_8 : decode cX11_table 8 = .ok (.ifCond .eq 14, 3) := by decide +kernel
theorem dX11_table_22 : decode cX11_table 22 = .ok (.bipush (-2), 2) := by decide +kernel
theorem dX11_table_24 : decode cX11_table 24 = .ok (.ireturn, 1) := by decide +kernel
set_option maxHeartbeats 4000000 in
set_option maxRecDepth 100000 in
theorem ct_X11_table (l : Launch) (dC : Nat → ClassId) (dI : Nat → Nat → Nat) (m0 : Nat) (fm : List Value) (hfm_6 : fm[6]? = some (.int 0)) (sz : Nat) (na : Int32) (nb : Int32) (nc : Int32) (nd : Int32) : Met l yX11_table (.code yX11_table cX11_table 5 (some .int) :: lw_g) ({ frames := 2, cells := 0, slots := 0, locals := 120 }) (ro_P dC dI [(m0, .inr (11, fm))] [] sz [.ref m0, .int na, .int nb, .int nc, .int nd]) (ri_Q (-2) (va_A [] sz)) 0 0 (va_A [] sz) := by
  refine ro_entry (by decide) (Nat.le_of_ble_eq_true rfl) ?_
  intro p e s m below meth c ls hx hb hr hlocks ht hown hin hml hsz hP hK hD hE hl
  subst hsz
  have hS : va_S (va_A [] s.heap.size) s.heap s.heap [] := va_S.rf
  have hA : ∀ q, s.heap.size ≤ q → va_A [] s.heap.size q := fun q h => Or.inr h
  have hl : lv_has ls 5 [(0, .ref m0), (1, .int na), (2, .int nb), (3, .int nc), (4, .int nd)] := hl
  have hown : s.vm.findClass RX11 = some m.cls := hown
  refine lv_iload_n hx hb dX11_table_0 rfl (lv_at hl 1 rfl) ?_
  refine lv_aload_n hx hb dX11_table_1 rfl (lv_at hl 0 rfl) ?_
  refine va_get (D := (dC, dI)) (ci := 11) (v := .int 0) (C := RX11) (T := TX11) (N := 114) hx hb ht inX11 hown hK hP 0 rfl rfl 6 (by decide) (ht _ kw_1433) (fun _ h9 => h9) hfm_6 dX11_table_2 ?_
  refine ro_callS (n := 2) (As := [.int na, .int 0]) (rest := []) hx hb hml hown ht hK hP hS hA hE (ct_X11_isOf l dC dI  _ na) gv_X11_317 rfl rfl (by decide +kernel) ⟨Nat.le_of_ble_eq_true rfl, Nat.le_of_ble_eq_true rfl⟩ rfl hl.1 (Nat.le_of_ble_eq_true rfl) ⟨Nat.le_of_ble_eq_true rfl, Nat.le_of_ble_eq_true rfl⟩ rfl dX11_table_5 (fun H locs hP hS => ?_)
  refine lv_if_eq (tgt := 22) hx hb dX11_table_8 (by decide) (fun c1 => ?_) (fun c1 => ?_)
  rotate_left
  · exact absurd (by decide) c1
  refine lv_bipush (v := (-2)) hx hb dX11_table_22 (by decide) ?_
  exact W.iret hx hb hr (fun t ht9 hW => ⟨⟨_, (), rfl, rfl, trivial⟩, hS.F ht9⟩) hS.2.2 dX11_table_24
abbrev cX11_standing : ByteArray := prog_13_method_95_code
def yX11_standing : MethodName := ⟨RX11, "standing", "(III)I"⟩
theorem dX11_standing_0 : decode cX11_standing 0 = .ok (.iload_n 1, 1) := by decide +kernel
theorem dX11_standing_1 : decode cX11_standing 1 = .ok (.aload_n 0, 1) := by decide +kernel
theorem dX11_standing_2 : decode cX11_standing 2 = .ok (.getfield 308, 3) := by decide +kernel
theorem dX11_standing_5 : decode cX11_standing 5 = .ok (.invokestatic 317, 3) := by decide +kernel
theorem dX11_standing_8 : decode cX11_standing 8 = .ok (.ifCond .ne 6, 3) := by decide +kernel
theorem dX11_standing_11 : decode cX11_standing 11 = .ok (.bipush (-2), 2) := by decide +kernel
theorem dX11_standing_13 : decode cX11_standing 13 = .ok (.ireturn, 1) := by decide +kernel
set_option maxHeartbeats 4000000 in
set_option maxRecDepth 100000 in
theorem ct_X11_standing (l : Launch) (dC : Nat → ClassId) (dI : Nat → Nat → Nat) (m0 : Nat) (fm : List Value) (hfm_6 : fm[6]? = some (.int 0)) (sz : Nat) (na : Int32) (nb : Int32) (nc : Int32) : Met l yX11_standing (.code yX11_standing cX11_standing 4 (some .int) :: lw_g) ({ frames := 2, cells := 0, slots := 0, locals := 120 }) (ro_P dC dI [(m0, .inr (11, fm))] [] sz [.ref m0, .int na, .int nb, .int nc]) (ri_Q (-2) (va_A [] sz)) 0 0 (va_A [] sz) := by
  refine ro_entry (by decide) (Nat.le_of_ble_eq_true rfl) ?_
  intro p e s m below meth c ls hx hb hr hlocks ht hown hin hml hsz hP hK hD hE hl
  subst hsz
  have hS : va_S (va_A [] s.heap.size) s.heap s.heap [] := va_S.rf
  have hA : ∀ q, s.heap.size ≤ q → va_A [] s.heap.size q := fun q h => Or.inr h
  have hl : lv_has ls 4 [(0, .ref m0), (1, .int na), (2, .int nb), (3, .int nc)] := hl
  have hown : s.vm.findClass RX11 = some m.cls := hown
  refine lv_iload_n hx hb dX11_standing_0 rfl (lv_at hl 1 rfl) ?_
  refine lv_aload_n hx hb dX11_standing_1 rfl (lv_at hl 0 rfl) ?_
  refine va_get (D := (dC, dI)) (ci := 11) (v := .int 0) (C := RX11) (T := TX11) (N := 114) hx hb ht inX11 hown hK hP 0 rfl rfl 6 (by decide) (ht _ kw_1433) (fun _ h9 => h9) hfm_6 dX11_standing_2 ?_
  refine ro_callS (n := 2) (As := [.int na, .int 0]) (rest := []) hx hb hml hown ht hK hP hS hA hE (ct_X11_isOf l dC dI  _ na) gv_X11_317 rfl rfl (by decide +kernel) ⟨Nat.le_of_ble_eq_true rfl, Nat.le_of_ble_eq_true rfl⟩ rfl hl.1 (Nat.le_of_ble_eq_true rfl) ⟨Nat.le_of_ble_eq_true rfl, Nat.le_of_ble_eq_true rfl⟩ rfl dX11_standing_5 (fun H locs hP hS => ?_)
  refine lv_if_ne (tgt := 14) hx hb dX11_standing_8 (by decide) (fun c1 => ?_) (fun c1 => ?_)
  · exact absurd (by decide) c1
  refine lv_bipush (v := (-2)) hx hb dX11_standing_11 (by decide) ?_
  exact W.iret hx hb hr (fun t ht9 hW => ⟨⟨_, (), rfl, rfl, trivial⟩, hS.F ht9⟩) hS.2.2 dX11_standing_13
abbrev cX11_parted : ByteArray := prog_13_method_96_code
def yX11_parted : MethodName := ⟨RX11, "parted", "(III)I"⟩
theorem dX11_parted_0 : decode cX11_parted 0 = .ok (.iload_n 1, 1) := by decide +kernel
theorem dX11_parted_1 : decode cX11_parted 1 = .ok (.aload_n 0, 1) := by decide +kernel
theorem dX11_parted_2 : decode cX11_parted 2 = .ok (.getfield 308, 3) := by decide +kernel
theorem dX11_parted_5 : decode cX11_parted 5 = .ok (.invokestatic 317, 3) := by decide +kernel
theorem dX11_parted_8 : decode cX11_parted 8 = .ok (.ifCond .ne 6, 3) := by decide +kernel
theorem dX11_parted_11 : decode cX11_parted 11 = .ok (.bipush (-2), 2) := by decide +kernel
theorem dX11_parted_13 : decode cX11_parted 13 = .ok (.ireturn, 1) := by decide +kernel
set_option maxHeartbeats 4000000 in
set_option maxRecDepth 100000 in
theorem ct_X11_parted (l : Launch) (dC : Nat → ClassId) (dI : Nat → Nat → Nat) (m0 : Nat) (fm : List Value) (hfm_6 : fm[6]? = some (.int 0)) (sz : Nat) (na : Int32) (nb : Int32) (nc : Int32) : Met l yX11_parted (.code yX11_parted cX11_parted 4 (some .int) :: lw_g) ({ frames := 2, cells := 0, slots := 0, locals := 120 }) (ro_P dC dI [(m0, .inr (11, fm))] [] sz [.ref m0, .int na, .int nb, .int nc]) (ri_Q (-2) (va_A [] sz)) 0 0 (va_A [] sz) := by
  refine ro_entry (by decide) (Nat.le_of_ble_eq_true rfl) ?_
  intro p e s m below meth c ls hx hb hr hlocks ht hown hin hml hsz hP hK hD hE hl
  subst hsz
  have hS : va_S (va_A [] s.heap.size) s.heap s.heap [] := va_S.rf
  have hA : ∀ q, s.heap.size ≤ q → va_A [] s.heap.size q := fun q h => Or.inr h
  have hl : lv_has ls 4 [(0, .ref m0), (1, .int na), (2, .int nb), (3, .int nc)] := hl
  have hown : s.vm.findClass RX11 = some m.cls := hown
  refine lv_iload_n hx hb dX11_parted_0 rfl (lv_at hl 1 rfl) ?_
  refine lv_aload_n hx hb dX11_parted_1 rfl (lv_at hl 0 rfl) ?_
  refine va_get (D := (dC, dI)) (ci := 11) (v := .int 0) (C := RX11) (T := TX11) (N := 114) hx hb ht inX11 hown hK hP 0 rfl rfl 6 (by decide) (ht _ kw_1433) (fun _ h9 => h9) hfm_6 dX11_parted_2 ?_
  refine ro_callS (n := 2) (As := [.int na, .int 0]) (rest := []) hx hb hml hown ht hK hP hS hA hE (ct_X11_isOf l dC dI  _ na) gv_X11_317 rfl rfl (by decide +kernel) ⟨Nat.le_of_ble_eq_true rfl, Nat.le_of_ble_eq_true rfl⟩ rfl hl.1 (Nat.le_of_ble_eq_true rfl) ⟨Nat.le_of_ble_eq_true rfl, Nat.le_of_ble_eq_true rfl⟩ rfl dX11_parted_5 (fun H locs hP hS => ?_)
  refine lv_if_ne (tgt := 14) hx hb dX11_parted_8 (by decide) (fun c1 => ?_) (fun c1 => ?_)
  · exact absurd (by decide) c1
  refine lv_bipush (v := (-2)) hx hb dX11_parted_11 (by decide) ?_
  exact W.iret hx hb hr (fun t ht9 hW => ⟨⟨_, (), rfl, rfl, trivial⟩, hS.F ht9⟩) hS.2.2 dX11_parted_13
abbrev cX11_can : ByteArray := prog_13_method_107_code
def yX11_can : MethodName := ⟨RX11, "can", "(II)I"⟩
theorem dX11_can_0 : decode cX11_can 0 = .ok (.iload_n 1, 1) := by decide +kernel
theorem dX11_can_1 : decode cX11_can 1 = .ok (.aload_n 0, 1) := by decide +kernel
theorem dX11_can_2 : decode cX11_can 2 = .ok (.getfield 308, 3) := by decide +kernel
theorem dX11_can_5 : decode cX11_can 5 = .ok (.invokestatic 317, 3) := by decide +kernel
theorem dX11_can_8 : decode cX11_can 8 = .ok (.ifCond .eq 14, 3) := by decide +kernel
theorem dX11_can_22 : decode cX11_can 22 = .ok (.bipush (-2), 2) := by decide +kernel
theorem dX11_can_24 : decode cX11_can 24 = .ok (.ireturn, 1) := by decide +kernel
set_option maxHeartbeats 4000000 in
set_option maxRecDepth 100000 in
theorem ct_X11_can (l : Launch) (dC : Nat → ClassId) (dI : Nat → Nat → Nat) (m0 : Nat) (fm : List Value) (hfm_6 : fm[6]? = some (.int 0)) (sz : Nat) (na : Int32) (nb : Int32) : Met l yX11_can (.code yX11_can cX11_can 5 (some .int) :: lw_g) ({ frames := 2, cells := 0, slots := 0, locals := 120 }) (ro_P dC dI [(m0, .inr (11, fm))] [] sz [.ref m0, .int na, .int nb]) (ri_Q (-2) (va_A [] sz)) 0 0 (va_A [] sz) := by
  refine ro_entry (by decide) (Nat.le_of_ble_eq_true rfl) ?_
  intro p e s m below meth c ls hx hb hr hlocks ht hown hin hml hsz hP hK hD hE hl
  subst hsz
  have hS : va_S (va_A [] s.heap.size) s.heap s.heap [] := va_S.rf
  have hA : ∀ q, s.heap.size ≤ q → va_A [] s.heap.size q := fun q h => Or.inr h
  have hl : lv_has ls 5 [(0, .ref m0), (1, .int na), (2, .int nb)] := hl
  have hown : s.vm.findClass RX11 = some m.cls := hown
  refine lv_iload_n hx hb dX11_can_0 rfl (lv_at hl 1 rfl) ?_
  refine lv_aload_n hx hb dX11_can_1 rfl (lv_at hl 0 rfl) ?_
  refine va_get (D := (dC, dI)) (ci := 11) (v := .int 0) (C := RX11) (T := TX11) (N := 114) hx hb ht inX11 hown hK hP 0 rfl rfl 6 (by decide) (ht _ kw_1433) (fun _ h9 => h9) hfm_6 dX11_can_2 ?_
  refine ro_callS (n := 2) (As := [.int na, .int 0]) (rest := []) hx hb hml hown ht hK hP hS hA hE (ct_X11_isOf l dC dI  _ na) gv_X11_317 rfl rfl (by decide +kernel) ⟨Nat.le_of_ble_eq_true rfl, Nat.le_of_ble_eq_true rfl⟩ rfl hl.1 (Nat.le_of_ble_eq_true rfl) ⟨Nat.le_of_ble_eq_true rfl, Nat.le_of_ble_eq_true rfl⟩ rfl dX11_can_5 (fun H locs hP hS => ?_)
  refine lv_if_eq (tgt := 22) hx hb dX11_can_8 (by decide) (fun c1 => ?_) (fun c1 => ?_)
  rotate_left
  · exact absurd (by decide) c1
  refine lv_bipush (v := (-2)) hx hb dX11_can_22 (by decide) ?_
  exact W.iret hx hb hr (fun t ht9 hW => ⟨⟨_, (), rfl, rfl, trivial⟩, hS.F ht9⟩) hS.2.2 dX11_can_24
abbrev cX11_witness : ByteArray := prog_13_method_108_code
def yX11_witness : MethodName := ⟨RX11, "witness", "(I)I"⟩
theorem dX11_witness_0 : decode cX11_witness 0 = .ok (.iload_n 1, 1) := by decide +kernel
theorem dX11_witness_1 : decode cX11_witness 1 = .ok (.aload_n 0, 1) := by decide +kernel
theorem dX11_witness_2 : decode cX11_witness 2 = .ok (.getfield 343, 3) := by decide +kernel
theorem dX11_witness_5 : decode cX11_witness 5 = .ok (.invokestatic 317, 3) := by decide +kernel
theorem dX11_witness_8 : decode cX11_witness 8 = .ok (.ifCond .ne 6, 3) := by decide +kernel
theorem dX11_witness_11 : decode cX11_witness 11 = .ok (.bipush (-2), 2) := by decide +kernel
theorem dX11_witness_13 : decode cX11_witness 13 = .ok (.ireturn, 1) := by decide +kernel
set_option maxHeartbeats 4000000 in
set_option maxRecDepth 100000 in
theorem ct_X11_witness (l : Launch) (dC : Nat → ClassId) (dI : Nat → Nat → Nat) (m0 : Nat) (fm : List Value) (hfm_29 : fm[29]? = some (.int 0)) (sz : Nat) (na : Int32) : Met l yX11_witness (.code yX11_witness cX11_witness 2 (some .int) :: lw_g) ({ frames := 2, cells := 0, slots := 0, locals := 120 }) (ro_P dC dI [(m0, .inr (11, fm))] [] sz [.ref m0, .int na]) (ri_Q (-2) (va_A [] sz)) 0 0 (va_A [] sz) := by
  refine ro_entry (by decide) (Nat.le_of_ble_eq_true rfl) ?_
  intro p e s m below meth c ls hx hb hr hlocks ht hown hin hml hsz hP hK hD hE hl
  subst hsz
  have hS : va_S (va_A [] s.heap.size) s.heap s.heap [] := va_S.rf
  have hA : ∀ q, s.heap.size ≤ q → va_A [] s.heap.size q := fun q h => Or.inr h
  have hl : lv_has ls 2 [(0, .ref m0), (1, .int na)] := hl
  have hown : s.vm.findClass RX11 = some m.cls := hown
  refine lv_iload_n hx hb dX11_witness_0 rfl (lv_at hl 1 rfl) ?_
  refine lv_aload_n hx hb dX11_witness_1 rfl (lv_at hl 0 rfl) ?_
  refine va_get (D := (dC, dI)) (ci := 11) (v := .int 0) (C := RX11) (T := TX11) (N := 114) hx hb ht inX11 hown hK hP 0 rfl rfl 29 (by decide) (ht _ kw_1456) (fun _ h9 => h9) hfm_29 dX11_witness_2 ?_
  refine ro_callS (n := 2) (As := [.int na, .int 0]) (rest := []) hx hb hml hown ht hK hP hS hA hE (ct_X11_isOf l dC dI  _ na) gv_X11_317 rfl rfl (by decide +kernel) ⟨Nat.le_of_ble_eq_true rfl, Nat.le_of_ble_eq_true rfl⟩ rfl hl.1 (Nat.le_of_ble_eq_true rfl) ⟨Nat.le_of_ble_eq_true rfl, Nat.le_of_ble_eq_true rfl⟩ rfl dX11_witness_5 (fun H locs hP hS => ?_)
  refine lv_if_ne (tgt := 14) hx hb dX11_witness_8 (by decide) (fun c1 => ?_) (fun c1 => ?_)
  · exact absurd (by decide) c1
  refine lv_bipush (v := (-2)) hx hb dX11_witness_11 (by decide) ?_
  exact W.iret hx hb hr (fun t ht9 hW => ⟨⟨_, (), rfl, rfl, trivial⟩, hS.F ht9⟩) hS.2.2 dX11_witness_13
abbrev cX11_cut : ByteArray := prog_13_method_109_code
def yX11_cut : MethodName := ⟨RX11, "cut", "()I"⟩
theorem dX11_cut_0 : decode cX11_cut 0 = .ok (.aload_n 0, 1) := by decide +kernel
theorem dX11_cut_1 : decode cX11_cut 1 = .ok (.getfield 554, 3) := by decide +kernel
theorem kw_1517 : Cond.fieldLink RX11 554 "SportsHouseModel" "cutBits" "I" ∈ lw_g := lw_at 1517 (by decide +kernel) rfl
theorem dX11_cut_4 : decode cX11_cut 4 = .ok (.ireturn, 1) := by decide +kernel
set_option maxHeartbeats 4000000 in
set_option maxRecDepth 100000 in
theorem ct_X11_cut (l : Launch) (dC : Nat → ClassId) (dI : Nat → Nat → Nat) (m0 : Nat) (fm : List Value) (hfm_90 : fm[90]? = some (.int 0)) (sz : Nat)  : Met l yX11_cut (.code yX11_cut cX11_cut 1 (some .int) :: lw_g) ({ frames := 2, cells := 0, slots := 0, locals := 120 }) (ro_P dC dI [(m0, .inr (11, fm))] [] sz [.ref m0]) (ri_Q 0 (va_A [] sz)) 0 0 (va_A [] sz) := by
  refine ro_entry (by decide) (Nat.le_of_ble_eq_true rfl) ?_
  intro p e s m below meth c ls hx hb hr hlocks ht hown hin hml hsz hP hK hD hE hl
  subst hsz
  have hS : va_S (va_A [] s.heap.size) s.heap s.heap [] := va_S.rf
  have hA : ∀ q, s.heap.size ≤ q → va_A [] s.heap.size q := fun q h => Or.inr h
  have hl : lv_has ls 1 [(0, .ref m0)] := hl
  have hown : s.vm.findClass RX11 = some m.cls := hown
  refine lv_aload_n hx hb dX11_cut_0 rfl (lv_at hl 0 rfl) ?_
  refine va_get (D := (dC, dI)) (ci := 11) (v := .int 0) (C := RX11) (T := TX11) (N := 114) hx hb ht inX11 hown hK hP 0 rfl rfl 90 (by decide) (ht _ kw_1517) (fun _ h9 => h9) hfm_90 dX11_cut_1 ?_
  exact W.iret hx hb hr (fun t ht9 hW => ⟨⟨_, (), rfl, rfl, trivial⟩, hS.F ht9⟩) hS.2.2 dX11_cut_4
abbrev cX11_firsts : ByteArray := prog_13_method_110_code
def yX11_firsts : MethodName := ⟨RX11, "firsts", "(II)I"⟩
theorem dX11_firsts_0 : decode cX11_firsts 0 = .ok (.iload_n 1, 1) := by decide +kernel
theorem dX11_firsts_1 : decode cX11_firsts 1 = .ok (.aload_n 0, 1) := by decide +kernel
theorem dX11_firsts_2 : decode cX11_firsts 2 = .ok (.getfield 308, 3) := by decide +kernel
theorem dX11_firsts_5 : decode cX11_firsts 5 = .ok (.invokestatic 317, 3) := by decide +kernel
theorem dX11_firsts_8 : decode cX11_firsts 8 = .ok (.ifCond .eq 14, 3) := by decide +kernel
theorem dX11_firsts_22 : decode cX11_firsts 22 = .ok (.bipush (-2), 2) := by decide +kernel
theorem dX11_firsts_24 : decode cX11_firsts 24 = .ok (.ireturn, 1) := by decide +kernel
set_option maxHeartbeats 4000000 in
set_option maxRecDepth 100000 in
theorem ct_X11_firsts (l : Launch) (dC : Nat → ClassId) (dI : Nat → Nat → Nat) (m0 : Nat) (fm : List Value) (hfm_6 : fm[6]? = some (.int 0)) (sz : Nat) (na : Int32) (nb : Int32) : Met l yX11_firsts (.code yX11_firsts cX11_firsts 9 (some .int) :: lw_g) ({ frames := 2, cells := 0, slots := 0, locals := 120 }) (ro_P dC dI [(m0, .inr (11, fm))] [] sz [.ref m0, .int na, .int nb]) (ri_Q (-2) (va_A [] sz)) 0 0 (va_A [] sz) := by
  refine ro_entry (by decide) (Nat.le_of_ble_eq_true rfl) ?_
  intro p e s m below meth c ls hx hb hr hlocks ht hown hin hml hsz hP hK hD hE hl
  subst hsz
  have hS : va_S (va_A [] s.heap.size) s.heap s.heap [] := va_S.rf
  have hA : ∀ q, s.heap.size ≤ q → va_A [] s.heap.size q := fun q h => Or.inr h
  have hl : lv_has ls 9 [(0, .ref m0), (1, .int na), (2, .int nb)] := hl
  have hown : s.vm.findClass RX11 = some m.cls := hown
  refine lv_iload_n hx hb dX11_firsts_0 rfl (lv_at hl 1 rfl) ?_
  refine lv_aload_n hx hb dX11_firsts_1 rfl (lv_at hl 0 rfl) ?_
  refine va_get (D := (dC, dI)) (ci := 11) (v := .int 0) (C := RX11) (T := TX11) (N := 114) hx hb ht inX11 hown hK hP 0 rfl rfl 6 (by decide) (ht _ kw_1433) (fun _ h9 => h9) hfm_6 dX11_firsts_2 ?_
  refine ro_callS (n := 2) (As := [.int na, .int 0]) (rest := []) hx hb hml hown ht hK hP hS hA hE (ct_X11_isOf l dC dI  _ na) gv_X11_317 rfl rfl (by decide +kernel) ⟨Nat.le_of_ble_eq_true rfl, Nat.le_of_ble_eq_true rfl⟩ rfl hl.1 (Nat.le_of_ble_eq_true rfl) ⟨Nat.le_of_ble_eq_true rfl, Nat.le_of_ble_eq_true rfl⟩ rfl dX11_firsts_5 (fun H locs hP hS => ?_)
  refine lv_if_eq (tgt := 22) hx hb dX11_firsts_8 (by decide) (fun c1 => ?_) (fun c1 => ?_)
  rotate_left
  · exact absurd (by decide) c1
  refine lv_bipush (v := (-2)) hx hb dX11_firsts_22 (by decide) ?_
  exact W.iret hx hb hr (fun t ht9 hW => ⟨⟨_, (), rfl, rfl, trivial⟩, hS.F ht9⟩) hS.2.2 dX11_firsts_24
abbrev cX11_pot : ByteArray := prog_13_method_113_code
def yX11_pot : MethodName := ⟨RX11, "pot", "(II)I"⟩
theorem dX11_pot_0 : decode cX11_pot 0 = .ok (.iload_n 1, 1) := by decide +kernel
theorem dX11_pot_1 : decode cX11_pot 1 = .ok (.aload_n 0, 1) := by decide +kernel
theorem dX11_pot_2 : decode cX11_pot 2 = .ok (.getfield 325, 3) := by decide +kernel
theorem kw_1439 : Cond.fieldLink RX11 325 "SportsHouseModel" "clubs" "I" ∈ lw_g := lw_at 1439 (by decide +kernel) rfl
theorem dX11_pot_5 : decode cX11_pot 5 = .ok (.invokestatic 317, 3) := by decide +kernel
theorem dX11_pot_8 : decode cX11_pot 8 = .ok (.ifCond .ne 6, 3) := by decide +kernel
theorem dX11_pot_11 : decode cX11_pot 11 = .ok (.bipush (-2), 2) := by decide +kernel
theorem dX11_pot_13 : decode cX11_pot 13 = .ok (.ireturn, 1) := by decide +kernel
set_option maxHeartbeats 4000000 in
set_option maxRecDepth 100000 in
theorem ct_X11_pot (l : Launch) (dC : Nat → ClassId) (dI : Nat → Nat → Nat) (m0 : Nat) (fm : List Value) (hfm_12 : fm[12]? = some (.int 0)) (sz : Nat) (na : Int32) (nb : Int32) : Met l yX11_pot (.code yX11_pot cX11_pot 6 (some .int) :: lw_g) ({ frames := 2, cells := 0, slots := 0, locals := 120 }) (ro_P dC dI [(m0, .inr (11, fm))] [] sz [.ref m0, .int na, .int nb]) (ri_Q (-2) (va_A [] sz)) 0 0 (va_A [] sz) := by
  refine ro_entry (by decide) (Nat.le_of_ble_eq_true rfl) ?_
  intro p e s m below meth c ls hx hb hr hlocks ht hown hin hml hsz hP hK hD hE hl
  subst hsz
  have hS : va_S (va_A [] s.heap.size) s.heap s.heap [] := va_S.rf
  have hA : ∀ q, s.heap.size ≤ q → va_A [] s.heap.size q := fun q h => Or.inr h
  have hl : lv_has ls 6 [(0, .ref m0), (1, .int na), (2, .int nb)] := hl
  have hown : s.vm.findClass RX11 = some m.cls := hown
  refine lv_iload_n hx hb dX11_pot_0 rfl (lv_at hl 1 rfl) ?_
  refine lv_aload_n hx hb dX11_pot_1 rfl (lv_at hl 0 rfl) ?_
  refine va_get (D := (dC, dI)) (ci := 11) (v := .int 0) (C := RX11) (T := TX11) (N := 114) hx hb ht inX11 hown hK hP 0 rfl rfl 12 (by decide) (ht _ kw_1439) (fun _ h9 => h9) hfm_12 dX11_pot_2 ?_
  refine ro_callS (n := 2) (As := [.int na, .int 0]) (rest := []) hx hb hml hown ht hK hP hS hA hE (ct_X11_isOf l dC dI  _ na) gv_X11_317 rfl rfl (by decide +kernel) ⟨Nat.le_of_ble_eq_true rfl, Nat.le_of_ble_eq_true rfl⟩ rfl hl.1 (Nat.le_of_ble_eq_true rfl) ⟨Nat.le_of_ble_eq_true rfl, Nat.le_of_ble_eq_true rfl⟩ rfl dX11_pot_5 (fun H locs hP hS => ?_)
  refine lv_if_ne (tgt := 14) hx hb dX11_pot_8 (by decide) (fun c1 => ?_) (fun c1 => ?_)
  · exact absurd (by decide) c1
  refine lv_bipush (v := (-2)) hx hb dX11_pot_11 (by decide) ?_
  exact W.iret hx hb hr (fun t ht9 hW => ⟨⟨_, (), rfl, rfl, trivial⟩, hS.F ht9⟩) hS.2.2 dX11_pot_13
abbrev cX11_ways : ByteArray := prog_13_method_116_code
def yX11_ways : MethodName := ⟨RX11, "ways", "()I"⟩
theorem dX11_ways_0 : decode cX11_ways 0 = .ok (.aload_n 0, 1) := by decide +kernel
theorem dX11_ways_1 : decode cX11_ways 1 = .ok (.getfield 576, 3) := by decide +kernel
theorem kw_1525 : Cond.fieldLink RX11 576 "SportsHouseModel" "isDraw" "Z" ∈ lw_g := lw_at 1525 (by decide +kernel) rfl
theorem dX11_ways_4 : decode cX11_ways 4 = .ok (.ifCond .eq 12, 3) := by decide +kernel
theorem dX11_ways_16 : decode cX11_ways 16 = .ok (.bipush (-4), 2) := by decide +kernel
theorem dX11_ways_18 : decode cX11_ways 18 = .ok (.ireturn, 1) := by decide +kernel
set_option maxHeartbeats 4000000 in
set_option maxRecDepth 100000 in
theorem ct_X11_ways (l : Launch) (dC : Nat → ClassId) (dI : Nat → Nat → Nat) (m0 : Nat) (fm : List Value) (hfm_98 : fm[98]? = some (.int 0)) (sz : Nat)  : Met l yX11_ways (.code yX11_ways cX11_ways 1 (some .int) :: lw_g) ({ frames := 2, cells := 0, slots := 0, locals := 120 }) (ro_P dC dI [(m0, .inr (11, fm))] [] sz [.ref m0]) (ri_Q (-4) (va_A [] sz)) 0 0 (va_A [] sz) := by
  refine ro_entry (by decide) (Nat.le_of_ble_eq_true rfl) ?_
  intro p e s m below meth c ls hx hb hr hlocks ht hown hin hml hsz hP hK hD hE hl
  subst hsz
  have hS : va_S (va_A [] s.heap.size) s.heap s.heap [] := va_S.rf
  have hA : ∀ q, s.heap.size ≤ q → va_A [] s.heap.size q := fun q h => Or.inr h
  have hl : lv_has ls 1 [(0, .ref m0)] := hl
  have hown : s.vm.findClass RX11 = some m.cls := hown
  refine lv_aload_n hx hb dX11_ways_0 rfl (lv_at hl 0 rfl) ?_
  refine va_get (D := (dC, dI)) (ci := 11) (v := .int 0) (C := RX11) (T := TX11) (N := 114) hx hb ht inX11 hown hK hP 0 rfl rfl 98 (by decide) (ht _ kw_1525) (fun _ h9 => h9) hfm_98 dX11_ways_1 ?_
  refine lv_if_eq (tgt := 16) hx hb dX11_ways_4 (by decide) (fun c1 => ?_) (fun c1 => ?_)
  rotate_left
  · exact absurd (by decide) c1
  refine lv_bipush (v := (-4)) hx hb dX11_ways_16 (by decide) ?_
  exact W.iret hx hb hr (fun t ht9 hW => ⟨⟨_, (), rfl, rfl, trivial⟩, hS.F ht9⟩) hS.2.2 dX11_ways_18
abbrev cX11_chance : ByteArray := prog_13_method_118_code
def yX11_chance : MethodName := ⟨RX11, "chance", "(II)I"⟩
theorem dX11_chance_0 : decode cX11_chance 0 = .ok (.iload_n 1, 1) := by decide +kernel
theorem dX11_chance_1 : decode cX11_chance 1 = .ok (.aload_n 0, 1) := by decide +kernel
theorem dX11_chance_2 : decode cX11_chance 2 = .ok (.getfield 325, 3) := by decide +kernel
theorem dX11_chance_5 : decode cX11_chance 5 = .ok (.invokestatic 317, 3) := by decide +kernel
theorem dX11_chance_8 : decode cX11_chance 8 = .ok (.ifCond .eq 11, 3) := by decide +kernel
theorem dX11_chance_19 : decode cX11_chance 19 = .ok (.bipush (-2), 2) := by decide +kernel
theorem dX11_chance_21 : decode cX11_chance 21 = .ok (.ireturn, 1) := by decide +kernel
set_option maxHeartbeats 4000000 in
set_option maxRecDepth 100000 in
theorem ct_X11_chance (l : Launch) (dC : Nat → ClassId) (dI : Nat → Nat → Nat) (m0 : Nat) (fm : List Value) (hfm_12 : fm[12]? = some (.int 0)) (sz : Nat) (na : Int32) (nb : Int32) : Met l yX11_chance (.code yX11_chance cX11_chance 3 (some .int) :: lw_g) ({ frames := 2, cells := 0, slots := 0, locals := 120 }) (ro_P dC dI [(m0, .inr (11, fm))] [] sz [.ref m0, .int na, .int nb]) (ri_Q (-2) (va_A [] sz)) 0 0 (va_A [] sz) := by
  refine ro_entry (by decide) (Nat.le_of_ble_eq_true rfl) ?_
  intro p e s m below meth c ls hx hb hr hlocks ht hown hin hml hsz hP hK hD hE hl
  subst hsz
  have hS : va_S (va_A [] s.heap.size) s.heap s.heap [] := va_S.rf
  have hA : ∀ q, s.heap.size ≤ q → va_A [] s.heap.size q := fun q h => Or.inr h
  have hl : lv_has ls 3 [(0, .ref m0), (1, .int na), (2, .int nb)] := hl
  have hown : s.vm.findClass RX11 = some m.cls := hown
  refine lv_iload_n hx hb dX11_chance_0 rfl (lv_at hl 1 rfl) ?_
  refine lv_aload_n hx hb dX11_chance_1 rfl (lv_at hl 0 rfl) ?_
  refine va_get (D := (dC, dI)) (ci := 11) (v := .int 0) (C := RX11) (T := TX11) (N := 114) hx hb ht inX11 hown hK hP 0 rfl rfl 12 (by decide) (ht _ kw_1439) (fun _ h9 => h9) hfm_12 dX11_chance_2 ?_
  refine ro_callS (n := 2) (As := [.int na, .int 0]) (rest := []) hx hb hml hown ht hK hP hS hA hE (ct_X11_isOf l dC dI  _ na) gv_X11_317 rfl rfl (by decide +kernel) ⟨Nat.le_of_ble_eq_true rfl, Nat.le_of_ble_eq_true rfl⟩ rfl hl.1 (Nat.le_of_ble_eq_true rfl) ⟨Nat.le_of_ble_eq_true rfl, Nat.le_of_ble_eq_true rfl⟩ rfl dX11_chance_5 (fun H locs hP hS => ?_)
  refine lv_if_eq (tgt := 19) hx hb dX11_chance_8 (by decide) (fun c1 => ?_) (fun c1 => ?_)
  rotate_left
  · exact absurd (by decide) c1
  refine lv_bipush (v := (-2)) hx hb dX11_chance_19 (by decide) ?_
  exact W.iret hx hb hr (fun t ht9 hW => ⟨⟨_, (), rfl, rfl, trivial⟩, hS.F ht9⟩) hS.2.2 dX11_chance_21
abbrev cX11_ball : ByteArray := prog_13_method_120_code
def yX11_ball : MethodName := ⟨RX11, "ball", "(IZ)I"⟩
theorem dX11_ball_0 : decode cX11_ball 0 = .ok (.iconst 0, 1) := by decide +kernel
theorem dX11_ball_1 : decode cX11_ball 1 = .ok (.istore_n 3, 1) := by decide +kernel
theorem dX11_ball_2 : decode cX11_ball 2 = .ok (.iconst 3, 1) := by decide +kernel
theorem dX11_ball_3 : decode cX11_ball 3 = .ok (.istore 4, 2) := by decide +kernel
theorem dX11_ball_5 : decode cX11_ball 5 = .ok (.iconst 0, 1) := by decide +kernel
theorem dX11_ball_6 : decode cX11_ball 6 = .ok (.istore 5, 2) := by decide +kernel
theorem dX11_ball_8 : decode cX11_ball 8 = .ok (.iload 5, 2) := by decide +kernel
theorem dX11_ball_10 : decode cX11_ball 10 = .ok (.aload_n 0, 1) := by decide +kernel
theorem dX11_ball_11 : decode cX11_ball 11 = .ok (.getfield 325, 3) := by decide +kernel
theorem dX11_ball_14 : decode cX11_ball 14 = .ok (.if_icmp .ge 67, 3) := by decide +kernel
theorem dX11_ball_81 : decode cX11_ball 81 = .ok (.aload_n 0, 1) := by decide +kernel
theorem dX11_ball_82 : decode cX11_ball 82 = .ok (.getfield 576, 3) := by decide +kernel
theorem dX11_ball_85 : decode cX11_ball 85 = .ok (.ifCond .eq 16, 3) := by decide +kernel
theorem dX11_ball_101 : decode cX11_ball 101 = .ok (.iconst 0, 1) := by decide +kernel
theorem dX11_ball_102 : decode cX11_ball 102 = .ok (.istore 5, 2) := by decide +kernel
theorem dX11_ball_104 : decode cX11_ball 104 = .ok (.iload 5, 2) := by decide +kernel
theorem dX11_ball_106 : decode cX11_ball 106 = .ok (.ifCond .ne 6, 3) := by decide +kernel
theorem dX11_ball_109 : decode cX11_ball 109 = .ok (.bipush (-4), 2) := by decide +kernel
theorem dX11_ball_111 : decode cX11_ball 111 = .ok (.ireturn, 1) := by decide +kernel
set_option maxHeartbeats 4000000 in
set_option maxRecDepth 100000 in
theorem ct_X11_ball (l : Launch) (dC : Nat → ClassId) (dI : Nat → Nat → Nat) (m0 : Nat) (fm : List Value) (hfm_12 : fm[12]? = some (.int 0)) (hfm_98 : fm[98]? = some (.int 0)) (sz : Nat) (na : Int32) (nb : Int32) : Met l yX11_ball (.code yX11_ball cX11_ball 12 (some .int) :: lw_g) ({ frames := 2, cells := 0, slots := 0, locals := 120 }) (ro_P dC dI [(m0, .inr (11, fm))] [] sz [.ref m0, .int na, .int nb]) (ri_Q (-4) (va_A [] sz)) 0 0 (va_A [] sz) := by
  refine ro_entry (by decide) (Nat.le_of_ble_eq_true rfl) ?_
  intro p e s m below meth c ls hx hb hr hlocks ht hown hin hml hsz hP hK hD hE hl
  subst hsz
  have hS : va_S (va_A [] s.heap.size) s.heap s.heap [] := va_S.rf
  have hA : ∀ q, s.heap.size ≤ q → va_A [] s.heap.size q := fun q h => Or.inr h
  have hl : lv_has ls 12 [(0, .ref m0), (1, .int na), (2, .int nb)] := hl
  have hown : s.vm.findClass RX11 = some m.cls := hown
  refine lv_iconst (v := 0) hx hb dX11_ball_0 (by decide) ?_
  refine lv_istore_n (lv' := [(3, .int 0), (0, .ref m0), (1, .int na), (2, .int nb)]) hx hb dX11_ball_1 rfl hl (by decide) rfl (fun ls hl => ?_)
  refine lv_iconst (v := 3) hx hb dX11_ball_2 (by decide) ?_
  refine lv_istore (lv' := [(4, .int 3), (3, .int 0), (0, .ref m0), (1, .int na), (2, .int nb)]) hx hb dX11_ball_3 hl (by decide) rfl (fun ls hl => ?_)
  refine lv_iconst (v := 0) hx hb dX11_ball_5 (by decide) ?_
  refine lv_istore (lv' := [(5, .int 0), (4, .int 3), (3, .int 0), (0, .ref m0), (1, .int na), (2, .int nb)]) hx hb dX11_ball_6 hl (by decide) rfl (fun ls hl => ?_)
  refine lv_iload hx hb dX11_ball_8 (lv_at hl 0 rfl) ?_
  refine lv_aload_n hx hb dX11_ball_10 rfl (lv_at hl 3 rfl) ?_
  refine va_get (D := (dC, dI)) (ci := 11) (v := .int 0) (C := RX11) (T := TX11) (N := 114) hx hb ht inX11 hown hK hP 0 rfl rfl 12 (by decide) (ht _ kw_1439) (fun _ h9 => h9) hfm_12 dX11_ball_11 ?_
  refine lv_icmp_ge (tgt := 81) hx hb dX11_ball_14 (by decide) (fun c1 => ?_) (fun c1 => ?_)
  rotate_left
  · exact absurd (by decide) c1
  refine lv_aload_n hx hb dX11_ball_81 rfl (lv_at hl 3 rfl) ?_
  refine va_get (D := (dC, dI)) (ci := 11) (v := .int 0) (C := RX11) (T := TX11) (N := 114) hx hb ht inX11 hown hK hP 0 rfl rfl 98 (by decide) (ht _ kw_1525) (fun _ h9 => h9) hfm_98 dX11_ball_82 ?_
  refine lv_if_eq (tgt := 101) hx hb dX11_ball_85 (by decide) (fun c2 => ?_) (fun c2 => ?_)
  rotate_left
  · exact absurd (by decide) c2
  refine lv_iconst (v := 0) hx hb dX11_ball_101 (by decide) ?_
  refine lv_istore (lv' := [(5, .int 0), (4, .int 3), (3, .int 0), (0, .ref m0), (1, .int na), (2, .int nb)]) hx hb dX11_ball_102 hl (by decide) rfl (fun ls hl => ?_)
  refine lv_iload hx hb dX11_ball_104 (lv_at hl 0 rfl) ?_
  refine lv_if_ne (tgt := 112) hx hb dX11_ball_106 (by decide) (fun c3 => ?_) (fun c3 => ?_)
  · exact absurd (by decide) c3
  refine lv_bipush (v := (-4)) hx hb dX11_ball_109 (by decide) ?_
  exact W.iret hx hb hr (fun t ht9 hW => ⟨⟨_, (), rfl, rfl, trivial⟩, hS.F ht9⟩) hS.2.2 dX11_ball_111
abbrev cX11_drawn : ByteArray := prog_13_method_121_code
def yX11_drawn : MethodName := ⟨RX11, "drawn", "(I)I"⟩
theorem dX11_drawn_0 : decode cX11_drawn 0 = .ok (.iload_n 1, 1) := by decide +kernel
theorem dX11_drawn_1 : decode cX11_drawn 1 = .ok (.aload_n 0, 1) := by decide +kernel
theorem dX11_drawn_2 : decode cX11_drawn 2 = .ok (.getfield 325, 3) := by decide +kernel
theorem dX11_drawn_5 : decode cX11_drawn 5 = .ok (.invokestatic 317, 3) := by decide +kernel
theorem dX11_drawn_8 : decode cX11_drawn 8 = .ok (.ifCond .ne 6, 3) := by decide +kernel
theorem dX11_drawn_11 : decode cX11_drawn 11 = .ok (.bipush (-2), 2) := by decide +kernel
theorem dX11_drawn_13 : decode cX11_drawn 13 = .ok (.ireturn, 1) := by decide +kernel
set_option maxHeartbeats 4000000 in
set_option maxRecDepth 100000 in
theorem ct_X11_drawn (l : Launch) (dC : Nat → ClassId) (dI : Nat → Nat → Nat) (m0 : Nat) (fm : List Value) (hfm_12 : fm[12]? = some (.int 0)) (sz : Nat) (na : Int32) : Met l yX11_drawn (.code yX11_drawn cX11_drawn 2 (some .int) :: lw_g) ({ frames := 2, cells := 0, slots := 0, locals := 120 }) (ro_P dC dI [(m0, .inr (11, fm))] [] sz [.ref m0, .int na]) (ri_Q (-2) (va_A [] sz)) 0 0 (va_A [] sz) := by
  refine ro_entry (by decide) (Nat.le_of_ble_eq_true rfl) ?_
  intro p e s m below meth c ls hx hb hr hlocks ht hown hin hml hsz hP hK hD hE hl
  subst hsz
  have hS : va_S (va_A [] s.heap.size) s.heap s.heap [] := va_S.rf
  have hA : ∀ q, s.heap.size ≤ q → va_A [] s.heap.size q := fun q h => Or.inr h
  have hl : lv_has ls 2 [(0, .ref m0), (1, .int na)] := hl
  have hown : s.vm.findClass RX11 = some m.cls := hown
  refine lv_iload_n hx hb dX11_drawn_0 rfl (lv_at hl 1 rfl) ?_
  refine lv_aload_n hx hb dX11_drawn_1 rfl (lv_at hl 0 rfl) ?_
  refine va_get (D := (dC, dI)) (ci := 11) (v := .int 0) (C := RX11) (T := TX11) (N := 114) hx hb ht inX11 hown hK hP 0 rfl rfl 12 (by decide) (ht _ kw_1439) (fun _ h9 => h9) hfm_12 dX11_drawn_2 ?_
  refine ro_callS (n := 2) (As := [.int na, .int 0]) (rest := []) hx hb hml hown ht hK hP hS hA hE (ct_X11_isOf l dC dI  _ na) gv_X11_317 rfl rfl (by decide +kernel) ⟨Nat.le_of_ble_eq_true rfl, Nat.le_of_ble_eq_true rfl⟩ rfl hl.1 (Nat.le_of_ble_eq_true rfl) ⟨Nat.le_of_ble_eq_true rfl, Nat.le_of_ble_eq_true rfl⟩ rfl dX11_drawn_5 (fun H locs hP hS => ?_)
  refine lv_if_ne (tgt := 14) hx hb dX11_drawn_8 (by decide) (fun c1 => ?_) (fun c1 => ?_)
  · exact absurd (by decide) c1
  refine lv_bipush (v := (-2)) hx hb dX11_drawn_11 (by decide) ?_
  exact W.iret hx hb hr (fun t ht9 hW => ⟨⟨_, (), rfl, rfl, trivial⟩, hS.F ht9⟩) hS.2.2 dX11_drawn_13
abbrev cX11_officialOf : ByteArray := prog_13_method_128_code
def yX11_officialOf : MethodName := ⟨RX11, "officialOf", "(I)I"⟩
theorem dX11_officialOf_0 : decode cX11_officialOf 0 = .ok (.iload_n 1, 1) := by decide +kernel
theorem dX11_officialOf_1 : decode cX11_officialOf 1 = .ok (.aload_n 0, 1) := by decide +kernel
theorem dX11_officialOf_2 : decode cX11_officialOf 2 = .ok (.getfield 343, 3) := by decide +kernel
theorem dX11_officialOf_5 : decode cX11_officialOf 5 = .ok (.invokestatic 317, 3) := by decide +kernel
theorem dX11_officialOf_8 : decode cX11_officialOf 8 = .ok (.ifCond .eq 12, 3) := by decide +kernel
theorem dX11_officialOf_20 : decode cX11_officialOf 20 = .ok (.bipush (-2), 2) := by decide +kernel
theorem dX11_officialOf_22 : decode cX11_officialOf 22 = .ok (.ireturn, 1) := by decide +kernel
set_option maxHeartbeats 4000000 in
set_option maxRecDepth 100000 in
theorem ct_X11_officialOf (l : Launch) (dC : Nat → ClassId) (dI : Nat → Nat → Nat) (m0 : Nat) (fm : List Value) (hfm_29 : fm[29]? = some (.int 0)) (sz : Nat) (na : Int32) : Met l yX11_officialOf (.code yX11_officialOf cX11_officialOf 2 (some .int) :: lw_g) ({ frames := 2, cells := 0, slots := 0, locals := 120 }) (ro_P dC dI [(m0, .inr (11, fm))] [] sz [.ref m0, .int na]) (ri_Q (-2) (va_A [] sz)) 0 0 (va_A [] sz) := by
  refine ro_entry (by decide) (Nat.le_of_ble_eq_true rfl) ?_
  intro p e s m below meth c ls hx hb hr hlocks ht hown hin hml hsz hP hK hD hE hl
  subst hsz
  have hS : va_S (va_A [] s.heap.size) s.heap s.heap [] := va_S.rf
  have hA : ∀ q, s.heap.size ≤ q → va_A [] s.heap.size q := fun q h => Or.inr h
  have hl : lv_has ls 2 [(0, .ref m0), (1, .int na)] := hl
  have hown : s.vm.findClass RX11 = some m.cls := hown
  refine lv_iload_n hx hb dX11_officialOf_0 rfl (lv_at hl 1 rfl) ?_
  refine lv_aload_n hx hb dX11_officialOf_1 rfl (lv_at hl 0 rfl) ?_
  refine va_get (D := (dC, dI)) (ci := 11) (v := .int 0) (C := RX11) (T := TX11) (N := 114) hx hb ht inX11 hown hK hP 0 rfl rfl 29 (by decide) (ht _ kw_1456) (fun _ h9 => h9) hfm_29 dX11_officialOf_2 ?_
  refine ro_callS (n := 2) (As := [.int na, .int 0]) (rest := []) hx hb hml hown ht hK hP hS hA hE (ct_X11_isOf l dC dI  _ na) gv_X11_317 rfl rfl (by decide +kernel) ⟨Nat.le_of_ble_eq_true rfl, Nat.le_of_ble_eq_true rfl⟩ rfl hl.1 (Nat.le_of_ble_eq_true rfl) ⟨Nat.le_of_ble_eq_true rfl, Nat.le_of_ble_eq_true rfl⟩ rfl dX11_officialOf_5 (fun H locs hP hS => ?_)
  refine lv_if_eq (tgt := 20) hx hb dX11_officialOf_8 (by decide) (fun c1 => ?_) (fun c1 => ?_)
  rotate_left
  · exact absurd (by decide) c1
  refine lv_bipush (v := (-2)) hx hb dX11_officialOf_20 (by decide) ?_
  exact W.iret hx hb hr (fun t ht9 hW => ⟨⟨_, (), rfl, rfl, trivial⟩, hS.F ht9⟩) hS.2.2 dX11_officialOf_22
abbrev cX11_count : ByteArray := prog_13_method_129_code
def yX11_count : MethodName := ⟨RX11, "count", "(I)I"⟩
theorem dX11_count_0 : decode cX11_count 0 = .ok (.iload_n 1, 1) := by decide +kernel
theorem dX11_count_1 : decode cX11_count 1 = .ok (.tableswitch 78 0 6 #[43, 48, 53, 58, 63, 68, 73], 43) := by decide +kernel
theorem dX11_count_44 : decode cX11_count 44 = .ok (.aload_n 0, 1) := by decide +kernel
theorem dX11_count_45 : decode cX11_count 45 = .ok (.getfield 325, 3) := by decide +kernel
theorem dX11_count_48 : decode cX11_count 48 = .ok (.ireturn, 1) := by decide +kernel
theorem dX11_count_49 : decode cX11_count 49 = .ok (.aload_n 0, 1) := by decide +kernel
theorem dX11_count_50 : decode cX11_count 50 = .ok (.getfield 328, 3) := by decide +kernel
theorem dX11_count_53 : decode cX11_count 53 = .ok (.ireturn, 1) := by decide +kernel
theorem dX11_count_54 : decode cX11_count 54 = .ok (.aload_n 0, 1) := by decide +kernel
theorem dX11_count_55 : decode cX11_count 55 = .ok (.getfield 331, 3) := by decide +kernel
theorem kw_1443 : Cond.fieldLink RX11 331 "SportsHouseModel" "spans" "I" ∈ lw_g := lw_at 1443 (by decide +kernel) rfl
theorem dX11_count_58 : decode cX11_count 58 = .ok (.ireturn, 1) := by decide +kernel
theorem dX11_count_59 : decode cX11_count 59 = .ok (.aload_n 0, 1) := by decide +kernel
theorem dX11_count_60 : decode cX11_count 60 = .ok (.getfield 334, 3) := by decide +kernel
theorem kw_1448 : Cond.fieldLink RX11 334 "SportsHouseModel" "officials" "I" ∈ lw_g := lw_at 1448 (by decide +kernel) rfl
theorem dX11_count_63 : decode cX11_count 63 = .ok (.ireturn, 1) := by decide +kernel
theorem dX11_count_64 : decode cX11_count 64 = .ok (.aload_n 0, 1) := by decide +kernel
theorem dX11_count_65 : decode cX11_count 65 = .ok (.getfield 308, 3) := by decide +kernel
theorem dX11_count_68 : decode cX11_count 68 = .ok (.ireturn, 1) := by decide +kernel
theorem dX11_count_69 : decode cX11_count 69 = .ok (.aload_n 0, 1) := by decide +kernel
theorem dX11_count_70 : decode cX11_count 70 = .ok (.getfield 343, 3) := by decide +kernel
theorem dX11_count_73 : decode cX11_count 73 = .ok (.ireturn, 1) := by decide +kernel
theorem dX11_count_74 : decode cX11_count 74 = .ok (.aload_n 0, 1) := by decide +kernel
theorem dX11_count_75 : decode cX11_count 75 = .ok (.getfield 463, 3) := by decide +kernel
theorem kw_1474 : Cond.fieldLink RX11 463 "SportsHouseModel" "rowsMade" "I" ∈ lw_g := lw_at 1474 (by decide +kernel) rfl
theorem dX11_count_78 : decode cX11_count 78 = .ok (.ireturn, 1) := by decide +kernel
theorem dX11_count_79 : decode cX11_count 79 = .ok (.iload_n 1, 1) := by decide +kernel
theorem dX11_count_80 : decode cX11_count 80 = .ok (.bipush 7, 2) := by decide +kernel
theorem dX11_count_82 : decode cX11_count 82 = .ok (.if_icmp .ne 10, 3) := by decide +kernel
theorem dX11_count_92 : decode cX11_count 92 = .ok (.bipush (-3), 2) := by decide +kernel
theorem dX11_count_94 : decode cX11_count 94 = .ok (.ireturn, 1) := by decide +kernel
theorem dX11_count_85 : decode cX11_count 85 = .ok (.aload_n 0, 1) := by decide +kernel
theorem dX11_count_86 : decode cX11_count 86 = .ok (.getfield 337, 3) := by decide +kernel
theorem kw_1430 : Cond.fieldLink RX11 337 "SportsHouseModel" "today" "I" ∈ lw_g := lw_at 1430 (by decide +kernel) rfl
theorem dX11_count_89 : decode cX11_count 89 = .ok (.goto 5, 3) := by decide +kernel
def sp_X11_count (na : Int32) : Int32 := if na = 0 then 0 else if na = 1 then 0 else if na = 2 then 0 else if na = 3 then 0 else if na = 4 then 0 else if na = 5 then 0 else if na = 6 then 0 else if na = 7 then 0 else (-3)
set_option maxHeartbeats 4000000 in
set_option maxRecDepth 100000 in
theorem ct_X11_count (l : Launch) (dC : Nat → ClassId) (dI : Nat → Nat → Nat) (m0 : Nat) (fm : List Value) (hfm_3 : fm[3]? = some (.int 0)) (hfm_6 : fm[6]? = some (.int 0)) (hfm_12 : fm[12]? = some (.int 0)) (hfm_15 : fm[15]? = some (.int 0)) (hfm_16 : fm[16]? = some (.int 0)) (hfm_21 : fm[21]? = some (.int 0)) (hfm_29 : fm[29]? = some (.int 0)) (hfm_47 : fm[47]? = some (.int 0)) (sz : Nat) (na : Int32) : Met l yX11_count (.code yX11_count cX11_count 2 (some .int) :: lw_g) ({ frames := 2, cells := 0, slots := 0, locals := 120 }) (ro_P dC dI [(m0, .inr (11, fm))] [] sz [.ref m0, .int na]) (ri_Q (sp_X11_count na) (va_A [] sz)) 0 0 (va_A [] sz) := by
  refine ro_entry (by decide) (Nat.le_of_ble_eq_true rfl) ?_
  intro p e s m below meth c ls hx hb hr hlocks ht hown hin hml hsz hP hK hD hE hl
  subst hsz
  have hS : va_S (va_A [] s.heap.size) s.heap s.heap [] := va_S.rf
  have hA : ∀ q, s.heap.size ≤ q → va_A [] s.heap.size q := fun q h => Or.inr h
  have hl : lv_has ls 2 [(0, .ref m0), (1, .int na)] := hl
  have hown : s.vm.findClass RX11 = some m.cls := hown
  refine lv_iload_n hx hb dX11_count_0 rfl (lv_at hl 1 rfl) ?_
  by_cases z1_0 : na = 0
  · refine lv_tableIn (off := 43) (tgt := 44) hx hb dX11_count_1 (by rw [z1_0]; decide) (by rw [z1_0]; decide) (by rw [z1_0]; rfl) (by decide) ?_
    refine lv_aload_n hx hb dX11_count_44 rfl (lv_at hl 0 rfl) ?_
    refine va_get (D := (dC, dI)) (ci := 11) (v := .int 0) (C := RX11) (T := TX11) (N := 114) hx hb ht inX11 hown hK hP 0 rfl rfl 12 (by decide) (ht _ kw_1439) (fun _ h9 => h9) hfm_12 dX11_count_45 ?_
    exact W.iret hx hb hr (fun t ht9 hW => ⟨⟨_, (), rfl, (by unfold sp_X11_count; rw [if_pos z1_0]), trivial⟩, hS.F ht9⟩) hS.2.2 dX11_count_48
  by_cases z1_1 : na = 1
  · refine lv_tableIn (off := 48) (tgt := 49) hx hb dX11_count_1 (by rw [z1_1]; decide) (by rw [z1_1]; decide) (by rw [z1_1]; rfl) (by decide) ?_
    refine lv_aload_n hx hb dX11_count_49 rfl (lv_at hl 0 rfl) ?_
    refine va_get (D := (dC, dI)) (ci := 11) (v := .int 0) (C := RX11) (T := TX11) (N := 114) hx hb ht inX11 hown hK hP 0 rfl rfl 15 (by decide) (ht _ kw_1442) (fun _ h9 => h9) hfm_15 dX11_count_50 ?_
    exact W.iret hx hb hr (fun t ht9 hW => ⟨⟨_, (), rfl, (by unfold sp_X11_count; rw [if_neg z1_0, if_pos z1_1]), trivial⟩, hS.F ht9⟩) hS.2.2 dX11_count_53
  by_cases z1_2 : na = 2
  · refine lv_tableIn (off := 53) (tgt := 54) hx hb dX11_count_1 (by rw [z1_2]; decide) (by rw [z1_2]; decide) (by rw [z1_2]; rfl) (by decide) ?_
    refine lv_aload_n hx hb dX11_count_54 rfl (lv_at hl 0 rfl) ?_
    refine va_get (D := (dC, dI)) (ci := 11) (v := .int 0) (C := RX11) (T := TX11) (N := 114) hx hb ht inX11 hown hK hP 0 rfl rfl 16 (by decide) (ht _ kw_1443) (fun _ h9 => h9) hfm_16 dX11_count_55 ?_
    exact W.iret hx hb hr (fun t ht9 hW => ⟨⟨_, (), rfl, (by unfold sp_X11_count; rw [if_neg z1_0, if_neg z1_1, if_pos z1_2]), trivial⟩, hS.F ht9⟩) hS.2.2 dX11_count_58
  by_cases z1_3 : na = 3
  · refine lv_tableIn (off := 58) (tgt := 59) hx hb dX11_count_1 (by rw [z1_3]; decide) (by rw [z1_3]; decide) (by rw [z1_3]; rfl) (by decide) ?_
    refine lv_aload_n hx hb dX11_count_59 rfl (lv_at hl 0 rfl) ?_
    refine va_get (D := (dC, dI)) (ci := 11) (v := .int 0) (C := RX11) (T := TX11) (N := 114) hx hb ht inX11 hown hK hP 0 rfl rfl 21 (by decide) (ht _ kw_1448) (fun _ h9 => h9) hfm_21 dX11_count_60 ?_
    exact W.iret hx hb hr (fun t ht9 hW => ⟨⟨_, (), rfl, (by unfold sp_X11_count; rw [if_neg z1_0, if_neg z1_1, if_neg z1_2, if_pos z1_3]), trivial⟩, hS.F ht9⟩) hS.2.2 dX11_count_63
  by_cases z1_4 : na = 4
  · refine lv_tableIn (off := 63) (tgt := 64) hx hb dX11_count_1 (by rw [z1_4]; decide) (by rw [z1_4]; decide) (by rw [z1_4]; rfl) (by decide) ?_
    refine lv_aload_n hx hb dX11_count_64 rfl (lv_at hl 0 rfl) ?_
    refine va_get (D := (dC, dI)) (ci := 11) (v := .int 0) (C := RX11) (T := TX11) (N := 114) hx hb ht inX11 hown hK hP 0 rfl rfl 6 (by decide) (ht _ kw_1433) (fun _ h9 => h9) hfm_6 dX11_count_65 ?_
    exact W.iret hx hb hr (fun t ht9 hW => ⟨⟨_, (), rfl, (by unfold sp_X11_count; rw [if_neg z1_0, if_neg z1_1, if_neg z1_2, if_neg z1_3, if_pos z1_4]), trivial⟩, hS.F ht9⟩) hS.2.2 dX11_count_68
  by_cases z1_5 : na = 5
  · refine lv_tableIn (off := 68) (tgt := 69) hx hb dX11_count_1 (by rw [z1_5]; decide) (by rw [z1_5]; decide) (by rw [z1_5]; rfl) (by decide) ?_
    refine lv_aload_n hx hb dX11_count_69 rfl (lv_at hl 0 rfl) ?_
    refine va_get (D := (dC, dI)) (ci := 11) (v := .int 0) (C := RX11) (T := TX11) (N := 114) hx hb ht inX11 hown hK hP 0 rfl rfl 29 (by decide) (ht _ kw_1456) (fun _ h9 => h9) hfm_29 dX11_count_70 ?_
    exact W.iret hx hb hr (fun t ht9 hW => ⟨⟨_, (), rfl, (by unfold sp_X11_count; rw [if_neg z1_0, if_neg z1_1, if_neg z1_2, if_neg z1_3, if_neg z1_4, if_pos z1_5]), trivial⟩, hS.F ht9⟩) hS.2.2 dX11_count_73
  by_cases z1_6 : na = 6
  · refine lv_tableIn (off := 73) (tgt := 74) hx hb dX11_count_1 (by rw [z1_6]; decide) (by rw [z1_6]; decide) (by rw [z1_6]; rfl) (by decide) ?_
    refine lv_aload_n hx hb dX11_count_74 rfl (lv_at hl 0 rfl) ?_
    refine va_get (D := (dC, dI)) (ci := 11) (v := .int 0) (C := RX11) (T := TX11) (N := 114) hx hb ht inX11 hown hK hP 0 rfl rfl 47 (by decide) (ht _ kw_1474) (fun _ h9 => h9) hfm_47 dX11_count_75 ?_
    exact W.iret hx hb hr (fun t ht9 hW => ⟨⟨_, (), rfl, (by unfold sp_X11_count; rw [if_neg z1_0, if_neg z1_1, if_neg z1_2, if_neg z1_3, if_neg z1_4, if_neg z1_5, if_pos z1_6]), trivial⟩, hS.F ht9⟩) hS.2.2 dX11_count_78
  have z1o : na.toInt < 0 ∨ 6 < na.toInt := by
    have t_0 := lv_neT (a := 0) z1_0 rfl
    have t_1 := lv_neT (a := 1) z1_1 rfl
    have t_2 := lv_neT (a := 2) z1_2 rfl
    have t_3 := lv_neT (a := 3) z1_3 rfl
    have t_4 := lv_neT (a := 4) z1_4 rfl
    have t_5 := lv_neT (a := 5) z1_5 rfl
    have t_6 := lv_neT (a := 6) z1_6 rfl
    omega
  refine lv_tableOut (tgt := 79) hx hb dX11_count_1 z1o (by decide) ?_
  refine lv_iload_n hx hb dX11_count_79 rfl (lv_at hl 1 rfl) ?_
  refine lv_bipush (v := 7) hx hb dX11_count_80 (by decide) ?_
  refine lv_icmp_ne (tgt := 92) hx hb dX11_count_82 (by decide) (fun c2 => ?_) (fun c2 => ?_)
  · refine lv_bipush (v := (-3)) hx hb dX11_count_92 (by decide) ?_
    exact W.iret hx hb hr (fun t ht9 hW => ⟨⟨_, (), rfl, (by unfold sp_X11_count; rw [if_neg z1_0, if_neg z1_1, if_neg z1_2, if_neg z1_3, if_neg z1_4, if_neg z1_5, if_neg z1_6, if_neg c2]), trivial⟩, hS.F ht9⟩) hS.2.2 dX11_count_94
  · refine lv_aload_n hx hb dX11_count_85 rfl (lv_at hl 0 rfl) ?_
    refine va_get (D := (dC, dI)) (ci := 11) (v := .int 0) (C := RX11) (T := TX11) (N := 114) hx hb ht inX11 hown hK hP 0 rfl rfl 3 (by decide) (ht _ kw_1430) (fun _ h9 => h9) hfm_3 dX11_count_86 ?_
    refine lv_goto (tgt := 94) hx hb dX11_count_89 (by decide) ?_
    exact W.iret hx hb hr (fun t ht9 hW => ⟨⟨_, (), rfl, (by unfold sp_X11_count; rw [if_neg z1_0, if_neg z1_1, if_neg z1_2, if_neg z1_3, if_neg z1_4, if_neg z1_5, if_neg z1_6, if_pos c2]), trivial⟩, hS.F ht9⟩) hS.2.2 dX11_count_94
