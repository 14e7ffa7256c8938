abbrev cX1_init : ByteArray := prog_3_method_1_code
def yX1_init : MethodName := ⟨RX1, "<init>", "(LSportsHouse$Things;)V"⟩
theorem dX1_init_0 : decode cX1_init 0 = .ok (.aload_n 0, 1) := qd_c (by decide +kernel)
theorem dX1_init_1 : decode cX1_init 1 = .ok (.invokespecial 3, 3) := qd_c (by decide +kernel)
theorem kw_325 : Cond.methodLink RX1 3 objectInit ∈ lw_g := lwq_2 (dqc_m (dqc_m (dqa_m (dqa_m (List.mem_of_getElem? (i := 5) rfl))))) rfl
theorem dX1_init_4 : decode cX1_init 4 = .ok (.aload_n 0, 1) := qd_c (by decide +kernel)
theorem dX1_init_5 : decode cX1_init 5 = .ok (.bipush 12, 2) := qd_c (by decide +kernel)
theorem dX1_init_7 : decode cX1_init 7 = .ok (.newarray .int, 2) := by decide +kernel
theorem dX1_init_9 : decode cX1_init 9 = .ok (.putfield 9, 3) := qd_c (by decide +kernel)
theorem kw_339 : Cond.fieldLink RX1 9 "SportsHouse$Lots" "potOf" "[I" ∈ lw_g := lwq_2 (dqc_m (dqc_m (dqc_m (List.mem_of_getElem? (i := 3) rfl)))) rfl
theorem dX1_init_12 : decode cX1_init 12 = .ok (.aload_n 0, 1) := qd_c (by decide +kernel)
theorem dX1_init_13 : decode cX1_init 13 = .ok (.bipush 12, 2) := qd_c (by decide +kernel)
theorem dX1_init_15 : decode cX1_init 15 = .ok (.newarray .int, 2) := by decide +kernel
theorem dX1_init_17 : decode cX1_init 17 = .ok (.putfield 15, 3) := qd_c (by decide +kernel)
theorem kw_341 : Cond.fieldLink RX1 15 "SportsHouse$Lots" "groupOf" "[I" ∈ lw_g := lwq_2 (dqc_m (dqc_m (dqc_m (List.mem_of_getElem? (i := 5) rfl)))) rfl
theorem dX1_init_20 : decode cX1_init 20 = .ok (.aload_n 0, 1) := qd_c (by decide +kernel)
theorem dX1_init_21 : decode cX1_init 21 = .ok (.iconst 3, 1) := qd_c (by decide +kernel)
theorem dX1_init_22 : decode cX1_init 22 = .ok (.newarray .int, 2) := by decide +kernel
theorem dX1_init_24 : decode cX1_init 24 = .ok (.putfield 18, 3) := qd_c (by decide +kernel)
theorem kw_343 : Cond.fieldLink RX1 18 "SportsHouse$Lots" "potSize" "[I" ∈ lw_g := lwq_2 (dqc_m (dqc_m (dqc_m (List.mem_of_getElem? (i := 7) rfl)))) rfl
theorem dX1_init_27 : decode cX1_init 27 = .ok (.aload_n 0, 1) := qd_c (by decide +kernel)
theorem dX1_init_28 : decode cX1_init 28 = .ok (.bipush 48, 2) := qd_c (by decide +kernel)
theorem dX1_init_30 : decode cX1_init 30 = .ok (.newarray .int, 2) := by decide +kernel
theorem dX1_init_32 : decode cX1_init 32 = .ok (.putfield 21, 3) := qd_c (by decide +kernel)
theorem kw_345 : Cond.fieldLink RX1 21 "SportsHouse$Lots" "with" "[I" ∈ lw_g := lwq_2 (dqc_m (dqc_m (dqc_m (dqa_m (List.mem_of_getElem? (i := 1) rfl))))) rfl
theorem dX1_init_35 : decode cX1_init 35 = .ok (.aload_n 0, 1) := qd_c (by decide +kernel)
theorem dX1_init_36 : decode cX1_init 36 = .ok (.bipush 12, 2) := qd_c (by decide +kernel)
theorem dX1_init_38 : decode cX1_init 38 = .ok (.newarray .int, 2) := by decide +kernel
theorem dX1_init_40 : decode cX1_init 40 = .ok (.putfield 24, 3) := qd_c (by decide +kernel)
theorem kw_346 : Cond.fieldLink RX1 24 "SportsHouse$Lots" "waiting" "[I" ∈ lw_g := lwq_2 (dqc_m (dqc_m (dqc_m (dqa_m (List.mem_of_getElem? (i := 2) rfl))))) rfl
theorem dX1_init_43 : decode cX1_init 43 = .ok (.aload_n 0, 1) := qd_c (by decide +kernel)
theorem dX1_init_44 : decode cX1_init 44 = .ok (.bipush 12, 2) := qd_c (by decide +kernel)
theorem dX1_init_46 : decode cX1_init 46 = .ok (.newarray .int, 2) := by decide +kernel
theorem dX1_init_48 : decode cX1_init 48 = .ok (.putfield 27, 3) := qd_c (by decide +kernel)
theorem kw_348 : Cond.fieldLink RX1 27 "SportsHouse$Lots" "taken" "[I" ∈ lw_g := lwq_2 (dqc_m (dqc_m (dqc_m (dqa_m (List.mem_of_getElem? (i := 4) rfl))))) rfl
theorem dX1_init_51 : decode cX1_init 51 = .ok (.aload_n 0, 1) := qd_c (by decide +kernel)
theorem dX1_init_52 : decode cX1_init 52 = .ok (.bipush 32, 2) := qd_c (by decide +kernel)
theorem dX1_init_54 : decode cX1_init 54 = .ok (.newarray .int, 2) := by decide +kernel
theorem dX1_init_56 : decode cX1_init 56 = .ok (.putfield 30, 3) := qd_c (by decide +kernel)
theorem kw_349 : Cond.fieldLink RX1 30 "SportsHouse$Lots" "countrymen" "[I" ∈ lw_g := lwq_2 (dqc_m (dqc_m (dqc_m (dqa_m (List.mem_of_getElem? (i := 5) rfl))))) rfl
theorem dX1_init_59 : decode cX1_init 59 = .ok (.aload_n 0, 1) := qd_c (by decide +kernel)
theorem dX1_init_60 : decode cX1_init 60 = .ok (.aload_n 1, 1) := qd_c (by decide +kernel)
theorem dX1_init_61 : decode cX1_init 61 = .ok (.putfield 33, 3) := qd_c (by decide +kernel)
theorem kw_326 : Cond.fieldLink RX1 33 "SportsHouse$Lots" "things" "LSportsHouse$Things;" ∈ lw_g := lwq_2 (dqc_m (dqc_m (dqa_m (dqa_m (List.mem_of_getElem? (i := 6) rfl))))) rfl
theorem dX1_init_64 : decode cX1_init 64 = .ok (.return_, 1) := qd_c (by decide +kernel)
set_option maxHeartbeats 4000000 in
set_option maxRecDepth 100000 in
theorem ct_X1_init (l : Launch) (dC : Nat → ClassId) (dI : Nat → Nat → Nat) (h0 : Nat) (th : Nat) (sz : Nat)  : Met l yX1_init (.code yX1_init cX1_init 2 none :: lw_g) ({ frames := 1, cells := 7, slots := 131, locals := 60 }) (ro_P dC dI [(h0, .inr (1, [.null, .int 0, .int 0, .int 0, .int 0, .int 0, .int 0, .int 0, .null, .null, .null, .null, .null, .int 0, .null, .null]))] [] sz [.ref h0, .ref th]) (va_Qv (fun (_ : Unit) => True) (fun _ t => ∃ (q1 : Nat) (q3 : Nat) (q5 : Nat) (q7 : Nat) (q9 : Nat) (q11 : Nat) (q13 : Nat) (k2 : ClassId) (k4 : ClassId) (k6 : ClassId) (k8 : ClassId) (k10 : ClassId) (k12 : ClassId) (k14 : ClassId), va_P (dC, dI) vwCl [(h0, .inr (1, [.ref th, .int 0, .int 0, .int 0, .int 0, .int 0, .int 0, .int 0, .ref q1, .ref q3, .ref q5, .ref q7, .ref q9, .int 0, .ref q11, .ref q13])), (q1, .inl (k2, 12, .inl (fun _ => 0))), (q3, .inl (k4, 12, .inl (fun _ => 0))), (q5, .inl (k6, 3, .inl (fun _ => 0))), (q7, .inl (k8, 48, .inl (fun _ => 0))), (q9, .inl (k10, 12, .inl (fun _ => 0))), (q11, .inl (k12, 12, .inl (fun _ => 0))), (q13, .inl (k14, 32, .inl (fun _ => 0)))] t.heap ∧ va_K (dC, dI) vwCl [(k2, .int), (k4, .int), (k6, .int), (k8, .int), (k10, .int), (k12, .int), (k14, .int)] t ∧ va_D (va_A [(h0, .inr (1, [.null, .int 0, .int 0, .int 0, .int 0, .int 0, .int 0, .int 0, .null, .null, .null, .null, .null, .int 0, .null, .null]))] sz) [(h0, .inr (1, [.ref th, .int 0, .int 0, .int 0, .int 0, .int 0, .int 0, .int 0, .ref q1, .ref q3, .ref q5, .ref q7, .ref q9, .int 0, .ref q11, .ref q13])), (q1, .inl (k2, 12, .inl (fun _ => 0))), (q3, .inl (k4, 12, .inl (fun _ => 0))), (q5, .inl (k6, 3, .inl (fun _ => 0))), (q7, .inl (k8, 48, .inl (fun _ => 0))), (q9, .inl (k10, 12, .inl (fun _ => 0))), (q11, .inl (k12, 12, .inl (fun _ => 0))), (q13, .inl (k14, 32, .inl (fun _ => 0)))]) (va_A [(h0, .inr (1, [.null, .int 0, .int 0, .int 0, .int 0, .int 0, .int 0, .int 0, .null, .null, .null, .null, .null, .int 0, .null, .null]))] sz)) 7 131 (va_A [(h0, .inr (1, [.null, .int 0, .int 0, .int 0, .int 0, .int 0, .int 0, .int 0, .null, .null, .null, .null, .null, .int 0, .null, .null]))] sz) := by
  refine ro_entry (by decide) (Nat.le_of_ble_eq_true rfl) ?_
  intro p e s m below meth c ls hx hb hr hlocks ht hown hin hml hsz hP hK hD hE hl
  subst hsz
  have hD := hD.self (sz := s.heap.size)
  generalize hAe : va_A [(h0, .inr (1, [.null, .int 0, .int 0, .int 0, .int 0, .int 0, .int 0, .int 0, .null, .null, .null, .null, .null, .int 0, .null, .null]))] s.heap.size = A at hD ⊢
  have hA : ∀ q, s.heap.size ≤ q → A q := fun q h => by rw [← hAe]; exact Or.inr h
  have hS : va_S A s.heap s.heap [] := va_S.rf
  have hl : lv_has ls 2 [(0, .ref h0), (1, .ref th)] := hl
  have hown : s.vm.findClass RX1 = some m.cls := hown
  refine lv_aload_n hx hb dX1_init_0 rfl (lv_at hl 0 rfl) ?_
  refine W.objInit hx hb hown (ht _ kw_325) (ht _ kw_27) (ht _ kw_28) rfl (by rw [hml]; exact hl.1) rfl dX1_init_1 (Nat.le_of_ble_eq_true rfl) (Nat.le_of_ble_eq_true rfl) ?_
  refine W.eq (g2 := F0 m 4 ls []) rfl ?_
  refine lv_aload_n hx hb dX1_init_4 rfl (lv_at hl 0 rfl) ?_
  refine lv_bipush (v := 12) hx hb dX1_init_5 (by decide) ?_
  refine va_newa (atype := .int) (ty := .int) (a0 := (12, .inl (fun _ => 0))) hx hb (ht _ kw_72) rfl hK hP hD hS hA (fun _ => rfl) (by decide) (by decide) (Nat.le_of_ble_eq_true rfl) (Nat.le_of_ble_eq_true rfl) (Nat.le_of_ble_eq_true rfl) dX1_init_7 (fun q1 k2 H hK hP hD hS => ?_)
  have hP : va_P (dC, dI) vwCl [(h0, .inr (1, [.null, .int 0, .int 0, .int 0, .int 0, .int 0, .int 0, .int 0, .null, .null, .null, .null, .null, .int 0, .null, .null])), (q1, .inl (k2, 12, .inl (fun _ => 0)))] H := hP
  have hD : va_D A [(h0, .inr (1, [.null, .int 0, .int 0, .int 0, .int 0, .int 0, .int 0, .int 0, .null, .null, .null, .null, .null, .int 0, .null, .null])), (q1, .inl (k2, 12, .inl (fun _ => 0)))] := hD
  have hK : va_K (dC, dI) vwCl [(k2, .int)] s := hK
  refine W.widen (k := 1) (n := 12) (Nat.le_of_ble_eq_true rfl) (Nat.le_of_ble_eq_true rfl) ?_
  refine va_putF (D := (dC, dI)) (ci := 1) (v := .ref q1) (ty := .array .int) (C := RX1) (T := TX1) (N := 16) hx hb ht inX1 tyX1 tyX1_ok nmX1 hown hK hP hD hS 0 rfl rfl 8 (by decide) (ht _ kw_339) (fun _ h9 => h9) rfl hin rfl (by decide +kernel) rfl rfl (Nat.le_of_ble_eq_true rfl) dX1_init_9 (fun H locs hP hD hS => ?_)
  have hP : va_P (dC, dI) vwCl [(h0, .inr (1, [.null, .int 0, .int 0, .int 0, .int 0, .int 0, .int 0, .int 0, .ref q1, .null, .null, .null, .null, .int 0, .null, .null])), (q1, .inl (k2, 12, .inl (fun _ => 0)))] H := hP
  have hD : va_D A [(h0, .inr (1, [.null, .int 0, .int 0, .int 0, .int 0, .int 0, .int 0, .int 0, .ref q1, .null, .null, .null, .null, .int 0, .null, .null])), (q1, .inl (k2, 12, .inl (fun _ => 0)))] := hD
  refine lv_aload_n hx hb dX1_init_12 rfl (lv_at hl 0 rfl) ?_
  refine lv_bipush (v := 12) hx hb dX1_init_13 (by decide) ?_
  refine va_newa (atype := .int) (ty := .int) (a0 := (12, .inl (fun _ => 0))) hx hb (ht _ kw_72) rfl hK hP hD hS hA (fun _ => rfl) (by decide) (by decide) (Nat.le_of_ble_eq_true rfl) (Nat.le_of_ble_eq_true rfl) (Nat.le_of_ble_eq_true rfl) dX1_init_15 (fun q3 k4 H hK hP hD hS => ?_)
  have hP : va_P (dC, dI) vwCl [(h0, .inr (1, [.null, .int 0, .int 0, .int 0, .int 0, .int 0, .int 0, .int 0, .ref q1, .null, .null, .null, .null, .int 0, .null, .null])), (q1, .inl (k2, 12, .inl (fun _ => 0))), (q3, .inl (k4, 12, .inl (fun _ => 0)))] H := hP
  have hD : va_D A [(h0, .inr (1, [.null, .int 0, .int 0, .int 0, .int 0, .int 0, .int 0, .int 0, .ref q1, .null, .null, .null, .null, .int 0, .null, .null])), (q1, .inl (k2, 12, .inl (fun _ => 0))), (q3, .inl (k4, 12, .inl (fun _ => 0)))] := hD
  have hK : va_K (dC, dI) vwCl [(k2, .int), (k4, .int)] s := hK
  refine W.widen (k := 2) (n := 24) (Nat.le_of_ble_eq_true rfl) (Nat.le_of_ble_eq_true rfl) ?_
  refine va_putF (D := (dC, dI)) (ci := 1) (v := .ref q3) (ty := .array .int) (C := RX1) (T := TX1) (N := 16) hx hb ht inX1 tyX1 tyX1_ok nmX1 hown hK hP hD hS 0 rfl rfl 9 (by decide) (ht _ kw_341) (fun _ h9 => h9) rfl hin rfl (by decide +kernel) rfl rfl (Nat.le_of_ble_eq_true rfl) dX1_init_17 (fun H locs hP hD hS => ?_)
  have hP : va_P (dC, dI) vwCl [(h0, .inr (1, [.null, .int 0, .int 0, .int 0, .int 0, .int 0, .int 0, .int 0, .ref q1, .ref q3, .null, .null, .null, .int 0, .null, .null])), (q1, .inl (k2, 12, .inl (fun _ => 0))), (q3, .inl (k4, 12, .inl (fun _ => 0)))] H := hP
  have hD : va_D A [(h0, .inr (1, [.null, .int 0, .int 0, .int 0, .int 0, .int 0, .int 0, .int 0, .ref q1, .ref q3, .null, .null, .null, .int 0, .null, .null])), (q1, .inl (k2, 12, .inl (fun _ => 0))), (q3, .inl (k4, 12, .inl (fun _ => 0)))] := hD
  refine lv_aload_n hx hb dX1_init_20 rfl (lv_at hl 0 rfl) ?_
  refine lv_iconst (v := 3) hx hb dX1_init_21 (by decide) ?_
  refine va_newa (atype := .int) (ty := .int) (a0 := (3, .inl (fun _ => 0))) hx hb (ht _ kw_72) rfl hK hP hD hS hA (fun _ => rfl) (by decide) (by decide) (Nat.le_of_ble_eq_true rfl) (Nat.le_of_ble_eq_true rfl) (Nat.le_of_ble_eq_true rfl) dX1_init_22 (fun q5 k6 H hK hP hD hS => ?_)
  have hP : va_P (dC, dI) vwCl [(h0, .inr (1, [.null, .int 0, .int 0, .int 0, .int 0, .int 0, .int 0, .int 0, .ref q1, .ref q3, .null, .null, .null, .int 0, .null, .null])), (q1, .inl (k2, 12, .inl (fun _ => 0))), (q3, .inl (k4, 12, .inl (fun _ => 0))), (q5, .inl (k6, 3, .inl (fun _ => 0)))] H := hP
  have hD : va_D A [(h0, .inr (1, [.null, .int 0, .int 0, .int 0, .int 0, .int 0, .int 0, .int 0, .ref q1, .ref q3, .null, .null, .null, .int 0, .null, .null])), (q1, .inl (k2, 12, .inl (fun _ => 0))), (q3, .inl (k4, 12, .inl (fun _ => 0))), (q5, .inl (k6, 3, .inl (fun _ => 0)))] := hD
  have hK : va_K (dC, dI) vwCl [(k2, .int), (k4, .int), (k6, .int)] s := hK
  refine W.widen (k := 3) (n := 27) (Nat.le_of_ble_eq_true rfl) (Nat.le_of_ble_eq_true rfl) ?_
  refine va_putF (D := (dC, dI)) (ci := 1) (v := .ref q5) (ty := .array .int) (C := RX1) (T := TX1) (N := 16) hx hb ht inX1 tyX1 tyX1_ok nmX1 hown hK hP hD hS 0 rfl rfl 10 (by decide) (ht _ kw_343) (fun _ h9 => h9) rfl hin rfl (by decide +kernel) rfl rfl (Nat.le_of_ble_eq_true rfl) dX1_init_24 (fun H locs hP hD hS => ?_)
  have hP : va_P (dC, dI) vwCl [(h0, .inr (1, [.null, .int 0, .int 0, .int 0, .int 0, .int 0, .int 0, .int 0, .ref q1, .ref q3, .ref q5, .null, .null, .int 0, .null, .null])), (q1, .inl (k2, 12, .inl (fun _ => 0))), (q3, .inl (k4, 12, .inl (fun _ => 0))), (q5, .inl (k6, 3, .inl (fun _ => 0)))] H := hP
  have hD : va_D A [(h0, .inr (1, [.null, .int 0, .int 0, .int 0, .int 0, .int 0, .int 0, .int 0, .ref q1, .ref q3, .ref q5, .null, .null, .int 0, .null, .null])), (q1, .inl (k2, 12, .inl (fun _ => 0))), (q3, .inl (k4, 12, .inl (fun _ => 0))), (q5, .inl (k6, 3, .inl (fun _ => 0)))] := hD
  refine lv_aload_n hx hb dX1_init_27 rfl (lv_at hl 0 rfl) ?_
  refine lv_bipush (v := 48) hx hb dX1_init_28 (by decide) ?_
  refine va_newa (atype := .int) (ty := .int) (a0 := (48, .inl (fun _ => 0))) hx hb (ht _ kw_72) rfl hK hP hD hS hA (fun _ => rfl) (by decide) (by decide) (Nat.le_of_ble_eq_true rfl) (Nat.le_of_ble_eq_true rfl) (Nat.le_of_ble_eq_true rfl) dX1_init_30 (fun q7 k8 H hK hP hD hS => ?_)
  have hP : va_P (dC, dI) vwCl [(h0, .inr (1, [.null, .int 0, .int 0, .int 0, .int 0, .int 0, .int 0, .int 0, .ref q1, .ref q3, .ref q5, .null, .null, .int 0, .null, .null])), (q1, .inl (k2, 12, .inl (fun _ => 0))), (q3, .inl (k4, 12, .inl (fun _ => 0))), (q5, .inl (k6, 3, .inl (fun _ => 0))), (q7, .inl (k8, 48, .inl (fun _ => 0)))] H := hP
  have hD : va_D A [(h0, .inr (1, [.null, .int 0, .int 0, .int 0, .int 0, .int 0, .int 0, .int 0, .ref q1, .ref q3, .ref q5, .null, .null, .int 0, .null, .null])), (q1, .inl (k2, 12, .inl (fun _ => 0))), (q3, .inl (k4, 12, .inl (fun _ => 0))), (q5, .inl (k6, 3, .inl (fun _ => 0))), (q7, .inl (k8, 48, .inl (fun _ => 0)))] := hD
  have hK : va_K (dC, dI) vwCl [(k2, .int), (k4, .int), (k6, .int), (k8, .int)] s := hK
  refine W.widen (k := 4) (n := 75) (Nat.le_of_ble_eq_true rfl) (Nat.le_of_ble_eq_true rfl) ?_
  refine va_putF (D := (dC, dI)) (ci := 1) (v := .ref q7) (ty := .array .int) (C := RX1) (T := TX1) (N := 16) hx hb ht inX1 tyX1 tyX1_ok nmX1 hown hK hP hD hS 0 rfl rfl 11 (by decide) (ht _ kw_345) (fun _ h9 => h9) rfl hin rfl (by decide +kernel) rfl rfl (Nat.le_of_ble_eq_true rfl) dX1_init_32 (fun H locs hP hD hS => ?_)
  have hP : va_P (dC, dI) vwCl [(h0, .inr (1, [.null, .int 0, .int 0, .int 0, .int 0, .int 0, .int 0, .int 0, .ref q1, .ref q3, .ref q5, .ref q7, .null, .int 0, .null, .null])), (q1, .inl (k2, 12, .inl (fun _ => 0))), (q3, .inl (k4, 12, .inl (fun _ => 0))), (q5, .inl (k6, 3, .inl (fun _ => 0))), (q7, .inl (k8, 48, .inl (fun _ => 0)))] H := hP
  have hD : va_D A [(h0, .inr (1, [.null, .int 0, .int 0, .int 0, .int 0, .int 0, .int 0, .int 0, .ref q1, .ref q3, .ref q5, .ref q7, .null, .int 0, .null, .null])), (q1, .inl (k2, 12, .inl (fun _ => 0))), (q3, .inl (k4, 12, .inl (fun _ => 0))), (q5, .inl (k6, 3, .inl (fun _ => 0))), (q7, .inl (k8, 48, .inl (fun _ => 0)))] := hD
  refine lv_aload_n hx hb dX1_init_35 rfl (lv_at hl 0 rfl) ?_
  refine lv_bipush (v := 12) hx hb dX1_init_36 (by decide) ?_
  refine va_newa (atype := .int) (ty := .int) (a0 := (12, .inl (fun _ => 0))) hx hb (ht _ kw_72) rfl hK hP hD hS hA (fun _ => rfl) (by decide) (by decide) (Nat.le_of_ble_eq_true rfl) (Nat.le_of_ble_eq_true rfl) (Nat.le_of_ble_eq_true rfl) dX1_init_38 (fun q9 k10 H hK hP hD hS => ?_)
  have hP : va_P (dC, dI) vwCl [(h0, .inr (1, [.null, .int 0, .int 0, .int 0, .int 0, .int 0, .int 0, .int 0, .ref q1, .ref q3, .ref q5, .ref q7, .null, .int 0, .null, .null])), (q1, .inl (k2, 12, .inl (fun _ => 0))), (q3, .inl (k4, 12, .inl (fun _ => 0))), (q5, .inl (k6, 3, .inl (fun _ => 0))), (q7, .inl (k8, 48, .inl (fun _ => 0))), (q9, .inl (k10, 12, .inl (fun _ => 0)))] H := hP
  have hD : va_D A [(h0, .inr (1, [.null, .int 0, .int 0, .int 0, .int 0, .int 0, .int 0, .int 0, .ref q1, .ref q3, .ref q5, .ref q7, .null, .int 0, .null, .null])), (q1, .inl (k2, 12, .inl (fun _ => 0))), (q3, .inl (k4, 12, .inl (fun _ => 0))), (q5, .inl (k6, 3, .inl (fun _ => 0))), (q7, .inl (k8, 48, .inl (fun _ => 0))), (q9, .inl (k10, 12, .inl (fun _ => 0)))] := hD
  have hK : va_K (dC, dI) vwCl [(k2, .int), (k4, .int), (k6, .int), (k8, .int), (k10, .int)] s := hK
  refine W.widen (k := 5) (n := 87) (Nat.le_of_ble_eq_true rfl) (Nat.le_of_ble_eq_true rfl) ?_
  refine va_putF (D := (dC, dI)) (ci := 1) (v := .ref q9) (ty := .array .int) (C := RX1) (T := TX1) (N := 16) hx hb ht inX1 tyX1 tyX1_ok nmX1 hown hK hP hD hS 0 rfl rfl 12 (by decide) (ht _ kw_346) (fun _ h9 => h9) rfl hin rfl (by decide +kernel) rfl rfl (Nat.le_of_ble_eq_true rfl) dX1_init_40 (fun H locs hP hD hS => ?_)
  have hP : va_P (dC, dI) vwCl [(h0, .inr (1, [.null, .int 0, .int 0, .int 0, .int 0, .int 0, .int 0, .int 0, .ref q1, .ref q3, .ref q5, .ref q7, .ref q9, .int 0, .null, .null])), (q1, .inl (k2, 12, .inl (fun _ => 0))), (q3, .inl (k4, 12, .inl (fun _ => 0))), (q5, .inl (k6, 3, .inl (fun _ => 0))), (q7, .inl (k8, 48, .inl (fun _ => 0))), (q9, .inl (k10, 12, .inl (fun _ => 0)))] H := hP
  have hD : va_D A [(h0, .inr (1, [.null, .int 0, .int 0, .int 0, .int 0, .int 0, .int 0, .int 0, .ref q1, .ref q3, .ref q5, .ref q7, .ref q9, .int 0, .null, .null])), (q1, .inl (k2, 12, .inl (fun _ => 0))), (q3, .inl (k4, 12, .inl (fun _ => 0))), (q5, .inl (k6, 3, .inl (fun _ => 0))), (q7, .inl (k8, 48, .inl (fun _ => 0))), (q9, .inl (k10, 12, .inl (fun _ => 0)))] := hD
  refine lv_aload_n hx hb dX1_init_43 rfl (lv_at hl 0 rfl) ?_
  refine lv_bipush (v := 12) hx hb dX1_init_44 (by decide) ?_
  refine va_newa (atype := .int) (ty := .int) (a0 := (12, .inl (fun _ => 0))) hx hb (ht _ kw_72) rfl hK hP hD hS hA (fun _ => rfl) (by decide) (by decide) (Nat.le_of_ble_eq_true rfl) (Nat.le_of_ble_eq_true rfl) (Nat.le_of_ble_eq_true rfl) dX1_init_46 (fun q11 k12 H hK hP hD hS => ?_)
  have hP : va_P (dC, dI) vwCl [(h0, .inr (1, [.null, .int 0, .int 0, .int 0, .int 0, .int 0, .int 0, .int 0, .ref q1, .ref q3, .ref q5, .ref q7, .ref q9, .int 0, .null, .null])), (q1, .inl (k2, 12, .inl (fun _ => 0))), (q3, .inl (k4, 12, .inl (fun _ => 0))), (q5, .inl (k6, 3, .inl (fun _ => 0))), (q7, .inl (k8, 48, .inl (fun _ => 0))), (q9, .inl (k10, 12, .inl (fun _ => 0))), (q11, .inl (k12, 12, .inl (fun _ => 0)))] H := hP
  have hD : va_D A [(h0, .inr (1, [.null, .int 0, .int 0, .int 0, .int 0, .int 0, .int 0, .int 0, .ref q1, .ref q3, .ref q5, .ref q7, .ref q9, .int 0, .null, .null])), (q1, .inl (k2, 12, .inl (fun _ => 0))), (q3, .inl (k4, 12, .inl (fun _ => 0))), (q5, .inl (k6, 3, .inl (fun _ => 0))), (q7, .inl (k8, 48, .inl (fun _ => 0))), (q9, .inl (k10, 12, .inl (fun _ => 0))), (q11, .inl (k12, 12, .inl (fun _ => 0)))] := hD
  have hK : va_K (dC, dI) vwCl [(k2, .int), (k4, .int), (k6, .int), (k8, .int), (k10, .int), (k12, .int)] s := hK
  refine W.widen (k := 6) (n := 99) (Nat.le_of_ble_eq_true rfl) (Nat.le_of_ble_eq_true rfl) ?_
  refine va_putF (D := (dC, dI)) (ci := 1) (v := .ref q11) (ty := .array .int) (C := RX1) (T := TX1) (N := 16) hx hb ht inX1 tyX1 tyX1_ok nmX1 hown hK hP hD hS 0 rfl rfl 14 (by decide) (ht _ kw_348) (fun _ h9 => h9) rfl hin rfl (by decide +kernel) rfl rfl (Nat.le_of_ble_eq_true rfl) dX1_init_48 (fun H locs hP hD hS => ?_)
  have hP : va_P (dC, dI) vwCl [(h0, .inr (1, [.null, .int 0, .int 0, .int 0, .int 0, .int 0, .int 0, .int 0, .ref q1, .ref q3, .ref q5, .ref q7, .ref q9, .int 0, .ref q11, .null])), (q1, .inl (k2, 12, .inl (fun _ => 0))), (q3, .inl (k4, 12, .inl (fun _ => 0))), (q5, .inl (k6, 3, .inl (fun _ => 0))), (q7, .inl (k8, 48, .inl (fun _ => 0))), (q9, .inl (k10, 12, .inl (fun _ => 0))), (q11, .inl (k12, 12, .inl (fun _ => 0)))] H := hP
  have hD : va_D A [(h0, .inr (1, [.null, .int 0, .int 0, .int 0, .int 0, .int 0, .int 0, .int 0, .ref q1, .ref q3, .ref q5, .ref q7, .ref q9, .int 0, .ref q11, .null])), (q1, .inl (k2, 12, .inl (fun _ => 0))), (q3, .inl (k4, 12, .inl (fun _ => 0))), (q5, .inl (k6, 3, .inl (fun _ => 0))), (q7, .inl (k8, 48, .inl (fun _ => 0))), (q9, .inl (k10, 12, .inl (fun _ => 0))), (q11, .inl (k12, 12, .inl (fun _ => 0)))] := hD
  refine lv_aload_n hx hb dX1_init_51 rfl (lv_at hl 0 rfl) ?_
  refine lv_bipush (v := 32) hx hb dX1_init_52 (by decide) ?_
  refine va_newa (atype := .int) (ty := .int) (a0 := (32, .inl (fun _ => 0))) hx hb (ht _ kw_72) rfl hK hP hD hS hA (fun _ => rfl) (by decide) (by decide) (Nat.le_of_ble_eq_true rfl) (Nat.le_of_ble_eq_true rfl) (Nat.le_of_ble_eq_true rfl) dX1_init_54 (fun q13 k14 H hK hP hD hS => ?_)
  have hP : va_P (dC, dI) vwCl [(h0, .inr (1, [.null, .int 0, .int 0, .int 0, .int 0, .int 0, .int 0, .int 0, .ref q1, .ref q3, .ref q5, .ref q7, .ref q9, .int 0, .ref q11, .null])), (q1, .inl (k2, 12, .inl (fun _ => 0))), (q3, .inl (k4, 12, .inl (fun _ => 0))), (q5, .inl (k6, 3, .inl (fun _ => 0))), (q7, .inl (k8, 48, .inl (fun _ => 0))), (q9, .inl (k10, 12, .inl (fun _ => 0))), (q11, .inl (k12, 12, .inl (fun _ => 0))), (q13, .inl (k14, 32, .inl (fun _ => 0)))] H := hP
  have hD : va_D A [(h0, .inr (1, [.null, .int 0, .int 0, .int 0, .int 0, .int 0, .int 0, .int 0, .ref q1, .ref q3, .ref q5, .ref q7, .ref q9, .int 0, .ref q11, .null])), (q1, .inl (k2, 12, .inl (fun _ => 0))), (q3, .inl (k4, 12, .inl (fun _ => 0))), (q5, .inl (k6, 3, .inl (fun _ => 0))), (q7, .inl (k8, 48, .inl (fun _ => 0))), (q9, .inl (k10, 12, .inl (fun _ => 0))), (q11, .inl (k12, 12, .inl (fun _ => 0))), (q13, .inl (k14, 32, .inl (fun _ => 0)))] := hD
  have hK : va_K (dC, dI) vwCl [(k2, .int), (k4, .int), (k6, .int), (k8, .int), (k10, .int), (k12, .int), (k14, .int)] s := hK
  refine W.widen (k := 7) (n := 131) (Nat.le_of_ble_eq_true rfl) (Nat.le_of_ble_eq_true rfl) ?_
  refine va_putF (D := (dC, dI)) (ci := 1) (v := .ref q13) (ty := .array .int) (C := RX1) (T := TX1) (N := 16) hx hb ht inX1 tyX1 tyX1_ok nmX1 hown hK hP hD hS 0 rfl rfl 15 (by decide) (ht _ kw_349) (fun _ h9 => h9) rfl hin rfl (by decide +kernel) rfl rfl (Nat.le_of_ble_eq_true rfl) dX1_init_56 (fun H locs hP hD hS => ?_)
  have hP : va_P (dC, dI) vwCl [(h0, .inr (1, [.null, .int 0, .int 0, .int 0, .int 0, .int 0, .int 0, .int 0, .ref q1, .ref q3, .ref q5, .ref q7, .ref q9, .int 0, .ref q11, .ref q13])), (q1, .inl (k2, 12, .inl (fun _ => 0))), (q3, .inl (k4, 12, .inl (fun _ => 0))), (q5, .inl (k6, 3, .inl (fun _ => 0))), (q7, .inl (k8, 48, .inl (fun _ => 0))), (q9, .inl (k10, 12, .inl (fun _ => 0))), (q11, .inl (k12, 12, .inl (fun _ => 0))), (q13, .inl (k14, 32, .inl (fun _ => 0)))] H := hP
  have hD : va_D A [(h0, .inr (1, [.null, .int 0, .int 0, .int 0, .int 0, .int 0, .int 0, .int 0, .ref q1, .ref q3, .ref q5, .ref q7, .ref q9, .int 0, .ref q11, .ref q13])), (q1, .inl (k2, 12, .inl (fun _ => 0))), (q3, .inl (k4, 12, .inl (fun _ => 0))), (q5, .inl (k6, 3, .inl (fun _ => 0))), (q7, .inl (k8, 48, .inl (fun _ => 0))), (q9, .inl (k10, 12, .inl (fun _ => 0))), (q11, .inl (k12, 12, .inl (fun _ => 0))), (q13, .inl (k14, 32, .inl (fun _ => 0)))] := hD
  refine lv_aload_n hx hb dX1_init_59 rfl (lv_at hl 0 rfl) ?_
  refine lv_aload_n hx hb dX1_init_60 rfl (lv_at hl 1 rfl) ?_
  refine va_putF (D := (dC, dI)) (ci := 1) (v := .ref th) (ty := .object "SportsHouse$Things") (C := RX1) (T := TX1) (N := 16) hx hb ht inX1 tyX1 tyX1_ok nmX1 hown hK hP hD hS 0 rfl rfl 0 (by decide) (ht _ kw_326) (fun _ h9 => h9) rfl hin rfl (by decide +kernel) rfl rfl (Nat.le_of_ble_eq_true rfl) dX1_init_61 (fun H locs hP hD hS => ?_)
  have hP : va_P (dC, dI) vwCl [(h0, .inr (1, [.ref th, .int 0, .int 0, .int 0, .int 0, .int 0, .int 0, .int 0, .ref q1, .ref q3, .ref q5, .ref q7, .ref q9, .int 0, .ref q11, .ref q13])), (q1, .inl (k2, 12, .inl (fun _ => 0))), (q3, .inl (k4, 12, .inl (fun _ => 0))), (q5, .inl (k6, 3, .inl (fun _ => 0))), (q7, .inl (k8, 48, .inl (fun _ => 0))), (q9, .inl (k10, 12, .inl (fun _ => 0))), (q11, .inl (k12, 12, .inl (fun _ => 0))), (q13, .inl (k14, 32, .inl (fun _ => 0)))] H := hP
  have hD : va_D A [(h0, .inr (1, [.ref th, .int 0, .int 0, .int 0, .int 0, .int 0, .int 0, .int 0, .ref q1, .ref q3, .ref q5, .ref q7, .ref q9, .int 0, .ref q11, .ref q13])), (q1, .inl (k2, 12, .inl (fun _ => 0))), (q3, .inl (k4, 12, .inl (fun _ => 0))), (q5, .inl (k6, 3, .inl (fun _ => 0))), (q7, .inl (k8, 48, .inl (fun _ => 0))), (q9, .inl (k10, 12, .inl (fun _ => 0))), (q11, .inl (k12, 12, .inl (fun _ => 0))), (q13, .inl (k14, 32, .inl (fun _ => 0)))] := hD
  exact W.vret hx hb hr (fun t ht9 hW => ⟨⟨(), rfl, trivial, q1, q3, q5, q7, q9, q11, q13, k2, k4, k6, k8, k10, k12, k14, by rw [ht9]; exact hP, va_K.moved hW.alike hK, hD⟩, hS.F ht9⟩) hS.2.2 dX1_init_64
