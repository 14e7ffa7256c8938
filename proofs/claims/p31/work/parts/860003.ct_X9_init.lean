abbrev cX9_init : ByteArray := prog_11_method_1_code
def yX9_init : MethodName := ⟨RX9, "<init>", "(LSportsHouse$Season;LSportsHouse$Standings;)V"⟩
theorem dX9_init_0 : decode cX9_init 0 = .ok (.aload_n 0, 1) := qd_c (by decide +kernel)
theorem dX9_init_1 : decode cX9_init 1 = .ok (.invokespecial 3, 3) := qd_c (by decide +kernel)
theorem kw_264 : Cond.methodLink RX9 3 objectInit ∈ lw_g := lwq_2 (dqa_m (dqa_m (dqa_m (List.mem_of_getElem? (i := 0) rfl)))) rfl
theorem dX9_init_4 : decode cX9_init 4 = .ok (.aload_n 0, 1) := qd_c (by decide +kernel)
theorem dX9_init_5 : decode cX9_init 5 = .ok (.iconst (-1), 1) := qd_c (by decide +kernel)
theorem dX9_init_6 : decode cX9_init 6 = .ok (.putfield 9, 3) := qd_c (by decide +kernel)
theorem kw_270 : Cond.fieldLink RX9 9 "SportsHouse$Title" "answer" "I" ∈ lw_g := lwq_2 (dqa_m (dqa_m (dqa_m (List.mem_of_getElem? (i := 6) rfl)))) rfl
theorem dX9_init_9 : decode cX9_init 9 = .ok (.aload_n 0, 1) := qd_c (by decide +kernel)
theorem dX9_init_10 : decode cX9_init 10 = .ok (.sipush 400, 3) := qd_c (by decide +kernel)
theorem dX9_init_13 : decode cX9_init 13 = .ok (.newarray .int, 2) := by decide +kernel
theorem dX9_init_15 : decode cX9_init 15 = .ok (.putfield 15, 3) := qd_c (by decide +kernel)
theorem kw_274 : Cond.fieldLink RX9 15 "SportsHouse$Title" "results" "[I" ∈ lw_g := lwq_2 (dqc_m (List.mem_of_getElem? (i := 2) rfl)) rfl
theorem dX9_init_18 : decode cX9_init 18 = .ok (.aload_n 0, 1) := qd_c (by decide +kernel)
theorem dX9_init_19 : decode cX9_init 19 = .ok (.bipush 12, 2) := qd_c (by decide +kernel)
theorem dX9_init_21 : decode cX9_init 21 = .ok (.newarray .int, 2) := by decide +kernel
theorem dX9_init_23 : decode cX9_init 23 = .ok (.putfield 19, 3) := qd_c (by decide +kernel)
theorem kw_278 : Cond.fieldLink RX9 19 "SportsHouse$Title" "points" "[I" ∈ lw_g := lwq_2 (dqc_m (List.mem_of_getElem? (i := 6) rfl)) rfl
theorem dX9_init_26 : decode cX9_init 26 = .ok (.aload_n 0, 1) := qd_c (by decide +kernel)
theorem dX9_init_27 : decode cX9_init 27 = .ok (.bipush 40, 2) := qd_c (by decide +kernel)
theorem dX9_init_29 : decode cX9_init 29 = .ok (.newarray .int, 2) := by decide +kernel
theorem dX9_init_31 : decode cX9_init 31 = .ok (.putfield 22, 3) := qd_c (by decide +kernel)
theorem kw_279 : Cond.fieldLink RX9 22 "SportsHouse$Title" "open" "[I" ∈ lw_g := lwq_2 (dqc_m (List.mem_of_getElem? (i := 7) rfl)) rfl
theorem dX9_init_34 : decode cX9_init 34 = .ok (.aload_n 0, 1) := qd_c (by decide +kernel)
theorem dX9_init_35 : decode cX9_init 35 = .ok (.bipush 40, 2) := qd_c (by decide +kernel)
theorem dX9_init_37 : decode cX9_init 37 = .ok (.newarray .int, 2) := by decide +kernel
theorem dX9_init_39 : decode cX9_init 39 = .ok (.putfield 25, 3) := qd_c (by decide +kernel)
theorem kw_281 : Cond.fieldLink RX9 25 "SportsHouse$Title" "homeParts" "[I" ∈ lw_g := lwq_2 (dqc_m (dqa_m (List.mem_of_getElem? (i := 1) rfl))) rfl
theorem dX9_init_42 : decode cX9_init 42 = .ok (.aload_n 0, 1) := qd_c (by decide +kernel)
theorem dX9_init_43 : decode cX9_init 43 = .ok (.bipush 12, 2) := qd_c (by decide +kernel)
theorem dX9_init_45 : decode cX9_init 45 = .ok (.newarray .int, 2) := by decide +kernel
theorem dX9_init_47 : decode cX9_init 47 = .ok (.putfield 28, 3) := qd_c (by decide +kernel)
theorem kw_282 : Cond.fieldLink RX9 28 "SportsHouse$Title" "cap" "[I" ∈ lw_g := lwq_2 (dqc_m (dqa_m (List.mem_of_getElem? (i := 2) rfl))) rfl
theorem dX9_init_50 : decode cX9_init 50 = .ok (.aload_n 0, 1) := qd_c (by decide +kernel)
theorem dX9_init_51 : decode cX9_init 51 = .ok (.bipush 12, 2) := qd_c (by decide +kernel)
theorem dX9_init_53 : decode cX9_init 53 = .ok (.newarray .int, 2) := by decide +kernel
theorem dX9_init_55 : decode cX9_init 55 = .ok (.putfield 31, 3) := qd_c (by decide +kernel)
theorem kw_283 : Cond.fieldLink RX9 31 "SportsHouse$Title" "load" "[I" ∈ lw_g := lwq_2 (dqc_m (dqa_m (List.mem_of_getElem? (i := 3) rfl))) rfl
theorem dX9_init_58 : decode cX9_init 58 = .ok (.aload_n 0, 1) := qd_c (by decide +kernel)
theorem dX9_init_59 : decode cX9_init 59 = .ok (.bipush 12, 2) := qd_c (by decide +kernel)
theorem dX9_init_61 : decode cX9_init 61 = .ok (.newarray .int, 2) := by decide +kernel
theorem dX9_init_63 : decode cX9_init 63 = .ok (.putfield 34, 3) := qd_c (by decide +kernel)
theorem kw_284 : Cond.fieldLink RX9 34 "SportsHouse$Title" "via" "[I" ∈ lw_g := lwq_2 (dqc_m (dqa_m (List.mem_of_getElem? (i := 4) rfl))) rfl
theorem dX9_init_66 : decode cX9_init 66 = .ok (.aload_n 0, 1) := qd_c (by decide +kernel)
theorem dX9_init_67 : decode cX9_init 67 = .ok (.bipush 12, 2) := qd_c (by decide +kernel)
theorem dX9_init_69 : decode cX9_init 69 = .ok (.newarray .int, 2) := by decide +kernel
theorem dX9_init_71 : decode cX9_init 71 = .ok (.putfield 37, 3) := qd_c (by decide +kernel)
theorem kw_285 : Cond.fieldLink RX9 37 "SportsHouse$Title" "queue" "[I" ∈ lw_g := lwq_2 (dqc_m (dqa_m (List.mem_of_getElem? (i := 5) rfl))) rfl
theorem dX9_init_74 : decode cX9_init 74 = .ok (.aload_n 0, 1) := qd_c (by decide +kernel)
theorem dX9_init_75 : decode cX9_init 75 = .ok (.aload_n 1, 1) := qd_c (by decide +kernel)
theorem dX9_init_76 : decode cX9_init 76 = .ok (.putfield 40, 3) := qd_c (by decide +kernel)
theorem kw_268 : Cond.fieldLink RX9 40 "SportsHouse$Title" "season" "LSportsHouse$Season;" ∈ lw_g := lwq_2 (dqa_m (dqa_m (dqa_m (List.mem_of_getElem? (i := 4) rfl)))) rfl
theorem dX9_init_79 : decode cX9_init 79 = .ok (.aload_n 0, 1) := qd_c (by decide +kernel)
theorem dX9_init_80 : decode cX9_init 80 = .ok (.aload_n 2, 1) := qd_c (by decide +kernel)
theorem dX9_init_81 : decode cX9_init 81 = .ok (.putfield 44, 3) := qd_c (by decide +kernel)
theorem kw_269 : Cond.fieldLink RX9 44 "SportsHouse$Title" "standings" "LSportsHouse$Standings;" ∈ lw_g := lwq_2 (dqa_m (dqa_m (dqa_m (List.mem_of_getElem? (i := 5) rfl)))) rfl
theorem dX9_init_84 : decode cX9_init 84 = .ok (.aload_n 0, 1) := qd_c (by decide +kernel)
theorem dX9_init_85 : decode cX9_init 85 = .ok (.getfield 15, 3) := qd_c (by decide +kernel)
theorem dX9_init_88 : decode cX9_init 88 = .ok (.iconst (-1), 1) := qd_c (by decide +kernel)
theorem dX9_init_89 : decode cX9_init 89 = .ok (.invokestatic 48, 3) := qd_c (by decide +kernel)
theorem kw_265 : Cond.methodLink RX9 48 yJ7_fill_53178 ∈ lw_g := lwq_2 (dqa_m (dqa_m (dqa_m (List.mem_of_getElem? (i := 1) rfl)))) rfl
theorem kw_266 : Cond.static yJ7_fill_53178 ∈ lw_g := lwq_2 (dqa_m (dqa_m (dqa_m (List.mem_of_getElem? (i := 2) rfl)))) rfl
theorem kw_7 : Cond.initialized RJ7 ∈ lw_g := lwq_1 (List.mem_of_getElem? (i := 7) rfl) rfl
theorem gv_X9_48 : GoodIn lw_g (va_wsS RX9 48 yJ7_fill_53178 (.code yJ7_fill_53178 cJ7_fill_53178 4 none :: lw_g)) := gi_S kw_265 kw_266 kw_7 kw_267
theorem dX9_init_92 : decode cX9_init 92 = .ok (.return_, 1) := qd_c (by decide +kernel)
set_option maxHeartbeats 4000000 in
set_option maxRecDepth 100000 in
theorem ct_X9_init (l : Launch) (dC : Nat → ClassId) (dI : Nat → Nat → Nat) (h0 : Nat) (se : Nat) (sd : Nat) (sz : Nat)  : Met l yX9_init (.code yX9_init cX9_init 3 none :: lw_g) ({ frames := 1, cells := 8, slots := 540, locals := 60 }) (ro_P dC dI [(h0, .inr (9, [.null, .null, .int 0, .int 0, .null, .null, .int 0, .null, .null, .int 0, .null, .null, .null, .null, .null, .null]))] [] sz [.ref h0, .ref se, .ref sd]) (va_Qv (fun (_ : Unit) => True) (fun _ t => ∃ (q1 : Nat) (q3 : Nat) (q5 : Nat) (q7 : Nat) (q9 : Nat) (q11 : Nat) (q13 : Nat) (q15 : Nat) (k4 : ClassId) (k6 : ClassId) (k8 : ClassId) (k10 : ClassId) (k12 : ClassId) (k14 : ClassId) (k16 : ClassId) (k2 : ClassId) (g17 : Nat → Int32), va_P (dC, dI) vwCl [(h0, .inr (9, [.ref se, .ref sd, .int (-1), .int 0, .ref q1, .null, .int 0, .ref q3, .ref q5, .int 0, .ref q7, .ref q9, .ref q11, .ref q13, .ref q15, .null])), (q3, .inl (k4, 12, .inl (fun _ => 0))), (q5, .inl (k6, 40, .inl (fun _ => 0))), (q7, .inl (k8, 40, .inl (fun _ => 0))), (q9, .inl (k10, 12, .inl (fun _ => 0))), (q11, .inl (k12, 12, .inl (fun _ => 0))), (q13, .inl (k14, 12, .inl (fun _ => 0))), (q15, .inl (k16, 12, .inl (fun _ => 0))), (q1, .inl (k2, 400, .inl g17))] t.heap ∧ va_K (dC, dI) vwCl [(k2, .int), (k4, .int), (k6, .int), (k8, .int), (k10, .int), (k12, .int), (k14, .int), (k16, .int)] t ∧ va_D (va_A [(h0, .inr (9, [.null, .null, .int 0, .int 0, .null, .null, .int 0, .null, .null, .int 0, .null, .null, .null, .null, .null, .null]))] sz) [(h0, .inr (9, [.ref se, .ref sd, .int (-1), .int 0, .ref q1, .null, .int 0, .ref q3, .ref q5, .int 0, .ref q7, .ref q9, .ref q11, .ref q13, .ref q15, .null])), (q3, .inl (k4, 12, .inl (fun _ => 0))), (q5, .inl (k6, 40, .inl (fun _ => 0))), (q7, .inl (k8, 40, .inl (fun _ => 0))), (q9, .inl (k10, 12, .inl (fun _ => 0))), (q11, .inl (k12, 12, .inl (fun _ => 0))), (q13, .inl (k14, 12, .inl (fun _ => 0))), (q15, .inl (k16, 12, .inl (fun _ => 0))), (q1, .inl (k2, 400, .inl g17))]) (va_A [(h0, .inr (9, [.null, .null, .int 0, .int 0, .null, .null, .int 0, .null, .null, .int 0, .null, .null, .null, .null, .null, .null]))] sz)) 8 540 (va_A [(h0, .inr (9, [.null, .null, .int 0, .int 0, .null, .null, .int 0, .null, .null, .int 0, .null, .null, .null, .null, .null, .null]))] sz) := by
  refine ro_entry (by decide) (Nat.le_of_ble_eq_true rfl) ?_
  intro p e s m below meth c ls hx hb hr hlocks ht hown hin hml hsz hP hK hD hE hl
  subst hsz
  have hD := hD.self (sz := s.heap.size)
  generalize hAe : va_A [(h0, .inr (9, [.null, .null, .int 0, .int 0, .null, .null, .int 0, .null, .null, .int 0, .null, .null, .null, .null, .null, .null]))] s.heap.size = A at hD ⊢
  have hA : ∀ q, s.heap.size ≤ q → A q := fun q h => by rw [← hAe]; exact Or.inr h
  have hS : va_S A s.heap s.heap [] := va_S.rf
  have hl : lv_has ls 3 [(0, .ref h0), (1, .ref se), (2, .ref sd)] := hl
  have hown : s.vm.findClass RX9 = some m.cls := hown
  refine lv_aload_n hx hb dX9_init_0 rfl (lv_at hl 0 rfl) ?_
  refine W.objInit hx hb hown (ht _ kw_264) (ht _ kw_27) (ht _ kw_28) rfl (by rw [hml]; exact hl.1) rfl dX9_init_1 (Nat.le_of_ble_eq_true rfl) (Nat.le_of_ble_eq_true rfl) ?_
  refine W.eq (g2 := F0 m 4 ls []) rfl ?_
  refine lv_aload_n hx hb dX9_init_4 rfl (lv_at hl 0 rfl) ?_
  refine lv_iconst (v := (-1)) hx hb dX9_init_5 (by decide) ?_
  refine va_put (D := (dC, dI)) (ci := 9) (v := .int (-1)) (ty := .int) (C := RX9) (T := TX9) (N := 16) hx hb ht inX9 tyX9 tyX9_ok nmX9 hown hK hP hD hS 0 rfl rfl 2 (by decide) (ht _ kw_270) (fun _ h9 => h9) rfl (by decide +kernel) rfl rfl (Nat.le_of_ble_eq_true rfl) dX9_init_6 (fun H locs hP hD hS => ?_)
  have hP : va_P (dC, dI) vwCl [(h0, .inr (9, [.null, .null, .int (-1), .int 0, .null, .null, .int 0, .null, .null, .int 0, .null, .null, .null, .null, .null, .null]))] H := hP
  have hD : va_D A [(h0, .inr (9, [.null, .null, .int (-1), .int 0, .null, .null, .int 0, .null, .null, .int 0, .null, .null, .null, .null, .null, .null]))] := hD
  refine lv_aload_n hx hb dX9_init_9 rfl (lv_at hl 0 rfl) ?_
  refine lv_sipush (v := 400) hx hb dX9_init_10 (by decide) ?_
  refine va_newa (atype := .int) (ty := .int) (a0 := (400, .inl (fun _ => 0))) hx hb (ht _ kw_72) rfl hK hP hD hS hA (fun _ => rfl) (by decide) (by decide) (Nat.le_of_ble_eq_true rfl) (Nat.le_of_ble_eq_true rfl) (Nat.le_of_ble_eq_true rfl) dX9_init_13 (fun q1 k2 H hK hP hD hS => ?_)
  have hP : va_P (dC, dI) vwCl [(h0, .inr (9, [.null, .null, .int (-1), .int 0, .null, .null, .int 0, .null, .null, .int 0, .null, .null, .null, .null, .null, .null])), (q1, .inl (k2, 400, .inl (fun _ => 0)))] H := hP
  have hD : va_D A [(h0, .inr (9, [.null, .null, .int (-1), .int 0, .null, .null, .int 0, .null, .null, .int 0, .null, .null, .null, .null, .null, .null])), (q1, .inl (k2, 400, .inl (fun _ => 0)))] := hD
  have hK : va_K (dC, dI) vwCl [(k2, .int)] s := hK
  refine W.widen (k := 1) (n := 400) (Nat.le_of_ble_eq_true rfl) (Nat.le_of_ble_eq_true rfl) ?_
  refine va_putF (D := (dC, dI)) (ci := 9) (v := .ref q1) (ty := .array .int) (C := RX9) (T := TX9) (N := 16) hx hb ht inX9 tyX9 tyX9_ok nmX9 hown hK hP hD hS 0 rfl rfl 4 (by decide) (ht _ kw_274) (fun _ h9 => h9) rfl hin rfl (by decide +kernel) rfl rfl (Nat.le_of_ble_eq_true rfl) dX9_init_15 (fun H locs hP hD hS => ?_)
  have hP : va_P (dC, dI) vwCl [(h0, .inr (9, [.null, .null, .int (-1), .int 0, .ref q1, .null, .int 0, .null, .null, .int 0, .null, .null, .null, .null, .null, .null])), (q1, .inl (k2, 400, .inl (fun _ => 0)))] H := hP
  have hD : va_D A [(h0, .inr (9, [.null, .null, .int (-1), .int 0, .ref q1, .null, .int 0, .null, .null, .int 0, .null, .null, .null, .null, .null, .null])), (q1, .inl (k2, 400, .inl (fun _ => 0)))] := hD
  refine lv_aload_n hx hb dX9_init_18 rfl (lv_at hl 0 rfl) ?_
  refine lv_bipush (v := 12) hx hb dX9_init_19 (by decide) ?_
  refine va_newa (atype := .int) (ty := .int) (a0 := (12, .inl (fun _ => 0))) hx hb (ht _ kw_72) rfl hK hP hD hS hA (fun _ => rfl) (by decide) (by decide) (Nat.le_of_ble_eq_true rfl) (Nat.le_of_ble_eq_true rfl) (Nat.le_of_ble_eq_true rfl) dX9_init_21 (fun q3 k4 H hK hP hD hS => ?_)
  have hP : va_P (dC, dI) vwCl [(h0, .inr (9, [.null, .null, .int (-1), .int 0, .ref q1, .null, .int 0, .null, .null, .int 0, .null, .null, .null, .null, .null, .null])), (q1, .inl (k2, 400, .inl (fun _ => 0))), (q3, .inl (k4, 12, .inl (fun _ => 0)))] H := hP
  have hD : va_D A [(h0, .inr (9, [.null, .null, .int (-1), .int 0, .ref q1, .null, .int 0, .null, .null, .int 0, .null, .null, .null, .null, .null, .null])), (q1, .inl (k2, 400, .inl (fun _ => 0))), (q3, .inl (k4, 12, .inl (fun _ => 0)))] := hD
  have hK : va_K (dC, dI) vwCl [(k2, .int), (k4, .int)] s := hK
  refine W.widen (k := 2) (n := 412) (Nat.le_of_ble_eq_true rfl) (Nat.le_of_ble_eq_true rfl) ?_
  refine va_putF (D := (dC, dI)) (ci := 9) (v := .ref q3) (ty := .array .int) (C := RX9) (T := TX9) (N := 16) hx hb ht inX9 tyX9 tyX9_ok nmX9 hown hK hP hD hS 0 rfl rfl 7 (by decide) (ht _ kw_278) (fun _ h9 => h9) rfl hin rfl (by decide +kernel) rfl rfl (Nat.le_of_ble_eq_true rfl) dX9_init_23 (fun H locs hP hD hS => ?_)
  have hP : va_P (dC, dI) vwCl [(h0, .inr (9, [.null, .null, .int (-1), .int 0, .ref q1, .null, .int 0, .ref q3, .null, .int 0, .null, .null, .null, .null, .null, .null])), (q1, .inl (k2, 400, .inl (fun _ => 0))), (q3, .inl (k4, 12, .inl (fun _ => 0)))] H := hP
  have hD : va_D A [(h0, .inr (9, [.null, .null, .int (-1), .int 0, .ref q1, .null, .int 0, .ref q3, .null, .int 0, .null, .null, .null, .null, .null, .null])), (q1, .inl (k2, 400, .inl (fun _ => 0))), (q3, .inl (k4, 12, .inl (fun _ => 0)))] := hD
  refine lv_aload_n hx hb dX9_init_26 rfl (lv_at hl 0 rfl) ?_
  refine lv_bipush (v := 40) hx hb dX9_init_27 (by decide) ?_
  refine va_newa (atype := .int) (ty := .int) (a0 := (40, .inl (fun _ => 0))) hx hb (ht _ kw_72) rfl hK hP hD hS hA (fun _ => rfl) (by decide) (by decide) (Nat.le_of_ble_eq_true rfl) (Nat.le_of_ble_eq_true rfl) (Nat.le_of_ble_eq_true rfl) dX9_init_29 (fun q5 k6 H hK hP hD hS => ?_)
  have hP : va_P (dC, dI) vwCl [(h0, .inr (9, [.null, .null, .int (-1), .int 0, .ref q1, .null, .int 0, .ref q3, .null, .int 0, .null, .null, .null, .null, .null, .null])), (q1, .inl (k2, 400, .inl (fun _ => 0))), (q3, .inl (k4, 12, .inl (fun _ => 0))), (q5, .inl (k6, 40, .inl (fun _ => 0)))] H := hP
  have hD : va_D A [(h0, .inr (9, [.null, .null, .int (-1), .int 0, .ref q1, .null, .int 0, .ref q3, .null, .int 0, .null, .null, .null, .null, .null, .null])), (q1, .inl (k2, 400, .inl (fun _ => 0))), (q3, .inl (k4, 12, .inl (fun _ => 0))), (q5, .inl (k6, 40, .inl (fun _ => 0)))] := hD
  have hK : va_K (dC, dI) vwCl [(k2, .int), (k4, .int), (k6, .int)] s := hK
  refine W.widen (k := 3) (n := 452) (Nat.le_of_ble_eq_true rfl) (Nat.le_of_ble_eq_true rfl) ?_
  refine va_putF (D := (dC, dI)) (ci := 9) (v := .ref q5) (ty := .array .int) (C := RX9) (T := TX9) (N := 16) hx hb ht inX9 tyX9 tyX9_ok nmX9 hown hK hP hD hS 0 rfl rfl 8 (by decide) (ht _ kw_279) (fun _ h9 => h9) rfl hin rfl (by decide +kernel) rfl rfl (Nat.le_of_ble_eq_true rfl) dX9_init_31 (fun H locs hP hD hS => ?_)
  have hP : va_P (dC, dI) vwCl [(h0, .inr (9, [.null, .null, .int (-1), .int 0, .ref q1, .null, .int 0, .ref q3, .ref q5, .int 0, .null, .null, .null, .null, .null, .null])), (q1, .inl (k2, 400, .inl (fun _ => 0))), (q3, .inl (k4, 12, .inl (fun _ => 0))), (q5, .inl (k6, 40, .inl (fun _ => 0)))] H := hP
  have hD : va_D A [(h0, .inr (9, [.null, .null, .int (-1), .int 0, .ref q1, .null, .int 0, .ref q3, .ref q5, .int 0, .null, .null, .null, .null, .null, .null])), (q1, .inl (k2, 400, .inl (fun _ => 0))), (q3, .inl (k4, 12, .inl (fun _ => 0))), (q5, .inl (k6, 40, .inl (fun _ => 0)))] := hD
  refine lv_aload_n hx hb dX9_init_34 rfl (lv_at hl 0 rfl) ?_
  refine lv_bipush (v := 40) hx hb dX9_init_35 (by decide) ?_
  refine va_newa (atype := .int) (ty := .int) (a0 := (40, .inl (fun _ => 0))) hx hb (ht _ kw_72) rfl hK hP hD hS hA (fun _ => rfl) (by decide) (by decide) (Nat.le_of_ble_eq_true rfl) (Nat.le_of_ble_eq_true rfl) (Nat.le_of_ble_eq_true rfl) dX9_init_37 (fun q7 k8 H hK hP hD hS => ?_)
  have hP : va_P (dC, dI) vwCl [(h0, .inr (9, [.null, .null, .int (-1), .int 0, .ref q1, .null, .int 0, .ref q3, .ref q5, .int 0, .null, .null, .null, .null, .null, .null])), (q1, .inl (k2, 400, .inl (fun _ => 0))), (q3, .inl (k4, 12, .inl (fun _ => 0))), (q5, .inl (k6, 40, .inl (fun _ => 0))), (q7, .inl (k8, 40, .inl (fun _ => 0)))] H := hP
  have hD : va_D A [(h0, .inr (9, [.null, .null, .int (-1), .int 0, .ref q1, .null, .int 0, .ref q3, .ref q5, .int 0, .null, .null, .null, .null, .null, .null])), (q1, .inl (k2, 400, .inl (fun _ => 0))), (q3, .inl (k4, 12, .inl (fun _ => 0))), (q5, .inl (k6, 40, .inl (fun _ => 0))), (q7, .inl (k8, 40, .inl (fun _ => 0)))] := hD
  have hK : va_K (dC, dI) vwCl [(k2, .int), (k4, .int), (k6, .int), (k8, .int)] s := hK
  refine W.widen (k := 4) (n := 492) (Nat.le_of_ble_eq_true rfl) (Nat.le_of_ble_eq_true rfl) ?_
  refine va_putF (D := (dC, dI)) (ci := 9) (v := .ref q7) (ty := .array .int) (C := RX9) (T := TX9) (N := 16) hx hb ht inX9 tyX9 tyX9_ok nmX9 hown hK hP hD hS 0 rfl rfl 10 (by decide) (ht _ kw_281) (fun _ h9 => h9) rfl hin rfl (by decide +kernel) rfl rfl (Nat.le_of_ble_eq_true rfl) dX9_init_39 (fun H locs hP hD hS => ?_)
  have hP : va_P (dC, dI) vwCl [(h0, .inr (9, [.null, .null, .int (-1), .int 0, .ref q1, .null, .int 0, .ref q3, .ref q5, .int 0, .ref q7, .null, .null, .null, .null, .null])), (q1, .inl (k2, 400, .inl (fun _ => 0))), (q3, .inl (k4, 12, .inl (fun _ => 0))), (q5, .inl (k6, 40, .inl (fun _ => 0))), (q7, .inl (k8, 40, .inl (fun _ => 0)))] H := hP
  have hD : va_D A [(h0, .inr (9, [.null, .null, .int (-1), .int 0, .ref q1, .null, .int 0, .ref q3, .ref q5, .int 0, .ref q7, .null, .null, .null, .null, .null])), (q1, .inl (k2, 400, .inl (fun _ => 0))), (q3, .inl (k4, 12, .inl (fun _ => 0))), (q5, .inl (k6, 40, .inl (fun _ => 0))), (q7, .inl (k8, 40, .inl (fun _ => 0)))] := hD
  refine lv_aload_n hx hb dX9_init_42 rfl (lv_at hl 0 rfl) ?_
  refine lv_bipush (v := 12) hx hb dX9_init_43 (by decide) ?_
  refine va_newa (atype := .int) (ty := .int) (a0 := (12, .inl (fun _ => 0))) hx hb (ht _ kw_72) rfl hK hP hD hS hA (fun _ => rfl) (by decide) (by decide) (Nat.le_of_ble_eq_true rfl) (Nat.le_of_ble_eq_true rfl) (Nat.le_of_ble_eq_true rfl) dX9_init_45 (fun q9 k10 H hK hP hD hS => ?_)
  have hP : va_P (dC, dI) vwCl [(h0, .inr (9, [.null, .null, .int (-1), .int 0, .ref q1, .null, .int 0, .ref q3, .ref q5, .int 0, .ref q7, .null, .null, .null, .null, .null])), (q1, .inl (k2, 400, .inl (fun _ => 0))), (q3, .inl (k4, 12, .inl (fun _ => 0))), (q5, .inl (k6, 40, .inl (fun _ => 0))), (q7, .inl (k8, 40, .inl (fun _ => 0))), (q9, .inl (k10, 12, .inl (fun _ => 0)))] H := hP
  have hD : va_D A [(h0, .inr (9, [.null, .null, .int (-1), .int 0, .ref q1, .null, .int 0, .ref q3, .ref q5, .int 0, .ref q7, .null, .null, .null, .null, .null])), (q1, .inl (k2, 400, .inl (fun _ => 0))), (q3, .inl (k4, 12, .inl (fun _ => 0))), (q5, .inl (k6, 40, .inl (fun _ => 0))), (q7, .inl (k8, 40, .inl (fun _ => 0))), (q9, .inl (k10, 12, .inl (fun _ => 0)))] := hD
  have hK : va_K (dC, dI) vwCl [(k2, .int), (k4, .int), (k6, .int), (k8, .int), (k10, .int)] s := hK
  refine W.widen (k := 5) (n := 504) (Nat.le_of_ble_eq_true rfl) (Nat.le_of_ble_eq_true rfl) ?_
  refine va_putF (D := (dC, dI)) (ci := 9) (v := .ref q9) (ty := .array .int) (C := RX9) (T := TX9) (N := 16) hx hb ht inX9 tyX9 tyX9_ok nmX9 hown hK hP hD hS 0 rfl rfl 11 (by decide) (ht _ kw_282) (fun _ h9 => h9) rfl hin rfl (by decide +kernel) rfl rfl (Nat.le_of_ble_eq_true rfl) dX9_init_47 (fun H locs hP hD hS => ?_)
  have hP : va_P (dC, dI) vwCl [(h0, .inr (9, [.null, .null, .int (-1), .int 0, .ref q1, .null, .int 0, .ref q3, .ref q5, .int 0, .ref q7, .ref q9, .null, .null, .null, .null])), (q1, .inl (k2, 400, .inl (fun _ => 0))), (q3, .inl (k4, 12, .inl (fun _ => 0))), (q5, .inl (k6, 40, .inl (fun _ => 0))), (q7, .inl (k8, 40, .inl (fun _ => 0))), (q9, .inl (k10, 12, .inl (fun _ => 0)))] H := hP
  have hD : va_D A [(h0, .inr (9, [.null, .null, .int (-1), .int 0, .ref q1, .null, .int 0, .ref q3, .ref q5, .int 0, .ref q7, .ref q9, .null, .null, .null, .null])), (q1, .inl (k2, 400, .inl (fun _ => 0))), (q3, .inl (k4, 12, .inl (fun _ => 0))), (q5, .inl (k6, 40, .inl (fun _ => 0))), (q7, .inl (k8, 40, .inl (fun _ => 0))), (q9, .inl (k10, 12, .inl (fun _ => 0)))] := hD
  refine lv_aload_n hx hb dX9_init_50 rfl (lv_at hl 0 rfl) ?_
  refine lv_bipush (v := 12) hx hb dX9_init_51 (by decide) ?_
  refine va_newa (atype := .int) (ty := .int) (a0 := (12, .inl (fun _ => 0))) hx hb (ht _ kw_72) rfl hK hP hD hS hA (fun _ => rfl) (by decide) (by decide) (Nat.le_of_ble_eq_true rfl) (Nat.le_of_ble_eq_true rfl) (Nat.le_of_ble_eq_true rfl) dX9_init_53 (fun q11 k12 H hK hP hD hS => ?_)
  have hP : va_P (dC, dI) vwCl [(h0, .inr (9, [.null, .null, .int (-1), .int 0, .ref q1, .null, .int 0, .ref q3, .ref q5, .int 0, .ref q7, .ref q9, .null, .null, .null, .null])), (q1, .inl (k2, 400, .inl (fun _ => 0))), (q3, .inl (k4, 12, .inl (fun _ => 0))), (q5, .inl (k6, 40, .inl (fun _ => 0))), (q7, .inl (k8, 40, .inl (fun _ => 0))), (q9, .inl (k10, 12, .inl (fun _ => 0))), (q11, .inl (k12, 12, .inl (fun _ => 0)))] H := hP
  have hD : va_D A [(h0, .inr (9, [.null, .null, .int (-1), .int 0, .ref q1, .null, .int 0, .ref q3, .ref q5, .int 0, .ref q7, .ref q9, .null, .null, .null, .null])), (q1, .inl (k2, 400, .inl (fun _ => 0))), (q3, .inl (k4, 12, .inl (fun _ => 0))), (q5, .inl (k6, 40, .inl (fun _ => 0))), (q7, .inl (k8, 40, .inl (fun _ => 0))), (q9, .inl (k10, 12, .inl (fun _ => 0))), (q11, .inl (k12, 12, .inl (fun _ => 0)))] := hD
  have hK : va_K (dC, dI) vwCl [(k2, .int), (k4, .int), (k6, .int), (k8, .int), (k10, .int), (k12, .int)] s := hK
  refine W.widen (k := 6) (n := 516) (Nat.le_of_ble_eq_true rfl) (Nat.le_of_ble_eq_true rfl) ?_
  refine va_putF (D := (dC, dI)) (ci := 9) (v := .ref q11) (ty := .array .int) (C := RX9) (T := TX9) (N := 16) hx hb ht inX9 tyX9 tyX9_ok nmX9 hown hK hP hD hS 0 rfl rfl 12 (by decide) (ht _ kw_283) (fun _ h9 => h9) rfl hin rfl (by decide +kernel) rfl rfl (Nat.le_of_ble_eq_true rfl) dX9_init_55 (fun H locs hP hD hS => ?_)
  have hP : va_P (dC, dI) vwCl [(h0, .inr (9, [.null, .null, .int (-1), .int 0, .ref q1, .null, .int 0, .ref q3, .ref q5, .int 0, .ref q7, .ref q9, .ref q11, .null, .null, .null])), (q1, .inl (k2, 400, .inl (fun _ => 0))), (q3, .inl (k4, 12, .inl (fun _ => 0))), (q5, .inl (k6, 40, .inl (fun _ => 0))), (q7, .inl (k8, 40, .inl (fun _ => 0))), (q9, .inl (k10, 12, .inl (fun _ => 0))), (q11, .inl (k12, 12, .inl (fun _ => 0)))] H := hP
  have hD : va_D A [(h0, .inr (9, [.null, .null, .int (-1), .int 0, .ref q1, .null, .int 0, .ref q3, .ref q5, .int 0, .ref q7, .ref q9, .ref q11, .null, .null, .null])), (q1, .inl (k2, 400, .inl (fun _ => 0))), (q3, .inl (k4, 12, .inl (fun _ => 0))), (q5, .inl (k6, 40, .inl (fun _ => 0))), (q7, .inl (k8, 40, .inl (fun _ => 0))), (q9, .inl (k10, 12, .inl (fun _ => 0))), (q11, .inl (k12, 12, .inl (fun _ => 0)))] := hD
  refine lv_aload_n hx hb dX9_init_58 rfl (lv_at hl 0 rfl) ?_
  refine lv_bipush (v := 12) hx hb dX9_init_59 (by decide) ?_
  refine va_newa (atype := .int) (ty := .int) (a0 := (12, .inl (fun _ => 0))) hx hb (ht _ kw_72) rfl hK hP hD hS hA (fun _ => rfl) (by decide) (by decide) (Nat.le_of_ble_eq_true rfl) (Nat.le_of_ble_eq_true rfl) (Nat.le_of_ble_eq_true rfl) dX9_init_61 (fun q13 k14 H hK hP hD hS => ?_)
  have hP : va_P (dC, dI) vwCl [(h0, .inr (9, [.null, .null, .int (-1), .int 0, .ref q1, .null, .int 0, .ref q3, .ref q5, .int 0, .ref q7, .ref q9, .ref q11, .null, .null, .null])), (q1, .inl (k2, 400, .inl (fun _ => 0))), (q3, .inl (k4, 12, .inl (fun _ => 0))), (q5, .inl (k6, 40, .inl (fun _ => 0))), (q7, .inl (k8, 40, .inl (fun _ => 0))), (q9, .inl (k10, 12, .inl (fun _ => 0))), (q11, .inl (k12, 12, .inl (fun _ => 0))), (q13, .inl (k14, 12, .inl (fun _ => 0)))] H := hP
  have hD : va_D A [(h0, .inr (9, [.null, .null, .int (-1), .int 0, .ref q1, .null, .int 0, .ref q3, .ref q5, .int 0, .ref q7, .ref q9, .ref q11, .null, .null, .null])), (q1, .inl (k2, 400, .inl (fun _ => 0))), (q3, .inl (k4, 12, .inl (fun _ => 0))), (q5, .inl (k6, 40, .inl (fun _ => 0))), (q7, .inl (k8, 40, .inl (fun _ => 0))), (q9, .inl (k10, 12, .inl (fun _ => 0))), (q11, .inl (k12, 12, .inl (fun _ => 0))), (q13, .inl (k14, 12, .inl (fun _ => 0)))] := hD
  have hK : va_K (dC, dI) vwCl [(k2, .int), (k4, .int), (k6, .int), (k8, .int), (k10, .int), (k12, .int), (k14, .int)] s := hK
  refine W.widen (k := 7) (n := 528) (Nat.le_of_ble_eq_true rfl) (Nat.le_of_ble_eq_true rfl) ?_
  refine va_putF (D := (dC, dI)) (ci := 9) (v := .ref q13) (ty := .array .int) (C := RX9) (T := TX9) (N := 16) hx hb ht inX9 tyX9 tyX9_ok nmX9 hown hK hP hD hS 0 rfl rfl 13 (by decide) (ht _ kw_284) (fun _ h9 => h9) rfl hin rfl (by decide +kernel) rfl rfl (Nat.le_of_ble_eq_true rfl) dX9_init_63 (fun H locs hP hD hS => ?_)
  have hP : va_P (dC, dI) vwCl [(h0, .inr (9, [.null, .null, .int (-1), .int 0, .ref q1, .null, .int 0, .ref q3, .ref q5, .int 0, .ref q7, .ref q9, .ref q11, .ref q13, .null, .null])), (q1, .inl (k2, 400, .inl (fun _ => 0))), (q3, .inl (k4, 12, .inl (fun _ => 0))), (q5, .inl (k6, 40, .inl (fun _ => 0))), (q7, .inl (k8, 40, .inl (fun _ => 0))), (q9, .inl (k10, 12, .inl (fun _ => 0))), (q11, .inl (k12, 12, .inl (fun _ => 0))), (q13, .inl (k14, 12, .inl (fun _ => 0)))] H := hP
  have hD : va_D A [(h0, .inr (9, [.null, .null, .int (-1), .int 0, .ref q1, .null, .int 0, .ref q3, .ref q5, .int 0, .ref q7, .ref q9, .ref q11, .ref q13, .null, .null])), (q1, .inl (k2, 400, .inl (fun _ => 0))), (q3, .inl (k4, 12, .inl (fun _ => 0))), (q5, .inl (k6, 40, .inl (fun _ => 0))), (q7, .inl (k8, 40, .inl (fun _ => 0))), (q9, .inl (k10, 12, .inl (fun _ => 0))), (q11, .inl (k12, 12, .inl (fun _ => 0))), (q13, .inl (k14, 12, .inl (fun _ => 0)))] := hD
  refine lv_aload_n hx hb dX9_init_66 rfl (lv_at hl 0 rfl) ?_
  refine lv_bipush (v := 12) hx hb dX9_init_67 (by decide) ?_
  refine va_newa (atype := .int) (ty := .int) (a0 := (12, .inl (fun _ => 0))) hx hb (ht _ kw_72) rfl hK hP hD hS hA (fun _ => rfl) (by decide) (by decide) (Nat.le_of_ble_eq_true rfl) (Nat.le_of_ble_eq_true rfl) (Nat.le_of_ble_eq_true rfl) dX9_init_69 (fun q15 k16 H hK hP hD hS => ?_)
  have hP : va_P (dC, dI) vwCl [(h0, .inr (9, [.null, .null, .int (-1), .int 0, .ref q1, .null, .int 0, .ref q3, .ref q5, .int 0, .ref q7, .ref q9, .ref q11, .ref q13, .null, .null])), (q1, .inl (k2, 400, .inl (fun _ => 0))), (q3, .inl (k4, 12, .inl (fun _ => 0))), (q5, .inl (k6, 40, .inl (fun _ => 0))), (q7, .inl (k8, 40, .inl (fun _ => 0))), (q9, .inl (k10, 12, .inl (fun _ => 0))), (q11, .inl (k12, 12, .inl (fun _ => 0))), (q13, .inl (k14, 12, .inl (fun _ => 0))), (q15, .inl (k16, 12, .inl (fun _ => 0)))] H := hP
  have hD : va_D A [(h0, .inr (9, [.null, .null, .int (-1), .int 0, .ref q1, .null, .int 0, .ref q3, .ref q5, .int 0, .ref q7, .ref q9, .ref q11, .ref q13, .null, .null])), (q1, .inl (k2, 400, .inl (fun _ => 0))), (q3, .inl (k4, 12, .inl (fun _ => 0))), (q5, .inl (k6, 40, .inl (fun _ => 0))), (q7, .inl (k8, 40, .inl (fun _ => 0))), (q9, .inl (k10, 12, .inl (fun _ => 0))), (q11, .inl (k12, 12, .inl (fun _ => 0))), (q13, .inl (k14, 12, .inl (fun _ => 0))), (q15, .inl (k16, 12, .inl (fun _ => 0)))] := hD
  have hK : va_K (dC, dI) vwCl [(k2, .int), (k4, .int), (k6, .int), (k8, .int), (k10, .int), (k12, .int), (k14, .int), (k16, .int)] s := hK
  refine W.widen (k := 8) (n := 540) (Nat.le_of_ble_eq_true rfl) (Nat.le_of_ble_eq_true rfl) ?_
  refine va_putF (D := (dC, dI)) (ci := 9) (v := .ref q15) (ty := .array .int) (C := RX9) (T := TX9) (N := 16) hx hb ht inX9 tyX9 tyX9_ok nmX9 hown hK hP hD hS 0 rfl rfl 14 (by decide) (ht _ kw_285) (fun _ h9 => h9) rfl hin rfl (by decide +kernel) rfl rfl (Nat.le_of_ble_eq_true rfl) dX9_init_71 (fun H locs hP hD hS => ?_)
  have hP : va_P (dC, dI) vwCl [(h0, .inr (9, [.null, .null, .int (-1), .int 0, .ref q1, .null, .int 0, .ref q3, .ref q5, .int 0, .ref q7, .ref q9, .ref q11, .ref q13, .ref q15, .null])), (q1, .inl (k2, 400, .inl (fun _ => 0))), (q3, .inl (k4, 12, .inl (fun _ => 0))), (q5, .inl (k6, 40, .inl (fun _ => 0))), (q7, .inl (k8, 40, .inl (fun _ => 0))), (q9, .inl (k10, 12, .inl (fun _ => 0))), (q11, .inl (k12, 12, .inl (fun _ => 0))), (q13, .inl (k14, 12, .inl (fun _ => 0))), (q15, .inl (k16, 12, .inl (fun _ => 0)))] H := hP
  have hD : va_D A [(h0, .inr (9, [.null, .null, .int (-1), .int 0, .ref q1, .null, .int 0, .ref q3, .ref q5, .int 0, .ref q7, .ref q9, .ref q11, .ref q13, .ref q15, .null])), (q1, .inl (k2, 400, .inl (fun _ => 0))), (q3, .inl (k4, 12, .inl (fun _ => 0))), (q5, .inl (k6, 40, .inl (fun _ => 0))), (q7, .inl (k8, 40, .inl (fun _ => 0))), (q9, .inl (k10, 12, .inl (fun _ => 0))), (q11, .inl (k12, 12, .inl (fun _ => 0))), (q13, .inl (k14, 12, .inl (fun _ => 0))), (q15, .inl (k16, 12, .inl (fun _ => 0)))] := hD
  refine lv_aload_n hx hb dX9_init_74 rfl (lv_at hl 0 rfl) ?_
  refine lv_aload_n hx hb dX9_init_75 rfl (lv_at hl 1 rfl) ?_
  refine va_putF (D := (dC, dI)) (ci := 9) (v := .ref se) (ty := .object "SportsHouse$Season") (C := RX9) (T := TX9) (N := 16) hx hb ht inX9 tyX9 tyX9_ok nmX9 hown hK hP hD hS 0 rfl rfl 0 (by decide) (ht _ kw_268) (fun _ h9 => h9) rfl hin rfl (by decide +kernel) rfl rfl (Nat.le_of_ble_eq_true rfl) dX9_init_76 (fun H locs hP hD hS => ?_)
  have hP : va_P (dC, dI) vwCl [(h0, .inr (9, [.ref se, .null, .int (-1), .int 0, .ref q1, .null, .int 0, .ref q3, .ref q5, .int 0, .ref q7, .ref q9, .ref q11, .ref q13, .ref q15, .null])), (q1, .inl (k2, 400, .inl (fun _ => 0))), (q3, .inl (k4, 12, .inl (fun _ => 0))), (q5, .inl (k6, 40, .inl (fun _ => 0))), (q7, .inl (k8, 40, .inl (fun _ => 0))), (q9, .inl (k10, 12, .inl (fun _ => 0))), (q11, .inl (k12, 12, .inl (fun _ => 0))), (q13, .inl (k14, 12, .inl (fun _ => 0))), (q15, .inl (k16, 12, .inl (fun _ => 0)))] H := hP
  have hD : va_D A [(h0, .inr (9, [.ref se, .null, .int (-1), .int 0, .ref q1, .null, .int 0, .ref q3, .ref q5, .int 0, .ref q7, .ref q9, .ref q11, .ref q13, .ref q15, .null])), (q1, .inl (k2, 400, .inl (fun _ => 0))), (q3, .inl (k4, 12, .inl (fun _ => 0))), (q5, .inl (k6, 40, .inl (fun _ => 0))), (q7, .inl (k8, 40, .inl (fun _ => 0))), (q9, .inl (k10, 12, .inl (fun _ => 0))), (q11, .inl (k12, 12, .inl (fun _ => 0))), (q13, .inl (k14, 12, .inl (fun _ => 0))), (q15, .inl (k16, 12, .inl (fun _ => 0)))] := hD
  refine lv_aload_n hx hb dX9_init_79 rfl (lv_at hl 0 rfl) ?_
  refine lv_aload_n hx hb dX9_init_80 rfl (lv_at hl 2 rfl) ?_
  refine va_putF (D := (dC, dI)) (ci := 9) (v := .ref sd) (ty := .object "SportsHouse$Standings") (C := RX9) (T := TX9) (N := 16) hx hb ht inX9 tyX9 tyX9_ok nmX9 hown hK hP hD hS 0 rfl rfl 1 (by decide) (ht _ kw_269) (fun _ h9 => h9) rfl hin rfl (by decide +kernel) rfl rfl (Nat.le_of_ble_eq_true rfl) dX9_init_81 (fun H locs hP hD hS => ?_)
  have hP : va_P (dC, dI) vwCl [(h0, .inr (9, [.ref se, .ref sd, .int (-1), .int 0, .ref q1, .null, .int 0, .ref q3, .ref q5, .int 0, .ref q7, .ref q9, .ref q11, .ref q13, .ref q15, .null])), (q1, .inl (k2, 400, .inl (fun _ => 0))), (q3, .inl (k4, 12, .inl (fun _ => 0))), (q5, .inl (k6, 40, .inl (fun _ => 0))), (q7, .inl (k8, 40, .inl (fun _ => 0))), (q9, .inl (k10, 12, .inl (fun _ => 0))), (q11, .inl (k12, 12, .inl (fun _ => 0))), (q13, .inl (k14, 12, .inl (fun _ => 0))), (q15, .inl (k16, 12, .inl (fun _ => 0)))] H := hP
  have hD : va_D A [(h0, .inr (9, [.ref se, .ref sd, .int (-1), .int 0, .ref q1, .null, .int 0, .ref q3, .ref q5, .int 0, .ref q7, .ref q9, .ref q11, .ref q13, .ref q15, .null])), (q1, .inl (k2, 400, .inl (fun _ => 0))), (q3, .inl (k4, 12, .inl (fun _ => 0))), (q5, .inl (k6, 40, .inl (fun _ => 0))), (q7, .inl (k8, 40, .inl (fun _ => 0))), (q9, .inl (k10, 12, .inl (fun _ => 0))), (q11, .inl (k12, 12, .inl (fun _ => 0))), (q13, .inl (k14, 12, .inl (fun _ => 0))), (q15, .inl (k16, 12, .inl (fun _ => 0)))] := hD
  refine lv_aload_n hx hb dX9_init_84 rfl (lv_at hl 0 rfl) ?_
  refine va_get (D := (dC, dI)) (ci := 9) (v := .ref q1) (C := RX9) (T := TX9) (N := 16) hx hb ht inX9 hown hK hP 0 rfl rfl 4 (by decide) (ht _ kw_274) (fun _ h9 => h9) rfl dX9_init_85 ?_
  refine lv_iconst (v := (-1)) hx hb dX9_init_88 (by decide) ?_
  have hPc := hP.sub (ws' := [(q1, .inl (k2, 400, .inl (fun _ => 0)))]) [1] rfl
  have hDc := hD.sub (ws' := [(q1, .inl (k2, 400, .inl (fun _ => 0)))]) [1] (by decide) rfl
  have hKc := hK.sub (tys' := [(k2, .int)]) [0] rfl
  have hFc := va_free (wc := [(q1, .inl (k2, 400, .inl (fun _ => 0)))]) hD hS hA [1] rfl
  refine va_callv (va_runS (As := [.ref q1, .int (-1)]) (rest := []) ⟨hx, hb, hml, hown, ht⟩ (ct_J7_fill_53178 l dC dI q1 k2 400 (fun _ => 0) (by decide) _ (-1)) (va_cwS 2 ht gv_X9_48 rfl rfl rfl (by decide +kernel) ⟨Nat.le_of_ble_eq_true rfl, Nat.le_of_ble_eq_true rfl⟩) ⟨ro_blind, fun U hU hW => ⟨rfl, by rw [hU], by rw [hU]; exact hPc, va_K.moved hW.alike hKc, hDc.weaken (fun _ _ _ _ => trivial), ex_warm hW hE⟩⟩ rfl rfl hl.1 rfl (lv_room (Nat.le_of_ble_eq_true rfl)) dX9_init_89 ⟨Nat.le_of_ble_eq_true rfl, Nat.le_of_ble_eq_true rfl⟩) hS (fun q _ h => hFc q h) hFc (fun u t H1 locs ht1 hvm hw hB hz1 hk1 hS => ?_)
  obtain ⟨g17, hP1, hK1, hD1⟩ := hB
  rw [ht1] at hP1
  obtain ⟨hP, hD⟩ := va_join (wr := [(h0, .inr (9, [.ref se, .ref sd, .int (-1), .int 0, .ref q1, .null, .int 0, .ref q3, .ref q5, .int 0, .ref q7, .ref q9, .ref q11, .ref q13, .ref q15, .null])), (q3, .inl (k4, 12, .inl (fun _ => 0))), (q5, .inl (k6, 40, .inl (fun _ => 0))), (q7, .inl (k8, 40, .inl (fun _ => 0))), (q9, .inl (k10, 12, .inl (fun _ => 0))), (q11, .inl (k12, 12, .inl (fun _ => 0))), (q13, .inl (k14, 12, .inl (fun _ => 0))), (q15, .inl (k16, 12, .inl (fun _ => 0)))]) (w1 := [(q1, .inl (k2, 400, .inl g17))]) hP hD [1] [0, 2, 3, 4, 5, 6, 7, 8] rfl rfl (by decide) (by decide) hk1 hFc hP1 hD1
  generalize H1 = H at hP hS ⊢
  have hP : va_P (dC, dI) vwCl [(h0, .inr (9, [.ref se, .ref sd, .int (-1), .int 0, .ref q1, .null, .int 0, .ref q3, .ref q5, .int 0, .ref q7, .ref q9, .ref q11, .ref q13, .ref q15, .null])), (q3, .inl (k4, 12, .inl (fun _ => 0))), (q5, .inl (k6, 40, .inl (fun _ => 0))), (q7, .inl (k8, 40, .inl (fun _ => 0))), (q9, .inl (k10, 12, .inl (fun _ => 0))), (q11, .inl (k12, 12, .inl (fun _ => 0))), (q13, .inl (k14, 12, .inl (fun _ => 0))), (q15, .inl (k16, 12, .inl (fun _ => 0))), (q1, .inl (k2, 400, .inl g17))] H := hP
  have hD : va_D A [(h0, .inr (9, [.ref se, .ref sd, .int (-1), .int 0, .ref q1, .null, .int 0, .ref q3, .ref q5, .int 0, .ref q7, .ref q9, .ref q11, .ref q13, .ref q15, .null])), (q3, .inl (k4, 12, .inl (fun _ => 0))), (q5, .inl (k6, 40, .inl (fun _ => 0))), (q7, .inl (k8, 40, .inl (fun _ => 0))), (q9, .inl (k10, 12, .inl (fun _ => 0))), (q11, .inl (k12, 12, .inl (fun _ => 0))), (q13, .inl (k14, 12, .inl (fun _ => 0))), (q15, .inl (k16, 12, .inl (fun _ => 0))), (q1, .inl (k2, 400, .inl g17))] := hD
  exact W.vret hx hb hr (fun t ht9 hW => ⟨⟨(), rfl, trivial, q1, q3, q5, q7, q9, q11, q13, q15, k4, k6, k8, k10, k12, k14, k16, k2, g17, by rw [ht9]; exact hP, va_K.moved hW.alike hK, hD⟩, hS.F ht9⟩) hS.2.2 dX9_init_92
