abbrev cX4_init : ByteArray := prog_6_method_1_code
def yX4_init : MethodName := ⟨RX4, "<init>", "(LSportsHouse$Season;LSportsHouse$Things;)V"⟩
theorem dX4_init_0 : decode cX4_init 0 = .ok (.aload_n 0, 1) := qd_c (by decide +kernel)
theorem dX4_init_1 : decode cX4_init 1 = .ok (.invokespecial 3, 3) := qd_c (by decide +kernel)
theorem kw_388 : Cond.methodLink RX4 3 objectInit ∈ lw_g := lwq_2 (dqc_m (dqc_m (dqc_m (dqc_m (dqa_m (dqa_m (List.mem_of_getElem? (i := 4) rfl))))))) rfl
theorem dX4_init_4 : decode cX4_init 4 = .ok (.aload_n 0, 1) := qd_c (by decide +kernel)
theorem dX4_init_5 : decode cX4_init 5 = .ok (.sipush 400, 3) := qd_c (by decide +kernel)
theorem dX4_init_8 : decode cX4_init 8 = .ok (.newarray .int, 2) := by decide +kernel
theorem dX4_init_10 : decode cX4_init 10 = .ok (.putfield 9, 3) := qd_c (by decide +kernel)
theorem kw_391 : Cond.fieldLink RX4 9 "SportsHouse$Referees" "toServe" "[I" ∈ lw_g := lwq_2 (dqc_m (dqc_m (dqc_m (dqc_m (dqa_m (dqa_m (List.mem_of_getElem? (i := 7) rfl))))))) rfl
theorem dX4_init_13 : decode cX4_init 13 = .ok (.aload_n 0, 1) := qd_c (by decide +kernel)
theorem dX4_init_14 : decode cX4_init 14 = .ok (.iconst 1, 1) := qd_c (by decide +kernel)
theorem dX4_init_15 : decode cX4_init 15 = .ok (.newarray .int, 2) := by decide +kernel
theorem dX4_init_17 : decode cX4_init 17 = .ok (.putfield 15, 3) := qd_c (by decide +kernel)
theorem kw_393 : Cond.fieldLink RX4 15 "SportsHouse$Referees" "best" "[I" ∈ lw_g := lwq_2 (dqc_m (dqc_m (dqc_m (dqc_m (dqa_m (dqa_m (dqa_m (List.mem_of_getElem? (i := 1) rfl)))))))) rfl
theorem dX4_init_20 : decode cX4_init 20 = .ok (.aload_n 0, 1) := qd_c (by decide +kernel)
theorem dX4_init_21 : decode cX4_init 21 = .ok (.aload_n 1, 1) := qd_c (by decide +kernel)
theorem dX4_init_22 : decode cX4_init 22 = .ok (.putfield 18, 3) := qd_c (by decide +kernel)
theorem kw_389 : Cond.fieldLink RX4 18 "SportsHouse$Referees" "season" "LSportsHouse$Season;" ∈ lw_g := lwq_2 (dqc_m (dqc_m (dqc_m (dqc_m (dqa_m (dqa_m (List.mem_of_getElem? (i := 5) rfl))))))) rfl
theorem dX4_init_25 : decode cX4_init 25 = .ok (.aload_n 0, 1) := qd_c (by decide +kernel)
theorem dX4_init_26 : decode cX4_init 26 = .ok (.aload_n 2, 1) := qd_c (by decide +kernel)
theorem dX4_init_27 : decode cX4_init 27 = .ok (.putfield 22, 3) := qd_c (by decide +kernel)
theorem kw_390 : Cond.fieldLink RX4 22 "SportsHouse$Referees" "things" "LSportsHouse$Things;" ∈ lw_g := lwq_2 (dqc_m (dqc_m (dqc_m (dqc_m (dqa_m (dqa_m (List.mem_of_getElem? (i := 6) rfl))))))) rfl
theorem dX4_init_30 : decode cX4_init 30 = .ok (.return_, 1) := qd_c (by decide +kernel)
set_option maxHeartbeats 4000000 in
set_option maxRecDepth 100000 in
theorem ct_X4_init (l : Launch) (dC : Nat → ClassId) (dI : Nat → Nat → Nat) (h0 : Nat) (se : Nat) (th : Nat) (sz : Nat)  : Met l yX4_init (.code yX4_init cX4_init 3 none :: lw_g) ({ frames := 1, cells := 2, slots := 401, locals := 60 }) (ro_P dC dI [(h0, .inr (4, [.null, .null, .null, .int 0, .null]))] [] sz [.ref h0, .ref se, .ref th]) (va_Qv (fun (_ : Unit) => True) (fun _ t => ∃ (q1 : Nat) (q3 : Nat) (k2 : ClassId) (k4 : ClassId), va_P (dC, dI) vwCl [(h0, .inr (4, [.ref se, .ref th, .ref q1, .int 0, .ref q3])), (q1, .inl (k2, 400, .inl (fun _ => 0))), (q3, .inl (k4, 1, .inl (fun _ => 0)))] t.heap ∧ va_K (dC, dI) vwCl [(k2, .int), (k4, .int)] t ∧ va_D (va_A [(h0, .inr (4, [.null, .null, .null, .int 0, .null]))] sz) [(h0, .inr (4, [.ref se, .ref th, .ref q1, .int 0, .ref q3])), (q1, .inl (k2, 400, .inl (fun _ => 0))), (q3, .inl (k4, 1, .inl (fun _ => 0)))]) (va_A [(h0, .inr (4, [.null, .null, .null, .int 0, .null]))] sz)) 2 401 (va_A [(h0, .inr (4, [.null, .null, .null, .int 0, .null]))] sz) := by
  refine ro_entry (by decide) (Nat.le_of_ble_eq_true rfl) ?_
  intro p e s m below meth c ls hx hb hr hlocks ht hown hin hml hsz hP hK hD hE hl
  subst hsz
  have hD := hD.self (sz := s.heap.size)
  generalize hAe : va_A [(h0, .inr (4, [.null, .null, .null, .int 0, .null]))] s.heap.size = A at hD ⊢
  have hA : ∀ q, s.heap.size ≤ q → A q := fun q h => by rw [← hAe]; exact Or.inr h
  have hS : va_S A s.heap s.heap [] := va_S.rf
  have hl : lv_has ls 3 [(0, .ref h0), (1, .ref se), (2, .ref th)] := hl
  have hown : s.vm.findClass RX4 = some m.cls := hown
  refine lv_aload_n hx hb dX4_init_0 rfl (lv_at hl 0 rfl) ?_
  refine W.objInit hx hb hown (ht _ kw_388) (ht _ kw_27) (ht _ kw_28) rfl (by rw [hml]; exact hl.1) rfl dX4_init_1 (Nat.le_of_ble_eq_true rfl) (Nat.le_of_ble_eq_true rfl) ?_
  refine W.eq (g2 := F0 m 4 ls []) rfl ?_
  refine lv_aload_n hx hb dX4_init_4 rfl (lv_at hl 0 rfl) ?_
  refine lv_sipush (v := 400) hx hb dX4_init_5 (by decide) ?_
  refine va_newa (atype := .int) (ty := .int) (a0 := (400, .inl (fun _ => 0))) hx hb (ht _ kw_72) rfl hK hP hD hS hA (fun _ => rfl) (by decide) (by decide) (Nat.le_of_ble_eq_true rfl) (Nat.le_of_ble_eq_true rfl) (Nat.le_of_ble_eq_true rfl) dX4_init_8 (fun q1 k2 H hK hP hD hS => ?_)
  have hP : va_P (dC, dI) vwCl [(h0, .inr (4, [.null, .null, .null, .int 0, .null])), (q1, .inl (k2, 400, .inl (fun _ => 0)))] H := hP
  have hD : va_D A [(h0, .inr (4, [.null, .null, .null, .int 0, .null])), (q1, .inl (k2, 400, .inl (fun _ => 0)))] := hD
  have hK : va_K (dC, dI) vwCl [(k2, .int)] s := hK
  refine W.widen (k := 1) (n := 400) (Nat.le_of_ble_eq_true rfl) (Nat.le_of_ble_eq_true rfl) ?_
  refine va_putF (D := (dC, dI)) (ci := 4) (v := .ref q1) (ty := .array .int) (C := RX4) (T := TX4) (N := 5) hx hb ht inX4 tyX4 tyX4_ok nmX4 hown hK hP hD hS 0 rfl rfl 2 (by decide) (ht _ kw_391) (fun _ h9 => h9) rfl hin rfl (by decide +kernel) rfl rfl (Nat.le_of_ble_eq_true rfl) dX4_init_10 (fun H locs hP hD hS => ?_)
  have hP : va_P (dC, dI) vwCl [(h0, .inr (4, [.null, .null, .ref q1, .int 0, .null])), (q1, .inl (k2, 400, .inl (fun _ => 0)))] H := hP
  have hD : va_D A [(h0, .inr (4, [.null, .null, .ref q1, .int 0, .null])), (q1, .inl (k2, 400, .inl (fun _ => 0)))] := hD
  refine lv_aload_n hx hb dX4_init_13 rfl (lv_at hl 0 rfl) ?_
  refine lv_iconst (v := 1) hx hb dX4_init_14 (by decide) ?_
  refine va_newa (atype := .int) (ty := .int) (a0 := (1, .inl (fun _ => 0))) hx hb (ht _ kw_72) rfl hK hP hD hS hA (fun _ => rfl) (by decide) (by decide) (Nat.le_of_ble_eq_true rfl) (Nat.le_of_ble_eq_true rfl) (Nat.le_of_ble_eq_true rfl) dX4_init_15 (fun q3 k4 H hK hP hD hS => ?_)
  have hP : va_P (dC, dI) vwCl [(h0, .inr (4, [.null, .null, .ref q1, .int 0, .null])), (q1, .inl (k2, 400, .inl (fun _ => 0))), (q3, .inl (k4, 1, .inl (fun _ => 0)))] H := hP
  have hD : va_D A [(h0, .inr (4, [.null, .null, .ref q1, .int 0, .null])), (q1, .inl (k2, 400, .inl (fun _ => 0))), (q3, .inl (k4, 1, .inl (fun _ => 0)))] := hD
  have hK : va_K (dC, dI) vwCl [(k2, .int), (k4, .int)] s := hK
  refine W.widen (k := 2) (n := 401) (Nat.le_of_ble_eq_true rfl) (Nat.le_of_ble_eq_true rfl) ?_
  refine va_put (D := (dC, dI)) (ci := 4) (v := .ref q3) (ty := .array .int) (C := RX4) (T := TX4) (N := 5) hx hb ht inX4 tyX4 tyX4_ok nmX4 hown hK hP hD hS 0 rfl rfl 4 (by decide) (ht _ kw_393) (fun _ h9 => h9) rfl (by decide +kernel) rfl rfl (Nat.le_of_ble_eq_true rfl) dX4_init_17 (fun H locs hP hD hS => ?_)
  have hP : va_P (dC, dI) vwCl [(h0, .inr (4, [.null, .null, .ref q1, .int 0, .ref q3])), (q1, .inl (k2, 400, .inl (fun _ => 0))), (q3, .inl (k4, 1, .inl (fun _ => 0)))] H := hP
  have hD : va_D A [(h0, .inr (4, [.null, .null, .ref q1, .int 0, .ref q3])), (q1, .inl (k2, 400, .inl (fun _ => 0))), (q3, .inl (k4, 1, .inl (fun _ => 0)))] := hD
  refine lv_aload_n hx hb dX4_init_20 rfl (lv_at hl 0 rfl) ?_
  refine lv_aload_n hx hb dX4_init_21 rfl (lv_at hl 1 rfl) ?_
  refine va_putF (D := (dC, dI)) (ci := 4) (v := .ref se) (ty := .object "SportsHouse$Season") (C := RX4) (T := TX4) (N := 5) hx hb ht inX4 tyX4 tyX4_ok nmX4 hown hK hP hD hS 0 rfl rfl 0 (by decide) (ht _ kw_389) (fun _ h9 => h9) rfl hin rfl (by decide +kernel) rfl rfl (Nat.le_of_ble_eq_true rfl) dX4_init_22 (fun H locs hP hD hS => ?_)
  have hP : va_P (dC, dI) vwCl [(h0, .inr (4, [.ref se, .null, .ref q1, .int 0, .ref q3])), (q1, .inl (k2, 400, .inl (fun _ => 0))), (q3, .inl (k4, 1, .inl (fun _ => 0)))] H := hP
  have hD : va_D A [(h0, .inr (4, [.ref se, .null, .ref q1, .int 0, .ref q3])), (q1, .inl (k2, 400, .inl (fun _ => 0))), (q3, .inl (k4, 1, .inl (fun _ => 0)))] := hD
  refine lv_aload_n hx hb dX4_init_25 rfl (lv_at hl 0 rfl) ?_
  refine lv_aload_n hx hb dX4_init_26 rfl (lv_at hl 2 rfl) ?_
  refine va_putF (D := (dC, dI)) (ci := 4) (v := .ref th) (ty := .object "SportsHouse$Things") (C := RX4) (T := TX4) (N := 5) hx hb ht inX4 tyX4 tyX4_ok nmX4 hown hK hP hD hS 0 rfl rfl 1 (by decide) (ht _ kw_390) (fun _ h9 => h9) rfl hin rfl (by decide +kernel) rfl rfl (Nat.le_of_ble_eq_true rfl) dX4_init_27 (fun H locs hP hD hS => ?_)
  have hP : va_P (dC, dI) vwCl [(h0, .inr (4, [.ref se, .ref th, .ref q1, .int 0, .ref q3])), (q1, .inl (k2, 400, .inl (fun _ => 0))), (q3, .inl (k4, 1, .inl (fun _ => 0)))] H := hP
  have hD : va_D A [(h0, .inr (4, [.ref se, .ref th, .ref q1, .int 0, .ref q3])), (q1, .inl (k2, 400, .inl (fun _ => 0))), (q3, .inl (k4, 1, .inl (fun _ => 0)))] := hD
  exact W.vret hx hb hr (fun t ht9 hW => ⟨⟨(), rfl, trivial, q1, q3, k2, k4, by rw [ht9]; exact hP, va_K.moved hW.alike hK, hD⟩, hS.F ht9⟩) hS.2.2 dX4_init_30
