theorem dJ7_fill_53178_0 : decode cJ7_fill_53178 0 = .ok (.iconst 0, 1) := qd_c (by decide +kernel)
theorem dJ7_fill_53178_1 : decode cJ7_fill_53178 1 = .ok (.istore_n 2, 1) := qd_c (by decide +kernel)
theorem dJ7_fill_53178_2 : decode cJ7_fill_53178 2 = .ok (.aload_n 0, 1) := qd_c (by decide +kernel)
theorem dJ7_fill_53178_3 : decode cJ7_fill_53178 3 = .ok (.arraylength, 1) := qd_c (by decide +kernel)
theorem dJ7_fill_53178_4 : decode cJ7_fill_53178 4 = .ok (.istore_n 3, 1) := qd_c (by decide +kernel)
theorem dJ7_fill_53178_5 : decode cJ7_fill_53178 5 = .ok (.iload_n 2, 1) := qd_c (by decide +kernel)
theorem dJ7_fill_53178_6 : decode cJ7_fill_53178 6 = .ok (.iload_n 3, 1) := qd_c (by decide +kernel)
theorem dJ7_fill_53178_7 : decode cJ7_fill_53178 7 = .ok (.if_icmp .ge 13, 3) := qd_c (by decide +kernel)
theorem dJ7_fill_53178_10 : decode cJ7_fill_53178 10 = .ok (.aload_n 0, 1) := qd_c (by decide +kernel)
theorem dJ7_fill_53178_11 : decode cJ7_fill_53178 11 = .ok (.iload_n 2, 1) := qd_c (by decide +kernel)
theorem dJ7_fill_53178_12 : decode cJ7_fill_53178 12 = .ok (.iload_n 1, 1) := qd_c (by decide +kernel)
theorem dJ7_fill_53178_13 : decode cJ7_fill_53178 13 = .ok (.iastore, 1) := qd_c (by decide +kernel)
theorem dJ7_fill_53178_14 : decode cJ7_fill_53178 14 = .ok (.iinc 2 1, 3) := qd_c (by decide +kernel)
theorem dJ7_fill_53178_17 : decode cJ7_fill_53178 17 = .ok (.goto (-12), 3) := qd_c (by decide +kernel)
theorem dJ7_fill_53178_20 : decode cJ7_fill_53178 20 = .ok (.return_, 1) := qd_c (by decide +kernel)
set_option maxRecDepth 100000 in
theorem kw_267 : Cond.code yJ7_fill_53178 cJ7_fill_53178 4 none ∈ lw_g := lwq_2 (dqa_m (dqa_m (dqa_m (List.mem_of_getElem? (i := 3) rfl)))) rfl
abbrev fl_Q (dC : Nat → ClassId) (dI : Nat → Nat → Nat) (a : Nat) (cA : ClassId) (n : Nat) (A : Nat → Prop) : Array Value → State → Outcome → State → Prop := va_Qv (fun (_ : Unit) => True) (fun _ t => ∃ g : Nat → Int32, va_P (dC, dI) vwCl [(a, .inl (cA, n, .inl g))] t.heap ∧ va_K (dC, dI) vwCl [(cA, .int)] t ∧ va_D A [(a, .inl (cA, n, .inl g))]) A
set_option maxHeartbeats 4000000 in
set_option maxRecDepth 100000 in
/-- Arrays.fill: the row is written, no other cell -/
theorem ct_J7_fill_53178 (l : Launch) (dC : Nat → ClassId) (dI : Nat → Nat → Nat) (a : Nat) (cA : ClassId) (n : Nat) (f : Nat → Int32) (hn : n < 2 ^ 31) (sz : Nat) (v : Int32) : Met l yJ7_fill_53178 (.code yJ7_fill_53178 cJ7_fill_53178 4 none :: lw_g) ({ frames := 0, cells := 0, slots := 0, locals := 0 }) (ro_P dC dI [(a, .inl (cA, n, .inl f))] [(cA, .int)] sz [.ref a, .int v]) (fl_Q dC dI a cA n (va_A [(a, .inl (cA, n, .inl f))] sz)) 0 0 (va_A [(a, .inl (cA, n, .inl f))] sz) := by
  refine ro_entry (by decide) (Nat.le_of_ble_eq_true rfl) ?_
  intro p e s m below meth c ls hx hb hr hlocks ht hown hin hml hsz hP hK hD hE hl
  subst hsz
  have hD := hD.self (sz := s.heap.size)
  generalize hAe : va_A [(a, .inl (cA, n, .inl f))] s.heap.size = A at hD ⊢
  have hA : ∀ q, s.heap.size ≤ q → A q := fun q h => by rw [← hAe]; exact Or.inr h
  have hS : va_S A s.heap s.heap [] := va_S.rf
  have hl : lv_has ls 4 [(0, .ref a), (1, .int v)] := hl
  have loop : ∀ (k i : Nat), i + k = n → ∀ (f : Nat → Int32) (H : Heap) (locs : List Loc) (ls : Array Slot), va_P (dC, dI) vwCl [(a, .inl (cA, n, .inl f))] H → va_D A [(a, .inl (cA, n, .inl f))] → va_S A s.heap H locs → lv_has ls 4 [(2, .int (nI i)), (3, .int (nI n)), (0, .ref a), (1, .int v)] → W p l e ({ frames := 0, cells := 0, slots := 0, locals := 0 }) s m [Value.ref a, Value.int v].toArray below meth c H locs 0 0 (MQ below (fl_Q dC dI a cA n A) [Value.ref a, Value.int v].toArray s 0 0 A) (F0 m 5 ls []) := by
    intro k
    induction k with
    | zero =>
      intro i hi f H locs ls hP hD hS hl
      refine lv_iload_n hx hb dJ7_fill_53178_5 rfl (lv_at hl 0 rfl) ?_
      refine lv_iload_n hx hb dJ7_fill_53178_6 rfl (lv_at hl 1 rfl) ?_
      refine lv_icmp_ge (tgt := 20) hx hb dJ7_fill_53178_7 (by decide) (fun c1 => ?_) (fun c1 => absurd (nI_le (by omega) (by omega)) c1)
      exact W.vret hx hb hr (fun t ht9 hW => ⟨⟨(), rfl, trivial, f, by rw [ht9]; exact hP, va_K.moved hW.alike hK, hD⟩, hS.F ht9⟩) hS.2.2 dJ7_fill_53178_20
    | succ k ih =>
      intro i hi f H locs ls hP hD hS hl
      refine lv_iload_n hx hb dJ7_fill_53178_5 rfl (lv_at hl 0 rfl) ?_
      refine lv_iload_n hx hb dJ7_fill_53178_6 rfl (lv_at hl 1 rfl) ?_
      refine lv_icmp_ge (tgt := 20) hx hb dJ7_fill_53178_7 (by decide) (fun c1 => absurd c1 (nI_ge (by omega) hn)) (fun c1 => ?_)
      refine lv_aload_n hx hb dJ7_fill_53178_10 rfl (lv_at hl 2 rfl) ?_
      refine lv_iload_n hx hb dJ7_fill_53178_11 rfl (lv_at hl 0 rfl) ?_
      refine lv_iload_n hx hb dJ7_fill_53178_12 rfl (lv_at hl 3 rfl) ?_
      refine va_iast hx hb hK hP hD hS 0 0 rfl rfl (vp_in_nI (by omega) hn) dJ7_fill_53178_13 (fun H locs hP hD hS => ?_)
      generalize upd f (nI i).toNatClampNeg v = g at hP hD
      have hP : va_P (dC, dI) vwCl [(a, .inl (cA, n, .inl g))] H := hP
      have hD : va_D A [(a, .inl (cA, n, .inl g))] := hD
      obtain ⟨x2, ex2⟩ : ∃ y : Int32, y = nI i + 1 := ⟨_, rfl⟩
      refine lv_iinc (v := x2) (lv' := [(2, .int x2), (3, .int (nI n)), (0, .ref a), (1, .int v)]) hx hb dJ7_fill_53178_14 hl (k := 0) rfl (by rw [ex2]; rfl) (by decide) rfl (fun ls hl => ?_)
      have ex2 := ex2.trans (nI_1 i)
      subst ex2
      refine lv_goto (tgt := 5) hx hb dJ7_fill_53178_17 (by decide) ?_
      exact ih (i + 1) (by omega) g H locs ls hP hD hS hl
  refine lv_iconst (v := 0) hx hb dJ7_fill_53178_0 (by decide) ?_
  refine lv_istore_n (lv' := [(2, .int 0), (0, .ref a), (1, .int v)]) hx hb dJ7_fill_53178_1 rfl hl (by decide) rfl (fun ls hl => ?_)
  refine lv_aload_n hx hb dJ7_fill_53178_2 rfl (lv_at hl 1 rfl) ?_
  refine va_alen hx hb hK hP 0 0 rfl rfl (v := nI n) rfl dJ7_fill_53178_3 ?_
  refine lv_istore_n (lv' := [(3, .int (nI n)), (2, .int 0), (0, .ref a), (1, .int v)]) hx hb dJ7_fill_53178_4 rfl hl (by decide) rfl (fun ls hl => ?_)
  exact loop n 0 (Nat.zero_add n) f s.heap [] ls hP hD hS (lv_sub hl [1, 0, 2, 3] rfl)
theorem nf_X1 : ∀ j, j < 16 → defaultValue (tyX1 j) = vp_V [.null, .int 0, .int 0, .int 0, .int 0, .int 0, .int 0, .int 0, .null, .null, .null, .null, .null, .int 0, .null, .null] j := by decide +kernel
theorem nf_X4 : ∀ j, j < 5 → defaultValue (tyX4 j) = vp_V [.null, .null, .null, .int 0, .null] j := by decide +kernel
theorem nf_X5 : ∀ j, j < 10 → defaultValue (tyX5 j) = vp_V [.null, .int 0, .int 0, .int 0, .null, .null, .int 0, .int 0, .int 0, .int 0] j := by decide +kernel
theorem nf_X6 : ∀ j, j < 16 → defaultValue (tyX6 j) = vp_V [.null, .null, .int 0, .null, .int 0, .int 0, .int 0, .null, .null, .null, .null, .null, .int 0, .null, .null, .null] j := by decide +kernel
theorem nf_X7 : ∀ j, j < 14 → defaultValue (tyX7 j) = vp_V [.null, .null, .null, .null, .null, .null, .null, .null, .null, .null, .null, .null, .null, .int 0] j := by decide +kernel
theorem nf_X8 : ∀ j, j < 14 → defaultValue (tyX8 j) = vp_V [.null, .null, .int 0, .int 0, .null, .int 0, .null, .null, .null, .null, .null, .null, .int 0, .int 0] j := by decide +kernel
theorem nf_X9 : ∀ j, j < 16 → defaultValue (tyX9 j) = vp_V [.null, .null, .int 0, .int 0, .null, .null, .int 0, .null, .null, .int 0, .null, .null, .null, .null, .null, .null] j := by decide +kernel
abbrev cX5_init : ByteArray := prog_7_method_1_code
def yX5_init : MethodName := ⟨RX5, "<init>", "()V"⟩
theorem dX5_init_0 : decode cX5_init 0 = .ok (.aload_n 0, 1) := qd_c (by decide +kernel)
theorem dX5_init_1 : decode cX5_init 1 = .ok (.invokespecial 3, 3) := qd_c (by decide +kernel)
theorem kw_27 : Cond.instanceMethod objectInit ∈ lw_g := lwq_1 (dqa_m (dqa_m (dqa_m (List.mem_of_getElem? (i := 3) rfl)))) rfl
theorem kw_28 : Cond.code objectInit ⟨#[0xb1]⟩ 1 none ∈ lw_g := lwq_1 (dqa_m (dqa_m (dqa_m (List.mem_of_getElem? (i := 4) rfl)))) rfl
theorem kw_34 : Cond.methodLink RX5 3 objectInit ∈ lw_g := lwq_1 (dqc_m (List.mem_of_getElem? (i := 2) rfl)) rfl
theorem dX5_init_4 : decode cX5_init 4 = .ok (.aload_n 0, 1) := qd_c (by decide +kernel)
theorem dX5_init_5 : decode cX5_init 5 = .ok (.sipush 400, 3) := qd_c (by decide +kernel)
theorem dX5_init_8 : decode cX5_init 8 = .ok (.newarray .int, 2) := by decide +kernel
theorem kw_72 : Cond.arrayClass .int ∈ lw_g := lwq_1 (dqc_m (dqc_m (dqa_m (List.mem_of_getElem? (i := 0) rfl)))) rfl
theorem dX5_init_10 : decode cX5_init 10 = .ok (.putfield 9, 3) := qd_c (by decide +kernel)
theorem kw_35 : Cond.fieldLink RX5 9 "SportsHouse$RuleText" "bytes" "[I" ∈ lw_g := lwq_1 (dqc_m (List.mem_of_getElem? (i := 3) rfl)) rfl
theorem dX5_init_13 : decode cX5_init 13 = .ok (.aload_n 0, 1) := qd_c (by decide +kernel)
theorem dX5_init_14 : decode cX5_init 14 = .ok (.iconst (-1), 1) := qd_c (by decide +kernel)
theorem dX5_init_15 : decode cX5_init 15 = .ok (.putfield 15, 3) := qd_c (by decide +kernel)
theorem kw_41 : Cond.fieldLink RX5 15 "SportsHouse$RuleText" "faultAt" "I" ∈ lw_g := lwq_1 (dqc_m (dqa_m (List.mem_of_getElem? (i := 1) rfl))) rfl
theorem dX5_init_18 : decode cX5_init 18 = .ok (.aload_n 0, 1) := qd_c (by decide +kernel)
theorem dX5_init_19 : decode cX5_init 19 = .ok (.bipush 16, 2) := qd_c (by decide +kernel)
theorem dX5_init_21 : decode cX5_init 21 = .ok (.newarray .int, 2) := by decide +kernel
theorem dX5_init_23 : decode cX5_init 23 = .ok (.putfield 19, 3) := qd_c (by decide +kernel)
theorem kw_43 : Cond.fieldLink RX5 19 "SportsHouse$RuleText" "values" "[I" ∈ lw_g := lwq_1 (dqc_m (dqa_m (List.mem_of_getElem? (i := 3) rfl))) rfl
theorem dX5_init_26 : decode cX5_init 26 = .ok (.aload_n 0, 1) := qd_c (by decide +kernel)
theorem dX5_init_27 : decode cX5_init 27 = .ok (.bipush 7, 2) := qd_c (by decide +kernel)
theorem dX5_init_29 : decode cX5_init 29 = .ok (.newarray .int, 2) := by decide +kernel
theorem dX5_init_31 : decode cX5_init 31 = .ok (.putfield 22, 3) := qd_c (by decide +kernel)
theorem kw_45 : Cond.fieldLink RX5 22 "SportsHouse$RuleText" "keys" "[I" ∈ lw_g := lwq_1 (dqc_m (dqa_m (List.mem_of_getElem? (i := 5) rfl))) rfl
theorem dX5_init_34 : decode cX5_init 34 = .ok (.return_, 1) := qd_c (by decide +kernel)
set_option maxHeartbeats 4000000 in
set_option maxRecDepth 100000 in
theorem ct_X5_init (l : Launch) (dC : Nat → ClassId) (dI : Nat → Nat → Nat) (h0 : Nat) (sz : Nat)  : Met l yX5_init (.code yX5_init cX5_init 1 none :: lw_g) ({ frames := 1, cells := 3, slots := 423, locals := 60 }) (ro_P dC dI [(h0, .inr (5, [.null, .int 0, .int 0, .int 0, .null, .null, .int 0, .int 0, .int 0, .int 0]))] [] sz [.ref h0]) (va_Qv (fun (_ : Unit) => True) (fun _ t => ∃ (q1 : Nat) (q3 : Nat) (q5 : Nat) (k2 : ClassId) (k4 : ClassId) (k6 : ClassId), va_P (dC, dI) vwCl [(h0, .inr (5, [.ref q1, .int 0, .int 0, .int (-1), .ref q3, .ref q5, .int 0, .int 0, .int 0, .int 0])), (q1, .inl (k2, 400, .inl (fun _ => 0))), (q3, .inl (k4, 16, .inl (fun _ => 0))), (q5, .inl (k6, 7, .inl (fun _ => 0)))] t.heap ∧ va_K (dC, dI) vwCl [(k2, .int), (k4, .int), (k6, .int)] t ∧ va_D (va_A [(h0, .inr (5, [.null, .int 0, .int 0, .int 0, .null, .null, .int 0, .int 0, .int 0, .int 0]))] sz) [(h0, .inr (5, [.ref q1, .int 0, .int 0, .int (-1), .ref q3, .ref q5, .int 0, .int 0, .int 0, .int 0])), (q1, .inl (k2, 400, .inl (fun _ => 0))), (q3, .inl (k4, 16, .inl (fun _ => 0))), (q5, .inl (k6, 7, .inl (fun _ => 0)))]) (va_A [(h0, .inr (5, [.null, .int 0, .int 0, .int 0, .null, .null, .int 0, .int 0, .int 0, .int 0]))] sz)) 3 423 (va_A [(h0, .inr (5, [.null, .int 0, .int 0, .int 0, .null, .null, .int 0, .int 0, .int 0, .int 0]))] sz) := by
  refine ro_entry (by decide) (Nat.le_of_ble_eq_true rfl) ?_
  intro p e s m below meth c ls hx hb hr hlocks ht hown hin hml hsz hP hK hD hE hl
  subst hsz
  have hD := hD.self (sz := s.heap.size)
  generalize hAe : va_A [(h0, .inr (5, [.null, .int 0, .int 0, .int 0, .null, .null, .int 0, .int 0, .int 0, .int 0]))] s.heap.size = A at hD ⊢
  have hA : ∀ q, s.heap.size ≤ q → A q := fun q h => by rw [← hAe]; exact Or.inr h
  have hS : va_S A s.heap s.heap [] := va_S.rf
  have hl : lv_has ls 1 [(0, .ref h0)] := hl
  have hown : s.vm.findClass RX5 = some m.cls := hown
  refine lv_aload_n hx hb dX5_init_0 rfl (lv_at hl 0 rfl) ?_
  refine W.objInit hx hb hown (ht _ kw_34) (ht _ kw_27) (ht _ kw_28) rfl (by rw [hml]; exact hl.1) rfl dX5_init_1 (Nat.le_of_ble_eq_true rfl) (Nat.le_of_ble_eq_true rfl) ?_
  refine W.eq (g2 := F0 m 4 ls []) rfl ?_
  refine lv_aload_n hx hb dX5_init_4 rfl (lv_at hl 0 rfl) ?_
  refine lv_sipush (v := 400) hx hb dX5_init_5 (by decide) ?_
  refine va_newa (atype := .int) (ty := .int) (a0 := (400, .inl (fun _ => 0))) hx hb (ht _ kw_72) rfl hK hP hD hS hA (fun _ => rfl) (by decide) (by decide) (Nat.le_of_ble_eq_true rfl) (Nat.le_of_ble_eq_true rfl) (Nat.le_of_ble_eq_true rfl) dX5_init_8 (fun q1 k2 H hK hP hD hS => ?_)
  have hP : va_P (dC, dI) vwCl [(h0, .inr (5, [.null, .int 0, .int 0, .int 0, .null, .null, .int 0, .int 0, .int 0, .int 0])), (q1, .inl (k2, 400, .inl (fun _ => 0)))] H := hP
  have hD : va_D A [(h0, .inr (5, [.null, .int 0, .int 0, .int 0, .null, .null, .int 0, .int 0, .int 0, .int 0])), (q1, .inl (k2, 400, .inl (fun _ => 0)))] := hD
  have hK : va_K (dC, dI) vwCl [(k2, .int)] s := hK
  refine W.widen (k := 1) (n := 400) (Nat.le_of_ble_eq_true rfl) (Nat.le_of_ble_eq_true rfl) ?_
  refine va_putF (D := (dC, dI)) (ci := 5) (v := .ref q1) (ty := .array .int) (C := RX5) (T := TX5) (N := 10) hx hb ht inX5 tyX5 tyX5_ok nmX5 hown hK hP hD hS 0 rfl rfl 0 (by decide) (ht _ kw_35) (fun _ h9 => h9) rfl hin rfl (by decide +kernel) rfl rfl (Nat.le_of_ble_eq_true rfl) dX5_init_10 (fun H locs hP hD hS => ?_)
  have hP : va_P (dC, dI) vwCl [(h0, .inr (5, [.ref q1, .int 0, .int 0, .int 0, .null, .null, .int 0, .int 0, .int 0, .int 0])), (q1, .inl (k2, 400, .inl (fun _ => 0)))] H := hP
  have hD : va_D A [(h0, .inr (5, [.ref q1, .int 0, .int 0, .int 0, .null, .null, .int 0, .int 0, .int 0, .int 0])), (q1, .inl (k2, 400, .inl (fun _ => 0)))] := hD
  refine lv_aload_n hx hb dX5_init_13 rfl (lv_at hl 0 rfl) ?_
  refine lv_iconst (v := (-1)) hx hb dX5_init_14 (by decide) ?_
  refine va_put (D := (dC, dI)) (ci := 5) (v := .int (-1)) (ty := .int) (C := RX5) (T := TX5) (N := 10) hx hb ht inX5 tyX5 tyX5_ok nmX5 hown hK hP hD hS 0 rfl rfl 3 (by decide) (ht _ kw_41) (fun _ h9 => h9) rfl (by decide +kernel) rfl rfl (Nat.le_of_ble_eq_true rfl) dX5_init_15 (fun H locs hP hD hS => ?_)
  have hP : va_P (dC, dI) vwCl [(h0, .inr (5, [.ref q1, .int 0, .int 0, .int (-1), .null, .null, .int 0, .int 0, .int 0, .int 0])), (q1, .inl (k2, 400, .inl (fun _ => 0)))] H := hP
  have hD : va_D A [(h0, .inr (5, [.ref q1, .int 0, .int 0, .int (-1), .null, .null, .int 0, .int 0, .int 0, .int 0])), (q1, .inl (k2, 400, .inl (fun _ => 0)))] := hD
  refine lv_aload_n hx hb dX5_init_18 rfl (lv_at hl 0 rfl) ?_
  refine lv_bipush (v := 16) hx hb dX5_init_19 (by decide) ?_
  refine va_newa (atype := .int) (ty := .int) (a0 := (16, .inl (fun _ => 0))) hx hb (ht _ kw_72) rfl hK hP hD hS hA (fun _ => rfl) (by decide) (by decide) (Nat.le_of_ble_eq_true rfl) (Nat.le_of_ble_eq_true rfl) (Nat.le_of_ble_eq_true rfl) dX5_init_21 (fun q3 k4 H hK hP hD hS => ?_)
  have hP : va_P (dC, dI) vwCl [(h0, .inr (5, [.ref q1, .int 0, .int 0, .int (-1), .null, .null, .int 0, .int 0, .int 0, .int 0])), (q1, .inl (k2, 400, .inl (fun _ => 0))), (q3, .inl (k4, 16, .inl (fun _ => 0)))] H := hP
  have hD : va_D A [(h0, .inr (5, [.ref q1, .int 0, .int 0, .int (-1), .null, .null, .int 0, .int 0, .int 0, .int 0])), (q1, .inl (k2, 400, .inl (fun _ => 0))), (q3, .inl (k4, 16, .inl (fun _ => 0)))] := hD
  have hK : va_K (dC, dI) vwCl [(k2, .int), (k4, .int)] s := hK
  refine W.widen (k := 2) (n := 416) (Nat.le_of_ble_eq_true rfl) (Nat.le_of_ble_eq_true rfl) ?_
  refine va_putF (D := (dC, dI)) (ci := 5) (v := .ref q3) (ty := .array .int) (C := RX5) (T := TX5) (N := 10) hx hb ht inX5 tyX5 tyX5_ok nmX5 hown hK hP hD hS 0 rfl rfl 4 (by decide) (ht _ kw_43) (fun _ h9 => h9) rfl hin rfl (by decide +kernel) rfl rfl (Nat.le_of_ble_eq_true rfl) dX5_init_23 (fun H locs hP hD hS => ?_)
  have hP : va_P (dC, dI) vwCl [(h0, .inr (5, [.ref q1, .int 0, .int 0, .int (-1), .ref q3, .null, .int 0, .int 0, .int 0, .int 0])), (q1, .inl (k2, 400, .inl (fun _ => 0))), (q3, .inl (k4, 16, .inl (fun _ => 0)))] H := hP
  have hD : va_D A [(h0, .inr (5, [.ref q1, .int 0, .int 0, .int (-1), .ref q3, .null, .int 0, .int 0, .int 0, .int 0])), (q1, .inl (k2, 400, .inl (fun _ => 0))), (q3, .inl (k4, 16, .inl (fun _ => 0)))] := hD
  refine lv_aload_n hx hb dX5_init_26 rfl (lv_at hl 0 rfl) ?_
  refine lv_bipush (v := 7) hx hb dX5_init_27 (by decide) ?_
  refine va_newa (atype := .int) (ty := .int) (a0 := (7, .inl (fun _ => 0))) hx hb (ht _ kw_72) rfl hK hP hD hS hA (fun _ => rfl) (by decide) (by decide) (Nat.le_of_ble_eq_true rfl) (Nat.le_of_ble_eq_true rfl) (Nat.le_of_ble_eq_true rfl) dX5_init_29 (fun q5 k6 H hK hP hD hS => ?_)
  have hP : va_P (dC, dI) vwCl [(h0, .inr (5, [.ref q1, .int 0, .int 0, .int (-1), .ref q3, .null, .int 0, .int 0, .int 0, .int 0])), (q1, .inl (k2, 400, .inl (fun _ => 0))), (q3, .inl (k4, 16, .inl (fun _ => 0))), (q5, .inl (k6, 7, .inl (fun _ => 0)))] H := hP
  have hD : va_D A [(h0, .inr (5, [.ref q1, .int 0, .int 0, .int (-1), .ref q3, .null, .int 0, .int 0, .int 0, .int 0])), (q1, .inl (k2, 400, .inl (fun _ => 0))), (q3, .inl (k4, 16, .inl (fun _ => 0))), (q5, .inl (k6, 7, .inl (fun _ => 0)))] := hD
  have hK : va_K (dC, dI) vwCl [(k2, .int), (k4, .int), (k6, .int)] s := hK
  refine W.widen (k := 3) (n := 423) (Nat.le_of_ble_eq_true rfl) (Nat.le_of_ble_eq_true rfl) ?_
  refine va_putF (D := (dC, dI)) (ci := 5) (v := .ref q5) (ty := .array .int) (C := RX5) (T := TX5) (N := 10) hx hb ht inX5 tyX5 tyX5_ok nmX5 hown hK hP hD hS 0 rfl rfl 5 (by decide) (ht _ kw_45) (fun _ h9 => h9) rfl hin rfl (by decide +kernel) rfl rfl (Nat.le_of_ble_eq_true rfl) dX5_init_31 (fun H locs hP hD hS => ?_)
  have hP : va_P (dC, dI) vwCl [(h0, .inr (5, [.ref q1, .int 0, .int 0, .int (-1), .ref q3, .ref q5, .int 0, .int 0, .int 0, .int 0])), (q1, .inl (k2, 400, .inl (fun _ => 0))), (q3, .inl (k4, 16, .inl (fun _ => 0))), (q5, .inl (k6, 7, .inl (fun _ => 0)))] H := hP
  have hD : va_D A [(h0, .inr (5, [.ref q1, .int 0, .int 0, .int (-1), .ref q3, .ref q5, .int 0, .int 0, .int 0, .int 0])), (q1, .inl (k2, 400, .inl (fun _ => 0))), (q3, .inl (k4, 16, .inl (fun _ => 0))), (q5, .inl (k6, 7, .inl (fun _ => 0)))] := hD
  exact W.vret hx hb hr (fun t ht9 hW => ⟨⟨(), rfl, trivial, q1, q3, q5, k2, k4, k6, by rw [ht9]; exact hP, va_K.moved hW.alike hK, hD⟩, hS.F ht9⟩) hS.2.2 dX5_init_34
abbrev cX8_init : ByteArray := prog_10_method_1_code
def yX8_init : MethodName := ⟨RX8, "<init>", "()V"⟩
theorem dX8_init_0 : decode cX8_init 0 = .ok (.aload_n 0, 1) := qd_c (by decide +kernel)
theorem dX8_init_1 : decode cX8_init 1 = .ok (.invokespecial 3, 3) := qd_c (by decide +kernel)
theorem kw_78 : Cond.methodLink RX8 3 objectInit ∈ lw_g := lwq_1 (dqc_m (dqc_m (dqa_m (List.mem_of_getElem? (i := 6) rfl)))) rfl
theorem dX8_init_4 : decode cX8_init 4 = .ok (.aload_n 0, 1) := qd_c (by decide +kernel)
theorem dX8_init_5 : decode cX8_init 5 = .ok (.bipush 12, 2) := qd_c (by decide +kernel)
theorem dX8_init_7 : decode cX8_init 7 = .ok (.newarray .int, 2) := by decide +kernel
theorem dX8_init_9 : decode cX8_init 9 = .ok (.putfield 9, 3) := qd_c (by decide +kernel)
theorem kw_79 : Cond.fieldLink RX8 9 "SportsHouse$Things" "stadium" "[I" ∈ lw_g := lwq_1 (dqc_m (dqc_m (dqa_m (List.mem_of_getElem? (i := 7) rfl)))) rfl
theorem dX8_init_12 : decode cX8_init 12 = .ok (.aload_n 0, 1) := qd_c (by decide +kernel)
theorem dX8_init_13 : decode cX8_init 13 = .ok (.bipush 12, 2) := qd_c (by decide +kernel)
theorem dX8_init_15 : decode cX8_init 15 = .ok (.newarray .int, 2) := by decide +kernel
theorem dX8_init_17 : decode cX8_init 17 = .ok (.putfield 15, 3) := qd_c (by decide +kernel)
theorem kw_83 : Cond.fieldLink RX8 15 "SportsHouse$Things" "country" "[I" ∈ lw_g := lwq_1 (dqc_m (dqc_m (dqa_m (dqa_m (List.mem_of_getElem? (i := 3) rfl))))) rfl
theorem dX8_init_20 : decode cX8_init 20 = .ok (.aload_n 0, 1) := qd_c (by decide +kernel)
theorem dX8_init_21 : decode cX8_init 21 = .ok (.sipush 200, 3) := qd_c (by decide +kernel)
theorem dX8_init_24 : decode cX8_init 24 = .ok (.newarray .int, 2) := by decide +kernel
theorem dX8_init_26 : decode cX8_init 26 = .ok (.putfield 18, 3) := qd_c (by decide +kernel)
theorem kw_89 : Cond.fieldLink RX8 18 "SportsHouse$Things" "firstSpan" "[I" ∈ lw_g := lwq_1 (dqc_m (dqc_m (dqa_m (dqa_m (dqa_m (List.mem_of_getElem? (i := 1) rfl)))))) rfl
theorem dX8_init_29 : decode cX8_init 29 = .ok (.aload_n 0, 1) := qd_c (by decide +kernel)
theorem dX8_init_30 : decode cX8_init 30 = .ok (.sipush 300, 3) := qd_c (by decide +kernel)
theorem dX8_init_33 : decode cX8_init 33 = .ok (.newarray .int, 2) := by decide +kernel
theorem dX8_init_35 : decode cX8_init 35 = .ok (.putfield 21, 3) := qd_c (by decide +kernel)
theorem kw_93 : Cond.fieldLink RX8 21 "SportsHouse$Things" "spanClub" "[I" ∈ lw_g := lwq_1 (dqc_m (dqc_m (dqa_m (dqa_m (dqa_m (List.mem_of_getElem? (i := 5) rfl)))))) rfl
theorem dX8_init_38 : decode cX8_init 38 = .ok (.aload_n 0, 1) := qd_c (by decide +kernel)
theorem dX8_init_39 : decode cX8_init 39 = .ok (.sipush 300, 3) := qd_c (by decide +kernel)
theorem dX8_init_42 : decode cX8_init 42 = .ok (.newarray .int, 2) := by decide +kernel
theorem dX8_init_44 : decode cX8_init 44 = .ok (.putfield 24, 3) := qd_c (by decide +kernel)
theorem kw_94 : Cond.fieldLink RX8 24 "SportsHouse$Things" "spanFrom" "[I" ∈ lw_g := lwq_1 (dqc_m (dqc_m (dqa_m (dqa_m (dqa_m (List.mem_of_getElem? (i := 6) rfl)))))) rfl
theorem dX8_init_47 : decode cX8_init 47 = .ok (.aload_n 0, 1) := qd_c (by decide +kernel)
theorem dX8_init_48 : decode cX8_init 48 = .ok (.sipush 300, 3) := qd_c (by decide +kernel)
theorem dX8_init_51 : decode cX8_init 51 = .ok (.newarray .int, 2) := by decide +kernel
theorem dX8_init_53 : decode cX8_init 53 = .ok (.putfield 27, 3) := qd_c (by decide +kernel)
theorem kw_95 : Cond.fieldLink RX8 27 "SportsHouse$Things" "spanTo" "[I" ∈ lw_g := lwq_1 (dqc_m (dqc_m (dqa_m (dqa_m (dqa_m (List.mem_of_getElem? (i := 7) rfl)))))) rfl
theorem dX8_init_56 : decode cX8_init 56 = .ok (.aload_n 0, 1) := qd_c (by decide +kernel)
theorem dX8_init_57 : decode cX8_init 57 = .ok (.sipush 300, 3) := qd_c (by decide +kernel)
theorem dX8_init_60 : decode cX8_init 60 = .ok (.newarray .int, 2) := by decide +kernel
theorem dX8_init_62 : decode cX8_init 62 = .ok (.putfield 30, 3) := qd_c (by decide +kernel)
theorem kw_96 : Cond.fieldLink RX8 30 "SportsHouse$Things" "nextSpan" "[I" ∈ lw_g := lwq_1 (dqc_m (dqc_m (dqc_m (List.mem_of_getElem? (i := 0) rfl)))) rfl
theorem dX8_init_65 : decode cX8_init 65 = .ok (.aload_n 0, 1) := qd_c (by decide +kernel)
theorem dX8_init_66 : decode cX8_init 66 = .ok (.bipush 8, 2) := qd_c (by decide +kernel)
theorem dX8_init_68 : decode cX8_init 68 = .ok (.newarray .int, 2) := by decide +kernel
theorem dX8_init_70 : decode cX8_init 70 = .ok (.putfield 33, 3) := qd_c (by decide +kernel)
theorem kw_97 : Cond.fieldLink RX8 33 "SportsHouse$Things" "officialHome" "[I" ∈ lw_g := lwq_1 (dqc_m (dqc_m (dqc_m (List.mem_of_getElem? (i := 1) rfl)))) rfl
theorem dX8_init_73 : decode cX8_init 73 = .ok (.aload_n 0, 1) := qd_c (by decide +kernel)
theorem dX8_init_74 : decode cX8_init 74 = .ok (.bipush 8, 2) := qd_c (by decide +kernel)
theorem dX8_init_76 : decode cX8_init 76 = .ok (.newarray .int, 2) := by decide +kernel
theorem dX8_init_78 : decode cX8_init 78 = .ok (.putfield 36, 3) := qd_c (by decide +kernel)
theorem kw_100 : Cond.fieldLink RX8 36 "SportsHouse$Things" "officialCountry" "[I" ∈ lw_g := lwq_1 (dqc_m (dqc_m (dqc_m (List.mem_of_getElem? (i := 4) rfl)))) rfl
theorem dX8_init_81 : decode cX8_init 81 = .ok (.return_, 1) := qd_c (by decide +kernel)
set_option maxHeartbeats 4000000 in
set_option maxRecDepth 100000 in
theorem ct_X8_init (l : Launch) (dC : Nat → ClassId) (dI : Nat → Nat → Nat) (h0 : Nat) (sz : Nat)  : Met l yX8_init (.code yX8_init cX8_init 1 none :: lw_g) ({ frames := 1, cells := 9, slots := 1440, locals := 60 }) (ro_P dC dI [(h0, .inr (8, [.null, .null, .int 0, .int 0, .null, .int 0, .null, .null, .null, .null, .null, .null, .int 0, .int 0]))] [] sz [.ref h0]) (va_Qv (fun (_ : Unit) => True) (fun _ t => ∃ (q1 : Nat) (q3 : Nat) (q5 : Nat) (q7 : Nat) (q9 : Nat) (q11 : Nat) (q13 : Nat) (q15 : Nat) (q17 : Nat) (k2 : ClassId) (k4 : ClassId) (k6 : ClassId) (k8 : ClassId) (k10 : ClassId) (k12 : ClassId) (k14 : ClassId) (k16 : ClassId) (k18 : ClassId), va_P (dC, dI) vwCl [(h0, .inr (8, [.ref q1, .ref q3, .int 0, .int 0, .ref q5, .int 0, .ref q7, .ref q9, .ref q11, .ref q13, .ref q15, .ref q17, .int 0, .int 0])), (q1, .inl (k2, 12, .inl (fun _ => 0))), (q3, .inl (k4, 12, .inl (fun _ => 0))), (q5, .inl (k6, 200, .inl (fun _ => 0))), (q7, .inl (k8, 300, .inl (fun _ => 0))), (q9, .inl (k10, 300, .inl (fun _ => 0))), (q11, .inl (k12, 300, .inl (fun _ => 0))), (q13, .inl (k14, 300, .inl (fun _ => 0))), (q15, .inl (k16, 8, .inl (fun _ => 0))), (q17, .inl (k18, 8, .inl (fun _ => 0)))] t.heap ∧ va_K (dC, dI) vwCl [(k2, .int), (k4, .int), (k6, .int), (k8, .int), (k10, .int), (k12, .int), (k14, .int), (k16, .int), (k18, .int)] t ∧ va_D (va_A [(h0, .inr (8, [.null, .null, .int 0, .int 0, .null, .int 0, .null, .null, .null, .null, .null, .null, .int 0, .int 0]))] sz) [(h0, .inr (8, [.ref q1, .ref q3, .int 0, .int 0, .ref q5, .int 0, .ref q7, .ref q9, .ref q11, .ref q13, .ref q15, .ref q17, .int 0, .int 0])), (q1, .inl (k2, 12, .inl (fun _ => 0))), (q3, .inl (k4, 12, .inl (fun _ => 0))), (q5, .inl (k6, 200, .inl (fun _ => 0))), (q7, .inl (k8, 300, .inl (fun _ => 0))), (q9, .inl (k10, 300, .inl (fun _ => 0))), (q11, .inl (k12, 300, .inl (fun _ => 0))), (q13, .inl (k14, 300, .inl (fun _ => 0))), (q15, .inl (k16, 8, .inl (fun _ => 0))), (q17, .inl (k18, 8, .inl (fun _ => 0)))]) (va_A [(h0, .inr (8, [.null, .null, .int 0, .int 0, .null, .int 0, .null, .null, .null, .null, .null, .null, .int 0, .int 0]))] sz)) 9 1440 (va_A [(h0, .inr (8, [.null, .null, .int 0, .int 0, .null, .int 0, .null, .null, .null, .null, .null, .null, .int 0, .int 0]))] sz) := by
  refine ro_entry (by decide) (Nat.le_of_ble_eq_true rfl) ?_
  intro p e s m below meth c ls hx hb hr hlocks ht hown hin hml hsz hP hK hD hE hl
  subst hsz
  have hD := hD.self (sz := s.heap.size)
  generalize hAe : va_A [(h0, .inr (8, [.null, .null, .int 0, .int 0, .null, .int 0, .null, .null, .null, .null, .null, .null, .int 0, .int 0]))] s.heap.size = A at hD ⊢
  have hA : ∀ q, s.heap.size ≤ q → A q := fun q h => by rw [← hAe]; exact Or.inr h
  have hS : va_S A s.heap s.heap [] := va_S.rf
  have hl : lv_has ls 1 [(0, .ref h0)] := hl
  have hown : s.vm.findClass RX8 = some m.cls := hown
  refine lv_aload_n hx hb dX8_init_0 rfl (lv_at hl 0 rfl) ?_
  refine W.objInit hx hb hown (ht _ kw_78) (ht _ kw_27) (ht _ kw_28) rfl (by rw [hml]; exact hl.1) rfl dX8_init_1 (Nat.le_of_ble_eq_true rfl) (Nat.le_of_ble_eq_true rfl) ?_
  refine W.eq (g2 := F0 m 4 ls []) rfl ?_
  refine lv_aload_n hx hb dX8_init_4 rfl (lv_at hl 0 rfl) ?_
  refine lv_bipush (v := 12) hx hb dX8_init_5 (by decide) ?_
  refine va_newa (atype := .int) (ty := .int) (a0 := (12, .inl (fun _ => 0))) hx hb (ht _ kw_72) rfl hK hP hD hS hA (fun _ => rfl) (by decide) (by decide) (Nat.le_of_ble_eq_true rfl) (Nat.le_of_ble_eq_true rfl) (Nat.le_of_ble_eq_true rfl) dX8_init_7 (fun q1 k2 H hK hP hD hS => ?_)
  have hP : va_P (dC, dI) vwCl [(h0, .inr (8, [.null, .null, .int 0, .int 0, .null, .int 0, .null, .null, .null, .null, .null, .null, .int 0, .int 0])), (q1, .inl (k2, 12, .inl (fun _ => 0)))] H := hP
  have hD : va_D A [(h0, .inr (8, [.null, .null, .int 0, .int 0, .null, .int 0, .null, .null, .null, .null, .null, .null, .int 0, .int 0])), (q1, .inl (k2, 12, .inl (fun _ => 0)))] := hD
  have hK : va_K (dC, dI) vwCl [(k2, .int)] s := hK
  refine W.widen (k := 1) (n := 12) (Nat.le_of_ble_eq_true rfl) (Nat.le_of_ble_eq_true rfl) ?_
  refine va_putF (D := (dC, dI)) (ci := 8) (v := .ref q1) (ty := .array .int) (C := RX8) (T := TX8) (N := 14) hx hb ht inX8 tyX8 tyX8_ok nmX8 hown hK hP hD hS 0 rfl rfl 0 (by decide) (ht _ kw_79) (fun _ h9 => h9) rfl hin rfl (by decide +kernel) rfl rfl (Nat.le_of_ble_eq_true rfl) dX8_init_9 (fun H locs hP hD hS => ?_)
  have hP : va_P (dC, dI) vwCl [(h0, .inr (8, [.ref q1, .null, .int 0, .int 0, .null, .int 0, .null, .null, .null, .null, .null, .null, .int 0, .int 0])), (q1, .inl (k2, 12, .inl (fun _ => 0)))] H := hP
  have hD : va_D A [(h0, .inr (8, [.ref q1, .null, .int 0, .int 0, .null, .int 0, .null, .null, .null, .null, .null, .null, .int 0, .int 0])), (q1, .inl (k2, 12, .inl (fun _ => 0)))] := hD
  refine lv_aload_n hx hb dX8_init_12 rfl (lv_at hl 0 rfl) ?_
  refine lv_bipush (v := 12) hx hb dX8_init_13 (by decide) ?_
  refine va_newa (atype := .int) (ty := .int) (a0 := (12, .inl (fun _ => 0))) hx hb (ht _ kw_72) rfl hK hP hD hS hA (fun _ => rfl) (by decide) (by decide) (Nat.le_of_ble_eq_true rfl) (Nat.le_of_ble_eq_true rfl) (Nat.le_of_ble_eq_true rfl) dX8_init_15 (fun q3 k4 H hK hP hD hS => ?_)
  have hP : va_P (dC, dI) vwCl [(h0, .inr (8, [.ref q1, .null, .int 0, .int 0, .null, .int 0, .null, .null, .null, .null, .null, .null, .int 0, .int 0])), (q1, .inl (k2, 12, .inl (fun _ => 0))), (q3, .inl (k4, 12, .inl (fun _ => 0)))] H := hP
  have hD : va_D A [(h0, .inr (8, [.ref q1, .null, .int 0, .int 0, .null, .int 0, .null, .null, .null, .null, .null, .null, .int 0, .int 0])), (q1, .inl (k2, 12, .inl (fun _ => 0))), (q3, .inl (k4, 12, .inl (fun _ => 0)))] := hD
  have hK : va_K (dC, dI) vwCl [(k2, .int), (k4, .int)] s := hK
  refine W.widen (k := 2) (n := 24) (Nat.le_of_ble_eq_true rfl) (Nat.le_of_ble_eq_true rfl) ?_
  refine va_putF (D := (dC, dI)) (ci := 8) (v := .ref q3) (ty := .array .int) (C := RX8) (T := TX8) (N := 14) hx hb ht inX8 tyX8 tyX8_ok nmX8 hown hK hP hD hS 0 rfl rfl 1 (by decide) (ht _ kw_83) (fun _ h9 => h9) rfl hin rfl (by decide +kernel) rfl rfl (Nat.le_of_ble_eq_true rfl) dX8_init_17 (fun H locs hP hD hS => ?_)
  have hP : va_P (dC, dI) vwCl [(h0, .inr (8, [.ref q1, .ref q3, .int 0, .int 0, .null, .int 0, .null, .null, .null, .null, .null, .null, .int 0, .int 0])), (q1, .inl (k2, 12, .inl (fun _ => 0))), (q3, .inl (k4, 12, .inl (fun _ => 0)))] H := hP
  have hD : va_D A [(h0, .inr (8, [.ref q1, .ref q3, .int 0, .int 0, .null, .int 0, .null, .null, .null, .null, .null, .null, .int 0, .int 0])), (q1, .inl (k2, 12, .inl (fun _ => 0))), (q3, .inl (k4, 12, .inl (fun _ => 0)))] := hD
  refine lv_aload_n hx hb dX8_init_20 rfl (lv_at hl 0 rfl) ?_
  refine lv_sipush (v := 200) hx hb dX8_init_21 (by decide) ?_
  refine va_newa (atype := .int) (ty := .int) (a0 := (200, .inl (fun _ => 0))) hx hb (ht _ kw_72) rfl hK hP hD hS hA (fun _ => rfl) (by decide) (by decide) (Nat.le_of_ble_eq_true rfl) (Nat.le_of_ble_eq_true rfl) (Nat.le_of_ble_eq_true rfl) dX8_init_24 (fun q5 k6 H hK hP hD hS => ?_)
  have hP : va_P (dC, dI) vwCl [(h0, .inr (8, [.ref q1, .ref q3, .int 0, .int 0, .null, .int 0, .null, .null, .null, .null, .null, .null, .int 0, .int 0])), (q1, .inl (k2, 12, .inl (fun _ => 0))), (q3, .inl (k4, 12, .inl (fun _ => 0))), (q5, .inl (k6, 200, .inl (fun _ => 0)))] H := hP
  have hD : va_D A [(h0, .inr (8, [.ref q1, .ref q3, .int 0, .int 0, .null, .int 0, .null, .null, .null, .null, .null, .null, .int 0, .int 0])), (q1, .inl (k2, 12, .inl (fun _ => 0))), (q3, .inl (k4, 12, .inl (fun _ => 0))), (q5, .inl (k6, 200, .inl (fun _ => 0)))] := hD
  have hK : va_K (dC, dI) vwCl [(k2, .int), (k4, .int), (k6, .int)] s := hK
  refine W.widen (k := 3) (n := 224) (Nat.le_of_ble_eq_true rfl) (Nat.le_of_ble_eq_true rfl) ?_
  refine va_putF (D := (dC, dI)) (ci := 8) (v := .ref q5) (ty := .array .int) (C := RX8) (T := TX8) (N := 14) hx hb ht inX8 tyX8 tyX8_ok nmX8 hown hK hP hD hS 0 rfl rfl 4 (by decide) (ht _ kw_89) (fun _ h9 => h9) rfl hin rfl (by decide +kernel) rfl rfl (Nat.le_of_ble_eq_true rfl) dX8_init_26 (fun H locs hP hD hS => ?_)
  have hP : va_P (dC, dI) vwCl [(h0, .inr (8, [.ref q1, .ref q3, .int 0, .int 0, .ref q5, .int 0, .null, .null, .null, .null, .null, .null, .int 0, .int 0])), (q1, .inl (k2, 12, .inl (fun _ => 0))), (q3, .inl (k4, 12, .inl (fun _ => 0))), (q5, .inl (k6, 200, .inl (fun _ => 0)))] H := hP
  have hD : va_D A [(h0, .inr (8, [.ref q1, .ref q3, .int 0, .int 0, .ref q5, .int 0, .null, .null, .null, .null, .null, .null, .int 0, .int 0])), (q1, .inl (k2, 12, .inl (fun _ => 0))), (q3, .inl (k4, 12, .inl (fun _ => 0))), (q5, .inl (k6, 200, .inl (fun _ => 0)))] := hD
  refine lv_aload_n hx hb dX8_init_29 rfl (lv_at hl 0 rfl) ?_
  refine lv_sipush (v := 300) hx hb dX8_init_30 (by decide) ?_
  refine va_newa (atype := .int) (ty := .int) (a0 := (300, .inl (fun _ => 0))) hx hb (ht _ kw_72) rfl hK hP hD hS hA (fun _ => rfl) (by decide) (by decide) (Nat.le_of_ble_eq_true rfl) (Nat.le_of_ble_eq_true rfl) (Nat.le_of_ble_eq_true rfl) dX8_init_33 (fun q7 k8 H hK hP hD hS => ?_)
  have hP : va_P (dC, dI) vwCl [(h0, .inr (8, [.ref q1, .ref q3, .int 0, .int 0, .ref q5, .int 0, .null, .null, .null, .null, .null, .null, .int 0, .int 0])), (q1, .inl (k2, 12, .inl (fun _ => 0))), (q3, .inl (k4, 12, .inl (fun _ => 0))), (q5, .inl (k6, 200, .inl (fun _ => 0))), (q7, .inl (k8, 300, .inl (fun _ => 0)))] H := hP
  have hD : va_D A [(h0, .inr (8, [.ref q1, .ref q3, .int 0, .int 0, .ref q5, .int 0, .null, .null, .null, .null, .null, .null, .int 0, .int 0])), (q1, .inl (k2, 12, .inl (fun _ => 0))), (q3, .inl (k4, 12, .inl (fun _ => 0))), (q5, .inl (k6, 200, .inl (fun _ => 0))), (q7, .inl (k8, 300, .inl (fun _ => 0)))] := hD
  have hK : va_K (dC, dI) vwCl [(k2, .int), (k4, .int), (k6, .int), (k8, .int)] s := hK
  refine W.widen (k := 4) (n := 524) (Nat.le_of_ble_eq_true rfl) (Nat.le_of_ble_eq_true rfl) ?_
  refine va_putF (D := (dC, dI)) (ci := 8) (v := .ref q7) (ty := .array .int) (C := RX8) (T := TX8) (N := 14) hx hb ht inX8 tyX8 tyX8_ok nmX8 hown hK hP hD hS 0 rfl rfl 6 (by decide) (ht _ kw_93) (fun _ h9 => h9) rfl hin rfl (by decide +kernel) rfl rfl (Nat.le_of_ble_eq_true rfl) dX8_init_35 (fun H locs hP hD hS => ?_)
  have hP : va_P (dC, dI) vwCl [(h0, .inr (8, [.ref q1, .ref q3, .int 0, .int 0, .ref q5, .int 0, .ref q7, .null, .null, .null, .null, .null, .int 0, .int 0])), (q1, .inl (k2, 12, .inl (fun _ => 0))), (q3, .inl (k4, 12, .inl (fun _ => 0))), (q5, .inl (k6, 200, .inl (fun _ => 0))), (q7, .inl (k8, 300, .inl (fun _ => 0)))] H := hP
  have hD : va_D A [(h0, .inr (8, [.ref q1, .ref q3, .int 0, .int 0, .ref q5, .int 0, .ref q7, .null, .null, .null, .null, .null, .int 0, .int 0])), (q1, .inl (k2, 12, .inl (fun _ => 0))), (q3, .inl (k4, 12, .inl (fun _ => 0))), (q5, .inl (k6, 200, .inl (fun _ => 0))), (q7, .inl (k8, 300, .inl (fun _ => 0)))] := hD
  refine lv_aload_n hx hb dX8_init_38 rfl (lv_at hl 0 rfl) ?_
  refine lv_sipush (v := 300) hx hb dX8_init_39 (by decide) ?_
  refine va_newa (atype := .int) (ty := .int) (a0 := (300, .inl (fun _ => 0))) hx hb (ht _ kw_72) rfl hK hP hD hS hA (fun _ => rfl) (by decide) (by decide) (Nat.le_of_ble_eq_true rfl) (Nat.le_of_ble_eq_true rfl) (Nat.le_of_ble_eq_true rfl) dX8_init_42 (fun q9 k10 H hK hP hD hS => ?_)
  have hP : va_P (dC, dI) vwCl [(h0, .inr (8, [.ref q1, .ref q3, .int 0, .int 0, .ref q5, .int 0, .ref q7, .null, .null, .null, .null, .null, .int 0, .int 0])), (q1, .inl (k2, 12, .inl (fun _ => 0))), (q3, .inl (k4, 12, .inl (fun _ => 0))), (q5, .inl (k6, 200, .inl (fun _ => 0))), (q7, .inl (k8, 300, .inl (fun _ => 0))), (q9, .inl (k10, 300, .inl (fun _ => 0)))] H := hP
  have hD : va_D A [(h0, .inr (8, [.ref q1, .ref q3, .int 0, .int 0, .ref q5, .int 0, .ref q7, .null, .null, .null, .null, .null, .int 0, .int 0])), (q1, .inl (k2, 12, .inl (fun _ => 0))), (q3, .inl (k4, 12, .inl (fun _ => 0))), (q5, .inl (k6, 200, .inl (fun _ => 0))), (q7, .inl (k8, 300, .inl (fun _ => 0))), (q9, .inl (k10, 300, .inl (fun _ => 0)))] := hD
  have hK : va_K (dC, dI) vwCl [(k2, .int), (k4, .int), (k6, .int), (k8, .int), (k10, .int)] s := hK
  refine W.widen (k := 5) (n := 824) (Nat.le_of_ble_eq_true rfl) (Nat.le_of_ble_eq_true rfl) ?_
  refine va_putF (D := (dC, dI)) (ci := 8) (v := .ref q9) (ty := .array .int) (C := RX8) (T := TX8) (N := 14) hx hb ht inX8 tyX8 tyX8_ok nmX8 hown hK hP hD hS 0 rfl rfl 7 (by decide) (ht _ kw_94) (fun _ h9 => h9) rfl hin rfl (by decide +kernel) rfl rfl (Nat.le_of_ble_eq_true rfl) dX8_init_44 (fun H locs hP hD hS => ?_)
  have hP : va_P (dC, dI) vwCl [(h0, .inr (8, [.ref q1, .ref q3, .int 0, .int 0, .ref q5, .int 0, .ref q7, .ref q9, .null, .null, .null, .null, .int 0, .int 0])), (q1, .inl (k2, 12, .inl (fun _ => 0))), (q3, .inl (k4, 12, .inl (fun _ => 0))), (q5, .inl (k6, 200, .inl (fun _ => 0))), (q7, .inl (k8, 300, .inl (fun _ => 0))), (q9, .inl (k10, 300, .inl (fun _ => 0)))] H := hP
  have hD : va_D A [(h0, .inr (8, [.ref q1, .ref q3, .int 0, .int 0, .ref q5, .int 0, .ref q7, .ref q9, .null, .null, .null, .null, .int 0, .int 0])), (q1, .inl (k2, 12, .inl (fun _ => 0))), (q3, .inl (k4, 12, .inl (fun _ => 0))), (q5, .inl (k6, 200, .inl (fun _ => 0))), (q7, .inl (k8, 300, .inl (fun _ => 0))), (q9, .inl (k10, 300, .inl (fun _ => 0)))] := hD
  refine lv_aload_n hx hb dX8_init_47 rfl (lv_at hl 0 rfl) ?_
  refine lv_sipush (v := 300) hx hb dX8_init_48 (by decide) ?_
  refine va_newa (atype := .int) (ty := .int) (a0 := (300, .inl (fun _ => 0))) hx hb (ht _ kw_72) rfl hK hP hD hS hA (fun _ => rfl) (by decide) (by decide) (Nat.le_of_ble_eq_true rfl) (Nat.le_of_ble_eq_true rfl) (Nat.le_of_ble_eq_true rfl) dX8_init_51 (fun q11 k12 H hK hP hD hS => ?_)
  have hP : va_P (dC, dI) vwCl [(h0, .inr (8, [.ref q1, .ref q3, .int 0, .int 0, .ref q5, .int 0, .ref q7, .ref q9, .null, .null, .null, .null, .int 0, .int 0])), (q1, .inl (k2, 12, .inl (fun _ => 0))), (q3, .inl (k4, 12, .inl (fun _ => 0))), (q5, .inl (k6, 200, .inl (fun _ => 0))), (q7, .inl (k8, 300, .inl (fun _ => 0))), (q9, .inl (k10, 300, .inl (fun _ => 0))), (q11, .inl (k12, 300, .inl (fun _ => 0)))] H := hP
  have hD : va_D A [(h0, .inr (8, [.ref q1, .ref q3, .int 0, .int 0, .ref q5, .int 0, .ref q7, .ref q9, .null, .null, .null, .null, .int 0, .int 0])), (q1, .inl (k2, 12, .inl (fun _ => 0))), (q3, .inl (k4, 12, .inl (fun _ => 0))), (q5, .inl (k6, 200, .inl (fun _ => 0))), (q7, .inl (k8, 300, .inl (fun _ => 0))), (q9, .inl (k10, 300, .inl (fun _ => 0))), (q11, .inl (k12, 300, .inl (fun _ => 0)))] := hD
  have hK : va_K (dC, dI) vwCl [(k2, .int), (k4, .int), (k6, .int), (k8, .int), (k10, .int), (k12, .int)] s := hK
  refine W.widen (k := 6) (n := 1124) (Nat.le_of_ble_eq_true rfl) (Nat.le_of_ble_eq_true rfl) ?_
  refine va_putF (D := (dC, dI)) (ci := 8) (v := .ref q11) (ty := .array .int) (C := RX8) (T := TX8) (N := 14) hx hb ht inX8 tyX8 tyX8_ok nmX8 hown hK hP hD hS 0 rfl rfl 8 (by decide) (ht _ kw_95) (fun _ h9 => h9) rfl hin rfl (by decide +kernel) rfl rfl (Nat.le_of_ble_eq_true rfl) dX8_init_53 (fun H locs hP hD hS => ?_)
  have hP : va_P (dC, dI) vwCl [(h0, .inr (8, [.ref q1, .ref q3, .int 0, .int 0, .ref q5, .int 0, .ref q7, .ref q9, .ref q11, .null, .null, .null, .int 0, .int 0])), (q1, .inl (k2, 12, .inl (fun _ => 0))), (q3, .inl (k4, 12, .inl (fun _ => 0))), (q5, .inl (k6, 200, .inl (fun _ => 0))), (q7, .inl (k8, 300, .inl (fun _ => 0))), (q9, .inl (k10, 300, .inl (fun _ => 0))), (q11, .inl (k12, 300, .inl (fun _ => 0)))] H := hP
  have hD : va_D A [(h0, .inr (8, [.ref q1, .ref q3, .int 0, .int 0, .ref q5, .int 0, .ref q7, .ref q9, .ref q11, .null, .null, .null, .int 0, .int 0])), (q1, .inl (k2, 12, .inl (fun _ => 0))), (q3, .inl (k4, 12, .inl (fun _ => 0))), (q5, .inl (k6, 200, .inl (fun _ => 0))), (q7, .inl (k8, 300, .inl (fun _ => 0))), (q9, .inl (k10, 300, .inl (fun _ => 0))), (q11, .inl (k12, 300, .inl (fun _ => 0)))] := hD
  refine lv_aload_n hx hb dX8_init_56 rfl (lv_at hl 0 rfl) ?_
  refine lv_sipush (v := 300) hx hb dX8_init_57 (by decide) ?_
  refine va_newa (atype := .int) (ty := .int) (a0 := (300, .inl (fun _ => 0))) hx hb (ht _ kw_72) rfl hK hP hD hS hA (fun _ => rfl) (by decide) (by decide) (Nat.le_of_ble_eq_true rfl) (Nat.le_of_ble_eq_true rfl) (Nat.le_of_ble_eq_true rfl) dX8_init_60 (fun q13 k14 H hK hP hD hS => ?_)
  have hP : va_P (dC, dI) vwCl [(h0, .inr (8, [.ref q1, .ref q3, .int 0, .int 0, .ref q5, .int 0, .ref q7, .ref q9, .ref q11, .null, .null, .null, .int 0, .int 0])), (q1, .inl (k2, 12, .inl (fun _ => 0))), (q3, .inl (k4, 12, .inl (fun _ => 0))), (q5, .inl (k6, 200, .inl (fun _ => 0))), (q7, .inl (k8, 300, .inl (fun _ => 0))), (q9, .inl (k10, 300, .inl (fun _ => 0))), (q11, .inl (k12, 300, .inl (fun _ => 0))), (q13, .inl (k14, 300, .inl (fun _ => 0)))] H := hP
  have hD : va_D A [(h0, .inr (8, [.ref q1, .ref q3, .int 0, .int 0, .ref q5, .int 0, .ref q7, .ref q9, .ref q11, .null, .null, .null, .int 0, .int 0])), (q1, .inl (k2, 12, .inl (fun _ => 0))), (q3, .inl (k4, 12, .inl (fun _ => 0))), (q5, .inl (k6, 200, .inl (fun _ => 0))), (q7, .inl (k8, 300, .inl (fun _ => 0))), (q9, .inl (k10, 300, .inl (fun _ => 0))), (q11, .inl (k12, 300, .inl (fun _ => 0))), (q13, .inl (k14, 300, .inl (fun _ => 0)))] := hD
  have hK : va_K (dC, dI) vwCl [(k2, .int), (k4, .int), (k6, .int), (k8, .int), (k10, .int), (k12, .int), (k14, .int)] s := hK
  refine W.widen (k := 7) (n := 1424) (Nat.le_of_ble_eq_true rfl) (Nat.le_of_ble_eq_true rfl) ?_
  refine va_putF (D := (dC, dI)) (ci := 8) (v := .ref q13) (ty := .array .int) (C := RX8) (T := TX8) (N := 14) hx hb ht inX8 tyX8 tyX8_ok nmX8 hown hK hP hD hS 0 rfl rfl 9 (by decide) (ht _ kw_96) (fun _ h9 => h9) rfl hin rfl (by decide +kernel) rfl rfl (Nat.le_of_ble_eq_true rfl) dX8_init_62 (fun H locs hP hD hS => ?_)
  have hP : va_P (dC, dI) vwCl [(h0, .inr (8, [.ref q1, .ref q3, .int 0, .int 0, .ref q5, .int 0, .ref q7, .ref q9, .ref q11, .ref q13, .null, .null, .int 0, .int 0])), (q1, .inl (k2, 12, .inl (fun _ => 0))), (q3, .inl (k4, 12, .inl (fun _ => 0))), (q5, .inl (k6, 200, .inl (fun _ => 0))), (q7, .inl (k8, 300, .inl (fun _ => 0))), (q9, .inl (k10, 300, .inl (fun _ => 0))), (q11, .inl (k12, 300, .inl (fun _ => 0))), (q13, .inl (k14, 300, .inl (fun _ => 0)))] H := hP
  have hD : va_D A [(h0, .inr (8, [.ref q1, .ref q3, .int 0, .int 0, .ref q5, .int 0, .ref q7, .ref q9, .ref q11, .ref q13, .null, .null, .int 0, .int 0])), (q1, .inl (k2, 12, .inl (fun _ => 0))), (q3, .inl (k4, 12, .inl (fun _ => 0))), (q5, .inl (k6, 200, .inl (fun _ => 0))), (q7, .inl (k8, 300, .inl (fun _ => 0))), (q9, .inl (k10, 300, .inl (fun _ => 0))), (q11, .inl (k12, 300, .inl (fun _ => 0))), (q13, .inl (k14, 300, .inl (fun _ => 0)))] := hD
  refine lv_aload_n hx hb dX8_init_65 rfl (lv_at hl 0 rfl) ?_
  refine lv_bipush (v := 8) hx hb dX8_init_66 (by decide) ?_
  refine va_newa (atype := .int) (ty := .int) (a0 := (8, .inl (fun _ => 0))) hx hb (ht _ kw_72) rfl hK hP hD hS hA (fun _ => rfl) (by decide) (by decide) (Nat.le_of_ble_eq_true rfl) (Nat.le_of_ble_eq_true rfl) (Nat.le_of_ble_eq_true rfl) dX8_init_68 (fun q15 k16 H hK hP hD hS => ?_)
  have hP : va_P (dC, dI) vwCl [(h0, .inr (8, [.ref q1, .ref q3, .int 0, .int 0, .ref q5, .int 0, .ref q7, .ref q9, .ref q11, .ref q13, .null, .null, .int 0, .int 0])), (q1, .inl (k2, 12, .inl (fun _ => 0))), (q3, .inl (k4, 12, .inl (fun _ => 0))), (q5, .inl (k6, 200, .inl (fun _ => 0))), (q7, .inl (k8, 300, .inl (fun _ => 0))), (q9, .inl (k10, 300, .inl (fun _ => 0))), (q11, .inl (k12, 300, .inl (fun _ => 0))), (q13, .inl (k14, 300, .inl (fun _ => 0))), (q15, .inl (k16, 8, .inl (fun _ => 0)))] H := hP
  have hD : va_D A [(h0, .inr (8, [.ref q1, .ref q3, .int 0, .int 0, .ref q5, .int 0, .ref q7, .ref q9, .ref q11, .ref q13, .null, .null, .int 0, .int 0])), (q1, .inl (k2, 12, .inl (fun _ => 0))), (q3, .inl (k4, 12, .inl (fun _ => 0))), (q5, .inl (k6, 200, .inl (fun _ => 0))), (q7, .inl (k8, 300, .inl (fun _ => 0))), (q9, .inl (k10, 300, .inl (fun _ => 0))), (q11, .inl (k12, 300, .inl (fun _ => 0))), (q13, .inl (k14, 300, .inl (fun _ => 0))), (q15, .inl (k16, 8, .inl (fun _ => 0)))] := hD
  have hK : va_K (dC, dI) vwCl [(k2, .int), (k4, .int), (k6, .int), (k8, .int), (k10, .int), (k12, .int), (k14, .int), (k16, .int)] s := hK
  refine W.widen (k := 8) (n := 1432) (Nat.le_of_ble_eq_true rfl) (Nat.le_of_ble_eq_true rfl) ?_
  refine va_putF (D := (dC, dI)) (ci := 8) (v := .ref q15) (ty := .array .int) (C := RX8) (T := TX8) (N := 14) hx hb ht inX8 tyX8 tyX8_ok nmX8 hown hK hP hD hS 0 rfl rfl 10 (by decide) (ht _ kw_97) (fun _ h9 => h9) rfl hin rfl (by decide +kernel) rfl rfl (Nat.le_of_ble_eq_true rfl) dX8_init_70 (fun H locs hP hD hS => ?_)
  have hP : va_P (dC, dI) vwCl [(h0, .inr (8, [.ref q1, .ref q3, .int 0, .int 0, .ref q5, .int 0, .ref q7, .ref q9, .ref q11, .ref q13, .ref q15, .null, .int 0, .int 0])), (q1, .inl (k2, 12, .inl (fun _ => 0))), (q3, .inl (k4, 12, .inl (fun _ => 0))), (q5, .inl (k6, 200, .inl (fun _ => 0))), (q7, .inl (k8, 300, .inl (fun _ => 0))), (q9, .inl (k10, 300, .inl (fun _ => 0))), (q11, .inl (k12, 300, .inl (fun _ => 0))), (q13, .inl (k14, 300, .inl (fun _ => 0))), (q15, .inl (k16, 8, .inl (fun _ => 0)))] H := hP
  have hD : va_D A [(h0, .inr (8, [.ref q1, .ref q3, .int 0, .int 0, .ref q5, .int 0, .ref q7, .ref q9, .ref q11, .ref q13, .ref q15, .null, .int 0, .int 0])), (q1, .inl (k2, 12, .inl (fun _ => 0))), (q3, .inl (k4, 12, .inl (fun _ => 0))), (q5, .inl (k6, 200, .inl (fun _ => 0))), (q7, .inl (k8, 300, .inl (fun _ => 0))), (q9, .inl (k10, 300, .inl (fun _ => 0))), (q11, .inl (k12, 300, .inl (fun _ => 0))), (q13, .inl (k14, 300, .inl (fun _ => 0))), (q15, .inl (k16, 8, .inl (fun _ => 0)))] := hD
  refine lv_aload_n hx hb dX8_init_73 rfl (lv_at hl 0 rfl) ?_
  refine lv_bipush (v := 8) hx hb dX8_init_74 (by decide) ?_
  refine va_newa (atype := .int) (ty := .int) (a0 := (8, .inl (fun _ => 0))) hx hb (ht _ kw_72) rfl hK hP hD hS hA (fun _ => rfl) (by decide) (by decide) (Nat.le_of_ble_eq_true rfl) (Nat.le_of_ble_eq_true rfl) (Nat.le_of_ble_eq_true rfl) dX8_init_76 (fun q17 k18 H hK hP hD hS => ?_)
  have hP : va_P (dC, dI) vwCl [(h0, .inr (8, [.ref q1, .ref q3, .int 0, .int 0, .ref q5, .int 0, .ref q7, .ref q9, .ref q11, .ref q13, .ref q15, .null, .int 0, .int 0])), (q1, .inl (k2, 12, .inl (fun _ => 0))), (q3, .inl (k4, 12, .inl (fun _ => 0))), (q5, .inl (k6, 200, .inl (fun _ => 0))), (q7, .inl (k8, 300, .inl (fun _ => 0))), (q9, .inl (k10, 300, .inl (fun _ => 0))), (q11, .inl (k12, 300, .inl (fun _ => 0))), (q13, .inl (k14, 300, .inl (fun _ => 0))), (q15, .inl (k16, 8, .inl (fun _ => 0))), (q17, .inl (k18, 8, .inl (fun _ => 0)))] H := hP
  have hD : va_D A [(h0, .inr (8, [.ref q1, .ref q3, .int 0, .int 0, .ref q5, .int 0, .ref q7, .ref q9, .ref q11, .ref q13, .ref q15, .null, .int 0, .int 0])), (q1, .inl (k2, 12, .inl (fun _ => 0))), (q3, .inl (k4, 12, .inl (fun _ => 0))), (q5, .inl (k6, 200, .inl (fun _ => 0))), (q7, .inl (k8, 300, .inl (fun _ => 0))), (q9, .inl (k10, 300, .inl (fun _ => 0))), (q11, .inl (k12, 300, .inl (fun _ => 0))), (q13, .inl (k14, 300, .inl (fun _ => 0))), (q15, .inl (k16, 8, .inl (fun _ => 0))), (q17, .inl (k18, 8, .inl (fun _ => 0)))] := hD
  have hK : va_K (dC, dI) vwCl [(k2, .int), (k4, .int), (k6, .int), (k8, .int), (k10, .int), (k12, .int), (k14, .int), (k16, .int), (k18, .int)] s := hK
  refine W.widen (k := 9) (n := 1440) (Nat.le_of_ble_eq_true rfl) (Nat.le_of_ble_eq_true rfl) ?_
  refine va_putF (D := (dC, dI)) (ci := 8) (v := .ref q17) (ty := .array .int) (C := RX8) (T := TX8) (N := 14) hx hb ht inX8 tyX8 tyX8_ok nmX8 hown hK hP hD hS 0 rfl rfl 11 (by decide) (ht _ kw_100) (fun _ h9 => h9) rfl hin rfl (by decide +kernel) rfl rfl (Nat.le_of_ble_eq_true rfl) dX8_init_78 (fun H locs hP hD hS => ?_)
  have hP : va_P (dC, dI) vwCl [(h0, .inr (8, [.ref q1, .ref q3, .int 0, .int 0, .ref q5, .int 0, .ref q7, .ref q9, .ref q11, .ref q13, .ref q15, .ref q17, .int 0, .int 0])), (q1, .inl (k2, 12, .inl (fun _ => 0))), (q3, .inl (k4, 12, .inl (fun _ => 0))), (q5, .inl (k6, 200, .inl (fun _ => 0))), (q7, .inl (k8, 300, .inl (fun _ => 0))), (q9, .inl (k10, 300, .inl (fun _ => 0))), (q11, .inl (k12, 300, .inl (fun _ => 0))), (q13, .inl (k14, 300, .inl (fun _ => 0))), (q15, .inl (k16, 8, .inl (fun _ => 0))), (q17, .inl (k18, 8, .inl (fun _ => 0)))] H := hP
  have hD : va_D A [(h0, .inr (8, [.ref q1, .ref q3, .int 0, .int 0, .ref q5, .int 0, .ref q7, .ref q9, .ref q11, .ref q13, .ref q15, .ref q17, .int 0, .int 0])), (q1, .inl (k2, 12, .inl (fun _ => 0))), (q3, .inl (k4, 12, .inl (fun _ => 0))), (q5, .inl (k6, 200, .inl (fun _ => 0))), (q7, .inl (k8, 300, .inl (fun _ => 0))), (q9, .inl (k10, 300, .inl (fun _ => 0))), (q11, .inl (k12, 300, .inl (fun _ => 0))), (q13, .inl (k14, 300, .inl (fun _ => 0))), (q15, .inl (k16, 8, .inl (fun _ => 0))), (q17, .inl (k18, 8, .inl (fun _ => 0)))] := hD
  exact W.vret hx hb hr (fun t ht9 hW => ⟨⟨(), rfl, trivial, q1, q3, q5, q7, q9, q11, q13, q15, q17, k2, k4, k6, k8, k10, k12, k14, k16, k18, by rw [ht9]; exact hP, va_K.moved hW.alike hK, hD⟩, hS.F ht9⟩) hS.2.2 dX8_init_81
