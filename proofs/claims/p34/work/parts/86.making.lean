theorem dJ7_fill_53178_0 : decode cJ7_fill_53178 0 = .ok (.iconst 0, 1) := qd_c (by decide +kernel)
theorem dJ7_fill_53178_1 : decode cJ7_fill_53178 1 = .ok (.istore_n 2, 1) := qd_c (by decide +kernel)
theorem dJ7_fill_53178_2 : decode cJ7_fill_53178 2 = .ok (.aload_n 0, 1) := qd_c (by decide +kernel)
theorem dJ7_fill_53178_3 : decode cJ7_fill_53178 3 = .ok (.arraylength, 1) := qd_c (by decide +kernel)
theorem dJ7_fill_53178_4 : decode cJ7_fill_53178 4 = .ok (.istore_n 3, 1) := qd_c (by decide +kernel)
theorem dJ7_fill_53178_5 : decode cJ7_fill_53178 5 = .ok (.iload_n 2, 1) := qd_c (by decide +kernel)
theorem dJ7_fill_53178_6 : decode cJ7_fill_53178 6 = .ok (.iload_n 3, 1) := qd_c (by decide +kernel)
theorem dJ7_fill_53178_7 : decode cJ7_fill_53178 7 = .ok (.if_icmp .ge 13, 3) := qd_c (by decide +kernel)
theorem dJ7_fill_53178_10 : decode cJ7_fill_53178 10 = .ok (.aload_n 0, 1) := qd_c (by decide +kernel)
theorem dJ7_fill_53178_11 : decode cJ7_fill_53178 11 = .ok (.iload_n 2, 1) := qd_c (by decide +kernel)
theorem dJ7_fill_53178_12 : decode cJ7_fill_53178 12 = .ok (.iload_n 1, 1) := qd_c (by decide +kernel)
theorem dJ7_fill_53178_13 : decode cJ7_fill_53178 13 = .ok (.iastore, 1) := qd_c (by decide +kernel)
theorem dJ7_fill_53178_14 : decode cJ7_fill_53178 14 = .ok (.iinc 2 1, 3) := qd_c (by decide +kernel)
theorem dJ7_fill_53178_17 : decode cJ7_fill_53178 17 = .ok (.goto (-12), 3) := qd_c (by decide +kernel)
theorem dJ7_fill_53178_20 : decode cJ7_fill_53178 20 = .ok (.return_, 1) := qd_c (by decide +kernel)
set_option maxRecDepth 100000 in
theorem kw_267 : Cond.code yJ7_fill_53178 cJ7_fill_53178 4 none ∈ lw_g := lwq_2 (dqa_m (dqa_m (dqa_m (List.mem_of_getElem? (i := 3) rfl)))) rfl
abbrev fl_Q (dC : Nat → ClassId) (dI : Nat → Nat → Nat) (a : Nat) (cA : ClassId) (n : Nat) (A : Nat → Prop) : Array Value → State → Outcome → State → Prop := va_Qv (fun (_ : Unit) => True) (fun _ t => ∃ g : Nat → Int32, va_P (dC, dI) vwCl [(a, .inl (cA, n, .inl g))] t.heap ∧ va_K (dC, dI) vwCl [(cA, .int)] t ∧ va_D A [(a, .inl (cA, n, .inl g))]) A
set_option maxHeartbeats 4000000 in
set_option maxRecDepth 100000 in
/-- Arrays.fill: the row is written, no other cell -/
theorem ct_J7_fill_53178 (l : Launch) (dC : Nat → ClassId) (dI : Nat → Nat → Nat) (a : Nat) (cA : ClassId) (n : Nat) (f : Nat → Int32) (hn : n < 2 ^ 31) (sz : Nat) (v : Int32) : Met l yJ7_fill_53178 (.code yJ7_fill_53178 cJ7_fill_53178 4 none :: lw_g) ({ frames := 0, cells := 0, slots := 0, locals := 0 }) (ro_P dC dI [(a, .inl (cA, n, .inl f))] [(cA, .int)] sz [.ref a, .int v]) (fl_Q dC dI a cA n (va_A [(a, .inl (cA, n, .inl f))] sz)) 0 0 (va_A [(a, .inl (cA, n, .inl f))] sz) := by
  refine ro_entry (by decide) (Nat.le_of_ble_eq_true rfl) ?_
  intro p e s m below meth c ls hx hb hr hlocks ht hown hin hml hsz hP hK hD hE hl
  subst hsz
  have hD := hD.self (sz := s.heap.size)
  generalize hAe : va_A [(a, .inl (cA, n, .inl f))] s.heap.size = A at hD ⊢
  have hA : ∀ q, s.heap.size ≤ q → A q := fun q h => by rw [← hAe]; exact Or.inr h
  have hS : va_S A s.heap s.heap [] := va_S.rf
  have hl : lv_has ls 4 [(0, .ref a), (1, .int v)] := hl
  have loop : ∀ (k i : Nat), i + k = n → ∀ (f : Nat → Int32) (H : Heap) (locs : List Loc) (ls : Array Slot), va_P (dC, dI) vwCl [(a, .inl (cA, n, .inl f))] H → va_D A [(a, .inl (cA, n, .inl f))] → va_S A s.heap H locs → lv_has ls 4 [(2, .int (nI i)), (3, .int (nI n)), (0, .ref a), (1, .int v)] → W p l e ({ frames := 0, cells := 0, slots := 0, locals := 0 }) s m [Value.ref a, Value.int v].toArray below meth c H locs 0 0 (MQ below (fl_Q dC dI a cA n A) [Value.ref a, Value.int v].toArray s 0 0 A) (F0 m 5 ls []) := by
    intro k
    induction k with
    | zero =>
      intro i hi f H locs ls hP hD hS hl
      refine lv_iload_n hx hb dJ7_fill_53178_5 rfl (lv_at hl 0 rfl) ?_
      refine lv_iload_n hx hb dJ7_fill_53178_6 rfl (lv_at hl 1 rfl) ?_
      refine lv_icmp_ge (tgt := 20) hx hb dJ7_fill_53178_7 (by decide) (fun c1 => ?_) (fun c1 => absurd (nI_le (by omega) (by omega)) c1)
      exact W.vret hx hb hr (fun t ht9 hW => ⟨⟨(), rfl, trivial, f, by rw [ht9]; exact hP, va_K.moved hW.alike hK, hD⟩, hS.F ht9⟩) hS.2.2 dJ7_fill_53178_20
    | succ k ih =>
      intro i hi f H locs ls hP hD hS hl
      refine lv_iload_n hx hb dJ7_fill_53178_5 rfl (lv_at hl 0 rfl) ?_
      refine lv_iload_n hx hb dJ7_fill_53178_6 rfl (lv_at hl 1 rfl) ?_
      refine lv_icmp_ge (tgt := 20) hx hb dJ7_fill_53178_7 (by decide) (fun c1 => absurd c1 (nI_ge (by omega) hn)) (fun c1 => ?_)
      refine lv_aload_n hx hb dJ7_fill_53178_10 rfl (lv_at hl 2 rfl) ?_
      refine lv_iload_n hx hb dJ7_fill_53178_11 rfl (lv_at hl 0 rfl) ?_
      refine lv_iload_n hx hb dJ7_fill_53178_12 rfl (lv_at hl 3 rfl) ?_
      refine va_iast hx hb hK hP hD hS 0 0 rfl rfl (vp_in_nI (by omega) hn) dJ7_fill_53178_13 (fun H locs hP hD hS => ?_)
      generalize upd f (nI i).toNatClampNeg v = g at hP hD
      have hP : va_P (dC, dI) vwCl [(a, .inl (cA, n, .inl g))] H := hP
      have hD : va_D A [(a, .inl (cA, n, .inl g))] := hD
      obtain ⟨x2, ex2⟩ : ∃ y : Int32, y = nI i + 1 := ⟨_, rfl⟩
      refine lv_iinc (v := x2) (lv' := [(2, .int x2), (3, .int (nI n)), (0, .ref a), (1, .int v)]) hx hb dJ7_fill_53178_14 hl (k := 0) rfl (by rw [ex2]; rfl) (by decide) rfl (fun ls hl => ?_)
      have ex2 := ex2.trans (nI_1 i)
      subst ex2
      refine lv_goto (tgt := 5) hx hb dJ7_fill_53178_17 (by decide) ?_
      exact ih (i + 1) (by omega) g H locs ls hP hD hS hl
  refine lv_iconst (v := 0) hx hb dJ7_fill_53178_0 (by decide) ?_
  refine lv_istore_n (lv' := [(2, .int 0), (0, .ref a), (1, .int v)]) hx hb dJ7_fill_53178_1 rfl hl (by decide) rfl (fun ls hl => ?_)
  refine lv_aload_n hx hb dJ7_fill_53178_2 rfl (lv_at hl 1 rfl) ?_
  refine va_alen hx hb hK hP 0 0 rfl rfl (v := nI n) rfl dJ7_fill_53178_3 ?_
  refine lv_istore_n (lv' := [(3, .int (nI n)), (2, .int 0), (0, .ref a), (1, .int v)]) hx hb dJ7_fill_53178_4 rfl hl (by decide) rfl (fun ls hl => ?_)
  exact loop n 0 (Nat.zero_add n) f s.heap [] ls hP hD hS (lv_sub hl [1, 0, 2, 3] rfl)
theorem nf_X1 : ∀ j, j < 16 → defaultValue (tyX1 j) = vp_V [.null, .int 0, .int 0, .int 0, .int 0, .int 0, .int 0, .int 0, .null, .null, .null, .null, .null, .int 0, .null, .null] j := by decide +kernel
theorem nf_X4 : ∀ j, j < 5 → defaultValue (tyX4 j) = vp_V [.null, .null, .null, .int 0, .null] j := by decide +kernel
theorem nf_X5 : ∀ j, j < 10 → defaultValue (tyX5 j) = vp_V [.null, .int 0, .int 0, .int 0, .null, .null, .int 0, .int 0, .int 0, .int 0] j := by decide +kernel
theorem nf_X6 : ∀ j, j < 16 → defaultValue (tyX6 j) = vp_V [.null, .null, .int 0, .null, .int 0, .int 0, .int 0, .null, .null, .null, .null, .null, .int 0, .null, .null, .null] j := by decide +kernel
theorem nf_X7 : ∀ j, j < 14 → defaultValue (tyX7 j) = vp_V [.null, .null, .null, .null, .null, .null, .null, .null, .null, .null, .null, .null, .null, .int 0] j := by decide +kernel
theorem nf_X8 : ∀ j, j < 14 → defaultValue (tyX8 j) = vp_V [.null, .null, .int 0, .int 0, .null, .int 0, .null, .null, .null, .null, .null, .null, .int 0, .int 0] j := by decide +kernel
theorem nf_X9 : ∀ j, j < 16 → defaultValue (tyX9 j) = vp_V [.null, .null, .int 0, .int 0, .null, .null, .int 0, .null, .null, .int 0, .null, .null, .null, .null, .null, .null] j := by decide +kernel
abbrev cX5_init : ByteArray := prog_7_method_1_code
def yX5_init : MethodName := ⟨RX5, "<init>", "()V"⟩
theorem dX5_init_0 : decode cX5_init 0 = .ok (.aload_n 0, 1) := qd_c (by decide +kernel)
theorem dX5_init_1 : decode cX5_init 1 = .ok (.invokespecial 3, 3) := qd_c (by decide +kernel)
theorem kw_27 : Cond.instanceMethod objectInit ∈ lw_g := lwq_1 (dqa_m (dqa_m (dqa_m (List.mem_of_getElem? (i := 3) rfl)))) rfl
theorem kw_28 : Cond.code objectInit ⟨#[0xb1]⟩ 1 none ∈ lw_g := lwq_1 (dqa_m (dqa_m (dqa_m (List.mem_of_getElem? (i := 4) rfl)))) rfl
theorem kw_34 : Cond.methodLink RX5 3 objectInit ∈ lw_g := lwq_1 (dqc_m (List.mem_of_getElem? (i := 2) rfl)) rfl
theorem dX5_init_4 : decode cX5_init 4 = .ok (.aload_n 0, 1) := qd_c (by decide +kernel)
theorem dX5_init_5 : decode cX5_init 5 = .ok (.sipush 400, 3) := qd_c (by decide +kernel)
theorem dX5_init_8 : decode cX5_init 8 = .ok (.newarray .int, 2) := by decide +kernel
theorem kw_72 : Cond.arrayClass .int ∈ lw_g := lwq_1 (dqc_m (dqc_m (dqa_m (List.mem_of_getElem? (i := 0) rfl)))) rfl
theorem dX5_init_10 : decode cX5_init 10 = .ok (.putfield 9, 3) := qd_c (by decide +kernel)
theorem kw_35 : Cond.fieldLink RX5 9 "SportsHouse$RuleText" "bytes" "[I" ∈ lw_g := lwq_1 (dqc_m (List.mem_of_getElem? (i := 3) rfl)) rfl
theorem dX5_init_13 : decode cX5_init 13 = .ok (.aload_n 0, 1) := qd_c (by decide +kernel)
theorem dX5_init_14 : decode cX5_init 14 = .ok (.iconst (-1), 1) := qd_c (by decide +kernel)
theorem dX5_init_15 : decode cX5_init 15 = .ok (.putfield 15, 3) := qd_c (by decide +kernel)
theorem kw_41 : Cond.fieldLink RX5 15 "SportsHouse$RuleText" "faultAt" "I" ∈ lw_g := lwq_1 (dqc_m (dqa_m (List.mem_of_getElem? (i := 1) rfl))) rfl
theorem dX5_init_18 : decode cX5_init 18 = .ok (.aload_n 0, 1) := qd_c (by decide +kernel)
theorem dX5_init_19 : decode cX5_init 19 = .ok (.bipush 16, 2) := qd_c (by decide +kernel)
theorem dX5_init_21 : decode cX5_init 21 = .ok (.newarray .int, 2) := by decide +kernel
theorem dX5_init_23 : decode cX5_init 23 = .ok (.putfield 19, 3) := qd_c (by decide +kernel)
theorem kw_43 : Cond.fieldLink RX5 19 "SportsHouse$RuleText" "values" "[I" ∈ lw_g := lwq_1 (dqc_m (dqa_m (List.mem_of_getElem? (i := 3) rfl))) rfl
theorem dX5_init_26 : decode cX5_init 26 = .ok (.aload_n 0, 1) := qd_c (by decide +kernel)
theorem dX5_init_27 : decode cX5_init 27 = .ok (.bipush 7, 2) := qd_c (by decide +kernel)
theorem dX5_init_29 : decode cX5_init 29 = .ok (.newarray .int, 2) := by decide +kernel
theorem dX5_init_31 : decode cX5_init 31 = .ok (.putfield 22, 3) := qd_c (by decide +kernel)
theorem kw_45 : Cond.fieldLink RX5 22 "SportsHouse$RuleText" "keys" "[I" ∈ lw_g := lwq_1 (dqc_m (dqa_m (List.mem_of_getElem? (i := 5) rfl))) rfl
theorem dX5_init_34 : decode cX5_init 34 = .ok (.return_, 1) := qd_c (by decide +kernel)
set_option maxHeartbeats 4000000 in
set_option maxRecDepth 100000 in
theorem ct_X5_init (l : Launch) (dC : Nat → ClassId) (dI : Nat → Nat → Nat) (h0 : Nat) (sz : Nat)  : Met l yX5_init (.code yX5_init cX5_init 1 none :: lw_g) ({ frames := 1, cells := 3, slots := 423, locals := 60 }) (ro_P dC dI [(h0, .inr (5, [.null, .int 0, .int 0, .int 0, .null, .null, .int 0, .int 0, .int 0, .int 0]))] [] sz [.ref h0]) (va_Qv (fun (_ : Unit) => True) (fun _ t => ∃ (q1 : Nat) (q3 : Nat) (q5 : Nat) (k2 : ClassId) (k4 : ClassId) (k6 : ClassId), va_P (dC, dI) vwCl [(h0, .inr (5, [.ref q1, .int 0, .int 0, .int (-1), .ref q3, .ref q5, .int 0, .int 0, .int 0, .int 0])), (q1, .inl (k2, 400, .inl (fun _ => 0))), (q3, .inl (k4, 16, .inl (fun _ => 0))), (q5, .inl (k6, 7, .inl (fun _ => 0)))] t.heap ∧ va_K (dC, dI) vwCl [(k2, .int), (k4, .int), (k6, .int)] t ∧ va_D (va_A [(h0, .inr (5, [.null, .int 0, .int 0, .int 0, .null, .null, .int 0, .int 0, .int 0, .int 0]))] sz) [(h0, .inr (5, [.ref q1, .int 0, .int 0, .int (-1), .ref q3, .ref q5, .int 0, .int 0, .int 0, .int 0])), (q1, .inl (k2, 400, .inl (fun _ => 0))), (q3, .inl (k4, 16, .inl (fun _ => 0))), (q5, .inl (k6, 7, .inl (fun _ => 0)))]) (va_A [(h0, .inr (5, [.null, .int 0, .int 0, .int 0, .null, .null, .int 0, .int 0, .int 0, .int 0]))] sz)) 3 423 (va_A [(h0, .inr (5, [.null, .int 0, .int 0, .int 0, .null, .null, .int 0, .int 0, .int 0, .int 0]))] sz) := by
  refine ro_entry (by decide) (Nat.le_of_ble_eq_true rfl) ?_
  intro p e s m below meth c ls hx hb hr hlocks ht hown hin hml hsz hP hK hD hE hl
  subst hsz
  have hD := hD.self (sz := s.heap.size)
  generalize hAe : va_A [(h0, .inr (5, [.null, .int 0, .int 0, .int 0, .null, .null, .int 0, .int 0, .int 0, .int 0]))] s.heap.size = A at hD ⊢
  have hA : ∀ q, s.heap.size ≤ q → A q := fun q h => by rw [← hAe]; exact Or.inr h
  have hS : va_S A s.heap s.heap [] := va_S.rf
  have hl : lv_has ls 1 [(0, .ref h0)] := hl
  have hown : s.vm.findClass RX5 = some m.cls := hown
  refine lv_aload_n hx hb dX5_init_0 rfl (lv_at hl 0 rfl) ?_
  refine W.objInit hx hb hown (ht _ kw_34) (ht _ kw_27) (ht _ kw_28) rfl (by rw [hml]; exact hl.1) rfl dX5_init_1 (Nat.le_of_ble_eq_true rfl) (Nat.le_of_ble_eq_true rfl) ?_
  refine W.eq (g2 := F0 m 4 ls []) rfl ?_
  refine lv_aload_n hx hb dX5_init_4 rfl (lv_at hl 0 rfl) ?_
  refine lv_sipush (v := 400) hx hb dX5_init_5 (by decide) ?_
  refine va_newa (atype := .int) (ty := .int) (a0 := (400, .inl (fun _ => 0))) hx hb (ht _ kw_72) rfl hK hP hD hS hA (fun _ => rfl) (by decide) (by decide) (Nat.le_of_ble_eq_true rfl) (Nat.le_of_ble_eq_true rfl) (Nat.le_of_ble_eq_true rfl) dX5_init_8 (fun q1 k2 H hK hP hD hS => ?_)
  have hP : va_P (dC, dI) vwCl [(h0, .inr (5, [.null, .int 0, .int 0, .int 0, .null, .null, .int 0, .int 0, .int 0, .int 0])), (q1, .inl (k2, 400, .inl (fun _ => 0)))] H := hP
  have hD : va_D A [(h0, .inr (5, [.null, .int 0, .int 0, .int 0, .null, .null, .int 0, .int 0, .int 0, .int 0])), (q1, .inl (k2, 400, .inl (fun _ => 0)))] := hD
  have hK : va_K (dC, dI) vwCl [(k2, .int)] s := hK
  refine W.widen (k := 1) (n := 400) (Nat.le_of_ble_eq_true rfl) (Nat.le_of_ble_eq_true rfl) ?_
  refine va_putF (D := (dC, dI)) (ci := 5) (v := .ref q1) (ty := .array .int) (C := RX5) (T := TX5) (N := 10) hx hb ht inX5 tyX5 tyX5_ok nmX5 hown hK hP hD hS 0 rfl rfl 0 (by decide) (ht _ kw_35) (fun _ h9 => h9) rfl hin rfl (by decide +kernel) rfl rfl (Nat.le_of_ble_eq_true rfl) dX5_init_10 (fun H locs hP hD hS => ?_)
  have hP : va_P (dC, dI) vwCl [(h0, .inr (5, [.ref q1, .int 0, .int 0, .int 0, .null, .null, .int 0, .int 0, .int 0, .int 0])), (q1, .inl (k2, 400, .inl (fun _ => 0)))] H := hP
  have hD : va_D A [(h0, .inr (5, [.ref q1, .int 0, .int 0, .int 0, .null, .null, .int 0, .int 0, .int 0, .int 0])), (q1, .inl (k2, 400, .inl (fun _ => 0)))] := hD
  refine lv_aload_n hx hb dX5_init_13 rfl (lv_at hl 0 rfl) ?_
  refine lv_iconst (v := (-1)) hx hb dX5_init_14 (by decide) ?_
  refine va_put (D := (dC, dI)) (ci := 5) (v := .int (-1)) (ty := .int) (C := RX5) (T := TX5) (N := 10) hx hb ht inX5 tyX5 tyX5_ok nmX5 hown hK hP hD hS 0 rfl rfl 3 (by decide) (ht _ kw_41) (fun _ h9 => h9) rfl (by decide +kernel) rfl rfl (Nat.le_of_ble_eq_true rfl) dX5_init_15 (fun H locs hP hD hS => ?_)
  have hP : va_P (dC, dI) vwCl [(h0, .inr (5, [.ref q1, .int 0, .int 0, .int (-1), .null, .null, .int 0, .int 0, .int 0, .int 0])), (q1, .inl (k2, 400, .inl (fun _ => 0)))] H := hP
  have hD : va_D A [(h0, .inr (5, [.ref q1, .int 0, .int 0, .int (-1), .null, .null, .int 0, .int 0, .int 0, .int 0])), (q1, .inl (k2, 400, .inl (fun _ => 0)))] := hD
  refine lv_aload_n hx hb dX5_init_18 rfl (lv_at hl 0 rfl) ?_
  refine lv_bipush (v := 16) hx hb dX5_init_19 (by decide) ?_
  refine va_newa (atype := .int) (ty := .int) (a0 := (16, .inl (fun _ => 0))) hx hb (ht _ kw_72) rfl hK hP hD hS hA (fun _ => rfl) (by decide) (by decide) (Nat.le_of_ble_eq_true rfl) (Nat.le_of_ble_eq_true rfl) (Nat.le_of_ble_eq_true rfl) dX5_init_21 (fun q3 k4 H hK hP hD hS => ?_)
  have hP : va_P (dC, dI) vwCl [(h0, .inr (5, [.ref q1, .int 0, .int 0, .int (-1), .null, .null, .int 0, .int 0, .int 0, .int 0])), (q1, .inl (k2, 400, .inl (fun _ => 0))), (q3, .inl (k4, 16, .inl (fun _ => 0)))] H := hP
  have hD : va_D A [(h0, .inr (5, [.ref q1, .int 0, .int 0, .int (-1), .null, .null, .int 0, .int 0, .int 0, .int 0])), (q1, .inl (k2, 400, .inl (fun _ => 0))), (q3, .inl (k4, 16, .inl (fun _ => 0)))] := hD
  have hK : va_K (dC, dI) vwCl [(k2, .int), (k4, .int)] s := hK
  refine W.widen (k := 2) (n := 416) (Nat.le_of_ble_eq_true rfl) (Nat.le_of_ble_eq_true rfl) ?_
  refine va_putF (D := (dC, dI)) (ci := 5) (v := .ref q3) (ty := .array .int) (C := RX5) (T := TX5) (N := 10) hx hb ht inX5 tyX5 tyX5_ok nmX5 hown hK hP hD hS 0 rfl rfl 4 (by decide) (ht _ kw_43) (fun _ h9 => h9) rfl hin rfl (by decide +kernel) rfl rfl (Nat.le_of_ble_eq_true rfl) dX5_init_23 (fun H locs hP hD hS => ?_)
  have hP : va_P (dC, dI) vwCl [(h0, .inr (5, [.ref q1, .int 0, .int 0, .int (-1), .ref q3, .null, .int 0, .int 0, .int 0, .int 0])), (q1, .inl (k2, 400, .inl (fun _ => 0))), (q3, .inl (k4, 16, .inl (fun _ => 0)))] H := hP
  have hD : va_D A [(h0, .inr (5, [.ref q1, .int 0, .int 0, .int (-1), .ref q3, .null, .int 0, .int 0, .int 0, .int 0])), (q1, .inl (k2, 400, .inl (fun _ => 0))), (q3, .inl (k4, 16, .inl (fun _ => 0)))] := hD
  refine lv_aload_n hx hb dX5_init_26 rfl (lv_at hl 0 rfl) ?_
  refine lv_bipush (v := 7) hx hb dX5_init_27 (by decide) ?_
  refine va_newa (atype := .int) (ty := .int) (a0 := (7, .inl (fun _ => 0))) hx hb (ht _ kw_72) rfl hK hP hD hS hA (fun _ => rfl) (by decide) (by decide) (Nat.le_of_ble_eq_true rfl) (Nat.le_of_ble_eq_true rfl) (Nat.le_of_ble_eq_true rfl) dX5_init_29 (fun q5 k6 H hK hP hD hS => ?_)
  have hP : va_P (dC, dI) vwCl [(h0, .inr (5, [.ref q1, .int 0, .int 0, .int (-1), .ref q3, .null, .int 0, .int 0, .int 0, .int 0])), (q1, .inl (k2, 400, .inl (fun _ => 0))), (q3, .inl (k4, 16, .inl (fun _ => 0))), (q5, .inl (k6, 7, .inl (fun _ => 0)))] H := hP
  have hD : va_D A [(h0, .inr (5, [.ref q1, .int 0, .int 0, .int (-1), .ref q3, .null, .int 0, .int 0, .int 0, .int 0])), (q1, .inl (k2, 400, .inl (fun _ => 0))), (q3, .inl (k4, 16, .inl (fun _ => 0))), (q5, .inl (k6, 7, .inl (fun _ => 0)))] := hD
  have hK : va_K (dC, dI) vwCl [(k2, .int), (k4, .int), (k6, .int)] s := hK
  refine W.widen (k := 3) (n := 423) (Nat.le_of_ble_eq_true rfl) (Nat.le_of_ble_eq_true rfl) ?_
  refine va_putF (D := (dC, dI)) (ci := 5) (v := .ref q5) (ty := .array .int) (C := RX5) (T := TX5) (N := 10) hx hb ht inX5 tyX5 tyX5_ok nmX5 hown hK hP hD hS 0 rfl rfl 5 (by decide) (ht _ kw_45) (fun _ h9 => h9) rfl hin rfl (by decide +kernel) rfl rfl (Nat.le_of_ble_eq_true rfl) dX5_init_31 (fun H locs hP hD hS => ?_)
  have hP : va_P (dC, dI) vwCl [(h0, .inr (5, [.ref q1, .int 0, .int 0, .int (-1), .ref q3, .ref q5, .int 0, .int 0, .int 0, .int 0])), (q1, .inl (k2, 400, .inl (fun _ => 0))), (q3, .inl (k4, 16, .inl (fun _ => 0))), (q5, .inl (k6, 7, .inl (fun _ => 0)))] H := hP
  have hD : va_D A [(h0, .inr (5, [.ref q1, .int 0, .int 0, .int (-1), .ref q3, .ref q5, .int 0, .int 0, .int 0, .int 0])), (q1, .inl (k2, 400, .inl (fun _ => 0))), (q3, .inl (k4, 16, .inl (fun _ => 0))), (q5, .inl (k6, 7, .inl (fun _ => 0)))] := hD
  exact W.vret hx hb hr (fun t ht9 hW => ⟨⟨(), rfl, trivial, q1, q3, q5, k2, k4, k6, by rw [ht9]; exact hP, va_K.moved hW.alike hK, hD⟩, hS.F ht9⟩) hS.2.2 dX5_init_34
abbrev cX8_init : ByteArray := prog_10_method_1_code
def yX8_init : MethodName := ⟨RX8, "<init>", "()V"⟩
theorem dX8_init_0 : decode cX8_init 0 = .ok (.aload_n 0, 1) := qd_c (by decide +kernel)
theorem dX8_init_1 : decode cX8_init 1 = .ok (.invokespecial 3, 3) := qd_c (by decide +kernel)
theorem kw_78 : Cond.methodLink RX8 3 objectInit ∈ lw_g := lwq_1 (dqc_m (dqc_m (dqa_m (List.mem_of_getElem? (i := 6) rfl)))) rfl
theorem dX8_init_4 : decode cX8_init 4 = .ok (.aload_n 0, 1) := qd_c (by decide +kernel)
theorem dX8_init_5 : decode cX8_init 5 = .ok (.bipush 12, 2) := qd_c (by decide +kernel)
theorem dX8_init_7 : decode cX8_init 7 = .ok (.newarray .int, 2) := by decide +kernel
theorem dX8_init_9 : decode cX8_init 9 = .ok (.putfield 9, 3) := qd_c (by decide +kernel)
theorem kw_79 : Cond.fieldLink RX8 9 "SportsHouse$Things" "stadium" "[I" ∈ lw_g := lwq_1 (dqc_m (dqc_m (dqa_m (List.mem_of_getElem? (i := 7) rfl)))) rfl
theorem dX8_init_12 : decode cX8_init 12 = .ok (.aload_n 0, 1) := qd_c (by decide +kernel)
theorem dX8_init_13 : decode cX8_init 13 = .ok (.bipush 12, 2) := qd_c (by decide +kernel)
theorem dX8_init_15 : decode cX8_init 15 = .ok (.newarray .int, 2) := by decide +kernel
theorem dX8_init_17 : decode cX8_init 17 = .ok (.putfield 15, 3) := qd_c (by decide +kernel)
theorem kw_83 : Cond.fieldLink RX8 15 "SportsHouse$Things" "country" "[I" ∈ lw_g := lwq_1 (dqc_m (dqc_m (dqa_m (dqa_m (List.mem_of_getElem? (i := 3) rfl))))) rfl
theorem dX8_init_20 : decode cX8_init 20 = .ok (.aload_n 0, 1) := qd_c (by decide +kernel)
theorem dX8_init_21 : decode cX8_init 21 = .ok (.sipush 200, 3) := qd_c (by decide +kernel)
theorem dX8_init_24 : decode cX8_init 24 = .ok (.newarray .int, 2) := by decide +kernel
theorem dX8_init_26 : decode cX8_init 26 = .ok (.putfield 18, 3) := qd_c (by decide +kernel)
theorem kw_89 : Cond.fieldLink RX8 18 "SportsHouse$Things" "firstSpan" "[I" ∈ lw_g := lwq_1 (dqc_m (dqc_m (dqa_m (dqa_m (dqa_m (List.mem_of_getElem? (i := 1) rfl)))))) rfl
theorem dX8_init_29 : decode cX8_init 29 = .ok (.aload_n 0, 1) := qd_c (by decide +kernel)
theorem dX8_init_30 : decode cX8_init 30 = .ok (.sipush 300, 3) := qd_c (by decide +kernel)
theorem dX8_init_33 : decode cX8_init 33 = .ok (.newarray .int, 2) := by decide +kernel
theorem dX8_init_35 : decode cX8_init 35 = .ok (.putfield 21, 3) := qd_c (by decide +kernel)
theorem kw_93 : Cond.fieldLink RX8 21 "SportsHouse$Things" "spanClub" "[I" ∈ lw_g := lwq_1 (dqc_m (dqc_m (dqa_m (dqa_m (dqa_m (List.mem_of_getElem? (i := 5) rfl)))))) rfl
theorem dX8_init_38 : decode cX8_init 38 = .ok (.aload_n 0, 1) := qd_c (by decide +kernel)
theorem dX8_init_39 : decode cX8_init 39 = .ok (.sipush 300, 3) := qd_c (by decide +kernel)
theorem dX8_init_42 : decode cX8_init 42 = .ok (.newarray .int, 2) := by decide +kernel
theorem dX8_init_44 : decode cX8_init 44 = .ok (.putfield 24, 3) := qd_c (by decide +kernel)
theorem kw_94 : Cond.fieldLink RX8 24 "SportsHouse$Things" "spanFrom" "[I" ∈ lw_g := lwq_1 (dqc_m (dqc_m (dqa_m (dqa_m (dqa_m (List.mem_of_getElem? (i := 6) rfl)))))) rfl
theorem dX8_init_47 : decode cX8_init 47 = .ok (.aload_n 0, 1) := qd_c (by decide +kernel)
theorem dX8_init_48 : decode cX8_init 48 = .ok (.sipush 300, 3) := qd_c (by decide +kernel)
theorem dX8_init_51 : decode cX8_init 51 = .ok (.newarray .int, 2) := by decide +kernel
theorem dX8_init_53 : decode cX8_init 53 = .ok (.putfield 27, 3) := qd_c (by decide +kernel)
theorem kw_95 : Cond.fieldLink RX8 27 "SportsHouse$Things" "spanTo" "[I" ∈ lw_g := lwq_1 (dqc_m (dqc_m (dqa_m (dqa_m (dqa_m (List.mem_of_getElem? (i := 7) rfl)))))) rfl
theorem dX8_init_56 : decode cX8_init 56 = .ok (.aload_n 0, 1) := qd_c (by decide +kernel)
theorem dX8_init_57 : decode cX8_init 57 = .ok (.sipush 300, 3) := qd_c (by decide +kernel)
theorem dX8_init_60 : decode cX8_init 60 = .ok (.newarray .int, 2) := by decide +kernel
theorem dX8_init_62 : decode cX8_init 62 = .ok (.putfield 30, 3) := qd_c (by decide +kernel)
theorem kw_96 : Cond.fieldLink RX8 30 "SportsHouse$Things" "nextSpan" "[I" ∈ lw_g := lwq_1 (dqc_m (dqc_m (dqc_m (List.mem_of_getElem? (i := 0) rfl)))) rfl
theorem dX8_init_65 : decode cX8_init 65 = .ok (.aload_n 0, 1) := qd_c (by decide +kernel)
theorem dX8_init_66 : decode cX8_init 66 = .ok (.bipush 8, 2) := qd_c (by decide +kernel)
theorem dX8_init_68 : decode cX8_init 68 = .ok (.newarray .int, 2) := by decide +kernel
theorem dX8_init_70 : decode cX8_init 70 = .ok (.putfield 33, 3) := qd_c (by decide +kernel)
theorem kw_97 : Cond.fieldLink RX8 33 "SportsHouse$Things" "officialHome" "[I" ∈ lw_g := lwq_1 (dqc_m (dqc_m (dqc_m (List.mem_of_getElem? (i := 1) rfl)))) rfl
theorem dX8_init_73 : decode cX8_init 73 = .ok (.aload_n 0, 1) := qd_c (by decide +kernel)
theorem dX8_init_74 : decode cX8_init 74 = .ok (.bipush 8, 2) := qd_c (by decide +kernel)
theorem dX8_init_76 : decode cX8_init 76 = .ok (.newarray .int, 2) := by decide +kernel
theorem dX8_init_78 : decode cX8_init 78 = .ok (.putfield 36, 3) := qd_c (by decide +kernel)
theorem kw_100 : Cond.fieldLink RX8 36 "SportsHouse$Things" "officialCountry" "[I" ∈ lw_g := lwq_1 (dqc_m (dqc_m (dqc_m (List.mem_of_getElem? (i := 4) rfl)))) rfl
theorem dX8_init_81 : decode cX8_init 81 = .ok (.return_, 1) := qd_c (by decide +kernel)
set_option maxHeartbeats 4000000 in
set_option maxRecDepth 100000 in
theorem ct_X8_init (l : Launch) (dC : Nat → ClassId) (dI : Nat → Nat → Nat) (h0 : Nat) (sz : Nat)  : Met l yX8_init (.code yX8_init cX8_init 1 none :: lw_g) ({ frames := 1, cells := 9, slots := 1440, locals := 60 }) (ro_P dC dI [(h0, .inr (8, [.null, .null, .int 0, .int 0, .null, .int 0, .null, .null, .null, .null, .null, .null, .int 0, .int 0]))] [] sz [.ref h0]) (va_Qv (fun (_ : Unit) => True) (fun _ t => ∃ (q1 : Nat) (q3 : Nat) (q5 : Nat) (q7 : Nat) (q9 : Nat) (q11 : Nat) (q13 : Nat) (q15 : Nat) (q17 : Nat) (k2 : ClassId) (k4 : ClassId) (k6 : ClassId) (k8 : ClassId) (k10 : ClassId) (k12 : ClassId) (k14 : ClassId) (k16 : ClassId) (k18 : ClassId), va_P (dC, dI) vwCl [(h0, .inr (8, [.ref q1, .ref q3, .int 0, .int 0, .ref q5, .int 0, .ref q7, .ref q9, .ref q11, .ref q13, .ref q15, .ref q17, .int 0, .int 0])), (q1, .inl (k2, 12, .inl (fun _ => 0))), (q3, .inl (k4, 12, .inl (fun _ => 0))), (q5, .inl (k6, 200, .inl (fun _ => 0))), (q7, .inl (k8, 300, .inl (fun _ => 0))), (q9, .inl (k10, 300, .inl (fun _ => 0))), (q11, .inl (k12, 300, .inl (fun _ => 0))), (q13, .inl (k14, 300, .inl (fun _ => 0))), (q15, .inl (k16, 8, .inl (fun _ => 0))), (q17, .inl (k18, 8, .inl (fun _ => 0)))] t.heap ∧ va_K (dC, dI) vwCl [(k2, .int), (k4, .int), (k6, .int), (k8, .int), (k10, .int), (k12, .int), (k14, .int), (k16, .int), (k18, .int)] t ∧ va_D (va_A [(h0, .inr (8, [.null, .null, .int 0, .int 0, .null, .int 0, .null, .null, .null, .null, .null, .null, .int 0, .int 0]))] sz) [(h0, .inr (8, [.ref q1, .ref q3, .int 0, .int 0, .ref q5, .int 0, .ref q7, .ref q9, .ref q11, .ref q13, .ref q15, .ref q17, .int 0, .int 0])), (q1, .inl (k2, 12, .inl (fun _ => 0))), (q3, .inl (k4, 12, .inl (fun _ => 0))), (q5, .inl (k6, 200, .inl (fun _ => 0))), (q7, .inl (k8, 300, .inl (fun _ => 0))), (q9, .inl (k10, 300, .inl (fun _ => 0))), (q11, .inl (k12, 300, .inl (fun _ => 0))), (q13, .inl (k14, 300, .inl (fun _ => 0))), (q15, .inl (k16, 8, .inl (fun _ => 0))), (q17, .inl (k18, 8, .inl (fun _ => 0)))]) (va_A [(h0, .inr (8, [.null, .null, .int 0, .int 0, .null, .int 0, .null, .null, .null, .null, .null, .null, .int 0, .int 0]))] sz)) 9 1440 (va_A [(h0, .inr (8, [.null, .null, .int 0, .int 0, .null, .int 0, .null, .null, .null, .null, .null, .null, .int 0, .int 0]))] sz) := by
  refine ro_entry (by decide) (Nat.le_of_ble_eq_true rfl) ?_
  intro p e s m below meth c ls hx hb hr hlocks ht hown hin hml hsz hP hK hD hE hl
  subst hsz
  have hD := hD.self (sz := s.heap.size)
  generalize hAe : va_A [(h0, .inr (8, [.null, .null, .int 0, .int 0, .null, .int 0, .null, .null, .null, .null, .null, .null, .int 0, .int 0]))] s.heap.size = A at hD ⊢
  have hA : ∀ q, s.heap.size ≤ q → A q := fun q h => by rw [← hAe]; exact Or.inr h
  have hS : va_S A s.heap s.heap [] := va_S.rf
  have hl : lv_has ls 1 [(0, .ref h0)] := hl
  have hown : s.vm.findClass RX8 = some m.cls := hown
  refine lv_aload_n hx hb dX8_init_0 rfl (lv_at hl 0 rfl) ?_
  refine W.objInit hx hb hown (ht _ kw_78) (ht _ kw_27) (ht _ kw_28) rfl (by rw [hml]; exact hl.1) rfl dX8_init_1 (Nat.le_of_ble_eq_true rfl) (Nat.le_of_ble_eq_true rfl) ?_
  refine W.eq (g2 := F0 m 4 ls []) rfl ?_
  refine lv_aload_n hx hb dX8_init_4 rfl (lv_at hl 0 rfl) ?_
  refine lv_bipush (v := 12) hx hb dX8_init_5 (by decide) ?_
  refine va_newa (atype := .int) (ty := .int) (a0 := (12, .inl (fun _ => 0))) hx hb (ht _ kw_72) rfl hK hP hD hS hA (fun _ => rfl) (by decide) (by decide) (Nat.le_of_ble_eq_true rfl) (Nat.le_of_ble_eq_true rfl) (Nat.le_of_ble_eq_true rfl) dX8_init_7 (fun q1 k2 H hK hP hD hS => ?_)
  have hP : va_P (dC, dI) vwCl [(h0, .inr (8, [.null, .null, .int 0, .int 0, .null, .int 0, .null, .null, .null, .null, .null, .null, .int 0, .int 0])), (q1, .inl (k2, 12, .inl (fun _ => 0)))] H := hP
  have hD : va_D A [(h0, .inr (8, [.null, .null, .int 0, .int 0, .null, .int 0, .null, .null, .null, .null, .null, .null, .int 0, .int 0])), (q1, .inl (k2, 12, .inl (fun _ => 0)))] := hD
  have hK : va_K (dC, dI) vwCl [(k2, .int)] s := hK
  refine W.widen (k := 1) (n := 12) (Nat.le_of_ble_eq_true rfl) (Nat.le_of_ble_eq_true rfl) ?_
  refine va_putF (D := (dC, dI)) (ci := 8) (v := .ref q1) (ty := .array .int) (C := RX8) (T := TX8) (N := 14) hx hb ht inX8 tyX8 tyX8_ok nmX8 hown hK hP hD hS 0 rfl rfl 0 (by decide) (ht _ kw_79) (fun _ h9 => h9) rfl hin rfl (by decide +kernel) rfl rfl (Nat.le_of_ble_eq_true rfl) dX8_init_9 (fun H locs hP hD hS => ?_)
  have hP : va_P (dC, dI) vwCl [(h0, .inr (8, [.ref q1, .null, .int 0, .int 0, .null, .int 0, .null, .null, .null, .null, .null, .null, .int 0, .int 0])), (q1, .inl (k2, 12, .inl (fun _ => 0)))] H := hP
  have hD : va_D A [(h0, .inr (8, [.ref q1, .null, .int 0, .int 0, .null, .int 0, .null, .null, .null, .null, .null, .null, .int 0, .int 0])), (q1, .inl (k2, 12, .inl (fun _ => 0)))] := hD
  refine lv_aload_n hx hb dX8_init_12 rfl (lv_at hl 0 rfl) ?_
  refine lv_bipush (v := 12) hx hb dX8_init_13 (by decide) ?_
  refine va_newa (atype := .int) (ty := .int) (a0 := (12, .inl (fun _ => 0))) hx hb (ht _ kw_72) rfl hK hP hD hS hA (fun _ => rfl) (by decide) (by decide) (Nat.le_of_ble_eq_true rfl) (Nat.le_of_ble_eq_true rfl) (Nat.le_of_ble_eq_true rfl) dX8_init_15 (fun q3 k4 H hK hP hD hS => ?_)
  have hP : va_P (dC, dI) vwCl [(h0, .inr (8, [.ref q1, .null, .int 0, .int 0, .null, .int 0, .null, .null, .null, .null, .null, .null, .int 0, .int 0])), (q1, .inl (k2, 12, .inl (fun _ => 0))), (q3, .inl (k4, 12, .inl (fun _ => 0)))] H := hP
  have hD : va_D A [(h0, .inr (8, [.ref q1, .null, .int 0, .int 0, .null, .int 0, .null, .null, .null, .null, .null, .null, .int 0, .int 0])), (q1, .inl (k2, 12, .inl (fun _ => 0))), (q3, .inl (k4, 12, .inl (fun _ => 0)))] := hD
  have hK : va_K (dC, dI) vwCl [(k2, .int), (k4, .int)] s := hK
  refine W.widen (k := 2) (n := 24) (Nat.le_of_ble_eq_true rfl) (Nat.le_of_ble_eq_true rfl) ?_
  refine va_putF (D := (dC, dI)) (ci := 8) (v := .ref q3) (ty := .array .int) (C := RX8) (T := TX8) (N := 14) hx hb ht inX8 tyX8 tyX8_ok nmX8 hown hK hP hD hS 0 rfl rfl 1 (by decide) (ht _ kw_83) (fun _ h9 => h9) rfl hin rfl (by decide +kernel) rfl rfl (Nat.le_of_ble_eq_true rfl) dX8_init_17 (fun H locs hP hD hS => ?_)
  have hP : va_P (dC, dI) vwCl [(h0, .inr (8, [.ref q1, .ref q3, .int 0, .int 0, .null, .int 0, .null, .null, .null, .null, .null, .null, .int 0, .int 0])), (q1, .inl (k2, 12, .inl (fun _ => 0))), (q3, .inl (k4, 12, .inl (fun _ => 0)))] H := hP
  have hD : va_D A [(h0, .inr (8, [.ref q1, .ref q3, .int 0, .int 0, .null, .int 0, .null, .null, .null, .null, .null, .null, .int 0, .int 0])), (q1, .inl (k2, 12, .inl (fun _ => 0))), (q3, .inl (k4, 12, .inl (fun _ => 0)))] := hD
  refine lv_aload_n hx hb dX8_init_20 rfl (lv_at hl 0 rfl) ?_
  refine lv_sipush (v := 200) hx hb dX8_init_21 (by decide) ?_
  refine va_newa (atype := .int) (ty := .int) (a0 := (200, .inl (fun _ => 0))) hx hb (ht _ kw_72) rfl hK hP hD hS hA (fun _ => rfl) (by decide) (by decide) (Nat.le_of_ble_eq_true rfl) (Nat.le_of_ble_eq_true rfl) (Nat.le_of_ble_eq_true rfl) dX8_init_24 (fun q5 k6 H hK hP hD hS => ?_)
  have hP : va_P (dC, dI) vwCl [(h0, .inr (8, [.ref q1, .ref q3, .int 0, .int 0, .null, .int 0, .null, .null, .null, .null, .null, .null, .int 0, .int 0])), (q1, .inl (k2, 12, .inl (fun _ => 0))), (q3, .inl (k4, 12, .inl (fun _ => 0))), (q5, .inl (k6, 200, .inl (fun _ => 0)))] H := hP
  have hD : va_D A [(h0, .inr (8, [.ref q1, .ref q3, .int 0, .int 0, .null, .int 0, .null, .null, .null, .null, .null, .null, .int 0, .int 0])), (q1, .inl (k2, 12, .inl (fun _ => 0))), (q3, .inl (k4, 12, .inl (fun _ => 0))), (q5, .inl (k6, 200, .inl (fun _ => 0)))] := hD
  have hK : va_K (dC, dI) vwCl [(k2, .int), (k4, .int), (k6, .int)] s := hK
  refine W.widen (k := 3) (n := 224) (Nat.le_of_ble_eq_true rfl) (Nat.le_of_ble_eq_true rfl) ?_
  refine va_putF (D := (dC, dI)) (ci := 8) (v := .ref q5) (ty := .array .int) (C := RX8) (T := TX8) (N := 14) hx hb ht inX8 tyX8 tyX8_ok nmX8 hown hK hP hD hS 0 rfl rfl 4 (by decide) (ht _ kw_89) (fun _ h9 => h9) rfl hin rfl (by decide +kernel) rfl rfl (Nat.le_of_ble_eq_true rfl) dX8_init_26 (fun H locs hP hD hS => ?_)
  have hP : va_P (dC, dI) vwCl [(h0, .inr (8, [.ref q1, .ref q3, .int 0, .int 0, .ref q5, .int 0, .null, .null, .null, .null, .null, .null, .int 0, .int 0])), (q1, .inl (k2, 12, .inl (fun _ => 0))), (q3, .inl (k4, 12, .inl (fun _ => 0))), (q5, .inl (k6, 200, .inl (fun _ => 0)))] H := hP
  have hD : va_D A [(h0, .inr (8, [.ref q1, .ref q3, .int 0, .int 0, .ref q5, .int 0, .null, .null, .null, .null, .null, .null, .int 0, .int 0])), (q1, .inl (k2, 12, .inl (fun _ => 0))), (q3, .inl (k4, 12, .inl (fun _ => 0))), (q5, .inl (k6, 200, .inl (fun _ => 0)))] := hD
  refine lv_aload_n hx hb dX8_init_29 rfl (lv_at hl 0 rfl) ?_
  refine lv_sipush (v := 300) hx hb dX8_init_30 (by decide) ?_
  refine va_newa (atype := .int) (ty := .int) (a0 := (300, .inl (fun _ => 0))) hx hb (ht _ kw_72) rfl hK hP hD hS hA (fun _ => rfl) (by decide) (by decide) (Nat.le_of_ble_eq_true rfl) (Nat.le_of_ble_eq_true rfl) (Nat.le_of_ble_eq_true rfl) dX8_init_33 (fun q7 k8 H hK hP hD hS => ?_)
  have hP : va_P (dC, dI) vwCl [(h0, .inr (8, [.ref q1, .ref q3, .int 0, .int 0, .ref q5, .int 0, .null, .null, .null, .null, .null, .null, .int 0, .int 0])), (q1, .inl (k2, 12, .inl (fun _ => 0))), (q3, .inl (k4, 12, .inl (fun _ => 0))), (q5, .inl (k6, 200, .inl (fun _ => 0))), (q7, .inl (k8, 300, .inl (fun _ => 0)))] H := hP
  have hD : va_D A [(h0, .inr (8, [.ref q1, .ref q3, .int 0, .int 0, .ref q5, .int 0, .null, .null, .null, .null, .null, .null, .int 0, .int 0])), (q1, .inl (k2, 12, .inl (fun _ => 0))), (q3, .inl (k4, 12, .inl (fun _ => 0))), (q5, .inl (k6, 200, .inl (fun _ => 0))), (q7, .inl (k8, 300, .inl (fun _ => 0)))] := hD
  have hK : va_K (dC, dI) vwCl [(k2, .int), (k4, .int), (k6, .int), (k8, .int)] s := hK
  refine W.widen (k := 4) (n := 524) (Nat.le_of_ble_eq_true rfl) (Nat.le_of_ble_eq_true rfl) ?_
  refine va_putF (D := (dC, dI)) (ci := 8) (v := .ref q7) (ty := .array .int) (C := RX8) (T := TX8) (N := 14) hx hb ht inX8 tyX8 tyX8_ok nmX8 hown hK hP hD hS 0 rfl rfl 6 (by decide) (ht _ kw_93) (fun _ h9 => h9) rfl hin rfl (by decide +kernel) rfl rfl (Nat.le_of_ble_eq_true rfl) dX8_init_35 (fun H locs hP hD hS => ?_)
  have hP : va_P (dC, dI) vwCl [(h0, .inr (8, [.ref q1, .ref q3, .int 0, .int 0, .ref q5, .int 0, .ref q7, .null, .null, .null, .null, .null, .int 0, .int 0])), (q1, .inl (k2, 12, .inl (fun _ => 0))), (q3, .inl (k4, 12, .inl (fun _ => 0))), (q5, .inl (k6, 200, .inl (fun _ => 0))), (q7, .inl (k8, 300, .inl (fun _ => 0)))] H := hP
  have hD : va_D A [(h0, .inr (8, [.ref q1, .ref q3, .int 0, .int 0, .ref q5, .int 0, .ref q7, .null, .null, .null, .null, .null, .int 0, .int 0])), (q1, .inl (k2, 12, .inl (fun _ => 0))), (q3, .inl (k4, 12, .inl (fun _ => 0))), (q5, .inl (k6, 200, .inl (fun _ => 0))), (q7, .inl (k8, 300, .inl (fun _ => 0)))] := hD
  refine lv_aload_n hx hb dX8_init_38 rfl (lv_at hl 0 rfl) ?_
  refine lv_sipush (v := 300) hx hb dX8_init_39 (by decide) ?_
  refine va_newa (atype := .int) (ty := .int) (a0 := (300, .inl (fun _ => 0))) hx hb (ht _ kw_72) rfl hK hP hD hS hA (fun _ => rfl) (by decide) (by decide) (Nat.le_of_ble_eq_true rfl) (Nat.le_of_ble_eq_true rfl) (Nat.le_of_ble_eq_true rfl) dX8_init_42 (fun q9 k10 H hK hP hD hS => ?_)
  have hP : va_P (dC, dI) vwCl [(h0, .inr (8, [.ref q1, .ref q3, .int 0, .int 0, .ref q5, .int 0, .ref q7, .null, .null, .null, .null, .null, .int 0, .int 0])), (q1, .inl (k2, 12, .inl (fun _ => 0))), (q3, .inl (k4, 12, .inl (fun _ => 0))), (q5, .inl (k6, 200, .inl (fun _ => 0))), (q7, .inl (k8, 300, .inl (fun _ => 0))), (q9, .inl (k10, 300, .inl (fun _ => 0)))] H := hP
  have hD : va_D A [(h0, .inr (8, [.ref q1, .ref q3, .int 0, .int 0, .ref q5, .int 0, .ref q7, .null, .null, .null, .null, .null, .int 0, .int 0])), (q1, .inl (k2, 12, .inl (fun _ => 0))), (q3, .inl (k4, 12, .inl (fun _ => 0))), (q5, .inl (k6, 200, .inl (fun _ => 0))), (q7, .inl (k8, 300, .inl (fun _ => 0))), (q9, .inl (k10, 300, .inl (fun _ => 0)))] := hD
  have hK : va_K (dC, dI) vwCl [(k2, .int), (k4, .int), (k6, .int), (k8, .int), (k10, .int)] s := hK
  refine W.widen (k := 5) (n := 824) (Nat.le_of_ble_eq_true rfl) (Nat.le_of_ble_eq_true rfl) ?_
  refine va_putF (D := (dC, dI)) (ci := 8) (v := .ref q9) (ty := .array .int) (C := RX8) (T := TX8) (N := 14) hx hb ht inX8 tyX8 tyX8_ok nmX8 hown hK hP hD hS 0 rfl rfl 7 (by decide) (ht _ kw_94) (fun _ h9 => h9) rfl hin rfl (by decide +kernel) rfl rfl (Nat.le_of_ble_eq_true rfl) dX8_init_44 (fun H locs hP hD hS => ?_)
  have hP : va_P (dC, dI) vwCl [(h0, .inr (8, [.ref q1, .ref q3, .int 0, .int 0, .ref q5, .int 0, .ref q7, .ref q9, .null, .null, .null, .null, .int 0, .int 0])), (q1, .inl (k2, 12, .inl (fun _ => 0))), (q3, .inl (k4, 12, .inl (fun _ => 0))), (q5, .inl (k6, 200, .inl (fun _ => 0))), (q7, .inl (k8, 300, .inl (fun _ => 0))), (q9, .inl (k10, 300, .inl (fun _ => 0)))] H := hP
  have hD : va_D A [(h0, .inr (8, [.ref q1, .ref q3, .int 0, .int 0, .ref q5, .int 0, .ref q7, .ref q9, .null, .null, .null, .null, .int 0, .int 0])), (q1, .inl (k2, 12, .inl (fun _ => 0))), (q3, .inl (k4, 12, .inl (fun _ => 0))), (q5, .inl (k6, 200, .inl (fun _ => 0))), (q7, .inl (k8, 300, .inl (fun _ => 0))), (q9, .inl (k10, 300, .inl (fun _ => 0)))] := hD
  refine lv_aload_n hx hb dX8_init_47 rfl (lv_at hl 0 rfl) ?_
  refine lv_sipush (v := 300) hx hb dX8_init_48 (by decide) ?_
  refine va_newa (atype := .int) (ty := .int) (a0 := (300, .inl (fun _ => 0))) hx hb (ht _ kw_72) rfl hK hP hD hS hA (fun _ => rfl) (by decide) (by decide) (Nat.le_of_ble_eq_true rfl) (Nat.le_of_ble_eq_true rfl) (Nat.le_of_ble_eq_true rfl) dX8_init_51 (fun q11 k12 H hK hP hD hS => ?_)
  have hP : va_P (dC, dI) vwCl [(h0, .inr (8, [.ref q1, .ref q3, .int 0, .int 0, .ref q5, .int 0, .ref q7, .ref q9, .null, .null, .null, .null, .int 0, .int 0])), (q1, .inl (k2, 12, .inl (fun _ => 0))), (q3, .inl (k4, 12, .inl (fun _ => 0))), (q5, .inl (k6, 200, .inl (fun _ => 0))), (q7, .inl (k8, 300, .inl (fun _ => 0))), (q9, .inl (k10, 300, .inl (fun _ => 0))), (q11, .inl (k12, 300, .inl (fun _ => 0)))] H := hP
  have hD : va_D A [(h0, .inr (8, [.ref q1, .ref q3, .int 0, .int 0, .ref q5, .int 0, .ref q7, .ref q9, .null, .null, .null, .null, .int 0, .int 0])), (q1, .inl (k2, 12, .inl (fun _ => 0))), (q3, .inl (k4, 12, .inl (fun _ => 0))), (q5, .inl (k6, 200, .inl (fun _ => 0))), (q7, .inl (k8, 300, .inl (fun _ => 0))), (q9, .inl (k10, 300, .inl (fun _ => 0))), (q11, .inl (k12, 300, .inl (fun _ => 0)))] := hD
  have hK : va_K (dC, dI) vwCl [(k2, .int), (k4, .int), (k6, .int), (k8, .int), (k10, .int), (k12, .int)] s := hK
  refine W.widen (k := 6) (n := 1124) (Nat.le_of_ble_eq_true rfl) (Nat.le_of_ble_eq_true rfl) ?_
  refine va_putF (D := (dC, dI)) (ci := 8) (v := .ref q11) (ty := .array .int) (C := RX8) (T := TX8) (N := 14) hx hb ht inX8 tyX8 tyX8_ok nmX8 hown hK hP hD hS 0 rfl rfl 8 (by decide) (ht _ kw_95) (fun _ h9 => h9) rfl hin rfl (by decide +kernel) rfl rfl (Nat.le_of_ble_eq_true rfl) dX8_init_53 (fun H locs hP hD hS => ?_)
  have hP : va_P (dC, dI) vwCl [(h0, .inr (8, [.ref q1, .ref q3, .int 0, .int 0, .ref q5, .int 0, .ref q7, .ref q9, .ref q11, .null, .null, .null, .int 0, .int 0])), (q1, .inl (k2, 12, .inl (fun _ => 0))), (q3, .inl (k4, 12, .inl (fun _ => 0))), (q5, .inl (k6, 200, .inl (fun _ => 0))), (q7, .inl (k8, 300, .inl (fun _ => 0))), (q9, .inl (k10, 300, .inl (fun _ => 0))), (q11, .inl (k12, 300, .inl (fun _ => 0)))] H := hP
  have hD : va_D A [(h0, .inr (8, [.ref q1, .ref q3, .int 0, .int 0, .ref q5, .int 0, .ref q7, .ref q9, .ref q11, .null, .null, .null, .int 0, .int 0])), (q1, .inl (k2, 12, .inl (fun _ => 0))), (q3, .inl (k4, 12, .inl (fun _ => 0))), (q5, .inl (k6, 200, .inl (fun _ => 0))), (q7, .inl (k8, 300, .inl (fun _ => 0))), (q9, .inl (k10, 300, .inl (fun _ => 0))), (q11, .inl (k12, 300, .inl (fun _ => 0)))] := hD
  refine lv_aload_n hx hb dX8_init_56 rfl (lv_at hl 0 rfl) ?_
  refine lv_sipush (v := 300) hx hb dX8_init_57 (by decide) ?_
  refine va_newa (atype := .int) (ty := .int) (a0 := (300, .inl (fun _ => 0))) hx hb (ht _ kw_72) rfl hK hP hD hS hA (fun _ => rfl) (by decide) (by decide) (Nat.le_of_ble_eq_true rfl) (Nat.le_of_ble_eq_true rfl) (Nat.le_of_ble_eq_true rfl) dX8_init_60 (fun q13 k14 H hK hP hD hS => ?_)
  have hP : va_P (dC, dI) vwCl [(h0, .inr (8, [.ref q1, .ref q3, .int 0, .int 0, .ref q5, .int 0, .ref q7, .ref q9, .ref q11, .null, .null, .null, .int 0, .int 0])), (q1, .inl (k2, 12, .inl (fun _ => 0))), (q3, .inl (k4, 12, .inl (fun _ => 0))), (q5, .inl (k6, 200, .inl (fun _ => 0))), (q7, .inl (k8, 300, .inl (fun _ => 0))), (q9, .inl (k10, 300, .inl (fun _ => 0))), (q11, .inl (k12, 300, .inl (fun _ => 0))), (q13, .inl (k14, 300, .inl (fun _ => 0)))] H := hP
  have hD : va_D A [(h0, .inr (8, [.ref q1, .ref q3, .int 0, .int 0, .ref q5, .int 0, .ref q7, .ref q9, .ref q11, .null, .null, .null, .int 0, .int 0])), (q1, .inl (k2, 12, .inl (fun _ => 0))), (q3, .inl (k4, 12, .inl (fun _ => 0))), (q5, .inl (k6, 200, .inl (fun _ => 0))), (q7, .inl (k8, 300, .inl (fun _ => 0))), (q9, .inl (k10, 300, .inl (fun _ => 0))), (q11, .inl (k12, 300, .inl (fun _ => 0))), (q13, .inl (k14, 300, .inl (fun _ => 0)))] := hD
  have hK : va_K (dC, dI) vwCl [(k2, .int), (k4, .int), (k6, .int), (k8, .int), (k10, .int), (k12, .int), (k14, .int)] s := hK
  refine W.widen (k := 7) (n := 1424) (Nat.le_of_ble_eq_true rfl) (Nat.le_of_ble_eq_true rfl) ?_
  refine va_putF (D := (dC, dI)) (ci := 8) (v := .ref q13) (ty := .array .int) (C := RX8) (T := TX8) (N := 14) hx hb ht inX8 tyX8 tyX8_ok nmX8 hown hK hP hD hS 0 rfl rfl 9 (by decide) (ht _ kw_96) (fun _ h9 => h9) rfl hin rfl (by decide +kernel) rfl rfl (Nat.le_of_ble_eq_true rfl) dX8_init_62 (fun H locs hP hD hS => ?_)
  have hP : va_P (dC, dI) vwCl [(h0, .inr (8, [.ref q1, .ref q3, .int 0, .int 0, .ref q5, .int 0, .ref q7, .ref q9, .ref q11, .ref q13, .null, .null, .int 0, .int 0])), (q1, .inl (k2, 12, .inl (fun _ => 0))), (q3, .inl (k4, 12, .inl (fun _ => 0))), (q5, .inl (k6, 200, .inl (fun _ => 0))), (q7, .inl (k8, 300, .inl (fun _ => 0))), (q9, .inl (k10, 300, .inl (fun _ => 0))), (q11, .inl (k12, 300, .inl (fun _ => 0))), (q13, .inl (k14, 300, .inl (fun _ => 0)))] H := hP
  have hD : va_D A [(h0, .inr (8, [.ref q1, .ref q3, .int 0, .int 0, .ref q5, .int 0, .ref q7, .ref q9, .ref q11, .ref q13, .null, .null, .int 0, .int 0])), (q1, .inl (k2, 12, .inl (fun _ => 0))), (q3, .inl (k4, 12, .inl (fun _ => 0))), (q5, .inl (k6, 200, .inl (fun _ => 0))), (q7, .inl (k8, 300, .inl (fun _ => 0))), (q9, .inl (k10, 300, .inl (fun _ => 0))), (q11, .inl (k12, 300, .inl (fun _ => 0))), (q13, .inl (k14, 300, .inl (fun _ => 0)))] := hD
  refine lv_aload_n hx hb dX8_init_65 rfl (lv_at hl 0 rfl) ?_
  refine lv_bipush (v := 8) hx hb dX8_init_66 (by decide) ?_
  refine va_newa (atype := .int) (ty := .int) (a0 := (8, .inl (fun _ => 0))) hx hb (ht _ kw_72) rfl hK hP hD hS hA (fun _ => rfl) (by decide) (by decide) (Nat.le_of_ble_eq_true rfl) (Nat.le_of_ble_eq_true rfl) (Nat.le_of_ble_eq_true rfl) dX8_init_68 (fun q15 k16 H hK hP hD hS => ?_)
  have hP : va_P (dC, dI) vwCl [(h0, .inr (8, [.ref q1, .ref q3, .int 0, .int 0, .ref q5, .int 0, .ref q7, .ref q9, .ref q11, .ref q13, .null, .null, .int 0, .int 0])), (q1, .inl (k2, 12, .inl (fun _ => 0))), (q3, .inl (k4, 12, .inl (fun _ => 0))), (q5, .inl (k6, 200, .inl (fun _ => 0))), (q7, .inl (k8, 300, .inl (fun _ => 0))), (q9, .inl (k10, 300, .inl (fun _ => 0))), (q11, .inl (k12, 300, .inl (fun _ => 0))), (q13, .inl (k14, 300, .inl (fun _ => 0))), (q15, .inl (k16, 8, .inl (fun _ => 0)))] H := hP
  have hD : va_D A [(h0, .inr (8, [.ref q1, .ref q3, .int 0, .int 0, .ref q5, .int 0, .ref q7, .ref q9, .ref q11, .ref q13, .null, .null, .int 0, .int 0])), (q1, .inl (k2, 12, .inl (fun _ => 0))), (q3, .inl (k4, 12, .inl (fun _ => 0))), (q5, .inl (k6, 200, .inl (fun _ => 0))), (q7, .inl (k8, 300, .inl (fun _ => 0))), (q9, .inl (k10, 300, .inl (fun _ => 0))), (q11, .inl (k12, 300, .inl (fun _ => 0))), (q13, .inl (k14, 300, .inl (fun _ => 0))), (q15, .inl (k16, 8, .inl (fun _ => 0)))] := hD
  have hK : va_K (dC, dI) vwCl [(k2, .int), (k4, .int), (k6, .int), (k8, .int), (k10, .int), (k12, .int), (k14, .int), (k16, .int)] s := hK
  refine W.widen (k := 8) (n := 1432) (Nat.le_of_ble_eq_true rfl) (Nat.le_of_ble_eq_true rfl) ?_
  refine va_putF (D := (dC, dI)) (ci := 8) (v := .ref q15) (ty := .array .int) (C := RX8) (T := TX8) (N := 14) hx hb ht inX8 tyX8 tyX8_ok nmX8 hown hK hP hD hS 0 rfl rfl 10 (by decide) (ht _ kw_97) (fun _ h9 => h9) rfl hin rfl (by decide +kernel) rfl rfl (Nat.le_of_ble_eq_true rfl) dX8_init_70 (fun H locs hP hD hS => ?_)
  have hP : va_P (dC, dI) vwCl [(h0, .inr (8, [.ref q1, .ref q3, .int 0, .int 0, .ref q5, .int 0, .ref q7, .ref q9, .ref q11, .ref q13, .ref q15, .null, .int 0, .int 0])), (q1, .inl (k2, 12, .inl (fun _ => 0))), (q3, .inl (k4, 12, .inl (fun _ => 0))), (q5, .inl (k6, 200, .inl (fun _ => 0))), (q7, .inl (k8, 300, .inl (fun _ => 0))), (q9, .inl (k10, 300, .inl (fun _ => 0))), (q11, .inl (k12, 300, .inl (fun _ => 0))), (q13, .inl (k14, 300, .inl (fun _ => 0))), (q15, .inl (k16, 8, .inl (fun _ => 0)))] H := hP
  have hD : va_D A [(h0, .inr (8, [.ref q1, .ref q3, .int 0, .int 0, .ref q5, .int 0, .ref q7, .ref q9, .ref q11, .ref q13, .ref q15, .null, .int 0, .int 0])), (q1, .inl (k2, 12, .inl (fun _ => 0))), (q3, .inl (k4, 12, .inl (fun _ => 0))), (q5, .inl (k6, 200, .inl (fun _ => 0))), (q7, .inl (k8, 300, .inl (fun _ => 0))), (q9, .inl (k10, 300, .inl (fun _ => 0))), (q11, .inl (k12, 300, .inl (fun _ => 0))), (q13, .inl (k14, 300, .inl (fun _ => 0))), (q15, .inl (k16, 8, .inl (fun _ => 0)))] := hD
  refine lv_aload_n hx hb dX8_init_73 rfl (lv_at hl 0 rfl) ?_
  refine lv_bipush (v := 8) hx hb dX8_init_74 (by decide) ?_
  refine va_newa (atype := .int) (ty := .int) (a0 := (8, .inl (fun _ => 0))) hx hb (ht _ kw_72) rfl hK hP hD hS hA (fun _ => rfl) (by decide) (by decide) (Nat.le_of_ble_eq_true rfl) (Nat.le_of_ble_eq_true rfl) (Nat.le_of_ble_eq_true rfl) dX8_init_76 (fun q17 k18 H hK hP hD hS => ?_)
  have hP : va_P (dC, dI) vwCl [(h0, .inr (8, [.ref q1, .ref q3, .int 0, .int 0, .ref q5, .int 0, .ref q7, .ref q9, .ref q11, .ref q13, .ref q15, .null, .int 0, .int 0])), (q1, .inl (k2, 12, .inl (fun _ => 0))), (q3, .inl (k4, 12, .inl (fun _ => 0))), (q5, .inl (k6, 200, .inl (fun _ => 0))), (q7, .inl (k8, 300, .inl (fun _ => 0))), (q9, .inl (k10, 300, .inl (fun _ => 0))), (q11, .inl (k12, 300, .inl (fun _ => 0))), (q13, .inl (k14, 300, .inl (fun _ => 0))), (q15, .inl (k16, 8, .inl (fun _ => 0))), (q17, .inl (k18, 8, .inl (fun _ => 0)))] H := hP
  have hD : va_D A [(h0, .inr (8, [.ref q1, .ref q3, .int 0, .int 0, .ref q5, .int 0, .ref q7, .ref q9, .ref q11, .ref q13, .ref q15, .null, .int 0, .int 0])), (q1, .inl (k2, 12, .inl (fun _ => 0))), (q3, .inl (k4, 12, .inl (fun _ => 0))), (q5, .inl (k6, 200, .inl (fun _ => 0))), (q7, .inl (k8, 300, .inl (fun _ => 0))), (q9, .inl (k10, 300, .inl (fun _ => 0))), (q11, .inl (k12, 300, .inl (fun _ => 0))), (q13, .inl (k14, 300, .inl (fun _ => 0))), (q15, .inl (k16, 8, .inl (fun _ => 0))), (q17, .inl (k18, 8, .inl (fun _ => 0)))] := hD
  have hK : va_K (dC, dI) vwCl [(k2, .int), (k4, .int), (k6, .int), (k8, .int), (k10, .int), (k12, .int), (k14, .int), (k16, .int), (k18, .int)] s := hK
  refine W.widen (k := 9) (n := 1440) (Nat.le_of_ble_eq_true rfl) (Nat.le_of_ble_eq_true rfl) ?_
  refine va_putF (D := (dC, dI)) (ci := 8) (v := .ref q17) (ty := .array .int) (C := RX8) (T := TX8) (N := 14) hx hb ht inX8 tyX8 tyX8_ok nmX8 hown hK hP hD hS 0 rfl rfl 11 (by decide) (ht _ kw_100) (fun _ h9 => h9) rfl hin rfl (by decide +kernel) rfl rfl (Nat.le_of_ble_eq_true rfl) dX8_init_78 (fun H locs hP hD hS => ?_)
  have hP : va_P (dC, dI) vwCl [(h0, .inr (8, [.ref q1, .ref q3, .int 0, .int 0, .ref q5, .int 0, .ref q7, .ref q9, .ref q11, .ref q13, .ref q15, .ref q17, .int 0, .int 0])), (q1, .inl (k2, 12, .inl (fun _ => 0))), (q3, .inl (k4, 12, .inl (fun _ => 0))), (q5, .inl (k6, 200, .inl (fun _ => 0))), (q7, .inl (k8, 300, .inl (fun _ => 0))), (q9, .inl (k10, 300, .inl (fun _ => 0))), (q11, .inl (k12, 300, .inl (fun _ => 0))), (q13, .inl (k14, 300, .inl (fun _ => 0))), (q15, .inl (k16, 8, .inl (fun _ => 0))), (q17, .inl (k18, 8, .inl (fun _ => 0)))] H := hP
  have hD : va_D A [(h0, .inr (8, [.ref q1, .ref q3, .int 0, .int 0, .ref q5, .int 0, .ref q7, .ref q9, .ref q11, .ref q13, .ref q15, .ref q17, .int 0, .int 0])), (q1, .inl (k2, 12, .inl (fun _ => 0))), (q3, .inl (k4, 12, .inl (fun _ => 0))), (q5, .inl (k6, 200, .inl (fun _ => 0))), (q7, .inl (k8, 300, .inl (fun _ => 0))), (q9, .inl (k10, 300, .inl (fun _ => 0))), (q11, .inl (k12, 300, .inl (fun _ => 0))), (q13, .inl (k14, 300, .inl (fun _ => 0))), (q15, .inl (k16, 8, .inl (fun _ => 0))), (q17, .inl (k18, 8, .inl (fun _ => 0)))] := hD
  exact W.vret hx hb hr (fun t ht9 hW => ⟨⟨(), rfl, trivial, q1, q3, q5, q7, q9, q11, q13, q15, q17, k2, k4, k6, k8, k10, k12, k14, k16, k18, by rw [ht9]; exact hP, va_K.moved hW.alike hK, hD⟩, hS.F ht9⟩) hS.2.2 dX8_init_81
abbrev cX6_init : ByteArray := prog_8_method_1_code
def yX6_init : MethodName := ⟨RX6, "<init>", "(LSportsHouse$Things;)V"⟩
theorem dX6_init_0 : decode cX6_init 0 = .ok (.aload_n 0, 1) := qd_c (by decide +kernel)
theorem dX6_init_1 : decode cX6_init 1 = .ok (.invokespecial 3, 3) := qd_c (by decide +kernel)
theorem kw_141 : Cond.methodLink RX6 3 objectInit ∈ lw_g := lwq_1 (dqc_m (dqc_m (dqc_m (dqc_m (dqa_m (List.mem_of_getElem? (i := 5) rfl)))))) rfl
theorem dX6_init_4 : decode cX6_init 4 = .ok (.aload_n 0, 1) := qd_c (by decide +kernel)
theorem dX6_init_5 : decode cX6_init 5 = .ok (.iconst 4, 1) := qd_c (by decide +kernel)
theorem dX6_init_6 : decode cX6_init 6 = .ok (.anewarray 9, 3) := by decide +kernel
theorem kw_142 : Cond.classLink RX6 9 RX0 ∈ lw_g := lwq_1 (dqc_m (dqc_m (dqc_m (dqc_m (dqa_m (List.mem_of_getElem? (i := 6) rfl)))))) rfl
theorem dX6_init_9 : decode cX6_init 9 = .ok (.putfield 11, 3) := qd_c (by decide +kernel)
theorem kw_147 : Cond.fieldLink RX6 11 "SportsHouse$Season" "competitions" "[LSportsHouse$Competition;" ∈ lw_g := lwq_1 (dqc_m (dqc_m (dqc_m (dqc_m (dqa_m (dqa_m (List.mem_of_getElem? (i := 3) rfl))))))) rfl
theorem dX6_init_12 : decode cX6_init 12 = .ok (.aload_n 0, 1) := qd_c (by decide +kernel)
theorem dX6_init_13 : decode cX6_init 13 = .ok (.sipush 400, 3) := qd_c (by decide +kernel)
theorem dX6_init_16 : decode cX6_init 16 = .ok (.anewarray 17, 3) := by decide +kernel
theorem kw_144 : Cond.classLink RX6 17 RX2 ∈ lw_g := lwq_1 (dqc_m (dqc_m (dqc_m (dqc_m (dqa_m (dqa_m (List.mem_of_getElem? (i := 0) rfl))))))) rfl
theorem dX6_init_19 : decode cX6_init 19 = .ok (.putfield 19, 3) := qd_c (by decide +kernel)
theorem kw_150 : Cond.fieldLink RX6 19 "SportsHouse$Season" "matches" "[LSportsHouse$Match;" ∈ lw_g := lwq_1 (dqc_m (dqc_m (dqc_m (dqc_m (dqa_m (dqa_m (List.mem_of_getElem? (i := 6) rfl))))))) rfl
theorem dX6_init_22 : decode cX6_init 22 = .ok (.aload_n 0, 1) := qd_c (by decide +kernel)
theorem dX6_init_23 : decode cX6_init 23 = .ok (.bipush 50, 2) := qd_c (by decide +kernel)
theorem dX6_init_25 : decode cX6_init 25 = .ok (.newarray .int, 2) := by decide +kernel
theorem dX6_init_27 : decode cX6_init 27 = .ok (.putfield 23, 3) := qd_c (by decide +kernel)
theorem kw_161 : Cond.fieldLink RX6 23 "SportsHouse$Season" "deductedIn" "[I" ∈ lw_g := lwq_1 (dqc_m (dqc_m (dqc_m (dqc_m (dqc_m (List.mem_of_getElem? (i := 1) rfl)))))) rfl
theorem dX6_init_30 : decode cX6_init 30 = .ok (.aload_n 0, 1) := qd_c (by decide +kernel)
theorem dX6_init_31 : decode cX6_init 31 = .ok (.bipush 50, 2) := qd_c (by decide +kernel)
theorem dX6_init_33 : decode cX6_init 33 = .ok (.newarray .int, 2) := by decide +kernel
theorem dX6_init_35 : decode cX6_init 35 = .ok (.putfield 27, 3) := qd_c (by decide +kernel)
theorem kw_162 : Cond.fieldLink RX6 27 "SportsHouse$Season" "deductedFrom" "[I" ∈ lw_g := lwq_1 (dqc_m (dqc_m (dqc_m (dqc_m (dqc_m (List.mem_of_getElem? (i := 2) rfl)))))) rfl
theorem dX6_init_38 : decode cX6_init 38 = .ok (.aload_n 0, 1) := qd_c (by decide +kernel)
theorem dX6_init_39 : decode cX6_init 39 = .ok (.bipush 50, 2) := qd_c (by decide +kernel)
theorem dX6_init_41 : decode cX6_init 41 = .ok (.newarray .int, 2) := by decide +kernel
theorem dX6_init_43 : decode cX6_init 43 = .ok (.putfield 30, 3) := qd_c (by decide +kernel)
theorem kw_163 : Cond.fieldLink RX6 30 "SportsHouse$Season" "deductedPoints" "[I" ∈ lw_g := lwq_1 (dqc_m (dqc_m (dqc_m (dqc_m (dqc_m (List.mem_of_getElem? (i := 3) rfl)))))) rfl
theorem dX6_init_46 : decode cX6_init 46 = .ok (.aload_n 0, 1) := qd_c (by decide +kernel)
theorem dX6_init_47 : decode cX6_init 47 = .ok (.bipush 50, 2) := qd_c (by decide +kernel)
theorem dX6_init_49 : decode cX6_init 49 = .ok (.newarray .int, 2) := by decide +kernel
theorem dX6_init_51 : decode cX6_init 51 = .ok (.putfield 33, 3) := qd_c (by decide +kernel)
theorem kw_164 : Cond.fieldLink RX6 33 "SportsHouse$Season" "deductedOn" "[I" ∈ lw_g := lwq_1 (dqc_m (dqc_m (dqc_m (dqc_m (dqc_m (List.mem_of_getElem? (i := 4) rfl)))))) rfl
theorem dX6_init_54 : decode cX6_init 54 = .ok (.aload_n 0, 1) := qd_c (by decide +kernel)
theorem dX6_init_55 : decode cX6_init 55 = .ok (.sipush 400, 3) := qd_c (by decide +kernel)
theorem dX6_init_58 : decode cX6_init 58 = .ok (.newarray .int, 2) := by decide +kernel
theorem dX6_init_60 : decode cX6_init 60 = .ok (.putfield 36, 3) := qd_c (by decide +kernel)
theorem kw_165 : Cond.fieldLink RX6 36 "SportsHouse$Season" "movedMatches" "[I" ∈ lw_g := lwq_1 (dqc_m (dqc_m (dqc_m (dqc_m (dqc_m (List.mem_of_getElem? (i := 5) rfl)))))) rfl
theorem dX6_init_63 : decode cX6_init 63 = .ok (.aload_n 0, 1) := qd_c (by decide +kernel)
theorem dX6_init_64 : decode cX6_init 64 = .ok (.sipush 400, 3) := qd_c (by decide +kernel)
theorem dX6_init_67 : decode cX6_init 67 = .ok (.newarray .int, 2) := by decide +kernel
theorem dX6_init_69 : decode cX6_init 69 = .ok (.putfield 39, 3) := qd_c (by decide +kernel)
theorem kw_169 : Cond.fieldLink RX6 39 "SportsHouse$Season" "listed" "[I" ∈ lw_g := lwq_1 (dqc_m (dqc_m (dqc_m (dqc_m (dqc_m (dqa_m (List.mem_of_getElem? (i := 1) rfl))))))) rfl
theorem dX6_init_72 : decode cX6_init 72 = .ok (.aload_n 0, 1) := qd_c (by decide +kernel)
theorem dX6_init_73 : decode cX6_init 73 = .ok (.sipush 400, 3) := qd_c (by decide +kernel)
theorem dX6_init_76 : decode cX6_init 76 = .ok (.newarray .int, 2) := by decide +kernel
theorem dX6_init_78 : decode cX6_init 78 = .ok (.putfield 42, 3) := qd_c (by decide +kernel)
theorem kw_170 : Cond.fieldLink RX6 42 "SportsHouse$Season" "datesBefore" "[I" ∈ lw_g := lwq_1 (dqc_m (dqc_m (dqc_m (dqc_m (dqc_m (dqa_m (List.mem_of_getElem? (i := 2) rfl))))))) rfl
theorem dX6_init_81 : decode cX6_init 81 = .ok (.aload_n 0, 1) := qd_c (by decide +kernel)
theorem dX6_init_82 : decode cX6_init 82 = .ok (.sipush 1000, 3) := qd_c (by decide +kernel)
theorem dX6_init_85 : decode cX6_init 85 = .ok (.newarray .int, 2) := by decide +kernel
theorem dX6_init_87 : decode cX6_init 87 = .ok (.putfield 45, 3) := qd_c (by decide +kernel)
theorem kw_171 : Cond.fieldLink RX6 45 "SportsHouse$Season" "blocked" "[I" ∈ lw_g := lwq_1 (dqc_m (dqc_m (dqc_m (dqc_m (dqc_m (dqa_m (List.mem_of_getElem? (i := 3) rfl))))))) rfl
theorem dX6_init_90 : decode cX6_init 90 = .ok (.aload_n 0, 1) := qd_c (by decide +kernel)
theorem dX6_init_91 : decode cX6_init 91 = .ok (.aload_n 1, 1) := qd_c (by decide +kernel)
theorem dX6_init_92 : decode cX6_init 92 = .ok (.putfield 48, 3) := qd_c (by decide +kernel)
theorem kw_146 : Cond.fieldLink RX6 48 "SportsHouse$Season" "things" "LSportsHouse$Things;" ∈ lw_g := lwq_1 (dqc_m (dqc_m (dqc_m (dqc_m (dqa_m (dqa_m (List.mem_of_getElem? (i := 2) rfl))))))) rfl
theorem dX6_init_95 : decode cX6_init 95 = .ok (.return_, 1) := qd_c (by decide +kernel)
set_option maxHeartbeats 4000000 in
set_option maxRecDepth 100000 in
theorem ct_X6_init (l : Launch) (dC : Nat → ClassId) (dI : Nat → Nat → Nat) (h0 : Nat) (th : Nat) (sz : Nat)  : Met l yX6_init (.code yX6_init cX6_init 2 none :: lw_g) ({ frames := 1, cells := 10, slots := 2804, locals := 60 }) (ro_P dC dI [(h0, .inr (6, [.null, .null, .int 0, .null, .int 0, .int 0, .int 0, .null, .null, .null, .null, .null, .int 0, .null, .null, .null]))] [] sz [.ref h0, .ref th]) (va_Qv (fun (_ : Unit) => True) (fun _ t => ∃ (q1 : Nat) (q3 : Nat) (q5 : Nat) (q7 : Nat) (q9 : Nat) (q11 : Nat) (q13 : Nat) (q15 : Nat) (q17 : Nat) (q19 : Nat) (k2 : ClassId) (k4 : ClassId) (k6 : ClassId) (k8 : ClassId) (k10 : ClassId) (k12 : ClassId) (k14 : ClassId) (k16 : ClassId) (k18 : ClassId) (k20 : ClassId), va_P (dC, dI) vwCl [(h0, .inr (6, [.ref th, .ref q1, .int 0, .ref q3, .int 0, .int 0, .int 0, .ref q5, .ref q7, .ref q9, .ref q11, .ref q13, .int 0, .ref q15, .ref q17, .ref q19])), (q1, .inl (k2, 4, .inr (.inr (.inr (.inr (fun _ => none)))))), (q3, .inl (k4, 400, .inr (.inr (.inr (.inr (fun _ => none)))))), (q5, .inl (k6, 50, .inl (fun _ => 0))), (q7, .inl (k8, 50, .inl (fun _ => 0))), (q9, .inl (k10, 50, .inl (fun _ => 0))), (q11, .inl (k12, 50, .inl (fun _ => 0))), (q13, .inl (k14, 400, .inl (fun _ => 0))), (q15, .inl (k16, 400, .inl (fun _ => 0))), (q17, .inl (k18, 400, .inl (fun _ => 0))), (q19, .inl (k20, 1000, .inl (fun _ => 0)))] t.heap ∧ va_K (dC, dI) vwCl [(k2, .object RX0), (k4, .object RX2), (k6, .int), (k8, .int), (k10, .int), (k12, .int), (k14, .int), (k16, .int), (k18, .int), (k20, .int)] t ∧ va_D (va_A [(h0, .inr (6, [.null, .null, .int 0, .null, .int 0, .int 0, .int 0, .null, .null, .null, .null, .null, .int 0, .null, .null, .null]))] sz) [(h0, .inr (6, [.ref th, .ref q1, .int 0, .ref q3, .int 0, .int 0, .int 0, .ref q5, .ref q7, .ref q9, .ref q11, .ref q13, .int 0, .ref q15, .ref q17, .ref q19])), (q1, .inl (k2, 4, .inr (.inr (.inr (.inr (fun _ => none)))))), (q3, .inl (k4, 400, .inr (.inr (.inr (.inr (fun _ => none)))))), (q5, .inl (k6, 50, .inl (fun _ => 0))), (q7, .inl (k8, 50, .inl (fun _ => 0))), (q9, .inl (k10, 50, .inl (fun _ => 0))), (q11, .inl (k12, 50, .inl (fun _ => 0))), (q13, .inl (k14, 400, .inl (fun _ => 0))), (q15, .inl (k16, 400, .inl (fun _ => 0))), (q17, .inl (k18, 400, .inl (fun _ => 0))), (q19, .inl (k20, 1000, .inl (fun _ => 0)))]) (va_A [(h0, .inr (6, [.null, .null, .int 0, .null, .int 0, .int 0, .int 0, .null, .null, .null, .null, .null, .int 0, .null, .null, .null]))] sz)) 10 2804 (va_A [(h0, .inr (6, [.null, .null, .int 0, .null, .int 0, .int 0, .int 0, .null, .null, .null, .null, .null, .int 0, .null, .null, .null]))] sz) := by
  refine ro_entry (by decide) (Nat.le_of_ble_eq_true rfl) ?_
  intro p e s m below meth c ls hx hb hr hlocks ht hown hin hml hsz hP hK hD hE hl
  subst hsz
  have hD := hD.self (sz := s.heap.size)
  generalize hAe : va_A [(h0, .inr (6, [.null, .null, .int 0, .null, .int 0, .int 0, .int 0, .null, .null, .null, .null, .null, .int 0, .null, .null, .null]))] s.heap.size = A at hD ⊢
  have hA : ∀ q, s.heap.size ≤ q → A q := fun q h => by rw [← hAe]; exact Or.inr h
  have hS : va_S A s.heap s.heap [] := va_S.rf
  have hl : lv_has ls 2 [(0, .ref h0), (1, .ref th)] := hl
  have hown : s.vm.findClass RX6 = some m.cls := hown
  refine lv_aload_n hx hb dX6_init_0 rfl (lv_at hl 0 rfl) ?_
  refine W.objInit hx hb hown (ht _ kw_141) (ht _ kw_27) (ht _ kw_28) rfl (by rw [hml]; exact hl.1) rfl dX6_init_1 (Nat.le_of_ble_eq_true rfl) (Nat.le_of_ble_eq_true rfl) ?_
  refine W.eq (g2 := F0 m 4 ls []) rfl ?_
  refine lv_aload_n hx hb dX6_init_4 rfl (lv_at hl 0 rfl) ?_
  refine lv_iconst (v := 4) hx hb dX6_init_5 (by decide) ?_
  refine va_newq (C := RX0) (N' := 4) hx hb hown (ht _ kw_142) hE.1 hK hP hD hS hA (by decide) (by decide) (Nat.le_of_ble_eq_true rfl) (Nat.le_of_ble_eq_true rfl) (Nat.le_of_ble_eq_true rfl) dX6_init_6 (fun q1 k2 H hK hP hD hS => ?_)
  have hP : va_P (dC, dI) vwCl [(h0, .inr (6, [.null, .null, .int 0, .null, .int 0, .int 0, .int 0, .null, .null, .null, .null, .null, .int 0, .null, .null, .null])), (q1, .inl (k2, 4, .inr (.inr (.inr (.inr (fun _ => none))))))] H := hP
  have hD : va_D A [(h0, .inr (6, [.null, .null, .int 0, .null, .int 0, .int 0, .int 0, .null, .null, .null, .null, .null, .int 0, .null, .null, .null])), (q1, .inl (k2, 4, .inr (.inr (.inr (.inr (fun _ => none))))))] := hD
  have hK : va_K (dC, dI) vwCl [(k2, .object RX0)] s := hK
  refine W.widen (k := 1) (n := 4) (Nat.le_of_ble_eq_true rfl) (Nat.le_of_ble_eq_true rfl) ?_
  refine va_putF (D := (dC, dI)) (ci := 6) (v := .ref q1) (ty := .array (.object "SportsHouse$Competition")) (C := RX6) (T := TX6) (N := 16) hx hb ht inX6 tyX6 tyX6_ok nmX6 hown hK hP hD hS 0 rfl rfl 1 (by decide) (ht _ kw_147) (fun _ h9 => h9) rfl hin rfl (by decide +kernel) rfl rfl (Nat.le_of_ble_eq_true rfl) dX6_init_9 (fun H locs hP hD hS => ?_)
  have hP : va_P (dC, dI) vwCl [(h0, .inr (6, [.null, .ref q1, .int 0, .null, .int 0, .int 0, .int 0, .null, .null, .null, .null, .null, .int 0, .null, .null, .null])), (q1, .inl (k2, 4, .inr (.inr (.inr (.inr (fun _ => none))))))] H := hP
  have hD : va_D A [(h0, .inr (6, [.null, .ref q1, .int 0, .null, .int 0, .int 0, .int 0, .null, .null, .null, .null, .null, .int 0, .null, .null, .null])), (q1, .inl (k2, 4, .inr (.inr (.inr (.inr (fun _ => none))))))] := hD
  refine lv_aload_n hx hb dX6_init_12 rfl (lv_at hl 0 rfl) ?_
  refine lv_sipush (v := 400) hx hb dX6_init_13 (by decide) ?_
  refine va_newq (C := RX2) (N' := 400) hx hb hown (ht _ kw_144) hE.2.1 hK hP hD hS hA (by decide) (by decide) (Nat.le_of_ble_eq_true rfl) (Nat.le_of_ble_eq_true rfl) (Nat.le_of_ble_eq_true rfl) dX6_init_16 (fun q3 k4 H hK hP hD hS => ?_)
  have hP : va_P (dC, dI) vwCl [(h0, .inr (6, [.null, .ref q1, .int 0, .null, .int 0, .int 0, .int 0, .null, .null, .null, .null, .null, .int 0, .null, .null, .null])), (q1, .inl (k2, 4, .inr (.inr (.inr (.inr (fun _ => none)))))), (q3, .inl (k4, 400, .inr (.inr (.inr (.inr (fun _ => none))))))] H := hP
  have hD : va_D A [(h0, .inr (6, [.null, .ref q1, .int 0, .null, .int 0, .int 0, .int 0, .null, .null, .null, .null, .null, .int 0, .null, .null, .null])), (q1, .inl (k2, 4, .inr (.inr (.inr (.inr (fun _ => none)))))), (q3, .inl (k4, 400, .inr (.inr (.inr (.inr (fun _ => none))))))] := hD
  have hK : va_K (dC, dI) vwCl [(k2, .object RX0), (k4, .object RX2)] s := hK
  refine W.widen (k := 2) (n := 404) (Nat.le_of_ble_eq_true rfl) (Nat.le_of_ble_eq_true rfl) ?_
  refine va_putF (D := (dC, dI)) (ci := 6) (v := .ref q3) (ty := .array (.object "SportsHouse$Match")) (C := RX6) (T := TX6) (N := 16) hx hb ht inX6 tyX6 tyX6_ok nmX6 hown hK hP hD hS 0 rfl rfl 3 (by decide) (ht _ kw_150) (fun _ h9 => h9) rfl hin rfl (by decide +kernel) rfl rfl (Nat.le_of_ble_eq_true rfl) dX6_init_19 (fun H locs hP hD hS => ?_)
  have hP : va_P (dC, dI) vwCl [(h0, .inr (6, [.null, .ref q1, .int 0, .ref q3, .int 0, .int 0, .int 0, .null, .null, .null, .null, .null, .int 0, .null, .null, .null])), (q1, .inl (k2, 4, .inr (.inr (.inr (.inr (fun _ => none)))))), (q3, .inl (k4, 400, .inr (.inr (.inr (.inr (fun _ => none))))))] H := hP
  have hD : va_D A [(h0, .inr (6, [.null, .ref q1, .int 0, .ref q3, .int 0, .int 0, .int 0, .null, .null, .null, .null, .null, .int 0, .null, .null, .null])), (q1, .inl (k2, 4, .inr (.inr (.inr (.inr (fun _ => none)))))), (q3, .inl (k4, 400, .inr (.inr (.inr (.inr (fun _ => none))))))] := hD
  refine lv_aload_n hx hb dX6_init_22 rfl (lv_at hl 0 rfl) ?_
  refine lv_bipush (v := 50) hx hb dX6_init_23 (by decide) ?_
  refine va_newa (atype := .int) (ty := .int) (a0 := (50, .inl (fun _ => 0))) hx hb (ht _ kw_72) rfl hK hP hD hS hA (fun _ => rfl) (by decide) (by decide) (Nat.le_of_ble_eq_true rfl) (Nat.le_of_ble_eq_true rfl) (Nat.le_of_ble_eq_true rfl) dX6_init_25 (fun q5 k6 H hK hP hD hS => ?_)
  have hP : va_P (dC, dI) vwCl [(h0, .inr (6, [.null, .ref q1, .int 0, .ref q3, .int 0, .int 0, .int 0, .null, .null, .null, .null, .null, .int 0, .null, .null, .null])), (q1, .inl (k2, 4, .inr (.inr (.inr (.inr (fun _ => none)))))), (q3, .inl (k4, 400, .inr (.inr (.inr (.inr (fun _ => none)))))), (q5, .inl (k6, 50, .inl (fun _ => 0)))] H := hP
  have hD : va_D A [(h0, .inr (6, [.null, .ref q1, .int 0, .ref q3, .int 0, .int 0, .int 0, .null, .null, .null, .null, .null, .int 0, .null, .null, .null])), (q1, .inl (k2, 4, .inr (.inr (.inr (.inr (fun _ => none)))))), (q3, .inl (k4, 400, .inr (.inr (.inr (.inr (fun _ => none)))))), (q5, .inl (k6, 50, .inl (fun _ => 0)))] := hD
  have hK : va_K (dC, dI) vwCl [(k2, .object RX0), (k4, .object RX2), (k6, .int)] s := hK
  refine W.widen (k := 3) (n := 454) (Nat.le_of_ble_eq_true rfl) (Nat.le_of_ble_eq_true rfl) ?_
  refine va_putF (D := (dC, dI)) (ci := 6) (v := .ref q5) (ty := .array .int) (C := RX6) (T := TX6) (N := 16) hx hb ht inX6 tyX6 tyX6_ok nmX6 hown hK hP hD hS 0 rfl rfl 7 (by decide) (ht _ kw_161) (fun _ h9 => h9) rfl hin rfl (by decide +kernel) rfl rfl (Nat.le_of_ble_eq_true rfl) dX6_init_27 (fun H locs hP hD hS => ?_)
  have hP : va_P (dC, dI) vwCl [(h0, .inr (6, [.null, .ref q1, .int 0, .ref q3, .int 0, .int 0, .int 0, .ref q5, .null, .null, .null, .null, .int 0, .null, .null, .null])), (q1, .inl (k2, 4, .inr (.inr (.inr (.inr (fun _ => none)))))), (q3, .inl (k4, 400, .inr (.inr (.inr (.inr (fun _ => none)))))), (q5, .inl (k6, 50, .inl (fun _ => 0)))] H := hP
  have hD : va_D A [(h0, .inr (6, [.null, .ref q1, .int 0, .ref q3, .int 0, .int 0, .int 0, .ref q5, .null, .null, .null, .null, .int 0, .null, .null, .null])), (q1, .inl (k2, 4, .inr (.inr (.inr (.inr (fun _ => none)))))), (q3, .inl (k4, 400, .inr (.inr (.inr (.inr (fun _ => none)))))), (q5, .inl (k6, 50, .inl (fun _ => 0)))] := hD
  refine lv_aload_n hx hb dX6_init_30 rfl (lv_at hl 0 rfl) ?_
  refine lv_bipush (v := 50) hx hb dX6_init_31 (by decide) ?_
  refine va_newa (atype := .int) (ty := .int) (a0 := (50, .inl (fun _ => 0))) hx hb (ht _ kw_72) rfl hK hP hD hS hA (fun _ => rfl) (by decide) (by decide) (Nat.le_of_ble_eq_true rfl) (Nat.le_of_ble_eq_true rfl) (Nat.le_of_ble_eq_true rfl) dX6_init_33 (fun q7 k8 H hK hP hD hS => ?_)
  have hP : va_P (dC, dI) vwCl [(h0, .inr (6, [.null, .ref q1, .int 0, .ref q3, .int 0, .int 0, .int 0, .ref q5, .null, .null, .null, .null, .int 0, .null, .null, .null])), (q1, .inl (k2, 4, .inr (.inr (.inr (.inr (fun _ => none)))))), (q3, .inl (k4, 400, .inr (.inr (.inr (.inr (fun _ => none)))))), (q5, .inl (k6, 50, .inl (fun _ => 0))), (q7, .inl (k8, 50, .inl (fun _ => 0)))] H := hP
  have hD : va_D A [(h0, .inr (6, [.null, .ref q1, .int 0, .ref q3, .int 0, .int 0, .int 0, .ref q5, .null, .null, .null, .null, .int 0, .null, .null, .null])), (q1, .inl (k2, 4, .inr (.inr (.inr (.inr (fun _ => none)))))), (q3, .inl (k4, 400, .inr (.inr (.inr (.inr (fun _ => none)))))), (q5, .inl (k6, 50, .inl (fun _ => 0))), (q7, .inl (k8, 50, .inl (fun _ => 0)))] := hD
  have hK : va_K (dC, dI) vwCl [(k2, .object RX0), (k4, .object RX2), (k6, .int), (k8, .int)] s := hK
  refine W.widen (k := 4) (n := 504) (Nat.le_of_ble_eq_true rfl) (Nat.le_of_ble_eq_true rfl) ?_
  refine va_putF (D := (dC, dI)) (ci := 6) (v := .ref q7) (ty := .array .int) (C := RX6) (T := TX6) (N := 16) hx hb ht inX6 tyX6 tyX6_ok nmX6 hown hK hP hD hS 0 rfl rfl 8 (by decide) (ht _ kw_162) (fun _ h9 => h9) rfl hin rfl (by decide +kernel) rfl rfl (Nat.le_of_ble_eq_true rfl) dX6_init_35 (fun H locs hP hD hS => ?_)
  have hP : va_P (dC, dI) vwCl [(h0, .inr (6, [.null, .ref q1, .int 0, .ref q3, .int 0, .int 0, .int 0, .ref q5, .ref q7, .null, .null, .null, .int 0, .null, .null, .null])), (q1, .inl (k2, 4, .inr (.inr (.inr (.inr (fun _ => none)))))), (q3, .inl (k4, 400, .inr (.inr (.inr (.inr (fun _ => none)))))), (q5, .inl (k6, 50, .inl (fun _ => 0))), (q7, .inl (k8, 50, .inl (fun _ => 0)))] H := hP
  have hD : va_D A [(h0, .inr (6, [.null, .ref q1, .int 0, .ref q3, .int 0, .int 0, .int 0, .ref q5, .ref q7, .null, .null, .null, .int 0, .null, .null, .null])), (q1, .inl (k2, 4, .inr (.inr (.inr (.inr (fun _ => none)))))), (q3, .inl (k4, 400, .inr (.inr (.inr (.inr (fun _ => none)))))), (q5, .inl (k6, 50, .inl (fun _ => 0))), (q7, .inl (k8, 50, .inl (fun _ => 0)))] := hD
  refine lv_aload_n hx hb dX6_init_38 rfl (lv_at hl 0 rfl) ?_
  refine lv_bipush (v := 50) hx hb dX6_init_39 (by decide) ?_
  refine va_newa (atype := .int) (ty := .int) (a0 := (50, .inl (fun _ => 0))) hx hb (ht _ kw_72) rfl hK hP hD hS hA (fun _ => rfl) (by decide) (by decide) (Nat.le_of_ble_eq_true rfl) (Nat.le_of_ble_eq_true rfl) (Nat.le_of_ble_eq_true rfl) dX6_init_41 (fun q9 k10 H hK hP hD hS => ?_)
  have hP : va_P (dC, dI) vwCl [(h0, .inr (6, [.null, .ref q1, .int 0, .ref q3, .int 0, .int 0, .int 0, .ref q5, .ref q7, .null, .null, .null, .int 0, .null, .null, .null])), (q1, .inl (k2, 4, .inr (.inr (.inr (.inr (fun _ => none)))))), (q3, .inl (k4, 400, .inr (.inr (.inr (.inr (fun _ => none)))))), (q5, .inl (k6, 50, .inl (fun _ => 0))), (q7, .inl (k8, 50, .inl (fun _ => 0))), (q9, .inl (k10, 50, .inl (fun _ => 0)))] H := hP
  have hD : va_D A [(h0, .inr (6, [.null, .ref q1, .int 0, .ref q3, .int 0, .int 0, .int 0, .ref q5, .ref q7, .null, .null, .null, .int 0, .null, .null, .null])), (q1, .inl (k2, 4, .inr (.inr (.inr (.inr (fun _ => none)))))), (q3, .inl (k4, 400, .inr (.inr (.inr (.inr (fun _ => none)))))), (q5, .inl (k6, 50, .inl (fun _ => 0))), (q7, .inl (k8, 50, .inl (fun _ => 0))), (q9, .inl (k10, 50, .inl (fun _ => 0)))] := hD
  have hK : va_K (dC, dI) vwCl [(k2, .object RX0), (k4, .object RX2), (k6, .int), (k8, .int), (k10, .int)] s := hK
  refine W.widen (k := 5) (n := 554) (Nat.le_of_ble_eq_true rfl) (Nat.le_of_ble_eq_true rfl) ?_
  refine va_putF (D := (dC, dI)) (ci := 6) (v := .ref q9) (ty := .array .int) (C := RX6) (T := TX6) (N := 16) hx hb ht inX6 tyX6 tyX6_ok nmX6 hown hK hP hD hS 0 rfl rfl 9 (by decide) (ht _ kw_163) (fun _ h9 => h9) rfl hin rfl (by decide +kernel) rfl rfl (Nat.le_of_ble_eq_true rfl) dX6_init_43 (fun H locs hP hD hS => ?_)
  have hP : va_P (dC, dI) vwCl [(h0, .inr (6, [.null, .ref q1, .int 0, .ref q3, .int 0, .int 0, .int 0, .ref q5, .ref q7, .ref q9, .null, .null, .int 0, .null, .null, .null])), (q1, .inl (k2, 4, .inr (.inr (.inr (.inr (fun _ => none)))))), (q3, .inl (k4, 400, .inr (.inr (.inr (.inr (fun _ => none)))))), (q5, .inl (k6, 50, .inl (fun _ => 0))), (q7, .inl (k8, 50, .inl (fun _ => 0))), (q9, .inl (k10, 50, .inl (fun _ => 0)))] H := hP
  have hD : va_D A [(h0, .inr (6, [.null, .ref q1, .int 0, .ref q3, .int 0, .int 0, .int 0, .ref q5, .ref q7, .ref q9, .null, .null, .int 0, .null, .null, .null])), (q1, .inl (k2, 4, .inr (.inr (.inr (.inr (fun _ => none)))))), (q3, .inl (k4, 400, .inr (.inr (.inr (.inr (fun _ => none)))))), (q5, .inl (k6, 50, .inl (fun _ => 0))), (q7, .inl (k8, 50, .inl (fun _ => 0))), (q9, .inl (k10, 50, .inl (fun _ => 0)))] := hD
  refine lv_aload_n hx hb dX6_init_46 rfl (lv_at hl 0 rfl) ?_
  refine lv_bipush (v := 50) hx hb dX6_init_47 (by decide) ?_
  refine va_newa (atype := .int) (ty := .int) (a0 := (50, .inl (fun _ => 0))) hx hb (ht _ kw_72) rfl hK hP hD hS hA (fun _ => rfl) (by decide) (by decide) (Nat.le_of_ble_eq_true rfl) (Nat.le_of_ble_eq_true rfl) (Nat.le_of_ble_eq_true rfl) dX6_init_49 (fun q11 k12 H hK hP hD hS => ?_)
  have hP : va_P (dC, dI) vwCl [(h0, .inr (6, [.null, .ref q1, .int 0, .ref q3, .int 0, .int 0, .int 0, .ref q5, .ref q7, .ref q9, .null, .null, .int 0, .null, .null, .null])), (q1, .inl (k2, 4, .inr (.inr (.inr (.inr (fun _ => none)))))), (q3, .inl (k4, 400, .inr (.inr (.inr (.inr (fun _ => none)))))), (q5, .inl (k6, 50, .inl (fun _ => 0))), (q7, .inl (k8, 50, .inl (fun _ => 0))), (q9, .inl (k10, 50, .inl (fun _ => 0))), (q11, .inl (k12, 50, .inl (fun _ => 0)))] H := hP
  have hD : va_D A [(h0, .inr (6, [.null, .ref q1, .int 0, .ref q3, .int 0, .int 0, .int 0, .ref q5, .ref q7, .ref q9, .null, .null, .int 0, .null, .null, .null])), (q1, .inl (k2, 4, .inr (.inr (.inr (.inr (fun _ => none)))))), (q3, .inl (k4, 400, .inr (.inr (.inr (.inr (fun _ => none)))))), (q5, .inl (k6, 50, .inl (fun _ => 0))), (q7, .inl (k8, 50, .inl (fun _ => 0))), (q9, .inl (k10, 50, .inl (fun _ => 0))), (q11, .inl (k12, 50, .inl (fun _ => 0)))] := hD
  have hK : va_K (dC, dI) vwCl [(k2, .object RX0), (k4, .object RX2), (k6, .int), (k8, .int), (k10, .int), (k12, .int)] s := hK
  refine W.widen (k := 6) (n := 604) (Nat.le_of_ble_eq_true rfl) (Nat.le_of_ble_eq_true rfl) ?_
  refine va_putF (D := (dC, dI)) (ci := 6) (v := .ref q11) (ty := .array .int) (C := RX6) (T := TX6) (N := 16) hx hb ht inX6 tyX6 tyX6_ok nmX6 hown hK hP hD hS 0 rfl rfl 10 (by decide) (ht _ kw_164) (fun _ h9 => h9) rfl hin rfl (by decide +kernel) rfl rfl (Nat.le_of_ble_eq_true rfl) dX6_init_51 (fun H locs hP hD hS => ?_)
  have hP : va_P (dC, dI) vwCl [(h0, .inr (6, [.null, .ref q1, .int 0, .ref q3, .int 0, .int 0, .int 0, .ref q5, .ref q7, .ref q9, .ref q11, .null, .int 0, .null, .null, .null])), (q1, .inl (k2, 4, .inr (.inr (.inr (.inr (fun _ => none)))))), (q3, .inl (k4, 400, .inr (.inr (.inr (.inr (fun _ => none)))))), (q5, .inl (k6, 50, .inl (fun _ => 0))), (q7, .inl (k8, 50, .inl (fun _ => 0))), (q9, .inl (k10, 50, .inl (fun _ => 0))), (q11, .inl (k12, 50, .inl (fun _ => 0)))] H := hP
  have hD : va_D A [(h0, .inr (6, [.null, .ref q1, .int 0, .ref q3, .int 0, .int 0, .int 0, .ref q5, .ref q7, .ref q9, .ref q11, .null, .int 0, .null, .null, .null])), (q1, .inl (k2, 4, .inr (.inr (.inr (.inr (fun _ => none)))))), (q3, .inl (k4, 400, .inr (.inr (.inr (.inr (fun _ => none)))))), (q5, .inl (k6, 50, .inl (fun _ => 0))), (q7, .inl (k8, 50, .inl (fun _ => 0))), (q9, .inl (k10, 50, .inl (fun _ => 0))), (q11, .inl (k12, 50, .inl (fun _ => 0)))] := hD
  refine lv_aload_n hx hb dX6_init_54 rfl (lv_at hl 0 rfl) ?_
  refine lv_sipush (v := 400) hx hb dX6_init_55 (by decide) ?_
  refine va_newa (atype := .int) (ty := .int) (a0 := (400, .inl (fun _ => 0))) hx hb (ht _ kw_72) rfl hK hP hD hS hA (fun _ => rfl) (by decide) (by decide) (Nat.le_of_ble_eq_true rfl) (Nat.le_of_ble_eq_true rfl) (Nat.le_of_ble_eq_true rfl) dX6_init_58 (fun q13 k14 H hK hP hD hS => ?_)
  have hP : va_P (dC, dI) vwCl [(h0, .inr (6, [.null, .ref q1, .int 0, .ref q3, .int 0, .int 0, .int 0, .ref q5, .ref q7, .ref q9, .ref q11, .null, .int 0, .null, .null, .null])), (q1, .inl (k2, 4, .inr (.inr (.inr (.inr (fun _ => none)))))), (q3, .inl (k4, 400, .inr (.inr (.inr (.inr (fun _ => none)))))), (q5, .inl (k6, 50, .inl (fun _ => 0))), (q7, .inl (k8, 50, .inl (fun _ => 0))), (q9, .inl (k10, 50, .inl (fun _ => 0))), (q11, .inl (k12, 50, .inl (fun _ => 0))), (q13, .inl (k14, 400, .inl (fun _ => 0)))] H := hP
  have hD : va_D A [(h0, .inr (6, [.null, .ref q1, .int 0, .ref q3, .int 0, .int 0, .int 0, .ref q5, .ref q7, .ref q9, .ref q11, .null, .int 0, .null, .null, .null])), (q1, .inl (k2, 4, .inr (.inr (.inr (.inr (fun _ => none)))))), (q3, .inl (k4, 400, .inr (.inr (.inr (.inr (fun _ => none)))))), (q5, .inl (k6, 50, .inl (fun _ => 0))), (q7, .inl (k8, 50, .inl (fun _ => 0))), (q9, .inl (k10, 50, .inl (fun _ => 0))), (q11, .inl (k12, 50, .inl (fun _ => 0))), (q13, .inl (k14, 400, .inl (fun _ => 0)))] := hD
  have hK : va_K (dC, dI) vwCl [(k2, .object RX0), (k4, .object RX2), (k6, .int), (k8, .int), (k10, .int), (k12, .int), (k14, .int)] s := hK
  refine W.widen (k := 7) (n := 1004) (Nat.le_of_ble_eq_true rfl) (Nat.le_of_ble_eq_true rfl) ?_
  refine va_putF (D := (dC, dI)) (ci := 6) (v := .ref q13) (ty := .array .int) (C := RX6) (T := TX6) (N := 16) hx hb ht inX6 tyX6 tyX6_ok nmX6 hown hK hP hD hS 0 rfl rfl 11 (by decide) (ht _ kw_165) (fun _ h9 => h9) rfl hin rfl (by decide +kernel) rfl rfl (Nat.le_of_ble_eq_true rfl) dX6_init_60 (fun H locs hP hD hS => ?_)
  have hP : va_P (dC, dI) vwCl [(h0, .inr (6, [.null, .ref q1, .int 0, .ref q3, .int 0, .int 0, .int 0, .ref q5, .ref q7, .ref q9, .ref q11, .ref q13, .int 0, .null, .null, .null])), (q1, .inl (k2, 4, .inr (.inr (.inr (.inr (fun _ => none)))))), (q3, .inl (k4, 400, .inr (.inr (.inr (.inr (fun _ => none)))))), (q5, .inl (k6, 50, .inl (fun _ => 0))), (q7, .inl (k8, 50, .inl (fun _ => 0))), (q9, .inl (k10, 50, .inl (fun _ => 0))), (q11, .inl (k12, 50, .inl (fun _ => 0))), (q13, .inl (k14, 400, .inl (fun _ => 0)))] H := hP
  have hD : va_D A [(h0, .inr (6, [.null, .ref q1, .int 0, .ref q3, .int 0, .int 0, .int 0, .ref q5, .ref q7, .ref q9, .ref q11, .ref q13, .int 0, .null, .null, .null])), (q1, .inl (k2, 4, .inr (.inr (.inr (.inr (fun _ => none)))))), (q3, .inl (k4, 400, .inr (.inr (.inr (.inr (fun _ => none)))))), (q5, .inl (k6, 50, .inl (fun _ => 0))), (q7, .inl (k8, 50, .inl (fun _ => 0))), (q9, .inl (k10, 50, .inl (fun _ => 0))), (q11, .inl (k12, 50, .inl (fun _ => 0))), (q13, .inl (k14, 400, .inl (fun _ => 0)))] := hD
  refine lv_aload_n hx hb dX6_init_63 rfl (lv_at hl 0 rfl) ?_
  refine lv_sipush (v := 400) hx hb dX6_init_64 (by decide) ?_
  refine va_newa (atype := .int) (ty := .int) (a0 := (400, .inl (fun _ => 0))) hx hb (ht _ kw_72) rfl hK hP hD hS hA (fun _ => rfl) (by decide) (by decide) (Nat.le_of_ble_eq_true rfl) (Nat.le_of_ble_eq_true rfl) (Nat.le_of_ble_eq_true rfl) dX6_init_67 (fun q15 k16 H hK hP hD hS => ?_)
  have hP : va_P (dC, dI) vwCl [(h0, .inr (6, [.null, .ref q1, .int 0, .ref q3, .int 0, .int 0, .int 0, .ref q5, .ref q7, .ref q9, .ref q11, .ref q13, .int 0, .null, .null, .null])), (q1, .inl (k2, 4, .inr (.inr (.inr (.inr (fun _ => none)))))), (q3, .inl (k4, 400, .inr (.inr (.inr (.inr (fun _ => none)))))), (q5, .inl (k6, 50, .inl (fun _ => 0))), (q7, .inl (k8, 50, .inl (fun _ => 0))), (q9, .inl (k10, 50, .inl (fun _ => 0))), (q11, .inl (k12, 50, .inl (fun _ => 0))), (q13, .inl (k14, 400, .inl (fun _ => 0))), (q15, .inl (k16, 400, .inl (fun _ => 0)))] H := hP
  have hD : va_D A [(h0, .inr (6, [.null, .ref q1, .int 0, .ref q3, .int 0, .int 0, .int 0, .ref q5, .ref q7, .ref q9, .ref q11, .ref q13, .int 0, .null, .null, .null])), (q1, .inl (k2, 4, .inr (.inr (.inr (.inr (fun _ => none)))))), (q3, .inl (k4, 400, .inr (.inr (.inr (.inr (fun _ => none)))))), (q5, .inl (k6, 50, .inl (fun _ => 0))), (q7, .inl (k8, 50, .inl (fun _ => 0))), (q9, .inl (k10, 50, .inl (fun _ => 0))), (q11, .inl (k12, 50, .inl (fun _ => 0))), (q13, .inl (k14, 400, .inl (fun _ => 0))), (q15, .inl (k16, 400, .inl (fun _ => 0)))] := hD
  have hK : va_K (dC, dI) vwCl [(k2, .object RX0), (k4, .object RX2), (k6, .int), (k8, .int), (k10, .int), (k12, .int), (k14, .int), (k16, .int)] s := hK
  refine W.widen (k := 8) (n := 1404) (Nat.le_of_ble_eq_true rfl) (Nat.le_of_ble_eq_true rfl) ?_
  refine va_putF (D := (dC, dI)) (ci := 6) (v := .ref q15) (ty := .array .int) (C := RX6) (T := TX6) (N := 16) hx hb ht inX6 tyX6 tyX6_ok nmX6 hown hK hP hD hS 0 rfl rfl 13 (by decide) (ht _ kw_169) (fun _ h9 => h9) rfl hin rfl (by decide +kernel) rfl rfl (Nat.le_of_ble_eq_true rfl) dX6_init_69 (fun H locs hP hD hS => ?_)
  have hP : va_P (dC, dI) vwCl [(h0, .inr (6, [.null, .ref q1, .int 0, .ref q3, .int 0, .int 0, .int 0, .ref q5, .ref q7, .ref q9, .ref q11, .ref q13, .int 0, .ref q15, .null, .null])), (q1, .inl (k2, 4, .inr (.inr (.inr (.inr (fun _ => none)))))), (q3, .inl (k4, 400, .inr (.inr (.inr (.inr (fun _ => none)))))), (q5, .inl (k6, 50, .inl (fun _ => 0))), (q7, .inl (k8, 50, .inl (fun _ => 0))), (q9, .inl (k10, 50, .inl (fun _ => 0))), (q11, .inl (k12, 50, .inl (fun _ => 0))), (q13, .inl (k14, 400, .inl (fun _ => 0))), (q15, .inl (k16, 400, .inl (fun _ => 0)))] H := hP
  have hD : va_D A [(h0, .inr (6, [.null, .ref q1, .int 0, .ref q3, .int 0, .int 0, .int 0, .ref q5, .ref q7, .ref q9, .ref q11, .ref q13, .int 0, .ref q15, .null, .null])), (q1, .inl (k2, 4, .inr (.inr (.inr (.inr (fun _ => none)))))), (q3, .inl (k4, 400, .inr (.inr (.inr (.inr (fun _ => none)))))), (q5, .inl (k6, 50, .inl (fun _ => 0))), (q7, .inl (k8, 50, .inl (fun _ => 0))), (q9, .inl (k10, 50, .inl (fun _ => 0))), (q11, .inl (k12, 50, .inl (fun _ => 0))), (q13, .inl (k14, 400, .inl (fun _ => 0))), (q15, .inl (k16, 400, .inl (fun _ => 0)))] := hD
  refine lv_aload_n hx hb dX6_init_72 rfl (lv_at hl 0 rfl) ?_
  refine lv_sipush (v := 400) hx hb dX6_init_73 (by decide) ?_
  refine va_newa (atype := .int) (ty := .int) (a0 := (400, .inl (fun _ => 0))) hx hb (ht _ kw_72) rfl hK hP hD hS hA (fun _ => rfl) (by decide) (by decide) (Nat.le_of_ble_eq_true rfl) (Nat.le_of_ble_eq_true rfl) (Nat.le_of_ble_eq_true rfl) dX6_init_76 (fun q17 k18 H hK hP hD hS => ?_)
  have hP : va_P (dC, dI) vwCl [(h0, .inr (6, [.null, .ref q1, .int 0, .ref q3, .int 0, .int 0, .int 0, .ref q5, .ref q7, .ref q9, .ref q11, .ref q13, .int 0, .ref q15, .null, .null])), (q1, .inl (k2, 4, .inr (.inr (.inr (.inr (fun _ => none)))))), (q3, .inl (k4, 400, .inr (.inr (.inr (.inr (fun _ => none)))))), (q5, .inl (k6, 50, .inl (fun _ => 0))), (q7, .inl (k8, 50, .inl (fun _ => 0))), (q9, .inl (k10, 50, .inl (fun _ => 0))), (q11, .inl (k12, 50, .inl (fun _ => 0))), (q13, .inl (k14, 400, .inl (fun _ => 0))), (q15, .inl (k16, 400, .inl (fun _ => 0))), (q17, .inl (k18, 400, .inl (fun _ => 0)))] H := hP
  have hD : va_D A [(h0, .inr (6, [.null, .ref q1, .int 0, .ref q3, .int 0, .int 0, .int 0, .ref q5, .ref q7, .ref q9, .ref q11, .ref q13, .int 0, .ref q15, .null, .null])), (q1, .inl (k2, 4, .inr (.inr (.inr (.inr (fun _ => none)))))), (q3, .inl (k4, 400, .inr (.inr (.inr (.inr (fun _ => none)))))), (q5, .inl (k6, 50, .inl (fun _ => 0))), (q7, .inl (k8, 50, .inl (fun _ => 0))), (q9, .inl (k10, 50, .inl (fun _ => 0))), (q11, .inl (k12, 50, .inl (fun _ => 0))), (q13, .inl (k14, 400, .inl (fun _ => 0))), (q15, .inl (k16, 400, .inl (fun _ => 0))), (q17, .inl (k18, 400, .inl (fun _ => 0)))] := hD
  have hK : va_K (dC, dI) vwCl [(k2, .object RX0), (k4, .object RX2), (k6, .int), (k8, .int), (k10, .int), (k12, .int), (k14, .int), (k16, .int), (k18, .int)] s := hK
  refine W.widen (k := 9) (n := 1804) (Nat.le_of_ble_eq_true rfl) (Nat.le_of_ble_eq_true rfl) ?_
  refine va_putF (D := (dC, dI)) (ci := 6) (v := .ref q17) (ty := .array .int) (C := RX6) (T := TX6) (N := 16) hx hb ht inX6 tyX6 tyX6_ok nmX6 hown hK hP hD hS 0 rfl rfl 14 (by decide) (ht _ kw_170) (fun _ h9 => h9) rfl hin rfl (by decide +kernel) rfl rfl (Nat.le_of_ble_eq_true rfl) dX6_init_78 (fun H locs hP hD hS => ?_)
  have hP : va_P (dC, dI) vwCl [(h0, .inr (6, [.null, .ref q1, .int 0, .ref q3, .int 0, .int 0, .int 0, .ref q5, .ref q7, .ref q9, .ref q11, .ref q13, .int 0, .ref q15, .ref q17, .null])), (q1, .inl (k2, 4, .inr (.inr (.inr (.inr (fun _ => none)))))), (q3, .inl (k4, 400, .inr (.inr (.inr (.inr (fun _ => none)))))), (q5, .inl (k6, 50, .inl (fun _ => 0))), (q7, .inl (k8, 50, .inl (fun _ => 0))), (q9, .inl (k10, 50, .inl (fun _ => 0))), (q11, .inl (k12, 50, .inl (fun _ => 0))), (q13, .inl (k14, 400, .inl (fun _ => 0))), (q15, .inl (k16, 400, .inl (fun _ => 0))), (q17, .inl (k18, 400, .inl (fun _ => 0)))] H := hP
  have hD : va_D A [(h0, .inr (6, [.null, .ref q1, .int 0, .ref q3, .int 0, .int 0, .int 0, .ref q5, .ref q7, .ref q9, .ref q11, .ref q13, .int 0, .ref q15, .ref q17, .null])), (q1, .inl (k2, 4, .inr (.inr (.inr (.inr (fun _ => none)))))), (q3, .inl (k4, 400, .inr (.inr (.inr (.inr (fun _ => none)))))), (q5, .inl (k6, 50, .inl (fun _ => 0))), (q7, .inl (k8, 50, .inl (fun _ => 0))), (q9, .inl (k10, 50, .inl (fun _ => 0))), (q11, .inl (k12, 50, .inl (fun _ => 0))), (q13, .inl (k14, 400, .inl (fun _ => 0))), (q15, .inl (k16, 400, .inl (fun _ => 0))), (q17, .inl (k18, 400, .inl (fun _ => 0)))] := hD
  refine lv_aload_n hx hb dX6_init_81 rfl (lv_at hl 0 rfl) ?_
  refine lv_sipush (v := 1000) hx hb dX6_init_82 (by decide) ?_
  refine va_newa (atype := .int) (ty := .int) (a0 := (1000, .inl (fun _ => 0))) hx hb (ht _ kw_72) rfl hK hP hD hS hA (fun _ => rfl) (by decide) (by decide) (Nat.le_of_ble_eq_true rfl) (Nat.le_of_ble_eq_true rfl) (Nat.le_of_ble_eq_true rfl) dX6_init_85 (fun q19 k20 H hK hP hD hS => ?_)
  have hP : va_P (dC, dI) vwCl [(h0, .inr (6, [.null, .ref q1, .int 0, .ref q3, .int 0, .int 0, .int 0, .ref q5, .ref q7, .ref q9, .ref q11, .ref q13, .int 0, .ref q15, .ref q17, .null])), (q1, .inl (k2, 4, .inr (.inr (.inr (.inr (fun _ => none)))))), (q3, .inl (k4, 400, .inr (.inr (.inr (.inr (fun _ => none)))))), (q5, .inl (k6, 50, .inl (fun _ => 0))), (q7, .inl (k8, 50, .inl (fun _ => 0))), (q9, .inl (k10, 50, .inl (fun _ => 0))), (q11, .inl (k12, 50, .inl (fun _ => 0))), (q13, .inl (k14, 400, .inl (fun _ => 0))), (q15, .inl (k16, 400, .inl (fun _ => 0))), (q17, .inl (k18, 400, .inl (fun _ => 0))), (q19, .inl (k20, 1000, .inl (fun _ => 0)))] H := hP
  have hD : va_D A [(h0, .inr (6, [.null, .ref q1, .int 0, .ref q3, .int 0, .int 0, .int 0, .ref q5, .ref q7, .ref q9, .ref q11, .ref q13, .int 0, .ref q15, .ref q17, .null])), (q1, .inl (k2, 4, .inr (.inr (.inr (.inr (fun _ => none)))))), (q3, .inl (k4, 400, .inr (.inr (.inr (.inr (fun _ => none)))))), (q5, .inl (k6, 50, .inl (fun _ => 0))), (q7, .inl (k8, 50, .inl (fun _ => 0))), (q9, .inl (k10, 50, .inl (fun _ => 0))), (q11, .inl (k12, 50, .inl (fun _ => 0))), (q13, .inl (k14, 400, .inl (fun _ => 0))), (q15, .inl (k16, 400, .inl (fun _ => 0))), (q17, .inl (k18, 400, .inl (fun _ => 0))), (q19, .inl (k20, 1000, .inl (fun _ => 0)))] := hD
  have hK : va_K (dC, dI) vwCl [(k2, .object RX0), (k4, .object RX2), (k6, .int), (k8, .int), (k10, .int), (k12, .int), (k14, .int), (k16, .int), (k18, .int), (k20, .int)] s := hK
  refine W.widen (k := 10) (n := 2804) (Nat.le_of_ble_eq_true rfl) (Nat.le_of_ble_eq_true rfl) ?_
  refine va_putF (D := (dC, dI)) (ci := 6) (v := .ref q19) (ty := .array .int) (C := RX6) (T := TX6) (N := 16) hx hb ht inX6 tyX6 tyX6_ok nmX6 hown hK hP hD hS 0 rfl rfl 15 (by decide) (ht _ kw_171) (fun _ h9 => h9) rfl hin rfl (by decide +kernel) rfl rfl (Nat.le_of_ble_eq_true rfl) dX6_init_87 (fun H locs hP hD hS => ?_)
  have hP : va_P (dC, dI) vwCl [(h0, .inr (6, [.null, .ref q1, .int 0, .ref q3, .int 0, .int 0, .int 0, .ref q5, .ref q7, .ref q9, .ref q11, .ref q13, .int 0, .ref q15, .ref q17, .ref q19])), (q1, .inl (k2, 4, .inr (.inr (.inr (.inr (fun _ => none)))))), (q3, .inl (k4, 400, .inr (.inr (.inr (.inr (fun _ => none)))))), (q5, .inl (k6, 50, .inl (fun _ => 0))), (q7, .inl (k8, 50, .inl (fun _ => 0))), (q9, .inl (k10, 50, .inl (fun _ => 0))), (q11, .inl (k12, 50, .inl (fun _ => 0))), (q13, .inl (k14, 400, .inl (fun _ => 0))), (q15, .inl (k16, 400, .inl (fun _ => 0))), (q17, .inl (k18, 400, .inl (fun _ => 0))), (q19, .inl (k20, 1000, .inl (fun _ => 0)))] H := hP
  have hD : va_D A [(h0, .inr (6, [.null, .ref q1, .int 0, .ref q3, .int 0, .int 0, .int 0, .ref q5, .ref q7, .ref q9, .ref q11, .ref q13, .int 0, .ref q15, .ref q17, .ref q19])), (q1, .inl (k2, 4, .inr (.inr (.inr (.inr (fun _ => none)))))), (q3, .inl (k4, 400, .inr (.inr (.inr (.inr (fun _ => none)))))), (q5, .inl (k6, 50, .inl (fun _ => 0))), (q7, .inl (k8, 50, .inl (fun _ => 0))), (q9, .inl (k10, 50, .inl (fun _ => 0))), (q11, .inl (k12, 50, .inl (fun _ => 0))), (q13, .inl (k14, 400, .inl (fun _ => 0))), (q15, .inl (k16, 400, .inl (fun _ => 0))), (q17, .inl (k18, 400, .inl (fun _ => 0))), (q19, .inl (k20, 1000, .inl (fun _ => 0)))] := hD
  refine lv_aload_n hx hb dX6_init_90 rfl (lv_at hl 0 rfl) ?_
  refine lv_aload_n hx hb dX6_init_91 rfl (lv_at hl 1 rfl) ?_
  refine va_putF (D := (dC, dI)) (ci := 6) (v := .ref th) (ty := .object "SportsHouse$Things") (C := RX6) (T := TX6) (N := 16) hx hb ht inX6 tyX6 tyX6_ok nmX6 hown hK hP hD hS 0 rfl rfl 0 (by decide) (ht _ kw_146) (fun _ h9 => h9) rfl hin rfl (by decide +kernel) rfl rfl (Nat.le_of_ble_eq_true rfl) dX6_init_92 (fun H locs hP hD hS => ?_)
  have hP : va_P (dC, dI) vwCl [(h0, .inr (6, [.ref th, .ref q1, .int 0, .ref q3, .int 0, .int 0, .int 0, .ref q5, .ref q7, .ref q9, .ref q11, .ref q13, .int 0, .ref q15, .ref q17, .ref q19])), (q1, .inl (k2, 4, .inr (.inr (.inr (.inr (fun _ => none)))))), (q3, .inl (k4, 400, .inr (.inr (.inr (.inr (fun _ => none)))))), (q5, .inl (k6, 50, .inl (fun _ => 0))), (q7, .inl (k8, 50, .inl (fun _ => 0))), (q9, .inl (k10, 50, .inl (fun _ => 0))), (q11, .inl (k12, 50, .inl (fun _ => 0))), (q13, .inl (k14, 400, .inl (fun _ => 0))), (q15, .inl (k16, 400, .inl (fun _ => 0))), (q17, .inl (k18, 400, .inl (fun _ => 0))), (q19, .inl (k20, 1000, .inl (fun _ => 0)))] H := hP
  have hD : va_D A [(h0, .inr (6, [.ref th, .ref q1, .int 0, .ref q3, .int 0, .int 0, .int 0, .ref q5, .ref q7, .ref q9, .ref q11, .ref q13, .int 0, .ref q15, .ref q17, .ref q19])), (q1, .inl (k2, 4, .inr (.inr (.inr (.inr (fun _ => none)))))), (q3, .inl (k4, 400, .inr (.inr (.inr (.inr (fun _ => none)))))), (q5, .inl (k6, 50, .inl (fun _ => 0))), (q7, .inl (k8, 50, .inl (fun _ => 0))), (q9, .inl (k10, 50, .inl (fun _ => 0))), (q11, .inl (k12, 50, .inl (fun _ => 0))), (q13, .inl (k14, 400, .inl (fun _ => 0))), (q15, .inl (k16, 400, .inl (fun _ => 0))), (q17, .inl (k18, 400, .inl (fun _ => 0))), (q19, .inl (k20, 1000, .inl (fun _ => 0)))] := hD
  exact W.vret hx hb hr (fun t ht9 hW => ⟨⟨(), rfl, trivial, q1, q3, q5, q7, q9, q11, q13, q15, q17, q19, k2, k4, k6, k8, k10, k12, k14, k16, k18, k20, by rw [ht9]; exact hP, va_K.moved hW.alike hK, hD⟩, hS.F ht9⟩) hS.2.2 dX6_init_95
abbrev cX7_init : ByteArray := prog_9_method_1_code
def yX7_init : MethodName := ⟨RX7, "<init>", "(LSportsHouse$Season;)V"⟩
theorem dX7_init_0 : decode cX7_init 0 = .ok (.aload_n 0, 1) := qd_c (by decide +kernel)
theorem dX7_init_1 : decode cX7_init 1 = .ok (.invokespecial 3, 3) := qd_c (by decide +kernel)
theorem kw_210 : Cond.methodLink RX7 3 objectInit ∈ lw_g := lwq_1 (dqc_m (dqc_m (dqc_m (dqc_m (dqc_m (dqc_m (dqa_m (dqa_m (List.mem_of_getElem? (i := 2) rfl))))))))) rfl
theorem dX7_init_4 : decode cX7_init 4 = .ok (.aload_n 0, 1) := qd_c (by decide +kernel)
theorem dX7_init_5 : decode cX7_init 5 = .ok (.bipush 96, 2) := qd_c (by decide +kernel)
theorem dX7_init_7 : decode cX7_init 7 = .ok (.newarray .int, 2) := by decide +kernel
theorem dX7_init_9 : decode cX7_init 9 = .ok (.putfield 11, 3) := qd_c (by decide +kernel)
theorem kw_213 : Cond.fieldLink RX7 11 "SportsHouse$Standings" "lines" "[I" ∈ lw_g := lwq_1 (dqc_m (dqc_m (dqc_m (dqc_m (dqc_m (dqc_m (dqa_m (dqa_m (List.mem_of_getElem? (i := 5) rfl))))))))) rfl
theorem dX7_init_12 : decode cX7_init 12 = .ok (.aload_n 0, 1) := qd_c (by decide +kernel)
theorem dX7_init_13 : decode cX7_init 13 = .ok (.bipush 12, 2) := qd_c (by decide +kernel)
theorem dX7_init_15 : decode cX7_init 15 = .ok (.newarray .int, 2) := by decide +kernel
theorem dX7_init_17 : decode cX7_init 17 = .ok (.putfield 15, 3) := qd_c (by decide +kernel)
theorem kw_216 : Cond.fieldLink RX7 15 "SportsHouse$Standings" "away" "[I" ∈ lw_g := lwq_1 (dqc_m (dqc_m (dqc_m (dqc_m (dqc_m (dqc_m (dqa_m (dqa_m (dqa_m (List.mem_of_getElem? (i := 0) rfl)))))))))) rfl
theorem dX7_init_20 : decode cX7_init 20 = .ok (.aload_n 0, 1) := qd_c (by decide +kernel)
theorem dX7_init_21 : decode cX7_init 21 = .ok (.bipush 12, 2) := qd_c (by decide +kernel)
theorem dX7_init_23 : decode cX7_init 23 = .ok (.newarray .int, 2) := by decide +kernel
theorem dX7_init_25 : decode cX7_init 25 = .ok (.putfield 18, 3) := qd_c (by decide +kernel)
theorem kw_217 : Cond.fieldLink RX7 18 "SportsHouse$Standings" "fair" "[I" ∈ lw_g := lwq_1 (dqc_m (dqc_m (dqc_m (dqc_m (dqc_m (dqc_m (dqa_m (dqa_m (dqa_m (List.mem_of_getElem? (i := 1) rfl)))))))))) rfl
theorem dX7_init_28 : decode cX7_init 28 = .ok (.aload_n 0, 1) := qd_c (by decide +kernel)
theorem dX7_init_29 : decode cX7_init 29 = .ok (.sipush 144, 3) := qd_c (by decide +kernel)
theorem dX7_init_32 : decode cX7_init 32 = .ok (.newarray .int, 2) := by decide +kernel
theorem dX7_init_34 : decode cX7_init 34 = .ok (.putfield 21, 3) := qd_c (by decide +kernel)
theorem kw_218 : Cond.fieldLink RX7 21 "SportsHouse$Standings" "headPoints" "[I" ∈ lw_g := lwq_1 (dqc_m (dqc_m (dqc_m (dqc_m (dqc_m (dqc_m (dqa_m (dqa_m (dqa_m (List.mem_of_getElem? (i := 2) rfl)))))))))) rfl
theorem dX7_init_37 : decode cX7_init 37 = .ok (.aload_n 0, 1) := qd_c (by decide +kernel)
theorem dX7_init_38 : decode cX7_init 38 = .ok (.sipush 144, 3) := qd_c (by decide +kernel)
theorem dX7_init_41 : decode cX7_init 41 = .ok (.newarray .int, 2) := by decide +kernel
theorem dX7_init_43 : decode cX7_init 43 = .ok (.putfield 24, 3) := qd_c (by decide +kernel)
theorem kw_219 : Cond.fieldLink RX7 24 "SportsHouse$Standings" "headScored" "[I" ∈ lw_g := lwq_1 (dqc_m (dqc_m (dqc_m (dqc_m (dqc_m (dqc_m (dqa_m (dqa_m (dqa_m (List.mem_of_getElem? (i := 3) rfl)))))))))) rfl
theorem dX7_init_46 : decode cX7_init 46 = .ok (.aload_n 0, 1) := qd_c (by decide +kernel)
theorem dX7_init_47 : decode cX7_init 47 = .ok (.bipush 12, 2) := qd_c (by decide +kernel)
theorem dX7_init_49 : decode cX7_init 49 = .ok (.newarray .int, 2) := by decide +kernel
theorem dX7_init_51 : decode cX7_init 51 = .ok (.putfield 27, 3) := qd_c (by decide +kernel)
theorem kw_220 : Cond.fieldLink RX7 27 "SportsHouse$Standings" "order" "[I" ∈ lw_g := lwq_1 (dqc_m (dqc_m (dqc_m (dqc_m (dqc_m (dqc_m (dqa_m (dqa_m (dqa_m (List.mem_of_getElem? (i := 4) rfl)))))))))) rfl
theorem dX7_init_54 : decode cX7_init 54 = .ok (.aload_n 0, 1) := qd_c (by decide +kernel)
theorem dX7_init_55 : decode cX7_init 55 = .ok (.bipush 12, 2) := qd_c (by decide +kernel)
theorem dX7_init_57 : decode cX7_init 57 = .ok (.newarray .int, 2) := by decide +kernel
theorem dX7_init_59 : decode cX7_init 59 = .ok (.putfield 30, 3) := qd_c (by decide +kernel)
theorem kw_222 : Cond.fieldLink RX7 30 "SportsHouse$Standings" "partedBy" "[I" ∈ lw_g := lwq_1 (dqc_m (dqc_m (dqc_m (dqc_m (dqc_m (dqc_m (dqa_m (dqa_m (dqa_m (List.mem_of_getElem? (i := 6) rfl)))))))))) rfl
theorem dX7_init_62 : decode cX7_init 62 = .ok (.aload_n 0, 1) := qd_c (by decide +kernel)
theorem dX7_init_63 : decode cX7_init 63 = .ok (.bipush 12, 2) := qd_c (by decide +kernel)
theorem dX7_init_65 : decode cX7_init 65 = .ok (.newarray .long, 2) := by decide +kernel
theorem kw_258 : Cond.arrayClass .long ∈ lw_g := lwq_2 (dqa_m (dqa_m (List.mem_of_getElem? (i := 2) rfl))) rfl
theorem dX7_init_67 : decode cX7_init 67 = .ok (.putfield 33, 3) := qd_c (by decide +kernel)
theorem kw_224 : Cond.fieldLink RX7 33 "SportsHouse$Standings" "worth" "[J" ∈ lw_g := lwq_1 (dqc_m (dqc_m (dqc_m (dqc_m (dqc_m (dqc_m (dqc_m (List.mem_of_getElem? (i := 0) rfl)))))))) rfl
theorem dX7_init_70 : decode cX7_init 70 = .ok (.aload_n 0, 1) := qd_c (by decide +kernel)
theorem dX7_init_71 : decode cX7_init 71 = .ok (.bipush 16, 2) := qd_c (by decide +kernel)
theorem dX7_init_73 : decode cX7_init 73 = .ok (.newarray .int, 2) := by decide +kernel
theorem dX7_init_75 : decode cX7_init 75 = .ok (.putfield 37, 3) := qd_c (by decide +kernel)
theorem kw_225 : Cond.fieldLink RX7 37 "SportsHouse$Standings" "waitingFrom" "[I" ∈ lw_g := lwq_1 (dqc_m (dqc_m (dqc_m (dqc_m (dqc_m (dqc_m (dqc_m (List.mem_of_getElem? (i := 1) rfl)))))))) rfl
theorem dX7_init_78 : decode cX7_init 78 = .ok (.aload_n 0, 1) := qd_c (by decide +kernel)
theorem dX7_init_79 : decode cX7_init 79 = .ok (.bipush 16, 2) := qd_c (by decide +kernel)
theorem dX7_init_81 : decode cX7_init 81 = .ok (.newarray .int, 2) := by decide +kernel
theorem dX7_init_83 : decode cX7_init 83 = .ok (.putfield 40, 3) := qd_c (by decide +kernel)
theorem kw_226 : Cond.fieldLink RX7 40 "SportsHouse$Standings" "waitingTo" "[I" ∈ lw_g := lwq_1 (dqc_m (dqc_m (dqc_m (dqc_m (dqc_m (dqc_m (dqc_m (List.mem_of_getElem? (i := 2) rfl)))))))) rfl
theorem dX7_init_86 : decode cX7_init 86 = .ok (.aload_n 0, 1) := qd_c (by decide +kernel)
theorem dX7_init_87 : decode cX7_init 87 = .ok (.bipush 16, 2) := qd_c (by decide +kernel)
theorem dX7_init_89 : decode cX7_init 89 = .ok (.newarray .int, 2) := by decide +kernel
theorem dX7_init_91 : decode cX7_init 91 = .ok (.putfield 43, 3) := qd_c (by decide +kernel)
theorem kw_227 : Cond.fieldLink RX7 43 "SportsHouse$Standings" "waitingKey" "[I" ∈ lw_g := lwq_1 (dqc_m (dqc_m (dqc_m (dqc_m (dqc_m (dqc_m (dqc_m (List.mem_of_getElem? (i := 3) rfl)))))))) rfl
theorem dX7_init_94 : decode cX7_init 94 = .ok (.aload_n 0, 1) := qd_c (by decide +kernel)
theorem dX7_init_95 : decode cX7_init 95 = .ok (.aload_n 1, 1) := qd_c (by decide +kernel)
theorem dX7_init_96 : decode cX7_init 96 = .ok (.putfield 46, 3) := qd_c (by decide +kernel)
theorem kw_211 : Cond.fieldLink RX7 46 "SportsHouse$Standings" "season" "LSportsHouse$Season;" ∈ lw_g := lwq_1 (dqc_m (dqc_m (dqc_m (dqc_m (dqc_m (dqc_m (dqa_m (dqa_m (List.mem_of_getElem? (i := 3) rfl))))))))) rfl
theorem dX7_init_99 : decode cX7_init 99 = .ok (.return_, 1) := qd_c (by decide +kernel)
set_option maxHeartbeats 4000000 in
set_option maxRecDepth 100000 in
theorem ct_X7_init (l : Launch) (dC : Nat → ClassId) (dI : Nat → Nat → Nat) (h0 : Nat) (se : Nat) (sz : Nat)  : Met l yX7_init (.code yX7_init cX7_init 2 none :: lw_g) ({ frames := 1, cells := 11, slots := 492, locals := 60 }) (ro_P dC dI [(h0, .inr (7, [.null, .null, .null, .null, .null, .null, .null, .null, .null, .null, .null, .null, .null, .int 0]))] [] sz [.ref h0, .ref se]) (va_Qv (fun (_ : Unit) => True) (fun _ t => ∃ (q1 : Nat) (q3 : Nat) (q5 : Nat) (q7 : Nat) (q9 : Nat) (q11 : Nat) (q13 : Nat) (q15 : Nat) (q17 : Nat) (q19 : Nat) (q21 : Nat) (k2 : ClassId) (k4 : ClassId) (k6 : ClassId) (k8 : ClassId) (k10 : ClassId) (k12 : ClassId) (k14 : ClassId) (k16 : ClassId) (k18 : ClassId) (k20 : ClassId) (k22 : ClassId), va_P (dC, dI) vwCl [(h0, .inr (7, [.ref se, .null, .ref q1, .ref q3, .ref q5, .ref q7, .ref q9, .ref q11, .ref q13, .ref q15, .ref q17, .ref q19, .ref q21, .int 0])), (q1, .inl (k2, 96, .inl (fun _ => 0))), (q3, .inl (k4, 12, .inl (fun _ => 0))), (q5, .inl (k6, 12, .inl (fun _ => 0))), (q7, .inl (k8, 144, .inl (fun _ => 0))), (q9, .inl (k10, 144, .inl (fun _ => 0))), (q11, .inl (k12, 12, .inl (fun _ => 0))), (q13, .inl (k14, 12, .inl (fun _ => 0))), (q15, .inl (k16, 12, .inr (.inl (fun _ => 0)))), (q17, .inl (k18, 16, .inl (fun _ => 0))), (q19, .inl (k20, 16, .inl (fun _ => 0))), (q21, .inl (k22, 16, .inl (fun _ => 0)))] t.heap ∧ va_K (dC, dI) vwCl [(k2, .int), (k4, .int), (k6, .int), (k8, .int), (k10, .int), (k12, .int), (k14, .int), (k16, .long), (k18, .int), (k20, .int), (k22, .int)] t ∧ va_D (va_A [(h0, .inr (7, [.null, .null, .null, .null, .null, .null, .null, .null, .null, .null, .null, .null, .null, .int 0]))] sz) [(h0, .inr (7, [.ref se, .null, .ref q1, .ref q3, .ref q5, .ref q7, .ref q9, .ref q11, .ref q13, .ref q15, .ref q17, .ref q19, .ref q21, .int 0])), (q1, .inl (k2, 96, .inl (fun _ => 0))), (q3, .inl (k4, 12, .inl (fun _ => 0))), (q5, .inl (k6, 12, .inl (fun _ => 0))), (q7, .inl (k8, 144, .inl (fun _ => 0))), (q9, .inl (k10, 144, .inl (fun _ => 0))), (q11, .inl (k12, 12, .inl (fun _ => 0))), (q13, .inl (k14, 12, .inl (fun _ => 0))), (q15, .inl (k16, 12, .inr (.inl (fun _ => 0)))), (q17, .inl (k18, 16, .inl (fun _ => 0))), (q19, .inl (k20, 16, .inl (fun _ => 0))), (q21, .inl (k22, 16, .inl (fun _ => 0)))]) (va_A [(h0, .inr (7, [.null, .null, .null, .null, .null, .null, .null, .null, .null, .null, .null, .null, .null, .int 0]))] sz)) 11 492 (va_A [(h0, .inr (7, [.null, .null, .null, .null, .null, .null, .null, .null, .null, .null, .null, .null, .null, .int 0]))] sz) := by
  refine ro_entry (by decide) (Nat.le_of_ble_eq_true rfl) ?_
  intro p e s m below meth c ls hx hb hr hlocks ht hown hin hml hsz hP hK hD hE hl
  subst hsz
  have hD := hD.self (sz := s.heap.size)
  generalize hAe : va_A [(h0, .inr (7, [.null, .null, .null, .null, .null, .null, .null, .null, .null, .null, .null, .null, .null, .int 0]))] s.heap.size = A at hD ⊢
  have hA : ∀ q, s.heap.size ≤ q → A q := fun q h => by rw [← hAe]; exact Or.inr h
  have hS : va_S A s.heap s.heap [] := va_S.rf
  have hl : lv_has ls 2 [(0, .ref h0), (1, .ref se)] := hl
  have hown : s.vm.findClass RX7 = some m.cls := hown
  refine lv_aload_n hx hb dX7_init_0 rfl (lv_at hl 0 rfl) ?_
  refine W.objInit hx hb hown (ht _ kw_210) (ht _ kw_27) (ht _ kw_28) rfl (by rw [hml]; exact hl.1) rfl dX7_init_1 (Nat.le_of_ble_eq_true rfl) (Nat.le_of_ble_eq_true rfl) ?_
  refine W.eq (g2 := F0 m 4 ls []) rfl ?_
  refine lv_aload_n hx hb dX7_init_4 rfl (lv_at hl 0 rfl) ?_
  refine lv_bipush (v := 96) hx hb dX7_init_5 (by decide) ?_
  refine va_newa (atype := .int) (ty := .int) (a0 := (96, .inl (fun _ => 0))) hx hb (ht _ kw_72) rfl hK hP hD hS hA (fun _ => rfl) (by decide) (by decide) (Nat.le_of_ble_eq_true rfl) (Nat.le_of_ble_eq_true rfl) (Nat.le_of_ble_eq_true rfl) dX7_init_7 (fun q1 k2 H hK hP hD hS => ?_)
  have hP : va_P (dC, dI) vwCl [(h0, .inr (7, [.null, .null, .null, .null, .null, .null, .null, .null, .null, .null, .null, .null, .null, .int 0])), (q1, .inl (k2, 96, .inl (fun _ => 0)))] H := hP
  have hD : va_D A [(h0, .inr (7, [.null, .null, .null, .null, .null, .null, .null, .null, .null, .null, .null, .null, .null, .int 0])), (q1, .inl (k2, 96, .inl (fun _ => 0)))] := hD
  have hK : va_K (dC, dI) vwCl [(k2, .int)] s := hK
  refine W.widen (k := 1) (n := 96) (Nat.le_of_ble_eq_true rfl) (Nat.le_of_ble_eq_true rfl) ?_
  refine va_putF (D := (dC, dI)) (ci := 7) (v := .ref q1) (ty := .array .int) (C := RX7) (T := TX7) (N := 14) hx hb ht inX7 tyX7 tyX7_ok nmX7 hown hK hP hD hS 0 rfl rfl 2 (by decide) (ht _ kw_213) (fun _ h9 => h9) rfl hin rfl (by decide +kernel) rfl rfl (Nat.le_of_ble_eq_true rfl) dX7_init_9 (fun H locs hP hD hS => ?_)
  have hP : va_P (dC, dI) vwCl [(h0, .inr (7, [.null, .null, .ref q1, .null, .null, .null, .null, .null, .null, .null, .null, .null, .null, .int 0])), (q1, .inl (k2, 96, .inl (fun _ => 0)))] H := hP
  have hD : va_D A [(h0, .inr (7, [.null, .null, .ref q1, .null, .null, .null, .null, .null, .null, .null, .null, .null, .null, .int 0])), (q1, .inl (k2, 96, .inl (fun _ => 0)))] := hD
  refine lv_aload_n hx hb dX7_init_12 rfl (lv_at hl 0 rfl) ?_
  refine lv_bipush (v := 12) hx hb dX7_init_13 (by decide) ?_
  refine va_newa (atype := .int) (ty := .int) (a0 := (12, .inl (fun _ => 0))) hx hb (ht _ kw_72) rfl hK hP hD hS hA (fun _ => rfl) (by decide) (by decide) (Nat.le_of_ble_eq_true rfl) (Nat.le_of_ble_eq_true rfl) (Nat.le_of_ble_eq_true rfl) dX7_init_15 (fun q3 k4 H hK hP hD hS => ?_)
  have hP : va_P (dC, dI) vwCl [(h0, .inr (7, [.null, .null, .ref q1, .null, .null, .null, .null, .null, .null, .null, .null, .null, .null, .int 0])), (q1, .inl (k2, 96, .inl (fun _ => 0))), (q3, .inl (k4, 12, .inl (fun _ => 0)))] H := hP
  have hD : va_D A [(h0, .inr (7, [.null, .null, .ref q1, .null, .null, .null, .null, .null, .null, .null, .null, .null, .null, .int 0])), (q1, .inl (k2, 96, .inl (fun _ => 0))), (q3, .inl (k4, 12, .inl (fun _ => 0)))] := hD
  have hK : va_K (dC, dI) vwCl [(k2, .int), (k4, .int)] s := hK
  refine W.widen (k := 2) (n := 108) (Nat.le_of_ble_eq_true rfl) (Nat.le_of_ble_eq_true rfl) ?_
  refine va_putF (D := (dC, dI)) (ci := 7) (v := .ref q3) (ty := .array .int) (C := RX7) (T := TX7) (N := 14) hx hb ht inX7 tyX7 tyX7_ok nmX7 hown hK hP hD hS 0 rfl rfl 3 (by decide) (ht _ kw_216) (fun _ h9 => h9) rfl hin rfl (by decide +kernel) rfl rfl (Nat.le_of_ble_eq_true rfl) dX7_init_17 (fun H locs hP hD hS => ?_)
  have hP : va_P (dC, dI) vwCl [(h0, .inr (7, [.null, .null, .ref q1, .ref q3, .null, .null, .null, .null, .null, .null, .null, .null, .null, .int 0])), (q1, .inl (k2, 96, .inl (fun _ => 0))), (q3, .inl (k4, 12, .inl (fun _ => 0)))] H := hP
  have hD : va_D A [(h0, .inr (7, [.null, .null, .ref q1, .ref q3, .null, .null, .null, .null, .null, .null, .null, .null, .null, .int 0])), (q1, .inl (k2, 96, .inl (fun _ => 0))), (q3, .inl (k4, 12, .inl (fun _ => 0)))] := hD
  refine lv_aload_n hx hb dX7_init_20 rfl (lv_at hl 0 rfl) ?_
  refine lv_bipush (v := 12) hx hb dX7_init_21 (by decide) ?_
  refine va_newa (atype := .int) (ty := .int) (a0 := (12, .inl (fun _ => 0))) hx hb (ht _ kw_72) rfl hK hP hD hS hA (fun _ => rfl) (by decide) (by decide) (Nat.le_of_ble_eq_true rfl) (Nat.le_of_ble_eq_true rfl) (Nat.le_of_ble_eq_true rfl) dX7_init_23 (fun q5 k6 H hK hP hD hS => ?_)
  have hP : va_P (dC, dI) vwCl [(h0, .inr (7, [.null, .null, .ref q1, .ref q3, .null, .null, .null, .null, .null, .null, .null, .null, .null, .int 0])), (q1, .inl (k2, 96, .inl (fun _ => 0))), (q3, .inl (k4, 12, .inl (fun _ => 0))), (q5, .inl (k6, 12, .inl (fun _ => 0)))] H := hP
  have hD : va_D A [(h0, .inr (7, [.null, .null, .ref q1, .ref q3, .null, .null, .null, .null, .null, .null, .null, .null, .null, .int 0])), (q1, .inl (k2, 96, .inl (fun _ => 0))), (q3, .inl (k4, 12, .inl (fun _ => 0))), (q5, .inl (k6, 12, .inl (fun _ => 0)))] := hD
  have hK : va_K (dC, dI) vwCl [(k2, .int), (k4, .int), (k6, .int)] s := hK
  refine W.widen (k := 3) (n := 120) (Nat.le_of_ble_eq_true rfl) (Nat.le_of_ble_eq_true rfl) ?_
  refine va_putF (D := (dC, dI)) (ci := 7) (v := .ref q5) (ty := .array .int) (C := RX7) (T := TX7) (N := 14) hx hb ht inX7 tyX7 tyX7_ok nmX7 hown hK hP hD hS 0 rfl rfl 4 (by decide) (ht _ kw_217) (fun _ h9 => h9) rfl hin rfl (by decide +kernel) rfl rfl (Nat.le_of_ble_eq_true rfl) dX7_init_25 (fun H locs hP hD hS => ?_)
  have hP : va_P (dC, dI) vwCl [(h0, .inr (7, [.null, .null, .ref q1, .ref q3, .ref q5, .null, .null, .null, .null, .null, .null, .null, .null, .int 0])), (q1, .inl (k2, 96, .inl (fun _ => 0))), (q3, .inl (k4, 12, .inl (fun _ => 0))), (q5, .inl (k6, 12, .inl (fun _ => 0)))] H := hP
  have hD : va_D A [(h0, .inr (7, [.null, .null, .ref q1, .ref q3, .ref q5, .null, .null, .null, .null, .null, .null, .null, .null, .int 0])), (q1, .inl (k2, 96, .inl (fun _ => 0))), (q3, .inl (k4, 12, .inl (fun _ => 0))), (q5, .inl (k6, 12, .inl (fun _ => 0)))] := hD
  refine lv_aload_n hx hb dX7_init_28 rfl (lv_at hl 0 rfl) ?_
  refine lv_sipush (v := 144) hx hb dX7_init_29 (by decide) ?_
  refine va_newa (atype := .int) (ty := .int) (a0 := (144, .inl (fun _ => 0))) hx hb (ht _ kw_72) rfl hK hP hD hS hA (fun _ => rfl) (by decide) (by decide) (Nat.le_of_ble_eq_true rfl) (Nat.le_of_ble_eq_true rfl) (Nat.le_of_ble_eq_true rfl) dX7_init_32 (fun q7 k8 H hK hP hD hS => ?_)
  have hP : va_P (dC, dI) vwCl [(h0, .inr (7, [.null, .null, .ref q1, .ref q3, .ref q5, .null, .null, .null, .null, .null, .null, .null, .null, .int 0])), (q1, .inl (k2, 96, .inl (fun _ => 0))), (q3, .inl (k4, 12, .inl (fun _ => 0))), (q5, .inl (k6, 12, .inl (fun _ => 0))), (q7, .inl (k8, 144, .inl (fun _ => 0)))] H := hP
  have hD : va_D A [(h0, .inr (7, [.null, .null, .ref q1, .ref q3, .ref q5, .null, .null, .null, .null, .null, .null, .null, .null, .int 0])), (q1, .inl (k2, 96, .inl (fun _ => 0))), (q3, .inl (k4, 12, .inl (fun _ => 0))), (q5, .inl (k6, 12, .inl (fun _ => 0))), (q7, .inl (k8, 144, .inl (fun _ => 0)))] := hD
  have hK : va_K (dC, dI) vwCl [(k2, .int), (k4, .int), (k6, .int), (k8, .int)] s := hK
  refine W.widen (k := 4) (n := 264) (Nat.le_of_ble_eq_true rfl) (Nat.le_of_ble_eq_true rfl) ?_
  refine va_putF (D := (dC, dI)) (ci := 7) (v := .ref q7) (ty := .array .int) (C := RX7) (T := TX7) (N := 14) hx hb ht inX7 tyX7 tyX7_ok nmX7 hown hK hP hD hS 0 rfl rfl 5 (by decide) (ht _ kw_218) (fun _ h9 => h9) rfl hin rfl (by decide +kernel) rfl rfl (Nat.le_of_ble_eq_true rfl) dX7_init_34 (fun H locs hP hD hS => ?_)
  have hP : va_P (dC, dI) vwCl [(h0, .inr (7, [.null, .null, .ref q1, .ref q3, .ref q5, .ref q7, .null, .null, .null, .null, .null, .null, .null, .int 0])), (q1, .inl (k2, 96, .inl (fun _ => 0))), (q3, .inl (k4, 12, .inl (fun _ => 0))), (q5, .inl (k6, 12, .inl (fun _ => 0))), (q7, .inl (k8, 144, .inl (fun _ => 0)))] H := hP
  have hD : va_D A [(h0, .inr (7, [.null, .null, .ref q1, .ref q3, .ref q5, .ref q7, .null, .null, .null, .null, .null, .null, .null, .int 0])), (q1, .inl (k2, 96, .inl (fun _ => 0))), (q3, .inl (k4, 12, .inl (fun _ => 0))), (q5, .inl (k6, 12, .inl (fun _ => 0))), (q7, .inl (k8, 144, .inl (fun _ => 0)))] := hD
  refine lv_aload_n hx hb dX7_init_37 rfl (lv_at hl 0 rfl) ?_
  refine lv_sipush (v := 144) hx hb dX7_init_38 (by decide) ?_
  refine va_newa (atype := .int) (ty := .int) (a0 := (144, .inl (fun _ => 0))) hx hb (ht _ kw_72) rfl hK hP hD hS hA (fun _ => rfl) (by decide) (by decide) (Nat.le_of_ble_eq_true rfl) (Nat.le_of_ble_eq_true rfl) (Nat.le_of_ble_eq_true rfl) dX7_init_41 (fun q9 k10 H hK hP hD hS => ?_)
  have hP : va_P (dC, dI) vwCl [(h0, .inr (7, [.null, .null, .ref q1, .ref q3, .ref q5, .ref q7, .null, .null, .null, .null, .null, .null, .null, .int 0])), (q1, .inl (k2, 96, .inl (fun _ => 0))), (q3, .inl (k4, 12, .inl (fun _ => 0))), (q5, .inl (k6, 12, .inl (fun _ => 0))), (q7, .inl (k8, 144, .inl (fun _ => 0))), (q9, .inl (k10, 144, .inl (fun _ => 0)))] H := hP
  have hD : va_D A [(h0, .inr (7, [.null, .null, .ref q1, .ref q3, .ref q5, .ref q7, .null, .null, .null, .null, .null, .null, .null, .int 0])), (q1, .inl (k2, 96, .inl (fun _ => 0))), (q3, .inl (k4, 12, .inl (fun _ => 0))), (q5, .inl (k6, 12, .inl (fun _ => 0))), (q7, .inl (k8, 144, .inl (fun _ => 0))), (q9, .inl (k10, 144, .inl (fun _ => 0)))] := hD
  have hK : va_K (dC, dI) vwCl [(k2, .int), (k4, .int), (k6, .int), (k8, .int), (k10, .int)] s := hK
  refine W.widen (k := 5) (n := 408) (Nat.le_of_ble_eq_true rfl) (Nat.le_of_ble_eq_true rfl) ?_
  refine va_putF (D := (dC, dI)) (ci := 7) (v := .ref q9) (ty := .array .int) (C := RX7) (T := TX7) (N := 14) hx hb ht inX7 tyX7 tyX7_ok nmX7 hown hK hP hD hS 0 rfl rfl 6 (by decide) (ht _ kw_219) (fun _ h9 => h9) rfl hin rfl (by decide +kernel) rfl rfl (Nat.le_of_ble_eq_true rfl) dX7_init_43 (fun H locs hP hD hS => ?_)
  have hP : va_P (dC, dI) vwCl [(h0, .inr (7, [.null, .null, .ref q1, .ref q3, .ref q5, .ref q7, .ref q9, .null, .null, .null, .null, .null, .null, .int 0])), (q1, .inl (k2, 96, .inl (fun _ => 0))), (q3, .inl (k4, 12, .inl (fun _ => 0))), (q5, .inl (k6, 12, .inl (fun _ => 0))), (q7, .inl (k8, 144, .inl (fun _ => 0))), (q9, .inl (k10, 144, .inl (fun _ => 0)))] H := hP
  have hD : va_D A [(h0, .inr (7, [.null, .null, .ref q1, .ref q3, .ref q5, .ref q7, .ref q9, .null, .null, .null, .null, .null, .null, .int 0])), (q1, .inl (k2, 96, .inl (fun _ => 0))), (q3, .inl (k4, 12, .inl (fun _ => 0))), (q5, .inl (k6, 12, .inl (fun _ => 0))), (q7, .inl (k8, 144, .inl (fun _ => 0))), (q9, .inl (k10, 144, .inl (fun _ => 0)))] := hD
  refine lv_aload_n hx hb dX7_init_46 rfl (lv_at hl 0 rfl) ?_
  refine lv_bipush (v := 12) hx hb dX7_init_47 (by decide) ?_
  refine va_newa (atype := .int) (ty := .int) (a0 := (12, .inl (fun _ => 0))) hx hb (ht _ kw_72) rfl hK hP hD hS hA (fun _ => rfl) (by decide) (by decide) (Nat.le_of_ble_eq_true rfl) (Nat.le_of_ble_eq_true rfl) (Nat.le_of_ble_eq_true rfl) dX7_init_49 (fun q11 k12 H hK hP hD hS => ?_)
  have hP : va_P (dC, dI) vwCl [(h0, .inr (7, [.null, .null, .ref q1, .ref q3, .ref q5, .ref q7, .ref q9, .null, .null, .null, .null, .null, .null, .int 0])), (q1, .inl (k2, 96, .inl (fun _ => 0))), (q3, .inl (k4, 12, .inl (fun _ => 0))), (q5, .inl (k6, 12, .inl (fun _ => 0))), (q7, .inl (k8, 144, .inl (fun _ => 0))), (q9, .inl (k10, 144, .inl (fun _ => 0))), (q11, .inl (k12, 12, .inl (fun _ => 0)))] H := hP
  have hD : va_D A [(h0, .inr (7, [.null, .null, .ref q1, .ref q3, .ref q5, .ref q7, .ref q9, .null, .null, .null, .null, .null, .null, .int 0])), (q1, .inl (k2, 96, .inl (fun _ => 0))), (q3, .inl (k4, 12, .inl (fun _ => 0))), (q5, .inl (k6, 12, .inl (fun _ => 0))), (q7, .inl (k8, 144, .inl (fun _ => 0))), (q9, .inl (k10, 144, .inl (fun _ => 0))), (q11, .inl (k12, 12, .inl (fun _ => 0)))] := hD
  have hK : va_K (dC, dI) vwCl [(k2, .int), (k4, .int), (k6, .int), (k8, .int), (k10, .int), (k12, .int)] s := hK
  refine W.widen (k := 6) (n := 420) (Nat.le_of_ble_eq_true rfl) (Nat.le_of_ble_eq_true rfl) ?_
  refine va_putF (D := (dC, dI)) (ci := 7) (v := .ref q11) (ty := .array .int) (C := RX7) (T := TX7) (N := 14) hx hb ht inX7 tyX7 tyX7_ok nmX7 hown hK hP hD hS 0 rfl rfl 7 (by decide) (ht _ kw_220) (fun _ h9 => h9) rfl hin rfl (by decide +kernel) rfl rfl (Nat.le_of_ble_eq_true rfl) dX7_init_51 (fun H locs hP hD hS => ?_)
  have hP : va_P (dC, dI) vwCl [(h0, .inr (7, [.null, .null, .ref q1, .ref q3, .ref q5, .ref q7, .ref q9, .ref q11, .null, .null, .null, .null, .null, .int 0])), (q1, .inl (k2, 96, .inl (fun _ => 0))), (q3, .inl (k4, 12, .inl (fun _ => 0))), (q5, .inl (k6, 12, .inl (fun _ => 0))), (q7, .inl (k8, 144, .inl (fun _ => 0))), (q9, .inl (k10, 144, .inl (fun _ => 0))), (q11, .inl (k12, 12, .inl (fun _ => 0)))] H := hP
  have hD : va_D A [(h0, .inr (7, [.null, .null, .ref q1, .ref q3, .ref q5, .ref q7, .ref q9, .ref q11, .null, .null, .null, .null, .null, .int 0])), (q1, .inl (k2, 96, .inl (fun _ => 0))), (q3, .inl (k4, 12, .inl (fun _ => 0))), (q5, .inl (k6, 12, .inl (fun _ => 0))), (q7, .inl (k8, 144, .inl (fun _ => 0))), (q9, .inl (k10, 144, .inl (fun _ => 0))), (q11, .inl (k12, 12, .inl (fun _ => 0)))] := hD
  refine lv_aload_n hx hb dX7_init_54 rfl (lv_at hl 0 rfl) ?_
  refine lv_bipush (v := 12) hx hb dX7_init_55 (by decide) ?_
  refine va_newa (atype := .int) (ty := .int) (a0 := (12, .inl (fun _ => 0))) hx hb (ht _ kw_72) rfl hK hP hD hS hA (fun _ => rfl) (by decide) (by decide) (Nat.le_of_ble_eq_true rfl) (Nat.le_of_ble_eq_true rfl) (Nat.le_of_ble_eq_true rfl) dX7_init_57 (fun q13 k14 H hK hP hD hS => ?_)
  have hP : va_P (dC, dI) vwCl [(h0, .inr (7, [.null, .null, .ref q1, .ref q3, .ref q5, .ref q7, .ref q9, .ref q11, .null, .null, .null, .null, .null, .int 0])), (q1, .inl (k2, 96, .inl (fun _ => 0))), (q3, .inl (k4, 12, .inl (fun _ => 0))), (q5, .inl (k6, 12, .inl (fun _ => 0))), (q7, .inl (k8, 144, .inl (fun _ => 0))), (q9, .inl (k10, 144, .inl (fun _ => 0))), (q11, .inl (k12, 12, .inl (fun _ => 0))), (q13, .inl (k14, 12, .inl (fun _ => 0)))] H := hP
  have hD : va_D A [(h0, .inr (7, [.null, .null, .ref q1, .ref q3, .ref q5, .ref q7, .ref q9, .ref q11, .null, .null, .null, .null, .null, .int 0])), (q1, .inl (k2, 96, .inl (fun _ => 0))), (q3, .inl (k4, 12, .inl (fun _ => 0))), (q5, .inl (k6, 12, .inl (fun _ => 0))), (q7, .inl (k8, 144, .inl (fun _ => 0))), (q9, .inl (k10, 144, .inl (fun _ => 0))), (q11, .inl (k12, 12, .inl (fun _ => 0))), (q13, .inl (k14, 12, .inl (fun _ => 0)))] := hD
  have hK : va_K (dC, dI) vwCl [(k2, .int), (k4, .int), (k6, .int), (k8, .int), (k10, .int), (k12, .int), (k14, .int)] s := hK
  refine W.widen (k := 7) (n := 432) (Nat.le_of_ble_eq_true rfl) (Nat.le_of_ble_eq_true rfl) ?_
  refine va_putF (D := (dC, dI)) (ci := 7) (v := .ref q13) (ty := .array .int) (C := RX7) (T := TX7) (N := 14) hx hb ht inX7 tyX7 tyX7_ok nmX7 hown hK hP hD hS 0 rfl rfl 8 (by decide) (ht _ kw_222) (fun _ h9 => h9) rfl hin rfl (by decide +kernel) rfl rfl (Nat.le_of_ble_eq_true rfl) dX7_init_59 (fun H locs hP hD hS => ?_)
  have hP : va_P (dC, dI) vwCl [(h0, .inr (7, [.null, .null, .ref q1, .ref q3, .ref q5, .ref q7, .ref q9, .ref q11, .ref q13, .null, .null, .null, .null, .int 0])), (q1, .inl (k2, 96, .inl (fun _ => 0))), (q3, .inl (k4, 12, .inl (fun _ => 0))), (q5, .inl (k6, 12, .inl (fun _ => 0))), (q7, .inl (k8, 144, .inl (fun _ => 0))), (q9, .inl (k10, 144, .inl (fun _ => 0))), (q11, .inl (k12, 12, .inl (fun _ => 0))), (q13, .inl (k14, 12, .inl (fun _ => 0)))] H := hP
  have hD : va_D A [(h0, .inr (7, [.null, .null, .ref q1, .ref q3, .ref q5, .ref q7, .ref q9, .ref q11, .ref q13, .null, .null, .null, .null, .int 0])), (q1, .inl (k2, 96, .inl (fun _ => 0))), (q3, .inl (k4, 12, .inl (fun _ => 0))), (q5, .inl (k6, 12, .inl (fun _ => 0))), (q7, .inl (k8, 144, .inl (fun _ => 0))), (q9, .inl (k10, 144, .inl (fun _ => 0))), (q11, .inl (k12, 12, .inl (fun _ => 0))), (q13, .inl (k14, 12, .inl (fun _ => 0)))] := hD
  refine lv_aload_n hx hb dX7_init_62 rfl (lv_at hl 0 rfl) ?_
  refine lv_bipush (v := 12) hx hb dX7_init_63 (by decide) ?_
  refine va_newa (atype := .long) (ty := .long) (a0 := (12, .inr (.inl (fun _ => 0)))) hx hb (ht _ kw_258) rfl hK hP hD hS hA (fun _ => rfl) (by decide) (by decide) (Nat.le_of_ble_eq_true rfl) (Nat.le_of_ble_eq_true rfl) (Nat.le_of_ble_eq_true rfl) dX7_init_65 (fun q15 k16 H hK hP hD hS => ?_)
  have hP : va_P (dC, dI) vwCl [(h0, .inr (7, [.null, .null, .ref q1, .ref q3, .ref q5, .ref q7, .ref q9, .ref q11, .ref q13, .null, .null, .null, .null, .int 0])), (q1, .inl (k2, 96, .inl (fun _ => 0))), (q3, .inl (k4, 12, .inl (fun _ => 0))), (q5, .inl (k6, 12, .inl (fun _ => 0))), (q7, .inl (k8, 144, .inl (fun _ => 0))), (q9, .inl (k10, 144, .inl (fun _ => 0))), (q11, .inl (k12, 12, .inl (fun _ => 0))), (q13, .inl (k14, 12, .inl (fun _ => 0))), (q15, .inl (k16, 12, .inr (.inl (fun _ => 0))))] H := hP
  have hD : va_D A [(h0, .inr (7, [.null, .null, .ref q1, .ref q3, .ref q5, .ref q7, .ref q9, .ref q11, .ref q13, .null, .null, .null, .null, .int 0])), (q1, .inl (k2, 96, .inl (fun _ => 0))), (q3, .inl (k4, 12, .inl (fun _ => 0))), (q5, .inl (k6, 12, .inl (fun _ => 0))), (q7, .inl (k8, 144, .inl (fun _ => 0))), (q9, .inl (k10, 144, .inl (fun _ => 0))), (q11, .inl (k12, 12, .inl (fun _ => 0))), (q13, .inl (k14, 12, .inl (fun _ => 0))), (q15, .inl (k16, 12, .inr (.inl (fun _ => 0))))] := hD
  have hK : va_K (dC, dI) vwCl [(k2, .int), (k4, .int), (k6, .int), (k8, .int), (k10, .int), (k12, .int), (k14, .int), (k16, .long)] s := hK
  refine W.widen (k := 8) (n := 444) (Nat.le_of_ble_eq_true rfl) (Nat.le_of_ble_eq_true rfl) ?_
  refine va_putF (D := (dC, dI)) (ci := 7) (v := .ref q15) (ty := .array .long) (C := RX7) (T := TX7) (N := 14) hx hb ht inX7 tyX7 tyX7_ok nmX7 hown hK hP hD hS 0 rfl rfl 9 (by decide) (ht _ kw_224) (fun _ h9 => h9) rfl hin rfl (by decide +kernel) rfl rfl (Nat.le_of_ble_eq_true rfl) dX7_init_67 (fun H locs hP hD hS => ?_)
  have hP : va_P (dC, dI) vwCl [(h0, .inr (7, [.null, .null, .ref q1, .ref q3, .ref q5, .ref q7, .ref q9, .ref q11, .ref q13, .ref q15, .null, .null, .null, .int 0])), (q1, .inl (k2, 96, .inl (fun _ => 0))), (q3, .inl (k4, 12, .inl (fun _ => 0))), (q5, .inl (k6, 12, .inl (fun _ => 0))), (q7, .inl (k8, 144, .inl (fun _ => 0))), (q9, .inl (k10, 144, .inl (fun _ => 0))), (q11, .inl (k12, 12, .inl (fun _ => 0))), (q13, .inl (k14, 12, .inl (fun _ => 0))), (q15, .inl (k16, 12, .inr (.inl (fun _ => 0))))] H := hP
  have hD : va_D A [(h0, .inr (7, [.null, .null, .ref q1, .ref q3, .ref q5, .ref q7, .ref q9, .ref q11, .ref q13, .ref q15, .null, .null, .null, .int 0])), (q1, .inl (k2, 96, .inl (fun _ => 0))), (q3, .inl (k4, 12, .inl (fun _ => 0))), (q5, .inl (k6, 12, .inl (fun _ => 0))), (q7, .inl (k8, 144, .inl (fun _ => 0))), (q9, .inl (k10, 144, .inl (fun _ => 0))), (q11, .inl (k12, 12, .inl (fun _ => 0))), (q13, .inl (k14, 12, .inl (fun _ => 0))), (q15, .inl (k16, 12, .inr (.inl (fun _ => 0))))] := hD
  refine lv_aload_n hx hb dX7_init_70 rfl (lv_at hl 0 rfl) ?_
  refine lv_bipush (v := 16) hx hb dX7_init_71 (by decide) ?_
  refine va_newa (atype := .int) (ty := .int) (a0 := (16, .inl (fun _ => 0))) hx hb (ht _ kw_72) rfl hK hP hD hS hA (fun _ => rfl) (by decide) (by decide) (Nat.le_of_ble_eq_true rfl) (Nat.le_of_ble_eq_true rfl) (Nat.le_of_ble_eq_true rfl) dX7_init_73 (fun q17 k18 H hK hP hD hS => ?_)
  have hP : va_P (dC, dI) vwCl [(h0, .inr (7, [.null, .null, .ref q1, .ref q3, .ref q5, .ref q7, .ref q9, .ref q11, .ref q13, .ref q15, .null, .null, .null, .int 0])), (q1, .inl (k2, 96, .inl (fun _ => 0))), (q3, .inl (k4, 12, .inl (fun _ => 0))), (q5, .inl (k6, 12, .inl (fun _ => 0))), (q7, .inl (k8, 144, .inl (fun _ => 0))), (q9, .inl (k10, 144, .inl (fun _ => 0))), (q11, .inl (k12, 12, .inl (fun _ => 0))), (q13, .inl (k14, 12, .inl (fun _ => 0))), (q15, .inl (k16, 12, .inr (.inl (fun _ => 0)))), (q17, .inl (k18, 16, .inl (fun _ => 0)))] H := hP
  have hD : va_D A [(h0, .inr (7, [.null, .null, .ref q1, .ref q3, .ref q5, .ref q7, .ref q9, .ref q11, .ref q13, .ref q15, .null, .null, .null, .int 0])), (q1, .inl (k2, 96, .inl (fun _ => 0))), (q3, .inl (k4, 12, .inl (fun _ => 0))), (q5, .inl (k6, 12, .inl (fun _ => 0))), (q7, .inl (k8, 144, .inl (fun _ => 0))), (q9, .inl (k10, 144, .inl (fun _ => 0))), (q11, .inl (k12, 12, .inl (fun _ => 0))), (q13, .inl (k14, 12, .inl (fun _ => 0))), (q15, .inl (k16, 12, .inr (.inl (fun _ => 0)))), (q17, .inl (k18, 16, .inl (fun _ => 0)))] := hD
  have hK : va_K (dC, dI) vwCl [(k2, .int), (k4, .int), (k6, .int), (k8, .int), (k10, .int), (k12, .int), (k14, .int), (k16, .long), (k18, .int)] s := hK
  refine W.widen (k := 9) (n := 460) (Nat.le_of_ble_eq_true rfl) (Nat.le_of_ble_eq_true rfl) ?_
  refine va_putF (D := (dC, dI)) (ci := 7) (v := .ref q17) (ty := .array .int) (C := RX7) (T := TX7) (N := 14) hx hb ht inX7 tyX7 tyX7_ok nmX7 hown hK hP hD hS 0 rfl rfl 10 (by decide) (ht _ kw_225) (fun _ h9 => h9) rfl hin rfl (by decide +kernel) rfl rfl (Nat.le_of_ble_eq_true rfl) dX7_init_75 (fun H locs hP hD hS => ?_)
  have hP : va_P (dC, dI) vwCl [(h0, .inr (7, [.null, .null, .ref q1, .ref q3, .ref q5, .ref q7, .ref q9, .ref q11, .ref q13, .ref q15, .ref q17, .null, .null, .int 0])), (q1, .inl (k2, 96, .inl (fun _ => 0))), (q3, .inl (k4, 12, .inl (fun _ => 0))), (q5, .inl (k6, 12, .inl (fun _ => 0))), (q7, .inl (k8, 144, .inl (fun _ => 0))), (q9, .inl (k10, 144, .inl (fun _ => 0))), (q11, .inl (k12, 12, .inl (fun _ => 0))), (q13, .inl (k14, 12, .inl (fun _ => 0))), (q15, .inl (k16, 12, .inr (.inl (fun _ => 0)))), (q17, .inl (k18, 16, .inl (fun _ => 0)))] H := hP
  have hD : va_D A [(h0, .inr (7, [.null, .null, .ref q1, .ref q3, .ref q5, .ref q7, .ref q9, .ref q11, .ref q13, .ref q15, .ref q17, .null, .null, .int 0])), (q1, .inl (k2, 96, .inl (fun _ => 0))), (q3, .inl (k4, 12, .inl (fun _ => 0))), (q5, .inl (k6, 12, .inl (fun _ => 0))), (q7, .inl (k8, 144, .inl (fun _ => 0))), (q9, .inl (k10, 144, .inl (fun _ => 0))), (q11, .inl (k12, 12, .inl (fun _ => 0))), (q13, .inl (k14, 12, .inl (fun _ => 0))), (q15, .inl (k16, 12, .inr (.inl (fun _ => 0)))), (q17, .inl (k18, 16, .inl (fun _ => 0)))] := hD
  refine lv_aload_n hx hb dX7_init_78 rfl (lv_at hl 0 rfl) ?_
  refine lv_bipush (v := 16) hx hb dX7_init_79 (by decide) ?_
  refine va_newa (atype := .int) (ty := .int) (a0 := (16, .inl (fun _ => 0))) hx hb (ht _ kw_72) rfl hK hP hD hS hA (fun _ => rfl) (by decide) (by decide) (Nat.le_of_ble_eq_true rfl) (Nat.le_of_ble_eq_true rfl) (Nat.le_of_ble_eq_true rfl) dX7_init_81 (fun q19 k20 H hK hP hD hS => ?_)
  have hP : va_P (dC, dI) vwCl [(h0, .inr (7, [.null, .null, .ref q1, .ref q3, .ref q5, .ref q7, .ref q9, .ref q11, .ref q13, .ref q15, .ref q17, .null, .null, .int 0])), (q1, .inl (k2, 96, .inl (fun _ => 0))), (q3, .inl (k4, 12, .inl (fun _ => 0))), (q5, .inl (k6, 12, .inl (fun _ => 0))), (q7, .inl (k8, 144, .inl (fun _ => 0))), (q9, .inl (k10, 144, .inl (fun _ => 0))), (q11, .inl (k12, 12, .inl (fun _ => 0))), (q13, .inl (k14, 12, .inl (fun _ => 0))), (q15, .inl (k16, 12, .inr (.inl (fun _ => 0)))), (q17, .inl (k18, 16, .inl (fun _ => 0))), (q19, .inl (k20, 16, .inl (fun _ => 0)))] H := hP
  have hD : va_D A [(h0, .inr (7, [.null, .null, .ref q1, .ref q3, .ref q5, .ref q7, .ref q9, .ref q11, .ref q13, .ref q15, .ref q17, .null, .null, .int 0])), (q1, .inl (k2, 96, .inl (fun _ => 0))), (q3, .inl (k4, 12, .inl (fun _ => 0))), (q5, .inl (k6, 12, .inl (fun _ => 0))), (q7, .inl (k8, 144, .inl (fun _ => 0))), (q9, .inl (k10, 144, .inl (fun _ => 0))), (q11, .inl (k12, 12, .inl (fun _ => 0))), (q13, .inl (k14, 12, .inl (fun _ => 0))), (q15, .inl (k16, 12, .inr (.inl (fun _ => 0)))), (q17, .inl (k18, 16, .inl (fun _ => 0))), (q19, .inl (k20, 16, .inl (fun _ => 0)))] := hD
  have hK : va_K (dC, dI) vwCl [(k2, .int), (k4, .int), (k6, .int), (k8, .int), (k10, .int), (k12, .int), (k14, .int), (k16, .long), (k18, .int), (k20, .int)] s := hK
  refine W.widen (k := 10) (n := 476) (Nat.le_of_ble_eq_true rfl) (Nat.le_of_ble_eq_true rfl) ?_
  refine va_putF (D := (dC, dI)) (ci := 7) (v := .ref q19) (ty := .array .int) (C := RX7) (T := TX7) (N := 14) hx hb ht inX7 tyX7 tyX7_ok nmX7 hown hK hP hD hS 0 rfl rfl 11 (by decide) (ht _ kw_226) (fun _ h9 => h9) rfl hin rfl (by decide +kernel) rfl rfl (Nat.le_of_ble_eq_true rfl) dX7_init_83 (fun H locs hP hD hS => ?_)
  have hP : va_P (dC, dI) vwCl [(h0, .inr (7, [.null, .null, .ref q1, .ref q3, .ref q5, .ref q7, .ref q9, .ref q11, .ref q13, .ref q15, .ref q17, .ref q19, .null, .int 0])), (q1, .inl (k2, 96, .inl (fun _ => 0))), (q3, .inl (k4, 12, .inl (fun _ => 0))), (q5, .inl (k6, 12, .inl (fun _ => 0))), (q7, .inl (k8, 144, .inl (fun _ => 0))), (q9, .inl (k10, 144, .inl (fun _ => 0))), (q11, .inl (k12, 12, .inl (fun _ => 0))), (q13, .inl (k14, 12, .inl (fun _ => 0))), (q15, .inl (k16, 12, .inr (.inl (fun _ => 0)))), (q17, .inl (k18, 16, .inl (fun _ => 0))), (q19, .inl (k20, 16, .inl (fun _ => 0)))] H := hP
  have hD : va_D A [(h0, .inr (7, [.null, .null, .ref q1, .ref q3, .ref q5, .ref q7, .ref q9, .ref q11, .ref q13, .ref q15, .ref q17, .ref q19, .null, .int 0])), (q1, .inl (k2, 96, .inl (fun _ => 0))), (q3, .inl (k4, 12, .inl (fun _ => 0))), (q5, .inl (k6, 12, .inl (fun _ => 0))), (q7, .inl (k8, 144, .inl (fun _ => 0))), (q9, .inl (k10, 144, .inl (fun _ => 0))), (q11, .inl (k12, 12, .inl (fun _ => 0))), (q13, .inl (k14, 12, .inl (fun _ => 0))), (q15, .inl (k16, 12, .inr (.inl (fun _ => 0)))), (q17, .inl (k18, 16, .inl (fun _ => 0))), (q19, .inl (k20, 16, .inl (fun _ => 0)))] := hD
  refine lv_aload_n hx hb dX7_init_86 rfl (lv_at hl 0 rfl) ?_
  refine lv_bipush (v := 16) hx hb dX7_init_87 (by decide) ?_
  refine va_newa (atype := .int) (ty := .int) (a0 := (16, .inl (fun _ => 0))) hx hb (ht _ kw_72) rfl hK hP hD hS hA (fun _ => rfl) (by decide) (by decide) (Nat.le_of_ble_eq_true rfl) (Nat.le_of_ble_eq_true rfl) (Nat.le_of_ble_eq_true rfl) dX7_init_89 (fun q21 k22 H hK hP hD hS => ?_)
  have hP : va_P (dC, dI) vwCl [(h0, .inr (7, [.null, .null, .ref q1, .ref q3, .ref q5, .ref q7, .ref q9, .ref q11, .ref q13, .ref q15, .ref q17, .ref q19, .null, .int 0])), (q1, .inl (k2, 96, .inl (fun _ => 0))), (q3, .inl (k4, 12, .inl (fun _ => 0))), (q5, .inl (k6, 12, .inl (fun _ => 0))), (q7, .inl (k8, 144, .inl (fun _ => 0))), (q9, .inl (k10, 144, .inl (fun _ => 0))), (q11, .inl (k12, 12, .inl (fun _ => 0))), (q13, .inl (k14, 12, .inl (fun _ => 0))), (q15, .inl (k16, 12, .inr (.inl (fun _ => 0)))), (q17, .inl (k18, 16, .inl (fun _ => 0))), (q19, .inl (k20, 16, .inl (fun _ => 0))), (q21, .inl (k22, 16, .inl (fun _ => 0)))] H := hP
  have hD : va_D A [(h0, .inr (7, [.null, .null, .ref q1, .ref q3, .ref q5, .ref q7, .ref q9, .ref q11, .ref q13, .ref q15, .ref q17, .ref q19, .null, .int 0])), (q1, .inl (k2, 96, .inl (fun _ => 0))), (q3, .inl (k4, 12, .inl (fun _ => 0))), (q5, .inl (k6, 12, .inl (fun _ => 0))), (q7, .inl (k8, 144, .inl (fun _ => 0))), (q9, .inl (k10, 144, .inl (fun _ => 0))), (q11, .inl (k12, 12, .inl (fun _ => 0))), (q13, .inl (k14, 12, .inl (fun _ => 0))), (q15, .inl (k16, 12, .inr (.inl (fun _ => 0)))), (q17, .inl (k18, 16, .inl (fun _ => 0))), (q19, .inl (k20, 16, .inl (fun _ => 0))), (q21, .inl (k22, 16, .inl (fun _ => 0)))] := hD
  have hK : va_K (dC, dI) vwCl [(k2, .int), (k4, .int), (k6, .int), (k8, .int), (k10, .int), (k12, .int), (k14, .int), (k16, .long), (k18, .int), (k20, .int), (k22, .int)] s := hK
  refine W.widen (k := 11) (n := 492) (Nat.le_of_ble_eq_true rfl) (Nat.le_of_ble_eq_true rfl) ?_
  refine va_putF (D := (dC, dI)) (ci := 7) (v := .ref q21) (ty := .array .int) (C := RX7) (T := TX7) (N := 14) hx hb ht inX7 tyX7 tyX7_ok nmX7 hown hK hP hD hS 0 rfl rfl 12 (by decide) (ht _ kw_227) (fun _ h9 => h9) rfl hin rfl (by decide +kernel) rfl rfl (Nat.le_of_ble_eq_true rfl) dX7_init_91 (fun H locs hP hD hS => ?_)
  have hP : va_P (dC, dI) vwCl [(h0, .inr (7, [.null, .null, .ref q1, .ref q3, .ref q5, .ref q7, .ref q9, .ref q11, .ref q13, .ref q15, .ref q17, .ref q19, .ref q21, .int 0])), (q1, .inl (k2, 96, .inl (fun _ => 0))), (q3, .inl (k4, 12, .inl (fun _ => 0))), (q5, .inl (k6, 12, .inl (fun _ => 0))), (q7, .inl (k8, 144, .inl (fun _ => 0))), (q9, .inl (k10, 144, .inl (fun _ => 0))), (q11, .inl (k12, 12, .inl (fun _ => 0))), (q13, .inl (k14, 12, .inl (fun _ => 0))), (q15, .inl (k16, 12, .inr (.inl (fun _ => 0)))), (q17, .inl (k18, 16, .inl (fun _ => 0))), (q19, .inl (k20, 16, .inl (fun _ => 0))), (q21, .inl (k22, 16, .inl (fun _ => 0)))] H := hP
  have hD : va_D A [(h0, .inr (7, [.null, .null, .ref q1, .ref q3, .ref q5, .ref q7, .ref q9, .ref q11, .ref q13, .ref q15, .ref q17, .ref q19, .ref q21, .int 0])), (q1, .inl (k2, 96, .inl (fun _ => 0))), (q3, .inl (k4, 12, .inl (fun _ => 0))), (q5, .inl (k6, 12, .inl (fun _ => 0))), (q7, .inl (k8, 144, .inl (fun _ => 0))), (q9, .inl (k10, 144, .inl (fun _ => 0))), (q11, .inl (k12, 12, .inl (fun _ => 0))), (q13, .inl (k14, 12, .inl (fun _ => 0))), (q15, .inl (k16, 12, .inr (.inl (fun _ => 0)))), (q17, .inl (k18, 16, .inl (fun _ => 0))), (q19, .inl (k20, 16, .inl (fun _ => 0))), (q21, .inl (k22, 16, .inl (fun _ => 0)))] := hD
  refine lv_aload_n hx hb dX7_init_94 rfl (lv_at hl 0 rfl) ?_
  refine lv_aload_n hx hb dX7_init_95 rfl (lv_at hl 1 rfl) ?_
  refine va_putF (D := (dC, dI)) (ci := 7) (v := .ref se) (ty := .object "SportsHouse$Season") (C := RX7) (T := TX7) (N := 14) hx hb ht inX7 tyX7 tyX7_ok nmX7 hown hK hP hD hS 0 rfl rfl 0 (by decide) (ht _ kw_211) (fun _ h9 => h9) rfl hin rfl (by decide +kernel) rfl rfl (Nat.le_of_ble_eq_true rfl) dX7_init_96 (fun H locs hP hD hS => ?_)
  have hP : va_P (dC, dI) vwCl [(h0, .inr (7, [.ref se, .null, .ref q1, .ref q3, .ref q5, .ref q7, .ref q9, .ref q11, .ref q13, .ref q15, .ref q17, .ref q19, .ref q21, .int 0])), (q1, .inl (k2, 96, .inl (fun _ => 0))), (q3, .inl (k4, 12, .inl (fun _ => 0))), (q5, .inl (k6, 12, .inl (fun _ => 0))), (q7, .inl (k8, 144, .inl (fun _ => 0))), (q9, .inl (k10, 144, .inl (fun _ => 0))), (q11, .inl (k12, 12, .inl (fun _ => 0))), (q13, .inl (k14, 12, .inl (fun _ => 0))), (q15, .inl (k16, 12, .inr (.inl (fun _ => 0)))), (q17, .inl (k18, 16, .inl (fun _ => 0))), (q19, .inl (k20, 16, .inl (fun _ => 0))), (q21, .inl (k22, 16, .inl (fun _ => 0)))] H := hP
  have hD : va_D A [(h0, .inr (7, [.ref se, .null, .ref q1, .ref q3, .ref q5, .ref q7, .ref q9, .ref q11, .ref q13, .ref q15, .ref q17, .ref q19, .ref q21, .int 0])), (q1, .inl (k2, 96, .inl (fun _ => 0))), (q3, .inl (k4, 12, .inl (fun _ => 0))), (q5, .inl (k6, 12, .inl (fun _ => 0))), (q7, .inl (k8, 144, .inl (fun _ => 0))), (q9, .inl (k10, 144, .inl (fun _ => 0))), (q11, .inl (k12, 12, .inl (fun _ => 0))), (q13, .inl (k14, 12, .inl (fun _ => 0))), (q15, .inl (k16, 12, .inr (.inl (fun _ => 0)))), (q17, .inl (k18, 16, .inl (fun _ => 0))), (q19, .inl (k20, 16, .inl (fun _ => 0))), (q21, .inl (k22, 16, .inl (fun _ => 0)))] := hD
  exact W.vret hx hb hr (fun t ht9 hW => ⟨⟨(), rfl, trivial, q1, q3, q5, q7, q9, q11, q13, q15, q17, q19, q21, k2, k4, k6, k8, k10, k12, k14, k16, k18, k20, k22, by rw [ht9]; exact hP, va_K.moved hW.alike hK, hD⟩, hS.F ht9⟩) hS.2.2 dX7_init_99
abbrev cX9_init : ByteArray := prog_11_method_1_code
def yX9_init : MethodName := ⟨RX9, "<init>", "(LSportsHouse$Season;LSportsHouse$Standings;)V"⟩
theorem dX9_init_0 : decode cX9_init 0 = .ok (.aload_n 0, 1) := qd_c (by decide +kernel)
theorem dX9_init_1 : decode cX9_init 1 = .ok (.invokespecial 3, 3) := qd_c (by decide +kernel)
theorem kw_264 : Cond.methodLink RX9 3 objectInit ∈ lw_g := lwq_2 (dqa_m (dqa_m (dqa_m (List.mem_of_getElem? (i := 0) rfl)))) rfl
theorem dX9_init_4 : decode cX9_init 4 = .ok (.aload_n 0, 1) := qd_c (by decide +kernel)
theorem dX9_init_5 : decode cX9_init 5 = .ok (.iconst (-1), 1) := qd_c (by decide +kernel)
theorem dX9_init_6 : decode cX9_init 6 = .ok (.putfield 9, 3) := qd_c (by decide +kernel)
theorem kw_270 : Cond.fieldLink RX9 9 "SportsHouse$Title" "answer" "I" ∈ lw_g := lwq_2 (dqa_m (dqa_m (dqa_m (List.mem_of_getElem? (i := 6) rfl)))) rfl
theorem dX9_init_9 : decode cX9_init 9 = .ok (.aload_n 0, 1) := qd_c (by decide +kernel)
theorem dX9_init_10 : decode cX9_init 10 = .ok (.sipush 400, 3) := qd_c (by decide +kernel)
theorem dX9_init_13 : decode cX9_init 13 = .ok (.newarray .int, 2) := by decide +kernel
theorem dX9_init_15 : decode cX9_init 15 = .ok (.putfield 15, 3) := qd_c (by decide +kernel)
theorem kw_274 : Cond.fieldLink RX9 15 "SportsHouse$Title" "results" "[I" ∈ lw_g := lwq_2 (dqc_m (List.mem_of_getElem? (i := 2) rfl)) rfl
theorem dX9_init_18 : decode cX9_init 18 = .ok (.aload_n 0, 1) := qd_c (by decide +kernel)
theorem dX9_init_19 : decode cX9_init 19 = .ok (.bipush 12, 2) := qd_c (by decide +kernel)
theorem dX9_init_21 : decode cX9_init 21 = .ok (.newarray .int, 2) := by decide +kernel
theorem dX9_init_23 : decode cX9_init 23 = .ok (.putfield 19, 3) := qd_c (by decide +kernel)
theorem kw_278 : Cond.fieldLink RX9 19 "SportsHouse$Title" "points" "[I" ∈ lw_g := lwq_2 (dqc_m (List.mem_of_getElem? (i := 6) rfl)) rfl
theorem dX9_init_26 : decode cX9_init 26 = .ok (.aload_n 0, 1) := qd_c (by decide +kernel)
theorem dX9_init_27 : decode cX9_init 27 = .ok (.bipush 40, 2) := qd_c (by decide +kernel)
theorem dX9_init_29 : decode cX9_init 29 = .ok (.newarray .int, 2) := by decide +kernel
theorem dX9_init_31 : decode cX9_init 31 = .ok (.putfield 22, 3) := qd_c (by decide +kernel)
theorem kw_279 : Cond.fieldLink RX9 22 "SportsHouse$Title" "open" "[I" ∈ lw_g := lwq_2 (dqc_m (List.mem_of_getElem? (i := 7) rfl)) rfl
theorem dX9_init_34 : decode cX9_init 34 = .ok (.aload_n 0, 1) := qd_c (by decide +kernel)
theorem dX9_init_35 : decode cX9_init 35 = .ok (.bipush 40, 2) := qd_c (by decide +kernel)
theorem dX9_init_37 : decode cX9_init 37 = .ok (.newarray .int, 2) := by decide +kernel
theorem dX9_init_39 : decode cX9_init 39 = .ok (.putfield 25, 3) := qd_c (by decide +kernel)
theorem kw_281 : Cond.fieldLink RX9 25 "SportsHouse$Title" "homeParts" "[I" ∈ lw_g := lwq_2 (dqc_m (dqa_m (List.mem_of_getElem? (i := 1) rfl))) rfl
theorem dX9_init_42 : decode cX9_init 42 = .ok (.aload_n 0, 1) := qd_c (by decide +kernel)
theorem dX9_init_43 : decode cX9_init 43 = .ok (.bipush 12, 2) := qd_c (by decide +kernel)
theorem dX9_init_45 : decode cX9_init 45 = .ok (.newarray .int, 2) := by decide +kernel
theorem dX9_init_47 : decode cX9_init 47 = .ok (.putfield 28, 3) := qd_c (by decide +kernel)
theorem kw_282 : Cond.fieldLink RX9 28 "SportsHouse$Title" "cap" "[I" ∈ lw_g := lwq_2 (dqc_m (dqa_m (List.mem_of_getElem? (i := 2) rfl))) rfl
theorem dX9_init_50 : decode cX9_init 50 = .ok (.aload_n 0, 1) := qd_c (by decide +kernel)
theorem dX9_init_51 : decode cX9_init 51 = .ok (.bipush 12, 2) := qd_c (by decide +kernel)
theorem dX9_init_53 : decode cX9_init 53 = .ok (.newarray .int, 2) := by decide +kernel
theorem dX9_init_55 : decode cX9_init 55 = .ok (.putfield 31, 3) := qd_c (by decide +kernel)
theorem kw_283 : Cond.fieldLink RX9 31 "SportsHouse$Title" "load" "[I" ∈ lw_g := lwq_2 (dqc_m (dqa_m (List.mem_of_getElem? (i := 3) rfl))) rfl
theorem dX9_init_58 : decode cX9_init 58 = .ok (.aload_n 0, 1) := qd_c (by decide +kernel)
theorem dX9_init_59 : decode cX9_init 59 = .ok (.bipush 12, 2) := qd_c (by decide +kernel)
theorem dX9_init_61 : decode cX9_init 61 = .ok (.newarray .int, 2) := by decide +kernel
theorem dX9_init_63 : decode cX9_init 63 = .ok (.putfield 34, 3) := qd_c (by decide +kernel)
theorem kw_284 : Cond.fieldLink RX9 34 "SportsHouse$Title" "via" "[I" ∈ lw_g := lwq_2 (dqc_m (dqa_m (List.mem_of_getElem? (i := 4) rfl))) rfl
theorem dX9_init_66 : decode cX9_init 66 = .ok (.aload_n 0, 1) := qd_c (by decide +kernel)
theorem dX9_init_67 : decode cX9_init 67 = .ok (.bipush 12, 2) := qd_c (by decide +kernel)
theorem dX9_init_69 : decode cX9_init 69 = .ok (.newarray .int, 2) := by decide +kernel
theorem dX9_init_71 : decode cX9_init 71 = .ok (.putfield 37, 3) := qd_c (by decide +kernel)
theorem kw_285 : Cond.fieldLink RX9 37 "SportsHouse$Title" "queue" "[I" ∈ lw_g := lwq_2 (dqc_m (dqa_m (List.mem_of_getElem? (i := 5) rfl))) rfl
theorem dX9_init_74 : decode cX9_init 74 = .ok (.aload_n 0, 1) := qd_c (by decide +kernel)
theorem dX9_init_75 : decode cX9_init 75 = .ok (.aload_n 1, 1) := qd_c (by decide +kernel)
theorem dX9_init_76 : decode cX9_init 76 = .ok (.putfield 40, 3) := qd_c (by decide +kernel)
theorem kw_268 : Cond.fieldLink RX9 40 "SportsHouse$Title" "season" "LSportsHouse$Season;" ∈ lw_g := lwq_2 (dqa_m (dqa_m (dqa_m (List.mem_of_getElem? (i := 4) rfl)))) rfl
theorem dX9_init_79 : decode cX9_init 79 = .ok (.aload_n 0, 1) := qd_c (by decide +kernel)
theorem dX9_init_80 : decode cX9_init 80 = .ok (.aload_n 2, 1) := qd_c (by decide +kernel)
theorem dX9_init_81 : decode cX9_init 81 = .ok (.putfield 44, 3) := qd_c (by decide +kernel)
theorem kw_269 : Cond.fieldLink RX9 44 "SportsHouse$Title" "standings" "LSportsHouse$Standings;" ∈ lw_g := lwq_2 (dqa_m (dqa_m (dqa_m (List.mem_of_getElem? (i := 5) rfl)))) rfl
theorem dX9_init_84 : decode cX9_init 84 = .ok (.aload_n 0, 1) := qd_c (by decide +kernel)
theorem dX9_init_85 : decode cX9_init 85 = .ok (.getfield 15, 3) := qd_c (by decide +kernel)
theorem dX9_init_88 : decode cX9_init 88 = .ok (.iconst (-1), 1) := qd_c (by decide +kernel)
theorem dX9_init_89 : decode cX9_init 89 = .ok (.invokestatic 48, 3) := qd_c (by decide +kernel)
theorem kw_265 : Cond.methodLink RX9 48 yJ7_fill_53178 ∈ lw_g := lwq_2 (dqa_m (dqa_m (dqa_m (List.mem_of_getElem? (i := 1) rfl)))) rfl
theorem kw_266 : Cond.static yJ7_fill_53178 ∈ lw_g := lwq_2 (dqa_m (dqa_m (dqa_m (List.mem_of_getElem? (i := 2) rfl)))) rfl
theorem kw_7 : Cond.initialized RJ7 ∈ lw_g := lwq_1 (List.mem_of_getElem? (i := 7) rfl) rfl
theorem gv_X9_48 : GoodIn lw_g (va_wsS RX9 48 yJ7_fill_53178 (.code yJ7_fill_53178 cJ7_fill_53178 4 none :: lw_g)) := gi_S kw_265 kw_266 kw_7 kw_267
theorem dX9_init_92 : decode cX9_init 92 = .ok (.return_, 1) := qd_c (by decide +kernel)
set_option maxHeartbeats 4000000 in
set_option maxRecDepth 100000 in
theorem ct_X9_init (l : Launch) (dC : Nat → ClassId) (dI : Nat → Nat → Nat) (h0 : Nat) (se : Nat) (sd : Nat) (sz : Nat)  : Met l yX9_init (.code yX9_init cX9_init 3 none :: lw_g) ({ frames := 1, cells := 8, slots := 540, locals := 60 }) (ro_P dC dI [(h0, .inr (9, [.null, .null, .int 0, .int 0, .null, .null, .int 0, .null, .null, .int 0, .null, .null, .null, .null, .null, .null]))] [] sz [.ref h0, .ref se, .ref sd]) (va_Qv (fun (_ : Unit) => True) (fun _ t => ∃ (q1 : Nat) (q3 : Nat) (q5 : Nat) (q7 : Nat) (q9 : Nat) (q11 : Nat) (q13 : Nat) (q15 : Nat) (k4 : ClassId) (k6 : ClassId) (k8 : ClassId) (k10 : ClassId) (k12 : ClassId) (k14 : ClassId) (k16 : ClassId) (k2 : ClassId) (g17 : Nat → Int32), va_P (dC, dI) vwCl [(h0, .inr (9, [.ref se, .ref sd, .int (-1), .int 0, .ref q1, .null, .int 0, .ref q3, .ref q5, .int 0, .ref q7, .ref q9, .ref q11, .ref q13, .ref q15, .null])), (q3, .inl (k4, 12, .inl (fun _ => 0))), (q5, .inl (k6, 40, .inl (fun _ => 0))), (q7, .inl (k8, 40, .inl (fun _ => 0))), (q9, .inl (k10, 12, .inl (fun _ => 0))), (q11, .inl (k12, 12, .inl (fun _ => 0))), (q13, .inl (k14, 12, .inl (fun _ => 0))), (q15, .inl (k16, 12, .inl (fun _ => 0))), (q1, .inl (k2, 400, .inl g17))] t.heap ∧ va_K (dC, dI) vwCl [(k2, .int), (k4, .int), (k6, .int), (k8, .int), (k10, .int), (k12, .int), (k14, .int), (k16, .int)] t ∧ va_D (va_A [(h0, .inr (9, [.null, .null, .int 0, .int 0, .null, .null, .int 0, .null, .null, .int 0, .null, .null, .null, .null, .null, .null]))] sz) [(h0, .inr (9, [.ref se, .ref sd, .int (-1), .int 0, .ref q1, .null, .int 0, .ref q3, .ref q5, .int 0, .ref q7, .ref q9, .ref q11, .ref q13, .ref q15, .null])), (q3, .inl (k4, 12, .inl (fun _ => 0))), (q5, .inl (k6, 40, .inl (fun _ => 0))), (q7, .inl (k8, 40, .inl (fun _ => 0))), (q9, .inl (k10, 12, .inl (fun _ => 0))), (q11, .inl (k12, 12, .inl (fun _ => 0))), (q13, .inl (k14, 12, .inl (fun _ => 0))), (q15, .inl (k16, 12, .inl (fun _ => 0))), (q1, .inl (k2, 400, .inl g17))]) (va_A [(h0, .inr (9, [.null, .null, .int 0, .int 0, .null, .null, .int 0, .null, .null, .int 0, .null, .null, .null, .null, .null, .null]))] sz)) 8 540 (va_A [(h0, .inr (9, [.null, .null, .int 0, .int 0, .null, .null, .int 0, .null, .null, .int 0, .null, .null, .null, .null, .null, .null]))] sz) := by
  refine ro_entry (by decide) (Nat.le_of_ble_eq_true rfl) ?_
  intro p e s m below meth c ls hx hb hr hlocks ht hown hin hml hsz hP hK hD hE hl
  subst hsz
  have hD := hD.self (sz := s.heap.size)
  generalize hAe : va_A [(h0, .inr (9, [.null, .null, .int 0, .int 0, .null, .null, .int 0, .null, .null, .int 0, .null, .null, .null, .null, .null, .null]))] s.heap.size = A at hD ⊢
  have hA : ∀ q, s.heap.size ≤ q → A q := fun q h => by rw [← hAe]; exact Or.inr h
  have hS : va_S A s.heap s.heap [] := va_S.rf
  have hl : lv_has ls 3 [(0, .ref h0), (1, .ref se), (2, .ref sd)] := hl
  have hown : s.vm.findClass RX9 = some m.cls := hown
  refine lv_aload_n hx hb dX9_init_0 rfl (lv_at hl 0 rfl) ?_
  refine W.objInit hx hb hown (ht _ kw_264) (ht _ kw_27) (ht _ kw_28) rfl (by rw [hml]; exact hl.1) rfl dX9_init_1 (Nat.le_of_ble_eq_true rfl) (Nat.le_of_ble_eq_true rfl) ?_
  refine W.eq (g2 := F0 m 4 ls []) rfl ?_
  refine lv_aload_n hx hb dX9_init_4 rfl (lv_at hl 0 rfl) ?_
  refine lv_iconst (v := (-1)) hx hb dX9_init_5 (by decide) ?_
  refine va_put (D := (dC, dI)) (ci := 9) (v := .int (-1)) (ty := .int) (C := RX9) (T := TX9) (N := 16) hx hb ht inX9 tyX9 tyX9_ok nmX9 hown hK hP hD hS 0 rfl rfl 2 (by decide) (ht _ kw_270) (fun _ h9 => h9) rfl (by decide +kernel) rfl rfl (Nat.le_of_ble_eq_true rfl) dX9_init_6 (fun H locs hP hD hS => ?_)
  have hP : va_P (dC, dI) vwCl [(h0, .inr (9, [.null, .null, .int (-1), .int 0, .null, .null, .int 0, .null, .null, .int 0, .null, .null, .null, .null, .null, .null]))] H := hP
  have hD : va_D A [(h0, .inr (9, [.null, .null, .int (-1), .int 0, .null, .null, .int 0, .null, .null, .int 0, .null, .null, .null, .null, .null, .null]))] := hD
  refine lv_aload_n hx hb dX9_init_9 rfl (lv_at hl 0 rfl) ?_
  refine lv_sipush (v := 400) hx hb dX9_init_10 (by decide) ?_
  refine va_newa (atype := .int) (ty := .int) (a0 := (400, .inl (fun _ => 0))) hx hb (ht _ kw_72) rfl hK hP hD hS hA (fun _ => rfl) (by decide) (by decide) (Nat.le_of_ble_eq_true rfl) (Nat.le_of_ble_eq_true rfl) (Nat.le_of_ble_eq_true rfl) dX9_init_13 (fun q1 k2 H hK hP hD hS => ?_)
  have hP : va_P (dC, dI) vwCl [(h0, .inr (9, [.null, .null, .int (-1), .int 0, .null, .null, .int 0, .null, .null, .int 0, .null, .null, .null, .null, .null, .null])), (q1, .inl (k2, 400, .inl (fun _ => 0)))] H := hP
  have hD : va_D A [(h0, .inr (9, [.null, .null, .int (-1), .int 0, .null, .null, .int 0, .null, .null, .int 0, .null, .null, .null, .null, .null, .null])), (q1, .inl (k2, 400, .inl (fun _ => 0)))] := hD
  have hK : va_K (dC, dI) vwCl [(k2, .int)] s := hK
  refine W.widen (k := 1) (n := 400) (Nat.le_of_ble_eq_true rfl) (Nat.le_of_ble_eq_true rfl) ?_
  refine va_putF (D := (dC, dI)) (ci := 9) (v := .ref q1) (ty := .array .int) (C := RX9) (T := TX9) (N := 16) hx hb ht inX9 tyX9 tyX9_ok nmX9 hown hK hP hD hS 0 rfl rfl 4 (by decide) (ht _ kw_274) (fun _ h9 => h9) rfl hin rfl (by decide +kernel) rfl rfl (Nat.le_of_ble_eq_true rfl) dX9_init_15 (fun H locs hP hD hS => ?_)
  have hP : va_P (dC, dI) vwCl [(h0, .inr (9, [.null, .null, .int (-1), .int 0, .ref q1, .null, .int 0, .null, .null, .int 0, .null, .null, .null, .null, .null, .null])), (q1, .inl (k2, 400, .inl (fun _ => 0)))] H := hP
  have hD : va_D A [(h0, .inr (9, [.null, .null, .int (-1), .int 0, .ref q1, .null, .int 0, .null, .null, .int 0, .null, .null, .null, .null, .null, .null])), (q1, .inl (k2, 400, .inl (fun _ => 0)))] := hD
  refine lv_aload_n hx hb dX9_init_18 rfl (lv_at hl 0 rfl) ?_
  refine lv_bipush (v := 12) hx hb dX9_init_19 (by decide) ?_
  refine va_newa (atype := .int) (ty := .int) (a0 := (12, .inl (fun _ => 0))) hx hb (ht _ kw_72) rfl hK hP hD hS hA (fun _ => rfl) (by decide) (by decide) (Nat.le_of_ble_eq_true rfl) (Nat.le_of_ble_eq_true rfl) (Nat.le_of_ble_eq_true rfl) dX9_init_21 (fun q3 k4 H hK hP hD hS => ?_)
  have hP : va_P (dC, dI) vwCl [(h0, .inr (9, [.null, .null, .int (-1), .int 0, .ref q1, .null, .int 0, .null, .null, .int 0, .null, .null, .null, .null, .null, .null])), (q1, .inl (k2, 400, .inl (fun _ => 0))), (q3, .inl (k4, 12, .inl (fun _ => 0)))] H := hP
  have hD : va_D A [(h0, .inr (9, [.null, .null, .int (-1), .int 0, .ref q1, .null, .int 0, .null, .null, .int 0, .null, .null, .null, .null, .null, .null])), (q1, .inl (k2, 400, .inl (fun _ => 0))), (q3, .inl (k4, 12, .inl (fun _ => 0)))] := hD
  have hK : va_K (dC, dI) vwCl [(k2, .int), (k4, .int)] s := hK
  refine W.widen (k := 2) (n := 412) (Nat.le_of_ble_eq_true rfl) (Nat.le_of_ble_eq_true rfl) ?_
  refine va_putF (D := (dC, dI)) (ci := 9) (v := .ref q3) (ty := .array .int) (C := RX9) (T := TX9) (N := 16) hx hb ht inX9 tyX9 tyX9_ok nmX9 hown hK hP hD hS 0 rfl rfl 7 (by decide) (ht _ kw_278) (fun _ h9 => h9) rfl hin rfl (by decide +kernel) rfl rfl (Nat.le_of_ble_eq_true rfl) dX9_init_23 (fun H locs hP hD hS => ?_)
  have hP : va_P (dC, dI) vwCl [(h0, .inr (9, [.null, .null, .int (-1), .int 0, .ref q1, .null, .int 0, .ref q3, .null, .int 0, .null, .null, .null, .null, .null, .null])), (q1, .inl (k2, 400, .inl (fun _ => 0))), (q3, .inl (k4, 12, .inl (fun _ => 0)))] H := hP
  have hD : va_D A [(h0, .inr (9, [.null, .null, .int (-1), .int 0, .ref q1, .null, .int 0, .ref q3, .null, .int 0, .null, .null, .null, .null, .null, .null])), (q1, .inl (k2, 400, .inl (fun _ => 0))), (q3, .inl (k4, 12, .inl (fun _ => 0)))] := hD
  refine lv_aload_n hx hb dX9_init_26 rfl (lv_at hl 0 rfl) ?_
  refine lv_bipush (v := 40) hx hb dX9_init_27 (by decide) ?_
  refine va_newa (atype := .int) (ty := .int) (a0 := (40, .inl (fun _ => 0))) hx hb (ht _ kw_72) rfl hK hP hD hS hA (fun _ => rfl) (by decide) (by decide) (Nat.le_of_ble_eq_true rfl) (Nat.le_of_ble_eq_true rfl) (Nat.le_of_ble_eq_true rfl) dX9_init_29 (fun q5 k6 H hK hP hD hS => ?_)
  have hP : va_P (dC, dI) vwCl [(h0, .inr (9, [.null, .null, .int (-1), .int 0, .ref q1, .null, .int 0, .ref q3, .null, .int 0, .null, .null, .null, .null, .null, .null])), (q1, .inl (k2, 400, .inl (fun _ => 0))), (q3, .inl (k4, 12, .inl (fun _ => 0))), (q5, .inl (k6, 40, .inl (fun _ => 0)))] H := hP
  have hD : va_D A [(h0, .inr (9, [.null, .null, .int (-1), .int 0, .ref q1, .null, .int 0, .ref q3, .null, .int 0, .null, .null, .null, .null, .null, .null])), (q1, .inl (k2, 400, .inl (fun _ => 0))), (q3, .inl (k4, 12, .inl (fun _ => 0))), (q5, .inl (k6, 40, .inl (fun _ => 0)))] := hD
  have hK : va_K (dC, dI) vwCl [(k2, .int), (k4, .int), (k6, .int)] s := hK
  refine W.widen (k := 3) (n := 452) (Nat.le_of_ble_eq_true rfl) (Nat.le_of_ble_eq_true rfl) ?_
  refine va_putF (D := (dC, dI)) (ci := 9) (v := .ref q5) (ty := .array .int) (C := RX9) (T := TX9) (N := 16) hx hb ht inX9 tyX9 tyX9_ok nmX9 hown hK hP hD hS 0 rfl rfl 8 (by decide) (ht _ kw_279) (fun _ h9 => h9) rfl hin rfl (by decide +kernel) rfl rfl (Nat.le_of_ble_eq_true rfl) dX9_init_31 (fun H locs hP hD hS => ?_)
  have hP : va_P (dC, dI) vwCl [(h0, .inr (9, [.null, .null, .int (-1), .int 0, .ref q1, .null, .int 0, .ref q3, .ref q5, .int 0, .null, .null, .null, .null, .null, .null])), (q1, .inl (k2, 400, .inl (fun _ => 0))), (q3, .inl (k4, 12, .inl (fun _ => 0))), (q5, .inl (k6, 40, .inl (fun _ => 0)))] H := hP
  have hD : va_D A [(h0, .inr (9, [.null, .null, .int (-1), .int 0, .ref q1, .null, .int 0, .ref q3, .ref q5, .int 0, .null, .null, .null, .null, .null, .null])), (q1, .inl (k2, 400, .inl (fun _ => 0))), (q3, .inl (k4, 12, .inl (fun _ => 0))), (q5, .inl (k6, 40, .inl (fun _ => 0)))] := hD
  refine lv_aload_n hx hb dX9_init_34 rfl (lv_at hl 0 rfl) ?_
  refine lv_bipush (v := 40) hx hb dX9_init_35 (by decide) ?_
  refine va_newa (atype := .int) (ty := .int) (a0 := (40, .inl (fun _ => 0))) hx hb (ht _ kw_72) rfl hK hP hD hS hA (fun _ => rfl) (by decide) (by decide) (Nat.le_of_ble_eq_true rfl) (Nat.le_of_ble_eq_true rfl) (Nat.le_of_ble_eq_true rfl) dX9_init_37 (fun q7 k8 H hK hP hD hS => ?_)
  have hP : va_P (dC, dI) vwCl [(h0, .inr (9, [.null, .null, .int (-1), .int 0, .ref q1, .null, .int 0, .ref q3, .ref q5, .int 0, .null, .null, .null, .null, .null, .null])), (q1, .inl (k2, 400, .inl (fun _ => 0))), (q3, .inl (k4, 12, .inl (fun _ => 0))), (q5, .inl (k6, 40, .inl (fun _ => 0))), (q7, .inl (k8, 40, .inl (fun _ => 0)))] H := hP
  have hD : va_D A [(h0, .inr (9, [.null, .null, .int (-1), .int 0, .ref q1, .null, .int 0, .ref q3, .ref q5, .int 0, .null, .null, .null, .null, .null, .null])), (q1, .inl (k2, 400, .inl (fun _ => 0))), (q3, .inl (k4, 12, .inl (fun _ => 0))), (q5, .inl (k6, 40, .inl (fun _ => 0))), (q7, .inl (k8, 40, .inl (fun _ => 0)))] := hD
  have hK : va_K (dC, dI) vwCl [(k2, .int), (k4, .int), (k6, .int), (k8, .int)] s := hK
  refine W.widen (k := 4) (n := 492) (Nat.le_of_ble_eq_true rfl) (Nat.le_of_ble_eq_true rfl) ?_
  refine va_putF (D := (dC, dI)) (ci := 9) (v := .ref q7) (ty := .array .int) (C := RX9) (T := TX9) (N := 16) hx hb ht inX9 tyX9 tyX9_ok nmX9 hown hK hP hD hS 0 rfl rfl 10 (by decide) (ht _ kw_281) (fun _ h9 => h9) rfl hin rfl (by decide +kernel) rfl rfl (Nat.le_of_ble_eq_true rfl) dX9_init_39 (fun H locs hP hD hS => ?_)
  have hP : va_P (dC, dI) vwCl [(h0, .inr (9, [.null, .null, .int (-1), .int 0, .ref q1, .null, .int 0, .ref q3, .ref q5, .int 0, .ref q7, .null, .null, .null, .null, .null])), (q1, .inl (k2, 400, .inl (fun _ => 0))), (q3, .inl (k4, 12, .inl (fun _ => 0))), (q5, .inl (k6, 40, .inl (fun _ => 0))), (q7, .inl (k8, 40, .inl (fun _ => 0)))] H := hP
  have hD : va_D A [(h0, .inr (9, [.null, .null, .int (-1), .int 0, .ref q1, .null, .int 0, .ref q3, .ref q5, .int 0, .ref q7, .null, .null, .null, .null, .null])), (q1, .inl (k2, 400, .inl (fun _ => 0))), (q3, .inl (k4, 12, .inl (fun _ => 0))), (q5, .inl (k6, 40, .inl (fun _ => 0))), (q7, .inl (k8, 40, .inl (fun _ => 0)))] := hD
  refine lv_aload_n hx hb dX9_init_42 rfl (lv_at hl 0 rfl) ?_
  refine lv_bipush (v := 12) hx hb dX9_init_43 (by decide) ?_
  refine va_newa (atype := .int) (ty := .int) (a0 := (12, .inl (fun _ => 0))) hx hb (ht _ kw_72) rfl hK hP hD hS hA (fun _ => rfl) (by decide) (by decide) (Nat.le_of_ble_eq_true rfl) (Nat.le_of_ble_eq_true rfl) (Nat.le_of_ble_eq_true rfl) dX9_init_45 (fun q9 k10 H hK hP hD hS => ?_)
  have hP : va_P (dC, dI) vwCl [(h0, .inr (9, [.null, .null, .int (-1), .int 0, .ref q1, .null, .int 0, .ref q3, .ref q5, .int 0, .ref q7, .null, .null, .null, .null, .null])), (q1, .inl (k2, 400, .inl (fun _ => 0))), (q3, .inl (k4, 12, .inl (fun _ => 0))), (q5, .inl (k6, 40, .inl (fun _ => 0))), (q7, .inl (k8, 40, .inl (fun _ => 0))), (q9, .inl (k10, 12, .inl (fun _ => 0)))] H := hP
  have hD : va_D A [(h0, .inr (9, [.null, .null, .int (-1), .int 0, .ref q1, .null, .int 0, .ref q3, .ref q5, .int 0, .ref q7, .null, .null, .null, .null, .null])), (q1, .inl (k2, 400, .inl (fun _ => 0))), (q3, .inl (k4, 12, .inl (fun _ => 0))), (q5, .inl (k6, 40, .inl (fun _ => 0))), (q7, .inl (k8, 40, .inl (fun _ => 0))), (q9, .inl (k10, 12, .inl (fun _ => 0)))] := hD
  have hK : va_K (dC, dI) vwCl [(k2, .int), (k4, .int), (k6, .int), (k8, .int), (k10, .int)] s := hK
  refine W.widen (k := 5) (n := 504) (Nat.le_of_ble_eq_true rfl) (Nat.le_of_ble_eq_true rfl) ?_
  refine va_putF (D := (dC, dI)) (ci := 9) (v := .ref q9) (ty := .array .int) (C := RX9) (T := TX9) (N := 16) hx hb ht inX9 tyX9 tyX9_ok nmX9 hown hK hP hD hS 0 rfl rfl 11 (by decide) (ht _ kw_282) (fun _ h9 => h9) rfl hin rfl (by decide +kernel) rfl rfl (Nat.le_of_ble_eq_true rfl) dX9_init_47 (fun H locs hP hD hS => ?_)
  have hP : va_P (dC, dI) vwCl [(h0, .inr (9, [.null, .null, .int (-1), .int 0, .ref q1, .null, .int 0, .ref q3, .ref q5, .int 0, .ref q7, .ref q9, .null, .null, .null, .null])), (q1, .inl (k2, 400, .inl (fun _ => 0))), (q3, .inl (k4, 12, .inl (fun _ => 0))), (q5, .inl (k6, 40, .inl (fun _ => 0))), (q7, .inl (k8, 40, .inl (fun _ => 0))), (q9, .inl (k10, 12, .inl (fun _ => 0)))] H := hP
  have hD : va_D A [(h0, .inr (9, [.null, .null, .int (-1), .int 0, .ref q1, .null, .int 0, .ref q3, .ref q5, .int 0, .ref q7, .ref q9, .null, .null, .null, .null])), (q1, .inl (k2, 400, .inl (fun _ => 0))), (q3, .inl (k4, 12, .inl (fun _ => 0))), (q5, .inl (k6, 40, .inl (fun _ => 0))), (q7, .inl (k8, 40, .inl (fun _ => 0))), (q9, .inl (k10, 12, .inl (fun _ => 0)))] := hD
  refine lv_aload_n hx hb dX9_init_50 rfl (lv_at hl 0 rfl) ?_
  refine lv_bipush (v := 12) hx hb dX9_init_51 (by decide) ?_
  refine va_newa (atype := .int) (ty := .int) (a0 := (12, .inl (fun _ => 0))) hx hb (ht _ kw_72) rfl hK hP hD hS hA (fun _ => rfl) (by decide) (by decide) (Nat.le_of_ble_eq_true rfl) (Nat.le_of_ble_eq_true rfl) (Nat.le_of_ble_eq_true rfl) dX9_init_53 (fun q11 k12 H hK hP hD hS => ?_)
  have hP : va_P (dC, dI) vwCl [(h0, .inr (9, [.null, .null, .int (-1), .int 0, .ref q1, .null, .int 0, .ref q3, .ref q5, .int 0, .ref q7, .ref q9, .null, .null, .null, .null])), (q1, .inl (k2, 400, .inl (fun _ => 0))), (q3, .inl (k4, 12, .inl (fun _ => 0))), (q5, .inl (k6, 40, .inl (fun _ => 0))), (q7, .inl (k8, 40, .inl (fun _ => 0))), (q9, .inl (k10, 12, .inl (fun _ => 0))), (q11, .inl (k12, 12, .inl (fun _ => 0)))] H := hP
  have hD : va_D A [(h0, .inr (9, [.null, .null, .int (-1), .int 0, .ref q1, .null, .int 0, .ref q3, .ref q5, .int 0, .ref q7, .ref q9, .null, .null, .null, .null])), (q1, .inl (k2, 400, .inl (fun _ => 0))), (q3, .inl (k4, 12, .inl (fun _ => 0))), (q5, .inl (k6, 40, .inl (fun _ => 0))), (q7, .inl (k8, 40, .inl (fun _ => 0))), (q9, .inl (k10, 12, .inl (fun _ => 0))), (q11, .inl (k12, 12, .inl (fun _ => 0)))] := hD
  have hK : va_K (dC, dI) vwCl [(k2, .int), (k4, .int), (k6, .int), (k8, .int), (k10, .int), (k12, .int)] s := hK
  refine W.widen (k := 6) (n := 516) (Nat.le_of_ble_eq_true rfl) (Nat.le_of_ble_eq_true rfl) ?_
  refine va_putF (D := (dC, dI)) (ci := 9) (v := .ref q11) (ty := .array .int) (C := RX9) (T := TX9) (N := 16) hx hb ht inX9 tyX9 tyX9_ok nmX9 hown hK hP hD hS 0 rfl rfl 12 (by decide) (ht _ kw_283) (fun _ h9 => h9) rfl hin rfl (by decide +kernel) rfl rfl (Nat.le_of_ble_eq_true rfl) dX9_init_55 (fun H locs hP hD hS => ?_)
  have hP : va_P (dC, dI) vwCl [(h0, .inr (9, [.null, .null, .int (-1), .int 0, .ref q1, .null, .int 0, .ref q3, .ref q5, .int 0, .ref q7, .ref q9, .ref q11, .null, .null, .null])), (q1, .inl (k2, 400, .inl (fun _ => 0))), (q3, .inl (k4, 12, .inl (fun _ => 0))), (q5, .inl (k6, 40, .inl (fun _ => 0))), (q7, .inl (k8, 40, .inl (fun _ => 0))), (q9, .inl (k10, 12, .inl (fun _ => 0))), (q11, .inl (k12, 12, .inl (fun _ => 0)))] H := hP
  have hD : va_D A [(h0, .inr (9, [.null, .null, .int (-1), .int 0, .ref q1, .null, .int 0, .ref q3, .ref q5, .int 0, .ref q7, .ref q9, .ref q11, .null, .null, .null])), (q1, .inl (k2, 400, .inl (fun _ => 0))), (q3, .inl (k4, 12, .inl (fun _ => 0))), (q5, .inl (k6, 40, .inl (fun _ => 0))), (q7, .inl (k8, 40, .inl (fun _ => 0))), (q9, .inl (k10, 12, .inl (fun _ => 0))), (q11, .inl (k12, 12, .inl (fun _ => 0)))] := hD
  refine lv_aload_n hx hb dX9_init_58 rfl (lv_at hl 0 rfl) ?_
  refine lv_bipush (v := 12) hx hb dX9_init_59 (by decide) ?_
  refine va_newa (atype := .int) (ty := .int) (a0 := (12, .inl (fun _ => 0))) hx hb (ht _ kw_72) rfl hK hP hD hS hA (fun _ => rfl) (by decide) (by decide) (Nat.le_of_ble_eq_true rfl) (Nat.le_of_ble_eq_true rfl) (Nat.le_of_ble_eq_true rfl) dX9_init_61 (fun q13 k14 H hK hP hD hS => ?_)
  have hP : va_P (dC, dI) vwCl [(h0, .inr (9, [.null, .null, .int (-1), .int 0, .ref q1, .null, .int 0, .ref q3, .ref q5, .int 0, .ref q7, .ref q9, .ref q11, .null, .null, .null])), (q1, .inl (k2, 400, .inl (fun _ => 0))), (q3, .inl (k4, 12, .inl (fun _ => 0))), (q5, .inl (k6, 40, .inl (fun _ => 0))), (q7, .inl (k8, 40, .inl (fun _ => 0))), (q9, .inl (k10, 12, .inl (fun _ => 0))), (q11, .inl (k12, 12, .inl (fun _ => 0))), (q13, .inl (k14, 12, .inl (fun _ => 0)))] H := hP
  have hD : va_D A [(h0, .inr (9, [.null, .null, .int (-1), .int 0, .ref q1, .null, .int 0, .ref q3, .ref q5, .int 0, .ref q7, .ref q9, .ref q11, .null, .null, .null])), (q1, .inl (k2, 400, .inl (fun _ => 0))), (q3, .inl (k4, 12, .inl (fun _ => 0))), (q5, .inl (k6, 40, .inl (fun _ => 0))), (q7, .inl (k8, 40, .inl (fun _ => 0))), (q9, .inl (k10, 12, .inl (fun _ => 0))), (q11, .inl (k12, 12, .inl (fun _ => 0))), (q13, .inl (k14, 12, .inl (fun _ => 0)))] := hD
  have hK : va_K (dC, dI) vwCl [(k2, .int), (k4, .int), (k6, .int), (k8, .int), (k10, .int), (k12, .int), (k14, .int)] s := hK
  refine W.widen (k := 7) (n := 528) (Nat.le_of_ble_eq_true rfl) (Nat.le_of_ble_eq_true rfl) ?_
  refine va_putF (D := (dC, dI)) (ci := 9) (v := .ref q13) (ty := .array .int) (C := RX9) (T := TX9) (N := 16) hx hb ht inX9 tyX9 tyX9_ok nmX9 hown hK hP hD hS 0 rfl rfl 13 (by decide) (ht _ kw_284) (fun _ h9 => h9) rfl hin rfl (by decide +kernel) rfl rfl (Nat.le_of_ble_eq_true rfl) dX9_init_63 (fun H locs hP hD hS => ?_)
  have hP : va_P (dC, dI) vwCl [(h0, .inr (9, [.null, .null, .int (-1), .int 0, .ref q1, .null, .int 0, .ref q3, .ref q5, .int 0, .ref q7, .ref q9, .ref q11, .ref q13, .null, .null])), (q1, .inl (k2, 400, .inl (fun _ => 0))), (q3, .inl (k4, 12, .inl (fun _ => 0))), (q5, .inl (k6, 40, .inl (fun _ => 0))), (q7, .inl (k8, 40, .inl (fun _ => 0))), (q9, .inl (k10, 12, .inl (fun _ => 0))), (q11, .inl (k12, 12, .inl (fun _ => 0))), (q13, .inl (k14, 12, .inl (fun _ => 0)))] H := hP
  have hD : va_D A [(h0, .inr (9, [.null, .null, .int (-1), .int 0, .ref q1, .null, .int 0, .ref q3, .ref q5, .int 0, .ref q7, .ref q9, .ref q11, .ref q13, .null, .null])), (q1, .inl (k2, 400, .inl (fun _ => 0))), (q3, .inl (k4, 12, .inl (fun _ => 0))), (q5, .inl (k6, 40, .inl (fun _ => 0))), (q7, .inl (k8, 40, .inl (fun _ => 0))), (q9, .inl (k10, 12, .inl (fun _ => 0))), (q11, .inl (k12, 12, .inl (fun _ => 0))), (q13, .inl (k14, 12, .inl (fun _ => 0)))] := hD
  refine lv_aload_n hx hb dX9_init_66 rfl (lv_at hl 0 rfl) ?_
  refine lv_bipush (v := 12) hx hb dX9_init_67 (by decide) ?_
  refine va_newa (atype := .int) (ty := .int) (a0 := (12, .inl (fun _ => 0))) hx hb (ht _ kw_72) rfl hK hP hD hS hA (fun _ => rfl) (by decide) (by decide) (Nat.le_of_ble_eq_true rfl) (Nat.le_of_ble_eq_true rfl) (Nat.le_of_ble_eq_true rfl) dX9_init_69 (fun q15 k16 H hK hP hD hS => ?_)
  have hP : va_P (dC, dI) vwCl [(h0, .inr (9, [.null, .null, .int (-1), .int 0, .ref q1, .null, .int 0, .ref q3, .ref q5, .int 0, .ref q7, .ref q9, .ref q11, .ref q13, .null, .null])), (q1, .inl (k2, 400, .inl (fun _ => 0))), (q3, .inl (k4, 12, .inl (fun _ => 0))), (q5, .inl (k6, 40, .inl (fun _ => 0))), (q7, .inl (k8, 40, .inl (fun _ => 0))), (q9, .inl (k10, 12, .inl (fun _ => 0))), (q11, .inl (k12, 12, .inl (fun _ => 0))), (q13, .inl (k14, 12, .inl (fun _ => 0))), (q15, .inl (k16, 12, .inl (fun _ => 0)))] H := hP
  have hD : va_D A [(h0, .inr (9, [.null, .null, .int (-1), .int 0, .ref q1, .null, .int 0, .ref q3, .ref q5, .int 0, .ref q7, .ref q9, .ref q11, .ref q13, .null, .null])), (q1, .inl (k2, 400, .inl (fun _ => 0))), (q3, .inl (k4, 12, .inl (fun _ => 0))), (q5, .inl (k6, 40, .inl (fun _ => 0))), (q7, .inl (k8, 40, .inl (fun _ => 0))), (q9, .inl (k10, 12, .inl (fun _ => 0))), (q11, .inl (k12, 12, .inl (fun _ => 0))), (q13, .inl (k14, 12, .inl (fun _ => 0))), (q15, .inl (k16, 12, .inl (fun _ => 0)))] := hD
  have hK : va_K (dC, dI) vwCl [(k2, .int), (k4, .int), (k6, .int), (k8, .int), (k10, .int), (k12, .int), (k14, .int), (k16, .int)] s := hK
  refine W.widen (k := 8) (n := 540) (Nat.le_of_ble_eq_true rfl) (Nat.le_of_ble_eq_true rfl) ?_
  refine va_putF (D := (dC, dI)) (ci := 9) (v := .ref q15) (ty := .array .int) (C := RX9) (T := TX9) (N := 16) hx hb ht inX9 tyX9 tyX9_ok nmX9 hown hK hP hD hS 0 rfl rfl 14 (by decide) (ht _ kw_285) (fun _ h9 => h9) rfl hin rfl (by decide +kernel) rfl rfl (Nat.le_of_ble_eq_true rfl) dX9_init_71 (fun H locs hP hD hS => ?_)
  have hP : va_P (dC, dI) vwCl [(h0, .inr (9, [.null, .null, .int (-1), .int 0, .ref q1, .null, .int 0, .ref q3, .ref q5, .int 0, .ref q7, .ref q9, .ref q11, .ref q13, .ref q15, .null])), (q1, .inl (k2, 400, .inl (fun _ => 0))), (q3, .inl (k4, 12, .inl (fun _ => 0))), (q5, .inl (k6, 40, .inl (fun _ => 0))), (q7, .inl (k8, 40, .inl (fun _ => 0))), (q9, .inl (k10, 12, .inl (fun _ => 0))), (q11, .inl (k12, 12, .inl (fun _ => 0))), (q13, .inl (k14, 12, .inl (fun _ => 0))), (q15, .inl (k16, 12, .inl (fun _ => 0)))] H := hP
  have hD : va_D A [(h0, .inr (9, [.null, .null, .int (-1), .int 0, .ref q1, .null, .int 0, .ref q3, .ref q5, .int 0, .ref q7, .ref q9, .ref q11, .ref q13, .ref q15, .null])), (q1, .inl (k2, 400, .inl (fun _ => 0))), (q3, .inl (k4, 12, .inl (fun _ => 0))), (q5, .inl (k6, 40, .inl (fun _ => 0))), (q7, .inl (k8, 40, .inl (fun _ => 0))), (q9, .inl (k10, 12, .inl (fun _ => 0))), (q11, .inl (k12, 12, .inl (fun _ => 0))), (q13, .inl (k14, 12, .inl (fun _ => 0))), (q15, .inl (k16, 12, .inl (fun _ => 0)))] := hD
  refine lv_aload_n hx hb dX9_init_74 rfl (lv_at hl 0 rfl) ?_
  refine lv_aload_n hx hb dX9_init_75 rfl (lv_at hl 1 rfl) ?_
  refine va_putF (D := (dC, dI)) (ci := 9) (v := .ref se) (ty := .object "SportsHouse$Season") (C := RX9) (T := TX9) (N := 16) hx hb ht inX9 tyX9 tyX9_ok nmX9 hown hK hP hD hS 0 rfl rfl 0 (by decide) (ht _ kw_268) (fun _ h9 => h9) rfl hin rfl (by decide +kernel) rfl rfl (Nat.le_of_ble_eq_true rfl) dX9_init_76 (fun H locs hP hD hS => ?_)
  have hP : va_P (dC, dI) vwCl [(h0, .inr (9, [.ref se, .null, .int (-1), .int 0, .ref q1, .null, .int 0, .ref q3, .ref q5, .int 0, .ref q7, .ref q9, .ref q11, .ref q13, .ref q15, .null])), (q1, .inl (k2, 400, .inl (fun _ => 0))), (q3, .inl (k4, 12, .inl (fun _ => 0))), (q5, .inl (k6, 40, .inl (fun _ => 0))), (q7, .inl (k8, 40, .inl (fun _ => 0))), (q9, .inl (k10, 12, .inl (fun _ => 0))), (q11, .inl (k12, 12, .inl (fun _ => 0))), (q13, .inl (k14, 12, .inl (fun _ => 0))), (q15, .inl (k16, 12, .inl (fun _ => 0)))] H := hP
  have hD : va_D A [(h0, .inr (9, [.ref se, .null, .int (-1), .int 0, .ref q1, .null, .int 0, .ref q3, .ref q5, .int 0, .ref q7, .ref q9, .ref q11, .ref q13, .ref q15, .null])), (q1, .inl (k2, 400, .inl (fun _ => 0))), (q3, .inl (k4, 12, .inl (fun _ => 0))), (q5, .inl (k6, 40, .inl (fun _ => 0))), (q7, .inl (k8, 40, .inl (fun _ => 0))), (q9, .inl (k10, 12, .inl (fun _ => 0))), (q11, .inl (k12, 12, .inl (fun _ => 0))), (q13, .inl (k14, 12, .inl (fun _ => 0))), (q15, .inl (k16, 12, .inl (fun _ => 0)))] := hD
  refine lv_aload_n hx hb dX9_init_79 rfl (lv_at hl 0 rfl) ?_
  refine lv_aload_n hx hb dX9_init_80 rfl (lv_at hl 2 rfl) ?_
  refine va_putF (D := (dC, dI)) (ci := 9) (v := .ref sd) (ty := .object "SportsHouse$Standings") (C := RX9) (T := TX9) (N := 16) hx hb ht inX9 tyX9 tyX9_ok nmX9 hown hK hP hD hS 0 rfl rfl 1 (by decide) (ht _ kw_269) (fun _ h9 => h9) rfl hin rfl (by decide +kernel) rfl rfl (Nat.le_of_ble_eq_true rfl) dX9_init_81 (fun H locs hP hD hS => ?_)
  have hP : va_P (dC, dI) vwCl [(h0, .inr (9, [.ref se, .ref sd, .int (-1), .int 0, .ref q1, .null, .int 0, .ref q3, .ref q5, .int 0, .ref q7, .ref q9, .ref q11, .ref q13, .ref q15, .null])), (q1, .inl (k2, 400, .inl (fun _ => 0))), (q3, .inl (k4, 12, .inl (fun _ => 0))), (q5, .inl (k6, 40, .inl (fun _ => 0))), (q7, .inl (k8, 40, .inl (fun _ => 0))), (q9, .inl (k10, 12, .inl (fun _ => 0))), (q11, .inl (k12, 12, .inl (fun _ => 0))), (q13, .inl (k14, 12, .inl (fun _ => 0))), (q15, .inl (k16, 12, .inl (fun _ => 0)))] H := hP
  have hD : va_D A [(h0, .inr (9, [.ref se, .ref sd, .int (-1), .int 0, .ref q1, .null, .int 0, .ref q3, .ref q5, .int 0, .ref q7, .ref q9, .ref q11, .ref q13, .ref q15, .null])), (q1, .inl (k2, 400, .inl (fun _ => 0))), (q3, .inl (k4, 12, .inl (fun _ => 0))), (q5, .inl (k6, 40, .inl (fun _ => 0))), (q7, .inl (k8, 40, .inl (fun _ => 0))), (q9, .inl (k10, 12, .inl (fun _ => 0))), (q11, .inl (k12, 12, .inl (fun _ => 0))), (q13, .inl (k14, 12, .inl (fun _ => 0))), (q15, .inl (k16, 12, .inl (fun _ => 0)))] := hD
  refine lv_aload_n hx hb dX9_init_84 rfl (lv_at hl 0 rfl) ?_
  refine va_get (D := (dC, dI)) (ci := 9) (v := .ref q1) (C := RX9) (T := TX9) (N := 16) hx hb ht inX9 hown hK hP 0 rfl rfl 4 (by decide) (ht _ kw_274) (fun _ h9 => h9) rfl dX9_init_85 ?_
  refine lv_iconst (v := (-1)) hx hb dX9_init_88 (by decide) ?_
  have hPc := hP.sub (ws' := [(q1, .inl (k2, 400, .inl (fun _ => 0)))]) [1] rfl
  have hDc := hD.sub (ws' := [(q1, .inl (k2, 400, .inl (fun _ => 0)))]) [1] (by decide) rfl
  have hKc := hK.sub (tys' := [(k2, .int)]) [0] rfl
  have hFc := va_free (wc := [(q1, .inl (k2, 400, .inl (fun _ => 0)))]) hD hS hA [1] rfl
  refine va_callv (va_runS (As := [.ref q1, .int (-1)]) (rest := []) ⟨hx, hb, hml, hown, ht⟩ (ct_J7_fill_53178 l dC dI q1 k2 400 (fun _ => 0) (by decide) _ (-1)) (va_cwS 2 ht gv_X9_48 rfl rfl rfl (by decide +kernel) ⟨Nat.le_of_ble_eq_true rfl, Nat.le_of_ble_eq_true rfl⟩) ⟨ro_blind, fun U hU hW => ⟨rfl, by rw [hU], by rw [hU]; exact hPc, va_K.moved hW.alike hKc, hDc.weaken (fun _ _ _ _ => trivial), ex_warm hW hE⟩⟩ rfl rfl hl.1 rfl (lv_room (Nat.le_of_ble_eq_true rfl)) dX9_init_89 ⟨Nat.le_of_ble_eq_true rfl, Nat.le_of_ble_eq_true rfl⟩) hS (fun q _ h => hFc q h) hFc (fun u t H1 locs ht1 hvm hw hB hz1 hk1 hS => ?_)
  obtain ⟨g17, hP1, hK1, hD1⟩ := hB
  rw [ht1] at hP1
  obtain ⟨hP, hD⟩ := va_join (wr := [(h0, .inr (9, [.ref se, .ref sd, .int (-1), .int 0, .ref q1, .null, .int 0, .ref q3, .ref q5, .int 0, .ref q7, .ref q9, .ref q11, .ref q13, .ref q15, .null])), (q3, .inl (k4, 12, .inl (fun _ => 0))), (q5, .inl (k6, 40, .inl (fun _ => 0))), (q7, .inl (k8, 40, .inl (fun _ => 0))), (q9, .inl (k10, 12, .inl (fun _ => 0))), (q11, .inl (k12, 12, .inl (fun _ => 0))), (q13, .inl (k14, 12, .inl (fun _ => 0))), (q15, .inl (k16, 12, .inl (fun _ => 0)))]) (w1 := [(q1, .inl (k2, 400, .inl g17))]) hP hD [1] [0, 2, 3, 4, 5, 6, 7, 8] rfl rfl (by decide) (by decide) hk1 hFc hP1 hD1
  generalize H1 = H at hP hS ⊢
  have hP : va_P (dC, dI) vwCl [(h0, .inr (9, [.ref se, .ref sd, .int (-1), .int 0, .ref q1, .null, .int 0, .ref q3, .ref q5, .int 0, .ref q7, .ref q9, .ref q11, .ref q13, .ref q15, .null])), (q3, .inl (k4, 12, .inl (fun _ => 0))), (q5, .inl (k6, 40, .inl (fun _ => 0))), (q7, .inl (k8, 40, .inl (fun _ => 0))), (q9, .inl (k10, 12, .inl (fun _ => 0))), (q11, .inl (k12, 12, .inl (fun _ => 0))), (q13, .inl (k14, 12, .inl (fun _ => 0))), (q15, .inl (k16, 12, .inl (fun _ => 0))), (q1, .inl (k2, 400, .inl g17))] H := hP
  have hD : va_D A [(h0, .inr (9, [.ref se, .ref sd, .int (-1), .int 0, .ref q1, .null, .int 0, .ref q3, .ref q5, .int 0, .ref q7, .ref q9, .ref q11, .ref q13, .ref q15, .null])), (q3, .inl (k4, 12, .inl (fun _ => 0))), (q5, .inl (k6, 40, .inl (fun _ => 0))), (q7, .inl (k8, 40, .inl (fun _ => 0))), (q9, .inl (k10, 12, .inl (fun _ => 0))), (q11, .inl (k12, 12, .inl (fun _ => 0))), (q13, .inl (k14, 12, .inl (fun _ => 0))), (q15, .inl (k16, 12, .inl (fun _ => 0))), (q1, .inl (k2, 400, .inl g17))] := hD
  exact W.vret hx hb hr (fun t ht9 hW => ⟨⟨(), rfl, trivial, q1, q3, q5, q7, q9, q11, q13, q15, k4, k6, k8, k10, k12, k14, k16, k2, g17, by rw [ht9]; exact hP, va_K.moved hW.alike hK, hD⟩, hS.F ht9⟩) hS.2.2 dX9_init_92
abbrev cX1_init : ByteArray := prog_3_method_1_code
def yX1_init : MethodName := ⟨RX1, "<init>", "(LSportsHouse$Things;)V"⟩
theorem dX1_init_0 : decode cX1_init 0 = .ok (.aload_n 0, 1) := qd_c (by decide +kernel)
theorem dX1_init_1 : decode cX1_init 1 = .ok (.invokespecial 3, 3) := qd_c (by decide +kernel)
theorem kw_325 : Cond.methodLink RX1 3 objectInit ∈ lw_g := lwq_2 (dqc_m (dqc_m (dqa_m (dqa_m (List.mem_of_getElem? (i := 5) rfl))))) rfl
theorem dX1_init_4 : decode cX1_init 4 = .ok (.aload_n 0, 1) := qd_c (by decide +kernel)
theorem dX1_init_5 : decode cX1_init 5 = .ok (.bipush 12, 2) := qd_c (by decide +kernel)
theorem dX1_init_7 : decode cX1_init 7 = .ok (.newarray .int, 2) := by decide +kernel
theorem dX1_init_9 : decode cX1_init 9 = .ok (.putfield 9, 3) := qd_c (by decide +kernel)
theorem kw_339 : Cond.fieldLink RX1 9 "SportsHouse$Lots" "potOf" "[I" ∈ lw_g := lwq_2 (dqc_m (dqc_m (dqc_m (List.mem_of_getElem? (i := 3) rfl)))) rfl
theorem dX1_init_12 : decode cX1_init 12 = .ok (.aload_n 0, 1) := qd_c (by decide +kernel)
theorem dX1_init_13 : decode cX1_init 13 = .ok (.bipush 12, 2) := qd_c (by decide +kernel)
theorem dX1_init_15 : decode cX1_init 15 = .ok (.newarray .int, 2) := by decide +kernel
theorem dX1_init_17 : decode cX1_init 17 = .ok (.putfield 15, 3) := qd_c (by decide +kernel)
theorem kw_341 : Cond.fieldLink RX1 15 "SportsHouse$Lots" "groupOf" "[I" ∈ lw_g := lwq_2 (dqc_m (dqc_m (dqc_m (List.mem_of_getElem? (i := 5) rfl)))) rfl
theorem dX1_init_20 : decode cX1_init 20 = .ok (.aload_n 0, 1) := qd_c (by decide +kernel)
theorem dX1_init_21 : decode cX1_init 21 = .ok (.iconst 3, 1) := qd_c (by decide +kernel)
theorem dX1_init_22 : decode cX1_init 22 = .ok (.newarray .int, 2) := by decide +kernel
theorem dX1_init_24 : decode cX1_init 24 = .ok (.putfield 18, 3) := qd_c (by decide +kernel)
theorem kw_343 : Cond.fieldLink RX1 18 "SportsHouse$Lots" "potSize" "[I" ∈ lw_g := lwq_2 (dqc_m (dqc_m (dqc_m (List.mem_of_getElem? (i := 7) rfl)))) rfl
theorem dX1_init_27 : decode cX1_init 27 = .ok (.aload_n 0, 1) := qd_c (by decide +kernel)
theorem dX1_init_28 : decode cX1_init 28 = .ok (.bipush 48, 2) := qd_c (by decide +kernel)
theorem dX1_init_30 : decode cX1_init 30 = .ok (.newarray .int, 2) := by decide +kernel
theorem dX1_init_32 : decode cX1_init 32 = .ok (.putfield 21, 3) := qd_c (by decide +kernel)
theorem kw_345 : Cond.fieldLink RX1 21 "SportsHouse$Lots" "with" "[I" ∈ lw_g := lwq_2 (dqc_m (dqc_m (dqc_m (dqa_m (List.mem_of_getElem? (i := 1) rfl))))) rfl
theorem dX1_init_35 : decode cX1_init 35 = .ok (.aload_n 0, 1) := qd_c (by decide +kernel)
theorem dX1_init_36 : decode cX1_init 36 = .ok (.bipush 12, 2) := qd_c (by decide +kernel)
theorem dX1_init_38 : decode cX1_init 38 = .ok (.newarray .int, 2) := by decide +kernel
theorem dX1_init_40 : decode cX1_init 40 = .ok (.putfield 24, 3) := qd_c (by decide +kernel)
theorem kw_346 : Cond.fieldLink RX1 24 "SportsHouse$Lots" "waiting" "[I" ∈ lw_g := lwq_2 (dqc_m (dqc_m (dqc_m (dqa_m (List.mem_of_getElem? (i := 2) rfl))))) rfl
theorem dX1_init_43 : decode cX1_init 43 = .ok (.aload_n 0, 1) := qd_c (by decide +kernel)
theorem dX1_init_44 : decode cX1_init 44 = .ok (.bipush 12, 2) := qd_c (by decide +kernel)
theorem dX1_init_46 : decode cX1_init 46 = .ok (.newarray .int, 2) := by decide +kernel
theorem dX1_init_48 : decode cX1_init 48 = .ok (.putfield 27, 3) := qd_c (by decide +kernel)
theorem kw_348 : Cond.fieldLink RX1 27 "SportsHouse$Lots" "taken" "[I" ∈ lw_g := lwq_2 (dqc_m (dqc_m (dqc_m (dqa_m (List.mem_of_getElem? (i := 4) rfl))))) rfl
theorem dX1_init_51 : decode cX1_init 51 = .ok (.aload_n 0, 1) := qd_c (by decide +kernel)
theorem dX1_init_52 : decode cX1_init 52 = .ok (.bipush 32, 2) := qd_c (by decide +kernel)
theorem dX1_init_54 : decode cX1_init 54 = .ok (.newarray .int, 2) := by decide +kernel
theorem dX1_init_56 : decode cX1_init 56 = .ok (.putfield 30, 3) := qd_c (by decide +kernel)
theorem kw_349 : Cond.fieldLink RX1 30 "SportsHouse$Lots" "countrymen" "[I" ∈ lw_g := lwq_2 (dqc_m (dqc_m (dqc_m (dqa_m (List.mem_of_getElem? (i := 5) rfl))))) rfl
theorem dX1_init_59 : decode cX1_init 59 = .ok (.aload_n 0, 1) := qd_c (by decide +kernel)
theorem dX1_init_60 : decode cX1_init 60 = .ok (.aload_n 1, 1) := qd_c (by decide +kernel)
theorem dX1_init_61 : decode cX1_init 61 = .ok (.putfield 33, 3) := qd_c (by decide +kernel)
theorem kw_326 : Cond.fieldLink RX1 33 "SportsHouse$Lots" "things" "LSportsHouse$Things;" ∈ lw_g := lwq_2 (dqc_m (dqc_m (dqa_m (dqa_m (List.mem_of_getElem? (i := 6) rfl))))) rfl
theorem dX1_init_64 : decode cX1_init 64 = .ok (.return_, 1) := qd_c (by decide +kernel)
set_option maxHeartbeats 4000000 in
set_option maxRecDepth 100000 in
theorem ct_X1_init (l : Launch) (dC : Nat → ClassId) (dI : Nat → Nat → Nat) (h0 : Nat) (th : Nat) (sz : Nat)  : Met l yX1_init (.code yX1_init cX1_init 2 none :: lw_g) ({ frames := 1, cells := 7, slots := 131, locals := 60 }) (ro_P dC dI [(h0, .inr (1, [.null, .int 0, .int 0, .int 0, .int 0, .int 0, .int 0, .int 0, .null, .null, .null, .null, .null, .int 0, .null, .null]))] [] sz [.ref h0, .ref th]) (va_Qv (fun (_ : Unit) => True) (fun _ t => ∃ (q1 : Nat) (q3 : Nat) (q5 : Nat) (q7 : Nat) (q9 : Nat) (q11 : Nat) (q13 : Nat) (k2 : ClassId) (k4 : ClassId) (k6 : ClassId) (k8 : ClassId) (k10 : ClassId) (k12 : ClassId) (k14 : ClassId), va_P (dC, dI) vwCl [(h0, .inr (1, [.ref th, .int 0, .int 0, .int 0, .int 0, .int 0, .int 0, .int 0, .ref q1, .ref q3, .ref q5, .ref q7, .ref q9, .int 0, .ref q11, .ref q13])), (q1, .inl (k2, 12, .inl (fun _ => 0))), (q3, .inl (k4, 12, .inl (fun _ => 0))), (q5, .inl (k6, 3, .inl (fun _ => 0))), (q7, .inl (k8, 48, .inl (fun _ => 0))), (q9, .inl (k10, 12, .inl (fun _ => 0))), (q11, .inl (k12, 12, .inl (fun _ => 0))), (q13, .inl (k14, 32, .inl (fun _ => 0)))] t.heap ∧ va_K (dC, dI) vwCl [(k2, .int), (k4, .int), (k6, .int), (k8, .int), (k10, .int), (k12, .int), (k14, .int)] t ∧ va_D (va_A [(h0, .inr (1, [.null, .int 0, .int 0, .int 0, .int 0, .int 0, .int 0, .int 0, .null, .null, .null, .null, .null, .int 0, .null, .null]))] sz) [(h0, .inr (1, [.ref th, .int 0, .int 0, .int 0, .int 0, .int 0, .int 0, .int 0, .ref q1, .ref q3, .ref q5, .ref q7, .ref q9, .int 0, .ref q11, .ref q13])), (q1, .inl (k2, 12, .inl (fun _ => 0))), (q3, .inl (k4, 12, .inl (fun _ => 0))), (q5, .inl (k6, 3, .inl (fun _ => 0))), (q7, .inl (k8, 48, .inl (fun _ => 0))), (q9, .inl (k10, 12, .inl (fun _ => 0))), (q11, .inl (k12, 12, .inl (fun _ => 0))), (q13, .inl (k14, 32, .inl (fun _ => 0)))]) (va_A [(h0, .inr (1, [.null, .int 0, .int 0, .int 0, .int 0, .int 0, .int 0, .int 0, .null, .null, .null, .null, .null, .int 0, .null, .null]))] sz)) 7 131 (va_A [(h0, .inr (1, [.null, .int 0, .int 0, .int 0, .int 0, .int 0, .int 0, .int 0, .null, .null, .null, .null, .null, .int 0, .null, .null]))] sz) := by
  refine ro_entry (by decide) (Nat.le_of_ble_eq_true rfl) ?_
  intro p e s m below meth c ls hx hb hr hlocks ht hown hin hml hsz hP hK hD hE hl
  subst hsz
  have hD := hD.self (sz := s.heap.size)
  generalize hAe : va_A [(h0, .inr (1, [.null, .int 0, .int 0, .int 0, .int 0, .int 0, .int 0, .int 0, .null, .null, .null, .null, .null, .int 0, .null, .null]))] s.heap.size = A at hD ⊢
  have hA : ∀ q, s.heap.size ≤ q → A q := fun q h => by rw [← hAe]; exact Or.inr h
  have hS : va_S A s.heap s.heap [] := va_S.rf
  have hl : lv_has ls 2 [(0, .ref h0), (1, .ref th)] := hl
  have hown : s.vm.findClass RX1 = some m.cls := hown
  refine lv_aload_n hx hb dX1_init_0 rfl (lv_at hl 0 rfl) ?_
  refine W.objInit hx hb hown (ht _ kw_325) (ht _ kw_27) (ht _ kw_28) rfl (by rw [hml]; exact hl.1) rfl dX1_init_1 (Nat.le_of_ble_eq_true rfl) (Nat.le_of_ble_eq_true rfl) ?_
  refine W.eq (g2 := F0 m 4 ls []) rfl ?_
  refine lv_aload_n hx hb dX1_init_4 rfl (lv_at hl 0 rfl) ?_
  refine lv_bipush (v := 12) hx hb dX1_init_5 (by decide) ?_
  refine va_newa (atype := .int) (ty := .int) (a0 := (12, .inl (fun _ => 0))) hx hb (ht _ kw_72) rfl hK hP hD hS hA (fun _ => rfl) (by decide) (by decide) (Nat.le_of_ble_eq_true rfl) (Nat.le_of_ble_eq_true rfl) (Nat.le_of_ble_eq_true rfl) dX1_init_7 (fun q1 k2 H hK hP hD hS => ?_)
  have hP : va_P (dC, dI) vwCl [(h0, .inr (1, [.null, .int 0, .int 0, .int 0, .int 0, .int 0, .int 0, .int 0, .null, .null, .null, .null, .null, .int 0, .null, .null])), (q1, .inl (k2, 12, .inl (fun _ => 0)))] H := hP
  have hD : va_D A [(h0, .inr (1, [.null, .int 0, .int 0, .int 0, .int 0, .int 0, .int 0, .int 0, .null, .null, .null, .null, .null, .int 0, .null, .null])), (q1, .inl (k2, 12, .inl (fun _ => 0)))] := hD
  have hK : va_K (dC, dI) vwCl [(k2, .int)] s := hK
  refine W.widen (k := 1) (n := 12) (Nat.le_of_ble_eq_true rfl) (Nat.le_of_ble_eq_true rfl) ?_
  refine va_putF (D := (dC, dI)) (ci := 1) (v := .ref q1) (ty := .array .int) (C := RX1) (T := TX1) (N := 16) hx hb ht inX1 tyX1 tyX1_ok nmX1 hown hK hP hD hS 0 rfl rfl 8 (by decide) (ht _ kw_339) (fun _ h9 => h9) rfl hin rfl (by decide +kernel) rfl rfl (Nat.le_of_ble_eq_true rfl) dX1_init_9 (fun H locs hP hD hS => ?_)
  have hP : va_P (dC, dI) vwCl [(h0, .inr (1, [.null, .int 0, .int 0, .int 0, .int 0, .int 0, .int 0, .int 0, .ref q1, .null, .null, .null, .null, .int 0, .null, .null])), (q1, .inl (k2, 12, .inl (fun _ => 0)))] H := hP
  have hD : va_D A [(h0, .inr (1, [.null, .int 0, .int 0, .int 0, .int 0, .int 0, .int 0, .int 0, .ref q1, .null, .null, .null, .null, .int 0, .null, .null])), (q1, .inl (k2, 12, .inl (fun _ => 0)))] := hD
  refine lv_aload_n hx hb dX1_init_12 rfl (lv_at hl 0 rfl) ?_
  refine lv_bipush (v := 12) hx hb dX1_init_13 (by decide) ?_
  refine va_newa (atype := .int) (ty := .int) (a0 := (12, .inl (fun _ => 0))) hx hb (ht _ kw_72) rfl hK hP hD hS hA (fun _ => rfl) (by decide) (by decide) (Nat.le_of_ble_eq_true rfl) (Nat.le_of_ble_eq_true rfl) (Nat.le_of_ble_eq_true rfl) dX1_init_15 (fun q3 k4 H hK hP hD hS => ?_)
  have hP : va_P (dC, dI) vwCl [(h0, .inr (1, [.null, .int 0, .int 0, .int 0, .int 0, .int 0, .int 0, .int 0, .ref q1, .null, .null, .null, .null, .int 0, .null, .null])), (q1, .inl (k2, 12, .inl (fun _ => 0))), (q3, .inl (k4, 12, .inl (fun _ => 0)))] H := hP
  have hD : va_D A [(h0, .inr (1, [.null, .int 0, .int 0, .int 0, .int 0, .int 0, .int 0, .int 0, .ref q1, .null, .null, .null, .null, .int 0, .null, .null])), (q1, .inl (k2, 12, .inl (fun _ => 0))), (q3, .inl (k4, 12, .inl (fun _ => 0)))] := hD
  have hK : va_K (dC, dI) vwCl [(k2, .int), (k4, .int)] s := hK
  refine W.widen (k := 2) (n := 24) (Nat.le_of_ble_eq_true rfl) (Nat.le_of_ble_eq_true rfl) ?_
  refine va_putF (D := (dC, dI)) (ci := 1) (v := .ref q3) (ty := .array .int) (C := RX1) (T := TX1) (N := 16) hx hb ht inX1 tyX1 tyX1_ok nmX1 hown hK hP hD hS 0 rfl rfl 9 (by decide) (ht _ kw_341) (fun _ h9 => h9) rfl hin rfl (by decide +kernel) rfl rfl (Nat.le_of_ble_eq_true rfl) dX1_init_17 (fun H locs hP hD hS => ?_)
  have hP : va_P (dC, dI) vwCl [(h0, .inr (1, [.null, .int 0, .int 0, .int 0, .int 0, .int 0, .int 0, .int 0, .ref q1, .ref q3, .null, .null, .null, .int 0, .null, .null])), (q1, .inl (k2, 12, .inl (fun _ => 0))), (q3, .inl (k4, 12, .inl (fun _ => 0)))] H := hP
  have hD : va_D A [(h0, .inr (1, [.null, .int 0, .int 0, .int 0, .int 0, .int 0, .int 0, .int 0, .ref q1, .ref q3, .null, .null, .null, .int 0, .null, .null])), (q1, .inl (k2, 12, .inl (fun _ => 0))), (q3, .inl (k4, 12, .inl (fun _ => 0)))] := hD
  refine lv_aload_n hx hb dX1_init_20 rfl (lv_at hl 0 rfl) ?_
  refine lv_iconst (v := 3) hx hb dX1_init_21 (by decide) ?_
  refine va_newa (atype := .int) (ty := .int) (a0 := (3, .inl (fun _ => 0))) hx hb (ht _ kw_72) rfl hK hP hD hS hA (fun _ => rfl) (by decide) (by decide) (Nat.le_of_ble_eq_true rfl) (Nat.le_of_ble_eq_true rfl) (Nat.le_of_ble_eq_true rfl) dX1_init_22 (fun q5 k6 H hK hP hD hS => ?_)
  have hP : va_P (dC, dI) vwCl [(h0, .inr (1, [.null, .int 0, .int 0, .int 0, .int 0, .int 0, .int 0, .int 0, .ref q1, .ref q3, .null, .null, .null, .int 0, .null, .null])), (q1, .inl (k2, 12, .inl (fun _ => 0))), (q3, .inl (k4, 12, .inl (fun _ => 0))), (q5, .inl (k6, 3, .inl (fun _ => 0)))] H := hP
  have hD : va_D A [(h0, .inr (1, [.null, .int 0, .int 0, .int 0, .int 0, .int 0, .int 0, .int 0, .ref q1, .ref q3, .null, .null, .null, .int 0, .null, .null])), (q1, .inl (k2, 12, .inl (fun _ => 0))), (q3, .inl (k4, 12, .inl (fun _ => 0))), (q5, .inl (k6, 3, .inl (fun _ => 0)))] := hD
  have hK : va_K (dC, dI) vwCl [(k2, .int), (k4, .int), (k6, .int)] s := hK
  refine W.widen (k := 3) (n := 27) (Nat.le_of_ble_eq_true rfl) (Nat.le_of_ble_eq_true rfl) ?_
  refine va_putF (D := (dC, dI)) (ci := 1) (v := .ref q5) (ty := .array .int) (C := RX1) (T := TX1) (N := 16) hx hb ht inX1 tyX1 tyX1_ok nmX1 hown hK hP hD hS 0 rfl rfl 10 (by decide) (ht _ kw_343) (fun _ h9 => h9) rfl hin rfl (by decide +kernel) rfl rfl (Nat.le_of_ble_eq_true rfl) dX1_init_24 (fun H locs hP hD hS => ?_)
  have hP : va_P (dC, dI) vwCl [(h0, .inr (1, [.null, .int 0, .int 0, .int 0, .int 0, .int 0, .int 0, .int 0, .ref q1, .ref q3, .ref q5, .null, .null, .int 0, .null, .null])), (q1, .inl (k2, 12, .inl (fun _ => 0))), (q3, .inl (k4, 12, .inl (fun _ => 0))), (q5, .inl (k6, 3, .inl (fun _ => 0)))] H := hP
  have hD : va_D A [(h0, .inr (1, [.null, .int 0, .int 0, .int 0, .int 0, .int 0, .int 0, .int 0, .ref q1, .ref q3, .ref q5, .null, .null, .int 0, .null, .null])), (q1, .inl (k2, 12, .inl (fun _ => 0))), (q3, .inl (k4, 12, .inl (fun _ => 0))), (q5, .inl (k6, 3, .inl (fun _ => 0)))] := hD
  refine lv_aload_n hx hb dX1_init_27 rfl (lv_at hl 0 rfl) ?_
  refine lv_bipush (v := 48) hx hb dX1_init_28 (by decide) ?_
  refine va_newa (atype := .int) (ty := .int) (a0 := (48, .inl (fun _ => 0))) hx hb (ht _ kw_72) rfl hK hP hD hS hA (fun _ => rfl) (by decide) (by decide) (Nat.le_of_ble_eq_true rfl) (Nat.le_of_ble_eq_true rfl) (Nat.le_of_ble_eq_true rfl) dX1_init_30 (fun q7 k8 H hK hP hD hS => ?_)
  have hP : va_P (dC, dI) vwCl [(h0, .inr (1, [.null, .int 0, .int 0, .int 0, .int 0, .int 0, .int 0, .int 0, .ref q1, .ref q3, .ref q5, .null, .null, .int 0, .null, .null])), (q1, .inl (k2, 12, .inl (fun _ => 0))), (q3, .inl (k4, 12, .inl (fun _ => 0))), (q5, .inl (k6, 3, .inl (fun _ => 0))), (q7, .inl (k8, 48, .inl (fun _ => 0)))] H := hP
  have hD : va_D A [(h0, .inr (1, [.null, .int 0, .int 0, .int 0, .int 0, .int 0, .int 0, .int 0, .ref q1, .ref q3, .ref q5, .null, .null, .int 0, .null, .null])), (q1, .inl (k2, 12, .inl (fun _ => 0))), (q3, .inl (k4, 12, .inl (fun _ => 0))), (q5, .inl (k6, 3, .inl (fun _ => 0))), (q7, .inl (k8, 48, .inl (fun _ => 0)))] := hD
  have hK : va_K (dC, dI) vwCl [(k2, .int), (k4, .int), (k6, .int), (k8, .int)] s := hK
  refine W.widen (k := 4) (n := 75) (Nat.le_of_ble_eq_true rfl) (Nat.le_of_ble_eq_true rfl) ?_
  refine va_putF (D := (dC, dI)) (ci := 1) (v := .ref q7) (ty := .array .int) (C := RX1) (T := TX1) (N := 16) hx hb ht inX1 tyX1 tyX1_ok nmX1 hown hK hP hD hS 0 rfl rfl 11 (by decide) (ht _ kw_345) (fun _ h9 => h9) rfl hin rfl (by decide +kernel) rfl rfl (Nat.le_of_ble_eq_true rfl) dX1_init_32 (fun H locs hP hD hS => ?_)
  have hP : va_P (dC, dI) vwCl [(h0, .inr (1, [.null, .int 0, .int 0, .int 0, .int 0, .int 0, .int 0, .int 0, .ref q1, .ref q3, .ref q5, .ref q7, .null, .int 0, .null, .null])), (q1, .inl (k2, 12, .inl (fun _ => 0))), (q3, .inl (k4, 12, .inl (fun _ => 0))), (q5, .inl (k6, 3, .inl (fun _ => 0))), (q7, .inl (k8, 48, .inl (fun _ => 0)))] H := hP
  have hD : va_D A [(h0, .inr (1, [.null, .int 0, .int 0, .int 0, .int 0, .int 0, .int 0, .int 0, .ref q1, .ref q3, .ref q5, .ref q7, .null, .int 0, .null, .null])), (q1, .inl (k2, 12, .inl (fun _ => 0))), (q3, .inl (k4, 12, .inl (fun _ => 0))), (q5, .inl (k6, 3, .inl (fun _ => 0))), (q7, .inl (k8, 48, .inl (fun _ => 0)))] := hD
  refine lv_aload_n hx hb dX1_init_35 rfl (lv_at hl 0 rfl) ?_
  refine lv_bipush (v := 12) hx hb dX1_init_36 (by decide) ?_
  refine va_newa (atype := .int) (ty := .int) (a0 := (12, .inl (fun _ => 0))) hx hb (ht _ kw_72) rfl hK hP hD hS hA (fun _ => rfl) (by decide) (by decide) (Nat.le_of_ble_eq_true rfl) (Nat.le_of_ble_eq_true rfl) (Nat.le_of_ble_eq_true rfl) dX1_init_38 (fun q9 k10 H hK hP hD hS => ?_)
  have hP : va_P (dC, dI) vwCl [(h0, .inr (1, [.null, .int 0, .int 0, .int 0, .int 0, .int 0, .int 0, .int 0, .ref q1, .ref q3, .ref q5, .ref q7, .null, .int 0, .null, .null])), (q1, .inl (k2, 12, .inl (fun _ => 0))), (q3, .inl (k4, 12, .inl (fun _ => 0))), (q5, .inl (k6, 3, .inl (fun _ => 0))), (q7, .inl (k8, 48, .inl (fun _ => 0))), (q9, .inl (k10, 12, .inl (fun _ => 0)))] H := hP
  have hD : va_D A [(h0, .inr (1, [.null, .int 0, .int 0, .int 0, .int 0, .int 0, .int 0, .int 0, .ref q1, .ref q3, .ref q5, .ref q7, .null, .int 0, .null, .null])), (q1, .inl (k2, 12, .inl (fun _ => 0))), (q3, .inl (k4, 12, .inl (fun _ => 0))), (q5, .inl (k6, 3, .inl (fun _ => 0))), (q7, .inl (k8, 48, .inl (fun _ => 0))), (q9, .inl (k10, 12, .inl (fun _ => 0)))] := hD
  have hK : va_K (dC, dI) vwCl [(k2, .int), (k4, .int), (k6, .int), (k8, .int), (k10, .int)] s := hK
  refine W.widen (k := 5) (n := 87) (Nat.le_of_ble_eq_true rfl) (Nat.le_of_ble_eq_true rfl) ?_
  refine va_putF (D := (dC, dI)) (ci := 1) (v := .ref q9) (ty := .array .int) (C := RX1) (T := TX1) (N := 16) hx hb ht inX1 tyX1 tyX1_ok nmX1 hown hK hP hD hS 0 rfl rfl 12 (by decide) (ht _ kw_346) (fun _ h9 => h9) rfl hin rfl (by decide +kernel) rfl rfl (Nat.le_of_ble_eq_true rfl) dX1_init_40 (fun H locs hP hD hS => ?_)
  have hP : va_P (dC, dI) vwCl [(h0, .inr (1, [.null, .int 0, .int 0, .int 0, .int 0, .int 0, .int 0, .int 0, .ref q1, .ref q3, .ref q5, .ref q7, .ref q9, .int 0, .null, .null])), (q1, .inl (k2, 12, .inl (fun _ => 0))), (q3, .inl (k4, 12, .inl (fun _ => 0))), (q5, .inl (k6, 3, .inl (fun _ => 0))), (q7, .inl (k8, 48, .inl (fun _ => 0))), (q9, .inl (k10, 12, .inl (fun _ => 0)))] H := hP
  have hD : va_D A [(h0, .inr (1, [.null, .int 0, .int 0, .int 0, .int 0, .int 0, .int 0, .int 0, .ref q1, .ref q3, .ref q5, .ref q7, .ref q9, .int 0, .null, .null])), (q1, .inl (k2, 12, .inl (fun _ => 0))), (q3, .inl (k4, 12, .inl (fun _ => 0))), (q5, .inl (k6, 3, .inl (fun _ => 0))), (q7, .inl (k8, 48, .inl (fun _ => 0))), (q9, .inl (k10, 12, .inl (fun _ => 0)))] := hD
  refine lv_aload_n hx hb dX1_init_43 rfl (lv_at hl 0 rfl) ?_
  refine lv_bipush (v := 12) hx hb dX1_init_44 (by decide) ?_
  refine va_newa (atype := .int) (ty := .int) (a0 := (12, .inl (fun _ => 0))) hx hb (ht _ kw_72) rfl hK hP hD hS hA (fun _ => rfl) (by decide) (by decide) (Nat.le_of_ble_eq_true rfl) (Nat.le_of_ble_eq_true rfl) (Nat.le_of_ble_eq_true rfl) dX1_init_46 (fun q11 k12 H hK hP hD hS => ?_)
  have hP : va_P (dC, dI) vwCl [(h0, .inr (1, [.null, .int 0, .int 0, .int 0, .int 0, .int 0, .int 0, .int 0, .ref q1, .ref q3, .ref q5, .ref q7, .ref q9, .int 0, .null, .null])), (q1, .inl (k2, 12, .inl (fun _ => 0))), (q3, .inl (k4, 12, .inl (fun _ => 0))), (q5, .inl (k6, 3, .inl (fun _ => 0))), (q7, .inl (k8, 48, .inl (fun _ => 0))), (q9, .inl (k10, 12, .inl (fun _ => 0))), (q11, .inl (k12, 12, .inl (fun _ => 0)))] H := hP
  have hD : va_D A [(h0, .inr (1, [.null, .int 0, .int 0, .int 0, .int 0, .int 0, .int 0, .int 0, .ref q1, .ref q3, .ref q5, .ref q7, .ref q9, .int 0, .null, .null])), (q1, .inl (k2, 12, .inl (fun _ => 0))), (q3, .inl (k4, 12, .inl (fun _ => 0))), (q5, .inl (k6, 3, .inl (fun _ => 0))), (q7, .inl (k8, 48, .inl (fun _ => 0))), (q9, .inl (k10, 12, .inl (fun _ => 0))), (q11, .inl (k12, 12, .inl (fun _ => 0)))] := hD
  have hK : va_K (dC, dI) vwCl [(k2, .int), (k4, .int), (k6, .int), (k8, .int), (k10, .int), (k12, .int)] s := hK
  refine W.widen (k := 6) (n := 99) (Nat.le_of_ble_eq_true rfl) (Nat.le_of_ble_eq_true rfl) ?_
  refine va_putF (D := (dC, dI)) (ci := 1) (v := .ref q11) (ty := .array .int) (C := RX1) (T := TX1) (N := 16) hx hb ht inX1 tyX1 tyX1_ok nmX1 hown hK hP hD hS 0 rfl rfl 14 (by decide) (ht _ kw_348) (fun _ h9 => h9) rfl hin rfl (by decide +kernel) rfl rfl (Nat.le_of_ble_eq_true rfl) dX1_init_48 (fun H locs hP hD hS => ?_)
  have hP : va_P (dC, dI) vwCl [(h0, .inr (1, [.null, .int 0, .int 0, .int 0, .int 0, .int 0, .int 0, .int 0, .ref q1, .ref q3, .ref q5, .ref q7, .ref q9, .int 0, .ref q11, .null])), (q1, .inl (k2, 12, .inl (fun _ => 0))), (q3, .inl (k4, 12, .inl (fun _ => 0))), (q5, .inl (k6, 3, .inl (fun _ => 0))), (q7, .inl (k8, 48, .inl (fun _ => 0))), (q9, .inl (k10, 12, .inl (fun _ => 0))), (q11, .inl (k12, 12, .inl (fun _ => 0)))] H := hP
  have hD : va_D A [(h0, .inr (1, [.null, .int 0, .int 0, .int 0, .int 0, .int 0, .int 0, .int 0, .ref q1, .ref q3, .ref q5, .ref q7, .ref q9, .int 0, .ref q11, .null])), (q1, .inl (k2, 12, .inl (fun _ => 0))), (q3, .inl (k4, 12, .inl (fun _ => 0))), (q5, .inl (k6, 3, .inl (fun _ => 0))), (q7, .inl (k8, 48, .inl (fun _ => 0))), (q9, .inl (k10, 12, .inl (fun _ => 0))), (q11, .inl (k12, 12, .inl (fun _ => 0)))] := hD
  refine lv_aload_n hx hb dX1_init_51 rfl (lv_at hl 0 rfl) ?_
  refine lv_bipush (v := 32) hx hb dX1_init_52 (by decide) ?_
  refine va_newa (atype := .int) (ty := .int) (a0 := (32, .inl (fun _ => 0))) hx hb (ht _ kw_72) rfl hK hP hD hS hA (fun _ => rfl) (by decide) (by decide) (Nat.le_of_ble_eq_true rfl) (Nat.le_of_ble_eq_true rfl) (Nat.le_of_ble_eq_true rfl) dX1_init_54 (fun q13 k14 H hK hP hD hS => ?_)
  have hP : va_P (dC, dI) vwCl [(h0, .inr (1, [.null, .int 0, .int 0, .int 0, .int 0, .int 0, .int 0, .int 0, .ref q1, .ref q3, .ref q5, .ref q7, .ref q9, .int 0, .ref q11, .null])), (q1, .inl (k2, 12, .inl (fun _ => 0))), (q3, .inl (k4, 12, .inl (fun _ => 0))), (q5, .inl (k6, 3, .inl (fun _ => 0))), (q7, .inl (k8, 48, .inl (fun _ => 0))), (q9, .inl (k10, 12, .inl (fun _ => 0))), (q11, .inl (k12, 12, .inl (fun _ => 0))), (q13, .inl (k14, 32, .inl (fun _ => 0)))] H := hP
  have hD : va_D A [(h0, .inr (1, [.null, .int 0, .int 0, .int 0, .int 0, .int 0, .int 0, .int 0, .ref q1, .ref q3, .ref q5, .ref q7, .ref q9, .int 0, .ref q11, .null])), (q1, .inl (k2, 12, .inl (fun _ => 0))), (q3, .inl (k4, 12, .inl (fun _ => 0))), (q5, .inl (k6, 3, .inl (fun _ => 0))), (q7, .inl (k8, 48, .inl (fun _ => 0))), (q9, .inl (k10, 12, .inl (fun _ => 0))), (q11, .inl (k12, 12, .inl (fun _ => 0))), (q13, .inl (k14, 32, .inl (fun _ => 0)))] := hD
  have hK : va_K (dC, dI) vwCl [(k2, .int), (k4, .int), (k6, .int), (k8, .int), (k10, .int), (k12, .int), (k14, .int)] s := hK
  refine W.widen (k := 7) (n := 131) (Nat.le_of_ble_eq_true rfl) (Nat.le_of_ble_eq_true rfl) ?_
  refine va_putF (D := (dC, dI)) (ci := 1) (v := .ref q13) (ty := .array .int) (C := RX1) (T := TX1) (N := 16) hx hb ht inX1 tyX1 tyX1_ok nmX1 hown hK hP hD hS 0 rfl rfl 15 (by decide) (ht _ kw_349) (fun _ h9 => h9) rfl hin rfl (by decide +kernel) rfl rfl (Nat.le_of_ble_eq_true rfl) dX1_init_56 (fun H locs hP hD hS => ?_)
  have hP : va_P (dC, dI) vwCl [(h0, .inr (1, [.null, .int 0, .int 0, .int 0, .int 0, .int 0, .int 0, .int 0, .ref q1, .ref q3, .ref q5, .ref q7, .ref q9, .int 0, .ref q11, .ref q13])), (q1, .inl (k2, 12, .inl (fun _ => 0))), (q3, .inl (k4, 12, .inl (fun _ => 0))), (q5, .inl (k6, 3, .inl (fun _ => 0))), (q7, .inl (k8, 48, .inl (fun _ => 0))), (q9, .inl (k10, 12, .inl (fun _ => 0))), (q11, .inl (k12, 12, .inl (fun _ => 0))), (q13, .inl (k14, 32, .inl (fun _ => 0)))] H := hP
  have hD : va_D A [(h0, .inr (1, [.null, .int 0, .int 0, .int 0, .int 0, .int 0, .int 0, .int 0, .ref q1, .ref q3, .ref q5, .ref q7, .ref q9, .int 0, .ref q11, .ref q13])), (q1, .inl (k2, 12, .inl (fun _ => 0))), (q3, .inl (k4, 12, .inl (fun _ => 0))), (q5, .inl (k6, 3, .inl (fun _ => 0))), (q7, .inl (k8, 48, .inl (fun _ => 0))), (q9, .inl (k10, 12, .inl (fun _ => 0))), (q11, .inl (k12, 12, .inl (fun _ => 0))), (q13, .inl (k14, 32, .inl (fun _ => 0)))] := hD
  refine lv_aload_n hx hb dX1_init_59 rfl (lv_at hl 0 rfl) ?_
  refine lv_aload_n hx hb dX1_init_60 rfl (lv_at hl 1 rfl) ?_
  refine va_putF (D := (dC, dI)) (ci := 1) (v := .ref th) (ty := .object "SportsHouse$Things") (C := RX1) (T := TX1) (N := 16) hx hb ht inX1 tyX1 tyX1_ok nmX1 hown hK hP hD hS 0 rfl rfl 0 (by decide) (ht _ kw_326) (fun _ h9 => h9) rfl hin rfl (by decide +kernel) rfl rfl (Nat.le_of_ble_eq_true rfl) dX1_init_61 (fun H locs hP hD hS => ?_)
  have hP : va_P (dC, dI) vwCl [(h0, .inr (1, [.ref th, .int 0, .int 0, .int 0, .int 0, .int 0, .int 0, .int 0, .ref q1, .ref q3, .ref q5, .ref q7, .ref q9, .int 0, .ref q11, .ref q13])), (q1, .inl (k2, 12, .inl (fun _ => 0))), (q3, .inl (k4, 12, .inl (fun _ => 0))), (q5, .inl (k6, 3, .inl (fun _ => 0))), (q7, .inl (k8, 48, .inl (fun _ => 0))), (q9, .inl (k10, 12, .inl (fun _ => 0))), (q11, .inl (k12, 12, .inl (fun _ => 0))), (q13, .inl (k14, 32, .inl (fun _ => 0)))] H := hP
  have hD : va_D A [(h0, .inr (1, [.ref th, .int 0, .int 0, .int 0, .int 0, .int 0, .int 0, .int 0, .ref q1, .ref q3, .ref q5, .ref q7, .ref q9, .int 0, .ref q11, .ref q13])), (q1, .inl (k2, 12, .inl (fun _ => 0))), (q3, .inl (k4, 12, .inl (fun _ => 0))), (q5, .inl (k6, 3, .inl (fun _ => 0))), (q7, .inl (k8, 48, .inl (fun _ => 0))), (q9, .inl (k10, 12, .inl (fun _ => 0))), (q11, .inl (k12, 12, .inl (fun _ => 0))), (q13, .inl (k14, 32, .inl (fun _ => 0)))] := hD
  exact W.vret hx hb hr (fun t ht9 hW => ⟨⟨(), rfl, trivial, q1, q3, q5, q7, q9, q11, q13, k2, k4, k6, k8, k10, k12, k14, by rw [ht9]; exact hP, va_K.moved hW.alike hK, hD⟩, hS.F ht9⟩) hS.2.2 dX1_init_64
abbrev cX4_init : ByteArray := prog_6_method_1_code
def yX4_init : MethodName := ⟨RX4, "<init>", "(LSportsHouse$Season;LSportsHouse$Things;)V"⟩
theorem dX4_init_0 : decode cX4_init 0 = .ok (.aload_n 0, 1) := qd_c (by decide +kernel)
theorem dX4_init_1 : decode cX4_init 1 = .ok (.invokespecial 3, 3) := qd_c (by decide +kernel)
theorem kw_388 : Cond.methodLink RX4 3 objectInit ∈ lw_g := lwq_2 (dqc_m (dqc_m (dqc_m (dqc_m (dqa_m (dqa_m (List.mem_of_getElem? (i := 4) rfl))))))) rfl
theorem dX4_init_4 : decode cX4_init 4 = .ok (.aload_n 0, 1) := qd_c (by decide +kernel)
theorem dX4_init_5 : decode cX4_init 5 = .ok (.sipush 400, 3) := qd_c (by decide +kernel)
theorem dX4_init_8 : decode cX4_init 8 = .ok (.newarray .int, 2) := by decide +kernel
theorem dX4_init_10 : decode cX4_init 10 = .ok (.putfield 9, 3) := qd_c (by decide +kernel)
theorem kw_391 : Cond.fieldLink RX4 9 "SportsHouse$Referees" "toServe" "[I" ∈ lw_g := lwq_2 (dqc_m (dqc_m (dqc_m (dqc_m (dqa_m (dqa_m (List.mem_of_getElem? (i := 7) rfl))))))) rfl
theorem dX4_init_13 : decode cX4_init 13 = .ok (.aload_n 0, 1) := qd_c (by decide +kernel)
theorem dX4_init_14 : decode cX4_init 14 = .ok (.iconst 1, 1) := qd_c (by decide +kernel)
theorem dX4_init_15 : decode cX4_init 15 = .ok (.newarray .int, 2) := by decide +kernel
theorem dX4_init_17 : decode cX4_init 17 = .ok (.putfield 15, 3) := qd_c (by decide +kernel)
theorem kw_393 : Cond.fieldLink RX4 15 "SportsHouse$Referees" "best" "[I" ∈ lw_g := lwq_2 (dqc_m (dqc_m (dqc_m (dqc_m (dqa_m (dqa_m (dqa_m (List.mem_of_getElem? (i := 1) rfl)))))))) rfl
theorem dX4_init_20 : decode cX4_init 20 = .ok (.aload_n 0, 1) := qd_c (by decide +kernel)
theorem dX4_init_21 : decode cX4_init 21 = .ok (.aload_n 1, 1) := qd_c (by decide +kernel)
theorem dX4_init_22 : decode cX4_init 22 = .ok (.putfield 18, 3) := qd_c (by decide +kernel)
theorem kw_389 : Cond.fieldLink RX4 18 "SportsHouse$Referees" "season" "LSportsHouse$Season;" ∈ lw_g := lwq_2 (dqc_m (dqc_m (dqc_m (dqc_m (dqa_m (dqa_m (List.mem_of_getElem? (i := 5) rfl))))))) rfl
theorem dX4_init_25 : decode cX4_init 25 = .ok (.aload_n 0, 1) := qd_c (by decide +kernel)
theorem dX4_init_26 : decode cX4_init 26 = .ok (.aload_n 2, 1) := qd_c (by decide +kernel)
theorem dX4_init_27 : decode cX4_init 27 = .ok (.putfield 22, 3) := qd_c (by decide +kernel)
theorem kw_390 : Cond.fieldLink RX4 22 "SportsHouse$Referees" "things" "LSportsHouse$Things;" ∈ lw_g := lwq_2 (dqc_m (dqc_m (dqc_m (dqc_m (dqa_m (dqa_m (List.mem_of_getElem? (i := 6) rfl))))))) rfl
theorem dX4_init_30 : decode cX4_init 30 = .ok (.return_, 1) := qd_c (by decide +kernel)
set_option maxHeartbeats 4000000 in
set_option maxRecDepth 100000 in
theorem ct_X4_init (l : Launch) (dC : Nat → ClassId) (dI : Nat → Nat → Nat) (h0 : Nat) (se : Nat) (th : Nat) (sz : Nat)  : Met l yX4_init (.code yX4_init cX4_init 3 none :: lw_g) ({ frames := 1, cells := 2, slots := 401, locals := 60 }) (ro_P dC dI [(h0, .inr (4, [.null, .null, .null, .int 0, .null]))] [] sz [.ref h0, .ref se, .ref th]) (va_Qv (fun (_ : Unit) => True) (fun _ t => ∃ (q1 : Nat) (q3 : Nat) (k2 : ClassId) (k4 : ClassId), va_P (dC, dI) vwCl [(h0, .inr (4, [.ref se, .ref th, .ref q1, .int 0, .ref q3])), (q1, .inl (k2, 400, .inl (fun _ => 0))), (q3, .inl (k4, 1, .inl (fun _ => 0)))] t.heap ∧ va_K (dC, dI) vwCl [(k2, .int), (k4, .int)] t ∧ va_D (va_A [(h0, .inr (4, [.null, .null, .null, .int 0, .null]))] sz) [(h0, .inr (4, [.ref se, .ref th, .ref q1, .int 0, .ref q3])), (q1, .inl (k2, 400, .inl (fun _ => 0))), (q3, .inl (k4, 1, .inl (fun _ => 0)))]) (va_A [(h0, .inr (4, [.null, .null, .null, .int 0, .null]))] sz)) 2 401 (va_A [(h0, .inr (4, [.null, .null, .null, .int 0, .null]))] sz) := by
  refine ro_entry (by decide) (Nat.le_of_ble_eq_true rfl) ?_
  intro p e s m below meth c ls hx hb hr hlocks ht hown hin hml hsz hP hK hD hE hl
  subst hsz
  have hD := hD.self (sz := s.heap.size)
  generalize hAe : va_A [(h0, .inr (4, [.null, .null, .null, .int 0, .null]))] s.heap.size = A at hD ⊢
  have hA : ∀ q, s.heap.size ≤ q → A q := fun q h => by rw [← hAe]; exact Or.inr h
  have hS : va_S A s.heap s.heap [] := va_S.rf
  have hl : lv_has ls 3 [(0, .ref h0), (1, .ref se), (2, .ref th)] := hl
  have hown : s.vm.findClass RX4 = some m.cls := hown
  refine lv_aload_n hx hb dX4_init_0 rfl (lv_at hl 0 rfl) ?_
  refine W.objInit hx hb hown (ht _ kw_388) (ht _ kw_27) (ht _ kw_28) rfl (by rw [hml]; exact hl.1) rfl dX4_init_1 (Nat.le_of_ble_eq_true rfl) (Nat.le_of_ble_eq_true rfl) ?_
  refine W.eq (g2 := F0 m 4 ls []) rfl ?_
  refine lv_aload_n hx hb dX4_init_4 rfl (lv_at hl 0 rfl) ?_
  refine lv_sipush (v := 400) hx hb dX4_init_5 (by decide) ?_
  refine va_newa (atype := .int) (ty := .int) (a0 := (400, .inl (fun _ => 0))) hx hb (ht _ kw_72) rfl hK hP hD hS hA (fun _ => rfl) (by decide) (by decide) (Nat.le_of_ble_eq_true rfl) (Nat.le_of_ble_eq_true rfl) (Nat.le_of_ble_eq_true rfl) dX4_init_8 (fun q1 k2 H hK hP hD hS => ?_)
  have hP : va_P (dC, dI) vwCl [(h0, .inr (4, [.null, .null, .null, .int 0, .null])), (q1, .inl (k2, 400, .inl (fun _ => 0)))] H := hP
  have hD : va_D A [(h0, .inr (4, [.null, .null, .null, .int 0, .null])), (q1, .inl (k2, 400, .inl (fun _ => 0)))] := hD
  have hK : va_K (dC, dI) vwCl [(k2, .int)] s := hK
  refine W.widen (k := 1) (n := 400) (Nat.le_of_ble_eq_true rfl) (Nat.le_of_ble_eq_true rfl) ?_
  refine va_putF (D := (dC, dI)) (ci := 4) (v := .ref q1) (ty := .array .int) (C := RX4) (T := TX4) (N := 5) hx hb ht inX4 tyX4 tyX4_ok nmX4 hown hK hP hD hS 0 rfl rfl 2 (by decide) (ht _ kw_391) (fun _ h9 => h9) rfl hin rfl (by decide +kernel) rfl rfl (Nat.le_of_ble_eq_true rfl) dX4_init_10 (fun H locs hP hD hS => ?_)
  have hP : va_P (dC, dI) vwCl [(h0, .inr (4, [.null, .null, .ref q1, .int 0, .null])), (q1, .inl (k2, 400, .inl (fun _ => 0)))] H := hP
  have hD : va_D A [(h0, .inr (4, [.null, .null, .ref q1, .int 0, .null])), (q1, .inl (k2, 400, .inl (fun _ => 0)))] := hD
  refine lv_aload_n hx hb dX4_init_13 rfl (lv_at hl 0 rfl) ?_
  refine lv_iconst (v := 1) hx hb dX4_init_14 (by decide) ?_
  refine va_newa (atype := .int) (ty := .int) (a0 := (1, .inl (fun _ => 0))) hx hb (ht _ kw_72) rfl hK hP hD hS hA (fun _ => rfl) (by decide) (by decide) (Nat.le_of_ble_eq_true rfl) (Nat.le_of_ble_eq_true rfl) (Nat.le_of_ble_eq_true rfl) dX4_init_15 (fun q3 k4 H hK hP hD hS => ?_)
  have hP : va_P (dC, dI) vwCl [(h0, .inr (4, [.null, .null, .ref q1, .int 0, .null])), (q1, .inl (k2, 400, .inl (fun _ => 0))), (q3, .inl (k4, 1, .inl (fun _ => 0)))] H := hP
  have hD : va_D A [(h0, .inr (4, [.null, .null, .ref q1, .int 0, .null])), (q1, .inl (k2, 400, .inl (fun _ => 0))), (q3, .inl (k4, 1, .inl (fun _ => 0)))] := hD
  have hK : va_K (dC, dI) vwCl [(k2, .int), (k4, .int)] s := hK
  refine W.widen (k := 2) (n := 401) (Nat.le_of_ble_eq_true rfl) (Nat.le_of_ble_eq_true rfl) ?_
  refine va_put (D := (dC, dI)) (ci := 4) (v := .ref q3) (ty := .array .int) (C := RX4) (T := TX4) (N := 5) hx hb ht inX4 tyX4 tyX4_ok nmX4 hown hK hP hD hS 0 rfl rfl 4 (by decide) (ht _ kw_393) (fun _ h9 => h9) rfl (by decide +kernel) rfl rfl (Nat.le_of_ble_eq_true rfl) dX4_init_17 (fun H locs hP hD hS => ?_)
  have hP : va_P (dC, dI) vwCl [(h0, .inr (4, [.null, .null, .ref q1, .int 0, .ref q3])), (q1, .inl (k2, 400, .inl (fun _ => 0))), (q3, .inl (k4, 1, .inl (fun _ => 0)))] H := hP
  have hD : va_D A [(h0, .inr (4, [.null, .null, .ref q1, .int 0, .ref q3])), (q1, .inl (k2, 400, .inl (fun _ => 0))), (q3, .inl (k4, 1, .inl (fun _ => 0)))] := hD
  refine lv_aload_n hx hb dX4_init_20 rfl (lv_at hl 0 rfl) ?_
  refine lv_aload_n hx hb dX4_init_21 rfl (lv_at hl 1 rfl) ?_
  refine va_putF (D := (dC, dI)) (ci := 4) (v := .ref se) (ty := .object "SportsHouse$Season") (C := RX4) (T := TX4) (N := 5) hx hb ht inX4 tyX4 tyX4_ok nmX4 hown hK hP hD hS 0 rfl rfl 0 (by decide) (ht _ kw_389) (fun _ h9 => h9) rfl hin rfl (by decide +kernel) rfl rfl (Nat.le_of_ble_eq_true rfl) dX4_init_22 (fun H locs hP hD hS => ?_)
  have hP : va_P (dC, dI) vwCl [(h0, .inr (4, [.ref se, .null, .ref q1, .int 0, .ref q3])), (q1, .inl (k2, 400, .inl (fun _ => 0))), (q3, .inl (k4, 1, .inl (fun _ => 0)))] H := hP
  have hD : va_D A [(h0, .inr (4, [.ref se, .null, .ref q1, .int 0, .ref q3])), (q1, .inl (k2, 400, .inl (fun _ => 0))), (q3, .inl (k4, 1, .inl (fun _ => 0)))] := hD
  refine lv_aload_n hx hb dX4_init_25 rfl (lv_at hl 0 rfl) ?_
  refine lv_aload_n hx hb dX4_init_26 rfl (lv_at hl 2 rfl) ?_
  refine va_putF (D := (dC, dI)) (ci := 4) (v := .ref th) (ty := .object "SportsHouse$Things") (C := RX4) (T := TX4) (N := 5) hx hb ht inX4 tyX4 tyX4_ok nmX4 hown hK hP hD hS 0 rfl rfl 1 (by decide) (ht _ kw_390) (fun _ h9 => h9) rfl hin rfl (by decide +kernel) rfl rfl (Nat.le_of_ble_eq_true rfl) dX4_init_27 (fun H locs hP hD hS => ?_)
  have hP : va_P (dC, dI) vwCl [(h0, .inr (4, [.ref se, .ref th, .ref q1, .int 0, .ref q3])), (q1, .inl (k2, 400, .inl (fun _ => 0))), (q3, .inl (k4, 1, .inl (fun _ => 0)))] H := hP
  have hD : va_D A [(h0, .inr (4, [.ref se, .ref th, .ref q1, .int 0, .ref q3])), (q1, .inl (k2, 400, .inl (fun _ => 0))), (q3, .inl (k4, 1, .inl (fun _ => 0)))] := hD
  exact W.vret hx hb hr (fun t ht9 hW => ⟨⟨(), rfl, trivial, q1, q3, k2, k4, by rw [ht9]; exact hP, va_K.moved hW.alike hK, hD⟩, hS.F ht9⟩) hS.2.2 dX4_init_30

